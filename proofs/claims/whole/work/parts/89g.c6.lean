theorem cgive_eq {I : ex_Mem} {m x s nn b : Nat} : c_give I m x s nn b = c_g2 (c_ob I x b (c_rw x s nn)) (c_dat (c_ob I x b (c_rw x s nn)).2 b (82 + 2 * m) 0 nn) m x s nn b := by
  unfold c_give c_g1
  rfl
theorem cg2_fr {A D : Int32 × ex_Mem} {m x s nn b a k : Nat} (hx : x < 6) (h : a < 4 ∨ 44 ≤ a) : (c_g2 A D m x s nn b).2 a k = D.2 a k := by
  unfold c_g2
  rw [cfs_fr (by omega), crg_fr (by omega) (by omega) (by omega)]
theorem cgive_fr {I : ex_Mem} {m x s nn b a k : Nat} (hx : x < 6) (h : a < 4 ∨ 44 ≤ a) : (c_give I m x s nn b).2 a k = I a k := by
  rw [cgive_eq, cg2_fr hx h, cdat_fr (by omega), cob_fr (by omega) (by omega)]
theorem fs_b01 {rc : Int32} {S : ex_Mem} {t b : Nat} : ex_b01 (c_fs rc S t b).1 = true := by
  unfold c_fs
  split
  · rfl
  · split
    · exact bo_b01
    · rfl
theorem give_b01 {I : ex_Mem} {m x s nn b : Nat} : ex_b01 (c_give I m x s nn b).1 = true := by
  rw [cgive_eq]
  unfold c_g2
  exact fs_b01
theorem give_mon {I : ex_Mem} {m x s nn b : Nat} (h : monB I) : monB (c_give I m x s nn b).2 := by
  rw [cgive_eq]
  unfold c_g2
  exact fs_mon (rg_mon (dat_mon (ob_mon h) nn))
theorem ccopy_fr {S : ex_Mem} {a0 sp r dp nn a k : Nat} (h : a ≠ r) : ex_copy S a0 sp r dp nn a k = S a k := if_neg h
theorem ctkR_fr {sg dg : Int32} {S : ex_Mem} {m x s nn a k : Nat} (h : a ≠ 82 + 2 * m) : (c_tkR sg dg S m x s nn).2 a k = S a k := by
  unfold c_tkR
  split
  · rfl
  · split
    · rfl
    · exact ccopy_fr h
theorem tkR_b01 {sg dg : Int32} {S : ex_Mem} {m x s nn : Nat} : ex_b01 (c_tkR sg dg S m x s nn).1 = true := by
  unfold c_tkR
  split
  · rfl
  · split <;> rfl
theorem ctake_fr {I : ex_Mem} {m x s nn b a k : Nat} (hx : x < 6) (h : a < 4 ∨ 44 ≤ a) (h2 : a ≠ 82 + 2 * m) : (c_take I m x s nn b).2 a k = I a k := by
  rw [c_take_eq, ctkR_fr h2, cdg_fr (by omega), csg_fr (by omega), can_fr (by omega) (by omega)]
theorem take_b01 {I : ex_Mem} {m x s nn b : Nat} : ex_b01 (c_take I m x s nn b).1 = true := by
  rw [c_take_eq]
  exact tkR_b01
theorem take_mon {I : ex_Mem} {m x s nn b : Nat} (h : monB I) : monB (c_take I m x s nn b).2 := by
  rw [c_take_eq]
  exact monB_eq (dg_mon (sg_mon (an_mon h))) (ctkR_fr (by omega))
theorem cpsR_2 {sg fs : Int32} {S : ex_Mem} : (c_psR sg fs S).2 = S := rfl
theorem cpass_fr {I : ex_Mem} {x y s nn b a k : Nat} (hx : x < 6) (hy : y < 6) (h : a < 4 ∨ 44 ≤ a) : (c_pass I x y s nn b).2 a k = I a k := by
  rw [c_pass_eq, cpsR_2, cfs_fr (by omega), crg_fr (by omega) (by omega) (by omega), cdg_fr (by omega), csg_fr (by omega), can_fr (by omega) (by omega), cob_fr (by omega) (by omega)]
theorem psR_b01 {sg fs : Int32} {S : ex_Mem} : ex_b01 (c_psR sg fs S).1 = true := by
  unfold c_psR
  dsimp only
  split
  · rfl
  · split <;> rfl
theorem pass_b01 {I : ex_Mem} {x y s nn b : Nat} : ex_b01 (c_pass I x y s nn b).1 = true := by
  rw [c_pass_eq]
  exact psR_b01
theorem pass_mon {I : ex_Mem} {x y s nn b : Nat} (h : monB I) : monB (c_pass I x y s nn b).2 := by
  rw [c_pass_eq, cpsR_2]
  exact fs_mon (rg_mon (dg_mon (sg_mon (an_mon (ob_mon h)))))
theorem ctelAll_eq {I : ex_Mem} {m s nn b : Nat} : c_telAll I m s nn b = c_tell (c_dat (c_put I b (c_rw 31 s nn)).2 b (82 + 2 * m) 0 nn).2 (c_put I b (c_rw 31 s nn)).1 (c_rw 31 s nn) (c_dat (c_put I b (c_rw 31 s nn)).2 b (82 + 2 * m) 0 nn).1 s (82 + 2 * m) nn 6 := by
  unfold c_telAll c_ta0 c_ta1
  rfl
theorem ctelAll_fr {I : ex_Mem} {m s nn b a k : Nat} (h : a < 4 ∨ 44 ≤ a) : c_telAll I m s nn b a k = I a k := by
  rw [ctelAll_eq, ctell_fr (by omega) 6 (Nat.le_refl 6), cdat_fr (by omega), cput_fr (by omega)]
theorem telAll_mon {I : ex_Mem} {m s nn b : Nat} (h : monB I) : monB (c_telAll I m s nn b) := by
  rw [ctelAll_eq]
  exact monB_eq (dat_mon (put_mon h) nn) (ctell_fr (by omega) 6 (Nat.le_refl 6))
theorem cmm1_fr {A : Int32 × ex_Mem} {m t a k : Nat} {cd : Int32} (h : a ≠ 82 + 2 * m) : (c_mm1 A m t cd).2 a k = A.2 a k := by
  unfold c_mm1
  dsimp only
  split
  · rfl
  · split
    · exact wI_fr h
    · rfl
theorem cmm_fr {I : ex_Mem} {m t b a k : Nat} {cd : Int32} (ht : t < 6) (h : a < 4 ∨ 44 ≤ a) (h2 : a ≠ 82 + 2 * m) : (c_mm I m t cd b).2 a k = I a k := by
  unfold c_mm
  rw [cmm1_fr h2, cmd_fr (by omega) (by omega) (by omega)]
theorem mm_b01 {I : ex_Mem} {m t b : Nat} {cd : Int32} : ex_b01 (c_mm I m t cd b).1 = true := by
  unfold c_mm c_mm1
  exact md_b01
theorem mm_mon {I : ex_Mem} {m t b : Nat} {cd : Int32} (h : monB I) : monB (c_mm I m t cd b).2 := by
  unfold c_mm
  exact monB_eq (md_mon h) (cmm1_fr (by omega))
/-- message m of the system's table is as it may be -/
def vMc (I : ex_Mem) (m : Nat) : Prop :=
  I (81 + 2 * m) 0 = nI (tk I (81 + 2 * m) 0) ∧ tk I (81 + 2 * m) 0 ≤ 4 ∧ (tk I (81 + 2 * m) 0 ≠ 3 → I (81 + 2 * m) 1 = nI (tk I (81 + 2 * m) 1) ∧ tk I (81 + 2 * m) 1 < 6) ∧ (tk I (81 + 2 * m) 0 = 2 → I (81 + 2 * m) 2 = nI (tk I (81 + 2 * m) 2) ∧ tk I (81 + 2 * m) 2 < 6) ∧
  (tk I (81 + 2 * m) 0 ≠ 4 → I (81 + 2 * m) 3 = nI (tk I (81 + 2 * m) 3 - 1 + 1) ∧ tk I (81 + 2 * m) 3 - 1 < 3 ∧ I (81 + 2 * m) 4 = nI (tk I (81 + 2 * m) 4) ∧ 1 ≤ tk I (81 + 2 * m) 4 ∧ tk I (81 + 2 * m) 4 ≤ 4)
theorem vMc_eq {I I' : ex_Mem} {m : Nat} (h : vMc I m) (e : ∀ k, I' (81 + 2 * m) k = I (81 + 2 * m) k) : vMc I' m := by
  unfold vMc tk at *
  simp only [e]
  exact h
def c_attempt (I : ex_Mem) (m b : Nat) : Int32 × ex_Mem :=
  if tk I (81 + 2 * m) 0 = 0 then c_give I m (tk I (81 + 2 * m) 1) (tk I (81 + 2 * m) 3 - 1) (tk I (81 + 2 * m) 4) b
  else if tk I (81 + 2 * m) 0 = 3 then (nI 1, c_telAll I m (tk I (81 + 2 * m) 3 - 1) (tk I (81 + 2 * m) 4) b)
  else if tk I (81 + 2 * m) 0 = 4 then c_mm I m (tk I (81 + 2 * m) 1) (I (81 + 2 * m) 4) b
  else if tk I (81 + 2 * m) 0 = 2 then c_pass I (tk I (81 + 2 * m) 1) (tk I (81 + 2 * m) 2) (tk I (81 + 2 * m) 3 - 1) (tk I (81 + 2 * m) 4) b
  else c_take I m (tk I (81 + 2 * m) 1) (tk I (81 + 2 * m) 3 - 1) (tk I (81 + 2 * m) 4) b
theorem catt_fr {I : ex_Mem} {m b a k : Nat} (hv : vMc I m) (h : a < 4 ∨ 44 ≤ a) (h2 : a ≠ 82 + 2 * m) : (c_attempt I m b).2 a k = I a k := by
  obtain ⟨h0, h04, hx, hy, hs⟩ := hv
  unfold c_attempt
  split
  · rename_i q; exact cgive_fr (hx (by omega)).2 h
  · split
    · exact ctelAll_fr h
    · split
      · rename_i q; exact cmm_fr (hx (by omega)).2 h h2
      · split
        · rename_i q; exact cpass_fr (hx (by omega)).2 (hy q).2 h
        · rename_i q q2; exact ctake_fr (hx (by omega)).2 h h2
theorem catt_mon {I : ex_Mem} {m b : Nat} (h : monB I) : monB (c_attempt I m b).2 := by
  unfold c_attempt
  split
  · exact give_mon h
  · split
    · exact telAll_mon h
    · split
      · exact mm_mon h
      · split
        · exact pass_mon h
        · exact take_mon h
theorem catt_v {I : ex_Mem} {m b m' : Nat} (hv : vMc I m) (hv' : vMc I m') : vMc (c_attempt I m b).2 m' := vMc_eq hv' (fun k => catt_fr hv (by omega) (by omega))
theorem c_gw0 {L : Nat} {xs : Nat → Int32} {D n : Nat} {I J : ex_Mem} {m b : Nat} (hb : b < 2) (h8 : n ≤ 8) (hm : m < n) (hmo : monB I) {x s nn : Nat} (hx : x < 6) (hs : s < 3) (h1 : 1 ≤ nn) (h4 : nn ≤ 4) (hxx : I (81 + 2 * m) 1 = nI x) (hsb : I (81 + 2 * m) 3 = nI (s + 1)) (hn : I (81 + 2 * m) 4 = nI nn) (hk : I (81 + 2 * m) 0 = nI 0) : ri L xs (D + 4) 35 [.ref 1, .ref (81 + 2 * m), .int (nI b)] (mkH n I J) ((c_give I m x s nn b).1) (mkH n (c_give I m x s nn b).2 J) := by
  show xx cb_G _ _ _ 35 0 [.ref 1, .ref (81 + 2 * m), .int (nI b)] [] _ _
  refine xi_aload_n (pc' := 1) rfl rfl rfl ?_
  refine xc_getiv (v := nI 0) (pc' := 4) rfl rfl (by decide) (kd_M0 (Nat.lt_of_lt_of_le hm h8)) (by omega) (by omega) (by decide) (by decide) (hk) rfl ?_
  refine xi_switch (off := .ofNat 32) (pc' := 36) rfl (by decide) (by decide) rfl ?_
  refine xi_aload_n (pc' := 37) rfl rfl rfl ?_
  refine xi_aload_n (pc' := 38) rfl rfl rfl ?_
  refine xi_iload_n (pc' := 39) rfl rfl rfl ?_
  refine xx_callVi (pc' := 42) rfl rfl (by decide) rfl rfl (by show _ < 81 + 2 * _; omega) (Nat.le_of_ble_eq_true rfl) rfl rfl (c_give_ok hb h8 hm hmo hx hs h1 h4 hxx hsb hn) ?_
  refine xx_zreturn rfl rfl (give_b01) ?_
  exact ⟨rfl, rfl⟩
theorem c_gw1 {L : Nat} {xs : Nat → Int32} {D n : Nat} {I J : ex_Mem} {m b : Nat} (hb : b < 2) (h8 : n ≤ 8) (hm : m < n) (hmo : monB I) {x s nn : Nat} (hx : x < 6) (hs : s < 3) (h1 : 1 ≤ nn) (h4 : nn ≤ 4) (hxx : I (81 + 2 * m) 1 = nI x) (hsb : I (81 + 2 * m) 3 = nI (s + 1)) (hn : I (81 + 2 * m) 4 = nI nn) (hk : I (81 + 2 * m) 0 = nI 1) : ri L xs (D + 4) 35 [.ref 1, .ref (81 + 2 * m), .int (nI b)] (mkH n I J) ((c_take I m x s nn b).1) (mkH n (c_take I m x s nn b).2 J) := by
  show xx cb_G _ _ _ 35 0 [.ref 1, .ref (81 + 2 * m), .int (nI b)] [] _ _
  refine xi_aload_n (pc' := 1) rfl rfl rfl ?_
  refine xc_getiv (v := nI 1) (pc' := 4) rfl rfl (by decide) (kd_M0 (Nat.lt_of_lt_of_le hm h8)) (by omega) (by omega) (by decide) (by decide) (hk) rfl ?_
  refine xi_switch (off := .ofNat 39) (pc' := 43) rfl (by decide) (by decide) rfl ?_
  refine xi_aload_n (pc' := 44) rfl rfl rfl ?_
  refine xi_aload_n (pc' := 45) rfl rfl rfl ?_
  refine xi_iload_n (pc' := 46) rfl rfl rfl ?_
  refine xx_callVi (pc' := 49) rfl rfl (by decide) rfl rfl (by show _ < 81 + 2 * _; omega) (Nat.le_of_ble_eq_true rfl) rfl rfl (c_take_ok hb h8 hm hmo hx hs h1 h4 hxx hsb hn) ?_
  refine xx_zreturn rfl rfl (take_b01) ?_
  exact ⟨rfl, rfl⟩
theorem c_gw2 {L : Nat} {xs : Nat → Int32} {D n : Nat} {I J : ex_Mem} {m b : Nat} (hb : b < 2) (h8 : n ≤ 8) (hm : m < n) (hmo : monB I) {x s nn : Nat} (hx : x < 6) (hs : s < 3) (h1 : 1 ≤ nn) (h4 : nn ≤ 4) (hxx : I (81 + 2 * m) 1 = nI x) (hsb : I (81 + 2 * m) 3 = nI (s + 1)) (hn : I (81 + 2 * m) 4 = nI nn) {y : Nat} (hy : y < 6) (hyy : I (81 + 2 * m) 2 = nI y) (hk : I (81 + 2 * m) 0 = nI 2) : ri L xs (D + 4) 35 [.ref 1, .ref (81 + 2 * m), .int (nI b)] (mkH n I J) ((c_pass I x y s nn b).1) (mkH n (c_pass I x y s nn b).2 J) := by
  show xx cb_G _ _ _ 35 0 [.ref 1, .ref (81 + 2 * m), .int (nI b)] [] _ _
  refine xi_aload_n (pc' := 1) rfl rfl rfl ?_
  refine xc_getiv (v := nI 2) (pc' := 4) rfl rfl (by decide) (kd_M0 (Nat.lt_of_lt_of_le hm h8)) (by omega) (by omega) (by decide) (by decide) (hk) rfl ?_
  refine xi_switch (off := .ofNat 46) (pc' := 50) rfl (by decide) (by decide) rfl ?_
  refine xi_aload_n (pc' := 51) rfl rfl rfl ?_
  refine xi_aload_n (pc' := 52) rfl rfl rfl ?_
  refine xi_iload_n (pc' := 53) rfl rfl rfl ?_
  refine xx_callVi (pc' := 56) rfl rfl (by decide) rfl rfl (by show _ < 81 + 2 * _; omega) (Nat.le_of_ble_eq_true rfl) rfl rfl (c_pass_ok hb h8 hm hmo hx hs h1 h4 hxx hsb hn hy hyy) ?_
  refine xx_zreturn rfl rfl (pass_b01) ?_
  exact ⟨rfl, rfl⟩
theorem c_gw3 {L : Nat} {xs : Nat → Int32} {D n : Nat} {I J : ex_Mem} {m b : Nat} (hb : b < 2) (h8 : n ≤ 8) (hm : m < n) (hmo : monB I) {s nn : Nat} (hs : s < 3) (h1 : 1 ≤ nn) (h4 : nn ≤ 4) (hsb : I (81 + 2 * m) 3 = nI (s + 1)) (hn : I (81 + 2 * m) 4 = nI nn) (hk : I (81 + 2 * m) 0 = nI 3) : ri L xs (D + 4) 35 [.ref 1, .ref (81 + 2 * m), .int (nI b)] (mkH n I J) (nI 1) (mkH n (c_telAll I m s nn b) J) := by
  show xx cb_G _ _ _ 35 0 [.ref 1, .ref (81 + 2 * m), .int (nI b)] [] _ _
  refine xi_aload_n (pc' := 1) rfl rfl rfl ?_
  refine xc_getiv (v := nI 3) (pc' := 4) rfl rfl (by decide) (kd_M0 (Nat.lt_of_lt_of_le hm h8)) (by omega) (by omega) (by decide) (by decide) (hk) rfl ?_
  refine xi_switch (off := .ofNat 53) (pc' := 57) rfl (by decide) (by decide) rfl ?_
  refine xi_aload_n (pc' := 58) rfl rfl rfl ?_
  refine xi_aload_n (pc' := 59) rfl rfl rfl ?_
  refine xi_iload_n (pc' := 60) rfl rfl rfl ?_
  refine xx_callVv (pc' := 63) rfl rfl (by decide) rfl rfl (by show _ < 81 + 2 * _; omega) (Nat.le_of_ble_eq_true rfl) rfl rfl (c_tellAll hb h8 hm hmo hs hsb hn h1 h4) ?_
  refine xi_iconst (pc' := 64) rfl rfl ?_
  refine xx_zreturn rfl rfl (by first | rfl | assumption | exact b01_bI | simp [ex_b01, bI]) ?_
  exact ⟨rfl, rfl⟩
theorem c_gw4 {L : Nat} {xs : Nat → Int32} {D n : Nat} {I J : ex_Mem} {m b : Nat} (hb : b < 2) (h8 : n ≤ 8) (hm : m < n) (hmo : monB I) {x : Nat} (hx : x < 6) (hxx : I (81 + 2 * m) 1 = nI x) (hk : I (81 + 2 * m) 0 = nI 4) : ri L xs (D + 6) 35 [.ref 1, .ref (81 + 2 * m), .int (nI b)] (mkH n I J) ((c_mm I m x (I (81 + 2 * m) 4) b).1) (mkH n (c_mm I m x (I (81 + 2 * m) 4) b).2 J) := by
  show xx cb_G _ _ _ 35 0 [.ref 1, .ref (81 + 2 * m), .int (nI b)] [] _ _
  refine xi_aload_n (pc' := 1) rfl rfl rfl ?_
  refine xc_getiv (v := nI 4) (pc' := 4) rfl rfl (by decide) (kd_M0 (Nat.lt_of_lt_of_le hm h8)) (by omega) (by omega) (by decide) (by decide) (hk) rfl ?_
  refine xi_switchD (pc' := 65) rfl (by decide) rfl ?_
  refine xi_aload_n (pc' := 66) rfl rfl rfl ?_
  refine xi_aload_n (pc' := 67) rfl rfl rfl ?_
  refine xi_iload_n (pc' := 68) rfl rfl rfl ?_
  refine xx_callVi (pc' := 71) rfl rfl (by decide) rfl rfl (by show _ < 81 + 2 * _; omega) (Nat.le_of_ble_eq_true rfl) rfl rfl (c_modeMsg hb h8 hm hmo hx hxx rfl) ?_
  refine xx_zreturn rfl rfl (mm_b01) ?_
  exact ⟨rfl, rfl⟩
theorem c_goesWell {L : Nat} {xs : Nat → Int32} {D n : Nat} {I J : ex_Mem} {m b : Nat} (hb : b < 2) (h8 : n ≤ 8) (hm : m < n) (hmo : monB I) (hv : vMc I m) : ri L xs (D + 6) 35 [.ref 1, .ref (81 + 2 * m), .int (nI b)] (mkH n I J) (c_attempt I m b).1 (mkH n (c_attempt I m b).2 J) := by
  obtain ⟨h0, h04, hx, hy, hs⟩ := hv
  unfold c_attempt
  split
  · rename_i q
    have hx := hx (by omega)
    have hs := hs (by omega)
    exact c_gw0 (D := D + 2) hb h8 hm hmo hx.2 hs.2.1 hs.2.2.2.1 hs.2.2.2.2 hx.1 hs.1 hs.2.2.1 (by rw [q] at h0; exact h0)
  · split
    · rename_i q
      have hs := hs (by omega)
      exact c_gw3 (D := D + 2) hb h8 hm hmo hs.2.1 hs.2.2.2.1 hs.2.2.2.2 hs.1 hs.2.2.1 (by rw [q] at h0; exact h0)
    · split
      · rename_i q
        have hx := hx (by omega)
        exact c_gw4 (D := D) hb h8 hm hmo hx.2 hx.1 (by rw [q] at h0; exact h0)
      · split
        · rename_i q
          have hy := hy q
          have hx := hx (by omega)
          have hs := hs (by omega)
          exact c_gw2 (D := D + 2) hb h8 hm hmo hx.2 hs.2.1 hs.2.2.2.1 hs.2.2.2.2 hx.1 hs.1 hs.2.2.1 hy.2 hy.1 (by rw [q] at h0; exact h0)
        · rename_i q0 q3 q4 q2
          have e : tk I (81 + 2 * m) 0 = 1 := by omega
          have hx := hx (by omega)
          have hs := hs (by omega)
          exact c_gw1 (D := D + 2) hb h8 hm hmo hx.2 hs.2.1 hs.2.2.2.1 hs.2.2.2.2 hx.1 hs.1 hs.2.2.1 (by rw [e] at h0; exact h0)
def c_d3 (A : Int32 × ex_Mem) (bb : Nat) : Int32 × ex_Mem := if A.1 = 0 then (nI 4, A.2) else (nI 3, ex_wI A.2 1 2 (nI (1 - bb)))
def c_d2 (A : Int32 × ex_Mem) (m bb : Nat) : Int32 × ex_Mem := if A.1 = 0 then c_d3 (c_attempt A.2 m (1 - bb)) bb else (nI 2, A.2)
def c_d1 (A : Int32 × ex_Mem) (m bb : Nat) : Int32 × ex_Mem := if A.1 = 0 then c_d2 (c_attempt A.2 m bb) m bb else (nI 1, A.2)
def c_does (I : ex_Mem) (m bb : Nat) : Int32 × ex_Mem := c_d1 (c_attempt I m bb) m bb
theorem c_outcome {L : Nat} {xs : Nat → Int32} {D n : Nat} {I J : ex_Mem} {m b : Nat} (hb : b < 2) (h8 : n ≤ 8) (hm : m < n) (hmo : monB I) (hv : vMc I m) (hbu : I 1 2 = nI b) : ri L xs (D + 7) 34 [.ref 1, .ref (81 + 2 * m)] (mkH n I J) (c_does I m b).1 (mkH n (c_does I m b).2 J) := by
  have v1 := catt_v (b := b) hv hv
  have v2 := catt_v (b := b) v1 v1
  have e1 : (c_attempt I m b).2 1 2 = nI b := (catt_fr hv (by omega) (by omega)).trans hbu
  have e2 : (c_attempt (c_attempt I m b).2 m b).2 1 2 = nI b := (catt_fr v1 (by omega) (by omega)).trans e1
  show xx cb_G _ _ _ 34 0 [.ref 1, .ref (81 + 2 * m), ex_no] [] _ _
  refine xi_aload_n (pc' := 1) rfl rfl rfl ?_
  refine xi_aload_n (pc' := 2) rfl rfl rfl ?_
  refine xi_aload_n (pc' := 3) rfl rfl rfl ?_
  refine xc_getiv (v := nI (b)) (pc' := 6) rfl rfl (by decide) rfl (by decide) (by omega) (by decide) (by decide) (hbu) rfl ?_
  refine xx_callVi (pc' := 9) rfl rfl (by decide) rfl rfl (by show _ < 81 + 2 * _; omega) (Nat.le_of_ble_eq_true rfl) rfl rfl (c_goesWell hb h8 hm hmo hv) ?_
  refine xx_if (pc' := 12) (tg := 14) rfl rfl rfl (fun q9 => ?_) (fun q9 => ?_)
  · refine xi_aload_n (pc' := 15) rfl rfl rfl ?_
    refine xi_aload_n (pc' := 16) rfl rfl rfl ?_
    refine xi_aload_n (pc' := 17) rfl rfl rfl ?_
    refine xc_getiv (v := nI (b)) (pc' := 20) rfl rfl (by decide) rfl (by decide) (by omega) (by decide) (by decide) (e1) rfl ?_
    refine xx_callVi (pc' := 23) rfl rfl (by decide) rfl rfl (by show _ < 81 + 2 * _; omega) (Nat.le_of_ble_eq_true rfl) rfl rfl (c_goesWell hb h8 hm (catt_mon hmo) v1) ?_
    refine xx_if (pc' := 26) (tg := 28) rfl rfl rfl (fun q23 => ?_) (fun q23 => ?_)
    · refine xi_iconst (pc' := 29) rfl rfl ?_
      refine xi_aload_n (pc' := 30) rfl rfl rfl ?_
      refine xc_getiv (v := nI (b)) (pc' := 33) rfl rfl (by decide) rfl (by decide) (by omega) (by decide) (by decide) (e2) rfl ?_
      refine xi_isub (pc' := 34) rfl rfl ?_
      refine xx_topi (y := nI (1 - b)) (ix_1m hb) ?_
      refine xi_istore_n (pc' := 35) rfl (st1_2 rfl) rfl ?_
      refine xi_aload_n (pc' := 36) rfl rfl rfl ?_
      refine xi_aload_n (pc' := 37) rfl rfl rfl ?_
      refine xi_iload_n (pc' := 38) rfl rfl rfl ?_
      refine xx_callVi (pc' := 41) rfl rfl (by decide) rfl rfl (by show _ < 81 + 2 * _; omega) (Nat.le_of_ble_eq_true rfl) rfl rfl (c_goesWell (show 1 - b < 2 by omega) h8 hm (catt_mon (catt_mon hmo)) v2) ?_
      refine xx_if (pc' := 44) (tg := 51) rfl rfl rfl (fun q41 => ?_) (fun q41 => ?_)
      · refine xi_iconst (pc' := 52) rfl rfl ?_
        refine xx_ireturn rfl rfl ?_
        simp only [ex_P, Classical.not_not, ↓reduceIte, Nat.add_zero, or_true, true_or, not_true_eq_false, not_false_eq_true, or_false, false_or, wI_get, false_and, true_and, and_true, and_false, and_self, Nat.reduceEqDiff, Nat.succ_ne_zero, reduceCtorEq, nI_lit, nI_lit0, Nat.reduceLT, eq_self, Nat.zero_add, mn_lit, mn_lit', mn_0] at *
        first | (simp only [c_does, c_d1, c_d2, c_d3, *, ↓reduceIte, Nat.add_zero, or_true, true_or, not_true_eq_false, not_false_eq_true, or_false, false_or, wI_get, false_and, true_and, and_true, and_false, and_self, Nat.reduceEqDiff, Nat.succ_ne_zero, reduceCtorEq, nI_lit, nI_lit0, Nat.reduceLT, eq_self, Nat.zero_add, mn_lit, mn_lit', mn_0]; done) | (exfalso; simp_all only [↓reduceIte, Nat.add_zero, or_true, true_or, not_true_eq_false, not_false_eq_true, or_false, false_or, wI_get, false_and, true_and, and_true, and_false, and_self, Nat.reduceEqDiff, Nat.succ_ne_zero, reduceCtorEq, nI_lit, nI_lit0, Nat.reduceLT, eq_self, Nat.zero_add, mn_lit, mn_lit', mn_0]; done)
      · refine xi_aload_n (pc' := 45) rfl rfl rfl ?_
        refine xi_iload_n (pc' := 46) rfl rfl rfl ?_
        refine xc_puti (pc' := 49) rfl rfl (by decide) rfl (by decide) (by omega) (by decide) (Or.inl rfl) rfl ?_
        refine xi_iconst (pc' := 50) rfl rfl ?_
        refine xx_ireturn rfl rfl ?_
        simp only [ex_P, Classical.not_not, ↓reduceIte, Nat.add_zero, or_true, true_or, not_true_eq_false, not_false_eq_true, or_false, false_or, wI_get, false_and, true_and, and_true, and_false, and_self, Nat.reduceEqDiff, Nat.succ_ne_zero, reduceCtorEq, nI_lit, nI_lit0, Nat.reduceLT, eq_self, Nat.zero_add, mn_lit, mn_lit', mn_0] at *
        first | (simp only [c_does, c_d1, c_d2, c_d3, *, ↓reduceIte, Nat.add_zero, or_true, true_or, not_true_eq_false, not_false_eq_true, or_false, false_or, wI_get, false_and, true_and, and_true, and_false, and_self, Nat.reduceEqDiff, Nat.succ_ne_zero, reduceCtorEq, nI_lit, nI_lit0, Nat.reduceLT, eq_self, Nat.zero_add, mn_lit, mn_lit', mn_0]; done) | (exfalso; simp_all only [↓reduceIte, Nat.add_zero, or_true, true_or, not_true_eq_false, not_false_eq_true, or_false, false_or, wI_get, false_and, true_and, and_true, and_false, and_self, Nat.reduceEqDiff, Nat.succ_ne_zero, reduceCtorEq, nI_lit, nI_lit0, Nat.reduceLT, eq_self, Nat.zero_add, mn_lit, mn_lit', mn_0]; done)
    · refine xi_iconst (pc' := 27) rfl rfl ?_
      refine xx_ireturn rfl rfl ?_
      simp only [ex_P, Classical.not_not, ↓reduceIte, Nat.add_zero, or_true, true_or, not_true_eq_false, not_false_eq_true, or_false, false_or, wI_get, false_and, true_and, and_true, and_false, and_self, Nat.reduceEqDiff, Nat.succ_ne_zero, reduceCtorEq, nI_lit, nI_lit0, Nat.reduceLT, eq_self, Nat.zero_add, mn_lit, mn_lit', mn_0] at *
      first | (simp only [c_does, c_d1, c_d2, c_d3, *, ↓reduceIte, Nat.add_zero, or_true, true_or, not_true_eq_false, not_false_eq_true, or_false, false_or, wI_get, false_and, true_and, and_true, and_false, and_self, Nat.reduceEqDiff, Nat.succ_ne_zero, reduceCtorEq, nI_lit, nI_lit0, Nat.reduceLT, eq_self, Nat.zero_add, mn_lit, mn_lit', mn_0]; done) | (exfalso; simp_all only [↓reduceIte, Nat.add_zero, or_true, true_or, not_true_eq_false, not_false_eq_true, or_false, false_or, wI_get, false_and, true_and, and_true, and_false, and_self, Nat.reduceEqDiff, Nat.succ_ne_zero, reduceCtorEq, nI_lit, nI_lit0, Nat.reduceLT, eq_self, Nat.zero_add, mn_lit, mn_lit', mn_0]; done)
  · refine xi_iconst (pc' := 13) rfl rfl ?_
    refine xx_ireturn rfl rfl ?_
    simp only [ex_P, Classical.not_not, ↓reduceIte, Nat.add_zero, or_true, true_or, not_true_eq_false, not_false_eq_true, or_false, false_or, wI_get, false_and, true_and, and_true, and_false, and_self, Nat.reduceEqDiff, Nat.succ_ne_zero, reduceCtorEq, nI_lit, nI_lit0, Nat.reduceLT, eq_self, Nat.zero_add, mn_lit, mn_lit', mn_0] at *
    first | (simp only [c_does, c_d1, c_d2, c_d3, *, ↓reduceIte, Nat.add_zero, or_true, true_or, not_true_eq_false, not_false_eq_true, or_false, false_or, wI_get, false_and, true_and, and_true, and_false, and_self, Nat.reduceEqDiff, Nat.succ_ne_zero, reduceCtorEq, nI_lit, nI_lit0, Nat.reduceLT, eq_self, Nat.zero_add, mn_lit, mn_lit', mn_0]; done) | (exfalso; simp_all only [↓reduceIte, Nat.add_zero, or_true, true_or, not_true_eq_false, not_false_eq_true, or_false, false_or, wI_get, false_and, true_and, and_true, and_false, and_self, Nat.reduceEqDiff, Nat.succ_ne_zero, reduceCtorEq, nI_lit, nI_lit0, Nat.reduceLT, eq_self, Nat.zero_add, mn_lit, mn_lit', mn_0]; done)
