/-- a number of the table -/
def tk (J : ex_Mem) (a m : Nat) : Nat := (J a m).toNatClampNeg
def isCd (c : Nat) : Prop := c = 1 ∨ c = 2 ∨ c = 4 ∨ c = 5 ∨ c = 8 ∨ c = 18
/-- message m of the table is as it may be -/
def vMsg (J : ex_Mem) (m : Nat) : Prop :=
  J 69 m = nI (tk J 69 m) ∧ tk J 69 m ≤ 4 ∧ (tk J 69 m ≠ 3 → J 70 m = nI (tk J 70 m) ∧ tk J 70 m < 6) ∧ (tk J 69 m = 2 → J 71 m = nI (tk J 71 m) ∧ tk J 71 m < 6 ∧ tk J 70 m ≠ tk J 71 m) ∧
  (tk J 69 m ≠ 4 → J 72 m = nI (tk J 72 m - 1 + 1) ∧ tk J 72 m - 1 < 3 ∧ J 73 m = nI (tk J 73 m) ∧ 1 ≤ tk J 73 m ∧ tk J 73 m ≤ 4) ∧ (tk J 69 m = 4 → J 73 m = nI (tk J 73 m) ∧ isCd (tk J 73 m))
def r_j0 (J : ex_Mem) : ex_Mem := ex_wI J 52 32 (nI 0)
def r_attempt (J : ex_Mem) (m b : Nat) : Int32 × ex_Mem :=
  if tk J 69 m = 0 then r_give (r_j0 J) m (tk J 70 m) (tk J 72 m - 1) (tk J 73 m) b
  else if tk J 69 m = 3 then (nI 1, r_telAll (r_j0 J) m (tk J 72 m - 1) (tk J 73 m) b)
  else if tk J 69 m = 4 then r_commands (r_j0 J) m (tk J 70 m) (tk J 73 m) b
  else if tk J 69 m = 2 then r_pass (r_j0 J) (tk J 70 m) (tk J 71 m) (tk J 72 m - 1) (tk J 73 m) b
  else r_take (r_j0 J) m (tk J 70 m) (tk J 72 m - 1) (tk J 73 m) b
theorem j0_hw {J : ex_Mem} {N : Nat} (hh : hwB N J) : hwB N (r_j0 J) := hwB_w hh (by omega)
theorem j0_gd {J : ex_Mem} : gdB 0 (r_j0 J) := by
  have e : r_j0 J 52 32 = nI 0 := rfl
  have e2 := gdOf_of e (by decide)
  exact ⟨by rw [e2]; exact e, by rw [e2]; exact Nat.le_refl 0⟩
theorem j0_fr {J : ex_Mem} {a k : Nat} (h : a ≠ 52) : r_j0 J a k = J a k := wI_fr h
theorem bool_give {J : ex_Mem} {m x s nn b : Nat} : ex_b01 (r_give J m x s nn b).1 = true := by
  unfold r_give
  split
  · exact b01_0
  · split
    · exact b01_0
    · dsimp only; split <;> first | exact b01_0 | exact b01_1
theorem bool_pass {J : ex_Mem} {x y s nn b : Nat} : ex_b01 (r_pass J x y s nn b).1 = true := by
  unfold r_pass
  dsimp only
  split
  · exact b01_0
  · split <;> first | exact b01_0 | exact b01_1
theorem bool_cmds {J : ex_Mem} {m t cd b : Nat} : ex_b01 (r_commands J m t cd b).1 = true := by
  unfold r_commands
  split
  · exact b01_0
  · split
    · split <;> first | exact b01_0 | exact b01_1
    · dsimp only; split <;> first | exact b01_0 | exact b01_1
theorem cmds_0 {J : ex_Mem} {m t cd b : Nat} (h : cd ≠ 18) : r_commands J m t cd b = r_commands J 0 t cd b := by
  unfold r_commands
  rw [if_neg h, if_neg h]
theorem r_commands_ok {L : Nat} {xs : Nat → Int32} {D n : Nat} {I J : ex_Mem} {m t cd b N : Nat} (hm : m < 8) (ht : t < 6) (hb : b < 2) (hc : isCd cd) (hh : hwB N J) (hN : N + 3 < 2 ^ 31) : ri L xs (D + 3) 109 [.ref 52, .int (nI m), .int (nI t), .int (nI cd), .int (nI b)] (mkH n I J) (r_commands J m t cd b).1 (mkH n I (r_commands J m t cd b).2) := by
  rcases hc with rfl | rfl | rfl | rfl | rfl | rfl
  · rw [cmds_0 (by decide)]; exact r_commands_1 ht hb hh hN
  · rw [cmds_0 (by decide)]; exact r_commands_2 ht hb hh hN
  · rw [cmds_0 (by decide)]; exact r_commands_4 ht hb hh hN
  · rw [cmds_0 (by decide)]; exact r_commands_5 ht hb hh hN
  · rw [cmds_0 (by decide)]; exact r_commands_8 ht hb hh hN
  · exact r_commands_18 hm ht hb hh hN
theorem r_attempt_ok {L : Nat} {xs : Nat → Int32} {D n : Nat} {I J : ex_Mem} {m b N : Nat} (hm : m < 8) (hb : b < 2) (hv : vMsg J m) (hh : hwB N J) (hN : N + 12 < 2 ^ 31) : ri L xs (D + 5) 118 [.ref 52, .int (nI m), .int (nI b)] (mkH n I J) (r_attempt J m b).1 (mkH n I (r_attempt J m b).2) := by
  obtain ⟨k1, k2, k3, k4, k5, k6⟩ := hv
  rcases (by omega : tk J 69 m = 0 ∨ tk J 69 m = 3 ∨ tk J 69 m = 4 ∨ tk J 69 m = 2 ∨ tk J 69 m = 1) with hq | hq | hq | hq | hq
  · have e : r_attempt J m b = r_give (r_j0 J) m (tk J 70 m) (tk J 72 m - 1) (tk J 73 m) b := by unfold r_attempt; rw [if_pos hq]
    rw [e]
    have hkd : J 69 m = nI 0 := by rw [k1, hq]
    obtain ⟨x1, x2⟩ := k3 (by omega)
    obtain ⟨s1, s2, n1, n2, n3⟩ := k5 (by omega)
    show xx cb_G _ _ _ 118 0 [.ref 52, .int (nI m), .int (nI b), ex_no, ex_no, ex_no, ex_no, ex_no] [] _ _
    refine xi_aload_n (pc' := 1) rfl rfl rfl ?_
    refine xi_iconst (pc' := 2) rfl rfl ?_
    refine xr_puti (z := 0) (pc' := 5) rfl rfl (by decide) (Or.inl rfl) rfl ?_
    refine xi_aload_n (pc' := 6) rfl rfl rfl ?_
    refine xr_getp (pc' := 9) rfl rfl (by decide) rfl rfl rfl ?_
    refine xi_iload_n (pc' := 10) rfl rfl rfl ?_
    refine xr_ialdv (v := nI (0)) (j := m) (pc' := 11) rfl rfl (by decide) (by first | rfl | (simp only [ix_add, ix_mul, ix_pred]; done) | (simp only [ix_add, ix_mul, ix_pred, *]; done)) (by omega) (by decide) ((j0_fr (by decide)).trans hkd) rfl ?_
    refine xi_istore_n (pc' := 12) rfl (st1_3 rfl) rfl ?_
    refine xi_iload_n (pc' := 13) rfl rfl rfl ?_
    refine xi_ift (pc' := 21) rfl rfl (by decide) ?_
    refine xi_aload_n (pc' := 22) rfl rfl rfl ?_
    refine xi_iload_n (pc' := 23) rfl rfl rfl ?_
    refine xi_iload_n (pc' := 24) rfl rfl rfl ?_
    refine xx_callVi (pc' := 27) rfl rfl (by decide) rfl rfl (by show _ < 81 + 2 * _; omega) (Nat.le_of_ble_eq_true rfl) rfl rfl (r_gives_0 (D := D + 1) (N := N) ((j0_fr (by decide)).trans hkd) x2 ((j0_fr (by decide)).trans x1) hm hb s2 n2 n3 ((j0_fr (by decide)).trans s1) ((j0_fr (by decide)).trans n1) (j0_hw hh) (by omega) j0_gd) ?_
    refine xx_zreturn rfl rfl (bool_give) ?_
    exact ⟨rfl, rfl⟩
  · have e : r_attempt J m b = (nI 1, r_telAll (r_j0 J) m (tk J 72 m - 1) (tk J 73 m) b) := by unfold r_attempt; rw [if_neg (by omega), if_pos hq]
    rw [e]
    have hkd : J 69 m = nI 3 := by rw [k1, hq]
    obtain ⟨s1, s2, n1, n2, n3⟩ := k5 (by omega)
    show xx cb_G _ _ _ 118 0 [.ref 52, .int (nI m), .int (nI b), ex_no, ex_no, ex_no, ex_no, ex_no] [] _ _
    refine xi_aload_n (pc' := 1) rfl rfl rfl ?_
    refine xi_iconst (pc' := 2) rfl rfl ?_
    refine xr_puti (z := 0) (pc' := 5) rfl rfl (by decide) (Or.inl rfl) rfl ?_
    refine xi_aload_n (pc' := 6) rfl rfl rfl ?_
    refine xr_getp (pc' := 9) rfl rfl (by decide) rfl rfl rfl ?_
    refine xi_iload_n (pc' := 10) rfl rfl rfl ?_
    refine xr_ialdv (v := nI (3)) (j := m) (pc' := 11) rfl rfl (by decide) (by first | rfl | (simp only [ix_add, ix_mul, ix_pred]; done) | (simp only [ix_add, ix_mul, ix_pred, *]; done)) (by omega) (by decide) ((j0_fr (by decide)).trans hkd) rfl ?_
    refine xi_istore_n (pc' := 12) rfl (st1_3 rfl) rfl ?_
    refine xi_iload_n (pc' := 13) rfl rfl rfl ?_
    refine xi_iff (pc' := 16) (tg := 21) rfl rfl (by decide) rfl ?_
    refine xi_iload_n (pc' := 17) rfl rfl rfl ?_
    refine xi_iconst (pc' := 18) rfl rfl ?_
    refine xi_icmpf (pc' := 21) (tg := 28) rfl rfl (by decide) rfl ?_
    refine xi_aload_n (pc' := 22) rfl rfl rfl ?_
    refine xi_iload_n (pc' := 23) rfl rfl rfl ?_
    refine xi_iload_n (pc' := 24) rfl rfl rfl ?_
    refine xx_callVi (pc' := 27) rfl rfl (by decide) rfl rfl (by show _ < 81 + 2 * _; omega) (Nat.le_of_ble_eq_true rfl) rfl rfl (r_gives_3 (D := D + 1) (N := N) ((j0_fr (by decide)).trans hkd) hm hb s2 n2 n3 ((j0_fr (by decide)).trans s1) ((j0_fr (by decide)).trans n1) (j0_hw hh) (by omega) j0_gd) ?_
    refine xx_zreturn rfl rfl (by decide) ?_
    exact ⟨rfl, rfl⟩
  · have e : r_attempt J m b = r_commands (r_j0 J) m (tk J 70 m) (tk J 73 m) b := by unfold r_attempt; rw [if_neg (by omega), if_neg (by omega), if_pos hq]
    rw [e]
    have hkd : J 69 m = nI 4 := by rw [k1, hq]
    obtain ⟨x1, x2⟩ := k3 (by omega)
    obtain ⟨n1, n2⟩ := k6 hq
    show xx cb_G _ _ _ 118 0 [.ref 52, .int (nI m), .int (nI b), ex_no, ex_no, ex_no, ex_no, ex_no] [] _ _
    refine xi_aload_n (pc' := 1) rfl rfl rfl ?_
    refine xi_iconst (pc' := 2) rfl rfl ?_
    refine xr_puti (z := 0) (pc' := 5) rfl rfl (by decide) (Or.inl rfl) rfl ?_
    refine xi_aload_n (pc' := 6) rfl rfl rfl ?_
    refine xr_getp (pc' := 9) rfl rfl (by decide) rfl rfl rfl ?_
    refine xi_iload_n (pc' := 10) rfl rfl rfl ?_
    refine xr_ialdv (v := nI (4)) (j := m) (pc' := 11) rfl rfl (by decide) (by first | rfl | (simp only [ix_add, ix_mul, ix_pred]; done) | (simp only [ix_add, ix_mul, ix_pred, *]; done)) (by omega) (by decide) ((j0_fr (by decide)).trans hkd) rfl ?_
    refine xi_istore_n (pc' := 12) rfl (st1_3 rfl) rfl ?_
    refine xi_iload_n (pc' := 13) rfl rfl rfl ?_
    refine xi_iff (pc' := 16) (tg := 21) rfl rfl (by decide) rfl ?_
    refine xi_iload_n (pc' := 17) rfl rfl rfl ?_
    refine xi_iconst (pc' := 18) rfl rfl ?_
    refine xi_icmpt (pc' := 28) rfl rfl (by decide) ?_
    refine xi_iload_n (pc' := 29) rfl rfl rfl ?_
    refine xi_iconst (pc' := 30) rfl rfl ?_
    refine xi_icmpf (pc' := 33) (tg := 52) rfl rfl (by decide) rfl ?_
    refine xi_aload_n (pc' := 34) rfl rfl rfl ?_
    refine xi_iload_n (pc' := 35) rfl rfl rfl ?_
    refine xi_aload_n (pc' := 36) rfl rfl rfl ?_
    refine xr_getp (pc' := 39) rfl rfl (by decide) rfl rfl rfl ?_
    refine xi_iload_n (pc' := 40) rfl rfl rfl ?_
    refine xr_ialdv (v := nI (tk J 70 m)) (j := m) (pc' := 41) rfl rfl (by decide) (by first | rfl | (simp only [ix_add, ix_mul, ix_pred]; done) | (simp only [ix_add, ix_mul, ix_pred, *]; done)) (by omega) (by decide) ((j0_fr (by decide)).trans x1) rfl ?_
    refine xi_aload_n (pc' := 42) rfl rfl rfl ?_
    refine xr_getp (pc' := 45) rfl rfl (by decide) rfl rfl rfl ?_
    refine xi_iload_n (pc' := 46) rfl rfl rfl ?_
    refine xr_ialdv (v := nI (tk J 73 m)) (j := m) (pc' := 47) rfl rfl (by decide) (by first | rfl | (simp only [ix_add, ix_mul, ix_pred]; done) | (simp only [ix_add, ix_mul, ix_pred, *]; done)) (by omega) (by decide) ((j0_fr (by decide)).trans n1) rfl ?_
    refine xi_iload_n (pc' := 48) rfl rfl rfl ?_
    refine xx_callVi (pc' := 51) rfl rfl (by decide) rfl rfl (by show _ < 81 + 2 * _; omega) (Nat.le_of_ble_eq_true rfl) rfl rfl (r_commands_ok (D := D + 1) (N := N) hm x2 hb n2 (j0_hw hh) (by omega)) ?_
    refine xx_zreturn rfl rfl (bool_cmds) ?_
    exact ⟨rfl, rfl⟩
  · have e : r_attempt J m b = r_pass (r_j0 J) (tk J 70 m) (tk J 71 m) (tk J 72 m - 1) (tk J 73 m) b := by unfold r_attempt; rw [if_neg (by omega), if_neg (by omega), if_neg (by omega), if_pos hq]
    rw [e]
    have hkd : J 69 m = nI 2 := by rw [k1, hq]
    obtain ⟨x1, x2⟩ := k3 (by omega)
    obtain ⟨y1, y2, y3⟩ := k4 hq
    obtain ⟨s1, s2, n1, n2, n3⟩ := k5 (by omega)
    show xx cb_G _ _ _ 118 0 [.ref 52, .int (nI m), .int (nI b), ex_no, ex_no, ex_no, ex_no, ex_no] [] _ _
    refine xi_aload_n (pc' := 1) rfl rfl rfl ?_
    refine xi_iconst (pc' := 2) rfl rfl ?_
    refine xr_puti (z := 0) (pc' := 5) rfl rfl (by decide) (Or.inl rfl) rfl ?_
    refine xi_aload_n (pc' := 6) rfl rfl rfl ?_
    refine xr_getp (pc' := 9) rfl rfl (by decide) rfl rfl rfl ?_
    refine xi_iload_n (pc' := 10) rfl rfl rfl ?_
    refine xr_ialdv (v := nI (2)) (j := m) (pc' := 11) rfl rfl (by decide) (by first | rfl | (simp only [ix_add, ix_mul, ix_pred]; done) | (simp only [ix_add, ix_mul, ix_pred, *]; done)) (by omega) (by decide) ((j0_fr (by decide)).trans hkd) rfl ?_
    refine xi_istore_n (pc' := 12) rfl (st1_3 rfl) rfl ?_
    refine xi_iload_n (pc' := 13) rfl rfl rfl ?_
    refine xi_iff (pc' := 16) (tg := 21) rfl rfl (by decide) rfl ?_
    refine xi_iload_n (pc' := 17) rfl rfl rfl ?_
    refine xi_iconst (pc' := 18) rfl rfl ?_
    refine xi_icmpt (pc' := 28) rfl rfl (by decide) ?_
    refine xi_iload_n (pc' := 29) rfl rfl rfl ?_
    refine xi_iconst (pc' := 30) rfl rfl ?_
    refine xi_icmpt (pc' := 52) rfl rfl (by decide) ?_
    refine xi_iload_n (pc' := 53) rfl rfl rfl ?_
    refine xi_iconst (pc' := 54) rfl rfl ?_
    refine xi_icmpf (pc' := 57) (tg := 64) rfl rfl (by decide) rfl ?_
    refine xi_aload_n (pc' := 58) rfl rfl rfl ?_
    refine xi_iload_n (pc' := 59) rfl rfl rfl ?_
    refine xi_iload_n (pc' := 60) rfl rfl rfl ?_
    refine xx_callVi (pc' := 63) rfl rfl (by decide) rfl rfl (by show _ < 81 + 2 * _; omega) (Nat.le_of_ble_eq_true rfl) rfl rfl (r_passes_ok (D := D) (N := N) hm hb x2 y2 s2 n2 n3 ((j0_fr (by decide)).trans x1) ((j0_fr (by decide)).trans y1) ((j0_fr (by decide)).trans s1) ((j0_fr (by decide)).trans n1) (j0_hw hh) (by omega) j0_gd) ?_
    refine xx_zreturn rfl rfl (bool_pass) ?_
    exact ⟨rfl, rfl⟩
  · have e : r_attempt J m b = r_take (r_j0 J) m (tk J 70 m) (tk J 72 m - 1) (tk J 73 m) b := by unfold r_attempt; rw [if_neg (by omega), if_neg (by omega), if_neg (by omega), if_neg (by omega)]
    rw [e]
    have hkd : J 69 m = nI 1 := by rw [k1, hq]
    obtain ⟨x1, x2⟩ := k3 (by omega)
    obtain ⟨s1, s2, n1, n2, n3⟩ := k5 (by omega)
    show xx cb_G _ _ _ 118 0 [.ref 52, .int (nI m), .int (nI b), ex_no, ex_no, ex_no, ex_no, ex_no] [] _ _
    refine xi_aload_n (pc' := 1) rfl rfl rfl ?_
    refine xi_iconst (pc' := 2) rfl rfl ?_
    refine xr_puti (z := 0) (pc' := 5) rfl rfl (by decide) (Or.inl rfl) rfl ?_
    refine xi_aload_n (pc' := 6) rfl rfl rfl ?_
    refine xr_getp (pc' := 9) rfl rfl (by decide) rfl rfl rfl ?_
    refine xi_iload_n (pc' := 10) rfl rfl rfl ?_
    refine xr_ialdv (v := nI (1)) (j := m) (pc' := 11) rfl rfl (by decide) (by first | rfl | (simp only [ix_add, ix_mul, ix_pred]; done) | (simp only [ix_add, ix_mul, ix_pred, *]; done)) (by omega) (by decide) ((j0_fr (by decide)).trans hkd) rfl ?_
    refine xi_istore_n (pc' := 12) rfl (st1_3 rfl) rfl ?_
    refine xi_iload_n (pc' := 13) rfl rfl rfl ?_
    refine xi_iff (pc' := 16) (tg := 21) rfl rfl (by decide) rfl ?_
    refine xi_iload_n (pc' := 17) rfl rfl rfl ?_
    refine xi_iconst (pc' := 18) rfl rfl ?_
    refine xi_icmpt (pc' := 28) rfl rfl (by decide) ?_
    refine xi_iload_n (pc' := 29) rfl rfl rfl ?_
    refine xi_iconst (pc' := 30) rfl rfl ?_
    refine xi_icmpt (pc' := 52) rfl rfl (by decide) ?_
    refine xi_iload_n (pc' := 53) rfl rfl rfl ?_
    refine xi_iconst (pc' := 54) rfl rfl ?_
    refine xi_icmpt (pc' := 64) rfl rfl (by decide) ?_
    exact r_take_from (D := D + 1) (N := N) hm hb x2 s2 n2 n3 ((j0_fr (by decide)).trans x1) ((j0_fr (by decide)).trans s1) ((j0_fr (by decide)).trans n1) (j0_hw hh) (by omega) j0_gd
