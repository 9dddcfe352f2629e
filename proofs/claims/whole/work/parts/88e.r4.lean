def r_cw (x u s nn : Nat) : Int32 := nI 2048 * nI x + nI 1024 * nI u + nI 32 * nI s + nI nn
theorem r_commandW {L : Nat} {xs : Nat → Int32} {D n : Nat} {I J : ex_Mem} {x u s nn : Nat} : ri L xs D 110 [.int (nI x), .int (nI u), .int (nI s), .int (nI nn)] (mkH n I J) (r_cw x u s nn) (mkH n I J) := r_command _ _ _ _
/-- the values of a message, one after another -/
def r_dat (J : ex_Mem) (b m : Nat) : Nat → ex_Mem
  | 0 => J
  | k + 1 => r_dw (r_put (r_dat J b m k) b (r_dat J b m k 76 (4 * m + k) + nI 65536)).2 (r_put (r_dat J b m k) b (r_dat J b m k 76 (4 * m + k) + nI 65536)).1 (r_dat J b m k 76 (4 * m + k))
theorem hwB_dat {N b m : Nat} {J : ex_Mem} (hh : hwB N J) : ∀ k, N + k < 2 ^ 31 → hwB (N + k) (r_dat J b m k)
  | 0, _ => hh
  | k + 1, h => hwB_eq (hwB_put (hwB_dat hh k (by omega)) h) dw_hw
theorem gdB_dat {N b m : Nat} {J : ex_Mem} (hh : gdB N J) : ∀ k, N + k < 100 → gdB (N + k) (r_dat J b m k)
  | 0, _ => hh
  | k + 1, h => gdB_dw (gdB_eq (gdB_dat hh k (by omega)) put_gd) (show N + k < 1000 by omega)
theorem dat_fr {J : ex_Mem} {b m a k : Nat} (h1 : a ≠ 52) (h2 : a ≠ 53) (h3 : a ≠ 55) (h4 : a ≠ 56) (h5 : a ≠ 79) : ∀ j, r_dat J b m j a k = J a k
  | 0 => rfl
  | j + 1 => by
    unfold r_dat
    rw [dw_fr h1 h5, put_fr h1 h2 h3 h4]
    exact dat_fr h1 h2 h3 h4 h5 j
def r_tell (J : ex_Mem) (how c : Int32) (s nn : Nat) : Nat → ex_Mem
  | 0 => J
  | t + 1 => if (r_hears (r_tell J how c s nn t) t how c (nI 0) (nI 0)).1 = 0 then (r_hears (r_tell J how c s nn t) t how c (nI 0) (nI 0)).2 else (r_takes (r_hears (r_tell J how c s nn t) t how c (nI 0) (nI 0)).2 t s nn (nI 1)).2
theorem tell_fr {J : ex_Mem} {how c : Int32} {s nn a k : Nat} (h1 : a ≠ 60) (h2 : a ≠ 61) (h3 : a ≠ 62) (h4 : a ≠ 63) (h5 : a ≠ 64) : ∀ t, r_tell J how c s nn t a k = J a k
  | 0 => rfl
  | t + 1 => by
    unfold r_tell
    split
    · rw [hears_fr h3 h4 h5]; exact tell_fr h1 h2 h3 h4 h5 t
    · rw [takes_fr h1 h2 h3 h4, hears_fr h3 h4 h5]; exact tell_fr h1 h2 h3 h4 h5 t
def r_g1 (J : ex_Mem) (m x s nn b : Nat) : ex_Mem := r_dat (r_put J b (r_cw x 0 (s + 1) nn)).2 b m nn
def r_g2 (J : ex_Mem) (m x s nn b : Nat) : Int32 × ex_Mem := r_hears (r_g1 J m x s nn b) x (r_put J b (r_cw x 0 (s + 1) nn)).1 (r_cw x 0 (s + 1) nn) (nI 0) (nI 0)
def r_g3 (J : ex_Mem) (m x s nn b : Nat) : Int32 × ex_Mem := r_takes (r_g2 J m x s nn b).2 x s nn (nI 0)
def r_g4 (J : ex_Mem) (m x s nn b : Nat) : Int32 × ex_Mem := r_says (r_g3 J m x s nn b).2 x b (r_st (r_g3 J m x s nn b).2 x)
def r_give (J : ex_Mem) (m x s nn b : Nat) : Int32 × ex_Mem :=
  if (r_g2 J m x s nn b).1 = 0 then (nI 0, (r_g2 J m x s nn b).2)
  else if (r_g3 J m x s nn b).1 = 0 then (nI 0, (r_g3 J m x s nn b).2)
  else (if (r_g4 J m x s nn b).1 = nI 1 then nI 1 else nI 0, (r_g4 J m x s nn b).2)
def r_telAll (J : ex_Mem) (m s nn b : Nat) : ex_Mem := r_tell (r_g1 J m 31 s nn b) (r_put J b (r_cw 31 0 (s + 1) nn)).1 (r_cw 31 0 (s + 1) nn) s nn 6
theorem g1_hw {J : ex_Mem} {N m x s nn b : Nat} (hh : hwB N J) (hN : N + 1 + nn < 2 ^ 31) : hwB (N + 1 + nn) (r_g1 J m x s nn b) := hwB_dat (hwB_put hh (by omega)) nn hN
theorem g3_hw {J : ex_Mem} {N m x s nn b : Nat} (hh : hwB N J) (hN : N + 1 + nn < 2 ^ 31) : hwB (N + 1 + nn) (r_g3 J m x s nn b).2 := takes_hw (hears_hw (g1_hw hh hN))
theorem g4_hw {J : ex_Mem} {N m x s nn b : Nat} (hh : hwB N J) (hN : N + 2 + nn < 2 ^ 31) : hwB (N + 2 + nn) (r_g4 J m x s nn b).2 := hwB_up (hwB_says (g3_hw hh (by omega)) (by omega)) (by omega)
theorem r_dat_loop {L : Nat} {xs : Nat → Int32} {D n : Nat} {I J : ex_Mem} {m nn b N g : Nat} {fa c how : Int32} {Q : Option Value → ex_Hp → Prop} (hm : m < 8) (hnn : nn ≤ 4) (hb : b < 2) (hh : hwB N J) (hN : N + 4 < 2 ^ 31) (hg : gdB g J) (hgn : g + nn ≤ 4) (hn : J 73 m = nI nn) (kk : ∀ v7 v8 : Value, v7.category = 1 → v8.category = 1 → xx cb_G L xs (D + 3) 119 110 [.ref 52, .int (nI m), .int (nI b), .int fa, .int c, .int how, .int (nI nn), v7, v8] [] (mkH n I (r_dat J b m nn)) Q) : ∀ (j k : Nat), k + j = nn → ∀ v7 v8 : Value, v7.category = 1 → v8.category = 1 → xx cb_G L xs (D + 3) 119 62 [.ref 52, .int (nI m), .int (nI b), .int fa, .int c, .int how, .int (nI k), v7, v8] [] (mkH n I (r_dat J b m k)) Q := by
  intro j
  induction j with
  | zero =>
    intro k hk v7 v8 h7 h8
    have hk : k = nn := by omega
    subst hk
    refine xi_iload (pc' := 64) rfl rfl rfl ?_
    refine xi_aload_n (pc' := 65) rfl rfl rfl ?_
    refine xr_getp (pc' := 68) rfl rfl (by decide) rfl rfl rfl ?_
    refine xi_iload_n (pc' := 69) rfl rfl rfl ?_
    refine xr_ialdv (v := nI (k)) (j := m) (pc' := 70) rfl rfl (by decide) (by first | rfl | (simp only [ix_add, ix_mul, ix_pred]; done) | (simp only [ix_add, ix_mul, ix_pred, *]; done)) (by omega) (by decide) ((dat_fr (by decide) (by decide) (by decide) (by decide) (by decide) k).trans hn) rfl ?_
    refine xx_icmp (pc' := 73) (tg := 110) rfl rfl rfl (fun q70 => ?_) (fun q70 => absurd (show ex_P .ge (nI k) (nI k) from Int32.le_refl _) q70)
    exact kk _ _ h7 h8
  | succ j ih =>
    intro k hk v7 v8 h7 h8
    refine xi_iload (pc' := 64) rfl rfl rfl ?_
    refine xi_aload_n (pc' := 65) rfl rfl rfl ?_
    refine xr_getp (pc' := 68) rfl rfl (by decide) rfl rfl rfl ?_
    refine xi_iload_n (pc' := 69) rfl rfl rfl ?_
    refine xr_ialdv (v := nI (nn)) (j := m) (pc' := 70) rfl rfl (by decide) (by first | rfl | (simp only [ix_add, ix_mul, ix_pred]; done) | (simp only [ix_add, ix_mul, ix_pred, *]; done)) (by omega) (by decide) ((dat_fr (by decide) (by decide) (by decide) (by decide) (by decide) k).trans hn) rfl ?_
    refine xx_icmp (pc' := 73) (tg := 110) rfl rfl rfl (fun q70 => absurd q70 (show ¬ ex_P .ge (nI k) (nI nn) from nI_ge (by omega) (by omega))) (fun q70 => ?_)
    refine xi_aload_n (pc' := 74) rfl rfl rfl ?_
    refine xr_getp (pc' := 77) rfl rfl (by decide) rfl rfl rfl ?_
    refine xi_iconst (pc' := 78) rfl rfl ?_
    refine xi_iload_n (pc' := 79) rfl rfl rfl ?_
    refine xi_imul (pc' := 80) rfl rfl ?_
    refine xi_iload (pc' := 82) rfl rfl rfl ?_
    refine xi_iadd (pc' := 83) rfl rfl ?_
    refine xr_iald (j := (4) * (m) + k) (pc' := 84) rfl rfl (by decide) (by first | rfl | (simp only [ix_add, ix_mul, ix_pred]; done) | (simp only [ix_add, ix_mul, ix_pred, *]; done)) (by omega) (by decide) rfl ?_
    refine xi_istore (pc' := 86) rfl (st1_7 rfl) rfl ?_
    refine xi_aload_n (pc' := 87) rfl rfl rfl ?_
    refine xi_iload_n (pc' := 88) rfl rfl rfl ?_
    refine xi_iconst (pc' := 89) rfl rfl ?_
    refine xi_iload (pc' := 91) rfl rfl rfl ?_
    refine xx_callVi (pc' := 94) rfl rfl (by decide) rfl rfl (by show _ < 81 + 2 * _; omega) (Nat.le_of_ble_eq_true rfl) rfl rfl (r_put1 hb (hwB_dat hh k (by omega)) (by omega)) ?_
    refine xi_istore (pc' := 96) rfl (st1_8 rfl) rfl ?_
    refine xi_aload_n (pc' := 97) rfl rfl rfl ?_
    refine xi_iload (pc' := 99) rfl rfl rfl ?_
    refine xi_iload (pc' := 101) rfl rfl rfl ?_
    refine xx_callVv (pc' := 104) rfl rfl (by decide) rfl rfl (by show _ < 81 + 2 * _; omega) (Nat.le_of_ble_eq_true rfl) rfl rfl (r_dataWord (gdB_eq (gdB_dat hg k (by omega)) put_gd) (by omega)) ?_
    refine xi_iincv (y := nI (k + 1)) (pc' := 107) rfl rfl (ix_add _ _) (st1_6 rfl) rfl ?_
    refine xi_goto (pc' := 62) rfl rfl ?_
    exact ih (k + 1) (by omega) _ _ rfl rfl
theorem tell_0 {J : ex_Mem} {how c : Int32} {s nn t : Nat} (h : (r_hears (r_tell J how c s nn t) t how c (nI 0) (nI 0)).1 = 0) : r_tell J how c s nn (t + 1) = (r_hears (r_tell J how c s nn t) t how c (nI 0) (nI 0)).2 := by
  show (if (r_hears (r_tell J how c s nn t) t how c (nI 0) (nI 0)).1 = 0 then _ else _) = _
  rw [if_pos h]
theorem tell_1 {J : ex_Mem} {how c : Int32} {s nn t : Nat} (h : ¬ (r_hears (r_tell J how c s nn t) t how c (nI 0) (nI 0)).1 = 0) : r_tell J how c s nn (t + 1) = (r_takes (r_hears (r_tell J how c s nn t) t how c (nI 0) (nI 0)).2 t s nn (nI 1)).2 := by
  show (if (r_hears (r_tell J how c s nn t) t how c (nI 0) (nI 0)).1 = 0 then _ else _) = _
  rw [if_neg h]
theorem r_tell_loop {L : Nat} {xs : Nat → Int32} {D n : Nat} {I J : ex_Mem} {m s nn b : Nat} {c how : Int32} (hm : m < 8) (hs : s < 3) (h1 : 1 ≤ nn) (h4 : nn ≤ 4) (hsb : J 72 m = nI (s + 1)) (hn : J 73 m = nI nn) : ∀ (j t : Nat), t + j = 6 → ∀ v8 : Value, v8.category = 1 → xx cb_G L xs (D + 3) 119 116 [.ref 52, .int (nI m), .int (nI b), .int (nI 1), .int c, .int how, .int (nI 0), .int (nI t), v8] [] (mkH n I (r_tell J how c s nn t)) (fun r h => r = some (.int (nI 1)) ∧ h = mkH n I (r_tell J how c s nn 6)) := by
  intro j
  induction j with
  | zero =>
    intro t ht v8 h8
    have ht : t = 6 := by omega
    subst ht
    refine xi_iload (pc' := 118) rfl rfl rfl ?_
    refine xi_bipush (pc' := 120) rfl (by decide) rfl ?_
    refine xx_icmp (pc' := 123) (tg := 207) rfl rfl rfl (fun q120 => ?_) (fun q120 => absurd (show ex_P .ge (nI 6) (nI 6) from Int32.le_refl _) q120)
    refine xi_iload (pc' := 209) rfl rfl rfl ?_
    refine xi_iff (pc' := 212) (tg := 216) rfl rfl (by decide) rfl ?_
    refine xi_iload_n (pc' := 213) rfl rfl rfl ?_
    refine xi_iff (pc' := 216) (tg := 220) rfl rfl (by decide) rfl ?_
    refine xi_iconst (pc' := 217) rfl rfl ?_
    refine xi_goto (pc' := 221) rfl rfl ?_
    refine xx_zreturn rfl rfl (by decide) ?_
    exact ⟨rfl, rfl⟩
  | succ j ih =>
    intro t ht v8 h8
    refine xi_iload (pc' := 118) rfl rfl rfl ?_
    refine xi_bipush (pc' := 120) rfl (by decide) rfl ?_
    refine xx_icmp (pc' := 123) (tg := 207) rfl rfl rfl (fun q120 => absurd q120 (show ¬ ex_P .ge (nI t) (nI 6) from nI_ge (by omega) (by decide))) (fun q120 => ?_)
    refine xi_iload_n (pc' := 124) rfl rfl rfl ?_
    refine xi_ift (pc' := 138) rfl rfl (by decide) ?_
    refine xi_aload_n (pc' := 139) rfl rfl rfl ?_
    refine xi_iload (pc' := 141) rfl rfl rfl ?_
    refine xi_iload (pc' := 143) rfl rfl rfl ?_
    refine xi_iload (pc' := 145) rfl rfl rfl ?_
    refine xi_iconst (pc' := 146) rfl rfl ?_
    refine xi_iconst (pc' := 147) rfl rfl ?_
    refine xx_callVi (pc' := 150) rfl rfl (by decide) rfl rfl (by show _ < 81 + 2 * _; omega) (Nat.le_of_ble_eq_true rfl) rfl rfl (r_hears_ok (by omega)) ?_
    refine xx_if (pc' := 153) (tg := 201) rfl rfl rfl (fun q150 => ?_) (fun q150 => ?_)
    · refine xi_iincv (y := nI (t + 1)) (pc' := 204) rfl rfl (ix_add _ _) (st1_7 rfl) rfl ?_
      refine xi_goto (pc' := 116) rfl rfl ?_
      have e := fun v h => ih (t + 1) (by omega) v h
      first | (rw [tell_0 (show _ = (0 : Int32) from q150)] at e; exact e _ (by first | rfl | exact h8)) | (rw [tell_1 q150] at e; exact e _ (by first | rfl | exact h8))
    · refine xi_aload_n (pc' := 154) rfl rfl rfl ?_
      refine xi_iload (pc' := 156) rfl rfl rfl ?_
      refine xi_aload_n (pc' := 157) rfl rfl rfl ?_
      refine xr_getp (pc' := 160) rfl rfl (by decide) rfl rfl rfl ?_
      refine xi_iload_n (pc' := 161) rfl rfl rfl ?_
      refine xr_ialdv (v := nI (s + 1)) (j := m) (pc' := 162) rfl rfl (by decide) (by first | rfl | (simp only [ix_add, ix_mul, ix_pred]; done) | (simp only [ix_add, ix_mul, ix_pred, *]; done)) (by omega) (by decide) (by simp only [wI_fr, says_fr, put_fr, takes_fr, hears_fr, dat_fr, dw_fr, ans_fr, eff_fr, tell_fr, ne_eq, Nat.reduceEqDiff, not_false_eq_true, hsb]) rfl ?_
      refine xi_aload_n (pc' := 163) rfl rfl rfl ?_
      refine xr_getp (pc' := 166) rfl rfl (by decide) rfl rfl rfl ?_
      refine xi_iload_n (pc' := 167) rfl rfl rfl ?_
      refine xr_ialdv (v := nI (nn)) (j := m) (pc' := 168) rfl rfl (by decide) (by first | rfl | (simp only [ix_add, ix_mul, ix_pred]; done) | (simp only [ix_add, ix_mul, ix_pred, *]; done)) (by omega) (by decide) (by simp only [wI_fr, says_fr, put_fr, takes_fr, hears_fr, dat_fr, dw_fr, ans_fr, eff_fr, tell_fr, ne_eq, Nat.reduceEqDiff, not_false_eq_true, hn]) rfl ?_
      refine xi_iload_n (pc' := 169) rfl rfl rfl ?_
      refine xx_callVi (pc' := 172) rfl rfl (by decide) rfl rfl (by show _ < 81 + 2 * _; omega) (Nat.le_of_ble_eq_true rfl) rfl rfl (r_takes_ok (by omega) hs h1 h4 (by decide)) ?_
      refine xi_istore (pc' := 174) rfl (st1_8 rfl) rfl ?_
      refine xi_iload (pc' := 176) rfl rfl rfl ?_
      refine xx_if (pc' := 179) (tg := 201) rfl rfl rfl (fun q176 => ?_) (fun q176 => ?_)
      · refine xi_iincv (y := nI (t + 1)) (pc' := 204) rfl rfl (ix_add _ _) (st1_7 rfl) rfl ?_
        refine xi_goto (pc' := 116) rfl rfl ?_
        have e := fun v h => ih (t + 1) (by omega) v h
        first | (rw [tell_0 (show _ = (0 : Int32) from q150)] at e; exact e _ (by first | rfl | exact h8)) | (rw [tell_1 q150] at e; exact e _ (by first | rfl | exact h8))
      · refine xi_iload_n (pc' := 180) rfl rfl rfl ?_
        refine xi_ift (pc' := 201) rfl rfl (by decide) ?_
        refine xi_iincv (y := nI (t + 1)) (pc' := 204) rfl rfl (ix_add _ _) (st1_7 rfl) rfl ?_
        refine xi_goto (pc' := 116) rfl rfl ?_
        have e := fun v h => ih (t + 1) (by omega) v h
        first | (rw [tell_0 (show _ = (0 : Int32) from q150)] at e; exact e _ (by first | rfl | exact h8)) | (rw [tell_1 q150] at e; exact e _ (by first | rfl | exact h8))
theorem r_gives_3 {L : Nat} {xs : Nat → Int32} {D n : Nat} {I J : ex_Mem} {m s nn b N : Nat} (hk : J 69 m = nI 3) (hm : m < 8) (hb : b < 2) (hs : s < 3) (h1 : 1 ≤ nn) (h4 : nn ≤ 4) (hsb : J 72 m = nI (s + 1)) (hn : J 73 m = nI nn) (hh : hwB N J) (hN : N + 8 < 2 ^ 31) (hg : gdB 0 J) : ri L xs (D + 3) 119 [.ref 52, .int (nI m), .int (nI b)] (mkH n I J) (nI 1) (mkH n I (r_telAll J m s nn b)) := by
  show xx cb_G _ _ _ 119 0 [.ref 52, .int (nI m), .int (nI b), ex_no, ex_no, ex_no, ex_no, ex_no, ex_no] [] _ _
  refine xi_aload_n (pc' := 1) rfl rfl rfl ?_
  refine xr_getp (pc' := 4) rfl rfl (by decide) rfl rfl rfl ?_
  refine xi_iload_n (pc' := 5) rfl rfl rfl ?_
  refine xr_ialdv (v := nI (3)) (j := m) (pc' := 6) rfl rfl (by decide) (by first | rfl | (simp only [ix_add, ix_mul, ix_pred]; done) | (simp only [ix_add, ix_mul, ix_pred, *]; done)) (by omega) (by decide) (hk) rfl ?_
  refine xi_iconst (pc' := 7) rfl rfl ?_
  refine xi_icmpf (pc' := 10) (tg := 14) rfl rfl (by decide) rfl ?_
  refine xi_iconst (pc' := 11) rfl rfl ?_
  refine xi_goto (pc' := 15) rfl rfl ?_
  refine xi_istore_n (pc' := 16) rfl (st1_3 rfl) rfl ?_
  refine xi_iload_n (pc' := 17) rfl rfl rfl ?_
  refine xi_iff (pc' := 20) (tg := 25) rfl rfl (by decide) rfl ?_
  refine xi_bipush (pc' := 22) rfl (by decide) rfl ?_
  refine xi_goto (pc' := 31) rfl rfl ?_
  refine xi_iconst (pc' := 32) rfl rfl ?_
  refine xi_aload_n (pc' := 33) rfl rfl rfl ?_
  refine xr_getp (pc' := 36) rfl rfl (by decide) rfl rfl rfl ?_
  refine xi_iload_n (pc' := 37) rfl rfl rfl ?_
  refine xr_ialdv (v := nI (s + 1)) (j := m) (pc' := 38) rfl rfl (by decide) (by first | rfl | (simp only [ix_add, ix_mul, ix_pred]; done) | (simp only [ix_add, ix_mul, ix_pred, *]; done)) (by omega) (by decide) (hsb) rfl ?_
  refine xi_aload_n (pc' := 39) rfl rfl rfl ?_
  refine xr_getp (pc' := 42) rfl rfl (by decide) rfl rfl rfl ?_
  refine xi_iload_n (pc' := 43) rfl rfl rfl ?_
  refine xr_ialdv (v := nI (nn)) (j := m) (pc' := 44) rfl rfl (by decide) (by first | rfl | (simp only [ix_add, ix_mul, ix_pred]; done) | (simp only [ix_add, ix_mul, ix_pred, *]; done)) (by omega) (by decide) (hn) rfl ?_
  refine xx_callSi (pc' := 47) rfl rfl (by decide) rfl (Nat.le_of_ble_eq_true rfl) rfl rfl (r_commandW) ?_
  refine xi_istore (pc' := 49) rfl (st1_4 rfl) rfl ?_
  refine xi_aload_n (pc' := 50) rfl rfl rfl ?_
  refine xi_iload_n (pc' := 51) rfl rfl rfl ?_
  refine xi_iconst (pc' := 52) rfl rfl ?_
  refine xi_iload (pc' := 54) rfl rfl rfl ?_
  refine xx_callVi (pc' := 57) rfl rfl (by decide) rfl rfl (by show _ < 81 + 2 * _; omega) (Nat.le_of_ble_eq_true rfl) rfl rfl (r_put0 hb hh (by omega)) ?_
  refine xi_istore (pc' := 59) rfl (st1_5 rfl) rfl ?_
  refine xi_iconst (pc' := 60) rfl rfl ?_
  refine xi_istore (pc' := 62) rfl (st1_6 rfl) rfl ?_
  refine r_dat_loop (D := D) (N := N + 1) (g := 0) (fa := nI 1) hm h4 hb (hwB_put hh (by omega)) (by omega) (put_gdB hg) (by omega) ((put_fr (by decide) (by decide) (by decide) (by decide)).trans hn) (fun v7 v8 h7 h8 => ?_) nn 0 (by omega) _ _ rfl rfl
  refine xi_iconst (pc' := 111) rfl rfl ?_
  refine xi_istore (pc' := 113) rfl (st1_6 rfl) rfl ?_
  refine xi_iconst (pc' := 114) rfl rfl ?_
  refine xi_istore (pc' := 116) rfl (st1_7 rfl) rfl ?_
  exact r_tell_loop hm hs h1 h4 ((dat_fr (by decide) (by decide) (by decide) (by decide) (by decide) nn).trans ((put_fr (by decide) (by decide) (by decide) (by decide)).trans hsb)) ((dat_fr (by decide) (by decide) (by decide) (by decide) (by decide) nn).trans ((put_fr (by decide) (by decide) (by decide) (by decide)).trans hn)) 6 0 (by omega) _ h8
theorem r_gives_0_0 {L : Nat} {xs : Nat → Int32} {D n : Nat} {I J : ex_Mem} {m s nn b N : Nat} (hk : J 69 m = nI 0) (hx : J 70 m = nI 0) (hm : m < 8) (hb : b < 2) (hs : s < 3) (h1 : 1 ≤ nn) (h4 : nn ≤ 4) (hsb : J 72 m = nI (s + 1)) (hn : J 73 m = nI nn) (hh : hwB N J) (hN : N + 8 < 2 ^ 31) (hg : gdB 0 J) : ri L xs (D + 3) 119 [.ref 52, .int (nI m), .int (nI b)] (mkH n I J) ((r_give J m 0 s nn b).1) (mkH n I (r_give J m 0 s nn b).2) := by
  show xx cb_G _ _ _ 119 0 [.ref 52, .int (nI m), .int (nI b), ex_no, ex_no, ex_no, ex_no, ex_no, ex_no] [] _ _
  refine xi_aload_n (pc' := 1) rfl rfl rfl ?_
  refine xr_getp (pc' := 4) rfl rfl (by decide) rfl rfl rfl ?_
  refine xi_iload_n (pc' := 5) rfl rfl rfl ?_
  refine xr_ialdv (v := nI (0)) (j := m) (pc' := 6) rfl rfl (by decide) (by first | rfl | (simp only [ix_add, ix_mul, ix_pred]; done) | (simp only [ix_add, ix_mul, ix_pred, *]; done)) (by omega) (by decide) (hk) rfl ?_
  refine xi_iconst (pc' := 7) rfl rfl ?_
  refine xi_icmpt (pc' := 14) rfl rfl (by decide) ?_
  refine xi_iconst (pc' := 15) rfl rfl ?_
  refine xi_istore_n (pc' := 16) rfl (st1_3 rfl) rfl ?_
  refine xi_iload_n (pc' := 17) rfl rfl rfl ?_
  refine xi_ift (pc' := 25) rfl rfl (by decide) ?_
  refine xi_aload_n (pc' := 26) rfl rfl rfl ?_
  refine xr_getp (pc' := 29) rfl rfl (by decide) rfl rfl rfl ?_
  refine xi_iload_n (pc' := 30) rfl rfl rfl ?_
  refine xr_ialdv (v := nI (0)) (j := m) (pc' := 31) rfl rfl (by decide) (by first | rfl | (simp only [ix_add, ix_mul, ix_pred]; done) | (simp only [ix_add, ix_mul, ix_pred, *]; done)) (by omega) (by decide) (hx) rfl ?_
  refine xi_iconst (pc' := 32) rfl rfl ?_
  refine xi_aload_n (pc' := 33) rfl rfl rfl ?_
  refine xr_getp (pc' := 36) rfl rfl (by decide) rfl rfl rfl ?_
  refine xi_iload_n (pc' := 37) rfl rfl rfl ?_
  refine xr_ialdv (v := nI (s + 1)) (j := m) (pc' := 38) rfl rfl (by decide) (by first | rfl | (simp only [ix_add, ix_mul, ix_pred]; done) | (simp only [ix_add, ix_mul, ix_pred, *]; done)) (by omega) (by decide) (hsb) rfl ?_
  refine xi_aload_n (pc' := 39) rfl rfl rfl ?_
  refine xr_getp (pc' := 42) rfl rfl (by decide) rfl rfl rfl ?_
  refine xi_iload_n (pc' := 43) rfl rfl rfl ?_
  refine xr_ialdv (v := nI (nn)) (j := m) (pc' := 44) rfl rfl (by decide) (by first | rfl | (simp only [ix_add, ix_mul, ix_pred]; done) | (simp only [ix_add, ix_mul, ix_pred, *]; done)) (by omega) (by decide) (hn) rfl ?_
  refine xx_callSi (pc' := 47) rfl rfl (by decide) rfl (Nat.le_of_ble_eq_true rfl) rfl rfl (r_commandW) ?_
  refine xi_istore (pc' := 49) rfl (st1_4 rfl) rfl ?_
  refine xi_aload_n (pc' := 50) rfl rfl rfl ?_
  refine xi_iload_n (pc' := 51) rfl rfl rfl ?_
  refine xi_iconst (pc' := 52) rfl rfl ?_
  refine xi_iload (pc' := 54) rfl rfl rfl ?_
  refine xx_callVi (pc' := 57) rfl rfl (by decide) rfl rfl (by show _ < 81 + 2 * _; omega) (Nat.le_of_ble_eq_true rfl) rfl rfl (r_put0 hb hh (by omega)) ?_
  refine xi_istore (pc' := 59) rfl (st1_5 rfl) rfl ?_
  refine xi_iconst (pc' := 60) rfl rfl ?_
  refine xi_istore (pc' := 62) rfl (st1_6 rfl) rfl ?_
  refine r_dat_loop (D := D) (N := N + 1) (g := 0) (fa := nI 0) hm h4 hb (hwB_put hh (by omega)) (by omega) (put_gdB hg) (by omega) ((put_fr (by decide) (by decide) (by decide) (by decide)).trans hn) (fun v7 v8 h7 h8 => ?_) nn 0 (by omega) _ _ rfl rfl
  refine xi_iconst (pc' := 111) rfl rfl ?_
  refine xi_istore (pc' := 113) rfl (st1_6 rfl) rfl ?_
  refine xi_iconst (pc' := 114) rfl rfl ?_
  refine xi_istore (pc' := 116) rfl (st1_7 rfl) rfl ?_
  refine xi_iload (pc' := 118) rfl rfl rfl ?_
  refine xi_bipush (pc' := 120) rfl (by decide) rfl ?_
  refine xi_icmpf (pc' := 123) (tg := 207) rfl rfl (by decide) rfl ?_
  refine xi_iload_n (pc' := 124) rfl rfl rfl ?_
  refine xi_iff (pc' := 127) (tg := 138) rfl rfl (by decide) rfl ?_
  refine xi_iload (pc' := 129) rfl rfl rfl ?_
  refine xi_aload_n (pc' := 130) rfl rfl rfl ?_
  refine xr_getp (pc' := 133) rfl rfl (by decide) rfl rfl rfl ?_
  refine xi_iload_n (pc' := 134) rfl rfl rfl ?_
  refine xr_ialdv (v := nI (0)) (j := m) (pc' := 135) rfl rfl (by decide) (by first | rfl | (simp only [ix_add, ix_mul, ix_pred]; done) | (simp only [ix_add, ix_mul, ix_pred, *]; done)) (by omega) (by decide) (by simp only [wI_fr, says_fr, put_fr, takes_fr, hears_fr, dat_fr, dw_fr, ans_fr, eff_fr, tell_fr, ne_eq, Nat.reduceEqDiff, not_false_eq_true, hx]) rfl ?_
  refine xi_icmpf (pc' := 138) (tg := 201) rfl rfl (by decide) rfl ?_
  refine xi_aload_n (pc' := 139) rfl rfl rfl ?_
  refine xi_iload (pc' := 141) rfl rfl rfl ?_
  refine xi_iload (pc' := 143) rfl rfl rfl ?_
  refine xi_iload (pc' := 145) rfl rfl rfl ?_
  refine xi_iconst (pc' := 146) rfl rfl ?_
  refine xi_iconst (pc' := 147) rfl rfl ?_
  refine xx_callVi (pc' := 150) rfl rfl (by decide) rfl rfl (by show _ < 81 + 2 * _; omega) (Nat.le_of_ble_eq_true rfl) rfl rfl (r_hears_ok (t := 0) (by decide)) ?_
  refine xx_if (pc' := 153) (tg := 201) rfl rfl rfl (fun q150 => ?_) (fun q150 => ?_)
  · refine xi_iincv (y := nI 1) (pc' := 204) rfl rfl (by decide) (st1_7 rfl) rfl ?_
    refine xi_goto (pc' := 116) rfl rfl ?_
    refine xi_iload (pc' := 118) rfl rfl rfl ?_
    refine xi_bipush (pc' := 120) rfl (by decide) rfl ?_
    refine xi_icmpf (pc' := 123) (tg := 207) rfl rfl (by decide) rfl ?_
    refine xi_iload_n (pc' := 124) rfl rfl rfl ?_
    refine xi_iff (pc' := 127) (tg := 138) rfl rfl (by decide) rfl ?_
    refine xi_iload (pc' := 129) rfl rfl rfl ?_
    refine xi_aload_n (pc' := 130) rfl rfl rfl ?_
    refine xr_getp (pc' := 133) rfl rfl (by decide) rfl rfl rfl ?_
    refine xi_iload_n (pc' := 134) rfl rfl rfl ?_
    refine xr_ialdv (v := nI (0)) (j := m) (pc' := 135) rfl rfl (by decide) (by first | rfl | (simp only [ix_add, ix_mul, ix_pred]; done) | (simp only [ix_add, ix_mul, ix_pred, *]; done)) (by omega) (by decide) (by simp only [wI_fr, says_fr, put_fr, takes_fr, hears_fr, dat_fr, dw_fr, ans_fr, eff_fr, tell_fr, ne_eq, Nat.reduceEqDiff, not_false_eq_true, hx]) rfl ?_
    refine xi_icmpt (pc' := 201) rfl rfl (by decide) ?_
    refine xi_iincv (y := nI 2) (pc' := 204) rfl rfl (by decide) (st1_7 rfl) rfl ?_
    refine xi_goto (pc' := 116) rfl rfl ?_
    refine xi_iload (pc' := 118) rfl rfl rfl ?_
    refine xi_bipush (pc' := 120) rfl (by decide) rfl ?_
    refine xi_icmpf (pc' := 123) (tg := 207) rfl rfl (by decide) rfl ?_
    refine xi_iload_n (pc' := 124) rfl rfl rfl ?_
    refine xi_iff (pc' := 127) (tg := 138) rfl rfl (by decide) rfl ?_
    refine xi_iload (pc' := 129) rfl rfl rfl ?_
    refine xi_aload_n (pc' := 130) rfl rfl rfl ?_
    refine xr_getp (pc' := 133) rfl rfl (by decide) rfl rfl rfl ?_
    refine xi_iload_n (pc' := 134) rfl rfl rfl ?_
    refine xr_ialdv (v := nI (0)) (j := m) (pc' := 135) rfl rfl (by decide) (by first | rfl | (simp only [ix_add, ix_mul, ix_pred]; done) | (simp only [ix_add, ix_mul, ix_pred, *]; done)) (by omega) (by decide) (by simp only [wI_fr, says_fr, put_fr, takes_fr, hears_fr, dat_fr, dw_fr, ans_fr, eff_fr, tell_fr, ne_eq, Nat.reduceEqDiff, not_false_eq_true, hx]) rfl ?_
    refine xi_icmpt (pc' := 201) rfl rfl (by decide) ?_
    refine xi_iincv (y := nI 3) (pc' := 204) rfl rfl (by decide) (st1_7 rfl) rfl ?_
    refine xi_goto (pc' := 116) rfl rfl ?_
    refine xi_iload (pc' := 118) rfl rfl rfl ?_
    refine xi_bipush (pc' := 120) rfl (by decide) rfl ?_
    refine xi_icmpf (pc' := 123) (tg := 207) rfl rfl (by decide) rfl ?_
    refine xi_iload_n (pc' := 124) rfl rfl rfl ?_
    refine xi_iff (pc' := 127) (tg := 138) rfl rfl (by decide) rfl ?_
    refine xi_iload (pc' := 129) rfl rfl rfl ?_
    refine xi_aload_n (pc' := 130) rfl rfl rfl ?_
    refine xr_getp (pc' := 133) rfl rfl (by decide) rfl rfl rfl ?_
    refine xi_iload_n (pc' := 134) rfl rfl rfl ?_
    refine xr_ialdv (v := nI (0)) (j := m) (pc' := 135) rfl rfl (by decide) (by first | rfl | (simp only [ix_add, ix_mul, ix_pred]; done) | (simp only [ix_add, ix_mul, ix_pred, *]; done)) (by omega) (by decide) (by simp only [wI_fr, says_fr, put_fr, takes_fr, hears_fr, dat_fr, dw_fr, ans_fr, eff_fr, tell_fr, ne_eq, Nat.reduceEqDiff, not_false_eq_true, hx]) rfl ?_
    refine xi_icmpt (pc' := 201) rfl rfl (by decide) ?_
    refine xi_iincv (y := nI 4) (pc' := 204) rfl rfl (by decide) (st1_7 rfl) rfl ?_
    refine xi_goto (pc' := 116) rfl rfl ?_
    refine xi_iload (pc' := 118) rfl rfl rfl ?_
    refine xi_bipush (pc' := 120) rfl (by decide) rfl ?_
    refine xi_icmpf (pc' := 123) (tg := 207) rfl rfl (by decide) rfl ?_
    refine xi_iload_n (pc' := 124) rfl rfl rfl ?_
    refine xi_iff (pc' := 127) (tg := 138) rfl rfl (by decide) rfl ?_
    refine xi_iload (pc' := 129) rfl rfl rfl ?_
    refine xi_aload_n (pc' := 130) rfl rfl rfl ?_
    refine xr_getp (pc' := 133) rfl rfl (by decide) rfl rfl rfl ?_
    refine xi_iload_n (pc' := 134) rfl rfl rfl ?_
    refine xr_ialdv (v := nI (0)) (j := m) (pc' := 135) rfl rfl (by decide) (by first | rfl | (simp only [ix_add, ix_mul, ix_pred]; done) | (simp only [ix_add, ix_mul, ix_pred, *]; done)) (by omega) (by decide) (by simp only [wI_fr, says_fr, put_fr, takes_fr, hears_fr, dat_fr, dw_fr, ans_fr, eff_fr, tell_fr, ne_eq, Nat.reduceEqDiff, not_false_eq_true, hx]) rfl ?_
    refine xi_icmpt (pc' := 201) rfl rfl (by decide) ?_
    refine xi_iincv (y := nI 5) (pc' := 204) rfl rfl (by decide) (st1_7 rfl) rfl ?_
    refine xi_goto (pc' := 116) rfl rfl ?_
    refine xi_iload (pc' := 118) rfl rfl rfl ?_
    refine xi_bipush (pc' := 120) rfl (by decide) rfl ?_
    refine xi_icmpf (pc' := 123) (tg := 207) rfl rfl (by decide) rfl ?_
    refine xi_iload_n (pc' := 124) rfl rfl rfl ?_
    refine xi_iff (pc' := 127) (tg := 138) rfl rfl (by decide) rfl ?_
    refine xi_iload (pc' := 129) rfl rfl rfl ?_
    refine xi_aload_n (pc' := 130) rfl rfl rfl ?_
    refine xr_getp (pc' := 133) rfl rfl (by decide) rfl rfl rfl ?_
    refine xi_iload_n (pc' := 134) rfl rfl rfl ?_
    refine xr_ialdv (v := nI (0)) (j := m) (pc' := 135) rfl rfl (by decide) (by first | rfl | (simp only [ix_add, ix_mul, ix_pred]; done) | (simp only [ix_add, ix_mul, ix_pred, *]; done)) (by omega) (by decide) (by simp only [wI_fr, says_fr, put_fr, takes_fr, hears_fr, dat_fr, dw_fr, ans_fr, eff_fr, tell_fr, ne_eq, Nat.reduceEqDiff, not_false_eq_true, hx]) rfl ?_
    refine xi_icmpt (pc' := 201) rfl rfl (by decide) ?_
    refine xi_iincv (y := nI 6) (pc' := 204) rfl rfl (by decide) (st1_7 rfl) rfl ?_
    refine xi_goto (pc' := 116) rfl rfl ?_
    refine xi_iload (pc' := 118) rfl rfl rfl ?_
    refine xi_bipush (pc' := 120) rfl (by decide) rfl ?_
    refine xi_icmpt (pc' := 207) rfl rfl (by decide) ?_
    refine xi_iload (pc' := 209) rfl rfl rfl ?_
    refine xi_iff (pc' := 212) (tg := 216) rfl rfl (by decide) rfl ?_
    refine xi_iload_n (pc' := 213) rfl rfl rfl ?_
    refine xi_ift (pc' := 220) rfl rfl (by decide) ?_
    refine xi_iconst (pc' := 221) rfl rfl ?_
    refine xx_zreturn rfl rfl (by decide) ?_
    simp only [ex_P, Classical.not_not, ↓reduceIte, Nat.add_zero, or_true, true_or, not_true_eq_false, not_false_eq_true, or_false, false_or, wI_get, false_and, true_and, and_true, and_false, and_self, Nat.reduceEqDiff, Nat.succ_ne_zero, reduceCtorEq, nI_lit, nI_lit0, Nat.reduceLT] at *
    first | (simp only [r_give, r_g1, r_g2, r_g3, r_g4, *, ↓reduceIte, Nat.add_zero, or_true, true_or, not_true_eq_false, not_false_eq_true, or_false, false_or, wI_get, false_and, true_and, and_true, and_false, and_self, Nat.reduceEqDiff, Nat.succ_ne_zero, reduceCtorEq, nI_lit, nI_lit0, Nat.reduceLT]; done) | (exfalso; simp_all only [↓reduceIte, Nat.add_zero, or_true, true_or, not_true_eq_false, not_false_eq_true, or_false, false_or, wI_get, false_and, true_and, and_true, and_false, and_self, Nat.reduceEqDiff, Nat.succ_ne_zero, reduceCtorEq, nI_lit, nI_lit0, Nat.reduceLT]; done)
  · refine xi_aload_n (pc' := 154) rfl rfl rfl ?_
    refine xi_iload (pc' := 156) rfl rfl rfl ?_
    refine xi_aload_n (pc' := 157) rfl rfl rfl ?_
    refine xr_getp (pc' := 160) rfl rfl (by decide) rfl rfl rfl ?_
    refine xi_iload_n (pc' := 161) rfl rfl rfl ?_
    refine xr_ialdv (v := nI (s + 1)) (j := m) (pc' := 162) rfl rfl (by decide) (by first | rfl | (simp only [ix_add, ix_mul, ix_pred]; done) | (simp only [ix_add, ix_mul, ix_pred, *]; done)) (by omega) (by decide) (by simp only [wI_fr, says_fr, put_fr, takes_fr, hears_fr, dat_fr, dw_fr, ans_fr, eff_fr, tell_fr, ne_eq, Nat.reduceEqDiff, not_false_eq_true, hsb]) rfl ?_
    refine xi_aload_n (pc' := 163) rfl rfl rfl ?_
    refine xr_getp (pc' := 166) rfl rfl (by decide) rfl rfl rfl ?_
    refine xi_iload_n (pc' := 167) rfl rfl rfl ?_
    refine xr_ialdv (v := nI (nn)) (j := m) (pc' := 168) rfl rfl (by decide) (by first | rfl | (simp only [ix_add, ix_mul, ix_pred]; done) | (simp only [ix_add, ix_mul, ix_pred, *]; done)) (by omega) (by decide) (by simp only [wI_fr, says_fr, put_fr, takes_fr, hears_fr, dat_fr, dw_fr, ans_fr, eff_fr, tell_fr, ne_eq, Nat.reduceEqDiff, not_false_eq_true, hn]) rfl ?_
    refine xi_iload_n (pc' := 169) rfl rfl rfl ?_
    refine xx_callVi (pc' := 172) rfl rfl (by decide) rfl rfl (by show _ < 81 + 2 * _; omega) (Nat.le_of_ble_eq_true rfl) rfl rfl (r_takes_ok (t := 0) (by decide) hs h1 h4 (by decide)) ?_
    refine xi_istore (pc' := 174) rfl (st1_8 rfl) rfl ?_
    refine xi_iload (pc' := 176) rfl rfl rfl ?_
    refine xx_if (pc' := 179) (tg := 201) rfl rfl rfl (fun q176 => ?_) (fun q176 => ?_)
    · refine xi_iincv (y := nI 1) (pc' := 204) rfl rfl (by decide) (st1_7 rfl) rfl ?_
      refine xi_goto (pc' := 116) rfl rfl ?_
      refine xi_iload (pc' := 118) rfl rfl rfl ?_
      refine xi_bipush (pc' := 120) rfl (by decide) rfl ?_
      refine xi_icmpf (pc' := 123) (tg := 207) rfl rfl (by decide) rfl ?_
      refine xi_iload_n (pc' := 124) rfl rfl rfl ?_
      refine xi_iff (pc' := 127) (tg := 138) rfl rfl (by decide) rfl ?_
      refine xi_iload (pc' := 129) rfl rfl rfl ?_
      refine xi_aload_n (pc' := 130) rfl rfl rfl ?_
      refine xr_getp (pc' := 133) rfl rfl (by decide) rfl rfl rfl ?_
      refine xi_iload_n (pc' := 134) rfl rfl rfl ?_
      refine xr_ialdv (v := nI (0)) (j := m) (pc' := 135) rfl rfl (by decide) (by first | rfl | (simp only [ix_add, ix_mul, ix_pred]; done) | (simp only [ix_add, ix_mul, ix_pred, *]; done)) (by omega) (by decide) (by simp only [wI_fr, says_fr, put_fr, takes_fr, hears_fr, dat_fr, dw_fr, ans_fr, eff_fr, tell_fr, ne_eq, Nat.reduceEqDiff, not_false_eq_true, hx]) rfl ?_
      refine xi_icmpt (pc' := 201) rfl rfl (by decide) ?_
      refine xi_iincv (y := nI 2) (pc' := 204) rfl rfl (by decide) (st1_7 rfl) rfl ?_
      refine xi_goto (pc' := 116) rfl rfl ?_
      refine xi_iload (pc' := 118) rfl rfl rfl ?_
      refine xi_bipush (pc' := 120) rfl (by decide) rfl ?_
      refine xi_icmpf (pc' := 123) (tg := 207) rfl rfl (by decide) rfl ?_
      refine xi_iload_n (pc' := 124) rfl rfl rfl ?_
      refine xi_iff (pc' := 127) (tg := 138) rfl rfl (by decide) rfl ?_
      refine xi_iload (pc' := 129) rfl rfl rfl ?_
      refine xi_aload_n (pc' := 130) rfl rfl rfl ?_
      refine xr_getp (pc' := 133) rfl rfl (by decide) rfl rfl rfl ?_
      refine xi_iload_n (pc' := 134) rfl rfl rfl ?_
      refine xr_ialdv (v := nI (0)) (j := m) (pc' := 135) rfl rfl (by decide) (by first | rfl | (simp only [ix_add, ix_mul, ix_pred]; done) | (simp only [ix_add, ix_mul, ix_pred, *]; done)) (by omega) (by decide) (by simp only [wI_fr, says_fr, put_fr, takes_fr, hears_fr, dat_fr, dw_fr, ans_fr, eff_fr, tell_fr, ne_eq, Nat.reduceEqDiff, not_false_eq_true, hx]) rfl ?_
      refine xi_icmpt (pc' := 201) rfl rfl (by decide) ?_
      refine xi_iincv (y := nI 3) (pc' := 204) rfl rfl (by decide) (st1_7 rfl) rfl ?_
      refine xi_goto (pc' := 116) rfl rfl ?_
      refine xi_iload (pc' := 118) rfl rfl rfl ?_
      refine xi_bipush (pc' := 120) rfl (by decide) rfl ?_
      refine xi_icmpf (pc' := 123) (tg := 207) rfl rfl (by decide) rfl ?_
      refine xi_iload_n (pc' := 124) rfl rfl rfl ?_
      refine xi_iff (pc' := 127) (tg := 138) rfl rfl (by decide) rfl ?_
      refine xi_iload (pc' := 129) rfl rfl rfl ?_
      refine xi_aload_n (pc' := 130) rfl rfl rfl ?_
      refine xr_getp (pc' := 133) rfl rfl (by decide) rfl rfl rfl ?_
      refine xi_iload_n (pc' := 134) rfl rfl rfl ?_
      refine xr_ialdv (v := nI (0)) (j := m) (pc' := 135) rfl rfl (by decide) (by first | rfl | (simp only [ix_add, ix_mul, ix_pred]; done) | (simp only [ix_add, ix_mul, ix_pred, *]; done)) (by omega) (by decide) (by simp only [wI_fr, says_fr, put_fr, takes_fr, hears_fr, dat_fr, dw_fr, ans_fr, eff_fr, tell_fr, ne_eq, Nat.reduceEqDiff, not_false_eq_true, hx]) rfl ?_
      refine xi_icmpt (pc' := 201) rfl rfl (by decide) ?_
      refine xi_iincv (y := nI 4) (pc' := 204) rfl rfl (by decide) (st1_7 rfl) rfl ?_
      refine xi_goto (pc' := 116) rfl rfl ?_
      refine xi_iload (pc' := 118) rfl rfl rfl ?_
      refine xi_bipush (pc' := 120) rfl (by decide) rfl ?_
      refine xi_icmpf (pc' := 123) (tg := 207) rfl rfl (by decide) rfl ?_
      refine xi_iload_n (pc' := 124) rfl rfl rfl ?_
      refine xi_iff (pc' := 127) (tg := 138) rfl rfl (by decide) rfl ?_
      refine xi_iload (pc' := 129) rfl rfl rfl ?_
      refine xi_aload_n (pc' := 130) rfl rfl rfl ?_
      refine xr_getp (pc' := 133) rfl rfl (by decide) rfl rfl rfl ?_
      refine xi_iload_n (pc' := 134) rfl rfl rfl ?_
      refine xr_ialdv (v := nI (0)) (j := m) (pc' := 135) rfl rfl (by decide) (by first | rfl | (simp only [ix_add, ix_mul, ix_pred]; done) | (simp only [ix_add, ix_mul, ix_pred, *]; done)) (by omega) (by decide) (by simp only [wI_fr, says_fr, put_fr, takes_fr, hears_fr, dat_fr, dw_fr, ans_fr, eff_fr, tell_fr, ne_eq, Nat.reduceEqDiff, not_false_eq_true, hx]) rfl ?_
      refine xi_icmpt (pc' := 201) rfl rfl (by decide) ?_
      refine xi_iincv (y := nI 5) (pc' := 204) rfl rfl (by decide) (st1_7 rfl) rfl ?_
      refine xi_goto (pc' := 116) rfl rfl ?_
      refine xi_iload (pc' := 118) rfl rfl rfl ?_
      refine xi_bipush (pc' := 120) rfl (by decide) rfl ?_
      refine xi_icmpf (pc' := 123) (tg := 207) rfl rfl (by decide) rfl ?_
      refine xi_iload_n (pc' := 124) rfl rfl rfl ?_
      refine xi_iff (pc' := 127) (tg := 138) rfl rfl (by decide) rfl ?_
      refine xi_iload (pc' := 129) rfl rfl rfl ?_
      refine xi_aload_n (pc' := 130) rfl rfl rfl ?_
      refine xr_getp (pc' := 133) rfl rfl (by decide) rfl rfl rfl ?_
      refine xi_iload_n (pc' := 134) rfl rfl rfl ?_
      refine xr_ialdv (v := nI (0)) (j := m) (pc' := 135) rfl rfl (by decide) (by first | rfl | (simp only [ix_add, ix_mul, ix_pred]; done) | (simp only [ix_add, ix_mul, ix_pred, *]; done)) (by omega) (by decide) (by simp only [wI_fr, says_fr, put_fr, takes_fr, hears_fr, dat_fr, dw_fr, ans_fr, eff_fr, tell_fr, ne_eq, Nat.reduceEqDiff, not_false_eq_true, hx]) rfl ?_
      refine xi_icmpt (pc' := 201) rfl rfl (by decide) ?_
      refine xi_iincv (y := nI 6) (pc' := 204) rfl rfl (by decide) (st1_7 rfl) rfl ?_
      refine xi_goto (pc' := 116) rfl rfl ?_
      refine xi_iload (pc' := 118) rfl rfl rfl ?_
      refine xi_bipush (pc' := 120) rfl (by decide) rfl ?_
      refine xi_icmpt (pc' := 207) rfl rfl (by decide) ?_
      refine xi_iload (pc' := 209) rfl rfl rfl ?_
      refine xi_iff (pc' := 212) (tg := 216) rfl rfl (by decide) rfl ?_
      refine xi_iload_n (pc' := 213) rfl rfl rfl ?_
      refine xi_ift (pc' := 220) rfl rfl (by decide) ?_
      refine xi_iconst (pc' := 221) rfl rfl ?_
      refine xx_zreturn rfl rfl (by decide) ?_
      simp only [ex_P, Classical.not_not, ↓reduceIte, Nat.add_zero, or_true, true_or, not_true_eq_false, not_false_eq_true, or_false, false_or, wI_get, false_and, true_and, and_true, and_false, and_self, Nat.reduceEqDiff, Nat.succ_ne_zero, reduceCtorEq, nI_lit, nI_lit0, Nat.reduceLT] at *
      first | (simp only [r_give, r_g1, r_g2, r_g3, r_g4, *, ↓reduceIte, Nat.add_zero, or_true, true_or, not_true_eq_false, not_false_eq_true, or_false, false_or, wI_get, false_and, true_and, and_true, and_false, and_self, Nat.reduceEqDiff, Nat.succ_ne_zero, reduceCtorEq, nI_lit, nI_lit0, Nat.reduceLT]; done) | (exfalso; simp_all only [↓reduceIte, Nat.add_zero, or_true, true_or, not_true_eq_false, not_false_eq_true, or_false, false_or, wI_get, false_and, true_and, and_true, and_false, and_self, Nat.reduceEqDiff, Nat.succ_ne_zero, reduceCtorEq, nI_lit, nI_lit0, Nat.reduceLT]; done)
    · refine xi_iload_n (pc' := 180) rfl rfl rfl ?_
      refine xi_iff (pc' := 183) (tg := 201) rfl rfl (by decide) rfl ?_
      refine xi_aload_n (pc' := 184) rfl rfl rfl ?_
      refine xi_iload (pc' := 186) rfl rfl rfl ?_
      refine xi_iload_n (pc' := 187) rfl rfl rfl ?_
      refine xx_callVi (pc' := 190) rfl rfl (by decide) rfl rfl (by show _ < 81 + 2 * _; omega) (Nat.le_of_ble_eq_true rfl) rfl rfl (r_saysStatus (t := 0) (by decide) hb (g3_hw (x := 0) hh (by omega)) (by omega)) ?_
      refine xi_iconst (pc' := 191) rfl rfl ?_
      refine xx_icmp (pc' := 194) (tg := 198) rfl rfl rfl (fun q191 => ?_) (fun q191 => ?_)
      · refine xi_iconst (pc' := 199) rfl rfl ?_
        refine xi_istore (pc' := 201) rfl (st1_6 rfl) rfl ?_
        refine xi_iincv (y := nI 1) (pc' := 204) rfl rfl (by decide) (st1_7 rfl) rfl ?_
        refine xi_goto (pc' := 116) rfl rfl ?_
        refine xi_iload (pc' := 118) rfl rfl rfl ?_
        refine xi_bipush (pc' := 120) rfl (by decide) rfl ?_
        refine xi_icmpf (pc' := 123) (tg := 207) rfl rfl (by decide) rfl ?_
        refine xi_iload_n (pc' := 124) rfl rfl rfl ?_
        refine xi_iff (pc' := 127) (tg := 138) rfl rfl (by decide) rfl ?_
        refine xi_iload (pc' := 129) rfl rfl rfl ?_
        refine xi_aload_n (pc' := 130) rfl rfl rfl ?_
        refine xr_getp (pc' := 133) rfl rfl (by decide) rfl rfl rfl ?_
        refine xi_iload_n (pc' := 134) rfl rfl rfl ?_
        refine xr_ialdv (v := nI (0)) (j := m) (pc' := 135) rfl rfl (by decide) (by first | rfl | (simp only [ix_add, ix_mul, ix_pred]; done) | (simp only [ix_add, ix_mul, ix_pred, *]; done)) (by omega) (by decide) (by simp only [wI_fr, says_fr, put_fr, takes_fr, hears_fr, dat_fr, dw_fr, ans_fr, eff_fr, tell_fr, ne_eq, Nat.reduceEqDiff, not_false_eq_true, hx]) rfl ?_
        refine xi_icmpt (pc' := 201) rfl rfl (by decide) ?_
        refine xi_iincv (y := nI 2) (pc' := 204) rfl rfl (by decide) (st1_7 rfl) rfl ?_
        refine xi_goto (pc' := 116) rfl rfl ?_
        refine xi_iload (pc' := 118) rfl rfl rfl ?_
        refine xi_bipush (pc' := 120) rfl (by decide) rfl ?_
        refine xi_icmpf (pc' := 123) (tg := 207) rfl rfl (by decide) rfl ?_
        refine xi_iload_n (pc' := 124) rfl rfl rfl ?_
        refine xi_iff (pc' := 127) (tg := 138) rfl rfl (by decide) rfl ?_
        refine xi_iload (pc' := 129) rfl rfl rfl ?_
        refine xi_aload_n (pc' := 130) rfl rfl rfl ?_
        refine xr_getp (pc' := 133) rfl rfl (by decide) rfl rfl rfl ?_
        refine xi_iload_n (pc' := 134) rfl rfl rfl ?_
        refine xr_ialdv (v := nI (0)) (j := m) (pc' := 135) rfl rfl (by decide) (by first | rfl | (simp only [ix_add, ix_mul, ix_pred]; done) | (simp only [ix_add, ix_mul, ix_pred, *]; done)) (by omega) (by decide) (by simp only [wI_fr, says_fr, put_fr, takes_fr, hears_fr, dat_fr, dw_fr, ans_fr, eff_fr, tell_fr, ne_eq, Nat.reduceEqDiff, not_false_eq_true, hx]) rfl ?_
        refine xi_icmpt (pc' := 201) rfl rfl (by decide) ?_
        refine xi_iincv (y := nI 3) (pc' := 204) rfl rfl (by decide) (st1_7 rfl) rfl ?_
        refine xi_goto (pc' := 116) rfl rfl ?_
        refine xi_iload (pc' := 118) rfl rfl rfl ?_
        refine xi_bipush (pc' := 120) rfl (by decide) rfl ?_
        refine xi_icmpf (pc' := 123) (tg := 207) rfl rfl (by decide) rfl ?_
        refine xi_iload_n (pc' := 124) rfl rfl rfl ?_
        refine xi_iff (pc' := 127) (tg := 138) rfl rfl (by decide) rfl ?_
        refine xi_iload (pc' := 129) rfl rfl rfl ?_
        refine xi_aload_n (pc' := 130) rfl rfl rfl ?_
        refine xr_getp (pc' := 133) rfl rfl (by decide) rfl rfl rfl ?_
        refine xi_iload_n (pc' := 134) rfl rfl rfl ?_
        refine xr_ialdv (v := nI (0)) (j := m) (pc' := 135) rfl rfl (by decide) (by first | rfl | (simp only [ix_add, ix_mul, ix_pred]; done) | (simp only [ix_add, ix_mul, ix_pred, *]; done)) (by omega) (by decide) (by simp only [wI_fr, says_fr, put_fr, takes_fr, hears_fr, dat_fr, dw_fr, ans_fr, eff_fr, tell_fr, ne_eq, Nat.reduceEqDiff, not_false_eq_true, hx]) rfl ?_
        refine xi_icmpt (pc' := 201) rfl rfl (by decide) ?_
        refine xi_iincv (y := nI 4) (pc' := 204) rfl rfl (by decide) (st1_7 rfl) rfl ?_
        refine xi_goto (pc' := 116) rfl rfl ?_
        refine xi_iload (pc' := 118) rfl rfl rfl ?_
        refine xi_bipush (pc' := 120) rfl (by decide) rfl ?_
        refine xi_icmpf (pc' := 123) (tg := 207) rfl rfl (by decide) rfl ?_
        refine xi_iload_n (pc' := 124) rfl rfl rfl ?_
        refine xi_iff (pc' := 127) (tg := 138) rfl rfl (by decide) rfl ?_
        refine xi_iload (pc' := 129) rfl rfl rfl ?_
        refine xi_aload_n (pc' := 130) rfl rfl rfl ?_
        refine xr_getp (pc' := 133) rfl rfl (by decide) rfl rfl rfl ?_
        refine xi_iload_n (pc' := 134) rfl rfl rfl ?_
        refine xr_ialdv (v := nI (0)) (j := m) (pc' := 135) rfl rfl (by decide) (by first | rfl | (simp only [ix_add, ix_mul, ix_pred]; done) | (simp only [ix_add, ix_mul, ix_pred, *]; done)) (by omega) (by decide) (by simp only [wI_fr, says_fr, put_fr, takes_fr, hears_fr, dat_fr, dw_fr, ans_fr, eff_fr, tell_fr, ne_eq, Nat.reduceEqDiff, not_false_eq_true, hx]) rfl ?_
        refine xi_icmpt (pc' := 201) rfl rfl (by decide) ?_
        refine xi_iincv (y := nI 5) (pc' := 204) rfl rfl (by decide) (st1_7 rfl) rfl ?_
        refine xi_goto (pc' := 116) rfl rfl ?_
        refine xi_iload (pc' := 118) rfl rfl rfl ?_
        refine xi_bipush (pc' := 120) rfl (by decide) rfl ?_
        refine xi_icmpf (pc' := 123) (tg := 207) rfl rfl (by decide) rfl ?_
        refine xi_iload_n (pc' := 124) rfl rfl rfl ?_
        refine xi_iff (pc' := 127) (tg := 138) rfl rfl (by decide) rfl ?_
        refine xi_iload (pc' := 129) rfl rfl rfl ?_
        refine xi_aload_n (pc' := 130) rfl rfl rfl ?_
        refine xr_getp (pc' := 133) rfl rfl (by decide) rfl rfl rfl ?_
        refine xi_iload_n (pc' := 134) rfl rfl rfl ?_
        refine xr_ialdv (v := nI (0)) (j := m) (pc' := 135) rfl rfl (by decide) (by first | rfl | (simp only [ix_add, ix_mul, ix_pred]; done) | (simp only [ix_add, ix_mul, ix_pred, *]; done)) (by omega) (by decide) (by simp only [wI_fr, says_fr, put_fr, takes_fr, hears_fr, dat_fr, dw_fr, ans_fr, eff_fr, tell_fr, ne_eq, Nat.reduceEqDiff, not_false_eq_true, hx]) rfl ?_
        refine xi_icmpt (pc' := 201) rfl rfl (by decide) ?_
        refine xi_iincv (y := nI 6) (pc' := 204) rfl rfl (by decide) (st1_7 rfl) rfl ?_
        refine xi_goto (pc' := 116) rfl rfl ?_
        refine xi_iload (pc' := 118) rfl rfl rfl ?_
        refine xi_bipush (pc' := 120) rfl (by decide) rfl ?_
        refine xi_icmpt (pc' := 207) rfl rfl (by decide) ?_
        refine xi_iload (pc' := 209) rfl rfl rfl ?_
        refine xi_iff (pc' := 212) (tg := 216) rfl rfl (by decide) rfl ?_
        refine xi_iload_n (pc' := 213) rfl rfl rfl ?_
        refine xi_ift (pc' := 220) rfl rfl (by decide) ?_
        refine xi_iconst (pc' := 221) rfl rfl ?_
        refine xx_zreturn rfl rfl (by decide) ?_
        simp only [ex_P, Classical.not_not, ↓reduceIte, Nat.add_zero, or_true, true_or, not_true_eq_false, not_false_eq_true, or_false, false_or, wI_get, false_and, true_and, and_true, and_false, and_self, Nat.reduceEqDiff, Nat.succ_ne_zero, reduceCtorEq, nI_lit, nI_lit0, Nat.reduceLT] at *
        first | (simp only [r_give, r_g1, r_g2, r_g3, r_g4, *, ↓reduceIte, Nat.add_zero, or_true, true_or, not_true_eq_false, not_false_eq_true, or_false, false_or, wI_get, false_and, true_and, and_true, and_false, and_self, Nat.reduceEqDiff, Nat.succ_ne_zero, reduceCtorEq, nI_lit, nI_lit0, Nat.reduceLT]; done) | (exfalso; simp_all only [↓reduceIte, Nat.add_zero, or_true, true_or, not_true_eq_false, not_false_eq_true, or_false, false_or, wI_get, false_and, true_and, and_true, and_false, and_self, Nat.reduceEqDiff, Nat.succ_ne_zero, reduceCtorEq, nI_lit, nI_lit0, Nat.reduceLT]; done)
      · refine xi_iconst (pc' := 195) rfl rfl ?_
        refine xi_goto (pc' := 199) rfl rfl ?_
        refine xi_istore (pc' := 201) rfl (st1_6 rfl) rfl ?_
        refine xi_iincv (y := nI 1) (pc' := 204) rfl rfl (by decide) (st1_7 rfl) rfl ?_
        refine xi_goto (pc' := 116) rfl rfl ?_
        refine xi_iload (pc' := 118) rfl rfl rfl ?_
        refine xi_bipush (pc' := 120) rfl (by decide) rfl ?_
        refine xi_icmpf (pc' := 123) (tg := 207) rfl rfl (by decide) rfl ?_
        refine xi_iload_n (pc' := 124) rfl rfl rfl ?_
        refine xi_iff (pc' := 127) (tg := 138) rfl rfl (by decide) rfl ?_
        refine xi_iload (pc' := 129) rfl rfl rfl ?_
        refine xi_aload_n (pc' := 130) rfl rfl rfl ?_
        refine xr_getp (pc' := 133) rfl rfl (by decide) rfl rfl rfl ?_
        refine xi_iload_n (pc' := 134) rfl rfl rfl ?_
        refine xr_ialdv (v := nI (0)) (j := m) (pc' := 135) rfl rfl (by decide) (by first | rfl | (simp only [ix_add, ix_mul, ix_pred]; done) | (simp only [ix_add, ix_mul, ix_pred, *]; done)) (by omega) (by decide) (by simp only [wI_fr, says_fr, put_fr, takes_fr, hears_fr, dat_fr, dw_fr, ans_fr, eff_fr, tell_fr, ne_eq, Nat.reduceEqDiff, not_false_eq_true, hx]) rfl ?_
        refine xi_icmpt (pc' := 201) rfl rfl (by decide) ?_
        refine xi_iincv (y := nI 2) (pc' := 204) rfl rfl (by decide) (st1_7 rfl) rfl ?_
        refine xi_goto (pc' := 116) rfl rfl ?_
        refine xi_iload (pc' := 118) rfl rfl rfl ?_
        refine xi_bipush (pc' := 120) rfl (by decide) rfl ?_
        refine xi_icmpf (pc' := 123) (tg := 207) rfl rfl (by decide) rfl ?_
        refine xi_iload_n (pc' := 124) rfl rfl rfl ?_
        refine xi_iff (pc' := 127) (tg := 138) rfl rfl (by decide) rfl ?_
        refine xi_iload (pc' := 129) rfl rfl rfl ?_
        refine xi_aload_n (pc' := 130) rfl rfl rfl ?_
        refine xr_getp (pc' := 133) rfl rfl (by decide) rfl rfl rfl ?_
        refine xi_iload_n (pc' := 134) rfl rfl rfl ?_
        refine xr_ialdv (v := nI (0)) (j := m) (pc' := 135) rfl rfl (by decide) (by first | rfl | (simp only [ix_add, ix_mul, ix_pred]; done) | (simp only [ix_add, ix_mul, ix_pred, *]; done)) (by omega) (by decide) (by simp only [wI_fr, says_fr, put_fr, takes_fr, hears_fr, dat_fr, dw_fr, ans_fr, eff_fr, tell_fr, ne_eq, Nat.reduceEqDiff, not_false_eq_true, hx]) rfl ?_
        refine xi_icmpt (pc' := 201) rfl rfl (by decide) ?_
        refine xi_iincv (y := nI 3) (pc' := 204) rfl rfl (by decide) (st1_7 rfl) rfl ?_
        refine xi_goto (pc' := 116) rfl rfl ?_
        refine xi_iload (pc' := 118) rfl rfl rfl ?_
        refine xi_bipush (pc' := 120) rfl (by decide) rfl ?_
        refine xi_icmpf (pc' := 123) (tg := 207) rfl rfl (by decide) rfl ?_
        refine xi_iload_n (pc' := 124) rfl rfl rfl ?_
        refine xi_iff (pc' := 127) (tg := 138) rfl rfl (by decide) rfl ?_
        refine xi_iload (pc' := 129) rfl rfl rfl ?_
        refine xi_aload_n (pc' := 130) rfl rfl rfl ?_
        refine xr_getp (pc' := 133) rfl rfl (by decide) rfl rfl rfl ?_
        refine xi_iload_n (pc' := 134) rfl rfl rfl ?_
        refine xr_ialdv (v := nI (0)) (j := m) (pc' := 135) rfl rfl (by decide) (by first | rfl | (simp only [ix_add, ix_mul, ix_pred]; done) | (simp only [ix_add, ix_mul, ix_pred, *]; done)) (by omega) (by decide) (by simp only [wI_fr, says_fr, put_fr, takes_fr, hears_fr, dat_fr, dw_fr, ans_fr, eff_fr, tell_fr, ne_eq, Nat.reduceEqDiff, not_false_eq_true, hx]) rfl ?_
        refine xi_icmpt (pc' := 201) rfl rfl (by decide) ?_
        refine xi_iincv (y := nI 4) (pc' := 204) rfl rfl (by decide) (st1_7 rfl) rfl ?_
        refine xi_goto (pc' := 116) rfl rfl ?_
        refine xi_iload (pc' := 118) rfl rfl rfl ?_
        refine xi_bipush (pc' := 120) rfl (by decide) rfl ?_
        refine xi_icmpf (pc' := 123) (tg := 207) rfl rfl (by decide) rfl ?_
        refine xi_iload_n (pc' := 124) rfl rfl rfl ?_
        refine xi_iff (pc' := 127) (tg := 138) rfl rfl (by decide) rfl ?_
        refine xi_iload (pc' := 129) rfl rfl rfl ?_
        refine xi_aload_n (pc' := 130) rfl rfl rfl ?_
        refine xr_getp (pc' := 133) rfl rfl (by decide) rfl rfl rfl ?_
        refine xi_iload_n (pc' := 134) rfl rfl rfl ?_
        refine xr_ialdv (v := nI (0)) (j := m) (pc' := 135) rfl rfl (by decide) (by first | rfl | (simp only [ix_add, ix_mul, ix_pred]; done) | (simp only [ix_add, ix_mul, ix_pred, *]; done)) (by omega) (by decide) (by simp only [wI_fr, says_fr, put_fr, takes_fr, hears_fr, dat_fr, dw_fr, ans_fr, eff_fr, tell_fr, ne_eq, Nat.reduceEqDiff, not_false_eq_true, hx]) rfl ?_
        refine xi_icmpt (pc' := 201) rfl rfl (by decide) ?_
        refine xi_iincv (y := nI 5) (pc' := 204) rfl rfl (by decide) (st1_7 rfl) rfl ?_
        refine xi_goto (pc' := 116) rfl rfl ?_
        refine xi_iload (pc' := 118) rfl rfl rfl ?_
        refine xi_bipush (pc' := 120) rfl (by decide) rfl ?_
        refine xi_icmpf (pc' := 123) (tg := 207) rfl rfl (by decide) rfl ?_
        refine xi_iload_n (pc' := 124) rfl rfl rfl ?_
        refine xi_iff (pc' := 127) (tg := 138) rfl rfl (by decide) rfl ?_
        refine xi_iload (pc' := 129) rfl rfl rfl ?_
        refine xi_aload_n (pc' := 130) rfl rfl rfl ?_
        refine xr_getp (pc' := 133) rfl rfl (by decide) rfl rfl rfl ?_
        refine xi_iload_n (pc' := 134) rfl rfl rfl ?_
        refine xr_ialdv (v := nI (0)) (j := m) (pc' := 135) rfl rfl (by decide) (by first | rfl | (simp only [ix_add, ix_mul, ix_pred]; done) | (simp only [ix_add, ix_mul, ix_pred, *]; done)) (by omega) (by decide) (by simp only [wI_fr, says_fr, put_fr, takes_fr, hears_fr, dat_fr, dw_fr, ans_fr, eff_fr, tell_fr, ne_eq, Nat.reduceEqDiff, not_false_eq_true, hx]) rfl ?_
        refine xi_icmpt (pc' := 201) rfl rfl (by decide) ?_
        refine xi_iincv (y := nI 6) (pc' := 204) rfl rfl (by decide) (st1_7 rfl) rfl ?_
        refine xi_goto (pc' := 116) rfl rfl ?_
        refine xi_iload (pc' := 118) rfl rfl rfl ?_
        refine xi_bipush (pc' := 120) rfl (by decide) rfl ?_
        refine xi_icmpt (pc' := 207) rfl rfl (by decide) ?_
        refine xi_iload (pc' := 209) rfl rfl rfl ?_
        refine xi_ift (pc' := 216) rfl rfl (by decide) ?_
        refine xi_iconst (pc' := 217) rfl rfl ?_
        refine xi_goto (pc' := 221) rfl rfl ?_
        refine xx_zreturn rfl rfl (by decide) ?_
        simp only [ex_P, Classical.not_not, ↓reduceIte, Nat.add_zero, or_true, true_or, not_true_eq_false, not_false_eq_true, or_false, false_or, wI_get, false_and, true_and, and_true, and_false, and_self, Nat.reduceEqDiff, Nat.succ_ne_zero, reduceCtorEq, nI_lit, nI_lit0, Nat.reduceLT] at *
        first | (simp only [r_give, r_g1, r_g2, r_g3, r_g4, *, ↓reduceIte, Nat.add_zero, or_true, true_or, not_true_eq_false, not_false_eq_true, or_false, false_or, wI_get, false_and, true_and, and_true, and_false, and_self, Nat.reduceEqDiff, Nat.succ_ne_zero, reduceCtorEq, nI_lit, nI_lit0, Nat.reduceLT]; done) | (exfalso; simp_all only [↓reduceIte, Nat.add_zero, or_true, true_or, not_true_eq_false, not_false_eq_true, or_false, false_or, wI_get, false_and, true_and, and_true, and_false, and_self, Nat.reduceEqDiff, Nat.succ_ne_zero, reduceCtorEq, nI_lit, nI_lit0, Nat.reduceLT]; done)
theorem r_gives_0_1 {L : Nat} {xs : Nat → Int32} {D n : Nat} {I J : ex_Mem} {m s nn b N : Nat} (hk : J 69 m = nI 0) (hx : J 70 m = nI 1) (hm : m < 8) (hb : b < 2) (hs : s < 3) (h1 : 1 ≤ nn) (h4 : nn ≤ 4) (hsb : J 72 m = nI (s + 1)) (hn : J 73 m = nI nn) (hh : hwB N J) (hN : N + 8 < 2 ^ 31) (hg : gdB 0 J) : ri L xs (D + 3) 119 [.ref 52, .int (nI m), .int (nI b)] (mkH n I J) ((r_give J m 1 s nn b).1) (mkH n I (r_give J m 1 s nn b).2) := by
  show xx cb_G _ _ _ 119 0 [.ref 52, .int (nI m), .int (nI b), ex_no, ex_no, ex_no, ex_no, ex_no, ex_no] [] _ _
  refine xi_aload_n (pc' := 1) rfl rfl rfl ?_
  refine xr_getp (pc' := 4) rfl rfl (by decide) rfl rfl rfl ?_
  refine xi_iload_n (pc' := 5) rfl rfl rfl ?_
  refine xr_ialdv (v := nI (0)) (j := m) (pc' := 6) rfl rfl (by decide) (by first | rfl | (simp only [ix_add, ix_mul, ix_pred]; done) | (simp only [ix_add, ix_mul, ix_pred, *]; done)) (by omega) (by decide) (hk) rfl ?_
  refine xi_iconst (pc' := 7) rfl rfl ?_
  refine xi_icmpt (pc' := 14) rfl rfl (by decide) ?_
  refine xi_iconst (pc' := 15) rfl rfl ?_
  refine xi_istore_n (pc' := 16) rfl (st1_3 rfl) rfl ?_
  refine xi_iload_n (pc' := 17) rfl rfl rfl ?_
  refine xi_ift (pc' := 25) rfl rfl (by decide) ?_
  refine xi_aload_n (pc' := 26) rfl rfl rfl ?_
  refine xr_getp (pc' := 29) rfl rfl (by decide) rfl rfl rfl ?_
  refine xi_iload_n (pc' := 30) rfl rfl rfl ?_
  refine xr_ialdv (v := nI (1)) (j := m) (pc' := 31) rfl rfl (by decide) (by first | rfl | (simp only [ix_add, ix_mul, ix_pred]; done) | (simp only [ix_add, ix_mul, ix_pred, *]; done)) (by omega) (by decide) (hx) rfl ?_
  refine xi_iconst (pc' := 32) rfl rfl ?_
  refine xi_aload_n (pc' := 33) rfl rfl rfl ?_
  refine xr_getp (pc' := 36) rfl rfl (by decide) rfl rfl rfl ?_
  refine xi_iload_n (pc' := 37) rfl rfl rfl ?_
  refine xr_ialdv (v := nI (s + 1)) (j := m) (pc' := 38) rfl rfl (by decide) (by first | rfl | (simp only [ix_add, ix_mul, ix_pred]; done) | (simp only [ix_add, ix_mul, ix_pred, *]; done)) (by omega) (by decide) (hsb) rfl ?_
  refine xi_aload_n (pc' := 39) rfl rfl rfl ?_
  refine xr_getp (pc' := 42) rfl rfl (by decide) rfl rfl rfl ?_
  refine xi_iload_n (pc' := 43) rfl rfl rfl ?_
  refine xr_ialdv (v := nI (nn)) (j := m) (pc' := 44) rfl rfl (by decide) (by first | rfl | (simp only [ix_add, ix_mul, ix_pred]; done) | (simp only [ix_add, ix_mul, ix_pred, *]; done)) (by omega) (by decide) (hn) rfl ?_
  refine xx_callSi (pc' := 47) rfl rfl (by decide) rfl (Nat.le_of_ble_eq_true rfl) rfl rfl (r_commandW) ?_
  refine xi_istore (pc' := 49) rfl (st1_4 rfl) rfl ?_
  refine xi_aload_n (pc' := 50) rfl rfl rfl ?_
  refine xi_iload_n (pc' := 51) rfl rfl rfl ?_
  refine xi_iconst (pc' := 52) rfl rfl ?_
  refine xi_iload (pc' := 54) rfl rfl rfl ?_
  refine xx_callVi (pc' := 57) rfl rfl (by decide) rfl rfl (by show _ < 81 + 2 * _; omega) (Nat.le_of_ble_eq_true rfl) rfl rfl (r_put0 hb hh (by omega)) ?_
  refine xi_istore (pc' := 59) rfl (st1_5 rfl) rfl ?_
  refine xi_iconst (pc' := 60) rfl rfl ?_
  refine xi_istore (pc' := 62) rfl (st1_6 rfl) rfl ?_
  refine r_dat_loop (D := D) (N := N + 1) (g := 0) (fa := nI 0) hm h4 hb (hwB_put hh (by omega)) (by omega) (put_gdB hg) (by omega) ((put_fr (by decide) (by decide) (by decide) (by decide)).trans hn) (fun v7 v8 h7 h8 => ?_) nn 0 (by omega) _ _ rfl rfl
  refine xi_iconst (pc' := 111) rfl rfl ?_
  refine xi_istore (pc' := 113) rfl (st1_6 rfl) rfl ?_
  refine xi_iconst (pc' := 114) rfl rfl ?_
  refine xi_istore (pc' := 116) rfl (st1_7 rfl) rfl ?_
  refine xi_iload (pc' := 118) rfl rfl rfl ?_
  refine xi_bipush (pc' := 120) rfl (by decide) rfl ?_
  refine xi_icmpf (pc' := 123) (tg := 207) rfl rfl (by decide) rfl ?_
  refine xi_iload_n (pc' := 124) rfl rfl rfl ?_
  refine xi_iff (pc' := 127) (tg := 138) rfl rfl (by decide) rfl ?_
  refine xi_iload (pc' := 129) rfl rfl rfl ?_
  refine xi_aload_n (pc' := 130) rfl rfl rfl ?_
  refine xr_getp (pc' := 133) rfl rfl (by decide) rfl rfl rfl ?_
  refine xi_iload_n (pc' := 134) rfl rfl rfl ?_
  refine xr_ialdv (v := nI (1)) (j := m) (pc' := 135) rfl rfl (by decide) (by first | rfl | (simp only [ix_add, ix_mul, ix_pred]; done) | (simp only [ix_add, ix_mul, ix_pred, *]; done)) (by omega) (by decide) (by simp only [wI_fr, says_fr, put_fr, takes_fr, hears_fr, dat_fr, dw_fr, ans_fr, eff_fr, tell_fr, ne_eq, Nat.reduceEqDiff, not_false_eq_true, hx]) rfl ?_
  refine xi_icmpt (pc' := 201) rfl rfl (by decide) ?_
  refine xi_iincv (y := nI 1) (pc' := 204) rfl rfl (by decide) (st1_7 rfl) rfl ?_
  refine xi_goto (pc' := 116) rfl rfl ?_
  refine xi_iload (pc' := 118) rfl rfl rfl ?_
  refine xi_bipush (pc' := 120) rfl (by decide) rfl ?_
  refine xi_icmpf (pc' := 123) (tg := 207) rfl rfl (by decide) rfl ?_
  refine xi_iload_n (pc' := 124) rfl rfl rfl ?_
  refine xi_iff (pc' := 127) (tg := 138) rfl rfl (by decide) rfl ?_
  refine xi_iload (pc' := 129) rfl rfl rfl ?_
  refine xi_aload_n (pc' := 130) rfl rfl rfl ?_
  refine xr_getp (pc' := 133) rfl rfl (by decide) rfl rfl rfl ?_
  refine xi_iload_n (pc' := 134) rfl rfl rfl ?_
  refine xr_ialdv (v := nI (1)) (j := m) (pc' := 135) rfl rfl (by decide) (by first | rfl | (simp only [ix_add, ix_mul, ix_pred]; done) | (simp only [ix_add, ix_mul, ix_pred, *]; done)) (by omega) (by decide) (by simp only [wI_fr, says_fr, put_fr, takes_fr, hears_fr, dat_fr, dw_fr, ans_fr, eff_fr, tell_fr, ne_eq, Nat.reduceEqDiff, not_false_eq_true, hx]) rfl ?_
  refine xi_icmpf (pc' := 138) (tg := 201) rfl rfl (by decide) rfl ?_
  refine xi_aload_n (pc' := 139) rfl rfl rfl ?_
  refine xi_iload (pc' := 141) rfl rfl rfl ?_
  refine xi_iload (pc' := 143) rfl rfl rfl ?_
  refine xi_iload (pc' := 145) rfl rfl rfl ?_
  refine xi_iconst (pc' := 146) rfl rfl ?_
  refine xi_iconst (pc' := 147) rfl rfl ?_
  refine xx_callVi (pc' := 150) rfl rfl (by decide) rfl rfl (by show _ < 81 + 2 * _; omega) (Nat.le_of_ble_eq_true rfl) rfl rfl (r_hears_ok (t := 1) (by decide)) ?_
  refine xx_if (pc' := 153) (tg := 201) rfl rfl rfl (fun q150 => ?_) (fun q150 => ?_)
  · refine xi_iincv (y := nI 2) (pc' := 204) rfl rfl (by decide) (st1_7 rfl) rfl ?_
    refine xi_goto (pc' := 116) rfl rfl ?_
    refine xi_iload (pc' := 118) rfl rfl rfl ?_
    refine xi_bipush (pc' := 120) rfl (by decide) rfl ?_
    refine xi_icmpf (pc' := 123) (tg := 207) rfl rfl (by decide) rfl ?_
    refine xi_iload_n (pc' := 124) rfl rfl rfl ?_
    refine xi_iff (pc' := 127) (tg := 138) rfl rfl (by decide) rfl ?_
    refine xi_iload (pc' := 129) rfl rfl rfl ?_
    refine xi_aload_n (pc' := 130) rfl rfl rfl ?_
    refine xr_getp (pc' := 133) rfl rfl (by decide) rfl rfl rfl ?_
    refine xi_iload_n (pc' := 134) rfl rfl rfl ?_
    refine xr_ialdv (v := nI (1)) (j := m) (pc' := 135) rfl rfl (by decide) (by first | rfl | (simp only [ix_add, ix_mul, ix_pred]; done) | (simp only [ix_add, ix_mul, ix_pred, *]; done)) (by omega) (by decide) (by simp only [wI_fr, says_fr, put_fr, takes_fr, hears_fr, dat_fr, dw_fr, ans_fr, eff_fr, tell_fr, ne_eq, Nat.reduceEqDiff, not_false_eq_true, hx]) rfl ?_
    refine xi_icmpt (pc' := 201) rfl rfl (by decide) ?_
    refine xi_iincv (y := nI 3) (pc' := 204) rfl rfl (by decide) (st1_7 rfl) rfl ?_
    refine xi_goto (pc' := 116) rfl rfl ?_
    refine xi_iload (pc' := 118) rfl rfl rfl ?_
    refine xi_bipush (pc' := 120) rfl (by decide) rfl ?_
    refine xi_icmpf (pc' := 123) (tg := 207) rfl rfl (by decide) rfl ?_
    refine xi_iload_n (pc' := 124) rfl rfl rfl ?_
    refine xi_iff (pc' := 127) (tg := 138) rfl rfl (by decide) rfl ?_
    refine xi_iload (pc' := 129) rfl rfl rfl ?_
    refine xi_aload_n (pc' := 130) rfl rfl rfl ?_
    refine xr_getp (pc' := 133) rfl rfl (by decide) rfl rfl rfl ?_
    refine xi_iload_n (pc' := 134) rfl rfl rfl ?_
    refine xr_ialdv (v := nI (1)) (j := m) (pc' := 135) rfl rfl (by decide) (by first | rfl | (simp only [ix_add, ix_mul, ix_pred]; done) | (simp only [ix_add, ix_mul, ix_pred, *]; done)) (by omega) (by decide) (by simp only [wI_fr, says_fr, put_fr, takes_fr, hears_fr, dat_fr, dw_fr, ans_fr, eff_fr, tell_fr, ne_eq, Nat.reduceEqDiff, not_false_eq_true, hx]) rfl ?_
    refine xi_icmpt (pc' := 201) rfl rfl (by decide) ?_
    refine xi_iincv (y := nI 4) (pc' := 204) rfl rfl (by decide) (st1_7 rfl) rfl ?_
    refine xi_goto (pc' := 116) rfl rfl ?_
    refine xi_iload (pc' := 118) rfl rfl rfl ?_
    refine xi_bipush (pc' := 120) rfl (by decide) rfl ?_
    refine xi_icmpf (pc' := 123) (tg := 207) rfl rfl (by decide) rfl ?_
    refine xi_iload_n (pc' := 124) rfl rfl rfl ?_
    refine xi_iff (pc' := 127) (tg := 138) rfl rfl (by decide) rfl ?_
    refine xi_iload (pc' := 129) rfl rfl rfl ?_
    refine xi_aload_n (pc' := 130) rfl rfl rfl ?_
    refine xr_getp (pc' := 133) rfl rfl (by decide) rfl rfl rfl ?_
    refine xi_iload_n (pc' := 134) rfl rfl rfl ?_
    refine xr_ialdv (v := nI (1)) (j := m) (pc' := 135) rfl rfl (by decide) (by first | rfl | (simp only [ix_add, ix_mul, ix_pred]; done) | (simp only [ix_add, ix_mul, ix_pred, *]; done)) (by omega) (by decide) (by simp only [wI_fr, says_fr, put_fr, takes_fr, hears_fr, dat_fr, dw_fr, ans_fr, eff_fr, tell_fr, ne_eq, Nat.reduceEqDiff, not_false_eq_true, hx]) rfl ?_
    refine xi_icmpt (pc' := 201) rfl rfl (by decide) ?_
    refine xi_iincv (y := nI 5) (pc' := 204) rfl rfl (by decide) (st1_7 rfl) rfl ?_
    refine xi_goto (pc' := 116) rfl rfl ?_
    refine xi_iload (pc' := 118) rfl rfl rfl ?_
    refine xi_bipush (pc' := 120) rfl (by decide) rfl ?_
    refine xi_icmpf (pc' := 123) (tg := 207) rfl rfl (by decide) rfl ?_
    refine xi_iload_n (pc' := 124) rfl rfl rfl ?_
    refine xi_iff (pc' := 127) (tg := 138) rfl rfl (by decide) rfl ?_
    refine xi_iload (pc' := 129) rfl rfl rfl ?_
    refine xi_aload_n (pc' := 130) rfl rfl rfl ?_
    refine xr_getp (pc' := 133) rfl rfl (by decide) rfl rfl rfl ?_
    refine xi_iload_n (pc' := 134) rfl rfl rfl ?_
    refine xr_ialdv (v := nI (1)) (j := m) (pc' := 135) rfl rfl (by decide) (by first | rfl | (simp only [ix_add, ix_mul, ix_pred]; done) | (simp only [ix_add, ix_mul, ix_pred, *]; done)) (by omega) (by decide) (by simp only [wI_fr, says_fr, put_fr, takes_fr, hears_fr, dat_fr, dw_fr, ans_fr, eff_fr, tell_fr, ne_eq, Nat.reduceEqDiff, not_false_eq_true, hx]) rfl ?_
    refine xi_icmpt (pc' := 201) rfl rfl (by decide) ?_
    refine xi_iincv (y := nI 6) (pc' := 204) rfl rfl (by decide) (st1_7 rfl) rfl ?_
    refine xi_goto (pc' := 116) rfl rfl ?_
    refine xi_iload (pc' := 118) rfl rfl rfl ?_
    refine xi_bipush (pc' := 120) rfl (by decide) rfl ?_
    refine xi_icmpt (pc' := 207) rfl rfl (by decide) ?_
    refine xi_iload (pc' := 209) rfl rfl rfl ?_
    refine xi_iff (pc' := 212) (tg := 216) rfl rfl (by decide) rfl ?_
    refine xi_iload_n (pc' := 213) rfl rfl rfl ?_
    refine xi_ift (pc' := 220) rfl rfl (by decide) ?_
    refine xi_iconst (pc' := 221) rfl rfl ?_
    refine xx_zreturn rfl rfl (by decide) ?_
    simp only [ex_P, Classical.not_not, ↓reduceIte, Nat.add_zero, or_true, true_or, not_true_eq_false, not_false_eq_true, or_false, false_or, wI_get, false_and, true_and, and_true, and_false, and_self, Nat.reduceEqDiff, Nat.succ_ne_zero, reduceCtorEq, nI_lit, nI_lit0, Nat.reduceLT] at *
    first | (simp only [r_give, r_g1, r_g2, r_g3, r_g4, *, ↓reduceIte, Nat.add_zero, or_true, true_or, not_true_eq_false, not_false_eq_true, or_false, false_or, wI_get, false_and, true_and, and_true, and_false, and_self, Nat.reduceEqDiff, Nat.succ_ne_zero, reduceCtorEq, nI_lit, nI_lit0, Nat.reduceLT]; done) | (exfalso; simp_all only [↓reduceIte, Nat.add_zero, or_true, true_or, not_true_eq_false, not_false_eq_true, or_false, false_or, wI_get, false_and, true_and, and_true, and_false, and_self, Nat.reduceEqDiff, Nat.succ_ne_zero, reduceCtorEq, nI_lit, nI_lit0, Nat.reduceLT]; done)
  · refine xi_aload_n (pc' := 154) rfl rfl rfl ?_
    refine xi_iload (pc' := 156) rfl rfl rfl ?_
    refine xi_aload_n (pc' := 157) rfl rfl rfl ?_
    refine xr_getp (pc' := 160) rfl rfl (by decide) rfl rfl rfl ?_
    refine xi_iload_n (pc' := 161) rfl rfl rfl ?_
    refine xr_ialdv (v := nI (s + 1)) (j := m) (pc' := 162) rfl rfl (by decide) (by first | rfl | (simp only [ix_add, ix_mul, ix_pred]; done) | (simp only [ix_add, ix_mul, ix_pred, *]; done)) (by omega) (by decide) (by simp only [wI_fr, says_fr, put_fr, takes_fr, hears_fr, dat_fr, dw_fr, ans_fr, eff_fr, tell_fr, ne_eq, Nat.reduceEqDiff, not_false_eq_true, hsb]) rfl ?_
    refine xi_aload_n (pc' := 163) rfl rfl rfl ?_
    refine xr_getp (pc' := 166) rfl rfl (by decide) rfl rfl rfl ?_
    refine xi_iload_n (pc' := 167) rfl rfl rfl ?_
    refine xr_ialdv (v := nI (nn)) (j := m) (pc' := 168) rfl rfl (by decide) (by first | rfl | (simp only [ix_add, ix_mul, ix_pred]; done) | (simp only [ix_add, ix_mul, ix_pred, *]; done)) (by omega) (by decide) (by simp only [wI_fr, says_fr, put_fr, takes_fr, hears_fr, dat_fr, dw_fr, ans_fr, eff_fr, tell_fr, ne_eq, Nat.reduceEqDiff, not_false_eq_true, hn]) rfl ?_
    refine xi_iload_n (pc' := 169) rfl rfl rfl ?_
    refine xx_callVi (pc' := 172) rfl rfl (by decide) rfl rfl (by show _ < 81 + 2 * _; omega) (Nat.le_of_ble_eq_true rfl) rfl rfl (r_takes_ok (t := 1) (by decide) hs h1 h4 (by decide)) ?_
    refine xi_istore (pc' := 174) rfl (st1_8 rfl) rfl ?_
    refine xi_iload (pc' := 176) rfl rfl rfl ?_
    refine xx_if (pc' := 179) (tg := 201) rfl rfl rfl (fun q176 => ?_) (fun q176 => ?_)
    · refine xi_iincv (y := nI 2) (pc' := 204) rfl rfl (by decide) (st1_7 rfl) rfl ?_
      refine xi_goto (pc' := 116) rfl rfl ?_
      refine xi_iload (pc' := 118) rfl rfl rfl ?_
      refine xi_bipush (pc' := 120) rfl (by decide) rfl ?_
      refine xi_icmpf (pc' := 123) (tg := 207) rfl rfl (by decide) rfl ?_
      refine xi_iload_n (pc' := 124) rfl rfl rfl ?_
      refine xi_iff (pc' := 127) (tg := 138) rfl rfl (by decide) rfl ?_
      refine xi_iload (pc' := 129) rfl rfl rfl ?_
      refine xi_aload_n (pc' := 130) rfl rfl rfl ?_
      refine xr_getp (pc' := 133) rfl rfl (by decide) rfl rfl rfl ?_
      refine xi_iload_n (pc' := 134) rfl rfl rfl ?_
      refine xr_ialdv (v := nI (1)) (j := m) (pc' := 135) rfl rfl (by decide) (by first | rfl | (simp only [ix_add, ix_mul, ix_pred]; done) | (simp only [ix_add, ix_mul, ix_pred, *]; done)) (by omega) (by decide) (by simp only [wI_fr, says_fr, put_fr, takes_fr, hears_fr, dat_fr, dw_fr, ans_fr, eff_fr, tell_fr, ne_eq, Nat.reduceEqDiff, not_false_eq_true, hx]) rfl ?_
      refine xi_icmpt (pc' := 201) rfl rfl (by decide) ?_
      refine xi_iincv (y := nI 3) (pc' := 204) rfl rfl (by decide) (st1_7 rfl) rfl ?_
      refine xi_goto (pc' := 116) rfl rfl ?_
      refine xi_iload (pc' := 118) rfl rfl rfl ?_
      refine xi_bipush (pc' := 120) rfl (by decide) rfl ?_
      refine xi_icmpf (pc' := 123) (tg := 207) rfl rfl (by decide) rfl ?_
      refine xi_iload_n (pc' := 124) rfl rfl rfl ?_
      refine xi_iff (pc' := 127) (tg := 138) rfl rfl (by decide) rfl ?_
      refine xi_iload (pc' := 129) rfl rfl rfl ?_
      refine xi_aload_n (pc' := 130) rfl rfl rfl ?_
      refine xr_getp (pc' := 133) rfl rfl (by decide) rfl rfl rfl ?_
      refine xi_iload_n (pc' := 134) rfl rfl rfl ?_
      refine xr_ialdv (v := nI (1)) (j := m) (pc' := 135) rfl rfl (by decide) (by first | rfl | (simp only [ix_add, ix_mul, ix_pred]; done) | (simp only [ix_add, ix_mul, ix_pred, *]; done)) (by omega) (by decide) (by simp only [wI_fr, says_fr, put_fr, takes_fr, hears_fr, dat_fr, dw_fr, ans_fr, eff_fr, tell_fr, ne_eq, Nat.reduceEqDiff, not_false_eq_true, hx]) rfl ?_
      refine xi_icmpt (pc' := 201) rfl rfl (by decide) ?_
      refine xi_iincv (y := nI 4) (pc' := 204) rfl rfl (by decide) (st1_7 rfl) rfl ?_
      refine xi_goto (pc' := 116) rfl rfl ?_
      refine xi_iload (pc' := 118) rfl rfl rfl ?_
      refine xi_bipush (pc' := 120) rfl (by decide) rfl ?_
      refine xi_icmpf (pc' := 123) (tg := 207) rfl rfl (by decide) rfl ?_
      refine xi_iload_n (pc' := 124) rfl rfl rfl ?_
      refine xi_iff (pc' := 127) (tg := 138) rfl rfl (by decide) rfl ?_
      refine xi_iload (pc' := 129) rfl rfl rfl ?_
      refine xi_aload_n (pc' := 130) rfl rfl rfl ?_
      refine xr_getp (pc' := 133) rfl rfl (by decide) rfl rfl rfl ?_
      refine xi_iload_n (pc' := 134) rfl rfl rfl ?_
      refine xr_ialdv (v := nI (1)) (j := m) (pc' := 135) rfl rfl (by decide) (by first | rfl | (simp only [ix_add, ix_mul, ix_pred]; done) | (simp only [ix_add, ix_mul, ix_pred, *]; done)) (by omega) (by decide) (by simp only [wI_fr, says_fr, put_fr, takes_fr, hears_fr, dat_fr, dw_fr, ans_fr, eff_fr, tell_fr, ne_eq, Nat.reduceEqDiff, not_false_eq_true, hx]) rfl ?_
      refine xi_icmpt (pc' := 201) rfl rfl (by decide) ?_
      refine xi_iincv (y := nI 5) (pc' := 204) rfl rfl (by decide) (st1_7 rfl) rfl ?_
      refine xi_goto (pc' := 116) rfl rfl ?_
      refine xi_iload (pc' := 118) rfl rfl rfl ?_
      refine xi_bipush (pc' := 120) rfl (by decide) rfl ?_
      refine xi_icmpf (pc' := 123) (tg := 207) rfl rfl (by decide) rfl ?_
      refine xi_iload_n (pc' := 124) rfl rfl rfl ?_
      refine xi_iff (pc' := 127) (tg := 138) rfl rfl (by decide) rfl ?_
      refine xi_iload (pc' := 129) rfl rfl rfl ?_
      refine xi_aload_n (pc' := 130) rfl rfl rfl ?_
      refine xr_getp (pc' := 133) rfl rfl (by decide) rfl rfl rfl ?_
      refine xi_iload_n (pc' := 134) rfl rfl rfl ?_
      refine xr_ialdv (v := nI (1)) (j := m) (pc' := 135) rfl rfl (by decide) (by first | rfl | (simp only [ix_add, ix_mul, ix_pred]; done) | (simp only [ix_add, ix_mul, ix_pred, *]; done)) (by omega) (by decide) (by simp only [wI_fr, says_fr, put_fr, takes_fr, hears_fr, dat_fr, dw_fr, ans_fr, eff_fr, tell_fr, ne_eq, Nat.reduceEqDiff, not_false_eq_true, hx]) rfl ?_
      refine xi_icmpt (pc' := 201) rfl rfl (by decide) ?_
      refine xi_iincv (y := nI 6) (pc' := 204) rfl rfl (by decide) (st1_7 rfl) rfl ?_
      refine xi_goto (pc' := 116) rfl rfl ?_
      refine xi_iload (pc' := 118) rfl rfl rfl ?_
      refine xi_bipush (pc' := 120) rfl (by decide) rfl ?_
      refine xi_icmpt (pc' := 207) rfl rfl (by decide) ?_
      refine xi_iload (pc' := 209) rfl rfl rfl ?_
      refine xi_iff (pc' := 212) (tg := 216) rfl rfl (by decide) rfl ?_
      refine xi_iload_n (pc' := 213) rfl rfl rfl ?_
      refine xi_ift (pc' := 220) rfl rfl (by decide) ?_
      refine xi_iconst (pc' := 221) rfl rfl ?_
      refine xx_zreturn rfl rfl (by decide) ?_
      simp only [ex_P, Classical.not_not, ↓reduceIte, Nat.add_zero, or_true, true_or, not_true_eq_false, not_false_eq_true, or_false, false_or, wI_get, false_and, true_and, and_true, and_false, and_self, Nat.reduceEqDiff, Nat.succ_ne_zero, reduceCtorEq, nI_lit, nI_lit0, Nat.reduceLT] at *
      first | (simp only [r_give, r_g1, r_g2, r_g3, r_g4, *, ↓reduceIte, Nat.add_zero, or_true, true_or, not_true_eq_false, not_false_eq_true, or_false, false_or, wI_get, false_and, true_and, and_true, and_false, and_self, Nat.reduceEqDiff, Nat.succ_ne_zero, reduceCtorEq, nI_lit, nI_lit0, Nat.reduceLT]; done) | (exfalso; simp_all only [↓reduceIte, Nat.add_zero, or_true, true_or, not_true_eq_false, not_false_eq_true, or_false, false_or, wI_get, false_and, true_and, and_true, and_false, and_self, Nat.reduceEqDiff, Nat.succ_ne_zero, reduceCtorEq, nI_lit, nI_lit0, Nat.reduceLT]; done)
    · refine xi_iload_n (pc' := 180) rfl rfl rfl ?_
      refine xi_iff (pc' := 183) (tg := 201) rfl rfl (by decide) rfl ?_
      refine xi_aload_n (pc' := 184) rfl rfl rfl ?_
      refine xi_iload (pc' := 186) rfl rfl rfl ?_
      refine xi_iload_n (pc' := 187) rfl rfl rfl ?_
      refine xx_callVi (pc' := 190) rfl rfl (by decide) rfl rfl (by show _ < 81 + 2 * _; omega) (Nat.le_of_ble_eq_true rfl) rfl rfl (r_saysStatus (t := 1) (by decide) hb (g3_hw (x := 1) hh (by omega)) (by omega)) ?_
      refine xi_iconst (pc' := 191) rfl rfl ?_
      refine xx_icmp (pc' := 194) (tg := 198) rfl rfl rfl (fun q191 => ?_) (fun q191 => ?_)
      · refine xi_iconst (pc' := 199) rfl rfl ?_
        refine xi_istore (pc' := 201) rfl (st1_6 rfl) rfl ?_
        refine xi_iincv (y := nI 2) (pc' := 204) rfl rfl (by decide) (st1_7 rfl) rfl ?_
        refine xi_goto (pc' := 116) rfl rfl ?_
        refine xi_iload (pc' := 118) rfl rfl rfl ?_
        refine xi_bipush (pc' := 120) rfl (by decide) rfl ?_
        refine xi_icmpf (pc' := 123) (tg := 207) rfl rfl (by decide) rfl ?_
        refine xi_iload_n (pc' := 124) rfl rfl rfl ?_
        refine xi_iff (pc' := 127) (tg := 138) rfl rfl (by decide) rfl ?_
        refine xi_iload (pc' := 129) rfl rfl rfl ?_
        refine xi_aload_n (pc' := 130) rfl rfl rfl ?_
        refine xr_getp (pc' := 133) rfl rfl (by decide) rfl rfl rfl ?_
        refine xi_iload_n (pc' := 134) rfl rfl rfl ?_
        refine xr_ialdv (v := nI (1)) (j := m) (pc' := 135) rfl rfl (by decide) (by first | rfl | (simp only [ix_add, ix_mul, ix_pred]; done) | (simp only [ix_add, ix_mul, ix_pred, *]; done)) (by omega) (by decide) (by simp only [wI_fr, says_fr, put_fr, takes_fr, hears_fr, dat_fr, dw_fr, ans_fr, eff_fr, tell_fr, ne_eq, Nat.reduceEqDiff, not_false_eq_true, hx]) rfl ?_
        refine xi_icmpt (pc' := 201) rfl rfl (by decide) ?_
        refine xi_iincv (y := nI 3) (pc' := 204) rfl rfl (by decide) (st1_7 rfl) rfl ?_
        refine xi_goto (pc' := 116) rfl rfl ?_
        refine xi_iload (pc' := 118) rfl rfl rfl ?_
        refine xi_bipush (pc' := 120) rfl (by decide) rfl ?_
        refine xi_icmpf (pc' := 123) (tg := 207) rfl rfl (by decide) rfl ?_
        refine xi_iload_n (pc' := 124) rfl rfl rfl ?_
        refine xi_iff (pc' := 127) (tg := 138) rfl rfl (by decide) rfl ?_
        refine xi_iload (pc' := 129) rfl rfl rfl ?_
        refine xi_aload_n (pc' := 130) rfl rfl rfl ?_
        refine xr_getp (pc' := 133) rfl rfl (by decide) rfl rfl rfl ?_
        refine xi_iload_n (pc' := 134) rfl rfl rfl ?_
        refine xr_ialdv (v := nI (1)) (j := m) (pc' := 135) rfl rfl (by decide) (by first | rfl | (simp only [ix_add, ix_mul, ix_pred]; done) | (simp only [ix_add, ix_mul, ix_pred, *]; done)) (by omega) (by decide) (by simp only [wI_fr, says_fr, put_fr, takes_fr, hears_fr, dat_fr, dw_fr, ans_fr, eff_fr, tell_fr, ne_eq, Nat.reduceEqDiff, not_false_eq_true, hx]) rfl ?_
        refine xi_icmpt (pc' := 201) rfl rfl (by decide) ?_
        refine xi_iincv (y := nI 4) (pc' := 204) rfl rfl (by decide) (st1_7 rfl) rfl ?_
        refine xi_goto (pc' := 116) rfl rfl ?_
        refine xi_iload (pc' := 118) rfl rfl rfl ?_
        refine xi_bipush (pc' := 120) rfl (by decide) rfl ?_
        refine xi_icmpf (pc' := 123) (tg := 207) rfl rfl (by decide) rfl ?_
        refine xi_iload_n (pc' := 124) rfl rfl rfl ?_
        refine xi_iff (pc' := 127) (tg := 138) rfl rfl (by decide) rfl ?_
        refine xi_iload (pc' := 129) rfl rfl rfl ?_
        refine xi_aload_n (pc' := 130) rfl rfl rfl ?_
        refine xr_getp (pc' := 133) rfl rfl (by decide) rfl rfl rfl ?_
        refine xi_iload_n (pc' := 134) rfl rfl rfl ?_
        refine xr_ialdv (v := nI (1)) (j := m) (pc' := 135) rfl rfl (by decide) (by first | rfl | (simp only [ix_add, ix_mul, ix_pred]; done) | (simp only [ix_add, ix_mul, ix_pred, *]; done)) (by omega) (by decide) (by simp only [wI_fr, says_fr, put_fr, takes_fr, hears_fr, dat_fr, dw_fr, ans_fr, eff_fr, tell_fr, ne_eq, Nat.reduceEqDiff, not_false_eq_true, hx]) rfl ?_
        refine xi_icmpt (pc' := 201) rfl rfl (by decide) ?_
        refine xi_iincv (y := nI 5) (pc' := 204) rfl rfl (by decide) (st1_7 rfl) rfl ?_
        refine xi_goto (pc' := 116) rfl rfl ?_
        refine xi_iload (pc' := 118) rfl rfl rfl ?_
        refine xi_bipush (pc' := 120) rfl (by decide) rfl ?_
        refine xi_icmpf (pc' := 123) (tg := 207) rfl rfl (by decide) rfl ?_
        refine xi_iload_n (pc' := 124) rfl rfl rfl ?_
        refine xi_iff (pc' := 127) (tg := 138) rfl rfl (by decide) rfl ?_
        refine xi_iload (pc' := 129) rfl rfl rfl ?_
        refine xi_aload_n (pc' := 130) rfl rfl rfl ?_
        refine xr_getp (pc' := 133) rfl rfl (by decide) rfl rfl rfl ?_
        refine xi_iload_n (pc' := 134) rfl rfl rfl ?_
        refine xr_ialdv (v := nI (1)) (j := m) (pc' := 135) rfl rfl (by decide) (by first | rfl | (simp only [ix_add, ix_mul, ix_pred]; done) | (simp only [ix_add, ix_mul, ix_pred, *]; done)) (by omega) (by decide) (by simp only [wI_fr, says_fr, put_fr, takes_fr, hears_fr, dat_fr, dw_fr, ans_fr, eff_fr, tell_fr, ne_eq, Nat.reduceEqDiff, not_false_eq_true, hx]) rfl ?_
        refine xi_icmpt (pc' := 201) rfl rfl (by decide) ?_
        refine xi_iincv (y := nI 6) (pc' := 204) rfl rfl (by decide) (st1_7 rfl) rfl ?_
        refine xi_goto (pc' := 116) rfl rfl ?_
        refine xi_iload (pc' := 118) rfl rfl rfl ?_
        refine xi_bipush (pc' := 120) rfl (by decide) rfl ?_
        refine xi_icmpt (pc' := 207) rfl rfl (by decide) ?_
        refine xi_iload (pc' := 209) rfl rfl rfl ?_
        refine xi_iff (pc' := 212) (tg := 216) rfl rfl (by decide) rfl ?_
        refine xi_iload_n (pc' := 213) rfl rfl rfl ?_
        refine xi_ift (pc' := 220) rfl rfl (by decide) ?_
        refine xi_iconst (pc' := 221) rfl rfl ?_
        refine xx_zreturn rfl rfl (by decide) ?_
        simp only [ex_P, Classical.not_not, ↓reduceIte, Nat.add_zero, or_true, true_or, not_true_eq_false, not_false_eq_true, or_false, false_or, wI_get, false_and, true_and, and_true, and_false, and_self, Nat.reduceEqDiff, Nat.succ_ne_zero, reduceCtorEq, nI_lit, nI_lit0, Nat.reduceLT] at *
        first | (simp only [r_give, r_g1, r_g2, r_g3, r_g4, *, ↓reduceIte, Nat.add_zero, or_true, true_or, not_true_eq_false, not_false_eq_true, or_false, false_or, wI_get, false_and, true_and, and_true, and_false, and_self, Nat.reduceEqDiff, Nat.succ_ne_zero, reduceCtorEq, nI_lit, nI_lit0, Nat.reduceLT]; done) | (exfalso; simp_all only [↓reduceIte, Nat.add_zero, or_true, true_or, not_true_eq_false, not_false_eq_true, or_false, false_or, wI_get, false_and, true_and, and_true, and_false, and_self, Nat.reduceEqDiff, Nat.succ_ne_zero, reduceCtorEq, nI_lit, nI_lit0, Nat.reduceLT]; done)
      · refine xi_iconst (pc' := 195) rfl rfl ?_
        refine xi_goto (pc' := 199) rfl rfl ?_
        refine xi_istore (pc' := 201) rfl (st1_6 rfl) rfl ?_
        refine xi_iincv (y := nI 2) (pc' := 204) rfl rfl (by decide) (st1_7 rfl) rfl ?_
        refine xi_goto (pc' := 116) rfl rfl ?_
        refine xi_iload (pc' := 118) rfl rfl rfl ?_
        refine xi_bipush (pc' := 120) rfl (by decide) rfl ?_
        refine xi_icmpf (pc' := 123) (tg := 207) rfl rfl (by decide) rfl ?_
        refine xi_iload_n (pc' := 124) rfl rfl rfl ?_
        refine xi_iff (pc' := 127) (tg := 138) rfl rfl (by decide) rfl ?_
        refine xi_iload (pc' := 129) rfl rfl rfl ?_
        refine xi_aload_n (pc' := 130) rfl rfl rfl ?_
        refine xr_getp (pc' := 133) rfl rfl (by decide) rfl rfl rfl ?_
        refine xi_iload_n (pc' := 134) rfl rfl rfl ?_
        refine xr_ialdv (v := nI (1)) (j := m) (pc' := 135) rfl rfl (by decide) (by first | rfl | (simp only [ix_add, ix_mul, ix_pred]; done) | (simp only [ix_add, ix_mul, ix_pred, *]; done)) (by omega) (by decide) (by simp only [wI_fr, says_fr, put_fr, takes_fr, hears_fr, dat_fr, dw_fr, ans_fr, eff_fr, tell_fr, ne_eq, Nat.reduceEqDiff, not_false_eq_true, hx]) rfl ?_
        refine xi_icmpt (pc' := 201) rfl rfl (by decide) ?_
        refine xi_iincv (y := nI 3) (pc' := 204) rfl rfl (by decide) (st1_7 rfl) rfl ?_
        refine xi_goto (pc' := 116) rfl rfl ?_
        refine xi_iload (pc' := 118) rfl rfl rfl ?_
        refine xi_bipush (pc' := 120) rfl (by decide) rfl ?_
        refine xi_icmpf (pc' := 123) (tg := 207) rfl rfl (by decide) rfl ?_
        refine xi_iload_n (pc' := 124) rfl rfl rfl ?_
        refine xi_iff (pc' := 127) (tg := 138) rfl rfl (by decide) rfl ?_
        refine xi_iload (pc' := 129) rfl rfl rfl ?_
        refine xi_aload_n (pc' := 130) rfl rfl rfl ?_
        refine xr_getp (pc' := 133) rfl rfl (by decide) rfl rfl rfl ?_
        refine xi_iload_n (pc' := 134) rfl rfl rfl ?_
        refine xr_ialdv (v := nI (1)) (j := m) (pc' := 135) rfl rfl (by decide) (by first | rfl | (simp only [ix_add, ix_mul, ix_pred]; done) | (simp only [ix_add, ix_mul, ix_pred, *]; done)) (by omega) (by decide) (by simp only [wI_fr, says_fr, put_fr, takes_fr, hears_fr, dat_fr, dw_fr, ans_fr, eff_fr, tell_fr, ne_eq, Nat.reduceEqDiff, not_false_eq_true, hx]) rfl ?_
        refine xi_icmpt (pc' := 201) rfl rfl (by decide) ?_
        refine xi_iincv (y := nI 4) (pc' := 204) rfl rfl (by decide) (st1_7 rfl) rfl ?_
        refine xi_goto (pc' := 116) rfl rfl ?_
        refine xi_iload (pc' := 118) rfl rfl rfl ?_
        refine xi_bipush (pc' := 120) rfl (by decide) rfl ?_
        refine xi_icmpf (pc' := 123) (tg := 207) rfl rfl (by decide) rfl ?_
        refine xi_iload_n (pc' := 124) rfl rfl rfl ?_
        refine xi_iff (pc' := 127) (tg := 138) rfl rfl (by decide) rfl ?_
        refine xi_iload (pc' := 129) rfl rfl rfl ?_
        refine xi_aload_n (pc' := 130) rfl rfl rfl ?_
        refine xr_getp (pc' := 133) rfl rfl (by decide) rfl rfl rfl ?_
        refine xi_iload_n (pc' := 134) rfl rfl rfl ?_
        refine xr_ialdv (v := nI (1)) (j := m) (pc' := 135) rfl rfl (by decide) (by first | rfl | (simp only [ix_add, ix_mul, ix_pred]; done) | (simp only [ix_add, ix_mul, ix_pred, *]; done)) (by omega) (by decide) (by simp only [wI_fr, says_fr, put_fr, takes_fr, hears_fr, dat_fr, dw_fr, ans_fr, eff_fr, tell_fr, ne_eq, Nat.reduceEqDiff, not_false_eq_true, hx]) rfl ?_
        refine xi_icmpt (pc' := 201) rfl rfl (by decide) ?_
        refine xi_iincv (y := nI 5) (pc' := 204) rfl rfl (by decide) (st1_7 rfl) rfl ?_
        refine xi_goto (pc' := 116) rfl rfl ?_
        refine xi_iload (pc' := 118) rfl rfl rfl ?_
        refine xi_bipush (pc' := 120) rfl (by decide) rfl ?_
        refine xi_icmpf (pc' := 123) (tg := 207) rfl rfl (by decide) rfl ?_
        refine xi_iload_n (pc' := 124) rfl rfl rfl ?_
        refine xi_iff (pc' := 127) (tg := 138) rfl rfl (by decide) rfl ?_
        refine xi_iload (pc' := 129) rfl rfl rfl ?_
        refine xi_aload_n (pc' := 130) rfl rfl rfl ?_
        refine xr_getp (pc' := 133) rfl rfl (by decide) rfl rfl rfl ?_
        refine xi_iload_n (pc' := 134) rfl rfl rfl ?_
        refine xr_ialdv (v := nI (1)) (j := m) (pc' := 135) rfl rfl (by decide) (by first | rfl | (simp only [ix_add, ix_mul, ix_pred]; done) | (simp only [ix_add, ix_mul, ix_pred, *]; done)) (by omega) (by decide) (by simp only [wI_fr, says_fr, put_fr, takes_fr, hears_fr, dat_fr, dw_fr, ans_fr, eff_fr, tell_fr, ne_eq, Nat.reduceEqDiff, not_false_eq_true, hx]) rfl ?_
        refine xi_icmpt (pc' := 201) rfl rfl (by decide) ?_
        refine xi_iincv (y := nI 6) (pc' := 204) rfl rfl (by decide) (st1_7 rfl) rfl ?_
        refine xi_goto (pc' := 116) rfl rfl ?_
        refine xi_iload (pc' := 118) rfl rfl rfl ?_
        refine xi_bipush (pc' := 120) rfl (by decide) rfl ?_
        refine xi_icmpt (pc' := 207) rfl rfl (by decide) ?_
        refine xi_iload (pc' := 209) rfl rfl rfl ?_
        refine xi_ift (pc' := 216) rfl rfl (by decide) ?_
        refine xi_iconst (pc' := 217) rfl rfl ?_
        refine xi_goto (pc' := 221) rfl rfl ?_
        refine xx_zreturn rfl rfl (by decide) ?_
        simp only [ex_P, Classical.not_not, ↓reduceIte, Nat.add_zero, or_true, true_or, not_true_eq_false, not_false_eq_true, or_false, false_or, wI_get, false_and, true_and, and_true, and_false, and_self, Nat.reduceEqDiff, Nat.succ_ne_zero, reduceCtorEq, nI_lit, nI_lit0, Nat.reduceLT] at *
        first | (simp only [r_give, r_g1, r_g2, r_g3, r_g4, *, ↓reduceIte, Nat.add_zero, or_true, true_or, not_true_eq_false, not_false_eq_true, or_false, false_or, wI_get, false_and, true_and, and_true, and_false, and_self, Nat.reduceEqDiff, Nat.succ_ne_zero, reduceCtorEq, nI_lit, nI_lit0, Nat.reduceLT]; done) | (exfalso; simp_all only [↓reduceIte, Nat.add_zero, or_true, true_or, not_true_eq_false, not_false_eq_true, or_false, false_or, wI_get, false_and, true_and, and_true, and_false, and_self, Nat.reduceEqDiff, Nat.succ_ne_zero, reduceCtorEq, nI_lit, nI_lit0, Nat.reduceLT]; done)
theorem r_gives_0_2 {L : Nat} {xs : Nat → Int32} {D n : Nat} {I J : ex_Mem} {m s nn b N : Nat} (hk : J 69 m = nI 0) (hx : J 70 m = nI 2) (hm : m < 8) (hb : b < 2) (hs : s < 3) (h1 : 1 ≤ nn) (h4 : nn ≤ 4) (hsb : J 72 m = nI (s + 1)) (hn : J 73 m = nI nn) (hh : hwB N J) (hN : N + 8 < 2 ^ 31) (hg : gdB 0 J) : ri L xs (D + 3) 119 [.ref 52, .int (nI m), .int (nI b)] (mkH n I J) ((r_give J m 2 s nn b).1) (mkH n I (r_give J m 2 s nn b).2) := by
  show xx cb_G _ _ _ 119 0 [.ref 52, .int (nI m), .int (nI b), ex_no, ex_no, ex_no, ex_no, ex_no, ex_no] [] _ _
  refine xi_aload_n (pc' := 1) rfl rfl rfl ?_
  refine xr_getp (pc' := 4) rfl rfl (by decide) rfl rfl rfl ?_
  refine xi_iload_n (pc' := 5) rfl rfl rfl ?_
  refine xr_ialdv (v := nI (0)) (j := m) (pc' := 6) rfl rfl (by decide) (by first | rfl | (simp only [ix_add, ix_mul, ix_pred]; done) | (simp only [ix_add, ix_mul, ix_pred, *]; done)) (by omega) (by decide) (hk) rfl ?_
  refine xi_iconst (pc' := 7) rfl rfl ?_
  refine xi_icmpt (pc' := 14) rfl rfl (by decide) ?_
  refine xi_iconst (pc' := 15) rfl rfl ?_
  refine xi_istore_n (pc' := 16) rfl (st1_3 rfl) rfl ?_
  refine xi_iload_n (pc' := 17) rfl rfl rfl ?_
  refine xi_ift (pc' := 25) rfl rfl (by decide) ?_
  refine xi_aload_n (pc' := 26) rfl rfl rfl ?_
  refine xr_getp (pc' := 29) rfl rfl (by decide) rfl rfl rfl ?_
  refine xi_iload_n (pc' := 30) rfl rfl rfl ?_
  refine xr_ialdv (v := nI (2)) (j := m) (pc' := 31) rfl rfl (by decide) (by first | rfl | (simp only [ix_add, ix_mul, ix_pred]; done) | (simp only [ix_add, ix_mul, ix_pred, *]; done)) (by omega) (by decide) (hx) rfl ?_
  refine xi_iconst (pc' := 32) rfl rfl ?_
  refine xi_aload_n (pc' := 33) rfl rfl rfl ?_
  refine xr_getp (pc' := 36) rfl rfl (by decide) rfl rfl rfl ?_
  refine xi_iload_n (pc' := 37) rfl rfl rfl ?_
  refine xr_ialdv (v := nI (s + 1)) (j := m) (pc' := 38) rfl rfl (by decide) (by first | rfl | (simp only [ix_add, ix_mul, ix_pred]; done) | (simp only [ix_add, ix_mul, ix_pred, *]; done)) (by omega) (by decide) (hsb) rfl ?_
  refine xi_aload_n (pc' := 39) rfl rfl rfl ?_
  refine xr_getp (pc' := 42) rfl rfl (by decide) rfl rfl rfl ?_
  refine xi_iload_n (pc' := 43) rfl rfl rfl ?_
  refine xr_ialdv (v := nI (nn)) (j := m) (pc' := 44) rfl rfl (by decide) (by first | rfl | (simp only [ix_add, ix_mul, ix_pred]; done) | (simp only [ix_add, ix_mul, ix_pred, *]; done)) (by omega) (by decide) (hn) rfl ?_
  refine xx_callSi (pc' := 47) rfl rfl (by decide) rfl (Nat.le_of_ble_eq_true rfl) rfl rfl (r_commandW) ?_
  refine xi_istore (pc' := 49) rfl (st1_4 rfl) rfl ?_
  refine xi_aload_n (pc' := 50) rfl rfl rfl ?_
  refine xi_iload_n (pc' := 51) rfl rfl rfl ?_
  refine xi_iconst (pc' := 52) rfl rfl ?_
  refine xi_iload (pc' := 54) rfl rfl rfl ?_
  refine xx_callVi (pc' := 57) rfl rfl (by decide) rfl rfl (by show _ < 81 + 2 * _; omega) (Nat.le_of_ble_eq_true rfl) rfl rfl (r_put0 hb hh (by omega)) ?_
  refine xi_istore (pc' := 59) rfl (st1_5 rfl) rfl ?_
  refine xi_iconst (pc' := 60) rfl rfl ?_
  refine xi_istore (pc' := 62) rfl (st1_6 rfl) rfl ?_
  refine r_dat_loop (D := D) (N := N + 1) (g := 0) (fa := nI 0) hm h4 hb (hwB_put hh (by omega)) (by omega) (put_gdB hg) (by omega) ((put_fr (by decide) (by decide) (by decide) (by decide)).trans hn) (fun v7 v8 h7 h8 => ?_) nn 0 (by omega) _ _ rfl rfl
  refine xi_iconst (pc' := 111) rfl rfl ?_
  refine xi_istore (pc' := 113) rfl (st1_6 rfl) rfl ?_
  refine xi_iconst (pc' := 114) rfl rfl ?_
  refine xi_istore (pc' := 116) rfl (st1_7 rfl) rfl ?_
  refine xi_iload (pc' := 118) rfl rfl rfl ?_
  refine xi_bipush (pc' := 120) rfl (by decide) rfl ?_
  refine xi_icmpf (pc' := 123) (tg := 207) rfl rfl (by decide) rfl ?_
  refine xi_iload_n (pc' := 124) rfl rfl rfl ?_
  refine xi_iff (pc' := 127) (tg := 138) rfl rfl (by decide) rfl ?_
  refine xi_iload (pc' := 129) rfl rfl rfl ?_
  refine xi_aload_n (pc' := 130) rfl rfl rfl ?_
  refine xr_getp (pc' := 133) rfl rfl (by decide) rfl rfl rfl ?_
  refine xi_iload_n (pc' := 134) rfl rfl rfl ?_
  refine xr_ialdv (v := nI (2)) (j := m) (pc' := 135) rfl rfl (by decide) (by first | rfl | (simp only [ix_add, ix_mul, ix_pred]; done) | (simp only [ix_add, ix_mul, ix_pred, *]; done)) (by omega) (by decide) (by simp only [wI_fr, says_fr, put_fr, takes_fr, hears_fr, dat_fr, dw_fr, ans_fr, eff_fr, tell_fr, ne_eq, Nat.reduceEqDiff, not_false_eq_true, hx]) rfl ?_
  refine xi_icmpt (pc' := 201) rfl rfl (by decide) ?_
  refine xi_iincv (y := nI 1) (pc' := 204) rfl rfl (by decide) (st1_7 rfl) rfl ?_
  refine xi_goto (pc' := 116) rfl rfl ?_
  refine xi_iload (pc' := 118) rfl rfl rfl ?_
  refine xi_bipush (pc' := 120) rfl (by decide) rfl ?_
  refine xi_icmpf (pc' := 123) (tg := 207) rfl rfl (by decide) rfl ?_
  refine xi_iload_n (pc' := 124) rfl rfl rfl ?_
  refine xi_iff (pc' := 127) (tg := 138) rfl rfl (by decide) rfl ?_
  refine xi_iload (pc' := 129) rfl rfl rfl ?_
  refine xi_aload_n (pc' := 130) rfl rfl rfl ?_
  refine xr_getp (pc' := 133) rfl rfl (by decide) rfl rfl rfl ?_
  refine xi_iload_n (pc' := 134) rfl rfl rfl ?_
  refine xr_ialdv (v := nI (2)) (j := m) (pc' := 135) rfl rfl (by decide) (by first | rfl | (simp only [ix_add, ix_mul, ix_pred]; done) | (simp only [ix_add, ix_mul, ix_pred, *]; done)) (by omega) (by decide) (by simp only [wI_fr, says_fr, put_fr, takes_fr, hears_fr, dat_fr, dw_fr, ans_fr, eff_fr, tell_fr, ne_eq, Nat.reduceEqDiff, not_false_eq_true, hx]) rfl ?_
  refine xi_icmpt (pc' := 201) rfl rfl (by decide) ?_
  refine xi_iincv (y := nI 2) (pc' := 204) rfl rfl (by decide) (st1_7 rfl) rfl ?_
  refine xi_goto (pc' := 116) rfl rfl ?_
  refine xi_iload (pc' := 118) rfl rfl rfl ?_
  refine xi_bipush (pc' := 120) rfl (by decide) rfl ?_
  refine xi_icmpf (pc' := 123) (tg := 207) rfl rfl (by decide) rfl ?_
  refine xi_iload_n (pc' := 124) rfl rfl rfl ?_
  refine xi_iff (pc' := 127) (tg := 138) rfl rfl (by decide) rfl ?_
  refine xi_iload (pc' := 129) rfl rfl rfl ?_
  refine xi_aload_n (pc' := 130) rfl rfl rfl ?_
  refine xr_getp (pc' := 133) rfl rfl (by decide) rfl rfl rfl ?_
  refine xi_iload_n (pc' := 134) rfl rfl rfl ?_
  refine xr_ialdv (v := nI (2)) (j := m) (pc' := 135) rfl rfl (by decide) (by first | rfl | (simp only [ix_add, ix_mul, ix_pred]; done) | (simp only [ix_add, ix_mul, ix_pred, *]; done)) (by omega) (by decide) (by simp only [wI_fr, says_fr, put_fr, takes_fr, hears_fr, dat_fr, dw_fr, ans_fr, eff_fr, tell_fr, ne_eq, Nat.reduceEqDiff, not_false_eq_true, hx]) rfl ?_
  refine xi_icmpf (pc' := 138) (tg := 201) rfl rfl (by decide) rfl ?_
  refine xi_aload_n (pc' := 139) rfl rfl rfl ?_
  refine xi_iload (pc' := 141) rfl rfl rfl ?_
  refine xi_iload (pc' := 143) rfl rfl rfl ?_
  refine xi_iload (pc' := 145) rfl rfl rfl ?_
  refine xi_iconst (pc' := 146) rfl rfl ?_
  refine xi_iconst (pc' := 147) rfl rfl ?_
  refine xx_callVi (pc' := 150) rfl rfl (by decide) rfl rfl (by show _ < 81 + 2 * _; omega) (Nat.le_of_ble_eq_true rfl) rfl rfl (r_hears_ok (t := 2) (by decide)) ?_
  refine xx_if (pc' := 153) (tg := 201) rfl rfl rfl (fun q150 => ?_) (fun q150 => ?_)
  · refine xi_iincv (y := nI 3) (pc' := 204) rfl rfl (by decide) (st1_7 rfl) rfl ?_
    refine xi_goto (pc' := 116) rfl rfl ?_
    refine xi_iload (pc' := 118) rfl rfl rfl ?_
    refine xi_bipush (pc' := 120) rfl (by decide) rfl ?_
    refine xi_icmpf (pc' := 123) (tg := 207) rfl rfl (by decide) rfl ?_
    refine xi_iload_n (pc' := 124) rfl rfl rfl ?_
    refine xi_iff (pc' := 127) (tg := 138) rfl rfl (by decide) rfl ?_
    refine xi_iload (pc' := 129) rfl rfl rfl ?_
    refine xi_aload_n (pc' := 130) rfl rfl rfl ?_
    refine xr_getp (pc' := 133) rfl rfl (by decide) rfl rfl rfl ?_
    refine xi_iload_n (pc' := 134) rfl rfl rfl ?_
    refine xr_ialdv (v := nI (2)) (j := m) (pc' := 135) rfl rfl (by decide) (by first | rfl | (simp only [ix_add, ix_mul, ix_pred]; done) | (simp only [ix_add, ix_mul, ix_pred, *]; done)) (by omega) (by decide) (by simp only [wI_fr, says_fr, put_fr, takes_fr, hears_fr, dat_fr, dw_fr, ans_fr, eff_fr, tell_fr, ne_eq, Nat.reduceEqDiff, not_false_eq_true, hx]) rfl ?_
    refine xi_icmpt (pc' := 201) rfl rfl (by decide) ?_
    refine xi_iincv (y := nI 4) (pc' := 204) rfl rfl (by decide) (st1_7 rfl) rfl ?_
    refine xi_goto (pc' := 116) rfl rfl ?_
    refine xi_iload (pc' := 118) rfl rfl rfl ?_
    refine xi_bipush (pc' := 120) rfl (by decide) rfl ?_
    refine xi_icmpf (pc' := 123) (tg := 207) rfl rfl (by decide) rfl ?_
    refine xi_iload_n (pc' := 124) rfl rfl rfl ?_
    refine xi_iff (pc' := 127) (tg := 138) rfl rfl (by decide) rfl ?_
    refine xi_iload (pc' := 129) rfl rfl rfl ?_
    refine xi_aload_n (pc' := 130) rfl rfl rfl ?_
    refine xr_getp (pc' := 133) rfl rfl (by decide) rfl rfl rfl ?_
    refine xi_iload_n (pc' := 134) rfl rfl rfl ?_
    refine xr_ialdv (v := nI (2)) (j := m) (pc' := 135) rfl rfl (by decide) (by first | rfl | (simp only [ix_add, ix_mul, ix_pred]; done) | (simp only [ix_add, ix_mul, ix_pred, *]; done)) (by omega) (by decide) (by simp only [wI_fr, says_fr, put_fr, takes_fr, hears_fr, dat_fr, dw_fr, ans_fr, eff_fr, tell_fr, ne_eq, Nat.reduceEqDiff, not_false_eq_true, hx]) rfl ?_
    refine xi_icmpt (pc' := 201) rfl rfl (by decide) ?_
    refine xi_iincv (y := nI 5) (pc' := 204) rfl rfl (by decide) (st1_7 rfl) rfl ?_
    refine xi_goto (pc' := 116) rfl rfl ?_
    refine xi_iload (pc' := 118) rfl rfl rfl ?_
    refine xi_bipush (pc' := 120) rfl (by decide) rfl ?_
    refine xi_icmpf (pc' := 123) (tg := 207) rfl rfl (by decide) rfl ?_
    refine xi_iload_n (pc' := 124) rfl rfl rfl ?_
    refine xi_iff (pc' := 127) (tg := 138) rfl rfl (by decide) rfl ?_
    refine xi_iload (pc' := 129) rfl rfl rfl ?_
    refine xi_aload_n (pc' := 130) rfl rfl rfl ?_
    refine xr_getp (pc' := 133) rfl rfl (by decide) rfl rfl rfl ?_
    refine xi_iload_n (pc' := 134) rfl rfl rfl ?_
    refine xr_ialdv (v := nI (2)) (j := m) (pc' := 135) rfl rfl (by decide) (by first | rfl | (simp only [ix_add, ix_mul, ix_pred]; done) | (simp only [ix_add, ix_mul, ix_pred, *]; done)) (by omega) (by decide) (by simp only [wI_fr, says_fr, put_fr, takes_fr, hears_fr, dat_fr, dw_fr, ans_fr, eff_fr, tell_fr, ne_eq, Nat.reduceEqDiff, not_false_eq_true, hx]) rfl ?_
    refine xi_icmpt (pc' := 201) rfl rfl (by decide) ?_
    refine xi_iincv (y := nI 6) (pc' := 204) rfl rfl (by decide) (st1_7 rfl) rfl ?_
    refine xi_goto (pc' := 116) rfl rfl ?_
    refine xi_iload (pc' := 118) rfl rfl rfl ?_
    refine xi_bipush (pc' := 120) rfl (by decide) rfl ?_
    refine xi_icmpt (pc' := 207) rfl rfl (by decide) ?_
    refine xi_iload (pc' := 209) rfl rfl rfl ?_
    refine xi_iff (pc' := 212) (tg := 216) rfl rfl (by decide) rfl ?_
    refine xi_iload_n (pc' := 213) rfl rfl rfl ?_
    refine xi_ift (pc' := 220) rfl rfl (by decide) ?_
    refine xi_iconst (pc' := 221) rfl rfl ?_
    refine xx_zreturn rfl rfl (by decide) ?_
    simp only [ex_P, Classical.not_not, ↓reduceIte, Nat.add_zero, or_true, true_or, not_true_eq_false, not_false_eq_true, or_false, false_or, wI_get, false_and, true_and, and_true, and_false, and_self, Nat.reduceEqDiff, Nat.succ_ne_zero, reduceCtorEq, nI_lit, nI_lit0, Nat.reduceLT] at *
    first | (simp only [r_give, r_g1, r_g2, r_g3, r_g4, *, ↓reduceIte, Nat.add_zero, or_true, true_or, not_true_eq_false, not_false_eq_true, or_false, false_or, wI_get, false_and, true_and, and_true, and_false, and_self, Nat.reduceEqDiff, Nat.succ_ne_zero, reduceCtorEq, nI_lit, nI_lit0, Nat.reduceLT]; done) | (exfalso; simp_all only [↓reduceIte, Nat.add_zero, or_true, true_or, not_true_eq_false, not_false_eq_true, or_false, false_or, wI_get, false_and, true_and, and_true, and_false, and_self, Nat.reduceEqDiff, Nat.succ_ne_zero, reduceCtorEq, nI_lit, nI_lit0, Nat.reduceLT]; done)
  · refine xi_aload_n (pc' := 154) rfl rfl rfl ?_
    refine xi_iload (pc' := 156) rfl rfl rfl ?_
    refine xi_aload_n (pc' := 157) rfl rfl rfl ?_
    refine xr_getp (pc' := 160) rfl rfl (by decide) rfl rfl rfl ?_
    refine xi_iload_n (pc' := 161) rfl rfl rfl ?_
    refine xr_ialdv (v := nI (s + 1)) (j := m) (pc' := 162) rfl rfl (by decide) (by first | rfl | (simp only [ix_add, ix_mul, ix_pred]; done) | (simp only [ix_add, ix_mul, ix_pred, *]; done)) (by omega) (by decide) (by simp only [wI_fr, says_fr, put_fr, takes_fr, hears_fr, dat_fr, dw_fr, ans_fr, eff_fr, tell_fr, ne_eq, Nat.reduceEqDiff, not_false_eq_true, hsb]) rfl ?_
    refine xi_aload_n (pc' := 163) rfl rfl rfl ?_
    refine xr_getp (pc' := 166) rfl rfl (by decide) rfl rfl rfl ?_
    refine xi_iload_n (pc' := 167) rfl rfl rfl ?_
    refine xr_ialdv (v := nI (nn)) (j := m) (pc' := 168) rfl rfl (by decide) (by first | rfl | (simp only [ix_add, ix_mul, ix_pred]; done) | (simp only [ix_add, ix_mul, ix_pred, *]; done)) (by omega) (by decide) (by simp only [wI_fr, says_fr, put_fr, takes_fr, hears_fr, dat_fr, dw_fr, ans_fr, eff_fr, tell_fr, ne_eq, Nat.reduceEqDiff, not_false_eq_true, hn]) rfl ?_
    refine xi_iload_n (pc' := 169) rfl rfl rfl ?_
    refine xx_callVi (pc' := 172) rfl rfl (by decide) rfl rfl (by show _ < 81 + 2 * _; omega) (Nat.le_of_ble_eq_true rfl) rfl rfl (r_takes_ok (t := 2) (by decide) hs h1 h4 (by decide)) ?_
    refine xi_istore (pc' := 174) rfl (st1_8 rfl) rfl ?_
    refine xi_iload (pc' := 176) rfl rfl rfl ?_
    refine xx_if (pc' := 179) (tg := 201) rfl rfl rfl (fun q176 => ?_) (fun q176 => ?_)
    · refine xi_iincv (y := nI 3) (pc' := 204) rfl rfl (by decide) (st1_7 rfl) rfl ?_
      refine xi_goto (pc' := 116) rfl rfl ?_
      refine xi_iload (pc' := 118) rfl rfl rfl ?_
      refine xi_bipush (pc' := 120) rfl (by decide) rfl ?_
      refine xi_icmpf (pc' := 123) (tg := 207) rfl rfl (by decide) rfl ?_
      refine xi_iload_n (pc' := 124) rfl rfl rfl ?_
      refine xi_iff (pc' := 127) (tg := 138) rfl rfl (by decide) rfl ?_
      refine xi_iload (pc' := 129) rfl rfl rfl ?_
      refine xi_aload_n (pc' := 130) rfl rfl rfl ?_
      refine xr_getp (pc' := 133) rfl rfl (by decide) rfl rfl rfl ?_
      refine xi_iload_n (pc' := 134) rfl rfl rfl ?_
      refine xr_ialdv (v := nI (2)) (j := m) (pc' := 135) rfl rfl (by decide) (by first | rfl | (simp only [ix_add, ix_mul, ix_pred]; done) | (simp only [ix_add, ix_mul, ix_pred, *]; done)) (by omega) (by decide) (by simp only [wI_fr, says_fr, put_fr, takes_fr, hears_fr, dat_fr, dw_fr, ans_fr, eff_fr, tell_fr, ne_eq, Nat.reduceEqDiff, not_false_eq_true, hx]) rfl ?_
      refine xi_icmpt (pc' := 201) rfl rfl (by decide) ?_
      refine xi_iincv (y := nI 4) (pc' := 204) rfl rfl (by decide) (st1_7 rfl) rfl ?_
      refine xi_goto (pc' := 116) rfl rfl ?_
      refine xi_iload (pc' := 118) rfl rfl rfl ?_
      refine xi_bipush (pc' := 120) rfl (by decide) rfl ?_
      refine xi_icmpf (pc' := 123) (tg := 207) rfl rfl (by decide) rfl ?_
      refine xi_iload_n (pc' := 124) rfl rfl rfl ?_
      refine xi_iff (pc' := 127) (tg := 138) rfl rfl (by decide) rfl ?_
      refine xi_iload (pc' := 129) rfl rfl rfl ?_
      refine xi_aload_n (pc' := 130) rfl rfl rfl ?_
      refine xr_getp (pc' := 133) rfl rfl (by decide) rfl rfl rfl ?_
      refine xi_iload_n (pc' := 134) rfl rfl rfl ?_
      refine xr_ialdv (v := nI (2)) (j := m) (pc' := 135) rfl rfl (by decide) (by first | rfl | (simp only [ix_add, ix_mul, ix_pred]; done) | (simp only [ix_add, ix_mul, ix_pred, *]; done)) (by omega) (by decide) (by simp only [wI_fr, says_fr, put_fr, takes_fr, hears_fr, dat_fr, dw_fr, ans_fr, eff_fr, tell_fr, ne_eq, Nat.reduceEqDiff, not_false_eq_true, hx]) rfl ?_
      refine xi_icmpt (pc' := 201) rfl rfl (by decide) ?_
      refine xi_iincv (y := nI 5) (pc' := 204) rfl rfl (by decide) (st1_7 rfl) rfl ?_
      refine xi_goto (pc' := 116) rfl rfl ?_
      refine xi_iload (pc' := 118) rfl rfl rfl ?_
      refine xi_bipush (pc' := 120) rfl (by decide) rfl ?_
      refine xi_icmpf (pc' := 123) (tg := 207) rfl rfl (by decide) rfl ?_
      refine xi_iload_n (pc' := 124) rfl rfl rfl ?_
      refine xi_iff (pc' := 127) (tg := 138) rfl rfl (by decide) rfl ?_
      refine xi_iload (pc' := 129) rfl rfl rfl ?_
      refine xi_aload_n (pc' := 130) rfl rfl rfl ?_
      refine xr_getp (pc' := 133) rfl rfl (by decide) rfl rfl rfl ?_
      refine xi_iload_n (pc' := 134) rfl rfl rfl ?_
      refine xr_ialdv (v := nI (2)) (j := m) (pc' := 135) rfl rfl (by decide) (by first | rfl | (simp only [ix_add, ix_mul, ix_pred]; done) | (simp only [ix_add, ix_mul, ix_pred, *]; done)) (by omega) (by decide) (by simp only [wI_fr, says_fr, put_fr, takes_fr, hears_fr, dat_fr, dw_fr, ans_fr, eff_fr, tell_fr, ne_eq, Nat.reduceEqDiff, not_false_eq_true, hx]) rfl ?_
      refine xi_icmpt (pc' := 201) rfl rfl (by decide) ?_
      refine xi_iincv (y := nI 6) (pc' := 204) rfl rfl (by decide) (st1_7 rfl) rfl ?_
      refine xi_goto (pc' := 116) rfl rfl ?_
      refine xi_iload (pc' := 118) rfl rfl rfl ?_
      refine xi_bipush (pc' := 120) rfl (by decide) rfl ?_
      refine xi_icmpt (pc' := 207) rfl rfl (by decide) ?_
      refine xi_iload (pc' := 209) rfl rfl rfl ?_
      refine xi_iff (pc' := 212) (tg := 216) rfl rfl (by decide) rfl ?_
      refine xi_iload_n (pc' := 213) rfl rfl rfl ?_
      refine xi_ift (pc' := 220) rfl rfl (by decide) ?_
      refine xi_iconst (pc' := 221) rfl rfl ?_
      refine xx_zreturn rfl rfl (by decide) ?_
      simp only [ex_P, Classical.not_not, ↓reduceIte, Nat.add_zero, or_true, true_or, not_true_eq_false, not_false_eq_true, or_false, false_or, wI_get, false_and, true_and, and_true, and_false, and_self, Nat.reduceEqDiff, Nat.succ_ne_zero, reduceCtorEq, nI_lit, nI_lit0, Nat.reduceLT] at *
      first | (simp only [r_give, r_g1, r_g2, r_g3, r_g4, *, ↓reduceIte, Nat.add_zero, or_true, true_or, not_true_eq_false, not_false_eq_true, or_false, false_or, wI_get, false_and, true_and, and_true, and_false, and_self, Nat.reduceEqDiff, Nat.succ_ne_zero, reduceCtorEq, nI_lit, nI_lit0, Nat.reduceLT]; done) | (exfalso; simp_all only [↓reduceIte, Nat.add_zero, or_true, true_or, not_true_eq_false, not_false_eq_true, or_false, false_or, wI_get, false_and, true_and, and_true, and_false, and_self, Nat.reduceEqDiff, Nat.succ_ne_zero, reduceCtorEq, nI_lit, nI_lit0, Nat.reduceLT]; done)
    · refine xi_iload_n (pc' := 180) rfl rfl rfl ?_
      refine xi_iff (pc' := 183) (tg := 201) rfl rfl (by decide) rfl ?_
      refine xi_aload_n (pc' := 184) rfl rfl rfl ?_
      refine xi_iload (pc' := 186) rfl rfl rfl ?_
      refine xi_iload_n (pc' := 187) rfl rfl rfl ?_
      refine xx_callVi (pc' := 190) rfl rfl (by decide) rfl rfl (by show _ < 81 + 2 * _; omega) (Nat.le_of_ble_eq_true rfl) rfl rfl (r_saysStatus (t := 2) (by decide) hb (g3_hw (x := 2) hh (by omega)) (by omega)) ?_
      refine xi_iconst (pc' := 191) rfl rfl ?_
      refine xx_icmp (pc' := 194) (tg := 198) rfl rfl rfl (fun q191 => ?_) (fun q191 => ?_)
      · refine xi_iconst (pc' := 199) rfl rfl ?_
        refine xi_istore (pc' := 201) rfl (st1_6 rfl) rfl ?_
        refine xi_iincv (y := nI 3) (pc' := 204) rfl rfl (by decide) (st1_7 rfl) rfl ?_
        refine xi_goto (pc' := 116) rfl rfl ?_
        refine xi_iload (pc' := 118) rfl rfl rfl ?_
        refine xi_bipush (pc' := 120) rfl (by decide) rfl ?_
        refine xi_icmpf (pc' := 123) (tg := 207) rfl rfl (by decide) rfl ?_
        refine xi_iload_n (pc' := 124) rfl rfl rfl ?_
        refine xi_iff (pc' := 127) (tg := 138) rfl rfl (by decide) rfl ?_
        refine xi_iload (pc' := 129) rfl rfl rfl ?_
        refine xi_aload_n (pc' := 130) rfl rfl rfl ?_
        refine xr_getp (pc' := 133) rfl rfl (by decide) rfl rfl rfl ?_
        refine xi_iload_n (pc' := 134) rfl rfl rfl ?_
        refine xr_ialdv (v := nI (2)) (j := m) (pc' := 135) rfl rfl (by decide) (by first | rfl | (simp only [ix_add, ix_mul, ix_pred]; done) | (simp only [ix_add, ix_mul, ix_pred, *]; done)) (by omega) (by decide) (by simp only [wI_fr, says_fr, put_fr, takes_fr, hears_fr, dat_fr, dw_fr, ans_fr, eff_fr, tell_fr, ne_eq, Nat.reduceEqDiff, not_false_eq_true, hx]) rfl ?_
        refine xi_icmpt (pc' := 201) rfl rfl (by decide) ?_
        refine xi_iincv (y := nI 4) (pc' := 204) rfl rfl (by decide) (st1_7 rfl) rfl ?_
        refine xi_goto (pc' := 116) rfl rfl ?_
        refine xi_iload (pc' := 118) rfl rfl rfl ?_
        refine xi_bipush (pc' := 120) rfl (by decide) rfl ?_
        refine xi_icmpf (pc' := 123) (tg := 207) rfl rfl (by decide) rfl ?_
        refine xi_iload_n (pc' := 124) rfl rfl rfl ?_
        refine xi_iff (pc' := 127) (tg := 138) rfl rfl (by decide) rfl ?_
        refine xi_iload (pc' := 129) rfl rfl rfl ?_
        refine xi_aload_n (pc' := 130) rfl rfl rfl ?_
        refine xr_getp (pc' := 133) rfl rfl (by decide) rfl rfl rfl ?_
        refine xi_iload_n (pc' := 134) rfl rfl rfl ?_
        refine xr_ialdv (v := nI (2)) (j := m) (pc' := 135) rfl rfl (by decide) (by first | rfl | (simp only [ix_add, ix_mul, ix_pred]; done) | (simp only [ix_add, ix_mul, ix_pred, *]; done)) (by omega) (by decide) (by simp only [wI_fr, says_fr, put_fr, takes_fr, hears_fr, dat_fr, dw_fr, ans_fr, eff_fr, tell_fr, ne_eq, Nat.reduceEqDiff, not_false_eq_true, hx]) rfl ?_
        refine xi_icmpt (pc' := 201) rfl rfl (by decide) ?_
        refine xi_iincv (y := nI 5) (pc' := 204) rfl rfl (by decide) (st1_7 rfl) rfl ?_
        refine xi_goto (pc' := 116) rfl rfl ?_
        refine xi_iload (pc' := 118) rfl rfl rfl ?_
        refine xi_bipush (pc' := 120) rfl (by decide) rfl ?_
        refine xi_icmpf (pc' := 123) (tg := 207) rfl rfl (by decide) rfl ?_
        refine xi_iload_n (pc' := 124) rfl rfl rfl ?_
        refine xi_iff (pc' := 127) (tg := 138) rfl rfl (by decide) rfl ?_
        refine xi_iload (pc' := 129) rfl rfl rfl ?_
        refine xi_aload_n (pc' := 130) rfl rfl rfl ?_
        refine xr_getp (pc' := 133) rfl rfl (by decide) rfl rfl rfl ?_
        refine xi_iload_n (pc' := 134) rfl rfl rfl ?_
        refine xr_ialdv (v := nI (2)) (j := m) (pc' := 135) rfl rfl (by decide) (by first | rfl | (simp only [ix_add, ix_mul, ix_pred]; done) | (simp only [ix_add, ix_mul, ix_pred, *]; done)) (by omega) (by decide) (by simp only [wI_fr, says_fr, put_fr, takes_fr, hears_fr, dat_fr, dw_fr, ans_fr, eff_fr, tell_fr, ne_eq, Nat.reduceEqDiff, not_false_eq_true, hx]) rfl ?_
        refine xi_icmpt (pc' := 201) rfl rfl (by decide) ?_
        refine xi_iincv (y := nI 6) (pc' := 204) rfl rfl (by decide) (st1_7 rfl) rfl ?_
        refine xi_goto (pc' := 116) rfl rfl ?_
        refine xi_iload (pc' := 118) rfl rfl rfl ?_
        refine xi_bipush (pc' := 120) rfl (by decide) rfl ?_
        refine xi_icmpt (pc' := 207) rfl rfl (by decide) ?_
        refine xi_iload (pc' := 209) rfl rfl rfl ?_
        refine xi_iff (pc' := 212) (tg := 216) rfl rfl (by decide) rfl ?_
        refine xi_iload_n (pc' := 213) rfl rfl rfl ?_
        refine xi_ift (pc' := 220) rfl rfl (by decide) ?_
        refine xi_iconst (pc' := 221) rfl rfl ?_
        refine xx_zreturn rfl rfl (by decide) ?_
        simp only [ex_P, Classical.not_not, ↓reduceIte, Nat.add_zero, or_true, true_or, not_true_eq_false, not_false_eq_true, or_false, false_or, wI_get, false_and, true_and, and_true, and_false, and_self, Nat.reduceEqDiff, Nat.succ_ne_zero, reduceCtorEq, nI_lit, nI_lit0, Nat.reduceLT] at *
        first | (simp only [r_give, r_g1, r_g2, r_g3, r_g4, *, ↓reduceIte, Nat.add_zero, or_true, true_or, not_true_eq_false, not_false_eq_true, or_false, false_or, wI_get, false_and, true_and, and_true, and_false, and_self, Nat.reduceEqDiff, Nat.succ_ne_zero, reduceCtorEq, nI_lit, nI_lit0, Nat.reduceLT]; done) | (exfalso; simp_all only [↓reduceIte, Nat.add_zero, or_true, true_or, not_true_eq_false, not_false_eq_true, or_false, false_or, wI_get, false_and, true_and, and_true, and_false, and_self, Nat.reduceEqDiff, Nat.succ_ne_zero, reduceCtorEq, nI_lit, nI_lit0, Nat.reduceLT]; done)
      · refine xi_iconst (pc' := 195) rfl rfl ?_
        refine xi_goto (pc' := 199) rfl rfl ?_
        refine xi_istore (pc' := 201) rfl (st1_6 rfl) rfl ?_
        refine xi_iincv (y := nI 3) (pc' := 204) rfl rfl (by decide) (st1_7 rfl) rfl ?_
        refine xi_goto (pc' := 116) rfl rfl ?_
        refine xi_iload (pc' := 118) rfl rfl rfl ?_
        refine xi_bipush (pc' := 120) rfl (by decide) rfl ?_
        refine xi_icmpf (pc' := 123) (tg := 207) rfl rfl (by decide) rfl ?_
        refine xi_iload_n (pc' := 124) rfl rfl rfl ?_
        refine xi_iff (pc' := 127) (tg := 138) rfl rfl (by decide) rfl ?_
        refine xi_iload (pc' := 129) rfl rfl rfl ?_
        refine xi_aload_n (pc' := 130) rfl rfl rfl ?_
        refine xr_getp (pc' := 133) rfl rfl (by decide) rfl rfl rfl ?_
        refine xi_iload_n (pc' := 134) rfl rfl rfl ?_
        refine xr_ialdv (v := nI (2)) (j := m) (pc' := 135) rfl rfl (by decide) (by first | rfl | (simp only [ix_add, ix_mul, ix_pred]; done) | (simp only [ix_add, ix_mul, ix_pred, *]; done)) (by omega) (by decide) (by simp only [wI_fr, says_fr, put_fr, takes_fr, hears_fr, dat_fr, dw_fr, ans_fr, eff_fr, tell_fr, ne_eq, Nat.reduceEqDiff, not_false_eq_true, hx]) rfl ?_
        refine xi_icmpt (pc' := 201) rfl rfl (by decide) ?_
        refine xi_iincv (y := nI 4) (pc' := 204) rfl rfl (by decide) (st1_7 rfl) rfl ?_
        refine xi_goto (pc' := 116) rfl rfl ?_
        refine xi_iload (pc' := 118) rfl rfl rfl ?_
        refine xi_bipush (pc' := 120) rfl (by decide) rfl ?_
        refine xi_icmpf (pc' := 123) (tg := 207) rfl rfl (by decide) rfl ?_
        refine xi_iload_n (pc' := 124) rfl rfl rfl ?_
        refine xi_iff (pc' := 127) (tg := 138) rfl rfl (by decide) rfl ?_
        refine xi_iload (pc' := 129) rfl rfl rfl ?_
        refine xi_aload_n (pc' := 130) rfl rfl rfl ?_
        refine xr_getp (pc' := 133) rfl rfl (by decide) rfl rfl rfl ?_
        refine xi_iload_n (pc' := 134) rfl rfl rfl ?_
        refine xr_ialdv (v := nI (2)) (j := m) (pc' := 135) rfl rfl (by decide) (by first | rfl | (simp only [ix_add, ix_mul, ix_pred]; done) | (simp only [ix_add, ix_mul, ix_pred, *]; done)) (by omega) (by decide) (by simp only [wI_fr, says_fr, put_fr, takes_fr, hears_fr, dat_fr, dw_fr, ans_fr, eff_fr, tell_fr, ne_eq, Nat.reduceEqDiff, not_false_eq_true, hx]) rfl ?_
        refine xi_icmpt (pc' := 201) rfl rfl (by decide) ?_
        refine xi_iincv (y := nI 5) (pc' := 204) rfl rfl (by decide) (st1_7 rfl) rfl ?_
        refine xi_goto (pc' := 116) rfl rfl ?_
        refine xi_iload (pc' := 118) rfl rfl rfl ?_
        refine xi_bipush (pc' := 120) rfl (by decide) rfl ?_
        refine xi_icmpf (pc' := 123) (tg := 207) rfl rfl (by decide) rfl ?_
        refine xi_iload_n (pc' := 124) rfl rfl rfl ?_
        refine xi_iff (pc' := 127) (tg := 138) rfl rfl (by decide) rfl ?_
        refine xi_iload (pc' := 129) rfl rfl rfl ?_
        refine xi_aload_n (pc' := 130) rfl rfl rfl ?_
        refine xr_getp (pc' := 133) rfl rfl (by decide) rfl rfl rfl ?_
        refine xi_iload_n (pc' := 134) rfl rfl rfl ?_
        refine xr_ialdv (v := nI (2)) (j := m) (pc' := 135) rfl rfl (by decide) (by first | rfl | (simp only [ix_add, ix_mul, ix_pred]; done) | (simp only [ix_add, ix_mul, ix_pred, *]; done)) (by omega) (by decide) (by simp only [wI_fr, says_fr, put_fr, takes_fr, hears_fr, dat_fr, dw_fr, ans_fr, eff_fr, tell_fr, ne_eq, Nat.reduceEqDiff, not_false_eq_true, hx]) rfl ?_
        refine xi_icmpt (pc' := 201) rfl rfl (by decide) ?_
        refine xi_iincv (y := nI 6) (pc' := 204) rfl rfl (by decide) (st1_7 rfl) rfl ?_
        refine xi_goto (pc' := 116) rfl rfl ?_
        refine xi_iload (pc' := 118) rfl rfl rfl ?_
        refine xi_bipush (pc' := 120) rfl (by decide) rfl ?_
        refine xi_icmpt (pc' := 207) rfl rfl (by decide) ?_
        refine xi_iload (pc' := 209) rfl rfl rfl ?_
        refine xi_ift (pc' := 216) rfl rfl (by decide) ?_
        refine xi_iconst (pc' := 217) rfl rfl ?_
        refine xi_goto (pc' := 221) rfl rfl ?_
        refine xx_zreturn rfl rfl (by decide) ?_
        simp only [ex_P, Classical.not_not, ↓reduceIte, Nat.add_zero, or_true, true_or, not_true_eq_false, not_false_eq_true, or_false, false_or, wI_get, false_and, true_and, and_true, and_false, and_self, Nat.reduceEqDiff, Nat.succ_ne_zero, reduceCtorEq, nI_lit, nI_lit0, Nat.reduceLT] at *
        first | (simp only [r_give, r_g1, r_g2, r_g3, r_g4, *, ↓reduceIte, Nat.add_zero, or_true, true_or, not_true_eq_false, not_false_eq_true, or_false, false_or, wI_get, false_and, true_and, and_true, and_false, and_self, Nat.reduceEqDiff, Nat.succ_ne_zero, reduceCtorEq, nI_lit, nI_lit0, Nat.reduceLT]; done) | (exfalso; simp_all only [↓reduceIte, Nat.add_zero, or_true, true_or, not_true_eq_false, not_false_eq_true, or_false, false_or, wI_get, false_and, true_and, and_true, and_false, and_self, Nat.reduceEqDiff, Nat.succ_ne_zero, reduceCtorEq, nI_lit, nI_lit0, Nat.reduceLT]; done)
theorem r_gives_0_3 {L : Nat} {xs : Nat → Int32} {D n : Nat} {I J : ex_Mem} {m s nn b N : Nat} (hk : J 69 m = nI 0) (hx : J 70 m = nI 3) (hm : m < 8) (hb : b < 2) (hs : s < 3) (h1 : 1 ≤ nn) (h4 : nn ≤ 4) (hsb : J 72 m = nI (s + 1)) (hn : J 73 m = nI nn) (hh : hwB N J) (hN : N + 8 < 2 ^ 31) (hg : gdB 0 J) : ri L xs (D + 3) 119 [.ref 52, .int (nI m), .int (nI b)] (mkH n I J) ((r_give J m 3 s nn b).1) (mkH n I (r_give J m 3 s nn b).2) := by
  show xx cb_G _ _ _ 119 0 [.ref 52, .int (nI m), .int (nI b), ex_no, ex_no, ex_no, ex_no, ex_no, ex_no] [] _ _
  refine xi_aload_n (pc' := 1) rfl rfl rfl ?_
  refine xr_getp (pc' := 4) rfl rfl (by decide) rfl rfl rfl ?_
  refine xi_iload_n (pc' := 5) rfl rfl rfl ?_
  refine xr_ialdv (v := nI (0)) (j := m) (pc' := 6) rfl rfl (by decide) (by first | rfl | (simp only [ix_add, ix_mul, ix_pred]; done) | (simp only [ix_add, ix_mul, ix_pred, *]; done)) (by omega) (by decide) (hk) rfl ?_
  refine xi_iconst (pc' := 7) rfl rfl ?_
  refine xi_icmpt (pc' := 14) rfl rfl (by decide) ?_
  refine xi_iconst (pc' := 15) rfl rfl ?_
  refine xi_istore_n (pc' := 16) rfl (st1_3 rfl) rfl ?_
  refine xi_iload_n (pc' := 17) rfl rfl rfl ?_
  refine xi_ift (pc' := 25) rfl rfl (by decide) ?_
  refine xi_aload_n (pc' := 26) rfl rfl rfl ?_
  refine xr_getp (pc' := 29) rfl rfl (by decide) rfl rfl rfl ?_
  refine xi_iload_n (pc' := 30) rfl rfl rfl ?_
  refine xr_ialdv (v := nI (3)) (j := m) (pc' := 31) rfl rfl (by decide) (by first | rfl | (simp only [ix_add, ix_mul, ix_pred]; done) | (simp only [ix_add, ix_mul, ix_pred, *]; done)) (by omega) (by decide) (hx) rfl ?_
  refine xi_iconst (pc' := 32) rfl rfl ?_
  refine xi_aload_n (pc' := 33) rfl rfl rfl ?_
  refine xr_getp (pc' := 36) rfl rfl (by decide) rfl rfl rfl ?_
  refine xi_iload_n (pc' := 37) rfl rfl rfl ?_
  refine xr_ialdv (v := nI (s + 1)) (j := m) (pc' := 38) rfl rfl (by decide) (by first | rfl | (simp only [ix_add, ix_mul, ix_pred]; done) | (simp only [ix_add, ix_mul, ix_pred, *]; done)) (by omega) (by decide) (hsb) rfl ?_
  refine xi_aload_n (pc' := 39) rfl rfl rfl ?_
  refine xr_getp (pc' := 42) rfl rfl (by decide) rfl rfl rfl ?_
  refine xi_iload_n (pc' := 43) rfl rfl rfl ?_
  refine xr_ialdv (v := nI (nn)) (j := m) (pc' := 44) rfl rfl (by decide) (by first | rfl | (simp only [ix_add, ix_mul, ix_pred]; done) | (simp only [ix_add, ix_mul, ix_pred, *]; done)) (by omega) (by decide) (hn) rfl ?_
  refine xx_callSi (pc' := 47) rfl rfl (by decide) rfl (Nat.le_of_ble_eq_true rfl) rfl rfl (r_commandW) ?_
  refine xi_istore (pc' := 49) rfl (st1_4 rfl) rfl ?_
  refine xi_aload_n (pc' := 50) rfl rfl rfl ?_
  refine xi_iload_n (pc' := 51) rfl rfl rfl ?_
  refine xi_iconst (pc' := 52) rfl rfl ?_
  refine xi_iload (pc' := 54) rfl rfl rfl ?_
  refine xx_callVi (pc' := 57) rfl rfl (by decide) rfl rfl (by show _ < 81 + 2 * _; omega) (Nat.le_of_ble_eq_true rfl) rfl rfl (r_put0 hb hh (by omega)) ?_
  refine xi_istore (pc' := 59) rfl (st1_5 rfl) rfl ?_
  refine xi_iconst (pc' := 60) rfl rfl ?_
  refine xi_istore (pc' := 62) rfl (st1_6 rfl) rfl ?_
  refine r_dat_loop (D := D) (N := N + 1) (g := 0) (fa := nI 0) hm h4 hb (hwB_put hh (by omega)) (by omega) (put_gdB hg) (by omega) ((put_fr (by decide) (by decide) (by decide) (by decide)).trans hn) (fun v7 v8 h7 h8 => ?_) nn 0 (by omega) _ _ rfl rfl
  refine xi_iconst (pc' := 111) rfl rfl ?_
  refine xi_istore (pc' := 113) rfl (st1_6 rfl) rfl ?_
  refine xi_iconst (pc' := 114) rfl rfl ?_
  refine xi_istore (pc' := 116) rfl (st1_7 rfl) rfl ?_
  refine xi_iload (pc' := 118) rfl rfl rfl ?_
  refine xi_bipush (pc' := 120) rfl (by decide) rfl ?_
  refine xi_icmpf (pc' := 123) (tg := 207) rfl rfl (by decide) rfl ?_
  refine xi_iload_n (pc' := 124) rfl rfl rfl ?_
  refine xi_iff (pc' := 127) (tg := 138) rfl rfl (by decide) rfl ?_
  refine xi_iload (pc' := 129) rfl rfl rfl ?_
  refine xi_aload_n (pc' := 130) rfl rfl rfl ?_
  refine xr_getp (pc' := 133) rfl rfl (by decide) rfl rfl rfl ?_
  refine xi_iload_n (pc' := 134) rfl rfl rfl ?_
  refine xr_ialdv (v := nI (3)) (j := m) (pc' := 135) rfl rfl (by decide) (by first | rfl | (simp only [ix_add, ix_mul, ix_pred]; done) | (simp only [ix_add, ix_mul, ix_pred, *]; done)) (by omega) (by decide) (by simp only [wI_fr, says_fr, put_fr, takes_fr, hears_fr, dat_fr, dw_fr, ans_fr, eff_fr, tell_fr, ne_eq, Nat.reduceEqDiff, not_false_eq_true, hx]) rfl ?_
  refine xi_icmpt (pc' := 201) rfl rfl (by decide) ?_
  refine xi_iincv (y := nI 1) (pc' := 204) rfl rfl (by decide) (st1_7 rfl) rfl ?_
  refine xi_goto (pc' := 116) rfl rfl ?_
  refine xi_iload (pc' := 118) rfl rfl rfl ?_
  refine xi_bipush (pc' := 120) rfl (by decide) rfl ?_
  refine xi_icmpf (pc' := 123) (tg := 207) rfl rfl (by decide) rfl ?_
  refine xi_iload_n (pc' := 124) rfl rfl rfl ?_
  refine xi_iff (pc' := 127) (tg := 138) rfl rfl (by decide) rfl ?_
  refine xi_iload (pc' := 129) rfl rfl rfl ?_
  refine xi_aload_n (pc' := 130) rfl rfl rfl ?_
  refine xr_getp (pc' := 133) rfl rfl (by decide) rfl rfl rfl ?_
  refine xi_iload_n (pc' := 134) rfl rfl rfl ?_
  refine xr_ialdv (v := nI (3)) (j := m) (pc' := 135) rfl rfl (by decide) (by first | rfl | (simp only [ix_add, ix_mul, ix_pred]; done) | (simp only [ix_add, ix_mul, ix_pred, *]; done)) (by omega) (by decide) (by simp only [wI_fr, says_fr, put_fr, takes_fr, hears_fr, dat_fr, dw_fr, ans_fr, eff_fr, tell_fr, ne_eq, Nat.reduceEqDiff, not_false_eq_true, hx]) rfl ?_
  refine xi_icmpt (pc' := 201) rfl rfl (by decide) ?_
  refine xi_iincv (y := nI 2) (pc' := 204) rfl rfl (by decide) (st1_7 rfl) rfl ?_
  refine xi_goto (pc' := 116) rfl rfl ?_
  refine xi_iload (pc' := 118) rfl rfl rfl ?_
  refine xi_bipush (pc' := 120) rfl (by decide) rfl ?_
  refine xi_icmpf (pc' := 123) (tg := 207) rfl rfl (by decide) rfl ?_
  refine xi_iload_n (pc' := 124) rfl rfl rfl ?_
  refine xi_iff (pc' := 127) (tg := 138) rfl rfl (by decide) rfl ?_
  refine xi_iload (pc' := 129) rfl rfl rfl ?_
  refine xi_aload_n (pc' := 130) rfl rfl rfl ?_
  refine xr_getp (pc' := 133) rfl rfl (by decide) rfl rfl rfl ?_
  refine xi_iload_n (pc' := 134) rfl rfl rfl ?_
  refine xr_ialdv (v := nI (3)) (j := m) (pc' := 135) rfl rfl (by decide) (by first | rfl | (simp only [ix_add, ix_mul, ix_pred]; done) | (simp only [ix_add, ix_mul, ix_pred, *]; done)) (by omega) (by decide) (by simp only [wI_fr, says_fr, put_fr, takes_fr, hears_fr, dat_fr, dw_fr, ans_fr, eff_fr, tell_fr, ne_eq, Nat.reduceEqDiff, not_false_eq_true, hx]) rfl ?_
  refine xi_icmpt (pc' := 201) rfl rfl (by decide) ?_
  refine xi_iincv (y := nI 3) (pc' := 204) rfl rfl (by decide) (st1_7 rfl) rfl ?_
  refine xi_goto (pc' := 116) rfl rfl ?_
  refine xi_iload (pc' := 118) rfl rfl rfl ?_
  refine xi_bipush (pc' := 120) rfl (by decide) rfl ?_
  refine xi_icmpf (pc' := 123) (tg := 207) rfl rfl (by decide) rfl ?_
  refine xi_iload_n (pc' := 124) rfl rfl rfl ?_
  refine xi_iff (pc' := 127) (tg := 138) rfl rfl (by decide) rfl ?_
  refine xi_iload (pc' := 129) rfl rfl rfl ?_
  refine xi_aload_n (pc' := 130) rfl rfl rfl ?_
  refine xr_getp (pc' := 133) rfl rfl (by decide) rfl rfl rfl ?_
  refine xi_iload_n (pc' := 134) rfl rfl rfl ?_
  refine xr_ialdv (v := nI (3)) (j := m) (pc' := 135) rfl rfl (by decide) (by first | rfl | (simp only [ix_add, ix_mul, ix_pred]; done) | (simp only [ix_add, ix_mul, ix_pred, *]; done)) (by omega) (by decide) (by simp only [wI_fr, says_fr, put_fr, takes_fr, hears_fr, dat_fr, dw_fr, ans_fr, eff_fr, tell_fr, ne_eq, Nat.reduceEqDiff, not_false_eq_true, hx]) rfl ?_
  refine xi_icmpf (pc' := 138) (tg := 201) rfl rfl (by decide) rfl ?_
  refine xi_aload_n (pc' := 139) rfl rfl rfl ?_
  refine xi_iload (pc' := 141) rfl rfl rfl ?_
  refine xi_iload (pc' := 143) rfl rfl rfl ?_
  refine xi_iload (pc' := 145) rfl rfl rfl ?_
  refine xi_iconst (pc' := 146) rfl rfl ?_
  refine xi_iconst (pc' := 147) rfl rfl ?_
  refine xx_callVi (pc' := 150) rfl rfl (by decide) rfl rfl (by show _ < 81 + 2 * _; omega) (Nat.le_of_ble_eq_true rfl) rfl rfl (r_hears_ok (t := 3) (by decide)) ?_
  refine xx_if (pc' := 153) (tg := 201) rfl rfl rfl (fun q150 => ?_) (fun q150 => ?_)
  · refine xi_iincv (y := nI 4) (pc' := 204) rfl rfl (by decide) (st1_7 rfl) rfl ?_
    refine xi_goto (pc' := 116) rfl rfl ?_
    refine xi_iload (pc' := 118) rfl rfl rfl ?_
    refine xi_bipush (pc' := 120) rfl (by decide) rfl ?_
    refine xi_icmpf (pc' := 123) (tg := 207) rfl rfl (by decide) rfl ?_
    refine xi_iload_n (pc' := 124) rfl rfl rfl ?_
    refine xi_iff (pc' := 127) (tg := 138) rfl rfl (by decide) rfl ?_
    refine xi_iload (pc' := 129) rfl rfl rfl ?_
    refine xi_aload_n (pc' := 130) rfl rfl rfl ?_
    refine xr_getp (pc' := 133) rfl rfl (by decide) rfl rfl rfl ?_
    refine xi_iload_n (pc' := 134) rfl rfl rfl ?_
    refine xr_ialdv (v := nI (3)) (j := m) (pc' := 135) rfl rfl (by decide) (by first | rfl | (simp only [ix_add, ix_mul, ix_pred]; done) | (simp only [ix_add, ix_mul, ix_pred, *]; done)) (by omega) (by decide) (by simp only [wI_fr, says_fr, put_fr, takes_fr, hears_fr, dat_fr, dw_fr, ans_fr, eff_fr, tell_fr, ne_eq, Nat.reduceEqDiff, not_false_eq_true, hx]) rfl ?_
    refine xi_icmpt (pc' := 201) rfl rfl (by decide) ?_
    refine xi_iincv (y := nI 5) (pc' := 204) rfl rfl (by decide) (st1_7 rfl) rfl ?_
    refine xi_goto (pc' := 116) rfl rfl ?_
    refine xi_iload (pc' := 118) rfl rfl rfl ?_
    refine xi_bipush (pc' := 120) rfl (by decide) rfl ?_
    refine xi_icmpf (pc' := 123) (tg := 207) rfl rfl (by decide) rfl ?_
    refine xi_iload_n (pc' := 124) rfl rfl rfl ?_
    refine xi_iff (pc' := 127) (tg := 138) rfl rfl (by decide) rfl ?_
    refine xi_iload (pc' := 129) rfl rfl rfl ?_
    refine xi_aload_n (pc' := 130) rfl rfl rfl ?_
    refine xr_getp (pc' := 133) rfl rfl (by decide) rfl rfl rfl ?_
    refine xi_iload_n (pc' := 134) rfl rfl rfl ?_
    refine xr_ialdv (v := nI (3)) (j := m) (pc' := 135) rfl rfl (by decide) (by first | rfl | (simp only [ix_add, ix_mul, ix_pred]; done) | (simp only [ix_add, ix_mul, ix_pred, *]; done)) (by omega) (by decide) (by simp only [wI_fr, says_fr, put_fr, takes_fr, hears_fr, dat_fr, dw_fr, ans_fr, eff_fr, tell_fr, ne_eq, Nat.reduceEqDiff, not_false_eq_true, hx]) rfl ?_
    refine xi_icmpt (pc' := 201) rfl rfl (by decide) ?_
    refine xi_iincv (y := nI 6) (pc' := 204) rfl rfl (by decide) (st1_7 rfl) rfl ?_
    refine xi_goto (pc' := 116) rfl rfl ?_
    refine xi_iload (pc' := 118) rfl rfl rfl ?_
    refine xi_bipush (pc' := 120) rfl (by decide) rfl ?_
    refine xi_icmpt (pc' := 207) rfl rfl (by decide) ?_
    refine xi_iload (pc' := 209) rfl rfl rfl ?_
    refine xi_iff (pc' := 212) (tg := 216) rfl rfl (by decide) rfl ?_
    refine xi_iload_n (pc' := 213) rfl rfl rfl ?_
    refine xi_ift (pc' := 220) rfl rfl (by decide) ?_
    refine xi_iconst (pc' := 221) rfl rfl ?_
    refine xx_zreturn rfl rfl (by decide) ?_
    simp only [ex_P, Classical.not_not, ↓reduceIte, Nat.add_zero, or_true, true_or, not_true_eq_false, not_false_eq_true, or_false, false_or, wI_get, false_and, true_and, and_true, and_false, and_self, Nat.reduceEqDiff, Nat.succ_ne_zero, reduceCtorEq, nI_lit, nI_lit0, Nat.reduceLT] at *
    first | (simp only [r_give, r_g1, r_g2, r_g3, r_g4, *, ↓reduceIte, Nat.add_zero, or_true, true_or, not_true_eq_false, not_false_eq_true, or_false, false_or, wI_get, false_and, true_and, and_true, and_false, and_self, Nat.reduceEqDiff, Nat.succ_ne_zero, reduceCtorEq, nI_lit, nI_lit0, Nat.reduceLT]; done) | (exfalso; simp_all only [↓reduceIte, Nat.add_zero, or_true, true_or, not_true_eq_false, not_false_eq_true, or_false, false_or, wI_get, false_and, true_and, and_true, and_false, and_self, Nat.reduceEqDiff, Nat.succ_ne_zero, reduceCtorEq, nI_lit, nI_lit0, Nat.reduceLT]; done)
  · refine xi_aload_n (pc' := 154) rfl rfl rfl ?_
    refine xi_iload (pc' := 156) rfl rfl rfl ?_
    refine xi_aload_n (pc' := 157) rfl rfl rfl ?_
    refine xr_getp (pc' := 160) rfl rfl (by decide) rfl rfl rfl ?_
    refine xi_iload_n (pc' := 161) rfl rfl rfl ?_
    refine xr_ialdv (v := nI (s + 1)) (j := m) (pc' := 162) rfl rfl (by decide) (by first | rfl | (simp only [ix_add, ix_mul, ix_pred]; done) | (simp only [ix_add, ix_mul, ix_pred, *]; done)) (by omega) (by decide) (by simp only [wI_fr, says_fr, put_fr, takes_fr, hears_fr, dat_fr, dw_fr, ans_fr, eff_fr, tell_fr, ne_eq, Nat.reduceEqDiff, not_false_eq_true, hsb]) rfl ?_
    refine xi_aload_n (pc' := 163) rfl rfl rfl ?_
    refine xr_getp (pc' := 166) rfl rfl (by decide) rfl rfl rfl ?_
    refine xi_iload_n (pc' := 167) rfl rfl rfl ?_
    refine xr_ialdv (v := nI (nn)) (j := m) (pc' := 168) rfl rfl (by decide) (by first | rfl | (simp only [ix_add, ix_mul, ix_pred]; done) | (simp only [ix_add, ix_mul, ix_pred, *]; done)) (by omega) (by decide) (by simp only [wI_fr, says_fr, put_fr, takes_fr, hears_fr, dat_fr, dw_fr, ans_fr, eff_fr, tell_fr, ne_eq, Nat.reduceEqDiff, not_false_eq_true, hn]) rfl ?_
    refine xi_iload_n (pc' := 169) rfl rfl rfl ?_
    refine xx_callVi (pc' := 172) rfl rfl (by decide) rfl rfl (by show _ < 81 + 2 * _; omega) (Nat.le_of_ble_eq_true rfl) rfl rfl (r_takes_ok (t := 3) (by decide) hs h1 h4 (by decide)) ?_
    refine xi_istore (pc' := 174) rfl (st1_8 rfl) rfl ?_
    refine xi_iload (pc' := 176) rfl rfl rfl ?_
    refine xx_if (pc' := 179) (tg := 201) rfl rfl rfl (fun q176 => ?_) (fun q176 => ?_)
    · refine xi_iincv (y := nI 4) (pc' := 204) rfl rfl (by decide) (st1_7 rfl) rfl ?_
      refine xi_goto (pc' := 116) rfl rfl ?_
      refine xi_iload (pc' := 118) rfl rfl rfl ?_
      refine xi_bipush (pc' := 120) rfl (by decide) rfl ?_
      refine xi_icmpf (pc' := 123) (tg := 207) rfl rfl (by decide) rfl ?_
      refine xi_iload_n (pc' := 124) rfl rfl rfl ?_
      refine xi_iff (pc' := 127) (tg := 138) rfl rfl (by decide) rfl ?_
      refine xi_iload (pc' := 129) rfl rfl rfl ?_
      refine xi_aload_n (pc' := 130) rfl rfl rfl ?_
      refine xr_getp (pc' := 133) rfl rfl (by decide) rfl rfl rfl ?_
      refine xi_iload_n (pc' := 134) rfl rfl rfl ?_
      refine xr_ialdv (v := nI (3)) (j := m) (pc' := 135) rfl rfl (by decide) (by first | rfl | (simp only [ix_add, ix_mul, ix_pred]; done) | (simp only [ix_add, ix_mul, ix_pred, *]; done)) (by omega) (by decide) (by simp only [wI_fr, says_fr, put_fr, takes_fr, hears_fr, dat_fr, dw_fr, ans_fr, eff_fr, tell_fr, ne_eq, Nat.reduceEqDiff, not_false_eq_true, hx]) rfl ?_
      refine xi_icmpt (pc' := 201) rfl rfl (by decide) ?_
      refine xi_iincv (y := nI 5) (pc' := 204) rfl rfl (by decide) (st1_7 rfl) rfl ?_
      refine xi_goto (pc' := 116) rfl rfl ?_
      refine xi_iload (pc' := 118) rfl rfl rfl ?_
      refine xi_bipush (pc' := 120) rfl (by decide) rfl ?_
      refine xi_icmpf (pc' := 123) (tg := 207) rfl rfl (by decide) rfl ?_
      refine xi_iload_n (pc' := 124) rfl rfl rfl ?_
      refine xi_iff (pc' := 127) (tg := 138) rfl rfl (by decide) rfl ?_
      refine xi_iload (pc' := 129) rfl rfl rfl ?_
      refine xi_aload_n (pc' := 130) rfl rfl rfl ?_
      refine xr_getp (pc' := 133) rfl rfl (by decide) rfl rfl rfl ?_
      refine xi_iload_n (pc' := 134) rfl rfl rfl ?_
      refine xr_ialdv (v := nI (3)) (j := m) (pc' := 135) rfl rfl (by decide) (by first | rfl | (simp only [ix_add, ix_mul, ix_pred]; done) | (simp only [ix_add, ix_mul, ix_pred, *]; done)) (by omega) (by decide) (by simp only [wI_fr, says_fr, put_fr, takes_fr, hears_fr, dat_fr, dw_fr, ans_fr, eff_fr, tell_fr, ne_eq, Nat.reduceEqDiff, not_false_eq_true, hx]) rfl ?_
      refine xi_icmpt (pc' := 201) rfl rfl (by decide) ?_
      refine xi_iincv (y := nI 6) (pc' := 204) rfl rfl (by decide) (st1_7 rfl) rfl ?_
      refine xi_goto (pc' := 116) rfl rfl ?_
      refine xi_iload (pc' := 118) rfl rfl rfl ?_
      refine xi_bipush (pc' := 120) rfl (by decide) rfl ?_
      refine xi_icmpt (pc' := 207) rfl rfl (by decide) ?_
      refine xi_iload (pc' := 209) rfl rfl rfl ?_
      refine xi_iff (pc' := 212) (tg := 216) rfl rfl (by decide) rfl ?_
      refine xi_iload_n (pc' := 213) rfl rfl rfl ?_
      refine xi_ift (pc' := 220) rfl rfl (by decide) ?_
      refine xi_iconst (pc' := 221) rfl rfl ?_
      refine xx_zreturn rfl rfl (by decide) ?_
      simp only [ex_P, Classical.not_not, ↓reduceIte, Nat.add_zero, or_true, true_or, not_true_eq_false, not_false_eq_true, or_false, false_or, wI_get, false_and, true_and, and_true, and_false, and_self, Nat.reduceEqDiff, Nat.succ_ne_zero, reduceCtorEq, nI_lit, nI_lit0, Nat.reduceLT] at *
      first | (simp only [r_give, r_g1, r_g2, r_g3, r_g4, *, ↓reduceIte, Nat.add_zero, or_true, true_or, not_true_eq_false, not_false_eq_true, or_false, false_or, wI_get, false_and, true_and, and_true, and_false, and_self, Nat.reduceEqDiff, Nat.succ_ne_zero, reduceCtorEq, nI_lit, nI_lit0, Nat.reduceLT]; done) | (exfalso; simp_all only [↓reduceIte, Nat.add_zero, or_true, true_or, not_true_eq_false, not_false_eq_true, or_false, false_or, wI_get, false_and, true_and, and_true, and_false, and_self, Nat.reduceEqDiff, Nat.succ_ne_zero, reduceCtorEq, nI_lit, nI_lit0, Nat.reduceLT]; done)
    · refine xi_iload_n (pc' := 180) rfl rfl rfl ?_
      refine xi_iff (pc' := 183) (tg := 201) rfl rfl (by decide) rfl ?_
      refine xi_aload_n (pc' := 184) rfl rfl rfl ?_
      refine xi_iload (pc' := 186) rfl rfl rfl ?_
      refine xi_iload_n (pc' := 187) rfl rfl rfl ?_
      refine xx_callVi (pc' := 190) rfl rfl (by decide) rfl rfl (by show _ < 81 + 2 * _; omega) (Nat.le_of_ble_eq_true rfl) rfl rfl (r_saysStatus (t := 3) (by decide) hb (g3_hw (x := 3) hh (by omega)) (by omega)) ?_
      refine xi_iconst (pc' := 191) rfl rfl ?_
      refine xx_icmp (pc' := 194) (tg := 198) rfl rfl rfl (fun q191 => ?_) (fun q191 => ?_)
      · refine xi_iconst (pc' := 199) rfl rfl ?_
        refine xi_istore (pc' := 201) rfl (st1_6 rfl) rfl ?_
        refine xi_iincv (y := nI 4) (pc' := 204) rfl rfl (by decide) (st1_7 rfl) rfl ?_
        refine xi_goto (pc' := 116) rfl rfl ?_
        refine xi_iload (pc' := 118) rfl rfl rfl ?_
        refine xi_bipush (pc' := 120) rfl (by decide) rfl ?_
        refine xi_icmpf (pc' := 123) (tg := 207) rfl rfl (by decide) rfl ?_
        refine xi_iload_n (pc' := 124) rfl rfl rfl ?_
        refine xi_iff (pc' := 127) (tg := 138) rfl rfl (by decide) rfl ?_
        refine xi_iload (pc' := 129) rfl rfl rfl ?_
        refine xi_aload_n (pc' := 130) rfl rfl rfl ?_
        refine xr_getp (pc' := 133) rfl rfl (by decide) rfl rfl rfl ?_
        refine xi_iload_n (pc' := 134) rfl rfl rfl ?_
        refine xr_ialdv (v := nI (3)) (j := m) (pc' := 135) rfl rfl (by decide) (by first | rfl | (simp only [ix_add, ix_mul, ix_pred]; done) | (simp only [ix_add, ix_mul, ix_pred, *]; done)) (by omega) (by decide) (by simp only [wI_fr, says_fr, put_fr, takes_fr, hears_fr, dat_fr, dw_fr, ans_fr, eff_fr, tell_fr, ne_eq, Nat.reduceEqDiff, not_false_eq_true, hx]) rfl ?_
        refine xi_icmpt (pc' := 201) rfl rfl (by decide) ?_
        refine xi_iincv (y := nI 5) (pc' := 204) rfl rfl (by decide) (st1_7 rfl) rfl ?_
        refine xi_goto (pc' := 116) rfl rfl ?_
        refine xi_iload (pc' := 118) rfl rfl rfl ?_
        refine xi_bipush (pc' := 120) rfl (by decide) rfl ?_
        refine xi_icmpf (pc' := 123) (tg := 207) rfl rfl (by decide) rfl ?_
        refine xi_iload_n (pc' := 124) rfl rfl rfl ?_
        refine xi_iff (pc' := 127) (tg := 138) rfl rfl (by decide) rfl ?_
        refine xi_iload (pc' := 129) rfl rfl rfl ?_
        refine xi_aload_n (pc' := 130) rfl rfl rfl ?_
        refine xr_getp (pc' := 133) rfl rfl (by decide) rfl rfl rfl ?_
        refine xi_iload_n (pc' := 134) rfl rfl rfl ?_
        refine xr_ialdv (v := nI (3)) (j := m) (pc' := 135) rfl rfl (by decide) (by first | rfl | (simp only [ix_add, ix_mul, ix_pred]; done) | (simp only [ix_add, ix_mul, ix_pred, *]; done)) (by omega) (by decide) (by simp only [wI_fr, says_fr, put_fr, takes_fr, hears_fr, dat_fr, dw_fr, ans_fr, eff_fr, tell_fr, ne_eq, Nat.reduceEqDiff, not_false_eq_true, hx]) rfl ?_
        refine xi_icmpt (pc' := 201) rfl rfl (by decide) ?_
        refine xi_iincv (y := nI 6) (pc' := 204) rfl rfl (by decide) (st1_7 rfl) rfl ?_
        refine xi_goto (pc' := 116) rfl rfl ?_
        refine xi_iload (pc' := 118) rfl rfl rfl ?_
        refine xi_bipush (pc' := 120) rfl (by decide) rfl ?_
        refine xi_icmpt (pc' := 207) rfl rfl (by decide) ?_
        refine xi_iload (pc' := 209) rfl rfl rfl ?_
        refine xi_iff (pc' := 212) (tg := 216) rfl rfl (by decide) rfl ?_
        refine xi_iload_n (pc' := 213) rfl rfl rfl ?_
        refine xi_ift (pc' := 220) rfl rfl (by decide) ?_
        refine xi_iconst (pc' := 221) rfl rfl ?_
        refine xx_zreturn rfl rfl (by decide) ?_
        simp only [ex_P, Classical.not_not, ↓reduceIte, Nat.add_zero, or_true, true_or, not_true_eq_false, not_false_eq_true, or_false, false_or, wI_get, false_and, true_and, and_true, and_false, and_self, Nat.reduceEqDiff, Nat.succ_ne_zero, reduceCtorEq, nI_lit, nI_lit0, Nat.reduceLT] at *
        first | (simp only [r_give, r_g1, r_g2, r_g3, r_g4, *, ↓reduceIte, Nat.add_zero, or_true, true_or, not_true_eq_false, not_false_eq_true, or_false, false_or, wI_get, false_and, true_and, and_true, and_false, and_self, Nat.reduceEqDiff, Nat.succ_ne_zero, reduceCtorEq, nI_lit, nI_lit0, Nat.reduceLT]; done) | (exfalso; simp_all only [↓reduceIte, Nat.add_zero, or_true, true_or, not_true_eq_false, not_false_eq_true, or_false, false_or, wI_get, false_and, true_and, and_true, and_false, and_self, Nat.reduceEqDiff, Nat.succ_ne_zero, reduceCtorEq, nI_lit, nI_lit0, Nat.reduceLT]; done)
      · refine xi_iconst (pc' := 195) rfl rfl ?_
        refine xi_goto (pc' := 199) rfl rfl ?_
        refine xi_istore (pc' := 201) rfl (st1_6 rfl) rfl ?_
        refine xi_iincv (y := nI 4) (pc' := 204) rfl rfl (by decide) (st1_7 rfl) rfl ?_
        refine xi_goto (pc' := 116) rfl rfl ?_
        refine xi_iload (pc' := 118) rfl rfl rfl ?_
        refine xi_bipush (pc' := 120) rfl (by decide) rfl ?_
        refine xi_icmpf (pc' := 123) (tg := 207) rfl rfl (by decide) rfl ?_
        refine xi_iload_n (pc' := 124) rfl rfl rfl ?_
        refine xi_iff (pc' := 127) (tg := 138) rfl rfl (by decide) rfl ?_
        refine xi_iload (pc' := 129) rfl rfl rfl ?_
        refine xi_aload_n (pc' := 130) rfl rfl rfl ?_
        refine xr_getp (pc' := 133) rfl rfl (by decide) rfl rfl rfl ?_
        refine xi_iload_n (pc' := 134) rfl rfl rfl ?_
        refine xr_ialdv (v := nI (3)) (j := m) (pc' := 135) rfl rfl (by decide) (by first | rfl | (simp only [ix_add, ix_mul, ix_pred]; done) | (simp only [ix_add, ix_mul, ix_pred, *]; done)) (by omega) (by decide) (by simp only [wI_fr, says_fr, put_fr, takes_fr, hears_fr, dat_fr, dw_fr, ans_fr, eff_fr, tell_fr, ne_eq, Nat.reduceEqDiff, not_false_eq_true, hx]) rfl ?_
        refine xi_icmpt (pc' := 201) rfl rfl (by decide) ?_
        refine xi_iincv (y := nI 5) (pc' := 204) rfl rfl (by decide) (st1_7 rfl) rfl ?_
        refine xi_goto (pc' := 116) rfl rfl ?_
        refine xi_iload (pc' := 118) rfl rfl rfl ?_
        refine xi_bipush (pc' := 120) rfl (by decide) rfl ?_
        refine xi_icmpf (pc' := 123) (tg := 207) rfl rfl (by decide) rfl ?_
        refine xi_iload_n (pc' := 124) rfl rfl rfl ?_
        refine xi_iff (pc' := 127) (tg := 138) rfl rfl (by decide) rfl ?_
        refine xi_iload (pc' := 129) rfl rfl rfl ?_
        refine xi_aload_n (pc' := 130) rfl rfl rfl ?_
        refine xr_getp (pc' := 133) rfl rfl (by decide) rfl rfl rfl ?_
        refine xi_iload_n (pc' := 134) rfl rfl rfl ?_
        refine xr_ialdv (v := nI (3)) (j := m) (pc' := 135) rfl rfl (by decide) (by first | rfl | (simp only [ix_add, ix_mul, ix_pred]; done) | (simp only [ix_add, ix_mul, ix_pred, *]; done)) (by omega) (by decide) (by simp only [wI_fr, says_fr, put_fr, takes_fr, hears_fr, dat_fr, dw_fr, ans_fr, eff_fr, tell_fr, ne_eq, Nat.reduceEqDiff, not_false_eq_true, hx]) rfl ?_
        refine xi_icmpt (pc' := 201) rfl rfl (by decide) ?_
        refine xi_iincv (y := nI 6) (pc' := 204) rfl rfl (by decide) (st1_7 rfl) rfl ?_
        refine xi_goto (pc' := 116) rfl rfl ?_
        refine xi_iload (pc' := 118) rfl rfl rfl ?_
        refine xi_bipush (pc' := 120) rfl (by decide) rfl ?_
        refine xi_icmpt (pc' := 207) rfl rfl (by decide) ?_
        refine xi_iload (pc' := 209) rfl rfl rfl ?_
        refine xi_ift (pc' := 216) rfl rfl (by decide) ?_
        refine xi_iconst (pc' := 217) rfl rfl ?_
        refine xi_goto (pc' := 221) rfl rfl ?_
        refine xx_zreturn rfl rfl (by decide) ?_
        simp only [ex_P, Classical.not_not, ↓reduceIte, Nat.add_zero, or_true, true_or, not_true_eq_false, not_false_eq_true, or_false, false_or, wI_get, false_and, true_and, and_true, and_false, and_self, Nat.reduceEqDiff, Nat.succ_ne_zero, reduceCtorEq, nI_lit, nI_lit0, Nat.reduceLT] at *
        first | (simp only [r_give, r_g1, r_g2, r_g3, r_g4, *, ↓reduceIte, Nat.add_zero, or_true, true_or, not_true_eq_false, not_false_eq_true, or_false, false_or, wI_get, false_and, true_and, and_true, and_false, and_self, Nat.reduceEqDiff, Nat.succ_ne_zero, reduceCtorEq, nI_lit, nI_lit0, Nat.reduceLT]; done) | (exfalso; simp_all only [↓reduceIte, Nat.add_zero, or_true, true_or, not_true_eq_false, not_false_eq_true, or_false, false_or, wI_get, false_and, true_and, and_true, and_false, and_self, Nat.reduceEqDiff, Nat.succ_ne_zero, reduceCtorEq, nI_lit, nI_lit0, Nat.reduceLT]; done)
theorem r_gives_0_4 {L : Nat} {xs : Nat → Int32} {D n : Nat} {I J : ex_Mem} {m s nn b N : Nat} (hk : J 69 m = nI 0) (hx : J 70 m = nI 4) (hm : m < 8) (hb : b < 2) (hs : s < 3) (h1 : 1 ≤ nn) (h4 : nn ≤ 4) (hsb : J 72 m = nI (s + 1)) (hn : J 73 m = nI nn) (hh : hwB N J) (hN : N + 8 < 2 ^ 31) (hg : gdB 0 J) : ri L xs (D + 3) 119 [.ref 52, .int (nI m), .int (nI b)] (mkH n I J) ((r_give J m 4 s nn b).1) (mkH n I (r_give J m 4 s nn b).2) := by
  show xx cb_G _ _ _ 119 0 [.ref 52, .int (nI m), .int (nI b), ex_no, ex_no, ex_no, ex_no, ex_no, ex_no] [] _ _
  refine xi_aload_n (pc' := 1) rfl rfl rfl ?_
  refine xr_getp (pc' := 4) rfl rfl (by decide) rfl rfl rfl ?_
  refine xi_iload_n (pc' := 5) rfl rfl rfl ?_
  refine xr_ialdv (v := nI (0)) (j := m) (pc' := 6) rfl rfl (by decide) (by first | rfl | (simp only [ix_add, ix_mul, ix_pred]; done) | (simp only [ix_add, ix_mul, ix_pred, *]; done)) (by omega) (by decide) (hk) rfl ?_
  refine xi_iconst (pc' := 7) rfl rfl ?_
  refine xi_icmpt (pc' := 14) rfl rfl (by decide) ?_
  refine xi_iconst (pc' := 15) rfl rfl ?_
  refine xi_istore_n (pc' := 16) rfl (st1_3 rfl) rfl ?_
  refine xi_iload_n (pc' := 17) rfl rfl rfl ?_
  refine xi_ift (pc' := 25) rfl rfl (by decide) ?_
  refine xi_aload_n (pc' := 26) rfl rfl rfl ?_
  refine xr_getp (pc' := 29) rfl rfl (by decide) rfl rfl rfl ?_
  refine xi_iload_n (pc' := 30) rfl rfl rfl ?_
  refine xr_ialdv (v := nI (4)) (j := m) (pc' := 31) rfl rfl (by decide) (by first | rfl | (simp only [ix_add, ix_mul, ix_pred]; done) | (simp only [ix_add, ix_mul, ix_pred, *]; done)) (by omega) (by decide) (hx) rfl ?_
  refine xi_iconst (pc' := 32) rfl rfl ?_
  refine xi_aload_n (pc' := 33) rfl rfl rfl ?_
  refine xr_getp (pc' := 36) rfl rfl (by decide) rfl rfl rfl ?_
  refine xi_iload_n (pc' := 37) rfl rfl rfl ?_
  refine xr_ialdv (v := nI (s + 1)) (j := m) (pc' := 38) rfl rfl (by decide) (by first | rfl | (simp only [ix_add, ix_mul, ix_pred]; done) | (simp only [ix_add, ix_mul, ix_pred, *]; done)) (by omega) (by decide) (hsb) rfl ?_
  refine xi_aload_n (pc' := 39) rfl rfl rfl ?_
  refine xr_getp (pc' := 42) rfl rfl (by decide) rfl rfl rfl ?_
  refine xi_iload_n (pc' := 43) rfl rfl rfl ?_
  refine xr_ialdv (v := nI (nn)) (j := m) (pc' := 44) rfl rfl (by decide) (by first | rfl | (simp only [ix_add, ix_mul, ix_pred]; done) | (simp only [ix_add, ix_mul, ix_pred, *]; done)) (by omega) (by decide) (hn) rfl ?_
  refine xx_callSi (pc' := 47) rfl rfl (by decide) rfl (Nat.le_of_ble_eq_true rfl) rfl rfl (r_commandW) ?_
  refine xi_istore (pc' := 49) rfl (st1_4 rfl) rfl ?_
  refine xi_aload_n (pc' := 50) rfl rfl rfl ?_
  refine xi_iload_n (pc' := 51) rfl rfl rfl ?_
  refine xi_iconst (pc' := 52) rfl rfl ?_
  refine xi_iload (pc' := 54) rfl rfl rfl ?_
  refine xx_callVi (pc' := 57) rfl rfl (by decide) rfl rfl (by show _ < 81 + 2 * _; omega) (Nat.le_of_ble_eq_true rfl) rfl rfl (r_put0 hb hh (by omega)) ?_
  refine xi_istore (pc' := 59) rfl (st1_5 rfl) rfl ?_
  refine xi_iconst (pc' := 60) rfl rfl ?_
  refine xi_istore (pc' := 62) rfl (st1_6 rfl) rfl ?_
  refine r_dat_loop (D := D) (N := N + 1) (g := 0) (fa := nI 0) hm h4 hb (hwB_put hh (by omega)) (by omega) (put_gdB hg) (by omega) ((put_fr (by decide) (by decide) (by decide) (by decide)).trans hn) (fun v7 v8 h7 h8 => ?_) nn 0 (by omega) _ _ rfl rfl
  refine xi_iconst (pc' := 111) rfl rfl ?_
  refine xi_istore (pc' := 113) rfl (st1_6 rfl) rfl ?_
  refine xi_iconst (pc' := 114) rfl rfl ?_
  refine xi_istore (pc' := 116) rfl (st1_7 rfl) rfl ?_
  refine xi_iload (pc' := 118) rfl rfl rfl ?_
  refine xi_bipush (pc' := 120) rfl (by decide) rfl ?_
  refine xi_icmpf (pc' := 123) (tg := 207) rfl rfl (by decide) rfl ?_
  refine xi_iload_n (pc' := 124) rfl rfl rfl ?_
  refine xi_iff (pc' := 127) (tg := 138) rfl rfl (by decide) rfl ?_
  refine xi_iload (pc' := 129) rfl rfl rfl ?_
  refine xi_aload_n (pc' := 130) rfl rfl rfl ?_
  refine xr_getp (pc' := 133) rfl rfl (by decide) rfl rfl rfl ?_
  refine xi_iload_n (pc' := 134) rfl rfl rfl ?_
  refine xr_ialdv (v := nI (4)) (j := m) (pc' := 135) rfl rfl (by decide) (by first | rfl | (simp only [ix_add, ix_mul, ix_pred]; done) | (simp only [ix_add, ix_mul, ix_pred, *]; done)) (by omega) (by decide) (by simp only [wI_fr, says_fr, put_fr, takes_fr, hears_fr, dat_fr, dw_fr, ans_fr, eff_fr, tell_fr, ne_eq, Nat.reduceEqDiff, not_false_eq_true, hx]) rfl ?_
  refine xi_icmpt (pc' := 201) rfl rfl (by decide) ?_
  refine xi_iincv (y := nI 1) (pc' := 204) rfl rfl (by decide) (st1_7 rfl) rfl ?_
  refine xi_goto (pc' := 116) rfl rfl ?_
  refine xi_iload (pc' := 118) rfl rfl rfl ?_
  refine xi_bipush (pc' := 120) rfl (by decide) rfl ?_
  refine xi_icmpf (pc' := 123) (tg := 207) rfl rfl (by decide) rfl ?_
  refine xi_iload_n (pc' := 124) rfl rfl rfl ?_
  refine xi_iff (pc' := 127) (tg := 138) rfl rfl (by decide) rfl ?_
  refine xi_iload (pc' := 129) rfl rfl rfl ?_
  refine xi_aload_n (pc' := 130) rfl rfl rfl ?_
  refine xr_getp (pc' := 133) rfl rfl (by decide) rfl rfl rfl ?_
  refine xi_iload_n (pc' := 134) rfl rfl rfl ?_
  refine xr_ialdv (v := nI (4)) (j := m) (pc' := 135) rfl rfl (by decide) (by first | rfl | (simp only [ix_add, ix_mul, ix_pred]; done) | (simp only [ix_add, ix_mul, ix_pred, *]; done)) (by omega) (by decide) (by simp only [wI_fr, says_fr, put_fr, takes_fr, hears_fr, dat_fr, dw_fr, ans_fr, eff_fr, tell_fr, ne_eq, Nat.reduceEqDiff, not_false_eq_true, hx]) rfl ?_
  refine xi_icmpt (pc' := 201) rfl rfl (by decide) ?_
  refine xi_iincv (y := nI 2) (pc' := 204) rfl rfl (by decide) (st1_7 rfl) rfl ?_
  refine xi_goto (pc' := 116) rfl rfl ?_
  refine xi_iload (pc' := 118) rfl rfl rfl ?_
  refine xi_bipush (pc' := 120) rfl (by decide) rfl ?_
  refine xi_icmpf (pc' := 123) (tg := 207) rfl rfl (by decide) rfl ?_
  refine xi_iload_n (pc' := 124) rfl rfl rfl ?_
  refine xi_iff (pc' := 127) (tg := 138) rfl rfl (by decide) rfl ?_
  refine xi_iload (pc' := 129) rfl rfl rfl ?_
  refine xi_aload_n (pc' := 130) rfl rfl rfl ?_
  refine xr_getp (pc' := 133) rfl rfl (by decide) rfl rfl rfl ?_
  refine xi_iload_n (pc' := 134) rfl rfl rfl ?_
  refine xr_ialdv (v := nI (4)) (j := m) (pc' := 135) rfl rfl (by decide) (by first | rfl | (simp only [ix_add, ix_mul, ix_pred]; done) | (simp only [ix_add, ix_mul, ix_pred, *]; done)) (by omega) (by decide) (by simp only [wI_fr, says_fr, put_fr, takes_fr, hears_fr, dat_fr, dw_fr, ans_fr, eff_fr, tell_fr, ne_eq, Nat.reduceEqDiff, not_false_eq_true, hx]) rfl ?_
  refine xi_icmpt (pc' := 201) rfl rfl (by decide) ?_
  refine xi_iincv (y := nI 3) (pc' := 204) rfl rfl (by decide) (st1_7 rfl) rfl ?_
  refine xi_goto (pc' := 116) rfl rfl ?_
  refine xi_iload (pc' := 118) rfl rfl rfl ?_
  refine xi_bipush (pc' := 120) rfl (by decide) rfl ?_
  refine xi_icmpf (pc' := 123) (tg := 207) rfl rfl (by decide) rfl ?_
  refine xi_iload_n (pc' := 124) rfl rfl rfl ?_
  refine xi_iff (pc' := 127) (tg := 138) rfl rfl (by decide) rfl ?_
  refine xi_iload (pc' := 129) rfl rfl rfl ?_
  refine xi_aload_n (pc' := 130) rfl rfl rfl ?_
  refine xr_getp (pc' := 133) rfl rfl (by decide) rfl rfl rfl ?_
  refine xi_iload_n (pc' := 134) rfl rfl rfl ?_
  refine xr_ialdv (v := nI (4)) (j := m) (pc' := 135) rfl rfl (by decide) (by first | rfl | (simp only [ix_add, ix_mul, ix_pred]; done) | (simp only [ix_add, ix_mul, ix_pred, *]; done)) (by omega) (by decide) (by simp only [wI_fr, says_fr, put_fr, takes_fr, hears_fr, dat_fr, dw_fr, ans_fr, eff_fr, tell_fr, ne_eq, Nat.reduceEqDiff, not_false_eq_true, hx]) rfl ?_
  refine xi_icmpt (pc' := 201) rfl rfl (by decide) ?_
  refine xi_iincv (y := nI 4) (pc' := 204) rfl rfl (by decide) (st1_7 rfl) rfl ?_
  refine xi_goto (pc' := 116) rfl rfl ?_
  refine xi_iload (pc' := 118) rfl rfl rfl ?_
  refine xi_bipush (pc' := 120) rfl (by decide) rfl ?_
  refine xi_icmpf (pc' := 123) (tg := 207) rfl rfl (by decide) rfl ?_
  refine xi_iload_n (pc' := 124) rfl rfl rfl ?_
  refine xi_iff (pc' := 127) (tg := 138) rfl rfl (by decide) rfl ?_
  refine xi_iload (pc' := 129) rfl rfl rfl ?_
  refine xi_aload_n (pc' := 130) rfl rfl rfl ?_
  refine xr_getp (pc' := 133) rfl rfl (by decide) rfl rfl rfl ?_
  refine xi_iload_n (pc' := 134) rfl rfl rfl ?_
  refine xr_ialdv (v := nI (4)) (j := m) (pc' := 135) rfl rfl (by decide) (by first | rfl | (simp only [ix_add, ix_mul, ix_pred]; done) | (simp only [ix_add, ix_mul, ix_pred, *]; done)) (by omega) (by decide) (by simp only [wI_fr, says_fr, put_fr, takes_fr, hears_fr, dat_fr, dw_fr, ans_fr, eff_fr, tell_fr, ne_eq, Nat.reduceEqDiff, not_false_eq_true, hx]) rfl ?_
  refine xi_icmpf (pc' := 138) (tg := 201) rfl rfl (by decide) rfl ?_
  refine xi_aload_n (pc' := 139) rfl rfl rfl ?_
  refine xi_iload (pc' := 141) rfl rfl rfl ?_
  refine xi_iload (pc' := 143) rfl rfl rfl ?_
  refine xi_iload (pc' := 145) rfl rfl rfl ?_
  refine xi_iconst (pc' := 146) rfl rfl ?_
  refine xi_iconst (pc' := 147) rfl rfl ?_
  refine xx_callVi (pc' := 150) rfl rfl (by decide) rfl rfl (by show _ < 81 + 2 * _; omega) (Nat.le_of_ble_eq_true rfl) rfl rfl (r_hears_ok (t := 4) (by decide)) ?_
  refine xx_if (pc' := 153) (tg := 201) rfl rfl rfl (fun q150 => ?_) (fun q150 => ?_)
  · refine xi_iincv (y := nI 5) (pc' := 204) rfl rfl (by decide) (st1_7 rfl) rfl ?_
    refine xi_goto (pc' := 116) rfl rfl ?_
    refine xi_iload (pc' := 118) rfl rfl rfl ?_
    refine xi_bipush (pc' := 120) rfl (by decide) rfl ?_
    refine xi_icmpf (pc' := 123) (tg := 207) rfl rfl (by decide) rfl ?_
    refine xi_iload_n (pc' := 124) rfl rfl rfl ?_
    refine xi_iff (pc' := 127) (tg := 138) rfl rfl (by decide) rfl ?_
    refine xi_iload (pc' := 129) rfl rfl rfl ?_
    refine xi_aload_n (pc' := 130) rfl rfl rfl ?_
    refine xr_getp (pc' := 133) rfl rfl (by decide) rfl rfl rfl ?_
    refine xi_iload_n (pc' := 134) rfl rfl rfl ?_
    refine xr_ialdv (v := nI (4)) (j := m) (pc' := 135) rfl rfl (by decide) (by first | rfl | (simp only [ix_add, ix_mul, ix_pred]; done) | (simp only [ix_add, ix_mul, ix_pred, *]; done)) (by omega) (by decide) (by simp only [wI_fr, says_fr, put_fr, takes_fr, hears_fr, dat_fr, dw_fr, ans_fr, eff_fr, tell_fr, ne_eq, Nat.reduceEqDiff, not_false_eq_true, hx]) rfl ?_
    refine xi_icmpt (pc' := 201) rfl rfl (by decide) ?_
    refine xi_iincv (y := nI 6) (pc' := 204) rfl rfl (by decide) (st1_7 rfl) rfl ?_
    refine xi_goto (pc' := 116) rfl rfl ?_
    refine xi_iload (pc' := 118) rfl rfl rfl ?_
    refine xi_bipush (pc' := 120) rfl (by decide) rfl ?_
    refine xi_icmpt (pc' := 207) rfl rfl (by decide) ?_
    refine xi_iload (pc' := 209) rfl rfl rfl ?_
    refine xi_iff (pc' := 212) (tg := 216) rfl rfl (by decide) rfl ?_
    refine xi_iload_n (pc' := 213) rfl rfl rfl ?_
    refine xi_ift (pc' := 220) rfl rfl (by decide) ?_
    refine xi_iconst (pc' := 221) rfl rfl ?_
    refine xx_zreturn rfl rfl (by decide) ?_
    simp only [ex_P, Classical.not_not, ↓reduceIte, Nat.add_zero, or_true, true_or, not_true_eq_false, not_false_eq_true, or_false, false_or, wI_get, false_and, true_and, and_true, and_false, and_self, Nat.reduceEqDiff, Nat.succ_ne_zero, reduceCtorEq, nI_lit, nI_lit0, Nat.reduceLT] at *
    first | (simp only [r_give, r_g1, r_g2, r_g3, r_g4, *, ↓reduceIte, Nat.add_zero, or_true, true_or, not_true_eq_false, not_false_eq_true, or_false, false_or, wI_get, false_and, true_and, and_true, and_false, and_self, Nat.reduceEqDiff, Nat.succ_ne_zero, reduceCtorEq, nI_lit, nI_lit0, Nat.reduceLT]; done) | (exfalso; simp_all only [↓reduceIte, Nat.add_zero, or_true, true_or, not_true_eq_false, not_false_eq_true, or_false, false_or, wI_get, false_and, true_and, and_true, and_false, and_self, Nat.reduceEqDiff, Nat.succ_ne_zero, reduceCtorEq, nI_lit, nI_lit0, Nat.reduceLT]; done)
  · refine xi_aload_n (pc' := 154) rfl rfl rfl ?_
    refine xi_iload (pc' := 156) rfl rfl rfl ?_
    refine xi_aload_n (pc' := 157) rfl rfl rfl ?_
    refine xr_getp (pc' := 160) rfl rfl (by decide) rfl rfl rfl ?_
    refine xi_iload_n (pc' := 161) rfl rfl rfl ?_
    refine xr_ialdv (v := nI (s + 1)) (j := m) (pc' := 162) rfl rfl (by decide) (by first | rfl | (simp only [ix_add, ix_mul, ix_pred]; done) | (simp only [ix_add, ix_mul, ix_pred, *]; done)) (by omega) (by decide) (by simp only [wI_fr, says_fr, put_fr, takes_fr, hears_fr, dat_fr, dw_fr, ans_fr, eff_fr, tell_fr, ne_eq, Nat.reduceEqDiff, not_false_eq_true, hsb]) rfl ?_
    refine xi_aload_n (pc' := 163) rfl rfl rfl ?_
    refine xr_getp (pc' := 166) rfl rfl (by decide) rfl rfl rfl ?_
    refine xi_iload_n (pc' := 167) rfl rfl rfl ?_
    refine xr_ialdv (v := nI (nn)) (j := m) (pc' := 168) rfl rfl (by decide) (by first | rfl | (simp only [ix_add, ix_mul, ix_pred]; done) | (simp only [ix_add, ix_mul, ix_pred, *]; done)) (by omega) (by decide) (by simp only [wI_fr, says_fr, put_fr, takes_fr, hears_fr, dat_fr, dw_fr, ans_fr, eff_fr, tell_fr, ne_eq, Nat.reduceEqDiff, not_false_eq_true, hn]) rfl ?_
    refine xi_iload_n (pc' := 169) rfl rfl rfl ?_
    refine xx_callVi (pc' := 172) rfl rfl (by decide) rfl rfl (by show _ < 81 + 2 * _; omega) (Nat.le_of_ble_eq_true rfl) rfl rfl (r_takes_ok (t := 4) (by decide) hs h1 h4 (by decide)) ?_
    refine xi_istore (pc' := 174) rfl (st1_8 rfl) rfl ?_
    refine xi_iload (pc' := 176) rfl rfl rfl ?_
    refine xx_if (pc' := 179) (tg := 201) rfl rfl rfl (fun q176 => ?_) (fun q176 => ?_)
    · refine xi_iincv (y := nI 5) (pc' := 204) rfl rfl (by decide) (st1_7 rfl) rfl ?_
      refine xi_goto (pc' := 116) rfl rfl ?_
      refine xi_iload (pc' := 118) rfl rfl rfl ?_
      refine xi_bipush (pc' := 120) rfl (by decide) rfl ?_
      refine xi_icmpf (pc' := 123) (tg := 207) rfl rfl (by decide) rfl ?_
      refine xi_iload_n (pc' := 124) rfl rfl rfl ?_
      refine xi_iff (pc' := 127) (tg := 138) rfl rfl (by decide) rfl ?_
      refine xi_iload (pc' := 129) rfl rfl rfl ?_
      refine xi_aload_n (pc' := 130) rfl rfl rfl ?_
      refine xr_getp (pc' := 133) rfl rfl (by decide) rfl rfl rfl ?_
      refine xi_iload_n (pc' := 134) rfl rfl rfl ?_
      refine xr_ialdv (v := nI (4)) (j := m) (pc' := 135) rfl rfl (by decide) (by first | rfl | (simp only [ix_add, ix_mul, ix_pred]; done) | (simp only [ix_add, ix_mul, ix_pred, *]; done)) (by omega) (by decide) (by simp only [wI_fr, says_fr, put_fr, takes_fr, hears_fr, dat_fr, dw_fr, ans_fr, eff_fr, tell_fr, ne_eq, Nat.reduceEqDiff, not_false_eq_true, hx]) rfl ?_
      refine xi_icmpt (pc' := 201) rfl rfl (by decide) ?_
      refine xi_iincv (y := nI 6) (pc' := 204) rfl rfl (by decide) (st1_7 rfl) rfl ?_
      refine xi_goto (pc' := 116) rfl rfl ?_
      refine xi_iload (pc' := 118) rfl rfl rfl ?_
      refine xi_bipush (pc' := 120) rfl (by decide) rfl ?_
      refine xi_icmpt (pc' := 207) rfl rfl (by decide) ?_
      refine xi_iload (pc' := 209) rfl rfl rfl ?_
      refine xi_iff (pc' := 212) (tg := 216) rfl rfl (by decide) rfl ?_
      refine xi_iload_n (pc' := 213) rfl rfl rfl ?_
      refine xi_ift (pc' := 220) rfl rfl (by decide) ?_
      refine xi_iconst (pc' := 221) rfl rfl ?_
      refine xx_zreturn rfl rfl (by decide) ?_
      simp only [ex_P, Classical.not_not, ↓reduceIte, Nat.add_zero, or_true, true_or, not_true_eq_false, not_false_eq_true, or_false, false_or, wI_get, false_and, true_and, and_true, and_false, and_self, Nat.reduceEqDiff, Nat.succ_ne_zero, reduceCtorEq, nI_lit, nI_lit0, Nat.reduceLT] at *
      first | (simp only [r_give, r_g1, r_g2, r_g3, r_g4, *, ↓reduceIte, Nat.add_zero, or_true, true_or, not_true_eq_false, not_false_eq_true, or_false, false_or, wI_get, false_and, true_and, and_true, and_false, and_self, Nat.reduceEqDiff, Nat.succ_ne_zero, reduceCtorEq, nI_lit, nI_lit0, Nat.reduceLT]; done) | (exfalso; simp_all only [↓reduceIte, Nat.add_zero, or_true, true_or, not_true_eq_false, not_false_eq_true, or_false, false_or, wI_get, false_and, true_and, and_true, and_false, and_self, Nat.reduceEqDiff, Nat.succ_ne_zero, reduceCtorEq, nI_lit, nI_lit0, Nat.reduceLT]; done)
    · refine xi_iload_n (pc' := 180) rfl rfl rfl ?_
      refine xi_iff (pc' := 183) (tg := 201) rfl rfl (by decide) rfl ?_
      refine xi_aload_n (pc' := 184) rfl rfl rfl ?_
      refine xi_iload (pc' := 186) rfl rfl rfl ?_
      refine xi_iload_n (pc' := 187) rfl rfl rfl ?_
      refine xx_callVi (pc' := 190) rfl rfl (by decide) rfl rfl (by show _ < 81 + 2 * _; omega) (Nat.le_of_ble_eq_true rfl) rfl rfl (r_saysStatus (t := 4) (by decide) hb (g3_hw (x := 4) hh (by omega)) (by omega)) ?_
      refine xi_iconst (pc' := 191) rfl rfl ?_
      refine xx_icmp (pc' := 194) (tg := 198) rfl rfl rfl (fun q191 => ?_) (fun q191 => ?_)
      · refine xi_iconst (pc' := 199) rfl rfl ?_
        refine xi_istore (pc' := 201) rfl (st1_6 rfl) rfl ?_
        refine xi_iincv (y := nI 5) (pc' := 204) rfl rfl (by decide) (st1_7 rfl) rfl ?_
        refine xi_goto (pc' := 116) rfl rfl ?_
        refine xi_iload (pc' := 118) rfl rfl rfl ?_
        refine xi_bipush (pc' := 120) rfl (by decide) rfl ?_
        refine xi_icmpf (pc' := 123) (tg := 207) rfl rfl (by decide) rfl ?_
        refine xi_iload_n (pc' := 124) rfl rfl rfl ?_
        refine xi_iff (pc' := 127) (tg := 138) rfl rfl (by decide) rfl ?_
        refine xi_iload (pc' := 129) rfl rfl rfl ?_
        refine xi_aload_n (pc' := 130) rfl rfl rfl ?_
        refine xr_getp (pc' := 133) rfl rfl (by decide) rfl rfl rfl ?_
        refine xi_iload_n (pc' := 134) rfl rfl rfl ?_
        refine xr_ialdv (v := nI (4)) (j := m) (pc' := 135) rfl rfl (by decide) (by first | rfl | (simp only [ix_add, ix_mul, ix_pred]; done) | (simp only [ix_add, ix_mul, ix_pred, *]; done)) (by omega) (by decide) (by simp only [wI_fr, says_fr, put_fr, takes_fr, hears_fr, dat_fr, dw_fr, ans_fr, eff_fr, tell_fr, ne_eq, Nat.reduceEqDiff, not_false_eq_true, hx]) rfl ?_
        refine xi_icmpt (pc' := 201) rfl rfl (by decide) ?_
        refine xi_iincv (y := nI 6) (pc' := 204) rfl rfl (by decide) (st1_7 rfl) rfl ?_
        refine xi_goto (pc' := 116) rfl rfl ?_
        refine xi_iload (pc' := 118) rfl rfl rfl ?_
        refine xi_bipush (pc' := 120) rfl (by decide) rfl ?_
        refine xi_icmpt (pc' := 207) rfl rfl (by decide) ?_
        refine xi_iload (pc' := 209) rfl rfl rfl ?_
        refine xi_iff (pc' := 212) (tg := 216) rfl rfl (by decide) rfl ?_
        refine xi_iload_n (pc' := 213) rfl rfl rfl ?_
        refine xi_ift (pc' := 220) rfl rfl (by decide) ?_
        refine xi_iconst (pc' := 221) rfl rfl ?_
        refine xx_zreturn rfl rfl (by decide) ?_
        simp only [ex_P, Classical.not_not, ↓reduceIte, Nat.add_zero, or_true, true_or, not_true_eq_false, not_false_eq_true, or_false, false_or, wI_get, false_and, true_and, and_true, and_false, and_self, Nat.reduceEqDiff, Nat.succ_ne_zero, reduceCtorEq, nI_lit, nI_lit0, Nat.reduceLT] at *
        first | (simp only [r_give, r_g1, r_g2, r_g3, r_g4, *, ↓reduceIte, Nat.add_zero, or_true, true_or, not_true_eq_false, not_false_eq_true, or_false, false_or, wI_get, false_and, true_and, and_true, and_false, and_self, Nat.reduceEqDiff, Nat.succ_ne_zero, reduceCtorEq, nI_lit, nI_lit0, Nat.reduceLT]; done) | (exfalso; simp_all only [↓reduceIte, Nat.add_zero, or_true, true_or, not_true_eq_false, not_false_eq_true, or_false, false_or, wI_get, false_and, true_and, and_true, and_false, and_self, Nat.reduceEqDiff, Nat.succ_ne_zero, reduceCtorEq, nI_lit, nI_lit0, Nat.reduceLT]; done)
      · refine xi_iconst (pc' := 195) rfl rfl ?_
        refine xi_goto (pc' := 199) rfl rfl ?_
        refine xi_istore (pc' := 201) rfl (st1_6 rfl) rfl ?_
        refine xi_iincv (y := nI 5) (pc' := 204) rfl rfl (by decide) (st1_7 rfl) rfl ?_
        refine xi_goto (pc' := 116) rfl rfl ?_
        refine xi_iload (pc' := 118) rfl rfl rfl ?_
        refine xi_bipush (pc' := 120) rfl (by decide) rfl ?_
        refine xi_icmpf (pc' := 123) (tg := 207) rfl rfl (by decide) rfl ?_
        refine xi_iload_n (pc' := 124) rfl rfl rfl ?_
        refine xi_iff (pc' := 127) (tg := 138) rfl rfl (by decide) rfl ?_
        refine xi_iload (pc' := 129) rfl rfl rfl ?_
        refine xi_aload_n (pc' := 130) rfl rfl rfl ?_
        refine xr_getp (pc' := 133) rfl rfl (by decide) rfl rfl rfl ?_
        refine xi_iload_n (pc' := 134) rfl rfl rfl ?_
        refine xr_ialdv (v := nI (4)) (j := m) (pc' := 135) rfl rfl (by decide) (by first | rfl | (simp only [ix_add, ix_mul, ix_pred]; done) | (simp only [ix_add, ix_mul, ix_pred, *]; done)) (by omega) (by decide) (by simp only [wI_fr, says_fr, put_fr, takes_fr, hears_fr, dat_fr, dw_fr, ans_fr, eff_fr, tell_fr, ne_eq, Nat.reduceEqDiff, not_false_eq_true, hx]) rfl ?_
        refine xi_icmpt (pc' := 201) rfl rfl (by decide) ?_
        refine xi_iincv (y := nI 6) (pc' := 204) rfl rfl (by decide) (st1_7 rfl) rfl ?_
        refine xi_goto (pc' := 116) rfl rfl ?_
        refine xi_iload (pc' := 118) rfl rfl rfl ?_
        refine xi_bipush (pc' := 120) rfl (by decide) rfl ?_
        refine xi_icmpt (pc' := 207) rfl rfl (by decide) ?_
        refine xi_iload (pc' := 209) rfl rfl rfl ?_
        refine xi_ift (pc' := 216) rfl rfl (by decide) ?_
        refine xi_iconst (pc' := 217) rfl rfl ?_
        refine xi_goto (pc' := 221) rfl rfl ?_
        refine xx_zreturn rfl rfl (by decide) ?_
        simp only [ex_P, Classical.not_not, ↓reduceIte, Nat.add_zero, or_true, true_or, not_true_eq_false, not_false_eq_true, or_false, false_or, wI_get, false_and, true_and, and_true, and_false, and_self, Nat.reduceEqDiff, Nat.succ_ne_zero, reduceCtorEq, nI_lit, nI_lit0, Nat.reduceLT] at *
        first | (simp only [r_give, r_g1, r_g2, r_g3, r_g4, *, ↓reduceIte, Nat.add_zero, or_true, true_or, not_true_eq_false, not_false_eq_true, or_false, false_or, wI_get, false_and, true_and, and_true, and_false, and_self, Nat.reduceEqDiff, Nat.succ_ne_zero, reduceCtorEq, nI_lit, nI_lit0, Nat.reduceLT]; done) | (exfalso; simp_all only [↓reduceIte, Nat.add_zero, or_true, true_or, not_true_eq_false, not_false_eq_true, or_false, false_or, wI_get, false_and, true_and, and_true, and_false, and_self, Nat.reduceEqDiff, Nat.succ_ne_zero, reduceCtorEq, nI_lit, nI_lit0, Nat.reduceLT]; done)
theorem r_gives_0_5 {L : Nat} {xs : Nat → Int32} {D n : Nat} {I J : ex_Mem} {m s nn b N : Nat} (hk : J 69 m = nI 0) (hx : J 70 m = nI 5) (hm : m < 8) (hb : b < 2) (hs : s < 3) (h1 : 1 ≤ nn) (h4 : nn ≤ 4) (hsb : J 72 m = nI (s + 1)) (hn : J 73 m = nI nn) (hh : hwB N J) (hN : N + 8 < 2 ^ 31) (hg : gdB 0 J) : ri L xs (D + 3) 119 [.ref 52, .int (nI m), .int (nI b)] (mkH n I J) ((r_give J m 5 s nn b).1) (mkH n I (r_give J m 5 s nn b).2) := by
  show xx cb_G _ _ _ 119 0 [.ref 52, .int (nI m), .int (nI b), ex_no, ex_no, ex_no, ex_no, ex_no, ex_no] [] _ _
  refine xi_aload_n (pc' := 1) rfl rfl rfl ?_
  refine xr_getp (pc' := 4) rfl rfl (by decide) rfl rfl rfl ?_
  refine xi_iload_n (pc' := 5) rfl rfl rfl ?_
  refine xr_ialdv (v := nI (0)) (j := m) (pc' := 6) rfl rfl (by decide) (by first | rfl | (simp only [ix_add, ix_mul, ix_pred]; done) | (simp only [ix_add, ix_mul, ix_pred, *]; done)) (by omega) (by decide) (hk) rfl ?_
  refine xi_iconst (pc' := 7) rfl rfl ?_
  refine xi_icmpt (pc' := 14) rfl rfl (by decide) ?_
  refine xi_iconst (pc' := 15) rfl rfl ?_
  refine xi_istore_n (pc' := 16) rfl (st1_3 rfl) rfl ?_
  refine xi_iload_n (pc' := 17) rfl rfl rfl ?_
  refine xi_ift (pc' := 25) rfl rfl (by decide) ?_
  refine xi_aload_n (pc' := 26) rfl rfl rfl ?_
  refine xr_getp (pc' := 29) rfl rfl (by decide) rfl rfl rfl ?_
  refine xi_iload_n (pc' := 30) rfl rfl rfl ?_
  refine xr_ialdv (v := nI (5)) (j := m) (pc' := 31) rfl rfl (by decide) (by first | rfl | (simp only [ix_add, ix_mul, ix_pred]; done) | (simp only [ix_add, ix_mul, ix_pred, *]; done)) (by omega) (by decide) (hx) rfl ?_
  refine xi_iconst (pc' := 32) rfl rfl ?_
  refine xi_aload_n (pc' := 33) rfl rfl rfl ?_
  refine xr_getp (pc' := 36) rfl rfl (by decide) rfl rfl rfl ?_
  refine xi_iload_n (pc' := 37) rfl rfl rfl ?_
  refine xr_ialdv (v := nI (s + 1)) (j := m) (pc' := 38) rfl rfl (by decide) (by first | rfl | (simp only [ix_add, ix_mul, ix_pred]; done) | (simp only [ix_add, ix_mul, ix_pred, *]; done)) (by omega) (by decide) (hsb) rfl ?_
  refine xi_aload_n (pc' := 39) rfl rfl rfl ?_
  refine xr_getp (pc' := 42) rfl rfl (by decide) rfl rfl rfl ?_
  refine xi_iload_n (pc' := 43) rfl rfl rfl ?_
  refine xr_ialdv (v := nI (nn)) (j := m) (pc' := 44) rfl rfl (by decide) (by first | rfl | (simp only [ix_add, ix_mul, ix_pred]; done) | (simp only [ix_add, ix_mul, ix_pred, *]; done)) (by omega) (by decide) (hn) rfl ?_
  refine xx_callSi (pc' := 47) rfl rfl (by decide) rfl (Nat.le_of_ble_eq_true rfl) rfl rfl (r_commandW) ?_
  refine xi_istore (pc' := 49) rfl (st1_4 rfl) rfl ?_
  refine xi_aload_n (pc' := 50) rfl rfl rfl ?_
  refine xi_iload_n (pc' := 51) rfl rfl rfl ?_
  refine xi_iconst (pc' := 52) rfl rfl ?_
  refine xi_iload (pc' := 54) rfl rfl rfl ?_
  refine xx_callVi (pc' := 57) rfl rfl (by decide) rfl rfl (by show _ < 81 + 2 * _; omega) (Nat.le_of_ble_eq_true rfl) rfl rfl (r_put0 hb hh (by omega)) ?_
  refine xi_istore (pc' := 59) rfl (st1_5 rfl) rfl ?_
  refine xi_iconst (pc' := 60) rfl rfl ?_
  refine xi_istore (pc' := 62) rfl (st1_6 rfl) rfl ?_
  refine r_dat_loop (D := D) (N := N + 1) (g := 0) (fa := nI 0) hm h4 hb (hwB_put hh (by omega)) (by omega) (put_gdB hg) (by omega) ((put_fr (by decide) (by decide) (by decide) (by decide)).trans hn) (fun v7 v8 h7 h8 => ?_) nn 0 (by omega) _ _ rfl rfl
  refine xi_iconst (pc' := 111) rfl rfl ?_
  refine xi_istore (pc' := 113) rfl (st1_6 rfl) rfl ?_
  refine xi_iconst (pc' := 114) rfl rfl ?_
  refine xi_istore (pc' := 116) rfl (st1_7 rfl) rfl ?_
  refine xi_iload (pc' := 118) rfl rfl rfl ?_
  refine xi_bipush (pc' := 120) rfl (by decide) rfl ?_
  refine xi_icmpf (pc' := 123) (tg := 207) rfl rfl (by decide) rfl ?_
  refine xi_iload_n (pc' := 124) rfl rfl rfl ?_
  refine xi_iff (pc' := 127) (tg := 138) rfl rfl (by decide) rfl ?_
  refine xi_iload (pc' := 129) rfl rfl rfl ?_
  refine xi_aload_n (pc' := 130) rfl rfl rfl ?_
  refine xr_getp (pc' := 133) rfl rfl (by decide) rfl rfl rfl ?_
  refine xi_iload_n (pc' := 134) rfl rfl rfl ?_
  refine xr_ialdv (v := nI (5)) (j := m) (pc' := 135) rfl rfl (by decide) (by first | rfl | (simp only [ix_add, ix_mul, ix_pred]; done) | (simp only [ix_add, ix_mul, ix_pred, *]; done)) (by omega) (by decide) (by simp only [wI_fr, says_fr, put_fr, takes_fr, hears_fr, dat_fr, dw_fr, ans_fr, eff_fr, tell_fr, ne_eq, Nat.reduceEqDiff, not_false_eq_true, hx]) rfl ?_
  refine xi_icmpt (pc' := 201) rfl rfl (by decide) ?_
  refine xi_iincv (y := nI 1) (pc' := 204) rfl rfl (by decide) (st1_7 rfl) rfl ?_
  refine xi_goto (pc' := 116) rfl rfl ?_
  refine xi_iload (pc' := 118) rfl rfl rfl ?_
  refine xi_bipush (pc' := 120) rfl (by decide) rfl ?_
  refine xi_icmpf (pc' := 123) (tg := 207) rfl rfl (by decide) rfl ?_
  refine xi_iload_n (pc' := 124) rfl rfl rfl ?_
  refine xi_iff (pc' := 127) (tg := 138) rfl rfl (by decide) rfl ?_
  refine xi_iload (pc' := 129) rfl rfl rfl ?_
  refine xi_aload_n (pc' := 130) rfl rfl rfl ?_
  refine xr_getp (pc' := 133) rfl rfl (by decide) rfl rfl rfl ?_
  refine xi_iload_n (pc' := 134) rfl rfl rfl ?_
  refine xr_ialdv (v := nI (5)) (j := m) (pc' := 135) rfl rfl (by decide) (by first | rfl | (simp only [ix_add, ix_mul, ix_pred]; done) | (simp only [ix_add, ix_mul, ix_pred, *]; done)) (by omega) (by decide) (by simp only [wI_fr, says_fr, put_fr, takes_fr, hears_fr, dat_fr, dw_fr, ans_fr, eff_fr, tell_fr, ne_eq, Nat.reduceEqDiff, not_false_eq_true, hx]) rfl ?_
  refine xi_icmpt (pc' := 201) rfl rfl (by decide) ?_
  refine xi_iincv (y := nI 2) (pc' := 204) rfl rfl (by decide) (st1_7 rfl) rfl ?_
  refine xi_goto (pc' := 116) rfl rfl ?_
  refine xi_iload (pc' := 118) rfl rfl rfl ?_
  refine xi_bipush (pc' := 120) rfl (by decide) rfl ?_
  refine xi_icmpf (pc' := 123) (tg := 207) rfl rfl (by decide) rfl ?_
  refine xi_iload_n (pc' := 124) rfl rfl rfl ?_
  refine xi_iff (pc' := 127) (tg := 138) rfl rfl (by decide) rfl ?_
  refine xi_iload (pc' := 129) rfl rfl rfl ?_
  refine xi_aload_n (pc' := 130) rfl rfl rfl ?_
  refine xr_getp (pc' := 133) rfl rfl (by decide) rfl rfl rfl ?_
  refine xi_iload_n (pc' := 134) rfl rfl rfl ?_
  refine xr_ialdv (v := nI (5)) (j := m) (pc' := 135) rfl rfl (by decide) (by first | rfl | (simp only [ix_add, ix_mul, ix_pred]; done) | (simp only [ix_add, ix_mul, ix_pred, *]; done)) (by omega) (by decide) (by simp only [wI_fr, says_fr, put_fr, takes_fr, hears_fr, dat_fr, dw_fr, ans_fr, eff_fr, tell_fr, ne_eq, Nat.reduceEqDiff, not_false_eq_true, hx]) rfl ?_
  refine xi_icmpt (pc' := 201) rfl rfl (by decide) ?_
  refine xi_iincv (y := nI 3) (pc' := 204) rfl rfl (by decide) (st1_7 rfl) rfl ?_
  refine xi_goto (pc' := 116) rfl rfl ?_
  refine xi_iload (pc' := 118) rfl rfl rfl ?_
  refine xi_bipush (pc' := 120) rfl (by decide) rfl ?_
  refine xi_icmpf (pc' := 123) (tg := 207) rfl rfl (by decide) rfl ?_
  refine xi_iload_n (pc' := 124) rfl rfl rfl ?_
  refine xi_iff (pc' := 127) (tg := 138) rfl rfl (by decide) rfl ?_
  refine xi_iload (pc' := 129) rfl rfl rfl ?_
  refine xi_aload_n (pc' := 130) rfl rfl rfl ?_
  refine xr_getp (pc' := 133) rfl rfl (by decide) rfl rfl rfl ?_
  refine xi_iload_n (pc' := 134) rfl rfl rfl ?_
  refine xr_ialdv (v := nI (5)) (j := m) (pc' := 135) rfl rfl (by decide) (by first | rfl | (simp only [ix_add, ix_mul, ix_pred]; done) | (simp only [ix_add, ix_mul, ix_pred, *]; done)) (by omega) (by decide) (by simp only [wI_fr, says_fr, put_fr, takes_fr, hears_fr, dat_fr, dw_fr, ans_fr, eff_fr, tell_fr, ne_eq, Nat.reduceEqDiff, not_false_eq_true, hx]) rfl ?_
  refine xi_icmpt (pc' := 201) rfl rfl (by decide) ?_
  refine xi_iincv (y := nI 4) (pc' := 204) rfl rfl (by decide) (st1_7 rfl) rfl ?_
  refine xi_goto (pc' := 116) rfl rfl ?_
  refine xi_iload (pc' := 118) rfl rfl rfl ?_
  refine xi_bipush (pc' := 120) rfl (by decide) rfl ?_
  refine xi_icmpf (pc' := 123) (tg := 207) rfl rfl (by decide) rfl ?_
  refine xi_iload_n (pc' := 124) rfl rfl rfl ?_
  refine xi_iff (pc' := 127) (tg := 138) rfl rfl (by decide) rfl ?_
  refine xi_iload (pc' := 129) rfl rfl rfl ?_
  refine xi_aload_n (pc' := 130) rfl rfl rfl ?_
  refine xr_getp (pc' := 133) rfl rfl (by decide) rfl rfl rfl ?_
  refine xi_iload_n (pc' := 134) rfl rfl rfl ?_
  refine xr_ialdv (v := nI (5)) (j := m) (pc' := 135) rfl rfl (by decide) (by first | rfl | (simp only [ix_add, ix_mul, ix_pred]; done) | (simp only [ix_add, ix_mul, ix_pred, *]; done)) (by omega) (by decide) (by simp only [wI_fr, says_fr, put_fr, takes_fr, hears_fr, dat_fr, dw_fr, ans_fr, eff_fr, tell_fr, ne_eq, Nat.reduceEqDiff, not_false_eq_true, hx]) rfl ?_
  refine xi_icmpt (pc' := 201) rfl rfl (by decide) ?_
  refine xi_iincv (y := nI 5) (pc' := 204) rfl rfl (by decide) (st1_7 rfl) rfl ?_
  refine xi_goto (pc' := 116) rfl rfl ?_
  refine xi_iload (pc' := 118) rfl rfl rfl ?_
  refine xi_bipush (pc' := 120) rfl (by decide) rfl ?_
  refine xi_icmpf (pc' := 123) (tg := 207) rfl rfl (by decide) rfl ?_
  refine xi_iload_n (pc' := 124) rfl rfl rfl ?_
  refine xi_iff (pc' := 127) (tg := 138) rfl rfl (by decide) rfl ?_
  refine xi_iload (pc' := 129) rfl rfl rfl ?_
  refine xi_aload_n (pc' := 130) rfl rfl rfl ?_
  refine xr_getp (pc' := 133) rfl rfl (by decide) rfl rfl rfl ?_
  refine xi_iload_n (pc' := 134) rfl rfl rfl ?_
  refine xr_ialdv (v := nI (5)) (j := m) (pc' := 135) rfl rfl (by decide) (by first | rfl | (simp only [ix_add, ix_mul, ix_pred]; done) | (simp only [ix_add, ix_mul, ix_pred, *]; done)) (by omega) (by decide) (by simp only [wI_fr, says_fr, put_fr, takes_fr, hears_fr, dat_fr, dw_fr, ans_fr, eff_fr, tell_fr, ne_eq, Nat.reduceEqDiff, not_false_eq_true, hx]) rfl ?_
  refine xi_icmpf (pc' := 138) (tg := 201) rfl rfl (by decide) rfl ?_
  refine xi_aload_n (pc' := 139) rfl rfl rfl ?_
  refine xi_iload (pc' := 141) rfl rfl rfl ?_
  refine xi_iload (pc' := 143) rfl rfl rfl ?_
  refine xi_iload (pc' := 145) rfl rfl rfl ?_
  refine xi_iconst (pc' := 146) rfl rfl ?_
  refine xi_iconst (pc' := 147) rfl rfl ?_
  refine xx_callVi (pc' := 150) rfl rfl (by decide) rfl rfl (by show _ < 81 + 2 * _; omega) (Nat.le_of_ble_eq_true rfl) rfl rfl (r_hears_ok (t := 5) (by decide)) ?_
  refine xx_if (pc' := 153) (tg := 201) rfl rfl rfl (fun q150 => ?_) (fun q150 => ?_)
  · refine xi_iincv (y := nI 6) (pc' := 204) rfl rfl (by decide) (st1_7 rfl) rfl ?_
    refine xi_goto (pc' := 116) rfl rfl ?_
    refine xi_iload (pc' := 118) rfl rfl rfl ?_
    refine xi_bipush (pc' := 120) rfl (by decide) rfl ?_
    refine xi_icmpt (pc' := 207) rfl rfl (by decide) ?_
    refine xi_iload (pc' := 209) rfl rfl rfl ?_
    refine xi_iff (pc' := 212) (tg := 216) rfl rfl (by decide) rfl ?_
    refine xi_iload_n (pc' := 213) rfl rfl rfl ?_
    refine xi_ift (pc' := 220) rfl rfl (by decide) ?_
    refine xi_iconst (pc' := 221) rfl rfl ?_
    refine xx_zreturn rfl rfl (by decide) ?_
    simp only [ex_P, Classical.not_not, ↓reduceIte, Nat.add_zero, or_true, true_or, not_true_eq_false, not_false_eq_true, or_false, false_or, wI_get, false_and, true_and, and_true, and_false, and_self, Nat.reduceEqDiff, Nat.succ_ne_zero, reduceCtorEq, nI_lit, nI_lit0, Nat.reduceLT] at *
    first | (simp only [r_give, r_g1, r_g2, r_g3, r_g4, *, ↓reduceIte, Nat.add_zero, or_true, true_or, not_true_eq_false, not_false_eq_true, or_false, false_or, wI_get, false_and, true_and, and_true, and_false, and_self, Nat.reduceEqDiff, Nat.succ_ne_zero, reduceCtorEq, nI_lit, nI_lit0, Nat.reduceLT]; done) | (exfalso; simp_all only [↓reduceIte, Nat.add_zero, or_true, true_or, not_true_eq_false, not_false_eq_true, or_false, false_or, wI_get, false_and, true_and, and_true, and_false, and_self, Nat.reduceEqDiff, Nat.succ_ne_zero, reduceCtorEq, nI_lit, nI_lit0, Nat.reduceLT]; done)
  · refine xi_aload_n (pc' := 154) rfl rfl rfl ?_
    refine xi_iload (pc' := 156) rfl rfl rfl ?_
    refine xi_aload_n (pc' := 157) rfl rfl rfl ?_
    refine xr_getp (pc' := 160) rfl rfl (by decide) rfl rfl rfl ?_
    refine xi_iload_n (pc' := 161) rfl rfl rfl ?_
    refine xr_ialdv (v := nI (s + 1)) (j := m) (pc' := 162) rfl rfl (by decide) (by first | rfl | (simp only [ix_add, ix_mul, ix_pred]; done) | (simp only [ix_add, ix_mul, ix_pred, *]; done)) (by omega) (by decide) (by simp only [wI_fr, says_fr, put_fr, takes_fr, hears_fr, dat_fr, dw_fr, ans_fr, eff_fr, tell_fr, ne_eq, Nat.reduceEqDiff, not_false_eq_true, hsb]) rfl ?_
    refine xi_aload_n (pc' := 163) rfl rfl rfl ?_
    refine xr_getp (pc' := 166) rfl rfl (by decide) rfl rfl rfl ?_
    refine xi_iload_n (pc' := 167) rfl rfl rfl ?_
    refine xr_ialdv (v := nI (nn)) (j := m) (pc' := 168) rfl rfl (by decide) (by first | rfl | (simp only [ix_add, ix_mul, ix_pred]; done) | (simp only [ix_add, ix_mul, ix_pred, *]; done)) (by omega) (by decide) (by simp only [wI_fr, says_fr, put_fr, takes_fr, hears_fr, dat_fr, dw_fr, ans_fr, eff_fr, tell_fr, ne_eq, Nat.reduceEqDiff, not_false_eq_true, hn]) rfl ?_
    refine xi_iload_n (pc' := 169) rfl rfl rfl ?_
    refine xx_callVi (pc' := 172) rfl rfl (by decide) rfl rfl (by show _ < 81 + 2 * _; omega) (Nat.le_of_ble_eq_true rfl) rfl rfl (r_takes_ok (t := 5) (by decide) hs h1 h4 (by decide)) ?_
    refine xi_istore (pc' := 174) rfl (st1_8 rfl) rfl ?_
    refine xi_iload (pc' := 176) rfl rfl rfl ?_
    refine xx_if (pc' := 179) (tg := 201) rfl rfl rfl (fun q176 => ?_) (fun q176 => ?_)
    · refine xi_iincv (y := nI 6) (pc' := 204) rfl rfl (by decide) (st1_7 rfl) rfl ?_
      refine xi_goto (pc' := 116) rfl rfl ?_
      refine xi_iload (pc' := 118) rfl rfl rfl ?_
      refine xi_bipush (pc' := 120) rfl (by decide) rfl ?_
      refine xi_icmpt (pc' := 207) rfl rfl (by decide) ?_
      refine xi_iload (pc' := 209) rfl rfl rfl ?_
      refine xi_iff (pc' := 212) (tg := 216) rfl rfl (by decide) rfl ?_
      refine xi_iload_n (pc' := 213) rfl rfl rfl ?_
      refine xi_ift (pc' := 220) rfl rfl (by decide) ?_
      refine xi_iconst (pc' := 221) rfl rfl ?_
      refine xx_zreturn rfl rfl (by decide) ?_
      simp only [ex_P, Classical.not_not, ↓reduceIte, Nat.add_zero, or_true, true_or, not_true_eq_false, not_false_eq_true, or_false, false_or, wI_get, false_and, true_and, and_true, and_false, and_self, Nat.reduceEqDiff, Nat.succ_ne_zero, reduceCtorEq, nI_lit, nI_lit0, Nat.reduceLT] at *
      first | (simp only [r_give, r_g1, r_g2, r_g3, r_g4, *, ↓reduceIte, Nat.add_zero, or_true, true_or, not_true_eq_false, not_false_eq_true, or_false, false_or, wI_get, false_and, true_and, and_true, and_false, and_self, Nat.reduceEqDiff, Nat.succ_ne_zero, reduceCtorEq, nI_lit, nI_lit0, Nat.reduceLT]; done) | (exfalso; simp_all only [↓reduceIte, Nat.add_zero, or_true, true_or, not_true_eq_false, not_false_eq_true, or_false, false_or, wI_get, false_and, true_and, and_true, and_false, and_self, Nat.reduceEqDiff, Nat.succ_ne_zero, reduceCtorEq, nI_lit, nI_lit0, Nat.reduceLT]; done)
    · refine xi_iload_n (pc' := 180) rfl rfl rfl ?_
      refine xi_iff (pc' := 183) (tg := 201) rfl rfl (by decide) rfl ?_
      refine xi_aload_n (pc' := 184) rfl rfl rfl ?_
      refine xi_iload (pc' := 186) rfl rfl rfl ?_
      refine xi_iload_n (pc' := 187) rfl rfl rfl ?_
      refine xx_callVi (pc' := 190) rfl rfl (by decide) rfl rfl (by show _ < 81 + 2 * _; omega) (Nat.le_of_ble_eq_true rfl) rfl rfl (r_saysStatus (t := 5) (by decide) hb (g3_hw (x := 5) hh (by omega)) (by omega)) ?_
      refine xi_iconst (pc' := 191) rfl rfl ?_
      refine xx_icmp (pc' := 194) (tg := 198) rfl rfl rfl (fun q191 => ?_) (fun q191 => ?_)
      · refine xi_iconst (pc' := 199) rfl rfl ?_
        refine xi_istore (pc' := 201) rfl (st1_6 rfl) rfl ?_
        refine xi_iincv (y := nI 6) (pc' := 204) rfl rfl (by decide) (st1_7 rfl) rfl ?_
        refine xi_goto (pc' := 116) rfl rfl ?_
        refine xi_iload (pc' := 118) rfl rfl rfl ?_
        refine xi_bipush (pc' := 120) rfl (by decide) rfl ?_
        refine xi_icmpt (pc' := 207) rfl rfl (by decide) ?_
        refine xi_iload (pc' := 209) rfl rfl rfl ?_
        refine xi_iff (pc' := 212) (tg := 216) rfl rfl (by decide) rfl ?_
        refine xi_iload_n (pc' := 213) rfl rfl rfl ?_
        refine xi_ift (pc' := 220) rfl rfl (by decide) ?_
        refine xi_iconst (pc' := 221) rfl rfl ?_
        refine xx_zreturn rfl rfl (by decide) ?_
        simp only [ex_P, Classical.not_not, ↓reduceIte, Nat.add_zero, or_true, true_or, not_true_eq_false, not_false_eq_true, or_false, false_or, wI_get, false_and, true_and, and_true, and_false, and_self, Nat.reduceEqDiff, Nat.succ_ne_zero, reduceCtorEq, nI_lit, nI_lit0, Nat.reduceLT] at *
        first | (simp only [r_give, r_g1, r_g2, r_g3, r_g4, *, ↓reduceIte, Nat.add_zero, or_true, true_or, not_true_eq_false, not_false_eq_true, or_false, false_or, wI_get, false_and, true_and, and_true, and_false, and_self, Nat.reduceEqDiff, Nat.succ_ne_zero, reduceCtorEq, nI_lit, nI_lit0, Nat.reduceLT]; done) | (exfalso; simp_all only [↓reduceIte, Nat.add_zero, or_true, true_or, not_true_eq_false, not_false_eq_true, or_false, false_or, wI_get, false_and, true_and, and_true, and_false, and_self, Nat.reduceEqDiff, Nat.succ_ne_zero, reduceCtorEq, nI_lit, nI_lit0, Nat.reduceLT]; done)
      · refine xi_iconst (pc' := 195) rfl rfl ?_
        refine xi_goto (pc' := 199) rfl rfl ?_
        refine xi_istore (pc' := 201) rfl (st1_6 rfl) rfl ?_
        refine xi_iincv (y := nI 6) (pc' := 204) rfl rfl (by decide) (st1_7 rfl) rfl ?_
        refine xi_goto (pc' := 116) rfl rfl ?_
        refine xi_iload (pc' := 118) rfl rfl rfl ?_
        refine xi_bipush (pc' := 120) rfl (by decide) rfl ?_
        refine xi_icmpt (pc' := 207) rfl rfl (by decide) ?_
        refine xi_iload (pc' := 209) rfl rfl rfl ?_
        refine xi_ift (pc' := 216) rfl rfl (by decide) ?_
        refine xi_iconst (pc' := 217) rfl rfl ?_
        refine xi_goto (pc' := 221) rfl rfl ?_
        refine xx_zreturn rfl rfl (by decide) ?_
        simp only [ex_P, Classical.not_not, ↓reduceIte, Nat.add_zero, or_true, true_or, not_true_eq_false, not_false_eq_true, or_false, false_or, wI_get, false_and, true_and, and_true, and_false, and_self, Nat.reduceEqDiff, Nat.succ_ne_zero, reduceCtorEq, nI_lit, nI_lit0, Nat.reduceLT] at *
        first | (simp only [r_give, r_g1, r_g2, r_g3, r_g4, *, ↓reduceIte, Nat.add_zero, or_true, true_or, not_true_eq_false, not_false_eq_true, or_false, false_or, wI_get, false_and, true_and, and_true, and_false, and_self, Nat.reduceEqDiff, Nat.succ_ne_zero, reduceCtorEq, nI_lit, nI_lit0, Nat.reduceLT]; done) | (exfalso; simp_all only [↓reduceIte, Nat.add_zero, or_true, true_or, not_true_eq_false, not_false_eq_true, or_false, false_or, wI_get, false_and, true_and, and_true, and_false, and_self, Nat.reduceEqDiff, Nat.succ_ne_zero, reduceCtorEq, nI_lit, nI_lit0, Nat.reduceLT]; done)
theorem r_gives_0 {L : Nat} {xs : Nat → Int32} {D n : Nat} {I J : ex_Mem} {m x s nn b N : Nat} (hk : J 69 m = nI 0) (hx6 : x < 6) (hx : J 70 m = nI x) (hm : m < 8) (hb : b < 2) (hs : s < 3) (h1 : 1 ≤ nn) (h4 : nn ≤ 4) (hsb : J 72 m = nI (s + 1)) (hn : J 73 m = nI nn) (hh : hwB N J) (hN : N + 8 < 2 ^ 31) (hg : gdB 0 J) : ri L xs (D + 3) 119 [.ref 52, .int (nI m), .int (nI b)] (mkH n I J) (r_give J m x s nn b).1 (mkH n I (r_give J m x s nn b).2) := by
  rcases (by omega : x = 0 ∨ x = 1 ∨ x = 2 ∨ x = 3 ∨ x = 4 ∨ x = 5) with rfl | rfl | rfl | rfl | rfl | rfl
  · exact r_gives_0_0 hk hx hm hb hs h1 h4 hsb hn hh hN hg
  · exact r_gives_0_1 hk hx hm hb hs h1 h4 hsb hn hh hN hg
  · exact r_gives_0_2 hk hx hm hb hs h1 h4 hsb hn hh hN hg
  · exact r_gives_0_3 hk hx hm hb hs h1 h4 hsb hn hh hN hg
  · exact r_gives_0_4 hk hx hm hb hs h1 h4 hsb hn hh hN hg
  · exact r_gives_0_5 hk hx hm hb hs h1 h4 hsb hn hh hN hg
