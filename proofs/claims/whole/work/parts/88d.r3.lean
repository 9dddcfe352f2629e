def r_mc (t cd : Nat) : Int32 := nI 2048 * nI t + nI 1024 * nI 1 + nI 32 * nI 0 + nI cd
theorem r_commandM {L : Nat} {xs : Nat → Int32} {D n : Nat} {I J : ex_Mem} {t cd : Nat} : ri L xs D 110 [.int (nI t), .int (nI 1), .int (nI 0), .int (nI cd)] (mkH n I J) (r_mc t cd) (mkH n I J) := r_command _ _ _ _
def r_eff (J : ex_Mem) (t cd b : Nat) : ex_Mem := if cd = 1 then ex_wI J 65 t (J 65 t + nI 1) else if cd = 4 then ex_wI J 66 (2 * t + 1 - b) (nI 1) else if cd = 5 then ex_wI J 66 (2 * t + 1 - b) (nI 0) else if cd = 8 then ex_wI (ex_wI J 66 (2 * t) (nI 0)) 66 (2 * t + 1) (nI 0) else J
def r_c1 (J : ex_Mem) (t cd b : Nat) : Int32 × ex_Mem := r_put J b (r_mc t cd)
def r_c2 (J : ex_Mem) (t cd b : Nat) : Int32 × ex_Mem := r_hears (r_c1 J t cd b).2 t (r_c1 J t cd b).1 (r_mc t cd) (if cd = 2 ∨ cd = 18 then nI 1 else nI 0) (if cd = 18 then nI 1 else nI 0)
def r_c3 (J : ex_Mem) (t cd b : Nat) : ex_Mem := r_eff (r_c2 J t cd b).2 t cd b
def r_c4 (J : ex_Mem) (t cd b : Nat) : Int32 × ex_Mem := r_says (r_c3 J t cd b) t b (r_st (r_c3 J t cd b) t)
def r_c5 (J : ex_Mem) (t cd b : Nat) : Int32 × ex_Mem := r_says (r_c4 J t cd b).2 t b ((r_c4 J t cd b).2 64 t + nI 65536)
def r_commands (J : ex_Mem) (m t cd b : Nat) : Int32 × ex_Mem :=
  if (r_c2 J t cd b).1 = 0 then (nI 0, (r_c2 J t cd b).2)
  else if cd = 18 then (if (r_c5 J t cd b).1 = nI 1 ∧ (r_c4 J t cd b).1 = nI 1 then (nI 1, ex_wI (r_c5 J t cd b).2 76 (4 * m) ((r_c5 J t cd b).2 64 t)) else (nI 0, (r_c5 J t cd b).2))
  else (if (r_c4 J t cd b).1 = nI 1 then nI 1 else nI 0, (r_c4 J t cd b).2)
theorem eff_fr {J : ex_Mem} {t cd b a k : Nat} (h1 : a ≠ 65) (h2 : a ≠ 66) : r_eff J t cd b a k = J a k := by
  unfold r_eff
  split
  · exact wI_fr h1
  · split
    · exact wI_fr h2
    · split
      · exact wI_fr h2
      · split
        · rw [wI_fr h2, wI_fr h2]
        · rfl
theorem c2_hw {J : ex_Mem} {N t cd b : Nat} (hh : hwB N J) (hN : N + 1 < 2 ^ 31) : hwB (N + 1) (r_c2 J t cd b).2 := hears_hw (hwB_put hh hN)
theorem c3_hw {J : ex_Mem} {N t cd b : Nat} (hh : hwB N J) (hN : N + 1 < 2 ^ 31) : hwB (N + 1) (r_c3 J t cd b) := hwB_eq (c2_hw (t := t) (cd := cd) (b := b) hh hN) (eff_fr (by decide) (by decide))
theorem c4_hw {J : ex_Mem} {N t cd b : Nat} (hh : hwB N J) (hN : N + 2 < 2 ^ 31) : hwB (N + 2) (r_c4 J t cd b).2 := hwB_says (c3_hw hh (by omega)) hN
theorem c5_hw {J : ex_Mem} {N t cd b : Nat} (hh : hwB N J) (hN : N + 3 < 2 ^ 31) : hwB (N + 3) (r_c5 J t cd b).2 := hwB_says (c4_hw hh (by omega)) hN
theorem r_commands_1 {L : Nat} {xs : Nat → Int32} {D n : Nat} {I J : ex_Mem} {m : Int32} {t b N : Nat} (ht : t < 6) (hb : b < 2) (hh : hwB N J) (hN : N + 3 < 2 ^ 31) : ri L xs (D + 3) 109 [.ref 52, .int m, .int (nI t), .int (nI 1), .int (nI b)] (mkH n I J) ((r_commands J 0 t 1 b).1) (mkH n I (r_commands J 0 t 1 b).2) := by
  show xx cb_G _ _ _ 109 0 [.ref 52, .int m, .int (nI t), .int (nI 1), .int (nI b), ex_no, ex_no, ex_no, ex_no] [] _ _
  refine xi_iload_n (pc' := 1) rfl rfl rfl ?_
  refine xi_iconst (pc' := 2) rfl rfl ?_
  refine xi_iconst (pc' := 3) rfl rfl ?_
  refine xi_iload_n (pc' := 4) rfl rfl rfl ?_
  refine xx_callSi (pc' := 7) rfl rfl (by decide) rfl (Nat.le_of_ble_eq_true rfl) rfl rfl (r_commandM) ?_
  refine xi_istore (pc' := 9) rfl (st1_5 rfl) rfl ?_
  refine xi_aload_n (pc' := 10) rfl rfl rfl ?_
  refine xi_iload (pc' := 12) rfl rfl rfl ?_
  refine xi_iconst (pc' := 13) rfl rfl ?_
  refine xi_iload (pc' := 15) rfl rfl rfl ?_
  refine xx_callVi (pc' := 18) rfl rfl (by decide) rfl rfl (by show _ < 81 + 2 * _; omega) (Nat.le_of_ble_eq_true rfl) rfl rfl (r_put0 hb hh (by omega)) ?_
  refine xi_istore (pc' := 20) rfl (st1_6 rfl) rfl ?_
  refine xi_iload_n (pc' := 21) rfl rfl rfl ?_
  refine xi_iconst (pc' := 22) rfl rfl ?_
  refine xi_icmpf (pc' := 25) (tg := 31) rfl rfl (by decide) rfl ?_
  refine xi_iload_n (pc' := 26) rfl rfl rfl ?_
  refine xi_bipush (pc' := 28) rfl (by decide) rfl ?_
  refine xi_icmpt (pc' := 35) rfl rfl (by decide) ?_
  refine xi_iconst (pc' := 36) rfl rfl ?_
  refine xi_istore (pc' := 38) rfl (st1_7 rfl) rfl ?_
  refine xi_aload_n (pc' := 39) rfl rfl rfl ?_
  refine xi_iload_n (pc' := 40) rfl rfl rfl ?_
  refine xi_iload (pc' := 42) rfl rfl rfl ?_
  refine xi_iload (pc' := 44) rfl rfl rfl ?_
  refine xi_iload (pc' := 46) rfl rfl rfl ?_
  refine xi_iload_n (pc' := 47) rfl rfl rfl ?_
  refine xi_bipush (pc' := 49) rfl (by decide) rfl ?_
  refine xi_icmpt (pc' := 56) rfl rfl (by decide) ?_
  refine xi_iconst (pc' := 57) rfl rfl ?_
  refine xx_callVi (pc' := 60) rfl rfl (by decide) rfl rfl (by show _ < 81 + 2 * _; omega) (Nat.le_of_ble_eq_true rfl) rfl rfl (r_hears_ok ht) ?_
  refine xx_if (pc' := 63) (tg := 65) rfl rfl rfl (fun q60 => ?_) (fun q60 => ?_)
  · refine xi_iload_n (pc' := 66) rfl rfl rfl ?_
    refine xi_iconst (pc' := 67) rfl rfl ?_
    refine xi_icmpf (pc' := 70) (tg := 80) rfl rfl (by decide) rfl ?_
    refine xi_aload_n (pc' := 71) rfl rfl rfl ?_
    refine xr_getp (pc' := 74) rfl rfl (by decide) rfl rfl rfl ?_
    refine xi_iload_n (pc' := 75) rfl rfl rfl ?_
    refine xi_dup2 (pc' := 76) rfl rfl rfl rfl ?_
    refine xr_iald (j := t) (pc' := 77) rfl rfl (by decide) (by first | rfl | (simp only [ix_add, ix_mul, ix_pred]; done) | (simp only [ix_add, ix_mul, ix_pred, *]; done)) (by omega) (by decide) rfl ?_
    refine xi_iconst (pc' := 78) rfl rfl ?_
    refine xi_iadd (pc' := 79) rfl rfl ?_
    refine xr_iast (j := t) (pc' := 80) rfl rfl (by decide) (by first | rfl | (simp only [ix_add, ix_mul, ix_pred]; done) | (simp only [ix_add, ix_mul, ix_pred, *]; done)) (by omega) (by decide) rfl ?_
    refine xi_iload_n (pc' := 81) rfl rfl rfl ?_
    refine xi_iconst (pc' := 82) rfl rfl ?_
    refine xi_icmpf (pc' := 85) (tg := 90) rfl rfl (by decide) rfl ?_
    refine xi_iload_n (pc' := 86) rfl rfl rfl ?_
    refine xi_iconst (pc' := 87) rfl rfl ?_
    refine xi_icmpt (pc' := 113) rfl rfl (by decide) ?_
    refine xi_iload_n (pc' := 114) rfl rfl rfl ?_
    refine xi_bipush (pc' := 116) rfl (by decide) rfl ?_
    refine xi_icmpt (pc' := 139) rfl rfl (by decide) ?_
    refine xi_aload_n (pc' := 140) rfl rfl rfl ?_
    refine xi_iload_n (pc' := 141) rfl rfl rfl ?_
    refine xi_iload (pc' := 143) rfl rfl rfl ?_
    refine xx_callVi (pc' := 146) rfl rfl (by decide) rfl rfl (by show _ < 81 + 2 * _; omega) (Nat.le_of_ble_eq_true rfl) rfl rfl (r_saysStatus ht hb (c3_hw (t := t) (cd := 1) (b := b) hh (by omega)) (by omega)) ?_
    refine xi_iconst (pc' := 147) rfl rfl ?_
    refine xx_icmp (pc' := 150) (tg := 154) rfl rfl rfl (fun q147 => ?_) (fun q147 => ?_)
    · refine xi_iconst (pc' := 155) rfl rfl ?_
      refine xi_istore (pc' := 157) rfl (st1_8 rfl) rfl ?_
      refine xi_iload_n (pc' := 158) rfl rfl rfl ?_
      refine xi_bipush (pc' := 160) rfl (by decide) rfl ?_
      refine xi_icmpt (pc' := 216) rfl rfl (by decide) ?_
      refine xi_iload (pc' := 218) rfl rfl rfl ?_
      refine xx_zreturn rfl rfl (by decide) ?_
      simp only [ex_P, Classical.not_not, ↓reduceIte, Nat.add_zero, or_true, true_or, not_true_eq_false, not_false_eq_true, or_false, false_or, wI_get, false_and, true_and, and_true, and_false, and_self, Nat.reduceEqDiff, Nat.succ_ne_zero, reduceCtorEq, nI_lit, nI_lit0, Nat.reduceLT] at *
      first | (simp only [r_commands, r_c1, r_c2, r_c3, r_c4, r_c5, r_eff, *, ↓reduceIte, Nat.add_zero, or_true, true_or, not_true_eq_false, not_false_eq_true, or_false, false_or, wI_get, false_and, true_and, and_true, and_false, and_self, Nat.reduceEqDiff, Nat.succ_ne_zero, reduceCtorEq, nI_lit, nI_lit0, Nat.reduceLT]; done) | (exfalso; simp_all only [↓reduceIte, Nat.add_zero, or_true, true_or, not_true_eq_false, not_false_eq_true, or_false, false_or, wI_get, false_and, true_and, and_true, and_false, and_self, Nat.reduceEqDiff, Nat.succ_ne_zero, reduceCtorEq, nI_lit, nI_lit0, Nat.reduceLT]; done)
    · refine xi_iconst (pc' := 151) rfl rfl ?_
      refine xi_goto (pc' := 155) rfl rfl ?_
      refine xi_istore (pc' := 157) rfl (st1_8 rfl) rfl ?_
      refine xi_iload_n (pc' := 158) rfl rfl rfl ?_
      refine xi_bipush (pc' := 160) rfl (by decide) rfl ?_
      refine xi_icmpt (pc' := 216) rfl rfl (by decide) ?_
      refine xi_iload (pc' := 218) rfl rfl rfl ?_
      refine xx_zreturn rfl rfl (by decide) ?_
      simp only [ex_P, Classical.not_not, ↓reduceIte, Nat.add_zero, or_true, true_or, not_true_eq_false, not_false_eq_true, or_false, false_or, wI_get, false_and, true_and, and_true, and_false, and_self, Nat.reduceEqDiff, Nat.succ_ne_zero, reduceCtorEq, nI_lit, nI_lit0, Nat.reduceLT] at *
      first | (simp only [r_commands, r_c1, r_c2, r_c3, r_c4, r_c5, r_eff, *, ↓reduceIte, Nat.add_zero, or_true, true_or, not_true_eq_false, not_false_eq_true, or_false, false_or, wI_get, false_and, true_and, and_true, and_false, and_self, Nat.reduceEqDiff, Nat.succ_ne_zero, reduceCtorEq, nI_lit, nI_lit0, Nat.reduceLT]; done) | (exfalso; simp_all only [↓reduceIte, Nat.add_zero, or_true, true_or, not_true_eq_false, not_false_eq_true, or_false, false_or, wI_get, false_and, true_and, and_true, and_false, and_self, Nat.reduceEqDiff, Nat.succ_ne_zero, reduceCtorEq, nI_lit, nI_lit0, Nat.reduceLT]; done)
  · refine xi_iconst (pc' := 64) rfl rfl ?_
    refine xx_zreturn rfl rfl (by decide) ?_
    simp only [ex_P, Classical.not_not, ↓reduceIte, Nat.add_zero, or_true, true_or, not_true_eq_false, not_false_eq_true, or_false, false_or, wI_get, false_and, true_and, and_true, and_false, and_self, Nat.reduceEqDiff, Nat.succ_ne_zero, reduceCtorEq, nI_lit, nI_lit0, Nat.reduceLT] at *
    first | (simp only [r_commands, r_c1, r_c2, r_c3, r_c4, r_c5, r_eff, *, ↓reduceIte, Nat.add_zero, or_true, true_or, not_true_eq_false, not_false_eq_true, or_false, false_or, wI_get, false_and, true_and, and_true, and_false, and_self, Nat.reduceEqDiff, Nat.succ_ne_zero, reduceCtorEq, nI_lit, nI_lit0, Nat.reduceLT]; done) | (exfalso; simp_all only [↓reduceIte, Nat.add_zero, or_true, true_or, not_true_eq_false, not_false_eq_true, or_false, false_or, wI_get, false_and, true_and, and_true, and_false, and_self, Nat.reduceEqDiff, Nat.succ_ne_zero, reduceCtorEq, nI_lit, nI_lit0, Nat.reduceLT]; done)
theorem r_commands_2 {L : Nat} {xs : Nat → Int32} {D n : Nat} {I J : ex_Mem} {m : Int32} {t b N : Nat} (ht : t < 6) (hb : b < 2) (hh : hwB N J) (hN : N + 3 < 2 ^ 31) : ri L xs (D + 3) 109 [.ref 52, .int m, .int (nI t), .int (nI 2), .int (nI b)] (mkH n I J) ((r_commands J 0 t 2 b).1) (mkH n I (r_commands J 0 t 2 b).2) := by
  show xx cb_G _ _ _ 109 0 [.ref 52, .int m, .int (nI t), .int (nI 2), .int (nI b), ex_no, ex_no, ex_no, ex_no] [] _ _
  refine xi_iload_n (pc' := 1) rfl rfl rfl ?_
  refine xi_iconst (pc' := 2) rfl rfl ?_
  refine xi_iconst (pc' := 3) rfl rfl ?_
  refine xi_iload_n (pc' := 4) rfl rfl rfl ?_
  refine xx_callSi (pc' := 7) rfl rfl (by decide) rfl (Nat.le_of_ble_eq_true rfl) rfl rfl (r_commandM) ?_
  refine xi_istore (pc' := 9) rfl (st1_5 rfl) rfl ?_
  refine xi_aload_n (pc' := 10) rfl rfl rfl ?_
  refine xi_iload (pc' := 12) rfl rfl rfl ?_
  refine xi_iconst (pc' := 13) rfl rfl ?_
  refine xi_iload (pc' := 15) rfl rfl rfl ?_
  refine xx_callVi (pc' := 18) rfl rfl (by decide) rfl rfl (by show _ < 81 + 2 * _; omega) (Nat.le_of_ble_eq_true rfl) rfl rfl (r_put0 hb hh (by omega)) ?_
  refine xi_istore (pc' := 20) rfl (st1_6 rfl) rfl ?_
  refine xi_iload_n (pc' := 21) rfl rfl rfl ?_
  refine xi_iconst (pc' := 22) rfl rfl ?_
  refine xi_icmpt (pc' := 31) rfl rfl (by decide) ?_
  refine xi_iconst (pc' := 32) rfl rfl ?_
  refine xi_goto (pc' := 36) rfl rfl ?_
  refine xi_istore (pc' := 38) rfl (st1_7 rfl) rfl ?_
  refine xi_aload_n (pc' := 39) rfl rfl rfl ?_
  refine xi_iload_n (pc' := 40) rfl rfl rfl ?_
  refine xi_iload (pc' := 42) rfl rfl rfl ?_
  refine xi_iload (pc' := 44) rfl rfl rfl ?_
  refine xi_iload (pc' := 46) rfl rfl rfl ?_
  refine xi_iload_n (pc' := 47) rfl rfl rfl ?_
  refine xi_bipush (pc' := 49) rfl (by decide) rfl ?_
  refine xi_icmpt (pc' := 56) rfl rfl (by decide) ?_
  refine xi_iconst (pc' := 57) rfl rfl ?_
  refine xx_callVi (pc' := 60) rfl rfl (by decide) rfl rfl (by show _ < 81 + 2 * _; omega) (Nat.le_of_ble_eq_true rfl) rfl rfl (r_hears_ok ht) ?_
  refine xx_if (pc' := 63) (tg := 65) rfl rfl rfl (fun q60 => ?_) (fun q60 => ?_)
  · refine xi_iload_n (pc' := 66) rfl rfl rfl ?_
    refine xi_iconst (pc' := 67) rfl rfl ?_
    refine xi_icmpt (pc' := 80) rfl rfl (by decide) ?_
    refine xi_iload_n (pc' := 81) rfl rfl rfl ?_
    refine xi_iconst (pc' := 82) rfl rfl ?_
    refine xi_icmpf (pc' := 85) (tg := 90) rfl rfl (by decide) rfl ?_
    refine xi_iload_n (pc' := 86) rfl rfl rfl ?_
    refine xi_iconst (pc' := 87) rfl rfl ?_
    refine xi_icmpt (pc' := 113) rfl rfl (by decide) ?_
    refine xi_iload_n (pc' := 114) rfl rfl rfl ?_
    refine xi_bipush (pc' := 116) rfl (by decide) rfl ?_
    refine xi_icmpt (pc' := 139) rfl rfl (by decide) ?_
    refine xi_aload_n (pc' := 140) rfl rfl rfl ?_
    refine xi_iload_n (pc' := 141) rfl rfl rfl ?_
    refine xi_iload (pc' := 143) rfl rfl rfl ?_
    refine xx_callVi (pc' := 146) rfl rfl (by decide) rfl rfl (by show _ < 81 + 2 * _; omega) (Nat.le_of_ble_eq_true rfl) rfl rfl (r_saysStatus ht hb (c3_hw (t := t) (cd := 2) (b := b) hh (by omega)) (by omega)) ?_
    refine xi_iconst (pc' := 147) rfl rfl ?_
    refine xx_icmp (pc' := 150) (tg := 154) rfl rfl rfl (fun q147 => ?_) (fun q147 => ?_)
    · refine xi_iconst (pc' := 155) rfl rfl ?_
      refine xi_istore (pc' := 157) rfl (st1_8 rfl) rfl ?_
      refine xi_iload_n (pc' := 158) rfl rfl rfl ?_
      refine xi_bipush (pc' := 160) rfl (by decide) rfl ?_
      refine xi_icmpt (pc' := 216) rfl rfl (by decide) ?_
      refine xi_iload (pc' := 218) rfl rfl rfl ?_
      refine xx_zreturn rfl rfl (by decide) ?_
      simp only [ex_P, Classical.not_not, ↓reduceIte, Nat.add_zero, or_true, true_or, not_true_eq_false, not_false_eq_true, or_false, false_or, wI_get, false_and, true_and, and_true, and_false, and_self, Nat.reduceEqDiff, Nat.succ_ne_zero, reduceCtorEq, nI_lit, nI_lit0, Nat.reduceLT] at *
      first | (simp only [r_commands, r_c1, r_c2, r_c3, r_c4, r_c5, r_eff, *, ↓reduceIte, Nat.add_zero, or_true, true_or, not_true_eq_false, not_false_eq_true, or_false, false_or, wI_get, false_and, true_and, and_true, and_false, and_self, Nat.reduceEqDiff, Nat.succ_ne_zero, reduceCtorEq, nI_lit, nI_lit0, Nat.reduceLT]; done) | (exfalso; simp_all only [↓reduceIte, Nat.add_zero, or_true, true_or, not_true_eq_false, not_false_eq_true, or_false, false_or, wI_get, false_and, true_and, and_true, and_false, and_self, Nat.reduceEqDiff, Nat.succ_ne_zero, reduceCtorEq, nI_lit, nI_lit0, Nat.reduceLT]; done)
    · refine xi_iconst (pc' := 151) rfl rfl ?_
      refine xi_goto (pc' := 155) rfl rfl ?_
      refine xi_istore (pc' := 157) rfl (st1_8 rfl) rfl ?_
      refine xi_iload_n (pc' := 158) rfl rfl rfl ?_
      refine xi_bipush (pc' := 160) rfl (by decide) rfl ?_
      refine xi_icmpt (pc' := 216) rfl rfl (by decide) ?_
      refine xi_iload (pc' := 218) rfl rfl rfl ?_
      refine xx_zreturn rfl rfl (by decide) ?_
      simp only [ex_P, Classical.not_not, ↓reduceIte, Nat.add_zero, or_true, true_or, not_true_eq_false, not_false_eq_true, or_false, false_or, wI_get, false_and, true_and, and_true, and_false, and_self, Nat.reduceEqDiff, Nat.succ_ne_zero, reduceCtorEq, nI_lit, nI_lit0, Nat.reduceLT] at *
      first | (simp only [r_commands, r_c1, r_c2, r_c3, r_c4, r_c5, r_eff, *, ↓reduceIte, Nat.add_zero, or_true, true_or, not_true_eq_false, not_false_eq_true, or_false, false_or, wI_get, false_and, true_and, and_true, and_false, and_self, Nat.reduceEqDiff, Nat.succ_ne_zero, reduceCtorEq, nI_lit, nI_lit0, Nat.reduceLT]; done) | (exfalso; simp_all only [↓reduceIte, Nat.add_zero, or_true, true_or, not_true_eq_false, not_false_eq_true, or_false, false_or, wI_get, false_and, true_and, and_true, and_false, and_self, Nat.reduceEqDiff, Nat.succ_ne_zero, reduceCtorEq, nI_lit, nI_lit0, Nat.reduceLT]; done)
  · refine xi_iconst (pc' := 64) rfl rfl ?_
    refine xx_zreturn rfl rfl (by decide) ?_
    simp only [ex_P, Classical.not_not, ↓reduceIte, Nat.add_zero, or_true, true_or, not_true_eq_false, not_false_eq_true, or_false, false_or, wI_get, false_and, true_and, and_true, and_false, and_self, Nat.reduceEqDiff, Nat.succ_ne_zero, reduceCtorEq, nI_lit, nI_lit0, Nat.reduceLT] at *
    first | (simp only [r_commands, r_c1, r_c2, r_c3, r_c4, r_c5, r_eff, *, ↓reduceIte, Nat.add_zero, or_true, true_or, not_true_eq_false, not_false_eq_true, or_false, false_or, wI_get, false_and, true_and, and_true, and_false, and_self, Nat.reduceEqDiff, Nat.succ_ne_zero, reduceCtorEq, nI_lit, nI_lit0, Nat.reduceLT]; done) | (exfalso; simp_all only [↓reduceIte, Nat.add_zero, or_true, true_or, not_true_eq_false, not_false_eq_true, or_false, false_or, wI_get, false_and, true_and, and_true, and_false, and_self, Nat.reduceEqDiff, Nat.succ_ne_zero, reduceCtorEq, nI_lit, nI_lit0, Nat.reduceLT]; done)
theorem r_commands_4 {L : Nat} {xs : Nat → Int32} {D n : Nat} {I J : ex_Mem} {m : Int32} {t b N : Nat} (ht : t < 6) (hb : b < 2) (hh : hwB N J) (hN : N + 3 < 2 ^ 31) : ri L xs (D + 3) 109 [.ref 52, .int m, .int (nI t), .int (nI 4), .int (nI b)] (mkH n I J) ((r_commands J 0 t 4 b).1) (mkH n I (r_commands J 0 t 4 b).2) := by
  show xx cb_G _ _ _ 109 0 [.ref 52, .int m, .int (nI t), .int (nI 4), .int (nI b), ex_no, ex_no, ex_no, ex_no] [] _ _
  refine xi_iload_n (pc' := 1) rfl rfl rfl ?_
  refine xi_iconst (pc' := 2) rfl rfl ?_
  refine xi_iconst (pc' := 3) rfl rfl ?_
  refine xi_iload_n (pc' := 4) rfl rfl rfl ?_
  refine xx_callSi (pc' := 7) rfl rfl (by decide) rfl (Nat.le_of_ble_eq_true rfl) rfl rfl (r_commandM) ?_
  refine xi_istore (pc' := 9) rfl (st1_5 rfl) rfl ?_
  refine xi_aload_n (pc' := 10) rfl rfl rfl ?_
  refine xi_iload (pc' := 12) rfl rfl rfl ?_
  refine xi_iconst (pc' := 13) rfl rfl ?_
  refine xi_iload (pc' := 15) rfl rfl rfl ?_
  refine xx_callVi (pc' := 18) rfl rfl (by decide) rfl rfl (by show _ < 81 + 2 * _; omega) (Nat.le_of_ble_eq_true rfl) rfl rfl (r_put0 hb hh (by omega)) ?_
  refine xi_istore (pc' := 20) rfl (st1_6 rfl) rfl ?_
  refine xi_iload_n (pc' := 21) rfl rfl rfl ?_
  refine xi_iconst (pc' := 22) rfl rfl ?_
  refine xi_icmpf (pc' := 25) (tg := 31) rfl rfl (by decide) rfl ?_
  refine xi_iload_n (pc' := 26) rfl rfl rfl ?_
  refine xi_bipush (pc' := 28) rfl (by decide) rfl ?_
  refine xi_icmpt (pc' := 35) rfl rfl (by decide) ?_
  refine xi_iconst (pc' := 36) rfl rfl ?_
  refine xi_istore (pc' := 38) rfl (st1_7 rfl) rfl ?_
  refine xi_aload_n (pc' := 39) rfl rfl rfl ?_
  refine xi_iload_n (pc' := 40) rfl rfl rfl ?_
  refine xi_iload (pc' := 42) rfl rfl rfl ?_
  refine xi_iload (pc' := 44) rfl rfl rfl ?_
  refine xi_iload (pc' := 46) rfl rfl rfl ?_
  refine xi_iload_n (pc' := 47) rfl rfl rfl ?_
  refine xi_bipush (pc' := 49) rfl (by decide) rfl ?_
  refine xi_icmpt (pc' := 56) rfl rfl (by decide) ?_
  refine xi_iconst (pc' := 57) rfl rfl ?_
  refine xx_callVi (pc' := 60) rfl rfl (by decide) rfl rfl (by show _ < 81 + 2 * _; omega) (Nat.le_of_ble_eq_true rfl) rfl rfl (r_hears_ok ht) ?_
  refine xx_if (pc' := 63) (tg := 65) rfl rfl rfl (fun q60 => ?_) (fun q60 => ?_)
  · refine xi_iload_n (pc' := 66) rfl rfl rfl ?_
    refine xi_iconst (pc' := 67) rfl rfl ?_
    refine xi_icmpt (pc' := 80) rfl rfl (by decide) ?_
    refine xi_iload_n (pc' := 81) rfl rfl rfl ?_
    refine xi_iconst (pc' := 82) rfl rfl ?_
    refine xi_icmpt (pc' := 90) rfl rfl (by decide) ?_
    refine xi_aload_n (pc' := 91) rfl rfl rfl ?_
    refine xr_getp (pc' := 94) rfl rfl (by decide) rfl rfl rfl ?_
    refine xi_iconst (pc' := 95) rfl rfl ?_
    refine xi_iload_n (pc' := 96) rfl rfl rfl ?_
    refine xi_imul (pc' := 97) rfl rfl ?_
    refine xi_iconst (pc' := 98) rfl rfl ?_
    refine xi_iadd (pc' := 99) rfl rfl ?_
    refine xi_iload (pc' := 101) rfl rfl rfl ?_
    refine xi_isub (pc' := 102) rfl rfl ?_
    refine xi_iload_n (pc' := 103) rfl rfl rfl ?_
    refine xi_iconst (pc' := 104) rfl rfl ?_
    refine xi_icmpf (pc' := 107) (tg := 111) rfl rfl (by decide) rfl ?_
    refine xi_iconst (pc' := 108) rfl rfl ?_
    refine xi_goto (pc' := 112) rfl rfl ?_
    refine xr_zast (j := 2 * t + 1 - b) (pc' := 113) rfl rfl (by decide) (by simp only [ix_mul, ix_add]; exact pk_sub (by omega)) (by omega) (by decide) (by decide) rfl ?_
    refine xi_iload_n (pc' := 114) rfl rfl rfl ?_
    refine xi_bipush (pc' := 116) rfl (by decide) rfl ?_
    refine xi_icmpt (pc' := 139) rfl rfl (by decide) ?_
    refine xi_aload_n (pc' := 140) rfl rfl rfl ?_
    refine xi_iload_n (pc' := 141) rfl rfl rfl ?_
    refine xi_iload (pc' := 143) rfl rfl rfl ?_
    refine xx_callVi (pc' := 146) rfl rfl (by decide) rfl rfl (by show _ < 81 + 2 * _; omega) (Nat.le_of_ble_eq_true rfl) rfl rfl (r_saysStatus ht hb (c3_hw (t := t) (cd := 4) (b := b) hh (by omega)) (by omega)) ?_
    refine xi_iconst (pc' := 147) rfl rfl ?_
    refine xx_icmp (pc' := 150) (tg := 154) rfl rfl rfl (fun q147 => ?_) (fun q147 => ?_)
    · refine xi_iconst (pc' := 155) rfl rfl ?_
      refine xi_istore (pc' := 157) rfl (st1_8 rfl) rfl ?_
      refine xi_iload_n (pc' := 158) rfl rfl rfl ?_
      refine xi_bipush (pc' := 160) rfl (by decide) rfl ?_
      refine xi_icmpt (pc' := 216) rfl rfl (by decide) ?_
      refine xi_iload (pc' := 218) rfl rfl rfl ?_
      refine xx_zreturn rfl rfl (by decide) ?_
      simp only [ex_P, Classical.not_not, ↓reduceIte, Nat.add_zero, or_true, true_or, not_true_eq_false, not_false_eq_true, or_false, false_or, wI_get, false_and, true_and, and_true, and_false, and_self, Nat.reduceEqDiff, Nat.succ_ne_zero, reduceCtorEq, nI_lit, nI_lit0, Nat.reduceLT] at *
      first | (simp only [r_commands, r_c1, r_c2, r_c3, r_c4, r_c5, r_eff, *, ↓reduceIte, Nat.add_zero, or_true, true_or, not_true_eq_false, not_false_eq_true, or_false, false_or, wI_get, false_and, true_and, and_true, and_false, and_self, Nat.reduceEqDiff, Nat.succ_ne_zero, reduceCtorEq, nI_lit, nI_lit0, Nat.reduceLT]; done) | (exfalso; simp_all only [↓reduceIte, Nat.add_zero, or_true, true_or, not_true_eq_false, not_false_eq_true, or_false, false_or, wI_get, false_and, true_and, and_true, and_false, and_self, Nat.reduceEqDiff, Nat.succ_ne_zero, reduceCtorEq, nI_lit, nI_lit0, Nat.reduceLT]; done)
    · refine xi_iconst (pc' := 151) rfl rfl ?_
      refine xi_goto (pc' := 155) rfl rfl ?_
      refine xi_istore (pc' := 157) rfl (st1_8 rfl) rfl ?_
      refine xi_iload_n (pc' := 158) rfl rfl rfl ?_
      refine xi_bipush (pc' := 160) rfl (by decide) rfl ?_
      refine xi_icmpt (pc' := 216) rfl rfl (by decide) ?_
      refine xi_iload (pc' := 218) rfl rfl rfl ?_
      refine xx_zreturn rfl rfl (by decide) ?_
      simp only [ex_P, Classical.not_not, ↓reduceIte, Nat.add_zero, or_true, true_or, not_true_eq_false, not_false_eq_true, or_false, false_or, wI_get, false_and, true_and, and_true, and_false, and_self, Nat.reduceEqDiff, Nat.succ_ne_zero, reduceCtorEq, nI_lit, nI_lit0, Nat.reduceLT] at *
      first | (simp only [r_commands, r_c1, r_c2, r_c3, r_c4, r_c5, r_eff, *, ↓reduceIte, Nat.add_zero, or_true, true_or, not_true_eq_false, not_false_eq_true, or_false, false_or, wI_get, false_and, true_and, and_true, and_false, and_self, Nat.reduceEqDiff, Nat.succ_ne_zero, reduceCtorEq, nI_lit, nI_lit0, Nat.reduceLT]; done) | (exfalso; simp_all only [↓reduceIte, Nat.add_zero, or_true, true_or, not_true_eq_false, not_false_eq_true, or_false, false_or, wI_get, false_and, true_and, and_true, and_false, and_self, Nat.reduceEqDiff, Nat.succ_ne_zero, reduceCtorEq, nI_lit, nI_lit0, Nat.reduceLT]; done)
  · refine xi_iconst (pc' := 64) rfl rfl ?_
    refine xx_zreturn rfl rfl (by decide) ?_
    simp only [ex_P, Classical.not_not, ↓reduceIte, Nat.add_zero, or_true, true_or, not_true_eq_false, not_false_eq_true, or_false, false_or, wI_get, false_and, true_and, and_true, and_false, and_self, Nat.reduceEqDiff, Nat.succ_ne_zero, reduceCtorEq, nI_lit, nI_lit0, Nat.reduceLT] at *
    first | (simp only [r_commands, r_c1, r_c2, r_c3, r_c4, r_c5, r_eff, *, ↓reduceIte, Nat.add_zero, or_true, true_or, not_true_eq_false, not_false_eq_true, or_false, false_or, wI_get, false_and, true_and, and_true, and_false, and_self, Nat.reduceEqDiff, Nat.succ_ne_zero, reduceCtorEq, nI_lit, nI_lit0, Nat.reduceLT]; done) | (exfalso; simp_all only [↓reduceIte, Nat.add_zero, or_true, true_or, not_true_eq_false, not_false_eq_true, or_false, false_or, wI_get, false_and, true_and, and_true, and_false, and_self, Nat.reduceEqDiff, Nat.succ_ne_zero, reduceCtorEq, nI_lit, nI_lit0, Nat.reduceLT]; done)
theorem r_commands_5 {L : Nat} {xs : Nat → Int32} {D n : Nat} {I J : ex_Mem} {m : Int32} {t b N : Nat} (ht : t < 6) (hb : b < 2) (hh : hwB N J) (hN : N + 3 < 2 ^ 31) : ri L xs (D + 3) 109 [.ref 52, .int m, .int (nI t), .int (nI 5), .int (nI b)] (mkH n I J) ((r_commands J 0 t 5 b).1) (mkH n I (r_commands J 0 t 5 b).2) := by
  show xx cb_G _ _ _ 109 0 [.ref 52, .int m, .int (nI t), .int (nI 5), .int (nI b), ex_no, ex_no, ex_no, ex_no] [] _ _
  refine xi_iload_n (pc' := 1) rfl rfl rfl ?_
  refine xi_iconst (pc' := 2) rfl rfl ?_
  refine xi_iconst (pc' := 3) rfl rfl ?_
  refine xi_iload_n (pc' := 4) rfl rfl rfl ?_
  refine xx_callSi (pc' := 7) rfl rfl (by decide) rfl (Nat.le_of_ble_eq_true rfl) rfl rfl (r_commandM) ?_
  refine xi_istore (pc' := 9) rfl (st1_5 rfl) rfl ?_
  refine xi_aload_n (pc' := 10) rfl rfl rfl ?_
  refine xi_iload (pc' := 12) rfl rfl rfl ?_
  refine xi_iconst (pc' := 13) rfl rfl ?_
  refine xi_iload (pc' := 15) rfl rfl rfl ?_
  refine xx_callVi (pc' := 18) rfl rfl (by decide) rfl rfl (by show _ < 81 + 2 * _; omega) (Nat.le_of_ble_eq_true rfl) rfl rfl (r_put0 hb hh (by omega)) ?_
  refine xi_istore (pc' := 20) rfl (st1_6 rfl) rfl ?_
  refine xi_iload_n (pc' := 21) rfl rfl rfl ?_
  refine xi_iconst (pc' := 22) rfl rfl ?_
  refine xi_icmpf (pc' := 25) (tg := 31) rfl rfl (by decide) rfl ?_
  refine xi_iload_n (pc' := 26) rfl rfl rfl ?_
  refine xi_bipush (pc' := 28) rfl (by decide) rfl ?_
  refine xi_icmpt (pc' := 35) rfl rfl (by decide) ?_
  refine xi_iconst (pc' := 36) rfl rfl ?_
  refine xi_istore (pc' := 38) rfl (st1_7 rfl) rfl ?_
  refine xi_aload_n (pc' := 39) rfl rfl rfl ?_
  refine xi_iload_n (pc' := 40) rfl rfl rfl ?_
  refine xi_iload (pc' := 42) rfl rfl rfl ?_
  refine xi_iload (pc' := 44) rfl rfl rfl ?_
  refine xi_iload (pc' := 46) rfl rfl rfl ?_
  refine xi_iload_n (pc' := 47) rfl rfl rfl ?_
  refine xi_bipush (pc' := 49) rfl (by decide) rfl ?_
  refine xi_icmpt (pc' := 56) rfl rfl (by decide) ?_
  refine xi_iconst (pc' := 57) rfl rfl ?_
  refine xx_callVi (pc' := 60) rfl rfl (by decide) rfl rfl (by show _ < 81 + 2 * _; omega) (Nat.le_of_ble_eq_true rfl) rfl rfl (r_hears_ok ht) ?_
  refine xx_if (pc' := 63) (tg := 65) rfl rfl rfl (fun q60 => ?_) (fun q60 => ?_)
  · refine xi_iload_n (pc' := 66) rfl rfl rfl ?_
    refine xi_iconst (pc' := 67) rfl rfl ?_
    refine xi_icmpt (pc' := 80) rfl rfl (by decide) ?_
    refine xi_iload_n (pc' := 81) rfl rfl rfl ?_
    refine xi_iconst (pc' := 82) rfl rfl ?_
    refine xi_icmpf (pc' := 85) (tg := 90) rfl rfl (by decide) rfl ?_
    refine xi_iload_n (pc' := 86) rfl rfl rfl ?_
    refine xi_iconst (pc' := 87) rfl rfl ?_
    refine xi_icmpf (pc' := 90) (tg := 113) rfl rfl (by decide) rfl ?_
    refine xi_aload_n (pc' := 91) rfl rfl rfl ?_
    refine xr_getp (pc' := 94) rfl rfl (by decide) rfl rfl rfl ?_
    refine xi_iconst (pc' := 95) rfl rfl ?_
    refine xi_iload_n (pc' := 96) rfl rfl rfl ?_
    refine xi_imul (pc' := 97) rfl rfl ?_
    refine xi_iconst (pc' := 98) rfl rfl ?_
    refine xi_iadd (pc' := 99) rfl rfl ?_
    refine xi_iload (pc' := 101) rfl rfl rfl ?_
    refine xi_isub (pc' := 102) rfl rfl ?_
    refine xi_iload_n (pc' := 103) rfl rfl rfl ?_
    refine xi_iconst (pc' := 104) rfl rfl ?_
    refine xi_icmpt (pc' := 111) rfl rfl (by decide) ?_
    refine xi_iconst (pc' := 112) rfl rfl ?_
    refine xr_zast (j := 2 * t + 1 - b) (pc' := 113) rfl rfl (by decide) (by simp only [ix_mul, ix_add]; exact pk_sub (by omega)) (by omega) (by decide) (by decide) rfl ?_
    refine xi_iload_n (pc' := 114) rfl rfl rfl ?_
    refine xi_bipush (pc' := 116) rfl (by decide) rfl ?_
    refine xi_icmpt (pc' := 139) rfl rfl (by decide) ?_
    refine xi_aload_n (pc' := 140) rfl rfl rfl ?_
    refine xi_iload_n (pc' := 141) rfl rfl rfl ?_
    refine xi_iload (pc' := 143) rfl rfl rfl ?_
    refine xx_callVi (pc' := 146) rfl rfl (by decide) rfl rfl (by show _ < 81 + 2 * _; omega) (Nat.le_of_ble_eq_true rfl) rfl rfl (r_saysStatus ht hb (c3_hw (t := t) (cd := 5) (b := b) hh (by omega)) (by omega)) ?_
    refine xi_iconst (pc' := 147) rfl rfl ?_
    refine xx_icmp (pc' := 150) (tg := 154) rfl rfl rfl (fun q147 => ?_) (fun q147 => ?_)
    · refine xi_iconst (pc' := 155) rfl rfl ?_
      refine xi_istore (pc' := 157) rfl (st1_8 rfl) rfl ?_
      refine xi_iload_n (pc' := 158) rfl rfl rfl ?_
      refine xi_bipush (pc' := 160) rfl (by decide) rfl ?_
      refine xi_icmpt (pc' := 216) rfl rfl (by decide) ?_
      refine xi_iload (pc' := 218) rfl rfl rfl ?_
      refine xx_zreturn rfl rfl (by decide) ?_
      simp only [ex_P, Classical.not_not, ↓reduceIte, Nat.add_zero, or_true, true_or, not_true_eq_false, not_false_eq_true, or_false, false_or, wI_get, false_and, true_and, and_true, and_false, and_self, Nat.reduceEqDiff, Nat.succ_ne_zero, reduceCtorEq, nI_lit, nI_lit0, Nat.reduceLT] at *
      first | (simp only [r_commands, r_c1, r_c2, r_c3, r_c4, r_c5, r_eff, *, ↓reduceIte, Nat.add_zero, or_true, true_or, not_true_eq_false, not_false_eq_true, or_false, false_or, wI_get, false_and, true_and, and_true, and_false, and_self, Nat.reduceEqDiff, Nat.succ_ne_zero, reduceCtorEq, nI_lit, nI_lit0, Nat.reduceLT]; done) | (exfalso; simp_all only [↓reduceIte, Nat.add_zero, or_true, true_or, not_true_eq_false, not_false_eq_true, or_false, false_or, wI_get, false_and, true_and, and_true, and_false, and_self, Nat.reduceEqDiff, Nat.succ_ne_zero, reduceCtorEq, nI_lit, nI_lit0, Nat.reduceLT]; done)
    · refine xi_iconst (pc' := 151) rfl rfl ?_
      refine xi_goto (pc' := 155) rfl rfl ?_
      refine xi_istore (pc' := 157) rfl (st1_8 rfl) rfl ?_
      refine xi_iload_n (pc' := 158) rfl rfl rfl ?_
      refine xi_bipush (pc' := 160) rfl (by decide) rfl ?_
      refine xi_icmpt (pc' := 216) rfl rfl (by decide) ?_
      refine xi_iload (pc' := 218) rfl rfl rfl ?_
      refine xx_zreturn rfl rfl (by decide) ?_
      simp only [ex_P, Classical.not_not, ↓reduceIte, Nat.add_zero, or_true, true_or, not_true_eq_false, not_false_eq_true, or_false, false_or, wI_get, false_and, true_and, and_true, and_false, and_self, Nat.reduceEqDiff, Nat.succ_ne_zero, reduceCtorEq, nI_lit, nI_lit0, Nat.reduceLT] at *
      first | (simp only [r_commands, r_c1, r_c2, r_c3, r_c4, r_c5, r_eff, *, ↓reduceIte, Nat.add_zero, or_true, true_or, not_true_eq_false, not_false_eq_true, or_false, false_or, wI_get, false_and, true_and, and_true, and_false, and_self, Nat.reduceEqDiff, Nat.succ_ne_zero, reduceCtorEq, nI_lit, nI_lit0, Nat.reduceLT]; done) | (exfalso; simp_all only [↓reduceIte, Nat.add_zero, or_true, true_or, not_true_eq_false, not_false_eq_true, or_false, false_or, wI_get, false_and, true_and, and_true, and_false, and_self, Nat.reduceEqDiff, Nat.succ_ne_zero, reduceCtorEq, nI_lit, nI_lit0, Nat.reduceLT]; done)
  · refine xi_iconst (pc' := 64) rfl rfl ?_
    refine xx_zreturn rfl rfl (by decide) ?_
    simp only [ex_P, Classical.not_not, ↓reduceIte, Nat.add_zero, or_true, true_or, not_true_eq_false, not_false_eq_true, or_false, false_or, wI_get, false_and, true_and, and_true, and_false, and_self, Nat.reduceEqDiff, Nat.succ_ne_zero, reduceCtorEq, nI_lit, nI_lit0, Nat.reduceLT] at *
    first | (simp only [r_commands, r_c1, r_c2, r_c3, r_c4, r_c5, r_eff, *, ↓reduceIte, Nat.add_zero, or_true, true_or, not_true_eq_false, not_false_eq_true, or_false, false_or, wI_get, false_and, true_and, and_true, and_false, and_self, Nat.reduceEqDiff, Nat.succ_ne_zero, reduceCtorEq, nI_lit, nI_lit0, Nat.reduceLT]; done) | (exfalso; simp_all only [↓reduceIte, Nat.add_zero, or_true, true_or, not_true_eq_false, not_false_eq_true, or_false, false_or, wI_get, false_and, true_and, and_true, and_false, and_self, Nat.reduceEqDiff, Nat.succ_ne_zero, reduceCtorEq, nI_lit, nI_lit0, Nat.reduceLT]; done)
theorem r_commands_8 {L : Nat} {xs : Nat → Int32} {D n : Nat} {I J : ex_Mem} {m : Int32} {t b N : Nat} (ht : t < 6) (hb : b < 2) (hh : hwB N J) (hN : N + 3 < 2 ^ 31) : ri L xs (D + 3) 109 [.ref 52, .int m, .int (nI t), .int (nI 8), .int (nI b)] (mkH n I J) ((r_commands J 0 t 8 b).1) (mkH n I (r_commands J 0 t 8 b).2) := by
  show xx cb_G _ _ _ 109 0 [.ref 52, .int m, .int (nI t), .int (nI 8), .int (nI b), ex_no, ex_no, ex_no, ex_no] [] _ _
  refine xi_iload_n (pc' := 1) rfl rfl rfl ?_
  refine xi_iconst (pc' := 2) rfl rfl ?_
  refine xi_iconst (pc' := 3) rfl rfl ?_
  refine xi_iload_n (pc' := 4) rfl rfl rfl ?_
  refine xx_callSi (pc' := 7) rfl rfl (by decide) rfl (Nat.le_of_ble_eq_true rfl) rfl rfl (r_commandM) ?_
  refine xi_istore (pc' := 9) rfl (st1_5 rfl) rfl ?_
  refine xi_aload_n (pc' := 10) rfl rfl rfl ?_
  refine xi_iload (pc' := 12) rfl rfl rfl ?_
  refine xi_iconst (pc' := 13) rfl rfl ?_
  refine xi_iload (pc' := 15) rfl rfl rfl ?_
  refine xx_callVi (pc' := 18) rfl rfl (by decide) rfl rfl (by show _ < 81 + 2 * _; omega) (Nat.le_of_ble_eq_true rfl) rfl rfl (r_put0 hb hh (by omega)) ?_
  refine xi_istore (pc' := 20) rfl (st1_6 rfl) rfl ?_
  refine xi_iload_n (pc' := 21) rfl rfl rfl ?_
  refine xi_iconst (pc' := 22) rfl rfl ?_
  refine xi_icmpf (pc' := 25) (tg := 31) rfl rfl (by decide) rfl ?_
  refine xi_iload_n (pc' := 26) rfl rfl rfl ?_
  refine xi_bipush (pc' := 28) rfl (by decide) rfl ?_
  refine xi_icmpt (pc' := 35) rfl rfl (by decide) ?_
  refine xi_iconst (pc' := 36) rfl rfl ?_
  refine xi_istore (pc' := 38) rfl (st1_7 rfl) rfl ?_
  refine xi_aload_n (pc' := 39) rfl rfl rfl ?_
  refine xi_iload_n (pc' := 40) rfl rfl rfl ?_
  refine xi_iload (pc' := 42) rfl rfl rfl ?_
  refine xi_iload (pc' := 44) rfl rfl rfl ?_
  refine xi_iload (pc' := 46) rfl rfl rfl ?_
  refine xi_iload_n (pc' := 47) rfl rfl rfl ?_
  refine xi_bipush (pc' := 49) rfl (by decide) rfl ?_
  refine xi_icmpt (pc' := 56) rfl rfl (by decide) ?_
  refine xi_iconst (pc' := 57) rfl rfl ?_
  refine xx_callVi (pc' := 60) rfl rfl (by decide) rfl rfl (by show _ < 81 + 2 * _; omega) (Nat.le_of_ble_eq_true rfl) rfl rfl (r_hears_ok ht) ?_
  refine xx_if (pc' := 63) (tg := 65) rfl rfl rfl (fun q60 => ?_) (fun q60 => ?_)
  · refine xi_iload_n (pc' := 66) rfl rfl rfl ?_
    refine xi_iconst (pc' := 67) rfl rfl ?_
    refine xi_icmpt (pc' := 80) rfl rfl (by decide) ?_
    refine xi_iload_n (pc' := 81) rfl rfl rfl ?_
    refine xi_iconst (pc' := 82) rfl rfl ?_
    refine xi_icmpf (pc' := 85) (tg := 90) rfl rfl (by decide) rfl ?_
    refine xi_iload_n (pc' := 86) rfl rfl rfl ?_
    refine xi_iconst (pc' := 87) rfl rfl ?_
    refine xi_icmpt (pc' := 113) rfl rfl (by decide) ?_
    refine xi_iload_n (pc' := 114) rfl rfl rfl ?_
    refine xi_bipush (pc' := 116) rfl (by decide) rfl ?_
    refine xi_icmpf (pc' := 119) (tg := 139) rfl rfl (by decide) rfl ?_
    refine xi_aload_n (pc' := 120) rfl rfl rfl ?_
    refine xr_getp (pc' := 123) rfl rfl (by decide) rfl rfl rfl ?_
    refine xi_iconst (pc' := 124) rfl rfl ?_
    refine xi_iload_n (pc' := 125) rfl rfl rfl ?_
    refine xi_imul (pc' := 126) rfl rfl ?_
    refine xi_iconst (pc' := 127) rfl rfl ?_
    refine xr_zast (j := (2) * (t)) (pc' := 128) rfl rfl (by decide) (by first | rfl | (simp only [ix_add, ix_mul, ix_pred]; done) | (simp only [ix_add, ix_mul, ix_pred, *]; done)) (by omega) (by decide) (by decide) rfl ?_
    refine xi_aload_n (pc' := 129) rfl rfl rfl ?_
    refine xr_getp (pc' := 132) rfl rfl (by decide) rfl rfl rfl ?_
    refine xi_iconst (pc' := 133) rfl rfl ?_
    refine xi_iload_n (pc' := 134) rfl rfl rfl ?_
    refine xi_imul (pc' := 135) rfl rfl ?_
    refine xi_iconst (pc' := 136) rfl rfl ?_
    refine xi_iadd (pc' := 137) rfl rfl ?_
    refine xi_iconst (pc' := 138) rfl rfl ?_
    refine xr_zast (j := (2) * (t) + 1) (pc' := 139) rfl rfl (by decide) (by first | rfl | (simp only [ix_add, ix_mul, ix_pred]; done) | (simp only [ix_add, ix_mul, ix_pred, *]; done)) (by omega) (by decide) (by decide) rfl ?_
    refine xi_aload_n (pc' := 140) rfl rfl rfl ?_
    refine xi_iload_n (pc' := 141) rfl rfl rfl ?_
    refine xi_iload (pc' := 143) rfl rfl rfl ?_
    refine xx_callVi (pc' := 146) rfl rfl (by decide) rfl rfl (by show _ < 81 + 2 * _; omega) (Nat.le_of_ble_eq_true rfl) rfl rfl (r_saysStatus ht hb (c3_hw (t := t) (cd := 8) (b := b) hh (by omega)) (by omega)) ?_
    refine xi_iconst (pc' := 147) rfl rfl ?_
    refine xx_icmp (pc' := 150) (tg := 154) rfl rfl rfl (fun q147 => ?_) (fun q147 => ?_)
    · refine xi_iconst (pc' := 155) rfl rfl ?_
      refine xi_istore (pc' := 157) rfl (st1_8 rfl) rfl ?_
      refine xi_iload_n (pc' := 158) rfl rfl rfl ?_
      refine xi_bipush (pc' := 160) rfl (by decide) rfl ?_
      refine xi_icmpt (pc' := 216) rfl rfl (by decide) ?_
      refine xi_iload (pc' := 218) rfl rfl rfl ?_
      refine xx_zreturn rfl rfl (by decide) ?_
      simp only [ex_P, Classical.not_not, ↓reduceIte, Nat.add_zero, or_true, true_or, not_true_eq_false, not_false_eq_true, or_false, false_or, wI_get, false_and, true_and, and_true, and_false, and_self, Nat.reduceEqDiff, Nat.succ_ne_zero, reduceCtorEq, nI_lit, nI_lit0, Nat.reduceLT] at *
      first | (simp only [r_commands, r_c1, r_c2, r_c3, r_c4, r_c5, r_eff, *, ↓reduceIte, Nat.add_zero, or_true, true_or, not_true_eq_false, not_false_eq_true, or_false, false_or, wI_get, false_and, true_and, and_true, and_false, and_self, Nat.reduceEqDiff, Nat.succ_ne_zero, reduceCtorEq, nI_lit, nI_lit0, Nat.reduceLT]; done) | (exfalso; simp_all only [↓reduceIte, Nat.add_zero, or_true, true_or, not_true_eq_false, not_false_eq_true, or_false, false_or, wI_get, false_and, true_and, and_true, and_false, and_self, Nat.reduceEqDiff, Nat.succ_ne_zero, reduceCtorEq, nI_lit, nI_lit0, Nat.reduceLT]; done)
    · refine xi_iconst (pc' := 151) rfl rfl ?_
      refine xi_goto (pc' := 155) rfl rfl ?_
      refine xi_istore (pc' := 157) rfl (st1_8 rfl) rfl ?_
      refine xi_iload_n (pc' := 158) rfl rfl rfl ?_
      refine xi_bipush (pc' := 160) rfl (by decide) rfl ?_
      refine xi_icmpt (pc' := 216) rfl rfl (by decide) ?_
      refine xi_iload (pc' := 218) rfl rfl rfl ?_
      refine xx_zreturn rfl rfl (by decide) ?_
      simp only [ex_P, Classical.not_not, ↓reduceIte, Nat.add_zero, or_true, true_or, not_true_eq_false, not_false_eq_true, or_false, false_or, wI_get, false_and, true_and, and_true, and_false, and_self, Nat.reduceEqDiff, Nat.succ_ne_zero, reduceCtorEq, nI_lit, nI_lit0, Nat.reduceLT] at *
      first | (simp only [r_commands, r_c1, r_c2, r_c3, r_c4, r_c5, r_eff, *, ↓reduceIte, Nat.add_zero, or_true, true_or, not_true_eq_false, not_false_eq_true, or_false, false_or, wI_get, false_and, true_and, and_true, and_false, and_self, Nat.reduceEqDiff, Nat.succ_ne_zero, reduceCtorEq, nI_lit, nI_lit0, Nat.reduceLT]; done) | (exfalso; simp_all only [↓reduceIte, Nat.add_zero, or_true, true_or, not_true_eq_false, not_false_eq_true, or_false, false_or, wI_get, false_and, true_and, and_true, and_false, and_self, Nat.reduceEqDiff, Nat.succ_ne_zero, reduceCtorEq, nI_lit, nI_lit0, Nat.reduceLT]; done)
  · refine xi_iconst (pc' := 64) rfl rfl ?_
    refine xx_zreturn rfl rfl (by decide) ?_
    simp only [ex_P, Classical.not_not, ↓reduceIte, Nat.add_zero, or_true, true_or, not_true_eq_false, not_false_eq_true, or_false, false_or, wI_get, false_and, true_and, and_true, and_false, and_self, Nat.reduceEqDiff, Nat.succ_ne_zero, reduceCtorEq, nI_lit, nI_lit0, Nat.reduceLT] at *
    first | (simp only [r_commands, r_c1, r_c2, r_c3, r_c4, r_c5, r_eff, *, ↓reduceIte, Nat.add_zero, or_true, true_or, not_true_eq_false, not_false_eq_true, or_false, false_or, wI_get, false_and, true_and, and_true, and_false, and_self, Nat.reduceEqDiff, Nat.succ_ne_zero, reduceCtorEq, nI_lit, nI_lit0, Nat.reduceLT]; done) | (exfalso; simp_all only [↓reduceIte, Nat.add_zero, or_true, true_or, not_true_eq_false, not_false_eq_true, or_false, false_or, wI_get, false_and, true_and, and_true, and_false, and_self, Nat.reduceEqDiff, Nat.succ_ne_zero, reduceCtorEq, nI_lit, nI_lit0, Nat.reduceLT]; done)
theorem r_commands_18 {L : Nat} {xs : Nat → Int32} {D n : Nat} {I J : ex_Mem} {m : Nat} (hm : m < 8) {t b N : Nat} (ht : t < 6) (hb : b < 2) (hh : hwB N J) (hN : N + 3 < 2 ^ 31) : ri L xs (D + 3) 109 [.ref 52, .int (nI m), .int (nI t), .int (nI 18), .int (nI b)] (mkH n I J) ((r_commands J m t 18 b).1) (mkH n I (r_commands J m t 18 b).2) := by
  show xx cb_G _ _ _ 109 0 [.ref 52, .int (nI m), .int (nI t), .int (nI 18), .int (nI b), ex_no, ex_no, ex_no, ex_no] [] _ _
  refine xi_iload_n (pc' := 1) rfl rfl rfl ?_
  refine xi_iconst (pc' := 2) rfl rfl ?_
  refine xi_iconst (pc' := 3) rfl rfl ?_
  refine xi_iload_n (pc' := 4) rfl rfl rfl ?_
  refine xx_callSi (pc' := 7) rfl rfl (by decide) rfl (Nat.le_of_ble_eq_true rfl) rfl rfl (r_commandM) ?_
  refine xi_istore (pc' := 9) rfl (st1_5 rfl) rfl ?_
  refine xi_aload_n (pc' := 10) rfl rfl rfl ?_
  refine xi_iload (pc' := 12) rfl rfl rfl ?_
  refine xi_iconst (pc' := 13) rfl rfl ?_
  refine xi_iload (pc' := 15) rfl rfl rfl ?_
  refine xx_callVi (pc' := 18) rfl rfl (by decide) rfl rfl (by show _ < 81 + 2 * _; omega) (Nat.le_of_ble_eq_true rfl) rfl rfl (r_put0 hb hh (by omega)) ?_
  refine xi_istore (pc' := 20) rfl (st1_6 rfl) rfl ?_
  refine xi_iload_n (pc' := 21) rfl rfl rfl ?_
  refine xi_iconst (pc' := 22) rfl rfl ?_
  refine xi_icmpf (pc' := 25) (tg := 31) rfl rfl (by decide) rfl ?_
  refine xi_iload_n (pc' := 26) rfl rfl rfl ?_
  refine xi_bipush (pc' := 28) rfl (by decide) rfl ?_
  refine xi_icmpf (pc' := 31) (tg := 35) rfl rfl (by decide) rfl ?_
  refine xi_iconst (pc' := 32) rfl rfl ?_
  refine xi_goto (pc' := 36) rfl rfl ?_
  refine xi_istore (pc' := 38) rfl (st1_7 rfl) rfl ?_
  refine xi_aload_n (pc' := 39) rfl rfl rfl ?_
  refine xi_iload_n (pc' := 40) rfl rfl rfl ?_
  refine xi_iload (pc' := 42) rfl rfl rfl ?_
  refine xi_iload (pc' := 44) rfl rfl rfl ?_
  refine xi_iload (pc' := 46) rfl rfl rfl ?_
  refine xi_iload_n (pc' := 47) rfl rfl rfl ?_
  refine xi_bipush (pc' := 49) rfl (by decide) rfl ?_
  refine xi_icmpf (pc' := 52) (tg := 56) rfl rfl (by decide) rfl ?_
  refine xi_iconst (pc' := 53) rfl rfl ?_
  refine xi_goto (pc' := 57) rfl rfl ?_
  refine xx_callVi (pc' := 60) rfl rfl (by decide) rfl rfl (by show _ < 81 + 2 * _; omega) (Nat.le_of_ble_eq_true rfl) rfl rfl (r_hears_ok ht) ?_
  refine xx_if (pc' := 63) (tg := 65) rfl rfl rfl (fun q60 => ?_) (fun q60 => ?_)
  · refine xi_iload_n (pc' := 66) rfl rfl rfl ?_
    refine xi_iconst (pc' := 67) rfl rfl ?_
    refine xi_icmpt (pc' := 80) rfl rfl (by decide) ?_
    refine xi_iload_n (pc' := 81) rfl rfl rfl ?_
    refine xi_iconst (pc' := 82) rfl rfl ?_
    refine xi_icmpf (pc' := 85) (tg := 90) rfl rfl (by decide) rfl ?_
    refine xi_iload_n (pc' := 86) rfl rfl rfl ?_
    refine xi_iconst (pc' := 87) rfl rfl ?_
    refine xi_icmpt (pc' := 113) rfl rfl (by decide) ?_
    refine xi_iload_n (pc' := 114) rfl rfl rfl ?_
    refine xi_bipush (pc' := 116) rfl (by decide) rfl ?_
    refine xi_icmpt (pc' := 139) rfl rfl (by decide) ?_
    refine xi_aload_n (pc' := 140) rfl rfl rfl ?_
    refine xi_iload_n (pc' := 141) rfl rfl rfl ?_
    refine xi_iload (pc' := 143) rfl rfl rfl ?_
    refine xx_callVi (pc' := 146) rfl rfl (by decide) rfl rfl (by show _ < 81 + 2 * _; omega) (Nat.le_of_ble_eq_true rfl) rfl rfl (r_saysStatus ht hb (c3_hw (t := t) (cd := 18) (b := b) hh (by omega)) (by omega)) ?_
    refine xi_iconst (pc' := 147) rfl rfl ?_
    refine xx_icmp (pc' := 150) (tg := 154) rfl rfl rfl (fun q147 => ?_) (fun q147 => ?_)
    · refine xi_iconst (pc' := 155) rfl rfl ?_
      refine xi_istore (pc' := 157) rfl (st1_8 rfl) rfl ?_
      refine xi_iload_n (pc' := 158) rfl rfl rfl ?_
      refine xi_bipush (pc' := 160) rfl (by decide) rfl ?_
      refine xi_icmpf (pc' := 163) (tg := 216) rfl rfl (by decide) rfl ?_
      refine xi_aload_n (pc' := 164) rfl rfl rfl ?_
      refine xi_iload_n (pc' := 165) rfl rfl rfl ?_
      refine xi_iload (pc' := 167) rfl rfl rfl ?_
      refine xi_iconst (pc' := 168) rfl rfl ?_
      refine xi_aload_n (pc' := 169) rfl rfl rfl ?_
      refine xr_getp (pc' := 172) rfl rfl (by decide) rfl rfl rfl ?_
      refine xi_iload_n (pc' := 173) rfl rfl rfl ?_
      refine xr_iald (j := t) (pc' := 174) rfl rfl (by decide) (by first | rfl | (simp only [ix_add, ix_mul, ix_pred]; done) | (simp only [ix_add, ix_mul, ix_pred, *]; done)) (by omega) (by decide) rfl ?_
      refine xx_callVi (pc' := 177) rfl rfl (by decide) rfl rfl (by show _ < 81 + 2 * _; omega) (Nat.le_of_ble_eq_true rfl) rfl rfl (r_says1 ht hb (c4_hw (t := t) (cd := 18) (b := b) hh (by omega)) (by omega)) ?_
      refine xi_iconst (pc' := 178) rfl rfl ?_
      refine xx_icmp (pc' := 181) (tg := 190) rfl rfl rfl (fun q178 => ?_) (fun q178 => ?_)
      · refine xi_iconst (pc' := 191) rfl rfl ?_
        refine xi_istore (pc' := 193) rfl (st1_8 rfl) rfl ?_
        refine xi_iload (pc' := 195) rfl rfl rfl ?_
        refine xi_ift (pc' := 216) rfl rfl (by decide) ?_
        refine xi_iload (pc' := 218) rfl rfl rfl ?_
        refine xx_zreturn rfl rfl (by decide) ?_
        simp only [ex_P, Classical.not_not, ↓reduceIte, Nat.add_zero, or_true, true_or, not_true_eq_false, not_false_eq_true, or_false, false_or, wI_get, false_and, true_and, and_true, and_false, and_self, Nat.reduceEqDiff, Nat.succ_ne_zero, reduceCtorEq, nI_lit, nI_lit0, Nat.reduceLT] at *
        first | (simp only [r_commands, r_c1, r_c2, r_c3, r_c4, r_c5, r_eff, *, ↓reduceIte, Nat.add_zero, or_true, true_or, not_true_eq_false, not_false_eq_true, or_false, false_or, wI_get, false_and, true_and, and_true, and_false, and_self, Nat.reduceEqDiff, Nat.succ_ne_zero, reduceCtorEq, nI_lit, nI_lit0, Nat.reduceLT]; done) | (exfalso; simp_all only [↓reduceIte, Nat.add_zero, or_true, true_or, not_true_eq_false, not_false_eq_true, or_false, false_or, wI_get, false_and, true_and, and_true, and_false, and_self, Nat.reduceEqDiff, Nat.succ_ne_zero, reduceCtorEq, nI_lit, nI_lit0, Nat.reduceLT]; done)
      · refine xi_iload (pc' := 183) rfl rfl rfl ?_
        refine xi_ift (pc' := 190) rfl rfl (by decide) ?_
        refine xi_iconst (pc' := 191) rfl rfl ?_
        refine xi_istore (pc' := 193) rfl (st1_8 rfl) rfl ?_
        refine xi_iload (pc' := 195) rfl rfl rfl ?_
        refine xi_ift (pc' := 216) rfl rfl (by decide) ?_
        refine xi_iload (pc' := 218) rfl rfl rfl ?_
        refine xx_zreturn rfl rfl (by decide) ?_
        simp only [ex_P, Classical.not_not, ↓reduceIte, Nat.add_zero, or_true, true_or, not_true_eq_false, not_false_eq_true, or_false, false_or, wI_get, false_and, true_and, and_true, and_false, and_self, Nat.reduceEqDiff, Nat.succ_ne_zero, reduceCtorEq, nI_lit, nI_lit0, Nat.reduceLT] at *
        first | (simp only [r_commands, r_c1, r_c2, r_c3, r_c4, r_c5, r_eff, *, ↓reduceIte, Nat.add_zero, or_true, true_or, not_true_eq_false, not_false_eq_true, or_false, false_or, wI_get, false_and, true_and, and_true, and_false, and_self, Nat.reduceEqDiff, Nat.succ_ne_zero, reduceCtorEq, nI_lit, nI_lit0, Nat.reduceLT]; done) | (exfalso; simp_all only [↓reduceIte, Nat.add_zero, or_true, true_or, not_true_eq_false, not_false_eq_true, or_false, false_or, wI_get, false_and, true_and, and_true, and_false, and_self, Nat.reduceEqDiff, Nat.succ_ne_zero, reduceCtorEq, nI_lit, nI_lit0, Nat.reduceLT]; done)
    · refine xi_iconst (pc' := 151) rfl rfl ?_
      refine xi_goto (pc' := 155) rfl rfl ?_
      refine xi_istore (pc' := 157) rfl (st1_8 rfl) rfl ?_
      refine xi_iload_n (pc' := 158) rfl rfl rfl ?_
      refine xi_bipush (pc' := 160) rfl (by decide) rfl ?_
      refine xi_icmpf (pc' := 163) (tg := 216) rfl rfl (by decide) rfl ?_
      refine xi_aload_n (pc' := 164) rfl rfl rfl ?_
      refine xi_iload_n (pc' := 165) rfl rfl rfl ?_
      refine xi_iload (pc' := 167) rfl rfl rfl ?_
      refine xi_iconst (pc' := 168) rfl rfl ?_
      refine xi_aload_n (pc' := 169) rfl rfl rfl ?_
      refine xr_getp (pc' := 172) rfl rfl (by decide) rfl rfl rfl ?_
      refine xi_iload_n (pc' := 173) rfl rfl rfl ?_
      refine xr_iald (j := t) (pc' := 174) rfl rfl (by decide) (by first | rfl | (simp only [ix_add, ix_mul, ix_pred]; done) | (simp only [ix_add, ix_mul, ix_pred, *]; done)) (by omega) (by decide) rfl ?_
      refine xx_callVi (pc' := 177) rfl rfl (by decide) rfl rfl (by show _ < 81 + 2 * _; omega) (Nat.le_of_ble_eq_true rfl) rfl rfl (r_says1 ht hb (c4_hw (t := t) (cd := 18) (b := b) hh (by omega)) (by omega)) ?_
      refine xi_iconst (pc' := 178) rfl rfl ?_
      refine xx_icmp (pc' := 181) (tg := 190) rfl rfl rfl (fun q178 => ?_) (fun q178 => ?_)
      · refine xi_iconst (pc' := 191) rfl rfl ?_
        refine xi_istore (pc' := 193) rfl (st1_8 rfl) rfl ?_
        refine xi_iload (pc' := 195) rfl rfl rfl ?_
        refine xi_ift (pc' := 216) rfl rfl (by decide) ?_
        refine xi_iload (pc' := 218) rfl rfl rfl ?_
        refine xx_zreturn rfl rfl (by decide) ?_
        simp only [ex_P, Classical.not_not, ↓reduceIte, Nat.add_zero, or_true, true_or, not_true_eq_false, not_false_eq_true, or_false, false_or, wI_get, false_and, true_and, and_true, and_false, and_self, Nat.reduceEqDiff, Nat.succ_ne_zero, reduceCtorEq, nI_lit, nI_lit0, Nat.reduceLT] at *
        first | (simp only [r_commands, r_c1, r_c2, r_c3, r_c4, r_c5, r_eff, *, ↓reduceIte, Nat.add_zero, or_true, true_or, not_true_eq_false, not_false_eq_true, or_false, false_or, wI_get, false_and, true_and, and_true, and_false, and_self, Nat.reduceEqDiff, Nat.succ_ne_zero, reduceCtorEq, nI_lit, nI_lit0, Nat.reduceLT]; done) | (exfalso; simp_all only [↓reduceIte, Nat.add_zero, or_true, true_or, not_true_eq_false, not_false_eq_true, or_false, false_or, wI_get, false_and, true_and, and_true, and_false, and_self, Nat.reduceEqDiff, Nat.succ_ne_zero, reduceCtorEq, nI_lit, nI_lit0, Nat.reduceLT]; done)
      · refine xi_iload (pc' := 183) rfl rfl rfl ?_
        refine xi_iff (pc' := 186) (tg := 190) rfl rfl (by decide) rfl ?_
        refine xi_iconst (pc' := 187) rfl rfl ?_
        refine xi_goto (pc' := 191) rfl rfl ?_
        refine xi_istore (pc' := 193) rfl (st1_8 rfl) rfl ?_
        refine xi_iload (pc' := 195) rfl rfl rfl ?_
        refine xi_iff (pc' := 198) (tg := 216) rfl rfl (by decide) rfl ?_
        refine xi_iload_n (pc' := 199) rfl rfl rfl ?_
        refine xx_if (pc' := 202) (tg := 216) rfl rfl rfl (fun q199 => absurd q199 (show ¬ ex_P .lt (nI m) 0 from nI_pos (by omega))) (fun q199 => ?_)
        refine xi_aload_n (pc' := 203) rfl rfl rfl ?_
        refine xr_getp (pc' := 206) rfl rfl (by decide) rfl rfl rfl ?_
        refine xi_iconst (pc' := 207) rfl rfl ?_
        refine xi_iload_n (pc' := 208) rfl rfl rfl ?_
        refine xi_imul (pc' := 209) rfl rfl ?_
        refine xi_aload_n (pc' := 210) rfl rfl rfl ?_
        refine xr_getp (pc' := 213) rfl rfl (by decide) rfl rfl rfl ?_
        refine xi_iload_n (pc' := 214) rfl rfl rfl ?_
        refine xr_iald (j := t) (pc' := 215) rfl rfl (by decide) (by first | rfl | (simp only [ix_add, ix_mul, ix_pred]; done) | (simp only [ix_add, ix_mul, ix_pred, *]; done)) (by omega) (by decide) rfl ?_
        refine xr_iast (j := (4) * (m)) (pc' := 216) rfl rfl (by decide) (by first | rfl | (simp only [ix_add, ix_mul, ix_pred]; done) | (simp only [ix_add, ix_mul, ix_pred, *]; done)) (by omega) (by decide) rfl ?_
        refine xi_iload (pc' := 218) rfl rfl rfl ?_
        refine xx_zreturn rfl rfl (by decide) ?_
        simp only [ex_P, Classical.not_not, ↓reduceIte, Nat.add_zero, or_true, true_or, not_true_eq_false, not_false_eq_true, or_false, false_or, wI_get, false_and, true_and, and_true, and_false, and_self, Nat.reduceEqDiff, Nat.succ_ne_zero, reduceCtorEq, nI_lit, nI_lit0, Nat.reduceLT] at *
        first | (simp only [r_commands, r_c1, r_c2, r_c3, r_c4, r_c5, r_eff, *, ↓reduceIte, Nat.add_zero, or_true, true_or, not_true_eq_false, not_false_eq_true, or_false, false_or, wI_get, false_and, true_and, and_true, and_false, and_self, Nat.reduceEqDiff, Nat.succ_ne_zero, reduceCtorEq, nI_lit, nI_lit0, Nat.reduceLT]; done) | (exfalso; simp_all only [↓reduceIte, Nat.add_zero, or_true, true_or, not_true_eq_false, not_false_eq_true, or_false, false_or, wI_get, false_and, true_and, and_true, and_false, and_self, Nat.reduceEqDiff, Nat.succ_ne_zero, reduceCtorEq, nI_lit, nI_lit0, Nat.reduceLT]; done)
  · refine xi_iconst (pc' := 64) rfl rfl ?_
    refine xx_zreturn rfl rfl (by decide) ?_
    simp only [ex_P, Classical.not_not, ↓reduceIte, Nat.add_zero, or_true, true_or, not_true_eq_false, not_false_eq_true, or_false, false_or, wI_get, false_and, true_and, and_true, and_false, and_self, Nat.reduceEqDiff, Nat.succ_ne_zero, reduceCtorEq, nI_lit, nI_lit0, Nat.reduceLT] at *
    first | (simp only [r_commands, r_c1, r_c2, r_c3, r_c4, r_c5, r_eff, *, ↓reduceIte, Nat.add_zero, or_true, true_or, not_true_eq_false, not_false_eq_true, or_false, false_or, wI_get, false_and, true_and, and_true, and_false, and_self, Nat.reduceEqDiff, Nat.succ_ne_zero, reduceCtorEq, nI_lit, nI_lit0, Nat.reduceLT]; done) | (exfalso; simp_all only [↓reduceIte, Nat.add_zero, or_true, true_or, not_true_eq_false, not_false_eq_true, or_false, false_or, wI_get, false_and, true_and, and_true, and_false, and_self, Nat.reduceEqDiff, Nat.succ_ne_zero, reduceCtorEq, nI_lit, nI_lit0, Nat.reduceLT]; done)
