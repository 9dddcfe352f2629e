def r_f (J : ex_Mem) (nn k : Nat) : Int32 := if k < nn then J 79 k else nI 0
def r_fill (J : ex_Mem) (p nn : Nat) : ex_Mem := ex_wI (ex_wI (ex_wI (ex_wI J 60 p (r_f J nn 0)) 60 (p + 1) (r_f J nn 1)) 60 (p + 2) (r_f J nn 2)) 60 (p + 3) (r_f J nn 3)
def r_takes (J : ex_Mem) (t s nn : Nat) (fa : Int32) : Int32 × ex_Mem :=
  if nI nn ≤ J 52 32 then (nI 1, ex_wI (ex_wI (r_fill J (12 * t + 4 * s) nn) 61 (3 * t + s) (nI 1)) 63 t fa) else (nI 0, ex_wI J 62 t (nI 1))
theorem r_takes_1 {L : Nat} {xs : Nat → Int32} {D n : Nat} {I J : ex_Mem} {t s : Nat} {fa : Int32} (ht : t < 6) (hs : s < 3) (hfa : ex_b01 fa = true) : ri L xs (D + 1) 121 [.ref 52, .int (nI t), .int (nI (s + 1)), .int (nI 1), .int fa] (mkH n I J) ((r_takes J t s 1 fa).1) (mkH n I (r_takes J t s 1 fa).2) := by
  show xx cb_G _ _ _ 121 0 [.ref 52, .int (nI t), .int (nI (s + 1)), .int (nI 1), .int fa, ex_no, ex_no] [] _ _
  refine xi_aload_n (pc' := 1) rfl rfl rfl ?_
  refine xr_geti (pc' := 4) rfl rfl (by decide) (by decide) rfl ?_
  refine xi_iload_n (pc' := 5) rfl rfl rfl ?_
  refine xx_icmp (pc' := 8) (tg := 17) rfl rfl rfl (fun q5 => ?_) (fun q5 => ?_)
  · refine xi_iload_n (pc' := 18) rfl rfl rfl ?_
    refine xi_iload_n (pc' := 19) rfl rfl rfl ?_
    refine xx_callSi (pc' := 22) rfl rfl (by decide) rfl (Nat.le_of_ble_eq_true rfl) rfl rfl (r_place t s) ?_
    refine xi_istore (pc' := 24) rfl (st1_5 rfl) rfl ?_
    refine xi_iconst (pc' := 25) rfl rfl ?_
    refine xi_istore (pc' := 27) rfl (st1_6 rfl) rfl ?_
    refine xi_iload (pc' := 29) rfl rfl rfl ?_
    refine xi_iconst (pc' := 30) rfl rfl ?_
    refine xi_icmpf (pc' := 33) (tg := 66) rfl rfl (by decide) rfl ?_
    refine xi_aload_n (pc' := 34) rfl rfl rfl ?_
    refine xr_getp (pc' := 37) rfl rfl (by decide) rfl rfl rfl ?_
    refine xi_iload (pc' := 39) rfl rfl rfl ?_
    refine xi_iload (pc' := 41) rfl rfl rfl ?_
    refine xi_iadd (pc' := 42) rfl rfl ?_
    refine xi_iload (pc' := 44) rfl rfl rfl ?_
    refine xi_iload_n (pc' := 45) rfl rfl rfl ?_
    refine xi_icmpf (pc' := 48) (tg := 58) rfl rfl (by decide) rfl ?_
    refine xi_aload_n (pc' := 49) rfl rfl rfl ?_
    refine xr_getp (pc' := 52) rfl rfl (by decide) rfl rfl rfl ?_
    refine xi_iload (pc' := 54) rfl rfl rfl ?_
    refine xr_iald (j := 0) (pc' := 55) rfl rfl (by decide) (by first | rfl | (simp only [ix_add, ix_mul, ix_pred]; done) | (simp only [ix_add, ix_mul, ix_pred, *]; done)) (by omega) (by decide) rfl ?_
    refine xi_goto (pc' := 59) rfl rfl ?_
    refine xr_iast (j := 12 * t + 4 * s + 0) (pc' := 60) rfl rfl (by decide) (by first | rfl | (simp only [ix_add, ix_mul, ix_pred]; done) | (simp only [ix_add, ix_mul, ix_pred, *]; done)) (by omega) (by decide) rfl ?_
    refine xi_iincv (y := nI 1) (pc' := 63) rfl rfl (by decide) (st1_6 rfl) rfl ?_
    refine xi_goto (pc' := 27) rfl rfl ?_
    refine xi_iload (pc' := 29) rfl rfl rfl ?_
    refine xi_iconst (pc' := 30) rfl rfl ?_
    refine xi_icmpf (pc' := 33) (tg := 66) rfl rfl (by decide) rfl ?_
    refine xi_aload_n (pc' := 34) rfl rfl rfl ?_
    refine xr_getp (pc' := 37) rfl rfl (by decide) rfl rfl rfl ?_
    refine xi_iload (pc' := 39) rfl rfl rfl ?_
    refine xi_iload (pc' := 41) rfl rfl rfl ?_
    refine xi_iadd (pc' := 42) rfl rfl ?_
    refine xi_iload (pc' := 44) rfl rfl rfl ?_
    refine xi_iload_n (pc' := 45) rfl rfl rfl ?_
    refine xi_icmpt (pc' := 58) rfl rfl (by decide) ?_
    refine xi_iconst (pc' := 59) rfl rfl ?_
    refine xr_iast (j := 12 * t + 4 * s + 1) (pc' := 60) rfl rfl (by decide) (by first | rfl | (simp only [ix_add, ix_mul, ix_pred]; done) | (simp only [ix_add, ix_mul, ix_pred, *]; done)) (by omega) (by decide) rfl ?_
    refine xi_iincv (y := nI 2) (pc' := 63) rfl rfl (by decide) (st1_6 rfl) rfl ?_
    refine xi_goto (pc' := 27) rfl rfl ?_
    refine xi_iload (pc' := 29) rfl rfl rfl ?_
    refine xi_iconst (pc' := 30) rfl rfl ?_
    refine xi_icmpf (pc' := 33) (tg := 66) rfl rfl (by decide) rfl ?_
    refine xi_aload_n (pc' := 34) rfl rfl rfl ?_
    refine xr_getp (pc' := 37) rfl rfl (by decide) rfl rfl rfl ?_
    refine xi_iload (pc' := 39) rfl rfl rfl ?_
    refine xi_iload (pc' := 41) rfl rfl rfl ?_
    refine xi_iadd (pc' := 42) rfl rfl ?_
    refine xi_iload (pc' := 44) rfl rfl rfl ?_
    refine xi_iload_n (pc' := 45) rfl rfl rfl ?_
    refine xi_icmpt (pc' := 58) rfl rfl (by decide) ?_
    refine xi_iconst (pc' := 59) rfl rfl ?_
    refine xr_iast (j := 12 * t + 4 * s + 2) (pc' := 60) rfl rfl (by decide) (by first | rfl | (simp only [ix_add, ix_mul, ix_pred]; done) | (simp only [ix_add, ix_mul, ix_pred, *]; done)) (by omega) (by decide) rfl ?_
    refine xi_iincv (y := nI 3) (pc' := 63) rfl rfl (by decide) (st1_6 rfl) rfl ?_
    refine xi_goto (pc' := 27) rfl rfl ?_
    refine xi_iload (pc' := 29) rfl rfl rfl ?_
    refine xi_iconst (pc' := 30) rfl rfl ?_
    refine xi_icmpf (pc' := 33) (tg := 66) rfl rfl (by decide) rfl ?_
    refine xi_aload_n (pc' := 34) rfl rfl rfl ?_
    refine xr_getp (pc' := 37) rfl rfl (by decide) rfl rfl rfl ?_
    refine xi_iload (pc' := 39) rfl rfl rfl ?_
    refine xi_iload (pc' := 41) rfl rfl rfl ?_
    refine xi_iadd (pc' := 42) rfl rfl ?_
    refine xi_iload (pc' := 44) rfl rfl rfl ?_
    refine xi_iload_n (pc' := 45) rfl rfl rfl ?_
    refine xi_icmpt (pc' := 58) rfl rfl (by decide) ?_
    refine xi_iconst (pc' := 59) rfl rfl ?_
    refine xr_iast (j := 12 * t + 4 * s + 3) (pc' := 60) rfl rfl (by decide) (by first | rfl | (simp only [ix_add, ix_mul, ix_pred]; done) | (simp only [ix_add, ix_mul, ix_pred, *]; done)) (by omega) (by decide) rfl ?_
    refine xi_iincv (y := nI 4) (pc' := 63) rfl rfl (by decide) (st1_6 rfl) rfl ?_
    refine xi_goto (pc' := 27) rfl rfl ?_
    refine xi_iload (pc' := 29) rfl rfl rfl ?_
    refine xi_iconst (pc' := 30) rfl rfl ?_
    refine xi_icmpt (pc' := 66) rfl rfl (by decide) ?_
    refine xi_aload_n (pc' := 67) rfl rfl rfl ?_
    refine xr_getp (pc' := 70) rfl rfl (by decide) rfl rfl rfl ?_
    refine xi_iconst (pc' := 71) rfl rfl ?_
    refine xi_iload_n (pc' := 72) rfl rfl rfl ?_
    refine xi_imul (pc' := 73) rfl rfl ?_
    refine xi_iload_n (pc' := 74) rfl rfl rfl ?_
    refine xi_iadd (pc' := 75) rfl rfl ?_
    refine xi_iconst (pc' := 76) rfl rfl ?_
    refine xi_isub (pc' := 77) rfl rfl ?_
    refine xi_iconst (pc' := 78) rfl rfl ?_
    refine xr_zast (j := 3 * t + s) (pc' := 79) rfl rfl (by decide) (by simp only [ix_mul, ix_add]; exact ix_pred (3 * t + s)) (by omega) (by decide) (by decide) rfl ?_
    refine xi_aload_n (pc' := 80) rfl rfl rfl ?_
    refine xr_getp (pc' := 83) rfl rfl (by decide) rfl rfl rfl ?_
    refine xi_iload_n (pc' := 84) rfl rfl rfl ?_
    refine xi_iload (pc' := 86) rfl rfl rfl ?_
    refine xr_zast (j := t) (pc' := 87) rfl rfl (by decide) (by first | rfl | (simp only [ix_add, ix_mul, ix_pred]; done) | (simp only [ix_add, ix_mul, ix_pred, *]; done)) (by omega) (by decide) (hfa) rfl ?_
    refine xi_iconst (pc' := 88) rfl rfl ?_
    refine xx_zreturn rfl rfl (by first | rfl | assumption | exact b01_bI | simp [ex_b01, bI]) ?_
    simp only [ex_P, Classical.not_not, ↓reduceIte, Nat.add_zero, or_true, true_or, not_true_eq_false, not_false_eq_true, or_false, false_or, wI_get, false_and, true_and, and_true, and_false, and_self, Nat.reduceEqDiff, Nat.succ_ne_zero, reduceCtorEq, nI_lit, nI_lit0, Nat.reduceLT] at *
    first | (simp only [r_takes, r_fill, r_f, Nat.reduceAdd, *, ↓reduceIte, Nat.add_zero, or_true, true_or, not_true_eq_false, not_false_eq_true, or_false, false_or, wI_get, false_and, true_and, and_true, and_false, and_self, Nat.reduceEqDiff, Nat.succ_ne_zero, reduceCtorEq, nI_lit, nI_lit0, Nat.reduceLT]; done) | (exfalso; simp_all only [↓reduceIte, Nat.add_zero, or_true, true_or, not_true_eq_false, not_false_eq_true, or_false, false_or, wI_get, false_and, true_and, and_true, and_false, and_self, Nat.reduceEqDiff, Nat.succ_ne_zero, reduceCtorEq, nI_lit, nI_lit0, Nat.reduceLT]; done)
  · refine xi_aload_n (pc' := 9) rfl rfl rfl ?_
    refine xr_getp (pc' := 12) rfl rfl (by decide) rfl rfl rfl ?_
    refine xi_iload_n (pc' := 13) rfl rfl rfl ?_
    refine xi_iconst (pc' := 14) rfl rfl ?_
    refine xr_zast (j := t) (pc' := 15) rfl rfl (by decide) (by first | rfl | (simp only [ix_add, ix_mul, ix_pred]; done) | (simp only [ix_add, ix_mul, ix_pred, *]; done)) (by omega) (by decide) (by decide) rfl ?_
    refine xi_iconst (pc' := 16) rfl rfl ?_
    refine xx_zreturn rfl rfl (by first | rfl | assumption | exact b01_bI | simp [ex_b01, bI]) ?_
    simp only [ex_P, Classical.not_not, ↓reduceIte, Nat.add_zero, or_true, true_or, not_true_eq_false, not_false_eq_true, or_false, false_or, wI_get, false_and, true_and, and_true, and_false, and_self, Nat.reduceEqDiff, Nat.succ_ne_zero, reduceCtorEq, nI_lit, nI_lit0, Nat.reduceLT] at *
    first | (simp only [r_takes, r_fill, r_f, Nat.reduceAdd, *, ↓reduceIte, Nat.add_zero, or_true, true_or, not_true_eq_false, not_false_eq_true, or_false, false_or, wI_get, false_and, true_and, and_true, and_false, and_self, Nat.reduceEqDiff, Nat.succ_ne_zero, reduceCtorEq, nI_lit, nI_lit0, Nat.reduceLT]; done) | (exfalso; simp_all only [↓reduceIte, Nat.add_zero, or_true, true_or, not_true_eq_false, not_false_eq_true, or_false, false_or, wI_get, false_and, true_and, and_true, and_false, and_self, Nat.reduceEqDiff, Nat.succ_ne_zero, reduceCtorEq, nI_lit, nI_lit0, Nat.reduceLT]; done)
theorem r_takes_2 {L : Nat} {xs : Nat → Int32} {D n : Nat} {I J : ex_Mem} {t s : Nat} {fa : Int32} (ht : t < 6) (hs : s < 3) (hfa : ex_b01 fa = true) : ri L xs (D + 1) 121 [.ref 52, .int (nI t), .int (nI (s + 1)), .int (nI 2), .int fa] (mkH n I J) ((r_takes J t s 2 fa).1) (mkH n I (r_takes J t s 2 fa).2) := by
  show xx cb_G _ _ _ 121 0 [.ref 52, .int (nI t), .int (nI (s + 1)), .int (nI 2), .int fa, ex_no, ex_no] [] _ _
  refine xi_aload_n (pc' := 1) rfl rfl rfl ?_
  refine xr_geti (pc' := 4) rfl rfl (by decide) (by decide) rfl ?_
  refine xi_iload_n (pc' := 5) rfl rfl rfl ?_
  refine xx_icmp (pc' := 8) (tg := 17) rfl rfl rfl (fun q5 => ?_) (fun q5 => ?_)
  · refine xi_iload_n (pc' := 18) rfl rfl rfl ?_
    refine xi_iload_n (pc' := 19) rfl rfl rfl ?_
    refine xx_callSi (pc' := 22) rfl rfl (by decide) rfl (Nat.le_of_ble_eq_true rfl) rfl rfl (r_place t s) ?_
    refine xi_istore (pc' := 24) rfl (st1_5 rfl) rfl ?_
    refine xi_iconst (pc' := 25) rfl rfl ?_
    refine xi_istore (pc' := 27) rfl (st1_6 rfl) rfl ?_
    refine xi_iload (pc' := 29) rfl rfl rfl ?_
    refine xi_iconst (pc' := 30) rfl rfl ?_
    refine xi_icmpf (pc' := 33) (tg := 66) rfl rfl (by decide) rfl ?_
    refine xi_aload_n (pc' := 34) rfl rfl rfl ?_
    refine xr_getp (pc' := 37) rfl rfl (by decide) rfl rfl rfl ?_
    refine xi_iload (pc' := 39) rfl rfl rfl ?_
    refine xi_iload (pc' := 41) rfl rfl rfl ?_
    refine xi_iadd (pc' := 42) rfl rfl ?_
    refine xi_iload (pc' := 44) rfl rfl rfl ?_
    refine xi_iload_n (pc' := 45) rfl rfl rfl ?_
    refine xi_icmpf (pc' := 48) (tg := 58) rfl rfl (by decide) rfl ?_
    refine xi_aload_n (pc' := 49) rfl rfl rfl ?_
    refine xr_getp (pc' := 52) rfl rfl (by decide) rfl rfl rfl ?_
    refine xi_iload (pc' := 54) rfl rfl rfl ?_
    refine xr_iald (j := 0) (pc' := 55) rfl rfl (by decide) (by first | rfl | (simp only [ix_add, ix_mul, ix_pred]; done) | (simp only [ix_add, ix_mul, ix_pred, *]; done)) (by omega) (by decide) rfl ?_
    refine xi_goto (pc' := 59) rfl rfl ?_
    refine xr_iast (j := 12 * t + 4 * s + 0) (pc' := 60) rfl rfl (by decide) (by first | rfl | (simp only [ix_add, ix_mul, ix_pred]; done) | (simp only [ix_add, ix_mul, ix_pred, *]; done)) (by omega) (by decide) rfl ?_
    refine xi_iincv (y := nI 1) (pc' := 63) rfl rfl (by decide) (st1_6 rfl) rfl ?_
    refine xi_goto (pc' := 27) rfl rfl ?_
    refine xi_iload (pc' := 29) rfl rfl rfl ?_
    refine xi_iconst (pc' := 30) rfl rfl ?_
    refine xi_icmpf (pc' := 33) (tg := 66) rfl rfl (by decide) rfl ?_
    refine xi_aload_n (pc' := 34) rfl rfl rfl ?_
    refine xr_getp (pc' := 37) rfl rfl (by decide) rfl rfl rfl ?_
    refine xi_iload (pc' := 39) rfl rfl rfl ?_
    refine xi_iload (pc' := 41) rfl rfl rfl ?_
    refine xi_iadd (pc' := 42) rfl rfl ?_
    refine xi_iload (pc' := 44) rfl rfl rfl ?_
    refine xi_iload_n (pc' := 45) rfl rfl rfl ?_
    refine xi_icmpf (pc' := 48) (tg := 58) rfl rfl (by decide) rfl ?_
    refine xi_aload_n (pc' := 49) rfl rfl rfl ?_
    refine xr_getp (pc' := 52) rfl rfl (by decide) rfl rfl rfl ?_
    refine xi_iload (pc' := 54) rfl rfl rfl ?_
    refine xr_iald (j := 1) (pc' := 55) rfl rfl (by decide) (by first | rfl | (simp only [ix_add, ix_mul, ix_pred]; done) | (simp only [ix_add, ix_mul, ix_pred, *]; done)) (by omega) (by decide) rfl ?_
    refine xi_goto (pc' := 59) rfl rfl ?_
    refine xr_iast (j := 12 * t + 4 * s + 1) (pc' := 60) rfl rfl (by decide) (by first | rfl | (simp only [ix_add, ix_mul, ix_pred]; done) | (simp only [ix_add, ix_mul, ix_pred, *]; done)) (by omega) (by decide) rfl ?_
    refine xi_iincv (y := nI 2) (pc' := 63) rfl rfl (by decide) (st1_6 rfl) rfl ?_
    refine xi_goto (pc' := 27) rfl rfl ?_
    refine xi_iload (pc' := 29) rfl rfl rfl ?_
    refine xi_iconst (pc' := 30) rfl rfl ?_
    refine xi_icmpf (pc' := 33) (tg := 66) rfl rfl (by decide) rfl ?_
    refine xi_aload_n (pc' := 34) rfl rfl rfl ?_
    refine xr_getp (pc' := 37) rfl rfl (by decide) rfl rfl rfl ?_
    refine xi_iload (pc' := 39) rfl rfl rfl ?_
    refine xi_iload (pc' := 41) rfl rfl rfl ?_
    refine xi_iadd (pc' := 42) rfl rfl ?_
    refine xi_iload (pc' := 44) rfl rfl rfl ?_
    refine xi_iload_n (pc' := 45) rfl rfl rfl ?_
    refine xi_icmpt (pc' := 58) rfl rfl (by decide) ?_
    refine xi_iconst (pc' := 59) rfl rfl ?_
    refine xr_iast (j := 12 * t + 4 * s + 2) (pc' := 60) rfl rfl (by decide) (by first | rfl | (simp only [ix_add, ix_mul, ix_pred]; done) | (simp only [ix_add, ix_mul, ix_pred, *]; done)) (by omega) (by decide) rfl ?_
    refine xi_iincv (y := nI 3) (pc' := 63) rfl rfl (by decide) (st1_6 rfl) rfl ?_
    refine xi_goto (pc' := 27) rfl rfl ?_
    refine xi_iload (pc' := 29) rfl rfl rfl ?_
    refine xi_iconst (pc' := 30) rfl rfl ?_
    refine xi_icmpf (pc' := 33) (tg := 66) rfl rfl (by decide) rfl ?_
    refine xi_aload_n (pc' := 34) rfl rfl rfl ?_
    refine xr_getp (pc' := 37) rfl rfl (by decide) rfl rfl rfl ?_
    refine xi_iload (pc' := 39) rfl rfl rfl ?_
    refine xi_iload (pc' := 41) rfl rfl rfl ?_
    refine xi_iadd (pc' := 42) rfl rfl ?_
    refine xi_iload (pc' := 44) rfl rfl rfl ?_
    refine xi_iload_n (pc' := 45) rfl rfl rfl ?_
    refine xi_icmpt (pc' := 58) rfl rfl (by decide) ?_
    refine xi_iconst (pc' := 59) rfl rfl ?_
    refine xr_iast (j := 12 * t + 4 * s + 3) (pc' := 60) rfl rfl (by decide) (by first | rfl | (simp only [ix_add, ix_mul, ix_pred]; done) | (simp only [ix_add, ix_mul, ix_pred, *]; done)) (by omega) (by decide) rfl ?_
    refine xi_iincv (y := nI 4) (pc' := 63) rfl rfl (by decide) (st1_6 rfl) rfl ?_
    refine xi_goto (pc' := 27) rfl rfl ?_
    refine xi_iload (pc' := 29) rfl rfl rfl ?_
    refine xi_iconst (pc' := 30) rfl rfl ?_
    refine xi_icmpt (pc' := 66) rfl rfl (by decide) ?_
    refine xi_aload_n (pc' := 67) rfl rfl rfl ?_
    refine xr_getp (pc' := 70) rfl rfl (by decide) rfl rfl rfl ?_
    refine xi_iconst (pc' := 71) rfl rfl ?_
    refine xi_iload_n (pc' := 72) rfl rfl rfl ?_
    refine xi_imul (pc' := 73) rfl rfl ?_
    refine xi_iload_n (pc' := 74) rfl rfl rfl ?_
    refine xi_iadd (pc' := 75) rfl rfl ?_
    refine xi_iconst (pc' := 76) rfl rfl ?_
    refine xi_isub (pc' := 77) rfl rfl ?_
    refine xi_iconst (pc' := 78) rfl rfl ?_
    refine xr_zast (j := 3 * t + s) (pc' := 79) rfl rfl (by decide) (by simp only [ix_mul, ix_add]; exact ix_pred (3 * t + s)) (by omega) (by decide) (by decide) rfl ?_
    refine xi_aload_n (pc' := 80) rfl rfl rfl ?_
    refine xr_getp (pc' := 83) rfl rfl (by decide) rfl rfl rfl ?_
    refine xi_iload_n (pc' := 84) rfl rfl rfl ?_
    refine xi_iload (pc' := 86) rfl rfl rfl ?_
    refine xr_zast (j := t) (pc' := 87) rfl rfl (by decide) (by first | rfl | (simp only [ix_add, ix_mul, ix_pred]; done) | (simp only [ix_add, ix_mul, ix_pred, *]; done)) (by omega) (by decide) (hfa) rfl ?_
    refine xi_iconst (pc' := 88) rfl rfl ?_
    refine xx_zreturn rfl rfl (by first | rfl | assumption | exact b01_bI | simp [ex_b01, bI]) ?_
    simp only [ex_P, Classical.not_not, ↓reduceIte, Nat.add_zero, or_true, true_or, not_true_eq_false, not_false_eq_true, or_false, false_or, wI_get, false_and, true_and, and_true, and_false, and_self, Nat.reduceEqDiff, Nat.succ_ne_zero, reduceCtorEq, nI_lit, nI_lit0, Nat.reduceLT] at *
    first | (simp only [r_takes, r_fill, r_f, Nat.reduceAdd, *, ↓reduceIte, Nat.add_zero, or_true, true_or, not_true_eq_false, not_false_eq_true, or_false, false_or, wI_get, false_and, true_and, and_true, and_false, and_self, Nat.reduceEqDiff, Nat.succ_ne_zero, reduceCtorEq, nI_lit, nI_lit0, Nat.reduceLT]; done) | (exfalso; simp_all only [↓reduceIte, Nat.add_zero, or_true, true_or, not_true_eq_false, not_false_eq_true, or_false, false_or, wI_get, false_and, true_and, and_true, and_false, and_self, Nat.reduceEqDiff, Nat.succ_ne_zero, reduceCtorEq, nI_lit, nI_lit0, Nat.reduceLT]; done)
  · refine xi_aload_n (pc' := 9) rfl rfl rfl ?_
    refine xr_getp (pc' := 12) rfl rfl (by decide) rfl rfl rfl ?_
    refine xi_iload_n (pc' := 13) rfl rfl rfl ?_
    refine xi_iconst (pc' := 14) rfl rfl ?_
    refine xr_zast (j := t) (pc' := 15) rfl rfl (by decide) (by first | rfl | (simp only [ix_add, ix_mul, ix_pred]; done) | (simp only [ix_add, ix_mul, ix_pred, *]; done)) (by omega) (by decide) (by decide) rfl ?_
    refine xi_iconst (pc' := 16) rfl rfl ?_
    refine xx_zreturn rfl rfl (by first | rfl | assumption | exact b01_bI | simp [ex_b01, bI]) ?_
    simp only [ex_P, Classical.not_not, ↓reduceIte, Nat.add_zero, or_true, true_or, not_true_eq_false, not_false_eq_true, or_false, false_or, wI_get, false_and, true_and, and_true, and_false, and_self, Nat.reduceEqDiff, Nat.succ_ne_zero, reduceCtorEq, nI_lit, nI_lit0, Nat.reduceLT] at *
    first | (simp only [r_takes, r_fill, r_f, Nat.reduceAdd, *, ↓reduceIte, Nat.add_zero, or_true, true_or, not_true_eq_false, not_false_eq_true, or_false, false_or, wI_get, false_and, true_and, and_true, and_false, and_self, Nat.reduceEqDiff, Nat.succ_ne_zero, reduceCtorEq, nI_lit, nI_lit0, Nat.reduceLT]; done) | (exfalso; simp_all only [↓reduceIte, Nat.add_zero, or_true, true_or, not_true_eq_false, not_false_eq_true, or_false, false_or, wI_get, false_and, true_and, and_true, and_false, and_self, Nat.reduceEqDiff, Nat.succ_ne_zero, reduceCtorEq, nI_lit, nI_lit0, Nat.reduceLT]; done)
theorem r_takes_3 {L : Nat} {xs : Nat → Int32} {D n : Nat} {I J : ex_Mem} {t s : Nat} {fa : Int32} (ht : t < 6) (hs : s < 3) (hfa : ex_b01 fa = true) : ri L xs (D + 1) 121 [.ref 52, .int (nI t), .int (nI (s + 1)), .int (nI 3), .int fa] (mkH n I J) ((r_takes J t s 3 fa).1) (mkH n I (r_takes J t s 3 fa).2) := by
  show xx cb_G _ _ _ 121 0 [.ref 52, .int (nI t), .int (nI (s + 1)), .int (nI 3), .int fa, ex_no, ex_no] [] _ _
  refine xi_aload_n (pc' := 1) rfl rfl rfl ?_
  refine xr_geti (pc' := 4) rfl rfl (by decide) (by decide) rfl ?_
  refine xi_iload_n (pc' := 5) rfl rfl rfl ?_
  refine xx_icmp (pc' := 8) (tg := 17) rfl rfl rfl (fun q5 => ?_) (fun q5 => ?_)
  · refine xi_iload_n (pc' := 18) rfl rfl rfl ?_
    refine xi_iload_n (pc' := 19) rfl rfl rfl ?_
    refine xx_callSi (pc' := 22) rfl rfl (by decide) rfl (Nat.le_of_ble_eq_true rfl) rfl rfl (r_place t s) ?_
    refine xi_istore (pc' := 24) rfl (st1_5 rfl) rfl ?_
    refine xi_iconst (pc' := 25) rfl rfl ?_
    refine xi_istore (pc' := 27) rfl (st1_6 rfl) rfl ?_
    refine xi_iload (pc' := 29) rfl rfl rfl ?_
    refine xi_iconst (pc' := 30) rfl rfl ?_
    refine xi_icmpf (pc' := 33) (tg := 66) rfl rfl (by decide) rfl ?_
    refine xi_aload_n (pc' := 34) rfl rfl rfl ?_
    refine xr_getp (pc' := 37) rfl rfl (by decide) rfl rfl rfl ?_
    refine xi_iload (pc' := 39) rfl rfl rfl ?_
    refine xi_iload (pc' := 41) rfl rfl rfl ?_
    refine xi_iadd (pc' := 42) rfl rfl ?_
    refine xi_iload (pc' := 44) rfl rfl rfl ?_
    refine xi_iload_n (pc' := 45) rfl rfl rfl ?_
    refine xi_icmpf (pc' := 48) (tg := 58) rfl rfl (by decide) rfl ?_
    refine xi_aload_n (pc' := 49) rfl rfl rfl ?_
    refine xr_getp (pc' := 52) rfl rfl (by decide) rfl rfl rfl ?_
    refine xi_iload (pc' := 54) rfl rfl rfl ?_
    refine xr_iald (j := 0) (pc' := 55) rfl rfl (by decide) (by first | rfl | (simp only [ix_add, ix_mul, ix_pred]; done) | (simp only [ix_add, ix_mul, ix_pred, *]; done)) (by omega) (by decide) rfl ?_
    refine xi_goto (pc' := 59) rfl rfl ?_
    refine xr_iast (j := 12 * t + 4 * s + 0) (pc' := 60) rfl rfl (by decide) (by first | rfl | (simp only [ix_add, ix_mul, ix_pred]; done) | (simp only [ix_add, ix_mul, ix_pred, *]; done)) (by omega) (by decide) rfl ?_
    refine xi_iincv (y := nI 1) (pc' := 63) rfl rfl (by decide) (st1_6 rfl) rfl ?_
    refine xi_goto (pc' := 27) rfl rfl ?_
    refine xi_iload (pc' := 29) rfl rfl rfl ?_
    refine xi_iconst (pc' := 30) rfl rfl ?_
    refine xi_icmpf (pc' := 33) (tg := 66) rfl rfl (by decide) rfl ?_
    refine xi_aload_n (pc' := 34) rfl rfl rfl ?_
    refine xr_getp (pc' := 37) rfl rfl (by decide) rfl rfl rfl ?_
    refine xi_iload (pc' := 39) rfl rfl rfl ?_
    refine xi_iload (pc' := 41) rfl rfl rfl ?_
    refine xi_iadd (pc' := 42) rfl rfl ?_
    refine xi_iload (pc' := 44) rfl rfl rfl ?_
    refine xi_iload_n (pc' := 45) rfl rfl rfl ?_
    refine xi_icmpf (pc' := 48) (tg := 58) rfl rfl (by decide) rfl ?_
    refine xi_aload_n (pc' := 49) rfl rfl rfl ?_
    refine xr_getp (pc' := 52) rfl rfl (by decide) rfl rfl rfl ?_
    refine xi_iload (pc' := 54) rfl rfl rfl ?_
    refine xr_iald (j := 1) (pc' := 55) rfl rfl (by decide) (by first | rfl | (simp only [ix_add, ix_mul, ix_pred]; done) | (simp only [ix_add, ix_mul, ix_pred, *]; done)) (by omega) (by decide) rfl ?_
    refine xi_goto (pc' := 59) rfl rfl ?_
    refine xr_iast (j := 12 * t + 4 * s + 1) (pc' := 60) rfl rfl (by decide) (by first | rfl | (simp only [ix_add, ix_mul, ix_pred]; done) | (simp only [ix_add, ix_mul, ix_pred, *]; done)) (by omega) (by decide) rfl ?_
    refine xi_iincv (y := nI 2) (pc' := 63) rfl rfl (by decide) (st1_6 rfl) rfl ?_
    refine xi_goto (pc' := 27) rfl rfl ?_
    refine xi_iload (pc' := 29) rfl rfl rfl ?_
    refine xi_iconst (pc' := 30) rfl rfl ?_
    refine xi_icmpf (pc' := 33) (tg := 66) rfl rfl (by decide) rfl ?_
    refine xi_aload_n (pc' := 34) rfl rfl rfl ?_
    refine xr_getp (pc' := 37) rfl rfl (by decide) rfl rfl rfl ?_
    refine xi_iload (pc' := 39) rfl rfl rfl ?_
    refine xi_iload (pc' := 41) rfl rfl rfl ?_
    refine xi_iadd (pc' := 42) rfl rfl ?_
    refine xi_iload (pc' := 44) rfl rfl rfl ?_
    refine xi_iload_n (pc' := 45) rfl rfl rfl ?_
    refine xi_icmpf (pc' := 48) (tg := 58) rfl rfl (by decide) rfl ?_
    refine xi_aload_n (pc' := 49) rfl rfl rfl ?_
    refine xr_getp (pc' := 52) rfl rfl (by decide) rfl rfl rfl ?_
    refine xi_iload (pc' := 54) rfl rfl rfl ?_
    refine xr_iald (j := 2) (pc' := 55) rfl rfl (by decide) (by first | rfl | (simp only [ix_add, ix_mul, ix_pred]; done) | (simp only [ix_add, ix_mul, ix_pred, *]; done)) (by omega) (by decide) rfl ?_
    refine xi_goto (pc' := 59) rfl rfl ?_
    refine xr_iast (j := 12 * t + 4 * s + 2) (pc' := 60) rfl rfl (by decide) (by first | rfl | (simp only [ix_add, ix_mul, ix_pred]; done) | (simp only [ix_add, ix_mul, ix_pred, *]; done)) (by omega) (by decide) rfl ?_
    refine xi_iincv (y := nI 3) (pc' := 63) rfl rfl (by decide) (st1_6 rfl) rfl ?_
    refine xi_goto (pc' := 27) rfl rfl ?_
    refine xi_iload (pc' := 29) rfl rfl rfl ?_
    refine xi_iconst (pc' := 30) rfl rfl ?_
    refine xi_icmpf (pc' := 33) (tg := 66) rfl rfl (by decide) rfl ?_
    refine xi_aload_n (pc' := 34) rfl rfl rfl ?_
    refine xr_getp (pc' := 37) rfl rfl (by decide) rfl rfl rfl ?_
    refine xi_iload (pc' := 39) rfl rfl rfl ?_
    refine xi_iload (pc' := 41) rfl rfl rfl ?_
    refine xi_iadd (pc' := 42) rfl rfl ?_
    refine xi_iload (pc' := 44) rfl rfl rfl ?_
    refine xi_iload_n (pc' := 45) rfl rfl rfl ?_
    refine xi_icmpt (pc' := 58) rfl rfl (by decide) ?_
    refine xi_iconst (pc' := 59) rfl rfl ?_
    refine xr_iast (j := 12 * t + 4 * s + 3) (pc' := 60) rfl rfl (by decide) (by first | rfl | (simp only [ix_add, ix_mul, ix_pred]; done) | (simp only [ix_add, ix_mul, ix_pred, *]; done)) (by omega) (by decide) rfl ?_
    refine xi_iincv (y := nI 4) (pc' := 63) rfl rfl (by decide) (st1_6 rfl) rfl ?_
    refine xi_goto (pc' := 27) rfl rfl ?_
    refine xi_iload (pc' := 29) rfl rfl rfl ?_
    refine xi_iconst (pc' := 30) rfl rfl ?_
    refine xi_icmpt (pc' := 66) rfl rfl (by decide) ?_
    refine xi_aload_n (pc' := 67) rfl rfl rfl ?_
    refine xr_getp (pc' := 70) rfl rfl (by decide) rfl rfl rfl ?_
    refine xi_iconst (pc' := 71) rfl rfl ?_
    refine xi_iload_n (pc' := 72) rfl rfl rfl ?_
    refine xi_imul (pc' := 73) rfl rfl ?_
    refine xi_iload_n (pc' := 74) rfl rfl rfl ?_
    refine xi_iadd (pc' := 75) rfl rfl ?_
    refine xi_iconst (pc' := 76) rfl rfl ?_
    refine xi_isub (pc' := 77) rfl rfl ?_
    refine xi_iconst (pc' := 78) rfl rfl ?_
    refine xr_zast (j := 3 * t + s) (pc' := 79) rfl rfl (by decide) (by simp only [ix_mul, ix_add]; exact ix_pred (3 * t + s)) (by omega) (by decide) (by decide) rfl ?_
    refine xi_aload_n (pc' := 80) rfl rfl rfl ?_
    refine xr_getp (pc' := 83) rfl rfl (by decide) rfl rfl rfl ?_
    refine xi_iload_n (pc' := 84) rfl rfl rfl ?_
    refine xi_iload (pc' := 86) rfl rfl rfl ?_
    refine xr_zast (j := t) (pc' := 87) rfl rfl (by decide) (by first | rfl | (simp only [ix_add, ix_mul, ix_pred]; done) | (simp only [ix_add, ix_mul, ix_pred, *]; done)) (by omega) (by decide) (hfa) rfl ?_
    refine xi_iconst (pc' := 88) rfl rfl ?_
    refine xx_zreturn rfl rfl (by first | rfl | assumption | exact b01_bI | simp [ex_b01, bI]) ?_
    simp only [ex_P, Classical.not_not, ↓reduceIte, Nat.add_zero, or_true, true_or, not_true_eq_false, not_false_eq_true, or_false, false_or, wI_get, false_and, true_and, and_true, and_false, and_self, Nat.reduceEqDiff, Nat.succ_ne_zero, reduceCtorEq, nI_lit, nI_lit0, Nat.reduceLT] at *
    first | (simp only [r_takes, r_fill, r_f, Nat.reduceAdd, *, ↓reduceIte, Nat.add_zero, or_true, true_or, not_true_eq_false, not_false_eq_true, or_false, false_or, wI_get, false_and, true_and, and_true, and_false, and_self, Nat.reduceEqDiff, Nat.succ_ne_zero, reduceCtorEq, nI_lit, nI_lit0, Nat.reduceLT]; done) | (exfalso; simp_all only [↓reduceIte, Nat.add_zero, or_true, true_or, not_true_eq_false, not_false_eq_true, or_false, false_or, wI_get, false_and, true_and, and_true, and_false, and_self, Nat.reduceEqDiff, Nat.succ_ne_zero, reduceCtorEq, nI_lit, nI_lit0, Nat.reduceLT]; done)
  · refine xi_aload_n (pc' := 9) rfl rfl rfl ?_
    refine xr_getp (pc' := 12) rfl rfl (by decide) rfl rfl rfl ?_
    refine xi_iload_n (pc' := 13) rfl rfl rfl ?_
    refine xi_iconst (pc' := 14) rfl rfl ?_
    refine xr_zast (j := t) (pc' := 15) rfl rfl (by decide) (by first | rfl | (simp only [ix_add, ix_mul, ix_pred]; done) | (simp only [ix_add, ix_mul, ix_pred, *]; done)) (by omega) (by decide) (by decide) rfl ?_
    refine xi_iconst (pc' := 16) rfl rfl ?_
    refine xx_zreturn rfl rfl (by first | rfl | assumption | exact b01_bI | simp [ex_b01, bI]) ?_
    simp only [ex_P, Classical.not_not, ↓reduceIte, Nat.add_zero, or_true, true_or, not_true_eq_false, not_false_eq_true, or_false, false_or, wI_get, false_and, true_and, and_true, and_false, and_self, Nat.reduceEqDiff, Nat.succ_ne_zero, reduceCtorEq, nI_lit, nI_lit0, Nat.reduceLT] at *
    first | (simp only [r_takes, r_fill, r_f, Nat.reduceAdd, *, ↓reduceIte, Nat.add_zero, or_true, true_or, not_true_eq_false, not_false_eq_true, or_false, false_or, wI_get, false_and, true_and, and_true, and_false, and_self, Nat.reduceEqDiff, Nat.succ_ne_zero, reduceCtorEq, nI_lit, nI_lit0, Nat.reduceLT]; done) | (exfalso; simp_all only [↓reduceIte, Nat.add_zero, or_true, true_or, not_true_eq_false, not_false_eq_true, or_false, false_or, wI_get, false_and, true_and, and_true, and_false, and_self, Nat.reduceEqDiff, Nat.succ_ne_zero, reduceCtorEq, nI_lit, nI_lit0, Nat.reduceLT]; done)
theorem r_takes_4 {L : Nat} {xs : Nat → Int32} {D n : Nat} {I J : ex_Mem} {t s : Nat} {fa : Int32} (ht : t < 6) (hs : s < 3) (hfa : ex_b01 fa = true) : ri L xs (D + 1) 121 [.ref 52, .int (nI t), .int (nI (s + 1)), .int (nI 4), .int fa] (mkH n I J) ((r_takes J t s 4 fa).1) (mkH n I (r_takes J t s 4 fa).2) := by
  show xx cb_G _ _ _ 121 0 [.ref 52, .int (nI t), .int (nI (s + 1)), .int (nI 4), .int fa, ex_no, ex_no] [] _ _
  refine xi_aload_n (pc' := 1) rfl rfl rfl ?_
  refine xr_geti (pc' := 4) rfl rfl (by decide) (by decide) rfl ?_
  refine xi_iload_n (pc' := 5) rfl rfl rfl ?_
  refine xx_icmp (pc' := 8) (tg := 17) rfl rfl rfl (fun q5 => ?_) (fun q5 => ?_)
  · refine xi_iload_n (pc' := 18) rfl rfl rfl ?_
    refine xi_iload_n (pc' := 19) rfl rfl rfl ?_
    refine xx_callSi (pc' := 22) rfl rfl (by decide) rfl (Nat.le_of_ble_eq_true rfl) rfl rfl (r_place t s) ?_
    refine xi_istore (pc' := 24) rfl (st1_5 rfl) rfl ?_
    refine xi_iconst (pc' := 25) rfl rfl ?_
    refine xi_istore (pc' := 27) rfl (st1_6 rfl) rfl ?_
    refine xi_iload (pc' := 29) rfl rfl rfl ?_
    refine xi_iconst (pc' := 30) rfl rfl ?_
    refine xi_icmpf (pc' := 33) (tg := 66) rfl rfl (by decide) rfl ?_
    refine xi_aload_n (pc' := 34) rfl rfl rfl ?_
    refine xr_getp (pc' := 37) rfl rfl (by decide) rfl rfl rfl ?_
    refine xi_iload (pc' := 39) rfl rfl rfl ?_
    refine xi_iload (pc' := 41) rfl rfl rfl ?_
    refine xi_iadd (pc' := 42) rfl rfl ?_
    refine xi_iload (pc' := 44) rfl rfl rfl ?_
    refine xi_iload_n (pc' := 45) rfl rfl rfl ?_
    refine xi_icmpf (pc' := 48) (tg := 58) rfl rfl (by decide) rfl ?_
    refine xi_aload_n (pc' := 49) rfl rfl rfl ?_
    refine xr_getp (pc' := 52) rfl rfl (by decide) rfl rfl rfl ?_
    refine xi_iload (pc' := 54) rfl rfl rfl ?_
    refine xr_iald (j := 0) (pc' := 55) rfl rfl (by decide) (by first | rfl | (simp only [ix_add, ix_mul, ix_pred]; done) | (simp only [ix_add, ix_mul, ix_pred, *]; done)) (by omega) (by decide) rfl ?_
    refine xi_goto (pc' := 59) rfl rfl ?_
    refine xr_iast (j := 12 * t + 4 * s + 0) (pc' := 60) rfl rfl (by decide) (by first | rfl | (simp only [ix_add, ix_mul, ix_pred]; done) | (simp only [ix_add, ix_mul, ix_pred, *]; done)) (by omega) (by decide) rfl ?_
    refine xi_iincv (y := nI 1) (pc' := 63) rfl rfl (by decide) (st1_6 rfl) rfl ?_
    refine xi_goto (pc' := 27) rfl rfl ?_
    refine xi_iload (pc' := 29) rfl rfl rfl ?_
    refine xi_iconst (pc' := 30) rfl rfl ?_
    refine xi_icmpf (pc' := 33) (tg := 66) rfl rfl (by decide) rfl ?_
    refine xi_aload_n (pc' := 34) rfl rfl rfl ?_
    refine xr_getp (pc' := 37) rfl rfl (by decide) rfl rfl rfl ?_
    refine xi_iload (pc' := 39) rfl rfl rfl ?_
    refine xi_iload (pc' := 41) rfl rfl rfl ?_
    refine xi_iadd (pc' := 42) rfl rfl ?_
    refine xi_iload (pc' := 44) rfl rfl rfl ?_
    refine xi_iload_n (pc' := 45) rfl rfl rfl ?_
    refine xi_icmpf (pc' := 48) (tg := 58) rfl rfl (by decide) rfl ?_
    refine xi_aload_n (pc' := 49) rfl rfl rfl ?_
    refine xr_getp (pc' := 52) rfl rfl (by decide) rfl rfl rfl ?_
    refine xi_iload (pc' := 54) rfl rfl rfl ?_
    refine xr_iald (j := 1) (pc' := 55) rfl rfl (by decide) (by first | rfl | (simp only [ix_add, ix_mul, ix_pred]; done) | (simp only [ix_add, ix_mul, ix_pred, *]; done)) (by omega) (by decide) rfl ?_
    refine xi_goto (pc' := 59) rfl rfl ?_
    refine xr_iast (j := 12 * t + 4 * s + 1) (pc' := 60) rfl rfl (by decide) (by first | rfl | (simp only [ix_add, ix_mul, ix_pred]; done) | (simp only [ix_add, ix_mul, ix_pred, *]; done)) (by omega) (by decide) rfl ?_
    refine xi_iincv (y := nI 2) (pc' := 63) rfl rfl (by decide) (st1_6 rfl) rfl ?_
    refine xi_goto (pc' := 27) rfl rfl ?_
    refine xi_iload (pc' := 29) rfl rfl rfl ?_
    refine xi_iconst (pc' := 30) rfl rfl ?_
    refine xi_icmpf (pc' := 33) (tg := 66) rfl rfl (by decide) rfl ?_
    refine xi_aload_n (pc' := 34) rfl rfl rfl ?_
    refine xr_getp (pc' := 37) rfl rfl (by decide) rfl rfl rfl ?_
    refine xi_iload (pc' := 39) rfl rfl rfl ?_
    refine xi_iload (pc' := 41) rfl rfl rfl ?_
    refine xi_iadd (pc' := 42) rfl rfl ?_
    refine xi_iload (pc' := 44) rfl rfl rfl ?_
    refine xi_iload_n (pc' := 45) rfl rfl rfl ?_
    refine xi_icmpf (pc' := 48) (tg := 58) rfl rfl (by decide) rfl ?_
    refine xi_aload_n (pc' := 49) rfl rfl rfl ?_
    refine xr_getp (pc' := 52) rfl rfl (by decide) rfl rfl rfl ?_
    refine xi_iload (pc' := 54) rfl rfl rfl ?_
    refine xr_iald (j := 2) (pc' := 55) rfl rfl (by decide) (by first | rfl | (simp only [ix_add, ix_mul, ix_pred]; done) | (simp only [ix_add, ix_mul, ix_pred, *]; done)) (by omega) (by decide) rfl ?_
    refine xi_goto (pc' := 59) rfl rfl ?_
    refine xr_iast (j := 12 * t + 4 * s + 2) (pc' := 60) rfl rfl (by decide) (by first | rfl | (simp only [ix_add, ix_mul, ix_pred]; done) | (simp only [ix_add, ix_mul, ix_pred, *]; done)) (by omega) (by decide) rfl ?_
    refine xi_iincv (y := nI 3) (pc' := 63) rfl rfl (by decide) (st1_6 rfl) rfl ?_
    refine xi_goto (pc' := 27) rfl rfl ?_
    refine xi_iload (pc' := 29) rfl rfl rfl ?_
    refine xi_iconst (pc' := 30) rfl rfl ?_
    refine xi_icmpf (pc' := 33) (tg := 66) rfl rfl (by decide) rfl ?_
    refine xi_aload_n (pc' := 34) rfl rfl rfl ?_
    refine xr_getp (pc' := 37) rfl rfl (by decide) rfl rfl rfl ?_
    refine xi_iload (pc' := 39) rfl rfl rfl ?_
    refine xi_iload (pc' := 41) rfl rfl rfl ?_
    refine xi_iadd (pc' := 42) rfl rfl ?_
    refine xi_iload (pc' := 44) rfl rfl rfl ?_
    refine xi_iload_n (pc' := 45) rfl rfl rfl ?_
    refine xi_icmpf (pc' := 48) (tg := 58) rfl rfl (by decide) rfl ?_
    refine xi_aload_n (pc' := 49) rfl rfl rfl ?_
    refine xr_getp (pc' := 52) rfl rfl (by decide) rfl rfl rfl ?_
    refine xi_iload (pc' := 54) rfl rfl rfl ?_
    refine xr_iald (j := 3) (pc' := 55) rfl rfl (by decide) (by first | rfl | (simp only [ix_add, ix_mul, ix_pred]; done) | (simp only [ix_add, ix_mul, ix_pred, *]; done)) (by omega) (by decide) rfl ?_
    refine xi_goto (pc' := 59) rfl rfl ?_
    refine xr_iast (j := 12 * t + 4 * s + 3) (pc' := 60) rfl rfl (by decide) (by first | rfl | (simp only [ix_add, ix_mul, ix_pred]; done) | (simp only [ix_add, ix_mul, ix_pred, *]; done)) (by omega) (by decide) rfl ?_
    refine xi_iincv (y := nI 4) (pc' := 63) rfl rfl (by decide) (st1_6 rfl) rfl ?_
    refine xi_goto (pc' := 27) rfl rfl ?_
    refine xi_iload (pc' := 29) rfl rfl rfl ?_
    refine xi_iconst (pc' := 30) rfl rfl ?_
    refine xi_icmpt (pc' := 66) rfl rfl (by decide) ?_
    refine xi_aload_n (pc' := 67) rfl rfl rfl ?_
    refine xr_getp (pc' := 70) rfl rfl (by decide) rfl rfl rfl ?_
    refine xi_iconst (pc' := 71) rfl rfl ?_
    refine xi_iload_n (pc' := 72) rfl rfl rfl ?_
    refine xi_imul (pc' := 73) rfl rfl ?_
    refine xi_iload_n (pc' := 74) rfl rfl rfl ?_
    refine xi_iadd (pc' := 75) rfl rfl ?_
    refine xi_iconst (pc' := 76) rfl rfl ?_
    refine xi_isub (pc' := 77) rfl rfl ?_
    refine xi_iconst (pc' := 78) rfl rfl ?_
    refine xr_zast (j := 3 * t + s) (pc' := 79) rfl rfl (by decide) (by simp only [ix_mul, ix_add]; exact ix_pred (3 * t + s)) (by omega) (by decide) (by decide) rfl ?_
    refine xi_aload_n (pc' := 80) rfl rfl rfl ?_
    refine xr_getp (pc' := 83) rfl rfl (by decide) rfl rfl rfl ?_
    refine xi_iload_n (pc' := 84) rfl rfl rfl ?_
    refine xi_iload (pc' := 86) rfl rfl rfl ?_
    refine xr_zast (j := t) (pc' := 87) rfl rfl (by decide) (by first | rfl | (simp only [ix_add, ix_mul, ix_pred]; done) | (simp only [ix_add, ix_mul, ix_pred, *]; done)) (by omega) (by decide) (hfa) rfl ?_
    refine xi_iconst (pc' := 88) rfl rfl ?_
    refine xx_zreturn rfl rfl (by first | rfl | assumption | exact b01_bI | simp [ex_b01, bI]) ?_
    simp only [ex_P, Classical.not_not, ↓reduceIte, Nat.add_zero, or_true, true_or, not_true_eq_false, not_false_eq_true, or_false, false_or, wI_get, false_and, true_and, and_true, and_false, and_self, Nat.reduceEqDiff, Nat.succ_ne_zero, reduceCtorEq, nI_lit, nI_lit0, Nat.reduceLT] at *
    first | (simp only [r_takes, r_fill, r_f, Nat.reduceAdd, *, ↓reduceIte, Nat.add_zero, or_true, true_or, not_true_eq_false, not_false_eq_true, or_false, false_or, wI_get, false_and, true_and, and_true, and_false, and_self, Nat.reduceEqDiff, Nat.succ_ne_zero, reduceCtorEq, nI_lit, nI_lit0, Nat.reduceLT]; done) | (exfalso; simp_all only [↓reduceIte, Nat.add_zero, or_true, true_or, not_true_eq_false, not_false_eq_true, or_false, false_or, wI_get, false_and, true_and, and_true, and_false, and_self, Nat.reduceEqDiff, Nat.succ_ne_zero, reduceCtorEq, nI_lit, nI_lit0, Nat.reduceLT]; done)
  · refine xi_aload_n (pc' := 9) rfl rfl rfl ?_
    refine xr_getp (pc' := 12) rfl rfl (by decide) rfl rfl rfl ?_
    refine xi_iload_n (pc' := 13) rfl rfl rfl ?_
    refine xi_iconst (pc' := 14) rfl rfl ?_
    refine xr_zast (j := t) (pc' := 15) rfl rfl (by decide) (by first | rfl | (simp only [ix_add, ix_mul, ix_pred]; done) | (simp only [ix_add, ix_mul, ix_pred, *]; done)) (by omega) (by decide) (by decide) rfl ?_
    refine xi_iconst (pc' := 16) rfl rfl ?_
    refine xx_zreturn rfl rfl (by first | rfl | assumption | exact b01_bI | simp [ex_b01, bI]) ?_
    simp only [ex_P, Classical.not_not, ↓reduceIte, Nat.add_zero, or_true, true_or, not_true_eq_false, not_false_eq_true, or_false, false_or, wI_get, false_and, true_and, and_true, and_false, and_self, Nat.reduceEqDiff, Nat.succ_ne_zero, reduceCtorEq, nI_lit, nI_lit0, Nat.reduceLT] at *
    first | (simp only [r_takes, r_fill, r_f, Nat.reduceAdd, *, ↓reduceIte, Nat.add_zero, or_true, true_or, not_true_eq_false, not_false_eq_true, or_false, false_or, wI_get, false_and, true_and, and_true, and_false, and_self, Nat.reduceEqDiff, Nat.succ_ne_zero, reduceCtorEq, nI_lit, nI_lit0, Nat.reduceLT]; done) | (exfalso; simp_all only [↓reduceIte, Nat.add_zero, or_true, true_or, not_true_eq_false, not_false_eq_true, or_false, false_or, wI_get, false_and, true_and, and_true, and_false, and_self, Nat.reduceEqDiff, Nat.succ_ne_zero, reduceCtorEq, nI_lit, nI_lit0, Nat.reduceLT]; done)
theorem r_takes_ok {L : Nat} {xs : Nat → Int32} {D n : Nat} {I J : ex_Mem} {t s nn : Nat} {fa : Int32} (ht : t < 6) (hs : s < 3) (h1 : 1 ≤ nn) (h4 : nn ≤ 4) (hfa : ex_b01 fa = true) : ri L xs (D + 1) 121 [.ref 52, .int (nI t), .int (nI (s + 1)), .int (nI nn), .int fa] (mkH n I J) (r_takes J t s nn fa).1 (mkH n I (r_takes J t s nn fa).2) := by
  rcases (by omega : nn = 1 ∨ nn = 2 ∨ nn = 3 ∨ nn = 4) with rfl | rfl | rfl | rfl
  · exact r_takes_1 ht hs hfa
  · exact r_takes_2 ht hs hfa
  · exact r_takes_3 ht hs hfa
  · exact r_takes_4 ht hs hfa
theorem gdOf_of {J : ex_Mem} {h : Nat} (e : J 52 32 = nI h) (h31 : h < 2 ^ 31) : gdOf J = h := by
  unfold gdOf
  rw [e]
  exact nI_clamp h31
theorem gdB_eq {N : Nat} {J J' : ex_Mem} (hh : gdB N J) (e : J' 52 32 = J 52 32) : gdB N J' := by
  have e2 : gdOf J' = gdOf J := congrArg Int32.toNatClampNeg e
  exact ⟨by rw [e, e2]; exact hh.1, by rw [e2]; exact hh.2⟩
theorem hwB_eq {N : Nat} {J J' : ex_Mem} (hh : hwB N J) (e : J' 52 3 = J 52 3) : hwB N J' := by
  have e2 : hwOf J' = hwOf J := congrArg Int32.toNatClampNeg e
  exact ⟨by rw [e, e2]; exact hh.1, by rw [e2]; exact hh.2⟩
theorem gdB_up {N M : Nat} {J : ex_Mem} (hh : gdB N J) (h : N ≤ M) : gdB M J := ⟨hh.1, Nat.le_trans hh.2 h⟩
theorem put_gd {J : ex_Mem} {b : Nat} {w : Int32} : (r_put J b w).2 52 32 = J 52 32 := by
  unfold r_put
  split
  · rfl
  · split
    · rfl
    · split
      · rfl
      · rfl
theorem says_gd {J : ex_Mem} {t b : Nat} {w : Int32} : (r_says J t b w).2 52 32 = J 52 32 := by
  unfold r_says
  split
  · exact put_gd
  · rfl
theorem dw_hw {J : ex_Mem} {how v : Int32} : r_dw J how v 52 3 = J 52 3 := by
  unfold r_dw
  split
  · rfl
  · rfl
theorem gdB_dw {N : Nat} {J : ex_Mem} {how v : Int32} (hh : gdB N J) (hN : N < 1000) : gdB (N + 1) (r_dw J how v) := by
  unfold r_dw
  split
  · have e : ex_wI (ex_wI J 79 (gdOf J) v) 52 32 (J 52 32 + nI 1) 52 32 = nI (gdOf J + 1) := by
      show J 52 32 + nI 1 = _
      rw [hh.1, ix_add]
    have e2 := gdOf_of e (by have := hh.2; omega)
    exact ⟨by rw [e2]; exact e, by rw [e2]; have := hh.2; omega⟩
  · exact gdB_up hh (by omega)
/-- the values that a terminal sends, one after another -/
def r_send (J : ex_Mem) (t s b : Nat) : Nat → ex_Mem
  | 0 => J
  | k + 1 => r_dw (r_says (r_send J t s b k) t b (r_send J t s b k 59 (12 * t + 4 * s + k) + nI 65536)).2 (r_says (r_send J t s b k) t b (r_send J t s b k 59 (12 * t + 4 * s + k) + nI 65536)).1 (r_send J t s b k 59 (12 * t + 4 * s + k))
theorem hwB_send {N t s b : Nat} {J : ex_Mem} (hh : hwB N J) : ∀ k, N + k < 2 ^ 31 → hwB (N + k) (r_send J t s b k)
  | 0, _ => hh
  | k + 1, h => hwB_eq (hwB_says (hwB_send hh k (by omega)) h) dw_hw
theorem gdB_send {N t s b : Nat} {J : ex_Mem} (hh : gdB N J) : ∀ k, N + k < 100 → gdB (N + k) (r_send J t s b k)
  | 0, _ => hh
  | k + 1, h => gdB_dw (gdB_eq (gdB_send hh k (by omega)) says_gd) (show N + k < 1000 by omega)
def r_ans (J : ex_Mem) (t s nn b : Nat) : Int32 × ex_Mem := (if (r_says J t b (r_st J t)).1 = nI 1 then nI 1 else nI 0, r_send (r_says J t b (r_st J t)).2 t s b nn)
theorem r_ans_loop {L : Nat} {xs : Nat → Int32} {D n : Nat} {I J : ex_Mem} {t s nn b N g : Nat} {w : Int32} (ht : t < 6) (hs : s < 3) (hnn : nn ≤ 4) (hb : b < 2) (hw01 : ex_b01 w = true) (hh : hwB N J) (hN : N + 4 < 2 ^ 31) (hg : gdB g J) (hgn : g + nn ≤ 4) : ∀ (j k : Nat), k + j = nn → ∀ v7 v8 : Value, v7.category = 1 → v8.category = 1 → xx cb_G L xs (D + 3) 123 21 [.ref 52, .int (nI t), .int (nI (s + 1)), .int (nI nn), .int (nI b), .int w, .int (nI k), v7, v8] [] (mkH n I (r_send J t s b k)) (fun r h => r = some (.int w) ∧ h = mkH n I (r_send J t s b nn)) := by
  intro j
  induction j with
  | zero =>
    intro k hk v7 v8 h7 h8
    have hk : k = nn := by omega
    subst hk
    refine xi_iload (pc' := 23) rfl rfl rfl ?_
    refine xi_iload_n (pc' := 24) rfl rfl rfl ?_
    refine xx_icmp (pc' := 27) (tg := 68) rfl rfl rfl (fun q24 => ?_) (fun q24 => absurd (show ex_P .ge (nI k) (nI k) from Int32.le_refl _) q24)
    refine xi_iload (pc' := 70) rfl rfl rfl ?_
    refine xx_zreturn rfl rfl (hw01) ?_
    exact ⟨rfl, rfl⟩
  | succ j ih =>
    intro k hk v7 v8 h7 h8
    refine xi_iload (pc' := 23) rfl rfl rfl ?_
    refine xi_iload_n (pc' := 24) rfl rfl rfl ?_
    refine xx_icmp (pc' := 27) (tg := 68) rfl rfl rfl (fun q24 => absurd q24 (show ¬ ex_P .ge (nI k) (nI nn) from nI_ge (by omega) (by omega))) (fun q24 => ?_)
    refine xi_aload_n (pc' := 28) rfl rfl rfl ?_
    refine xr_getp (pc' := 31) rfl rfl (by decide) rfl rfl rfl ?_
    refine xi_iload_n (pc' := 32) rfl rfl rfl ?_
    refine xi_iload_n (pc' := 33) rfl rfl rfl ?_
    refine xx_callSi (pc' := 36) rfl rfl (by decide) rfl (Nat.le_of_ble_eq_true rfl) rfl rfl (r_place t s) ?_
    refine xi_iload (pc' := 38) rfl rfl rfl ?_
    refine xi_iadd (pc' := 39) rfl rfl ?_
    refine xr_iald (j := 12 * t + 4 * s + k) (pc' := 40) rfl rfl (by decide) (by first | rfl | (simp only [ix_add, ix_mul, ix_pred]; done) | (simp only [ix_add, ix_mul, ix_pred, *]; done)) (by omega) (by decide) rfl ?_
    refine xi_istore (pc' := 42) rfl (st1_7 rfl) rfl ?_
    refine xi_aload_n (pc' := 43) rfl rfl rfl ?_
    refine xi_iload_n (pc' := 44) rfl rfl rfl ?_
    refine xi_iload (pc' := 46) rfl rfl rfl ?_
    refine xi_iconst (pc' := 47) rfl rfl ?_
    refine xi_iload (pc' := 49) rfl rfl rfl ?_
    refine xx_callVi (pc' := 52) rfl rfl (by decide) rfl rfl (by show _ < 81 + 2 * _; omega) (Nat.le_of_ble_eq_true rfl) rfl rfl (r_says1 ht hb (hwB_send hh k (by omega)) (by omega)) ?_
    refine xi_istore (pc' := 54) rfl (st1_8 rfl) rfl ?_
    refine xi_aload_n (pc' := 55) rfl rfl rfl ?_
    refine xi_iload (pc' := 57) rfl rfl rfl ?_
    refine xi_iload (pc' := 59) rfl rfl rfl ?_
    refine xx_callVv (pc' := 62) rfl rfl (by decide) rfl rfl (by show _ < 81 + 2 * _; omega) (Nat.le_of_ble_eq_true rfl) rfl rfl (r_dataWord (gdB_eq (gdB_send hg k (by omega)) says_gd) (by omega)) ?_
    refine xi_iincv (y := nI (k + 1)) (pc' := 65) rfl rfl (ix_add _ _) (st1_6 rfl) rfl ?_
    refine xi_goto (pc' := 21) rfl rfl ?_
    exact ih (k + 1) (by omega) _ _ rfl rfl
theorem r_answers_ok {L : Nat} {xs : Nat → Int32} {D n : Nat} {I J : ex_Mem} {t s nn b N g : Nat} (ht : t < 6) (hs : s < 3) (hnn : nn ≤ 4) (hb : b < 2) (hh : hwB N J) (hN : N + 5 < 2 ^ 31) (hg : gdB g J) (hgn : g + nn ≤ 4) : ri L xs (D + 3) 123 [.ref 52, .int (nI t), .int (nI (s + 1)), .int (nI nn), .int (nI b)] (mkH n I J) ((r_ans J t s nn b).1) (mkH n I (r_ans J t s nn b).2) := by
  show xx cb_G _ _ _ 123 0 [.ref 52, .int (nI t), .int (nI (s + 1)), .int (nI nn), .int (nI b), ex_no, ex_no, ex_no, ex_no] [] _ _
  refine xi_aload_n (pc' := 1) rfl rfl rfl ?_
  refine xi_iload_n (pc' := 2) rfl rfl rfl ?_
  refine xi_iload (pc' := 4) rfl rfl rfl ?_
  refine xx_callVi (pc' := 7) rfl rfl (by decide) rfl rfl (by show _ < 81 + 2 * _; omega) (Nat.le_of_ble_eq_true rfl) rfl rfl (r_saysStatus ht hb hh (by omega)) ?_
  refine xi_iconst (pc' := 8) rfl rfl ?_
  refine xx_icmp (pc' := 11) (tg := 15) rfl rfl rfl (fun q8 => ?_) (fun q8 => ?_)
  · refine xi_iconst (pc' := 16) rfl rfl ?_
    refine xi_istore (pc' := 18) rfl (st1_5 rfl) rfl ?_
    refine xi_iconst (pc' := 19) rfl rfl ?_
    refine xi_istore (pc' := 21) rfl (st1_6 rfl) rfl ?_
    refine xx_imp (r_ans_loop (w := _) ht hs hnn hb (by decide) (hwB_says hh (by omega)) (by omega) (gdB_eq hg says_gd) hgn nn 0 (by omega) _ _ rfl rfl) (fun r h hq => ?_)
    obtain ⟨rfl, rfl⟩ := hq
    simp only [ex_P, Classical.not_not, ↓reduceIte, Nat.add_zero, or_true, true_or, not_true_eq_false, not_false_eq_true, or_false, false_or, wI_get, false_and, true_and, and_true, and_false, and_self, Nat.reduceEqDiff, Nat.succ_ne_zero, reduceCtorEq, nI_lit, nI_lit0, Nat.reduceLT] at *
    first | (simp only [r_ans, *, ↓reduceIte, Nat.add_zero, or_true, true_or, not_true_eq_false, not_false_eq_true, or_false, false_or, wI_get, false_and, true_and, and_true, and_false, and_self, Nat.reduceEqDiff, Nat.succ_ne_zero, reduceCtorEq, nI_lit, nI_lit0, Nat.reduceLT]; done) | (exfalso; simp_all only [↓reduceIte, Nat.add_zero, or_true, true_or, not_true_eq_false, not_false_eq_true, or_false, false_or, wI_get, false_and, true_and, and_true, and_false, and_self, Nat.reduceEqDiff, Nat.succ_ne_zero, reduceCtorEq, nI_lit, nI_lit0, Nat.reduceLT]; done)
  · refine xi_iconst (pc' := 12) rfl rfl ?_
    refine xi_goto (pc' := 16) rfl rfl ?_
    refine xi_istore (pc' := 18) rfl (st1_5 rfl) rfl ?_
    refine xi_iconst (pc' := 19) rfl rfl ?_
    refine xi_istore (pc' := 21) rfl (st1_6 rfl) rfl ?_
    refine xx_imp (r_ans_loop (w := _) ht hs hnn hb (by decide) (hwB_says hh (by omega)) (by omega) (gdB_eq hg says_gd) hgn nn 0 (by omega) _ _ rfl rfl) (fun r h hq => ?_)
    obtain ⟨rfl, rfl⟩ := hq
    simp only [ex_P, Classical.not_not, ↓reduceIte, Nat.add_zero, or_true, true_or, not_true_eq_false, not_false_eq_true, or_false, false_or, wI_get, false_and, true_and, and_true, and_false, and_self, Nat.reduceEqDiff, Nat.succ_ne_zero, reduceCtorEq, nI_lit, nI_lit0, Nat.reduceLT] at *
    first | (simp only [r_ans, *, ↓reduceIte, Nat.add_zero, or_true, true_or, not_true_eq_false, not_false_eq_true, or_false, false_or, wI_get, false_and, true_and, and_true, and_false, and_self, Nat.reduceEqDiff, Nat.succ_ne_zero, reduceCtorEq, nI_lit, nI_lit0, Nat.reduceLT]; done) | (exfalso; simp_all only [↓reduceIte, Nat.add_zero, or_true, true_or, not_true_eq_false, not_false_eq_true, or_false, false_or, wI_get, false_and, true_and, and_true, and_false, and_self, Nat.reduceEqDiff, Nat.succ_ne_zero, reduceCtorEq, nI_lit, nI_lit0, Nat.reduceLT]; done)
