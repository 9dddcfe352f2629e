theorem r_isTerminal {L : Nat} {xs : Nat → Int32} {D n : Nat} {I J : ex_Mem} (t : Int32) : ri L xs D 85 [.int t] (mkH n I J) (if 0 ≤ t ∧ t < nI 6 then nI 1 else nI 0) (mkH n I J) := by
  show xx cb_G _ _ _ 85 0 [.int t] [] _ _
  refine xi_iload_n (pc' := 1) rfl rfl rfl ?_
  refine xx_if (pc' := 4) (tg := 14) rfl rfl rfl (fun q1 => ?_) (fun q1 => ?_)
  · refine xi_iconst (pc' := 15) rfl rfl ?_
    refine xx_zreturn rfl rfl (by first | rfl | assumption | exact b01_bI | simp [ex_b01, bI]) ?_
    refine ⟨congrArg (fun v => some (Value.int v)) ?_, ?_⟩
    · first | with_reducible rfl | (simp only [ex_P] at *; simp only [*, ↓reduceIte]; done) | (simp only [ex_P, Int32.lt_iff_toInt_lt, Int32.le_iff_toInt_le] at *; split <;> first | with_reducible rfl | (exfalso; omega))
    · first | with_reducible rfl | (simp only [ex_P] at *; simp only [*, ↓reduceIte]; done) | rfl
  · refine xi_iload_n (pc' := 5) rfl rfl rfl ?_
    refine xi_bipush (pc' := 7) rfl (by decide) rfl ?_
    refine xx_icmp (pc' := 10) (tg := 14) rfl rfl rfl (fun q7 => ?_) (fun q7 => ?_)
    · refine xi_iconst (pc' := 15) rfl rfl ?_
      refine xx_zreturn rfl rfl (by first | rfl | assumption | exact b01_bI | simp [ex_b01, bI]) ?_
      refine ⟨congrArg (fun v => some (Value.int v)) ?_, ?_⟩
      · first | with_reducible rfl | (simp only [ex_P] at *; simp only [*, ↓reduceIte]; done) | (simp only [ex_P, Int32.lt_iff_toInt_lt, Int32.le_iff_toInt_le] at *; split <;> first | with_reducible rfl | (exfalso; omega))
      · first | with_reducible rfl | (simp only [ex_P] at *; simp only [*, ↓reduceIte]; done) | rfl
    · refine xi_iconst (pc' := 11) rfl rfl ?_
      refine xi_goto (pc' := 15) rfl rfl ?_
      refine xx_zreturn rfl rfl (by first | rfl | assumption | exact b01_bI | simp [ex_b01, bI]) ?_
      refine ⟨congrArg (fun v => some (Value.int v)) ?_, ?_⟩
      · first | with_reducible rfl | (simp only [ex_P] at *; simp only [*, ↓reduceIte]; done) | (simp only [ex_P, Int32.lt_iff_toInt_lt, Int32.le_iff_toInt_le] at *; split <;> first | with_reducible rfl | (exfalso; omega))
      · first | with_reducible rfl | (simp only [ex_P] at *; simp only [*, ↓reduceIte]; done) | rfl
theorem r_isIndex {L : Nat} {xs : Nat → Int32} {D n : Nat} {I J : ex_Mem} (t : Int32) : ri L xs D 88 [.int t] (mkH n I J) (if 0 ≤ t ∧ t < nI 4 then nI 1 else nI 0) (mkH n I J) := by
  show xx cb_G _ _ _ 88 0 [.int t] [] _ _
  refine xi_iload_n (pc' := 1) rfl rfl rfl ?_
  refine xx_if (pc' := 4) (tg := 13) rfl rfl rfl (fun q1 => ?_) (fun q1 => ?_)
  · refine xi_iconst (pc' := 14) rfl rfl ?_
    refine xx_zreturn rfl rfl (by first | rfl | assumption | exact b01_bI | simp [ex_b01, bI]) ?_
    refine ⟨congrArg (fun v => some (Value.int v)) ?_, ?_⟩
    · first | with_reducible rfl | (simp only [ex_P] at *; simp only [*, ↓reduceIte]; done) | (simp only [ex_P, Int32.lt_iff_toInt_lt, Int32.le_iff_toInt_le] at *; split <;> first | with_reducible rfl | (exfalso; omega))
    · first | with_reducible rfl | (simp only [ex_P] at *; simp only [*, ↓reduceIte]; done) | rfl
  · refine xi_iload_n (pc' := 5) rfl rfl rfl ?_
    refine xi_iconst (pc' := 6) rfl rfl ?_
    refine xx_icmp (pc' := 9) (tg := 13) rfl rfl rfl (fun q6 => ?_) (fun q6 => ?_)
    · refine xi_iconst (pc' := 14) rfl rfl ?_
      refine xx_zreturn rfl rfl (by first | rfl | assumption | exact b01_bI | simp [ex_b01, bI]) ?_
      refine ⟨congrArg (fun v => some (Value.int v)) ?_, ?_⟩
      · first | with_reducible rfl | (simp only [ex_P] at *; simp only [*, ↓reduceIte]; done) | (simp only [ex_P, Int32.lt_iff_toInt_lt, Int32.le_iff_toInt_le] at *; split <;> first | with_reducible rfl | (exfalso; omega))
      · first | with_reducible rfl | (simp only [ex_P] at *; simp only [*, ↓reduceIte]; done) | rfl
    · refine xi_iconst (pc' := 10) rfl rfl ?_
      refine xi_goto (pc' := 14) rfl rfl ?_
      refine xx_zreturn rfl rfl (by first | rfl | assumption | exact b01_bI | simp [ex_b01, bI]) ?_
      refine ⟨congrArg (fun v => some (Value.int v)) ?_, ?_⟩
      · first | with_reducible rfl | (simp only [ex_P] at *; simp only [*, ↓reduceIte]; done) | (simp only [ex_P, Int32.lt_iff_toInt_lt, Int32.le_iff_toInt_le] at *; split <;> first | with_reducible rfl | (exfalso; omega))
      · first | with_reducible rfl | (simp only [ex_P] at *; simp only [*, ↓reduceIte]; done) | rfl
theorem r_isValue {L : Nat} {xs : Nat → Int32} {D n : Nat} {I J : ex_Mem} (t : Int32) : ri L xs D 82 [.int t] (mkH n I J) (if 0 ≤ t ∧ t ≤ nI 65535 then nI 1 else nI 0) (mkH n I J) := by
  show xx cb_G _ _ _ 82 0 [.int t] [] _ _
  refine xi_iload_n (pc' := 1) rfl rfl rfl ?_
  refine xx_if (pc' := 4) (tg := 14) rfl rfl rfl (fun q1 => ?_) (fun q1 => ?_)
  · refine xi_iconst (pc' := 15) rfl rfl ?_
    refine xx_zreturn rfl rfl (by first | rfl | assumption | exact b01_bI | simp [ex_b01, bI]) ?_
    refine ⟨congrArg (fun v => some (Value.int v)) ?_, ?_⟩
    · first | with_reducible rfl | (simp only [ex_P] at *; simp only [*, ↓reduceIte]; done) | (simp only [ex_P, Int32.lt_iff_toInt_lt, Int32.le_iff_toInt_le] at *; split <;> first | with_reducible rfl | (exfalso; omega))
    · first | with_reducible rfl | (simp only [ex_P] at *; simp only [*, ↓reduceIte]; done) | rfl
  · refine xi_iload_n (pc' := 5) rfl rfl rfl ?_
    refine xx_ldc (v := nI 65535) (pc' := 7) rfl rfl (by decide) rfl ?_
    refine xx_icmp (pc' := 10) (tg := 14) rfl rfl rfl (fun q7 => ?_) (fun q7 => ?_)
    · refine xi_iconst (pc' := 15) rfl rfl ?_
      refine xx_zreturn rfl rfl (by first | rfl | assumption | exact b01_bI | simp [ex_b01, bI]) ?_
      refine ⟨congrArg (fun v => some (Value.int v)) ?_, ?_⟩
      · first | with_reducible rfl | (simp only [ex_P] at *; simp only [*, ↓reduceIte]; done) | (simp only [ex_P, Int32.lt_iff_toInt_lt, Int32.le_iff_toInt_le] at *; split <;> first | with_reducible rfl | (exfalso; omega))
      · first | with_reducible rfl | (simp only [ex_P] at *; simp only [*, ↓reduceIte]; done) | rfl
    · refine xi_iconst (pc' := 11) rfl rfl ?_
      refine xi_goto (pc' := 15) rfl rfl ?_
      refine xx_zreturn rfl rfl (by first | rfl | assumption | exact b01_bI | simp [ex_b01, bI]) ?_
      refine ⟨congrArg (fun v => some (Value.int v)) ?_, ?_⟩
      · first | with_reducible rfl | (simp only [ex_P] at *; simp only [*, ↓reduceIte]; done) | (simp only [ex_P, Int32.lt_iff_toInt_lt, Int32.le_iff_toInt_le] at *; split <;> first | with_reducible rfl | (exfalso; omega))
      · first | with_reducible rfl | (simp only [ex_P] at *; simp only [*, ↓reduceIte]; done) | rfl
def r_st (J : ex_Mem) (t : Nat) : Int32 := nI 2048 * nI t + (if J 62 t = 0 then nI 0 else nI 1024) + (if J 63 t = 0 then nI 0 else nI 16)
theorem r_statusOf {L : Nat} {xs : Nat → Int32} {D n : Nat} {I J : ex_Mem} {t : Nat} (ht : t < 6) : ri L xs D 93 [.ref 52, .int (nI t)] (mkH n I J) (r_st J t) (mkH n I J) := by
  show xx cb_G _ _ _ 93 0 [.ref 52, .int (nI t)] [] _ _
  refine xi_sipush (pc' := 3) rfl (by decide) rfl ?_
  refine xi_iload_n (pc' := 4) rfl rfl rfl ?_
  refine xi_imul (pc' := 5) rfl rfl ?_
  refine xi_aload_n (pc' := 6) rfl rfl rfl ?_
  refine xr_getp (pc' := 9) rfl rfl (by decide) rfl rfl rfl ?_
  refine xi_iload_n (pc' := 10) rfl rfl rfl ?_
  refine xr_zald (j := t) (pc' := 11) rfl rfl (by decide) (by first | rfl | (simp only [ix_add, ix_mul, ix_pred]; done) | (simp only [ix_add, ix_mul, ix_pred, *]; done)) (by omega) (by decide) rfl ?_
  refine xx_if (pc' := 14) (tg := 20) rfl rfl rfl (fun q11 => ?_) (fun q11 => ?_)
  · refine xi_iconst (pc' := 21) rfl rfl ?_
    refine xi_iadd (pc' := 22) rfl rfl ?_
    refine xi_aload_n (pc' := 23) rfl rfl rfl ?_
    refine xr_getp (pc' := 26) rfl rfl (by decide) rfl rfl rfl ?_
    refine xi_iload_n (pc' := 27) rfl rfl rfl ?_
    refine xr_zald (j := t) (pc' := 28) rfl rfl (by decide) (by first | rfl | (simp only [ix_add, ix_mul, ix_pred]; done) | (simp only [ix_add, ix_mul, ix_pred, *]; done)) (by omega) (by decide) rfl ?_
    refine xx_if (pc' := 31) (tg := 36) rfl rfl rfl (fun q28 => ?_) (fun q28 => ?_)
    · refine xi_iconst (pc' := 37) rfl rfl ?_
      refine xi_iadd (pc' := 38) rfl rfl ?_
      refine xx_ireturn rfl rfl ?_
      simp only [ex_P, Classical.not_not, ↓reduceIte, or_true, true_or, not_true_eq_false, not_false_eq_true, or_false, false_or, wI_get, false_and, true_and, and_true, and_false, and_self, Nat.reduceEqDiff, Nat.succ_ne_zero, reduceCtorEq, nI_lit, nI_lit0, Nat.reduceLT] at *
      first | (simp only [r_st, *, ↓reduceIte, or_true, true_or, not_true_eq_false, not_false_eq_true, or_false, false_or, wI_get, false_and, true_and, and_true, and_false, and_self, Nat.reduceEqDiff, Nat.succ_ne_zero, reduceCtorEq, nI_lit, nI_lit0, Nat.reduceLT]; done) | (exfalso; simp_all only [↓reduceIte, or_true, true_or, not_true_eq_false, not_false_eq_true, or_false, false_or, wI_get, false_and, true_and, and_true, and_false, and_self, Nat.reduceEqDiff, Nat.succ_ne_zero, reduceCtorEq, nI_lit, nI_lit0, Nat.reduceLT]; done)
    · refine xi_bipush (pc' := 33) rfl (by decide) rfl ?_
      refine xi_goto (pc' := 37) rfl rfl ?_
      refine xi_iadd (pc' := 38) rfl rfl ?_
      refine xx_ireturn rfl rfl ?_
      simp only [ex_P, Classical.not_not, ↓reduceIte, or_true, true_or, not_true_eq_false, not_false_eq_true, or_false, false_or, wI_get, false_and, true_and, and_true, and_false, and_self, Nat.reduceEqDiff, Nat.succ_ne_zero, reduceCtorEq, nI_lit, nI_lit0, Nat.reduceLT] at *
      first | (simp only [r_st, *, ↓reduceIte, or_true, true_or, not_true_eq_false, not_false_eq_true, or_false, false_or, wI_get, false_and, true_and, and_true, and_false, and_self, Nat.reduceEqDiff, Nat.succ_ne_zero, reduceCtorEq, nI_lit, nI_lit0, Nat.reduceLT]; done) | (exfalso; simp_all only [↓reduceIte, or_true, true_or, not_true_eq_false, not_false_eq_true, or_false, false_or, wI_get, false_and, true_and, and_true, and_false, and_self, Nat.reduceEqDiff, Nat.succ_ne_zero, reduceCtorEq, nI_lit, nI_lit0, Nat.reduceLT]; done)
  · refine xi_sipush (pc' := 17) rfl (by decide) rfl ?_
    refine xi_goto (pc' := 21) rfl rfl ?_
    refine xi_iadd (pc' := 22) rfl rfl ?_
    refine xi_aload_n (pc' := 23) rfl rfl rfl ?_
    refine xr_getp (pc' := 26) rfl rfl (by decide) rfl rfl rfl ?_
    refine xi_iload_n (pc' := 27) rfl rfl rfl ?_
    refine xr_zald (j := t) (pc' := 28) rfl rfl (by decide) (by first | rfl | (simp only [ix_add, ix_mul, ix_pred]; done) | (simp only [ix_add, ix_mul, ix_pred, *]; done)) (by omega) (by decide) rfl ?_
    refine xx_if (pc' := 31) (tg := 36) rfl rfl rfl (fun q28 => ?_) (fun q28 => ?_)
    · refine xi_iconst (pc' := 37) rfl rfl ?_
      refine xi_iadd (pc' := 38) rfl rfl ?_
      refine xx_ireturn rfl rfl ?_
      simp only [ex_P, Classical.not_not, ↓reduceIte, or_true, true_or, not_true_eq_false, not_false_eq_true, or_false, false_or, wI_get, false_and, true_and, and_true, and_false, and_self, Nat.reduceEqDiff, Nat.succ_ne_zero, reduceCtorEq, nI_lit, nI_lit0, Nat.reduceLT] at *
      first | (simp only [r_st, *, ↓reduceIte, or_true, true_or, not_true_eq_false, not_false_eq_true, or_false, false_or, wI_get, false_and, true_and, and_true, and_false, and_self, Nat.reduceEqDiff, Nat.succ_ne_zero, reduceCtorEq, nI_lit, nI_lit0, Nat.reduceLT]; done) | (exfalso; simp_all only [↓reduceIte, or_true, true_or, not_true_eq_false, not_false_eq_true, or_false, false_or, wI_get, false_and, true_and, and_true, and_false, and_self, Nat.reduceEqDiff, Nat.succ_ne_zero, reduceCtorEq, nI_lit, nI_lit0, Nat.reduceLT]; done)
    · refine xi_bipush (pc' := 33) rfl (by decide) rfl ?_
      refine xi_goto (pc' := 37) rfl rfl ?_
      refine xi_iadd (pc' := 38) rfl rfl ?_
      refine xx_ireturn rfl rfl ?_
      simp only [ex_P, Classical.not_not, ↓reduceIte, or_true, true_or, not_true_eq_false, not_false_eq_true, or_false, false_or, wI_get, false_and, true_and, and_true, and_false, and_self, Nat.reduceEqDiff, Nat.succ_ne_zero, reduceCtorEq, nI_lit, nI_lit0, Nat.reduceLT] at *
      first | (simp only [r_st, *, ↓reduceIte, or_true, true_or, not_true_eq_false, not_false_eq_true, or_false, false_or, wI_get, false_and, true_and, and_true, and_false, and_self, Nat.reduceEqDiff, Nat.succ_ne_zero, reduceCtorEq, nI_lit, nI_lit0, Nat.reduceLT]; done) | (exfalso; simp_all only [↓reduceIte, or_true, true_or, not_true_eq_false, not_false_eq_true, or_false, false_or, wI_get, false_and, true_and, and_true, and_false, and_self, Nat.reduceEqDiff, Nat.succ_ne_zero, reduceCtorEq, nI_lit, nI_lit0, Nat.reduceLT]; done)
theorem r_place {L : Nat} {xs : Nat → Int32} {D n : Nat} {I J : ex_Mem} (t s : Nat) : ri L xs D 89 [.int (nI t), .int (nI (s + 1))] (mkH n I J) (nI (12 * t + 4 * s)) (mkH n I J) := by
  show xx cb_G _ _ _ 89 0 [.int (nI t), .int (nI (s + 1))] [] _ _
  refine xi_bipush (pc' := 2) rfl (by decide) rfl ?_
  refine xi_iload_n (pc' := 3) rfl rfl rfl ?_
  refine xi_imul (pc' := 4) rfl rfl ?_
  refine xi_iconst (pc' := 5) rfl rfl ?_
  refine xi_iload_n (pc' := 6) rfl rfl rfl ?_
  refine xi_iconst (pc' := 7) rfl rfl ?_
  refine xi_isub (pc' := 8) rfl rfl ?_
  refine xi_imul (pc' := 9) rfl rfl ?_
  refine xi_iadd (pc' := 10) rfl rfl ?_
  refine xx_ireturn rfl rfl ?_
  exact ⟨congrArg (fun v => some (Value.int v)) (by simp only [ix_add, ix_mul, ix_pred]), rfl⟩
theorem r_command {L : Nat} {xs : Nat → Int32} {D n : Nat} {I J : ex_Mem} (t u s k : Int32) : ri L xs D 110 [.int t, .int u, .int s, .int k] (mkH n I J) (nI 2048 * t + nI 1024 * u + nI 32 * s + k) (mkH n I J) := by
  show xx cb_G _ _ _ 110 0 [.int t, .int u, .int s, .int k] [] _ _
  refine xi_sipush (pc' := 3) rfl (by decide) rfl ?_
  refine xi_iload_n (pc' := 4) rfl rfl rfl ?_
  refine xi_imul (pc' := 5) rfl rfl ?_
  refine xi_sipush (pc' := 8) rfl (by decide) rfl ?_
  refine xi_iload_n (pc' := 9) rfl rfl rfl ?_
  refine xi_imul (pc' := 10) rfl rfl ?_
  refine xi_iadd (pc' := 11) rfl rfl ?_
  refine xi_bipush (pc' := 13) rfl (by decide) rfl ?_
  refine xi_iload_n (pc' := 14) rfl rfl rfl ?_
  refine xi_imul (pc' := 15) rfl rfl ?_
  refine xi_iadd (pc' := 16) rfl rfl ?_
  refine xi_iload_n (pc' := 17) rfl rfl rfl ?_
  refine xi_iadd (pc' := 18) rfl rfl ?_
  refine xx_ireturn rfl rfl ?_
  refine ⟨congrArg (fun v => some (Value.int v)) ?_, ?_⟩
  · first | with_reducible rfl | (simp only [ex_P] at *; simp only [*, ↓reduceIte]; done) | (simp only [ex_P, Int32.lt_iff_toInt_lt, Int32.le_iff_toInt_le] at *; split <;> first | with_reducible rfl | (exfalso; omega))
  · first | with_reducible rfl | (simp only [ex_P] at *; simp only [*, ↓reduceIte]; done) | rfl
/-- how many words were heard -/
def hwOf (J : ex_Mem) : Nat := (J 52 3).toNatClampNeg
def hwB (N : Nat) (J : ex_Mem) : Prop := J 52 3 = nI (hwOf J) ∧ hwOf J ≤ N
theorem ix_0 (x : Int32) : x + nI 0 = x := Int32.add_zero x
theorem ix_rem {a b : Nat} (ha : a < 2 ^ 31) (hb : b < 2 ^ 31) (h0 : 0 < b) : nI a - nI a / nI b * nI b = nI (a % b) := pk_rem ha h0 hb
def r_bm (b : Nat) : Int32 := if nI b = nI 1 then nI 262144 else nI 0
def r_put (J : ex_Mem) (b : Nat) (w : Int32) : Int32 × ex_Mem :=
  if J 53 b = 0 ∨ ¬ J 55 b = 0 then (nI 1, ex_wI (ex_wI (ex_wI J 55 b (J 55 b - nI 1)) 56 (hwOf J % 60) (w + r_bm b)) 52 3 (J 52 3 + nI 1))
  else if J 54 b = nI 2 then (nI 0, J)
  else if J 54 b = nI 1 then (nI 2, ex_wI (ex_wI (ex_wI (ex_wI J 55 b (J 55 b - nI 1)) 53 b (nI 0)) 56 (hwOf J % 60) (w + nI 131072 + r_bm b)) 52 3 (J 52 3 + nI 1))
  else (nI 0, ex_wI (ex_wI J 55 b (J 55 b - nI 1)) 53 b (nI 0))
theorem r_put_d {L : Nat} {xs : Nat → Int32} {D n : Nat} {I J : ex_Mem} {b N : Nat} {d v : Int32} (hb : b < 2) (hh : J 52 3 = nI (hwOf J)) (h31 : hwOf J < 2 ^ 31) : ri L xs D 111 [.ref 52, .int (nI b), .int d, .int v] (mkH n I J) ((r_put J b (v + (if d = 0 then nI 0 else nI 65536))).1) (mkH n I (r_put J b (v + (if d = 0 then nI 0 else nI 65536))).2) := by
  show xx cb_G _ _ _ 111 0 [.ref 52, .int (nI b), .int d, .int v, ex_no, ex_no] [] _ _
  refine xi_aload_n (pc' := 1) rfl rfl rfl ?_
  refine xr_getp (pc' := 4) rfl rfl (by decide) rfl rfl rfl ?_
  refine xi_iload_n (pc' := 5) rfl rfl rfl ?_
  refine xr_zald (j := b) (pc' := 6) rfl rfl (by decide) (by first | rfl | (simp only [ix_add, ix_mul, ix_pred]; done) | (simp only [ix_add, ix_mul, ix_pred, *]; done)) (by omega) (by decide) rfl ?_
  refine xx_if (pc' := 9) (tg := 22) rfl rfl rfl (fun q6 => ?_) (fun q6 => ?_)
  · refine xi_iconst (pc' := 23) rfl rfl ?_
    refine xi_istore (pc' := 25) rfl (st1_4 rfl) rfl ?_
    refine xi_iload (pc' := 27) rfl rfl rfl ?_
    refine xi_ift (pc' := 44) rfl rfl (by decide) ?_
    refine xi_iconst (pc' := 45) rfl rfl ?_
    refine xi_istore (pc' := 47) rfl (st1_5 rfl) rfl ?_
    refine xi_iload (pc' := 49) rfl rfl rfl ?_
    refine xi_iff (pc' := 52) (tg := 62) rfl rfl (by decide) rfl ?_
    refine xi_aload_n (pc' := 53) rfl rfl rfl ?_
    refine xr_getp (pc' := 56) rfl rfl (by decide) rfl rfl rfl ?_
    refine xi_iload_n (pc' := 57) rfl rfl rfl ?_
    refine xi_dup2 (pc' := 58) rfl rfl rfl rfl ?_
    refine xr_iald (j := b) (pc' := 59) rfl rfl (by decide) (by first | rfl | (simp only [ix_add, ix_mul, ix_pred]; done) | (simp only [ix_add, ix_mul, ix_pred, *]; done)) (by omega) (by decide) rfl ?_
    refine xi_iconst (pc' := 60) rfl rfl ?_
    refine xi_isub (pc' := 61) rfl rfl ?_
    refine xr_iast (j := b) (pc' := 62) rfl rfl (by decide) (by first | rfl | (simp only [ix_add, ix_mul, ix_pred]; done) | (simp only [ix_add, ix_mul, ix_pred, *]; done)) (by omega) (by decide) rfl ?_
    refine xi_iload (pc' := 64) rfl rfl rfl ?_
    refine xi_ift (pc' := 79) rfl rfl (by decide) ?_
    refine xi_iload (pc' := 81) rfl rfl rfl ?_
    refine xi_ift (pc' := 96) rfl rfl (by decide) ?_
    refine xi_aload_n (pc' := 97) rfl rfl rfl ?_
    refine xr_getp (pc' := 100) rfl rfl (by decide) rfl rfl rfl ?_
    refine xi_aload_n (pc' := 101) rfl rfl rfl ?_
    refine xr_geti (pc' := 104) rfl rfl (by decide) (by decide) rfl ?_
    refine xi_bipush (pc' := 106) rfl (by decide) rfl ?_
    refine xi_irem (pc' := 107) rfl (by decide) rfl ?_
    refine xi_iload_n (pc' := 108) rfl rfl rfl ?_
    refine xi_iload_n (pc' := 109) rfl rfl rfl ?_
    refine xx_if (pc' := 112) (tg := 117) rfl rfl rfl (fun q109 => ?_) (fun q109 => ?_)
    · refine xi_iconst (pc' := 118) rfl rfl ?_
      refine xi_iadd (pc' := 119) rfl rfl ?_
      refine xi_iload (pc' := 121) rfl rfl rfl ?_
      refine xi_ift (pc' := 129) rfl rfl (by decide) ?_
      refine xi_iconst (pc' := 130) rfl rfl ?_
      refine xi_iadd (pc' := 131) rfl rfl ?_
      refine xi_iload_n (pc' := 132) rfl rfl rfl ?_
      refine xi_iconst (pc' := 133) rfl rfl ?_
      refine xx_icmp (pc' := 136) (tg := 141) rfl rfl rfl (fun q133 => ?_) (fun q133 => ?_)
      · refine xi_iconst (pc' := 142) rfl rfl ?_
        refine xi_iadd (pc' := 143) rfl rfl ?_
        refine xr_iast (j := hwOf J % 60) (pc' := 144) rfl rfl (by decide) ((congrArg (fun x => x - x / nI 60 * nI 60) hh).trans (ix_rem h31 (by decide) (by decide))) (Nat.mod_lt _ (by decide)) (by decide) rfl ?_
        refine xi_aload_n (pc' := 145) rfl rfl rfl ?_
        refine xi_dup (pc' := 146) rfl rfl rfl ?_
        refine xr_geti (pc' := 149) rfl rfl (by decide) (by decide) rfl ?_
        refine xi_iconst (pc' := 150) rfl rfl ?_
        refine xi_iadd (pc' := 151) rfl rfl ?_
        refine xr_puti (z := 0) (pc' := 154) rfl rfl (by decide) (Or.inl rfl) rfl ?_
        refine xi_iload (pc' := 156) rfl rfl rfl ?_
        refine xi_ift (pc' := 163) rfl rfl (by decide) ?_
        refine xi_iconst (pc' := 164) rfl rfl ?_
        refine xx_ireturn rfl rfl ?_
        simp only [ex_P, Classical.not_not, ↓reduceIte, or_true, true_or, not_true_eq_false, not_false_eq_true, or_false, false_or, wI_get, false_and, true_and, and_true, and_false, and_self, Nat.reduceEqDiff, Nat.succ_ne_zero, reduceCtorEq, nI_lit, nI_lit0, Nat.reduceLT] at *
        first | (simp only [r_put, r_bm, ix_0, *, ↓reduceIte, or_true, true_or, not_true_eq_false, not_false_eq_true, or_false, false_or, wI_get, false_and, true_and, and_true, and_false, and_self, Nat.reduceEqDiff, Nat.succ_ne_zero, reduceCtorEq, nI_lit, nI_lit0, Nat.reduceLT]; done) | (exfalso; simp_all only [↓reduceIte, or_true, true_or, not_true_eq_false, not_false_eq_true, or_false, false_or, wI_get, false_and, true_and, and_true, and_false, and_self, Nat.reduceEqDiff, Nat.succ_ne_zero, reduceCtorEq, nI_lit, nI_lit0, Nat.reduceLT]; done)
      · refine xx_ldc (v := nI 262144) (pc' := 138) rfl rfl (by decide) rfl ?_
        refine xi_goto (pc' := 142) rfl rfl ?_
        refine xi_iadd (pc' := 143) rfl rfl ?_
        refine xr_iast (j := hwOf J % 60) (pc' := 144) rfl rfl (by decide) ((congrArg (fun x => x - x / nI 60 * nI 60) hh).trans (ix_rem h31 (by decide) (by decide))) (Nat.mod_lt _ (by decide)) (by decide) rfl ?_
        refine xi_aload_n (pc' := 145) rfl rfl rfl ?_
        refine xi_dup (pc' := 146) rfl rfl rfl ?_
        refine xr_geti (pc' := 149) rfl rfl (by decide) (by decide) rfl ?_
        refine xi_iconst (pc' := 150) rfl rfl ?_
        refine xi_iadd (pc' := 151) rfl rfl ?_
        refine xr_puti (z := 0) (pc' := 154) rfl rfl (by decide) (Or.inl rfl) rfl ?_
        refine xi_iload (pc' := 156) rfl rfl rfl ?_
        refine xi_ift (pc' := 163) rfl rfl (by decide) ?_
        refine xi_iconst (pc' := 164) rfl rfl ?_
        refine xx_ireturn rfl rfl ?_
        simp only [ex_P, Classical.not_not, ↓reduceIte, or_true, true_or, not_true_eq_false, not_false_eq_true, or_false, false_or, wI_get, false_and, true_and, and_true, and_false, and_self, Nat.reduceEqDiff, Nat.succ_ne_zero, reduceCtorEq, nI_lit, nI_lit0, Nat.reduceLT] at *
        first | (simp only [r_put, r_bm, ix_0, *, ↓reduceIte, or_true, true_or, not_true_eq_false, not_false_eq_true, or_false, false_or, wI_get, false_and, true_and, and_true, and_false, and_self, Nat.reduceEqDiff, Nat.succ_ne_zero, reduceCtorEq, nI_lit, nI_lit0, Nat.reduceLT]; done) | (exfalso; simp_all only [↓reduceIte, or_true, true_or, not_true_eq_false, not_false_eq_true, or_false, false_or, wI_get, false_and, true_and, and_true, and_false, and_self, Nat.reduceEqDiff, Nat.succ_ne_zero, reduceCtorEq, nI_lit, nI_lit0, Nat.reduceLT]; done)
    · refine xx_ldc (v := nI 65536) (pc' := 114) rfl rfl (by decide) rfl ?_
      refine xi_goto (pc' := 118) rfl rfl ?_
      refine xi_iadd (pc' := 119) rfl rfl ?_
      refine xi_iload (pc' := 121) rfl rfl rfl ?_
      refine xi_ift (pc' := 129) rfl rfl (by decide) ?_
      refine xi_iconst (pc' := 130) rfl rfl ?_
      refine xi_iadd (pc' := 131) rfl rfl ?_
      refine xi_iload_n (pc' := 132) rfl rfl rfl ?_
      refine xi_iconst (pc' := 133) rfl rfl ?_
      refine xx_icmp (pc' := 136) (tg := 141) rfl rfl rfl (fun q133 => ?_) (fun q133 => ?_)
      · refine xi_iconst (pc' := 142) rfl rfl ?_
        refine xi_iadd (pc' := 143) rfl rfl ?_
        refine xr_iast (j := hwOf J % 60) (pc' := 144) rfl rfl (by decide) ((congrArg (fun x => x - x / nI 60 * nI 60) hh).trans (ix_rem h31 (by decide) (by decide))) (Nat.mod_lt _ (by decide)) (by decide) rfl ?_
        refine xi_aload_n (pc' := 145) rfl rfl rfl ?_
        refine xi_dup (pc' := 146) rfl rfl rfl ?_
        refine xr_geti (pc' := 149) rfl rfl (by decide) (by decide) rfl ?_
        refine xi_iconst (pc' := 150) rfl rfl ?_
        refine xi_iadd (pc' := 151) rfl rfl ?_
        refine xr_puti (z := 0) (pc' := 154) rfl rfl (by decide) (Or.inl rfl) rfl ?_
        refine xi_iload (pc' := 156) rfl rfl rfl ?_
        refine xi_ift (pc' := 163) rfl rfl (by decide) ?_
        refine xi_iconst (pc' := 164) rfl rfl ?_
        refine xx_ireturn rfl rfl ?_
        simp only [ex_P, Classical.not_not, ↓reduceIte, or_true, true_or, not_true_eq_false, not_false_eq_true, or_false, false_or, wI_get, false_and, true_and, and_true, and_false, and_self, Nat.reduceEqDiff, Nat.succ_ne_zero, reduceCtorEq, nI_lit, nI_lit0, Nat.reduceLT] at *
        first | (simp only [r_put, r_bm, ix_0, *, ↓reduceIte, or_true, true_or, not_true_eq_false, not_false_eq_true, or_false, false_or, wI_get, false_and, true_and, and_true, and_false, and_self, Nat.reduceEqDiff, Nat.succ_ne_zero, reduceCtorEq, nI_lit, nI_lit0, Nat.reduceLT]; done) | (exfalso; simp_all only [↓reduceIte, or_true, true_or, not_true_eq_false, not_false_eq_true, or_false, false_or, wI_get, false_and, true_and, and_true, and_false, and_self, Nat.reduceEqDiff, Nat.succ_ne_zero, reduceCtorEq, nI_lit, nI_lit0, Nat.reduceLT]; done)
      · refine xx_ldc (v := nI 262144) (pc' := 138) rfl rfl (by decide) rfl ?_
        refine xi_goto (pc' := 142) rfl rfl ?_
        refine xi_iadd (pc' := 143) rfl rfl ?_
        refine xr_iast (j := hwOf J % 60) (pc' := 144) rfl rfl (by decide) ((congrArg (fun x => x - x / nI 60 * nI 60) hh).trans (ix_rem h31 (by decide) (by decide))) (Nat.mod_lt _ (by decide)) (by decide) rfl ?_
        refine xi_aload_n (pc' := 145) rfl rfl rfl ?_
        refine xi_dup (pc' := 146) rfl rfl rfl ?_
        refine xr_geti (pc' := 149) rfl rfl (by decide) (by decide) rfl ?_
        refine xi_iconst (pc' := 150) rfl rfl ?_
        refine xi_iadd (pc' := 151) rfl rfl ?_
        refine xr_puti (z := 0) (pc' := 154) rfl rfl (by decide) (Or.inl rfl) rfl ?_
        refine xi_iload (pc' := 156) rfl rfl rfl ?_
        refine xi_ift (pc' := 163) rfl rfl (by decide) ?_
        refine xi_iconst (pc' := 164) rfl rfl ?_
        refine xx_ireturn rfl rfl ?_
        simp only [ex_P, Classical.not_not, ↓reduceIte, or_true, true_or, not_true_eq_false, not_false_eq_true, or_false, false_or, wI_get, false_and, true_and, and_true, and_false, and_self, Nat.reduceEqDiff, Nat.succ_ne_zero, reduceCtorEq, nI_lit, nI_lit0, Nat.reduceLT] at *
        first | (simp only [r_put, r_bm, ix_0, *, ↓reduceIte, or_true, true_or, not_true_eq_false, not_false_eq_true, or_false, false_or, wI_get, false_and, true_and, and_true, and_false, and_self, Nat.reduceEqDiff, Nat.succ_ne_zero, reduceCtorEq, nI_lit, nI_lit0, Nat.reduceLT]; done) | (exfalso; simp_all only [↓reduceIte, or_true, true_or, not_true_eq_false, not_false_eq_true, or_false, false_or, wI_get, false_and, true_and, and_true, and_false, and_self, Nat.reduceEqDiff, Nat.succ_ne_zero, reduceCtorEq, nI_lit, nI_lit0, Nat.reduceLT]; done)
  · refine xi_aload_n (pc' := 10) rfl rfl rfl ?_
    refine xr_getp (pc' := 13) rfl rfl (by decide) rfl rfl rfl ?_
    refine xi_iload_n (pc' := 14) rfl rfl rfl ?_
    refine xr_iald (j := b) (pc' := 15) rfl rfl (by decide) (by first | rfl | (simp only [ix_add, ix_mul, ix_pred]; done) | (simp only [ix_add, ix_mul, ix_pred, *]; done)) (by omega) (by decide) rfl ?_
    refine xx_if (pc' := 18) (tg := 22) rfl rfl rfl (fun q15 => ?_) (fun q15 => ?_)
    · refine xi_iconst (pc' := 23) rfl rfl ?_
      refine xi_istore (pc' := 25) rfl (st1_4 rfl) rfl ?_
      refine xi_iload (pc' := 27) rfl rfl rfl ?_
      refine xi_ift (pc' := 44) rfl rfl (by decide) ?_
      refine xi_iconst (pc' := 45) rfl rfl ?_
      refine xi_istore (pc' := 47) rfl (st1_5 rfl) rfl ?_
      refine xi_iload (pc' := 49) rfl rfl rfl ?_
      refine xi_iff (pc' := 52) (tg := 62) rfl rfl (by decide) rfl ?_
      refine xi_aload_n (pc' := 53) rfl rfl rfl ?_
      refine xr_getp (pc' := 56) rfl rfl (by decide) rfl rfl rfl ?_
      refine xi_iload_n (pc' := 57) rfl rfl rfl ?_
      refine xi_dup2 (pc' := 58) rfl rfl rfl rfl ?_
      refine xr_iald (j := b) (pc' := 59) rfl rfl (by decide) (by first | rfl | (simp only [ix_add, ix_mul, ix_pred]; done) | (simp only [ix_add, ix_mul, ix_pred, *]; done)) (by omega) (by decide) rfl ?_
      refine xi_iconst (pc' := 60) rfl rfl ?_
      refine xi_isub (pc' := 61) rfl rfl ?_
      refine xr_iast (j := b) (pc' := 62) rfl rfl (by decide) (by first | rfl | (simp only [ix_add, ix_mul, ix_pred]; done) | (simp only [ix_add, ix_mul, ix_pred, *]; done)) (by omega) (by decide) rfl ?_
      refine xi_iload (pc' := 64) rfl rfl rfl ?_
      refine xi_ift (pc' := 79) rfl rfl (by decide) ?_
      refine xi_iload (pc' := 81) rfl rfl rfl ?_
      refine xi_ift (pc' := 96) rfl rfl (by decide) ?_
      refine xi_aload_n (pc' := 97) rfl rfl rfl ?_
      refine xr_getp (pc' := 100) rfl rfl (by decide) rfl rfl rfl ?_
      refine xi_aload_n (pc' := 101) rfl rfl rfl ?_
      refine xr_geti (pc' := 104) rfl rfl (by decide) (by decide) rfl ?_
      refine xi_bipush (pc' := 106) rfl (by decide) rfl ?_
      refine xi_irem (pc' := 107) rfl (by decide) rfl ?_
      refine xi_iload_n (pc' := 108) rfl rfl rfl ?_
      refine xi_iload_n (pc' := 109) rfl rfl rfl ?_
      refine xx_if (pc' := 112) (tg := 117) rfl rfl rfl (fun q109 => ?_) (fun q109 => ?_)
      · refine xi_iconst (pc' := 118) rfl rfl ?_
        refine xi_iadd (pc' := 119) rfl rfl ?_
        refine xi_iload (pc' := 121) rfl rfl rfl ?_
        refine xi_ift (pc' := 129) rfl rfl (by decide) ?_
        refine xi_iconst (pc' := 130) rfl rfl ?_
        refine xi_iadd (pc' := 131) rfl rfl ?_
        refine xi_iload_n (pc' := 132) rfl rfl rfl ?_
        refine xi_iconst (pc' := 133) rfl rfl ?_
        refine xx_icmp (pc' := 136) (tg := 141) rfl rfl rfl (fun q133 => ?_) (fun q133 => ?_)
        · refine xi_iconst (pc' := 142) rfl rfl ?_
          refine xi_iadd (pc' := 143) rfl rfl ?_
          refine xr_iast (j := hwOf J % 60) (pc' := 144) rfl rfl (by decide) ((congrArg (fun x => x - x / nI 60 * nI 60) hh).trans (ix_rem h31 (by decide) (by decide))) (Nat.mod_lt _ (by decide)) (by decide) rfl ?_
          refine xi_aload_n (pc' := 145) rfl rfl rfl ?_
          refine xi_dup (pc' := 146) rfl rfl rfl ?_
          refine xr_geti (pc' := 149) rfl rfl (by decide) (by decide) rfl ?_
          refine xi_iconst (pc' := 150) rfl rfl ?_
          refine xi_iadd (pc' := 151) rfl rfl ?_
          refine xr_puti (z := 0) (pc' := 154) rfl rfl (by decide) (Or.inl rfl) rfl ?_
          refine xi_iload (pc' := 156) rfl rfl rfl ?_
          refine xi_ift (pc' := 163) rfl rfl (by decide) ?_
          refine xi_iconst (pc' := 164) rfl rfl ?_
          refine xx_ireturn rfl rfl ?_
          simp only [ex_P, Classical.not_not, ↓reduceIte, or_true, true_or, not_true_eq_false, not_false_eq_true, or_false, false_or, wI_get, false_and, true_and, and_true, and_false, and_self, Nat.reduceEqDiff, Nat.succ_ne_zero, reduceCtorEq, nI_lit, nI_lit0, Nat.reduceLT] at *
          first | (simp only [r_put, r_bm, ix_0, *, ↓reduceIte, or_true, true_or, not_true_eq_false, not_false_eq_true, or_false, false_or, wI_get, false_and, true_and, and_true, and_false, and_self, Nat.reduceEqDiff, Nat.succ_ne_zero, reduceCtorEq, nI_lit, nI_lit0, Nat.reduceLT]; done) | (exfalso; simp_all only [↓reduceIte, or_true, true_or, not_true_eq_false, not_false_eq_true, or_false, false_or, wI_get, false_and, true_and, and_true, and_false, and_self, Nat.reduceEqDiff, Nat.succ_ne_zero, reduceCtorEq, nI_lit, nI_lit0, Nat.reduceLT]; done)
        · refine xx_ldc (v := nI 262144) (pc' := 138) rfl rfl (by decide) rfl ?_
          refine xi_goto (pc' := 142) rfl rfl ?_
          refine xi_iadd (pc' := 143) rfl rfl ?_
          refine xr_iast (j := hwOf J % 60) (pc' := 144) rfl rfl (by decide) ((congrArg (fun x => x - x / nI 60 * nI 60) hh).trans (ix_rem h31 (by decide) (by decide))) (Nat.mod_lt _ (by decide)) (by decide) rfl ?_
          refine xi_aload_n (pc' := 145) rfl rfl rfl ?_
          refine xi_dup (pc' := 146) rfl rfl rfl ?_
          refine xr_geti (pc' := 149) rfl rfl (by decide) (by decide) rfl ?_
          refine xi_iconst (pc' := 150) rfl rfl ?_
          refine xi_iadd (pc' := 151) rfl rfl ?_
          refine xr_puti (z := 0) (pc' := 154) rfl rfl (by decide) (Or.inl rfl) rfl ?_
          refine xi_iload (pc' := 156) rfl rfl rfl ?_
          refine xi_ift (pc' := 163) rfl rfl (by decide) ?_
          refine xi_iconst (pc' := 164) rfl rfl ?_
          refine xx_ireturn rfl rfl ?_
          simp only [ex_P, Classical.not_not, ↓reduceIte, or_true, true_or, not_true_eq_false, not_false_eq_true, or_false, false_or, wI_get, false_and, true_and, and_true, and_false, and_self, Nat.reduceEqDiff, Nat.succ_ne_zero, reduceCtorEq, nI_lit, nI_lit0, Nat.reduceLT] at *
          first | (simp only [r_put, r_bm, ix_0, *, ↓reduceIte, or_true, true_or, not_true_eq_false, not_false_eq_true, or_false, false_or, wI_get, false_and, true_and, and_true, and_false, and_self, Nat.reduceEqDiff, Nat.succ_ne_zero, reduceCtorEq, nI_lit, nI_lit0, Nat.reduceLT]; done) | (exfalso; simp_all only [↓reduceIte, or_true, true_or, not_true_eq_false, not_false_eq_true, or_false, false_or, wI_get, false_and, true_and, and_true, and_false, and_self, Nat.reduceEqDiff, Nat.succ_ne_zero, reduceCtorEq, nI_lit, nI_lit0, Nat.reduceLT]; done)
      · refine xx_ldc (v := nI 65536) (pc' := 114) rfl rfl (by decide) rfl ?_
        refine xi_goto (pc' := 118) rfl rfl ?_
        refine xi_iadd (pc' := 119) rfl rfl ?_
        refine xi_iload (pc' := 121) rfl rfl rfl ?_
        refine xi_ift (pc' := 129) rfl rfl (by decide) ?_
        refine xi_iconst (pc' := 130) rfl rfl ?_
        refine xi_iadd (pc' := 131) rfl rfl ?_
        refine xi_iload_n (pc' := 132) rfl rfl rfl ?_
        refine xi_iconst (pc' := 133) rfl rfl ?_
        refine xx_icmp (pc' := 136) (tg := 141) rfl rfl rfl (fun q133 => ?_) (fun q133 => ?_)
        · refine xi_iconst (pc' := 142) rfl rfl ?_
          refine xi_iadd (pc' := 143) rfl rfl ?_
          refine xr_iast (j := hwOf J % 60) (pc' := 144) rfl rfl (by decide) ((congrArg (fun x => x - x / nI 60 * nI 60) hh).trans (ix_rem h31 (by decide) (by decide))) (Nat.mod_lt _ (by decide)) (by decide) rfl ?_
          refine xi_aload_n (pc' := 145) rfl rfl rfl ?_
          refine xi_dup (pc' := 146) rfl rfl rfl ?_
          refine xr_geti (pc' := 149) rfl rfl (by decide) (by decide) rfl ?_
          refine xi_iconst (pc' := 150) rfl rfl ?_
          refine xi_iadd (pc' := 151) rfl rfl ?_
          refine xr_puti (z := 0) (pc' := 154) rfl rfl (by decide) (Or.inl rfl) rfl ?_
          refine xi_iload (pc' := 156) rfl rfl rfl ?_
          refine xi_ift (pc' := 163) rfl rfl (by decide) ?_
          refine xi_iconst (pc' := 164) rfl rfl ?_
          refine xx_ireturn rfl rfl ?_
          simp only [ex_P, Classical.not_not, ↓reduceIte, or_true, true_or, not_true_eq_false, not_false_eq_true, or_false, false_or, wI_get, false_and, true_and, and_true, and_false, and_self, Nat.reduceEqDiff, Nat.succ_ne_zero, reduceCtorEq, nI_lit, nI_lit0, Nat.reduceLT] at *
          first | (simp only [r_put, r_bm, ix_0, *, ↓reduceIte, or_true, true_or, not_true_eq_false, not_false_eq_true, or_false, false_or, wI_get, false_and, true_and, and_true, and_false, and_self, Nat.reduceEqDiff, Nat.succ_ne_zero, reduceCtorEq, nI_lit, nI_lit0, Nat.reduceLT]; done) | (exfalso; simp_all only [↓reduceIte, or_true, true_or, not_true_eq_false, not_false_eq_true, or_false, false_or, wI_get, false_and, true_and, and_true, and_false, and_self, Nat.reduceEqDiff, Nat.succ_ne_zero, reduceCtorEq, nI_lit, nI_lit0, Nat.reduceLT]; done)
        · refine xx_ldc (v := nI 262144) (pc' := 138) rfl rfl (by decide) rfl ?_
          refine xi_goto (pc' := 142) rfl rfl ?_
          refine xi_iadd (pc' := 143) rfl rfl ?_
          refine xr_iast (j := hwOf J % 60) (pc' := 144) rfl rfl (by decide) ((congrArg (fun x => x - x / nI 60 * nI 60) hh).trans (ix_rem h31 (by decide) (by decide))) (Nat.mod_lt _ (by decide)) (by decide) rfl ?_
          refine xi_aload_n (pc' := 145) rfl rfl rfl ?_
          refine xi_dup (pc' := 146) rfl rfl rfl ?_
          refine xr_geti (pc' := 149) rfl rfl (by decide) (by decide) rfl ?_
          refine xi_iconst (pc' := 150) rfl rfl ?_
          refine xi_iadd (pc' := 151) rfl rfl ?_
          refine xr_puti (z := 0) (pc' := 154) rfl rfl (by decide) (Or.inl rfl) rfl ?_
          refine xi_iload (pc' := 156) rfl rfl rfl ?_
          refine xi_ift (pc' := 163) rfl rfl (by decide) ?_
          refine xi_iconst (pc' := 164) rfl rfl ?_
          refine xx_ireturn rfl rfl ?_
          simp only [ex_P, Classical.not_not, ↓reduceIte, or_true, true_or, not_true_eq_false, not_false_eq_true, or_false, false_or, wI_get, false_and, true_and, and_true, and_false, and_self, Nat.reduceEqDiff, Nat.succ_ne_zero, reduceCtorEq, nI_lit, nI_lit0, Nat.reduceLT] at *
          first | (simp only [r_put, r_bm, ix_0, *, ↓reduceIte, or_true, true_or, not_true_eq_false, not_false_eq_true, or_false, false_or, wI_get, false_and, true_and, and_true, and_false, and_self, Nat.reduceEqDiff, Nat.succ_ne_zero, reduceCtorEq, nI_lit, nI_lit0, Nat.reduceLT]; done) | (exfalso; simp_all only [↓reduceIte, or_true, true_or, not_true_eq_false, not_false_eq_true, or_false, false_or, wI_get, false_and, true_and, and_true, and_false, and_self, Nat.reduceEqDiff, Nat.succ_ne_zero, reduceCtorEq, nI_lit, nI_lit0, Nat.reduceLT]; done)
    · refine xi_iconst (pc' := 19) rfl rfl ?_
      refine xi_goto (pc' := 23) rfl rfl ?_
      refine xi_istore (pc' := 25) rfl (st1_4 rfl) rfl ?_
      refine xi_iload (pc' := 27) rfl rfl rfl ?_
      refine xi_iff (pc' := 30) (tg := 44) rfl rfl (by decide) rfl ?_
      refine xi_aload_n (pc' := 31) rfl rfl rfl ?_
      refine xr_getp (pc' := 34) rfl rfl (by decide) rfl rfl rfl ?_
      refine xi_iload_n (pc' := 35) rfl rfl rfl ?_
      refine xr_iald (j := b) (pc' := 36) rfl rfl (by decide) (by first | rfl | (simp only [ix_add, ix_mul, ix_pred]; done) | (simp only [ix_add, ix_mul, ix_pred, *]; done)) (by omega) (by decide) rfl ?_
      refine xi_iconst (pc' := 37) rfl rfl ?_
      refine xx_icmp (pc' := 40) (tg := 44) rfl rfl rfl (fun q37 => ?_) (fun q37 => ?_)
      · refine xi_iconst (pc' := 45) rfl rfl ?_
        refine xi_istore (pc' := 47) rfl (st1_5 rfl) rfl ?_
        refine xi_iload (pc' := 49) rfl rfl rfl ?_
        refine xi_iff (pc' := 52) (tg := 62) rfl rfl (by decide) rfl ?_
        refine xi_aload_n (pc' := 53) rfl rfl rfl ?_
        refine xr_getp (pc' := 56) rfl rfl (by decide) rfl rfl rfl ?_
        refine xi_iload_n (pc' := 57) rfl rfl rfl ?_
        refine xi_dup2 (pc' := 58) rfl rfl rfl rfl ?_
        refine xr_iald (j := b) (pc' := 59) rfl rfl (by decide) (by first | rfl | (simp only [ix_add, ix_mul, ix_pred]; done) | (simp only [ix_add, ix_mul, ix_pred, *]; done)) (by omega) (by decide) rfl ?_
        refine xi_iconst (pc' := 60) rfl rfl ?_
        refine xi_isub (pc' := 61) rfl rfl ?_
        refine xr_iast (j := b) (pc' := 62) rfl rfl (by decide) (by first | rfl | (simp only [ix_add, ix_mul, ix_pred]; done) | (simp only [ix_add, ix_mul, ix_pred, *]; done)) (by omega) (by decide) rfl ?_
        refine xi_iload (pc' := 64) rfl rfl rfl ?_
        refine xi_iff (pc' := 67) (tg := 79) rfl rfl (by decide) rfl ?_
        refine xi_iload (pc' := 69) rfl rfl rfl ?_
        refine xi_iff (pc' := 72) (tg := 79) rfl rfl (by decide) rfl ?_
        refine xi_aload_n (pc' := 73) rfl rfl rfl ?_
        refine xr_getp (pc' := 76) rfl rfl (by decide) rfl rfl rfl ?_
        refine xi_iload_n (pc' := 77) rfl rfl rfl ?_
        refine xi_iconst (pc' := 78) rfl rfl ?_
        refine xr_zast (j := b) (pc' := 79) rfl rfl (by decide) (by first | rfl | (simp only [ix_add, ix_mul, ix_pred]; done) | (simp only [ix_add, ix_mul, ix_pred, *]; done)) (by omega) (by decide) (by decide) rfl ?_
        refine xi_iload (pc' := 81) rfl rfl rfl ?_
        refine xi_iff (pc' := 84) (tg := 96) rfl rfl (by decide) rfl ?_
        refine xi_aload_n (pc' := 85) rfl rfl rfl ?_
        refine xr_getp (pc' := 88) rfl rfl (by decide) rfl rfl rfl ?_
        refine xi_iload_n (pc' := 89) rfl rfl rfl ?_
        refine xr_iald (j := b) (pc' := 90) rfl rfl (by decide) (by first | rfl | (simp only [ix_add, ix_mul, ix_pred]; done) | (simp only [ix_add, ix_mul, ix_pred, *]; done)) (by omega) (by decide) rfl ?_
        refine xi_iconst (pc' := 91) rfl rfl ?_
        refine xx_icmp (pc' := 94) (tg := 96) rfl rfl rfl (fun q91 => ?_) (fun q91 => ?_)
        · refine xi_aload_n (pc' := 97) rfl rfl rfl ?_
          refine xr_getp (pc' := 100) rfl rfl (by decide) rfl rfl rfl ?_
          refine xi_aload_n (pc' := 101) rfl rfl rfl ?_
          refine xr_geti (pc' := 104) rfl rfl (by decide) (by decide) rfl ?_
          refine xi_bipush (pc' := 106) rfl (by decide) rfl ?_
          refine xi_irem (pc' := 107) rfl (by decide) rfl ?_
          refine xi_iload_n (pc' := 108) rfl rfl rfl ?_
          refine xi_iload_n (pc' := 109) rfl rfl rfl ?_
          refine xx_if (pc' := 112) (tg := 117) rfl rfl rfl (fun q109 => ?_) (fun q109 => ?_)
          · refine xi_iconst (pc' := 118) rfl rfl ?_
            refine xi_iadd (pc' := 119) rfl rfl ?_
            refine xi_iload (pc' := 121) rfl rfl rfl ?_
            refine xi_iff (pc' := 124) (tg := 129) rfl rfl (by decide) rfl ?_
            refine xx_ldc (v := nI 131072) (pc' := 126) rfl rfl (by decide) rfl ?_
            refine xi_goto (pc' := 130) rfl rfl ?_
            refine xi_iadd (pc' := 131) rfl rfl ?_
            refine xi_iload_n (pc' := 132) rfl rfl rfl ?_
            refine xi_iconst (pc' := 133) rfl rfl ?_
            refine xx_icmp (pc' := 136) (tg := 141) rfl rfl rfl (fun q133 => ?_) (fun q133 => ?_)
            · refine xi_iconst (pc' := 142) rfl rfl ?_
              refine xi_iadd (pc' := 143) rfl rfl ?_
              refine xr_iast (j := hwOf J % 60) (pc' := 144) rfl rfl (by decide) ((congrArg (fun x => x - x / nI 60 * nI 60) hh).trans (ix_rem h31 (by decide) (by decide))) (Nat.mod_lt _ (by decide)) (by decide) rfl ?_
              refine xi_aload_n (pc' := 145) rfl rfl rfl ?_
              refine xi_dup (pc' := 146) rfl rfl rfl ?_
              refine xr_geti (pc' := 149) rfl rfl (by decide) (by decide) rfl ?_
              refine xi_iconst (pc' := 150) rfl rfl ?_
              refine xi_iadd (pc' := 151) rfl rfl ?_
              refine xr_puti (z := 0) (pc' := 154) rfl rfl (by decide) (Or.inl rfl) rfl ?_
              refine xi_iload (pc' := 156) rfl rfl rfl ?_
              refine xi_iff (pc' := 159) (tg := 163) rfl rfl (by decide) rfl ?_
              refine xi_iconst (pc' := 160) rfl rfl ?_
              refine xi_goto (pc' := 164) rfl rfl ?_
              refine xx_ireturn rfl rfl ?_
              simp only [ex_P, Classical.not_not, ↓reduceIte, or_true, true_or, not_true_eq_false, not_false_eq_true, or_false, false_or, wI_get, false_and, true_and, and_true, and_false, and_self, Nat.reduceEqDiff, Nat.succ_ne_zero, reduceCtorEq, nI_lit, nI_lit0, Nat.reduceLT] at *
              first | (simp only [r_put, r_bm, ix_0, *, ↓reduceIte, or_true, true_or, not_true_eq_false, not_false_eq_true, or_false, false_or, wI_get, false_and, true_and, and_true, and_false, and_self, Nat.reduceEqDiff, Nat.succ_ne_zero, reduceCtorEq, nI_lit, nI_lit0, Nat.reduceLT]; done) | (exfalso; simp_all only [↓reduceIte, or_true, true_or, not_true_eq_false, not_false_eq_true, or_false, false_or, wI_get, false_and, true_and, and_true, and_false, and_self, Nat.reduceEqDiff, Nat.succ_ne_zero, reduceCtorEq, nI_lit, nI_lit0, Nat.reduceLT]; done)
            · refine xx_ldc (v := nI 262144) (pc' := 138) rfl rfl (by decide) rfl ?_
              refine xi_goto (pc' := 142) rfl rfl ?_
              refine xi_iadd (pc' := 143) rfl rfl ?_
              refine xr_iast (j := hwOf J % 60) (pc' := 144) rfl rfl (by decide) ((congrArg (fun x => x - x / nI 60 * nI 60) hh).trans (ix_rem h31 (by decide) (by decide))) (Nat.mod_lt _ (by decide)) (by decide) rfl ?_
              refine xi_aload_n (pc' := 145) rfl rfl rfl ?_
              refine xi_dup (pc' := 146) rfl rfl rfl ?_
              refine xr_geti (pc' := 149) rfl rfl (by decide) (by decide) rfl ?_
              refine xi_iconst (pc' := 150) rfl rfl ?_
              refine xi_iadd (pc' := 151) rfl rfl ?_
              refine xr_puti (z := 0) (pc' := 154) rfl rfl (by decide) (Or.inl rfl) rfl ?_
              refine xi_iload (pc' := 156) rfl rfl rfl ?_
              refine xi_iff (pc' := 159) (tg := 163) rfl rfl (by decide) rfl ?_
              refine xi_iconst (pc' := 160) rfl rfl ?_
              refine xi_goto (pc' := 164) rfl rfl ?_
              refine xx_ireturn rfl rfl ?_
              simp only [ex_P, Classical.not_not, ↓reduceIte, or_true, true_or, not_true_eq_false, not_false_eq_true, or_false, false_or, wI_get, false_and, true_and, and_true, and_false, and_self, Nat.reduceEqDiff, Nat.succ_ne_zero, reduceCtorEq, nI_lit, nI_lit0, Nat.reduceLT] at *
              first | (simp only [r_put, r_bm, ix_0, *, ↓reduceIte, or_true, true_or, not_true_eq_false, not_false_eq_true, or_false, false_or, wI_get, false_and, true_and, and_true, and_false, and_self, Nat.reduceEqDiff, Nat.succ_ne_zero, reduceCtorEq, nI_lit, nI_lit0, Nat.reduceLT]; done) | (exfalso; simp_all only [↓reduceIte, or_true, true_or, not_true_eq_false, not_false_eq_true, or_false, false_or, wI_get, false_and, true_and, and_true, and_false, and_self, Nat.reduceEqDiff, Nat.succ_ne_zero, reduceCtorEq, nI_lit, nI_lit0, Nat.reduceLT]; done)
          · refine xx_ldc (v := nI 65536) (pc' := 114) rfl rfl (by decide) rfl ?_
            refine xi_goto (pc' := 118) rfl rfl ?_
            refine xi_iadd (pc' := 119) rfl rfl ?_
            refine xi_iload (pc' := 121) rfl rfl rfl ?_
            refine xi_iff (pc' := 124) (tg := 129) rfl rfl (by decide) rfl ?_
            refine xx_ldc (v := nI 131072) (pc' := 126) rfl rfl (by decide) rfl ?_
            refine xi_goto (pc' := 130) rfl rfl ?_
            refine xi_iadd (pc' := 131) rfl rfl ?_
            refine xi_iload_n (pc' := 132) rfl rfl rfl ?_
            refine xi_iconst (pc' := 133) rfl rfl ?_
            refine xx_icmp (pc' := 136) (tg := 141) rfl rfl rfl (fun q133 => ?_) (fun q133 => ?_)
            · refine xi_iconst (pc' := 142) rfl rfl ?_
              refine xi_iadd (pc' := 143) rfl rfl ?_
              refine xr_iast (j := hwOf J % 60) (pc' := 144) rfl rfl (by decide) ((congrArg (fun x => x - x / nI 60 * nI 60) hh).trans (ix_rem h31 (by decide) (by decide))) (Nat.mod_lt _ (by decide)) (by decide) rfl ?_
              refine xi_aload_n (pc' := 145) rfl rfl rfl ?_
              refine xi_dup (pc' := 146) rfl rfl rfl ?_
              refine xr_geti (pc' := 149) rfl rfl (by decide) (by decide) rfl ?_
              refine xi_iconst (pc' := 150) rfl rfl ?_
              refine xi_iadd (pc' := 151) rfl rfl ?_
              refine xr_puti (z := 0) (pc' := 154) rfl rfl (by decide) (Or.inl rfl) rfl ?_
              refine xi_iload (pc' := 156) rfl rfl rfl ?_
              refine xi_iff (pc' := 159) (tg := 163) rfl rfl (by decide) rfl ?_
              refine xi_iconst (pc' := 160) rfl rfl ?_
              refine xi_goto (pc' := 164) rfl rfl ?_
              refine xx_ireturn rfl rfl ?_
              simp only [ex_P, Classical.not_not, ↓reduceIte, or_true, true_or, not_true_eq_false, not_false_eq_true, or_false, false_or, wI_get, false_and, true_and, and_true, and_false, and_self, Nat.reduceEqDiff, Nat.succ_ne_zero, reduceCtorEq, nI_lit, nI_lit0, Nat.reduceLT] at *
              first | (simp only [r_put, r_bm, ix_0, *, ↓reduceIte, or_true, true_or, not_true_eq_false, not_false_eq_true, or_false, false_or, wI_get, false_and, true_and, and_true, and_false, and_self, Nat.reduceEqDiff, Nat.succ_ne_zero, reduceCtorEq, nI_lit, nI_lit0, Nat.reduceLT]; done) | (exfalso; simp_all only [↓reduceIte, or_true, true_or, not_true_eq_false, not_false_eq_true, or_false, false_or, wI_get, false_and, true_and, and_true, and_false, and_self, Nat.reduceEqDiff, Nat.succ_ne_zero, reduceCtorEq, nI_lit, nI_lit0, Nat.reduceLT]; done)
            · refine xx_ldc (v := nI 262144) (pc' := 138) rfl rfl (by decide) rfl ?_
              refine xi_goto (pc' := 142) rfl rfl ?_
              refine xi_iadd (pc' := 143) rfl rfl ?_
              refine xr_iast (j := hwOf J % 60) (pc' := 144) rfl rfl (by decide) ((congrArg (fun x => x - x / nI 60 * nI 60) hh).trans (ix_rem h31 (by decide) (by decide))) (Nat.mod_lt _ (by decide)) (by decide) rfl ?_
              refine xi_aload_n (pc' := 145) rfl rfl rfl ?_
              refine xi_dup (pc' := 146) rfl rfl rfl ?_
              refine xr_geti (pc' := 149) rfl rfl (by decide) (by decide) rfl ?_
              refine xi_iconst (pc' := 150) rfl rfl ?_
              refine xi_iadd (pc' := 151) rfl rfl ?_
              refine xr_puti (z := 0) (pc' := 154) rfl rfl (by decide) (Or.inl rfl) rfl ?_
              refine xi_iload (pc' := 156) rfl rfl rfl ?_
              refine xi_iff (pc' := 159) (tg := 163) rfl rfl (by decide) rfl ?_
              refine xi_iconst (pc' := 160) rfl rfl ?_
              refine xi_goto (pc' := 164) rfl rfl ?_
              refine xx_ireturn rfl rfl ?_
              simp only [ex_P, Classical.not_not, ↓reduceIte, or_true, true_or, not_true_eq_false, not_false_eq_true, or_false, false_or, wI_get, false_and, true_and, and_true, and_false, and_self, Nat.reduceEqDiff, Nat.succ_ne_zero, reduceCtorEq, nI_lit, nI_lit0, Nat.reduceLT] at *
              first | (simp only [r_put, r_bm, ix_0, *, ↓reduceIte, or_true, true_or, not_true_eq_false, not_false_eq_true, or_false, false_or, wI_get, false_and, true_and, and_true, and_false, and_self, Nat.reduceEqDiff, Nat.succ_ne_zero, reduceCtorEq, nI_lit, nI_lit0, Nat.reduceLT]; done) | (exfalso; simp_all only [↓reduceIte, or_true, true_or, not_true_eq_false, not_false_eq_true, or_false, false_or, wI_get, false_and, true_and, and_true, and_false, and_self, Nat.reduceEqDiff, Nat.succ_ne_zero, reduceCtorEq, nI_lit, nI_lit0, Nat.reduceLT]; done)
        · refine xi_iconst (pc' := 95) rfl rfl ?_
          refine xx_ireturn rfl rfl ?_
          simp only [ex_P, Classical.not_not, ↓reduceIte, or_true, true_or, not_true_eq_false, not_false_eq_true, or_false, false_or, wI_get, false_and, true_and, and_true, and_false, and_self, Nat.reduceEqDiff, Nat.succ_ne_zero, reduceCtorEq, nI_lit, nI_lit0, Nat.reduceLT] at *
          first | (simp only [r_put, r_bm, ix_0, *, ↓reduceIte, or_true, true_or, not_true_eq_false, not_false_eq_true, or_false, false_or, wI_get, false_and, true_and, and_true, and_false, and_self, Nat.reduceEqDiff, Nat.succ_ne_zero, reduceCtorEq, nI_lit, nI_lit0, Nat.reduceLT]; done) | (exfalso; simp_all only [↓reduceIte, or_true, true_or, not_true_eq_false, not_false_eq_true, or_false, false_or, wI_get, false_and, true_and, and_true, and_false, and_self, Nat.reduceEqDiff, Nat.succ_ne_zero, reduceCtorEq, nI_lit, nI_lit0, Nat.reduceLT]; done)
      · refine xi_iconst (pc' := 41) rfl rfl ?_
        refine xi_goto (pc' := 45) rfl rfl ?_
        refine xi_istore (pc' := 47) rfl (st1_5 rfl) rfl ?_
        refine xi_iload (pc' := 49) rfl rfl rfl ?_
        refine xi_ift (pc' := 62) rfl rfl (by decide) ?_
        refine xi_iload (pc' := 64) rfl rfl rfl ?_
        refine xi_iff (pc' := 67) (tg := 79) rfl rfl (by decide) rfl ?_
        refine xi_iload (pc' := 69) rfl rfl rfl ?_
        refine xi_ift (pc' := 79) rfl rfl (by decide) ?_
        refine xi_iload (pc' := 81) rfl rfl rfl ?_
        refine xi_iff (pc' := 84) (tg := 96) rfl rfl (by decide) rfl ?_
        refine xi_aload_n (pc' := 85) rfl rfl rfl ?_
        refine xr_getp (pc' := 88) rfl rfl (by decide) rfl rfl rfl ?_
        refine xi_iload_n (pc' := 89) rfl rfl rfl ?_
        refine xr_iald (j := b) (pc' := 90) rfl rfl (by decide) (by first | rfl | (simp only [ix_add, ix_mul, ix_pred]; done) | (simp only [ix_add, ix_mul, ix_pred, *]; done)) (by omega) (by decide) rfl ?_
        refine xi_iconst (pc' := 91) rfl rfl ?_
        refine xx_icmp (pc' := 94) (tg := 96) rfl rfl rfl (fun q91 => ?_) (fun q91 => ?_)
        · refine xi_aload_n (pc' := 97) rfl rfl rfl ?_
          refine xr_getp (pc' := 100) rfl rfl (by decide) rfl rfl rfl ?_
          refine xi_aload_n (pc' := 101) rfl rfl rfl ?_
          refine xr_geti (pc' := 104) rfl rfl (by decide) (by decide) rfl ?_
          refine xi_bipush (pc' := 106) rfl (by decide) rfl ?_
          refine xi_irem (pc' := 107) rfl (by decide) rfl ?_
          refine xi_iload_n (pc' := 108) rfl rfl rfl ?_
          refine xi_iload_n (pc' := 109) rfl rfl rfl ?_
          refine xx_if (pc' := 112) (tg := 117) rfl rfl rfl (fun q109 => ?_) (fun q109 => ?_)
          · refine xi_iconst (pc' := 118) rfl rfl ?_
            refine xi_iadd (pc' := 119) rfl rfl ?_
            refine xi_iload (pc' := 121) rfl rfl rfl ?_
            refine xi_iff (pc' := 124) (tg := 129) rfl rfl (by decide) rfl ?_
            refine xx_ldc (v := nI 131072) (pc' := 126) rfl rfl (by decide) rfl ?_
            refine xi_goto (pc' := 130) rfl rfl ?_
            refine xi_iadd (pc' := 131) rfl rfl ?_
            refine xi_iload_n (pc' := 132) rfl rfl rfl ?_
            refine xi_iconst (pc' := 133) rfl rfl ?_
            refine xx_icmp (pc' := 136) (tg := 141) rfl rfl rfl (fun q133 => ?_) (fun q133 => ?_)
            · refine xi_iconst (pc' := 142) rfl rfl ?_
              refine xi_iadd (pc' := 143) rfl rfl ?_
              refine xr_iast (j := hwOf J % 60) (pc' := 144) rfl rfl (by decide) ((congrArg (fun x => x - x / nI 60 * nI 60) hh).trans (ix_rem h31 (by decide) (by decide))) (Nat.mod_lt _ (by decide)) (by decide) rfl ?_
              refine xi_aload_n (pc' := 145) rfl rfl rfl ?_
              refine xi_dup (pc' := 146) rfl rfl rfl ?_
              refine xr_geti (pc' := 149) rfl rfl (by decide) (by decide) rfl ?_
              refine xi_iconst (pc' := 150) rfl rfl ?_
              refine xi_iadd (pc' := 151) rfl rfl ?_
              refine xr_puti (z := 0) (pc' := 154) rfl rfl (by decide) (Or.inl rfl) rfl ?_
              refine xi_iload (pc' := 156) rfl rfl rfl ?_
              refine xi_iff (pc' := 159) (tg := 163) rfl rfl (by decide) rfl ?_
              refine xi_iconst (pc' := 160) rfl rfl ?_
              refine xi_goto (pc' := 164) rfl rfl ?_
              refine xx_ireturn rfl rfl ?_
              simp only [ex_P, Classical.not_not, ↓reduceIte, or_true, true_or, not_true_eq_false, not_false_eq_true, or_false, false_or, wI_get, false_and, true_and, and_true, and_false, and_self, Nat.reduceEqDiff, Nat.succ_ne_zero, reduceCtorEq, nI_lit, nI_lit0, Nat.reduceLT] at *
              first | (simp only [r_put, r_bm, ix_0, *, ↓reduceIte, or_true, true_or, not_true_eq_false, not_false_eq_true, or_false, false_or, wI_get, false_and, true_and, and_true, and_false, and_self, Nat.reduceEqDiff, Nat.succ_ne_zero, reduceCtorEq, nI_lit, nI_lit0, Nat.reduceLT]; done) | (exfalso; simp_all only [↓reduceIte, or_true, true_or, not_true_eq_false, not_false_eq_true, or_false, false_or, wI_get, false_and, true_and, and_true, and_false, and_self, Nat.reduceEqDiff, Nat.succ_ne_zero, reduceCtorEq, nI_lit, nI_lit0, Nat.reduceLT]; done)
            · refine xx_ldc (v := nI 262144) (pc' := 138) rfl rfl (by decide) rfl ?_
              refine xi_goto (pc' := 142) rfl rfl ?_
              refine xi_iadd (pc' := 143) rfl rfl ?_
              refine xr_iast (j := hwOf J % 60) (pc' := 144) rfl rfl (by decide) ((congrArg (fun x => x - x / nI 60 * nI 60) hh).trans (ix_rem h31 (by decide) (by decide))) (Nat.mod_lt _ (by decide)) (by decide) rfl ?_
              refine xi_aload_n (pc' := 145) rfl rfl rfl ?_
              refine xi_dup (pc' := 146) rfl rfl rfl ?_
              refine xr_geti (pc' := 149) rfl rfl (by decide) (by decide) rfl ?_
              refine xi_iconst (pc' := 150) rfl rfl ?_
              refine xi_iadd (pc' := 151) rfl rfl ?_
              refine xr_puti (z := 0) (pc' := 154) rfl rfl (by decide) (Or.inl rfl) rfl ?_
              refine xi_iload (pc' := 156) rfl rfl rfl ?_
              refine xi_iff (pc' := 159) (tg := 163) rfl rfl (by decide) rfl ?_
              refine xi_iconst (pc' := 160) rfl rfl ?_
              refine xi_goto (pc' := 164) rfl rfl ?_
              refine xx_ireturn rfl rfl ?_
              simp only [ex_P, Classical.not_not, ↓reduceIte, or_true, true_or, not_true_eq_false, not_false_eq_true, or_false, false_or, wI_get, false_and, true_and, and_true, and_false, and_self, Nat.reduceEqDiff, Nat.succ_ne_zero, reduceCtorEq, nI_lit, nI_lit0, Nat.reduceLT] at *
              first | (simp only [r_put, r_bm, ix_0, *, ↓reduceIte, or_true, true_or, not_true_eq_false, not_false_eq_true, or_false, false_or, wI_get, false_and, true_and, and_true, and_false, and_self, Nat.reduceEqDiff, Nat.succ_ne_zero, reduceCtorEq, nI_lit, nI_lit0, Nat.reduceLT]; done) | (exfalso; simp_all only [↓reduceIte, or_true, true_or, not_true_eq_false, not_false_eq_true, or_false, false_or, wI_get, false_and, true_and, and_true, and_false, and_self, Nat.reduceEqDiff, Nat.succ_ne_zero, reduceCtorEq, nI_lit, nI_lit0, Nat.reduceLT]; done)
          · refine xx_ldc (v := nI 65536) (pc' := 114) rfl rfl (by decide) rfl ?_
            refine xi_goto (pc' := 118) rfl rfl ?_
            refine xi_iadd (pc' := 119) rfl rfl ?_
            refine xi_iload (pc' := 121) rfl rfl rfl ?_
            refine xi_iff (pc' := 124) (tg := 129) rfl rfl (by decide) rfl ?_
            refine xx_ldc (v := nI 131072) (pc' := 126) rfl rfl (by decide) rfl ?_
            refine xi_goto (pc' := 130) rfl rfl ?_
            refine xi_iadd (pc' := 131) rfl rfl ?_
            refine xi_iload_n (pc' := 132) rfl rfl rfl ?_
            refine xi_iconst (pc' := 133) rfl rfl ?_
            refine xx_icmp (pc' := 136) (tg := 141) rfl rfl rfl (fun q133 => ?_) (fun q133 => ?_)
            · refine xi_iconst (pc' := 142) rfl rfl ?_
              refine xi_iadd (pc' := 143) rfl rfl ?_
              refine xr_iast (j := hwOf J % 60) (pc' := 144) rfl rfl (by decide) ((congrArg (fun x => x - x / nI 60 * nI 60) hh).trans (ix_rem h31 (by decide) (by decide))) (Nat.mod_lt _ (by decide)) (by decide) rfl ?_
              refine xi_aload_n (pc' := 145) rfl rfl rfl ?_
              refine xi_dup (pc' := 146) rfl rfl rfl ?_
              refine xr_geti (pc' := 149) rfl rfl (by decide) (by decide) rfl ?_
              refine xi_iconst (pc' := 150) rfl rfl ?_
              refine xi_iadd (pc' := 151) rfl rfl ?_
              refine xr_puti (z := 0) (pc' := 154) rfl rfl (by decide) (Or.inl rfl) rfl ?_
              refine xi_iload (pc' := 156) rfl rfl rfl ?_
              refine xi_iff (pc' := 159) (tg := 163) rfl rfl (by decide) rfl ?_
              refine xi_iconst (pc' := 160) rfl rfl ?_
              refine xi_goto (pc' := 164) rfl rfl ?_
              refine xx_ireturn rfl rfl ?_
              simp only [ex_P, Classical.not_not, ↓reduceIte, or_true, true_or, not_true_eq_false, not_false_eq_true, or_false, false_or, wI_get, false_and, true_and, and_true, and_false, and_self, Nat.reduceEqDiff, Nat.succ_ne_zero, reduceCtorEq, nI_lit, nI_lit0, Nat.reduceLT] at *
              first | (simp only [r_put, r_bm, ix_0, *, ↓reduceIte, or_true, true_or, not_true_eq_false, not_false_eq_true, or_false, false_or, wI_get, false_and, true_and, and_true, and_false, and_self, Nat.reduceEqDiff, Nat.succ_ne_zero, reduceCtorEq, nI_lit, nI_lit0, Nat.reduceLT]; done) | (exfalso; simp_all only [↓reduceIte, or_true, true_or, not_true_eq_false, not_false_eq_true, or_false, false_or, wI_get, false_and, true_and, and_true, and_false, and_self, Nat.reduceEqDiff, Nat.succ_ne_zero, reduceCtorEq, nI_lit, nI_lit0, Nat.reduceLT]; done)
            · refine xx_ldc (v := nI 262144) (pc' := 138) rfl rfl (by decide) rfl ?_
              refine xi_goto (pc' := 142) rfl rfl ?_
              refine xi_iadd (pc' := 143) rfl rfl ?_
              refine xr_iast (j := hwOf J % 60) (pc' := 144) rfl rfl (by decide) ((congrArg (fun x => x - x / nI 60 * nI 60) hh).trans (ix_rem h31 (by decide) (by decide))) (Nat.mod_lt _ (by decide)) (by decide) rfl ?_
              refine xi_aload_n (pc' := 145) rfl rfl rfl ?_
              refine xi_dup (pc' := 146) rfl rfl rfl ?_
              refine xr_geti (pc' := 149) rfl rfl (by decide) (by decide) rfl ?_
              refine xi_iconst (pc' := 150) rfl rfl ?_
              refine xi_iadd (pc' := 151) rfl rfl ?_
              refine xr_puti (z := 0) (pc' := 154) rfl rfl (by decide) (Or.inl rfl) rfl ?_
              refine xi_iload (pc' := 156) rfl rfl rfl ?_
              refine xi_iff (pc' := 159) (tg := 163) rfl rfl (by decide) rfl ?_
              refine xi_iconst (pc' := 160) rfl rfl ?_
              refine xi_goto (pc' := 164) rfl rfl ?_
              refine xx_ireturn rfl rfl ?_
              simp only [ex_P, Classical.not_not, ↓reduceIte, or_true, true_or, not_true_eq_false, not_false_eq_true, or_false, false_or, wI_get, false_and, true_and, and_true, and_false, and_self, Nat.reduceEqDiff, Nat.succ_ne_zero, reduceCtorEq, nI_lit, nI_lit0, Nat.reduceLT] at *
              first | (simp only [r_put, r_bm, ix_0, *, ↓reduceIte, or_true, true_or, not_true_eq_false, not_false_eq_true, or_false, false_or, wI_get, false_and, true_and, and_true, and_false, and_self, Nat.reduceEqDiff, Nat.succ_ne_zero, reduceCtorEq, nI_lit, nI_lit0, Nat.reduceLT]; done) | (exfalso; simp_all only [↓reduceIte, or_true, true_or, not_true_eq_false, not_false_eq_true, or_false, false_or, wI_get, false_and, true_and, and_true, and_false, and_self, Nat.reduceEqDiff, Nat.succ_ne_zero, reduceCtorEq, nI_lit, nI_lit0, Nat.reduceLT]; done)
        · refine xi_iconst (pc' := 95) rfl rfl ?_
          refine xx_ireturn rfl rfl ?_
          simp only [ex_P, Classical.not_not, ↓reduceIte, or_true, true_or, not_true_eq_false, not_false_eq_true, or_false, false_or, wI_get, false_and, true_and, and_true, and_false, and_self, Nat.reduceEqDiff, Nat.succ_ne_zero, reduceCtorEq, nI_lit, nI_lit0, Nat.reduceLT] at *
          first | (simp only [r_put, r_bm, ix_0, *, ↓reduceIte, or_true, true_or, not_true_eq_false, not_false_eq_true, or_false, false_or, wI_get, false_and, true_and, and_true, and_false, and_self, Nat.reduceEqDiff, Nat.succ_ne_zero, reduceCtorEq, nI_lit, nI_lit0, Nat.reduceLT]; done) | (exfalso; simp_all only [↓reduceIte, or_true, true_or, not_true_eq_false, not_false_eq_true, or_false, false_or, wI_get, false_and, true_and, and_true, and_false, and_self, Nat.reduceEqDiff, Nat.succ_ne_zero, reduceCtorEq, nI_lit, nI_lit0, Nat.reduceLT]; done)
theorem r_put0 {L : Nat} {xs : Nat → Int32} {D n : Nat} {I J : ex_Mem} {b N : Nat} {v : Int32} (hb : b < 2) (hh : hwB N J) (hN : N < 2 ^ 31) : ri L xs D 111 [.ref 52, .int (nI b), .int (nI 0), .int v] (mkH n I J) (r_put J b v).1 (mkH n I (r_put J b v).2) := by
  have h := r_put_d (L := L) (xs := xs) (D := D) (n := n) (I := I) (N := N) (d := nI 0) (v := v) hb hh.1 (Nat.lt_of_le_of_lt hh.2 hN)
  rw [if_pos (by decide), ix_0] at h
  exact h
theorem r_put1 {L : Nat} {xs : Nat → Int32} {D n : Nat} {I J : ex_Mem} {b N : Nat} {v : Int32} (hb : b < 2) (hh : hwB N J) (hN : N < 2 ^ 31) : ri L xs D 111 [.ref 52, .int (nI b), .int (nI 1), .int v] (mkH n I J) (r_put J b (v + nI 65536)).1 (mkH n I (r_put J b (v + nI 65536)).2) := by
  have h := r_put_d (L := L) (xs := xs) (D := D) (n := n) (I := I) (N := N) (d := nI 1) (v := v) hb hh.1 (Nat.lt_of_le_of_lt hh.2 hN)
  rw [if_neg (by decide)] at h
  exact h
theorem hwOf_of {J : ex_Mem} {h : Nat} (e : J 52 3 = nI h) (h31 : h < 2 ^ 31) : hwOf J = h := by
  unfold hwOf
  rw [e]
  exact nI_clamp h31
theorem hwB_w {N : Nat} {J : ex_Mem} (hh : hwB N J) {a k : Nat} {v : Int32} (ha : ¬ (52 = a ∧ 3 = k)) : hwB N (ex_wI J a k v) := by
  have e : ex_wI J a k v 52 3 = J 52 3 := if_neg ha
  have e2 : hwOf (ex_wI J a k v) = hwOf J := congrArg Int32.toNatClampNeg e
  exact ⟨by rw [e, e2]; exact hh.1, by rw [e2]; exact hh.2⟩
theorem hwB_up {N M : Nat} {J : ex_Mem} (hh : hwB N J) (h : N ≤ M) : hwB M J := ⟨hh.1, Nat.le_trans hh.2 h⟩
theorem hwB_inc {N : Nat} {J J' : ex_Mem} (hh : hwB N J) (hN : N + 1 < 2 ^ 31) (e : J' 52 3 = J 52 3 + nI 1) : hwB (N + 1) J' := by
  have e1 : J' 52 3 = nI (hwOf J + 1) := by rw [e, hh.1, ix_add]
  have e2 := hwOf_of e1 (by have := hh.2; omega)
  exact ⟨by rw [e2]; exact e1, by rw [e2]; have := hh.2; omega⟩
theorem hwB_put {N b : Nat} {J : ex_Mem} {w : Int32} (hh : hwB N J) (hN : N + 1 < 2 ^ 31) : hwB (N + 1) (r_put J b w).2 := by
  unfold r_put
  split
  · exact hwB_inc hh hN rfl
  · split
    · exact hwB_up hh (by omega)
    · split
      · exact hwB_inc hh hN rfl
      · exact hwB_up (hwB_w (hwB_w hh (by omega)) (by omega)) (by omega)
def r_says (J : ex_Mem) (t b : Nat) (w : Int32) : Int32 × ex_Mem := if J 66 (2 * t + b) = 0 then r_put J b w else (nI 0, J)
theorem hwB_says {N t b : Nat} {J : ex_Mem} {w : Int32} (hh : hwB N J) (hN : N + 1 < 2 ^ 31) : hwB (N + 1) (r_says J t b w).2 := by
  unfold r_says
  split
  · exact hwB_put hh hN
  · exact hwB_up hh (by omega)
theorem r_says0 {L : Nat} {xs : Nat → Int32} {D n : Nat} {I J : ex_Mem} {t b N : Nat} {v : Int32} (ht : t < 6) (hb : b < 2) (hh : hwB N J) (hN : N < 2 ^ 31) : ri L xs (D + 1) 114 [.ref 52, .int (nI t), .int (nI b), .int (nI 0), .int v] (mkH n I J) ((r_says J t b v).1) (mkH n I (r_says J t b v).2) := by
  show xx cb_G _ _ _ 114 0 [.ref 52, .int (nI t), .int (nI b), .int (nI 0), .int v] [] _ _
  refine xi_aload_n (pc' := 1) rfl rfl rfl ?_
  refine xr_getp (pc' := 4) rfl rfl (by decide) rfl rfl rfl ?_
  refine xi_iconst (pc' := 5) rfl rfl ?_
  refine xi_iload_n (pc' := 6) rfl rfl rfl ?_
  refine xi_imul (pc' := 7) rfl rfl ?_
  refine xi_iload_n (pc' := 8) rfl rfl rfl ?_
  refine xi_iadd (pc' := 9) rfl rfl ?_
  refine xr_zald (j := (2) * (t) + b) (pc' := 10) rfl rfl (by decide) (by first | rfl | (simp only [ix_add, ix_mul, ix_pred]; done) | (simp only [ix_add, ix_mul, ix_pred, *]; done)) (by omega) (by decide) rfl ?_
  refine xx_if (pc' := 13) (tg := 17) rfl rfl rfl (fun q10 => ?_) (fun q10 => ?_)
  · refine xi_aload_n (pc' := 18) rfl rfl rfl ?_
    refine xi_iload_n (pc' := 19) rfl rfl rfl ?_
    refine xi_iload_n (pc' := 20) rfl rfl rfl ?_
    refine xi_iload (pc' := 22) rfl rfl rfl ?_
    refine xx_callVi (pc' := 25) rfl rfl (by decide) rfl rfl (by show _ < 81 + 2 * _; omega) (Nat.le_of_ble_eq_true rfl) rfl rfl (r_put0 hb hh hN) ?_
    refine xx_ireturn rfl rfl ?_
    simp only [ex_P, Classical.not_not, ↓reduceIte, or_true, true_or, not_true_eq_false, not_false_eq_true, or_false, false_or, wI_get, false_and, true_and, and_true, and_false, and_self, Nat.reduceEqDiff, Nat.succ_ne_zero, reduceCtorEq, nI_lit, nI_lit0, Nat.reduceLT] at *
    first | (simp only [r_says, *, ↓reduceIte, or_true, true_or, not_true_eq_false, not_false_eq_true, or_false, false_or, wI_get, false_and, true_and, and_true, and_false, and_self, Nat.reduceEqDiff, Nat.succ_ne_zero, reduceCtorEq, nI_lit, nI_lit0, Nat.reduceLT]; done) | (exfalso; simp_all only [↓reduceIte, or_true, true_or, not_true_eq_false, not_false_eq_true, or_false, false_or, wI_get, false_and, true_and, and_true, and_false, and_self, Nat.reduceEqDiff, Nat.succ_ne_zero, reduceCtorEq, nI_lit, nI_lit0, Nat.reduceLT]; done)
  · refine xi_iconst (pc' := 14) rfl rfl ?_
    refine xi_goto (pc' := 25) rfl rfl ?_
    refine xx_ireturn rfl rfl ?_
    simp only [ex_P, Classical.not_not, ↓reduceIte, or_true, true_or, not_true_eq_false, not_false_eq_true, or_false, false_or, wI_get, false_and, true_and, and_true, and_false, and_self, Nat.reduceEqDiff, Nat.succ_ne_zero, reduceCtorEq, nI_lit, nI_lit0, Nat.reduceLT] at *
    first | (simp only [r_says, *, ↓reduceIte, or_true, true_or, not_true_eq_false, not_false_eq_true, or_false, false_or, wI_get, false_and, true_and, and_true, and_false, and_self, Nat.reduceEqDiff, Nat.succ_ne_zero, reduceCtorEq, nI_lit, nI_lit0, Nat.reduceLT]; done) | (exfalso; simp_all only [↓reduceIte, or_true, true_or, not_true_eq_false, not_false_eq_true, or_false, false_or, wI_get, false_and, true_and, and_true, and_false, and_self, Nat.reduceEqDiff, Nat.succ_ne_zero, reduceCtorEq, nI_lit, nI_lit0, Nat.reduceLT]; done)
theorem r_says1 {L : Nat} {xs : Nat → Int32} {D n : Nat} {I J : ex_Mem} {t b N : Nat} {v : Int32} (ht : t < 6) (hb : b < 2) (hh : hwB N J) (hN : N < 2 ^ 31) : ri L xs (D + 1) 114 [.ref 52, .int (nI t), .int (nI b), .int (nI 1), .int v] (mkH n I J) ((r_says J t b (v + nI 65536)).1) (mkH n I (r_says J t b (v + nI 65536)).2) := by
  show xx cb_G _ _ _ 114 0 [.ref 52, .int (nI t), .int (nI b), .int (nI 1), .int v] [] _ _
  refine xi_aload_n (pc' := 1) rfl rfl rfl ?_
  refine xr_getp (pc' := 4) rfl rfl (by decide) rfl rfl rfl ?_
  refine xi_iconst (pc' := 5) rfl rfl ?_
  refine xi_iload_n (pc' := 6) rfl rfl rfl ?_
  refine xi_imul (pc' := 7) rfl rfl ?_
  refine xi_iload_n (pc' := 8) rfl rfl rfl ?_
  refine xi_iadd (pc' := 9) rfl rfl ?_
  refine xr_zald (j := (2) * (t) + b) (pc' := 10) rfl rfl (by decide) (by first | rfl | (simp only [ix_add, ix_mul, ix_pred]; done) | (simp only [ix_add, ix_mul, ix_pred, *]; done)) (by omega) (by decide) rfl ?_
  refine xx_if (pc' := 13) (tg := 17) rfl rfl rfl (fun q10 => ?_) (fun q10 => ?_)
  · refine xi_aload_n (pc' := 18) rfl rfl rfl ?_
    refine xi_iload_n (pc' := 19) rfl rfl rfl ?_
    refine xi_iload_n (pc' := 20) rfl rfl rfl ?_
    refine xi_iload (pc' := 22) rfl rfl rfl ?_
    refine xx_callVi (pc' := 25) rfl rfl (by decide) rfl rfl (by show _ < 81 + 2 * _; omega) (Nat.le_of_ble_eq_true rfl) rfl rfl (r_put1 hb hh hN) ?_
    refine xx_ireturn rfl rfl ?_
    simp only [ex_P, Classical.not_not, ↓reduceIte, or_true, true_or, not_true_eq_false, not_false_eq_true, or_false, false_or, wI_get, false_and, true_and, and_true, and_false, and_self, Nat.reduceEqDiff, Nat.succ_ne_zero, reduceCtorEq, nI_lit, nI_lit0, Nat.reduceLT] at *
    first | (simp only [r_says, *, ↓reduceIte, or_true, true_or, not_true_eq_false, not_false_eq_true, or_false, false_or, wI_get, false_and, true_and, and_true, and_false, and_self, Nat.reduceEqDiff, Nat.succ_ne_zero, reduceCtorEq, nI_lit, nI_lit0, Nat.reduceLT]; done) | (exfalso; simp_all only [↓reduceIte, or_true, true_or, not_true_eq_false, not_false_eq_true, or_false, false_or, wI_get, false_and, true_and, and_true, and_false, and_self, Nat.reduceEqDiff, Nat.succ_ne_zero, reduceCtorEq, nI_lit, nI_lit0, Nat.reduceLT]; done)
  · refine xi_iconst (pc' := 14) rfl rfl ?_
    refine xi_goto (pc' := 25) rfl rfl ?_
    refine xx_ireturn rfl rfl ?_
    simp only [ex_P, Classical.not_not, ↓reduceIte, or_true, true_or, not_true_eq_false, not_false_eq_true, or_false, false_or, wI_get, false_and, true_and, and_true, and_false, and_self, Nat.reduceEqDiff, Nat.succ_ne_zero, reduceCtorEq, nI_lit, nI_lit0, Nat.reduceLT] at *
    first | (simp only [r_says, *, ↓reduceIte, or_true, true_or, not_true_eq_false, not_false_eq_true, or_false, false_or, wI_get, false_and, true_and, and_true, and_false, and_self, Nat.reduceEqDiff, Nat.succ_ne_zero, reduceCtorEq, nI_lit, nI_lit0, Nat.reduceLT]; done) | (exfalso; simp_all only [↓reduceIte, or_true, true_or, not_true_eq_false, not_false_eq_true, or_false, false_or, wI_get, false_and, true_and, and_true, and_false, and_self, Nat.reduceEqDiff, Nat.succ_ne_zero, reduceCtorEq, nI_lit, nI_lit0, Nat.reduceLT]; done)
theorem r_saysStatus {L : Nat} {xs : Nat → Int32} {D n : Nat} {I J : ex_Mem} {t b N : Nat} (ht : t < 6) (hb : b < 2) (hh : hwB N J) (hN : N < 2 ^ 31) : ri L xs (D + 2) 113 [.ref 52, .int (nI t), .int (nI b)] (mkH n I J) ((r_says J t b (r_st J t)).1) (mkH n I (r_says J t b (r_st J t)).2) := by
  show xx cb_G _ _ _ 113 0 [.ref 52, .int (nI t), .int (nI b)] [] _ _
  refine xi_aload_n (pc' := 1) rfl rfl rfl ?_
  refine xi_iload_n (pc' := 2) rfl rfl rfl ?_
  refine xi_iload_n (pc' := 3) rfl rfl rfl ?_
  refine xi_iconst (pc' := 4) rfl rfl ?_
  refine xi_aload_n (pc' := 5) rfl rfl rfl ?_
  refine xi_iload_n (pc' := 6) rfl rfl rfl ?_
  refine xx_callVi (pc' := 9) rfl rfl (by decide) rfl rfl (by show _ < 81 + 2 * _; omega) (Nat.le_of_ble_eq_true rfl) rfl rfl (r_statusOf ht) ?_
  refine xx_callVi (pc' := 12) rfl rfl (by decide) rfl rfl (by show _ < 81 + 2 * _; omega) (Nat.le_of_ble_eq_true rfl) rfl rfl (r_says0 ht hb hh hN) ?_
  refine xx_ireturn rfl rfl ?_
  exact ⟨rfl, rfl⟩
def r_hears (J : ex_Mem) (t : Nat) (how c km kl : Int32) : Int32 × ex_Mem :=
  if ¬ how = nI 1 ∨ ¬ J 57 t = 0 then (nI 0, J)
  else if km = 0 then (if kl = 0 then (nI 1, ex_wI (ex_wI (ex_wI J 62 t (nI 0)) 63 t (nI 0)) 64 t c) else (nI 1, ex_wI (ex_wI J 62 t (nI 0)) 63 t (nI 0)))
  else (if kl = 0 then (nI 1, ex_wI J 64 t c) else (nI 1, J))
theorem r_hears_ok {L : Nat} {xs : Nat → Int32} {D n : Nat} {I J : ex_Mem} {t : Nat} {how c km kl : Int32} (ht : t < 6) : ri L xs D 112 [.ref 52, .int (nI t), .int how, .int c, .int km, .int kl] (mkH n I J) ((r_hears J t how c km kl).1) (mkH n I (r_hears J t how c km kl).2) := by
  show xx cb_G _ _ _ 112 0 [.ref 52, .int (nI t), .int how, .int c, .int km, .int kl] [] _ _
  refine xi_iload_n (pc' := 1) rfl rfl rfl ?_
  refine xi_iconst (pc' := 2) rfl rfl ?_
  refine xx_icmp (pc' := 5) (tg := 14) rfl rfl rfl (fun q2 => ?_) (fun q2 => ?_)
  · refine xi_iconst (pc' := 15) rfl rfl ?_
    refine xx_zreturn rfl rfl (by decide) ?_
    simp only [ex_P, Classical.not_not, ↓reduceIte, or_true, true_or, not_true_eq_false, not_false_eq_true, or_false, false_or, wI_get, false_and, true_and, and_true, and_false, and_self, Nat.reduceEqDiff, Nat.succ_ne_zero, reduceCtorEq, nI_lit, nI_lit0, Nat.reduceLT] at *
    first | (simp only [r_hears, *, ↓reduceIte, or_true, true_or, not_true_eq_false, not_false_eq_true, or_false, false_or, wI_get, false_and, true_and, and_true, and_false, and_self, Nat.reduceEqDiff, Nat.succ_ne_zero, reduceCtorEq, nI_lit, nI_lit0, Nat.reduceLT]; done) | (exfalso; simp_all only [↓reduceIte, or_true, true_or, not_true_eq_false, not_false_eq_true, or_false, false_or, wI_get, false_and, true_and, and_true, and_false, and_self, Nat.reduceEqDiff, Nat.succ_ne_zero, reduceCtorEq, nI_lit, nI_lit0, Nat.reduceLT]; done)
  · refine xi_aload_n (pc' := 6) rfl rfl rfl ?_
    refine xr_getp (pc' := 9) rfl rfl (by decide) rfl rfl rfl ?_
    refine xi_iload_n (pc' := 10) rfl rfl rfl ?_
    refine xr_zald (j := t) (pc' := 11) rfl rfl (by decide) (by first | rfl | (simp only [ix_add, ix_mul, ix_pred]; done) | (simp only [ix_add, ix_mul, ix_pred, *]; done)) (by omega) (by decide) rfl ?_
    refine xx_if (pc' := 14) (tg := 16) rfl rfl rfl (fun q11 => ?_) (fun q11 => ?_)
    · refine xi_iload (pc' := 18) rfl rfl rfl ?_
      refine xx_if (pc' := 21) (tg := 35) rfl rfl rfl (fun q18 => ?_) (fun q18 => ?_)
      · refine xi_iload (pc' := 37) rfl rfl rfl ?_
        refine xx_if (pc' := 40) (tg := 47) rfl rfl rfl (fun q37 => ?_) (fun q37 => ?_)
        · refine xi_iconst (pc' := 48) rfl rfl ?_
          refine xx_zreturn rfl rfl (by decide) ?_
          simp only [ex_P, Classical.not_not, ↓reduceIte, or_true, true_or, not_true_eq_false, not_false_eq_true, or_false, false_or, wI_get, false_and, true_and, and_true, and_false, and_self, Nat.reduceEqDiff, Nat.succ_ne_zero, reduceCtorEq, nI_lit, nI_lit0, Nat.reduceLT] at *
          first | (simp only [r_hears, *, ↓reduceIte, or_true, true_or, not_true_eq_false, not_false_eq_true, or_false, false_or, wI_get, false_and, true_and, and_true, and_false, and_self, Nat.reduceEqDiff, Nat.succ_ne_zero, reduceCtorEq, nI_lit, nI_lit0, Nat.reduceLT]; done) | (exfalso; simp_all only [↓reduceIte, or_true, true_or, not_true_eq_false, not_false_eq_true, or_false, false_or, wI_get, false_and, true_and, and_true, and_false, and_self, Nat.reduceEqDiff, Nat.succ_ne_zero, reduceCtorEq, nI_lit, nI_lit0, Nat.reduceLT]; done)
        · refine xi_aload_n (pc' := 41) rfl rfl rfl ?_
          refine xr_getp (pc' := 44) rfl rfl (by decide) rfl rfl rfl ?_
          refine xi_iload_n (pc' := 45) rfl rfl rfl ?_
          refine xi_iload_n (pc' := 46) rfl rfl rfl ?_
          refine xr_iast (j := t) (pc' := 47) rfl rfl (by decide) (by first | rfl | (simp only [ix_add, ix_mul, ix_pred]; done) | (simp only [ix_add, ix_mul, ix_pred, *]; done)) (by omega) (by decide) rfl ?_
          refine xi_iconst (pc' := 48) rfl rfl ?_
          refine xx_zreturn rfl rfl (by decide) ?_
          simp only [ex_P, Classical.not_not, ↓reduceIte, or_true, true_or, not_true_eq_false, not_false_eq_true, or_false, false_or, wI_get, false_and, true_and, and_true, and_false, and_self, Nat.reduceEqDiff, Nat.succ_ne_zero, reduceCtorEq, nI_lit, nI_lit0, Nat.reduceLT] at *
          first | (simp only [r_hears, *, ↓reduceIte, or_true, true_or, not_true_eq_false, not_false_eq_true, or_false, false_or, wI_get, false_and, true_and, and_true, and_false, and_self, Nat.reduceEqDiff, Nat.succ_ne_zero, reduceCtorEq, nI_lit, nI_lit0, Nat.reduceLT]; done) | (exfalso; simp_all only [↓reduceIte, or_true, true_or, not_true_eq_false, not_false_eq_true, or_false, false_or, wI_get, false_and, true_and, and_true, and_false, and_self, Nat.reduceEqDiff, Nat.succ_ne_zero, reduceCtorEq, nI_lit, nI_lit0, Nat.reduceLT]; done)
      · refine xi_aload_n (pc' := 22) rfl rfl rfl ?_
        refine xr_getp (pc' := 25) rfl rfl (by decide) rfl rfl rfl ?_
        refine xi_iload_n (pc' := 26) rfl rfl rfl ?_
        refine xi_iconst (pc' := 27) rfl rfl ?_
        refine xr_zast (j := t) (pc' := 28) rfl rfl (by decide) (by first | rfl | (simp only [ix_add, ix_mul, ix_pred]; done) | (simp only [ix_add, ix_mul, ix_pred, *]; done)) (by omega) (by decide) (by decide) rfl ?_
        refine xi_aload_n (pc' := 29) rfl rfl rfl ?_
        refine xr_getp (pc' := 32) rfl rfl (by decide) rfl rfl rfl ?_
        refine xi_iload_n (pc' := 33) rfl rfl rfl ?_
        refine xi_iconst (pc' := 34) rfl rfl ?_
        refine xr_zast (j := t) (pc' := 35) rfl rfl (by decide) (by first | rfl | (simp only [ix_add, ix_mul, ix_pred]; done) | (simp only [ix_add, ix_mul, ix_pred, *]; done)) (by omega) (by decide) (by decide) rfl ?_
        refine xi_iload (pc' := 37) rfl rfl rfl ?_
        refine xx_if (pc' := 40) (tg := 47) rfl rfl rfl (fun q37 => ?_) (fun q37 => ?_)
        · refine xi_iconst (pc' := 48) rfl rfl ?_
          refine xx_zreturn rfl rfl (by decide) ?_
          simp only [ex_P, Classical.not_not, ↓reduceIte, or_true, true_or, not_true_eq_false, not_false_eq_true, or_false, false_or, wI_get, false_and, true_and, and_true, and_false, and_self, Nat.reduceEqDiff, Nat.succ_ne_zero, reduceCtorEq, nI_lit, nI_lit0, Nat.reduceLT] at *
          first | (simp only [r_hears, *, ↓reduceIte, or_true, true_or, not_true_eq_false, not_false_eq_true, or_false, false_or, wI_get, false_and, true_and, and_true, and_false, and_self, Nat.reduceEqDiff, Nat.succ_ne_zero, reduceCtorEq, nI_lit, nI_lit0, Nat.reduceLT]; done) | (exfalso; simp_all only [↓reduceIte, or_true, true_or, not_true_eq_false, not_false_eq_true, or_false, false_or, wI_get, false_and, true_and, and_true, and_false, and_self, Nat.reduceEqDiff, Nat.succ_ne_zero, reduceCtorEq, nI_lit, nI_lit0, Nat.reduceLT]; done)
        · refine xi_aload_n (pc' := 41) rfl rfl rfl ?_
          refine xr_getp (pc' := 44) rfl rfl (by decide) rfl rfl rfl ?_
          refine xi_iload_n (pc' := 45) rfl rfl rfl ?_
          refine xi_iload_n (pc' := 46) rfl rfl rfl ?_
          refine xr_iast (j := t) (pc' := 47) rfl rfl (by decide) (by first | rfl | (simp only [ix_add, ix_mul, ix_pred]; done) | (simp only [ix_add, ix_mul, ix_pred, *]; done)) (by omega) (by decide) rfl ?_
          refine xi_iconst (pc' := 48) rfl rfl ?_
          refine xx_zreturn rfl rfl (by decide) ?_
          simp only [ex_P, Classical.not_not, ↓reduceIte, or_true, true_or, not_true_eq_false, not_false_eq_true, or_false, false_or, wI_get, false_and, true_and, and_true, and_false, and_self, Nat.reduceEqDiff, Nat.succ_ne_zero, reduceCtorEq, nI_lit, nI_lit0, Nat.reduceLT] at *
          first | (simp only [r_hears, *, ↓reduceIte, or_true, true_or, not_true_eq_false, not_false_eq_true, or_false, false_or, wI_get, false_and, true_and, and_true, and_false, and_self, Nat.reduceEqDiff, Nat.succ_ne_zero, reduceCtorEq, nI_lit, nI_lit0, Nat.reduceLT]; done) | (exfalso; simp_all only [↓reduceIte, or_true, true_or, not_true_eq_false, not_false_eq_true, or_false, false_or, wI_get, false_and, true_and, and_true, and_false, and_self, Nat.reduceEqDiff, Nat.succ_ne_zero, reduceCtorEq, nI_lit, nI_lit0, Nat.reduceLT]; done)
    · refine xi_iconst (pc' := 15) rfl rfl ?_
      refine xx_zreturn rfl rfl (by decide) ?_
      simp only [ex_P, Classical.not_not, ↓reduceIte, or_true, true_or, not_true_eq_false, not_false_eq_true, or_false, false_or, wI_get, false_and, true_and, and_true, and_false, and_self, Nat.reduceEqDiff, Nat.succ_ne_zero, reduceCtorEq, nI_lit, nI_lit0, Nat.reduceLT] at *
      first | (simp only [r_hears, *, ↓reduceIte, or_true, true_or, not_true_eq_false, not_false_eq_true, or_false, false_or, wI_get, false_and, true_and, and_true, and_false, and_self, Nat.reduceEqDiff, Nat.succ_ne_zero, reduceCtorEq, nI_lit, nI_lit0, Nat.reduceLT]; done) | (exfalso; simp_all only [↓reduceIte, or_true, true_or, not_true_eq_false, not_false_eq_true, or_false, false_or, wI_get, false_and, true_and, and_true, and_false, and_self, Nat.reduceEqDiff, Nat.succ_ne_zero, reduceCtorEq, nI_lit, nI_lit0, Nat.reduceLT]; done)
def gdOf (J : ex_Mem) : Nat := (J 52 32).toNatClampNeg
def gdB (N : Nat) (J : ex_Mem) : Prop := J 52 32 = nI (gdOf J) ∧ gdOf J ≤ N
def r_dw (J : ex_Mem) (how v : Int32) : ex_Mem := if how = nI 1 then ex_wI (ex_wI J 79 (gdOf J) v) 52 32 (J 52 32 + nI 1) else J
theorem r_dataWord {L : Nat} {xs : Nat → Int32} {D n : Nat} {I J : ex_Mem} {N : Nat} {how v : Int32} (hg : gdB N J) (hN : N < 4) : ro L xs D 120 [.ref 52, .int how, .int v] (mkH n I J) (mkH n I (r_dw J how v)) := by
  show xx cb_G _ _ _ 120 0 [.ref 52, .int how, .int v] [] _ _
  refine xi_iload_n (pc' := 1) rfl rfl rfl ?_
  refine xi_iconst (pc' := 2) rfl rfl ?_
  refine xx_icmp (pc' := 5) (tg := 25) rfl rfl rfl (fun q2 => ?_) (fun q2 => ?_)
  · refine xx_return rfl (by decide) ?_
    simp only [ex_P, Classical.not_not, ↓reduceIte, or_true, true_or, not_true_eq_false, not_false_eq_true, or_false, false_or, wI_get, false_and, true_and, and_true, and_false, and_self, Nat.reduceEqDiff, Nat.succ_ne_zero, reduceCtorEq, nI_lit, nI_lit0, Nat.reduceLT] at *
    first | (simp only [r_dw, *, ↓reduceIte, or_true, true_or, not_true_eq_false, not_false_eq_true, or_false, false_or, wI_get, false_and, true_and, and_true, and_false, and_self, Nat.reduceEqDiff, Nat.succ_ne_zero, reduceCtorEq, nI_lit, nI_lit0, Nat.reduceLT]; done) | (exfalso; simp_all only [↓reduceIte, or_true, true_or, not_true_eq_false, not_false_eq_true, or_false, false_or, wI_get, false_and, true_and, and_true, and_false, and_self, Nat.reduceEqDiff, Nat.succ_ne_zero, reduceCtorEq, nI_lit, nI_lit0, Nat.reduceLT]; done)
  · refine xi_aload_n (pc' := 6) rfl rfl rfl ?_
    refine xr_getp (pc' := 9) rfl rfl (by decide) rfl rfl rfl ?_
    refine xi_aload_n (pc' := 10) rfl rfl rfl ?_
    refine xr_geti (pc' := 13) rfl rfl (by decide) (by decide) rfl ?_
    refine xi_iload_n (pc' := 14) rfl rfl rfl ?_
    refine xr_iast (j := gdOf J) (pc' := 15) rfl rfl (by decide) (hg.1) (Nat.lt_of_le_of_lt hg.2 hN) (by decide) rfl ?_
    refine xi_aload_n (pc' := 16) rfl rfl rfl ?_
    refine xi_dup (pc' := 17) rfl rfl rfl ?_
    refine xr_geti (pc' := 20) rfl rfl (by decide) (by decide) rfl ?_
    refine xi_iconst (pc' := 21) rfl rfl ?_
    refine xi_iadd (pc' := 22) rfl rfl ?_
    refine xr_puti (z := 0) (pc' := 25) rfl rfl (by decide) (Or.inl rfl) rfl ?_
    refine xx_return rfl (by decide) ?_
    simp only [ex_P, Classical.not_not, ↓reduceIte, or_true, true_or, not_true_eq_false, not_false_eq_true, or_false, false_or, wI_get, false_and, true_and, and_true, and_false, and_self, Nat.reduceEqDiff, Nat.succ_ne_zero, reduceCtorEq, nI_lit, nI_lit0, Nat.reduceLT] at *
    first | (simp only [r_dw, *, ↓reduceIte, or_true, true_or, not_true_eq_false, not_false_eq_true, or_false, false_or, wI_get, false_and, true_and, and_true, and_false, and_self, Nat.reduceEqDiff, Nat.succ_ne_zero, reduceCtorEq, nI_lit, nI_lit0, Nat.reduceLT]; done) | (exfalso; simp_all only [↓reduceIte, or_true, true_or, not_true_eq_false, not_false_eq_true, or_false, false_or, wI_get, false_and, true_and, and_true, and_false, and_self, Nat.reduceEqDiff, Nat.succ_ne_zero, reduceCtorEq, nI_lit, nI_lit0, Nat.reduceLT]; done)
