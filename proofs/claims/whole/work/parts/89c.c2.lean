theorem xc_copy {L : Nat} {xs : Nat → Int32} {D mi pc pc' n : Nat} {lv st : List Value} {I J : ex_Mem} {Q : Option Value → ex_Hp → Prop} {i c k a a0 n0 n1 jn jd js : Nat} {z : Int} {nn dp sp : Int32} (hf : ex_look (ex_cd cb_G mi) pc = some (.invokestatic i)) (hl : ex_look (ex_lt cb_G (ex_ow cb_G mi)) i = some (13, c, k, z)) (hk0 : cb_kd a0 = (1, n0)) (hk : cb_kd a = (1, n1)) (hc0 : ¬ (52 ≤ a0 ∧ a0 < 81)) (hc : ¬ (52 ≤ a ∧ a < 81)) (ha0 : a0 < 81 + 2 * n) (ha : a < 81 + 2 * n) (hn : nn = nI jn) (hd : dp = nI jd) (hs : sp = nI js) (h1 : js + jn ≤ n0) (h2 : jd + jn ≤ n1) (hn0 : n0 < 2 ^ 31) (hn1 : n1 < 2 ^ 31) (hu : (st.map fun v => v.category).sum ≤ 8) (hpc : pc + 3 = pc') (kk : xx cb_G L xs (D + 1) mi pc' lv st (mkH n (ex_copy I a0 js a jd jn) J) Q) : xx cb_G L xs (D + 1) mi pc lv (.int nn :: .int dp :: .ref a :: .int sp :: .ref a0 :: st) (mkH n I J) Q := by
  refine xx_copy hf hl hk0 hk ha ha0 hn hd hs h1 h2 hn0 hn1 hu hpc ?_
  have e : ((mkH n I J).1, (mkH n I J).2.1, ex_copy (mkH n I J).2.2.1 a0 js a jd jn, (mkH n I J).2.2.2) = mkH n (ex_copy I a0 js a jd jn) J := by
    show ((81 + 2 * n, 939 + 13 * n, ex_copy (mm I J) a0 js a jd jn, PD n) : ex_Hp) = _
    rw [mm_cpc hc hc0]
    rfl
  rw [e]
  exact kk
theorem c_firstOf {L : Nat} {xs : Nat → Int32} {D n : Nat} {I J : ex_Mem} {s : Nat} : ri L xs D 50 [.int (nI (s + 1))] (mkH n I J) (nI (4 * s)) (mkH n I J) := by
  show xx cb_G _ _ _ 50 0 [.int (nI (s + 1))] [] _ _
  refine xi_iload_n (pc' := 1) rfl rfl rfl ?_
  refine xi_iconst (pc' := 2) rfl rfl ?_
  refine xi_isub (pc' := 3) rfl rfl ?_
  refine xi_iconst (pc' := 4) rfl rfl ?_
  refine xi_imul (pc' := 5) rfl rfl ?_
  refine xx_ireturn rfl rfl ?_
  refine ⟨congrArg (fun v => some (Value.int v)) ?_, rfl⟩
  rw [ix_pred, ix_mul, Nat.mul_comm]
def c_st (I : ex_Mem) (t : Nat) : Int32 := I (8 + 6 * t) 0 * nI 2048 + (if I (8 + 6 * t) 2 = 0 then nI 0 else nI 1024) + (if I (8 + 6 * t) 3 = 0 then nI 0 else nI 16)
def c_clr (I : ex_Mem) (t : Nat) : ex_Mem := ex_wI (ex_wI I (8 + 6 * t) 2 (nI 0)) (8 + 6 * t) 3 (nI 0)
def c_obey (I : ex_Mem) (t : Nat) (c : Int32) : Int32 × ex_Mem := if I (8 + 6 * t) 1 = 0 then (nI 0, I) else (nI 1, ex_wI (c_clr I t) (8 + 6 * t) 4 c)
def c_chg (I : ex_Mem) (t : Nat) (cd : Int32) (ob : Nat) : ex_Mem := if cd = nI 1 then ex_wI I (8 + 6 * t) 5 (I (8 + 6 * t) 5 + nI 1) else if cd = nI 4 then ex_wI I (9 + 6 * t) ob (nI 1) else if cd = nI 5 then ex_wI I (9 + 6 * t) ob (nI 0) else if cd = nI 8 then ex_wI (ex_wI I (9 + 6 * t) 0 (nI 0)) (9 + 6 * t) 1 (nI 0) else I
def c_m1 (I : ex_Mem) (t : Nat) (cd : Int32) : ex_Mem := if cd = nI 2 then I else if cd = nI 18 then I else c_clr I t
def c_m2 (I : ex_Mem) (t : Nat) (cd : Int32) : ex_Mem := if cd = nI 18 then I else ex_wI I (8 + 6 * t) 4 (I (8 + 6 * t) 0 * nI 2048 + nI 0 * nI 32 + cd + nI 1024)
def c_obeyM (I : ex_Mem) (t : Nat) (cd : Int32) (b : Nat) : Int32 × ex_Mem := if I (8 + 6 * t) 1 = 0 then (nI 0, I) else (nI 1, c_chg (c_m2 (c_m1 I t cd) t cd) t cd (1 - b))
theorem ix_1m {b : Nat} (hb : b < 2) : nI 1 - nI b = nI (1 - b) := by
  rcases (show b = 0 ∨ b = 1 by omega) with rfl | rfl <;> decide
theorem c_status {L : Nat} {xs : Nat → Int32} {D n : Nat} {I J : ex_Mem} {t : Nat} (ht : t < 6) : ri L xs D 53 [.ref (8 + 6 * t)] (mkH n I J) (c_st I t) (mkH n I J) := by
  show xx cb_G _ _ _ 53 0 [.ref (8 + 6 * t)] [] _ _
  refine xi_aload_n (pc' := 1) rfl rfl rfl ?_
  refine xc_geti (pc' := 4) rfl rfl (by decide) (kd_T0 ht) (by omega) (by omega) (by decide) (by decide) rfl ?_
  refine xi_sipush (pc' := 7) rfl (by decide) rfl ?_
  refine xi_imul (pc' := 8) rfl rfl ?_
  refine xi_aload_n (pc' := 9) rfl rfl rfl ?_
  refine xc_geti (pc' := 12) rfl rfl (by decide) (kd_T0 ht) (by omega) (by omega) (by decide) (by decide) rfl ?_
  refine xx_if (pc' := 15) (tg := 21) rfl rfl rfl (fun q12 => ?_) (fun q12 => ?_)
  · refine xi_iconst (pc' := 22) rfl rfl ?_
    refine xi_iadd (pc' := 23) rfl rfl ?_
    refine xi_aload_n (pc' := 24) rfl rfl rfl ?_
    refine xc_geti (pc' := 27) rfl rfl (by decide) (kd_T0 ht) (by omega) (by omega) (by decide) (by decide) rfl ?_
    refine xx_if (pc' := 30) (tg := 35) rfl rfl rfl (fun q27 => ?_) (fun q27 => ?_)
    · refine xi_iconst (pc' := 36) rfl rfl ?_
      refine xi_iadd (pc' := 37) rfl rfl ?_
      refine xx_ireturn rfl rfl ?_
      simp only [ex_P, Classical.not_not, ↓reduceIte, Nat.add_zero, or_true, true_or, not_true_eq_false, not_false_eq_true, or_false, false_or, wI_get, false_and, true_and, and_true, and_false, and_self, Nat.reduceEqDiff, Nat.succ_ne_zero, reduceCtorEq, nI_lit, nI_lit0, Nat.reduceLT, Nat.zero_add, mn_lit, mn_lit', mn_0] at *
      first | (simp only [c_st, *, ↓reduceIte, Nat.add_zero, or_true, true_or, not_true_eq_false, not_false_eq_true, or_false, false_or, wI_get, false_and, true_and, and_true, and_false, and_self, Nat.reduceEqDiff, Nat.succ_ne_zero, reduceCtorEq, nI_lit, nI_lit0, Nat.reduceLT, Nat.zero_add, mn_lit, mn_lit', mn_0]; done) | (exfalso; simp_all only [↓reduceIte, Nat.add_zero, or_true, true_or, not_true_eq_false, not_false_eq_true, or_false, false_or, wI_get, false_and, true_and, and_true, and_false, and_self, Nat.reduceEqDiff, Nat.succ_ne_zero, reduceCtorEq, nI_lit, nI_lit0, Nat.reduceLT, Nat.zero_add, mn_lit, mn_lit', mn_0]; done)
    · refine xi_bipush (pc' := 32) rfl (by decide) rfl ?_
      refine xi_goto (pc' := 36) rfl rfl ?_
      refine xi_iadd (pc' := 37) rfl rfl ?_
      refine xx_ireturn rfl rfl ?_
      simp only [ex_P, Classical.not_not, ↓reduceIte, Nat.add_zero, or_true, true_or, not_true_eq_false, not_false_eq_true, or_false, false_or, wI_get, false_and, true_and, and_true, and_false, and_self, Nat.reduceEqDiff, Nat.succ_ne_zero, reduceCtorEq, nI_lit, nI_lit0, Nat.reduceLT, Nat.zero_add, mn_lit, mn_lit', mn_0] at *
      first | (simp only [c_st, *, ↓reduceIte, Nat.add_zero, or_true, true_or, not_true_eq_false, not_false_eq_true, or_false, false_or, wI_get, false_and, true_and, and_true, and_false, and_self, Nat.reduceEqDiff, Nat.succ_ne_zero, reduceCtorEq, nI_lit, nI_lit0, Nat.reduceLT, Nat.zero_add, mn_lit, mn_lit', mn_0]; done) | (exfalso; simp_all only [↓reduceIte, Nat.add_zero, or_true, true_or, not_true_eq_false, not_false_eq_true, or_false, false_or, wI_get, false_and, true_and, and_true, and_false, and_self, Nat.reduceEqDiff, Nat.succ_ne_zero, reduceCtorEq, nI_lit, nI_lit0, Nat.reduceLT, Nat.zero_add, mn_lit, mn_lit', mn_0]; done)
  · refine xi_sipush (pc' := 18) rfl (by decide) rfl ?_
    refine xi_goto (pc' := 22) rfl rfl ?_
    refine xi_iadd (pc' := 23) rfl rfl ?_
    refine xi_aload_n (pc' := 24) rfl rfl rfl ?_
    refine xc_geti (pc' := 27) rfl rfl (by decide) (kd_T0 ht) (by omega) (by omega) (by decide) (by decide) rfl ?_
    refine xx_if (pc' := 30) (tg := 35) rfl rfl rfl (fun q27 => ?_) (fun q27 => ?_)
    · refine xi_iconst (pc' := 36) rfl rfl ?_
      refine xi_iadd (pc' := 37) rfl rfl ?_
      refine xx_ireturn rfl rfl ?_
      simp only [ex_P, Classical.not_not, ↓reduceIte, Nat.add_zero, or_true, true_or, not_true_eq_false, not_false_eq_true, or_false, false_or, wI_get, false_and, true_and, and_true, and_false, and_self, Nat.reduceEqDiff, Nat.succ_ne_zero, reduceCtorEq, nI_lit, nI_lit0, Nat.reduceLT, Nat.zero_add, mn_lit, mn_lit', mn_0] at *
      first | (simp only [c_st, *, ↓reduceIte, Nat.add_zero, or_true, true_or, not_true_eq_false, not_false_eq_true, or_false, false_or, wI_get, false_and, true_and, and_true, and_false, and_self, Nat.reduceEqDiff, Nat.succ_ne_zero, reduceCtorEq, nI_lit, nI_lit0, Nat.reduceLT, Nat.zero_add, mn_lit, mn_lit', mn_0]; done) | (exfalso; simp_all only [↓reduceIte, Nat.add_zero, or_true, true_or, not_true_eq_false, not_false_eq_true, or_false, false_or, wI_get, false_and, true_and, and_true, and_false, and_self, Nat.reduceEqDiff, Nat.succ_ne_zero, reduceCtorEq, nI_lit, nI_lit0, Nat.reduceLT, Nat.zero_add, mn_lit, mn_lit', mn_0]; done)
    · refine xi_bipush (pc' := 32) rfl (by decide) rfl ?_
      refine xi_goto (pc' := 36) rfl rfl ?_
      refine xi_iadd (pc' := 37) rfl rfl ?_
      refine xx_ireturn rfl rfl ?_
      simp only [ex_P, Classical.not_not, ↓reduceIte, Nat.add_zero, or_true, true_or, not_true_eq_false, not_false_eq_true, or_false, false_or, wI_get, false_and, true_and, and_true, and_false, and_self, Nat.reduceEqDiff, Nat.succ_ne_zero, reduceCtorEq, nI_lit, nI_lit0, Nat.reduceLT, Nat.zero_add, mn_lit, mn_lit', mn_0] at *
      first | (simp only [c_st, *, ↓reduceIte, Nat.add_zero, or_true, true_or, not_true_eq_false, not_false_eq_true, or_false, false_or, wI_get, false_and, true_and, and_true, and_false, and_self, Nat.reduceEqDiff, Nat.succ_ne_zero, reduceCtorEq, nI_lit, nI_lit0, Nat.reduceLT, Nat.zero_add, mn_lit, mn_lit', mn_0]; done) | (exfalso; simp_all only [↓reduceIte, Nat.add_zero, or_true, true_or, not_true_eq_false, not_false_eq_true, or_false, false_or, wI_get, false_and, true_and, and_true, and_false, and_self, Nat.reduceEqDiff, Nat.succ_ne_zero, reduceCtorEq, nI_lit, nI_lit0, Nat.reduceLT, Nat.zero_add, mn_lit, mn_lit', mn_0]; done)
theorem c_sendDraft {L : Nat} {xs : Nat → Int32} {D n : Nat} {I J : ex_Mem} {t s : Nat} (ht : t < 6) (hs : s < 3) : ro L xs (D + 1) 51 [.ref (8 + 6 * t), .int (nI (s + 1))] (mkH n I J) (mkH n (ex_copy I (10 + 6 * t) (4 * s) (11 + 6 * t) (4 * s) 4) J) := by
  show xx cb_G _ _ _ 51 0 [.ref (8 + 6 * t), .int (nI (s + 1)), ex_no] [] _ _
  refine xi_iload_n (pc' := 1) rfl rfl rfl ?_
  refine xx_callSi (pc' := 4) rfl rfl (by decide) rfl (Nat.le_of_ble_eq_true rfl) rfl rfl (c_firstOf) ?_
  refine xi_istore_n (pc' := 5) rfl (st1_2 rfl) rfl ?_
  refine xi_aload_n (pc' := 6) rfl rfl rfl ?_
  refine xc_getp (pc' := 9) rfl rfl (by decide) (kd_T0 ht) (by omega) (by decide) rfl (pd_T7 ht) rfl ?_
  refine xi_iload_n (pc' := 10) rfl rfl rfl ?_
  refine xi_aload_n (pc' := 11) rfl rfl rfl ?_
  refine xc_getp (pc' := 14) rfl rfl (by decide) (kd_T0 ht) (by omega) (by decide) rfl (pd_T8 ht) rfl ?_
  refine xi_iload_n (pc' := 15) rfl rfl rfl ?_
  refine xi_iconst (pc' := 16) rfl rfl ?_
  refine xc_copy (js := 4 * s) (jd := 4 * s) (jn := 4) (pc' := 19) rfl rfl (kd_T2 ht) (kd_T3 ht) (by omega) (by omega) (by omega) (by omega) (by first | rfl | (simp only [ix_add, ix_mul, ix_pred]; done)) (by first | rfl | (simp only [ix_add, ix_mul, ix_pred]; done)) (by first | rfl | (simp only [ix_add, ix_mul, ix_pred]; done)) (by omega) (by omega) (by decide) (by decide) (Nat.le_of_ble_eq_true rfl) rfl ?_
  refine xx_return rfl (by decide) ?_
  exact ⟨rfl, rfl⟩
theorem c_valueReceived {L : Nat} {xs : Nat → Int32} {D n : Nat} {I J : ex_Mem} {t s k : Nat} (ht : t < 6) (hs : s < 3) (hk : k < 4) : ri L xs (D + 1) 52 [.ref (8 + 6 * t), .int (nI (s + 1)), .int (nI k)] (mkH n I J) (if I (13 + 6 * t) s = 0 then - nI 1 else I (12 + 6 * t) (4 * s + k)) (mkH n I J) := by
  show xx cb_G _ _ _ 52 0 [.ref (8 + 6 * t), .int (nI (s + 1)), .int (nI k)] [] _ _
  refine xi_aload_n (pc' := 1) rfl rfl rfl ?_
  refine xc_getp (pc' := 4) rfl rfl (by decide) (kd_T0 ht) (by omega) (by decide) rfl (pd_T10 ht) rfl ?_
  refine xi_iload_n (pc' := 5) rfl rfl rfl ?_
  refine xi_iconst (pc' := 6) rfl rfl ?_
  refine xi_isub (pc' := 7) rfl rfl ?_
  refine xc_zald (j := s) (pc' := 8) rfl (kd_T5 ht) (by omega) (by omega) (ix_pred s) (by omega) (by decide) rfl ?_
  refine xx_if (pc' := 11) (tg := 25) rfl rfl rfl (fun q8 => ?_) (fun q8 => ?_)
  · refine xi_iconstm (pc' := 26) rfl rfl ?_
    refine xx_ireturn rfl rfl ?_
    simp only [ex_P, Classical.not_not, ↓reduceIte, Nat.add_zero, or_true, true_or, not_true_eq_false, not_false_eq_true, or_false, false_or, wI_get, false_and, true_and, and_true, and_false, and_self, Nat.reduceEqDiff, Nat.succ_ne_zero, reduceCtorEq, nI_lit, nI_lit0, Nat.reduceLT, Nat.zero_add, mn_lit, mn_lit', mn_0] at *
    first | (simp only [ix_0, *, ↓reduceIte, Nat.add_zero, or_true, true_or, not_true_eq_false, not_false_eq_true, or_false, false_or, wI_get, false_and, true_and, and_true, and_false, and_self, Nat.reduceEqDiff, Nat.succ_ne_zero, reduceCtorEq, nI_lit, nI_lit0, Nat.reduceLT, Nat.zero_add, mn_lit, mn_lit', mn_0]; done) | (exfalso; simp_all only [↓reduceIte, Nat.add_zero, or_true, true_or, not_true_eq_false, not_false_eq_true, or_false, false_or, wI_get, false_and, true_and, and_true, and_false, and_self, Nat.reduceEqDiff, Nat.succ_ne_zero, reduceCtorEq, nI_lit, nI_lit0, Nat.reduceLT, Nat.zero_add, mn_lit, mn_lit', mn_0]; done)
  · refine xi_aload_n (pc' := 12) rfl rfl rfl ?_
    refine xc_getp (pc' := 15) rfl rfl (by decide) (kd_T0 ht) (by omega) (by decide) rfl (pd_T9 ht) rfl ?_
    refine xi_iload_n (pc' := 16) rfl rfl rfl ?_
    refine xx_callSi (pc' := 19) rfl rfl (by decide) rfl (Nat.le_of_ble_eq_true rfl) rfl rfl (c_firstOf) ?_
    refine xi_iload_n (pc' := 20) rfl rfl rfl ?_
    refine xi_iadd (pc' := 21) rfl rfl ?_
    refine xc_iald (j := 4 * s + k) (pc' := 22) rfl (kd_T4 ht) (by omega) (by omega) (by omega) (by first | rfl | (simp only [ix_add, ix_mul, ix_pred]; done) | (simp only [ix_add, ix_mul, ix_pred, *]; done)) (by omega) (by decide) rfl ?_
    refine xi_goto (pc' := 26) rfl rfl ?_
    refine xx_ireturn rfl rfl ?_
    simp only [ex_P, Classical.not_not, ↓reduceIte, Nat.add_zero, or_true, true_or, not_true_eq_false, not_false_eq_true, or_false, false_or, wI_get, false_and, true_and, and_true, and_false, and_self, Nat.reduceEqDiff, Nat.succ_ne_zero, reduceCtorEq, nI_lit, nI_lit0, Nat.reduceLT, Nat.zero_add, mn_lit, mn_lit', mn_0] at *
    first | (simp only [ix_0, *, ↓reduceIte, Nat.add_zero, or_true, true_or, not_true_eq_false, not_false_eq_true, or_false, false_or, wI_get, false_and, true_and, and_true, and_false, and_self, Nat.reduceEqDiff, Nat.succ_ne_zero, reduceCtorEq, nI_lit, nI_lit0, Nat.reduceLT, Nat.zero_add, mn_lit, mn_lit', mn_0]; done) | (exfalso; simp_all only [↓reduceIte, Nat.add_zero, or_true, true_or, not_true_eq_false, not_false_eq_true, or_false, false_or, wI_get, false_and, true_and, and_true, and_false, and_self, Nat.reduceEqDiff, Nat.succ_ne_zero, reduceCtorEq, nI_lit, nI_lit0, Nat.reduceLT, Nat.zero_add, mn_lit, mn_lit', mn_0]; done)
theorem c_clearMarks {L : Nat} {xs : Nat → Int32} {D n : Nat} {I J : ex_Mem} {t : Nat} (ht : t < 6) : ro L xs D 55 [.ref (8 + 6 * t)] (mkH n I J) (mkH n (c_clr I t) J) := by
  show xx cb_G _ _ _ 55 0 [.ref (8 + 6 * t)] [] _ _
  refine xi_aload_n (pc' := 1) rfl rfl rfl ?_
  refine xi_iconst (pc' := 2) rfl rfl ?_
  refine xc_puti (pc' := 5) rfl rfl (by decide) (kd_T0 ht) (by omega) (by omega) (by decide) (Or.inr ⟨rfl, by first | rfl | assumption⟩) rfl ?_
  refine xi_aload_n (pc' := 6) rfl rfl rfl ?_
  refine xi_iconst (pc' := 7) rfl rfl ?_
  refine xc_puti (pc' := 10) rfl rfl (by decide) (kd_T0 ht) (by omega) (by omega) (by decide) (Or.inr ⟨rfl, by first | rfl | assumption⟩) rfl ?_
  refine xx_return rfl (by decide) ?_
  exact ⟨rfl, rfl⟩
theorem c_obey_ok {L : Nat} {xs : Nat → Int32} {D n : Nat} {I J : ex_Mem} {t : Nat} {c : Int32} (ht : t < 6) : ri L xs (D + 1) 57 [.ref (8 + 6 * t), .int c] (mkH n I J) ((c_obey I t c).1) (mkH n (c_obey I t c).2 J) := by
  show xx cb_G _ _ _ 57 0 [.ref (8 + 6 * t), .int c] [] _ _
  refine xi_aload_n (pc' := 1) rfl rfl rfl ?_
  refine xc_geti (pc' := 4) rfl rfl (by decide) (kd_T0 ht) (by omega) (by omega) (by decide) (by decide) rfl ?_
  refine xx_if (pc' := 7) (tg := 9) rfl rfl rfl (fun q4 => ?_) (fun q4 => ?_)
  · refine xi_aload_n (pc' := 10) rfl rfl rfl ?_
    refine xx_callVv (pc' := 13) rfl rfl (by decide) rfl (kd_T0 ht) (by show _ < 81 + 2 * _; omega) (Nat.le_of_ble_eq_true rfl) rfl rfl (c_clearMarks ht) ?_
    refine xi_aload_n (pc' := 14) rfl rfl rfl ?_
    refine xi_iload_n (pc' := 15) rfl rfl rfl ?_
    refine xc_puti (pc' := 18) rfl rfl (by decide) (kd_T0 ht) (by omega) (by omega) (by decide) (Or.inl rfl) rfl ?_
    refine xi_iconst (pc' := 19) rfl rfl ?_
    refine xx_zreturn rfl rfl (by first | rfl | assumption | exact b01_bI | simp [ex_b01, bI]) ?_
    simp only [ex_P, Classical.not_not, ↓reduceIte, Nat.add_zero, or_true, true_or, not_true_eq_false, not_false_eq_true, or_false, false_or, wI_get, false_and, true_and, and_true, and_false, and_self, Nat.reduceEqDiff, Nat.succ_ne_zero, reduceCtorEq, nI_lit, nI_lit0, Nat.reduceLT, Nat.zero_add, mn_lit, mn_lit', mn_0] at *
    first | (simp only [c_obey, *, ↓reduceIte, Nat.add_zero, or_true, true_or, not_true_eq_false, not_false_eq_true, or_false, false_or, wI_get, false_and, true_and, and_true, and_false, and_self, Nat.reduceEqDiff, Nat.succ_ne_zero, reduceCtorEq, nI_lit, nI_lit0, Nat.reduceLT, Nat.zero_add, mn_lit, mn_lit', mn_0]; done) | (exfalso; simp_all only [↓reduceIte, Nat.add_zero, or_true, true_or, not_true_eq_false, not_false_eq_true, or_false, false_or, wI_get, false_and, true_and, and_true, and_false, and_self, Nat.reduceEqDiff, Nat.succ_ne_zero, reduceCtorEq, nI_lit, nI_lit0, Nat.reduceLT, Nat.zero_add, mn_lit, mn_lit', mn_0]; done)
  · refine xi_iconst (pc' := 8) rfl rfl ?_
    refine xx_zreturn rfl rfl (by first | rfl | assumption | exact b01_bI | simp [ex_b01, bI]) ?_
    simp only [ex_P, Classical.not_not, ↓reduceIte, Nat.add_zero, or_true, true_or, not_true_eq_false, not_false_eq_true, or_false, false_or, wI_get, false_and, true_and, and_true, and_false, and_self, Nat.reduceEqDiff, Nat.succ_ne_zero, reduceCtorEq, nI_lit, nI_lit0, Nat.reduceLT, Nat.zero_add, mn_lit, mn_lit', mn_0] at *
    first | (simp only [c_obey, *, ↓reduceIte, Nat.add_zero, or_true, true_or, not_true_eq_false, not_false_eq_true, or_false, false_or, wI_get, false_and, true_and, and_true, and_false, and_self, Nat.reduceEqDiff, Nat.succ_ne_zero, reduceCtorEq, nI_lit, nI_lit0, Nat.reduceLT, Nat.zero_add, mn_lit, mn_lit', mn_0]; done) | (exfalso; simp_all only [↓reduceIte, Nat.add_zero, or_true, true_or, not_true_eq_false, not_false_eq_true, or_false, false_or, wI_get, false_and, true_and, and_true, and_false, and_self, Nat.reduceEqDiff, Nat.succ_ne_zero, reduceCtorEq, nI_lit, nI_lit0, Nat.reduceLT, Nat.zero_add, mn_lit, mn_lit', mn_0]; done)
theorem c_changeBy {L : Nat} {xs : Nat → Int32} {D n : Nat} {I J : ex_Mem} {t ob : Nat} {cd : Int32} (ht : t < 6) (hb : ob < 2) : ro L xs D 56 [.ref (8 + 6 * t), .int cd, .int (nI ob)] (mkH n I J) (mkH n (c_chg I t cd ob) J) := by
  show xx cb_G _ _ _ 56 0 [.ref (8 + 6 * t), .int cd, .int (nI ob)] [] _ _
  refine xi_iload_n (pc' := 1) rfl rfl rfl ?_
  refine xi_iconst (pc' := 2) rfl rfl ?_
  refine xx_icmp (pc' := 5) (tg := 18) rfl rfl rfl (fun q2 => ?_) (fun q2 => ?_)
  · refine xi_iload_n (pc' := 19) rfl rfl rfl ?_
    refine xi_iconst (pc' := 20) rfl rfl ?_
    refine xx_icmp (pc' := 23) (tg := 33) rfl rfl rfl (fun q20 => ?_) (fun q20 => ?_)
    · refine xi_iload_n (pc' := 34) rfl rfl rfl ?_
      refine xi_iconst (pc' := 35) rfl rfl ?_
      refine xx_icmp (pc' := 38) (tg := 48) rfl rfl rfl (fun q35 => ?_) (fun q35 => ?_)
      · refine xi_iload_n (pc' := 49) rfl rfl rfl ?_
        refine xi_bipush (pc' := 51) rfl (by decide) rfl ?_
        refine xx_icmp (pc' := 54) (tg := 68) rfl rfl rfl (fun q51 => ?_) (fun q51 => ?_)
        · refine xx_return rfl (by decide) ?_
          simp only [ex_P, Classical.not_not, ↓reduceIte, Nat.add_zero, or_true, true_or, not_true_eq_false, not_false_eq_true, or_false, false_or, wI_get, false_and, true_and, and_true, and_false, and_self, Nat.reduceEqDiff, Nat.succ_ne_zero, reduceCtorEq, nI_lit, nI_lit0, Nat.reduceLT, Nat.zero_add, mn_lit, mn_lit', mn_0] at *
          first | (simp only [c_chg, *, ↓reduceIte, Nat.add_zero, or_true, true_or, not_true_eq_false, not_false_eq_true, or_false, false_or, wI_get, false_and, true_and, and_true, and_false, and_self, Nat.reduceEqDiff, Nat.succ_ne_zero, reduceCtorEq, nI_lit, nI_lit0, Nat.reduceLT, Nat.zero_add, mn_lit, mn_lit', mn_0]; done) | (exfalso; simp_all only [↓reduceIte, Nat.add_zero, or_true, true_or, not_true_eq_false, not_false_eq_true, or_false, false_or, wI_get, false_and, true_and, and_true, and_false, and_self, Nat.reduceEqDiff, Nat.succ_ne_zero, reduceCtorEq, nI_lit, nI_lit0, Nat.reduceLT, Nat.zero_add, mn_lit, mn_lit', mn_0]; done)
        · refine xi_aload_n (pc' := 55) rfl rfl rfl ?_
          refine xc_getp (pc' := 58) rfl rfl (by decide) (kd_T0 ht) (by omega) (by decide) rfl (pd_T6 ht) rfl ?_
          refine xi_iconst (pc' := 59) rfl rfl ?_
          refine xi_iconst (pc' := 60) rfl rfl ?_
          refine xc_zast (j := 0) (pc' := 61) rfl (kd_T1 ht) (by omega) (by omega) (by first | rfl | (simp only [ix_add, ix_mul, ix_pred]; done) | (simp only [ix_add, ix_mul, ix_pred, *]; done)) (by omega) (by decide) (by first | rfl | assumption) rfl ?_
          refine xi_aload_n (pc' := 62) rfl rfl rfl ?_
          refine xc_getp (pc' := 65) rfl rfl (by decide) (kd_T0 ht) (by omega) (by decide) rfl (pd_T6 ht) rfl ?_
          refine xi_iconst (pc' := 66) rfl rfl ?_
          refine xi_iconst (pc' := 67) rfl rfl ?_
          refine xc_zast (j := 1) (pc' := 68) rfl (kd_T1 ht) (by omega) (by omega) (by first | rfl | (simp only [ix_add, ix_mul, ix_pred]; done) | (simp only [ix_add, ix_mul, ix_pred, *]; done)) (by omega) (by decide) (by first | rfl | assumption) rfl ?_
          refine xx_return rfl (by decide) ?_
          simp only [ex_P, Classical.not_not, ↓reduceIte, Nat.add_zero, or_true, true_or, not_true_eq_false, not_false_eq_true, or_false, false_or, wI_get, false_and, true_and, and_true, and_false, and_self, Nat.reduceEqDiff, Nat.succ_ne_zero, reduceCtorEq, nI_lit, nI_lit0, Nat.reduceLT, Nat.zero_add, mn_lit, mn_lit', mn_0] at *
          first | (simp only [c_chg, *, ↓reduceIte, Nat.add_zero, or_true, true_or, not_true_eq_false, not_false_eq_true, or_false, false_or, wI_get, false_and, true_and, and_true, and_false, and_self, Nat.reduceEqDiff, Nat.succ_ne_zero, reduceCtorEq, nI_lit, nI_lit0, Nat.reduceLT, Nat.zero_add, mn_lit, mn_lit', mn_0]; done) | (exfalso; simp_all only [↓reduceIte, Nat.add_zero, or_true, true_or, not_true_eq_false, not_false_eq_true, or_false, false_or, wI_get, false_and, true_and, and_true, and_false, and_self, Nat.reduceEqDiff, Nat.succ_ne_zero, reduceCtorEq, nI_lit, nI_lit0, Nat.reduceLT, Nat.zero_add, mn_lit, mn_lit', mn_0]; done)
      · refine xi_aload_n (pc' := 39) rfl rfl rfl ?_
        refine xc_getp (pc' := 42) rfl rfl (by decide) (kd_T0 ht) (by omega) (by decide) rfl (pd_T6 ht) rfl ?_
        refine xi_iload_n (pc' := 43) rfl rfl rfl ?_
        refine xi_iconst (pc' := 44) rfl rfl ?_
        refine xc_zast (j := ob) (pc' := 45) rfl (kd_T1 ht) (by omega) (by omega) (by first | rfl | (simp only [ix_add, ix_mul, ix_pred]; done) | (simp only [ix_add, ix_mul, ix_pred, *]; done)) (by omega) (by decide) (by first | rfl | assumption) rfl ?_
        refine xi_goto (pc' := 68) rfl rfl ?_
        refine xx_return rfl (by decide) ?_
        simp only [ex_P, Classical.not_not, ↓reduceIte, Nat.add_zero, or_true, true_or, not_true_eq_false, not_false_eq_true, or_false, false_or, wI_get, false_and, true_and, and_true, and_false, and_self, Nat.reduceEqDiff, Nat.succ_ne_zero, reduceCtorEq, nI_lit, nI_lit0, Nat.reduceLT, Nat.zero_add, mn_lit, mn_lit', mn_0] at *
        first | (simp only [c_chg, *, ↓reduceIte, Nat.add_zero, or_true, true_or, not_true_eq_false, not_false_eq_true, or_false, false_or, wI_get, false_and, true_and, and_true, and_false, and_self, Nat.reduceEqDiff, Nat.succ_ne_zero, reduceCtorEq, nI_lit, nI_lit0, Nat.reduceLT, Nat.zero_add, mn_lit, mn_lit', mn_0]; done) | (exfalso; simp_all only [↓reduceIte, Nat.add_zero, or_true, true_or, not_true_eq_false, not_false_eq_true, or_false, false_or, wI_get, false_and, true_and, and_true, and_false, and_self, Nat.reduceEqDiff, Nat.succ_ne_zero, reduceCtorEq, nI_lit, nI_lit0, Nat.reduceLT, Nat.zero_add, mn_lit, mn_lit', mn_0]; done)
    · refine xi_aload_n (pc' := 24) rfl rfl rfl ?_
      refine xc_getp (pc' := 27) rfl rfl (by decide) (kd_T0 ht) (by omega) (by decide) rfl (pd_T6 ht) rfl ?_
      refine xi_iload_n (pc' := 28) rfl rfl rfl ?_
      refine xi_iconst (pc' := 29) rfl rfl ?_
      refine xc_zast (j := ob) (pc' := 30) rfl (kd_T1 ht) (by omega) (by omega) (by first | rfl | (simp only [ix_add, ix_mul, ix_pred]; done) | (simp only [ix_add, ix_mul, ix_pred, *]; done)) (by omega) (by decide) (by first | rfl | assumption) rfl ?_
      refine xi_goto (pc' := 68) rfl rfl ?_
      refine xx_return rfl (by decide) ?_
      simp only [ex_P, Classical.not_not, ↓reduceIte, Nat.add_zero, or_true, true_or, not_true_eq_false, not_false_eq_true, or_false, false_or, wI_get, false_and, true_and, and_true, and_false, and_self, Nat.reduceEqDiff, Nat.succ_ne_zero, reduceCtorEq, nI_lit, nI_lit0, Nat.reduceLT, Nat.zero_add, mn_lit, mn_lit', mn_0] at *
      first | (simp only [c_chg, *, ↓reduceIte, Nat.add_zero, or_true, true_or, not_true_eq_false, not_false_eq_true, or_false, false_or, wI_get, false_and, true_and, and_true, and_false, and_self, Nat.reduceEqDiff, Nat.succ_ne_zero, reduceCtorEq, nI_lit, nI_lit0, Nat.reduceLT, Nat.zero_add, mn_lit, mn_lit', mn_0]; done) | (exfalso; simp_all only [↓reduceIte, Nat.add_zero, or_true, true_or, not_true_eq_false, not_false_eq_true, or_false, false_or, wI_get, false_and, true_and, and_true, and_false, and_self, Nat.reduceEqDiff, Nat.succ_ne_zero, reduceCtorEq, nI_lit, nI_lit0, Nat.reduceLT, Nat.zero_add, mn_lit, mn_lit', mn_0]; done)
  · refine xi_aload_n (pc' := 6) rfl rfl rfl ?_
    refine xi_dup (pc' := 7) rfl rfl rfl ?_
    refine xc_geti (pc' := 10) rfl rfl (by decide) (kd_T0 ht) (by omega) (by omega) (by decide) (by decide) rfl ?_
    refine xi_iconst (pc' := 11) rfl rfl ?_
    refine xi_iadd (pc' := 12) rfl rfl ?_
    refine xc_puti (pc' := 15) rfl rfl (by decide) (kd_T0 ht) (by omega) (by omega) (by decide) (Or.inl rfl) rfl ?_
    refine xi_goto (pc' := 68) rfl rfl ?_
    refine xx_return rfl (by decide) ?_
    simp only [ex_P, Classical.not_not, ↓reduceIte, Nat.add_zero, or_true, true_or, not_true_eq_false, not_false_eq_true, or_false, false_or, wI_get, false_and, true_and, and_true, and_false, and_self, Nat.reduceEqDiff, Nat.succ_ne_zero, reduceCtorEq, nI_lit, nI_lit0, Nat.reduceLT, Nat.zero_add, mn_lit, mn_lit', mn_0] at *
    first | (simp only [c_chg, *, ↓reduceIte, Nat.add_zero, or_true, true_or, not_true_eq_false, not_false_eq_true, or_false, false_or, wI_get, false_and, true_and, and_true, and_false, and_self, Nat.reduceEqDiff, Nat.succ_ne_zero, reduceCtorEq, nI_lit, nI_lit0, Nat.reduceLT, Nat.zero_add, mn_lit, mn_lit', mn_0]; done) | (exfalso; simp_all only [↓reduceIte, Nat.add_zero, or_true, true_or, not_true_eq_false, not_false_eq_true, or_false, false_or, wI_get, false_and, true_and, and_true, and_false, and_self, Nat.reduceEqDiff, Nat.succ_ne_zero, reduceCtorEq, nI_lit, nI_lit0, Nat.reduceLT, Nat.zero_add, mn_lit, mn_lit', mn_0]; done)
theorem c_obeyMode {L : Nat} {xs : Nat → Int32} {D n : Nat} {I J : ex_Mem} {t b : Nat} {cd : Int32} (ht : t < 6) (hb : b < 2) : ri L xs (D + 3) 54 [.ref (8 + 6 * t), .int cd, .int (nI b)] (mkH n I J) ((c_obeyM I t cd b).1) (mkH n (c_obeyM I t cd b).2 J) := by
  show xx cb_G _ _ _ 54 0 [.ref (8 + 6 * t), .int cd, .int (nI b)] [] _ _
  refine xi_aload_n (pc' := 1) rfl rfl rfl ?_
  refine xc_geti (pc' := 4) rfl rfl (by decide) (kd_T0 ht) (by omega) (by omega) (by decide) (by decide) rfl ?_
  refine xx_if (pc' := 7) (tg := 9) rfl rfl rfl (fun q4 => ?_) (fun q4 => ?_)
  · refine xi_iload_n (pc' := 10) rfl rfl rfl ?_
    refine xi_iconst (pc' := 11) rfl rfl ?_
    refine xx_icmp (pc' := 14) (tg := 24) rfl rfl rfl (fun q11 => ?_) (fun q11 => ?_)
    · refine xi_iload_n (pc' := 25) rfl rfl rfl ?_
      refine xi_bipush (pc' := 27) rfl (by decide) rfl ?_
      refine xx_icmp (pc' := 30) (tg := 42) rfl rfl rfl (fun q27 => ?_) (fun q27 => ?_)
      · refine xi_aload_n (pc' := 43) rfl rfl rfl ?_
        refine xi_iload_n (pc' := 44) rfl rfl rfl ?_
        refine xi_iconst (pc' := 45) rfl rfl ?_
        refine xi_iload_n (pc' := 46) rfl rfl rfl ?_
        refine xi_isub (pc' := 47) rfl rfl ?_
        refine xx_topi (y := nI (1 - b)) (ix_1m hb) ?_
        refine xx_callVv (pc' := 50) rfl rfl (by decide) rfl (kd_T0 ht) (by show _ < 81 + 2 * _; omega) (Nat.le_of_ble_eq_true rfl) rfl rfl (c_changeBy ht (show 1 - b < 2 by omega)) ?_
        refine xi_iconst (pc' := 51) rfl rfl ?_
        refine xx_zreturn rfl rfl (by first | rfl | assumption | exact b01_bI | simp [ex_b01, bI]) ?_
        simp only [ex_P, Classical.not_not, ↓reduceIte, Nat.add_zero, or_true, true_or, not_true_eq_false, not_false_eq_true, or_false, false_or, wI_get, false_and, true_and, and_true, and_false, and_self, Nat.reduceEqDiff, Nat.succ_ne_zero, reduceCtorEq, nI_lit, nI_lit0, Nat.reduceLT, Nat.zero_add, mn_lit, mn_lit', mn_0] at *
        first | (simp only [c_obeyM, c_m1, c_m2, *, ↓reduceIte, Nat.add_zero, or_true, true_or, not_true_eq_false, not_false_eq_true, or_false, false_or, wI_get, false_and, true_and, and_true, and_false, and_self, Nat.reduceEqDiff, Nat.succ_ne_zero, reduceCtorEq, nI_lit, nI_lit0, Nat.reduceLT, Nat.zero_add, mn_lit, mn_lit', mn_0]; done) | (exfalso; simp_all only [↓reduceIte, Nat.add_zero, or_true, true_or, not_true_eq_false, not_false_eq_true, or_false, false_or, wI_get, false_and, true_and, and_true, and_false, and_self, Nat.reduceEqDiff, Nat.succ_ne_zero, reduceCtorEq, nI_lit, nI_lit0, Nat.reduceLT, Nat.zero_add, mn_lit, mn_lit', mn_0]; done)
      · refine xi_aload_n (pc' := 31) rfl rfl rfl ?_
        refine xi_aload_n (pc' := 32) rfl rfl rfl ?_
        refine xc_geti (pc' := 35) rfl rfl (by decide) (kd_T0 ht) (by omega) (by omega) (by decide) (by decide) rfl ?_
        refine xi_iload_n (pc' := 36) rfl rfl rfl ?_
        refine xx_callSi (pc' := 39) rfl rfl (by decide) rfl (Nat.le_of_ble_eq_true rfl) rfl rfl (c_mode _ _) ?_
        refine xc_puti (pc' := 42) rfl rfl (by decide) (kd_T0 ht) (by omega) (by omega) (by decide) (Or.inl rfl) rfl ?_
        refine xi_aload_n (pc' := 43) rfl rfl rfl ?_
        refine xi_iload_n (pc' := 44) rfl rfl rfl ?_
        refine xi_iconst (pc' := 45) rfl rfl ?_
        refine xi_iload_n (pc' := 46) rfl rfl rfl ?_
        refine xi_isub (pc' := 47) rfl rfl ?_
        refine xx_topi (y := nI (1 - b)) (ix_1m hb) ?_
        refine xx_callVv (pc' := 50) rfl rfl (by decide) rfl (kd_T0 ht) (by show _ < 81 + 2 * _; omega) (Nat.le_of_ble_eq_true rfl) rfl rfl (c_changeBy ht (show 1 - b < 2 by omega)) ?_
        refine xi_iconst (pc' := 51) rfl rfl ?_
        refine xx_zreturn rfl rfl (by first | rfl | assumption | exact b01_bI | simp [ex_b01, bI]) ?_
        simp only [ex_P, Classical.not_not, ↓reduceIte, Nat.add_zero, or_true, true_or, not_true_eq_false, not_false_eq_true, or_false, false_or, wI_get, false_and, true_and, and_true, and_false, and_self, Nat.reduceEqDiff, Nat.succ_ne_zero, reduceCtorEq, nI_lit, nI_lit0, Nat.reduceLT, Nat.zero_add, mn_lit, mn_lit', mn_0] at *
        first | (simp only [c_obeyM, c_m1, c_m2, *, ↓reduceIte, Nat.add_zero, or_true, true_or, not_true_eq_false, not_false_eq_true, or_false, false_or, wI_get, false_and, true_and, and_true, and_false, and_self, Nat.reduceEqDiff, Nat.succ_ne_zero, reduceCtorEq, nI_lit, nI_lit0, Nat.reduceLT, Nat.zero_add, mn_lit, mn_lit', mn_0]; done) | (exfalso; simp_all only [↓reduceIte, Nat.add_zero, or_true, true_or, not_true_eq_false, not_false_eq_true, or_false, false_or, wI_get, false_and, true_and, and_true, and_false, and_self, Nat.reduceEqDiff, Nat.succ_ne_zero, reduceCtorEq, nI_lit, nI_lit0, Nat.reduceLT, Nat.zero_add, mn_lit, mn_lit', mn_0]; done)
    · refine xi_iload_n (pc' := 15) rfl rfl rfl ?_
      refine xi_bipush (pc' := 17) rfl (by decide) rfl ?_
      refine xx_icmp (pc' := 20) (tg := 24) rfl rfl rfl (fun q17 => ?_) (fun q17 => ?_)
      · refine xi_iload_n (pc' := 25) rfl rfl rfl ?_
        refine xi_bipush (pc' := 27) rfl (by decide) rfl ?_
        refine xx_icmp (pc' := 30) (tg := 42) rfl rfl rfl (fun q27 => ?_) (fun q27 => ?_)
        · refine xi_aload_n (pc' := 43) rfl rfl rfl ?_
          refine xi_iload_n (pc' := 44) rfl rfl rfl ?_
          refine xi_iconst (pc' := 45) rfl rfl ?_
          refine xi_iload_n (pc' := 46) rfl rfl rfl ?_
          refine xi_isub (pc' := 47) rfl rfl ?_
          refine xx_topi (y := nI (1 - b)) (ix_1m hb) ?_
          refine xx_callVv (pc' := 50) rfl rfl (by decide) rfl (kd_T0 ht) (by show _ < 81 + 2 * _; omega) (Nat.le_of_ble_eq_true rfl) rfl rfl (c_changeBy ht (show 1 - b < 2 by omega)) ?_
          refine xi_iconst (pc' := 51) rfl rfl ?_
          refine xx_zreturn rfl rfl (by first | rfl | assumption | exact b01_bI | simp [ex_b01, bI]) ?_
          simp only [ex_P, Classical.not_not, ↓reduceIte, Nat.add_zero, or_true, true_or, not_true_eq_false, not_false_eq_true, or_false, false_or, wI_get, false_and, true_and, and_true, and_false, and_self, Nat.reduceEqDiff, Nat.succ_ne_zero, reduceCtorEq, nI_lit, nI_lit0, Nat.reduceLT, Nat.zero_add, mn_lit, mn_lit', mn_0] at *
          first | (simp only [c_obeyM, c_m1, c_m2, *, ↓reduceIte, Nat.add_zero, or_true, true_or, not_true_eq_false, not_false_eq_true, or_false, false_or, wI_get, false_and, true_and, and_true, and_false, and_self, Nat.reduceEqDiff, Nat.succ_ne_zero, reduceCtorEq, nI_lit, nI_lit0, Nat.reduceLT, Nat.zero_add, mn_lit, mn_lit', mn_0]; done) | (exfalso; simp_all only [↓reduceIte, Nat.add_zero, or_true, true_or, not_true_eq_false, not_false_eq_true, or_false, false_or, wI_get, false_and, true_and, and_true, and_false, and_self, Nat.reduceEqDiff, Nat.succ_ne_zero, reduceCtorEq, nI_lit, nI_lit0, Nat.reduceLT, Nat.zero_add, mn_lit, mn_lit', mn_0]; done)
        · refine xi_aload_n (pc' := 31) rfl rfl rfl ?_
          refine xi_aload_n (pc' := 32) rfl rfl rfl ?_
          refine xc_geti (pc' := 35) rfl rfl (by decide) (kd_T0 ht) (by omega) (by omega) (by decide) (by decide) rfl ?_
          refine xi_iload_n (pc' := 36) rfl rfl rfl ?_
          refine xx_callSi (pc' := 39) rfl rfl (by decide) rfl (Nat.le_of_ble_eq_true rfl) rfl rfl (c_mode _ _) ?_
          refine xc_puti (pc' := 42) rfl rfl (by decide) (kd_T0 ht) (by omega) (by omega) (by decide) (Or.inl rfl) rfl ?_
          refine xi_aload_n (pc' := 43) rfl rfl rfl ?_
          refine xi_iload_n (pc' := 44) rfl rfl rfl ?_
          refine xi_iconst (pc' := 45) rfl rfl ?_
          refine xi_iload_n (pc' := 46) rfl rfl rfl ?_
          refine xi_isub (pc' := 47) rfl rfl ?_
          refine xx_topi (y := nI (1 - b)) (ix_1m hb) ?_
          refine xx_callVv (pc' := 50) rfl rfl (by decide) rfl (kd_T0 ht) (by show _ < 81 + 2 * _; omega) (Nat.le_of_ble_eq_true rfl) rfl rfl (c_changeBy ht (show 1 - b < 2 by omega)) ?_
          refine xi_iconst (pc' := 51) rfl rfl ?_
          refine xx_zreturn rfl rfl (by first | rfl | assumption | exact b01_bI | simp [ex_b01, bI]) ?_
          simp only [ex_P, Classical.not_not, ↓reduceIte, Nat.add_zero, or_true, true_or, not_true_eq_false, not_false_eq_true, or_false, false_or, wI_get, false_and, true_and, and_true, and_false, and_self, Nat.reduceEqDiff, Nat.succ_ne_zero, reduceCtorEq, nI_lit, nI_lit0, Nat.reduceLT, Nat.zero_add, mn_lit, mn_lit', mn_0] at *
          first | (simp only [c_obeyM, c_m1, c_m2, *, ↓reduceIte, Nat.add_zero, or_true, true_or, not_true_eq_false, not_false_eq_true, or_false, false_or, wI_get, false_and, true_and, and_true, and_false, and_self, Nat.reduceEqDiff, Nat.succ_ne_zero, reduceCtorEq, nI_lit, nI_lit0, Nat.reduceLT, Nat.zero_add, mn_lit, mn_lit', mn_0]; done) | (exfalso; simp_all only [↓reduceIte, Nat.add_zero, or_true, true_or, not_true_eq_false, not_false_eq_true, or_false, false_or, wI_get, false_and, true_and, and_true, and_false, and_self, Nat.reduceEqDiff, Nat.succ_ne_zero, reduceCtorEq, nI_lit, nI_lit0, Nat.reduceLT, Nat.zero_add, mn_lit, mn_lit', mn_0]; done)
      · refine xi_aload_n (pc' := 21) rfl rfl rfl ?_
        refine xx_callVv (pc' := 24) rfl rfl (by decide) rfl (kd_T0 ht) (by show _ < 81 + 2 * _; omega) (Nat.le_of_ble_eq_true rfl) rfl rfl (c_clearMarks ht) ?_
        refine xi_iload_n (pc' := 25) rfl rfl rfl ?_
        refine xi_bipush (pc' := 27) rfl (by decide) rfl ?_
        refine xx_icmp (pc' := 30) (tg := 42) rfl rfl rfl (fun q27 => ?_) (fun q27 => ?_)
        · refine xi_aload_n (pc' := 43) rfl rfl rfl ?_
          refine xi_iload_n (pc' := 44) rfl rfl rfl ?_
          refine xi_iconst (pc' := 45) rfl rfl ?_
          refine xi_iload_n (pc' := 46) rfl rfl rfl ?_
          refine xi_isub (pc' := 47) rfl rfl ?_
          refine xx_topi (y := nI (1 - b)) (ix_1m hb) ?_
          refine xx_callVv (pc' := 50) rfl rfl (by decide) rfl (kd_T0 ht) (by show _ < 81 + 2 * _; omega) (Nat.le_of_ble_eq_true rfl) rfl rfl (c_changeBy ht (show 1 - b < 2 by omega)) ?_
          refine xi_iconst (pc' := 51) rfl rfl ?_
          refine xx_zreturn rfl rfl (by first | rfl | assumption | exact b01_bI | simp [ex_b01, bI]) ?_
          simp only [ex_P, Classical.not_not, ↓reduceIte, Nat.add_zero, or_true, true_or, not_true_eq_false, not_false_eq_true, or_false, false_or, wI_get, false_and, true_and, and_true, and_false, and_self, Nat.reduceEqDiff, Nat.succ_ne_zero, reduceCtorEq, nI_lit, nI_lit0, Nat.reduceLT, Nat.zero_add, mn_lit, mn_lit', mn_0] at *
          first | (simp only [c_obeyM, c_m1, c_m2, *, ↓reduceIte, Nat.add_zero, or_true, true_or, not_true_eq_false, not_false_eq_true, or_false, false_or, wI_get, false_and, true_and, and_true, and_false, and_self, Nat.reduceEqDiff, Nat.succ_ne_zero, reduceCtorEq, nI_lit, nI_lit0, Nat.reduceLT, Nat.zero_add, mn_lit, mn_lit', mn_0]; done) | (exfalso; simp_all only [↓reduceIte, Nat.add_zero, or_true, true_or, not_true_eq_false, not_false_eq_true, or_false, false_or, wI_get, false_and, true_and, and_true, and_false, and_self, Nat.reduceEqDiff, Nat.succ_ne_zero, reduceCtorEq, nI_lit, nI_lit0, Nat.reduceLT, Nat.zero_add, mn_lit, mn_lit', mn_0]; done)
        · refine xi_aload_n (pc' := 31) rfl rfl rfl ?_
          refine xi_aload_n (pc' := 32) rfl rfl rfl ?_
          refine xc_geti (pc' := 35) rfl rfl (by decide) (kd_T0 ht) (by omega) (by omega) (by decide) (by decide) rfl ?_
          refine xi_iload_n (pc' := 36) rfl rfl rfl ?_
          refine xx_callSi (pc' := 39) rfl rfl (by decide) rfl (Nat.le_of_ble_eq_true rfl) rfl rfl (c_mode _ _) ?_
          refine xc_puti (pc' := 42) rfl rfl (by decide) (kd_T0 ht) (by omega) (by omega) (by decide) (Or.inl rfl) rfl ?_
          refine xi_aload_n (pc' := 43) rfl rfl rfl ?_
          refine xi_iload_n (pc' := 44) rfl rfl rfl ?_
          refine xi_iconst (pc' := 45) rfl rfl ?_
          refine xi_iload_n (pc' := 46) rfl rfl rfl ?_
          refine xi_isub (pc' := 47) rfl rfl ?_
          refine xx_topi (y := nI (1 - b)) (ix_1m hb) ?_
          refine xx_callVv (pc' := 50) rfl rfl (by decide) rfl (kd_T0 ht) (by show _ < 81 + 2 * _; omega) (Nat.le_of_ble_eq_true rfl) rfl rfl (c_changeBy ht (show 1 - b < 2 by omega)) ?_
          refine xi_iconst (pc' := 51) rfl rfl ?_
          refine xx_zreturn rfl rfl (by first | rfl | assumption | exact b01_bI | simp [ex_b01, bI]) ?_
          simp only [ex_P, Classical.not_not, ↓reduceIte, Nat.add_zero, or_true, true_or, not_true_eq_false, not_false_eq_true, or_false, false_or, wI_get, false_and, true_and, and_true, and_false, and_self, Nat.reduceEqDiff, Nat.succ_ne_zero, reduceCtorEq, nI_lit, nI_lit0, Nat.reduceLT, Nat.zero_add, mn_lit, mn_lit', mn_0] at *
          first | (simp only [c_obeyM, c_m1, c_m2, *, ↓reduceIte, Nat.add_zero, or_true, true_or, not_true_eq_false, not_false_eq_true, or_false, false_or, wI_get, false_and, true_and, and_true, and_false, and_self, Nat.reduceEqDiff, Nat.succ_ne_zero, reduceCtorEq, nI_lit, nI_lit0, Nat.reduceLT, Nat.zero_add, mn_lit, mn_lit', mn_0]; done) | (exfalso; simp_all only [↓reduceIte, Nat.add_zero, or_true, true_or, not_true_eq_false, not_false_eq_true, or_false, false_or, wI_get, false_and, true_and, and_true, and_false, and_self, Nat.reduceEqDiff, Nat.succ_ne_zero, reduceCtorEq, nI_lit, nI_lit0, Nat.reduceLT, Nat.zero_add, mn_lit, mn_lit', mn_0]; done)
  · refine xi_iconst (pc' := 8) rfl rfl ?_
    refine xx_zreturn rfl rfl (by first | rfl | assumption | exact b01_bI | simp [ex_b01, bI]) ?_
    simp only [ex_P, Classical.not_not, ↓reduceIte, Nat.add_zero, or_true, true_or, not_true_eq_false, not_false_eq_true, or_false, false_or, wI_get, false_and, true_and, and_true, and_false, and_self, Nat.reduceEqDiff, Nat.succ_ne_zero, reduceCtorEq, nI_lit, nI_lit0, Nat.reduceLT, Nat.zero_add, mn_lit, mn_lit', mn_0] at *
    first | (simp only [c_obeyM, c_m1, c_m2, *, ↓reduceIte, Nat.add_zero, or_true, true_or, not_true_eq_false, not_false_eq_true, or_false, false_or, wI_get, false_and, true_and, and_true, and_false, and_self, Nat.reduceEqDiff, Nat.succ_ne_zero, reduceCtorEq, nI_lit, nI_lit0, Nat.reduceLT, Nat.zero_add, mn_lit, mn_lit', mn_0]; done) | (exfalso; simp_all only [↓reduceIte, Nat.add_zero, or_true, true_or, not_true_eq_false, not_false_eq_true, or_false, false_or, wI_get, false_and, true_and, and_true, and_false, and_self, Nat.reduceEqDiff, Nat.succ_ne_zero, reduceCtorEq, nI_lit, nI_lit0, Nat.reduceLT, Nat.zero_add, mn_lit, mn_lit', mn_0]; done)
def c_f (I : ex_Mem) (a f nn k : Nat) : Int32 := if k < nn then I a (f + k) else nI 0
def c_fill (I : ex_Mem) (r p a f nn : Nat) : ex_Mem := ex_wI (ex_wI (ex_wI (ex_wI I r p (c_f I a f nn 0)) r (p + 1) (c_f I a f nn 1)) r (p + 2) (c_f I a f nn 2)) r (p + 3) (c_f I a f nn 3)
def c_rcv (I : ex_Mem) (t s a f nn : Nat) (g : Int32) : Int32 × ex_Mem := if g = 0 then (nI 0, ex_wI I (8 + 6 * t) 2 (nI 1)) else (nI 1, ex_wI (c_fill I (12 + 6 * t) (4 * s) a f nn) (13 + 6 * t) s (nI 1))
theorem c_rcv_1 {L : Nat} {xs : Nat → Int32} {D n : Nat} {I J : ex_Mem} {t s a f l : Nat} {g : Int32} (ht : t < 6) (hs : s < 3) (hka : cb_kd a = (1, l)) (hca : ¬ (52 ≤ a ∧ a < 81)) (hsa : a < 81 + 2 * n) (ha3 : a < 1000) (hl2 : l < 2 ^ 31) (haR : ¬ a = 12 + 6 * t) (hl : f + 1 ≤ l) : ri L xs (D + 1) 58 [.ref (8 + 6 * t), .int g, .int (nI (s + 1)), .ref a, .int (nI f), .int (nI 1)] (mkH n I J) ((c_rcv I t s a f 1 g).1) (mkH n (c_rcv I t s a f 1 g).2 J) := by
  show xx cb_G _ _ _ 58 0 [.ref (8 + 6 * t), .int g, .int (nI (s + 1)), .ref a, .int (nI f), .int (nI 1), ex_no, ex_no] [] _ _
  refine xi_iload_n (pc' := 1) rfl rfl rfl ?_
  refine xx_if (pc' := 4) (tg := 11) rfl rfl rfl (fun q1 => ?_) (fun q1 => ?_)
  · refine xi_iload_n (pc' := 12) rfl rfl rfl ?_
    refine xx_callSi (pc' := 15) rfl rfl (by decide) rfl (Nat.le_of_ble_eq_true rfl) rfl rfl (c_firstOf) ?_
    refine xi_istore (pc' := 17) rfl (st1_6 rfl) rfl ?_
    refine xi_iconst (pc' := 18) rfl rfl ?_
    refine xi_istore (pc' := 20) rfl (st1_7 rfl) rfl ?_
    refine xi_iload (pc' := 22) rfl rfl rfl ?_
    refine xi_iconst (pc' := 23) rfl rfl ?_
    refine xi_icmpf (pc' := 26) (tg := 60) rfl rfl (by decide) rfl ?_
    refine xi_aload_n (pc' := 27) rfl rfl rfl ?_
    refine xc_getp (pc' := 30) rfl rfl (by decide) (kd_T0 ht) (by omega) (by decide) rfl (pd_T9 ht) rfl ?_
    refine xi_iload (pc' := 32) rfl rfl rfl ?_
    refine xi_iload (pc' := 34) rfl rfl rfl ?_
    refine xi_iadd (pc' := 35) rfl rfl ?_
    refine xi_iload (pc' := 37) rfl rfl rfl ?_
    refine xi_iload (pc' := 39) rfl rfl rfl ?_
    refine xi_icmpf (pc' := 42) (tg := 52) rfl rfl (by decide) rfl ?_
    refine xi_aload_n (pc' := 43) rfl rfl rfl ?_
    refine xi_iload (pc' := 45) rfl rfl rfl ?_
    refine xi_iload (pc' := 47) rfl rfl rfl ?_
    refine xi_iadd (pc' := 48) rfl rfl ?_
    refine xc_iald (j := f + 0) (pc' := 49) rfl hka hca hsa (by omega) (by first | rfl | (simp only [ix_add, ix_mul, ix_pred]; done) | (simp only [ix_add, ix_mul, ix_pred, *]; done)) (by omega) hl2 rfl ?_
    refine xi_goto (pc' := 53) rfl rfl ?_
    refine xc_iast (j := 4 * s + 0) (pc' := 54) rfl (kd_T4 ht) (by omega) (by omega) (by first | rfl | (simp only [ix_add, ix_mul, ix_pred]; done) | (simp only [ix_add, ix_mul, ix_pred, *]; done)) (by omega) (by decide) rfl ?_
    refine xi_iincv (y := nI 1) (pc' := 57) rfl rfl (by decide) (st1_7 rfl) rfl ?_
    refine xi_goto (pc' := 20) rfl rfl ?_
    refine xi_iload (pc' := 22) rfl rfl rfl ?_
    refine xi_iconst (pc' := 23) rfl rfl ?_
    refine xi_icmpf (pc' := 26) (tg := 60) rfl rfl (by decide) rfl ?_
    refine xi_aload_n (pc' := 27) rfl rfl rfl ?_
    refine xc_getp (pc' := 30) rfl rfl (by decide) (kd_T0 ht) (by omega) (by decide) rfl (pd_T9 ht) rfl ?_
    refine xi_iload (pc' := 32) rfl rfl rfl ?_
    refine xi_iload (pc' := 34) rfl rfl rfl ?_
    refine xi_iadd (pc' := 35) rfl rfl ?_
    refine xi_iload (pc' := 37) rfl rfl rfl ?_
    refine xi_iload (pc' := 39) rfl rfl rfl ?_
    refine xi_icmpt (pc' := 52) rfl rfl (by decide) ?_
    refine xi_iconst (pc' := 53) rfl rfl ?_
    refine xc_iast (j := 4 * s + 1) (pc' := 54) rfl (kd_T4 ht) (by omega) (by omega) (by first | rfl | (simp only [ix_add, ix_mul, ix_pred]; done) | (simp only [ix_add, ix_mul, ix_pred, *]; done)) (by omega) (by decide) rfl ?_
    refine xi_iincv (y := nI 2) (pc' := 57) rfl rfl (by decide) (st1_7 rfl) rfl ?_
    refine xi_goto (pc' := 20) rfl rfl ?_
    refine xi_iload (pc' := 22) rfl rfl rfl ?_
    refine xi_iconst (pc' := 23) rfl rfl ?_
    refine xi_icmpf (pc' := 26) (tg := 60) rfl rfl (by decide) rfl ?_
    refine xi_aload_n (pc' := 27) rfl rfl rfl ?_
    refine xc_getp (pc' := 30) rfl rfl (by decide) (kd_T0 ht) (by omega) (by decide) rfl (pd_T9 ht) rfl ?_
    refine xi_iload (pc' := 32) rfl rfl rfl ?_
    refine xi_iload (pc' := 34) rfl rfl rfl ?_
    refine xi_iadd (pc' := 35) rfl rfl ?_
    refine xi_iload (pc' := 37) rfl rfl rfl ?_
    refine xi_iload (pc' := 39) rfl rfl rfl ?_
    refine xi_icmpt (pc' := 52) rfl rfl (by decide) ?_
    refine xi_iconst (pc' := 53) rfl rfl ?_
    refine xc_iast (j := 4 * s + 2) (pc' := 54) rfl (kd_T4 ht) (by omega) (by omega) (by first | rfl | (simp only [ix_add, ix_mul, ix_pred]; done) | (simp only [ix_add, ix_mul, ix_pred, *]; done)) (by omega) (by decide) rfl ?_
    refine xi_iincv (y := nI 3) (pc' := 57) rfl rfl (by decide) (st1_7 rfl) rfl ?_
    refine xi_goto (pc' := 20) rfl rfl ?_
    refine xi_iload (pc' := 22) rfl rfl rfl ?_
    refine xi_iconst (pc' := 23) rfl rfl ?_
    refine xi_icmpf (pc' := 26) (tg := 60) rfl rfl (by decide) rfl ?_
    refine xi_aload_n (pc' := 27) rfl rfl rfl ?_
    refine xc_getp (pc' := 30) rfl rfl (by decide) (kd_T0 ht) (by omega) (by decide) rfl (pd_T9 ht) rfl ?_
    refine xi_iload (pc' := 32) rfl rfl rfl ?_
    refine xi_iload (pc' := 34) rfl rfl rfl ?_
    refine xi_iadd (pc' := 35) rfl rfl ?_
    refine xi_iload (pc' := 37) rfl rfl rfl ?_
    refine xi_iload (pc' := 39) rfl rfl rfl ?_
    refine xi_icmpt (pc' := 52) rfl rfl (by decide) ?_
    refine xi_iconst (pc' := 53) rfl rfl ?_
    refine xc_iast (j := 4 * s + 3) (pc' := 54) rfl (kd_T4 ht) (by omega) (by omega) (by first | rfl | (simp only [ix_add, ix_mul, ix_pred]; done) | (simp only [ix_add, ix_mul, ix_pred, *]; done)) (by omega) (by decide) rfl ?_
    refine xi_iincv (y := nI 4) (pc' := 57) rfl rfl (by decide) (st1_7 rfl) rfl ?_
    refine xi_goto (pc' := 20) rfl rfl ?_
    refine xi_iload (pc' := 22) rfl rfl rfl ?_
    refine xi_iconst (pc' := 23) rfl rfl ?_
    refine xi_icmpt (pc' := 60) rfl rfl (by decide) ?_
    refine xi_aload_n (pc' := 61) rfl rfl rfl ?_
    refine xc_getp (pc' := 64) rfl rfl (by decide) (kd_T0 ht) (by omega) (by decide) rfl (pd_T10 ht) rfl ?_
    refine xi_iload_n (pc' := 65) rfl rfl rfl ?_
    refine xi_iconst (pc' := 66) rfl rfl ?_
    refine xi_isub (pc' := 67) rfl rfl ?_
    refine xi_iconst (pc' := 68) rfl rfl ?_
    refine xc_zast (j := s) (pc' := 69) rfl (kd_T5 ht) (by omega) (by omega) (ix_pred s) (by omega) (by decide) (by first | rfl | assumption) rfl ?_
    refine xi_iconst (pc' := 70) rfl rfl ?_
    refine xx_zreturn rfl rfl (by first | rfl | assumption | exact b01_bI | simp [ex_b01, bI]) ?_
    simp only [ex_P, Classical.not_not, ↓reduceIte, Nat.add_zero, or_true, true_or, not_true_eq_false, not_false_eq_true, or_false, false_or, wI_get, false_and, true_and, and_true, and_false, and_self, Nat.reduceEqDiff, Nat.succ_ne_zero, reduceCtorEq, nI_lit, nI_lit0, Nat.reduceLT, Nat.zero_add, mn_lit, mn_lit', mn_0] at *
    first | (simp only [c_rcv, c_fill, c_f, Nat.reduceAdd, *, ↓reduceIte, Nat.add_zero, or_true, true_or, not_true_eq_false, not_false_eq_true, or_false, false_or, wI_get, false_and, true_and, and_true, and_false, and_self, Nat.reduceEqDiff, Nat.succ_ne_zero, reduceCtorEq, nI_lit, nI_lit0, Nat.reduceLT, Nat.zero_add, mn_lit, mn_lit', mn_0]; done) | (exfalso; simp_all only [↓reduceIte, Nat.add_zero, or_true, true_or, not_true_eq_false, not_false_eq_true, or_false, false_or, wI_get, false_and, true_and, and_true, and_false, and_self, Nat.reduceEqDiff, Nat.succ_ne_zero, reduceCtorEq, nI_lit, nI_lit0, Nat.reduceLT, Nat.zero_add, mn_lit, mn_lit', mn_0]; done)
  · refine xi_aload_n (pc' := 5) rfl rfl rfl ?_
    refine xi_iconst (pc' := 6) rfl rfl ?_
    refine xc_puti (pc' := 9) rfl rfl (by decide) (kd_T0 ht) (by omega) (by omega) (by decide) (Or.inr ⟨rfl, by first | rfl | assumption⟩) rfl ?_
    refine xi_iconst (pc' := 10) rfl rfl ?_
    refine xx_zreturn rfl rfl (by first | rfl | assumption | exact b01_bI | simp [ex_b01, bI]) ?_
    simp only [ex_P, Classical.not_not, ↓reduceIte, Nat.add_zero, or_true, true_or, not_true_eq_false, not_false_eq_true, or_false, false_or, wI_get, false_and, true_and, and_true, and_false, and_self, Nat.reduceEqDiff, Nat.succ_ne_zero, reduceCtorEq, nI_lit, nI_lit0, Nat.reduceLT, Nat.zero_add, mn_lit, mn_lit', mn_0] at *
    first | (simp only [c_rcv, c_fill, c_f, Nat.reduceAdd, *, ↓reduceIte, Nat.add_zero, or_true, true_or, not_true_eq_false, not_false_eq_true, or_false, false_or, wI_get, false_and, true_and, and_true, and_false, and_self, Nat.reduceEqDiff, Nat.succ_ne_zero, reduceCtorEq, nI_lit, nI_lit0, Nat.reduceLT, Nat.zero_add, mn_lit, mn_lit', mn_0]; done) | (exfalso; simp_all only [↓reduceIte, Nat.add_zero, or_true, true_or, not_true_eq_false, not_false_eq_true, or_false, false_or, wI_get, false_and, true_and, and_true, and_false, and_self, Nat.reduceEqDiff, Nat.succ_ne_zero, reduceCtorEq, nI_lit, nI_lit0, Nat.reduceLT, Nat.zero_add, mn_lit, mn_lit', mn_0]; done)
theorem c_rcv_2 {L : Nat} {xs : Nat → Int32} {D n : Nat} {I J : ex_Mem} {t s a f l : Nat} {g : Int32} (ht : t < 6) (hs : s < 3) (hka : cb_kd a = (1, l)) (hca : ¬ (52 ≤ a ∧ a < 81)) (hsa : a < 81 + 2 * n) (ha3 : a < 1000) (hl2 : l < 2 ^ 31) (haR : ¬ a = 12 + 6 * t) (hl : f + 2 ≤ l) : ri L xs (D + 1) 58 [.ref (8 + 6 * t), .int g, .int (nI (s + 1)), .ref a, .int (nI f), .int (nI 2)] (mkH n I J) ((c_rcv I t s a f 2 g).1) (mkH n (c_rcv I t s a f 2 g).2 J) := by
  show xx cb_G _ _ _ 58 0 [.ref (8 + 6 * t), .int g, .int (nI (s + 1)), .ref a, .int (nI f), .int (nI 2), ex_no, ex_no] [] _ _
  refine xi_iload_n (pc' := 1) rfl rfl rfl ?_
  refine xx_if (pc' := 4) (tg := 11) rfl rfl rfl (fun q1 => ?_) (fun q1 => ?_)
  · refine xi_iload_n (pc' := 12) rfl rfl rfl ?_
    refine xx_callSi (pc' := 15) rfl rfl (by decide) rfl (Nat.le_of_ble_eq_true rfl) rfl rfl (c_firstOf) ?_
    refine xi_istore (pc' := 17) rfl (st1_6 rfl) rfl ?_
    refine xi_iconst (pc' := 18) rfl rfl ?_
    refine xi_istore (pc' := 20) rfl (st1_7 rfl) rfl ?_
    refine xi_iload (pc' := 22) rfl rfl rfl ?_
    refine xi_iconst (pc' := 23) rfl rfl ?_
    refine xi_icmpf (pc' := 26) (tg := 60) rfl rfl (by decide) rfl ?_
    refine xi_aload_n (pc' := 27) rfl rfl rfl ?_
    refine xc_getp (pc' := 30) rfl rfl (by decide) (kd_T0 ht) (by omega) (by decide) rfl (pd_T9 ht) rfl ?_
    refine xi_iload (pc' := 32) rfl rfl rfl ?_
    refine xi_iload (pc' := 34) rfl rfl rfl ?_
    refine xi_iadd (pc' := 35) rfl rfl ?_
    refine xi_iload (pc' := 37) rfl rfl rfl ?_
    refine xi_iload (pc' := 39) rfl rfl rfl ?_
    refine xi_icmpf (pc' := 42) (tg := 52) rfl rfl (by decide) rfl ?_
    refine xi_aload_n (pc' := 43) rfl rfl rfl ?_
    refine xi_iload (pc' := 45) rfl rfl rfl ?_
    refine xi_iload (pc' := 47) rfl rfl rfl ?_
    refine xi_iadd (pc' := 48) rfl rfl ?_
    refine xc_iald (j := f + 0) (pc' := 49) rfl hka hca hsa (by omega) (by first | rfl | (simp only [ix_add, ix_mul, ix_pred]; done) | (simp only [ix_add, ix_mul, ix_pred, *]; done)) (by omega) hl2 rfl ?_
    refine xi_goto (pc' := 53) rfl rfl ?_
    refine xc_iast (j := 4 * s + 0) (pc' := 54) rfl (kd_T4 ht) (by omega) (by omega) (by first | rfl | (simp only [ix_add, ix_mul, ix_pred]; done) | (simp only [ix_add, ix_mul, ix_pred, *]; done)) (by omega) (by decide) rfl ?_
    refine xi_iincv (y := nI 1) (pc' := 57) rfl rfl (by decide) (st1_7 rfl) rfl ?_
    refine xi_goto (pc' := 20) rfl rfl ?_
    refine xi_iload (pc' := 22) rfl rfl rfl ?_
    refine xi_iconst (pc' := 23) rfl rfl ?_
    refine xi_icmpf (pc' := 26) (tg := 60) rfl rfl (by decide) rfl ?_
    refine xi_aload_n (pc' := 27) rfl rfl rfl ?_
    refine xc_getp (pc' := 30) rfl rfl (by decide) (kd_T0 ht) (by omega) (by decide) rfl (pd_T9 ht) rfl ?_
    refine xi_iload (pc' := 32) rfl rfl rfl ?_
    refine xi_iload (pc' := 34) rfl rfl rfl ?_
    refine xi_iadd (pc' := 35) rfl rfl ?_
    refine xi_iload (pc' := 37) rfl rfl rfl ?_
    refine xi_iload (pc' := 39) rfl rfl rfl ?_
    refine xi_icmpf (pc' := 42) (tg := 52) rfl rfl (by decide) rfl ?_
    refine xi_aload_n (pc' := 43) rfl rfl rfl ?_
    refine xi_iload (pc' := 45) rfl rfl rfl ?_
    refine xi_iload (pc' := 47) rfl rfl rfl ?_
    refine xi_iadd (pc' := 48) rfl rfl ?_
    refine xc_iald (j := f + 1) (pc' := 49) rfl hka hca hsa (by omega) (by first | rfl | (simp only [ix_add, ix_mul, ix_pred]; done) | (simp only [ix_add, ix_mul, ix_pred, *]; done)) (by omega) hl2 rfl ?_
    refine xi_goto (pc' := 53) rfl rfl ?_
    refine xc_iast (j := 4 * s + 1) (pc' := 54) rfl (kd_T4 ht) (by omega) (by omega) (by first | rfl | (simp only [ix_add, ix_mul, ix_pred]; done) | (simp only [ix_add, ix_mul, ix_pred, *]; done)) (by omega) (by decide) rfl ?_
    refine xi_iincv (y := nI 2) (pc' := 57) rfl rfl (by decide) (st1_7 rfl) rfl ?_
    refine xi_goto (pc' := 20) rfl rfl ?_
    refine xi_iload (pc' := 22) rfl rfl rfl ?_
    refine xi_iconst (pc' := 23) rfl rfl ?_
    refine xi_icmpf (pc' := 26) (tg := 60) rfl rfl (by decide) rfl ?_
    refine xi_aload_n (pc' := 27) rfl rfl rfl ?_
    refine xc_getp (pc' := 30) rfl rfl (by decide) (kd_T0 ht) (by omega) (by decide) rfl (pd_T9 ht) rfl ?_
    refine xi_iload (pc' := 32) rfl rfl rfl ?_
    refine xi_iload (pc' := 34) rfl rfl rfl ?_
    refine xi_iadd (pc' := 35) rfl rfl ?_
    refine xi_iload (pc' := 37) rfl rfl rfl ?_
    refine xi_iload (pc' := 39) rfl rfl rfl ?_
    refine xi_icmpt (pc' := 52) rfl rfl (by decide) ?_
    refine xi_iconst (pc' := 53) rfl rfl ?_
    refine xc_iast (j := 4 * s + 2) (pc' := 54) rfl (kd_T4 ht) (by omega) (by omega) (by first | rfl | (simp only [ix_add, ix_mul, ix_pred]; done) | (simp only [ix_add, ix_mul, ix_pred, *]; done)) (by omega) (by decide) rfl ?_
    refine xi_iincv (y := nI 3) (pc' := 57) rfl rfl (by decide) (st1_7 rfl) rfl ?_
    refine xi_goto (pc' := 20) rfl rfl ?_
    refine xi_iload (pc' := 22) rfl rfl rfl ?_
    refine xi_iconst (pc' := 23) rfl rfl ?_
    refine xi_icmpf (pc' := 26) (tg := 60) rfl rfl (by decide) rfl ?_
    refine xi_aload_n (pc' := 27) rfl rfl rfl ?_
    refine xc_getp (pc' := 30) rfl rfl (by decide) (kd_T0 ht) (by omega) (by decide) rfl (pd_T9 ht) rfl ?_
    refine xi_iload (pc' := 32) rfl rfl rfl ?_
    refine xi_iload (pc' := 34) rfl rfl rfl ?_
    refine xi_iadd (pc' := 35) rfl rfl ?_
    refine xi_iload (pc' := 37) rfl rfl rfl ?_
    refine xi_iload (pc' := 39) rfl rfl rfl ?_
    refine xi_icmpt (pc' := 52) rfl rfl (by decide) ?_
    refine xi_iconst (pc' := 53) rfl rfl ?_
    refine xc_iast (j := 4 * s + 3) (pc' := 54) rfl (kd_T4 ht) (by omega) (by omega) (by first | rfl | (simp only [ix_add, ix_mul, ix_pred]; done) | (simp only [ix_add, ix_mul, ix_pred, *]; done)) (by omega) (by decide) rfl ?_
    refine xi_iincv (y := nI 4) (pc' := 57) rfl rfl (by decide) (st1_7 rfl) rfl ?_
    refine xi_goto (pc' := 20) rfl rfl ?_
    refine xi_iload (pc' := 22) rfl rfl rfl ?_
    refine xi_iconst (pc' := 23) rfl rfl ?_
    refine xi_icmpt (pc' := 60) rfl rfl (by decide) ?_
    refine xi_aload_n (pc' := 61) rfl rfl rfl ?_
    refine xc_getp (pc' := 64) rfl rfl (by decide) (kd_T0 ht) (by omega) (by decide) rfl (pd_T10 ht) rfl ?_
    refine xi_iload_n (pc' := 65) rfl rfl rfl ?_
    refine xi_iconst (pc' := 66) rfl rfl ?_
    refine xi_isub (pc' := 67) rfl rfl ?_
    refine xi_iconst (pc' := 68) rfl rfl ?_
    refine xc_zast (j := s) (pc' := 69) rfl (kd_T5 ht) (by omega) (by omega) (ix_pred s) (by omega) (by decide) (by first | rfl | assumption) rfl ?_
    refine xi_iconst (pc' := 70) rfl rfl ?_
    refine xx_zreturn rfl rfl (by first | rfl | assumption | exact b01_bI | simp [ex_b01, bI]) ?_
    simp only [ex_P, Classical.not_not, ↓reduceIte, Nat.add_zero, or_true, true_or, not_true_eq_false, not_false_eq_true, or_false, false_or, wI_get, false_and, true_and, and_true, and_false, and_self, Nat.reduceEqDiff, Nat.succ_ne_zero, reduceCtorEq, nI_lit, nI_lit0, Nat.reduceLT, Nat.zero_add, mn_lit, mn_lit', mn_0] at *
    first | (simp only [c_rcv, c_fill, c_f, Nat.reduceAdd, *, ↓reduceIte, Nat.add_zero, or_true, true_or, not_true_eq_false, not_false_eq_true, or_false, false_or, wI_get, false_and, true_and, and_true, and_false, and_self, Nat.reduceEqDiff, Nat.succ_ne_zero, reduceCtorEq, nI_lit, nI_lit0, Nat.reduceLT, Nat.zero_add, mn_lit, mn_lit', mn_0]; done) | (exfalso; simp_all only [↓reduceIte, Nat.add_zero, or_true, true_or, not_true_eq_false, not_false_eq_true, or_false, false_or, wI_get, false_and, true_and, and_true, and_false, and_self, Nat.reduceEqDiff, Nat.succ_ne_zero, reduceCtorEq, nI_lit, nI_lit0, Nat.reduceLT, Nat.zero_add, mn_lit, mn_lit', mn_0]; done)
  · refine xi_aload_n (pc' := 5) rfl rfl rfl ?_
    refine xi_iconst (pc' := 6) rfl rfl ?_
    refine xc_puti (pc' := 9) rfl rfl (by decide) (kd_T0 ht) (by omega) (by omega) (by decide) (Or.inr ⟨rfl, by first | rfl | assumption⟩) rfl ?_
    refine xi_iconst (pc' := 10) rfl rfl ?_
    refine xx_zreturn rfl rfl (by first | rfl | assumption | exact b01_bI | simp [ex_b01, bI]) ?_
    simp only [ex_P, Classical.not_not, ↓reduceIte, Nat.add_zero, or_true, true_or, not_true_eq_false, not_false_eq_true, or_false, false_or, wI_get, false_and, true_and, and_true, and_false, and_self, Nat.reduceEqDiff, Nat.succ_ne_zero, reduceCtorEq, nI_lit, nI_lit0, Nat.reduceLT, Nat.zero_add, mn_lit, mn_lit', mn_0] at *
    first | (simp only [c_rcv, c_fill, c_f, Nat.reduceAdd, *, ↓reduceIte, Nat.add_zero, or_true, true_or, not_true_eq_false, not_false_eq_true, or_false, false_or, wI_get, false_and, true_and, and_true, and_false, and_self, Nat.reduceEqDiff, Nat.succ_ne_zero, reduceCtorEq, nI_lit, nI_lit0, Nat.reduceLT, Nat.zero_add, mn_lit, mn_lit', mn_0]; done) | (exfalso; simp_all only [↓reduceIte, Nat.add_zero, or_true, true_or, not_true_eq_false, not_false_eq_true, or_false, false_or, wI_get, false_and, true_and, and_true, and_false, and_self, Nat.reduceEqDiff, Nat.succ_ne_zero, reduceCtorEq, nI_lit, nI_lit0, Nat.reduceLT, Nat.zero_add, mn_lit, mn_lit', mn_0]; done)
theorem c_rcv_3 {L : Nat} {xs : Nat → Int32} {D n : Nat} {I J : ex_Mem} {t s a f l : Nat} {g : Int32} (ht : t < 6) (hs : s < 3) (hka : cb_kd a = (1, l)) (hca : ¬ (52 ≤ a ∧ a < 81)) (hsa : a < 81 + 2 * n) (ha3 : a < 1000) (hl2 : l < 2 ^ 31) (haR : ¬ a = 12 + 6 * t) (hl : f + 3 ≤ l) : ri L xs (D + 1) 58 [.ref (8 + 6 * t), .int g, .int (nI (s + 1)), .ref a, .int (nI f), .int (nI 3)] (mkH n I J) ((c_rcv I t s a f 3 g).1) (mkH n (c_rcv I t s a f 3 g).2 J) := by
  show xx cb_G _ _ _ 58 0 [.ref (8 + 6 * t), .int g, .int (nI (s + 1)), .ref a, .int (nI f), .int (nI 3), ex_no, ex_no] [] _ _
  refine xi_iload_n (pc' := 1) rfl rfl rfl ?_
  refine xx_if (pc' := 4) (tg := 11) rfl rfl rfl (fun q1 => ?_) (fun q1 => ?_)
  · refine xi_iload_n (pc' := 12) rfl rfl rfl ?_
    refine xx_callSi (pc' := 15) rfl rfl (by decide) rfl (Nat.le_of_ble_eq_true rfl) rfl rfl (c_firstOf) ?_
    refine xi_istore (pc' := 17) rfl (st1_6 rfl) rfl ?_
    refine xi_iconst (pc' := 18) rfl rfl ?_
    refine xi_istore (pc' := 20) rfl (st1_7 rfl) rfl ?_
    refine xi_iload (pc' := 22) rfl rfl rfl ?_
    refine xi_iconst (pc' := 23) rfl rfl ?_
    refine xi_icmpf (pc' := 26) (tg := 60) rfl rfl (by decide) rfl ?_
    refine xi_aload_n (pc' := 27) rfl rfl rfl ?_
    refine xc_getp (pc' := 30) rfl rfl (by decide) (kd_T0 ht) (by omega) (by decide) rfl (pd_T9 ht) rfl ?_
    refine xi_iload (pc' := 32) rfl rfl rfl ?_
    refine xi_iload (pc' := 34) rfl rfl rfl ?_
    refine xi_iadd (pc' := 35) rfl rfl ?_
    refine xi_iload (pc' := 37) rfl rfl rfl ?_
    refine xi_iload (pc' := 39) rfl rfl rfl ?_
    refine xi_icmpf (pc' := 42) (tg := 52) rfl rfl (by decide) rfl ?_
    refine xi_aload_n (pc' := 43) rfl rfl rfl ?_
    refine xi_iload (pc' := 45) rfl rfl rfl ?_
    refine xi_iload (pc' := 47) rfl rfl rfl ?_
    refine xi_iadd (pc' := 48) rfl rfl ?_
    refine xc_iald (j := f + 0) (pc' := 49) rfl hka hca hsa (by omega) (by first | rfl | (simp only [ix_add, ix_mul, ix_pred]; done) | (simp only [ix_add, ix_mul, ix_pred, *]; done)) (by omega) hl2 rfl ?_
    refine xi_goto (pc' := 53) rfl rfl ?_
    refine xc_iast (j := 4 * s + 0) (pc' := 54) rfl (kd_T4 ht) (by omega) (by omega) (by first | rfl | (simp only [ix_add, ix_mul, ix_pred]; done) | (simp only [ix_add, ix_mul, ix_pred, *]; done)) (by omega) (by decide) rfl ?_
    refine xi_iincv (y := nI 1) (pc' := 57) rfl rfl (by decide) (st1_7 rfl) rfl ?_
    refine xi_goto (pc' := 20) rfl rfl ?_
    refine xi_iload (pc' := 22) rfl rfl rfl ?_
    refine xi_iconst (pc' := 23) rfl rfl ?_
    refine xi_icmpf (pc' := 26) (tg := 60) rfl rfl (by decide) rfl ?_
    refine xi_aload_n (pc' := 27) rfl rfl rfl ?_
    refine xc_getp (pc' := 30) rfl rfl (by decide) (kd_T0 ht) (by omega) (by decide) rfl (pd_T9 ht) rfl ?_
    refine xi_iload (pc' := 32) rfl rfl rfl ?_
    refine xi_iload (pc' := 34) rfl rfl rfl ?_
    refine xi_iadd (pc' := 35) rfl rfl ?_
    refine xi_iload (pc' := 37) rfl rfl rfl ?_
    refine xi_iload (pc' := 39) rfl rfl rfl ?_
    refine xi_icmpf (pc' := 42) (tg := 52) rfl rfl (by decide) rfl ?_
    refine xi_aload_n (pc' := 43) rfl rfl rfl ?_
    refine xi_iload (pc' := 45) rfl rfl rfl ?_
    refine xi_iload (pc' := 47) rfl rfl rfl ?_
    refine xi_iadd (pc' := 48) rfl rfl ?_
    refine xc_iald (j := f + 1) (pc' := 49) rfl hka hca hsa (by omega) (by first | rfl | (simp only [ix_add, ix_mul, ix_pred]; done) | (simp only [ix_add, ix_mul, ix_pred, *]; done)) (by omega) hl2 rfl ?_
    refine xi_goto (pc' := 53) rfl rfl ?_
    refine xc_iast (j := 4 * s + 1) (pc' := 54) rfl (kd_T4 ht) (by omega) (by omega) (by first | rfl | (simp only [ix_add, ix_mul, ix_pred]; done) | (simp only [ix_add, ix_mul, ix_pred, *]; done)) (by omega) (by decide) rfl ?_
    refine xi_iincv (y := nI 2) (pc' := 57) rfl rfl (by decide) (st1_7 rfl) rfl ?_
    refine xi_goto (pc' := 20) rfl rfl ?_
    refine xi_iload (pc' := 22) rfl rfl rfl ?_
    refine xi_iconst (pc' := 23) rfl rfl ?_
    refine xi_icmpf (pc' := 26) (tg := 60) rfl rfl (by decide) rfl ?_
    refine xi_aload_n (pc' := 27) rfl rfl rfl ?_
    refine xc_getp (pc' := 30) rfl rfl (by decide) (kd_T0 ht) (by omega) (by decide) rfl (pd_T9 ht) rfl ?_
    refine xi_iload (pc' := 32) rfl rfl rfl ?_
    refine xi_iload (pc' := 34) rfl rfl rfl ?_
    refine xi_iadd (pc' := 35) rfl rfl ?_
    refine xi_iload (pc' := 37) rfl rfl rfl ?_
    refine xi_iload (pc' := 39) rfl rfl rfl ?_
    refine xi_icmpf (pc' := 42) (tg := 52) rfl rfl (by decide) rfl ?_
    refine xi_aload_n (pc' := 43) rfl rfl rfl ?_
    refine xi_iload (pc' := 45) rfl rfl rfl ?_
    refine xi_iload (pc' := 47) rfl rfl rfl ?_
    refine xi_iadd (pc' := 48) rfl rfl ?_
    refine xc_iald (j := f + 2) (pc' := 49) rfl hka hca hsa (by omega) (by first | rfl | (simp only [ix_add, ix_mul, ix_pred]; done) | (simp only [ix_add, ix_mul, ix_pred, *]; done)) (by omega) hl2 rfl ?_
    refine xi_goto (pc' := 53) rfl rfl ?_
    refine xc_iast (j := 4 * s + 2) (pc' := 54) rfl (kd_T4 ht) (by omega) (by omega) (by first | rfl | (simp only [ix_add, ix_mul, ix_pred]; done) | (simp only [ix_add, ix_mul, ix_pred, *]; done)) (by omega) (by decide) rfl ?_
    refine xi_iincv (y := nI 3) (pc' := 57) rfl rfl (by decide) (st1_7 rfl) rfl ?_
    refine xi_goto (pc' := 20) rfl rfl ?_
    refine xi_iload (pc' := 22) rfl rfl rfl ?_
    refine xi_iconst (pc' := 23) rfl rfl ?_
    refine xi_icmpf (pc' := 26) (tg := 60) rfl rfl (by decide) rfl ?_
    refine xi_aload_n (pc' := 27) rfl rfl rfl ?_
    refine xc_getp (pc' := 30) rfl rfl (by decide) (kd_T0 ht) (by omega) (by decide) rfl (pd_T9 ht) rfl ?_
    refine xi_iload (pc' := 32) rfl rfl rfl ?_
    refine xi_iload (pc' := 34) rfl rfl rfl ?_
    refine xi_iadd (pc' := 35) rfl rfl ?_
    refine xi_iload (pc' := 37) rfl rfl rfl ?_
    refine xi_iload (pc' := 39) rfl rfl rfl ?_
    refine xi_icmpt (pc' := 52) rfl rfl (by decide) ?_
    refine xi_iconst (pc' := 53) rfl rfl ?_
    refine xc_iast (j := 4 * s + 3) (pc' := 54) rfl (kd_T4 ht) (by omega) (by omega) (by first | rfl | (simp only [ix_add, ix_mul, ix_pred]; done) | (simp only [ix_add, ix_mul, ix_pred, *]; done)) (by omega) (by decide) rfl ?_
    refine xi_iincv (y := nI 4) (pc' := 57) rfl rfl (by decide) (st1_7 rfl) rfl ?_
    refine xi_goto (pc' := 20) rfl rfl ?_
    refine xi_iload (pc' := 22) rfl rfl rfl ?_
    refine xi_iconst (pc' := 23) rfl rfl ?_
    refine xi_icmpt (pc' := 60) rfl rfl (by decide) ?_
    refine xi_aload_n (pc' := 61) rfl rfl rfl ?_
    refine xc_getp (pc' := 64) rfl rfl (by decide) (kd_T0 ht) (by omega) (by decide) rfl (pd_T10 ht) rfl ?_
    refine xi_iload_n (pc' := 65) rfl rfl rfl ?_
    refine xi_iconst (pc' := 66) rfl rfl ?_
    refine xi_isub (pc' := 67) rfl rfl ?_
    refine xi_iconst (pc' := 68) rfl rfl ?_
    refine xc_zast (j := s) (pc' := 69) rfl (kd_T5 ht) (by omega) (by omega) (ix_pred s) (by omega) (by decide) (by first | rfl | assumption) rfl ?_
    refine xi_iconst (pc' := 70) rfl rfl ?_
    refine xx_zreturn rfl rfl (by first | rfl | assumption | exact b01_bI | simp [ex_b01, bI]) ?_
    simp only [ex_P, Classical.not_not, ↓reduceIte, Nat.add_zero, or_true, true_or, not_true_eq_false, not_false_eq_true, or_false, false_or, wI_get, false_and, true_and, and_true, and_false, and_self, Nat.reduceEqDiff, Nat.succ_ne_zero, reduceCtorEq, nI_lit, nI_lit0, Nat.reduceLT, Nat.zero_add, mn_lit, mn_lit', mn_0] at *
    first | (simp only [c_rcv, c_fill, c_f, Nat.reduceAdd, *, ↓reduceIte, Nat.add_zero, or_true, true_or, not_true_eq_false, not_false_eq_true, or_false, false_or, wI_get, false_and, true_and, and_true, and_false, and_self, Nat.reduceEqDiff, Nat.succ_ne_zero, reduceCtorEq, nI_lit, nI_lit0, Nat.reduceLT, Nat.zero_add, mn_lit, mn_lit', mn_0]; done) | (exfalso; simp_all only [↓reduceIte, Nat.add_zero, or_true, true_or, not_true_eq_false, not_false_eq_true, or_false, false_or, wI_get, false_and, true_and, and_true, and_false, and_self, Nat.reduceEqDiff, Nat.succ_ne_zero, reduceCtorEq, nI_lit, nI_lit0, Nat.reduceLT, Nat.zero_add, mn_lit, mn_lit', mn_0]; done)
  · refine xi_aload_n (pc' := 5) rfl rfl rfl ?_
    refine xi_iconst (pc' := 6) rfl rfl ?_
    refine xc_puti (pc' := 9) rfl rfl (by decide) (kd_T0 ht) (by omega) (by omega) (by decide) (Or.inr ⟨rfl, by first | rfl | assumption⟩) rfl ?_
    refine xi_iconst (pc' := 10) rfl rfl ?_
    refine xx_zreturn rfl rfl (by first | rfl | assumption | exact b01_bI | simp [ex_b01, bI]) ?_
    simp only [ex_P, Classical.not_not, ↓reduceIte, Nat.add_zero, or_true, true_or, not_true_eq_false, not_false_eq_true, or_false, false_or, wI_get, false_and, true_and, and_true, and_false, and_self, Nat.reduceEqDiff, Nat.succ_ne_zero, reduceCtorEq, nI_lit, nI_lit0, Nat.reduceLT, Nat.zero_add, mn_lit, mn_lit', mn_0] at *
    first | (simp only [c_rcv, c_fill, c_f, Nat.reduceAdd, *, ↓reduceIte, Nat.add_zero, or_true, true_or, not_true_eq_false, not_false_eq_true, or_false, false_or, wI_get, false_and, true_and, and_true, and_false, and_self, Nat.reduceEqDiff, Nat.succ_ne_zero, reduceCtorEq, nI_lit, nI_lit0, Nat.reduceLT, Nat.zero_add, mn_lit, mn_lit', mn_0]; done) | (exfalso; simp_all only [↓reduceIte, Nat.add_zero, or_true, true_or, not_true_eq_false, not_false_eq_true, or_false, false_or, wI_get, false_and, true_and, and_true, and_false, and_self, Nat.reduceEqDiff, Nat.succ_ne_zero, reduceCtorEq, nI_lit, nI_lit0, Nat.reduceLT, Nat.zero_add, mn_lit, mn_lit', mn_0]; done)
theorem c_rcv_4 {L : Nat} {xs : Nat → Int32} {D n : Nat} {I J : ex_Mem} {t s a f l : Nat} {g : Int32} (ht : t < 6) (hs : s < 3) (hka : cb_kd a = (1, l)) (hca : ¬ (52 ≤ a ∧ a < 81)) (hsa : a < 81 + 2 * n) (ha3 : a < 1000) (hl2 : l < 2 ^ 31) (haR : ¬ a = 12 + 6 * t) (hl : f + 4 ≤ l) : ri L xs (D + 1) 58 [.ref (8 + 6 * t), .int g, .int (nI (s + 1)), .ref a, .int (nI f), .int (nI 4)] (mkH n I J) ((c_rcv I t s a f 4 g).1) (mkH n (c_rcv I t s a f 4 g).2 J) := by
  show xx cb_G _ _ _ 58 0 [.ref (8 + 6 * t), .int g, .int (nI (s + 1)), .ref a, .int (nI f), .int (nI 4), ex_no, ex_no] [] _ _
  refine xi_iload_n (pc' := 1) rfl rfl rfl ?_
  refine xx_if (pc' := 4) (tg := 11) rfl rfl rfl (fun q1 => ?_) (fun q1 => ?_)
  · refine xi_iload_n (pc' := 12) rfl rfl rfl ?_
    refine xx_callSi (pc' := 15) rfl rfl (by decide) rfl (Nat.le_of_ble_eq_true rfl) rfl rfl (c_firstOf) ?_
    refine xi_istore (pc' := 17) rfl (st1_6 rfl) rfl ?_
    refine xi_iconst (pc' := 18) rfl rfl ?_
    refine xi_istore (pc' := 20) rfl (st1_7 rfl) rfl ?_
    refine xi_iload (pc' := 22) rfl rfl rfl ?_
    refine xi_iconst (pc' := 23) rfl rfl ?_
    refine xi_icmpf (pc' := 26) (tg := 60) rfl rfl (by decide) rfl ?_
    refine xi_aload_n (pc' := 27) rfl rfl rfl ?_
    refine xc_getp (pc' := 30) rfl rfl (by decide) (kd_T0 ht) (by omega) (by decide) rfl (pd_T9 ht) rfl ?_
    refine xi_iload (pc' := 32) rfl rfl rfl ?_
    refine xi_iload (pc' := 34) rfl rfl rfl ?_
    refine xi_iadd (pc' := 35) rfl rfl ?_
    refine xi_iload (pc' := 37) rfl rfl rfl ?_
    refine xi_iload (pc' := 39) rfl rfl rfl ?_
    refine xi_icmpf (pc' := 42) (tg := 52) rfl rfl (by decide) rfl ?_
    refine xi_aload_n (pc' := 43) rfl rfl rfl ?_
    refine xi_iload (pc' := 45) rfl rfl rfl ?_
    refine xi_iload (pc' := 47) rfl rfl rfl ?_
    refine xi_iadd (pc' := 48) rfl rfl ?_
    refine xc_iald (j := f + 0) (pc' := 49) rfl hka hca hsa (by omega) (by first | rfl | (simp only [ix_add, ix_mul, ix_pred]; done) | (simp only [ix_add, ix_mul, ix_pred, *]; done)) (by omega) hl2 rfl ?_
    refine xi_goto (pc' := 53) rfl rfl ?_
    refine xc_iast (j := 4 * s + 0) (pc' := 54) rfl (kd_T4 ht) (by omega) (by omega) (by first | rfl | (simp only [ix_add, ix_mul, ix_pred]; done) | (simp only [ix_add, ix_mul, ix_pred, *]; done)) (by omega) (by decide) rfl ?_
    refine xi_iincv (y := nI 1) (pc' := 57) rfl rfl (by decide) (st1_7 rfl) rfl ?_
    refine xi_goto (pc' := 20) rfl rfl ?_
    refine xi_iload (pc' := 22) rfl rfl rfl ?_
    refine xi_iconst (pc' := 23) rfl rfl ?_
    refine xi_icmpf (pc' := 26) (tg := 60) rfl rfl (by decide) rfl ?_
    refine xi_aload_n (pc' := 27) rfl rfl rfl ?_
    refine xc_getp (pc' := 30) rfl rfl (by decide) (kd_T0 ht) (by omega) (by decide) rfl (pd_T9 ht) rfl ?_
    refine xi_iload (pc' := 32) rfl rfl rfl ?_
    refine xi_iload (pc' := 34) rfl rfl rfl ?_
    refine xi_iadd (pc' := 35) rfl rfl ?_
    refine xi_iload (pc' := 37) rfl rfl rfl ?_
    refine xi_iload (pc' := 39) rfl rfl rfl ?_
    refine xi_icmpf (pc' := 42) (tg := 52) rfl rfl (by decide) rfl ?_
    refine xi_aload_n (pc' := 43) rfl rfl rfl ?_
    refine xi_iload (pc' := 45) rfl rfl rfl ?_
    refine xi_iload (pc' := 47) rfl rfl rfl ?_
    refine xi_iadd (pc' := 48) rfl rfl ?_
    refine xc_iald (j := f + 1) (pc' := 49) rfl hka hca hsa (by omega) (by first | rfl | (simp only [ix_add, ix_mul, ix_pred]; done) | (simp only [ix_add, ix_mul, ix_pred, *]; done)) (by omega) hl2 rfl ?_
    refine xi_goto (pc' := 53) rfl rfl ?_
    refine xc_iast (j := 4 * s + 1) (pc' := 54) rfl (kd_T4 ht) (by omega) (by omega) (by first | rfl | (simp only [ix_add, ix_mul, ix_pred]; done) | (simp only [ix_add, ix_mul, ix_pred, *]; done)) (by omega) (by decide) rfl ?_
    refine xi_iincv (y := nI 2) (pc' := 57) rfl rfl (by decide) (st1_7 rfl) rfl ?_
    refine xi_goto (pc' := 20) rfl rfl ?_
    refine xi_iload (pc' := 22) rfl rfl rfl ?_
    refine xi_iconst (pc' := 23) rfl rfl ?_
    refine xi_icmpf (pc' := 26) (tg := 60) rfl rfl (by decide) rfl ?_
    refine xi_aload_n (pc' := 27) rfl rfl rfl ?_
    refine xc_getp (pc' := 30) rfl rfl (by decide) (kd_T0 ht) (by omega) (by decide) rfl (pd_T9 ht) rfl ?_
    refine xi_iload (pc' := 32) rfl rfl rfl ?_
    refine xi_iload (pc' := 34) rfl rfl rfl ?_
    refine xi_iadd (pc' := 35) rfl rfl ?_
    refine xi_iload (pc' := 37) rfl rfl rfl ?_
    refine xi_iload (pc' := 39) rfl rfl rfl ?_
    refine xi_icmpf (pc' := 42) (tg := 52) rfl rfl (by decide) rfl ?_
    refine xi_aload_n (pc' := 43) rfl rfl rfl ?_
    refine xi_iload (pc' := 45) rfl rfl rfl ?_
    refine xi_iload (pc' := 47) rfl rfl rfl ?_
    refine xi_iadd (pc' := 48) rfl rfl ?_
    refine xc_iald (j := f + 2) (pc' := 49) rfl hka hca hsa (by omega) (by first | rfl | (simp only [ix_add, ix_mul, ix_pred]; done) | (simp only [ix_add, ix_mul, ix_pred, *]; done)) (by omega) hl2 rfl ?_
    refine xi_goto (pc' := 53) rfl rfl ?_
    refine xc_iast (j := 4 * s + 2) (pc' := 54) rfl (kd_T4 ht) (by omega) (by omega) (by first | rfl | (simp only [ix_add, ix_mul, ix_pred]; done) | (simp only [ix_add, ix_mul, ix_pred, *]; done)) (by omega) (by decide) rfl ?_
    refine xi_iincv (y := nI 3) (pc' := 57) rfl rfl (by decide) (st1_7 rfl) rfl ?_
    refine xi_goto (pc' := 20) rfl rfl ?_
    refine xi_iload (pc' := 22) rfl rfl rfl ?_
    refine xi_iconst (pc' := 23) rfl rfl ?_
    refine xi_icmpf (pc' := 26) (tg := 60) rfl rfl (by decide) rfl ?_
    refine xi_aload_n (pc' := 27) rfl rfl rfl ?_
    refine xc_getp (pc' := 30) rfl rfl (by decide) (kd_T0 ht) (by omega) (by decide) rfl (pd_T9 ht) rfl ?_
    refine xi_iload (pc' := 32) rfl rfl rfl ?_
    refine xi_iload (pc' := 34) rfl rfl rfl ?_
    refine xi_iadd (pc' := 35) rfl rfl ?_
    refine xi_iload (pc' := 37) rfl rfl rfl ?_
    refine xi_iload (pc' := 39) rfl rfl rfl ?_
    refine xi_icmpf (pc' := 42) (tg := 52) rfl rfl (by decide) rfl ?_
    refine xi_aload_n (pc' := 43) rfl rfl rfl ?_
    refine xi_iload (pc' := 45) rfl rfl rfl ?_
    refine xi_iload (pc' := 47) rfl rfl rfl ?_
    refine xi_iadd (pc' := 48) rfl rfl ?_
    refine xc_iald (j := f + 3) (pc' := 49) rfl hka hca hsa (by omega) (by first | rfl | (simp only [ix_add, ix_mul, ix_pred]; done) | (simp only [ix_add, ix_mul, ix_pred, *]; done)) (by omega) hl2 rfl ?_
    refine xi_goto (pc' := 53) rfl rfl ?_
    refine xc_iast (j := 4 * s + 3) (pc' := 54) rfl (kd_T4 ht) (by omega) (by omega) (by first | rfl | (simp only [ix_add, ix_mul, ix_pred]; done) | (simp only [ix_add, ix_mul, ix_pred, *]; done)) (by omega) (by decide) rfl ?_
    refine xi_iincv (y := nI 4) (pc' := 57) rfl rfl (by decide) (st1_7 rfl) rfl ?_
    refine xi_goto (pc' := 20) rfl rfl ?_
    refine xi_iload (pc' := 22) rfl rfl rfl ?_
    refine xi_iconst (pc' := 23) rfl rfl ?_
    refine xi_icmpt (pc' := 60) rfl rfl (by decide) ?_
    refine xi_aload_n (pc' := 61) rfl rfl rfl ?_
    refine xc_getp (pc' := 64) rfl rfl (by decide) (kd_T0 ht) (by omega) (by decide) rfl (pd_T10 ht) rfl ?_
    refine xi_iload_n (pc' := 65) rfl rfl rfl ?_
    refine xi_iconst (pc' := 66) rfl rfl ?_
    refine xi_isub (pc' := 67) rfl rfl ?_
    refine xi_iconst (pc' := 68) rfl rfl ?_
    refine xc_zast (j := s) (pc' := 69) rfl (kd_T5 ht) (by omega) (by omega) (ix_pred s) (by omega) (by decide) (by first | rfl | assumption) rfl ?_
    refine xi_iconst (pc' := 70) rfl rfl ?_
    refine xx_zreturn rfl rfl (by first | rfl | assumption | exact b01_bI | simp [ex_b01, bI]) ?_
    simp only [ex_P, Classical.not_not, ↓reduceIte, Nat.add_zero, or_true, true_or, not_true_eq_false, not_false_eq_true, or_false, false_or, wI_get, false_and, true_and, and_true, and_false, and_self, Nat.reduceEqDiff, Nat.succ_ne_zero, reduceCtorEq, nI_lit, nI_lit0, Nat.reduceLT, Nat.zero_add, mn_lit, mn_lit', mn_0] at *
    first | (simp only [c_rcv, c_fill, c_f, Nat.reduceAdd, *, ↓reduceIte, Nat.add_zero, or_true, true_or, not_true_eq_false, not_false_eq_true, or_false, false_or, wI_get, false_and, true_and, and_true, and_false, and_self, Nat.reduceEqDiff, Nat.succ_ne_zero, reduceCtorEq, nI_lit, nI_lit0, Nat.reduceLT, Nat.zero_add, mn_lit, mn_lit', mn_0]; done) | (exfalso; simp_all only [↓reduceIte, Nat.add_zero, or_true, true_or, not_true_eq_false, not_false_eq_true, or_false, false_or, wI_get, false_and, true_and, and_true, and_false, and_self, Nat.reduceEqDiff, Nat.succ_ne_zero, reduceCtorEq, nI_lit, nI_lit0, Nat.reduceLT, Nat.zero_add, mn_lit, mn_lit', mn_0]; done)
  · refine xi_aload_n (pc' := 5) rfl rfl rfl ?_
    refine xi_iconst (pc' := 6) rfl rfl ?_
    refine xc_puti (pc' := 9) rfl rfl (by decide) (kd_T0 ht) (by omega) (by omega) (by decide) (Or.inr ⟨rfl, by first | rfl | assumption⟩) rfl ?_
    refine xi_iconst (pc' := 10) rfl rfl ?_
    refine xx_zreturn rfl rfl (by first | rfl | assumption | exact b01_bI | simp [ex_b01, bI]) ?_
    simp only [ex_P, Classical.not_not, ↓reduceIte, Nat.add_zero, or_true, true_or, not_true_eq_false, not_false_eq_true, or_false, false_or, wI_get, false_and, true_and, and_true, and_false, and_self, Nat.reduceEqDiff, Nat.succ_ne_zero, reduceCtorEq, nI_lit, nI_lit0, Nat.reduceLT, Nat.zero_add, mn_lit, mn_lit', mn_0] at *
    first | (simp only [c_rcv, c_fill, c_f, Nat.reduceAdd, *, ↓reduceIte, Nat.add_zero, or_true, true_or, not_true_eq_false, not_false_eq_true, or_false, false_or, wI_get, false_and, true_and, and_true, and_false, and_self, Nat.reduceEqDiff, Nat.succ_ne_zero, reduceCtorEq, nI_lit, nI_lit0, Nat.reduceLT, Nat.zero_add, mn_lit, mn_lit', mn_0]; done) | (exfalso; simp_all only [↓reduceIte, Nat.add_zero, or_true, true_or, not_true_eq_false, not_false_eq_true, or_false, false_or, wI_get, false_and, true_and, and_true, and_false, and_self, Nat.reduceEqDiff, Nat.succ_ne_zero, reduceCtorEq, nI_lit, nI_lit0, Nat.reduceLT, Nat.zero_add, mn_lit, mn_lit', mn_0]; done)
theorem c_receive {L : Nat} {xs : Nat → Int32} {D n : Nat} {I J : ex_Mem} {t s a f l nn : Nat} {g : Int32} (ht : t < 6) (hs : s < 3) (hka : cb_kd a = (1, l)) (hca : ¬ (52 ≤ a ∧ a < 81)) (hsa : a < 81 + 2 * n) (ha3 : a < 1000) (hl2 : l < 2 ^ 31) (haR : ¬ a = 12 + 6 * t) (hl : f + nn ≤ l) (h1 : 1 ≤ nn) (h4 : nn ≤ 4) : ri L xs (D + 1) 58 [.ref (8 + 6 * t), .int g, .int (nI (s + 1)), .ref a, .int (nI f), .int (nI nn)] (mkH n I J) (c_rcv I t s a f nn g).1 (mkH n (c_rcv I t s a f nn g).2 J) := by
  rcases (show nn = 1 ∨ nn = 2 ∨ nn = 3 ∨ nn = 4 by omega) with rfl | rfl | rfl | rfl
  · exact c_rcv_1 ht hs hka hca hsa ha3 hl2 haR hl
  · exact c_rcv_2 ht hs hka hca hsa ha3 hl2 haR hl
  · exact c_rcv_3 ht hs hka hca hsa ha3 hl2 haR hl
  · exact c_rcv_4 ht hs hka hca hsa ha3 hl2 haR hl
