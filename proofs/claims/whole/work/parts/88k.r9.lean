theorem xi_bipushm {G : ex_G} {L : Nat} {xs : Nat → Int32} {D mi pc pc' : Nat} {lv st : List Value} {h : ex_Hp} {Q : Option Value → ex_Hp → Prop} {k : Nat} (hf : ex_look (ex_cd G mi) pc = some (.bipush (.negSucc k))) (hk : k < 128) (hpc : pc + 2 = pc') (kk : xx G L xs D mi pc' lv (.int (- nI (k + 1)) :: st) h Q) : xx G L xs D mi pc lv st h Q := by
  subst hpc
  exact xx_pure hf (by show (if -128 ≤ (Int.negSucc k) ∧ (Int.negSucc k) < 128 then some (pc + 2, lv, Value.int (- nI (k + 1)) :: st) else none) = _; rw [if_pos ⟨by omega, by omega⟩]) kk
/-- arguments as they may be -/
def vT (t : Int32) : Prop := 0 ≤ t ∧ t < nI 6
def vK (t : Int32) : Prop := 0 ≤ t ∧ t < nI 4
def vV (t : Int32) : Prop := 0 ≤ t ∧ t ≤ nI 65535
def vS (s : Int32) : Prop := nI 1 ≤ s ∧ s ≤ nI 3
theorem vT_n {t : Nat} (h : t < 6) : vT (nI t) := ⟨nI_pos' (by omega), nI_lt h (by decide)⟩
theorem vK_n {t : Nat} (h : t < 4) : vK (nI t) := ⟨nI_pos' (by omega), nI_lt h (by decide)⟩
theorem vS_n {s : Nat} (h : s < 3) : vS (nI (s + 1)) := ⟨nI_le (by omega) (by omega), nI_le (by omega) (by decide)⟩
theorem r_isTerminal1 {L : Nat} {xs : Nat → Int32} {D n : Nat} {I J : ex_Mem} {t : Int32} (h : vT t) : ri L xs D 85 [.int t] (mkH n I J) (nI 1) (mkH n I J) := by
  have e := r_isTerminal (L := L) (xs := xs) (D := D) (n := n) (I := I) (J := J) t
  unfold vT at h
  rw [if_pos h] at e
  exact e
theorem r_isTerminal0 {L : Nat} {xs : Nat → Int32} {D n : Nat} {I J : ex_Mem} {t : Int32} (h : ¬ vT t) : ri L xs D 85 [.int t] (mkH n I J) (nI 0) (mkH n I J) := by
  have e := r_isTerminal (L := L) (xs := xs) (D := D) (n := n) (I := I) (J := J) t
  unfold vT at h
  rw [if_neg h] at e
  exact e
theorem r_isIndex1 {L : Nat} {xs : Nat → Int32} {D n : Nat} {I J : ex_Mem} {t : Int32} (h : vK t) : ri L xs D 88 [.int t] (mkH n I J) (nI 1) (mkH n I J) := by
  have e := r_isIndex (L := L) (xs := xs) (D := D) (n := n) (I := I) (J := J) t
  unfold vK at h
  rw [if_pos h] at e
  exact e
theorem r_isIndex0 {L : Nat} {xs : Nat → Int32} {D n : Nat} {I J : ex_Mem} {t : Int32} (h : ¬ vK t) : ri L xs D 88 [.int t] (mkH n I J) (nI 0) (mkH n I J) := by
  have e := r_isIndex (L := L) (xs := xs) (D := D) (n := n) (I := I) (J := J) t
  unfold vK at h
  rw [if_neg h] at e
  exact e
theorem r_isValue1 {L : Nat} {xs : Nat → Int32} {D n : Nat} {I J : ex_Mem} {t : Int32} (h : vV t) : ri L xs D 82 [.int t] (mkH n I J) (nI 1) (mkH n I J) := by
  have e := r_isValue (L := L) (xs := xs) (D := D) (n := n) (I := I) (J := J) t
  unfold vV at h
  rw [if_pos h] at e
  exact e
theorem r_isValue0 {L : Nat} {xs : Nat → Int32} {D n : Nat} {I J : ex_Mem} {t : Int32} (h : ¬ vV t) : ri L xs D 82 [.int t] (mkH n I J) (nI 0) (mkH n I J) := by
  have e := r_isValue (L := L) (xs := xs) (D := D) (n := n) (I := I) (J := J) t
  unfold vV at h
  rw [if_neg h] at e
  exact e
theorem r_isPlace1 {L : Nat} {xs : Nat → Int32} {D n : Nat} {I J : ex_Mem} {t s : Int32} (ht : vT t) (hs : vS s) : ri L xs (D + 1) 87 [.int t, .int s] (mkH n I J) (nI 1) (mkH n I J) := by
  show xx cb_G _ _ _ 87 0 [.int t, .int s] [] _ _
  refine xi_iload_n (pc' := 1) rfl rfl rfl ?_
  refine xx_callSi (pc' := 4) rfl rfl (by decide) rfl (Nat.le_of_ble_eq_true rfl) rfl rfl (r_isTerminal1 ht) ?_
  refine xi_iff (pc' := 7) (tg := 21) rfl rfl (by decide) rfl ?_
  refine xi_iload_n (pc' := 8) rfl rfl rfl ?_
  refine xi_iconst (pc' := 9) rfl rfl ?_
  refine xx_icmp (pc' := 12) (tg := 21) rfl rfl rfl (fun q9 => absurd q9 (fun q => absurd (show s < nI 1 from q) (Int32.not_lt.mpr hs.1))) (fun q9 => ?_)
  refine xi_iload_n (pc' := 13) rfl rfl rfl ?_
  refine xi_iconst (pc' := 14) rfl rfl ?_
  refine xx_icmp (pc' := 17) (tg := 21) rfl rfl rfl (fun q14 => absurd q14 (fun q => absurd (show nI 3 < s from q) (Int32.not_lt.mpr hs.2))) (fun q14 => ?_)
  refine xi_iconst (pc' := 18) rfl rfl ?_
  refine xi_goto (pc' := 22) rfl rfl ?_
  refine xx_zreturn rfl rfl (by first | rfl | assumption | exact b01_bI | simp [ex_b01, bI]) ?_
  exact ⟨rfl, rfl⟩
theorem r_isPlace0t {L : Nat} {xs : Nat → Int32} {D n : Nat} {I J : ex_Mem} {t s : Int32} (ht : ¬ vT t) : ri L xs (D + 1) 87 [.int t, .int s] (mkH n I J) (nI 0) (mkH n I J) := by
  show xx cb_G _ _ _ 87 0 [.int t, .int s] [] _ _
  refine xi_iload_n (pc' := 1) rfl rfl rfl ?_
  refine xx_callSi (pc' := 4) rfl rfl (by decide) rfl (Nat.le_of_ble_eq_true rfl) rfl rfl (r_isTerminal0 ht) ?_
  refine xi_ift (pc' := 21) rfl rfl (by decide) ?_
  refine xi_iconst (pc' := 22) rfl rfl ?_
  refine xx_zreturn rfl rfl (by first | rfl | assumption | exact b01_bI | simp [ex_b01, bI]) ?_
  exact ⟨rfl, rfl⟩
theorem r_isPlace0s {L : Nat} {xs : Nat → Int32} {D n : Nat} {I J : ex_Mem} {t s : Int32} (ht : vT t) (hs : ¬ vS s) : ri L xs (D + 1) 87 [.int t, .int s] (mkH n I J) (nI 0) (mkH n I J) := by
  show xx cb_G _ _ _ 87 0 [.int t, .int s] [] _ _
  refine xi_iload_n (pc' := 1) rfl rfl rfl ?_
  refine xx_callSi (pc' := 4) rfl rfl (by decide) rfl (Nat.le_of_ble_eq_true rfl) rfl rfl (r_isTerminal1 ht) ?_
  refine xi_iff (pc' := 7) (tg := 21) rfl rfl (by decide) rfl ?_
  refine xi_iload_n (pc' := 8) rfl rfl rfl ?_
  refine xi_iconst (pc' := 9) rfl rfl ?_
  refine xx_icmp (pc' := 12) (tg := 21) rfl rfl rfl (fun q9 => ?_) (fun q9 => ?_)
  · refine xi_iconst (pc' := 22) rfl rfl ?_
    refine xx_zreturn rfl rfl (by first | rfl | assumption | exact b01_bI | simp [ex_b01, bI]) ?_
    first | exact ⟨rfl, rfl⟩ | exact absurd ⟨Int32.not_lt.mp q9, Int32.not_lt.mp q14⟩ hs
  · refine xi_iload_n (pc' := 13) rfl rfl rfl ?_
    refine xi_iconst (pc' := 14) rfl rfl ?_
    refine xx_icmp (pc' := 17) (tg := 21) rfl rfl rfl (fun q14 => ?_) (fun q14 => ?_)
    · refine xi_iconst (pc' := 22) rfl rfl ?_
      refine xx_zreturn rfl rfl (by first | rfl | assumption | exact b01_bI | simp [ex_b01, bI]) ?_
      first | exact ⟨rfl, rfl⟩ | exact absurd ⟨Int32.not_lt.mp q9, Int32.not_lt.mp q14⟩ hs
    · refine xi_iconst (pc' := 18) rfl rfl ?_
      refine xi_goto (pc' := 22) rfl rfl ?_
      refine xx_zreturn rfl rfl (by first | rfl | assumption | exact b01_bI | simp [ex_b01, bI]) ?_
      first | exact ⟨rfl, rfl⟩ | exact absurd ⟨Int32.not_lt.mp q9, Int32.not_lt.mp q14⟩ hs
theorem r_isPlace0 {L : Nat} {xs : Nat → Int32} {D n : Nat} {I J : ex_Mem} {t s : Int32} (h : ¬ (vT t ∧ vS s)) : ri L xs (D + 1) 87 [.int t, .int s] (mkH n I J) (nI 0) (mkH n I J) := by
  by_cases ht : vT t
  · exact r_isPlace0s ht (fun hs => h ⟨ht, hs⟩)
  · exact r_isPlace0t ht
theorem r_live1 {L : Nat} {xs : Nat → Int32} {D n : Nat} {I J : ex_Mem} {t : Nat} {on : Int32} (ht : t < 6) : ri L xs (D + 1) 84 [.ref 52, .int (nI t), .int on] (mkH n I J) (nI 1) (mkH n I (ex_wI J 57 t (if on = 0 then nI 1 else nI 0))) := by
  show xx cb_G _ _ _ 84 0 [.ref 52, .int (nI t), .int on] [] _ _
  refine xi_iload_n (pc' := 1) rfl rfl rfl ?_
  refine xx_callSi (pc' := 4) rfl rfl (by decide) rfl (Nat.le_of_ble_eq_true rfl) rfl rfl (r_isTerminal1 (vT_n ht)) ?_
  refine xi_ift (pc' := 9) rfl rfl (by decide) ?_
  refine xi_aload_n (pc' := 10) rfl rfl rfl ?_
  refine xr_getp (pc' := 13) rfl rfl (by decide) rfl rfl rfl ?_
  refine xi_iload_n (pc' := 14) rfl rfl rfl ?_
  refine xi_iload_n (pc' := 15) rfl rfl rfl ?_
  refine xx_if (pc' := 18) (tg := 22) rfl rfl rfl (fun q15 => ?_) (fun q15 => ?_)
  · refine xi_iconst (pc' := 23) rfl rfl ?_
    refine xr_zast (j := t) (pc' := 24) rfl rfl (by decide) (by first | rfl | (simp only [ix_add, ix_mul, ix_pred]; done) | (simp only [ix_add, ix_mul, ix_pred, *]; done)) (by omega) (by decide) (by decide) rfl ?_
    refine xi_iconst (pc' := 25) rfl rfl ?_
    refine xx_zreturn rfl rfl (by decide) ?_
    simp only [ex_P, Classical.not_not, ↓reduceIte, Nat.add_zero, or_true, true_or, not_true_eq_false, not_false_eq_true, or_false, false_or, wI_get, false_and, true_and, and_true, and_false, and_self, Nat.reduceEqDiff, Nat.succ_ne_zero, reduceCtorEq, nI_lit, nI_lit0, Nat.reduceLT] at *
    first | (simp only [ix_0, *, ↓reduceIte, Nat.add_zero, or_true, true_or, not_true_eq_false, not_false_eq_true, or_false, false_or, wI_get, false_and, true_and, and_true, and_false, and_self, Nat.reduceEqDiff, Nat.succ_ne_zero, reduceCtorEq, nI_lit, nI_lit0, Nat.reduceLT]; done) | (exfalso; simp_all only [↓reduceIte, Nat.add_zero, or_true, true_or, not_true_eq_false, not_false_eq_true, or_false, false_or, wI_get, false_and, true_and, and_true, and_false, and_self, Nat.reduceEqDiff, Nat.succ_ne_zero, reduceCtorEq, nI_lit, nI_lit0, Nat.reduceLT]; done)
  · refine xi_iconst (pc' := 19) rfl rfl ?_
    refine xi_goto (pc' := 23) rfl rfl ?_
    refine xr_zast (j := t) (pc' := 24) rfl rfl (by decide) (by first | rfl | (simp only [ix_add, ix_mul, ix_pred]; done) | (simp only [ix_add, ix_mul, ix_pred, *]; done)) (by omega) (by decide) (by decide) rfl ?_
    refine xi_iconst (pc' := 25) rfl rfl ?_
    refine xx_zreturn rfl rfl (by decide) ?_
    simp only [ex_P, Classical.not_not, ↓reduceIte, Nat.add_zero, or_true, true_or, not_true_eq_false, not_false_eq_true, or_false, false_or, wI_get, false_and, true_and, and_true, and_false, and_self, Nat.reduceEqDiff, Nat.succ_ne_zero, reduceCtorEq, nI_lit, nI_lit0, Nat.reduceLT] at *
    first | (simp only [ix_0, *, ↓reduceIte, Nat.add_zero, or_true, true_or, not_true_eq_false, not_false_eq_true, or_false, false_or, wI_get, false_and, true_and, and_true, and_false, and_self, Nat.reduceEqDiff, Nat.succ_ne_zero, reduceCtorEq, nI_lit, nI_lit0, Nat.reduceLT]; done) | (exfalso; simp_all only [↓reduceIte, Nat.add_zero, or_true, true_or, not_true_eq_false, not_false_eq_true, or_false, false_or, wI_get, false_and, true_and, and_true, and_false, and_self, Nat.reduceEqDiff, Nat.succ_ne_zero, reduceCtorEq, nI_lit, nI_lit0, Nat.reduceLT]; done)
theorem r_live0 {L : Nat} {xs : Nat → Int32} {D n : Nat} {I J : ex_Mem} {t on : Int32} (ht : ¬ vT t) : ri L xs (D + 1) 84 [.ref 52, .int t, .int on] (mkH n I J) (nI 0) (mkH n I J) := by
  show xx cb_G _ _ _ 84 0 [.ref 52, .int t, .int on] [] _ _
  refine xi_iload_n (pc' := 1) rfl rfl rfl ?_
  refine xx_callSi (pc' := 4) rfl rfl (by decide) rfl (Nat.le_of_ble_eq_true rfl) rfl rfl (r_isTerminal0 ht) ?_
  refine xi_iff (pc' := 7) (tg := 9) rfl rfl (by decide) rfl ?_
  refine xi_iconst (pc' := 8) rfl rfl ?_
  refine xx_zreturn rfl rfl (by first | rfl | assumption | exact b01_bI | simp [ex_b01, bI]) ?_
  exact ⟨rfl, rfl⟩
theorem r_draft1 {L : Nat} {xs : Nat → Int32} {D n : Nat} {I J : ex_Mem} {t s k : Nat} {v : Int32} (ht : t < 6) (hs : s < 3) (hk : k < 4) (hv : vV v) : ri L xs (D + 2) 86 [.ref 52, .int (nI t), .int (nI (s + 1)), .int (nI k), .int v] (mkH n I J) (nI 1) (mkH n I (ex_wI J 58 (12 * t + 4 * s + k) v)) := by
  show xx cb_G _ _ _ 86 0 [.ref 52, .int (nI t), .int (nI (s + 1)), .int (nI k), .int v] [] _ _
  refine xi_iload_n (pc' := 1) rfl rfl rfl ?_
  refine xi_iload_n (pc' := 2) rfl rfl rfl ?_
  refine xx_callSi (pc' := 5) rfl rfl (by decide) rfl (Nat.le_of_ble_eq_true rfl) rfl rfl (r_isPlace1 (D := D) (vT_n ht) (vS_n hs)) ?_
  refine xi_iff (pc' := 8) (tg := 23) rfl rfl (by decide) rfl ?_
  refine xi_iload_n (pc' := 9) rfl rfl rfl ?_
  refine xx_callSi (pc' := 12) rfl rfl (by decide) rfl (Nat.le_of_ble_eq_true rfl) rfl rfl (r_isIndex1 (vK_n hk)) ?_
  refine xi_iff (pc' := 15) (tg := 23) rfl rfl (by decide) rfl ?_
  refine xi_iload (pc' := 17) rfl rfl rfl ?_
  refine xx_callSi (pc' := 20) rfl rfl (by decide) rfl (Nat.le_of_ble_eq_true rfl) rfl rfl (r_isValue1 hv) ?_
  refine xi_ift (pc' := 25) rfl rfl (by decide) ?_
  refine xi_aload_n (pc' := 26) rfl rfl rfl ?_
  refine xr_getp (pc' := 29) rfl rfl (by decide) rfl rfl rfl ?_
  refine xi_iload_n (pc' := 30) rfl rfl rfl ?_
  refine xi_iload_n (pc' := 31) rfl rfl rfl ?_
  refine xx_callSi (pc' := 34) rfl rfl (by decide) rfl (Nat.le_of_ble_eq_true rfl) rfl rfl (r_place t s) ?_
  refine xi_iload_n (pc' := 35) rfl rfl rfl ?_
  refine xi_iadd (pc' := 36) rfl rfl ?_
  refine xi_iload (pc' := 38) rfl rfl rfl ?_
  refine xr_iast (j := 12 * t + 4 * s + k) (pc' := 39) rfl rfl (by decide) (by first | rfl | (simp only [ix_add, ix_mul, ix_pred]; done) | (simp only [ix_add, ix_mul, ix_pred, *]; done)) (by omega) (by decide) rfl ?_
  refine xi_iconst (pc' := 40) rfl rfl ?_
  refine xx_zreturn rfl rfl (by first | rfl | assumption | exact b01_bI | simp [ex_b01, bI]) ?_
  exact ⟨rfl, rfl⟩
theorem r_draft0p {L : Nat} {xs : Nat → Int32} {D n : Nat} {I J : ex_Mem} {t s k v : Int32} (hp : ¬ (vT t ∧ vS s)) : ri L xs (D + 2) 86 [.ref 52, .int t, .int s, .int k, .int v] (mkH n I J) (nI 0) (mkH n I J) := by
  show xx cb_G _ _ _ 86 0 [.ref 52, .int t, .int s, .int k, .int v] [] _ _
  refine xi_iload_n (pc' := 1) rfl rfl rfl ?_
  refine xi_iload_n (pc' := 2) rfl rfl rfl ?_
  refine xx_callSi (pc' := 5) rfl rfl (by decide) rfl (Nat.le_of_ble_eq_true rfl) rfl rfl (r_isPlace0 (D := D) hp) ?_
  refine xi_ift (pc' := 23) rfl rfl (by decide) ?_
  refine xi_iconst (pc' := 24) rfl rfl ?_
  refine xx_zreturn rfl rfl (by first | rfl | assumption | exact b01_bI | simp [ex_b01, bI]) ?_
  exact ⟨rfl, rfl⟩
theorem r_draft0k {L : Nat} {xs : Nat → Int32} {D n : Nat} {I J : ex_Mem} {t s k v : Int32} (hp : vT t ∧ vS s) (hk : ¬ vK k) : ri L xs (D + 2) 86 [.ref 52, .int t, .int s, .int k, .int v] (mkH n I J) (nI 0) (mkH n I J) := by
  show xx cb_G _ _ _ 86 0 [.ref 52, .int t, .int s, .int k, .int v] [] _ _
  refine xi_iload_n (pc' := 1) rfl rfl rfl ?_
  refine xi_iload_n (pc' := 2) rfl rfl rfl ?_
  refine xx_callSi (pc' := 5) rfl rfl (by decide) rfl (Nat.le_of_ble_eq_true rfl) rfl rfl (r_isPlace1 (D := D) hp.1 hp.2) ?_
  refine xi_iff (pc' := 8) (tg := 23) rfl rfl (by decide) rfl ?_
  refine xi_iload_n (pc' := 9) rfl rfl rfl ?_
  refine xx_callSi (pc' := 12) rfl rfl (by decide) rfl (Nat.le_of_ble_eq_true rfl) rfl rfl (r_isIndex0 hk) ?_
  refine xi_ift (pc' := 23) rfl rfl (by decide) ?_
  refine xi_iconst (pc' := 24) rfl rfl ?_
  refine xx_zreturn rfl rfl (by first | rfl | assumption | exact b01_bI | simp [ex_b01, bI]) ?_
  exact ⟨rfl, rfl⟩
theorem r_draft0v {L : Nat} {xs : Nat → Int32} {D n : Nat} {I J : ex_Mem} {t s k v : Int32} (hp : vT t ∧ vS s) (hk : vK k) (hv : ¬ vV v) : ri L xs (D + 2) 86 [.ref 52, .int t, .int s, .int k, .int v] (mkH n I J) (nI 0) (mkH n I J) := by
  show xx cb_G _ _ _ 86 0 [.ref 52, .int t, .int s, .int k, .int v] [] _ _
  refine xi_iload_n (pc' := 1) rfl rfl rfl ?_
  refine xi_iload_n (pc' := 2) rfl rfl rfl ?_
  refine xx_callSi (pc' := 5) rfl rfl (by decide) rfl (Nat.le_of_ble_eq_true rfl) rfl rfl (r_isPlace1 (D := D) hp.1 hp.2) ?_
  refine xi_iff (pc' := 8) (tg := 23) rfl rfl (by decide) rfl ?_
  refine xi_iload_n (pc' := 9) rfl rfl rfl ?_
  refine xx_callSi (pc' := 12) rfl rfl (by decide) rfl (Nat.le_of_ble_eq_true rfl) rfl rfl (r_isIndex1 hk) ?_
  refine xi_iff (pc' := 15) (tg := 23) rfl rfl (by decide) rfl ?_
  refine xi_iload (pc' := 17) rfl rfl rfl ?_
  refine xx_callSi (pc' := 20) rfl rfl (by decide) rfl (Nat.le_of_ble_eq_true rfl) rfl rfl (r_isValue0 hv) ?_
  refine xi_iff (pc' := 23) (tg := 25) rfl rfl (by decide) rfl ?_
  refine xi_iconst (pc' := 24) rfl rfl ?_
  refine xx_zreturn rfl rfl (by first | rfl | assumption | exact b01_bI | simp [ex_b01, bI]) ?_
  exact ⟨rfl, rfl⟩
def r_pub (J : ex_Mem) (p : Nat) : ex_Mem := ex_wI (ex_wI (ex_wI (ex_wI J 59 p (J 58 p)) 59 (p + 1) (J 58 (p + 1))) 59 (p + 2) (J 58 (p + 2))) 59 (p + 3) (J 58 (p + 3))
theorem r_publish1 {L : Nat} {xs : Nat → Int32} {D n : Nat} {I J : ex_Mem} {t s : Nat} (ht : t < 6) (hs : s < 3) : ri L xs (D + 2) 90 [.ref 52, .int (nI t), .int (nI (s + 1))] (mkH n I J) (nI 1) (mkH n I (r_pub J (12 * t + 4 * s))) := by
  show xx cb_G _ _ _ 90 0 [.ref 52, .int (nI t), .int (nI (s + 1)), ex_no, ex_no] [] _ _
  refine xi_iload_n (pc' := 1) rfl rfl rfl ?_
  refine xi_iload_n (pc' := 2) rfl rfl rfl ?_
  refine xx_callSi (pc' := 5) rfl rfl (by decide) rfl (Nat.le_of_ble_eq_true rfl) rfl rfl (r_isPlace1 (D := D) (vT_n ht) (vS_n hs)) ?_
  refine xi_ift (pc' := 10) rfl rfl (by decide) ?_
  refine xi_iload_n (pc' := 11) rfl rfl rfl ?_
  refine xi_iload_n (pc' := 12) rfl rfl rfl ?_
  refine xx_callSi (pc' := 15) rfl rfl (by decide) rfl (Nat.le_of_ble_eq_true rfl) rfl rfl (r_place t s) ?_
  refine xi_istore_n (pc' := 16) rfl (st1_3 rfl) rfl ?_
  refine xi_iconst (pc' := 17) rfl rfl ?_
  refine xi_istore (pc' := 19) rfl (st1_4 rfl) rfl ?_
  refine xi_iload (pc' := 21) rfl rfl rfl ?_
  refine xi_iconst (pc' := 22) rfl rfl ?_
  refine xi_icmpf (pc' := 25) (tg := 49) rfl rfl (by decide) rfl ?_
  refine xi_aload_n (pc' := 26) rfl rfl rfl ?_
  refine xr_getp (pc' := 29) rfl rfl (by decide) rfl rfl rfl ?_
  refine xi_iload_n (pc' := 30) rfl rfl rfl ?_
  refine xi_iload (pc' := 32) rfl rfl rfl ?_
  refine xi_iadd (pc' := 33) rfl rfl ?_
  refine xi_aload_n (pc' := 34) rfl rfl rfl ?_
  refine xr_getp (pc' := 37) rfl rfl (by decide) rfl rfl rfl ?_
  refine xi_iload_n (pc' := 38) rfl rfl rfl ?_
  refine xi_iload (pc' := 40) rfl rfl rfl ?_
  refine xi_iadd (pc' := 41) rfl rfl ?_
  refine xr_iald (j := 12 * t + 4 * s + 0) (pc' := 42) rfl rfl (by decide) (by first | rfl | (simp only [ix_add, ix_mul, ix_pred]; done) | (simp only [ix_add, ix_mul, ix_pred, *]; done)) (by omega) (by decide) rfl ?_
  refine xr_iast (j := 12 * t + 4 * s + 0) (pc' := 43) rfl rfl (by decide) (by first | rfl | (simp only [ix_add, ix_mul, ix_pred]; done) | (simp only [ix_add, ix_mul, ix_pred, *]; done)) (by omega) (by decide) rfl ?_
  refine xi_iincv (y := nI 1) (pc' := 46) rfl rfl (by decide) (st1_4 rfl) rfl ?_
  refine xi_goto (pc' := 19) rfl rfl ?_
  refine xi_iload (pc' := 21) rfl rfl rfl ?_
  refine xi_iconst (pc' := 22) rfl rfl ?_
  refine xi_icmpf (pc' := 25) (tg := 49) rfl rfl (by decide) rfl ?_
  refine xi_aload_n (pc' := 26) rfl rfl rfl ?_
  refine xr_getp (pc' := 29) rfl rfl (by decide) rfl rfl rfl ?_
  refine xi_iload_n (pc' := 30) rfl rfl rfl ?_
  refine xi_iload (pc' := 32) rfl rfl rfl ?_
  refine xi_iadd (pc' := 33) rfl rfl ?_
  refine xi_aload_n (pc' := 34) rfl rfl rfl ?_
  refine xr_getp (pc' := 37) rfl rfl (by decide) rfl rfl rfl ?_
  refine xi_iload_n (pc' := 38) rfl rfl rfl ?_
  refine xi_iload (pc' := 40) rfl rfl rfl ?_
  refine xi_iadd (pc' := 41) rfl rfl ?_
  refine xr_iald (j := 12 * t + 4 * s + 1) (pc' := 42) rfl rfl (by decide) (by first | rfl | (simp only [ix_add, ix_mul, ix_pred]; done) | (simp only [ix_add, ix_mul, ix_pred, *]; done)) (by omega) (by decide) rfl ?_
  refine xr_iast (j := 12 * t + 4 * s + 1) (pc' := 43) rfl rfl (by decide) (by first | rfl | (simp only [ix_add, ix_mul, ix_pred]; done) | (simp only [ix_add, ix_mul, ix_pred, *]; done)) (by omega) (by decide) rfl ?_
  refine xi_iincv (y := nI 2) (pc' := 46) rfl rfl (by decide) (st1_4 rfl) rfl ?_
  refine xi_goto (pc' := 19) rfl rfl ?_
  refine xi_iload (pc' := 21) rfl rfl rfl ?_
  refine xi_iconst (pc' := 22) rfl rfl ?_
  refine xi_icmpf (pc' := 25) (tg := 49) rfl rfl (by decide) rfl ?_
  refine xi_aload_n (pc' := 26) rfl rfl rfl ?_
  refine xr_getp (pc' := 29) rfl rfl (by decide) rfl rfl rfl ?_
  refine xi_iload_n (pc' := 30) rfl rfl rfl ?_
  refine xi_iload (pc' := 32) rfl rfl rfl ?_
  refine xi_iadd (pc' := 33) rfl rfl ?_
  refine xi_aload_n (pc' := 34) rfl rfl rfl ?_
  refine xr_getp (pc' := 37) rfl rfl (by decide) rfl rfl rfl ?_
  refine xi_iload_n (pc' := 38) rfl rfl rfl ?_
  refine xi_iload (pc' := 40) rfl rfl rfl ?_
  refine xi_iadd (pc' := 41) rfl rfl ?_
  refine xr_iald (j := 12 * t + 4 * s + 2) (pc' := 42) rfl rfl (by decide) (by first | rfl | (simp only [ix_add, ix_mul, ix_pred]; done) | (simp only [ix_add, ix_mul, ix_pred, *]; done)) (by omega) (by decide) rfl ?_
  refine xr_iast (j := 12 * t + 4 * s + 2) (pc' := 43) rfl rfl (by decide) (by first | rfl | (simp only [ix_add, ix_mul, ix_pred]; done) | (simp only [ix_add, ix_mul, ix_pred, *]; done)) (by omega) (by decide) rfl ?_
  refine xi_iincv (y := nI 3) (pc' := 46) rfl rfl (by decide) (st1_4 rfl) rfl ?_
  refine xi_goto (pc' := 19) rfl rfl ?_
  refine xi_iload (pc' := 21) rfl rfl rfl ?_
  refine xi_iconst (pc' := 22) rfl rfl ?_
  refine xi_icmpf (pc' := 25) (tg := 49) rfl rfl (by decide) rfl ?_
  refine xi_aload_n (pc' := 26) rfl rfl rfl ?_
  refine xr_getp (pc' := 29) rfl rfl (by decide) rfl rfl rfl ?_
  refine xi_iload_n (pc' := 30) rfl rfl rfl ?_
  refine xi_iload (pc' := 32) rfl rfl rfl ?_
  refine xi_iadd (pc' := 33) rfl rfl ?_
  refine xi_aload_n (pc' := 34) rfl rfl rfl ?_
  refine xr_getp (pc' := 37) rfl rfl (by decide) rfl rfl rfl ?_
  refine xi_iload_n (pc' := 38) rfl rfl rfl ?_
  refine xi_iload (pc' := 40) rfl rfl rfl ?_
  refine xi_iadd (pc' := 41) rfl rfl ?_
  refine xr_iald (j := 12 * t + 4 * s + 3) (pc' := 42) rfl rfl (by decide) (by first | rfl | (simp only [ix_add, ix_mul, ix_pred]; done) | (simp only [ix_add, ix_mul, ix_pred, *]; done)) (by omega) (by decide) rfl ?_
  refine xr_iast (j := 12 * t + 4 * s + 3) (pc' := 43) rfl rfl (by decide) (by first | rfl | (simp only [ix_add, ix_mul, ix_pred]; done) | (simp only [ix_add, ix_mul, ix_pred, *]; done)) (by omega) (by decide) rfl ?_
  refine xi_iincv (y := nI 4) (pc' := 46) rfl rfl (by decide) (st1_4 rfl) rfl ?_
  refine xi_goto (pc' := 19) rfl rfl ?_
  refine xi_iload (pc' := 21) rfl rfl rfl ?_
  refine xi_iconst (pc' := 22) rfl rfl ?_
  refine xi_icmpt (pc' := 49) rfl rfl (by decide) ?_
  refine xi_iconst (pc' := 50) rfl rfl ?_
  refine xx_zreturn rfl rfl (by first | rfl | assumption | exact b01_bI | simp [ex_b01, bI]) ?_
  simp only [ex_P, Classical.not_not, ↓reduceIte, Nat.add_zero, or_true, true_or, not_true_eq_false, not_false_eq_true, or_false, false_or, wI_get, false_and, true_and, and_true, and_false, and_self, Nat.reduceEqDiff, Nat.succ_ne_zero, reduceCtorEq, nI_lit, nI_lit0, Nat.reduceLT] at *
  first | (simp only [r_pub, *, ↓reduceIte, Nat.add_zero, or_true, true_or, not_true_eq_false, not_false_eq_true, or_false, false_or, wI_get, false_and, true_and, and_true, and_false, and_self, Nat.reduceEqDiff, Nat.succ_ne_zero, reduceCtorEq, nI_lit, nI_lit0, Nat.reduceLT]; done) | (exfalso; simp_all only [↓reduceIte, Nat.add_zero, or_true, true_or, not_true_eq_false, not_false_eq_true, or_false, false_or, wI_get, false_and, true_and, and_true, and_false, and_self, Nat.reduceEqDiff, Nat.succ_ne_zero, reduceCtorEq, nI_lit, nI_lit0, Nat.reduceLT]; done)
theorem r_publish0 {L : Nat} {xs : Nat → Int32} {D n : Nat} {I J : ex_Mem} {t s : Int32} (hp : ¬ (vT t ∧ vS s)) : ri L xs (D + 2) 90 [.ref 52, .int t, .int s] (mkH n I J) (nI 0) (mkH n I J) := by
  show xx cb_G _ _ _ 90 0 [.ref 52, .int t, .int s, ex_no, ex_no] [] _ _
  refine xi_iload_n (pc' := 1) rfl rfl rfl ?_
  refine xi_iload_n (pc' := 2) rfl rfl rfl ?_
  refine xx_callSi (pc' := 5) rfl rfl (by decide) rfl (Nat.le_of_ble_eq_true rfl) rfl rfl (r_isPlace0 (D := D) hp) ?_
  refine xi_iff (pc' := 8) (tg := 10) rfl rfl (by decide) rfl ?_
  refine xi_iconst (pc' := 9) rfl rfl ?_
  refine xx_zreturn rfl rfl (by first | rfl | assumption | exact b01_bI | simp [ex_b01, bI]) ?_
  exact ⟨rfl, rfl⟩
theorem r_received1 {L : Nat} {xs : Nat → Int32} {D n : Nat} {I J : ex_Mem} {t s k : Nat} (ht : t < 6) (hs : s < 3) (hk : k < 4) : ri L xs (D + 2) 91 [.ref 52, .int (nI t), .int (nI (s + 1)), .int (nI k)] (mkH n I J) (if J 61 (3 * t + s) = 0 then - nI 1 else J 60 (12 * t + 4 * s + k)) (mkH n I J) := by
  show xx cb_G _ _ _ 91 0 [.ref 52, .int (nI t), .int (nI (s + 1)), .int (nI k)] [] _ _
  refine xi_iload_n (pc' := 1) rfl rfl rfl ?_
  refine xi_iload_n (pc' := 2) rfl rfl rfl ?_
  refine xx_callSi (pc' := 5) rfl rfl (by decide) rfl (Nat.le_of_ble_eq_true rfl) rfl rfl (r_isPlace1 (D := D) (vT_n ht) (vS_n hs)) ?_
  refine xi_iff (pc' := 8) (tg := 30) rfl rfl (by decide) rfl ?_
  refine xi_iload_n (pc' := 9) rfl rfl rfl ?_
  refine xx_callSi (pc' := 12) rfl rfl (by decide) rfl (Nat.le_of_ble_eq_true rfl) rfl rfl (r_isIndex1 (vK_n hk)) ?_
  refine xi_iff (pc' := 15) (tg := 30) rfl rfl (by decide) rfl ?_
  refine xi_aload_n (pc' := 16) rfl rfl rfl ?_
  refine xr_getp (pc' := 19) rfl rfl (by decide) rfl rfl rfl ?_
  refine xi_iconst (pc' := 20) rfl rfl ?_
  refine xi_iload_n (pc' := 21) rfl rfl rfl ?_
  refine xi_imul (pc' := 22) rfl rfl ?_
  refine xi_iload_n (pc' := 23) rfl rfl rfl ?_
  refine xi_iadd (pc' := 24) rfl rfl ?_
  refine xi_iconst (pc' := 25) rfl rfl ?_
  refine xi_isub (pc' := 26) rfl rfl ?_
  refine xr_zald (j := 3 * t + s) (pc' := 27) rfl rfl (by decide) (by simp only [ix_mul, ix_add]; exact ix_pred (3 * t + s)) (by omega) (by decide) rfl ?_
  refine xx_if (pc' := 30) (tg := 32) rfl rfl rfl (fun q27 => ?_) (fun q27 => ?_)
  · refine xi_aload_n (pc' := 33) rfl rfl rfl ?_
    refine xr_getp (pc' := 36) rfl rfl (by decide) rfl rfl rfl ?_
    refine xi_iload_n (pc' := 37) rfl rfl rfl ?_
    refine xi_iload_n (pc' := 38) rfl rfl rfl ?_
    refine xx_callSi (pc' := 41) rfl rfl (by decide) rfl (Nat.le_of_ble_eq_true rfl) rfl rfl (r_place t s) ?_
    refine xi_iload_n (pc' := 42) rfl rfl rfl ?_
    refine xi_iadd (pc' := 43) rfl rfl ?_
    refine xr_iald (j := 12 * t + 4 * s + k) (pc' := 44) rfl rfl (by decide) (by first | rfl | (simp only [ix_add, ix_mul, ix_pred]; done) | (simp only [ix_add, ix_mul, ix_pred, *]; done)) (by omega) (by decide) rfl ?_
    refine xx_ireturn rfl rfl ?_
    simp only [ex_P, Classical.not_not, ↓reduceIte, Nat.add_zero, or_true, true_or, not_true_eq_false, not_false_eq_true, or_false, false_or, wI_get, false_and, true_and, and_true, and_false, and_self, Nat.reduceEqDiff, Nat.succ_ne_zero, reduceCtorEq, nI_lit, nI_lit0, Nat.reduceLT] at *
    first | (simp only [ix_0, *, ↓reduceIte, Nat.add_zero, or_true, true_or, not_true_eq_false, not_false_eq_true, or_false, false_or, wI_get, false_and, true_and, and_true, and_false, and_self, Nat.reduceEqDiff, Nat.succ_ne_zero, reduceCtorEq, nI_lit, nI_lit0, Nat.reduceLT]; done) | (exfalso; simp_all only [↓reduceIte, Nat.add_zero, or_true, true_or, not_true_eq_false, not_false_eq_true, or_false, false_or, wI_get, false_and, true_and, and_true, and_false, and_self, Nat.reduceEqDiff, Nat.succ_ne_zero, reduceCtorEq, nI_lit, nI_lit0, Nat.reduceLT]; done)
  · refine xi_iconstm (pc' := 31) rfl rfl ?_
    refine xx_ireturn rfl rfl ?_
    simp only [ex_P, Classical.not_not, ↓reduceIte, Nat.add_zero, or_true, true_or, not_true_eq_false, not_false_eq_true, or_false, false_or, wI_get, false_and, true_and, and_true, and_false, and_self, Nat.reduceEqDiff, Nat.succ_ne_zero, reduceCtorEq, nI_lit, nI_lit0, Nat.reduceLT] at *
    first | (simp only [ix_0, *, ↓reduceIte, Nat.add_zero, or_true, true_or, not_true_eq_false, not_false_eq_true, or_false, false_or, wI_get, false_and, true_and, and_true, and_false, and_self, Nat.reduceEqDiff, Nat.succ_ne_zero, reduceCtorEq, nI_lit, nI_lit0, Nat.reduceLT]; done) | (exfalso; simp_all only [↓reduceIte, Nat.add_zero, or_true, true_or, not_true_eq_false, not_false_eq_true, or_false, false_or, wI_get, false_and, true_and, and_true, and_false, and_self, Nat.reduceEqDiff, Nat.succ_ne_zero, reduceCtorEq, nI_lit, nI_lit0, Nat.reduceLT]; done)
theorem r_received0p {L : Nat} {xs : Nat → Int32} {D n : Nat} {I J : ex_Mem} {t s k : Int32} (hp : ¬ (vT t ∧ vS s)) : ri L xs (D + 2) 91 [.ref 52, .int t, .int s, .int k] (mkH n I J) (- nI 1) (mkH n I J) := by
  show xx cb_G _ _ _ 91 0 [.ref 52, .int t, .int s, .int k] [] _ _
  refine xi_iload_n (pc' := 1) rfl rfl rfl ?_
  refine xi_iload_n (pc' := 2) rfl rfl rfl ?_
  refine xx_callSi (pc' := 5) rfl rfl (by decide) rfl (Nat.le_of_ble_eq_true rfl) rfl rfl (r_isPlace0 (D := D) hp) ?_
  refine xi_ift (pc' := 30) rfl rfl (by decide) ?_
  refine xi_iconstm (pc' := 31) rfl rfl ?_
  refine xx_ireturn rfl rfl ?_
  exact ⟨rfl, rfl⟩
theorem r_received0k {L : Nat} {xs : Nat → Int32} {D n : Nat} {I J : ex_Mem} {t s k : Int32} (hp : vT t ∧ vS s) (hk : ¬ vK k) : ri L xs (D + 2) 91 [.ref 52, .int t, .int s, .int k] (mkH n I J) (- nI 1) (mkH n I J) := by
  show xx cb_G _ _ _ 91 0 [.ref 52, .int t, .int s, .int k] [] _ _
  refine xi_iload_n (pc' := 1) rfl rfl rfl ?_
  refine xi_iload_n (pc' := 2) rfl rfl rfl ?_
  refine xx_callSi (pc' := 5) rfl rfl (by decide) rfl (Nat.le_of_ble_eq_true rfl) rfl rfl (r_isPlace1 (D := D) hp.1 hp.2) ?_
  refine xi_iff (pc' := 8) (tg := 30) rfl rfl (by decide) rfl ?_
  refine xi_iload_n (pc' := 9) rfl rfl rfl ?_
  refine xx_callSi (pc' := 12) rfl rfl (by decide) rfl (Nat.le_of_ble_eq_true rfl) rfl rfl (r_isIndex0 hk) ?_
  refine xi_ift (pc' := 30) rfl rfl (by decide) ?_
  refine xi_iconstm (pc' := 31) rfl rfl ?_
  refine xx_ireturn rfl rfl ?_
  exact ⟨rfl, rfl⟩
theorem r_terminal_0 {L : Nat} {xs : Nat → Int32} {D n : Nat} {I J : ex_Mem} {t : Nat} (ht : t < 6) : ri L xs (D + 1) 92 [.ref 52, .int (nI t), .int (nI 0)] (mkH n I J) (r_st J t) (mkH n I J) := by
  show xx cb_G _ _ _ 92 0 [.ref 52, .int (nI t), .int (nI 0)] [] _ _
  refine xi_iload_n (pc' := 1) rfl rfl rfl ?_
  refine xx_callSi (pc' := 4) rfl rfl (by decide) rfl (Nat.le_of_ble_eq_true rfl) rfl rfl (r_isTerminal1 (vT_n ht)) ?_
  refine xi_ift (pc' := 9) rfl rfl (by decide) ?_
  refine xi_iload_n (pc' := 10) rfl rfl rfl ?_
  refine xi_switch (off := .ofNat 42) (pc' := 52) rfl (by decide) (by decide) rfl ?_
  refine xi_aload_n (pc' := 53) rfl rfl rfl ?_
  refine xi_iload_n (pc' := 54) rfl rfl rfl ?_
  refine xx_callVi (pc' := 57) rfl rfl (by decide) rfl rfl (by show _ < 81 + 2 * _; omega) (Nat.le_of_ble_eq_true rfl) rfl rfl (r_statusOf ht) ?_
  refine xx_ireturn rfl rfl ?_
  exact ⟨rfl, rfl⟩
theorem r_terminal_1 {L : Nat} {xs : Nat → Int32} {D n : Nat} {I J : ex_Mem} {t : Nat} (ht : t < 6) : ri L xs (D + 1) 92 [.ref 52, .int (nI t), .int (nI 1)] (mkH n I J) (J 64 t) (mkH n I J) := by
  show xx cb_G _ _ _ 92 0 [.ref 52, .int (nI t), .int (nI 1)] [] _ _
  refine xi_iload_n (pc' := 1) rfl rfl rfl ?_
  refine xx_callSi (pc' := 4) rfl rfl (by decide) rfl (Nat.le_of_ble_eq_true rfl) rfl rfl (r_isTerminal1 (vT_n ht)) ?_
  refine xi_ift (pc' := 9) rfl rfl (by decide) ?_
  refine xi_iload_n (pc' := 10) rfl rfl rfl ?_
  refine xi_switch (off := .ofNat 48) (pc' := 58) rfl (by decide) (by decide) rfl ?_
  refine xi_aload_n (pc' := 59) rfl rfl rfl ?_
  refine xr_getp (pc' := 62) rfl rfl (by decide) rfl rfl rfl ?_
  refine xi_iload_n (pc' := 63) rfl rfl rfl ?_
  refine xr_iald (j := t) (pc' := 64) rfl rfl (by decide) (by first | rfl | (simp only [ix_add, ix_mul, ix_pred]; done) | (simp only [ix_add, ix_mul, ix_pred, *]; done)) (by omega) (by decide) rfl ?_
  refine xx_ireturn rfl rfl ?_
  exact ⟨rfl, rfl⟩
theorem r_terminal_2 {L : Nat} {xs : Nat → Int32} {D n : Nat} {I J : ex_Mem} {t : Nat} (ht : t < 6) : ri L xs (D + 1) 92 [.ref 52, .int (nI t), .int (nI 2)] (mkH n I J) (J 65 t) (mkH n I J) := by
  show xx cb_G _ _ _ 92 0 [.ref 52, .int (nI t), .int (nI 2)] [] _ _
  refine xi_iload_n (pc' := 1) rfl rfl rfl ?_
  refine xx_callSi (pc' := 4) rfl rfl (by decide) rfl (Nat.le_of_ble_eq_true rfl) rfl rfl (r_isTerminal1 (vT_n ht)) ?_
  refine xi_ift (pc' := 9) rfl rfl (by decide) ?_
  refine xi_iload_n (pc' := 10) rfl rfl rfl ?_
  refine xi_switch (off := .ofNat 55) (pc' := 65) rfl (by decide) (by decide) rfl ?_
  refine xi_aload_n (pc' := 66) rfl rfl rfl ?_
  refine xr_getp (pc' := 69) rfl rfl (by decide) rfl rfl rfl ?_
  refine xi_iload_n (pc' := 70) rfl rfl rfl ?_
  refine xr_iald (j := t) (pc' := 71) rfl rfl (by decide) (by first | rfl | (simp only [ix_add, ix_mul, ix_pred]; done) | (simp only [ix_add, ix_mul, ix_pred, *]; done)) (by omega) (by decide) rfl ?_
  refine xx_ireturn rfl rfl ?_
  exact ⟨rfl, rfl⟩
theorem r_terminal_3 {L : Nat} {xs : Nat → Int32} {D n : Nat} {I J : ex_Mem} {t : Nat} (ht : t < 6) : ri L xs (D + 1) 92 [.ref 52, .int (nI t), .int (nI 3)] (mkH n I J) (if J 66 (2 * t) = 0 then nI 0 else nI 1) (mkH n I J) := by
  show xx cb_G _ _ _ 92 0 [.ref 52, .int (nI t), .int (nI 3)] [] _ _
  refine xi_iload_n (pc' := 1) rfl rfl rfl ?_
  refine xx_callSi (pc' := 4) rfl rfl (by decide) rfl (Nat.le_of_ble_eq_true rfl) rfl rfl (r_isTerminal1 (vT_n ht)) ?_
  refine xi_ift (pc' := 9) rfl rfl (by decide) ?_
  refine xi_iload_n (pc' := 10) rfl rfl rfl ?_
  refine xi_switch (off := .ofNat 62) (pc' := 72) rfl (by decide) (by decide) rfl ?_
  refine xi_aload_n (pc' := 73) rfl rfl rfl ?_
  refine xr_getp (pc' := 76) rfl rfl (by decide) rfl rfl rfl ?_
  refine xi_iconst (pc' := 77) rfl rfl ?_
  refine xi_iload_n (pc' := 78) rfl rfl rfl ?_
  refine xi_imul (pc' := 79) rfl rfl ?_
  refine xr_zald (j := (2) * (t)) (pc' := 80) rfl rfl (by decide) (by first | rfl | (simp only [ix_add, ix_mul, ix_pred]; done) | (simp only [ix_add, ix_mul, ix_pred, *]; done)) (by omega) (by decide) rfl ?_
  refine xx_if (pc' := 83) (tg := 87) rfl rfl rfl (fun q80 => ?_) (fun q80 => ?_)
  · refine xi_iconst (pc' := 88) rfl rfl ?_
    refine xx_ireturn rfl rfl ?_
    simp only [ex_P, Classical.not_not, ↓reduceIte, Nat.add_zero, or_true, true_or, not_true_eq_false, not_false_eq_true, or_false, false_or, wI_get, false_and, true_and, and_true, and_false, and_self, Nat.reduceEqDiff, Nat.succ_ne_zero, reduceCtorEq, nI_lit, nI_lit0, Nat.reduceLT] at *
    first | (simp only [ix_0, *, ↓reduceIte, Nat.add_zero, or_true, true_or, not_true_eq_false, not_false_eq_true, or_false, false_or, wI_get, false_and, true_and, and_true, and_false, and_self, Nat.reduceEqDiff, Nat.succ_ne_zero, reduceCtorEq, nI_lit, nI_lit0, Nat.reduceLT]; done) | (exfalso; simp_all only [↓reduceIte, Nat.add_zero, or_true, true_or, not_true_eq_false, not_false_eq_true, or_false, false_or, wI_get, false_and, true_and, and_true, and_false, and_self, Nat.reduceEqDiff, Nat.succ_ne_zero, reduceCtorEq, nI_lit, nI_lit0, Nat.reduceLT]; done)
  · refine xi_iconst (pc' := 84) rfl rfl ?_
    refine xi_goto (pc' := 88) rfl rfl ?_
    refine xx_ireturn rfl rfl ?_
    simp only [ex_P, Classical.not_not, ↓reduceIte, Nat.add_zero, or_true, true_or, not_true_eq_false, not_false_eq_true, or_false, false_or, wI_get, false_and, true_and, and_true, and_false, and_self, Nat.reduceEqDiff, Nat.succ_ne_zero, reduceCtorEq, nI_lit, nI_lit0, Nat.reduceLT] at *
    first | (simp only [ix_0, *, ↓reduceIte, Nat.add_zero, or_true, true_or, not_true_eq_false, not_false_eq_true, or_false, false_or, wI_get, false_and, true_and, and_true, and_false, and_self, Nat.reduceEqDiff, Nat.succ_ne_zero, reduceCtorEq, nI_lit, nI_lit0, Nat.reduceLT]; done) | (exfalso; simp_all only [↓reduceIte, Nat.add_zero, or_true, true_or, not_true_eq_false, not_false_eq_true, or_false, false_or, wI_get, false_and, true_and, and_true, and_false, and_self, Nat.reduceEqDiff, Nat.succ_ne_zero, reduceCtorEq, nI_lit, nI_lit0, Nat.reduceLT]; done)
theorem r_terminal_4 {L : Nat} {xs : Nat → Int32} {D n : Nat} {I J : ex_Mem} {t : Nat} (ht : t < 6) : ri L xs (D + 1) 92 [.ref 52, .int (nI t), .int (nI 4)] (mkH n I J) (if J 66 (2 * t + 1) = 0 then nI 0 else nI 1) (mkH n I J) := by
  show xx cb_G _ _ _ 92 0 [.ref 52, .int (nI t), .int (nI 4)] [] _ _
  refine xi_iload_n (pc' := 1) rfl rfl rfl ?_
  refine xx_callSi (pc' := 4) rfl rfl (by decide) rfl (Nat.le_of_ble_eq_true rfl) rfl rfl (r_isTerminal1 (vT_n ht)) ?_
  refine xi_ift (pc' := 9) rfl rfl (by decide) ?_
  refine xi_iload_n (pc' := 10) rfl rfl rfl ?_
  refine xi_switch (off := .ofNat 79) (pc' := 89) rfl (by decide) (by decide) rfl ?_
  refine xi_aload_n (pc' := 90) rfl rfl rfl ?_
  refine xr_getp (pc' := 93) rfl rfl (by decide) rfl rfl rfl ?_
  refine xi_iconst (pc' := 94) rfl rfl ?_
  refine xi_iload_n (pc' := 95) rfl rfl rfl ?_
  refine xi_imul (pc' := 96) rfl rfl ?_
  refine xi_iconst (pc' := 97) rfl rfl ?_
  refine xi_iadd (pc' := 98) rfl rfl ?_
  refine xr_zald (j := (2) * (t) + 1) (pc' := 99) rfl rfl (by decide) (by first | rfl | (simp only [ix_add, ix_mul, ix_pred]; done) | (simp only [ix_add, ix_mul, ix_pred, *]; done)) (by omega) (by decide) rfl ?_
  refine xx_if (pc' := 102) (tg := 106) rfl rfl rfl (fun q99 => ?_) (fun q99 => ?_)
  · refine xi_iconst (pc' := 107) rfl rfl ?_
    refine xx_ireturn rfl rfl ?_
    simp only [ex_P, Classical.not_not, ↓reduceIte, Nat.add_zero, or_true, true_or, not_true_eq_false, not_false_eq_true, or_false, false_or, wI_get, false_and, true_and, and_true, and_false, and_self, Nat.reduceEqDiff, Nat.succ_ne_zero, reduceCtorEq, nI_lit, nI_lit0, Nat.reduceLT] at *
    first | (simp only [ix_0, *, ↓reduceIte, Nat.add_zero, or_true, true_or, not_true_eq_false, not_false_eq_true, or_false, false_or, wI_get, false_and, true_and, and_true, and_false, and_self, Nat.reduceEqDiff, Nat.succ_ne_zero, reduceCtorEq, nI_lit, nI_lit0, Nat.reduceLT]; done) | (exfalso; simp_all only [↓reduceIte, Nat.add_zero, or_true, true_or, not_true_eq_false, not_false_eq_true, or_false, false_or, wI_get, false_and, true_and, and_true, and_false, and_self, Nat.reduceEqDiff, Nat.succ_ne_zero, reduceCtorEq, nI_lit, nI_lit0, Nat.reduceLT]; done)
  · refine xi_iconst (pc' := 103) rfl rfl ?_
    refine xi_goto (pc' := 107) rfl rfl ?_
    refine xx_ireturn rfl rfl ?_
    simp only [ex_P, Classical.not_not, ↓reduceIte, Nat.add_zero, or_true, true_or, not_true_eq_false, not_false_eq_true, or_false, false_or, wI_get, false_and, true_and, and_true, and_false, and_self, Nat.reduceEqDiff, Nat.succ_ne_zero, reduceCtorEq, nI_lit, nI_lit0, Nat.reduceLT] at *
    first | (simp only [ix_0, *, ↓reduceIte, Nat.add_zero, or_true, true_or, not_true_eq_false, not_false_eq_true, or_false, false_or, wI_get, false_and, true_and, and_true, and_false, and_self, Nat.reduceEqDiff, Nat.succ_ne_zero, reduceCtorEq, nI_lit, nI_lit0, Nat.reduceLT]; done) | (exfalso; simp_all only [↓reduceIte, Nat.add_zero, or_true, true_or, not_true_eq_false, not_false_eq_true, or_false, false_or, wI_get, false_and, true_and, and_true, and_false, and_self, Nat.reduceEqDiff, Nat.succ_ne_zero, reduceCtorEq, nI_lit, nI_lit0, Nat.reduceLT]; done)
theorem r_terminal_5 {L : Nat} {xs : Nat → Int32} {D n : Nat} {I J : ex_Mem} {t : Nat} (ht : t < 6) : ri L xs (D + 1) 92 [.ref 52, .int (nI t), .int (nI 5)] (mkH n I J) (J 67 t) (mkH n I J) := by
  show xx cb_G _ _ _ 92 0 [.ref 52, .int (nI t), .int (nI 5)] [] _ _
  refine xi_iload_n (pc' := 1) rfl rfl rfl ?_
  refine xx_callSi (pc' := 4) rfl rfl (by decide) rfl (Nat.le_of_ble_eq_true rfl) rfl rfl (r_isTerminal1 (vT_n ht)) ?_
  refine xi_ift (pc' := 9) rfl rfl (by decide) ?_
  refine xi_iload_n (pc' := 10) rfl rfl rfl ?_
  refine xi_switch (off := .ofNat 98) (pc' := 108) rfl (by decide) (by decide) rfl ?_
  refine xi_aload_n (pc' := 109) rfl rfl rfl ?_
  refine xr_getp (pc' := 112) rfl rfl (by decide) rfl rfl rfl ?_
  refine xi_iload_n (pc' := 113) rfl rfl rfl ?_
  refine xr_iald (j := t) (pc' := 114) rfl rfl (by decide) (by first | rfl | (simp only [ix_add, ix_mul, ix_pred]; done) | (simp only [ix_add, ix_mul, ix_pred, *]; done)) (by omega) (by decide) rfl ?_
  refine xx_ireturn rfl rfl ?_
  exact ⟨rfl, rfl⟩
theorem r_terminal_6 {L : Nat} {xs : Nat → Int32} {D n : Nat} {I J : ex_Mem} {t : Nat} (ht : t < 6) : ri L xs (D + 1) 92 [.ref 52, .int (nI t), .int (nI 6)] (mkH n I J) (if J 68 t = 0 then nI 0 else nI 1) (mkH n I J) := by
  show xx cb_G _ _ _ 92 0 [.ref 52, .int (nI t), .int (nI 6)] [] _ _
  refine xi_iload_n (pc' := 1) rfl rfl rfl ?_
  refine xx_callSi (pc' := 4) rfl rfl (by decide) rfl (Nat.le_of_ble_eq_true rfl) rfl rfl (r_isTerminal1 (vT_n ht)) ?_
  refine xi_ift (pc' := 9) rfl rfl (by decide) ?_
  refine xi_iload_n (pc' := 10) rfl rfl rfl ?_
  refine xi_switch (off := .ofNat 105) (pc' := 115) rfl (by decide) (by decide) rfl ?_
  refine xi_aload_n (pc' := 116) rfl rfl rfl ?_
  refine xr_getp (pc' := 119) rfl rfl (by decide) rfl rfl rfl ?_
  refine xi_iload_n (pc' := 120) rfl rfl rfl ?_
  refine xr_zald (j := t) (pc' := 121) rfl rfl (by decide) (by first | rfl | (simp only [ix_add, ix_mul, ix_pred]; done) | (simp only [ix_add, ix_mul, ix_pred, *]; done)) (by omega) (by decide) rfl ?_
  refine xx_if (pc' := 124) (tg := 128) rfl rfl rfl (fun q121 => ?_) (fun q121 => ?_)
  · refine xi_iconst (pc' := 129) rfl rfl ?_
    refine xx_ireturn rfl rfl ?_
    simp only [ex_P, Classical.not_not, ↓reduceIte, Nat.add_zero, or_true, true_or, not_true_eq_false, not_false_eq_true, or_false, false_or, wI_get, false_and, true_and, and_true, and_false, and_self, Nat.reduceEqDiff, Nat.succ_ne_zero, reduceCtorEq, nI_lit, nI_lit0, Nat.reduceLT] at *
    first | (simp only [ix_0, *, ↓reduceIte, Nat.add_zero, or_true, true_or, not_true_eq_false, not_false_eq_true, or_false, false_or, wI_get, false_and, true_and, and_true, and_false, and_self, Nat.reduceEqDiff, Nat.succ_ne_zero, reduceCtorEq, nI_lit, nI_lit0, Nat.reduceLT]; done) | (exfalso; simp_all only [↓reduceIte, Nat.add_zero, or_true, true_or, not_true_eq_false, not_false_eq_true, or_false, false_or, wI_get, false_and, true_and, and_true, and_false, and_self, Nat.reduceEqDiff, Nat.succ_ne_zero, reduceCtorEq, nI_lit, nI_lit0, Nat.reduceLT]; done)
  · refine xi_iconst (pc' := 125) rfl rfl ?_
    refine xi_goto (pc' := 129) rfl rfl ?_
    refine xx_ireturn rfl rfl ?_
    simp only [ex_P, Classical.not_not, ↓reduceIte, Nat.add_zero, or_true, true_or, not_true_eq_false, not_false_eq_true, or_false, false_or, wI_get, false_and, true_and, and_true, and_false, and_self, Nat.reduceEqDiff, Nat.succ_ne_zero, reduceCtorEq, nI_lit, nI_lit0, Nat.reduceLT] at *
    first | (simp only [ix_0, *, ↓reduceIte, Nat.add_zero, or_true, true_or, not_true_eq_false, not_false_eq_true, or_false, false_or, wI_get, false_and, true_and, and_true, and_false, and_self, Nat.reduceEqDiff, Nat.succ_ne_zero, reduceCtorEq, nI_lit, nI_lit0, Nat.reduceLT]; done) | (exfalso; simp_all only [↓reduceIte, Nat.add_zero, or_true, true_or, not_true_eq_false, not_false_eq_true, or_false, false_or, wI_get, false_and, true_and, and_true, and_false, and_self, Nat.reduceEqDiff, Nat.succ_ne_zero, reduceCtorEq, nI_lit, nI_lit0, Nat.reduceLT]; done)
theorem r_terminal_d {L : Nat} {xs : Nat → Int32} {D n : Nat} {I J : ex_Mem} {t : Nat} {w : Int32} (ht : t < 6) (hw : w.toInt < 0 ∨ 6 < w.toInt) : ri L xs (D + 1) 92 [.ref 52, .int (nI t), .int w] (mkH n I J) (- nI 1) (mkH n I J) := by
  show xx cb_G _ _ _ 92 0 [.ref 52, .int (nI t), .int w] [] _ _
  refine xi_iload_n (pc' := 1) rfl rfl rfl ?_
  refine xx_callSi (pc' := 4) rfl rfl (by decide) rfl (Nat.le_of_ble_eq_true rfl) rfl rfl (r_isTerminal1 (vT_n ht)) ?_
  refine xi_ift (pc' := 9) rfl rfl (by decide) ?_
  refine xi_iload_n (pc' := 10) rfl rfl rfl ?_
  refine xi_switchD (pc' := 130) rfl (hw) rfl ?_
  refine xi_iconstm (pc' := 131) rfl rfl ?_
  refine xx_ireturn rfl rfl ?_
  exact ⟨rfl, rfl⟩
theorem r_terminal_x {L : Nat} {xs : Nat → Int32} {D n : Nat} {I J : ex_Mem} {t w : Int32} (ht : ¬ vT t) : ri L xs (D + 1) 92 [.ref 52, .int t, .int w] (mkH n I J) (- nI 1) (mkH n I J) := by
  show xx cb_G _ _ _ 92 0 [.ref 52, .int t, .int w] [] _ _
  refine xi_iload_n (pc' := 1) rfl rfl rfl ?_
  refine xx_callSi (pc' := 4) rfl rfl (by decide) rfl (Nat.le_of_ble_eq_true rfl) rfl rfl (r_isTerminal0 ht) ?_
  refine xi_iff (pc' := 7) (tg := 9) rfl rfl (by decide) rfl ?_
  refine xi_iconstm (pc' := 8) rfl rfl ?_
  refine xx_ireturn rfl rfl ?_
  exact ⟨rfl, rfl⟩
theorem r_bus_ok {L : Nat} {xs : Nat → Int32} {D n : Nat} {I J : ex_Mem}  : ri L xs D 126 [.ref 52] (mkH n I J) (J 52 30) (mkH n I J) := by
  show xx cb_G _ _ _ 126 0 [.ref 52] [] _ _
  refine xi_aload_n (pc' := 1) rfl rfl rfl ?_
  refine xr_geti (pc' := 4) rfl rfl (by decide) (by decide) rfl ?_
  refine xx_ireturn rfl rfl ?_
  exact ⟨rfl, rfl⟩
theorem r_words_ok {L : Nat} {xs : Nat → Int32} {D n : Nat} {I J : ex_Mem}  : ri L xs D 127 [.ref 52] (mkH n I J) (J 52 3) (mkH n I J) := by
  show xx cb_G _ _ _ 127 0 [.ref 52] [] _ _
  refine xi_aload_n (pc' := 1) rfl rfl rfl ?_
  refine xr_geti (pc' := 4) rfl rfl (by decide) (by decide) rfl ?_
  refine xx_ireturn rfl rfl ?_
  exact ⟨rfl, rfl⟩
theorem r_open_ok {L : Nat} {xs : Nat → Int32} {D n : Nat} {I J : ex_Mem} (hz : ex_b01 (J 52 27) = true) : ri L xs D 104 [.ref 52] (mkH n I J) (J 52 27) (mkH n I (ex_wI J 52 27 (nI 0))) := by
  show xx cb_G _ _ _ 104 0 [.ref 52, ex_no] [] _ _
  refine xi_aload_n (pc' := 1) rfl rfl rfl ?_
  refine xr_geti (pc' := 4) rfl rfl (by decide) (by decide) rfl ?_
  refine xi_istore_n (pc' := 5) rfl (st1_1 rfl) rfl ?_
  refine xi_aload_n (pc' := 6) rfl rfl rfl ?_
  refine xi_iconst (pc' := 7) rfl rfl ?_
  refine xr_puti (z := 0) (pc' := 10) rfl rfl (by decide) (Or.inr ⟨rfl, by decide⟩) rfl ?_
  refine xi_iload_n (pc' := 11) rfl rfl rfl ?_
  refine xx_zreturn rfl rfl (hz) ?_
  exact ⟨rfl, rfl⟩
theorem r_isMessage1 {L : Nat} {xs : Nat → Int32} {D n : Nat} {I J : ex_Mem} {m nm : Nat} (hnm : J 52 17 = nI nm) (h8 : nm ≤ 8) (hm : m < nm) : ri L xs D 97 [.ref 52, .int (nI m)] (mkH n I J) (nI 1) (mkH n I J) := by
  show xx cb_G _ _ _ 97 0 [.ref 52, .int (nI m)] [] _ _
  refine xi_iload_n (pc' := 1) rfl rfl rfl ?_
  refine xx_if (pc' := 4) (tg := 16) rfl rfl rfl (fun q1 => absurd q1 (show ¬ ex_P .lt (nI m) 0 from nI_pos (by omega))) (fun q1 => ?_)
  refine xi_iload_n (pc' := 5) rfl rfl rfl ?_
  refine xi_aload_n (pc' := 6) rfl rfl rfl ?_
  refine xr_getiv (v := nI (nm)) (pc' := 9) rfl rfl (by decide) (by decide) (hnm) rfl ?_
  refine xx_icmp (pc' := 12) (tg := 16) rfl rfl rfl (fun q9 => absurd q9 (show ¬ ex_P .ge (nI m) (nI nm) from nI_ge (by omega) (by omega))) (fun q9 => ?_)
  refine xi_iconst (pc' := 13) rfl rfl ?_
  refine xi_goto (pc' := 17) rfl rfl ?_
  refine xx_zreturn rfl rfl (by first | rfl | assumption | exact b01_bI | simp [ex_b01, bI]) ?_
  exact ⟨rfl, rfl⟩
def vM (nm : Nat) (m : Int32) : Prop := 0 ≤ m ∧ m < nI nm
theorem r_isMessage0 {L : Nat} {xs : Nat → Int32} {D n : Nat} {I J : ex_Mem} {m : Int32} {nm : Nat} (hnm : J 52 17 = nI nm) (hm : ¬ vM nm m) : ri L xs D 97 [.ref 52, .int m] (mkH n I J) (nI 0) (mkH n I J) := by
  show xx cb_G _ _ _ 97 0 [.ref 52, .int m] [] _ _
  refine xi_iload_n (pc' := 1) rfl rfl rfl ?_
  refine xx_if (pc' := 4) (tg := 16) rfl rfl rfl (fun q1 => ?_) (fun q1 => ?_)
  · refine xi_iconst (pc' := 17) rfl rfl ?_
    refine xx_zreturn rfl rfl (by first | rfl | assumption | exact b01_bI | simp [ex_b01, bI]) ?_
    first | exact ⟨rfl, rfl⟩ | exact absurd ⟨Int32.not_lt.mp q1, Int32.not_le.mp q9⟩ hm
  · refine xi_iload_n (pc' := 5) rfl rfl rfl ?_
    refine xi_aload_n (pc' := 6) rfl rfl rfl ?_
    refine xr_getiv (v := nI (nm)) (pc' := 9) rfl rfl (by decide) (by decide) (hnm) rfl ?_
    refine xx_icmp (pc' := 12) (tg := 16) rfl rfl rfl (fun q9 => ?_) (fun q9 => ?_)
    · refine xi_iconst (pc' := 17) rfl rfl ?_
      refine xx_zreturn rfl rfl (by first | rfl | assumption | exact b01_bI | simp [ex_b01, bI]) ?_
      first | exact ⟨rfl, rfl⟩ | exact absurd ⟨Int32.not_lt.mp q1, Int32.not_le.mp q9⟩ hm
    · refine xi_iconst (pc' := 13) rfl rfl ?_
      refine xi_goto (pc' := 17) rfl rfl ?_
      refine xx_zreturn rfl rfl (by first | rfl | assumption | exact b01_bI | simp [ex_b01, bI]) ?_
      first | exact ⟨rfl, rfl⟩ | exact absurd ⟨Int32.not_lt.mp q1, Int32.not_le.mp q9⟩ hm
theorem r_give1 {L : Nat} {xs : Nat → Int32} {D n : Nat} {I J : ex_Mem} {m nm : Nat} (hnm : J 52 17 = nI nm) (h8 : nm ≤ 8) (hm : m < nm) {k : Nat} {v : Int32} (hk : k < 4) (hv : vV v) : ri L xs (D + 1) 96 [.ref 52, .int (nI m), .int (nI k), .int v] (mkH n I J) (nI 1) (mkH n I (ex_wI J 76 (4 * m + k) v)) := by
  show xx cb_G _ _ _ 96 0 [.ref 52, .int (nI m), .int (nI k), .int v] [] _ _
  refine xi_aload_n (pc' := 1) rfl rfl rfl ?_
  refine xi_iload_n (pc' := 2) rfl rfl rfl ?_
  refine xx_callVi (pc' := 5) rfl rfl (by decide) rfl rfl (by show _ < 81 + 2 * _; omega) (Nat.le_of_ble_eq_true rfl) rfl rfl (r_isMessage1 (D := D) hnm h8 hm) ?_
  refine xi_iff (pc' := 8) (tg := 22) rfl rfl (by decide) rfl ?_
  refine xi_iload_n (pc' := 9) rfl rfl rfl ?_
  refine xx_callSi (pc' := 12) rfl rfl (by decide) rfl (Nat.le_of_ble_eq_true rfl) rfl rfl (r_isIndex1 (vK_n hk)) ?_
  refine xi_iff (pc' := 15) (tg := 22) rfl rfl (by decide) rfl ?_
  refine xi_iload_n (pc' := 16) rfl rfl rfl ?_
  refine xx_callSi (pc' := 19) rfl rfl (by decide) rfl (Nat.le_of_ble_eq_true rfl) rfl rfl (r_isValue1 hv) ?_
  refine xi_ift (pc' := 24) rfl rfl (by decide) ?_
  refine xi_aload_n (pc' := 25) rfl rfl rfl ?_
  refine xr_getp (pc' := 28) rfl rfl (by decide) rfl rfl rfl ?_
  refine xi_iconst (pc' := 29) rfl rfl ?_
  refine xi_iload_n (pc' := 30) rfl rfl rfl ?_
  refine xi_imul (pc' := 31) rfl rfl ?_
  refine xi_iload_n (pc' := 32) rfl rfl rfl ?_
  refine xi_iadd (pc' := 33) rfl rfl ?_
  refine xi_iload_n (pc' := 34) rfl rfl rfl ?_
  refine xr_iast (j := (4) * (m) + k) (pc' := 35) rfl rfl (by decide) (by first | rfl | (simp only [ix_add, ix_mul, ix_pred]; done) | (simp only [ix_add, ix_mul, ix_pred, *]; done)) (by omega) (by decide) rfl ?_
  refine xi_iconst (pc' := 36) rfl rfl ?_
  refine xx_zreturn rfl rfl (by first | rfl | assumption | exact b01_bI | simp [ex_b01, bI]) ?_
  exact ⟨rfl, rfl⟩
theorem r_give0m {L : Nat} {xs : Nat → Int32} {D n : Nat} {I J : ex_Mem} {m : Int32} {nm : Nat} (hnm : J 52 17 = nI nm) (hm : ¬ vM nm m) {k v : Int32} : ri L xs (D + 1) 96 [.ref 52, .int m, .int k, .int v] (mkH n I J) (nI 0) (mkH n I J) := by
  show xx cb_G _ _ _ 96 0 [.ref 52, .int m, .int k, .int v] [] _ _
  refine xi_aload_n (pc' := 1) rfl rfl rfl ?_
  refine xi_iload_n (pc' := 2) rfl rfl rfl ?_
  refine xx_callVi (pc' := 5) rfl rfl (by decide) rfl rfl (by show _ < 81 + 2 * _; omega) (Nat.le_of_ble_eq_true rfl) rfl rfl (r_isMessage0 (D := D) hnm hm) ?_
  refine xi_ift (pc' := 22) rfl rfl (by decide) ?_
  refine xi_iconst (pc' := 23) rfl rfl ?_
  refine xx_zreturn rfl rfl (by first | rfl | assumption | exact b01_bI | simp [ex_b01, bI]) ?_
  exact ⟨rfl, rfl⟩
theorem r_give0k {L : Nat} {xs : Nat → Int32} {D n : Nat} {I J : ex_Mem} {m nm : Nat} (hnm : J 52 17 = nI nm) (h8 : nm ≤ 8) (hm : m < nm) {k v : Int32} (hk : ¬ vK k) : ri L xs (D + 1) 96 [.ref 52, .int (nI m), .int k, .int v] (mkH n I J) (nI 0) (mkH n I J) := by
  show xx cb_G _ _ _ 96 0 [.ref 52, .int (nI m), .int k, .int v] [] _ _
  refine xi_aload_n (pc' := 1) rfl rfl rfl ?_
  refine xi_iload_n (pc' := 2) rfl rfl rfl ?_
  refine xx_callVi (pc' := 5) rfl rfl (by decide) rfl rfl (by show _ < 81 + 2 * _; omega) (Nat.le_of_ble_eq_true rfl) rfl rfl (r_isMessage1 (D := D) hnm h8 hm) ?_
  refine xi_iff (pc' := 8) (tg := 22) rfl rfl (by decide) rfl ?_
  refine xi_iload_n (pc' := 9) rfl rfl rfl ?_
  refine xx_callSi (pc' := 12) rfl rfl (by decide) rfl (Nat.le_of_ble_eq_true rfl) rfl rfl (r_isIndex0 hk) ?_
  refine xi_ift (pc' := 22) rfl rfl (by decide) ?_
  refine xi_iconst (pc' := 23) rfl rfl ?_
  refine xx_zreturn rfl rfl (by first | rfl | assumption | exact b01_bI | simp [ex_b01, bI]) ?_
  exact ⟨rfl, rfl⟩
theorem r_give0v {L : Nat} {xs : Nat → Int32} {D n : Nat} {I J : ex_Mem} {m nm : Nat} (hnm : J 52 17 = nI nm) (h8 : nm ≤ 8) (hm : m < nm) {k v : Int32} (hk : vK k) (hv : ¬ vV v) : ri L xs (D + 1) 96 [.ref 52, .int (nI m), .int k, .int v] (mkH n I J) (nI 0) (mkH n I J) := by
  show xx cb_G _ _ _ 96 0 [.ref 52, .int (nI m), .int k, .int v] [] _ _
  refine xi_aload_n (pc' := 1) rfl rfl rfl ?_
  refine xi_iload_n (pc' := 2) rfl rfl rfl ?_
  refine xx_callVi (pc' := 5) rfl rfl (by decide) rfl rfl (by show _ < 81 + 2 * _; omega) (Nat.le_of_ble_eq_true rfl) rfl rfl (r_isMessage1 (D := D) hnm h8 hm) ?_
  refine xi_iff (pc' := 8) (tg := 22) rfl rfl (by decide) rfl ?_
  refine xi_iload_n (pc' := 9) rfl rfl rfl ?_
  refine xx_callSi (pc' := 12) rfl rfl (by decide) rfl (Nat.le_of_ble_eq_true rfl) rfl rfl (r_isIndex1 hk) ?_
  refine xi_iff (pc' := 15) (tg := 22) rfl rfl (by decide) rfl ?_
  refine xi_iload_n (pc' := 16) rfl rfl rfl ?_
  refine xx_callSi (pc' := 19) rfl rfl (by decide) rfl (Nat.le_of_ble_eq_true rfl) rfl rfl (r_isValue0 hv) ?_
  refine xi_iff (pc' := 22) (tg := 24) rfl rfl (by decide) rfl ?_
  refine xi_iconst (pc' := 23) rfl rfl ?_
  refine xx_zreturn rfl rfl (by first | rfl | assumption | exact b01_bI | simp [ex_b01, bI]) ?_
  exact ⟨rfl, rfl⟩
theorem r_taken1 {L : Nat} {xs : Nat → Int32} {D n : Nat} {I J : ex_Mem} {m nm : Nat} (hnm : J 52 17 = nI nm) (h8 : nm ≤ 8) (hm : m < nm) {k : Nat} (hk : k < 4) : ri L xs (D + 1) 98 [.ref 52, .int (nI m), .int (nI k)] (mkH n I J) (J 76 (4 * m + k)) (mkH n I J) := by
  show xx cb_G _ _ _ 98 0 [.ref 52, .int (nI m), .int (nI k)] [] _ _
  refine xi_aload_n (pc' := 1) rfl rfl rfl ?_
  refine xi_iload_n (pc' := 2) rfl rfl rfl ?_
  refine xx_callVi (pc' := 5) rfl rfl (by decide) rfl rfl (by show _ < 81 + 2 * _; omega) (Nat.le_of_ble_eq_true rfl) rfl rfl (r_isMessage1 (D := D) hnm h8 hm) ?_
  refine xi_iff (pc' := 8) (tg := 28) rfl rfl (by decide) rfl ?_
  refine xi_iload_n (pc' := 9) rfl rfl rfl ?_
  refine xx_callSi (pc' := 12) rfl rfl (by decide) rfl (Nat.le_of_ble_eq_true rfl) rfl rfl (r_isIndex1 (vK_n hk)) ?_
  refine xi_iff (pc' := 15) (tg := 28) rfl rfl (by decide) rfl ?_
  refine xi_aload_n (pc' := 16) rfl rfl rfl ?_
  refine xr_getp (pc' := 19) rfl rfl (by decide) rfl rfl rfl ?_
  refine xi_iconst (pc' := 20) rfl rfl ?_
  refine xi_iload_n (pc' := 21) rfl rfl rfl ?_
  refine xi_imul (pc' := 22) rfl rfl ?_
  refine xi_iload_n (pc' := 23) rfl rfl rfl ?_
  refine xi_iadd (pc' := 24) rfl rfl ?_
  refine xr_iald (j := (4) * (m) + k) (pc' := 25) rfl rfl (by decide) (by first | rfl | (simp only [ix_add, ix_mul, ix_pred]; done) | (simp only [ix_add, ix_mul, ix_pred, *]; done)) (by omega) (by decide) rfl ?_
  refine xi_goto (pc' := 29) rfl rfl ?_
  refine xx_ireturn rfl rfl ?_
  exact ⟨rfl, rfl⟩
theorem r_taken0m {L : Nat} {xs : Nat → Int32} {D n : Nat} {I J : ex_Mem} {m : Int32} {nm : Nat} (hnm : J 52 17 = nI nm) (hm : ¬ vM nm m) {k : Int32} : ri L xs (D + 1) 98 [.ref 52, .int m, .int k] (mkH n I J) (- nI 1) (mkH n I J) := by
  show xx cb_G _ _ _ 98 0 [.ref 52, .int m, .int k] [] _ _
  refine xi_aload_n (pc' := 1) rfl rfl rfl ?_
  refine xi_iload_n (pc' := 2) rfl rfl rfl ?_
  refine xx_callVi (pc' := 5) rfl rfl (by decide) rfl rfl (by show _ < 81 + 2 * _; omega) (Nat.le_of_ble_eq_true rfl) rfl rfl (r_isMessage0 (D := D) hnm hm) ?_
  refine xi_ift (pc' := 28) rfl rfl (by decide) ?_
  refine xi_iconstm (pc' := 29) rfl rfl ?_
  refine xx_ireturn rfl rfl ?_
  exact ⟨rfl, rfl⟩
theorem r_taken0k {L : Nat} {xs : Nat → Int32} {D n : Nat} {I J : ex_Mem} {m nm : Nat} (hnm : J 52 17 = nI nm) (h8 : nm ≤ 8) (hm : m < nm) {k : Int32} (hk : ¬ vK k) : ri L xs (D + 1) 98 [.ref 52, .int (nI m), .int k] (mkH n I J) (- nI 1) (mkH n I J) := by
  show xx cb_G _ _ _ 98 0 [.ref 52, .int (nI m), .int k] [] _ _
  refine xi_aload_n (pc' := 1) rfl rfl rfl ?_
  refine xi_iload_n (pc' := 2) rfl rfl rfl ?_
  refine xx_callVi (pc' := 5) rfl rfl (by decide) rfl rfl (by show _ < 81 + 2 * _; omega) (Nat.le_of_ble_eq_true rfl) rfl rfl (r_isMessage1 (D := D) hnm h8 hm) ?_
  refine xi_iff (pc' := 8) (tg := 28) rfl rfl (by decide) rfl ?_
  refine xi_iload_n (pc' := 9) rfl rfl rfl ?_
  refine xx_callSi (pc' := 12) rfl rfl (by decide) rfl (Nat.le_of_ble_eq_true rfl) rfl rfl (r_isIndex0 hk) ?_
  refine xi_ift (pc' := 28) rfl rfl (by decide) ?_
  refine xi_iconstm (pc' := 29) rfl rfl ?_
  refine xx_ireturn rfl rfl ?_
  exact ⟨rfl, rfl⟩
theorem r_outcome1 {L : Nat} {xs : Nat → Int32} {D n : Nat} {I J : ex_Mem} {m nm : Nat} (hnm : J 52 17 = nI nm) (h8 : nm ≤ 8) (hm : m < nm) : ri L xs (D + 1) 125 [.ref 52, .int (nI m)] (mkH n I J) (J 77 m) (mkH n I J) := by
  show xx cb_G _ _ _ 125 0 [.ref 52, .int (nI m)] [] _ _
  refine xi_aload_n (pc' := 1) rfl rfl rfl ?_
  refine xi_iload_n (pc' := 2) rfl rfl rfl ?_
  refine xx_callVi (pc' := 5) rfl rfl (by decide) rfl rfl (by show _ < 81 + 2 * _; omega) (Nat.le_of_ble_eq_true rfl) rfl rfl (r_isMessage1 (D := D) hnm h8 hm) ?_
  refine xi_iff (pc' := 8) (tg := 17) rfl rfl (by decide) rfl ?_
  refine xi_aload_n (pc' := 9) rfl rfl rfl ?_
  refine xr_getp (pc' := 12) rfl rfl (by decide) rfl rfl rfl ?_
  refine xi_iload_n (pc' := 13) rfl rfl rfl ?_
  refine xr_iald (j := m) (pc' := 14) rfl rfl (by decide) (by first | rfl | (simp only [ix_add, ix_mul, ix_pred]; done) | (simp only [ix_add, ix_mul, ix_pred, *]; done)) (by omega) (by decide) rfl ?_
  refine xi_goto (pc' := 18) rfl rfl ?_
  refine xx_ireturn rfl rfl ?_
  exact ⟨rfl, rfl⟩
theorem r_outcome0 {L : Nat} {xs : Nat → Int32} {D n : Nat} {I J : ex_Mem} {m : Int32} {nm : Nat} (hnm : J 52 17 = nI nm) (hm : ¬ vM nm m) : ri L xs (D + 1) 125 [.ref 52, .int m] (mkH n I J) (- nI 1) (mkH n I J) := by
  show xx cb_G _ _ _ 125 0 [.ref 52, .int m] [] _ _
  refine xi_aload_n (pc' := 1) rfl rfl rfl ?_
  refine xi_iload_n (pc' := 2) rfl rfl rfl ?_
  refine xx_callVi (pc' := 5) rfl rfl (by decide) rfl rfl (by show _ < 81 + 2 * _; omega) (Nat.le_of_ble_eq_true rfl) rfl rfl (r_isMessage0 (D := D) hnm hm) ?_
  refine xi_ift (pc' := 17) rfl rfl (by decide) ?_
  refine xi_iconstm (pc' := 18) rfl rfl ?_
  refine xx_ireturn rfl rfl ?_
  exact ⟨rfl, rfl⟩
theorem r_load1 {L : Nat} {xs : Nat → Int32} {D n : Nat} {I J : ex_Mem} {f : Nat} (hz : J 52 27 = nI 1) (hf : f < 4) : ri L xs D 105 [.ref 52, .int (nI f)] (mkH n I J) (J 78 f) (mkH n I J) := by
  show xx cb_G _ _ _ 105 0 [.ref 52, .int (nI f)] [] _ _
  refine xi_aload_n (pc' := 1) rfl rfl rfl ?_
  refine xr_getiv (v := nI (1)) (pc' := 4) rfl rfl (by decide) (by decide) (hz) rfl ?_
  refine xi_iff (pc' := 7) (tg := 25) rfl rfl (by decide) rfl ?_
  refine xi_iload_n (pc' := 8) rfl rfl rfl ?_
  refine xx_if (pc' := 11) (tg := 25) rfl rfl rfl (fun q8 => absurd q8 (show ¬ ex_P .lt (nI f) 0 from nI_pos (by omega))) (fun q8 => ?_)
  refine xi_iload_n (pc' := 12) rfl rfl rfl ?_
  refine xi_iconst (pc' := 13) rfl rfl ?_
  refine xx_icmp (pc' := 16) (tg := 25) rfl rfl rfl (fun q13 => absurd q13 (show ¬ ex_P .ge (nI f) (nI 4) from nI_ge (by omega) (by decide))) (fun q13 => ?_)
  refine xi_aload_n (pc' := 17) rfl rfl rfl ?_
  refine xr_getp (pc' := 20) rfl rfl (by decide) rfl rfl rfl ?_
  refine xi_iload_n (pc' := 21) rfl rfl rfl ?_
  refine xr_iald (j := f) (pc' := 22) rfl rfl (by decide) (by first | rfl | (simp only [ix_add, ix_mul, ix_pred]; done) | (simp only [ix_add, ix_mul, ix_pred, *]; done)) (by omega) (by decide) rfl ?_
  refine xi_goto (pc' := 26) rfl rfl ?_
  refine xx_ireturn rfl rfl ?_
  exact ⟨rfl, rfl⟩
theorem r_load0z {L : Nat} {xs : Nat → Int32} {D n : Nat} {I J : ex_Mem} {f : Int32} (hz : J 52 27 = nI 0) : ri L xs D 105 [.ref 52, .int f] (mkH n I J) (- nI 1) (mkH n I J) := by
  show xx cb_G _ _ _ 105 0 [.ref 52, .int f] [] _ _
  refine xi_aload_n (pc' := 1) rfl rfl rfl ?_
  refine xr_getiv (v := nI (0)) (pc' := 4) rfl rfl (by decide) (by decide) (hz) rfl ?_
  refine xi_ift (pc' := 25) rfl rfl (by decide) ?_
  refine xi_iconstm (pc' := 26) rfl rfl ?_
  refine xx_ireturn rfl rfl ?_
  exact ⟨rfl, rfl⟩
