theorem mn_lit {k : Nat} (hk : k < 2147483648) : (- nI 1 = nI k) = False := by
  apply propext
  refine ⟨fun h => ?_, False.elim⟩
  have h1 := congrArg Int32.toInt h
  rw [nI_toInt hk, show (- nI 1).toInt = -1 from rfl] at h1
  omega
theorem mn_lit' {k : Nat} (hk : k < 2147483648) : (nI k = - nI 1) = False := by
  rw [← mn_lit hk]
  exact propext ⟨Eq.symm, Eq.symm⟩
theorem mn_0 : (- nI 1 = 0) = False := mn_lit (k := 0) (by decide)
theorem c_isTerminal {L : Nat} {xs : Nat → Int32} {D n : Nat} {I J : ex_Mem} (t : Int32) : ri L xs D 6 [.int t] (mkH n I J) (if 0 ≤ t ∧ t < nI 6 then nI 1 else nI 0) (mkH n I J) := by
  show xx cb_G _ _ _ 6 0 [.int t] [] _ _
  refine xi_iload_n (pc' := 1) rfl rfl rfl ?_
  refine xx_if (pc' := 4) (tg := 14) rfl rfl rfl (fun q1 => ?_) (fun q1 => ?_)
  · refine xi_iconst (pc' := 15) rfl rfl ?_
    refine xx_zreturn rfl rfl (by first | rfl | assumption | exact b01_bI | simp [ex_b01, bI]) ?_
    refine ⟨congrArg (fun v => some (Value.int v)) ?_, ?_⟩
    · first | with_reducible rfl | (simp only [ex_P] at *; simp only [*, ↓reduceIte]; done) | (simp only [ex_P, Int32.lt_iff_toInt_lt, Int32.le_iff_toInt_le] at *; split <;> first | with_reducible rfl | (exfalso; omega))
    · first | with_reducible rfl | (simp only [ex_P] at *; simp only [*, ↓reduceIte]; done) | rfl
  · refine xi_iload_n (pc' := 5) rfl rfl rfl ?_
    refine xi_bipush (pc' := 7) rfl (by decide) rfl ?_
    refine xx_icmp (pc' := 10) (tg := 14) rfl rfl rfl (fun q7 => ?_) (fun q7 => ?_)
    · refine xi_iconst (pc' := 15) rfl rfl ?_
      refine xx_zreturn rfl rfl (by first | rfl | assumption | exact b01_bI | simp [ex_b01, bI]) ?_
      refine ⟨congrArg (fun v => some (Value.int v)) ?_, ?_⟩
      · first | with_reducible rfl | (simp only [ex_P] at *; simp only [*, ↓reduceIte]; done) | (simp only [ex_P, Int32.lt_iff_toInt_lt, Int32.le_iff_toInt_le] at *; split <;> first | with_reducible rfl | (exfalso; omega))
      · first | with_reducible rfl | (simp only [ex_P] at *; simp only [*, ↓reduceIte]; done) | rfl
    · refine xi_iconst (pc' := 11) rfl rfl ?_
      refine xi_goto (pc' := 15) rfl rfl ?_
      refine xx_zreturn rfl rfl (by first | rfl | assumption | exact b01_bI | simp [ex_b01, bI]) ?_
      refine ⟨congrArg (fun v => some (Value.int v)) ?_, ?_⟩
      · first | with_reducible rfl | (simp only [ex_P] at *; simp only [*, ↓reduceIte]; done) | (simp only [ex_P, Int32.lt_iff_toInt_lt, Int32.le_iff_toInt_le] at *; split <;> first | with_reducible rfl | (exfalso; omega))
      · first | with_reducible rfl | (simp only [ex_P] at *; simp only [*, ↓reduceIte]; done) | rfl
theorem c_isSub {L : Nat} {xs : Nat → Int32} {D n : Nat} {I J : ex_Mem} (t : Int32) : ri L xs D 9 [.int t] (mkH n I J) (if nI 1 ≤ t ∧ t ≤ nI 3 then nI 1 else nI 0) (mkH n I J) := by
  show xx cb_G _ _ _ 9 0 [.int t] [] _ _
  refine xi_iload_n (pc' := 1) rfl rfl rfl ?_
  refine xi_iconst (pc' := 2) rfl rfl ?_
  refine xx_icmp (pc' := 5) (tg := 14) rfl rfl rfl (fun q2 => ?_) (fun q2 => ?_)
  · refine xi_iconst (pc' := 15) rfl rfl ?_
    refine xx_zreturn rfl rfl (by first | rfl | assumption | exact b01_bI | simp [ex_b01, bI]) ?_
    refine ⟨congrArg (fun v => some (Value.int v)) ?_, ?_⟩
    · first | with_reducible rfl | (simp only [ex_P] at *; simp only [*, ↓reduceIte]; done) | (simp only [ex_P, Int32.lt_iff_toInt_lt, Int32.le_iff_toInt_le] at *; split <;> first | with_reducible rfl | (exfalso; omega))
    · first | with_reducible rfl | (simp only [ex_P] at *; simp only [*, ↓reduceIte]; done) | rfl
  · refine xi_iload_n (pc' := 6) rfl rfl rfl ?_
    refine xi_iconst (pc' := 7) rfl rfl ?_
    refine xx_icmp (pc' := 10) (tg := 14) rfl rfl rfl (fun q7 => ?_) (fun q7 => ?_)
    · refine xi_iconst (pc' := 15) rfl rfl ?_
      refine xx_zreturn rfl rfl (by first | rfl | assumption | exact b01_bI | simp [ex_b01, bI]) ?_
      refine ⟨congrArg (fun v => some (Value.int v)) ?_, ?_⟩
      · first | with_reducible rfl | (simp only [ex_P] at *; simp only [*, ↓reduceIte]; done) | (simp only [ex_P, Int32.lt_iff_toInt_lt, Int32.le_iff_toInt_le] at *; split <;> first | with_reducible rfl | (exfalso; omega))
      · first | with_reducible rfl | (simp only [ex_P] at *; simp only [*, ↓reduceIte]; done) | rfl
    · refine xi_iconst (pc' := 11) rfl rfl ?_
      refine xi_goto (pc' := 15) rfl rfl ?_
      refine xx_zreturn rfl rfl (by first | rfl | assumption | exact b01_bI | simp [ex_b01, bI]) ?_
      refine ⟨congrArg (fun v => some (Value.int v)) ?_, ?_⟩
      · first | with_reducible rfl | (simp only [ex_P] at *; simp only [*, ↓reduceIte]; done) | (simp only [ex_P, Int32.lt_iff_toInt_lt, Int32.le_iff_toInt_le] at *; split <;> first | with_reducible rfl | (exfalso; omega))
      · first | with_reducible rfl | (simp only [ex_P] at *; simp only [*, ↓reduceIte]; done) | rfl
theorem c_isIndex {L : Nat} {xs : Nat → Int32} {D n : Nat} {I J : ex_Mem} (t : Int32) : ri L xs D 10 [.int t] (mkH n I J) (if 0 ≤ t ∧ t < nI 4 then nI 1 else nI 0) (mkH n I J) := by
  show xx cb_G _ _ _ 10 0 [.int t] [] _ _
  refine xi_iload_n (pc' := 1) rfl rfl rfl ?_
  refine xx_if (pc' := 4) (tg := 13) rfl rfl rfl (fun q1 => ?_) (fun q1 => ?_)
  · refine xi_iconst (pc' := 14) rfl rfl ?_
    refine xx_zreturn rfl rfl (by first | rfl | assumption | exact b01_bI | simp [ex_b01, bI]) ?_
    refine ⟨congrArg (fun v => some (Value.int v)) ?_, ?_⟩
    · first | with_reducible rfl | (simp only [ex_P] at *; simp only [*, ↓reduceIte]; done) | (simp only [ex_P, Int32.lt_iff_toInt_lt, Int32.le_iff_toInt_le] at *; split <;> first | with_reducible rfl | (exfalso; omega))
    · first | with_reducible rfl | (simp only [ex_P] at *; simp only [*, ↓reduceIte]; done) | rfl
  · refine xi_iload_n (pc' := 5) rfl rfl rfl ?_
    refine xi_iconst (pc' := 6) rfl rfl ?_
    refine xx_icmp (pc' := 9) (tg := 13) rfl rfl rfl (fun q6 => ?_) (fun q6 => ?_)
    · refine xi_iconst (pc' := 14) rfl rfl ?_
      refine xx_zreturn rfl rfl (by first | rfl | assumption | exact b01_bI | simp [ex_b01, bI]) ?_
      refine ⟨congrArg (fun v => some (Value.int v)) ?_, ?_⟩
      · first | with_reducible rfl | (simp only [ex_P] at *; simp only [*, ↓reduceIte]; done) | (simp only [ex_P, Int32.lt_iff_toInt_lt, Int32.le_iff_toInt_le] at *; split <;> first | with_reducible rfl | (exfalso; omega))
      · first | with_reducible rfl | (simp only [ex_P] at *; simp only [*, ↓reduceIte]; done) | rfl
    · refine xi_iconst (pc' := 10) rfl rfl ?_
      refine xi_goto (pc' := 14) rfl rfl ?_
      refine xx_zreturn rfl rfl (by first | rfl | assumption | exact b01_bI | simp [ex_b01, bI]) ?_
      refine ⟨congrArg (fun v => some (Value.int v)) ?_, ?_⟩
      · first | with_reducible rfl | (simp only [ex_P] at *; simp only [*, ↓reduceIte]; done) | (simp only [ex_P, Int32.lt_iff_toInt_lt, Int32.le_iff_toInt_le] at *; split <;> first | with_reducible rfl | (exfalso; omega))
      · first | with_reducible rfl | (simp only [ex_P] at *; simp only [*, ↓reduceIte]; done) | rfl
theorem c_isValue {L : Nat} {xs : Nat → Int32} {D n : Nat} {I J : ex_Mem} (t : Int32) : ri L xs D 3 [.int t] (mkH n I J) (if 0 ≤ t ∧ t ≤ nI 65535 then nI 1 else nI 0) (mkH n I J) := by
  show xx cb_G _ _ _ 3 0 [.int t] [] _ _
  refine xi_iload_n (pc' := 1) rfl rfl rfl ?_
  refine xx_if (pc' := 4) (tg := 14) rfl rfl rfl (fun q1 => ?_) (fun q1 => ?_)
  · refine xi_iconst (pc' := 15) rfl rfl ?_
    refine xx_zreturn rfl rfl (by first | rfl | assumption | exact b01_bI | simp [ex_b01, bI]) ?_
    refine ⟨congrArg (fun v => some (Value.int v)) ?_, ?_⟩
    · first | with_reducible rfl | (simp only [ex_P] at *; simp only [*, ↓reduceIte]; done) | (simp only [ex_P, Int32.lt_iff_toInt_lt, Int32.le_iff_toInt_le] at *; split <;> first | with_reducible rfl | (exfalso; omega))
    · first | with_reducible rfl | (simp only [ex_P] at *; simp only [*, ↓reduceIte]; done) | rfl
  · refine xi_iload_n (pc' := 5) rfl rfl rfl ?_
    refine xx_ldc (v := nI 65535) (pc' := 7) rfl rfl (by decide) rfl ?_
    refine xx_icmp (pc' := 10) (tg := 14) rfl rfl rfl (fun q7 => ?_) (fun q7 => ?_)
    · refine xi_iconst (pc' := 15) rfl rfl ?_
      refine xx_zreturn rfl rfl (by first | rfl | assumption | exact b01_bI | simp [ex_b01, bI]) ?_
      refine ⟨congrArg (fun v => some (Value.int v)) ?_, ?_⟩
      · first | with_reducible rfl | (simp only [ex_P] at *; simp only [*, ↓reduceIte]; done) | (simp only [ex_P, Int32.lt_iff_toInt_lt, Int32.le_iff_toInt_le] at *; split <;> first | with_reducible rfl | (exfalso; omega))
      · first | with_reducible rfl | (simp only [ex_P] at *; simp only [*, ↓reduceIte]; done) | rfl
    · refine xi_iconst (pc' := 11) rfl rfl ?_
      refine xi_goto (pc' := 15) rfl rfl ?_
      refine xx_zreturn rfl rfl (by first | rfl | assumption | exact b01_bI | simp [ex_b01, bI]) ?_
      refine ⟨congrArg (fun v => some (Value.int v)) ?_, ?_⟩
      · first | with_reducible rfl | (simp only [ex_P] at *; simp only [*, ↓reduceIte]; done) | (simp only [ex_P, Int32.lt_iff_toInt_lt, Int32.le_iff_toInt_le] at *; split <;> first | with_reducible rfl | (exfalso; omega))
      · first | with_reducible rfl | (simp only [ex_P] at *; simp only [*, ↓reduceIte]; done) | rfl
theorem c_isTerminal1 {L : Nat} {xs : Nat → Int32} {D n : Nat} {I J : ex_Mem} {t : Int32} (h : vT t) : ri L xs D 6 [.int t] (mkH n I J) (nI 1) (mkH n I J) := by
  have e := c_isTerminal (L := L) (xs := xs) (D := D) (n := n) (I := I) (J := J) t
  unfold vT at h
  rw [if_pos h] at e
  exact e
theorem c_isTerminal0 {L : Nat} {xs : Nat → Int32} {D n : Nat} {I J : ex_Mem} {t : Int32} (h : ¬ vT t) : ri L xs D 6 [.int t] (mkH n I J) (nI 0) (mkH n I J) := by
  have e := c_isTerminal (L := L) (xs := xs) (D := D) (n := n) (I := I) (J := J) t
  unfold vT at h
  rw [if_neg h] at e
  exact e
theorem c_isSub1 {L : Nat} {xs : Nat → Int32} {D n : Nat} {I J : ex_Mem} {t : Int32} (h : vS t) : ri L xs D 9 [.int t] (mkH n I J) (nI 1) (mkH n I J) := by
  have e := c_isSub (L := L) (xs := xs) (D := D) (n := n) (I := I) (J := J) t
  unfold vS at h
  rw [if_pos h] at e
  exact e
theorem c_isSub0 {L : Nat} {xs : Nat → Int32} {D n : Nat} {I J : ex_Mem} {t : Int32} (h : ¬ vS t) : ri L xs D 9 [.int t] (mkH n I J) (nI 0) (mkH n I J) := by
  have e := c_isSub (L := L) (xs := xs) (D := D) (n := n) (I := I) (J := J) t
  unfold vS at h
  rw [if_neg h] at e
  exact e
theorem c_isIndex1 {L : Nat} {xs : Nat → Int32} {D n : Nat} {I J : ex_Mem} {t : Int32} (h : vK t) : ri L xs D 10 [.int t] (mkH n I J) (nI 1) (mkH n I J) := by
  have e := c_isIndex (L := L) (xs := xs) (D := D) (n := n) (I := I) (J := J) t
  unfold vK at h
  rw [if_pos h] at e
  exact e
theorem c_isIndex0 {L : Nat} {xs : Nat → Int32} {D n : Nat} {I J : ex_Mem} {t : Int32} (h : ¬ vK t) : ri L xs D 10 [.int t] (mkH n I J) (nI 0) (mkH n I J) := by
  have e := c_isIndex (L := L) (xs := xs) (D := D) (n := n) (I := I) (J := J) t
  unfold vK at h
  rw [if_neg h] at e
  exact e
theorem c_isValue1 {L : Nat} {xs : Nat → Int32} {D n : Nat} {I J : ex_Mem} {t : Int32} (h : vV t) : ri L xs D 3 [.int t] (mkH n I J) (nI 1) (mkH n I J) := by
  have e := c_isValue (L := L) (xs := xs) (D := D) (n := n) (I := I) (J := J) t
  unfold vV at h
  rw [if_pos h] at e
  exact e
theorem c_isValue0 {L : Nat} {xs : Nat → Int32} {D n : Nat} {I J : ex_Mem} {t : Int32} (h : ¬ vV t) : ri L xs D 3 [.int t] (mkH n I J) (nI 0) (mkH n I J) := by
  have e := c_isValue (L := L) (xs := xs) (D := D) (n := n) (I := I) (J := J) t
  unfold vV at h
  rw [if_neg h] at e
  exact e
theorem c_isPlace1 {L : Nat} {xs : Nat → Int32} {D n : Nat} {I J : ex_Mem} {t s : Int32} (ht : vT t) (hs : vS s) : ri L xs (D + 1) 8 [.int t, .int s] (mkH n I J) (nI 1) (mkH n I J) := by
  show xx cb_G _ _ _ 8 0 [.int t, .int s] [] _ _
  refine xi_iload_n (pc' := 1) rfl rfl rfl ?_
  refine xx_callSi (pc' := 4) rfl rfl (by decide) rfl (Nat.le_of_ble_eq_true rfl) rfl rfl (c_isTerminal1 ht) ?_
  refine xi_iff (pc' := 7) (tg := 18) rfl rfl (by decide) rfl ?_
  refine xi_iload_n (pc' := 8) rfl rfl rfl ?_
  refine xx_callSi (pc' := 11) rfl rfl (by decide) rfl (Nat.le_of_ble_eq_true rfl) rfl rfl (c_isSub1 hs) ?_
  refine xi_iff (pc' := 14) (tg := 18) rfl rfl (by decide) rfl ?_
  refine xi_iconst (pc' := 15) rfl rfl ?_
  refine xi_goto (pc' := 19) rfl rfl ?_
  refine xx_zreturn rfl rfl (by first | rfl | assumption | exact b01_bI | simp [ex_b01, bI]) ?_
  exact ⟨rfl, rfl⟩
theorem c_isPlace0t {L : Nat} {xs : Nat → Int32} {D n : Nat} {I J : ex_Mem} {t s : Int32} (ht : ¬ vT t) : ri L xs (D + 1) 8 [.int t, .int s] (mkH n I J) (nI 0) (mkH n I J) := by
  show xx cb_G _ _ _ 8 0 [.int t, .int s] [] _ _
  refine xi_iload_n (pc' := 1) rfl rfl rfl ?_
  refine xx_callSi (pc' := 4) rfl rfl (by decide) rfl (Nat.le_of_ble_eq_true rfl) rfl rfl (c_isTerminal0 ht) ?_
  refine xi_ift (pc' := 18) rfl rfl (by decide) ?_
  refine xi_iconst (pc' := 19) rfl rfl ?_
  refine xx_zreturn rfl rfl (by first | rfl | assumption | exact b01_bI | simp [ex_b01, bI]) ?_
  exact ⟨rfl, rfl⟩
theorem c_isPlace0s {L : Nat} {xs : Nat → Int32} {D n : Nat} {I J : ex_Mem} {t s : Int32} (ht : vT t) (hs : ¬ vS s) : ri L xs (D + 1) 8 [.int t, .int s] (mkH n I J) (nI 0) (mkH n I J) := by
  show xx cb_G _ _ _ 8 0 [.int t, .int s] [] _ _
  refine xi_iload_n (pc' := 1) rfl rfl rfl ?_
  refine xx_callSi (pc' := 4) rfl rfl (by decide) rfl (Nat.le_of_ble_eq_true rfl) rfl rfl (c_isTerminal1 ht) ?_
  refine xi_iff (pc' := 7) (tg := 18) rfl rfl (by decide) rfl ?_
  refine xi_iload_n (pc' := 8) rfl rfl rfl ?_
  refine xx_callSi (pc' := 11) rfl rfl (by decide) rfl (Nat.le_of_ble_eq_true rfl) rfl rfl (c_isSub0 hs) ?_
  refine xi_ift (pc' := 18) rfl rfl (by decide) ?_
  refine xi_iconst (pc' := 19) rfl rfl ?_
  refine xx_zreturn rfl rfl (by first | rfl | assumption | exact b01_bI | simp [ex_b01, bI]) ?_
  exact ⟨rfl, rfl⟩
theorem c_isPlace0 {L : Nat} {xs : Nat → Int32} {D n : Nat} {I J : ex_Mem} {t s : Int32} (h : ¬ (vT t ∧ vS s)) : ri L xs (D + 1) 8 [.int t, .int s] (mkH n I J) (nI 0) (mkH n I J) := by
  by_cases ht : vT t
  · exact c_isPlace0s ht (fun hs => h ⟨ht, hs⟩)
  · exact c_isPlace0t ht
theorem c_toReceive {L : Nat} {xs : Nat → Int32} {D n : Nat} {I J : ex_Mem} (t s k : Int32) : ri L xs D 134 [.int t, .int s, .int k] (mkH n I J) (t * nI 2048 + s * nI 32 + k) (mkH n I J) := by
  show xx cb_G _ _ _ 134 0 [.int t, .int s, .int k] [] _ _
  refine xi_iload_n (pc' := 1) rfl rfl rfl ?_
  refine xi_sipush (pc' := 4) rfl (by decide) rfl ?_
  refine xi_imul (pc' := 5) rfl rfl ?_
  refine xi_iload_n (pc' := 6) rfl rfl rfl ?_
  refine xi_bipush (pc' := 8) rfl (by decide) rfl ?_
  refine xi_imul (pc' := 9) rfl rfl ?_
  refine xi_iadd (pc' := 10) rfl rfl ?_
  refine xi_iload_n (pc' := 11) rfl rfl rfl ?_
  refine xi_iadd (pc' := 12) rfl rfl ?_
  refine xx_ireturn rfl rfl ?_
  exact ⟨rfl, rfl⟩
theorem c_toSend {L : Nat} {xs : Nat → Int32} {D n : Nat} {I J : ex_Mem} (t s k : Int32) : ri L xs (D + 1) 133 [.int t, .int s, .int k] (mkH n I J) (t * nI 2048 + s * nI 32 + k + nI 1024) (mkH n I J) := by
  show xx cb_G _ _ _ 133 0 [.int t, .int s, .int k] [] _ _
  refine xi_iload_n (pc' := 1) rfl rfl rfl ?_
  refine xi_iload_n (pc' := 2) rfl rfl rfl ?_
  refine xi_iload_n (pc' := 3) rfl rfl rfl ?_
  refine xx_callSi (pc' := 6) rfl rfl (by decide) rfl (Nat.le_of_ble_eq_true rfl) rfl rfl (c_toReceive _ _ _) ?_
  refine xi_sipush (pc' := 9) rfl (by decide) rfl ?_
  refine xi_iadd (pc' := 10) rfl rfl ?_
  refine xx_ireturn rfl rfl ?_
  exact ⟨rfl, rfl⟩
theorem c_mode {L : Nat} {xs : Nat → Int32} {D n : Nat} {I J : ex_Mem} (t k : Int32) : ri L xs (D + 2) 132 [.int t, .int k] (mkH n I J) (t * nI 2048 + nI 0 * nI 32 + k + nI 1024) (mkH n I J) := by
  show xx cb_G _ _ _ 132 0 [.int t, .int k] [] _ _
  refine xi_iload_n (pc' := 1) rfl rfl rfl ?_
  refine xi_iconst (pc' := 2) rfl rfl ?_
  refine xi_iload_n (pc' := 3) rfl rfl rfl ?_
  refine xx_callSi (pc' := 6) rfl rfl (by decide) rfl (Nat.le_of_ble_eq_true rfl) rfl rfl (c_toSend _ _ _) ?_
  refine xx_ireturn rfl rfl ?_
  exact ⟨rfl, rfl⟩
/-- where the monitor writes next -/
def monB (I : ex_Mem) : Prop := I 4 1 = nI (tk I 4 1) ∧ tk I 4 1 < 60
def c_wr (I : ex_Mem) (w : Int32) : ex_Mem := ex_wI (ex_wI (ex_wI I 5 (tk I 4 1) w) 4 1 (nI ((tk I 4 1 + 1) % 60))) 4 2 (I 4 2 + nI 1)
theorem nI_clamp' {p k : Nat} (hp : p < k) (hk : k < 2 ^ 31 := by decide) : (nI p).toNatClampNeg = p := by
  rw [Int32.toNatClampNeg, nI_toInt (by omega)]
  rfl
theorem monB_of {I : ex_Mem} {p : Nat} (h : I 4 1 = nI p) (hp : p < 60) : monB I := by
  have e : tk I 4 1 = p := by
    show (I 4 1).toNatClampNeg = p
    rw [h]
    exact nI_clamp' hp
  exact ⟨by rw [e]; exact h, by rw [e]; exact hp⟩
theorem monB_wr {I : ex_Mem} {w : Int32} (h : monB I) : monB (c_wr I w) := monB_of (p := (tk I 4 1 + 1) % 60) rfl (Nat.mod_lt _ (by decide))
theorem monB_eq {I I' : ex_Mem} (h : monB I) (e : I' 4 1 = I 4 1) : monB I' := by
  unfold monB tk at *
  rw [e]
  exact h
theorem c_write {L : Nat} {xs : Nat → Int32} {D n : Nat} {I J : ex_Mem} {w : Int32} (hm : monB I) : ro L xs D 47 [.ref 4, .int w] (mkH n I J) (mkH n (c_wr I w) J) := by
  show xx cb_G _ _ _ 47 0 [.ref 4, .int w] [] _ _
  refine xi_aload_n (pc' := 1) rfl rfl rfl ?_
  refine xc_getp (pc' := 4) rfl rfl (by decide) rfl (by omega) (by decide) rfl rfl rfl ?_
  refine xi_aload_n (pc' := 5) rfl rfl rfl ?_
  refine xc_getiv (v := nI (tk I 4 1)) (pc' := 8) rfl rfl (by decide) rfl (by decide) (by omega) (by decide) (by decide) (hm.1) rfl ?_
  refine xi_iload_n (pc' := 9) rfl rfl rfl ?_
  refine xc_iast (j := tk I 4 1) (pc' := 10) rfl rfl (by decide) (by omega) (by first | rfl | (simp only [ix_add, ix_mul, ix_pred]; done) | (simp only [ix_add, ix_mul, ix_pred, *]; done)) (hm.2) (by decide) rfl ?_
  refine xi_aload_n (pc' := 11) rfl rfl rfl ?_
  refine xi_aload_n (pc' := 12) rfl rfl rfl ?_
  refine xc_getiv (v := nI (tk I 4 1)) (pc' := 15) rfl rfl (by decide) rfl (by decide) (by omega) (by decide) (by decide) (hm.1) rfl ?_
  refine xi_iconst (pc' := 16) rfl rfl ?_
  refine xi_iadd (pc' := 17) rfl rfl ?_
  refine xi_bipush (pc' := 19) rfl (by decide) rfl ?_
  refine xi_irem (pc' := 20) rfl (by decide) rfl ?_
  refine xx_topi (y := nI ((tk I 4 1 + 1) % 60)) (by rw [ix_add]; exact ix_rem (by have := hm.2; omega) (by decide) (by decide)) ?_
  refine xc_puti (pc' := 23) rfl rfl (by decide) rfl (by decide) (by omega) (by decide) (Or.inl rfl) rfl ?_
  refine xi_aload_n (pc' := 24) rfl rfl rfl ?_
  refine xi_dup (pc' := 25) rfl rfl rfl ?_
  refine xc_geti (pc' := 28) rfl rfl (by decide) rfl (by decide) (by omega) (by decide) (by decide) rfl ?_
  refine xi_iconst (pc' := 29) rfl rfl ?_
  refine xi_iadd (pc' := 30) rfl rfl ?_
  refine xc_puti (pc' := 33) rfl rfl (by decide) rfl (by decide) (by omega) (by decide) (Or.inl rfl) rfl ?_
  refine xx_return rfl (by decide) ?_
  exact ⟨rfl, rfl⟩
def c_hit (I : ex_Mem) (b : Nat) : Int32 × ex_Mem :=
  if I 6 b = - nI 1 then (- nI 1, I)
  else if I 7 b ≤ 0 then (if I 6 b = nI 2 then (I 6 b, I) else (I 6 b, ex_wI I 6 b (- nI 1)))
  else (- nI 1, ex_wI I 7 b (I 7 b - nI 1))
def c_pt (A : Int32 × ex_Mem) (b : Nat) (w : Int32) : Int32 × ex_Mem :=
  if A.1 = 0 then (nI 0, A.2) else if A.1 = nI 2 then (nI 0, A.2)
  else (if A.1 = - nI 1 then nI 1 else nI 0, c_wr A.2 (w + (if A.1 = nI 1 then nI 131072 else nI 0) + nI b * nI 262144))
def c_put (I : ex_Mem) (b : Nat) (w : Int32) : Int32 × ex_Mem := c_pt (c_hit I b) b w
theorem c_nextHit {L : Nat} {xs : Nat → Int32} {D n : Nat} {I J : ex_Mem} {b : Nat} (hb : b < 2) : ri L xs D 44 [.ref 3, .int (nI b)] (mkH n I J) ((c_hit I b).1) (mkH n (c_hit I b).2 J) := by
  show xx cb_G _ _ _ 44 0 [.ref 3, .int (nI b), ex_no] [] _ _
  refine xi_aload_n (pc' := 1) rfl rfl rfl ?_
  refine xc_getp (pc' := 4) rfl rfl (by decide) rfl (by omega) (by decide) rfl rfl rfl ?_
  refine xi_iload_n (pc' := 5) rfl rfl rfl ?_
  refine xc_iald (j := b) (pc' := 6) rfl rfl (by decide) (by omega) (by omega) (by first | rfl | (simp only [ix_add, ix_mul, ix_pred]; done) | (simp only [ix_add, ix_mul, ix_pred, *]; done)) (by omega) (by decide) rfl ?_
  refine xi_istore_n (pc' := 7) rfl (st1_2 rfl) rfl ?_
  refine xi_iload_n (pc' := 8) rfl rfl rfl ?_
  refine xi_iconstm (pc' := 9) rfl rfl ?_
  refine xx_icmp (pc' := 12) (tg := 14) rfl rfl rfl (fun q9 => ?_) (fun q9 => ?_)
  · refine xi_aload_n (pc' := 15) rfl rfl rfl ?_
    refine xc_getp (pc' := 18) rfl rfl (by decide) rfl (by omega) (by decide) rfl rfl rfl ?_
    refine xi_iload_n (pc' := 19) rfl rfl rfl ?_
    refine xc_iald (j := b) (pc' := 20) rfl rfl (by decide) (by omega) (by omega) (by first | rfl | (simp only [ix_add, ix_mul, ix_pred]; done) | (simp only [ix_add, ix_mul, ix_pred, *]; done)) (by omega) (by decide) rfl ?_
    refine xx_if (pc' := 23) (tg := 35) rfl rfl rfl (fun q20 => ?_) (fun q20 => ?_)
    · refine xi_iload_n (pc' := 36) rfl rfl rfl ?_
      refine xi_iconst (pc' := 37) rfl rfl ?_
      refine xx_icmp (pc' := 40) (tg := 47) rfl rfl rfl (fun q37 => ?_) (fun q37 => ?_)
      · refine xi_iload_n (pc' := 48) rfl rfl rfl ?_
        refine xx_ireturn rfl rfl ?_
        simp only [ex_P, Classical.not_not, ↓reduceIte, Nat.add_zero, or_true, true_or, not_true_eq_false, not_false_eq_true, or_false, false_or, wI_get, false_and, true_and, and_true, and_false, and_self, Nat.reduceEqDiff, Nat.succ_ne_zero, reduceCtorEq, nI_lit, nI_lit0, Nat.reduceLT, Nat.zero_add, mn_lit, mn_lit', mn_0] at *
        first | (simp only [c_hit, *, ↓reduceIte, Nat.add_zero, or_true, true_or, not_true_eq_false, not_false_eq_true, or_false, false_or, wI_get, false_and, true_and, and_true, and_false, and_self, Nat.reduceEqDiff, Nat.succ_ne_zero, reduceCtorEq, nI_lit, nI_lit0, Nat.reduceLT, Nat.zero_add, mn_lit, mn_lit', mn_0]; done) | (exfalso; simp_all only [↓reduceIte, Nat.add_zero, or_true, true_or, not_true_eq_false, not_false_eq_true, or_false, false_or, wI_get, false_and, true_and, and_true, and_false, and_self, Nat.reduceEqDiff, Nat.succ_ne_zero, reduceCtorEq, nI_lit, nI_lit0, Nat.reduceLT, Nat.zero_add, mn_lit, mn_lit', mn_0]; done)
      · refine xi_aload_n (pc' := 41) rfl rfl rfl ?_
        refine xc_getp (pc' := 44) rfl rfl (by decide) rfl (by omega) (by decide) rfl rfl rfl ?_
        refine xi_iload_n (pc' := 45) rfl rfl rfl ?_
        refine xi_iconstm (pc' := 46) rfl rfl ?_
        refine xc_iast (j := b) (pc' := 47) rfl rfl (by decide) (by omega) (by first | rfl | (simp only [ix_add, ix_mul, ix_pred]; done) | (simp only [ix_add, ix_mul, ix_pred, *]; done)) (by omega) (by decide) rfl ?_
        refine xi_iload_n (pc' := 48) rfl rfl rfl ?_
        refine xx_ireturn rfl rfl ?_
        simp only [ex_P, Classical.not_not, ↓reduceIte, Nat.add_zero, or_true, true_or, not_true_eq_false, not_false_eq_true, or_false, false_or, wI_get, false_and, true_and, and_true, and_false, and_self, Nat.reduceEqDiff, Nat.succ_ne_zero, reduceCtorEq, nI_lit, nI_lit0, Nat.reduceLT, Nat.zero_add, mn_lit, mn_lit', mn_0] at *
        first | (simp only [c_hit, *, ↓reduceIte, Nat.add_zero, or_true, true_or, not_true_eq_false, not_false_eq_true, or_false, false_or, wI_get, false_and, true_and, and_true, and_false, and_self, Nat.reduceEqDiff, Nat.succ_ne_zero, reduceCtorEq, nI_lit, nI_lit0, Nat.reduceLT, Nat.zero_add, mn_lit, mn_lit', mn_0]; done) | (exfalso; simp_all only [↓reduceIte, Nat.add_zero, or_true, true_or, not_true_eq_false, not_false_eq_true, or_false, false_or, wI_get, false_and, true_and, and_true, and_false, and_self, Nat.reduceEqDiff, Nat.succ_ne_zero, reduceCtorEq, nI_lit, nI_lit0, Nat.reduceLT, Nat.zero_add, mn_lit, mn_lit', mn_0]; done)
    · refine xi_aload_n (pc' := 24) rfl rfl rfl ?_
      refine xc_getp (pc' := 27) rfl rfl (by decide) rfl (by omega) (by decide) rfl rfl rfl ?_
      refine xi_iload_n (pc' := 28) rfl rfl rfl ?_
      refine xi_dup2 (pc' := 29) rfl rfl rfl rfl ?_
      refine xc_iald (j := b) (pc' := 30) rfl rfl (by decide) (by omega) (by omega) (by first | rfl | (simp only [ix_add, ix_mul, ix_pred]; done) | (simp only [ix_add, ix_mul, ix_pred, *]; done)) (by omega) (by decide) rfl ?_
      refine xi_iconst (pc' := 31) rfl rfl ?_
      refine xi_isub (pc' := 32) rfl rfl ?_
      refine xc_iast (j := b) (pc' := 33) rfl rfl (by decide) (by omega) (by first | rfl | (simp only [ix_add, ix_mul, ix_pred]; done) | (simp only [ix_add, ix_mul, ix_pred, *]; done)) (by omega) (by decide) rfl ?_
      refine xi_iconstm (pc' := 34) rfl rfl ?_
      refine xx_ireturn rfl rfl ?_
      simp only [ex_P, Classical.not_not, ↓reduceIte, Nat.add_zero, or_true, true_or, not_true_eq_false, not_false_eq_true, or_false, false_or, wI_get, false_and, true_and, and_true, and_false, and_self, Nat.reduceEqDiff, Nat.succ_ne_zero, reduceCtorEq, nI_lit, nI_lit0, Nat.reduceLT, Nat.zero_add, mn_lit, mn_lit', mn_0] at *
      first | (simp only [c_hit, *, ↓reduceIte, Nat.add_zero, or_true, true_or, not_true_eq_false, not_false_eq_true, or_false, false_or, wI_get, false_and, true_and, and_true, and_false, and_self, Nat.reduceEqDiff, Nat.succ_ne_zero, reduceCtorEq, nI_lit, nI_lit0, Nat.reduceLT, Nat.zero_add, mn_lit, mn_lit', mn_0]; done) | (exfalso; simp_all only [↓reduceIte, Nat.add_zero, or_true, true_or, not_true_eq_false, not_false_eq_true, or_false, false_or, wI_get, false_and, true_and, and_true, and_false, and_self, Nat.reduceEqDiff, Nat.succ_ne_zero, reduceCtorEq, nI_lit, nI_lit0, Nat.reduceLT, Nat.zero_add, mn_lit, mn_lit', mn_0]; done)
  · refine xi_iconstm (pc' := 13) rfl rfl ?_
    refine xx_ireturn rfl rfl ?_
    simp only [ex_P, Classical.not_not, ↓reduceIte, Nat.add_zero, or_true, true_or, not_true_eq_false, not_false_eq_true, or_false, false_or, wI_get, false_and, true_and, and_true, and_false, and_self, Nat.reduceEqDiff, Nat.succ_ne_zero, reduceCtorEq, nI_lit, nI_lit0, Nat.reduceLT, Nat.zero_add, mn_lit, mn_lit', mn_0] at *
    first | (simp only [c_hit, *, ↓reduceIte, Nat.add_zero, or_true, true_or, not_true_eq_false, not_false_eq_true, or_false, false_or, wI_get, false_and, true_and, and_true, and_false, and_self, Nat.reduceEqDiff, Nat.succ_ne_zero, reduceCtorEq, nI_lit, nI_lit0, Nat.reduceLT, Nat.zero_add, mn_lit, mn_lit', mn_0]; done) | (exfalso; simp_all only [↓reduceIte, Nat.add_zero, or_true, true_or, not_true_eq_false, not_false_eq_true, or_false, false_or, wI_get, false_and, true_and, and_true, and_false, and_self, Nat.reduceEqDiff, Nat.succ_ne_zero, reduceCtorEq, nI_lit, nI_lit0, Nat.reduceLT, Nat.zero_add, mn_lit, mn_lit', mn_0]; done)
theorem hit_mon {I : ex_Mem} {b : Nat} (h : monB I) : monB (c_hit I b).2 := by
  refine monB_eq h ?_
  unfold c_hit
  split
  · rfl
  · split
    · split <;> rfl
    · rfl
theorem put_mon {I : ex_Mem} {b : Nat} {w : Int32} (h : monB I) : monB (c_put I b w).2 := by
  have h1 := hit_mon (b := b) h
  unfold c_put c_pt
  split
  · exact h1
  · split
    · exact h1
    · exact monB_wr h1
theorem c_carry {L : Nat} {xs : Nat → Int32} {D n : Nat} {I J : ex_Mem} {b : Nat} {w : Int32} (hb : b < 2) (hm : monB I) : ri L xs (D + 1) 43 [.ref 3, .int (nI b), .int w] (mkH n I J) ((c_put I b w).1) (mkH n (c_put I b w).2 J) := by
  show xx cb_G _ _ _ 43 0 [.ref 3, .int (nI b), .int w, ex_no, ex_no] [] _ _
  refine xi_aload_n (pc' := 1) rfl rfl rfl ?_
  refine xi_iload_n (pc' := 2) rfl rfl rfl ?_
  refine xx_callVi (pc' := 5) rfl rfl (by decide) rfl rfl (by show _ < 81 + 2 * _; omega) (Nat.le_of_ble_eq_true rfl) rfl rfl (c_nextHit hb) ?_
  refine xi_istore_n (pc' := 6) rfl (st1_3 rfl) rfl ?_
  refine xi_iload_n (pc' := 7) rfl rfl rfl ?_
  refine xx_if (pc' := 10) (tg := 15) rfl rfl rfl (fun q7 => ?_) (fun q7 => ?_)
  · refine xi_iconst (pc' := 16) rfl rfl ?_
    refine xx_zreturn rfl rfl (by first | rfl | assumption | exact b01_bI | simp [ex_b01, bI]) ?_
    simp only [ex_P, Classical.not_not, ↓reduceIte, Nat.add_zero, or_true, true_or, not_true_eq_false, not_false_eq_true, or_false, false_or, wI_get, false_and, true_and, and_true, and_false, and_self, Nat.reduceEqDiff, Nat.succ_ne_zero, reduceCtorEq, nI_lit, nI_lit0, Nat.reduceLT, Nat.zero_add, mn_lit, mn_lit', mn_0] at *
    first | (simp only [c_put, c_pt, *, ↓reduceIte, Nat.add_zero, or_true, true_or, not_true_eq_false, not_false_eq_true, or_false, false_or, wI_get, false_and, true_and, and_true, and_false, and_self, Nat.reduceEqDiff, Nat.succ_ne_zero, reduceCtorEq, nI_lit, nI_lit0, Nat.reduceLT, Nat.zero_add, mn_lit, mn_lit', mn_0]; done) | (exfalso; simp_all only [↓reduceIte, Nat.add_zero, or_true, true_or, not_true_eq_false, not_false_eq_true, or_false, false_or, wI_get, false_and, true_and, and_true, and_false, and_self, Nat.reduceEqDiff, Nat.succ_ne_zero, reduceCtorEq, nI_lit, nI_lit0, Nat.reduceLT, Nat.zero_add, mn_lit, mn_lit', mn_0]; done)
  · refine xi_iload_n (pc' := 11) rfl rfl rfl ?_
    refine xi_iconst (pc' := 12) rfl rfl ?_
    refine xx_icmp (pc' := 15) (tg := 17) rfl rfl rfl (fun q12 => ?_) (fun q12 => ?_)
    · refine xi_iload_n (pc' := 18) rfl rfl rfl ?_
      refine xi_iconst (pc' := 19) rfl rfl ?_
      refine xx_icmp (pc' := 22) (tg := 27) rfl rfl rfl (fun q19 => ?_) (fun q19 => ?_)
      · refine xi_iconst (pc' := 28) rfl rfl ?_
        refine xi_istore (pc' := 30) rfl (st1_4 rfl) rfl ?_
        refine xi_aload_n (pc' := 31) rfl rfl rfl ?_
        refine xc_getp (pc' := 34) rfl rfl (by decide) rfl (by omega) (by decide) rfl rfl rfl ?_
        refine xi_iload_n (pc' := 35) rfl rfl rfl ?_
        refine xi_iload (pc' := 37) rfl rfl rfl ?_
        refine xi_iadd (pc' := 38) rfl rfl ?_
        refine xi_iload_n (pc' := 39) rfl rfl rfl ?_
        refine xx_ldc (v := nI 262144) (pc' := 41) rfl rfl (by decide) rfl ?_
        refine xi_imul (pc' := 42) rfl rfl ?_
        refine xi_iadd (pc' := 43) rfl rfl ?_
        refine xx_callVv (pc' := 46) rfl rfl (by decide) rfl rfl (by show _ < 81 + 2 * _; omega) (Nat.le_of_ble_eq_true rfl) rfl rfl (c_write (hit_mon hm)) ?_
        refine xi_iload_n (pc' := 47) rfl rfl rfl ?_
        refine xi_iconstm (pc' := 48) rfl rfl ?_
        refine xx_icmp (pc' := 51) (tg := 55) rfl rfl rfl (fun q48 => ?_) (fun q48 => ?_)
        · refine xi_iconst (pc' := 56) rfl rfl ?_
          refine xx_zreturn rfl rfl (by first | rfl | assumption | exact b01_bI | simp [ex_b01, bI]) ?_
          simp only [ex_P, Classical.not_not, ↓reduceIte, Nat.add_zero, or_true, true_or, not_true_eq_false, not_false_eq_true, or_false, false_or, wI_get, false_and, true_and, and_true, and_false, and_self, Nat.reduceEqDiff, Nat.succ_ne_zero, reduceCtorEq, nI_lit, nI_lit0, Nat.reduceLT, Nat.zero_add, mn_lit, mn_lit', mn_0] at *
          first | (simp only [c_put, c_pt, *, ↓reduceIte, Nat.add_zero, or_true, true_or, not_true_eq_false, not_false_eq_true, or_false, false_or, wI_get, false_and, true_and, and_true, and_false, and_self, Nat.reduceEqDiff, Nat.succ_ne_zero, reduceCtorEq, nI_lit, nI_lit0, Nat.reduceLT, Nat.zero_add, mn_lit, mn_lit', mn_0]; done) | (exfalso; simp_all only [↓reduceIte, Nat.add_zero, or_true, true_or, not_true_eq_false, not_false_eq_true, or_false, false_or, wI_get, false_and, true_and, and_true, and_false, and_self, Nat.reduceEqDiff, Nat.succ_ne_zero, reduceCtorEq, nI_lit, nI_lit0, Nat.reduceLT, Nat.zero_add, mn_lit, mn_lit', mn_0]; done)
        · refine xi_iconst (pc' := 52) rfl rfl ?_
          refine xi_goto (pc' := 56) rfl rfl ?_
          refine xx_zreturn rfl rfl (by first | rfl | assumption | exact b01_bI | simp [ex_b01, bI]) ?_
          simp only [ex_P, Classical.not_not, ↓reduceIte, Nat.add_zero, or_true, true_or, not_true_eq_false, not_false_eq_true, or_false, false_or, wI_get, false_and, true_and, and_true, and_false, and_self, Nat.reduceEqDiff, Nat.succ_ne_zero, reduceCtorEq, nI_lit, nI_lit0, Nat.reduceLT, Nat.zero_add, mn_lit, mn_lit', mn_0] at *
          first | (simp only [c_put, c_pt, *, ↓reduceIte, Nat.add_zero, or_true, true_or, not_true_eq_false, not_false_eq_true, or_false, false_or, wI_get, false_and, true_and, and_true, and_false, and_self, Nat.reduceEqDiff, Nat.succ_ne_zero, reduceCtorEq, nI_lit, nI_lit0, Nat.reduceLT, Nat.zero_add, mn_lit, mn_lit', mn_0]; done) | (exfalso; simp_all only [↓reduceIte, Nat.add_zero, or_true, true_or, not_true_eq_false, not_false_eq_true, or_false, false_or, wI_get, false_and, true_and, and_true, and_false, and_self, Nat.reduceEqDiff, Nat.succ_ne_zero, reduceCtorEq, nI_lit, nI_lit0, Nat.reduceLT, Nat.zero_add, mn_lit, mn_lit', mn_0]; done)
      · refine xx_ldc (v := nI 131072) (pc' := 24) rfl rfl (by decide) rfl ?_
        refine xi_goto (pc' := 28) rfl rfl ?_
        refine xi_istore (pc' := 30) rfl (st1_4 rfl) rfl ?_
        refine xi_aload_n (pc' := 31) rfl rfl rfl ?_
        refine xc_getp (pc' := 34) rfl rfl (by decide) rfl (by omega) (by decide) rfl rfl rfl ?_
        refine xi_iload_n (pc' := 35) rfl rfl rfl ?_
        refine xi_iload (pc' := 37) rfl rfl rfl ?_
        refine xi_iadd (pc' := 38) rfl rfl ?_
        refine xi_iload_n (pc' := 39) rfl rfl rfl ?_
        refine xx_ldc (v := nI 262144) (pc' := 41) rfl rfl (by decide) rfl ?_
        refine xi_imul (pc' := 42) rfl rfl ?_
        refine xi_iadd (pc' := 43) rfl rfl ?_
        refine xx_callVv (pc' := 46) rfl rfl (by decide) rfl rfl (by show _ < 81 + 2 * _; omega) (Nat.le_of_ble_eq_true rfl) rfl rfl (c_write (hit_mon hm)) ?_
        refine xi_iload_n (pc' := 47) rfl rfl rfl ?_
        refine xi_iconstm (pc' := 48) rfl rfl ?_
        refine xx_icmp (pc' := 51) (tg := 55) rfl rfl rfl (fun q48 => ?_) (fun q48 => ?_)
        · refine xi_iconst (pc' := 56) rfl rfl ?_
          refine xx_zreturn rfl rfl (by first | rfl | assumption | exact b01_bI | simp [ex_b01, bI]) ?_
          simp only [ex_P, Classical.not_not, ↓reduceIte, Nat.add_zero, or_true, true_or, not_true_eq_false, not_false_eq_true, or_false, false_or, wI_get, false_and, true_and, and_true, and_false, and_self, Nat.reduceEqDiff, Nat.succ_ne_zero, reduceCtorEq, nI_lit, nI_lit0, Nat.reduceLT, Nat.zero_add, mn_lit, mn_lit', mn_0] at *
          first | (simp only [c_put, c_pt, *, ↓reduceIte, Nat.add_zero, or_true, true_or, not_true_eq_false, not_false_eq_true, or_false, false_or, wI_get, false_and, true_and, and_true, and_false, and_self, Nat.reduceEqDiff, Nat.succ_ne_zero, reduceCtorEq, nI_lit, nI_lit0, Nat.reduceLT, Nat.zero_add, mn_lit, mn_lit', mn_0]; done) | (exfalso; simp_all only [↓reduceIte, Nat.add_zero, or_true, true_or, not_true_eq_false, not_false_eq_true, or_false, false_or, wI_get, false_and, true_and, and_true, and_false, and_self, Nat.reduceEqDiff, Nat.succ_ne_zero, reduceCtorEq, nI_lit, nI_lit0, Nat.reduceLT, Nat.zero_add, mn_lit, mn_lit', mn_0]; done)
        · refine xi_iconst (pc' := 52) rfl rfl ?_
          refine xi_goto (pc' := 56) rfl rfl ?_
          refine xx_zreturn rfl rfl (by first | rfl | assumption | exact b01_bI | simp [ex_b01, bI]) ?_
          simp only [ex_P, Classical.not_not, ↓reduceIte, Nat.add_zero, or_true, true_or, not_true_eq_false, not_false_eq_true, or_false, false_or, wI_get, false_and, true_and, and_true, and_false, and_self, Nat.reduceEqDiff, Nat.succ_ne_zero, reduceCtorEq, nI_lit, nI_lit0, Nat.reduceLT, Nat.zero_add, mn_lit, mn_lit', mn_0] at *
          first | (simp only [c_put, c_pt, *, ↓reduceIte, Nat.add_zero, or_true, true_or, not_true_eq_false, not_false_eq_true, or_false, false_or, wI_get, false_and, true_and, and_true, and_false, and_self, Nat.reduceEqDiff, Nat.succ_ne_zero, reduceCtorEq, nI_lit, nI_lit0, Nat.reduceLT, Nat.zero_add, mn_lit, mn_lit', mn_0]; done) | (exfalso; simp_all only [↓reduceIte, Nat.add_zero, or_true, true_or, not_true_eq_false, not_false_eq_true, or_false, false_or, wI_get, false_and, true_and, and_true, and_false, and_self, Nat.reduceEqDiff, Nat.succ_ne_zero, reduceCtorEq, nI_lit, nI_lit0, Nat.reduceLT, Nat.zero_add, mn_lit, mn_lit', mn_0]; done)
    · refine xi_iconst (pc' := 16) rfl rfl ?_
      refine xx_zreturn rfl rfl (by first | rfl | assumption | exact b01_bI | simp [ex_b01, bI]) ?_
      simp only [ex_P, Classical.not_not, ↓reduceIte, Nat.add_zero, or_true, true_or, not_true_eq_false, not_false_eq_true, or_false, false_or, wI_get, false_and, true_and, and_true, and_false, and_self, Nat.reduceEqDiff, Nat.succ_ne_zero, reduceCtorEq, nI_lit, nI_lit0, Nat.reduceLT, Nat.zero_add, mn_lit, mn_lit', mn_0] at *
      first | (simp only [c_put, c_pt, *, ↓reduceIte, Nat.add_zero, or_true, true_or, not_true_eq_false, not_false_eq_true, or_false, false_or, wI_get, false_and, true_and, and_true, and_false, and_self, Nat.reduceEqDiff, Nat.succ_ne_zero, reduceCtorEq, nI_lit, nI_lit0, Nat.reduceLT, Nat.zero_add, mn_lit, mn_lit', mn_0]; done) | (exfalso; simp_all only [↓reduceIte, Nat.add_zero, or_true, true_or, not_true_eq_false, not_false_eq_true, or_false, false_or, wI_get, false_and, true_and, and_true, and_false, and_self, Nat.reduceEqDiff, Nat.succ_ne_zero, reduceCtorEq, nI_lit, nI_lit0, Nat.reduceLT, Nat.zero_add, mn_lit, mn_lit', mn_0]; done)
theorem c_arm {L : Nat} {xs : Nat → Int32} {D n : Nat} {I J : ex_Mem} {b : Nat} {kd k : Int32} (hb : b < 2) : ro L xs D 42 [.ref 3, .int (nI b), .int kd, .int k] (mkH n I J) (mkH n (ex_wI (ex_wI I 6 b kd) 7 b k) J) := by
  show xx cb_G _ _ _ 42 0 [.ref 3, .int (nI b), .int kd, .int k] [] _ _
  refine xi_aload_n (pc' := 1) rfl rfl rfl ?_
  refine xc_getp (pc' := 4) rfl rfl (by decide) rfl (by omega) (by decide) rfl rfl rfl ?_
  refine xi_iload_n (pc' := 5) rfl rfl rfl ?_
  refine xi_iload_n (pc' := 6) rfl rfl rfl ?_
  refine xc_iast (j := b) (pc' := 7) rfl rfl (by decide) (by omega) (by first | rfl | (simp only [ix_add, ix_mul, ix_pred]; done) | (simp only [ix_add, ix_mul, ix_pred, *]; done)) (by omega) (by decide) rfl ?_
  refine xi_aload_n (pc' := 8) rfl rfl rfl ?_
  refine xc_getp (pc' := 11) rfl rfl (by decide) rfl (by omega) (by decide) rfl rfl rfl ?_
  refine xi_iload_n (pc' := 12) rfl rfl rfl ?_
  refine xi_iload_n (pc' := 13) rfl rfl rfl ?_
  refine xc_iast (j := b) (pc' := 14) rfl rfl (by decide) (by omega) (by first | rfl | (simp only [ix_add, ix_mul, ix_pred]; done) | (simp only [ix_add, ix_mul, ix_pred, *]; done)) (by omega) (by decide) rfl ?_
  refine xx_return rfl (by decide) ?_
  exact ⟨rfl, rfl⟩
def c_ds (S : Int32 × ex_Mem) (b : Nat) (v : Int32) : Int32 × ex_Mem := (if S.1 = 0 then nI 0 else if (c_put S.2 b v).1 = 0 then nI 0 else nI 1, (c_put S.2 b v).2)
def c_dat (I : ex_Mem) (b a f : Nat) : Nat → Int32 × ex_Mem
  | 0 => (nI 1, I)
  | k + 1 => c_ds (c_dat I b a f k) b (nI 65536 + (c_dat I b a f k).2 a (f + k))
theorem dat_mon {I : ex_Mem} {b a f : Nat} (h : monB I) : ∀ k, monB (c_dat I b a f k).2
  | 0 => h
  | k + 1 => put_mon (dat_mon h k)
theorem dat_b01 {I : ex_Mem} {b a f : Nat} : ∀ k, ex_b01 (c_dat I b a f k).1 = true
  | 0 => rfl
  | k + 1 => by
    unfold c_dat c_ds
    dsimp only
    split
    · decide
    · split <;> decide
theorem dat_s {I : ex_Mem} {b a f k : Nat} : c_dat I b a f (k + 1) = c_ds (c_dat I b a f k) b (nI 65536 + (c_dat I b a f k).2 a (f + k)) := rfl
theorem c_dat_loop {L : Nat} {xs : Nat → Int32} {D n : Nat} {I J : ex_Mem} {b a f nn l : Nat} (hb : b < 2) (hka : cb_kd a = (1, l)) (hca : ¬ (52 ≤ a ∧ a < 81)) (hsa : a < 81 + 2 * n) (ha3 : a < 1000) (hl : f + nn ≤ l) (hl2 : l < 2 ^ 31) (h4 : nn ≤ 4) (hm : monB I) : ∀ (j k : Nat), k + j = nn → ∀ v7 : Value, v7.category = 1 → xx cb_G L xs (D + 2) 45 6 [.ref 3, .int (nI b), .ref a, .int (nI f), .int (nI nn), .int (c_dat I b a f k).1, .int (nI k), v7] [] (mkH n (c_dat I b a f k).2 J) (fun r h => r = some (.int (c_dat I b a f nn).1) ∧ h = mkH n (c_dat I b a f nn).2 J) := by
  intro j
  induction j with
  | zero =>
    intro k hk v7 h7
    have hk : k = nn := by omega
    subst hk
    refine xi_iload (pc' := 8) rfl rfl rfl ?_
    refine xi_iload (pc' := 10) rfl rfl rfl ?_
    refine xx_icmp (pc' := 13) (tg := 52) rfl rfl rfl (fun q10 => ?_) (fun q10 => absurd (show ex_P .ge (nI k) (nI k) from Int32.le_refl _) q10)
    refine xi_iload (pc' := 54) rfl rfl rfl ?_
    refine xx_zreturn rfl rfl (dat_b01 _) ?_
    exact ⟨rfl, rfl⟩
  | succ j ih =>
    intro k hk v7 h7
    refine xi_iload (pc' := 8) rfl rfl rfl ?_
    refine xi_iload (pc' := 10) rfl rfl rfl ?_
    refine xx_icmp (pc' := 13) (tg := 52) rfl rfl rfl (fun q10 => absurd q10 (show ¬ ex_P .ge (nI k) (nI nn) from nI_ge (by omega) (by omega))) (fun q10 => ?_)
    refine xi_aload_n (pc' := 14) rfl rfl rfl ?_
    refine xi_iload_n (pc' := 15) rfl rfl rfl ?_
    refine xx_ldc (v := nI 65536) (pc' := 17) rfl rfl (by decide) rfl ?_
    refine xi_aload_n (pc' := 18) rfl rfl rfl ?_
    refine xi_iload_n (pc' := 19) rfl rfl rfl ?_
    refine xi_iload (pc' := 21) rfl rfl rfl ?_
    refine xi_iadd (pc' := 22) rfl rfl ?_
    refine xc_iald (j := f + k) (pc' := 23) rfl hka hca hsa (by omega) (by first | rfl | (simp only [ix_add, ix_mul, ix_pred]; done) | (simp only [ix_add, ix_mul, ix_pred, *]; done)) (by omega) hl2 rfl ?_
    refine xi_iadd (pc' := 24) rfl rfl ?_
    refine xx_callVi (pc' := 27) rfl rfl (by decide) rfl rfl (by show _ < 81 + 2 * _; omega) (Nat.le_of_ble_eq_true rfl) rfl rfl (c_carry hb (dat_mon hm k)) ?_
    refine xi_istore (pc' := 29) rfl (st1_7 rfl) rfl ?_
    refine xi_iload (pc' := 31) rfl rfl rfl ?_
    refine xx_if (pc' := 34) (tg := 43) rfl rfl rfl (fun q31 => ?_) (fun q31 => ?_)
    · refine xi_iconst (pc' := 44) rfl rfl ?_
      refine xi_istore (pc' := 46) rfl (st1_5 rfl) rfl ?_
      refine xi_iincv (y := nI (k + 1)) (pc' := 49) rfl rfl (ix_add _ _) (st1_6 rfl) rfl ?_
      refine xi_goto (pc' := 6) rfl rfl ?_
      have e := dat_s (I := I) (b := b) (a := a) (f := f) (k := k)
      unfold c_ds at e
      simp only [ex_P, Classical.not_not] at q31
      try simp only [ex_P, Classical.not_not] at q36
      simp only [*, ↓reduceIte] at e
      refine (show _ from ?_)
      have g := ih (k + 1) (by omega) (.int (c_put (c_dat I b a f k).2 b (nI 65536 + (c_dat I b a f k).2 a (f + k))).1) rfl
      rw [e] at g
      exact g
    · refine xi_iload (pc' := 36) rfl rfl rfl ?_
      refine xx_if (pc' := 39) (tg := 43) rfl rfl rfl (fun q36 => ?_) (fun q36 => ?_)
      · refine xi_iconst (pc' := 44) rfl rfl ?_
        refine xi_istore (pc' := 46) rfl (st1_5 rfl) rfl ?_
        refine xi_iincv (y := nI (k + 1)) (pc' := 49) rfl rfl (ix_add _ _) (st1_6 rfl) rfl ?_
        refine xi_goto (pc' := 6) rfl rfl ?_
        have e := dat_s (I := I) (b := b) (a := a) (f := f) (k := k)
        unfold c_ds at e
        simp only [ex_P, Classical.not_not] at q31
        try simp only [ex_P, Classical.not_not] at q36
        simp only [*, ↓reduceIte] at e
        refine (show _ from ?_)
        have g := ih (k + 1) (by omega) (.int (c_put (c_dat I b a f k).2 b (nI 65536 + (c_dat I b a f k).2 a (f + k))).1) rfl
        rw [e] at g
        exact g
      · refine xi_iconst (pc' := 40) rfl rfl ?_
        refine xi_goto (pc' := 44) rfl rfl ?_
        refine xi_istore (pc' := 46) rfl (st1_5 rfl) rfl ?_
        refine xi_iincv (y := nI (k + 1)) (pc' := 49) rfl rfl (ix_add _ _) (st1_6 rfl) rfl ?_
        refine xi_goto (pc' := 6) rfl rfl ?_
        have e := dat_s (I := I) (b := b) (a := a) (f := f) (k := k)
        unfold c_ds at e
        simp only [ex_P, Classical.not_not] at q31
        try simp only [ex_P, Classical.not_not] at q36
        simp only [*, ↓reduceIte] at e
        refine (show _ from ?_)
        have g := ih (k + 1) (by omega) (.int (c_put (c_dat I b a f k).2 b (nI 65536 + (c_dat I b a f k).2 a (f + k))).1) rfl
        rw [e] at g
        exact g
theorem c_carryData {L : Nat} {xs : Nat → Int32} {D n : Nat} {I J : ex_Mem} {b a f nn l : Nat} (hb : b < 2) (hka : cb_kd a = (1, l)) (hca : ¬ (52 ≤ a ∧ a < 81)) (hsa : a < 81 + 2 * n) (ha3 : a < 1000) (hl : f + nn ≤ l) (hl2 : l < 2 ^ 31) (h4 : nn ≤ 4) (hm : monB I) : ri L xs (D + 2) 45 [.ref 3, .int (nI b), .ref a, .int (nI f), .int (nI nn)] (mkH n I J) ((c_dat I b a f nn).1) (mkH n (c_dat I b a f nn).2 J) := by
  show xx cb_G _ _ _ 45 0 [.ref 3, .int (nI b), .ref a, .int (nI f), .int (nI nn), ex_no, ex_no, ex_no] [] _ _
  refine xi_iconst (pc' := 1) rfl rfl ?_
  refine xi_istore (pc' := 3) rfl (st1_5 rfl) rfl ?_
  refine xi_iconst (pc' := 4) rfl rfl ?_
  refine xi_istore (pc' := 6) rfl (st1_6 rfl) rfl ?_
  exact c_dat_loop hb hka hca hsa ha3 hl hl2 h4 hm nn 0 (by omega) _ rfl
