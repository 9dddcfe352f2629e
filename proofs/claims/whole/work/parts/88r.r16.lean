theorem xi_iincmv {G : ex_G} {L : Nat} {xs : Nat → Int32} {D mi pc pc' : Nat} {lv lv' st : List Value} {h : ex_Hp} {Q : Option Value → ex_Hp → Prop} {i k : Nat} {x y : Int32} (hf : ex_look (ex_cd G mi) pc = some (.iinc i (.negSucc k))) (hl : lv[i]? = some (.int x)) (hv : x + - nI (k + 1) = y) (hs : ex_st1 lv i (.int y) = some lv') (hpc : pc + 3 = pc') (kk : xx G L xs D mi pc' lv' st h Q) : xx G L xs D mi pc lv st h Q := by
  subst hv
  exact xi_iincm hf hl hs hpc kk
theorem ix_dec (i : Nat) : nI (i + 1) + - nI (0 + 1) = nI i := by
  rw [← Int32.sub_eq_add_neg]
  exact ix_pred i
def en_bit (v b : Int32) : Int32 := (v >>> (b &&& 31)) &&& nI 1
def en_st (v b : Int32) (S : Int32 × Int64) : Int32 × Int64 := (S.1 + en_bit v b, lN 4 * S.2 + (if en_bit v b = nI 1 then lN 2 else lN 1))
def en_f (v : Int32) : Nat → Int32 × Int64 → Int32 × Int64
  | 0, S => en_st v (nI 0) S
  | i + 1, S => en_f v i (en_st v (nI (i + 1)) S)
theorem en_st1 {v b : Int32} {S : Int32 × Int64} (h : (v >>> (b &&& 31)) &&& nI 1 = nI 1) : en_st v b S = (S.1 + ((v >>> (b &&& 31)) &&& nI 1), lN 4 * S.2 + lN 2) := by
  unfold en_st en_bit
  rw [if_pos h]
theorem en_st0 {v b : Int32} {S : Int32 × Int64} (h : ¬ (v >>> (b &&& 31)) &&& nI 1 = nI 1) : en_st v b S = (S.1 + ((v >>> (b &&& 31)) &&& nI 1), lN 4 * S.2 + lN 1) := by
  unfold en_st en_bit
  rw [if_neg h]
theorem r_enc_loop {L : Nat} {xs : Nat → Int32} {D n : Nat} {I J : ex_Mem} {d v : Int32} {Q : Option Value → ex_Hp → Prop} : ∀ (i : Nat), i < 100 → ∀ S : Int32 × Int64, (∀ v6 v7 : Value, v6.category = 1 → v7.category = 1 → xx cb_G L xs (D + 1) 81 78 [.ref 52, .int d, .int v, .long (en_f v i S).2, ex_no, .int (en_f v i S).1, v6, v7] [] (mkH n I J) Q) → ∀ v7 : Value, v7.category = 1 → xx cb_G L xs (D + 1) 81 32 [.ref 52, .int d, .int v, .long S.2, ex_no, .int S.1, .int (nI i), v7] [] (mkH n I J) Q := by
  intro i
  induction i with
  | zero =>
    intro hi
    intro S kk v7 h7
    refine xi_iload (pc' := 34) rfl rfl rfl ?_
    refine xx_if (pc' := 37) (tg := 78) rfl rfl rfl (fun q34 => absurd q34 (show ¬ ex_P .lt (nI 0) 0 from nI_pos (by decide))) (fun q34 => ?_)
    refine xi_iload_n (pc' := 38) rfl rfl rfl ?_
    refine xi_iload (pc' := 40) rfl rfl rfl ?_
    refine xi_ishr (pc' := 41) rfl rfl ?_
    refine xi_iconst (pc' := 42) rfl rfl ?_
    refine xi_iand (pc' := 43) rfl rfl ?_
    refine xi_istore (pc' := 45) rfl (st1_7 rfl) rfl ?_
    refine xi_iload (pc' := 47) rfl rfl rfl ?_
    refine xi_iload (pc' := 49) rfl rfl rfl ?_
    refine xi_iadd (pc' := 50) rfl rfl ?_
    refine xi_istore (pc' := 52) rfl (st1_5 rfl) rfl ?_
    refine xx_ldc2 (v := lN 4) (pc' := 55) rfl rfl (by decide) rfl ?_
    refine xi_lload_n (pc' := 56) rfl rfl rfl ?_
    refine xi_lmul (pc' := 57) rfl rfl ?_
    refine xi_iload (pc' := 59) rfl rfl rfl ?_
    refine xi_iconst (pc' := 60) rfl rfl ?_
    refine xx_icmp (pc' := 63) (tg := 69) rfl rfl rfl (fun q60 => ?_) (fun q60 => ?_)
    · refine xi_lconst (pc' := 70) rfl rfl ?_
      refine xi_ladd (pc' := 71) rfl rfl ?_
      refine xi_lstore_n (pc' := 72) rfl (st2_3 rfl) rfl ?_
      refine xi_iincmv (y := - nI 1) (pc' := 75) rfl rfl (by decide) (st1_6 rfl) rfl ?_
      refine xi_goto (pc' := 32) rfl rfl ?_
      refine xi_iload (pc' := 34) rfl rfl rfl ?_
      refine xi_ift (pc' := 78) rfl rfl (by decide) ?_
      have e := fun w6 w7 g6 g7 => kk w6 w7 g6 g7
      rw [show en_f v 0 S = en_st v (nI 0) S from rfl] at e
      simp only [ex_P] at q60
      first | (rw [en_st1 (Classical.not_not.mp q60)] at e; exact e _ _ rfl rfl) | (rw [en_st0 q60] at e; exact e _ _ rfl rfl)
    · refine xx_ldc2 (v := lN 2) (pc' := 66) rfl rfl (by decide) rfl ?_
      refine xi_goto (pc' := 70) rfl rfl ?_
      refine xi_ladd (pc' := 71) rfl rfl ?_
      refine xi_lstore_n (pc' := 72) rfl (st2_3 rfl) rfl ?_
      refine xi_iincmv (y := - nI 1) (pc' := 75) rfl rfl (by decide) (st1_6 rfl) rfl ?_
      refine xi_goto (pc' := 32) rfl rfl ?_
      refine xi_iload (pc' := 34) rfl rfl rfl ?_
      refine xi_ift (pc' := 78) rfl rfl (by decide) ?_
      have e := fun w6 w7 g6 g7 => kk w6 w7 g6 g7
      rw [show en_f v 0 S = en_st v (nI 0) S from rfl] at e
      simp only [ex_P] at q60
      first | (rw [en_st1 (Classical.not_not.mp q60)] at e; exact e _ _ rfl rfl) | (rw [en_st0 q60] at e; exact e _ _ rfl rfl)
  | succ i ih =>
    intro hi
    have ih := ih (by omega)
    intro S kk v7 h7
    refine xi_iload (pc' := 34) rfl rfl rfl ?_
    refine xx_if (pc' := 37) (tg := 78) rfl rfl rfl (fun q34 => absurd q34 (show ¬ ex_P .lt (nI (i + 1)) 0 from nI_pos (by have := hi; omega))) (fun q34 => ?_)
    refine xi_iload_n (pc' := 38) rfl rfl rfl ?_
    refine xi_iload (pc' := 40) rfl rfl rfl ?_
    refine xi_ishr (pc' := 41) rfl rfl ?_
    refine xi_iconst (pc' := 42) rfl rfl ?_
    refine xi_iand (pc' := 43) rfl rfl ?_
    refine xi_istore (pc' := 45) rfl (st1_7 rfl) rfl ?_
    refine xi_iload (pc' := 47) rfl rfl rfl ?_
    refine xi_iload (pc' := 49) rfl rfl rfl ?_
    refine xi_iadd (pc' := 50) rfl rfl ?_
    refine xi_istore (pc' := 52) rfl (st1_5 rfl) rfl ?_
    refine xx_ldc2 (v := lN 4) (pc' := 55) rfl rfl (by decide) rfl ?_
    refine xi_lload_n (pc' := 56) rfl rfl rfl ?_
    refine xi_lmul (pc' := 57) rfl rfl ?_
    refine xi_iload (pc' := 59) rfl rfl rfl ?_
    refine xi_iconst (pc' := 60) rfl rfl ?_
    refine xx_icmp (pc' := 63) (tg := 69) rfl rfl rfl (fun q60 => ?_) (fun q60 => ?_)
    · refine xi_lconst (pc' := 70) rfl rfl ?_
      refine xi_ladd (pc' := 71) rfl rfl ?_
      refine xi_lstore_n (pc' := 72) rfl (st2_3 rfl) rfl ?_
      refine xi_iincmv (y := nI i) (pc' := 75) rfl rfl (ix_dec i) (st1_6 rfl) rfl ?_
      refine xi_goto (pc' := 32) rfl rfl ?_
      have e := ih (en_st v (nI (i + 1)) S) kk
      simp only [ex_P] at q60
      first | (rw [en_st1 (Classical.not_not.mp q60)] at e; exact e _ rfl) | (rw [en_st0 q60] at e; exact e _ rfl)
    · refine xx_ldc2 (v := lN 2) (pc' := 66) rfl rfl (by decide) rfl ?_
      refine xi_goto (pc' := 70) rfl rfl ?_
      refine xi_ladd (pc' := 71) rfl rfl ?_
      refine xi_lstore_n (pc' := 72) rfl (st2_3 rfl) rfl ?_
      refine xi_iincmv (y := nI i) (pc' := 75) rfl rfl (ix_dec i) (st1_6 rfl) rfl ?_
      refine xi_goto (pc' := 32) rfl rfl ?_
      have e := ih (en_st v (nI (i + 1)) S) kk
      simp only [ex_P] at q60
      first | (rw [en_st1 (Classical.not_not.mp q60)] at e; exact e _ rfl) | (rw [en_st0 q60] at e; exact e _ rfl)
def r_enc (d v : Int32) : Int64 := lN 4 * (en_f v 15 (nI 0, if d = 0 then lN 56 else lN 7)).2 + (if (en_f v 15 (nI 0, if d = 0 then lN 56 else lN 7)).1 - (en_f v 15 (nI 0, if d = 0 then lN 56 else lN 7)).1 / nI 2 * nI 2 = 0 then lN 2 else lN 1)
theorem r_encode1_56 {L : Nat} {xs : Nat → Int32} {D n : Nat} {I J : ex_Mem} {d v : Int32} (hv : vV v) (hd : d = 0) : rl L xs (D + 1) 81 [.ref 52, .int d, .int v] (mkH n I J) (r_enc d v) (mkH n I J) := by
  show xx cb_G _ _ _ 81 0 [.ref 52, .int d, .int v, ex_no, ex_no, ex_no, ex_no, ex_no] [] _ _
  refine xi_iload_n (pc' := 1) rfl rfl rfl ?_
  refine xx_callSi (pc' := 4) rfl rfl (by decide) rfl (Nat.le_of_ble_eq_true rfl) rfl rfl (r_isValue1 hv) ?_
  refine xi_ift (pc' := 11) rfl rfl (by decide) ?_
  refine xi_iload_n (pc' := 12) rfl rfl rfl ?_
  refine xx_if (pc' := 15) (tg := 21) rfl rfl rfl (fun q12 => ?_) (fun q12 => absurd (show ex_P .eq d 0 from hd) q12)
  refine xx_ldc2 (v := lN 56) (pc' := 24) rfl rfl (by decide) rfl ?_
  refine xi_lstore_n (pc' := 25) rfl (st2_3 rfl) rfl ?_
  refine xi_iconst (pc' := 26) rfl rfl ?_
  refine xi_istore (pc' := 28) rfl (st1_5 rfl) rfl ?_
  refine xi_bipush (pc' := 30) rfl (by decide) rfl ?_
  refine xi_istore (pc' := 32) rfl (st1_6 rfl) rfl ?_
  refine r_enc_loop 15 (by decide) (nI 0, lN 56) (fun w6 w7 g6 g7 => ?_) _ rfl
  refine xx_ldc2 (v := lN 4) (pc' := 81) rfl rfl (by decide) rfl ?_
  refine xi_lload_n (pc' := 82) rfl rfl rfl ?_
  refine xi_lmul (pc' := 83) rfl rfl ?_
  refine xi_iload (pc' := 85) rfl rfl rfl ?_
  refine xi_iconst (pc' := 86) rfl rfl ?_
  refine xi_irem (pc' := 87) rfl (by decide) rfl ?_
  refine xx_if (pc' := 90) (tg := 96) rfl rfl rfl (fun q87 => ?_) (fun q87 => ?_)
  · refine xi_lconst (pc' := 97) rfl rfl ?_
    refine xi_ladd (pc' := 98) rfl rfl ?_
    refine xx_lreturn rfl rfl ?_
    refine ⟨congrArg (fun w => some (Value.long w)) ?_, rfl⟩
    simp only [ex_P, Classical.not_not] at q87
    unfold r_enc
    rw [if_pos hd]
    first | (rw [if_pos q87] <;> rfl) | (rw [if_neg q87] <;> rfl)
  · refine xx_ldc2 (v := lN 2) (pc' := 93) rfl rfl (by decide) rfl ?_
    refine xi_goto (pc' := 97) rfl rfl ?_
    refine xi_ladd (pc' := 98) rfl rfl ?_
    refine xx_lreturn rfl rfl ?_
    refine ⟨congrArg (fun w => some (Value.long w)) ?_, rfl⟩
    simp only [ex_P, Classical.not_not] at q87
    unfold r_enc
    rw [if_pos hd]
    first | (rw [if_pos q87] <;> rfl) | (rw [if_neg q87] <;> rfl)
theorem r_encode1_7 {L : Nat} {xs : Nat → Int32} {D n : Nat} {I J : ex_Mem} {d v : Int32} (hv : vV v) (hd : ¬ d = 0) : rl L xs (D + 1) 81 [.ref 52, .int d, .int v] (mkH n I J) (r_enc d v) (mkH n I J) := by
  show xx cb_G _ _ _ 81 0 [.ref 52, .int d, .int v, ex_no, ex_no, ex_no, ex_no, ex_no] [] _ _
  refine xi_iload_n (pc' := 1) rfl rfl rfl ?_
  refine xx_callSi (pc' := 4) rfl rfl (by decide) rfl (Nat.le_of_ble_eq_true rfl) rfl rfl (r_isValue1 hv) ?_
  refine xi_ift (pc' := 11) rfl rfl (by decide) ?_
  refine xi_iload_n (pc' := 12) rfl rfl rfl ?_
  refine xx_if (pc' := 15) (tg := 21) rfl rfl rfl (fun q12 => absurd q12 (show ¬ ex_P .eq d 0 from hd)) (fun q12 => ?_)
  refine xx_ldc2 (v := lN 7) (pc' := 18) rfl rfl (by decide) rfl ?_
  refine xi_goto (pc' := 24) rfl rfl ?_
  refine xi_lstore_n (pc' := 25) rfl (st2_3 rfl) rfl ?_
  refine xi_iconst (pc' := 26) rfl rfl ?_
  refine xi_istore (pc' := 28) rfl (st1_5 rfl) rfl ?_
  refine xi_bipush (pc' := 30) rfl (by decide) rfl ?_
  refine xi_istore (pc' := 32) rfl (st1_6 rfl) rfl ?_
  refine r_enc_loop 15 (by decide) (nI 0, lN 7) (fun w6 w7 g6 g7 => ?_) _ rfl
  refine xx_ldc2 (v := lN 4) (pc' := 81) rfl rfl (by decide) rfl ?_
  refine xi_lload_n (pc' := 82) rfl rfl rfl ?_
  refine xi_lmul (pc' := 83) rfl rfl ?_
  refine xi_iload (pc' := 85) rfl rfl rfl ?_
  refine xi_iconst (pc' := 86) rfl rfl ?_
  refine xi_irem (pc' := 87) rfl (by decide) rfl ?_
  refine xx_if (pc' := 90) (tg := 96) rfl rfl rfl (fun q87 => ?_) (fun q87 => ?_)
  · refine xi_lconst (pc' := 97) rfl rfl ?_
    refine xi_ladd (pc' := 98) rfl rfl ?_
    refine xx_lreturn rfl rfl ?_
    refine ⟨congrArg (fun w => some (Value.long w)) ?_, rfl⟩
    simp only [ex_P, Classical.not_not] at q87
    unfold r_enc
    rw [if_neg hd]
    first | (rw [if_pos q87] <;> rfl) | (rw [if_neg q87] <;> rfl)
  · refine xx_ldc2 (v := lN 2) (pc' := 93) rfl rfl (by decide) rfl ?_
    refine xi_goto (pc' := 97) rfl rfl ?_
    refine xi_ladd (pc' := 98) rfl rfl ?_
    refine xx_lreturn rfl rfl ?_
    refine ⟨congrArg (fun w => some (Value.long w)) ?_, rfl⟩
    simp only [ex_P, Classical.not_not] at q87
    unfold r_enc
    rw [if_neg hd]
    first | (rw [if_pos q87] <;> rfl) | (rw [if_neg q87] <;> rfl)
theorem r_encode1 {L : Nat} {xs : Nat → Int32} {D n : Nat} {I J : ex_Mem} {d v : Int32} (hv : vV v) : rl L xs (D + 1) 81 [.ref 52, .int d, .int v] (mkH n I J) (r_enc d v) (mkH n I J) := by
  by_cases hd : d = 0
  · exact r_encode1_56 hv hd
  · exact r_encode1_7 hv hd
theorem r_encode0 {L : Nat} {xs : Nat → Int32} {D n : Nat} {I J : ex_Mem} {d v : Int32} (hv : ¬ vV v) : rl L xs (D + 1) 81 [.ref 52, .int d, .int v] (mkH n I J) (- lN 1) (mkH n I J) := by
  show xx cb_G _ _ _ 81 0 [.ref 52, .int d, .int v, ex_no, ex_no, ex_no, ex_no, ex_no] [] _ _
  refine xi_iload_n (pc' := 1) rfl rfl rfl ?_
  refine xx_callSi (pc' := 4) rfl rfl (by decide) rfl (Nat.le_of_ble_eq_true rfl) rfl rfl (r_isValue0 hv) ?_
  refine xi_iff (pc' := 7) (tg := 11) rfl rfl (by decide) rfl ?_
  refine xx_ldc2 (v := - lN 1) (pc' := 10) rfl rfl (by decide) rfl ?_
  refine xx_lreturn rfl rfl ?_
  exact ⟨rfl, rfl⟩
