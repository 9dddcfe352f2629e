def vLo (h : Int64) : Prop := ¬ lg_cmp h (lN 0) < 0 ∧ lg_cmp h (lN 1099511627775) ≤ 0
def de_sy (h : Int64) : Int32 := (h >>> ((nI 34).toInt64 &&& 63)).toInt32
def de_two (h : Int64) (k : Int32) : Int32 := ((h >>> ((nI 2 * k).toInt64 &&& 63)) &&& lN 3).toInt32
def de_bit (h : Int64) (k : Int32) : Int32 := if de_two h k = nI 2 then nI 1 else nI 0
def de_same (h : Int64) (k s : Int32) : Int32 := if s = 0 then (if de_two h k = 0 then nI 1 else if de_two h k = nI 3 then nI 1 else nI 0) else nI 1
def de_st (h : Int64) (k : Int32) (S : Int32 × Int32 × Int32) : Int32 × Int32 × Int32 := (if k ≤ 0 then S.1 else nI 2 * S.1 + de_bit h k, S.2.1 + de_bit h k, de_same h k S.2.2)
def de_f (h : Int64) : Nat → Int32 × Int32 × Int32 → Int32 × Int32 × Int32
  | 0, S => de_st h (nI 0) S
  | i + 1, S => de_f h i (de_st h (nI (i + 1)) S)
def r_dec (h : Int64) (S : Int32 × Int32 × Int32) : Int32 := if S.2.2 = 0 then (if S.2.1 - S.2.1 / nI 2 * nI 2 = 0 then - nI 5 else if de_sy h = nI 7 then nI 65536 + S.1 else S.1) else - nI 4
theorem r_decode_b {L : Nat} {xs : Nat → Int32} {D n : Nat} {I J : ex_Mem} {h : Int64} (hb : ¬ vLo h) : ri L xs D 83 [.ref 52, .long h] (mkH n I J) (- nI 1) (mkH n I J) := by
  show xx cb_G _ _ _ 83 0 [.ref 52, .long h, ex_no, ex_no, ex_no, ex_no, ex_no, ex_no, ex_no, ex_no] [] _ _
  refine xi_lload_n (pc' := 1) rfl rfl rfl ?_
  refine xi_lconst (pc' := 2) rfl rfl ?_
  refine xi_lcmp (pc' := 3) rfl rfl ?_
  refine xx_if (pc' := 6) (tg := 14) rfl rfl rfl (fun q3 => ?_) (fun q3 => ?_)
  · refine xi_iconstm (pc' := 15) rfl rfl ?_
    refine xx_ireturn rfl rfl ?_
    exact ⟨rfl, rfl⟩
  · refine xi_lload_n (pc' := 7) rfl rfl rfl ?_
    refine xx_ldc2 (v := lN 1099511627775) (pc' := 10) rfl rfl (by decide) rfl ?_
    refine xi_lcmp (pc' := 11) rfl rfl ?_
    refine xx_if (pc' := 14) (tg := 16) rfl rfl rfl (fun q11 => ?_) (fun q11 => ?_)
    · exact absurd ⟨q3, q11⟩ hb
    · refine xi_iconstm (pc' := 15) rfl rfl ?_
      refine xx_ireturn rfl rfl ?_
      exact ⟨rfl, rfl⟩
theorem r_decode_s {L : Nat} {xs : Nat → Int32} {D n : Nat} {I J : ex_Mem} {h : Int64} (hv : vLo h) (h7 : ¬ de_sy h = nI 7) (h56 : ¬ de_sy h = nI 56) : ri L xs D 83 [.ref 52, .long h] (mkH n I J) (- nI 3) (mkH n I J) := by
  show xx cb_G _ _ _ 83 0 [.ref 52, .long h, ex_no, ex_no, ex_no, ex_no, ex_no, ex_no, ex_no, ex_no] [] _ _
  refine xi_lload_n (pc' := 1) rfl rfl rfl ?_
  refine xi_lconst (pc' := 2) rfl rfl ?_
  refine xi_lcmp (pc' := 3) rfl rfl ?_
  refine xx_if (pc' := 6) (tg := 14) rfl rfl rfl (fun q3 => absurd q3 (hv.1)) (fun q3 => ?_)
  refine xi_lload_n (pc' := 7) rfl rfl rfl ?_
  refine xx_ldc2 (v := lN 1099511627775) (pc' := 10) rfl rfl (by decide) rfl ?_
  refine xi_lcmp (pc' := 11) rfl rfl ?_
  refine xx_if (pc' := 14) (tg := 16) rfl rfl rfl (fun q11 => ?_) (fun q11 => absurd (hv.2) q11)
  refine xi_lload_n (pc' := 17) rfl rfl rfl ?_
  refine xi_bipush (pc' := 19) rfl (by decide) rfl ?_
  refine xi_lshr (pc' := 20) rfl rfl ?_
  refine xi_l2i (pc' := 21) rfl rfl ?_
  refine xi_istore_n (pc' := 22) rfl (st1_3 rfl) rfl ?_
  refine xi_iload_n (pc' := 23) rfl rfl rfl ?_
  refine xi_bipush (pc' := 25) rfl (by decide) rfl ?_
  refine xx_icmp (pc' := 28) (tg := 37) rfl rfl rfl (fun q25 => absurd q25 (h7)) (fun q25 => ?_)
  refine xi_iload_n (pc' := 29) rfl rfl rfl ?_
  refine xi_bipush (pc' := 31) rfl (by decide) rfl ?_
  refine xx_icmp (pc' := 34) (tg := 37) rfl rfl rfl (fun q31 => absurd q31 (h56)) (fun q31 => ?_)
  refine xi_bipushm (pc' := 36) rfl (by decide) rfl ?_
  refine xx_ireturn rfl rfl ?_
  exact ⟨rfl, rfl⟩
theorem r_dec_loop {L : Nat} {xs : Nat → Int32} {D n : Nat} {I J : ex_Mem} {h : Int64} {Q : Option Value → ex_Hp → Prop} : ∀ (i : Nat), i < 100 → ∀ S : Int32 × Int32 × Int32, (∀ v7 v8 v9 : Value, v7.category = 1 → v8.category = 1 → v9.category = 1 → xx cb_G L xs D 83 136 [.ref 52, .long h, ex_no, .int (de_sy h), .int (de_f h i S).1, .int (de_f h i S).2.1, .int (de_f h i S).2.2, v7, v8, v9] [] (mkH n I J) Q) → ∀ v8 v9 : Value, v8.category = 1 → v9.category = 1 → xx cb_G L xs D 83 50 [.ref 52, .long h, ex_no, .int (de_sy h), .int S.1, .int S.2.1, .int S.2.2, .int (nI i), v8, v9] [] (mkH n I J) Q := by
  intro i
  induction i with
  | zero =>
    intro hi
    intro S kk v8 v9 h8 h9
    refine xi_iload (pc' := 52) rfl rfl rfl ?_
    refine xx_if (pc' := 55) (tg := 136) rfl rfl rfl (fun q52 => absurd q52 (show ¬ ex_P .lt (nI 0) 0 from nI_pos (by decide))) (fun q52 => ?_)
    refine xi_lload_n (pc' := 56) rfl rfl rfl ?_
    refine xi_iconst (pc' := 57) rfl rfl ?_
    refine xi_iload (pc' := 59) rfl rfl rfl ?_
    refine xi_imul (pc' := 60) rfl rfl ?_
    refine xi_lshr (pc' := 61) rfl rfl ?_
    refine xx_ldc2 (v := lN 3) (pc' := 64) rfl rfl (by decide) rfl ?_
    refine xi_land (pc' := 65) rfl rfl ?_
    refine xi_l2i (pc' := 66) rfl rfl ?_
    refine xi_istore (pc' := 68) rfl (st1_8 rfl) rfl ?_
    refine xi_iload (pc' := 70) rfl rfl rfl ?_
    refine xx_if (pc' := 73) (tg := 84) rfl rfl rfl (fun q70 => ?_) (fun q70 => ?_)
    · refine xi_iconst (pc' := 85) rfl rfl ?_
      refine xi_goto (pc' := 89) rfl rfl ?_
      refine xi_istore (pc' := 91) rfl (st1_6 rfl) rfl ?_
      refine xi_iload (pc' := 93) rfl rfl rfl ?_
      refine xi_iconst (pc' := 94) rfl rfl ?_
      refine xx_icmp (pc' := 97) (tg := 101) rfl rfl rfl (fun q94 => ?_) (fun q94 => ?_)
      · refine xi_iconst (pc' := 102) rfl rfl ?_
        refine xi_istore (pc' := 104) rfl (st1_9 rfl) rfl ?_
        refine xi_iload (pc' := 106) rfl rfl rfl ?_
        refine xi_iload (pc' := 108) rfl rfl rfl ?_
        refine xi_iadd (pc' := 109) rfl rfl ?_
        refine xi_istore (pc' := 111) rfl (st1_5 rfl) rfl ?_
        refine xi_iload (pc' := 113) rfl rfl rfl ?_
        refine xx_if (pc' := 116) (tg := 126) rfl rfl rfl (fun q113 => ?_) (fun q113 => absurd (show ex_P .le (nI 0) 0 from by unfold ex_P; decide) q113)
        refine xi_iload (pc' := 128) rfl rfl rfl ?_
        refine xi_istore (pc' := 130) rfl (st1_4 rfl) rfl ?_
        refine xi_iincmv (y := - nI 1) (pc' := 133) rfl rfl (by decide) (st1_7 rfl) rfl ?_
        refine xi_goto (pc' := 50) rfl rfl ?_
        have es : de_same h (nI 0) S.2.2 = nI 1 := by
          unfold de_same de_two
          simp only [ex_P] at *
          first | (rw [if_neg q70]; done) | (rw [if_pos (Classical.not_not.mp q70), if_pos q75]; done) | (rw [if_pos (Classical.not_not.mp q70), if_neg q75, if_pos (Classical.not_not.mp q81)]; done) | (rw [if_pos (Classical.not_not.mp q70), if_neg q75, if_neg q81]; done)
        have eb : de_bit h (nI 0) = nI 0 := by
          unfold de_bit de_two
          simp only [ex_P] at *
          first | (rw [if_neg q94]; done) | (rw [if_pos (Classical.not_not.mp q94)]; done)
        have et : de_st h (nI 0) S = (S.1, S.2.1 + nI 0, nI 1) := by
          unfold de_st
          rw [es, eb, if_pos (by decide)]
        refine xi_iload (pc' := 52) rfl rfl rfl ?_
        refine xi_ift (pc' := 136) rfl rfl (by decide) ?_
        have e := fun w7 w8 w9 g7 g8 g9 => kk w7 w8 w9 g7 g8 g9
        rw [show de_f h 0 S = de_st h (nI 0) S from rfl, et] at e
        exact e _ _ _ rfl rfl rfl
      · refine xi_iconst (pc' := 98) rfl rfl ?_
        refine xi_goto (pc' := 102) rfl rfl ?_
        refine xi_istore (pc' := 104) rfl (st1_9 rfl) rfl ?_
        refine xi_iload (pc' := 106) rfl rfl rfl ?_
        refine xi_iload (pc' := 108) rfl rfl rfl ?_
        refine xi_iadd (pc' := 109) rfl rfl ?_
        refine xi_istore (pc' := 111) rfl (st1_5 rfl) rfl ?_
        refine xi_iload (pc' := 113) rfl rfl rfl ?_
        refine xx_if (pc' := 116) (tg := 126) rfl rfl rfl (fun q113 => ?_) (fun q113 => absurd (show ex_P .le (nI 0) 0 from by unfold ex_P; decide) q113)
        refine xi_iload (pc' := 128) rfl rfl rfl ?_
        refine xi_istore (pc' := 130) rfl (st1_4 rfl) rfl ?_
        refine xi_iincmv (y := - nI 1) (pc' := 133) rfl rfl (by decide) (st1_7 rfl) rfl ?_
        refine xi_goto (pc' := 50) rfl rfl ?_
        have es : de_same h (nI 0) S.2.2 = nI 1 := by
          unfold de_same de_two
          simp only [ex_P] at *
          first | (rw [if_neg q70]; done) | (rw [if_pos (Classical.not_not.mp q70), if_pos q75]; done) | (rw [if_pos (Classical.not_not.mp q70), if_neg q75, if_pos (Classical.not_not.mp q81)]; done) | (rw [if_pos (Classical.not_not.mp q70), if_neg q75, if_neg q81]; done)
        have eb : de_bit h (nI 0) = nI 1 := by
          unfold de_bit de_two
          simp only [ex_P] at *
          first | (rw [if_neg q94]; done) | (rw [if_pos (Classical.not_not.mp q94)]; done)
        have et : de_st h (nI 0) S = (S.1, S.2.1 + nI 1, nI 1) := by
          unfold de_st
          rw [es, eb, if_pos (by decide)]
        refine xi_iload (pc' := 52) rfl rfl rfl ?_
        refine xi_ift (pc' := 136) rfl rfl (by decide) ?_
        have e := fun w7 w8 w9 g7 g8 g9 => kk w7 w8 w9 g7 g8 g9
        rw [show de_f h 0 S = de_st h (nI 0) S from rfl, et] at e
        exact e _ _ _ rfl rfl rfl
    · refine xi_iload (pc' := 75) rfl rfl rfl ?_
      refine xx_if (pc' := 78) (tg := 84) rfl rfl rfl (fun q75 => ?_) (fun q75 => ?_)
      · refine xi_iconst (pc' := 85) rfl rfl ?_
        refine xi_goto (pc' := 89) rfl rfl ?_
        refine xi_istore (pc' := 91) rfl (st1_6 rfl) rfl ?_
        refine xi_iload (pc' := 93) rfl rfl rfl ?_
        refine xi_iconst (pc' := 94) rfl rfl ?_
        refine xx_icmp (pc' := 97) (tg := 101) rfl rfl rfl (fun q94 => ?_) (fun q94 => ?_)
        · refine xi_iconst (pc' := 102) rfl rfl ?_
          refine xi_istore (pc' := 104) rfl (st1_9 rfl) rfl ?_
          refine xi_iload (pc' := 106) rfl rfl rfl ?_
          refine xi_iload (pc' := 108) rfl rfl rfl ?_
          refine xi_iadd (pc' := 109) rfl rfl ?_
          refine xi_istore (pc' := 111) rfl (st1_5 rfl) rfl ?_
          refine xi_iload (pc' := 113) rfl rfl rfl ?_
          refine xx_if (pc' := 116) (tg := 126) rfl rfl rfl (fun q113 => ?_) (fun q113 => absurd (show ex_P .le (nI 0) 0 from by unfold ex_P; decide) q113)
          refine xi_iload (pc' := 128) rfl rfl rfl ?_
          refine xi_istore (pc' := 130) rfl (st1_4 rfl) rfl ?_
          refine xi_iincmv (y := - nI 1) (pc' := 133) rfl rfl (by decide) (st1_7 rfl) rfl ?_
          refine xi_goto (pc' := 50) rfl rfl ?_
          have es : de_same h (nI 0) S.2.2 = nI 1 := by
            unfold de_same de_two
            simp only [ex_P] at *
            first | (rw [if_neg q70]; done) | (rw [if_pos (Classical.not_not.mp q70), if_pos q75]; done) | (rw [if_pos (Classical.not_not.mp q70), if_neg q75, if_pos (Classical.not_not.mp q81)]; done) | (rw [if_pos (Classical.not_not.mp q70), if_neg q75, if_neg q81]; done)
          have eb : de_bit h (nI 0) = nI 0 := by
            unfold de_bit de_two
            simp only [ex_P] at *
            first | (rw [if_neg q94]; done) | (rw [if_pos (Classical.not_not.mp q94)]; done)
          have et : de_st h (nI 0) S = (S.1, S.2.1 + nI 0, nI 1) := by
            unfold de_st
            rw [es, eb, if_pos (by decide)]
          refine xi_iload (pc' := 52) rfl rfl rfl ?_
          refine xi_ift (pc' := 136) rfl rfl (by decide) ?_
          have e := fun w7 w8 w9 g7 g8 g9 => kk w7 w8 w9 g7 g8 g9
          rw [show de_f h 0 S = de_st h (nI 0) S from rfl, et] at e
          exact e _ _ _ rfl rfl rfl
        · refine xi_iconst (pc' := 98) rfl rfl ?_
          refine xi_goto (pc' := 102) rfl rfl ?_
          refine xi_istore (pc' := 104) rfl (st1_9 rfl) rfl ?_
          refine xi_iload (pc' := 106) rfl rfl rfl ?_
          refine xi_iload (pc' := 108) rfl rfl rfl ?_
          refine xi_iadd (pc' := 109) rfl rfl ?_
          refine xi_istore (pc' := 111) rfl (st1_5 rfl) rfl ?_
          refine xi_iload (pc' := 113) rfl rfl rfl ?_
          refine xx_if (pc' := 116) (tg := 126) rfl rfl rfl (fun q113 => ?_) (fun q113 => absurd (show ex_P .le (nI 0) 0 from by unfold ex_P; decide) q113)
          refine xi_iload (pc' := 128) rfl rfl rfl ?_
          refine xi_istore (pc' := 130) rfl (st1_4 rfl) rfl ?_
          refine xi_iincmv (y := - nI 1) (pc' := 133) rfl rfl (by decide) (st1_7 rfl) rfl ?_
          refine xi_goto (pc' := 50) rfl rfl ?_
          have es : de_same h (nI 0) S.2.2 = nI 1 := by
            unfold de_same de_two
            simp only [ex_P] at *
            first | (rw [if_neg q70]; done) | (rw [if_pos (Classical.not_not.mp q70), if_pos q75]; done) | (rw [if_pos (Classical.not_not.mp q70), if_neg q75, if_pos (Classical.not_not.mp q81)]; done) | (rw [if_pos (Classical.not_not.mp q70), if_neg q75, if_neg q81]; done)
          have eb : de_bit h (nI 0) = nI 1 := by
            unfold de_bit de_two
            simp only [ex_P] at *
            first | (rw [if_neg q94]; done) | (rw [if_pos (Classical.not_not.mp q94)]; done)
          have et : de_st h (nI 0) S = (S.1, S.2.1 + nI 1, nI 1) := by
            unfold de_st
            rw [es, eb, if_pos (by decide)]
          refine xi_iload (pc' := 52) rfl rfl rfl ?_
          refine xi_ift (pc' := 136) rfl rfl (by decide) ?_
          have e := fun w7 w8 w9 g7 g8 g9 => kk w7 w8 w9 g7 g8 g9
          rw [show de_f h 0 S = de_st h (nI 0) S from rfl, et] at e
          exact e _ _ _ rfl rfl rfl
      · refine xi_iload (pc' := 80) rfl rfl rfl ?_
        refine xi_iconst (pc' := 81) rfl rfl ?_
        refine xx_icmp (pc' := 84) (tg := 88) rfl rfl rfl (fun q81 => ?_) (fun q81 => ?_)
        · refine xi_iconst (pc' := 89) rfl rfl ?_
          refine xi_istore (pc' := 91) rfl (st1_6 rfl) rfl ?_
          refine xi_iload (pc' := 93) rfl rfl rfl ?_
          refine xi_iconst (pc' := 94) rfl rfl ?_
          refine xx_icmp (pc' := 97) (tg := 101) rfl rfl rfl (fun q94 => ?_) (fun q94 => ?_)
          · refine xi_iconst (pc' := 102) rfl rfl ?_
            refine xi_istore (pc' := 104) rfl (st1_9 rfl) rfl ?_
            refine xi_iload (pc' := 106) rfl rfl rfl ?_
            refine xi_iload (pc' := 108) rfl rfl rfl ?_
            refine xi_iadd (pc' := 109) rfl rfl ?_
            refine xi_istore (pc' := 111) rfl (st1_5 rfl) rfl ?_
            refine xi_iload (pc' := 113) rfl rfl rfl ?_
            refine xx_if (pc' := 116) (tg := 126) rfl rfl rfl (fun q113 => ?_) (fun q113 => absurd (show ex_P .le (nI 0) 0 from by unfold ex_P; decide) q113)
            refine xi_iload (pc' := 128) rfl rfl rfl ?_
            refine xi_istore (pc' := 130) rfl (st1_4 rfl) rfl ?_
            refine xi_iincmv (y := - nI 1) (pc' := 133) rfl rfl (by decide) (st1_7 rfl) rfl ?_
            refine xi_goto (pc' := 50) rfl rfl ?_
            have es : de_same h (nI 0) S.2.2 = nI 0 := by
              unfold de_same de_two
              simp only [ex_P] at *
              first | (rw [if_neg q70]; done) | (rw [if_pos (Classical.not_not.mp q70), if_pos q75]; done) | (rw [if_pos (Classical.not_not.mp q70), if_neg q75, if_pos (Classical.not_not.mp q81)]; done) | (rw [if_pos (Classical.not_not.mp q70), if_neg q75, if_neg q81]; done)
            have eb : de_bit h (nI 0) = nI 0 := by
              unfold de_bit de_two
              simp only [ex_P] at *
              first | (rw [if_neg q94]; done) | (rw [if_pos (Classical.not_not.mp q94)]; done)
            have et : de_st h (nI 0) S = (S.1, S.2.1 + nI 0, nI 0) := by
              unfold de_st
              rw [es, eb, if_pos (by decide)]
            refine xi_iload (pc' := 52) rfl rfl rfl ?_
            refine xi_ift (pc' := 136) rfl rfl (by decide) ?_
            have e := fun w7 w8 w9 g7 g8 g9 => kk w7 w8 w9 g7 g8 g9
            rw [show de_f h 0 S = de_st h (nI 0) S from rfl, et] at e
            exact e _ _ _ rfl rfl rfl
          · refine xi_iconst (pc' := 98) rfl rfl ?_
            refine xi_goto (pc' := 102) rfl rfl ?_
            refine xi_istore (pc' := 104) rfl (st1_9 rfl) rfl ?_
            refine xi_iload (pc' := 106) rfl rfl rfl ?_
            refine xi_iload (pc' := 108) rfl rfl rfl ?_
            refine xi_iadd (pc' := 109) rfl rfl ?_
            refine xi_istore (pc' := 111) rfl (st1_5 rfl) rfl ?_
            refine xi_iload (pc' := 113) rfl rfl rfl ?_
            refine xx_if (pc' := 116) (tg := 126) rfl rfl rfl (fun q113 => ?_) (fun q113 => absurd (show ex_P .le (nI 0) 0 from by unfold ex_P; decide) q113)
            refine xi_iload (pc' := 128) rfl rfl rfl ?_
            refine xi_istore (pc' := 130) rfl (st1_4 rfl) rfl ?_
            refine xi_iincmv (y := - nI 1) (pc' := 133) rfl rfl (by decide) (st1_7 rfl) rfl ?_
            refine xi_goto (pc' := 50) rfl rfl ?_
            have es : de_same h (nI 0) S.2.2 = nI 0 := by
              unfold de_same de_two
              simp only [ex_P] at *
              first | (rw [if_neg q70]; done) | (rw [if_pos (Classical.not_not.mp q70), if_pos q75]; done) | (rw [if_pos (Classical.not_not.mp q70), if_neg q75, if_pos (Classical.not_not.mp q81)]; done) | (rw [if_pos (Classical.not_not.mp q70), if_neg q75, if_neg q81]; done)
            have eb : de_bit h (nI 0) = nI 1 := by
              unfold de_bit de_two
              simp only [ex_P] at *
              first | (rw [if_neg q94]; done) | (rw [if_pos (Classical.not_not.mp q94)]; done)
            have et : de_st h (nI 0) S = (S.1, S.2.1 + nI 1, nI 0) := by
              unfold de_st
              rw [es, eb, if_pos (by decide)]
            refine xi_iload (pc' := 52) rfl rfl rfl ?_
            refine xi_ift (pc' := 136) rfl rfl (by decide) ?_
            have e := fun w7 w8 w9 g7 g8 g9 => kk w7 w8 w9 g7 g8 g9
            rw [show de_f h 0 S = de_st h (nI 0) S from rfl, et] at e
            exact e _ _ _ rfl rfl rfl
        · refine xi_iconst (pc' := 85) rfl rfl ?_
          refine xi_goto (pc' := 89) rfl rfl ?_
          refine xi_istore (pc' := 91) rfl (st1_6 rfl) rfl ?_
          refine xi_iload (pc' := 93) rfl rfl rfl ?_
          refine xi_iconst (pc' := 94) rfl rfl ?_
          refine xx_icmp (pc' := 97) (tg := 101) rfl rfl rfl (fun q94 => ?_) (fun q94 => ?_)
          · refine xi_iconst (pc' := 102) rfl rfl ?_
            refine xi_istore (pc' := 104) rfl (st1_9 rfl) rfl ?_
            refine xi_iload (pc' := 106) rfl rfl rfl ?_
            refine xi_iload (pc' := 108) rfl rfl rfl ?_
            refine xi_iadd (pc' := 109) rfl rfl ?_
            refine xi_istore (pc' := 111) rfl (st1_5 rfl) rfl ?_
            refine xi_iload (pc' := 113) rfl rfl rfl ?_
            refine xx_if (pc' := 116) (tg := 126) rfl rfl rfl (fun q113 => ?_) (fun q113 => absurd (show ex_P .le (nI 0) 0 from by unfold ex_P; decide) q113)
            refine xi_iload (pc' := 128) rfl rfl rfl ?_
            refine xi_istore (pc' := 130) rfl (st1_4 rfl) rfl ?_
            refine xi_iincmv (y := - nI 1) (pc' := 133) rfl rfl (by decide) (st1_7 rfl) rfl ?_
            refine xi_goto (pc' := 50) rfl rfl ?_
            have es : de_same h (nI 0) S.2.2 = nI 1 := by
              unfold de_same de_two
              simp only [ex_P] at *
              first | (rw [if_neg q70]; done) | (rw [if_pos (Classical.not_not.mp q70), if_pos q75]; done) | (rw [if_pos (Classical.not_not.mp q70), if_neg q75, if_pos (Classical.not_not.mp q81)]; done) | (rw [if_pos (Classical.not_not.mp q70), if_neg q75, if_neg q81]; done)
            have eb : de_bit h (nI 0) = nI 0 := by
              unfold de_bit de_two
              simp only [ex_P] at *
              first | (rw [if_neg q94]; done) | (rw [if_pos (Classical.not_not.mp q94)]; done)
            have et : de_st h (nI 0) S = (S.1, S.2.1 + nI 0, nI 1) := by
              unfold de_st
              rw [es, eb, if_pos (by decide)]
            refine xi_iload (pc' := 52) rfl rfl rfl ?_
            refine xi_ift (pc' := 136) rfl rfl (by decide) ?_
            have e := fun w7 w8 w9 g7 g8 g9 => kk w7 w8 w9 g7 g8 g9
            rw [show de_f h 0 S = de_st h (nI 0) S from rfl, et] at e
            exact e _ _ _ rfl rfl rfl
          · refine xi_iconst (pc' := 98) rfl rfl ?_
            refine xi_goto (pc' := 102) rfl rfl ?_
            refine xi_istore (pc' := 104) rfl (st1_9 rfl) rfl ?_
            refine xi_iload (pc' := 106) rfl rfl rfl ?_
            refine xi_iload (pc' := 108) rfl rfl rfl ?_
            refine xi_iadd (pc' := 109) rfl rfl ?_
            refine xi_istore (pc' := 111) rfl (st1_5 rfl) rfl ?_
            refine xi_iload (pc' := 113) rfl rfl rfl ?_
            refine xx_if (pc' := 116) (tg := 126) rfl rfl rfl (fun q113 => ?_) (fun q113 => absurd (show ex_P .le (nI 0) 0 from by unfold ex_P; decide) q113)
            refine xi_iload (pc' := 128) rfl rfl rfl ?_
            refine xi_istore (pc' := 130) rfl (st1_4 rfl) rfl ?_
            refine xi_iincmv (y := - nI 1) (pc' := 133) rfl rfl (by decide) (st1_7 rfl) rfl ?_
            refine xi_goto (pc' := 50) rfl rfl ?_
            have es : de_same h (nI 0) S.2.2 = nI 1 := by
              unfold de_same de_two
              simp only [ex_P] at *
              first | (rw [if_neg q70]; done) | (rw [if_pos (Classical.not_not.mp q70), if_pos q75]; done) | (rw [if_pos (Classical.not_not.mp q70), if_neg q75, if_pos (Classical.not_not.mp q81)]; done) | (rw [if_pos (Classical.not_not.mp q70), if_neg q75, if_neg q81]; done)
            have eb : de_bit h (nI 0) = nI 1 := by
              unfold de_bit de_two
              simp only [ex_P] at *
              first | (rw [if_neg q94]; done) | (rw [if_pos (Classical.not_not.mp q94)]; done)
            have et : de_st h (nI 0) S = (S.1, S.2.1 + nI 1, nI 1) := by
              unfold de_st
              rw [es, eb, if_pos (by decide)]
            refine xi_iload (pc' := 52) rfl rfl rfl ?_
            refine xi_ift (pc' := 136) rfl rfl (by decide) ?_
            have e := fun w7 w8 w9 g7 g8 g9 => kk w7 w8 w9 g7 g8 g9
            rw [show de_f h 0 S = de_st h (nI 0) S from rfl, et] at e
            exact e _ _ _ rfl rfl rfl
  | succ i ih =>
    intro hi
    have ih := ih (by omega)
    intro S kk v8 v9 h8 h9
    refine xi_iload (pc' := 52) rfl rfl rfl ?_
    refine xx_if (pc' := 55) (tg := 136) rfl rfl rfl (fun q52 => absurd q52 (show ¬ ex_P .lt (nI (i + 1)) 0 from nI_pos (by omega))) (fun q52 => ?_)
    refine xi_lload_n (pc' := 56) rfl rfl rfl ?_
    refine xi_iconst (pc' := 57) rfl rfl ?_
    refine xi_iload (pc' := 59) rfl rfl rfl ?_
    refine xi_imul (pc' := 60) rfl rfl ?_
    refine xi_lshr (pc' := 61) rfl rfl ?_
    refine xx_ldc2 (v := lN 3) (pc' := 64) rfl rfl (by decide) rfl ?_
    refine xi_land (pc' := 65) rfl rfl ?_
    refine xi_l2i (pc' := 66) rfl rfl ?_
    refine xi_istore (pc' := 68) rfl (st1_8 rfl) rfl ?_
    refine xi_iload (pc' := 70) rfl rfl rfl ?_
    refine xx_if (pc' := 73) (tg := 84) rfl rfl rfl (fun q70 => ?_) (fun q70 => ?_)
    · refine xi_iconst (pc' := 85) rfl rfl ?_
      refine xi_goto (pc' := 89) rfl rfl ?_
      refine xi_istore (pc' := 91) rfl (st1_6 rfl) rfl ?_
      refine xi_iload (pc' := 93) rfl rfl rfl ?_
      refine xi_iconst (pc' := 94) rfl rfl ?_
      refine xx_icmp (pc' := 97) (tg := 101) rfl rfl rfl (fun q94 => ?_) (fun q94 => ?_)
      · refine xi_iconst (pc' := 102) rfl rfl ?_
        refine xi_istore (pc' := 104) rfl (st1_9 rfl) rfl ?_
        refine xi_iload (pc' := 106) rfl rfl rfl ?_
        refine xi_iload (pc' := 108) rfl rfl rfl ?_
        refine xi_iadd (pc' := 109) rfl rfl ?_
        refine xi_istore (pc' := 111) rfl (st1_5 rfl) rfl ?_
        refine xi_iload (pc' := 113) rfl rfl rfl ?_
        refine xx_if (pc' := 116) (tg := 126) rfl rfl rfl (fun q113 => absurd q113 (show ¬ ex_P .le (nI (i + 1)) 0 from Int32.not_le.mpr (nI_lt (by omega) (by omega) : nI 0 < nI (i + 1)))) (fun q113 => ?_)
        refine xi_iconst (pc' := 117) rfl rfl ?_
        refine xi_iload (pc' := 119) rfl rfl rfl ?_
        refine xi_imul (pc' := 120) rfl rfl ?_
        refine xi_iload (pc' := 122) rfl rfl rfl ?_
        refine xi_iadd (pc' := 123) rfl rfl ?_
        refine xi_goto (pc' := 128) rfl rfl ?_
        refine xi_istore (pc' := 130) rfl (st1_4 rfl) rfl ?_
        refine xi_iincmv (y := nI i) (pc' := 133) rfl rfl (ix_dec i) (st1_7 rfl) rfl ?_
        refine xi_goto (pc' := 50) rfl rfl ?_
        have es : de_same h (nI (i + 1)) S.2.2 = nI 1 := by
          unfold de_same de_two
          simp only [ex_P] at *
          first | (rw [if_neg q70]; done) | (rw [if_pos (Classical.not_not.mp q70), if_pos q75]; done) | (rw [if_pos (Classical.not_not.mp q70), if_neg q75, if_pos (Classical.not_not.mp q81)]; done) | (rw [if_pos (Classical.not_not.mp q70), if_neg q75, if_neg q81]; done)
        have eb : de_bit h (nI (i + 1)) = nI 0 := by
          unfold de_bit de_two
          simp only [ex_P] at *
          first | (rw [if_neg q94]; done) | (rw [if_pos (Classical.not_not.mp q94)]; done)
        have et : de_st h (nI (i + 1)) S = (nI 2 * S.1 + nI 0, S.2.1 + nI 0, nI 1) := by
          unfold de_st
          rw [es, eb, if_neg (show ¬ nI (i + 1) ≤ 0 from q113)]
        have e := ih (de_st h (nI (i + 1)) S) kk
        rw [et] at e
        exact e _ _ rfl rfl
      · refine xi_iconst (pc' := 98) rfl rfl ?_
        refine xi_goto (pc' := 102) rfl rfl ?_
        refine xi_istore (pc' := 104) rfl (st1_9 rfl) rfl ?_
        refine xi_iload (pc' := 106) rfl rfl rfl ?_
        refine xi_iload (pc' := 108) rfl rfl rfl ?_
        refine xi_iadd (pc' := 109) rfl rfl ?_
        refine xi_istore (pc' := 111) rfl (st1_5 rfl) rfl ?_
        refine xi_iload (pc' := 113) rfl rfl rfl ?_
        refine xx_if (pc' := 116) (tg := 126) rfl rfl rfl (fun q113 => absurd q113 (show ¬ ex_P .le (nI (i + 1)) 0 from Int32.not_le.mpr (nI_lt (by omega) (by omega) : nI 0 < nI (i + 1)))) (fun q113 => ?_)
        refine xi_iconst (pc' := 117) rfl rfl ?_
        refine xi_iload (pc' := 119) rfl rfl rfl ?_
        refine xi_imul (pc' := 120) rfl rfl ?_
        refine xi_iload (pc' := 122) rfl rfl rfl ?_
        refine xi_iadd (pc' := 123) rfl rfl ?_
        refine xi_goto (pc' := 128) rfl rfl ?_
        refine xi_istore (pc' := 130) rfl (st1_4 rfl) rfl ?_
        refine xi_iincmv (y := nI i) (pc' := 133) rfl rfl (ix_dec i) (st1_7 rfl) rfl ?_
        refine xi_goto (pc' := 50) rfl rfl ?_
        have es : de_same h (nI (i + 1)) S.2.2 = nI 1 := by
          unfold de_same de_two
          simp only [ex_P] at *
          first | (rw [if_neg q70]; done) | (rw [if_pos (Classical.not_not.mp q70), if_pos q75]; done) | (rw [if_pos (Classical.not_not.mp q70), if_neg q75, if_pos (Classical.not_not.mp q81)]; done) | (rw [if_pos (Classical.not_not.mp q70), if_neg q75, if_neg q81]; done)
        have eb : de_bit h (nI (i + 1)) = nI 1 := by
          unfold de_bit de_two
          simp only [ex_P] at *
          first | (rw [if_neg q94]; done) | (rw [if_pos (Classical.not_not.mp q94)]; done)
        have et : de_st h (nI (i + 1)) S = (nI 2 * S.1 + nI 1, S.2.1 + nI 1, nI 1) := by
          unfold de_st
          rw [es, eb, if_neg (show ¬ nI (i + 1) ≤ 0 from q113)]
        have e := ih (de_st h (nI (i + 1)) S) kk
        rw [et] at e
        exact e _ _ rfl rfl
    · refine xi_iload (pc' := 75) rfl rfl rfl ?_
      refine xx_if (pc' := 78) (tg := 84) rfl rfl rfl (fun q75 => ?_) (fun q75 => ?_)
      · refine xi_iconst (pc' := 85) rfl rfl ?_
        refine xi_goto (pc' := 89) rfl rfl ?_
        refine xi_istore (pc' := 91) rfl (st1_6 rfl) rfl ?_
        refine xi_iload (pc' := 93) rfl rfl rfl ?_
        refine xi_iconst (pc' := 94) rfl rfl ?_
        refine xx_icmp (pc' := 97) (tg := 101) rfl rfl rfl (fun q94 => ?_) (fun q94 => ?_)
        · refine xi_iconst (pc' := 102) rfl rfl ?_
          refine xi_istore (pc' := 104) rfl (st1_9 rfl) rfl ?_
          refine xi_iload (pc' := 106) rfl rfl rfl ?_
          refine xi_iload (pc' := 108) rfl rfl rfl ?_
          refine xi_iadd (pc' := 109) rfl rfl ?_
          refine xi_istore (pc' := 111) rfl (st1_5 rfl) rfl ?_
          refine xi_iload (pc' := 113) rfl rfl rfl ?_
          refine xx_if (pc' := 116) (tg := 126) rfl rfl rfl (fun q113 => absurd q113 (show ¬ ex_P .le (nI (i + 1)) 0 from Int32.not_le.mpr (nI_lt (by omega) (by omega) : nI 0 < nI (i + 1)))) (fun q113 => ?_)
          refine xi_iconst (pc' := 117) rfl rfl ?_
          refine xi_iload (pc' := 119) rfl rfl rfl ?_
          refine xi_imul (pc' := 120) rfl rfl ?_
          refine xi_iload (pc' := 122) rfl rfl rfl ?_
          refine xi_iadd (pc' := 123) rfl rfl ?_
          refine xi_goto (pc' := 128) rfl rfl ?_
          refine xi_istore (pc' := 130) rfl (st1_4 rfl) rfl ?_
          refine xi_iincmv (y := nI i) (pc' := 133) rfl rfl (ix_dec i) (st1_7 rfl) rfl ?_
          refine xi_goto (pc' := 50) rfl rfl ?_
          have es : de_same h (nI (i + 1)) S.2.2 = nI 1 := by
            unfold de_same de_two
            simp only [ex_P] at *
            first | (rw [if_neg q70]; done) | (rw [if_pos (Classical.not_not.mp q70), if_pos q75]; done) | (rw [if_pos (Classical.not_not.mp q70), if_neg q75, if_pos (Classical.not_not.mp q81)]; done) | (rw [if_pos (Classical.not_not.mp q70), if_neg q75, if_neg q81]; done)
          have eb : de_bit h (nI (i + 1)) = nI 0 := by
            unfold de_bit de_two
            simp only [ex_P] at *
            first | (rw [if_neg q94]; done) | (rw [if_pos (Classical.not_not.mp q94)]; done)
          have et : de_st h (nI (i + 1)) S = (nI 2 * S.1 + nI 0, S.2.1 + nI 0, nI 1) := by
            unfold de_st
            rw [es, eb, if_neg (show ¬ nI (i + 1) ≤ 0 from q113)]
          have e := ih (de_st h (nI (i + 1)) S) kk
          rw [et] at e
          exact e _ _ rfl rfl
        · refine xi_iconst (pc' := 98) rfl rfl ?_
          refine xi_goto (pc' := 102) rfl rfl ?_
          refine xi_istore (pc' := 104) rfl (st1_9 rfl) rfl ?_
          refine xi_iload (pc' := 106) rfl rfl rfl ?_
          refine xi_iload (pc' := 108) rfl rfl rfl ?_
          refine xi_iadd (pc' := 109) rfl rfl ?_
          refine xi_istore (pc' := 111) rfl (st1_5 rfl) rfl ?_
          refine xi_iload (pc' := 113) rfl rfl rfl ?_
          refine xx_if (pc' := 116) (tg := 126) rfl rfl rfl (fun q113 => absurd q113 (show ¬ ex_P .le (nI (i + 1)) 0 from Int32.not_le.mpr (nI_lt (by omega) (by omega) : nI 0 < nI (i + 1)))) (fun q113 => ?_)
          refine xi_iconst (pc' := 117) rfl rfl ?_
          refine xi_iload (pc' := 119) rfl rfl rfl ?_
          refine xi_imul (pc' := 120) rfl rfl ?_
          refine xi_iload (pc' := 122) rfl rfl rfl ?_
          refine xi_iadd (pc' := 123) rfl rfl ?_
          refine xi_goto (pc' := 128) rfl rfl ?_
          refine xi_istore (pc' := 130) rfl (st1_4 rfl) rfl ?_
          refine xi_iincmv (y := nI i) (pc' := 133) rfl rfl (ix_dec i) (st1_7 rfl) rfl ?_
          refine xi_goto (pc' := 50) rfl rfl ?_
          have es : de_same h (nI (i + 1)) S.2.2 = nI 1 := by
            unfold de_same de_two
            simp only [ex_P] at *
            first | (rw [if_neg q70]; done) | (rw [if_pos (Classical.not_not.mp q70), if_pos q75]; done) | (rw [if_pos (Classical.not_not.mp q70), if_neg q75, if_pos (Classical.not_not.mp q81)]; done) | (rw [if_pos (Classical.not_not.mp q70), if_neg q75, if_neg q81]; done)
          have eb : de_bit h (nI (i + 1)) = nI 1 := by
            unfold de_bit de_two
            simp only [ex_P] at *
            first | (rw [if_neg q94]; done) | (rw [if_pos (Classical.not_not.mp q94)]; done)
          have et : de_st h (nI (i + 1)) S = (nI 2 * S.1 + nI 1, S.2.1 + nI 1, nI 1) := by
            unfold de_st
            rw [es, eb, if_neg (show ¬ nI (i + 1) ≤ 0 from q113)]
          have e := ih (de_st h (nI (i + 1)) S) kk
          rw [et] at e
          exact e _ _ rfl rfl
      · refine xi_iload (pc' := 80) rfl rfl rfl ?_
        refine xi_iconst (pc' := 81) rfl rfl ?_
        refine xx_icmp (pc' := 84) (tg := 88) rfl rfl rfl (fun q81 => ?_) (fun q81 => ?_)
        · refine xi_iconst (pc' := 89) rfl rfl ?_
          refine xi_istore (pc' := 91) rfl (st1_6 rfl) rfl ?_
          refine xi_iload (pc' := 93) rfl rfl rfl ?_
          refine xi_iconst (pc' := 94) rfl rfl ?_
          refine xx_icmp (pc' := 97) (tg := 101) rfl rfl rfl (fun q94 => ?_) (fun q94 => ?_)
          · refine xi_iconst (pc' := 102) rfl rfl ?_
            refine xi_istore (pc' := 104) rfl (st1_9 rfl) rfl ?_
            refine xi_iload (pc' := 106) rfl rfl rfl ?_
            refine xi_iload (pc' := 108) rfl rfl rfl ?_
            refine xi_iadd (pc' := 109) rfl rfl ?_
            refine xi_istore (pc' := 111) rfl (st1_5 rfl) rfl ?_
            refine xi_iload (pc' := 113) rfl rfl rfl ?_
            refine xx_if (pc' := 116) (tg := 126) rfl rfl rfl (fun q113 => absurd q113 (show ¬ ex_P .le (nI (i + 1)) 0 from Int32.not_le.mpr (nI_lt (by omega) (by omega) : nI 0 < nI (i + 1)))) (fun q113 => ?_)
            refine xi_iconst (pc' := 117) rfl rfl ?_
            refine xi_iload (pc' := 119) rfl rfl rfl ?_
            refine xi_imul (pc' := 120) rfl rfl ?_
            refine xi_iload (pc' := 122) rfl rfl rfl ?_
            refine xi_iadd (pc' := 123) rfl rfl ?_
            refine xi_goto (pc' := 128) rfl rfl ?_
            refine xi_istore (pc' := 130) rfl (st1_4 rfl) rfl ?_
            refine xi_iincmv (y := nI i) (pc' := 133) rfl rfl (ix_dec i) (st1_7 rfl) rfl ?_
            refine xi_goto (pc' := 50) rfl rfl ?_
            have es : de_same h (nI (i + 1)) S.2.2 = nI 0 := by
              unfold de_same de_two
              simp only [ex_P] at *
              first | (rw [if_neg q70]; done) | (rw [if_pos (Classical.not_not.mp q70), if_pos q75]; done) | (rw [if_pos (Classical.not_not.mp q70), if_neg q75, if_pos (Classical.not_not.mp q81)]; done) | (rw [if_pos (Classical.not_not.mp q70), if_neg q75, if_neg q81]; done)
            have eb : de_bit h (nI (i + 1)) = nI 0 := by
              unfold de_bit de_two
              simp only [ex_P] at *
              first | (rw [if_neg q94]; done) | (rw [if_pos (Classical.not_not.mp q94)]; done)
            have et : de_st h (nI (i + 1)) S = (nI 2 * S.1 + nI 0, S.2.1 + nI 0, nI 0) := by
              unfold de_st
              rw [es, eb, if_neg (show ¬ nI (i + 1) ≤ 0 from q113)]
            have e := ih (de_st h (nI (i + 1)) S) kk
            rw [et] at e
            exact e _ _ rfl rfl
          · refine xi_iconst (pc' := 98) rfl rfl ?_
            refine xi_goto (pc' := 102) rfl rfl ?_
            refine xi_istore (pc' := 104) rfl (st1_9 rfl) rfl ?_
            refine xi_iload (pc' := 106) rfl rfl rfl ?_
            refine xi_iload (pc' := 108) rfl rfl rfl ?_
            refine xi_iadd (pc' := 109) rfl rfl ?_
            refine xi_istore (pc' := 111) rfl (st1_5 rfl) rfl ?_
            refine xi_iload (pc' := 113) rfl rfl rfl ?_
            refine xx_if (pc' := 116) (tg := 126) rfl rfl rfl (fun q113 => absurd q113 (show ¬ ex_P .le (nI (i + 1)) 0 from Int32.not_le.mpr (nI_lt (by omega) (by omega) : nI 0 < nI (i + 1)))) (fun q113 => ?_)
            refine xi_iconst (pc' := 117) rfl rfl ?_
            refine xi_iload (pc' := 119) rfl rfl rfl ?_
            refine xi_imul (pc' := 120) rfl rfl ?_
            refine xi_iload (pc' := 122) rfl rfl rfl ?_
            refine xi_iadd (pc' := 123) rfl rfl ?_
            refine xi_goto (pc' := 128) rfl rfl ?_
            refine xi_istore (pc' := 130) rfl (st1_4 rfl) rfl ?_
            refine xi_iincmv (y := nI i) (pc' := 133) rfl rfl (ix_dec i) (st1_7 rfl) rfl ?_
            refine xi_goto (pc' := 50) rfl rfl ?_
            have es : de_same h (nI (i + 1)) S.2.2 = nI 0 := by
              unfold de_same de_two
              simp only [ex_P] at *
              first | (rw [if_neg q70]; done) | (rw [if_pos (Classical.not_not.mp q70), if_pos q75]; done) | (rw [if_pos (Classical.not_not.mp q70), if_neg q75, if_pos (Classical.not_not.mp q81)]; done) | (rw [if_pos (Classical.not_not.mp q70), if_neg q75, if_neg q81]; done)
            have eb : de_bit h (nI (i + 1)) = nI 1 := by
              unfold de_bit de_two
              simp only [ex_P] at *
              first | (rw [if_neg q94]; done) | (rw [if_pos (Classical.not_not.mp q94)]; done)
            have et : de_st h (nI (i + 1)) S = (nI 2 * S.1 + nI 1, S.2.1 + nI 1, nI 0) := by
              unfold de_st
              rw [es, eb, if_neg (show ¬ nI (i + 1) ≤ 0 from q113)]
            have e := ih (de_st h (nI (i + 1)) S) kk
            rw [et] at e
            exact e _ _ rfl rfl
        · refine xi_iconst (pc' := 85) rfl rfl ?_
          refine xi_goto (pc' := 89) rfl rfl ?_
          refine xi_istore (pc' := 91) rfl (st1_6 rfl) rfl ?_
          refine xi_iload (pc' := 93) rfl rfl rfl ?_
          refine xi_iconst (pc' := 94) rfl rfl ?_
          refine xx_icmp (pc' := 97) (tg := 101) rfl rfl rfl (fun q94 => ?_) (fun q94 => ?_)
          · refine xi_iconst (pc' := 102) rfl rfl ?_
            refine xi_istore (pc' := 104) rfl (st1_9 rfl) rfl ?_
            refine xi_iload (pc' := 106) rfl rfl rfl ?_
            refine xi_iload (pc' := 108) rfl rfl rfl ?_
            refine xi_iadd (pc' := 109) rfl rfl ?_
            refine xi_istore (pc' := 111) rfl (st1_5 rfl) rfl ?_
            refine xi_iload (pc' := 113) rfl rfl rfl ?_
            refine xx_if (pc' := 116) (tg := 126) rfl rfl rfl (fun q113 => absurd q113 (show ¬ ex_P .le (nI (i + 1)) 0 from Int32.not_le.mpr (nI_lt (by omega) (by omega) : nI 0 < nI (i + 1)))) (fun q113 => ?_)
            refine xi_iconst (pc' := 117) rfl rfl ?_
            refine xi_iload (pc' := 119) rfl rfl rfl ?_
            refine xi_imul (pc' := 120) rfl rfl ?_
            refine xi_iload (pc' := 122) rfl rfl rfl ?_
            refine xi_iadd (pc' := 123) rfl rfl ?_
            refine xi_goto (pc' := 128) rfl rfl ?_
            refine xi_istore (pc' := 130) rfl (st1_4 rfl) rfl ?_
            refine xi_iincmv (y := nI i) (pc' := 133) rfl rfl (ix_dec i) (st1_7 rfl) rfl ?_
            refine xi_goto (pc' := 50) rfl rfl ?_
            have es : de_same h (nI (i + 1)) S.2.2 = nI 1 := by
              unfold de_same de_two
              simp only [ex_P] at *
              first | (rw [if_neg q70]; done) | (rw [if_pos (Classical.not_not.mp q70), if_pos q75]; done) | (rw [if_pos (Classical.not_not.mp q70), if_neg q75, if_pos (Classical.not_not.mp q81)]; done) | (rw [if_pos (Classical.not_not.mp q70), if_neg q75, if_neg q81]; done)
            have eb : de_bit h (nI (i + 1)) = nI 0 := by
              unfold de_bit de_two
              simp only [ex_P] at *
              first | (rw [if_neg q94]; done) | (rw [if_pos (Classical.not_not.mp q94)]; done)
            have et : de_st h (nI (i + 1)) S = (nI 2 * S.1 + nI 0, S.2.1 + nI 0, nI 1) := by
              unfold de_st
              rw [es, eb, if_neg (show ¬ nI (i + 1) ≤ 0 from q113)]
            have e := ih (de_st h (nI (i + 1)) S) kk
            rw [et] at e
            exact e _ _ rfl rfl
          · refine xi_iconst (pc' := 98) rfl rfl ?_
            refine xi_goto (pc' := 102) rfl rfl ?_
            refine xi_istore (pc' := 104) rfl (st1_9 rfl) rfl ?_
            refine xi_iload (pc' := 106) rfl rfl rfl ?_
            refine xi_iload (pc' := 108) rfl rfl rfl ?_
            refine xi_iadd (pc' := 109) rfl rfl ?_
            refine xi_istore (pc' := 111) rfl (st1_5 rfl) rfl ?_
            refine xi_iload (pc' := 113) rfl rfl rfl ?_
            refine xx_if (pc' := 116) (tg := 126) rfl rfl rfl (fun q113 => absurd q113 (show ¬ ex_P .le (nI (i + 1)) 0 from Int32.not_le.mpr (nI_lt (by omega) (by omega) : nI 0 < nI (i + 1)))) (fun q113 => ?_)
            refine xi_iconst (pc' := 117) rfl rfl ?_
            refine xi_iload (pc' := 119) rfl rfl rfl ?_
            refine xi_imul (pc' := 120) rfl rfl ?_
            refine xi_iload (pc' := 122) rfl rfl rfl ?_
            refine xi_iadd (pc' := 123) rfl rfl ?_
            refine xi_goto (pc' := 128) rfl rfl ?_
            refine xi_istore (pc' := 130) rfl (st1_4 rfl) rfl ?_
            refine xi_iincmv (y := nI i) (pc' := 133) rfl rfl (ix_dec i) (st1_7 rfl) rfl ?_
            refine xi_goto (pc' := 50) rfl rfl ?_
            have es : de_same h (nI (i + 1)) S.2.2 = nI 1 := by
              unfold de_same de_two
              simp only [ex_P] at *
              first | (rw [if_neg q70]; done) | (rw [if_pos (Classical.not_not.mp q70), if_pos q75]; done) | (rw [if_pos (Classical.not_not.mp q70), if_neg q75, if_pos (Classical.not_not.mp q81)]; done) | (rw [if_pos (Classical.not_not.mp q70), if_neg q75, if_neg q81]; done)
            have eb : de_bit h (nI (i + 1)) = nI 1 := by
              unfold de_bit de_two
              simp only [ex_P] at *
              first | (rw [if_neg q94]; done) | (rw [if_pos (Classical.not_not.mp q94)]; done)
            have et : de_st h (nI (i + 1)) S = (nI 2 * S.1 + nI 1, S.2.1 + nI 1, nI 1) := by
              unfold de_st
              rw [es, eb, if_neg (show ¬ nI (i + 1) ≤ 0 from q113)]
            have e := ih (de_st h (nI (i + 1)) S) kk
            rw [et] at e
            exact e _ _ rfl rfl
theorem r_decode_7 {L : Nat} {xs : Nat → Int32} {D n : Nat} {I J : ex_Mem} {h : Int64} (hv : vLo h) (h7 : de_sy h = nI 7) : ri L xs D 83 [.ref 52, .long h] (mkH n I J) (r_dec h (de_f h 16 (nI 0, nI 0, nI 0))) (mkH n I J) := by
  show xx cb_G _ _ _ 83 0 [.ref 52, .long h, ex_no, ex_no, ex_no, ex_no, ex_no, ex_no, ex_no, ex_no] [] _ _
  refine xi_lload_n (pc' := 1) rfl rfl rfl ?_
  refine xi_lconst (pc' := 2) rfl rfl ?_
  refine xi_lcmp (pc' := 3) rfl rfl ?_
  refine xx_if (pc' := 6) (tg := 14) rfl rfl rfl (fun q3 => absurd q3 (hv.1)) (fun q3 => ?_)
  refine xi_lload_n (pc' := 7) rfl rfl rfl ?_
  refine xx_ldc2 (v := lN 1099511627775) (pc' := 10) rfl rfl (by decide) rfl ?_
  refine xi_lcmp (pc' := 11) rfl rfl ?_
  refine xx_if (pc' := 14) (tg := 16) rfl rfl rfl (fun q11 => ?_) (fun q11 => absurd (hv.2) q11)
  refine xi_lload_n (pc' := 17) rfl rfl rfl ?_
  refine xi_bipush (pc' := 19) rfl (by decide) rfl ?_
  refine xi_lshr (pc' := 20) rfl rfl ?_
  refine xi_l2i (pc' := 21) rfl rfl ?_
  refine xi_istore_n (pc' := 22) rfl (st1_3 rfl) rfl ?_
  refine xi_iload_n (pc' := 23) rfl rfl rfl ?_
  refine xi_bipush (pc' := 25) rfl (by decide) rfl ?_
  refine xx_icmp (pc' := 28) (tg := 37) rfl rfl rfl (fun q25 => ?_) (fun q25 => absurd (h7) q25)
  refine xi_iconst (pc' := 38) rfl rfl ?_
  refine xi_istore (pc' := 40) rfl (st1_4 rfl) rfl ?_
  refine xi_iconst (pc' := 41) rfl rfl ?_
  refine xi_istore (pc' := 43) rfl (st1_5 rfl) rfl ?_
  refine xi_iconst (pc' := 44) rfl rfl ?_
  refine xi_istore (pc' := 46) rfl (st1_6 rfl) rfl ?_
  refine xi_bipush (pc' := 48) rfl (by decide) rfl ?_
  refine xi_istore (pc' := 50) rfl (st1_7 rfl) rfl ?_
  refine r_dec_loop 16 (by decide) (nI 0, nI 0, nI 0) (fun w7 w8 w9 g7 g8 g9 => ?_) _ _ rfl rfl
  generalize de_f h 16 (nI 0, nI 0, nI 0) = T
  refine xi_iload (pc' := 138) rfl rfl rfl ?_
  refine xx_if (pc' := 141) (tg := 144) rfl rfl rfl (fun q138 => ?_) (fun q138 => ?_)
  · refine xi_iload (pc' := 146) rfl rfl rfl ?_
    refine xi_iconst (pc' := 147) rfl rfl ?_
    refine xi_irem (pc' := 148) rfl (by decide) rfl ?_
    refine xx_if (pc' := 151) (tg := 156) rfl rfl rfl (fun q148 => ?_) (fun q148 => ?_)
    · refine xi_iload_n (pc' := 157) rfl rfl rfl ?_
      refine xi_bipush (pc' := 159) rfl (by decide) rfl ?_
      refine xx_icmp (pc' := 162) (tg := 170) rfl rfl rfl (fun q159 => ?_) (fun q159 => ?_)
      · refine xi_iload (pc' := 172) rfl rfl rfl ?_
        refine xx_ireturn rfl rfl ?_
        refine ⟨congrArg (fun w => some (Value.int w)) ?_, rfl⟩
        simp only [ex_P, Classical.not_not] at *
        unfold r_dec
        first | (simp only [*, ↓reduceIte]; done) | (simp only [q138, q148, q159, ↓reduceIte]; done) | exact absurd h7 q159 | exact absurd (q159.symm.trans h7) (by decide)
      · refine xx_ldc (v := nI 65536) (pc' := 164) rfl rfl (by decide) rfl ?_
        refine xi_iload (pc' := 166) rfl rfl rfl ?_
        refine xi_iadd (pc' := 167) rfl rfl ?_
        refine xi_goto (pc' := 172) rfl rfl ?_
        refine xx_ireturn rfl rfl ?_
        refine ⟨congrArg (fun w => some (Value.int w)) ?_, rfl⟩
        simp only [ex_P, Classical.not_not] at *
        unfold r_dec
        first | (simp only [*, ↓reduceIte]; done) | (simp only [q138, q148, q159, ↓reduceIte]; done) | exact absurd h7 q159 | exact absurd (q159.symm.trans h7) (by decide)
    · refine xi_bipushm (pc' := 153) rfl (by decide) rfl ?_
      refine xi_goto (pc' := 172) rfl rfl ?_
      refine xx_ireturn rfl rfl ?_
      refine ⟨congrArg (fun w => some (Value.int w)) ?_, rfl⟩
      simp only [ex_P, Classical.not_not] at *
      unfold r_dec
      first | (simp only [*, ↓reduceIte]; done) | (simp only [q138, q148, q159, ↓reduceIte]; done) | exact absurd h7 q159 | exact absurd (q159.symm.trans h7) (by decide)
  · refine xi_bipushm (pc' := 143) rfl (by decide) rfl ?_
    refine xx_ireturn rfl rfl ?_
    refine ⟨congrArg (fun w => some (Value.int w)) ?_, rfl⟩
    simp only [ex_P, Classical.not_not] at *
    unfold r_dec
    first | (simp only [*, ↓reduceIte]; done) | (simp only [q138, q148, q159, ↓reduceIte]; done) | exact absurd h7 q159 | exact absurd (q159.symm.trans h7) (by decide)
theorem r_decode_56 {L : Nat} {xs : Nat → Int32} {D n : Nat} {I J : ex_Mem} {h : Int64} (hv : vLo h) (h7 : de_sy h = nI 56) : ri L xs D 83 [.ref 52, .long h] (mkH n I J) (r_dec h (de_f h 16 (nI 0, nI 0, nI 0))) (mkH n I J) := by
  show xx cb_G _ _ _ 83 0 [.ref 52, .long h, ex_no, ex_no, ex_no, ex_no, ex_no, ex_no, ex_no, ex_no] [] _ _
  refine xi_lload_n (pc' := 1) rfl rfl rfl ?_
  refine xi_lconst (pc' := 2) rfl rfl ?_
  refine xi_lcmp (pc' := 3) rfl rfl ?_
  refine xx_if (pc' := 6) (tg := 14) rfl rfl rfl (fun q3 => absurd q3 (hv.1)) (fun q3 => ?_)
  refine xi_lload_n (pc' := 7) rfl rfl rfl ?_
  refine xx_ldc2 (v := lN 1099511627775) (pc' := 10) rfl rfl (by decide) rfl ?_
  refine xi_lcmp (pc' := 11) rfl rfl ?_
  refine xx_if (pc' := 14) (tg := 16) rfl rfl rfl (fun q11 => ?_) (fun q11 => absurd (hv.2) q11)
  refine xi_lload_n (pc' := 17) rfl rfl rfl ?_
  refine xi_bipush (pc' := 19) rfl (by decide) rfl ?_
  refine xi_lshr (pc' := 20) rfl rfl ?_
  refine xi_l2i (pc' := 21) rfl rfl ?_
  refine xi_istore_n (pc' := 22) rfl (st1_3 rfl) rfl ?_
  refine xi_iload_n (pc' := 23) rfl rfl rfl ?_
  refine xi_bipush (pc' := 25) rfl (by decide) rfl ?_
  refine xx_icmp (pc' := 28) (tg := 37) rfl rfl rfl (fun q25 => absurd q25 (fun q => absurd (q.symm.trans h7) (by decide))) (fun q25 => ?_)
  refine xi_iload_n (pc' := 29) rfl rfl rfl ?_
  refine xi_bipush (pc' := 31) rfl (by decide) rfl ?_
  refine xx_icmp (pc' := 34) (tg := 37) rfl rfl rfl (fun q31 => ?_) (fun q31 => absurd (h7) q31)
  refine xi_iconst (pc' := 38) rfl rfl ?_
  refine xi_istore (pc' := 40) rfl (st1_4 rfl) rfl ?_
  refine xi_iconst (pc' := 41) rfl rfl ?_
  refine xi_istore (pc' := 43) rfl (st1_5 rfl) rfl ?_
  refine xi_iconst (pc' := 44) rfl rfl ?_
  refine xi_istore (pc' := 46) rfl (st1_6 rfl) rfl ?_
  refine xi_bipush (pc' := 48) rfl (by decide) rfl ?_
  refine xi_istore (pc' := 50) rfl (st1_7 rfl) rfl ?_
  refine r_dec_loop 16 (by decide) (nI 0, nI 0, nI 0) (fun w7 w8 w9 g7 g8 g9 => ?_) _ _ rfl rfl
  generalize de_f h 16 (nI 0, nI 0, nI 0) = T
  refine xi_iload (pc' := 138) rfl rfl rfl ?_
  refine xx_if (pc' := 141) (tg := 144) rfl rfl rfl (fun q138 => ?_) (fun q138 => ?_)
  · refine xi_iload (pc' := 146) rfl rfl rfl ?_
    refine xi_iconst (pc' := 147) rfl rfl ?_
    refine xi_irem (pc' := 148) rfl (by decide) rfl ?_
    refine xx_if (pc' := 151) (tg := 156) rfl rfl rfl (fun q148 => ?_) (fun q148 => ?_)
    · refine xi_iload_n (pc' := 157) rfl rfl rfl ?_
      refine xi_bipush (pc' := 159) rfl (by decide) rfl ?_
      refine xx_icmp (pc' := 162) (tg := 170) rfl rfl rfl (fun q159 => ?_) (fun q159 => ?_)
      · refine xi_iload (pc' := 172) rfl rfl rfl ?_
        refine xx_ireturn rfl rfl ?_
        refine ⟨congrArg (fun w => some (Value.int w)) ?_, rfl⟩
        simp only [ex_P, Classical.not_not] at *
        unfold r_dec
        first | (simp only [*, ↓reduceIte]; done) | (simp only [q138, q148, q159, ↓reduceIte]; done) | exact absurd h7 q159 | exact absurd (q159.symm.trans h7) (by decide)
      · refine xx_ldc (v := nI 65536) (pc' := 164) rfl rfl (by decide) rfl ?_
        refine xi_iload (pc' := 166) rfl rfl rfl ?_
        refine xi_iadd (pc' := 167) rfl rfl ?_
        refine xi_goto (pc' := 172) rfl rfl ?_
        refine xx_ireturn rfl rfl ?_
        refine ⟨congrArg (fun w => some (Value.int w)) ?_, rfl⟩
        simp only [ex_P, Classical.not_not] at *
        unfold r_dec
        first | (simp only [*, ↓reduceIte]; done) | (simp only [q138, q148, q159, ↓reduceIte]; done) | exact absurd h7 q159 | exact absurd (q159.symm.trans h7) (by decide)
    · refine xi_bipushm (pc' := 153) rfl (by decide) rfl ?_
      refine xi_goto (pc' := 172) rfl rfl ?_
      refine xx_ireturn rfl rfl ?_
      refine ⟨congrArg (fun w => some (Value.int w)) ?_, rfl⟩
      simp only [ex_P, Classical.not_not] at *
      unfold r_dec
      first | (simp only [*, ↓reduceIte]; done) | (simp only [q138, q148, q159, ↓reduceIte]; done) | exact absurd h7 q159 | exact absurd (q159.symm.trans h7) (by decide)
  · refine xi_bipushm (pc' := 143) rfl (by decide) rfl ?_
    refine xx_ireturn rfl rfl ?_
    refine ⟨congrArg (fun w => some (Value.int w)) ?_, rfl⟩
    simp only [ex_P, Classical.not_not] at *
    unfold r_dec
    first | (simp only [*, ↓reduceIte]; done) | (simp only [q138, q148, q159, ↓reduceIte]; done) | exact absurd h7 q159 | exact absurd (q159.symm.trans h7) (by decide)
