theorem lo_iff {h : Int64} : vLo h ↔ ¬ lg_cmp h (lN 0) < 0 ∧ lg_cmp h (lN 1099511627776) < 0 := by
  have e1 : ∀ b : Int64, (lg_cmp h b ≤ 0) = (h.toInt ≤ b.toInt) := by
    intro b
    unfold lg_cmp
    by_cases q : h > b
    · rw [if_pos q]
      have := Int64.lt_iff_toInt_lt.1 q
      simp only [eq_iff_iff]
      exact ⟨fun z => absurd z (by decide), fun z => by omega⟩
    · rw [if_neg q]
      have q' : ¬ b.toInt < h.toInt := fun z => q (Int64.lt_iff_toInt_lt.2 z)
      by_cases q2 : h = b
      · rw [if_pos q2]
        simp only [eq_iff_iff]
        exact ⟨fun _ => by omega, fun _ => by decide⟩
      · rw [if_neg q2]
        simp only [eq_iff_iff]
        exact ⟨fun _ => by omega, fun _ => by decide⟩
  have e2 : ∀ b : Int64, (lg_cmp h b < 0) = (h.toInt < b.toInt) := by
    intro b
    unfold lg_cmp
    by_cases q : h > b
    · rw [if_pos q]
      have := Int64.lt_iff_toInt_lt.1 q
      simp only [eq_iff_iff]
      exact ⟨fun z => absurd z (by decide), fun z => by omega⟩
    · rw [if_neg q]
      have q' : ¬ b.toInt < h.toInt := fun z => q (Int64.lt_iff_toInt_lt.2 z)
      by_cases q2 : h = b
      · rw [if_pos q2]
        simp only [eq_iff_iff]
        exact ⟨fun z => absurd z (by decide), fun z => by rw [q2] at z; omega⟩
      · rw [if_neg q2]
        simp only [eq_iff_iff]
        have q3 : h.toInt ≠ b.toInt := fun z => q2 (Int64.toInt.inj z)
        exact ⟨fun _ => by omega, fun _ => by decide⟩
  unfold vLo
  rw [e1, e2 (lN 1099511627776)]
  have h1 : (lN 1099511627775).toInt = 1099511627775 := by decide
  have h2 : (lN 1099511627776).toInt = 1099511627776 := by decide
  rw [h1, h2]
  constructor
  · intro z; exact ⟨z.1, by omega⟩
  · intro z; exact ⟨z.1, by omega⟩
theorem df_a {h : Int64} {i : Nat} {b : Int32} (h2 : q_pr h (nI (i + 1)) = nI 2) : q_df h (i + 1) b = q_df h i (b * nI 2 + nI 1) := by
  show (if q_pr h (nI (i + 1)) = nI 2 ∨ q_pr h (nI (i + 1)) = nI 1 then q_df h i (q_nb h (nI (i + 1)) b) else - nI 4) = _
  unfold q_nb
  rw [if_pos (Or.inl h2), if_pos h2]
theorem df_b {h : Int64} {i : Nat} {b : Int32} (h2 : ¬ q_pr h (nI (i + 1)) = nI 2) (h1 : q_pr h (nI (i + 1)) = nI 1) : q_df h (i + 1) b = q_df h i (b * nI 2 + nI 0) := by
  show (if q_pr h (nI (i + 1)) = nI 2 ∨ q_pr h (nI (i + 1)) = nI 1 then q_df h i (q_nb h (nI (i + 1)) b) else - nI 4) = _
  unfold q_nb
  rw [if_pos (Or.inr h1), if_neg h2]
theorem df_c {h : Int64} {i : Nat} {b : Int32} (h2 : ¬ q_pr h (nI (i + 1)) = nI 2) (h1 : ¬ q_pr h (nI (i + 1)) = nI 1) : q_df h (i + 1) b = - nI 4 := by
  show (if q_pr h (nI (i + 1)) = nI 2 ∨ q_pr h (nI (i + 1)) = nI 1 then q_df h i (q_nb h (nI (i + 1)) b) else - nI 4) = _
  exact if_neg (fun z => z.elim h2 h1)
theorem df0_a {h : Int64} {b : Int32} (h2 : q_pr h (nI 0) = nI 2) : q_df h 0 b = q_fin h (b * nI 2 + nI 1) := by
  show (if q_pr h (nI 0) = nI 2 ∨ q_pr h (nI 0) = nI 1 then q_fin h (q_nb h (nI 0) b) else - nI 4) = _
  unfold q_nb
  rw [if_pos (Or.inl h2), if_pos h2]
theorem df0_b {h : Int64} {b : Int32} (h2 : ¬ q_pr h (nI 0) = nI 2) (h1 : q_pr h (nI 0) = nI 1) : q_df h 0 b = q_fin h (b * nI 2 + nI 0) := by
  show (if q_pr h (nI 0) = nI 2 ∨ q_pr h (nI 0) = nI 1 then q_fin h (q_nb h (nI 0) b) else - nI 4) = _
  unfold q_nb
  rw [if_pos (Or.inr h1), if_neg h2]
theorem df0_c {h : Int64} {b : Int32} (h2 : ¬ q_pr h (nI 0) = nI 2) (h1 : ¬ q_pr h (nI 0) = nI 1) : q_df h 0 b = - nI 4 := by
  show (if q_pr h (nI 0) = nI 2 ∨ q_pr h (nI 0) = nI 1 then q_fin h (q_nb h (nI 0) b) else - nI 4) = _
  exact if_neg (fun z => z.elim h2 h1)
theorem c_word_b {L : Nat} {xs : Nat → Int32} {D n : Nat} {I J : ex_Mem} {h : Int64} (hb : ¬ vLo h) : ri L xs (D + 2) 131 [.long h] (mkH n I J) (- nI 1) (mkH n I J) := by
  show xx cb_G _ _ _ 131 0 [.long h, ex_no, ex_no, ex_no, ex_no, ex_no] [] _ _
  refine xi_lload_n (pc' := 1) rfl rfl rfl ?_
  refine xi_lconst (pc' := 2) rfl rfl ?_
  refine xi_lcmp (pc' := 3) rfl rfl ?_
  refine xx_if (pc' := 6) (tg := 14) rfl rfl rfl (fun q3 => ?_) (fun q3 => ?_)
  · refine xi_iconstm (pc' := 15) rfl rfl ?_
    refine xx_ireturn rfl rfl ?_
    exact ⟨rfl, rfl⟩
  · refine xi_lload_n (pc' := 7) rfl rfl rfl ?_
    refine xx_ldc2 (v := lN 1099511627776) (pc' := 10) rfl rfl (by decide) rfl ?_
    refine xi_lcmp (pc' := 11) rfl rfl ?_
    refine xx_if (pc' := 14) (tg := 16) rfl rfl rfl (fun q11 => ?_) (fun q11 => ?_)
    · exact absurd (lo_iff.2 ⟨q3, q11⟩) hb
    · refine xi_iconstm (pc' := 15) rfl rfl ?_
      refine xx_ireturn rfl rfl ?_
      exact ⟨rfl, rfl⟩
theorem c_word_s {L : Nat} {xs : Nat → Int32} {D n : Nat} {I J : ex_Mem} {h : Int64} (hv : vLo h) (h7 : ¬ de_sy h = nI 7) (h56 : ¬ de_sy h = nI 56) : ri L xs (D + 2) 131 [.long h] (mkH n I J) (- nI 3) (mkH n I J) := by
  show xx cb_G _ _ _ 131 0 [.long h, ex_no, ex_no, ex_no, ex_no, ex_no] [] _ _
  refine xi_lload_n (pc' := 1) rfl rfl rfl ?_
  refine xi_lconst (pc' := 2) rfl rfl ?_
  refine xi_lcmp (pc' := 3) rfl rfl ?_
  refine xx_if (pc' := 6) (tg := 14) rfl rfl rfl (fun q3 => absurd q3 ((lo_iff.1 hv).1)) (fun q3 => ?_)
  refine xi_lload_n (pc' := 7) rfl rfl rfl ?_
  refine xx_ldc2 (v := lN 1099511627776) (pc' := 10) rfl rfl (by decide) rfl ?_
  refine xi_lcmp (pc' := 11) rfl rfl ?_
  refine xx_if (pc' := 14) (tg := 16) rfl rfl rfl (fun q11 => ?_) (fun q11 => absurd ((lo_iff.1 hv).2) q11)
  refine xi_lload_n (pc' := 17) rfl rfl rfl ?_
  refine xi_bipush (pc' := 19) rfl (by decide) rfl ?_
  refine xi_lshr (pc' := 20) rfl rfl ?_
  refine xi_l2i (pc' := 21) rfl rfl ?_
  refine xi_istore_n (pc' := 22) rfl (st1_2 rfl) rfl ?_
  refine xi_iload_n (pc' := 23) rfl rfl rfl ?_
  refine xi_bipush (pc' := 25) rfl (by decide) rfl ?_
  refine xx_icmp (pc' := 28) (tg := 37) rfl rfl rfl (fun q25 => absurd q25 (h56)) (fun q25 => ?_)
  refine xi_iload_n (pc' := 29) rfl rfl rfl ?_
  refine xi_bipush (pc' := 31) rfl (by decide) rfl ?_
  refine xx_icmp (pc' := 34) (tg := 37) rfl rfl rfl (fun q31 => absurd q31 (h7)) (fun q31 => ?_)
  refine xi_bipushm (pc' := 36) rfl (by decide) rfl ?_
  refine xx_ireturn rfl rfl ?_
  exact ⟨rfl, rfl⟩
theorem c_dec_fin {L : Nat} {xs : Nat → Int32} {D n : Nat} {I J : ex_Mem} {h : Int64} {b : Int32} {v4 v5 : Value} : xx cb_G L xs (D + 2) 131 96 [.long h, ex_no, .int (de_sy h), .int b, v4, v5] [] (mkH n I J) (fun r hh => r = some (.int (q_fin h b)) ∧ hh = mkH n I J) := by
  refine xi_iload_n (pc' := 97) rfl rfl rfl ?_
  refine xx_callSi (pc' := 100) rfl rfl (by decide) rfl (Nat.le_of_ble_eq_true rfl) rfl rfl (c_isOdd) ?_
  refine xx_if (pc' := 103) (tg := 106) rfl rfl rfl (fun q100 => ?_) (fun q100 => ?_)
  · refine xi_iload_n (pc' := 107) rfl rfl rfl ?_
    refine xi_iconst (pc' := 108) rfl rfl ?_
    refine xi_ishr (pc' := 109) rfl rfl ?_
    refine xi_iload_n (pc' := 110) rfl rfl rfl ?_
    refine xi_bipush (pc' := 112) rfl (by decide) rfl ?_
    refine xx_icmp (pc' := 115) (tg := 120) rfl rfl rfl (fun q112 => ?_) (fun q112 => ?_)
    · refine xi_iconst (pc' := 121) rfl rfl ?_
      refine xi_iadd (pc' := 122) rfl rfl ?_
      refine xx_ireturn rfl rfl ?_
      refine ⟨congrArg (fun v => some (Value.int v)) ?_, rfl⟩
      simp only [ex_P, Classical.not_not] at *
      unfold q_fin
      first | (rw [if_pos q100]; done) | (rw [if_neg q100, if_neg q112]; done) | (rw [if_neg q100, if_pos q112]; done)
    · refine xx_ldc (v := nI 65536) (pc' := 117) rfl rfl (by decide) rfl ?_
      refine xi_goto (pc' := 121) rfl rfl ?_
      refine xi_iadd (pc' := 122) rfl rfl ?_
      refine xx_ireturn rfl rfl ?_
      refine ⟨congrArg (fun v => some (Value.int v)) ?_, rfl⟩
      simp only [ex_P, Classical.not_not] at *
      unfold q_fin
      first | (rw [if_pos q100]; done) | (rw [if_neg q100, if_neg q112]; done) | (rw [if_neg q100, if_pos q112]; done)
  · refine xi_bipushm (pc' := 105) rfl (by decide) rfl ?_
    refine xx_ireturn rfl rfl ?_
    refine ⟨congrArg (fun v => some (Value.int v)) ?_, rfl⟩
    simp only [ex_P, Classical.not_not] at *
    unfold q_fin
    first | (rw [if_pos q100]; done) | (rw [if_neg q100, if_neg q112]; done) | (rw [if_neg q100, if_pos q112]; done)
theorem c_dec_loop {L : Nat} {xs : Nat → Int32} {D n : Nat} {I J : ex_Mem} {h : Int64} : ∀ (i : Nat), i < 100 → ∀ (b : Int32) (v5 : Value), v5.category = 1 → xx cb_G L xs (D + 2) 131 43 [.long h, ex_no, .int (de_sy h), .int b, .int (nI i), v5] [] (mkH n I J) (fun r hh => r = some (.int (q_df h i b)) ∧ hh = mkH n I J) := by
  intro i
  induction i with
  | zero =>
    intro hi
    intro b v5 h5
    refine xi_iload (pc' := 45) rfl rfl rfl ?_
    refine xx_if (pc' := 48) (tg := 96) rfl rfl rfl (fun q45 => absurd q45 (show ¬ ex_P .lt (nI 0) 0 from nI_pos (by decide))) (fun q45 => ?_)
    refine xi_lload_n (pc' := 49) rfl rfl rfl ?_
    refine xi_iconst (pc' := 50) rfl rfl ?_
    refine xi_iload (pc' := 52) rfl rfl rfl ?_
    refine xi_imul (pc' := 53) rfl rfl ?_
    refine xi_lshr (pc' := 54) rfl rfl ?_
    refine xi_l2i (pc' := 55) rfl rfl ?_
    refine xi_iconst (pc' := 56) rfl rfl ?_
    refine xi_iand (pc' := 57) rfl rfl ?_
    refine xx_topi (y := q_pr h (nI 0)) (rfl) ?_
    refine xi_istore (pc' := 59) rfl (st1_5 rfl) rfl ?_
    refine xi_iload (pc' := 61) rfl rfl rfl ?_
    refine xi_iconst (pc' := 62) rfl rfl ?_
    refine xx_icmp (pc' := 65) (tg := 74) rfl rfl rfl (fun q62 => ?_) (fun q62 => ?_)
    · refine xi_iload_n (pc' := 75) rfl rfl rfl ?_
      refine xi_iconst (pc' := 76) rfl rfl ?_
      refine xi_imul (pc' := 77) rfl rfl ?_
      refine xi_iload (pc' := 79) rfl rfl rfl ?_
      refine xi_iconst (pc' := 80) rfl rfl ?_
      refine xx_icmp (pc' := 83) (tg := 87) rfl rfl rfl (fun q80 => ?_) (fun q80 => ?_)
      · refine xi_iconst (pc' := 88) rfl rfl ?_
        refine xi_iadd (pc' := 89) rfl rfl ?_
        refine xi_istore_n (pc' := 90) rfl (st1_3 rfl) rfl ?_
        refine xi_iincmv (y := - nI 1) (pc' := 93) rfl rfl (by decide) (st1_4 rfl) rfl ?_
        refine xi_goto (pc' := 43) rfl rfl ?_
        refine xi_iload (pc' := 45) rfl rfl rfl ?_
        refine xi_ift (pc' := 96) rfl rfl (by decide) ?_
        simp only [ex_P, Classical.not_not] at q62 q80
        first | exact absurd q62 q80 | exact absurd q80 q62 | (rw [df0_a q62]; exact c_dec_fin) | (simp only [ex_P] at q68; rw [df0_b q62 q68]; exact c_dec_fin)
      · refine xi_iconst (pc' := 84) rfl rfl ?_
        refine xi_goto (pc' := 88) rfl rfl ?_
        refine xi_iadd (pc' := 89) rfl rfl ?_
        refine xi_istore_n (pc' := 90) rfl (st1_3 rfl) rfl ?_
        refine xi_iincmv (y := - nI 1) (pc' := 93) rfl rfl (by decide) (st1_4 rfl) rfl ?_
        refine xi_goto (pc' := 43) rfl rfl ?_
        refine xi_iload (pc' := 45) rfl rfl rfl ?_
        refine xi_ift (pc' := 96) rfl rfl (by decide) ?_
        simp only [ex_P, Classical.not_not] at q62 q80
        first | exact absurd q62 q80 | exact absurd q80 q62 | (rw [df0_a q62]; exact c_dec_fin) | (simp only [ex_P] at q68; rw [df0_b q62 q68]; exact c_dec_fin)
    · refine xi_iload (pc' := 67) rfl rfl rfl ?_
      refine xi_iconst (pc' := 68) rfl rfl ?_
      refine xx_icmp (pc' := 71) (tg := 74) rfl rfl rfl (fun q68 => ?_) (fun q68 => ?_)
      · refine xi_iload_n (pc' := 75) rfl rfl rfl ?_
        refine xi_iconst (pc' := 76) rfl rfl ?_
        refine xi_imul (pc' := 77) rfl rfl ?_
        refine xi_iload (pc' := 79) rfl rfl rfl ?_
        refine xi_iconst (pc' := 80) rfl rfl ?_
        refine xx_icmp (pc' := 83) (tg := 87) rfl rfl rfl (fun q80 => ?_) (fun q80 => ?_)
        · refine xi_iconst (pc' := 88) rfl rfl ?_
          refine xi_iadd (pc' := 89) rfl rfl ?_
          refine xi_istore_n (pc' := 90) rfl (st1_3 rfl) rfl ?_
          refine xi_iincmv (y := - nI 1) (pc' := 93) rfl rfl (by decide) (st1_4 rfl) rfl ?_
          refine xi_goto (pc' := 43) rfl rfl ?_
          refine xi_iload (pc' := 45) rfl rfl rfl ?_
          refine xi_ift (pc' := 96) rfl rfl (by decide) ?_
          simp only [ex_P, Classical.not_not] at q62 q80
          first | exact absurd q62 q80 | exact absurd q80 q62 | (rw [df0_a q62]; exact c_dec_fin) | (simp only [ex_P] at q68; rw [df0_b q62 q68]; exact c_dec_fin)
        · refine xi_iconst (pc' := 84) rfl rfl ?_
          refine xi_goto (pc' := 88) rfl rfl ?_
          refine xi_iadd (pc' := 89) rfl rfl ?_
          refine xi_istore_n (pc' := 90) rfl (st1_3 rfl) rfl ?_
          refine xi_iincmv (y := - nI 1) (pc' := 93) rfl rfl (by decide) (st1_4 rfl) rfl ?_
          refine xi_goto (pc' := 43) rfl rfl ?_
          refine xi_iload (pc' := 45) rfl rfl rfl ?_
          refine xi_ift (pc' := 96) rfl rfl (by decide) ?_
          simp only [ex_P, Classical.not_not] at q62 q80
          first | exact absurd q62 q80 | exact absurd q80 q62 | (rw [df0_a q62]; exact c_dec_fin) | (simp only [ex_P] at q68; rw [df0_b q62 q68]; exact c_dec_fin)
      · refine xi_bipushm (pc' := 73) rfl (by decide) rfl ?_
        refine xx_ireturn rfl rfl ?_
        refine ⟨congrArg (fun v => some (Value.int v)) ?_, rfl⟩
        simp only [ex_P] at q62 q68
        exact (df0_c q62 q68).symm
  | succ i ih =>
    intro hi
    have ih := ih (by omega)
    intro b v5 h5
    refine xi_iload (pc' := 45) rfl rfl rfl ?_
    refine xx_if (pc' := 48) (tg := 96) rfl rfl rfl (fun q45 => absurd q45 (show ¬ ex_P .lt (nI (i + 1)) 0 from nI_pos (by have := hi; omega))) (fun q45 => ?_)
    refine xi_lload_n (pc' := 49) rfl rfl rfl ?_
    refine xi_iconst (pc' := 50) rfl rfl ?_
    refine xi_iload (pc' := 52) rfl rfl rfl ?_
    refine xi_imul (pc' := 53) rfl rfl ?_
    refine xi_lshr (pc' := 54) rfl rfl ?_
    refine xi_l2i (pc' := 55) rfl rfl ?_
    refine xi_iconst (pc' := 56) rfl rfl ?_
    refine xi_iand (pc' := 57) rfl rfl ?_
    refine xx_topi (y := q_pr h (nI (i + 1))) (rfl) ?_
    refine xi_istore (pc' := 59) rfl (st1_5 rfl) rfl ?_
    refine xi_iload (pc' := 61) rfl rfl rfl ?_
    refine xi_iconst (pc' := 62) rfl rfl ?_
    refine xx_icmp (pc' := 65) (tg := 74) rfl rfl rfl (fun q62 => ?_) (fun q62 => ?_)
    · refine xi_iload_n (pc' := 75) rfl rfl rfl ?_
      refine xi_iconst (pc' := 76) rfl rfl ?_
      refine xi_imul (pc' := 77) rfl rfl ?_
      refine xi_iload (pc' := 79) rfl rfl rfl ?_
      refine xi_iconst (pc' := 80) rfl rfl ?_
      refine xx_icmp (pc' := 83) (tg := 87) rfl rfl rfl (fun q80 => ?_) (fun q80 => ?_)
      · refine xi_iconst (pc' := 88) rfl rfl ?_
        refine xi_iadd (pc' := 89) rfl rfl ?_
        refine xi_istore_n (pc' := 90) rfl (st1_3 rfl) rfl ?_
        refine xi_iincmv (y := nI i) (pc' := 93) rfl rfl (ix_dec i) (st1_4 rfl) rfl ?_
        refine xi_goto (pc' := 43) rfl rfl ?_
        simp only [ex_P, Classical.not_not] at q62 q80
        first | exact absurd q62 q80 | exact absurd q80 q62 | (rw [df_a q62]; exact ih _ _ rfl) | (simp only [ex_P] at q68; rw [df_b q62 q68]; exact ih _ _ rfl)
      · refine xi_iconst (pc' := 84) rfl rfl ?_
        refine xi_goto (pc' := 88) rfl rfl ?_
        refine xi_iadd (pc' := 89) rfl rfl ?_
        refine xi_istore_n (pc' := 90) rfl (st1_3 rfl) rfl ?_
        refine xi_iincmv (y := nI i) (pc' := 93) rfl rfl (ix_dec i) (st1_4 rfl) rfl ?_
        refine xi_goto (pc' := 43) rfl rfl ?_
        simp only [ex_P, Classical.not_not] at q62 q80
        first | exact absurd q62 q80 | exact absurd q80 q62 | (rw [df_a q62]; exact ih _ _ rfl) | (simp only [ex_P] at q68; rw [df_b q62 q68]; exact ih _ _ rfl)
    · refine xi_iload (pc' := 67) rfl rfl rfl ?_
      refine xi_iconst (pc' := 68) rfl rfl ?_
      refine xx_icmp (pc' := 71) (tg := 74) rfl rfl rfl (fun q68 => ?_) (fun q68 => ?_)
      · refine xi_iload_n (pc' := 75) rfl rfl rfl ?_
        refine xi_iconst (pc' := 76) rfl rfl ?_
        refine xi_imul (pc' := 77) rfl rfl ?_
        refine xi_iload (pc' := 79) rfl rfl rfl ?_
        refine xi_iconst (pc' := 80) rfl rfl ?_
        refine xx_icmp (pc' := 83) (tg := 87) rfl rfl rfl (fun q80 => ?_) (fun q80 => ?_)
        · refine xi_iconst (pc' := 88) rfl rfl ?_
          refine xi_iadd (pc' := 89) rfl rfl ?_
          refine xi_istore_n (pc' := 90) rfl (st1_3 rfl) rfl ?_
          refine xi_iincmv (y := nI i) (pc' := 93) rfl rfl (ix_dec i) (st1_4 rfl) rfl ?_
          refine xi_goto (pc' := 43) rfl rfl ?_
          simp only [ex_P, Classical.not_not] at q62 q80
          first | exact absurd q62 q80 | exact absurd q80 q62 | (rw [df_a q62]; exact ih _ _ rfl) | (simp only [ex_P] at q68; rw [df_b q62 q68]; exact ih _ _ rfl)
        · refine xi_iconst (pc' := 84) rfl rfl ?_
          refine xi_goto (pc' := 88) rfl rfl ?_
          refine xi_iadd (pc' := 89) rfl rfl ?_
          refine xi_istore_n (pc' := 90) rfl (st1_3 rfl) rfl ?_
          refine xi_iincmv (y := nI i) (pc' := 93) rfl rfl (ix_dec i) (st1_4 rfl) rfl ?_
          refine xi_goto (pc' := 43) rfl rfl ?_
          simp only [ex_P, Classical.not_not] at q62 q80
          first | exact absurd q62 q80 | exact absurd q80 q62 | (rw [df_a q62]; exact ih _ _ rfl) | (simp only [ex_P] at q68; rw [df_b q62 q68]; exact ih _ _ rfl)
      · refine xi_bipushm (pc' := 73) rfl (by decide) rfl ?_
        refine xx_ireturn rfl rfl ?_
        refine ⟨congrArg (fun v => some (Value.int v)) ?_, rfl⟩
        simp only [ex_P] at q62 q68
        exact (df_c q62 q68).symm
theorem c_word_56 {L : Nat} {xs : Nat → Int32} {D n : Nat} {I J : ex_Mem} {h : Int64} (hv : vLo h) (h7 : de_sy h = nI 56) : ri L xs (D + 2) 131 [.long h] (mkH n I J) (q_df h 16 (nI 0)) (mkH n I J) := by
  show xx cb_G _ _ _ 131 0 [.long h, ex_no, ex_no, ex_no, ex_no, ex_no] [] _ _
  refine xi_lload_n (pc' := 1) rfl rfl rfl ?_
  refine xi_lconst (pc' := 2) rfl rfl ?_
  refine xi_lcmp (pc' := 3) rfl rfl ?_
  refine xx_if (pc' := 6) (tg := 14) rfl rfl rfl (fun q3 => absurd q3 ((lo_iff.1 hv).1)) (fun q3 => ?_)
  refine xi_lload_n (pc' := 7) rfl rfl rfl ?_
  refine xx_ldc2 (v := lN 1099511627776) (pc' := 10) rfl rfl (by decide) rfl ?_
  refine xi_lcmp (pc' := 11) rfl rfl ?_
  refine xx_if (pc' := 14) (tg := 16) rfl rfl rfl (fun q11 => ?_) (fun q11 => absurd ((lo_iff.1 hv).2) q11)
  refine xi_lload_n (pc' := 17) rfl rfl rfl ?_
  refine xi_bipush (pc' := 19) rfl (by decide) rfl ?_
  refine xi_lshr (pc' := 20) rfl rfl ?_
  refine xi_l2i (pc' := 21) rfl rfl ?_
  refine xi_istore_n (pc' := 22) rfl (st1_2 rfl) rfl ?_
  refine xi_iload_n (pc' := 23) rfl rfl rfl ?_
  refine xi_bipush (pc' := 25) rfl (by decide) rfl ?_
  refine xx_icmp (pc' := 28) (tg := 37) rfl rfl rfl (fun q25 => ?_) (fun q25 => absurd (h7) q25)
  refine xi_iconst (pc' := 38) rfl rfl ?_
  refine xi_istore_n (pc' := 39) rfl (st1_3 rfl) rfl ?_
  refine xi_bipush (pc' := 41) rfl (by decide) rfl ?_
  refine xi_istore (pc' := 43) rfl (st1_4 rfl) rfl ?_
  exact c_dec_loop 16 (by decide) _ _ rfl
theorem c_word_7 {L : Nat} {xs : Nat → Int32} {D n : Nat} {I J : ex_Mem} {h : Int64} (hv : vLo h) (h7 : de_sy h = nI 7) : ri L xs (D + 2) 131 [.long h] (mkH n I J) (q_df h 16 (nI 0)) (mkH n I J) := by
  show xx cb_G _ _ _ 131 0 [.long h, ex_no, ex_no, ex_no, ex_no, ex_no] [] _ _
  refine xi_lload_n (pc' := 1) rfl rfl rfl ?_
  refine xi_lconst (pc' := 2) rfl rfl ?_
  refine xi_lcmp (pc' := 3) rfl rfl ?_
  refine xx_if (pc' := 6) (tg := 14) rfl rfl rfl (fun q3 => absurd q3 ((lo_iff.1 hv).1)) (fun q3 => ?_)
  refine xi_lload_n (pc' := 7) rfl rfl rfl ?_
  refine xx_ldc2 (v := lN 1099511627776) (pc' := 10) rfl rfl (by decide) rfl ?_
  refine xi_lcmp (pc' := 11) rfl rfl ?_
  refine xx_if (pc' := 14) (tg := 16) rfl rfl rfl (fun q11 => ?_) (fun q11 => absurd ((lo_iff.1 hv).2) q11)
  refine xi_lload_n (pc' := 17) rfl rfl rfl ?_
  refine xi_bipush (pc' := 19) rfl (by decide) rfl ?_
  refine xi_lshr (pc' := 20) rfl rfl ?_
  refine xi_l2i (pc' := 21) rfl rfl ?_
  refine xi_istore_n (pc' := 22) rfl (st1_2 rfl) rfl ?_
  refine xi_iload_n (pc' := 23) rfl rfl rfl ?_
  refine xi_bipush (pc' := 25) rfl (by decide) rfl ?_
  refine xx_icmp (pc' := 28) (tg := 37) rfl rfl rfl (fun q25 => absurd q25 (fun q => absurd (q.symm.trans h7) (by decide))) (fun q25 => ?_)
  refine xi_iload_n (pc' := 29) rfl rfl rfl ?_
  refine xi_bipush (pc' := 31) rfl (by decide) rfl ?_
  refine xx_icmp (pc' := 34) (tg := 37) rfl rfl rfl (fun q31 => ?_) (fun q31 => absurd (h7) q31)
  refine xi_iconst (pc' := 38) rfl rfl ?_
  refine xi_istore_n (pc' := 39) rfl (st1_3 rfl) rfl ?_
  refine xi_bipush (pc' := 41) rfl (by decide) rfl ?_
  refine xi_istore (pc' := 43) rfl (st1_4 rfl) rfl ?_
  exact c_dec_loop 16 (by decide) _ _ rfl
theorem f_decode_b {L : Nat} {xs : Nat → Int32} {D n : Nat} {I J : ex_Mem} {h : Int64} (hb : ¬ vLo h) : ri L xs (D + 3) 4 [.ref 0, .long h] (mkH n I J) (- nI 1) (mkH n I J) := by
  show xx cb_G _ _ _ 4 0 [.ref 0, .long h, ex_no] [] _ _
  refine xi_lload_n (pc' := 1) rfl rfl rfl ?_
  refine xx_callSi (pc' := 4) rfl rfl (by decide) rfl (Nat.le_of_ble_eq_true rfl) rfl rfl (c_word_b hb) ?_
  refine xx_ireturn rfl rfl ?_
  exact ⟨rfl, rfl⟩
theorem f_decode_s {L : Nat} {xs : Nat → Int32} {D n : Nat} {I J : ex_Mem} {h : Int64} (hv : vLo h) (h7 : ¬ de_sy h = nI 7) (h56 : ¬ de_sy h = nI 56) : ri L xs (D + 3) 4 [.ref 0, .long h] (mkH n I J) (- nI 3) (mkH n I J) := by
  show xx cb_G _ _ _ 4 0 [.ref 0, .long h, ex_no] [] _ _
  refine xi_lload_n (pc' := 1) rfl rfl rfl ?_
  refine xx_callSi (pc' := 4) rfl rfl (by decide) rfl (Nat.le_of_ble_eq_true rfl) rfl rfl (c_word_s hv h7 h56) ?_
  refine xx_ireturn rfl rfl ?_
  exact ⟨rfl, rfl⟩
theorem f_decode_7 {L : Nat} {xs : Nat → Int32} {D n : Nat} {I J : ex_Mem} {h : Int64} (hv : vLo h) (h7 : de_sy h = nI 7) : ri L xs (D + 3) 4 [.ref 0, .long h] (mkH n I J) (q_df h 16 (nI 0)) (mkH n I J) := by
  show xx cb_G _ _ _ 4 0 [.ref 0, .long h, ex_no] [] _ _
  refine xi_lload_n (pc' := 1) rfl rfl rfl ?_
  refine xx_callSi (pc' := 4) rfl rfl (by decide) rfl (Nat.le_of_ble_eq_true rfl) rfl rfl (c_word_7 hv h7) ?_
  refine xx_ireturn rfl rfl ?_
  exact ⟨rfl, rfl⟩
theorem f_decode_56 {L : Nat} {xs : Nat → Int32} {D n : Nat} {I J : ex_Mem} {h : Int64} (hv : vLo h) (h7 : de_sy h = nI 56) : ri L xs (D + 3) 4 [.ref 0, .long h] (mkH n I J) (q_df h 16 (nI 0)) (mkH n I J) := by
  show xx cb_G _ _ _ 4 0 [.ref 0, .long h, ex_no] [] _ _
  refine xi_lload_n (pc' := 1) rfl rfl rfl ?_
  refine xx_callSi (pc' := 4) rfl rfl (by decide) rfl (Nat.le_of_ble_eq_true rfl) rfl rfl (c_word_56 hv h7) ?_
  refine xx_ireturn rfl rfl ?_
  exact ⟨rfl, rfl⟩
theorem f_encode1 {L : Nat} {xs : Nat → Int32} {D n : Nat} {I J : ex_Mem} {d v : Int32} (hv : vV v) : rl L xs (D + 3) 2 [.ref 0, .int d, .int v] (mkH n I J) (q_enc d v) (mkH n I J) := by
  show xx cb_G _ _ _ 2 0 [.ref 0, .int d, .int v] [] _ _
  refine xi_iload_n (pc' := 1) rfl rfl rfl ?_
  refine xx_callSi (pc' := 4) rfl rfl (by decide) rfl (Nat.le_of_ble_eq_true rfl) rfl rfl (c_isValue1 hv) ?_
  refine xi_iff (pc' := 7) (tg := 15) rfl rfl (by decide) rfl ?_
  refine xi_iload_n (pc' := 8) rfl rfl rfl ?_
  refine xi_iload_n (pc' := 9) rfl rfl rfl ?_
  refine xx_callSl (pc' := 12) rfl rfl (by decide) rfl (Nat.le_of_ble_eq_true rfl) rfl rfl (c_halves) ?_
  refine xi_goto (pc' := 18) rfl rfl ?_
  refine xx_lreturn rfl rfl ?_
  exact ⟨rfl, rfl⟩
theorem f_encode0 {L : Nat} {xs : Nat → Int32} {D n : Nat} {I J : ex_Mem} {d v : Int32} (hv : ¬ vV v) : rl L xs (D + 3) 2 [.ref 0, .int d, .int v] (mkH n I J) (- lN 1) (mkH n I J) := by
  show xx cb_G _ _ _ 2 0 [.ref 0, .int d, .int v] [] _ _
  refine xi_iload_n (pc' := 1) rfl rfl rfl ?_
  refine xx_callSi (pc' := 4) rfl rfl (by decide) rfl (Nat.le_of_ble_eq_true rfl) rfl rfl (c_isValue0 hv) ?_
  refine xi_ift (pc' := 15) rfl rfl (by decide) ?_
  refine xx_ldc2 (v := - lN 1) (pc' := 18) rfl rfl (by decide) rfl ?_
  refine xx_lreturn rfl rfl ?_
  exact ⟨rfl, rfl⟩
theorem f_live1 {L : Nat} {xs : Nat → Int32} {D n : Nat} {I J : ex_Mem} {t : Nat} {on : Int32} (ht : t < 6) (hon : ex_b01 on = true) : ri L xs (D + 1) 5 [.ref 0, .int (nI t), .int on] (mkH n I J) (nI 1) (mkH n (ex_wI I (8 + 6 * t) 1 on) J) := by
  show xx cb_G _ _ _ 5 0 [.ref 0, .int (nI t), .int on] [] _ _
  refine xi_iload_n (pc' := 1) rfl rfl rfl ?_
  refine xx_callSi (pc' := 4) rfl rfl (by decide) rfl (Nat.le_of_ble_eq_true rfl) rfl rfl (c_isTerminal1 (vT_n ht)) ?_
  refine xi_ift (pc' := 9) rfl rfl (by decide) ?_
  refine xi_aload_n (pc' := 10) rfl rfl rfl ?_
  refine xc_getp (pc' := 13) rfl rfl (by decide) rfl (by omega) (by decide) rfl rfl rfl ?_
  refine xi_iload_n (pc' := 14) rfl rfl rfl ?_
  refine xc_aald (j := t) (pc' := 15) rfl rfl (by omega) (by first | rfl | (simp only [ix_add, ix_mul, ix_pred]; done) | (simp only [ix_add, ix_mul, ix_pred, *]; done)) (by omega) (by decide) (pd_2 ht) rfl ?_
  refine xi_iload_n (pc' := 16) rfl rfl rfl ?_
  refine xc_puti (pc' := 19) rfl rfl (by decide) (kd_T0 ht) (by omega) (by omega) (by decide) (Or.inr ⟨rfl, hon⟩) rfl ?_
  refine xi_iconst (pc' := 20) rfl rfl ?_
  refine xx_zreturn rfl rfl (by first | rfl | assumption | exact b01_bI | simp [ex_b01, bI]) ?_
  exact ⟨rfl, rfl⟩
theorem f_live0 {L : Nat} {xs : Nat → Int32} {D n : Nat} {I J : ex_Mem} {t on : Int32} (ht : ¬ vT t) : ri L xs (D + 1) 5 [.ref 0, .int t, .int on] (mkH n I J) (nI 0) (mkH n I J) := by
  show xx cb_G _ _ _ 5 0 [.ref 0, .int t, .int on] [] _ _
  refine xi_iload_n (pc' := 1) rfl rfl rfl ?_
  refine xx_callSi (pc' := 4) rfl rfl (by decide) rfl (Nat.le_of_ble_eq_true rfl) rfl rfl (c_isTerminal0 ht) ?_
  refine xi_iff (pc' := 7) (tg := 9) rfl rfl (by decide) rfl ?_
  refine xi_iconst (pc' := 8) rfl rfl ?_
  refine xx_zreturn rfl rfl (by first | rfl | assumption | exact b01_bI | simp [ex_b01, bI]) ?_
  exact ⟨rfl, rfl⟩
theorem f_draft1 {L : Nat} {xs : Nat → Int32} {D n : Nat} {I J : ex_Mem} {t s k : Nat} {v : Int32} (ht : t < 6) (hs : s < 3) (hk : k < 4) (hv : vV v) : ri L xs (D + 2) 7 [.ref 0, .int (nI t), .int (nI (s + 1)), .int (nI k), .int v] (mkH n I J) (nI 1) (mkH n (ex_wI I (10 + 6 * t) (4 * s + k) v) J) := by
  show xx cb_G _ _ _ 7 0 [.ref 0, .int (nI t), .int (nI (s + 1)), .int (nI k), .int v] [] _ _
  refine xi_iload_n (pc' := 1) rfl rfl rfl ?_
  refine xi_iload_n (pc' := 2) rfl rfl rfl ?_
  refine xx_callSi (pc' := 5) rfl rfl (by decide) rfl (Nat.le_of_ble_eq_true rfl) rfl rfl (c_isPlace1 (vT_n ht) (vS_n hs)) ?_
  refine xi_iff (pc' := 8) (tg := 23) rfl rfl (by decide) rfl ?_
  refine xi_iload_n (pc' := 9) rfl rfl rfl ?_
  refine xx_callSi (pc' := 12) rfl rfl (by decide) rfl (Nat.le_of_ble_eq_true rfl) rfl rfl (c_isIndex1 (vK_n hk)) ?_
  refine xi_iff (pc' := 15) (tg := 23) rfl rfl (by decide) rfl ?_
  refine xi_iload (pc' := 17) rfl rfl rfl ?_
  refine xx_callSi (pc' := 20) rfl rfl (by decide) rfl (Nat.le_of_ble_eq_true rfl) rfl rfl (c_isValue1 hv) ?_
  refine xi_ift (pc' := 25) rfl rfl (by decide) ?_
  refine xi_aload_n (pc' := 26) rfl rfl rfl ?_
  refine xc_getp (pc' := 29) rfl rfl (by decide) rfl (by omega) (by decide) rfl rfl rfl ?_
  refine xi_iload_n (pc' := 30) rfl rfl rfl ?_
  refine xc_aald (j := t) (pc' := 31) rfl rfl (by omega) (by first | rfl | (simp only [ix_add, ix_mul, ix_pred]; done) | (simp only [ix_add, ix_mul, ix_pred, *]; done)) (by omega) (by decide) (pd_2 ht) rfl ?_
  refine xc_getp (pc' := 34) rfl rfl (by decide) (kd_T0 ht) (by omega) (by decide) rfl (pd_T7 ht) rfl ?_
  refine xi_iload_n (pc' := 35) rfl rfl rfl ?_
  refine xx_callSi (pc' := 38) rfl rfl (by decide) rfl (Nat.le_of_ble_eq_true rfl) rfl rfl (c_firstOf) ?_
  refine xi_iload_n (pc' := 39) rfl rfl rfl ?_
  refine xi_iadd (pc' := 40) rfl rfl ?_
  refine xi_iload (pc' := 42) rfl rfl rfl ?_
  refine xc_iast (j := 4 * s + k) (pc' := 43) rfl (kd_T2 ht) (by omega) (by omega) (by first | rfl | (simp only [ix_add, ix_mul, ix_pred]; done) | (simp only [ix_add, ix_mul, ix_pred, *]; done)) (by omega) (by decide) rfl ?_
  refine xi_iconst (pc' := 44) rfl rfl ?_
  refine xx_zreturn rfl rfl (by first | rfl | assumption | exact b01_bI | simp [ex_b01, bI]) ?_
  exact ⟨rfl, rfl⟩
theorem f_draft0p {L : Nat} {xs : Nat → Int32} {D n : Nat} {I J : ex_Mem} {t s k v : Int32} (hp : ¬ (vT t ∧ vS s)) : ri L xs (D + 2) 7 [.ref 0, .int t, .int s, .int k, .int v] (mkH n I J) (nI 0) (mkH n I J) := by
  show xx cb_G _ _ _ 7 0 [.ref 0, .int t, .int s, .int k, .int v] [] _ _
  refine xi_iload_n (pc' := 1) rfl rfl rfl ?_
  refine xi_iload_n (pc' := 2) rfl rfl rfl ?_
  refine xx_callSi (pc' := 5) rfl rfl (by decide) rfl (Nat.le_of_ble_eq_true rfl) rfl rfl (c_isPlace0 hp) ?_
  refine xi_ift (pc' := 23) rfl rfl (by decide) ?_
  refine xi_iconst (pc' := 24) rfl rfl ?_
  refine xx_zreturn rfl rfl (by first | rfl | assumption | exact b01_bI | simp [ex_b01, bI]) ?_
  exact ⟨rfl, rfl⟩
theorem f_draft0k {L : Nat} {xs : Nat → Int32} {D n : Nat} {I J : ex_Mem} {t s k v : Int32} (hp : vT t ∧ vS s) (hk : ¬ vK k) : ri L xs (D + 2) 7 [.ref 0, .int t, .int s, .int k, .int v] (mkH n I J) (nI 0) (mkH n I J) := by
  show xx cb_G _ _ _ 7 0 [.ref 0, .int t, .int s, .int k, .int v] [] _ _
  refine xi_iload_n (pc' := 1) rfl rfl rfl ?_
  refine xi_iload_n (pc' := 2) rfl rfl rfl ?_
  refine xx_callSi (pc' := 5) rfl rfl (by decide) rfl (Nat.le_of_ble_eq_true rfl) rfl rfl (c_isPlace1 hp.1 hp.2) ?_
  refine xi_iff (pc' := 8) (tg := 23) rfl rfl (by decide) rfl ?_
  refine xi_iload_n (pc' := 9) rfl rfl rfl ?_
  refine xx_callSi (pc' := 12) rfl rfl (by decide) rfl (Nat.le_of_ble_eq_true rfl) rfl rfl (c_isIndex0 hk) ?_
  refine xi_ift (pc' := 23) rfl rfl (by decide) ?_
  refine xi_iconst (pc' := 24) rfl rfl ?_
  refine xx_zreturn rfl rfl (by first | rfl | assumption | exact b01_bI | simp [ex_b01, bI]) ?_
  exact ⟨rfl, rfl⟩
theorem f_draft0v {L : Nat} {xs : Nat → Int32} {D n : Nat} {I J : ex_Mem} {t s k v : Int32} (hp : vT t ∧ vS s) (hk : vK k) (hv : ¬ vV v) : ri L xs (D + 2) 7 [.ref 0, .int t, .int s, .int k, .int v] (mkH n I J) (nI 0) (mkH n I J) := by
  show xx cb_G _ _ _ 7 0 [.ref 0, .int t, .int s, .int k, .int v] [] _ _
  refine xi_iload_n (pc' := 1) rfl rfl rfl ?_
  refine xi_iload_n (pc' := 2) rfl rfl rfl ?_
  refine xx_callSi (pc' := 5) rfl rfl (by decide) rfl (Nat.le_of_ble_eq_true rfl) rfl rfl (c_isPlace1 hp.1 hp.2) ?_
  refine xi_iff (pc' := 8) (tg := 23) rfl rfl (by decide) rfl ?_
  refine xi_iload_n (pc' := 9) rfl rfl rfl ?_
  refine xx_callSi (pc' := 12) rfl rfl (by decide) rfl (Nat.le_of_ble_eq_true rfl) rfl rfl (c_isIndex1 hk) ?_
  refine xi_iff (pc' := 15) (tg := 23) rfl rfl (by decide) rfl ?_
  refine xi_iload (pc' := 17) rfl rfl rfl ?_
  refine xx_callSi (pc' := 20) rfl rfl (by decide) rfl (Nat.le_of_ble_eq_true rfl) rfl rfl (c_isValue0 hv) ?_
  refine xi_iff (pc' := 23) (tg := 25) rfl rfl (by decide) rfl ?_
  refine xi_iconst (pc' := 24) rfl rfl ?_
  refine xx_zreturn rfl rfl (by first | rfl | assumption | exact b01_bI | simp [ex_b01, bI]) ?_
  exact ⟨rfl, rfl⟩
theorem f_publish1 {L : Nat} {xs : Nat → Int32} {D n : Nat} {I J : ex_Mem} {t s : Nat} (ht : t < 6) (hs : s < 3) : ri L xs (D + 2) 11 [.ref 0, .int (nI t), .int (nI (s + 1))] (mkH n I J) (nI 1) (mkH n (ex_copy I (10 + 6 * t) (4 * s) (11 + 6 * t) (4 * s) 4) J) := by
  show xx cb_G _ _ _ 11 0 [.ref 0, .int (nI t), .int (nI (s + 1))] [] _ _
  refine xi_iload_n (pc' := 1) rfl rfl rfl ?_
  refine xi_iload_n (pc' := 2) rfl rfl rfl ?_
  refine xx_callSi (pc' := 5) rfl rfl (by decide) rfl (Nat.le_of_ble_eq_true rfl) rfl rfl (c_isPlace1 (vT_n ht) (vS_n hs)) ?_
  refine xi_ift (pc' := 10) rfl rfl (by decide) ?_
  refine xi_aload_n (pc' := 11) rfl rfl rfl ?_
  refine xc_getp (pc' := 14) rfl rfl (by decide) rfl (by omega) (by decide) rfl rfl rfl ?_
  refine xi_iload_n (pc' := 15) rfl rfl rfl ?_
  refine xc_aald (j := t) (pc' := 16) rfl rfl (by omega) (by first | rfl | (simp only [ix_add, ix_mul, ix_pred]; done) | (simp only [ix_add, ix_mul, ix_pred, *]; done)) (by omega) (by decide) (pd_2 ht) rfl ?_
  refine xi_iload_n (pc' := 17) rfl rfl rfl ?_
  refine xx_callVv (pc' := 20) rfl rfl (by decide) rfl (kd_T0 ht) (by show _ < 81 + 2 * _; omega) (Nat.le_of_ble_eq_true rfl) rfl rfl (c_sendDraft ht hs) ?_
  refine xi_iconst (pc' := 21) rfl rfl ?_
  refine xx_zreturn rfl rfl (by first | rfl | assumption | exact b01_bI | simp [ex_b01, bI]) ?_
  exact ⟨rfl, rfl⟩
theorem f_publish0 {L : Nat} {xs : Nat → Int32} {D n : Nat} {I J : ex_Mem} {t s : Int32} (hp : ¬ (vT t ∧ vS s)) : ri L xs (D + 2) 11 [.ref 0, .int t, .int s] (mkH n I J) (nI 0) (mkH n I J) := by
  show xx cb_G _ _ _ 11 0 [.ref 0, .int t, .int s] [] _ _
  refine xi_iload_n (pc' := 1) rfl rfl rfl ?_
  refine xi_iload_n (pc' := 2) rfl rfl rfl ?_
  refine xx_callSi (pc' := 5) rfl rfl (by decide) rfl (Nat.le_of_ble_eq_true rfl) rfl rfl (c_isPlace0 hp) ?_
  refine xi_iff (pc' := 8) (tg := 10) rfl rfl (by decide) rfl ?_
  refine xi_iconst (pc' := 9) rfl rfl ?_
  refine xx_zreturn rfl rfl (by first | rfl | assumption | exact b01_bI | simp [ex_b01, bI]) ?_
  exact ⟨rfl, rfl⟩
theorem f_received1 {L : Nat} {xs : Nat → Int32} {D n : Nat} {I J : ex_Mem} {t s k : Nat} (ht : t < 6) (hs : s < 3) (hk : k < 4) : ri L xs (D + 2) 12 [.ref 0, .int (nI t), .int (nI (s + 1)), .int (nI k)] (mkH n I J) (if I (13 + 6 * t) s = 0 then - nI 1 else I (12 + 6 * t) (4 * s + k)) (mkH n I J) := by
  show xx cb_G _ _ _ 12 0 [.ref 0, .int (nI t), .int (nI (s + 1)), .int (nI k)] [] _ _
  refine xi_iload_n (pc' := 1) rfl rfl rfl ?_
  refine xi_iload_n (pc' := 2) rfl rfl rfl ?_
  refine xx_callSi (pc' := 5) rfl rfl (by decide) rfl (Nat.le_of_ble_eq_true rfl) rfl rfl (c_isPlace1 (vT_n ht) (vS_n hs)) ?_
  refine xi_iff (pc' := 8) (tg := 15) rfl rfl (by decide) rfl ?_
  refine xi_iload_n (pc' := 9) rfl rfl rfl ?_
  refine xx_callSi (pc' := 12) rfl rfl (by decide) rfl (Nat.le_of_ble_eq_true rfl) rfl rfl (c_isIndex1 (vK_n hk)) ?_
  refine xi_ift (pc' := 17) rfl rfl (by decide) ?_
  refine xi_aload_n (pc' := 18) rfl rfl rfl ?_
  refine xc_getp (pc' := 21) rfl rfl (by decide) rfl (by omega) (by decide) rfl rfl rfl ?_
  refine xi_iload_n (pc' := 22) rfl rfl rfl ?_
  refine xc_aald (j := t) (pc' := 23) rfl rfl (by omega) (by first | rfl | (simp only [ix_add, ix_mul, ix_pred]; done) | (simp only [ix_add, ix_mul, ix_pred, *]; done)) (by omega) (by decide) (pd_2 ht) rfl ?_
  refine xi_iload_n (pc' := 24) rfl rfl rfl ?_
  refine xi_iload_n (pc' := 25) rfl rfl rfl ?_
  refine xx_callVi (pc' := 28) rfl rfl (by decide) rfl (kd_T0 ht) (by show _ < 81 + 2 * _; omega) (Nat.le_of_ble_eq_true rfl) rfl rfl (c_valueReceived ht hs hk) ?_
  refine xx_ireturn rfl rfl ?_
  exact ⟨rfl, rfl⟩
theorem f_received0p {L : Nat} {xs : Nat → Int32} {D n : Nat} {I J : ex_Mem} {t s k : Int32} (hp : ¬ (vT t ∧ vS s)) : ri L xs (D + 2) 12 [.ref 0, .int t, .int s, .int k] (mkH n I J) (- nI 1) (mkH n I J) := by
  show xx cb_G _ _ _ 12 0 [.ref 0, .int t, .int s, .int k] [] _ _
  refine xi_iload_n (pc' := 1) rfl rfl rfl ?_
  refine xi_iload_n (pc' := 2) rfl rfl rfl ?_
  refine xx_callSi (pc' := 5) rfl rfl (by decide) rfl (Nat.le_of_ble_eq_true rfl) rfl rfl (c_isPlace0 hp) ?_
  refine xi_ift (pc' := 15) rfl rfl (by decide) ?_
  refine xi_iconstm (pc' := 16) rfl rfl ?_
  refine xx_ireturn rfl rfl ?_
  exact ⟨rfl, rfl⟩
theorem f_received0k {L : Nat} {xs : Nat → Int32} {D n : Nat} {I J : ex_Mem} {t s k : Int32} (hp : vT t ∧ vS s) (hk : ¬ vK k) : ri L xs (D + 2) 12 [.ref 0, .int t, .int s, .int k] (mkH n I J) (- nI 1) (mkH n I J) := by
  show xx cb_G _ _ _ 12 0 [.ref 0, .int t, .int s, .int k] [] _ _
  refine xi_iload_n (pc' := 1) rfl rfl rfl ?_
  refine xi_iload_n (pc' := 2) rfl rfl rfl ?_
  refine xx_callSi (pc' := 5) rfl rfl (by decide) rfl (Nat.le_of_ble_eq_true rfl) rfl rfl (c_isPlace1 hp.1 hp.2) ?_
  refine xi_iff (pc' := 8) (tg := 15) rfl rfl (by decide) rfl ?_
  refine xi_iload_n (pc' := 9) rfl rfl rfl ?_
  refine xx_callSi (pc' := 12) rfl rfl (by decide) rfl (Nat.le_of_ble_eq_true rfl) rfl rfl (c_isIndex0 hk) ?_
  refine xi_iff (pc' := 15) (tg := 17) rfl rfl (by decide) rfl ?_
  refine xi_iconstm (pc' := 16) rfl rfl ?_
  refine xx_ireturn rfl rfl ?_
  exact ⟨rfl, rfl⟩
theorem f_terminal_0 {L : Nat} {xs : Nat → Int32} {D n : Nat} {I J : ex_Mem} {t : Nat} (ht : t < 6) : ri L xs (D + 1) 13 [.ref 0, .int (nI t), .int (nI 0)] (mkH n I J) (c_st I t) (mkH n I J) := by
  show xx cb_G _ _ _ 13 0 [.ref 0, .int (nI t), .int (nI 0), ex_no] [] _ _
  refine xi_iload_n (pc' := 1) rfl rfl rfl ?_
  refine xx_callSi (pc' := 4) rfl rfl (by decide) rfl (Nat.le_of_ble_eq_true rfl) rfl rfl (c_isTerminal1 (vT_n ht)) ?_
  refine xi_ift (pc' := 9) rfl rfl (by decide) ?_
  refine xi_aload_n (pc' := 10) rfl rfl rfl ?_
  refine xc_getp (pc' := 13) rfl rfl (by decide) rfl (by omega) (by decide) rfl rfl rfl ?_
  refine xi_iload_n (pc' := 14) rfl rfl rfl ?_
  refine xc_aald (j := t) (pc' := 15) rfl rfl (by omega) (by first | rfl | (simp only [ix_add, ix_mul, ix_pred]; done) | (simp only [ix_add, ix_mul, ix_pred, *]; done)) (by omega) (by decide) (pd_2 ht) rfl ?_
  refine xi_astore_n (pc' := 16) rfl (st1_3 rfl) rfl ?_
  refine xi_iload_n (pc' := 17) rfl rfl rfl ?_
  refine xi_switch (off := .ofNat 43) (pc' := 60) rfl (by decide) (by decide) rfl ?_
  refine xi_aload_n (pc' := 61) rfl rfl rfl ?_
  refine xx_callVi (pc' := 64) rfl rfl (by decide) rfl (kd_T0 ht) (by show _ < 81 + 2 * _; omega) (Nat.le_of_ble_eq_true rfl) rfl rfl (c_status ht) ?_
  refine xx_ireturn rfl rfl ?_
  exact ⟨rfl, rfl⟩
theorem f_terminal_1 {L : Nat} {xs : Nat → Int32} {D n : Nat} {I J : ex_Mem} {t : Nat} (ht : t < 6) : ri L xs (D + 1) 13 [.ref 0, .int (nI t), .int (nI 1)] (mkH n I J) (I (8 + 6 * t) 4) (mkH n I J) := by
  show xx cb_G _ _ _ 13 0 [.ref 0, .int (nI t), .int (nI 1), ex_no] [] _ _
  refine xi_iload_n (pc' := 1) rfl rfl rfl ?_
  refine xx_callSi (pc' := 4) rfl rfl (by decide) rfl (Nat.le_of_ble_eq_true rfl) rfl rfl (c_isTerminal1 (vT_n ht)) ?_
  refine xi_ift (pc' := 9) rfl rfl (by decide) ?_
  refine xi_aload_n (pc' := 10) rfl rfl rfl ?_
  refine xc_getp (pc' := 13) rfl rfl (by decide) rfl (by omega) (by decide) rfl rfl rfl ?_
  refine xi_iload_n (pc' := 14) rfl rfl rfl ?_
  refine xc_aald (j := t) (pc' := 15) rfl rfl (by omega) (by first | rfl | (simp only [ix_add, ix_mul, ix_pred]; done) | (simp only [ix_add, ix_mul, ix_pred, *]; done)) (by omega) (by decide) (pd_2 ht) rfl ?_
  refine xi_astore_n (pc' := 16) rfl (st1_3 rfl) rfl ?_
  refine xi_iload_n (pc' := 17) rfl rfl rfl ?_
  refine xi_switch (off := .ofNat 48) (pc' := 65) rfl (by decide) (by decide) rfl ?_
  refine xi_aload_n (pc' := 66) rfl rfl rfl ?_
  refine xc_geti (pc' := 69) rfl rfl (by decide) (kd_T0 ht) (by omega) (by omega) (by decide) (by decide) rfl ?_
  refine xx_ireturn rfl rfl ?_
  exact ⟨rfl, rfl⟩
theorem f_terminal_2 {L : Nat} {xs : Nat → Int32} {D n : Nat} {I J : ex_Mem} {t : Nat} (ht : t < 6) : ri L xs (D + 1) 13 [.ref 0, .int (nI t), .int (nI 2)] (mkH n I J) (I (8 + 6 * t) 5) (mkH n I J) := by
  show xx cb_G _ _ _ 13 0 [.ref 0, .int (nI t), .int (nI 2), ex_no] [] _ _
  refine xi_iload_n (pc' := 1) rfl rfl rfl ?_
  refine xx_callSi (pc' := 4) rfl rfl (by decide) rfl (Nat.le_of_ble_eq_true rfl) rfl rfl (c_isTerminal1 (vT_n ht)) ?_
  refine xi_ift (pc' := 9) rfl rfl (by decide) ?_
  refine xi_aload_n (pc' := 10) rfl rfl rfl ?_
  refine xc_getp (pc' := 13) rfl rfl (by decide) rfl (by omega) (by decide) rfl rfl rfl ?_
  refine xi_iload_n (pc' := 14) rfl rfl rfl ?_
  refine xc_aald (j := t) (pc' := 15) rfl rfl (by omega) (by first | rfl | (simp only [ix_add, ix_mul, ix_pred]; done) | (simp only [ix_add, ix_mul, ix_pred, *]; done)) (by omega) (by decide) (pd_2 ht) rfl ?_
  refine xi_astore_n (pc' := 16) rfl (st1_3 rfl) rfl ?_
  refine xi_iload_n (pc' := 17) rfl rfl rfl ?_
  refine xi_switch (off := .ofNat 53) (pc' := 70) rfl (by decide) (by decide) rfl ?_
  refine xi_aload_n (pc' := 71) rfl rfl rfl ?_
  refine xc_geti (pc' := 74) rfl rfl (by decide) (kd_T0 ht) (by omega) (by omega) (by decide) (by decide) rfl ?_
  refine xx_ireturn rfl rfl ?_
  exact ⟨rfl, rfl⟩
theorem f_terminal_3 {L : Nat} {xs : Nat → Int32} {D n : Nat} {I J : ex_Mem} {t : Nat} (ht : t < 6) : ri L xs (D + 1) 13 [.ref 0, .int (nI t), .int (nI 3)] (mkH n I J) (if I (9 + 6 * t) 0 = 0 then nI 0 else nI 1) (mkH n I J) := by
  show xx cb_G _ _ _ 13 0 [.ref 0, .int (nI t), .int (nI 3), ex_no] [] _ _
  refine xi_iload_n (pc' := 1) rfl rfl rfl ?_
  refine xx_callSi (pc' := 4) rfl rfl (by decide) rfl (Nat.le_of_ble_eq_true rfl) rfl rfl (c_isTerminal1 (vT_n ht)) ?_
  refine xi_ift (pc' := 9) rfl rfl (by decide) ?_
  refine xi_aload_n (pc' := 10) rfl rfl rfl ?_
  refine xc_getp (pc' := 13) rfl rfl (by decide) rfl (by omega) (by decide) rfl rfl rfl ?_
  refine xi_iload_n (pc' := 14) rfl rfl rfl ?_
  refine xc_aald (j := t) (pc' := 15) rfl rfl (by omega) (by first | rfl | (simp only [ix_add, ix_mul, ix_pred]; done) | (simp only [ix_add, ix_mul, ix_pred, *]; done)) (by omega) (by decide) (pd_2 ht) rfl ?_
  refine xi_astore_n (pc' := 16) rfl (st1_3 rfl) rfl ?_
  refine xi_iload_n (pc' := 17) rfl rfl rfl ?_
  refine xi_switch (off := .ofNat 58) (pc' := 75) rfl (by decide) (by decide) rfl ?_
  refine xi_aload_n (pc' := 76) rfl rfl rfl ?_
  refine xc_getp (pc' := 79) rfl rfl (by decide) (kd_T0 ht) (by omega) (by decide) rfl (pd_T6 ht) rfl ?_
  refine xi_iconst (pc' := 80) rfl rfl ?_
  refine xc_zald (j := 0) (pc' := 81) rfl (kd_T1 ht) (by omega) (by omega) (by first | rfl | (simp only [ix_add, ix_mul, ix_pred]; done) | (simp only [ix_add, ix_mul, ix_pred, *]; done)) (by omega) (by decide) rfl ?_
  refine xx_if (pc' := 84) (tg := 88) rfl rfl rfl (fun q81 => ?_) (fun q81 => ?_)
  · refine xi_iconst (pc' := 89) rfl rfl ?_
    refine xx_ireturn rfl rfl ?_
    simp only [ex_P, Classical.not_not, ↓reduceIte, Nat.add_zero, or_true, true_or, not_true_eq_false, not_false_eq_true, or_false, false_or, wI_get, false_and, true_and, and_true, and_false, and_self, Nat.reduceEqDiff, Nat.succ_ne_zero, reduceCtorEq, nI_lit, nI_lit0, Nat.reduceLT, eq_self, Nat.zero_add, mn_lit, mn_lit', mn_0] at *
    first | (simp only [ix_0, *, ↓reduceIte, Nat.add_zero, or_true, true_or, not_true_eq_false, not_false_eq_true, or_false, false_or, wI_get, false_and, true_and, and_true, and_false, and_self, Nat.reduceEqDiff, Nat.succ_ne_zero, reduceCtorEq, nI_lit, nI_lit0, Nat.reduceLT, eq_self, Nat.zero_add, mn_lit, mn_lit', mn_0]; done) | (exfalso; simp_all only [↓reduceIte, Nat.add_zero, or_true, true_or, not_true_eq_false, not_false_eq_true, or_false, false_or, wI_get, false_and, true_and, and_true, and_false, and_self, Nat.reduceEqDiff, Nat.succ_ne_zero, reduceCtorEq, nI_lit, nI_lit0, Nat.reduceLT, eq_self, Nat.zero_add, mn_lit, mn_lit', mn_0]; done)
  · refine xi_iconst (pc' := 85) rfl rfl ?_
    refine xi_goto (pc' := 89) rfl rfl ?_
    refine xx_ireturn rfl rfl ?_
    simp only [ex_P, Classical.not_not, ↓reduceIte, Nat.add_zero, or_true, true_or, not_true_eq_false, not_false_eq_true, or_false, false_or, wI_get, false_and, true_and, and_true, and_false, and_self, Nat.reduceEqDiff, Nat.succ_ne_zero, reduceCtorEq, nI_lit, nI_lit0, Nat.reduceLT, eq_self, Nat.zero_add, mn_lit, mn_lit', mn_0] at *
    first | (simp only [ix_0, *, ↓reduceIte, Nat.add_zero, or_true, true_or, not_true_eq_false, not_false_eq_true, or_false, false_or, wI_get, false_and, true_and, and_true, and_false, and_self, Nat.reduceEqDiff, Nat.succ_ne_zero, reduceCtorEq, nI_lit, nI_lit0, Nat.reduceLT, eq_self, Nat.zero_add, mn_lit, mn_lit', mn_0]; done) | (exfalso; simp_all only [↓reduceIte, Nat.add_zero, or_true, true_or, not_true_eq_false, not_false_eq_true, or_false, false_or, wI_get, false_and, true_and, and_true, and_false, and_self, Nat.reduceEqDiff, Nat.succ_ne_zero, reduceCtorEq, nI_lit, nI_lit0, Nat.reduceLT, eq_self, Nat.zero_add, mn_lit, mn_lit', mn_0]; done)
theorem f_terminal_4 {L : Nat} {xs : Nat → Int32} {D n : Nat} {I J : ex_Mem} {t : Nat} (ht : t < 6) : ri L xs (D + 1) 13 [.ref 0, .int (nI t), .int (nI 4)] (mkH n I J) (if I (9 + 6 * t) 1 = 0 then nI 0 else nI 1) (mkH n I J) := by
  show xx cb_G _ _ _ 13 0 [.ref 0, .int (nI t), .int (nI 4), ex_no] [] _ _
  refine xi_iload_n (pc' := 1) rfl rfl rfl ?_
  refine xx_callSi (pc' := 4) rfl rfl (by decide) rfl (Nat.le_of_ble_eq_true rfl) rfl rfl (c_isTerminal1 (vT_n ht)) ?_
  refine xi_ift (pc' := 9) rfl rfl (by decide) ?_
  refine xi_aload_n (pc' := 10) rfl rfl rfl ?_
  refine xc_getp (pc' := 13) rfl rfl (by decide) rfl (by omega) (by decide) rfl rfl rfl ?_
  refine xi_iload_n (pc' := 14) rfl rfl rfl ?_
  refine xc_aald (j := t) (pc' := 15) rfl rfl (by omega) (by first | rfl | (simp only [ix_add, ix_mul, ix_pred]; done) | (simp only [ix_add, ix_mul, ix_pred, *]; done)) (by omega) (by decide) (pd_2 ht) rfl ?_
  refine xi_astore_n (pc' := 16) rfl (st1_3 rfl) rfl ?_
  refine xi_iload_n (pc' := 17) rfl rfl rfl ?_
  refine xi_switch (off := .ofNat 73) (pc' := 90) rfl (by decide) (by decide) rfl ?_
  refine xi_aload_n (pc' := 91) rfl rfl rfl ?_
  refine xc_getp (pc' := 94) rfl rfl (by decide) (kd_T0 ht) (by omega) (by decide) rfl (pd_T6 ht) rfl ?_
  refine xi_iconst (pc' := 95) rfl rfl ?_
  refine xc_zald (j := 1) (pc' := 96) rfl (kd_T1 ht) (by omega) (by omega) (by first | rfl | (simp only [ix_add, ix_mul, ix_pred]; done) | (simp only [ix_add, ix_mul, ix_pred, *]; done)) (by omega) (by decide) rfl ?_
  refine xx_if (pc' := 99) (tg := 103) rfl rfl rfl (fun q96 => ?_) (fun q96 => ?_)
  · refine xi_iconst (pc' := 104) rfl rfl ?_
    refine xx_ireturn rfl rfl ?_
    simp only [ex_P, Classical.not_not, ↓reduceIte, Nat.add_zero, or_true, true_or, not_true_eq_false, not_false_eq_true, or_false, false_or, wI_get, false_and, true_and, and_true, and_false, and_self, Nat.reduceEqDiff, Nat.succ_ne_zero, reduceCtorEq, nI_lit, nI_lit0, Nat.reduceLT, eq_self, Nat.zero_add, mn_lit, mn_lit', mn_0] at *
    first | (simp only [ix_0, *, ↓reduceIte, Nat.add_zero, or_true, true_or, not_true_eq_false, not_false_eq_true, or_false, false_or, wI_get, false_and, true_and, and_true, and_false, and_self, Nat.reduceEqDiff, Nat.succ_ne_zero, reduceCtorEq, nI_lit, nI_lit0, Nat.reduceLT, eq_self, Nat.zero_add, mn_lit, mn_lit', mn_0]; done) | (exfalso; simp_all only [↓reduceIte, Nat.add_zero, or_true, true_or, not_true_eq_false, not_false_eq_true, or_false, false_or, wI_get, false_and, true_and, and_true, and_false, and_self, Nat.reduceEqDiff, Nat.succ_ne_zero, reduceCtorEq, nI_lit, nI_lit0, Nat.reduceLT, eq_self, Nat.zero_add, mn_lit, mn_lit', mn_0]; done)
  · refine xi_iconst (pc' := 100) rfl rfl ?_
    refine xi_goto (pc' := 104) rfl rfl ?_
    refine xx_ireturn rfl rfl ?_
    simp only [ex_P, Classical.not_not, ↓reduceIte, Nat.add_zero, or_true, true_or, not_true_eq_false, not_false_eq_true, or_false, false_or, wI_get, false_and, true_and, and_true, and_false, and_self, Nat.reduceEqDiff, Nat.succ_ne_zero, reduceCtorEq, nI_lit, nI_lit0, Nat.reduceLT, eq_self, Nat.zero_add, mn_lit, mn_lit', mn_0] at *
    first | (simp only [ix_0, *, ↓reduceIte, Nat.add_zero, or_true, true_or, not_true_eq_false, not_false_eq_true, or_false, false_or, wI_get, false_and, true_and, and_true, and_false, and_self, Nat.reduceEqDiff, Nat.succ_ne_zero, reduceCtorEq, nI_lit, nI_lit0, Nat.reduceLT, eq_self, Nat.zero_add, mn_lit, mn_lit', mn_0]; done) | (exfalso; simp_all only [↓reduceIte, Nat.add_zero, or_true, true_or, not_true_eq_false, not_false_eq_true, or_false, false_or, wI_get, false_and, true_and, and_true, and_false, and_self, Nat.reduceEqDiff, Nat.succ_ne_zero, reduceCtorEq, nI_lit, nI_lit0, Nat.reduceLT, eq_self, Nat.zero_add, mn_lit, mn_lit', mn_0]; done)
theorem f_terminal_5 {L : Nat} {xs : Nat → Int32} {D n : Nat} {I J : ex_Mem} {t : Nat} (ht : t < 6) : ri L xs (D + 1) 13 [.ref 0, .int (nI t), .int (nI 5)] (mkH n I J) (I 48 t) (mkH n I J) := by
  show xx cb_G _ _ _ 13 0 [.ref 0, .int (nI t), .int (nI 5), ex_no] [] _ _
  refine xi_iload_n (pc' := 1) rfl rfl rfl ?_
  refine xx_callSi (pc' := 4) rfl rfl (by decide) rfl (Nat.le_of_ble_eq_true rfl) rfl rfl (c_isTerminal1 (vT_n ht)) ?_
  refine xi_ift (pc' := 9) rfl rfl (by decide) ?_
  refine xi_aload_n (pc' := 10) rfl rfl rfl ?_
  refine xc_getp (pc' := 13) rfl rfl (by decide) rfl (by omega) (by decide) rfl rfl rfl ?_
  refine xi_iload_n (pc' := 14) rfl rfl rfl ?_
  refine xc_aald (j := t) (pc' := 15) rfl rfl (by omega) (by first | rfl | (simp only [ix_add, ix_mul, ix_pred]; done) | (simp only [ix_add, ix_mul, ix_pred, *]; done)) (by omega) (by decide) (pd_2 ht) rfl ?_
  refine xi_astore_n (pc' := 16) rfl (st1_3 rfl) rfl ?_
  refine xi_iload_n (pc' := 17) rfl rfl rfl ?_
  refine xi_switch (off := .ofNat 88) (pc' := 105) rfl (by decide) (by decide) rfl ?_
  refine xi_aload_n (pc' := 106) rfl rfl rfl ?_
  refine xc_getp (pc' := 109) rfl rfl (by decide) rfl (by omega) (by decide) rfl rfl rfl ?_
  refine xc_getp (pc' := 112) rfl rfl (by decide) rfl (by omega) (by decide) rfl rfl rfl ?_
  refine xi_iload_n (pc' := 113) rfl rfl rfl ?_
  refine xc_iald (j := t) (pc' := 114) rfl rfl (by decide) (by omega) (by omega) (by first | rfl | (simp only [ix_add, ix_mul, ix_pred]; done) | (simp only [ix_add, ix_mul, ix_pred, *]; done)) (by omega) (by decide) rfl ?_
  refine xx_ireturn rfl rfl ?_
  exact ⟨rfl, rfl⟩
theorem f_terminal_6 {L : Nat} {xs : Nat → Int32} {D n : Nat} {I J : ex_Mem} {t : Nat} (ht : t < 6) : ri L xs (D + 1) 13 [.ref 0, .int (nI t), .int (nI 6)] (mkH n I J) (if I 49 t = 0 then nI 0 else nI 1) (mkH n I J) := by
  show xx cb_G _ _ _ 13 0 [.ref 0, .int (nI t), .int (nI 6), ex_no] [] _ _
  refine xi_iload_n (pc' := 1) rfl rfl rfl ?_
  refine xx_callSi (pc' := 4) rfl rfl (by decide) rfl (Nat.le_of_ble_eq_true rfl) rfl rfl (c_isTerminal1 (vT_n ht)) ?_
  refine xi_ift (pc' := 9) rfl rfl (by decide) ?_
  refine xi_aload_n (pc' := 10) rfl rfl rfl ?_
  refine xc_getp (pc' := 13) rfl rfl (by decide) rfl (by omega) (by decide) rfl rfl rfl ?_
  refine xi_iload_n (pc' := 14) rfl rfl rfl ?_
  refine xc_aald (j := t) (pc' := 15) rfl rfl (by omega) (by first | rfl | (simp only [ix_add, ix_mul, ix_pred]; done) | (simp only [ix_add, ix_mul, ix_pred, *]; done)) (by omega) (by decide) (pd_2 ht) rfl ?_
  refine xi_astore_n (pc' := 16) rfl (st1_3 rfl) rfl ?_
  refine xi_iload_n (pc' := 17) rfl rfl rfl ?_
  refine xi_switch (off := .ofNat 98) (pc' := 115) rfl (by decide) (by decide) rfl ?_
  refine xi_aload_n (pc' := 116) rfl rfl rfl ?_
  refine xc_getp (pc' := 119) rfl rfl (by decide) rfl (by omega) (by decide) rfl rfl rfl ?_
  refine xc_getp (pc' := 122) rfl rfl (by decide) rfl (by omega) (by decide) rfl rfl rfl ?_
  refine xi_iload_n (pc' := 123) rfl rfl rfl ?_
  refine xc_zald (j := t) (pc' := 124) rfl rfl (by decide) (by omega) (by first | rfl | (simp only [ix_add, ix_mul, ix_pred]; done) | (simp only [ix_add, ix_mul, ix_pred, *]; done)) (by omega) (by decide) rfl ?_
  refine xx_if (pc' := 127) (tg := 131) rfl rfl rfl (fun q124 => ?_) (fun q124 => ?_)
  · refine xi_iconst (pc' := 132) rfl rfl ?_
    refine xx_ireturn rfl rfl ?_
    simp only [ex_P, Classical.not_not, ↓reduceIte, Nat.add_zero, or_true, true_or, not_true_eq_false, not_false_eq_true, or_false, false_or, wI_get, false_and, true_and, and_true, and_false, and_self, Nat.reduceEqDiff, Nat.succ_ne_zero, reduceCtorEq, nI_lit, nI_lit0, Nat.reduceLT, eq_self, Nat.zero_add, mn_lit, mn_lit', mn_0] at *
    first | (simp only [ix_0, *, ↓reduceIte, Nat.add_zero, or_true, true_or, not_true_eq_false, not_false_eq_true, or_false, false_or, wI_get, false_and, true_and, and_true, and_false, and_self, Nat.reduceEqDiff, Nat.succ_ne_zero, reduceCtorEq, nI_lit, nI_lit0, Nat.reduceLT, eq_self, Nat.zero_add, mn_lit, mn_lit', mn_0]; done) | (exfalso; simp_all only [↓reduceIte, Nat.add_zero, or_true, true_or, not_true_eq_false, not_false_eq_true, or_false, false_or, wI_get, false_and, true_and, and_true, and_false, and_self, Nat.reduceEqDiff, Nat.succ_ne_zero, reduceCtorEq, nI_lit, nI_lit0, Nat.reduceLT, eq_self, Nat.zero_add, mn_lit, mn_lit', mn_0]; done)
  · refine xi_iconst (pc' := 128) rfl rfl ?_
    refine xi_goto (pc' := 132) rfl rfl ?_
    refine xx_ireturn rfl rfl ?_
    simp only [ex_P, Classical.not_not, ↓reduceIte, Nat.add_zero, or_true, true_or, not_true_eq_false, not_false_eq_true, or_false, false_or, wI_get, false_and, true_and, and_true, and_false, and_self, Nat.reduceEqDiff, Nat.succ_ne_zero, reduceCtorEq, nI_lit, nI_lit0, Nat.reduceLT, eq_self, Nat.zero_add, mn_lit, mn_lit', mn_0] at *
    first | (simp only [ix_0, *, ↓reduceIte, Nat.add_zero, or_true, true_or, not_true_eq_false, not_false_eq_true, or_false, false_or, wI_get, false_and, true_and, and_true, and_false, and_self, Nat.reduceEqDiff, Nat.succ_ne_zero, reduceCtorEq, nI_lit, nI_lit0, Nat.reduceLT, eq_self, Nat.zero_add, mn_lit, mn_lit', mn_0]; done) | (exfalso; simp_all only [↓reduceIte, Nat.add_zero, or_true, true_or, not_true_eq_false, not_false_eq_true, or_false, false_or, wI_get, false_and, true_and, and_true, and_false, and_self, Nat.reduceEqDiff, Nat.succ_ne_zero, reduceCtorEq, nI_lit, nI_lit0, Nat.reduceLT, eq_self, Nat.zero_add, mn_lit, mn_lit', mn_0]; done)
theorem f_terminal_d {L : Nat} {xs : Nat → Int32} {D n : Nat} {I J : ex_Mem} {t : Nat} {w : Int32} (ht : t < 6) (hw : w.toInt < 0 ∨ 6 < w.toInt) : ri L xs (D + 1) 13 [.ref 0, .int (nI t), .int w] (mkH n I J) (- nI 1) (mkH n I J) := by
  show xx cb_G _ _ _ 13 0 [.ref 0, .int (nI t), .int w, ex_no] [] _ _
  refine xi_iload_n (pc' := 1) rfl rfl rfl ?_
  refine xx_callSi (pc' := 4) rfl rfl (by decide) rfl (Nat.le_of_ble_eq_true rfl) rfl rfl (c_isTerminal1 (vT_n ht)) ?_
  refine xi_ift (pc' := 9) rfl rfl (by decide) ?_
  refine xi_aload_n (pc' := 10) rfl rfl rfl ?_
  refine xc_getp (pc' := 13) rfl rfl (by decide) rfl (by omega) (by decide) rfl rfl rfl ?_
  refine xi_iload_n (pc' := 14) rfl rfl rfl ?_
  refine xc_aald (j := t) (pc' := 15) rfl rfl (by omega) (by first | rfl | (simp only [ix_add, ix_mul, ix_pred]; done) | (simp only [ix_add, ix_mul, ix_pred, *]; done)) (by omega) (by decide) (pd_2 ht) rfl ?_
  refine xi_astore_n (pc' := 16) rfl (st1_3 rfl) rfl ?_
  refine xi_iload_n (pc' := 17) rfl rfl rfl ?_
  refine xi_switchD (pc' := 133) rfl (hw) rfl ?_
  refine xi_iconstm (pc' := 134) rfl rfl ?_
  refine xx_ireturn rfl rfl ?_
  exact ⟨rfl, rfl⟩
theorem f_terminal_x {L : Nat} {xs : Nat → Int32} {D n : Nat} {I J : ex_Mem} {t w : Int32} (ht : ¬ vT t) : ri L xs (D + 1) 13 [.ref 0, .int t, .int w] (mkH n I J) (- nI 1) (mkH n I J) := by
  show xx cb_G _ _ _ 13 0 [.ref 0, .int t, .int w, ex_no] [] _ _
  refine xi_iload_n (pc' := 1) rfl rfl rfl ?_
  refine xx_callSi (pc' := 4) rfl rfl (by decide) rfl (Nat.le_of_ble_eq_true rfl) rfl rfl (c_isTerminal0 ht) ?_
  refine xi_iff (pc' := 7) (tg := 9) rfl rfl (by decide) rfl ?_
  refine xi_iconstm (pc' := 8) rfl rfl ?_
  refine xx_ireturn rfl rfl ?_
  exact ⟨rfl, rfl⟩
theorem f_give1 {L : Nat} {xs : Nat → Int32} {D n : Nat} {I J : ex_Mem} {m : Nat} (h8 : n ≤ 8) (hm : m < n) (hcn : I 44 2 = nI n) {k : Nat} {v : Int32} (hk : k < 4) (hv : vV v) : ri L xs (D + 1) 19 [.ref 0, .int (nI m), .int (nI k), .int v] (mkH n I J) (nI 1) (mkH n (ex_wI I (82 + 2 * m) k v) J) := by
  show xx cb_G _ _ _ 19 0 [.ref 0, .int (nI m), .int (nI k), .int v, ex_no] [] _ _
  refine xi_aload_n (pc' := 1) rfl rfl rfl ?_
  refine xc_getp (pc' := 4) rfl rfl (by decide) rfl (by omega) (by decide) rfl rfl rfl ?_
  refine xi_iload_n (pc' := 5) rfl rfl rfl ?_
  refine xx_callVr (pc' := 8) rfl rfl (by decide) rfl rfl (by show _ < 81 + 2 * _; omega) (Nat.le_of_ble_eq_true rfl) rfl rfl (c_find1 h8 hm hcn) ?_
  refine xi_astore (pc' := 10) rfl (st1_4 rfl) rfl ?_
  refine xi_aload (pc' := 12) rfl rfl rfl ?_
  refine xi_ifnull (pc' := 15) (tg := 29) rfl rfl rfl ?_
  refine xi_iload_n (pc' := 16) rfl rfl rfl ?_
  refine xx_callSi (pc' := 19) rfl rfl (by decide) rfl (Nat.le_of_ble_eq_true rfl) rfl rfl (c_isIndex1 (vK_n hk)) ?_
  refine xi_iff (pc' := 22) (tg := 29) rfl rfl (by decide) rfl ?_
  refine xi_iload_n (pc' := 23) rfl rfl rfl ?_
  refine xx_callSi (pc' := 26) rfl rfl (by decide) rfl (Nat.le_of_ble_eq_true rfl) rfl rfl (c_isValue1 hv) ?_
  refine xi_ift (pc' := 31) rfl rfl (by decide) ?_
  refine xi_aload (pc' := 33) rfl rfl rfl ?_
  refine xc_getp (pc' := 36) rfl rfl (by decide) (kd_M0 (Nat.lt_of_lt_of_le hm h8)) (by omega) (by decide) rfl (pd_M hm) rfl ?_
  refine xi_iload_n (pc' := 37) rfl rfl rfl ?_
  refine xi_iload_n (pc' := 38) rfl rfl rfl ?_
  refine xc_iast (j := k) (pc' := 39) rfl (kd_M1 (Nat.lt_of_lt_of_le hm h8)) (by omega) (by omega) (by first | rfl | (simp only [ix_add, ix_mul, ix_pred]; done) | (simp only [ix_add, ix_mul, ix_pred, *]; done)) (by omega) (by decide) rfl ?_
  refine xi_iconst (pc' := 40) rfl rfl ?_
  refine xx_zreturn rfl rfl (by first | rfl | assumption | exact b01_bI | simp [ex_b01, bI]) ?_
  exact ⟨rfl, rfl⟩
theorem f_give0m {L : Nat} {xs : Nat → Int32} {D n : Nat} {I J : ex_Mem} {m : Int32} (h8 : n ≤ 8) (hm : ¬ vM n m) (hcn : I 44 2 = nI n) {k v : Int32} : ri L xs (D + 1) 19 [.ref 0, .int m, .int k, .int v] (mkH n I J) (nI 0) (mkH n I J) := by
  show xx cb_G _ _ _ 19 0 [.ref 0, .int m, .int k, .int v, ex_no] [] _ _
  refine xi_aload_n (pc' := 1) rfl rfl rfl ?_
  refine xc_getp (pc' := 4) rfl rfl (by decide) rfl (by omega) (by decide) rfl rfl rfl ?_
  refine xi_iload_n (pc' := 5) rfl rfl rfl ?_
  refine xx_callVr (pc' := 8) rfl rfl (by decide) rfl rfl (by show _ < 81 + 2 * _; omega) (Nat.le_of_ble_eq_true rfl) rfl rfl (c_find0 h8 hcn hm) ?_
  refine xi_astoreN (pc' := 10) rfl (st1_4 rfl) rfl ?_
  refine xi_aloadN (pc' := 12) rfl rfl rfl ?_
  refine xi_ifnullN (pc' := 29) rfl rfl ?_
  refine xi_iconst (pc' := 30) rfl rfl ?_
  refine xx_zreturn rfl rfl (by first | rfl | assumption | exact b01_bI | simp [ex_b01, bI]) ?_
  exact ⟨rfl, rfl⟩
theorem f_give0k {L : Nat} {xs : Nat → Int32} {D n : Nat} {I J : ex_Mem} {m : Nat} (h8 : n ≤ 8) (hm : m < n) (hcn : I 44 2 = nI n) {k v : Int32} (hk : ¬ vK k) : ri L xs (D + 1) 19 [.ref 0, .int (nI m), .int k, .int v] (mkH n I J) (nI 0) (mkH n I J) := by
  show xx cb_G _ _ _ 19 0 [.ref 0, .int (nI m), .int k, .int v, ex_no] [] _ _
  refine xi_aload_n (pc' := 1) rfl rfl rfl ?_
  refine xc_getp (pc' := 4) rfl rfl (by decide) rfl (by omega) (by decide) rfl rfl rfl ?_
  refine xi_iload_n (pc' := 5) rfl rfl rfl ?_
  refine xx_callVr (pc' := 8) rfl rfl (by decide) rfl rfl (by show _ < 81 + 2 * _; omega) (Nat.le_of_ble_eq_true rfl) rfl rfl (c_find1 h8 hm hcn) ?_
  refine xi_astore (pc' := 10) rfl (st1_4 rfl) rfl ?_
  refine xi_aload (pc' := 12) rfl rfl rfl ?_
  refine xi_ifnull (pc' := 15) (tg := 29) rfl rfl rfl ?_
  refine xi_iload_n (pc' := 16) rfl rfl rfl ?_
  refine xx_callSi (pc' := 19) rfl rfl (by decide) rfl (Nat.le_of_ble_eq_true rfl) rfl rfl (c_isIndex0 hk) ?_
  refine xi_ift (pc' := 29) rfl rfl (by decide) ?_
  refine xi_iconst (pc' := 30) rfl rfl ?_
  refine xx_zreturn rfl rfl (by first | rfl | assumption | exact b01_bI | simp [ex_b01, bI]) ?_
  exact ⟨rfl, rfl⟩
theorem f_give0v {L : Nat} {xs : Nat → Int32} {D n : Nat} {I J : ex_Mem} {m : Nat} (h8 : n ≤ 8) (hm : m < n) (hcn : I 44 2 = nI n) {k v : Int32} (hk : vK k) (hv : ¬ vV v) : ri L xs (D + 1) 19 [.ref 0, .int (nI m), .int k, .int v] (mkH n I J) (nI 0) (mkH n I J) := by
  show xx cb_G _ _ _ 19 0 [.ref 0, .int (nI m), .int k, .int v, ex_no] [] _ _
  refine xi_aload_n (pc' := 1) rfl rfl rfl ?_
  refine xc_getp (pc' := 4) rfl rfl (by decide) rfl (by omega) (by decide) rfl rfl rfl ?_
  refine xi_iload_n (pc' := 5) rfl rfl rfl ?_
  refine xx_callVr (pc' := 8) rfl rfl (by decide) rfl rfl (by show _ < 81 + 2 * _; omega) (Nat.le_of_ble_eq_true rfl) rfl rfl (c_find1 h8 hm hcn) ?_
  refine xi_astore (pc' := 10) rfl (st1_4 rfl) rfl ?_
  refine xi_aload (pc' := 12) rfl rfl rfl ?_
  refine xi_ifnull (pc' := 15) (tg := 29) rfl rfl rfl ?_
  refine xi_iload_n (pc' := 16) rfl rfl rfl ?_
  refine xx_callSi (pc' := 19) rfl rfl (by decide) rfl (Nat.le_of_ble_eq_true rfl) rfl rfl (c_isIndex1 hk) ?_
  refine xi_iff (pc' := 22) (tg := 29) rfl rfl (by decide) rfl ?_
  refine xi_iload_n (pc' := 23) rfl rfl rfl ?_
  refine xx_callSi (pc' := 26) rfl rfl (by decide) rfl (Nat.le_of_ble_eq_true rfl) rfl rfl (c_isValue0 hv) ?_
  refine xi_iff (pc' := 29) (tg := 31) rfl rfl (by decide) rfl ?_
  refine xi_iconst (pc' := 30) rfl rfl ?_
  refine xx_zreturn rfl rfl (by first | rfl | assumption | exact b01_bI | simp [ex_b01, bI]) ?_
  exact ⟨rfl, rfl⟩
theorem f_taken1 {L : Nat} {xs : Nat → Int32} {D n : Nat} {I J : ex_Mem} {m : Nat} (h8 : n ≤ 8) (hm : m < n) (hcn : I 44 2 = nI n) {k : Nat} (hk : k < 4) : ri L xs (D + 1) 20 [.ref 0, .int (nI m), .int (nI k)] (mkH n I J) (I (82 + 2 * m) k) (mkH n I J) := by
  show xx cb_G _ _ _ 20 0 [.ref 0, .int (nI m), .int (nI k), ex_no] [] _ _
  refine xi_aload_n (pc' := 1) rfl rfl rfl ?_
  refine xc_getp (pc' := 4) rfl rfl (by decide) rfl (by omega) (by decide) rfl rfl rfl ?_
  refine xi_iload_n (pc' := 5) rfl rfl rfl ?_
  refine xx_callVr (pc' := 8) rfl rfl (by decide) rfl rfl (by show _ < 81 + 2 * _; omega) (Nat.le_of_ble_eq_true rfl) rfl rfl (c_find1 h8 hm hcn) ?_
  refine xi_astore_n (pc' := 9) rfl (st1_3 rfl) rfl ?_
  refine xi_aload_n (pc' := 10) rfl rfl rfl ?_
  refine xi_ifnull (pc' := 13) (tg := 20) rfl rfl rfl ?_
  refine xi_iload_n (pc' := 14) rfl rfl rfl ?_
  refine xx_callSi (pc' := 17) rfl rfl (by decide) rfl (Nat.le_of_ble_eq_true rfl) rfl rfl (c_isIndex1 (vK_n hk)) ?_
  refine xi_ift (pc' := 24) rfl rfl (by decide) ?_
  refine xi_aload_n (pc' := 25) rfl rfl rfl ?_
  refine xc_getp (pc' := 28) rfl rfl (by decide) (kd_M0 (Nat.lt_of_lt_of_le hm h8)) (by omega) (by decide) rfl (pd_M hm) rfl ?_
  refine xi_iload_n (pc' := 29) rfl rfl rfl ?_
  refine xc_iald (j := k) (pc' := 30) rfl (kd_M1 (Nat.lt_of_lt_of_le hm h8)) (by omega) (by omega) (by omega) (by first | rfl | (simp only [ix_add, ix_mul, ix_pred]; done) | (simp only [ix_add, ix_mul, ix_pred, *]; done)) (by omega) (by decide) rfl ?_
  refine xx_ireturn rfl rfl ?_
  exact ⟨rfl, rfl⟩
theorem f_taken0m {L : Nat} {xs : Nat → Int32} {D n : Nat} {I J : ex_Mem} {m : Int32} (h8 : n ≤ 8) (hm : ¬ vM n m) (hcn : I 44 2 = nI n) {k : Int32} : ri L xs (D + 1) 20 [.ref 0, .int m, .int k] (mkH n I J) (- nI 1) (mkH n I J) := by
  show xx cb_G _ _ _ 20 0 [.ref 0, .int m, .int k, ex_no] [] _ _
  refine xi_aload_n (pc' := 1) rfl rfl rfl ?_
  refine xc_getp (pc' := 4) rfl rfl (by decide) rfl (by omega) (by decide) rfl rfl rfl ?_
  refine xi_iload_n (pc' := 5) rfl rfl rfl ?_
  refine xx_callVr (pc' := 8) rfl rfl (by decide) rfl rfl (by show _ < 81 + 2 * _; omega) (Nat.le_of_ble_eq_true rfl) rfl rfl (c_find0 h8 hcn hm) ?_
  refine xi_astore_nN (pc' := 9) rfl (st1_3 rfl) rfl ?_
  refine xi_aload_nN (pc' := 10) rfl rfl rfl ?_
  refine xi_ifnullN (pc' := 20) rfl rfl ?_
  refine xi_iconstm (pc' := 21) rfl rfl ?_
  refine xi_goto (pc' := 30) rfl rfl ?_
  refine xx_ireturn rfl rfl ?_
  exact ⟨rfl, rfl⟩
theorem f_taken0k {L : Nat} {xs : Nat → Int32} {D n : Nat} {I J : ex_Mem} {m : Nat} (h8 : n ≤ 8) (hm : m < n) (hcn : I 44 2 = nI n) {k : Int32} (hk : ¬ vK k) : ri L xs (D + 1) 20 [.ref 0, .int (nI m), .int k] (mkH n I J) (- nI 1) (mkH n I J) := by
  show xx cb_G _ _ _ 20 0 [.ref 0, .int (nI m), .int k, ex_no] [] _ _
  refine xi_aload_n (pc' := 1) rfl rfl rfl ?_
  refine xc_getp (pc' := 4) rfl rfl (by decide) rfl (by omega) (by decide) rfl rfl rfl ?_
  refine xi_iload_n (pc' := 5) rfl rfl rfl ?_
  refine xx_callVr (pc' := 8) rfl rfl (by decide) rfl rfl (by show _ < 81 + 2 * _; omega) (Nat.le_of_ble_eq_true rfl) rfl rfl (c_find1 h8 hm hcn) ?_
  refine xi_astore_n (pc' := 9) rfl (st1_3 rfl) rfl ?_
  refine xi_aload_n (pc' := 10) rfl rfl rfl ?_
  refine xi_ifnull (pc' := 13) (tg := 20) rfl rfl rfl ?_
  refine xi_iload_n (pc' := 14) rfl rfl rfl ?_
  refine xx_callSi (pc' := 17) rfl rfl (by decide) rfl (Nat.le_of_ble_eq_true rfl) rfl rfl (c_isIndex0 hk) ?_
  refine xi_iff (pc' := 20) (tg := 24) rfl rfl (by decide) rfl ?_
  refine xi_iconstm (pc' := 21) rfl rfl ?_
  refine xi_goto (pc' := 30) rfl rfl ?_
  refine xx_ireturn rfl rfl ?_
  exact ⟨rfl, rfl⟩
theorem f_outcome1 {L : Nat} {xs : Nat → Int32} {D n : Nat} {I J : ex_Mem} {m : Nat} (h8 : n ≤ 8) (hm : m < n) (hcn : I 44 2 = nI n) : ri L xs (D + 1) 27 [.ref 0, .int (nI m)] (mkH n I J) (I (81 + 2 * m) 8) (mkH n I J) := by
  show xx cb_G _ _ _ 27 0 [.ref 0, .int (nI m), ex_no] [] _ _
  refine xi_aload_n (pc' := 1) rfl rfl rfl ?_
  refine xc_getp (pc' := 4) rfl rfl (by decide) rfl (by omega) (by decide) rfl rfl rfl ?_
  refine xi_iload_n (pc' := 5) rfl rfl rfl ?_
  refine xx_callVr (pc' := 8) rfl rfl (by decide) rfl rfl (by show _ < 81 + 2 * _; omega) (Nat.le_of_ble_eq_true rfl) rfl rfl (c_find1 h8 hm hcn) ?_
  refine xi_astore_n (pc' := 9) rfl (st1_2 rfl) rfl ?_
  refine xi_aload_n (pc' := 10) rfl rfl rfl ?_
  refine xi_ifnonnull (pc' := 17) rfl rfl ?_
  refine xi_aload_n (pc' := 18) rfl rfl rfl ?_
  refine xc_geti (pc' := 21) rfl rfl (by decide) (kd_M0 (Nat.lt_of_lt_of_le hm h8)) (by omega) (by omega) (by decide) (by decide) rfl ?_
  refine xx_ireturn rfl rfl ?_
  exact ⟨rfl, rfl⟩
theorem f_outcome0 {L : Nat} {xs : Nat → Int32} {D n : Nat} {I J : ex_Mem} {m : Int32} (h8 : n ≤ 8) (hm : ¬ vM n m) (hcn : I 44 2 = nI n) : ri L xs (D + 1) 27 [.ref 0, .int m] (mkH n I J) (- nI 1) (mkH n I J) := by
  show xx cb_G _ _ _ 27 0 [.ref 0, .int m, ex_no] [] _ _
  refine xi_aload_n (pc' := 1) rfl rfl rfl ?_
  refine xc_getp (pc' := 4) rfl rfl (by decide) rfl (by omega) (by decide) rfl rfl rfl ?_
  refine xi_iload_n (pc' := 5) rfl rfl rfl ?_
  refine xx_callVr (pc' := 8) rfl rfl (by decide) rfl rfl (by show _ < 81 + 2 * _; omega) (Nat.le_of_ble_eq_true rfl) rfl rfl (c_find0 h8 hcn hm) ?_
  refine xi_astore_nN (pc' := 9) rfl (st1_2 rfl) rfl ?_
  refine xi_aload_nN (pc' := 10) rfl rfl rfl ?_
  refine xi_ifnonnullN (pc' := 13) (tg := 17) rfl rfl rfl ?_
  refine xi_iconstm (pc' := 14) rfl rfl ?_
  refine xi_goto (pc' := 21) rfl rfl ?_
  refine xx_ireturn rfl rfl ?_
  exact ⟨rfl, rfl⟩
theorem f_seal_s {L : Nat} {xs : Nat → Int32} {D n : Nat} {I J : ex_Mem} {bu : Int32} (hz : I 44 4 = nI 1) : ri L xs D 21 [.ref 0, .int bu] (mkH n I J) (- nI 6) (mkH n I J) := by
  show xx cb_G _ _ _ 21 0 [.ref 0, .int bu, ex_no] [] _ _
  refine xi_aload_n (pc' := 1) rfl rfl rfl ?_
  refine xc_getp (pc' := 4) rfl rfl (by decide) rfl (by omega) (by decide) rfl rfl rfl ?_
  refine xc_getiv (v := nI (1)) (pc' := 7) rfl rfl (by decide) rfl (by decide) (by omega) (by decide) (by decide) (hz) rfl ?_
  refine xi_iff (pc' := 10) (tg := 13) rfl rfl (by decide) rfl ?_
  refine xi_bipushm (pc' := 12) rfl (by decide) rfl ?_
  refine xx_ireturn rfl rfl ?_
  exact ⟨rfl, rfl⟩
theorem f_seal_b {L : Nat} {xs : Nat → Int32} {D n : Nat} {I J : ex_Mem} {bu : Int32} (hz : I 44 4 = nI 0) (hb : ¬ 0 ≤ bu) : ri L xs D 21 [.ref 0, .int bu] (mkH n I J) (- nI 1) (mkH n I J) := by
  show xx cb_G _ _ _ 21 0 [.ref 0, .int bu, ex_no] [] _ _
  refine xi_aload_n (pc' := 1) rfl rfl rfl ?_
  refine xc_getp (pc' := 4) rfl rfl (by decide) rfl (by omega) (by decide) rfl rfl rfl ?_
  refine xc_getiv (v := nI (0)) (pc' := 7) rfl rfl (by decide) rfl (by decide) (by omega) (by decide) (by decide) (hz) rfl ?_
  refine xi_ift (pc' := 13) rfl rfl (by decide) ?_
  refine xi_iload_n (pc' := 14) rfl rfl rfl ?_
  refine xx_if (pc' := 17) (tg := 19) rfl rfl rfl (fun q14 => absurd q14 (hb)) (fun q14 => ?_)
  refine xi_iconstm (pc' := 18) rfl rfl ?_
  refine xx_ireturn rfl rfl ?_
  exact ⟨rfl, rfl⟩
theorem f_seal_ok {L : Nat} {xs : Nat → Int32} {D n : Nat} {I J : ex_Mem} {bu : Int32} (h8 : n ≤ 8) (hcn : I 44 2 = nI n) (hper : ∀ m, m < n → I (81 + 2 * m) 5 = nI (tk I (81 + 2 * m) 5) ∧ 1 ≤ tk I (81 + 2 * m) 5 ∧ tk I (81 + 2 * m) 5 ≤ 4) (hz : I 44 4 = nI 0) (hb : 0 ≤ bu) : ri L xs (D + 4) 21 [.ref 0, .int bu] (mkH n I J) ((q_seal (q_ff I n) bu).1) (mkH n (q_seal (q_ff I n) bu).2 J) := by
  show xx cb_G _ _ _ 21 0 [.ref 0, .int bu, ex_no] [] _ _
  refine xi_aload_n (pc' := 1) rfl rfl rfl ?_
  refine xc_getp (pc' := 4) rfl rfl (by decide) rfl (by omega) (by decide) rfl rfl rfl ?_
  refine xc_getiv (v := nI (0)) (pc' := 7) rfl rfl (by decide) rfl (by decide) (by omega) (by decide) (by decide) (hz) rfl ?_
  refine xi_ift (pc' := 13) rfl rfl (by decide) ?_
  refine xi_iload_n (pc' := 14) rfl rfl rfl ?_
  refine xx_if (pc' := 17) (tg := 19) rfl rfl rfl (fun q14 => ?_) (fun q14 => absurd (hb) q14)
  refine xi_aload_n (pc' := 20) rfl rfl rfl ?_
  refine xc_getp (pc' := 23) rfl rfl (by decide) rfl (by omega) (by decide) rfl rfl rfl ?_
  refine xx_callVi (pc' := 26) rfl rfl (by decide) rfl rfl (by show _ < 81 + 2 * _; omega) (Nat.le_of_ble_eq_true rfl) rfl rfl (c_fillFrames h8 hcn hper) ?_
  refine xi_istore_n (pc' := 27) rfl (st1_2 rfl) rfl ?_
  refine xi_iload_n (pc' := 28) rfl rfl rfl ?_
  refine xi_iload_n (pc' := 29) rfl rfl rfl ?_
  refine xx_icmp (pc' := 32) (tg := 35) rfl rfl rfl (fun q29 => ?_) (fun q29 => ?_)
  · refine xi_aload_n (pc' := 36) rfl rfl rfl ?_
    refine xc_getp (pc' := 39) rfl rfl (by decide) rfl (by omega) (by decide) rfl rfl rfl ?_
    refine xi_iconst (pc' := 40) rfl rfl ?_
    refine xc_puti (pc' := 43) rfl rfl (by decide) rfl (by decide) (by omega) (by decide) (Or.inr ⟨rfl, by first | rfl | assumption⟩) rfl ?_
    refine xi_aload_n (pc' := 44) rfl rfl rfl ?_
    refine xc_getp (pc' := 47) rfl rfl (by decide) rfl (by omega) (by decide) rfl rfl rfl ?_
    refine xi_iconst (pc' := 48) rfl rfl ?_
    refine xc_puti (pc' := 51) rfl rfl (by decide) rfl (by decide) (by omega) (by decide) (Or.inl rfl) rfl ?_
    refine xi_iload_n (pc' := 52) rfl rfl rfl ?_
    refine xx_ireturn rfl rfl ?_
    simp only [ex_P] at q29
    unfold q_seal
    first | (rw [if_pos q29]; exact ⟨rfl, rfl⟩) | (rw [if_neg q29]; exact ⟨rfl, rfl⟩)
  · refine xi_bipushm (pc' := 34) rfl (by decide) rfl ?_
    refine xx_ireturn rfl rfl ?_
    simp only [ex_P] at q29
    unfold q_seal
    first | (rw [if_pos q29]; exact ⟨rfl, rfl⟩) | (rw [if_neg q29]; exact ⟨rfl, rfl⟩)
theorem f_open {L : Nat} {xs : Nat → Int32} {D n : Nat} {I J : ex_Mem} (hz : ex_b01 (I 44 4) = true) : ri L xs D 22 [.ref 0] (mkH n I J) (I 44 4) (mkH n (ex_wI I 44 4 (nI 0)) J) := by
  show xx cb_G _ _ _ 22 0 [.ref 0, ex_no] [] _ _
  refine xi_aload_n (pc' := 1) rfl rfl rfl ?_
  refine xc_getp (pc' := 4) rfl rfl (by decide) rfl (by omega) (by decide) rfl rfl rfl ?_
  refine xc_geti (pc' := 7) rfl rfl (by decide) rfl (by decide) (by omega) (by decide) (by decide) rfl ?_
  refine xi_istore_n (pc' := 8) rfl (st1_1 rfl) rfl ?_
  refine xi_aload_n (pc' := 9) rfl rfl rfl ?_
  refine xc_getp (pc' := 12) rfl rfl (by decide) rfl (by omega) (by decide) rfl rfl rfl ?_
  refine xi_iconst (pc' := 13) rfl rfl ?_
  refine xc_puti (pc' := 16) rfl rfl (by decide) rfl (by decide) (by omega) (by decide) (Or.inr ⟨rfl, by first | rfl | assumption⟩) rfl ?_
  refine xi_iload_n (pc' := 17) rfl rfl rfl ?_
  refine xx_zreturn rfl rfl (hz) ?_
  exact ⟨rfl, rfl⟩
theorem f_load1 {L : Nat} {xs : Nat → Int32} {D n : Nat} {I J : ex_Mem} {f : Nat} (hz : I 44 4 = nI 1) (hf : f < 4) : ri L xs D 23 [.ref 0, .int (nI f)] (mkH n I J) (I 46 f) (mkH n I J) := by
  show xx cb_G _ _ _ 23 0 [.ref 0, .int (nI f)] [] _ _
  refine xi_aload_n (pc' := 1) rfl rfl rfl ?_
  refine xc_getp (pc' := 4) rfl rfl (by decide) rfl (by omega) (by decide) rfl rfl rfl ?_
  refine xc_getiv (v := nI (1)) (pc' := 7) rfl rfl (by decide) rfl (by decide) (by omega) (by decide) (by decide) (hz) rfl ?_
  refine xi_iff (pc' := 10) (tg := 19) rfl rfl (by decide) rfl ?_
  refine xi_iload_n (pc' := 11) rfl rfl rfl ?_
  refine xx_if (pc' := 14) (tg := 19) rfl rfl rfl (fun q11 => absurd q11 (show ¬ ex_P .lt (nI f) 0 from nI_pos (by omega))) (fun q11 => ?_)
  refine xi_iload_n (pc' := 15) rfl rfl rfl ?_
  refine xi_iconst (pc' := 16) rfl rfl ?_
  refine xx_icmp (pc' := 19) (tg := 23) rfl rfl rfl (fun q16 => ?_) (fun q16 => absurd (show ex_P .lt (nI f) (nI 4) from nI_lt (by omega) (by decide)) q16)
  refine xi_aload_n (pc' := 24) rfl rfl rfl ?_
  refine xc_getp (pc' := 27) rfl rfl (by decide) rfl (by omega) (by decide) rfl rfl rfl ?_
  refine xc_getp (pc' := 30) rfl rfl (by decide) rfl (by omega) (by decide) rfl rfl rfl ?_
  refine xi_iload_n (pc' := 31) rfl rfl rfl ?_
  refine xc_iald (j := f) (pc' := 32) rfl rfl (by decide) (by omega) (by omega) (by first | rfl | (simp only [ix_add, ix_mul, ix_pred]; done) | (simp only [ix_add, ix_mul, ix_pred, *]; done)) (by omega) (by decide) rfl ?_
  refine xx_ireturn rfl rfl ?_
  exact ⟨rfl, rfl⟩
theorem f_load0z {L : Nat} {xs : Nat → Int32} {D n : Nat} {I J : ex_Mem} {f : Int32} (hz : I 44 4 = nI 0) : ri L xs D 23 [.ref 0, .int f] (mkH n I J) (- nI 1) (mkH n I J) := by
  show xx cb_G _ _ _ 23 0 [.ref 0, .int f] [] _ _
  refine xi_aload_n (pc' := 1) rfl rfl rfl ?_
  refine xc_getp (pc' := 4) rfl rfl (by decide) rfl (by omega) (by decide) rfl rfl rfl ?_
  refine xc_getiv (v := nI (0)) (pc' := 7) rfl rfl (by decide) rfl (by decide) (by omega) (by decide) (by decide) (hz) rfl ?_
  refine xi_ift (pc' := 19) rfl rfl (by decide) ?_
  refine xi_iconstm (pc' := 20) rfl rfl ?_
  refine xi_goto (pc' := 32) rfl rfl ?_
  refine xx_ireturn rfl rfl ?_
  exact ⟨rfl, rfl⟩
theorem f_load0 {L : Nat} {xs : Nat → Int32} {D n : Nat} {I J : ex_Mem} {f : Int32} (hz : I 44 4 = nI 1) (hf : ¬ vK f) : ri L xs D 23 [.ref 0, .int f] (mkH n I J) (- nI 1) (mkH n I J) := by
  show xx cb_G _ _ _ 23 0 [.ref 0, .int f] [] _ _
  refine xi_aload_n (pc' := 1) rfl rfl rfl ?_
  refine xc_getp (pc' := 4) rfl rfl (by decide) rfl (by omega) (by decide) rfl rfl rfl ?_
  refine xc_getiv (v := nI (1)) (pc' := 7) rfl rfl (by decide) rfl (by decide) (by omega) (by decide) (by decide) (hz) rfl ?_
  refine xi_iff (pc' := 10) (tg := 19) rfl rfl (by decide) rfl ?_
  refine xi_iload_n (pc' := 11) rfl rfl rfl ?_
  refine xx_if (pc' := 14) (tg := 19) rfl rfl rfl (fun q11 => ?_) (fun q11 => ?_)
  · refine xi_iconstm (pc' := 20) rfl rfl ?_
    refine xi_goto (pc' := 32) rfl rfl ?_
    refine xx_ireturn rfl rfl ?_
    exact ⟨rfl, rfl⟩
  · refine xi_iload_n (pc' := 15) rfl rfl rfl ?_
    refine xi_iconst (pc' := 16) rfl rfl ?_
    refine xx_icmp (pc' := 19) (tg := 23) rfl rfl rfl (fun q16 => absurd q16 (fun q => hf ⟨Int32.not_lt.mp q11, q⟩)) (fun q16 => ?_)
    refine xi_iconstm (pc' := 20) rfl rfl ?_
    refine xi_goto (pc' := 32) rfl rfl ?_
    refine xx_ireturn rfl rfl ?_
    exact ⟨rfl, rfl⟩
theorem f_fault0 {L : Nat} {xs : Nat → Int32} {D n : Nat} {I J : ex_Mem} {b kd k : Int32} (h : ¬ vF b kd k) : ri L xs D 24 [.ref 0, .int b, .int kd, .int k] (mkH n I J) (nI 0) (mkH n I J) := by
  show xx cb_G _ _ _ 24 0 [.ref 0, .int b, .int kd, .int k] [] _ _
  refine xi_iload_n (pc' := 1) rfl rfl rfl ?_
  refine xx_if (pc' := 4) (tg := 18) rfl rfl rfl (fun q1 => ?_) (fun q1 => ?_)
  · refine xi_iconst (pc' := 19) rfl rfl ?_
    refine xx_zreturn rfl rfl (by first | rfl | assumption | exact b01_bI | simp [ex_b01, bI]) ?_
    exact ⟨rfl, rfl⟩
  · refine xi_iload_n (pc' := 5) rfl rfl rfl ?_
    refine xi_iconst (pc' := 6) rfl rfl ?_
    refine xx_icmp (pc' := 9) (tg := 18) rfl rfl rfl (fun q6 => ?_) (fun q6 => ?_)
    · refine xi_iconst (pc' := 19) rfl rfl ?_
      refine xx_zreturn rfl rfl (by first | rfl | assumption | exact b01_bI | simp [ex_b01, bI]) ?_
      exact ⟨rfl, rfl⟩
    · refine xi_iload_n (pc' := 10) rfl rfl rfl ?_
      refine xx_if (pc' := 13) (tg := 18) rfl rfl rfl (fun q10 => ?_) (fun q10 => ?_)
      · refine xi_iconst (pc' := 19) rfl rfl ?_
        refine xx_zreturn rfl rfl (by first | rfl | assumption | exact b01_bI | simp [ex_b01, bI]) ?_
        exact ⟨rfl, rfl⟩
      · refine xi_iload_n (pc' := 14) rfl rfl rfl ?_
        refine xi_iconst (pc' := 15) rfl rfl ?_
        refine xx_icmp (pc' := 18) (tg := 20) rfl rfl rfl (fun q15 => ?_) (fun q15 => ?_)
        · refine xi_iload_n (pc' := 21) rfl rfl rfl ?_
          refine xx_if (pc' := 24) (tg := 31) rfl rfl rfl (fun q21 => ?_) (fun q21 => ?_)
          · refine xi_iconst (pc' := 32) rfl rfl ?_
            refine xx_zreturn rfl rfl (by first | rfl | assumption | exact b01_bI | simp [ex_b01, bI]) ?_
            exact ⟨rfl, rfl⟩
          · refine xi_iload_n (pc' := 25) rfl rfl rfl ?_
            refine xi_sipush (pc' := 28) rfl (by decide) rfl ?_
            refine xx_icmp (pc' := 31) (tg := 33) rfl rfl rfl (fun q28 => ?_) (fun q28 => ?_)
            · exfalso
              simp only [ex_P, vF, Classical.not_not, Int32.lt_iff_toInt_lt, Int32.le_iff_toInt_le, toI, Nat.reduceLT, Int32.toInt_zero] at *; omega
            · refine xi_iconst (pc' := 32) rfl rfl ?_
              refine xx_zreturn rfl rfl (by first | rfl | assumption | exact b01_bI | simp [ex_b01, bI]) ?_
              exact ⟨rfl, rfl⟩
        · refine xi_iconst (pc' := 19) rfl rfl ?_
          refine xx_zreturn rfl rfl (by first | rfl | assumption | exact b01_bI | simp [ex_b01, bI]) ?_
          exact ⟨rfl, rfl⟩
theorem f_fault1 {L : Nat} {xs : Nat → Int32} {D n : Nat} {I J : ex_Mem} {b kd k : Nat} (hb : b < 2) (hkd : kd < 3) (hk : k ≤ 1000) : ri L xs (D + 1) 24 [.ref 0, .int (nI b), .int (nI kd), .int (nI k)] (mkH n I J) (nI 1) (mkH n (ex_wI (ex_wI I 6 b (nI kd)) 7 b (nI k)) J) := by
  show xx cb_G _ _ _ 24 0 [.ref 0, .int (nI b), .int (nI kd), .int (nI k)] [] _ _
  refine xi_iload_n (pc' := 1) rfl rfl rfl ?_
  refine xx_if (pc' := 4) (tg := 18) rfl rfl rfl (fun q1 => absurd q1 (show ¬ ex_P .lt (nI b) 0 from nI_pos (by omega))) (fun q1 => ?_)
  refine xi_iload_n (pc' := 5) rfl rfl rfl ?_
  refine xi_iconst (pc' := 6) rfl rfl ?_
  refine xx_icmp (pc' := 9) (tg := 18) rfl rfl rfl (fun q6 => absurd q6 (show ¬ ex_P .ge (nI b) (nI 2) from nI_ge (by omega) (by decide))) (fun q6 => ?_)
  refine xi_iload_n (pc' := 10) rfl rfl rfl ?_
  refine xx_if (pc' := 13) (tg := 18) rfl rfl rfl (fun q10 => absurd q10 (show ¬ ex_P .lt (nI kd) 0 from nI_pos (by omega))) (fun q10 => ?_)
  refine xi_iload_n (pc' := 14) rfl rfl rfl ?_
  refine xi_iconst (pc' := 15) rfl rfl ?_
  refine xx_icmp (pc' := 18) (tg := 20) rfl rfl rfl (fun q15 => ?_) (fun q15 => absurd (show ex_P .le (nI kd) (nI 2) from nI_le (by omega) (by decide)) q15)
  refine xi_iload_n (pc' := 21) rfl rfl rfl ?_
  refine xx_if (pc' := 24) (tg := 31) rfl rfl rfl (fun q21 => absurd q21 (show ¬ ex_P .lt (nI k) 0 from nI_pos (by omega))) (fun q21 => ?_)
  refine xi_iload_n (pc' := 25) rfl rfl rfl ?_
  refine xi_sipush (pc' := 28) rfl (by decide) rfl ?_
  refine xx_icmp (pc' := 31) (tg := 33) rfl rfl rfl (fun q28 => ?_) (fun q28 => absurd (show ex_P .le (nI k) (nI 1000) from nI_le (by omega) (by decide)) q28)
  refine xi_aload_n (pc' := 34) rfl rfl rfl ?_
  refine xc_getp (pc' := 37) rfl rfl (by decide) rfl (by omega) (by decide) rfl rfl rfl ?_
  refine xi_iload_n (pc' := 38) rfl rfl rfl ?_
  refine xi_iload_n (pc' := 39) rfl rfl rfl ?_
  refine xi_iload_n (pc' := 40) rfl rfl rfl ?_
  refine xx_callVv (pc' := 43) rfl rfl (by decide) rfl rfl (by show _ < 81 + 2 * _; omega) (Nat.le_of_ble_eq_true rfl) rfl rfl (c_arm hb) ?_
  refine xi_iconst (pc' := 44) rfl rfl ?_
  refine xx_zreturn rfl rfl (by first | rfl | assumption | exact b01_bI | simp [ex_b01, bI]) ?_
  exact ⟨rfl, rfl⟩
theorem f_bus {L : Nat} {xs : Nat → Int32} {D n : Nat} {I J : ex_Mem}  : ri L xs D 28 [.ref 0] (mkH n I J) (I 1 2) (mkH n I J) := by
  show xx cb_G _ _ _ 28 0 [.ref 0] [] _ _
  refine xi_aload_n (pc' := 1) rfl rfl rfl ?_
  refine xc_getp (pc' := 4) rfl rfl (by decide) rfl (by omega) (by decide) rfl rfl rfl ?_
  refine xc_geti (pc' := 7) rfl rfl (by decide) rfl (by decide) (by omega) (by decide) (by decide) rfl ?_
  refine xx_ireturn rfl rfl ?_
  exact ⟨rfl, rfl⟩
theorem f_words {L : Nat} {xs : Nat → Int32} {D n : Nat} {I J : ex_Mem}  : ri L xs D 29 [.ref 0] (mkH n I J) (I 4 2) (mkH n I J) := by
  show xx cb_G _ _ _ 29 0 [.ref 0] [] _ _
  refine xi_aload_n (pc' := 1) rfl rfl rfl ?_
  refine xc_getp (pc' := 4) rfl rfl (by decide) rfl (by omega) (by decide) rfl rfl rfl ?_
  refine xc_getp (pc' := 7) rfl rfl (by decide) rfl (by omega) (by decide) rfl rfl rfl ?_
  refine xc_geti (pc' := 10) rfl rfl (by decide) rfl (by decide) (by omega) (by decide) (by decide) rfl ?_
  refine xx_ireturn rfl rfl ?_
  exact ⟨rfl, rfl⟩
theorem c_latest1 {L : Nat} {xs : Nat → Int32} {D n : Nat} {I J : ex_Mem} {i p hw : Nat} (hh : I 4 2 = nI hw) (h31 : hw < 2 ^ 31) (hp : I 4 1 = nI p) (hp6 : p < 60) (hi : i < 60) (hiw : i < hw) : ri L xs D 48 [.ref 4, .int (nI i)] (mkH n I J) (I 5 ((p + 59 - i) % 60)) (mkH n I J) := by
  show xx cb_G _ _ _ 48 0 [.ref 4, .int (nI i)] [] _ _
  refine xi_iload_n (pc' := 1) rfl rfl rfl ?_
  refine xx_if (pc' := 4) (tg := 18) rfl rfl rfl (fun q1 => absurd q1 (show ¬ ex_P .lt (nI i) 0 from nI_pos (by omega))) (fun q1 => ?_)
  refine xi_iload_n (pc' := 5) rfl rfl rfl ?_
  refine xi_bipush (pc' := 7) rfl (by decide) rfl ?_
  refine xx_icmp (pc' := 10) (tg := 18) rfl rfl rfl (fun q7 => absurd q7 (show ¬ ex_P .ge (nI i) (nI 60) from nI_ge (by omega) (by decide))) (fun q7 => ?_)
  refine xi_iload_n (pc' := 11) rfl rfl rfl ?_
  refine xi_aload_n (pc' := 12) rfl rfl rfl ?_
  refine xc_getiv (v := nI (hw)) (pc' := 15) rfl rfl (by decide) rfl (by decide) (by omega) (by decide) (by decide) (hh) rfl ?_
  refine xx_icmp (pc' := 18) (tg := 20) rfl rfl rfl (fun q15 => ?_) (fun q15 => absurd (show ex_P .lt (nI i) (nI hw) from nI_lt (by omega) (by omega)) q15)
  refine xi_aload_n (pc' := 21) rfl rfl rfl ?_
  refine xc_getp (pc' := 24) rfl rfl (by decide) rfl (by omega) (by decide) rfl rfl rfl ?_
  refine xi_aload_n (pc' := 25) rfl rfl rfl ?_
  refine xc_getiv (v := nI (p)) (pc' := 28) rfl rfl (by decide) rfl (by decide) (by omega) (by decide) (by decide) (hp) rfl ?_
  refine xi_bipush (pc' := 30) rfl (by decide) rfl ?_
  refine xi_iadd (pc' := 31) rfl rfl ?_
  refine xx_topi (y := nI (p + 60)) (ix_add p 60) ?_
  refine xi_iconst (pc' := 32) rfl rfl ?_
  refine xi_isub (pc' := 33) rfl rfl ?_
  refine xx_topi (y := nI (p + 59)) (ix_pred (p + 59)) ?_
  refine xi_iload_n (pc' := 34) rfl rfl rfl ?_
  refine xi_isub (pc' := 35) rfl rfl ?_
  refine xx_topi (y := nI (p + 59 - i)) (sub_n (by omega)) ?_
  refine xi_bipush (pc' := 37) rfl (by decide) rfl ?_
  refine xi_irem (pc' := 38) rfl (by decide) rfl ?_
  refine xx_topi (y := nI ((p + 59 - i) % 60)) (ix_rem (by omega) (by decide) (by decide)) ?_
  refine xc_iald (j := (p + 59 - i) % 60) (pc' := 39) rfl rfl (by decide) (by omega) (by omega) (rfl) (by omega) (by decide) rfl ?_
  refine xx_ireturn rfl rfl ?_
  exact ⟨rfl, rfl⟩
theorem c_latest0 {L : Nat} {xs : Nat → Int32} {D n : Nat} {I J : ex_Mem} {i : Int32} {hw : Nat} (hh : I 4 2 = nI hw) (h : ¬ vH hw i) : ri L xs D 48 [.ref 4, .int i] (mkH n I J) (- nI 1) (mkH n I J) := by
  show xx cb_G _ _ _ 48 0 [.ref 4, .int i] [] _ _
  refine xi_iload_n (pc' := 1) rfl rfl rfl ?_
  refine xx_if (pc' := 4) (tg := 18) rfl rfl rfl (fun q1 => ?_) (fun q1 => ?_)
  · refine xi_iconstm (pc' := 19) rfl rfl ?_
    refine xx_ireturn rfl rfl ?_
    exact ⟨rfl, rfl⟩
  · refine xi_iload_n (pc' := 5) rfl rfl rfl ?_
    refine xi_bipush (pc' := 7) rfl (by decide) rfl ?_
    refine xx_icmp (pc' := 10) (tg := 18) rfl rfl rfl (fun q7 => ?_) (fun q7 => ?_)
    · refine xi_iconstm (pc' := 19) rfl rfl ?_
      refine xx_ireturn rfl rfl ?_
      exact ⟨rfl, rfl⟩
    · refine xi_iload_n (pc' := 11) rfl rfl rfl ?_
      refine xi_aload_n (pc' := 12) rfl rfl rfl ?_
      refine xc_getiv (v := nI (hw)) (pc' := 15) rfl rfl (by decide) rfl (by decide) (by omega) (by decide) (by decide) (hh) rfl ?_
      refine xx_icmp (pc' := 18) (tg := 20) rfl rfl rfl (fun q15 => absurd q15 (fun q => h ⟨Int32.not_lt.mp q1, Int32.not_le.mp q7, q⟩)) (fun q15 => ?_)
      refine xi_iconstm (pc' := 19) rfl rfl ?_
      refine xx_ireturn rfl rfl ?_
      exact ⟨rfl, rfl⟩
theorem f_heard1 {L : Nat} {xs : Nat → Int32} {D n : Nat} {I J : ex_Mem} {i p hw : Nat} (hh : I 4 2 = nI hw) (h31 : hw < 2 ^ 31) (hp : I 4 1 = nI p) (hp6 : p < 60) (hi : i < 60) (hiw : i < hw) : ri L xs (D + 1) 30 [.ref 0, .int (nI i)] (mkH n I J) (I 5 ((p + 59 - i) % 60)) (mkH n I J) := by
  show xx cb_G _ _ _ 30 0 [.ref 0, .int (nI i)] [] _ _
  refine xi_aload_n (pc' := 1) rfl rfl rfl ?_
  refine xc_getp (pc' := 4) rfl rfl (by decide) rfl (by omega) (by decide) rfl rfl rfl ?_
  refine xc_getp (pc' := 7) rfl rfl (by decide) rfl (by omega) (by decide) rfl rfl rfl ?_
  refine xi_iload_n (pc' := 8) rfl rfl rfl ?_
  refine xx_callVi (pc' := 11) rfl rfl (by decide) rfl rfl (by show _ < 81 + 2 * _; omega) (Nat.le_of_ble_eq_true rfl) rfl rfl (c_latest1 hh h31 hp hp6 hi hiw) ?_
  refine xx_ireturn rfl rfl ?_
  exact ⟨rfl, rfl⟩
theorem f_heard0 {L : Nat} {xs : Nat → Int32} {D n : Nat} {I J : ex_Mem} {i : Int32} {hw : Nat} (hh : I 4 2 = nI hw) (h : ¬ vH hw i) : ri L xs (D + 1) 30 [.ref 0, .int i] (mkH n I J) (- nI 1) (mkH n I J) := by
  show xx cb_G _ _ _ 30 0 [.ref 0, .int i] [] _ _
  refine xi_aload_n (pc' := 1) rfl rfl rfl ?_
  refine xc_getp (pc' := 4) rfl rfl (by decide) rfl (by omega) (by decide) rfl rfl rfl ?_
  refine xc_getp (pc' := 7) rfl rfl (by decide) rfl (by omega) (by decide) rfl rfl rfl ?_
  refine xi_iload_n (pc' := 8) rfl rfl rfl ?_
  refine xx_callVi (pc' := 11) rfl rfl (by decide) rfl rfl (by show _ < 81 + 2 * _; omega) (Nat.le_of_ble_eq_true rfl) rfl rfl (c_latest0 hh h) ?_
  refine xx_ireturn rfl rfl ?_
  exact ⟨rfl, rfl⟩
theorem qpoll_s {I : ex_Mem} {bb t : Nat} : q_poll I bb (t + 1) = if q_poll I bb t 49 t = 0 then q_poll I bb t else q_pl (c_md (q_poll I bb t) t (nI 2) bb) t := rfl
theorem qpl_a {C : Int32 × ex_Mem} {t : Nat} (h : C.1 = 0) : q_pl C t = C.2 := by unfold q_pl; exact if_pos h
theorem qpl_b {C : Int32 × ex_Mem} {t : Nat} (h : ¬ C.1 = 0) : q_pl C t = ex_wI (ex_wI C.2 49 t (nI 0)) 48 t (nI 0) := by unfold q_pl; exact if_neg h
theorem qpoll_mon {I : ex_Mem} {bb : Nat} (h : monB I) : ∀ t, monB (q_poll I bb t)
  | 0 => h
  | t + 1 => by
    rw [qpoll_s]
    split
    · exact qpoll_mon h t
    · exact monB_eq (md_mon (qpoll_mon h t)) (qpl_fr (by decide) (by decide))
theorem c_poll_loop {L : Nat} {xs : Nat → Int32} {D n : Nat} {I J : ex_Mem} {b : Nat} (hb : b < 2) (hmo : monB I) (hbu : I 1 2 = nI b) : ∀ (j t : Nat), t + j = 6 → xx cb_G L xs (D + 6) 26 2 [.ref 0, .int (nI t)] [] (mkH n (q_poll I b t) J) (fun r h => r = none ∧ h = mkH n (q_poll I b 6) J) := by
  intro j
  induction j with
  | zero =>
    intro t ht
    have ht : t = 6 := by omega
    subst ht
    refine xi_iload_n (pc' := 3) rfl rfl rfl ?_
    refine xi_bipush (pc' := 5) rfl (by decide) rfl ?_
    refine xx_icmp (pc' := 8) (tg := 45) rfl rfl rfl (fun q5 => ?_) (fun q5 => absurd (show ex_P .ge (nI 6) (nI 6) from Int32.le_refl _) q5)
    refine xx_return rfl (by decide) ?_
    exact ⟨rfl, rfl⟩
  | succ j ih =>
    intro t ht
    have ht6 : t < 6 := by omega
    refine xi_iload_n (pc' := 3) rfl rfl rfl ?_
    refine xi_bipush (pc' := 5) rfl (by decide) rfl ?_
    refine xx_icmp (pc' := 8) (tg := 45) rfl rfl rfl (fun q5 => absurd q5 (show ¬ ex_P .ge (nI t) (nI 6) from nI_ge (by omega) (by decide))) (fun q5 => ?_)
    refine xi_aload_n (pc' := 9) rfl rfl rfl ?_
    refine xc_getp (pc' := 12) rfl rfl (by decide) rfl (by omega) (by decide) rfl rfl rfl ?_
    refine xc_getp (pc' := 15) rfl rfl (by decide) rfl (by omega) (by decide) rfl rfl rfl ?_
    refine xi_iload_n (pc' := 16) rfl rfl rfl ?_
    refine xc_zald (j := t) (pc' := 17) rfl rfl (by decide) (by omega) (by first | rfl | (simp only [ix_add, ix_mul, ix_pred]; done) | (simp only [ix_add, ix_mul, ix_pred, *]; done)) (by omega) (by decide) rfl ?_
    refine xx_if (pc' := 20) (tg := 39) rfl rfl rfl (fun q17 => ?_) (fun q17 => ?_)
    · refine xi_iincv (y := nI (t + 1)) (pc' := 42) rfl rfl (ix_add _ _) (st1_1 rfl) rfl ?_
      refine xi_goto (pc' := 2) rfl rfl ?_
      have e := ih (t + 1) (by omega)
      rw [qpoll_s] at e
      simp only [ex_P, Classical.not_not] at q17
      first | (rw [if_pos q17] at e; exact e) | (rw [if_neg q17] at e; simp only [ex_P, Classical.not_not] at q28; first | (rw [qpl_a q28] at e; exact e) | (rw [qpl_b q28] at e; exact e))
    · refine xi_aload_n (pc' := 21) rfl rfl rfl ?_
      refine xc_getp (pc' := 24) rfl rfl (by decide) rfl (by omega) (by decide) rfl rfl rfl ?_
      refine xi_iload_n (pc' := 25) rfl rfl rfl ?_
      refine xx_callVi (pc' := 28) rfl rfl (by decide) rfl rfl (by show _ < 81 + 2 * _; omega) (Nat.le_of_ble_eq_true rfl) rfl rfl (c_poll1 ht6 hb (qpoll_mon hmo t) ((qpoll_fr (by omega) (by omega) (by omega) t (by omega)).trans hbu)) ?_
      refine xx_if (pc' := 31) (tg := 39) rfl rfl rfl (fun q28 => ?_) (fun q28 => ?_)
      · refine xi_iincv (y := nI (t + 1)) (pc' := 42) rfl rfl (ix_add _ _) (st1_1 rfl) rfl ?_
        refine xi_goto (pc' := 2) rfl rfl ?_
        have e := ih (t + 1) (by omega)
        rw [qpoll_s] at e
        simp only [ex_P, Classical.not_not] at q17
        first | (rw [if_pos q17] at e; exact e) | (rw [if_neg q17] at e; simp only [ex_P, Classical.not_not] at q28; first | (rw [qpl_a q28] at e; exact e) | (rw [qpl_b q28] at e; exact e))
      · refine xi_aload_n (pc' := 32) rfl rfl rfl ?_
        refine xc_getp (pc' := 35) rfl rfl (by decide) rfl (by omega) (by decide) rfl rfl rfl ?_
        refine xi_iload_n (pc' := 36) rfl rfl rfl ?_
        refine xx_callVv (pc' := 39) rfl rfl (by decide) rfl rfl (by show _ < 81 + 2 * _; omega) (Nat.le_of_ble_eq_true rfl) rfl rfl (c_takeBack ht6) ?_
        refine xi_iincv (y := nI (t + 1)) (pc' := 42) rfl rfl (ix_add _ _) (st1_1 rfl) rfl ?_
        refine xi_goto (pc' := 2) rfl rfl ?_
        have e := ih (t + 1) (by omega)
        rw [qpoll_s] at e
        simp only [ex_P, Classical.not_not] at q17
        first | (rw [if_pos q17] at e; exact e) | (rw [if_neg q17] at e; simp only [ex_P, Classical.not_not] at q28; first | (rw [qpl_a q28] at e; exact e) | (rw [qpl_b q28] at e; exact e))
theorem c_pollD {L : Nat} {xs : Nat → Int32} {D n : Nat} {I J : ex_Mem} {b : Nat} (hb : b < 2) (hmo : monB I) (hbu : I 1 2 = nI b) : ro L xs (D + 6) 26 [.ref 0] (mkH n I J) (mkH n (q_poll I b 6) J) := by
  show xx cb_G _ _ _ 26 0 [.ref 0, ex_no] [] _ _
  refine xi_iconst (pc' := 1) rfl rfl ?_
  refine xi_istore_n (pc' := 2) rfl (st1_1 rfl) rfl ?_
  exact c_poll_loop hb hmo hbu 6 0 (by omega)
theorem qrn_s {A : Int32 × ex_Mem} {f m : Nat} : q_rn A f (m + 1) = q_rs (q_rn A f m) m f := rfl
theorem qrs_a {A : Int32 × ex_Mem} {m f : Nat} (h : q_isIn A.2 m f = 0) : q_rs A m f = A := by unfold q_rs; exact if_pos h
theorem qrs_b {A : Int32 × ex_Mem} {m f : Nat} (h : ¬ q_isIn A.2 m f = 0) (h2 : ¬ q_hd A.2 m 6 = 0) : q_rs A m f = A := by unfold q_rs; rw [if_neg h, if_neg h2]
theorem qrs_c {A : Int32 × ex_Mem} {m f : Nat} (h : ¬ q_isIn A.2 m f = 0) (h2 : q_hd A.2 m 6 = 0) (h3 : q_rd A.2 m (81 + 2 * m) 8 = nI 4) : q_rs A m f = (A.1 + nI 0, q_rd A.2 m) := by unfold q_rs; rw [if_neg h, if_pos h2, if_pos h3]
theorem qrs_d {A : Int32 × ex_Mem} {m f : Nat} (h : ¬ q_isIn A.2 m f = 0) (h2 : q_hd A.2 m 6 = 0) (h3 : ¬ q_rd A.2 m (81 + 2 * m) 8 = nI 4) : q_rs A m f = (A.1 + nI 1, q_rd A.2 m) := by unfold q_rs; rw [if_neg h, if_pos h2, if_neg h3]
theorem c_note_rd {L : Nat} {xs : Nat → Int32} {D n : Nat} {I J : ex_Mem} {m : Nat} (h8 : n ≤ 8) (hm : m < n) : ro L xs (D + 1) 70 [.ref 47, .ref (81 + 2 * m)] (mkH n (ex_wI (c_does I m (tk I 1 2)).2 (81 + 2 * m) 8 (c_does I m (tk I 1 2)).1) J) (mkH n (q_rd I m) J) := by
  unfold q_rd q_dd
  exact c_note h8 hm
theorem c_run_loop {L : Nat} {xs : Nat → Int32} {D n : Nat} {I J : ex_Mem} {A : Int32 × ex_Mem} {f : Nat} (h8 : n ≤ 8) (H : ∀ m, m ≤ n → okC n (q_rn A f m).2) : ∀ (j m : Nat), m + j = n → ∀ v4 : Value, v4.category = 1 → xx cb_G L xs (D + 8) 25 32 [.ref 0, .int (nI f), .int (q_rn A f m).1, .int (nI m), v4] [] (mkH n (q_rn A f m).2 J) (fun r h => r = some (.int (q_rn A f n).1) ∧ h = mkH n (q_end (q_rn A f n).2 6) J) := by
  intro j
  induction j with
  | zero =>
    intro m hk v4 h4
    have hk : m = n := by omega
    subst hk
    have H0 := H m (Nat.le_refl _)
    refine xi_iload_n (pc' := 33) rfl rfl rfl ?_
    refine xi_aload_n (pc' := 34) rfl rfl rfl ?_
    refine xc_getp (pc' := 37) rfl rfl (by decide) rfl (by omega) (by decide) rfl rfl rfl ?_
    refine xc_getiv (v := nI (m)) (pc' := 40) rfl rfl (by decide) rfl (by decide) (by omega) (by decide) (by decide) (H0.1) rfl ?_
    refine xx_icmp (pc' := 43) (tg := 121) rfl rfl rfl (fun q40 => ?_) (fun q40 => absurd (show ex_P .ge (nI m) (nI m) from Int32.le_refl _) q40)
    refine xi_aload_n (pc' := 122) rfl rfl rfl ?_
    refine xc_getp (pc' := 125) rfl rfl (by decide) rfl (by omega) (by decide) rfl rfl rfl ?_
    refine xx_callVv (pc' := 128) rfl rfl (by decide) rfl rfl (by show _ < 81 + 2 * _; omega) (Nat.le_of_ble_eq_true rfl) rfl rfl (c_endFrame) ?_
    refine xi_iload_n (pc' := 129) rfl rfl rfl ?_
    refine xx_ireturn rfl rfl ?_
    exact ⟨rfl, rfl⟩
  | succ j ih =>
    intro m hk v4 h4
    have hm : m < n := by omega
    have H0 := H m (by omega)
    refine xi_iload_n (pc' := 33) rfl rfl rfl ?_
    refine xi_aload_n (pc' := 34) rfl rfl rfl ?_
    refine xc_getp (pc' := 37) rfl rfl (by decide) rfl (by omega) (by decide) rfl rfl rfl ?_
    refine xc_getiv (v := nI (n)) (pc' := 40) rfl rfl (by decide) rfl (by decide) (by omega) (by decide) (by decide) (H0.1) rfl ?_
    refine xx_icmp (pc' := 43) (tg := 121) rfl rfl rfl (fun q40 => absurd q40 (show ¬ ex_P .ge (nI m) (nI n) from nI_ge (by omega) (by omega))) (fun q40 => ?_)
    refine xi_aload_n (pc' := 44) rfl rfl rfl ?_
    refine xc_getp (pc' := 47) rfl rfl (by decide) rfl (by omega) (by decide) rfl rfl rfl ?_
    refine xc_getp (pc' := 50) rfl rfl (by decide) rfl (by omega) (by decide) rfl rfl rfl ?_
    refine xi_iload_n (pc' := 51) rfl rfl rfl ?_
    refine xc_aald (j := m) (pc' := 52) rfl rfl (by omega) (by first | rfl | (simp only [ix_add, ix_mul, ix_pred]; done) | (simp only [ix_add, ix_mul, ix_pred, *]; done)) (by omega) (by decide) (pd_45 hm) rfl ?_
    refine xi_astore (pc' := 54) rfl (st1_4 rfl) rfl ?_
    refine xi_aload (pc' := 56) rfl rfl rfl ?_
    refine xi_iload_n (pc' := 57) rfl rfl rfl ?_
    refine xx_callVi (pc' := 60) rfl rfl (by decide) rfl (kd_M0 (Nat.lt_of_lt_of_le hm h8)) (by show _ < 81 + 2 * _; omega) (Nat.le_of_ble_eq_true rfl) rfl rfl (c_isIn h8 hm) ?_
    refine xx_if (pc' := 63) (tg := 115) rfl rfl rfl (fun q60 => ?_) (fun q60 => ?_)
    · refine xi_iincv (y := nI (m + 1)) (pc' := 118) rfl rfl (ix_add _ _) (st1_3 rfl) rfl ?_
      refine xi_goto (pc' := 32) rfl rfl ?_
      have e := ih (m + 1) (by omega) (.ref (81 + 2 * m)) rfl
      rw [qrn_s] at e
      simp only [ex_P, Classical.not_not] at q60
      first | (rw [qrs_a q60] at e; with_reducible exact e) | (simp only [ex_P, Classical.not_not] at q72; first | (rw [qrs_b q60 q72] at e; with_reducible exact e) | (simp only [ex_P, Classical.not_not] at q105; first | (rw [qrs_c q60 q72 q105] at e; dsimp only at e; with_reducible exact e) | (rw [qrs_d q60 q72 q105] at e; dsimp only at e; with_reducible exact e)))
    · refine xi_aload_n (pc' := 64) rfl rfl rfl ?_
      refine xc_getp (pc' := 67) rfl rfl (by decide) rfl (by omega) (by decide) rfl rfl rfl ?_
      refine xi_aload (pc' := 69) rfl rfl rfl ?_
      refine xx_callVi (pc' := 72) rfl rfl (by decide) rfl rfl (by show _ < 81 + 2 * _; omega) (Nat.le_of_ble_eq_true rfl) rfl rfl (c_hasDropped h8 hm) ?_
      refine xx_if (pc' := 75) (tg := 115) rfl rfl rfl (fun q72 => ?_) (fun q72 => ?_)
      · refine xi_iincv (y := nI (m + 1)) (pc' := 118) rfl rfl (ix_add _ _) (st1_3 rfl) rfl ?_
        refine xi_goto (pc' := 32) rfl rfl ?_
        have e := ih (m + 1) (by omega) (.ref (81 + 2 * m)) rfl
        rw [qrn_s] at e
        simp only [ex_P, Classical.not_not] at q60
        first | (rw [qrs_a q60] at e; with_reducible exact e) | (simp only [ex_P, Classical.not_not] at q72; first | (rw [qrs_b q60 q72] at e; with_reducible exact e) | (simp only [ex_P, Classical.not_not] at q105; first | (rw [qrs_c q60 q72 q105] at e; dsimp only at e; with_reducible exact e) | (rw [qrs_d q60 q72 q105] at e; dsimp only at e; with_reducible exact e)))
      · refine xi_aload (pc' := 77) rfl rfl rfl ?_
        refine xi_aload_n (pc' := 78) rfl rfl rfl ?_
        refine xc_getp (pc' := 81) rfl rfl (by decide) rfl (by omega) (by decide) rfl rfl rfl ?_
        refine xi_aload (pc' := 83) rfl rfl rfl ?_
        refine xx_callVi (pc' := 86) rfl rfl (by decide) rfl rfl (by show _ < 81 + 2 * _; omega) (Nat.le_of_ble_eq_true rfl) rfl rfl (c_outcome H0.2.2.2.2 h8 hm H0.2.1 (H0.2.2.1 m hm) H0.2.2.2.1) ?_
        refine xc_puti (pc' := 89) rfl rfl (by decide) (kd_M0 (Nat.lt_of_lt_of_le hm h8)) (by omega) (by omega) (by decide) (Or.inl rfl) rfl ?_
        refine xi_aload_n (pc' := 90) rfl rfl rfl ?_
        refine xc_getp (pc' := 93) rfl rfl (by decide) rfl (by omega) (by decide) rfl rfl rfl ?_
        refine xi_aload (pc' := 95) rfl rfl rfl ?_
        refine xx_callVv (pc' := 98) rfl rfl (by decide) rfl rfl (by show _ < 81 + 2 * _; omega) (Nat.le_of_ble_eq_true rfl) rfl rfl (c_note_rd h8 hm) ?_
        refine xi_iload_n (pc' := 99) rfl rfl rfl ?_
        refine xi_aload (pc' := 101) rfl rfl rfl ?_
        refine xc_geti (pc' := 104) rfl rfl (by decide) (kd_M0 (Nat.lt_of_lt_of_le hm h8)) (by omega) (by omega) (by decide) (by decide) rfl ?_
        refine xi_iconst (pc' := 105) rfl rfl ?_
        refine xx_icmp (pc' := 108) (tg := 112) rfl rfl rfl (fun q105 => ?_) (fun q105 => ?_)
        · refine xi_iconst (pc' := 113) rfl rfl ?_
          refine xi_iadd (pc' := 114) rfl rfl ?_
          refine xi_istore_n (pc' := 115) rfl (st1_2 rfl) rfl ?_
          refine xi_iincv (y := nI (m + 1)) (pc' := 118) rfl rfl (ix_add _ _) (st1_3 rfl) rfl ?_
          refine xi_goto (pc' := 32) rfl rfl ?_
          have e := ih (m + 1) (by omega) (.ref (81 + 2 * m)) rfl
          rw [qrn_s] at e
          simp only [ex_P, Classical.not_not] at q60
          first | (rw [qrs_a q60] at e; with_reducible exact e) | (simp only [ex_P, Classical.not_not] at q72; first | (rw [qrs_b q60 q72] at e; with_reducible exact e) | (simp only [ex_P, Classical.not_not] at q105; first | (rw [qrs_c q60 q72 q105] at e; dsimp only at e; with_reducible exact e) | (rw [qrs_d q60 q72 q105] at e; dsimp only at e; with_reducible exact e)))
        · refine xi_iconst (pc' := 109) rfl rfl ?_
          refine xi_goto (pc' := 113) rfl rfl ?_
          refine xi_iadd (pc' := 114) rfl rfl ?_
          refine xi_istore_n (pc' := 115) rfl (st1_2 rfl) rfl ?_
          refine xi_iincv (y := nI (m + 1)) (pc' := 118) rfl rfl (ix_add _ _) (st1_3 rfl) rfl ?_
          refine xi_goto (pc' := 32) rfl rfl ?_
          have e := ih (m + 1) (by omega) (.ref (81 + 2 * m)) rfl
          rw [qrn_s] at e
          simp only [ex_P, Classical.not_not] at q60
          first | (rw [qrs_a q60] at e; with_reducible exact e) | (simp only [ex_P, Classical.not_not] at q72; first | (rw [qrs_b q60 q72] at e; with_reducible exact e) | (simp only [ex_P, Classical.not_not] at q105; first | (rw [qrs_c q60 q72 q105] at e; dsimp only at e; with_reducible exact e) | (rw [qrs_d q60 q72 q105] at e; dsimp only at e; with_reducible exact e)))
theorem f_run_u {L : Nat} {xs : Nat → Int32} {D n : Nat} {I J : ex_Mem} (hz : I 44 4 = nI 0) : ri L xs D 25 [.ref 0] (mkH n I J) (- nI 1) (mkH n I J) := by
  show xx cb_G _ _ _ 25 0 [.ref 0, ex_no, ex_no, ex_no, ex_no] [] _ _
  refine xi_aload_n (pc' := 1) rfl rfl rfl ?_
  refine xc_getp (pc' := 4) rfl rfl (by decide) rfl (by omega) (by decide) rfl rfl rfl ?_
  refine xc_getiv (v := nI (0)) (pc' := 7) rfl rfl (by decide) rfl (by decide) (by omega) (by decide) (by decide) (hz) rfl ?_
  refine xi_iff (pc' := 10) (tg := 12) rfl rfl (by decide) rfl ?_
  refine xi_iconstm (pc' := 11) rfl rfl ?_
  refine xx_ireturn rfl rfl ?_
  exact ⟨rfl, rfl⟩
theorem f_run_0 {L : Nat} {xs : Nat → Int32} {D n : Nat} {I J : ex_Mem} {f b : Nat} (h8 : n ≤ 8) (hz : I 44 4 = nI 1) (hf : f < 4) (hfr : I 44 3 = nI f) (hb : b < 2) (hmo : monB I) (hbu : I 1 2 = nI b) (H : ∀ m, m ≤ n → okC n (q_rn (nI 0, q_p0 (q_tf I f) f) f m).2) (h0 : f = 0) : ri L xs (D + 8) 25 [.ref 0] (mkH n I J) ((q_run I n f).1) (mkH n (q_run I n f).2 J) := by
  show xx cb_G _ _ _ 25 0 [.ref 0, ex_no, ex_no, ex_no, ex_no] [] _ _
  refine xi_aload_n (pc' := 1) rfl rfl rfl ?_
  refine xc_getp (pc' := 4) rfl rfl (by decide) rfl (by omega) (by decide) rfl rfl rfl ?_
  refine xc_getiv (v := nI (1)) (pc' := 7) rfl rfl (by decide) rfl (by decide) (by omega) (by decide) (by decide) (hz) rfl ?_
  refine xi_ift (pc' := 12) rfl rfl (by decide) ?_
  refine xi_aload_n (pc' := 13) rfl rfl rfl ?_
  refine xc_getp (pc' := 16) rfl rfl (by decide) rfl (by omega) (by decide) rfl rfl rfl ?_
  refine xx_callVi (pc' := 19) rfl rfl (by decide) rfl rfl (by show _ < 81 + 2 * _; omega) (Nat.le_of_ble_eq_true rfl) rfl rfl (c_takeFrame hf hfr) ?_
  refine xi_istore_n (pc' := 20) rfl (st1_1 rfl) rfl ?_
  refine xi_iload_n (pc' := 21) rfl rfl rfl ?_
  refine xx_if (pc' := 24) (tg := 28) rfl rfl rfl (fun q21 => absurd q21 (show ¬ ex_P .ne (nI f) 0 from by rw [h0]; exact fun z => z rfl)) (fun q21 => ?_)
  refine xi_aload_n (pc' := 25) rfl rfl rfl ?_
  refine xx_callVv (pc' := 28) rfl rfl (by decide) rfl rfl (by show _ < 81 + 2 * _; omega) (Nat.le_of_ble_eq_true rfl) rfl rfl (c_pollD hb (monB_eq hmo (wI_fr (by decide))) ((wI_fr (by decide)).trans hbu)) ?_
  refine xi_iconst (pc' := 29) rfl rfl ?_
  refine xi_istore_n (pc' := 30) rfl (st1_2 rfl) rfl ?_
  refine xi_iconst (pc' := 31) rfl rfl ?_
  refine xi_istore_n (pc' := 32) rfl (st1_3 rfl) rfl ?_
  have e0 : q_p0 (q_tf I f) f = q_poll (q_tf I f) b 6 := by
    unfold q_p0; rw [if_pos h0, tk_of (p := b) (show q_tf I f 1 2 = nI b from (wI_fr (by decide)).trans hbu) (by omega)]
  have g := c_run_loop (L := L) (xs := xs) (D := D) (n := n) (I := I) (J := J) h8 H n 0 (by omega) ex_no rfl
  rw [show q_rn (nI 0, q_p0 (q_tf I f) f) f 0 = (nI 0, q_p0 (q_tf I f) f) from rfl, e0] at g
  unfold q_run
  rw [e0]
  dsimp only at g ⊢
  with_reducible exact g
theorem f_run_1 {L : Nat} {xs : Nat → Int32} {D n : Nat} {I J : ex_Mem} {f b : Nat} (h8 : n ≤ 8) (hz : I 44 4 = nI 1) (hf : f < 4) (hfr : I 44 3 = nI f) (hb : b < 2) (hmo : monB I) (hbu : I 1 2 = nI b) (H : ∀ m, m ≤ n → okC n (q_rn (nI 0, q_p0 (q_tf I f) f) f m).2) (h0 : ¬ f = 0) : ri L xs (D + 8) 25 [.ref 0] (mkH n I J) ((q_run I n f).1) (mkH n (q_run I n f).2 J) := by
  show xx cb_G _ _ _ 25 0 [.ref 0, ex_no, ex_no, ex_no, ex_no] [] _ _
  refine xi_aload_n (pc' := 1) rfl rfl rfl ?_
  refine xc_getp (pc' := 4) rfl rfl (by decide) rfl (by omega) (by decide) rfl rfl rfl ?_
  refine xc_getiv (v := nI (1)) (pc' := 7) rfl rfl (by decide) rfl (by decide) (by omega) (by decide) (by decide) (hz) rfl ?_
  refine xi_ift (pc' := 12) rfl rfl (by decide) ?_
  refine xi_aload_n (pc' := 13) rfl rfl rfl ?_
  refine xc_getp (pc' := 16) rfl rfl (by decide) rfl (by omega) (by decide) rfl rfl rfl ?_
  refine xx_callVi (pc' := 19) rfl rfl (by decide) rfl rfl (by show _ < 81 + 2 * _; omega) (Nat.le_of_ble_eq_true rfl) rfl rfl (c_takeFrame hf hfr) ?_
  refine xi_istore_n (pc' := 20) rfl (st1_1 rfl) rfl ?_
  refine xi_iload_n (pc' := 21) rfl rfl rfl ?_
  refine xx_if (pc' := 24) (tg := 28) rfl rfl rfl (fun q21 => ?_) (fun q21 => absurd (show ex_P .ne (nI f) 0 from by show ¬ nI f = 0; rw [nI_lit0 (by omega)]; exact h0) q21)
  refine xi_iconst (pc' := 29) rfl rfl ?_
  refine xi_istore_n (pc' := 30) rfl (st1_2 rfl) rfl ?_
  refine xi_iconst (pc' := 31) rfl rfl ?_
  refine xi_istore_n (pc' := 32) rfl (st1_3 rfl) rfl ?_
  have e0 : q_p0 (q_tf I f) f = q_tf I f := by
    unfold q_p0; exact if_neg h0
  have g := c_run_loop (L := L) (xs := xs) (D := D) (n := n) (I := I) (J := J) h8 H n 0 (by omega) ex_no rfl
  rw [show q_rn (nI 0, q_p0 (q_tf I f) f) f 0 = (nI 0, q_p0 (q_tf I f) f) from rfl, e0] at g
  unfold q_run
  rw [e0]
  dsimp only at g ⊢
  with_reducible exact g
theorem f_run {L : Nat} {xs : Nat → Int32} {D n : Nat} {I J : ex_Mem} {f b : Nat} (h8 : n ≤ 8) (hz : I 44 4 = nI 1) (hf : f < 4) (hfr : I 44 3 = nI f) (hb : b < 2) (hmo : monB I) (hbu : I 1 2 = nI b) (H : ∀ m, m ≤ n → okC n (q_rn (nI 0, q_p0 (q_tf I f) f) f m).2) : ri L xs (D + 8) 25 [.ref 0] (mkH n I J) (q_run I n f).1 (mkH n (q_run I n f).2 J) := by
  by_cases h0 : f = 0
  · exact f_run_0 h8 hz hf hfr hb hmo hbu H h0
  · exact f_run_1 h8 hz hf hfr hb hmo hbu H h0
