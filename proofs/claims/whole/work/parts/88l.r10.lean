theorem r_load0 {L : Nat} {xs : Nat → Int32} {D n : Nat} {I J : ex_Mem} {f : Int32} (hz : J 52 27 = nI 1) (hf : ¬ vK f) : ri L xs D 105 [.ref 52, .int f] (mkH n I J) (- nI 1) (mkH n I J) := by
  show xx cb_G _ _ _ 105 0 [.ref 52, .int f] [] _ _
  refine xi_aload_n (pc' := 1) rfl rfl rfl ?_
  refine xr_getiv (v := nI (1)) (pc' := 4) rfl rfl (by decide) (by decide) (hz) rfl ?_
  refine xi_iff (pc' := 7) (tg := 25) rfl rfl (by decide) rfl ?_
  refine xi_iload_n (pc' := 8) rfl rfl rfl ?_
  refine xx_if (pc' := 11) (tg := 25) rfl rfl rfl (fun q8 => ?_) (fun q8 => ?_)
  · refine xi_iconstm (pc' := 26) rfl rfl ?_
    refine xx_ireturn rfl rfl ?_
    exact ⟨rfl, rfl⟩
  · refine xi_iload_n (pc' := 12) rfl rfl rfl ?_
    refine xi_iconst (pc' := 13) rfl rfl ?_
    refine xx_icmp (pc' := 16) (tg := 25) rfl rfl rfl (fun q13 => ?_) (fun q13 => ?_)
    · refine xi_iconstm (pc' := 26) rfl rfl ?_
      refine xx_ireturn rfl rfl ?_
      exact ⟨rfl, rfl⟩
    · exact absurd ⟨Int32.not_lt.mp q8, Int32.not_le.mp q13⟩ hf
def vF (b kd k : Int32) : Prop := 0 ≤ b ∧ b ≤ nI 1 ∧ 0 ≤ kd ∧ kd ≤ nI 2 ∧ 0 ≤ k ∧ k ≤ nI 1000
theorem r_fault1 {L : Nat} {xs : Nat → Int32} {D n : Nat} {I J : ex_Mem} {b kd k : Nat} (hb : b < 2) (hkd : kd < 3) (hk : k ≤ 1000) : ri L xs D 106 [.ref 52, .int (nI b), .int (nI kd), .int (nI k)] (mkH n I J) (nI 1) (mkH n I (ex_wI (ex_wI (ex_wI J 53 b (nI 1)) 54 b (nI kd)) 55 b (nI k))) := by
  show xx cb_G _ _ _ 106 0 [.ref 52, .int (nI b), .int (nI kd), .int (nI k)] [] _ _
  refine xi_iload_n (pc' := 1) rfl rfl rfl ?_
  refine xx_if (pc' := 4) (tg := 29) rfl rfl rfl (fun q1 => absurd q1 (show ¬ ex_P .lt (nI b) 0 from nI_pos (by omega))) (fun q1 => ?_)
  refine xi_iload_n (pc' := 5) rfl rfl rfl ?_
  refine xi_iconst (pc' := 6) rfl rfl ?_
  refine xx_icmp (pc' := 9) (tg := 29) rfl rfl rfl (fun q6 => absurd q6 (show ¬ ex_P .gt (nI b) (nI 1) from nI_nlt (by omega) (by omega))) (fun q6 => ?_)
  refine xi_iload_n (pc' := 10) rfl rfl rfl ?_
  refine xx_if (pc' := 13) (tg := 29) rfl rfl rfl (fun q10 => absurd q10 (show ¬ ex_P .lt (nI kd) 0 from nI_pos (by omega))) (fun q10 => ?_)
  refine xi_iload_n (pc' := 14) rfl rfl rfl ?_
  refine xi_iconst (pc' := 15) rfl rfl ?_
  refine xx_icmp (pc' := 18) (tg := 29) rfl rfl rfl (fun q15 => absurd q15 (show ¬ ex_P .gt (nI kd) (nI 2) from nI_nlt (by omega) (by omega))) (fun q15 => ?_)
  refine xi_iload_n (pc' := 19) rfl rfl rfl ?_
  refine xx_if (pc' := 22) (tg := 29) rfl rfl rfl (fun q19 => absurd q19 (show ¬ ex_P .lt (nI k) 0 from nI_pos (by omega))) (fun q19 => ?_)
  refine xi_iload_n (pc' := 23) rfl rfl rfl ?_
  refine xi_sipush (pc' := 26) rfl (by decide) rfl ?_
  refine xx_icmp (pc' := 29) (tg := 31) rfl rfl rfl (fun q26 => ?_) (fun q26 => absurd (show ex_P .le (nI k) (nI 1000) from nI_le (by omega) (by decide)) q26)
  refine xi_aload_n (pc' := 32) rfl rfl rfl ?_
  refine xr_getp (pc' := 35) rfl rfl (by decide) rfl rfl rfl ?_
  refine xi_iload_n (pc' := 36) rfl rfl rfl ?_
  refine xi_iconst (pc' := 37) rfl rfl ?_
  refine xr_zast (j := b) (pc' := 38) rfl rfl (by decide) (by first | rfl | (simp only [ix_add, ix_mul, ix_pred]; done) | (simp only [ix_add, ix_mul, ix_pred, *]; done)) (by omega) (by decide) (by decide) rfl ?_
  refine xi_aload_n (pc' := 39) rfl rfl rfl ?_
  refine xr_getp (pc' := 42) rfl rfl (by decide) rfl rfl rfl ?_
  refine xi_iload_n (pc' := 43) rfl rfl rfl ?_
  refine xi_iload_n (pc' := 44) rfl rfl rfl ?_
  refine xr_iast (j := b) (pc' := 45) rfl rfl (by decide) (by first | rfl | (simp only [ix_add, ix_mul, ix_pred]; done) | (simp only [ix_add, ix_mul, ix_pred, *]; done)) (by omega) (by decide) rfl ?_
  refine xi_aload_n (pc' := 46) rfl rfl rfl ?_
  refine xr_getp (pc' := 49) rfl rfl (by decide) rfl rfl rfl ?_
  refine xi_iload_n (pc' := 50) rfl rfl rfl ?_
  refine xi_iload_n (pc' := 51) rfl rfl rfl ?_
  refine xr_iast (j := b) (pc' := 52) rfl rfl (by decide) (by first | rfl | (simp only [ix_add, ix_mul, ix_pred]; done) | (simp only [ix_add, ix_mul, ix_pred, *]; done)) (by omega) (by decide) rfl ?_
  refine xi_iconst (pc' := 53) rfl rfl ?_
  refine xx_zreturn rfl rfl (by first | rfl | assumption | exact b01_bI | simp [ex_b01, bI]) ?_
  exact ⟨rfl, rfl⟩
theorem r_fault0 {L : Nat} {xs : Nat → Int32} {D n : Nat} {I J : ex_Mem} {b kd k : Int32} (h : ¬ vF b kd k) : ri L xs D 106 [.ref 52, .int b, .int kd, .int k] (mkH n I J) (nI 0) (mkH n I J) := by
  show xx cb_G _ _ _ 106 0 [.ref 52, .int b, .int kd, .int k] [] _ _
  refine xi_iload_n (pc' := 1) rfl rfl rfl ?_
  refine xx_if (pc' := 4) (tg := 29) rfl rfl rfl (fun q1 => ?_) (fun q1 => ?_)
  · refine xi_iconst (pc' := 30) rfl rfl ?_
    refine xx_zreturn rfl rfl (by first | rfl | assumption | exact b01_bI | simp [ex_b01, bI]) ?_
    exact ⟨rfl, rfl⟩
  · refine xi_iload_n (pc' := 5) rfl rfl rfl ?_
    refine xi_iconst (pc' := 6) rfl rfl ?_
    refine xx_icmp (pc' := 9) (tg := 29) rfl rfl rfl (fun q6 => ?_) (fun q6 => ?_)
    · refine xi_iconst (pc' := 30) rfl rfl ?_
      refine xx_zreturn rfl rfl (by first | rfl | assumption | exact b01_bI | simp [ex_b01, bI]) ?_
      exact ⟨rfl, rfl⟩
    · refine xi_iload_n (pc' := 10) rfl rfl rfl ?_
      refine xx_if (pc' := 13) (tg := 29) rfl rfl rfl (fun q10 => ?_) (fun q10 => ?_)
      · refine xi_iconst (pc' := 30) rfl rfl ?_
        refine xx_zreturn rfl rfl (by first | rfl | assumption | exact b01_bI | simp [ex_b01, bI]) ?_
        exact ⟨rfl, rfl⟩
      · refine xi_iload_n (pc' := 14) rfl rfl rfl ?_
        refine xi_iconst (pc' := 15) rfl rfl ?_
        refine xx_icmp (pc' := 18) (tg := 29) rfl rfl rfl (fun q15 => ?_) (fun q15 => ?_)
        · refine xi_iconst (pc' := 30) rfl rfl ?_
          refine xx_zreturn rfl rfl (by first | rfl | assumption | exact b01_bI | simp [ex_b01, bI]) ?_
          exact ⟨rfl, rfl⟩
        · refine xi_iload_n (pc' := 19) rfl rfl rfl ?_
          refine xx_if (pc' := 22) (tg := 29) rfl rfl rfl (fun q19 => ?_) (fun q19 => ?_)
          · refine xi_iconst (pc' := 30) rfl rfl ?_
            refine xx_zreturn rfl rfl (by first | rfl | assumption | exact b01_bI | simp [ex_b01, bI]) ?_
            exact ⟨rfl, rfl⟩
          · refine xi_iload_n (pc' := 23) rfl rfl rfl ?_
            refine xi_sipush (pc' := 26) rfl (by decide) rfl ?_
            refine xx_icmp (pc' := 29) (tg := 31) rfl rfl rfl (fun q26 => ?_) (fun q26 => ?_)
            · exact absurd ⟨Int32.not_lt.mp q1, Int32.not_lt.mp q6, Int32.not_lt.mp q10, Int32.not_lt.mp q15, Int32.not_lt.mp q19, q26⟩ h
            · refine xi_iconst (pc' := 30) rfl rfl ?_
              refine xx_zreturn rfl rfl (by first | rfl | assumption | exact b01_bI | simp [ex_b01, bI]) ?_
              exact ⟨rfl, rfl⟩
def vH (hw : Nat) (i : Int32) : Prop := 0 ≤ i ∧ i < nI 60 ∧ i < nI hw
theorem r_heard1 {L : Nat} {xs : Nat → Int32} {D n : Nat} {I J : ex_Mem} {i hw : Nat} (hh : J 52 3 = nI hw) (h31 : hw < 2 ^ 31) (hi : i < 60) (hiw : i < hw) : ri L xs D 128 [.ref 52, .int (nI i)] (mkH n I J) (J 56 ((hw - 1 - i) % 60)) (mkH n I J) := by
  show xx cb_G _ _ _ 128 0 [.ref 52, .int (nI i)] [] _ _
  refine xi_iload_n (pc' := 1) rfl rfl rfl ?_
  refine xx_if (pc' := 4) (tg := 18) rfl rfl rfl (fun q1 => absurd q1 (show ¬ ex_P .lt (nI i) 0 from nI_pos (by omega))) (fun q1 => ?_)
  refine xi_iload_n (pc' := 5) rfl rfl rfl ?_
  refine xi_bipush (pc' := 7) rfl (by decide) rfl ?_
  refine xx_icmp (pc' := 10) (tg := 18) rfl rfl rfl (fun q7 => absurd q7 (show ¬ ex_P .ge (nI i) (nI 60) from nI_ge (by omega) (by decide))) (fun q7 => ?_)
  refine xi_iload_n (pc' := 11) rfl rfl rfl ?_
  refine xi_aload_n (pc' := 12) rfl rfl rfl ?_
  refine xr_getiv (v := nI (hw)) (pc' := 15) rfl rfl (by decide) (by decide) (hh) rfl ?_
  refine xx_icmp (pc' := 18) (tg := 20) rfl rfl rfl (fun q15 => ?_) (fun q15 => absurd (show ex_P .lt (nI i) (nI hw) from nI_lt hiw h31) q15)
  refine xi_aload_n (pc' := 21) rfl rfl rfl ?_
  refine xr_getp (pc' := 24) rfl rfl (by decide) rfl rfl rfl ?_
  refine xi_aload_n (pc' := 25) rfl rfl rfl ?_
  refine xr_getiv (v := nI (hw)) (pc' := 28) rfl rfl (by decide) (by decide) (hh) rfl ?_
  refine xi_iconst (pc' := 29) rfl rfl ?_
  refine xi_isub (pc' := 30) rfl rfl ?_
  refine xx_topi (y := nI (hw - 1)) (pk_sub (by omega)) ?_
  refine xi_iload_n (pc' := 31) rfl rfl rfl ?_
  refine xi_isub (pc' := 32) rfl rfl ?_
  refine xx_topi (y := nI (hw - 1 - i)) (pk_sub (by omega)) ?_
  refine xi_bipush (pc' := 34) rfl (by decide) rfl ?_
  refine xi_irem (pc' := 35) rfl (by decide) rfl ?_
  refine xx_topi (y := nI ((hw - 1 - i) % 60)) (ix_rem (by omega) (by decide) (by decide)) ?_
  refine xr_iald (j := (hw - 1 - i) % 60) (pc' := 36) rfl rfl (by decide) (by first | rfl | (simp only [ix_add, ix_mul, ix_pred]; done) | (simp only [ix_add, ix_mul, ix_pred, *]; done)) (Nat.mod_lt _ (by decide)) (by decide) rfl ?_
  refine xx_ireturn rfl rfl ?_
  exact ⟨rfl, rfl⟩
theorem r_heard0 {L : Nat} {xs : Nat → Int32} {D n : Nat} {I J : ex_Mem} {i : Int32} {hw : Nat} (hh : J 52 3 = nI hw) (h : ¬ vH hw i) : ri L xs D 128 [.ref 52, .int i] (mkH n I J) (- nI 1) (mkH n I J) := by
  show xx cb_G _ _ _ 128 0 [.ref 52, .int i] [] _ _
  refine xi_iload_n (pc' := 1) rfl rfl rfl ?_
  refine xx_if (pc' := 4) (tg := 18) rfl rfl rfl (fun q1 => ?_) (fun q1 => ?_)
  · refine xi_iconstm (pc' := 19) rfl rfl ?_
    refine xx_ireturn rfl rfl ?_
    exact ⟨rfl, rfl⟩
  · refine xi_iload_n (pc' := 5) rfl rfl rfl ?_
    refine xi_bipush (pc' := 7) rfl (by decide) rfl ?_
    refine xx_icmp (pc' := 10) (tg := 18) rfl rfl rfl (fun q7 => ?_) (fun q7 => ?_)
    · refine xi_iconstm (pc' := 19) rfl rfl ?_
      refine xx_ireturn rfl rfl ?_
      exact ⟨rfl, rfl⟩
    · refine xi_iload_n (pc' := 11) rfl rfl rfl ?_
      refine xi_aload_n (pc' := 12) rfl rfl rfl ?_
      refine xr_getiv (v := nI (hw)) (pc' := 15) rfl rfl (by decide) (by decide) (hh) rfl ?_
      refine xx_icmp (pc' := 18) (tg := 20) rfl rfl rfl (fun q15 => ?_) (fun q15 => ?_)
      · exact absurd ⟨Int32.not_lt.mp q1, Int32.not_le.mp q7, q15⟩ h
      · refine xi_iconstm (pc' := 19) rfl rfl ?_
        refine xx_ireturn rfl rfl ?_
        exact ⟨rfl, rfl⟩
def r_len (J : ex_Mem) (m : Nat) : Int32 :=
  if J 69 m = nI 0 ∨ J 69 m = nI 1 then nI 3 * (nI 20 * (J 73 m + nI 2) + nI 10)
  else if J 69 m = nI 2 then nI 3 * (nI 20 * (J 73 m + nI 4) + nI 20)
  else if J 69 m = nI 3 then nI 60 * (J 73 m + nI 1)
  else nI 3 * (nI 20 * (if J 73 m = nI 18 then nI 3 else nI 2) + nI 10)
theorem r_len_0 {L : Nat} {xs : Nat → Int32} {D n : Nat} {I J : ex_Mem} {m : Nat} (hm : m < 8) (hk : J 69 m = nI 0) : ri L xs D 103 [.ref 52, .int (nI m)] (mkH n I J) (r_len J m) (mkH n I J) := by
  show xx cb_G _ _ _ 103 0 [.ref 52, .int (nI m), ex_no] [] _ _
  refine xi_aload_n (pc' := 1) rfl rfl rfl ?_
  refine xr_getp (pc' := 4) rfl rfl (by decide) rfl rfl rfl ?_
  refine xi_iload_n (pc' := 5) rfl rfl rfl ?_
  refine xr_iald (j := m) (pc' := 6) rfl rfl (by decide) (by first | rfl | (simp only [ix_add, ix_mul, ix_pred]; done) | (simp only [ix_add, ix_mul, ix_pred, *]; done)) (by omega) (by decide) rfl ?_
  refine xi_istore_n (pc' := 7) rfl (st1_2 rfl) rfl ?_
  refine xi_aload_n (pc' := 8) rfl rfl rfl ?_
  refine xr_getp (pc' := 11) rfl rfl (by decide) rfl rfl rfl ?_
  refine xi_iload_n (pc' := 12) rfl rfl rfl ?_
  refine xr_ialdv (v := nI (0)) (j := m) (pc' := 13) rfl rfl (by decide) (by first | rfl | (simp only [ix_add, ix_mul, ix_pred]; done) | (simp only [ix_add, ix_mul, ix_pred, *]; done)) (by omega) (by decide) (hk) rfl ?_
  refine xi_switch (off := .ofNat 31) (pc' := 44) rfl (by decide) (by decide) rfl ?_
  refine xi_iconst (pc' := 45) rfl rfl ?_
  refine xi_bipush (pc' := 47) rfl (by decide) rfl ?_
  refine xi_iload_n (pc' := 48) rfl rfl rfl ?_
  refine xi_iconst (pc' := 49) rfl rfl ?_
  refine xi_iadd (pc' := 50) rfl rfl ?_
  refine xi_imul (pc' := 51) rfl rfl ?_
  refine xi_bipush (pc' := 53) rfl (by decide) rfl ?_
  refine xi_iadd (pc' := 54) rfl rfl ?_
  refine xi_imul (pc' := 55) rfl rfl ?_
  refine xx_ireturn rfl rfl ?_
  simp only [ex_P, Classical.not_not, ↓reduceIte, Nat.add_zero, or_true, true_or, not_true_eq_false, not_false_eq_true, or_false, false_or, wI_get, false_and, true_and, and_true, and_false, and_self, Nat.reduceEqDiff, Nat.succ_ne_zero, reduceCtorEq, nI_lit, nI_lit0, Nat.reduceLT] at *
  first | (simp only [r_len, *, ↓reduceIte, Nat.add_zero, or_true, true_or, not_true_eq_false, not_false_eq_true, or_false, false_or, wI_get, false_and, true_and, and_true, and_false, and_self, Nat.reduceEqDiff, Nat.succ_ne_zero, reduceCtorEq, nI_lit, nI_lit0, Nat.reduceLT]; done) | (exfalso; simp_all only [↓reduceIte, Nat.add_zero, or_true, true_or, not_true_eq_false, not_false_eq_true, or_false, false_or, wI_get, false_and, true_and, and_true, and_false, and_self, Nat.reduceEqDiff, Nat.succ_ne_zero, reduceCtorEq, nI_lit, nI_lit0, Nat.reduceLT]; done)
theorem r_len_1 {L : Nat} {xs : Nat → Int32} {D n : Nat} {I J : ex_Mem} {m : Nat} (hm : m < 8) (hk : J 69 m = nI 1) : ri L xs D 103 [.ref 52, .int (nI m)] (mkH n I J) (r_len J m) (mkH n I J) := by
  show xx cb_G _ _ _ 103 0 [.ref 52, .int (nI m), ex_no] [] _ _
  refine xi_aload_n (pc' := 1) rfl rfl rfl ?_
  refine xr_getp (pc' := 4) rfl rfl (by decide) rfl rfl rfl ?_
  refine xi_iload_n (pc' := 5) rfl rfl rfl ?_
  refine xr_iald (j := m) (pc' := 6) rfl rfl (by decide) (by first | rfl | (simp only [ix_add, ix_mul, ix_pred]; done) | (simp only [ix_add, ix_mul, ix_pred, *]; done)) (by omega) (by decide) rfl ?_
  refine xi_istore_n (pc' := 7) rfl (st1_2 rfl) rfl ?_
  refine xi_aload_n (pc' := 8) rfl rfl rfl ?_
  refine xr_getp (pc' := 11) rfl rfl (by decide) rfl rfl rfl ?_
  refine xi_iload_n (pc' := 12) rfl rfl rfl ?_
  refine xr_ialdv (v := nI (1)) (j := m) (pc' := 13) rfl rfl (by decide) (by first | rfl | (simp only [ix_add, ix_mul, ix_pred]; done) | (simp only [ix_add, ix_mul, ix_pred, *]; done)) (by omega) (by decide) (hk) rfl ?_
  refine xi_switch (off := .ofNat 31) (pc' := 44) rfl (by decide) (by decide) rfl ?_
  refine xi_iconst (pc' := 45) rfl rfl ?_
  refine xi_bipush (pc' := 47) rfl (by decide) rfl ?_
  refine xi_iload_n (pc' := 48) rfl rfl rfl ?_
  refine xi_iconst (pc' := 49) rfl rfl ?_
  refine xi_iadd (pc' := 50) rfl rfl ?_
  refine xi_imul (pc' := 51) rfl rfl ?_
  refine xi_bipush (pc' := 53) rfl (by decide) rfl ?_
  refine xi_iadd (pc' := 54) rfl rfl ?_
  refine xi_imul (pc' := 55) rfl rfl ?_
  refine xx_ireturn rfl rfl ?_
  simp only [ex_P, Classical.not_not, ↓reduceIte, Nat.add_zero, or_true, true_or, not_true_eq_false, not_false_eq_true, or_false, false_or, wI_get, false_and, true_and, and_true, and_false, and_self, Nat.reduceEqDiff, Nat.succ_ne_zero, reduceCtorEq, nI_lit, nI_lit0, Nat.reduceLT] at *
  first | (simp only [r_len, *, ↓reduceIte, Nat.add_zero, or_true, true_or, not_true_eq_false, not_false_eq_true, or_false, false_or, wI_get, false_and, true_and, and_true, and_false, and_self, Nat.reduceEqDiff, Nat.succ_ne_zero, reduceCtorEq, nI_lit, nI_lit0, Nat.reduceLT]; done) | (exfalso; simp_all only [↓reduceIte, Nat.add_zero, or_true, true_or, not_true_eq_false, not_false_eq_true, or_false, false_or, wI_get, false_and, true_and, and_true, and_false, and_self, Nat.reduceEqDiff, Nat.succ_ne_zero, reduceCtorEq, nI_lit, nI_lit0, Nat.reduceLT]; done)
theorem r_len_2 {L : Nat} {xs : Nat → Int32} {D n : Nat} {I J : ex_Mem} {m : Nat} (hm : m < 8) (hk : J 69 m = nI 2) : ri L xs D 103 [.ref 52, .int (nI m)] (mkH n I J) (r_len J m) (mkH n I J) := by
  show xx cb_G _ _ _ 103 0 [.ref 52, .int (nI m), ex_no] [] _ _
  refine xi_aload_n (pc' := 1) rfl rfl rfl ?_
  refine xr_getp (pc' := 4) rfl rfl (by decide) rfl rfl rfl ?_
  refine xi_iload_n (pc' := 5) rfl rfl rfl ?_
  refine xr_iald (j := m) (pc' := 6) rfl rfl (by decide) (by first | rfl | (simp only [ix_add, ix_mul, ix_pred]; done) | (simp only [ix_add, ix_mul, ix_pred, *]; done)) (by omega) (by decide) rfl ?_
  refine xi_istore_n (pc' := 7) rfl (st1_2 rfl) rfl ?_
  refine xi_aload_n (pc' := 8) rfl rfl rfl ?_
  refine xr_getp (pc' := 11) rfl rfl (by decide) rfl rfl rfl ?_
  refine xi_iload_n (pc' := 12) rfl rfl rfl ?_
  refine xr_ialdv (v := nI (2)) (j := m) (pc' := 13) rfl rfl (by decide) (by first | rfl | (simp only [ix_add, ix_mul, ix_pred]; done) | (simp only [ix_add, ix_mul, ix_pred, *]; done)) (by omega) (by decide) (hk) rfl ?_
  refine xi_switch (off := .ofNat 43) (pc' := 56) rfl (by decide) (by decide) rfl ?_
  refine xi_iconst (pc' := 57) rfl rfl ?_
  refine xi_bipush (pc' := 59) rfl (by decide) rfl ?_
  refine xi_iload_n (pc' := 60) rfl rfl rfl ?_
  refine xi_iconst (pc' := 61) rfl rfl ?_
  refine xi_iadd (pc' := 62) rfl rfl ?_
  refine xi_imul (pc' := 63) rfl rfl ?_
  refine xi_bipush (pc' := 65) rfl (by decide) rfl ?_
  refine xi_iadd (pc' := 66) rfl rfl ?_
  refine xi_imul (pc' := 67) rfl rfl ?_
  refine xx_ireturn rfl rfl ?_
  simp only [ex_P, Classical.not_not, ↓reduceIte, Nat.add_zero, or_true, true_or, not_true_eq_false, not_false_eq_true, or_false, false_or, wI_get, false_and, true_and, and_true, and_false, and_self, Nat.reduceEqDiff, Nat.succ_ne_zero, reduceCtorEq, nI_lit, nI_lit0, Nat.reduceLT] at *
  first | (simp only [r_len, *, ↓reduceIte, Nat.add_zero, or_true, true_or, not_true_eq_false, not_false_eq_true, or_false, false_or, wI_get, false_and, true_and, and_true, and_false, and_self, Nat.reduceEqDiff, Nat.succ_ne_zero, reduceCtorEq, nI_lit, nI_lit0, Nat.reduceLT]; done) | (exfalso; simp_all only [↓reduceIte, Nat.add_zero, or_true, true_or, not_true_eq_false, not_false_eq_true, or_false, false_or, wI_get, false_and, true_and, and_true, and_false, and_self, Nat.reduceEqDiff, Nat.succ_ne_zero, reduceCtorEq, nI_lit, nI_lit0, Nat.reduceLT]; done)
theorem r_len_3 {L : Nat} {xs : Nat → Int32} {D n : Nat} {I J : ex_Mem} {m : Nat} (hm : m < 8) (hk : J 69 m = nI 3) : ri L xs D 103 [.ref 52, .int (nI m)] (mkH n I J) (r_len J m) (mkH n I J) := by
  show xx cb_G _ _ _ 103 0 [.ref 52, .int (nI m), ex_no] [] _ _
  refine xi_aload_n (pc' := 1) rfl rfl rfl ?_
  refine xr_getp (pc' := 4) rfl rfl (by decide) rfl rfl rfl ?_
  refine xi_iload_n (pc' := 5) rfl rfl rfl ?_
  refine xr_iald (j := m) (pc' := 6) rfl rfl (by decide) (by first | rfl | (simp only [ix_add, ix_mul, ix_pred]; done) | (simp only [ix_add, ix_mul, ix_pred, *]; done)) (by omega) (by decide) rfl ?_
  refine xi_istore_n (pc' := 7) rfl (st1_2 rfl) rfl ?_
  refine xi_aload_n (pc' := 8) rfl rfl rfl ?_
  refine xr_getp (pc' := 11) rfl rfl (by decide) rfl rfl rfl ?_
  refine xi_iload_n (pc' := 12) rfl rfl rfl ?_
  refine xr_ialdv (v := nI (3)) (j := m) (pc' := 13) rfl rfl (by decide) (by first | rfl | (simp only [ix_add, ix_mul, ix_pred]; done) | (simp only [ix_add, ix_mul, ix_pred, *]; done)) (by omega) (by decide) (hk) rfl ?_
  refine xi_switch (off := .ofNat 55) (pc' := 68) rfl (by decide) (by decide) rfl ?_
  refine xi_bipush (pc' := 70) rfl (by decide) rfl ?_
  refine xi_iload_n (pc' := 71) rfl rfl rfl ?_
  refine xi_iconst (pc' := 72) rfl rfl ?_
  refine xi_iadd (pc' := 73) rfl rfl ?_
  refine xi_imul (pc' := 74) rfl rfl ?_
  refine xx_ireturn rfl rfl ?_
  simp only [ex_P, Classical.not_not, ↓reduceIte, Nat.add_zero, or_true, true_or, not_true_eq_false, not_false_eq_true, or_false, false_or, wI_get, false_and, true_and, and_true, and_false, and_self, Nat.reduceEqDiff, Nat.succ_ne_zero, reduceCtorEq, nI_lit, nI_lit0, Nat.reduceLT] at *
  first | (simp only [r_len, *, ↓reduceIte, Nat.add_zero, or_true, true_or, not_true_eq_false, not_false_eq_true, or_false, false_or, wI_get, false_and, true_and, and_true, and_false, and_self, Nat.reduceEqDiff, Nat.succ_ne_zero, reduceCtorEq, nI_lit, nI_lit0, Nat.reduceLT]; done) | (exfalso; simp_all only [↓reduceIte, Nat.add_zero, or_true, true_or, not_true_eq_false, not_false_eq_true, or_false, false_or, wI_get, false_and, true_and, and_true, and_false, and_self, Nat.reduceEqDiff, Nat.succ_ne_zero, reduceCtorEq, nI_lit, nI_lit0, Nat.reduceLT]; done)
theorem r_len_4 {L : Nat} {xs : Nat → Int32} {D n : Nat} {I J : ex_Mem} {m : Nat} (hm : m < 8) (hk : J 69 m = nI 4) : ri L xs D 103 [.ref 52, .int (nI m)] (mkH n I J) (r_len J m) (mkH n I J) := by
  show xx cb_G _ _ _ 103 0 [.ref 52, .int (nI m), ex_no] [] _ _
  refine xi_aload_n (pc' := 1) rfl rfl rfl ?_
  refine xr_getp (pc' := 4) rfl rfl (by decide) rfl rfl rfl ?_
  refine xi_iload_n (pc' := 5) rfl rfl rfl ?_
  refine xr_iald (j := m) (pc' := 6) rfl rfl (by decide) (by first | rfl | (simp only [ix_add, ix_mul, ix_pred]; done) | (simp only [ix_add, ix_mul, ix_pred, *]; done)) (by omega) (by decide) rfl ?_
  refine xi_istore_n (pc' := 7) rfl (st1_2 rfl) rfl ?_
  refine xi_aload_n (pc' := 8) rfl rfl rfl ?_
  refine xr_getp (pc' := 11) rfl rfl (by decide) rfl rfl rfl ?_
  refine xi_iload_n (pc' := 12) rfl rfl rfl ?_
  refine xr_ialdv (v := nI (4)) (j := m) (pc' := 13) rfl rfl (by decide) (by first | rfl | (simp only [ix_add, ix_mul, ix_pred]; done) | (simp only [ix_add, ix_mul, ix_pred, *]; done)) (by omega) (by decide) (hk) rfl ?_
  refine xi_switchD (pc' := 75) rfl (by decide) rfl ?_
  refine xi_iconst (pc' := 76) rfl rfl ?_
  refine xi_bipush (pc' := 78) rfl (by decide) rfl ?_
  refine xi_iload_n (pc' := 79) rfl rfl rfl ?_
  refine xi_bipush (pc' := 81) rfl (by decide) rfl ?_
  refine xx_icmp (pc' := 84) (tg := 88) rfl rfl rfl (fun q81 => ?_) (fun q81 => ?_)
  · refine xi_iconst (pc' := 89) rfl rfl ?_
    refine xi_imul (pc' := 90) rfl rfl ?_
    refine xi_bipush (pc' := 92) rfl (by decide) rfl ?_
    refine xi_iadd (pc' := 93) rfl rfl ?_
    refine xi_imul (pc' := 94) rfl rfl ?_
    refine xx_ireturn rfl rfl ?_
    simp only [ex_P, Classical.not_not, ↓reduceIte, Nat.add_zero, or_true, true_or, not_true_eq_false, not_false_eq_true, or_false, false_or, wI_get, false_and, true_and, and_true, and_false, and_self, Nat.reduceEqDiff, Nat.succ_ne_zero, reduceCtorEq, nI_lit, nI_lit0, Nat.reduceLT] at *
    first | (simp only [r_len, *, ↓reduceIte, Nat.add_zero, or_true, true_or, not_true_eq_false, not_false_eq_true, or_false, false_or, wI_get, false_and, true_and, and_true, and_false, and_self, Nat.reduceEqDiff, Nat.succ_ne_zero, reduceCtorEq, nI_lit, nI_lit0, Nat.reduceLT]; done) | (exfalso; simp_all only [↓reduceIte, Nat.add_zero, or_true, true_or, not_true_eq_false, not_false_eq_true, or_false, false_or, wI_get, false_and, true_and, and_true, and_false, and_self, Nat.reduceEqDiff, Nat.succ_ne_zero, reduceCtorEq, nI_lit, nI_lit0, Nat.reduceLT]; done)
  · refine xi_iconst (pc' := 85) rfl rfl ?_
    refine xi_goto (pc' := 89) rfl rfl ?_
    refine xi_imul (pc' := 90) rfl rfl ?_
    refine xi_bipush (pc' := 92) rfl (by decide) rfl ?_
    refine xi_iadd (pc' := 93) rfl rfl ?_
    refine xi_imul (pc' := 94) rfl rfl ?_
    refine xx_ireturn rfl rfl ?_
    simp only [ex_P, Classical.not_not, ↓reduceIte, Nat.add_zero, or_true, true_or, not_true_eq_false, not_false_eq_true, or_false, false_or, wI_get, false_and, true_and, and_true, and_false, and_self, Nat.reduceEqDiff, Nat.succ_ne_zero, reduceCtorEq, nI_lit, nI_lit0, Nat.reduceLT] at *
    first | (simp only [r_len, *, ↓reduceIte, Nat.add_zero, or_true, true_or, not_true_eq_false, not_false_eq_true, or_false, false_or, wI_get, false_and, true_and, and_true, and_false, and_self, Nat.reduceEqDiff, Nat.succ_ne_zero, reduceCtorEq, nI_lit, nI_lit0, Nat.reduceLT]; done) | (exfalso; simp_all only [↓reduceIte, Nat.add_zero, or_true, true_or, not_true_eq_false, not_false_eq_true, or_false, false_or, wI_get, false_and, true_and, and_true, and_false, and_self, Nat.reduceEqDiff, Nat.succ_ne_zero, reduceCtorEq, nI_lit, nI_lit0, Nat.reduceLT]; done)
theorem r_len_ok {L : Nat} {xs : Nat → Int32} {D n : Nat} {I J : ex_Mem} {m : Nat} (hm : m < 8) (hv : vMsg J m) : ri L xs D 103 [.ref 52, .int (nI m)] (mkH n I J) (r_len J m) (mkH n I J) := by
  obtain ⟨k1, k2, -⟩ := hv
  rcases (by omega : tk J 69 m = 0 ∨ tk J 69 m = 1 ∨ tk J 69 m = 2 ∨ tk J 69 m = 3 ∨ tk J 69 m = 4) with h | h | h | h | h <;> rw [h] at k1
  · exact r_len_0 hm k1
  · exact r_len_1 hm k1
  · exact r_len_2 hm k1
  · exact r_len_3 hm k1
  · exact r_len_4 hm k1
/-- a message's period -/
def vPer (J : ex_Mem) (m : Nat) : Prop := J 74 m = nI (tk J 74 m) ∧ (tk J 74 m = 1 ∨ tk J 74 m = 2 ∨ tk J 74 m = 4)
def r_isIn (J : ex_Mem) (m f : Nat) : Int32 := if nI (f % tk J 74 m) = J 75 m then nI 1 else nI 0
theorem r_isIn_ok {L : Nat} {xs : Nat → Int32} {D n : Nat} {I J : ex_Mem} {m f : Nat} (hm : m < 8) (hf : f < 4) (hp : vPer J m) : ri L xs D 102 [.ref 52, .int (nI m), .int (nI f)] (mkH n I J) (r_isIn J m f) (mkH n I J) := by
  show xx cb_G _ _ _ 102 0 [.ref 52, .int (nI m), .int (nI f)] [] _ _
  refine xi_iload_n (pc' := 1) rfl rfl rfl ?_
  refine xi_aload_n (pc' := 2) rfl rfl rfl ?_
  refine xr_getp (pc' := 5) rfl rfl (by decide) rfl rfl rfl ?_
  refine xi_iload_n (pc' := 6) rfl rfl rfl ?_
  refine xr_ialdv (v := nI (tk J 74 m)) (j := m) (pc' := 7) rfl rfl (by decide) (by first | rfl | (simp only [ix_add, ix_mul, ix_pred]; done) | (simp only [ix_add, ix_mul, ix_pred, *]; done)) (by omega) (by decide) (hp.1) rfl ?_
  refine xi_irem (pc' := 8) rfl (nI_ne0 (by have := hp.2; omega) (by have := hp.2; omega)) rfl ?_
  refine xx_topi (y := nI (f % tk J 74 m)) (ix_rem (by omega) (by have := hp.2; omega) (by have := hp.2; omega)) ?_
  refine xi_aload_n (pc' := 9) rfl rfl rfl ?_
  refine xr_getp (pc' := 12) rfl rfl (by decide) rfl rfl rfl ?_
  refine xi_iload_n (pc' := 13) rfl rfl rfl ?_
  refine xr_iald (j := m) (pc' := 14) rfl rfl (by decide) (by first | rfl | (simp only [ix_add, ix_mul, ix_pred]; done) | (simp only [ix_add, ix_mul, ix_pred, *]; done)) (by omega) (by decide) rfl ?_
  refine xx_icmp (pc' := 17) (tg := 21) rfl rfl rfl (fun q14 => ?_) (fun q14 => ?_)
  · refine xi_iconst (pc' := 22) rfl rfl ?_
    refine xx_zreturn rfl rfl (by first | rfl | assumption | exact b01_bI | simp [ex_b01, bI]) ?_
    simp only [ex_P, Classical.not_not, ↓reduceIte, Nat.add_zero, or_true, true_or, not_true_eq_false, not_false_eq_true, or_false, false_or, wI_get, false_and, true_and, and_true, and_false, and_self, Nat.reduceEqDiff, Nat.succ_ne_zero, reduceCtorEq, nI_lit, nI_lit0, Nat.reduceLT] at *
    first | (simp only [r_isIn, *, ↓reduceIte, Nat.add_zero, or_true, true_or, not_true_eq_false, not_false_eq_true, or_false, false_or, wI_get, false_and, true_and, and_true, and_false, and_self, Nat.reduceEqDiff, Nat.succ_ne_zero, reduceCtorEq, nI_lit, nI_lit0, Nat.reduceLT]; done) | (exfalso; simp_all only [↓reduceIte, Nat.add_zero, or_true, true_or, not_true_eq_false, not_false_eq_true, or_false, false_or, wI_get, false_and, true_and, and_true, and_false, and_self, Nat.reduceEqDiff, Nat.succ_ne_zero, reduceCtorEq, nI_lit, nI_lit0, Nat.reduceLT]; done)
  · refine xi_iconst (pc' := 18) rfl rfl ?_
    refine xi_goto (pc' := 22) rfl rfl ?_
    refine xx_zreturn rfl rfl (by first | rfl | assumption | exact b01_bI | simp [ex_b01, bI]) ?_
    simp only [ex_P, Classical.not_not, ↓reduceIte, Nat.add_zero, or_true, true_or, not_true_eq_false, not_false_eq_true, or_false, false_or, wI_get, false_and, true_and, and_true, and_false, and_self, Nat.reduceEqDiff, Nat.succ_ne_zero, reduceCtorEq, nI_lit, nI_lit0, Nat.reduceLT] at *
    first | (simp only [r_isIn, *, ↓reduceIte, Nat.add_zero, or_true, true_or, not_true_eq_false, not_false_eq_true, or_false, false_or, wI_get, false_and, true_and, and_true, and_false, and_self, Nat.reduceEqDiff, Nat.succ_ne_zero, reduceCtorEq, nI_lit, nI_lit0, Nat.reduceLT]; done) | (exfalso; simp_all only [↓reduceIte, Nat.add_zero, or_true, true_or, not_true_eq_false, not_false_eq_true, or_false, false_or, wI_get, false_and, true_and, and_true, and_false, and_self, Nat.reduceEqDiff, Nat.succ_ne_zero, reduceCtorEq, nI_lit, nI_lit0, Nat.reduceLT]; done)
def r_load (J : ex_Mem) (f : Nat) : Nat → Int32
  | 0 => nI 0
  | m + 1 => r_load J f m + (if r_isIn J m f = 0 then nI 0 else r_len J m)
theorem r_load_loop {L : Nat} {xs : Nat → Int32} {D n : Nat} {I J : ex_Mem} {f nm : Nat} (hf : f < 4) (h8 : nm ≤ 8) (hv : ∀ m, m < nm → vMsg J m) (hp : ∀ m, m < nm → vPer J m) : ∀ (j m : Nat), m + j = nm → xx cb_G L xs (D + 1) 101 5 [.ref 52, .int (nI f), .int (nI nm), .int (r_load J f m), .int (nI m)] [] (mkH n I J) (fun r h => r = some (.int (r_load J f nm)) ∧ h = mkH n I J) := by
  intro j
  induction j with
  | zero =>
    intro m hm
    have hm : m = nm := by omega
    subst hm
    refine xi_iload (pc' := 7) rfl rfl rfl ?_
    refine xi_iload_n (pc' := 8) rfl rfl rfl ?_
    refine xx_icmp (pc' := 11) (tg := 40) rfl rfl rfl (fun q8 => ?_) (fun q8 => absurd (show ex_P .ge (nI m) (nI m) from Int32.le_refl _) q8)
    refine xi_iload_n (pc' := 41) rfl rfl rfl ?_
    refine xx_ireturn rfl rfl ?_
    exact ⟨rfl, rfl⟩
  | succ j ih =>
    intro m hm
    refine xi_iload (pc' := 7) rfl rfl rfl ?_
    refine xi_iload_n (pc' := 8) rfl rfl rfl ?_
    refine xx_icmp (pc' := 11) (tg := 40) rfl rfl rfl (fun q8 => absurd q8 (show ¬ ex_P .ge (nI m) (nI nm) from nI_ge (by omega) (by omega))) (fun q8 => ?_)
    refine xi_iload_n (pc' := 12) rfl rfl rfl ?_
    refine xi_aload_n (pc' := 13) rfl rfl rfl ?_
    refine xi_iload (pc' := 15) rfl rfl rfl ?_
    refine xi_iload_n (pc' := 16) rfl rfl rfl ?_
    refine xx_callVi (pc' := 19) rfl rfl (by decide) rfl rfl (by show _ < 81 + 2 * _; omega) (Nat.le_of_ble_eq_true rfl) rfl rfl (r_isIn_ok (by omega) hf (hp m (by omega))) ?_
    refine xx_if (pc' := 22) (tg := 31) rfl rfl rfl (fun q19 => ?_) (fun q19 => ?_)
    · refine xi_iconst (pc' := 32) rfl rfl ?_
      refine xi_iadd (pc' := 33) rfl rfl ?_
      refine xi_istore_n (pc' := 34) rfl (st1_3 rfl) rfl ?_
      refine xi_iincv (y := nI (m + 1)) (pc' := 37) rfl rfl (ix_add _ _) (st1_4 rfl) rfl ?_
      refine xi_goto (pc' := 5) rfl rfl ?_
      have e := ih (m + 1) (by omega)
      rw [show r_load J f (m + 1) = r_load J f m + (if r_isIn J m f = 0 then nI 0 else r_len J m) from rfl] at e
      simp only [ex_P] at q19
      simp only [q19, ↓reduceIte] at e
      exact e
    · refine xi_aload_n (pc' := 23) rfl rfl rfl ?_
      refine xi_iload (pc' := 25) rfl rfl rfl ?_
      refine xx_callVi (pc' := 28) rfl rfl (by decide) rfl rfl (by show _ < 81 + 2 * _; omega) (Nat.le_of_ble_eq_true rfl) rfl rfl (r_len_ok (by omega) (hv m (by omega))) ?_
      refine xi_goto (pc' := 32) rfl rfl ?_
      refine xi_iadd (pc' := 33) rfl rfl ?_
      refine xi_istore_n (pc' := 34) rfl (st1_3 rfl) rfl ?_
      refine xi_iincv (y := nI (m + 1)) (pc' := 37) rfl rfl (ix_add _ _) (st1_4 rfl) rfl ?_
      refine xi_goto (pc' := 5) rfl rfl ?_
      have e := ih (m + 1) (by omega)
      rw [show r_load J f (m + 1) = r_load J f m + (if r_isIn J m f = 0 then nI 0 else r_len J m) from rfl] at e
      simp only [ex_P] at q19
      simp only [q19, ↓reduceIte] at e
      exact e
theorem r_loadOf_ok {L : Nat} {xs : Nat → Int32} {D n : Nat} {I J : ex_Mem} {f nm : Nat} (hf : f < 4) (h8 : nm ≤ 8) (hv : ∀ m, m < nm → vMsg J m) (hp : ∀ m, m < nm → vPer J m) : ri L xs (D + 1) 101 [.ref 52, .int (nI f), .int (nI nm)] (mkH n I J) (r_load J f nm) (mkH n I J) := by
  show xx cb_G _ _ _ 101 0 [.ref 52, .int (nI f), .int (nI nm), ex_no, ex_no] [] _ _
  refine xi_iconst (pc' := 1) rfl rfl ?_
  refine xi_istore_n (pc' := 2) rfl (st1_3 rfl) rfl ?_
  refine xi_iconst (pc' := 3) rfl rfl ?_
  refine xi_istore (pc' := 5) rfl (st1_4 rfl) rfl ?_
  exact r_load_loop hf h8 hv hp nm 0 (by omega)
