theorem c_find1 {L : Nat} {xs : Nat → Int32} {D n : Nat} {I J : ex_Mem} {m : Nat} (h8 : n ≤ 8) (hm : m < n) (hcn : I 44 2 = nI n) : rp L xs D 61 [.ref 44, .int (nI m)] (mkH n I J) (some (81 + 2 * m)) (mkH n I J) := by
  show xx cb_G _ _ _ 61 0 [.ref 44, .int (nI m)] [] _ _
  refine xi_iload_n (pc' := 1) rfl rfl rfl ?_
  refine xx_if (pc' := 4) (tg := 21) rfl rfl rfl (fun q1 => absurd q1 (show ¬ ex_P .lt (nI m) 0 from nI_pos (by omega))) (fun q1 => ?_)
  refine xi_iload_n (pc' := 5) rfl rfl rfl ?_
  refine xi_aload_n (pc' := 6) rfl rfl rfl ?_
  refine xc_getiv (v := nI (n)) (pc' := 9) rfl rfl (by decide) rfl (by decide) (by omega) (by decide) (by decide) (hcn) rfl ?_
  refine xx_icmp (pc' := 12) (tg := 21) rfl rfl rfl (fun q9 => absurd q9 (show ¬ ex_P .ge (nI m) (nI n) from nI_ge (by omega) (by omega))) (fun q9 => ?_)
  refine xi_aload_n (pc' := 13) rfl rfl rfl ?_
  refine xc_getp (pc' := 16) rfl rfl (by decide) rfl (by omega) (by decide) rfl rfl rfl ?_
  refine xi_iload_n (pc' := 17) rfl rfl rfl ?_
  refine xc_aald (j := m) (pc' := 18) rfl rfl (by omega) (by first | rfl | (simp only [ix_add, ix_mul, ix_pred]; done) | (simp only [ix_add, ix_mul, ix_pred, *]; done)) (by omega) (by decide) (pd_45 hm) rfl ?_
  refine xi_goto (pc' := 22) rfl rfl ?_
  refine xx_areturn (x := some (81 + 2 * m)) rfl rfl ?_
  exact ⟨rfl, rfl⟩
theorem c_find0 {L : Nat} {xs : Nat → Int32} {D n : Nat} {I J : ex_Mem} {m : Int32} (h8 : n ≤ 8) (hcn : I 44 2 = nI n) (h : ¬ vM n m) : rp L xs D 61 [.ref 44, .int m] (mkH n I J) (none) (mkH n I J) := by
  show xx cb_G _ _ _ 61 0 [.ref 44, .int m] [] _ _
  refine xi_iload_n (pc' := 1) rfl rfl rfl ?_
  refine xx_if (pc' := 4) (tg := 21) rfl rfl rfl (fun q1 => ?_) (fun q1 => ?_)
  · refine xi_null (pc' := 22) rfl rfl ?_
    refine xx_areturn (x := none) rfl rfl ?_
    exact ⟨rfl, rfl⟩
  · refine xi_iload_n (pc' := 5) rfl rfl rfl ?_
    refine xi_aload_n (pc' := 6) rfl rfl rfl ?_
    refine xc_getiv (v := nI (n)) (pc' := 9) rfl rfl (by decide) rfl (by decide) (by omega) (by decide) (by decide) (hcn) rfl ?_
    refine xx_icmp (pc' := 12) (tg := 21) rfl rfl rfl (fun q9 => ?_) (fun q9 => absurd (show ex_P .ge m (nI n) from by simp only [ex_P, vM, Int32.lt_iff_toInt_lt, Int32.le_iff_toInt_le, Int32.toInt_zero] at *; omega) q9)
    refine xi_null (pc' := 22) rfl rfl ?_
    refine xx_areturn (x := none) rfl rfl ?_
    exact ⟨rfl, rfl⟩
theorem c_takeFrame {L : Nat} {xs : Nat → Int32} {D n : Nat} {I J : ex_Mem} {f : Nat} (hf : f < 4) (hfr : I 44 3 = nI f) : ri L xs D 66 [.ref 44] (mkH n I J) (nI f) (mkH n (q_tf I f) J) := by
  show xx cb_G _ _ _ 66 0 [.ref 44, ex_no] [] _ _
  refine xi_aload_n (pc' := 1) rfl rfl rfl ?_
  refine xc_getiv (v := nI (f)) (pc' := 4) rfl rfl (by decide) rfl (by decide) (by omega) (by decide) (by decide) (hfr) rfl ?_
  refine xi_istore_n (pc' := 5) rfl (st1_1 rfl) rfl ?_
  refine xi_aload_n (pc' := 6) rfl rfl rfl ?_
  refine xi_aload_n (pc' := 7) rfl rfl rfl ?_
  refine xc_getiv (v := nI (f)) (pc' := 10) rfl rfl (by decide) rfl (by decide) (by omega) (by decide) (by decide) (hfr) rfl ?_
  refine xi_iconst (pc' := 11) rfl rfl ?_
  refine xi_iadd (pc' := 12) rfl rfl ?_
  refine xx_topi (y := nI (f + 1)) (ix_add f 1) ?_
  refine xi_iconst (pc' := 13) rfl rfl ?_
  refine xi_irem (pc' := 14) rfl (by decide) rfl ?_
  refine xx_topi (y := nI ((f + 1) % 4)) (ix_rem (by omega) (by decide) (by decide)) ?_
  refine xc_puti (pc' := 17) rfl rfl (by decide) rfl (by decide) (by omega) (by decide) (Or.inl rfl) rfl ?_
  refine xi_iload_n (pc' := 18) rfl rfl rfl ?_
  refine xx_ireturn rfl rfl ?_
  exact ⟨rfl, rfl⟩
theorem c_fill_loop0 {L : Nat} {xs : Nat → Int32} {D n : Nat} {I J : ex_Mem}  : ∀ (j k : Nat), k + j = 4 → xx cb_G L xs D 136 5 [.ref 46, .int (nI 0), .int (nI k), .int (nI 4)] [] (mkH n (q_z I k) J) (fun r h => r = none ∧ h = mkH n (q_z I 4) J) := by
  intro j
  induction j with
  | zero =>
    intro k hk
    have hk : k = 4 := by omega
    subst hk
    refine xi_iload_n (pc' := 6) rfl rfl rfl ?_
    refine xi_iload_n (pc' := 7) rfl rfl rfl ?_
    refine xx_icmp (pc' := 10) (tg := 20) rfl rfl rfl (fun q7 => ?_) (fun q7 => absurd (show ex_P .ge (nI 4) (nI 4) from Int32.le_refl _) q7)
    refine xx_return rfl (by decide) ?_
    exact ⟨rfl, rfl⟩
  | succ j ih =>
    intro k hk
    refine xi_iload_n (pc' := 6) rfl rfl rfl ?_
    refine xi_iload_n (pc' := 7) rfl rfl rfl ?_
    refine xx_icmp (pc' := 10) (tg := 20) rfl rfl rfl (fun q7 => absurd q7 (show ¬ ex_P .ge (nI k) (nI 4) from nI_ge (by omega) (by decide))) (fun q7 => ?_)
    refine xi_aload_n (pc' := 11) rfl rfl rfl ?_
    refine xi_iload_n (pc' := 12) rfl rfl rfl ?_
    refine xi_iload_n (pc' := 13) rfl rfl rfl ?_
    refine xc_iast (j := k) (pc' := 14) rfl rfl (by decide) (by omega) (by first | rfl | (simp only [ix_add, ix_mul, ix_pred]; done) | (simp only [ix_add, ix_mul, ix_pred, *]; done)) (by omega) (by decide) rfl ?_
    refine xi_iincv (y := nI (k + 1)) (pc' := 17) rfl rfl (ix_add _ _) (st1_2 rfl) rfl ?_
    refine xi_goto (pc' := 5) rfl rfl ?_
    have e := ih (k + 1) (by omega)
    rw [show q_z I (k + 1) = ex_wI (q_z I k) 46 k (nI 0) from rfl] at e
    exact e
theorem c_fill0 {L : Nat} {xs : Nat → Int32} {D n : Nat} {I J : ex_Mem}  : ro L xs D 136 [.ref 46, .int (nI 0)] (mkH n I J) (mkH n (q_z I 4) J) := by
  show xx cb_G _ _ _ 136 0 [.ref 46, .int (nI 0), ex_no, ex_no] [] _ _
  refine xi_iconst (pc' := 1) rfl rfl ?_
  refine xi_istore_n (pc' := 2) rfl (st1_2 rfl) rfl ?_
  refine xi_aload_n (pc' := 3) rfl rfl rfl ?_
  refine xx_alen (pc' := 4) rfl rfl (by show _ < 81 + 2 * _; omega) (by decide) rfl ?_
  refine xi_istore_n (pc' := 5) rfl (st1_3 rfl) rfl ?_
  exact c_fill_loop0 4 0 (by omega)
theorem gl_s {I : ex_Mem} {m ph f : Nat} : q_gl I m ph (f + 1) = if q_at I m ph f = 0 then q_gl I m ph f else q_mx (q_gl I m ph f) (I 46 f) := rfl
theorem bp_s {I : ex_Mem} {m k : Nat} : q_bp I m (k + 1) = if q_gl I m (k + 1) 4 < q_gl I m (q_bp I m k) 4 then k + 1 else q_bp I m k := rfl
theorem al_s {I : ex_Mem} {m f : Nat} : q_al I m (f + 1) = if q_isIn (q_al I m f) m f = 0 then q_al I m f else ex_wI (q_al I m f) 46 f (q_al I m f 46 f + q_len I m) := rfl
theorem gr_s {S : ex_Mem} {f : Nat} : q_gr S (f + 1) = q_mx (q_gr S f) (S 46 f) := rfl
theorem ff_s {I : ex_Mem} {m : Nat} : q_ff I (m + 1) = q_al (ex_wI (q_ff I m) (81 + 2 * m) 7 (nI (q_bp (q_ff I m) m (tk (q_ff I m) (81 + 2 * m) 5 - 1)))) m 4 := rfl
theorem c_gl_loop {L : Nat} {xs : Nat → Int32} {D n : Nat} {I J : ex_Mem} {m ph : Nat} (h8 : n ≤ 8) (hm : m < n) : ∀ (j f : Nat), f + j = 4 → xx cb_G L xs (D + 1) 64 5 [.ref 44, .ref (81 + 2 * m), .int (nI ph), .int (q_gl I m ph f), .int (nI f)] [] (mkH n I J) (fun r h => r = some (.int (q_gl I m ph 4)) ∧ h = mkH n I J) := by
  intro j
  induction j with
  | zero =>
    intro f hf
    have hf : f = 4 := by omega
    subst hf
    refine xi_iload (pc' := 7) rfl rfl rfl ?_
    refine xi_iconst (pc' := 8) rfl rfl ?_
    refine xx_icmp (pc' := 11) (tg := 39) rfl rfl rfl (fun q8 => ?_) (fun q8 => absurd (show ex_P .ge (nI 4) (nI 4) from Int32.le_refl _) q8)
    refine xi_iload_n (pc' := 40) rfl rfl rfl ?_
    refine xx_ireturn rfl rfl ?_
    exact ⟨rfl, rfl⟩
  | succ j ih =>
    intro f hf
    refine xi_iload (pc' := 7) rfl rfl rfl ?_
    refine xi_iconst (pc' := 8) rfl rfl ?_
    refine xx_icmp (pc' := 11) (tg := 39) rfl rfl rfl (fun q8 => absurd q8 (show ¬ ex_P .ge (nI f) (nI 4) from nI_ge (by omega) (by decide))) (fun q8 => ?_)
    refine xi_aload_n (pc' := 12) rfl rfl rfl ?_
    refine xi_iload_n (pc' := 13) rfl rfl rfl ?_
    refine xi_iload (pc' := 15) rfl rfl rfl ?_
    refine xx_callVi (pc' := 18) rfl rfl (by decide) rfl (kd_M0 (Nat.lt_of_lt_of_le hm h8)) (by show _ < 81 + 2 * _; omega) (Nat.le_of_ble_eq_true rfl) rfl rfl (c_isAt h8 hm) ?_
    refine xx_if (pc' := 21) (tg := 33) rfl rfl rfl (fun q18 => ?_) (fun q18 => ?_)
    · refine xi_iincv (y := nI (f + 1)) (pc' := 36) rfl rfl (ix_add _ _) (st1_4 rfl) rfl ?_
      refine xi_goto (pc' := 5) rfl rfl ?_
      have e := ih (f + 1) (by omega)
      rw [gl_s] at e
      simp only [ex_P, Classical.not_not] at q18
      first | (rw [if_pos (show q_at I m ph f = 0 from q18)] at e; exact e) | (rw [if_neg (show ¬ q_at I m ph f = 0 from q18)] at e; exact e)
    · refine xi_iload_n (pc' := 22) rfl rfl rfl ?_
      refine xi_aload_n (pc' := 23) rfl rfl rfl ?_
      refine xc_getp (pc' := 26) rfl rfl (by decide) rfl (by omega) (by decide) rfl rfl rfl ?_
      refine xi_iload (pc' := 28) rfl rfl rfl ?_
      refine xc_iald (j := f) (pc' := 29) rfl rfl (by decide) (by omega) (by omega) (by first | rfl | (simp only [ix_add, ix_mul, ix_pred]; done) | (simp only [ix_add, ix_mul, ix_pred, *]; done)) (by omega) (by decide) rfl ?_
      refine xx_max (v := _) (pc' := 32) rfl rfl (Nat.le_of_ble_eq_true rfl) rfl rfl ?_
      refine xi_istore_n (pc' := 33) rfl (st1_3 rfl) rfl ?_
      refine xi_iincv (y := nI (f + 1)) (pc' := 36) rfl rfl (ix_add _ _) (st1_4 rfl) rfl ?_
      refine xi_goto (pc' := 5) rfl rfl ?_
      have e := ih (f + 1) (by omega)
      rw [gl_s] at e
      simp only [ex_P, Classical.not_not] at q18
      first | (rw [if_pos (show q_at I m ph f = 0 from q18)] at e; exact e) | (rw [if_neg (show ¬ q_at I m ph f = 0 from q18)] at e; exact e)
theorem c_greatest {L : Nat} {xs : Nat → Int32} {D n : Nat} {I J : ex_Mem} {m ph : Nat} (h8 : n ≤ 8) (hm : m < n) : ri L xs (D + 1) 64 [.ref 44, .ref (81 + 2 * m), .int (nI ph)] (mkH n I J) (q_gl I m ph 4) (mkH n I J) := by
  show xx cb_G _ _ _ 64 0 [.ref 44, .ref (81 + 2 * m), .int (nI ph), ex_no, ex_no] [] _ _
  refine xi_iconst (pc' := 1) rfl rfl ?_
  refine xi_istore_n (pc' := 2) rfl (st1_3 rfl) rfl ?_
  refine xi_iconst (pc' := 3) rfl rfl ?_
  refine xi_istore (pc' := 5) rfl (st1_4 rfl) rfl ?_
  exact c_gl_loop h8 hm 4 0 (by omega)
theorem c_bp_loop {L : Nat} {xs : Nat → Int32} {D n : Nat} {I J : ex_Mem} {m p : Nat} (h8 : n ≤ 8) (hm : m < n) (hp : I (81 + 2 * m) 5 = nI p) (hp4 : p ≤ 4) : ∀ (j k : Nat), k + 1 + j = p → xx cb_G L xs (D + 2) 63 4 [.ref 44, .ref (81 + 2 * m), .int (nI (q_bp I m k)), .int (nI (k + 1))] [] (mkH n I J) (fun r h => r = some (.int (nI (q_bp I m (p - 1)))) ∧ h = mkH n I J) := by
  intro j
  induction j with
  | zero =>
    intro k hk
    refine xi_iload_n (pc' := 5) rfl rfl rfl ?_
    refine xi_aload_n (pc' := 6) rfl rfl rfl ?_
    refine xc_getiv (v := nI (p)) (pc' := 9) rfl rfl (by decide) (kd_M0 (Nat.lt_of_lt_of_le hm h8)) (by omega) (by omega) (by decide) (by decide) (hp) rfl ?_
    refine xx_icmp (pc' := 12) (tg := 35) rfl rfl rfl (fun q9 => ?_) (fun q9 => absurd (show ex_P .ge (nI (k + 1)) (nI p) from by rw [show p = k + 1 by omega]; exact Int32.le_refl _) q9)
    refine xi_iload_n (pc' := 36) rfl rfl rfl ?_
    refine xx_ireturn rfl rfl ?_
    refine ⟨?_, rfl⟩
    rw [show p - 1 = k by omega]
  | succ j ih =>
    intro k hk
    refine xi_iload_n (pc' := 5) rfl rfl rfl ?_
    refine xi_aload_n (pc' := 6) rfl rfl rfl ?_
    refine xc_getiv (v := nI (p)) (pc' := 9) rfl rfl (by decide) (kd_M0 (Nat.lt_of_lt_of_le hm h8)) (by omega) (by omega) (by decide) (by decide) (hp) rfl ?_
    refine xx_icmp (pc' := 12) (tg := 35) rfl rfl rfl (fun q9 => absurd q9 (show ¬ ex_P .ge (nI (k + 1)) (nI p) from nI_ge (by omega) (by omega))) (fun q9 => ?_)
    refine xi_aload_n (pc' := 13) rfl rfl rfl ?_
    refine xi_aload_n (pc' := 14) rfl rfl rfl ?_
    refine xi_iload_n (pc' := 15) rfl rfl rfl ?_
    refine xx_callVi (pc' := 18) rfl rfl (by decide) rfl rfl (by show _ < 81 + 2 * _; omega) (Nat.le_of_ble_eq_true rfl) rfl rfl (c_greatest h8 hm) ?_
    refine xi_aload_n (pc' := 19) rfl rfl rfl ?_
    refine xi_aload_n (pc' := 20) rfl rfl rfl ?_
    refine xi_iload_n (pc' := 21) rfl rfl rfl ?_
    refine xx_callVi (pc' := 24) rfl rfl (by decide) rfl rfl (by show _ < 81 + 2 * _; omega) (Nat.le_of_ble_eq_true rfl) rfl rfl (c_greatest h8 hm) ?_
    refine xx_icmp (pc' := 27) (tg := 29) rfl rfl rfl (fun q24 => ?_) (fun q24 => ?_)
    · refine xi_iincv (y := nI (k + 1 + 1)) (pc' := 32) rfl rfl (ix_add _ _) (st1_3 rfl) rfl ?_
      refine xi_goto (pc' := 4) rfl rfl ?_
      have e := ih (k + 1) (by omega)
      rw [bp_s] at e
      simp only [ex_P, Classical.not_not] at q24
      first | (rw [if_neg (Int32.not_lt.mpr q24)] at e; exact e) | (rw [if_pos (Int32.not_le.mp q24)] at e; exact e)
    · refine xi_iload_n (pc' := 28) rfl rfl rfl ?_
      refine xi_istore_n (pc' := 29) rfl (st1_2 rfl) rfl ?_
      refine xi_iincv (y := nI (k + 1 + 1)) (pc' := 32) rfl rfl (ix_add _ _) (st1_3 rfl) rfl ?_
      refine xi_goto (pc' := 4) rfl rfl ?_
      have e := ih (k + 1) (by omega)
      rw [bp_s] at e
      simp only [ex_P, Classical.not_not] at q24
      first | (rw [if_neg (Int32.not_lt.mpr q24)] at e; exact e) | (rw [if_pos (Int32.not_le.mp q24)] at e; exact e)
theorem c_best {L : Nat} {xs : Nat → Int32} {D n : Nat} {I J : ex_Mem} {m p : Nat} (h8 : n ≤ 8) (hm : m < n) (hp : I (81 + 2 * m) 5 = nI p) (hp4 : p ≤ 4) (hp1 : 1 ≤ p) : ri L xs (D + 2) 63 [.ref 44, .ref (81 + 2 * m)] (mkH n I J) (nI (q_bp I m (p - 1))) (mkH n I J) := by
  show xx cb_G _ _ _ 63 0 [.ref 44, .ref (81 + 2 * m), ex_no, ex_no] [] _ _
  refine xi_iconst (pc' := 1) rfl rfl ?_
  refine xi_istore_n (pc' := 2) rfl (st1_2 rfl) rfl ?_
  refine xi_iconst (pc' := 3) rfl rfl ?_
  refine xi_istore_n (pc' := 4) rfl (st1_3 rfl) rfl ?_
  exact c_bp_loop h8 hm hp hp4 (p - 1) 0 (by omega)
theorem c_al_loop {L : Nat} {xs : Nat → Int32} {D n : Nat} {I J : ex_Mem} {m : Nat} (h8 : n ≤ 8) (hm : m < n) : ∀ (j f : Nat), f + j = 4 → xx cb_G L xs (D + 2) 65 7 [.ref 44, .ref (81 + 2 * m), .int (q_len I m), .int (nI f)] [] (mkH n (q_al I m f) J) (fun r h => r = none ∧ h = mkH n (q_al I m 4) J) := by
  intro j
  induction j with
  | zero =>
    intro f hf
    have hf : f = 4 := by omega
    subst hf
    refine xi_iload_n (pc' := 8) rfl rfl rfl ?_
    refine xi_iconst (pc' := 9) rfl rfl ?_
    refine xx_icmp (pc' := 12) (tg := 36) rfl rfl rfl (fun q9 => ?_) (fun q9 => absurd (show ex_P .ge (nI 4) (nI 4) from Int32.le_refl _) q9)
    refine xx_return rfl (by decide) ?_
    exact ⟨rfl, rfl⟩
  | succ j ih =>
    intro f hf
    refine xi_iload_n (pc' := 8) rfl rfl rfl ?_
    refine xi_iconst (pc' := 9) rfl rfl ?_
    refine xx_icmp (pc' := 12) (tg := 36) rfl rfl rfl (fun q9 => absurd q9 (show ¬ ex_P .ge (nI f) (nI 4) from nI_ge (by omega) (by decide))) (fun q9 => ?_)
    refine xi_aload_n (pc' := 13) rfl rfl rfl ?_
    refine xi_iload_n (pc' := 14) rfl rfl rfl ?_
    refine xx_callVi (pc' := 17) rfl rfl (by decide) rfl (kd_M0 (Nat.lt_of_lt_of_le hm h8)) (by show _ < 81 + 2 * _; omega) (Nat.le_of_ble_eq_true rfl) rfl rfl (c_isIn h8 hm) ?_
    refine xx_if (pc' := 20) (tg := 30) rfl rfl rfl (fun q17 => ?_) (fun q17 => ?_)
    · refine xi_iincv (y := nI (f + 1)) (pc' := 33) rfl rfl (ix_add _ _) (st1_3 rfl) rfl ?_
      refine xi_goto (pc' := 7) rfl rfl ?_
      have e := ih (f + 1) (by omega)
      rw [al_s] at e
      simp only [ex_P, Classical.not_not] at q17
      first | (rw [if_pos q17] at e; exact e) | (rw [if_neg q17] at e; exact e)
    · refine xi_aload_n (pc' := 21) rfl rfl rfl ?_
      refine xc_getp (pc' := 24) rfl rfl (by decide) rfl (by omega) (by decide) rfl rfl rfl ?_
      refine xi_iload_n (pc' := 25) rfl rfl rfl ?_
      refine xi_dup2 (pc' := 26) rfl rfl rfl rfl ?_
      refine xc_iald (j := f) (pc' := 27) rfl rfl (by decide) (by omega) (by omega) (by first | rfl | (simp only [ix_add, ix_mul, ix_pred]; done) | (simp only [ix_add, ix_mul, ix_pred, *]; done)) (by omega) (by decide) rfl ?_
      refine xi_iload_n (pc' := 28) rfl rfl rfl ?_
      refine xi_iadd (pc' := 29) rfl rfl ?_
      refine xc_iast (j := f) (pc' := 30) rfl rfl (by decide) (by omega) (by first | rfl | (simp only [ix_add, ix_mul, ix_pred]; done) | (simp only [ix_add, ix_mul, ix_pred, *]; done)) (by omega) (by decide) rfl ?_
      refine xi_iincv (y := nI (f + 1)) (pc' := 33) rfl rfl (ix_add _ _) (st1_3 rfl) rfl ?_
      refine xi_goto (pc' := 7) rfl rfl ?_
      have e := ih (f + 1) (by omega)
      rw [al_s] at e
      simp only [ex_P, Classical.not_not] at q17
      first | (rw [if_pos q17] at e; exact e) | (rw [if_neg q17] at e; exact e)
theorem c_addLen {L : Nat} {xs : Nat → Int32} {D n : Nat} {I J : ex_Mem} {m : Nat} (h8 : n ≤ 8) (hm : m < n) : ro L xs (D + 2) 65 [.ref 44, .ref (81 + 2 * m)] (mkH n I J) (mkH n (q_al I m 4) J) := by
  show xx cb_G _ _ _ 65 0 [.ref 44, .ref (81 + 2 * m), ex_no, ex_no] [] _ _
  refine xi_aload_n (pc' := 1) rfl rfl rfl ?_
  refine xx_callVi (pc' := 4) rfl rfl (by decide) rfl (kd_M0 (Nat.lt_of_lt_of_le hm h8)) (by show _ < 81 + 2 * _; omega) (Nat.le_of_ble_eq_true rfl) rfl rfl (c_length h8 hm) ?_
  refine xi_istore_n (pc' := 5) rfl (st1_2 rfl) rfl ?_
  refine xi_iconst (pc' := 6) rfl rfl ?_
  refine xi_istore_n (pc' := 7) rfl (st1_3 rfl) rfl ?_
  exact c_al_loop h8 hm 4 0 (by omega)
theorem c_gr_loop {L : Nat} {xs : Nat → Int32} {D n : Nat} {I J : ex_Mem}  : ∀ (j f : Nat), f + j = 4 → xx cb_G L xs (D + 3) 62 49 [.ref 44, .int (q_gr I f), .int (nI f)] [] (mkH n I J) (fun r h => r = some (.int (q_gr I 4)) ∧ h = mkH n I J) := by
  intro j
  induction j with
  | zero =>
    intro f hf
    have hf : f = 4 := by omega
    subst hf
    refine xi_iload_n (pc' := 50) rfl rfl rfl ?_
    refine xi_iconst (pc' := 51) rfl rfl ?_
    refine xx_icmp (pc' := 54) (tg := 71) rfl rfl rfl (fun q51 => ?_) (fun q51 => absurd (show ex_P .ge (nI 4) (nI 4) from Int32.le_refl _) q51)
    refine xi_iload_n (pc' := 72) rfl rfl rfl ?_
    refine xx_ireturn rfl rfl ?_
    exact ⟨rfl, rfl⟩
  | succ j ih =>
    intro f hf
    refine xi_iload_n (pc' := 50) rfl rfl rfl ?_
    refine xi_iconst (pc' := 51) rfl rfl ?_
    refine xx_icmp (pc' := 54) (tg := 71) rfl rfl rfl (fun q51 => absurd q51 (show ¬ ex_P .ge (nI f) (nI 4) from nI_ge (by omega) (by decide))) (fun q51 => ?_)
    refine xi_iload_n (pc' := 55) rfl rfl rfl ?_
    refine xi_aload_n (pc' := 56) rfl rfl rfl ?_
    refine xc_getp (pc' := 59) rfl rfl (by decide) rfl (by omega) (by decide) rfl rfl rfl ?_
    refine xi_iload_n (pc' := 60) rfl rfl rfl ?_
    refine xc_iald (j := f) (pc' := 61) rfl rfl (by decide) (by omega) (by omega) (by first | rfl | (simp only [ix_add, ix_mul, ix_pred]; done) | (simp only [ix_add, ix_mul, ix_pred, *]; done)) (by omega) (by decide) rfl ?_
    refine xx_max (v := _) (pc' := 64) rfl rfl (Nat.le_of_ble_eq_true rfl) rfl rfl ?_
    refine xi_istore_n (pc' := 65) rfl (st1_1 rfl) rfl ?_
    refine xi_iincv (y := nI (f + 1)) (pc' := 68) rfl rfl (ix_add _ _) (st1_2 rfl) rfl ?_
    refine xi_goto (pc' := 49) rfl rfl ?_
    have e := ih (f + 1) (by omega)
    rw [gr_s] at e
    exact e
theorem c_ff_loop {L : Nat} {xs : Nat → Int32} {D n : Nat} {I J : ex_Mem} (h8 : n ≤ 8) (hcn : I 44 2 = nI n) (hper : ∀ m, m < n → I (81 + 2 * m) 5 = nI (tk I (81 + 2 * m) 5) ∧ 1 ≤ tk I (81 + 2 * m) 5 ∧ tk I (81 + 2 * m) 5 ≤ 4) : ∀ (j m : Nat), m + j = n → ∀ v2 : Value, v2.category = 1 → xx cb_G L xs (D + 3) 62 10 [.ref 44, .int (nI m), v2] [] (mkH n (q_ff I m) J) (fun r h => r = some (.int (q_gr (q_ff I n) 4)) ∧ h = mkH n (q_ff I n) J) := by
  intro j
  induction j with
  | zero =>
    intro m hk v2 h2
    have hk : m = n := by omega
    subst hk
    refine xi_iload_n (pc' := 11) rfl rfl rfl ?_
    refine xi_aload_n (pc' := 12) rfl rfl rfl ?_
    refine xc_getiv (v := nI (m)) (pc' := 15) rfl rfl (by decide) rfl (by decide) (by omega) (by decide) (by decide) ((qff_fr (by decide) (by omega) m).trans hcn) rfl ?_
    refine xx_icmp (pc' := 18) (tg := 45) rfl rfl rfl (fun q15 => ?_) (fun q15 => absurd (show ex_P .ge (nI m) (nI m) from Int32.le_refl _) q15)
    refine xi_iconst (pc' := 46) rfl rfl ?_
    refine xi_istore_n (pc' := 47) rfl (st1_1 rfl) rfl ?_
    refine xi_iconst (pc' := 48) rfl rfl ?_
    refine xi_istore_n (pc' := 49) rfl (st1_2 rfl) rfl ?_
    exact c_gr_loop 4 0 (by omega)
  | succ j ih =>
    intro m hk v2 h2
    have hm : m < n := by omega
    have e5 : q_ff I m (81 + 2 * m) 5 = I (81 + 2 * m) 5 := qff_fr (by omega) (by omega) m
    have hp := hper m hm
    have hp5 : q_ff I m (81 + 2 * m) 5 = nI (tk (q_ff I m) (81 + 2 * m) 5) := by rw [tk_eq e5, e5]; exact hp.1
    have hp4 : tk (q_ff I m) (81 + 2 * m) 5 ≤ 4 := by rw [tk_eq e5]; exact hp.2.2
    have hp1 : 1 ≤ tk (q_ff I m) (81 + 2 * m) 5 := by rw [tk_eq e5]; exact hp.2.1
    refine xi_iload_n (pc' := 11) rfl rfl rfl ?_
    refine xi_aload_n (pc' := 12) rfl rfl rfl ?_
    refine xc_getiv (v := nI (n)) (pc' := 15) rfl rfl (by decide) rfl (by decide) (by omega) (by decide) (by decide) ((qff_fr (by decide) (by omega) m).trans hcn) rfl ?_
    refine xx_icmp (pc' := 18) (tg := 45) rfl rfl rfl (fun q15 => absurd q15 (show ¬ ex_P .ge (nI m) (nI n) from nI_ge (by omega) (by omega))) (fun q15 => ?_)
    refine xi_aload_n (pc' := 19) rfl rfl rfl ?_
    refine xc_getp (pc' := 22) rfl rfl (by decide) rfl (by omega) (by decide) rfl rfl rfl ?_
    refine xi_iload_n (pc' := 23) rfl rfl rfl ?_
    refine xc_aald (j := m) (pc' := 24) rfl rfl (by omega) (by first | rfl | (simp only [ix_add, ix_mul, ix_pred]; done) | (simp only [ix_add, ix_mul, ix_pred, *]; done)) (by omega) (by decide) (pd_45 hm) rfl ?_
    refine xi_astore_n (pc' := 25) rfl (st1_2 rfl) rfl ?_
    refine xi_aload_n (pc' := 26) rfl rfl rfl ?_
    refine xi_aload_n (pc' := 27) rfl rfl rfl ?_
    refine xi_aload_n (pc' := 28) rfl rfl rfl ?_
    refine xx_callVi (pc' := 31) rfl rfl (by decide) rfl rfl (by show _ < 81 + 2 * _; omega) (Nat.le_of_ble_eq_true rfl) rfl rfl (c_best h8 hm hp5 hp4 hp1) ?_
    refine xc_puti (pc' := 34) rfl rfl (by decide) (kd_M0 (Nat.lt_of_lt_of_le hm h8)) (by omega) (by omega) (by decide) (Or.inl rfl) rfl ?_
    refine xi_aload_n (pc' := 35) rfl rfl rfl ?_
    refine xi_aload_n (pc' := 36) rfl rfl rfl ?_
    refine xx_callVv (pc' := 39) rfl rfl (by decide) rfl rfl (by show _ < 81 + 2 * _; omega) (Nat.le_of_ble_eq_true rfl) rfl rfl (c_addLen h8 hm) ?_
    refine xi_iincv (y := nI (m + 1)) (pc' := 42) rfl rfl (ix_add _ _) (st1_1 rfl) rfl ?_
    refine xi_goto (pc' := 10) rfl rfl ?_
    have e := ih (m + 1) (by omega) (.ref (81 + 2 * m)) rfl
    rw [ff_s] at e
    exact e
theorem c_fillFrames {L : Nat} {xs : Nat → Int32} {D n : Nat} {I J : ex_Mem} (h8 : n ≤ 8) (hcn : I 44 2 = nI n) (hper : ∀ m, m < n → I (81 + 2 * m) 5 = nI (tk I (81 + 2 * m) 5) ∧ 1 ≤ tk I (81 + 2 * m) 5 ∧ tk I (81 + 2 * m) 5 ≤ 4) : ri L xs (D + 3) 62 [.ref 44] (mkH n I J) (q_gr (q_ff I n) 4) (mkH n (q_ff I n) J) := by
  show xx cb_G _ _ _ 62 0 [.ref 44, ex_no, ex_no] [] _ _
  refine xi_aload_n (pc' := 1) rfl rfl rfl ?_
  refine xc_getp (pc' := 4) rfl rfl (by decide) rfl (by omega) (by decide) rfl rfl rfl ?_
  refine xi_iconst (pc' := 5) rfl rfl ?_
  refine xx_callSv (pc' := 8) rfl rfl (by decide) rfl (Nat.le_of_ble_eq_true rfl) rfl rfl (c_fill0) ?_
  refine xi_iconst (pc' := 9) rfl rfl ?_
  refine xi_istore_n (pc' := 10) rfl (st1_1 rfl) rfl ?_
  exact c_ff_loop h8 hcn hper n 0 (by omega) _ rfl
theorem c_bc {L : Nat} {xs : Nat → Int32} {D n : Nat} {I J : ex_Mem} {x : Int32} : ri L xs D 135 [.int x] (mkH n I J) (q_bc x) (mkH n I J) := by
  show xx cb_G _ _ _ 135 0 [.int x] [] _ _
  refine xi_iload_n (pc' := 1) rfl rfl rfl ?_
  refine xi_iload_n (pc' := 2) rfl rfl rfl ?_
  refine xi_iconst (pc' := 3) rfl rfl ?_
  refine xi_iushr (pc' := 4) rfl rfl ?_
  refine xx_ldcw (v := nI 1431655765) (pc' := 7) rfl rfl (by decide) rfl ?_
  refine xi_iand (pc' := 8) rfl rfl ?_
  refine xi_isub (pc' := 9) rfl rfl ?_
  refine xx_topi (y := q_b1 x) (rfl) ?_
  refine xi_istore_n (pc' := 10) rfl st1_0 rfl ?_
  refine xi_iload_n (pc' := 11) rfl rfl rfl ?_
  refine xx_ldcw (v := nI 858993459) (pc' := 14) rfl rfl (by decide) rfl ?_
  refine xi_iand (pc' := 15) rfl rfl ?_
  refine xi_iload_n (pc' := 16) rfl rfl rfl ?_
  refine xi_iconst (pc' := 17) rfl rfl ?_
  refine xi_iushr (pc' := 18) rfl rfl ?_
  refine xx_ldcw (v := nI 858993459) (pc' := 21) rfl rfl (by decide) rfl ?_
  refine xi_iand (pc' := 22) rfl rfl ?_
  refine xi_iadd (pc' := 23) rfl rfl ?_
  refine xx_topi (y := q_b2 (q_b1 x)) (rfl) ?_
  refine xi_istore_n (pc' := 24) rfl st1_0 rfl ?_
  refine xi_iload_n (pc' := 25) rfl rfl rfl ?_
  refine xi_iload_n (pc' := 26) rfl rfl rfl ?_
  refine xi_iconst (pc' := 27) rfl rfl ?_
  refine xi_iushr (pc' := 28) rfl rfl ?_
  refine xi_iadd (pc' := 29) rfl rfl ?_
  refine xx_ldcw (v := nI 252645135) (pc' := 32) rfl rfl (by decide) rfl ?_
  refine xi_iand (pc' := 33) rfl rfl ?_
  refine xx_topi (y := q_b3 (q_b2 (q_b1 x))) (rfl) ?_
  refine xi_istore_n (pc' := 34) rfl st1_0 rfl ?_
  refine xi_iload_n (pc' := 35) rfl rfl rfl ?_
  refine xi_iload_n (pc' := 36) rfl rfl rfl ?_
  refine xi_bipush (pc' := 38) rfl (by decide) rfl ?_
  refine xi_iushr (pc' := 39) rfl rfl ?_
  refine xi_iadd (pc' := 40) rfl rfl ?_
  refine xx_topi (y := q_b4 (q_b3 (q_b2 (q_b1 x)))) (rfl) ?_
  refine xi_istore_n (pc' := 41) rfl st1_0 rfl ?_
  refine xi_iload_n (pc' := 42) rfl rfl rfl ?_
  refine xi_iload_n (pc' := 43) rfl rfl rfl ?_
  refine xi_bipush (pc' := 45) rfl (by decide) rfl ?_
  refine xi_iushr (pc' := 46) rfl rfl ?_
  refine xi_iadd (pc' := 47) rfl rfl ?_
  refine xx_topi (y := q_b5 (q_b4 (q_b3 (q_b2 (q_b1 x))))) (rfl) ?_
  refine xi_istore_n (pc' := 48) rfl st1_0 rfl ?_
  refine xi_iload_n (pc' := 49) rfl rfl rfl ?_
  refine xi_bipush (pc' := 51) rfl (by decide) rfl ?_
  refine xi_iand (pc' := 52) rfl rfl ?_
  refine xx_ireturn rfl rfl ?_
  exact ⟨rfl, rfl⟩
theorem c_isOdd {L : Nat} {xs : Nat → Int32} {D n : Nat} {I J : ex_Mem} {x : Int32} : ri L xs (D + 1) 130 [.int x] (mkH n I J) (q_odd x) (mkH n I J) := by
  show xx cb_G _ _ _ 130 0 [.int x] [] _ _
  refine xi_iload_n (pc' := 1) rfl rfl rfl ?_
  refine xx_callSi (pc' := 4) rfl rfl (by decide) rfl (Nat.le_of_ble_eq_true rfl) rfl rfl (c_bc) ?_
  refine xi_iconst (pc' := 5) rfl rfl ?_
  refine xi_iand (pc' := 6) rfl rfl ?_
  refine xi_iconst (pc' := 7) rfl rfl ?_
  refine xx_icmp (pc' := 10) (tg := 14) rfl rfl rfl (fun q7 => ?_) (fun q7 => ?_)
  · refine xi_iconst (pc' := 15) rfl rfl ?_
    refine xx_zreturn rfl rfl (by first | rfl | assumption | exact b01_bI | simp [ex_b01, bI]) ?_
    simp only [ex_P, Classical.not_not, ↓reduceIte, Nat.add_zero, or_true, true_or, not_true_eq_false, not_false_eq_true, or_false, false_or, wI_get, false_and, true_and, and_true, and_false, and_self, Nat.reduceEqDiff, Nat.succ_ne_zero, reduceCtorEq, nI_lit, nI_lit0, Nat.reduceLT, eq_self, Nat.zero_add, mn_lit, mn_lit', mn_0] at *
    first | (simp only [q_odd, *, ↓reduceIte, Nat.add_zero, or_true, true_or, not_true_eq_false, not_false_eq_true, or_false, false_or, wI_get, false_and, true_and, and_true, and_false, and_self, Nat.reduceEqDiff, Nat.succ_ne_zero, reduceCtorEq, nI_lit, nI_lit0, Nat.reduceLT, eq_self, Nat.zero_add, mn_lit, mn_lit', mn_0]; done) | (exfalso; simp_all only [↓reduceIte, Nat.add_zero, or_true, true_or, not_true_eq_false, not_false_eq_true, or_false, false_or, wI_get, false_and, true_and, and_true, and_false, and_self, Nat.reduceEqDiff, Nat.succ_ne_zero, reduceCtorEq, nI_lit, nI_lit0, Nat.reduceLT, eq_self, Nat.zero_add, mn_lit, mn_lit', mn_0]; done)
  · refine xi_iconst (pc' := 11) rfl rfl ?_
    refine xi_goto (pc' := 15) rfl rfl ?_
    refine xx_zreturn rfl rfl (by first | rfl | assumption | exact b01_bI | simp [ex_b01, bI]) ?_
    simp only [ex_P, Classical.not_not, ↓reduceIte, Nat.add_zero, or_true, true_or, not_true_eq_false, not_false_eq_true, or_false, false_or, wI_get, false_and, true_and, and_true, and_false, and_self, Nat.reduceEqDiff, Nat.succ_ne_zero, reduceCtorEq, nI_lit, nI_lit0, Nat.reduceLT, eq_self, Nat.zero_add, mn_lit, mn_lit', mn_0] at *
    first | (simp only [q_odd, *, ↓reduceIte, Nat.add_zero, or_true, true_or, not_true_eq_false, not_false_eq_true, or_false, false_or, wI_get, false_and, true_and, and_true, and_false, and_self, Nat.reduceEqDiff, Nat.succ_ne_zero, reduceCtorEq, nI_lit, nI_lit0, Nat.reduceLT, eq_self, Nat.zero_add, mn_lit, mn_lit', mn_0]; done) | (exfalso; simp_all only [↓reduceIte, Nat.add_zero, or_true, true_or, not_true_eq_false, not_false_eq_true, or_false, false_or, wI_get, false_and, true_and, and_true, and_false, and_self, Nat.reduceEqDiff, Nat.succ_ne_zero, reduceCtorEq, nI_lit, nI_lit0, Nat.reduceLT, eq_self, Nat.zero_add, mn_lit, mn_lit', mn_0]; done)
theorem es_1 {v b : Int32} {H : Int64} (h : (v >>> (b &&& 31)) &&& nI 1 = nI 1) : q_es v b H = H * lN 4 + (nI 2).toInt64 := by
  unfold q_es en_bit
  rw [if_pos h]
theorem es_0 {v b : Int32} {H : Int64} (h : ¬ (v >>> (b &&& 31)) &&& nI 1 = nI 1) : q_es v b H = H * lN 4 + (nI 1).toInt64 := by
  unfold q_es en_bit
  rw [if_neg h]
theorem c_enc_loop {L : Nat} {xs : Nat → Int32} {D n : Nat} {I J : ex_Mem} {d v p w : Int32} {Q : Option Value → ex_Hp → Prop} : ∀ (i : Nat), i < 100 → ∀ S : Int64, (∀ v6 : Value, v6.category = 1 → xx cb_G L xs (D + 2) 129 74 [.int d, .int v, .int p, .int w, .long (q_ef w i S), ex_no, v6] [] (mkH n I J) Q) → xx cb_G L xs (D + 2) 129 38 [.int d, .int v, .int p, .int w, .long S, ex_no, .int (nI i)] [] (mkH n I J) Q := by
  intro i
  induction i with
  | zero =>
    intro hi
    intro S kk
    refine xi_iload (pc' := 40) rfl rfl rfl ?_
    refine xx_if (pc' := 43) (tg := 74) rfl rfl rfl (fun q40 => absurd q40 (show ¬ ex_P .lt (nI 0) 0 from nI_pos (by decide))) (fun q40 => ?_)
    refine xi_lload (pc' := 45) rfl rfl rfl ?_
    refine xx_ldc2 (v := lN 4) (pc' := 48) rfl rfl (by decide) rfl ?_
    refine xi_lmul (pc' := 49) rfl rfl ?_
    refine xi_iload_n (pc' := 50) rfl rfl rfl ?_
    refine xi_iload (pc' := 52) rfl rfl rfl ?_
    refine xi_ishr (pc' := 53) rfl rfl ?_
    refine xi_iconst (pc' := 54) rfl rfl ?_
    refine xi_iand (pc' := 55) rfl rfl ?_
    refine xi_iconst (pc' := 56) rfl rfl ?_
    refine xx_icmp (pc' := 59) (tg := 63) rfl rfl rfl (fun q56 => ?_) (fun q56 => ?_)
    · refine xi_iconst (pc' := 64) rfl rfl ?_
      refine xi_i2l (pc' := 65) rfl rfl ?_
      refine xi_ladd (pc' := 66) rfl rfl ?_
      refine xi_lstore (pc' := 68) rfl (st2_4 rfl) rfl ?_
      refine xi_iincmv (y := - nI 1) (pc' := 71) rfl rfl (by decide) (st1_6 rfl) rfl ?_
      refine xi_goto (pc' := 38) rfl rfl ?_
      refine xi_iload (pc' := 40) rfl rfl rfl ?_
      refine xi_ift (pc' := 74) rfl rfl (by decide) ?_
      have e := fun w6 g6 => kk w6 g6
      rw [show q_ef w 0 S = q_es w (nI 0) S from rfl] at e
      simp only [ex_P] at q56
      first | (rw [es_1 (Classical.not_not.mp q56)] at e; exact e _ rfl) | (rw [es_0 q56] at e; exact e _ rfl)
    · refine xi_iconst (pc' := 60) rfl rfl ?_
      refine xi_goto (pc' := 64) rfl rfl ?_
      refine xi_i2l (pc' := 65) rfl rfl ?_
      refine xi_ladd (pc' := 66) rfl rfl ?_
      refine xi_lstore (pc' := 68) rfl (st2_4 rfl) rfl ?_
      refine xi_iincmv (y := - nI 1) (pc' := 71) rfl rfl (by decide) (st1_6 rfl) rfl ?_
      refine xi_goto (pc' := 38) rfl rfl ?_
      refine xi_iload (pc' := 40) rfl rfl rfl ?_
      refine xi_ift (pc' := 74) rfl rfl (by decide) ?_
      have e := fun w6 g6 => kk w6 g6
      rw [show q_ef w 0 S = q_es w (nI 0) S from rfl] at e
      simp only [ex_P] at q56
      first | (rw [es_1 (Classical.not_not.mp q56)] at e; exact e _ rfl) | (rw [es_0 q56] at e; exact e _ rfl)
  | succ i ih =>
    intro hi
    have ih := ih (by omega)
    intro S kk
    refine xi_iload (pc' := 40) rfl rfl rfl ?_
    refine xx_if (pc' := 43) (tg := 74) rfl rfl rfl (fun q40 => absurd q40 (show ¬ ex_P .lt (nI (i + 1)) 0 from nI_pos (by have := hi; omega))) (fun q40 => ?_)
    refine xi_lload (pc' := 45) rfl rfl rfl ?_
    refine xx_ldc2 (v := lN 4) (pc' := 48) rfl rfl (by decide) rfl ?_
    refine xi_lmul (pc' := 49) rfl rfl ?_
    refine xi_iload_n (pc' := 50) rfl rfl rfl ?_
    refine xi_iload (pc' := 52) rfl rfl rfl ?_
    refine xi_ishr (pc' := 53) rfl rfl ?_
    refine xi_iconst (pc' := 54) rfl rfl ?_
    refine xi_iand (pc' := 55) rfl rfl ?_
    refine xi_iconst (pc' := 56) rfl rfl ?_
    refine xx_icmp (pc' := 59) (tg := 63) rfl rfl rfl (fun q56 => ?_) (fun q56 => ?_)
    · refine xi_iconst (pc' := 64) rfl rfl ?_
      refine xi_i2l (pc' := 65) rfl rfl ?_
      refine xi_ladd (pc' := 66) rfl rfl ?_
      refine xi_lstore (pc' := 68) rfl (st2_4 rfl) rfl ?_
      refine xi_iincmv (y := nI i) (pc' := 71) rfl rfl (ix_dec i) (st1_6 rfl) rfl ?_
      refine xi_goto (pc' := 38) rfl rfl ?_
      have e := ih (q_es w (nI (i + 1)) S) kk
      simp only [ex_P] at q56
      first | (rw [es_1 (Classical.not_not.mp q56)] at e; exact e) | (rw [es_0 q56] at e; exact e)
    · refine xi_iconst (pc' := 60) rfl rfl ?_
      refine xi_goto (pc' := 64) rfl rfl ?_
      refine xi_i2l (pc' := 65) rfl rfl ?_
      refine xi_ladd (pc' := 66) rfl rfl ?_
      refine xi_lstore (pc' := 68) rfl (st2_4 rfl) rfl ?_
      refine xi_iincmv (y := nI i) (pc' := 71) rfl rfl (ix_dec i) (st1_6 rfl) rfl ?_
      refine xi_goto (pc' := 38) rfl rfl ?_
      have e := ih (q_es w (nI (i + 1)) S) kk
      simp only [ex_P] at q56
      first | (rw [es_1 (Classical.not_not.mp q56)] at e; exact e) | (rw [es_0 q56] at e; exact e)
theorem c_halves_56 {L : Nat} {xs : Nat → Int32} {D n : Nat} {I J : ex_Mem} {d v : Int32} (hd : d = 0) : rl L xs (D + 2) 129 [.int d, .int v] (mkH n I J) (q_enc d v) (mkH n I J) := by
  show xx cb_G _ _ _ 129 0 [.int d, .int v, ex_no, ex_no, ex_no, ex_no, ex_no] [] _ _
  refine xi_iload_n (pc' := 1) rfl rfl rfl ?_
  refine xx_callSi (pc' := 4) rfl rfl (by decide) rfl (Nat.le_of_ble_eq_true rfl) rfl rfl (c_isOdd) ?_
  refine xx_if (pc' := 7) (tg := 11) rfl rfl rfl (fun q4 => ?_) (fun q4 => ?_)
  · refine xi_iconst (pc' := 12) rfl rfl ?_
    refine xi_istore_n (pc' := 13) rfl (st1_2 rfl) rfl ?_
    refine xi_iload_n (pc' := 14) rfl rfl rfl ?_
    refine xi_iconst (pc' := 15) rfl rfl ?_
    refine xi_imul (pc' := 16) rfl rfl ?_
    refine xi_iload_n (pc' := 17) rfl rfl rfl ?_
    refine xi_iadd (pc' := 18) rfl rfl ?_
    refine xi_istore_n (pc' := 19) rfl (st1_3 rfl) rfl ?_
    refine xi_iload_n (pc' := 20) rfl rfl rfl ?_
    refine xx_if (pc' := 23) (tg := 29) rfl rfl rfl (fun q20 => ?_) (fun q20 => absurd (show ex_P .eq d 0 from hd) q20)
    refine xx_ldc2 (v := lN 56) (pc' := 32) rfl rfl (by decide) rfl ?_
    refine xi_lstore (pc' := 34) rfl (st2_4 rfl) rfl ?_
    refine xi_bipush (pc' := 36) rfl (by decide) rfl ?_
    refine xi_istore (pc' := 38) rfl (st1_6 rfl) rfl ?_
    refine c_enc_loop 16 (by decide) (lN 56) (fun w6 g6 => ?_)
    refine xi_lload (pc' := 76) rfl rfl rfl ?_
    refine xx_lreturn rfl rfl ?_
    refine ⟨congrArg (fun w => some (Value.long w)) ?_, rfl⟩
    unfold q_enc q_bits
    simp only [ex_P, Classical.not_not] at q4
    rw [if_pos hd]
    first | rw [if_pos q4] | rw [if_neg q4]
  · refine xi_iconst (pc' := 8) rfl rfl ?_
    refine xi_goto (pc' := 12) rfl rfl ?_
    refine xi_istore_n (pc' := 13) rfl (st1_2 rfl) rfl ?_
    refine xi_iload_n (pc' := 14) rfl rfl rfl ?_
    refine xi_iconst (pc' := 15) rfl rfl ?_
    refine xi_imul (pc' := 16) rfl rfl ?_
    refine xi_iload_n (pc' := 17) rfl rfl rfl ?_
    refine xi_iadd (pc' := 18) rfl rfl ?_
    refine xi_istore_n (pc' := 19) rfl (st1_3 rfl) rfl ?_
    refine xi_iload_n (pc' := 20) rfl rfl rfl ?_
    refine xx_if (pc' := 23) (tg := 29) rfl rfl rfl (fun q20 => ?_) (fun q20 => absurd (show ex_P .eq d 0 from hd) q20)
    refine xx_ldc2 (v := lN 56) (pc' := 32) rfl rfl (by decide) rfl ?_
    refine xi_lstore (pc' := 34) rfl (st2_4 rfl) rfl ?_
    refine xi_bipush (pc' := 36) rfl (by decide) rfl ?_
    refine xi_istore (pc' := 38) rfl (st1_6 rfl) rfl ?_
    refine c_enc_loop 16 (by decide) (lN 56) (fun w6 g6 => ?_)
    refine xi_lload (pc' := 76) rfl rfl rfl ?_
    refine xx_lreturn rfl rfl ?_
    refine ⟨congrArg (fun w => some (Value.long w)) ?_, rfl⟩
    unfold q_enc q_bits
    simp only [ex_P, Classical.not_not] at q4
    rw [if_pos hd]
    first | rw [if_pos q4] | rw [if_neg q4]
theorem c_halves_7 {L : Nat} {xs : Nat → Int32} {D n : Nat} {I J : ex_Mem} {d v : Int32} (hd : ¬ d = 0) : rl L xs (D + 2) 129 [.int d, .int v] (mkH n I J) (q_enc d v) (mkH n I J) := by
  show xx cb_G _ _ _ 129 0 [.int d, .int v, ex_no, ex_no, ex_no, ex_no, ex_no] [] _ _
  refine xi_iload_n (pc' := 1) rfl rfl rfl ?_
  refine xx_callSi (pc' := 4) rfl rfl (by decide) rfl (Nat.le_of_ble_eq_true rfl) rfl rfl (c_isOdd) ?_
  refine xx_if (pc' := 7) (tg := 11) rfl rfl rfl (fun q4 => ?_) (fun q4 => ?_)
  · refine xi_iconst (pc' := 12) rfl rfl ?_
    refine xi_istore_n (pc' := 13) rfl (st1_2 rfl) rfl ?_
    refine xi_iload_n (pc' := 14) rfl rfl rfl ?_
    refine xi_iconst (pc' := 15) rfl rfl ?_
    refine xi_imul (pc' := 16) rfl rfl ?_
    refine xi_iload_n (pc' := 17) rfl rfl rfl ?_
    refine xi_iadd (pc' := 18) rfl rfl ?_
    refine xi_istore_n (pc' := 19) rfl (st1_3 rfl) rfl ?_
    refine xi_iload_n (pc' := 20) rfl rfl rfl ?_
    refine xx_if (pc' := 23) (tg := 29) rfl rfl rfl (fun q20 => absurd q20 (show ¬ ex_P .eq d 0 from hd)) (fun q20 => ?_)
    refine xx_ldc2 (v := lN 7) (pc' := 26) rfl rfl (by decide) rfl ?_
    refine xi_goto (pc' := 32) rfl rfl ?_
    refine xi_lstore (pc' := 34) rfl (st2_4 rfl) rfl ?_
    refine xi_bipush (pc' := 36) rfl (by decide) rfl ?_
    refine xi_istore (pc' := 38) rfl (st1_6 rfl) rfl ?_
    refine c_enc_loop 16 (by decide) (lN 7) (fun w6 g6 => ?_)
    refine xi_lload (pc' := 76) rfl rfl rfl ?_
    refine xx_lreturn rfl rfl ?_
    refine ⟨congrArg (fun w => some (Value.long w)) ?_, rfl⟩
    unfold q_enc q_bits
    simp only [ex_P, Classical.not_not] at q4
    rw [if_neg hd]
    first | rw [if_pos q4] | rw [if_neg q4]
  · refine xi_iconst (pc' := 8) rfl rfl ?_
    refine xi_goto (pc' := 12) rfl rfl ?_
    refine xi_istore_n (pc' := 13) rfl (st1_2 rfl) rfl ?_
    refine xi_iload_n (pc' := 14) rfl rfl rfl ?_
    refine xi_iconst (pc' := 15) rfl rfl ?_
    refine xi_imul (pc' := 16) rfl rfl ?_
    refine xi_iload_n (pc' := 17) rfl rfl rfl ?_
    refine xi_iadd (pc' := 18) rfl rfl ?_
    refine xi_istore_n (pc' := 19) rfl (st1_3 rfl) rfl ?_
    refine xi_iload_n (pc' := 20) rfl rfl rfl ?_
    refine xx_if (pc' := 23) (tg := 29) rfl rfl rfl (fun q20 => absurd q20 (show ¬ ex_P .eq d 0 from hd)) (fun q20 => ?_)
    refine xx_ldc2 (v := lN 7) (pc' := 26) rfl rfl (by decide) rfl ?_
    refine xi_goto (pc' := 32) rfl rfl ?_
    refine xi_lstore (pc' := 34) rfl (st2_4 rfl) rfl ?_
    refine xi_bipush (pc' := 36) rfl (by decide) rfl ?_
    refine xi_istore (pc' := 38) rfl (st1_6 rfl) rfl ?_
    refine c_enc_loop 16 (by decide) (lN 7) (fun w6 g6 => ?_)
    refine xi_lload (pc' := 76) rfl rfl rfl ?_
    refine xx_lreturn rfl rfl ?_
    refine ⟨congrArg (fun w => some (Value.long w)) ?_, rfl⟩
    unfold q_enc q_bits
    simp only [ex_P, Classical.not_not] at q4
    rw [if_neg hd]
    first | rw [if_pos q4] | rw [if_neg q4]
theorem c_halves {L : Nat} {xs : Nat → Int32} {D n : Nat} {I J : ex_Mem} {d v : Int32} : rl L xs (D + 2) 129 [.int d, .int v] (mkH n I J) (q_enc d v) (mkH n I J) := by
  by_cases hd : d = 0
  · exact c_halves_56 hd
  · exact c_halves_7 hd
