def c_mw (I : ex_Mem) (t : Nat) (cd : Int32) : Int32 := I (8 + 6 * t) 0 * nI 2048 + nI 0 * nI 32 + cd + nI 1024
def c_om1 (A : Int32 × ex_Mem) (t : Nat) (cd : Int32) (b : Nat) : Int32 × ex_Mem := if A.1 = 0 then (nI 0, A.2) else c_bo (c_obeyM A.2 t cd b)
def c_om (I : ex_Mem) (t : Nat) (cd : Int32) (b : Nat) : Int32 × ex_Mem := c_om1 (c_put I b (c_mw I t cd)) t cd b
theorem com_fr {I : ex_Mem} {t b a k : Nat} {cd : Int32} (h : a < 4 ∨ 8 ≤ a) (h8 : a ≠ 8 + 6 * t) (h9 : a ≠ 9 + 6 * t) : (c_om I t cd b).2 a k = I a k := by
  unfold c_om c_om1
  split
  · exact cput_fr h
  · exact (cobm_fr h8 h9).trans (cput_fr h)
theorem om_mon {I : ex_Mem} {t b : Nat} {cd : Int32} (h : monB I) : monB (c_om I t cd b).2 := by
  unfold c_om c_om1
  split
  · exact put_mon h
  · exact obm_mon (put_mon h)
def c_lg (an : Int32) (S : ex_Mem) (t b : Nat) : Int32 × ex_Mem := if an = 0 then (nI 0, S) else c_bo (c_put S b (nI 65536 + S (8 + 6 * t) 4))
def c_md4 (sg : Int32) (D : Int32 × ex_Mem) : Int32 × ex_Mem := (if sg = 0 then nI 0 else if D.1 = 0 then nI 0 else nI 1, D.2)
def c_mdR (an sg : Int32) (S : ex_Mem) (t : Nat) (cd : Int32) (b : Nat) : Int32 × ex_Mem := if cd = nI 18 then c_md4 sg (c_lg an S t b) else (sg, S)
def c_md2 (B C : Int32 × ex_Mem) (t : Nat) (cd : Int32) (b : Nat) : Int32 × ex_Mem := c_mdR B.1 C.1 C.2 t cd b
def c_md1 (B : Int32 × ex_Mem) (t : Nat) (cd : Int32) (b : Nat) : Int32 × ex_Mem := c_md2 B (c_sg B.1 B.2 t b) t cd b
def c_md (I : ex_Mem) (t : Nat) (cd : Int32) (b : Nat) : Int32 × ex_Mem := c_md1 (c_an1 (c_om I t cd b) t b) t cd b
theorem bo_b01 {A : Int32 × ex_Mem} : ex_b01 (c_bo A).1 = true := by
  unfold c_bo
  dsimp only
  split <;> rfl
theorem sg_b01 {an : Int32} {S : ex_Mem} {t b : Nat} : ex_b01 (c_sg an S t b).1 = true := by
  unfold c_sg
  split
  · rfl
  · exact bo_b01
theorem c_md_1 {L : Nat} {xs : Nat → Int32} {D n : Nat} {I J : ex_Mem} {Q : Option Value → ex_Hp → Prop} {t b : Nat} {cd : Int32} (ht : t < 6) (hb : b < 2) (hmo : monB I) (kk : xx cb_G L xs (D + 4) 33 35 [.ref 1, .ref (8 + 6 * t), .int cd, .int (nI b), .int (c_om I t cd b).1, ex_no, ex_no, ex_no] [] (mkH n (c_om I t cd b).2 J) Q) : xx cb_G L xs (D + 4) 33 0 [.ref 1, .ref (8 + 6 * t), .int cd, .int (nI b), ex_no, ex_no, ex_no, ex_no] [] (mkH n I J) Q := by
  refine xi_aload_n (pc' := 1) rfl rfl rfl ?_
  refine xc_getp (pc' := 4) rfl rfl (by decide) rfl (by omega) (by decide) rfl rfl rfl ?_
  refine xi_iload_n (pc' := 5) rfl rfl rfl ?_
  refine xi_aload_n (pc' := 6) rfl rfl rfl ?_
  refine xc_geti (pc' := 9) rfl rfl (by decide) (kd_T0 ht) (by omega) (by omega) (by decide) (by decide) rfl ?_
  refine xi_iload_n (pc' := 10) rfl rfl rfl ?_
  refine xx_callSi (pc' := 13) rfl rfl (by decide) rfl (Nat.le_of_ble_eq_true rfl) rfl rfl (c_mode _ _) ?_
  refine xx_callVi (pc' := 16) rfl rfl (by decide) rfl rfl (by show _ < 81 + 2 * _; omega) (Nat.le_of_ble_eq_true rfl) rfl rfl (c_carry hb (by repeat (first | assumption | apply put_mon | apply dat_mon | apply obey_mon | apply obm_mon | apply rcv_mon))) ?_
  refine xx_if (pc' := 19) (tg := 32) rfl rfl rfl (fun q16 => ?_) (fun q16 => ?_)
  · refine xi_iconst (pc' := 33) rfl rfl ?_
    refine xi_istore (pc' := 35) rfl (st1_4 rfl) rfl ?_
    try simp only [ex_P, Classical.not_not, ↓reduceIte, Nat.add_zero, or_true, true_or, not_true_eq_false, not_false_eq_true, or_false, false_or, wI_get, false_and, true_and, and_true, and_false, and_self, Nat.reduceEqDiff, Nat.succ_ne_zero, reduceCtorEq, nI_lit, nI_lit0, Nat.reduceLT, eq_self, Nat.zero_add, mn_lit, mn_lit', mn_0] at *
    first | (simp only [c_om, c_om1, c_bo, c_mw, *, ↓reduceIte, Nat.add_zero, or_true, true_or, not_true_eq_false, not_false_eq_true, or_false, false_or, wI_get, false_and, true_and, and_true, and_false, and_self, Nat.reduceEqDiff, Nat.succ_ne_zero, reduceCtorEq, nI_lit, nI_lit0, Nat.reduceLT, eq_self, Nat.zero_add, mn_lit, mn_lit', mn_0] at kk; first | with_reducible exact kk | (simp only [*]; done) | (simp only [*]; with_reducible exact kk)) | (exfalso; simp_all only [↓reduceIte, Nat.add_zero, or_true, true_or, not_true_eq_false, not_false_eq_true, or_false, false_or, wI_get, false_and, true_and, and_true, and_false, and_self, Nat.reduceEqDiff, Nat.succ_ne_zero, reduceCtorEq, nI_lit, nI_lit0, Nat.reduceLT, eq_self, Nat.zero_add, mn_lit, mn_lit', mn_0]; done)
  · refine xi_aload_n (pc' := 20) rfl rfl rfl ?_
    refine xi_iload_n (pc' := 21) rfl rfl rfl ?_
    refine xi_iload_n (pc' := 22) rfl rfl rfl ?_
    refine xx_callVi (pc' := 25) rfl rfl (by decide) rfl (kd_T0 ht) (by show _ < 81 + 2 * _; omega) (Nat.le_of_ble_eq_true rfl) rfl rfl (c_obeyMode ht hb) ?_
    refine xx_if (pc' := 28) (tg := 32) rfl rfl rfl (fun q25 => ?_) (fun q25 => ?_)
    · refine xi_iconst (pc' := 33) rfl rfl ?_
      refine xi_istore (pc' := 35) rfl (st1_4 rfl) rfl ?_
      try simp only [ex_P, Classical.not_not, ↓reduceIte, Nat.add_zero, or_true, true_or, not_true_eq_false, not_false_eq_true, or_false, false_or, wI_get, false_and, true_and, and_true, and_false, and_self, Nat.reduceEqDiff, Nat.succ_ne_zero, reduceCtorEq, nI_lit, nI_lit0, Nat.reduceLT, eq_self, Nat.zero_add, mn_lit, mn_lit', mn_0] at *
      first | (simp only [c_om, c_om1, c_bo, c_mw, *, ↓reduceIte, Nat.add_zero, or_true, true_or, not_true_eq_false, not_false_eq_true, or_false, false_or, wI_get, false_and, true_and, and_true, and_false, and_self, Nat.reduceEqDiff, Nat.succ_ne_zero, reduceCtorEq, nI_lit, nI_lit0, Nat.reduceLT, eq_self, Nat.zero_add, mn_lit, mn_lit', mn_0] at kk; first | with_reducible exact kk | (simp only [*]; done) | (simp only [*]; with_reducible exact kk)) | (exfalso; simp_all only [↓reduceIte, Nat.add_zero, or_true, true_or, not_true_eq_false, not_false_eq_true, or_false, false_or, wI_get, false_and, true_and, and_true, and_false, and_self, Nat.reduceEqDiff, Nat.succ_ne_zero, reduceCtorEq, nI_lit, nI_lit0, Nat.reduceLT, eq_self, Nat.zero_add, mn_lit, mn_lit', mn_0]; done)
    · refine xi_iconst (pc' := 29) rfl rfl ?_
      refine xi_goto (pc' := 33) rfl rfl ?_
      refine xi_istore (pc' := 35) rfl (st1_4 rfl) rfl ?_
      try simp only [ex_P, Classical.not_not, ↓reduceIte, Nat.add_zero, or_true, true_or, not_true_eq_false, not_false_eq_true, or_false, false_or, wI_get, false_and, true_and, and_true, and_false, and_self, Nat.reduceEqDiff, Nat.succ_ne_zero, reduceCtorEq, nI_lit, nI_lit0, Nat.reduceLT, eq_self, Nat.zero_add, mn_lit, mn_lit', mn_0] at *
      first | (simp only [c_om, c_om1, c_bo, c_mw, *, ↓reduceIte, Nat.add_zero, or_true, true_or, not_true_eq_false, not_false_eq_true, or_false, false_or, wI_get, false_and, true_and, and_true, and_false, and_self, Nat.reduceEqDiff, Nat.succ_ne_zero, reduceCtorEq, nI_lit, nI_lit0, Nat.reduceLT, eq_self, Nat.zero_add, mn_lit, mn_lit', mn_0] at kk; first | with_reducible exact kk | (simp only [*]; done) | (simp only [*]; with_reducible exact kk)) | (exfalso; simp_all only [↓reduceIte, Nat.add_zero, or_true, true_or, not_true_eq_false, not_false_eq_true, or_false, false_or, wI_get, false_and, true_and, and_true, and_false, and_self, Nat.reduceEqDiff, Nat.succ_ne_zero, reduceCtorEq, nI_lit, nI_lit0, Nat.reduceLT, eq_self, Nat.zero_add, mn_lit, mn_lit', mn_0]; done)
theorem c_md_2 {L : Nat} {xs : Nat → Int32} {D n : Nat} {I J : ex_Mem} {Q : Option Value → ex_Hp → Prop} {t b : Nat} {cd : Int32} (ht : t < 6) (hb : b < 2) (hmo : monB I) {ob : Int32} (kk : xx cb_G L xs (D + 4) 33 56 [.ref 1, .ref (8 + 6 * t), .int cd, .int (nI b), .int ob, .int (c_an1 (ob, I) t b).1, ex_no, ex_no] [] (mkH n I J) Q) : xx cb_G L xs (D + 4) 33 35 [.ref 1, .ref (8 + 6 * t), .int cd, .int (nI b), .int ob, ex_no, ex_no, ex_no] [] (mkH n I J) Q := by
  refine xi_iload (pc' := 37) rfl rfl rfl ?_
  refine xx_if (pc' := 40) (tg := 53) rfl rfl rfl (fun q37 => ?_) (fun q37 => ?_)
  · refine xi_iconst (pc' := 54) rfl rfl ?_
    refine xi_istore (pc' := 56) rfl (st1_5 rfl) rfl ?_
    try simp only [ex_P, Classical.not_not, ↓reduceIte, Nat.add_zero, or_true, true_or, not_true_eq_false, not_false_eq_true, or_false, false_or, wI_get, false_and, true_and, and_true, and_false, and_self, Nat.reduceEqDiff, Nat.succ_ne_zero, reduceCtorEq, nI_lit, nI_lit0, Nat.reduceLT, eq_self, Nat.zero_add, mn_lit, mn_lit', mn_0] at *
    first | (simp only [c_an1, *, ↓reduceIte, Nat.add_zero, or_true, true_or, not_true_eq_false, not_false_eq_true, or_false, false_or, wI_get, false_and, true_and, and_true, and_false, and_self, Nat.reduceEqDiff, Nat.succ_ne_zero, reduceCtorEq, nI_lit, nI_lit0, Nat.reduceLT, eq_self, Nat.zero_add, mn_lit, mn_lit', mn_0] at kk; first | with_reducible exact kk | (simp only [*]; done) | (simp only [*]; with_reducible exact kk)) | (exfalso; simp_all only [↓reduceIte, Nat.add_zero, or_true, true_or, not_true_eq_false, not_false_eq_true, or_false, false_or, wI_get, false_and, true_and, and_true, and_false, and_self, Nat.reduceEqDiff, Nat.succ_ne_zero, reduceCtorEq, nI_lit, nI_lit0, Nat.reduceLT, eq_self, Nat.zero_add, mn_lit, mn_lit', mn_0]; done)
  · refine xi_aload_n (pc' := 41) rfl rfl rfl ?_
    refine xc_getp (pc' := 44) rfl rfl (by decide) (kd_T0 ht) (by omega) (by decide) rfl (pd_T6 ht) rfl ?_
    refine xi_iload_n (pc' := 45) rfl rfl rfl ?_
    refine xc_zald (j := b) (pc' := 46) rfl (kd_T1 ht) (by omega) (by omega) (by first | rfl | (simp only [ix_add, ix_mul, ix_pred]; done) | (simp only [ix_add, ix_mul, ix_pred, *]; done)) (by omega) (by decide) rfl ?_
    refine xx_if (pc' := 49) (tg := 53) rfl rfl rfl (fun q46 => ?_) (fun q46 => ?_)
    · refine xi_iconst (pc' := 54) rfl rfl ?_
      refine xi_istore (pc' := 56) rfl (st1_5 rfl) rfl ?_
      try simp only [ex_P, Classical.not_not, ↓reduceIte, Nat.add_zero, or_true, true_or, not_true_eq_false, not_false_eq_true, or_false, false_or, wI_get, false_and, true_and, and_true, and_false, and_self, Nat.reduceEqDiff, Nat.succ_ne_zero, reduceCtorEq, nI_lit, nI_lit0, Nat.reduceLT, eq_self, Nat.zero_add, mn_lit, mn_lit', mn_0] at *
      first | (simp only [c_an1, *, ↓reduceIte, Nat.add_zero, or_true, true_or, not_true_eq_false, not_false_eq_true, or_false, false_or, wI_get, false_and, true_and, and_true, and_false, and_self, Nat.reduceEqDiff, Nat.succ_ne_zero, reduceCtorEq, nI_lit, nI_lit0, Nat.reduceLT, eq_self, Nat.zero_add, mn_lit, mn_lit', mn_0] at kk; first | with_reducible exact kk | (simp only [*]; done) | (simp only [*]; with_reducible exact kk)) | (exfalso; simp_all only [↓reduceIte, Nat.add_zero, or_true, true_or, not_true_eq_false, not_false_eq_true, or_false, false_or, wI_get, false_and, true_and, and_true, and_false, and_self, Nat.reduceEqDiff, Nat.succ_ne_zero, reduceCtorEq, nI_lit, nI_lit0, Nat.reduceLT, eq_self, Nat.zero_add, mn_lit, mn_lit', mn_0]; done)
    · refine xi_iconst (pc' := 50) rfl rfl ?_
      refine xi_goto (pc' := 54) rfl rfl ?_
      refine xi_istore (pc' := 56) rfl (st1_5 rfl) rfl ?_
      try simp only [ex_P, Classical.not_not, ↓reduceIte, Nat.add_zero, or_true, true_or, not_true_eq_false, not_false_eq_true, or_false, false_or, wI_get, false_and, true_and, and_true, and_false, and_self, Nat.reduceEqDiff, Nat.succ_ne_zero, reduceCtorEq, nI_lit, nI_lit0, Nat.reduceLT, eq_self, Nat.zero_add, mn_lit, mn_lit', mn_0] at *
      first | (simp only [c_an1, *, ↓reduceIte, Nat.add_zero, or_true, true_or, not_true_eq_false, not_false_eq_true, or_false, false_or, wI_get, false_and, true_and, and_true, and_false, and_self, Nat.reduceEqDiff, Nat.succ_ne_zero, reduceCtorEq, nI_lit, nI_lit0, Nat.reduceLT, eq_self, Nat.zero_add, mn_lit, mn_lit', mn_0] at kk; first | with_reducible exact kk | (simp only [*]; done) | (simp only [*]; with_reducible exact kk)) | (exfalso; simp_all only [↓reduceIte, Nat.add_zero, or_true, true_or, not_true_eq_false, not_false_eq_true, or_false, false_or, wI_get, false_and, true_and, and_true, and_false, and_self, Nat.reduceEqDiff, Nat.succ_ne_zero, reduceCtorEq, nI_lit, nI_lit0, Nat.reduceLT, eq_self, Nat.zero_add, mn_lit, mn_lit', mn_0]; done)
theorem c_md_3 {L : Nat} {xs : Nat → Int32} {D n : Nat} {I J : ex_Mem} {Q : Option Value → ex_Hp → Prop} {t b : Nat} {cd : Int32} (ht : t < 6) (hb : b < 2) (hmo : monB I) {ob an : Int32} (kk : xx cb_G L xs (D + 4) 33 83 [.ref 1, .ref (8 + 6 * t), .int cd, .int (nI b), .int ob, .int an, .int (c_sg an I t b).1, ex_no] [] (mkH n (c_sg an I t b).2 J) Q) : xx cb_G L xs (D + 4) 33 56 [.ref 1, .ref (8 + 6 * t), .int cd, .int (nI b), .int ob, .int an, ex_no, ex_no] [] (mkH n I J) Q := by
  refine xi_iload (pc' := 58) rfl rfl rfl ?_
  refine xx_if (pc' := 61) (tg := 80) rfl rfl rfl (fun q58 => ?_) (fun q58 => ?_)
  · refine xi_iconst (pc' := 81) rfl rfl ?_
    refine xi_istore (pc' := 83) rfl (st1_6 rfl) rfl ?_
    try simp only [ex_P, Classical.not_not, ↓reduceIte, Nat.add_zero, or_true, true_or, not_true_eq_false, not_false_eq_true, or_false, false_or, wI_get, false_and, true_and, and_true, and_false, and_self, Nat.reduceEqDiff, Nat.succ_ne_zero, reduceCtorEq, nI_lit, nI_lit0, Nat.reduceLT, eq_self, Nat.zero_add, mn_lit, mn_lit', mn_0] at *
    first | (simp only [c_sg, c_bo, *, ↓reduceIte, Nat.add_zero, or_true, true_or, not_true_eq_false, not_false_eq_true, or_false, false_or, wI_get, false_and, true_and, and_true, and_false, and_self, Nat.reduceEqDiff, Nat.succ_ne_zero, reduceCtorEq, nI_lit, nI_lit0, Nat.reduceLT, eq_self, Nat.zero_add, mn_lit, mn_lit', mn_0] at kk; first | with_reducible exact kk | (simp only [*]; done) | (simp only [*]; with_reducible exact kk)) | (exfalso; simp_all only [↓reduceIte, Nat.add_zero, or_true, true_or, not_true_eq_false, not_false_eq_true, or_false, false_or, wI_get, false_and, true_and, and_true, and_false, and_self, Nat.reduceEqDiff, Nat.succ_ne_zero, reduceCtorEq, nI_lit, nI_lit0, Nat.reduceLT, eq_self, Nat.zero_add, mn_lit, mn_lit', mn_0]; done)
  · refine xi_aload_n (pc' := 62) rfl rfl rfl ?_
    refine xc_getp (pc' := 65) rfl rfl (by decide) rfl (by omega) (by decide) rfl rfl rfl ?_
    refine xi_iload_n (pc' := 66) rfl rfl rfl ?_
    refine xi_aload_n (pc' := 67) rfl rfl rfl ?_
    refine xx_callVi (pc' := 70) rfl rfl (by decide) rfl (kd_T0 ht) (by show _ < 81 + 2 * _; omega) (Nat.le_of_ble_eq_true rfl) rfl rfl (c_status ht) ?_
    refine xx_callVi (pc' := 73) rfl rfl (by decide) rfl rfl (by show _ < 81 + 2 * _; omega) (Nat.le_of_ble_eq_true rfl) rfl rfl (c_carry hb (by repeat (first | assumption | apply put_mon | apply dat_mon | apply obey_mon | apply obm_mon | apply rcv_mon))) ?_
    refine xx_if (pc' := 76) (tg := 80) rfl rfl rfl (fun q73 => ?_) (fun q73 => ?_)
    · refine xi_iconst (pc' := 81) rfl rfl ?_
      refine xi_istore (pc' := 83) rfl (st1_6 rfl) rfl ?_
      try simp only [ex_P, Classical.not_not, ↓reduceIte, Nat.add_zero, or_true, true_or, not_true_eq_false, not_false_eq_true, or_false, false_or, wI_get, false_and, true_and, and_true, and_false, and_self, Nat.reduceEqDiff, Nat.succ_ne_zero, reduceCtorEq, nI_lit, nI_lit0, Nat.reduceLT, eq_self, Nat.zero_add, mn_lit, mn_lit', mn_0] at *
      first | (simp only [c_sg, c_bo, *, ↓reduceIte, Nat.add_zero, or_true, true_or, not_true_eq_false, not_false_eq_true, or_false, false_or, wI_get, false_and, true_and, and_true, and_false, and_self, Nat.reduceEqDiff, Nat.succ_ne_zero, reduceCtorEq, nI_lit, nI_lit0, Nat.reduceLT, eq_self, Nat.zero_add, mn_lit, mn_lit', mn_0] at kk; first | with_reducible exact kk | (simp only [*]; done) | (simp only [*]; with_reducible exact kk)) | (exfalso; simp_all only [↓reduceIte, Nat.add_zero, or_true, true_or, not_true_eq_false, not_false_eq_true, or_false, false_or, wI_get, false_and, true_and, and_true, and_false, and_self, Nat.reduceEqDiff, Nat.succ_ne_zero, reduceCtorEq, nI_lit, nI_lit0, Nat.reduceLT, eq_self, Nat.zero_add, mn_lit, mn_lit', mn_0]; done)
    · refine xi_iconst (pc' := 77) rfl rfl ?_
      refine xi_goto (pc' := 81) rfl rfl ?_
      refine xi_istore (pc' := 83) rfl (st1_6 rfl) rfl ?_
      try simp only [ex_P, Classical.not_not, ↓reduceIte, Nat.add_zero, or_true, true_or, not_true_eq_false, not_false_eq_true, or_false, false_or, wI_get, false_and, true_and, and_true, and_false, and_self, Nat.reduceEqDiff, Nat.succ_ne_zero, reduceCtorEq, nI_lit, nI_lit0, Nat.reduceLT, eq_self, Nat.zero_add, mn_lit, mn_lit', mn_0] at *
      first | (simp only [c_sg, c_bo, *, ↓reduceIte, Nat.add_zero, or_true, true_or, not_true_eq_false, not_false_eq_true, or_false, false_or, wI_get, false_and, true_and, and_true, and_false, and_self, Nat.reduceEqDiff, Nat.succ_ne_zero, reduceCtorEq, nI_lit, nI_lit0, Nat.reduceLT, eq_self, Nat.zero_add, mn_lit, mn_lit', mn_0] at kk; first | with_reducible exact kk | (simp only [*]; done) | (simp only [*]; with_reducible exact kk)) | (exfalso; simp_all only [↓reduceIte, Nat.add_zero, or_true, true_or, not_true_eq_false, not_false_eq_true, or_false, false_or, wI_get, false_and, true_and, and_true, and_false, and_self, Nat.reduceEqDiff, Nat.succ_ne_zero, reduceCtorEq, nI_lit, nI_lit0, Nat.reduceLT, eq_self, Nat.zero_add, mn_lit, mn_lit', mn_0]; done)
theorem c_md_4 {L : Nat} {xs : Nat → Int32} {D n : Nat} {I J : ex_Mem} {t b : Nat} {cd : Int32} (ht : t < 6) (hb : b < 2) (hmo : monB I) {ob an sg : Int32} (h01 : ex_b01 sg = true) : xx cb_G L xs (D + 4) 33 83 [.ref 1, .ref (8 + 6 * t), .int cd, .int (nI b), .int ob, .int an, .int sg, ex_no] [] (mkH n I J) (fun r h => r = some (.int (c_mdR an sg I t cd b).1) ∧ h = mkH n (c_mdR an sg I t cd b).2 J) := by
  refine xi_iload_n (pc' := 84) rfl rfl rfl ?_
  refine xi_bipush (pc' := 86) rfl (by decide) rfl ?_
  refine xx_icmp (pc' := 89) (tg := 92) rfl rfl rfl (fun q86 => ?_) (fun q86 => ?_)
  · refine xi_iload (pc' := 94) rfl rfl rfl ?_
    refine xx_if (pc' := 97) (tg := 119) rfl rfl rfl (fun q94 => ?_) (fun q94 => ?_)
    · refine xi_iconst (pc' := 120) rfl rfl ?_
      refine xi_istore (pc' := 122) rfl (st1_7 rfl) rfl ?_
      refine xi_iload (pc' := 124) rfl rfl rfl ?_
      refine xx_if (pc' := 127) (tg := 136) rfl rfl rfl (fun q124 => ?_) (fun q124 => ?_)
      · refine xi_iconst (pc' := 137) rfl rfl ?_
        refine xx_zreturn rfl rfl (by first | rfl | assumption | exact b01_bI | simp [ex_b01, bI]) ?_
        simp only [ex_P, Classical.not_not, ↓reduceIte, Nat.add_zero, or_true, true_or, not_true_eq_false, not_false_eq_true, or_false, false_or, wI_get, false_and, true_and, and_true, and_false, and_self, Nat.reduceEqDiff, Nat.succ_ne_zero, reduceCtorEq, nI_lit, nI_lit0, Nat.reduceLT, eq_self, Nat.zero_add, mn_lit, mn_lit', mn_0] at *
        first | (simp only [c_mdR, c_md4, c_lg, c_bo, *, ↓reduceIte, Nat.add_zero, or_true, true_or, not_true_eq_false, not_false_eq_true, or_false, false_or, wI_get, false_and, true_and, and_true, and_false, and_self, Nat.reduceEqDiff, Nat.succ_ne_zero, reduceCtorEq, nI_lit, nI_lit0, Nat.reduceLT, eq_self, Nat.zero_add, mn_lit, mn_lit', mn_0]; done) | (exfalso; simp_all only [↓reduceIte, Nat.add_zero, or_true, true_or, not_true_eq_false, not_false_eq_true, or_false, false_or, wI_get, false_and, true_and, and_true, and_false, and_self, Nat.reduceEqDiff, Nat.succ_ne_zero, reduceCtorEq, nI_lit, nI_lit0, Nat.reduceLT, eq_self, Nat.zero_add, mn_lit, mn_lit', mn_0]; done)
      · refine xi_iload (pc' := 129) rfl rfl rfl ?_
        refine xi_ift (pc' := 136) rfl rfl (by decide) ?_
        refine xi_iconst (pc' := 137) rfl rfl ?_
        refine xx_zreturn rfl rfl (by first | rfl | assumption | exact b01_bI | simp [ex_b01, bI]) ?_
        simp only [ex_P, Classical.not_not, ↓reduceIte, Nat.add_zero, or_true, true_or, not_true_eq_false, not_false_eq_true, or_false, false_or, wI_get, false_and, true_and, and_true, and_false, and_self, Nat.reduceEqDiff, Nat.succ_ne_zero, reduceCtorEq, nI_lit, nI_lit0, Nat.reduceLT, eq_self, Nat.zero_add, mn_lit, mn_lit', mn_0] at *
        first | (simp only [c_mdR, c_md4, c_lg, c_bo, *, ↓reduceIte, Nat.add_zero, or_true, true_or, not_true_eq_false, not_false_eq_true, or_false, false_or, wI_get, false_and, true_and, and_true, and_false, and_self, Nat.reduceEqDiff, Nat.succ_ne_zero, reduceCtorEq, nI_lit, nI_lit0, Nat.reduceLT, eq_self, Nat.zero_add, mn_lit, mn_lit', mn_0]; done) | (exfalso; simp_all only [↓reduceIte, Nat.add_zero, or_true, true_or, not_true_eq_false, not_false_eq_true, or_false, false_or, wI_get, false_and, true_and, and_true, and_false, and_self, Nat.reduceEqDiff, Nat.succ_ne_zero, reduceCtorEq, nI_lit, nI_lit0, Nat.reduceLT, eq_self, Nat.zero_add, mn_lit, mn_lit', mn_0]; done)
    · refine xi_aload_n (pc' := 98) rfl rfl rfl ?_
      refine xc_getp (pc' := 101) rfl rfl (by decide) rfl (by omega) (by decide) rfl rfl rfl ?_
      refine xi_iload_n (pc' := 102) rfl rfl rfl ?_
      refine xx_ldc (v := nI 65536) (pc' := 104) rfl rfl (by decide) rfl ?_
      refine xi_aload_n (pc' := 105) rfl rfl rfl ?_
      refine xc_geti (pc' := 108) rfl rfl (by decide) (kd_T0 ht) (by omega) (by omega) (by decide) (by decide) rfl ?_
      refine xi_iadd (pc' := 109) rfl rfl ?_
      refine xx_callVi (pc' := 112) rfl rfl (by decide) rfl rfl (by show _ < 81 + 2 * _; omega) (Nat.le_of_ble_eq_true rfl) rfl rfl (c_carry hb (by repeat (first | assumption | apply put_mon | apply dat_mon | apply obey_mon | apply obm_mon | apply rcv_mon))) ?_
      refine xx_if (pc' := 115) (tg := 119) rfl rfl rfl (fun q112 => ?_) (fun q112 => ?_)
      · refine xi_iconst (pc' := 120) rfl rfl ?_
        refine xi_istore (pc' := 122) rfl (st1_7 rfl) rfl ?_
        refine xi_iload (pc' := 124) rfl rfl rfl ?_
        refine xx_if (pc' := 127) (tg := 136) rfl rfl rfl (fun q124 => ?_) (fun q124 => ?_)
        · refine xi_iconst (pc' := 137) rfl rfl ?_
          refine xx_zreturn rfl rfl (by first | rfl | assumption | exact b01_bI | simp [ex_b01, bI]) ?_
          simp only [ex_P, Classical.not_not, ↓reduceIte, Nat.add_zero, or_true, true_or, not_true_eq_false, not_false_eq_true, or_false, false_or, wI_get, false_and, true_and, and_true, and_false, and_self, Nat.reduceEqDiff, Nat.succ_ne_zero, reduceCtorEq, nI_lit, nI_lit0, Nat.reduceLT, eq_self, Nat.zero_add, mn_lit, mn_lit', mn_0] at *
          first | (simp only [c_mdR, c_md4, c_lg, c_bo, *, ↓reduceIte, Nat.add_zero, or_true, true_or, not_true_eq_false, not_false_eq_true, or_false, false_or, wI_get, false_and, true_and, and_true, and_false, and_self, Nat.reduceEqDiff, Nat.succ_ne_zero, reduceCtorEq, nI_lit, nI_lit0, Nat.reduceLT, eq_self, Nat.zero_add, mn_lit, mn_lit', mn_0]; done) | (exfalso; simp_all only [↓reduceIte, Nat.add_zero, or_true, true_or, not_true_eq_false, not_false_eq_true, or_false, false_or, wI_get, false_and, true_and, and_true, and_false, and_self, Nat.reduceEqDiff, Nat.succ_ne_zero, reduceCtorEq, nI_lit, nI_lit0, Nat.reduceLT, eq_self, Nat.zero_add, mn_lit, mn_lit', mn_0]; done)
        · refine xi_iload (pc' := 129) rfl rfl rfl ?_
          refine xi_ift (pc' := 136) rfl rfl (by decide) ?_
          refine xi_iconst (pc' := 137) rfl rfl ?_
          refine xx_zreturn rfl rfl (by first | rfl | assumption | exact b01_bI | simp [ex_b01, bI]) ?_
          simp only [ex_P, Classical.not_not, ↓reduceIte, Nat.add_zero, or_true, true_or, not_true_eq_false, not_false_eq_true, or_false, false_or, wI_get, false_and, true_and, and_true, and_false, and_self, Nat.reduceEqDiff, Nat.succ_ne_zero, reduceCtorEq, nI_lit, nI_lit0, Nat.reduceLT, eq_self, Nat.zero_add, mn_lit, mn_lit', mn_0] at *
          first | (simp only [c_mdR, c_md4, c_lg, c_bo, *, ↓reduceIte, Nat.add_zero, or_true, true_or, not_true_eq_false, not_false_eq_true, or_false, false_or, wI_get, false_and, true_and, and_true, and_false, and_self, Nat.reduceEqDiff, Nat.succ_ne_zero, reduceCtorEq, nI_lit, nI_lit0, Nat.reduceLT, eq_self, Nat.zero_add, mn_lit, mn_lit', mn_0]; done) | (exfalso; simp_all only [↓reduceIte, Nat.add_zero, or_true, true_or, not_true_eq_false, not_false_eq_true, or_false, false_or, wI_get, false_and, true_and, and_true, and_false, and_self, Nat.reduceEqDiff, Nat.succ_ne_zero, reduceCtorEq, nI_lit, nI_lit0, Nat.reduceLT, eq_self, Nat.zero_add, mn_lit, mn_lit', mn_0]; done)
      · refine xi_iconst (pc' := 116) rfl rfl ?_
        refine xi_goto (pc' := 120) rfl rfl ?_
        refine xi_istore (pc' := 122) rfl (st1_7 rfl) rfl ?_
        refine xi_iload (pc' := 124) rfl rfl rfl ?_
        refine xx_if (pc' := 127) (tg := 136) rfl rfl rfl (fun q124 => ?_) (fun q124 => ?_)
        · refine xi_iconst (pc' := 137) rfl rfl ?_
          refine xx_zreturn rfl rfl (by first | rfl | assumption | exact b01_bI | simp [ex_b01, bI]) ?_
          simp only [ex_P, Classical.not_not, ↓reduceIte, Nat.add_zero, or_true, true_or, not_true_eq_false, not_false_eq_true, or_false, false_or, wI_get, false_and, true_and, and_true, and_false, and_self, Nat.reduceEqDiff, Nat.succ_ne_zero, reduceCtorEq, nI_lit, nI_lit0, Nat.reduceLT, eq_self, Nat.zero_add, mn_lit, mn_lit', mn_0] at *
          first | (simp only [c_mdR, c_md4, c_lg, c_bo, *, ↓reduceIte, Nat.add_zero, or_true, true_or, not_true_eq_false, not_false_eq_true, or_false, false_or, wI_get, false_and, true_and, and_true, and_false, and_self, Nat.reduceEqDiff, Nat.succ_ne_zero, reduceCtorEq, nI_lit, nI_lit0, Nat.reduceLT, eq_self, Nat.zero_add, mn_lit, mn_lit', mn_0]; done) | (exfalso; simp_all only [↓reduceIte, Nat.add_zero, or_true, true_or, not_true_eq_false, not_false_eq_true, or_false, false_or, wI_get, false_and, true_and, and_true, and_false, and_self, Nat.reduceEqDiff, Nat.succ_ne_zero, reduceCtorEq, nI_lit, nI_lit0, Nat.reduceLT, eq_self, Nat.zero_add, mn_lit, mn_lit', mn_0]; done)
        · refine xi_iload (pc' := 129) rfl rfl rfl ?_
          refine xi_iff (pc' := 132) (tg := 136) rfl rfl (by decide) rfl ?_
          refine xi_iconst (pc' := 133) rfl rfl ?_
          refine xi_goto (pc' := 137) rfl rfl ?_
          refine xx_zreturn rfl rfl (by first | rfl | assumption | exact b01_bI | simp [ex_b01, bI]) ?_
          simp only [ex_P, Classical.not_not, ↓reduceIte, Nat.add_zero, or_true, true_or, not_true_eq_false, not_false_eq_true, or_false, false_or, wI_get, false_and, true_and, and_true, and_false, and_self, Nat.reduceEqDiff, Nat.succ_ne_zero, reduceCtorEq, nI_lit, nI_lit0, Nat.reduceLT, eq_self, Nat.zero_add, mn_lit, mn_lit', mn_0] at *
          first | (simp only [c_mdR, c_md4, c_lg, c_bo, *, ↓reduceIte, Nat.add_zero, or_true, true_or, not_true_eq_false, not_false_eq_true, or_false, false_or, wI_get, false_and, true_and, and_true, and_false, and_self, Nat.reduceEqDiff, Nat.succ_ne_zero, reduceCtorEq, nI_lit, nI_lit0, Nat.reduceLT, eq_self, Nat.zero_add, mn_lit, mn_lit', mn_0]; done) | (exfalso; simp_all only [↓reduceIte, Nat.add_zero, or_true, true_or, not_true_eq_false, not_false_eq_true, or_false, false_or, wI_get, false_and, true_and, and_true, and_false, and_self, Nat.reduceEqDiff, Nat.succ_ne_zero, reduceCtorEq, nI_lit, nI_lit0, Nat.reduceLT, eq_self, Nat.zero_add, mn_lit, mn_lit', mn_0]; done)
  · refine xi_iload (pc' := 91) rfl rfl rfl ?_
    refine xx_zreturn rfl rfl (h01) ?_
    simp only [ex_P, Classical.not_not, ↓reduceIte, Nat.add_zero, or_true, true_or, not_true_eq_false, not_false_eq_true, or_false, false_or, wI_get, false_and, true_and, and_true, and_false, and_self, Nat.reduceEqDiff, Nat.succ_ne_zero, reduceCtorEq, nI_lit, nI_lit0, Nat.reduceLT, eq_self, Nat.zero_add, mn_lit, mn_lit', mn_0] at *
    first | (simp only [c_mdR, c_md4, c_lg, c_bo, *, ↓reduceIte, Nat.add_zero, or_true, true_or, not_true_eq_false, not_false_eq_true, or_false, false_or, wI_get, false_and, true_and, and_true, and_false, and_self, Nat.reduceEqDiff, Nat.succ_ne_zero, reduceCtorEq, nI_lit, nI_lit0, Nat.reduceLT, eq_self, Nat.zero_add, mn_lit, mn_lit', mn_0]; done) | (exfalso; simp_all only [↓reduceIte, Nat.add_zero, or_true, true_or, not_true_eq_false, not_false_eq_true, or_false, false_or, wI_get, false_and, true_and, and_true, and_false, and_self, Nat.reduceEqDiff, Nat.succ_ne_zero, reduceCtorEq, nI_lit, nI_lit0, Nat.reduceLT, eq_self, Nat.zero_add, mn_lit, mn_lit', mn_0]; done)
theorem c_md_eq {I : ex_Mem} {t b : Nat} {cd : Int32} : c_md I t cd b = c_mdR (c_an1 (c_om I t cd b) t b).1 (c_sg (c_an1 (c_om I t cd b) t b).1 (c_an1 (c_om I t cd b) t b).2 t b).1 (c_sg (c_an1 (c_om I t cd b) t b).1 (c_an1 (c_om I t cd b) t b).2 t b).2 t cd b := by
  unfold c_md c_md1 c_md2
  rfl
theorem c_mode_ok {L : Nat} {xs : Nat → Int32} {D n : Nat} {I J : ex_Mem} {t b : Nat} {cd : Int32} (ht : t < 6) (hb : b < 2) (hmo : monB I) : ri L xs (D + 4) 33 [.ref 1, .ref (8 + 6 * t), .int cd, .int (nI b)] (mkH n I J) (c_md I t cd b).1 (mkH n (c_md I t cd b).2 J) := by
  show xx cb_G _ _ _ 33 0 [.ref 1, .ref (8 + 6 * t), .int cd, .int (nI b), ex_no, ex_no, ex_no, ex_no] [] _ _
  rw [c_md_eq]
  refine c_md_1 ht hb hmo ?_
  refine c_md_2 ht hb (om_mon hmo) ?_
  refine c_md_3 ht hb (om_mon hmo) ?_
  exact c_md_4 ht hb (sg_mon (om_mon hmo)) sg_b01
theorem an1_2 {B : Int32 × ex_Mem} {t b : Nat} : (c_an1 B t b).2 = B.2 := rfl
theorem bo_2 {A : Int32 × ex_Mem} : (c_bo A).2 = A.2 := rfl
theorem clg_fr {S : ex_Mem} {an : Int32} {t b a k : Nat} (h : a < 4 ∨ 8 ≤ a) : (c_lg an S t b).2 a k = S a k := by
  unfold c_lg
  split
  · rfl
  · rw [bo_2]; exact cput_fr h
theorem lg_mon {S : ex_Mem} {an : Int32} {t b : Nat} (h : monB S) : monB (c_lg an S t b).2 := by
  unfold c_lg
  split
  · exact h
  · rw [bo_2]; exact put_mon h
theorem cmdR_fr {S : ex_Mem} {an sg cd : Int32} {t b a k : Nat} (h : a < 4 ∨ 8 ≤ a) : (c_mdR an sg S t cd b).2 a k = S a k := by
  unfold c_mdR
  split
  · exact clg_fr h
  · rfl
theorem mdR_mon {S : ex_Mem} {an sg cd : Int32} {t b : Nat} (h : monB S) : monB (c_mdR an sg S t cd b).2 := by
  unfold c_mdR
  split
  · exact lg_mon h
  · exact h
theorem cmd_fr {I : ex_Mem} {t b a k : Nat} {cd : Int32} (h : a < 4 ∨ 8 ≤ a) (h8 : a ≠ 8 + 6 * t) (h9 : a ≠ 9 + 6 * t) : (c_md I t cd b).2 a k = I a k := by
  rw [c_md_eq, cmdR_fr h, csg_fr h, an1_2]
  exact com_fr h h8 h9
theorem md_mon {I : ex_Mem} {t b : Nat} {cd : Int32} (h : monB I) : monB (c_md I t cd b).2 := by
  rw [c_md_eq]
  refine mdR_mon (sg_mon ?_)
  rw [an1_2]
  exact om_mon h
theorem md_b01 {I : ex_Mem} {t b : Nat} {cd : Int32} : ex_b01 (c_md I t cd b).1 = true := by
  rw [c_md_eq]
  unfold c_mdR
  split
  · unfold c_md4
    dsimp only
    split
    · rfl
    · split <;> rfl
  · exact sg_b01
theorem c_poll1 {L : Nat} {xs : Nat → Int32} {D n : Nat} {I J : ex_Mem} {t b : Nat} (ht : t < 6) (hb : b < 2) (hmo : monB I) (hbu : I 1 2 = nI b) : ri L xs (D + 5) 32 [.ref 1, .int (nI t)] (mkH n I J) ((c_md I t (nI 2) b).1) (mkH n (c_md I t (nI 2) b).2 J) := by
  show xx cb_G _ _ _ 32 0 [.ref 1, .int (nI t)] [] _ _
  refine xi_aload_n (pc' := 1) rfl rfl rfl ?_
  refine xi_aload_n (pc' := 2) rfl rfl rfl ?_
  refine xc_getp (pc' := 5) rfl rfl (by decide) rfl (by omega) (by decide) rfl rfl rfl ?_
  refine xi_iload_n (pc' := 6) rfl rfl rfl ?_
  refine xc_aald (j := t) (pc' := 7) rfl rfl (by omega) (by first | rfl | (simp only [ix_add, ix_mul, ix_pred]; done) | (simp only [ix_add, ix_mul, ix_pred, *]; done)) (by omega) (by decide) (pd_2 ht) rfl ?_
  refine xi_iconst (pc' := 8) rfl rfl ?_
  refine xi_aload_n (pc' := 9) rfl rfl rfl ?_
  refine xc_getiv (v := nI (b)) (pc' := 12) rfl rfl (by decide) rfl (by decide) (by omega) (by decide) (by decide) (hbu) rfl ?_
  refine xx_callVi (pc' := 15) rfl rfl (by decide) rfl rfl (by show _ < 81 + 2 * _; omega) (Nat.le_of_ble_eq_true rfl) rfl rfl (c_mode_ok ht hb hmo) ?_
  refine xx_zreturn rfl rfl (md_b01) ?_
  exact ⟨rfl, rfl⟩
def c_mm1 (A : Int32 × ex_Mem) (m t : Nat) (cd : Int32) : Int32 × ex_Mem := (A.1, if A.1 = 0 then A.2 else if cd = nI 18 then ex_wI A.2 (82 + 2 * m) 0 (A.2 (8 + 6 * t) 4) else A.2)
def c_mm (I : ex_Mem) (m t : Nat) (cd : Int32) (b : Nat) : Int32 × ex_Mem := c_mm1 (c_md I t cd b) m t cd
theorem c_modeMsg {L : Nat} {xs : Nat → Int32} {D n : Nat} {I J : ex_Mem} {m x b : Nat} {cd : Int32} (hb : b < 2) (h8 : n ≤ 8) (hm : m < n) (hmo : monB I) (hx : x < 6) (hxx : I (81 + 2 * m) 1 = nI x) (hn : I (81 + 2 * m) 4 = cd) : ri L xs (D + 5) 40 [.ref 1, .ref (81 + 2 * m), .int (nI b)] (mkH n I J) ((c_mm I m x cd b).1) (mkH n (c_mm I m x cd b).2 J) := by
  show xx cb_G _ _ _ 40 0 [.ref 1, .ref (81 + 2 * m), .int (nI b), ex_no, ex_no] [] _ _
  refine xi_aload_n (pc' := 1) rfl rfl rfl ?_
  refine xc_getp (pc' := 4) rfl rfl (by decide) rfl (by omega) (by decide) rfl rfl rfl ?_
  refine xi_aload_n (pc' := 5) rfl rfl rfl ?_
  refine xc_getiv (v := nI (x)) (pc' := 8) rfl rfl (by decide) (kd_M0 (Nat.lt_of_lt_of_le hm h8)) (by omega) (by omega) (by decide) (by decide) (hxx) rfl ?_
  refine xc_aald (j := x) (pc' := 9) rfl rfl (by omega) (by first | rfl | (simp only [ix_add, ix_mul, ix_pred]; done) | (simp only [ix_add, ix_mul, ix_pred, *]; done)) (by omega) (by decide) (pd_2 hx) rfl ?_
  refine xi_astore_n (pc' := 10) rfl (st1_3 rfl) rfl ?_
  refine xi_aload_n (pc' := 11) rfl rfl rfl ?_
  refine xi_aload_n (pc' := 12) rfl rfl rfl ?_
  refine xi_aload_n (pc' := 13) rfl rfl rfl ?_
  refine xc_getiv (v := cd) (pc' := 16) rfl rfl (by decide) (kd_M0 (Nat.lt_of_lt_of_le hm h8)) (by omega) (by omega) (by decide) (by decide) (hn) rfl ?_
  refine xi_iload_n (pc' := 17) rfl rfl rfl ?_
  refine xx_callVi (pc' := 20) rfl rfl (by decide) rfl rfl (by show _ < 81 + 2 * _; omega) (Nat.le_of_ble_eq_true rfl) rfl rfl (c_mode_ok hx hb hmo) ?_
  refine xi_istore (pc' := 22) rfl (st1_4 rfl) rfl ?_
  refine xi_iload (pc' := 24) rfl rfl rfl ?_
  refine xx_if (pc' := 27) (tg := 46) rfl rfl rfl (fun q24 => ?_) (fun q24 => ?_)
  · refine xi_iload (pc' := 48) rfl rfl rfl ?_
    refine xx_zreturn rfl rfl (md_b01) ?_
    try (simp only [ex_P, Classical.not_not] at q33; subst q33)
    simp only [ex_P, Classical.not_not, ↓reduceIte, Nat.add_zero, or_true, true_or, not_true_eq_false, not_false_eq_true, or_false, false_or, wI_get, false_and, true_and, and_true, and_false, and_self, Nat.reduceEqDiff, Nat.succ_ne_zero, reduceCtorEq, nI_lit, nI_lit0, Nat.reduceLT, eq_self, Nat.zero_add, mn_lit, mn_lit', mn_0] at *
    first | (simp only [c_mm, c_mm1, *, ↓reduceIte, Nat.add_zero, or_true, true_or, not_true_eq_false, not_false_eq_true, or_false, false_or, wI_get, false_and, true_and, and_true, and_false, and_self, Nat.reduceEqDiff, Nat.succ_ne_zero, reduceCtorEq, nI_lit, nI_lit0, Nat.reduceLT, eq_self, Nat.zero_add, mn_lit, mn_lit', mn_0]; done) | (exfalso; simp_all only [↓reduceIte, Nat.add_zero, or_true, true_or, not_true_eq_false, not_false_eq_true, or_false, false_or, wI_get, false_and, true_and, and_true, and_false, and_self, Nat.reduceEqDiff, Nat.succ_ne_zero, reduceCtorEq, nI_lit, nI_lit0, Nat.reduceLT, eq_self, Nat.zero_add, mn_lit, mn_lit', mn_0]; done)
  · refine xi_aload_n (pc' := 28) rfl rfl rfl ?_
    refine xc_getiv (v := cd) (pc' := 31) rfl rfl (by decide) (kd_M0 (Nat.lt_of_lt_of_le hm h8)) (by omega) (by omega) (by decide) (by decide) ((cmd_fr (by omega) (by omega) (by omega)).trans hn) rfl ?_
    refine xi_bipush (pc' := 33) rfl (by decide) rfl ?_
    refine xx_icmp (pc' := 36) (tg := 46) rfl rfl rfl (fun q33 => ?_) (fun q33 => ?_)
    · refine xi_iload (pc' := 48) rfl rfl rfl ?_
      refine xx_zreturn rfl rfl (md_b01) ?_
      try (simp only [ex_P, Classical.not_not] at q33; subst q33)
      simp only [ex_P, Classical.not_not, ↓reduceIte, Nat.add_zero, or_true, true_or, not_true_eq_false, not_false_eq_true, or_false, false_or, wI_get, false_and, true_and, and_true, and_false, and_self, Nat.reduceEqDiff, Nat.succ_ne_zero, reduceCtorEq, nI_lit, nI_lit0, Nat.reduceLT, eq_self, Nat.zero_add, mn_lit, mn_lit', mn_0] at *
      first | (simp only [c_mm, c_mm1, *, ↓reduceIte, Nat.add_zero, or_true, true_or, not_true_eq_false, not_false_eq_true, or_false, false_or, wI_get, false_and, true_and, and_true, and_false, and_self, Nat.reduceEqDiff, Nat.succ_ne_zero, reduceCtorEq, nI_lit, nI_lit0, Nat.reduceLT, eq_self, Nat.zero_add, mn_lit, mn_lit', mn_0]; done) | (exfalso; simp_all only [↓reduceIte, Nat.add_zero, or_true, true_or, not_true_eq_false, not_false_eq_true, or_false, false_or, wI_get, false_and, true_and, and_true, and_false, and_self, Nat.reduceEqDiff, Nat.succ_ne_zero, reduceCtorEq, nI_lit, nI_lit0, Nat.reduceLT, eq_self, Nat.zero_add, mn_lit, mn_lit', mn_0]; done)
    · refine xi_aload_n (pc' := 37) rfl rfl rfl ?_
      refine xc_getp (pc' := 40) rfl rfl (by decide) (kd_M0 (Nat.lt_of_lt_of_le hm h8)) (by omega) (by decide) rfl (pd_M hm) rfl ?_
      refine xi_iconst (pc' := 41) rfl rfl ?_
      refine xi_aload_n (pc' := 42) rfl rfl rfl ?_
      refine xc_geti (pc' := 45) rfl rfl (by decide) (kd_T0 hx) (by omega) (by omega) (by decide) (by decide) rfl ?_
      refine xc_iast (j := 0) (pc' := 46) rfl (kd_M1 (Nat.lt_of_lt_of_le hm h8)) (by omega) (by omega) (by first | rfl | (simp only [ix_add, ix_mul, ix_pred]; done) | (simp only [ix_add, ix_mul, ix_pred, *]; done)) (by omega) (by decide) rfl ?_
      refine xi_iload (pc' := 48) rfl rfl rfl ?_
      refine xx_zreturn rfl rfl (md_b01) ?_
      try (simp only [ex_P, Classical.not_not] at q33; subst q33)
      simp only [ex_P, Classical.not_not, ↓reduceIte, Nat.add_zero, or_true, true_or, not_true_eq_false, not_false_eq_true, or_false, false_or, wI_get, false_and, true_and, and_true, and_false, and_self, Nat.reduceEqDiff, Nat.succ_ne_zero, reduceCtorEq, nI_lit, nI_lit0, Nat.reduceLT, eq_self, Nat.zero_add, mn_lit, mn_lit', mn_0] at *
      first | (simp only [c_mm, c_mm1, *, ↓reduceIte, Nat.add_zero, or_true, true_or, not_true_eq_false, not_false_eq_true, or_false, false_or, wI_get, false_and, true_and, and_true, and_false, and_self, Nat.reduceEqDiff, Nat.succ_ne_zero, reduceCtorEq, nI_lit, nI_lit0, Nat.reduceLT, eq_self, Nat.zero_add, mn_lit, mn_lit', mn_0]; done) | (exfalso; simp_all only [↓reduceIte, Nat.add_zero, or_true, true_or, not_true_eq_false, not_false_eq_true, or_false, false_or, wI_get, false_and, true_and, and_true, and_false, and_self, Nat.reduceEqDiff, Nat.succ_ne_zero, reduceCtorEq, nI_lit, nI_lit0, Nat.reduceLT, eq_self, Nat.zero_add, mn_lit, mn_lit', mn_0]; done)
def c_tl2 (R : Int32 × ex_Mem) (t : Nat) : ex_Mem := ex_wI R.2 (8 + 6 * t) 3 R.1
def c_tl1 (O : Int32 × ex_Mem) (t s a nn : Nat) (g : Int32) : ex_Mem := if O.1 = 0 then O.2 else c_tl2 (c_rcv O.2 t s a 0 nn g) t
def c_tell (S : ex_Mem) (cg c g : Int32) (s a nn : Nat) : Nat → ex_Mem
  | 0 => S
  | t + 1 => if cg = 0 then c_tell S cg c g s a nn t else c_tl1 (c_obey (c_tell S cg c g s a nn t) t c) t s a nn g
theorem rcv_b01 {I : ex_Mem} {t s r f nn : Nat} {g : Int32} : ex_b01 (c_rcv I t s r f nn g).1 = true := by
  unfold c_rcv
  split <;> rfl
theorem ctl1_fr {O : Int32 × ex_Mem} {t s r nn a k : Nat} {g : Int32} (h : a ≠ 8 + 6 * t) (h12 : a ≠ 12 + 6 * t) (h13 : a ≠ 13 + 6 * t) : c_tl1 O t s r nn g a k = O.2 a k := by
  unfold c_tl1 c_tl2
  split
  · rfl
  · exact (wI_fr h).trans (crcv_fr h h12 h13)
theorem ctell_fr {S : ex_Mem} {cg c g : Int32} {s r nn a k : Nat} (h : a < 8 ∨ 44 ≤ a) : ∀ t, t ≤ 6 → c_tell S cg c g s r nn t a k = S a k
  | 0, _ => rfl
  | t + 1, ht => by
    unfold c_tell
    split
    · exact ctell_fr h t (by omega)
    · exact (ctl1_fr (by omega) (by omega) (by omega)).trans ((cobey_fr (by omega)).trans (ctell_fr h t (by omega)))
def c_ta1 (A D : Int32 × ex_Mem) (m s nn : Nat) : ex_Mem := c_tell D.2 A.1 (c_rw 31 s nn) D.1 s (82 + 2 * m) nn 6
def c_ta0 (A : Int32 × ex_Mem) (m s nn b : Nat) : ex_Mem := c_ta1 A (c_dat A.2 b (82 + 2 * m) 0 nn) m s nn
def c_telAll (I : ex_Mem) (m s nn b : Nat) : ex_Mem := c_ta0 (c_put I b (c_rw 31 s nn)) m s nn b
theorem ctell_s {S : ex_Mem} {cg c g : Int32} {s r nn t : Nat} : c_tell S cg c g s r nn (t + 1) = if cg = 0 then c_tell S cg c g s r nn t else c_tl1 (c_obey (c_tell S cg c g s r nn t) t c) t s r nn g := rfl
theorem c_tell_loop {L : Nat} {xs : Nat → Int32} {D n : Nat} {I J : ex_Mem} {m b s nn : Nat} {w cg g : Int32} (hb : b < 2) (h8 : n ≤ 8) (hm : m < n) (hs : s < 3) (hsb : I (81 + 2 * m) 3 = nI (s + 1)) (hn : I (81 + 2 * m) 4 = nI nn) (h1 : 1 ≤ nn) (h4 : nn ≤ 4) : ∀ (j t : Nat), t + j = 6 → ∀ v7 : Value, v7.category = 1 → xx cb_G L xs (D + 2) 39 47 [.ref 1, .ref (81 + 2 * m), .int (nI b), .int w, .int cg, .int g, .int (nI t), v7] [] (mkH n (c_tell I cg w g s (82 + 2 * m) nn t) J) (fun r h => r = none ∧ h = mkH n (c_tell I cg w g s (82 + 2 * m) nn 6) J) := by
  intro j
  induction j with
  | zero =>
    intro t hk v7 h7
    have hk : t = 6 := by omega
    subst hk
    refine xi_iload (pc' := 49) rfl rfl rfl ?_
    refine xi_bipush (pc' := 51) rfl (by decide) rfl ?_
    refine xx_icmp (pc' := 54) (tg := 108) rfl rfl rfl (fun q51 => ?_) (fun q51 => absurd (show ex_P .ge (nI 6) (nI 6) from Int32.le_refl _) q51)
    refine xx_return rfl (by decide) ?_
    exact ⟨rfl, rfl⟩
  | succ j ih =>
    intro t hk v7 h7
    have ht : t < 6 := by omega
    have e0 : ∀ k, (c_tell I cg w g s (82 + 2 * m) nn t) (81 + 2 * m) k = I (81 + 2 * m) k := fun k => ctell_fr (by omega) t (by omega)
    refine xi_iload (pc' := 49) rfl rfl rfl ?_
    refine xi_bipush (pc' := 51) rfl (by decide) rfl ?_
    refine xx_icmp (pc' := 54) (tg := 108) rfl rfl rfl (fun q51 => absurd q51 (show ¬ ex_P .ge (nI t) (nI 6) from nI_ge (by omega) (by omega))) (fun q51 => ?_)
    refine xi_aload_n (pc' := 55) rfl rfl rfl ?_
    refine xc_getp (pc' := 58) rfl rfl (by decide) rfl (by omega) (by decide) rfl rfl rfl ?_
    refine xi_iload (pc' := 60) rfl rfl rfl ?_
    refine xc_aald (j := t) (pc' := 61) rfl rfl (by omega) (by first | rfl | (simp only [ix_add, ix_mul, ix_pred]; done) | (simp only [ix_add, ix_mul, ix_pred, *]; done)) (by omega) (by decide) (pd_2 ht) rfl ?_
    refine xi_astore (pc' := 63) rfl (st1_7 rfl) rfl ?_
    refine xi_iload (pc' := 65) rfl rfl rfl ?_
    refine xx_if (pc' := 68) (tg := 102) rfl rfl rfl (fun q65 => ?_) (fun q65 => ?_)
    · refine xi_iincv (y := nI (t + 1)) (pc' := 105) rfl rfl (ix_add _ _) (st1_6 rfl) rfl ?_
      refine xi_goto (pc' := 47) rfl rfl ?_
      have e := ctell_s (S := I) (cg := cg) (c := w) (g := g) (s := s) (r := 82 + 2 * m) (nn := nn) (t := t)
      simp only [ex_P, Classical.not_not, ↓reduceIte, Nat.add_zero, or_true, true_or, not_true_eq_false, not_false_eq_true, or_false, false_or, wI_get, false_and, true_and, and_true, and_false, and_self, Nat.reduceEqDiff, Nat.succ_ne_zero, reduceCtorEq, nI_lit, nI_lit0, Nat.reduceLT, eq_self, Nat.zero_add, mn_lit, mn_lit', mn_0] at q65
      try subst q65
      try simp only [ex_P, Classical.not_not, ↓reduceIte, Nat.add_zero, or_true, true_or, not_true_eq_false, not_false_eq_true, or_false, false_or, wI_get, false_and, true_and, and_true, and_false, and_self, Nat.reduceEqDiff, Nat.succ_ne_zero, reduceCtorEq, nI_lit, nI_lit0, Nat.reduceLT, eq_self, Nat.zero_add, mn_lit, mn_lit', mn_0] at q74
      simp only [c_tl1, c_tl2, *, ↓reduceIte, Nat.add_zero, or_true, true_or, not_true_eq_false, not_false_eq_true, or_false, false_or, wI_get, false_and, true_and, and_true, and_false, and_self, Nat.reduceEqDiff, Nat.succ_ne_zero, reduceCtorEq, nI_lit, nI_lit0, Nat.reduceLT, eq_self, Nat.zero_add, mn_lit, mn_lit', mn_0] at e
      have gg := ih (t + 1) (by omega) (.ref (8 + 6 * t)) rfl
      rw [e] at gg
      first | exact gg | (simp only [*] at gg ⊢; exact gg)
    · refine xi_aload (pc' := 70) rfl rfl rfl ?_
      refine xi_iload_n (pc' := 71) rfl rfl rfl ?_
      refine xx_callVi (pc' := 74) rfl rfl (by decide) rfl (kd_T0 ht) (by show _ < 81 + 2 * _; omega) (Nat.le_of_ble_eq_true rfl) rfl rfl (c_obey_ok ht) ?_
      refine xx_if (pc' := 77) (tg := 102) rfl rfl rfl (fun q74 => ?_) (fun q74 => ?_)
      · refine xi_iincv (y := nI (t + 1)) (pc' := 105) rfl rfl (ix_add _ _) (st1_6 rfl) rfl ?_
        refine xi_goto (pc' := 47) rfl rfl ?_
        have e := ctell_s (S := I) (cg := cg) (c := w) (g := g) (s := s) (r := 82 + 2 * m) (nn := nn) (t := t)
        simp only [ex_P, Classical.not_not, ↓reduceIte, Nat.add_zero, or_true, true_or, not_true_eq_false, not_false_eq_true, or_false, false_or, wI_get, false_and, true_and, and_true, and_false, and_self, Nat.reduceEqDiff, Nat.succ_ne_zero, reduceCtorEq, nI_lit, nI_lit0, Nat.reduceLT, eq_self, Nat.zero_add, mn_lit, mn_lit', mn_0] at q65
        try subst q65
        try simp only [ex_P, Classical.not_not, ↓reduceIte, Nat.add_zero, or_true, true_or, not_true_eq_false, not_false_eq_true, or_false, false_or, wI_get, false_and, true_and, and_true, and_false, and_self, Nat.reduceEqDiff, Nat.succ_ne_zero, reduceCtorEq, nI_lit, nI_lit0, Nat.reduceLT, eq_self, Nat.zero_add, mn_lit, mn_lit', mn_0] at q74
        simp only [c_tl1, c_tl2, *, ↓reduceIte, Nat.add_zero, or_true, true_or, not_true_eq_false, not_false_eq_true, or_false, false_or, wI_get, false_and, true_and, and_true, and_false, and_self, Nat.reduceEqDiff, Nat.succ_ne_zero, reduceCtorEq, nI_lit, nI_lit0, Nat.reduceLT, eq_self, Nat.zero_add, mn_lit, mn_lit', mn_0] at e
        have gg := ih (t + 1) (by omega) (.ref (8 + 6 * t)) rfl
        rw [e] at gg
        first | exact gg | (simp only [*] at gg ⊢; exact gg)
      · refine xi_aload (pc' := 79) rfl rfl rfl ?_
        refine xi_aload (pc' := 81) rfl rfl rfl ?_
        refine xi_iload (pc' := 83) rfl rfl rfl ?_
        refine xi_aload_n (pc' := 84) rfl rfl rfl ?_
        refine xc_getiv (v := nI (s + 1)) (pc' := 87) rfl rfl (by decide) (kd_M0 (Nat.lt_of_lt_of_le hm h8)) (by omega) (by omega) (by decide) (by decide) ((cobey_fr (by omega)).trans ((e0 3).trans hsb)) rfl ?_
        refine xi_aload_n (pc' := 88) rfl rfl rfl ?_
        refine xc_getp (pc' := 91) rfl rfl (by decide) (kd_M0 (Nat.lt_of_lt_of_le hm h8)) (by omega) (by decide) rfl (pd_M hm) rfl ?_
        refine xi_iconst (pc' := 92) rfl rfl ?_
        refine xi_aload_n (pc' := 93) rfl rfl rfl ?_
        refine xc_getiv (v := nI (nn)) (pc' := 96) rfl rfl (by decide) (kd_M0 (Nat.lt_of_lt_of_le hm h8)) (by omega) (by omega) (by decide) (by decide) ((cobey_fr (by omega)).trans ((e0 4).trans hn)) rfl ?_
        refine xx_callVi (pc' := 99) rfl rfl (by decide) rfl (kd_T0 ht) (by show _ < 81 + 2 * _; omega) (Nat.le_of_ble_eq_true rfl) rfl rfl (c_receive ht hs (kd_M1 (Nat.lt_of_lt_of_le hm h8)) (by omega) (by omega) (by omega) (by decide) (by omega) (show 0 + nn ≤ 4 by omega) h1 h4) ?_
        refine xc_puti (pc' := 102) rfl rfl (by decide) (kd_T0 ht) (by omega) (by omega) (by decide) (Or.inr ⟨rfl, rcv_b01⟩) rfl ?_
        refine xi_iincv (y := nI (t + 1)) (pc' := 105) rfl rfl (ix_add _ _) (st1_6 rfl) rfl ?_
        refine xi_goto (pc' := 47) rfl rfl ?_
        have e := ctell_s (S := I) (cg := cg) (c := w) (g := g) (s := s) (r := 82 + 2 * m) (nn := nn) (t := t)
        simp only [ex_P, Classical.not_not, ↓reduceIte, Nat.add_zero, or_true, true_or, not_true_eq_false, not_false_eq_true, or_false, false_or, wI_get, false_and, true_and, and_true, and_false, and_self, Nat.reduceEqDiff, Nat.succ_ne_zero, reduceCtorEq, nI_lit, nI_lit0, Nat.reduceLT, eq_self, Nat.zero_add, mn_lit, mn_lit', mn_0] at q65
        try subst q65
        try simp only [ex_P, Classical.not_not, ↓reduceIte, Nat.add_zero, or_true, true_or, not_true_eq_false, not_false_eq_true, or_false, false_or, wI_get, false_and, true_and, and_true, and_false, and_self, Nat.reduceEqDiff, Nat.succ_ne_zero, reduceCtorEq, nI_lit, nI_lit0, Nat.reduceLT, eq_self, Nat.zero_add, mn_lit, mn_lit', mn_0] at q74
        simp only [c_tl1, c_tl2, *, ↓reduceIte, Nat.add_zero, or_true, true_or, not_true_eq_false, not_false_eq_true, or_false, false_or, wI_get, false_and, true_and, and_true, and_false, and_self, Nat.reduceEqDiff, Nat.succ_ne_zero, reduceCtorEq, nI_lit, nI_lit0, Nat.reduceLT, eq_self, Nat.zero_add, mn_lit, mn_lit', mn_0] at e
        have gg := ih (t + 1) (by omega) (.ref (8 + 6 * t)) rfl
        rw [e] at gg
        first | exact gg | (simp only [*] at gg ⊢; exact gg)
theorem c_tellAll {L : Nat} {xs : Nat → Int32} {D n : Nat} {I J : ex_Mem} {m b s nn : Nat} (hb : b < 2) (h8 : n ≤ 8) (hm : m < n) (hmo : monB I) (hs : s < 3) (hsb : I (81 + 2 * m) 3 = nI (s + 1)) (hn : I (81 + 2 * m) 4 = nI nn) (h1 : 1 ≤ nn) (h4 : nn ≤ 4) : ro L xs (D + 3) 39 [.ref 1, .ref (81 + 2 * m), .int (nI b)] (mkH n I J) (mkH n (c_telAll I m s nn b) J) := by
  show xx cb_G _ _ _ 39 0 [.ref 1, .ref (81 + 2 * m), .int (nI b), ex_no, ex_no, ex_no, ex_no, ex_no] [] _ _
  refine xi_bipush (pc' := 2) rfl (by decide) rfl ?_
  refine xi_aload_n (pc' := 3) rfl rfl rfl ?_
  refine xc_getiv (v := nI (s + 1)) (pc' := 6) rfl rfl (by decide) (kd_M0 (Nat.lt_of_lt_of_le hm h8)) (by omega) (by omega) (by decide) (by decide) (hsb) rfl ?_
  refine xi_aload_n (pc' := 7) rfl rfl rfl ?_
  refine xc_getiv (v := nI (nn)) (pc' := 10) rfl rfl (by decide) (kd_M0 (Nat.lt_of_lt_of_le hm h8)) (by omega) (by omega) (by decide) (by decide) (hn) rfl ?_
  refine xx_callSi (pc' := 13) rfl rfl (by decide) rfl (Nat.le_of_ble_eq_true rfl) rfl rfl (c_toRecN) ?_
  refine xi_istore_n (pc' := 14) rfl (st1_3 rfl) rfl ?_
  refine xi_aload_n (pc' := 15) rfl rfl rfl ?_
  refine xc_getp (pc' := 18) rfl rfl (by decide) rfl (by omega) (by decide) rfl rfl rfl ?_
  refine xi_iload_n (pc' := 19) rfl rfl rfl ?_
  refine xi_iload_n (pc' := 20) rfl rfl rfl ?_
  refine xx_callVi (pc' := 23) rfl rfl (by decide) rfl rfl (by show _ < 81 + 2 * _; omega) (Nat.le_of_ble_eq_true rfl) rfl rfl (c_carry hb (by repeat (first | assumption | apply put_mon | apply dat_mon | apply obey_mon | apply obm_mon | apply rcv_mon))) ?_
  refine xi_istore (pc' := 25) rfl (st1_4 rfl) rfl ?_
  refine xi_aload_n (pc' := 26) rfl rfl rfl ?_
  refine xc_getp (pc' := 29) rfl rfl (by decide) rfl (by omega) (by decide) rfl rfl rfl ?_
  refine xi_iload_n (pc' := 30) rfl rfl rfl ?_
  refine xi_aload_n (pc' := 31) rfl rfl rfl ?_
  refine xc_getp (pc' := 34) rfl rfl (by decide) (kd_M0 (Nat.lt_of_lt_of_le hm h8)) (by omega) (by decide) rfl (pd_M hm) rfl ?_
  refine xi_iconst (pc' := 35) rfl rfl ?_
  refine xi_aload_n (pc' := 36) rfl rfl rfl ?_
  refine xc_getiv (v := nI (nn)) (pc' := 39) rfl rfl (by decide) (kd_M0 (Nat.lt_of_lt_of_le hm h8)) (by omega) (by omega) (by decide) (by decide) ((cput_fr (by omega)).trans hn) rfl ?_
  refine xx_callVi (pc' := 42) rfl rfl (by decide) rfl rfl (by show _ < 81 + 2 * _; omega) (Nat.le_of_ble_eq_true rfl) rfl rfl (c_carryData hb (kd_M1 (Nat.lt_of_lt_of_le hm h8)) (by omega) (by omega) (by omega) (show 0 + nn ≤ 4 by omega) (by decide) h4 (put_mon hmo)) ?_
  refine xi_istore (pc' := 44) rfl (st1_5 rfl) rfl ?_
  refine xi_iconst (pc' := 45) rfl rfl ?_
  refine xi_istore (pc' := 47) rfl (st1_6 rfl) rfl ?_
  have e1 : ∀ k, (c_dat (c_put I b (c_rw 31 s nn)).2 b (82 + 2 * m) 0 nn).2 (81 + 2 * m) k = I (81 + 2 * m) k := fun k => (cdat_fr (by omega) nn).trans (cput_fr (by omega))
  exact c_tell_loop hb h8 hm hs ((e1 3).trans hsb) ((e1 4).trans hn) h1 h4 6 0 (by omega) _ rfl
