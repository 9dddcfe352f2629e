/-! what the system's steps leave as it was -/
theorem cpt_fr {A : Int32 × ex_Mem} {b a k : Nat} {w : Int32} (h4 : a ≠ 4) (h5 : a ≠ 5) : (c_pt A b w).2 a k = A.2 a k := by
  unfold c_pt c_wr
  split
  · rfl
  · split
    · rfl
    · simp only [wI_fr h4, wI_fr h5]
theorem chit_fr {I : ex_Mem} {b a k : Nat} (h6 : a ≠ 6) (h7 : a ≠ 7) : (c_hit I b).2 a k = I a k := by
  unfold c_hit
  split
  · rfl
  · split
    · split
      · rfl
      · exact wI_fr h6
    · exact wI_fr h7
theorem cput_fr {I : ex_Mem} {b a k : Nat} {w : Int32} (h : a < 4 ∨ 8 ≤ a) : (c_put I b w).2 a k = I a k := (cpt_fr (by omega) (by omega)).trans (chit_fr (by omega) (by omega))
theorem cdat_fr {I : ex_Mem} {b r f a k : Nat} (h : a < 4 ∨ 8 ≤ a) : ∀ j, (c_dat I b r f j).2 a k = I a k
  | 0 => rfl
  | j + 1 => (cput_fr h).trans (cdat_fr h j)
theorem cclr_fr {I : ex_Mem} {t a k : Nat} (h : a ≠ 8 + 6 * t) : c_clr I t a k = I a k := (wI_fr h).trans (wI_fr h)
theorem cobey_fr {I : ex_Mem} {t a k : Nat} {c : Int32} (h : a ≠ 8 + 6 * t) : (c_obey I t c).2 a k = I a k := by
  unfold c_obey
  split
  · rfl
  · exact (wI_fr h).trans (cclr_fr h)
theorem cm1_fr {I : ex_Mem} {t a k : Nat} {cd : Int32} (h : a ≠ 8 + 6 * t) : c_m1 I t cd a k = I a k := by
  unfold c_m1
  split
  · rfl
  · split
    · rfl
    · exact cclr_fr h
theorem cm2_fr {I : ex_Mem} {t a k : Nat} {cd : Int32} (h : a ≠ 8 + 6 * t) : c_m2 I t cd a k = I a k := by
  unfold c_m2
  split
  · rfl
  · exact wI_fr h
theorem cchg_fr {I : ex_Mem} {t a k ob : Nat} {cd : Int32} (h : a ≠ 8 + 6 * t) (h9 : a ≠ 9 + 6 * t) : c_chg I t cd ob a k = I a k := by
  unfold c_chg
  split
  · exact wI_fr h
  · split
    · exact wI_fr h9
    · split
      · exact wI_fr h9
      · split
        · exact (wI_fr h9).trans (wI_fr h9)
        · rfl
theorem cobm_fr {I : ex_Mem} {t a k b : Nat} {cd : Int32} (h : a ≠ 8 + 6 * t) (h9 : a ≠ 9 + 6 * t) : (c_obeyM I t cd b).2 a k = I a k := by
  unfold c_obeyM
  split
  · rfl
  · exact (cchg_fr h h9).trans ((cm2_fr h).trans (cm1_fr h))
theorem crcv_fr {I : ex_Mem} {t s r f nn a k : Nat} {g : Int32} (h : a ≠ 8 + 6 * t) (h12 : a ≠ 12 + 6 * t) (h13 : a ≠ 13 + 6 * t) : (c_rcv I t s r f nn g).2 a k = I a k := by
  unfold c_rcv c_fill
  split
  · exact wI_fr h
  · simp only [wI_fr h12, wI_fr h13]
theorem obey_mon {I : ex_Mem} {t : Nat} {c : Int32} (h : monB I) : monB (c_obey I t c).2 := monB_eq h (cobey_fr (by omega))
theorem obm_mon {I : ex_Mem} {t b : Nat} {cd : Int32} (h : monB I) : monB (c_obeyM I t cd b).2 := monB_eq h (cobm_fr (by omega) (by omega))
theorem rcv_mon {I : ex_Mem} {t s r f nn : Nat} {g : Int32} (h : monB I) : monB (c_rcv I t s r f nn g).2 := monB_eq h (crcv_fr (by omega) (by omega) (by omega))
/-! the parts of an attempt -/
def c_ob1 (A : Int32 × ex_Mem) (t : Nat) (w : Int32) : Int32 × ex_Mem := if A.1 = 0 then (nI 0, A.2) else (if (c_obey A.2 t w).1 = 0 then nI 0 else nI 1, (c_obey A.2 t w).2)
def c_ob (I : ex_Mem) (t b : Nat) (w : Int32) : Int32 × ex_Mem := c_ob1 (c_put I b w) t w
def c_an1 (B : Int32 × ex_Mem) (t b : Nat) : Int32 × ex_Mem := (if B.1 = 0 then nI 0 else if B.2 (9 + 6 * t) b = 0 then nI 1 else nI 0, B.2)
def c_an (I : ex_Mem) (t b : Nat) (w : Int32) : Int32 × ex_Mem := c_an1 (c_ob I t b w) t b
def c_bo (A : Int32 × ex_Mem) : Int32 × ex_Mem := (if A.1 = 0 then nI 0 else nI 1, A.2)
def c_sg (an : Int32) (S : ex_Mem) (t b : Nat) : Int32 × ex_Mem := if an = 0 then (nI 0, S) else c_bo (c_put S b (c_st S t))
def c_dg (an : Int32) (S : ex_Mem) (b a f nn : Nat) : Int32 × ex_Mem := if an = 0 then (nI 0, S) else c_bo (c_dat S b a f nn)
def c_rg (ob : Int32) (S : ex_Mem) (t s a f nn : Nat) (g : Int32) : Int32 × ex_Mem := if ob = 0 then (nI 0, S) else c_bo (c_rcv S t s a f nn g)
def c_fs (rc : Int32) (S : ex_Mem) (t b : Nat) : Int32 × ex_Mem := if rc = 0 then (nI 0, S) else if S (9 + 6 * t) b = 0 then c_bo (c_put S b (c_st S t)) else (nI 0, S)
theorem cob1_fr {A : Int32 × ex_Mem} {t a k : Nat} {w : Int32} (h : a ≠ 8 + 6 * t) : (c_ob1 A t w).2 a k = A.2 a k := by
  unfold c_ob1
  split
  · rfl
  · exact cobey_fr h
theorem cob_fr {I : ex_Mem} {t b a k : Nat} {w : Int32} (h : a < 4 ∨ 8 ≤ a) (h8 : a ≠ 8 + 6 * t) : (c_ob I t b w).2 a k = I a k := (cob1_fr h8).trans (cput_fr h)
theorem can_fr {I : ex_Mem} {t b a k : Nat} {w : Int32} (h : a < 4 ∨ 8 ≤ a) (h8 : a ≠ 8 + 6 * t) : (c_an I t b w).2 a k = I a k := cob_fr h h8
theorem csg_fr {S : ex_Mem} {an : Int32} {t b a k : Nat} (h : a < 4 ∨ 8 ≤ a) : (c_sg an S t b).2 a k = S a k := by
  unfold c_sg
  split
  · rfl
  · exact cput_fr h
theorem cdg_fr {S : ex_Mem} {an : Int32} {b r f nn a k : Nat} (h : a < 4 ∨ 8 ≤ a) : (c_dg an S b r f nn).2 a k = S a k := by
  unfold c_dg
  split
  · rfl
  · exact cdat_fr h nn
theorem crg_fr {S : ex_Mem} {ob g : Int32} {t s r f nn a k : Nat} (h : a ≠ 8 + 6 * t) (h12 : a ≠ 12 + 6 * t) (h13 : a ≠ 13 + 6 * t) : (c_rg ob S t s r f nn g).2 a k = S a k := by
  unfold c_rg
  split
  · rfl
  · exact crcv_fr h h12 h13
theorem cfs_fr {S : ex_Mem} {rc : Int32} {t b a k : Nat} (h : a < 4 ∨ 8 ≤ a) : (c_fs rc S t b).2 a k = S a k := by
  unfold c_fs
  split
  · rfl
  · split
    · exact cput_fr h
    · rfl
theorem ob_mon {I : ex_Mem} {t b : Nat} {w : Int32} (h : monB I) : monB (c_ob I t b w).2 := by
  unfold c_ob c_ob1
  split
  · exact put_mon h
  · exact obey_mon (put_mon h)
theorem an_mon {I : ex_Mem} {t b : Nat} {w : Int32} (h : monB I) : monB (c_an I t b w).2 := ob_mon h
theorem sg_mon {S : ex_Mem} {an : Int32} {t b : Nat} (h : monB S) : monB (c_sg an S t b).2 := by
  unfold c_sg
  split
  · exact h
  · exact put_mon h
theorem dg_mon {S : ex_Mem} {an : Int32} {b r f nn : Nat} (h : monB S) : monB (c_dg an S b r f nn).2 := by
  unfold c_dg
  split
  · exact h
  · exact dat_mon h nn
theorem rg_mon {S : ex_Mem} {ob g : Int32} {t s r f nn : Nat} (h : monB S) : monB (c_rg ob S t s r f nn g).2 := by
  unfold c_rg
  split
  · exact h
  · exact rcv_mon h
theorem c_gv1 {L : Nat} {xs : Nat → Int32} {D n : Nat} {I J : ex_Mem} {Q : Option Value → ex_Hp → Prop} {x : Nat} {w : Int32} (hx : x < 6) {m b : Nat} (hb : b < 2) (h8 : n ≤ 8) (hm : m < n) (hmo : monB I) (kk : xx cb_G L xs (D + 3) 36 56 [.ref 1, .ref (81 + 2 * m), .int (nI b), .ref (8 + 6 * x), .int w, .int (c_ob I x b w).1, ex_no, ex_no] [] (mkH n (c_ob I x b w).2 J) Q) : xx cb_G L xs (D + 3) 36 27 [.ref 1, .ref (81 + 2 * m), .int (nI b), .ref (8 + 6 * x), .int w, ex_no, ex_no, ex_no] [] (mkH n I J) Q := by
  refine xi_aload_n (pc' := 28) rfl rfl rfl ?_
  refine xc_getp (pc' := 31) rfl rfl (by decide) rfl (by omega) (by decide) rfl rfl rfl ?_
  refine xi_iload_n (pc' := 32) rfl rfl rfl ?_
  refine xi_iload (pc' := 34) rfl rfl rfl ?_
  refine xx_callVi (pc' := 37) rfl rfl (by decide) rfl rfl (by show _ < 81 + 2 * _; omega) (Nat.le_of_ble_eq_true rfl) rfl rfl (c_carry hb (by repeat (first | assumption | apply put_mon | apply dat_mon | apply obey_mon | apply obm_mon | apply rcv_mon))) ?_
  refine xx_if (pc' := 40) (tg := 53) rfl rfl rfl (fun q37 => ?_) (fun q37 => ?_)
  · refine xi_iconst (pc' := 54) rfl rfl ?_
    refine xi_istore (pc' := 56) rfl (st1_5 rfl) rfl ?_
    try simp only [ex_P, Classical.not_not, ↓reduceIte, Nat.add_zero, or_true, true_or, not_true_eq_false, not_false_eq_true, or_false, false_or, wI_get, false_and, true_and, and_true, and_false, and_self, Nat.reduceEqDiff, Nat.succ_ne_zero, reduceCtorEq, nI_lit, nI_lit0, Nat.reduceLT, eq_self, Nat.zero_add, mn_lit, mn_lit', mn_0] at *
    first | (simp only [c_ob, c_ob1, *, ↓reduceIte, Nat.add_zero, or_true, true_or, not_true_eq_false, not_false_eq_true, or_false, false_or, wI_get, false_and, true_and, and_true, and_false, and_self, Nat.reduceEqDiff, Nat.succ_ne_zero, reduceCtorEq, nI_lit, nI_lit0, Nat.reduceLT, eq_self, Nat.zero_add, mn_lit, mn_lit', mn_0] at kk; first | with_reducible exact kk | (simp only [*]; done) | (simp only [*]; with_reducible exact kk)) | (exfalso; simp_all only [↓reduceIte, Nat.add_zero, or_true, true_or, not_true_eq_false, not_false_eq_true, or_false, false_or, wI_get, false_and, true_and, and_true, and_false, and_self, Nat.reduceEqDiff, Nat.succ_ne_zero, reduceCtorEq, nI_lit, nI_lit0, Nat.reduceLT, eq_self, Nat.zero_add, mn_lit, mn_lit', mn_0]; done)
  · refine xi_aload_n (pc' := 41) rfl rfl rfl ?_
    refine xi_iload (pc' := 43) rfl rfl rfl ?_
    refine xx_callVi (pc' := 46) rfl rfl (by decide) rfl (kd_T0 hx) (by show _ < 81 + 2 * _; omega) (Nat.le_of_ble_eq_true rfl) rfl rfl (c_obey_ok hx) ?_
    refine xx_if (pc' := 49) (tg := 53) rfl rfl rfl (fun q46 => ?_) (fun q46 => ?_)
    · refine xi_iconst (pc' := 54) rfl rfl ?_
      refine xi_istore (pc' := 56) rfl (st1_5 rfl) rfl ?_
      try simp only [ex_P, Classical.not_not, ↓reduceIte, Nat.add_zero, or_true, true_or, not_true_eq_false, not_false_eq_true, or_false, false_or, wI_get, false_and, true_and, and_true, and_false, and_self, Nat.reduceEqDiff, Nat.succ_ne_zero, reduceCtorEq, nI_lit, nI_lit0, Nat.reduceLT, eq_self, Nat.zero_add, mn_lit, mn_lit', mn_0] at *
      first | (simp only [c_ob, c_ob1, *, ↓reduceIte, Nat.add_zero, or_true, true_or, not_true_eq_false, not_false_eq_true, or_false, false_or, wI_get, false_and, true_and, and_true, and_false, and_self, Nat.reduceEqDiff, Nat.succ_ne_zero, reduceCtorEq, nI_lit, nI_lit0, Nat.reduceLT, eq_self, Nat.zero_add, mn_lit, mn_lit', mn_0] at kk; first | with_reducible exact kk | (simp only [*]; done) | (simp only [*]; with_reducible exact kk)) | (exfalso; simp_all only [↓reduceIte, Nat.add_zero, or_true, true_or, not_true_eq_false, not_false_eq_true, or_false, false_or, wI_get, false_and, true_and, and_true, and_false, and_self, Nat.reduceEqDiff, Nat.succ_ne_zero, reduceCtorEq, nI_lit, nI_lit0, Nat.reduceLT, eq_self, Nat.zero_add, mn_lit, mn_lit', mn_0]; done)
    · refine xi_iconst (pc' := 50) rfl rfl ?_
      refine xi_goto (pc' := 54) rfl rfl ?_
      refine xi_istore (pc' := 56) rfl (st1_5 rfl) rfl ?_
      try simp only [ex_P, Classical.not_not, ↓reduceIte, Nat.add_zero, or_true, true_or, not_true_eq_false, not_false_eq_true, or_false, false_or, wI_get, false_and, true_and, and_true, and_false, and_self, Nat.reduceEqDiff, Nat.succ_ne_zero, reduceCtorEq, nI_lit, nI_lit0, Nat.reduceLT, eq_self, Nat.zero_add, mn_lit, mn_lit', mn_0] at *
      first | (simp only [c_ob, c_ob1, *, ↓reduceIte, Nat.add_zero, or_true, true_or, not_true_eq_false, not_false_eq_true, or_false, false_or, wI_get, false_and, true_and, and_true, and_false, and_self, Nat.reduceEqDiff, Nat.succ_ne_zero, reduceCtorEq, nI_lit, nI_lit0, Nat.reduceLT, eq_self, Nat.zero_add, mn_lit, mn_lit', mn_0] at kk; first | with_reducible exact kk | (simp only [*]; done) | (simp only [*]; with_reducible exact kk)) | (exfalso; simp_all only [↓reduceIte, Nat.add_zero, or_true, true_or, not_true_eq_false, not_false_eq_true, or_false, false_or, wI_get, false_and, true_and, and_true, and_false, and_self, Nat.reduceEqDiff, Nat.succ_ne_zero, reduceCtorEq, nI_lit, nI_lit0, Nat.reduceLT, eq_self, Nat.zero_add, mn_lit, mn_lit', mn_0]; done)
theorem c_gv2 {L : Nat} {xs : Nat → Int32} {D n : Nat} {I J : ex_Mem} {Q : Option Value → ex_Hp → Prop} {x nn : Nat} {w ob : Int32} (hx : x < 6) {m b : Nat} (hb : b < 2) (h8 : n ≤ 8) (hm : m < n) (hmo : monB I) (hn : I (81 + 2 * m) 4 = nI nn) (h4 : nn ≤ 4) (kk : xx cb_G L xs (D + 3) 36 75 [.ref 1, .ref (81 + 2 * m), .int (nI b), .ref (8 + 6 * x), .int w, .int ob, .int (c_dat I b (82 + 2 * m) 0 nn).1, ex_no] [] (mkH n (c_dat I b (82 + 2 * m) 0 nn).2 J) Q) : xx cb_G L xs (D + 3) 36 56 [.ref 1, .ref (81 + 2 * m), .int (nI b), .ref (8 + 6 * x), .int w, .int ob, ex_no, ex_no] [] (mkH n I J) Q := by
  refine xi_aload_n (pc' := 57) rfl rfl rfl ?_
  refine xc_getp (pc' := 60) rfl rfl (by decide) rfl (by omega) (by decide) rfl rfl rfl ?_
  refine xi_iload_n (pc' := 61) rfl rfl rfl ?_
  refine xi_aload_n (pc' := 62) rfl rfl rfl ?_
  refine xc_getp (pc' := 65) rfl rfl (by decide) (kd_M0 (Nat.lt_of_lt_of_le hm h8)) (by omega) (by decide) rfl (pd_M hm) rfl ?_
  refine xi_iconst (pc' := 66) rfl rfl ?_
  refine xi_aload_n (pc' := 67) rfl rfl rfl ?_
  refine xc_getiv (v := nI (nn)) (pc' := 70) rfl rfl (by decide) (kd_M0 (Nat.lt_of_lt_of_le hm h8)) (by omega) (by omega) (by decide) (by decide) (hn) rfl ?_
  refine xx_callVi (pc' := 73) rfl rfl (by decide) rfl rfl (by show _ < 81 + 2 * _; omega) (Nat.le_of_ble_eq_true rfl) rfl rfl (c_carryData hb (kd_M1 (Nat.lt_of_lt_of_le hm h8)) (by omega) (by omega) (by omega) (show 0 + nn ≤ 4 by omega) (by decide) h4 hmo) ?_
  refine xi_istore (pc' := 75) rfl (st1_6 rfl) rfl ?_
  try simp only [ex_P, Classical.not_not, ↓reduceIte, Nat.add_zero, or_true, true_or, not_true_eq_false, not_false_eq_true, or_false, false_or, wI_get, false_and, true_and, and_true, and_false, and_self, Nat.reduceEqDiff, Nat.succ_ne_zero, reduceCtorEq, nI_lit, nI_lit0, Nat.reduceLT, eq_self, Nat.zero_add, mn_lit, mn_lit', mn_0] at *
  exact kk
theorem c_gv3 {L : Nat} {xs : Nat → Int32} {D n : Nat} {I J : ex_Mem} {Q : Option Value → ex_Hp → Prop} {x s nn : Nat} {w ob g : Int32} (hx : x < 6) (hs : s < 3) {m b : Nat} (hb : b < 2) (h8 : n ≤ 8) (hm : m < n) (hmo : monB I) (hsb : I (81 + 2 * m) 3 = nI (s + 1)) (hn : I (81 + 2 * m) 4 = nI nn) (h1 : 1 ≤ nn) (h4 : nn ≤ 4) (kk : xx cb_G L xs (D + 3) 36 109 [.ref 1, .ref (81 + 2 * m), .int (nI b), .ref (8 + 6 * x), .int w, .int ob, .int g, .int (c_rg ob I x s (82 + 2 * m) 0 nn g).1] [] (mkH n (c_rg ob I x s (82 + 2 * m) 0 nn g).2 J) Q) : xx cb_G L xs (D + 3) 36 75 [.ref 1, .ref (81 + 2 * m), .int (nI b), .ref (8 + 6 * x), .int w, .int ob, .int g, ex_no] [] (mkH n I J) Q := by
  refine xi_iload (pc' := 77) rfl rfl rfl ?_
  refine xx_if (pc' := 80) (tg := 106) rfl rfl rfl (fun q77 => ?_) (fun q77 => ?_)
  · refine xi_iconst (pc' := 107) rfl rfl ?_
    refine xi_istore (pc' := 109) rfl (st1_7 rfl) rfl ?_
    try simp only [ex_P, Classical.not_not, ↓reduceIte, Nat.add_zero, or_true, true_or, not_true_eq_false, not_false_eq_true, or_false, false_or, wI_get, false_and, true_and, and_true, and_false, and_self, Nat.reduceEqDiff, Nat.succ_ne_zero, reduceCtorEq, nI_lit, nI_lit0, Nat.reduceLT, eq_self, Nat.zero_add, mn_lit, mn_lit', mn_0] at *
    first | (simp only [c_rg, c_bo, *, ↓reduceIte, Nat.add_zero, or_true, true_or, not_true_eq_false, not_false_eq_true, or_false, false_or, wI_get, false_and, true_and, and_true, and_false, and_self, Nat.reduceEqDiff, Nat.succ_ne_zero, reduceCtorEq, nI_lit, nI_lit0, Nat.reduceLT, eq_self, Nat.zero_add, mn_lit, mn_lit', mn_0] at kk; first | with_reducible exact kk | (simp only [*]; done) | (simp only [*]; with_reducible exact kk)) | (exfalso; simp_all only [↓reduceIte, Nat.add_zero, or_true, true_or, not_true_eq_false, not_false_eq_true, or_false, false_or, wI_get, false_and, true_and, and_true, and_false, and_self, Nat.reduceEqDiff, Nat.succ_ne_zero, reduceCtorEq, nI_lit, nI_lit0, Nat.reduceLT, eq_self, Nat.zero_add, mn_lit, mn_lit', mn_0]; done)
  · refine xi_aload_n (pc' := 81) rfl rfl rfl ?_
    refine xi_iload (pc' := 83) rfl rfl rfl ?_
    refine xi_aload_n (pc' := 84) rfl rfl rfl ?_
    refine xc_getiv (v := nI (s + 1)) (pc' := 87) rfl rfl (by decide) (kd_M0 (Nat.lt_of_lt_of_le hm h8)) (by omega) (by omega) (by decide) (by decide) (hsb) rfl ?_
    refine xi_aload_n (pc' := 88) rfl rfl rfl ?_
    refine xc_getp (pc' := 91) rfl rfl (by decide) (kd_M0 (Nat.lt_of_lt_of_le hm h8)) (by omega) (by decide) rfl (pd_M hm) rfl ?_
    refine xi_iconst (pc' := 92) rfl rfl ?_
    refine xi_aload_n (pc' := 93) rfl rfl rfl ?_
    refine xc_getiv (v := nI (nn)) (pc' := 96) rfl rfl (by decide) (kd_M0 (Nat.lt_of_lt_of_le hm h8)) (by omega) (by omega) (by decide) (by decide) (hn) rfl ?_
    refine xx_callVi (pc' := 99) rfl rfl (by decide) rfl (kd_T0 hx) (by show _ < 81 + 2 * _; omega) (Nat.le_of_ble_eq_true rfl) rfl rfl (c_receive hx hs (kd_M1 (Nat.lt_of_lt_of_le hm h8)) (by omega) (by omega) (by omega) (by decide) (by omega) (show 0 + nn ≤ 4 by omega) h1 h4) ?_
    refine xx_if (pc' := 102) (tg := 106) rfl rfl rfl (fun q99 => ?_) (fun q99 => ?_)
    · refine xi_iconst (pc' := 107) rfl rfl ?_
      refine xi_istore (pc' := 109) rfl (st1_7 rfl) rfl ?_
      try simp only [ex_P, Classical.not_not, ↓reduceIte, Nat.add_zero, or_true, true_or, not_true_eq_false, not_false_eq_true, or_false, false_or, wI_get, false_and, true_and, and_true, and_false, and_self, Nat.reduceEqDiff, Nat.succ_ne_zero, reduceCtorEq, nI_lit, nI_lit0, Nat.reduceLT, eq_self, Nat.zero_add, mn_lit, mn_lit', mn_0] at *
      first | (simp only [c_rg, c_bo, *, ↓reduceIte, Nat.add_zero, or_true, true_or, not_true_eq_false, not_false_eq_true, or_false, false_or, wI_get, false_and, true_and, and_true, and_false, and_self, Nat.reduceEqDiff, Nat.succ_ne_zero, reduceCtorEq, nI_lit, nI_lit0, Nat.reduceLT, eq_self, Nat.zero_add, mn_lit, mn_lit', mn_0] at kk; first | with_reducible exact kk | (simp only [*]; done) | (simp only [*]; with_reducible exact kk)) | (exfalso; simp_all only [↓reduceIte, Nat.add_zero, or_true, true_or, not_true_eq_false, not_false_eq_true, or_false, false_or, wI_get, false_and, true_and, and_true, and_false, and_self, Nat.reduceEqDiff, Nat.succ_ne_zero, reduceCtorEq, nI_lit, nI_lit0, Nat.reduceLT, eq_self, Nat.zero_add, mn_lit, mn_lit', mn_0]; done)
    · refine xi_iconst (pc' := 103) rfl rfl ?_
      refine xi_goto (pc' := 107) rfl rfl ?_
      refine xi_istore (pc' := 109) rfl (st1_7 rfl) rfl ?_
      try simp only [ex_P, Classical.not_not, ↓reduceIte, Nat.add_zero, or_true, true_or, not_true_eq_false, not_false_eq_true, or_false, false_or, wI_get, false_and, true_and, and_true, and_false, and_self, Nat.reduceEqDiff, Nat.succ_ne_zero, reduceCtorEq, nI_lit, nI_lit0, Nat.reduceLT, eq_self, Nat.zero_add, mn_lit, mn_lit', mn_0] at *
      first | (simp only [c_rg, c_bo, *, ↓reduceIte, Nat.add_zero, or_true, true_or, not_true_eq_false, not_false_eq_true, or_false, false_or, wI_get, false_and, true_and, and_true, and_false, and_self, Nat.reduceEqDiff, Nat.succ_ne_zero, reduceCtorEq, nI_lit, nI_lit0, Nat.reduceLT, eq_self, Nat.zero_add, mn_lit, mn_lit', mn_0] at kk; first | with_reducible exact kk | (simp only [*]; done) | (simp only [*]; with_reducible exact kk)) | (exfalso; simp_all only [↓reduceIte, Nat.add_zero, or_true, true_or, not_true_eq_false, not_false_eq_true, or_false, false_or, wI_get, false_and, true_and, and_true, and_false, and_self, Nat.reduceEqDiff, Nat.succ_ne_zero, reduceCtorEq, nI_lit, nI_lit0, Nat.reduceLT, eq_self, Nat.zero_add, mn_lit, mn_lit', mn_0]; done)
theorem c_gv4 {L : Nat} {xs : Nat → Int32} {D n : Nat} {I J : ex_Mem} {x : Nat} {w ob g rc : Int32} (hx : x < 6) {m b : Nat} (hb : b < 2) (h8 : n ≤ 8) (hm : m < n) (hmo : monB I) : xx cb_G L xs (D + 3) 36 109 [.ref 1, .ref (81 + 2 * m), .int (nI b), .ref (8 + 6 * x), .int w, .int ob, .int g, .int rc] [] (mkH n I J) (fun r h => r = some (.int (c_fs rc I x b).1) ∧ h = mkH n (c_fs rc I x b).2 J) := by
  refine xi_iload (pc' := 111) rfl rfl rfl ?_
  refine xx_if (pc' := 114) (tg := 142) rfl rfl rfl (fun q111 => ?_) (fun q111 => ?_)
  · refine xi_iconst (pc' := 143) rfl rfl ?_
    refine xx_zreturn rfl rfl (by first | rfl | assumption | exact b01_bI | simp [ex_b01, bI]) ?_
    simp only [ex_P, Classical.not_not, ↓reduceIte, Nat.add_zero, or_true, true_or, not_true_eq_false, not_false_eq_true, or_false, false_or, wI_get, false_and, true_and, and_true, and_false, and_self, Nat.reduceEqDiff, Nat.succ_ne_zero, reduceCtorEq, nI_lit, nI_lit0, Nat.reduceLT, eq_self, Nat.zero_add, mn_lit, mn_lit', mn_0] at *
    first | (simp only [c_fs, c_bo, *, ↓reduceIte, Nat.add_zero, or_true, true_or, not_true_eq_false, not_false_eq_true, or_false, false_or, wI_get, false_and, true_and, and_true, and_false, and_self, Nat.reduceEqDiff, Nat.succ_ne_zero, reduceCtorEq, nI_lit, nI_lit0, Nat.reduceLT, eq_self, Nat.zero_add, mn_lit, mn_lit', mn_0]; done) | (exfalso; simp_all only [↓reduceIte, Nat.add_zero, or_true, true_or, not_true_eq_false, not_false_eq_true, or_false, false_or, wI_get, false_and, true_and, and_true, and_false, and_self, Nat.reduceEqDiff, Nat.succ_ne_zero, reduceCtorEq, nI_lit, nI_lit0, Nat.reduceLT, eq_self, Nat.zero_add, mn_lit, mn_lit', mn_0]; done)
  · refine xi_aload_n (pc' := 115) rfl rfl rfl ?_
    refine xc_getp (pc' := 118) rfl rfl (by decide) (kd_T0 hx) (by omega) (by decide) rfl (pd_T6 hx) rfl ?_
    refine xi_iload_n (pc' := 119) rfl rfl rfl ?_
    refine xc_zald (j := b) (pc' := 120) rfl (kd_T1 hx) (by omega) (by omega) (by first | rfl | (simp only [ix_add, ix_mul, ix_pred]; done) | (simp only [ix_add, ix_mul, ix_pred, *]; done)) (by omega) (by decide) rfl ?_
    refine xx_if (pc' := 123) (tg := 142) rfl rfl rfl (fun q120 => ?_) (fun q120 => ?_)
    · refine xi_iconst (pc' := 143) rfl rfl ?_
      refine xx_zreturn rfl rfl (by first | rfl | assumption | exact b01_bI | simp [ex_b01, bI]) ?_
      simp only [ex_P, Classical.not_not, ↓reduceIte, Nat.add_zero, or_true, true_or, not_true_eq_false, not_false_eq_true, or_false, false_or, wI_get, false_and, true_and, and_true, and_false, and_self, Nat.reduceEqDiff, Nat.succ_ne_zero, reduceCtorEq, nI_lit, nI_lit0, Nat.reduceLT, eq_self, Nat.zero_add, mn_lit, mn_lit', mn_0] at *
      first | (simp only [c_fs, c_bo, *, ↓reduceIte, Nat.add_zero, or_true, true_or, not_true_eq_false, not_false_eq_true, or_false, false_or, wI_get, false_and, true_and, and_true, and_false, and_self, Nat.reduceEqDiff, Nat.succ_ne_zero, reduceCtorEq, nI_lit, nI_lit0, Nat.reduceLT, eq_self, Nat.zero_add, mn_lit, mn_lit', mn_0]; done) | (exfalso; simp_all only [↓reduceIte, Nat.add_zero, or_true, true_or, not_true_eq_false, not_false_eq_true, or_false, false_or, wI_get, false_and, true_and, and_true, and_false, and_self, Nat.reduceEqDiff, Nat.succ_ne_zero, reduceCtorEq, nI_lit, nI_lit0, Nat.reduceLT, eq_self, Nat.zero_add, mn_lit, mn_lit', mn_0]; done)
    · refine xi_aload_n (pc' := 124) rfl rfl rfl ?_
      refine xc_getp (pc' := 127) rfl rfl (by decide) rfl (by omega) (by decide) rfl rfl rfl ?_
      refine xi_iload_n (pc' := 128) rfl rfl rfl ?_
      refine xi_aload_n (pc' := 129) rfl rfl rfl ?_
      refine xx_callVi (pc' := 132) rfl rfl (by decide) rfl (kd_T0 hx) (by show _ < 81 + 2 * _; omega) (Nat.le_of_ble_eq_true rfl) rfl rfl (c_status hx) ?_
      refine xx_callVi (pc' := 135) rfl rfl (by decide) rfl rfl (by show _ < 81 + 2 * _; omega) (Nat.le_of_ble_eq_true rfl) rfl rfl (c_carry hb (by repeat (first | assumption | apply put_mon | apply dat_mon | apply obey_mon | apply obm_mon | apply rcv_mon))) ?_
      refine xx_if (pc' := 138) (tg := 142) rfl rfl rfl (fun q135 => ?_) (fun q135 => ?_)
      · refine xi_iconst (pc' := 143) rfl rfl ?_
        refine xx_zreturn rfl rfl (by first | rfl | assumption | exact b01_bI | simp [ex_b01, bI]) ?_
        simp only [ex_P, Classical.not_not, ↓reduceIte, Nat.add_zero, or_true, true_or, not_true_eq_false, not_false_eq_true, or_false, false_or, wI_get, false_and, true_and, and_true, and_false, and_self, Nat.reduceEqDiff, Nat.succ_ne_zero, reduceCtorEq, nI_lit, nI_lit0, Nat.reduceLT, eq_self, Nat.zero_add, mn_lit, mn_lit', mn_0] at *
        first | (simp only [c_fs, c_bo, *, ↓reduceIte, Nat.add_zero, or_true, true_or, not_true_eq_false, not_false_eq_true, or_false, false_or, wI_get, false_and, true_and, and_true, and_false, and_self, Nat.reduceEqDiff, Nat.succ_ne_zero, reduceCtorEq, nI_lit, nI_lit0, Nat.reduceLT, eq_self, Nat.zero_add, mn_lit, mn_lit', mn_0]; done) | (exfalso; simp_all only [↓reduceIte, Nat.add_zero, or_true, true_or, not_true_eq_false, not_false_eq_true, or_false, false_or, wI_get, false_and, true_and, and_true, and_false, and_self, Nat.reduceEqDiff, Nat.succ_ne_zero, reduceCtorEq, nI_lit, nI_lit0, Nat.reduceLT, eq_self, Nat.zero_add, mn_lit, mn_lit', mn_0]; done)
      · refine xi_iconst (pc' := 139) rfl rfl ?_
        refine xi_goto (pc' := 143) rfl rfl ?_
        refine xx_zreturn rfl rfl (by first | rfl | assumption | exact b01_bI | simp [ex_b01, bI]) ?_
        simp only [ex_P, Classical.not_not, ↓reduceIte, Nat.add_zero, or_true, true_or, not_true_eq_false, not_false_eq_true, or_false, false_or, wI_get, false_and, true_and, and_true, and_false, and_self, Nat.reduceEqDiff, Nat.succ_ne_zero, reduceCtorEq, nI_lit, nI_lit0, Nat.reduceLT, eq_self, Nat.zero_add, mn_lit, mn_lit', mn_0] at *
        first | (simp only [c_fs, c_bo, *, ↓reduceIte, Nat.add_zero, or_true, true_or, not_true_eq_false, not_false_eq_true, or_false, false_or, wI_get, false_and, true_and, and_true, and_false, and_self, Nat.reduceEqDiff, Nat.succ_ne_zero, reduceCtorEq, nI_lit, nI_lit0, Nat.reduceLT, eq_self, Nat.zero_add, mn_lit, mn_lit', mn_0]; done) | (exfalso; simp_all only [↓reduceIte, Nat.add_zero, or_true, true_or, not_true_eq_false, not_false_eq_true, or_false, false_or, wI_get, false_and, true_and, and_true, and_false, and_self, Nat.reduceEqDiff, Nat.succ_ne_zero, reduceCtorEq, nI_lit, nI_lit0, Nat.reduceLT, eq_self, Nat.zero_add, mn_lit, mn_lit', mn_0]; done)
def c_g2 (A : Int32 × ex_Mem) (D : Int32 × ex_Mem) (m x s nn b : Nat) : Int32 × ex_Mem := c_fs (c_rg A.1 D.2 x s (82 + 2 * m) 0 nn D.1).1 (c_rg A.1 D.2 x s (82 + 2 * m) 0 nn D.1).2 x b
def c_g1 (A : Int32 × ex_Mem) (m x s nn b : Nat) : Int32 × ex_Mem := c_g2 A (c_dat A.2 b (82 + 2 * m) 0 nn) m x s nn b
def c_rw (x s nn : Nat) : Int32 := nI x * nI 2048 + nI (s + 1) * nI 32 + nI nn
def c_sw (x s nn : Nat) : Int32 := nI x * nI 2048 + nI (s + 1) * nI 32 + nI nn + nI 1024
def c_give (I : ex_Mem) (m x s nn b : Nat) : Int32 × ex_Mem := c_g1 (c_ob I x b (c_rw x s nn)) m x s nn b
theorem c_give_ok {L : Nat} {xs : Nat → Int32} {D n : Nat} {I J : ex_Mem} {x s nn : Nat} {m b : Nat} (hb : b < 2) (h8 : n ≤ 8) (hm : m < n) (hmo : monB I) (hx : x < 6) (hs : s < 3) (h1 : 1 ≤ nn) (h4 : nn ≤ 4) (hxx : I (81 + 2 * m) 1 = nI x) (hsb : I (81 + 2 * m) 3 = nI (s + 1)) (hn : I (81 + 2 * m) 4 = nI nn) : ri L xs (D + 3) 36 [.ref 1, .ref (81 + 2 * m), .int (nI b)] (mkH n I J) ((c_give I m x s nn b).1) (mkH n (c_give I m x s nn b).2 J) := by
  show xx cb_G _ _ _ 36 0 [.ref 1, .ref (81 + 2 * m), .int (nI b), ex_no, ex_no, ex_no, ex_no, ex_no] [] _ _
  refine xi_aload_n (pc' := 1) rfl rfl rfl ?_
  refine xc_getp (pc' := 4) rfl rfl (by decide) rfl (by omega) (by decide) rfl rfl rfl ?_
  refine xi_aload_n (pc' := 5) rfl rfl rfl ?_
  refine xc_getiv (v := nI (x)) (pc' := 8) rfl rfl (by decide) (kd_M0 (Nat.lt_of_lt_of_le hm h8)) (by omega) (by omega) (by decide) (by decide) (hxx) rfl ?_
  refine xc_aald (j := x) (pc' := 9) rfl rfl (by omega) (by first | rfl | (simp only [ix_add, ix_mul, ix_pred]; done) | (simp only [ix_add, ix_mul, ix_pred, *]; done)) (by omega) (by decide) (pd_2 hx) rfl ?_
  refine xi_astore_n (pc' := 10) rfl (st1_3 rfl) rfl ?_
  refine xi_aload_n (pc' := 11) rfl rfl rfl ?_
  refine xc_getiv (v := nI (x)) (pc' := 14) rfl rfl (by decide) (kd_M0 (Nat.lt_of_lt_of_le hm h8)) (by omega) (by omega) (by decide) (by decide) (hxx) rfl ?_
  refine xi_aload_n (pc' := 15) rfl rfl rfl ?_
  refine xc_getiv (v := nI (s + 1)) (pc' := 18) rfl rfl (by decide) (kd_M0 (Nat.lt_of_lt_of_le hm h8)) (by omega) (by omega) (by decide) (by decide) (hsb) rfl ?_
  refine xi_aload_n (pc' := 19) rfl rfl rfl ?_
  refine xc_getiv (v := nI (nn)) (pc' := 22) rfl rfl (by decide) (kd_M0 (Nat.lt_of_lt_of_le hm h8)) (by omega) (by omega) (by decide) (by decide) (hn) rfl ?_
  refine xx_callSi (pc' := 25) rfl rfl (by decide) rfl (Nat.le_of_ble_eq_true rfl) rfl rfl (c_toReceive _ _ _) ?_
  refine xi_istore (pc' := 27) rfl (st1_4 rfl) rfl ?_
  refine c_gv1 hx hb h8 hm hmo ?_
  have e1 : ∀ k, (c_ob I x b (c_rw x s nn)).2 (81 + 2 * m) k = I (81 + 2 * m) k := fun k => cob_fr (by omega) (by omega)
  refine c_gv2 hx hb h8 hm (ob_mon hmo) ((e1 4).trans hn) h4 ?_
  have e2 : ∀ k, (c_dat (c_ob I x b (c_rw x s nn)).2 b (82 + 2 * m) 0 nn).2 (81 + 2 * m) k = I (81 + 2 * m) k := fun k => (cdat_fr (by omega) nn).trans (e1 k)
  refine c_gv3 hx hs hb h8 hm (dat_mon (ob_mon hmo) nn) ((e2 3).trans hsb) ((e2 4).trans hn) h1 h4 ?_
  exact c_gv4 hx hb h8 hm (rg_mon (dat_mon (ob_mon hmo) nn))
