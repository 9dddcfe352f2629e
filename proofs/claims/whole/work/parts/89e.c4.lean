theorem c_toSendN {L : Nat} {xs : Nat → Int32} {D n : Nat} {I J : ex_Mem} {x s nn : Nat} : ri L xs (D + 1) 133 [.int (nI x), .int (nI (s + 1)), .int (nI nn)] (mkH n I J) (c_sw x s nn) (mkH n I J) := c_toSend _ _ _
theorem c_toRecN {L : Nat} {xs : Nat → Int32} {D n : Nat} {I J : ex_Mem} {x s nn : Nat} : ri L xs D 134 [.int (nI x), .int (nI (s + 1)), .int (nI nn)] (mkH n I J) (c_rw x s nn) (mkH n I J) := c_toReceive _ _ _
theorem c_tk1 {L : Nat} {xs : Nat → Int32} {D n : Nat} {I J : ex_Mem} {Q : Option Value → ex_Hp → Prop} {x s : Nat} {w : Int32} (hx : x < 6) {m b : Nat} (hb : b < 2) (h8 : n ≤ 8) (hm : m < n) (hmo : monB I) (kk : xx cb_G L xs (D + 3) 37 74 [.ref 1, .ref (81 + 2 * m), .int (nI b), .ref (8 + 6 * x), .int (nI (4 * s)), .int w, .int (c_an I x b w).1, ex_no, ex_no] [] (mkH n (c_an I x b w).2 J) Q) : xx cb_G L xs (D + 3) 37 36 [.ref 1, .ref (81 + 2 * m), .int (nI b), .ref (8 + 6 * x), .int (nI (4 * s)), .int w, ex_no, ex_no, ex_no] [] (mkH n I J) Q := by
  refine xi_aload_n (pc' := 37) rfl rfl rfl ?_
  refine xc_getp (pc' := 40) rfl rfl (by decide) rfl (by omega) (by decide) rfl rfl rfl ?_
  refine xi_iload_n (pc' := 41) rfl rfl rfl ?_
  refine xi_iload (pc' := 43) rfl rfl rfl ?_
  refine xx_callVi (pc' := 46) rfl rfl (by decide) rfl rfl (by show _ < 81 + 2 * _; omega) (Nat.le_of_ble_eq_true rfl) rfl rfl (c_carry hb (by repeat (first | assumption | apply put_mon | apply dat_mon | apply obey_mon | apply obm_mon | apply rcv_mon))) ?_
  refine xx_if (pc' := 49) (tg := 71) rfl rfl rfl (fun q46 => ?_) (fun q46 => ?_)
  · refine xi_iconst (pc' := 72) rfl rfl ?_
    refine xi_istore (pc' := 74) rfl (st1_6 rfl) rfl ?_
    try simp only [ex_P, Classical.not_not, ↓reduceIte, Nat.add_zero, or_true, true_or, not_true_eq_false, not_false_eq_true, or_false, false_or, wI_get, false_and, true_and, and_true, and_false, and_self, Nat.reduceEqDiff, Nat.succ_ne_zero, reduceCtorEq, nI_lit, nI_lit0, Nat.reduceLT, eq_self, Nat.zero_add, mn_lit, mn_lit', mn_0] at *
    first | (simp only [c_an, c_an1, c_ob, c_ob1, *, ↓reduceIte, Nat.add_zero, or_true, true_or, not_true_eq_false, not_false_eq_true, or_false, false_or, wI_get, false_and, true_and, and_true, and_false, and_self, Nat.reduceEqDiff, Nat.succ_ne_zero, reduceCtorEq, nI_lit, nI_lit0, Nat.reduceLT, eq_self, Nat.zero_add, mn_lit, mn_lit', mn_0] at kk; first | with_reducible exact kk | (simp only [*]; done) | (simp only [*]; with_reducible exact kk)) | (exfalso; simp_all only [↓reduceIte, Nat.add_zero, or_true, true_or, not_true_eq_false, not_false_eq_true, or_false, false_or, wI_get, false_and, true_and, and_true, and_false, and_self, Nat.reduceEqDiff, Nat.succ_ne_zero, reduceCtorEq, nI_lit, nI_lit0, Nat.reduceLT, eq_self, Nat.zero_add, mn_lit, mn_lit', mn_0]; done)
  · refine xi_aload_n (pc' := 50) rfl rfl rfl ?_
    refine xi_iload (pc' := 52) rfl rfl rfl ?_
    refine xx_callVi (pc' := 55) rfl rfl (by decide) rfl (kd_T0 hx) (by show _ < 81 + 2 * _; omega) (Nat.le_of_ble_eq_true rfl) rfl rfl (c_obey_ok hx) ?_
    refine xx_if (pc' := 58) (tg := 71) rfl rfl rfl (fun q55 => ?_) (fun q55 => ?_)
    · refine xi_iconst (pc' := 72) rfl rfl ?_
      refine xi_istore (pc' := 74) rfl (st1_6 rfl) rfl ?_
      try simp only [ex_P, Classical.not_not, ↓reduceIte, Nat.add_zero, or_true, true_or, not_true_eq_false, not_false_eq_true, or_false, false_or, wI_get, false_and, true_and, and_true, and_false, and_self, Nat.reduceEqDiff, Nat.succ_ne_zero, reduceCtorEq, nI_lit, nI_lit0, Nat.reduceLT, eq_self, Nat.zero_add, mn_lit, mn_lit', mn_0] at *
      first | (simp only [c_an, c_an1, c_ob, c_ob1, *, ↓reduceIte, Nat.add_zero, or_true, true_or, not_true_eq_false, not_false_eq_true, or_false, false_or, wI_get, false_and, true_and, and_true, and_false, and_self, Nat.reduceEqDiff, Nat.succ_ne_zero, reduceCtorEq, nI_lit, nI_lit0, Nat.reduceLT, eq_self, Nat.zero_add, mn_lit, mn_lit', mn_0] at kk; first | with_reducible exact kk | (simp only [*]; done) | (simp only [*]; with_reducible exact kk)) | (exfalso; simp_all only [↓reduceIte, Nat.add_zero, or_true, true_or, not_true_eq_false, not_false_eq_true, or_false, false_or, wI_get, false_and, true_and, and_true, and_false, and_self, Nat.reduceEqDiff, Nat.succ_ne_zero, reduceCtorEq, nI_lit, nI_lit0, Nat.reduceLT, eq_self, Nat.zero_add, mn_lit, mn_lit', mn_0]; done)
    · refine xi_aload_n (pc' := 59) rfl rfl rfl ?_
      refine xc_getp (pc' := 62) rfl rfl (by decide) (kd_T0 hx) (by omega) (by decide) rfl (pd_T6 hx) rfl ?_
      refine xi_iload_n (pc' := 63) rfl rfl rfl ?_
      refine xc_zald (j := b) (pc' := 64) rfl (kd_T1 hx) (by omega) (by omega) (by first | rfl | (simp only [ix_add, ix_mul, ix_pred]; done) | (simp only [ix_add, ix_mul, ix_pred, *]; done)) (by omega) (by decide) rfl ?_
      refine xx_if (pc' := 67) (tg := 71) rfl rfl rfl (fun q64 => ?_) (fun q64 => ?_)
      · refine xi_iconst (pc' := 72) rfl rfl ?_
        refine xi_istore (pc' := 74) rfl (st1_6 rfl) rfl ?_
        try simp only [ex_P, Classical.not_not, ↓reduceIte, Nat.add_zero, or_true, true_or, not_true_eq_false, not_false_eq_true, or_false, false_or, wI_get, false_and, true_and, and_true, and_false, and_self, Nat.reduceEqDiff, Nat.succ_ne_zero, reduceCtorEq, nI_lit, nI_lit0, Nat.reduceLT, eq_self, Nat.zero_add, mn_lit, mn_lit', mn_0] at *
        first | (simp only [c_an, c_an1, c_ob, c_ob1, *, ↓reduceIte, Nat.add_zero, or_true, true_or, not_true_eq_false, not_false_eq_true, or_false, false_or, wI_get, false_and, true_and, and_true, and_false, and_self, Nat.reduceEqDiff, Nat.succ_ne_zero, reduceCtorEq, nI_lit, nI_lit0, Nat.reduceLT, eq_self, Nat.zero_add, mn_lit, mn_lit', mn_0] at kk; first | with_reducible exact kk | (simp only [*]; done) | (simp only [*]; with_reducible exact kk)) | (exfalso; simp_all only [↓reduceIte, Nat.add_zero, or_true, true_or, not_true_eq_false, not_false_eq_true, or_false, false_or, wI_get, false_and, true_and, and_true, and_false, and_self, Nat.reduceEqDiff, Nat.succ_ne_zero, reduceCtorEq, nI_lit, nI_lit0, Nat.reduceLT, eq_self, Nat.zero_add, mn_lit, mn_lit', mn_0]; done)
      · refine xi_iconst (pc' := 68) rfl rfl ?_
        refine xi_goto (pc' := 72) rfl rfl ?_
        refine xi_istore (pc' := 74) rfl (st1_6 rfl) rfl ?_
        try simp only [ex_P, Classical.not_not, ↓reduceIte, Nat.add_zero, or_true, true_or, not_true_eq_false, not_false_eq_true, or_false, false_or, wI_get, false_and, true_and, and_true, and_false, and_self, Nat.reduceEqDiff, Nat.succ_ne_zero, reduceCtorEq, nI_lit, nI_lit0, Nat.reduceLT, eq_self, Nat.zero_add, mn_lit, mn_lit', mn_0] at *
        first | (simp only [c_an, c_an1, c_ob, c_ob1, *, ↓reduceIte, Nat.add_zero, or_true, true_or, not_true_eq_false, not_false_eq_true, or_false, false_or, wI_get, false_and, true_and, and_true, and_false, and_self, Nat.reduceEqDiff, Nat.succ_ne_zero, reduceCtorEq, nI_lit, nI_lit0, Nat.reduceLT, eq_self, Nat.zero_add, mn_lit, mn_lit', mn_0] at kk; first | with_reducible exact kk | (simp only [*]; done) | (simp only [*]; with_reducible exact kk)) | (exfalso; simp_all only [↓reduceIte, Nat.add_zero, or_true, true_or, not_true_eq_false, not_false_eq_true, or_false, false_or, wI_get, false_and, true_and, and_true, and_false, and_self, Nat.reduceEqDiff, Nat.succ_ne_zero, reduceCtorEq, nI_lit, nI_lit0, Nat.reduceLT, eq_self, Nat.zero_add, mn_lit, mn_lit', mn_0]; done)
theorem c_tk2 {L : Nat} {xs : Nat → Int32} {D n : Nat} {I J : ex_Mem} {Q : Option Value → ex_Hp → Prop} {x s : Nat} {w an : Int32} (hx : x < 6) {m b : Nat} (hb : b < 2) (h8 : n ≤ 8) (hm : m < n) (hmo : monB I) (kk : xx cb_G L xs (D + 3) 37 101 [.ref 1, .ref (81 + 2 * m), .int (nI b), .ref (8 + 6 * x), .int (nI (4 * s)), .int w, .int an, .int (c_sg an I x b).1, ex_no] [] (mkH n (c_sg an I x b).2 J) Q) : xx cb_G L xs (D + 3) 37 74 [.ref 1, .ref (81 + 2 * m), .int (nI b), .ref (8 + 6 * x), .int (nI (4 * s)), .int w, .int an, ex_no, ex_no] [] (mkH n I J) Q := by
  refine xi_iload (pc' := 76) rfl rfl rfl ?_
  refine xx_if (pc' := 79) (tg := 98) rfl rfl rfl (fun q76 => ?_) (fun q76 => ?_)
  · refine xi_iconst (pc' := 99) rfl rfl ?_
    refine xi_istore (pc' := 101) rfl (st1_7 rfl) rfl ?_
    try simp only [ex_P, Classical.not_not, ↓reduceIte, Nat.add_zero, or_true, true_or, not_true_eq_false, not_false_eq_true, or_false, false_or, wI_get, false_and, true_and, and_true, and_false, and_self, Nat.reduceEqDiff, Nat.succ_ne_zero, reduceCtorEq, nI_lit, nI_lit0, Nat.reduceLT, eq_self, Nat.zero_add, mn_lit, mn_lit', mn_0] at *
    first | (simp only [c_sg, c_bo, *, ↓reduceIte, Nat.add_zero, or_true, true_or, not_true_eq_false, not_false_eq_true, or_false, false_or, wI_get, false_and, true_and, and_true, and_false, and_self, Nat.reduceEqDiff, Nat.succ_ne_zero, reduceCtorEq, nI_lit, nI_lit0, Nat.reduceLT, eq_self, Nat.zero_add, mn_lit, mn_lit', mn_0] at kk; first | with_reducible exact kk | (simp only [*]; done) | (simp only [*]; with_reducible exact kk)) | (exfalso; simp_all only [↓reduceIte, Nat.add_zero, or_true, true_or, not_true_eq_false, not_false_eq_true, or_false, false_or, wI_get, false_and, true_and, and_true, and_false, and_self, Nat.reduceEqDiff, Nat.succ_ne_zero, reduceCtorEq, nI_lit, nI_lit0, Nat.reduceLT, eq_self, Nat.zero_add, mn_lit, mn_lit', mn_0]; done)
  · refine xi_aload_n (pc' := 80) rfl rfl rfl ?_
    refine xc_getp (pc' := 83) rfl rfl (by decide) rfl (by omega) (by decide) rfl rfl rfl ?_
    refine xi_iload_n (pc' := 84) rfl rfl rfl ?_
    refine xi_aload_n (pc' := 85) rfl rfl rfl ?_
    refine xx_callVi (pc' := 88) rfl rfl (by decide) rfl (kd_T0 hx) (by show _ < 81 + 2 * _; omega) (Nat.le_of_ble_eq_true rfl) rfl rfl (c_status hx) ?_
    refine xx_callVi (pc' := 91) rfl rfl (by decide) rfl rfl (by show _ < 81 + 2 * _; omega) (Nat.le_of_ble_eq_true rfl) rfl rfl (c_carry hb (by repeat (first | assumption | apply put_mon | apply dat_mon | apply obey_mon | apply obm_mon | apply rcv_mon))) ?_
    refine xx_if (pc' := 94) (tg := 98) rfl rfl rfl (fun q91 => ?_) (fun q91 => ?_)
    · refine xi_iconst (pc' := 99) rfl rfl ?_
      refine xi_istore (pc' := 101) rfl (st1_7 rfl) rfl ?_
      try simp only [ex_P, Classical.not_not, ↓reduceIte, Nat.add_zero, or_true, true_or, not_true_eq_false, not_false_eq_true, or_false, false_or, wI_get, false_and, true_and, and_true, and_false, and_self, Nat.reduceEqDiff, Nat.succ_ne_zero, reduceCtorEq, nI_lit, nI_lit0, Nat.reduceLT, eq_self, Nat.zero_add, mn_lit, mn_lit', mn_0] at *
      first | (simp only [c_sg, c_bo, *, ↓reduceIte, Nat.add_zero, or_true, true_or, not_true_eq_false, not_false_eq_true, or_false, false_or, wI_get, false_and, true_and, and_true, and_false, and_self, Nat.reduceEqDiff, Nat.succ_ne_zero, reduceCtorEq, nI_lit, nI_lit0, Nat.reduceLT, eq_self, Nat.zero_add, mn_lit, mn_lit', mn_0] at kk; first | with_reducible exact kk | (simp only [*]; done) | (simp only [*]; with_reducible exact kk)) | (exfalso; simp_all only [↓reduceIte, Nat.add_zero, or_true, true_or, not_true_eq_false, not_false_eq_true, or_false, false_or, wI_get, false_and, true_and, and_true, and_false, and_self, Nat.reduceEqDiff, Nat.succ_ne_zero, reduceCtorEq, nI_lit, nI_lit0, Nat.reduceLT, eq_self, Nat.zero_add, mn_lit, mn_lit', mn_0]; done)
    · refine xi_iconst (pc' := 95) rfl rfl ?_
      refine xi_goto (pc' := 99) rfl rfl ?_
      refine xi_istore (pc' := 101) rfl (st1_7 rfl) rfl ?_
      try simp only [ex_P, Classical.not_not, ↓reduceIte, Nat.add_zero, or_true, true_or, not_true_eq_false, not_false_eq_true, or_false, false_or, wI_get, false_and, true_and, and_true, and_false, and_self, Nat.reduceEqDiff, Nat.succ_ne_zero, reduceCtorEq, nI_lit, nI_lit0, Nat.reduceLT, eq_self, Nat.zero_add, mn_lit, mn_lit', mn_0] at *
      first | (simp only [c_sg, c_bo, *, ↓reduceIte, Nat.add_zero, or_true, true_or, not_true_eq_false, not_false_eq_true, or_false, false_or, wI_get, false_and, true_and, and_true, and_false, and_self, Nat.reduceEqDiff, Nat.succ_ne_zero, reduceCtorEq, nI_lit, nI_lit0, Nat.reduceLT, eq_self, Nat.zero_add, mn_lit, mn_lit', mn_0] at kk; first | with_reducible exact kk | (simp only [*]; done) | (simp only [*]; with_reducible exact kk)) | (exfalso; simp_all only [↓reduceIte, Nat.add_zero, or_true, true_or, not_true_eq_false, not_false_eq_true, or_false, false_or, wI_get, false_and, true_and, and_true, and_false, and_self, Nat.reduceEqDiff, Nat.succ_ne_zero, reduceCtorEq, nI_lit, nI_lit0, Nat.reduceLT, eq_self, Nat.zero_add, mn_lit, mn_lit', mn_0]; done)
theorem c_tk3 {L : Nat} {xs : Nat → Int32} {D n : Nat} {I J : ex_Mem} {Q : Option Value → ex_Hp → Prop} {x s nn : Nat} {w an sg : Int32} (hx : x < 6) (hs : s < 3) {m b : Nat} (hb : b < 2) (h8 : n ≤ 8) (hm : m < n) (hmo : monB I) (hn : I (81 + 2 * m) 4 = nI nn) (h4 : nn ≤ 4) (kk : xx cb_G L xs (D + 3) 37 134 [.ref 1, .ref (81 + 2 * m), .int (nI b), .ref (8 + 6 * x), .int (nI (4 * s)), .int w, .int an, .int sg, .int (c_dg an I b (11 + 6 * x) (4 * s) nn).1] [] (mkH n (c_dg an I b (11 + 6 * x) (4 * s) nn).2 J) Q) : xx cb_G L xs (D + 3) 37 101 [.ref 1, .ref (81 + 2 * m), .int (nI b), .ref (8 + 6 * x), .int (nI (4 * s)), .int w, .int an, .int sg, ex_no] [] (mkH n I J) Q := by
  refine xi_iload (pc' := 103) rfl rfl rfl ?_
  refine xx_if (pc' := 106) (tg := 131) rfl rfl rfl (fun q103 => ?_) (fun q103 => ?_)
  · refine xi_iconst (pc' := 132) rfl rfl ?_
    refine xi_istore (pc' := 134) rfl (st1_8 rfl) rfl ?_
    try simp only [ex_P, Classical.not_not, ↓reduceIte, Nat.add_zero, or_true, true_or, not_true_eq_false, not_false_eq_true, or_false, false_or, wI_get, false_and, true_and, and_true, and_false, and_self, Nat.reduceEqDiff, Nat.succ_ne_zero, reduceCtorEq, nI_lit, nI_lit0, Nat.reduceLT, eq_self, Nat.zero_add, mn_lit, mn_lit', mn_0] at *
    first | (simp only [c_dg, c_bo, *, ↓reduceIte, Nat.add_zero, or_true, true_or, not_true_eq_false, not_false_eq_true, or_false, false_or, wI_get, false_and, true_and, and_true, and_false, and_self, Nat.reduceEqDiff, Nat.succ_ne_zero, reduceCtorEq, nI_lit, nI_lit0, Nat.reduceLT, eq_self, Nat.zero_add, mn_lit, mn_lit', mn_0] at kk; first | with_reducible exact kk | (simp only [*]; done) | (simp only [*]; with_reducible exact kk)) | (exfalso; simp_all only [↓reduceIte, Nat.add_zero, or_true, true_or, not_true_eq_false, not_false_eq_true, or_false, false_or, wI_get, false_and, true_and, and_true, and_false, and_self, Nat.reduceEqDiff, Nat.succ_ne_zero, reduceCtorEq, nI_lit, nI_lit0, Nat.reduceLT, eq_self, Nat.zero_add, mn_lit, mn_lit', mn_0]; done)
  · refine xi_aload_n (pc' := 107) rfl rfl rfl ?_
    refine xc_getp (pc' := 110) rfl rfl (by decide) rfl (by omega) (by decide) rfl rfl rfl ?_
    refine xi_iload_n (pc' := 111) rfl rfl rfl ?_
    refine xi_aload_n (pc' := 112) rfl rfl rfl ?_
    refine xc_getp (pc' := 115) rfl rfl (by decide) (kd_T0 hx) (by omega) (by decide) rfl (pd_T8 hx) rfl ?_
    refine xi_iload (pc' := 117) rfl rfl rfl ?_
    refine xi_aload_n (pc' := 118) rfl rfl rfl ?_
    refine xc_getiv (v := nI (nn)) (pc' := 121) rfl rfl (by decide) (kd_M0 (Nat.lt_of_lt_of_le hm h8)) (by omega) (by omega) (by decide) (by decide) (hn) rfl ?_
    refine xx_callVi (pc' := 124) rfl rfl (by decide) rfl rfl (by show _ < 81 + 2 * _; omega) (Nat.le_of_ble_eq_true rfl) rfl rfl (c_carryData hb (kd_T3 hx) (by omega) (by omega) (by omega) (show 4 * s + nn ≤ 12 by omega) (by decide) h4 hmo) ?_
    refine xx_if (pc' := 127) (tg := 131) rfl rfl rfl (fun q124 => ?_) (fun q124 => ?_)
    · refine xi_iconst (pc' := 132) rfl rfl ?_
      refine xi_istore (pc' := 134) rfl (st1_8 rfl) rfl ?_
      try simp only [ex_P, Classical.not_not, ↓reduceIte, Nat.add_zero, or_true, true_or, not_true_eq_false, not_false_eq_true, or_false, false_or, wI_get, false_and, true_and, and_true, and_false, and_self, Nat.reduceEqDiff, Nat.succ_ne_zero, reduceCtorEq, nI_lit, nI_lit0, Nat.reduceLT, eq_self, Nat.zero_add, mn_lit, mn_lit', mn_0] at *
      first | (simp only [c_dg, c_bo, *, ↓reduceIte, Nat.add_zero, or_true, true_or, not_true_eq_false, not_false_eq_true, or_false, false_or, wI_get, false_and, true_and, and_true, and_false, and_self, Nat.reduceEqDiff, Nat.succ_ne_zero, reduceCtorEq, nI_lit, nI_lit0, Nat.reduceLT, eq_self, Nat.zero_add, mn_lit, mn_lit', mn_0] at kk; first | with_reducible exact kk | (simp only [*]; done) | (simp only [*]; with_reducible exact kk)) | (exfalso; simp_all only [↓reduceIte, Nat.add_zero, or_true, true_or, not_true_eq_false, not_false_eq_true, or_false, false_or, wI_get, false_and, true_and, and_true, and_false, and_self, Nat.reduceEqDiff, Nat.succ_ne_zero, reduceCtorEq, nI_lit, nI_lit0, Nat.reduceLT, eq_self, Nat.zero_add, mn_lit, mn_lit', mn_0]; done)
    · refine xi_iconst (pc' := 128) rfl rfl ?_
      refine xi_goto (pc' := 132) rfl rfl ?_
      refine xi_istore (pc' := 134) rfl (st1_8 rfl) rfl ?_
      try simp only [ex_P, Classical.not_not, ↓reduceIte, Nat.add_zero, or_true, true_or, not_true_eq_false, not_false_eq_true, or_false, false_or, wI_get, false_and, true_and, and_true, and_false, and_self, Nat.reduceEqDiff, Nat.succ_ne_zero, reduceCtorEq, nI_lit, nI_lit0, Nat.reduceLT, eq_self, Nat.zero_add, mn_lit, mn_lit', mn_0] at *
      first | (simp only [c_dg, c_bo, *, ↓reduceIte, Nat.add_zero, or_true, true_or, not_true_eq_false, not_false_eq_true, or_false, false_or, wI_get, false_and, true_and, and_true, and_false, and_self, Nat.reduceEqDiff, Nat.succ_ne_zero, reduceCtorEq, nI_lit, nI_lit0, Nat.reduceLT, eq_self, Nat.zero_add, mn_lit, mn_lit', mn_0] at kk; first | with_reducible exact kk | (simp only [*]; done) | (simp only [*]; with_reducible exact kk)) | (exfalso; simp_all only [↓reduceIte, Nat.add_zero, or_true, true_or, not_true_eq_false, not_false_eq_true, or_false, false_or, wI_get, false_and, true_and, and_true, and_false, and_self, Nat.reduceEqDiff, Nat.succ_ne_zero, reduceCtorEq, nI_lit, nI_lit0, Nat.reduceLT, eq_self, Nat.zero_add, mn_lit, mn_lit', mn_0]; done)
def c_tkR (sg dg : Int32) (S : ex_Mem) (m x s nn : Nat) : Int32 × ex_Mem := if sg = 0 then (nI 0, S) else if dg = 0 then (nI 0, S) else (nI 1, ex_copy S (11 + 6 * x) (4 * s) (82 + 2 * m) 0 nn)
theorem c_tk4 {L : Nat} {xs : Nat → Int32} {D n : Nat} {I J : ex_Mem} {x s nn : Nat} {w an sg dg : Int32} (hx : x < 6) (hs : s < 3) {m b : Nat} (hb : b < 2) (h8 : n ≤ 8) (hm : m < n) (hmo : monB I) (hn : I (81 + 2 * m) 4 = nI nn) (h4 : nn ≤ 4) : xx cb_G L xs (D + 3) 37 134 [.ref 1, .ref (81 + 2 * m), .int (nI b), .ref (8 + 6 * x), .int (nI (4 * s)), .int w, .int an, .int sg, .int dg] [] (mkH n I J) (fun r h => r = some (.int (c_tkR sg dg I m x s nn).1) ∧ h = mkH n (c_tkR sg dg I m x s nn).2 J) := by
  refine xi_iload (pc' := 136) rfl rfl rfl ?_
  refine xx_if (pc' := 139) (tg := 144) rfl rfl rfl (fun q136 => ?_) (fun q136 => ?_)
  · refine xi_iconst (pc' := 145) rfl rfl ?_
    refine xx_zreturn rfl rfl (by first | rfl | assumption | exact b01_bI | simp [ex_b01, bI]) ?_
    simp only [ex_P, Classical.not_not, ↓reduceIte, Nat.add_zero, or_true, true_or, not_true_eq_false, not_false_eq_true, or_false, false_or, wI_get, false_and, true_and, and_true, and_false, and_self, Nat.reduceEqDiff, Nat.succ_ne_zero, reduceCtorEq, nI_lit, nI_lit0, Nat.reduceLT, eq_self, Nat.zero_add, mn_lit, mn_lit', mn_0] at *
    first | (simp only [c_tkR, *, ↓reduceIte, Nat.add_zero, or_true, true_or, not_true_eq_false, not_false_eq_true, or_false, false_or, wI_get, false_and, true_and, and_true, and_false, and_self, Nat.reduceEqDiff, Nat.succ_ne_zero, reduceCtorEq, nI_lit, nI_lit0, Nat.reduceLT, eq_self, Nat.zero_add, mn_lit, mn_lit', mn_0]; done) | (exfalso; simp_all only [↓reduceIte, Nat.add_zero, or_true, true_or, not_true_eq_false, not_false_eq_true, or_false, false_or, wI_get, false_and, true_and, and_true, and_false, and_self, Nat.reduceEqDiff, Nat.succ_ne_zero, reduceCtorEq, nI_lit, nI_lit0, Nat.reduceLT, eq_self, Nat.zero_add, mn_lit, mn_lit', mn_0]; done)
  · refine xi_iload (pc' := 141) rfl rfl rfl ?_
    refine xx_if (pc' := 144) (tg := 146) rfl rfl rfl (fun q141 => ?_) (fun q141 => ?_)
    · refine xi_aload_n (pc' := 147) rfl rfl rfl ?_
      refine xc_getp (pc' := 150) rfl rfl (by decide) (kd_T0 hx) (by omega) (by decide) rfl (pd_T8 hx) rfl ?_
      refine xi_iload (pc' := 152) rfl rfl rfl ?_
      refine xi_aload_n (pc' := 153) rfl rfl rfl ?_
      refine xc_getp (pc' := 156) rfl rfl (by decide) (kd_M0 (Nat.lt_of_lt_of_le hm h8)) (by omega) (by decide) rfl (pd_M hm) rfl ?_
      refine xi_iconst (pc' := 157) rfl rfl ?_
      refine xi_aload_n (pc' := 158) rfl rfl rfl ?_
      refine xc_getiv (v := nI (nn)) (pc' := 161) rfl rfl (by decide) (kd_M0 (Nat.lt_of_lt_of_le hm h8)) (by omega) (by omega) (by decide) (by decide) (hn) rfl ?_
      refine xc_copy (js := 4 * s) (jd := 0) (jn := nn) (pc' := 164) rfl rfl (kd_T3 hx) (kd_M1 (Nat.lt_of_lt_of_le hm h8)) (by omega) (by omega) (by omega) (by omega) (by first | rfl | (simp only [ix_add, ix_mul, ix_pred]; done)) (by first | rfl | (simp only [ix_add, ix_mul, ix_pred]; done)) (by first | rfl | (simp only [ix_add, ix_mul, ix_pred]; done)) (by omega) (by omega) (by decide) (by decide) (Nat.le_of_ble_eq_true rfl) rfl ?_
      refine xi_iconst (pc' := 165) rfl rfl ?_
      refine xx_zreturn rfl rfl (by first | rfl | assumption | exact b01_bI | simp [ex_b01, bI]) ?_
      simp only [ex_P, Classical.not_not, ↓reduceIte, Nat.add_zero, or_true, true_or, not_true_eq_false, not_false_eq_true, or_false, false_or, wI_get, false_and, true_and, and_true, and_false, and_self, Nat.reduceEqDiff, Nat.succ_ne_zero, reduceCtorEq, nI_lit, nI_lit0, Nat.reduceLT, eq_self, Nat.zero_add, mn_lit, mn_lit', mn_0] at *
      first | (simp only [c_tkR, *, ↓reduceIte, Nat.add_zero, or_true, true_or, not_true_eq_false, not_false_eq_true, or_false, false_or, wI_get, false_and, true_and, and_true, and_false, and_self, Nat.reduceEqDiff, Nat.succ_ne_zero, reduceCtorEq, nI_lit, nI_lit0, Nat.reduceLT, eq_self, Nat.zero_add, mn_lit, mn_lit', mn_0]; done) | (exfalso; simp_all only [↓reduceIte, Nat.add_zero, or_true, true_or, not_true_eq_false, not_false_eq_true, or_false, false_or, wI_get, false_and, true_and, and_true, and_false, and_self, Nat.reduceEqDiff, Nat.succ_ne_zero, reduceCtorEq, nI_lit, nI_lit0, Nat.reduceLT, eq_self, Nat.zero_add, mn_lit, mn_lit', mn_0]; done)
    · refine xi_iconst (pc' := 145) rfl rfl ?_
      refine xx_zreturn rfl rfl (by first | rfl | assumption | exact b01_bI | simp [ex_b01, bI]) ?_
      simp only [ex_P, Classical.not_not, ↓reduceIte, Nat.add_zero, or_true, true_or, not_true_eq_false, not_false_eq_true, or_false, false_or, wI_get, false_and, true_and, and_true, and_false, and_self, Nat.reduceEqDiff, Nat.succ_ne_zero, reduceCtorEq, nI_lit, nI_lit0, Nat.reduceLT, eq_self, Nat.zero_add, mn_lit, mn_lit', mn_0] at *
      first | (simp only [c_tkR, *, ↓reduceIte, Nat.add_zero, or_true, true_or, not_true_eq_false, not_false_eq_true, or_false, false_or, wI_get, false_and, true_and, and_true, and_false, and_self, Nat.reduceEqDiff, Nat.succ_ne_zero, reduceCtorEq, nI_lit, nI_lit0, Nat.reduceLT, eq_self, Nat.zero_add, mn_lit, mn_lit', mn_0]; done) | (exfalso; simp_all only [↓reduceIte, Nat.add_zero, or_true, true_or, not_true_eq_false, not_false_eq_true, or_false, false_or, wI_get, false_and, true_and, and_true, and_false, and_self, Nat.reduceEqDiff, Nat.succ_ne_zero, reduceCtorEq, nI_lit, nI_lit0, Nat.reduceLT, eq_self, Nat.zero_add, mn_lit, mn_lit', mn_0]; done)
def c_t3 (C D : Int32 × ex_Mem) (m x s nn : Nat) : Int32 × ex_Mem := c_tkR C.1 D.1 D.2 m x s nn
def c_t2 (A C : Int32 × ex_Mem) (m x s nn b : Nat) : Int32 × ex_Mem := c_t3 C (c_dg A.1 C.2 b (11 + 6 * x) (4 * s) nn) m x s nn
def c_t1 (A : Int32 × ex_Mem) (m x s nn b : Nat) : Int32 × ex_Mem := c_t2 A (c_sg A.1 A.2 x b) m x s nn b
def c_take (I : ex_Mem) (m x s nn b : Nat) : Int32 × ex_Mem := c_t1 (c_an I x b (c_sw x s nn)) m x s nn b
theorem c_take_eq {I : ex_Mem} {m x s nn b : Nat} : c_take I m x s nn b = c_tkR (c_sg (c_an I x b (c_sw x s nn)).1 (c_an I x b (c_sw x s nn)).2 x b).1 (c_dg (c_an I x b (c_sw x s nn)).1 (c_sg (c_an I x b (c_sw x s nn)).1 (c_an I x b (c_sw x s nn)).2 x b).2 b (11 + 6 * x) (4 * s) nn).1 (c_dg (c_an I x b (c_sw x s nn)).1 (c_sg (c_an I x b (c_sw x s nn)).1 (c_an I x b (c_sw x s nn)).2 x b).2 b (11 + 6 * x) (4 * s) nn).2 m x s nn := by
  unfold c_take c_t1 c_t2 c_t3
  rfl
theorem c_take_ok {L : Nat} {xs : Nat → Int32} {D n : Nat} {I J : ex_Mem} {x s nn : Nat} {m b : Nat} (hb : b < 2) (h8 : n ≤ 8) (hm : m < n) (hmo : monB I) (hx : x < 6) (hs : s < 3) (h1 : 1 ≤ nn) (h4 : nn ≤ 4) (hxx : I (81 + 2 * m) 1 = nI x) (hsb : I (81 + 2 * m) 3 = nI (s + 1)) (hn : I (81 + 2 * m) 4 = nI nn) : ri L xs (D + 3) 37 [.ref 1, .ref (81 + 2 * m), .int (nI b)] (mkH n I J) ((c_take I m x s nn b).1) (mkH n (c_take I m x s nn b).2 J) := by
  show xx cb_G _ _ _ 37 0 [.ref 1, .ref (81 + 2 * m), .int (nI b), ex_no, ex_no, ex_no, ex_no, ex_no, ex_no] [] _ _
  refine xi_aload_n (pc' := 1) rfl rfl rfl ?_
  refine xc_getp (pc' := 4) rfl rfl (by decide) rfl (by omega) (by decide) rfl rfl rfl ?_
  refine xi_aload_n (pc' := 5) rfl rfl rfl ?_
  refine xc_getiv (v := nI (x)) (pc' := 8) rfl rfl (by decide) (kd_M0 (Nat.lt_of_lt_of_le hm h8)) (by omega) (by omega) (by decide) (by decide) (hxx) rfl ?_
  refine xc_aald (j := x) (pc' := 9) rfl rfl (by omega) (by first | rfl | (simp only [ix_add, ix_mul, ix_pred]; done) | (simp only [ix_add, ix_mul, ix_pred, *]; done)) (by omega) (by decide) (pd_2 hx) rfl ?_
  refine xi_astore_n (pc' := 10) rfl (st1_3 rfl) rfl ?_
  refine xi_aload_n (pc' := 11) rfl rfl rfl ?_
  refine xc_getiv (v := nI (s + 1)) (pc' := 14) rfl rfl (by decide) (kd_M0 (Nat.lt_of_lt_of_le hm h8)) (by omega) (by omega) (by decide) (by decide) (hsb) rfl ?_
  refine xx_callSi (pc' := 17) rfl rfl (by decide) rfl (Nat.le_of_ble_eq_true rfl) rfl rfl (c_firstOf) ?_
  refine xi_istore (pc' := 19) rfl (st1_4 rfl) rfl ?_
  refine xi_aload_n (pc' := 20) rfl rfl rfl ?_
  refine xc_getiv (v := nI (x)) (pc' := 23) rfl rfl (by decide) (kd_M0 (Nat.lt_of_lt_of_le hm h8)) (by omega) (by omega) (by decide) (by decide) (hxx) rfl ?_
  refine xi_aload_n (pc' := 24) rfl rfl rfl ?_
  refine xc_getiv (v := nI (s + 1)) (pc' := 27) rfl rfl (by decide) (kd_M0 (Nat.lt_of_lt_of_le hm h8)) (by omega) (by omega) (by decide) (by decide) (hsb) rfl ?_
  refine xi_aload_n (pc' := 28) rfl rfl rfl ?_
  refine xc_getiv (v := nI (nn)) (pc' := 31) rfl rfl (by decide) (kd_M0 (Nat.lt_of_lt_of_le hm h8)) (by omega) (by omega) (by decide) (by decide) (hn) rfl ?_
  refine xx_callSi (pc' := 34) rfl rfl (by decide) rfl (Nat.le_of_ble_eq_true rfl) rfl rfl (c_toSendN) ?_
  refine xi_istore (pc' := 36) rfl (st1_5 rfl) rfl ?_
  rw [c_take_eq]
  refine c_tk1 hx hb h8 hm hmo ?_
  have m1 := an_mon (t := x) (b := b) (w := c_sw x s nn) hmo
  have e1 : ∀ k, (c_an I x b (c_sw x s nn)).2 (81 + 2 * m) k = I (81 + 2 * m) k := fun k => can_fr (by omega) (by omega)
  refine c_tk2 hx hb h8 hm m1 ?_
  refine c_tk3 hx hs hb h8 hm (sg_mon m1) ((csg_fr (by omega)).trans ((e1 4).trans hn)) h4 ?_
  exact c_tk4 hx hs hb h8 hm (dg_mon (sg_mon m1)) ((cdg_fr (by omega)).trans ((csg_fr (by omega)).trans ((e1 4).trans hn))) h4
theorem c_ps1 {L : Nat} {xs : Nat → Int32} {D n : Nat} {I J : ex_Mem} {Q : Option Value → ex_Hp → Prop} {x y s : Nat} {w w2 : Int32} (hx : x < 6) (hy : y < 6) {m b : Nat} (hb : b < 2) (h8 : n ≤ 8) (hm : m < n) (hmo : monB I) (kk : xx cb_G L xs (D + 3) 38 94 [.ref 1, .ref (81 + 2 * m), .int (nI b), .ref (8 + 6 * x), .ref (8 + 6 * y), .int (nI (4 * s)), .int w, .int w2, .int (c_ob I y b w).1, ex_no, ex_no, ex_no, ex_no, ex_no] [] (mkH n (c_ob I y b w).2 J) Q) : xx cb_G L xs (D + 3) 38 64 [.ref 1, .ref (81 + 2 * m), .int (nI b), .ref (8 + 6 * x), .ref (8 + 6 * y), .int (nI (4 * s)), .int w, .int w2, ex_no, ex_no, ex_no, ex_no, ex_no, ex_no] [] (mkH n I J) Q := by
  refine xi_aload_n (pc' := 65) rfl rfl rfl ?_
  refine xc_getp (pc' := 68) rfl rfl (by decide) rfl (by omega) (by decide) rfl rfl rfl ?_
  refine xi_iload_n (pc' := 69) rfl rfl rfl ?_
  refine xi_iload (pc' := 71) rfl rfl rfl ?_
  refine xx_callVi (pc' := 74) rfl rfl (by decide) rfl rfl (by show _ < 81 + 2 * _; omega) (Nat.le_of_ble_eq_true rfl) rfl rfl (c_carry hb (by repeat (first | assumption | apply put_mon | apply dat_mon | apply obey_mon | apply obm_mon | apply rcv_mon))) ?_
  refine xx_if (pc' := 77) (tg := 91) rfl rfl rfl (fun q74 => ?_) (fun q74 => ?_)
  · refine xi_iconst (pc' := 92) rfl rfl ?_
    refine xi_istore (pc' := 94) rfl (st1_8 rfl) rfl ?_
    try simp only [ex_P, Classical.not_not, ↓reduceIte, Nat.add_zero, or_true, true_or, not_true_eq_false, not_false_eq_true, or_false, false_or, wI_get, false_and, true_and, and_true, and_false, and_self, Nat.reduceEqDiff, Nat.succ_ne_zero, reduceCtorEq, nI_lit, nI_lit0, Nat.reduceLT, eq_self, Nat.zero_add, mn_lit, mn_lit', mn_0] at *
    first | (simp only [c_ob, c_ob1, *, ↓reduceIte, Nat.add_zero, or_true, true_or, not_true_eq_false, not_false_eq_true, or_false, false_or, wI_get, false_and, true_and, and_true, and_false, and_self, Nat.reduceEqDiff, Nat.succ_ne_zero, reduceCtorEq, nI_lit, nI_lit0, Nat.reduceLT, eq_self, Nat.zero_add, mn_lit, mn_lit', mn_0] at kk; first | with_reducible exact kk | (simp only [*]; done) | (simp only [*]; with_reducible exact kk)) | (exfalso; simp_all only [↓reduceIte, Nat.add_zero, or_true, true_or, not_true_eq_false, not_false_eq_true, or_false, false_or, wI_get, false_and, true_and, and_true, and_false, and_self, Nat.reduceEqDiff, Nat.succ_ne_zero, reduceCtorEq, nI_lit, nI_lit0, Nat.reduceLT, eq_self, Nat.zero_add, mn_lit, mn_lit', mn_0]; done)
  · refine xi_aload (pc' := 79) rfl rfl rfl ?_
    refine xi_iload (pc' := 81) rfl rfl rfl ?_
    refine xx_callVi (pc' := 84) rfl rfl (by decide) rfl (kd_T0 hy) (by show _ < 81 + 2 * _; omega) (Nat.le_of_ble_eq_true rfl) rfl rfl (c_obey_ok hy) ?_
    refine xx_if (pc' := 87) (tg := 91) rfl rfl rfl (fun q84 => ?_) (fun q84 => ?_)
    · refine xi_iconst (pc' := 92) rfl rfl ?_
      refine xi_istore (pc' := 94) rfl (st1_8 rfl) rfl ?_
      try simp only [ex_P, Classical.not_not, ↓reduceIte, Nat.add_zero, or_true, true_or, not_true_eq_false, not_false_eq_true, or_false, false_or, wI_get, false_and, true_and, and_true, and_false, and_self, Nat.reduceEqDiff, Nat.succ_ne_zero, reduceCtorEq, nI_lit, nI_lit0, Nat.reduceLT, eq_self, Nat.zero_add, mn_lit, mn_lit', mn_0] at *
      first | (simp only [c_ob, c_ob1, *, ↓reduceIte, Nat.add_zero, or_true, true_or, not_true_eq_false, not_false_eq_true, or_false, false_or, wI_get, false_and, true_and, and_true, and_false, and_self, Nat.reduceEqDiff, Nat.succ_ne_zero, reduceCtorEq, nI_lit, nI_lit0, Nat.reduceLT, eq_self, Nat.zero_add, mn_lit, mn_lit', mn_0] at kk; first | with_reducible exact kk | (simp only [*]; done) | (simp only [*]; with_reducible exact kk)) | (exfalso; simp_all only [↓reduceIte, Nat.add_zero, or_true, true_or, not_true_eq_false, not_false_eq_true, or_false, false_or, wI_get, false_and, true_and, and_true, and_false, and_self, Nat.reduceEqDiff, Nat.succ_ne_zero, reduceCtorEq, nI_lit, nI_lit0, Nat.reduceLT, eq_self, Nat.zero_add, mn_lit, mn_lit', mn_0]; done)
    · refine xi_iconst (pc' := 88) rfl rfl ?_
      refine xi_goto (pc' := 92) rfl rfl ?_
      refine xi_istore (pc' := 94) rfl (st1_8 rfl) rfl ?_
      try simp only [ex_P, Classical.not_not, ↓reduceIte, Nat.add_zero, or_true, true_or, not_true_eq_false, not_false_eq_true, or_false, false_or, wI_get, false_and, true_and, and_true, and_false, and_self, Nat.reduceEqDiff, Nat.succ_ne_zero, reduceCtorEq, nI_lit, nI_lit0, Nat.reduceLT, eq_self, Nat.zero_add, mn_lit, mn_lit', mn_0] at *
      first | (simp only [c_ob, c_ob1, *, ↓reduceIte, Nat.add_zero, or_true, true_or, not_true_eq_false, not_false_eq_true, or_false, false_or, wI_get, false_and, true_and, and_true, and_false, and_self, Nat.reduceEqDiff, Nat.succ_ne_zero, reduceCtorEq, nI_lit, nI_lit0, Nat.reduceLT, eq_self, Nat.zero_add, mn_lit, mn_lit', mn_0] at kk; first | with_reducible exact kk | (simp only [*]; done) | (simp only [*]; with_reducible exact kk)) | (exfalso; simp_all only [↓reduceIte, Nat.add_zero, or_true, true_or, not_true_eq_false, not_false_eq_true, or_false, false_or, wI_get, false_and, true_and, and_true, and_false, and_self, Nat.reduceEqDiff, Nat.succ_ne_zero, reduceCtorEq, nI_lit, nI_lit0, Nat.reduceLT, eq_self, Nat.zero_add, mn_lit, mn_lit', mn_0]; done)
theorem c_ps2 {L : Nat} {xs : Nat → Int32} {D n : Nat} {I J : ex_Mem} {Q : Option Value → ex_Hp → Prop} {x y s : Nat} {w w2 ob : Int32} (hx : x < 6) (hy : y < 6) {m b : Nat} (hb : b < 2) (h8 : n ≤ 8) (hm : m < n) (hmo : monB I) (kk : xx cb_G L xs (D + 3) 38 132 [.ref 1, .ref (81 + 2 * m), .int (nI b), .ref (8 + 6 * x), .ref (8 + 6 * y), .int (nI (4 * s)), .int w, .int w2, .int ob, .int (c_an I x b w2).1, ex_no, ex_no, ex_no, ex_no] [] (mkH n (c_an I x b w2).2 J) Q) : xx cb_G L xs (D + 3) 38 94 [.ref 1, .ref (81 + 2 * m), .int (nI b), .ref (8 + 6 * x), .ref (8 + 6 * y), .int (nI (4 * s)), .int w, .int w2, .int ob, ex_no, ex_no, ex_no, ex_no, ex_no] [] (mkH n I J) Q := by
  refine xi_aload_n (pc' := 95) rfl rfl rfl ?_
  refine xc_getp (pc' := 98) rfl rfl (by decide) rfl (by omega) (by decide) rfl rfl rfl ?_
  refine xi_iload_n (pc' := 99) rfl rfl rfl ?_
  refine xi_iload (pc' := 101) rfl rfl rfl ?_
  refine xx_callVi (pc' := 104) rfl rfl (by decide) rfl rfl (by show _ < 81 + 2 * _; omega) (Nat.le_of_ble_eq_true rfl) rfl rfl (c_carry hb (by repeat (first | assumption | apply put_mon | apply dat_mon | apply obey_mon | apply obm_mon | apply rcv_mon))) ?_
  refine xx_if (pc' := 107) (tg := 129) rfl rfl rfl (fun q104 => ?_) (fun q104 => ?_)
  · refine xi_iconst (pc' := 130) rfl rfl ?_
    refine xi_istore (pc' := 132) rfl (st1_9 rfl) rfl ?_
    try simp only [ex_P, Classical.not_not, ↓reduceIte, Nat.add_zero, or_true, true_or, not_true_eq_false, not_false_eq_true, or_false, false_or, wI_get, false_and, true_and, and_true, and_false, and_self, Nat.reduceEqDiff, Nat.succ_ne_zero, reduceCtorEq, nI_lit, nI_lit0, Nat.reduceLT, eq_self, Nat.zero_add, mn_lit, mn_lit', mn_0] at *
    first | (simp only [c_an, c_an1, c_ob, c_ob1, *, ↓reduceIte, Nat.add_zero, or_true, true_or, not_true_eq_false, not_false_eq_true, or_false, false_or, wI_get, false_and, true_and, and_true, and_false, and_self, Nat.reduceEqDiff, Nat.succ_ne_zero, reduceCtorEq, nI_lit, nI_lit0, Nat.reduceLT, eq_self, Nat.zero_add, mn_lit, mn_lit', mn_0] at kk; first | with_reducible exact kk | (simp only [*]; done) | (simp only [*]; with_reducible exact kk)) | (exfalso; simp_all only [↓reduceIte, Nat.add_zero, or_true, true_or, not_true_eq_false, not_false_eq_true, or_false, false_or, wI_get, false_and, true_and, and_true, and_false, and_self, Nat.reduceEqDiff, Nat.succ_ne_zero, reduceCtorEq, nI_lit, nI_lit0, Nat.reduceLT, eq_self, Nat.zero_add, mn_lit, mn_lit', mn_0]; done)
  · refine xi_aload_n (pc' := 108) rfl rfl rfl ?_
    refine xi_iload (pc' := 110) rfl rfl rfl ?_
    refine xx_callVi (pc' := 113) rfl rfl (by decide) rfl (kd_T0 hx) (by show _ < 81 + 2 * _; omega) (Nat.le_of_ble_eq_true rfl) rfl rfl (c_obey_ok hx) ?_
    refine xx_if (pc' := 116) (tg := 129) rfl rfl rfl (fun q113 => ?_) (fun q113 => ?_)
    · refine xi_iconst (pc' := 130) rfl rfl ?_
      refine xi_istore (pc' := 132) rfl (st1_9 rfl) rfl ?_
      try simp only [ex_P, Classical.not_not, ↓reduceIte, Nat.add_zero, or_true, true_or, not_true_eq_false, not_false_eq_true, or_false, false_or, wI_get, false_and, true_and, and_true, and_false, and_self, Nat.reduceEqDiff, Nat.succ_ne_zero, reduceCtorEq, nI_lit, nI_lit0, Nat.reduceLT, eq_self, Nat.zero_add, mn_lit, mn_lit', mn_0] at *
      first | (simp only [c_an, c_an1, c_ob, c_ob1, *, ↓reduceIte, Nat.add_zero, or_true, true_or, not_true_eq_false, not_false_eq_true, or_false, false_or, wI_get, false_and, true_and, and_true, and_false, and_self, Nat.reduceEqDiff, Nat.succ_ne_zero, reduceCtorEq, nI_lit, nI_lit0, Nat.reduceLT, eq_self, Nat.zero_add, mn_lit, mn_lit', mn_0] at kk; first | with_reducible exact kk | (simp only [*]; done) | (simp only [*]; with_reducible exact kk)) | (exfalso; simp_all only [↓reduceIte, Nat.add_zero, or_true, true_or, not_true_eq_false, not_false_eq_true, or_false, false_or, wI_get, false_and, true_and, and_true, and_false, and_self, Nat.reduceEqDiff, Nat.succ_ne_zero, reduceCtorEq, nI_lit, nI_lit0, Nat.reduceLT, eq_self, Nat.zero_add, mn_lit, mn_lit', mn_0]; done)
    · refine xi_aload_n (pc' := 117) rfl rfl rfl ?_
      refine xc_getp (pc' := 120) rfl rfl (by decide) (kd_T0 hx) (by omega) (by decide) rfl (pd_T6 hx) rfl ?_
      refine xi_iload_n (pc' := 121) rfl rfl rfl ?_
      refine xc_zald (j := b) (pc' := 122) rfl (kd_T1 hx) (by omega) (by omega) (by first | rfl | (simp only [ix_add, ix_mul, ix_pred]; done) | (simp only [ix_add, ix_mul, ix_pred, *]; done)) (by omega) (by decide) rfl ?_
      refine xx_if (pc' := 125) (tg := 129) rfl rfl rfl (fun q122 => ?_) (fun q122 => ?_)
      · refine xi_iconst (pc' := 130) rfl rfl ?_
        refine xi_istore (pc' := 132) rfl (st1_9 rfl) rfl ?_
        try simp only [ex_P, Classical.not_not, ↓reduceIte, Nat.add_zero, or_true, true_or, not_true_eq_false, not_false_eq_true, or_false, false_or, wI_get, false_and, true_and, and_true, and_false, and_self, Nat.reduceEqDiff, Nat.succ_ne_zero, reduceCtorEq, nI_lit, nI_lit0, Nat.reduceLT, eq_self, Nat.zero_add, mn_lit, mn_lit', mn_0] at *
        first | (simp only [c_an, c_an1, c_ob, c_ob1, *, ↓reduceIte, Nat.add_zero, or_true, true_or, not_true_eq_false, not_false_eq_true, or_false, false_or, wI_get, false_and, true_and, and_true, and_false, and_self, Nat.reduceEqDiff, Nat.succ_ne_zero, reduceCtorEq, nI_lit, nI_lit0, Nat.reduceLT, eq_self, Nat.zero_add, mn_lit, mn_lit', mn_0] at kk; first | with_reducible exact kk | (simp only [*]; done) | (simp only [*]; with_reducible exact kk)) | (exfalso; simp_all only [↓reduceIte, Nat.add_zero, or_true, true_or, not_true_eq_false, not_false_eq_true, or_false, false_or, wI_get, false_and, true_and, and_true, and_false, and_self, Nat.reduceEqDiff, Nat.succ_ne_zero, reduceCtorEq, nI_lit, nI_lit0, Nat.reduceLT, eq_self, Nat.zero_add, mn_lit, mn_lit', mn_0]; done)
      · refine xi_iconst (pc' := 126) rfl rfl ?_
        refine xi_goto (pc' := 130) rfl rfl ?_
        refine xi_istore (pc' := 132) rfl (st1_9 rfl) rfl ?_
        try simp only [ex_P, Classical.not_not, ↓reduceIte, Nat.add_zero, or_true, true_or, not_true_eq_false, not_false_eq_true, or_false, false_or, wI_get, false_and, true_and, and_true, and_false, and_self, Nat.reduceEqDiff, Nat.succ_ne_zero, reduceCtorEq, nI_lit, nI_lit0, Nat.reduceLT, eq_self, Nat.zero_add, mn_lit, mn_lit', mn_0] at *
        first | (simp only [c_an, c_an1, c_ob, c_ob1, *, ↓reduceIte, Nat.add_zero, or_true, true_or, not_true_eq_false, not_false_eq_true, or_false, false_or, wI_get, false_and, true_and, and_true, and_false, and_self, Nat.reduceEqDiff, Nat.succ_ne_zero, reduceCtorEq, nI_lit, nI_lit0, Nat.reduceLT, eq_self, Nat.zero_add, mn_lit, mn_lit', mn_0] at kk; first | with_reducible exact kk | (simp only [*]; done) | (simp only [*]; with_reducible exact kk)) | (exfalso; simp_all only [↓reduceIte, Nat.add_zero, or_true, true_or, not_true_eq_false, not_false_eq_true, or_false, false_or, wI_get, false_and, true_and, and_true, and_false, and_self, Nat.reduceEqDiff, Nat.succ_ne_zero, reduceCtorEq, nI_lit, nI_lit0, Nat.reduceLT, eq_self, Nat.zero_add, mn_lit, mn_lit', mn_0]; done)
theorem c_ps3 {L : Nat} {xs : Nat → Int32} {D n : Nat} {I J : ex_Mem} {Q : Option Value → ex_Hp → Prop} {x y s : Nat} {w w2 ob an : Int32} (hx : x < 6) (hy : y < 6) {m b : Nat} (hb : b < 2) (h8 : n ≤ 8) (hm : m < n) (hmo : monB I) (kk : xx cb_G L xs (D + 3) 38 159 [.ref 1, .ref (81 + 2 * m), .int (nI b), .ref (8 + 6 * x), .ref (8 + 6 * y), .int (nI (4 * s)), .int w, .int w2, .int ob, .int an, .int (c_sg an I x b).1, ex_no, ex_no, ex_no] [] (mkH n (c_sg an I x b).2 J) Q) : xx cb_G L xs (D + 3) 38 132 [.ref 1, .ref (81 + 2 * m), .int (nI b), .ref (8 + 6 * x), .ref (8 + 6 * y), .int (nI (4 * s)), .int w, .int w2, .int ob, .int an, ex_no, ex_no, ex_no, ex_no] [] (mkH n I J) Q := by
  refine xi_iload (pc' := 134) rfl rfl rfl ?_
  refine xx_if (pc' := 137) (tg := 156) rfl rfl rfl (fun q134 => ?_) (fun q134 => ?_)
  · refine xi_iconst (pc' := 157) rfl rfl ?_
    refine xi_istore (pc' := 159) rfl (st1_10 rfl) rfl ?_
    try simp only [ex_P, Classical.not_not, ↓reduceIte, Nat.add_zero, or_true, true_or, not_true_eq_false, not_false_eq_true, or_false, false_or, wI_get, false_and, true_and, and_true, and_false, and_self, Nat.reduceEqDiff, Nat.succ_ne_zero, reduceCtorEq, nI_lit, nI_lit0, Nat.reduceLT, eq_self, Nat.zero_add, mn_lit, mn_lit', mn_0] at *
    first | (simp only [c_sg, c_bo, *, ↓reduceIte, Nat.add_zero, or_true, true_or, not_true_eq_false, not_false_eq_true, or_false, false_or, wI_get, false_and, true_and, and_true, and_false, and_self, Nat.reduceEqDiff, Nat.succ_ne_zero, reduceCtorEq, nI_lit, nI_lit0, Nat.reduceLT, eq_self, Nat.zero_add, mn_lit, mn_lit', mn_0] at kk; first | with_reducible exact kk | (simp only [*]; done) | (simp only [*]; with_reducible exact kk)) | (exfalso; simp_all only [↓reduceIte, Nat.add_zero, or_true, true_or, not_true_eq_false, not_false_eq_true, or_false, false_or, wI_get, false_and, true_and, and_true, and_false, and_self, Nat.reduceEqDiff, Nat.succ_ne_zero, reduceCtorEq, nI_lit, nI_lit0, Nat.reduceLT, eq_self, Nat.zero_add, mn_lit, mn_lit', mn_0]; done)
  · refine xi_aload_n (pc' := 138) rfl rfl rfl ?_
    refine xc_getp (pc' := 141) rfl rfl (by decide) rfl (by omega) (by decide) rfl rfl rfl ?_
    refine xi_iload_n (pc' := 142) rfl rfl rfl ?_
    refine xi_aload_n (pc' := 143) rfl rfl rfl ?_
    refine xx_callVi (pc' := 146) rfl rfl (by decide) rfl (kd_T0 hx) (by show _ < 81 + 2 * _; omega) (Nat.le_of_ble_eq_true rfl) rfl rfl (c_status hx) ?_
    refine xx_callVi (pc' := 149) rfl rfl (by decide) rfl rfl (by show _ < 81 + 2 * _; omega) (Nat.le_of_ble_eq_true rfl) rfl rfl (c_carry hb (by repeat (first | assumption | apply put_mon | apply dat_mon | apply obey_mon | apply obm_mon | apply rcv_mon))) ?_
    refine xx_if (pc' := 152) (tg := 156) rfl rfl rfl (fun q149 => ?_) (fun q149 => ?_)
    · refine xi_iconst (pc' := 157) rfl rfl ?_
      refine xi_istore (pc' := 159) rfl (st1_10 rfl) rfl ?_
      try simp only [ex_P, Classical.not_not, ↓reduceIte, Nat.add_zero, or_true, true_or, not_true_eq_false, not_false_eq_true, or_false, false_or, wI_get, false_and, true_and, and_true, and_false, and_self, Nat.reduceEqDiff, Nat.succ_ne_zero, reduceCtorEq, nI_lit, nI_lit0, Nat.reduceLT, eq_self, Nat.zero_add, mn_lit, mn_lit', mn_0] at *
      first | (simp only [c_sg, c_bo, *, ↓reduceIte, Nat.add_zero, or_true, true_or, not_true_eq_false, not_false_eq_true, or_false, false_or, wI_get, false_and, true_and, and_true, and_false, and_self, Nat.reduceEqDiff, Nat.succ_ne_zero, reduceCtorEq, nI_lit, nI_lit0, Nat.reduceLT, eq_self, Nat.zero_add, mn_lit, mn_lit', mn_0] at kk; first | with_reducible exact kk | (simp only [*]; done) | (simp only [*]; with_reducible exact kk)) | (exfalso; simp_all only [↓reduceIte, Nat.add_zero, or_true, true_or, not_true_eq_false, not_false_eq_true, or_false, false_or, wI_get, false_and, true_and, and_true, and_false, and_self, Nat.reduceEqDiff, Nat.succ_ne_zero, reduceCtorEq, nI_lit, nI_lit0, Nat.reduceLT, eq_self, Nat.zero_add, mn_lit, mn_lit', mn_0]; done)
    · refine xi_iconst (pc' := 153) rfl rfl ?_
      refine xi_goto (pc' := 157) rfl rfl ?_
      refine xi_istore (pc' := 159) rfl (st1_10 rfl) rfl ?_
      try simp only [ex_P, Classical.not_not, ↓reduceIte, Nat.add_zero, or_true, true_or, not_true_eq_false, not_false_eq_true, or_false, false_or, wI_get, false_and, true_and, and_true, and_false, and_self, Nat.reduceEqDiff, Nat.succ_ne_zero, reduceCtorEq, nI_lit, nI_lit0, Nat.reduceLT, eq_self, Nat.zero_add, mn_lit, mn_lit', mn_0] at *
      first | (simp only [c_sg, c_bo, *, ↓reduceIte, Nat.add_zero, or_true, true_or, not_true_eq_false, not_false_eq_true, or_false, false_or, wI_get, false_and, true_and, and_true, and_false, and_self, Nat.reduceEqDiff, Nat.succ_ne_zero, reduceCtorEq, nI_lit, nI_lit0, Nat.reduceLT, eq_self, Nat.zero_add, mn_lit, mn_lit', mn_0] at kk; first | with_reducible exact kk | (simp only [*]; done) | (simp only [*]; with_reducible exact kk)) | (exfalso; simp_all only [↓reduceIte, Nat.add_zero, or_true, true_or, not_true_eq_false, not_false_eq_true, or_false, false_or, wI_get, false_and, true_and, and_true, and_false, and_self, Nat.reduceEqDiff, Nat.succ_ne_zero, reduceCtorEq, nI_lit, nI_lit0, Nat.reduceLT, eq_self, Nat.zero_add, mn_lit, mn_lit', mn_0]; done)
theorem c_ps4 {L : Nat} {xs : Nat → Int32} {D n : Nat} {I J : ex_Mem} {Q : Option Value → ex_Hp → Prop} {x y s nn : Nat} {w w2 ob an sg : Int32} (hx : x < 6) (hy : y < 6) (hs : s < 3) {m b : Nat} (hb : b < 2) (h8 : n ≤ 8) (hm : m < n) (hmo : monB I) (hn : I (81 + 2 * m) 4 = nI nn) (h4 : nn ≤ 4) (kk : xx cb_G L xs (D + 3) 38 192 [.ref 1, .ref (81 + 2 * m), .int (nI b), .ref (8 + 6 * x), .ref (8 + 6 * y), .int (nI (4 * s)), .int w, .int w2, .int ob, .int an, .int sg, .int (c_dg an I b (11 + 6 * x) (4 * s) nn).1, ex_no, ex_no] [] (mkH n (c_dg an I b (11 + 6 * x) (4 * s) nn).2 J) Q) : xx cb_G L xs (D + 3) 38 159 [.ref 1, .ref (81 + 2 * m), .int (nI b), .ref (8 + 6 * x), .ref (8 + 6 * y), .int (nI (4 * s)), .int w, .int w2, .int ob, .int an, .int sg, ex_no, ex_no, ex_no] [] (mkH n I J) Q := by
  refine xi_iload (pc' := 161) rfl rfl rfl ?_
  refine xx_if (pc' := 164) (tg := 189) rfl rfl rfl (fun q161 => ?_) (fun q161 => ?_)
  · refine xi_iconst (pc' := 190) rfl rfl ?_
    refine xi_istore (pc' := 192) rfl (st1_11 rfl) rfl ?_
    try simp only [ex_P, Classical.not_not, ↓reduceIte, Nat.add_zero, or_true, true_or, not_true_eq_false, not_false_eq_true, or_false, false_or, wI_get, false_and, true_and, and_true, and_false, and_self, Nat.reduceEqDiff, Nat.succ_ne_zero, reduceCtorEq, nI_lit, nI_lit0, Nat.reduceLT, eq_self, Nat.zero_add, mn_lit, mn_lit', mn_0] at *
    first | (simp only [c_dg, c_bo, *, ↓reduceIte, Nat.add_zero, or_true, true_or, not_true_eq_false, not_false_eq_true, or_false, false_or, wI_get, false_and, true_and, and_true, and_false, and_self, Nat.reduceEqDiff, Nat.succ_ne_zero, reduceCtorEq, nI_lit, nI_lit0, Nat.reduceLT, eq_self, Nat.zero_add, mn_lit, mn_lit', mn_0] at kk; first | with_reducible exact kk | (simp only [*]; done) | (simp only [*]; with_reducible exact kk)) | (exfalso; simp_all only [↓reduceIte, Nat.add_zero, or_true, true_or, not_true_eq_false, not_false_eq_true, or_false, false_or, wI_get, false_and, true_and, and_true, and_false, and_self, Nat.reduceEqDiff, Nat.succ_ne_zero, reduceCtorEq, nI_lit, nI_lit0, Nat.reduceLT, eq_self, Nat.zero_add, mn_lit, mn_lit', mn_0]; done)
  · refine xi_aload_n (pc' := 165) rfl rfl rfl ?_
    refine xc_getp (pc' := 168) rfl rfl (by decide) rfl (by omega) (by decide) rfl rfl rfl ?_
    refine xi_iload_n (pc' := 169) rfl rfl rfl ?_
    refine xi_aload_n (pc' := 170) rfl rfl rfl ?_
    refine xc_getp (pc' := 173) rfl rfl (by decide) (kd_T0 hx) (by omega) (by decide) rfl (pd_T8 hx) rfl ?_
    refine xi_iload (pc' := 175) rfl rfl rfl ?_
    refine xi_aload_n (pc' := 176) rfl rfl rfl ?_
    refine xc_getiv (v := nI (nn)) (pc' := 179) rfl rfl (by decide) (kd_M0 (Nat.lt_of_lt_of_le hm h8)) (by omega) (by omega) (by decide) (by decide) (hn) rfl ?_
    refine xx_callVi (pc' := 182) rfl rfl (by decide) rfl rfl (by show _ < 81 + 2 * _; omega) (Nat.le_of_ble_eq_true rfl) rfl rfl (c_carryData hb (kd_T3 hx) (by omega) (by omega) (by omega) (show 4 * s + nn ≤ 12 by omega) (by decide) h4 hmo) ?_
    refine xx_if (pc' := 185) (tg := 189) rfl rfl rfl (fun q182 => ?_) (fun q182 => ?_)
    · refine xi_iconst (pc' := 190) rfl rfl ?_
      refine xi_istore (pc' := 192) rfl (st1_11 rfl) rfl ?_
      try simp only [ex_P, Classical.not_not, ↓reduceIte, Nat.add_zero, or_true, true_or, not_true_eq_false, not_false_eq_true, or_false, false_or, wI_get, false_and, true_and, and_true, and_false, and_self, Nat.reduceEqDiff, Nat.succ_ne_zero, reduceCtorEq, nI_lit, nI_lit0, Nat.reduceLT, eq_self, Nat.zero_add, mn_lit, mn_lit', mn_0] at *
      first | (simp only [c_dg, c_bo, *, ↓reduceIte, Nat.add_zero, or_true, true_or, not_true_eq_false, not_false_eq_true, or_false, false_or, wI_get, false_and, true_and, and_true, and_false, and_self, Nat.reduceEqDiff, Nat.succ_ne_zero, reduceCtorEq, nI_lit, nI_lit0, Nat.reduceLT, eq_self, Nat.zero_add, mn_lit, mn_lit', mn_0] at kk; first | with_reducible exact kk | (simp only [*]; done) | (simp only [*]; with_reducible exact kk)) | (exfalso; simp_all only [↓reduceIte, Nat.add_zero, or_true, true_or, not_true_eq_false, not_false_eq_true, or_false, false_or, wI_get, false_and, true_and, and_true, and_false, and_self, Nat.reduceEqDiff, Nat.succ_ne_zero, reduceCtorEq, nI_lit, nI_lit0, Nat.reduceLT, eq_self, Nat.zero_add, mn_lit, mn_lit', mn_0]; done)
    · refine xi_iconst (pc' := 186) rfl rfl ?_
      refine xi_goto (pc' := 190) rfl rfl ?_
      refine xi_istore (pc' := 192) rfl (st1_11 rfl) rfl ?_
      try simp only [ex_P, Classical.not_not, ↓reduceIte, Nat.add_zero, or_true, true_or, not_true_eq_false, not_false_eq_true, or_false, false_or, wI_get, false_and, true_and, and_true, and_false, and_self, Nat.reduceEqDiff, Nat.succ_ne_zero, reduceCtorEq, nI_lit, nI_lit0, Nat.reduceLT, eq_self, Nat.zero_add, mn_lit, mn_lit', mn_0] at *
      first | (simp only [c_dg, c_bo, *, ↓reduceIte, Nat.add_zero, or_true, true_or, not_true_eq_false, not_false_eq_true, or_false, false_or, wI_get, false_and, true_and, and_true, and_false, and_self, Nat.reduceEqDiff, Nat.succ_ne_zero, reduceCtorEq, nI_lit, nI_lit0, Nat.reduceLT, eq_self, Nat.zero_add, mn_lit, mn_lit', mn_0] at kk; first | with_reducible exact kk | (simp only [*]; done) | (simp only [*]; with_reducible exact kk)) | (exfalso; simp_all only [↓reduceIte, Nat.add_zero, or_true, true_or, not_true_eq_false, not_false_eq_true, or_false, false_or, wI_get, false_and, true_and, and_true, and_false, and_self, Nat.reduceEqDiff, Nat.succ_ne_zero, reduceCtorEq, nI_lit, nI_lit0, Nat.reduceLT, eq_self, Nat.zero_add, mn_lit, mn_lit', mn_0]; done)
theorem c_ps5 {L : Nat} {xs : Nat → Int32} {D n : Nat} {I J : ex_Mem} {Q : Option Value → ex_Hp → Prop} {x y s nn : Nat} {w w2 ob an sg dg : Int32} (hx : x < 6) (hy : y < 6) (hs : s < 3) {m b : Nat} (hb : b < 2) (h8 : n ≤ 8) (hm : m < n) (hmo : monB I) (hsb : I (81 + 2 * m) 3 = nI (s + 1)) (hn : I (81 + 2 * m) 4 = nI nn) (h1 : 1 ≤ nn) (h4 : nn ≤ 4) (kk : xx cb_G L xs (D + 3) 38 228 [.ref 1, .ref (81 + 2 * m), .int (nI b), .ref (8 + 6 * x), .ref (8 + 6 * y), .int (nI (4 * s)), .int w, .int w2, .int ob, .int an, .int sg, .int dg, .int (c_rg ob I y s (11 + 6 * x) (4 * s) nn dg).1, ex_no] [] (mkH n (c_rg ob I y s (11 + 6 * x) (4 * s) nn dg).2 J) Q) : xx cb_G L xs (D + 3) 38 192 [.ref 1, .ref (81 + 2 * m), .int (nI b), .ref (8 + 6 * x), .ref (8 + 6 * y), .int (nI (4 * s)), .int w, .int w2, .int ob, .int an, .int sg, .int dg, ex_no, ex_no] [] (mkH n I J) Q := by
  refine xi_iload (pc' := 194) rfl rfl rfl ?_
  refine xx_if (pc' := 197) (tg := 225) rfl rfl rfl (fun q194 => ?_) (fun q194 => ?_)
  · refine xi_iconst (pc' := 226) rfl rfl ?_
    refine xi_istore (pc' := 228) rfl (st1_12 rfl) rfl ?_
    try simp only [ex_P, Classical.not_not, ↓reduceIte, Nat.add_zero, or_true, true_or, not_true_eq_false, not_false_eq_true, or_false, false_or, wI_get, false_and, true_and, and_true, and_false, and_self, Nat.reduceEqDiff, Nat.succ_ne_zero, reduceCtorEq, nI_lit, nI_lit0, Nat.reduceLT, eq_self, Nat.zero_add, mn_lit, mn_lit', mn_0] at *
    first | (simp only [c_rg, c_bo, *, ↓reduceIte, Nat.add_zero, or_true, true_or, not_true_eq_false, not_false_eq_true, or_false, false_or, wI_get, false_and, true_and, and_true, and_false, and_self, Nat.reduceEqDiff, Nat.succ_ne_zero, reduceCtorEq, nI_lit, nI_lit0, Nat.reduceLT, eq_self, Nat.zero_add, mn_lit, mn_lit', mn_0] at kk; first | with_reducible exact kk | (simp only [*]; done) | (simp only [*]; with_reducible exact kk)) | (exfalso; simp_all only [↓reduceIte, Nat.add_zero, or_true, true_or, not_true_eq_false, not_false_eq_true, or_false, false_or, wI_get, false_and, true_and, and_true, and_false, and_self, Nat.reduceEqDiff, Nat.succ_ne_zero, reduceCtorEq, nI_lit, nI_lit0, Nat.reduceLT, eq_self, Nat.zero_add, mn_lit, mn_lit', mn_0]; done)
  · refine xi_aload (pc' := 199) rfl rfl rfl ?_
    refine xi_iload (pc' := 201) rfl rfl rfl ?_
    refine xi_aload_n (pc' := 202) rfl rfl rfl ?_
    refine xc_getiv (v := nI (s + 1)) (pc' := 205) rfl rfl (by decide) (kd_M0 (Nat.lt_of_lt_of_le hm h8)) (by omega) (by omega) (by decide) (by decide) (hsb) rfl ?_
    refine xi_aload_n (pc' := 206) rfl rfl rfl ?_
    refine xc_getp (pc' := 209) rfl rfl (by decide) (kd_T0 hx) (by omega) (by decide) rfl (pd_T8 hx) rfl ?_
    refine xi_iload (pc' := 211) rfl rfl rfl ?_
    refine xi_aload_n (pc' := 212) rfl rfl rfl ?_
    refine xc_getiv (v := nI (nn)) (pc' := 215) rfl rfl (by decide) (kd_M0 (Nat.lt_of_lt_of_le hm h8)) (by omega) (by omega) (by decide) (by decide) (hn) rfl ?_
    refine xx_callVi (pc' := 218) rfl rfl (by decide) rfl (kd_T0 hy) (by show _ < 81 + 2 * _; omega) (Nat.le_of_ble_eq_true rfl) rfl rfl (c_receive hy hs (kd_T3 hx) (by omega) (by omega) (by omega) (by decide) (by omega) (show 4 * s + nn ≤ 12 by omega) h1 h4) ?_
    refine xx_if (pc' := 221) (tg := 225) rfl rfl rfl (fun q218 => ?_) (fun q218 => ?_)
    · refine xi_iconst (pc' := 226) rfl rfl ?_
      refine xi_istore (pc' := 228) rfl (st1_12 rfl) rfl ?_
      try simp only [ex_P, Classical.not_not, ↓reduceIte, Nat.add_zero, or_true, true_or, not_true_eq_false, not_false_eq_true, or_false, false_or, wI_get, false_and, true_and, and_true, and_false, and_self, Nat.reduceEqDiff, Nat.succ_ne_zero, reduceCtorEq, nI_lit, nI_lit0, Nat.reduceLT, eq_self, Nat.zero_add, mn_lit, mn_lit', mn_0] at *
      first | (simp only [c_rg, c_bo, *, ↓reduceIte, Nat.add_zero, or_true, true_or, not_true_eq_false, not_false_eq_true, or_false, false_or, wI_get, false_and, true_and, and_true, and_false, and_self, Nat.reduceEqDiff, Nat.succ_ne_zero, reduceCtorEq, nI_lit, nI_lit0, Nat.reduceLT, eq_self, Nat.zero_add, mn_lit, mn_lit', mn_0] at kk; first | with_reducible exact kk | (simp only [*]; done) | (simp only [*]; with_reducible exact kk)) | (exfalso; simp_all only [↓reduceIte, Nat.add_zero, or_true, true_or, not_true_eq_false, not_false_eq_true, or_false, false_or, wI_get, false_and, true_and, and_true, and_false, and_self, Nat.reduceEqDiff, Nat.succ_ne_zero, reduceCtorEq, nI_lit, nI_lit0, Nat.reduceLT, eq_self, Nat.zero_add, mn_lit, mn_lit', mn_0]; done)
    · refine xi_iconst (pc' := 222) rfl rfl ?_
      refine xi_goto (pc' := 226) rfl rfl ?_
      refine xi_istore (pc' := 228) rfl (st1_12 rfl) rfl ?_
      try simp only [ex_P, Classical.not_not, ↓reduceIte, Nat.add_zero, or_true, true_or, not_true_eq_false, not_false_eq_true, or_false, false_or, wI_get, false_and, true_and, and_true, and_false, and_self, Nat.reduceEqDiff, Nat.succ_ne_zero, reduceCtorEq, nI_lit, nI_lit0, Nat.reduceLT, eq_self, Nat.zero_add, mn_lit, mn_lit', mn_0] at *
      first | (simp only [c_rg, c_bo, *, ↓reduceIte, Nat.add_zero, or_true, true_or, not_true_eq_false, not_false_eq_true, or_false, false_or, wI_get, false_and, true_and, and_true, and_false, and_self, Nat.reduceEqDiff, Nat.succ_ne_zero, reduceCtorEq, nI_lit, nI_lit0, Nat.reduceLT, eq_self, Nat.zero_add, mn_lit, mn_lit', mn_0] at kk; first | with_reducible exact kk | (simp only [*]; done) | (simp only [*]; with_reducible exact kk)) | (exfalso; simp_all only [↓reduceIte, Nat.add_zero, or_true, true_or, not_true_eq_false, not_false_eq_true, or_false, false_or, wI_get, false_and, true_and, and_true, and_false, and_self, Nat.reduceEqDiff, Nat.succ_ne_zero, reduceCtorEq, nI_lit, nI_lit0, Nat.reduceLT, eq_self, Nat.zero_add, mn_lit, mn_lit', mn_0]; done)
theorem c_ps6 {L : Nat} {xs : Nat → Int32} {D n : Nat} {I J : ex_Mem} {Q : Option Value → ex_Hp → Prop} {x y s : Nat} {w w2 ob an sg dg rc : Int32} (hx : x < 6) (hy : y < 6) {m b : Nat} (hb : b < 2) (h8 : n ≤ 8) (hm : m < n) (hmo : monB I) (kk : xx cb_G L xs (D + 3) 38 266 [.ref 1, .ref (81 + 2 * m), .int (nI b), .ref (8 + 6 * x), .ref (8 + 6 * y), .int (nI (4 * s)), .int w, .int w2, .int ob, .int an, .int sg, .int dg, .int rc, .int (c_fs rc I y b).1] [] (mkH n (c_fs rc I y b).2 J) Q) : xx cb_G L xs (D + 3) 38 228 [.ref 1, .ref (81 + 2 * m), .int (nI b), .ref (8 + 6 * x), .ref (8 + 6 * y), .int (nI (4 * s)), .int w, .int w2, .int ob, .int an, .int sg, .int dg, .int rc, ex_no] [] (mkH n I J) Q := by
  refine xi_iload (pc' := 230) rfl rfl rfl ?_
  refine xx_if (pc' := 233) (tg := 263) rfl rfl rfl (fun q230 => ?_) (fun q230 => ?_)
  · refine xi_iconst (pc' := 264) rfl rfl ?_
    refine xi_istore (pc' := 266) rfl (st1_13 rfl) rfl ?_
    try simp only [ex_P, Classical.not_not, ↓reduceIte, Nat.add_zero, or_true, true_or, not_true_eq_false, not_false_eq_true, or_false, false_or, wI_get, false_and, true_and, and_true, and_false, and_self, Nat.reduceEqDiff, Nat.succ_ne_zero, reduceCtorEq, nI_lit, nI_lit0, Nat.reduceLT, eq_self, Nat.zero_add, mn_lit, mn_lit', mn_0] at *
    first | (simp only [c_fs, c_bo, *, ↓reduceIte, Nat.add_zero, or_true, true_or, not_true_eq_false, not_false_eq_true, or_false, false_or, wI_get, false_and, true_and, and_true, and_false, and_self, Nat.reduceEqDiff, Nat.succ_ne_zero, reduceCtorEq, nI_lit, nI_lit0, Nat.reduceLT, eq_self, Nat.zero_add, mn_lit, mn_lit', mn_0] at kk; first | with_reducible exact kk | (simp only [*]; done) | (simp only [*]; with_reducible exact kk)) | (exfalso; simp_all only [↓reduceIte, Nat.add_zero, or_true, true_or, not_true_eq_false, not_false_eq_true, or_false, false_or, wI_get, false_and, true_and, and_true, and_false, and_self, Nat.reduceEqDiff, Nat.succ_ne_zero, reduceCtorEq, nI_lit, nI_lit0, Nat.reduceLT, eq_self, Nat.zero_add, mn_lit, mn_lit', mn_0]; done)
  · refine xi_aload (pc' := 235) rfl rfl rfl ?_
    refine xc_getp (pc' := 238) rfl rfl (by decide) (kd_T0 hy) (by omega) (by decide) rfl (pd_T6 hy) rfl ?_
    refine xi_iload_n (pc' := 239) rfl rfl rfl ?_
    refine xc_zald (j := b) (pc' := 240) rfl (kd_T1 hy) (by omega) (by omega) (by first | rfl | (simp only [ix_add, ix_mul, ix_pred]; done) | (simp only [ix_add, ix_mul, ix_pred, *]; done)) (by omega) (by decide) rfl ?_
    refine xx_if (pc' := 243) (tg := 263) rfl rfl rfl (fun q240 => ?_) (fun q240 => ?_)
    · refine xi_iconst (pc' := 264) rfl rfl ?_
      refine xi_istore (pc' := 266) rfl (st1_13 rfl) rfl ?_
      try simp only [ex_P, Classical.not_not, ↓reduceIte, Nat.add_zero, or_true, true_or, not_true_eq_false, not_false_eq_true, or_false, false_or, wI_get, false_and, true_and, and_true, and_false, and_self, Nat.reduceEqDiff, Nat.succ_ne_zero, reduceCtorEq, nI_lit, nI_lit0, Nat.reduceLT, eq_self, Nat.zero_add, mn_lit, mn_lit', mn_0] at *
      first | (simp only [c_fs, c_bo, *, ↓reduceIte, Nat.add_zero, or_true, true_or, not_true_eq_false, not_false_eq_true, or_false, false_or, wI_get, false_and, true_and, and_true, and_false, and_self, Nat.reduceEqDiff, Nat.succ_ne_zero, reduceCtorEq, nI_lit, nI_lit0, Nat.reduceLT, eq_self, Nat.zero_add, mn_lit, mn_lit', mn_0] at kk; first | with_reducible exact kk | (simp only [*]; done) | (simp only [*]; with_reducible exact kk)) | (exfalso; simp_all only [↓reduceIte, Nat.add_zero, or_true, true_or, not_true_eq_false, not_false_eq_true, or_false, false_or, wI_get, false_and, true_and, and_true, and_false, and_self, Nat.reduceEqDiff, Nat.succ_ne_zero, reduceCtorEq, nI_lit, nI_lit0, Nat.reduceLT, eq_self, Nat.zero_add, mn_lit, mn_lit', mn_0]; done)
    · refine xi_aload_n (pc' := 244) rfl rfl rfl ?_
      refine xc_getp (pc' := 247) rfl rfl (by decide) rfl (by omega) (by decide) rfl rfl rfl ?_
      refine xi_iload_n (pc' := 248) rfl rfl rfl ?_
      refine xi_aload (pc' := 250) rfl rfl rfl ?_
      refine xx_callVi (pc' := 253) rfl rfl (by decide) rfl (kd_T0 hy) (by show _ < 81 + 2 * _; omega) (Nat.le_of_ble_eq_true rfl) rfl rfl (c_status hy) ?_
      refine xx_callVi (pc' := 256) rfl rfl (by decide) rfl rfl (by show _ < 81 + 2 * _; omega) (Nat.le_of_ble_eq_true rfl) rfl rfl (c_carry hb (by repeat (first | assumption | apply put_mon | apply dat_mon | apply obey_mon | apply obm_mon | apply rcv_mon))) ?_
      refine xx_if (pc' := 259) (tg := 263) rfl rfl rfl (fun q256 => ?_) (fun q256 => ?_)
      · refine xi_iconst (pc' := 264) rfl rfl ?_
        refine xi_istore (pc' := 266) rfl (st1_13 rfl) rfl ?_
        try simp only [ex_P, Classical.not_not, ↓reduceIte, Nat.add_zero, or_true, true_or, not_true_eq_false, not_false_eq_true, or_false, false_or, wI_get, false_and, true_and, and_true, and_false, and_self, Nat.reduceEqDiff, Nat.succ_ne_zero, reduceCtorEq, nI_lit, nI_lit0, Nat.reduceLT, eq_self, Nat.zero_add, mn_lit, mn_lit', mn_0] at *
        first | (simp only [c_fs, c_bo, *, ↓reduceIte, Nat.add_zero, or_true, true_or, not_true_eq_false, not_false_eq_true, or_false, false_or, wI_get, false_and, true_and, and_true, and_false, and_self, Nat.reduceEqDiff, Nat.succ_ne_zero, reduceCtorEq, nI_lit, nI_lit0, Nat.reduceLT, eq_self, Nat.zero_add, mn_lit, mn_lit', mn_0] at kk; first | with_reducible exact kk | (simp only [*]; done) | (simp only [*]; with_reducible exact kk)) | (exfalso; simp_all only [↓reduceIte, Nat.add_zero, or_true, true_or, not_true_eq_false, not_false_eq_true, or_false, false_or, wI_get, false_and, true_and, and_true, and_false, and_self, Nat.reduceEqDiff, Nat.succ_ne_zero, reduceCtorEq, nI_lit, nI_lit0, Nat.reduceLT, eq_self, Nat.zero_add, mn_lit, mn_lit', mn_0]; done)
      · refine xi_iconst (pc' := 260) rfl rfl ?_
        refine xi_goto (pc' := 264) rfl rfl ?_
        refine xi_istore (pc' := 266) rfl (st1_13 rfl) rfl ?_
        try simp only [ex_P, Classical.not_not, ↓reduceIte, Nat.add_zero, or_true, true_or, not_true_eq_false, not_false_eq_true, or_false, false_or, wI_get, false_and, true_and, and_true, and_false, and_self, Nat.reduceEqDiff, Nat.succ_ne_zero, reduceCtorEq, nI_lit, nI_lit0, Nat.reduceLT, eq_self, Nat.zero_add, mn_lit, mn_lit', mn_0] at *
        first | (simp only [c_fs, c_bo, *, ↓reduceIte, Nat.add_zero, or_true, true_or, not_true_eq_false, not_false_eq_true, or_false, false_or, wI_get, false_and, true_and, and_true, and_false, and_self, Nat.reduceEqDiff, Nat.succ_ne_zero, reduceCtorEq, nI_lit, nI_lit0, Nat.reduceLT, eq_self, Nat.zero_add, mn_lit, mn_lit', mn_0] at kk; first | with_reducible exact kk | (simp only [*]; done) | (simp only [*]; with_reducible exact kk)) | (exfalso; simp_all only [↓reduceIte, Nat.add_zero, or_true, true_or, not_true_eq_false, not_false_eq_true, or_false, false_or, wI_get, false_and, true_and, and_true, and_false, and_self, Nat.reduceEqDiff, Nat.succ_ne_zero, reduceCtorEq, nI_lit, nI_lit0, Nat.reduceLT, eq_self, Nat.zero_add, mn_lit, mn_lit', mn_0]; done)
theorem fs_mon {S : ex_Mem} {rc : Int32} {t b : Nat} (h : monB S) : monB (c_fs rc S t b).2 := by
  unfold c_fs
  split
  · exact h
  · split
    · exact put_mon h
    · exact h
def c_psR (sg fs : Int32) (S : ex_Mem) : Int32 × ex_Mem := (if sg = 0 then nI 0 else if fs = 0 then nI 0 else nI 1, S)
theorem c_ps7 {L : Nat} {xs : Nat → Int32} {D n : Nat} {I J : ex_Mem} {x y s : Nat} {w w2 ob an sg dg rc fs : Int32} (hx : x < 6) (hy : y < 6) {m b : Nat} (hb : b < 2) (h8 : n ≤ 8) (hm : m < n) (hmo : monB I) : xx cb_G L xs (D + 3) 38 266 [.ref 1, .ref (81 + 2 * m), .int (nI b), .ref (8 + 6 * x), .ref (8 + 6 * y), .int (nI (4 * s)), .int w, .int w2, .int ob, .int an, .int sg, .int dg, .int rc, .int fs] [] (mkH n I J) (fun r h => r = some (.int (c_psR sg fs I).1) ∧ h = mkH n (c_psR sg fs I).2 J) := by
  refine xi_iload (pc' := 268) rfl rfl rfl ?_
  refine xx_if (pc' := 271) (tg := 280) rfl rfl rfl (fun q268 => ?_) (fun q268 => ?_)
  · refine xi_iconst (pc' := 281) rfl rfl ?_
    refine xx_zreturn rfl rfl (by first | rfl | assumption | exact b01_bI | simp [ex_b01, bI]) ?_
    simp only [ex_P, Classical.not_not, ↓reduceIte, Nat.add_zero, or_true, true_or, not_true_eq_false, not_false_eq_true, or_false, false_or, wI_get, false_and, true_and, and_true, and_false, and_self, Nat.reduceEqDiff, Nat.succ_ne_zero, reduceCtorEq, nI_lit, nI_lit0, Nat.reduceLT, eq_self, Nat.zero_add, mn_lit, mn_lit', mn_0] at *
    first | (simp only [c_psR, *, ↓reduceIte, Nat.add_zero, or_true, true_or, not_true_eq_false, not_false_eq_true, or_false, false_or, wI_get, false_and, true_and, and_true, and_false, and_self, Nat.reduceEqDiff, Nat.succ_ne_zero, reduceCtorEq, nI_lit, nI_lit0, Nat.reduceLT, eq_self, Nat.zero_add, mn_lit, mn_lit', mn_0]; done) | (exfalso; simp_all only [↓reduceIte, Nat.add_zero, or_true, true_or, not_true_eq_false, not_false_eq_true, or_false, false_or, wI_get, false_and, true_and, and_true, and_false, and_self, Nat.reduceEqDiff, Nat.succ_ne_zero, reduceCtorEq, nI_lit, nI_lit0, Nat.reduceLT, eq_self, Nat.zero_add, mn_lit, mn_lit', mn_0]; done)
  · refine xi_iload (pc' := 273) rfl rfl rfl ?_
    refine xx_if (pc' := 276) (tg := 280) rfl rfl rfl (fun q273 => ?_) (fun q273 => ?_)
    · refine xi_iconst (pc' := 281) rfl rfl ?_
      refine xx_zreturn rfl rfl (by first | rfl | assumption | exact b01_bI | simp [ex_b01, bI]) ?_
      simp only [ex_P, Classical.not_not, ↓reduceIte, Nat.add_zero, or_true, true_or, not_true_eq_false, not_false_eq_true, or_false, false_or, wI_get, false_and, true_and, and_true, and_false, and_self, Nat.reduceEqDiff, Nat.succ_ne_zero, reduceCtorEq, nI_lit, nI_lit0, Nat.reduceLT, eq_self, Nat.zero_add, mn_lit, mn_lit', mn_0] at *
      first | (simp only [c_psR, *, ↓reduceIte, Nat.add_zero, or_true, true_or, not_true_eq_false, not_false_eq_true, or_false, false_or, wI_get, false_and, true_and, and_true, and_false, and_self, Nat.reduceEqDiff, Nat.succ_ne_zero, reduceCtorEq, nI_lit, nI_lit0, Nat.reduceLT, eq_self, Nat.zero_add, mn_lit, mn_lit', mn_0]; done) | (exfalso; simp_all only [↓reduceIte, Nat.add_zero, or_true, true_or, not_true_eq_false, not_false_eq_true, or_false, false_or, wI_get, false_and, true_and, and_true, and_false, and_self, Nat.reduceEqDiff, Nat.succ_ne_zero, reduceCtorEq, nI_lit, nI_lit0, Nat.reduceLT, eq_self, Nat.zero_add, mn_lit, mn_lit', mn_0]; done)
    · refine xi_iconst (pc' := 277) rfl rfl ?_
      refine xi_goto (pc' := 281) rfl rfl ?_
      refine xx_zreturn rfl rfl (by first | rfl | assumption | exact b01_bI | simp [ex_b01, bI]) ?_
      simp only [ex_P, Classical.not_not, ↓reduceIte, Nat.add_zero, or_true, true_or, not_true_eq_false, not_false_eq_true, or_false, false_or, wI_get, false_and, true_and, and_true, and_false, and_self, Nat.reduceEqDiff, Nat.succ_ne_zero, reduceCtorEq, nI_lit, nI_lit0, Nat.reduceLT, eq_self, Nat.zero_add, mn_lit, mn_lit', mn_0] at *
      first | (simp only [c_psR, *, ↓reduceIte, Nat.add_zero, or_true, true_or, not_true_eq_false, not_false_eq_true, or_false, false_or, wI_get, false_and, true_and, and_true, and_false, and_self, Nat.reduceEqDiff, Nat.succ_ne_zero, reduceCtorEq, nI_lit, nI_lit0, Nat.reduceLT, eq_self, Nat.zero_add, mn_lit, mn_lit', mn_0]; done) | (exfalso; simp_all only [↓reduceIte, Nat.add_zero, or_true, true_or, not_true_eq_false, not_false_eq_true, or_false, false_or, wI_get, false_and, true_and, and_true, and_false, and_self, Nat.reduceEqDiff, Nat.succ_ne_zero, reduceCtorEq, nI_lit, nI_lit0, Nat.reduceLT, eq_self, Nat.zero_add, mn_lit, mn_lit', mn_0]; done)
def c_p6 (C F : Int32 × ex_Mem) : Int32 × ex_Mem := c_psR C.1 F.1 F.2
def c_p5 (C E : Int32 × ex_Mem) (y b : Nat) : Int32 × ex_Mem := c_p6 C (c_fs E.1 E.2 y b)
def c_p4 (A C D : Int32 × ex_Mem) (x y s nn b : Nat) : Int32 × ex_Mem := c_p5 C (c_rg A.1 D.2 y s (11 + 6 * x) (4 * s) nn D.1) y b
def c_p3 (A B C : Int32 × ex_Mem) (x y s nn b : Nat) : Int32 × ex_Mem := c_p4 A C (c_dg B.1 C.2 b (11 + 6 * x) (4 * s) nn) x y s nn b
def c_p2 (A B : Int32 × ex_Mem) (x y s nn b : Nat) : Int32 × ex_Mem := c_p3 A B (c_sg B.1 B.2 x b) x y s nn b
def c_p1 (A : Int32 × ex_Mem) (x y s nn b : Nat) : Int32 × ex_Mem := c_p2 A (c_an A.2 x b (c_sw x s nn)) x y s nn b
def c_pass (I : ex_Mem) (x y s nn b : Nat) : Int32 × ex_Mem := c_p1 (c_ob I y b (c_rw y s nn)) x y s nn b
theorem c_pass_eq {I : ex_Mem} {x y s nn b : Nat} : c_pass I x y s nn b = c_psR (c_sg (c_an (c_ob I y b (c_rw y s nn)).2 x b (c_sw x s nn)).1 (c_an (c_ob I y b (c_rw y s nn)).2 x b (c_sw x s nn)).2 x b).1 (c_fs (c_rg (c_ob I y b (c_rw y s nn)).1 (c_dg (c_an (c_ob I y b (c_rw y s nn)).2 x b (c_sw x s nn)).1 (c_sg (c_an (c_ob I y b (c_rw y s nn)).2 x b (c_sw x s nn)).1 (c_an (c_ob I y b (c_rw y s nn)).2 x b (c_sw x s nn)).2 x b).2 b (11 + 6 * x) (4 * s) nn).2 y s (11 + 6 * x) (4 * s) nn (c_dg (c_an (c_ob I y b (c_rw y s nn)).2 x b (c_sw x s nn)).1 (c_sg (c_an (c_ob I y b (c_rw y s nn)).2 x b (c_sw x s nn)).1 (c_an (c_ob I y b (c_rw y s nn)).2 x b (c_sw x s nn)).2 x b).2 b (11 + 6 * x) (4 * s) nn).1).1 (c_rg (c_ob I y b (c_rw y s nn)).1 (c_dg (c_an (c_ob I y b (c_rw y s nn)).2 x b (c_sw x s nn)).1 (c_sg (c_an (c_ob I y b (c_rw y s nn)).2 x b (c_sw x s nn)).1 (c_an (c_ob I y b (c_rw y s nn)).2 x b (c_sw x s nn)).2 x b).2 b (11 + 6 * x) (4 * s) nn).2 y s (11 + 6 * x) (4 * s) nn (c_dg (c_an (c_ob I y b (c_rw y s nn)).2 x b (c_sw x s nn)).1 (c_sg (c_an (c_ob I y b (c_rw y s nn)).2 x b (c_sw x s nn)).1 (c_an (c_ob I y b (c_rw y s nn)).2 x b (c_sw x s nn)).2 x b).2 b (11 + 6 * x) (4 * s) nn).1).2 y b).1 (c_fs (c_rg (c_ob I y b (c_rw y s nn)).1 (c_dg (c_an (c_ob I y b (c_rw y s nn)).2 x b (c_sw x s nn)).1 (c_sg (c_an (c_ob I y b (c_rw y s nn)).2 x b (c_sw x s nn)).1 (c_an (c_ob I y b (c_rw y s nn)).2 x b (c_sw x s nn)).2 x b).2 b (11 + 6 * x) (4 * s) nn).2 y s (11 + 6 * x) (4 * s) nn (c_dg (c_an (c_ob I y b (c_rw y s nn)).2 x b (c_sw x s nn)).1 (c_sg (c_an (c_ob I y b (c_rw y s nn)).2 x b (c_sw x s nn)).1 (c_an (c_ob I y b (c_rw y s nn)).2 x b (c_sw x s nn)).2 x b).2 b (11 + 6 * x) (4 * s) nn).1).1 (c_rg (c_ob I y b (c_rw y s nn)).1 (c_dg (c_an (c_ob I y b (c_rw y s nn)).2 x b (c_sw x s nn)).1 (c_sg (c_an (c_ob I y b (c_rw y s nn)).2 x b (c_sw x s nn)).1 (c_an (c_ob I y b (c_rw y s nn)).2 x b (c_sw x s nn)).2 x b).2 b (11 + 6 * x) (4 * s) nn).2 y s (11 + 6 * x) (4 * s) nn (c_dg (c_an (c_ob I y b (c_rw y s nn)).2 x b (c_sw x s nn)).1 (c_sg (c_an (c_ob I y b (c_rw y s nn)).2 x b (c_sw x s nn)).1 (c_an (c_ob I y b (c_rw y s nn)).2 x b (c_sw x s nn)).2 x b).2 b (11 + 6 * x) (4 * s) nn).1).2 y b).2 := by
  unfold c_pass c_p1 c_p2 c_p3 c_p4 c_p5 c_p6
  rfl
theorem c_pass_ok {L : Nat} {xs : Nat → Int32} {D n : Nat} {I J : ex_Mem} {x y s nn : Nat} {m b : Nat} (hb : b < 2) (h8 : n ≤ 8) (hm : m < n) (hmo : monB I) (hx : x < 6) (hs : s < 3) (h1 : 1 ≤ nn) (h4 : nn ≤ 4) (hxx : I (81 + 2 * m) 1 = nI x) (hsb : I (81 + 2 * m) 3 = nI (s + 1)) (hn : I (81 + 2 * m) 4 = nI nn) (hy : y < 6) (hyy : I (81 + 2 * m) 2 = nI y) : ri L xs (D + 3) 38 [.ref 1, .ref (81 + 2 * m), .int (nI b)] (mkH n I J) ((c_pass I x y s nn b).1) (mkH n (c_pass I x y s nn b).2 J) := by
  show xx cb_G _ _ _ 38 0 [.ref 1, .ref (81 + 2 * m), .int (nI b), ex_no, ex_no, ex_no, ex_no, ex_no, ex_no, ex_no, ex_no, ex_no, ex_no, ex_no] [] _ _
  refine xi_aload_n (pc' := 1) rfl rfl rfl ?_
  refine xc_getp (pc' := 4) rfl rfl (by decide) rfl (by omega) (by decide) rfl rfl rfl ?_
  refine xi_aload_n (pc' := 5) rfl rfl rfl ?_
  refine xc_getiv (v := nI (x)) (pc' := 8) rfl rfl (by decide) (kd_M0 (Nat.lt_of_lt_of_le hm h8)) (by omega) (by omega) (by decide) (by decide) (hxx) rfl ?_
  refine xc_aald (j := x) (pc' := 9) rfl rfl (by omega) (by first | rfl | (simp only [ix_add, ix_mul, ix_pred]; done) | (simp only [ix_add, ix_mul, ix_pred, *]; done)) (by omega) (by decide) (pd_2 hx) rfl ?_
  refine xi_astore_n (pc' := 10) rfl (st1_3 rfl) rfl ?_
  refine xi_aload_n (pc' := 11) rfl rfl rfl ?_
  refine xc_getp (pc' := 14) rfl rfl (by decide) rfl (by omega) (by decide) rfl rfl rfl ?_
  refine xi_aload_n (pc' := 15) rfl rfl rfl ?_
  refine xc_getiv (v := nI (y)) (pc' := 18) rfl rfl (by decide) (kd_M0 (Nat.lt_of_lt_of_le hm h8)) (by omega) (by omega) (by decide) (by decide) (hyy) rfl ?_
  refine xc_aald (j := y) (pc' := 19) rfl rfl (by omega) (by first | rfl | (simp only [ix_add, ix_mul, ix_pred]; done) | (simp only [ix_add, ix_mul, ix_pred, *]; done)) (by omega) (by decide) (pd_2 hy) rfl ?_
  refine xi_astore (pc' := 21) rfl (st1_4 rfl) rfl ?_
  refine xi_aload_n (pc' := 22) rfl rfl rfl ?_
  refine xc_getiv (v := nI (s + 1)) (pc' := 25) rfl rfl (by decide) (kd_M0 (Nat.lt_of_lt_of_le hm h8)) (by omega) (by omega) (by decide) (by decide) (hsb) rfl ?_
  refine xx_callSi (pc' := 28) rfl rfl (by decide) rfl (Nat.le_of_ble_eq_true rfl) rfl rfl (c_firstOf) ?_
  refine xi_istore (pc' := 30) rfl (st1_5 rfl) rfl ?_
  refine xi_aload_n (pc' := 31) rfl rfl rfl ?_
  refine xc_getiv (v := nI (y)) (pc' := 34) rfl rfl (by decide) (kd_M0 (Nat.lt_of_lt_of_le hm h8)) (by omega) (by omega) (by decide) (by decide) (hyy) rfl ?_
  refine xi_aload_n (pc' := 35) rfl rfl rfl ?_
  refine xc_getiv (v := nI (s + 1)) (pc' := 38) rfl rfl (by decide) (kd_M0 (Nat.lt_of_lt_of_le hm h8)) (by omega) (by omega) (by decide) (by decide) (hsb) rfl ?_
  refine xi_aload_n (pc' := 39) rfl rfl rfl ?_
  refine xc_getiv (v := nI (nn)) (pc' := 42) rfl rfl (by decide) (kd_M0 (Nat.lt_of_lt_of_le hm h8)) (by omega) (by omega) (by decide) (by decide) (hn) rfl ?_
  refine xx_callSi (pc' := 45) rfl rfl (by decide) rfl (Nat.le_of_ble_eq_true rfl) rfl rfl (c_toRecN) ?_
  refine xi_istore (pc' := 47) rfl (st1_6 rfl) rfl ?_
  refine xi_aload_n (pc' := 48) rfl rfl rfl ?_
  refine xc_getiv (v := nI (x)) (pc' := 51) rfl rfl (by decide) (kd_M0 (Nat.lt_of_lt_of_le hm h8)) (by omega) (by omega) (by decide) (by decide) (hxx) rfl ?_
  refine xi_aload_n (pc' := 52) rfl rfl rfl ?_
  refine xc_getiv (v := nI (s + 1)) (pc' := 55) rfl rfl (by decide) (kd_M0 (Nat.lt_of_lt_of_le hm h8)) (by omega) (by omega) (by decide) (by decide) (hsb) rfl ?_
  refine xi_aload_n (pc' := 56) rfl rfl rfl ?_
  refine xc_getiv (v := nI (nn)) (pc' := 59) rfl rfl (by decide) (kd_M0 (Nat.lt_of_lt_of_le hm h8)) (by omega) (by omega) (by decide) (by decide) (hn) rfl ?_
  refine xx_callSi (pc' := 62) rfl rfl (by decide) rfl (Nat.le_of_ble_eq_true rfl) rfl rfl (c_toSendN) ?_
  refine xi_istore (pc' := 64) rfl (st1_7 rfl) rfl ?_
  rw [c_pass_eq]
  refine c_ps1 hx hy hb h8 hm hmo ?_
  have m1 := ob_mon (t := y) (b := b) (w := c_rw y s nn) hmo
  have e1 : ∀ k, (c_ob I y b (c_rw y s nn)).2 (81 + 2 * m) k = I (81 + 2 * m) k := fun k => cob_fr (by omega) (by omega)
  refine c_ps2 hx hy hb h8 hm m1 ?_
  have m2 := an_mon (t := x) (b := b) (w := c_sw x s nn) m1
  have e2 : ∀ k, (c_an (c_ob I y b (c_rw y s nn)).2 x b (c_sw x s nn)).2 (81 + 2 * m) k = I (81 + 2 * m) k := fun k => (can_fr (by omega) (by omega)).trans (e1 k)
  refine c_ps3 hx hy hb h8 hm m2 ?_
  refine c_ps4 hx hy hs hb h8 hm (sg_mon m2) ((csg_fr (by omega)).trans ((e2 4).trans hn)) h4 ?_
  refine c_ps5 hx hy hs hb h8 hm (dg_mon (sg_mon m2)) ((cdg_fr (by omega)).trans ((csg_fr (by omega)).trans ((e2 3).trans hsb))) ((cdg_fr (by omega)).trans ((csg_fr (by omega)).trans ((e2 4).trans hn))) h1 h4 ?_
  refine c_ps6 hx hy hb h8 hm (rg_mon (dg_mon (sg_mon m2))) ?_
  exact c_ps7 hx hy hb h8 hm (fs_mon (rg_mon (dg_mon (sg_mon m2))))
