def r_pa (J : ex_Mem) (y s nn b : Nat) : Int32 × ex_Mem := r_put J b (r_cw y 0 (s + 1) nn)
def r_pb (J : ex_Mem) (y s nn b : Nat) : Int32 × ex_Mem := r_hears (r_pa J y s nn b).2 y (r_pa J y s nn b).1 (r_cw y 0 (s + 1) nn) (nI 0) (nI 0)
def r_pc (J : ex_Mem) (x y s nn b : Nat) : Int32 × ex_Mem := r_put (r_pb J y s nn b).2 b (r_cw x 1 (s + 1) nn)
def r_pd (J : ex_Mem) (x y s nn b : Nat) : Int32 × ex_Mem := r_hears (r_pc J x y s nn b).2 x (r_pc J x y s nn b).1 (r_cw x 1 (s + 1) nn) (nI 0) (nI 0)
def r_pe (J : ex_Mem) (x y s nn b : Nat) : Int32 × ex_Mem :=
  if (r_pd J x y s nn b).1 = 0 then (nI 0, (r_pd J x y s nn b).2) else if (r_ans (r_pd J x y s nn b).2 x s nn b).1 = 0 then (nI 0, (r_ans (r_pd J x y s nn b).2 x s nn b).2) else (nI 1, (r_ans (r_pd J x y s nn b).2 x s nn b).2)
def r_pf (J : ex_Mem) (x y s nn b : Nat) : Int32 × ex_Mem :=
  if (r_pb J y s nn b).1 = 0 then (nI 0, (r_pe J x y s nn b).2)
  else if (r_takes (r_pe J x y s nn b).2 y s nn (nI 0)).1 = 0 then (nI 0, (r_takes (r_pe J x y s nn b).2 y s nn (nI 0)).2)
  else if (r_says (r_takes (r_pe J x y s nn b).2 y s nn (nI 0)).2 y b (r_st (r_takes (r_pe J x y s nn b).2 y s nn (nI 0)).2 y)).1 = nI 1 then (nI 1, (r_says (r_takes (r_pe J x y s nn b).2 y s nn (nI 0)).2 y b (r_st (r_takes (r_pe J x y s nn b).2 y s nn (nI 0)).2 y)).2)
  else (nI 0, (r_says (r_takes (r_pe J x y s nn b).2 y s nn (nI 0)).2 y b (r_st (r_takes (r_pe J x y s nn b).2 y s nn (nI 0)).2 y)).2)
def r_pass (J : ex_Mem) (x y s nn b : Nat) : Int32 × ex_Mem := (if (r_pe J x y s nn b).1 = 0 then nI 0 else if (r_pf J x y s nn b).1 = 0 then nI 0 else nI 1, (r_pf J x y s nn b).2)
theorem r_passes_ok {L : Nat} {xs : Nat → Int32} {D n : Nat} {I J : ex_Mem} {m x y s nn b N : Nat} (hm : m < 8) (hb : b < 2) (hx6 : x < 6) (hy6 : y < 6) (hs : s < 3) (h1 : 1 ≤ nn) (h4 : nn ≤ 4) (hx : J 70 m = nI x) (hy : J 71 m = nI y) (hsb : J 72 m = nI (s + 1)) (hn : J 73 m = nI nn) (hh : hwB N J) (hN : N + 12 < 2 ^ 31) (hg : gdB 0 J) : ri L xs (D + 4) 122 [.ref 52, .int (nI m), .int (nI b)] (mkH n I J) ((r_pass J x y s nn b).1) (mkH n I (r_pass J x y s nn b).2) := by
  show xx cb_G _ _ _ 122 0 [.ref 52, .int (nI m), .int (nI b), ex_no, ex_no, ex_no, ex_no, ex_no, ex_no, ex_no, ex_no] [] _ _
  refine xi_aload_n (pc' := 1) rfl rfl rfl ?_
  refine xr_getp (pc' := 4) rfl rfl (by decide) rfl rfl rfl ?_
  refine xi_iload_n (pc' := 5) rfl rfl rfl ?_
  refine xr_ialdv (v := nI (x)) (j := m) (pc' := 6) rfl rfl (by decide) (by first | rfl | (simp only [ix_add, ix_mul, ix_pred]; done) | (simp only [ix_add, ix_mul, ix_pred, *]; done)) (by omega) (by decide) (hx) rfl ?_
  refine xi_istore_n (pc' := 7) rfl (st1_3 rfl) rfl ?_
  refine xi_aload_n (pc' := 8) rfl rfl rfl ?_
  refine xr_getp (pc' := 11) rfl rfl (by decide) rfl rfl rfl ?_
  refine xi_iload_n (pc' := 12) rfl rfl rfl ?_
  refine xr_ialdv (v := nI (y)) (j := m) (pc' := 13) rfl rfl (by decide) (by first | rfl | (simp only [ix_add, ix_mul, ix_pred]; done) | (simp only [ix_add, ix_mul, ix_pred, *]; done)) (by omega) (by decide) (hy) rfl ?_
  refine xi_istore (pc' := 15) rfl (st1_4 rfl) rfl ?_
  refine xi_iload (pc' := 17) rfl rfl rfl ?_
  refine xi_iconst (pc' := 18) rfl rfl ?_
  refine xi_aload_n (pc' := 19) rfl rfl rfl ?_
  refine xr_getp (pc' := 22) rfl rfl (by decide) rfl rfl rfl ?_
  refine xi_iload_n (pc' := 23) rfl rfl rfl ?_
  refine xr_ialdv (v := nI (s + 1)) (j := m) (pc' := 24) rfl rfl (by decide) (by first | rfl | (simp only [ix_add, ix_mul, ix_pred]; done) | (simp only [ix_add, ix_mul, ix_pred, *]; done)) (by omega) (by decide) (by simp only [wI_fr, says_fr, put_fr, takes_fr, hears_fr, dat_fr, dw_fr, ans_fr, eff_fr, tell_fr, ne_eq, Nat.reduceEqDiff, not_false_eq_true, hsb]) rfl ?_
  refine xi_aload_n (pc' := 25) rfl rfl rfl ?_
  refine xr_getp (pc' := 28) rfl rfl (by decide) rfl rfl rfl ?_
  refine xi_iload_n (pc' := 29) rfl rfl rfl ?_
  refine xr_ialdv (v := nI (nn)) (j := m) (pc' := 30) rfl rfl (by decide) (by first | rfl | (simp only [ix_add, ix_mul, ix_pred]; done) | (simp only [ix_add, ix_mul, ix_pred, *]; done)) (by omega) (by decide) (by simp only [wI_fr, says_fr, put_fr, takes_fr, hears_fr, dat_fr, dw_fr, ans_fr, eff_fr, tell_fr, ne_eq, Nat.reduceEqDiff, not_false_eq_true, hn]) rfl ?_
  refine xx_callSi (pc' := 33) rfl rfl (by decide) rfl (Nat.le_of_ble_eq_true rfl) rfl rfl (r_commandW) ?_
  refine xi_istore (pc' := 35) rfl (st1_5 rfl) rfl ?_
  refine xi_aload_n (pc' := 36) rfl rfl rfl ?_
  refine xi_iload_n (pc' := 37) rfl rfl rfl ?_
  refine xi_iconst (pc' := 38) rfl rfl ?_
  refine xi_iload (pc' := 40) rfl rfl rfl ?_
  refine xx_callVi (pc' := 43) rfl rfl (by decide) rfl rfl (by show _ < 81 + 2 * _; omega) (Nat.le_of_ble_eq_true rfl) rfl rfl (r_put0 hb hh (by omega)) ?_
  refine xi_istore (pc' := 45) rfl (st1_6 rfl) rfl ?_
  refine xi_aload_n (pc' := 46) rfl rfl rfl ?_
  refine xi_iload (pc' := 48) rfl rfl rfl ?_
  refine xi_iload (pc' := 50) rfl rfl rfl ?_
  refine xi_iload (pc' := 52) rfl rfl rfl ?_
  refine xi_iconst (pc' := 53) rfl rfl ?_
  refine xi_iconst (pc' := 54) rfl rfl ?_
  refine xx_callVi (pc' := 57) rfl rfl (by decide) rfl rfl (by show _ < 81 + 2 * _; omega) (Nat.le_of_ble_eq_true rfl) rfl rfl (r_hears_ok hy6) ?_
  refine xi_istore (pc' := 59) rfl (st1_7 rfl) rfl ?_
  refine xi_iload_n (pc' := 60) rfl rfl rfl ?_
  refine xi_iconst (pc' := 61) rfl rfl ?_
  refine xi_aload_n (pc' := 62) rfl rfl rfl ?_
  refine xr_getp (pc' := 65) rfl rfl (by decide) rfl rfl rfl ?_
  refine xi_iload_n (pc' := 66) rfl rfl rfl ?_
  refine xr_ialdv (v := nI (s + 1)) (j := m) (pc' := 67) rfl rfl (by decide) (by first | rfl | (simp only [ix_add, ix_mul, ix_pred]; done) | (simp only [ix_add, ix_mul, ix_pred, *]; done)) (by omega) (by decide) (by simp only [wI_fr, says_fr, put_fr, takes_fr, hears_fr, dat_fr, dw_fr, ans_fr, eff_fr, tell_fr, ne_eq, Nat.reduceEqDiff, not_false_eq_true, hsb]) rfl ?_
  refine xi_aload_n (pc' := 68) rfl rfl rfl ?_
  refine xr_getp (pc' := 71) rfl rfl (by decide) rfl rfl rfl ?_
  refine xi_iload_n (pc' := 72) rfl rfl rfl ?_
  refine xr_ialdv (v := nI (nn)) (j := m) (pc' := 73) rfl rfl (by decide) (by first | rfl | (simp only [ix_add, ix_mul, ix_pred]; done) | (simp only [ix_add, ix_mul, ix_pred, *]; done)) (by omega) (by decide) (by simp only [wI_fr, says_fr, put_fr, takes_fr, hears_fr, dat_fr, dw_fr, ans_fr, eff_fr, tell_fr, ne_eq, Nat.reduceEqDiff, not_false_eq_true, hn]) rfl ?_
  refine xx_callSi (pc' := 76) rfl rfl (by decide) rfl (Nat.le_of_ble_eq_true rfl) rfl rfl (r_commandW) ?_
  refine xi_istore (pc' := 78) rfl (st1_8 rfl) rfl ?_
  refine xi_aload_n (pc' := 79) rfl rfl rfl ?_
  refine xi_iload_n (pc' := 80) rfl rfl rfl ?_
  refine xi_iconst (pc' := 81) rfl rfl ?_
  refine xi_iload (pc' := 83) rfl rfl rfl ?_
  refine xx_callVi (pc' := 86) rfl rfl (by decide) rfl rfl (by show _ < 81 + 2 * _; omega) (Nat.le_of_ble_eq_true rfl) rfl rfl (r_put0 hb (hears_hw (hwB_put hh (by omega))) (by omega)) ?_
  refine xi_istore (pc' := 88) rfl (st1_6 rfl) rfl ?_
  refine xi_aload_n (pc' := 89) rfl rfl rfl ?_
  refine xi_iload_n (pc' := 90) rfl rfl rfl ?_
  refine xi_iload (pc' := 92) rfl rfl rfl ?_
  refine xi_iload (pc' := 94) rfl rfl rfl ?_
  refine xi_iconst (pc' := 95) rfl rfl ?_
  refine xi_iconst (pc' := 96) rfl rfl ?_
  refine xx_callVi (pc' := 99) rfl rfl (by decide) rfl rfl (by show _ < 81 + 2 * _; omega) (Nat.le_of_ble_eq_true rfl) rfl rfl (r_hears_ok hx6) ?_
  refine xx_if (pc' := 102) (tg := 127) rfl rfl rfl (fun q99 => ?_) (fun q99 => ?_)
  · refine xi_iconst (pc' := 128) rfl rfl ?_
    refine xi_istore (pc' := 130) rfl (st1_9 rfl) rfl ?_
    refine xi_iload (pc' := 132) rfl rfl rfl ?_
    refine xx_if (pc' := 135) (tg := 172) rfl rfl rfl (fun q132 => ?_) (fun q132 => ?_)
    · refine xi_iconst (pc' := 173) rfl rfl ?_
      refine xi_istore (pc' := 175) rfl (st1_10 rfl) rfl ?_
      refine xi_iload (pc' := 177) rfl rfl rfl ?_
      refine xi_ift (pc' := 189) rfl rfl (by decide) ?_
      refine xi_iconst (pc' := 190) rfl rfl ?_
      refine xx_zreturn rfl rfl (by decide) ?_
      simp only [ex_P, Classical.not_not, ↓reduceIte, Nat.add_zero, or_true, true_or, not_true_eq_false, not_false_eq_true, or_false, false_or, wI_get, false_and, true_and, and_true, and_false, and_self, Nat.reduceEqDiff, Nat.succ_ne_zero, reduceCtorEq, nI_lit, nI_lit0, Nat.reduceLT] at *
      first | (simp only [r_pass, r_pa, r_pb, r_pc, r_pd, r_pe, r_pf, *, ↓reduceIte, Nat.add_zero, or_true, true_or, not_true_eq_false, not_false_eq_true, or_false, false_or, wI_get, false_and, true_and, and_true, and_false, and_self, Nat.reduceEqDiff, Nat.succ_ne_zero, reduceCtorEq, nI_lit, nI_lit0, Nat.reduceLT]; done) | (exfalso; simp_all only [↓reduceIte, Nat.add_zero, or_true, true_or, not_true_eq_false, not_false_eq_true, or_false, false_or, wI_get, false_and, true_and, and_true, and_false, and_self, Nat.reduceEqDiff, Nat.succ_ne_zero, reduceCtorEq, nI_lit, nI_lit0, Nat.reduceLT]; done)
    · refine xi_aload_n (pc' := 136) rfl rfl rfl ?_
      refine xi_iload (pc' := 138) rfl rfl rfl ?_
      refine xi_aload_n (pc' := 139) rfl rfl rfl ?_
      refine xr_getp (pc' := 142) rfl rfl (by decide) rfl rfl rfl ?_
      refine xi_iload_n (pc' := 143) rfl rfl rfl ?_
      refine xr_ialdv (v := nI (s + 1)) (j := m) (pc' := 144) rfl rfl (by decide) (by first | rfl | (simp only [ix_add, ix_mul, ix_pred]; done) | (simp only [ix_add, ix_mul, ix_pred, *]; done)) (by omega) (by decide) (by simp only [wI_fr, says_fr, put_fr, takes_fr, hears_fr, dat_fr, dw_fr, ans_fr, eff_fr, tell_fr, ne_eq, Nat.reduceEqDiff, not_false_eq_true, hsb]) rfl ?_
      refine xi_aload_n (pc' := 145) rfl rfl rfl ?_
      refine xr_getp (pc' := 148) rfl rfl (by decide) rfl rfl rfl ?_
      refine xi_iload_n (pc' := 149) rfl rfl rfl ?_
      refine xr_ialdv (v := nI (nn)) (j := m) (pc' := 150) rfl rfl (by decide) (by first | rfl | (simp only [ix_add, ix_mul, ix_pred]; done) | (simp only [ix_add, ix_mul, ix_pred, *]; done)) (by omega) (by decide) (by simp only [wI_fr, says_fr, put_fr, takes_fr, hears_fr, dat_fr, dw_fr, ans_fr, eff_fr, tell_fr, ne_eq, Nat.reduceEqDiff, not_false_eq_true, hn]) rfl ?_
      refine xi_iconst (pc' := 151) rfl rfl ?_
      refine xx_callVi (pc' := 154) rfl rfl (by decide) rfl rfl (by show _ < 81 + 2 * _; omega) (Nat.le_of_ble_eq_true rfl) rfl rfl (r_takes_ok (D := D + 2) hy6 hs h1 h4 (by decide)) ?_
      refine xx_if (pc' := 157) (tg := 172) rfl rfl rfl (fun q154 => ?_) (fun q154 => ?_)
      · refine xi_iconst (pc' := 173) rfl rfl ?_
        refine xi_istore (pc' := 175) rfl (st1_10 rfl) rfl ?_
        refine xi_iload (pc' := 177) rfl rfl rfl ?_
        refine xi_ift (pc' := 189) rfl rfl (by decide) ?_
        refine xi_iconst (pc' := 190) rfl rfl ?_
        refine xx_zreturn rfl rfl (by decide) ?_
        simp only [ex_P, Classical.not_not, ↓reduceIte, Nat.add_zero, or_true, true_or, not_true_eq_false, not_false_eq_true, or_false, false_or, wI_get, false_and, true_and, and_true, and_false, and_self, Nat.reduceEqDiff, Nat.succ_ne_zero, reduceCtorEq, nI_lit, nI_lit0, Nat.reduceLT] at *
        first | (simp only [r_pass, r_pa, r_pb, r_pc, r_pd, r_pe, r_pf, *, ↓reduceIte, Nat.add_zero, or_true, true_or, not_true_eq_false, not_false_eq_true, or_false, false_or, wI_get, false_and, true_and, and_true, and_false, and_self, Nat.reduceEqDiff, Nat.succ_ne_zero, reduceCtorEq, nI_lit, nI_lit0, Nat.reduceLT]; done) | (exfalso; simp_all only [↓reduceIte, Nat.add_zero, or_true, true_or, not_true_eq_false, not_false_eq_true, or_false, false_or, wI_get, false_and, true_and, and_true, and_false, and_self, Nat.reduceEqDiff, Nat.succ_ne_zero, reduceCtorEq, nI_lit, nI_lit0, Nat.reduceLT]; done)
      · refine xi_aload_n (pc' := 158) rfl rfl rfl ?_
        refine xi_iload (pc' := 160) rfl rfl rfl ?_
        refine xi_iload_n (pc' := 161) rfl rfl rfl ?_
        refine xx_callVi (pc' := 164) rfl rfl (by decide) rfl rfl (by show _ < 81 + 2 * _; omega) (Nat.le_of_ble_eq_true rfl) rfl rfl (by first | exact r_saysStatus (N := N + 3 + nn) hy6 hb (takes_hw (ans_hw (hears_hw (hwB_put (hears_hw (hwB_put hh (by omega))) (by omega))) (by omega))) (by omega) | exact r_saysStatus (N := N + 2) hy6 hb (takes_hw (hears_hw (hwB_put (hears_hw (hwB_put hh (by omega))) (by omega)))) (by omega)) ?_
        refine xi_iconst (pc' := 165) rfl rfl ?_
        refine xx_icmp (pc' := 168) (tg := 172) rfl rfl rfl (fun q165 => ?_) (fun q165 => ?_)
        · refine xi_iconst (pc' := 173) rfl rfl ?_
          refine xi_istore (pc' := 175) rfl (st1_10 rfl) rfl ?_
          refine xi_iload (pc' := 177) rfl rfl rfl ?_
          refine xi_ift (pc' := 189) rfl rfl (by decide) ?_
          refine xi_iconst (pc' := 190) rfl rfl ?_
          refine xx_zreturn rfl rfl (by decide) ?_
          simp only [ex_P, Classical.not_not, ↓reduceIte, Nat.add_zero, or_true, true_or, not_true_eq_false, not_false_eq_true, or_false, false_or, wI_get, false_and, true_and, and_true, and_false, and_self, Nat.reduceEqDiff, Nat.succ_ne_zero, reduceCtorEq, nI_lit, nI_lit0, Nat.reduceLT] at *
          first | (simp only [r_pass, r_pa, r_pb, r_pc, r_pd, r_pe, r_pf, *, ↓reduceIte, Nat.add_zero, or_true, true_or, not_true_eq_false, not_false_eq_true, or_false, false_or, wI_get, false_and, true_and, and_true, and_false, and_self, Nat.reduceEqDiff, Nat.succ_ne_zero, reduceCtorEq, nI_lit, nI_lit0, Nat.reduceLT]; done) | (exfalso; simp_all only [↓reduceIte, Nat.add_zero, or_true, true_or, not_true_eq_false, not_false_eq_true, or_false, false_or, wI_get, false_and, true_and, and_true, and_false, and_self, Nat.reduceEqDiff, Nat.succ_ne_zero, reduceCtorEq, nI_lit, nI_lit0, Nat.reduceLT]; done)
        · refine xi_iconst (pc' := 169) rfl rfl ?_
          refine xi_goto (pc' := 173) rfl rfl ?_
          refine xi_istore (pc' := 175) rfl (st1_10 rfl) rfl ?_
          refine xi_iload (pc' := 177) rfl rfl rfl ?_
          refine xi_ift (pc' := 189) rfl rfl (by decide) ?_
          refine xi_iconst (pc' := 190) rfl rfl ?_
          refine xx_zreturn rfl rfl (by decide) ?_
          simp only [ex_P, Classical.not_not, ↓reduceIte, Nat.add_zero, or_true, true_or, not_true_eq_false, not_false_eq_true, or_false, false_or, wI_get, false_and, true_and, and_true, and_false, and_self, Nat.reduceEqDiff, Nat.succ_ne_zero, reduceCtorEq, nI_lit, nI_lit0, Nat.reduceLT] at *
          first | (simp only [r_pass, r_pa, r_pb, r_pc, r_pd, r_pe, r_pf, *, ↓reduceIte, Nat.add_zero, or_true, true_or, not_true_eq_false, not_false_eq_true, or_false, false_or, wI_get, false_and, true_and, and_true, and_false, and_self, Nat.reduceEqDiff, Nat.succ_ne_zero, reduceCtorEq, nI_lit, nI_lit0, Nat.reduceLT]; done) | (exfalso; simp_all only [↓reduceIte, Nat.add_zero, or_true, true_or, not_true_eq_false, not_false_eq_true, or_false, false_or, wI_get, false_and, true_and, and_true, and_false, and_self, Nat.reduceEqDiff, Nat.succ_ne_zero, reduceCtorEq, nI_lit, nI_lit0, Nat.reduceLT]; done)
  · refine xi_aload_n (pc' := 103) rfl rfl rfl ?_
    refine xi_iload_n (pc' := 104) rfl rfl rfl ?_
    refine xi_aload_n (pc' := 105) rfl rfl rfl ?_
    refine xr_getp (pc' := 108) rfl rfl (by decide) rfl rfl rfl ?_
    refine xi_iload_n (pc' := 109) rfl rfl rfl ?_
    refine xr_ialdv (v := nI (s + 1)) (j := m) (pc' := 110) rfl rfl (by decide) (by first | rfl | (simp only [ix_add, ix_mul, ix_pred]; done) | (simp only [ix_add, ix_mul, ix_pred, *]; done)) (by omega) (by decide) (by simp only [wI_fr, says_fr, put_fr, takes_fr, hears_fr, dat_fr, dw_fr, ans_fr, eff_fr, tell_fr, ne_eq, Nat.reduceEqDiff, not_false_eq_true, hsb]) rfl ?_
    refine xi_aload_n (pc' := 111) rfl rfl rfl ?_
    refine xr_getp (pc' := 114) rfl rfl (by decide) rfl rfl rfl ?_
    refine xi_iload_n (pc' := 115) rfl rfl rfl ?_
    refine xr_ialdv (v := nI (nn)) (j := m) (pc' := 116) rfl rfl (by decide) (by first | rfl | (simp only [ix_add, ix_mul, ix_pred]; done) | (simp only [ix_add, ix_mul, ix_pred, *]; done)) (by omega) (by decide) (by simp only [wI_fr, says_fr, put_fr, takes_fr, hears_fr, dat_fr, dw_fr, ans_fr, eff_fr, tell_fr, ne_eq, Nat.reduceEqDiff, not_false_eq_true, hn]) rfl ?_
    refine xi_iload_n (pc' := 117) rfl rfl rfl ?_
    refine xx_callVi (pc' := 120) rfl rfl (by decide) rfl rfl (by show _ < 81 + 2 * _; omega) (Nat.le_of_ble_eq_true rfl) rfl rfl (r_answers_ok (D := D) (N := N + 2) (g := 0) hx6 hs h4 hb (hears_hw (hwB_put (hears_hw (hwB_put hh (by omega))) (by omega))) (by omega) (hears_gd (put_gdB (hears_gd (put_gdB hg)))) (by omega)) ?_
    refine xx_if (pc' := 123) (tg := 127) rfl rfl rfl (fun q120 => ?_) (fun q120 => ?_)
    · refine xi_iconst (pc' := 128) rfl rfl ?_
      refine xi_istore (pc' := 130) rfl (st1_9 rfl) rfl ?_
      refine xi_iload (pc' := 132) rfl rfl rfl ?_
      refine xx_if (pc' := 135) (tg := 172) rfl rfl rfl (fun q132 => ?_) (fun q132 => ?_)
      · refine xi_iconst (pc' := 173) rfl rfl ?_
        refine xi_istore (pc' := 175) rfl (st1_10 rfl) rfl ?_
        refine xi_iload (pc' := 177) rfl rfl rfl ?_
        refine xi_ift (pc' := 189) rfl rfl (by decide) ?_
        refine xi_iconst (pc' := 190) rfl rfl ?_
        refine xx_zreturn rfl rfl (by decide) ?_
        simp only [ex_P, Classical.not_not, ↓reduceIte, Nat.add_zero, or_true, true_or, not_true_eq_false, not_false_eq_true, or_false, false_or, wI_get, false_and, true_and, and_true, and_false, and_self, Nat.reduceEqDiff, Nat.succ_ne_zero, reduceCtorEq, nI_lit, nI_lit0, Nat.reduceLT] at *
        first | (simp only [r_pass, r_pa, r_pb, r_pc, r_pd, r_pe, r_pf, *, ↓reduceIte, Nat.add_zero, or_true, true_or, not_true_eq_false, not_false_eq_true, or_false, false_or, wI_get, false_and, true_and, and_true, and_false, and_self, Nat.reduceEqDiff, Nat.succ_ne_zero, reduceCtorEq, nI_lit, nI_lit0, Nat.reduceLT]; done) | (exfalso; simp_all only [↓reduceIte, Nat.add_zero, or_true, true_or, not_true_eq_false, not_false_eq_true, or_false, false_or, wI_get, false_and, true_and, and_true, and_false, and_self, Nat.reduceEqDiff, Nat.succ_ne_zero, reduceCtorEq, nI_lit, nI_lit0, Nat.reduceLT]; done)
      · refine xi_aload_n (pc' := 136) rfl rfl rfl ?_
        refine xi_iload (pc' := 138) rfl rfl rfl ?_
        refine xi_aload_n (pc' := 139) rfl rfl rfl ?_
        refine xr_getp (pc' := 142) rfl rfl (by decide) rfl rfl rfl ?_
        refine xi_iload_n (pc' := 143) rfl rfl rfl ?_
        refine xr_ialdv (v := nI (s + 1)) (j := m) (pc' := 144) rfl rfl (by decide) (by first | rfl | (simp only [ix_add, ix_mul, ix_pred]; done) | (simp only [ix_add, ix_mul, ix_pred, *]; done)) (by omega) (by decide) (by simp only [wI_fr, says_fr, put_fr, takes_fr, hears_fr, dat_fr, dw_fr, ans_fr, eff_fr, tell_fr, ne_eq, Nat.reduceEqDiff, not_false_eq_true, hsb]) rfl ?_
        refine xi_aload_n (pc' := 145) rfl rfl rfl ?_
        refine xr_getp (pc' := 148) rfl rfl (by decide) rfl rfl rfl ?_
        refine xi_iload_n (pc' := 149) rfl rfl rfl ?_
        refine xr_ialdv (v := nI (nn)) (j := m) (pc' := 150) rfl rfl (by decide) (by first | rfl | (simp only [ix_add, ix_mul, ix_pred]; done) | (simp only [ix_add, ix_mul, ix_pred, *]; done)) (by omega) (by decide) (by simp only [wI_fr, says_fr, put_fr, takes_fr, hears_fr, dat_fr, dw_fr, ans_fr, eff_fr, tell_fr, ne_eq, Nat.reduceEqDiff, not_false_eq_true, hn]) rfl ?_
        refine xi_iconst (pc' := 151) rfl rfl ?_
        refine xx_callVi (pc' := 154) rfl rfl (by decide) rfl rfl (by show _ < 81 + 2 * _; omega) (Nat.le_of_ble_eq_true rfl) rfl rfl (r_takes_ok (D := D + 2) hy6 hs h1 h4 (by decide)) ?_
        refine xx_if (pc' := 157) (tg := 172) rfl rfl rfl (fun q154 => ?_) (fun q154 => ?_)
        · refine xi_iconst (pc' := 173) rfl rfl ?_
          refine xi_istore (pc' := 175) rfl (st1_10 rfl) rfl ?_
          refine xi_iload (pc' := 177) rfl rfl rfl ?_
          refine xi_ift (pc' := 189) rfl rfl (by decide) ?_
          refine xi_iconst (pc' := 190) rfl rfl ?_
          refine xx_zreturn rfl rfl (by decide) ?_
          simp only [ex_P, Classical.not_not, ↓reduceIte, Nat.add_zero, or_true, true_or, not_true_eq_false, not_false_eq_true, or_false, false_or, wI_get, false_and, true_and, and_true, and_false, and_self, Nat.reduceEqDiff, Nat.succ_ne_zero, reduceCtorEq, nI_lit, nI_lit0, Nat.reduceLT] at *
          first | (simp only [r_pass, r_pa, r_pb, r_pc, r_pd, r_pe, r_pf, *, ↓reduceIte, Nat.add_zero, or_true, true_or, not_true_eq_false, not_false_eq_true, or_false, false_or, wI_get, false_and, true_and, and_true, and_false, and_self, Nat.reduceEqDiff, Nat.succ_ne_zero, reduceCtorEq, nI_lit, nI_lit0, Nat.reduceLT]; done) | (exfalso; simp_all only [↓reduceIte, Nat.add_zero, or_true, true_or, not_true_eq_false, not_false_eq_true, or_false, false_or, wI_get, false_and, true_and, and_true, and_false, and_self, Nat.reduceEqDiff, Nat.succ_ne_zero, reduceCtorEq, nI_lit, nI_lit0, Nat.reduceLT]; done)
        · refine xi_aload_n (pc' := 158) rfl rfl rfl ?_
          refine xi_iload (pc' := 160) rfl rfl rfl ?_
          refine xi_iload_n (pc' := 161) rfl rfl rfl ?_
          refine xx_callVi (pc' := 164) rfl rfl (by decide) rfl rfl (by show _ < 81 + 2 * _; omega) (Nat.le_of_ble_eq_true rfl) rfl rfl (by first | exact r_saysStatus (N := N + 3 + nn) hy6 hb (takes_hw (ans_hw (hears_hw (hwB_put (hears_hw (hwB_put hh (by omega))) (by omega))) (by omega))) (by omega) | exact r_saysStatus (N := N + 2) hy6 hb (takes_hw (hears_hw (hwB_put (hears_hw (hwB_put hh (by omega))) (by omega)))) (by omega)) ?_
          refine xi_iconst (pc' := 165) rfl rfl ?_
          refine xx_icmp (pc' := 168) (tg := 172) rfl rfl rfl (fun q165 => ?_) (fun q165 => ?_)
          · refine xi_iconst (pc' := 173) rfl rfl ?_
            refine xi_istore (pc' := 175) rfl (st1_10 rfl) rfl ?_
            refine xi_iload (pc' := 177) rfl rfl rfl ?_
            refine xi_ift (pc' := 189) rfl rfl (by decide) ?_
            refine xi_iconst (pc' := 190) rfl rfl ?_
            refine xx_zreturn rfl rfl (by decide) ?_
            simp only [ex_P, Classical.not_not, ↓reduceIte, Nat.add_zero, or_true, true_or, not_true_eq_false, not_false_eq_true, or_false, false_or, wI_get, false_and, true_and, and_true, and_false, and_self, Nat.reduceEqDiff, Nat.succ_ne_zero, reduceCtorEq, nI_lit, nI_lit0, Nat.reduceLT] at *
            first | (simp only [r_pass, r_pa, r_pb, r_pc, r_pd, r_pe, r_pf, *, ↓reduceIte, Nat.add_zero, or_true, true_or, not_true_eq_false, not_false_eq_true, or_false, false_or, wI_get, false_and, true_and, and_true, and_false, and_self, Nat.reduceEqDiff, Nat.succ_ne_zero, reduceCtorEq, nI_lit, nI_lit0, Nat.reduceLT]; done) | (exfalso; simp_all only [↓reduceIte, Nat.add_zero, or_true, true_or, not_true_eq_false, not_false_eq_true, or_false, false_or, wI_get, false_and, true_and, and_true, and_false, and_self, Nat.reduceEqDiff, Nat.succ_ne_zero, reduceCtorEq, nI_lit, nI_lit0, Nat.reduceLT]; done)
          · refine xi_iconst (pc' := 169) rfl rfl ?_
            refine xi_goto (pc' := 173) rfl rfl ?_
            refine xi_istore (pc' := 175) rfl (st1_10 rfl) rfl ?_
            refine xi_iload (pc' := 177) rfl rfl rfl ?_
            refine xi_ift (pc' := 189) rfl rfl (by decide) ?_
            refine xi_iconst (pc' := 190) rfl rfl ?_
            refine xx_zreturn rfl rfl (by decide) ?_
            simp only [ex_P, Classical.not_not, ↓reduceIte, Nat.add_zero, or_true, true_or, not_true_eq_false, not_false_eq_true, or_false, false_or, wI_get, false_and, true_and, and_true, and_false, and_self, Nat.reduceEqDiff, Nat.succ_ne_zero, reduceCtorEq, nI_lit, nI_lit0, Nat.reduceLT] at *
            first | (simp only [r_pass, r_pa, r_pb, r_pc, r_pd, r_pe, r_pf, *, ↓reduceIte, Nat.add_zero, or_true, true_or, not_true_eq_false, not_false_eq_true, or_false, false_or, wI_get, false_and, true_and, and_true, and_false, and_self, Nat.reduceEqDiff, Nat.succ_ne_zero, reduceCtorEq, nI_lit, nI_lit0, Nat.reduceLT]; done) | (exfalso; simp_all only [↓reduceIte, Nat.add_zero, or_true, true_or, not_true_eq_false, not_false_eq_true, or_false, false_or, wI_get, false_and, true_and, and_true, and_false, and_self, Nat.reduceEqDiff, Nat.succ_ne_zero, reduceCtorEq, nI_lit, nI_lit0, Nat.reduceLT]; done)
    · refine xi_iconst (pc' := 124) rfl rfl ?_
      refine xi_goto (pc' := 128) rfl rfl ?_
      refine xi_istore (pc' := 130) rfl (st1_9 rfl) rfl ?_
      refine xi_iload (pc' := 132) rfl rfl rfl ?_
      refine xx_if (pc' := 135) (tg := 172) rfl rfl rfl (fun q132 => ?_) (fun q132 => ?_)
      · refine xi_iconst (pc' := 173) rfl rfl ?_
        refine xi_istore (pc' := 175) rfl (st1_10 rfl) rfl ?_
        refine xi_iload (pc' := 177) rfl rfl rfl ?_
        refine xi_iff (pc' := 180) (tg := 189) rfl rfl (by decide) rfl ?_
        refine xi_iload (pc' := 182) rfl rfl rfl ?_
        refine xi_ift (pc' := 189) rfl rfl (by decide) ?_
        refine xi_iconst (pc' := 190) rfl rfl ?_
        refine xx_zreturn rfl rfl (by decide) ?_
        simp only [ex_P, Classical.not_not, ↓reduceIte, Nat.add_zero, or_true, true_or, not_true_eq_false, not_false_eq_true, or_false, false_or, wI_get, false_and, true_and, and_true, and_false, and_self, Nat.reduceEqDiff, Nat.succ_ne_zero, reduceCtorEq, nI_lit, nI_lit0, Nat.reduceLT] at *
        first | (simp only [r_pass, r_pa, r_pb, r_pc, r_pd, r_pe, r_pf, *, ↓reduceIte, Nat.add_zero, or_true, true_or, not_true_eq_false, not_false_eq_true, or_false, false_or, wI_get, false_and, true_and, and_true, and_false, and_self, Nat.reduceEqDiff, Nat.succ_ne_zero, reduceCtorEq, nI_lit, nI_lit0, Nat.reduceLT]; done) | (exfalso; simp_all only [↓reduceIte, Nat.add_zero, or_true, true_or, not_true_eq_false, not_false_eq_true, or_false, false_or, wI_get, false_and, true_and, and_true, and_false, and_self, Nat.reduceEqDiff, Nat.succ_ne_zero, reduceCtorEq, nI_lit, nI_lit0, Nat.reduceLT]; done)
      · refine xi_aload_n (pc' := 136) rfl rfl rfl ?_
        refine xi_iload (pc' := 138) rfl rfl rfl ?_
        refine xi_aload_n (pc' := 139) rfl rfl rfl ?_
        refine xr_getp (pc' := 142) rfl rfl (by decide) rfl rfl rfl ?_
        refine xi_iload_n (pc' := 143) rfl rfl rfl ?_
        refine xr_ialdv (v := nI (s + 1)) (j := m) (pc' := 144) rfl rfl (by decide) (by first | rfl | (simp only [ix_add, ix_mul, ix_pred]; done) | (simp only [ix_add, ix_mul, ix_pred, *]; done)) (by omega) (by decide) (by simp only [wI_fr, says_fr, put_fr, takes_fr, hears_fr, dat_fr, dw_fr, ans_fr, eff_fr, tell_fr, ne_eq, Nat.reduceEqDiff, not_false_eq_true, hsb]) rfl ?_
        refine xi_aload_n (pc' := 145) rfl rfl rfl ?_
        refine xr_getp (pc' := 148) rfl rfl (by decide) rfl rfl rfl ?_
        refine xi_iload_n (pc' := 149) rfl rfl rfl ?_
        refine xr_ialdv (v := nI (nn)) (j := m) (pc' := 150) rfl rfl (by decide) (by first | rfl | (simp only [ix_add, ix_mul, ix_pred]; done) | (simp only [ix_add, ix_mul, ix_pred, *]; done)) (by omega) (by decide) (by simp only [wI_fr, says_fr, put_fr, takes_fr, hears_fr, dat_fr, dw_fr, ans_fr, eff_fr, tell_fr, ne_eq, Nat.reduceEqDiff, not_false_eq_true, hn]) rfl ?_
        refine xi_iconst (pc' := 151) rfl rfl ?_
        refine xx_callVi (pc' := 154) rfl rfl (by decide) rfl rfl (by show _ < 81 + 2 * _; omega) (Nat.le_of_ble_eq_true rfl) rfl rfl (r_takes_ok (D := D + 2) hy6 hs h1 h4 (by decide)) ?_
        refine xx_if (pc' := 157) (tg := 172) rfl rfl rfl (fun q154 => ?_) (fun q154 => ?_)
        · refine xi_iconst (pc' := 173) rfl rfl ?_
          refine xi_istore (pc' := 175) rfl (st1_10 rfl) rfl ?_
          refine xi_iload (pc' := 177) rfl rfl rfl ?_
          refine xi_iff (pc' := 180) (tg := 189) rfl rfl (by decide) rfl ?_
          refine xi_iload (pc' := 182) rfl rfl rfl ?_
          refine xi_ift (pc' := 189) rfl rfl (by decide) ?_
          refine xi_iconst (pc' := 190) rfl rfl ?_
          refine xx_zreturn rfl rfl (by decide) ?_
          simp only [ex_P, Classical.not_not, ↓reduceIte, Nat.add_zero, or_true, true_or, not_true_eq_false, not_false_eq_true, or_false, false_or, wI_get, false_and, true_and, and_true, and_false, and_self, Nat.reduceEqDiff, Nat.succ_ne_zero, reduceCtorEq, nI_lit, nI_lit0, Nat.reduceLT] at *
          first | (simp only [r_pass, r_pa, r_pb, r_pc, r_pd, r_pe, r_pf, *, ↓reduceIte, Nat.add_zero, or_true, true_or, not_true_eq_false, not_false_eq_true, or_false, false_or, wI_get, false_and, true_and, and_true, and_false, and_self, Nat.reduceEqDiff, Nat.succ_ne_zero, reduceCtorEq, nI_lit, nI_lit0, Nat.reduceLT]; done) | (exfalso; simp_all only [↓reduceIte, Nat.add_zero, or_true, true_or, not_true_eq_false, not_false_eq_true, or_false, false_or, wI_get, false_and, true_and, and_true, and_false, and_self, Nat.reduceEqDiff, Nat.succ_ne_zero, reduceCtorEq, nI_lit, nI_lit0, Nat.reduceLT]; done)
        · refine xi_aload_n (pc' := 158) rfl rfl rfl ?_
          refine xi_iload (pc' := 160) rfl rfl rfl ?_
          refine xi_iload_n (pc' := 161) rfl rfl rfl ?_
          refine xx_callVi (pc' := 164) rfl rfl (by decide) rfl rfl (by show _ < 81 + 2 * _; omega) (Nat.le_of_ble_eq_true rfl) rfl rfl (by first | exact r_saysStatus (N := N + 3 + nn) hy6 hb (takes_hw (ans_hw (hears_hw (hwB_put (hears_hw (hwB_put hh (by omega))) (by omega))) (by omega))) (by omega) | exact r_saysStatus (N := N + 2) hy6 hb (takes_hw (hears_hw (hwB_put (hears_hw (hwB_put hh (by omega))) (by omega)))) (by omega)) ?_
          refine xi_iconst (pc' := 165) rfl rfl ?_
          refine xx_icmp (pc' := 168) (tg := 172) rfl rfl rfl (fun q165 => ?_) (fun q165 => ?_)
          · refine xi_iconst (pc' := 173) rfl rfl ?_
            refine xi_istore (pc' := 175) rfl (st1_10 rfl) rfl ?_
            refine xi_iload (pc' := 177) rfl rfl rfl ?_
            refine xi_iff (pc' := 180) (tg := 189) rfl rfl (by decide) rfl ?_
            refine xi_iload (pc' := 182) rfl rfl rfl ?_
            refine xi_ift (pc' := 189) rfl rfl (by decide) ?_
            refine xi_iconst (pc' := 190) rfl rfl ?_
            refine xx_zreturn rfl rfl (by decide) ?_
            simp only [ex_P, Classical.not_not, ↓reduceIte, Nat.add_zero, or_true, true_or, not_true_eq_false, not_false_eq_true, or_false, false_or, wI_get, false_and, true_and, and_true, and_false, and_self, Nat.reduceEqDiff, Nat.succ_ne_zero, reduceCtorEq, nI_lit, nI_lit0, Nat.reduceLT] at *
            first | (simp only [r_pass, r_pa, r_pb, r_pc, r_pd, r_pe, r_pf, *, ↓reduceIte, Nat.add_zero, or_true, true_or, not_true_eq_false, not_false_eq_true, or_false, false_or, wI_get, false_and, true_and, and_true, and_false, and_self, Nat.reduceEqDiff, Nat.succ_ne_zero, reduceCtorEq, nI_lit, nI_lit0, Nat.reduceLT]; done) | (exfalso; simp_all only [↓reduceIte, Nat.add_zero, or_true, true_or, not_true_eq_false, not_false_eq_true, or_false, false_or, wI_get, false_and, true_and, and_true, and_false, and_self, Nat.reduceEqDiff, Nat.succ_ne_zero, reduceCtorEq, nI_lit, nI_lit0, Nat.reduceLT]; done)
          · refine xi_iconst (pc' := 169) rfl rfl ?_
            refine xi_goto (pc' := 173) rfl rfl ?_
            refine xi_istore (pc' := 175) rfl (st1_10 rfl) rfl ?_
            refine xi_iload (pc' := 177) rfl rfl rfl ?_
            refine xi_iff (pc' := 180) (tg := 189) rfl rfl (by decide) rfl ?_
            refine xi_iload (pc' := 182) rfl rfl rfl ?_
            refine xi_iff (pc' := 185) (tg := 189) rfl rfl (by decide) rfl ?_
            refine xi_iconst (pc' := 186) rfl rfl ?_
            refine xi_goto (pc' := 190) rfl rfl ?_
            refine xx_zreturn rfl rfl (by decide) ?_
            simp only [ex_P, Classical.not_not, ↓reduceIte, Nat.add_zero, or_true, true_or, not_true_eq_false, not_false_eq_true, or_false, false_or, wI_get, false_and, true_and, and_true, and_false, and_self, Nat.reduceEqDiff, Nat.succ_ne_zero, reduceCtorEq, nI_lit, nI_lit0, Nat.reduceLT] at *
            first | (simp only [r_pass, r_pa, r_pb, r_pc, r_pd, r_pe, r_pf, *, ↓reduceIte, Nat.add_zero, or_true, true_or, not_true_eq_false, not_false_eq_true, or_false, false_or, wI_get, false_and, true_and, and_true, and_false, and_self, Nat.reduceEqDiff, Nat.succ_ne_zero, reduceCtorEq, nI_lit, nI_lit0, Nat.reduceLT]; done) | (exfalso; simp_all only [↓reduceIte, Nat.add_zero, or_true, true_or, not_true_eq_false, not_false_eq_true, or_false, false_or, wI_get, false_and, true_and, and_true, and_false, and_self, Nat.reduceEqDiff, Nat.succ_ne_zero, reduceCtorEq, nI_lit, nI_lit0, Nat.reduceLT]; done)
def r_cpy (J : ex_Mem) (m : Nat) : Nat → ex_Mem
  | 0 => J
  | k + 1 => ex_wI (r_cpy J m k) 76 (4 * m + k) (r_cpy J m k 79 k)
theorem cpy_fr {J : ex_Mem} {m a j : Nat} (h : a ≠ 76) : ∀ k, r_cpy J m k a j = J a j
  | 0 => rfl
  | k + 1 => (wI_fr h).trans (cpy_fr h k)
def r_ta (J : ex_Mem) (x s nn b : Nat) : Int32 × ex_Mem := r_hears (r_put J b (r_cw x 1 (s + 1) nn)).2 x (r_put J b (r_cw x 1 (s + 1) nn)).1 (r_cw x 1 (s + 1) nn) (nI 0) (nI 0)
def r_take (J : ex_Mem) (m x s nn b : Nat) : Int32 × ex_Mem :=
  if (r_ta J x s nn b).1 = 0 then (nI 0, (r_ta J x s nn b).2)
  else if (r_ans (r_ta J x s nn b).2 x s nn b).1 = 0 then (nI 0, (r_ans (r_ta J x s nn b).2 x s nn b).2)
  else if (r_ans (r_ta J x s nn b).2 x s nn b).2 52 32 = nI nn then (nI 1, r_cpy (r_ans (r_ta J x s nn b).2 x s nn b).2 m nn)
  else (nI 0, (r_ans (r_ta J x s nn b).2 x s nn b).2)
theorem r_cpy_loop {L : Nat} {xs : Nat → Int32} {D n : Nat} {I J : ex_Mem} {m nn b : Nat} {v3 v4 v5 : Value} (h3 : v3.category = 1) (h4c : v4.category = 1) (h5 : v5.category = 1) (hm : m < 8) (hb : b < 2) (h4 : nn ≤ 4) (hn : J 73 m = nI nn) : ∀ (j k : Nat), k + j = nn → xx cb_G L xs (D + 4) 118 168 [.ref 52, .int (nI m), .int (nI b), v3, v4, v5, .int (nI 1), .int (nI k)] [] (mkH n I (r_cpy J m k)) (fun r h => r = some (.int (nI 1)) ∧ h = mkH n I (r_cpy J m nn)) := by
  intro j
  induction j with
  | zero =>
    intro k hk
    have hk : k = nn := by omega
    subst hk
    refine xi_iload (pc' := 170) rfl rfl rfl ?_
    refine xi_aload_n (pc' := 171) rfl rfl rfl ?_
    refine xr_getp (pc' := 174) rfl rfl (by decide) rfl rfl rfl ?_
    refine xi_iload_n (pc' := 175) rfl rfl rfl ?_
    refine xr_ialdv (v := nI (k)) (j := m) (pc' := 176) rfl rfl (by decide) (by first | rfl | (simp only [ix_add, ix_mul, ix_pred]; done) | (simp only [ix_add, ix_mul, ix_pred, *]; done)) (by omega) (by decide) ((cpy_fr (by decide) k).trans hn) rfl ?_
    refine xx_icmp (pc' := 179) (tg := 208) rfl rfl rfl (fun q176 => ?_) (fun q176 => absurd (show ex_P .ge (nI k) (nI k) from Int32.le_refl _) q176)
    refine xi_iload (pc' := 210) rfl rfl rfl ?_
    refine xx_zreturn rfl rfl (by decide) ?_
    exact ⟨rfl, rfl⟩
  | succ j ih =>
    intro k hk
    refine xi_iload (pc' := 170) rfl rfl rfl ?_
    refine xi_aload_n (pc' := 171) rfl rfl rfl ?_
    refine xr_getp (pc' := 174) rfl rfl (by decide) rfl rfl rfl ?_
    refine xi_iload_n (pc' := 175) rfl rfl rfl ?_
    refine xr_ialdv (v := nI (nn)) (j := m) (pc' := 176) rfl rfl (by decide) (by first | rfl | (simp only [ix_add, ix_mul, ix_pred]; done) | (simp only [ix_add, ix_mul, ix_pred, *]; done)) (by omega) (by decide) ((cpy_fr (by decide) k).trans hn) rfl ?_
    refine xx_icmp (pc' := 179) (tg := 208) rfl rfl rfl (fun q176 => absurd q176 (show ¬ ex_P .ge (nI k) (nI nn) from nI_ge (by omega) (by omega))) (fun q176 => ?_)
    refine xi_iload (pc' := 181) rfl rfl rfl ?_
    refine xi_iff (pc' := 184) (tg := 208) rfl rfl (by decide) rfl ?_
    refine xi_aload_n (pc' := 185) rfl rfl rfl ?_
    refine xr_getp (pc' := 188) rfl rfl (by decide) rfl rfl rfl ?_
    refine xi_iconst (pc' := 189) rfl rfl ?_
    refine xi_iload_n (pc' := 190) rfl rfl rfl ?_
    refine xi_imul (pc' := 191) rfl rfl ?_
    refine xi_iload (pc' := 193) rfl rfl rfl ?_
    refine xi_iadd (pc' := 194) rfl rfl ?_
    refine xi_aload_n (pc' := 195) rfl rfl rfl ?_
    refine xr_getp (pc' := 198) rfl rfl (by decide) rfl rfl rfl ?_
    refine xi_iload (pc' := 200) rfl rfl rfl ?_
    refine xr_iald (j := k) (pc' := 201) rfl rfl (by decide) (by first | rfl | (simp only [ix_add, ix_mul, ix_pred]; done) | (simp only [ix_add, ix_mul, ix_pred, *]; done)) (by omega) (by decide) rfl ?_
    refine xr_iast (j := (4) * (m) + k) (pc' := 202) rfl rfl (by decide) (by first | rfl | (simp only [ix_add, ix_mul, ix_pred]; done) | (simp only [ix_add, ix_mul, ix_pred, *]; done)) (by omega) (by decide) rfl ?_
    refine xi_iincv (y := nI (k + 1)) (pc' := 205) rfl rfl (ix_add _ _) (st1_7 rfl) rfl ?_
    refine xi_goto (pc' := 168) rfl rfl ?_
    exact ih (k + 1) (by omega)
theorem r_take_from {L : Nat} {xs : Nat → Int32} {D n : Nat} {I J : ex_Mem} {m x s nn b N : Nat} (hm : m < 8) (hb : b < 2) (hx6 : x < 6) (hs : s < 3) (h1 : 1 ≤ nn) (h4 : nn ≤ 4) (hx : J 70 m = nI x) (hsb : J 72 m = nI (s + 1)) (hn : J 73 m = nI nn) (hh : hwB N J) (hN : N + 12 < 2 ^ 31) (hg : gdB 0 J) {v3 : Int32} : xx cb_G L xs (D + 4) 118 64 [.ref 52, .int (nI m), .int (nI b), .int v3, ex_no, ex_no, ex_no, ex_no] [] (mkH n I J) (fun r h => r = some (.int (r_take J m x s nn b).1) ∧ h = mkH n I (r_take J m x s nn b).2) := by
  refine xi_aload_n (pc' := 65) rfl rfl rfl ?_
  refine xr_getp (pc' := 68) rfl rfl (by decide) rfl rfl rfl ?_
  refine xi_iload_n (pc' := 69) rfl rfl rfl ?_
  refine xr_ialdv (v := nI (x)) (j := m) (pc' := 70) rfl rfl (by decide) (by first | rfl | (simp only [ix_add, ix_mul, ix_pred]; done) | (simp only [ix_add, ix_mul, ix_pred, *]; done)) (by omega) (by decide) (by simp only [wI_fr, says_fr, put_fr, takes_fr, hears_fr, dat_fr, dw_fr, ans_fr, eff_fr, tell_fr, ne_eq, Nat.reduceEqDiff, not_false_eq_true, hx]) rfl ?_
  refine xi_iconst (pc' := 71) rfl rfl ?_
  refine xi_aload_n (pc' := 72) rfl rfl rfl ?_
  refine xr_getp (pc' := 75) rfl rfl (by decide) rfl rfl rfl ?_
  refine xi_iload_n (pc' := 76) rfl rfl rfl ?_
  refine xr_ialdv (v := nI (s + 1)) (j := m) (pc' := 77) rfl rfl (by decide) (by first | rfl | (simp only [ix_add, ix_mul, ix_pred]; done) | (simp only [ix_add, ix_mul, ix_pred, *]; done)) (by omega) (by decide) (by simp only [wI_fr, says_fr, put_fr, takes_fr, hears_fr, dat_fr, dw_fr, ans_fr, eff_fr, tell_fr, ne_eq, Nat.reduceEqDiff, not_false_eq_true, hsb]) rfl ?_
  refine xi_aload_n (pc' := 78) rfl rfl rfl ?_
  refine xr_getp (pc' := 81) rfl rfl (by decide) rfl rfl rfl ?_
  refine xi_iload_n (pc' := 82) rfl rfl rfl ?_
  refine xr_ialdv (v := nI (nn)) (j := m) (pc' := 83) rfl rfl (by decide) (by first | rfl | (simp only [ix_add, ix_mul, ix_pred]; done) | (simp only [ix_add, ix_mul, ix_pred, *]; done)) (by omega) (by decide) (by simp only [wI_fr, says_fr, put_fr, takes_fr, hears_fr, dat_fr, dw_fr, ans_fr, eff_fr, tell_fr, ne_eq, Nat.reduceEqDiff, not_false_eq_true, hn]) rfl ?_
  refine xx_callSi (pc' := 86) rfl rfl (by decide) rfl (Nat.le_of_ble_eq_true rfl) rfl rfl (r_commandW) ?_
  refine xi_istore (pc' := 88) rfl (st1_4 rfl) rfl ?_
  refine xi_aload_n (pc' := 89) rfl rfl rfl ?_
  refine xi_iload_n (pc' := 90) rfl rfl rfl ?_
  refine xi_iconst (pc' := 91) rfl rfl ?_
  refine xi_iload (pc' := 93) rfl rfl rfl ?_
  refine xx_callVi (pc' := 96) rfl rfl (by decide) rfl rfl (by show _ < 81 + 2 * _; omega) (Nat.le_of_ble_eq_true rfl) rfl rfl (r_put0 hb hh (by omega)) ?_
  refine xi_istore (pc' := 98) rfl (st1_5 rfl) rfl ?_
  refine xi_aload_n (pc' := 99) rfl rfl rfl ?_
  refine xi_aload_n (pc' := 100) rfl rfl rfl ?_
  refine xr_getp (pc' := 103) rfl rfl (by decide) rfl rfl rfl ?_
  refine xi_iload_n (pc' := 104) rfl rfl rfl ?_
  refine xr_ialdv (v := nI (x)) (j := m) (pc' := 105) rfl rfl (by decide) (by first | rfl | (simp only [ix_add, ix_mul, ix_pred]; done) | (simp only [ix_add, ix_mul, ix_pred, *]; done)) (by omega) (by decide) (by simp only [wI_fr, says_fr, put_fr, takes_fr, hears_fr, dat_fr, dw_fr, ans_fr, eff_fr, tell_fr, ne_eq, Nat.reduceEqDiff, not_false_eq_true, hx]) rfl ?_
  refine xi_iload (pc' := 107) rfl rfl rfl ?_
  refine xi_iload (pc' := 109) rfl rfl rfl ?_
  refine xi_iconst (pc' := 110) rfl rfl ?_
  refine xi_iconst (pc' := 111) rfl rfl ?_
  refine xx_callVi (pc' := 114) rfl rfl (by decide) rfl rfl (by show _ < 81 + 2 * _; omega) (Nat.le_of_ble_eq_true rfl) rfl rfl (r_hears_ok hx6) ?_
  refine xx_if (pc' := 117) (tg := 119) rfl rfl rfl (fun q114 => ?_) (fun q114 => ?_)
  · refine xi_aload_n (pc' := 120) rfl rfl rfl ?_
    refine xi_aload_n (pc' := 121) rfl rfl rfl ?_
    refine xr_getp (pc' := 124) rfl rfl (by decide) rfl rfl rfl ?_
    refine xi_iload_n (pc' := 125) rfl rfl rfl ?_
    refine xr_ialdv (v := nI (x)) (j := m) (pc' := 126) rfl rfl (by decide) (by first | rfl | (simp only [ix_add, ix_mul, ix_pred]; done) | (simp only [ix_add, ix_mul, ix_pred, *]; done)) (by omega) (by decide) (by simp only [wI_fr, says_fr, put_fr, takes_fr, hears_fr, dat_fr, dw_fr, ans_fr, eff_fr, tell_fr, ne_eq, Nat.reduceEqDiff, not_false_eq_true, hx]) rfl ?_
    refine xi_aload_n (pc' := 127) rfl rfl rfl ?_
    refine xr_getp (pc' := 130) rfl rfl (by decide) rfl rfl rfl ?_
    refine xi_iload_n (pc' := 131) rfl rfl rfl ?_
    refine xr_ialdv (v := nI (s + 1)) (j := m) (pc' := 132) rfl rfl (by decide) (by first | rfl | (simp only [ix_add, ix_mul, ix_pred]; done) | (simp only [ix_add, ix_mul, ix_pred, *]; done)) (by omega) (by decide) (by simp only [wI_fr, says_fr, put_fr, takes_fr, hears_fr, dat_fr, dw_fr, ans_fr, eff_fr, tell_fr, ne_eq, Nat.reduceEqDiff, not_false_eq_true, hsb]) rfl ?_
    refine xi_aload_n (pc' := 133) rfl rfl rfl ?_
    refine xr_getp (pc' := 136) rfl rfl (by decide) rfl rfl rfl ?_
    refine xi_iload_n (pc' := 137) rfl rfl rfl ?_
    refine xr_ialdv (v := nI (nn)) (j := m) (pc' := 138) rfl rfl (by decide) (by first | rfl | (simp only [ix_add, ix_mul, ix_pred]; done) | (simp only [ix_add, ix_mul, ix_pred, *]; done)) (by omega) (by decide) (by simp only [wI_fr, says_fr, put_fr, takes_fr, hears_fr, dat_fr, dw_fr, ans_fr, eff_fr, tell_fr, ne_eq, Nat.reduceEqDiff, not_false_eq_true, hn]) rfl ?_
    refine xi_iload_n (pc' := 139) rfl rfl rfl ?_
    refine xx_callVi (pc' := 142) rfl rfl (by decide) rfl rfl (by show _ < 81 + 2 * _; omega) (Nat.le_of_ble_eq_true rfl) rfl rfl (r_answers_ok (D := D) (N := N + 1) (g := 0) hx6 hs h4 hb (hears_hw (hwB_put hh (by omega))) (by omega) (hears_gd (put_gdB hg)) (by omega)) ?_
    refine xx_if (pc' := 145) (tg := 162) rfl rfl rfl (fun q142 => ?_) (fun q142 => ?_)
    · refine xi_iconst (pc' := 163) rfl rfl ?_
      refine xi_istore (pc' := 165) rfl (st1_6 rfl) rfl ?_
      refine xi_iconst (pc' := 166) rfl rfl ?_
      refine xi_istore (pc' := 168) rfl (st1_7 rfl) rfl ?_
      refine xi_iload (pc' := 170) rfl rfl rfl ?_
      refine xi_aload_n (pc' := 171) rfl rfl rfl ?_
      refine xr_getp (pc' := 174) rfl rfl (by decide) rfl rfl rfl ?_
      refine xi_iload_n (pc' := 175) rfl rfl rfl ?_
      refine xr_ialdv (v := nI (nn)) (j := m) (pc' := 176) rfl rfl (by decide) (by first | rfl | (simp only [ix_add, ix_mul, ix_pred]; done) | (simp only [ix_add, ix_mul, ix_pred, *]; done)) (by omega) (by decide) (((ans_fr (by decide) (by decide) (by decide) (by decide) (by decide)).trans ((hears_fr (by decide) (by decide) (by decide)).trans ((put_fr (by decide) (by decide) (by decide) (by decide)).trans hn)))) rfl ?_
      refine xx_icmp (pc' := 179) (tg := 208) rfl rfl rfl (fun q176 => absurd q176 (show ¬ ex_P .ge (nI 0) (nI nn) from nI_ge (by omega) (by omega))) (fun q176 => ?_)
      refine xi_iload (pc' := 181) rfl rfl rfl ?_
      refine xi_ift (pc' := 208) rfl rfl (by decide) ?_
      refine xi_iload (pc' := 210) rfl rfl rfl ?_
      refine xx_zreturn rfl rfl (by decide) ?_
      simp only [ex_P, Classical.not_not, ↓reduceIte, Nat.add_zero, or_true, true_or, not_true_eq_false, not_false_eq_true, or_false, false_or, wI_get, false_and, true_and, and_true, and_false, and_self, Nat.reduceEqDiff, Nat.succ_ne_zero, reduceCtorEq, nI_lit, nI_lit0, Nat.reduceLT] at *
      first | (simp only [r_take, r_ta, *, ↓reduceIte, Nat.add_zero, or_true, true_or, not_true_eq_false, not_false_eq_true, or_false, false_or, wI_get, false_and, true_and, and_true, and_false, and_self, Nat.reduceEqDiff, Nat.succ_ne_zero, reduceCtorEq, nI_lit, nI_lit0, Nat.reduceLT]; done) | (exfalso; simp_all only [↓reduceIte, Nat.add_zero, or_true, true_or, not_true_eq_false, not_false_eq_true, or_false, false_or, wI_get, false_and, true_and, and_true, and_false, and_self, Nat.reduceEqDiff, Nat.succ_ne_zero, reduceCtorEq, nI_lit, nI_lit0, Nat.reduceLT]; done)
    · refine xi_aload_n (pc' := 146) rfl rfl rfl ?_
      refine xr_geti (pc' := 149) rfl rfl (by decide) (by decide) rfl ?_
      refine xi_aload_n (pc' := 150) rfl rfl rfl ?_
      refine xr_getp (pc' := 153) rfl rfl (by decide) rfl rfl rfl ?_
      refine xi_iload_n (pc' := 154) rfl rfl rfl ?_
      refine xr_ialdv (v := nI (nn)) (j := m) (pc' := 155) rfl rfl (by decide) (by first | rfl | (simp only [ix_add, ix_mul, ix_pred]; done) | (simp only [ix_add, ix_mul, ix_pred, *]; done)) (by omega) (by decide) (by simp only [wI_fr, says_fr, put_fr, takes_fr, hears_fr, dat_fr, dw_fr, ans_fr, eff_fr, tell_fr, ne_eq, Nat.reduceEqDiff, not_false_eq_true, hn]) rfl ?_
      refine xx_icmp (pc' := 158) (tg := 162) rfl rfl rfl (fun q155 => ?_) (fun q155 => ?_)
      · refine xi_iconst (pc' := 163) rfl rfl ?_
        refine xi_istore (pc' := 165) rfl (st1_6 rfl) rfl ?_
        refine xi_iconst (pc' := 166) rfl rfl ?_
        refine xi_istore (pc' := 168) rfl (st1_7 rfl) rfl ?_
        refine xi_iload (pc' := 170) rfl rfl rfl ?_
        refine xi_aload_n (pc' := 171) rfl rfl rfl ?_
        refine xr_getp (pc' := 174) rfl rfl (by decide) rfl rfl rfl ?_
        refine xi_iload_n (pc' := 175) rfl rfl rfl ?_
        refine xr_ialdv (v := nI (nn)) (j := m) (pc' := 176) rfl rfl (by decide) (by first | rfl | (simp only [ix_add, ix_mul, ix_pred]; done) | (simp only [ix_add, ix_mul, ix_pred, *]; done)) (by omega) (by decide) (((ans_fr (by decide) (by decide) (by decide) (by decide) (by decide)).trans ((hears_fr (by decide) (by decide) (by decide)).trans ((put_fr (by decide) (by decide) (by decide) (by decide)).trans hn)))) rfl ?_
        refine xx_icmp (pc' := 179) (tg := 208) rfl rfl rfl (fun q176 => absurd q176 (show ¬ ex_P .ge (nI 0) (nI nn) from nI_ge (by omega) (by omega))) (fun q176 => ?_)
        refine xi_iload (pc' := 181) rfl rfl rfl ?_
        refine xi_ift (pc' := 208) rfl rfl (by decide) ?_
        refine xi_iload (pc' := 210) rfl rfl rfl ?_
        refine xx_zreturn rfl rfl (by decide) ?_
        simp only [ex_P, Classical.not_not, ↓reduceIte, Nat.add_zero, or_true, true_or, not_true_eq_false, not_false_eq_true, or_false, false_or, wI_get, false_and, true_and, and_true, and_false, and_self, Nat.reduceEqDiff, Nat.succ_ne_zero, reduceCtorEq, nI_lit, nI_lit0, Nat.reduceLT] at *
        first | (simp only [r_take, r_ta, *, ↓reduceIte, Nat.add_zero, or_true, true_or, not_true_eq_false, not_false_eq_true, or_false, false_or, wI_get, false_and, true_and, and_true, and_false, and_self, Nat.reduceEqDiff, Nat.succ_ne_zero, reduceCtorEq, nI_lit, nI_lit0, Nat.reduceLT]; done) | (exfalso; simp_all only [↓reduceIte, Nat.add_zero, or_true, true_or, not_true_eq_false, not_false_eq_true, or_false, false_or, wI_get, false_and, true_and, and_true, and_false, and_self, Nat.reduceEqDiff, Nat.succ_ne_zero, reduceCtorEq, nI_lit, nI_lit0, Nat.reduceLT]; done)
      · refine xi_iconst (pc' := 159) rfl rfl ?_
        refine xi_goto (pc' := 163) rfl rfl ?_
        refine xi_istore (pc' := 165) rfl (st1_6 rfl) rfl ?_
        refine xi_iconst (pc' := 166) rfl rfl ?_
        refine xi_istore (pc' := 168) rfl (st1_7 rfl) rfl ?_
        refine xx_imp (r_cpy_loop (D := D) rfl rfl rfl hm hb h4 ((ans_fr (by decide) (by decide) (by decide) (by decide) (by decide)).trans ((hears_fr (by decide) (by decide) (by decide)).trans ((put_fr (by decide) (by decide) (by decide) (by decide)).trans hn))) nn 0 (by omega)) (fun r h hq => ?_)
        obtain ⟨rfl, rfl⟩ := hq
        simp only [ex_P, Classical.not_not, ↓reduceIte, Nat.add_zero, or_true, true_or, not_true_eq_false, not_false_eq_true, or_false, false_or, wI_get, false_and, true_and, and_true, and_false, and_self, Nat.reduceEqDiff, Nat.succ_ne_zero, reduceCtorEq, nI_lit, nI_lit0, Nat.reduceLT] at *
        first | (simp only [r_take, r_ta, *, ↓reduceIte, Nat.add_zero, or_true, true_or, not_true_eq_false, not_false_eq_true, or_false, false_or, wI_get, false_and, true_and, and_true, and_false, and_self, Nat.reduceEqDiff, Nat.succ_ne_zero, reduceCtorEq, nI_lit, nI_lit0, Nat.reduceLT]; done) | (exfalso; simp_all only [↓reduceIte, Nat.add_zero, or_true, true_or, not_true_eq_false, not_false_eq_true, or_false, false_or, wI_get, false_and, true_and, and_true, and_false, and_self, Nat.reduceEqDiff, Nat.succ_ne_zero, reduceCtorEq, nI_lit, nI_lit0, Nat.reduceLT]; done)
  · refine xi_iconst (pc' := 118) rfl rfl ?_
    refine xx_zreturn rfl rfl (by decide) ?_
    simp only [ex_P, Classical.not_not, ↓reduceIte, Nat.add_zero, or_true, true_or, not_true_eq_false, not_false_eq_true, or_false, false_or, wI_get, false_and, true_and, and_true, and_false, and_self, Nat.reduceEqDiff, Nat.succ_ne_zero, reduceCtorEq, nI_lit, nI_lit0, Nat.reduceLT] at *
    first | (simp only [r_take, r_ta, *, ↓reduceIte, Nat.add_zero, or_true, true_or, not_true_eq_false, not_false_eq_true, or_false, false_or, wI_get, false_and, true_and, and_true, and_false, and_self, Nat.reduceEqDiff, Nat.succ_ne_zero, reduceCtorEq, nI_lit, nI_lit0, Nat.reduceLT]; done) | (exfalso; simp_all only [↓reduceIte, Nat.add_zero, or_true, true_or, not_true_eq_false, not_false_eq_true, or_false, false_or, wI_get, false_and, true_and, and_true, and_false, and_self, Nat.reduceEqDiff, Nat.succ_ne_zero, reduceCtorEq, nI_lit, nI_lit0, Nat.reduceLT]; done)
