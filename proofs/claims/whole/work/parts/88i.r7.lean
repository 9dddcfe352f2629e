def r_d3 (A : Int32 × ex_Mem) (m bb : Nat) : ex_Mem := if A.1 = 0 then ex_wI A.2 77 m (nI 4) else ex_wI (ex_wI A.2 52 30 (nI (1 - bb))) 77 m (nI 3)
def r_d2 (A : Int32 × ex_Mem) (m bb : Nat) : ex_Mem := if A.1 = 0 then r_d3 (r_attempt A.2 m (1 - bb)) m bb else ex_wI A.2 77 m (nI 2)
def r_d1 (A : Int32 × ex_Mem) (m bb : Nat) : ex_Mem := if A.1 = 0 then r_d2 (r_attempt A.2 m bb) m bb else ex_wI A.2 77 m (nI 1)
def r_does (J : ex_Mem) (m bb : Nat) : ex_Mem := r_d1 (r_attempt J m bb) m bb
theorem nt_bus : nt 52 30 := by unfold nt; omega
theorem r_does_ok {L : Nat} {xs : Nat → Int32} {D n : Nat} {I J : ex_Mem} {m bb N : Nat} (hm : m < 8) (hbb : bb < 2) (hbus : J 52 30 = nI bb) (hv : vMsg J m) (hh : hwB N J) (hN : N + 36 < 2 ^ 31) : ro L xs (D + 6) 117 [.ref 52, .int (nI m)] (mkH n I J) (mkH n I (r_does J m bb)) := by
  show xx cb_G _ _ _ 117 0 [.ref 52, .int (nI m), ex_no, ex_no, ex_no] [] _ _
  refine xi_iconst (pc' := 1) rfl rfl ?_
  refine xi_istore_n (pc' := 2) rfl (st1_2 rfl) rfl ?_
  refine xi_iconst (pc' := 3) rfl rfl ?_
  refine xi_istore_n (pc' := 4) rfl (st1_3 rfl) rfl ?_
  refine xi_iload_n (pc' := 5) rfl rfl rfl ?_
  refine xi_iconst (pc' := 6) rfl rfl ?_
  refine xi_icmpf (pc' := 9) (tg := 56) rfl rfl (by decide) rfl ?_
  refine xi_iload_n (pc' := 10) rfl rfl rfl ?_
  refine xi_iconst (pc' := 11) rfl rfl ?_
  refine xi_icmpf (pc' := 14) (tg := 56) rfl rfl (by decide) rfl ?_
  refine xi_iload_n (pc' := 15) rfl rfl rfl ?_
  refine xi_iconst (pc' := 16) rfl rfl ?_
  refine xi_icmpf (pc' := 19) (tg := 26) rfl rfl (by decide) rfl ?_
  refine xi_aload_n (pc' := 20) rfl rfl rfl ?_
  refine xr_getiv (v := nI (bb)) (pc' := 23) rfl rfl (by decide) (by decide) (by first | exact hbus | exact (att_nt nt_bus).trans hbus | exact (att_nt nt_bus).trans ((att_nt nt_bus).trans hbus) | exact (att_nt nt_bus).trans ((att_nt nt_bus).trans ((att_nt nt_bus).trans hbus))) rfl ?_
  refine xi_goto (pc' := 32) rfl rfl ?_
  refine xi_istore (pc' := 34) rfl (st1_4 rfl) rfl ?_
  refine xi_aload_n (pc' := 35) rfl rfl rfl ?_
  refine xi_iload_n (pc' := 36) rfl rfl rfl ?_
  refine xi_iload (pc' := 38) rfl rfl rfl ?_
  refine xx_callVi (pc' := 41) rfl rfl (by decide) rfl rfl (by show _ < 81 + 2 * _; omega) (Nat.le_of_ble_eq_true rfl) rfl rfl (r_attempt_ok (D := D) (N := N) hm hbb hv hh (by omega)) ?_
  refine xx_if (pc' := 44) (tg := 48) rfl rfl rfl (fun q41 => ?_) (fun q41 => ?_)
  · refine xi_iconst (pc' := 49) rfl rfl ?_
    refine xi_istore_n (pc' := 50) rfl (st1_2 rfl) rfl ?_
    refine xi_iincv (y := nI 2) (pc' := 53) rfl rfl (by decide) (st1_3 rfl) rfl ?_
    refine xi_goto (pc' := 4) rfl rfl ?_
    refine xi_iload_n (pc' := 5) rfl rfl rfl ?_
    refine xi_iconst (pc' := 6) rfl rfl ?_
    refine xi_icmpf (pc' := 9) (tg := 56) rfl rfl (by decide) rfl ?_
    refine xi_iload_n (pc' := 10) rfl rfl rfl ?_
    refine xi_iconst (pc' := 11) rfl rfl ?_
    refine xi_icmpf (pc' := 14) (tg := 56) rfl rfl (by decide) rfl ?_
    refine xi_iload_n (pc' := 15) rfl rfl rfl ?_
    refine xi_iconst (pc' := 16) rfl rfl ?_
    refine xi_icmpf (pc' := 19) (tg := 26) rfl rfl (by decide) rfl ?_
    refine xi_aload_n (pc' := 20) rfl rfl rfl ?_
    refine xr_getiv (v := nI (bb)) (pc' := 23) rfl rfl (by decide) (by decide) (by first | exact hbus | exact (att_nt nt_bus).trans hbus | exact (att_nt nt_bus).trans ((att_nt nt_bus).trans hbus) | exact (att_nt nt_bus).trans ((att_nt nt_bus).trans ((att_nt nt_bus).trans hbus))) rfl ?_
    refine xi_goto (pc' := 32) rfl rfl ?_
    refine xi_istore (pc' := 34) rfl (st1_4 rfl) rfl ?_
    refine xi_aload_n (pc' := 35) rfl rfl rfl ?_
    refine xi_iload_n (pc' := 36) rfl rfl rfl ?_
    refine xi_iload (pc' := 38) rfl rfl rfl ?_
    refine xx_callVi (pc' := 41) rfl rfl (by decide) rfl rfl (by show _ < 81 + 2 * _; omega) (Nat.le_of_ble_eq_true rfl) rfl rfl (r_attempt_ok (D := D) (N := N + 12) hm hbb (vMsg_att hv) (att_hw hv hh (by omega)) (by omega)) ?_
    refine xx_if (pc' := 44) (tg := 48) rfl rfl rfl (fun q41 => ?_) (fun q41 => ?_)
    · refine xi_iconst (pc' := 49) rfl rfl ?_
      refine xi_istore_n (pc' := 50) rfl (st1_2 rfl) rfl ?_
      refine xi_iincv (y := nI 3) (pc' := 53) rfl rfl (by decide) (st1_3 rfl) rfl ?_
      refine xi_goto (pc' := 4) rfl rfl ?_
      refine xi_iload_n (pc' := 5) rfl rfl rfl ?_
      refine xi_iconst (pc' := 6) rfl rfl ?_
      refine xi_icmpf (pc' := 9) (tg := 56) rfl rfl (by decide) rfl ?_
      refine xi_iload_n (pc' := 10) rfl rfl rfl ?_
      refine xi_iconst (pc' := 11) rfl rfl ?_
      refine xi_icmpf (pc' := 14) (tg := 56) rfl rfl (by decide) rfl ?_
      refine xi_iload_n (pc' := 15) rfl rfl rfl ?_
      refine xi_iconst (pc' := 16) rfl rfl ?_
      refine xi_icmpt (pc' := 26) rfl rfl (by decide) ?_
      refine xi_iconst (pc' := 27) rfl rfl ?_
      refine xi_aload_n (pc' := 28) rfl rfl rfl ?_
      refine xr_getiv (v := nI (bb)) (pc' := 31) rfl rfl (by decide) (by decide) (by first | exact hbus | exact (att_nt nt_bus).trans hbus | exact (att_nt nt_bus).trans ((att_nt nt_bus).trans hbus) | exact (att_nt nt_bus).trans ((att_nt nt_bus).trans ((att_nt nt_bus).trans hbus))) rfl ?_
      refine xi_isub (pc' := 32) rfl rfl ?_
      refine xx_topi (y := nI (1 - bb)) (pk_sub (by omega)) ?_
      refine xi_istore (pc' := 34) rfl (st1_4 rfl) rfl ?_
      refine xi_aload_n (pc' := 35) rfl rfl rfl ?_
      refine xi_iload_n (pc' := 36) rfl rfl rfl ?_
      refine xi_iload (pc' := 38) rfl rfl rfl ?_
      refine xx_callVi (pc' := 41) rfl rfl (by decide) rfl rfl (by show _ < 81 + 2 * _; omega) (Nat.le_of_ble_eq_true rfl) rfl rfl (r_attempt_ok (D := D) (N := N + 24) (b := 1 - bb) hm (by omega) (vMsg_att (vMsg_att hv)) (att_hw (vMsg_att hv) (att_hw hv hh (by omega)) (by omega)) (by omega)) ?_
      refine xx_if (pc' := 44) (tg := 48) rfl rfl rfl (fun q41 => ?_) (fun q41 => ?_)
      · refine xi_iconst (pc' := 49) rfl rfl ?_
        refine xi_istore_n (pc' := 50) rfl (st1_2 rfl) rfl ?_
        refine xi_iincv (y := nI 4) (pc' := 53) rfl rfl (by decide) (st1_3 rfl) rfl ?_
        refine xi_goto (pc' := 4) rfl rfl ?_
        refine xi_iload_n (pc' := 5) rfl rfl rfl ?_
        refine xi_iconst (pc' := 6) rfl rfl ?_
        refine xi_icmpt (pc' := 56) rfl rfl (by decide) ?_
        refine xi_iload_n (pc' := 57) rfl rfl rfl ?_
        refine xi_iconst (pc' := 58) rfl rfl ?_
        refine xi_icmpt (pc' := 71) rfl rfl (by decide) ?_
        refine xi_aload_n (pc' := 72) rfl rfl rfl ?_
        refine xr_getp (pc' := 75) rfl rfl (by decide) rfl rfl rfl ?_
        refine xi_iload_n (pc' := 76) rfl rfl rfl ?_
        refine xi_iload_n (pc' := 77) rfl rfl rfl ?_
        refine xr_iast (j := m) (pc' := 78) rfl rfl (by decide) (by first | rfl | (simp only [ix_add, ix_mul, ix_pred]; done) | (simp only [ix_add, ix_mul, ix_pred, *]; done)) (by omega) (by decide) rfl ?_
        refine xx_return rfl (by decide) ?_
        simp only [ex_P, Classical.not_not, ↓reduceIte, Nat.add_zero, or_true, true_or, not_true_eq_false, not_false_eq_true, or_false, false_or, wI_get, false_and, true_and, and_true, and_false, and_self, Nat.reduceEqDiff, Nat.succ_ne_zero, reduceCtorEq, nI_lit, nI_lit0, Nat.reduceLT] at *
        first | (simp only [r_does, r_d1, r_d2, r_d3, *, ↓reduceIte, Nat.add_zero, or_true, true_or, not_true_eq_false, not_false_eq_true, or_false, false_or, wI_get, false_and, true_and, and_true, and_false, and_self, Nat.reduceEqDiff, Nat.succ_ne_zero, reduceCtorEq, nI_lit, nI_lit0, Nat.reduceLT]; done) | (exfalso; simp_all only [↓reduceIte, Nat.add_zero, or_true, true_or, not_true_eq_false, not_false_eq_true, or_false, false_or, wI_get, false_and, true_and, and_true, and_false, and_self, Nat.reduceEqDiff, Nat.succ_ne_zero, reduceCtorEq, nI_lit, nI_lit0, Nat.reduceLT]; done)
      · refine xi_iload_n (pc' := 45) rfl rfl rfl ?_
        refine xi_goto (pc' := 49) rfl rfl ?_
        refine xi_istore_n (pc' := 50) rfl (st1_2 rfl) rfl ?_
        refine xi_iincv (y := nI 4) (pc' := 53) rfl rfl (by decide) (st1_3 rfl) rfl ?_
        refine xi_goto (pc' := 4) rfl rfl ?_
        refine xi_iload_n (pc' := 5) rfl rfl rfl ?_
        refine xi_iconst (pc' := 6) rfl rfl ?_
        refine xi_icmpt (pc' := 56) rfl rfl (by decide) ?_
        refine xi_iload_n (pc' := 57) rfl rfl rfl ?_
        refine xi_iconst (pc' := 58) rfl rfl ?_
        refine xi_icmpf (pc' := 61) (tg := 71) rfl rfl (by decide) rfl ?_
        refine xi_aload_n (pc' := 62) rfl rfl rfl ?_
        refine xi_iconst (pc' := 63) rfl rfl ?_
        refine xi_aload_n (pc' := 64) rfl rfl rfl ?_
        refine xr_getiv (v := nI (bb)) (pc' := 67) rfl rfl (by decide) (by decide) (by first | exact hbus | exact (att_nt nt_bus).trans hbus | exact (att_nt nt_bus).trans ((att_nt nt_bus).trans hbus) | exact (att_nt nt_bus).trans ((att_nt nt_bus).trans ((att_nt nt_bus).trans hbus))) rfl ?_
        refine xi_isub (pc' := 68) rfl rfl ?_
        refine xx_topi (y := nI (1 - bb)) (pk_sub (by omega)) ?_
        refine xr_puti (z := 0) (pc' := 71) rfl rfl (by decide) (Or.inl rfl) rfl ?_
        refine xi_aload_n (pc' := 72) rfl rfl rfl ?_
        refine xr_getp (pc' := 75) rfl rfl (by decide) rfl rfl rfl ?_
        refine xi_iload_n (pc' := 76) rfl rfl rfl ?_
        refine xi_iload_n (pc' := 77) rfl rfl rfl ?_
        refine xr_iast (j := m) (pc' := 78) rfl rfl (by decide) (by first | rfl | (simp only [ix_add, ix_mul, ix_pred]; done) | (simp only [ix_add, ix_mul, ix_pred, *]; done)) (by omega) (by decide) rfl ?_
        refine xx_return rfl (by decide) ?_
        simp only [ex_P, Classical.not_not, ↓reduceIte, Nat.add_zero, or_true, true_or, not_true_eq_false, not_false_eq_true, or_false, false_or, wI_get, false_and, true_and, and_true, and_false, and_self, Nat.reduceEqDiff, Nat.succ_ne_zero, reduceCtorEq, nI_lit, nI_lit0, Nat.reduceLT] at *
        first | (simp only [r_does, r_d1, r_d2, r_d3, *, ↓reduceIte, Nat.add_zero, or_true, true_or, not_true_eq_false, not_false_eq_true, or_false, false_or, wI_get, false_and, true_and, and_true, and_false, and_self, Nat.reduceEqDiff, Nat.succ_ne_zero, reduceCtorEq, nI_lit, nI_lit0, Nat.reduceLT]; done) | (exfalso; simp_all only [↓reduceIte, Nat.add_zero, or_true, true_or, not_true_eq_false, not_false_eq_true, or_false, false_or, wI_get, false_and, true_and, and_true, and_false, and_self, Nat.reduceEqDiff, Nat.succ_ne_zero, reduceCtorEq, nI_lit, nI_lit0, Nat.reduceLT]; done)
    · refine xi_iload_n (pc' := 45) rfl rfl rfl ?_
      refine xi_goto (pc' := 49) rfl rfl ?_
      refine xi_istore_n (pc' := 50) rfl (st1_2 rfl) rfl ?_
      refine xi_iincv (y := nI 3) (pc' := 53) rfl rfl (by decide) (st1_3 rfl) rfl ?_
      refine xi_goto (pc' := 4) rfl rfl ?_
      refine xi_iload_n (pc' := 5) rfl rfl rfl ?_
      refine xi_iconst (pc' := 6) rfl rfl ?_
      refine xi_icmpf (pc' := 9) (tg := 56) rfl rfl (by decide) rfl ?_
      refine xi_iload_n (pc' := 10) rfl rfl rfl ?_
      refine xi_iconst (pc' := 11) rfl rfl ?_
      refine xi_icmpt (pc' := 56) rfl rfl (by decide) ?_
      refine xi_iload_n (pc' := 57) rfl rfl rfl ?_
      refine xi_iconst (pc' := 58) rfl rfl ?_
      refine xi_icmpt (pc' := 71) rfl rfl (by decide) ?_
      refine xi_aload_n (pc' := 72) rfl rfl rfl ?_
      refine xr_getp (pc' := 75) rfl rfl (by decide) rfl rfl rfl ?_
      refine xi_iload_n (pc' := 76) rfl rfl rfl ?_
      refine xi_iload_n (pc' := 77) rfl rfl rfl ?_
      refine xr_iast (j := m) (pc' := 78) rfl rfl (by decide) (by first | rfl | (simp only [ix_add, ix_mul, ix_pred]; done) | (simp only [ix_add, ix_mul, ix_pred, *]; done)) (by omega) (by decide) rfl ?_
      refine xx_return rfl (by decide) ?_
      simp only [ex_P, Classical.not_not, ↓reduceIte, Nat.add_zero, or_true, true_or, not_true_eq_false, not_false_eq_true, or_false, false_or, wI_get, false_and, true_and, and_true, and_false, and_self, Nat.reduceEqDiff, Nat.succ_ne_zero, reduceCtorEq, nI_lit, nI_lit0, Nat.reduceLT] at *
      first | (simp only [r_does, r_d1, r_d2, r_d3, *, ↓reduceIte, Nat.add_zero, or_true, true_or, not_true_eq_false, not_false_eq_true, or_false, false_or, wI_get, false_and, true_and, and_true, and_false, and_self, Nat.reduceEqDiff, Nat.succ_ne_zero, reduceCtorEq, nI_lit, nI_lit0, Nat.reduceLT]; done) | (exfalso; simp_all only [↓reduceIte, Nat.add_zero, or_true, true_or, not_true_eq_false, not_false_eq_true, or_false, false_or, wI_get, false_and, true_and, and_true, and_false, and_self, Nat.reduceEqDiff, Nat.succ_ne_zero, reduceCtorEq, nI_lit, nI_lit0, Nat.reduceLT]; done)
  · refine xi_iload_n (pc' := 45) rfl rfl rfl ?_
    refine xi_goto (pc' := 49) rfl rfl ?_
    refine xi_istore_n (pc' := 50) rfl (st1_2 rfl) rfl ?_
    refine xi_iincv (y := nI 2) (pc' := 53) rfl rfl (by decide) (st1_3 rfl) rfl ?_
    refine xi_goto (pc' := 4) rfl rfl ?_
    refine xi_iload_n (pc' := 5) rfl rfl rfl ?_
    refine xi_iconst (pc' := 6) rfl rfl ?_
    refine xi_icmpf (pc' := 9) (tg := 56) rfl rfl (by decide) rfl ?_
    refine xi_iload_n (pc' := 10) rfl rfl rfl ?_
    refine xi_iconst (pc' := 11) rfl rfl ?_
    refine xi_icmpt (pc' := 56) rfl rfl (by decide) ?_
    refine xi_iload_n (pc' := 57) rfl rfl rfl ?_
    refine xi_iconst (pc' := 58) rfl rfl ?_
    refine xi_icmpt (pc' := 71) rfl rfl (by decide) ?_
    refine xi_aload_n (pc' := 72) rfl rfl rfl ?_
    refine xr_getp (pc' := 75) rfl rfl (by decide) rfl rfl rfl ?_
    refine xi_iload_n (pc' := 76) rfl rfl rfl ?_
    refine xi_iload_n (pc' := 77) rfl rfl rfl ?_
    refine xr_iast (j := m) (pc' := 78) rfl rfl (by decide) (by first | rfl | (simp only [ix_add, ix_mul, ix_pred]; done) | (simp only [ix_add, ix_mul, ix_pred, *]; done)) (by omega) (by decide) rfl ?_
    refine xx_return rfl (by decide) ?_
    simp only [ex_P, Classical.not_not, ↓reduceIte, Nat.add_zero, or_true, true_or, not_true_eq_false, not_false_eq_true, or_false, false_or, wI_get, false_and, true_and, and_true, and_false, and_self, Nat.reduceEqDiff, Nat.succ_ne_zero, reduceCtorEq, nI_lit, nI_lit0, Nat.reduceLT] at *
    first | (simp only [r_does, r_d1, r_d2, r_d3, *, ↓reduceIte, Nat.add_zero, or_true, true_or, not_true_eq_false, not_false_eq_true, or_false, false_or, wI_get, false_and, true_and, and_true, and_false, and_self, Nat.reduceEqDiff, Nat.succ_ne_zero, reduceCtorEq, nI_lit, nI_lit0, Nat.reduceLT]; done) | (exfalso; simp_all only [↓reduceIte, Nat.add_zero, or_true, true_or, not_true_eq_false, not_false_eq_true, or_false, false_or, wI_get, false_and, true_and, and_true, and_false, and_self, Nat.reduceEqDiff, Nat.succ_ne_zero, reduceCtorEq, nI_lit, nI_lit0, Nat.reduceLT]; done)
def r_isOf (J : ex_Mem) (m t : Nat) : Int32 := if J 69 m = nI 3 then nI 0 else if J 70 m = nI t then nI 1 else if J 69 m = nI 2 then (if J 71 m = nI t then nI 1 else nI 0) else nI 0
theorem r_isOf_ok {L : Nat} {xs : Nat → Int32} {D n : Nat} {I J : ex_Mem} {m t : Nat} (hm : m < 8) (ht : t < 6) : ri L xs D 116 [.ref 52, .int (nI m), .int (nI t)] (mkH n I J) (r_isOf J m t) (mkH n I J) := by
  show xx cb_G _ _ _ 116 0 [.ref 52, .int (nI m), .int (nI t)] [] _ _
  refine xi_aload_n (pc' := 1) rfl rfl rfl ?_
  refine xr_getp (pc' := 4) rfl rfl (by decide) rfl rfl rfl ?_
  refine xi_iload_n (pc' := 5) rfl rfl rfl ?_
  refine xr_iald (j := m) (pc' := 6) rfl rfl (by decide) (by first | rfl | (simp only [ix_add, ix_mul, ix_pred]; done) | (simp only [ix_add, ix_mul, ix_pred, *]; done)) (by omega) (by decide) rfl ?_
  refine xi_iconst (pc' := 7) rfl rfl ?_
  refine xx_icmp (pc' := 10) (tg := 44) rfl rfl rfl (fun q7 => ?_) (fun q7 => ?_)
  · refine xi_iconst (pc' := 45) rfl rfl ?_
    refine xx_zreturn rfl rfl (by first | rfl | assumption | exact b01_bI | simp [ex_b01, bI]) ?_
    simp only [ex_P, Classical.not_not, ↓reduceIte, Nat.add_zero, or_true, true_or, not_true_eq_false, not_false_eq_true, or_false, false_or, wI_get, false_and, true_and, and_true, and_false, and_self, Nat.reduceEqDiff, Nat.succ_ne_zero, reduceCtorEq, nI_lit, nI_lit0, Nat.reduceLT] at *
    first | (simp only [r_isOf, *, ↓reduceIte, Nat.add_zero, or_true, true_or, not_true_eq_false, not_false_eq_true, or_false, false_or, wI_get, false_and, true_and, and_true, and_false, and_self, Nat.reduceEqDiff, Nat.succ_ne_zero, reduceCtorEq, nI_lit, nI_lit0, Nat.reduceLT]; done) | (exfalso; simp_all only [↓reduceIte, Nat.add_zero, or_true, true_or, not_true_eq_false, not_false_eq_true, or_false, false_or, wI_get, false_and, true_and, and_true, and_false, and_self, Nat.reduceEqDiff, Nat.succ_ne_zero, reduceCtorEq, nI_lit, nI_lit0, Nat.reduceLT]; done)
  · refine xi_aload_n (pc' := 11) rfl rfl rfl ?_
    refine xr_getp (pc' := 14) rfl rfl (by decide) rfl rfl rfl ?_
    refine xi_iload_n (pc' := 15) rfl rfl rfl ?_
    refine xr_iald (j := m) (pc' := 16) rfl rfl (by decide) (by first | rfl | (simp only [ix_add, ix_mul, ix_pred]; done) | (simp only [ix_add, ix_mul, ix_pred, *]; done)) (by omega) (by decide) rfl ?_
    refine xi_iload_n (pc' := 17) rfl rfl rfl ?_
    refine xx_icmp (pc' := 20) (tg := 40) rfl rfl rfl (fun q17 => ?_) (fun q17 => ?_)
    · refine xi_iconst (pc' := 41) rfl rfl ?_
      refine xi_goto (pc' := 45) rfl rfl ?_
      refine xx_zreturn rfl rfl (by first | rfl | assumption | exact b01_bI | simp [ex_b01, bI]) ?_
      simp only [ex_P, Classical.not_not, ↓reduceIte, Nat.add_zero, or_true, true_or, not_true_eq_false, not_false_eq_true, or_false, false_or, wI_get, false_and, true_and, and_true, and_false, and_self, Nat.reduceEqDiff, Nat.succ_ne_zero, reduceCtorEq, nI_lit, nI_lit0, Nat.reduceLT] at *
      first | (simp only [r_isOf, *, ↓reduceIte, Nat.add_zero, or_true, true_or, not_true_eq_false, not_false_eq_true, or_false, false_or, wI_get, false_and, true_and, and_true, and_false, and_self, Nat.reduceEqDiff, Nat.succ_ne_zero, reduceCtorEq, nI_lit, nI_lit0, Nat.reduceLT]; done) | (exfalso; simp_all only [↓reduceIte, Nat.add_zero, or_true, true_or, not_true_eq_false, not_false_eq_true, or_false, false_or, wI_get, false_and, true_and, and_true, and_false, and_self, Nat.reduceEqDiff, Nat.succ_ne_zero, reduceCtorEq, nI_lit, nI_lit0, Nat.reduceLT]; done)
    · refine xi_aload_n (pc' := 21) rfl rfl rfl ?_
      refine xr_getp (pc' := 24) rfl rfl (by decide) rfl rfl rfl ?_
      refine xi_iload_n (pc' := 25) rfl rfl rfl ?_
      refine xr_iald (j := m) (pc' := 26) rfl rfl (by decide) (by first | rfl | (simp only [ix_add, ix_mul, ix_pred]; done) | (simp only [ix_add, ix_mul, ix_pred, *]; done)) (by omega) (by decide) rfl ?_
      refine xi_iconst (pc' := 27) rfl rfl ?_
      refine xx_icmp (pc' := 30) (tg := 44) rfl rfl rfl (fun q27 => ?_) (fun q27 => ?_)
      · refine xi_iconst (pc' := 45) rfl rfl ?_
        refine xx_zreturn rfl rfl (by first | rfl | assumption | exact b01_bI | simp [ex_b01, bI]) ?_
        simp only [ex_P, Classical.not_not, ↓reduceIte, Nat.add_zero, or_true, true_or, not_true_eq_false, not_false_eq_true, or_false, false_or, wI_get, false_and, true_and, and_true, and_false, and_self, Nat.reduceEqDiff, Nat.succ_ne_zero, reduceCtorEq, nI_lit, nI_lit0, Nat.reduceLT] at *
        first | (simp only [r_isOf, *, ↓reduceIte, Nat.add_zero, or_true, true_or, not_true_eq_false, not_false_eq_true, or_false, false_or, wI_get, false_and, true_and, and_true, and_false, and_self, Nat.reduceEqDiff, Nat.succ_ne_zero, reduceCtorEq, nI_lit, nI_lit0, Nat.reduceLT]; done) | (exfalso; simp_all only [↓reduceIte, Nat.add_zero, or_true, true_or, not_true_eq_false, not_false_eq_true, or_false, false_or, wI_get, false_and, true_and, and_true, and_false, and_self, Nat.reduceEqDiff, Nat.succ_ne_zero, reduceCtorEq, nI_lit, nI_lit0, Nat.reduceLT]; done)
      · refine xi_aload_n (pc' := 31) rfl rfl rfl ?_
        refine xr_getp (pc' := 34) rfl rfl (by decide) rfl rfl rfl ?_
        refine xi_iload_n (pc' := 35) rfl rfl rfl ?_
        refine xr_iald (j := m) (pc' := 36) rfl rfl (by decide) (by first | rfl | (simp only [ix_add, ix_mul, ix_pred]; done) | (simp only [ix_add, ix_mul, ix_pred, *]; done)) (by omega) (by decide) rfl ?_
        refine xi_iload_n (pc' := 37) rfl rfl rfl ?_
        refine xx_icmp (pc' := 40) (tg := 44) rfl rfl rfl (fun q37 => ?_) (fun q37 => ?_)
        · refine xi_iconst (pc' := 45) rfl rfl ?_
          refine xx_zreturn rfl rfl (by first | rfl | assumption | exact b01_bI | simp [ex_b01, bI]) ?_
          simp only [ex_P, Classical.not_not, ↓reduceIte, Nat.add_zero, or_true, true_or, not_true_eq_false, not_false_eq_true, or_false, false_or, wI_get, false_and, true_and, and_true, and_false, and_self, Nat.reduceEqDiff, Nat.succ_ne_zero, reduceCtorEq, nI_lit, nI_lit0, Nat.reduceLT] at *
          first | (simp only [r_isOf, *, ↓reduceIte, Nat.add_zero, or_true, true_or, not_true_eq_false, not_false_eq_true, or_false, false_or, wI_get, false_and, true_and, and_true, and_false, and_self, Nat.reduceEqDiff, Nat.succ_ne_zero, reduceCtorEq, nI_lit, nI_lit0, Nat.reduceLT]; done) | (exfalso; simp_all only [↓reduceIte, Nat.add_zero, or_true, true_or, not_true_eq_false, not_false_eq_true, or_false, false_or, wI_get, false_and, true_and, and_true, and_false, and_self, Nat.reduceEqDiff, Nat.succ_ne_zero, reduceCtorEq, nI_lit, nI_lit0, Nat.reduceLT]; done)
        · refine xi_iconst (pc' := 41) rfl rfl ?_
          refine xi_goto (pc' := 45) rfl rfl ?_
          refine xx_zreturn rfl rfl (by first | rfl | assumption | exact b01_bI | simp [ex_b01, bI]) ?_
          simp only [ex_P, Classical.not_not, ↓reduceIte, Nat.add_zero, or_true, true_or, not_true_eq_false, not_false_eq_true, or_false, false_or, wI_get, false_and, true_and, and_true, and_false, and_self, Nat.reduceEqDiff, Nat.succ_ne_zero, reduceCtorEq, nI_lit, nI_lit0, Nat.reduceLT] at *
          first | (simp only [r_isOf, *, ↓reduceIte, Nat.add_zero, or_true, true_or, not_true_eq_false, not_false_eq_true, or_false, false_or, wI_get, false_and, true_and, and_true, and_false, and_self, Nat.reduceEqDiff, Nat.succ_ne_zero, reduceCtorEq, nI_lit, nI_lit0, Nat.reduceLT]; done) | (exfalso; simp_all only [↓reduceIte, Nat.add_zero, or_true, true_or, not_true_eq_false, not_false_eq_true, or_false, false_or, wI_get, false_and, true_and, and_true, and_false, and_self, Nat.reduceEqDiff, Nat.succ_ne_zero, reduceCtorEq, nI_lit, nI_lit0, Nat.reduceLT]; done)
def r_aside (J : ex_Mem) (m : Nat) : Nat → Int32
  | 0 => nI 0
  | t + 1 => if r_aside J m t = 0 then (if J 68 t = 0 then nI 0 else if r_isOf J m t = 0 then nI 0 else nI 1) else nI 1
def r_note1 (J : ex_Mem) (m t : Nat) : Int32 := if r_isOf J m t = 0 then J 80 t else if J 80 t < (if J 77 m = nI 4 then nI 2 else nI 1) then (if J 77 m = nI 4 then nI 2 else nI 1) else J 80 t
def r_note (J : ex_Mem) (m : Nat) : Nat → ex_Mem
  | 0 => J
  | t + 1 => ex_wI (r_note J m t) 80 t (r_note1 (r_note J m t) m t)
