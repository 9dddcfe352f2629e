def r_mx (a l : Int32) : Int32 := if l ≤ a then a else l
def r_wst (J : ex_Mem) (m ph p : Nat) : Int32 :=
  if p = 1 then r_mx (r_mx (r_mx (r_mx (nI 0) (r_load J 0 (m + 1))) (r_load J 1 (m + 1))) (r_load J 2 (m + 1))) (r_load J 3 (m + 1))
  else if p = 2 then r_mx (r_mx (nI 0) (r_load J ph (m + 1))) (r_load J (ph + 2) (m + 1))
  else r_mx (nI 0) (r_load J ph (m + 1))
def r_ph (J : ex_Mem) (m ph : Nat) : ex_Mem := ex_wI J 75 m (nI ph)
theorem ph_ph {J : ex_Mem} {m a b : Nat} : r_ph (r_ph J m a) m b = r_ph J m b := by
  funext x y
  show (if x = 75 ∧ y = m then nI b else if x = 75 ∧ y = m then nI a else J x y) = (if x = 75 ∧ y = m then nI b else J x y)
  split <;> rfl
theorem ph_fr {J : ex_Mem} {m ph a k : Nat} (h : a ≠ 75) : r_ph J m ph a k = J a k := wI_fr h
theorem vMsg_ph {J : ex_Mem} {m ph k : Nat} (h : vMsg J k) : vMsg (r_ph J m ph) k := vMsg_eq (ph_fr (by decide)) (ph_fr (by decide)) (ph_fr (by decide)) (ph_fr (by decide)) (ph_fr (by decide)) h
theorem vPer_eq {J J' : ex_Mem} {m : Nat} (e : J' 74 m = J 74 m) (h : vPer J m) : vPer J' m := by
  unfold vPer at *
  rw [tk_eq e, e]
  exact h
theorem vPer_ph {J : ex_Mem} {m ph k : Nat} (h : vPer J k) : vPer (r_ph J m ph) k := vPer_eq (ph_fr (by decide)) h
theorem r_worst_1_0 {L : Nat} {xs : Nat → Int32} {D n : Nat} {I J : ex_Mem} {m : Nat} (hm : m < 8) (hpm : J 74 m = nI 1) (hv : ∀ k, k ≤ m → vMsg J k) (hp : ∀ k, k ≤ m → vPer J k) : ri L xs (D + 2) 100 [.ref 52, .int (nI m), .int (nI 0)] (mkH n I J) (r_wst (r_ph J m 0) m 0 1) (mkH n I (r_ph J m 0)) := by
  show xx cb_G _ _ _ 100 0 [.ref 52, .int (nI m), .int (nI 0), ex_no, ex_no, ex_no] [] _ _
  refine xi_aload_n (pc' := 1) rfl rfl rfl ?_
  refine xr_getp (pc' := 4) rfl rfl (by decide) rfl rfl rfl ?_
  refine xi_iload_n (pc' := 5) rfl rfl rfl ?_
  refine xi_iload_n (pc' := 6) rfl rfl rfl ?_
  refine xr_iast (j := m) (pc' := 7) rfl rfl (by decide) (by first | rfl | (simp only [ix_add, ix_mul, ix_pred]; done) | (simp only [ix_add, ix_mul, ix_pred, *]; done)) (by omega) (by decide) rfl ?_
  refine xi_iconst (pc' := 8) rfl rfl ?_
  refine xi_istore_n (pc' := 9) rfl (st1_3 rfl) rfl ?_
  refine xi_iload_n (pc' := 10) rfl rfl rfl ?_
  refine xi_istore (pc' := 12) rfl (st1_4 rfl) rfl ?_
  refine xi_iload (pc' := 14) rfl rfl rfl ?_
  refine xi_iconst (pc' := 15) rfl rfl ?_
  refine xi_icmpf (pc' := 18) (tg := 56) rfl rfl (by decide) rfl ?_
  refine xi_aload_n (pc' := 19) rfl rfl rfl ?_
  refine xi_iload (pc' := 21) rfl rfl rfl ?_
  refine xi_iload_n (pc' := 22) rfl rfl rfl ?_
  refine xi_iconst (pc' := 23) rfl rfl ?_
  refine xi_iadd (pc' := 24) rfl rfl ?_
  refine xx_topi (y := nI (m + 1)) (ix_add m 1) ?_
  refine xx_callVi (pc' := 27) rfl rfl (by decide) rfl rfl (by show _ < 81 + 2 * _; omega) (Nat.le_of_ble_eq_true rfl) rfl rfl (r_loadOf_ok (f := 0) (nm := m + 1) (by decide) (by omega) (fun k hk => vMsg_ph (hv k (by omega))) (fun k hk => vPer_ph (hp k (by omega)))) ?_
  refine xi_istore (pc' := 29) rfl (st1_5 rfl) rfl ?_
  refine xi_iload (pc' := 31) rfl rfl rfl ?_
  refine xi_iload_n (pc' := 32) rfl rfl rfl ?_
  refine xx_icmp (pc' := 35) (tg := 40) rfl rfl rfl (fun q32 => ?_) (fun q32 => ?_)
  · refine xi_iload_n (pc' := 41) rfl rfl rfl ?_
    refine xi_istore_n (pc' := 42) rfl (st1_3 rfl) rfl ?_
    refine xi_iload (pc' := 44) rfl rfl rfl ?_
    refine xi_aload_n (pc' := 45) rfl rfl rfl ?_
    refine xr_getp (pc' := 48) rfl rfl (by decide) rfl rfl rfl ?_
    refine xi_iload_n (pc' := 49) rfl rfl rfl ?_
    refine xr_ialdv (v := nI (1)) (j := m) (pc' := 50) rfl rfl (by decide) (by first | rfl | (simp only [ix_add, ix_mul, ix_pred]; done) | (simp only [ix_add, ix_mul, ix_pred, *]; done)) (by omega) (by decide) ((ph_fr (by decide)).trans hpm) rfl ?_
    refine xi_iadd (pc' := 51) rfl rfl ?_
    refine xx_topi (y := nI 1) (by decide) ?_
    refine xi_istore (pc' := 53) rfl (st1_4 rfl) rfl ?_
    refine xi_goto (pc' := 12) rfl rfl ?_
    refine xi_iload (pc' := 14) rfl rfl rfl ?_
    refine xi_iconst (pc' := 15) rfl rfl ?_
    refine xi_icmpf (pc' := 18) (tg := 56) rfl rfl (by decide) rfl ?_
    refine xi_aload_n (pc' := 19) rfl rfl rfl ?_
    refine xi_iload (pc' := 21) rfl rfl rfl ?_
    refine xi_iload_n (pc' := 22) rfl rfl rfl ?_
    refine xi_iconst (pc' := 23) rfl rfl ?_
    refine xi_iadd (pc' := 24) rfl rfl ?_
    refine xx_topi (y := nI (m + 1)) (ix_add m 1) ?_
    refine xx_callVi (pc' := 27) rfl rfl (by decide) rfl rfl (by show _ < 81 + 2 * _; omega) (Nat.le_of_ble_eq_true rfl) rfl rfl (r_loadOf_ok (f := 1) (nm := m + 1) (by decide) (by omega) (fun k hk => vMsg_ph (hv k (by omega))) (fun k hk => vPer_ph (hp k (by omega)))) ?_
    refine xi_istore (pc' := 29) rfl (st1_5 rfl) rfl ?_
    refine xi_iload (pc' := 31) rfl rfl rfl ?_
    refine xi_iload_n (pc' := 32) rfl rfl rfl ?_
    refine xx_icmp (pc' := 35) (tg := 40) rfl rfl rfl (fun q32 => ?_) (fun q32 => ?_)
    · refine xi_iload_n (pc' := 41) rfl rfl rfl ?_
      refine xi_istore_n (pc' := 42) rfl (st1_3 rfl) rfl ?_
      refine xi_iload (pc' := 44) rfl rfl rfl ?_
      refine xi_aload_n (pc' := 45) rfl rfl rfl ?_
      refine xr_getp (pc' := 48) rfl rfl (by decide) rfl rfl rfl ?_
      refine xi_iload_n (pc' := 49) rfl rfl rfl ?_
      refine xr_ialdv (v := nI (1)) (j := m) (pc' := 50) rfl rfl (by decide) (by first | rfl | (simp only [ix_add, ix_mul, ix_pred]; done) | (simp only [ix_add, ix_mul, ix_pred, *]; done)) (by omega) (by decide) ((ph_fr (by decide)).trans hpm) rfl ?_
      refine xi_iadd (pc' := 51) rfl rfl ?_
      refine xx_topi (y := nI 2) (by decide) ?_
      refine xi_istore (pc' := 53) rfl (st1_4 rfl) rfl ?_
      refine xi_goto (pc' := 12) rfl rfl ?_
      refine xi_iload (pc' := 14) rfl rfl rfl ?_
      refine xi_iconst (pc' := 15) rfl rfl ?_
      refine xi_icmpf (pc' := 18) (tg := 56) rfl rfl (by decide) rfl ?_
      refine xi_aload_n (pc' := 19) rfl rfl rfl ?_
      refine xi_iload (pc' := 21) rfl rfl rfl ?_
      refine xi_iload_n (pc' := 22) rfl rfl rfl ?_
      refine xi_iconst (pc' := 23) rfl rfl ?_
      refine xi_iadd (pc' := 24) rfl rfl ?_
      refine xx_topi (y := nI (m + 1)) (ix_add m 1) ?_
      refine xx_callVi (pc' := 27) rfl rfl (by decide) rfl rfl (by show _ < 81 + 2 * _; omega) (Nat.le_of_ble_eq_true rfl) rfl rfl (r_loadOf_ok (f := 2) (nm := m + 1) (by decide) (by omega) (fun k hk => vMsg_ph (hv k (by omega))) (fun k hk => vPer_ph (hp k (by omega)))) ?_
      refine xi_istore (pc' := 29) rfl (st1_5 rfl) rfl ?_
      refine xi_iload (pc' := 31) rfl rfl rfl ?_
      refine xi_iload_n (pc' := 32) rfl rfl rfl ?_
      refine xx_icmp (pc' := 35) (tg := 40) rfl rfl rfl (fun q32 => ?_) (fun q32 => ?_)
      · refine xi_iload_n (pc' := 41) rfl rfl rfl ?_
        refine xi_istore_n (pc' := 42) rfl (st1_3 rfl) rfl ?_
        refine xi_iload (pc' := 44) rfl rfl rfl ?_
        refine xi_aload_n (pc' := 45) rfl rfl rfl ?_
        refine xr_getp (pc' := 48) rfl rfl (by decide) rfl rfl rfl ?_
        refine xi_iload_n (pc' := 49) rfl rfl rfl ?_
        refine xr_ialdv (v := nI (1)) (j := m) (pc' := 50) rfl rfl (by decide) (by first | rfl | (simp only [ix_add, ix_mul, ix_pred]; done) | (simp only [ix_add, ix_mul, ix_pred, *]; done)) (by omega) (by decide) ((ph_fr (by decide)).trans hpm) rfl ?_
        refine xi_iadd (pc' := 51) rfl rfl ?_
        refine xx_topi (y := nI 3) (by decide) ?_
        refine xi_istore (pc' := 53) rfl (st1_4 rfl) rfl ?_
        refine xi_goto (pc' := 12) rfl rfl ?_
        refine xi_iload (pc' := 14) rfl rfl rfl ?_
        refine xi_iconst (pc' := 15) rfl rfl ?_
        refine xi_icmpf (pc' := 18) (tg := 56) rfl rfl (by decide) rfl ?_
        refine xi_aload_n (pc' := 19) rfl rfl rfl ?_
        refine xi_iload (pc' := 21) rfl rfl rfl ?_
        refine xi_iload_n (pc' := 22) rfl rfl rfl ?_
        refine xi_iconst (pc' := 23) rfl rfl ?_
        refine xi_iadd (pc' := 24) rfl rfl ?_
        refine xx_topi (y := nI (m + 1)) (ix_add m 1) ?_
        refine xx_callVi (pc' := 27) rfl rfl (by decide) rfl rfl (by show _ < 81 + 2 * _; omega) (Nat.le_of_ble_eq_true rfl) rfl rfl (r_loadOf_ok (f := 3) (nm := m + 1) (by decide) (by omega) (fun k hk => vMsg_ph (hv k (by omega))) (fun k hk => vPer_ph (hp k (by omega)))) ?_
        refine xi_istore (pc' := 29) rfl (st1_5 rfl) rfl ?_
        refine xi_iload (pc' := 31) rfl rfl rfl ?_
        refine xi_iload_n (pc' := 32) rfl rfl rfl ?_
        refine xx_icmp (pc' := 35) (tg := 40) rfl rfl rfl (fun q32 => ?_) (fun q32 => ?_)
        · refine xi_iload_n (pc' := 41) rfl rfl rfl ?_
          refine xi_istore_n (pc' := 42) rfl (st1_3 rfl) rfl ?_
          refine xi_iload (pc' := 44) rfl rfl rfl ?_
          refine xi_aload_n (pc' := 45) rfl rfl rfl ?_
          refine xr_getp (pc' := 48) rfl rfl (by decide) rfl rfl rfl ?_
          refine xi_iload_n (pc' := 49) rfl rfl rfl ?_
          refine xr_ialdv (v := nI (1)) (j := m) (pc' := 50) rfl rfl (by decide) (by first | rfl | (simp only [ix_add, ix_mul, ix_pred]; done) | (simp only [ix_add, ix_mul, ix_pred, *]; done)) (by omega) (by decide) ((ph_fr (by decide)).trans hpm) rfl ?_
          refine xi_iadd (pc' := 51) rfl rfl ?_
          refine xx_topi (y := nI 4) (by decide) ?_
          refine xi_istore (pc' := 53) rfl (st1_4 rfl) rfl ?_
          refine xi_goto (pc' := 12) rfl rfl ?_
          refine xi_iload (pc' := 14) rfl rfl rfl ?_
          refine xi_iconst (pc' := 15) rfl rfl ?_
          refine xi_icmpt (pc' := 56) rfl rfl (by decide) ?_
          refine xi_iload_n (pc' := 57) rfl rfl rfl ?_
          refine xx_ireturn rfl rfl ?_
          refine ⟨congrArg (fun v => some (Value.int v)) ?_, rfl⟩
          simp only [ex_P] at *
          simp only [r_wst, r_mx, r_ph, *, ↓reduceIte, Nat.add_zero, or_true, true_or, not_true_eq_false, not_false_eq_true, or_false, false_or, wI_get, false_and, true_and, and_true, and_false, and_self, Nat.reduceEqDiff, Nat.succ_ne_zero, reduceCtorEq, nI_lit, nI_lit0, Nat.reduceLT]
        · refine xi_iload (pc' := 37) rfl rfl rfl ?_
          refine xi_goto (pc' := 41) rfl rfl ?_
          refine xi_istore_n (pc' := 42) rfl (st1_3 rfl) rfl ?_
          refine xi_iload (pc' := 44) rfl rfl rfl ?_
          refine xi_aload_n (pc' := 45) rfl rfl rfl ?_
          refine xr_getp (pc' := 48) rfl rfl (by decide) rfl rfl rfl ?_
          refine xi_iload_n (pc' := 49) rfl rfl rfl ?_
          refine xr_ialdv (v := nI (1)) (j := m) (pc' := 50) rfl rfl (by decide) (by first | rfl | (simp only [ix_add, ix_mul, ix_pred]; done) | (simp only [ix_add, ix_mul, ix_pred, *]; done)) (by omega) (by decide) ((ph_fr (by decide)).trans hpm) rfl ?_
          refine xi_iadd (pc' := 51) rfl rfl ?_
          refine xx_topi (y := nI 4) (by decide) ?_
          refine xi_istore (pc' := 53) rfl (st1_4 rfl) rfl ?_
          refine xi_goto (pc' := 12) rfl rfl ?_
          refine xi_iload (pc' := 14) rfl rfl rfl ?_
          refine xi_iconst (pc' := 15) rfl rfl ?_
          refine xi_icmpt (pc' := 56) rfl rfl (by decide) ?_
          refine xi_iload_n (pc' := 57) rfl rfl rfl ?_
          refine xx_ireturn rfl rfl ?_
          refine ⟨congrArg (fun v => some (Value.int v)) ?_, rfl⟩
          simp only [ex_P] at *
          simp only [r_wst, r_mx, r_ph, *, ↓reduceIte, Nat.add_zero, or_true, true_or, not_true_eq_false, not_false_eq_true, or_false, false_or, wI_get, false_and, true_and, and_true, and_false, and_self, Nat.reduceEqDiff, Nat.succ_ne_zero, reduceCtorEq, nI_lit, nI_lit0, Nat.reduceLT]
      · refine xi_iload (pc' := 37) rfl rfl rfl ?_
        refine xi_goto (pc' := 41) rfl rfl ?_
        refine xi_istore_n (pc' := 42) rfl (st1_3 rfl) rfl ?_
        refine xi_iload (pc' := 44) rfl rfl rfl ?_
        refine xi_aload_n (pc' := 45) rfl rfl rfl ?_
        refine xr_getp (pc' := 48) rfl rfl (by decide) rfl rfl rfl ?_
        refine xi_iload_n (pc' := 49) rfl rfl rfl ?_
        refine xr_ialdv (v := nI (1)) (j := m) (pc' := 50) rfl rfl (by decide) (by first | rfl | (simp only [ix_add, ix_mul, ix_pred]; done) | (simp only [ix_add, ix_mul, ix_pred, *]; done)) (by omega) (by decide) ((ph_fr (by decide)).trans hpm) rfl ?_
        refine xi_iadd (pc' := 51) rfl rfl ?_
        refine xx_topi (y := nI 3) (by decide) ?_
        refine xi_istore (pc' := 53) rfl (st1_4 rfl) rfl ?_
        refine xi_goto (pc' := 12) rfl rfl ?_
        refine xi_iload (pc' := 14) rfl rfl rfl ?_
        refine xi_iconst (pc' := 15) rfl rfl ?_
        refine xi_icmpf (pc' := 18) (tg := 56) rfl rfl (by decide) rfl ?_
        refine xi_aload_n (pc' := 19) rfl rfl rfl ?_
        refine xi_iload (pc' := 21) rfl rfl rfl ?_
        refine xi_iload_n (pc' := 22) rfl rfl rfl ?_
        refine xi_iconst (pc' := 23) rfl rfl ?_
        refine xi_iadd (pc' := 24) rfl rfl ?_
        refine xx_topi (y := nI (m + 1)) (ix_add m 1) ?_
        refine xx_callVi (pc' := 27) rfl rfl (by decide) rfl rfl (by show _ < 81 + 2 * _; omega) (Nat.le_of_ble_eq_true rfl) rfl rfl (r_loadOf_ok (f := 3) (nm := m + 1) (by decide) (by omega) (fun k hk => vMsg_ph (hv k (by omega))) (fun k hk => vPer_ph (hp k (by omega)))) ?_
        refine xi_istore (pc' := 29) rfl (st1_5 rfl) rfl ?_
        refine xi_iload (pc' := 31) rfl rfl rfl ?_
        refine xi_iload_n (pc' := 32) rfl rfl rfl ?_
        refine xx_icmp (pc' := 35) (tg := 40) rfl rfl rfl (fun q32 => ?_) (fun q32 => ?_)
        · refine xi_iload_n (pc' := 41) rfl rfl rfl ?_
          refine xi_istore_n (pc' := 42) rfl (st1_3 rfl) rfl ?_
          refine xi_iload (pc' := 44) rfl rfl rfl ?_
          refine xi_aload_n (pc' := 45) rfl rfl rfl ?_
          refine xr_getp (pc' := 48) rfl rfl (by decide) rfl rfl rfl ?_
          refine xi_iload_n (pc' := 49) rfl rfl rfl ?_
          refine xr_ialdv (v := nI (1)) (j := m) (pc' := 50) rfl rfl (by decide) (by first | rfl | (simp only [ix_add, ix_mul, ix_pred]; done) | (simp only [ix_add, ix_mul, ix_pred, *]; done)) (by omega) (by decide) ((ph_fr (by decide)).trans hpm) rfl ?_
          refine xi_iadd (pc' := 51) rfl rfl ?_
          refine xx_topi (y := nI 4) (by decide) ?_
          refine xi_istore (pc' := 53) rfl (st1_4 rfl) rfl ?_
          refine xi_goto (pc' := 12) rfl rfl ?_
          refine xi_iload (pc' := 14) rfl rfl rfl ?_
          refine xi_iconst (pc' := 15) rfl rfl ?_
          refine xi_icmpt (pc' := 56) rfl rfl (by decide) ?_
          refine xi_iload_n (pc' := 57) rfl rfl rfl ?_
          refine xx_ireturn rfl rfl ?_
          refine ⟨congrArg (fun v => some (Value.int v)) ?_, rfl⟩
          simp only [ex_P] at *
          simp only [r_wst, r_mx, r_ph, *, ↓reduceIte, Nat.add_zero, or_true, true_or, not_true_eq_false, not_false_eq_true, or_false, false_or, wI_get, false_and, true_and, and_true, and_false, and_self, Nat.reduceEqDiff, Nat.succ_ne_zero, reduceCtorEq, nI_lit, nI_lit0, Nat.reduceLT]
        · refine xi_iload (pc' := 37) rfl rfl rfl ?_
          refine xi_goto (pc' := 41) rfl rfl ?_
          refine xi_istore_n (pc' := 42) rfl (st1_3 rfl) rfl ?_
          refine xi_iload (pc' := 44) rfl rfl rfl ?_
          refine xi_aload_n (pc' := 45) rfl rfl rfl ?_
          refine xr_getp (pc' := 48) rfl rfl (by decide) rfl rfl rfl ?_
          refine xi_iload_n (pc' := 49) rfl rfl rfl ?_
          refine xr_ialdv (v := nI (1)) (j := m) (pc' := 50) rfl rfl (by decide) (by first | rfl | (simp only [ix_add, ix_mul, ix_pred]; done) | (simp only [ix_add, ix_mul, ix_pred, *]; done)) (by omega) (by decide) ((ph_fr (by decide)).trans hpm) rfl ?_
          refine xi_iadd (pc' := 51) rfl rfl ?_
          refine xx_topi (y := nI 4) (by decide) ?_
          refine xi_istore (pc' := 53) rfl (st1_4 rfl) rfl ?_
          refine xi_goto (pc' := 12) rfl rfl ?_
          refine xi_iload (pc' := 14) rfl rfl rfl ?_
          refine xi_iconst (pc' := 15) rfl rfl ?_
          refine xi_icmpt (pc' := 56) rfl rfl (by decide) ?_
          refine xi_iload_n (pc' := 57) rfl rfl rfl ?_
          refine xx_ireturn rfl rfl ?_
          refine ⟨congrArg (fun v => some (Value.int v)) ?_, rfl⟩
          simp only [ex_P] at *
          simp only [r_wst, r_mx, r_ph, *, ↓reduceIte, Nat.add_zero, or_true, true_or, not_true_eq_false, not_false_eq_true, or_false, false_or, wI_get, false_and, true_and, and_true, and_false, and_self, Nat.reduceEqDiff, Nat.succ_ne_zero, reduceCtorEq, nI_lit, nI_lit0, Nat.reduceLT]
    · refine xi_iload (pc' := 37) rfl rfl rfl ?_
      refine xi_goto (pc' := 41) rfl rfl ?_
      refine xi_istore_n (pc' := 42) rfl (st1_3 rfl) rfl ?_
      refine xi_iload (pc' := 44) rfl rfl rfl ?_
      refine xi_aload_n (pc' := 45) rfl rfl rfl ?_
      refine xr_getp (pc' := 48) rfl rfl (by decide) rfl rfl rfl ?_
      refine xi_iload_n (pc' := 49) rfl rfl rfl ?_
      refine xr_ialdv (v := nI (1)) (j := m) (pc' := 50) rfl rfl (by decide) (by first | rfl | (simp only [ix_add, ix_mul, ix_pred]; done) | (simp only [ix_add, ix_mul, ix_pred, *]; done)) (by omega) (by decide) ((ph_fr (by decide)).trans hpm) rfl ?_
      refine xi_iadd (pc' := 51) rfl rfl ?_
      refine xx_topi (y := nI 2) (by decide) ?_
      refine xi_istore (pc' := 53) rfl (st1_4 rfl) rfl ?_
      refine xi_goto (pc' := 12) rfl rfl ?_
      refine xi_iload (pc' := 14) rfl rfl rfl ?_
      refine xi_iconst (pc' := 15) rfl rfl ?_
      refine xi_icmpf (pc' := 18) (tg := 56) rfl rfl (by decide) rfl ?_
      refine xi_aload_n (pc' := 19) rfl rfl rfl ?_
      refine xi_iload (pc' := 21) rfl rfl rfl ?_
      refine xi_iload_n (pc' := 22) rfl rfl rfl ?_
      refine xi_iconst (pc' := 23) rfl rfl ?_
      refine xi_iadd (pc' := 24) rfl rfl ?_
      refine xx_topi (y := nI (m + 1)) (ix_add m 1) ?_
      refine xx_callVi (pc' := 27) rfl rfl (by decide) rfl rfl (by show _ < 81 + 2 * _; omega) (Nat.le_of_ble_eq_true rfl) rfl rfl (r_loadOf_ok (f := 2) (nm := m + 1) (by decide) (by omega) (fun k hk => vMsg_ph (hv k (by omega))) (fun k hk => vPer_ph (hp k (by omega)))) ?_
      refine xi_istore (pc' := 29) rfl (st1_5 rfl) rfl ?_
      refine xi_iload (pc' := 31) rfl rfl rfl ?_
      refine xi_iload_n (pc' := 32) rfl rfl rfl ?_
      refine xx_icmp (pc' := 35) (tg := 40) rfl rfl rfl (fun q32 => ?_) (fun q32 => ?_)
      · refine xi_iload_n (pc' := 41) rfl rfl rfl ?_
        refine xi_istore_n (pc' := 42) rfl (st1_3 rfl) rfl ?_
        refine xi_iload (pc' := 44) rfl rfl rfl ?_
        refine xi_aload_n (pc' := 45) rfl rfl rfl ?_
        refine xr_getp (pc' := 48) rfl rfl (by decide) rfl rfl rfl ?_
        refine xi_iload_n (pc' := 49) rfl rfl rfl ?_
        refine xr_ialdv (v := nI (1)) (j := m) (pc' := 50) rfl rfl (by decide) (by first | rfl | (simp only [ix_add, ix_mul, ix_pred]; done) | (simp only [ix_add, ix_mul, ix_pred, *]; done)) (by omega) (by decide) ((ph_fr (by decide)).trans hpm) rfl ?_
        refine xi_iadd (pc' := 51) rfl rfl ?_
        refine xx_topi (y := nI 3) (by decide) ?_
        refine xi_istore (pc' := 53) rfl (st1_4 rfl) rfl ?_
        refine xi_goto (pc' := 12) rfl rfl ?_
        refine xi_iload (pc' := 14) rfl rfl rfl ?_
        refine xi_iconst (pc' := 15) rfl rfl ?_
        refine xi_icmpf (pc' := 18) (tg := 56) rfl rfl (by decide) rfl ?_
        refine xi_aload_n (pc' := 19) rfl rfl rfl ?_
        refine xi_iload (pc' := 21) rfl rfl rfl ?_
        refine xi_iload_n (pc' := 22) rfl rfl rfl ?_
        refine xi_iconst (pc' := 23) rfl rfl ?_
        refine xi_iadd (pc' := 24) rfl rfl ?_
        refine xx_topi (y := nI (m + 1)) (ix_add m 1) ?_
        refine xx_callVi (pc' := 27) rfl rfl (by decide) rfl rfl (by show _ < 81 + 2 * _; omega) (Nat.le_of_ble_eq_true rfl) rfl rfl (r_loadOf_ok (f := 3) (nm := m + 1) (by decide) (by omega) (fun k hk => vMsg_ph (hv k (by omega))) (fun k hk => vPer_ph (hp k (by omega)))) ?_
        refine xi_istore (pc' := 29) rfl (st1_5 rfl) rfl ?_
        refine xi_iload (pc' := 31) rfl rfl rfl ?_
        refine xi_iload_n (pc' := 32) rfl rfl rfl ?_
        refine xx_icmp (pc' := 35) (tg := 40) rfl rfl rfl (fun q32 => ?_) (fun q32 => ?_)
        · refine xi_iload_n (pc' := 41) rfl rfl rfl ?_
          refine xi_istore_n (pc' := 42) rfl (st1_3 rfl) rfl ?_
          refine xi_iload (pc' := 44) rfl rfl rfl ?_
          refine xi_aload_n (pc' := 45) rfl rfl rfl ?_
          refine xr_getp (pc' := 48) rfl rfl (by decide) rfl rfl rfl ?_
          refine xi_iload_n (pc' := 49) rfl rfl rfl ?_
          refine xr_ialdv (v := nI (1)) (j := m) (pc' := 50) rfl rfl (by decide) (by first | rfl | (simp only [ix_add, ix_mul, ix_pred]; done) | (simp only [ix_add, ix_mul, ix_pred, *]; done)) (by omega) (by decide) ((ph_fr (by decide)).trans hpm) rfl ?_
          refine xi_iadd (pc' := 51) rfl rfl ?_
          refine xx_topi (y := nI 4) (by decide) ?_
          refine xi_istore (pc' := 53) rfl (st1_4 rfl) rfl ?_
          refine xi_goto (pc' := 12) rfl rfl ?_
          refine xi_iload (pc' := 14) rfl rfl rfl ?_
          refine xi_iconst (pc' := 15) rfl rfl ?_
          refine xi_icmpt (pc' := 56) rfl rfl (by decide) ?_
          refine xi_iload_n (pc' := 57) rfl rfl rfl ?_
          refine xx_ireturn rfl rfl ?_
          refine ⟨congrArg (fun v => some (Value.int v)) ?_, rfl⟩
          simp only [ex_P] at *
          simp only [r_wst, r_mx, r_ph, *, ↓reduceIte, Nat.add_zero, or_true, true_or, not_true_eq_false, not_false_eq_true, or_false, false_or, wI_get, false_and, true_and, and_true, and_false, and_self, Nat.reduceEqDiff, Nat.succ_ne_zero, reduceCtorEq, nI_lit, nI_lit0, Nat.reduceLT]
        · refine xi_iload (pc' := 37) rfl rfl rfl ?_
          refine xi_goto (pc' := 41) rfl rfl ?_
          refine xi_istore_n (pc' := 42) rfl (st1_3 rfl) rfl ?_
          refine xi_iload (pc' := 44) rfl rfl rfl ?_
          refine xi_aload_n (pc' := 45) rfl rfl rfl ?_
          refine xr_getp (pc' := 48) rfl rfl (by decide) rfl rfl rfl ?_
          refine xi_iload_n (pc' := 49) rfl rfl rfl ?_
          refine xr_ialdv (v := nI (1)) (j := m) (pc' := 50) rfl rfl (by decide) (by first | rfl | (simp only [ix_add, ix_mul, ix_pred]; done) | (simp only [ix_add, ix_mul, ix_pred, *]; done)) (by omega) (by decide) ((ph_fr (by decide)).trans hpm) rfl ?_
          refine xi_iadd (pc' := 51) rfl rfl ?_
          refine xx_topi (y := nI 4) (by decide) ?_
          refine xi_istore (pc' := 53) rfl (st1_4 rfl) rfl ?_
          refine xi_goto (pc' := 12) rfl rfl ?_
          refine xi_iload (pc' := 14) rfl rfl rfl ?_
          refine xi_iconst (pc' := 15) rfl rfl ?_
          refine xi_icmpt (pc' := 56) rfl rfl (by decide) ?_
          refine xi_iload_n (pc' := 57) rfl rfl rfl ?_
          refine xx_ireturn rfl rfl ?_
          refine ⟨congrArg (fun v => some (Value.int v)) ?_, rfl⟩
          simp only [ex_P] at *
          simp only [r_wst, r_mx, r_ph, *, ↓reduceIte, Nat.add_zero, or_true, true_or, not_true_eq_false, not_false_eq_true, or_false, false_or, wI_get, false_and, true_and, and_true, and_false, and_self, Nat.reduceEqDiff, Nat.succ_ne_zero, reduceCtorEq, nI_lit, nI_lit0, Nat.reduceLT]
      · refine xi_iload (pc' := 37) rfl rfl rfl ?_
        refine xi_goto (pc' := 41) rfl rfl ?_
        refine xi_istore_n (pc' := 42) rfl (st1_3 rfl) rfl ?_
        refine xi_iload (pc' := 44) rfl rfl rfl ?_
        refine xi_aload_n (pc' := 45) rfl rfl rfl ?_
        refine xr_getp (pc' := 48) rfl rfl (by decide) rfl rfl rfl ?_
        refine xi_iload_n (pc' := 49) rfl rfl rfl ?_
        refine xr_ialdv (v := nI (1)) (j := m) (pc' := 50) rfl rfl (by decide) (by first | rfl | (simp only [ix_add, ix_mul, ix_pred]; done) | (simp only [ix_add, ix_mul, ix_pred, *]; done)) (by omega) (by decide) ((ph_fr (by decide)).trans hpm) rfl ?_
        refine xi_iadd (pc' := 51) rfl rfl ?_
        refine xx_topi (y := nI 3) (by decide) ?_
        refine xi_istore (pc' := 53) rfl (st1_4 rfl) rfl ?_
        refine xi_goto (pc' := 12) rfl rfl ?_
        refine xi_iload (pc' := 14) rfl rfl rfl ?_
        refine xi_iconst (pc' := 15) rfl rfl ?_
        refine xi_icmpf (pc' := 18) (tg := 56) rfl rfl (by decide) rfl ?_
        refine xi_aload_n (pc' := 19) rfl rfl rfl ?_
        refine xi_iload (pc' := 21) rfl rfl rfl ?_
        refine xi_iload_n (pc' := 22) rfl rfl rfl ?_
        refine xi_iconst (pc' := 23) rfl rfl ?_
        refine xi_iadd (pc' := 24) rfl rfl ?_
        refine xx_topi (y := nI (m + 1)) (ix_add m 1) ?_
        refine xx_callVi (pc' := 27) rfl rfl (by decide) rfl rfl (by show _ < 81 + 2 * _; omega) (Nat.le_of_ble_eq_true rfl) rfl rfl (r_loadOf_ok (f := 3) (nm := m + 1) (by decide) (by omega) (fun k hk => vMsg_ph (hv k (by omega))) (fun k hk => vPer_ph (hp k (by omega)))) ?_
        refine xi_istore (pc' := 29) rfl (st1_5 rfl) rfl ?_
        refine xi_iload (pc' := 31) rfl rfl rfl ?_
        refine xi_iload_n (pc' := 32) rfl rfl rfl ?_
        refine xx_icmp (pc' := 35) (tg := 40) rfl rfl rfl (fun q32 => ?_) (fun q32 => ?_)
        · refine xi_iload_n (pc' := 41) rfl rfl rfl ?_
          refine xi_istore_n (pc' := 42) rfl (st1_3 rfl) rfl ?_
          refine xi_iload (pc' := 44) rfl rfl rfl ?_
          refine xi_aload_n (pc' := 45) rfl rfl rfl ?_
          refine xr_getp (pc' := 48) rfl rfl (by decide) rfl rfl rfl ?_
          refine xi_iload_n (pc' := 49) rfl rfl rfl ?_
          refine xr_ialdv (v := nI (1)) (j := m) (pc' := 50) rfl rfl (by decide) (by first | rfl | (simp only [ix_add, ix_mul, ix_pred]; done) | (simp only [ix_add, ix_mul, ix_pred, *]; done)) (by omega) (by decide) ((ph_fr (by decide)).trans hpm) rfl ?_
          refine xi_iadd (pc' := 51) rfl rfl ?_
          refine xx_topi (y := nI 4) (by decide) ?_
          refine xi_istore (pc' := 53) rfl (st1_4 rfl) rfl ?_
          refine xi_goto (pc' := 12) rfl rfl ?_
          refine xi_iload (pc' := 14) rfl rfl rfl ?_
          refine xi_iconst (pc' := 15) rfl rfl ?_
          refine xi_icmpt (pc' := 56) rfl rfl (by decide) ?_
          refine xi_iload_n (pc' := 57) rfl rfl rfl ?_
          refine xx_ireturn rfl rfl ?_
          refine ⟨congrArg (fun v => some (Value.int v)) ?_, rfl⟩
          simp only [ex_P] at *
          simp only [r_wst, r_mx, r_ph, *, ↓reduceIte, Nat.add_zero, or_true, true_or, not_true_eq_false, not_false_eq_true, or_false, false_or, wI_get, false_and, true_and, and_true, and_false, and_self, Nat.reduceEqDiff, Nat.succ_ne_zero, reduceCtorEq, nI_lit, nI_lit0, Nat.reduceLT]
        · refine xi_iload (pc' := 37) rfl rfl rfl ?_
          refine xi_goto (pc' := 41) rfl rfl ?_
          refine xi_istore_n (pc' := 42) rfl (st1_3 rfl) rfl ?_
          refine xi_iload (pc' := 44) rfl rfl rfl ?_
          refine xi_aload_n (pc' := 45) rfl rfl rfl ?_
          refine xr_getp (pc' := 48) rfl rfl (by decide) rfl rfl rfl ?_
          refine xi_iload_n (pc' := 49) rfl rfl rfl ?_
          refine xr_ialdv (v := nI (1)) (j := m) (pc' := 50) rfl rfl (by decide) (by first | rfl | (simp only [ix_add, ix_mul, ix_pred]; done) | (simp only [ix_add, ix_mul, ix_pred, *]; done)) (by omega) (by decide) ((ph_fr (by decide)).trans hpm) rfl ?_
          refine xi_iadd (pc' := 51) rfl rfl ?_
          refine xx_topi (y := nI 4) (by decide) ?_
          refine xi_istore (pc' := 53) rfl (st1_4 rfl) rfl ?_
          refine xi_goto (pc' := 12) rfl rfl ?_
          refine xi_iload (pc' := 14) rfl rfl rfl ?_
          refine xi_iconst (pc' := 15) rfl rfl ?_
          refine xi_icmpt (pc' := 56) rfl rfl (by decide) ?_
          refine xi_iload_n (pc' := 57) rfl rfl rfl ?_
          refine xx_ireturn rfl rfl ?_
          refine ⟨congrArg (fun v => some (Value.int v)) ?_, rfl⟩
          simp only [ex_P] at *
          simp only [r_wst, r_mx, r_ph, *, ↓reduceIte, Nat.add_zero, or_true, true_or, not_true_eq_false, not_false_eq_true, or_false, false_or, wI_get, false_and, true_and, and_true, and_false, and_self, Nat.reduceEqDiff, Nat.succ_ne_zero, reduceCtorEq, nI_lit, nI_lit0, Nat.reduceLT]
  · refine xi_iload (pc' := 37) rfl rfl rfl ?_
    refine xi_goto (pc' := 41) rfl rfl ?_
    refine xi_istore_n (pc' := 42) rfl (st1_3 rfl) rfl ?_
    refine xi_iload (pc' := 44) rfl rfl rfl ?_
    refine xi_aload_n (pc' := 45) rfl rfl rfl ?_
    refine xr_getp (pc' := 48) rfl rfl (by decide) rfl rfl rfl ?_
    refine xi_iload_n (pc' := 49) rfl rfl rfl ?_
    refine xr_ialdv (v := nI (1)) (j := m) (pc' := 50) rfl rfl (by decide) (by first | rfl | (simp only [ix_add, ix_mul, ix_pred]; done) | (simp only [ix_add, ix_mul, ix_pred, *]; done)) (by omega) (by decide) ((ph_fr (by decide)).trans hpm) rfl ?_
    refine xi_iadd (pc' := 51) rfl rfl ?_
    refine xx_topi (y := nI 1) (by decide) ?_
    refine xi_istore (pc' := 53) rfl (st1_4 rfl) rfl ?_
    refine xi_goto (pc' := 12) rfl rfl ?_
    refine xi_iload (pc' := 14) rfl rfl rfl ?_
    refine xi_iconst (pc' := 15) rfl rfl ?_
    refine xi_icmpf (pc' := 18) (tg := 56) rfl rfl (by decide) rfl ?_
    refine xi_aload_n (pc' := 19) rfl rfl rfl ?_
    refine xi_iload (pc' := 21) rfl rfl rfl ?_
    refine xi_iload_n (pc' := 22) rfl rfl rfl ?_
    refine xi_iconst (pc' := 23) rfl rfl ?_
    refine xi_iadd (pc' := 24) rfl rfl ?_
    refine xx_topi (y := nI (m + 1)) (ix_add m 1) ?_
    refine xx_callVi (pc' := 27) rfl rfl (by decide) rfl rfl (by show _ < 81 + 2 * _; omega) (Nat.le_of_ble_eq_true rfl) rfl rfl (r_loadOf_ok (f := 1) (nm := m + 1) (by decide) (by omega) (fun k hk => vMsg_ph (hv k (by omega))) (fun k hk => vPer_ph (hp k (by omega)))) ?_
    refine xi_istore (pc' := 29) rfl (st1_5 rfl) rfl ?_
    refine xi_iload (pc' := 31) rfl rfl rfl ?_
    refine xi_iload_n (pc' := 32) rfl rfl rfl ?_
    refine xx_icmp (pc' := 35) (tg := 40) rfl rfl rfl (fun q32 => ?_) (fun q32 => ?_)
    · refine xi_iload_n (pc' := 41) rfl rfl rfl ?_
      refine xi_istore_n (pc' := 42) rfl (st1_3 rfl) rfl ?_
      refine xi_iload (pc' := 44) rfl rfl rfl ?_
      refine xi_aload_n (pc' := 45) rfl rfl rfl ?_
      refine xr_getp (pc' := 48) rfl rfl (by decide) rfl rfl rfl ?_
      refine xi_iload_n (pc' := 49) rfl rfl rfl ?_
      refine xr_ialdv (v := nI (1)) (j := m) (pc' := 50) rfl rfl (by decide) (by first | rfl | (simp only [ix_add, ix_mul, ix_pred]; done) | (simp only [ix_add, ix_mul, ix_pred, *]; done)) (by omega) (by decide) ((ph_fr (by decide)).trans hpm) rfl ?_
      refine xi_iadd (pc' := 51) rfl rfl ?_
      refine xx_topi (y := nI 2) (by decide) ?_
      refine xi_istore (pc' := 53) rfl (st1_4 rfl) rfl ?_
      refine xi_goto (pc' := 12) rfl rfl ?_
      refine xi_iload (pc' := 14) rfl rfl rfl ?_
      refine xi_iconst (pc' := 15) rfl rfl ?_
      refine xi_icmpf (pc' := 18) (tg := 56) rfl rfl (by decide) rfl ?_
      refine xi_aload_n (pc' := 19) rfl rfl rfl ?_
      refine xi_iload (pc' := 21) rfl rfl rfl ?_
      refine xi_iload_n (pc' := 22) rfl rfl rfl ?_
      refine xi_iconst (pc' := 23) rfl rfl ?_
      refine xi_iadd (pc' := 24) rfl rfl ?_
      refine xx_topi (y := nI (m + 1)) (ix_add m 1) ?_
      refine xx_callVi (pc' := 27) rfl rfl (by decide) rfl rfl (by show _ < 81 + 2 * _; omega) (Nat.le_of_ble_eq_true rfl) rfl rfl (r_loadOf_ok (f := 2) (nm := m + 1) (by decide) (by omega) (fun k hk => vMsg_ph (hv k (by omega))) (fun k hk => vPer_ph (hp k (by omega)))) ?_
      refine xi_istore (pc' := 29) rfl (st1_5 rfl) rfl ?_
      refine xi_iload (pc' := 31) rfl rfl rfl ?_
      refine xi_iload_n (pc' := 32) rfl rfl rfl ?_
      refine xx_icmp (pc' := 35) (tg := 40) rfl rfl rfl (fun q32 => ?_) (fun q32 => ?_)
      · refine xi_iload_n (pc' := 41) rfl rfl rfl ?_
        refine xi_istore_n (pc' := 42) rfl (st1_3 rfl) rfl ?_
        refine xi_iload (pc' := 44) rfl rfl rfl ?_
        refine xi_aload_n (pc' := 45) rfl rfl rfl ?_
        refine xr_getp (pc' := 48) rfl rfl (by decide) rfl rfl rfl ?_
        refine xi_iload_n (pc' := 49) rfl rfl rfl ?_
        refine xr_ialdv (v := nI (1)) (j := m) (pc' := 50) rfl rfl (by decide) (by first | rfl | (simp only [ix_add, ix_mul, ix_pred]; done) | (simp only [ix_add, ix_mul, ix_pred, *]; done)) (by omega) (by decide) ((ph_fr (by decide)).trans hpm) rfl ?_
        refine xi_iadd (pc' := 51) rfl rfl ?_
        refine xx_topi (y := nI 3) (by decide) ?_
        refine xi_istore (pc' := 53) rfl (st1_4 rfl) rfl ?_
        refine xi_goto (pc' := 12) rfl rfl ?_
        refine xi_iload (pc' := 14) rfl rfl rfl ?_
        refine xi_iconst (pc' := 15) rfl rfl ?_
        refine xi_icmpf (pc' := 18) (tg := 56) rfl rfl (by decide) rfl ?_
        refine xi_aload_n (pc' := 19) rfl rfl rfl ?_
        refine xi_iload (pc' := 21) rfl rfl rfl ?_
        refine xi_iload_n (pc' := 22) rfl rfl rfl ?_
        refine xi_iconst (pc' := 23) rfl rfl ?_
        refine xi_iadd (pc' := 24) rfl rfl ?_
        refine xx_topi (y := nI (m + 1)) (ix_add m 1) ?_
        refine xx_callVi (pc' := 27) rfl rfl (by decide) rfl rfl (by show _ < 81 + 2 * _; omega) (Nat.le_of_ble_eq_true rfl) rfl rfl (r_loadOf_ok (f := 3) (nm := m + 1) (by decide) (by omega) (fun k hk => vMsg_ph (hv k (by omega))) (fun k hk => vPer_ph (hp k (by omega)))) ?_
        refine xi_istore (pc' := 29) rfl (st1_5 rfl) rfl ?_
        refine xi_iload (pc' := 31) rfl rfl rfl ?_
        refine xi_iload_n (pc' := 32) rfl rfl rfl ?_
        refine xx_icmp (pc' := 35) (tg := 40) rfl rfl rfl (fun q32 => ?_) (fun q32 => ?_)
        · refine xi_iload_n (pc' := 41) rfl rfl rfl ?_
          refine xi_istore_n (pc' := 42) rfl (st1_3 rfl) rfl ?_
          refine xi_iload (pc' := 44) rfl rfl rfl ?_
          refine xi_aload_n (pc' := 45) rfl rfl rfl ?_
          refine xr_getp (pc' := 48) rfl rfl (by decide) rfl rfl rfl ?_
          refine xi_iload_n (pc' := 49) rfl rfl rfl ?_
          refine xr_ialdv (v := nI (1)) (j := m) (pc' := 50) rfl rfl (by decide) (by first | rfl | (simp only [ix_add, ix_mul, ix_pred]; done) | (simp only [ix_add, ix_mul, ix_pred, *]; done)) (by omega) (by decide) ((ph_fr (by decide)).trans hpm) rfl ?_
          refine xi_iadd (pc' := 51) rfl rfl ?_
          refine xx_topi (y := nI 4) (by decide) ?_
          refine xi_istore (pc' := 53) rfl (st1_4 rfl) rfl ?_
          refine xi_goto (pc' := 12) rfl rfl ?_
          refine xi_iload (pc' := 14) rfl rfl rfl ?_
          refine xi_iconst (pc' := 15) rfl rfl ?_
          refine xi_icmpt (pc' := 56) rfl rfl (by decide) ?_
          refine xi_iload_n (pc' := 57) rfl rfl rfl ?_
          refine xx_ireturn rfl rfl ?_
          refine ⟨congrArg (fun v => some (Value.int v)) ?_, rfl⟩
          simp only [ex_P] at *
          simp only [r_wst, r_mx, r_ph, *, ↓reduceIte, Nat.add_zero, or_true, true_or, not_true_eq_false, not_false_eq_true, or_false, false_or, wI_get, false_and, true_and, and_true, and_false, and_self, Nat.reduceEqDiff, Nat.succ_ne_zero, reduceCtorEq, nI_lit, nI_lit0, Nat.reduceLT]
        · refine xi_iload (pc' := 37) rfl rfl rfl ?_
          refine xi_goto (pc' := 41) rfl rfl ?_
          refine xi_istore_n (pc' := 42) rfl (st1_3 rfl) rfl ?_
          refine xi_iload (pc' := 44) rfl rfl rfl ?_
          refine xi_aload_n (pc' := 45) rfl rfl rfl ?_
          refine xr_getp (pc' := 48) rfl rfl (by decide) rfl rfl rfl ?_
          refine xi_iload_n (pc' := 49) rfl rfl rfl ?_
          refine xr_ialdv (v := nI (1)) (j := m) (pc' := 50) rfl rfl (by decide) (by first | rfl | (simp only [ix_add, ix_mul, ix_pred]; done) | (simp only [ix_add, ix_mul, ix_pred, *]; done)) (by omega) (by decide) ((ph_fr (by decide)).trans hpm) rfl ?_
          refine xi_iadd (pc' := 51) rfl rfl ?_
          refine xx_topi (y := nI 4) (by decide) ?_
          refine xi_istore (pc' := 53) rfl (st1_4 rfl) rfl ?_
          refine xi_goto (pc' := 12) rfl rfl ?_
          refine xi_iload (pc' := 14) rfl rfl rfl ?_
          refine xi_iconst (pc' := 15) rfl rfl ?_
          refine xi_icmpt (pc' := 56) rfl rfl (by decide) ?_
          refine xi_iload_n (pc' := 57) rfl rfl rfl ?_
          refine xx_ireturn rfl rfl ?_
          refine ⟨congrArg (fun v => some (Value.int v)) ?_, rfl⟩
          simp only [ex_P] at *
          simp only [r_wst, r_mx, r_ph, *, ↓reduceIte, Nat.add_zero, or_true, true_or, not_true_eq_false, not_false_eq_true, or_false, false_or, wI_get, false_and, true_and, and_true, and_false, and_self, Nat.reduceEqDiff, Nat.succ_ne_zero, reduceCtorEq, nI_lit, nI_lit0, Nat.reduceLT]
      · refine xi_iload (pc' := 37) rfl rfl rfl ?_
        refine xi_goto (pc' := 41) rfl rfl ?_
        refine xi_istore_n (pc' := 42) rfl (st1_3 rfl) rfl ?_
        refine xi_iload (pc' := 44) rfl rfl rfl ?_
        refine xi_aload_n (pc' := 45) rfl rfl rfl ?_
        refine xr_getp (pc' := 48) rfl rfl (by decide) rfl rfl rfl ?_
        refine xi_iload_n (pc' := 49) rfl rfl rfl ?_
        refine xr_ialdv (v := nI (1)) (j := m) (pc' := 50) rfl rfl (by decide) (by first | rfl | (simp only [ix_add, ix_mul, ix_pred]; done) | (simp only [ix_add, ix_mul, ix_pred, *]; done)) (by omega) (by decide) ((ph_fr (by decide)).trans hpm) rfl ?_
        refine xi_iadd (pc' := 51) rfl rfl ?_
        refine xx_topi (y := nI 3) (by decide) ?_
        refine xi_istore (pc' := 53) rfl (st1_4 rfl) rfl ?_
        refine xi_goto (pc' := 12) rfl rfl ?_
        refine xi_iload (pc' := 14) rfl rfl rfl ?_
        refine xi_iconst (pc' := 15) rfl rfl ?_
        refine xi_icmpf (pc' := 18) (tg := 56) rfl rfl (by decide) rfl ?_
        refine xi_aload_n (pc' := 19) rfl rfl rfl ?_
        refine xi_iload (pc' := 21) rfl rfl rfl ?_
        refine xi_iload_n (pc' := 22) rfl rfl rfl ?_
        refine xi_iconst (pc' := 23) rfl rfl ?_
        refine xi_iadd (pc' := 24) rfl rfl ?_
        refine xx_topi (y := nI (m + 1)) (ix_add m 1) ?_
        refine xx_callVi (pc' := 27) rfl rfl (by decide) rfl rfl (by show _ < 81 + 2 * _; omega) (Nat.le_of_ble_eq_true rfl) rfl rfl (r_loadOf_ok (f := 3) (nm := m + 1) (by decide) (by omega) (fun k hk => vMsg_ph (hv k (by omega))) (fun k hk => vPer_ph (hp k (by omega)))) ?_
        refine xi_istore (pc' := 29) rfl (st1_5 rfl) rfl ?_
        refine xi_iload (pc' := 31) rfl rfl rfl ?_
        refine xi_iload_n (pc' := 32) rfl rfl rfl ?_
        refine xx_icmp (pc' := 35) (tg := 40) rfl rfl rfl (fun q32 => ?_) (fun q32 => ?_)
        · refine xi_iload_n (pc' := 41) rfl rfl rfl ?_
          refine xi_istore_n (pc' := 42) rfl (st1_3 rfl) rfl ?_
          refine xi_iload (pc' := 44) rfl rfl rfl ?_
          refine xi_aload_n (pc' := 45) rfl rfl rfl ?_
          refine xr_getp (pc' := 48) rfl rfl (by decide) rfl rfl rfl ?_
          refine xi_iload_n (pc' := 49) rfl rfl rfl ?_
          refine xr_ialdv (v := nI (1)) (j := m) (pc' := 50) rfl rfl (by decide) (by first | rfl | (simp only [ix_add, ix_mul, ix_pred]; done) | (simp only [ix_add, ix_mul, ix_pred, *]; done)) (by omega) (by decide) ((ph_fr (by decide)).trans hpm) rfl ?_
          refine xi_iadd (pc' := 51) rfl rfl ?_
          refine xx_topi (y := nI 4) (by decide) ?_
          refine xi_istore (pc' := 53) rfl (st1_4 rfl) rfl ?_
          refine xi_goto (pc' := 12) rfl rfl ?_
          refine xi_iload (pc' := 14) rfl rfl rfl ?_
          refine xi_iconst (pc' := 15) rfl rfl ?_
          refine xi_icmpt (pc' := 56) rfl rfl (by decide) ?_
          refine xi_iload_n (pc' := 57) rfl rfl rfl ?_
          refine xx_ireturn rfl rfl ?_
          refine ⟨congrArg (fun v => some (Value.int v)) ?_, rfl⟩
          simp only [ex_P] at *
          simp only [r_wst, r_mx, r_ph, *, ↓reduceIte, Nat.add_zero, or_true, true_or, not_true_eq_false, not_false_eq_true, or_false, false_or, wI_get, false_and, true_and, and_true, and_false, and_self, Nat.reduceEqDiff, Nat.succ_ne_zero, reduceCtorEq, nI_lit, nI_lit0, Nat.reduceLT]
        · refine xi_iload (pc' := 37) rfl rfl rfl ?_
          refine xi_goto (pc' := 41) rfl rfl ?_
          refine xi_istore_n (pc' := 42) rfl (st1_3 rfl) rfl ?_
          refine xi_iload (pc' := 44) rfl rfl rfl ?_
          refine xi_aload_n (pc' := 45) rfl rfl rfl ?_
          refine xr_getp (pc' := 48) rfl rfl (by decide) rfl rfl rfl ?_
          refine xi_iload_n (pc' := 49) rfl rfl rfl ?_
          refine xr_ialdv (v := nI (1)) (j := m) (pc' := 50) rfl rfl (by decide) (by first | rfl | (simp only [ix_add, ix_mul, ix_pred]; done) | (simp only [ix_add, ix_mul, ix_pred, *]; done)) (by omega) (by decide) ((ph_fr (by decide)).trans hpm) rfl ?_
          refine xi_iadd (pc' := 51) rfl rfl ?_
          refine xx_topi (y := nI 4) (by decide) ?_
          refine xi_istore (pc' := 53) rfl (st1_4 rfl) rfl ?_
          refine xi_goto (pc' := 12) rfl rfl ?_
          refine xi_iload (pc' := 14) rfl rfl rfl ?_
          refine xi_iconst (pc' := 15) rfl rfl ?_
          refine xi_icmpt (pc' := 56) rfl rfl (by decide) ?_
          refine xi_iload_n (pc' := 57) rfl rfl rfl ?_
          refine xx_ireturn rfl rfl ?_
          refine ⟨congrArg (fun v => some (Value.int v)) ?_, rfl⟩
          simp only [ex_P] at *
          simp only [r_wst, r_mx, r_ph, *, ↓reduceIte, Nat.add_zero, or_true, true_or, not_true_eq_false, not_false_eq_true, or_false, false_or, wI_get, false_and, true_and, and_true, and_false, and_self, Nat.reduceEqDiff, Nat.succ_ne_zero, reduceCtorEq, nI_lit, nI_lit0, Nat.reduceLT]
    · refine xi_iload (pc' := 37) rfl rfl rfl ?_
      refine xi_goto (pc' := 41) rfl rfl ?_
      refine xi_istore_n (pc' := 42) rfl (st1_3 rfl) rfl ?_
      refine xi_iload (pc' := 44) rfl rfl rfl ?_
      refine xi_aload_n (pc' := 45) rfl rfl rfl ?_
      refine xr_getp (pc' := 48) rfl rfl (by decide) rfl rfl rfl ?_
      refine xi_iload_n (pc' := 49) rfl rfl rfl ?_
      refine xr_ialdv (v := nI (1)) (j := m) (pc' := 50) rfl rfl (by decide) (by first | rfl | (simp only [ix_add, ix_mul, ix_pred]; done) | (simp only [ix_add, ix_mul, ix_pred, *]; done)) (by omega) (by decide) ((ph_fr (by decide)).trans hpm) rfl ?_
      refine xi_iadd (pc' := 51) rfl rfl ?_
      refine xx_topi (y := nI 2) (by decide) ?_
      refine xi_istore (pc' := 53) rfl (st1_4 rfl) rfl ?_
      refine xi_goto (pc' := 12) rfl rfl ?_
      refine xi_iload (pc' := 14) rfl rfl rfl ?_
      refine xi_iconst (pc' := 15) rfl rfl ?_
      refine xi_icmpf (pc' := 18) (tg := 56) rfl rfl (by decide) rfl ?_
      refine xi_aload_n (pc' := 19) rfl rfl rfl ?_
      refine xi_iload (pc' := 21) rfl rfl rfl ?_
      refine xi_iload_n (pc' := 22) rfl rfl rfl ?_
      refine xi_iconst (pc' := 23) rfl rfl ?_
      refine xi_iadd (pc' := 24) rfl rfl ?_
      refine xx_topi (y := nI (m + 1)) (ix_add m 1) ?_
      refine xx_callVi (pc' := 27) rfl rfl (by decide) rfl rfl (by show _ < 81 + 2 * _; omega) (Nat.le_of_ble_eq_true rfl) rfl rfl (r_loadOf_ok (f := 2) (nm := m + 1) (by decide) (by omega) (fun k hk => vMsg_ph (hv k (by omega))) (fun k hk => vPer_ph (hp k (by omega)))) ?_
      refine xi_istore (pc' := 29) rfl (st1_5 rfl) rfl ?_
      refine xi_iload (pc' := 31) rfl rfl rfl ?_
      refine xi_iload_n (pc' := 32) rfl rfl rfl ?_
      refine xx_icmp (pc' := 35) (tg := 40) rfl rfl rfl (fun q32 => ?_) (fun q32 => ?_)
      · refine xi_iload_n (pc' := 41) rfl rfl rfl ?_
        refine xi_istore_n (pc' := 42) rfl (st1_3 rfl) rfl ?_
        refine xi_iload (pc' := 44) rfl rfl rfl ?_
        refine xi_aload_n (pc' := 45) rfl rfl rfl ?_
        refine xr_getp (pc' := 48) rfl rfl (by decide) rfl rfl rfl ?_
        refine xi_iload_n (pc' := 49) rfl rfl rfl ?_
        refine xr_ialdv (v := nI (1)) (j := m) (pc' := 50) rfl rfl (by decide) (by first | rfl | (simp only [ix_add, ix_mul, ix_pred]; done) | (simp only [ix_add, ix_mul, ix_pred, *]; done)) (by omega) (by decide) ((ph_fr (by decide)).trans hpm) rfl ?_
        refine xi_iadd (pc' := 51) rfl rfl ?_
        refine xx_topi (y := nI 3) (by decide) ?_
        refine xi_istore (pc' := 53) rfl (st1_4 rfl) rfl ?_
        refine xi_goto (pc' := 12) rfl rfl ?_
        refine xi_iload (pc' := 14) rfl rfl rfl ?_
        refine xi_iconst (pc' := 15) rfl rfl ?_
        refine xi_icmpf (pc' := 18) (tg := 56) rfl rfl (by decide) rfl ?_
        refine xi_aload_n (pc' := 19) rfl rfl rfl ?_
        refine xi_iload (pc' := 21) rfl rfl rfl ?_
        refine xi_iload_n (pc' := 22) rfl rfl rfl ?_
        refine xi_iconst (pc' := 23) rfl rfl ?_
        refine xi_iadd (pc' := 24) rfl rfl ?_
        refine xx_topi (y := nI (m + 1)) (ix_add m 1) ?_
        refine xx_callVi (pc' := 27) rfl rfl (by decide) rfl rfl (by show _ < 81 + 2 * _; omega) (Nat.le_of_ble_eq_true rfl) rfl rfl (r_loadOf_ok (f := 3) (nm := m + 1) (by decide) (by omega) (fun k hk => vMsg_ph (hv k (by omega))) (fun k hk => vPer_ph (hp k (by omega)))) ?_
        refine xi_istore (pc' := 29) rfl (st1_5 rfl) rfl ?_
        refine xi_iload (pc' := 31) rfl rfl rfl ?_
        refine xi_iload_n (pc' := 32) rfl rfl rfl ?_
        refine xx_icmp (pc' := 35) (tg := 40) rfl rfl rfl (fun q32 => ?_) (fun q32 => ?_)
        · refine xi_iload_n (pc' := 41) rfl rfl rfl ?_
          refine xi_istore_n (pc' := 42) rfl (st1_3 rfl) rfl ?_
          refine xi_iload (pc' := 44) rfl rfl rfl ?_
          refine xi_aload_n (pc' := 45) rfl rfl rfl ?_
          refine xr_getp (pc' := 48) rfl rfl (by decide) rfl rfl rfl ?_
          refine xi_iload_n (pc' := 49) rfl rfl rfl ?_
          refine xr_ialdv (v := nI (1)) (j := m) (pc' := 50) rfl rfl (by decide) (by first | rfl | (simp only [ix_add, ix_mul, ix_pred]; done) | (simp only [ix_add, ix_mul, ix_pred, *]; done)) (by omega) (by decide) ((ph_fr (by decide)).trans hpm) rfl ?_
          refine xi_iadd (pc' := 51) rfl rfl ?_
          refine xx_topi (y := nI 4) (by decide) ?_
          refine xi_istore (pc' := 53) rfl (st1_4 rfl) rfl ?_
          refine xi_goto (pc' := 12) rfl rfl ?_
          refine xi_iload (pc' := 14) rfl rfl rfl ?_
          refine xi_iconst (pc' := 15) rfl rfl ?_
          refine xi_icmpt (pc' := 56) rfl rfl (by decide) ?_
          refine xi_iload_n (pc' := 57) rfl rfl rfl ?_
          refine xx_ireturn rfl rfl ?_
          refine ⟨congrArg (fun v => some (Value.int v)) ?_, rfl⟩
          simp only [ex_P] at *
          simp only [r_wst, r_mx, r_ph, *, ↓reduceIte, Nat.add_zero, or_true, true_or, not_true_eq_false, not_false_eq_true, or_false, false_or, wI_get, false_and, true_and, and_true, and_false, and_self, Nat.reduceEqDiff, Nat.succ_ne_zero, reduceCtorEq, nI_lit, nI_lit0, Nat.reduceLT]
        · refine xi_iload (pc' := 37) rfl rfl rfl ?_
          refine xi_goto (pc' := 41) rfl rfl ?_
          refine xi_istore_n (pc' := 42) rfl (st1_3 rfl) rfl ?_
          refine xi_iload (pc' := 44) rfl rfl rfl ?_
          refine xi_aload_n (pc' := 45) rfl rfl rfl ?_
          refine xr_getp (pc' := 48) rfl rfl (by decide) rfl rfl rfl ?_
          refine xi_iload_n (pc' := 49) rfl rfl rfl ?_
          refine xr_ialdv (v := nI (1)) (j := m) (pc' := 50) rfl rfl (by decide) (by first | rfl | (simp only [ix_add, ix_mul, ix_pred]; done) | (simp only [ix_add, ix_mul, ix_pred, *]; done)) (by omega) (by decide) ((ph_fr (by decide)).trans hpm) rfl ?_
          refine xi_iadd (pc' := 51) rfl rfl ?_
          refine xx_topi (y := nI 4) (by decide) ?_
          refine xi_istore (pc' := 53) rfl (st1_4 rfl) rfl ?_
          refine xi_goto (pc' := 12) rfl rfl ?_
          refine xi_iload (pc' := 14) rfl rfl rfl ?_
          refine xi_iconst (pc' := 15) rfl rfl ?_
          refine xi_icmpt (pc' := 56) rfl rfl (by decide) ?_
          refine xi_iload_n (pc' := 57) rfl rfl rfl ?_
          refine xx_ireturn rfl rfl ?_
          refine ⟨congrArg (fun v => some (Value.int v)) ?_, rfl⟩
          simp only [ex_P] at *
          simp only [r_wst, r_mx, r_ph, *, ↓reduceIte, Nat.add_zero, or_true, true_or, not_true_eq_false, not_false_eq_true, or_false, false_or, wI_get, false_and, true_and, and_true, and_false, and_self, Nat.reduceEqDiff, Nat.succ_ne_zero, reduceCtorEq, nI_lit, nI_lit0, Nat.reduceLT]
      · refine xi_iload (pc' := 37) rfl rfl rfl ?_
        refine xi_goto (pc' := 41) rfl rfl ?_
        refine xi_istore_n (pc' := 42) rfl (st1_3 rfl) rfl ?_
        refine xi_iload (pc' := 44) rfl rfl rfl ?_
        refine xi_aload_n (pc' := 45) rfl rfl rfl ?_
        refine xr_getp (pc' := 48) rfl rfl (by decide) rfl rfl rfl ?_
        refine xi_iload_n (pc' := 49) rfl rfl rfl ?_
        refine xr_ialdv (v := nI (1)) (j := m) (pc' := 50) rfl rfl (by decide) (by first | rfl | (simp only [ix_add, ix_mul, ix_pred]; done) | (simp only [ix_add, ix_mul, ix_pred, *]; done)) (by omega) (by decide) ((ph_fr (by decide)).trans hpm) rfl ?_
        refine xi_iadd (pc' := 51) rfl rfl ?_
        refine xx_topi (y := nI 3) (by decide) ?_
        refine xi_istore (pc' := 53) rfl (st1_4 rfl) rfl ?_
        refine xi_goto (pc' := 12) rfl rfl ?_
        refine xi_iload (pc' := 14) rfl rfl rfl ?_
        refine xi_iconst (pc' := 15) rfl rfl ?_
        refine xi_icmpf (pc' := 18) (tg := 56) rfl rfl (by decide) rfl ?_
        refine xi_aload_n (pc' := 19) rfl rfl rfl ?_
        refine xi_iload (pc' := 21) rfl rfl rfl ?_
        refine xi_iload_n (pc' := 22) rfl rfl rfl ?_
        refine xi_iconst (pc' := 23) rfl rfl ?_
        refine xi_iadd (pc' := 24) rfl rfl ?_
        refine xx_topi (y := nI (m + 1)) (ix_add m 1) ?_
        refine xx_callVi (pc' := 27) rfl rfl (by decide) rfl rfl (by show _ < 81 + 2 * _; omega) (Nat.le_of_ble_eq_true rfl) rfl rfl (r_loadOf_ok (f := 3) (nm := m + 1) (by decide) (by omega) (fun k hk => vMsg_ph (hv k (by omega))) (fun k hk => vPer_ph (hp k (by omega)))) ?_
        refine xi_istore (pc' := 29) rfl (st1_5 rfl) rfl ?_
        refine xi_iload (pc' := 31) rfl rfl rfl ?_
        refine xi_iload_n (pc' := 32) rfl rfl rfl ?_
        refine xx_icmp (pc' := 35) (tg := 40) rfl rfl rfl (fun q32 => ?_) (fun q32 => ?_)
        · refine xi_iload_n (pc' := 41) rfl rfl rfl ?_
          refine xi_istore_n (pc' := 42) rfl (st1_3 rfl) rfl ?_
          refine xi_iload (pc' := 44) rfl rfl rfl ?_
          refine xi_aload_n (pc' := 45) rfl rfl rfl ?_
          refine xr_getp (pc' := 48) rfl rfl (by decide) rfl rfl rfl ?_
          refine xi_iload_n (pc' := 49) rfl rfl rfl ?_
          refine xr_ialdv (v := nI (1)) (j := m) (pc' := 50) rfl rfl (by decide) (by first | rfl | (simp only [ix_add, ix_mul, ix_pred]; done) | (simp only [ix_add, ix_mul, ix_pred, *]; done)) (by omega) (by decide) ((ph_fr (by decide)).trans hpm) rfl ?_
          refine xi_iadd (pc' := 51) rfl rfl ?_
          refine xx_topi (y := nI 4) (by decide) ?_
          refine xi_istore (pc' := 53) rfl (st1_4 rfl) rfl ?_
          refine xi_goto (pc' := 12) rfl rfl ?_
          refine xi_iload (pc' := 14) rfl rfl rfl ?_
          refine xi_iconst (pc' := 15) rfl rfl ?_
          refine xi_icmpt (pc' := 56) rfl rfl (by decide) ?_
          refine xi_iload_n (pc' := 57) rfl rfl rfl ?_
          refine xx_ireturn rfl rfl ?_
          refine ⟨congrArg (fun v => some (Value.int v)) ?_, rfl⟩
          simp only [ex_P] at *
          simp only [r_wst, r_mx, r_ph, *, ↓reduceIte, Nat.add_zero, or_true, true_or, not_true_eq_false, not_false_eq_true, or_false, false_or, wI_get, false_and, true_and, and_true, and_false, and_self, Nat.reduceEqDiff, Nat.succ_ne_zero, reduceCtorEq, nI_lit, nI_lit0, Nat.reduceLT]
        · refine xi_iload (pc' := 37) rfl rfl rfl ?_
          refine xi_goto (pc' := 41) rfl rfl ?_
          refine xi_istore_n (pc' := 42) rfl (st1_3 rfl) rfl ?_
          refine xi_iload (pc' := 44) rfl rfl rfl ?_
          refine xi_aload_n (pc' := 45) rfl rfl rfl ?_
          refine xr_getp (pc' := 48) rfl rfl (by decide) rfl rfl rfl ?_
          refine xi_iload_n (pc' := 49) rfl rfl rfl ?_
          refine xr_ialdv (v := nI (1)) (j := m) (pc' := 50) rfl rfl (by decide) (by first | rfl | (simp only [ix_add, ix_mul, ix_pred]; done) | (simp only [ix_add, ix_mul, ix_pred, *]; done)) (by omega) (by decide) ((ph_fr (by decide)).trans hpm) rfl ?_
          refine xi_iadd (pc' := 51) rfl rfl ?_
          refine xx_topi (y := nI 4) (by decide) ?_
          refine xi_istore (pc' := 53) rfl (st1_4 rfl) rfl ?_
          refine xi_goto (pc' := 12) rfl rfl ?_
          refine xi_iload (pc' := 14) rfl rfl rfl ?_
          refine xi_iconst (pc' := 15) rfl rfl ?_
          refine xi_icmpt (pc' := 56) rfl rfl (by decide) ?_
          refine xi_iload_n (pc' := 57) rfl rfl rfl ?_
          refine xx_ireturn rfl rfl ?_
          refine ⟨congrArg (fun v => some (Value.int v)) ?_, rfl⟩
          simp only [ex_P] at *
          simp only [r_wst, r_mx, r_ph, *, ↓reduceIte, Nat.add_zero, or_true, true_or, not_true_eq_false, not_false_eq_true, or_false, false_or, wI_get, false_and, true_and, and_true, and_false, and_self, Nat.reduceEqDiff, Nat.succ_ne_zero, reduceCtorEq, nI_lit, nI_lit0, Nat.reduceLT]
theorem r_worst_2_0 {L : Nat} {xs : Nat → Int32} {D n : Nat} {I J : ex_Mem} {m : Nat} (hm : m < 8) (hpm : J 74 m = nI 2) (hv : ∀ k, k ≤ m → vMsg J k) (hp : ∀ k, k ≤ m → vPer J k) : ri L xs (D + 2) 100 [.ref 52, .int (nI m), .int (nI 0)] (mkH n I J) (r_wst (r_ph J m 0) m 0 2) (mkH n I (r_ph J m 0)) := by
  show xx cb_G _ _ _ 100 0 [.ref 52, .int (nI m), .int (nI 0), ex_no, ex_no, ex_no] [] _ _
  refine xi_aload_n (pc' := 1) rfl rfl rfl ?_
  refine xr_getp (pc' := 4) rfl rfl (by decide) rfl rfl rfl ?_
  refine xi_iload_n (pc' := 5) rfl rfl rfl ?_
  refine xi_iload_n (pc' := 6) rfl rfl rfl ?_
  refine xr_iast (j := m) (pc' := 7) rfl rfl (by decide) (by first | rfl | (simp only [ix_add, ix_mul, ix_pred]; done) | (simp only [ix_add, ix_mul, ix_pred, *]; done)) (by omega) (by decide) rfl ?_
  refine xi_iconst (pc' := 8) rfl rfl ?_
  refine xi_istore_n (pc' := 9) rfl (st1_3 rfl) rfl ?_
  refine xi_iload_n (pc' := 10) rfl rfl rfl ?_
  refine xi_istore (pc' := 12) rfl (st1_4 rfl) rfl ?_
  refine xi_iload (pc' := 14) rfl rfl rfl ?_
  refine xi_iconst (pc' := 15) rfl rfl ?_
  refine xi_icmpf (pc' := 18) (tg := 56) rfl rfl (by decide) rfl ?_
  refine xi_aload_n (pc' := 19) rfl rfl rfl ?_
  refine xi_iload (pc' := 21) rfl rfl rfl ?_
  refine xi_iload_n (pc' := 22) rfl rfl rfl ?_
  refine xi_iconst (pc' := 23) rfl rfl ?_
  refine xi_iadd (pc' := 24) rfl rfl ?_
  refine xx_topi (y := nI (m + 1)) (ix_add m 1) ?_
  refine xx_callVi (pc' := 27) rfl rfl (by decide) rfl rfl (by show _ < 81 + 2 * _; omega) (Nat.le_of_ble_eq_true rfl) rfl rfl (r_loadOf_ok (f := 0) (nm := m + 1) (by decide) (by omega) (fun k hk => vMsg_ph (hv k (by omega))) (fun k hk => vPer_ph (hp k (by omega)))) ?_
  refine xi_istore (pc' := 29) rfl (st1_5 rfl) rfl ?_
  refine xi_iload (pc' := 31) rfl rfl rfl ?_
  refine xi_iload_n (pc' := 32) rfl rfl rfl ?_
  refine xx_icmp (pc' := 35) (tg := 40) rfl rfl rfl (fun q32 => ?_) (fun q32 => ?_)
  · refine xi_iload_n (pc' := 41) rfl rfl rfl ?_
    refine xi_istore_n (pc' := 42) rfl (st1_3 rfl) rfl ?_
    refine xi_iload (pc' := 44) rfl rfl rfl ?_
    refine xi_aload_n (pc' := 45) rfl rfl rfl ?_
    refine xr_getp (pc' := 48) rfl rfl (by decide) rfl rfl rfl ?_
    refine xi_iload_n (pc' := 49) rfl rfl rfl ?_
    refine xr_ialdv (v := nI (2)) (j := m) (pc' := 50) rfl rfl (by decide) (by first | rfl | (simp only [ix_add, ix_mul, ix_pred]; done) | (simp only [ix_add, ix_mul, ix_pred, *]; done)) (by omega) (by decide) ((ph_fr (by decide)).trans hpm) rfl ?_
    refine xi_iadd (pc' := 51) rfl rfl ?_
    refine xx_topi (y := nI 2) (by decide) ?_
    refine xi_istore (pc' := 53) rfl (st1_4 rfl) rfl ?_
    refine xi_goto (pc' := 12) rfl rfl ?_
    refine xi_iload (pc' := 14) rfl rfl rfl ?_
    refine xi_iconst (pc' := 15) rfl rfl ?_
    refine xi_icmpf (pc' := 18) (tg := 56) rfl rfl (by decide) rfl ?_
    refine xi_aload_n (pc' := 19) rfl rfl rfl ?_
    refine xi_iload (pc' := 21) rfl rfl rfl ?_
    refine xi_iload_n (pc' := 22) rfl rfl rfl ?_
    refine xi_iconst (pc' := 23) rfl rfl ?_
    refine xi_iadd (pc' := 24) rfl rfl ?_
    refine xx_topi (y := nI (m + 1)) (ix_add m 1) ?_
    refine xx_callVi (pc' := 27) rfl rfl (by decide) rfl rfl (by show _ < 81 + 2 * _; omega) (Nat.le_of_ble_eq_true rfl) rfl rfl (r_loadOf_ok (f := 2) (nm := m + 1) (by decide) (by omega) (fun k hk => vMsg_ph (hv k (by omega))) (fun k hk => vPer_ph (hp k (by omega)))) ?_
    refine xi_istore (pc' := 29) rfl (st1_5 rfl) rfl ?_
    refine xi_iload (pc' := 31) rfl rfl rfl ?_
    refine xi_iload_n (pc' := 32) rfl rfl rfl ?_
    refine xx_icmp (pc' := 35) (tg := 40) rfl rfl rfl (fun q32 => ?_) (fun q32 => ?_)
    · refine xi_iload_n (pc' := 41) rfl rfl rfl ?_
      refine xi_istore_n (pc' := 42) rfl (st1_3 rfl) rfl ?_
      refine xi_iload (pc' := 44) rfl rfl rfl ?_
      refine xi_aload_n (pc' := 45) rfl rfl rfl ?_
      refine xr_getp (pc' := 48) rfl rfl (by decide) rfl rfl rfl ?_
      refine xi_iload_n (pc' := 49) rfl rfl rfl ?_
      refine xr_ialdv (v := nI (2)) (j := m) (pc' := 50) rfl rfl (by decide) (by first | rfl | (simp only [ix_add, ix_mul, ix_pred]; done) | (simp only [ix_add, ix_mul, ix_pred, *]; done)) (by omega) (by decide) ((ph_fr (by decide)).trans hpm) rfl ?_
      refine xi_iadd (pc' := 51) rfl rfl ?_
      refine xx_topi (y := nI 4) (by decide) ?_
      refine xi_istore (pc' := 53) rfl (st1_4 rfl) rfl ?_
      refine xi_goto (pc' := 12) rfl rfl ?_
      refine xi_iload (pc' := 14) rfl rfl rfl ?_
      refine xi_iconst (pc' := 15) rfl rfl ?_
      refine xi_icmpt (pc' := 56) rfl rfl (by decide) ?_
      refine xi_iload_n (pc' := 57) rfl rfl rfl ?_
      refine xx_ireturn rfl rfl ?_
      refine ⟨congrArg (fun v => some (Value.int v)) ?_, rfl⟩
      simp only [ex_P] at *
      simp only [r_wst, r_mx, r_ph, *, ↓reduceIte, Nat.add_zero, or_true, true_or, not_true_eq_false, not_false_eq_true, or_false, false_or, wI_get, false_and, true_and, and_true, and_false, and_self, Nat.reduceEqDiff, Nat.succ_ne_zero, reduceCtorEq, nI_lit, nI_lit0, Nat.reduceLT]
    · refine xi_iload (pc' := 37) rfl rfl rfl ?_
      refine xi_goto (pc' := 41) rfl rfl ?_
      refine xi_istore_n (pc' := 42) rfl (st1_3 rfl) rfl ?_
      refine xi_iload (pc' := 44) rfl rfl rfl ?_
      refine xi_aload_n (pc' := 45) rfl rfl rfl ?_
      refine xr_getp (pc' := 48) rfl rfl (by decide) rfl rfl rfl ?_
      refine xi_iload_n (pc' := 49) rfl rfl rfl ?_
      refine xr_ialdv (v := nI (2)) (j := m) (pc' := 50) rfl rfl (by decide) (by first | rfl | (simp only [ix_add, ix_mul, ix_pred]; done) | (simp only [ix_add, ix_mul, ix_pred, *]; done)) (by omega) (by decide) ((ph_fr (by decide)).trans hpm) rfl ?_
      refine xi_iadd (pc' := 51) rfl rfl ?_
      refine xx_topi (y := nI 4) (by decide) ?_
      refine xi_istore (pc' := 53) rfl (st1_4 rfl) rfl ?_
      refine xi_goto (pc' := 12) rfl rfl ?_
      refine xi_iload (pc' := 14) rfl rfl rfl ?_
      refine xi_iconst (pc' := 15) rfl rfl ?_
      refine xi_icmpt (pc' := 56) rfl rfl (by decide) ?_
      refine xi_iload_n (pc' := 57) rfl rfl rfl ?_
      refine xx_ireturn rfl rfl ?_
      refine ⟨congrArg (fun v => some (Value.int v)) ?_, rfl⟩
      simp only [ex_P] at *
      simp only [r_wst, r_mx, r_ph, *, ↓reduceIte, Nat.add_zero, or_true, true_or, not_true_eq_false, not_false_eq_true, or_false, false_or, wI_get, false_and, true_and, and_true, and_false, and_self, Nat.reduceEqDiff, Nat.succ_ne_zero, reduceCtorEq, nI_lit, nI_lit0, Nat.reduceLT]
  · refine xi_iload (pc' := 37) rfl rfl rfl ?_
    refine xi_goto (pc' := 41) rfl rfl ?_
    refine xi_istore_n (pc' := 42) rfl (st1_3 rfl) rfl ?_
    refine xi_iload (pc' := 44) rfl rfl rfl ?_
    refine xi_aload_n (pc' := 45) rfl rfl rfl ?_
    refine xr_getp (pc' := 48) rfl rfl (by decide) rfl rfl rfl ?_
    refine xi_iload_n (pc' := 49) rfl rfl rfl ?_
    refine xr_ialdv (v := nI (2)) (j := m) (pc' := 50) rfl rfl (by decide) (by first | rfl | (simp only [ix_add, ix_mul, ix_pred]; done) | (simp only [ix_add, ix_mul, ix_pred, *]; done)) (by omega) (by decide) ((ph_fr (by decide)).trans hpm) rfl ?_
    refine xi_iadd (pc' := 51) rfl rfl ?_
    refine xx_topi (y := nI 2) (by decide) ?_
    refine xi_istore (pc' := 53) rfl (st1_4 rfl) rfl ?_
    refine xi_goto (pc' := 12) rfl rfl ?_
    refine xi_iload (pc' := 14) rfl rfl rfl ?_
    refine xi_iconst (pc' := 15) rfl rfl ?_
    refine xi_icmpf (pc' := 18) (tg := 56) rfl rfl (by decide) rfl ?_
    refine xi_aload_n (pc' := 19) rfl rfl rfl ?_
    refine xi_iload (pc' := 21) rfl rfl rfl ?_
    refine xi_iload_n (pc' := 22) rfl rfl rfl ?_
    refine xi_iconst (pc' := 23) rfl rfl ?_
    refine xi_iadd (pc' := 24) rfl rfl ?_
    refine xx_topi (y := nI (m + 1)) (ix_add m 1) ?_
    refine xx_callVi (pc' := 27) rfl rfl (by decide) rfl rfl (by show _ < 81 + 2 * _; omega) (Nat.le_of_ble_eq_true rfl) rfl rfl (r_loadOf_ok (f := 2) (nm := m + 1) (by decide) (by omega) (fun k hk => vMsg_ph (hv k (by omega))) (fun k hk => vPer_ph (hp k (by omega)))) ?_
    refine xi_istore (pc' := 29) rfl (st1_5 rfl) rfl ?_
    refine xi_iload (pc' := 31) rfl rfl rfl ?_
    refine xi_iload_n (pc' := 32) rfl rfl rfl ?_
    refine xx_icmp (pc' := 35) (tg := 40) rfl rfl rfl (fun q32 => ?_) (fun q32 => ?_)
    · refine xi_iload_n (pc' := 41) rfl rfl rfl ?_
      refine xi_istore_n (pc' := 42) rfl (st1_3 rfl) rfl ?_
      refine xi_iload (pc' := 44) rfl rfl rfl ?_
      refine xi_aload_n (pc' := 45) rfl rfl rfl ?_
      refine xr_getp (pc' := 48) rfl rfl (by decide) rfl rfl rfl ?_
      refine xi_iload_n (pc' := 49) rfl rfl rfl ?_
      refine xr_ialdv (v := nI (2)) (j := m) (pc' := 50) rfl rfl (by decide) (by first | rfl | (simp only [ix_add, ix_mul, ix_pred]; done) | (simp only [ix_add, ix_mul, ix_pred, *]; done)) (by omega) (by decide) ((ph_fr (by decide)).trans hpm) rfl ?_
      refine xi_iadd (pc' := 51) rfl rfl ?_
      refine xx_topi (y := nI 4) (by decide) ?_
      refine xi_istore (pc' := 53) rfl (st1_4 rfl) rfl ?_
      refine xi_goto (pc' := 12) rfl rfl ?_
      refine xi_iload (pc' := 14) rfl rfl rfl ?_
      refine xi_iconst (pc' := 15) rfl rfl ?_
      refine xi_icmpt (pc' := 56) rfl rfl (by decide) ?_
      refine xi_iload_n (pc' := 57) rfl rfl rfl ?_
      refine xx_ireturn rfl rfl ?_
      refine ⟨congrArg (fun v => some (Value.int v)) ?_, rfl⟩
      simp only [ex_P] at *
      simp only [r_wst, r_mx, r_ph, *, ↓reduceIte, Nat.add_zero, or_true, true_or, not_true_eq_false, not_false_eq_true, or_false, false_or, wI_get, false_and, true_and, and_true, and_false, and_self, Nat.reduceEqDiff, Nat.succ_ne_zero, reduceCtorEq, nI_lit, nI_lit0, Nat.reduceLT]
    · refine xi_iload (pc' := 37) rfl rfl rfl ?_
      refine xi_goto (pc' := 41) rfl rfl ?_
      refine xi_istore_n (pc' := 42) rfl (st1_3 rfl) rfl ?_
      refine xi_iload (pc' := 44) rfl rfl rfl ?_
      refine xi_aload_n (pc' := 45) rfl rfl rfl ?_
      refine xr_getp (pc' := 48) rfl rfl (by decide) rfl rfl rfl ?_
      refine xi_iload_n (pc' := 49) rfl rfl rfl ?_
      refine xr_ialdv (v := nI (2)) (j := m) (pc' := 50) rfl rfl (by decide) (by first | rfl | (simp only [ix_add, ix_mul, ix_pred]; done) | (simp only [ix_add, ix_mul, ix_pred, *]; done)) (by omega) (by decide) ((ph_fr (by decide)).trans hpm) rfl ?_
      refine xi_iadd (pc' := 51) rfl rfl ?_
      refine xx_topi (y := nI 4) (by decide) ?_
      refine xi_istore (pc' := 53) rfl (st1_4 rfl) rfl ?_
      refine xi_goto (pc' := 12) rfl rfl ?_
      refine xi_iload (pc' := 14) rfl rfl rfl ?_
      refine xi_iconst (pc' := 15) rfl rfl ?_
      refine xi_icmpt (pc' := 56) rfl rfl (by decide) ?_
      refine xi_iload_n (pc' := 57) rfl rfl rfl ?_
      refine xx_ireturn rfl rfl ?_
      refine ⟨congrArg (fun v => some (Value.int v)) ?_, rfl⟩
      simp only [ex_P] at *
      simp only [r_wst, r_mx, r_ph, *, ↓reduceIte, Nat.add_zero, or_true, true_or, not_true_eq_false, not_false_eq_true, or_false, false_or, wI_get, false_and, true_and, and_true, and_false, and_self, Nat.reduceEqDiff, Nat.succ_ne_zero, reduceCtorEq, nI_lit, nI_lit0, Nat.reduceLT]
theorem r_worst_2_1 {L : Nat} {xs : Nat → Int32} {D n : Nat} {I J : ex_Mem} {m : Nat} (hm : m < 8) (hpm : J 74 m = nI 2) (hv : ∀ k, k ≤ m → vMsg J k) (hp : ∀ k, k ≤ m → vPer J k) : ri L xs (D + 2) 100 [.ref 52, .int (nI m), .int (nI 1)] (mkH n I J) (r_wst (r_ph J m 1) m 1 2) (mkH n I (r_ph J m 1)) := by
  show xx cb_G _ _ _ 100 0 [.ref 52, .int (nI m), .int (nI 1), ex_no, ex_no, ex_no] [] _ _
  refine xi_aload_n (pc' := 1) rfl rfl rfl ?_
  refine xr_getp (pc' := 4) rfl rfl (by decide) rfl rfl rfl ?_
  refine xi_iload_n (pc' := 5) rfl rfl rfl ?_
  refine xi_iload_n (pc' := 6) rfl rfl rfl ?_
  refine xr_iast (j := m) (pc' := 7) rfl rfl (by decide) (by first | rfl | (simp only [ix_add, ix_mul, ix_pred]; done) | (simp only [ix_add, ix_mul, ix_pred, *]; done)) (by omega) (by decide) rfl ?_
  refine xi_iconst (pc' := 8) rfl rfl ?_
  refine xi_istore_n (pc' := 9) rfl (st1_3 rfl) rfl ?_
  refine xi_iload_n (pc' := 10) rfl rfl rfl ?_
  refine xi_istore (pc' := 12) rfl (st1_4 rfl) rfl ?_
  refine xi_iload (pc' := 14) rfl rfl rfl ?_
  refine xi_iconst (pc' := 15) rfl rfl ?_
  refine xi_icmpf (pc' := 18) (tg := 56) rfl rfl (by decide) rfl ?_
  refine xi_aload_n (pc' := 19) rfl rfl rfl ?_
  refine xi_iload (pc' := 21) rfl rfl rfl ?_
  refine xi_iload_n (pc' := 22) rfl rfl rfl ?_
  refine xi_iconst (pc' := 23) rfl rfl ?_
  refine xi_iadd (pc' := 24) rfl rfl ?_
  refine xx_topi (y := nI (m + 1)) (ix_add m 1) ?_
  refine xx_callVi (pc' := 27) rfl rfl (by decide) rfl rfl (by show _ < 81 + 2 * _; omega) (Nat.le_of_ble_eq_true rfl) rfl rfl (r_loadOf_ok (f := 1) (nm := m + 1) (by decide) (by omega) (fun k hk => vMsg_ph (hv k (by omega))) (fun k hk => vPer_ph (hp k (by omega)))) ?_
  refine xi_istore (pc' := 29) rfl (st1_5 rfl) rfl ?_
  refine xi_iload (pc' := 31) rfl rfl rfl ?_
  refine xi_iload_n (pc' := 32) rfl rfl rfl ?_
  refine xx_icmp (pc' := 35) (tg := 40) rfl rfl rfl (fun q32 => ?_) (fun q32 => ?_)
  · refine xi_iload_n (pc' := 41) rfl rfl rfl ?_
    refine xi_istore_n (pc' := 42) rfl (st1_3 rfl) rfl ?_
    refine xi_iload (pc' := 44) rfl rfl rfl ?_
    refine xi_aload_n (pc' := 45) rfl rfl rfl ?_
    refine xr_getp (pc' := 48) rfl rfl (by decide) rfl rfl rfl ?_
    refine xi_iload_n (pc' := 49) rfl rfl rfl ?_
    refine xr_ialdv (v := nI (2)) (j := m) (pc' := 50) rfl rfl (by decide) (by first | rfl | (simp only [ix_add, ix_mul, ix_pred]; done) | (simp only [ix_add, ix_mul, ix_pred, *]; done)) (by omega) (by decide) ((ph_fr (by decide)).trans hpm) rfl ?_
    refine xi_iadd (pc' := 51) rfl rfl ?_
    refine xx_topi (y := nI 3) (by decide) ?_
    refine xi_istore (pc' := 53) rfl (st1_4 rfl) rfl ?_
    refine xi_goto (pc' := 12) rfl rfl ?_
    refine xi_iload (pc' := 14) rfl rfl rfl ?_
    refine xi_iconst (pc' := 15) rfl rfl ?_
    refine xi_icmpf (pc' := 18) (tg := 56) rfl rfl (by decide) rfl ?_
    refine xi_aload_n (pc' := 19) rfl rfl rfl ?_
    refine xi_iload (pc' := 21) rfl rfl rfl ?_
    refine xi_iload_n (pc' := 22) rfl rfl rfl ?_
    refine xi_iconst (pc' := 23) rfl rfl ?_
    refine xi_iadd (pc' := 24) rfl rfl ?_
    refine xx_topi (y := nI (m + 1)) (ix_add m 1) ?_
    refine xx_callVi (pc' := 27) rfl rfl (by decide) rfl rfl (by show _ < 81 + 2 * _; omega) (Nat.le_of_ble_eq_true rfl) rfl rfl (r_loadOf_ok (f := 3) (nm := m + 1) (by decide) (by omega) (fun k hk => vMsg_ph (hv k (by omega))) (fun k hk => vPer_ph (hp k (by omega)))) ?_
    refine xi_istore (pc' := 29) rfl (st1_5 rfl) rfl ?_
    refine xi_iload (pc' := 31) rfl rfl rfl ?_
    refine xi_iload_n (pc' := 32) rfl rfl rfl ?_
    refine xx_icmp (pc' := 35) (tg := 40) rfl rfl rfl (fun q32 => ?_) (fun q32 => ?_)
    · refine xi_iload_n (pc' := 41) rfl rfl rfl ?_
      refine xi_istore_n (pc' := 42) rfl (st1_3 rfl) rfl ?_
      refine xi_iload (pc' := 44) rfl rfl rfl ?_
      refine xi_aload_n (pc' := 45) rfl rfl rfl ?_
      refine xr_getp (pc' := 48) rfl rfl (by decide) rfl rfl rfl ?_
      refine xi_iload_n (pc' := 49) rfl rfl rfl ?_
      refine xr_ialdv (v := nI (2)) (j := m) (pc' := 50) rfl rfl (by decide) (by first | rfl | (simp only [ix_add, ix_mul, ix_pred]; done) | (simp only [ix_add, ix_mul, ix_pred, *]; done)) (by omega) (by decide) ((ph_fr (by decide)).trans hpm) rfl ?_
      refine xi_iadd (pc' := 51) rfl rfl ?_
      refine xx_topi (y := nI 5) (by decide) ?_
      refine xi_istore (pc' := 53) rfl (st1_4 rfl) rfl ?_
      refine xi_goto (pc' := 12) rfl rfl ?_
      refine xi_iload (pc' := 14) rfl rfl rfl ?_
      refine xi_iconst (pc' := 15) rfl rfl ?_
      refine xi_icmpt (pc' := 56) rfl rfl (by decide) ?_
      refine xi_iload_n (pc' := 57) rfl rfl rfl ?_
      refine xx_ireturn rfl rfl ?_
      refine ⟨congrArg (fun v => some (Value.int v)) ?_, rfl⟩
      simp only [ex_P] at *
      simp only [r_wst, r_mx, r_ph, *, ↓reduceIte, Nat.add_zero, or_true, true_or, not_true_eq_false, not_false_eq_true, or_false, false_or, wI_get, false_and, true_and, and_true, and_false, and_self, Nat.reduceEqDiff, Nat.succ_ne_zero, reduceCtorEq, nI_lit, nI_lit0, Nat.reduceLT]
    · refine xi_iload (pc' := 37) rfl rfl rfl ?_
      refine xi_goto (pc' := 41) rfl rfl ?_
      refine xi_istore_n (pc' := 42) rfl (st1_3 rfl) rfl ?_
      refine xi_iload (pc' := 44) rfl rfl rfl ?_
      refine xi_aload_n (pc' := 45) rfl rfl rfl ?_
      refine xr_getp (pc' := 48) rfl rfl (by decide) rfl rfl rfl ?_
      refine xi_iload_n (pc' := 49) rfl rfl rfl ?_
      refine xr_ialdv (v := nI (2)) (j := m) (pc' := 50) rfl rfl (by decide) (by first | rfl | (simp only [ix_add, ix_mul, ix_pred]; done) | (simp only [ix_add, ix_mul, ix_pred, *]; done)) (by omega) (by decide) ((ph_fr (by decide)).trans hpm) rfl ?_
      refine xi_iadd (pc' := 51) rfl rfl ?_
      refine xx_topi (y := nI 5) (by decide) ?_
      refine xi_istore (pc' := 53) rfl (st1_4 rfl) rfl ?_
      refine xi_goto (pc' := 12) rfl rfl ?_
      refine xi_iload (pc' := 14) rfl rfl rfl ?_
      refine xi_iconst (pc' := 15) rfl rfl ?_
      refine xi_icmpt (pc' := 56) rfl rfl (by decide) ?_
      refine xi_iload_n (pc' := 57) rfl rfl rfl ?_
      refine xx_ireturn rfl rfl ?_
      refine ⟨congrArg (fun v => some (Value.int v)) ?_, rfl⟩
      simp only [ex_P] at *
      simp only [r_wst, r_mx, r_ph, *, ↓reduceIte, Nat.add_zero, or_true, true_or, not_true_eq_false, not_false_eq_true, or_false, false_or, wI_get, false_and, true_and, and_true, and_false, and_self, Nat.reduceEqDiff, Nat.succ_ne_zero, reduceCtorEq, nI_lit, nI_lit0, Nat.reduceLT]
  · refine xi_iload (pc' := 37) rfl rfl rfl ?_
    refine xi_goto (pc' := 41) rfl rfl ?_
    refine xi_istore_n (pc' := 42) rfl (st1_3 rfl) rfl ?_
    refine xi_iload (pc' := 44) rfl rfl rfl ?_
    refine xi_aload_n (pc' := 45) rfl rfl rfl ?_
    refine xr_getp (pc' := 48) rfl rfl (by decide) rfl rfl rfl ?_
    refine xi_iload_n (pc' := 49) rfl rfl rfl ?_
    refine xr_ialdv (v := nI (2)) (j := m) (pc' := 50) rfl rfl (by decide) (by first | rfl | (simp only [ix_add, ix_mul, ix_pred]; done) | (simp only [ix_add, ix_mul, ix_pred, *]; done)) (by omega) (by decide) ((ph_fr (by decide)).trans hpm) rfl ?_
    refine xi_iadd (pc' := 51) rfl rfl ?_
    refine xx_topi (y := nI 3) (by decide) ?_
    refine xi_istore (pc' := 53) rfl (st1_4 rfl) rfl ?_
    refine xi_goto (pc' := 12) rfl rfl ?_
    refine xi_iload (pc' := 14) rfl rfl rfl ?_
    refine xi_iconst (pc' := 15) rfl rfl ?_
    refine xi_icmpf (pc' := 18) (tg := 56) rfl rfl (by decide) rfl ?_
    refine xi_aload_n (pc' := 19) rfl rfl rfl ?_
    refine xi_iload (pc' := 21) rfl rfl rfl ?_
    refine xi_iload_n (pc' := 22) rfl rfl rfl ?_
    refine xi_iconst (pc' := 23) rfl rfl ?_
    refine xi_iadd (pc' := 24) rfl rfl ?_
    refine xx_topi (y := nI (m + 1)) (ix_add m 1) ?_
    refine xx_callVi (pc' := 27) rfl rfl (by decide) rfl rfl (by show _ < 81 + 2 * _; omega) (Nat.le_of_ble_eq_true rfl) rfl rfl (r_loadOf_ok (f := 3) (nm := m + 1) (by decide) (by omega) (fun k hk => vMsg_ph (hv k (by omega))) (fun k hk => vPer_ph (hp k (by omega)))) ?_
    refine xi_istore (pc' := 29) rfl (st1_5 rfl) rfl ?_
    refine xi_iload (pc' := 31) rfl rfl rfl ?_
    refine xi_iload_n (pc' := 32) rfl rfl rfl ?_
    refine xx_icmp (pc' := 35) (tg := 40) rfl rfl rfl (fun q32 => ?_) (fun q32 => ?_)
    · refine xi_iload_n (pc' := 41) rfl rfl rfl ?_
      refine xi_istore_n (pc' := 42) rfl (st1_3 rfl) rfl ?_
      refine xi_iload (pc' := 44) rfl rfl rfl ?_
      refine xi_aload_n (pc' := 45) rfl rfl rfl ?_
      refine xr_getp (pc' := 48) rfl rfl (by decide) rfl rfl rfl ?_
      refine xi_iload_n (pc' := 49) rfl rfl rfl ?_
      refine xr_ialdv (v := nI (2)) (j := m) (pc' := 50) rfl rfl (by decide) (by first | rfl | (simp only [ix_add, ix_mul, ix_pred]; done) | (simp only [ix_add, ix_mul, ix_pred, *]; done)) (by omega) (by decide) ((ph_fr (by decide)).trans hpm) rfl ?_
      refine xi_iadd (pc' := 51) rfl rfl ?_
      refine xx_topi (y := nI 5) (by decide) ?_
      refine xi_istore (pc' := 53) rfl (st1_4 rfl) rfl ?_
      refine xi_goto (pc' := 12) rfl rfl ?_
      refine xi_iload (pc' := 14) rfl rfl rfl ?_
      refine xi_iconst (pc' := 15) rfl rfl ?_
      refine xi_icmpt (pc' := 56) rfl rfl (by decide) ?_
      refine xi_iload_n (pc' := 57) rfl rfl rfl ?_
      refine xx_ireturn rfl rfl ?_
      refine ⟨congrArg (fun v => some (Value.int v)) ?_, rfl⟩
      simp only [ex_P] at *
      simp only [r_wst, r_mx, r_ph, *, ↓reduceIte, Nat.add_zero, or_true, true_or, not_true_eq_false, not_false_eq_true, or_false, false_or, wI_get, false_and, true_and, and_true, and_false, and_self, Nat.reduceEqDiff, Nat.succ_ne_zero, reduceCtorEq, nI_lit, nI_lit0, Nat.reduceLT]
    · refine xi_iload (pc' := 37) rfl rfl rfl ?_
      refine xi_goto (pc' := 41) rfl rfl ?_
      refine xi_istore_n (pc' := 42) rfl (st1_3 rfl) rfl ?_
      refine xi_iload (pc' := 44) rfl rfl rfl ?_
      refine xi_aload_n (pc' := 45) rfl rfl rfl ?_
      refine xr_getp (pc' := 48) rfl rfl (by decide) rfl rfl rfl ?_
      refine xi_iload_n (pc' := 49) rfl rfl rfl ?_
      refine xr_ialdv (v := nI (2)) (j := m) (pc' := 50) rfl rfl (by decide) (by first | rfl | (simp only [ix_add, ix_mul, ix_pred]; done) | (simp only [ix_add, ix_mul, ix_pred, *]; done)) (by omega) (by decide) ((ph_fr (by decide)).trans hpm) rfl ?_
      refine xi_iadd (pc' := 51) rfl rfl ?_
      refine xx_topi (y := nI 5) (by decide) ?_
      refine xi_istore (pc' := 53) rfl (st1_4 rfl) rfl ?_
      refine xi_goto (pc' := 12) rfl rfl ?_
      refine xi_iload (pc' := 14) rfl rfl rfl ?_
      refine xi_iconst (pc' := 15) rfl rfl ?_
      refine xi_icmpt (pc' := 56) rfl rfl (by decide) ?_
      refine xi_iload_n (pc' := 57) rfl rfl rfl ?_
      refine xx_ireturn rfl rfl ?_
      refine ⟨congrArg (fun v => some (Value.int v)) ?_, rfl⟩
      simp only [ex_P] at *
      simp only [r_wst, r_mx, r_ph, *, ↓reduceIte, Nat.add_zero, or_true, true_or, not_true_eq_false, not_false_eq_true, or_false, false_or, wI_get, false_and, true_and, and_true, and_false, and_self, Nat.reduceEqDiff, Nat.succ_ne_zero, reduceCtorEq, nI_lit, nI_lit0, Nat.reduceLT]
theorem r_worst_4_0 {L : Nat} {xs : Nat → Int32} {D n : Nat} {I J : ex_Mem} {m : Nat} (hm : m < 8) (hpm : J 74 m = nI 4) (hv : ∀ k, k ≤ m → vMsg J k) (hp : ∀ k, k ≤ m → vPer J k) : ri L xs (D + 2) 100 [.ref 52, .int (nI m), .int (nI 0)] (mkH n I J) (r_wst (r_ph J m 0) m 0 4) (mkH n I (r_ph J m 0)) := by
  show xx cb_G _ _ _ 100 0 [.ref 52, .int (nI m), .int (nI 0), ex_no, ex_no, ex_no] [] _ _
  refine xi_aload_n (pc' := 1) rfl rfl rfl ?_
  refine xr_getp (pc' := 4) rfl rfl (by decide) rfl rfl rfl ?_
  refine xi_iload_n (pc' := 5) rfl rfl rfl ?_
  refine xi_iload_n (pc' := 6) rfl rfl rfl ?_
  refine xr_iast (j := m) (pc' := 7) rfl rfl (by decide) (by first | rfl | (simp only [ix_add, ix_mul, ix_pred]; done) | (simp only [ix_add, ix_mul, ix_pred, *]; done)) (by omega) (by decide) rfl ?_
  refine xi_iconst (pc' := 8) rfl rfl ?_
  refine xi_istore_n (pc' := 9) rfl (st1_3 rfl) rfl ?_
  refine xi_iload_n (pc' := 10) rfl rfl rfl ?_
  refine xi_istore (pc' := 12) rfl (st1_4 rfl) rfl ?_
  refine xi_iload (pc' := 14) rfl rfl rfl ?_
  refine xi_iconst (pc' := 15) rfl rfl ?_
  refine xi_icmpf (pc' := 18) (tg := 56) rfl rfl (by decide) rfl ?_
  refine xi_aload_n (pc' := 19) rfl rfl rfl ?_
  refine xi_iload (pc' := 21) rfl rfl rfl ?_
  refine xi_iload_n (pc' := 22) rfl rfl rfl ?_
  refine xi_iconst (pc' := 23) rfl rfl ?_
  refine xi_iadd (pc' := 24) rfl rfl ?_
  refine xx_topi (y := nI (m + 1)) (ix_add m 1) ?_
  refine xx_callVi (pc' := 27) rfl rfl (by decide) rfl rfl (by show _ < 81 + 2 * _; omega) (Nat.le_of_ble_eq_true rfl) rfl rfl (r_loadOf_ok (f := 0) (nm := m + 1) (by decide) (by omega) (fun k hk => vMsg_ph (hv k (by omega))) (fun k hk => vPer_ph (hp k (by omega)))) ?_
  refine xi_istore (pc' := 29) rfl (st1_5 rfl) rfl ?_
  refine xi_iload (pc' := 31) rfl rfl rfl ?_
  refine xi_iload_n (pc' := 32) rfl rfl rfl ?_
  refine xx_icmp (pc' := 35) (tg := 40) rfl rfl rfl (fun q32 => ?_) (fun q32 => ?_)
  · refine xi_iload_n (pc' := 41) rfl rfl rfl ?_
    refine xi_istore_n (pc' := 42) rfl (st1_3 rfl) rfl ?_
    refine xi_iload (pc' := 44) rfl rfl rfl ?_
    refine xi_aload_n (pc' := 45) rfl rfl rfl ?_
    refine xr_getp (pc' := 48) rfl rfl (by decide) rfl rfl rfl ?_
    refine xi_iload_n (pc' := 49) rfl rfl rfl ?_
    refine xr_ialdv (v := nI (4)) (j := m) (pc' := 50) rfl rfl (by decide) (by first | rfl | (simp only [ix_add, ix_mul, ix_pred]; done) | (simp only [ix_add, ix_mul, ix_pred, *]; done)) (by omega) (by decide) ((ph_fr (by decide)).trans hpm) rfl ?_
    refine xi_iadd (pc' := 51) rfl rfl ?_
    refine xx_topi (y := nI 4) (by decide) ?_
    refine xi_istore (pc' := 53) rfl (st1_4 rfl) rfl ?_
    refine xi_goto (pc' := 12) rfl rfl ?_
    refine xi_iload (pc' := 14) rfl rfl rfl ?_
    refine xi_iconst (pc' := 15) rfl rfl ?_
    refine xi_icmpt (pc' := 56) rfl rfl (by decide) ?_
    refine xi_iload_n (pc' := 57) rfl rfl rfl ?_
    refine xx_ireturn rfl rfl ?_
    refine ⟨congrArg (fun v => some (Value.int v)) ?_, rfl⟩
    simp only [ex_P] at *
    simp only [r_wst, r_mx, r_ph, *, ↓reduceIte, Nat.add_zero, or_true, true_or, not_true_eq_false, not_false_eq_true, or_false, false_or, wI_get, false_and, true_and, and_true, and_false, and_self, Nat.reduceEqDiff, Nat.succ_ne_zero, reduceCtorEq, nI_lit, nI_lit0, Nat.reduceLT]
  · refine xi_iload (pc' := 37) rfl rfl rfl ?_
    refine xi_goto (pc' := 41) rfl rfl ?_
    refine xi_istore_n (pc' := 42) rfl (st1_3 rfl) rfl ?_
    refine xi_iload (pc' := 44) rfl rfl rfl ?_
    refine xi_aload_n (pc' := 45) rfl rfl rfl ?_
    refine xr_getp (pc' := 48) rfl rfl (by decide) rfl rfl rfl ?_
    refine xi_iload_n (pc' := 49) rfl rfl rfl ?_
    refine xr_ialdv (v := nI (4)) (j := m) (pc' := 50) rfl rfl (by decide) (by first | rfl | (simp only [ix_add, ix_mul, ix_pred]; done) | (simp only [ix_add, ix_mul, ix_pred, *]; done)) (by omega) (by decide) ((ph_fr (by decide)).trans hpm) rfl ?_
    refine xi_iadd (pc' := 51) rfl rfl ?_
    refine xx_topi (y := nI 4) (by decide) ?_
    refine xi_istore (pc' := 53) rfl (st1_4 rfl) rfl ?_
    refine xi_goto (pc' := 12) rfl rfl ?_
    refine xi_iload (pc' := 14) rfl rfl rfl ?_
    refine xi_iconst (pc' := 15) rfl rfl ?_
    refine xi_icmpt (pc' := 56) rfl rfl (by decide) ?_
    refine xi_iload_n (pc' := 57) rfl rfl rfl ?_
    refine xx_ireturn rfl rfl ?_
    refine ⟨congrArg (fun v => some (Value.int v)) ?_, rfl⟩
    simp only [ex_P] at *
    simp only [r_wst, r_mx, r_ph, *, ↓reduceIte, Nat.add_zero, or_true, true_or, not_true_eq_false, not_false_eq_true, or_false, false_or, wI_get, false_and, true_and, and_true, and_false, and_self, Nat.reduceEqDiff, Nat.succ_ne_zero, reduceCtorEq, nI_lit, nI_lit0, Nat.reduceLT]
theorem r_worst_4_1 {L : Nat} {xs : Nat → Int32} {D n : Nat} {I J : ex_Mem} {m : Nat} (hm : m < 8) (hpm : J 74 m = nI 4) (hv : ∀ k, k ≤ m → vMsg J k) (hp : ∀ k, k ≤ m → vPer J k) : ri L xs (D + 2) 100 [.ref 52, .int (nI m), .int (nI 1)] (mkH n I J) (r_wst (r_ph J m 1) m 1 4) (mkH n I (r_ph J m 1)) := by
  show xx cb_G _ _ _ 100 0 [.ref 52, .int (nI m), .int (nI 1), ex_no, ex_no, ex_no] [] _ _
  refine xi_aload_n (pc' := 1) rfl rfl rfl ?_
  refine xr_getp (pc' := 4) rfl rfl (by decide) rfl rfl rfl ?_
  refine xi_iload_n (pc' := 5) rfl rfl rfl ?_
  refine xi_iload_n (pc' := 6) rfl rfl rfl ?_
  refine xr_iast (j := m) (pc' := 7) rfl rfl (by decide) (by first | rfl | (simp only [ix_add, ix_mul, ix_pred]; done) | (simp only [ix_add, ix_mul, ix_pred, *]; done)) (by omega) (by decide) rfl ?_
  refine xi_iconst (pc' := 8) rfl rfl ?_
  refine xi_istore_n (pc' := 9) rfl (st1_3 rfl) rfl ?_
  refine xi_iload_n (pc' := 10) rfl rfl rfl ?_
  refine xi_istore (pc' := 12) rfl (st1_4 rfl) rfl ?_
  refine xi_iload (pc' := 14) rfl rfl rfl ?_
  refine xi_iconst (pc' := 15) rfl rfl ?_
  refine xi_icmpf (pc' := 18) (tg := 56) rfl rfl (by decide) rfl ?_
  refine xi_aload_n (pc' := 19) rfl rfl rfl ?_
  refine xi_iload (pc' := 21) rfl rfl rfl ?_
  refine xi_iload_n (pc' := 22) rfl rfl rfl ?_
  refine xi_iconst (pc' := 23) rfl rfl ?_
  refine xi_iadd (pc' := 24) rfl rfl ?_
  refine xx_topi (y := nI (m + 1)) (ix_add m 1) ?_
  refine xx_callVi (pc' := 27) rfl rfl (by decide) rfl rfl (by show _ < 81 + 2 * _; omega) (Nat.le_of_ble_eq_true rfl) rfl rfl (r_loadOf_ok (f := 1) (nm := m + 1) (by decide) (by omega) (fun k hk => vMsg_ph (hv k (by omega))) (fun k hk => vPer_ph (hp k (by omega)))) ?_
  refine xi_istore (pc' := 29) rfl (st1_5 rfl) rfl ?_
  refine xi_iload (pc' := 31) rfl rfl rfl ?_
  refine xi_iload_n (pc' := 32) rfl rfl rfl ?_
  refine xx_icmp (pc' := 35) (tg := 40) rfl rfl rfl (fun q32 => ?_) (fun q32 => ?_)
  · refine xi_iload_n (pc' := 41) rfl rfl rfl ?_
    refine xi_istore_n (pc' := 42) rfl (st1_3 rfl) rfl ?_
    refine xi_iload (pc' := 44) rfl rfl rfl ?_
    refine xi_aload_n (pc' := 45) rfl rfl rfl ?_
    refine xr_getp (pc' := 48) rfl rfl (by decide) rfl rfl rfl ?_
    refine xi_iload_n (pc' := 49) rfl rfl rfl ?_
    refine xr_ialdv (v := nI (4)) (j := m) (pc' := 50) rfl rfl (by decide) (by first | rfl | (simp only [ix_add, ix_mul, ix_pred]; done) | (simp only [ix_add, ix_mul, ix_pred, *]; done)) (by omega) (by decide) ((ph_fr (by decide)).trans hpm) rfl ?_
    refine xi_iadd (pc' := 51) rfl rfl ?_
    refine xx_topi (y := nI 5) (by decide) ?_
    refine xi_istore (pc' := 53) rfl (st1_4 rfl) rfl ?_
    refine xi_goto (pc' := 12) rfl rfl ?_
    refine xi_iload (pc' := 14) rfl rfl rfl ?_
    refine xi_iconst (pc' := 15) rfl rfl ?_
    refine xi_icmpt (pc' := 56) rfl rfl (by decide) ?_
    refine xi_iload_n (pc' := 57) rfl rfl rfl ?_
    refine xx_ireturn rfl rfl ?_
    refine ⟨congrArg (fun v => some (Value.int v)) ?_, rfl⟩
    simp only [ex_P] at *
    simp only [r_wst, r_mx, r_ph, *, ↓reduceIte, Nat.add_zero, or_true, true_or, not_true_eq_false, not_false_eq_true, or_false, false_or, wI_get, false_and, true_and, and_true, and_false, and_self, Nat.reduceEqDiff, Nat.succ_ne_zero, reduceCtorEq, nI_lit, nI_lit0, Nat.reduceLT]
  · refine xi_iload (pc' := 37) rfl rfl rfl ?_
    refine xi_goto (pc' := 41) rfl rfl ?_
    refine xi_istore_n (pc' := 42) rfl (st1_3 rfl) rfl ?_
    refine xi_iload (pc' := 44) rfl rfl rfl ?_
    refine xi_aload_n (pc' := 45) rfl rfl rfl ?_
    refine xr_getp (pc' := 48) rfl rfl (by decide) rfl rfl rfl ?_
    refine xi_iload_n (pc' := 49) rfl rfl rfl ?_
    refine xr_ialdv (v := nI (4)) (j := m) (pc' := 50) rfl rfl (by decide) (by first | rfl | (simp only [ix_add, ix_mul, ix_pred]; done) | (simp only [ix_add, ix_mul, ix_pred, *]; done)) (by omega) (by decide) ((ph_fr (by decide)).trans hpm) rfl ?_
    refine xi_iadd (pc' := 51) rfl rfl ?_
    refine xx_topi (y := nI 5) (by decide) ?_
    refine xi_istore (pc' := 53) rfl (st1_4 rfl) rfl ?_
    refine xi_goto (pc' := 12) rfl rfl ?_
    refine xi_iload (pc' := 14) rfl rfl rfl ?_
    refine xi_iconst (pc' := 15) rfl rfl ?_
    refine xi_icmpt (pc' := 56) rfl rfl (by decide) ?_
    refine xi_iload_n (pc' := 57) rfl rfl rfl ?_
    refine xx_ireturn rfl rfl ?_
    refine ⟨congrArg (fun v => some (Value.int v)) ?_, rfl⟩
    simp only [ex_P] at *
    simp only [r_wst, r_mx, r_ph, *, ↓reduceIte, Nat.add_zero, or_true, true_or, not_true_eq_false, not_false_eq_true, or_false, false_or, wI_get, false_and, true_and, and_true, and_false, and_self, Nat.reduceEqDiff, Nat.succ_ne_zero, reduceCtorEq, nI_lit, nI_lit0, Nat.reduceLT]
theorem r_worst_4_2 {L : Nat} {xs : Nat → Int32} {D n : Nat} {I J : ex_Mem} {m : Nat} (hm : m < 8) (hpm : J 74 m = nI 4) (hv : ∀ k, k ≤ m → vMsg J k) (hp : ∀ k, k ≤ m → vPer J k) : ri L xs (D + 2) 100 [.ref 52, .int (nI m), .int (nI 2)] (mkH n I J) (r_wst (r_ph J m 2) m 2 4) (mkH n I (r_ph J m 2)) := by
  show xx cb_G _ _ _ 100 0 [.ref 52, .int (nI m), .int (nI 2), ex_no, ex_no, ex_no] [] _ _
  refine xi_aload_n (pc' := 1) rfl rfl rfl ?_
  refine xr_getp (pc' := 4) rfl rfl (by decide) rfl rfl rfl ?_
  refine xi_iload_n (pc' := 5) rfl rfl rfl ?_
  refine xi_iload_n (pc' := 6) rfl rfl rfl ?_
  refine xr_iast (j := m) (pc' := 7) rfl rfl (by decide) (by first | rfl | (simp only [ix_add, ix_mul, ix_pred]; done) | (simp only [ix_add, ix_mul, ix_pred, *]; done)) (by omega) (by decide) rfl ?_
  refine xi_iconst (pc' := 8) rfl rfl ?_
  refine xi_istore_n (pc' := 9) rfl (st1_3 rfl) rfl ?_
  refine xi_iload_n (pc' := 10) rfl rfl rfl ?_
  refine xi_istore (pc' := 12) rfl (st1_4 rfl) rfl ?_
  refine xi_iload (pc' := 14) rfl rfl rfl ?_
  refine xi_iconst (pc' := 15) rfl rfl ?_
  refine xi_icmpf (pc' := 18) (tg := 56) rfl rfl (by decide) rfl ?_
  refine xi_aload_n (pc' := 19) rfl rfl rfl ?_
  refine xi_iload (pc' := 21) rfl rfl rfl ?_
  refine xi_iload_n (pc' := 22) rfl rfl rfl ?_
  refine xi_iconst (pc' := 23) rfl rfl ?_
  refine xi_iadd (pc' := 24) rfl rfl ?_
  refine xx_topi (y := nI (m + 1)) (ix_add m 1) ?_
  refine xx_callVi (pc' := 27) rfl rfl (by decide) rfl rfl (by show _ < 81 + 2 * _; omega) (Nat.le_of_ble_eq_true rfl) rfl rfl (r_loadOf_ok (f := 2) (nm := m + 1) (by decide) (by omega) (fun k hk => vMsg_ph (hv k (by omega))) (fun k hk => vPer_ph (hp k (by omega)))) ?_
  refine xi_istore (pc' := 29) rfl (st1_5 rfl) rfl ?_
  refine xi_iload (pc' := 31) rfl rfl rfl ?_
  refine xi_iload_n (pc' := 32) rfl rfl rfl ?_
  refine xx_icmp (pc' := 35) (tg := 40) rfl rfl rfl (fun q32 => ?_) (fun q32 => ?_)
  · refine xi_iload_n (pc' := 41) rfl rfl rfl ?_
    refine xi_istore_n (pc' := 42) rfl (st1_3 rfl) rfl ?_
    refine xi_iload (pc' := 44) rfl rfl rfl ?_
    refine xi_aload_n (pc' := 45) rfl rfl rfl ?_
    refine xr_getp (pc' := 48) rfl rfl (by decide) rfl rfl rfl ?_
    refine xi_iload_n (pc' := 49) rfl rfl rfl ?_
    refine xr_ialdv (v := nI (4)) (j := m) (pc' := 50) rfl rfl (by decide) (by first | rfl | (simp only [ix_add, ix_mul, ix_pred]; done) | (simp only [ix_add, ix_mul, ix_pred, *]; done)) (by omega) (by decide) ((ph_fr (by decide)).trans hpm) rfl ?_
    refine xi_iadd (pc' := 51) rfl rfl ?_
    refine xx_topi (y := nI 6) (by decide) ?_
    refine xi_istore (pc' := 53) rfl (st1_4 rfl) rfl ?_
    refine xi_goto (pc' := 12) rfl rfl ?_
    refine xi_iload (pc' := 14) rfl rfl rfl ?_
    refine xi_iconst (pc' := 15) rfl rfl ?_
    refine xi_icmpt (pc' := 56) rfl rfl (by decide) ?_
    refine xi_iload_n (pc' := 57) rfl rfl rfl ?_
    refine xx_ireturn rfl rfl ?_
    refine ⟨congrArg (fun v => some (Value.int v)) ?_, rfl⟩
    simp only [ex_P] at *
    simp only [r_wst, r_mx, r_ph, *, ↓reduceIte, Nat.add_zero, or_true, true_or, not_true_eq_false, not_false_eq_true, or_false, false_or, wI_get, false_and, true_and, and_true, and_false, and_self, Nat.reduceEqDiff, Nat.succ_ne_zero, reduceCtorEq, nI_lit, nI_lit0, Nat.reduceLT]
  · refine xi_iload (pc' := 37) rfl rfl rfl ?_
    refine xi_goto (pc' := 41) rfl rfl ?_
    refine xi_istore_n (pc' := 42) rfl (st1_3 rfl) rfl ?_
    refine xi_iload (pc' := 44) rfl rfl rfl ?_
    refine xi_aload_n (pc' := 45) rfl rfl rfl ?_
    refine xr_getp (pc' := 48) rfl rfl (by decide) rfl rfl rfl ?_
    refine xi_iload_n (pc' := 49) rfl rfl rfl ?_
    refine xr_ialdv (v := nI (4)) (j := m) (pc' := 50) rfl rfl (by decide) (by first | rfl | (simp only [ix_add, ix_mul, ix_pred]; done) | (simp only [ix_add, ix_mul, ix_pred, *]; done)) (by omega) (by decide) ((ph_fr (by decide)).trans hpm) rfl ?_
    refine xi_iadd (pc' := 51) rfl rfl ?_
    refine xx_topi (y := nI 6) (by decide) ?_
    refine xi_istore (pc' := 53) rfl (st1_4 rfl) rfl ?_
    refine xi_goto (pc' := 12) rfl rfl ?_
    refine xi_iload (pc' := 14) rfl rfl rfl ?_
    refine xi_iconst (pc' := 15) rfl rfl ?_
    refine xi_icmpt (pc' := 56) rfl rfl (by decide) ?_
    refine xi_iload_n (pc' := 57) rfl rfl rfl ?_
    refine xx_ireturn rfl rfl ?_
    refine ⟨congrArg (fun v => some (Value.int v)) ?_, rfl⟩
    simp only [ex_P] at *
    simp only [r_wst, r_mx, r_ph, *, ↓reduceIte, Nat.add_zero, or_true, true_or, not_true_eq_false, not_false_eq_true, or_false, false_or, wI_get, false_and, true_and, and_true, and_false, and_self, Nat.reduceEqDiff, Nat.succ_ne_zero, reduceCtorEq, nI_lit, nI_lit0, Nat.reduceLT]
theorem r_worst_4_3 {L : Nat} {xs : Nat → Int32} {D n : Nat} {I J : ex_Mem} {m : Nat} (hm : m < 8) (hpm : J 74 m = nI 4) (hv : ∀ k, k ≤ m → vMsg J k) (hp : ∀ k, k ≤ m → vPer J k) : ri L xs (D + 2) 100 [.ref 52, .int (nI m), .int (nI 3)] (mkH n I J) (r_wst (r_ph J m 3) m 3 4) (mkH n I (r_ph J m 3)) := by
  show xx cb_G _ _ _ 100 0 [.ref 52, .int (nI m), .int (nI 3), ex_no, ex_no, ex_no] [] _ _
  refine xi_aload_n (pc' := 1) rfl rfl rfl ?_
  refine xr_getp (pc' := 4) rfl rfl (by decide) rfl rfl rfl ?_
  refine xi_iload_n (pc' := 5) rfl rfl rfl ?_
  refine xi_iload_n (pc' := 6) rfl rfl rfl ?_
  refine xr_iast (j := m) (pc' := 7) rfl rfl (by decide) (by first | rfl | (simp only [ix_add, ix_mul, ix_pred]; done) | (simp only [ix_add, ix_mul, ix_pred, *]; done)) (by omega) (by decide) rfl ?_
  refine xi_iconst (pc' := 8) rfl rfl ?_
  refine xi_istore_n (pc' := 9) rfl (st1_3 rfl) rfl ?_
  refine xi_iload_n (pc' := 10) rfl rfl rfl ?_
  refine xi_istore (pc' := 12) rfl (st1_4 rfl) rfl ?_
  refine xi_iload (pc' := 14) rfl rfl rfl ?_
  refine xi_iconst (pc' := 15) rfl rfl ?_
  refine xi_icmpf (pc' := 18) (tg := 56) rfl rfl (by decide) rfl ?_
  refine xi_aload_n (pc' := 19) rfl rfl rfl ?_
  refine xi_iload (pc' := 21) rfl rfl rfl ?_
  refine xi_iload_n (pc' := 22) rfl rfl rfl ?_
  refine xi_iconst (pc' := 23) rfl rfl ?_
  refine xi_iadd (pc' := 24) rfl rfl ?_
  refine xx_topi (y := nI (m + 1)) (ix_add m 1) ?_
  refine xx_callVi (pc' := 27) rfl rfl (by decide) rfl rfl (by show _ < 81 + 2 * _; omega) (Nat.le_of_ble_eq_true rfl) rfl rfl (r_loadOf_ok (f := 3) (nm := m + 1) (by decide) (by omega) (fun k hk => vMsg_ph (hv k (by omega))) (fun k hk => vPer_ph (hp k (by omega)))) ?_
  refine xi_istore (pc' := 29) rfl (st1_5 rfl) rfl ?_
  refine xi_iload (pc' := 31) rfl rfl rfl ?_
  refine xi_iload_n (pc' := 32) rfl rfl rfl ?_
  refine xx_icmp (pc' := 35) (tg := 40) rfl rfl rfl (fun q32 => ?_) (fun q32 => ?_)
  · refine xi_iload_n (pc' := 41) rfl rfl rfl ?_
    refine xi_istore_n (pc' := 42) rfl (st1_3 rfl) rfl ?_
    refine xi_iload (pc' := 44) rfl rfl rfl ?_
    refine xi_aload_n (pc' := 45) rfl rfl rfl ?_
    refine xr_getp (pc' := 48) rfl rfl (by decide) rfl rfl rfl ?_
    refine xi_iload_n (pc' := 49) rfl rfl rfl ?_
    refine xr_ialdv (v := nI (4)) (j := m) (pc' := 50) rfl rfl (by decide) (by first | rfl | (simp only [ix_add, ix_mul, ix_pred]; done) | (simp only [ix_add, ix_mul, ix_pred, *]; done)) (by omega) (by decide) ((ph_fr (by decide)).trans hpm) rfl ?_
    refine xi_iadd (pc' := 51) rfl rfl ?_
    refine xx_topi (y := nI 7) (by decide) ?_
    refine xi_istore (pc' := 53) rfl (st1_4 rfl) rfl ?_
    refine xi_goto (pc' := 12) rfl rfl ?_
    refine xi_iload (pc' := 14) rfl rfl rfl ?_
    refine xi_iconst (pc' := 15) rfl rfl ?_
    refine xi_icmpt (pc' := 56) rfl rfl (by decide) ?_
    refine xi_iload_n (pc' := 57) rfl rfl rfl ?_
    refine xx_ireturn rfl rfl ?_
    refine ⟨congrArg (fun v => some (Value.int v)) ?_, rfl⟩
    simp only [ex_P] at *
    simp only [r_wst, r_mx, r_ph, *, ↓reduceIte, Nat.add_zero, or_true, true_or, not_true_eq_false, not_false_eq_true, or_false, false_or, wI_get, false_and, true_and, and_true, and_false, and_self, Nat.reduceEqDiff, Nat.succ_ne_zero, reduceCtorEq, nI_lit, nI_lit0, Nat.reduceLT]
  · refine xi_iload (pc' := 37) rfl rfl rfl ?_
    refine xi_goto (pc' := 41) rfl rfl ?_
    refine xi_istore_n (pc' := 42) rfl (st1_3 rfl) rfl ?_
    refine xi_iload (pc' := 44) rfl rfl rfl ?_
    refine xi_aload_n (pc' := 45) rfl rfl rfl ?_
    refine xr_getp (pc' := 48) rfl rfl (by decide) rfl rfl rfl ?_
    refine xi_iload_n (pc' := 49) rfl rfl rfl ?_
    refine xr_ialdv (v := nI (4)) (j := m) (pc' := 50) rfl rfl (by decide) (by first | rfl | (simp only [ix_add, ix_mul, ix_pred]; done) | (simp only [ix_add, ix_mul, ix_pred, *]; done)) (by omega) (by decide) ((ph_fr (by decide)).trans hpm) rfl ?_
    refine xi_iadd (pc' := 51) rfl rfl ?_
    refine xx_topi (y := nI 7) (by decide) ?_
    refine xi_istore (pc' := 53) rfl (st1_4 rfl) rfl ?_
    refine xi_goto (pc' := 12) rfl rfl ?_
    refine xi_iload (pc' := 14) rfl rfl rfl ?_
    refine xi_iconst (pc' := 15) rfl rfl ?_
    refine xi_icmpt (pc' := 56) rfl rfl (by decide) ?_
    refine xi_iload_n (pc' := 57) rfl rfl rfl ?_
    refine xx_ireturn rfl rfl ?_
    refine ⟨congrArg (fun v => some (Value.int v)) ?_, rfl⟩
    simp only [ex_P] at *
    simp only [r_wst, r_mx, r_ph, *, ↓reduceIte, Nat.add_zero, or_true, true_or, not_true_eq_false, not_false_eq_true, or_false, false_or, wI_get, false_and, true_and, and_true, and_false, and_self, Nat.reduceEqDiff, Nat.succ_ne_zero, reduceCtorEq, nI_lit, nI_lit0, Nat.reduceLT]
theorem r_worst_ok {L : Nat} {xs : Nat → Int32} {D n : Nat} {I J : ex_Mem} {m ph : Nat} (hm : m < 8) (hph : ph < tk J 74 m) (hv : ∀ k, k ≤ m → vMsg J k) (hp : ∀ k, k ≤ m → vPer J k) : ri L xs (D + 2) 100 [.ref 52, .int (nI m), .int (nI ph)] (mkH n I J) (r_wst (r_ph J m ph) m ph (tk J 74 m)) (mkH n I (r_ph J m ph)) := by
  obtain ⟨h1, h2⟩ := hp m (Nat.le_refl m)
  rcases h2 with h2 | h2 | h2 <;> rw [h2] at h1 hph ⊢
  · rcases (by omega : ph = 0) with rfl
    exact r_worst_1_0 hm h1 hv hp
  · rcases (by omega : ph = 0 ∨ ph = 1) with rfl | rfl
    · exact r_worst_2_0 hm h1 hv hp
    · exact r_worst_2_1 hm h1 hv hp
  · rcases (by omega : ph = 0 ∨ ph = 1 ∨ ph = 2 ∨ ph = 3) with rfl | rfl | rfl | rfl
    · exact r_worst_4_0 hm h1 hv hp
    · exact r_worst_4_1 hm h1 hv hp
    · exact r_worst_4_2 hm h1 hv hp
    · exact r_worst_4_3 hm h1 hv hp
/-- the best phase among those below k + 1, and its load -/
def r_bpS (B : Nat × Int32) (w : Int32) (k : Nat) : Nat × Int32 := if B.2 ≤ w then B else (k, w)
def r_bp (J : ex_Mem) (m p : Nat) : Nat → Nat × Int32
  | 0 => (0, r_wst (r_ph J m 0) m 0 p)
  | k + 1 => r_bpS (r_bp J m p k) (r_wst (r_ph J m (k + 1)) m (k + 1) p) (k + 1)
theorem bp_lt {J : ex_Mem} {m p : Nat} : ∀ k, (r_bp J m p k).1 ≤ k
  | 0 => Nat.le_refl 0
  | k + 1 => by
    have h := bp_lt (J := J) (m := m) (p := p) k
    show (r_bpS (r_bp J m p k) _ (k + 1)).1 ≤ k + 1
    unfold r_bpS
    split
    · omega
    · exact Nat.le_refl _
theorem ph_tk {J : ex_Mem} {m ph k : Nat} : tk (r_ph J m ph) 74 k = tk J 74 k := tk_eq (ph_fr (by decide))
theorem r_bp_loop {L : Nat} {xs : Nat → Int32} {D n : Nat} {I J : ex_Mem} {m : Nat} {bu : Int32} {Q : Option Value → ex_Hp → Prop} (hm : m < 8) (hv : ∀ k, k ≤ m → vMsg J k) (hp : ∀ k, k ≤ m → vPer J k) (kk : ∀ v6 : Value, v6.category = 1 → xx cb_G L xs (D + 3) 99 95 [.ref 52, .int bu, .int (nI m), .int (nI (r_bp J m (tk J 74 m) (tk J 74 m - 1)).1), .int (r_bp J m (tk J 74 m) (tk J 74 m - 1)).2, .int (nI (tk J 74 m)), v6] [] (mkH n I (r_ph J m (tk J 74 m - 1))) Q) : ∀ (j k : Nat), k + 1 + j = tk J 74 m → ∀ v6 : Value, v6.category = 1 → xx cb_G L xs (D + 3) 99 39 [.ref 52, .int bu, .int (nI m), .int (nI (r_bp J m (tk J 74 m) k).1), .int (r_bp J m (tk J 74 m) k).2, .int (nI (k + 1)), v6] [] (mkH n I (r_ph J m k)) Q := by
  intro j
  induction j with
  | zero =>
    intro k hk v6 h6
    have hk1 : k + 1 = tk J 74 m := by omega
    have hk2 : tk J 74 m - 1 = k := by omega
    rw [hk2, ← hk1] at kk
    rw [← hk1]
    refine xi_iload (pc' := 41) rfl rfl rfl ?_
    refine xi_aload_n (pc' := 42) rfl rfl rfl ?_
    refine xr_getp (pc' := 45) rfl rfl (by decide) rfl rfl rfl ?_
    refine xi_iload_n (pc' := 46) rfl rfl rfl ?_
    refine xr_ialdv (v := nI (tk J 74 m)) (j := m) (pc' := 47) rfl rfl (by decide) (by first | rfl | (simp only [ix_add, ix_mul, ix_pred]; done) | (simp only [ix_add, ix_mul, ix_pred, *]; done)) (by omega) (by decide) ((ph_fr (by decide)).trans (hp m (Nat.le_refl m)).1) rfl ?_
    refine xx_icmp (pc' := 50) (tg := 95) rfl rfl rfl (fun q47 => ?_) (fun q47 => absurd (show ex_P .ge (nI (k + 1)) (nI (tk J 74 m)) from by rw [← hk1]; exact Int32.le_refl _) q47)
    exact kk _ h6
  | succ j ih =>
    intro k hk v6 h6
    refine xi_iload (pc' := 41) rfl rfl rfl ?_
    refine xi_aload_n (pc' := 42) rfl rfl rfl ?_
    refine xr_getp (pc' := 45) rfl rfl (by decide) rfl rfl rfl ?_
    refine xi_iload_n (pc' := 46) rfl rfl rfl ?_
    refine xr_ialdv (v := nI (tk J 74 m)) (j := m) (pc' := 47) rfl rfl (by decide) (by first | rfl | (simp only [ix_add, ix_mul, ix_pred]; done) | (simp only [ix_add, ix_mul, ix_pred, *]; done)) (by omega) (by decide) ((ph_fr (by decide)).trans (hp m (Nat.le_refl m)).1) rfl ?_
    refine xx_icmp (pc' := 50) (tg := 95) rfl rfl rfl (fun q47 => absurd q47 (show ¬ ex_P .ge (nI (k + 1)) (nI (tk J 74 m)) from nI_ge (by omega) (by have := (hp m (Nat.le_refl m)).2; omega))) (fun q47 => ?_)
    refine xi_aload_n (pc' := 51) rfl rfl rfl ?_
    refine xi_iload_n (pc' := 52) rfl rfl rfl ?_
    refine xi_iload (pc' := 54) rfl rfl rfl ?_
    refine xx_callVi (pc' := 57) rfl rfl (by decide) rfl rfl (by show _ < 81 + 2 * _; omega) (Nat.le_of_ble_eq_true rfl) rfl rfl (r_worst_ok (J := r_ph J m k) (ph := k + 1) hm (by rw [ph_tk]; omega) (fun i hi => vMsg_ph (hv i hi)) (fun i hi => vPer_ph (hp i hi))) ?_
    refine xi_istore (pc' := 59) rfl (st1_6 rfl) rfl ?_
    refine xi_iload (pc' := 61) rfl rfl rfl ?_
    refine xi_iload (pc' := 63) rfl rfl rfl ?_
    refine xx_icmp (pc' := 66) (tg := 71) rfl rfl rfl (fun q63 => ?_) (fun q63 => ?_)
    · refine xi_iload_n (pc' := 72) rfl rfl rfl ?_
      refine xi_istore_n (pc' := 73) rfl (st1_3 rfl) rfl ?_
      refine xi_iload (pc' := 75) rfl rfl rfl ?_
      refine xi_iload (pc' := 77) rfl rfl rfl ?_
      refine xx_icmp (pc' := 80) (tg := 85) rfl rfl rfl (fun q77 => ?_) (fun q77 => ?_)
      · refine xi_iload (pc' := 87) rfl rfl rfl ?_
        refine xi_istore (pc' := 89) rfl (st1_4 rfl) rfl ?_
        refine xi_iincv (y := nI (k + 1 + 1)) (pc' := 92) rfl rfl (ix_add _ _) (st1_5 rfl) rfl ?_
        refine xi_goto (pc' := 39) rfl rfl ?_
        have e := fun v h => ih (k + 1) (by omega) v h
        rw [ph_ph]
        simp only [ex_P] at q63 q77
        first | exact absurd q63 q77 | exact absurd q77 q63 | (rw [show r_bp J m (tk J 74 m) (k + 1) = r_bpS (r_bp J m (tk J 74 m) k) (r_wst (r_ph J m (k + 1)) m (k + 1) (tk J 74 m)) (k + 1) from rfl] at e; rw [ph_tk, ph_ph] at q63 ; simp only [r_bpS, q63, ↓reduceIte] at e; rw [ph_tk]; exact e _ rfl)
      · refine xi_iload (pc' := 82) rfl rfl rfl ?_
        refine xi_goto (pc' := 87) rfl rfl ?_
        refine xi_istore (pc' := 89) rfl (st1_4 rfl) rfl ?_
        refine xi_iincv (y := nI (k + 1 + 1)) (pc' := 92) rfl rfl (ix_add _ _) (st1_5 rfl) rfl ?_
        refine xi_goto (pc' := 39) rfl rfl ?_
        have e := fun v h => ih (k + 1) (by omega) v h
        rw [ph_ph]
        simp only [ex_P] at q63 q77
        first | exact absurd q63 q77 | exact absurd q77 q63 | (rw [show r_bp J m (tk J 74 m) (k + 1) = r_bpS (r_bp J m (tk J 74 m) k) (r_wst (r_ph J m (k + 1)) m (k + 1) (tk J 74 m)) (k + 1) from rfl] at e; rw [ph_tk, ph_ph] at q63 ; simp only [r_bpS, q63, ↓reduceIte] at e; rw [ph_tk]; exact e _ rfl)
    · refine xi_iload (pc' := 68) rfl rfl rfl ?_
      refine xi_goto (pc' := 72) rfl rfl ?_
      refine xi_istore_n (pc' := 73) rfl (st1_3 rfl) rfl ?_
      refine xi_iload (pc' := 75) rfl rfl rfl ?_
      refine xi_iload (pc' := 77) rfl rfl rfl ?_
      refine xx_icmp (pc' := 80) (tg := 85) rfl rfl rfl (fun q77 => ?_) (fun q77 => ?_)
      · refine xi_iload (pc' := 87) rfl rfl rfl ?_
        refine xi_istore (pc' := 89) rfl (st1_4 rfl) rfl ?_
        refine xi_iincv (y := nI (k + 1 + 1)) (pc' := 92) rfl rfl (ix_add _ _) (st1_5 rfl) rfl ?_
        refine xi_goto (pc' := 39) rfl rfl ?_
        have e := fun v h => ih (k + 1) (by omega) v h
        rw [ph_ph]
        simp only [ex_P] at q63 q77
        first | exact absurd q63 q77 | exact absurd q77 q63 | (rw [show r_bp J m (tk J 74 m) (k + 1) = r_bpS (r_bp J m (tk J 74 m) k) (r_wst (r_ph J m (k + 1)) m (k + 1) (tk J 74 m)) (k + 1) from rfl] at e; rw [ph_tk, ph_ph] at q63 ; simp only [r_bpS, q63, ↓reduceIte] at e; rw [ph_tk]; exact e _ rfl)
      · refine xi_iload (pc' := 82) rfl rfl rfl ?_
        refine xi_goto (pc' := 87) rfl rfl ?_
        refine xi_istore (pc' := 89) rfl (st1_4 rfl) rfl ?_
        refine xi_iincv (y := nI (k + 1 + 1)) (pc' := 92) rfl rfl (ix_add _ _) (st1_5 rfl) rfl ?_
        refine xi_goto (pc' := 39) rfl rfl ?_
        have e := fun v h => ih (k + 1) (by omega) v h
        rw [ph_ph]
        simp only [ex_P] at q63 q77
        first | exact absurd q63 q77 | exact absurd q77 q63 | (rw [show r_bp J m (tk J 74 m) (k + 1) = r_bpS (r_bp J m (tk J 74 m) k) (r_wst (r_ph J m (k + 1)) m (k + 1) (tk J 74 m)) (k + 1) from rfl] at e; rw [ph_tk, ph_ph] at q63 ; simp only [r_bpS, q63, ↓reduceIte] at e; rw [ph_tk]; exact e _ rfl)
