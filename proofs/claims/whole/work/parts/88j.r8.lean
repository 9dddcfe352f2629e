theorem bool_aside {J : ex_Mem} {m : Nat} : ∀ t, ex_b01 (r_aside J m t) = true
  | 0 => b01_0
  | t + 1 => by
    unfold r_aside
    split
    · split
      · exact b01_0
      · split
        · exact b01_0
        · exact b01_1
    · exact b01_1
theorem r_aside_loop {L : Nat} {xs : Nat → Int32} {D n : Nat} {I J : ex_Mem} {m : Nat} (hm : m < 8) : ∀ (j t : Nat), t + j = 6 → xx cb_G L xs (D + 1) 115 4 [.ref 52, .int (nI m), .int (r_aside J m t), .int (nI t)] [] (mkH n I J) (fun r h => r = some (.int (r_aside J m 6)) ∧ h = mkH n I J) := by
  intro j
  induction j with
  | zero =>
    intro t ht
    have ht : t = 6 := by omega
    subst ht
    refine xi_iload_n (pc' := 5) rfl rfl rfl ?_
    refine xi_bipush (pc' := 7) rfl (by decide) rfl ?_
    refine xx_icmp (pc' := 10) (tg := 44) rfl rfl rfl (fun q7 => ?_) (fun q7 => absurd (show ex_P .ge (nI 6) (nI 6) from Int32.le_refl _) q7)
    refine xi_iload_n (pc' := 45) rfl rfl rfl ?_
    refine xx_zreturn rfl rfl (bool_aside 6) ?_
    exact ⟨rfl, rfl⟩
  | succ j ih =>
    intro t ht
    refine xi_iload_n (pc' := 5) rfl rfl rfl ?_
    refine xi_bipush (pc' := 7) rfl (by decide) rfl ?_
    refine xx_icmp (pc' := 10) (tg := 44) rfl rfl rfl (fun q7 => absurd q7 (show ¬ ex_P .ge (nI t) (nI 6) from nI_ge (by omega) (by decide))) (fun q7 => ?_)
    refine xi_iload_n (pc' := 11) rfl rfl rfl ?_
    refine xx_if (pc' := 14) (tg := 32) rfl rfl rfl (fun q11 => ?_) (fun q11 => ?_)
    · refine xi_iconst (pc' := 33) rfl rfl ?_
      refine xi_goto (pc' := 37) rfl rfl ?_
      refine xi_istore_n (pc' := 38) rfl (st1_2 rfl) rfl ?_
      refine xi_iincv (y := nI (t + 1)) (pc' := 41) rfl rfl (ix_add _ _) (st1_3 rfl) rfl ?_
      refine xi_goto (pc' := 4) rfl rfl ?_
      have e1 : r_aside J m (t + 1) = nI 1 := by
        simp only [ex_P, Classical.not_not] at *
        unfold r_aside
        simp only [*, ↓reduceIte]
      have e := ih (t + 1) (by omega)
      rw [e1] at e
      exact e
    · refine xi_aload_n (pc' := 15) rfl rfl rfl ?_
      refine xr_getp (pc' := 18) rfl rfl (by decide) rfl rfl rfl ?_
      refine xi_iload_n (pc' := 19) rfl rfl rfl ?_
      refine xr_zald (j := t) (pc' := 20) rfl rfl (by decide) (by first | rfl | (simp only [ix_add, ix_mul, ix_pred]; done) | (simp only [ix_add, ix_mul, ix_pred, *]; done)) (by omega) (by decide) rfl ?_
      refine xx_if (pc' := 23) (tg := 36) rfl rfl rfl (fun q20 => ?_) (fun q20 => ?_)
      · refine xi_iconst (pc' := 37) rfl rfl ?_
        refine xi_istore_n (pc' := 38) rfl (st1_2 rfl) rfl ?_
        refine xi_iincv (y := nI (t + 1)) (pc' := 41) rfl rfl (ix_add _ _) (st1_3 rfl) rfl ?_
        refine xi_goto (pc' := 4) rfl rfl ?_
        have e1 : r_aside J m (t + 1) = nI 0 := by
          simp only [ex_P, Classical.not_not] at *
          unfold r_aside
          simp only [*, ↓reduceIte]
        have e := ih (t + 1) (by omega)
        rw [e1] at e
        exact e
      · refine xi_aload_n (pc' := 24) rfl rfl rfl ?_
        refine xi_iload_n (pc' := 25) rfl rfl rfl ?_
        refine xi_iload_n (pc' := 26) rfl rfl rfl ?_
        refine xx_callVi (pc' := 29) rfl rfl (by decide) rfl rfl (by show _ < 81 + 2 * _; omega) (Nat.le_of_ble_eq_true rfl) rfl rfl (r_isOf_ok hm (by omega)) ?_
        refine xx_if (pc' := 32) (tg := 36) rfl rfl rfl (fun q29 => ?_) (fun q29 => ?_)
        · refine xi_iconst (pc' := 37) rfl rfl ?_
          refine xi_istore_n (pc' := 38) rfl (st1_2 rfl) rfl ?_
          refine xi_iincv (y := nI (t + 1)) (pc' := 41) rfl rfl (ix_add _ _) (st1_3 rfl) rfl ?_
          refine xi_goto (pc' := 4) rfl rfl ?_
          have e1 : r_aside J m (t + 1) = nI 0 := by
            simp only [ex_P, Classical.not_not] at *
            unfold r_aside
            simp only [*, ↓reduceIte]
          have e := ih (t + 1) (by omega)
          rw [e1] at e
          exact e
        · refine xi_iconst (pc' := 33) rfl rfl ?_
          refine xi_goto (pc' := 37) rfl rfl ?_
          refine xi_istore_n (pc' := 38) rfl (st1_2 rfl) rfl ?_
          refine xi_iincv (y := nI (t + 1)) (pc' := 41) rfl rfl (ix_add _ _) (st1_3 rfl) rfl ?_
          refine xi_goto (pc' := 4) rfl rfl ?_
          have e1 : r_aside J m (t + 1) = nI 1 := by
            simp only [ex_P, Classical.not_not] at *
            unfold r_aside
            simp only [*, ↓reduceIte]
          have e := ih (t + 1) (by omega)
          rw [e1] at e
          exact e
theorem r_isAside_ok {L : Nat} {xs : Nat → Int32} {D n : Nat} {I J : ex_Mem} {m : Nat} (hm : m < 8) : ri L xs (D + 1) 115 [.ref 52, .int (nI m)] (mkH n I J) (r_aside J m 6) (mkH n I J) := by
  show xx cb_G _ _ _ 115 0 [.ref 52, .int (nI m), ex_no, ex_no] [] _ _
  refine xi_iconst (pc' := 1) rfl rfl ?_
  refine xi_istore_n (pc' := 2) rfl (st1_2 rfl) rfl ?_
  refine xi_iconst (pc' := 3) rfl rfl ?_
  refine xi_istore_n (pc' := 4) rfl (st1_3 rfl) rfl ?_
  exact r_aside_loop hm 6 0 (by omega)
def r_now (J : ex_Mem) (m : Nat) : Int32 := if J 77 m = nI 4 then nI 2 else nI 1
def r_nt1 (J : ex_Mem) (m t : Nat) : Int32 := if r_isOf J m t = 0 then J 80 t else if r_now J m ≤ J 80 t then J 80 t else r_now J m
def r_nte (J : ex_Mem) (m : Nat) : Nat → ex_Mem
  | 0 => J
  | t + 1 => ex_wI (r_nte J m t) 80 t (r_nt1 (r_nte J m t) m t)
theorem r_note_loop {L : Nat} {xs : Nat → Int32} {D n : Nat} {I J : ex_Mem} {m : Nat} (hm : m < 8) : ∀ (j t : Nat), t + j = 6 → ∀ v3 : Value, v3.category = 1 → xx cb_G L xs (D + 1) 124 2 [.ref 52, .int (nI m), .int (nI t), v3] [] (mkH n I (r_nte J m t)) (fun r h => r = none ∧ h = mkH n I (r_nte J m 6)) := by
  intro j
  induction j with
  | zero =>
    intro t ht v3 h3
    have ht : t = 6 := by omega
    subst ht
    refine xi_iload_n (pc' := 3) rfl rfl rfl ?_
    refine xi_bipush (pc' := 5) rfl (by decide) rfl ?_
    refine xx_icmp (pc' := 8) (tg := 65) rfl rfl rfl (fun q5 => ?_) (fun q5 => absurd (show ex_P .ge (nI 6) (nI 6) from Int32.le_refl _) q5)
    refine xx_return rfl (by decide) ?_
    exact ⟨rfl, rfl⟩
  | succ j ih =>
    intro t ht v3 h3
    refine xi_iload_n (pc' := 3) rfl rfl rfl ?_
    refine xi_bipush (pc' := 5) rfl (by decide) rfl ?_
    refine xx_icmp (pc' := 8) (tg := 65) rfl rfl rfl (fun q5 => absurd q5 (show ¬ ex_P .ge (nI t) (nI 6) from nI_ge (by omega) (by decide))) (fun q5 => ?_)
    refine xi_aload_n (pc' := 9) rfl rfl rfl ?_
    refine xr_getp (pc' := 12) rfl rfl (by decide) rfl rfl rfl ?_
    refine xi_iload_n (pc' := 13) rfl rfl rfl ?_
    refine xr_iald (j := m) (pc' := 14) rfl rfl (by decide) (by first | rfl | (simp only [ix_add, ix_mul, ix_pred]; done) | (simp only [ix_add, ix_mul, ix_pred, *]; done)) (by omega) (by decide) rfl ?_
    refine xi_iconst (pc' := 15) rfl rfl ?_
    refine xx_icmp (pc' := 18) (tg := 22) rfl rfl rfl (fun q15 => ?_) (fun q15 => ?_)
    · refine xi_iconst (pc' := 23) rfl rfl ?_
      refine xi_istore_n (pc' := 24) rfl (st1_3 rfl) rfl ?_
      refine xi_aload_n (pc' := 25) rfl rfl rfl ?_
      refine xr_getp (pc' := 28) rfl rfl (by decide) rfl rfl rfl ?_
      refine xi_iload_n (pc' := 29) rfl rfl rfl ?_
      refine xi_aload_n (pc' := 30) rfl rfl rfl ?_
      refine xi_iload_n (pc' := 31) rfl rfl rfl ?_
      refine xi_iload_n (pc' := 32) rfl rfl rfl ?_
      refine xx_callVi (pc' := 35) rfl rfl (by decide) rfl rfl (by show _ < 81 + 2 * _; omega) (Nat.le_of_ble_eq_true rfl) rfl rfl (r_isOf_ok hm (by omega)) ?_
      refine xx_if (pc' := 38) (tg := 52) rfl rfl rfl (fun q35 => ?_) (fun q35 => ?_)
      · refine xi_aload_n (pc' := 53) rfl rfl rfl ?_
        refine xr_getp (pc' := 56) rfl rfl (by decide) rfl rfl rfl ?_
        refine xi_iload_n (pc' := 57) rfl rfl rfl ?_
        refine xr_iald (j := t) (pc' := 58) rfl rfl (by decide) (by first | rfl | (simp only [ix_add, ix_mul, ix_pred]; done) | (simp only [ix_add, ix_mul, ix_pred, *]; done)) (by omega) (by decide) rfl ?_
        refine xr_iast (j := t) (pc' := 59) rfl rfl (by decide) (by first | rfl | (simp only [ix_add, ix_mul, ix_pred]; done) | (simp only [ix_add, ix_mul, ix_pred, *]; done)) (by omega) (by decide) rfl ?_
        refine xi_iincv (y := nI (t + 1)) (pc' := 62) rfl rfl (ix_add _ _) (st1_2 rfl) rfl ?_
        refine xi_goto (pc' := 2) rfl rfl ?_
        have e := fun v h => ih (t + 1) (by omega) v h
        rw [show r_nte J m (t + 1) = ex_wI (r_nte J m t) 80 t (r_nt1 (r_nte J m t) m t) from rfl] at e
        simp only [ex_P, Classical.not_not] at q15 q35
        first | (simp only [ex_P] at q45; simp only [r_nt1, r_now, q15, q35, q45, ↓reduceIte] at e; exact e _ rfl) | (simp only [r_nt1, r_now, q15, q35, ↓reduceIte] at e; exact e _ rfl)
      · refine xi_iload_n (pc' := 39) rfl rfl rfl ?_
        refine xi_aload_n (pc' := 40) rfl rfl rfl ?_
        refine xr_getp (pc' := 43) rfl rfl (by decide) rfl rfl rfl ?_
        refine xi_iload_n (pc' := 44) rfl rfl rfl ?_
        refine xr_iald (j := t) (pc' := 45) rfl rfl (by decide) (by first | rfl | (simp only [ix_add, ix_mul, ix_pred]; done) | (simp only [ix_add, ix_mul, ix_pred, *]; done)) (by omega) (by decide) rfl ?_
        refine xx_icmp (pc' := 48) (tg := 52) rfl rfl rfl (fun q45 => ?_) (fun q45 => ?_)
        · refine xi_aload_n (pc' := 53) rfl rfl rfl ?_
          refine xr_getp (pc' := 56) rfl rfl (by decide) rfl rfl rfl ?_
          refine xi_iload_n (pc' := 57) rfl rfl rfl ?_
          refine xr_iald (j := t) (pc' := 58) rfl rfl (by decide) (by first | rfl | (simp only [ix_add, ix_mul, ix_pred]; done) | (simp only [ix_add, ix_mul, ix_pred, *]; done)) (by omega) (by decide) rfl ?_
          refine xr_iast (j := t) (pc' := 59) rfl rfl (by decide) (by first | rfl | (simp only [ix_add, ix_mul, ix_pred]; done) | (simp only [ix_add, ix_mul, ix_pred, *]; done)) (by omega) (by decide) rfl ?_
          refine xi_iincv (y := nI (t + 1)) (pc' := 62) rfl rfl (ix_add _ _) (st1_2 rfl) rfl ?_
          refine xi_goto (pc' := 2) rfl rfl ?_
          have e := fun v h => ih (t + 1) (by omega) v h
          rw [show r_nte J m (t + 1) = ex_wI (r_nte J m t) 80 t (r_nt1 (r_nte J m t) m t) from rfl] at e
          simp only [ex_P, Classical.not_not] at q15 q35
          first | (simp only [ex_P] at q45; simp only [r_nt1, r_now, q15, q35, q45, ↓reduceIte] at e; exact e _ rfl) | (simp only [r_nt1, r_now, q15, q35, ↓reduceIte] at e; exact e _ rfl)
        · refine xi_iload_n (pc' := 49) rfl rfl rfl ?_
          refine xi_goto (pc' := 58) rfl rfl ?_
          refine xr_iast (j := t) (pc' := 59) rfl rfl (by decide) (by first | rfl | (simp only [ix_add, ix_mul, ix_pred]; done) | (simp only [ix_add, ix_mul, ix_pred, *]; done)) (by omega) (by decide) rfl ?_
          refine xi_iincv (y := nI (t + 1)) (pc' := 62) rfl rfl (ix_add _ _) (st1_2 rfl) rfl ?_
          refine xi_goto (pc' := 2) rfl rfl ?_
          have e := fun v h => ih (t + 1) (by omega) v h
          rw [show r_nte J m (t + 1) = ex_wI (r_nte J m t) 80 t (r_nt1 (r_nte J m t) m t) from rfl] at e
          simp only [ex_P, Classical.not_not] at q15 q35
          first | (simp only [ex_P] at q45; simp only [r_nt1, r_now, q15, q35, q45, ↓reduceIte] at e; exact e _ rfl) | (simp only [r_nt1, r_now, q15, q35, ↓reduceIte] at e; exact e _ rfl)
    · refine xi_iconst (pc' := 19) rfl rfl ?_
      refine xi_goto (pc' := 23) rfl rfl ?_
      refine xi_istore_n (pc' := 24) rfl (st1_3 rfl) rfl ?_
      refine xi_aload_n (pc' := 25) rfl rfl rfl ?_
      refine xr_getp (pc' := 28) rfl rfl (by decide) rfl rfl rfl ?_
      refine xi_iload_n (pc' := 29) rfl rfl rfl ?_
      refine xi_aload_n (pc' := 30) rfl rfl rfl ?_
      refine xi_iload_n (pc' := 31) rfl rfl rfl ?_
      refine xi_iload_n (pc' := 32) rfl rfl rfl ?_
      refine xx_callVi (pc' := 35) rfl rfl (by decide) rfl rfl (by show _ < 81 + 2 * _; omega) (Nat.le_of_ble_eq_true rfl) rfl rfl (r_isOf_ok hm (by omega)) ?_
      refine xx_if (pc' := 38) (tg := 52) rfl rfl rfl (fun q35 => ?_) (fun q35 => ?_)
      · refine xi_aload_n (pc' := 53) rfl rfl rfl ?_
        refine xr_getp (pc' := 56) rfl rfl (by decide) rfl rfl rfl ?_
        refine xi_iload_n (pc' := 57) rfl rfl rfl ?_
        refine xr_iald (j := t) (pc' := 58) rfl rfl (by decide) (by first | rfl | (simp only [ix_add, ix_mul, ix_pred]; done) | (simp only [ix_add, ix_mul, ix_pred, *]; done)) (by omega) (by decide) rfl ?_
        refine xr_iast (j := t) (pc' := 59) rfl rfl (by decide) (by first | rfl | (simp only [ix_add, ix_mul, ix_pred]; done) | (simp only [ix_add, ix_mul, ix_pred, *]; done)) (by omega) (by decide) rfl ?_
        refine xi_iincv (y := nI (t + 1)) (pc' := 62) rfl rfl (ix_add _ _) (st1_2 rfl) rfl ?_
        refine xi_goto (pc' := 2) rfl rfl ?_
        have e := fun v h => ih (t + 1) (by omega) v h
        rw [show r_nte J m (t + 1) = ex_wI (r_nte J m t) 80 t (r_nt1 (r_nte J m t) m t) from rfl] at e
        simp only [ex_P, Classical.not_not] at q15 q35
        first | (simp only [ex_P] at q45; simp only [r_nt1, r_now, q15, q35, q45, ↓reduceIte] at e; exact e _ rfl) | (simp only [r_nt1, r_now, q15, q35, ↓reduceIte] at e; exact e _ rfl)
      · refine xi_iload_n (pc' := 39) rfl rfl rfl ?_
        refine xi_aload_n (pc' := 40) rfl rfl rfl ?_
        refine xr_getp (pc' := 43) rfl rfl (by decide) rfl rfl rfl ?_
        refine xi_iload_n (pc' := 44) rfl rfl rfl ?_
        refine xr_iald (j := t) (pc' := 45) rfl rfl (by decide) (by first | rfl | (simp only [ix_add, ix_mul, ix_pred]; done) | (simp only [ix_add, ix_mul, ix_pred, *]; done)) (by omega) (by decide) rfl ?_
        refine xx_icmp (pc' := 48) (tg := 52) rfl rfl rfl (fun q45 => ?_) (fun q45 => ?_)
        · refine xi_aload_n (pc' := 53) rfl rfl rfl ?_
          refine xr_getp (pc' := 56) rfl rfl (by decide) rfl rfl rfl ?_
          refine xi_iload_n (pc' := 57) rfl rfl rfl ?_
          refine xr_iald (j := t) (pc' := 58) rfl rfl (by decide) (by first | rfl | (simp only [ix_add, ix_mul, ix_pred]; done) | (simp only [ix_add, ix_mul, ix_pred, *]; done)) (by omega) (by decide) rfl ?_
          refine xr_iast (j := t) (pc' := 59) rfl rfl (by decide) (by first | rfl | (simp only [ix_add, ix_mul, ix_pred]; done) | (simp only [ix_add, ix_mul, ix_pred, *]; done)) (by omega) (by decide) rfl ?_
          refine xi_iincv (y := nI (t + 1)) (pc' := 62) rfl rfl (ix_add _ _) (st1_2 rfl) rfl ?_
          refine xi_goto (pc' := 2) rfl rfl ?_
          have e := fun v h => ih (t + 1) (by omega) v h
          rw [show r_nte J m (t + 1) = ex_wI (r_nte J m t) 80 t (r_nt1 (r_nte J m t) m t) from rfl] at e
          simp only [ex_P, Classical.not_not] at q15 q35
          first | (simp only [ex_P] at q45; simp only [r_nt1, r_now, q15, q35, q45, ↓reduceIte] at e; exact e _ rfl) | (simp only [r_nt1, r_now, q15, q35, ↓reduceIte] at e; exact e _ rfl)
        · refine xi_iload_n (pc' := 49) rfl rfl rfl ?_
          refine xi_goto (pc' := 58) rfl rfl ?_
          refine xr_iast (j := t) (pc' := 59) rfl rfl (by decide) (by first | rfl | (simp only [ix_add, ix_mul, ix_pred]; done) | (simp only [ix_add, ix_mul, ix_pred, *]; done)) (by omega) (by decide) rfl ?_
          refine xi_iincv (y := nI (t + 1)) (pc' := 62) rfl rfl (ix_add _ _) (st1_2 rfl) rfl ?_
          refine xi_goto (pc' := 2) rfl rfl ?_
          have e := fun v h => ih (t + 1) (by omega) v h
          rw [show r_nte J m (t + 1) = ex_wI (r_nte J m t) 80 t (r_nt1 (r_nte J m t) m t) from rfl] at e
          simp only [ex_P, Classical.not_not] at q15 q35
          first | (simp only [ex_P] at q45; simp only [r_nt1, r_now, q15, q35, q45, ↓reduceIte] at e; exact e _ rfl) | (simp only [r_nt1, r_now, q15, q35, ↓reduceIte] at e; exact e _ rfl)
theorem r_note_ok {L : Nat} {xs : Nat → Int32} {D n : Nat} {I J : ex_Mem} {m : Nat} (hm : m < 8) : ro L xs (D + 1) 124 [.ref 52, .int (nI m)] (mkH n I J) (mkH n I (r_nte J m 6)) := by
  show xx cb_G _ _ _ 124 0 [.ref 52, .int (nI m), ex_no, ex_no] [] _ _
  refine xi_iconst (pc' := 1) rfl rfl ?_
  refine xi_istore_n (pc' := 2) rfl (st1_2 rfl) rfl ?_
  exact r_note_loop hm 6 0 (by omega) _ rfl
def r_pl (C : Int32 × ex_Mem) (t : Nat) : ex_Mem := if C.1 = 0 then C.2 else ex_wI (ex_wI C.2 68 t (nI 0)) 67 t (nI 0)
def r_poll (J : ex_Mem) (bb : Nat) : Nat → ex_Mem
  | 0 => J
  | t + 1 => if r_poll J bb t 68 t = 0 then r_poll J bb t else r_pl (r_commands (r_poll J bb t) 0 t 2 bb) t
theorem pl_nt {C : Int32 × ex_Mem} {t a k : Nat} (h1 : a ≠ 67) (h2 : a ≠ 68) : r_pl C t a k = C.2 a k := by
  unfold r_pl
  split
  · rfl
  · rw [wI_fr h1, wI_fr h2]
theorem poll_nt {J : ex_Mem} {bb a k : Nat} (h : nt a k) (h1 : a ≠ 67) (h2 : a ≠ 68) : ∀ t, r_poll J bb t a k = J a k
  | 0 => rfl
  | t + 1 => by
    unfold r_poll
    split
    · exact poll_nt h h1 h2 t
    · rw [pl_nt h1 h2, cmds_nt h]
      exact poll_nt h h1 h2 t
theorem poll_hw {J : ex_Mem} {bb N : Nat} (hh : hwB N J) : ∀ t, N + 3 * t < 2 ^ 31 → hwB (N + 3 * t) (r_poll J bb t)
  | 0, _ => hh
  | t + 1, h => by
    unfold r_poll
    split
    · exact hwB_up (poll_hw hh t (by omega)) (by omega)
    · exact hwB_up (hwB_eq (cmds_hw (N := N + 3 * t) (poll_hw hh t (by omega)) (by omega)) (pl_nt (by decide) (by decide))) (by omega)
theorem r_poll_loop {L : Nat} {xs : Nat → Int32} {D n : Nat} {I J : ex_Mem} {bb N : Nat} (hbb : bb < 2) (hbus : J 52 30 = nI bb) (hh : hwB N J) (hN : N + 30 < 2 ^ 31) : ∀ (j t : Nat), t + j = 6 → xx cb_G L xs (D + 4) 108 2 [.ref 52, .int (nI t)] [] (mkH n I (r_poll J bb t)) (fun r h => r = none ∧ h = mkH n I (r_poll J bb 6)) := by
  intro j
  induction j with
  | zero =>
    intro t ht
    have ht : t = 6 := by omega
    subst ht
    refine xi_iload_n (pc' := 3) rfl rfl rfl ?_
    refine xi_bipush (pc' := 5) rfl (by decide) rfl ?_
    refine xx_icmp (pc' := 8) (tg := 51) rfl rfl rfl (fun q5 => ?_) (fun q5 => absurd (show ex_P .ge (nI 6) (nI 6) from Int32.le_refl _) q5)
    refine xx_return rfl (by decide) ?_
    exact ⟨rfl, rfl⟩
  | succ j ih =>
    intro t ht
    refine xi_iload_n (pc' := 3) rfl rfl rfl ?_
    refine xi_bipush (pc' := 5) rfl (by decide) rfl ?_
    refine xx_icmp (pc' := 8) (tg := 51) rfl rfl rfl (fun q5 => absurd q5 (show ¬ ex_P .ge (nI t) (nI 6) from nI_ge (by omega) (by decide))) (fun q5 => ?_)
    refine xi_aload_n (pc' := 9) rfl rfl rfl ?_
    refine xr_getp (pc' := 12) rfl rfl (by decide) rfl rfl rfl ?_
    refine xi_iload_n (pc' := 13) rfl rfl rfl ?_
    refine xr_zald (j := t) (pc' := 14) rfl rfl (by decide) (by first | rfl | (simp only [ix_add, ix_mul, ix_pred]; done) | (simp only [ix_add, ix_mul, ix_pred, *]; done)) (by omega) (by decide) rfl ?_
    refine xx_if (pc' := 17) (tg := 45) rfl rfl rfl (fun q14 => ?_) (fun q14 => ?_)
    · refine xi_iincv (y := nI (t + 1)) (pc' := 48) rfl rfl (ix_add _ _) (st1_1 rfl) rfl ?_
      refine xi_goto (pc' := 2) rfl rfl ?_
      have e := ih (t + 1) (by omega)
      rw [show r_poll J bb (t + 1) = (if r_poll J bb t 68 t = 0 then r_poll J bb t else r_pl (r_commands (r_poll J bb t) 0 t 2 bb) t) from rfl] at e
      simp only [ex_P, Classical.not_not] at q14
      first | (simp only [ex_P, Classical.not_not] at q28; simp only [r_pl, q14, q28, ↓reduceIte] at e; exact e) | (simp only [q14, ↓reduceIte] at e; exact e)
    · refine xi_aload_n (pc' := 18) rfl rfl rfl ?_
      refine xi_iconstm (pc' := 19) rfl rfl ?_
      refine xi_iload_n (pc' := 20) rfl rfl rfl ?_
      refine xi_iconst (pc' := 21) rfl rfl ?_
      refine xi_aload_n (pc' := 22) rfl rfl rfl ?_
      refine xr_getiv (v := nI (bb)) (pc' := 25) rfl rfl (by decide) (by decide) ((poll_nt nt_bus (by decide) (by decide) t).trans hbus) rfl ?_
      refine xx_callVi (pc' := 28) rfl rfl (by decide) rfl rfl (by show _ < 81 + 2 * _; omega) (Nat.le_of_ble_eq_true rfl) rfl rfl (r_commands_2 (D := D) (N := N + 3 * t) (b := bb) (by omega) hbb (poll_hw hh t (by omega)) (by omega)) ?_
      refine xx_if (pc' := 31) (tg := 45) rfl rfl rfl (fun q28 => ?_) (fun q28 => ?_)
      · refine xi_iincv (y := nI (t + 1)) (pc' := 48) rfl rfl (ix_add _ _) (st1_1 rfl) rfl ?_
        refine xi_goto (pc' := 2) rfl rfl ?_
        have e := ih (t + 1) (by omega)
        rw [show r_poll J bb (t + 1) = (if r_poll J bb t 68 t = 0 then r_poll J bb t else r_pl (r_commands (r_poll J bb t) 0 t 2 bb) t) from rfl] at e
        simp only [ex_P, Classical.not_not] at q14
        first | (simp only [ex_P, Classical.not_not] at q28; simp only [r_pl, q14, q28, ↓reduceIte] at e; exact e) | (simp only [q14, ↓reduceIte] at e; exact e)
      · refine xi_aload_n (pc' := 32) rfl rfl rfl ?_
        refine xr_getp (pc' := 35) rfl rfl (by decide) rfl rfl rfl ?_
        refine xi_iload_n (pc' := 36) rfl rfl rfl ?_
        refine xi_iconst (pc' := 37) rfl rfl ?_
        refine xr_zast (j := t) (pc' := 38) rfl rfl (by decide) (by first | rfl | (simp only [ix_add, ix_mul, ix_pred]; done) | (simp only [ix_add, ix_mul, ix_pred, *]; done)) (by omega) (by decide) (by decide) rfl ?_
        refine xi_aload_n (pc' := 39) rfl rfl rfl ?_
        refine xr_getp (pc' := 42) rfl rfl (by decide) rfl rfl rfl ?_
        refine xi_iload_n (pc' := 43) rfl rfl rfl ?_
        refine xi_iconst (pc' := 44) rfl rfl ?_
        refine xr_iast (j := t) (pc' := 45) rfl rfl (by decide) (by first | rfl | (simp only [ix_add, ix_mul, ix_pred]; done) | (simp only [ix_add, ix_mul, ix_pred, *]; done)) (by omega) (by decide) rfl ?_
        refine xi_iincv (y := nI (t + 1)) (pc' := 48) rfl rfl (ix_add _ _) (st1_1 rfl) rfl ?_
        refine xi_goto (pc' := 2) rfl rfl ?_
        have e := ih (t + 1) (by omega)
        rw [show r_poll J bb (t + 1) = (if r_poll J bb t 68 t = 0 then r_poll J bb t else r_pl (r_commands (r_poll J bb t) 0 t 2 bb) t) from rfl] at e
        simp only [ex_P, Classical.not_not] at q14
        first | (simp only [ex_P, Classical.not_not] at q28; simp only [r_pl, q14, q28, ↓reduceIte] at e; exact e) | (simp only [q14, ↓reduceIte] at e; exact e)
theorem r_poll_ok {L : Nat} {xs : Nat → Int32} {D n : Nat} {I J : ex_Mem} {bb N : Nat} (hbb : bb < 2) (hbus : J 52 30 = nI bb) (hh : hwB N J) (hN : N + 30 < 2 ^ 31) : ro L xs (D + 4) 108 [.ref 52] (mkH n I J) (mkH n I (r_poll J bb 6)) := by
  show xx cb_G _ _ _ 108 0 [.ref 52, ex_no] [] _ _
  refine xi_iconst (pc' := 1) rfl rfl ?_
  refine xi_istore_n (pc' := 2) rfl (st1_1 rfl) rfl ?_
  exact r_poll_loop hbb hbus hh hN 6 0 (by omega)
