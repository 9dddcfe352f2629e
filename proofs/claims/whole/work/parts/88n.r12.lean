def r_slS (S : ex_Mem) (m : Nat) : ex_Mem := r_ph S m (r_bp S m (tk S 74 m) (tk S 74 m - 1)).1
def r_sl (J : ex_Mem) : Nat → ex_Mem
  | 0 => J
  | m + 1 => r_slS (r_sl J m) m
theorem sl_fr {J : ex_Mem} {a k : Nat} (h : a ≠ 75) : ∀ m, r_sl J m a k = J a k
  | 0 => rfl
  | m + 1 => (ph_fr h).trans (sl_fr h m)
theorem vMsg_sl {J : ex_Mem} {m k : Nat} (h : vMsg J k) : vMsg (r_sl J m) k := vMsg_eq (sl_fr (by decide) m) (sl_fr (by decide) m) (sl_fr (by decide) m) (sl_fr (by decide) m) (sl_fr (by decide) m) h
theorem vPer_sl {J : ex_Mem} {m k : Nat} (h : vPer J k) : vPer (r_sl J m) k := vPer_eq (sl_fr (by decide) m) h
theorem ph_wI {S : ex_Mem} {m a b : Nat} : ex_wI (r_ph S m a) 75 m (nI b) = r_ph S m b := by
  show r_ph (r_ph S m a) m b = _
  rw [ph_ph]
def r_most (S : ex_Mem) (nm : Nat) : Nat → Int32
  | 0 => nI 0
  | f + 1 => r_mx (r_most S nm f) (r_load S f nm)
def r_lds (S : ex_Mem) (nm : Nat) : Nat → ex_Mem
  | 0 => S
  | f + 1 => ex_wI (r_lds S nm f) 78 f (r_load (r_lds S nm f) f nm)
theorem lds_fr {S : ex_Mem} {nm a k : Nat} (h : a ≠ 78) : ∀ f, r_lds S nm f a k = S a k
  | 0 => rfl
  | f + 1 => (wI_fr h).trans (lds_fr h f)
theorem vMsg_lds {S : ex_Mem} {nm f k : Nat} (h : vMsg S k) : vMsg (r_lds S nm f) k := vMsg_eq (lds_fr (by decide) f) (lds_fr (by decide) f) (lds_fr (by decide) f) (lds_fr (by decide) f) (lds_fr (by decide) f) h
theorem vPer_lds {S : ex_Mem} {nm f k : Nat} (h : vPer S k) : vPer (r_lds S nm f) k := vPer_eq (lds_fr (by decide) f) h
theorem r_sl_loop {L : Nat} {xs : Nat → Int32} {D n : Nat} {I J : ex_Mem} {nm : Nat} {bu : Int32} {Q : Option Value → ex_Hp → Prop} (h8 : nm ≤ 8) (hnm : J 52 17 = nI nm) (hv : ∀ k, k < nm → vMsg J k) (hp : ∀ k, k < nm → vPer J k) (kk : ∀ v3 v4 v5 v6 : Value, v3.category = 1 → v4.category = 1 → v5.category = 1 → v6.category = 1 → xx cb_G L xs (D + 3) 99 108 [.ref 52, .int bu, .int (nI nm), v3, v4, v5, v6] [] (mkH n I (r_sl J nm)) Q) : ∀ (j m : Nat), m + j = nm → ∀ v3 v4 v5 v6 : Value, v3.category = 1 → v4.category = 1 → v5.category = 1 → v6.category = 1 → xx cb_G L xs (D + 3) 99 18 [.ref 52, .int bu, .int (nI m), v3, v4, v5, v6] [] (mkH n I (r_sl J m)) Q := by
  intro j
  induction j with
  | zero =>
    intro m hm v3 v4 v5 v6 h3 h4 h5 h6
    have hm : m = nm := by omega
    subst hm
    refine xi_iload_n (pc' := 19) rfl rfl rfl ?_
    refine xi_aload_n (pc' := 20) rfl rfl rfl ?_
    refine xr_getiv (v := nI (m)) (pc' := 23) rfl rfl (by decide) (by decide) ((sl_fr (by decide) m).trans hnm) rfl ?_
    refine xx_icmp (pc' := 26) (tg := 108) rfl rfl rfl (fun q23 => ?_) (fun q23 => absurd (show ex_P .ge (nI m) (nI m) from Int32.le_refl _) q23)
    exact kk _ _ _ _ h3 h4 h5 h6
  | succ j ih =>
    intro m hm v3 v4 v5 v6 h3 h4 h5 h6
    refine xi_iload_n (pc' := 19) rfl rfl rfl ?_
    refine xi_aload_n (pc' := 20) rfl rfl rfl ?_
    refine xr_getiv (v := nI (nm)) (pc' := 23) rfl rfl (by decide) (by decide) ((sl_fr (by decide) m).trans hnm) rfl ?_
    refine xx_icmp (pc' := 26) (tg := 108) rfl rfl rfl (fun q23 => absurd q23 (show ¬ ex_P .ge (nI m) (nI nm) from nI_ge (by omega) (by omega))) (fun q23 => ?_)
    refine xi_iconst (pc' := 27) rfl rfl ?_
    refine xi_istore_n (pc' := 28) rfl (st1_3 rfl) rfl ?_
    refine xi_aload_n (pc' := 29) rfl rfl rfl ?_
    refine xi_iload_n (pc' := 30) rfl rfl rfl ?_
    refine xi_iconst (pc' := 31) rfl rfl ?_
    refine xx_callVi (pc' := 34) rfl rfl (by decide) rfl rfl (by show _ < 81 + 2 * _; omega) (Nat.le_of_ble_eq_true rfl) rfl rfl (r_worst_ok (J := r_sl J m) (ph := 0) (by omega) (by have := (vPer_sl (m := m) (hp m (by omega))).2; omega) (fun k hk => vMsg_sl (hv k (by omega))) (fun k hk => vPer_sl (hp k (by omega)))) ?_
    refine xi_istore (pc' := 36) rfl (st1_4 rfl) rfl ?_
    refine xi_iconst (pc' := 37) rfl rfl ?_
    refine xi_istore (pc' := 39) rfl (st1_5 rfl) rfl ?_
    have hpm := (vPer_sl (m := m) (hp m (by omega))).2
    refine r_bp_loop (J := r_sl J m) (by omega) (fun k hk => vMsg_sl (hv k (by omega))) (fun k hk => vPer_sl (hp k (by omega))) (fun v6 h6 => ?_) (tk (r_sl J m) 74 m - 1) 0 (by omega) _ h6
    refine xi_aload_n (pc' := 96) rfl rfl rfl ?_
    refine xr_getp (pc' := 99) rfl rfl (by decide) rfl rfl rfl ?_
    refine xi_iload_n (pc' := 100) rfl rfl rfl ?_
    refine xi_iload_n (pc' := 101) rfl rfl rfl ?_
    refine xr_iast (j := m) (pc' := 102) rfl rfl (by decide) (by first | rfl | (simp only [ix_add, ix_mul, ix_pred]; done) | (simp only [ix_add, ix_mul, ix_pred, *]; done)) (by omega) (by decide) rfl ?_
    refine xi_iincv (y := nI (m + 1)) (pc' := 105) rfl rfl (ix_add _ _) (st1_2 rfl) rfl ?_
    refine xi_goto (pc' := 18) rfl rfl ?_
    rw [ph_wI]
    exact ih (m + 1) (by omega) _ _ _ _ rfl rfl rfl h6
theorem r_most_loop {L : Nat} {xs : Nat → Int32} {D n : Nat} {I J : ex_Mem} {nm : Nat} {bu : Int32} {v5 v6 : Value} {Q : Option Value → ex_Hp → Prop} (h8 : nm ≤ 8) (hnm : J 52 17 = nI nm) (hv : ∀ k, k < nm → vMsg J k) (hp : ∀ k, k < nm → vPer J k) (kk : ∀ v4 : Value, v4.category = 1 → xx cb_G L xs (D + 3) 99 147 [.ref 52, .int bu, .int (r_most J nm 4), .int (nI 4), v4, v5, v6] [] (mkH n I J) Q) : ∀ (j f : Nat), f + j = 4 → ∀ v4 : Value, v4.category = 1 → xx cb_G L xs (D + 3) 99 112 [.ref 52, .int bu, .int (r_most J nm f), .int (nI f), v4, v5, v6] [] (mkH n I J) Q := by
  intro j
  induction j with
  | zero =>
    intro f hf v4 h4
    have hf : f = 4 := by omega
    subst hf
    refine xi_iload_n (pc' := 113) rfl rfl rfl ?_
    refine xi_iconst (pc' := 114) rfl rfl ?_
    refine xx_icmp (pc' := 117) (tg := 147) rfl rfl rfl (fun q114 => ?_) (fun q114 => absurd (show ex_P .ge (nI 4) (nI 4) from Int32.le_refl _) q114)
    exact kk _ h4
  | succ j ih =>
    intro f hf v4 h4
    refine xi_iload_n (pc' := 113) rfl rfl rfl ?_
    refine xi_iconst (pc' := 114) rfl rfl ?_
    refine xx_icmp (pc' := 117) (tg := 147) rfl rfl rfl (fun q114 => absurd q114 (show ¬ ex_P .ge (nI f) (nI 4) from nI_ge (by omega) (by decide))) (fun q114 => ?_)
    refine xi_aload_n (pc' := 118) rfl rfl rfl ?_
    refine xi_iload_n (pc' := 119) rfl rfl rfl ?_
    refine xi_aload_n (pc' := 120) rfl rfl rfl ?_
    refine xr_getiv (v := nI (nm)) (pc' := 123) rfl rfl (by decide) (by decide) (hnm) rfl ?_
    refine xx_callVi (pc' := 126) rfl rfl (by decide) rfl rfl (by show _ < 81 + 2 * _; omega) (Nat.le_of_ble_eq_true rfl) rfl rfl (r_loadOf_ok (by omega) h8 hv hp) ?_
    refine xi_istore (pc' := 128) rfl (st1_4 rfl) rfl ?_
    refine xi_iload (pc' := 130) rfl rfl rfl ?_
    refine xi_iload_n (pc' := 131) rfl rfl rfl ?_
    refine xx_icmp (pc' := 134) (tg := 139) rfl rfl rfl (fun q131 => ?_) (fun q131 => ?_)
    · refine xi_iload_n (pc' := 140) rfl rfl rfl ?_
      refine xi_istore_n (pc' := 141) rfl (st1_2 rfl) rfl ?_
      refine xi_iincv (y := nI (f + 1)) (pc' := 144) rfl rfl (ix_add _ _) (st1_3 rfl) rfl ?_
      refine xi_goto (pc' := 112) rfl rfl ?_
      have e := fun v h => ih (f + 1) (by omega) v h
      rw [show r_most J nm (f + 1) = r_mx (r_most J nm f) (r_load J f nm) from rfl] at e
      simp only [ex_P] at q131
      simp only [r_mx, q131, ↓reduceIte] at e
      exact e _ rfl
    · refine xi_iload (pc' := 136) rfl rfl rfl ?_
      refine xi_goto (pc' := 140) rfl rfl ?_
      refine xi_istore_n (pc' := 141) rfl (st1_2 rfl) rfl ?_
      refine xi_iincv (y := nI (f + 1)) (pc' := 144) rfl rfl (ix_add _ _) (st1_3 rfl) rfl ?_
      refine xi_goto (pc' := 112) rfl rfl ?_
      have e := fun v h => ih (f + 1) (by omega) v h
      rw [show r_most J nm (f + 1) = r_mx (r_most J nm f) (r_load J f nm) from rfl] at e
      simp only [ex_P] at q131
      simp only [r_mx, q131, ↓reduceIte] at e
      exact e _ rfl
theorem r_lds_loop {L : Nat} {xs : Nat → Int32} {D n : Nat} {I J : ex_Mem} {nm : Nat} {bu mo : Int32} {v4 v5 v6 : Value} {Q : Option Value → ex_Hp → Prop} (h8 : nm ≤ 8) (hnm : J 52 17 = nI nm) (hv : ∀ k, k < nm → vMsg J k) (hp : ∀ k, k < nm → vPer J k) (kk : xx cb_G L xs (D + 3) 99 183 [.ref 52, .int bu, .int mo, .int (nI 4), v4, v5, v6] [] (mkH n I (r_lds J nm 4)) Q) : ∀ (j f : Nat), f + j = 4 → xx cb_G L xs (D + 3) 99 157 [.ref 52, .int bu, .int mo, .int (nI f), v4, v5, v6] [] (mkH n I (r_lds J nm f)) Q := by
  intro j
  induction j with
  | zero =>
    intro f hf
    have hf : f = 4 := by omega
    subst hf
    refine xi_iload_n (pc' := 158) rfl rfl rfl ?_
    refine xi_iconst (pc' := 159) rfl rfl ?_
    refine xx_icmp (pc' := 162) (tg := 183) rfl rfl rfl (fun q159 => ?_) (fun q159 => absurd (show ex_P .ge (nI 4) (nI 4) from Int32.le_refl _) q159)
    exact kk
  | succ j ih =>
    intro f hf
    refine xi_iload_n (pc' := 158) rfl rfl rfl ?_
    refine xi_iconst (pc' := 159) rfl rfl ?_
    refine xx_icmp (pc' := 162) (tg := 183) rfl rfl rfl (fun q159 => absurd q159 (show ¬ ex_P .ge (nI f) (nI 4) from nI_ge (by omega) (by decide))) (fun q159 => ?_)
    refine xi_aload_n (pc' := 163) rfl rfl rfl ?_
    refine xr_getp (pc' := 166) rfl rfl (by decide) rfl rfl rfl ?_
    refine xi_iload_n (pc' := 167) rfl rfl rfl ?_
    refine xi_aload_n (pc' := 168) rfl rfl rfl ?_
    refine xi_iload_n (pc' := 169) rfl rfl rfl ?_
    refine xi_aload_n (pc' := 170) rfl rfl rfl ?_
    refine xr_getiv (v := nI (nm)) (pc' := 173) rfl rfl (by decide) (by decide) ((lds_fr (by decide) f).trans hnm) rfl ?_
    refine xx_callVi (pc' := 176) rfl rfl (by decide) rfl rfl (by show _ < 81 + 2 * _; omega) (Nat.le_of_ble_eq_true rfl) rfl rfl (r_loadOf_ok (by omega) h8 (fun k hk => vMsg_lds (hv k hk)) (fun k hk => vPer_lds (hp k hk))) ?_
    refine xr_iast (j := f) (pc' := 177) rfl rfl (by decide) (by first | rfl | (simp only [ix_add, ix_mul, ix_pred]; done) | (simp only [ix_add, ix_mul, ix_pred, *]; done)) (by omega) (by decide) rfl ?_
    refine xi_iincv (y := nI (f + 1)) (pc' := 180) rfl rfl (ix_add _ _) (st1_3 rfl) rfl ?_
    refine xi_goto (pc' := 157) rfl rfl ?_
    exact ih (f + 1) (by omega)
def r_sealed (S : ex_Mem) (nm : Nat) : ex_Mem := ex_wI (ex_wI (r_lds S nm 4) 52 27 (nI 1)) 52 29 (nI 0)
def r_seal (J : ex_Mem) (nm : Nat) (bu : Int32) : Int32 × ex_Mem := if r_most (r_sl J nm) nm 4 ≤ bu then (r_most (r_sl J nm) nm 4, r_sealed (r_sl J nm) nm) else (- nI 2, r_sl J nm)
theorem r_seal_s {L : Nat} {xs : Nat → Int32} {D n : Nat} {I J : ex_Mem} {bu : Int32} (hz : J 52 27 = nI 1) : ri L xs D 99 [.ref 52, .int bu] (mkH n I J) (- nI 6) (mkH n I J) := by
  show xx cb_G _ _ _ 99 0 [.ref 52, .int bu, ex_no, ex_no, ex_no, ex_no, ex_no] [] _ _
  refine xi_aload_n (pc' := 1) rfl rfl rfl ?_
  refine xr_getiv (v := nI (1)) (pc' := 4) rfl rfl (by decide) (by decide) (hz) rfl ?_
  refine xi_iff (pc' := 7) (tg := 10) rfl rfl (by decide) rfl ?_
  refine xi_bipushm (pc' := 9) rfl (by decide) rfl ?_
  refine xx_ireturn rfl rfl ?_
  exact ⟨rfl, rfl⟩
theorem r_seal_b {L : Nat} {xs : Nat → Int32} {D n : Nat} {I J : ex_Mem} {bu : Int32} (hz : J 52 27 = nI 0) (hb : ¬ 0 ≤ bu) : ri L xs D 99 [.ref 52, .int bu] (mkH n I J) (- nI 1) (mkH n I J) := by
  show xx cb_G _ _ _ 99 0 [.ref 52, .int bu, ex_no, ex_no, ex_no, ex_no, ex_no] [] _ _
  refine xi_aload_n (pc' := 1) rfl rfl rfl ?_
  refine xr_getiv (v := nI (0)) (pc' := 4) rfl rfl (by decide) (by decide) (hz) rfl ?_
  refine xi_ift (pc' := 10) rfl rfl (by decide) ?_
  refine xi_iload_n (pc' := 11) rfl rfl rfl ?_
  refine xx_if (pc' := 14) (tg := 16) rfl rfl rfl (fun q11 => absurd q11 (show ¬ ex_P .ge bu 0 from hb)) (fun q11 => ?_)
  refine xi_iconstm (pc' := 15) rfl rfl ?_
  refine xx_ireturn rfl rfl ?_
  exact ⟨rfl, rfl⟩
theorem r_seal_ok {L : Nat} {xs : Nat → Int32} {D n : Nat} {I J : ex_Mem} {nm : Nat} {bu : Int32} (h8 : nm ≤ 8) (hnm : J 52 17 = nI nm) (hv : ∀ k, k < nm → vMsg J k) (hp : ∀ k, k < nm → vPer J k) (hz : J 52 27 = nI 0) (hb : 0 ≤ bu) : ri L xs (D + 3) 99 [.ref 52, .int bu] (mkH n I J) ((r_seal J nm bu).1) (mkH n I (r_seal J nm bu).2) := by
  show xx cb_G _ _ _ 99 0 [.ref 52, .int bu, ex_no, ex_no, ex_no, ex_no, ex_no] [] _ _
  refine xi_aload_n (pc' := 1) rfl rfl rfl ?_
  refine xr_getiv (v := nI (0)) (pc' := 4) rfl rfl (by decide) (by decide) (hz) rfl ?_
  refine xi_ift (pc' := 10) rfl rfl (by decide) ?_
  refine xi_iload_n (pc' := 11) rfl rfl rfl ?_
  refine xx_if (pc' := 14) (tg := 16) rfl rfl rfl (fun q11 => ?_) (fun q11 => absurd (show ex_P .ge bu 0 from hb) q11)
  refine xi_iconst (pc' := 17) rfl rfl ?_
  refine xi_istore_n (pc' := 18) rfl (st1_2 rfl) rfl ?_
  refine r_sl_loop (D := D) h8 hnm hv hp (fun v3 v4 v5 v6 h3 h4 h5 h6 => ?_) nm 0 (by omega) _ _ _ _ rfl rfl rfl rfl
  refine xi_iconst (pc' := 109) rfl rfl ?_
  refine xi_istore_n (pc' := 110) rfl (st1_2 rfl) rfl ?_
  refine xi_iconst (pc' := 111) rfl rfl ?_
  refine xi_istore_n (pc' := 112) rfl (st1_3 rfl) rfl ?_
  refine r_most_loop (D := D) (J := r_sl J nm) (h8) ((sl_fr (by decide) nm).trans hnm) (fun k hk => vMsg_sl (hv k hk)) (fun k hk => vPer_sl (hp k hk)) (fun w4 g4 => ?_) 4 0 (by omega) _ h4
  refine xi_iload_n (pc' := 148) rfl rfl rfl ?_
  refine xi_iload_n (pc' := 149) rfl rfl rfl ?_
  refine xx_icmp (pc' := 152) (tg := 155) rfl rfl rfl (fun q149 => ?_) (fun q149 => ?_)
  · refine xi_iconst (pc' := 156) rfl rfl ?_
    refine xi_istore_n (pc' := 157) rfl (st1_3 rfl) rfl ?_
    refine r_lds_loop (D := D) (J := r_sl J nm) (h8) ((sl_fr (by decide) nm).trans hnm) (fun k hk => vMsg_sl (hv k hk)) (fun k hk => vPer_sl (hp k hk)) ?_ 4 0 (by omega)
    refine xi_aload_n (pc' := 184) rfl rfl rfl ?_
    refine xi_iconst (pc' := 185) rfl rfl ?_
    refine xr_puti (z := 0) (pc' := 188) rfl rfl (by decide) (Or.inr ⟨rfl, by decide⟩) rfl ?_
    refine xi_aload_n (pc' := 189) rfl rfl rfl ?_
    refine xi_iconst (pc' := 190) rfl rfl ?_
    refine xr_puti (z := 0) (pc' := 193) rfl rfl (by decide) (Or.inl rfl) rfl ?_
    refine xi_iload_n (pc' := 194) rfl rfl rfl ?_
    refine xx_ireturn rfl rfl ?_
    rw [show r_seal J nm bu = (r_most (r_sl J nm) nm 4, r_sealed (r_sl J nm) nm) from if_pos q149]
    exact ⟨rfl, rfl⟩
  · refine xi_bipushm (pc' := 154) rfl (by decide) rfl ?_
    refine xx_ireturn rfl rfl ?_
    rw [show r_seal J nm bu = (- nI 2, r_sl J nm) from if_neg q149]
    exact ⟨rfl, rfl⟩
