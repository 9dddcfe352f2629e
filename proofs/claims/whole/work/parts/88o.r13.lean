def busB (J : ex_Mem) : Prop := J 52 30 = nI (tk J 52 30) ∧ tk J 52 30 < 2
theorem busB_eq {J J' : ex_Mem} (h : busB J) (e : J' 52 30 = J 52 30) : busB J' := by
  unfold busB at *
  rw [tk_eq e, e]
  exact h
theorem d3_fr {A : Int32 × ex_Mem} {m bb a k : Nat} (h1 : a ≠ 77) (h2 : ¬ (a = 52 ∧ k = 30)) : r_d3 A m bb a k = A.2 a k := by
  unfold r_d3
  split
  · exact wI_fr h1
  · rw [wI_fr h1]; exact if_neg h2
theorem d2_fr {A : Int32 × ex_Mem} {m bb a k : Nat} (h : nt a k) (h1 : a ≠ 77) (h2 : ¬ (a = 52 ∧ k = 30)) : r_d2 A m bb a k = A.2 a k := by
  unfold r_d2
  split
  · exact (d3_fr h1 h2).trans (att_nt h)
  · exact wI_fr h1
theorem d1_fr {A : Int32 × ex_Mem} {m bb a k : Nat} (h : nt a k) (h1 : a ≠ 77) (h2 : ¬ (a = 52 ∧ k = 30)) : r_d1 A m bb a k = A.2 a k := by
  unfold r_d1
  split
  · exact (d2_fr h h1 h2).trans (att_nt h)
  · exact wI_fr h1
theorem does_fr {J : ex_Mem} {m bb a k : Nat} (h : nt a k) (h1 : a ≠ 77) (h2 : ¬ (a = 52 ∧ k = 30)) : r_does J m bb a k = J a k := (d1_fr h h1 h2).trans (att_nt h)
theorem nI_bus {J : ex_Mem} {b : Nat} (h : J 52 30 = nI b) (hb : b < 2) : busB J := by
  have e : tk J 52 30 = b := by unfold tk; rw [h]; exact nI_clamp (by omega)
  exact ⟨by rw [e]; exact h, by rw [e]; exact hb⟩
theorem d3_bus {A : Int32 × ex_Mem} {m bb : Nat} (h : A.2 52 30 = nI bb) (hb : bb < 2) : busB (r_d3 A m bb) := by
  unfold r_d3
  split
  · exact nI_bus (b := bb) h hb
  · exact nI_bus (b := 1 - bb) rfl (by omega)
theorem d2_bus {A : Int32 × ex_Mem} {m bb : Nat} (h : A.2 52 30 = nI bb) (hb : bb < 2) : busB (r_d2 A m bb) := by
  unfold r_d2
  split
  · exact d3_bus ((att_nt nt_bus).trans h) hb
  · exact nI_bus (b := bb) h hb
theorem d1_bus {A : Int32 × ex_Mem} {m bb : Nat} (h : A.2 52 30 = nI bb) (hb : bb < 2) : busB (r_d1 A m bb) := by
  unfold r_d1
  split
  · exact d2_bus ((att_nt nt_bus).trans h) hb
  · exact nI_bus (b := bb) h hb
theorem does_bus {J : ex_Mem} {m : Nat} (h : busB J) : busB (r_does J m (tk J 52 30)) := d1_bus ((att_nt nt_bus).trans h.1) h.2
theorem d3_hw {A : Int32 × ex_Mem} {N m bb : Nat} (h : hwB N A.2) : hwB N (r_d3 A m bb) := by
  unfold r_d3
  split
  · exact hwB_w h (by omega)
  · exact hwB_w (hwB_w h (by omega)) (by omega)
theorem d2_hw {A : Int32 × ex_Mem} {N m bb : Nat} (hv : vMsg A.2 m) (h : hwB N A.2) (hN : N + 12 < 2 ^ 31) : hwB (N + 12) (r_d2 A m bb) := by
  unfold r_d2
  split
  · exact d3_hw (att_hw hv h hN)
  · exact hwB_up (hwB_w h (by omega)) (by omega)
theorem d1_hw {A : Int32 × ex_Mem} {N m bb : Nat} (hv : vMsg A.2 m) (h : hwB N A.2) (hN : N + 24 < 2 ^ 31) : hwB (N + 24) (r_d1 A m bb) := by
  unfold r_d1
  split
  · exact d2_hw (vMsg_att hv) (att_hw hv h (by omega)) (by omega)
  · exact hwB_up (hwB_w h (by omega)) (by omega)
theorem does_hw {J : ex_Mem} {N m bb : Nat} (hv : vMsg J m) (h : hwB N J) (hN : N + 36 < 2 ^ 31) : hwB (N + 36) (r_does J m bb) := d1_hw (N := N + 12) (vMsg_att hv) (att_hw hv h (by omega)) (by omega)
theorem nte_fr {J : ex_Mem} {m a k : Nat} (h : a ≠ 80) : ∀ t, r_nte J m t a k = J a k
  | 0 => rfl
  | t + 1 => (wI_fr h).trans (nte_fr h t)
/-- one message of a frame -/
def r_rd (S : ex_Mem) (m : Nat) : ex_Mem := r_nte (r_does S m (tk S 52 30)) m 6
def r_rs (A : Int32 × ex_Mem) (m f : Nat) : Int32 × ex_Mem :=
  if r_isIn A.2 m f = 0 then A else if r_aside A.2 m 6 = 0 then (A.1 + (if nI 4 ≤ r_rd A.2 m 77 m then nI 0 else nI 1), r_rd A.2 m) else A
def r_rn (A : Int32 × ex_Mem) (f : Nat) : Nat → Int32 × ex_Mem
  | 0 => A
  | m + 1 => r_rs (r_rn A f m) m f
/-- what a frame keeps: table, frame, count of messages -/
def okR (nm f : Nat) (J : ex_Mem) : Prop := J 52 17 = nI nm ∧ J 52 29 = nI f ∧ busB J ∧ (∀ k, k < nm → vMsg J k) ∧ ∀ k, k < nm → vPer J k
theorem rd_fr {J : ex_Mem} {m a k : Nat} (h : nt a k) (h1 : a ≠ 77) (h2 : ¬ (a = 52 ∧ k = 30)) (h3 : a ≠ 80) : r_rd J m a k = J a k := (nte_fr h3 6).trans (does_fr h h1 h2)
theorem rd_tb {J : ex_Mem} {m a k : Nat} (h : 67 ≤ a ∧ a ≤ 75) : r_rd J m a k = J a k := rd_fr (nt69 h) (by omega) (by omega) (by omega)
theorem okR_rd {nm f m : Nat} {J : ex_Mem} (h : okR nm f J) : okR nm f (r_rd J m) := by
  obtain ⟨h1, h2, h3, h4, h5⟩ := h
  refine ⟨(rd_fr (by unfold nt; omega) (by omega) (by omega) (by omega)).trans h1, (rd_fr (by unfold nt; omega) (by omega) (by omega) (by omega)).trans h2, busB_eq (does_bus h3) (nte_fr (by decide) 6), fun k hk => ?_, fun k hk => vPer_eq (rd_tb (by decide)) (h5 k hk)⟩
  exact vMsg_eq (rd_tb (by decide)) (rd_tb (by decide)) (rd_tb (by decide)) (rd_tb (by decide)) (rd_tb (by decide)) (h4 k hk)
theorem okR_rs {nm f m : Nat} {A : Int32 × ex_Mem} (h : okR nm f A.2) : okR nm f (r_rs A m f).2 := by
  unfold r_rs
  split
  · exact h
  · split
    · exact okR_rd h
    · exact h
theorem okR_rn {nm f : Nat} {A : Int32 × ex_Mem} (h : okR nm f A.2) : ∀ m, okR nm f (r_rn A f m).2
  | 0 => h
  | m + 1 => okR_rs (okR_rn h m)
theorem rd_hw {J : ex_Mem} {N m : Nat} (hv : vMsg J m) (h : hwB N J) (hN : N + 36 < 2 ^ 31) : hwB (N + 36) (r_rd J m) := hwB_eq (does_hw hv h hN) (nte_fr (by decide) 6)
theorem rs_hw {A : Int32 × ex_Mem} {N m f : Nat} (hv : vMsg A.2 m) (h : hwB N A.2) (hN : N + 36 < 2 ^ 31) : hwB (N + 36) (r_rs A m f).2 := by
  unfold r_rs
  split
  · exact hwB_up h (by omega)
  · split
    · exact rd_hw hv h hN
    · exact hwB_up h (by omega)
theorem rn_hw {A : Int32 × ex_Mem} {N nm f : Nat} (ho : okR nm f A.2) (h : hwB N A.2) : ∀ m, m ≤ nm → N + 36 * m < 2 ^ 31 → hwB (N + 36 * m) (r_rn A f m).2
  | 0, _, _ => h
  | m + 1, hm, hN => rs_hw (N := N + 36 * m) ((okR_rn ho m).2.2.2.1 m (by omega)) (rn_hw ho h m (by omega) (by omega)) (by omega)
theorem rs_0 {A : Int32 × ex_Mem} {m f : Nat} (h : r_isIn A.2 m f = 0) : r_rs A m f = A := if_pos h
theorem rs_1 {A : Int32 × ex_Mem} {m f : Nat} (h : ¬ r_isIn A.2 m f = 0) (h2 : ¬ r_aside A.2 m 6 = 0) : r_rs A m f = A := by
  unfold r_rs
  rw [if_neg h, if_neg h2]
theorem rs_2 {A : Int32 × ex_Mem} {m f : Nat} (h : ¬ r_isIn A.2 m f = 0) (h2 : r_aside A.2 m 6 = 0) : r_rs A m f = (A.1 + (if nI 4 ≤ r_rd A.2 m 77 m then nI 0 else nI 1), r_rd A.2 m) := by
  unfold r_rs
  rw [if_neg h, if_pos h2]
theorem r_rn_loop {L : Nat} {xs : Nat → Int32} {D n : Nat} {I J : ex_Mem} {nm f N : Nat} {A : Int32 × ex_Mem} {Q : Option Value → ex_Hp → Prop} (h8 : nm ≤ 8) (hf : f < 4) (ho : okR nm f A.2) (hh : hwB N A.2) (hN : N + 300 < 2 ^ 31) (kk : xx cb_G L xs (D + 7) 107 107 [.ref 52, .int (r_rn A f nm).1, .int (nI nm)] [] (mkH n I (r_rn A f nm).2) Q) : ∀ (j m : Nat), m + j = nm → xx cb_G L xs (D + 7) 107 45 [.ref 52, .int (r_rn A f m).1, .int (nI m)] [] (mkH n I (r_rn A f m).2) Q := by
  intro j
  induction j with
  | zero =>
    intro m hm
    have hm : m = nm := by omega
    subst hm
    refine xi_iload_n (pc' := 46) rfl rfl rfl ?_
    refine xi_aload_n (pc' := 47) rfl rfl rfl ?_
    refine xr_getiv (v := nI (m)) (pc' := 50) rfl rfl (by decide) (by decide) ((okR_rn ho m).1) rfl ?_
    refine xx_icmp (pc' := 53) (tg := 107) rfl rfl rfl (fun q50 => ?_) (fun q50 => absurd (show ex_P .ge (nI m) (nI m) from Int32.le_refl _) q50)
    exact kk
  | succ j ih =>
    intro m hm
    refine xi_iload_n (pc' := 46) rfl rfl rfl ?_
    refine xi_aload_n (pc' := 47) rfl rfl rfl ?_
    refine xr_getiv (v := nI (nm)) (pc' := 50) rfl rfl (by decide) (by decide) ((okR_rn ho m).1) rfl ?_
    refine xx_icmp (pc' := 53) (tg := 107) rfl rfl rfl (fun q50 => absurd q50 (show ¬ ex_P .ge (nI m) (nI nm) from nI_ge (by omega) (by omega))) (fun q50 => ?_)
    refine xi_aload_n (pc' := 54) rfl rfl rfl ?_
    refine xi_iload_n (pc' := 55) rfl rfl rfl ?_
    refine xi_aload_n (pc' := 56) rfl rfl rfl ?_
    refine xr_getiv (v := nI (f)) (pc' := 59) rfl rfl (by decide) (by decide) ((okR_rn ho m).2.1) rfl ?_
    refine xx_callVi (pc' := 62) rfl rfl (by decide) rfl rfl (by show _ < 81 + 2 * _; omega) (Nat.le_of_ble_eq_true rfl) rfl rfl (r_isIn_ok (by omega) hf ((okR_rn ho m).2.2.2.2 m (by omega))) ?_
    refine xx_if (pc' := 65) (tg := 101) rfl rfl rfl (fun q62 => ?_) (fun q62 => ?_)
    · refine xi_iincv (y := nI (m + 1)) (pc' := 104) rfl rfl (ix_add _ _) (st1_2 rfl) rfl ?_
      refine xi_goto (pc' := 45) rfl rfl ?_
      have e := ih (m + 1) (by omega)
      rw [show r_rn A f (m + 1) = r_rs (r_rn A f m) m f from rfl] at e
      simp only [ex_P] at q62
      first | (rw [rs_0 q62] at e; exact e) | (simp only [ex_P] at q70; first | (rw [rs_1 q62 q70] at e; exact e) | (rw [rs_2 q62 (Classical.not_not.mp q70)] at e; simp only [ex_P] at q91; first | (rw [if_pos (show nI 4 ≤ r_rd (r_rn A f m).2 m 77 m from q91)] at e; exact e) | (rw [if_neg (show ¬ nI 4 ≤ r_rd (r_rn A f m).2 m 77 m from q91)] at e; exact e)))
    · refine xi_aload_n (pc' := 66) rfl rfl rfl ?_
      refine xi_iload_n (pc' := 67) rfl rfl rfl ?_
      refine xx_callVi (pc' := 70) rfl rfl (by decide) rfl rfl (by show _ < 81 + 2 * _; omega) (Nat.le_of_ble_eq_true rfl) rfl rfl (r_isAside_ok (by omega)) ?_
      refine xx_if (pc' := 73) (tg := 101) rfl rfl rfl (fun q70 => ?_) (fun q70 => ?_)
      · refine xi_iincv (y := nI (m + 1)) (pc' := 104) rfl rfl (ix_add _ _) (st1_2 rfl) rfl ?_
        refine xi_goto (pc' := 45) rfl rfl ?_
        have e := ih (m + 1) (by omega)
        rw [show r_rn A f (m + 1) = r_rs (r_rn A f m) m f from rfl] at e
        simp only [ex_P] at q62
        first | (rw [rs_0 q62] at e; exact e) | (simp only [ex_P] at q70; first | (rw [rs_1 q62 q70] at e; exact e) | (rw [rs_2 q62 (Classical.not_not.mp q70)] at e; simp only [ex_P] at q91; first | (rw [if_pos (show nI 4 ≤ r_rd (r_rn A f m).2 m 77 m from q91)] at e; exact e) | (rw [if_neg (show ¬ nI 4 ≤ r_rd (r_rn A f m).2 m 77 m from q91)] at e; exact e)))
      · refine xi_aload_n (pc' := 74) rfl rfl rfl ?_
        refine xi_iload_n (pc' := 75) rfl rfl rfl ?_
        refine xx_callVv (pc' := 78) rfl rfl (by decide) rfl rfl (by show _ < 81 + 2 * _; omega) (Nat.le_of_ble_eq_true rfl) rfl rfl (r_does_ok (D := D) (N := N + 36 * m) (by omega) (okR_rn ho m).2.2.1.2 (okR_rn ho m).2.2.1.1 ((okR_rn ho m).2.2.2.1 m (by omega)) (rn_hw ho hh m (by omega) (by omega)) (by omega)) ?_
        refine xi_aload_n (pc' := 79) rfl rfl rfl ?_
        refine xi_iload_n (pc' := 80) rfl rfl rfl ?_
        refine xx_callVv (pc' := 83) rfl rfl (by decide) rfl rfl (by show _ < 81 + 2 * _; omega) (Nat.le_of_ble_eq_true rfl) rfl rfl (r_note_ok (by omega)) ?_
        refine xi_iload_n (pc' := 84) rfl rfl rfl ?_
        refine xi_aload_n (pc' := 85) rfl rfl rfl ?_
        refine xr_getp (pc' := 88) rfl rfl (by decide) rfl rfl rfl ?_
        refine xi_iload_n (pc' := 89) rfl rfl rfl ?_
        refine xr_iald (j := m) (pc' := 90) rfl rfl (by decide) (by first | rfl | (simp only [ix_add, ix_mul, ix_pred]; done) | (simp only [ix_add, ix_mul, ix_pred, *]; done)) (by omega) (by decide) rfl ?_
        refine xi_iconst (pc' := 91) rfl rfl ?_
        refine xx_icmp (pc' := 94) (tg := 98) rfl rfl rfl (fun q91 => ?_) (fun q91 => ?_)
        · refine xi_iconst (pc' := 99) rfl rfl ?_
          refine xi_iadd (pc' := 100) rfl rfl ?_
          refine xi_istore_n (pc' := 101) rfl (st1_1 rfl) rfl ?_
          refine xi_iincv (y := nI (m + 1)) (pc' := 104) rfl rfl (ix_add _ _) (st1_2 rfl) rfl ?_
          refine xi_goto (pc' := 45) rfl rfl ?_
          have e := ih (m + 1) (by omega)
          rw [show r_rn A f (m + 1) = r_rs (r_rn A f m) m f from rfl] at e
          simp only [ex_P] at q62
          first | (rw [rs_0 q62] at e; exact e) | (simp only [ex_P] at q70; first | (rw [rs_1 q62 q70] at e; exact e) | (rw [rs_2 q62 (Classical.not_not.mp q70)] at e; simp only [ex_P] at q91; first | (rw [if_pos (show nI 4 ≤ r_rd (r_rn A f m).2 m 77 m from q91)] at e; exact e) | (rw [if_neg (show ¬ nI 4 ≤ r_rd (r_rn A f m).2 m 77 m from q91)] at e; exact e)))
        · refine xi_iconst (pc' := 95) rfl rfl ?_
          refine xi_goto (pc' := 99) rfl rfl ?_
          refine xi_iadd (pc' := 100) rfl rfl ?_
          refine xi_istore_n (pc' := 101) rfl (st1_1 rfl) rfl ?_
          refine xi_iincv (y := nI (m + 1)) (pc' := 104) rfl rfl (ix_add _ _) (st1_2 rfl) rfl ?_
          refine xi_goto (pc' := 45) rfl rfl ?_
          have e := ih (m + 1) (by omega)
          rw [show r_rn A f (m + 1) = r_rs (r_rn A f m) m f from rfl] at e
          simp only [ex_P] at q62
          first | (rw [rs_0 q62] at e; exact e) | (simp only [ex_P] at q70; first | (rw [rs_1 q62 q70] at e; exact e) | (rw [rs_2 q62 (Classical.not_not.mp q70)] at e; simp only [ex_P] at q91; first | (rw [if_pos (show nI 4 ≤ r_rd (r_rn A f m).2 m 77 m from q91)] at e; exact e) | (rw [if_neg (show ¬ nI 4 ≤ r_rd (r_rn A f m).2 m 77 m from q91)] at e; exact e)))
