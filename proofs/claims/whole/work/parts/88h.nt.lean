/-- places that an attempt never writes -/
def nt (a k : Nat) : Prop := (a = 52 ∧ k ≠ 3 ∧ k ≠ 32) ∨ a = 54 ∨ a = 57 ∨ a = 58 ∨ a = 59 ∨ (67 ≤ a ∧ a ≤ 75) ∨ (77 ≤ a ∧ a ≠ 79)
theorem nt_w {J : ex_Mem} {a k a' k' : Nat} {v : Int32} (h : nt a k) (hx : ¬ nt a' k') : ex_wI J a' k' v a k = J a k := by
  refine if_neg (fun q => hx ?_)
  rw [← q.1, ← q.2]
  exact h
theorem w53 {J : ex_Mem} {a k j : Nat} {v : Int32} (h : nt a k) : ex_wI J 53 j v a k = J a k := nt_w h (by unfold nt; omega)
theorem w55 {J : ex_Mem} {a k j : Nat} {v : Int32} (h : nt a k) : ex_wI J 55 j v a k = J a k := nt_w h (by unfold nt; omega)
theorem w56 {J : ex_Mem} {a k j : Nat} {v : Int32} (h : nt a k) : ex_wI J 56 j v a k = J a k := nt_w h (by unfold nt; omega)
theorem w523 {J : ex_Mem} {a k : Nat} {v : Int32} (h : nt a k) : ex_wI J 52 3 v a k = J a k := nt_w h (by unfold nt; omega)
theorem put_nt {J : ex_Mem} {b a k : Nat} {w : Int32} (h : nt a k) : (r_put J b w).2 a k = J a k := by
  unfold r_put
  split
  · dsimp only; rw [w523 h, w56 h, w55 h]
  · split
    · rfl
    · split
      · dsimp only; rw [w523 h, w56 h, w53 h, w55 h]
      · dsimp only; rw [w53 h, w55 h]
theorem says_nt {J : ex_Mem} {t b a k : Nat} {w : Int32} (h : nt a k) : (r_says J t b w).2 a k = J a k := by
  unfold r_says
  split
  · exact put_nt h
  · rfl
theorem hears_nt {J : ex_Mem} {t a k : Nat} {how c km kl : Int32} (h : nt a k) : (r_hears J t how c km kl).2 a k = J a k := hears_fr (by unfold nt at h; omega) (by unfold nt at h; omega) (by unfold nt at h; omega)
theorem takes_nt {J : ex_Mem} {t s nn a k : Nat} {fa : Int32} (h : nt a k) : (r_takes J t s nn fa).2 a k = J a k := takes_fr (by unfold nt at h; omega) (by unfold nt at h; omega) (by unfold nt at h; omega) (by unfold nt at h; omega)
theorem dw_nt {J : ex_Mem} {a k : Nat} {how v : Int32} (h : nt a k) : r_dw J how v a k = J a k := by
  unfold r_dw
  split
  · rw [nt_w h (show ¬ nt 52 32 by unfold nt; omega), nt_w h (show ¬ nt 79 _ by unfold nt; omega)]
  · rfl
theorem send_nt {J : ex_Mem} {t s b a k : Nat} (h : nt a k) : ∀ j, r_send J t s b j a k = J a k
  | 0 => rfl
  | j + 1 => by
    unfold r_send
    rw [dw_nt h, says_nt h]
    exact send_nt h j
theorem ans_nt {J : ex_Mem} {t s nn b a k : Nat} (h : nt a k) : (r_ans J t s nn b).2 a k = J a k := by
  show r_send _ t s b nn a k = J a k
  rw [send_nt h, says_nt h]
theorem dat_nt {J : ex_Mem} {b m a k : Nat} (h : nt a k) : ∀ j, r_dat J b m j a k = J a k
  | 0 => rfl
  | j + 1 => by
    unfold r_dat
    rw [dw_nt h, put_nt h]
    exact dat_nt h j
theorem tell_nt {J : ex_Mem} {how c : Int32} {s nn a k : Nat} (h : nt a k) (t : Nat) : r_tell J how c s nn t a k = J a k := tell_fr (by unfold nt at h; omega) (by unfold nt at h; omega) (by unfold nt at h; omega) (by unfold nt at h; omega) (by unfold nt at h; omega) t
theorem eff_nt {J : ex_Mem} {t cd b a k : Nat} (h : nt a k) : r_eff J t cd b a k = J a k := eff_fr (by unfold nt at h; omega) (by unfold nt at h; omega)
theorem c2_nt {J : ex_Mem} {t cd b a k : Nat} (h : nt a k) : (r_c2 J t cd b).2 a k = J a k := (hears_nt h).trans (put_nt h)
theorem c3_nt {J : ex_Mem} {t cd b a k : Nat} (h : nt a k) : r_c3 J t cd b a k = J a k := (eff_nt h).trans (c2_nt h)
theorem c4_nt {J : ex_Mem} {t cd b a k : Nat} (h : nt a k) : (r_c4 J t cd b).2 a k = J a k := (says_nt h).trans (c3_nt h)
theorem c5_nt {J : ex_Mem} {t cd b a k : Nat} (h : nt a k) : (r_c5 J t cd b).2 a k = J a k := (says_nt h).trans (c4_nt h)
theorem cmds_nt {J : ex_Mem} {m t cd b a k : Nat} (h : nt a k) : (r_commands J m t cd b).2 a k = J a k := by
  unfold r_commands
  split
  · exact c2_nt h
  · split
    · split
      · exact (nt_w h (show ¬ nt 76 _ by unfold nt; omega)).trans (c5_nt h)
      · exact c5_nt h
    · exact c4_nt h
theorem g1_nt {J : ex_Mem} {m x s nn b a k : Nat} (h : nt a k) : r_g1 J m x s nn b a k = J a k := (dat_nt h nn).trans (put_nt h)
theorem g2_nt {J : ex_Mem} {m x s nn b a k : Nat} (h : nt a k) : (r_g2 J m x s nn b).2 a k = J a k := (hears_nt h).trans (g1_nt h)
theorem g3_nt {J : ex_Mem} {m x s nn b a k : Nat} (h : nt a k) : (r_g3 J m x s nn b).2 a k = J a k := (takes_nt h).trans (g2_nt h)
theorem g4_nt {J : ex_Mem} {m x s nn b a k : Nat} (h : nt a k) : (r_g4 J m x s nn b).2 a k = J a k := (says_nt h).trans (g3_nt h)
theorem give_nt {J : ex_Mem} {m x s nn b a k : Nat} (h : nt a k) : (r_give J m x s nn b).2 a k = J a k := by
  unfold r_give
  split
  · exact g2_nt h
  · split
    · exact g3_nt h
    · exact g4_nt h
theorem telAll_nt {J : ex_Mem} {m s nn b a k : Nat} (h : nt a k) : r_telAll J m s nn b a k = J a k := (tell_nt h 6).trans (g1_nt h)
theorem pb_nt {J : ex_Mem} {y s nn b a k : Nat} (h : nt a k) : (r_pb J y s nn b).2 a k = J a k := (hears_nt h).trans (put_nt h)
theorem pd_nt {J : ex_Mem} {x y s nn b a k : Nat} (h : nt a k) : (r_pd J x y s nn b).2 a k = J a k := (hears_nt h).trans ((put_nt h).trans (pb_nt h))
theorem pe_nt {J : ex_Mem} {x y s nn b a k : Nat} (h : nt a k) : (r_pe J x y s nn b).2 a k = J a k := by
  have hp : (r_pd J x y s nn b).2 a k = J a k := pd_nt h
  unfold r_pe
  generalize r_pd J x y s nn b = P at *
  split
  · exact hp
  · split
    · exact (ans_nt h).trans hp
    · exact (ans_nt h).trans hp
theorem pf_nt {J : ex_Mem} {x y s nn b a k : Nat} (h : nt a k) : (r_pf J x y s nn b).2 a k = J a k := by
  have hp : (r_pe J x y s nn b).2 a k = J a k := pe_nt h
  unfold r_pf
  generalize r_pe J x y s nn b = P at *
  split
  · exact hp
  · split
    · exact (takes_nt h).trans hp
    · split
      · exact (says_nt h).trans ((takes_nt h).trans hp)
      · exact (says_nt h).trans ((takes_nt h).trans hp)
theorem pass_2 {J : ex_Mem} {x y s nn b : Nat} : (r_pass J x y s nn b).2 = (r_pf J x y s nn b).2 := by
  unfold r_pass
  dsimp only
theorem pass_nt {J : ex_Mem} {x y s nn b a k : Nat} (h : nt a k) : (r_pass J x y s nn b).2 a k = J a k := by
  rw [pass_2]
  exact pf_nt h
theorem cpy_nt {J : ex_Mem} {m a j : Nat} (h : nt a j) (k : Nat) : r_cpy J m k a j = J a j := cpy_fr (by unfold nt at h; omega) k
theorem ta_nt {J : ex_Mem} {x s nn b a k : Nat} (h : nt a k) : (r_ta J x s nn b).2 a k = J a k := (hears_nt h).trans (put_nt h)
theorem take_nt {J : ex_Mem} {m x s nn b a k : Nat} (h : nt a k) : (r_take J m x s nn b).2 a k = J a k := by
  unfold r_take
  split
  · exact ta_nt h
  · split
    · exact (ans_nt h).trans (ta_nt h)
    · split
      · exact (cpy_nt h nn).trans ((ans_nt h).trans (ta_nt h))
      · exact (ans_nt h).trans (ta_nt h)
theorem j0_nt {J : ex_Mem} {a k : Nat} (h : nt a k) : r_j0 J a k = J a k := nt_w h (by unfold nt; omega)
theorem att_nt {J : ex_Mem} {m b a k : Nat} (h : nt a k) : (r_attempt J m b).2 a k = J a k := by
  unfold r_attempt
  split
  · exact (give_nt h).trans (j0_nt h)
  · split
    · exact (telAll_nt h).trans (j0_nt h)
    · split
      · exact (cmds_nt h).trans (j0_nt h)
      · split
        · exact (pass_nt h).trans (j0_nt h)
        · exact (take_nt h).trans (j0_nt h)
theorem tk_eq {J J' : ex_Mem} {a m : Nat} (h : J' a m = J a m) : tk J' a m = tk J a m := congrArg Int32.toNatClampNeg h
theorem vMsg_eq {J J' : ex_Mem} {m : Nat} (h9 : J' 69 m = J 69 m) (h0 : J' 70 m = J 70 m) (h1 : J' 71 m = J 71 m) (h2 : J' 72 m = J 72 m) (h3 : J' 73 m = J 73 m) (hv : vMsg J m) : vMsg J' m := by
  unfold vMsg at *
  rw [tk_eq h9, tk_eq h0, tk_eq h1, tk_eq h2, tk_eq h3, h9, h0, h1, h2, h3]
  exact hv
theorem nt69 {a k : Nat} (h : 67 ≤ a ∧ a ≤ 75) : nt a k := Or.inr (Or.inr (Or.inr (Or.inr (Or.inr (Or.inl h)))))
theorem vMsg_att {J : ex_Mem} {m m' b : Nat} (hv : vMsg J m) : vMsg (r_attempt J m' b).2 m := vMsg_eq (att_nt (nt69 (by decide))) (att_nt (nt69 (by decide))) (att_nt (nt69 (by decide))) (att_nt (nt69 (by decide))) (att_nt (nt69 (by decide))) hv
/-- an attempt adds at most twelve words -/
theorem cmds_hw {J : ex_Mem} {N m t cd b : Nat} (hh : hwB N J) (hN : N + 3 < 2 ^ 31) : hwB (N + 3) (r_commands J m t cd b).2 := by
  unfold r_commands
  split
  · exact hwB_up (c2_hw hh (by omega)) (by omega)
  · split
    · split
      · exact hwB_w (c5_hw hh hN) (by omega)
      · exact c5_hw hh hN
    · exact hwB_up (c4_hw hh (by omega)) (by omega)
theorem give_hw {J : ex_Mem} {N m x s nn b : Nat} (hh : hwB N J) (h4 : nn ≤ 4) (hN : N + 12 < 2 ^ 31) : hwB (N + 12) (r_give J m x s nn b).2 := by
  unfold r_give
  split
  · exact hwB_up (hears_hw (g1_hw hh (by omega))) (by omega)
  · split
    · exact hwB_up (g3_hw hh (by omega)) (by omega)
    · exact hwB_up (g4_hw hh (by omega)) (by omega)
theorem telAll_hw {J : ex_Mem} {N m s nn b : Nat} (hh : hwB N J) (h4 : nn ≤ 4) (hN : N + 12 < 2 ^ 31) : hwB (N + 12) (r_telAll J m s nn b) := hwB_up (hwB_eq (g1_hw (N := N) (m := m) (x := 31) (s := s) (nn := nn) (b := b) hh (by omega)) (tell_fr (by decide) (by decide) (by decide) (by decide) (by decide) 6)) (by omega)
theorem pd_hw {J : ex_Mem} {N x y s nn b : Nat} (hh : hwB N J) (hN : N + 2 < 2 ^ 31) : hwB (N + 2) (r_pd J x y s nn b).2 := hears_hw (hwB_put (hears_hw (hwB_put hh (by omega))) (by omega))
theorem pe_hw {J : ex_Mem} {N x y s nn b : Nat} (hh : hwB N J) (h4 : nn ≤ 4) (hN : N + 12 < 2 ^ 31) : hwB (N + 8) (r_pe J x y s nn b).2 := by
  have hp : hwB (N + 2) (r_pd J x y s nn b).2 := pd_hw hh (by omega)
  unfold r_pe
  generalize r_pd J x y s nn b = P at *
  split
  · exact hwB_up hp (by omega)
  · split
    · exact hwB_up (ans_hw hp (by omega)) (by omega)
    · exact hwB_up (ans_hw hp (by omega)) (by omega)
theorem pf_hw {J : ex_Mem} {N x y s nn b : Nat} (hh : hwB N J) (h4 : nn ≤ 4) (hN : N + 12 < 2 ^ 31) : hwB (N + 12) (r_pf J x y s nn b).2 := by
  have hp : hwB (N + 8) (r_pe J x y s nn b).2 := pe_hw hh h4 hN
  unfold r_pf
  generalize r_pe J x y s nn b = P at *
  split
  · exact hwB_up hp (by omega)
  · split
    · exact hwB_up (takes_hw hp) (by omega)
    · split
      · exact hwB_up (hwB_says (takes_hw hp) (by omega)) (by omega)
      · exact hwB_up (hwB_says (takes_hw hp) (by omega)) (by omega)
theorem pass_hw {J : ex_Mem} {N x y s nn b : Nat} (hh : hwB N J) (h4 : nn ≤ 4) (hN : N + 12 < 2 ^ 31) : hwB (N + 12) (r_pass J x y s nn b).2 := by
  rw [pass_2]
  exact pf_hw hh h4 hN
theorem take_hw {J : ex_Mem} {N m x s nn b : Nat} (hh : hwB N J) (h4 : nn ≤ 4) (hN : N + 12 < 2 ^ 31) : hwB (N + 12) (r_take J m x s nn b).2 := by
  have h1 : hwB (N + 1) (r_ta J x s nn b).2 := hears_hw (hwB_put hh (by omega))
  unfold r_take
  split
  · exact hwB_up h1 (by omega)
  · split
    · exact hwB_up (ans_hw h1 (by omega)) (by omega)
    · split
      · exact hwB_up (hwB_eq (ans_hw h1 (by omega)) (cpy_fr (by decide) nn)) (by omega)
      · exact hwB_up (ans_hw h1 (by omega)) (by omega)
theorem att_hw {J : ex_Mem} {N m b : Nat} (hv : vMsg J m) (hh : hwB N J) (hN : N + 12 < 2 ^ 31) : hwB (N + 12) (r_attempt J m b).2 := by
  obtain ⟨k1, k2, k3, k4, k5, k6⟩ := hv
  unfold r_attempt
  split
  · exact give_hw (j0_hw hh) (k5 (by omega)).2.2.2.2 hN
  · split
    · exact telAll_hw (j0_hw hh) (k5 (by omega)).2.2.2.2 hN
    · split
      · exact hwB_up (cmds_hw (j0_hw hh) (by omega)) (by omega)
      · split
        · exact pass_hw (j0_hw hh) (k5 (by omega)).2.2.2.2 hN
        · exact take_hw (j0_hw hh) (k5 (by omega)).2.2.2.2 hN
theorem xx_topi {G : ex_G} {L : Nat} {xs : Nat → Int32} {D mi pc : Nat} {lv st : List Value} {h : ex_Hp} {Q : Option Value → ex_Hp → Prop} {x y : Int32} (e : x = y) (kk : xx G L xs D mi pc lv (.int y :: st) h Q) : xx G L xs D mi pc lv (.int x :: st) h Q := by
  subst e
  exact kk
