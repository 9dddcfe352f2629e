/-! roster and run: the system's functions and their relation -/
def q_for (I : ex_Mem) (m t : Nat) : Int32 := if I (81 + 2 * m) 0 = nI 3 then nI 0 else if nI t = I (81 + 2 * m) 1 then nI 1 else if I (81 + 2 * m) 0 = nI 2 then (if nI t = I (81 + 2 * m) 2 then nI 1 else nI 0) else nI 0
def q_hd (I : ex_Mem) (m : Nat) : Nat → Int32
  | 0 => nI 0
  | t + 1 => if q_hd I m t = 0 then (if I 49 t = 0 then nI 0 else q_for I m t) else nI 1
def q_nt1 (S : ex_Mem) (m t : Nat) : ex_Mem := if q_for S m t = 0 then S else ex_wI (ex_wI S 50 t (nI 1)) 51 t (if S 51 t = 0 then (if S (81 + 2 * m) 8 = nI 4 then nI 1 else nI 0) else nI 1)
def q_nt (I : ex_Mem) (m : Nat) : Nat → ex_Mem
  | 0 => I
  | t + 1 => q_nt1 (q_nt I m t) m t
def q_bad (S : ex_Mem) (t : Nat) : Int32 := if S 51 t = 0 then nI 0 else S 48 t + nI 1
def q_e1 (S : ex_Mem) (t : Nat) : ex_Mem := if S 50 t = 0 then S else ex_wI (ex_wI S 48 t (q_bad S t)) 49 t (if q_bad S t = nI 3 then nI 1 else nI 0)
def q_e (S : ex_Mem) (t : Nat) : ex_Mem := ex_wI (ex_wI (q_e1 S t) 50 t (nI 0)) 51 t (nI 0)
def q_end (I : ex_Mem) : Nat → ex_Mem
  | 0 => I
  | t + 1 => q_e (q_end I t) t
def q_isIn (I : ex_Mem) (m f : Nat) : Int32 := if nI f &&& (I (81 + 2 * m) 5 - nI 1) = I (81 + 2 * m) 7 then nI 1 else nI 0
def q_dd (C : Int32 × ex_Mem) (m : Nat) : ex_Mem := ex_wI C.2 (81 + 2 * m) 8 C.1
def q_rd (S : ex_Mem) (m : Nat) : ex_Mem := q_nt (q_dd (c_does S m (tk S 1 2)) m) m 6
def q_rs (A : Int32 × ex_Mem) (m f : Nat) : Int32 × ex_Mem :=
  if q_isIn A.2 m f = 0 then A else if q_hd A.2 m 6 = 0 then (A.1 + (if q_rd A.2 m (81 + 2 * m) 8 = nI 4 then nI 0 else nI 1), q_rd A.2 m) else A
def q_rn (A : Int32 × ex_Mem) (f : Nat) : Nat → Int32 × ex_Mem
  | 0 => A
  | m + 1 => q_rs (q_rn A f m) m f
def q_pl (C : Int32 × ex_Mem) (t : Nat) : ex_Mem := if C.1 = 0 then C.2 else ex_wI (ex_wI C.2 49 t (nI 0)) 48 t (nI 0)
def q_poll (I : ex_Mem) (bb : Nat) : Nat → ex_Mem
  | 0 => I
  | t + 1 => if q_poll I bb t 49 t = 0 then q_poll I bb t else q_pl (c_md (q_poll I bb t) t (nI 2) bb) t
def q_tf (I : ex_Mem) (f : Nat) : ex_Mem := ex_wI I 44 3 (nI ((f + 1) % 4))
def q_p0 (I : ex_Mem) (f : Nat) : ex_Mem := if f = 0 then q_poll I (tk I 1 2) 6 else I
def q_run (I : ex_Mem) (n f : Nat) : Int32 × ex_Mem := ((q_rn (nI 0, q_p0 (q_tf I f) f) f n).1, q_end (q_rn (nI 0, q_p0 (q_tf I f) f) f n).2 6)
/-- the roster -/
def ROt (I J : ex_Mem) (t : Nat) : Prop := ∃ bd, bd ≤ 3 ∧ I 48 t = nI bd ∧ J 67 t = nI bd ∧ I 49 t = (if bd = 3 then nI 1 else nI 0) ∧ J 68 t = (if bd = 3 then nI 1 else nI 0)
def RO (I J : ex_Mem) : Prop := ∀ t, t < 6 → ROt I J t
def RUt (I J : ex_Mem) (t : Nat) : Prop := (I 50 t = nI 0 ∧ I 51 t = nI 0 ∧ J 80 t = nI 0) ∨ (I 50 t = nI 1 ∧ J 68 t = nI 0 ∧ (I 51 t = nI 0 ∧ J 80 t = nI 1 ∨ I 51 t = nI 1 ∧ J 80 t = nI 2))
def RU (I J : ex_Mem) : Prop := ∀ t, t < 6 → RUt I J t
theorem ROt_fr {I J I' J' : ex_Mem} {t : Nat} (h : ROt I J t) (e1 : I' 48 t = I 48 t) (e2 : I' 49 t = I 49 t) (e3 : J' 67 t = J 67 t) (e4 : J' 68 t = J 68 t) : ROt I' J' t := by
  obtain ⟨bd, h1, h2, h3, h4, h5⟩ := h
  exact ⟨bd, h1, by rw [e1, h2], by rw [e3, h3], by rw [e2, h4], by rw [e4, h5]⟩
theorem RO_fr {I J I' J' : ex_Mem} (h : RO I J) (e1 : ∀ k, I' 48 k = I 48 k) (e2 : ∀ k, I' 49 k = I 49 k) (e3 : ∀ k, J' 67 k = J 67 k) (e4 : ∀ k, J' 68 k = J 68 k) : RO I' J' := fun t ht => ROt_fr (h t ht) (e1 t) (e2 t) (e3 t) (e4 t)
theorem RUt_fr {I J I' J' : ex_Mem} {t : Nat} (h : RUt I J t) (e1 : I' 50 t = I 50 t) (e2 : I' 51 t = I 51 t) (e3 : J' 80 t = J 80 t) (e4 : J' 68 t = J 68 t) : RUt I' J' t := by
  unfold RUt at *
  rw [e1, e2, e3, e4]
  exact h
theorem RU_fr {I J I' J' : ex_Mem} (h : RU I J) (e1 : ∀ k, I' 50 k = I 50 k) (e2 : ∀ k, I' 51 k = I 51 k) (e3 : ∀ k, J' 80 k = J 80 k) (e4 : ∀ k, J' 68 k = J 68 k) : RU I' J' := fun t ht => RUt_fr (h t ht) (e1 t) (e2 t) (e3 t) (e4 t)
theorem RO_eq {I J : ex_Mem} {t : Nat} (h : ROt I J t) : I 49 t = J 68 t := by
  obtain ⟨bd, h1, h2, h3, h4, h5⟩ := h
  rw [h4, h5]
theorem for_eq {n m t : Nat} {I J : ex_Mem} (h : FR n I J) (hm : m < n) : q_for I m t = r_isOf J m t := by
  have e0 := (h m hm).1 0 (by decide)
  have e1 := (h m hm).1 1 (by decide)
  have e2 := (h m hm).1 2 (by decide)
  simp only [Nat.add_zero, Nat.reduceAdd] at e0 e1 e2
  unfold q_for r_isOf
  rw [e0, e1, e2]
  have c : ∀ x y : Int32, (x = y) = (y = x) := fun x y => propext eq_comm
  simp only [c (nI t)]
theorem hd_eq {n m : Nat} {I J : ex_Mem} (h : FR n I J) (hm : m < n) (ho : RO I J) : ∀ t, t ≤ 6 → q_hd I m t = r_aside J m t
  | 0, _ => rfl
  | t + 1, ht => by
    have ih := hd_eq h hm ho t (by omega)
    show (if q_hd I m t = 0 then (if I 49 t = 0 then nI 0 else q_for I m t) else nI 1) = if r_aside J m t = 0 then (if J 68 t = 0 then nI 0 else if r_isOf J m t = 0 then nI 0 else nI 1) else nI 1
    rw [ih, RO_eq (ho t (by omega)), for_eq h hm]
    have e : r_isOf J m t = if r_isOf J m t = 0 then nI 0 else nI 1 := by
      unfold r_isOf
      split
      · rfl
      · split
        · rfl
        · split
          · split <;> rfl
          · rfl
    rw [← e]
theorem hd_for {I : ex_Mem} {m : Nat} : ∀ t, q_hd I m t = 0 → ∀ k, k < t → I 49 k = 0 ∨ q_for I m k = 0
  | 0, _, k, hk => absurd hk (Nat.not_lt_zero k)
  | t + 1, h, k, hk => by
    have h' : (if q_hd I m t = 0 then (if I 49 t = 0 then nI 0 else q_for I m t) else nI 1) = 0 := h
    by_cases h0 : q_hd I m t = 0
    · rw [if_pos h0] at h'
      by_cases e : k = t
      · subst e
        by_cases h1 : I 49 k = 0
        · exact Or.inl h1
        · rw [if_neg h1] at h'
          exact Or.inr h'
      · exact hd_for t h0 k (by omega)
    · rw [if_neg h0] at h'
      exact absurd h' (by decide)
theorem nt_fr {I : ex_Mem} {m a k : Nat} (h1 : a ≠ 50) (h2 : a ≠ 51) : ∀ t, q_nt I m t a k = I a k
  | 0 => rfl
  | t + 1 => by
    show q_nt1 (q_nt I m t) m t a k = _
    unfold q_nt1
    split
    · exact nt_fr h1 h2 t
    · rw [wI_fr h2, wI_fr h1]
      exact nt_fr h1 h2 t
theorem for_fr {I I' : ex_Mem} {m t : Nat} (e : ∀ k, k < 3 → I' (81 + 2 * m) k = I (81 + 2 * m) k) : q_for I' m t = q_for I m t := by
  unfold q_for
  rw [e 0 (by decide), e 1 (by decide), e 2 (by decide)]
theorem RU_nt {n m : Nat} {I J : ex_Mem} (h : FR n I J) (hm : m < n) (ho : RO I J) (hu : RU I J) (hd : ∀ k, k < 6 → I 49 k = 0 ∨ q_for I m k = 0) (he : I (81 + 2 * m) 8 = J 77 m) : ∀ t, t ≤ 6 → RU (q_nt I m t) (r_nte J m t)
  | 0, _ => hu
  | t + 1, ht => by
    have ih := RU_nt h hm ho hu hd he t (by omega)
    have hF : FR n (q_nt I m t) (r_nte J m t) := fun q hq => ⟨fun k hk => by rw [nt_fr (by omega) (by omega), nte_fr (by omega)]; exact (h q hq).1 k hk, by rw [nt_fr (by omega) (by omega), nte_fr (by omega)]; exact (h q hq).2⟩
    have ef := for_eq (t := t) hF hm
    have ef2 : q_for (q_nt I m t) m t = q_for I m t := for_fr (fun k _ => nt_fr (by omega) (by omega) t)
    have eo : (q_nt I m t) (81 + 2 * m) 8 = (r_nte J m t) 77 m := by rw [nt_fr (by omega) (by omega), nte_fr (by omega), he]
    have e9 : (q_nt I m t) 49 t = I 49 t := nt_fr (by omega) (by omega) t
    have e68 : (r_nte J m t) 68 t = J 68 t := nte_fr (by decide) t
    have hot := RO_eq (ho t (by omega))
    show RU (q_nt1 (q_nt I m t) m t) (ex_wI (r_nte J m t) 80 t (r_nt1 (r_nte J m t) m t))
    generalize q_nt I m t = S at ih hF ef ef2 eo e9 ⊢
    generalize r_nte J m t = K at ih hF ef eo e68 ⊢
    unfold q_nt1 r_nt1
    by_cases hf : q_for S m t = 0
    · rw [if_pos hf, if_pos (by rw [← ef]; exact hf)]
      intro u hu'
      by_cases e : u = t
      · subst e
        exact RUt_fr (ih u hu') rfl rfl (by simp [wI_get]) (by simp [wI_get])
      · exact RUt_fr (ih u hu') rfl rfl (by simp [wI_get, e]) (by simp [wI_get])
    · rw [if_neg hf, if_neg (show ¬ r_isOf K m t = 0 by rw [← ef]; exact hf)]
      have h68 : K 68 t = nI 0 := by
        rcases hd t (by omega) with z | z
        · rw [e68, ← hot, z]; rfl
        · exact absurd z (by rw [← ef2]; exact hf)
      intro u hu'
      by_cases e : u = t
      · subst e
        refine Or.inr ⟨by simp [wI_get], by simp [wI_get, h68], ?_⟩
        unfold r_now
        rw [← eo]
        have n01 : ¬ (nI 1 = (0:Int32)) := by decide
        have n00 : nI 0 = (0:Int32) := by decide
        rcases ih u hu' with ⟨q1, q2, q3⟩ | ⟨q1, q2, ⟨q3, q4⟩ | ⟨q3, q4⟩⟩
        · rw [q2, q3]
          by_cases h4 : S (81 + 2 * m) 8 = nI 4
          · right
            simp only [h4, wI_get, if_true, and_self, n00]
            decide
          · left
            simp only [h4, wI_get, if_true, if_false, and_self, n00]
            decide
        · rw [q3, q4]
          by_cases h4 : S (81 + 2 * m) 8 = nI 4
          · right
            simp only [h4, wI_get, if_true, and_self, n00]
            decide
          · left
            simp only [h4, wI_get, if_true, if_false, and_self, n00]
            decide
        · rw [q3, q4]
          right
          by_cases h4 : S (81 + 2 * m) 8 = nI 4
          · simp only [h4, wI_get, if_true, and_self, n01, if_false]
            decide
          · simp only [h4, wI_get, if_true, if_false, and_self, n01]
            decide
      · exact RUt_fr (ih u hu') (by simp [wI_get, e]) (by simp [wI_get, e]) (by simp [wI_get, e]) (by simp [wI_get])
theorem rpl_2 {C : Int32 × ex_Mem} {t : Nat} (h : C.1 = 0) : r_pl C t = C.2 := by unfold r_pl; exact if_pos h
theorem qpl_fr {C : Int32 × ex_Mem} {t a k : Nat} (h1 : a ≠ 48) (h2 : a ≠ 49) : q_pl C t a k = C.2 a k := by
  unfold q_pl
  split
  · rfl
  · rw [wI_fr h1, wI_fr h2]
theorem qpoll_fr {I : ex_Mem} {bb a k : Nat} (h : a < 4 ∨ 44 ≤ a) (h1 : a ≠ 48) (h2 : a ≠ 49) : ∀ t, t ≤ 6 → q_poll I bb t a k = I a k
  | 0, _ => rfl
  | t + 1, ht => by
    show (if q_poll I bb t 49 t = 0 then q_poll I bb t else q_pl (c_md (q_poll I bb t) t (nI 2) bb) t) a k = _
    split
    · exact qpoll_fr h h1 h2 t (by omega)
    · rw [qpl_fr h1 h2, cmd_fr (by omega) (by omega) (by omega)]
      exact qpoll_fr h h1 h2 t (by omega)
theorem RA_md {N n t b : Nat} {I J : ex_Mem} (h : RXA N n I J) (ht : t < 6) (hb : b < 2) (hN : N + 3 < 2 ^ 31) : RXA (N + 3) n (c_md I t (nI 2) b).2 (r_commands J 0 t 2 b).2 ∧ (c_md I t (nI 2) b).1 = (r_commands J 0 t 2 b).1 := by
  have hm := RR_md (cd := 2) h.1 h.2.1 ht (Or.inr (Or.inl rfl)) hb hN
  have e : r_commands J 0 t 2 b = r_md1 (r_c2 J t 2 b) t 2 b := by
    rw [rcomm_eq]
    unfold r_mv
    split
    · rfl
    · rfl
  rw [e]
  refine ⟨⟨hm.1, hm.2.1, VR_fr h.2.2.1 (fun q k => cmd_fr (Or.inr (by omega)) (by omega) (by omega)) (fun k => md1_76), ?_, ?_⟩, hm.2.2⟩
  · rw [← e]
    exact fun q hq => ⟨fun k hk => by rw [cmd_fr (by omega) (by omega) (by omega), cmds_nt (by unfold nt; omega)]; exact (h.2.2.2.1 q hq).1 k hk, by rw [cmd_fr (by omega) (by omega) (by omega), cmds_nt (by unfold nt; omega)]; exact (h.2.2.2.1 q hq).2⟩
  · rw [← e]
    exact fun q hq => vMsg_eq (cmds_nt (by unfold nt; omega)) (cmds_nt (by unfold nt; omega)) (cmds_nt (by unfold nt; omega)) (cmds_nt (by unfold nt; omega)) (cmds_nt (by unfold nt; omega)) (h.2.2.2.2 q hq)
theorem RA_poll {N n bb : Nat} {I J : ex_Mem} (h : RXA N n I J) (ho : RO I J) (hb : bb < 2) (hN : N + 18 < 2 ^ 31) : ∀ t, t ≤ 6 → RXA (N + 3 * t) n (q_poll I bb t) (r_poll J bb t) ∧ RO (q_poll I bb t) (r_poll J bb t)
  | 0, _ => ⟨h, ho⟩
  | t + 1, ht => by
    have ih := RA_poll h ho hb hN t (by omega)
    show RXA (N + 3 * (t + 1)) n (if q_poll I bb t 49 t = 0 then q_poll I bb t else q_pl (c_md (q_poll I bb t) t (nI 2) bb) t) (if r_poll J bb t 68 t = 0 then r_poll J bb t else r_pl (r_commands (r_poll J bb t) 0 t 2 bb) t) ∧ RO (if q_poll I bb t 49 t = 0 then q_poll I bb t else q_pl (c_md (q_poll I bb t) t (nI 2) bb) t) (if r_poll J bb t 68 t = 0 then r_poll J bb t else r_pl (r_commands (r_poll J bb t) 0 t 2 bb) t)
    generalize q_poll I bb t = S at ih ⊢
    generalize r_poll J bb t = K at ih ⊢
    have e := RO_eq (ih.2 t (by omega))
    rw [e]
    by_cases h0 : K 68 t = 0
    · rw [if_pos h0, if_pos h0]
      exact ⟨RA_up ih.1 (by omega), ih.2⟩
    · rw [if_neg h0, if_neg h0]
      have hm := RA_md (t := t) ih.1 (by omega) hb (by omega)
      have ho1 : RO (c_md S t (nI 2) bb).2 (r_commands K 0 t 2 bb).2 := RO_fr ih.2 (fun k => cmd_fr (by omega) (by omega) (by omega)) (fun k => cmd_fr (by omega) (by omega) (by omega)) (fun k => cmds_nt (by unfold nt; omega)) (fun k => cmds_nt (by unfold nt; omega))
      generalize c_md S t (nI 2) bb = A at hm ho1 ⊢
      generalize r_commands K 0 t 2 bb = B at hm ho1 ⊢
      unfold q_pl r_pl
      rw [hm.2]
      by_cases h1 : B.1 = 0
      · rw [if_pos h1, if_pos h1]
        exact ⟨RA_up hm.1 (by omega), ho1⟩
      · rw [if_neg h1, if_neg h1]
        refine ⟨RA_up (RA_fr hm.1 (fun a k q1 q2 => by rw [wI_fr (by omega), wI_fr (by omega)]) (fun q k => by rw [wI_fr (by omega), wI_fr (by omega)]) (fun q k _ => by rw [wI_fr (by omega), wI_fr (by omega)]) (by rw [wI_fr (by omega), wI_fr (by omega)]) (fun a k q1 q2 => by rw [wI_fr (by omega), wI_fr (by omega)]) (fun a k q1 q2 => by rw [wI_fr (by omega), wI_fr (by omega)])) (by omega), ?_⟩
        intro u hu
        by_cases eu : u = t
        · subst eu
          exact ⟨0, by decide, by simp [wI_get], by simp [wI_get], by simp [wI_get], by simp [wI_get]⟩
        · exact ROt_fr (ho1 u hu) (by simp [wI_get, eu]) (by simp [wI_get, eu]) (by simp [wI_get, eu]) (by simp [wI_get, eu])
theorem poll_bus {J : ex_Mem} {bb : Nat} (t : Nat) : r_poll J bb t 52 30 = J 52 30 := poll_nt (by unfold nt; omega) (by decide) (by decide) t
def OR_ (n : Nat) (I J : ex_Mem) : Prop := ∀ m, m < n → I (81 + 2 * m) 8 = J 77 m
def BU (I J : ex_Mem) : Prop := ∃ q, q < 2 ∧ I 1 2 = nI q ∧ J 52 30 = nI q
/-- in the midst of a run -/
def RX (N n : Nat) (I J : ex_Mem) : Prop := RXA N n I J ∧ OR_ n I J ∧ BU I J ∧ RO I J ∧ RU I J
theorem BU_tk {I J : ex_Mem} (h : BU I J) : ∃ q, q < 2 ∧ I 1 2 = nI q ∧ J 52 30 = nI q ∧ tk I 1 2 = q ∧ tk J 52 30 = q := by
  obtain ⟨q, h1, h2, h3⟩ := h
  exact ⟨q, h1, h2, h3, tk_of h2 (by omega), tk_of h3 (by omega)⟩
theorem cdoes_fr {N n : Nat} {J : ex_Mem} {I : ex_Mem} {m bb a k : Nat} (h : RXA N n I J) (hm : m < n) (ha : a < 4 ∨ 44 ≤ a) (h2 : a ≠ 82 + 2 * m) (h3 : ¬ (a = 1 ∧ k = 2)) : (c_does I m bb).2 a k = I a k := by
  have hv := FR_v h.2.2.2.1 hm (h.2.2.2.2 m hm)
  have e1 : (c_attempt I m bb).2 a k = I a k := catt_fr hv ha h2
  have v1 := catt_v (b := bb) hv hv
  have e2 : (c_attempt (c_attempt I m bb).2 m bb).2 a k = I a k := by rw [catt_fr v1 ha h2, e1]
  have v2 := catt_v (b := bb) v1 v1
  have e3 : (c_attempt (c_attempt (c_attempt I m bb).2 m bb).2 m (1 - bb)).2 a k = I a k := by rw [catt_fr v2 ha h2, e2]
  unfold c_does c_d1
  split
  · unfold c_d2
    split
    · unfold c_d3
      split
      · exact e3
      · rw [← e3]
        show ex_wI _ 1 2 _ a k = _
        rw [wI_get, if_neg h3]
    · exact e2
  · exact e1
theorem does_77 {J : ex_Mem} {m bb q : Nat} (h : q ≠ m) : r_does J m bb 77 q = J 77 q := by
  have n77 : ∀ k, nt 77 k := fun k => by unfold nt; omega
  have e1 : (r_attempt J m bb).2 77 q = J 77 q := att_nt (n77 q)
  have e2 : (r_attempt (r_attempt J m bb).2 m bb).2 77 q = J 77 q := by rw [att_nt (n77 q), e1]
  have e3 : (r_attempt (r_attempt (r_attempt J m bb).2 m bb).2 m (1 - bb)).2 77 q = J 77 q := by rw [att_nt (n77 q), e2]
  have w : ∀ (K : ex_Mem) (v : Int32), ex_wI K 77 m v 77 q = K 77 q := fun K v => by rw [wI_get, if_neg (fun z => h z.2)]
  unfold r_does r_d1
  split
  · unfold r_d2
    split
    · unfold r_d3
      split
      · rw [w, e3]
      · rw [w, wI_fr (by decide), e3]
    · rw [w, e2]
  · rw [w, e1]
theorem and_per {f p : Nat} (hf : f < 4) (hp : p = 1 ∨ p = 2 ∨ p = 4) : nI f &&& (nI p - nI 1) = nI (f % p) := by
  rcases (show f = 0 ∨ f = 1 ∨ f = 2 ∨ f = 3 by omega) with rfl | rfl | rfl | rfl <;> rcases hp with rfl | rfl | rfl <;> decide
theorem isIn_eq {n m f : Nat} {I J : ex_Mem} (h : FR n I J) (hm : m < n) (hp : vPer J m) (hf : f < 4) : q_isIn I m f = r_isIn J m f := by
  have e5 := (h m hm).1 5 (by decide)
  simp only [Nat.reduceAdd] at e5
  unfold q_isIn r_isIn
  rw [e5, (h m hm).2, hp.1, and_per hf hp.2]
theorem RX_rd {N n m : Nat} {I J : ex_Mem} (h : RX N n I J) (hm : m < n) (hd : q_hd I m 6 = 0) (hN : N + 36 < 2 ^ 31) : RX (N + 36) n (q_rd I m) (r_rd J m) ∧ q_rd I m (81 + 2 * m) 8 = r_rd J m 77 m ∧ ∃ o, 1 ≤ o ∧ o ≤ 4 ∧ r_rd J m 77 m = nI o := by
  obtain ⟨hA, hO, hB, hR, hU⟩ := h
  obtain ⟨bb, hb, b1, b2, b3, b4⟩ := BU_tk hB
  have hD := RD_does hA hm hb b1 b2 hN
  have e0 : q_rd I m = q_nt (q_dd (c_does I m bb) m) m 6 := by unfold q_rd; rw [b3]
  have e1 : r_rd J m = r_nte (r_does J m bb) m 6 := by unfold r_rd; rw [b4]
  have f1 : ∀ a k, 44 ≤ a → a ≠ 82 + 2 * m → (c_does I m bb).2 a k = I a k := fun a k q1 q2 => cdoes_fr hA hm (Or.inr q1) q2 (by omega)
  have f2 : ∀ a k, nt a k → a ≠ 77 → ¬ (a = 52 ∧ k = 30) → r_does J m bb a k = J a k := fun a k q1 q2 q3 => does_fr q1 q2 q3
  have f3 : ∀ q, q ≠ m → r_does J m bb 77 q = J 77 q := fun q hq => does_77 hq
  rw [e0, e1]
  generalize c_does I m bb = C at hD f1 ⊢
  generalize r_does J m bb = R at hD f2 f3 ⊢
  obtain ⟨hA1, h77, ⟨o, ho1, ho4, hoc⟩, q, hq, hq1, hq2⟩ := hD
  have hA2 : RXA (N + 36) n (q_dd C m) R := RA_fr hA1 (fun a k q1 q2 => wI_fr (by omega)) (fun q k => wI_fr (by omega)) (fun q k hk => by unfold q_dd; rw [wI_get, if_neg (fun z => hk z.2)]) rfl (fun _ _ _ _ => rfl) (fun _ _ _ _ => rfl)
  have hO2 : OR_ n (q_dd C m) R := by
    intro q hq
    unfold q_dd
    rw [wI_get]
    by_cases e : q = m
    · subst e
      rw [if_pos ⟨rfl, rfl⟩, h77]
    · rw [if_neg (by omega), f1 _ _ (by omega) (by omega), f3 q e, hO q hq]
  have d1 : ∀ a k, 44 ≤ a → a < 81 → q_dd C m a k = I a k := fun a k q1 q2 => by unfold q_dd; rw [wI_fr (by omega), f1 a k q1 (by omega)]
  have hR2 : RO (q_dd C m) R := RO_fr hR (fun k => d1 _ _ (by omega) (by omega)) (fun k => d1 _ _ (by omega) (by omega)) (fun k => f2 _ _ (by unfold nt; omega) (by omega) (by omega)) (fun k => f2 _ _ (by unfold nt; omega) (by omega) (by omega))
  have hU2 : RU (q_dd C m) R := RU_fr hU (fun k => d1 _ _ (by omega) (by omega)) (fun k => d1 _ _ (by omega) (by omega)) (fun k => f2 _ _ (by unfold nt; omega) (by omega) (by omega)) (fun k => f2 _ _ (by unfold nt; omega) (by omega) (by omega))
  have hF : ∀ k, k < 3 → q_dd C m (81 + 2 * m) k = I (81 + 2 * m) k := fun k hk => by unfold q_dd; rw [wI_get, if_neg (by omega), f1 _ _ (by omega) (by omega)]
  have hdd : ∀ k, k < 6 → q_dd C m 49 k = 0 ∨ q_for (q_dd C m) m k = 0 := fun k hk => by
    rw [d1 49 k (by omega) (by omega), for_fr hF]
    exact hd_for 6 hd k hk
  have e8 : q_dd C m (81 + 2 * m) 8 = R 77 m := hO2 m hm
  have hU3 := RU_nt hA2.2.2.2.1 hm hR2 hU2 hdd e8 6 (Nat.le_refl _)
  have g1 : ∀ a k, a ≠ 50 → a ≠ 51 → q_nt (q_dd C m) m 6 a k = q_dd C m a k := fun a k q1 q2 => nt_fr q1 q2 6
  have g2 : ∀ a k, a ≠ 80 → r_nte R m 6 a k = R a k := fun a k q => nte_fr q 6
  refine ⟨⟨RA_fr hA2 (fun a k q1 q2 => g1 _ _ (by omega) (by omega)) (fun q k => g1 _ _ (by omega) (by omega)) (fun q k _ => g1 _ _ (by omega) (by omega)) (g2 _ _ (by omega)) (fun a k q1 q2 => g2 _ _ (by omega)) (fun a k q1 q2 => g2 _ _ (by omega)), ?_, ?_, ?_, hU3⟩, ?_, o, ho1, ho4, ?_⟩
  · intro z hz
    rw [g1 _ _ (by omega) (by omega), g2 _ _ (by omega)]
    exact hO2 z hz
  · refine ⟨q, hq, ?_, by rw [g2 _ _ (by omega), hq2]⟩
    rw [g1 _ _ (by omega) (by omega)]
    unfold q_dd
    rw [wI_fr (by omega), hq1]
  · exact RO_fr hR2 (fun k => g1 _ _ (by omega) (by omega)) (fun k => g1 _ _ (by omega) (by omega)) (fun k => g2 _ _ (by omega)) (fun k => g2 _ _ (by omega))
  · rw [g1 _ _ (by omega) (by omega), g2 _ _ (by omega), e8]
  · rw [g2 _ _ (by omega), h77, hoc]
def RP (n : Nat) (J : ex_Mem) : Prop := ∀ m, m < n → vPer J m
theorem ek {o : Nat} (h1 : 1 ≤ o) (h4 : o ≤ 4) : (if nI o = nI 4 then nI 0 else nI 1) = if nI 4 ≤ nI o then nI 0 else nI 1 := by
  rcases (show o = 1 ∨ o = 2 ∨ o = 3 ∨ o = 4 by omega) with rfl | rfl | rfl | rfl <;> decide
theorem RX_rs {N n m f : Nat} {A B : Int32 × ex_Mem} (h : RX N n A.2 B.2) (hP : RP n B.2) (he : A.1 = B.1) (hm : m < n) (hf : f < 4) (hN : N + 36 < 2 ^ 31) : RX (N + 36) n (q_rs A m f).2 (r_rs B m f).2 ∧ (q_rs A m f).1 = (r_rs B m f).1 := by
  unfold q_rs r_rs
  rw [isIn_eq h.1.2.2.2.1 hm (hP m hm) hf, hd_eq h.1.2.2.2.1 hm h.2.2.2.1 6 (Nat.le_refl _)]
  by_cases h1 : r_isIn B.2 m f = 0
  · rw [if_pos h1, if_pos h1]
    exact ⟨⟨RA_up h.1 (by omega), h.2⟩, he⟩
  · rw [if_neg h1, if_neg h1]
    by_cases h2 : r_aside B.2 m 6 = 0
    · rw [if_pos h2, if_pos h2]
      have hd : q_hd A.2 m 6 = 0 := by rw [hd_eq h.1.2.2.2.1 hm h.2.2.2.1 6 (Nat.le_refl _), h2]
      obtain ⟨k1, k2, o, k3, k4, k5⟩ := RX_rd h hm hd hN
      generalize q_rd A.2 m = X at k1 k2 ⊢
      generalize r_rd B.2 m = Y at k1 k2 k5 ⊢
      refine ⟨k1, ?_⟩
      dsimp only
      rw [he, k2, k5, ek k3 k4]
    · rw [if_neg h2, if_neg h2]
      exact ⟨⟨RA_up h.1 (by omega), h.2⟩, he⟩
theorem rs_74 {A : Int32 × ex_Mem} {m f k : Nat} : (r_rs A m f).2 74 k = A.2 74 k := by
  unfold r_rs
  split
  · rfl
  · split
    · show r_rd A.2 m 74 k = _
      exact rd_tb (by omega)
    · rfl
theorem RX_rn {N n f : Nat} {A B : Int32 × ex_Mem} (h : RX N n A.2 B.2) (hP : RP n B.2) (he : A.1 = B.1) (hf : f < 4) (hN : N + 36 * n < 2 ^ 31) : ∀ m, m ≤ n → RX (N + 36 * m) n (q_rn A f m).2 (r_rn B f m).2 ∧ RP n (r_rn B f m).2 ∧ (q_rn A f m).1 = (r_rn B f m).1
  | 0, _ => ⟨h, hP, he⟩
  | m + 1, hm => by
    have ih := RX_rn h hP he hf hN m (by omega)
    have := RX_rs (m := m) ih.1 ih.2.1 ih.2.2 (by omega) hf (by omega)
    exact ⟨this.1, fun q hq => vPer_eq rs_74 (ih.2.1 q hq), this.2⟩
theorem qe_fr {S : ex_Mem} {t a k : Nat} (h : a < 48 ∨ 51 < a) : q_e S t a k = S a k := by
  unfold q_e q_e1
  rw [wI_fr (by omega), wI_fr (by omega)]
  split
  · rfl
  · rw [wI_fr (by omega), wI_fr (by omega)]
theorem qend_fr {S : ex_Mem} {a k : Nat} (h : a < 48 ∨ 51 < a) : ∀ t, q_end S t a k = S a k
  | 0 => rfl
  | t + 1 => by
    show q_e (q_end S t) t a k = _
    rw [qe_fr h, qend_fr h t]
theorem qe_ix {S : ex_Mem} {t a k : Nat} (h : k ≠ t) : q_e S t a k = S a k := by
  unfold q_e q_e1
  split <;> simp [wI_get, h]
theorem re_ix {S : ex_Mem} {t a k : Nat} (h : k ≠ t) : r_e2 (r_e1 S t) t a k = S a k := by
  unfold r_e2 r_e1
  simp [wI_get, h]
/-- a frame's end -/
theorem RO_end {I J : ex_Mem} (ho : RO I J) (hu : RU I J) : ∀ t, t ≤ 6 → RO (q_end I t) (r_end J t) ∧ (∀ u, u < t → q_end I t 50 u = nI 0 ∧ q_end I t 51 u = nI 0) ∧ ∀ u, t ≤ u → u < 6 → RUt (q_end I t) (r_end J t) u
  | 0, _ => ⟨ho, fun u hu => absurd hu (Nat.not_lt_zero u), fun u _ h6 => hu u h6⟩
  | t + 1, ht => by
    obtain ⟨i1, i2, i3⟩ := RO_end ho hu t (by omega)
    show RO (q_e (q_end I t) t) (r_e2 (r_e1 (r_end J t) t) t) ∧ (∀ u, u < t + 1 → q_e (q_end I t) t 50 u = nI 0 ∧ q_e (q_end I t) t 51 u = nI 0) ∧ ∀ u, t + 1 ≤ u → u < 6 → RUt (q_e (q_end I t) t) (r_e2 (r_e1 (r_end J t) t) t) u
    generalize q_end I t = S at i1 i2 i3 ⊢
    generalize r_end J t = K at i1 i2 i3 ⊢
    refine ⟨?_, ?_, ?_⟩
    · intro u hu6
      by_cases e : u = t
      · subst e
        obtain ⟨bd, b1, b2, b3, b4, b5⟩ := i1 u hu6
        have hz := i3 u (Nat.le_refl _) hu6
        have n1 : ¬ nI 1 = 0 := by decide
        have n0 : nI 0 = 0 := by decide
        rcases hz with ⟨q1, q2, q3⟩ | ⟨q1, q2, q3⟩
        · have er1 : r_e1 K u = ex_wI K 67 u (nI bd) := by rw [e1_c (by rw [q3]; decide) (by rw [q3]; decide), b3]
          refine ⟨bd, b1, ?_, ?_, ?_, ?_⟩
          · simp [q_e, q_e1, q1, n0, wI_get, b2]
          · rw [er1]; simp [r_e2, wI_get]
          · simp [q_e, q_e1, q1, n0, wI_get, b4]
          · rw [er1]
            unfold r_e2
            simp only [wI_get, b5]
            rcases (show bd = 0 ∨ bd = 1 ∨ bd = 2 ∨ bd = 3 by omega) with rfl | rfl | rfl | rfl <;> simp <;> decide
        · have hb3 : ¬ bd = 3 := by
            intro z
            rw [b5, z] at q2
            revert q2
            decide
          rcases q3 with ⟨q3, q4⟩ | ⟨q3, q4⟩
          · have er1 : r_e1 K u = ex_wI K 67 u (nI 0) := e1_b (by rw [q4]; decide) q4
            refine ⟨0, by decide, ?_, ?_, ?_, ?_⟩
            · simp [q_e, q_e1, q_bad, q1, n1, q3, n0, wI_get]
            · rw [er1]; simp [r_e2, wI_get]
            · simp [q_e, q_e1, q_bad, q1, n1, q3, n0, wI_get]
              intro z; exact absurd z (by decide)
            · rw [er1]
              unfold r_e2
              simp only [wI_get, q2]
              simp
              decide
          · have er1 : r_e1 K u = ex_wI K 67 u (nI (bd + 1)) := by rw [e1_a q4, b3, ix_add]
            have eb : q_bad S u = nI (bd + 1) := by unfold q_bad; rw [if_neg (by rw [q3]; decide), b2, ix_add]
            refine ⟨bd + 1, by omega, ?_, ?_, ?_, ?_⟩
            · simp [q_e, q_e1, q1, n1, eb, wI_get]
            · rw [er1]; simp [r_e2, wI_get]
            · simp [q_e, q_e1, q1, n1, eb, wI_get]
              rcases (show bd = 0 ∨ bd = 1 ∨ bd = 2 by omega) with rfl | rfl | rfl <;> decide
            · rw [er1]
              unfold r_e2
              simp only [wI_get, q2]
              rcases (show bd = 0 ∨ bd = 1 ∨ bd = 2 by omega) with rfl | rfl | rfl <;> simp <;> decide
      · exact ROt_fr (i1 u hu6) (qe_ix e) (qe_ix e) (re_ix e) (re_ix e)
    · intro u hut
      by_cases e : u = t
      · subst e
        unfold q_e
        simp [wI_get]
      · rw [qe_ix e, qe_ix e]
        exact i2 u (by omega)
    · intro u h1 h6
      exact RUt_fr (i3 u (by omega) h6) (qe_ix (by omega)) (qe_ix (by omega)) (re_ix (by omega)) (re_ix (by omega))
/-! the whole relation, and run -/
theorem att_76 {J : ex_Mem} {m b i : Nat} (hv : vMsg J m) (h : i < 4 * m ∨ 4 * m + 4 ≤ i) : (r_attempt J m b).2 76 i = J 76 i := by
  have j0 : r_j0 J 76 i = J 76 i := j0_fr (by decide)
  unfold r_attempt
  split
  · rw [give_76, j0]
  · split
    · show r_telAll _ _ _ _ _ 76 i = _
      rw [telAll_76, j0]
    · split
      · rw [rcomm_eq]
        unfold r_mv
        dsimp only
        split
        · rw [md1_76, j0]
        · split
          · rw [wI_get, if_neg (by omega), md1_76, j0]
          · rw [md1_76, j0]
      · split
        · rw [pass_76, j0]
        · rename_i k0 k3 k4 k2
          have hs := hv.2.2.2.2.1 k4
          have ea : (r_an (r_ta (r_j0 J) (tk J 70 m) (tk J 72 m - 1) (tk J 73 m) b).1 (r_ta (r_j0 J) (tk J 70 m) (tk J 72 m - 1) (tk J 73 m) b).2 (tk J 70 m) (tk J 72 m - 1) (tk J 73 m) b).2 76 i = J 76 i := by
            rw [ran_fr (by decide) (by decide) (by decide) (by decide) (by decide)]
            unfold r_ta
            rw [hears_fr (by decide) (by decide) (by decide), put_fr (by decide) (by decide) (by decide) (by decide), j0]
          rw [take_tk]
          generalize r_an (r_ta (r_j0 J) (tk J 70 m) (tk J 72 m - 1) (tk J 73 m) b).1 (r_ta (r_j0 J) (tk J 70 m) (tk J 72 m - 1) (tk J 73 m) b).2 (tk J 70 m) (tk J 72 m - 1) (tk J 73 m) b = A at ea ⊢
          unfold r_tk
          split
          · exact ea
          · split
            · show r_cpy A.2 m (tk J 73 m) 76 i = _
              rw [rcpy_out _ (by omega), ea]
            · exact ea
theorem does_76 {J : ex_Mem} {m bb i : Nat} (hv : vMsg J m) (h : i < 4 * m ∨ 4 * m + 4 ≤ i) : r_does J m bb 76 i = J 76 i := by
  have e1 : (r_attempt J m bb).2 76 i = J 76 i := att_76 hv h
  have v1 := vMsg_att (m' := m) (b := bb) hv
  have e2 : (r_attempt (r_attempt J m bb).2 m bb).2 76 i = J 76 i := by rw [att_76 v1 h, e1]
  have v2 := vMsg_att (m' := m) (b := bb) v1
  have e3 : (r_attempt (r_attempt (r_attempt J m bb).2 m bb).2 m (1 - bb)).2 76 i = J 76 i := by rw [att_76 v2 h, e2]
  unfold r_does r_d1
  split
  · unfold r_d2
    split
    · unfold r_d3
      split
      · rw [wI_fr (by decide), e3]
      · rw [wI_fr (by decide), wI_fr (by decide), e3]
    · rw [wI_fr (by decide), e2]
  · rw [wI_fr (by decide), e1]
theorem rd_76 {J : ex_Mem} {m i : Nat} (hv : vMsg J m) (h : i < 4 * m ∨ 4 * m + 4 ≤ i) : r_rd J m 76 i = J 76 i := by
  unfold r_rd
  rw [nte_fr (by decide), does_76 hv h]
theorem rs_76 {A : Int32 × ex_Mem} {m f i : Nat} (hv : vMsg A.2 m) (h : i < 4 * m ∨ 4 * m + 4 ≤ i) : (r_rs A m f).2 76 i = A.2 76 i := by
  unfold r_rs
  split
  · rfl
  · split
    · exact rd_76 hv h
    · rfl
theorem rs_fr2 {A : Int32 × ex_Mem} {m f a k : Nat} (h : nt a k) (h1 : a ≠ 77) (h2 : ¬ (a = 52 ∧ k = 30)) (h3 : a ≠ 80) : (r_rs A m f).2 a k = A.2 a k := by
  unfold r_rs
  split
  · rfl
  · split
    · exact rd_fr h h1 h2 h3
    · rfl
theorem rn_fr2 {A : Int32 × ex_Mem} {f a k : Nat} (h : nt a k) (h1 : a ≠ 77) (h2 : ¬ (a = 52 ∧ k = 30)) (h3 : a ≠ 80) : ∀ m, (r_rn A f m).2 a k = A.2 a k
  | 0 => rfl
  | m + 1 => by
    show (r_rs (r_rn A f m) m f).2 a k = _
    rw [rs_fr2 h h1 h2 h3, rn_fr2 h h1 h2 h3 m]
theorem qrd_fr {N n m a k : Nat} {I J : ex_Mem} (h : RXA N n I J) (hm : m < n) (ha : 44 ≤ a ∧ a < 48) : q_rd I m a k = I a k := by
  unfold q_rd
  rw [nt_fr (by omega) (by omega)]
  unfold q_dd
  rw [wI_fr (by omega)]
  exact cdoes_fr h hm (Or.inr (by omega)) (by omega) (by omega)
theorem qrs_fr {N n m f a k : Nat} {A : Int32 × ex_Mem} {J : ex_Mem} (h : RXA N n A.2 J) (hm : m < n) (ha : 44 ≤ a ∧ a < 48) : (q_rs A m f).2 a k = A.2 a k := by
  have e : q_rd A.2 m a k = A.2 a k := qrd_fr h hm ha
  unfold q_rs
  generalize q_rd A.2 m = X at e ⊢
  by_cases h1 : q_isIn A.2 m f = 0
  · rw [if_pos h1]
  · rw [if_neg h1]
    by_cases h2 : q_hd A.2 m 6 = 0
    · rw [if_pos h2]; exact e
    · rw [if_neg h2]
theorem qrn_fr {N n f a k : Nat} {A B : Int32 × ex_Mem} (h : RX N n A.2 B.2) (hP : RP n B.2) (he : A.1 = B.1) (hf : f < 4) (hN : N + 36 * n < 2 ^ 31) (ha : 44 ≤ a ∧ a < 48) : ∀ m, m ≤ n → (q_rn A f m).2 a k = A.2 a k
  | 0, _ => rfl
  | m + 1, hm => by
    show (q_rs (q_rn A f m) m f).2 a k = _
    rw [qrs_fr (RX_rn h hP he hf hN m (by omega)).1.1 (by omega) ha]
    exact qrn_fr h hP he hf hN ha m (by omega)
theorem rn_76 {N n f i : Nat} {A B : Int32 × ex_Mem} (h : RX N n A.2 B.2) (hP : RP n B.2) (he : A.1 = B.1) (hf : f < 4) (hN : N + 36 * n < 2 ^ 31) (hi : 4 * n ≤ i) : ∀ m, m ≤ n → (r_rn B f m).2 76 i = B.2 76 i
  | 0, _ => rfl
  | m + 1, hm => by
    show (r_rs (r_rn B f m) m f).2 76 i = _
    rw [rs_76 ((RX_rn h hP he hf hN m (by omega)).1.1.2.2.2.2 m (by omega)) (by omega)]
    exact rn_76 h hP he hf hN hi m (by omega)
theorem poll_76 {J : ex_Mem} {bb i : Nat} : ∀ t, r_poll J bb t 76 i = J 76 i
  | 0 => rfl
  | t + 1 => by
    show (if r_poll J bb t 68 t = 0 then r_poll J bb t else r_pl (r_commands (r_poll J bb t) 0 t 2 bb) t) 76 i = _
    split
    · exact poll_76 t
    · have e : (r_commands (r_poll J bb t) 0 t 2 bb).2 76 i = J 76 i := by
        rw [rcomm_eq]
        unfold r_mv
        dsimp only
        split
        · rw [md1_76, poll_76 t]
        · rw [if_neg (by decide), md1_76, poll_76 t]
      unfold r_pl
      split
      · exact e
      · rw [wI_fr (by decide), wI_fr (by decide), e]
/-- the table -/
def RB (n : Nat) (I J : ex_Mem) : Prop := n ≤ 8 ∧ I 44 2 = nI n ∧ J 52 17 = nI n ∧ (∃ f, f < 4 ∧ I 44 3 = nI f ∧ J 52 29 = nI f) ∧ ((I 44 4 = nI 0 ∧ J 52 27 = nI 0) ∨ (I 44 4 = nI 1 ∧ J 52 27 = nI 1 ∧ ∀ f, f < 4 → I 46 f = J 78 f)) ∧ ∀ m, n ≤ m → m < 8 → J 75 m = nI 0 ∧ ∀ k, k < 4 → J 76 (4 * m + k) = nI 0
def RI (I : ex_Mem) : Prop := ∀ t, t < 6 → I 50 t = nI 0 ∧ I 51 t = nI 0
/-- between two calls -/
def RC (N n : Nat) (I J : ex_Mem) : Prop := RXA N n I J ∧ OR_ n I J ∧ BU I J ∧ RO I J ∧ RI I ∧ RP n J ∧ RB n I J
theorem RB_fr {n : Nat} {I J I' J' : ex_Mem} (h : RB n I J) (e1 : ∀ k, k ≠ 3 → I' 44 k = I 44 k) (e2 : ∀ k, I' 46 k = I 46 k) (e3 : J' 52 17 = J 52 17) (e4 : J' 52 27 = J 52 27) (e5 : ∀ k, J' 78 k = J 78 k) (e6 : ∀ k, J' 75 k = J 75 k) (e7 : ∀ i, 4 * n ≤ i → J' 76 i = J 76 i) (hf : ∃ f, f < 4 ∧ I' 44 3 = nI f ∧ J' 52 29 = nI f) : RB n I' J' := by
  obtain ⟨h1, h2, h3, h4, h5, h6⟩ := h
  refine ⟨h1, by rw [e1 _ (by decide), h2], by rw [e3, h3], hf, ?_, fun m hm hm8 => ⟨by rw [e6, (h6 m hm hm8).1], fun k hk => by rw [e7 _ (by omega), (h6 m hm hm8).2 k hk]⟩⟩
  rcases h5 with ⟨q1, q2⟩ | ⟨q1, q2, q3⟩
  · exact Or.inl ⟨by rw [e1 _ (by decide), q1], by rw [e4, q2]⟩
  · exact Or.inr ⟨by rw [e1 _ (by decide), q1], by rw [e4, q2], fun f hf => by rw [e2, e5, q3 f hf]⟩
theorem rz_80 {S : ex_Mem} : ∀ t u, u < t → r_z S t 80 u = nI 0
  | 0, u, h => absurd h (Nat.not_lt_zero u)
  | t + 1, u, h => by
    show ex_wI (r_z S t) 80 t (nI 0) 80 u = _
    rw [wI_get]
    split
    · rfl
    · exact rz_80 t u (by omega)
theorem RC_run {N n f : Nat} {I J : ex_Mem} (h : RC N n I J) (hf : f < 4) (hI : I 44 3 = nI f) (hJ : J 52 29 = nI f) (hN : N + 306 < 2 ^ 31) : RC (N + 306) n (q_run I n f).2 (r_runB (r_runA J n f) f) ∧ (q_run I n f).1 = (r_runA J n f).1 := by
  obtain ⟨hA, hO, hB, hR, hI0, hP, hT⟩ := h
  obtain ⟨bb, hb, b1, b2, b3, b4⟩ := BU_tk hB
  have t1 : ∀ a k, ¬ (a = 44 ∧ k = 3) → q_tf I f a k = I a k := fun a k q => by unfold q_tf; rw [wI_get, if_neg q]
  have hA1 : RXA N n (q_tf I f) J := RA_fr hA (fun a k q1 q2 => t1 _ _ (by omega)) (fun q k => t1 _ _ (by omega)) (fun q k _ => t1 _ _ (by omega)) rfl (fun _ _ _ _ => rfl) (fun _ _ _ _ => rfl)
  have hR1 : RO (q_tf I f) J := RO_fr hR (fun k => t1 _ _ (by omega)) (fun k => t1 _ _ (by omega)) (fun _ => rfl) (fun _ => rfl)
  have b5 : tk (q_tf I f) 1 2 = bb := tk_of (by rw [t1 _ _ (by omega), b1]) (by omega)
  have key : RXA (N + 18) n (q_p0 (q_tf I f) f) (r_p0 J f) ∧ RO (q_p0 (q_tf I f) f) (r_p0 J f) ∧ (∀ a k, a < 4 ∨ 44 ≤ a → a ≠ 48 → a ≠ 49 → q_p0 (q_tf I f) f a k = q_tf I f a k) ∧ (∀ a k, nt a k → a ≠ 67 → a ≠ 68 → r_p0 J f a k = J a k) ∧ (∀ i, r_p0 J f 76 i = J 76 i) := by
    unfold q_p0
    by_cases h0 : f = 0
    · subst h0
      rw [if_pos rfl, p0_0, b4, b5]
      have := RA_poll hA1 hR1 hb (by omega) 6 (Nat.le_refl _)
      exact ⟨this.1, this.2, fun a k q1 q2 q3 => qpoll_fr q1 q2 q3 6 (Nat.le_refl _), fun a k q1 q2 q3 => poll_nt q1 q2 q3 6, fun i => poll_76 6⟩
    · rw [if_neg h0, p0_1 h0]
      exact ⟨RA_up hA1 (by omega), hR1, fun _ _ _ _ _ => rfl, fun _ _ _ _ _ => rfl, fun _ => rfl⟩
  obtain ⟨k1, k2, k3, k4, k5⟩ := key
  unfold q_run r_runB r_runA
  generalize q_p0 (q_tf I f) f = S at k1 k2 k3 ⊢
  generalize r_p0 J f = K at k1 k2 k4 k5 ⊢
  have z1 : ∀ a k, a ≠ 80 → r_z K 6 a k = K a k := fun a k q => z_fr q 6
  have hX : RX (N + 18) n S (r_z K 6) := by
    refine ⟨RA_fr k1 (fun _ _ _ _ => rfl) (fun _ _ => rfl) (fun _ _ _ => rfl) (z1 _ _ (by decide)) (fun a k q1 q2 => z1 _ _ (by omega)) (fun a k q1 q2 => z1 _ _ (by omega)), ?_, ?_, ?_, ?_⟩
    · intro m hm
      rw [k3 _ _ (by omega) (by omega) (by omega), t1 _ _ (by omega), z1 _ _ (by decide), k4 _ _ (by unfold nt; omega) (by decide) (by decide), hO m hm]
    · exact ⟨bb, hb, by rw [k3 _ _ (by omega) (by omega) (by omega), t1 _ _ (by omega), b1], by rw [z1 _ _ (by decide), k4 _ _ (by unfold nt; omega) (by decide) (by decide), b2]⟩
    · exact RO_fr k2 (fun _ => rfl) (fun _ => rfl) (fun k => z1 _ _ (by decide)) (fun k => z1 _ _ (by decide))
    · intro t ht
      left
      refine ⟨?_, ?_, rz_80 6 t ht⟩
      · rw [k3 _ _ (by omega) (by omega) (by omega), t1 _ _ (by omega), (hI0 t ht).1]
      · rw [k3 _ _ (by omega) (by omega) (by omega), t1 _ _ (by omega), (hI0 t ht).2]
  have hP1 : RP n (r_z K 6) := fun m hm => vPer_eq (by rw [z1 _ _ (by decide), k4 _ _ (by unfold nt; omega) (by decide) (by decide)]) (hP m hm)
  have hn8 : n ≤ 8 := hT.1
  have hr := RX_rn (A := (nI 0, S)) (B := (nI 0, r_z K 6)) hX hP1 rfl hf (by omega) n (Nat.le_refl _)
  have g1 : ∀ a k, 44 ≤ a ∧ a < 48 → (q_rn (nI 0, S) f n).2 a k = S a k := fun a k q => qrn_fr (A := (nI 0, S)) (B := (nI 0, r_z K 6)) hX hP1 rfl hf (by omega) q n (Nat.le_refl _)
  have g2 : ∀ a k, nt a k → a ≠ 77 → ¬ (a = 52 ∧ k = 30) → a ≠ 80 → (r_rn (nI 0, r_z K 6) f n).2 a k = r_z K 6 a k := fun a k q1 q2 q3 q4 => rn_fr2 q1 q2 q3 q4 n
  have g3 : ∀ i, 4 * n ≤ i → (r_rn (nI 0, r_z K 6) f n).2 76 i = r_z K 6 76 i := fun i hi => rn_76 (A := (nI 0, S)) (B := (nI 0, r_z K 6)) hX hP1 rfl hf (by omega) hi n (Nat.le_refl _)
  generalize q_rn (nI 0, S) f n = A at hr g1 ⊢
  generalize r_rn (nI 0, r_z K 6) f n = B at hr g2 g3 ⊢
  obtain ⟨⟨x1, x2, x3, x4, x5⟩, y1, y2⟩ := hr
  obtain ⟨e1, e2, _⟩ := RO_end x4 x5 6 (Nat.le_refl _)
  have qf : ∀ a k, a < 48 ∨ 51 < a → q_end A.2 6 a k = A.2 a k := fun a k q => qend_fr q 6
  have rf : ∀ a k, a ≠ 67 → a ≠ 68 → ¬ (a = 52 ∧ k = 29) → ex_wI (r_end B.2 6) 52 29 (nI ((f + 1) % 4)) a k = B.2 a k := fun a k q1 q2 q3 => by rw [wI_get, if_neg q3, end_fr q1 q2]
  show RC (N + 306) n (q_end A.2 6) (ex_wI (r_end B.2 6) 52 29 (nI ((f + 1) % 4))) ∧ A.1 = B.1
  refine ⟨⟨?_, ?_, ?_, ?_, ?_, ?_, ?_⟩, y2⟩
  · exact RA_up (RA_fr x1 (fun a k q1 q2 => qf _ _ (by omega)) (fun q k => qf _ _ (by omega)) (fun q k _ => qf _ _ (by omega)) (rf _ _ (by omega) (by omega) (by omega)) (fun a k q1 q2 => rf _ _ (by omega) (by omega) (by omega)) (fun a k q1 q2 => rf _ _ (by omega) (by omega) (by omega))) (by omega)
  · intro m hm
    rw [qf _ _ (by omega), rf _ _ (by omega) (by omega) (by omega), x2 m hm]
  · obtain ⟨q, hq, hq1, hq2⟩ := x3
    exact ⟨q, hq, by rw [qf _ _ (by omega), hq1], by rw [rf _ _ (by omega) (by omega) (by omega), hq2]⟩
  · exact RO_fr e1 (fun _ => rfl) (fun _ => rfl) (fun k => wI_fr (by decide)) (fun k => wI_fr (by decide))
  · exact fun t ht => e2 t ht
  · exact fun m hm => vPer_eq (rf _ _ (by omega) (by omega) (by omega)) (y1 m hm)
  · refine RB_fr hT (fun k hk => ?_) (fun k => ?_) ?_ ?_ (fun k => ?_) (fun k => ?_) (fun i hi => ?_) ⟨(f + 1) % 4, by omega, ?_, ?_⟩
    · rw [qf _ _ (by omega), g1 _ _ (by omega), k3 _ _ (by omega) (by omega) (by omega), t1 _ _ (by omega)]
    · rw [qf _ _ (by omega), g1 _ _ (by omega), k3 _ _ (by omega) (by omega) (by omega), t1 _ _ (by omega)]
    · rw [rf _ _ (by omega) (by omega) (by omega), g2 _ _ (by unfold nt; omega) (by omega) (by omega) (by omega), z1 _ _ (by omega), k4 _ _ (by unfold nt; omega) (by omega) (by omega)]
    · rw [rf _ _ (by omega) (by omega) (by omega), g2 _ _ (by unfold nt; omega) (by omega) (by omega) (by omega), z1 _ _ (by omega), k4 _ _ (by unfold nt; omega) (by omega) (by omega)]
    · rw [rf _ _ (by omega) (by omega) (by omega), g2 _ _ (by unfold nt; omega) (by omega) (by omega) (by omega), z1 _ _ (by omega), k4 _ _ (by unfold nt; omega) (by omega) (by omega)]
    · rw [rf _ _ (by omega) (by omega) (by omega), g2 _ _ (by unfold nt; omega) (by omega) (by omega) (by omega), z1 _ _ (by omega), k4 _ _ (by unfold nt; omega) (by omega) (by omega)]
    · rw [rf _ _ (by omega) (by omega) (by omega), g3 i hi, z1 _ _ (by omega), k5]
    · rw [qf _ _ (by omega), g1 _ _ (by omega), k3 _ _ (by omega) (by omega) (by omega)]
      unfold q_tf
      simp [wI_get]
    · simp [wI_get]
/-! seal: the system's functions and their relation -/
def q_mx (a b : Int32) : Int32 := if a < b then b else a
def q_st (I : ex_Mem) (m : Nat) : Int32 := if I (81 + 2 * m) 0 = nI 3 then nI 0 else if I (81 + 2 * m) 0 = nI 2 then nI 2 else nI 1
def q_cm (I : ex_Mem) (m : Nat) : Int32 := if I (81 + 2 * m) 0 = nI 2 then nI 2 else nI 1
def q_dwd (I : ex_Mem) (m : Nat) : Int32 := if I (81 + 2 * m) 0 = nI 4 then (if I (81 + 2 * m) 4 = nI 18 then nI 1 else nI 0) else I (81 + 2 * m) 4
def q_len (I : ex_Mem) (m : Nat) : Int32 := nI 3 * (nI 20 * (q_cm I m + q_dwd I m + q_st I m) + nI 10 * q_st I m)
def q_at (I : ex_Mem) (m ph f : Nat) : Int32 := if nI f &&& (I (81 + 2 * m) 5 - nI 1) = nI ph then nI 1 else nI 0
def q_gl (I : ex_Mem) (m ph : Nat) : Nat → Int32
  | 0 => nI 0
  | f + 1 => if q_at I m ph f = 0 then q_gl I m ph f else q_mx (q_gl I m ph f) (I 46 f)
def q_bp (I : ex_Mem) (m : Nat) : Nat → Nat
  | 0 => 0
  | k + 1 => if q_gl I m (k + 1) 4 < q_gl I m (q_bp I m k) 4 then k + 1 else q_bp I m k
def q_al (I : ex_Mem) (m : Nat) : Nat → ex_Mem
  | 0 => I
  | f + 1 => if q_isIn (q_al I m f) m f = 0 then q_al I m f else ex_wI (q_al I m f) 46 f (q_al I m f 46 f + q_len I m)
def q_z (I : ex_Mem) : Nat → ex_Mem
  | 0 => I
  | f + 1 => ex_wI (q_z I f) 46 f (nI 0)
def q_pp (S : ex_Mem) (m : Nat) : ex_Mem := ex_wI S (81 + 2 * m) 7 (nI (q_bp S m (tk S (81 + 2 * m) 5 - 1)))
def q_ff (I : ex_Mem) : Nat → ex_Mem
  | 0 => q_z I 4
  | m + 1 => q_al (q_pp (q_ff I m) m) m 4
def q_gr (S : ex_Mem) : Nat → Int32
  | 0 => nI 0
  | f + 1 => q_mx (q_gr S f) (S 46 f)
def q_sd (S : ex_Mem) : ex_Mem := ex_wI (ex_wI S 44 4 (nI 1)) 44 3 (nI 0)
def q_seal (S : ex_Mem) (bu : Int32) : Int32 × ex_Mem := if q_gr S 4 ≤ bu then (q_gr S 4, q_sd S) else (- nI 2, S)
theorem niLt {a b : Nat} (ha : a < 2 ^ 31) (hb : b < 2 ^ 31) : (nI a < nI b) = (a < b) := by
  apply propext
  rw [Int32.lt_iff_toInt_lt, nI_toInt ha, nI_toInt hb]
  omega
theorem qmx_n {a b : Nat} (ha : a < 2 ^ 31) (hb : b < 2 ^ 31) : q_mx (nI a) (nI b) = nI (max a b) := by
  unfold q_mx
  by_cases h : a < b
  · rw [if_pos (by rw [niLt ha hb]; exact h), Nat.max_eq_right (Nat.le_of_lt h)]
  · rw [if_neg (by rw [niLt ha hb]; exact h), Nat.max_eq_left (by omega)]
theorem rmx_n {a b : Nat} (ha : a < 2 ^ 31) (hb : b < 2 ^ 31) : r_mx (nI a) (nI b) = nI (max a b) := by
  unfold r_mx
  by_cases h : b ≤ a
  · rw [if_pos (by rw [niLe hb ha]; exact h), Nat.max_eq_left h]
  · rw [if_neg (by rw [niLe hb ha]; exact h), Nat.max_eq_right (by omega)]
def gN (L : Nat → Nat) (p ph : Nat) : Nat → Nat
  | 0 => 0
  | f + 1 => if f % p = ph then max (gN L p ph f) (L f) else gN L p ph f
theorem gN_le {L : Nat → Nat} {p ph B : Nat} : ∀ k, (∀ f, f < k → L f ≤ B) → gN L p ph k ≤ B
  | 0, _ => Nat.zero_le _
  | k + 1, h => by
    have ih := gN_le (L := L) (p := p) (ph := ph) (B := B) k (fun f hf => h f (by omega))
    show (if k % p = ph then max (gN L p ph k) (L k) else gN L p ph k) ≤ B
    split
    · have := h k (by omega)
      omega
    · exact ih
theorem len_eq {n m : Nat} {I J : ex_Mem} (h : FR n I J) (hm : m < n) (hv : vMsg J m) : ∃ l, l ≤ 540 ∧ r_len J m = nI l ∧ q_len I m = nI l := by
  have e0 := (h m hm).1 0 (by decide)
  have e4 := (h m hm).1 4 (by decide)
  simp only [Nat.add_zero, Nat.reduceAdd] at e0 e4
  obtain ⟨v0, v4, vx, vy, vs, vc⟩ := hv
  unfold r_len q_len q_st q_cm q_dwd
  rw [e0, e4]
  generalize tk J 69 m = kd at v0 v4 vx vy vs vc
  rw [v0]
  rcases (show kd = 0 ∨ kd = 1 ∨ kd = 2 ∨ kd = 3 ∨ kd = 4 by omega) with rfl | rfl | rfl | rfl | rfl
  · have := vs (by decide)
    generalize tk J 73 m = nn at this
    rw [this.2.2.1]
    simp only [nI_lit, Nat.reduceLT, Nat.reduceEqDiff, if_true, if_false, true_or, ix_add, ix_mul]
    exact ⟨3 * (20 * (nn + 2) + 10), by omega, rfl, by congr 1; omega⟩
  · have := vs (by decide)
    generalize tk J 73 m = nn at this
    rw [this.2.2.1]
    simp only [nI_lit, Nat.reduceLT, Nat.reduceEqDiff, if_true, if_false, or_true, ix_add, ix_mul]
    exact ⟨3 * (20 * (nn + 2) + 10), by omega, rfl, by congr 1; omega⟩
  · have := vs (by decide)
    generalize tk J 73 m = nn at this
    rw [this.2.2.1]
    simp only [nI_lit, Nat.reduceLT, Nat.reduceEqDiff, if_true, if_false, or_self, ix_add, ix_mul]
    exact ⟨3 * (20 * (nn + 4) + 20), by omega, rfl, by congr 1; omega⟩
  · have := vs (by decide)
    generalize tk J 73 m = nn at this
    rw [this.2.2.1]
    simp only [nI_lit, Nat.reduceLT, Nat.reduceEqDiff, if_true, if_false, or_self, ix_add, ix_mul]
    exact ⟨60 * (nn + 1), by omega, rfl, by congr 1; omega⟩
  · have := vc rfl
    generalize tk J 73 m = nn at this
    rw [this.1]
    rcases this.2 with rfl | rfl | rfl | rfl | rfl | rfl
    all_goals simp only [nI_lit, Nat.reduceLT, Nat.reduceEqDiff, if_true, if_false, or_self, ix_add, ix_mul]
    all_goals exact ⟨_, by decide, rfl, rfl⟩
theorem len_fr {J J' : ex_Mem} {m : Nat} (e1 : J' 69 m = J 69 m) (e2 : J' 73 m = J 73 m) : r_len J' m = r_len J m := by
  unfold r_len
  rw [e1, e2]
theorem load_fr {J J' : ex_Mem} {f : Nat} : ∀ m, (∀ k, k < m → J' 69 k = J 69 k ∧ J' 73 k = J 73 k ∧ J' 74 k = J 74 k ∧ J' 75 k = J 75 k) → r_load J' f m = r_load J f m
  | 0, _ => rfl
  | m + 1, h => by
    have ih := load_fr (f := f) m (fun k hk => h k (by omega))
    obtain ⟨q1, q2, q3, q4⟩ := h m (by omega)
    show r_load J' f m + (if r_isIn J' m f = 0 then nI 0 else r_len J' m) = r_load J f m + (if r_isIn J m f = 0 then nI 0 else r_len J m)
    have e : r_isIn J' m f = r_isIn J m f := by unfold r_isIn; rw [tk_eq q3, q4]
    rw [ih, e, len_fr q1 q2]
theorem load_ph {K : ex_Mem} {m ph f : Nat} : r_load (r_ph K m ph) f m = r_load K f m :=
  load_fr m (fun k hk => ⟨ph_fr (by decide), ph_fr (by decide), ph_fr (by decide), by unfold r_ph; rw [wI_get, if_neg (by omega)]⟩)
theorem load_ph1 {K : ex_Mem} {m ph f p l a : Nat} (hp : tk K 74 m = p) (hl : r_len K m = nI l) (ha : r_load K f m = nI a) (hpp : p = 1 ∨ p = 2 ∨ p = 4) (hph : ph < p) (hf : f < 4) : r_load (r_ph K m ph) f (m + 1) = nI (a + if f % p = ph then l else 0) := by
  show r_load (r_ph K m ph) f m + (if r_isIn (r_ph K m ph) m f = 0 then nI 0 else r_len (r_ph K m ph) m) = _
  rw [load_ph, ha, len_fr (ph_fr (by decide)) (ph_fr (by decide)), hl]
  have e : r_isIn (r_ph K m ph) m f = if f % p = ph then nI 1 else nI 0 := by
    unfold r_isIn
    rw [ph_tk, hp]
    have : r_ph K m ph 75 m = nI ph := by unfold r_ph; simp [wI_get]
    rw [this]
    by_cases q : f % p = ph
    · rw [if_pos q, if_pos (by rw [q])]
    · have h1 : f % p < 2147483648 := Nat.lt_of_le_of_lt (Nat.mod_le f p) (by omega)
      rw [if_neg q, if_neg (by rw [nI_lit h1 (by omega)]; exact q)]
  rw [e]
  by_cases q : f % p = ph
  · rw [if_pos q, if_pos q, if_neg (by decide), ix_add]
  · rw [if_neg q, if_neg q, if_pos (by rfl), ix_add]
theorem at_eq {S : ex_Mem} {m ph f p : Nat} (hp : S (81 + 2 * m) 5 = nI p) (hpp : p = 1 ∨ p = 2 ∨ p = 4) (hph : ph < p) (hf : f < 4) : q_at S m ph f = if f % p = ph then nI 1 else nI 0 := by
  unfold q_at
  rw [hp, and_per hf hpp]
  by_cases q : f % p = ph
  · rw [if_pos q, if_pos (by rw [q])]
  · have h1 : f % p < 2147483648 := Nat.lt_of_le_of_lt (Nat.mod_le f p) (by omega)
    rw [if_neg q, if_neg (by rw [nI_lit h1 (by omega)]; exact q)]
theorem gl_eq {S : ex_Mem} {m ph p : Nat} {L : Nat → Nat} (hL : ∀ f, f < 4 → S 46 f = nI (L f) ∧ L f ≤ 100000) (hp : S (81 + 2 * m) 5 = nI p) (hpp : p = 1 ∨ p = 2 ∨ p = 4) (hph : ph < p) : ∀ k, k ≤ 4 → q_gl S m ph k = nI (gN L p ph k)
  | 0, _ => rfl
  | k + 1, hk => by
    have ih := gl_eq hL hp hpp hph k (by omega)
    show (if q_at S m ph k = 0 then q_gl S m ph k else q_mx (q_gl S m ph k) (S 46 k)) = nI (if k % p = ph then max (gN L p ph k) (L k) else gN L p ph k)
    rw [at_eq hp hpp hph (by omega), ih, (hL k (by omega)).1]
    have h1 := gN_le (L := L) (p := p) (ph := ph) (B := 100000) k (fun f hf => (hL f (by omega)).2)
    have h2 := (hL k (by omega)).2
    by_cases q : k % p = ph
    · rw [if_pos q, if_pos q, if_neg (by decide), qmx_n (by omega) (by omega)]
    · rw [if_neg q, if_neg q, if_pos (by rfl)]
theorem wst_eq {K : ex_Mem} {m ph p l : Nat} {L : Nat → Nat} (hL : ∀ f, f < 4 → r_load K f m = nI (L f) ∧ L f ≤ 100000) (hl : r_len K m = nI l) (hl2 : l ≤ 540) (hp : tk K 74 m = p) (hpp : p = 1 ∨ p = 2 ∨ p = 4) (hph : ph < p) : r_wst (r_ph K m ph) m ph p = nI (gN L p ph 4 + l) := by
  have H : ∀ f, f < 4 → f % p = ph → r_load (r_ph K m ph) f (m + 1) = nI (L f + l) := fun f hf q => by
    rw [load_ph1 hp hl (hL f hf).1 hpp hph hf, if_pos q]
  have l0 := (hL 0 (by decide)).2
  have l1 := (hL 1 (by decide)).2
  have l2 := (hL 2 (by decide)).2
  have l3 := (hL 3 (by decide)).2
  unfold r_wst
  rcases hpp with rfl | rfl | rfl
  · obtain rfl : ph = 0 := by omega
    rw [if_pos rfl, H 0 (by decide) (by decide), H 1 (by decide) (by decide), H 2 (by decide) (by decide), H 3 (by decide) (by decide)]
    rw [rmx_n (by omega) (by omega), rmx_n (by omega) (by omega), rmx_n (by omega) (by omega), rmx_n (by omega) (by omega)]
    congr 1
    simp only [gN, Nat.mod_one, if_true]
    omega
  · rw [if_neg (by decide), if_pos rfl]
    rcases (show ph = 0 ∨ ph = 1 by omega) with rfl | rfl
    · rw [H 0 (by decide) (by decide), H (0 + 2) (by decide) (by decide)]
      simp only [Nat.zero_add]
      rw [rmx_n (by omega) (by omega), rmx_n (by omega) (by omega)]
      congr 1
      all_goals (simp [gN]; try omega)
    · rw [H 1 (by decide) (by decide), H (1 + 2) (by decide) (by decide)]
      simp only [Nat.reduceAdd]
      rw [rmx_n (by omega) (by omega), rmx_n (by omega) (by omega)]
      congr 1
      all_goals (simp [gN]; try omega)
  · rw [if_neg (by decide), if_neg (by decide)]
    rcases (show ph = 0 ∨ ph = 1 ∨ ph = 2 ∨ ph = 3 by omega) with rfl | rfl | rfl | rfl
    · rw [H 0 (by decide) (by decide), rmx_n (by omega) (by omega)]
      congr 1
      all_goals (simp [gN]; try omega)
    · rw [H 1 (by decide) (by decide), rmx_n (by omega) (by omega)]
      congr 1
      all_goals (simp [gN]; try omega)
    · rw [H 2 (by decide) (by decide), rmx_n (by omega) (by omega)]
      congr 1
      all_goals (simp [gN]; try omega)
    · rw [H 3 (by decide) (by decide), rmx_n (by omega) (by omega)]
      congr 1
      all_goals (simp [gN]; try omega)
theorem bp_eq {S K : ex_Mem} {m p l : Nat} {L : Nat → Nat} (hS : ∀ f, f < 4 → S 46 f = nI (L f) ∧ L f ≤ 100000) (hL : ∀ f, f < 4 → r_load K f m = nI (L f) ∧ L f ≤ 100000) (hl : r_len K m = nI l) (hl2 : l ≤ 540) (hp : tk K 74 m = p) (hp2 : S (81 + 2 * m) 5 = nI p) (hpp : p = 1 ∨ p = 2 ∨ p = 4) : ∀ k, k < p → r_bp K m p k = (q_bp S m k, nI (gN L p (q_bp S m k) 4 + l)) ∧ q_bp S m k ≤ k
  | 0, h => by
    refine ⟨?_, Nat.le_refl _⟩
    show (0, r_wst (r_ph K m 0) m 0 p) = (0, nI (gN L p 0 4 + l))
    rw [wst_eq hL hl hl2 hp hpp h]
  | k + 1, h => by
    obtain ⟨ih, ih2⟩ := bp_eq hS hL hl hl2 hp hp2 hpp k (by omega)
    have g1 := gN_le (L := L) (p := p) (ph := q_bp S m k) (B := 100000) 4 (fun f hf => (hL f (by omega)).2)
    have g2 := gN_le (L := L) (p := p) (ph := k + 1) (B := 100000) 4 (fun f hf => (hL f (by omega)).2)
    have e : q_bp S m (k + 1) = if gN L p (k + 1) 4 < gN L p (q_bp S m k) 4 then k + 1 else q_bp S m k := by
      show (if q_gl S m (k + 1) 4 < q_gl S m (q_bp S m k) 4 then k + 1 else q_bp S m k) = _
      rw [gl_eq hS hp2 hpp h 4 (Nat.le_refl _), gl_eq hS hp2 hpp (by omega) 4 (Nat.le_refl _)]
      simp only [niLt (show gN L p (k + 1) 4 < 2 ^ 31 by omega) (show gN L p (q_bp S m k) 4 < 2 ^ 31 by omega)]
    show r_bpS (r_bp K m p k) (r_wst (r_ph K m (k + 1)) m (k + 1) p) (k + 1) = _ ∧ _
    rw [ih, wst_eq hL hl hl2 hp hpp h, e]
    unfold r_bpS
    dsimp only
    by_cases q : gN L p (k + 1) 4 < gN L p (q_bp S m k) 4
    · rw [if_pos q, if_neg (by rw [niLe (by omega) (by omega)]; omega)]
      exact ⟨rfl, Nat.le_refl _⟩
    · rw [if_neg q, if_pos (by rw [niLe (by omega) (by omega)]; omega)]
      exact ⟨rfl, by omega⟩
theorem qisIn_eq {S : ex_Mem} {m ph f p : Nat} (hp : S (81 + 2 * m) 5 = nI p) (h7 : S (81 + 2 * m) 7 = nI ph) (hpp : p = 1 ∨ p = 2 ∨ p = 4) (hph : ph < p) (hf : f < 4) : q_isIn S m f = if f % p = ph then nI 1 else nI 0 := by
  rw [← at_eq hp hpp hph hf]
  unfold q_isIn q_at
  rw [h7]
theorem qlen_fr {I I' : ex_Mem} {m : Nat} (e1 : I' (81 + 2 * m) 0 = I (81 + 2 * m) 0) (e2 : I' (81 + 2 * m) 4 = I (81 + 2 * m) 4) : q_len I' m = q_len I m := by
  unfold q_len q_st q_cm q_dwd
  rw [e1, e2]
theorem al_fr {S : ex_Mem} {m a j : Nat} (h : a ≠ 46) : ∀ k, q_al S m k a j = S a j
  | 0 => rfl
  | k + 1 => by
    show (if q_isIn (q_al S m k) m k = 0 then q_al S m k else ex_wI (q_al S m k) 46 k (q_al S m k 46 k + q_len S m)) a j = _
    split
    · exact al_fr h k
    · rw [wI_fr h, al_fr h k]
theorem al_46 {S : ex_Mem} {m p b l : Nat} {L : Nat → Nat} (hp : S (81 + 2 * m) 5 = nI p) (h7 : S (81 + 2 * m) 7 = nI b) (hpp : p = 1 ∨ p = 2 ∨ p = 4) (hb : b < p) (hl : q_len S m = nI l) (hL : ∀ f, f < 4 → S 46 f = nI (L f)) : ∀ k, k ≤ 4 → ∀ f, f < 4 → q_al S m k 46 f = nI (L f + if f < k ∧ f % p = b then l else 0)
  | 0, _, f, hf => by
    show S 46 f = _
    rw [hL f hf, if_neg (by omega)]
    rfl
  | k + 1, hk, f, hf => by
    have ih := al_46 hp h7 hpp hb hl hL k (by omega)
    have hi : q_isIn (q_al S m k) m k = if k % p = b then nI 1 else nI 0 := qisIn_eq (by rw [al_fr (by omega), hp]) (by rw [al_fr (by omega), h7]) hpp hb (by omega)
    show (if q_isIn (q_al S m k) m k = 0 then q_al S m k else ex_wI (q_al S m k) 46 k (q_al S m k 46 k + q_len S m)) 46 f = _
    rw [hi]
    by_cases q : k % p = b
    · rw [if_pos q, if_neg (by decide), wI_get, hl, ih k (by omega)]
      by_cases e : f = k
      · subst e
        rw [if_pos ⟨rfl, rfl⟩, if_neg (by omega), if_pos (by omega), ix_add]
        rfl
      · rw [if_neg (fun z => e z.2), ih f hf]
        have : (f < k ∧ f % p = b) ↔ (f < k + 1 ∧ f % p = b) := by omega
        simp only [this]
    · rw [if_neg q, if_pos (by rfl), ih f hf]
      have : (f < k ∧ f % p = b) ↔ (f < k + 1 ∧ f % p = b) := by
        by_cases e : f = k
        · subst e; exact ⟨fun z => absurd z.2 q, fun z => absurd z.2 q⟩
        · omega
      simp only [this]
theorem qz_46 {I : ex_Mem} : ∀ k f, f < k → q_z I k 46 f = nI 0
  | 0, f, h => absurd h (Nat.not_lt_zero f)
  | k + 1, f, h => by
    show ex_wI (q_z I k) 46 k (nI 0) 46 f = _
    rw [wI_get]
    split
    · rfl
    · exact qz_46 k f (by omega)
theorem qz_fr {I : ex_Mem} {a j : Nat} (h : a ≠ 46) : ∀ k, q_z I k a j = I a j
  | 0 => rfl
  | k + 1 => by
    show ex_wI (q_z I k) 46 k (nI 0) a j = _
    rw [wI_fr h, qz_fr h k]
theorem qff_fr {I : ex_Mem} {a j : Nat} (h : a ≠ 46) (h2 : ¬ (81 ≤ a ∧ j = 7)) : ∀ m, q_ff I m a j = I a j
  | 0 => qz_fr h 4
  | m + 1 => by
    show q_al (q_pp (q_ff I m) m) m 4 a j = _
    rw [al_fr h]
    unfold q_pp
    rw [wI_get, if_neg (by omega), qff_fr h h2 m]
theorem sl_75 {J : ex_Mem} {q : Nat} : ∀ m, m ≤ q → r_sl J m 75 q = J 75 q
  | 0, _ => rfl
  | m + 1, h => by
    show r_slS (r_sl J m) m 75 q = _
    unfold r_slS r_ph
    rw [wI_get, if_neg (by omega), sl_75 m (by omega)]
/-- what a sealing holds after m messages -/
def RS (n m : Nat) (S K : ex_Mem) : Prop := FR n S K ∧ ∃ L : Nat → Nat, ∀ f, f < 4 → S 46 f = nI (L f) ∧ r_load K f m = nI (L f) ∧ L f ≤ 540 * m
theorem RS_step {n m : Nat} {S K : ex_Mem} (h : RS n m S K) (hm : m < n) (h8 : n ≤ 8) (hv : vMsg K m) (hp : vPer K m) : RS n (m + 1) (q_al (q_pp S m) m 4) (r_slS K m) := by
  obtain ⟨hF, L, hL⟩ := h
  obtain ⟨l, l1, l2, l3⟩ := len_eq hF hm hv
  obtain ⟨p1, p2⟩ := hp
  obtain ⟨p, hpe⟩ : ∃ p, p = tk K 74 m := ⟨_, rfl⟩
  have e5 := (hF m hm).1 5 (by decide)
  simp only [Nat.reduceAdd] at e5
  rw [← hpe] at p1 p2
  have hp5 : S (81 + 2 * m) 5 = nI p := by rw [e5, p1]
  have hpt : tk S (81 + 2 * m) 5 = p := by rw [tk_eq2 e5, hpe]
  have hb := bp_eq (S := S) (K := K) (m := m) (p := p) (l := l) (L := L) (fun f hf => ⟨(hL f hf).1, by have := (hL f hf).2.2; omega⟩) (fun f hf => ⟨(hL f hf).2.1, by have := (hL f hf).2.2; omega⟩) l2 l1 hpe.symm hp5 p2 (p - 1) (by omega)
  have eS : q_pp S m = ex_wI S (81 + 2 * m) 7 (nI (q_bp S m (p - 1))) := by unfold q_pp; rw [hpt]
  have eK : r_slS K m = r_ph K m (q_bp S m (p - 1)) := by unfold r_slS; rw [← hpe, hb.1]
  have hbp : q_bp S m (p - 1) < p := by have := hb.2; omega
  rw [eS, eK]
  generalize q_bp S m (p - 1) = b at hbp
  have f1 : ∀ a k, a ≠ 46 → ¬ (a = 81 + 2 * m ∧ k = 7) → q_al (ex_wI S (81 + 2 * m) 7 (nI b)) m 4 a k = S a k := fun a k q1 q2 => by rw [al_fr q1, wI_get, if_neg q2]
  have hal := al_46 (S := ex_wI S (81 + 2 * m) 7 (nI b)) (m := m) (p := p) (b := b) (l := l) (L := L) (by rw [wI_get, if_neg (by omega), hp5]) (by simp [wI_get]) p2 hbp (by rw [qlen_fr (by rw [wI_get, if_neg (by omega)]) (by rw [wI_get, if_neg (by omega)]), l3]) (fun f hf => by rw [wI_fr (by omega), (hL f hf).1]) 4 (Nat.le_refl _)
  refine ⟨fun q hq => ⟨fun k hk => ?_, ?_⟩, fun f => L f + if f % p = b then l else 0, fun f hf => ⟨?_, ?_, ?_⟩⟩
  · rw [f1 _ _ (by omega) (by omega), ph_fr (by omega)]
    exact (hF q hq).1 k hk
  · by_cases e : q = m
    · subst e
      rw [al_fr (by omega)]
      simp [wI_get, r_ph]
    · rw [f1 _ _ (by omega) (by omega)]
      unfold r_ph
      rw [wI_get, if_neg (fun z => e z.2)]
      exact (hF q hq).2
  · rw [hal f hf]
    have : (f < 4 ∧ f % p = b) ↔ (f % p = b) := by omega
    simp only [this]
  · exact load_ph1 hpe.symm l2 (hL f hf).2.1 p2 hbp hf
  · have := (hL f hf).2.2
    show L f + (if f % p = b then l else 0) ≤ _
    split <;> omega
theorem RS_all {n : Nat} {I J : ex_Mem} (hF : FR n I J) (h8 : n ≤ 8) (hv : ∀ m, m < n → vMsg J m) (hp : ∀ m, m < n → vPer J m) : ∀ m, m ≤ n → RS n m (q_ff I m) (r_sl J m)
  | 0, _ => ⟨fun q hq => ⟨fun k hk => by show q_z I 4 _ _ = _; rw [qz_fr (by omega)]; exact (hF q hq).1 k hk, by show q_z I 4 _ _ = _; rw [qz_fr (by omega)]; exact (hF q hq).2⟩, fun _ => 0, fun f hf => ⟨qz_46 4 f hf, rfl, Nat.zero_le _⟩⟩
  | m + 1, hm => RS_step (RS_all hF h8 hv hp m (by omega)) (by omega) h8 (vMsg_sl (hv m (by omega))) (vPer_sl (hp m (by omega)))
theorem gr_eq {S K : ex_Mem} {nm : Nat} {L : Nat → Nat} (hL : ∀ f, f < 4 → S 46 f = nI (L f) ∧ r_load K f nm = nI (L f) ∧ L f ≤ 100000) : ∀ k, k ≤ 4 → ∃ g, g ≤ 100000 ∧ q_gr S k = nI g ∧ r_most K nm k = nI g
  | 0, _ => ⟨0, Nat.zero_le _, rfl, rfl⟩
  | k + 1, hk => by
    obtain ⟨g, g1, g2, g3⟩ := gr_eq hL k (by omega)
    obtain ⟨q1, q2, q3⟩ := hL k (by omega)
    refine ⟨max g (L k), by omega, ?_, ?_⟩
    · show q_mx (q_gr S k) (S 46 k) = _
      rw [g2, q1, qmx_n (by omega) (by omega)]
    · show r_mx (r_most K nm k) (r_load K k nm) = _
      rw [g3, q2, rmx_n (by omega) (by omega)]
theorem lds_78 {S : ex_Mem} {nm : Nat} : ∀ k f, f < k → r_lds S nm k 78 f = r_load S f nm
  | 0, f, h => absurd h (Nat.not_lt_zero f)
  | k + 1, f, h => by
    show ex_wI (r_lds S nm k) 78 k (r_load (r_lds S nm k) k nm) 78 f = _
    have e : ∀ f, r_load (r_lds S nm k) f nm = r_load S f nm := fun f => load_fr nm (fun q _ => ⟨lds_fr (by decide) k, lds_fr (by decide) k, lds_fr (by decide) k, lds_fr (by decide) k⟩)
    rw [wI_get, e]
    by_cases q : f = k
    · subst q
      rw [if_pos ⟨rfl, rfl⟩]
    · rw [if_neg (fun z => q z.2)]
      exact lds_78 k f (by omega)
theorem RC_seal {N n : Nat} {I J : ex_Mem} {bu : Int32} (h : RC N n I J) (h0 : J 52 27 = nI 0) : RC N n (q_seal (q_ff I n) bu).2 (r_seal J n bu).2 ∧ (q_seal (q_ff I n) bu).1 = (r_seal J n bu).1 := by
  obtain ⟨hA, hO, hB, hR, hI0, hP, hT⟩ := h
  obtain ⟨t1, t2, t3, t4, t5, t6⟩ := hT
  have hs := RS_all hA.2.2.2.1 t1 hA.2.2.2.2 hP n (Nat.le_refl _)
  have f1 : ∀ a k, a ≠ 46 → ¬ (81 ≤ a ∧ k = 7) → q_ff I n a k = I a k := fun a k q1 q2 => qff_fr q1 q2 n
  have f2 : ∀ a k, a ≠ 75 → r_sl J n a k = J a k := fun a k q => sl_fr q n
  have f3 : ∀ q, n ≤ q → r_sl J n 75 q = J 75 q := fun q hq => sl_75 n hq
  unfold r_seal
  generalize q_ff I n = S at hs f1 ⊢
  generalize r_sl J n = K at hs f2 f3 ⊢
  obtain ⟨hF, L, hL⟩ := hs
  have hL' : ∀ f, f < 4 → S 46 f = nI (L f) ∧ r_load K f n = nI (L f) ∧ L f ≤ 100000 := fun f hf => ⟨(hL f hf).1, (hL f hf).2.1, by have := (hL f hf).2.2; omega⟩
  obtain ⟨g, g1, g2, g3⟩ := gr_eq hL' 4 (Nat.le_refl _)
  have hA1 : RXA N n S K := ⟨RW_fr hA.1 (fun a k q1 q2 => f1 _ _ (by omega) (by omega)) (f2 _ _ (by omega)) (fun a k q1 q2 => f2 _ _ (by omega)), RT_fr hA.2.1 (fun a k q1 q2 => f1 _ _ (by omega) (by omega)) (fun a k q1 q2 => f2 _ _ (by omega)), fun m hm k hk => by rw [f1 _ _ (by omega) (by omega), f2 _ _ (by omega)]; exact hA.2.2.1 m hm k hk, hF, fun m hm => vMsg_eq (f2 _ _ (by omega)) (f2 _ _ (by omega)) (f2 _ _ (by omega)) (f2 _ _ (by omega)) (f2 _ _ (by omega)) (hA.2.2.2.2 m hm)⟩
  have hO1 : OR_ n S K := fun m hm => by rw [f1 _ _ (by omega) (by omega), f2 _ _ (by omega), hO m hm]
  have hB1 : BU S K := by
    obtain ⟨q, hq, q1, q2⟩ := hB
    exact ⟨q, hq, by rw [f1 _ _ (by omega) (by omega), q1], by rw [f2 _ _ (by omega), q2]⟩
  have hR1 : RO S K := RO_fr hR (fun k => f1 _ _ (by omega) (by omega)) (fun k => f1 _ _ (by omega) (by omega)) (fun k => f2 _ _ (by omega)) (fun k => f2 _ _ (by omega))
  have hI1 : RI S := fun t ht => ⟨by rw [f1 _ _ (by omega) (by omega), (hI0 t ht).1], by rw [f1 _ _ (by omega) (by omega), (hI0 t ht).2]⟩
  have hP1 : RP n K := fun m hm => vPer_eq (f2 _ _ (by omega)) (hP m hm)
  have t6' : ∀ m, n ≤ m → m < 8 → K 75 m = nI 0 ∧ ∀ k, k < 4 → K 76 (4 * m + k) = nI 0 := fun m hm hm8 => ⟨by rw [f3 m hm, (t6 m hm hm8).1], fun k hk => by rw [f2 _ _ (by omega), (t6 m hm hm8).2 k hk]⟩
  have s4 : I 44 4 = nI 0 := by
    rcases t5 with ⟨q1, q2⟩ | ⟨q1, q2, q3⟩
    · exact q1
    · rw [h0] at q2; exact absurd q2 (by decide)
  unfold q_seal
  rw [g2, g3]
  by_cases hb : nI g ≤ bu
  · rw [if_pos hb, if_pos hb]
    refine ⟨?_, rfl⟩
    have d1 : ∀ a k, a ≠ 44 → q_sd S a k = S a k := fun a k q => by unfold q_sd; rw [wI_fr q, wI_fr q]
    have d2 : ∀ a k, a ≠ 78 → ¬ (a = 52 ∧ (k = 27 ∨ k = 29)) → r_sealed K n a k = K a k := fun a k q1 q2 => by unfold r_sealed; rw [wI_get, if_neg (by omega), wI_get, if_neg (by omega), lds_fr q1]
    show RC N n (q_sd S) (r_sealed K n)
    refine ⟨RA_fr hA1 (fun a k q1 q2 => d1 _ _ (by omega)) (fun q k => d1 _ _ (by omega)) (fun q k _ => d1 _ _ (by omega)) (d2 _ _ (by omega) (by omega)) (fun a k q1 q2 => d2 _ _ (by omega) (by omega)) (fun a k q1 q2 => d2 _ _ (by omega) (by omega)), ?_, ?_, ?_, ?_, ?_, t1, ?_, ?_, ⟨0, by decide, ?_, ?_⟩, Or.inr ⟨?_, ?_, ?_⟩, ?_⟩
    · exact fun m hm => by
        show q_sd S _ _ = r_sealed K n _ _
        rw [d1 _ _ (by omega), d2 _ _ (by omega) (by omega), hO1 m hm]
    · obtain ⟨q, hq, q1, q2⟩ := hB1
      exact ⟨q, hq, by show q_sd S _ _ = _; rw [d1 _ _ (by omega), q1], by show r_sealed K n _ _ = _; rw [d2 _ _ (by omega) (by omega), q2]⟩
    · exact RO_fr hR1 (fun k => d1 _ _ (by omega)) (fun k => d1 _ _ (by omega)) (fun k => d2 _ _ (by omega) (by omega)) (fun k => d2 _ _ (by omega) (by omega))
    · exact fun t ht => ⟨by show q_sd S _ _ = _; rw [d1 _ _ (by omega), (hI1 t ht).1], by show q_sd S _ _ = _; rw [d1 _ _ (by omega), (hI1 t ht).2]⟩
    · exact fun m hm => vPer_eq (d2 _ _ (by omega) (by omega)) (hP1 m hm)
    · show q_sd S 44 2 = _
      unfold q_sd
      simp [wI_get]
      rw [f1 _ _ (by omega) (by omega), t2]
    · show r_sealed K n 52 17 = _
      rw [d2 _ _ (by omega) (by omega), f2 _ _ (by omega), t3]
    · show q_sd S 44 3 = _
      unfold q_sd
      simp [wI_get]
    · show r_sealed K n 52 29 = _
      unfold r_sealed
      simp [wI_get]
    · show q_sd S 44 4 = _
      unfold q_sd
      simp [wI_get]
    · show r_sealed K n 52 27 = _
      unfold r_sealed
      simp [wI_get]
    · intro f hf
      show q_sd S 46 f = r_sealed K n 78 f
      rw [d1 _ _ (by omega)]
      unfold r_sealed
      rw [wI_fr (by decide), wI_fr (by decide), lds_78 4 f hf, (hL f hf).1, (hL f hf).2.1]
    · intro m hm hm8
      exact ⟨by show r_sealed K n _ _ = _; rw [d2 _ _ (by omega) (by omega), (t6' m hm hm8).1], fun k hk => by show r_sealed K n _ _ = _; rw [d2 _ _ (by omega) (by omega), (t6' m hm hm8).2 k hk]⟩
  · rw [if_neg hb, if_neg hb]
    refine ⟨⟨hA1, hO1, hB1, hR1, hI1, hP1, t1, ?_, ?_, ?_, Or.inl ⟨?_, ?_⟩, t6'⟩, rfl⟩
    · show S 44 2 = _
      rw [f1 _ _ (by omega) (by omega), t2]
    · show K 52 17 = _
      rw [f2 _ _ (by omega), t3]
    · obtain ⟨f, q1, q2, q3⟩ := t4
      exact ⟨f, q1, by show S 44 3 = _; rw [f1 _ _ (by omega) (by omega), q2], by show K 52 29 = _; rw [f2 _ _ (by omega), q3]⟩
    · show S 44 4 = _
      rw [f1 _ _ (by omega) (by omega), s4]
    · show K 52 27 = _
      rw [f2 _ _ (by omega), h0]
/-! the small calls -/
theorem i_nat {x : Int32} (h : 0 ≤ x) : x = nI x.toNatClampNeg ∧ (x.toNatClampNeg : Int) = x.toInt := by
  have h1 : 0 ≤ x.toInt := by
    have := Int32.le_iff_toInt_le.1 h
    exact this
  have e : (x.toNatClampNeg : Int) = x.toInt := by
    show ((x.toInt.toNat : Nat) : Int) = x.toInt
    exact Int.toNat_of_nonneg h1
  refine ⟨?_, e⟩
  have hlt : x.toNatClampNeg < 2 ^ 31 := by
    have := Int32.toInt_lt x
    omega
  apply Int32.toInt.inj
  rw [nI_toInt hlt, e]
theorem i_le {x : Int32} {b : Nat} (h0 : 0 ≤ x) (h : x ≤ nI b) (hb : b < 2 ^ 31) : x.toNatClampNeg ≤ b := by
  have h1 := Int32.le_iff_toInt_le.1 h
  rw [nI_toInt hb] at h1
  have := (i_nat h0).2
  omega
theorem i_lt {x : Int32} {b : Nat} (h0 : 0 ≤ x) (h : x < nI b) (hb : b < 2 ^ 31) : x.toNatClampNeg < b := by
  have h1 := Int32.lt_iff_toInt_lt.1 h
  rw [nI_toInt hb] at h1
  have := (i_nat h0).2
  omega
theorem i_ge {x : Int32} {b : Nat} (h : nI b ≤ x) (hb : b < 2 ^ 31) : 0 ≤ x ∧ b ≤ x.toNatClampNeg := by
  have h1 := Int32.le_iff_toInt_le.1 h
  rw [nI_toInt hb] at h1
  have h0 : 0 ≤ x := by
    rw [Int32.le_iff_toInt_le]
    show (0 : Int) ≤ x.toInt
    omega
  have := (i_nat h0).2
  exact ⟨h0, by omega⟩
theorem vT_ex {t : Int32} (h : vT t) : ∃ k, k < 6 ∧ t = nI k := ⟨_, i_lt h.1 h.2 (by decide), (i_nat h.1).1⟩
theorem vK_ex {t : Int32} (h : vK t) : ∃ k, k < 4 ∧ t = nI k := ⟨_, i_lt h.1 h.2 (by decide), (i_nat h.1).1⟩
theorem vS_ex {s : Int32} (h : vS s) : ∃ k, k < 3 ∧ s = nI (k + 1) := by
  have h1 := i_ge h.1 (by decide)
  have h2 := i_le h1.1 h.2 (by decide)
  refine ⟨s.toNatClampNeg - 1, by omega, ?_⟩
  rw [show s.toNatClampNeg - 1 + 1 = s.toNatClampNeg by omega]
  exact (i_nat h1.1).1
theorem vM_ex {n : Nat} {m : Int32} (h : vM n m) (hn : n ≤ 8) : ∃ k, k < n ∧ m = nI k := ⟨_, i_lt h.1 h.2 (by omega), (i_nat h.1).1⟩
theorem vF_ex {b kd k : Int32} (h : vF b kd k) : ∃ b' kd' k', b' < 2 ∧ kd' < 3 ∧ k' ≤ 1000 ∧ b = nI b' ∧ kd = nI kd' ∧ k = nI k' := by
  obtain ⟨h1, h2, h3, h4, h5, h6⟩ := h
  exact ⟨_, _, _, by have := i_le h1 h2 (by decide); omega, by have := i_le h3 h4 (by decide); omega, i_le h5 h6 (by decide), (i_nat h1).1, (i_nat h3).1, (i_nat h5).1⟩
theorem vH_ex {hw : Nat} {i : Int32} (h : vH hw i) (hh : hw < 2 ^ 31) : ∃ k, k < 60 ∧ k < hw ∧ i = nI k := ⟨_, i_lt h.1 h.2.1 (by decide), i_lt h.1 h.2.2 hh, (i_nat h.1).1⟩
theorem RC_t {N n : Nat} {I J I' J' : ex_Mem} (h : RC N n I J) (hT : RT I' J') (e1 : ∀ a k, a < 8 ∨ 44 ≤ a → I' a k = I a k) (e2 : ∀ a k, a < 57 ∨ 66 < a → J' a k = J a k) : RC N n I' J' := by
  obtain ⟨hA, hO, hB, hR, hI0, hP, hT0⟩ := h
  refine ⟨⟨RW_fr hA.1 (fun a k q1 q2 => e1 _ _ (by omega)) (e2 _ _ (by omega)) (fun a k q1 q2 => e2 _ _ (by omega)), hT, VR_fr hA.2.2.1 (fun m k => e1 _ _ (by omega)) (fun k => e2 _ _ (by omega)), fun m hm => ⟨fun k hk => by rw [e1 _ _ (by omega), e2 _ _ (by omega)]; exact (hA.2.2.2.1 m hm).1 k hk, by rw [e1 _ _ (by omega), e2 _ _ (by omega)]; exact (hA.2.2.2.1 m hm).2⟩, fun m hm => vMsg_eq (e2 _ _ (by omega)) (e2 _ _ (by omega)) (e2 _ _ (by omega)) (e2 _ _ (by omega)) (e2 _ _ (by omega)) (hA.2.2.2.2 m hm)⟩, ?_, ?_, ?_, ?_, ?_, ?_⟩
  · exact fun m hm => by rw [e1 _ _ (by omega), e2 _ _ (by omega), hO m hm]
  · obtain ⟨q, hq, q1, q2⟩ := hB
    exact ⟨q, hq, by rw [e1 _ _ (by omega), q1], by rw [e2 _ _ (by omega), q2]⟩
  · exact RO_fr hR (fun k => e1 _ _ (by omega)) (fun k => e1 _ _ (by omega)) (fun k => e2 _ _ (by omega)) (fun k => e2 _ _ (by omega))
  · exact fun t ht => ⟨by rw [e1 _ _ (by omega), (hI0 t ht).1], by rw [e1 _ _ (by omega), (hI0 t ht).2]⟩
  · exact fun m hm => vPer_eq (e2 _ _ (by omega)) (hP m hm)
  · refine RB_fr hT0 (fun k _ => e1 _ _ (by omega)) (fun k => e1 _ _ (by omega)) (e2 _ _ (by omega)) (e2 _ _ (by omega)) (fun k => e2 _ _ (by omega)) (fun k => e2 _ _ (by omega)) (fun k _ => e2 _ _ (by omega)) ?_
    obtain ⟨f, q1, q2, q3⟩ := hT0.2.2.2.1
    exact ⟨f, q1, by rw [e1 _ _ (by omega), q2], by rw [e2 _ _ (by omega), q3]⟩
theorem RC_live {N n t : Nat} {I J : ex_Mem} {on : Int32} (h : RC N n I J) (ht : t < 6) : RC N n (ex_wI I (8 + 6 * t) 1 on) (ex_wI J 57 t (if on = 0 then nI 1 else nI 0)) := by
  have hT := h.1.2.1
  obtain ⟨h1, h2, h3, h4, h5, h6, h7, h8, h9, h10, h11⟩ := hT t ht
  refine RC_t h (RT_at (t := t) hT ?_ ?_ ?_ ?_ ?_ ?_) (fun a k q => wI_fr (by omega)) (fun a k q => wI_fr (by omega))
  · refine ⟨?_, ?_, ?_, ?_, ?_, ?_, fun b hb => ?_, fun k hk => ?_, fun k hk => ?_, fun k hk => ?_, fun s' hs' => ?_⟩ <;> try simp [wI_get]
    · exact h1
    · by_cases q : on = 0
      · rw [if_pos q]; exact ⟨fun _ => by decide, fun _ => q⟩
      · rw [if_neg q]; exact ⟨fun z => absurd z q, fun z => absurd rfl z⟩
    · exact h3
    · exact h4
    · exact h5
    · exact h6
    · exact h7 b hb
    · exact h8 k hk
    · exact h9 k hk
    · exact h10 k hk
    · exact h11 s' hs'
  · exact fun a k q1 q2 q3 => wI_fr (by omega)
  · intro a k q1 q2; rw [wI_get, if_neg (fun z => q2 z.2)]
  · exact fun k q => wI_fr (by omega)
  · exact fun a k q1 q2 q3 => wI_fr (by omega)
  · exact fun k q => wI_fr (by omega)
theorem RC_draft {N n t s k : Nat} {I J : ex_Mem} {v : Int32} (h : RC N n I J) (ht : t < 6) (hs : s < 3) (hk : k < 4) : RC N n (ex_wI I (10 + 6 * t) (4 * s + k) v) (ex_wI J 58 (12 * t + 4 * s + k) v) := by
  have hT := h.1.2.1
  obtain ⟨h1, h2, h3, h4, h5, h6, h7, h8, h9, h10, h11⟩ := hT t ht
  refine RC_t h (RT_at (t := t) hT ?_ ?_ ?_ ?_ ?_ ?_) (fun a k q => wI_fr (by omega)) (fun a k q => wI_fr (by omega))
  · refine ⟨?_, ?_, ?_, ?_, ?_, ?_, fun b hb => ?_, fun k' hk' => ?_, fun k hk => ?_, fun k hk => ?_, fun s' hs' => ?_⟩
    · rw [wI_fr (by omega)]; exact h1
    · rw [wI_fr (by omega), wI_fr (by omega)]; exact h2
    · rw [wI_fr (by omega), wI_fr (by omega)]; exact h3
    · rw [wI_fr (by omega), wI_fr (by omega)]; exact h4
    · rw [wI_fr (by omega), wI_fr (by omega)]; exact h5
    · rw [wI_fr (by omega), wI_fr (by omega)]; exact h6
    · rw [wI_fr (by omega), wI_fr (by omega)]; exact h7 b hb
    · rw [wI_get, wI_get, h8 k' hk']
      by_cases e : k' = 4 * s + k
      · rw [if_pos (by omega), if_pos (by omega)]
      · rw [if_neg (by omega), if_neg (by omega)]
    · rw [wI_fr (by omega), wI_fr (by omega)]; exact h9 k hk
    · rw [wI_fr (by omega), wI_fr (by omega)]; exact h10 k hk
    · rw [wI_fr (by omega), wI_fr (by omega)]; exact h11 s' hs'
  · exact fun a k q1 q2 q3 => wI_fr (by omega)
  · exact fun a k q1 q2 => wI_fr (by omega)
  · exact fun k q => wI_fr (by omega)
  · intro a k' q1 q2 q3; rw [wI_get, if_neg (by omega)]
  · exact fun k q => wI_fr (by omega)
theorem rpub_in {J : ex_Mem} {p k : Nat} (h : p ≤ k) (h2 : k < p + 4) : r_pub J p 59 k = J 58 k := by
  unfold r_pub
  rcases (show k = p ∨ k = p + 1 ∨ k = p + 2 ∨ k = p + 3 by omega) with rfl | rfl | rfl | rfl <;> simp [wI_get]
theorem rpub_out {J : ex_Mem} {p b k : Nat} (h : b ≠ 59 ∨ k < p ∨ p + 4 ≤ k) : r_pub J p b k = J b k := by
  unfold r_pub
  simp only [wI_get]
  rw [if_neg (by omega), if_neg (by omega), if_neg (by omega), if_neg (by omega)]
theorem copy_at {I : ex_Mem} {a0 sp a dp nn k : Nat} : ex_copy I a0 sp a dp nn a k = if dp ≤ k ∧ k < dp + nn then I a0 (sp + (k - dp)) else I a k := by
  show (if a = a then va_cpy (I a0) (I a) sp dp nn k else I a k) = _
  rw [if_pos rfl]
  rfl
theorem RC_publish {N n t s : Nat} {I J : ex_Mem} (h : RC N n I J) (ht : t < 6) (hs : s < 3) : RC N n (ex_copy I (10 + 6 * t) (4 * s) (11 + 6 * t) (4 * s) 4) (r_pub J (12 * t + 4 * s)) := by
  have hT := h.1.2.1
  obtain ⟨h1, h2, h3, h4, h5, h6, h7, h8, h9, h10, h11⟩ := hT t ht
  refine RC_t h (RT_at (t := t) hT ?_ ?_ ?_ ?_ ?_ ?_) (fun a k q => ccopy_fr (by omega)) (fun a k q => rpub_out (by omega))
  · refine ⟨?_, ?_, ?_, ?_, ?_, ?_, fun b hb => ?_, fun k' hk' => ?_, fun k hk => ?_, fun k hk => ?_, fun s' hs' => ?_⟩
    · rw [ccopy_fr (by omega)]; exact h1
    · rw [ccopy_fr (by omega), rpub_out (by omega)]; exact h2
    · rw [ccopy_fr (by omega), rpub_out (by omega)]; exact h3
    · rw [ccopy_fr (by omega), rpub_out (by omega)]; exact h4
    · rw [ccopy_fr (by omega), rpub_out (by omega)]; exact h5
    · rw [ccopy_fr (by omega), rpub_out (by omega)]; exact h6
    · rw [ccopy_fr (by omega), rpub_out (by omega)]; exact h7 b hb
    · rw [ccopy_fr (by omega), rpub_out (by omega)]; exact h8 k' hk'
    · rw [copy_at]
      by_cases e : 4 * s ≤ k ∧ k < 4 * s + 4
      · rw [if_pos e, rpub_in (by omega) (by omega), show 4 * s + (k - 4 * s) = k by omega, h8 k hk]
      · rw [if_neg e, rpub_out (by omega), h9 k hk]
    · rw [ccopy_fr (by omega), rpub_out (by omega)]; exact h10 k hk
    · rw [ccopy_fr (by omega), rpub_out (by omega)]; exact h11 s' hs'
  · exact fun a k q1 q2 q3 => ccopy_fr (by omega)
  · exact fun a k q1 q2 => rpub_out (by omega)
  · exact fun k q => rpub_out (by omega)
  · exact fun a k' q1 q2 q3 => rpub_out (by omega)
  · exact fun k q => rpub_out (by omega)
theorem RC_received {N n t s k : Nat} {I J : ex_Mem} (h : RC N n I J) (ht : t < 6) (hs : s < 3) (hk : k < 4) : (if I (13 + 6 * t) s = 0 then - nI 1 else I (12 + 6 * t) (4 * s + k)) = if J 61 (3 * t + s) = 0 then - nI 1 else J 60 (12 * t + 4 * s + k) := by
  obtain ⟨h1, h2, h3, h4, h5, h6, h7, h8, h9, h10, h11⟩ := h.1.2.1 t ht
  rw [h11 s hs, h10 (4 * s + k) (by omega), Nat.add_assoc]
/-- a change of the messages' values, faults, table alone -/
theorem RC_give {N n m k : Nat} {I J : ex_Mem} {v : Int32} (h : RC N n I J) (hm : m < n) (hk : k < 4) : RC N n (ex_wI I (82 + 2 * m) k v) (ex_wI J 76 (4 * m + k) v) := by
  obtain ⟨hA, hO, hB, hR, hI0, hP, hT0⟩ := h
  have e1 : ∀ a j, a ≠ 82 + 2 * m → ex_wI I (82 + 2 * m) k v a j = I a j := fun a j q => wI_fr q
  have e2 : ∀ a j, a ≠ 76 → ex_wI J 76 (4 * m + k) v a j = J a j := fun a j q => wI_fr q
  refine ⟨⟨RW_fr hA.1 (fun a k q1 q2 => e1 _ _ (by omega)) (e2 _ _ (by omega)) (fun a k q1 q2 => e2 _ _ (by omega)), RT_fr hA.2.1 (fun a k q1 q2 => e1 _ _ (by omega)) (fun a k q1 q2 => e2 _ _ (by omega)), ?_, fun q hq => ⟨fun k hk => by rw [e1 _ _ (by omega), e2 _ _ (by omega)]; exact (hA.2.2.2.1 q hq).1 k hk, by rw [e1 _ _ (by omega), e2 _ _ (by omega)]; exact (hA.2.2.2.1 q hq).2⟩, fun m hm => vMsg_eq (e2 _ _ (by omega)) (e2 _ _ (by omega)) (e2 _ _ (by omega)) (e2 _ _ (by omega)) (e2 _ _ (by omega)) (hA.2.2.2.2 m hm)⟩, ?_, ?_, ?_, ?_, ?_, ?_⟩
  · intro m' hm' k' hk'
    rw [wI_get, wI_get, hA.2.2.1 m' hm' k' hk']
    by_cases e : m' = m ∧ k' = k
    · rw [if_pos (by omega), if_pos (by omega)]
    · rw [if_neg (by omega), if_neg (by omega)]
  · exact fun m hm => by rw [e1 _ _ (by omega), e2 _ _ (by omega), hO m hm]
  · obtain ⟨q, hq, q1, q2⟩ := hB
    exact ⟨q, hq, by rw [e1 _ _ (by omega), q1], by rw [e2 _ _ (by omega), q2]⟩
  · exact RO_fr hR (fun k => e1 _ _ (by omega)) (fun k => e1 _ _ (by omega)) (fun k => e2 _ _ (by omega)) (fun k => e2 _ _ (by omega))
  · exact fun t ht => ⟨by rw [e1 _ _ (by omega), (hI0 t ht).1], by rw [e1 _ _ (by omega), (hI0 t ht).2]⟩
  · exact fun m hm => vPer_eq (e2 _ _ (by omega)) (hP m hm)
  · refine RB_fr hT0 (fun k _ => e1 _ _ (by omega)) (fun k => e1 _ _ (by omega)) (e2 _ _ (by omega)) (e2 _ _ (by omega)) (fun k => e2 _ _ (by omega)) (fun k => e2 _ _ (by omega)) (fun i hi => by rw [wI_get, if_neg (by omega)]) ?_
    obtain ⟨f, q1, q2, q3⟩ := hT0.2.2.2.1
    exact ⟨f, q1, by rw [e1 _ _ (by omega), q2], by rw [e2 _ _ (by omega), q3]⟩
theorem RC_fault {N n b kd k : Nat} {I J : ex_Mem} (h : RC N n I J) (hb : b < 2) (hkd : kd < 3) (hk : k ≤ 1000) : RC N n (ex_wI (ex_wI I 6 b (nI kd)) 7 b (nI k)) (ex_wI (ex_wI (ex_wI J 53 b (nI 1)) 54 b (nI kd)) 55 b (nI k)) := by
  obtain ⟨hA, hO, hB, hR, hI0, hP, hT0⟩ := h
  have e1 : ∀ a j, a ≠ 6 → a ≠ 7 → ex_wI (ex_wI I 6 b (nI kd)) 7 b (nI k) a j = I a j := fun a j q1 q2 => by rw [wI_fr q2, wI_fr q1]
  have e2 : ∀ a j, a ≠ 53 → a ≠ 54 → a ≠ 55 → ex_wI (ex_wI (ex_wI J 53 b (nI 1)) 54 b (nI kd)) 55 b (nI k) a j = J a j := fun a j q1 q2 q3 => by rw [wI_fr q3, wI_fr q2, wI_fr q1]
  refine ⟨⟨⟨RL_fr hA.1.1 (fun k => e1 _ _ (by omega) (by omega)) (fun k => e1 _ _ (by omega) (by omega)) (e2 _ _ (by omega) (by omega) (by omega)) (fun k => e2 _ _ (by omega) (by omega) (by omega)), ?_⟩, RT_fr hA.2.1 (fun a k q1 q2 => e1 _ _ (by omega) (by omega)) (fun a k q1 q2 => e2 _ _ (by omega) (by omega) (by omega)), VR_fr hA.2.2.1 (fun m k => e1 _ _ (by omega) (by omega)) (fun k => e2 _ _ (by omega) (by omega) (by omega)), fun q hq => ⟨fun k hk => by rw [e1 _ _ (by omega) (by omega), e2 _ _ (by omega) (by omega) (by omega)]; exact (hA.2.2.2.1 q hq).1 k hk, by rw [e1 _ _ (by omega) (by omega), e2 _ _ (by omega) (by omega) (by omega)]; exact (hA.2.2.2.1 q hq).2⟩, fun m hm => vMsg_eq (e2 _ _ (by omega) (by omega) (by omega)) (e2 _ _ (by omega) (by omega) (by omega)) (e2 _ _ (by omega) (by omega) (by omega)) (e2 _ _ (by omega) (by omega) (by omega)) (e2 _ _ (by omega) (by omega) (by omega)) (hA.2.2.2.2 m hm)⟩, ?_, ?_, ?_, ?_, ?_, ?_⟩
  · intro b' hb'
    by_cases e : b' = b
    · subst e
      exact Or.inr ⟨kd, k, by omega, hk, by simp [wI_get], by simp [wI_get], by simp [wI_get]; decide, by simp [wI_get], by simp [wI_get]⟩
    · exact RFb_fr (hA.1.2 b' hb') (by simp [wI_get, e]) (by simp [wI_get, e]) (by simp [wI_get, e]) (by simp [wI_get, e]) (by simp [wI_get, e])
  · exact fun m hm => by rw [e1 _ _ (by omega) (by omega), e2 _ _ (by omega) (by omega) (by omega), hO m hm]
  · obtain ⟨q, hq, q1, q2⟩ := hB
    exact ⟨q, hq, by rw [e1 _ _ (by omega) (by omega), q1], by rw [e2 _ _ (by omega) (by omega) (by omega), q2]⟩
  · exact RO_fr hR (fun k => e1 _ _ (by omega) (by omega)) (fun k => e1 _ _ (by omega) (by omega)) (fun k => e2 _ _ (by omega) (by omega) (by omega)) (fun k => e2 _ _ (by omega) (by omega) (by omega))
  · exact fun t ht => ⟨by rw [e1 _ _ (by omega) (by omega), (hI0 t ht).1], by rw [e1 _ _ (by omega) (by omega), (hI0 t ht).2]⟩
  · exact fun m hm => vPer_eq (e2 _ _ (by omega) (by omega) (by omega)) (hP m hm)
  · refine RB_fr hT0 (fun k _ => e1 _ _ (by omega) (by omega)) (fun k => e1 _ _ (by omega) (by omega)) (e2 _ _ (by omega) (by omega) (by omega)) (e2 _ _ (by omega) (by omega) (by omega)) (fun k => e2 _ _ (by omega) (by omega) (by omega)) (fun k => e2 _ _ (by omega) (by omega) (by omega)) (fun k _ => e2 _ _ (by omega) (by omega) (by omega)) ?_
    obtain ⟨f, q1, q2, q3⟩ := hT0.2.2.2.1
    exact ⟨f, q1, by rw [e1 _ _ (by omega) (by omega), q2], by rw [e2 _ _ (by omega) (by omega) (by omega), q3]⟩
theorem RC_open {N n : Nat} {I J : ex_Mem} (h : RC N n I J) : RC N n (ex_wI I 44 4 (nI 0)) (ex_wI J 52 27 (nI 0)) := by
  obtain ⟨hA, hO, hB, hR, hI0, hP, t1, t2, t3, t4, t5, t6⟩ := h
  have e1 : ∀ a j, ¬ (a = 44 ∧ j = 4) → ex_wI I 44 4 (nI 0) a j = I a j := fun a j q => by rw [wI_get, if_neg q]
  have e2 : ∀ a j, ¬ (a = 52 ∧ j = 27) → ex_wI J 52 27 (nI 0) a j = J a j := fun a j q => by rw [wI_get, if_neg q]
  refine ⟨RA_fr hA (fun a k q1 q2 => e1 _ _ (by omega)) (fun m k => e1 _ _ (by omega)) (fun m k _ => e1 _ _ (by omega)) (e2 _ _ (by omega)) (fun a k q1 q2 => e2 _ _ (by omega)) (fun a k q1 q2 => e2 _ _ (by omega)), ?_, ?_, ?_, ?_, ?_, t1, by rw [e1 _ _ (by omega), t2], by rw [e2 _ _ (by omega), t3], ?_, Or.inl ⟨by simp [wI_get], by simp [wI_get]⟩, fun m hm hm8 => ⟨by rw [e2 _ _ (by omega), (t6 m hm hm8).1], fun k hk => by rw [e2 _ _ (by omega), (t6 m hm hm8).2 k hk]⟩⟩
  · exact fun m hm => by rw [e1 _ _ (by omega), e2 _ _ (by omega), hO m hm]
  · obtain ⟨q, hq, q1, q2⟩ := hB
    exact ⟨q, hq, by rw [e1 _ _ (by omega), q1], by rw [e2 _ _ (by omega), q2]⟩
  · exact RO_fr hR (fun k => e1 _ _ (by omega)) (fun k => e1 _ _ (by omega)) (fun k => e2 _ _ (by omega)) (fun k => e2 _ _ (by omega))
  · exact fun t ht => ⟨by rw [e1 _ _ (by omega), (hI0 t ht).1], by rw [e1 _ _ (by omega), (hI0 t ht).2]⟩
  · exact fun m hm => vPer_eq (e2 _ _ (by omega)) (hP m hm)
  · obtain ⟨f, q1, q2, q3⟩ := t4
    exact ⟨f, q1, by rw [e1 _ _ (by omega), q2], by rw [e2 _ _ (by omega), q3]⟩
/-! a new message; what is only asked -/
def q_new (I : ex_Mem) (n : Nat) : ex_Mem := ex_cI (ex_cI I (81 + 2 * n)) (82 + 2 * n)
def q_mk (I : ex_Mem) (n : Nat) (kd x y s nn per : Int32) : ex_Mem := ex_wI (ex_wI (ex_wI (ex_wI (ex_wI (ex_wI (q_new I n) (81 + 2 * n) 0 kd) (81 + 2 * n) 1 x) (81 + 2 * n) 2 y) (81 + 2 * n) 3 s) (81 + 2 * n) 4 nn) (81 + 2 * n) 5 per
def q_add (I : ex_Mem) (n : Nat) (kd x y s nn per : Int32) : ex_Mem := ex_wI (q_mk I n kd x y s nn per) 44 2 (nI (n + 1))
theorem cI_get {I : ex_Mem} {a b j : Nat} : ex_cI I a b j = if b = a then 0 else I b j := rfl
theorem add_fr {I : ex_Mem} {n a k : Nat} {kd x y s nn per : Int32} (h1 : a ≠ 81 + 2 * n) (h2 : a ≠ 82 + 2 * n) (h3 : ¬ (a = 44 ∧ k = 2)) : q_add I n kd x y s nn per a k = I a k := by
  unfold q_add q_mk q_new
  rw [wI_get, if_neg h3, wI_fr h1, wI_fr h1, wI_fr h1, wI_fr h1, wI_fr h1, wI_fr h1, cI_get, if_neg h2, cI_get, if_neg h1]
theorem radd_fr {J : ex_Mem} {n a k : Nat} {kd x y s nn per : Int32} (h1 : (69 ≤ a ∧ a ≤ 74) ∨ a = 77 → k ≠ n) (h2 : ¬ (a = 52 ∧ k = 17)) : r_add J n kd x y s nn per a k = J a k := by
  unfold r_add
  simp only [wI_get]
  rw [if_neg (by omega), if_neg (by omega), if_neg (by omega), if_neg (by omega), if_neg (by omega), if_neg (by omega), if_neg (by omega), if_neg (by omega)]
theorem tk_v {J : ex_Mem} {a m : Nat} {x : Int32} (e : J a m = x) : tk J a m = x.toNatClampNeg := by unfold tk; rw [e]
theorem nI_inj0 {a b : Nat} (ha : a < 2147483648) (hb : b < 2147483648) (h : nI a = nI b) : a = b := by rw [nI_lit ha hb] at h; exact h
theorem add_v {J : ex_Mem} {n : Nat} {kd x y s nn per : Int32} (h : okMsg kd x y s nn per) : vMsg (r_add J n kd x y s nn per) n ∧ vPer (r_add J n kd x y s nn per) n := by
  obtain ⟨k0, k4, hp, hx, hy, hc⟩ := h
  have e69 : r_add J n kd x y s nn per 69 n = kd := by unfold r_add; simp [wI_get]
  have e70 : r_add J n kd x y s nn per 70 n = x := by unfold r_add; simp [wI_get]
  have e71 : r_add J n kd x y s nn per 71 n = y := by unfold r_add; simp [wI_get]
  have e72 : r_add J n kd x y s nn per 72 n = s := by unfold r_add; simp [wI_get]
  have e73 : r_add J n kd x y s nn per 73 n = nn := by unfold r_add; simp [wI_get]
  have e74 : r_add J n kd x y s nn per 74 n = per := by unfold r_add; simp [wI_get]
  have hk := i_nat k0
  have hk4 := i_le k0 k4 (by decide)
  have nk : ∀ q, q < 100 → (kd = nI q ↔ kd.toNatClampNeg = q) := fun q hq => by
    constructor
    · intro z
      rw [z, nI_clamp' (k := 100) hq]
    · intro z
      rw [hk.1, z]
  constructor
  · unfold vMsg
    rw [tk_v e69, tk_v e70, tk_v e71, tk_v e72, tk_v e73, e69, e70, e71, e72, e73]
    refine ⟨hk.1, hk4, fun q => ?_, fun q => ?_, fun q => ?_, fun q => ?_⟩
    · rcases hx with z | z
      · exact absurd ((nk 3 (by decide)).1 z) q
      · exact ⟨(i_nat z.1).1, i_lt z.1 z.2 (by decide)⟩
    · rcases hy with z | z
      · exact absurd ((nk 2 (by decide)).2 q) z
      · refine ⟨(i_nat z.1.1).1, i_lt z.1.1 z.1.2 (by decide), fun e => z.2 ?_⟩
        rcases hx with w | w
        · exact absurd ((nk 3 (by decide)).1 w) (by omega)
        · rw [(i_nat w.1).1, e, ← (i_nat z.1.1).1]
    · rcases hc with ⟨z, _⟩ | ⟨_, z1, z2, z3⟩
      · exact absurd ((nk 4 (by decide)).1 z) q
      · have s1 := i_ge z1.1 (by decide)
        have s3 := i_le s1.1 z1.2 (by decide)
        have n1 := i_ge z2 (by decide)
        have n4 := i_le n1.1 z3 (by decide)
        exact ⟨by rw [show s.toNatClampNeg - 1 + 1 = s.toNatClampNeg by omega]; exact (i_nat s1.1).1, by omega, (i_nat n1.1).1, n1.2, n4⟩
    · rcases hc with ⟨_, z⟩ | ⟨z, _⟩
      · rcases z with rfl | rfl | rfl | rfl | rfl | rfl <;> refine ⟨by decide, ?_⟩ <;> unfold isCd <;> decide
      · exact absurd ((nk 4 (by decide)).2 q) z
  · unfold vPer
    rw [tk_v e74, e74]
    rcases hp with rfl | rfl | rfl <;> refine ⟨by decide, ?_⟩ <;> decide
theorem RC_add {N n : Nat} {I J : ex_Mem} {kd x y s nn per : Int32} (h : RC N n I J) (h8 : n < 8) (hk : okMsg kd x y s nn per) : RC N (n + 1) (q_add I n kd x y s nn per) (r_add J n kd x y s nn per) := by
  obtain ⟨hA, hO, hB, hR, hI0, hP, t1, t2, t3, t4, t5, t6⟩ := h
  have e1 : ∀ a k, a ≠ 81 + 2 * n → a ≠ 82 + 2 * n → ¬ (a = 44 ∧ k = 2) → q_add I n kd x y s nn per a k = I a k := fun a k q1 q2 q3 => add_fr q1 q2 q3
  have e2 : ∀ a k, ((69 ≤ a ∧ a ≤ 74) ∨ a = 77 → k ≠ n) → ¬ (a = 52 ∧ k = 17) → r_add J n kd x y s nn per a k = J a k := fun a k q1 q2 => radd_fr q1 q2
  have hv := add_v (J := J) (n := n) hk
  have m8 : q_add I n kd x y s nn per (81 + 2 * n) 8 = nI 0 := by unfold q_add q_mk q_new; simp [wI_get, cI_get, show ¬ 81 + 2 * n = 44 by omega]; rfl
  have m7 : q_add I n kd x y s nn per (81 + 2 * n) 7 = nI 0 := by unfold q_add q_mk q_new; simp [wI_get, cI_get, show ¬ 81 + 2 * n = 44 by omega]; rfl
  have mv : ∀ k, q_add I n kd x y s nn per (82 + 2 * n) k = nI 0 := fun k => by unfold q_add q_mk q_new; simp [wI_get, cI_get, show ¬ 82 + 2 * n = 44 by omega]; rfl
  have mf : ∀ k, k < 6 → q_add I n kd x y s nn per (81 + 2 * n) k = r_add J n kd x y s nn per (69 + k) n := fun k hk => by
    rcases (show k = 0 ∨ k = 1 ∨ k = 2 ∨ k = 3 ∨ k = 4 ∨ k = 5 by omega) with rfl | rfl | rfl | rfl | rfl | rfl <;> unfold q_add q_mk q_new r_add <;> simp [wI_get, show ¬ 81 + 2 * n = 44 by omega]
  refine ⟨⟨RW_fr hA.1 (fun a k q1 q2 => e1 _ _ (by omega) (by omega) (by omega)) (e2 _ _ (by omega) (by omega)) (fun a k q1 q2 => e2 _ _ (by omega) (by omega)), RT_fr hA.2.1 (fun a k q1 q2 => e1 _ _ (by omega) (by omega) (by omega)) (fun a k q1 q2 => e2 _ _ (by omega) (by omega)), ?_, ?_, ?_⟩, ?_, ?_, ?_, ?_, ?_, by omega, ?_, ?_, ?_, ?_, ?_⟩
  · intro m hm k hk'
    by_cases e : m = n
    · subst e
      rw [mv, e2 _ _ (by omega) (by omega), (t6 m (Nat.le_refl _) h8).2 k hk']
    · rw [e1 _ _ (by omega) (by omega) (by omega), e2 _ _ (by omega) (by omega)]
      exact hA.2.2.1 m (by omega) k hk'
  · intro m hm
    by_cases e : m = n
    · subst e
      exact ⟨mf, by rw [m7, e2 _ _ (by omega) (by omega), (t6 m (Nat.le_refl _) h8).1]⟩
    · exact ⟨fun k hk' => by rw [e1 _ _ (by omega) (by omega) (by omega), e2 _ _ (by omega) (by omega)]; exact (hA.2.2.2.1 m (by omega)).1 k hk', by rw [e1 _ _ (by omega) (by omega) (by omega), e2 _ _ (by omega) (by omega)]; exact (hA.2.2.2.1 m (by omega)).2⟩
  · intro m hm
    by_cases e : m = n
    · subst e; exact hv.1
    · exact vMsg_eq (e2 _ _ (by omega) (by omega)) (e2 _ _ (by omega) (by omega)) (e2 _ _ (by omega) (by omega)) (e2 _ _ (by omega) (by omega)) (e2 _ _ (by omega) (by omega)) (hA.2.2.2.2 m (by omega))
  · intro m hm
    by_cases e : m = n
    · subst e
      rw [m8]
      unfold r_add
      simp [wI_get]
    · rw [e1 _ _ (by omega) (by omega) (by omega), e2 _ _ (by omega) (by omega), hO m (by omega)]
  · obtain ⟨q, hq, q1, q2⟩ := hB
    exact ⟨q, hq, by rw [e1 _ _ (by omega) (by omega) (by omega), q1], by rw [e2 _ _ (by omega) (by omega), q2]⟩
  · exact RO_fr hR (fun k => e1 _ _ (by omega) (by omega) (by omega)) (fun k => e1 _ _ (by omega) (by omega) (by omega)) (fun k => e2 _ _ (by omega) (by omega)) (fun k => e2 _ _ (by omega) (by omega))
  · exact fun t ht => ⟨by rw [e1 _ _ (by omega) (by omega) (by omega), (hI0 t ht).1], by rw [e1 _ _ (by omega) (by omega) (by omega), (hI0 t ht).2]⟩
  · intro m hm
    by_cases e : m = n
    · subst e; exact hv.2
    · exact vPer_eq (e2 _ _ (by omega) (by omega)) (hP m (by omega))
  · unfold q_add; simp [wI_get]
  · unfold r_add; simp [wI_get]
  · obtain ⟨f, q1, q2, q3⟩ := t4
    exact ⟨f, q1, by rw [e1 _ _ (by omega) (by omega) (by omega), q2], by rw [e2 _ _ (by omega) (by omega), q3]⟩
  · rcases t5 with ⟨q1, q2⟩ | ⟨q1, q2, q3⟩
    · exact Or.inl ⟨by rw [e1 _ _ (by omega) (by omega) (by omega), q1], by rw [e2 _ _ (by omega) (by omega), q2]⟩
    · exact Or.inr ⟨by rw [e1 _ _ (by omega) (by omega) (by omega), q1], by rw [e2 _ _ (by omega) (by omega), q2], fun f hf => by rw [e1 _ _ (by omega) (by omega) (by omega), e2 _ _ (by omega) (by omega), q3 f hf]⟩
  · exact fun m hm hm8 => ⟨by rw [e2 _ _ (by omega) (by omega), (t6 m (by omega) hm8).1], fun k hk' => by rw [e2 _ _ (by omega) (by omega), (t6 m (by omega) hm8).2 k hk']⟩
/-- the monitor's i-th latest -/
theorem RC_heard {N n i hw : Nat} {I J : ex_Mem} (h : RC N n I J) (hJ : J 52 3 = nI hw) (h31 : hw < 2 ^ 31) (hN : N < 2 ^ 31) (hi : i < 60) (hw2 : i < hw) : I 5 ((tk I 4 1 + 60 - 1 - i) % 60) = J 56 ((hw - 1 - i) % 60) := by
  obtain ⟨q, q1, q2, q3, q4, q5⟩ := h.1.1.1
  have e : q = hw := nI_inj0 (by omega) (by omega) (by rw [← q2, hJ])
  subst e
  rw [tk_of q3 (by omega), q5 _ (Nat.mod_lt _ (by decide))]
  congr 1
  omega
