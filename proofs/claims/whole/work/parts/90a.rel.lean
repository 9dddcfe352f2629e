/-! the relation between the system's memory and the reference's: wires and monitor -/
theorem im_hwOf {J : ex_Mem} {h : Nat} (e : J 52 3 = nI h) (h31 : h < 2 ^ 31) : hwOf J = h := hwOf_of e h31
theorem tk_of {I : ex_Mem} {a k p : Nat} (e : I a k = nI p) (hp : p < 2147483647) : tk I a k = p := by
  unfold tk; rw [e]; exact nI_clamp' hp (by decide)
def RLg (N : Nat) (I J : ex_Mem) : Prop := ∃ h, h ≤ N ∧ J 52 3 = nI h ∧ I 4 1 = nI (h % 60) ∧ I 4 2 = nI h ∧ ∀ i, i < 60 → I 5 i = J 56 i
def RFb (I J : ex_Mem) (b : Nat) : Prop := (I 6 b = - nI 1 ∧ J 53 b = 0) ∨ (∃ kd k, kd ≤ 2 ∧ k ≤ 1000 ∧ I 6 b = nI kd ∧ J 54 b = nI kd ∧ ¬ J 53 b = 0 ∧ I 7 b = nI k ∧ J 55 b = nI k)
def RF (I J : ex_Mem) : Prop := ∀ b, b < 2 → RFb I J b
def RW (N : Nat) (I J : ex_Mem) : Prop := RLg N I J ∧ RF I J
theorem RL_fr {N : Nat} {I J I' J' : ex_Mem} (h : RLg N I J) (e1 : ∀ k, I' 4 k = I 4 k) (e2 : ∀ k, I' 5 k = I 5 k) (e3 : J' 52 3 = J 52 3) (e4 : ∀ k, J' 56 k = J 56 k) : RLg N I' J' := by
  obtain ⟨q, h1, h2, h3, h4, h5⟩ := h
  exact ⟨q, h1, by rw [e3, h2], by rw [e1, h3], by rw [e1, h4], fun i hi => by rw [e2, e4, h5 i hi]⟩
theorem RL_up {N M : Nat} {I J : ex_Mem} (h : RLg N I J) (hM : N ≤ M) : RLg M I J := by
  obtain ⟨q, h1, h2⟩ := h
  exact ⟨q, Nat.le_trans h1 hM, h2⟩
theorem RFb_fr {I J I' J' : ex_Mem} {b : Nat} (h : RFb I J b) (e1 : I' 6 b = I 6 b) (e2 : I' 7 b = I 7 b) (e3 : J' 53 b = J 53 b) (e4 : J' 54 b = J 54 b) (e5 : J' 55 b = J 55 b) : RFb I' J' b := by
  rcases h with h | ⟨kd, k, h1, h2, h3, h4, h5, h6, h7⟩
  · exact Or.inl ⟨by rw [e1, h.1], by rw [e3, h.2]⟩
  · exact Or.inr ⟨kd, k, h1, h2, by rw [e1, h3], by rw [e4, h4], by rw [e3]; exact h5, by rw [e2, h6], by rw [e5, h7]⟩
theorem RW_up {N M : Nat} {I J : ex_Mem} (h : RW N I J) (hM : N ≤ M) : RW M I J := ⟨RL_up h.1 hM, h.2⟩
theorem RW_fr {N : Nat} {I J I' J' : ex_Mem} (h : RW N I J) (e : ∀ a k, 4 ≤ a → a < 8 → I' a k = I a k) (e3 : J' 52 3 = J 52 3) (e4 : ∀ a k, 53 ≤ a → a < 57 → J' a k = J a k) : RW N I' J' :=
  ⟨RL_fr h.1 (fun k => e 4 k (by decide) (by decide)) (fun k => e 5 k (by decide) (by decide)) e3 (fun k => e4 56 k (by decide) (by decide)),
   fun b hb => RFb_fr (h.2 b hb) (e 6 b (by decide) (by decide)) (e 7 b (by decide) (by decide)) (e4 53 b (by decide) (by decide)) (e4 54 b (by decide) (by decide)) (e4 55 b (by decide) (by decide))⟩
theorem RW_hw {N : Nat} {I J : ex_Mem} (h : RW N I J) (hN : N < 2 ^ 31) : hwB N J := by
  obtain ⟨q, h1, h2, h3⟩ := h.1
  have e := hwOf_of h2 (by omega)
  exact ⟨by rw [e, h2], by omega⟩
theorem RW_mon {N : Nat} {I J : ex_Mem} (h : RW N I J) : monB I := by
  obtain ⟨q, h1, h2, h3, h4⟩ := h.1
  exact monB_of h3 (by omega)
theorem RL_wr {N : Nat} {I J I' J' : ex_Mem} {w : Int32} (h : RLg N I J) (hN : N + 1 < 2 ^ 31) (e1 : ∀ k, I' 4 k = I 4 k) (e2 : ∀ k, I' 5 k = I 5 k) (e3 : J' 52 3 = J 52 3) (e4 : ∀ k, J' 56 k = J 56 k) : RLg (N + 1) (c_wr I' w) (ex_wI (ex_wI J' 56 (hwOf J % 60) w) 52 3 (J 52 3 + nI 1)) := by
  obtain ⟨q, h1, h2, h3, h4, h5⟩ := h
  have eh : hwOf J = q := hwOf_of h2 (by omega)
  have et : tk I' 4 1 = q % 60 := tk_of (by rw [e1, h3]) (by omega)
  refine ⟨q + 1, by omega, ?_, ?_, ?_, ?_⟩
  · simp only [wI_get, and_self, if_true]
    rw [h2, ix_add]
  · unfold c_wr
    simp only [wI_get, et]
    simp
  · unfold c_wr
    simp only [wI_get, et]
    simp [e1, h4, ix_add]
  · intro i hi
    unfold c_wr
    rw [et, eh]
    simp only [wI_get]
    by_cases hi2 : i = q % 60
    · simp [hi2]
    · simp [hi2, e2, e4, h5 i hi]
theorem RW_put {N b : Nat} {I J : ex_Mem} {w : Int32} (h : RW N I J) (hN : N + 1 < 2 ^ 31) (hb : b < 2) : RW (N + 1) (c_put I b w).2 (r_put J b w).2 ∧ (c_put I b w).1 = (if (r_put J b w).1 = nI 1 then nI 1 else nI 0) := by
  have ebm : ∀ v : Int32, v + nI b * nI 262144 = v + r_bm b := by
    intro v
    rcases (show b = 0 ∨ b = 1 by omega) with rfl | rfl <;> rfl
  rcases h.2 b hb with ⟨h6, h53⟩ | ⟨kd, k, hkd, hk, h6, h54, h53, h7, h55⟩
  · have ec : c_put I b w = (nI 1, c_wr I (w + r_bm b)) := by
      unfold c_put c_hit c_pt
      simp [h6, mn_0, mn_lit, ebm, ix_0]
    have er : r_put J b w = (nI 1, ex_wI (ex_wI (ex_wI J 55 b (J 55 b - nI 1)) 56 (hwOf J % 60) (w + r_bm b)) 52 3 (J 52 3 + nI 1)) := by
      unfold r_put
      rw [if_pos (Or.inl h53)]
    rw [ec, er]
    refine ⟨⟨RL_wr h.1 hN (fun _ => rfl) (fun _ => rfl) (by simp [wI_get]) (fun k => by simp [wI_get]), ?_⟩, by simp⟩
    intro b' hb'
    by_cases e : b' = b
    · subst e
      exact Or.inl ⟨by simp [c_wr, wI_get, h6], by simp [wI_get, h53]⟩
    · exact RFb_fr (h.2 b' hb') (by simp [c_wr, wI_get]) (by simp [c_wr, wI_get]) (by simp [wI_get]) (by simp [wI_get]) (by simp [wI_get, e])
  · have hm1 : ¬ I 6 b = - nI 1 := by rw [h6, mn_lit' (by omega)]; exact id
    by_cases hk0 : k = 0
    · subst hk0
      have hle : I 7 b ≤ 0 := by rw [h7]; decide
      have h550 : J 55 b = 0 := by rw [h55]; rfl
      rcases (show kd = 0 ∨ kd = 1 ∨ kd = 2 by omega) with rfl | rfl | rfl
      · have ec : c_put I b w = (nI 0, ex_wI I 6 b (- nI 1)) := by
          have e1 : c_hit I b = (nI 0, ex_wI I 6 b (- nI 1)) := by
            unfold c_hit
            rw [if_neg hm1, if_pos hle, if_neg (by rw [h6]; decide), h6]
          unfold c_put
          rw [e1]
          rfl
        have er : r_put J b w = (nI 0, ex_wI (ex_wI J 55 b (J 55 b - nI 1)) 53 b (nI 0)) := by
          unfold r_put
          rw [if_neg (by simp [h53, h550]), if_neg (by rw [h54]; decide), if_neg (by rw [h54]; decide)]
        rw [ec, er]
        refine ⟨⟨RL_up (RL_fr h.1 (fun _ => by simp [wI_get]) (fun _ => by simp [wI_get]) (by simp [wI_get]) (fun k => by simp [wI_get])) (by omega), ?_⟩, rfl⟩
        intro b' hb'
        by_cases e : b' = b
        · subst e
          exact Or.inl ⟨by simp [wI_get], by simp [wI_get]; rfl⟩
        · exact RFb_fr (h.2 b' hb') (by simp [wI_get, e]) (by simp [wI_get]) (by simp [wI_get, e]) (by simp [wI_get]) (by simp [wI_get, e])
      · have ec : c_put I b w = (nI 0, c_wr (ex_wI I 6 b (- nI 1)) (w + nI 131072 + r_bm b)) := by
          have e1 : c_hit I b = (nI 1, ex_wI I 6 b (- nI 1)) := by
            unfold c_hit
            rw [if_neg hm1, if_pos hle, if_neg (by rw [h6]; decide), h6]
          unfold c_put
          rw [e1]
          unfold c_pt
          rw [ebm]
          rfl
        have er : r_put J b w = (nI 2, ex_wI (ex_wI (ex_wI (ex_wI J 55 b (J 55 b - nI 1)) 53 b (nI 0)) 56 (hwOf J % 60) (w + nI 131072 + r_bm b)) 52 3 (J 52 3 + nI 1)) := by
          unfold r_put
          rw [if_neg (by simp [h53, h550]), if_neg (by rw [h54]; decide), if_pos h54]
        rw [ec, er]
        refine ⟨⟨RL_wr h.1 hN (fun _ => by simp [wI_get]) (fun _ => by simp [wI_get]) (by simp [wI_get]) (fun k => by simp [wI_get]), ?_⟩, rfl⟩
        intro b' hb'
        by_cases e : b' = b
        · subst e
          exact Or.inl ⟨by simp [c_wr, wI_get], by simp [wI_get]; rfl⟩
        · exact RFb_fr (h.2 b' hb') (by simp [c_wr, wI_get, e]) (by simp [c_wr, wI_get]) (by simp [wI_get, e]) (by simp [wI_get]) (by simp [wI_get, e])
      · have ec : c_put I b w = (nI 0, I) := by
          have e1 : c_hit I b = (nI 2, I) := by
            unfold c_hit
            rw [if_neg hm1, if_pos hle, if_pos h6, h6]
          unfold c_put
          rw [e1]
          rfl
        have er : r_put J b w = (nI 0, J) := by
          unfold r_put
          rw [if_neg (by simp [h53, h550]), if_pos h54]
        rw [ec, er]
        exact ⟨RW_up h (by omega), rfl⟩
    · have hgt : ¬ I 7 b ≤ 0 := by
        rw [h7, Int32.le_iff_toInt_le, nI_toInt (by omega)]
        show ¬ ((k : Int) ≤ 0)
        omega
      have h55n : ¬ J 55 b = 0 := by rw [h55, nI_lit0 (by omega)]; exact hk0
      have ec : c_put I b w = (nI 1, c_wr (ex_wI I 7 b (I 7 b - nI 1)) (w + r_bm b)) := by
        unfold c_put c_hit c_pt
        rw [if_neg hm1, if_neg hgt]
        simp [mn_0, mn_lit, ebm, ix_0]
      have er : r_put J b w = (nI 1, ex_wI (ex_wI (ex_wI J 55 b (J 55 b - nI 1)) 56 (hwOf J % 60) (w + r_bm b)) 52 3 (J 52 3 + nI 1)) := by
        unfold r_put
        rw [if_pos (Or.inr h55n)]
      rw [ec, er]
      refine ⟨⟨RL_wr h.1 hN (fun _ => by simp [wI_get]) (fun _ => by simp [wI_get]) (by simp [wI_get]) (fun k => by simp [wI_get]), ?_⟩, by simp⟩
      intro b' hb'
      by_cases e : b' = b
      · subst e
        obtain ⟨k', rfl⟩ : ∃ k', k = k' + 1 := ⟨k - 1, by omega⟩
        refine Or.inr ⟨kd, k', hkd, by omega, by simp [c_wr, wI_get, h6], by simp [wI_get, h54], by simp [wI_get, h53], ?_, ?_⟩
        · simp [c_wr, wI_get, h7, ix_pred]
        · simp [wI_get, h55, ix_pred]
      · exact RFb_fr (h.2 b' hb') (by simp [c_wr, wI_get]) (by simp [c_wr, wI_get, e]) (by simp [wI_get]) (by simp [wI_get]) (by simp [wI_get, e])
/-! terminals -/
def RTt (I J : ex_Mem) (t : Nat) : Prop := I (8 + 6 * t) 0 = nI t ∧ (I (8 + 6 * t) 1 = 0 ↔ ¬ J 57 t = 0) ∧ I (8 + 6 * t) 2 = J 62 t ∧ I (8 + 6 * t) 3 = J 63 t ∧ I (8 + 6 * t) 4 = J 64 t ∧ I (8 + 6 * t) 5 = J 65 t ∧
  (∀ b, b < 2 → I (9 + 6 * t) b = J 66 (2 * t + b)) ∧ (∀ k, k < 12 → I (10 + 6 * t) k = J 58 (12 * t + k)) ∧ (∀ k, k < 12 → I (11 + 6 * t) k = J 59 (12 * t + k)) ∧ (∀ k, k < 12 → I (12 + 6 * t) k = J 60 (12 * t + k)) ∧ (∀ s, s < 3 → I (13 + 6 * t) s = J 61 (3 * t + s))
def RT (I J : ex_Mem) : Prop := ∀ t, t < 6 → RTt I J t
theorem RTt_fr {I J I' J' : ex_Mem} {t : Nat} (h : RTt I J t) (e1 : ∀ a k, 8 + 6 * t ≤ a → a < 14 + 6 * t → I' a k = I a k) (e2 : J' 57 t = J 57 t) (e3 : J' 62 t = J 62 t) (e4 : J' 63 t = J 63 t) (e5 : J' 64 t = J 64 t) (e6 : J' 65 t = J 65 t) (e7 : ∀ b, b < 2 → J' 66 (2 * t + b) = J 66 (2 * t + b)) (e8 : ∀ k, k < 12 → J' 58 (12 * t + k) = J 58 (12 * t + k)) (e9 : ∀ k, k < 12 → J' 59 (12 * t + k) = J 59 (12 * t + k)) (e10 : ∀ k, k < 12 → J' 60 (12 * t + k) = J 60 (12 * t + k)) (e11 : ∀ s, s < 3 → J' 61 (3 * t + s) = J 61 (3 * t + s)) : RTt I' J' t := by
  obtain ⟨h1, h2, h3, h4, h5, h6, h7, h8, h9, h10, h11⟩ := h
  refine ⟨?_, ?_, ?_, ?_, ?_, ?_, fun b hb => ?_, fun k hk => ?_, fun k hk => ?_, fun k hk => ?_, fun s hs => ?_⟩
  · rw [e1 _ _ (by omega) (by omega), h1]
  · rw [e1 _ _ (by omega) (by omega), e2]; exact h2
  · rw [e1 _ _ (by omega) (by omega), e3, h3]
  · rw [e1 _ _ (by omega) (by omega), e4, h4]
  · rw [e1 _ _ (by omega) (by omega), e5, h5]
  · rw [e1 _ _ (by omega) (by omega), e6, h6]
  · rw [e1 _ _ (by omega) (by omega), e7 b hb, h7 b hb]
  · rw [e1 _ _ (by omega) (by omega), e8 k hk, h8 k hk]
  · rw [e1 _ _ (by omega) (by omega), e9 k hk, h9 k hk]
  · rw [e1 _ _ (by omega) (by omega), e10 k hk, h10 k hk]
  · rw [e1 _ _ (by omega) (by omega), e11 s hs, h11 s hs]
theorem RT_fr {I J I' J' : ex_Mem} (h : RT I J) (e1 : ∀ a k, 8 ≤ a → a < 44 → I' a k = I a k) (e2 : ∀ a k, 57 ≤ a → a ≤ 66 → J' a k = J a k) : RT I' J' := fun t ht =>
  RTt_fr (h t ht) (fun a k h1 h2 => e1 a k (by omega) (by omega)) (e2 _ _ (by decide) (by decide)) (e2 _ _ (by decide) (by decide)) (e2 _ _ (by decide) (by decide)) (e2 _ _ (by decide) (by decide)) (e2 _ _ (by decide) (by decide)) (fun _ _ => e2 _ _ (by decide) (by decide)) (fun _ _ => e2 _ _ (by decide) (by decide)) (fun _ _ => e2 _ _ (by decide) (by decide)) (fun _ _ => e2 _ _ (by decide) (by decide)) (fun _ _ => e2 _ _ (by decide) (by decide))
theorem RT_put {I J : ex_Mem} {b : Nat} {w : Int32} (h : RT I J) : RT (c_put I b w).2 (r_put J b w).2 :=
  RT_fr h (fun a k h1 h2 => cput_fr (Or.inr h1)) (fun a k h1 h2 => put_fr (by omega) (by omega) (by omega) (by omega))
theorem RT_st {I J : ex_Mem} {t : Nat} (h : RTt I J t) : c_st I t = r_st J t := by
  unfold c_st r_st
  rw [h.1, h.2.2.1, h.2.2.2.1, Int32.mul_comm]
/-- a change at one terminal alone -/
theorem RT_at {I J I' J' : ex_Mem} {t : Nat} (h : RT I J) (ht : RTt I' J' t) (e1 : ∀ a k, 8 ≤ a → a < 44 → (a < 8 + 6 * t ∨ 14 + 6 * t ≤ a) → I' a k = I a k)
    (e2 : ∀ a k, a = 57 ∨ (62 ≤ a ∧ a ≤ 65) → k ≠ t → J' a k = J a k) (e3 : ∀ k, (k < 2 * t ∨ 2 * t + 2 ≤ k) → J' 66 k = J 66 k) (e4 : ∀ a k, 58 ≤ a → a ≤ 60 → (k < 12 * t ∨ 12 * t + 12 ≤ k) → J' a k = J a k) (e5 : ∀ k, (k < 3 * t ∨ 3 * t + 3 ≤ k) → J' 61 k = J 61 k) : RT I' J' := by
  intro u hu
  by_cases e : u = t
  · rw [e]; exact ht
  · exact RTt_fr (h u hu) (fun a k h1 h2 => e1 a k (by omega) (by omega) (by omega)) (e2 _ _ (by omega) e) (e2 _ _ (by omega) e) (e2 _ _ (by omega) e) (e2 _ _ (by omega) e) (e2 _ _ (by omega) e)
      (fun b hb => e3 _ (by omega)) (fun k hk => e4 _ _ (by decide) (by decide) (by omega)) (fun k hk => e4 _ _ (by decide) (by decide) (by omega)) (fun k hk => e4 _ _ (by decide) (by decide) (by omega)) (fun s hs => e5 _ (by omega))
theorem RT_hears {J : ex_Mem} {A : Int32 × ex_Mem} {t : Nat} {how w : Int32} (h : RT A.2 J) (ht : t < 6) (hA : A.1 = if how = nI 1 then nI 1 else nI 0) :
    RT (c_ob1 A t w).2 (r_hears J t how w (nI 0) (nI 0)).2 ∧ (c_ob1 A t w).1 = (r_hears J t how w (nI 0) (nI 0)).1 ∧ (¬ (c_ob1 A t w).1 = 0 → (r_hears J t how w (nI 0) (nI 0)).2 63 t = nI 0 ∧ (c_ob1 A t w).1 = nI 1) := by
  obtain ⟨h1, h2, h3, h4, h5, h6, h7, h8, h9, h10, h11⟩ := h t ht
  by_cases hh : how = nI 1
  · rw [if_pos hh] at hA
    by_cases hd : J 57 t = 0
    · have hl : ¬ A.2 (8 + 6 * t) 1 = 0 := fun q => (h2.1 q) hd
      have ec : c_ob1 A t w = (nI 1, ex_wI (c_clr A.2 t) (8 + 6 * t) 4 w) := by
        unfold c_ob1 c_obey
        rw [if_neg (by rw [hA]; decide), if_neg hl]
        rfl
      have er : r_hears J t how w (nI 0) (nI 0) = (nI 1, ex_wI (ex_wI (ex_wI J 62 t (nI 0)) 63 t (nI 0)) 64 t w) := by
        unfold r_hears
        rw [if_neg (by simp [hh, hd])]
        rfl
      rw [ec, er]
      refine ⟨RT_at (t := t) h ?_ ?_ ?_ ?_ ?_ ?_, rfl, fun _ => ⟨by simp [wI_get], rfl⟩⟩
      · refine ⟨?_, ?_, ?_, ?_, ?_, ?_, fun b hb => ?_, fun k hk => ?_, fun k hk => ?_, fun k hk => ?_, fun s hs => ?_⟩ <;> simp [c_clr, wI_get] <;> first | assumption | (apply h7; assumption) | (apply h8; assumption) | (apply h9; assumption) | (apply h10; assumption) | (apply h11; assumption)
      · intro a k q1 q2 q3
        simp [c_clr, wI_get, show ¬ a = 8 + 6 * t by omega]
      · intro a k q1 q2
        simp [wI_get, q2]
      · intro k q; simp [wI_get]
      · intro a k q1 q2 q3
        simp [wI_get, show ¬ a = 62 by omega, show ¬ a = 63 by omega, show ¬ a = 64 by omega]
      · intro k q; simp [wI_get]
    · have hl : A.2 (8 + 6 * t) 1 = 0 := h2.2 hd
      have ec : c_ob1 A t w = (nI 0, A.2) := by
        unfold c_ob1 c_obey
        rw [if_neg (by rw [hA]; decide), if_pos hl]
        rfl
      have er : r_hears J t how w (nI 0) (nI 0) = (nI 0, J) := by
        unfold r_hears
        rw [if_pos (Or.inr hd)]
      rw [ec, er]
      exact ⟨h, rfl, fun q => absurd rfl q⟩
  · rw [if_neg hh] at hA
    have ec : c_ob1 A t w = (nI 0, A.2) := by
      unfold c_ob1
      exact if_pos hA
    have er : r_hears J t how w (nI 0) (nI 0) = (nI 0, J) := by
      unfold r_hears
      rw [if_pos (Or.inl hh)]
    rw [ec, er]
    exact ⟨h, rfl, fun q => absurd rfl q⟩
/-! data words, receiving, speaking -/
def DR (I J : ex_Mem) (a f nn : Nat) (g : Int32) : Prop := (g = nI 1 ∧ J 52 32 = nI nn ∧ ∀ k, k < nn → J 79 k = I a (f + k)) ∨ (g = nI 0 ∧ ∃ q, q < nn ∧ J 52 32 = nI q)
theorem DR_fr {I J I' J' : ex_Mem} {a f nn : Nat} {g : Int32} (h : DR I J a f nn g) (e1 : ∀ k, I' a k = I a k) (e2 : J' 52 32 = J 52 32) (e3 : ∀ k, J' 79 k = J 79 k) : DR I' J' a f nn g := by
  rcases h with ⟨h1, h2, h3⟩ | ⟨h1, q, h2, h3⟩
  · exact Or.inl ⟨h1, by rw [e2, h2], fun k hk => by rw [e3, e1, h3 k hk]⟩
  · exact Or.inr ⟨h1, q, h2, by rw [e2, h3]⟩
theorem RW_dw {N : Nat} {I J : ex_Mem} {how v : Int32} (h : RW N I J) : RW N I (r_dw J how v) :=
  RW_fr h (fun _ _ _ _ => rfl) dw_hw (fun a k h1 h2 => dw_fr (by omega) (by omega))
theorem DR_step {N b a f k : Nat} {S : Int32 × ex_Mem} {J : ex_Mem} {v : Int32} (h : RW N S.2 J) (hd : DR S.2 J a f k S.1) (hv : v = S.2 a (f + k)) (ha : 8 ≤ a) (hb : b < 2) (hk : k < 100) (hN : N + 1 < 2 ^ 31) :
    RW (N + 1) (c_ds S b (nI 65536 + S.2 a (f + k))).2 (r_dw (r_put J b (v + nI 65536)).2 (r_put J b (v + nI 65536)).1 v) ∧ DR (c_ds S b (nI 65536 + S.2 a (f + k))).2 (r_dw (r_put J b (v + nI 65536)).2 (r_put J b (v + nI 65536)).1 v) a f (k + 1) (c_ds S b (nI 65536 + S.2 a (f + k))).1 := by
  have ew : nI 65536 + S.2 a (f + k) = v + nI 65536 := by rw [hv, Int32.add_comm]
  rw [ew]
  have hp := RW_put (w := v + nI 65536) h hN hb
  have e2 : (c_ds S b (v + nI 65536)).2 = (c_put S.2 b (v + nI 65536)).2 := rfl
  have e1 : (c_ds S b (v + nI 65536)).1 = if S.1 = 0 then nI 0 else if (c_put S.2 b (v + nI 65536)).1 = 0 then nI 0 else nI 1 := rfl
  rw [e2]
  refine ⟨RW_dw hp.1, ?_⟩
  rw [e1]
  have g0 : (r_put J b (v + nI 65536)).2 52 32 = J 52 32 := put_gd
  have c0 : ∀ j, (r_put J b (v + nI 65536)).2 79 j = J 79 j := fun j => put_fr (by decide) (by decide) (by decide) (by decide)
  have i0 : ∀ j, (c_put S.2 b (v + nI 65536)).2 a j = S.2 a j := fun j => cput_fr (Or.inr ha)
  by_cases hg : (r_put J b (v + nI 65536)).1 = nI 1
  · rw [if_pos hg] at hp
    have ed : r_dw (r_put J b (v + nI 65536)).2 (r_put J b (v + nI 65536)).1 v = ex_wI (ex_wI (r_put J b (v + nI 65536)).2 79 (gdOf (r_put J b (v + nI 65536)).2) v) 52 32 (J 52 32 + nI 1) := by
      unfold r_dw
      rw [if_pos hg, g0]
    rw [ed]
    rcases hd with ⟨q1, q2, q3⟩ | ⟨q1, q, q2, q3⟩
    · left
      have eg : gdOf (r_put J b (v + nI 65536)).2 = k := gdOf_of (by rw [g0, q2]) (by omega)
      refine ⟨?_, ?_, ?_⟩
      · rw [q1, hp.2]; rfl
      · simp only [wI_get, and_self, if_true]
        rw [q2, ix_add]
      · intro j hj
        rw [eg]
        simp only [wI_get]
        rw [i0]
        by_cases e : j = k
        · subst e
          simp [hv]
        · simp [e, c0]
          exact q3 j (by omega)
    · right
      refine ⟨?_, q + 1, by omega, ?_⟩
      · rw [q1]; rfl
      · simp only [wI_get, and_self, if_true]
        rw [q3, ix_add]
  · rw [if_neg hg] at hp
    have ed : r_dw (r_put J b (v + nI 65536)).2 (r_put J b (v + nI 65536)).1 v = (r_put J b (v + nI 65536)).2 := by
      unfold r_dw
      rw [if_neg hg]
    rw [ed]
    right
    rw [hp.2]
    rcases hd with ⟨q1, q2, q3⟩ | ⟨q1, q, q2, q3⟩
    · exact ⟨by rw [q1]; rfl, k, by omega, by rw [g0, q2]⟩
    · exact ⟨by rw [q1]; rfl, q, by omega, by rw [g0, q3]⟩
theorem DR_dat {N b a f m nn : Nat} {I J : ex_Mem} (h : RW N I J) (h0 : J 52 32 = nI 0) (hr : ∀ k, k < nn → I a (f + k) = J 76 (4 * m + k)) (ha : 8 ≤ a) (hb : b < 2) (hn : nn ≤ 100) (hN : N + nn < 2 ^ 31) : ∀ k, k ≤ nn →
    RW (N + k) (c_dat I b a f k).2 (r_dat J b m k) ∧ DR (c_dat I b a f k).2 (r_dat J b m k) a f k (c_dat I b a f k).1
  | 0, _ => ⟨h, Or.inl ⟨rfl, h0, fun k hk => absurd hk (Nat.not_lt_zero k)⟩⟩
  | k + 1, hk => by
    have ih := DR_dat h h0 hr ha hb hn hN k (by omega)
    have ev : r_dat J b m k 76 (4 * m + k) = (c_dat I b a f k).2 a (f + k) := by
      rw [dat_fr (by decide) (by decide) (by decide) (by decide) (by decide), cdat_fr (Or.inr ha), hr k (by omega)]
    have := DR_step (b := b) (a := a) (f := f) ih.1 ih.2 ev ha hb (by omega) (by omega)
    exact this
theorem send_shut {J : ex_Mem} {t s b : Nat} (h : ¬ J 66 (2 * t + b) = 0) : ∀ k, r_send J t s b k = J
  | 0 => rfl
  | k + 1 => by
    have ih := send_shut (s := s) h k
    show r_dw (r_says (r_send J t s b k) t b (r_send J t s b k 59 (12 * t + 4 * s + k) + nI 65536)).2 (r_says (r_send J t s b k) t b (r_send J t s b k 59 (12 * t + 4 * s + k) + nI 65536)).1 (r_send J t s b k 59 (12 * t + 4 * s + k)) = J
    rw [ih]
    have e : ∀ w, r_says J t b w = (nI 0, J) := fun w => by unfold r_says; rw [if_neg h]
    rw [e]
    rfl
theorem DR_send {N b t s nn : Nat} {I J : ex_Mem} (h : RW N I J) (h0 : J 52 32 = nI 0) (hsh : J 66 (2 * t + b) = 0) (hr : ∀ k, k < nn → I (11 + 6 * t) (4 * s + k) = J 59 (12 * t + 4 * s + k)) (hb : b < 2) (hn : nn ≤ 100) (hN : N + nn < 2 ^ 31) : ∀ k, k ≤ nn →
    RW (N + k) (c_dat I b (11 + 6 * t) (4 * s) k).2 (r_send J t s b k) ∧ DR (c_dat I b (11 + 6 * t) (4 * s) k).2 (r_send J t s b k) (11 + 6 * t) (4 * s) k (c_dat I b (11 + 6 * t) (4 * s) k).1
  | 0, _ => ⟨h, Or.inl ⟨rfl, h0, fun k hk => absurd hk (Nat.not_lt_zero k)⟩⟩
  | k + 1, hk => by
    have ih := DR_send h h0 hsh hr hb hn hN k (by omega)
    have ev : r_send J t s b k 59 (12 * t + 4 * s + k) = (c_dat I b (11 + 6 * t) (4 * s) k).2 (11 + 6 * t) (4 * s + k) := by
      rw [send_fr (by decide) (by decide) (by decide) (by decide) (by decide), cdat_fr (Or.inr (by omega)), hr k (by omega)]
    have es : r_send J t s b k 66 (2 * t + b) = 0 := by
      rw [send_fr (by decide) (by decide) (by decide) (by decide) (by decide), hsh]
    have e : ∀ w, r_says (r_send J t s b k) t b w = r_put (r_send J t s b k) b w := fun w => by unfold r_says; rw [if_pos es]
    have := DR_step (b := b) (a := 11 + 6 * t) (f := 4 * s) ih.1 ih.2 ev (by omega) hb (by omega) (by omega)
    show RW (N + (k + 1)) (c_dat I b (11 + 6 * t) (4 * s) (k + 1)).2 (r_dw (r_says (r_send J t s b k) t b (r_send J t s b k 59 (12 * t + 4 * s + k) + nI 65536)).2 (r_says (r_send J t s b k) t b (r_send J t s b k 59 (12 * t + 4 * s + k) + nI 65536)).1 (r_send J t s b k 59 (12 * t + 4 * s + k))) ∧ DR (c_dat I b (11 + 6 * t) (4 * s) (k + 1)).2 (r_dw (r_says (r_send J t s b k) t b (r_send J t s b k 59 (12 * t + 4 * s + k) + nI 65536)).2 (r_says (r_send J t s b k) t b (r_send J t s b k 59 (12 * t + 4 * s + k) + nI 65536)).1 (r_send J t s b k 59 (12 * t + 4 * s + k))) (11 + 6 * t) (4 * s) (k + 1) (c_dat I b (11 + 6 * t) (4 * s) (k + 1)).1
    rw [e]
    exact this
theorem cfill_in {I : ex_Mem} {r p a f nn k : Nat} (h : p ≤ k) (h2 : k < p + 4) : c_fill I r p a f nn r k = c_f I a f nn (k - p) := by
  unfold c_fill
  rcases (show k = p ∨ k = p + 1 ∨ k = p + 2 ∨ k = p + 3 by omega) with rfl | rfl | rfl | rfl <;> simp [wI_get]
theorem cfill_out {I : ex_Mem} {r p a f nn b k : Nat} (h : b ≠ r ∨ k < p ∨ p + 4 ≤ k) : c_fill I r p a f nn b k = I b k := by
  unfold c_fill
  simp only [wI_get]
  rw [if_neg (by omega), if_neg (by omega), if_neg (by omega), if_neg (by omega)]
theorem rfill_in {J : ex_Mem} {p nn k : Nat} (h : p ≤ k) (h2 : k < p + 4) : r_fill J p nn 60 k = r_f J nn (k - p) := by
  unfold r_fill
  rcases (show k = p ∨ k = p + 1 ∨ k = p + 2 ∨ k = p + 3 by omega) with rfl | rfl | rfl | rfl <;> simp [wI_get]
theorem rfill_out {J : ex_Mem} {p nn b k : Nat} (h : b ≠ 60 ∨ k < p ∨ p + 4 ≤ k) : r_fill J p nn b k = J b k := by
  unfold r_fill
  simp only [wI_get]
  rw [if_neg (by omega), if_neg (by omega), if_neg (by omega), if_neg (by omega)]
theorem DR_f {I J : ex_Mem} {a f nn k : Nat} (h : ∀ k, k < nn → J 79 k = I a (f + k)) : c_f I a f nn k = r_f J nn k := by
  unfold c_f r_f
  by_cases e : k < nn
  · rw [if_pos e, if_pos e, h k e]
  · rw [if_neg e, if_neg e]
theorem niLe {a b : Nat} (ha : a < 2 ^ 31) (hb : b < 2 ^ 31) : (nI a ≤ nI b) = (a ≤ b) := by
  apply propext
  rw [Int32.le_iff_toInt_le, nI_toInt ha, nI_toInt hb]
  omega
theorem RT_takes {I J : ex_Mem} {t s a f nn : Nat} {g : Int32} (h : RT I J) (ht : t < 6) (hs : s < 3) (hn : nn ≤ 4) (hd : DR I J a f nn g) (h63 : J 63 t = nI 0) :
    (RT (c_rcv I t s a f nn g).2 (r_takes J t s nn (nI 0)).2 ∧ (c_rcv I t s a f nn g).1 = (r_takes J t s nn (nI 0)).1) ∧ RT (c_tl2 (c_rcv I t s a f nn g) t) (r_takes J t s nn (nI 1)).2 := by
  obtain ⟨h1, h2, h3, h4, h5, h6, h7, h8, h9, h10, h11⟩ := h t ht
  rcases hd with ⟨q1, q2, q3⟩ | ⟨q1, q, q2, q3⟩
  · have ec : c_rcv I t s a f nn g = (nI 1, ex_wI (c_fill I (12 + 6 * t) (4 * s) a f nn) (13 + 6 * t) s (nI 1)) := by
      unfold c_rcv
      rw [if_neg (by rw [q1]; decide)]
    have er : ∀ fa, r_takes J t s nn fa = (nI 1, ex_wI (ex_wI (r_fill J (12 * t + 4 * s) nn) 61 (3 * t + s) (nI 1)) 63 t fa) := by
      intro fa
      unfold r_takes
      rw [if_pos (by rw [q2, niLe (by omega) (by omega)]; exact Nat.le_refl _)]
    have eg : ∀ k, k < 12 → c_fill I (12 + 6 * t) (4 * s) a f nn (12 + 6 * t) k = r_fill J (12 * t + 4 * s) nn 60 (12 * t + k) := by
      intro k hk
      by_cases e : 4 * s ≤ k ∧ k < 4 * s + 4
      · rw [cfill_in e.1 e.2, rfill_in (by omega) (by omega), DR_f q3]
        congr 1
        omega
      · rw [cfill_out (by omega), rfill_out (by omega), h10 k hk]
    rw [ec, er, er]
    have eo : ∀ b k, b ≠ 12 + 6 * t → c_fill I (12 + 6 * t) (4 * s) a f nn b k = I b k := fun b k e => cfill_out (Or.inl e)
    have fo : ∀ b k, b ≠ 60 → r_fill J (12 * t + 4 * s) nn b k = J b k := fun b k e => rfill_out (Or.inl e)
    refine ⟨⟨RT_at (t := t) h ?_ ?_ ?_ ?_ ?_ ?_, rfl⟩, RT_at (t := t) h ?_ ?_ ?_ ?_ ?_ ?_⟩
    any_goals (first
      | (intro a k q1 q2 q3; simp [c_tl2, wI_get, show ¬ a = 13 + 6 * t by omega, show ¬ a = 8 + 6 * t by omega, eo a _ (show a ≠ 12 + 6 * t by omega)]; done)
      | (intro a k q1 q2; simp [wI_get, show ¬ a = 61 by omega, q2, fo a _ (show a ≠ 60 by omega)]; done)
      | (intro k q; simp [wI_get, fo _ _ (show 66 ≠ 60 by decide)]; done)
      | (intro k q; simp [wI_get, fo _ _ (show 61 ≠ 60 by decide), show ¬ k = 3 * t + s by omega]; done)
      | (intro a k q1 q2 q3; simp [wI_get, show ¬ a = 61 by omega, show ¬ a = 63 by omega]; exact rfill_out (by omega)))
    all_goals
      refine ⟨?_, ?_, ?_, ?_, ?_, ?_, fun b hb => ?_, fun k hk => ?_, fun k hk => ?_, fun k hk => ?_, fun s' hs' => ?_⟩ <;> simp [c_tl2, wI_get, eo, fo]
    all_goals first | assumption | (apply h7; assumption) | (apply h8; assumption) | (apply h9; assumption) | (apply eg; assumption) | (rw [h4, h63]; done) | (by_cases e : s' = s <;> simp [e]; exact h11 s' hs')
  · have ec : c_rcv I t s a f nn g = (nI 0, ex_wI I (8 + 6 * t) 2 (nI 1)) := by
      unfold c_rcv
      rw [if_pos (by rw [q1]; rfl)]
    have er : ∀ fa, r_takes J t s nn fa = (nI 0, ex_wI J 62 t (nI 1)) := by
      intro fa
      unfold r_takes
      rw [if_neg (by rw [q3, niLe (by omega) (by omega)]; omega)]
    rw [ec, er, er]
    refine ⟨⟨RT_at (t := t) h ?_ ?_ ?_ ?_ ?_ ?_, rfl⟩, RT_at (t := t) h ?_ ?_ ?_ ?_ ?_ ?_⟩
    any_goals (first
      | (intro a k q1 q2 q3; simp [c_tl2, wI_get, show ¬ a = 8 + 6 * t by omega]; done)
      | (intro a k q1 q2; simp [wI_get, q2]; done)
      | (intro k q; simp [wI_get]; done)
      | (intro a k q1 q2 q3; simp [wI_get, show ¬ a = 62 by omega]; done))
    all_goals
      refine ⟨?_, ?_, ?_, ?_, ?_, ?_, fun b hb => ?_, fun k hk => ?_, fun k hk => ?_, fun k hk => ?_, fun s' hs' => ?_⟩ <;> simp [c_tl2, wI_get]
    all_goals first | assumption | (apply h7; assumption) | (apply h8; assumption) | (apply h9; assumption) | (apply h10; assumption) | (apply h11; assumption) | (rw [h63]; done)
/-! speaking, give, take, pass -/
theorem cw_rw {x s nn : Nat} : c_rw x s nn = r_cw x 0 (s + 1) nn := by
  unfold c_rw r_cw
  simp only [ix_add, ix_mul]
  congr 1
  omega
theorem cw_sw {x s nn : Nat} : c_sw x s nn = r_cw x 1 (s + 1) nn := by
  unfold c_sw r_cw
  simp only [ix_add, ix_mul]
  congr 1
  omega
theorem sg_fs {B : Int32 × ex_Mem} {t b : Nat} : c_sg (c_an1 B t b).1 B.2 t b = c_fs B.1 B.2 t b := by
  unfold c_sg c_an1 c_fs
  by_cases h : B.1 = 0
  · simp [h]; intro q; exact absurd rfl q
  · by_cases h2 : B.2 (9 + 6 * t) b = 0
    · simp only [h, h2, if_false, if_true]
      rw [if_neg (by decide)]
    · simp only [h, h2, if_false]
      exact if_pos rfl
def r_fs (rc : Int32) (J : ex_Mem) (t b : Nat) : Int32 × ex_Mem := if rc = 0 then (nI 0, J) else (if (r_says J t b (r_st J t)).1 = nI 1 then nI 1 else nI 0, (r_says J t b (r_st J t)).2)
theorem RR_fs {N t b : Nat} {S J : ex_Mem} {rc : Int32} (h : RW N S J) (hT : RT S J) (ht : t < 6) (hb : b < 2) (hN : N + 1 < 2 ^ 31) : RW (N + 1) (c_fs rc S t b).2 (r_fs rc J t b).2 ∧ RT (c_fs rc S t b).2 (r_fs rc J t b).2 ∧ (c_fs rc S t b).1 = (r_fs rc J t b).1 := by
  unfold c_fs r_fs
  by_cases h0 : rc = 0
  · rw [if_pos h0, if_pos h0]
    exact ⟨RW_up h (by omega), hT, rfl⟩
  · rw [if_neg h0, if_neg h0]
    have es := (hT t ht).2.2.2.2.2.2.1 b hb
    by_cases h1 : S (9 + 6 * t) b = 0
    · have e : ∀ w, r_says J t b w = r_put J b w := fun w => by unfold r_says; rw [if_pos (by rw [← es, h1])]
      rw [if_pos h1, e, RT_st (hT t ht)]
      have hp := RW_put (w := r_st J t) h hN hb
      refine ⟨hp.1, RT_put hT, ?_⟩
      show (if (c_put S b (r_st J t)).1 = 0 then nI 0 else nI 1) = _
      rw [hp.2]
      by_cases q : (r_put J b (r_st J t)).1 = nI 1
      · rw [if_pos q, if_neg (by decide)]
      · rw [if_neg q]; rfl
    · have e : ∀ w, r_says J t b w = (nI 0, J) := fun w => by unfold r_says; rw [if_neg (by rw [← es]; exact h1)]
      rw [if_neg h1, e]
      exact ⟨RW_up h (by omega), hT, rfl⟩
def r_tl (ob : Int32) (J : ex_Mem) (t s nn b : Nat) : Int32 × ex_Mem := if ob = 0 then (nI 0, J) else r_fs (r_takes J t s nn (nI 0)).1 (r_takes J t s nn (nI 0)).2 t b
theorem RR_tl {N t s a f nn b : Nat} {S J : ex_Mem} {ob g : Int32} (h : RW N S J) (hT : RT S J) (hd : DR S J a f nn g) (h63 : ¬ ob = 0 → J 63 t = nI 0) (ht : t < 6) (hs : s < 3) (hn : nn ≤ 4) (hb : b < 2) (hN : N + 1 < 2 ^ 31) :
    RW (N + 1) (c_fs (c_rg ob S t s a f nn g).1 (c_rg ob S t s a f nn g).2 t b).2 (r_tl ob J t s nn b).2 ∧ RT (c_fs (c_rg ob S t s a f nn g).1 (c_rg ob S t s a f nn g).2 t b).2 (r_tl ob J t s nn b).2 ∧ (c_fs (c_rg ob S t s a f nn g).1 (c_rg ob S t s a f nn g).2 t b).1 = (r_tl ob J t s nn b).1 := by
  unfold r_tl
  by_cases h0 : ob = 0
  · have e : c_rg ob S t s a f nn g = (nI 0, S) := by unfold c_rg; rw [if_pos h0]
    rw [e, if_pos h0]
    exact ⟨RW_up h (by omega), hT, rfl⟩
  · have e : c_rg ob S t s a f nn g = c_bo (c_rcv S t s a f nn g) := by unfold c_rg; rw [if_neg h0]
    rw [e, if_neg h0]
    obtain ⟨⟨k1, k2⟩, _⟩ := RT_takes hT ht hs hn hd (h63 h0)
    have k3 : RW N (c_rcv S t s a f nn g).2 (r_takes J t s nn (nI 0)).2 := RW_fr h (fun a k q1 q2 => crcv_fr (by omega) (by omega) (by omega)) (takes_fr (by decide) (by decide) (by decide) (by decide)) (fun a k q1 q2 => takes_fr (by omega) (by omega) (by omega) (by omega))
    have k4 : (c_bo (c_rcv S t s a f nn g)).1 = (r_takes J t s nn (nI 0)).1 := by
      have q : ∀ X : Int32 × ex_Mem, ex_b01 X.1 = true → (c_bo X).1 = X.1 := by
        intro X hX
        unfold c_bo
        unfold ex_b01 at hX
        rcases of_decide_eq_true hX with q | q <;> rw [q] <;> rfl
      rw [q _ rcv_b01, k2]
    rw [k4, bo_2]
    exact RR_fs k3 k1 ht hb hN
theorem give_tl {J : ex_Mem} {m x s nn b : Nat} : r_give J m x s nn b = r_tl (r_g2 J m x s nn b).1 (r_g2 J m x s nn b).2 x s nn b := by
  unfold r_give r_tl r_fs
  by_cases h : (r_g2 J m x s nn b).1 = 0
  · rw [if_pos h, if_pos h]
  · rw [if_neg h, if_neg h]
    rfl
theorem RR_give {N m x s nn b : Nat} {I J : ex_Mem} (h : RW N I J) (hT : RT I J) (h0 : J 52 32 = nI 0) (hv : ∀ k, k < 4 → I (82 + 2 * m) k = J 76 (4 * m + k)) (hx : x < 6) (hs : s < 3) (hn : nn ≤ 4) (hb : b < 2) (hN : N + 12 < 2 ^ 31) :
    RW (N + 12) (c_give I m x s nn b).2 (r_give J m x s nn b).2 ∧ RT (c_give I m x s nn b).2 (r_give J m x s nn b).2 ∧ (c_give I m x s nn b).1 = (r_give J m x s nn b).1 := by
  rw [cgive_eq, give_tl, cw_rw]
  have hp := RW_put (w := r_cw x 0 (s + 1) nn) h (by omega) hb
  have h1 : RW (N + 1) (c_ob I x b (r_cw x 0 (s + 1) nn)).2 (r_put J b (r_cw x 0 (s + 1) nn)).2 := RW_fr hp.1 (fun a k q1 q2 => cob1_fr (by omega)) rfl (fun _ _ _ _ => rfl)
  have hd := DR_dat (m := m) (a := 82 + 2 * m) (f := 0) (nn := nn) h1 (by rw [put_gd, h0]) (fun k hk => by
    rw [cob_fr (Or.inr (by omega)) (by omega), put_fr (by decide) (by decide) (by decide) (by decide), Nat.zero_add, hv k (by omega)]) (by omega) hb (by omega) (by omega) nn (Nat.le_refl _)
  have hT1 : RT (c_put I b (r_cw x 0 (s + 1) nn)).2 (r_g1 J m x s nn b) := RT_fr hT (fun a k q1 q2 => cput_fr (Or.inr q1)) (fun a k q1 q2 => by
    unfold r_g1
    rw [dat_fr (by omega) (by omega) (by omega) (by omega) (by omega), put_fr (by omega) (by omega) (by omega) (by omega)])
  have hh := RT_hears (w := r_cw x 0 (s + 1) nn) hT1 hx hp.2
  have e1 : r_g2 J m x s nn b = r_hears (r_g1 J m x s nn b) x (r_put J b (r_cw x 0 (s + 1) nn)).1 (r_cw x 0 (s + 1) nn) (nI 0) (nI 0) := rfl
  have e2 : c_ob I x b (r_cw x 0 (s + 1) nn) = c_ob1 (c_put I b (r_cw x 0 (s + 1) nn)) x (r_cw x 0 (s + 1) nn) := rfl
  rw [← e1, ← e2] at hh
  have e3 : r_g1 J m x s nn b = r_dat (r_put J b (r_cw x 0 (s + 1) nn)).2 b m nn := rfl
  rw [← e3] at hd
  have hT2 : RT (c_dat (c_ob I x b (r_cw x 0 (s + 1) nn)).2 b (82 + 2 * m) 0 nn).2 (r_g2 J m x s nn b).2 := RT_fr hh.1 (fun a k q1 q2 => cdat_fr (Or.inr q1) nn) (fun _ _ _ _ => rfl)
  have hW2 : RW (N + 1 + nn) (c_dat (c_ob I x b (r_cw x 0 (s + 1) nn)).2 b (82 + 2 * m) 0 nn).2 (r_g2 J m x s nn b).2 := RW_fr hd.1 (fun _ _ _ _ => rfl) (hears_fr (by decide) (by decide) (by decide)) (fun a k q1 q2 => hears_fr (by omega) (by omega) (by omega))
  have hD2 : DR (c_dat (c_ob I x b (r_cw x 0 (s + 1) nn)).2 b (82 + 2 * m) 0 nn).2 (r_g2 J m x s nn b).2 (82 + 2 * m) 0 nn (c_dat (c_ob I x b (r_cw x 0 (s + 1) nn)).2 b (82 + 2 * m) 0 nn).1 := DR_fr hd.2 (fun _ => rfl) (hears_fr (by decide) (by decide) (by decide)) (fun k => hears_fr (by decide) (by decide) (by decide))
  have hf := RR_tl (ob := (c_ob I x b (r_cw x 0 (s + 1) nn)).1) (b := b) hW2 hT2 hD2 (fun q => (hh.2.2 q).1) hx hs hn hb (by omega)
  rw [← hh.2.1]
  exact ⟨RW_up hf.1 (by omega), hf.2⟩
/-! take and pass -/
theorem bo_1 {X : Int32 × ex_Mem} (hX : ex_b01 X.1 = true) : (c_bo X).1 = X.1 := by
  unfold c_bo
  unfold ex_b01 at hX
  rcases of_decide_eq_true hX with q | q <;> rw [q] <;> rfl
def r_an (ob : Int32) (J : ex_Mem) (x s nn b : Nat) : Int32 × ex_Mem := if ob = 0 then (nI 0, J) else r_ans J x s nn b
theorem an_fs {ob : Int32} {J : ex_Mem} {x s nn b : Nat} (h : ¬ ob = 0) : r_an ob J x s nn b = ((r_fs ob J x b).1, r_send (r_fs ob J x b).2 x s b nn) := by
  unfold r_an r_fs
  rw [if_neg h, if_neg h]
  rfl
theorem RR_ans {N x s nn b : Nat} {B : Int32 × ex_Mem} {J : ex_Mem} (h : RW N B.2 J) (hT : RT B.2 J) (h0 : J 52 32 = nI 0) (hx : x < 6) (hs : s < 3) (hn1 : 1 ≤ nn) (hn : nn ≤ 4) (hb : b < 2) (hN : N + 6 < 2 ^ 31) :
    RW (N + 1 + nn) (c_dg (c_an1 B x b).1 (c_fs B.1 B.2 x b).2 b (11 + 6 * x) (4 * s) nn).2 (r_an B.1 J x s nn b).2 ∧ RT (c_dg (c_an1 B x b).1 (c_fs B.1 B.2 x b).2 b (11 + 6 * x) (4 * s) nn).2 (r_an B.1 J x s nn b).2 ∧ (c_fs B.1 B.2 x b).1 = (r_an B.1 J x s nn b).1 ∧
    DR (c_dg (c_an1 B x b).1 (c_fs B.1 B.2 x b).2 b (11 + 6 * x) (4 * s) nn).2 (r_an B.1 J x s nn b).2 (11 + 6 * x) (4 * s) nn (c_dg (c_an1 B x b).1 (c_fs B.1 B.2 x b).2 b (11 + 6 * x) (4 * s) nn).1 := by
  have hf := RR_fs (rc := B.1) h hT hx hb (by omega)
  by_cases hB : B.1 = 0
  · have e1 : (c_an1 B x b).1 = nI 0 := by unfold c_an1; exact if_pos hB
    have e2 : ∀ S, c_dg (nI 0) S b (11 + 6 * x) (4 * s) nn = (nI 0, S) := fun S => by unfold c_dg; exact if_pos rfl
    have e3 : r_an B.1 J x s nn b = (nI 0, J) := by unfold r_an; exact if_pos hB
    have e4 : c_fs B.1 B.2 x b = (nI 0, B.2) := by unfold c_fs; exact if_pos hB
    rw [e1, e2, e3, e4]
    exact ⟨RW_up h (by omega), hT, rfl, Or.inr ⟨rfl, 0, by omega, h0⟩⟩
  · have es := (hT x hx).2.2.2.2.2.2.1 b hb
    rw [an_fs hB]
    have hg : (r_fs B.1 J x b).2 52 32 = nI 0 := by
      unfold r_fs
      rw [if_neg hB]
      show (r_says J x b (r_st J x)).2 52 32 = _
      rw [says_gd, h0]
    by_cases h1 : B.2 (9 + 6 * x) b = 0
    · have e1 : (c_an1 B x b).1 = nI 1 := by unfold c_an1; show (if B.1 = 0 then nI 0 else if B.2 (9 + 6 * x) b = 0 then nI 1 else nI 0) = _; rw [if_neg hB, if_pos h1]
      have e2 : ∀ S, c_dg (nI 1) S b (11 + 6 * x) (4 * s) nn = c_bo (c_dat S b (11 + 6 * x) (4 * s) nn) := fun S => by unfold c_dg; exact if_neg (by decide)
      rw [e1, e2, bo_2, bo_1 (dat_b01 _)]
      have hsh : (r_fs B.1 J x b).2 66 (2 * x + b) = 0 := by
        rw [← (hf.2.1 x hx).2.2.2.2.2.2.1 b hb, cfs_fr (Or.inr (by omega)), h1]
      have hd := DR_send (s := s) (nn := nn) hf.1 hg hsh (fun k hk => by
        rw [(hf.2.1 x hx).2.2.2.2.2.2.2.2.1 (4 * s + k) (by omega), Nat.add_assoc]) hb (by omega) (by omega) nn (Nat.le_refl _)
      exact ⟨hd.1, RT_fr hf.2.1 (fun a k q1 q2 => cdat_fr (Or.inr q1) nn) (fun a k q1 q2 => send_fr (by omega) (by omega) (by omega) (by omega) (by omega) nn), hf.2.2, hd.2⟩
    · have e1 : (c_an1 B x b).1 = nI 0 := by unfold c_an1; show (if B.1 = 0 then nI 0 else if B.2 (9 + 6 * x) b = 0 then nI 1 else nI 0) = _; rw [if_neg hB, if_neg h1]
      have e2 : ∀ S, c_dg (nI 0) S b (11 + 6 * x) (4 * s) nn = (nI 0, S) := fun S => by unfold c_dg; exact if_pos rfl
      have hsh : ¬ (r_fs B.1 J x b).2 66 (2 * x + b) = 0 := by
        rw [← (hf.2.1 x hx).2.2.2.2.2.2.1 b hb, cfs_fr (Or.inr (by omega))]
        exact h1
      rw [e1, e2, send_shut hsh]
      exact ⟨RW_up hf.1 (by omega), hf.2.1, hf.2.2, Or.inr ⟨rfl, 0, by omega, hg⟩⟩
def VR (n : Nat) (I J : ex_Mem) : Prop := ∀ m, m < n → ∀ k, k < 4 → I (82 + 2 * m) k = J 76 (4 * m + k)
theorem VR_fr {n : Nat} {I J I' J' : ex_Mem} (h : VR n I J) (e1 : ∀ m k, I' (82 + 2 * m) k = I (82 + 2 * m) k) (e2 : ∀ k, J' 76 k = J 76 k) : VR n I' J' := fun m hm k hk => by rw [e1, e2, h m hm k hk]
theorem rcpy_in {J : ex_Mem} {m k : Nat} : ∀ nn, k < nn → r_cpy J m nn 76 (4 * m + k) = J 79 k
  | 0, h => absurd h (Nat.not_lt_zero k)
  | q + 1, h => by
    show ex_wI (r_cpy J m q) 76 (4 * m + q) (r_cpy J m q 79 q) 76 (4 * m + k) = _
    rw [wI_get]
    by_cases e : k = q
    · rw [if_pos ⟨rfl, by rw [e]⟩, e]
      exact cpy_fr (by decide) q
    · rw [if_neg (fun z => e (by omega))]
      exact rcpy_in q (by omega)
theorem rcpy_out {J : ex_Mem} {m i : Nat} : ∀ nn, (i < 4 * m ∨ 4 * m + nn ≤ i) → r_cpy J m nn 76 i = J 76 i
  | 0, _ => rfl
  | q + 1, h => by
    show ex_wI (r_cpy J m q) 76 (4 * m + q) (r_cpy J m q 79 q) 76 i = _
    rw [wI_get, if_neg (by omega)]
    exact rcpy_out q (by omega)
def r_tk (A : Int32 × ex_Mem) (m nn : Nat) : Int32 × ex_Mem := if A.1 = 0 then (nI 0, A.2) else if A.2 52 32 = nI nn then (nI 1, r_cpy A.2 m nn) else (nI 0, A.2)
theorem take_tk {J : ex_Mem} {m x s nn b : Nat} : r_take J m x s nn b = r_tk (r_an (r_ta J x s nn b).1 (r_ta J x s nn b).2 x s nn b) m nn := by
  unfold r_take r_tk r_an
  by_cases h : (r_ta J x s nn b).1 = 0
  · rw [if_pos h, if_pos h]; rfl
  · rw [if_neg h, if_neg h]
theorem RR_ob {N x b : Nat} {I J : ex_Mem} {w : Int32} (h : RW N I J) (hT : RT I J) (hx : x < 6) (hb : b < 2) (hN : N + 1 < 2 ^ 31) :
    RW (N + 1) (c_ob I x b w).2 (r_hears (r_put J b w).2 x (r_put J b w).1 w (nI 0) (nI 0)).2 ∧ RT (c_ob I x b w).2 (r_hears (r_put J b w).2 x (r_put J b w).1 w (nI 0) (nI 0)).2 ∧ (c_ob I x b w).1 = (r_hears (r_put J b w).2 x (r_put J b w).1 w (nI 0) (nI 0)).1 ∧ (¬ (c_ob I x b w).1 = 0 → (r_hears (r_put J b w).2 x (r_put J b w).1 w (nI 0) (nI 0)).2 63 x = nI 0) := by
  have hp := RW_put (w := w) h hN hb
  have hh := RT_hears (w := w) (RT_put (b := b) (w := w) hT) hx hp.2
  exact ⟨RW_fr hp.1 (fun a k q1 q2 => cob1_fr (by omega)) (hears_fr (by decide) (by decide) (by decide)) (fun a k q1 q2 => hears_fr (by omega) (by omega) (by omega)), hh.1, hh.2.1, fun q => (hh.2.2 q).1⟩
theorem RR_take {N n m x s nn b : Nat} {I J : ex_Mem} (h : RW N I J) (hT : RT I J) (hV : VR n I J) (h0 : J 52 32 = nI 0) (hx : x < 6) (hs : s < 3) (hn1 : 1 ≤ nn) (hn : nn ≤ 4) (hb : b < 2) (hN : N + 12 < 2 ^ 31) :
    RW (N + 12) (c_take I m x s nn b).2 (r_take J m x s nn b).2 ∧ RT (c_take I m x s nn b).2 (r_take J m x s nn b).2 ∧ VR n (c_take I m x s nn b).2 (r_take J m x s nn b).2 ∧ (c_take I m x s nn b).1 = (r_take J m x s nn b).1 := by
  rw [c_take_eq, take_tk, cw_sw]
  have ho := RR_ob (w := r_cw x 1 (s + 1) nn) h hT hx hb (by omega)
  have e0 : r_ta J x s nn b = r_hears (r_put J b (r_cw x 1 (s + 1) nn)).2 x (r_put J b (r_cw x 1 (s + 1) nn)).1 (r_cw x 1 (s + 1) nn) (nI 0) (nI 0) := rfl
  rw [← e0] at ho
  have e1 : c_an I x b (r_cw x 1 (s + 1) nn) = c_an1 (c_ob I x b (r_cw x 1 (s + 1) nn)) x b := rfl
  rw [e1, an1_2, sg_fs]
  have g1 : (r_ta J x s nn b).2 52 32 = nI 0 := by rw [e0, hears_fr (by decide) (by decide) (by decide), put_gd, h0]
  have ha := RR_ans ho.1 ho.2.1 g1 hx hs hn1 hn hb (by omega)
  rw [← ho.2.2.1]
  have hV1 : VR n (c_dg (c_an1 (c_ob I x b (r_cw x 1 (s + 1) nn)) x b).1 (c_fs (c_ob I x b (r_cw x 1 (s + 1) nn)).1 (c_ob I x b (r_cw x 1 (s + 1) nn)).2 x b).2 b (11 + 6 * x) (4 * s) nn).2 (r_an (c_ob I x b (r_cw x 1 (s + 1) nn)).1 (r_ta J x s nn b).2 x s nn b).2 := by
    refine VR_fr hV (fun q k => ?_) (fun k => ?_)
    · rw [cdg_fr (Or.inr (by omega)), cfs_fr (Or.inr (by omega)), cob_fr (Or.inr (by omega)) (by omega)]
    · have : (r_ta J x s nn b).2 76 k = J 76 k := by rw [e0, hears_fr (by decide) (by decide) (by decide), put_fr (by decide) (by decide) (by decide) (by decide)]
      unfold r_an
      split
      · exact this
      · rw [ans_fr (by decide) (by decide) (by decide) (by decide) (by decide), this]
  generalize c_ob I x b (r_cw x 1 (s + 1) nn) = B at ha hV1 ⊢
  generalize r_an B.1 (r_ta J x s nn b).2 x s nn b = A at ha hV1 ⊢
  generalize c_dg (c_an1 B x b).1 (c_fs B.1 B.2 x b).2 b (11 + 6 * x) (4 * s) nn = D at ha hV1 ⊢
  generalize c_fs B.1 B.2 x b = C at ha ⊢
  obtain ⟨k1, k2, k3, k4⟩ := ha
  unfold c_tkR r_tk
  rw [k3]
  by_cases hA : A.1 = 0
  · rw [if_pos hA, if_pos hA]
    exact ⟨RW_up k1 (by omega), k2, hV1, rfl⟩
  · rw [if_neg hA, if_neg hA]
    rcases k4 with ⟨q1, q2, q3⟩ | ⟨q1, q, q2, q3⟩
    · rw [if_neg (by rw [q1]; decide), if_pos q2]
      refine ⟨RW_fr (RW_up k1 (by omega)) (fun a k z1 z2 => ccopy_fr (by omega)) (cpy_fr (by decide) nn) (fun a k z1 z2 => cpy_fr (by omega) nn), RT_fr k2 (fun a k z1 z2 => ccopy_fr (by omega)) (fun a k z1 z2 => cpy_fr (by omega) nn), ?_, rfl⟩
      intro m' hm' k hk
      show ex_copy D.2 (11 + 6 * x) (4 * s) (82 + 2 * m) 0 nn (82 + 2 * m') k = r_cpy A.2 m nn 76 (4 * m' + k)
      by_cases e : m' = m
      · subst e
        show (if 82 + 2 * m' = 82 + 2 * m' then va_cpy (D.2 (11 + 6 * x)) (D.2 (82 + 2 * m')) (4 * s) 0 nn k else D.2 (82 + 2 * m') k) = _
        rw [if_pos rfl]
        unfold va_cpy
        by_cases e2 : k < nn
        · rw [if_pos (by omega), rcpy_in nn e2, q3 k e2]
          congr 1
        · rw [if_neg (by omega), rcpy_out nn (by omega), hV1 m' hm' k hk]
      · rw [ccopy_fr (by omega), rcpy_out nn (by omega), hV1 m' hm' k hk]
    · rw [if_pos (by rw [q1]; rfl), if_neg (by rw [q3, nI_lit (by omega) (by omega)]; omega)]
      exact ⟨RW_up k1 (by omega), k2, hV1, rfl⟩
theorem pe_an {J : ex_Mem} {x y s nn b : Nat} : r_pe J x y s nn b = r_an (r_pd J x y s nn b).1 (r_pd J x y s nn b).2 x s nn b := by
  unfold r_pe r_an
  by_cases h : (r_pd J x y s nn b).1 = 0
  · rw [if_pos h, if_pos h]
  · rw [if_neg h, if_neg h]
    unfold r_ans
    by_cases q : (r_says (r_pd J x y s nn b).2 x b (r_st (r_pd J x y s nn b).2 x)).1 = nI 1
    · simp only [q, if_true]; exact if_neg (by decide)
    · simp only [q, if_false]; exact if_pos rfl
theorem pf_tl {J : ex_Mem} {x y s nn b : Nat} : r_pf J x y s nn b = r_tl (r_pb J y s nn b).1 (r_pe J x y s nn b).2 y s nn b := by
  unfold r_pf r_tl r_fs
  generalize r_takes (r_pe J x y s nn b).2 y s nn (nI 0) = T
  by_cases h : (r_pb J y s nn b).1 = 0
  · rw [if_pos h, if_pos h]
  · rw [if_neg h, if_neg h]
    by_cases h2 : T.1 = 0
    · rw [if_pos h2, if_pos h2]
    · rw [if_neg h2, if_neg h2]
      by_cases h3 : (r_says T.2 y b (r_st T.2 y)).1 = nI 1
      · rw [if_pos h3, if_pos h3]
      · rw [if_neg h3, if_neg h3]
/-! pass, mode, tellAll -/
theorem hears_ix {J : ex_Mem} {t a k : Nat} {how c km kl : Int32} (h : k ≠ t) : (r_hears J t how c km kl).2 a k = J a k := by
  unfold r_hears
  split
  · rfl
  · split
    · split <;> simp [wI_get, h]
    · split <;> simp [wI_get, h]
theorem rfs_fr {rc : Int32} {J : ex_Mem} {t b a k : Nat} (h1 : a ≠ 52) (h2 : a ≠ 53) (h3 : a ≠ 55) (h4 : a ≠ 56) : (r_fs rc J t b).2 a k = J a k := by
  unfold r_fs
  split
  · rfl
  · exact says_fr h1 h2 h3 h4
theorem rtl_fr {ob : Int32} {J : ex_Mem} {t s nn b a k : Nat} (h1 : a ≠ 52) (h2 : a ≠ 53) (h3 : a ≠ 55) (h4 : a ≠ 56) (h5 : a ≠ 60) (h6 : a ≠ 61) (h7 : a ≠ 62) (h8 : a ≠ 63) : (r_tl ob J t s nn b).2 a k = J a k := by
  unfold r_tl
  split
  · rfl
  · rw [rfs_fr h1 h2 h3 h4, takes_fr h5 h6 h7 h8]
theorem ran_fr {ob : Int32} {J : ex_Mem} {x s nn b a k : Nat} (h1 : a ≠ 52) (h2 : a ≠ 53) (h3 : a ≠ 55) (h4 : a ≠ 56) (h5 : a ≠ 79) : (r_an ob J x s nn b).2 a k = J a k := by
  unfold r_an
  split
  · rfl
  · exact ans_fr h1 h2 h3 h4 h5
theorem give_76 {J : ex_Mem} {m x s nn b k : Nat} : (r_give J m x s nn b).2 76 k = J 76 k := by
  rw [give_tl, rtl_fr (by decide) (by decide) (by decide) (by decide) (by decide) (by decide) (by decide) (by decide)]
  unfold r_g2 r_g1
  rw [hears_fr (by decide) (by decide) (by decide), dat_fr (by decide) (by decide) (by decide) (by decide) (by decide), put_fr (by decide) (by decide) (by decide) (by decide)]
theorem RR_pass {N x y s nn b : Nat} {I J : ex_Mem} (h : RW N I J) (hT : RT I J) (h0 : J 52 32 = nI 0) (hx : x < 6) (hy : y < 6) (hxy : x ≠ y) (hs : s < 3) (hn1 : 1 ≤ nn) (hn : nn ≤ 4) (hb : b < 2) (hN : N + 12 < 2 ^ 31) :
    RW (N + 12) (c_pass I x y s nn b).2 (r_pass J x y s nn b).2 ∧ RT (c_pass I x y s nn b).2 (r_pass J x y s nn b).2 ∧ (c_pass I x y s nn b).1 = (r_pass J x y s nn b).1 := by
  rw [c_pass_eq, cw_sw, cw_rw]
  have ho := RR_ob (w := r_cw y 0 (s + 1) nn) h hT hy hb (by omega)
  have e0 : r_pb J y s nn b = r_hears (r_put J b (r_cw y 0 (s + 1) nn)).2 y (r_put J b (r_cw y 0 (s + 1) nn)).1 (r_cw y 0 (s + 1) nn) (nI 0) (nI 0) := rfl
  rw [← e0] at ho
  have g0 : (r_pb J y s nn b).2 52 32 = nI 0 := by rw [e0, hears_fr (by decide) (by decide) (by decide), put_gd, h0]
  have ho2 := RR_ob (w := r_cw x 1 (s + 1) nn) ho.1 ho.2.1 hx hb (by omega)
  have e1 : r_pd J x y s nn b = r_hears (r_put (r_pb J y s nn b).2 b (r_cw x 1 (s + 1) nn)).2 x (r_put (r_pb J y s nn b).2 b (r_cw x 1 (s + 1) nn)).1 (r_cw x 1 (s + 1) nn) (nI 0) (nI 0) := rfl
  rw [← e1] at ho2
  have g1 : (r_pd J x y s nn b).2 52 32 = nI 0 := by rw [e1, hears_fr (by decide) (by decide) (by decide), put_gd, g0]
  have g2 : (r_pd J x y s nn b).2 63 y = (r_pb J y s nn b).2 63 y := by rw [e1, hears_ix (Ne.symm hxy), put_fr (by decide) (by decide) (by decide) (by decide)]
  generalize c_ob I y b (r_cw y 0 (s + 1) nn) = A at ho ho2 ⊢
  have e2 : c_an A.2 x b (r_cw x 1 (s + 1) nn) = c_an1 (c_ob A.2 x b (r_cw x 1 (s + 1) nn)) x b := rfl
  rw [e2, an1_2, sg_fs]
  generalize c_ob A.2 x b (r_cw x 1 (s + 1) nn) = B at ho2 ⊢
  have ha := RR_ans ho2.1 ho2.2.1 g1 hx hs hn1 hn hb (by omega)
  have e3 : r_an B.1 (r_pd J x y s nn b).2 x s nn b = r_pe J x y s nn b := by rw [pe_an, ho2.2.2.1]
  rw [e3] at ha
  have g3 : (r_pe J x y s nn b).2 63 y = (r_pb J y s nn b).2 63 y := by rw [pe_an, ran_fr (by decide) (by decide) (by decide) (by decide) (by decide), g2]
  generalize c_dg (c_an1 B x b).1 (c_fs B.1 B.2 x b).2 b (11 + 6 * x) (4 * s) nn = D at ha ⊢
  generalize c_fs B.1 B.2 x b = C at ha ⊢
  have hf := RR_tl (ob := A.1) (b := b) ha.1 ha.2.1 ha.2.2.2 (fun q => by rw [g3]; exact ho.2.2.2 q) hy hs hn hb (by omega)
  have e4 : r_pass J x y s nn b = c_psR (r_pe J x y s nn b).1 (r_pf J x y s nn b).1 (r_pf J x y s nn b).2 := rfl
  rw [e4, pf_tl, ← ho.2.2.1, cpsR_2, cpsR_2, ha.2.2.1, hf.2.2]
  exact ⟨RW_up hf.1 (by omega), hf.2.1, rfl⟩
theorem pass_76 {J : ex_Mem} {x y s nn b k : Nat} : (r_pass J x y s nn b).2 76 k = J 76 k := by
  show (r_pf J x y s nn b).2 76 k = _
  rw [pf_tl, rtl_fr (by decide) (by decide) (by decide) (by decide) (by decide) (by decide) (by decide) (by decide), pe_an, ran_fr (by decide) (by decide) (by decide) (by decide) (by decide)]
  unfold r_pd r_pc r_pb r_pa
  rw [hears_fr (by decide) (by decide) (by decide), put_fr (by decide) (by decide) (by decide) (by decide), hears_fr (by decide) (by decide) (by decide), put_fr (by decide) (by decide) (by decide) (by decide)]
theorem mw_eq {t cd : Nat} : nI t * nI 2048 + nI 0 * nI 32 + nI cd + nI 1024 = r_mc t cd := by
  unfold r_mc
  simp only [ix_add, ix_mul]
  congr 1
  omega
def r_om (H : Int32 × ex_Mem) (t cd b : Nat) : ex_Mem := if H.1 = 0 then H.2 else r_eff H.2 t cd b
theorem RT_om {J : ex_Mem} {A : Int32 × ex_Mem} {t cd b : Nat} {how : Int32} (h : RT A.2 J) (ht : t < 6) (hb : b < 2) (hc : isCd cd) (hA : A.1 = if how = nI 1 then nI 1 else nI 0) :
    RT (c_om1 A t (nI cd) b).2 (r_om (r_hears J t how (r_mc t cd) (if cd = 2 ∨ cd = 18 then nI 1 else nI 0) (if cd = 18 then nI 1 else nI 0)) t cd b) ∧ (c_om1 A t (nI cd) b).1 = (r_hears J t how (r_mc t cd) (if cd = 2 ∨ cd = 18 then nI 1 else nI 0) (if cd = 18 then nI 1 else nI 0)).1 := by
  obtain ⟨h1, h2, h3, h4, h5, h6, h7, h8, h9, h10, h11⟩ := h t ht
  by_cases hh : how = nI 1
  · rw [if_pos hh] at hA
    by_cases hd : J 57 t = 0
    · have hl : ¬ A.2 (8 + 6 * t) 1 = 0 := fun q => (h2.1 q) hd
      have ec : c_om1 A t (nI cd) b = (nI 1, c_chg (c_m2 (c_m1 A.2 t (nI cd)) t (nI cd)) t (nI cd) (1 - b)) := by
        unfold c_om1 c_obeyM
        rw [if_neg (by rw [hA]; decide), if_neg hl]
        rfl
      have em : ∀ (S : ex_Mem), S (8 + 6 * t) 0 = nI t → c_m2 S t (nI cd) = if nI cd = nI 18 then S else ex_wI S (8 + 6 * t) 4 (r_mc t cd) := by
        intro S hS
        unfold c_m2
        rw [hS, mw_eq]
      have e0 : (c_m1 A.2 t (nI cd)) (8 + 6 * t) 0 = nI t := by
        unfold c_m1 c_clr
        split
        · exact h1
        · split
          · exact h1
          · simp [wI_get, h1]
      rw [em _ e0] at ec
      rw [ec]
      have er : ∀ km kl, r_hears J t how (r_mc t cd) km kl = (nI 1, if km = 0 then (if kl = 0 then ex_wI (ex_wI (ex_wI J 62 t (nI 0)) 63 t (nI 0)) 64 t (r_mc t cd) else ex_wI (ex_wI J 62 t (nI 0)) 63 t (nI 0)) else (if kl = 0 then ex_wI J 64 t (r_mc t cd) else J)) := by
        intro km kl
        unfold r_hears
        rw [if_neg (by simp [hh, hd])]
        split
        · split <;> rfl
        · split <;> rfl
      rw [er]
      refine ⟨?_, rfl⟩
      unfold r_om
      rw [if_neg (show ¬ nI 1 = 0 by decide)]
      generalize hw : r_mc t cd = w
      clear er em ec
      have n0 : ¬ (nI 1 = (0 : Int32)) := by decide
      have n1 : (nI 0 = (0 : Int32)) := by decide
      have L : ∀ a b : Nat, a < 2147483648 → b < 2147483648 → ((nI a = nI b) = (a = b)) := fun a b x y => nI_lit x y
      rcases hc with rfl | rfl | rfl | rfl | rfl | rfl
      all_goals rcases (show b = 0 ∨ b = 1 by omega) with rfl | rfl
      all_goals simp only [c_m1, c_chg, r_eff, nI_lit, c_clr, n0, n1, if_true, if_false, Nat.reduceEqDiff, Nat.reduceLT, or_false, false_or, or_true, true_or, Nat.sub_zero, Nat.sub_self, Nat.add_sub_cancel]
      all_goals (refine RT_at (t := t) h ?_ ?_ ?_ ?_ ?_ ?_)
      any_goals (first
        | (intro a k q1 q2 q3; simp [wI_get, show ¬ a = 8 + 6 * t by omega, show ¬ a = 9 + 6 * t by omega]; done)
        | (intro a k q1 q2; simp [wI_get, q2, show ¬ a = 66 by omega]; done)
        | (intro k q; simp [wI_get]; done)
        | (intro k q; simp [wI_get, show ¬ k = 2 * t by omega, show ¬ k = 2 * t + 1 by omega]; done)
        | (intro a k q1 q2 q3; simp [wI_get, show ¬ a = 62 by omega, show ¬ a = 63 by omega, show ¬ a = 64 by omega, show ¬ a = 65 by omega, show ¬ a = 66 by omega]; done))
      all_goals
        refine ⟨?_, ?_, ?_, ?_, ?_, ?_, fun b hb => ?_, fun k hk => ?_, fun k hk => ?_, fun k hk => ?_, fun s' hs' => ?_⟩ <;> try simp [wI_get]
      all_goals first | with_reducible assumption | with_reducible rfl | (with_reducible exact h7 _ hb) | (with_reducible exact h8 _ hk) | (with_reducible exact h9 _ hk) | (with_reducible exact h10 _ hk) | (with_reducible exact h11 _ hs') | (rw [h6]; done) | (rcases (show b = 0 ∨ b = 1 by omega) with rfl | rfl <;> simp <;> first | exact h7 0 (by decide) | exact h7 1 (by decide))
    · have hl : A.2 (8 + 6 * t) 1 = 0 := h2.2 hd
      have ec : c_om1 A t (nI cd) b = (nI 0, A.2) := by
        unfold c_om1 c_obeyM
        rw [if_neg (by rw [hA]; decide), if_pos hl]
        rfl
      have er : ∀ km kl, r_hears J t how (r_mc t cd) km kl = (nI 0, J) := by
        intro km kl
        unfold r_hears
        rw [if_pos (Or.inr hd)]
      rw [ec, er]
      exact ⟨h, rfl⟩
  · rw [if_neg hh] at hA
    have ec : c_om1 A t (nI cd) b = (nI 0, A.2) := by
      unfold c_om1
      exact if_pos hA
    have er : ∀ km kl, r_hears J t how (r_mc t cd) km kl = (nI 0, J) := by
      intro km kl
      unfold r_hears
      rw [if_pos (Or.inl hh)]
    rw [ec, er]
    exact ⟨h, rfl⟩
/-! mode and tellAll -/
theorem RW_om {N t cd b : Nat} {J : ex_Mem} {A : Int32 × ex_Mem} {how c km kl : Int32} (h : RW N A.2 J) : RW N (c_om1 A t (nI cd) b).2 (r_om (r_hears J t how c km kl) t cd b) := by
  refine RW_fr h (fun a k q1 q2 => ?_) ?_ (fun a k q1 q2 => ?_)
  · unfold c_om1
    split
    · rfl
    · rw [bo_2, cobm_fr (by omega) (by omega)]
  · unfold r_om
    split
    · exact hears_fr (by decide) (by decide) (by decide)
    · rw [eff_fr (by decide) (by decide), hears_fr (by decide) (by decide) (by decide)]
  · unfold r_om
    split
    · exact hears_fr (by omega) (by omega) (by omega)
    · rw [eff_fr (by omega) (by omega), hears_fr (by omega) (by omega) (by omega)]
theorem om_b01 {A : Int32 × ex_Mem} {t b : Nat} {cd : Int32} : ex_b01 (c_om1 A t cd b).1 = true := by
  unfold c_om1
  split
  · exact b01_0
  · exact bo_b01
/-- the reference's mode without the value -/
def r_lg (ob : Int32) (J : ex_Mem) (t b : Nat) : Int32 × ex_Mem := if ob = 0 then (nI 0, J) else (if (r_says J t b (J 64 t + nI 65536)).1 = nI 1 then nI 1 else nI 0, (r_says J t b (J 64 t + nI 65536)).2)
def r_md2 (ob : Int32) (C : Int32 × ex_Mem) (t cd b : Nat) : Int32 × ex_Mem := if cd = 18 then (if C.1 = 0 then nI 0 else (r_lg ob C.2 t b).1, (r_lg ob C.2 t b).2) else C
def r_md1 (H : Int32 × ex_Mem) (t cd b : Nat) : Int32 × ex_Mem := r_md2 H.1 (r_fs H.1 (r_om H t cd b) t b) t cd b
def r_mv (A : Int32 × ex_Mem) (m t cd : Nat) : Int32 × ex_Mem := (A.1, if A.1 = 0 then A.2 else if cd = 18 then ex_wI A.2 76 (4 * m) (A.2 64 t) else A.2)
theorem rcomm_eq {J : ex_Mem} {m t cd b : Nat} : r_commands J m t cd b = r_mv (r_md1 (r_c2 J t cd b) t cd b) m t cd := by
  unfold r_commands r_md1 r_om
  by_cases h : (r_c2 J t cd b).1 = 0
  · rw [if_pos h, if_pos h]
    have e : ∀ S, r_fs (r_c2 J t cd b).1 S t b = (nI 0, S) := fun S => by unfold r_fs; exact if_pos h
    have e2 : ∀ S, r_lg (r_c2 J t cd b).1 S t b = (nI 0, S) := fun S => by unfold r_lg; exact if_pos h
    rw [e]
    unfold r_md2
    split
    · rw [e2]; rfl
    · rfl
  · rw [if_neg h, if_neg h]
    have e : r_fs (r_c2 J t cd b).1 (r_eff (r_c2 J t cd b).2 t cd b) t b = (if (r_c4 J t cd b).1 = nI 1 then nI 1 else nI 0, (r_c4 J t cd b).2) := by unfold r_fs; rw [if_neg h]; rfl
    rw [e]
    unfold r_md2
    by_cases hc : cd = 18
    · rw [if_pos hc, if_pos hc]
      have e2 : r_lg (r_c2 J t cd b).1 (r_c4 J t cd b).2 t b = (if (r_c5 J t cd b).1 = nI 1 then nI 1 else nI 0, (r_c5 J t cd b).2) := by unfold r_lg; rw [if_neg h]; rfl
      show _ = r_mv (if (if (r_c4 J t cd b).1 = nI 1 then nI 1 else nI 0) = 0 then nI 0 else (r_lg (r_c2 J t cd b).1 (r_c4 J t cd b).2 t b).1, (r_lg (r_c2 J t cd b).1 (r_c4 J t cd b).2 t b).2) m t cd
      rw [e2]
      unfold r_mv
      by_cases q4 : (r_c4 J t cd b).1 = nI 1
      · by_cases q5 : (r_c5 J t cd b).1 = nI 1
        · rw [if_pos ⟨q5, q4⟩]
          rw [if_pos q4, if_neg (show ¬ nI 1 = 0 by decide), if_pos q5]
          show _ = (nI 1, if nI 1 = 0 then _ else if cd = 18 then _ else _)
          rw [if_neg (show ¬ nI 1 = 0 by decide), if_pos hc]
        · rw [if_neg (fun z => q5 z.1)]
          simp only [q4, q5, if_true, if_false, if_neg (show ¬ nI 1 = 0 by decide), if_pos (show nI 0 = 0 by decide)]
      · rw [if_neg (fun z => q4 z.2)]
        simp only [q4, if_false, if_pos (show nI 0 = 0 by decide)]
    · rw [if_neg hc, if_neg hc]
      unfold r_mv
      by_cases q4 : (r_c4 J t cd b).1 = nI 1
      · simp only [q4, if_true, hc, if_false, if_neg (show ¬ nI 1 = 0 by decide)]
      · simp only [q4, if_false, if_pos (show nI 0 = 0 by decide)]
theorem RR_md {N t cd b : Nat} {I J : ex_Mem} (h : RW N I J) (hT : RT I J) (ht : t < 6) (hc : isCd cd) (hb : b < 2) (hN : N + 3 < 2 ^ 31) :
    RW (N + 3) (c_md I t (nI cd) b).2 (r_md1 (r_c2 J t cd b) t cd b).2 ∧ RT (c_md I t (nI cd) b).2 (r_md1 (r_c2 J t cd b) t cd b).2 ∧ (c_md I t (nI cd) b).1 = (r_md1 (r_c2 J t cd b) t cd b).1 := by
  have ew : c_mw I t (nI cd) = r_mc t cd := by unfold c_mw; rw [(hT t ht).1, mw_eq]
  have hp := RW_put (w := r_mc t cd) h (by omega) hb
  have hT1 := RT_put (b := b) (w := r_mc t cd) hT
  have ho := RT_om hT1 ht hb hc hp.2
  have hw := RW_om (t := t) (cd := cd) (b := b) (how := (r_put J b (r_mc t cd)).1) (c := r_mc t cd) (km := if cd = 2 ∨ cd = 18 then nI 1 else nI 0) (kl := if cd = 18 then nI 1 else nI 0) hp.1
  have e1 : r_c2 J t cd b = r_hears (r_put J b (r_mc t cd)).2 t (r_put J b (r_mc t cd)).1 (r_mc t cd) (if cd = 2 ∨ cd = 18 then nI 1 else nI 0) (if cd = 18 then nI 1 else nI 0) := rfl
  rw [← e1] at ho hw
  have e2 : c_om I t (nI cd) b = c_om1 (c_put I b (r_mc t cd)) t (nI cd) b := by unfold c_om; rw [ew]
  rw [c_md_eq, e2, an1_2, sg_fs]
  generalize c_om1 (c_put I b (r_mc t cd)) t (nI cd) b = O at ho hw ⊢
  have hf := RR_fs (rc := O.1) hw ho.1 ht hb (by omega)
  have e3 : r_md1 (r_c2 J t cd b) t cd b = r_md2 O.1 (r_fs O.1 (r_om (r_c2 J t cd b) t cd b) t b) t cd b := by rw [ho.2]; rfl
  rw [e3]
  have e4 : (c_fs O.1 O.2 t b).2 (9 + 6 * t) b = O.2 (9 + 6 * t) b := cfs_fr (Or.inr (by omega))
  have b4 : ex_b01 (c_fs O.1 O.2 t b).1 = true := fs_b01
  generalize r_fs O.1 (r_om (r_c2 J t cd b) t cd b) t b = C at hf ⊢
  generalize c_fs O.1 O.2 t b = F at hf e4 b4 ⊢
  obtain ⟨k1, k2, k3⟩ := hf
  unfold c_mdR r_md2
  by_cases h18 : cd = 18
  · rw [if_pos (by rw [h18]), if_pos h18]
    unfold c_md4
    have hl : RW (N + 3) (c_lg (c_an1 O t b).1 F.2 t b).2 (r_lg O.1 C.2 t b).2 ∧ RT (c_lg (c_an1 O t b).1 F.2 t b).2 (r_lg O.1 C.2 t b).2 ∧ (c_lg (c_an1 O t b).1 F.2 t b).1 = (r_lg O.1 C.2 t b).1 := by
      unfold c_lg r_lg
      by_cases h0 : O.1 = 0
      · have : (c_an1 O t b).1 = nI 0 := by unfold c_an1; exact if_pos h0
        rw [this, if_pos h0, if_pos (show nI 0 = 0 from rfl)]
        exact ⟨RW_up k1 (by omega), k2, rfl⟩
      · rw [if_neg h0]
        have es := (k2 t ht).2.2.2.2.2.2.1 b hb
        by_cases h1 : O.2 (9 + 6 * t) b = 0
        · have : (c_an1 O t b).1 = nI 1 := by unfold c_an1; show (if O.1 = 0 then nI 0 else if O.2 (9 + 6 * t) b = 0 then nI 1 else nI 0) = _; rw [if_neg h0, if_pos h1]
          rw [this, if_neg (show ¬ nI 1 = 0 by decide)]
          have e : ∀ w, r_says C.2 t b w = r_put C.2 b w := fun w => by unfold r_says; rw [if_pos (by rw [← es, e4, h1])]
          have e5 : nI 65536 + F.2 (8 + 6 * t) 4 = C.2 64 t + nI 65536 := by rw [(k2 t ht).2.2.2.2.1, Int32.add_comm]
          rw [e, e5, bo_2]
          have hq := RW_put (w := C.2 64 t + nI 65536) k1 (by omega) hb
          refine ⟨RW_up hq.1 (by omega), RT_put k2, ?_⟩
          show (if (c_put F.2 b (C.2 64 t + nI 65536)).1 = 0 then nI 0 else nI 1) = _
          rw [hq.2]
          by_cases q : (r_put C.2 b (C.2 64 t + nI 65536)).1 = nI 1
          · rw [if_pos q, if_neg (by decide)]
          · rw [if_neg q]; rfl
        · have : (c_an1 O t b).1 = nI 0 := by unfold c_an1; show (if O.1 = 0 then nI 0 else if O.2 (9 + 6 * t) b = 0 then nI 1 else nI 0) = _; rw [if_neg h0, if_neg h1]
          have e : ∀ w, r_says C.2 t b w = (nI 0, C.2) := fun w => by unfold r_says; rw [if_neg (by rw [← es, e4]; exact h1)]
          rw [this, if_pos (show nI 0 = 0 from rfl), e]
          exact ⟨RW_up k1 (by omega), k2, rfl⟩
    refine ⟨hl.1, hl.2.1, ?_⟩
    show (if F.1 = 0 then nI 0 else if (c_lg (c_an1 O t b).1 F.2 t b).1 = 0 then nI 0 else nI 1) = if C.1 = 0 then nI 0 else (r_lg O.1 C.2 t b).1
    rw [k3, hl.2.2]
    split
    · rfl
    · unfold r_lg
      split
      · rfl
      · by_cases q : (r_says C.2 t b (C.2 64 t + nI 65536)).1 = nI 1
        · simp only [q, if_true]; exact if_neg (by decide)
        · simp only [q, if_false]; exact if_pos rfl
  · rw [if_neg (by
      have : cd < 2147483648 := by rcases hc with rfl | rfl | rfl | rfl | rfl | rfl <;> decide
      rw [nI_lit this (by decide)]; exact h18), if_neg h18]
    exact ⟨RW_up k1 (by omega), k2, k3⟩
theorem rom_76 {H : Int32 × ex_Mem} {t cd b k : Nat} : r_om H t cd b 76 k = H.2 76 k := by
  unfold r_om
  split
  · rfl
  · exact eff_fr (by decide) (by decide)
theorem rlg_76 {ob : Int32} {J : ex_Mem} {t b k : Nat} : (r_lg ob J t b).2 76 k = J 76 k := by
  unfold r_lg
  split
  · rfl
  · exact says_fr (by decide) (by decide) (by decide) (by decide)
theorem rmd2_76 {ob : Int32} {C : Int32 × ex_Mem} {t cd b k : Nat} : (r_md2 ob C t cd b).2 76 k = C.2 76 k := by
  unfold r_md2
  split
  · exact rlg_76
  · rfl
theorem md1_76 {J : ex_Mem} {t cd b k : Nat} : (r_md1 (r_c2 J t cd b) t cd b).2 76 k = J 76 k := by
  have e1 : (r_c2 J t cd b).2 76 k = J 76 k := by
    unfold r_c2 r_c1
    rw [hears_fr (by decide) (by decide) (by decide), put_fr (by decide) (by decide) (by decide) (by decide)]
  unfold r_md1
  rw [rmd2_76, rfs_fr (by decide) (by decide) (by decide) (by decide), rom_76, e1]
theorem RR_mm {N n m t cd b : Nat} {I J : ex_Mem} (h : RW N I J) (hT : RT I J) (hV : VR n I J) (ht : t < 6) (hc : isCd cd) (hb : b < 2) (hN : N + 12 < 2 ^ 31) :
    RW (N + 12) (c_mm I m t (nI cd) b).2 (r_commands J m t cd b).2 ∧ RT (c_mm I m t (nI cd) b).2 (r_commands J m t cd b).2 ∧ VR n (c_mm I m t (nI cd) b).2 (r_commands J m t cd b).2 ∧ (c_mm I m t (nI cd) b).1 = (r_commands J m t cd b).1 := by
  rw [rcomm_eq]
  have hm := RR_md h hT ht hc hb (by omega)
  have hV1 : VR n (c_md I t (nI cd) b).2 (r_md1 (r_c2 J t cd b) t cd b).2 := VR_fr hV (fun q k => cmd_fr (Or.inr (by omega)) (by omega) (by omega)) (fun k => md1_76)
  unfold c_mm
  generalize c_md I t (nI cd) b = A at hm hV1 ⊢
  generalize r_md1 (r_c2 J t cd b) t cd b = B at hm hV1 ⊢
  obtain ⟨k1, k2, k3⟩ := hm
  unfold c_mm1 r_mv
  rw [k3]
  by_cases h0 : B.1 = 0
  · rw [if_pos h0, if_pos h0]
    exact ⟨RW_up k1 (by omega), k2, hV1, rfl⟩
  · rw [if_neg h0, if_neg h0]
    have hlt : cd < 2147483648 := by rcases hc with rfl | rfl | rfl | rfl | rfl | rfl <;> decide
    by_cases h18 : cd = 18
    · rw [if_pos (show nI cd = nI 18 by rw [h18]), if_pos h18]
      refine ⟨RW_fr (RW_up k1 (by omega)) (fun a k z1 z2 => wI_fr (by omega)) (show ex_wI B.2 76 (4 * m) (B.2 64 t) 52 3 = B.2 52 3 from wI_fr (by decide)) (fun a k z1 z2 => wI_fr (by omega)), RT_fr k2 (fun a k z1 z2 => wI_fr (by omega)) (fun a k z1 z2 => wI_fr (by omega)), ?_, rfl⟩
      intro m' hm' k hk
      show ex_wI A.2 (82 + 2 * m) 0 (A.2 (8 + 6 * t) 4) (82 + 2 * m') k = ex_wI B.2 76 (4 * m) (B.2 64 t) 76 (4 * m' + k)
      rw [wI_get, wI_get, (k2 t ht).2.2.2.2.1, hV1 m' hm' k hk]
      by_cases e : m' = m ∧ k = 0
      · rw [if_pos (by omega), if_pos (by omega)]
      · rw [if_neg (by omega), if_neg (by omega)]
    · rw [if_neg (show ¬ nI cd = nI 18 by rw [nI_lit hlt (by decide)]; exact h18), if_neg h18]
      exact ⟨RW_up k1 (by omega), k2, hV1, rfl⟩
theorem tl_ob {cg c g : Int32} {S : ex_Mem} {t s a nn : Nat} : (if cg = 0 then S else c_tl1 (c_obey S t c) t s a nn g) = if (c_ob1 (cg, S) t c).1 = 0 then (c_ob1 (cg, S) t c).2 else c_tl2 (c_rcv (c_ob1 (cg, S) t c).2 t s a 0 nn g) t := by
  unfold c_ob1
  by_cases h : cg = 0
  · simp only [h, if_true]; exact (if_pos rfl).symm
  · simp only [h, if_false]
    unfold c_tl1
    by_cases h2 : (c_obey S t c).1 = 0
    · simp only [h2, if_true]; exact (if_pos rfl).symm
    · simp only [h2, if_false]; exact (if_neg (by decide)).symm
theorem RR_tell {s nn a : Nat} {S J : ex_Mem} {cg c g how : Int32} (hT : RT S J) (hd : DR S J a 0 nn g) (hA : cg = if how = nI 1 then nI 1 else nI 0) (hs : s < 3) (hn : nn ≤ 4) (ha : 44 ≤ a) : ∀ t, t ≤ 6 → RT (c_tell S cg c g s a nn t) (r_tell J how c s nn t)
  | 0, _ => hT
  | t + 1, ht => by
    have ih := RR_tell (c := c) hT hd hA hs hn ha t (by omega)
    rw [ctell_s, tl_ob]
    have hd1 : DR (c_tell S cg c g s a nn t) (r_tell J how c s nn t) a 0 nn g := DR_fr hd (fun k => ctell_fr (Or.inr ha) t (by omega)) (tell_fr (by decide) (by decide) (by decide) (by decide) (by decide) t) (fun k => tell_fr (by decide) (by decide) (by decide) (by decide) (by decide) t)
    show RT _ (if (r_hears (r_tell J how c s nn t) t how c (nI 0) (nI 0)).1 = 0 then (r_hears (r_tell J how c s nn t) t how c (nI 0) (nI 0)).2 else (r_takes (r_hears (r_tell J how c s nn t) t how c (nI 0) (nI 0)).2 t s nn (nI 1)).2)
    have hh := RT_hears (A := (cg, c_tell S cg c g s a nn t)) (w := c) ih (show t < 6 by omega) hA
    have hd2 : DR (c_ob1 (cg, c_tell S cg c g s a nn t) t c).2 (r_hears (r_tell J how c s nn t) t how c (nI 0) (nI 0)).2 a 0 nn g := DR_fr hd1 (fun k => cob1_fr (by omega)) (hears_fr (by decide) (by decide) (by decide)) (fun k => hears_fr (by decide) (by decide) (by decide))
    generalize c_ob1 (cg, c_tell S cg c g s a nn t) t c = O at hh hd2 ⊢
    generalize r_hears (r_tell J how c s nn t) t how c (nI 0) (nI 0) = H at hh hd2 ⊢
    rw [hh.2.1]
    by_cases h0 : H.1 = 0
    · rw [if_pos h0, if_pos h0]; exact hh.1
    · rw [if_neg h0, if_neg h0]
      exact (RT_takes hh.1 (by omega) hs hn hd2 (hh.2.2 (by rw [hh.2.1]; exact h0)).1).2
/-! an attempt, a message done -/
theorem tell_52 {J : ex_Mem} {how c : Int32} {s nn : Nat} (t : Nat) : r_tell J how c s nn t 52 3 = J 52 3 := tell_fr (by decide) (by decide) (by decide) (by decide) (by decide) t
theorem RR_telAll {N m s nn b : Nat} {I J : ex_Mem} (h : RW N I J) (hT : RT I J) (h0 : J 52 32 = nI 0) (hv : ∀ k, k < 4 → I (82 + 2 * m) k = J 76 (4 * m + k)) (hs : s < 3) (hn : nn ≤ 4) (hb : b < 2) (hN : N + 12 < 2 ^ 31) :
    RW (N + 12) (c_telAll I m s nn b) (r_telAll J m s nn b) ∧ RT (c_telAll I m s nn b) (r_telAll J m s nn b) := by
  rw [ctelAll_eq, cw_rw]
  unfold r_telAll
  have hp := RW_put (w := r_cw 31 0 (s + 1) nn) h (by omega) hb
  have hd := DR_dat (m := m) (a := 82 + 2 * m) (f := 0) (nn := nn) hp.1 (by rw [put_gd, h0]) (fun k hk => by
    rw [cput_fr (Or.inr (by omega)), put_fr (by decide) (by decide) (by decide) (by decide), Nat.zero_add, hv k (by omega)]) (by omega) hb (by omega) (by omega) nn (Nat.le_refl _)
  have e3 : r_g1 J m 31 s nn b = r_dat (r_put J b (r_cw 31 0 (s + 1) nn)).2 b m nn := rfl
  rw [← e3] at hd
  have hT1 : RT (c_dat (c_put I b (r_cw 31 0 (s + 1) nn)).2 b (82 + 2 * m) 0 nn).2 (r_g1 J m 31 s nn b) := RT_fr hT (fun a k q1 q2 => by rw [cdat_fr (Or.inr q1), cput_fr (Or.inr q1)]) (fun a k q1 q2 => by
    unfold r_g1
    rw [dat_fr (by omega) (by omega) (by omega) (by omega) (by omega), put_fr (by omega) (by omega) (by omega) (by omega)])
  refine ⟨?_, RR_tell hT1 hd.2 hp.2 hs hn (by omega) 6 (Nat.le_refl _)⟩
  exact RW_fr (RW_up hd.1 (by omega)) (fun a k q1 q2 => ctell_fr (Or.inl (by omega)) 6 (Nat.le_refl _)) (tell_52 6) (fun a k q1 q2 => tell_fr (by omega) (by omega) (by omega) (by omega) (by omega) 6)
theorem telAll_76 {J : ex_Mem} {m s nn b k : Nat} : r_telAll J m s nn b 76 k = J 76 k := by
  unfold r_telAll r_g1
  rw [tell_fr (by decide) (by decide) (by decide) (by decide) (by decide), dat_fr (by decide) (by decide) (by decide) (by decide) (by decide), put_fr (by decide) (by decide) (by decide) (by decide)]
/-- the fields of the messages -/
def FR (n : Nat) (I J : ex_Mem) : Prop := ∀ m, m < n → (∀ k, k < 6 → I (81 + 2 * m) k = J (69 + k) m) ∧ I (81 + 2 * m) 7 = J 75 m
theorem tk_eq2 {I J : ex_Mem} {a k c j : Nat} (h : I a k = J c j) : tk I a k = tk J c j := by unfold tk; rw [h]
theorem FR_v {n m : Nat} {I J : ex_Mem} (h : FR n I J) (hm : m < n) (hv : vMsg J m) : vMc I m := by
  have e0 := (h m hm).1 0 (by decide)
  have e1 := (h m hm).1 1 (by decide)
  have e2 := (h m hm).1 2 (by decide)
  have e3 := (h m hm).1 3 (by decide)
  have e4 := (h m hm).1 4 (by decide)
  simp only [Nat.add_zero, Nat.reduceAdd] at e0 e1 e2 e3 e4
  unfold vMc
  rw [tk_eq2 e0, tk_eq2 e1, tk_eq2 e2, tk_eq2 e3, tk_eq2 e4, e0, e1, e2, e3, e4]
  exact ⟨hv.1, hv.2.1, hv.2.2.1, fun q => ⟨(hv.2.2.2.1 q).1, (hv.2.2.2.1 q).2.1⟩, hv.2.2.2.2.1⟩
def RXA (N n : Nat) (I J : ex_Mem) : Prop := RW N I J ∧ RT I J ∧ VR n I J ∧ FR n I J ∧ ∀ m, m < n → vMsg J m
theorem RA_att {N n m b : Nat} {I J : ex_Mem} (h : RXA N n I J) (hm : m < n) (hb : b < 2) (hN : N + 12 < 2 ^ 31) : RXA (N + 12) n (c_attempt I m b).2 (r_attempt J m b).2 ∧ (c_attempt I m b).1 = (r_attempt J m b).1 := by
  obtain ⟨hW, hT, hV, hF, hv⟩ := h
  have hvm := hv m hm
  have hvc := FR_v hF hm hvm
  have hF' : FR n (c_attempt I m b).2 (r_attempt J m b).2 := fun q hq => ⟨fun k hk => by
    rw [catt_fr hvc (Or.inr (by omega)) (by omega), att_nt (by unfold nt; omega)]; exact (hF q hq).1 k hk, by
    rw [catt_fr hvc (Or.inr (by omega)) (by omega), att_nt (by unfold nt; omega)]; exact (hF q hq).2⟩
  have key : RW (N + 12) (c_attempt I m b).2 (r_attempt J m b).2 ∧ RT (c_attempt I m b).2 (r_attempt J m b).2 ∧ VR n (c_attempt I m b).2 (r_attempt J m b).2 ∧ (c_attempt I m b).1 = (r_attempt J m b).1 := by
    have e0 := (hF m hm).1 0 (by decide)
    have e1 := (hF m hm).1 1 (by decide)
    have e2 := (hF m hm).1 2 (by decide)
    have e3 := (hF m hm).1 3 (by decide)
    have e4 := (hF m hm).1 4 (by decide)
    simp only [Nat.add_zero, Nat.reduceAdd] at e0 e1 e2 e3 e4
    have hW0 : RW N I (r_j0 J) := RW_fr hW (fun _ _ _ _ => rfl) (by simp [r_j0, wI_get]) (fun a k q1 q2 => j0_fr (by omega))
    have hT0 : RT I (r_j0 J) := RT_fr hT (fun _ _ _ _ => rfl) (fun a k q1 q2 => j0_fr (by omega))
    have hV0 : VR n I (r_j0 J) := VR_fr hV (fun _ _ => rfl) (fun k => j0_fr (by decide))
    have h0 : r_j0 J 52 32 = nI 0 := by simp [r_j0, wI_get]
    have hvk : ∀ k, k < 4 → I (82 + 2 * m) k = r_j0 J 76 (4 * m + k) := fun k hk => hV0 m hm k hk
    unfold c_attempt r_attempt
    rw [tk_eq2 e0, tk_eq2 e1, tk_eq2 e2, tk_eq2 e3, tk_eq2 e4, e4]
    obtain ⟨v0, v4, vx, vy, vs, vc⟩ := hvm
    by_cases k0 : tk J 69 m = 0
    · rw [if_pos k0, if_pos k0]
      have := RR_give (m := m) hW0 hT0 h0 hvk (vx (by omega)).2 (vs (by omega)).2.1 (vs (by omega)).2.2.2.2 hb hN
      exact ⟨this.1, this.2.1, VR_fr hV0 (fun q k => cgive_fr (vx (by omega)).2 (Or.inr (by omega))) (fun k => give_76), this.2.2⟩
    · rw [if_neg k0, if_neg k0]
      by_cases k3 : tk J 69 m = 3
      · rw [if_pos k3, if_pos k3]
        have := RR_telAll (m := m) hW0 hT0 h0 hvk (vs (by omega)).2.1 (vs (by omega)).2.2.2.2 hb hN
        exact ⟨this.1, this.2, VR_fr hV0 (fun q k => ctelAll_fr (Or.inr (by omega))) (fun k => telAll_76), rfl⟩
      · rw [if_neg k3, if_neg k3]
        by_cases k4 : tk J 69 m = 4
        · rw [if_pos k4, if_pos k4]
          have hc := vc k4
          rw [hc.1]
          have e : tk J 73 m = (nI (tk J 73 m)).toNatClampNeg := by
            have : tk J 73 m < 2147483647 := by rcases hc.2 with z | z | z | z | z | z <;> rw [z] <;> decide
            exact (nI_clamp' this (by decide)).symm
          exact RR_mm hW0 hT0 hV0 (vx (by omega)).2 hc.2 hb hN
        · rw [if_neg k4, if_neg k4]
          by_cases k2 : tk J 69 m = 2
          · rw [if_pos k2, if_pos k2]
            have := RR_pass hW0 hT0 h0 (vx (by omega)).2 (vy k2).2.1 (vy k2).2.2 (vs (by omega)).2.1 (vs (by omega)).2.2.2.1 (vs (by omega)).2.2.2.2 hb hN
            exact ⟨this.1, this.2.1, VR_fr hV0 (fun q k => cpass_fr (vx (by omega)).2 (vy k2).2.1 (Or.inr (by omega))) (fun k => pass_76), this.2.2⟩
          · rw [if_neg k2, if_neg k2]
            exact RR_take (m := m) hW0 hT0 hV0 h0 (vx (by omega)).2 (vs (by omega)).2.1 (vs (by omega)).2.2.2.1 (vs (by omega)).2.2.2.2 hb hN
  exact ⟨⟨key.1, key.2.1, key.2.2.1, hF', fun q hq => vMsg_att (hv q hq)⟩, key.2.2.2⟩
/-- a change beside what RXA speaks of -/
theorem RA_fr {N n : Nat} {I J I' J' : ex_Mem} (h : RXA N n I J) (e1 : ∀ a k, 4 ≤ a → a < 44 → I' a k = I a k) (e2 : ∀ m k, I' (82 + 2 * m) k = I (82 + 2 * m) k) (e3 : ∀ m k, k ≠ 8 → I' (81 + 2 * m) k = I (81 + 2 * m) k) (e4 : J' 52 3 = J 52 3) (e5 : ∀ a k, 53 ≤ a → a ≤ 66 → J' a k = J a k) (e6 : ∀ a k, 69 ≤ a → a ≤ 76 → J' a k = J a k) : RXA N n I' J' :=
  ⟨RW_fr h.1 (fun a k q1 q2 => e1 a k (by omega) (by omega)) e4 (fun a k q1 q2 => e5 a k (by omega) (by omega)), RT_fr h.2.1 (fun a k q1 q2 => e1 a k (by omega) (by omega)) (fun a k q1 q2 => e5 a k (by omega) (by omega)),
   VR_fr h.2.2.1 e2 (fun k => e6 76 k (by decide) (by decide)), fun m hm => ⟨fun k hk => by rw [e3 m k (by omega), e6 _ _ (by omega) (by omega)]; exact (h.2.2.2.1 m hm).1 k hk, by rw [e3 m 7 (by decide), e6 _ _ (by omega) (by omega)]; exact (h.2.2.2.1 m hm).2⟩,
   fun m hm => vMsg_eq (e6 _ _ (by omega) (by omega)) (e6 _ _ (by omega) (by omega)) (e6 _ _ (by omega) (by omega)) (e6 _ _ (by omega) (by omega)) (e6 _ _ (by omega) (by omega)) (h.2.2.2.2 m hm)⟩
theorem RA_up {N M n : Nat} {I J : ex_Mem} (h : RXA N n I J) (hM : N ≤ M) : RXA M n I J := ⟨RW_up h.1 hM, h.2⟩
/-- what a message done leaves: memory, outcome, bus -/
def RD (N n m : Nat) (C : Int32 × ex_Mem) (R : ex_Mem) : Prop := RXA N n C.2 R ∧ R 77 m = C.1 ∧ (∃ o, 1 ≤ o ∧ o ≤ 4 ∧ C.1 = nI o) ∧ ∃ q, q < 2 ∧ C.2 1 2 = nI q ∧ R 52 30 = nI q
theorem RD_of {N n m : Nat} {I J : ex_Mem} {o q : Nat} (h : RXA N n I J) (ho : 1 ≤ o ∧ o ≤ 4) (hq : q < 2) (hI : I 1 2 = nI q) (hJ : J 52 30 = nI q) : RD N n m (nI o, I) (ex_wI J 77 m (nI o)) :=
  ⟨RA_fr h (fun _ _ _ _ => rfl) (fun _ _ => rfl) (fun _ _ _ => rfl) (wI_fr (by decide)) (fun a k q1 q2 => wI_fr (by omega)) (fun a k q1 q2 => wI_fr (by omega)), by simp [wI_get], ⟨o, ho.1, ho.2, rfl⟩, q, hq, hI, by rw [wI_fr (by decide), hJ]⟩
theorem RD_d3 {N n m bb : Nat} {A B : Int32 × ex_Mem} (h : RXA N n A.2 B.2) (he : A.1 = B.1) (hb : bb < 2) (hI : A.2 1 2 = nI bb) (hJ : B.2 52 30 = nI bb) : RD N n m (c_d3 A bb) (r_d3 B m bb) := by
  unfold c_d3 r_d3
  rw [he]
  by_cases h0 : B.1 = 0
  · rw [if_pos h0, if_pos h0]
    exact RD_of h (by omega) hb hI hJ
  · rw [if_neg h0, if_neg h0]
    refine RD_of (q := 1 - bb) (RA_fr h (fun a k q1 q2 => wI_fr (by omega)) (fun m k => wI_fr (by omega)) (fun m k _ => wI_fr (by omega)) (by simp [wI_get]) (fun a k q1 q2 => wI_fr (by omega)) (fun a k q1 q2 => wI_fr (by omega))) (by omega) (by omega) (by simp [wI_get]) (by simp [wI_get])
theorem RD_d2 {N n m bb : Nat} {A B : Int32 × ex_Mem} (h : RXA N n A.2 B.2) (he : A.1 = B.1) (hm : m < n) (hb : bb < 2) (hI : A.2 1 2 = nI bb) (hJ : B.2 52 30 = nI bb) (hN : N + 12 < 2 ^ 31) : RD (N + 12) n m (c_d2 A m bb) (r_d2 B m bb) := by
  unfold c_d2 r_d2
  rw [he]
  by_cases h0 : B.1 = 0
  · rw [if_pos h0, if_pos h0]
    have ha := RA_att h hm (b := 1 - bb) (by omega) hN
    exact RD_d3 ha.1 ha.2 hb (by rw [catt_fr (FR_v h.2.2.2.1 hm (h.2.2.2.2 m hm)) (by omega) (by omega), hI]) (by rw [att_nt (by unfold nt; omega), hJ])
  · rw [if_neg h0, if_neg h0]
    exact RD_of (RA_up h (by omega)) (by omega) hb hI hJ
theorem RD_d1 {N n m bb : Nat} {A B : Int32 × ex_Mem} (h : RXA N n A.2 B.2) (he : A.1 = B.1) (hm : m < n) (hb : bb < 2) (hI : A.2 1 2 = nI bb) (hJ : B.2 52 30 = nI bb) (hN : N + 24 < 2 ^ 31) : RD (N + 24) n m (c_d1 A m bb) (r_d1 B m bb) := by
  unfold c_d1 r_d1
  rw [he]
  by_cases h0 : B.1 = 0
  · rw [if_pos h0, if_pos h0]
    have ha := RA_att h hm (b := bb) hb (by omega)
    exact RD_d2 ha.1 ha.2 hm hb (by rw [catt_fr (FR_v h.2.2.2.1 hm (h.2.2.2.2 m hm)) (by omega) (by omega), hI]) (by rw [att_nt (by unfold nt; omega), hJ]) (by omega)
  · rw [if_neg h0, if_neg h0]
    exact RD_of (RA_up h (by omega)) (by omega) hb hI hJ
theorem RD_does {N n m bb : Nat} {I J : ex_Mem} (h : RXA N n I J) (hm : m < n) (hb : bb < 2) (hI : I 1 2 = nI bb) (hJ : J 52 30 = nI bb) (hN : N + 36 < 2 ^ 31) : RD (N + 36) n m (c_does I m bb) (r_does J m bb) := by
  have ha := RA_att h hm (b := bb) hb (by omega)
  exact RD_d1 ha.1 ha.2 hm hb (by rw [catt_fr (FR_v h.2.2.2.1 hm (h.2.2.2.2 m hm)) (by omega) (by omega), hI]) (by rw [att_nt (by unfold nt; omega), hJ]) (by omega)
