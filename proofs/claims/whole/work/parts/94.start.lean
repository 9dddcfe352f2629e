/-! the first memory, and the law's whole run -/
def cb_IT (a k : Nat) : Int32 := if a = 6 ∧ k < 2 then - nI 1 else if 8 ≤ a ∧ a < 44 ∧ (a - 8) % 6 = 0 ∧ k = 0 then nI ((a - 8) / 6) else if 8 ≤ a ∧ a < 44 ∧ (a - 8) % 6 = 0 ∧ k = 1 then nI 1 else nI 0
theorem cb_h2_I : ∀ a, a < 81 → ∀ k, k < 72 → cb_h2.2.2.1 a k = cb_IT a k := by decide +kernel
theorem RC_0 : RC 0 0 cb_h2.2.2.1 cb_h2.2.2.1 := by
  have hI := cb_h2_I
  generalize cb_h2.2.2.1 = I at hI
  have z : ∀ a k, a < 81 → k < 72 → ¬ a = 6 → ¬ (8 ≤ a ∧ a < 44 ∧ (a - 8) % 6 = 0) → I a k = nI 0 := fun a k q1 q2 q3 q4 => by
    rw [hI a q1 k q2]
    unfold cb_IT
    rw [if_neg (by omega), if_neg (by omega), if_neg (by omega)]
  refine ⟨⟨⟨⟨0, Nat.le_refl _, z _ _ (by decide) (by decide) (by decide) (by decide), z _ _ (by decide) (by decide) (by decide) (by decide), z _ _ (by decide) (by decide) (by decide) (by decide), fun i hi => ?_⟩, fun b hb => Or.inl ⟨?_, ?_⟩⟩, fun t ht => ?_, fun m hm => absurd hm (Nat.not_lt_zero m), fun m hm => absurd hm (Nat.not_lt_zero m), fun m hm => absurd hm (Nat.not_lt_zero m)⟩, fun m hm => absurd hm (Nat.not_lt_zero m), ⟨0, by decide, z _ _ (by decide) (by decide) (by decide) (by decide), z _ _ (by decide) (by decide) (by decide) (by decide)⟩, fun t ht => ⟨0, by decide, ?_, ?_, ?_, ?_⟩, fun t ht => ⟨?_, ?_⟩, fun m hm => absurd hm (Nat.not_lt_zero m), by decide, z _ _ (by decide) (by decide) (by decide) (by decide), z _ _ (by decide) (by decide) (by decide) (by decide), ⟨0, by decide, z _ _ (by decide) (by decide) (by decide) (by decide), z _ _ (by decide) (by decide) (by decide) (by decide)⟩, Or.inl ⟨z _ _ (by decide) (by decide) (by decide) (by decide), z _ _ (by decide) (by decide) (by decide) (by decide)⟩, fun m _ hm => ⟨z _ _ (by decide) (by omega) (by decide) (by decide), fun k hk => z _ _ (by decide) (by omega) (by decide) (by decide)⟩⟩
  · rw [z _ _ (by decide) (by omega) (by decide) (by decide), z _ _ (by decide) (by omega) (by decide) (by decide)]
  · rw [hI 6 (by decide) b (by omega)]
    unfold cb_IT
    rw [if_pos ⟨rfl, hb⟩]
  · rw [z _ _ (by decide) (by omega) (by decide) (by decide)]; rfl
  · have t0 : I (8 + 6 * t) 0 = nI t := by
      rw [hI _ (by omega) 0 (by decide)]
      unfold cb_IT
      rw [if_neg (by omega), if_pos (by omega)]
      congr 1
      omega
    have t1 : I (8 + 6 * t) 1 = nI 1 := by
      rw [hI _ (by omega) 1 (by decide)]
      unfold cb_IT
      rw [if_neg (by omega), if_neg (by omega), if_pos (by omega)]
    have tk_ : ∀ k, 2 ≤ k → k < 72 → I (8 + 6 * t) k = nI 0 := fun k q1 q2 => by
      rw [hI _ (by omega) k q2]
      unfold cb_IT
      rw [if_neg (by omega), if_neg (by omega), if_neg (by omega)]
    refine ⟨t0, ?_, ?_, ?_, ?_, ?_, fun b hb => ?_, fun k hk => ?_, fun k hk => ?_, fun k hk => ?_, fun s hs => ?_⟩
    · rw [t1, z 57 t (by decide) (by omega) (by decide) (by decide)]
      exact ⟨fun q => absurd q (by decide), fun q => absurd rfl q⟩
    · rw [tk_ 2 (by decide) (by decide), z _ _ (by decide) (by omega) (by decide) (by decide)]
    · rw [tk_ 3 (by decide) (by decide), z _ _ (by decide) (by omega) (by decide) (by decide)]
    · rw [tk_ 4 (by decide) (by decide), z _ _ (by decide) (by omega) (by decide) (by decide)]
    · rw [tk_ 5 (by decide) (by decide), z _ _ (by decide) (by omega) (by decide) (by decide)]
    · rw [z (9 + 6 * t) _ (by omega) (by omega) (by omega) (by omega), z 66 _ (by decide) (by omega) (by decide) (by decide)]
    · rw [z (10 + 6 * t) _ (by omega) (by omega) (by omega) (by omega), z 58 _ (by decide) (by omega) (by decide) (by decide)]
    · rw [z (11 + 6 * t) _ (by omega) (by omega) (by omega) (by omega), z 59 _ (by decide) (by omega) (by decide) (by decide)]
    · rw [z (12 + 6 * t) _ (by omega) (by omega) (by omega) (by omega), z 60 _ (by decide) (by omega) (by decide) (by decide)]
    · rw [z (13 + 6 * t) _ (by omega) (by omega) (by omega) (by omega), z 61 _ (by decide) (by omega) (by decide) (by decide)]
  · exact z _ _ (by decide) (by omega) (by decide) (by decide)
  · exact z _ _ (by decide) (by omega) (by decide) (by decide)
  · rw [z _ _ (by decide) (by omega) (by decide) (by decide)]; rfl
  · rw [z _ _ (by decide) (by omega) (by decide) (by decide)]; rfl
  · exact z _ _ (by decide) (by omega) (by decide) (by decide)
  · exact z _ _ (by decide) (by omega) (by decide) (by decide)
theorem law_run {L : Nat} {xs : Nat → Int32} (hL : L ≤ 3584) : rn cb_G (L + 1) xs 11 0 [.ref ex_scr] cb_h0 (fun r h => r = some (.int 1) ∧ h.1 ≤ 600000 ∧ h.2.1 ≤ 7302250) := by
  show xx cb_G (L + 1) xs 11 0 0 [.ref ex_scr, ex_no, ex_no, ex_no] [] cb_h0 lawQ
  refine xx_new (pc' := 3) rfl rfl (by decide) rfl rfl ?_
  refine xi_dup (pc' := 4) rfl rfl rfl ?_
  refine xx_callI (D := 10) (Qy := fun r h => r = none ∧ h = cb_h1) (pc' := 7) rfl rfl (by decide) rfl (Nat.le_of_ble_eq_true rfl) rfl rfl ⟨300, none, cb_h1, ex_run_any _ _ _ _ _ _ _ _ cb_c0_is, rfl, rfl⟩ (fun r h q => ?_)
  obtain ⟨rfl, rfl⟩ := q
  refine xi_astore_n (pc' := 8) rfl (st1_1 rfl) rfl ?_
  refine xx_new (pc' := 11) rfl rfl (by rw [cb_h1_ok.1]; decide) (by rw [cb_h1_ok.1]; rfl) rfl ?_
  rw [cb_h1_ok.1]
  refine xi_dup (pc' := 12) rfl rfl rfl ?_
  refine xx_callI (D := 10) (Qy := fun r h => r = none ∧ h = cb_h2) (pc' := 15) rfl rfl (by decide) rfl (Nat.le_of_ble_eq_true rfl) rfl rfl ⟨300, none, cb_h2, ex_run_any _ _ _ _ _ _ _ _ cb_c1_is, rfl, rfl⟩ (fun r h q => ?_)
  obtain ⟨rfl, rfl⟩ := q
  refine xi_astore_n (pc' := 16) rfl (st1_2 rfl) rfl ?_
  refine xi_iconst (pc' := 17) rfl rfl ?_
  refine xi_istore_n (pc' := 18) rfl (st1_3 rfl) rfl ?_
  rw [cb_h2_eq]
  exact law_loop hL (L + 7) 0 (by omega) (by omega) 0 0 _ _ RC_0 (by omega)
