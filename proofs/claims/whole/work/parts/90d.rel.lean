/-! what a run may count on in its midst -/
theorem RC_mid {N n f : Nat} {I J : ex_Mem} (h : RC N n I J) (hN : N + 306 < 2 ^ 31) : RX (N + 18) n (q_p0 (q_tf I f) f) (r_z (r_p0 J f) 6) ∧ RP n (r_z (r_p0 J f) 6) ∧ q_p0 (q_tf I f) f 44 2 = nI n := by
  obtain ⟨hA, hO, hB, hR, hI0, hP, hT⟩ := h
  obtain ⟨bb, hb, b1, b2, b3, b4⟩ := BU_tk hB
  have t1 : ∀ a k, ¬ (a = 44 ∧ k = 3) → q_tf I f a k = I a k := fun a k q => by unfold q_tf; rw [wI_get, if_neg q]
  have hA1 : RXA N n (q_tf I f) J := RA_fr hA (fun a k q1 q2 => t1 _ _ (by omega)) (fun q k => t1 _ _ (by omega)) (fun q k _ => t1 _ _ (by omega)) rfl (fun _ _ _ _ => rfl) (fun _ _ _ _ => rfl)
  have hR1 : RO (q_tf I f) J := RO_fr hR (fun k => t1 _ _ (by omega)) (fun k => t1 _ _ (by omega)) (fun _ => rfl) (fun _ => rfl)
  have b5 : tk (q_tf I f) 1 2 = bb := tk_of (by rw [t1 _ _ (by omega), b1]) (by omega)
  have key : RXA (N + 18) n (q_p0 (q_tf I f) f) (r_p0 J f) ∧ RO (q_p0 (q_tf I f) f) (r_p0 J f) ∧ (∀ a k, a < 4 ∨ 44 ≤ a → a ≠ 48 → a ≠ 49 → q_p0 (q_tf I f) f a k = q_tf I f a k) ∧ (∀ a k, nt a k → a ≠ 67 → a ≠ 68 → r_p0 J f a k = J a k) := by
    unfold q_p0
    by_cases h0 : f = 0
    · subst h0
      rw [if_pos rfl, p0_0, b4, b5]
      have := RA_poll hA1 hR1 hb (by omega) 6 (Nat.le_refl _)
      exact ⟨this.1, this.2, fun a k q1 q2 q3 => qpoll_fr q1 q2 q3 6 (Nat.le_refl _), fun a k q1 q2 q3 => poll_nt q1 q2 q3 6⟩
    · rw [if_neg h0, p0_1 h0]
      exact ⟨RA_up hA1 (by omega), hR1, fun _ _ _ _ _ => rfl, fun _ _ _ _ _ => rfl⟩
  obtain ⟨k1, k2, k3, k4⟩ := key
  generalize q_p0 (q_tf I f) f = S at k1 k2 k3 ⊢
  generalize r_p0 J f = K at k1 k2 k4 ⊢
  have z1 : ∀ a k, a ≠ 80 → r_z K 6 a k = K a k := fun a k q => z_fr q 6
  refine ⟨⟨RA_fr k1 (fun _ _ _ _ => rfl) (fun _ _ => rfl) (fun _ _ _ => rfl) (z1 _ _ (by decide)) (fun a k q1 q2 => z1 _ _ (by omega)) (fun a k q1 q2 => z1 _ _ (by omega)), ?_, ?_, ?_, ?_⟩, ?_, ?_⟩
  · intro m hm
    rw [k3 _ _ (by omega) (by omega) (by omega), t1 _ _ (by omega), z1 _ _ (by decide), k4 _ _ (by unfold nt; omega) (by decide) (by decide), hO m hm]
  · exact ⟨bb, hb, by rw [k3 _ _ (by omega) (by omega) (by omega), t1 _ _ (by omega), b1], by rw [z1 _ _ (by decide), k4 _ _ (by unfold nt; omega) (by decide) (by decide), b2]⟩
  · exact RO_fr k2 (fun _ => rfl) (fun _ => rfl) (fun k => z1 _ _ (by decide)) (fun k => z1 _ _ (by decide))
  · intro t ht
    left
    refine ⟨?_, ?_, rz_80 6 t ht⟩
    · rw [k3 _ _ (by omega) (by omega) (by omega), t1 _ _ (by omega), (hI0 t ht).1]
    · rw [k3 _ _ (by omega) (by omega) (by omega), t1 _ _ (by omega), (hI0 t ht).2]
  · exact fun m hm => vPer_eq (by rw [z1 _ _ (by decide), k4 _ _ (by unfold nt; omega) (by decide) (by decide)]) (hP m hm)
  · rw [k3 _ _ (by omega) (by omega) (by omega), t1 _ _ (by omega), hT.2.1]
def okC (n : Nat) (S : ex_Mem) : Prop := S 44 2 = nI n ∧ monB S ∧ (∀ k, k < n → vMc S k) ∧ S 1 2 = nI (tk S 1 2) ∧ tk S 1 2 < 2
theorem RC_okC {N n f : Nat} {I J : ex_Mem} (h : RC N n I J) (hf : f < 4) (hN : N + 306 < 2 ^ 31) : ∀ m, m ≤ n → okC n (q_rn (nI 0, q_p0 (q_tf I f) f) f m).2 := by
  have h8 : n ≤ 8 := h.2.2.2.2.2.2.1
  obtain ⟨hX, hP, h2⟩ := RC_mid (f := f) h hN
  intro m hm
  have hr := RX_rn (A := (nI 0, q_p0 (q_tf I f) f)) (B := (nI 0, r_z (r_p0 J f) 6)) hX hP rfl hf (by omega) m hm
  have e := qrn_fr (A := (nI 0, q_p0 (q_tf I f) f)) (B := (nI 0, r_z (r_p0 J f) 6)) (a := 44) (k := 2) hX hP rfl hf (by omega) (by omega) m hm
  obtain ⟨q, q1, q2, q3, q4, q5⟩ := BU_tk hr.1.2.2.1
  refine ⟨by rw [e]; exact h2, RW_mon hr.1.1.1, fun k hk => FR_v hr.1.1.2.2.2.1 hk (hr.1.1.2.2.2.2 k hk), by rw [q4, q2], by omega⟩
theorem RC_up {N M n : Nat} {I J : ex_Mem} (h : RC N n I J) (hM : N ≤ M) : RC M n I J := ⟨RA_up h.1 hM, h.2⟩
theorem RC_per {N n m : Nat} {I J : ex_Mem} (h : RC N n I J) (hm : m < n) : I (81 + 2 * m) 5 = nI (tk I (81 + 2 * m) 5) ∧ 1 ≤ tk I (81 + 2 * m) 5 ∧ tk I (81 + 2 * m) 5 ≤ 4 := by
  have e5 := (h.1.2.2.2.1 m hm).1 5 (by decide)
  simp only [Nat.reduceAdd] at e5
  have hp := h.2.2.2.2.2.1 m hm
  rw [tk_eq2 e5, e5]
  exact ⟨hp.1, by rcases hp.2 with z | z | z <;> rw [z] <;> decide, by rcases hp.2 with z | z | z <;> rw [z] <;> decide⟩
theorem RC_okR {N n f : Nat} {I J : ex_Mem} (h : RC N n I J) (hJ : J 52 29 = nI f) : okR n f J := by
  obtain ⟨q, q1, q2, q3, q4, q5⟩ := BU_tk h.2.2.1
  exact ⟨h.2.2.2.2.2.2.2.2.1, hJ, nI_bus q3 q1, h.1.2.2.2.2, h.2.2.2.2.2.1⟩
