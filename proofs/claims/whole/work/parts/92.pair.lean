/-! each call of the system beside the reference's -/
def CP (L : Nat) (xs : Nat → Int32) (y1 y2 : Nat) (as : List Value) (N n : Nat) (I J : ex_Mem) : Prop := ∃ v n' I' J', ri L xs 10 y1 (.ref 0 :: as) (mkH n I J) v (mkH n' I' J) ∧ ri L xs 10 y2 (.ref 52 :: as) (mkH n' I' J) v (mkH n' I' J') ∧ RC (N + 306) n' I' J'
def CPl (L : Nat) (xs : Nat → Int32) (y1 y2 : Nat) (as : List Value) (N n : Nat) (I J : ex_Mem) : Prop := ∃ v n' I' J', rl L xs 10 y1 (.ref 0 :: as) (mkH n I J) v (mkH n' I' J) ∧ rl L xs 10 y2 (.ref 52 :: as) (mkH n' I' J) v (mkH n' I' J') ∧ RC (N + 306) n' I' J'
section PAIR
variable {L : Nat} {xs : Nat → Int32} {N n : Nat} {I J : ex_Mem}
theorem RC_sl (h : RC N n I J) : (I 44 4 = nI 0 ∧ J 52 27 = nI 0) ∨ (I 44 4 = nI 1 ∧ J 52 27 = nI 1 ∧ ∀ f, f < 4 → I 46 f = J 78 f) := h.2.2.2.2.2.2.2.2.2.2.1
theorem RC_8 (h : RC N n I J) : n ≤ 8 := h.2.2.2.2.2.2.1
theorem RC_cn (h : RC N n I J) : I 44 2 = nI n := h.2.2.2.2.2.2.2.1
theorem RC_nm (h : RC N n I J) : J 52 17 = nI n := h.2.2.2.2.2.2.2.2.1
theorem RC_frm (h : RC N n I J) : ∃ f, f < 4 ∧ I 44 3 = nI f ∧ J 52 29 = nI f := h.2.2.2.2.2.2.2.2.2.1
theorem k_live {t on : Int32} (hon : ex_b01 on = true) (h : RC N n I J) : CP L xs 5 84 [.int t, .int on] N n I J := by
  by_cases ht : vT t
  · obtain ⟨k, hk, rfl⟩ := vT_ex ht
    exact ⟨nI 1, n, _, _, f_live1 hk hon, r_live1 hk, RC_up (RC_live h hk) (by omega)⟩
  · exact ⟨nI 0, n, I, J, f_live0 ht, r_live0 ht, RC_up h (by omega)⟩
theorem k_draft {t s k v : Int32} (h : RC N n I J) : CP L xs 7 86 [.int t, .int s, .int k, .int v] N n I J := by
  by_cases hp : vT t ∧ vS s
  · by_cases hk : vK k
    · by_cases hv : vV v
      · obtain ⟨t', ht, rfl⟩ := vT_ex hp.1
        obtain ⟨s', hs, rfl⟩ := vS_ex hp.2
        obtain ⟨k', hk', rfl⟩ := vK_ex hk
        exact ⟨nI 1, n, _, _, f_draft1 ht hs hk' hv, r_draft1 ht hs hk' hv, RC_up (RC_draft h ht hs hk') (by omega)⟩
      · exact ⟨nI 0, n, I, J, f_draft0v hp hk hv, r_draft0v hp hk hv, RC_up h (by omega)⟩
    · exact ⟨nI 0, n, I, J, f_draft0k hp hk, r_draft0k hp hk, RC_up h (by omega)⟩
  · exact ⟨nI 0, n, I, J, f_draft0p hp, r_draft0p hp, RC_up h (by omega)⟩
theorem k_publish {t s : Int32} (h : RC N n I J) : CP L xs 11 90 [.int t, .int s] N n I J := by
  by_cases hp : vT t ∧ vS s
  · obtain ⟨t', ht, rfl⟩ := vT_ex hp.1
    obtain ⟨s', hs, rfl⟩ := vS_ex hp.2
    exact ⟨nI 1, n, _, _, f_publish1 ht hs, r_publish1 ht hs, RC_up (RC_publish h ht hs) (by omega)⟩
  · exact ⟨nI 0, n, I, J, f_publish0 hp, r_publish0 hp, RC_up h (by omega)⟩
theorem k_received {t s k : Int32} (h : RC N n I J) : CP L xs 12 91 [.int t, .int s, .int k] N n I J := by
  by_cases hp : vT t ∧ vS s
  · by_cases hk : vK k
    · obtain ⟨t', ht, rfl⟩ := vT_ex hp.1
      obtain ⟨s', hs, rfl⟩ := vS_ex hp.2
      obtain ⟨k', hk', rfl⟩ := vK_ex hk
      exact ⟨_, n, I, J, f_received1 ht hs hk', by rw [RC_received h ht hs hk']; exact r_received1 ht hs hk', RC_up h (by omega)⟩
    · exact ⟨- nI 1, n, I, J, f_received0k hp hk, r_received0k hp hk, RC_up h (by omega)⟩
  · exact ⟨- nI 1, n, I, J, f_received0p hp, r_received0p hp, RC_up h (by omega)⟩
theorem k_terminal {t w : Int32} (h : RC N n I J) : CP L xs 13 92 [.int t, .int w] N n I J := by
  by_cases ht : vT t
  · obtain ⟨k, hk, rfl⟩ := vT_ex ht
    have hT := h.1.2.1 k hk
    have hO := h.2.2.2.1 k hk
    by_cases hw : w.toInt < 0 ∨ 6 < w.toInt
    · exact ⟨- nI 1, n, I, J, f_terminal_d hk hw, r_terminal_d hk hw, RC_up h (by omega)⟩
    · have hw0 : 0 ≤ w := by rw [Int32.le_iff_toInt_le, Int32.toInt_zero]; omega
      have e := i_nat hw0
      generalize w.toNatClampNeg = z at e
      obtain ⟨e1, e2⟩ := e
      subst e1
      rcases (show z = 0 ∨ z = 1 ∨ z = 2 ∨ z = 3 ∨ z = 4 ∨ z = 5 ∨ z = 6 by omega) with rfl | rfl | rfl | rfl | rfl | rfl | rfl
      · exact ⟨_, n, I, J, f_terminal_0 hk, by rw [RT_st hT]; exact r_terminal_0 hk, RC_up h (by omega)⟩
      · exact ⟨_, n, I, J, f_terminal_1 hk, by rw [hT.2.2.2.2.1]; exact r_terminal_1 hk, RC_up h (by omega)⟩
      · exact ⟨_, n, I, J, f_terminal_2 hk, by rw [hT.2.2.2.2.2.1]; exact r_terminal_2 hk, RC_up h (by omega)⟩
      · exact ⟨_, n, I, J, f_terminal_3 hk, by rw [hT.2.2.2.2.2.2.1 0 (by decide)]; exact r_terminal_3 hk, RC_up h (by omega)⟩
      · exact ⟨_, n, I, J, f_terminal_4 hk, by rw [hT.2.2.2.2.2.2.1 1 (by decide)]; exact r_terminal_4 hk, RC_up h (by omega)⟩
      · obtain ⟨bd, _, hx1, hx2, _, _⟩ := hO
        exact ⟨_, n, I, J, f_terminal_5 hk, by rw [hx1, ← hx2]; exact r_terminal_5 hk, RC_up h (by omega)⟩
      · exact ⟨_, n, I, J, f_terminal_6 hk, by rw [RO_eq hO]; exact r_terminal_6 hk, RC_up h (by omega)⟩
  · exact ⟨- nI 1, n, I, J, f_terminal_x ht, r_terminal_x ht, RC_up h (by omega)⟩
theorem k_message {kd x y s nn per : Int32} (h : RC N n I J) : CP L xs 14 94 [.int kd, .int x, .int y, .int s, .int nn, .int per] N n I J := by
  rcases RC_sl h with ⟨z1, z2⟩ | ⟨z1, z2, _⟩
  · by_cases hk : okMsg kd x y s nn per
    · obtain ⟨hp, ht, hc⟩ := ok_iff.1 hk
      by_cases h8 : n = 8
      · subst h8
        exact ⟨- nI 2, 8, I, J, f_msg_f z1 hp ht hc (RC_cn h), r_message_f z2 hk (RC_nm h), RC_up h (by omega)⟩
      · have h8' : n < 8 := by have := RC_8 h; omega
        exact ⟨nI n, n + 1, _, _, f_msg_a z1 hp ht hc h8' (RC_cn h), r_message_a z2 hk h8' (RC_nm h), RC_up (RC_add h h8' hk) (by omega)⟩
    · by_cases hp : isP per
      · by_cases ht : aT kd x y
        · by_cases hc : aC kd s nn
          · exact absurd (ok_iff.2 ⟨hp, ht, hc⟩) hk
          · exact ⟨- nI 1, n, I, J, f_msg_bc z1 hp ht hc, r_message_b z2 hk, RC_up h (by omega)⟩
        · exact ⟨- nI 1, n, I, J, f_msg_bt z1 hp ht, r_message_b z2 hk, RC_up h (by omega)⟩
      · exact ⟨- nI 1, n, I, J, f_msg_bp z1 hp, r_message_b z2 hk, RC_up h (by omega)⟩
  · exact ⟨- nI 6, n, I, J, f_msg_s z1, r_message_s z2, RC_up h (by omega)⟩
theorem k_give {m k v : Int32} (h : RC N n I J) : CP L xs 19 96 [.int m, .int k, .int v] N n I J := by
  have h8 := RC_8 h
  have hcn := RC_cn h
  have hnm := RC_nm h
  by_cases hm : vM n m
  · obtain ⟨m', hm', rfl⟩ := vM_ex hm h8
    by_cases hk : vK k
    · by_cases hv : vV v
      · obtain ⟨k', hk', rfl⟩ := vK_ex hk
        exact ⟨nI 1, n, _, _, f_give1 h8 hm' hcn hk' hv, r_give1 hnm h8 hm' hk' hv, RC_up (RC_give h hm' hk') (by omega)⟩
      · exact ⟨nI 0, n, I, J, f_give0v h8 hm' hcn hk hv, r_give0v hnm h8 hm' hk hv, RC_up h (by omega)⟩
    · exact ⟨nI 0, n, I, J, f_give0k h8 hm' hcn hk, r_give0k hnm h8 hm' hk, RC_up h (by omega)⟩
  · exact ⟨nI 0, n, I, J, f_give0m h8 hm hcn, r_give0m hnm hm, RC_up h (by omega)⟩
theorem k_taken {m k : Int32} (h : RC N n I J) : CP L xs 20 98 [.int m, .int k] N n I J := by
  have h8 := RC_8 h
  have hcn := RC_cn h
  have hnm := RC_nm h
  by_cases hm : vM n m
  · obtain ⟨m', hm', rfl⟩ := vM_ex hm h8
    by_cases hk : vK k
    · obtain ⟨k', hk', rfl⟩ := vK_ex hk
      exact ⟨_, n, I, J, f_taken1 h8 hm' hcn hk', by rw [h.1.2.2.1 m' hm' k' hk']; exact r_taken1 hnm h8 hm' hk', RC_up h (by omega)⟩
    · exact ⟨- nI 1, n, I, J, f_taken0k h8 hm' hcn hk, r_taken0k hnm h8 hm' hk, RC_up h (by omega)⟩
  · exact ⟨- nI 1, n, I, J, f_taken0m h8 hm hcn, r_taken0m hnm hm, RC_up h (by omega)⟩
theorem k_outcome {m : Int32} (h : RC N n I J) : CP L xs 27 125 [.int m] N n I J := by
  have h8 := RC_8 h
  have hcn := RC_cn h
  have hnm := RC_nm h
  by_cases hm : vM n m
  · obtain ⟨m', hm', rfl⟩ := vM_ex hm h8
    exact ⟨_, n, I, J, f_outcome1 h8 hm' hcn, by rw [h.2.1 m' hm']; exact r_outcome1 hnm h8 hm', RC_up h (by omega)⟩
  · exact ⟨- nI 1, n, I, J, f_outcome0 h8 hm hcn, r_outcome0 hnm hm, RC_up h (by omega)⟩
theorem k_seal {bu : Int32} (h : RC N n I J) : CP L xs 21 99 [.int bu] N n I J := by
  rcases RC_sl h with ⟨z1, z2⟩ | ⟨z1, z2, _⟩
  · by_cases hb : 0 ≤ bu
    · have hs := RC_seal (bu := bu) h z2
      exact ⟨_, n, _, _, f_seal_ok (RC_8 h) (RC_cn h) (fun m hm => RC_per h hm) z1 hb, by rw [hs.2]; exact r_seal_ok (RC_8 h) (RC_nm h) h.1.2.2.2.2 h.2.2.2.2.2.1 z2 hb, RC_up hs.1 (by omega)⟩
    · exact ⟨- nI 1, n, I, J, f_seal_b z1 hb, r_seal_b z2 hb, RC_up h (by omega)⟩
  · exact ⟨- nI 6, n, I, J, f_seal_s z1, r_seal_s z2, RC_up h (by omega)⟩
theorem k_open  (h : RC N n I J) : CP L xs 22 104 [] N n I J := by
  rcases RC_sl h with ⟨z1, z2⟩ | ⟨z1, z2, _⟩
  · have e : I 44 4 = J 52 27 := by rw [z1, z2]
    exact ⟨_, n, _, ex_wI J 52 27 (nI 0), f_open (by rw [z1]; rfl), by rw [e]; exact r_open_ok (by rw [z2]; rfl), RC_up (RC_open h) (by omega)⟩
  · have e : I 44 4 = J 52 27 := by rw [z1, z2]
    exact ⟨_, n, _, ex_wI J 52 27 (nI 0), f_open (by rw [z1]; rfl), by rw [e]; exact r_open_ok (by rw [z2]; rfl), RC_up (RC_open h) (by omega)⟩
theorem k_load {f : Int32} (h : RC N n I J) : CP L xs 23 105 [.int f] N n I J := by
  rcases RC_sl h with ⟨z1, z2⟩ | ⟨z1, z2, z3⟩
  · exact ⟨- nI 1, n, I, J, f_load0z z1, r_load0z z2, RC_up h (by omega)⟩
  · by_cases hf : vK f
    · obtain ⟨k, hk, rfl⟩ := vK_ex hf
      exact ⟨_, n, I, J, f_load1 z1 hk, by rw [z3 k hk]; exact r_load1 z2 hk, RC_up h (by omega)⟩
    · exact ⟨- nI 1, n, I, J, f_load0 z1 hf, r_load0 z2 hf, RC_up h (by omega)⟩
theorem k_fault {b kd k : Int32} (h : RC N n I J) : CP L xs 24 106 [.int b, .int kd, .int k] N n I J := by
  by_cases hf : vF b kd k
  · obtain ⟨b', kd', k', h1, h2, h3, rfl, rfl, rfl⟩ := vF_ex hf
    exact ⟨nI 1, n, _, _, f_fault1 h1 h2 h3, r_fault1 h1 h2 h3, RC_up (RC_fault h h1 h2 h3) (by omega)⟩
  · exact ⟨nI 0, n, I, J, f_fault0 hf, r_fault0 hf, RC_up h (by omega)⟩
theorem k_run (hN : N + 400 < 2 ^ 31) (h : RC N n I J) : CP L xs 25 107 [] N n I J := by
  rcases RC_sl h with ⟨z1, z2⟩ | ⟨z1, z2, _⟩
  · exact ⟨- nI 1, n, I, J, f_run_u z1, r_run_u z2, RC_up h (by omega)⟩
  · obtain ⟨f, hf, f1, f2⟩ := RC_frm h
    obtain ⟨b, hb, b1, b2⟩ := h.2.2.1
    have hr := RC_run h hf f1 f2 (by omega)
    exact ⟨_, n, _, _, f_run (RC_8 h) z1 hf f1 hb (RW_mon h.1.1) b1 (RC_okC h hf (by omega)), by rw [hr.2]; exact r_run_ok z2 (RC_8 h) hf (RC_okR h f2) (RW_hw h.1.1 (by omega)) hN, hr.1⟩
theorem k_bus  (h : RC N n I J) : CP L xs 28 126 [] N n I J := by
  obtain ⟨b, hb, b1, b2⟩ := h.2.2.1
  exact ⟨_, n, I, J, f_bus, by rw [b1, ← b2]; exact r_bus_ok, RC_up h (by omega)⟩
theorem k_words  (h : RC N n I J) : CP L xs 29 127 [] N n I J := by
  obtain ⟨q, q1, q2, q3, q4, q5⟩ := h.1.1.1
  exact ⟨_, n, I, J, f_words, by rw [q4, ← q2]; exact r_words_ok, RC_up h (by omega)⟩
theorem k_heard {i : Int32} (hN : N < 2 ^ 31) (h : RC N n I J) : CP L xs 30 128 [.int i] N n I J := by
  obtain ⟨q, q1, q2, q3, q4, q5⟩ := h.1.1.1
  by_cases hi : vH q i
  · obtain ⟨k, k1, k2, rfl⟩ := vH_ex hi (by omega)
    have e := RC_heard h q2 (by omega) hN k1 k2
    rw [tk_of q3 (by omega), show q % 60 + 60 - 1 - k = q % 60 + 59 - k by omega] at e
    exact ⟨_, n, I, J, f_heard1 q4 (by omega) q3 (by omega) k1 k2, by rw [e]; exact r_heard1 q2 (by omega) k1 k2, RC_up h (by omega)⟩
  · exact ⟨- nI 1, n, I, J, f_heard0 q4 hi, r_heard0 q2 hi, RC_up h (by omega)⟩
theorem k_encode {d v : Int32} (h : RC N n I J) : CPl L xs 2 81 [.int d, .int v] N n I J := by
  by_cases hv : vV v
  · exact ⟨_, n, I, J, f_encode1 hv, by rw [enc_eq hv]; exact r_encode1 hv, RC_up h (by omega)⟩
  · exact ⟨- lN 1, n, I, J, f_encode0 hv, r_encode0 hv, RC_up h (by omega)⟩
theorem k_decode {w : Int64} (h : RC N n I J) : CP L xs 4 83 [.long w] N n I J := by
  by_cases hv : vLo w
  · by_cases h7 : de_sy w = nI 7
    · exact ⟨_, n, I, J, f_decode_7 hv h7, by rw [dec_eq (Or.inl h7)]; exact r_decode_7 hv h7, RC_up h (by omega)⟩
    · by_cases h56 : de_sy w = nI 56
      · exact ⟨_, n, I, J, f_decode_56 hv h56, by rw [dec_eq (Or.inr h56)]; exact r_decode_56 hv h56, RC_up h (by omega)⟩
      · exact ⟨- nI 3, n, I, J, f_decode_s hv h7 h56, r_decode_s hv h7 h56, RC_up h (by omega)⟩
  · exact ⟨- nI 1, n, I, J, f_decode_b hv, r_decode_b hv, RC_up h (by omega)⟩
end PAIR
