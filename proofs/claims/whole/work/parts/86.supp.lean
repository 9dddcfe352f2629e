/-- no reference lies outside the cells that are, or beyond place 40 -/
def ex_sup (h : ex_Hp) : Prop := ∀ a k, (h.1 ≤ a ∨ 40 ≤ k) → h.2.2.2 a k = none
theorem ex_sup_P {h : ex_Hp} {a k : Nat} {v : Option Nat} (hs : ex_sup h) (ha : a < h.1) (hk : k < 40) : ex_sup (ex_hP h a k v) := by
  intro b j hb
  show (if b = a ∧ j = k then v else h.2.2.2 b j) = none
  have hb : h.1 ≤ b ∨ 40 ≤ j := hb
  rw [if_neg (by omega)]
  exact hs b j hb
theorem ex_sup_N {h : ex_Hp} {n : Nat} (hs : ex_sup h) : ex_sup (ex_hN h n) := by
  intro b j hb
  show (if b = h.1 then none else h.2.2.2 b j) = none
  have hb : h.1 + 1 ≤ b ∨ 40 ≤ j := hb
  split
  · rfl
  · exact hs b j (by omega)
theorem ex_in_lt {i : Int32} {n : Nat} (h : ex_in i n = true) : i.toNatClampNeg < n := by
  have h2 : ¬ (i < 0 ∨ n ≤ i.toNatClampNeg) := of_decide_eq_true h
  omega
theorem ex_mem_sup {G : ex_G} (hG1 : ∀ c, ex_nf G c ≤ 40) (hG2 : ∀ i t n, ex_kd G i = (t + 3, n) → n ≤ 40) {K : Nat} {xs : Nat → Int32} {d mi : Nat} {st st' : List Value} {h h' : ex_Hp} {ins : Instr} (hx : ex_mem G K xs d mi st h ins = some (st', h')) (hs : ex_sup h) : ex_sup h' := by
  cases ins with
  | getfield i =>
    simp only [ex_mem] at hx
    split at hx
    · split at hx
      · obtain ⟨a, t, rfl, q⟩ := ex_pa_some hx
        split at q
        · cases q; exact hs
        · cases q
      · cases hx
    · cases hx
  | putfield i =>
    simp only [ex_mem] at hx
    split at hx
    · rename_i tag c k z hlk
      split at hx
      · split at hx
        · obtain ⟨v, t, rfl, q1⟩ := ex_pn_some hx
          obtain ⟨a, u, rfl, q2⟩ := ex_pa_some q1
          split at q2
          · rename_i hc
            cases q2
            exact ex_sup_P hs hc.1 (Nat.lt_of_lt_of_le hc.2.2 (hG1 c))
          · cases q2
        · obtain ⟨v, t, rfl, q1⟩ := ex_pi_some hx
          obtain ⟨a, u, rfl, q2⟩ := ex_pa_some q1
          split at q2
          · cases q2; exact hs
          · cases q2
      · cases hx
    · cases hx
  | iaload =>
    simp only [ex_mem] at hx
    obtain ⟨i, t, rfl, q1⟩ := ex_pi_some hx
    obtain ⟨a, u, rfl, q2⟩ := ex_pa_some q1
    split at q2
    · split at q2
      · cases q2; exact hs
      · cases q2
    · split at q2
      · cases q2; exact hs
      · cases q2
  | baload =>
    simp only [ex_mem] at hx
    obtain ⟨i, t, rfl, q1⟩ := ex_pi_some hx
    obtain ⟨a, u, rfl, q2⟩ := ex_pa_some q1
    split at q2
    · cases q2; exact hs
    · cases q2
  | aaload =>
    simp only [ex_mem] at hx
    obtain ⟨i, t, rfl, q1⟩ := ex_pi_some hx
    obtain ⟨a, u, rfl, q2⟩ := ex_pa_some q1
    split at q2
    · cases q2; exact hs
    · cases q2
  | iastore =>
    simp only [ex_mem] at hx
    obtain ⟨x, s1, rfl, q0⟩ := ex_pi_some hx
    obtain ⟨i, t, rfl, q1⟩ := ex_pi_some q0
    obtain ⟨a, u, rfl, q2⟩ := ex_pa_some q1
    split at q2
    · cases q2; exact hs
    · cases q2
  | bastore =>
    simp only [ex_mem] at hx
    obtain ⟨x, s1, rfl, q0⟩ := ex_pi_some hx
    obtain ⟨i, t, rfl, q1⟩ := ex_pi_some q0
    obtain ⟨a, u, rfl, q2⟩ := ex_pa_some q1
    split at q2
    · cases q2; exact hs
    · cases q2
  | aastore =>
    simp only [ex_mem] at hx
    obtain ⟨x, s1, rfl, q0⟩ := ex_pa_some hx
    obtain ⟨i, t, rfl, q1⟩ := ex_pi_some q0
    obtain ⟨a, u, rfl, q2⟩ := ex_pa_some q1
    split at q2
    · rename_i hc
      obtain ⟨c1, c2, c3, c4, c5⟩ := hc
      cases q2
      have hk : ex_kd G a = ((ex_kd G x).2 + 3, (ex_kd G a).2) := by rw [Nat.add_comm, ← c3]
      exact ex_sup_P hs c1 (Nat.lt_of_lt_of_le (ex_in_lt c5) (hG2 a _ _ hk))
    · cases q2
  | arraylength =>
    simp only [ex_mem] at hx
    obtain ⟨a, u, rfl, q2⟩ := ex_pa_some hx
    split at q2
    · split at q2
      · cases q2
      · cases q2; exact hs
    · split at q2
      · cases q2; exact hs
      · cases q2
  | newarray ty =>
    simp only [ex_mem] at hx
    obtain ⟨n, u, rfl, q2⟩ := ex_pi_some hx
    split at q2
    · cases q2; exact ex_sup_N hs
    · cases q2
  | anewarray i =>
    simp only [ex_mem] at hx
    split at hx
    · obtain ⟨n, u, rfl, q2⟩ := ex_pi_some hx
      split at q2
      · cases q2; exact ex_sup_N hs
      · cases q2
    · cases hx
  | new i =>
    simp only [ex_mem] at hx
    split at hx
    · split at hx
      · cases hx; exact ex_sup_N hs
      · cases hx
    · cases hx
  | ldc i =>
    simp only [ex_mem] at hx
    split at hx
    · split at hx
      · cases hx; exact hs
      · cases hx
    · cases hx
  | ldc_w i =>
    simp only [ex_mem] at hx
    split at hx
    · split at hx
      · cases hx; exact hs
      · cases hx
    · cases hx
  | ldc2_w i =>
    simp only [ex_mem] at hx
    split at hx
    · split at hx
      · cases hx; exact hs
      · cases hx
    · cases hx
  | invokespecial i =>
    simp only [ex_mem] at hx
    split at hx
    · split at hx
      · obtain ⟨a, u, rfl, q2⟩ := ex_pa_some hx
        split at q2
        · cases q2; exact hs
        · cases q2
      · cases hx
    · cases hx
  | invokestatic i =>
    simp only [ex_mem] at hx
    split at hx
    · split at hx
      · obtain ⟨n, s1, rfl, q1⟩ := ex_pi_some hx
        obtain ⟨dp, s2, rfl, q2⟩ := ex_pi_some q1
        obtain ⟨a, s3, rfl, q3⟩ := ex_pa_some q2
        obtain ⟨sp, s4, rfl, q4⟩ := ex_pi_some q3
        obtain ⟨a0, u, rfl, q5⟩ := ex_pa_some q4
        split at q5
        · cases q5; exact hs
        · cases q5
      · split at hx
        · obtain ⟨y, s1, rfl, q1⟩ := ex_pi_some hx
          obtain ⟨x, u, rfl, q2⟩ := ex_pi_some q1
          split at q2
          · cases q2; exact hs
          · cases q2
        · cases hx
    · cases hx
  | _ => exact absurd (show (none : Option ex_Mr) = some _ from hx) (fun q => by cases q)
theorem ex_run_sup {G : ex_G} (hG1 : ∀ c, ex_nf G c ≤ 40) (hG2 : ∀ i t n, ex_kd G i = (t + 3, n) → n ≤ 40) {K : Nat} {xs : Nat → Int32} : ∀ (f d mi pc : Nat) (lv st : List Value) (h : ex_Hp) (r : Option Value) (h' : ex_Hp), ex_run G K xs f d mi pc lv st h = some (r, h') → ex_sup h → ex_sup h' := by
  intro f
  induction f with
  | zero => intro d mi pc lv st h r h' hx; cases hx
  | succ f ih =>
    intro d mi pc lv st h r h' hx hs
    unfold ex_run at hx
    split at hx
    · cases hx
    · split at hx
      · rename_i hst
        refine ih _ _ _ _ _ _ _ _ hx ?_
        unfold ex_step at hst
        split at hst
        · cases hst; exact hs
        · split at hst
          · rename_i hm
            split at hst
            · cases hst; exact ex_mem_sup hG1 hG2 hm hs
            · cases hst
          · cases hst
      · split at hx
        · cases hx; exact hs
        · split at hx
          · cases hx
          · split at hx
            · cases hx
            · split at hx
              · cases hx
              · rename_i hc
                exact ih _ _ _ _ _ _ _ _ hx (ih _ _ _ _ _ _ _ _ hc hs)
theorem cb_nf40 : ∀ c, ex_nf cb_G c ≤ 40 := by
  intro c
  show cb_nf c ≤ 40
  unfold cb_nf
  split <;> decide
theorem cb_kd40L : ∀ q ∈ cb_kdL, q.2 ≤ 40 ∨ q.1 < 3 := by decide +kernel
theorem cb_kd40 : ∀ i t n, ex_kd cb_G i = (t + 3, n) → n ≤ 40 := by
  intro i t n h
  have h : cb_kdL.getD i (1, 0) = (t + 3, n) := h
  rw [List.getD_eq_getElem?_getD] at h
  cases hq : cb_kdL[i]? with
  | none => rw [hq] at h; cases h
  | some q =>
    rw [hq] at h
    have h : q = (t + 3, n) := h
    subst h
    rcases cb_kd40L _ (List.mem_of_getElem? hq) with h | h
    · exact h
    · exact absurd h (by show ¬ t + 3 < 3; omega)
theorem cb_h0_sup : ex_sup cb_h0 := fun _ _ _ => rfl
theorem cb_h2_sup : ex_sup cb_h2 := by
  have h1 : ex_sup cb_h1 := ex_run_sup cb_nf40 cb_kd40 _ _ _ _ _ _ _ _ _ cb_c0_is (ex_sup_N cb_h0_sup)
  exact ex_run_sup cb_nf40 cb_kd40 _ _ _ _ _ _ _ _ _ cb_c1_is (ex_sup_N h1)
theorem PD0_out {a k : Nat} (h : 81 ≤ a ∨ 40 ≤ k) : PD 0 a k = none := by
  unfold PD
  by_cases h1 : a = 45
  · rw [if_pos h1, if_neg (by omega)]
  · rw [if_neg h1]
    by_cases h2 : a < 81
    · rw [if_pos h2]
      have hk : 40 ≤ k := by omega
      have hl : ∀ a, a < 81 → (cb_PT.getD a []).length ≤ 40 := by decide +kernel
      rw [List.getD_eq_getElem?_getD, List.getElem?_eq_none (Nat.le_trans (hl a h2) hk)]
      rfl
    · rw [if_neg h2, if_neg (by omega)]
/-- the heap behind both makings -/
theorem cb_h2_eq : cb_h2 = mkH 0 cb_h2.2.2.1 cb_h2.2.2.1 := by
  have hP : cb_h2.2.2.2 = PD 0 := by
    funext a k
    by_cases h : 81 ≤ a ∨ 40 ≤ k
    · rw [PD0_out h]
      exact cb_h2_sup a k (by rw [cb_h2_ok.1]; exact h)
    · exact cb_h2_P a (by omega) k (by omega)
  show cb_h2 = (81, 939, mm cb_h2.2.2.1 cb_h2.2.2.1, PD 0)
  rw [mm_self, ← hP, ← cb_h2_ok.1, ← cb_h2_ok.2]
