/-! a run that touches no script is the same for every script -/
theorem ex_mem_eq {G : ex_G} {K : Nat} {xs xs0 : Nat → Int32} {d mi : Nat} {st : List Value} {h : ex_Hp} {ins : Instr} (h1 : ins ≠ .iaload) (h2 : ins ≠ .arraylength) : ex_mem G K xs d mi st h ins = ex_mem G 0 xs0 d mi st h ins := by
  cases ins <;> first | rfl | exact absurd rfl h1 | exact absurd rfl h2
theorem ex_mem_any {G : ex_G} {K : Nat} {xs xs0 : Nat → Int32} {d mi : Nat} {st : List Value} {h : ex_Hp} {ins : Instr} {r : ex_Mr} (hm : ex_mem G 0 xs0 d mi st h ins = some r) : ex_mem G K xs d mi st h ins = some r := by
  by_cases h1 : ins = .iaload
  · subst h1
    obtain ⟨i, t, rfl, q1⟩ := ex_pi_some (show ex_pi st _ = some _ from hm)
    obtain ⟨a, u, rfl, q2⟩ := ex_pa_some q1
    have q2 : (if a = ex_scr then (if ex_in i 0 = true then some (Value.int (xs0 i.toNatClampNeg) :: u, h) else none) else if a < h.1 ∧ (ex_kd G a).1 = 1 ∧ ex_in i (ex_kd G a).2 = true then some (.int (h.2.2.1 a i.toNatClampNeg) :: u, h) else none) = some r := q2
    show (if a = ex_scr then (if ex_in i (K - 1) = true then some (Value.int (xs i.toNatClampNeg) :: u, h) else none) else if a < h.1 ∧ (ex_kd G a).1 = 1 ∧ ex_in i (ex_kd G a).2 = true then some (.int (h.2.2.1 a i.toNatClampNeg) :: u, h) else none) = some r
    by_cases ha : a = ex_scr
    · rw [if_pos ha, if_neg (by simp [ex_in])] at q2
      cases q2
    · rw [if_neg ha] at q2 ⊢
      exact q2
  · by_cases h2 : ins = .arraylength
    · subst h2
      obtain ⟨a, u, rfl, q2⟩ := ex_pa_some (show ex_pa st _ = some _ from hm)
      have q2 : (if a = ex_scr then none else if a < h.1 ∧ 1 ≤ (ex_kd G a).1 then some (Value.int (nI (ex_kd G a).2) :: u, h) else none) = some r := q2
      show (if a = ex_scr then (if K = 0 then none else some (Value.int (nI (K - 1)) :: u, h)) else if a < h.1 ∧ 1 ≤ (ex_kd G a).1 then some (Value.int (nI (ex_kd G a).2) :: u, h) else none) = some r
      by_cases ha : a = ex_scr
      · rw [if_pos ha] at q2
        cases q2
      · rw [if_neg ha] at q2 ⊢
        exact q2
    · rw [ex_mem_eq (xs0 := xs0) h1 h2]
      exact hm
theorem ex_run_any {G : ex_G} {K : Nat} {xs xs0 : Nat → Int32} : ∀ (f d mi pc : Nat) (lv st : List Value) (h : ex_Hp) (r : Option Value × ex_Hp), ex_run G 0 xs0 f d mi pc lv st h = some r → ex_run G K xs f d mi pc lv st h = some r := by
  intro f
  induction f with
  | zero => intro d mi pc lv st h r hx; cases hx
  | succ f ih =>
    intro d mi pc lv st h r hx
    unfold ex_run at hx ⊢
    cases hl : ex_look (ex_cd G mi) pc with
    | none => rw [hl] at hx; cases hx
    | some ins =>
      rw [hl] at hx
      dsimp only at hx ⊢
      cases hs : ex_step G 0 xs0 d mi pc lv st h ins with
      | some q =>
        obtain ⟨⟨pc', lv', st'⟩, h'⟩ := q
        rw [hs] at hx
        have hs2 : ex_step G K xs d mi pc lv st h ins = some ((pc', lv', st'), h') := by
          unfold ex_step at hs ⊢
          split at hs
          · rename_i hp
            exact hs
          · split at hs
            · rename_i hm
              rw [ex_mem_any hm]
              exact hs
            · cases hs
        rw [hs2]
        exact ih _ _ _ _ _ _ _ hx
      | none =>
        rw [hs] at hx
        dsimp only at hx
        have key : ex_ret G mi st ins ≠ none ∨ ex_call G mi st h ins ≠ none := by
          cases hr : ex_ret G mi st ins with
          | some v => exact Or.inl (fun q => by cases q)
          | none =>
            rw [hr] at hx
            dsimp only at hx
            cases hc : ex_call G mi st h ins with
            | some v => exact Or.inr (fun q => by cases q)
            | none => rw [hc] at hx; cases hx
        have n1 : ins ≠ .iaload := fun q => by
          subst q
          rcases key with k | k <;> exact k rfl
        have n2 : ins ≠ .arraylength := fun q => by
          subst q
          rcases key with k | k <;> exact k rfl
        have hs2 : ex_step G K xs d mi pc lv st h ins = none := by
          unfold ex_step at hs ⊢
          rw [ex_mem_eq (xs0 := xs0) n1 n2]
          exact hs
        rw [hs2]
        dsimp only
        cases hr : ex_ret G mi st ins with
        | some v => rw [hr] at hx; exact hx
        | none =>
          rw [hr] at hx
          dsimp only at hx ⊢
          cases hc : ex_call G mi st h ins with
          | none => rw [hc] at hx; cases hx
          | some v =>
            obtain ⟨y, as, u⟩ := v
            rw [hc] at hx
            dsimp only at hx ⊢
            cases d with
            | zero => cases hx
            | succ d' =>
              dsimp only at hx ⊢
              cases hq : ex_run G 0 xs0 f d' y 0 (ex_ent (ex_mx G y) as) [] h with
              | none => rw [hq] at hx; cases hx
              | some w =>
                rw [hq] at hx
                rw [ih _ _ _ _ _ _ _ hq]
                exact ih _ _ _ _ _ _ _ hx
/-- the makings, run by the kernel -/
def cb_c0 : Option (Option Value × ex_Hp) := ex_run cb_G 0 (fun _ => 0) 300 10 1 0 (ex_ent 1 [.ref 0]) [] (ex_hN cb_h0 5)
theorem cb_c0_ok : (cb_c0.map fun r => (r.1, r.2.1, r.2.2.1)) = some (none, 52, 441) := by decide +kernel
def cb_h1 : ex_Hp := (cb_c0.getD (none, cb_h0)).2
theorem cb_c0_is : cb_c0 = some (none, cb_h1) := by
  have h := cb_c0_ok
  cases hc : cb_c0 with
  | none => rw [hc] at h; cases h
  | some r =>
    rw [hc] at h
    have h1 : r.1 = none := congrArg (fun q : Option Value × Nat × Nat => q.1) (Option.some.inj h)
    have h2 : cb_h1 = r.2 := by unfold cb_h1; rw [hc]; rfl
    rw [h2, ← h1]
theorem cb_h1_ok : cb_h1.1 = 52 ∧ cb_h1.2.1 = 441 := by decide +kernel
def cb_c1 : Option (Option Value × ex_Hp) := ex_run cb_G 0 (fun _ => 0) 300 10 80 0 (ex_ent 1 [.ref 52]) [] (ex_hN cb_h1 34)
theorem cb_c1_ok : (cb_c1.map fun r => (r.1, r.2.1, r.2.2.1)) = some (none, 81, 939) := by decide +kernel
def cb_h2 : ex_Hp := (cb_c1.getD (none, cb_h0)).2
theorem cb_c1_is : cb_c1 = some (none, cb_h2) := by
  have h := cb_c1_ok
  cases hc : cb_c1 with
  | none => rw [hc] at h; cases h
  | some r =>
    rw [hc] at h
    have h1 : r.1 = none := congrArg (fun q : Option Value × Nat × Nat => q.1) (Option.some.inj h)
    have h2 : cb_h2 = r.2 := by unfold cb_h2; rw [hc]; rfl
    rw [h2, ← h1]
theorem cb_h2_ok : cb_h2.1 = 81 ∧ cb_h2.2.1 = 939 := by decide +kernel
theorem cb_h2_P : ∀ a, a < 81 → ∀ k, k < 40 → cb_h2.2.2.2 a k = PD 0 a k := by decide +kernel
