/-! reasoning about runs of the interpreter -/
theorem ex_run_fuel {G : ex_G} {L : Nat} {xs : Nat → Int32} : ∀ (f f' d mi pc : Nat) (lv st : List Value) (h : ex_Hp) (r : Option Value × ex_Hp), ex_run G L xs f d mi pc lv st h = some r → f ≤ f' → ex_run G L xs f' d mi pc lv st h = some r := by
  intro f
  induction f with
  | zero => intro f' d mi pc lv st h r hx; cases hx
  | succ f ih =>
    intro f' d mi pc lv st h r hx hf
    obtain ⟨g, rfl⟩ : ∃ g, f' = g + 1 := ⟨f' - 1, by omega⟩
    have hg : f ≤ g := by omega
    unfold ex_run at hx ⊢
    split at hx
    · cases hx
    · rename_i ins hl
      try rw [hl]
      try dsimp only
      split at hx
      · rename_i hs
        try rw [hs]
        exact ih _ _ _ _ _ _ _ _ hx hg
      · rename_i hs
        try rw [hs]
        try dsimp only
        split at hx
        · rename_i hr
          try rw [hr]
          exact hx
        · rename_i hr
          try rw [hr]
          try dsimp only
          split at hx
          · cases hx
          · rename_i hc
            try rw [hc]
            try dsimp only
            split at hx
            · cases hx
            · try dsimp only
              split at hx
              · cases hx
              · rename_i hrun
                rw [ih _ _ _ _ _ _ _ _ hrun hg]
                exact ih _ _ _ _ _ _ _ _ hx hg
def xx (G : ex_G) (L : Nat) (xs : Nat → Int32) (D mi pc : Nat) (lv st : List Value) (h : ex_Hp) (Q : Option Value → ex_Hp → Prop) : Prop := ∃ (f : Nat) (r : Option Value) (h' : ex_Hp), ex_run G L xs f D mi pc lv st h = some (r, h') ∧ Q r h'
/-- a whole method -/
def rn (G : ex_G) (L : Nat) (xs : Nat → Int32) (D mi : Nat) (as : List Value) (h : ex_Hp) (Q : Option Value → ex_Hp → Prop) : Prop := xx G L xs D mi 0 (ex_ent (ex_mx G mi) as) [] h Q
def ex_steps (cd : List (Nat × Instr)) : Nat → ex_Pr → Option ex_Pr
  | 0, s => some s
  | n + 1, s => match ex_look cd s.1 with
    | some ins => match ex_pure s.1 s.2.1 s.2.2 ins with
      | some s' => ex_steps cd n s'
      | none => none
    | none => none
def ex_P (k : ClassFile.Cond) (x y : Int32) : Prop := match k with
  | .eq => x = y
  | .ne => ¬ x = y
  | .lt => x < y
  | .ge => y ≤ x
  | .gt => y < x
  | .le => x ≤ y
theorem ex_P_cmp {k : ClassFile.Cond} {x y : Int32} : ex_cmp k x y = true ↔ ex_P k x y := by cases k <;> simp [ex_cmp, ex_P]
section XXS
variable {G : ex_G} {L : Nat} {xs : Nat → Int32} {D mi pc pc' : Nat} {lv st : List Value} {h h' : ex_Hp} {Q Q' : Option Value → ex_Hp → Prop}
theorem xx_imp (k : xx G L xs D mi pc lv st h Q) (hq : ∀ r h', Q r h' → Q' r h') : xx G L xs D mi pc lv st h Q' := by
  obtain ⟨f, r, h', h1, h2⟩ := k
  exact ⟨f, r, h', h1, hq _ _ h2⟩
theorem xx_step {ins : Instr} {lv' st' : List Value} (hf : ex_look (ex_cd G mi) pc = some ins) (hs : ex_step G L xs D mi pc lv st h ins = some ((pc', lv', st'), h')) (k : xx G L xs D mi pc' lv' st' h' Q) : xx G L xs D mi pc lv st h Q := by
  obtain ⟨f, r, h2, h3, h4⟩ := k
  refine ⟨f + 1, r, h2, ?_, h4⟩
  unfold ex_run
  rw [hf]
  dsimp only
  rw [hs]
  exact h3
theorem xx_pure {ins : Instr} {lv' st' : List Value} (hf : ex_look (ex_cd G mi) pc = some ins) (hp : ex_pure pc lv st ins = some (pc', lv', st')) (k : xx G L xs D mi pc' lv' st' h Q) : xx G L xs D mi pc lv st h Q :=
  xx_step hf (by unfold ex_step; rw [hp]) k
theorem xx_steps {n : Nat} {lv' st' : List Value} (hs : ex_steps (ex_cd G mi) n (pc, lv, st) = some (pc', lv', st')) (k : xx G L xs D mi pc' lv' st' h Q) : xx G L xs D mi pc lv st h Q := by
  induction n generalizing pc lv st with
  | zero => cases hs; exact k
  | succ n ih =>
    unfold ex_steps at hs
    split at hs
    · rename_i ins hl
      split at hs
      · rename_i s' hp
        obtain ⟨p1, l1, s1⟩ := s'
        exact xx_pure hl hp (ih hs)
      · cases hs
    · cases hs
theorem xx_mem {ins : Instr} {st' : List Value} (hf : ex_look (ex_cd G mi) pc = some ins) (hp : ex_pure pc lv st ins = none) (hm : ex_mem G L xs D mi st h ins = some (st', h')) (hle : h.1 ≤ h'.1 ∧ h.2.1 ≤ h'.2.1) (hpc : pc + ex_len ins = pc') (k : xx G L xs D mi pc' lv st' h' Q) : xx G L xs D mi pc lv st h Q := by
  subst hpc
  refine xx_step hf ?_ k
  unfold ex_step
  rw [hp]
  dsimp only
  rw [hm]
  dsimp only
  rw [if_pos hle]
theorem xx_get {i tag c k a : Nat} {z : Int} {v : Value} (hf : ex_look (ex_cd G mi) pc = some (.getfield i)) (hl : ex_look (ex_lt G (ex_ow G mi)) i = some (tag, c, k, z)) (ht : tag ≤ 1) (hk : ex_kd G a = (0, c)) (hn : k < ex_nf G c) (ha : a < h.1) (hv : ex_fv G h c a k = v) (hpc : pc + 3 = pc') (kk : xx G L xs D mi pc' lv (v :: st) h Q) : xx G L xs D mi pc lv (.ref a :: st) h Q := by
  refine xx_mem hf rfl (st' := v :: st) (h' := h) ?_ ⟨Nat.le_refl _, Nat.le_refl _⟩ hpc kk
  simp only [ex_mem, hl]
  rw [if_pos ht]
  show (if a < h.1 ∧ ex_kd G a = (0, c) ∧ k < ex_nf G c then some (ex_fv G h c a k :: st, h) else none) = _
  rw [if_pos ⟨ha, hk, hn⟩, hv]
theorem xx_putI {i tag c k a : Nat} {z : Int} {v : Int32} (hf : ex_look (ex_cd G mi) pc = some (.putfield i)) (hl : ex_look (ex_lt G (ex_ow G mi)) i = some (tag, c, k, z)) (ht : (tag = 0 ∨ tag = 1 ∧ z = 0) ∧ (z = 0 ∨ z = 1 ∧ ex_ow G mi = c ∧ ex_rt G mi = 5)) (hk : ex_kd G a = (0, c)) (hn : k < ex_nf G c) (ha : a < h.1) (hv : ex_fk G c k = 0 ∨ ex_fk G c k = 1 ∧ ex_b01 v = true) (hpc : pc + 3 = pc') (kk : xx G L xs D mi pc' lv st (ex_hI h a k v) Q) : xx G L xs D mi pc lv (.int v :: .ref a :: st) h Q := by
  refine xx_mem hf rfl (st' := st) (h' := ex_hI h a k v) ?_ ⟨Nat.le_refl _, Nat.le_refl _⟩ hpc kk
  simp only [ex_mem, hl]
  rw [if_pos ht, if_neg (by rcases hv with q | ⟨q, -⟩ <;> rw [q] <;> decide)]
  show (if a < h.1 ∧ ex_kd G a = (0, c) ∧ k < ex_nf G c ∧ (ex_fk G c k = 0 ∨ ex_fk G c k = 1 ∧ ex_b01 v = true) then some (st, ex_hI h a k v) else none) = _
  rw [if_pos ⟨ha, hk, hn, hv⟩]
theorem xx_putP {i tag c k a : Nat} {z : Int} {v : Option Nat} (hf : ex_look (ex_cd G mi) pc = some (.putfield i)) (hl : ex_look (ex_lt G (ex_ow G mi)) i = some (tag, c, k, z)) (ht : (tag = 0 ∨ tag = 1 ∧ z = 0) ∧ (z = 0 ∨ z = 1 ∧ ex_ow G mi = c ∧ ex_rt G mi = 5)) (hk : ex_kd G a = (0, c)) (hn : k < ex_nf G c) (ha : a < h.1) (hv : ex_fk G c k = 2) (hpc : pc + 3 = pc') (kk : xx G L xs D mi pc' lv st (ex_hP h a k v) Q) : xx G L xs D mi pc lv (va_rf v :: .ref a :: st) h Q := by
  refine xx_mem hf rfl (st' := st) (h' := ex_hP h a k v) ?_ ⟨Nat.le_refl _, Nat.le_refl _⟩ hpc kk
  simp only [ex_mem, hl]
  rw [if_pos ht, if_pos hv]
  cases v with
  | none =>
    show (if a < h.1 ∧ ex_kd G a = (0, c) ∧ k < ex_nf G c then some (st, ex_hP h a k none) else none) = _
    rw [if_pos ⟨ha, hk, hn⟩]
  | some w =>
    show (if a < h.1 ∧ ex_kd G a = (0, c) ∧ k < ex_nf G c then some (st, ex_hP h a k (some w)) else none) = _
    rw [if_pos ⟨ha, hk, hn⟩]
theorem ex_in_nI {j n : Nat} (hj : j < n) (hn : n < 2 ^ 31) : ex_in (nI j) n = true := decide_eq_true (nI_in hj hn)
theorem xx_iald {a j n : Nat} {i v : Int32} (hf : ex_look (ex_cd G mi) pc = some .iaload) (hk : ex_kd G a = (1, n)) (ha : a < h.1) (has : a < ex_scr) (hi : i = nI j) (hj : j < n) (hn : n < 2 ^ 31) (hv : h.2.2.1 a j = v) (hpc : pc + 1 = pc') (kk : xx G L xs D mi pc' lv (.int v :: st) h Q) : xx G L xs D mi pc lv (.int i :: .ref a :: st) h Q := by
  subst hi
  refine xx_mem hf rfl (st' := .int v :: st) (h' := h) ?_ ⟨Nat.le_refl _, Nat.le_refl _⟩ hpc kk
  show (if a = ex_scr then (if ex_in (nI j) (L - 1) = true then some (Value.int (xs (nI j).toNatClampNeg) :: st, h) else none) else if a < h.1 ∧ (ex_kd G a).1 = 1 ∧ ex_in (nI j) (ex_kd G a).2 = true then some (.int (h.2.2.1 a (nI j).toNatClampNeg) :: st, h) else none) = _
  rw [if_neg (by omega), hk, if_pos ⟨ha, rfl, ex_in_nI hj hn⟩, nI_clamp (by omega), hv]
theorem xx_sld {j : Nat} {i : Int32} (hf : ex_look (ex_cd G mi) pc = some .iaload) (hi : i = nI j) (hj : j < L) (hn : L < 2 ^ 31) (hpc : pc + 1 = pc') (kk : xx G (L + 1) xs D mi pc' lv (.int (xs j) :: st) h Q) : xx G (L + 1) xs D mi pc lv (.int i :: .ref ex_scr :: st) h Q := by
  subst hi
  refine xx_mem hf rfl (st' := .int (xs j) :: st) (h' := h) ?_ ⟨Nat.le_refl _, Nat.le_refl _⟩ hpc kk
  show (if ex_scr = ex_scr then (if ex_in (nI j) L = true then some (Value.int (xs (nI j).toNatClampNeg) :: st, h) else none) else if ex_scr < h.1 ∧ (ex_kd G ex_scr).1 = 1 ∧ ex_in (nI j) (ex_kd G ex_scr).2 = true then some (.int (h.2.2.1 ex_scr (nI j).toNatClampNeg) :: st, h) else none) = _
  rw [if_pos rfl, if_pos (ex_in_nI hj hn), nI_clamp (by omega)]
theorem xx_slen (hf : ex_look (ex_cd G mi) pc = some .arraylength) (hpc : pc + 1 = pc') (kk : xx G (L + 1) xs D mi pc' lv (.int (nI L) :: st) h Q) : xx G (L + 1) xs D mi pc lv (.ref ex_scr :: st) h Q := by
  refine xx_mem hf rfl (st' := .int (nI L) :: st) (h' := h) ?_ ⟨Nat.le_refl _, Nat.le_refl _⟩ hpc kk
  show (if ex_scr = ex_scr then (if L + 1 = 0 then none else some (Value.int (nI L) :: st, h)) else if ex_scr < h.1 ∧ 1 ≤ (ex_kd G ex_scr).1 then some (.int (nI (ex_kd G ex_scr).2) :: st, h) else none) = _
  rw [if_pos rfl, if_neg (Nat.succ_ne_zero L)]
theorem xx_alen {a k n : Nat} (hf : ex_look (ex_cd G mi) pc = some .arraylength) (hk : ex_kd G a = (k + 1, n)) (ha : a < h.1) (has : a < ex_scr) (hpc : pc + 1 = pc') (kk : xx G L xs D mi pc' lv (.int (nI n) :: st) h Q) : xx G L xs D mi pc lv (.ref a :: st) h Q := by
  refine xx_mem hf rfl (st' := .int (nI n) :: st) (h' := h) ?_ ⟨Nat.le_refl _, Nat.le_refl _⟩ hpc kk
  show (if a = ex_scr then (if L = 0 then none else some (Value.int (nI (L - 1)) :: st, h)) else if a < h.1 ∧ 1 ≤ (ex_kd G a).1 then some (.int (nI (ex_kd G a).2) :: st, h) else none) = _
  rw [if_neg (by omega), hk, if_pos ⟨ha, by show 1 ≤ k + 1; omega⟩]
theorem xx_zald {a j n : Nat} {i v : Int32} (hf : ex_look (ex_cd G mi) pc = some .baload) (hk : ex_kd G a = (2, n)) (ha : a < h.1) (hi : i = nI j) (hj : j < n) (hn : n < 2 ^ 31) (hv : h.2.2.1 a j = v) (hpc : pc + 1 = pc') (kk : xx G L xs D mi pc' lv (.int v :: st) h Q) : xx G L xs D mi pc lv (.int i :: .ref a :: st) h Q := by
  subst hi
  refine xx_mem hf rfl (st' := .int v :: st) (h' := h) ?_ ⟨Nat.le_refl _, Nat.le_refl _⟩ hpc kk
  show (if a < h.1 ∧ (ex_kd G a).1 = 2 ∧ ex_in (nI j) (ex_kd G a).2 = true then some (Value.int (h.2.2.1 a (nI j).toNatClampNeg) :: st, h) else none) = _
  rw [hk, if_pos ⟨ha, rfl, ex_in_nI hj hn⟩, nI_clamp (by omega), hv]
theorem xx_aald {a j n t : Nat} {i : Int32} {v : Value} (hf : ex_look (ex_cd G mi) pc = some .aaload) (hk : ex_kd G a = (t + 3, n)) (ha : a < h.1) (hi : i = nI j) (hj : j < n) (hn : n < 2 ^ 31) (hv : va_rf (h.2.2.2 a j) = v) (hpc : pc + 1 = pc') (kk : xx G L xs D mi pc' lv (v :: st) h Q) : xx G L xs D mi pc lv (.int i :: .ref a :: st) h Q := by
  subst hi
  refine xx_mem hf rfl (st' := v :: st) (h' := h) ?_ ⟨Nat.le_refl _, Nat.le_refl _⟩ hpc kk
  show (if a < h.1 ∧ 3 ≤ (ex_kd G a).1 ∧ ex_in (nI j) (ex_kd G a).2 = true then some (va_rf (h.2.2.2 a (nI j).toNatClampNeg) :: st, h) else none) = _
  rw [hk, if_pos ⟨ha, by show 3 ≤ t + 3; omega, ex_in_nI hj hn⟩, nI_clamp (by omega), hv]
theorem xx_iast {a j n : Nat} {i v : Int32} (hf : ex_look (ex_cd G mi) pc = some .iastore) (hk : ex_kd G a = (1, n)) (ha : a < h.1) (hi : i = nI j) (hj : j < n) (hn : n < 2 ^ 31) (hpc : pc + 1 = pc') (kk : xx G L xs D mi pc' lv st (ex_hI h a j v) Q) : xx G L xs D mi pc lv (.int v :: .int i :: .ref a :: st) h Q := by
  subst hi
  refine xx_mem hf rfl (st' := st) (h' := ex_hI h a j v) ?_ ⟨Nat.le_refl _, Nat.le_refl _⟩ hpc kk
  show (if a < h.1 ∧ (ex_kd G a).1 = 1 ∧ ex_in (nI j) (ex_kd G a).2 = true then some (st, ex_hI h a (nI j).toNatClampNeg v) else none) = _
  rw [hk, if_pos ⟨ha, rfl, ex_in_nI hj hn⟩, nI_clamp (by omega)]
theorem xx_zast {a j n : Nat} {i v : Int32} (hf : ex_look (ex_cd G mi) pc = some .bastore) (hk : ex_kd G a = (2, n)) (ha : a < h.1) (hi : i = nI j) (hj : j < n) (hn : n < 2 ^ 31) (hv : ex_b01 v = true) (hpc : pc + 1 = pc') (kk : xx G L xs D mi pc' lv st (ex_hI h a j v) Q) : xx G L xs D mi pc lv (.int v :: .int i :: .ref a :: st) h Q := by
  subst hi
  refine xx_mem hf rfl (st' := st) (h' := ex_hI h a j v) ?_ ⟨Nat.le_refl _, Nat.le_refl _⟩ hpc kk
  show (if a < h.1 ∧ (ex_kd G a).1 = 2 ∧ ex_in (nI j) (ex_kd G a).2 = true ∧ ex_b01 v = true then some (st, ex_hI h a (nI j).toNatClampNeg v) else none) = _
  rw [hk, if_pos ⟨ha, rfl, ex_in_nI hj hn, hv⟩, nI_clamp (by omega)]
theorem xx_aast {a x j n t : Nat} {i : Int32} (hf : ex_look (ex_cd G mi) pc = some .aastore) (hk : ex_kd G a = (3 + t, n)) (ha : a < h.1) (hx : x < h.1) (hkx : ex_kd G x = (0, t)) (hi : i = nI j) (hj : j < n) (hn : n < 2 ^ 31) (hpc : pc + 1 = pc') (kk : xx G L xs D mi pc' lv st (ex_hP h a j (some x)) Q) : xx G L xs D mi pc lv (.ref x :: .int i :: .ref a :: st) h Q := by
  subst hi
  refine xx_mem hf rfl (st' := st) (h' := ex_hP h a j (some x)) ?_ ⟨Nat.le_refl _, Nat.le_refl _⟩ hpc kk
  show (if a < h.1 ∧ x < h.1 ∧ (ex_kd G a).1 = 3 + (ex_kd G x).2 ∧ (ex_kd G x).1 = 0 ∧ ex_in (nI j) (ex_kd G a).2 = true then some (st, ex_hP h a (nI j).toNatClampNeg (some x)) else none) = _
  rw [hk, hkx, if_pos ⟨ha, hx, rfl, rfl, ex_in_nI hj hn⟩, nI_clamp (by omega)]
theorem xx_new {i c k : Nat} {z : Int} (hf : ex_look (ex_cd G mi) pc = some (.new i)) (hl : ex_look (ex_lt G (ex_ow G mi)) i = some (9, c, k, z)) (hz : h.1 < ex_scr) (hk : ex_kd G h.1 = (0, c)) (hpc : pc + 3 = pc') (kk : xx G L xs D mi pc' lv (.ref h.1 :: st) (ex_hN h (ex_nf G c)) Q) : xx G L xs D mi pc lv st h Q := by
  refine xx_mem hf rfl (st' := .ref h.1 :: st) (h' := ex_hN h (ex_nf G c)) ?_ ⟨Nat.le_succ _, Nat.le_add_right _ _⟩ hpc kk
  simp only [ex_mem, hl]
  rw [if_pos ⟨trivial, hz, hk⟩]
theorem xx_newI {n : Nat} {i : Int32} (hf : ex_look (ex_cd G mi) pc = some (.newarray .int)) (hi : i = nI n) (hn : n ≤ 1000) (hz : h.1 < ex_scr) (hk : ex_kd G h.1 = (1, n)) (hpc : pc + 2 = pc') (kk : xx G L xs D mi pc' lv (.ref h.1 :: st) (ex_hN h n) Q) : xx G L xs D mi pc lv (.int i :: st) h Q := by
  subst hi
  refine xx_mem hf rfl (st' := .ref h.1 :: st) (h' := ex_hN h n) ?_ ⟨Nat.le_succ _, Nat.le_add_right _ _⟩ hpc kk
  show (if ¬ nI n < 0 ∧ (nI n).toNatClampNeg ≤ 1000 ∧ h.1 < ex_scr ∧ (ArrayType.int = .int ∧ ex_kd G h.1 = (1, (nI n).toNatClampNeg) ∨ ArrayType.int = .boolean ∧ ex_kd G h.1 = (2, (nI n).toNatClampNeg)) then some (Value.ref h.1 :: st, ex_hN h (nI n).toNatClampNeg) else none) = _
  rw [nI_clamp (by omega), if_pos ⟨nI_pos (by omega), hn, hz, Or.inl ⟨rfl, hk⟩⟩]
theorem xx_max {i c k : Nat} {z : Int} {x y v : Int32} (hf : ex_look (ex_cd G mi) pc = some (.invokestatic i)) (hl : ex_look (ex_lt G (ex_ow G mi)) i = some (14, c, k, z)) (hu : (st.map fun v => v.category).sum ≤ 8) (hv : (if x < y then y else x) = v) (hpc : pc + 3 = pc') (kk : xx G L xs (D + 1) mi pc' lv (.int v :: st) h Q) : xx G L xs (D + 1) mi pc lv (.int y :: .int x :: st) h Q := by
  refine xx_mem hf rfl (st' := .int v :: st) (h' := h) ?_ ⟨Nat.le_refl _, Nat.le_refl _⟩ hpc kk
  simp only [ex_mem, hl]
  rw [if_neg (by omega), if_pos ⟨trivial, by omega⟩]
  show (if (st.map fun v => v.category).sum ≤ 8 then some (Value.int (if x < y then y else x) :: st, h) else none) = _
  rw [if_pos hu, hv]
theorem xx_obj {i c k a : Nat} {z : Int} (hf : ex_look (ex_cd G mi) pc = some (.invokespecial i)) (hl : ex_look (ex_lt G (ex_ow G mi)) i = some (8, c, k, z)) (hu : (st.map fun v => v.category).sum ≤ 8) (hpc : pc + 3 = pc') (kk : xx G L xs (D + 1) mi pc' lv st h Q) : xx G L xs (D + 1) mi pc lv (.ref a :: st) h Q := by
  refine xx_mem hf rfl (st' := st) (h' := h) ?_ ⟨Nat.le_refl _, Nat.le_refl _⟩ hpc kk
  simp only [ex_mem, hl]
  rw [if_pos ⟨trivial, by omega⟩]
  show (if (st.map fun v => v.category).sum ≤ 8 then some (st, h) else none) = _
  rw [if_pos hu]
theorem xx_copy {i c k a a0 n0 n1 jn jd js : Nat} {z : Int} {n dp sp : Int32} (hf : ex_look (ex_cd G mi) pc = some (.invokestatic i)) (hl : ex_look (ex_lt G (ex_ow G mi)) i = some (13, c, k, z)) (hk0 : ex_kd G a0 = (1, n0)) (hk : ex_kd G a = (1, n1)) (ha : a < h.1) (ha0 : a0 < h.1) (hn : n = nI jn) (hd : dp = nI jd) (hs : sp = nI js) (h1 : js + jn ≤ n0) (h2 : jd + jn ≤ n1) (hn0 : n0 < 2 ^ 31) (hn1 : n1 < 2 ^ 31) (hu : (st.map fun v => v.category).sum ≤ 8) (hpc : pc + 3 = pc')
    (kk : xx G L xs (D + 1) mi pc' lv st (h.1, h.2.1, ex_copy h.2.2.1 a0 js a jd jn, h.2.2.2) Q) : xx G L xs (D + 1) mi pc lv (.int n :: .int dp :: .ref a :: .int sp :: .ref a0 :: st) h Q := by
  subst hn; subst hd; subst hs
  refine xx_mem hf rfl (st' := st) (h' := (h.1, h.2.1, ex_copy h.2.2.1 a0 js a jd jn, h.2.2.2)) ?_ ⟨Nat.le_refl _, Nat.le_refl _⟩ hpc kk
  simp only [ex_mem, hl]
  rw [if_pos ⟨trivial, by omega⟩]
  show (if (st.map fun v => v.category).sum ≤ 8 ∧ a < h.1 ∧ a0 < h.1 ∧ (ex_kd G a).1 = 1 ∧ (ex_kd G a0).1 = 1 ∧ ¬ nI js < 0 ∧ ¬ nI jd < 0 ∧ ¬ nI jn < 0 ∧ (nI js).toNatClampNeg + (nI jn).toNatClampNeg ≤ (ex_kd G a0).2 ∧ (nI jd).toNatClampNeg + (nI jn).toNatClampNeg ≤ (ex_kd G a).2 then some (st, h.1, h.2.1, ex_copy h.2.2.1 a0 (nI js).toNatClampNeg a (nI jd).toNatClampNeg (nI jn).toNatClampNeg, h.2.2.2) else none) = _
  rw [nI_clamp (n := js) (by omega), nI_clamp (n := jd) (by omega), nI_clamp (n := jn) (by omega), hk, hk0]
  rw [if_pos ⟨hu, ha, ha0, rfl, rfl, nI_pos (by omega), nI_pos (by omega), nI_pos (by omega), h1, h2⟩]
theorem xx_ldc {i c k : Nat} {z : Int} {v : Int32} (hf : ex_look (ex_cd G mi) pc = some (.ldc i)) (hl : ex_look (ex_lt G (ex_ow G mi)) i = some (11, c, k, z)) (hv : Int32.ofInt z = v) (hpc : pc + 2 = pc') (kk : xx G L xs D mi pc' lv (.int v :: st) h Q) : xx G L xs D mi pc lv st h Q := by
  refine xx_mem hf rfl (st' := .int v :: st) (h' := h) ?_ ⟨Nat.le_refl _, Nat.le_refl _⟩ hpc kk
  simp only [ex_mem, hl, if_true, hv]
theorem xx_ldcw {i c k : Nat} {z : Int} {v : Int32} (hf : ex_look (ex_cd G mi) pc = some (.ldc_w i)) (hl : ex_look (ex_lt G (ex_ow G mi)) i = some (11, c, k, z)) (hv : Int32.ofInt z = v) (hpc : pc + 3 = pc') (kk : xx G L xs D mi pc' lv (.int v :: st) h Q) : xx G L xs D mi pc lv st h Q := by
  refine xx_mem hf rfl (st' := .int v :: st) (h' := h) ?_ ⟨Nat.le_refl _, Nat.le_refl _⟩ hpc kk
  simp only [ex_mem, hl, if_true, hv]
theorem xx_ldc2 {i c k : Nat} {z : Int} {v : Int64} (hf : ex_look (ex_cd G mi) pc = some (.ldc2_w i)) (hl : ex_look (ex_lt G (ex_ow G mi)) i = some (12, c, k, z)) (hv : Int64.ofInt z = v) (hpc : pc + 3 = pc') (kk : xx G L xs D mi pc' lv (.long v :: st) h Q) : xx G L xs D mi pc lv st h Q := by
  refine xx_mem hf rfl (st' := .long v :: st) (h' := h) ?_ ⟨Nat.le_refl _, Nat.le_refl _⟩ hpc kk
  simp only [ex_mem, hl, if_true, hv]
theorem xx_if {k : ClassFile.Cond} {off : Int} {x : Int32} {tg : Nat} (hf : ex_look (ex_cd G mi) pc = some (.ifCond k off)) (hj : ex_jump pc off = some tg) (hpc : pc + 3 = pc') (kt : ex_P k x 0 → xx G L xs D mi tg lv st h Q) (kf : ¬ ex_P k x 0 → xx G L xs D mi pc' lv st h Q) : xx G L xs D mi pc lv (.int x :: st) h Q := by
  subst hpc
  have hp : ex_pure pc lv (.int x :: st) (.ifCond k off) = some (if ex_cmp k x 0 = true then tg else pc + 3, lv, st) := by
    show ex_br (ex_cmp k x 0) pc off lv st = _
    unfold ex_br
    rw [hj]
  by_cases hc : ex_P k x 0
  · rw [if_pos (ex_P_cmp.mpr hc)] at hp
    exact xx_pure hf hp (kt hc)
  · rw [if_neg (fun q => hc (ex_P_cmp.mp q))] at hp
    exact xx_pure hf hp (kf hc)
theorem xx_icmp {k : ClassFile.Cond} {off : Int} {x y : Int32} {tg : Nat} (hf : ex_look (ex_cd G mi) pc = some (.if_icmp k off)) (hj : ex_jump pc off = some tg) (hpc : pc + 3 = pc') (kt : ex_P k x y → xx G L xs D mi tg lv st h Q) (kf : ¬ ex_P k x y → xx G L xs D mi pc' lv st h Q) : xx G L xs D mi pc lv (.int y :: .int x :: st) h Q := by
  subst hpc
  have hp : ex_pure pc lv (.int y :: .int x :: st) (.if_icmp k off) = some (if ex_cmp k x y = true then tg else pc + 3, lv, st) := by
    show ex_br (ex_cmp k x y) pc off lv st = _
    unfold ex_br
    rw [hj]
  by_cases hc : ex_P k x y
  · rw [if_pos (ex_P_cmp.mpr hc)] at hp
    exact xx_pure hf hp (kt hc)
  · rw [if_neg (fun q => hc (ex_P_cmp.mp q))] at hp
    exact xx_pure hf hp (kf hc)
theorem xx_ret {ins : Instr} {r : Option Value} (hf : ex_look (ex_cd G mi) pc = some ins) (hp : ex_pure pc lv st ins = none) (hm : ex_mem G L xs D mi st h ins = none) (hr : ex_ret G mi st ins = some r) (hq : Q r h) : xx G L xs D mi pc lv st h Q := by
  refine ⟨1, r, h, ?_, hq⟩
  unfold ex_run
  rw [hf]
  dsimp only
  have : ex_step G L xs D mi pc lv st h ins = none := by unfold ex_step; rw [hp]; dsimp only; rw [hm]
  rw [this]
  dsimp only
  rw [hr]
theorem xx_ireturn {x : Int32} (hf : ex_look (ex_cd G mi) pc = some .ireturn) (hr : ex_rt G mi = 1) (hq : Q (some (.int x)) h) : xx G L xs D mi pc lv [.int x] h Q := by
  refine xx_ret hf rfl rfl (r := some (.int x)) ?_ hq
  show (if ex_rt G mi = 1 ∨ ex_rt G mi = 2 ∧ ex_b01 x = true then some (some (Value.int x)) else none) = _
  rw [if_pos (Or.inl hr)]
theorem xx_zreturn {x : Int32} (hf : ex_look (ex_cd G mi) pc = some .ireturn) (hr : ex_rt G mi = 2) (hb : ex_b01 x = true) (hq : Q (some (.int x)) h) : xx G L xs D mi pc lv [.int x] h Q := by
  refine xx_ret hf rfl rfl (r := some (.int x)) ?_ hq
  show (if ex_rt G mi = 1 ∨ ex_rt G mi = 2 ∧ ex_b01 x = true then some (some (Value.int x)) else none) = _
  rw [if_pos (Or.inr ⟨hr, hb⟩)]
theorem xx_lreturn {x : Int64} (hf : ex_look (ex_cd G mi) pc = some .lreturn) (hr : ex_rt G mi = 3) (hq : Q (some (.long x)) h) : xx G L xs D mi pc lv [.long x] h Q := by
  refine xx_ret hf rfl rfl (r := some (.long x)) ?_ hq
  show (if ex_rt G mi = 3 then some (some (Value.long x)) else none) = _
  rw [if_pos hr]
theorem xx_areturn {x : Option Nat} (hf : ex_look (ex_cd G mi) pc = some .areturn) (hr : ex_rt G mi = 4) (hq : Q (some (va_rf x)) h) : xx G L xs D mi pc lv [va_rf x] h Q := by
  refine xx_ret hf rfl rfl (r := some (va_rf x)) ?_ hq
  cases x with
  | none =>
    show (if ex_rt G mi = 4 then some (some Value.null) else none) = _
    rw [if_pos hr]; rfl
  | some a =>
    show (if ex_rt G mi = 4 then some (some (Value.ref a)) else none) = _
    rw [if_pos hr]; rfl
theorem xx_return (hf : ex_look (ex_cd G mi) pc = some .return_) (hr : ex_rt G mi = 0 ∨ ex_rt G mi = 5) (hq : Q none h) : xx G L xs D mi pc lv [] h Q := by
  refine xx_ret hf rfl rfl (r := none) ?_ hq
  show (if ex_rt G mi = 0 ∨ ex_rt G mi = 5 then some none else none) = _
  rw [if_pos hr]
theorem xx_callG {ins : Instr} {y : Nat} {as u : List Value} {Qy : Option Value → ex_Hp → Prop} (hf : ex_look (ex_cd G mi) pc = some ins) (hp : ex_pure pc lv st ins = none) (hm : ex_mem G L xs (D + 1) mi st h ins = none) (hr : ex_ret G mi st ins = none) (hc : ex_call G mi st h ins = some (y, as, u)) (hpc : pc + 3 = pc')
    (hy : rn G L xs D y as h Qy) (kk : ∀ r h', Qy r h' → xx G L xs (D + 1) mi pc' lv (r.toList ++ u) h' Q) : xx G L xs (D + 1) mi pc lv st h Q := by
  subst hpc
  obtain ⟨f1, r1, h1, g1, g2⟩ := hy
  obtain ⟨f2, r2, h2, g3, g4⟩ := kk r1 h1 g2
  refine ⟨max f1 f2 + 1, r2, h2, ?_, g4⟩
  have e1 := ex_run_fuel _ (max f1 f2) _ _ _ _ _ _ _ g1 (Nat.le_max_left _ _)
  have e2 := ex_run_fuel _ (max f1 f2) _ _ _ _ _ _ _ g3 (Nat.le_max_right _ _)
  unfold ex_run
  rw [hf]
  dsimp only
  have : ex_step G L xs (D + 1) mi pc lv st h ins = none := by unfold ex_step; rw [hp]; dsimp only; rw [hm]
  rw [this]
  dsimp only
  rw [hr]
  dsimp only
  rw [hc]
  dsimp only
  rw [e1]
  exact e2
theorem xx_callV {i tag y n a : Nat} {z : Int} {as u : List Value} {Qy : Option Value → ex_Hp → Prop} (hf : ex_look (ex_cd G mi) pc = some (.invokevirtual i)) (hl : ex_look (ex_lt G (ex_ow G mi)) i = some (tag, y, n, z)) (ht : tag = 2 ∨ tag = 3) (hst : ex_args n st = some (as, .ref a :: u)) (hk : ex_kd G a = (0, ex_ow G y)) (ha : a < h.1) (hu : (u.map fun v => v.category).sum ≤ 8) (hfit : ex_fit G y (.ref a :: as) = true) (hpc : pc + 3 = pc')
    (hy : rn G L xs D y (.ref a :: as) h Qy) (kk : ∀ r h', Qy r h' → xx G L xs (D + 1) mi pc' lv (r.toList ++ u) h' Q) : xx G L xs (D + 1) mi pc lv st h Q := by
  refine xx_callG hf rfl rfl rfl (y := y) (as := .ref a :: as) (u := u) ?_ hpc hy kk
  simp only [ex_call, hl]
  rw [if_pos ht, hst]
  show (if a < h.1 ∧ ex_kd G a = (0, ex_ow G y) ∧ (u.map fun v => v.category).sum ≤ 8 ∧ ex_fit G y (.ref a :: as) = true then some (y, Value.ref a :: as, u) else none) = _
  rw [if_pos ⟨ha, hk, hu, hfit⟩]
theorem xx_callI {i tag y n a : Nat} {z : Int} {as u : List Value} {Qy : Option Value → ex_Hp → Prop} (hf : ex_look (ex_cd G mi) pc = some (.invokespecial i)) (hl : ex_look (ex_lt G (ex_ow G mi)) i = some (tag, y, n, z)) (ht : tag = 6 ∨ tag = 7) (hst : ex_args n st = some (as, .ref a :: u)) (hu : (u.map fun v => v.category).sum ≤ 8) (hfit : ex_fit G y (.ref a :: as) = true) (hpc : pc + 3 = pc')
    (hy : rn G L xs D y (.ref a :: as) h Qy) (kk : ∀ r h', Qy r h' → xx G L xs (D + 1) mi pc' lv (r.toList ++ u) h' Q) : xx G L xs (D + 1) mi pc lv st h Q := by
  have hm : ex_mem G L xs (D + 1) mi st h (.invokespecial i) = none := by
    simp only [ex_mem, hl]
    rw [if_neg (by omega)]
  refine xx_callG hf rfl hm rfl (y := y) (as := .ref a :: as) (u := u) ?_ hpc hy kk
  simp only [ex_call, hl]
  rw [if_pos ht, hst]
  show (if (u.map fun v => v.category).sum ≤ 8 ∧ ex_fit G y (.ref a :: as) = true then some (y, Value.ref a :: as, u) else none) = _
  rw [if_pos ⟨hu, hfit⟩]
theorem xx_callS {i tag y n : Nat} {z : Int} {as u : List Value} {Qy : Option Value → ex_Hp → Prop} (hf : ex_look (ex_cd G mi) pc = some (.invokestatic i)) (hl : ex_look (ex_lt G (ex_ow G mi)) i = some (tag, y, n, z)) (ht : tag = 4 ∨ tag = 5) (hst : ex_args n st = some (as, u)) (hu : (u.map fun v => v.category).sum ≤ 8) (hfit : ex_fit G y as = true) (hpc : pc + 3 = pc')
    (hy : rn G L xs D y as h Qy) (kk : ∀ r h', Qy r h' → xx G L xs (D + 1) mi pc' lv (r.toList ++ u) h' Q) : xx G L xs (D + 1) mi pc lv st h Q := by
  have hm : ex_mem G L xs (D + 1) mi st h (.invokestatic i) = none := by
    simp only [ex_mem, hl]
    rw [if_neg (by omega), if_neg (by omega)]
  refine xx_callG hf rfl hm rfl (y := y) (as := as) (u := u) ?_ hpc hy kk
  simp only [ex_call, hl]
  rw [if_pos ht, hst]
  show (if (u.map fun v => v.category).sum ≤ 8 ∧ ex_fit G y as = true then some (y, as, u) else none) = _
  rw [if_pos ⟨hu, hfit⟩]
/-- the choice of one of two constants -/
theorem xx_tern {k : ClassFile.Cond} {off off2 : Int} {x v1 v2 : Int32} {i1 i2 : Instr} {q1 q2 q3 : Nat} (hf : ex_look (ex_cd G mi) pc = some (.ifCond k off)) (hj : ex_jump pc off = some q2) (h1 : ex_look (ex_cd G mi) (pc + 3) = some i1) (e1 : ex_pure (pc + 3) lv st i1 = some (q1, lv, .int v1 :: st)) (hg : ex_look (ex_cd G mi) q1 = some (.goto off2)) (hj2 : ex_jump q1 off2 = some q3)
    (h2 : ex_look (ex_cd G mi) q2 = some i2) (e2 : ex_pure q2 lv st i2 = some (q3, lv, .int v2 :: st)) (kk : ∀ v : Int32, (ex_P k x 0 ∧ v = v2 ∨ ¬ ex_P k x 0 ∧ v = v1) → xx G L xs D mi q3 lv (.int v :: st) h Q) : xx G L xs D mi pc lv (.int x :: st) h Q := by
  refine xx_if hf hj rfl (fun hc => xx_pure h2 e2 (kk _ (Or.inl ⟨hc, rfl⟩))) (fun hc => xx_pure h1 e1 (xx_pure hg ?_ (kk _ (Or.inr ⟨hc, rfl⟩))))
  show ex_to q1 off2 lv (.int v1 :: st) = _
  unfold ex_to
  rw [hj2]
end XXS
