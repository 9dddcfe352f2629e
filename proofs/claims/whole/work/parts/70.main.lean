theorem ex_sl_len (vs : List Value) : (lg_sl vs).length = (vs.map fun v => v.category).sum := by
  induction vs with
  | nil => rfl
  | cons v t ih =>
    have e1 : lg_sl (v :: t) = (if v.category = 2 then [Slot.val v, .second] else [.val v]) ++ lg_sl t := by simp [lg_sl]
    rw [e1, List.length_append, ih, List.map_cons, List.sum_cons]
    rcases lv_cat v with h | h <;> simp [h]
theorem ex_ent_len (vs : List Value) : ∀ n, (vs.map fun v => v.category).sum ≤ n → (ex_ent n vs).length = n := by
  induction vs with
  | nil => intro n _; simp [ex_ent]
  | cons v t ih =>
    intro n hn
    rw [List.map_cons, List.sum_cons] at hn
    unfold ex_ent
    rcases lv_cat v with h | h
    · rw [if_neg (by omega), List.length_cons, ih (n - 1) (by omega)]; omega
    · rw [if_pos h, List.length_cons, List.length_cons, ih (n - 2) (by omega)]; omega
theorem ex_ent_get {ad : Nat → Nat} (vs : List Value) : ∀ (n i j : Nat) (w : Value), (ex_ent n vs)[j]? = some w → w ≠ ex_no → (i + j, ex_rv ad w) ∈ lv_args i (vs.map (ex_rv ad)) := by
  induction vs with
  | nil =>
    intro n i j w h hw
    have := List.mem_of_getElem? h
    exact absurd (List.eq_of_mem_replicate this) hw
  | cons v t ih =>
    intro n i j w h hw
    rw [List.map_cons]
    unfold lv_args
    rw [ex_rv_cat]
    unfold ex_ent at h
    by_cases hc : v.category = 2
    · rw [if_pos hc] at h
      match j with
      | 0 => cases h; exact List.mem_cons_self
      | 1 => cases h; exact absurd rfl hw
      | j + 2 =>
        refine List.mem_cons_of_mem _ ?_
        rw [if_pos hc]
        have := ih (n - 2) (i + 2) j w h hw
        rw [show i + (j + 2) = i + 2 + j by omega]
        exact this
    · rw [if_neg hc] at h
      match j with
      | 0 => cases h; exact List.mem_cons_self
      | j + 1 =>
        refine List.mem_cons_of_mem _ ?_
        rw [if_neg hc]
        have := ih (n - 1) (i + 1) j w h hw
        rw [show i + (j + 1) = i + 1 + j by omega]
        exact this
theorem ex_entry {ad : Nat → Nat} {vs : List Value} {n : Nat} (h : (vs.map fun v => v.category).sum ≤ n) : ex_LV ad ((lg_sl (vs.map (ex_rv ad)) ++ List.replicate (n - (lg_sl (vs.map (ex_rv ad))).length) Slot.unset).toArray) n (ex_ent n vs) := by
  have hl : (lg_sl (vs.map (ex_rv ad))).length ≤ n := by rw [ex_sl_len, ex_cat_sum]; exact h
  obtain ⟨h1, h2, h3⟩ := lv_entry (vs.map (ex_rv ad)) hl
  refine ⟨ex_ent_len vs n h, h1, h2, fun q hq => h3 q ?_⟩
  obtain ⟨w, g1, g2, g3⟩ := ex_kn_to hq
  obtain ⟨j, v⟩ := q
  dsimp only at g1 g3
  subst g3
  have := ex_ent_get (ad := ad) vs n 0 j w g1 g2
  rw [Nat.zero_add] at this
  exact this
theorem ex_step_mono {G : ex_G} {L : Nat} {xs : Nat → Int32} {d mi pc : Nat} {lv st : List Value} {h h' : ex_Hp} {ins : Instr} {r : ex_Pr} (hx : ex_step G L xs d mi pc lv st h ins = some (r, h')) : h.1 ≤ h'.1 ∧ h.2.1 ≤ h'.2.1 := by
  unfold ex_step at hx
  split at hx
  · cases hx; exact ⟨Nat.le_refl _, Nat.le_refl _⟩
  · split at hx
    · split at hx
      · cases hx; assumption
      · cases hx
    · cases hx
theorem ex_run_mono {G : ex_G} {L : Nat} {xs : Nat → Int32} : ∀ (f d mi pc : Nat) (lv st : List Value) (h : ex_Hp) (r : Option Value) (h' : ex_Hp), ex_run G L xs f d mi pc lv st h = some (r, h') → h.1 ≤ h'.1 ∧ h.2.1 ≤ h'.2.1 := by
  intro f
  induction f with
  | zero => intro d mi pc lv st h r h' hx; cases hx
  | succ f ih =>
    intro d mi pc lv st h r h' hx
    unfold ex_run at hx
    split at hx
    · cases hx
    · split at hx
      · rename_i hst
        have h1 := ex_step_mono hst
        have h2 := ih _ _ _ _ _ _ _ _ hx
        exact ⟨Nat.le_trans h1.1 h2.1, Nat.le_trans h1.2 h2.2⟩
      · split at hx
        · cases hx; exact ⟨Nat.le_refl _, Nat.le_refl _⟩
        · split at hx
          · cases hx
          · split at hx
            · cases hx
            · split at hx
              · cases hx
              · rename_i hc
                have h1 := ih _ _ _ _ _ _ _ _ hc
                have h2 := ih _ _ _ _ _ _ _ _ hx
                exact ⟨Nat.le_trans h1.1 h2.1, Nat.le_trans h1.2 h2.2⟩
section EXC
variable {p : Program} {l : Launch} {e : Env} {R : Room} {s : State} {m : MethodId} {args : Array Value} {below : List Frame} {meth : Method} {c : Code} {H : Heap} {locs : List Loc} {cells slots : Nat} {Q : State → Prop}
variable {cc : ByteArray} {pc : Nat} {ls : Array Slot} {rest : List Value}
variable {G : ex_G} {cn : Nat → String} {TT : Nat → u_T} {cl : List vw_C} {TB : List Cond} {nst : Cond → Prop} {ao : Nat → Prop} {host : String} {ym : Nat → MethodName} {bt : Nat → ByteArray} {rT : Nat → Option FieldType} {D : va_G} {ca : Nat → ClassId} {base b L : Nat} {xs : Nat → Int32} {h h' : ex_Hp}
theorem ex_Wd.moved {u U : State} (hvm : u.vm.Alike U.vm) (hw : ex_Wd G cn cl D ca base b u H h) : ex_Wd G cn cl D ca base b U H h := by
  obtain ⟨h1, h2, h3, tys, h4, h5⟩ := hw
  exact ⟨h1, h2, h3, tys, h4.moved hvm, h5⟩
theorem ex_size (hw : ex_Wd G cn cl D ca base b s H h) (hS : va_S (fun q => base ≤ q) s.heap H locs) {n0 : Nat} (h0 : s.heap.size = base + n0) : base + h.1 ≤ H.size := by
  by_cases hz : h.1 = 0
  · have := hS.1
    omega
  · have hg := ex_ws_get (G := G) (ca := ca) (ad := ex_ad base b) (h := h) (i := h.1 - 1) (by omega)
    have h1 := (hw.2.1 _ _ hg).lt
    have h2 := hw.1
    rw [ex_ad_lt (by omega)] at h1
    dsimp only at h1
    omega
def ex_Pc (G : ex_G) (cn : Nat → String) (cl : List vw_C) (D : va_G) (ca : Nat → ClassId) (nst : Cond → Prop) (ao : Nat → Prop) (base b L : Nat) (xs : Nat → Int32) (as : List Value) (h : ex_Hp) : Array Value → State → Prop :=
  va_Pc (as.map (ex_rv (ex_ad base b))) (fun U => ex_U cn ca nst ao base b L xs U ∧ ex_Wd G cn cl D ca base b U U.heap h ∧ U.heap.size = base + h.1)
def ex_Qc (G : ex_G) (cn : Nat → String) (cl : List vw_C) (D : va_G) (ca : Nat → ClassId) (base b : Nat) (r : Option Value) (h : ex_Hp) : Array Value → State → Outcome → State → Prop :=
  fun _ st oc t => oc = .returned (r.map (ex_rv (ex_ad base b))) ∧ ex_Wd G cn cl D ca base b t t.heap h ∧ va_F (fun q => base ≤ q) st t
theorem ex_U.to {U : State} (PN : ∀ w, nst w → (∃ (a : String) (i : Nat) (x n d : String), w = .fieldLinkNest a i x n d host) ∨ (∃ (a : String) (i : Nat) (x : MethodName), w = .methodLinkNest a i x host)) (hU : ex_U cn ca nst ao base b L xs s) (hW : s.WarmedH U.vm) (hh : U.heap[b]? = s.heap[b]?) (hs : s.heap.size ≤ U.heap.size) : ex_U cn ca nst ao base b L xs U := by
  obtain ⟨h1, h2, h3, h4, h5, h6⟩ := hU
  refine ⟨fun w hw => ?_, fun c hc => (h2 c hc).moved hW.alike, fun k cA hk => h3 k cA ?_, (h4.kept hh).moved hW.alike, h5, Nat.le_trans h6 hs⟩
  · rcases PN w hw with ⟨a, i, x, n, d, rfl⟩ | ⟨a, i, x, rfl⟩
    · exact va_Nw.warmF hW (h1 _ hw)
    · exact va_Nw.warmM hW (h1 _ hw)
  · rw [← hW.alike.findClass]; exact hk
theorem ex_blind (PN : ∀ w, nst w → (∃ (a : String) (i : Nat) (x n d : String), w = .fieldLinkNest a i x n d host) ∨ (∃ (a : String) (i : Nat) (x : MethodName), w = .methodLinkNest a i x host)) (as : List Value) : FrameBlind (ex_Pc G cn cl D ca nst ao base b L xs as h) := by
  intro a U g mk hP
  obtain ⟨h0, ⟨h1, h2, h3, h4, h5, h6⟩, hw, hz⟩ := hP
  refine ⟨h0, ⟨fun w hw => ?_, fun c hc => h2 c hc, h3, h4, h5, h6⟩, hw, hz⟩
  rcases PN w hw with ⟨a, i, x, n, d, rfl⟩ | ⟨a, i, x, rfl⟩
  · exact va_Nw.same rfl rfl (h1 _ hw)
  · exact va_Nw.same rfl rfl (h1 _ hw)
theorem ex_ret_ok {mi : Nat} (F : ex_Fr G cn TB bt rT p s m args meth c mi) (hm : ex_mB G cn TB ym bt rT mi) {st : List Value} {ins : Instr} {r : Option Value} (hx : ex_ret G mi st ins = some r) (hd : ex_dec (bt mi) pc ins) {ad : Nat → Nat} {Qc : Array Value → State → Outcome → State → Prop} {free : Addr → Prop}
    (hq : ∀ t : State, t.heap = H → s.WarmedH t.vm → Qc args s (.returned (r.map (ex_rv ad))) t) (hf : ∀ q ∈ locs, free q.base) : W p l e R s m args below meth c H locs cells slots (MQ below Qc args s cells slots free) (F0 m pc ls (st.map (ex_rv ad))) := by
  obtain ⟨hexec, hb, -, -, -, -, hr, hl⟩ := F
  obtain ⟨-, -, -, -, hrt, -⟩ := hm
  cases ins with
  | ireturn =>
    simp only [ex_ret] at hx
    split at hx
    · rename_i x
      split at hx
      · rename_i hc
        cases hx
        rcases hc with hc | ⟨hc, hb1⟩
        · rw [hc] at hrt
          exact W.iret hexec hb (hr.trans hrt) hq hf hd hl
        · rw [hc] at hrt
          exact W.zret hexec hb (hr.trans hrt) (ex_narrow_bool hb1).1 hq hf hd hl
      · cases hx
    · cases hx
  | lreturn =>
    simp only [ex_ret] at hx
    split at hx
    · rename_i x
      split at hx
      · rename_i hc
        cases hx
        rw [hc] at hrt
        exact W.lret hexec hb (hr.trans hrt) hq hf hd hl
      · cases hx
    · cases hx
  | areturn =>
    simp only [ex_ret] at hx
    split at hx
    · rename_i x
      split at hx
      · rename_i hc
        cases hx
        rw [hc] at hrt
        obtain ⟨C, hC⟩ := hrt
        exact W.aret hexec hb (hr.trans hC) (Or.inl ⟨C, rfl⟩) (Or.inr ⟨_, rfl⟩) hq hf hd hl
      · cases hx
    · split at hx
      · rename_i hc
        cases hx
        rw [hc] at hrt
        obtain ⟨C, hC⟩ := hrt
        exact W.aret hexec hb (hr.trans hC) (Or.inl ⟨C, rfl⟩) (Or.inl rfl) hq hf hd hl
      · cases hx
    · cases hx
  | return_ =>
    simp only [ex_ret] at hx
    split at hx
    · split at hx
      · rename_i hc
        cases hx
        rcases hc with hc | hc
        · rw [hc] at hrt
          exact W.vret hexec hb (hr.trans hrt) hq hf hd hl
        · rw [hc] at hrt
          exact W.vret hexec hb (hr.trans hrt.1) hq hf hd hl
      · cases hx
    · cases hx
  | _ => exact absurd (show (none : Option (Option Value)) = some _ from hx) (fun q => by cases q)
/-- behind a call -/
theorem ex_back {mc ms : Nat} {st0 : List Value} {v : Option Value} {B : State → Prop} {A : Nat → Prop} {free : Addr → Prop} (hr : va_Run p l e R s m args below meth c H locs cells slots mc ms (F0 m pc ls st0) rest (fun st oc t => oc = .returned v ∧ B t ∧ va_F A st t) free) (hS : va_S A s.heap H locs) (hf : ∀ q, free q → A q)
    (kk : ∀ (t : State) (H1 : Heap) (locs1 : List Loc), t.heap = H1 → s.vm.Alike t.vm → B t → va_S A s.heap H1 locs1 → W p l e R s m args below meth c H1 locs1 (cells + mc) (slots + ms) Q (F0 m (pc + 3) ls (v.toList ++ rest))) : W p l e R s m args below meth c H locs cells slots Q (F0 m pc ls st0) := by
  intro T hT X
  obtain ⟨v', st₀, t, T', L, h0, X', hL, e1, e2, ⟨hv, hb, hz, hk⟩, st⟩ := hr T hT X
  cases hv
  rw [h0] at hz hk
  obtain ⟨t2, a1, b1⟩ := kk t T'.heap (locs ++ L) e1.symm (by rw [← e2]; exact X'.warmed.alike) hb
    ⟨Nat.le_trans hS.1 (by rw [e1]; exact hz), fun q h1 h2 => by rw [e1, hk q (Nat.lt_of_lt_of_le h1 hS.1) h2]; exact hS.2.1 q h1 h2, fun q hq => by
      rcases List.mem_append.mp hq with h | h
      · exact hS.2.2 q h
      · exact hf _ (hL q h)⟩ T' rfl X'
  exact ⟨t2, st t2 a1, b1⟩
theorem ex_args_some {n : Nat} {st as t : List Value} (h : ex_args n st = some (as, t)) : as.length = n ∧ st = as.reverse ++ t := by
  unfold ex_args at h
  split at h
  · cases h
    refine ⟨by simp; omega, by simp⟩
  · cases h
theorem ex_good {y : Nat} (PG : ∀ w ∈ TB, (w.onTables && w.keeps) = true ∨ ∃ ty, w = .arrayClass ty) (hm : Cond.code (ym y) (bt y) (ex_mx G y) (rT y) ∈ TB) : GoodIn TB (Cond.code (ym y) (bt y) (ex_mx G y) (rT y) :: TB) := by
  intro w hw
  rcases List.mem_cons.mp hw with rfl | hw
  · exact ⟨hm, PG _ hm⟩
  · exact ⟨hw, PG _ hw⟩
end EXC
