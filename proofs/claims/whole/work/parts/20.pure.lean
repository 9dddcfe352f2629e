/-- what an abstract value is on the machine -/
def ex_rv (ad : Nat → Nat) : Value → Value
  | .ref a => .ref (ad a)
  | v => v
theorem ex_rv_cat (ad : Nat → Nat) (v : Value) : (ex_rv ad v).category = v.category := by cases v <;> rfl
theorem ex_rv_rf (ad : Nat → Nat) (r : Option Nat) : ex_rv ad (va_rf r) = va_rf (r.map ad) := by cases r <;> rfl
def ex_kn (ad : Nat → Nat) (lv : List Value) : List (Nat × Value) := (List.range lv.length).filterMap fun j => match lv[j]? with
  | some w => if w = ex_no then none else some (j, ex_rv ad w)
  | none => none
theorem ex_kn_of {ad : Nat → Nat} {lv : List Value} {j : Nat} {w : Value} (h : lv[j]? = some w) (hw : w ≠ ex_no) : (j, ex_rv ad w) ∈ ex_kn ad lv := by
  refine List.mem_filterMap.mpr ⟨j, List.mem_range.mpr (List.getElem?_eq_some_iff.mp h).1, ?_⟩
  rw [h]
  exact if_neg hw
theorem ex_kn_to {ad : Nat → Nat} {lv : List Value} {q : Nat × Value} (h : q ∈ ex_kn ad lv) : ∃ w, lv[q.1]? = some w ∧ w ≠ ex_no ∧ q.2 = ex_rv ad w := by
  obtain ⟨j, -, h2⟩ := List.mem_filterMap.mp h
  cases hj : lv[j]? with
  | none => rw [hj] at h2; cases h2
  | some w =>
    rw [hj] at h2
    by_cases hw : w = ex_no
    · simp [hw] at h2
    · simp only [if_neg hw] at h2
      cases h2
      exact ⟨w, hj, hw, rfl⟩
/-- the machine's locals hold what is known -/
def ex_LV (ad : Nat → Nat) (ls : Array Slot) (nL : Nat) (lv : List Value) : Prop := lv.length = nL ∧ lv_has ls nL (ex_kn ad lv)
theorem ex_LV.get {ad : Nat → Nat} {ls : Array Slot} {nL : Nat} {lv : List Value} (h : ex_LV ad ls nL lv) {i : Nat} {w : Value} (hi : lv[i]? = some w) (hw : w ≠ ex_no) : ls[i]? = some (.val (ex_rv ad w)) := h.2.2.2 (i, _) (ex_kn_of hi hw)
theorem ex_kill_len (lv : List Value) (i : Nat) : (ex_kill lv i).length = lv.length := by
  cases i with
  | zero => rfl
  | succ k =>
    show (match lv[k]? with | some w => if w.category = 2 then lv.set k ex_no else lv | none => lv).length = _
    cases lv[k]? with
    | none => rfl
    | some w =>
      show (if w.category = 2 then lv.set k ex_no else lv).length = _
      split
      · simp
      · rfl
theorem ex_kill_get {lv : List Value} {i j : Nat} {w : Value} (h : (ex_kill lv i)[j]? = some w) (hw : w ≠ ex_no) : lv[j]? = some w ∧ ¬ (j + 1 = i ∧ w.category = 2) := by
  cases i with
  | zero => exact ⟨h, fun q => by omega⟩
  | succ k =>
    have h : (match lv[k]? with | some w => if w.category = 2 then lv.set k ex_no else lv | none => lv)[j]? = some w := h
    cases hk : lv[k]? with
    | none =>
      rw [hk] at h
      have h : lv[j]? = some w := h
      refine ⟨h, fun q => ?_⟩
      have : j = k := by omega
      subst this
      rw [hk] at h; cases h
    | some w0 =>
      rw [hk] at h
      have h : (if w0.category = 2 then lv.set k ex_no else lv)[j]? = some w := h
      by_cases hc : w0.category = 2
      · rw [if_pos hc, List.getElem?_set] at h
        by_cases hj : k = j
        · rw [if_pos hj] at h
          split at h
          · cases h; exact absurd rfl hw
          · cases h
        · rw [if_neg hj] at h
          exact ⟨h, fun q => by omega⟩
      · rw [if_neg hc] at h
        refine ⟨h, fun q => ?_⟩
        have hjk : j = k := by omega
        rw [hjk, hk] at h
        cases h
        exact hc q.2
theorem ex_LV_st1 {ad : Nat → Nat} {ls' : Array Slot} {nL i : Nat} {lv lv' : List Value} {v : Value} (h0 : lv.length = nL) (h : ex_st1 lv i v = some lv')
    (hs : lv_has ls' nL ((i, ex_rv ad v) :: (ex_kn ad lv).filter (fun q => !(q.1 == i) && !(q.1 + 1 == i && q.2.category == 2)))) : ex_LV ad ls' nL lv' := by
  unfold ex_st1 at h
  split at h
  · rename_i hi
    cases h
    refine ⟨by rw [List.length_set, ex_kill_len]; exact h0, hs.1, hs.2.1, fun q hq => hs.2.2 q ?_⟩
    obtain ⟨w, h1, h2, h3⟩ := ex_kn_to hq
    obtain ⟨j, u⟩ := q
    dsimp only at h1 h3
    subst h3
    rw [List.getElem?_set] at h1
    by_cases hj : i = j
    · rw [if_pos hj] at h1
      split at h1
      · cases h1; subst hj; exact List.mem_cons_self
      · cases h1
    · rw [if_neg hj] at h1
      obtain ⟨g1, g2⟩ := ex_kill_get h1 h2
      refine List.mem_cons_of_mem _ (List.mem_filter.mpr ⟨ex_kn_of g1 h2, ?_⟩)
      simp only [ex_rv_cat]
      by_cases hj1 : j + 1 = i
      · have : ¬ w.category = 2 := fun q => g2 ⟨hj1, q⟩
        simp [this, Ne.symm hj]
      · simp [hj1, Ne.symm hj]
  · cases h
theorem ex_LV_st2 {ad : Nat → Nat} {ls' : Array Slot} {nL i : Nat} {lv lv' : List Value} {v : Value} (h0 : lv.length = nL) (h : ex_st2 lv i v = some lv')
    (hs : lv_has ls' nL ((i, ex_rv ad v) :: (ex_kn ad lv).filter (fun q => !(q.1 == i) && (!(q.1 == i + 1) && !(q.1 + 1 == i && q.2.category == 2))))) : ex_LV ad ls' nL lv' := by
  unfold ex_st2 at h
  split at h
  · rename_i hi
    cases h
    refine ⟨by rw [List.length_set, List.length_set, ex_kill_len]; exact h0, hs.1, hs.2.1, fun q hq => hs.2.2 q ?_⟩
    obtain ⟨w, h1, h2, h3⟩ := ex_kn_to hq
    obtain ⟨j, u⟩ := q
    dsimp only at h1 h3
    subst h3
    rw [List.getElem?_set] at h1
    by_cases hj2 : i + 1 = j
    · rw [if_pos hj2] at h1
      split at h1
      · cases h1; exact absurd rfl h2
      · cases h1
    · rw [if_neg hj2, List.getElem?_set] at h1
      by_cases hj : i = j
      · rw [if_pos hj] at h1
        split at h1
        · cases h1; subst hj; exact List.mem_cons_self
        · cases h1
      · rw [if_neg hj] at h1
        obtain ⟨g1, g2⟩ := ex_kill_get h1 h2
        refine List.mem_cons_of_mem _ (List.mem_filter.mpr ⟨ex_kn_of g1 h2, ?_⟩)
        simp only [ex_rv_cat]
        by_cases hj1 : j + 1 = i
        · have : ¬ w.category = 2 := fun q => g2 ⟨hj1, q⟩
          simp [this, Ne.symm hj, Ne.symm hj2]
        · simp [hj1, Ne.symm hj, Ne.symm hj2]
  · cases h
theorem ex_st1_lt {lv lv' : List Value} {i : Nat} {v : Value} (h : ex_st1 lv i v = some lv') : i < lv.length := by
  unfold ex_st1 at h
  split at h
  · assumption
  · cases h
theorem ex_st2_lt {lv lv' : List Value} {i : Nat} {v : Value} (h : ex_st2 lv i v = some lv') : i + 1 < lv.length := by
  unfold ex_st2 at h
  split at h
  · assumption
  · cases h
theorem ex_pi_some {α : Type} {st : List Value} {k : Int32 → List Value → Option α} {r : α} (h : ex_pi st k = some r) : ∃ x t, st = .int x :: t ∧ k x t = some r := by
  unfold ex_pi at h
  split at h
  · exact ⟨_, _, rfl, h⟩
  · cases h
theorem ex_pl_some {α : Type} {st : List Value} {k : Int64 → List Value → Option α} {r : α} (h : ex_pl st k = some r) : ∃ x t, st = .long x :: t ∧ k x t = some r := by
  unfold ex_pl at h
  split at h
  · exact ⟨_, _, rfl, h⟩
  · cases h
theorem ex_pa_some {α : Type} {st : List Value} {k : Nat → List Value → Option α} {r : α} (h : ex_pa st k = some r) : ∃ x t, st = .ref x :: t ∧ k x t = some r := by
  unfold ex_pa at h
  split at h
  · exact ⟨_, _, rfl, h⟩
  · cases h
theorem ex_pn_some {α : Type} {st : List Value} {k : Option Nat → List Value → Option α} {r : α} (h : ex_pn st k = some r) : ∃ x t, st = va_rf x :: t ∧ k x t = some r := by
  unfold ex_pn at h
  split at h
  · exact ⟨some _, _, rfl, h⟩
  · exact ⟨none, _, rfl, h⟩
  · cases h
theorem ex_p1_some {α : Type} {st : List Value} {k : Value → List Value → Option α} {r : α} (h : ex_p1 st k = some r) : ∃ v t, st = v :: t ∧ v.category = 1 ∧ k v t = some r := by
  unfold ex_p1 at h
  split at h
  · split at h
    · exact ⟨_, _, rfl, ‹_›, h⟩
    · cases h
  · cases h
theorem ex_jump_some {pc t : Nat} {off : Int} (h : ex_jump pc off = some t) : (pc : Int) + off = (t : Int) := by
  unfold ex_jump at h
  split at h
  · rename_i q hq
    cases h
    exact hq
  · cases h
theorem ex_to_some {pc : Nat} {off : Int} {lv st lv' st' : List Value} {pc' : Nat} (h : ex_to pc off lv st = some (pc', lv', st')) : (pc : Int) + off = (pc' : Int) ∧ lv' = lv ∧ st' = st := by
  unfold ex_to at h
  split at h
  · rename_i t ht
    cases h
    exact ⟨ex_jump_some ht, rfl, rfl⟩
  · cases h
theorem ex_br_some {b : Bool} {pc : Nat} {off : Int} {lv st lv' st' : List Value} {pc' : Nat} (h : ex_br b pc off lv st = some (pc', lv', st')) : ∃ t : Nat, (pc : Int) + off = (t : Int) ∧ pc' = (if b = true then t else pc + 3) ∧ lv' = lv ∧ st' = st := by
  unfold ex_br at h
  split at h
  · rename_i t ht
    cases h
    exact ⟨t, ex_jump_some ht, rfl, rfl, rfl⟩
  · cases h
theorem ex_go_some {pc : Nat} {st lv' st' : List Value} {o : Option (List Value)} {pc' : Nat} (h : ex_go pc st o = some (pc', lv', st')) : o = some lv' ∧ pc' = pc ∧ st' = st := by
  unfold ex_go at h
  split at h
  · cases h; exact ⟨rfl, rfl, rfl⟩
  · cases h
theorem ex_li_some {pc i : Nat} {lv st lv' st' : List Value} {pc' : Nat} (h : ex_li lv i pc st = some (pc', lv', st')) : ∃ x, lv[i]? = some (.int x) ∧ pc' = pc ∧ lv' = lv ∧ st' = .int x :: st := by
  unfold ex_li at h
  split at h
  · cases h; exact ⟨_, ‹_›, rfl, rfl, rfl⟩
  · cases h
theorem ex_ll_some {pc i : Nat} {lv st lv' st' : List Value} {pc' : Nat} (h : ex_ll lv i pc st = some (pc', lv', st')) : ∃ x, lv[i]? = some (.long x) ∧ pc' = pc ∧ lv' = lv ∧ st' = .long x :: st := by
  unfold ex_ll at h
  split at h
  · cases h; exact ⟨_, ‹_›, rfl, rfl, rfl⟩
  · cases h
theorem ex_la_some {pc i : Nat} {lv st lv' st' : List Value} {pc' : Nat} (h : ex_la lv i pc st = some (pc', lv', st')) : ∃ x, lv[i]? = some (va_rf x) ∧ pc' = pc ∧ lv' = lv ∧ st' = va_rf x :: st := by
  unfold ex_la at h
  split at h
  · cases h; exact ⟨some _, ‹_›, rfl, rfl, rfl⟩
  · cases h; exact ⟨none, ‹_›, rfl, rfl, rfl⟩
  · cases h
theorem ex_inc_some {pc i : Nat} {n : Int} {lv st lv' st' : List Value} {pc' : Nat} (h : ex_inc lv i n pc st = some (pc', lv', st')) : ∃ x, lv[i]? = some (.int x) ∧ ex_st1 lv i (.int (x + ex_i n)) = some lv' ∧ pc' = pc ∧ st' = st := by
  unfold ex_inc at h
  split at h
  · obtain ⟨h1, h2, h3⟩ := ex_go_some h
    exact ⟨_, ‹_›, h1, h2, h3⟩
  · cases h
theorem ex_i_int (n : Int) : Int32.ofInt n = ex_i n := by
  cases n with
  | ofNat k => rfl
  | negSucc k =>
    show Int32.ofInt (-((k + 1 : Nat) : Int)) = - nI (k + 1)
    rw [Int32.ofInt_neg]
    rfl
theorem ex_i_byte {n : Int} (h : -128 ≤ n ∧ n < 128) : (Int8.ofInt n).toInt32 = ex_i n := by
  rw [← ex_i_int]
  apply Int32.toInt_inj.mp
  rw [Int8.toInt_toInt32, Int8.toInt_ofInt_of_le (by have := h.1; simpa using this) (by have := h.2; simpa using this), Int32.toInt_ofInt_of_le (by have := h.1; simp; omega) (by have := h.2; simp; omega)]
theorem ex_i_short {n : Int} (h : -32768 ≤ n ∧ n < 32768) : (Int16.ofInt n).toInt32 = ex_i n := by
  rw [← ex_i_int]
  apply Int32.toInt_inj.mp
  rw [Int16.toInt_toInt32, Int16.toInt_ofInt_of_le (by have := h.1; simpa using this) (by have := h.2; simpa using this), Int32.toInt_ofInt_of_le (by have := h.1; simp; omega) (by have := h.2; simp; omega)]
/-- the bytes say what the table says -/
def ex_dec (cc : ByteArray) (pc : Nat) (ins : Instr) : Prop := match ins with
  | .tableswitch a b c d => ∃ n, decode cc pc = .ok (.tableswitch a b c d, n)
  | i => decode cc pc = .ok (i, ex_len i)
section EXP
variable {p : Program} {l : Launch} {e : Env} {R : Room} {s : State} {m : MethodId} {args : Array Value} {below : List Frame} {meth : Method} {c : Code} {H : Heap} {locs : List Loc} {cells slots : Nat} {Q : State → Prop}
variable {cc : ByteArray} {ls : Array Slot} {nL : Nat} {ad : Nat → Nat}
theorem ex_W_st1 {pc' i : Nat} {v : Value} {lv lv' t : List Value} (hl : ex_LV ad ls nL lv) (ho : ex_st1 lv i v = some lv') (hc : v.category = 1)
    (kk : ∀ ls', ex_LV ad ls' nL lv' → W p l e R s m args below meth c H locs cells slots Q (F0 m pc' ls' (t.map (ex_rv ad)))) :
    ∀ ls' : Array Slot, lv_has ls' nL ((i, ex_rv ad v) :: (ex_kn ad lv).filter (fun q => !(q.1 == i) && !(q.1 + 1 == i && q.2.category == 2))) → W p l e R s m args below meth c H locs cells slots Q (F0 m pc' ls' (t.map (ex_rv ad))) :=
  fun ls' h => kk ls' (ex_LV_st1 hl.1 ho h)
set_option maxHeartbeats 4000000 in
theorem ex_pure_ok (hexec : p.tables.exec = Jvm.exec) (hb : c.code = cc) {pc pc' : Nat} {lv st lv' st' : List Value} {ins : Instr} (hx : ex_pure pc lv st ins = some (pc', lv', st')) (hd : ex_dec cc pc ins) (hl : ex_LV ad ls nL lv)
    (kk : ∀ ls', ex_LV ad ls' nL lv' → W p l e R s m args below meth c H locs cells slots Q (F0 m pc' ls' (st'.map (ex_rv ad)))) :
    W p l e R s m args below meth c H locs cells slots Q (F0 m pc ls (st.map (ex_rv ad))) := by
  cases ins with
  | iconst n => cases hx; exact lv_iconst hexec hb hd (ex_i_int n) (kk ls hl)
  | bipush n =>
    have hx : (if -128 ≤ n ∧ n < 128 then some (pc + 2, lv, .int (ex_i n) :: st) else none) = some (pc', lv', st') := hx
    split at hx
    · rename_i hr; cases hx; exact lv_bipush hexec hb hd (ex_i_byte hr) (kk ls hl)
    · cases hx
  | sipush n =>
    have hx : (if -32768 ≤ n ∧ n < 32768 then some (pc + 3, lv, .int (ex_i n) :: st) else none) = some (pc', lv', st') := hx
    split at hx
    · rename_i hr; cases hx; exact lv_sipush hexec hb hd (ex_i_short hr) (kk ls hl)
    · cases hx
  | lconst n => cases hx; exact lv_lconst hexec hb hd rfl (kk ls hl)
  | aconst_null => cases hx; exact lv_null hexec hb hd (kk ls hl)
  | iload i =>
    obtain ⟨x, h1, rfl, rfl, rfl⟩ := ex_li_some (show ex_li lv i (pc + 2) st = _ from hx)
    exact lv_iload hexec hb hd (hl.get h1 (fun q => by cases q)) (kk ls hl)
  | iload_n i =>
    obtain ⟨x, h1, rfl, rfl, rfl⟩ := ex_li_some (show ex_li lv i (pc + 1) st = _ from hx)
    exact lv_iload_n hexec hb hd rfl (hl.get h1 (fun q => by cases q)) (kk ls hl)
  | lload i =>
    obtain ⟨x, h1, rfl, rfl, rfl⟩ := ex_ll_some (show ex_ll lv i (pc + 2) st = _ from hx)
    exact lv_lload hexec hb hd (hl.get h1 (fun q => by cases q)) (kk ls hl)
  | lload_n i =>
    obtain ⟨x, h1, rfl, rfl, rfl⟩ := ex_ll_some (show ex_ll lv i (pc + 1) st = _ from hx)
    exact lv_lload_n hexec hb hd rfl (hl.get h1 (fun q => by cases q)) (kk ls hl)
  | aload i =>
    obtain ⟨x, h1, rfl, rfl, rfl⟩ := ex_la_some (show ex_la lv i (pc + 2) st = _ from hx)
    cases x with
    | none => exact lv_aloadN hexec hb hd (hl.get h1 (fun q => by cases q)) (kk ls hl)
    | some a => exact lv_aload hexec hb hd (hl.get h1 (fun q => by cases q)) (kk ls hl)
  | aload_n i =>
    obtain ⟨x, h1, rfl, rfl, rfl⟩ := ex_la_some (show ex_la lv i (pc + 1) st = _ from hx)
    cases x with
    | none => exact lv_aload_nN hexec hb hd rfl (hl.get h1 (fun q => by cases q)) (kk ls hl)
    | some a => exact lv_aload_n hexec hb hd rfl (hl.get h1 (fun q => by cases q)) (kk ls hl)
  | istore i =>
    obtain ⟨x, t, rfl, hx⟩ := ex_pi_some (show ex_pi st _ = some _ from hx)
    obtain ⟨ho, rfl, rfl⟩ := ex_go_some hx
    exact lv_istore hexec hb hd hl.2 (by rw [← hl.1]; exact ex_st1_lt ho) rfl (ex_W_st1 hl ho rfl kk)
  | istore_n i =>
    obtain ⟨x, t, rfl, hx⟩ := ex_pi_some (show ex_pi st _ = some _ from hx)
    obtain ⟨ho, rfl, rfl⟩ := ex_go_some hx
    exact lv_istore_n hexec hb hd rfl hl.2 (by rw [← hl.1]; exact ex_st1_lt ho) rfl (ex_W_st1 hl ho rfl kk)
  | lstore i =>
    obtain ⟨x, t, rfl, hx⟩ := ex_pl_some (show ex_pl st _ = some _ from hx)
    obtain ⟨ho, rfl, rfl⟩ := ex_go_some hx
    exact lv_lstore hexec hb hd hl.2 (by rw [← hl.1]; exact ex_st2_lt ho) rfl (fun ls' h => kk ls' (ex_LV_st2 hl.1 ho h))
  | lstore_n i =>
    obtain ⟨x, t, rfl, hx⟩ := ex_pl_some (show ex_pl st _ = some _ from hx)
    obtain ⟨ho, rfl, rfl⟩ := ex_go_some hx
    exact lv_lstore_n hexec hb hd rfl hl.2 (by rw [← hl.1]; exact ex_st2_lt ho) rfl (fun ls' h => kk ls' (ex_LV_st2 hl.1 ho h))
  | astore i =>
    obtain ⟨x, t, rfl, hx2⟩ := ex_pn_some (show ex_pn st (fun x t => ex_go (pc + 2) t (ex_st1 lv i (va_rf x))) = some _ from hx)
    obtain ⟨ho, rfl, rfl⟩ := ex_go_some hx2
    cases x with
    | none => exact lv_astoreN hexec hb hd hl.2 (by rw [← hl.1]; exact ex_st1_lt ho) rfl (ex_W_st1 hl ho rfl kk)
    | some a => exact lv_astore hexec hb hd hl.2 (by rw [← hl.1]; exact ex_st1_lt ho) rfl (ex_W_st1 hl ho rfl kk)
  | astore_n i =>
    obtain ⟨x, t, rfl, hx2⟩ := ex_pn_some (show ex_pn st (fun x t => ex_go (pc + 1) t (ex_st1 lv i (va_rf x))) = some _ from hx)
    obtain ⟨ho, rfl, rfl⟩ := ex_go_some hx2
    cases x with
    | none => exact lv_astore_nN hexec hb hd rfl hl.2 (by rw [← hl.1]; exact ex_st1_lt ho) rfl (ex_W_st1 hl ho rfl kk)
    | some a => exact lv_astore_n hexec hb hd rfl hl.2 (by rw [← hl.1]; exact ex_st1_lt ho) rfl (ex_W_st1 hl ho rfl kk)
  | iinc i n =>
    obtain ⟨x, h1, ho, rfl, rfl⟩ := ex_inc_some (show ex_inc lv i n (pc + 3) st = _ from hx)
    obtain ⟨k, hk⟩ := List.getElem?_of_mem (ex_kn_of (ad := ad) h1 (fun q => by cases q))
    exact lv_iinc hexec hb hd hl.2 hk (by rw [ex_i_int]) (by rw [← hl.1]; exact ex_st1_lt ho) rfl (ex_W_st1 hl ho rfl kk)
  | iadd =>
    obtain ⟨y, t, rfl, hx⟩ := ex_pi_some (show ex_pi st _ = some _ from hx)
    obtain ⟨x, u, rfl, hx⟩ := ex_pi_some hx
    cases hx; exact lv_iadd hexec hb hd (kk ls hl)
  | isub =>
    obtain ⟨y, t, rfl, hx⟩ := ex_pi_some (show ex_pi st _ = some _ from hx)
    obtain ⟨x, u, rfl, hx⟩ := ex_pi_some hx
    cases hx; exact lv_isub hexec hb hd (kk ls hl)
  | imul =>
    obtain ⟨y, t, rfl, hx⟩ := ex_pi_some (show ex_pi st _ = some _ from hx)
    obtain ⟨x, u, rfl, hx⟩ := ex_pi_some hx
    cases hx; exact lv_imul hexec hb hd (kk ls hl)
  | iand =>
    obtain ⟨y, t, rfl, hx⟩ := ex_pi_some (show ex_pi st _ = some _ from hx)
    obtain ⟨x, u, rfl, hx⟩ := ex_pi_some hx
    cases hx; exact lv_iand hexec hb hd (kk ls hl)
  | irem =>
    obtain ⟨y, t, rfl, hx⟩ := ex_pi_some (show ex_pi st _ = some _ from hx)
    obtain ⟨x, u, rfl, hx⟩ := ex_pi_some hx
    have hx : (if y = 0 then none else some (pc + 1, lv, Value.int (x - x / y * y) :: u)) = some (pc', lv', st') := hx
    split at hx
    · cases hx
    · cases hx; exact lv_irem hexec hb hd ‹_› (kk ls hl)
  | ishr =>
    obtain ⟨y, t, rfl, hx⟩ := ex_pi_some (show ex_pi st _ = some _ from hx)
    obtain ⟨x, u, rfl, hx⟩ := ex_pi_some hx
    cases hx; exact lv_ishr hexec hb hd (kk ls hl)
  | iushr =>
    obtain ⟨y, t, rfl, hx⟩ := ex_pi_some (show ex_pi st _ = some _ from hx)
    obtain ⟨x, u, rfl, hx⟩ := ex_pi_some hx
    cases hx; exact lv_iushr hexec hb hd rfl (kk ls hl)
  | ladd =>
    obtain ⟨y, t, rfl, hx⟩ := ex_pl_some (show ex_pl st _ = some _ from hx)
    obtain ⟨x, u, rfl, hx⟩ := ex_pl_some hx
    cases hx; exact lv_ladd hexec hb hd (kk ls hl)
  | lmul =>
    obtain ⟨y, t, rfl, hx⟩ := ex_pl_some (show ex_pl st _ = some _ from hx)
    obtain ⟨x, u, rfl, hx⟩ := ex_pl_some hx
    cases hx; exact lv_lmul hexec hb hd (kk ls hl)
  | land =>
    obtain ⟨y, t, rfl, hx⟩ := ex_pl_some (show ex_pl st _ = some _ from hx)
    obtain ⟨x, u, rfl, hx⟩ := ex_pl_some hx
    cases hx; exact lv_land hexec hb hd (kk ls hl)
  | lor =>
    obtain ⟨y, t, rfl, hx⟩ := ex_pl_some (show ex_pl st _ = some _ from hx)
    obtain ⟨x, u, rfl, hx⟩ := ex_pl_some hx
    cases hx; exact lv_lor hexec hb hd (kk ls hl)
  | lshl =>
    obtain ⟨y, t, rfl, hx⟩ := ex_pi_some (show ex_pi st _ = some _ from hx)
    obtain ⟨x, u, rfl, hx⟩ := ex_pl_some hx
    cases hx; exact lv_lshl hexec hb hd rfl (kk ls hl)
  | lshr =>
    obtain ⟨y, t, rfl, hx⟩ := ex_pi_some (show ex_pi st _ = some _ from hx)
    obtain ⟨x, u, rfl, hx⟩ := ex_pl_some hx
    cases hx; exact lv_lshr hexec hb hd rfl (kk ls hl)
  | lcmp =>
    obtain ⟨y, t, rfl, hx⟩ := ex_pl_some (show ex_pl st _ = some _ from hx)
    obtain ⟨x, u, rfl, hx⟩ := ex_pl_some hx
    cases hx; exact W.lcmp hexec hb hd (kk ls hl)
  | i2l =>
    obtain ⟨x, t, rfl, hx⟩ := ex_pi_some (show ex_pi st _ = some _ from hx)
    cases hx; exact lv_i2l hexec hb hd rfl (kk ls hl)
  | l2i =>
    obtain ⟨x, t, rfl, hx⟩ := ex_pl_some (show ex_pl st _ = some _ from hx)
    cases hx; exact lv_l2i hexec hb hd rfl (kk ls hl)
  | dup =>
    obtain ⟨v, t, rfl, hv, hx⟩ := ex_p1_some (show ex_p1 st _ = some _ from hx)
    cases hx; exact lv_dup hexec hb hd ((ex_rv_cat ad v).trans hv) (kk ls hl)
  | dup2 =>
    obtain ⟨v, t, rfl, hv, hx⟩ := ex_p1_some (show ex_p1 st _ = some _ from hx)
    obtain ⟨w, u, rfl, hw, hx⟩ := ex_p1_some hx
    cases hx; exact lv_dup2_11 hexec hb hd ((ex_rv_cat ad v).trans hv) ((ex_rv_cat ad w).trans hw) (kk ls hl)
  | pop =>
    obtain ⟨v, t, rfl, hv, hx⟩ := ex_p1_some (show ex_p1 st _ = some _ from hx)
    cases hx; exact lv_pop hexec hb hd ((ex_rv_cat ad v).trans hv) (kk ls hl)
  | ifCond k off =>
    obtain ⟨x, t, rfl, hx⟩ := ex_pi_some (show ex_pi st _ = some _ from hx)
    obtain ⟨tg, ht, rfl, rfl, rfl⟩ := ex_br_some hx
    have kk := kk ls hl
    cases k with
    | eq => exact lv_if_eq hexec hb hd ht (fun h => by rw [if_pos (show ex_cmp .eq x 0 = true from decide_eq_true h)] at kk; exact kk) (fun h => by rw [if_neg (by simp [ex_cmp, h])] at kk; exact kk)
    | ne => exact lv_if_ne hexec hb hd ht (fun h => by rw [if_pos (show ex_cmp .ne x 0 = true from decide_eq_true h)] at kk; exact kk) (fun h => by rw [if_neg (by simp [ex_cmp, h])] at kk; exact kk)
    | lt => exact lv_if_lt hexec hb hd ht (fun h => by rw [if_pos (show ex_cmp .lt x 0 = true from decide_eq_true h)] at kk; exact kk) (fun h => by rw [if_neg (by simpa [ex_cmp] using h)] at kk; exact kk)
    | ge => exact lv_if_ge hexec hb hd ht (fun h => by rw [if_pos (show ex_cmp .ge x 0 = true from decide_eq_true h)] at kk; exact kk) (fun h => by rw [if_neg (by simpa [ex_cmp] using h)] at kk; exact kk)
    | gt => exact lv_if_gt hexec hb hd ht (fun h => by rw [if_pos (show ex_cmp .gt x 0 = true from decide_eq_true h)] at kk; exact kk) (fun h => by rw [if_neg (by simpa [ex_cmp] using h)] at kk; exact kk)
    | le => exact lv_if_le hexec hb hd ht (fun h => by rw [if_pos (show ex_cmp .le x 0 = true from decide_eq_true h)] at kk; exact kk) (fun h => by rw [if_neg (by simpa [ex_cmp] using h)] at kk; exact kk)
  | if_icmp k off =>
    obtain ⟨y, t, rfl, hx⟩ := ex_pi_some (show ex_pi st _ = some _ from hx)
    obtain ⟨x, u, rfl, hx⟩ := ex_pi_some hx
    obtain ⟨tg, ht, rfl, rfl, rfl⟩ := ex_br_some hx
    have kk := kk ls hl
    cases k with
    | eq => exact lv_icmp_eq hexec hb hd ht (fun h => by rw [if_pos (show ex_cmp .eq x y = true from decide_eq_true h)] at kk; exact kk) (fun h => by rw [if_neg (by simp [ex_cmp, h])] at kk; exact kk)
    | ne => exact lv_icmp_ne hexec hb hd ht (fun h => by rw [if_pos (show ex_cmp .ne x y = true from decide_eq_true h)] at kk; exact kk) (fun h => by rw [if_neg (by simp [ex_cmp, h])] at kk; exact kk)
    | lt => exact lv_icmp_lt hexec hb hd ht (fun h => by rw [if_pos (show ex_cmp .lt x y = true from decide_eq_true h)] at kk; exact kk) (fun h => by rw [if_neg (by simpa [ex_cmp] using h)] at kk; exact kk)
    | ge => exact lv_icmp_ge hexec hb hd ht (fun h => by rw [if_pos (show ex_cmp .ge x y = true from decide_eq_true h)] at kk; exact kk) (fun h => by rw [if_neg (by simpa [ex_cmp] using h)] at kk; exact kk)
    | gt => exact lv_icmp_gt hexec hb hd ht (fun h => by rw [if_pos (show ex_cmp .gt x y = true from decide_eq_true h)] at kk; exact kk) (fun h => by rw [if_neg (by simpa [ex_cmp] using h)] at kk; exact kk)
    | le => exact lv_icmp_le hexec hb hd ht (fun h => by rw [if_pos (show ex_cmp .le x y = true from decide_eq_true h)] at kk; exact kk) (fun h => by rw [if_neg (by simpa [ex_cmp] using h)] at kk; exact kk)
  | ifnull off =>
    obtain ⟨x, t, rfl, hx2⟩ := ex_pn_some (show ex_pn st (fun x t => ex_br x.isNone pc off lv t) = some _ from hx)
    obtain ⟨tg, ht, rfl, rfl, rfl⟩ := ex_br_some hx2
    cases x with
    | none => exact lv_ifnullN hexec hb hd ht (kk ls hl)
    | some a => exact lv_ifnull hexec hb hd (kk ls hl)
  | ifnonnull off =>
    obtain ⟨x, t, rfl, hx2⟩ := ex_pn_some (show ex_pn st (fun x t => ex_br x.isSome pc off lv t) = some _ from hx)
    obtain ⟨tg, ht, rfl, rfl, rfl⟩ := ex_br_some hx2
    cases x with
    | none => exact lv_ifnonnullN hexec hb hd (kk ls hl)
    | some a => exact lv_ifnonnull hexec hb hd ht (kk ls hl)
  | goto off =>
    obtain ⟨ht, rfl, rfl⟩ := ex_to_some (show ex_to pc off lv st = _ from hx)
    exact lv_goto hexec hb hd ht (kk ls hl)
  | tableswitch dflt lo hi offs =>
    obtain ⟨n, hd⟩ := hd
    obtain ⟨x, t, rfl, hx⟩ := ex_pi_some (show ex_pi st _ = some _ from hx)
    have hx : ex_sw x pc dflt lo hi offs lv t = some (pc', lv', st') := hx
    unfold ex_sw at hx
    split at hx
    · rename_i hr
      obtain ⟨ht, rfl, rfl⟩ := ex_to_some hx
      exact lv_tableOut hexec hb hd hr ht (kk ls hl)
    · rename_i hr
      split at hx
      · rename_i off ho
        obtain ⟨ht, rfl, rfl⟩ := ex_to_some hx
        exact lv_tableIn hexec hb hd (fun q => hr (Or.inl q)) (fun q => hr (Or.inr q)) ho ht (kk ls hl)
      · cases hx
  | _ => exact absurd (show (none : Option ex_Pr) = some _ from hx) (fun q => by cases q)
end EXP
