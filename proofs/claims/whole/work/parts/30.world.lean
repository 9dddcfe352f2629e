/-! the abstract heap on the machine -/
def ex_cell (G : ex_G) (ca : Nat → ClassId) (ad : Nat → Nat) (h : ex_Hp) (i : Nat) : va_E := match ex_kd G i with
  | (0, c) => .inr (c, (List.range (ex_nf G c)).map fun k => ex_rv ad (ex_fv G h c i k))
  | (1, n) => .inl (ca 1, n, .inl (h.2.2.1 i))
  | (2, n) => .inl (ca 2, n, .inl (h.2.2.1 i))
  | (t + 3, n) => .inl (ca (t + 3), n, .inr (.inr (.inr (.inr fun k => (h.2.2.2 i k).map ad))))
def ex_ws (G : ex_G) (ca : Nat → ClassId) (ad : Nat → Nat) (h : ex_Hp) : va_W := (List.range h.1).map fun i => (ad i, ex_cell G ca ad h i)
section EXW
variable {G : ex_G} {ca : Nat → ClassId} {ad : Nat → Nat} {h h' : ex_Hp}
theorem ex_cell_0 {i c : Nat} (hk : ex_kd G i = (0, c)) : ex_cell G ca ad h i = .inr (c, (List.range (ex_nf G c)).map fun k => ex_rv ad (ex_fv G h c i k)) := by
  unfold ex_cell; rw [hk]
theorem ex_cell_1 {i n : Nat} (hk : ex_kd G i = (1, n)) : ex_cell G ca ad h i = .inl (ca 1, n, .inl (h.2.2.1 i)) := by
  unfold ex_cell; rw [hk]
theorem ex_cell_2 {i n : Nat} (hk : ex_kd G i = (2, n)) : ex_cell G ca ad h i = .inl (ca 2, n, .inl (h.2.2.1 i)) := by
  unfold ex_cell; rw [hk]
theorem ex_cell_3 {i t n : Nat} (hk : ex_kd G i = (t + 3, n)) : ex_cell G ca ad h i = .inl (ca (t + 3), n, .inr (.inr (.inr (.inr fun k => (h.2.2.2 i k).map ad)))) := by
  unfold ex_cell; rw [hk]
theorem ex_fv_congr {c i k : Nat} (h1 : h'.2.2.1 i = h.2.2.1 i) (h2 : h'.2.2.2 i = h.2.2.2 i) : ex_fv G h' c i k = ex_fv G h c i k := by
  unfold ex_fv; rw [h1, h2]
theorem ex_cell_congr {i : Nat} (h1 : h'.2.2.1 i = h.2.2.1 i) (h2 : h'.2.2.2 i = h.2.2.2 i) : ex_cell G ca ad h' i = ex_cell G ca ad h i := by
  unfold ex_cell
  simp only [h1, h2, ex_fv_congr h1 h2]
theorem ex_ws_get {i : Nat} (hi : i < h.1) : (ex_ws G ca ad h)[i]? = some (ad i, ex_cell G ca ad h i) := by
  unfold ex_ws
  rw [List.getElem?_map, List.getElem?_range hi]; rfl
theorem ex_ws_at {i : Nat} {e : va_E} (hi : i < h.1) (he : ex_cell G ca ad h i = e) : (ex_ws G ca ad h)[i]? = some (ad i, e) := by
  rw [ex_ws_get hi, he]
theorem ex_ws_len : (ex_ws G ca ad h).length = h.1 := by simp [ex_ws]
theorem ex_ws_to {i : Nat} {q : Nat × va_E} (hq : (ex_ws G ca ad h)[i]? = some q) : i < h.1 ∧ q = (ad i, ex_cell G ca ad h i) := by
  have hi : i < h.1 := by rw [← ex_ws_len (G := G) (ca := ca) (ad := ad) (h := h)]; exact (List.getElem?_eq_some_iff.mp hq).1
  rw [ex_ws_get hi] at hq
  exact ⟨hi, (Option.some.inj hq).symm⟩
/-- one cell has changed -/
theorem ex_ws_set {a : Nat} {e : va_E} (ha : a < h.1) (hs : h'.1 = h.1) (he : ex_cell G ca ad h' a = e) (h1 : ∀ i, i ≠ a → h'.2.2.1 i = h.2.2.1 i) (h2 : ∀ i, i ≠ a → h'.2.2.2 i = h.2.2.2 i) : (ex_ws G ca ad h).set a (ad a, e) = ex_ws G ca ad h' := by
  apply List.ext_getElem?
  intro i
  rw [List.getElem?_set]
  by_cases hi : a = i
  · subst hi
    rw [if_pos rfl, ex_ws_len, if_pos ha, ex_ws_get (by rw [hs]; exact ha), he]
  · rw [if_neg hi]
    by_cases hl : i < h.1
    · rw [ex_ws_get hl, ex_ws_get (by rw [hs]; exact hl), ex_cell_congr (h1 i (Ne.symm hi)) (h2 i (Ne.symm hi))]
    · rw [List.getElem?_eq_none (by rw [ex_ws_len]; omega), List.getElem?_eq_none (by rw [ex_ws_len, hs]; omega)]
/-- a cell is new -/
theorem ex_ws_push {n : Nat} {e : va_E} (he : ex_cell G ca ad (ex_hN h n) h.1 = e) : ex_ws G ca ad h ++ [(ad h.1, e)] = ex_ws G ca ad (ex_hN h n) := by
  unfold ex_ws
  show _ = (List.range (h.1 + 1)).map _
  rw [List.range_succ, List.map_append]
  congr 1
  · apply List.map_congr_left
    intro i hi
    have hi := List.mem_range.mp hi
    rw [ex_cell_congr (h := h) (h' := ex_hN h n) (i := i)]
    · funext j
      show (if i = h.1 then 0 else h.2.2.1 i j) = _
      rw [if_neg (by omega)]
    · funext j
      show (if i = h.1 then none else h.2.2.2 i j) = _
      rw [if_neg (by omega)]
  · rw [← he]; rfl
theorem ex_wI_ne {I : ex_Mem} {a k i : Nat} {x : Int32} (hi : i ≠ a) : ex_wI I a k x i = I i := by
  funext j
  exact if_neg (fun q => hi q.1)
theorem ex_wP_ne {P : ex_Pm} {a k i : Nat} {x : Option Nat} (hi : i ≠ a) : ex_wP P a k x i = P i := by
  funext j
  exact if_neg (fun q => hi q.1)
theorem ex_wI_eq {I : ex_Mem} {a k : Nat} {x : Int32} : ex_wI I a k x a = upd (I a) k x := by
  funext j
  by_cases hj : j = k
  · show (if a = a ∧ j = k then x else I a j) = if j = k then x else I a j
    rw [if_pos ⟨rfl, hj⟩, if_pos hj]
  · show (if a = a ∧ j = k then x else I a j) = if j = k then x else I a j
    rw [if_neg (fun q => hj q.2), if_neg hj]
theorem ex_wP_eq {P : ex_Pm} {a k : Nat} {x : Option Nat} : ex_wP P a k x a = va_up (P a) k x := by
  funext j
  by_cases hj : j = k
  · show (if a = a ∧ j = k then x else P a j) = if j = k then x else P a j
    rw [if_pos ⟨rfl, hj⟩, if_pos hj]
  · show (if a = a ∧ j = k then x else P a j) = if j = k then x else P a j
    rw [if_neg (fun q => hj q.2), if_neg hj]
theorem ex_range_set {α : Type} {n k : Nat} {f g : Nat → α} {x : α} (hk : f k = x) (hn : ∀ j, j ≠ k → f j = g j) : (List.range n).map f = ((List.range n).map g).set k x := by
  apply List.ext_getElem?
  intro i
  rw [List.getElem?_set, List.getElem?_map]
  by_cases hi : k = i
  · subst hi
    rw [if_pos rfl]
    by_cases hl : k < n
    · rw [List.getElem?_range hl, if_pos (by simpa using hl), ← hk]; rfl
    · rw [if_neg (by simpa using hl), List.getElem?_eq_none (by simpa using hl)]; rfl
  · rw [if_neg hi, List.getElem?_map]
    by_cases hl : i < n
    · rw [List.getElem?_range hl]
      show some (f i) = some (g i)
      rw [hn i (Ne.symm hi)]
    · rw [List.getElem?_eq_none (by simpa using hl)]; rfl
theorem ex_set_fI {c a k : Nat} {x : Int32} (hk : ex_kd G a = (0, c)) (hf : ¬ ex_fk G c k = 2) : ex_cell G ca ad (ex_hI h a k x) a = .inr (c, ((List.range (ex_nf G c)).map fun j => ex_rv ad (ex_fv G h c a j)).set k (.int x)) := by
  rw [ex_cell_0 hk, ex_range_set]
  · show ex_rv ad (if ex_fk G c k = 2 then va_rf (h.2.2.2 a k) else .int (ex_wI h.2.2.1 a k x a k)) = _
    rw [if_neg hf]
    show Value.int (if a = a ∧ k = k then x else h.2.2.1 a k) = _
    rw [if_pos ⟨rfl, rfl⟩]
  · intro j hj
    show ex_rv ad (if ex_fk G c j = 2 then va_rf (h.2.2.2 a j) else .int (if a = a ∧ j = k then x else h.2.2.1 a j)) = ex_rv ad (if ex_fk G c j = 2 then va_rf (h.2.2.2 a j) else .int (h.2.2.1 a j))
    rw [if_neg (c := a = a ∧ j = k) (fun q => hj q.2)]
theorem ex_set_fP {c a k : Nat} {x : Option Nat} (hk : ex_kd G a = (0, c)) (hf : ex_fk G c k = 2) : ex_cell G ca ad (ex_hP h a k x) a = .inr (c, ((List.range (ex_nf G c)).map fun j => ex_rv ad (ex_fv G h c a j)).set k (ex_rv ad (va_rf x))) := by
  rw [ex_cell_0 hk, ex_range_set]
  · show ex_rv ad (if ex_fk G c k = 2 then va_rf (if a = a ∧ k = k then x else h.2.2.2 a k) else _) = _
    rw [if_pos hf, if_pos ⟨rfl, rfl⟩]
  · intro j hj
    show ex_rv ad (if ex_fk G c j = 2 then va_rf (if a = a ∧ j = k then x else h.2.2.2 a j) else .int (h.2.2.1 a j)) = ex_rv ad (if ex_fk G c j = 2 then va_rf (h.2.2.2 a j) else .int (h.2.2.1 a j))
    rw [if_neg (c := a = a ∧ j = k) (fun q => hj q.2)]
end EXW
/-- the type of an array's elements, by its kind -/
def ex_ty (cn : Nat → String) : Nat → FieldType
  | 2 => .boolean
  | t + 3 => .object (cn t)
  | _ => .int
def ex_TY (G : ex_G) (cn : Nat → String) (ca : Nat → ClassId) (tys : List (ClassId × FieldType)) (n : Nat) : Prop := ∀ i, i < n → ∀ k z, ex_kd G i = (k + 1, z) → (ca (k + 1), ex_ty cn (k + 1)) ∈ tys
/-- the world: cells at base, base + 1, .. -/
def ex_ad (base b : Nat) (a : Nat) : Nat := if a = ex_scr then b else base + a
def ex_Wd (G : ex_G) (cn : Nat → String) (cl : List vw_C) (D : va_G) (ca : Nat → ClassId) (base b : Nat) (U : State) (H : Heap) (h : ex_Hp) : Prop :=
  h.1 ≤ ex_scr ∧ va_P D cl (ex_ws G ca (ex_ad base b) h) H ∧ va_D (fun q => base ≤ q) (ex_ws G ca (ex_ad base b) h) ∧ ∃ tys, va_K D cl tys U ∧ ex_TY G cn ca tys h.1
/-- what stays true of the tables -/
def ex_U (cn : Nat → String) (ca : Nat → ClassId) (nst : Cond → Prop) (ao : Nat → Prop) (base b L : Nat) (xs : Nat → Int32) (U : State) : Prop :=
  (∀ w, nst w → va_Nw w U) ∧ (∀ c, ao c → va_AO (cn c) U) ∧ (∀ k cA, U.vm.findClass ("[" ++ (ex_ty cn (k + 1)).toString) = some cA → cA = ca (k + 1)) ∧ va_X b L xs U U.heap ∧ b < base ∧ base ≤ U.heap.size
theorem ex_RA_find {U : State} {cn : Nat → String} {k : Nat} {cA : ClassId} (h : va_RA U cA (ex_ty cn (k + 1))) : U.vm.findClass ("[" ++ (ex_ty cn (k + 1)).toString) = some cA := by
  match k with
  | 0 => exact h
  | 1 => exact h
  | t + 2 =>
    obtain ⟨kA, comp, h1, h2, h3, h4⟩ := h
    exact h4
theorem ex_ad_lt {base b a : Nat} (h : a < ex_scr) : ex_ad base b a = base + a := if_neg (by omega)
section EXZ
variable {p : Program} {l : Launch} {e : Env} {R : Room} {s : State} {m : MethodId} {args : Array Value} {below : List Frame} {meth : Method} {c : Code} {H : Heap} {locs : List Loc} {cells slots : Nat} {Q : State → Prop}
theorem ex_W_size {g : JFrame} (k : H.size ≤ s.heap.size + cells → W p l e R s m args below meth c H locs cells slots Q g) : W p l e R s m args below meth c H locs cells slots Q g := by
  intro T hT X
  exact k (by rw [← hT]; exact X.heapSize) T hT X
/-- where the new cell lies -/
theorem ex_new_at {D : va_G} {cl : List vw_C} {base n q : Nat} {w : va_W} {x : va_E} (hP : va_P D cl (w ++ [(q, x)]) H) (hD : va_D (fun q => base ≤ q) (w ++ [(q, x)])) (hw : w.length = n) (ha : ∀ i, i < n → ∃ y, w[i]? = some (base + i, y)) (hs : H.size ≤ base + n + 1) : q = base + n := by
  have hq : (w ++ [(q, x)])[n]? = some (q, x) := by
    rw [List.getElem?_append_right (by omega), hw, Nat.sub_self]; rfl
  have h1 := hD.2 n _ hq
  have h2 := (hP n _ hq).lt
  dsimp only at h1 h2
  by_cases h3 : q < base + n
  · obtain ⟨y, hy⟩ := ha (q - base) (by omega)
    have e : base + (q - base) = q := by omega
    rw [e] at hy
    have hy' : (w ++ [(q, x)])[q - base]? = some (q, y) := by rw [List.getElem?_append_left (by omega)]; exact hy
    have := hD.1 _ _ _ _ hy' hq rfl
    omega
  · omega
end EXZ
