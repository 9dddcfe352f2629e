/-! the words of the tables by their places -/
def cb_TB : List Cond := lw_tbl.filter goodWord
theorem tb_of {w : Cond} (i : Nat) (h : lw_tbl[i]? = some w) (g : goodWord w = true) : w ∈ cb_TB := List.mem_filter.mpr ⟨List.mem_of_getElem? h, g⟩
def cb_isN : Cond → Bool
  | .fieldLinkNest _ _ _ _ _ h => decide (h = "CommandBuses")
  | .methodLinkNest _ _ _ h => decide (h = "CommandBuses")
  | _ => false
def cb_nst (w : Cond) : Prop := w ∈ lw_tbl ∧ cb_isN w = true
theorem nst_of {w : Cond} (i : Nat) (h : lw_tbl[i]? = some w) (g : cb_isN w = true) : cb_nst w := ⟨List.mem_of_getElem? h, g⟩
theorem cb_PN : ∀ w, cb_nst w → (∃ (a : String) (i : Nat) (x n d : String), w = .fieldLinkNest a i x n d "CommandBuses") ∨ (∃ (a : String) (i : Nat) (x : MethodName), w = .methodLinkNest a i x "CommandBuses") := by
  intro w hw
  have h := hw.2
  unfold cb_isN at h
  split at h
  · rename_i a i x n d hh
    have h := of_decide_eq_true h
    subst h
    exact Or.inl ⟨_, _, _, _, _, rfl⟩
  · rename_i a i x hh
    have h := of_decide_eq_true h
    subst h
    exact Or.inr ⟨_, _, _, rfl⟩
  · cases h
def cb_ao (c : Nat) : Prop := c = 4 ∨ c = 7
theorem cb_PG : ∀ w ∈ cb_TB, (w.onTables && w.keeps) = true ∨ ∃ ty, w = .arrayClass ty := fun _ hw => good_of_word (List.mem_filter.mp hw).2
theorem ws_of {C : String} {T : u_T} {N : Nat} (ix : List Nat) (h : ∀ k, k < N → lw_tbl[ix.getD k 0]? = some (u_lay C T k) ∧ goodWord (u_lay C T k) = true) : ∀ w ∈ u_ws C T N, w ∈ cb_TB := by
  intro w hw
  obtain ⟨k, hk, rfl⟩ := List.mem_map.mp hw
  obtain ⟨h1, h2⟩ := h k (List.mem_range.mp hk)
  exact tb_of _ h1 h2
def cb_tyB (f : Nat) (ty : Option FieldType) : Bool := match ty with
  | some .int => f == 0
  | some .boolean => f == 1
  | some (.object _) => f == 2
  | some (.array _) => f == 2
  | _ => false
theorem cb_tyP {f : Nat} {ty : Option FieldType} (h : cb_tyB f ty = true) : ty = some (ty.getD .int) ∧ (f = 0 ∧ ty.getD .int = .int ∨ f = 1 ∧ ty.getD .int = .boolean ∨ f = 2 ∧ ((∃ C, ty.getD .int = .object C) ∨ ∃ t, ty.getD .int = .array t)) := by
  unfold cb_tyB at h
  split at h
  · exact ⟨rfl, Or.inl ⟨by simpa using h, rfl⟩⟩
  · exact ⟨rfl, Or.inr (Or.inl ⟨by simpa using h, rfl⟩)⟩
  · exact ⟨rfl, Or.inr (Or.inr ⟨by simpa using h, Or.inl ⟨_, rfl⟩⟩)⟩
  · exact ⟨rfl, Or.inr (Or.inr ⟨by simpa using h, Or.inr ⟨_, rfl⟩⟩)⟩
  · cases h
theorem cOK_of {c : Nat} (h1 : cb_cl[c]? = some (cb_cn c, cb_TT c, cb_nf c)) (ix : List Nat) (h2 : ∀ k, k < cb_nf c → lw_tbl[ix.getD k 0]? = some (u_lay (cb_cn c) (cb_TT c) k) ∧ goodWord (u_lay (cb_cn c) (cb_TT c) k) = true) (h3 : ∀ k, k < cb_nf c → cb_tyB (cb_fk c k) (parseFieldDescriptor (cb_TT c k).2.2.1) = true)
    (h4 : ∀ a, a < cb_nf c → ∀ b, b < cb_nf c → a ≠ b → (cb_TT c a).2.1 ≠ (cb_TT c b).2.1) (h5 : ∀ k, k < cb_nf c → (cb_TT c k).1 = cb_cn c) (h6 : Cond.instantiable (cb_cn c) (cb_nf c) ∈ cb_TB) (h7 : Cond.initialized (cb_cn c) ∈ cb_TB) : ex_cOK cb_G cb_cn cb_TT cb_cl cb_TB c :=
  ⟨h1, ws_of ix h2, ⟨fun k => (parseFieldDescriptor (cb_TT c k).2.2.1).getD .int, fun k hk => cb_tyP (h3 k hk)⟩, h4, h5, h6, h7⟩
theorem cok_0 : ex_cOK cb_G cb_cn cb_TT cb_cl cb_TB 0 := cOK_of rfl [226, 228, 230, 232, 234] (by decide +kernel) (by decide +kernel) (by decide +kernel) (by decide +kernel) (tb_of 56 (by decide +kernel) (by decide +kernel)) (tb_of 40 (by decide +kernel) (by decide +kernel))
theorem cok_1 : ex_cOK cb_G cb_cn cb_TT cb_cl cb_TB 1 := cOK_of rfl [165, 167, 169] (by decide +kernel) (by decide +kernel) (by decide +kernel) (by decide +kernel) (tb_of 64 (by decide +kernel) (by decide +kernel)) (tb_of 41 (by decide +kernel) (by decide +kernel))
theorem cok_2 : ex_cOK cb_G cb_cn cb_TT cb_cl cb_TB 2 := cOK_of rfl [102, 104, 106] (by decide +kernel) (by decide +kernel) (by decide +kernel) (by decide +kernel) (tb_of 72 (by decide +kernel) (by decide +kernel)) (tb_of 42 (by decide +kernel) (by decide +kernel))
theorem cok_3 : ex_cOK cb_G cb_cn cb_TT cb_cl cb_TB 3 := cOK_of rfl [87, 89, 91] (by decide +kernel) (by decide +kernel) (by decide +kernel) (by decide +kernel) (tb_of 78 (by decide +kernel) (by decide +kernel)) (tb_of 43 (by decide +kernel) (by decide +kernel))
theorem cok_4 : ex_cOK cb_G cb_cn cb_TT cb_cl cb_TB 4 := cOK_of rfl [135, 137, 139, 141, 143, 145, 147, 149, 151, 153, 155] (by decide +kernel) (by decide +kernel) (by decide +kernel) (by decide +kernel) (tb_of 109 (by decide +kernel) (by decide +kernel)) (tb_of 45 (by decide +kernel) (by decide +kernel))
theorem cok_5 : ex_cOK cb_G cb_cn cb_TT cb_cl cb_TB 5 := cOK_of rfl [189, 191, 193, 195, 197] (by decide +kernel) (by decide +kernel) (by decide +kernel) (by decide +kernel) (tb_of 173 (by decide +kernel) (by decide +kernel)) (tb_of 46 (by decide +kernel) (by decide +kernel))
theorem cok_6 : ex_cOK cb_G cb_cn cb_TT cb_cl cb_TB 6 := cOK_of rfl [212, 214, 216, 218] (by decide +kernel) (by decide +kernel) (by decide +kernel) (by decide +kernel) (tb_of 201 (by decide +kernel) (by decide +kernel)) (tb_of 47 (by decide +kernel) (by decide +kernel))
theorem cok_7 : ex_cOK cb_G cb_cn cb_TT cb_cl cb_TB 7 := cOK_of rfl [362, 364, 366, 368, 370, 372, 374, 376, 378] (by decide +kernel) (by decide +kernel) (by decide +kernel) (by decide +kernel) (tb_of 338 (by decide +kernel) (by decide +kernel)) (tb_of 52 (by decide +kernel) (by decide +kernel))
theorem cok_8 : ex_cOK cb_G cb_cn cb_TT cb_cl cb_TB 8 := cOK_of rfl [647, 649, 651, 653, 655, 657, 659, 661, 663, 665, 667, 669, 671, 673, 675, 677, 679, 681, 683, 685, 687, 689, 691, 693, 695, 697, 699, 701, 703, 705, 707, 709, 711, 713] (by decide +kernel) (by decide +kernel) (by decide +kernel) (by decide +kernel) (tb_of 608 (by decide +kernel) (by decide +kernel)) (tb_of 48 (by decide +kernel) (by decide +kernel))
