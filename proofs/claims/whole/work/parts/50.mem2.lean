theorem ex_TY_push {G : ex_G} {cn : Nat → String} {ca : Nat → ClassId} {tys tys' : List (ClassId × FieldType)} {n k z : Nat} (hT : ex_TY G cn ca tys n) (hs : ∀ q ∈ tys, q ∈ tys') (hk : ex_kd G n = (k + 1, z)) (hm : (ca (k + 1), ex_ty cn (k + 1)) ∈ tys') : ex_TY G cn ca tys' (n + 1) := by
  intro i hi k' z' hk'
  by_cases h : i = n
  · subst h
    rw [hk] at hk'
    cases hk'
    exact hm
  · exact hs _ (hT i (by omega) k' z' hk')
theorem ex_TY_obj {G : ex_G} {cn : Nat → String} {ca : Nat → ClassId} {tys : List (ClassId × FieldType)} {n z : Nat} (hT : ex_TY G cn ca tys n) (hk : ex_kd G n = (0, z)) : ex_TY G cn ca tys (n + 1) := by
  intro i hi k' z' hk'
  by_cases h : i = n
  · subst h
    rw [hk] at hk'
    cases hk'
  · exact hT i (by omega) k' z' hk'
section EXN
variable {p : Program} {l : Launch} {e : Env} {R : Room} {s : State} {m : MethodId} {args : Array Value} {below : List Frame} {meth : Method} {c : Code} {H : Heap} {locs : List Loc} {cells slots : Nat} {Q : State → Prop}
variable {cc : ByteArray} {pc : Nat} {ls : Array Slot} {rest : List Value}
variable {G : ex_G} {cn : Nat → String} {TT : Nat → u_T} {cl : List vw_C} {TB : List Cond} {nst : Cond → Prop} {ao : Nat → Prop} {host : String} {D : va_G} {ca : Nat → ClassId} {base b L : Nat} {xs : Nat → Int32} {h h' : ex_Hp}
theorem ex_hN_I {n : Nat} : (ex_hN h n).2.2.1 h.1 = fun _ => 0 := by
  funext j
  exact if_pos rfl
theorem ex_hN_P {n : Nat} : (ex_hN h n).2.2.2 h.1 = fun _ => none := by
  funext j
  exact if_pos rfl
theorem ex_newa_ok (hexec : p.tables.exec = Jvm.exec) (hb : c.code = cc) (hU : ex_U cn ca nst ao base b L xs s) (hw : ex_Wd G cn cl D ca base b s H h) (hS : va_S (fun q => base ≤ q) s.heap H locs) (hsc : s.heap.size + cells = base + h.1)
    {atype : ArrayType} {k : Nat} (harr : (Cond.arrayClass (newarray.typeOf atype)).before args s = true) (hty : newarray.typeOf atype = ex_ty cn (k + 1)) (hk2 : k < 2) {n : Int32} (hn : ¬ n < 0) (hn2 : n.toNatClampNeg ≤ 1000) (hz : h.1 < ex_scr) (hk : ex_kd G h.1 = (k + 1, n.toNatClampNeg))
    (hcells : cells + 1 ≤ R.cells) (hslots : slots + n.toNatClampNeg ≤ R.slots) (hdg : decode cc pc = .ok (.newarray atype, 2))
    (kk : ∀ H1 : Heap, ex_Wd G cn cl D ca base b s H1 (ex_hN h n.toNatClampNeg) → va_S (fun q => base ≤ q) s.heap H1 locs → W p l e R s m args below meth c H1 locs (cells + 1) (slots + n.toNatClampNeg) Q (F0 m (pc + 2) ls (.ref (ex_ad base b h.1) :: rest))) : W p l e R s m args below meth c H locs cells slots Q (F0 m pc ls (.int n :: rest)) := by
  have hw0 := hw
  obtain ⟨-, hP, hD, tys, hK, hT⟩ := hw
  have hdef : ∀ cA : ClassId, vp_cell cA (n.toNatClampNeg, .inl (fun _ => 0)) = arrV cA n.toNatClampNeg (fun _ => defaultValue (ex_ty cn (k + 1))) := by
    intro cA
    rcases (by omega : k = 0 ∨ k = 1) with rfl | rfl <;> rfl
  have hby : n.toNatClampNeg * componentBytes (ex_ty cn (k + 1)) ≤ 536870912 := by
    rcases (by omega : k = 0 ∨ k = 1) with rfl | rfl
    · show _ * 4 ≤ _; omega
    · show _ * 1 ≤ _; omega
  refine va_newa hexec hb harr hty hK hP hD hS (fun q hq => Nat.le_trans hU.2.2.2.2.2 hq) hdef hn rfl hby hcells hslots hdg (fun q cA H1 K1 P1 D1 S1 => ex_W_size (fun hz1 => ?_))
  have hcA : cA = ca (k + 1) := hU.2.2.1 k cA (ex_RA_find (K1.2 tys.length _ (by rw [List.getElem?_append_right (Nat.le_refl _), Nat.sub_self]; rfl)).2)
  subst hcA
  obtain ⟨rfl, W1⟩ := ex_Wd_new (n := n.toNatClampNeg) hw0 hz (by omega) (by
    rcases (by omega : k = 0 ∨ k = 1) with rfl | rfl
    · rw [ex_cell_1 hk, ex_hN_I]
    · rw [ex_cell_2 hk, ex_hN_I]) P1 D1 K1 (ex_TY_push hT (fun q hq => List.mem_append_left _ hq) hk (List.mem_append_right _ List.mem_cons_self))
  exact kk H1 W1 S1
theorem ex_newq_ok (hexec : p.tables.exec = Jvm.exec) (hb : c.code = cc) (hU : ex_U cn ca nst ao base b L xs s) (hw : ex_Wd G cn cl D ca base b s H h) (hS : va_S (fun q => base ≤ q) s.heap H locs) (hsc : s.heap.size + cells = base + h.1)
    {o i t : Nat} (hown : s.vm.findClass (cn o) = some m.cls) (hcl : (Cond.classLink (cn o) i (cn t)).before args s = true) (hao : ao t) {n : Int32} (hn : ¬ n < 0) (hn2 : n.toNatClampNeg ≤ 1000) (hz : h.1 < ex_scr) (hk : ex_kd G h.1 = (t + 3, n.toNatClampNeg))
    (hcells : cells + 1 ≤ R.cells) (hslots : slots + n.toNatClampNeg ≤ R.slots) (hdg : decode cc pc = .ok (.anewarray i, 3))
    (kk : ∀ H1 : Heap, ex_Wd G cn cl D ca base b s H1 (ex_hN h n.toNatClampNeg) → va_S (fun q => base ≤ q) s.heap H1 locs → W p l e R s m args below meth c H1 locs (cells + 1) (slots + n.toNatClampNeg) Q (F0 m (pc + 3) ls (.ref (ex_ad base b h.1) :: rest))) : W p l e R s m args below meth c H locs cells slots Q (F0 m pc ls (.int n :: rest)) := by
  have hw0 := hw
  obtain ⟨-, hP, hD, tys, hK, hT⟩ := hw
  refine va_newq hexec hb hown hcl (hU.2.1 t hao) hK hP hD hS (fun q hq => Nat.le_trans hU.2.2.2.2.2 hq) hn rfl (by omega) hcells hslots hdg (fun q cA H1 K1 P1 D1 S1 => ex_W_size (fun hz1 => ?_))
  have hcA : cA = ca (t + 3) := hU.2.2.1 (t + 2) cA (ex_RA_find (cn := cn) (k := t + 2) (K1.2 tys.length _ (by rw [List.getElem?_append_right (Nat.le_refl _), Nat.sub_self]; rfl)).2)
  subst hcA
  obtain ⟨rfl, W1⟩ := ex_Wd_new (n := n.toNatClampNeg) hw0 hz (by omega) (by
    rw [ex_cell_3 hk, ex_hN_P]; rfl) P1 D1 K1 (ex_TY_push hT (fun q hq => List.mem_append_left _ hq) hk (List.mem_append_right _ List.mem_cons_self))
  exact kk H1 W1 S1
theorem ex_new_ok (hexec : p.tables.exec = Jvm.exec) (hb : c.code = cc) (hts : ∀ w ∈ TB, w.before args s = true) (hU : ex_U cn ca nst ao base b L xs s) (hw : ex_Wd G cn cl D ca base b s H h) (hS : va_S (fun q => base ≤ q) s.heap H locs) (hsc : s.heap.size + cells = base + h.1)
    {o i t : Nat} (hown : s.vm.findClass (cn o) = some m.cls) (hcl : (Cond.classLink (cn o) i (cn t)).before args s = true) (hc : ex_cOK G cn TT cl TB t) (hz : h.1 < ex_scr) (hk : ex_kd G h.1 = (0, t))
    (hcells : cells + 1 ≤ R.cells) (hslots : slots + ex_nf G t ≤ R.slots) (hdg : decode cc pc = .ok (.new i, 3))
    (kk : ∀ H1 : Heap, ex_Wd G cn cl D ca base b s H1 (ex_hN h (ex_nf G t)) → va_S (fun q => base ≤ q) s.heap H1 locs → W p l e R s m args below meth c H1 locs (cells + 1) (slots + ex_nf G t) Q (F0 m (pc + 3) ls (.ref (ex_ad base b h.1) :: rest))) : W p l e R s m args below meth c H locs cells slots Q (F0 m pc ls rest) := by
  have hw0 := hw
  obtain ⟨-, hP, hD, tys, hK, hT⟩ := hw
  obtain ⟨hc1, hin, ⟨ty0, hty⟩, hnm, hdc, hinst, hini⟩ := hc
  have hfs : ∀ j, j < ex_nf G t → defaultValue (ty0 j) = vp_V ((List.range (ex_nf G t)).map fun k => ex_rv (ex_ad base b) (ex_fv G (ex_hN h (ex_nf G t)) t h.1 k)) j := by
    intro j hj
    unfold vp_V
    rw [List.getD_eq_getElem?_getD, ex_fs_get hj]
    show _ = ex_rv _ (ex_fv G _ t h.1 j)
    unfold ex_fv
    rw [ex_hN_I, ex_hN_P]
    rcases (hty j hj).2 with ⟨q1, q2⟩ | ⟨q1, q2⟩ | ⟨q1, ⟨C, q2⟩ | ⟨C, q2⟩⟩ <;> rw [q1, q2] <;> rfl
  refine va_new hexec hb hts hin ty0 (fun j hj => (hty j hj).1) hown hcl (hts _ hinst) (hts _ hini) hK hP hD hS (fun q hq => Nat.le_trans hU.2.2.2.2.2 hq) hc1 hfs hcells hslots hdg (fun q H1 P1 D1 S1 => ex_W_size (fun hz1 => ?_))
  obtain ⟨rfl, W1⟩ := ex_Wd_new (n := ex_nf G t) hw0 hz (by omega) (ex_cell_0 hk) P1 D1 hK (ex_TY_obj hT hk)
  exact kk H1 W1 S1
theorem ex_copy_ok (hexec : p.tables.exec = Jvm.exec) (hb : c.code = cc) (hml : c.maxLocals = ls.size) {o i : Nat} (hown : s.vm.findClass (cn o) = some m.cls) (hlink : (Cond.methodLink (cn o) i arraycopyName).before args s = true) (hnat : (Cond.native arraycopyName).before args s = true) (hstat : (Cond.static arraycopyName).before args s = true) (hini : (Cond.initialized "java/lang/System").before args s = true)
    (hw : ex_Wd G cn cl D ca base b s H h) (hS : va_S (fun q => base ≤ q) s.heap H locs) {a0 a n0 n1 : Nat} (ha0 : a0 < h.1) (ha : a < h.1) (hk0 : ex_kd G a0 = (1, n0)) (hk : ex_kd G a = (1, n1))
    {sp dp n : Int32} (h1 : ¬ sp < 0) (h2 : ¬ dp < 0) (h3 : ¬ n < 0) (h4 : sp.toNatClampNeg + n.toNatClampNeg ≤ n0) (h5 : dp.toNatClampNeg + n.toNatClampNeg ≤ n1) (hframes : 1 ≤ R.frames) (hlocals : (rest.map fun v => v.category).sum + 18 ≤ R.locals) (hdg : decode cc pc = .ok (.invokestatic i, 3))
    (kk : ∀ (H1 : Heap) (locs1 : List Loc), ex_Wd G cn cl D ca base b s H1 (h.1, h.2.1, ex_copy h.2.2.1 a0 sp.toNatClampNeg a dp.toNatClampNeg n.toNatClampNeg, h.2.2.2) → va_S (fun q => base ≤ q) s.heap H1 locs1 → W p l e R s m args below meth c H1 locs1 cells slots Q (F0 m (pc + 3) ls rest)) :
    W p l e R s m args below meth c H locs cells slots Q (F0 m pc ls (.int n :: .int dp :: .ref (ex_ad base b a) :: .int sp :: .ref (ex_ad base b a0) :: rest)) := by
  obtain ⟨tys, t0, hK, h0⟩ := ex_ty_at hw ha hk
  have hc0 : ca (0 + 1) = ca 1 := rfl
  refine va_copyi hexec hb hml hown hlink hnat hstat hini hK hw.2.1 hw.2.2.1 hS a0 a t0 t0 (ty := .int) (ex_ws_at ha0 (ex_cell_1 hk0)) (ex_ws_at ha (ex_cell_1 hk)) h0 h0 rfl h1 h2 h3 h4 h5 (fun i hi => rfl) hframes hlocals hdg (fun H1 locs1 p1 d1 s1 => kk H1 locs1 (ex_Wd_of hw ha rfl ?_ (fun i hi => ?_) (fun i hi => rfl) p1 d1) s1)
  · rw [ex_cell_1 hk]
    show (Sum.inl (ca 1, n1, Sum.inl (ex_copy h.2.2.1 a0 sp.toNatClampNeg a dp.toNatClampNeg n.toNatClampNeg a)) : va_E) = _
    have e1 : ex_copy h.2.2.1 a0 sp.toNatClampNeg a dp.toNatClampNeg n.toNatClampNeg a = va_cpy (h.2.2.1 a0) (h.2.2.1 a) sp.toNatClampNeg dp.toNatClampNeg n.toNatClampNeg := by
      funext j
      exact if_pos rfl
    rw [e1]
  · funext j
    exact if_neg hi
end EXN
