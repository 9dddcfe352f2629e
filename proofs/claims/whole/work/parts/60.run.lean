/-- a method's table and words; K: the words of locals for a frame -/
def ex_mB (G : ex_G) (cn : Nat → String) (TB : List Cond) (ym : Nat → MethodName) (bt : Nat → ByteArray) (rT : Nat → Option FieldType) (y : Nat) : Prop :=
  Cond.code (ym y) (bt y) (ex_mx G y) (rT y) ∈ TB ∧ plainName (ym y).cls = true ∧ (ym y).cls = cn (ex_ow G y) ∧ ex_mx G y ≤ 18 ∧
  (match ex_rt G y with
    | 0 => rT y = none
    | 1 => rT y = some .int
    | 2 => rT y = some .boolean
    | 3 => rT y = some .long
    | 4 => ∃ C, rT y = some (.object C)
    | 5 => rT y = none ∧ (ym y).name = "<init>"
    | _ => False) ∧
  (∀ pc ins, ex_look (ex_cd G y) pc = some ins → ex_dec (bt y) pc ins)
/-- a callee's words -/
def ex_mK (G : ex_G) (cn : Nat → String) (TB : List Cond) (ym : Nat → MethodName) (bt : Nat → ByteArray) (rT : Nat → Option FieldType) (y n : Nat) : Prop :=
  ex_mB G cn TB ym bt rT y ∧ Cond.initialized (ym y).cls ∈ TB ∧ (ym y).cls ≠ "java/lang/invoke/MethodHandle" ∧ (ym y).cls ≠ "java/lang/invoke/VarHandle" ∧ (parseMethodDescriptor (ym y).desc).map (fun d => d.parameters.length) = some n
def ex_lOK (G : ex_G) (cn : Nat → String) (TT : Nat → u_T) (cl : List vw_C) (TB : List Cond) (nst : Cond → Prop) (ao : Nat → Prop) (host : String) (ym : Nat → MethodName) (bt : Nat → ByteArray) (rT : Nat → Option FieldType) (o i : Nat) (r : ex_Lk) : Prop := match r with
  | (0, c, k, z) => ex_fL G cn TT cl TB nst host o i 0 c k z
  | (1, c, k, z) => ex_fL G cn TT cl TB nst host o i 1 c k z
  | (2, y, n, _) => ex_mK G cn TB ym bt rT y n ∧ ex_cOK G cn TT cl TB (ex_ow G y) ∧ Cond.instanceMethod (ym y) ∈ TB ∧ Cond.selects (cn (ex_ow G y)) (ym y) (ym y) ∈ TB ∧ Cond.methodLink (cn o) i (ym y) ∈ TB
  | (3, y, n, _) => ex_mK G cn TB ym bt rT y n ∧ ex_cOK G cn TT cl TB (ex_ow G y) ∧ Cond.instanceMethod (ym y) ∈ TB ∧ Cond.selects (cn (ex_ow G y)) (ym y) (ym y) ∈ TB ∧ nst (Cond.methodLinkNest (cn o) i (ym y) host)
  | (4, y, n, _) => ex_mK G cn TB ym bt rT y n ∧ Cond.static (ym y) ∈ TB ∧ Cond.methodLink (cn o) i (ym y) ∈ TB
  | (5, y, n, _) => ex_mK G cn TB ym bt rT y n ∧ Cond.static (ym y) ∈ TB ∧ nst (Cond.methodLinkNest (cn o) i (ym y) host)
  | (6, y, n, _) => ex_mK G cn TB ym bt rT y n ∧ ex_rt G y = 5 ∧ Cond.instanceMethod (ym y) ∈ TB ∧ Cond.methodLink (cn o) i (ym y) ∈ TB
  | (7, y, n, _) => ex_mK G cn TB ym bt rT y n ∧ ex_rt G y = 5 ∧ Cond.instanceMethod (ym y) ∈ TB ∧ nst (Cond.methodLinkNest (cn o) i (ym y) host)
  | (8, _, _, _) => Cond.methodLink (cn o) i Lib.objectInit ∈ TB ∧ Cond.instanceMethod Lib.objectInit ∈ TB ∧ Cond.code Lib.objectInit ⟨#[0xb1]⟩ 1 none ∈ TB
  | (9, c, k, _) => ex_cOK G cn TT cl TB c ∧ Cond.classLink (cn o) i (cn c) ∈ TB ∧ (k = 1 → ao c)
  | (11, _, _, z) => Cond.constant (cn o) i (Int32.ofInt z) ∈ TB
  | (12, _, _, z) => Cond.constantLong (cn o) i (Int64.ofInt z) ∈ TB
  | (13, _, _, _) => Cond.methodLink (cn o) i arraycopyName ∈ TB ∧ Cond.native arraycopyName ∈ TB ∧ Cond.static arraycopyName ∈ TB ∧ Cond.initialized "java/lang/System" ∈ TB
  | (14, _, _, _) => Cond.methodLink (cn o) i Lib.Math.max.name ∈ TB ∧ Cond.static Lib.Math.max.name ∈ TB ∧ Cond.initialized "java/lang/Math" ∈ TB ∧ Cond.code Lib.Math.max.name Lib.Math.max.code 2 (some .int) ∈ TB
  | _ => False
/-- the program's facts -/
def ex_PF (G : ex_G) (cn : Nat → String) (TT : Nat → u_T) (cl : List vw_C) (TB : List Cond) (nst : Cond → Prop) (ao : Nat → Prop) (host : String) (ym : Nat → MethodName) (bt : Nat → ByteArray) (rT : Nat → Option FieldType) : Prop :=
  (∀ w ∈ TB, (w.onTables && w.keeps) = true ∨ ∃ ty, w = .arrayClass ty) ∧
  (∀ w, nst w → (∃ (a : String) (i : Nat) (x n d : String), w = .fieldLinkNest a i x n d host) ∨ (∃ (a : String) (i : Nat) (x : MethodName), w = .methodLinkNest a i x host)) ∧
  (Cond.arrayClass .int ∈ TB ∧ Cond.arrayClass .boolean ∈ TB) ∧
  (∀ o i r, ex_look (ex_lt G o) i = some r → ex_lOK G cn TT cl TB nst ao host ym bt rT o i r) ∧
  (∀ i c, ex_kd G i = (0, c) → ex_cOK G cn TT cl TB c)
section EXR
variable {p : Program} {l : Launch} {e : Env} {R : Room} {s : State} {m : MethodId} {args : Array Value} {below : List Frame} {meth : Method} {c : Code} {H : Heap} {locs : List Loc} {cells slots : Nat} {Q : State → Prop}
variable {cc : ByteArray} {pc : Nat} {ls : Array Slot} {rest : List Value}
variable {G : ex_G} {cn : Nat → String} {TT : Nat → u_T} {cl : List vw_C} {TB : List Cond} {nst : Cond → Prop} {ao : Nat → Prop} {host : String} {ym : Nat → MethodName} {bt : Nat → ByteArray} {rT : Nat → Option FieldType} {D : va_G} {ca : Nat → ClassId} {base b L : Nat} {xs : Nat → Int32} {h h' : ex_Hp}
/-- the facts of a frame of method mi -/
def ex_Fr (G : ex_G) (cn : Nat → String) (TB : List Cond) (bt : Nat → ByteArray) (rT : Nat → Option FieldType) (p : Program) (s : State) (m : MethodId) (args : Array Value) (meth : Method) (c : Code) (mi : Nat) : Prop :=
  p.tables.exec = Jvm.exec ∧ c.code = bt mi ∧ c.maxLocals = ex_mx G mi ∧ s.vm.findClass (cn (ex_ow G mi)) = some m.cls ∧ (∀ w ∈ TB, w.before args s = true) ∧ (ex_rt G mi = 5 → meth.name = "<init>") ∧ meth.sig.returnType = rT mi ∧ meth.locks = false
theorem ex_cat_sum (ad : Nat → Nat) (u : List Value) : ((u.map (ex_rv ad)).map fun v => v.category).sum = (u.map fun v => v.category).sum := by
  rw [List.map_map]
  congr 1
  apply List.map_congr_left
  intro v _
  exact ex_rv_cat ad v
set_option maxHeartbeats 4000000 in
theorem ex_mem_ok (PF : ex_PF G cn TT cl TB nst ao host ym bt rT) {d mi n0 k0 : Nat} (F : ex_Fr G cn TB bt rT p s m args meth c mi) (hU : ex_U cn ca nst ao base b L xs s) (hls : ls.size = ex_mx G mi) (hR : 1 ≤ d → 1 ≤ R.frames ∧ 37 ≤ R.locals) (hw : ex_Wd G cn cl D ca base b s H h) (hS : va_S (fun q => base ≤ q) s.heap H locs)
    (h0 : s.heap.size = base + n0) (hn0 : n0 ≤ h.1) (hk0 : k0 ≤ h.2.1) (hfc : h'.1 ≤ n0 + R.cells) (hfs : h'.2.1 ≤ k0 + R.slots) {st st' : List Value} {ins : Instr} (hx : ex_mem G (L + 1) xs d mi st h ins = some (st', h')) (hd : ex_dec (bt mi) pc ins)
    (kk : ∀ (H1 : Heap) (locs1 : List Loc), ex_Wd G cn cl D ca base b s H1 h' → va_S (fun q => base ≤ q) s.heap H1 locs1 → W p l e R s m args below meth c H1 locs1 (h'.1 - n0) (h'.2.1 - k0) Q (F0 m (pc + ex_len ins) ls (st'.map (ex_rv (ex_ad base b))))) :
    W p l e R s m args below meth c H locs (h.1 - n0) (h.2.1 - k0) Q (F0 m pc ls (st.map (ex_rv (ex_ad base b)))) := by
  obtain ⟨hexec, hb, hml, hown, hts, hnam, -, -⟩ := F
  obtain ⟨PG, PN, PA, PL, PC⟩ := PF
  cases ins with
  | getfield i =>
    simp only [ex_mem] at hx
    split at hx
    · rename_i tag c0 k z hlk
      split at hx
      · rename_i ht
        obtain ⟨a, t, rfl, hxq1⟩ := ex_pa_some hx
        split at hxq1
        · rename_i hc
          obtain ⟨h1, h2, h3⟩ := hc
          cases hxq1
          have hok := PL _ _ _ hlk
          have hok : ex_fL G cn TT cl TB nst host (ex_ow G mi) i tag c0 k z := by
            rcases (by omega : tag = 0 ∨ tag = 1) with rfl | rfl <;> exact hok
          exact ex_get_ok hexec hb hts hU.1 hok hown hw h1 h2 h3 hd (kk H locs hw hS)
        · cases hxq1
      · cases hx
    · cases hx
  | putfield i =>
    simp only [ex_mem] at hx
    split at hx
    · rename_i tag c0 k z hlk
      split at hx
      · rename_i ht
        have hok := PL _ _ _ hlk
        have hok : ex_fL G cn TT cl TB nst host (ex_ow G mi) i tag c0 k z := by
          rcases ht.1 with rfl | ⟨rfl, -⟩ <;> exact hok
        have hz : z = 0 ∨ tag = 0 ∧ z = 1 ∧ ex_ow G mi = c0 ∧ meth.name = "<init>" := by
          rcases ht.2 with hz | ⟨hz, ho, hr⟩
          · exact Or.inl hz
          · rcases ht.1 with h0 | ⟨-, h0⟩
            · exact Or.inr ⟨h0, hz, ho, hnam hr⟩
            · exact Or.inl h0
        split at hx
        · rename_i hf
          obtain ⟨v, t, rfl, hxq2⟩ := ex_pn_some hx
          obtain ⟨a, u, rfl, hxq3⟩ := ex_pa_some hxq2
          split at hxq3
          · rename_i hc
            obtain ⟨h1, h2, h3⟩ := hc
            cases hxq3
            exact ex_putP_ok hexec hb hts hU.1 hok hown hw hS h1 h2 h3 hz hf hd kk
          · cases hxq3
        · rename_i hf
          obtain ⟨v, t, rfl, hxq4⟩ := ex_pi_some hx
          obtain ⟨a, u, rfl, hxq5⟩ := ex_pa_some hxq4
          split at hxq5
          · rename_i hc
            obtain ⟨h1, h2, h3, h4⟩ := hc
            cases hxq5
            exact ex_putI_ok hexec hb hts hU.1 hok hown hw hS h1 h2 h3 hz h4 hd kk
          · cases hxq5
      · cases hx
    · cases hx
  | iaload =>
    simp only [ex_mem] at hx
    obtain ⟨i, t, rfl, hxq6⟩ := ex_pi_some hx
    obtain ⟨a, u, rfl, hxq7⟩ := ex_pa_some hxq6
    split at hxq7
    · rename_i ha
      split at hxq7
      · rename_i hi
        cases hxq7
        subst ha
        have e1 : ex_ad base b ex_scr = b := if_pos rfl
        have g := va_sld (l := l) (e := e) (R := R) (below := below) (meth := meth) (cells := h.1 - n0) (slots := h.2.1 - k0) (Q := Q) (args := args) (m := m) (ls := ls) (rest := u.map (ex_rv (ex_ad base b))) hexec hb hU.2.2.2.1 (Nat.lt_of_lt_of_le hU.2.2.2.2.1 hU.2.2.2.2.2) (A := fun q => base ≤ q) (fun q => absurd hU.2.2.2.2.1 (Nat.not_lt.mpr q)) hS (ex_in_vp hi) hd (kk H locs hw hS)
        rw [← e1] at g
        exact g
      · cases hxq7
    · split at hxq7
      · rename_i hc
        obtain ⟨h1, h2, h3⟩ := hc
        cases hxq7
        exact ex_iald_ok hexec hb hw h1 (n := (ex_kd G a).2) (by rw [← h2]) h3 hd (kk H locs hw hS)
      · cases hxq7
  | baload =>
    simp only [ex_mem] at hx
    obtain ⟨i, t, rfl, hxq8⟩ := ex_pi_some hx
    obtain ⟨a, u, rfl, hxq9⟩ := ex_pa_some hxq8
    split at hxq9
    · rename_i hc
      obtain ⟨h1, h2, h3⟩ := hc
      cases hxq9
      exact ex_zald_ok hexec hb hw h1 (n := (ex_kd G a).2) (by rw [← h2]) h3 hd (kk H locs hw hS)
    · cases hxq9
  | aaload =>
    simp only [ex_mem] at hx
    obtain ⟨i, t, rfl, hxq10⟩ := ex_pi_some hx
    obtain ⟨a, u, rfl, hxq11⟩ := ex_pa_some hxq10
    split at hxq11
    · rename_i hc
      obtain ⟨h1, h2, h3⟩ := hc
      cases hxq11
      exact ex_aald_ok hexec hb hw h1 (t := (ex_kd G a).1 - 3) (n := (ex_kd G a).2) (by rw [Nat.sub_add_cancel h2]) h3 hd (kk H locs hw hS)
    · cases hxq11
  | iastore =>
    simp only [ex_mem] at hx
    obtain ⟨x, s1, rfl, hxq12⟩ := ex_pi_some hx
    obtain ⟨i, t, rfl, hxq13⟩ := ex_pi_some hxq12
    obtain ⟨a, u, rfl, hxq14⟩ := ex_pa_some hxq13
    split at hxq14
    · rename_i hc
      obtain ⟨h1, h2, h3⟩ := hc
      cases hxq14
      exact ex_iast_ok hexec hb hw hS h1 (n := (ex_kd G a).2) (by rw [← h2]) h3 hd kk
    · cases hxq14
  | bastore =>
    simp only [ex_mem] at hx
    obtain ⟨x, s1, rfl, hxq15⟩ := ex_pi_some hx
    obtain ⟨i, t, rfl, hxq16⟩ := ex_pi_some hxq15
    obtain ⟨a, u, rfl, hxq17⟩ := ex_pa_some hxq16
    split at hxq17
    · rename_i hc
      obtain ⟨h1, h2, h3, h4⟩ := hc
      cases hxq17
      exact ex_zast_ok hexec hb hw hS h1 (n := (ex_kd G a).2) (by rw [← h2]) h3 h4 hd kk
    · cases hxq17
  | aastore =>
    simp only [ex_mem] at hx
    obtain ⟨x, s1, rfl, hxq18⟩ := ex_pa_some hx
    obtain ⟨i, t, rfl, hxq19⟩ := ex_pi_some hxq18
    obtain ⟨a, u, rfl, hxq20⟩ := ex_pa_some hxq19
    split at hxq20
    · rename_i hc
      obtain ⟨h1, h2, h3, h4, h5⟩ := hc
      cases hxq20
      have hkx : ex_kd G x = (0, (ex_kd G x).2) := by rw [← h4]
      exact ex_aast_ok hexec hb hw hS h1 (t := (ex_kd G x).2) (n := (ex_kd G a).2) (by rw [Nat.add_comm, ← h3]) h2 hkx (PC _ _ hkx) h5 hd kk
    · cases hxq20
  | arraylength =>
    simp only [ex_mem] at hx
    obtain ⟨a, u, rfl, hxq21⟩ := ex_pa_some hx
    split at hxq21
    · rename_i ha
      rw [if_neg (Nat.succ_ne_zero L)] at hxq21
      cases hxq21
      subst ha
      have e1 : ex_ad base b ex_scr = b := if_pos rfl
      have g := va_slen (l := l) (e := e) (R := R) (below := below) (meth := meth) (cells := h.1 - n0) (slots := h.2.1 - k0) (Q := Q) (args := args) (m := m) (ls := ls) (rest := u.map (ex_rv (ex_ad base b))) hexec hb hU.2.2.2.1 (Nat.lt_of_lt_of_le hU.2.2.2.2.1 hU.2.2.2.2.2) (A := fun q => base ≤ q) (fun q => absurd hU.2.2.2.2.1 (Nat.not_lt.mpr q)) hS hd (kk H locs hw hS)
      rw [← e1] at g
      exact g
    · split at hxq21
      · rename_i hc
        obtain ⟨h1, h2⟩ := hc
        cases hxq21
        exact ex_alen_ok hexec hb hw h1 (k := (ex_kd G a).1 - 1) (n := (ex_kd G a).2) (by rw [Nat.sub_add_cancel h2]) hd (kk H locs hw hS)
      · cases hxq21
  | newarray ty =>
    simp only [ex_mem] at hx
    obtain ⟨n, u, rfl, hxq22⟩ := ex_pi_some hx
    split at hxq22
    · rename_i hc
      obtain ⟨h1, h2, h3, h4⟩ := hc
      cases hxq22
      have q1 : h.1 + 1 ≤ n0 + R.cells := hfc
      have q2 : h.2.1 + n.toNatClampNeg ≤ k0 + R.slots := hfs
      have kk2 : ∀ H1 : Heap, ex_Wd G cn cl D ca base b s H1 (ex_hN h n.toNatClampNeg) → va_S (fun q => base ≤ q) s.heap H1 locs → W p l e R s m args below meth c H1 locs (h.1 - n0 + 1) (h.2.1 - k0 + n.toNatClampNeg) Q (F0 m (pc + 2) ls (.ref (ex_ad base b h.1) :: u.map (ex_rv (ex_ad base b)))) := by
        intro H1 w1 s1
        have g := kk H1 locs w1 s1
        rw [show (ex_hN h n.toNatClampNeg).1 - n0 = h.1 - n0 + 1 from by show h.1 + 1 - n0 = _; omega, show (ex_hN h n.toNatClampNeg).2.1 - k0 = h.2.1 - k0 + n.toNatClampNeg from by show h.2.1 + n.toNatClampNeg - k0 = _; omega] at g
        exact g
      rcases h4 with ⟨rfl, h4⟩ | ⟨rfl, h4⟩
      · exact ex_newa_ok hexec hb hU hw hS (by omega) (atype := .int) (k := 0) (hts _ PA.1) rfl (by omega) h1 h2 h3 h4 (by omega) (by omega) hd kk2
      · exact ex_newa_ok hexec hb hU hw hS (by omega) (atype := .boolean) (k := 1) (hts _ PA.2) rfl (by omega) h1 h2 h3 h4 (by omega) (by omega) hd kk2
    · cases hxq22
  | anewarray i =>
    simp only [ex_mem] at hx
    split at hx
    · rename_i tag c0 k z hlk
      obtain ⟨n, u, rfl, hxq23⟩ := ex_pi_some hx
      split at hxq23
      · rename_i hc
        obtain ⟨⟨rfl, rfl⟩, h1, h2, h3, h4⟩ := hc
        cases hxq23
        have q1 : h.1 + 1 ≤ n0 + R.cells := hfc
        have q2 : h.2.1 + n.toNatClampNeg ≤ k0 + R.slots := hfs
        have hok := PL _ _ _ hlk
        refine ex_newq_ok hexec hb hU hw hS (by omega) hown (hts _ hok.2.1) (hok.2.2 rfl) h1 h2 h3 (by rw [h4, Nat.add_comm]) (by omega) (by omega) hd (fun H1 w1 s1 => ?_)
        have g := kk H1 locs w1 s1
        rw [show (ex_hN h n.toNatClampNeg).1 - n0 = h.1 - n0 + 1 from by show h.1 + 1 - n0 = _; omega, show (ex_hN h n.toNatClampNeg).2.1 - k0 = h.2.1 - k0 + n.toNatClampNeg from by show h.2.1 + n.toNatClampNeg - k0 = _; omega] at g
        exact g
      · cases hxq23
    · cases hx
  | new i =>
    simp only [ex_mem] at hx
    split at hx
    · rename_i tag c0 k z hlk
      split at hx
      · rename_i hc
        obtain ⟨rfl, h3, h4⟩ := hc
        cases hx
        have q1 : h.1 + 1 ≤ n0 + R.cells := hfc
        have q2 : h.2.1 + ex_nf G c0 ≤ k0 + R.slots := hfs
        have hok := PL _ _ _ hlk
        refine ex_new_ok hexec hb hts hU hw hS (by omega) hown (hts _ hok.2.1) hok.1 h3 h4 (by omega) (by omega) hd (fun H1 w1 s1 => ?_)
        have g := kk H1 locs w1 s1
        rw [show (ex_hN h (ex_nf G c0)).1 - n0 = h.1 - n0 + 1 from by show h.1 + 1 - n0 = _; omega, show (ex_hN h (ex_nf G c0)).2.1 - k0 = h.2.1 - k0 + ex_nf G c0 from by show h.2.1 + ex_nf G c0 - k0 = _; omega] at g
        exact g
      · cases hx
    · cases hx
  | ldc i =>
    simp only [ex_mem] at hx
    split at hx
    · rename_i tag c0 k z hlk
      split at hx
      · rename_i hc
        subst hc
        cases hx
        exact lv_ldc hexec hb hown (hts _ (PL _ _ _ hlk)) hd (kk H locs hw hS)
      · cases hx
    · cases hx
  | ldc_w i =>
    simp only [ex_mem] at hx
    split at hx
    · rename_i tag c0 k z hlk
      split at hx
      · rename_i hc
        subst hc
        cases hx
        exact lv_ldcw hexec hb hown (hts _ (PL _ _ _ hlk)) hd (kk H locs hw hS)
      · cases hx
    · cases hx
  | ldc2_w i =>
    simp only [ex_mem] at hx
    split at hx
    · rename_i tag c0 k z hlk
      split at hx
      · rename_i hc
        subst hc
        cases hx
        exact lv_ldc2 hexec hb hown (hts _ (PL _ _ _ hlk)) hd (kk H locs hw hS)
      · cases hx
    · cases hx
  | invokespecial i =>
    simp only [ex_mem] at hx
    split at hx
    · rename_i tag c0 k z hlk
      split at hx
      · rename_i hc
        obtain ⟨rfl, hd1⟩ := hc
        obtain ⟨a, u, rfl, hxq24⟩ := ex_pa_some hx
        split at hxq24
        · rename_i hu
          cases hxq24
          obtain ⟨g1, g2, g3⟩ := PL _ _ _ hlk
          obtain ⟨r1, r2⟩ := hR hd1
          refine W.objInit hexec hb hown (hts _ g1) (hts _ g2) (hts _ g3) (g := F0 m pc ls (.ref (ex_ad base b a) :: st'.map (ex_rv (ex_ad base b)))) rfl (hls.trans hml.symm) rfl hd r1 ?_ (kk H locs hw hS)
          show 2 * 0 + _ + 12 ≤ _
          rw [ex_cat_sum]
          omega
        · cases hxq24
      · cases hx
    · cases hx
  | invokestatic i =>
    simp only [ex_mem] at hx
    split at hx
    · rename_i tag c0 k z hlk
      split at hx
      · rename_i hc
        obtain ⟨rfl, hd1⟩ := hc
        obtain ⟨n, s1, rfl, hxq25⟩ := ex_pi_some hx
        obtain ⟨dp, s2, rfl, hxq26⟩ := ex_pi_some hxq25
        obtain ⟨a, s3, rfl, hxq27⟩ := ex_pa_some hxq26
        obtain ⟨sp, s4, rfl, hxq28⟩ := ex_pi_some hxq27
        obtain ⟨a0, u, rfl, hxq29⟩ := ex_pa_some hxq28
        split at hxq29
        · rename_i hu
          obtain ⟨u1, u2, u3, u4, u5, u6, u7, u8, u9, u10⟩ := hu
          cases hxq29
          obtain ⟨g1, g2, g3, g4⟩ := PL _ _ _ hlk
          obtain ⟨r1, r2⟩ := hR hd1
          exact ex_copy_ok hexec hb (hml.trans hls.symm) hown (hts _ g1) (hts _ g2) (hts _ g3) (hts _ g4) hw hS u3 u2 (n0 := (ex_kd G a0).2) (n1 := (ex_kd G a).2) (by rw [← u5]) (by rw [← u4]) u6 u7 u8 u9 u10 r1 (by rw [ex_cat_sum]; omega) hd kk
        · cases hxq29
      · split at hx
        · rename_i hc
          obtain ⟨rfl, hd1⟩ := hc
          obtain ⟨y, s1, rfl, hxm1⟩ := ex_pi_some hx
          obtain ⟨x, u, rfl, hxm2⟩ := ex_pi_some hxm1
          split at hxm2
          · rename_i hu
            cases hxm2
            obtain ⟨g1, g2, g3, g4⟩ := PL _ _ _ hlk
            obtain ⟨r1, r2⟩ := hR hd1
            exact va_mmax hexec hb (hml.trans hls.symm) hown (hts _ g1) (hts _ g2) (hts _ g3) (hts _ g4) r1 (by rw [ex_cat_sum]; omega) (by omega) (by omega) hd (kk H locs hw hS)
          · cases hxm2
        · cases hx
    · cases hx
  | _ => exact absurd (show (none : Option ex_Mr) = some _ from hx) (fun q => by cases q)
end EXR
