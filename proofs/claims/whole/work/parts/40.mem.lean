/-! the tables and the words -/
def ex_cOK (G : ex_G) (cn : Nat → String) (TT : Nat → u_T) (cl : List vw_C) (TB : List Cond) (c : Nat) : Prop :=
  cl[c]? = some (cn c, TT c, ex_nf G c) ∧ (∀ w ∈ u_ws (cn c) (TT c) (ex_nf G c), w ∈ TB) ∧
  (∃ ty0 : Nat → FieldType, ∀ k, k < ex_nf G c → parseFieldDescriptor (TT c k).2.2.1 = some (ty0 k) ∧ (ex_fk G c k = 0 ∧ ty0 k = .int ∨ ex_fk G c k = 1 ∧ ty0 k = .boolean ∨ ex_fk G c k = 2 ∧ ((∃ C, ty0 k = .object C) ∨ ∃ t, ty0 k = .array t))) ∧
  (∀ a, a < ex_nf G c → ∀ b, b < ex_nf G c → a ≠ b → (TT c a).2.1 ≠ (TT c b).2.1) ∧ (∀ k, k < ex_nf G c → (TT c k).1 = cn c) ∧ Cond.instantiable (cn c) (ex_nf G c) ∈ TB ∧ Cond.initialized (cn c) ∈ TB
/-- a field's link -/
def ex_fL (G : ex_G) (cn : Nat → String) (TT : Nat → u_T) (cl : List vw_C) (TB : List Cond) (nst : Cond → Prop) (host : String) (o i tag c k : Nat) (z : Int) : Prop :=
  ex_cOK G cn TT cl TB c ∧ (tag = 0 ∧ Cond.fieldLink (cn o) i (cn c) (TT c k).2.1 (TT c k).2.2.1 ∈ TB ∨ tag = 1 ∧ nst (Cond.fieldLinkNest (cn o) i (cn c) (TT c k).2.1 (TT c k).2.2.1 host)) ∧
  (z = 0 ∧ (TT c k).2.2.2 = false ∨ z = 1 ∧ (TT c k).2.2.2 = true)
section EXM
variable {p : Program} {l : Launch} {e : Env} {R : Room} {s : State} {m : MethodId} {args : Array Value} {below : List Frame} {meth : Method} {c : Code} {H : Heap} {locs : List Loc} {cells slots : Nat} {Q : State → Prop}
variable {cc : ByteArray} {pc : Nat} {ls : Array Slot} {rest : List Value}
variable {G : ex_G} {cn : Nat → String} {TT : Nat → u_T} {cl : List vw_C} {TB : List Cond} {nst : Cond → Prop} {ao : Nat → Prop} {host : String} {D : va_G} {ca : Nat → ClassId} {base b L : Nat} {xs : Nat → Int32} {h h' : ex_Hp}
theorem ex_Wd_of {a : Nat} {x : va_E} {H1 : Heap} (hw : ex_Wd G cn cl D ca base b s H h) (ha : a < h.1) (hs : h'.1 = h.1) (he : ex_cell G ca (ex_ad base b) h' a = x) (h1 : ∀ i, i ≠ a → h'.2.2.1 i = h.2.2.1 i) (h2 : ∀ i, i ≠ a → h'.2.2.2 i = h.2.2.2 i)
    (hP1 : va_P D cl ((ex_ws G ca (ex_ad base b) h).set a (ex_ad base b a, x)) H1) (hD1 : va_D (fun q => base ≤ q) ((ex_ws G ca (ex_ad base b) h).set a (ex_ad base b a, x))) : ex_Wd G cn cl D ca base b s H1 h' := by
  rw [ex_ws_set ha hs he h1 h2] at hP1 hD1
  obtain ⟨hz, -, -, tys, k1, k2⟩ := hw
  exact ⟨by rw [hs]; exact hz, hP1, hD1, tys, k1, by rw [hs]; exact k2⟩
theorem ex_fs_get {c0 a k : Nat} (hk : k < ex_nf G c0) {ad : Nat → Nat} : ((List.range (ex_nf G c0)).map fun j => ex_rv ad (ex_fv G h c0 a j))[k]? = some (ex_rv ad (ex_fv G h c0 a k)) := by
  rw [List.getElem?_map, List.getElem?_range hk]; rfl
theorem ex_get_ok (hexec : p.tables.exec = Jvm.exec) (hb : c.code = cc) (hts : ∀ w ∈ TB, w.before args s = true) (hN : ∀ w, nst w → va_Nw w s) {o i tag c0 k : Nat} {z : Int} (hlk : ex_fL G cn TT cl TB nst host o i tag c0 k z) (hown : s.vm.findClass (cn o) = some m.cls)
    (hw : ex_Wd G cn cl D ca base b s H h) {a : Nat} (ha : a < h.1) (hk : ex_kd G a = (0, c0)) (hkn : k < ex_nf G c0) (hdg : decode cc pc = .ok (.getfield i, 3))
    (kk : W p l e R s m args below meth c H locs cells slots Q (F0 m (pc + 3) ls (ex_rv (ex_ad base b) (ex_fv G h c0 a k) :: rest))) : W p l e R s m args below meth c H locs cells slots Q (F0 m pc ls (.ref (ex_ad base b a) :: rest)) := by
  obtain ⟨⟨hc, hin, -, -, hdc, -, -⟩, hlink, -⟩ := hlk
  obtain ⟨-, hP, -, tys, hK, -⟩ := hw
  have hsame : ∀ x, s.fieldFound? (TT c0 k).1 (TT c0 k).2.1 (TT c0 k).2.2.1 = some x → s.fieldFound? (cn c0) (TT c0 k).2.1 (TT c0 k).2.2.1 = some x := fun x hx => by rw [← hdc k hkn]; exact hx
  rcases hlink with ⟨-, hl⟩ | ⟨-, hl⟩
  · exact va_get hexec hb hts hin hown hK hP a (ex_ws_at ha (ex_cell_0 hk)) hc k hkn (hts _ hl) hsame (ex_fs_get hkn) hdg kk
  · exact va_getN hexec hb hts hin hown hK hP a (ex_ws_at ha (ex_cell_0 hk)) hc k hkn (va_Nw.use rfl (hN _ hl)) hsame (ex_fs_get hkn) hdg kk
theorem ex_put_ok (hexec : p.tables.exec = Jvm.exec) (hb : c.code = cc) (hts : ∀ w ∈ TB, w.before args s = true) (hN : ∀ w, nst w → va_Nw w s) {o i tag c0 k : Nat} {z : Int} (hlk : ex_fL G cn TT cl TB nst host o i tag c0 k z) (hown : s.vm.findClass (cn o) = some m.cls)
    (hw : ex_Wd G cn cl D ca base b s H h) (hS : va_S (fun q => base ≤ q) s.heap H locs) {a : Nat} (ha : a < h.1) (hk : ex_kd G a = (0, c0)) (hkn : k < ex_nf G c0) (hz : z = 0 ∨ tag = 0 ∧ z = 1 ∧ o = c0 ∧ meth.name = "<init>")
    {v : Value} (hv : ∀ ty : FieldType, (ex_fk G c0 k = 0 ∧ ty = .int ∨ ex_fk G c0 k = 1 ∧ ty = .boolean ∨ ex_fk G c0 k = 2 ∧ ((∃ C, ty = .object C) ∨ ∃ t, ty = .array t)) → narrow ty v = v ∧ fits ty v = true)
    (hs : h'.1 = h.1) (he : ex_cell G ca (ex_ad base b) h' a = .inr (c0, ((List.range (ex_nf G c0)).map fun j => ex_rv (ex_ad base b) (ex_fv G h c0 a j)).set k v)) (h1 : ∀ i, i ≠ a → h'.2.2.1 i = h.2.2.1 i) (h2 : ∀ i, i ≠ a → h'.2.2.2 i = h.2.2.2 i) (hdg : decode cc pc = .ok (.putfield i, 3))
    (kk : ∀ (H1 : Heap) (locs1 : List Loc), ex_Wd G cn cl D ca base b s H1 h' → va_S (fun q => base ≤ q) s.heap H1 locs1 → W p l e R s m args below meth c H1 locs1 cells slots Q (F0 m (pc + 3) ls rest)) : W p l e R s m args below meth c H locs cells slots Q (F0 m pc ls (v :: .ref (ex_ad base b a) :: rest)) := by
  obtain ⟨⟨hc, hin, ⟨ty0, hty⟩, hnm, hdc, -, -⟩, hlink, hfin⟩ := hlk
  have hw0 := hw
  obtain ⟨-, hP, hD, tys, hK, -⟩ := hw
  have hsame : ∀ x, s.fieldFound? (TT c0 k).1 (TT c0 k).2.1 (TT c0 k).2.2.1 = some x → s.fieldFound? (cn c0) (TT c0 k).2.1 (TT c0 k).2.2.1 = some x := fun x hx => by rw [← hdc k hkn]; exact hx
  obtain ⟨v1, v2⟩ := hv _ (hty k hkn).2
  have hl : k < ((List.range (ex_nf G c0)).map fun j => ex_rv (ex_ad base b) (ex_fv G h c0 a j)).length := by simpa using hkn
  rcases hlink with ⟨-, hlw⟩ | ⟨ht1, hlw⟩
  · rcases hfin with ⟨hz0, hf⟩ | ⟨hz1, hf⟩
    · exact va_put hexec hb hts hin ty0 (fun j hj => (hty j hj).1) hnm hown hK hP hD hS a (ex_ws_at ha (ex_cell_0 hk)) hc k hkn (hts _ hlw) hsame hf (hty k hkn).1 v1 v2 hl hdg (fun H1 locs1 p1 d1 s1 => kk H1 locs1 (ex_Wd_of hw0 ha hs he h1 h2 p1 d1) s1)
    · rcases hz with hz | ⟨-, -, ho, hnam⟩
      · rw [hz] at hz1; cases hz1
      · subst ho
        exact va_putF hexec hb hts hin ty0 (fun j hj => (hty j hj).1) hnm hown hK hP hD hS a (ex_ws_at ha (ex_cell_0 hk)) hc k hkn (hts _ hlw) hsame hf hnam (hdc k hkn) (hty k hkn).1 v1 v2 hl hdg (fun H1 locs1 p1 d1 s1 => kk H1 locs1 (ex_Wd_of hw0 ha hs he h1 h2 p1 d1) s1)
  · rcases hfin with ⟨hz0, hf⟩ | ⟨hz1, hf⟩
    · exact va_putN hexec hb hts hin ty0 (fun j hj => (hty j hj).1) hnm hown hK hP hD hS a (ex_ws_at ha (ex_cell_0 hk)) hc k hkn (va_Nw.use rfl (hN _ hlw)) hsame hf (hty k hkn).1 v1 v2 hl hdg (fun H1 locs1 p1 d1 s1 => kk H1 locs1 (ex_Wd_of hw0 ha hs he h1 h2 p1 d1) s1)
    · rcases hz with hz | ⟨hz, -⟩
      · rw [hz] at hz1; cases hz1
      · rw [hz] at ht1; cases ht1
theorem ex_narrow_int (x : Int32) : narrow .int (.int x) = .int x ∧ fits .int (.int x) = true := ⟨rfl, rfl⟩
theorem ex_narrow_bool {x : Int32} (hx : ex_b01 x = true) : narrow .boolean (.int x) = .int x ∧ fits .boolean (.int x) = true := by
  rcases of_decide_eq_true hx with rfl | rfl <;> exact ⟨by decide, by decide⟩
theorem ex_narrow_ref (r : Option Nat) {ty : FieldType} (h : (∃ C, ty = .object C) ∨ ∃ t, ty = .array t) : narrow ty (va_rf r) = va_rf r ∧ fits ty (va_rf r) = true := by
  rcases h with ⟨C, rfl⟩ | ⟨t, rfl⟩ <;> cases r <;> exact ⟨rfl, rfl⟩
theorem ex_putI_ok (hexec : p.tables.exec = Jvm.exec) (hb : c.code = cc) (hts : ∀ w ∈ TB, w.before args s = true) (hN : ∀ w, nst w → va_Nw w s) {o i tag c0 k : Nat} {z : Int} (hlk : ex_fL G cn TT cl TB nst host o i tag c0 k z) (hown : s.vm.findClass (cn o) = some m.cls)
    (hw : ex_Wd G cn cl D ca base b s H h) (hS : va_S (fun q => base ≤ q) s.heap H locs) {a : Nat} (ha : a < h.1) (hk : ex_kd G a = (0, c0)) (hkn : k < ex_nf G c0) (hz : z = 0 ∨ tag = 0 ∧ z = 1 ∧ o = c0 ∧ meth.name = "<init>")
    {x : Int32} (hx : ex_fk G c0 k = 0 ∨ ex_fk G c0 k = 1 ∧ ex_b01 x = true) (hdg : decode cc pc = .ok (.putfield i, 3))
    (kk : ∀ (H1 : Heap) (locs1 : List Loc), ex_Wd G cn cl D ca base b s H1 (ex_hI h a k x) → va_S (fun q => base ≤ q) s.heap H1 locs1 → W p l e R s m args below meth c H1 locs1 cells slots Q (F0 m (pc + 3) ls rest)) : W p l e R s m args below meth c H locs cells slots Q (F0 m pc ls (.int x :: .ref (ex_ad base b a) :: rest)) := by
  refine ex_put_ok hexec hb hts hN hlk hown hw hS ha hk hkn hz (h' := ex_hI h a k x) (fun ty hty => ?_) rfl (ex_set_fI hk (by rcases hx with q | ⟨q, -⟩ <;> rw [q] <;> decide)) (fun i hi => ex_wI_ne hi) (fun i hi => rfl) hdg kk
  rcases hty with ⟨-, rfl⟩ | ⟨q, rfl⟩ | ⟨q, -⟩
  · exact ex_narrow_int x
  · rcases hx with q2 | ⟨-, q2⟩
    · rw [q] at q2; cases q2
    · exact ex_narrow_bool q2
  · rcases hx with q2 | ⟨q2, -⟩ <;> rw [q] at q2 <;> cases q2
theorem ex_putP_ok (hexec : p.tables.exec = Jvm.exec) (hb : c.code = cc) (hts : ∀ w ∈ TB, w.before args s = true) (hN : ∀ w, nst w → va_Nw w s) {o i tag c0 k : Nat} {z : Int} (hlk : ex_fL G cn TT cl TB nst host o i tag c0 k z) (hown : s.vm.findClass (cn o) = some m.cls)
    (hw : ex_Wd G cn cl D ca base b s H h) (hS : va_S (fun q => base ≤ q) s.heap H locs) {a : Nat} (ha : a < h.1) (hk : ex_kd G a = (0, c0)) (hkn : k < ex_nf G c0) (hz : z = 0 ∨ tag = 0 ∧ z = 1 ∧ o = c0 ∧ meth.name = "<init>")
    {x : Option Nat} (hx : ex_fk G c0 k = 2) (hdg : decode cc pc = .ok (.putfield i, 3))
    (kk : ∀ (H1 : Heap) (locs1 : List Loc), ex_Wd G cn cl D ca base b s H1 (ex_hP h a k x) → va_S (fun q => base ≤ q) s.heap H1 locs1 → W p l e R s m args below meth c H1 locs1 cells slots Q (F0 m (pc + 3) ls rest)) : W p l e R s m args below meth c H locs cells slots Q (F0 m pc ls (ex_rv (ex_ad base b) (va_rf x) :: .ref (ex_ad base b a) :: rest)) := by
  refine ex_put_ok hexec hb hts hN hlk hown hw hS ha hk hkn hz (h' := ex_hP h a k x) (fun ty hty => ?_) rfl (ex_set_fP hk hx) (fun i hi => rfl) (fun i hi => ex_wP_ne hi) hdg kk
  rcases hty with ⟨q, -⟩ | ⟨q, -⟩ | ⟨-, q⟩
  · rw [hx] at q; cases q
  · rw [hx] at q; cases q
  · rw [ex_rv_rf]
    exact ex_narrow_ref _ q
/-- an array's place in the list of types -/
theorem ex_ty_at (hw : ex_Wd G cn cl D ca base b s H h) {a k n : Nat} (ha : a < h.1) (hk : ex_kd G a = (k + 1, n)) : ∃ (tys : List (ClassId × FieldType)) (t0 : Nat), va_K D cl tys s ∧ tys[t0]? = some (ca (k + 1), ex_ty cn (k + 1)) := by
  obtain ⟨-, -, -, tys, hK, hT⟩ := hw
  obtain ⟨t0, h0⟩ := List.getElem?_of_mem (hT a ha k n hk)
  exact ⟨tys, t0, hK, h0⟩
theorem ex_in_vp {i : Int32} {n : Nat} (hi : ex_in i n = true) : vp_in i n := by
  have h2 : ¬ (i < 0 ∨ n ≤ i.toNatClampNeg) := of_decide_eq_true hi
  exact h2
theorem ex_iald_ok (hexec : p.tables.exec = Jvm.exec) (hb : c.code = cc) (hw : ex_Wd G cn cl D ca base b s H h) {a n : Nat} (ha : a < h.1) (hk : ex_kd G a = (1, n)) {i : Int32} (hi : ex_in i n = true) (hdg : decode cc pc = .ok (.iaload, 1))
    (kk : W p l e R s m args below meth c H locs cells slots Q (F0 m (pc + 1) ls (.int (h.2.2.1 a i.toNatClampNeg) :: rest))) : W p l e R s m args below meth c H locs cells slots Q (F0 m pc ls (.int i :: .ref (ex_ad base b a) :: rest)) := by
  obtain ⟨tys, t0, hK, h0⟩ := ex_ty_at hw ha hk
  exact va_iald hexec hb hK hw.2.1 a t0 (ex_ws_at ha (ex_cell_1 hk)) h0 (ex_in_vp hi) hdg kk
theorem ex_zald_ok (hexec : p.tables.exec = Jvm.exec) (hb : c.code = cc) (hw : ex_Wd G cn cl D ca base b s H h) {a n : Nat} (ha : a < h.1) (hk : ex_kd G a = (2, n)) {i : Int32} (hi : ex_in i n = true) (hdg : decode cc pc = .ok (.baload, 1))
    (kk : W p l e R s m args below meth c H locs cells slots Q (F0 m (pc + 1) ls (.int (h.2.2.1 a i.toNatClampNeg) :: rest))) : W p l e R s m args below meth c H locs cells slots Q (F0 m pc ls (.int i :: .ref (ex_ad base b a) :: rest)) := by
  obtain ⟨tys, t0, hK, h0⟩ := ex_ty_at hw ha hk
  exact va_zald hexec hb hK hw.2.1 a t0 (ex_ws_at ha (ex_cell_2 hk)) h0 (ex_in_vp hi) hdg kk
theorem ex_aald_ok (hexec : p.tables.exec = Jvm.exec) (hb : c.code = cc) (hw : ex_Wd G cn cl D ca base b s H h) {a t n : Nat} (ha : a < h.1) (hk : ex_kd G a = (t + 3, n)) {i : Int32} (hi : ex_in i n = true) (hdg : decode cc pc = .ok (.aaload, 1))
    (kk : W p l e R s m args below meth c H locs cells slots Q (F0 m (pc + 1) ls (ex_rv (ex_ad base b) (va_rf (h.2.2.2 a i.toNatClampNeg)) :: rest))) : W p l e R s m args below meth c H locs cells slots Q (F0 m pc ls (.int i :: .ref (ex_ad base b a) :: rest)) := by
  obtain ⟨tys, t0, hK, h0⟩ := ex_ty_at hw ha hk
  rw [ex_rv_rf] at kk
  exact va_aldq hexec hb hK hw.2.1 a t0 (ex_ws_at ha (ex_cell_3 hk)) h0 (ex_in_vp hi) hdg kk
theorem ex_iast_ok (hexec : p.tables.exec = Jvm.exec) (hb : c.code = cc) (hw : ex_Wd G cn cl D ca base b s H h) (hS : va_S (fun q => base ≤ q) s.heap H locs) {a n : Nat} (ha : a < h.1) (hk : ex_kd G a = (1, n)) {i x : Int32} (hi : ex_in i n = true) (hdg : decode cc pc = .ok (.iastore, 1))
    (kk : ∀ (H1 : Heap) (locs1 : List Loc), ex_Wd G cn cl D ca base b s H1 (ex_hI h a i.toNatClampNeg x) → va_S (fun q => base ≤ q) s.heap H1 locs1 → W p l e R s m args below meth c H1 locs1 cells slots Q (F0 m (pc + 1) ls rest)) : W p l e R s m args below meth c H locs cells slots Q (F0 m pc ls (.int x :: .int i :: .ref (ex_ad base b a) :: rest)) := by
  obtain ⟨tys, t0, hK, h0⟩ := ex_ty_at hw ha hk
  refine va_iast hexec hb hK hw.2.1 hw.2.2.1 hS a t0 (ex_ws_at ha (ex_cell_1 hk)) h0 (ex_in_vp hi) hdg (fun H1 locs1 p1 d1 s1 => kk H1 locs1 (ex_Wd_of (h' := ex_hI h a i.toNatClampNeg x) hw ha rfl ?_ (fun i hi => ex_wI_ne hi) (fun i hi => rfl) p1 d1) s1)
  rw [ex_cell_1 hk]
  show (Sum.inl (ca 1, n, Sum.inl (ex_wI h.2.2.1 a _ x a)) : va_E) = _
  rw [ex_wI_eq]
theorem ex_nar_bool {x : Int32} (hx : ex_b01 x = true) : vp_nar .boolean x = x := by
  rcases of_decide_eq_true hx with rfl | rfl <;> decide
theorem ex_zast_ok (hexec : p.tables.exec = Jvm.exec) (hb : c.code = cc) (hw : ex_Wd G cn cl D ca base b s H h) (hS : va_S (fun q => base ≤ q) s.heap H locs) {a n : Nat} (ha : a < h.1) (hk : ex_kd G a = (2, n)) {i x : Int32} (hi : ex_in i n = true) (hx : ex_b01 x = true) (hdg : decode cc pc = .ok (.bastore, 1))
    (kk : ∀ (H1 : Heap) (locs1 : List Loc), ex_Wd G cn cl D ca base b s H1 (ex_hI h a i.toNatClampNeg x) → va_S (fun q => base ≤ q) s.heap H1 locs1 → W p l e R s m args below meth c H1 locs1 cells slots Q (F0 m (pc + 1) ls rest)) : W p l e R s m args below meth c H locs cells slots Q (F0 m pc ls (.int x :: .int i :: .ref (ex_ad base b a) :: rest)) := by
  obtain ⟨tys, t0, hK, h0⟩ := ex_ty_at hw ha hk
  refine va_zast hexec hb hK hw.2.1 hw.2.2.1 hS a t0 (ex_ws_at ha (ex_cell_2 hk)) h0 (ex_in_vp hi) hdg (fun H1 locs1 p1 d1 s1 => kk H1 locs1 (ex_Wd_of (h' := ex_hI h a i.toNatClampNeg x) hw ha rfl ?_ (fun i hi => ex_wI_ne hi) (fun i hi => rfl) p1 d1) s1)
  rw [ex_cell_2 hk, ex_nar_bool hx]
  show (Sum.inl (ca 2, n, Sum.inl (ex_wI h.2.2.1 a _ x a)) : va_E) = _
  rw [ex_wI_eq]
theorem ex_aast_ok (hexec : p.tables.exec = Jvm.exec) (hb : c.code = cc) (hw : ex_Wd G cn cl D ca base b s H h) (hS : va_S (fun q => base ≤ q) s.heap H locs) {a x t n : Nat} (ha : a < h.1) (hk : ex_kd G a = (t + 3, n)) (hx : x < h.1) (hkx : ex_kd G x = (0, t)) (hc : ex_cOK G cn TT cl TB t) {i : Int32} (hi : ex_in i n = true) (hdg : decode cc pc = .ok (.aastore, 1))
    (kk : ∀ (H1 : Heap) (locs1 : List Loc), ex_Wd G cn cl D ca base b s H1 (ex_hP h a i.toNatClampNeg (some x)) → va_S (fun q => base ≤ q) s.heap H1 locs1 → W p l e R s m args below meth c H1 locs1 cells slots Q (F0 m (pc + 1) ls rest)) : W p l e R s m args below meth c H locs cells slots Q (F0 m pc ls (.ref (ex_ad base b x) :: .int i :: .ref (ex_ad base b a) :: rest)) := by
  obtain ⟨tys, t0, hK, h0⟩ := ex_ty_at hw ha hk
  refine va_astq hexec hb hK hw.2.1 hw.2.2.1 hS a t0 x t (r := (cn t, TT t, ex_nf G t)) (ex_ws_at ha (ex_cell_3 hk)) h0 (ex_ws_at hx (ex_cell_0 hkx)) hc.1 (ex_in_vp hi) hdg (fun H1 locs1 p1 d1 s1 => kk H1 locs1 (ex_Wd_of (h' := ex_hP h a i.toNatClampNeg (some x)) hw ha rfl ?_ (fun i hi => rfl) (fun i hi => ex_wP_ne hi) p1 d1) s1)
  rw [ex_cell_3 hk]
  have e1 : (fun k => ((ex_hP h a i.toNatClampNeg (some x)).2.2.2 a k).map (ex_ad base b)) = va_up (fun k => (h.2.2.2 a k).map (ex_ad base b)) i.toNatClampNeg (some (ex_ad base b x)) := by
    funext j
    show (ex_wP h.2.2.2 a i.toNatClampNeg (some x) a j).map (ex_ad base b) = _
    rw [ex_wP_eq]
    unfold va_up
    split <;> rfl
  rw [e1]
theorem ex_alen_ok (hexec : p.tables.exec = Jvm.exec) (hb : c.code = cc) (hw : ex_Wd G cn cl D ca base b s H h) {a k n : Nat} (ha : a < h.1) (hk : ex_kd G a = (k + 1, n)) (hdg : decode cc pc = .ok (.arraylength, 1))
    (kk : W p l e R s m args below meth c H locs cells slots Q (F0 m (pc + 1) ls (.int (nI n) :: rest))) : W p l e R s m args below meth c H locs cells slots Q (F0 m pc ls (.ref (ex_ad base b a) :: rest)) := by
  obtain ⟨tys, t0, hK, h0⟩ := ex_ty_at hw ha hk
  match k with
  | 0 => exact va_alen hexec hb hK hw.2.1 a t0 (ex_ws_at ha (ex_cell_1 hk)) h0 rfl hdg kk
  | 1 => exact va_alen hexec hb hK hw.2.1 a t0 (ex_ws_at ha (ex_cell_2 hk)) h0 rfl hdg kk
  | t + 2 => exact va_alen hexec hb hK hw.2.1 a t0 (ex_ws_at ha (ex_cell_3 hk)) h0 rfl hdg kk
/-- the world behind a making -/
theorem ex_Wd_new {q n : Nat} {x : va_E} {H1 : Heap} {tys : List (ClassId × FieldType)} (hw : ex_Wd G cn cl D ca base b s H h) (hz : h.1 < ex_scr) (hsz : H1.size ≤ base + h.1 + 1) (he : ex_cell G ca (ex_ad base b) (ex_hN h n) h.1 = x)
    (hP1 : va_P D cl (ex_ws G ca (ex_ad base b) h ++ [(q, x)]) H1) (hD1 : va_D (fun q => base ≤ q) (ex_ws G ca (ex_ad base b) h ++ [(q, x)])) (hK : va_K D cl tys s) (hT : ex_TY G cn ca tys (h.1 + 1)) : q = ex_ad base b h.1 ∧ ex_Wd G cn cl D ca base b s H1 (ex_hN h n) := by
  have hq : q = base + h.1 := ex_new_at hP1 hD1 ex_ws_len (fun i hi => ⟨_, by rw [ex_ws_get hi, ex_ad_lt (by omega)]⟩) hsz
  have hq : q = ex_ad base b h.1 := by rw [ex_ad_lt hz]; exact hq
  subst hq
  rw [ex_ws_push he] at hP1 hD1
  exact ⟨rfl, hz, hP1, hD1, tys, hK, hT⟩
end EXM
