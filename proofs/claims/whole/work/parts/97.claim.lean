/-! THE CLAIM OUT OF ONE WALK OF THE LAW'S BODY. Your part is whole_start (and what it stands on); all else here is the same for every law, but numbers. -/
def R_law : String := "CommandBusesLaw"
def lw_P (b : Addr) (xs : List Int32) (args : Array Value) (s : State) : Prop := args = #[.ref b] ∧ s.IntsAt b xs ∧ xs.length ≤ 3584 ∧ (Jvm.Cond.and given_1 narrow_1).before args s = true
def lw_Q (_ : Array Value) (s : State) (o : Outcome) (t : State) : Prop := o = .returned (some (.int 1)) ∧ Framed s o t [] 600000 7302250
def lw_Z (below : List Frame) (a : Array Value) (s : State) : State → Prop := fun t => ∃ o, t.status = .running ∧ Ended t below o ∧ lw_Q a s o t
/-- the law's own end, with 1 on the stack, nothing written that was there before, its room as the claim has it -/
theorem lw_ret {p : Program} {l : Launch} {e : Env} {s : State} {m : MethodId} {below : List Frame} {meth : Method} {c : Code} {b : Nat} (hx : p.tables.exec = Jvm.exec) (hb : c.code = code) (hr : meth.sig.returnType = ret) (hlocks : meth.locks = false) {pc : Nat} {H : Heap} {ls : Array Slot} (hdg : decode code pc = .ok (.ireturn, 1)) : W p l e room_1 s m #[Value.ref b] below meth c H [] 600000 7302250 (lw_Z below #[Value.ref b] s) (F0 m pc ls [.int 1]) := by
  intro T hT X
  obtain ⟨fs, hret, hrun, hended, hW, hframe⟩ := X.leave (v := some (.int 1)) (hlocks := hlocks) (fun h => by rw [hr] at h; cases h)
  have hmeth' : T.vm.method? m = some meth := X.method'
  refine ⟨T.setFrames fs, ?_, .returned (some (.int 1)), hrun, hended, rfl, ⟨_, rfl⟩, hW, hframe⟩
  jvm_step X.here [X.here.top, hx, hb, hdg, hmeth', hr, ret, narrow_b1]
  (try refine ⟨rfl, ?_⟩); (try refine ⟨rfl, ?_⟩)
  first | (intro acts; rw [hret _ acts rfl rfl rfl]) | rw [hret _ _ rfl rfl rfl]
  exact Steps.refl _
/-- what holds at the law's entry: the machine, the code, the tables' words (any of lw_tbl by 'hts w (by decide +kernel)'), the script of L ints xs at the cell b, what the Statement gives of the start (any of its parts by flat_of_before) -/
def lw_At (p : Program) (s : State) (m : MethodId) (meth : Method) (c : Code) (b L : Nat) (xs : Nat → Int32) : Prop :=
  p.tables.exec = Jvm.exec ∧ c.code = code ∧ meth.sig.returnType = ret ∧ c.maxLocals = 4 ∧ s.vm.findClass R_law = some m.cls ∧ (∀ w ∈ lw_tbl, w.before #[Value.ref b] s = true) ∧ va_X b L xs s s.heap ∧ b < s.heap.size ∧ meth.locks = false ∧ (Jvm.Cond.and given_1 narrow_1).before #[Value.ref b] s = true
theorem cb_cok : ∀ c, c < 9 → ex_cOK cb_G cb_cn cb_TT cb_cl cb_TB c
  | 0, _ => cok_0
  | 1, _ => cok_1
  | 2, _ => cok_2
  | 3, _ => cok_3
  | 4, _ => cok_4
  | 5, _ => cok_5
  | 6, _ => cok_6
  | 7, _ => cok_7
  | 8, _ => cok_8
  | _ + 9, h => absurd h (by omega)
theorem cb_ao_of {A : Array Value} {U : State} (hts : ∀ w ∈ lw_tbl, w.before A U = true) : ∀ c, cb_ao c → va_AO (cb_cn c) U := by
  intro c hc
  rcases hc with rfl | rfl
  · exact va_AO.of (hts _ (List.mem_of_getElem? (i := 70) (by decide +kernel)))
  · exact va_AO.of (hts _ (List.mem_of_getElem? (i := 179) (by decide +kernel)))
theorem cb_nst_of {A : Array Value} {U : State} (hts : ∀ w ∈ lw_tbl, w.before A U = true) : ∀ w, cb_nst w → va_Nw w U := by
  intro w hw
  have h := hts w hw.1
  rcases cb_PN w hw with ⟨a, i, x, n, d, rfl⟩ | ⟨a, i, x, rfl⟩
  · exact va_Nw.of rfl h
  · exact va_Nw.of rfl h
theorem cb_ret1 {pc : Nat} {ins : Instr} {st : List Value} {r : Int32} (hr : ex_ret cb_G 0 st ins = some (some (.int r))) : ins = .ireturn ∧ st = [.int r] := by
  cases ins with
  | ireturn =>
    simp only [ex_ret] at hr
    split at hr
    · split at hr
      · cases hr; exact ⟨rfl, rfl⟩
      · cases hr
    · cases hr
  | lreturn =>
    simp only [ex_ret] at hr
    split at hr
    · split at hr
      · cases hr
      · cases hr
    · cases hr
  | areturn =>
    simp only [ex_ret] at hr
    split at hr
    · split at hr
      · cases hr
      · cases hr
    · split at hr
      · cases hr
      · cases hr
    · cases hr
  | return_ =>
    simp only [ex_ret] at hr
    split at hr
    · split at hr
      · cases hr
      · cases hr
    · cases hr
  | _ => exact absurd (show (none : Option (Option Value)) = some _ from hr) (fun q => by cases q)
set_option maxHeartbeats 4000000 in
theorem whole_of {p : Program} {e : Env} {s : State} {m : MethodId} {below : List Frame} {meth : Method} {c : Code} (l : Launch) {b L : Nat} {xs : Nat → Int32} (hrun : rn cb_G (L + 1) xs 11 0 [.ref ex_scr] cb_h0 (fun r h => r = some (.int 1) ∧ h.1 ≤ 600000 ∧ h.2.1 ≤ 7302250)) (C0 : lw_At p s m meth c b L xs) : W p l e room_1 s m #[Value.ref b] below meth c s.heap [] 0 0 (lw_Z below #[Value.ref b] s) (entryFrame m ([Value.ref b] : List Value).toArray 4) := by
  obtain ⟨hexec, hb, hret, hml, hown, hts, hX, hbl, hlk, -⟩ := C0
  obtain ⟨f, r, h', hr, rfl, hc1, hc2⟩ := hrun
  have htb : ∀ w ∈ cb_TB, w.before #[Value.ref b] s = true := fun w hw => hts w (List.mem_filter.mp hw).1
  have hkn : ∀ c, ∃ (cC : ClassId) (iS : Nat → Nat), c < 9 → u_Kn s (cb_cn c) (cb_TT c) (cb_nf c) cC iS := by
    intro c
    by_cases hc : c < 9
    · have hk := cb_cok c hc
      obtain ⟨cC, iS, h⟩ := u_known htb hk.2.1 (htb _ hk.2.2.2.2.2.1)
      exact ⟨cC, iS, fun _ => h⟩
    · exact ⟨0, fun _ => 0, fun h => absurd h hc⟩
  let D : va_G := (fun c => Classical.choose (hkn c), fun c => Classical.choose (Classical.choose_spec (hkn c)))
  have hD : ∀ c, c < 9 → u_Kn s (cb_cn c) (cb_TT c) (cb_nf c) (D.1 c) (D.2 c) := fun c hc => Classical.choose_spec (Classical.choose_spec (hkn c)) hc
  let ca : Nat → ClassId := fun k => (s.vm.findClass ("[" ++ (ex_ty cb_cn k).toString)).getD 0
  have hU : ex_U cb_cn ca cb_nst cb_ao s.heap.size b L xs s := by
    refine ⟨cb_nst_of hts, cb_ao_of hts, fun k cA hk => ?_, hX, hbl, Nat.le_refl _⟩
    show cA = (s.vm.findClass _).getD 0
    rw [hk]; rfl
  have hK : va_K D cb_cl [] s := by
    refine ⟨fun c q hq => ?_, fun k q hk => by simp at hk⟩
    have hc : c < 9 := (List.getElem?_eq_some_iff.mp hq).1
    have h1 := (cb_cok c hc).1
    rw [h1] at hq
    cases hq
    exact hD c hc
  have hw : ex_Wd cb_G cb_cn cb_cl D ca s.heap.size b s s.heap cb_h0 := by
    refine ⟨Nat.zero_le _, fun k q hk => ?_, ⟨fun i j p q hi => ?_, fun k q hk => ?_⟩, [], hK, fun i hi => absurd hi (Nat.not_lt_zero i)⟩
    · simp [ex_ws, cb_h0] at hk
    · simp [ex_ws, cb_h0] at hi
    · simp [ex_ws, cb_h0] at hk
  have F : ex_Fr cb_G cb_cn cb_TB cb_bt cb_rT p s m #[Value.ref b] meth c 0 := ⟨hexec, hb, hml, hown, htb, fun h => absurd h (by decide), hret, hlk⟩
  have e1 : ex_ad s.heap.size b ex_scr = b := if_pos rfl
  have e2 : ([Value.ref b] : List Value) = ([Value.ref ex_scr] : List Value).map (ex_rv (ex_ad s.heap.size b)) := by
    show [Value.ref b] = [Value.ref (ex_ad s.heap.size b ex_scr)]
    rw [e1]
  have hS := ex_main (D := D) (ca := ca) (base := s.heap.size) (b := b) cb_PF l f 11 0 0 _ _ _ _ _ hr (cb_dec_of dc_0)
  rw [lg_entry_eq, e2]
  refine hS p e room_1 s m #[Value.ref b] below meth c s.heap [] _ _ 0 0 F hU (ex_entry (by decide)) (by decide) (by decide) hw va_S.rf rfl (Nat.zero_le _) (Nat.zero_le _) (by show h'.1 ≤ 0 + 600000; omega) (by show h'.2.1 ≤ 0 + 7302250; omega) (fun pc' ins ls' st' H1 locs1 hl1 hr1 w1 s1 => ?_)
  obtain ⟨rfl, rfl⟩ := cb_ret1 (pc := pc') hr1
  have hdg : decode code pc' = .ok (.ireturn, 1) := cb_dec_of (y := 0) dc_0 pc' _ hl1
  exact va_forget s1.2.2 (W.widen (by omega) (by omega) (lw_ret hexec hb hret hlk hdg))
