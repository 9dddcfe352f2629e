section EXS
variable {G : ex_G} {cn : Nat → String} {TT : Nat → u_T} {cl : List vw_C} {TB : List Cond} {nst : Cond → Prop} {ao : Nat → Prop} {host : String} {ym : Nat → MethodName} {bt : Nat → ByteArray} {rT : Nat → Option FieldType} {D : va_G} {ca : Nat → ClassId} {base b L : Nat} {xs : Nat → Int32}
/-- what a run of the interpreter says of the machine -/
def ex_Snd (G : ex_G) (cn : Nat → String) (cl : List vw_C) (TB : List Cond) (nst : Cond → Prop) (ao : Nat → Prop) (bt : Nat → ByteArray) (rT : Nat → Option FieldType) (D : va_G) (ca : Nat → ClassId) (base b L : Nat) (xs : Nat → Int32) (l : Launch) (d mi pc : Nat) (lv st : List Value) (h : ex_Hp) (r : Option Value) (h' : ex_Hp) : Prop :=
  ∀ (p : Program) (e : Env) (R : Room) (s : State) (m : MethodId) (args : Array Value) (below : List Frame) (meth : Method) (c : Code) (H : Heap) (locs : List Loc) (Q : State → Prop) (ls : Array Slot) (n0 k0 : Nat),
    ex_Fr G cn TB bt rT p s m args meth c mi → ex_U cn ca nst ao base b L xs s → ex_LV (ex_ad base b) ls (ex_mx G mi) lv → d ≤ R.frames → 37 * d ≤ R.locals → ex_Wd G cn cl D ca base b s H h → va_S (fun q => base ≤ q) s.heap H locs → s.heap.size = base + n0 → n0 ≤ h.1 → k0 ≤ h.2.1 → h'.1 ≤ n0 + R.cells → h'.2.1 ≤ k0 + R.slots →
    (∀ (pc' : Nat) (ins : Instr) (ls' : Array Slot) (st' : List Value) (H1 : Heap) (locs1 : List Loc), ex_look (ex_cd G mi) pc' = some ins → ex_ret G mi st' ins = some r → ex_Wd G cn cl D ca base b s H1 h' → va_S (fun q => base ≤ q) s.heap H1 locs1 → W p l e R s m args below meth c H1 locs1 (h'.1 - n0) (h'.2.1 - k0) Q (F0 m pc' ls' (st'.map (ex_rv (ex_ad base b))))) →
    W p l e R s m args below meth c H locs (h.1 - n0) (h.2.1 - k0) Q (F0 m pc ls (st.map (ex_rv (ex_ad base b))))
def ex_rm (d mc ms : Nat) : Room := { frames := d, cells := mc, slots := ms, locals := 37 * d }
theorem ex_met (PF : ex_PF G cn TT cl TB nst ao host ym bt rT) {l : Launch} {d y : Nat} {as : List Value} {h h1 : ex_Hp} {r : Option Value} (hm : ex_mB G cn TB ym bt rT y) (hfit : ex_fit G y as = true) (hs : ex_Snd G cn cl TB nst ao bt rT D ca base b L xs l d y 0 (ex_ent (ex_mx G y) as) [] h r h1) (hmo : h.1 ≤ h1.1 ∧ h.2.1 ≤ h1.2.1) :
    Met l (ym y) (Cond.code (ym y) (bt y) (ex_mx G y) (rT y) :: TB) (ex_rm d (h1.1 - h.1) (h1.2.1 - h.2.1)) (ex_Pc G cn cl D ca nst ao base b L xs as h) (ex_Qc G cn cl D ca base b r h1) (h1.1 - h.1) (h1.2.1 - h.2.1) (fun q => base ≤ q) := by
  refine Met.ofW (cc := bt y) (maxL := ex_mx G y) (ret := rT y) hm.2.1 rfl ?_
  intro p e s m args below meth c s₁ B hml hv
  obtain ⟨rfl, hU, hw, hz⟩ := hv
  have hts : ∀ w ∈ (Cond.code (ym y) (bt y) (ex_mx G y) (rT y) :: TB), w.before (as.map (ex_rv (ex_ad base b))).toArray s = true := atoms_spec (ws := Cond.code (ym y) (bt y) (ex_mx G y) (rT y) :: TB) B.pre
  have hcls : s.vm.findClass (cn (ex_ow G y)) = some m.cls := by rw [← hm.2.2.1]; exact findClass_of_methodNamed B.named
  have hnm : ex_rt G y = 5 → meth.name = "<init>" := by
    intro h5
    have hrt := hm.2.2.2.2.1
    rw [h5] at hrt
    exact (name_of_methodNamed B.named B.method).1.trans hrt.2
  have F : ex_Fr G cn TB bt rT p s m (as.map (ex_rv (ex_ad base b))).toArray meth c y := ⟨B.exec, B.bytes, hml, hcls, fun w hw => hts w (List.mem_cons_of_mem _ hw), hnm, B.returns, B.notSynchronized⟩
  rw [lg_entry_eq]
  have g := hs p e (headSpec (Cond.code (ym y) (bt y) (ex_mx G y) (rT y) :: TB) (ex_rm d (h1.1 - h.1) (h1.2.1 - h.2.1))).room s m _ below meth c s.heap [] (MQ below (ex_Qc G cn cl D ca base b r h1) (as.map (ex_rv (ex_ad base b))).toArray s (h1.1 - h.1) (h1.2.1 - h.2.1) (fun q => base ≤ q)) _ h.1 h.2.1 F hU (ex_entry (of_decide_eq_true hfit)) (Nat.le_refl _) (Nat.le_refl _) hw va_S.rf hz (Nat.le_refl _) (Nat.le_refl _)
    (by show h1.1 ≤ h.1 + (h1.1 - h.1); omega) (by show h1.2.1 ≤ h.2.1 + (h1.2.1 - h.2.1); omega)
    (fun pc' ins ls' st' H1 locs1 hl hr w1 s1 => ex_ret_ok F hm hr (hm.2.2.2.2.2 _ _ hl) (fun t ht hW => ⟨rfl, by rw [ht]; exact w1.moved hW.alike, s1.F ht⟩) s1.2.2)
  rw [Nat.sub_self, Nat.sub_self] at g
  exact g
theorem ex_rest (r : Option Value) (u : List Value) (ad : Nat → Nat) : (r.map (ex_rv ad)).toList ++ u.map (ex_rv ad) = (r.toList ++ u).map (ex_rv ad) := by cases r <;> rfl
set_option maxHeartbeats 4000000 in
theorem ex_call_ok (PF : ex_PF G cn TT cl TB nst ao host ym bt rT) {p : Program} {l : Launch} {e : Env} {R : Room} {s : State} {m : MethodId} {args : Array Value} {below : List Frame} {meth : Method} {c : Code} {H : Heap} {locs : List Loc} {Q : State → Prop} {ls : Array Slot} {n0 k0 d mi pc y : Nat} {st as u : List Value} {h h1 : ex_Hp} {r : Option Value} {ins : Instr}
    (F : ex_Fr G cn TB bt rT p s m args meth c mi) (hU : ex_U cn ca nst ao base b L xs s) (hl : ls.size = ex_mx G mi) (hR1 : d + 1 ≤ R.frames) (hR2 : 37 * (d + 1) ≤ R.locals) (hw : ex_Wd G cn cl D ca base b s H h) (hS : va_S (fun q => base ≤ q) s.heap H locs) (h0 : s.heap.size = base + n0) (hn0 : n0 ≤ h.1) (hk0 : k0 ≤ h.2.1)
    (hc : ex_call G mi st h ins = some (y, as, u)) (hd : ex_dec (bt mi) pc ins) (hs : ex_mB G cn TB ym bt rT y → ex_Snd G cn cl TB nst ao bt rT D ca base b L xs l d y 0 (ex_ent (ex_mx G y) as) [] h r h1) (hmo : h.1 ≤ h1.1 ∧ h.2.1 ≤ h1.2.1) (hfc : h1.1 ≤ n0 + R.cells) (hfs : h1.2.1 ≤ k0 + R.slots)
    (kk : ∀ (H1 : Heap) (locs1 : List Loc), ex_Wd G cn cl D ca base b s H1 h1 → va_S (fun q => base ≤ q) s.heap H1 locs1 → W p l e R s m args below meth c H1 locs1 (h1.1 - n0) (h1.2.1 - k0) Q (F0 m (pc + 3) ls ((r.toList ++ u).map (ex_rv (ex_ad base b))))) :
    W p l e R s m args below meth c H locs (h.1 - n0) (h.2.1 - k0) Q (F0 m pc ls (st.map (ex_rv (ex_ad base b)))) := by
  refine ex_W_size (fun hsz => ?_)
  have hsize : H.size = base + h.1 := by
    have := ex_size hw hS h0
    omega
  have hpre : ∀ U : State, U.heap = H → s.WarmedH U.vm → ex_Pc G cn cl D ca nst ao base b L xs as h (as.map (ex_rv (ex_ad base b))).toArray U := by
    intro U hUh hW
    refine ⟨rfl, ex_U.to PF.2.1 hU hW ?_ (by rw [hUh]; exact hS.1), by rw [hUh]; exact hw.moved hW.alike, by rw [hUh]; exact hsize⟩
    rw [hUh]
    exact hS.2.1 b (Nat.lt_of_lt_of_le hU.2.2.2.2.1 hU.2.2.2.2.2) (fun q => absurd hU.2.2.2.2.1 (Nat.not_lt.mpr q))
  have hbl := ex_blind (G := G) (cl := cl) (D := D) (ca := ca) (cn := cn) (ao := ao) (base := base) (b := b) (L := L) (xs := xs) (h := h) PF.2.1 as
  have hcells : h.1 - n0 + (h1.1 - h.1) = h1.1 - n0 := by omega
  have hslots : h.2.1 - k0 + (h1.2.1 - h.2.1) = h1.2.1 - k0 := by omega
  have hfit : h.1 - n0 + (h1.1 - h.1) ≤ R.cells ∧ h.2.1 - k0 + (h1.2.1 - h.2.1) ≤ R.slots := by omega
  have fin : ∀ {a : Array Value}, va_Run p l e R s m args below meth c H locs (h.1 - n0) (h.2.1 - k0) (h1.1 - h.1) (h1.2.1 - h.2.1) (F0 m pc ls (st.map (ex_rv (ex_ad base b)))) (u.map (ex_rv (ex_ad base b))) (ex_Qc G cn cl D ca base b r h1 a) (fun q => base ≤ q) →
      W p l e R s m args below meth c H locs (h.1 - n0) (h.2.1 - k0) Q (F0 m pc ls (st.map (ex_rv (ex_ad base b)))) := by
    intro a hr
    refine ex_back (v := r.map (ex_rv (ex_ad base b))) (B := fun t => ex_Wd G cn cl D ca base b t t.heap h1) hr hS (fun q hq => hq) (fun t H1 locs1 ht hal w1 s1 => ?_)
    rw [hcells, hslots, ex_rest]
    refine kk H1 locs1 ?_ s1
    rw [ht] at w1
    exact w1.moved hal.symm
  obtain ⟨hexec, hb, hml, hown, hts, hnam, -, -⟩ := F
  have S : CallFix p m c (bt mi) (ex_mx G mi) s args TB (cn (ex_ow G mi)) := ⟨hexec, hb, hml, hown, hts⟩
  obtain ⟨PG, PN, PA, PL, PC⟩ := PF
  have PF : ex_PF G cn TT cl TB nst ao host ym bt rT := ⟨PG, PN, PA, PL, PC⟩
  cases ins with
  | invokevirtual i =>
    simp only [ex_call] at hc
    split at hc
    · rename_i tag y' n z hlk
      split at hc
      · rename_i ht
        split at hc
        · rename_i as' t' ha
          obtain ⟨ha1, rfl⟩ := ex_args_some ha
          obtain ⟨a, u', rfl, hcq1⟩ := ex_pa_some hc
          split at hcq1
          · rename_i hcc
            obtain ⟨c1, c2, c3, c4⟩ := hcc
            cases hcq1
            have hst : ((as'.reverse ++ .ref a :: u).map (ex_rv (ex_ad base b))) = (as'.map (ex_rv (ex_ad base b))).reverse ++ .ref (ex_ad base b a) :: u.map (ex_rv (ex_ad base b)) := by simp [ex_rv]
            have hcat : 2 * 0 + ((u.map (ex_rv (ex_ad base b))).map fun v => v.category).sum ≤ 8 := by rw [ex_cat_sum]; omega
            have hok := PL _ _ _ hlk
            rcases ht with rfl | rfl
            · obtain ⟨⟨hmB, hini, hd1, hd2, hd3⟩, hcl, hin, hsel, hlink⟩ := hok
              have M := ex_met PF hmB c4 (hs hmB) hmo
              obtain ⟨tys, hK, -⟩ := hw.2.2.2
              have hrecv := va_recv hK hw.2.1 hcl.1 (ex_ws_at c1 (ex_cell_0 c2))
              exact fin (va_runV S M ⟨callB_of n hts (ex_good PG hmB.1) rfl rfl rfl (hts _ hini) (hts _ hlink) ⟨hd1, hd2, hd3⟩ ⟨by show d + 1 ≤ _; exact hR1, by show 8 + _ + 37 * d ≤ _; have := hmB.2.2.2.1; omega⟩, hts _ hin, hts _ hsel⟩ ⟨hbl, hrecv, hpre⟩ rfl (by rw [List.length_map]; exact ha1) hl hst hcat hd hfit)
            · obtain ⟨⟨hmB, hini, hd1, hd2, hd3⟩, hcl, hin, hsel, hlink⟩ := hok
              have M := ex_met PF hmB c4 (hs hmB) hmo
              obtain ⟨tys, hK, -⟩ := hw.2.2.2
              have hrecv := va_recv hK hw.2.1 hcl.1 (ex_ws_at c1 (ex_cell_0 c2))
              exact fin (va_runVN S M ⟨va_cnB n hts (ex_good PG hmB.1) rfl rfl rfl (hU.1 _ hlink) (hts _ hini) ⟨hd1, hd2, hd3⟩ ⟨by show d + 1 ≤ _; exact hR1, by show 8 + _ + 37 * d ≤ _; have := hmB.2.2.2.1; omega⟩, hts _ hin, hts _ hsel⟩ ⟨hbl, hrecv, hpre⟩ rfl (by rw [List.length_map]; exact ha1) hl hst hcat hd hfit)
          · cases hcq1
        · cases hc
      · cases hc
    · cases hc
  | invokespecial i =>
    simp only [ex_call] at hc
    split at hc
    · rename_i tag y' n z hlk
      split at hc
      · rename_i ht
        split at hc
        · rename_i as' t' ha
          obtain ⟨ha1, rfl⟩ := ex_args_some ha
          obtain ⟨a, u', rfl, hcq2⟩ := ex_pa_some hc
          split at hcq2
          · rename_i hcc
            obtain ⟨c3, c4⟩ := hcc
            cases hcq2
            have hst : ((as'.reverse ++ .ref a :: u).map (ex_rv (ex_ad base b))) = (as'.map (ex_rv (ex_ad base b))).reverse ++ .ref (ex_ad base b a) :: u.map (ex_rv (ex_ad base b)) := by simp [ex_rv]
            have hcat : 2 * 0 + ((u.map (ex_rv (ex_ad base b))).map fun v => v.category).sum ≤ 8 := by rw [ex_cat_sum]; omega
            have hok := PL _ _ _ hlk
            rcases ht with rfl | rfl
            · obtain ⟨⟨hmB, hini, hd1, hd2, hd3⟩, h5, hin, hlink⟩ := hok
              have hrt := hmB.2.2.2.2.1
              rw [h5] at hrt
              have M := ex_met PF hmB c4 (hs hmB) hmo
              have CB := callB_of (R := R) (rm := ex_rm d (h1.1 - h.1) (h1.2.1 - h.2.1)) n hts (ex_good PG hmB.1) rfl rfl rfl (hts _ hini) (hts _ hlink) ⟨hd1, hd2, hd3⟩ ⟨by show d + 1 ≤ _; exact hR1, by show 8 + _ + 37 * d ≤ _; have := hmB.2.2.2.1; omega⟩
              rw [hrt.1] at CB M
              exact fin (va_runI S M ⟨CB, hrt.2, hts _ hin⟩ ⟨hbl, hpre⟩ rfl (by rw [List.length_map]; exact ha1) hl hst hcat hd hfit)
            · obtain ⟨⟨hmB, hini, hd1, hd2, hd3⟩, h5, hin, hlink⟩ := hok
              have hrt := hmB.2.2.2.2.1
              rw [h5] at hrt
              have M := ex_met PF hmB c4 (hs hmB) hmo
              have CB := va_cnB (R := R) (rm := ex_rm d (h1.1 - h.1) (h1.2.1 - h.2.1)) n hts (ex_good PG hmB.1) rfl rfl rfl (hU.1 _ hlink) (hts _ hini) ⟨hd1, hd2, hd3⟩ ⟨by show d + 1 ≤ _; exact hR1, by show 8 + _ + 37 * d ≤ _; have := hmB.2.2.2.1; omega⟩
              rw [hrt.1] at CB M
              exact fin (va_runIN S M ⟨CB, hrt.2, hts _ hin⟩ ⟨hbl, hpre⟩ rfl (by rw [List.length_map]; exact ha1) hl hst hcat hd hfit)
          · cases hcq2
        · cases hc
      · cases hc
    · cases hc
  | invokestatic i =>
    simp only [ex_call] at hc
    split at hc
    · rename_i tag y' n z hlk
      split at hc
      · rename_i ht
        split at hc
        · rename_i as' t' ha
          obtain ⟨ha1, rfl⟩ := ex_args_some ha
          split at hc
          · rename_i hcc
            obtain ⟨c3, c4⟩ := hcc
            cases hc
            have hst : ((as.reverse ++ u).map (ex_rv (ex_ad base b))) = (as.map (ex_rv (ex_ad base b))).reverse ++ u.map (ex_rv (ex_ad base b)) := by simp
            have hcat : 2 * 0 + ((u.map (ex_rv (ex_ad base b))).map fun v => v.category).sum ≤ 8 := by rw [ex_cat_sum]; omega
            have hok := PL _ _ _ hlk
            rcases ht with rfl | rfl
            · obtain ⟨⟨hmB, hini, hd1, hd2, hd3⟩, hstt, hlink⟩ := hok
              have M := ex_met PF hmB c4 (hs hmB) hmo
              exact fin (va_runS S M ⟨callB_of n hts (ex_good PG hmB.1) rfl rfl rfl (hts _ hini) (hts _ hlink) ⟨hd1, hd2, hd3⟩ ⟨by show d + 1 ≤ _; exact hR1, by show 8 + _ + 37 * d ≤ _; have := hmB.2.2.2.1; omega⟩, hts _ hstt⟩ ⟨hbl, hpre⟩ rfl (by rw [List.length_map]; exact ha1) hl hst hcat hd hfit)
            · obtain ⟨⟨hmB, hini, hd1, hd2, hd3⟩, hstt, hlink⟩ := hok
              have M := ex_met PF hmB c4 (hs hmB) hmo
              exact fin (va_runSN S M ⟨va_cnB n hts (ex_good PG hmB.1) rfl rfl rfl (hU.1 _ hlink) (hts _ hini) ⟨hd1, hd2, hd3⟩ ⟨by show d + 1 ≤ _; exact hR1, by show 8 + _ + 37 * d ≤ _; have := hmB.2.2.2.1; omega⟩, hts _ hstt, trivial⟩ ⟨hbl, hpre⟩ rfl (by rw [List.length_map]; exact ha1) hl hst hcat hd hfit)
          · cases hc
        · cases hc
      · cases hc
    · cases hc
  | _ => exact absurd (show (none : Option ex_Cl) = some _ from hc) (fun q => by cases q)
/-- WHAT THE INTERPRETER COMPUTES, THE MACHINE DOES -/
theorem ex_main (PF : ex_PF G cn TT cl TB nst ao host ym bt rT) (l : Launch) : ∀ (f d mi pc : Nat) (lv st : List Value) (h : ex_Hp) (r : Option Value) (h' : ex_Hp), ex_run G (L + 1) xs f d mi pc lv st h = some (r, h') → (∀ pc ins, ex_look (ex_cd G mi) pc = some ins → ex_dec (bt mi) pc ins) → ex_Snd G cn cl TB nst ao bt rT D ca base b L xs l d mi pc lv st h r h' := by
  intro f
  induction f with
  | zero => intro d mi pc lv st h r h' hx; cases hx
  | succ f ih =>
    intro d mi pc lv st h r h' hx hm p e R s m args below meth c H locs Q ls n0 k0 F hU hl hR1 hR2 hw hS h0 hn0 hk0 hfc hfs hfin
    unfold ex_run at hx
    split at hx
    · cases hx
    · rename_i ins hlook
      have hd := hm _ _ hlook
      split at hx
      · rename_i pc' lv' st' h2 hst
        have mo := ex_run_mono _ _ _ _ _ _ _ _ _ hx
        unfold ex_step at hst
        split at hst
        · rename_i rr hp
          cases hst
          exact ex_pure_ok F.1 F.2.1 hp hd hl (fun ls' hl' => ih _ _ _ _ _ _ _ _ hx hm p e R s m args below meth c H locs Q ls' n0 k0 F hU hl' hR1 hR2 hw hS h0 hn0 hk0 hfc hfs hfin)
        · split at hst
          · rename_i t h3 hme
            split at hst
            · rename_i hle
              cases hst
              exact ex_mem_ok PF F hU hl.2.1 (fun q => ⟨by omega, by omega⟩) hw hS h0 hn0 hk0 (Nat.le_trans mo.1 hfc) (Nat.le_trans mo.2 hfs) hme hd (fun H1 locs1 w1 s1 => ih _ _ _ _ _ _ _ _ hx hm p e R s m args below meth c H1 locs1 Q ls n0 k0 F hU hl hR1 hR2 w1 s1 h0 (Nat.le_trans hn0 hle.1) (Nat.le_trans hk0 hle.2) hfc hfs hfin)
            · cases hst
          · cases hst
      · split at hx
        · rename_i hr
          cases hx
          exact hfin pc ins ls st H locs hlook hr hw hS
        · split at hx
          · cases hx
          · rename_i y as u hcall
            split at hx
            · cases hx
            · rename_i d'
              split at hx
              · cases hx
              · rename_i r1 h1 hrun
                have mo1 := ex_run_mono _ _ _ _ _ _ _ _ _ hrun
                have mo2 := ex_run_mono _ _ _ _ _ _ _ _ _ hx
                exact ex_call_ok PF F hU hl.2.1 hR1 hR2 hw hS h0 hn0 hk0 hcall hd (fun hmy => ih _ _ _ _ _ _ _ _ hrun hmy.2.2.2.2.2) mo1 (Nat.le_trans mo2.1 hfc) (Nat.le_trans mo2.2 hfs) (fun H1 locs1 w1 s1 => ih _ _ _ _ _ _ _ _ hx hm p e R s m args below meth c H1 locs1 Q ls n0 k0 F hU hl hR1 hR2 w1 s1 h0 (Nat.le_trans hn0 mo1.1) (Nat.le_trans hk0 mo1.2) hfc hfs hfin)
end EXS
