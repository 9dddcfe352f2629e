def r_e1 (S : ex_Mem) (t : Nat) : ex_Mem := ex_wI S 67 t (if S 80 t = nI 2 then S 67 t + nI 1 else if S 80 t = nI 1 then nI 0 else S 67 t)
def r_e2 (S : ex_Mem) (t : Nat) : ex_Mem := ex_wI S 68 t (if S 68 t = 0 then (if S 67 t < nI 3 then nI 0 else nI 1) else nI 1)
def r_end (S : ex_Mem) : Nat → ex_Mem
  | 0 => S
  | t + 1 => r_e2 (r_e1 (r_end S t) t) t
theorem end_fr {S : ex_Mem} {a k : Nat} (h1 : a ≠ 67) (h2 : a ≠ 68) : ∀ t, r_end S t a k = S a k
  | 0 => rfl
  | t + 1 => (wI_fr h2).trans ((wI_fr h1).trans (end_fr h1 h2 t))
theorem e2_a {S : ex_Mem} {t : Nat} (h : ¬ S 68 t = 0) : r_e2 S t = ex_wI S 68 t (nI 1) := by
  unfold r_e2
  rw [if_neg h]
theorem e2_b {S : ex_Mem} {t : Nat} (h : S 68 t = 0) (h2 : S 67 t < nI 3) : r_e2 S t = ex_wI S 68 t (nI 0) := by
  unfold r_e2
  rw [if_pos h, if_pos h2]
theorem e2_c {S : ex_Mem} {t : Nat} (h : S 68 t = 0) (h2 : ¬ S 67 t < nI 3) : r_e2 S t = ex_wI S 68 t (nI 1) := by
  unfold r_e2
  rw [if_pos h, if_neg h2]
theorem e1_a {S : ex_Mem} {t : Nat} (h : S 80 t = nI 2) : r_e1 S t = ex_wI S 67 t (S 67 t + nI 1) := by
  unfold r_e1
  rw [if_pos h]
theorem e1_b {S : ex_Mem} {t : Nat} (h : ¬ S 80 t = nI 2) (h2 : S 80 t = nI 1) : r_e1 S t = ex_wI S 67 t (nI 0) := by
  unfold r_e1
  rw [if_neg h, if_pos h2]
theorem e1_c {S : ex_Mem} {t : Nat} (h : ¬ S 80 t = nI 2) (h2 : ¬ S 80 t = nI 1) : r_e1 S t = ex_wI S 67 t (S 67 t) := by
  unfold r_e1
  rw [if_neg h, if_neg h2]
theorem r_end_loop {L : Nat} {xs : Nat → Int32} {D n : Nat} {I J : ex_Mem} {r : Int32} {Q : Option Value → ex_Hp → Prop} (kk : xx cb_G L xs (D + 7) 107 198 [.ref 52, .int r, .int (nI 6)] [] (mkH n I (r_end J 6)) Q) : ∀ (j t : Nat), t + j = 6 → xx cb_G L xs (D + 7) 107 109 [.ref 52, .int r, .int (nI t)] [] (mkH n I (r_end J t)) Q := by
  intro j
  induction j with
  | zero =>
    intro t ht
    have ht : t = 6 := by omega
    subst ht
    refine xi_iload_n (pc' := 110) rfl rfl rfl ?_
    refine xi_bipush (pc' := 112) rfl (by decide) rfl ?_
    refine xx_icmp (pc' := 115) (tg := 198) rfl rfl rfl (fun q112 => ?_) (fun q112 => absurd (show ex_P .ge (nI 6) (nI 6) from Int32.le_refl _) q112)
    exact kk
  | succ j ih =>
    intro t ht
    refine xi_iload_n (pc' := 110) rfl rfl rfl ?_
    refine xi_bipush (pc' := 112) rfl (by decide) rfl ?_
    refine xx_icmp (pc' := 115) (tg := 198) rfl rfl rfl (fun q112 => absurd q112 (show ¬ ex_P .ge (nI t) (nI 6) from nI_ge (by omega) (by decide))) (fun q112 => ?_)
    refine xi_aload_n (pc' := 116) rfl rfl rfl ?_
    refine xr_getp (pc' := 119) rfl rfl (by decide) rfl rfl rfl ?_
    refine xi_iload_n (pc' := 120) rfl rfl rfl ?_
    refine xi_aload_n (pc' := 121) rfl rfl rfl ?_
    refine xr_getp (pc' := 124) rfl rfl (by decide) rfl rfl rfl ?_
    refine xi_iload_n (pc' := 125) rfl rfl rfl ?_
    refine xr_iald (j := t) (pc' := 126) rfl rfl (by decide) (by first | rfl | (simp only [ix_add, ix_mul, ix_pred]; done) | (simp only [ix_add, ix_mul, ix_pred, *]; done)) (by omega) (by decide) rfl ?_
    refine xi_iconst (pc' := 127) rfl rfl ?_
    refine xx_icmp (pc' := 130) (tg := 141) rfl rfl rfl (fun q127 => ?_) (fun q127 => ?_)
    · refine xi_aload_n (pc' := 142) rfl rfl rfl ?_
      refine xr_getp (pc' := 145) rfl rfl (by decide) rfl rfl rfl ?_
      refine xi_iload_n (pc' := 146) rfl rfl rfl ?_
      refine xr_iald (j := t) (pc' := 147) rfl rfl (by decide) (by first | rfl | (simp only [ix_add, ix_mul, ix_pred]; done) | (simp only [ix_add, ix_mul, ix_pred, *]; done)) (by omega) (by decide) rfl ?_
      refine xi_iconst (pc' := 148) rfl rfl ?_
      refine xx_icmp (pc' := 151) (tg := 155) rfl rfl rfl (fun q148 => ?_) (fun q148 => ?_)
      · refine xi_aload_n (pc' := 156) rfl rfl rfl ?_
        refine xr_getp (pc' := 159) rfl rfl (by decide) rfl rfl rfl ?_
        refine xi_iload_n (pc' := 160) rfl rfl rfl ?_
        refine xr_iald (j := t) (pc' := 161) rfl rfl (by decide) (by first | rfl | (simp only [ix_add, ix_mul, ix_pred]; done) | (simp only [ix_add, ix_mul, ix_pred, *]; done)) (by omega) (by decide) rfl ?_
        refine xr_iast (j := t) (pc' := 162) rfl rfl (by decide) (by first | rfl | (simp only [ix_add, ix_mul, ix_pred]; done) | (simp only [ix_add, ix_mul, ix_pred, *]; done)) (by omega) (by decide) rfl ?_
        simp only [ex_P, Classical.not_not] at q127
        first | rw [← e1_a q127] | (simp only [ex_P, Classical.not_not] at q148; first | rw [← e1_b q127 q148] | rw [← e1_c q127 q148])
        refine xi_aload_n (pc' := 163) rfl rfl rfl ?_
        refine xr_getp (pc' := 166) rfl rfl (by decide) rfl rfl rfl ?_
        refine xi_iload_n (pc' := 167) rfl rfl rfl ?_
        refine xi_aload_n (pc' := 168) rfl rfl rfl ?_
        refine xr_getp (pc' := 171) rfl rfl (by decide) rfl rfl rfl ?_
        refine xi_iload_n (pc' := 172) rfl rfl rfl ?_
        refine xr_zald (j := t) (pc' := 173) rfl rfl (by decide) (by first | rfl | (simp only [ix_add, ix_mul, ix_pred]; done) | (simp only [ix_add, ix_mul, ix_pred, *]; done)) (by omega) (by decide) rfl ?_
        refine xx_if (pc' := 176) (tg := 186) rfl rfl rfl (fun q173 => ?_) (fun q173 => ?_)
        · refine xi_iconst (pc' := 187) rfl rfl ?_
          refine xi_goto (pc' := 191) rfl rfl ?_
          refine xr_zast (j := t) (pc' := 192) rfl rfl (by decide) (by first | rfl | (simp only [ix_add, ix_mul, ix_pred]; done) | (simp only [ix_add, ix_mul, ix_pred, *]; done)) (by omega) (by decide) (by decide) rfl ?_
          refine xi_iincv (y := nI (t + 1)) (pc' := 195) rfl rfl (ix_add _ _) (st1_2 rfl) rfl ?_
          refine xi_goto (pc' := 109) rfl rfl ?_
          have e := ih (t + 1) (by omega)
          rw [show r_end J (t + 1) = r_e2 (r_e1 (r_end J t) t) t from rfl] at e
          simp only [ex_P, Classical.not_not] at q173
          first | (rw [e2_a q173] at e; exact e) | (simp only [ex_P, Classical.not_not] at q183; first | (rw [e2_b q173 q183] at e; exact e) | (rw [e2_c q173 q183] at e; exact e))
        · refine xi_aload_n (pc' := 177) rfl rfl rfl ?_
          refine xr_getp (pc' := 180) rfl rfl (by decide) rfl rfl rfl ?_
          refine xi_iload_n (pc' := 181) rfl rfl rfl ?_
          refine xr_iald (j := t) (pc' := 182) rfl rfl (by decide) (by first | rfl | (simp only [ix_add, ix_mul, ix_pred]; done) | (simp only [ix_add, ix_mul, ix_pred, *]; done)) (by omega) (by decide) rfl ?_
          refine xi_iconst (pc' := 183) rfl rfl ?_
          refine xx_icmp (pc' := 186) (tg := 190) rfl rfl rfl (fun q183 => ?_) (fun q183 => ?_)
          · refine xi_iconst (pc' := 191) rfl rfl ?_
            refine xr_zast (j := t) (pc' := 192) rfl rfl (by decide) (by first | rfl | (simp only [ix_add, ix_mul, ix_pred]; done) | (simp only [ix_add, ix_mul, ix_pred, *]; done)) (by omega) (by decide) (by decide) rfl ?_
            refine xi_iincv (y := nI (t + 1)) (pc' := 195) rfl rfl (ix_add _ _) (st1_2 rfl) rfl ?_
            refine xi_goto (pc' := 109) rfl rfl ?_
            have e := ih (t + 1) (by omega)
            rw [show r_end J (t + 1) = r_e2 (r_e1 (r_end J t) t) t from rfl] at e
            simp only [ex_P, Classical.not_not] at q173
            first | (rw [e2_a q173] at e; exact e) | (simp only [ex_P, Classical.not_not] at q183; first | (rw [e2_b q173 q183] at e; exact e) | (rw [e2_c q173 q183] at e; exact e))
          · refine xi_iconst (pc' := 187) rfl rfl ?_
            refine xi_goto (pc' := 191) rfl rfl ?_
            refine xr_zast (j := t) (pc' := 192) rfl rfl (by decide) (by first | rfl | (simp only [ix_add, ix_mul, ix_pred]; done) | (simp only [ix_add, ix_mul, ix_pred, *]; done)) (by omega) (by decide) (by decide) rfl ?_
            refine xi_iincv (y := nI (t + 1)) (pc' := 195) rfl rfl (ix_add _ _) (st1_2 rfl) rfl ?_
            refine xi_goto (pc' := 109) rfl rfl ?_
            have e := ih (t + 1) (by omega)
            rw [show r_end J (t + 1) = r_e2 (r_e1 (r_end J t) t) t from rfl] at e
            simp only [ex_P, Classical.not_not] at q173
            first | (rw [e2_a q173] at e; exact e) | (simp only [ex_P, Classical.not_not] at q183; first | (rw [e2_b q173 q183] at e; exact e) | (rw [e2_c q173 q183] at e; exact e))
      · refine xi_iconst (pc' := 152) rfl rfl ?_
        refine xi_goto (pc' := 161) rfl rfl ?_
        refine xr_iast (j := t) (pc' := 162) rfl rfl (by decide) (by first | rfl | (simp only [ix_add, ix_mul, ix_pred]; done) | (simp only [ix_add, ix_mul, ix_pred, *]; done)) (by omega) (by decide) rfl ?_
        simp only [ex_P, Classical.not_not] at q127
        first | rw [← e1_a q127] | (simp only [ex_P, Classical.not_not] at q148; first | rw [← e1_b q127 q148] | rw [← e1_c q127 q148])
        refine xi_aload_n (pc' := 163) rfl rfl rfl ?_
        refine xr_getp (pc' := 166) rfl rfl (by decide) rfl rfl rfl ?_
        refine xi_iload_n (pc' := 167) rfl rfl rfl ?_
        refine xi_aload_n (pc' := 168) rfl rfl rfl ?_
        refine xr_getp (pc' := 171) rfl rfl (by decide) rfl rfl rfl ?_
        refine xi_iload_n (pc' := 172) rfl rfl rfl ?_
        refine xr_zald (j := t) (pc' := 173) rfl rfl (by decide) (by first | rfl | (simp only [ix_add, ix_mul, ix_pred]; done) | (simp only [ix_add, ix_mul, ix_pred, *]; done)) (by omega) (by decide) rfl ?_
        refine xx_if (pc' := 176) (tg := 186) rfl rfl rfl (fun q173 => ?_) (fun q173 => ?_)
        · refine xi_iconst (pc' := 187) rfl rfl ?_
          refine xi_goto (pc' := 191) rfl rfl ?_
          refine xr_zast (j := t) (pc' := 192) rfl rfl (by decide) (by first | rfl | (simp only [ix_add, ix_mul, ix_pred]; done) | (simp only [ix_add, ix_mul, ix_pred, *]; done)) (by omega) (by decide) (by decide) rfl ?_
          refine xi_iincv (y := nI (t + 1)) (pc' := 195) rfl rfl (ix_add _ _) (st1_2 rfl) rfl ?_
          refine xi_goto (pc' := 109) rfl rfl ?_
          have e := ih (t + 1) (by omega)
          rw [show r_end J (t + 1) = r_e2 (r_e1 (r_end J t) t) t from rfl] at e
          simp only [ex_P, Classical.not_not] at q173
          first | (rw [e2_a q173] at e; exact e) | (simp only [ex_P, Classical.not_not] at q183; first | (rw [e2_b q173 q183] at e; exact e) | (rw [e2_c q173 q183] at e; exact e))
        · refine xi_aload_n (pc' := 177) rfl rfl rfl ?_
          refine xr_getp (pc' := 180) rfl rfl (by decide) rfl rfl rfl ?_
          refine xi_iload_n (pc' := 181) rfl rfl rfl ?_
          refine xr_iald (j := t) (pc' := 182) rfl rfl (by decide) (by first | rfl | (simp only [ix_add, ix_mul, ix_pred]; done) | (simp only [ix_add, ix_mul, ix_pred, *]; done)) (by omega) (by decide) rfl ?_
          refine xi_iconst (pc' := 183) rfl rfl ?_
          refine xx_icmp (pc' := 186) (tg := 190) rfl rfl rfl (fun q183 => ?_) (fun q183 => ?_)
          · refine xi_iconst (pc' := 191) rfl rfl ?_
            refine xr_zast (j := t) (pc' := 192) rfl rfl (by decide) (by first | rfl | (simp only [ix_add, ix_mul, ix_pred]; done) | (simp only [ix_add, ix_mul, ix_pred, *]; done)) (by omega) (by decide) (by decide) rfl ?_
            refine xi_iincv (y := nI (t + 1)) (pc' := 195) rfl rfl (ix_add _ _) (st1_2 rfl) rfl ?_
            refine xi_goto (pc' := 109) rfl rfl ?_
            have e := ih (t + 1) (by omega)
            rw [show r_end J (t + 1) = r_e2 (r_e1 (r_end J t) t) t from rfl] at e
            simp only [ex_P, Classical.not_not] at q173
            first | (rw [e2_a q173] at e; exact e) | (simp only [ex_P, Classical.not_not] at q183; first | (rw [e2_b q173 q183] at e; exact e) | (rw [e2_c q173 q183] at e; exact e))
          · refine xi_iconst (pc' := 187) rfl rfl ?_
            refine xi_goto (pc' := 191) rfl rfl ?_
            refine xr_zast (j := t) (pc' := 192) rfl rfl (by decide) (by first | rfl | (simp only [ix_add, ix_mul, ix_pred]; done) | (simp only [ix_add, ix_mul, ix_pred, *]; done)) (by omega) (by decide) (by decide) rfl ?_
            refine xi_iincv (y := nI (t + 1)) (pc' := 195) rfl rfl (ix_add _ _) (st1_2 rfl) rfl ?_
            refine xi_goto (pc' := 109) rfl rfl ?_
            have e := ih (t + 1) (by omega)
            rw [show r_end J (t + 1) = r_e2 (r_e1 (r_end J t) t) t from rfl] at e
            simp only [ex_P, Classical.not_not] at q173
            first | (rw [e2_a q173] at e; exact e) | (simp only [ex_P, Classical.not_not] at q183; first | (rw [e2_b q173 q183] at e; exact e) | (rw [e2_c q173 q183] at e; exact e))
    · refine xi_aload_n (pc' := 131) rfl rfl rfl ?_
      refine xr_getp (pc' := 134) rfl rfl (by decide) rfl rfl rfl ?_
      refine xi_iload_n (pc' := 135) rfl rfl rfl ?_
      refine xr_iald (j := t) (pc' := 136) rfl rfl (by decide) (by first | rfl | (simp only [ix_add, ix_mul, ix_pred]; done) | (simp only [ix_add, ix_mul, ix_pred, *]; done)) (by omega) (by decide) rfl ?_
      refine xi_iconst (pc' := 137) rfl rfl ?_
      refine xi_iadd (pc' := 138) rfl rfl ?_
      refine xi_goto (pc' := 161) rfl rfl ?_
      refine xr_iast (j := t) (pc' := 162) rfl rfl (by decide) (by first | rfl | (simp only [ix_add, ix_mul, ix_pred]; done) | (simp only [ix_add, ix_mul, ix_pred, *]; done)) (by omega) (by decide) rfl ?_
      simp only [ex_P, Classical.not_not] at q127
      first | rw [← e1_a q127] | (simp only [ex_P, Classical.not_not] at q148; first | rw [← e1_b q127 q148] | rw [← e1_c q127 q148])
      refine xi_aload_n (pc' := 163) rfl rfl rfl ?_
      refine xr_getp (pc' := 166) rfl rfl (by decide) rfl rfl rfl ?_
      refine xi_iload_n (pc' := 167) rfl rfl rfl ?_
      refine xi_aload_n (pc' := 168) rfl rfl rfl ?_
      refine xr_getp (pc' := 171) rfl rfl (by decide) rfl rfl rfl ?_
      refine xi_iload_n (pc' := 172) rfl rfl rfl ?_
      refine xr_zald (j := t) (pc' := 173) rfl rfl (by decide) (by first | rfl | (simp only [ix_add, ix_mul, ix_pred]; done) | (simp only [ix_add, ix_mul, ix_pred, *]; done)) (by omega) (by decide) rfl ?_
      refine xx_if (pc' := 176) (tg := 186) rfl rfl rfl (fun q173 => ?_) (fun q173 => ?_)
      · refine xi_iconst (pc' := 187) rfl rfl ?_
        refine xi_goto (pc' := 191) rfl rfl ?_
        refine xr_zast (j := t) (pc' := 192) rfl rfl (by decide) (by first | rfl | (simp only [ix_add, ix_mul, ix_pred]; done) | (simp only [ix_add, ix_mul, ix_pred, *]; done)) (by omega) (by decide) (by decide) rfl ?_
        refine xi_iincv (y := nI (t + 1)) (pc' := 195) rfl rfl (ix_add _ _) (st1_2 rfl) rfl ?_
        refine xi_goto (pc' := 109) rfl rfl ?_
        have e := ih (t + 1) (by omega)
        rw [show r_end J (t + 1) = r_e2 (r_e1 (r_end J t) t) t from rfl] at e
        simp only [ex_P, Classical.not_not] at q173
        first | (rw [e2_a q173] at e; exact e) | (simp only [ex_P, Classical.not_not] at q183; first | (rw [e2_b q173 q183] at e; exact e) | (rw [e2_c q173 q183] at e; exact e))
      · refine xi_aload_n (pc' := 177) rfl rfl rfl ?_
        refine xr_getp (pc' := 180) rfl rfl (by decide) rfl rfl rfl ?_
        refine xi_iload_n (pc' := 181) rfl rfl rfl ?_
        refine xr_iald (j := t) (pc' := 182) rfl rfl (by decide) (by first | rfl | (simp only [ix_add, ix_mul, ix_pred]; done) | (simp only [ix_add, ix_mul, ix_pred, *]; done)) (by omega) (by decide) rfl ?_
        refine xi_iconst (pc' := 183) rfl rfl ?_
        refine xx_icmp (pc' := 186) (tg := 190) rfl rfl rfl (fun q183 => ?_) (fun q183 => ?_)
        · refine xi_iconst (pc' := 191) rfl rfl ?_
          refine xr_zast (j := t) (pc' := 192) rfl rfl (by decide) (by first | rfl | (simp only [ix_add, ix_mul, ix_pred]; done) | (simp only [ix_add, ix_mul, ix_pred, *]; done)) (by omega) (by decide) (by decide) rfl ?_
          refine xi_iincv (y := nI (t + 1)) (pc' := 195) rfl rfl (ix_add _ _) (st1_2 rfl) rfl ?_
          refine xi_goto (pc' := 109) rfl rfl ?_
          have e := ih (t + 1) (by omega)
          rw [show r_end J (t + 1) = r_e2 (r_e1 (r_end J t) t) t from rfl] at e
          simp only [ex_P, Classical.not_not] at q173
          first | (rw [e2_a q173] at e; exact e) | (simp only [ex_P, Classical.not_not] at q183; first | (rw [e2_b q173 q183] at e; exact e) | (rw [e2_c q173 q183] at e; exact e))
        · refine xi_iconst (pc' := 187) rfl rfl ?_
          refine xi_goto (pc' := 191) rfl rfl ?_
          refine xr_zast (j := t) (pc' := 192) rfl rfl (by decide) (by first | rfl | (simp only [ix_add, ix_mul, ix_pred]; done) | (simp only [ix_add, ix_mul, ix_pred, *]; done)) (by omega) (by decide) (by decide) rfl ?_
          refine xi_iincv (y := nI (t + 1)) (pc' := 195) rfl rfl (ix_add _ _) (st1_2 rfl) rfl ?_
          refine xi_goto (pc' := 109) rfl rfl ?_
          have e := ih (t + 1) (by omega)
          rw [show r_end J (t + 1) = r_e2 (r_e1 (r_end J t) t) t from rfl] at e
          simp only [ex_P, Classical.not_not] at q173
          first | (rw [e2_a q173] at e; exact e) | (simp only [ex_P, Classical.not_not] at q183; first | (rw [e2_b q173 q183] at e; exact e) | (rw [e2_c q173 q183] at e; exact e))
def r_z (S : ex_Mem) : Nat → ex_Mem
  | 0 => S
  | t + 1 => ex_wI (r_z S t) 80 t (nI 0)
theorem z_fr {S : ex_Mem} {a k : Nat} (h : a ≠ 80) : ∀ t, r_z S t a k = S a k
  | 0 => rfl
  | t + 1 => (wI_fr h).trans (z_fr h t)
def r_p0 (J : ex_Mem) (f : Nat) : ex_Mem := if f = 0 then r_poll J (tk J 52 30) 6 else J
def r_runA (J : ex_Mem) (nm f : Nat) : Int32 × ex_Mem := r_rn (nI 0, r_z (r_p0 J f) 6) f nm
def r_runB (A : Int32 × ex_Mem) (f : Nat) : ex_Mem := ex_wI (r_end A.2 6) 52 29 (nI ((f + 1) % 4))
theorem okR_fr {nm f : Nat} {J J' : ex_Mem} (h : okR nm f J) (e1 : J' 52 17 = J 52 17) (e2 : J' 52 29 = J 52 29) (e3 : J' 52 30 = J 52 30) (e : ∀ a k, 69 ≤ a → a ≤ 74 → J' a k = J a k) : okR nm f J' := by
  obtain ⟨h1, h2, h3, h4, h5⟩ := h
  exact ⟨e1.trans h1, e2.trans h2, busB_eq h3 e3, fun k hk => vMsg_eq (e _ _ (by decide) (by decide)) (e _ _ (by decide) (by decide)) (e _ _ (by decide) (by decide)) (e _ _ (by decide) (by decide)) (e _ _ (by decide) (by decide)) (h4 k hk), fun k hk => vPer_eq (e _ _ (by decide) (by decide)) (h5 k hk)⟩
theorem okR_poll {nm f : Nat} {J : ex_Mem} {bb : Nat} (h : okR nm f J) (t : Nat) : okR nm f (r_poll J bb t) := okR_fr h (poll_nt (by unfold nt; omega) (by decide) (by decide) t) (poll_nt (by unfold nt; omega) (by decide) (by decide) t) (poll_nt (by unfold nt; omega) (by decide) (by decide) t) (fun a k h1 h2 => poll_nt (nt69 (by omega)) (by omega) (by omega) t)
theorem okR_z {nm f : Nat} {J : ex_Mem} (h : okR nm f J) (t : Nat) : okR nm f (r_z J t) := okR_fr h (z_fr (by decide) t) (z_fr (by decide) t) (z_fr (by decide) t) (fun a k h1 h2 => z_fr (by omega) t)
theorem p0_ok {nm f : Nat} {J : ex_Mem} (h : okR nm f J) : okR nm f (r_p0 J f) := by
  unfold r_p0
  split
  · exact okR_poll h 6
  · exact h
theorem p0_hw {N f : Nat} {J : ex_Mem} (h : hwB N J) (hN : N + 18 < 2 ^ 31) : hwB (N + 18) (r_p0 J f) := by
  unfold r_p0
  split
  · exact poll_hw h 6 hN
  · exact hwB_up h (by omega)
theorem p0_0 {J : ex_Mem} : r_p0 J 0 = r_poll J (tk J 52 30) 6 := if_pos rfl
theorem p0_1 {J : ex_Mem} {f : Nat} (h : ¬ f = 0) : r_p0 J f = J := if_neg h
theorem r_run_u {L : Nat} {xs : Nat → Int32} {D n : Nat} {I J : ex_Mem} (hz : J 52 27 = nI 0) : ri L xs D 107 [.ref 52] (mkH n I J) (- nI 1) (mkH n I J) := by
  show xx cb_G _ _ _ 107 0 [.ref 52, ex_no, ex_no] [] _ _
  refine xi_aload_n (pc' := 1) rfl rfl rfl ?_
  refine xr_getiv (v := nI (0)) (pc' := 4) rfl rfl (by decide) (by decide) (hz) rfl ?_
  refine xi_iff (pc' := 7) (tg := 9) rfl rfl (by decide) rfl ?_
  refine xi_iconstm (pc' := 8) rfl rfl ?_
  refine xx_ireturn rfl rfl ?_
  exact ⟨rfl, rfl⟩
theorem r_run_20 {L : Nat} {xs : Nat → Int32} {D n : Nat} {I J : ex_Mem} {nm f N : Nat} (hz : J 52 27 = nI 1) (h8 : nm ≤ 8) (hf : f < 4) (ho : okR nm f J) (hh : hwB N J) (hN : N + 400 < 2 ^ 31) : xx cb_G L xs (D + 7) 107 20 [.ref 52, ex_no, ex_no] [] (mkH n I (r_p0 J f)) (fun r h => r = some (.int (r_runA J nm f).1) ∧ h = mkH n I (r_runB (r_runA J nm f) f)) := by
  refine xi_iconst (pc' := 21) rfl rfl ?_
  refine xi_istore_n (pc' := 22) rfl (st1_1 rfl) rfl ?_
  refine xi_iload_n (pc' := 23) rfl rfl rfl ?_
  refine xi_bipush (pc' := 25) rfl (by decide) rfl ?_
  refine xi_icmpf (pc' := 28) (tg := 41) rfl rfl (by decide) rfl ?_
  refine xi_aload_n (pc' := 29) rfl rfl rfl ?_
  refine xr_getp (pc' := 32) rfl rfl (by decide) rfl rfl rfl ?_
  refine xi_iload_n (pc' := 33) rfl rfl rfl ?_
  refine xi_iconst (pc' := 34) rfl rfl ?_
  refine xr_iast (j := 0) (pc' := 35) rfl rfl (by decide) (by first | rfl | (simp only [ix_add, ix_mul, ix_pred]; done) | (simp only [ix_add, ix_mul, ix_pred, *]; done)) (by omega) (by decide) rfl ?_
  refine xi_iincv (y := nI 1) (pc' := 38) rfl rfl (by decide) (st1_1 rfl) rfl ?_
  refine xi_goto (pc' := 22) rfl rfl ?_
  refine xi_iload_n (pc' := 23) rfl rfl rfl ?_
  refine xi_bipush (pc' := 25) rfl (by decide) rfl ?_
  refine xi_icmpf (pc' := 28) (tg := 41) rfl rfl (by decide) rfl ?_
  refine xi_aload_n (pc' := 29) rfl rfl rfl ?_
  refine xr_getp (pc' := 32) rfl rfl (by decide) rfl rfl rfl ?_
  refine xi_iload_n (pc' := 33) rfl rfl rfl ?_
  refine xi_iconst (pc' := 34) rfl rfl ?_
  refine xr_iast (j := 1) (pc' := 35) rfl rfl (by decide) (by first | rfl | (simp only [ix_add, ix_mul, ix_pred]; done) | (simp only [ix_add, ix_mul, ix_pred, *]; done)) (by omega) (by decide) rfl ?_
  refine xi_iincv (y := nI 2) (pc' := 38) rfl rfl (by decide) (st1_1 rfl) rfl ?_
  refine xi_goto (pc' := 22) rfl rfl ?_
  refine xi_iload_n (pc' := 23) rfl rfl rfl ?_
  refine xi_bipush (pc' := 25) rfl (by decide) rfl ?_
  refine xi_icmpf (pc' := 28) (tg := 41) rfl rfl (by decide) rfl ?_
  refine xi_aload_n (pc' := 29) rfl rfl rfl ?_
  refine xr_getp (pc' := 32) rfl rfl (by decide) rfl rfl rfl ?_
  refine xi_iload_n (pc' := 33) rfl rfl rfl ?_
  refine xi_iconst (pc' := 34) rfl rfl ?_
  refine xr_iast (j := 2) (pc' := 35) rfl rfl (by decide) (by first | rfl | (simp only [ix_add, ix_mul, ix_pred]; done) | (simp only [ix_add, ix_mul, ix_pred, *]; done)) (by omega) (by decide) rfl ?_
  refine xi_iincv (y := nI 3) (pc' := 38) rfl rfl (by decide) (st1_1 rfl) rfl ?_
  refine xi_goto (pc' := 22) rfl rfl ?_
  refine xi_iload_n (pc' := 23) rfl rfl rfl ?_
  refine xi_bipush (pc' := 25) rfl (by decide) rfl ?_
  refine xi_icmpf (pc' := 28) (tg := 41) rfl rfl (by decide) rfl ?_
  refine xi_aload_n (pc' := 29) rfl rfl rfl ?_
  refine xr_getp (pc' := 32) rfl rfl (by decide) rfl rfl rfl ?_
  refine xi_iload_n (pc' := 33) rfl rfl rfl ?_
  refine xi_iconst (pc' := 34) rfl rfl ?_
  refine xr_iast (j := 3) (pc' := 35) rfl rfl (by decide) (by first | rfl | (simp only [ix_add, ix_mul, ix_pred]; done) | (simp only [ix_add, ix_mul, ix_pred, *]; done)) (by omega) (by decide) rfl ?_
  refine xi_iincv (y := nI 4) (pc' := 38) rfl rfl (by decide) (st1_1 rfl) rfl ?_
  refine xi_goto (pc' := 22) rfl rfl ?_
  refine xi_iload_n (pc' := 23) rfl rfl rfl ?_
  refine xi_bipush (pc' := 25) rfl (by decide) rfl ?_
  refine xi_icmpf (pc' := 28) (tg := 41) rfl rfl (by decide) rfl ?_
  refine xi_aload_n (pc' := 29) rfl rfl rfl ?_
  refine xr_getp (pc' := 32) rfl rfl (by decide) rfl rfl rfl ?_
  refine xi_iload_n (pc' := 33) rfl rfl rfl ?_
  refine xi_iconst (pc' := 34) rfl rfl ?_
  refine xr_iast (j := 4) (pc' := 35) rfl rfl (by decide) (by first | rfl | (simp only [ix_add, ix_mul, ix_pred]; done) | (simp only [ix_add, ix_mul, ix_pred, *]; done)) (by omega) (by decide) rfl ?_
  refine xi_iincv (y := nI 5) (pc' := 38) rfl rfl (by decide) (st1_1 rfl) rfl ?_
  refine xi_goto (pc' := 22) rfl rfl ?_
  refine xi_iload_n (pc' := 23) rfl rfl rfl ?_
  refine xi_bipush (pc' := 25) rfl (by decide) rfl ?_
  refine xi_icmpf (pc' := 28) (tg := 41) rfl rfl (by decide) rfl ?_
  refine xi_aload_n (pc' := 29) rfl rfl rfl ?_
  refine xr_getp (pc' := 32) rfl rfl (by decide) rfl rfl rfl ?_
  refine xi_iload_n (pc' := 33) rfl rfl rfl ?_
  refine xi_iconst (pc' := 34) rfl rfl ?_
  refine xr_iast (j := 5) (pc' := 35) rfl rfl (by decide) (by first | rfl | (simp only [ix_add, ix_mul, ix_pred]; done) | (simp only [ix_add, ix_mul, ix_pred, *]; done)) (by omega) (by decide) rfl ?_
  refine xi_iincv (y := nI 6) (pc' := 38) rfl rfl (by decide) (st1_1 rfl) rfl ?_
  refine xi_goto (pc' := 22) rfl rfl ?_
  refine xi_iload_n (pc' := 23) rfl rfl rfl ?_
  refine xi_bipush (pc' := 25) rfl (by decide) rfl ?_
  refine xi_icmpt (pc' := 41) rfl rfl (by decide) ?_
  refine xi_iconst (pc' := 42) rfl rfl ?_
  refine xi_istore_n (pc' := 43) rfl (st1_1 rfl) rfl ?_
  refine xi_iconst (pc' := 44) rfl rfl ?_
  refine xi_istore_n (pc' := 45) rfl (st1_2 rfl) rfl ?_
  refine r_rn_loop (J := J) (D := D) (A := (nI 0, r_z (r_p0 J f) 6)) (N := N + 18) h8 hf (okR_z (p0_ok ho) 6) (hwB_eq (p0_hw hh (by omega)) (z_fr (a := 52) (k := 3) (by decide) 6)) (by omega) ?_ nm 0 (by omega)
  refine xi_iconst (pc' := 108) rfl rfl ?_
  refine xi_istore_n (pc' := 109) rfl (st1_2 rfl) rfl ?_
  refine r_end_loop ?_ 6 0 (by omega)
  refine xi_aload_n (pc' := 199) rfl rfl rfl ?_
  refine xi_aload_n (pc' := 200) rfl rfl rfl ?_
  refine xr_getiv (v := nI (f)) (pc' := 203) rfl rfl (by decide) (by decide) ((end_fr (by decide) (by decide) 6).trans (okR_rn (okR_z (p0_ok ho) 6) nm).2.1) rfl ?_
  refine xi_iconst (pc' := 204) rfl rfl ?_
  refine xi_iadd (pc' := 205) rfl rfl ?_
  refine xx_topi (y := nI (f + 1)) (ix_add f 1) ?_
  refine xi_iconst (pc' := 206) rfl rfl ?_
  refine xi_irem (pc' := 207) rfl (by decide) rfl ?_
  refine xx_topi (y := nI ((f + 1) % 4)) (ix_rem (by omega) (by decide) (by decide)) ?_
  refine xr_puti (z := 0) (pc' := 210) rfl rfl (by decide) (Or.inl rfl) rfl ?_
  refine xi_iload_n (pc' := 211) rfl rfl rfl ?_
  refine xx_ireturn rfl rfl ?_
  exact ⟨rfl, rfl⟩
theorem r_run_0 {L : Nat} {xs : Nat → Int32} {D n : Nat} {I J : ex_Mem} {nm N : Nat} (hz : J 52 27 = nI 1) (h8 : nm ≤ 8) (ho : okR nm 0 J) (hh : hwB N J) (hN : N + 400 < 2 ^ 31) : ri L xs (D + 7) 107 [.ref 52] (mkH n I J) ((r_runA J nm 0).1) (mkH n I (r_runB (r_runA J nm 0) 0)) := by
  show xx cb_G _ _ _ 107 0 [.ref 52, ex_no, ex_no] [] _ _
  refine xi_aload_n (pc' := 1) rfl rfl rfl ?_
  refine xr_getiv (v := nI (1)) (pc' := 4) rfl rfl (by decide) (by decide) (hz) rfl ?_
  refine xi_ift (pc' := 9) rfl rfl (by decide) ?_
  refine xi_aload_n (pc' := 10) rfl rfl rfl ?_
  refine xr_getiv (v := nI (0)) (pc' := 13) rfl rfl (by decide) (by decide) (ho.2.1) rfl ?_
  refine xi_iff (pc' := 16) (tg := 20) rfl rfl (by decide) rfl ?_
  refine xi_aload_n (pc' := 17) rfl rfl rfl ?_
  refine xx_callVv (pc' := 20) rfl rfl (by decide) rfl rfl (by show _ < 81 + 2 * _; omega) (Nat.le_of_ble_eq_true rfl) rfl rfl (r_poll_ok (D := D + 2) ho.2.2.1.2 ho.2.2.1.1 hh (by omega)) ?_
  have e := r_run_20 (f := 0) (L := L) (xs := xs) (D := D) (n := n) (I := I) hz h8 (by decide) ho hh hN
  rw [p0_0] at e
  exact e
theorem r_run_f {L : Nat} {xs : Nat → Int32} {D n : Nat} {I J : ex_Mem} {nm f N : Nat} (hz : J 52 27 = nI 1) (h8 : nm ≤ 8) (hf : f < 4) (ho : okR nm f J) (hh : hwB N J) (hN : N + 400 < 2 ^ 31) (hf0 : ¬ f = 0) : ri L xs (D + 7) 107 [.ref 52] (mkH n I J) ((r_runA J nm f).1) (mkH n I (r_runB (r_runA J nm f) f)) := by
  show xx cb_G _ _ _ 107 0 [.ref 52, ex_no, ex_no] [] _ _
  refine xi_aload_n (pc' := 1) rfl rfl rfl ?_
  refine xr_getiv (v := nI (1)) (pc' := 4) rfl rfl (by decide) (by decide) (hz) rfl ?_
  refine xi_ift (pc' := 9) rfl rfl (by decide) ?_
  refine xi_aload_n (pc' := 10) rfl rfl rfl ?_
  refine xr_getiv (v := nI (f)) (pc' := 13) rfl rfl (by decide) (by decide) (ho.2.1) rfl ?_
  refine xx_if (pc' := 16) (tg := 20) rfl rfl rfl (fun q13 => ?_) (fun q13 => absurd (show ex_P .ne (nI f) 0 from nI_ne0 (by omega) (by omega)) q13)
  have e := r_run_20 (L := L) (xs := xs) (D := D) (n := n) (I := I) hz h8 hf ho hh hN
  rw [p0_1 hf0] at e
  exact e
theorem r_run_ok {L : Nat} {xs : Nat → Int32} {D n : Nat} {I J : ex_Mem} {nm f N : Nat} (hz : J 52 27 = nI 1) (h8 : nm ≤ 8) (hf : f < 4) (ho : okR nm f J) (hh : hwB N J) (hN : N + 400 < 2 ^ 31) : ri L xs (D + 7) 107 [.ref 52] (mkH n I J) (r_runA J nm f).1 (mkH n I (r_runB (r_runA J nm f) f)) := by
  by_cases h : f = 0
  · subst h
    exact r_run_0 hz h8 ho hh hN
  · exact r_run_f hz h8 hf ho hh hN h
