set_option maxRecDepth 20000 in
theorem law_gt {L i : Nat} (hL : L ≤ 3584) (hi : i ≤ 10000) : (nI L - nI 7 < nI i) = (L < i + 7) := by
  apply propext
  rw [Int32.lt_iff_toInt_lt, Int32.toInt_sub, nI_toInt (by omega), nI_toInt (by decide), nI_toInt (by omega), Int.bmod_eq_of_le (by omega) (by omega)]
  omega
set_option maxRecDepth 20000 in
theorem and_31 {x : Int32} : ∃ z, z < 32 ∧ x &&& nI 31 = nI z := by
  refine ⟨(x &&& nI 31).toBitVec.toNat, ?_, ?_⟩
  · show (x.toBitVec &&& 31#32).toNat < 32
    rw [BitVec.toNat_and]
    exact Nat.and_lt_two_pow (n := 5) _ (by decide)
  · apply Int32.toBitVec_inj.1
    show (x &&& nI 31).toBitVec = BitVec.ofNat 32 _
    rw [BitVec.ofNat_toNat, BitVec.setWidth_eq]
def lawQ : Option Value → ex_Hp → Prop := fun r h => r = some (.int 1) ∧ h.1 ≤ 600000 ∧ h.2.1 ≤ 7302250
set_option maxRecDepth 20000 in
theorem law_exit {L : Nat} {xs : Nat → Int32} {n i : Nat} {I J : ex_Mem} (hL : L ≤ 3584) (hi : i ≤ 10000) (h8 : n ≤ 8) (hx : L < i + 7) : xx cb_G (L + 1) xs 11 0 18 [.ref ex_scr, .ref 0, .ref 52, .int (nI i)] [] (mkH n I J) lawQ := by
  refine xi_iload_n (pc' := 19) rfl rfl rfl ?_
  refine xi_aload_n (pc' := 20) rfl rfl rfl ?_
  refine xx_slen (pc' := 21) rfl rfl ?_
  refine xi_bipush (pc' := 23) rfl (by decide) rfl ?_
  refine xi_isub (pc' := 24) rfl rfl ?_
  refine xx_icmp (pc' := 27) (tg := 782) rfl rfl rfl (fun q24 => ?_) (fun q24 => absurd (show nI L - nI 7 < nI i from (law_gt hL hi).mpr hx) q24)
  refine xi_iconst (pc' := 783) rfl rfl ?_
  refine xx_zreturn rfl rfl (by first | rfl | assumption | exact b01_bI | simp [ex_b01, bI]) ?_
  refine ⟨rfl, ?_, ?_⟩
  · show 81 + 2 * n ≤ 600000; omega
  · show 939 + 13 * n ≤ 7302250; omega
set_option maxRecDepth 20000 in
theorem law_0_0 {L : Nat} {xs : Nat → Int32} {N n i : Nat} {I J : ex_Mem} (hL : L ≤ 3584) (hi : i + 7 ≤ L) (hN : N ≤ 2000000) (h : RC N n I J) (hz : xs i &&& nI 31 = nI 0) (hd : xs (i + 1) = 0) (kk : ∀ n' I' J', RC (N + 306) n' I' J' → xx cb_G (L + 1) xs 11 0 776 [.ref ex_scr, .ref 0, .ref 52, .int (nI i)] [] (mkH n' I' J') lawQ) : xx cb_G (L + 1) xs 11 0 27 [.ref ex_scr, .ref 0, .ref 52, .int (nI i)] [] (mkH n I J) lawQ := by
  obtain ⟨v, n', I', J', h1, h2, h3⟩ := k_encode (L := L + 1) (xs := xs) (d := nI 0) (v := xs (i + 2)) h
  refine xi_aload_n (pc' := 28) rfl rfl rfl ?_
  refine xi_iload_n (pc' := 29) rfl rfl rfl ?_
  refine xx_sld (j := i) (pc' := 30) rfl (by first | rfl | exact ix_add _ _) (by omega) (by omega) rfl ?_
  refine xi_bipush (pc' := 32) rfl (by decide) rfl ?_
  refine xi_iand (pc' := 33) rfl rfl ?_
  refine xx_topi (y := nI 0) (hz) ?_
  refine xi_switch (off := .ofNat 91) (pc' := 124) rfl (by decide) (by decide) rfl ?_
  refine xi_aload_n (pc' := 125) rfl rfl rfl ?_
  refine xi_aload_n (pc' := 126) rfl rfl rfl ?_
  refine xi_iload_n (pc' := 127) rfl rfl rfl ?_
  refine xi_iconst (pc' := 128) rfl rfl ?_
  refine xi_iadd (pc' := 129) rfl rfl ?_
  refine xx_sld (j := i + 1) (pc' := 130) rfl (by first | rfl | exact ix_add _ _) (by omega) (by omega) rfl ?_
  refine xx_if (pc' := 133) (tg := 137) rfl rfl rfl (fun q130 => ?_) (fun q130 => absurd (show ex_P .eq (xs (i + 1)) 0 from hd) q130)
  refine xi_iconst (pc' := 138) rfl rfl ?_
  refine xi_aload_n (pc' := 139) rfl rfl rfl ?_
  refine xi_iload_n (pc' := 140) rfl rfl rfl ?_
  refine xi_iconst (pc' := 141) rfl rfl ?_
  refine xi_iadd (pc' := 142) rfl rfl ?_
  refine xx_sld (j := i + 2) (pc' := 143) rfl (by first | rfl | exact ix_add _ _) (by omega) (by omega) rfl ?_
  refine xx_callVl (pc' := 146) rfl rfl (by decide) rfl rfl (by show _ < 81 + 2 * _; omega) (Nat.le_of_ble_eq_true rfl) rfl rfl (h1) ?_
  refine xi_aload_n (pc' := 147) rfl rfl rfl ?_
  refine xi_aload_n (pc' := 148) rfl rfl rfl ?_
  refine xi_iload_n (pc' := 149) rfl rfl rfl ?_
  refine xi_iconst (pc' := 150) rfl rfl ?_
  refine xi_iadd (pc' := 151) rfl rfl ?_
  refine xx_sld (j := i + 1) (pc' := 152) rfl (by first | rfl | exact ix_add _ _) (by omega) (by omega) rfl ?_
  refine xx_if (pc' := 155) (tg := 159) rfl rfl rfl (fun q152 => ?_) (fun q152 => absurd (show ex_P .eq (xs (i + 1)) 0 from hd) q152)
  refine xi_iconst (pc' := 160) rfl rfl ?_
  refine xi_aload_n (pc' := 161) rfl rfl rfl ?_
  refine xi_iload_n (pc' := 162) rfl rfl rfl ?_
  refine xi_iconst (pc' := 163) rfl rfl ?_
  refine xi_iadd (pc' := 164) rfl rfl ?_
  refine xx_sld (j := i + 2) (pc' := 165) rfl (by first | rfl | exact ix_add _ _) (by omega) (by omega) rfl ?_
  refine xx_callVl (pc' := 168) rfl rfl (by decide) rfl rfl (by show _ < 81 + 2 * _; omega) (Nat.le_of_ble_eq_true rfl) rfl rfl (h2) ?_
  refine xi_lcmp (pc' := 169) rfl rfl ?_
  refine xx_if (pc' := 172) (tg := 776) rfl rfl rfl (fun q169 => ?_) (fun q169 => absurd (show lg_cmp v v = 0 from by unfold lg_cmp; rw [if_neg Int64.lt_irrefl, if_pos rfl]) q169)
  exact kk _ _ _ h3
set_option maxRecDepth 20000 in
theorem law_0_1 {L : Nat} {xs : Nat → Int32} {N n i : Nat} {I J : ex_Mem} (hL : L ≤ 3584) (hi : i + 7 ≤ L) (hN : N ≤ 2000000) (h : RC N n I J) (hz : xs i &&& nI 31 = nI 0) (hd : ¬ xs (i + 1) = 0) (kk : ∀ n' I' J', RC (N + 306) n' I' J' → xx cb_G (L + 1) xs 11 0 776 [.ref ex_scr, .ref 0, .ref 52, .int (nI i)] [] (mkH n' I' J') lawQ) : xx cb_G (L + 1) xs 11 0 27 [.ref ex_scr, .ref 0, .ref 52, .int (nI i)] [] (mkH n I J) lawQ := by
  obtain ⟨v, n', I', J', h1, h2, h3⟩ := k_encode (L := L + 1) (xs := xs) (d := nI 1) (v := xs (i + 2)) h
  refine xi_aload_n (pc' := 28) rfl rfl rfl ?_
  refine xi_iload_n (pc' := 29) rfl rfl rfl ?_
  refine xx_sld (j := i) (pc' := 30) rfl (by first | rfl | exact ix_add _ _) (by omega) (by omega) rfl ?_
  refine xi_bipush (pc' := 32) rfl (by decide) rfl ?_
  refine xi_iand (pc' := 33) rfl rfl ?_
  refine xx_topi (y := nI 0) (hz) ?_
  refine xi_switch (off := .ofNat 91) (pc' := 124) rfl (by decide) (by decide) rfl ?_
  refine xi_aload_n (pc' := 125) rfl rfl rfl ?_
  refine xi_aload_n (pc' := 126) rfl rfl rfl ?_
  refine xi_iload_n (pc' := 127) rfl rfl rfl ?_
  refine xi_iconst (pc' := 128) rfl rfl ?_
  refine xi_iadd (pc' := 129) rfl rfl ?_
  refine xx_sld (j := i + 1) (pc' := 130) rfl (by first | rfl | exact ix_add _ _) (by omega) (by omega) rfl ?_
  refine xx_if (pc' := 133) (tg := 137) rfl rfl rfl (fun q130 => absurd q130 (show ¬ ex_P .eq (xs (i + 1)) 0 from hd)) (fun q130 => ?_)
  refine xi_iconst (pc' := 134) rfl rfl ?_
  refine xi_goto (pc' := 138) rfl rfl ?_
  refine xi_aload_n (pc' := 139) rfl rfl rfl ?_
  refine xi_iload_n (pc' := 140) rfl rfl rfl ?_
  refine xi_iconst (pc' := 141) rfl rfl ?_
  refine xi_iadd (pc' := 142) rfl rfl ?_
  refine xx_sld (j := i + 2) (pc' := 143) rfl (by first | rfl | exact ix_add _ _) (by omega) (by omega) rfl ?_
  refine xx_callVl (pc' := 146) rfl rfl (by decide) rfl rfl (by show _ < 81 + 2 * _; omega) (Nat.le_of_ble_eq_true rfl) rfl rfl (h1) ?_
  refine xi_aload_n (pc' := 147) rfl rfl rfl ?_
  refine xi_aload_n (pc' := 148) rfl rfl rfl ?_
  refine xi_iload_n (pc' := 149) rfl rfl rfl ?_
  refine xi_iconst (pc' := 150) rfl rfl ?_
  refine xi_iadd (pc' := 151) rfl rfl ?_
  refine xx_sld (j := i + 1) (pc' := 152) rfl (by first | rfl | exact ix_add _ _) (by omega) (by omega) rfl ?_
  refine xx_if (pc' := 155) (tg := 159) rfl rfl rfl (fun q152 => absurd q152 (show ¬ ex_P .eq (xs (i + 1)) 0 from hd)) (fun q152 => ?_)
  refine xi_iconst (pc' := 156) rfl rfl ?_
  refine xi_goto (pc' := 160) rfl rfl ?_
  refine xi_aload_n (pc' := 161) rfl rfl rfl ?_
  refine xi_iload_n (pc' := 162) rfl rfl rfl ?_
  refine xi_iconst (pc' := 163) rfl rfl ?_
  refine xi_iadd (pc' := 164) rfl rfl ?_
  refine xx_sld (j := i + 2) (pc' := 165) rfl (by first | rfl | exact ix_add _ _) (by omega) (by omega) rfl ?_
  refine xx_callVl (pc' := 168) rfl rfl (by decide) rfl rfl (by show _ < 81 + 2 * _; omega) (Nat.le_of_ble_eq_true rfl) rfl rfl (h2) ?_
  refine xi_lcmp (pc' := 169) rfl rfl ?_
  refine xx_if (pc' := 172) (tg := 776) rfl rfl rfl (fun q169 => ?_) (fun q169 => absurd (show lg_cmp v v = 0 from by unfold lg_cmp; rw [if_neg Int64.lt_irrefl, if_pos rfl]) q169)
  exact kk _ _ _ h3
set_option maxRecDepth 20000 in
theorem law_0 {L : Nat} {xs : Nat → Int32} {N n i : Nat} {I J : ex_Mem} (hL : L ≤ 3584) (hi : i + 7 ≤ L) (hN : N ≤ 2000000) (h : RC N n I J) (hz : xs i &&& nI 31 = nI 0) (kk : ∀ n' I' J', RC (N + 306) n' I' J' → xx cb_G (L + 1) xs 11 0 776 [.ref ex_scr, .ref 0, .ref 52, .int (nI i)] [] (mkH n' I' J') lawQ) : xx cb_G (L + 1) xs 11 0 27 [.ref ex_scr, .ref 0, .ref 52, .int (nI i)] [] (mkH n I J) lawQ := by
  by_cases hd : xs (i + 1) = 0
  · exact law_0_0 hL hi hN h hz hd kk
  · exact law_0_1 hL hi hN h hz hd kk
set_option maxRecDepth 20000 in
theorem law_1 {L : Nat} {xs : Nat → Int32} {N n i : Nat} {I J : ex_Mem} (hL : L ≤ 3584) (hi : i + 7 ≤ L) (hN : N ≤ 2000000) (h : RC N n I J) (hz : xs i &&& nI 31 = nI 1)  (kk : ∀ n' I' J', RC (N + 306) n' I' J' → xx cb_G (L + 1) xs 11 0 776 [.ref ex_scr, .ref 0, .ref 52, .int (nI i)] [] (mkH n' I' J') lawQ) : xx cb_G (L + 1) xs 11 0 27 [.ref ex_scr, .ref 0, .ref 52, .int (nI i)] [] (mkH n I J) lawQ := by
  obtain ⟨v, n', I', J', h1, h2, h3⟩ := k_decode (L := L + 1) (xs := xs) (w := ((xs (i + 1)).toInt64 <<< ((nI 32).toInt64 &&& 63)) ||| ((xs (i + 2)).toInt64 &&& lN 4294967295)) h
  refine xi_aload_n (pc' := 28) rfl rfl rfl ?_
  refine xi_iload_n (pc' := 29) rfl rfl rfl ?_
  refine xx_sld (j := i) (pc' := 30) rfl (by first | rfl | exact ix_add _ _) (by omega) (by omega) rfl ?_
  refine xi_bipush (pc' := 32) rfl (by decide) rfl ?_
  refine xi_iand (pc' := 33) rfl rfl ?_
  refine xx_topi (y := nI 1) (hz) ?_
  refine xi_switch (off := .ofNat 141) (pc' := 174) rfl (by decide) (by decide) rfl ?_
  refine xi_aload_n (pc' := 175) rfl rfl rfl ?_
  refine xi_aload_n (pc' := 176) rfl rfl rfl ?_
  refine xi_iload_n (pc' := 177) rfl rfl rfl ?_
  refine xi_iconst (pc' := 178) rfl rfl ?_
  refine xi_iadd (pc' := 179) rfl rfl ?_
  refine xx_sld (j := i + 1) (pc' := 180) rfl (by first | rfl | exact ix_add _ _) (by omega) (by omega) rfl ?_
  refine xi_i2l (pc' := 181) rfl rfl ?_
  refine xi_bipush (pc' := 183) rfl (by decide) rfl ?_
  refine xi_lshl (pc' := 184) rfl rfl ?_
  refine xi_aload_n (pc' := 185) rfl rfl rfl ?_
  refine xi_iload_n (pc' := 186) rfl rfl rfl ?_
  refine xi_iconst (pc' := 187) rfl rfl ?_
  refine xi_iadd (pc' := 188) rfl rfl ?_
  refine xx_sld (j := i + 2) (pc' := 189) rfl (by first | rfl | exact ix_add _ _) (by omega) (by omega) rfl ?_
  refine xi_i2l (pc' := 190) rfl rfl ?_
  refine xx_ldc2 (v := lN 4294967295) (pc' := 193) rfl rfl (by decide) rfl ?_
  refine xi_land (pc' := 194) rfl rfl ?_
  refine xi_lor (pc' := 195) rfl rfl ?_
  refine xx_callVi (pc' := 198) rfl rfl (by decide) rfl rfl (by show _ < 81 + 2 * _; omega) (Nat.le_of_ble_eq_true rfl) rfl rfl (h1) ?_
  refine xi_aload_n (pc' := 199) rfl rfl rfl ?_
  refine xi_aload_n (pc' := 200) rfl rfl rfl ?_
  refine xi_iload_n (pc' := 201) rfl rfl rfl ?_
  refine xi_iconst (pc' := 202) rfl rfl ?_
  refine xi_iadd (pc' := 203) rfl rfl ?_
  refine xx_sld (j := i + 1) (pc' := 204) rfl (by first | rfl | exact ix_add _ _) (by omega) (by omega) rfl ?_
  refine xi_i2l (pc' := 205) rfl rfl ?_
  refine xi_bipush (pc' := 207) rfl (by decide) rfl ?_
  refine xi_lshl (pc' := 208) rfl rfl ?_
  refine xi_aload_n (pc' := 209) rfl rfl rfl ?_
  refine xi_iload_n (pc' := 210) rfl rfl rfl ?_
  refine xi_iconst (pc' := 211) rfl rfl ?_
  refine xi_iadd (pc' := 212) rfl rfl ?_
  refine xx_sld (j := i + 2) (pc' := 213) rfl (by first | rfl | exact ix_add _ _) (by omega) (by omega) rfl ?_
  refine xi_i2l (pc' := 214) rfl rfl ?_
  refine xx_ldc2 (v := lN 4294967295) (pc' := 217) rfl rfl (by decide) rfl ?_
  refine xi_land (pc' := 218) rfl rfl ?_
  refine xi_lor (pc' := 219) rfl rfl ?_
  refine xx_callVi (pc' := 222) rfl rfl (by decide) rfl rfl (by show _ < 81 + 2 * _; omega) (Nat.le_of_ble_eq_true rfl) rfl rfl (h2) ?_
  refine xx_icmp (pc' := 225) (tg := 776) rfl rfl rfl (fun q222 => ?_) (fun q222 => absurd (show ex_P .eq v v from rfl) q222)
  exact kk _ _ _ h3
set_option maxRecDepth 20000 in
theorem law_2_0 {L : Nat} {xs : Nat → Int32} {N n i : Nat} {I J : ex_Mem} (hL : L ≤ 3584) (hi : i + 7 ≤ L) (hN : N ≤ 2000000) (h : RC N n I J) (hz : xs i &&& nI 31 = nI 2) (hd : xs (i + 2) = 0) (kk : ∀ n' I' J', RC (N + 306) n' I' J' → xx cb_G (L + 1) xs 11 0 776 [.ref ex_scr, .ref 0, .ref 52, .int (nI i)] [] (mkH n' I' J') lawQ) : xx cb_G (L + 1) xs 11 0 27 [.ref ex_scr, .ref 0, .ref 52, .int (nI i)] [] (mkH n I J) lawQ := by
  obtain ⟨v, n', I', J', h1, h2, h3⟩ := k_live (L := L + 1) (xs := xs) (t := xs (i + 1)) (on := nI 0) rfl h
  refine xi_aload_n (pc' := 28) rfl rfl rfl ?_
  refine xi_iload_n (pc' := 29) rfl rfl rfl ?_
  refine xx_sld (j := i) (pc' := 30) rfl (by first | rfl | exact ix_add _ _) (by omega) (by omega) rfl ?_
  refine xi_bipush (pc' := 32) rfl (by decide) rfl ?_
  refine xi_iand (pc' := 33) rfl rfl ?_
  refine xx_topi (y := nI 2) (hz) ?_
  refine xi_switch (off := .ofNat 194) (pc' := 227) rfl (by decide) (by decide) rfl ?_
  refine xi_aload_n (pc' := 228) rfl rfl rfl ?_
  refine xi_aload_n (pc' := 229) rfl rfl rfl ?_
  refine xi_iload_n (pc' := 230) rfl rfl rfl ?_
  refine xi_iconst (pc' := 231) rfl rfl ?_
  refine xi_iadd (pc' := 232) rfl rfl ?_
  refine xx_sld (j := i + 1) (pc' := 233) rfl (by first | rfl | exact ix_add _ _) (by omega) (by omega) rfl ?_
  refine xi_aload_n (pc' := 234) rfl rfl rfl ?_
  refine xi_iload_n (pc' := 235) rfl rfl rfl ?_
  refine xi_iconst (pc' := 236) rfl rfl ?_
  refine xi_iadd (pc' := 237) rfl rfl ?_
  refine xx_sld (j := i + 2) (pc' := 238) rfl (by first | rfl | exact ix_add _ _) (by omega) (by omega) rfl ?_
  refine xx_if (pc' := 241) (tg := 245) rfl rfl rfl (fun q238 => ?_) (fun q238 => absurd (show ex_P .eq (xs (i + 2)) 0 from hd) q238)
  refine xi_iconst (pc' := 246) rfl rfl ?_
  refine xx_callVi (pc' := 249) rfl rfl (by decide) rfl rfl (by show _ < 81 + 2 * _; omega) (Nat.le_of_ble_eq_true rfl) rfl rfl (h1) ?_
  refine xi_aload_n (pc' := 250) rfl rfl rfl ?_
  refine xi_aload_n (pc' := 251) rfl rfl rfl ?_
  refine xi_iload_n (pc' := 252) rfl rfl rfl ?_
  refine xi_iconst (pc' := 253) rfl rfl ?_
  refine xi_iadd (pc' := 254) rfl rfl ?_
  refine xx_sld (j := i + 1) (pc' := 255) rfl (by first | rfl | exact ix_add _ _) (by omega) (by omega) rfl ?_
  refine xi_aload_n (pc' := 256) rfl rfl rfl ?_
  refine xi_iload_n (pc' := 257) rfl rfl rfl ?_
  refine xi_iconst (pc' := 258) rfl rfl ?_
  refine xi_iadd (pc' := 259) rfl rfl ?_
  refine xx_sld (j := i + 2) (pc' := 260) rfl (by first | rfl | exact ix_add _ _) (by omega) (by omega) rfl ?_
  refine xx_if (pc' := 263) (tg := 267) rfl rfl rfl (fun q260 => ?_) (fun q260 => absurd (show ex_P .eq (xs (i + 2)) 0 from hd) q260)
  refine xi_iconst (pc' := 268) rfl rfl ?_
  refine xx_callVi (pc' := 271) rfl rfl (by decide) rfl rfl (by show _ < 81 + 2 * _; omega) (Nat.le_of_ble_eq_true rfl) rfl rfl (h2) ?_
  refine xx_icmp (pc' := 274) (tg := 776) rfl rfl rfl (fun q271 => ?_) (fun q271 => absurd (show ex_P .eq v v from rfl) q271)
  exact kk _ _ _ h3
set_option maxRecDepth 20000 in
theorem law_2_1 {L : Nat} {xs : Nat → Int32} {N n i : Nat} {I J : ex_Mem} (hL : L ≤ 3584) (hi : i + 7 ≤ L) (hN : N ≤ 2000000) (h : RC N n I J) (hz : xs i &&& nI 31 = nI 2) (hd : ¬ xs (i + 2) = 0) (kk : ∀ n' I' J', RC (N + 306) n' I' J' → xx cb_G (L + 1) xs 11 0 776 [.ref ex_scr, .ref 0, .ref 52, .int (nI i)] [] (mkH n' I' J') lawQ) : xx cb_G (L + 1) xs 11 0 27 [.ref ex_scr, .ref 0, .ref 52, .int (nI i)] [] (mkH n I J) lawQ := by
  obtain ⟨v, n', I', J', h1, h2, h3⟩ := k_live (L := L + 1) (xs := xs) (t := xs (i + 1)) (on := nI 1) rfl h
  refine xi_aload_n (pc' := 28) rfl rfl rfl ?_
  refine xi_iload_n (pc' := 29) rfl rfl rfl ?_
  refine xx_sld (j := i) (pc' := 30) rfl (by first | rfl | exact ix_add _ _) (by omega) (by omega) rfl ?_
  refine xi_bipush (pc' := 32) rfl (by decide) rfl ?_
  refine xi_iand (pc' := 33) rfl rfl ?_
  refine xx_topi (y := nI 2) (hz) ?_
  refine xi_switch (off := .ofNat 194) (pc' := 227) rfl (by decide) (by decide) rfl ?_
  refine xi_aload_n (pc' := 228) rfl rfl rfl ?_
  refine xi_aload_n (pc' := 229) rfl rfl rfl ?_
  refine xi_iload_n (pc' := 230) rfl rfl rfl ?_
  refine xi_iconst (pc' := 231) rfl rfl ?_
  refine xi_iadd (pc' := 232) rfl rfl ?_
  refine xx_sld (j := i + 1) (pc' := 233) rfl (by first | rfl | exact ix_add _ _) (by omega) (by omega) rfl ?_
  refine xi_aload_n (pc' := 234) rfl rfl rfl ?_
  refine xi_iload_n (pc' := 235) rfl rfl rfl ?_
  refine xi_iconst (pc' := 236) rfl rfl ?_
  refine xi_iadd (pc' := 237) rfl rfl ?_
  refine xx_sld (j := i + 2) (pc' := 238) rfl (by first | rfl | exact ix_add _ _) (by omega) (by omega) rfl ?_
  refine xx_if (pc' := 241) (tg := 245) rfl rfl rfl (fun q238 => absurd q238 (show ¬ ex_P .eq (xs (i + 2)) 0 from hd)) (fun q238 => ?_)
  refine xi_iconst (pc' := 242) rfl rfl ?_
  refine xi_goto (pc' := 246) rfl rfl ?_
  refine xx_callVi (pc' := 249) rfl rfl (by decide) rfl rfl (by show _ < 81 + 2 * _; omega) (Nat.le_of_ble_eq_true rfl) rfl rfl (h1) ?_
  refine xi_aload_n (pc' := 250) rfl rfl rfl ?_
  refine xi_aload_n (pc' := 251) rfl rfl rfl ?_
  refine xi_iload_n (pc' := 252) rfl rfl rfl ?_
  refine xi_iconst (pc' := 253) rfl rfl ?_
  refine xi_iadd (pc' := 254) rfl rfl ?_
  refine xx_sld (j := i + 1) (pc' := 255) rfl (by first | rfl | exact ix_add _ _) (by omega) (by omega) rfl ?_
  refine xi_aload_n (pc' := 256) rfl rfl rfl ?_
  refine xi_iload_n (pc' := 257) rfl rfl rfl ?_
  refine xi_iconst (pc' := 258) rfl rfl ?_
  refine xi_iadd (pc' := 259) rfl rfl ?_
  refine xx_sld (j := i + 2) (pc' := 260) rfl (by first | rfl | exact ix_add _ _) (by omega) (by omega) rfl ?_
  refine xx_if (pc' := 263) (tg := 267) rfl rfl rfl (fun q260 => absurd q260 (show ¬ ex_P .eq (xs (i + 2)) 0 from hd)) (fun q260 => ?_)
  refine xi_iconst (pc' := 264) rfl rfl ?_
  refine xi_goto (pc' := 268) rfl rfl ?_
  refine xx_callVi (pc' := 271) rfl rfl (by decide) rfl rfl (by show _ < 81 + 2 * _; omega) (Nat.le_of_ble_eq_true rfl) rfl rfl (h2) ?_
  refine xx_icmp (pc' := 274) (tg := 776) rfl rfl rfl (fun q271 => ?_) (fun q271 => absurd (show ex_P .eq v v from rfl) q271)
  exact kk _ _ _ h3
set_option maxRecDepth 20000 in
theorem law_2 {L : Nat} {xs : Nat → Int32} {N n i : Nat} {I J : ex_Mem} (hL : L ≤ 3584) (hi : i + 7 ≤ L) (hN : N ≤ 2000000) (h : RC N n I J) (hz : xs i &&& nI 31 = nI 2) (kk : ∀ n' I' J', RC (N + 306) n' I' J' → xx cb_G (L + 1) xs 11 0 776 [.ref ex_scr, .ref 0, .ref 52, .int (nI i)] [] (mkH n' I' J') lawQ) : xx cb_G (L + 1) xs 11 0 27 [.ref ex_scr, .ref 0, .ref 52, .int (nI i)] [] (mkH n I J) lawQ := by
  by_cases hd : xs (i + 2) = 0
  · exact law_2_0 hL hi hN h hz hd kk
  · exact law_2_1 hL hi hN h hz hd kk
set_option maxRecDepth 20000 in
theorem law_3 {L : Nat} {xs : Nat → Int32} {N n i : Nat} {I J : ex_Mem} (hL : L ≤ 3584) (hi : i + 7 ≤ L) (hN : N ≤ 2000000) (h : RC N n I J) (hz : xs i &&& nI 31 = nI 3)  (kk : ∀ n' I' J', RC (N + 306) n' I' J' → xx cb_G (L + 1) xs 11 0 776 [.ref ex_scr, .ref 0, .ref 52, .int (nI i)] [] (mkH n' I' J') lawQ) : xx cb_G (L + 1) xs 11 0 27 [.ref ex_scr, .ref 0, .ref 52, .int (nI i)] [] (mkH n I J) lawQ := by
  obtain ⟨v, n', I', J', h1, h2, h3⟩ := k_draft (L := L + 1) (xs := xs) (t := xs (i + 1)) (s := xs (i + 2)) (k := xs (i + 3)) (v := xs (i + 4)) h
  refine xi_aload_n (pc' := 28) rfl rfl rfl ?_
  refine xi_iload_n (pc' := 29) rfl rfl rfl ?_
  refine xx_sld (j := i) (pc' := 30) rfl (by first | rfl | exact ix_add _ _) (by omega) (by omega) rfl ?_
  refine xi_bipush (pc' := 32) rfl (by decide) rfl ?_
  refine xi_iand (pc' := 33) rfl rfl ?_
  refine xx_topi (y := nI 3) (hz) ?_
  refine xi_switch (off := .ofNat 243) (pc' := 276) rfl (by decide) (by decide) rfl ?_
  refine xi_aload_n (pc' := 277) rfl rfl rfl ?_
  refine xi_aload_n (pc' := 278) rfl rfl rfl ?_
  refine xi_iload_n (pc' := 279) rfl rfl rfl ?_
  refine xi_iconst (pc' := 280) rfl rfl ?_
  refine xi_iadd (pc' := 281) rfl rfl ?_
  refine xx_sld (j := i + 1) (pc' := 282) rfl (by first | rfl | exact ix_add _ _) (by omega) (by omega) rfl ?_
  refine xi_aload_n (pc' := 283) rfl rfl rfl ?_
  refine xi_iload_n (pc' := 284) rfl rfl rfl ?_
  refine xi_iconst (pc' := 285) rfl rfl ?_
  refine xi_iadd (pc' := 286) rfl rfl ?_
  refine xx_sld (j := i + 2) (pc' := 287) rfl (by first | rfl | exact ix_add _ _) (by omega) (by omega) rfl ?_
  refine xi_aload_n (pc' := 288) rfl rfl rfl ?_
  refine xi_iload_n (pc' := 289) rfl rfl rfl ?_
  refine xi_iconst (pc' := 290) rfl rfl ?_
  refine xi_iadd (pc' := 291) rfl rfl ?_
  refine xx_sld (j := i + 3) (pc' := 292) rfl (by first | rfl | exact ix_add _ _) (by omega) (by omega) rfl ?_
  refine xi_aload_n (pc' := 293) rfl rfl rfl ?_
  refine xi_iload_n (pc' := 294) rfl rfl rfl ?_
  refine xi_iconst (pc' := 295) rfl rfl ?_
  refine xi_iadd (pc' := 296) rfl rfl ?_
  refine xx_sld (j := i + 4) (pc' := 297) rfl (by first | rfl | exact ix_add _ _) (by omega) (by omega) rfl ?_
  refine xx_callVi (pc' := 300) rfl rfl (by decide) rfl rfl (by show _ < 81 + 2 * _; omega) (Nat.le_of_ble_eq_true rfl) rfl rfl (h1) ?_
  refine xi_aload_n (pc' := 301) rfl rfl rfl ?_
  refine xi_aload_n (pc' := 302) rfl rfl rfl ?_
  refine xi_iload_n (pc' := 303) rfl rfl rfl ?_
  refine xi_iconst (pc' := 304) rfl rfl ?_
  refine xi_iadd (pc' := 305) rfl rfl ?_
  refine xx_sld (j := i + 1) (pc' := 306) rfl (by first | rfl | exact ix_add _ _) (by omega) (by omega) rfl ?_
  refine xi_aload_n (pc' := 307) rfl rfl rfl ?_
  refine xi_iload_n (pc' := 308) rfl rfl rfl ?_
  refine xi_iconst (pc' := 309) rfl rfl ?_
  refine xi_iadd (pc' := 310) rfl rfl ?_
  refine xx_sld (j := i + 2) (pc' := 311) rfl (by first | rfl | exact ix_add _ _) (by omega) (by omega) rfl ?_
  refine xi_aload_n (pc' := 312) rfl rfl rfl ?_
  refine xi_iload_n (pc' := 313) rfl rfl rfl ?_
  refine xi_iconst (pc' := 314) rfl rfl ?_
  refine xi_iadd (pc' := 315) rfl rfl ?_
  refine xx_sld (j := i + 3) (pc' := 316) rfl (by first | rfl | exact ix_add _ _) (by omega) (by omega) rfl ?_
  refine xi_aload_n (pc' := 317) rfl rfl rfl ?_
  refine xi_iload_n (pc' := 318) rfl rfl rfl ?_
  refine xi_iconst (pc' := 319) rfl rfl ?_
  refine xi_iadd (pc' := 320) rfl rfl ?_
  refine xx_sld (j := i + 4) (pc' := 321) rfl (by first | rfl | exact ix_add _ _) (by omega) (by omega) rfl ?_
  refine xx_callVi (pc' := 324) rfl rfl (by decide) rfl rfl (by show _ < 81 + 2 * _; omega) (Nat.le_of_ble_eq_true rfl) rfl rfl (h2) ?_
  refine xx_icmp (pc' := 327) (tg := 776) rfl rfl rfl (fun q324 => ?_) (fun q324 => absurd (show ex_P .eq v v from rfl) q324)
  exact kk _ _ _ h3
set_option maxRecDepth 20000 in
theorem law_4 {L : Nat} {xs : Nat → Int32} {N n i : Nat} {I J : ex_Mem} (hL : L ≤ 3584) (hi : i + 7 ≤ L) (hN : N ≤ 2000000) (h : RC N n I J) (hz : xs i &&& nI 31 = nI 4)  (kk : ∀ n' I' J', RC (N + 306) n' I' J' → xx cb_G (L + 1) xs 11 0 776 [.ref ex_scr, .ref 0, .ref 52, .int (nI i)] [] (mkH n' I' J') lawQ) : xx cb_G (L + 1) xs 11 0 27 [.ref ex_scr, .ref 0, .ref 52, .int (nI i)] [] (mkH n I J) lawQ := by
  obtain ⟨v, n', I', J', h1, h2, h3⟩ := k_publish (L := L + 1) (xs := xs) (t := xs (i + 1)) (s := xs (i + 2)) h
  refine xi_aload_n (pc' := 28) rfl rfl rfl ?_
  refine xi_iload_n (pc' := 29) rfl rfl rfl ?_
  refine xx_sld (j := i) (pc' := 30) rfl (by first | rfl | exact ix_add _ _) (by omega) (by omega) rfl ?_
  refine xi_bipush (pc' := 32) rfl (by decide) rfl ?_
  refine xi_iand (pc' := 33) rfl rfl ?_
  refine xx_topi (y := nI 4) (hz) ?_
  refine xi_switch (off := .ofNat 296) (pc' := 329) rfl (by decide) (by decide) rfl ?_
  refine xi_aload_n (pc' := 330) rfl rfl rfl ?_
  refine xi_aload_n (pc' := 331) rfl rfl rfl ?_
  refine xi_iload_n (pc' := 332) rfl rfl rfl ?_
  refine xi_iconst (pc' := 333) rfl rfl ?_
  refine xi_iadd (pc' := 334) rfl rfl ?_
  refine xx_sld (j := i + 1) (pc' := 335) rfl (by first | rfl | exact ix_add _ _) (by omega) (by omega) rfl ?_
  refine xi_aload_n (pc' := 336) rfl rfl rfl ?_
  refine xi_iload_n (pc' := 337) rfl rfl rfl ?_
  refine xi_iconst (pc' := 338) rfl rfl ?_
  refine xi_iadd (pc' := 339) rfl rfl ?_
  refine xx_sld (j := i + 2) (pc' := 340) rfl (by first | rfl | exact ix_add _ _) (by omega) (by omega) rfl ?_
  refine xx_callVi (pc' := 343) rfl rfl (by decide) rfl rfl (by show _ < 81 + 2 * _; omega) (Nat.le_of_ble_eq_true rfl) rfl rfl (h1) ?_
  refine xi_aload_n (pc' := 344) rfl rfl rfl ?_
  refine xi_aload_n (pc' := 345) rfl rfl rfl ?_
  refine xi_iload_n (pc' := 346) rfl rfl rfl ?_
  refine xi_iconst (pc' := 347) rfl rfl ?_
  refine xi_iadd (pc' := 348) rfl rfl ?_
  refine xx_sld (j := i + 1) (pc' := 349) rfl (by first | rfl | exact ix_add _ _) (by omega) (by omega) rfl ?_
  refine xi_aload_n (pc' := 350) rfl rfl rfl ?_
  refine xi_iload_n (pc' := 351) rfl rfl rfl ?_
  refine xi_iconst (pc' := 352) rfl rfl ?_
  refine xi_iadd (pc' := 353) rfl rfl ?_
  refine xx_sld (j := i + 2) (pc' := 354) rfl (by first | rfl | exact ix_add _ _) (by omega) (by omega) rfl ?_
  refine xx_callVi (pc' := 357) rfl rfl (by decide) rfl rfl (by show _ < 81 + 2 * _; omega) (Nat.le_of_ble_eq_true rfl) rfl rfl (h2) ?_
  refine xx_icmp (pc' := 360) (tg := 776) rfl rfl rfl (fun q357 => ?_) (fun q357 => absurd (show ex_P .eq v v from rfl) q357)
  exact kk _ _ _ h3
set_option maxRecDepth 20000 in
theorem law_5 {L : Nat} {xs : Nat → Int32} {N n i : Nat} {I J : ex_Mem} (hL : L ≤ 3584) (hi : i + 7 ≤ L) (hN : N ≤ 2000000) (h : RC N n I J) (hz : xs i &&& nI 31 = nI 5)  (kk : ∀ n' I' J', RC (N + 306) n' I' J' → xx cb_G (L + 1) xs 11 0 776 [.ref ex_scr, .ref 0, .ref 52, .int (nI i)] [] (mkH n' I' J') lawQ) : xx cb_G (L + 1) xs 11 0 27 [.ref ex_scr, .ref 0, .ref 52, .int (nI i)] [] (mkH n I J) lawQ := by
  obtain ⟨v, n', I', J', h1, h2, h3⟩ := k_received (L := L + 1) (xs := xs) (t := xs (i + 1)) (s := xs (i + 2)) (k := xs (i + 3)) h
  refine xi_aload_n (pc' := 28) rfl rfl rfl ?_
  refine xi_iload_n (pc' := 29) rfl rfl rfl ?_
  refine xx_sld (j := i) (pc' := 30) rfl (by first | rfl | exact ix_add _ _) (by omega) (by omega) rfl ?_
  refine xi_bipush (pc' := 32) rfl (by decide) rfl ?_
  refine xi_iand (pc' := 33) rfl rfl ?_
  refine xx_topi (y := nI 5) (hz) ?_
  refine xi_switch (off := .ofNat 329) (pc' := 362) rfl (by decide) (by decide) rfl ?_
  refine xi_aload_n (pc' := 363) rfl rfl rfl ?_
  refine xi_aload_n (pc' := 364) rfl rfl rfl ?_
  refine xi_iload_n (pc' := 365) rfl rfl rfl ?_
  refine xi_iconst (pc' := 366) rfl rfl ?_
  refine xi_iadd (pc' := 367) rfl rfl ?_
  refine xx_sld (j := i + 1) (pc' := 368) rfl (by first | rfl | exact ix_add _ _) (by omega) (by omega) rfl ?_
  refine xi_aload_n (pc' := 369) rfl rfl rfl ?_
  refine xi_iload_n (pc' := 370) rfl rfl rfl ?_
  refine xi_iconst (pc' := 371) rfl rfl ?_
  refine xi_iadd (pc' := 372) rfl rfl ?_
  refine xx_sld (j := i + 2) (pc' := 373) rfl (by first | rfl | exact ix_add _ _) (by omega) (by omega) rfl ?_
  refine xi_aload_n (pc' := 374) rfl rfl rfl ?_
  refine xi_iload_n (pc' := 375) rfl rfl rfl ?_
  refine xi_iconst (pc' := 376) rfl rfl ?_
  refine xi_iadd (pc' := 377) rfl rfl ?_
  refine xx_sld (j := i + 3) (pc' := 378) rfl (by first | rfl | exact ix_add _ _) (by omega) (by omega) rfl ?_
  refine xx_callVi (pc' := 381) rfl rfl (by decide) rfl rfl (by show _ < 81 + 2 * _; omega) (Nat.le_of_ble_eq_true rfl) rfl rfl (h1) ?_
  refine xi_aload_n (pc' := 382) rfl rfl rfl ?_
  refine xi_aload_n (pc' := 383) rfl rfl rfl ?_
  refine xi_iload_n (pc' := 384) rfl rfl rfl ?_
  refine xi_iconst (pc' := 385) rfl rfl ?_
  refine xi_iadd (pc' := 386) rfl rfl ?_
  refine xx_sld (j := i + 1) (pc' := 387) rfl (by first | rfl | exact ix_add _ _) (by omega) (by omega) rfl ?_
  refine xi_aload_n (pc' := 388) rfl rfl rfl ?_
  refine xi_iload_n (pc' := 389) rfl rfl rfl ?_
  refine xi_iconst (pc' := 390) rfl rfl ?_
  refine xi_iadd (pc' := 391) rfl rfl ?_
  refine xx_sld (j := i + 2) (pc' := 392) rfl (by first | rfl | exact ix_add _ _) (by omega) (by omega) rfl ?_
  refine xi_aload_n (pc' := 393) rfl rfl rfl ?_
  refine xi_iload_n (pc' := 394) rfl rfl rfl ?_
  refine xi_iconst (pc' := 395) rfl rfl ?_
  refine xi_iadd (pc' := 396) rfl rfl ?_
  refine xx_sld (j := i + 3) (pc' := 397) rfl (by first | rfl | exact ix_add _ _) (by omega) (by omega) rfl ?_
  refine xx_callVi (pc' := 400) rfl rfl (by decide) rfl rfl (by show _ < 81 + 2 * _; omega) (Nat.le_of_ble_eq_true rfl) rfl rfl (h2) ?_
  refine xx_icmp (pc' := 403) (tg := 776) rfl rfl rfl (fun q400 => ?_) (fun q400 => absurd (show ex_P .eq v v from rfl) q400)
  exact kk _ _ _ h3
set_option maxRecDepth 20000 in
theorem law_6 {L : Nat} {xs : Nat → Int32} {N n i : Nat} {I J : ex_Mem} (hL : L ≤ 3584) (hi : i + 7 ≤ L) (hN : N ≤ 2000000) (h : RC N n I J) (hz : xs i &&& nI 31 = nI 6)  (kk : ∀ n' I' J', RC (N + 306) n' I' J' → xx cb_G (L + 1) xs 11 0 776 [.ref ex_scr, .ref 0, .ref 52, .int (nI i)] [] (mkH n' I' J') lawQ) : xx cb_G (L + 1) xs 11 0 27 [.ref ex_scr, .ref 0, .ref 52, .int (nI i)] [] (mkH n I J) lawQ := by
  obtain ⟨v, n', I', J', h1, h2, h3⟩ := k_terminal (L := L + 1) (xs := xs) (t := xs (i + 1)) (w := xs (i + 2)) h
  refine xi_aload_n (pc' := 28) rfl rfl rfl ?_
  refine xi_iload_n (pc' := 29) rfl rfl rfl ?_
  refine xx_sld (j := i) (pc' := 30) rfl (by first | rfl | exact ix_add _ _) (by omega) (by omega) rfl ?_
  refine xi_bipush (pc' := 32) rfl (by decide) rfl ?_
  refine xi_iand (pc' := 33) rfl rfl ?_
  refine xx_topi (y := nI 6) (hz) ?_
  refine xi_switch (off := .ofNat 372) (pc' := 405) rfl (by decide) (by decide) rfl ?_
  refine xi_aload_n (pc' := 406) rfl rfl rfl ?_
  refine xi_aload_n (pc' := 407) rfl rfl rfl ?_
  refine xi_iload_n (pc' := 408) rfl rfl rfl ?_
  refine xi_iconst (pc' := 409) rfl rfl ?_
  refine xi_iadd (pc' := 410) rfl rfl ?_
  refine xx_sld (j := i + 1) (pc' := 411) rfl (by first | rfl | exact ix_add _ _) (by omega) (by omega) rfl ?_
  refine xi_aload_n (pc' := 412) rfl rfl rfl ?_
  refine xi_iload_n (pc' := 413) rfl rfl rfl ?_
  refine xi_iconst (pc' := 414) rfl rfl ?_
  refine xi_iadd (pc' := 415) rfl rfl ?_
  refine xx_sld (j := i + 2) (pc' := 416) rfl (by first | rfl | exact ix_add _ _) (by omega) (by omega) rfl ?_
  refine xx_callVi (pc' := 419) rfl rfl (by decide) rfl rfl (by show _ < 81 + 2 * _; omega) (Nat.le_of_ble_eq_true rfl) rfl rfl (h1) ?_
  refine xi_aload_n (pc' := 420) rfl rfl rfl ?_
  refine xi_aload_n (pc' := 421) rfl rfl rfl ?_
  refine xi_iload_n (pc' := 422) rfl rfl rfl ?_
  refine xi_iconst (pc' := 423) rfl rfl ?_
  refine xi_iadd (pc' := 424) rfl rfl ?_
  refine xx_sld (j := i + 1) (pc' := 425) rfl (by first | rfl | exact ix_add _ _) (by omega) (by omega) rfl ?_
  refine xi_aload_n (pc' := 426) rfl rfl rfl ?_
  refine xi_iload_n (pc' := 427) rfl rfl rfl ?_
  refine xi_iconst (pc' := 428) rfl rfl ?_
  refine xi_iadd (pc' := 429) rfl rfl ?_
  refine xx_sld (j := i + 2) (pc' := 430) rfl (by first | rfl | exact ix_add _ _) (by omega) (by omega) rfl ?_
  refine xx_callVi (pc' := 433) rfl rfl (by decide) rfl rfl (by show _ < 81 + 2 * _; omega) (Nat.le_of_ble_eq_true rfl) rfl rfl (h2) ?_
  refine xx_icmp (pc' := 436) (tg := 776) rfl rfl rfl (fun q433 => ?_) (fun q433 => absurd (show ex_P .eq v v from rfl) q433)
  exact kk _ _ _ h3
set_option maxRecDepth 20000 in
theorem law_7 {L : Nat} {xs : Nat → Int32} {N n i : Nat} {I J : ex_Mem} (hL : L ≤ 3584) (hi : i + 7 ≤ L) (hN : N ≤ 2000000) (h : RC N n I J) (hz : xs i &&& nI 31 = nI 7)  (kk : ∀ n' I' J', RC (N + 306) n' I' J' → xx cb_G (L + 1) xs 11 0 776 [.ref ex_scr, .ref 0, .ref 52, .int (nI i)] [] (mkH n' I' J') lawQ) : xx cb_G (L + 1) xs 11 0 27 [.ref ex_scr, .ref 0, .ref 52, .int (nI i)] [] (mkH n I J) lawQ := by
  obtain ⟨v, n', I', J', h1, h2, h3⟩ := k_message (L := L + 1) (xs := xs) (kd := xs (i + 1)) (x := xs (i + 2)) (y := xs (i + 3)) (s := xs (i + 4)) (nn := xs (i + 5)) (per := xs (i + 6)) h
  refine xi_aload_n (pc' := 28) rfl rfl rfl ?_
  refine xi_iload_n (pc' := 29) rfl rfl rfl ?_
  refine xx_sld (j := i) (pc' := 30) rfl (by first | rfl | exact ix_add _ _) (by omega) (by omega) rfl ?_
  refine xi_bipush (pc' := 32) rfl (by decide) rfl ?_
  refine xi_iand (pc' := 33) rfl rfl ?_
  refine xx_topi (y := nI 7) (hz) ?_
  refine xi_switch (off := .ofNat 405) (pc' := 438) rfl (by decide) (by decide) rfl ?_
  refine xi_aload_n (pc' := 439) rfl rfl rfl ?_
  refine xi_aload_n (pc' := 440) rfl rfl rfl ?_
  refine xi_iload_n (pc' := 441) rfl rfl rfl ?_
  refine xi_iconst (pc' := 442) rfl rfl ?_
  refine xi_iadd (pc' := 443) rfl rfl ?_
  refine xx_sld (j := i + 1) (pc' := 444) rfl (by first | rfl | exact ix_add _ _) (by omega) (by omega) rfl ?_
  refine xi_aload_n (pc' := 445) rfl rfl rfl ?_
  refine xi_iload_n (pc' := 446) rfl rfl rfl ?_
  refine xi_iconst (pc' := 447) rfl rfl ?_
  refine xi_iadd (pc' := 448) rfl rfl ?_
  refine xx_sld (j := i + 2) (pc' := 449) rfl (by first | rfl | exact ix_add _ _) (by omega) (by omega) rfl ?_
  refine xi_aload_n (pc' := 450) rfl rfl rfl ?_
  refine xi_iload_n (pc' := 451) rfl rfl rfl ?_
  refine xi_iconst (pc' := 452) rfl rfl ?_
  refine xi_iadd (pc' := 453) rfl rfl ?_
  refine xx_sld (j := i + 3) (pc' := 454) rfl (by first | rfl | exact ix_add _ _) (by omega) (by omega) rfl ?_
  refine xi_aload_n (pc' := 455) rfl rfl rfl ?_
  refine xi_iload_n (pc' := 456) rfl rfl rfl ?_
  refine xi_iconst (pc' := 457) rfl rfl ?_
  refine xi_iadd (pc' := 458) rfl rfl ?_
  refine xx_sld (j := i + 4) (pc' := 459) rfl (by first | rfl | exact ix_add _ _) (by omega) (by omega) rfl ?_
  refine xi_aload_n (pc' := 460) rfl rfl rfl ?_
  refine xi_iload_n (pc' := 461) rfl rfl rfl ?_
  refine xi_iconst (pc' := 462) rfl rfl ?_
  refine xi_iadd (pc' := 463) rfl rfl ?_
  refine xx_sld (j := i + 5) (pc' := 464) rfl (by first | rfl | exact ix_add _ _) (by omega) (by omega) rfl ?_
  refine xi_aload_n (pc' := 465) rfl rfl rfl ?_
  refine xi_iload_n (pc' := 466) rfl rfl rfl ?_
  refine xi_bipush (pc' := 468) rfl (by decide) rfl ?_
  refine xi_iadd (pc' := 469) rfl rfl ?_
  refine xx_sld (j := i + 6) (pc' := 470) rfl (by first | rfl | exact ix_add _ _) (by omega) (by omega) rfl ?_
  refine xx_callVi (pc' := 473) rfl rfl (by decide) rfl rfl (by show _ < 81 + 2 * _; omega) (Nat.le_of_ble_eq_true rfl) rfl rfl (h1) ?_
  refine xi_aload_n (pc' := 474) rfl rfl rfl ?_
  refine xi_aload_n (pc' := 475) rfl rfl rfl ?_
  refine xi_iload_n (pc' := 476) rfl rfl rfl ?_
  refine xi_iconst (pc' := 477) rfl rfl ?_
  refine xi_iadd (pc' := 478) rfl rfl ?_
  refine xx_sld (j := i + 1) (pc' := 479) rfl (by first | rfl | exact ix_add _ _) (by omega) (by omega) rfl ?_
  refine xi_aload_n (pc' := 480) rfl rfl rfl ?_
  refine xi_iload_n (pc' := 481) rfl rfl rfl ?_
  refine xi_iconst (pc' := 482) rfl rfl ?_
  refine xi_iadd (pc' := 483) rfl rfl ?_
  refine xx_sld (j := i + 2) (pc' := 484) rfl (by first | rfl | exact ix_add _ _) (by omega) (by omega) rfl ?_
  refine xi_aload_n (pc' := 485) rfl rfl rfl ?_
  refine xi_iload_n (pc' := 486) rfl rfl rfl ?_
  refine xi_iconst (pc' := 487) rfl rfl ?_
  refine xi_iadd (pc' := 488) rfl rfl ?_
  refine xx_sld (j := i + 3) (pc' := 489) rfl (by first | rfl | exact ix_add _ _) (by omega) (by omega) rfl ?_
  refine xi_aload_n (pc' := 490) rfl rfl rfl ?_
  refine xi_iload_n (pc' := 491) rfl rfl rfl ?_
  refine xi_iconst (pc' := 492) rfl rfl ?_
  refine xi_iadd (pc' := 493) rfl rfl ?_
  refine xx_sld (j := i + 4) (pc' := 494) rfl (by first | rfl | exact ix_add _ _) (by omega) (by omega) rfl ?_
  refine xi_aload_n (pc' := 495) rfl rfl rfl ?_
  refine xi_iload_n (pc' := 496) rfl rfl rfl ?_
  refine xi_iconst (pc' := 497) rfl rfl ?_
  refine xi_iadd (pc' := 498) rfl rfl ?_
  refine xx_sld (j := i + 5) (pc' := 499) rfl (by first | rfl | exact ix_add _ _) (by omega) (by omega) rfl ?_
  refine xi_aload_n (pc' := 500) rfl rfl rfl ?_
  refine xi_iload_n (pc' := 501) rfl rfl rfl ?_
  refine xi_bipush (pc' := 503) rfl (by decide) rfl ?_
  refine xi_iadd (pc' := 504) rfl rfl ?_
  refine xx_sld (j := i + 6) (pc' := 505) rfl (by first | rfl | exact ix_add _ _) (by omega) (by omega) rfl ?_
  refine xx_callVi (pc' := 508) rfl rfl (by decide) rfl rfl (by show _ < 81 + 2 * _; omega) (Nat.le_of_ble_eq_true rfl) rfl rfl (h2) ?_
  refine xx_icmp (pc' := 511) (tg := 776) rfl rfl rfl (fun q508 => ?_) (fun q508 => absurd (show ex_P .eq v v from rfl) q508)
  exact kk _ _ _ h3
set_option maxRecDepth 20000 in
theorem law_8 {L : Nat} {xs : Nat → Int32} {N n i : Nat} {I J : ex_Mem} (hL : L ≤ 3584) (hi : i + 7 ≤ L) (hN : N ≤ 2000000) (h : RC N n I J) (hz : xs i &&& nI 31 = nI 8)  (kk : ∀ n' I' J', RC (N + 306) n' I' J' → xx cb_G (L + 1) xs 11 0 776 [.ref ex_scr, .ref 0, .ref 52, .int (nI i)] [] (mkH n' I' J') lawQ) : xx cb_G (L + 1) xs 11 0 27 [.ref ex_scr, .ref 0, .ref 52, .int (nI i)] [] (mkH n I J) lawQ := by
  obtain ⟨v, n', I', J', h1, h2, h3⟩ := k_give (L := L + 1) (xs := xs) (m := xs (i + 1)) (k := xs (i + 2)) (v := xs (i + 3)) h
  refine xi_aload_n (pc' := 28) rfl rfl rfl ?_
  refine xi_iload_n (pc' := 29) rfl rfl rfl ?_
  refine xx_sld (j := i) (pc' := 30) rfl (by first | rfl | exact ix_add _ _) (by omega) (by omega) rfl ?_
  refine xi_bipush (pc' := 32) rfl (by decide) rfl ?_
  refine xi_iand (pc' := 33) rfl rfl ?_
  refine xx_topi (y := nI 8) (hz) ?_
  refine xi_switch (off := .ofNat 480) (pc' := 513) rfl (by decide) (by decide) rfl ?_
  refine xi_aload_n (pc' := 514) rfl rfl rfl ?_
  refine xi_aload_n (pc' := 515) rfl rfl rfl ?_
  refine xi_iload_n (pc' := 516) rfl rfl rfl ?_
  refine xi_iconst (pc' := 517) rfl rfl ?_
  refine xi_iadd (pc' := 518) rfl rfl ?_
  refine xx_sld (j := i + 1) (pc' := 519) rfl (by first | rfl | exact ix_add _ _) (by omega) (by omega) rfl ?_
  refine xi_aload_n (pc' := 520) rfl rfl rfl ?_
  refine xi_iload_n (pc' := 521) rfl rfl rfl ?_
  refine xi_iconst (pc' := 522) rfl rfl ?_
  refine xi_iadd (pc' := 523) rfl rfl ?_
  refine xx_sld (j := i + 2) (pc' := 524) rfl (by first | rfl | exact ix_add _ _) (by omega) (by omega) rfl ?_
  refine xi_aload_n (pc' := 525) rfl rfl rfl ?_
  refine xi_iload_n (pc' := 526) rfl rfl rfl ?_
  refine xi_iconst (pc' := 527) rfl rfl ?_
  refine xi_iadd (pc' := 528) rfl rfl ?_
  refine xx_sld (j := i + 3) (pc' := 529) rfl (by first | rfl | exact ix_add _ _) (by omega) (by omega) rfl ?_
  refine xx_callVi (pc' := 532) rfl rfl (by decide) rfl rfl (by show _ < 81 + 2 * _; omega) (Nat.le_of_ble_eq_true rfl) rfl rfl (h1) ?_
  refine xi_aload_n (pc' := 533) rfl rfl rfl ?_
  refine xi_aload_n (pc' := 534) rfl rfl rfl ?_
  refine xi_iload_n (pc' := 535) rfl rfl rfl ?_
  refine xi_iconst (pc' := 536) rfl rfl ?_
  refine xi_iadd (pc' := 537) rfl rfl ?_
  refine xx_sld (j := i + 1) (pc' := 538) rfl (by first | rfl | exact ix_add _ _) (by omega) (by omega) rfl ?_
  refine xi_aload_n (pc' := 539) rfl rfl rfl ?_
  refine xi_iload_n (pc' := 540) rfl rfl rfl ?_
  refine xi_iconst (pc' := 541) rfl rfl ?_
  refine xi_iadd (pc' := 542) rfl rfl ?_
  refine xx_sld (j := i + 2) (pc' := 543) rfl (by first | rfl | exact ix_add _ _) (by omega) (by omega) rfl ?_
  refine xi_aload_n (pc' := 544) rfl rfl rfl ?_
  refine xi_iload_n (pc' := 545) rfl rfl rfl ?_
  refine xi_iconst (pc' := 546) rfl rfl ?_
  refine xi_iadd (pc' := 547) rfl rfl ?_
  refine xx_sld (j := i + 3) (pc' := 548) rfl (by first | rfl | exact ix_add _ _) (by omega) (by omega) rfl ?_
  refine xx_callVi (pc' := 551) rfl rfl (by decide) rfl rfl (by show _ < 81 + 2 * _; omega) (Nat.le_of_ble_eq_true rfl) rfl rfl (h2) ?_
  refine xx_icmp (pc' := 554) (tg := 776) rfl rfl rfl (fun q551 => ?_) (fun q551 => absurd (show ex_P .eq v v from rfl) q551)
  exact kk _ _ _ h3
set_option maxRecDepth 20000 in
theorem law_9 {L : Nat} {xs : Nat → Int32} {N n i : Nat} {I J : ex_Mem} (hL : L ≤ 3584) (hi : i + 7 ≤ L) (hN : N ≤ 2000000) (h : RC N n I J) (hz : xs i &&& nI 31 = nI 9)  (kk : ∀ n' I' J', RC (N + 306) n' I' J' → xx cb_G (L + 1) xs 11 0 776 [.ref ex_scr, .ref 0, .ref 52, .int (nI i)] [] (mkH n' I' J') lawQ) : xx cb_G (L + 1) xs 11 0 27 [.ref ex_scr, .ref 0, .ref 52, .int (nI i)] [] (mkH n I J) lawQ := by
  obtain ⟨v, n', I', J', h1, h2, h3⟩ := k_taken (L := L + 1) (xs := xs) (m := xs (i + 1)) (k := xs (i + 2)) h
  refine xi_aload_n (pc' := 28) rfl rfl rfl ?_
  refine xi_iload_n (pc' := 29) rfl rfl rfl ?_
  refine xx_sld (j := i) (pc' := 30) rfl (by first | rfl | exact ix_add _ _) (by omega) (by omega) rfl ?_
  refine xi_bipush (pc' := 32) rfl (by decide) rfl ?_
  refine xi_iand (pc' := 33) rfl rfl ?_
  refine xx_topi (y := nI 9) (hz) ?_
  refine xi_switch (off := .ofNat 523) (pc' := 556) rfl (by decide) (by decide) rfl ?_
  refine xi_aload_n (pc' := 557) rfl rfl rfl ?_
  refine xi_aload_n (pc' := 558) rfl rfl rfl ?_
  refine xi_iload_n (pc' := 559) rfl rfl rfl ?_
  refine xi_iconst (pc' := 560) rfl rfl ?_
  refine xi_iadd (pc' := 561) rfl rfl ?_
  refine xx_sld (j := i + 1) (pc' := 562) rfl (by first | rfl | exact ix_add _ _) (by omega) (by omega) rfl ?_
  refine xi_aload_n (pc' := 563) rfl rfl rfl ?_
  refine xi_iload_n (pc' := 564) rfl rfl rfl ?_
  refine xi_iconst (pc' := 565) rfl rfl ?_
  refine xi_iadd (pc' := 566) rfl rfl ?_
  refine xx_sld (j := i + 2) (pc' := 567) rfl (by first | rfl | exact ix_add _ _) (by omega) (by omega) rfl ?_
  refine xx_callVi (pc' := 570) rfl rfl (by decide) rfl rfl (by show _ < 81 + 2 * _; omega) (Nat.le_of_ble_eq_true rfl) rfl rfl (h1) ?_
  refine xi_aload_n (pc' := 571) rfl rfl rfl ?_
  refine xi_aload_n (pc' := 572) rfl rfl rfl ?_
  refine xi_iload_n (pc' := 573) rfl rfl rfl ?_
  refine xi_iconst (pc' := 574) rfl rfl ?_
  refine xi_iadd (pc' := 575) rfl rfl ?_
  refine xx_sld (j := i + 1) (pc' := 576) rfl (by first | rfl | exact ix_add _ _) (by omega) (by omega) rfl ?_
  refine xi_aload_n (pc' := 577) rfl rfl rfl ?_
  refine xi_iload_n (pc' := 578) rfl rfl rfl ?_
  refine xi_iconst (pc' := 579) rfl rfl ?_
  refine xi_iadd (pc' := 580) rfl rfl ?_
  refine xx_sld (j := i + 2) (pc' := 581) rfl (by first | rfl | exact ix_add _ _) (by omega) (by omega) rfl ?_
  refine xx_callVi (pc' := 584) rfl rfl (by decide) rfl rfl (by show _ < 81 + 2 * _; omega) (Nat.le_of_ble_eq_true rfl) rfl rfl (h2) ?_
  refine xx_icmp (pc' := 587) (tg := 776) rfl rfl rfl (fun q584 => ?_) (fun q584 => absurd (show ex_P .eq v v from rfl) q584)
  exact kk _ _ _ h3
set_option maxRecDepth 20000 in
theorem law_10 {L : Nat} {xs : Nat → Int32} {N n i : Nat} {I J : ex_Mem} (hL : L ≤ 3584) (hi : i + 7 ≤ L) (hN : N ≤ 2000000) (h : RC N n I J) (hz : xs i &&& nI 31 = nI 10)  (kk : ∀ n' I' J', RC (N + 306) n' I' J' → xx cb_G (L + 1) xs 11 0 776 [.ref ex_scr, .ref 0, .ref 52, .int (nI i)] [] (mkH n' I' J') lawQ) : xx cb_G (L + 1) xs 11 0 27 [.ref ex_scr, .ref 0, .ref 52, .int (nI i)] [] (mkH n I J) lawQ := by
  obtain ⟨v, n', I', J', h1, h2, h3⟩ := k_seal (L := L + 1) (xs := xs) (bu := xs (i + 1)) h
  refine xi_aload_n (pc' := 28) rfl rfl rfl ?_
  refine xi_iload_n (pc' := 29) rfl rfl rfl ?_
  refine xx_sld (j := i) (pc' := 30) rfl (by first | rfl | exact ix_add _ _) (by omega) (by omega) rfl ?_
  refine xi_bipush (pc' := 32) rfl (by decide) rfl ?_
  refine xi_iand (pc' := 33) rfl rfl ?_
  refine xx_topi (y := nI 10) (hz) ?_
  refine xi_switch (off := .ofNat 556) (pc' := 589) rfl (by decide) (by decide) rfl ?_
  refine xi_aload_n (pc' := 590) rfl rfl rfl ?_
  refine xi_aload_n (pc' := 591) rfl rfl rfl ?_
  refine xi_iload_n (pc' := 592) rfl rfl rfl ?_
  refine xi_iconst (pc' := 593) rfl rfl ?_
  refine xi_iadd (pc' := 594) rfl rfl ?_
  refine xx_sld (j := i + 1) (pc' := 595) rfl (by first | rfl | exact ix_add _ _) (by omega) (by omega) rfl ?_
  refine xx_callVi (pc' := 598) rfl rfl (by decide) rfl rfl (by show _ < 81 + 2 * _; omega) (Nat.le_of_ble_eq_true rfl) rfl rfl (h1) ?_
  refine xi_aload_n (pc' := 599) rfl rfl rfl ?_
  refine xi_aload_n (pc' := 600) rfl rfl rfl ?_
  refine xi_iload_n (pc' := 601) rfl rfl rfl ?_
  refine xi_iconst (pc' := 602) rfl rfl ?_
  refine xi_iadd (pc' := 603) rfl rfl ?_
  refine xx_sld (j := i + 1) (pc' := 604) rfl (by first | rfl | exact ix_add _ _) (by omega) (by omega) rfl ?_
  refine xx_callVi (pc' := 607) rfl rfl (by decide) rfl rfl (by show _ < 81 + 2 * _; omega) (Nat.le_of_ble_eq_true rfl) rfl rfl (h2) ?_
  refine xx_icmp (pc' := 610) (tg := 776) rfl rfl rfl (fun q607 => ?_) (fun q607 => absurd (show ex_P .eq v v from rfl) q607)
  exact kk _ _ _ h3
set_option maxRecDepth 20000 in
theorem law_11 {L : Nat} {xs : Nat → Int32} {N n i : Nat} {I J : ex_Mem} (hL : L ≤ 3584) (hi : i + 7 ≤ L) (hN : N ≤ 2000000) (h : RC N n I J) (hz : xs i &&& nI 31 = nI 11)  (kk : ∀ n' I' J', RC (N + 306) n' I' J' → xx cb_G (L + 1) xs 11 0 776 [.ref ex_scr, .ref 0, .ref 52, .int (nI i)] [] (mkH n' I' J') lawQ) : xx cb_G (L + 1) xs 11 0 27 [.ref ex_scr, .ref 0, .ref 52, .int (nI i)] [] (mkH n I J) lawQ := by
  obtain ⟨v, n', I', J', h1, h2, h3⟩ := k_open (L := L + 1) (xs := xs)  h
  refine xi_aload_n (pc' := 28) rfl rfl rfl ?_
  refine xi_iload_n (pc' := 29) rfl rfl rfl ?_
  refine xx_sld (j := i) (pc' := 30) rfl (by first | rfl | exact ix_add _ _) (by omega) (by omega) rfl ?_
  refine xi_bipush (pc' := 32) rfl (by decide) rfl ?_
  refine xi_iand (pc' := 33) rfl rfl ?_
  refine xx_topi (y := nI 11) (hz) ?_
  refine xi_switch (off := .ofNat 579) (pc' := 612) rfl (by decide) (by decide) rfl ?_
  refine xi_aload_n (pc' := 613) rfl rfl rfl ?_
  refine xx_callVi (pc' := 616) rfl rfl (by decide) rfl rfl (by show _ < 81 + 2 * _; omega) (Nat.le_of_ble_eq_true rfl) rfl rfl (h1) ?_
  refine xi_aload_n (pc' := 617) rfl rfl rfl ?_
  refine xx_callVi (pc' := 620) rfl rfl (by decide) rfl rfl (by show _ < 81 + 2 * _; omega) (Nat.le_of_ble_eq_true rfl) rfl rfl (h2) ?_
  refine xx_icmp (pc' := 623) (tg := 776) rfl rfl rfl (fun q620 => ?_) (fun q620 => absurd (show ex_P .eq v v from rfl) q620)
  exact kk _ _ _ h3
set_option maxRecDepth 20000 in
theorem law_12 {L : Nat} {xs : Nat → Int32} {N n i : Nat} {I J : ex_Mem} (hL : L ≤ 3584) (hi : i + 7 ≤ L) (hN : N ≤ 2000000) (h : RC N n I J) (hz : xs i &&& nI 31 = nI 12)  (kk : ∀ n' I' J', RC (N + 306) n' I' J' → xx cb_G (L + 1) xs 11 0 776 [.ref ex_scr, .ref 0, .ref 52, .int (nI i)] [] (mkH n' I' J') lawQ) : xx cb_G (L + 1) xs 11 0 27 [.ref ex_scr, .ref 0, .ref 52, .int (nI i)] [] (mkH n I J) lawQ := by
  obtain ⟨v, n', I', J', h1, h2, h3⟩ := k_load (L := L + 1) (xs := xs) (f := xs (i + 1)) h
  refine xi_aload_n (pc' := 28) rfl rfl rfl ?_
  refine xi_iload_n (pc' := 29) rfl rfl rfl ?_
  refine xx_sld (j := i) (pc' := 30) rfl (by first | rfl | exact ix_add _ _) (by omega) (by omega) rfl ?_
  refine xi_bipush (pc' := 32) rfl (by decide) rfl ?_
  refine xi_iand (pc' := 33) rfl rfl ?_
  refine xx_topi (y := nI 12) (hz) ?_
  refine xi_switch (off := .ofNat 592) (pc' := 625) rfl (by decide) (by decide) rfl ?_
  refine xi_aload_n (pc' := 626) rfl rfl rfl ?_
  refine xi_aload_n (pc' := 627) rfl rfl rfl ?_
  refine xi_iload_n (pc' := 628) rfl rfl rfl ?_
  refine xi_iconst (pc' := 629) rfl rfl ?_
  refine xi_iadd (pc' := 630) rfl rfl ?_
  refine xx_sld (j := i + 1) (pc' := 631) rfl (by first | rfl | exact ix_add _ _) (by omega) (by omega) rfl ?_
  refine xx_callVi (pc' := 634) rfl rfl (by decide) rfl rfl (by show _ < 81 + 2 * _; omega) (Nat.le_of_ble_eq_true rfl) rfl rfl (h1) ?_
  refine xi_aload_n (pc' := 635) rfl rfl rfl ?_
  refine xi_aload_n (pc' := 636) rfl rfl rfl ?_
  refine xi_iload_n (pc' := 637) rfl rfl rfl ?_
  refine xi_iconst (pc' := 638) rfl rfl ?_
  refine xi_iadd (pc' := 639) rfl rfl ?_
  refine xx_sld (j := i + 1) (pc' := 640) rfl (by first | rfl | exact ix_add _ _) (by omega) (by omega) rfl ?_
  refine xx_callVi (pc' := 643) rfl rfl (by decide) rfl rfl (by show _ < 81 + 2 * _; omega) (Nat.le_of_ble_eq_true rfl) rfl rfl (h2) ?_
  refine xx_icmp (pc' := 646) (tg := 776) rfl rfl rfl (fun q643 => ?_) (fun q643 => absurd (show ex_P .eq v v from rfl) q643)
  exact kk _ _ _ h3
set_option maxRecDepth 20000 in
theorem law_13 {L : Nat} {xs : Nat → Int32} {N n i : Nat} {I J : ex_Mem} (hL : L ≤ 3584) (hi : i + 7 ≤ L) (hN : N ≤ 2000000) (h : RC N n I J) (hz : xs i &&& nI 31 = nI 13)  (kk : ∀ n' I' J', RC (N + 306) n' I' J' → xx cb_G (L + 1) xs 11 0 776 [.ref ex_scr, .ref 0, .ref 52, .int (nI i)] [] (mkH n' I' J') lawQ) : xx cb_G (L + 1) xs 11 0 27 [.ref ex_scr, .ref 0, .ref 52, .int (nI i)] [] (mkH n I J) lawQ := by
  obtain ⟨v, n', I', J', h1, h2, h3⟩ := k_fault (L := L + 1) (xs := xs) (b := xs (i + 1)) (kd := xs (i + 2)) (k := xs (i + 3)) h
  refine xi_aload_n (pc' := 28) rfl rfl rfl ?_
  refine xi_iload_n (pc' := 29) rfl rfl rfl ?_
  refine xx_sld (j := i) (pc' := 30) rfl (by first | rfl | exact ix_add _ _) (by omega) (by omega) rfl ?_
  refine xi_bipush (pc' := 32) rfl (by decide) rfl ?_
  refine xi_iand (pc' := 33) rfl rfl ?_
  refine xx_topi (y := nI 13) (hz) ?_
  refine xi_switch (off := .ofNat 615) (pc' := 648) rfl (by decide) (by decide) rfl ?_
  refine xi_aload_n (pc' := 649) rfl rfl rfl ?_
  refine xi_aload_n (pc' := 650) rfl rfl rfl ?_
  refine xi_iload_n (pc' := 651) rfl rfl rfl ?_
  refine xi_iconst (pc' := 652) rfl rfl ?_
  refine xi_iadd (pc' := 653) rfl rfl ?_
  refine xx_sld (j := i + 1) (pc' := 654) rfl (by first | rfl | exact ix_add _ _) (by omega) (by omega) rfl ?_
  refine xi_aload_n (pc' := 655) rfl rfl rfl ?_
  refine xi_iload_n (pc' := 656) rfl rfl rfl ?_
  refine xi_iconst (pc' := 657) rfl rfl ?_
  refine xi_iadd (pc' := 658) rfl rfl ?_
  refine xx_sld (j := i + 2) (pc' := 659) rfl (by first | rfl | exact ix_add _ _) (by omega) (by omega) rfl ?_
  refine xi_aload_n (pc' := 660) rfl rfl rfl ?_
  refine xi_iload_n (pc' := 661) rfl rfl rfl ?_
  refine xi_iconst (pc' := 662) rfl rfl ?_
  refine xi_iadd (pc' := 663) rfl rfl ?_
  refine xx_sld (j := i + 3) (pc' := 664) rfl (by first | rfl | exact ix_add _ _) (by omega) (by omega) rfl ?_
  refine xx_callVi (pc' := 667) rfl rfl (by decide) rfl rfl (by show _ < 81 + 2 * _; omega) (Nat.le_of_ble_eq_true rfl) rfl rfl (h1) ?_
  refine xi_aload_n (pc' := 668) rfl rfl rfl ?_
  refine xi_aload_n (pc' := 669) rfl rfl rfl ?_
  refine xi_iload_n (pc' := 670) rfl rfl rfl ?_
  refine xi_iconst (pc' := 671) rfl rfl ?_
  refine xi_iadd (pc' := 672) rfl rfl ?_
  refine xx_sld (j := i + 1) (pc' := 673) rfl (by first | rfl | exact ix_add _ _) (by omega) (by omega) rfl ?_
  refine xi_aload_n (pc' := 674) rfl rfl rfl ?_
  refine xi_iload_n (pc' := 675) rfl rfl rfl ?_
  refine xi_iconst (pc' := 676) rfl rfl ?_
  refine xi_iadd (pc' := 677) rfl rfl ?_
  refine xx_sld (j := i + 2) (pc' := 678) rfl (by first | rfl | exact ix_add _ _) (by omega) (by omega) rfl ?_
  refine xi_aload_n (pc' := 679) rfl rfl rfl ?_
  refine xi_iload_n (pc' := 680) rfl rfl rfl ?_
  refine xi_iconst (pc' := 681) rfl rfl ?_
  refine xi_iadd (pc' := 682) rfl rfl ?_
  refine xx_sld (j := i + 3) (pc' := 683) rfl (by first | rfl | exact ix_add _ _) (by omega) (by omega) rfl ?_
  refine xx_callVi (pc' := 686) rfl rfl (by decide) rfl rfl (by show _ < 81 + 2 * _; omega) (Nat.le_of_ble_eq_true rfl) rfl rfl (h2) ?_
  refine xx_icmp (pc' := 689) (tg := 776) rfl rfl rfl (fun q686 => ?_) (fun q686 => absurd (show ex_P .eq v v from rfl) q686)
  exact kk _ _ _ h3
set_option maxRecDepth 20000 in
theorem law_14 {L : Nat} {xs : Nat → Int32} {N n i : Nat} {I J : ex_Mem} (hL : L ≤ 3584) (hi : i + 7 ≤ L) (hN : N ≤ 2000000) (h : RC N n I J) (hz : xs i &&& nI 31 = nI 14)  (kk : ∀ n' I' J', RC (N + 306) n' I' J' → xx cb_G (L + 1) xs 11 0 776 [.ref ex_scr, .ref 0, .ref 52, .int (nI i)] [] (mkH n' I' J') lawQ) : xx cb_G (L + 1) xs 11 0 27 [.ref ex_scr, .ref 0, .ref 52, .int (nI i)] [] (mkH n I J) lawQ := by
  obtain ⟨v, n', I', J', h1, h2, h3⟩ := k_run (L := L + 1) (xs := xs)  (by omega) h
  refine xi_aload_n (pc' := 28) rfl rfl rfl ?_
  refine xi_iload_n (pc' := 29) rfl rfl rfl ?_
  refine xx_sld (j := i) (pc' := 30) rfl (by first | rfl | exact ix_add _ _) (by omega) (by omega) rfl ?_
  refine xi_bipush (pc' := 32) rfl (by decide) rfl ?_
  refine xi_iand (pc' := 33) rfl rfl ?_
  refine xx_topi (y := nI 14) (hz) ?_
  refine xi_switch (off := .ofNat 658) (pc' := 691) rfl (by decide) (by decide) rfl ?_
  refine xi_aload_n (pc' := 692) rfl rfl rfl ?_
  refine xx_callVi (pc' := 695) rfl rfl (by decide) rfl rfl (by show _ < 81 + 2 * _; omega) (Nat.le_of_ble_eq_true rfl) rfl rfl (h1) ?_
  refine xi_aload_n (pc' := 696) rfl rfl rfl ?_
  refine xx_callVi (pc' := 699) rfl rfl (by decide) rfl rfl (by show _ < 81 + 2 * _; omega) (Nat.le_of_ble_eq_true rfl) rfl rfl (h2) ?_
  refine xx_icmp (pc' := 702) (tg := 776) rfl rfl rfl (fun q699 => ?_) (fun q699 => absurd (show ex_P .eq v v from rfl) q699)
  exact kk _ _ _ h3
set_option maxRecDepth 20000 in
theorem law_15 {L : Nat} {xs : Nat → Int32} {N n i : Nat} {I J : ex_Mem} (hL : L ≤ 3584) (hi : i + 7 ≤ L) (hN : N ≤ 2000000) (h : RC N n I J) (hz : xs i &&& nI 31 = nI 15)  (kk : ∀ n' I' J', RC (N + 306) n' I' J' → xx cb_G (L + 1) xs 11 0 776 [.ref ex_scr, .ref 0, .ref 52, .int (nI i)] [] (mkH n' I' J') lawQ) : xx cb_G (L + 1) xs 11 0 27 [.ref ex_scr, .ref 0, .ref 52, .int (nI i)] [] (mkH n I J) lawQ := by
  obtain ⟨v, n', I', J', h1, h2, h3⟩ := k_outcome (L := L + 1) (xs := xs) (m := xs (i + 1)) h
  refine xi_aload_n (pc' := 28) rfl rfl rfl ?_
  refine xi_iload_n (pc' := 29) rfl rfl rfl ?_
  refine xx_sld (j := i) (pc' := 30) rfl (by first | rfl | exact ix_add _ _) (by omega) (by omega) rfl ?_
  refine xi_bipush (pc' := 32) rfl (by decide) rfl ?_
  refine xi_iand (pc' := 33) rfl rfl ?_
  refine xx_topi (y := nI 15) (hz) ?_
  refine xi_switch (off := .ofNat 671) (pc' := 704) rfl (by decide) (by decide) rfl ?_
  refine xi_aload_n (pc' := 705) rfl rfl rfl ?_
  refine xi_aload_n (pc' := 706) rfl rfl rfl ?_
  refine xi_iload_n (pc' := 707) rfl rfl rfl ?_
  refine xi_iconst (pc' := 708) rfl rfl ?_
  refine xi_iadd (pc' := 709) rfl rfl ?_
  refine xx_sld (j := i + 1) (pc' := 710) rfl (by first | rfl | exact ix_add _ _) (by omega) (by omega) rfl ?_
  refine xx_callVi (pc' := 713) rfl rfl (by decide) rfl rfl (by show _ < 81 + 2 * _; omega) (Nat.le_of_ble_eq_true rfl) rfl rfl (h1) ?_
  refine xi_aload_n (pc' := 714) rfl rfl rfl ?_
  refine xi_aload_n (pc' := 715) rfl rfl rfl ?_
  refine xi_iload_n (pc' := 716) rfl rfl rfl ?_
  refine xi_iconst (pc' := 717) rfl rfl ?_
  refine xi_iadd (pc' := 718) rfl rfl ?_
  refine xx_sld (j := i + 1) (pc' := 719) rfl (by first | rfl | exact ix_add _ _) (by omega) (by omega) rfl ?_
  refine xx_callVi (pc' := 722) rfl rfl (by decide) rfl rfl (by show _ < 81 + 2 * _; omega) (Nat.le_of_ble_eq_true rfl) rfl rfl (h2) ?_
  refine xx_icmp (pc' := 725) (tg := 776) rfl rfl rfl (fun q722 => ?_) (fun q722 => absurd (show ex_P .eq v v from rfl) q722)
  exact kk _ _ _ h3
set_option maxRecDepth 20000 in
theorem law_16 {L : Nat} {xs : Nat → Int32} {N n i : Nat} {I J : ex_Mem} (hL : L ≤ 3584) (hi : i + 7 ≤ L) (hN : N ≤ 2000000) (h : RC N n I J) (hz : xs i &&& nI 31 = nI 16)  (kk : ∀ n' I' J', RC (N + 306) n' I' J' → xx cb_G (L + 1) xs 11 0 776 [.ref ex_scr, .ref 0, .ref 52, .int (nI i)] [] (mkH n' I' J') lawQ) : xx cb_G (L + 1) xs 11 0 27 [.ref ex_scr, .ref 0, .ref 52, .int (nI i)] [] (mkH n I J) lawQ := by
  obtain ⟨v, n', I', J', h1, h2, h3⟩ := k_bus (L := L + 1) (xs := xs)  h
  refine xi_aload_n (pc' := 28) rfl rfl rfl ?_
  refine xi_iload_n (pc' := 29) rfl rfl rfl ?_
  refine xx_sld (j := i) (pc' := 30) rfl (by first | rfl | exact ix_add _ _) (by omega) (by omega) rfl ?_
  refine xi_bipush (pc' := 32) rfl (by decide) rfl ?_
  refine xi_iand (pc' := 33) rfl rfl ?_
  refine xx_topi (y := nI 16) (hz) ?_
  refine xi_switch (off := .ofNat 694) (pc' := 727) rfl (by decide) (by decide) rfl ?_
  refine xi_aload_n (pc' := 728) rfl rfl rfl ?_
  refine xx_callVi (pc' := 731) rfl rfl (by decide) rfl rfl (by show _ < 81 + 2 * _; omega) (Nat.le_of_ble_eq_true rfl) rfl rfl (h1) ?_
  refine xi_aload_n (pc' := 732) rfl rfl rfl ?_
  refine xx_callVi (pc' := 735) rfl rfl (by decide) rfl rfl (by show _ < 81 + 2 * _; omega) (Nat.le_of_ble_eq_true rfl) rfl rfl (h2) ?_
  refine xx_icmp (pc' := 738) (tg := 776) rfl rfl rfl (fun q735 => ?_) (fun q735 => absurd (show ex_P .eq v v from rfl) q735)
  exact kk _ _ _ h3
set_option maxRecDepth 20000 in
theorem law_17 {L : Nat} {xs : Nat → Int32} {N n i : Nat} {I J : ex_Mem} (hL : L ≤ 3584) (hi : i + 7 ≤ L) (hN : N ≤ 2000000) (h : RC N n I J) (hz : xs i &&& nI 31 = nI 17)  (kk : ∀ n' I' J', RC (N + 306) n' I' J' → xx cb_G (L + 1) xs 11 0 776 [.ref ex_scr, .ref 0, .ref 52, .int (nI i)] [] (mkH n' I' J') lawQ) : xx cb_G (L + 1) xs 11 0 27 [.ref ex_scr, .ref 0, .ref 52, .int (nI i)] [] (mkH n I J) lawQ := by
  obtain ⟨v, n', I', J', h1, h2, h3⟩ := k_words (L := L + 1) (xs := xs)  h
  refine xi_aload_n (pc' := 28) rfl rfl rfl ?_
  refine xi_iload_n (pc' := 29) rfl rfl rfl ?_
  refine xx_sld (j := i) (pc' := 30) rfl (by first | rfl | exact ix_add _ _) (by omega) (by omega) rfl ?_
  refine xi_bipush (pc' := 32) rfl (by decide) rfl ?_
  refine xi_iand (pc' := 33) rfl rfl ?_
  refine xx_topi (y := nI 17) (hz) ?_
  refine xi_switch (off := .ofNat 707) (pc' := 740) rfl (by decide) (by decide) rfl ?_
  refine xi_aload_n (pc' := 741) rfl rfl rfl ?_
  refine xx_callVi (pc' := 744) rfl rfl (by decide) rfl rfl (by show _ < 81 + 2 * _; omega) (Nat.le_of_ble_eq_true rfl) rfl rfl (h1) ?_
  refine xi_aload_n (pc' := 745) rfl rfl rfl ?_
  refine xx_callVi (pc' := 748) rfl rfl (by decide) rfl rfl (by show _ < 81 + 2 * _; omega) (Nat.le_of_ble_eq_true rfl) rfl rfl (h2) ?_
  refine xx_icmp (pc' := 751) (tg := 776) rfl rfl rfl (fun q748 => ?_) (fun q748 => absurd (show ex_P .eq v v from rfl) q748)
  exact kk _ _ _ h3
set_option maxRecDepth 20000 in
theorem law_18 {L : Nat} {xs : Nat → Int32} {N n i : Nat} {I J : ex_Mem} (hL : L ≤ 3584) (hi : i + 7 ≤ L) (hN : N ≤ 2000000) (h : RC N n I J) (hz : xs i &&& nI 31 = nI 18)  (kk : ∀ n' I' J', RC (N + 306) n' I' J' → xx cb_G (L + 1) xs 11 0 776 [.ref ex_scr, .ref 0, .ref 52, .int (nI i)] [] (mkH n' I' J') lawQ) : xx cb_G (L + 1) xs 11 0 27 [.ref ex_scr, .ref 0, .ref 52, .int (nI i)] [] (mkH n I J) lawQ := by
  obtain ⟨v, n', I', J', h1, h2, h3⟩ := k_heard (L := L + 1) (xs := xs) (i := xs (i + 1)) (by omega) h
  refine xi_aload_n (pc' := 28) rfl rfl rfl ?_
  refine xi_iload_n (pc' := 29) rfl rfl rfl ?_
  refine xx_sld (j := i) (pc' := 30) rfl (by first | rfl | exact ix_add _ _) (by omega) (by omega) rfl ?_
  refine xi_bipush (pc' := 32) rfl (by decide) rfl ?_
  refine xi_iand (pc' := 33) rfl rfl ?_
  refine xx_topi (y := nI 18) (hz) ?_
  refine xi_switch (off := .ofNat 720) (pc' := 753) rfl (by decide) (by decide) rfl ?_
  refine xi_aload_n (pc' := 754) rfl rfl rfl ?_
  refine xi_aload_n (pc' := 755) rfl rfl rfl ?_
  refine xi_iload_n (pc' := 756) rfl rfl rfl ?_
  refine xi_iconst (pc' := 757) rfl rfl ?_
  refine xi_iadd (pc' := 758) rfl rfl ?_
  refine xx_sld (j := i + 1) (pc' := 759) rfl (by first | rfl | exact ix_add _ _) (by omega) (by omega) rfl ?_
  refine xx_callVi (pc' := 762) rfl rfl (by decide) rfl rfl (by show _ < 81 + 2 * _; omega) (Nat.le_of_ble_eq_true rfl) rfl rfl (h1) ?_
  refine xi_aload_n (pc' := 763) rfl rfl rfl ?_
  refine xi_aload_n (pc' := 764) rfl rfl rfl ?_
  refine xi_iload_n (pc' := 765) rfl rfl rfl ?_
  refine xi_iconst (pc' := 766) rfl rfl ?_
  refine xi_iadd (pc' := 767) rfl rfl ?_
  refine xx_sld (j := i + 1) (pc' := 768) rfl (by first | rfl | exact ix_add _ _) (by omega) (by omega) rfl ?_
  refine xx_callVi (pc' := 771) rfl rfl (by decide) rfl rfl (by show _ < 81 + 2 * _; omega) (Nat.le_of_ble_eq_true rfl) rfl rfl (h2) ?_
  refine xx_icmp (pc' := 774) (tg := 776) rfl rfl rfl (fun q771 => ?_) (fun q771 => absurd (show ex_P .eq v v from rfl) q771)
  exact kk _ _ _ h3
set_option maxRecDepth 20000 in
theorem law_d {L : Nat} {xs : Nat → Int32} {N n i : Nat} {I J : ex_Mem} {z : Nat} (hL : L ≤ 3584) (hi : i + 7 ≤ L) (hN : N ≤ 2000000) (h : RC N n I J) (hz : xs i &&& nI 31 = nI z) (hz1 : 19 ≤ z) (hz2 : z < 32) (kk : ∀ n' I' J', RC (N + 306) n' I' J' → xx cb_G (L + 1) xs 11 0 776 [.ref ex_scr, .ref 0, .ref 52, .int (nI i)] [] (mkH n' I' J') lawQ) : xx cb_G (L + 1) xs 11 0 27 [.ref ex_scr, .ref 0, .ref 52, .int (nI i)] [] (mkH n I J) lawQ := by
  refine xi_aload_n (pc' := 28) rfl rfl rfl ?_
  refine xi_iload_n (pc' := 29) rfl rfl rfl ?_
  refine xx_sld (j := i) (pc' := 30) rfl (by first | rfl | exact ix_add _ _) (by omega) (by omega) rfl ?_
  refine xi_bipush (pc' := 32) rfl (by decide) rfl ?_
  refine xi_iand (pc' := 33) rfl rfl ?_
  refine xx_topi (y := nI z) (hz) ?_
  refine xi_switchD (pc' := 776) rfl (Or.inr (by rw [nI_toInt (by omega)]; show (18 : Int) < (z : Int); omega)) rfl ?_
  exact kk _ _ _ (RC_up h (by omega))
set_option maxRecDepth 20000 in
theorem law_any {L : Nat} {xs : Nat → Int32} {N n i : Nat} {I J : ex_Mem} (hL : L ≤ 3584) (hi : i + 7 ≤ L) (hN : N ≤ 2000000) (h : RC N n I J) (kk : ∀ n' I' J', RC (N + 306) n' I' J' → xx cb_G (L + 1) xs 11 0 776 [.ref ex_scr, .ref 0, .ref 52, .int (nI i)] [] (mkH n' I' J') lawQ) : xx cb_G (L + 1) xs 11 0 27 [.ref ex_scr, .ref 0, .ref 52, .int (nI i)] [] (mkH n I J) lawQ := by
  obtain ⟨z, hz2, hz⟩ := and_31 (x := xs i)
  by_cases hz1 : 19 ≤ z
  · exact law_d hL hi hN h hz hz1 hz2 kk
  · rcases (show z = 0 ∨ z = 1 ∨ z = 2 ∨ z = 3 ∨ z = 4 ∨ z = 5 ∨ z = 6 ∨ z = 7 ∨ z = 8 ∨ z = 9 ∨ z = 10 ∨ z = 11 ∨ z = 12 ∨ z = 13 ∨ z = 14 ∨ z = 15 ∨ z = 16 ∨ z = 17 ∨ z = 18 by omega) with rfl | rfl | rfl | rfl | rfl | rfl | rfl | rfl | rfl | rfl | rfl | rfl | rfl | rfl | rfl | rfl | rfl | rfl | rfl
    · exact law_0 hL hi hN h hz kk
    · exact law_1 hL hi hN h hz kk
    · exact law_2 hL hi hN h hz kk
    · exact law_3 hL hi hN h hz kk
    · exact law_4 hL hi hN h hz kk
    · exact law_5 hL hi hN h hz kk
    · exact law_6 hL hi hN h hz kk
    · exact law_7 hL hi hN h hz kk
    · exact law_8 hL hi hN h hz kk
    · exact law_9 hL hi hN h hz kk
    · exact law_10 hL hi hN h hz kk
    · exact law_11 hL hi hN h hz kk
    · exact law_12 hL hi hN h hz kk
    · exact law_13 hL hi hN h hz kk
    · exact law_14 hL hi hN h hz kk
    · exact law_15 hL hi hN h hz kk
    · exact law_16 hL hi hN h hz kk
    · exact law_17 hL hi hN h hz kk
    · exact law_18 hL hi hN h hz kk
set_option maxRecDepth 20000 in
theorem law_loop {L : Nat} {xs : Nat → Int32} (hL : L ≤ 3584) : ∀ (j i : Nat), L + 7 ≤ i + 7 * j → i ≤ 10000 → ∀ (N n : Nat) (I J : ex_Mem), RC N n I J → N ≤ 306 * i → xx cb_G (L + 1) xs 11 0 18 [.ref ex_scr, .ref 0, .ref 52, .int (nI i)] [] (mkH n I J) lawQ := by
  intro j
  induction j with
  | zero =>
    intro i h1 hi N n I J h hN
    exact law_exit hL hi (RC_8 h) (by omega)
  | succ j ih =>
    intro i h1 hi N n I J h hN
    by_cases hx : L < i + 7
    · exact law_exit hL hi (RC_8 h) hx
    refine xi_iload_n (pc' := 19) rfl rfl rfl ?_
    refine xi_aload_n (pc' := 20) rfl rfl rfl ?_
    refine xx_slen (pc' := 21) rfl rfl ?_
    refine xi_bipush (pc' := 23) rfl (by decide) rfl ?_
    refine xi_isub (pc' := 24) rfl rfl ?_
    refine xx_icmp (pc' := 27) (tg := 782) rfl rfl rfl (fun q24 => absurd q24 (show ¬ nI L - nI 7 < nI i from by rw [law_gt hL hi]; exact hx)) (fun q24 => ?_)
    refine law_any hL (by omega) (by omega) h (fun n' I' J' hr => ?_)
    refine xi_iincv (y := nI (i + 7)) (pc' := 779) rfl rfl (ix_add _ _) (st1_3 rfl) rfl ?_
    refine xi_goto (pc' := 18) rfl rfl ?_
    exact ih (i + 7) (by omega) (by omega) _ _ _ _ hr (by omega)
