theorem bI_0 {P : Prop} {d : Decidable P} : ((if P then nI 1 else nI 0) = 0) = ¬ P := by
  by_cases h : P
  · rw [if_pos h]; simp only [h, not_true_eq_false, eq_iff_iff, iff_false]; decide
  · rw [if_neg h]; simp only [h, not_false_eq_true, eq_iff_iff, iff_true]; decide
theorem toI {n : Nat} (h : n < 2147483648) : (nI n).toInt = (n : Int) := nI_toInt h
def isC (c : Int32) : Prop := c = nI 1 ∨ c = nI 2 ∨ c = nI 4 ∨ c = nI 5 ∨ c = nI 8 ∨ c = nI 18
def okMsg (kind x y s nn per : Int32) : Prop := 0 ≤ kind ∧ kind ≤ nI 4 ∧ (per = nI 1 ∨ per = nI 2 ∨ per = nI 4) ∧ (kind = nI 3 ∨ vT x) ∧ (¬ kind = nI 2 ∨ vT y ∧ ¬ x = y) ∧ (kind = nI 4 ∧ isC nn ∨ ¬ kind = nI 4 ∧ vS s ∧ nI 1 ≤ nn ∧ nn ≤ nI 4)
theorem r_isCode1 {L : Nat} {xs : Nat → Int32} {D n : Nat} {I J : ex_Mem} {c : Int32} (h : isC c) : ri L xs D 95 [.int c] (mkH n I J) (nI 1) (mkH n I J) := by
  show xx cb_G _ _ _ 95 0 [.int c] [] _ _
  refine xi_iload_n (pc' := 1) rfl rfl rfl ?_
  refine xi_iconst (pc' := 2) rfl rfl ?_
  refine xx_icmp (pc' := 5) (tg := 32) rfl rfl rfl (fun q2 => ?_) (fun q2 => ?_)
  · refine xi_iconst (pc' := 33) rfl rfl ?_
    refine xi_goto (pc' := 37) rfl rfl ?_
    refine xx_zreturn rfl rfl (by first | rfl | assumption | exact b01_bI | simp [ex_b01, bI]) ?_
    first | exact ⟨rfl, rfl⟩ | (exfalso; simp only [ex_P, Classical.not_not, bI_0, okMsg, vT, vS, isC, Int32.lt_iff_toInt_lt, Int32.le_iff_toInt_le, ← Int32.toInt_inj, toI, Nat.reduceLT, Int32.toInt_zero] at *; omega)
  · refine xi_iload_n (pc' := 6) rfl rfl rfl ?_
    refine xi_iconst (pc' := 7) rfl rfl ?_
    refine xx_icmp (pc' := 10) (tg := 32) rfl rfl rfl (fun q7 => ?_) (fun q7 => ?_)
    · refine xi_iconst (pc' := 33) rfl rfl ?_
      refine xi_goto (pc' := 37) rfl rfl ?_
      refine xx_zreturn rfl rfl (by first | rfl | assumption | exact b01_bI | simp [ex_b01, bI]) ?_
      first | exact ⟨rfl, rfl⟩ | (exfalso; simp only [ex_P, Classical.not_not, bI_0, okMsg, vT, vS, isC, Int32.lt_iff_toInt_lt, Int32.le_iff_toInt_le, ← Int32.toInt_inj, toI, Nat.reduceLT, Int32.toInt_zero] at *; omega)
    · refine xi_iload_n (pc' := 11) rfl rfl rfl ?_
      refine xi_iconst (pc' := 12) rfl rfl ?_
      refine xx_icmp (pc' := 15) (tg := 32) rfl rfl rfl (fun q12 => ?_) (fun q12 => ?_)
      · refine xi_iconst (pc' := 33) rfl rfl ?_
        refine xi_goto (pc' := 37) rfl rfl ?_
        refine xx_zreturn rfl rfl (by first | rfl | assumption | exact b01_bI | simp [ex_b01, bI]) ?_
        first | exact ⟨rfl, rfl⟩ | (exfalso; simp only [ex_P, Classical.not_not, bI_0, okMsg, vT, vS, isC, Int32.lt_iff_toInt_lt, Int32.le_iff_toInt_le, ← Int32.toInt_inj, toI, Nat.reduceLT, Int32.toInt_zero] at *; omega)
      · refine xi_iload_n (pc' := 16) rfl rfl rfl ?_
        refine xi_iconst (pc' := 17) rfl rfl ?_
        refine xx_icmp (pc' := 20) (tg := 32) rfl rfl rfl (fun q17 => ?_) (fun q17 => ?_)
        · refine xi_iconst (pc' := 33) rfl rfl ?_
          refine xi_goto (pc' := 37) rfl rfl ?_
          refine xx_zreturn rfl rfl (by first | rfl | assumption | exact b01_bI | simp [ex_b01, bI]) ?_
          first | exact ⟨rfl, rfl⟩ | (exfalso; simp only [ex_P, Classical.not_not, bI_0, okMsg, vT, vS, isC, Int32.lt_iff_toInt_lt, Int32.le_iff_toInt_le, ← Int32.toInt_inj, toI, Nat.reduceLT, Int32.toInt_zero] at *; omega)
        · refine xi_iload_n (pc' := 21) rfl rfl rfl ?_
          refine xi_bipush (pc' := 23) rfl (by decide) rfl ?_
          refine xx_icmp (pc' := 26) (tg := 32) rfl rfl rfl (fun q23 => ?_) (fun q23 => ?_)
          · refine xi_iconst (pc' := 33) rfl rfl ?_
            refine xi_goto (pc' := 37) rfl rfl ?_
            refine xx_zreturn rfl rfl (by first | rfl | assumption | exact b01_bI | simp [ex_b01, bI]) ?_
            first | exact ⟨rfl, rfl⟩ | (exfalso; simp only [ex_P, Classical.not_not, bI_0, okMsg, vT, vS, isC, Int32.lt_iff_toInt_lt, Int32.le_iff_toInt_le, ← Int32.toInt_inj, toI, Nat.reduceLT, Int32.toInt_zero] at *; omega)
          · refine xi_iload_n (pc' := 27) rfl rfl rfl ?_
            refine xi_bipush (pc' := 29) rfl (by decide) rfl ?_
            refine xx_icmp (pc' := 32) (tg := 36) rfl rfl rfl (fun q29 => ?_) (fun q29 => ?_)
            · refine xi_iconst (pc' := 37) rfl rfl ?_
              refine xx_zreturn rfl rfl (by first | rfl | assumption | exact b01_bI | simp [ex_b01, bI]) ?_
              first | exact ⟨rfl, rfl⟩ | (exfalso; simp only [ex_P, Classical.not_not, bI_0, okMsg, vT, vS, isC, Int32.lt_iff_toInt_lt, Int32.le_iff_toInt_le, ← Int32.toInt_inj, toI, Nat.reduceLT, Int32.toInt_zero] at *; omega)
            · refine xi_iconst (pc' := 33) rfl rfl ?_
              refine xi_goto (pc' := 37) rfl rfl ?_
              refine xx_zreturn rfl rfl (by first | rfl | assumption | exact b01_bI | simp [ex_b01, bI]) ?_
              first | exact ⟨rfl, rfl⟩ | (exfalso; simp only [ex_P, Classical.not_not, bI_0, okMsg, vT, vS, isC, Int32.lt_iff_toInt_lt, Int32.le_iff_toInt_le, ← Int32.toInt_inj, toI, Nat.reduceLT, Int32.toInt_zero] at *; omega)
theorem r_isCode0 {L : Nat} {xs : Nat → Int32} {D n : Nat} {I J : ex_Mem} {c : Int32} (h : ¬ isC c) : ri L xs D 95 [.int c] (mkH n I J) (nI 0) (mkH n I J) := by
  show xx cb_G _ _ _ 95 0 [.int c] [] _ _
  refine xi_iload_n (pc' := 1) rfl rfl rfl ?_
  refine xi_iconst (pc' := 2) rfl rfl ?_
  refine xx_icmp (pc' := 5) (tg := 32) rfl rfl rfl (fun q2 => ?_) (fun q2 => ?_)
  · refine xi_iconst (pc' := 33) rfl rfl ?_
    refine xi_goto (pc' := 37) rfl rfl ?_
    refine xx_zreturn rfl rfl (by first | rfl | assumption | exact b01_bI | simp [ex_b01, bI]) ?_
    first | exact ⟨rfl, rfl⟩ | (exfalso; simp only [ex_P, Classical.not_not, bI_0, okMsg, vT, vS, isC, Int32.lt_iff_toInt_lt, Int32.le_iff_toInt_le, ← Int32.toInt_inj, toI, Nat.reduceLT, Int32.toInt_zero] at *; omega)
  · refine xi_iload_n (pc' := 6) rfl rfl rfl ?_
    refine xi_iconst (pc' := 7) rfl rfl ?_
    refine xx_icmp (pc' := 10) (tg := 32) rfl rfl rfl (fun q7 => ?_) (fun q7 => ?_)
    · refine xi_iconst (pc' := 33) rfl rfl ?_
      refine xi_goto (pc' := 37) rfl rfl ?_
      refine xx_zreturn rfl rfl (by first | rfl | assumption | exact b01_bI | simp [ex_b01, bI]) ?_
      first | exact ⟨rfl, rfl⟩ | (exfalso; simp only [ex_P, Classical.not_not, bI_0, okMsg, vT, vS, isC, Int32.lt_iff_toInt_lt, Int32.le_iff_toInt_le, ← Int32.toInt_inj, toI, Nat.reduceLT, Int32.toInt_zero] at *; omega)
    · refine xi_iload_n (pc' := 11) rfl rfl rfl ?_
      refine xi_iconst (pc' := 12) rfl rfl ?_
      refine xx_icmp (pc' := 15) (tg := 32) rfl rfl rfl (fun q12 => ?_) (fun q12 => ?_)
      · refine xi_iconst (pc' := 33) rfl rfl ?_
        refine xi_goto (pc' := 37) rfl rfl ?_
        refine xx_zreturn rfl rfl (by first | rfl | assumption | exact b01_bI | simp [ex_b01, bI]) ?_
        first | exact ⟨rfl, rfl⟩ | (exfalso; simp only [ex_P, Classical.not_not, bI_0, okMsg, vT, vS, isC, Int32.lt_iff_toInt_lt, Int32.le_iff_toInt_le, ← Int32.toInt_inj, toI, Nat.reduceLT, Int32.toInt_zero] at *; omega)
      · refine xi_iload_n (pc' := 16) rfl rfl rfl ?_
        refine xi_iconst (pc' := 17) rfl rfl ?_
        refine xx_icmp (pc' := 20) (tg := 32) rfl rfl rfl (fun q17 => ?_) (fun q17 => ?_)
        · refine xi_iconst (pc' := 33) rfl rfl ?_
          refine xi_goto (pc' := 37) rfl rfl ?_
          refine xx_zreturn rfl rfl (by first | rfl | assumption | exact b01_bI | simp [ex_b01, bI]) ?_
          first | exact ⟨rfl, rfl⟩ | (exfalso; simp only [ex_P, Classical.not_not, bI_0, okMsg, vT, vS, isC, Int32.lt_iff_toInt_lt, Int32.le_iff_toInt_le, ← Int32.toInt_inj, toI, Nat.reduceLT, Int32.toInt_zero] at *; omega)
        · refine xi_iload_n (pc' := 21) rfl rfl rfl ?_
          refine xi_bipush (pc' := 23) rfl (by decide) rfl ?_
          refine xx_icmp (pc' := 26) (tg := 32) rfl rfl rfl (fun q23 => ?_) (fun q23 => ?_)
          · refine xi_iconst (pc' := 33) rfl rfl ?_
            refine xi_goto (pc' := 37) rfl rfl ?_
            refine xx_zreturn rfl rfl (by first | rfl | assumption | exact b01_bI | simp [ex_b01, bI]) ?_
            first | exact ⟨rfl, rfl⟩ | (exfalso; simp only [ex_P, Classical.not_not, bI_0, okMsg, vT, vS, isC, Int32.lt_iff_toInt_lt, Int32.le_iff_toInt_le, ← Int32.toInt_inj, toI, Nat.reduceLT, Int32.toInt_zero] at *; omega)
          · refine xi_iload_n (pc' := 27) rfl rfl rfl ?_
            refine xi_bipush (pc' := 29) rfl (by decide) rfl ?_
            refine xx_icmp (pc' := 32) (tg := 36) rfl rfl rfl (fun q29 => ?_) (fun q29 => ?_)
            · refine xi_iconst (pc' := 37) rfl rfl ?_
              refine xx_zreturn rfl rfl (by first | rfl | assumption | exact b01_bI | simp [ex_b01, bI]) ?_
              first | exact ⟨rfl, rfl⟩ | (exfalso; simp only [ex_P, Classical.not_not, bI_0, okMsg, vT, vS, isC, Int32.lt_iff_toInt_lt, Int32.le_iff_toInt_le, ← Int32.toInt_inj, toI, Nat.reduceLT, Int32.toInt_zero] at *; omega)
            · refine xi_iconst (pc' := 33) rfl rfl ?_
              refine xi_goto (pc' := 37) rfl rfl ?_
              refine xx_zreturn rfl rfl (by first | rfl | assumption | exact b01_bI | simp [ex_b01, bI]) ?_
              first | exact ⟨rfl, rfl⟩ | (exfalso; simp only [ex_P, Classical.not_not, bI_0, okMsg, vT, vS, isC, Int32.lt_iff_toInt_lt, Int32.le_iff_toInt_le, ← Int32.toInt_inj, toI, Nat.reduceLT, Int32.toInt_zero] at *; omega)
theorem r_msg_111 {L : Nat} {xs : Nat → Int32} {D n : Nat} {I J : ex_Mem} {kind x y s nn per : Int32} {Q : Option Value → ex_Hp → Prop} (k1 : okMsg kind x y s nn per → xx cb_G L xs (D + 1) 94 125 [.ref 52, .int kind, .int x, .int y, .int s, .int nn, .int per, .int (nI 1)] [] (mkH n I J) Q) (k0 : ¬ okMsg kind x y s nn per → xx cb_G L xs (D + 1) 94 125 [.ref 52, .int kind, .int x, .int y, .int s, .int nn, .int per, .int (nI 0)] [] (mkH n I J) Q) (hx : vT x) (hy : vT y) (hc : isC nn) : xx cb_G L xs (D + 1) 94 10 [.ref 52, .int kind, .int x, .int y, .int s, .int nn, .int per, ex_no] [] (mkH n I J) Q := by
  refine xi_iload_n (pc' := 11) rfl rfl rfl ?_
  refine xx_if (pc' := 14) (tg := 70) rfl rfl rfl (fun q11 => ?_) (fun q11 => ?_)
  · refine xi_iconst (pc' := 71) rfl rfl ?_
    refine xi_istore (pc' := 73) rfl (st1_7 rfl) rfl ?_
    refine xi_iload (pc' := 75) rfl rfl rfl ?_
    refine xi_ift (pc' := 122) rfl rfl (by decide) ?_
    refine xi_iconst (pc' := 123) rfl rfl ?_
    refine xi_istore (pc' := 125) rfl (st1_7 rfl) rfl ?_
    exact k0 (by clear k0 k1; simp only [ex_P, Classical.not_not, bI_0, okMsg, vT, vS, isC, Int32.lt_iff_toInt_lt, Int32.le_iff_toInt_le, ← Int32.toInt_inj, toI, Nat.reduceLT, Int32.toInt_zero] at *; omega)
  · refine xi_iload_n (pc' := 15) rfl rfl rfl ?_
    refine xi_iconst (pc' := 16) rfl rfl ?_
    refine xx_icmp (pc' := 19) (tg := 70) rfl rfl rfl (fun q16 => ?_) (fun q16 => ?_)
    · refine xi_iconst (pc' := 71) rfl rfl ?_
      refine xi_istore (pc' := 73) rfl (st1_7 rfl) rfl ?_
      refine xi_iload (pc' := 75) rfl rfl rfl ?_
      refine xi_ift (pc' := 122) rfl rfl (by decide) ?_
      refine xi_iconst (pc' := 123) rfl rfl ?_
      refine xi_istore (pc' := 125) rfl (st1_7 rfl) rfl ?_
      exact k0 (by clear k0 k1; simp only [ex_P, Classical.not_not, bI_0, okMsg, vT, vS, isC, Int32.lt_iff_toInt_lt, Int32.le_iff_toInt_le, ← Int32.toInt_inj, toI, Nat.reduceLT, Int32.toInt_zero] at *; omega)
    · refine xi_iload (pc' := 21) rfl rfl rfl ?_
      refine xi_iconst (pc' := 22) rfl rfl ?_
      refine xx_icmp (pc' := 25) (tg := 37) rfl rfl rfl (fun q22 => ?_) (fun q22 => ?_)
      · refine xi_iload_n (pc' := 38) rfl rfl rfl ?_
        refine xi_iconst (pc' := 39) rfl rfl ?_
        refine xx_icmp (pc' := 42) (tg := 49) rfl rfl rfl (fun q39 => ?_) (fun q39 => ?_)
        · refine xi_iload_n (pc' := 50) rfl rfl rfl ?_
          refine xi_iconst (pc' := 51) rfl rfl ?_
          refine xx_icmp (pc' := 54) (tg := 66) rfl rfl rfl (fun q51 => ?_) (fun q51 => ?_)
          · refine xi_iconst (pc' := 67) rfl rfl ?_
            refine xi_goto (pc' := 71) rfl rfl ?_
            refine xi_istore (pc' := 73) rfl (st1_7 rfl) rfl ?_
            refine xi_iload (pc' := 75) rfl rfl rfl ?_
            refine xi_iff (pc' := 78) (tg := 122) rfl rfl (by decide) rfl ?_
            refine xi_iload_n (pc' := 79) rfl rfl rfl ?_
            refine xi_iconst (pc' := 80) rfl rfl ?_
            refine xx_icmp (pc' := 83) (tg := 94) rfl rfl rfl (fun q80 => ?_) (fun q80 => ?_)
            · refine xi_iload (pc' := 96) rfl rfl rfl ?_
              refine xi_iconst (pc' := 97) rfl rfl ?_
              refine xx_icmp (pc' := 100) (tg := 122) rfl rfl rfl (fun q97 => ?_) (fun q97 => ?_)
              · refine xi_iconst (pc' := 123) rfl rfl ?_
                refine xi_istore (pc' := 125) rfl (st1_7 rfl) rfl ?_
                exact k0 (by clear k0 k1; simp only [ex_P, Classical.not_not, bI_0, okMsg, vT, vS, isC, Int32.lt_iff_toInt_lt, Int32.le_iff_toInt_le, ← Int32.toInt_inj, toI, Nat.reduceLT, Int32.toInt_zero] at *; omega)
              · refine xi_iload (pc' := 102) rfl rfl rfl ?_
                refine xi_iconst (pc' := 103) rfl rfl ?_
                refine xx_icmp (pc' := 106) (tg := 122) rfl rfl rfl (fun q103 => ?_) (fun q103 => ?_)
                · refine xi_iconst (pc' := 123) rfl rfl ?_
                  refine xi_istore (pc' := 125) rfl (st1_7 rfl) rfl ?_
                  exact k0 (by clear k0 k1; simp only [ex_P, Classical.not_not, bI_0, okMsg, vT, vS, isC, Int32.lt_iff_toInt_lt, Int32.le_iff_toInt_le, ← Int32.toInt_inj, toI, Nat.reduceLT, Int32.toInt_zero] at *; omega)
                · refine xi_iload (pc' := 108) rfl rfl rfl ?_
                  refine xi_iconst (pc' := 109) rfl rfl ?_
                  refine xx_icmp (pc' := 112) (tg := 122) rfl rfl rfl (fun q109 => ?_) (fun q109 => ?_)
                  · refine xi_iconst (pc' := 123) rfl rfl ?_
                    refine xi_istore (pc' := 125) rfl (st1_7 rfl) rfl ?_
                    exact k0 (by clear k0 k1; simp only [ex_P, Classical.not_not, bI_0, okMsg, vT, vS, isC, Int32.lt_iff_toInt_lt, Int32.le_iff_toInt_le, ← Int32.toInt_inj, toI, Nat.reduceLT, Int32.toInt_zero] at *; omega)
                  · refine xi_iload (pc' := 114) rfl rfl rfl ?_
                    refine xi_iconst (pc' := 115) rfl rfl ?_
                    refine xx_icmp (pc' := 118) (tg := 122) rfl rfl rfl (fun q115 => ?_) (fun q115 => ?_)
                    · refine xi_iconst (pc' := 123) rfl rfl ?_
                      refine xi_istore (pc' := 125) rfl (st1_7 rfl) rfl ?_
                      exact k0 (by clear k0 k1; simp only [ex_P, Classical.not_not, bI_0, okMsg, vT, vS, isC, Int32.lt_iff_toInt_lt, Int32.le_iff_toInt_le, ← Int32.toInt_inj, toI, Nat.reduceLT, Int32.toInt_zero] at *; omega)
                    · refine xi_iconst (pc' := 119) rfl rfl ?_
                      refine xi_goto (pc' := 123) rfl rfl ?_
                      refine xi_istore (pc' := 125) rfl (st1_7 rfl) rfl ?_
                      exact k1 (by clear k0 k1; simp only [ex_P, Classical.not_not, bI_0, okMsg, vT, vS, isC, Int32.lt_iff_toInt_lt, Int32.le_iff_toInt_le, ← Int32.toInt_inj, toI, Nat.reduceLT, Int32.toInt_zero] at *; omega)
            · refine xi_iload (pc' := 85) rfl rfl rfl ?_
              refine xx_callSi (pc' := 88) rfl rfl (by decide) rfl (Nat.le_of_ble_eq_true rfl) rfl rfl (r_isCode1 hc) ?_
              refine xi_iff (pc' := 91) (tg := 122) rfl rfl (by decide) rfl ?_
              refine xi_goto (pc' := 118) rfl rfl ?_
              refine xi_iconst (pc' := 119) rfl rfl ?_
              refine xi_goto (pc' := 123) rfl rfl ?_
              refine xi_istore (pc' := 125) rfl (st1_7 rfl) rfl ?_
              exact k1 (by clear k0 k1; simp only [ex_P, Classical.not_not, bI_0, okMsg, vT, vS, isC, Int32.lt_iff_toInt_lt, Int32.le_iff_toInt_le, ← Int32.toInt_inj, toI, Nat.reduceLT, Int32.toInt_zero] at *; omega)
          · refine xi_iload_n (pc' := 55) rfl rfl rfl ?_
            refine xx_callSi (pc' := 58) rfl rfl (by decide) rfl (Nat.le_of_ble_eq_true rfl) rfl rfl (r_isTerminal1 hy) ?_
            refine xi_iff (pc' := 61) (tg := 70) rfl rfl (by decide) rfl ?_
            refine xi_iload_n (pc' := 62) rfl rfl rfl ?_
            refine xi_iload_n (pc' := 63) rfl rfl rfl ?_
            refine xx_icmp (pc' := 66) (tg := 70) rfl rfl rfl (fun q63 => ?_) (fun q63 => ?_)
            · refine xi_iconst (pc' := 71) rfl rfl ?_
              refine xi_istore (pc' := 73) rfl (st1_7 rfl) rfl ?_
              refine xi_iload (pc' := 75) rfl rfl rfl ?_
              refine xi_ift (pc' := 122) rfl rfl (by decide) ?_
              refine xi_iconst (pc' := 123) rfl rfl ?_
              refine xi_istore (pc' := 125) rfl (st1_7 rfl) rfl ?_
              exact k0 (by clear k0 k1; simp only [ex_P, Classical.not_not, bI_0, okMsg, vT, vS, isC, Int32.lt_iff_toInt_lt, Int32.le_iff_toInt_le, ← Int32.toInt_inj, toI, Nat.reduceLT, Int32.toInt_zero] at *; omega)
            · refine xi_iconst (pc' := 67) rfl rfl ?_
              refine xi_goto (pc' := 71) rfl rfl ?_
              refine xi_istore (pc' := 73) rfl (st1_7 rfl) rfl ?_
              refine xi_iload (pc' := 75) rfl rfl rfl ?_
              refine xi_iff (pc' := 78) (tg := 122) rfl rfl (by decide) rfl ?_
              refine xi_iload_n (pc' := 79) rfl rfl rfl ?_
              refine xi_iconst (pc' := 80) rfl rfl ?_
              refine xx_icmp (pc' := 83) (tg := 94) rfl rfl rfl (fun q80 => ?_) (fun q80 => ?_)
              · refine xi_iload (pc' := 96) rfl rfl rfl ?_
                refine xi_iconst (pc' := 97) rfl rfl ?_
                refine xx_icmp (pc' := 100) (tg := 122) rfl rfl rfl (fun q97 => ?_) (fun q97 => ?_)
                · refine xi_iconst (pc' := 123) rfl rfl ?_
                  refine xi_istore (pc' := 125) rfl (st1_7 rfl) rfl ?_
                  exact k0 (by clear k0 k1; simp only [ex_P, Classical.not_not, bI_0, okMsg, vT, vS, isC, Int32.lt_iff_toInt_lt, Int32.le_iff_toInt_le, ← Int32.toInt_inj, toI, Nat.reduceLT, Int32.toInt_zero] at *; omega)
                · refine xi_iload (pc' := 102) rfl rfl rfl ?_
                  refine xi_iconst (pc' := 103) rfl rfl ?_
                  refine xx_icmp (pc' := 106) (tg := 122) rfl rfl rfl (fun q103 => ?_) (fun q103 => ?_)
                  · refine xi_iconst (pc' := 123) rfl rfl ?_
                    refine xi_istore (pc' := 125) rfl (st1_7 rfl) rfl ?_
                    exact k0 (by clear k0 k1; simp only [ex_P, Classical.not_not, bI_0, okMsg, vT, vS, isC, Int32.lt_iff_toInt_lt, Int32.le_iff_toInt_le, ← Int32.toInt_inj, toI, Nat.reduceLT, Int32.toInt_zero] at *; omega)
                  · refine xi_iload (pc' := 108) rfl rfl rfl ?_
                    refine xi_iconst (pc' := 109) rfl rfl ?_
                    refine xx_icmp (pc' := 112) (tg := 122) rfl rfl rfl (fun q109 => ?_) (fun q109 => ?_)
                    · refine xi_iconst (pc' := 123) rfl rfl ?_
                      refine xi_istore (pc' := 125) rfl (st1_7 rfl) rfl ?_
                      exact k0 (by clear k0 k1; simp only [ex_P, Classical.not_not, bI_0, okMsg, vT, vS, isC, Int32.lt_iff_toInt_lt, Int32.le_iff_toInt_le, ← Int32.toInt_inj, toI, Nat.reduceLT, Int32.toInt_zero] at *; omega)
                    · refine xi_iload (pc' := 114) rfl rfl rfl ?_
                      refine xi_iconst (pc' := 115) rfl rfl ?_
                      refine xx_icmp (pc' := 118) (tg := 122) rfl rfl rfl (fun q115 => ?_) (fun q115 => ?_)
                      · refine xi_iconst (pc' := 123) rfl rfl ?_
                        refine xi_istore (pc' := 125) rfl (st1_7 rfl) rfl ?_
                        exact k0 (by clear k0 k1; simp only [ex_P, Classical.not_not, bI_0, okMsg, vT, vS, isC, Int32.lt_iff_toInt_lt, Int32.le_iff_toInt_le, ← Int32.toInt_inj, toI, Nat.reduceLT, Int32.toInt_zero] at *; omega)
                      · refine xi_iconst (pc' := 119) rfl rfl ?_
                        refine xi_goto (pc' := 123) rfl rfl ?_
                        refine xi_istore (pc' := 125) rfl (st1_7 rfl) rfl ?_
                        exact k1 (by clear k0 k1; simp only [ex_P, Classical.not_not, bI_0, okMsg, vT, vS, isC, Int32.lt_iff_toInt_lt, Int32.le_iff_toInt_le, ← Int32.toInt_inj, toI, Nat.reduceLT, Int32.toInt_zero] at *; omega)
              · refine xi_iload (pc' := 85) rfl rfl rfl ?_
                refine xx_callSi (pc' := 88) rfl rfl (by decide) rfl (Nat.le_of_ble_eq_true rfl) rfl rfl (r_isCode1 hc) ?_
                refine xi_iff (pc' := 91) (tg := 122) rfl rfl (by decide) rfl ?_
                refine xi_goto (pc' := 118) rfl rfl ?_
                refine xi_iconst (pc' := 119) rfl rfl ?_
                refine xi_goto (pc' := 123) rfl rfl ?_
                refine xi_istore (pc' := 125) rfl (st1_7 rfl) rfl ?_
                exact k1 (by clear k0 k1; simp only [ex_P, Classical.not_not, bI_0, okMsg, vT, vS, isC, Int32.lt_iff_toInt_lt, Int32.le_iff_toInt_le, ← Int32.toInt_inj, toI, Nat.reduceLT, Int32.toInt_zero] at *; omega)
        · refine xi_iload_n (pc' := 43) rfl rfl rfl ?_
          refine xx_callSi (pc' := 46) rfl rfl (by decide) rfl (Nat.le_of_ble_eq_true rfl) rfl rfl (r_isTerminal1 hx) ?_
          refine xi_iff (pc' := 49) (tg := 70) rfl rfl (by decide) rfl ?_
          refine xi_iload_n (pc' := 50) rfl rfl rfl ?_
          refine xi_iconst (pc' := 51) rfl rfl ?_
          refine xx_icmp (pc' := 54) (tg := 66) rfl rfl rfl (fun q51 => ?_) (fun q51 => ?_)
          · refine xi_iconst (pc' := 67) rfl rfl ?_
            refine xi_goto (pc' := 71) rfl rfl ?_
            refine xi_istore (pc' := 73) rfl (st1_7 rfl) rfl ?_
            refine xi_iload (pc' := 75) rfl rfl rfl ?_
            refine xi_iff (pc' := 78) (tg := 122) rfl rfl (by decide) rfl ?_
            refine xi_iload_n (pc' := 79) rfl rfl rfl ?_
            refine xi_iconst (pc' := 80) rfl rfl ?_
            refine xx_icmp (pc' := 83) (tg := 94) rfl rfl rfl (fun q80 => ?_) (fun q80 => ?_)
            · refine xi_iload (pc' := 96) rfl rfl rfl ?_
              refine xi_iconst (pc' := 97) rfl rfl ?_
              refine xx_icmp (pc' := 100) (tg := 122) rfl rfl rfl (fun q97 => ?_) (fun q97 => ?_)
              · refine xi_iconst (pc' := 123) rfl rfl ?_
                refine xi_istore (pc' := 125) rfl (st1_7 rfl) rfl ?_
                exact k0 (by clear k0 k1; simp only [ex_P, Classical.not_not, bI_0, okMsg, vT, vS, isC, Int32.lt_iff_toInt_lt, Int32.le_iff_toInt_le, ← Int32.toInt_inj, toI, Nat.reduceLT, Int32.toInt_zero] at *; omega)
              · refine xi_iload (pc' := 102) rfl rfl rfl ?_
                refine xi_iconst (pc' := 103) rfl rfl ?_
                refine xx_icmp (pc' := 106) (tg := 122) rfl rfl rfl (fun q103 => ?_) (fun q103 => ?_)
                · refine xi_iconst (pc' := 123) rfl rfl ?_
                  refine xi_istore (pc' := 125) rfl (st1_7 rfl) rfl ?_
                  exact k0 (by clear k0 k1; simp only [ex_P, Classical.not_not, bI_0, okMsg, vT, vS, isC, Int32.lt_iff_toInt_lt, Int32.le_iff_toInt_le, ← Int32.toInt_inj, toI, Nat.reduceLT, Int32.toInt_zero] at *; omega)
                · refine xi_iload (pc' := 108) rfl rfl rfl ?_
                  refine xi_iconst (pc' := 109) rfl rfl ?_
                  refine xx_icmp (pc' := 112) (tg := 122) rfl rfl rfl (fun q109 => ?_) (fun q109 => ?_)
                  · refine xi_iconst (pc' := 123) rfl rfl ?_
                    refine xi_istore (pc' := 125) rfl (st1_7 rfl) rfl ?_
                    exact k0 (by clear k0 k1; simp only [ex_P, Classical.not_not, bI_0, okMsg, vT, vS, isC, Int32.lt_iff_toInt_lt, Int32.le_iff_toInt_le, ← Int32.toInt_inj, toI, Nat.reduceLT, Int32.toInt_zero] at *; omega)
                  · refine xi_iload (pc' := 114) rfl rfl rfl ?_
                    refine xi_iconst (pc' := 115) rfl rfl ?_
                    refine xx_icmp (pc' := 118) (tg := 122) rfl rfl rfl (fun q115 => ?_) (fun q115 => ?_)
                    · refine xi_iconst (pc' := 123) rfl rfl ?_
                      refine xi_istore (pc' := 125) rfl (st1_7 rfl) rfl ?_
                      exact k0 (by clear k0 k1; simp only [ex_P, Classical.not_not, bI_0, okMsg, vT, vS, isC, Int32.lt_iff_toInt_lt, Int32.le_iff_toInt_le, ← Int32.toInt_inj, toI, Nat.reduceLT, Int32.toInt_zero] at *; omega)
                    · refine xi_iconst (pc' := 119) rfl rfl ?_
                      refine xi_goto (pc' := 123) rfl rfl ?_
                      refine xi_istore (pc' := 125) rfl (st1_7 rfl) rfl ?_
                      exact k1 (by clear k0 k1; simp only [ex_P, Classical.not_not, bI_0, okMsg, vT, vS, isC, Int32.lt_iff_toInt_lt, Int32.le_iff_toInt_le, ← Int32.toInt_inj, toI, Nat.reduceLT, Int32.toInt_zero] at *; omega)
            · refine xi_iload (pc' := 85) rfl rfl rfl ?_
              refine xx_callSi (pc' := 88) rfl rfl (by decide) rfl (Nat.le_of_ble_eq_true rfl) rfl rfl (r_isCode1 hc) ?_
              refine xi_iff (pc' := 91) (tg := 122) rfl rfl (by decide) rfl ?_
              refine xi_goto (pc' := 118) rfl rfl ?_
              refine xi_iconst (pc' := 119) rfl rfl ?_
              refine xi_goto (pc' := 123) rfl rfl ?_
              refine xi_istore (pc' := 125) rfl (st1_7 rfl) rfl ?_
              exact k1 (by clear k0 k1; simp only [ex_P, Classical.not_not, bI_0, okMsg, vT, vS, isC, Int32.lt_iff_toInt_lt, Int32.le_iff_toInt_le, ← Int32.toInt_inj, toI, Nat.reduceLT, Int32.toInt_zero] at *; omega)
          · refine xi_iload_n (pc' := 55) rfl rfl rfl ?_
            refine xx_callSi (pc' := 58) rfl rfl (by decide) rfl (Nat.le_of_ble_eq_true rfl) rfl rfl (r_isTerminal1 hy) ?_
            refine xi_iff (pc' := 61) (tg := 70) rfl rfl (by decide) rfl ?_
            refine xi_iload_n (pc' := 62) rfl rfl rfl ?_
            refine xi_iload_n (pc' := 63) rfl rfl rfl ?_
            refine xx_icmp (pc' := 66) (tg := 70) rfl rfl rfl (fun q63 => ?_) (fun q63 => ?_)
            · refine xi_iconst (pc' := 71) rfl rfl ?_
              refine xi_istore (pc' := 73) rfl (st1_7 rfl) rfl ?_
              refine xi_iload (pc' := 75) rfl rfl rfl ?_
              refine xi_ift (pc' := 122) rfl rfl (by decide) ?_
              refine xi_iconst (pc' := 123) rfl rfl ?_
              refine xi_istore (pc' := 125) rfl (st1_7 rfl) rfl ?_
              exact k0 (by clear k0 k1; simp only [ex_P, Classical.not_not, bI_0, okMsg, vT, vS, isC, Int32.lt_iff_toInt_lt, Int32.le_iff_toInt_le, ← Int32.toInt_inj, toI, Nat.reduceLT, Int32.toInt_zero] at *; omega)
            · refine xi_iconst (pc' := 67) rfl rfl ?_
              refine xi_goto (pc' := 71) rfl rfl ?_
              refine xi_istore (pc' := 73) rfl (st1_7 rfl) rfl ?_
              refine xi_iload (pc' := 75) rfl rfl rfl ?_
              refine xi_iff (pc' := 78) (tg := 122) rfl rfl (by decide) rfl ?_
              refine xi_iload_n (pc' := 79) rfl rfl rfl ?_
              refine xi_iconst (pc' := 80) rfl rfl ?_
              refine xx_icmp (pc' := 83) (tg := 94) rfl rfl rfl (fun q80 => ?_) (fun q80 => ?_)
              · refine xi_iload (pc' := 96) rfl rfl rfl ?_
                refine xi_iconst (pc' := 97) rfl rfl ?_
                refine xx_icmp (pc' := 100) (tg := 122) rfl rfl rfl (fun q97 => ?_) (fun q97 => ?_)
                · refine xi_iconst (pc' := 123) rfl rfl ?_
                  refine xi_istore (pc' := 125) rfl (st1_7 rfl) rfl ?_
                  exact k0 (by clear k0 k1; simp only [ex_P, Classical.not_not, bI_0, okMsg, vT, vS, isC, Int32.lt_iff_toInt_lt, Int32.le_iff_toInt_le, ← Int32.toInt_inj, toI, Nat.reduceLT, Int32.toInt_zero] at *; omega)
                · refine xi_iload (pc' := 102) rfl rfl rfl ?_
                  refine xi_iconst (pc' := 103) rfl rfl ?_
                  refine xx_icmp (pc' := 106) (tg := 122) rfl rfl rfl (fun q103 => ?_) (fun q103 => ?_)
                  · refine xi_iconst (pc' := 123) rfl rfl ?_
                    refine xi_istore (pc' := 125) rfl (st1_7 rfl) rfl ?_
                    exact k0 (by clear k0 k1; simp only [ex_P, Classical.not_not, bI_0, okMsg, vT, vS, isC, Int32.lt_iff_toInt_lt, Int32.le_iff_toInt_le, ← Int32.toInt_inj, toI, Nat.reduceLT, Int32.toInt_zero] at *; omega)
                  · refine xi_iload (pc' := 108) rfl rfl rfl ?_
                    refine xi_iconst (pc' := 109) rfl rfl ?_
                    refine xx_icmp (pc' := 112) (tg := 122) rfl rfl rfl (fun q109 => ?_) (fun q109 => ?_)
                    · refine xi_iconst (pc' := 123) rfl rfl ?_
                      refine xi_istore (pc' := 125) rfl (st1_7 rfl) rfl ?_
                      exact k0 (by clear k0 k1; simp only [ex_P, Classical.not_not, bI_0, okMsg, vT, vS, isC, Int32.lt_iff_toInt_lt, Int32.le_iff_toInt_le, ← Int32.toInt_inj, toI, Nat.reduceLT, Int32.toInt_zero] at *; omega)
                    · refine xi_iload (pc' := 114) rfl rfl rfl ?_
                      refine xi_iconst (pc' := 115) rfl rfl ?_
                      refine xx_icmp (pc' := 118) (tg := 122) rfl rfl rfl (fun q115 => ?_) (fun q115 => ?_)
                      · refine xi_iconst (pc' := 123) rfl rfl ?_
                        refine xi_istore (pc' := 125) rfl (st1_7 rfl) rfl ?_
                        exact k0 (by clear k0 k1; simp only [ex_P, Classical.not_not, bI_0, okMsg, vT, vS, isC, Int32.lt_iff_toInt_lt, Int32.le_iff_toInt_le, ← Int32.toInt_inj, toI, Nat.reduceLT, Int32.toInt_zero] at *; omega)
                      · refine xi_iconst (pc' := 119) rfl rfl ?_
                        refine xi_goto (pc' := 123) rfl rfl ?_
                        refine xi_istore (pc' := 125) rfl (st1_7 rfl) rfl ?_
                        exact k1 (by clear k0 k1; simp only [ex_P, Classical.not_not, bI_0, okMsg, vT, vS, isC, Int32.lt_iff_toInt_lt, Int32.le_iff_toInt_le, ← Int32.toInt_inj, toI, Nat.reduceLT, Int32.toInt_zero] at *; omega)
              · refine xi_iload (pc' := 85) rfl rfl rfl ?_
                refine xx_callSi (pc' := 88) rfl rfl (by decide) rfl (Nat.le_of_ble_eq_true rfl) rfl rfl (r_isCode1 hc) ?_
                refine xi_iff (pc' := 91) (tg := 122) rfl rfl (by decide) rfl ?_
                refine xi_goto (pc' := 118) rfl rfl ?_
                refine xi_iconst (pc' := 119) rfl rfl ?_
                refine xi_goto (pc' := 123) rfl rfl ?_
                refine xi_istore (pc' := 125) rfl (st1_7 rfl) rfl ?_
                exact k1 (by clear k0 k1; simp only [ex_P, Classical.not_not, bI_0, okMsg, vT, vS, isC, Int32.lt_iff_toInt_lt, Int32.le_iff_toInt_le, ← Int32.toInt_inj, toI, Nat.reduceLT, Int32.toInt_zero] at *; omega)
      · refine xi_iload (pc' := 27) rfl rfl rfl ?_
        refine xi_iconst (pc' := 28) rfl rfl ?_
        refine xx_icmp (pc' := 31) (tg := 37) rfl rfl rfl (fun q28 => ?_) (fun q28 => ?_)
        · refine xi_iload_n (pc' := 38) rfl rfl rfl ?_
          refine xi_iconst (pc' := 39) rfl rfl ?_
          refine xx_icmp (pc' := 42) (tg := 49) rfl rfl rfl (fun q39 => ?_) (fun q39 => ?_)
          · refine xi_iload_n (pc' := 50) rfl rfl rfl ?_
            refine xi_iconst (pc' := 51) rfl rfl ?_
            refine xx_icmp (pc' := 54) (tg := 66) rfl rfl rfl (fun q51 => ?_) (fun q51 => ?_)
            · refine xi_iconst (pc' := 67) rfl rfl ?_
              refine xi_goto (pc' := 71) rfl rfl ?_
              refine xi_istore (pc' := 73) rfl (st1_7 rfl) rfl ?_
              refine xi_iload (pc' := 75) rfl rfl rfl ?_
              refine xi_iff (pc' := 78) (tg := 122) rfl rfl (by decide) rfl ?_
              refine xi_iload_n (pc' := 79) rfl rfl rfl ?_
              refine xi_iconst (pc' := 80) rfl rfl ?_
              refine xx_icmp (pc' := 83) (tg := 94) rfl rfl rfl (fun q80 => ?_) (fun q80 => ?_)
              · refine xi_iload (pc' := 96) rfl rfl rfl ?_
                refine xi_iconst (pc' := 97) rfl rfl ?_
                refine xx_icmp (pc' := 100) (tg := 122) rfl rfl rfl (fun q97 => ?_) (fun q97 => ?_)
                · refine xi_iconst (pc' := 123) rfl rfl ?_
                  refine xi_istore (pc' := 125) rfl (st1_7 rfl) rfl ?_
                  exact k0 (by clear k0 k1; simp only [ex_P, Classical.not_not, bI_0, okMsg, vT, vS, isC, Int32.lt_iff_toInt_lt, Int32.le_iff_toInt_le, ← Int32.toInt_inj, toI, Nat.reduceLT, Int32.toInt_zero] at *; omega)
                · refine xi_iload (pc' := 102) rfl rfl rfl ?_
                  refine xi_iconst (pc' := 103) rfl rfl ?_
                  refine xx_icmp (pc' := 106) (tg := 122) rfl rfl rfl (fun q103 => ?_) (fun q103 => ?_)
                  · refine xi_iconst (pc' := 123) rfl rfl ?_
                    refine xi_istore (pc' := 125) rfl (st1_7 rfl) rfl ?_
                    exact k0 (by clear k0 k1; simp only [ex_P, Classical.not_not, bI_0, okMsg, vT, vS, isC, Int32.lt_iff_toInt_lt, Int32.le_iff_toInt_le, ← Int32.toInt_inj, toI, Nat.reduceLT, Int32.toInt_zero] at *; omega)
                  · refine xi_iload (pc' := 108) rfl rfl rfl ?_
                    refine xi_iconst (pc' := 109) rfl rfl ?_
                    refine xx_icmp (pc' := 112) (tg := 122) rfl rfl rfl (fun q109 => ?_) (fun q109 => ?_)
                    · refine xi_iconst (pc' := 123) rfl rfl ?_
                      refine xi_istore (pc' := 125) rfl (st1_7 rfl) rfl ?_
                      exact k0 (by clear k0 k1; simp only [ex_P, Classical.not_not, bI_0, okMsg, vT, vS, isC, Int32.lt_iff_toInt_lt, Int32.le_iff_toInt_le, ← Int32.toInt_inj, toI, Nat.reduceLT, Int32.toInt_zero] at *; omega)
                    · refine xi_iload (pc' := 114) rfl rfl rfl ?_
                      refine xi_iconst (pc' := 115) rfl rfl ?_
                      refine xx_icmp (pc' := 118) (tg := 122) rfl rfl rfl (fun q115 => ?_) (fun q115 => ?_)
                      · refine xi_iconst (pc' := 123) rfl rfl ?_
                        refine xi_istore (pc' := 125) rfl (st1_7 rfl) rfl ?_
                        exact k0 (by clear k0 k1; simp only [ex_P, Classical.not_not, bI_0, okMsg, vT, vS, isC, Int32.lt_iff_toInt_lt, Int32.le_iff_toInt_le, ← Int32.toInt_inj, toI, Nat.reduceLT, Int32.toInt_zero] at *; omega)
                      · refine xi_iconst (pc' := 119) rfl rfl ?_
                        refine xi_goto (pc' := 123) rfl rfl ?_
                        refine xi_istore (pc' := 125) rfl (st1_7 rfl) rfl ?_
                        exact k1 (by clear k0 k1; simp only [ex_P, Classical.not_not, bI_0, okMsg, vT, vS, isC, Int32.lt_iff_toInt_lt, Int32.le_iff_toInt_le, ← Int32.toInt_inj, toI, Nat.reduceLT, Int32.toInt_zero] at *; omega)
              · refine xi_iload (pc' := 85) rfl rfl rfl ?_
                refine xx_callSi (pc' := 88) rfl rfl (by decide) rfl (Nat.le_of_ble_eq_true rfl) rfl rfl (r_isCode1 hc) ?_
                refine xi_iff (pc' := 91) (tg := 122) rfl rfl (by decide) rfl ?_
                refine xi_goto (pc' := 118) rfl rfl ?_
                refine xi_iconst (pc' := 119) rfl rfl ?_
                refine xi_goto (pc' := 123) rfl rfl ?_
                refine xi_istore (pc' := 125) rfl (st1_7 rfl) rfl ?_
                exact k1 (by clear k0 k1; simp only [ex_P, Classical.not_not, bI_0, okMsg, vT, vS, isC, Int32.lt_iff_toInt_lt, Int32.le_iff_toInt_le, ← Int32.toInt_inj, toI, Nat.reduceLT, Int32.toInt_zero] at *; omega)
            · refine xi_iload_n (pc' := 55) rfl rfl rfl ?_
              refine xx_callSi (pc' := 58) rfl rfl (by decide) rfl (Nat.le_of_ble_eq_true rfl) rfl rfl (r_isTerminal1 hy) ?_
              refine xi_iff (pc' := 61) (tg := 70) rfl rfl (by decide) rfl ?_
              refine xi_iload_n (pc' := 62) rfl rfl rfl ?_
              refine xi_iload_n (pc' := 63) rfl rfl rfl ?_
              refine xx_icmp (pc' := 66) (tg := 70) rfl rfl rfl (fun q63 => ?_) (fun q63 => ?_)
              · refine xi_iconst (pc' := 71) rfl rfl ?_
                refine xi_istore (pc' := 73) rfl (st1_7 rfl) rfl ?_
                refine xi_iload (pc' := 75) rfl rfl rfl ?_
                refine xi_ift (pc' := 122) rfl rfl (by decide) ?_
                refine xi_iconst (pc' := 123) rfl rfl ?_
                refine xi_istore (pc' := 125) rfl (st1_7 rfl) rfl ?_
                exact k0 (by clear k0 k1; simp only [ex_P, Classical.not_not, bI_0, okMsg, vT, vS, isC, Int32.lt_iff_toInt_lt, Int32.le_iff_toInt_le, ← Int32.toInt_inj, toI, Nat.reduceLT, Int32.toInt_zero] at *; omega)
              · refine xi_iconst (pc' := 67) rfl rfl ?_
                refine xi_goto (pc' := 71) rfl rfl ?_
                refine xi_istore (pc' := 73) rfl (st1_7 rfl) rfl ?_
                refine xi_iload (pc' := 75) rfl rfl rfl ?_
                refine xi_iff (pc' := 78) (tg := 122) rfl rfl (by decide) rfl ?_
                refine xi_iload_n (pc' := 79) rfl rfl rfl ?_
                refine xi_iconst (pc' := 80) rfl rfl ?_
                refine xx_icmp (pc' := 83) (tg := 94) rfl rfl rfl (fun q80 => ?_) (fun q80 => ?_)
                · refine xi_iload (pc' := 96) rfl rfl rfl ?_
                  refine xi_iconst (pc' := 97) rfl rfl ?_
                  refine xx_icmp (pc' := 100) (tg := 122) rfl rfl rfl (fun q97 => ?_) (fun q97 => ?_)
                  · refine xi_iconst (pc' := 123) rfl rfl ?_
                    refine xi_istore (pc' := 125) rfl (st1_7 rfl) rfl ?_
                    exact k0 (by clear k0 k1; simp only [ex_P, Classical.not_not, bI_0, okMsg, vT, vS, isC, Int32.lt_iff_toInt_lt, Int32.le_iff_toInt_le, ← Int32.toInt_inj, toI, Nat.reduceLT, Int32.toInt_zero] at *; omega)
                  · refine xi_iload (pc' := 102) rfl rfl rfl ?_
                    refine xi_iconst (pc' := 103) rfl rfl ?_
                    refine xx_icmp (pc' := 106) (tg := 122) rfl rfl rfl (fun q103 => ?_) (fun q103 => ?_)
                    · refine xi_iconst (pc' := 123) rfl rfl ?_
                      refine xi_istore (pc' := 125) rfl (st1_7 rfl) rfl ?_
                      exact k0 (by clear k0 k1; simp only [ex_P, Classical.not_not, bI_0, okMsg, vT, vS, isC, Int32.lt_iff_toInt_lt, Int32.le_iff_toInt_le, ← Int32.toInt_inj, toI, Nat.reduceLT, Int32.toInt_zero] at *; omega)
                    · refine xi_iload (pc' := 108) rfl rfl rfl ?_
                      refine xi_iconst (pc' := 109) rfl rfl ?_
                      refine xx_icmp (pc' := 112) (tg := 122) rfl rfl rfl (fun q109 => ?_) (fun q109 => ?_)
                      · refine xi_iconst (pc' := 123) rfl rfl ?_
                        refine xi_istore (pc' := 125) rfl (st1_7 rfl) rfl ?_
                        exact k0 (by clear k0 k1; simp only [ex_P, Classical.not_not, bI_0, okMsg, vT, vS, isC, Int32.lt_iff_toInt_lt, Int32.le_iff_toInt_le, ← Int32.toInt_inj, toI, Nat.reduceLT, Int32.toInt_zero] at *; omega)
                      · refine xi_iload (pc' := 114) rfl rfl rfl ?_
                        refine xi_iconst (pc' := 115) rfl rfl ?_
                        refine xx_icmp (pc' := 118) (tg := 122) rfl rfl rfl (fun q115 => ?_) (fun q115 => ?_)
                        · refine xi_iconst (pc' := 123) rfl rfl ?_
                          refine xi_istore (pc' := 125) rfl (st1_7 rfl) rfl ?_
                          exact k0 (by clear k0 k1; simp only [ex_P, Classical.not_not, bI_0, okMsg, vT, vS, isC, Int32.lt_iff_toInt_lt, Int32.le_iff_toInt_le, ← Int32.toInt_inj, toI, Nat.reduceLT, Int32.toInt_zero] at *; omega)
                        · refine xi_iconst (pc' := 119) rfl rfl ?_
                          refine xi_goto (pc' := 123) rfl rfl ?_
                          refine xi_istore (pc' := 125) rfl (st1_7 rfl) rfl ?_
                          exact k1 (by clear k0 k1; simp only [ex_P, Classical.not_not, bI_0, okMsg, vT, vS, isC, Int32.lt_iff_toInt_lt, Int32.le_iff_toInt_le, ← Int32.toInt_inj, toI, Nat.reduceLT, Int32.toInt_zero] at *; omega)
                · refine xi_iload (pc' := 85) rfl rfl rfl ?_
                  refine xx_callSi (pc' := 88) rfl rfl (by decide) rfl (Nat.le_of_ble_eq_true rfl) rfl rfl (r_isCode1 hc) ?_
                  refine xi_iff (pc' := 91) (tg := 122) rfl rfl (by decide) rfl ?_
                  refine xi_goto (pc' := 118) rfl rfl ?_
                  refine xi_iconst (pc' := 119) rfl rfl ?_
                  refine xi_goto (pc' := 123) rfl rfl ?_
                  refine xi_istore (pc' := 125) rfl (st1_7 rfl) rfl ?_
                  exact k1 (by clear k0 k1; simp only [ex_P, Classical.not_not, bI_0, okMsg, vT, vS, isC, Int32.lt_iff_toInt_lt, Int32.le_iff_toInt_le, ← Int32.toInt_inj, toI, Nat.reduceLT, Int32.toInt_zero] at *; omega)
          · refine xi_iload_n (pc' := 43) rfl rfl rfl ?_
            refine xx_callSi (pc' := 46) rfl rfl (by decide) rfl (Nat.le_of_ble_eq_true rfl) rfl rfl (r_isTerminal1 hx) ?_
            refine xi_iff (pc' := 49) (tg := 70) rfl rfl (by decide) rfl ?_
            refine xi_iload_n (pc' := 50) rfl rfl rfl ?_
            refine xi_iconst (pc' := 51) rfl rfl ?_
            refine xx_icmp (pc' := 54) (tg := 66) rfl rfl rfl (fun q51 => ?_) (fun q51 => ?_)
            · refine xi_iconst (pc' := 67) rfl rfl ?_
              refine xi_goto (pc' := 71) rfl rfl ?_
              refine xi_istore (pc' := 73) rfl (st1_7 rfl) rfl ?_
              refine xi_iload (pc' := 75) rfl rfl rfl ?_
              refine xi_iff (pc' := 78) (tg := 122) rfl rfl (by decide) rfl ?_
              refine xi_iload_n (pc' := 79) rfl rfl rfl ?_
              refine xi_iconst (pc' := 80) rfl rfl ?_
              refine xx_icmp (pc' := 83) (tg := 94) rfl rfl rfl (fun q80 => ?_) (fun q80 => ?_)
              · refine xi_iload (pc' := 96) rfl rfl rfl ?_
                refine xi_iconst (pc' := 97) rfl rfl ?_
                refine xx_icmp (pc' := 100) (tg := 122) rfl rfl rfl (fun q97 => ?_) (fun q97 => ?_)
                · refine xi_iconst (pc' := 123) rfl rfl ?_
                  refine xi_istore (pc' := 125) rfl (st1_7 rfl) rfl ?_
                  exact k0 (by clear k0 k1; simp only [ex_P, Classical.not_not, bI_0, okMsg, vT, vS, isC, Int32.lt_iff_toInt_lt, Int32.le_iff_toInt_le, ← Int32.toInt_inj, toI, Nat.reduceLT, Int32.toInt_zero] at *; omega)
                · refine xi_iload (pc' := 102) rfl rfl rfl ?_
                  refine xi_iconst (pc' := 103) rfl rfl ?_
                  refine xx_icmp (pc' := 106) (tg := 122) rfl rfl rfl (fun q103 => ?_) (fun q103 => ?_)
                  · refine xi_iconst (pc' := 123) rfl rfl ?_
                    refine xi_istore (pc' := 125) rfl (st1_7 rfl) rfl ?_
                    exact k0 (by clear k0 k1; simp only [ex_P, Classical.not_not, bI_0, okMsg, vT, vS, isC, Int32.lt_iff_toInt_lt, Int32.le_iff_toInt_le, ← Int32.toInt_inj, toI, Nat.reduceLT, Int32.toInt_zero] at *; omega)
                  · refine xi_iload (pc' := 108) rfl rfl rfl ?_
                    refine xi_iconst (pc' := 109) rfl rfl ?_
                    refine xx_icmp (pc' := 112) (tg := 122) rfl rfl rfl (fun q109 => ?_) (fun q109 => ?_)
                    · refine xi_iconst (pc' := 123) rfl rfl ?_
                      refine xi_istore (pc' := 125) rfl (st1_7 rfl) rfl ?_
                      exact k0 (by clear k0 k1; simp only [ex_P, Classical.not_not, bI_0, okMsg, vT, vS, isC, Int32.lt_iff_toInt_lt, Int32.le_iff_toInt_le, ← Int32.toInt_inj, toI, Nat.reduceLT, Int32.toInt_zero] at *; omega)
                    · refine xi_iload (pc' := 114) rfl rfl rfl ?_
                      refine xi_iconst (pc' := 115) rfl rfl ?_
                      refine xx_icmp (pc' := 118) (tg := 122) rfl rfl rfl (fun q115 => ?_) (fun q115 => ?_)
                      · refine xi_iconst (pc' := 123) rfl rfl ?_
                        refine xi_istore (pc' := 125) rfl (st1_7 rfl) rfl ?_
                        exact k0 (by clear k0 k1; simp only [ex_P, Classical.not_not, bI_0, okMsg, vT, vS, isC, Int32.lt_iff_toInt_lt, Int32.le_iff_toInt_le, ← Int32.toInt_inj, toI, Nat.reduceLT, Int32.toInt_zero] at *; omega)
                      · refine xi_iconst (pc' := 119) rfl rfl ?_
                        refine xi_goto (pc' := 123) rfl rfl ?_
                        refine xi_istore (pc' := 125) rfl (st1_7 rfl) rfl ?_
                        exact k1 (by clear k0 k1; simp only [ex_P, Classical.not_not, bI_0, okMsg, vT, vS, isC, Int32.lt_iff_toInt_lt, Int32.le_iff_toInt_le, ← Int32.toInt_inj, toI, Nat.reduceLT, Int32.toInt_zero] at *; omega)
              · refine xi_iload (pc' := 85) rfl rfl rfl ?_
                refine xx_callSi (pc' := 88) rfl rfl (by decide) rfl (Nat.le_of_ble_eq_true rfl) rfl rfl (r_isCode1 hc) ?_
                refine xi_iff (pc' := 91) (tg := 122) rfl rfl (by decide) rfl ?_
                refine xi_goto (pc' := 118) rfl rfl ?_
                refine xi_iconst (pc' := 119) rfl rfl ?_
                refine xi_goto (pc' := 123) rfl rfl ?_
                refine xi_istore (pc' := 125) rfl (st1_7 rfl) rfl ?_
                exact k1 (by clear k0 k1; simp only [ex_P, Classical.not_not, bI_0, okMsg, vT, vS, isC, Int32.lt_iff_toInt_lt, Int32.le_iff_toInt_le, ← Int32.toInt_inj, toI, Nat.reduceLT, Int32.toInt_zero] at *; omega)
            · refine xi_iload_n (pc' := 55) rfl rfl rfl ?_
              refine xx_callSi (pc' := 58) rfl rfl (by decide) rfl (Nat.le_of_ble_eq_true rfl) rfl rfl (r_isTerminal1 hy) ?_
              refine xi_iff (pc' := 61) (tg := 70) rfl rfl (by decide) rfl ?_
              refine xi_iload_n (pc' := 62) rfl rfl rfl ?_
              refine xi_iload_n (pc' := 63) rfl rfl rfl ?_
              refine xx_icmp (pc' := 66) (tg := 70) rfl rfl rfl (fun q63 => ?_) (fun q63 => ?_)
              · refine xi_iconst (pc' := 71) rfl rfl ?_
                refine xi_istore (pc' := 73) rfl (st1_7 rfl) rfl ?_
                refine xi_iload (pc' := 75) rfl rfl rfl ?_
                refine xi_ift (pc' := 122) rfl rfl (by decide) ?_
                refine xi_iconst (pc' := 123) rfl rfl ?_
                refine xi_istore (pc' := 125) rfl (st1_7 rfl) rfl ?_
                exact k0 (by clear k0 k1; simp only [ex_P, Classical.not_not, bI_0, okMsg, vT, vS, isC, Int32.lt_iff_toInt_lt, Int32.le_iff_toInt_le, ← Int32.toInt_inj, toI, Nat.reduceLT, Int32.toInt_zero] at *; omega)
              · refine xi_iconst (pc' := 67) rfl rfl ?_
                refine xi_goto (pc' := 71) rfl rfl ?_
                refine xi_istore (pc' := 73) rfl (st1_7 rfl) rfl ?_
                refine xi_iload (pc' := 75) rfl rfl rfl ?_
                refine xi_iff (pc' := 78) (tg := 122) rfl rfl (by decide) rfl ?_
                refine xi_iload_n (pc' := 79) rfl rfl rfl ?_
                refine xi_iconst (pc' := 80) rfl rfl ?_
                refine xx_icmp (pc' := 83) (tg := 94) rfl rfl rfl (fun q80 => ?_) (fun q80 => ?_)
                · refine xi_iload (pc' := 96) rfl rfl rfl ?_
                  refine xi_iconst (pc' := 97) rfl rfl ?_
                  refine xx_icmp (pc' := 100) (tg := 122) rfl rfl rfl (fun q97 => ?_) (fun q97 => ?_)
                  · refine xi_iconst (pc' := 123) rfl rfl ?_
                    refine xi_istore (pc' := 125) rfl (st1_7 rfl) rfl ?_
                    exact k0 (by clear k0 k1; simp only [ex_P, Classical.not_not, bI_0, okMsg, vT, vS, isC, Int32.lt_iff_toInt_lt, Int32.le_iff_toInt_le, ← Int32.toInt_inj, toI, Nat.reduceLT, Int32.toInt_zero] at *; omega)
                  · refine xi_iload (pc' := 102) rfl rfl rfl ?_
                    refine xi_iconst (pc' := 103) rfl rfl ?_
                    refine xx_icmp (pc' := 106) (tg := 122) rfl rfl rfl (fun q103 => ?_) (fun q103 => ?_)
                    · refine xi_iconst (pc' := 123) rfl rfl ?_
                      refine xi_istore (pc' := 125) rfl (st1_7 rfl) rfl ?_
                      exact k0 (by clear k0 k1; simp only [ex_P, Classical.not_not, bI_0, okMsg, vT, vS, isC, Int32.lt_iff_toInt_lt, Int32.le_iff_toInt_le, ← Int32.toInt_inj, toI, Nat.reduceLT, Int32.toInt_zero] at *; omega)
                    · refine xi_iload (pc' := 108) rfl rfl rfl ?_
                      refine xi_iconst (pc' := 109) rfl rfl ?_
                      refine xx_icmp (pc' := 112) (tg := 122) rfl rfl rfl (fun q109 => ?_) (fun q109 => ?_)
                      · refine xi_iconst (pc' := 123) rfl rfl ?_
                        refine xi_istore (pc' := 125) rfl (st1_7 rfl) rfl ?_
                        exact k0 (by clear k0 k1; simp only [ex_P, Classical.not_not, bI_0, okMsg, vT, vS, isC, Int32.lt_iff_toInt_lt, Int32.le_iff_toInt_le, ← Int32.toInt_inj, toI, Nat.reduceLT, Int32.toInt_zero] at *; omega)
                      · refine xi_iload (pc' := 114) rfl rfl rfl ?_
                        refine xi_iconst (pc' := 115) rfl rfl ?_
                        refine xx_icmp (pc' := 118) (tg := 122) rfl rfl rfl (fun q115 => ?_) (fun q115 => ?_)
                        · refine xi_iconst (pc' := 123) rfl rfl ?_
                          refine xi_istore (pc' := 125) rfl (st1_7 rfl) rfl ?_
                          exact k0 (by clear k0 k1; simp only [ex_P, Classical.not_not, bI_0, okMsg, vT, vS, isC, Int32.lt_iff_toInt_lt, Int32.le_iff_toInt_le, ← Int32.toInt_inj, toI, Nat.reduceLT, Int32.toInt_zero] at *; omega)
                        · refine xi_iconst (pc' := 119) rfl rfl ?_
                          refine xi_goto (pc' := 123) rfl rfl ?_
                          refine xi_istore (pc' := 125) rfl (st1_7 rfl) rfl ?_
                          exact k1 (by clear k0 k1; simp only [ex_P, Classical.not_not, bI_0, okMsg, vT, vS, isC, Int32.lt_iff_toInt_lt, Int32.le_iff_toInt_le, ← Int32.toInt_inj, toI, Nat.reduceLT, Int32.toInt_zero] at *; omega)
                · refine xi_iload (pc' := 85) rfl rfl rfl ?_
                  refine xx_callSi (pc' := 88) rfl rfl (by decide) rfl (Nat.le_of_ble_eq_true rfl) rfl rfl (r_isCode1 hc) ?_
                  refine xi_iff (pc' := 91) (tg := 122) rfl rfl (by decide) rfl ?_
                  refine xi_goto (pc' := 118) rfl rfl ?_
                  refine xi_iconst (pc' := 119) rfl rfl ?_
                  refine xi_goto (pc' := 123) rfl rfl ?_
                  refine xi_istore (pc' := 125) rfl (st1_7 rfl) rfl ?_
                  exact k1 (by clear k0 k1; simp only [ex_P, Classical.not_not, bI_0, okMsg, vT, vS, isC, Int32.lt_iff_toInt_lt, Int32.le_iff_toInt_le, ← Int32.toInt_inj, toI, Nat.reduceLT, Int32.toInt_zero] at *; omega)
        · refine xi_iload (pc' := 33) rfl rfl rfl ?_
          refine xi_iconst (pc' := 34) rfl rfl ?_
          refine xx_icmp (pc' := 37) (tg := 70) rfl rfl rfl (fun q34 => ?_) (fun q34 => ?_)
          · refine xi_iconst (pc' := 71) rfl rfl ?_
            refine xi_istore (pc' := 73) rfl (st1_7 rfl) rfl ?_
            refine xi_iload (pc' := 75) rfl rfl rfl ?_
            refine xi_ift (pc' := 122) rfl rfl (by decide) ?_
            refine xi_iconst (pc' := 123) rfl rfl ?_
            refine xi_istore (pc' := 125) rfl (st1_7 rfl) rfl ?_
            exact k0 (by clear k0 k1; simp only [ex_P, Classical.not_not, bI_0, okMsg, vT, vS, isC, Int32.lt_iff_toInt_lt, Int32.le_iff_toInt_le, ← Int32.toInt_inj, toI, Nat.reduceLT, Int32.toInt_zero] at *; omega)
          · refine xi_iload_n (pc' := 38) rfl rfl rfl ?_
            refine xi_iconst (pc' := 39) rfl rfl ?_
            refine xx_icmp (pc' := 42) (tg := 49) rfl rfl rfl (fun q39 => ?_) (fun q39 => ?_)
            · refine xi_iload_n (pc' := 50) rfl rfl rfl ?_
              refine xi_iconst (pc' := 51) rfl rfl ?_
              refine xx_icmp (pc' := 54) (tg := 66) rfl rfl rfl (fun q51 => ?_) (fun q51 => ?_)
              · refine xi_iconst (pc' := 67) rfl rfl ?_
                refine xi_goto (pc' := 71) rfl rfl ?_
                refine xi_istore (pc' := 73) rfl (st1_7 rfl) rfl ?_
                refine xi_iload (pc' := 75) rfl rfl rfl ?_
                refine xi_iff (pc' := 78) (tg := 122) rfl rfl (by decide) rfl ?_
                refine xi_iload_n (pc' := 79) rfl rfl rfl ?_
                refine xi_iconst (pc' := 80) rfl rfl ?_
                refine xx_icmp (pc' := 83) (tg := 94) rfl rfl rfl (fun q80 => ?_) (fun q80 => ?_)
                · refine xi_iload (pc' := 96) rfl rfl rfl ?_
                  refine xi_iconst (pc' := 97) rfl rfl ?_
                  refine xx_icmp (pc' := 100) (tg := 122) rfl rfl rfl (fun q97 => ?_) (fun q97 => ?_)
                  · refine xi_iconst (pc' := 123) rfl rfl ?_
                    refine xi_istore (pc' := 125) rfl (st1_7 rfl) rfl ?_
                    exact k0 (by clear k0 k1; simp only [ex_P, Classical.not_not, bI_0, okMsg, vT, vS, isC, Int32.lt_iff_toInt_lt, Int32.le_iff_toInt_le, ← Int32.toInt_inj, toI, Nat.reduceLT, Int32.toInt_zero] at *; omega)
                  · refine xi_iload (pc' := 102) rfl rfl rfl ?_
                    refine xi_iconst (pc' := 103) rfl rfl ?_
                    refine xx_icmp (pc' := 106) (tg := 122) rfl rfl rfl (fun q103 => ?_) (fun q103 => ?_)
                    · refine xi_iconst (pc' := 123) rfl rfl ?_
                      refine xi_istore (pc' := 125) rfl (st1_7 rfl) rfl ?_
                      exact k0 (by clear k0 k1; simp only [ex_P, Classical.not_not, bI_0, okMsg, vT, vS, isC, Int32.lt_iff_toInt_lt, Int32.le_iff_toInt_le, ← Int32.toInt_inj, toI, Nat.reduceLT, Int32.toInt_zero] at *; omega)
                    · refine xi_iload (pc' := 108) rfl rfl rfl ?_
                      refine xi_iconst (pc' := 109) rfl rfl ?_
                      refine xx_icmp (pc' := 112) (tg := 122) rfl rfl rfl (fun q109 => ?_) (fun q109 => ?_)
                      · refine xi_iconst (pc' := 123) rfl rfl ?_
                        refine xi_istore (pc' := 125) rfl (st1_7 rfl) rfl ?_
                        exact k0 (by clear k0 k1; simp only [ex_P, Classical.not_not, bI_0, okMsg, vT, vS, isC, Int32.lt_iff_toInt_lt, Int32.le_iff_toInt_le, ← Int32.toInt_inj, toI, Nat.reduceLT, Int32.toInt_zero] at *; omega)
                      · refine xi_iload (pc' := 114) rfl rfl rfl ?_
                        refine xi_iconst (pc' := 115) rfl rfl ?_
                        refine xx_icmp (pc' := 118) (tg := 122) rfl rfl rfl (fun q115 => ?_) (fun q115 => ?_)
                        · refine xi_iconst (pc' := 123) rfl rfl ?_
                          refine xi_istore (pc' := 125) rfl (st1_7 rfl) rfl ?_
                          exact k0 (by clear k0 k1; simp only [ex_P, Classical.not_not, bI_0, okMsg, vT, vS, isC, Int32.lt_iff_toInt_lt, Int32.le_iff_toInt_le, ← Int32.toInt_inj, toI, Nat.reduceLT, Int32.toInt_zero] at *; omega)
                        · refine xi_iconst (pc' := 119) rfl rfl ?_
                          refine xi_goto (pc' := 123) rfl rfl ?_
                          refine xi_istore (pc' := 125) rfl (st1_7 rfl) rfl ?_
                          exact k1 (by clear k0 k1; simp only [ex_P, Classical.not_not, bI_0, okMsg, vT, vS, isC, Int32.lt_iff_toInt_lt, Int32.le_iff_toInt_le, ← Int32.toInt_inj, toI, Nat.reduceLT, Int32.toInt_zero] at *; omega)
                · refine xi_iload (pc' := 85) rfl rfl rfl ?_
                  refine xx_callSi (pc' := 88) rfl rfl (by decide) rfl (Nat.le_of_ble_eq_true rfl) rfl rfl (r_isCode1 hc) ?_
                  refine xi_iff (pc' := 91) (tg := 122) rfl rfl (by decide) rfl ?_
                  refine xi_goto (pc' := 118) rfl rfl ?_
                  refine xi_iconst (pc' := 119) rfl rfl ?_
                  refine xi_goto (pc' := 123) rfl rfl ?_
                  refine xi_istore (pc' := 125) rfl (st1_7 rfl) rfl ?_
                  exact k1 (by clear k0 k1; simp only [ex_P, Classical.not_not, bI_0, okMsg, vT, vS, isC, Int32.lt_iff_toInt_lt, Int32.le_iff_toInt_le, ← Int32.toInt_inj, toI, Nat.reduceLT, Int32.toInt_zero] at *; omega)
              · refine xi_iload_n (pc' := 55) rfl rfl rfl ?_
                refine xx_callSi (pc' := 58) rfl rfl (by decide) rfl (Nat.le_of_ble_eq_true rfl) rfl rfl (r_isTerminal1 hy) ?_
                refine xi_iff (pc' := 61) (tg := 70) rfl rfl (by decide) rfl ?_
                refine xi_iload_n (pc' := 62) rfl rfl rfl ?_
                refine xi_iload_n (pc' := 63) rfl rfl rfl ?_
                refine xx_icmp (pc' := 66) (tg := 70) rfl rfl rfl (fun q63 => ?_) (fun q63 => ?_)
                · refine xi_iconst (pc' := 71) rfl rfl ?_
                  refine xi_istore (pc' := 73) rfl (st1_7 rfl) rfl ?_
                  refine xi_iload (pc' := 75) rfl rfl rfl ?_
                  refine xi_ift (pc' := 122) rfl rfl (by decide) ?_
                  refine xi_iconst (pc' := 123) rfl rfl ?_
                  refine xi_istore (pc' := 125) rfl (st1_7 rfl) rfl ?_
                  exact k0 (by clear k0 k1; simp only [ex_P, Classical.not_not, bI_0, okMsg, vT, vS, isC, Int32.lt_iff_toInt_lt, Int32.le_iff_toInt_le, ← Int32.toInt_inj, toI, Nat.reduceLT, Int32.toInt_zero] at *; omega)
                · refine xi_iconst (pc' := 67) rfl rfl ?_
                  refine xi_goto (pc' := 71) rfl rfl ?_
                  refine xi_istore (pc' := 73) rfl (st1_7 rfl) rfl ?_
                  refine xi_iload (pc' := 75) rfl rfl rfl ?_
                  refine xi_iff (pc' := 78) (tg := 122) rfl rfl (by decide) rfl ?_
                  refine xi_iload_n (pc' := 79) rfl rfl rfl ?_
                  refine xi_iconst (pc' := 80) rfl rfl ?_
                  refine xx_icmp (pc' := 83) (tg := 94) rfl rfl rfl (fun q80 => ?_) (fun q80 => ?_)
                  · refine xi_iload (pc' := 96) rfl rfl rfl ?_
                    refine xi_iconst (pc' := 97) rfl rfl ?_
                    refine xx_icmp (pc' := 100) (tg := 122) rfl rfl rfl (fun q97 => ?_) (fun q97 => ?_)
                    · refine xi_iconst (pc' := 123) rfl rfl ?_
                      refine xi_istore (pc' := 125) rfl (st1_7 rfl) rfl ?_
                      exact k0 (by clear k0 k1; simp only [ex_P, Classical.not_not, bI_0, okMsg, vT, vS, isC, Int32.lt_iff_toInt_lt, Int32.le_iff_toInt_le, ← Int32.toInt_inj, toI, Nat.reduceLT, Int32.toInt_zero] at *; omega)
                    · refine xi_iload (pc' := 102) rfl rfl rfl ?_
                      refine xi_iconst (pc' := 103) rfl rfl ?_
                      refine xx_icmp (pc' := 106) (tg := 122) rfl rfl rfl (fun q103 => ?_) (fun q103 => ?_)
                      · refine xi_iconst (pc' := 123) rfl rfl ?_
                        refine xi_istore (pc' := 125) rfl (st1_7 rfl) rfl ?_
                        exact k0 (by clear k0 k1; simp only [ex_P, Classical.not_not, bI_0, okMsg, vT, vS, isC, Int32.lt_iff_toInt_lt, Int32.le_iff_toInt_le, ← Int32.toInt_inj, toI, Nat.reduceLT, Int32.toInt_zero] at *; omega)
                      · refine xi_iload (pc' := 108) rfl rfl rfl ?_
                        refine xi_iconst (pc' := 109) rfl rfl ?_
                        refine xx_icmp (pc' := 112) (tg := 122) rfl rfl rfl (fun q109 => ?_) (fun q109 => ?_)
                        · refine xi_iconst (pc' := 123) rfl rfl ?_
                          refine xi_istore (pc' := 125) rfl (st1_7 rfl) rfl ?_
                          exact k0 (by clear k0 k1; simp only [ex_P, Classical.not_not, bI_0, okMsg, vT, vS, isC, Int32.lt_iff_toInt_lt, Int32.le_iff_toInt_le, ← Int32.toInt_inj, toI, Nat.reduceLT, Int32.toInt_zero] at *; omega)
                        · refine xi_iload (pc' := 114) rfl rfl rfl ?_
                          refine xi_iconst (pc' := 115) rfl rfl ?_
                          refine xx_icmp (pc' := 118) (tg := 122) rfl rfl rfl (fun q115 => ?_) (fun q115 => ?_)
                          · refine xi_iconst (pc' := 123) rfl rfl ?_
                            refine xi_istore (pc' := 125) rfl (st1_7 rfl) rfl ?_
                            exact k0 (by clear k0 k1; simp only [ex_P, Classical.not_not, bI_0, okMsg, vT, vS, isC, Int32.lt_iff_toInt_lt, Int32.le_iff_toInt_le, ← Int32.toInt_inj, toI, Nat.reduceLT, Int32.toInt_zero] at *; omega)
                          · refine xi_iconst (pc' := 119) rfl rfl ?_
                            refine xi_goto (pc' := 123) rfl rfl ?_
                            refine xi_istore (pc' := 125) rfl (st1_7 rfl) rfl ?_
                            exact k1 (by clear k0 k1; simp only [ex_P, Classical.not_not, bI_0, okMsg, vT, vS, isC, Int32.lt_iff_toInt_lt, Int32.le_iff_toInt_le, ← Int32.toInt_inj, toI, Nat.reduceLT, Int32.toInt_zero] at *; omega)
                  · refine xi_iload (pc' := 85) rfl rfl rfl ?_
                    refine xx_callSi (pc' := 88) rfl rfl (by decide) rfl (Nat.le_of_ble_eq_true rfl) rfl rfl (r_isCode1 hc) ?_
                    refine xi_iff (pc' := 91) (tg := 122) rfl rfl (by decide) rfl ?_
                    refine xi_goto (pc' := 118) rfl rfl ?_
                    refine xi_iconst (pc' := 119) rfl rfl ?_
                    refine xi_goto (pc' := 123) rfl rfl ?_
                    refine xi_istore (pc' := 125) rfl (st1_7 rfl) rfl ?_
                    exact k1 (by clear k0 k1; simp only [ex_P, Classical.not_not, bI_0, okMsg, vT, vS, isC, Int32.lt_iff_toInt_lt, Int32.le_iff_toInt_le, ← Int32.toInt_inj, toI, Nat.reduceLT, Int32.toInt_zero] at *; omega)
            · refine xi_iload_n (pc' := 43) rfl rfl rfl ?_
              refine xx_callSi (pc' := 46) rfl rfl (by decide) rfl (Nat.le_of_ble_eq_true rfl) rfl rfl (r_isTerminal1 hx) ?_
              refine xi_iff (pc' := 49) (tg := 70) rfl rfl (by decide) rfl ?_
              refine xi_iload_n (pc' := 50) rfl rfl rfl ?_
              refine xi_iconst (pc' := 51) rfl rfl ?_
              refine xx_icmp (pc' := 54) (tg := 66) rfl rfl rfl (fun q51 => ?_) (fun q51 => ?_)
              · refine xi_iconst (pc' := 67) rfl rfl ?_
                refine xi_goto (pc' := 71) rfl rfl ?_
                refine xi_istore (pc' := 73) rfl (st1_7 rfl) rfl ?_
                refine xi_iload (pc' := 75) rfl rfl rfl ?_
                refine xi_iff (pc' := 78) (tg := 122) rfl rfl (by decide) rfl ?_
                refine xi_iload_n (pc' := 79) rfl rfl rfl ?_
                refine xi_iconst (pc' := 80) rfl rfl ?_
                refine xx_icmp (pc' := 83) (tg := 94) rfl rfl rfl (fun q80 => ?_) (fun q80 => ?_)
                · refine xi_iload (pc' := 96) rfl rfl rfl ?_
                  refine xi_iconst (pc' := 97) rfl rfl ?_
                  refine xx_icmp (pc' := 100) (tg := 122) rfl rfl rfl (fun q97 => ?_) (fun q97 => ?_)
                  · refine xi_iconst (pc' := 123) rfl rfl ?_
                    refine xi_istore (pc' := 125) rfl (st1_7 rfl) rfl ?_
                    exact k0 (by clear k0 k1; simp only [ex_P, Classical.not_not, bI_0, okMsg, vT, vS, isC, Int32.lt_iff_toInt_lt, Int32.le_iff_toInt_le, ← Int32.toInt_inj, toI, Nat.reduceLT, Int32.toInt_zero] at *; omega)
                  · refine xi_iload (pc' := 102) rfl rfl rfl ?_
                    refine xi_iconst (pc' := 103) rfl rfl ?_
                    refine xx_icmp (pc' := 106) (tg := 122) rfl rfl rfl (fun q103 => ?_) (fun q103 => ?_)
                    · refine xi_iconst (pc' := 123) rfl rfl ?_
                      refine xi_istore (pc' := 125) rfl (st1_7 rfl) rfl ?_
                      exact k0 (by clear k0 k1; simp only [ex_P, Classical.not_not, bI_0, okMsg, vT, vS, isC, Int32.lt_iff_toInt_lt, Int32.le_iff_toInt_le, ← Int32.toInt_inj, toI, Nat.reduceLT, Int32.toInt_zero] at *; omega)
                    · refine xi_iload (pc' := 108) rfl rfl rfl ?_
                      refine xi_iconst (pc' := 109) rfl rfl ?_
                      refine xx_icmp (pc' := 112) (tg := 122) rfl rfl rfl (fun q109 => ?_) (fun q109 => ?_)
                      · refine xi_iconst (pc' := 123) rfl rfl ?_
                        refine xi_istore (pc' := 125) rfl (st1_7 rfl) rfl ?_
                        exact k0 (by clear k0 k1; simp only [ex_P, Classical.not_not, bI_0, okMsg, vT, vS, isC, Int32.lt_iff_toInt_lt, Int32.le_iff_toInt_le, ← Int32.toInt_inj, toI, Nat.reduceLT, Int32.toInt_zero] at *; omega)
                      · refine xi_iload (pc' := 114) rfl rfl rfl ?_
                        refine xi_iconst (pc' := 115) rfl rfl ?_
                        refine xx_icmp (pc' := 118) (tg := 122) rfl rfl rfl (fun q115 => ?_) (fun q115 => ?_)
                        · refine xi_iconst (pc' := 123) rfl rfl ?_
                          refine xi_istore (pc' := 125) rfl (st1_7 rfl) rfl ?_
                          exact k0 (by clear k0 k1; simp only [ex_P, Classical.not_not, bI_0, okMsg, vT, vS, isC, Int32.lt_iff_toInt_lt, Int32.le_iff_toInt_le, ← Int32.toInt_inj, toI, Nat.reduceLT, Int32.toInt_zero] at *; omega)
                        · refine xi_iconst (pc' := 119) rfl rfl ?_
                          refine xi_goto (pc' := 123) rfl rfl ?_
                          refine xi_istore (pc' := 125) rfl (st1_7 rfl) rfl ?_
                          exact k1 (by clear k0 k1; simp only [ex_P, Classical.not_not, bI_0, okMsg, vT, vS, isC, Int32.lt_iff_toInt_lt, Int32.le_iff_toInt_le, ← Int32.toInt_inj, toI, Nat.reduceLT, Int32.toInt_zero] at *; omega)
                · refine xi_iload (pc' := 85) rfl rfl rfl ?_
                  refine xx_callSi (pc' := 88) rfl rfl (by decide) rfl (Nat.le_of_ble_eq_true rfl) rfl rfl (r_isCode1 hc) ?_
                  refine xi_iff (pc' := 91) (tg := 122) rfl rfl (by decide) rfl ?_
                  refine xi_goto (pc' := 118) rfl rfl ?_
                  refine xi_iconst (pc' := 119) rfl rfl ?_
                  refine xi_goto (pc' := 123) rfl rfl ?_
                  refine xi_istore (pc' := 125) rfl (st1_7 rfl) rfl ?_
                  exact k1 (by clear k0 k1; simp only [ex_P, Classical.not_not, bI_0, okMsg, vT, vS, isC, Int32.lt_iff_toInt_lt, Int32.le_iff_toInt_le, ← Int32.toInt_inj, toI, Nat.reduceLT, Int32.toInt_zero] at *; omega)
              · refine xi_iload_n (pc' := 55) rfl rfl rfl ?_
                refine xx_callSi (pc' := 58) rfl rfl (by decide) rfl (Nat.le_of_ble_eq_true rfl) rfl rfl (r_isTerminal1 hy) ?_
                refine xi_iff (pc' := 61) (tg := 70) rfl rfl (by decide) rfl ?_
                refine xi_iload_n (pc' := 62) rfl rfl rfl ?_
                refine xi_iload_n (pc' := 63) rfl rfl rfl ?_
                refine xx_icmp (pc' := 66) (tg := 70) rfl rfl rfl (fun q63 => ?_) (fun q63 => ?_)
                · refine xi_iconst (pc' := 71) rfl rfl ?_
                  refine xi_istore (pc' := 73) rfl (st1_7 rfl) rfl ?_
                  refine xi_iload (pc' := 75) rfl rfl rfl ?_
                  refine xi_ift (pc' := 122) rfl rfl (by decide) ?_
                  refine xi_iconst (pc' := 123) rfl rfl ?_
                  refine xi_istore (pc' := 125) rfl (st1_7 rfl) rfl ?_
                  exact k0 (by clear k0 k1; simp only [ex_P, Classical.not_not, bI_0, okMsg, vT, vS, isC, Int32.lt_iff_toInt_lt, Int32.le_iff_toInt_le, ← Int32.toInt_inj, toI, Nat.reduceLT, Int32.toInt_zero] at *; omega)
                · refine xi_iconst (pc' := 67) rfl rfl ?_
                  refine xi_goto (pc' := 71) rfl rfl ?_
                  refine xi_istore (pc' := 73) rfl (st1_7 rfl) rfl ?_
                  refine xi_iload (pc' := 75) rfl rfl rfl ?_
                  refine xi_iff (pc' := 78) (tg := 122) rfl rfl (by decide) rfl ?_
                  refine xi_iload_n (pc' := 79) rfl rfl rfl ?_
                  refine xi_iconst (pc' := 80) rfl rfl ?_
                  refine xx_icmp (pc' := 83) (tg := 94) rfl rfl rfl (fun q80 => ?_) (fun q80 => ?_)
                  · refine xi_iload (pc' := 96) rfl rfl rfl ?_
                    refine xi_iconst (pc' := 97) rfl rfl ?_
                    refine xx_icmp (pc' := 100) (tg := 122) rfl rfl rfl (fun q97 => ?_) (fun q97 => ?_)
                    · refine xi_iconst (pc' := 123) rfl rfl ?_
                      refine xi_istore (pc' := 125) rfl (st1_7 rfl) rfl ?_
                      exact k0 (by clear k0 k1; simp only [ex_P, Classical.not_not, bI_0, okMsg, vT, vS, isC, Int32.lt_iff_toInt_lt, Int32.le_iff_toInt_le, ← Int32.toInt_inj, toI, Nat.reduceLT, Int32.toInt_zero] at *; omega)
                    · refine xi_iload (pc' := 102) rfl rfl rfl ?_
                      refine xi_iconst (pc' := 103) rfl rfl ?_
                      refine xx_icmp (pc' := 106) (tg := 122) rfl rfl rfl (fun q103 => ?_) (fun q103 => ?_)
                      · refine xi_iconst (pc' := 123) rfl rfl ?_
                        refine xi_istore (pc' := 125) rfl (st1_7 rfl) rfl ?_
                        exact k0 (by clear k0 k1; simp only [ex_P, Classical.not_not, bI_0, okMsg, vT, vS, isC, Int32.lt_iff_toInt_lt, Int32.le_iff_toInt_le, ← Int32.toInt_inj, toI, Nat.reduceLT, Int32.toInt_zero] at *; omega)
                      · refine xi_iload (pc' := 108) rfl rfl rfl ?_
                        refine xi_iconst (pc' := 109) rfl rfl ?_
                        refine xx_icmp (pc' := 112) (tg := 122) rfl rfl rfl (fun q109 => ?_) (fun q109 => ?_)
                        · refine xi_iconst (pc' := 123) rfl rfl ?_
                          refine xi_istore (pc' := 125) rfl (st1_7 rfl) rfl ?_
                          exact k0 (by clear k0 k1; simp only [ex_P, Classical.not_not, bI_0, okMsg, vT, vS, isC, Int32.lt_iff_toInt_lt, Int32.le_iff_toInt_le, ← Int32.toInt_inj, toI, Nat.reduceLT, Int32.toInt_zero] at *; omega)
                        · refine xi_iload (pc' := 114) rfl rfl rfl ?_
                          refine xi_iconst (pc' := 115) rfl rfl ?_
                          refine xx_icmp (pc' := 118) (tg := 122) rfl rfl rfl (fun q115 => ?_) (fun q115 => ?_)
                          · refine xi_iconst (pc' := 123) rfl rfl ?_
                            refine xi_istore (pc' := 125) rfl (st1_7 rfl) rfl ?_
                            exact k0 (by clear k0 k1; simp only [ex_P, Classical.not_not, bI_0, okMsg, vT, vS, isC, Int32.lt_iff_toInt_lt, Int32.le_iff_toInt_le, ← Int32.toInt_inj, toI, Nat.reduceLT, Int32.toInt_zero] at *; omega)
                          · refine xi_iconst (pc' := 119) rfl rfl ?_
                            refine xi_goto (pc' := 123) rfl rfl ?_
                            refine xi_istore (pc' := 125) rfl (st1_7 rfl) rfl ?_
                            exact k1 (by clear k0 k1; simp only [ex_P, Classical.not_not, bI_0, okMsg, vT, vS, isC, Int32.lt_iff_toInt_lt, Int32.le_iff_toInt_le, ← Int32.toInt_inj, toI, Nat.reduceLT, Int32.toInt_zero] at *; omega)
                  · refine xi_iload (pc' := 85) rfl rfl rfl ?_
                    refine xx_callSi (pc' := 88) rfl rfl (by decide) rfl (Nat.le_of_ble_eq_true rfl) rfl rfl (r_isCode1 hc) ?_
                    refine xi_iff (pc' := 91) (tg := 122) rfl rfl (by decide) rfl ?_
                    refine xi_goto (pc' := 118) rfl rfl ?_
                    refine xi_iconst (pc' := 119) rfl rfl ?_
                    refine xi_goto (pc' := 123) rfl rfl ?_
                    refine xi_istore (pc' := 125) rfl (st1_7 rfl) rfl ?_
                    exact k1 (by clear k0 k1; simp only [ex_P, Classical.not_not, bI_0, okMsg, vT, vS, isC, Int32.lt_iff_toInt_lt, Int32.le_iff_toInt_le, ← Int32.toInt_inj, toI, Nat.reduceLT, Int32.toInt_zero] at *; omega)
theorem r_msg_110 {L : Nat} {xs : Nat → Int32} {D n : Nat} {I J : ex_Mem} {kind x y s nn per : Int32} {Q : Option Value → ex_Hp → Prop} (k1 : okMsg kind x y s nn per → xx cb_G L xs (D + 1) 94 125 [.ref 52, .int kind, .int x, .int y, .int s, .int nn, .int per, .int (nI 1)] [] (mkH n I J) Q) (k0 : ¬ okMsg kind x y s nn per → xx cb_G L xs (D + 1) 94 125 [.ref 52, .int kind, .int x, .int y, .int s, .int nn, .int per, .int (nI 0)] [] (mkH n I J) Q) (hx : vT x) (hy : vT y) (hc : ¬ isC nn) : xx cb_G L xs (D + 1) 94 10 [.ref 52, .int kind, .int x, .int y, .int s, .int nn, .int per, ex_no] [] (mkH n I J) Q := by
  refine xi_iload_n (pc' := 11) rfl rfl rfl ?_
  refine xx_if (pc' := 14) (tg := 70) rfl rfl rfl (fun q11 => ?_) (fun q11 => ?_)
  · refine xi_iconst (pc' := 71) rfl rfl ?_
    refine xi_istore (pc' := 73) rfl (st1_7 rfl) rfl ?_
    refine xi_iload (pc' := 75) rfl rfl rfl ?_
    refine xi_ift (pc' := 122) rfl rfl (by decide) ?_
    refine xi_iconst (pc' := 123) rfl rfl ?_
    refine xi_istore (pc' := 125) rfl (st1_7 rfl) rfl ?_
    exact k0 (by clear k0 k1; simp only [ex_P, Classical.not_not, bI_0, okMsg, vT, vS, isC, Int32.lt_iff_toInt_lt, Int32.le_iff_toInt_le, ← Int32.toInt_inj, toI, Nat.reduceLT, Int32.toInt_zero] at *; omega)
  · refine xi_iload_n (pc' := 15) rfl rfl rfl ?_
    refine xi_iconst (pc' := 16) rfl rfl ?_
    refine xx_icmp (pc' := 19) (tg := 70) rfl rfl rfl (fun q16 => ?_) (fun q16 => ?_)
    · refine xi_iconst (pc' := 71) rfl rfl ?_
      refine xi_istore (pc' := 73) rfl (st1_7 rfl) rfl ?_
      refine xi_iload (pc' := 75) rfl rfl rfl ?_
      refine xi_ift (pc' := 122) rfl rfl (by decide) ?_
      refine xi_iconst (pc' := 123) rfl rfl ?_
      refine xi_istore (pc' := 125) rfl (st1_7 rfl) rfl ?_
      exact k0 (by clear k0 k1; simp only [ex_P, Classical.not_not, bI_0, okMsg, vT, vS, isC, Int32.lt_iff_toInt_lt, Int32.le_iff_toInt_le, ← Int32.toInt_inj, toI, Nat.reduceLT, Int32.toInt_zero] at *; omega)
    · refine xi_iload (pc' := 21) rfl rfl rfl ?_
      refine xi_iconst (pc' := 22) rfl rfl ?_
      refine xx_icmp (pc' := 25) (tg := 37) rfl rfl rfl (fun q22 => ?_) (fun q22 => ?_)
      · refine xi_iload_n (pc' := 38) rfl rfl rfl ?_
        refine xi_iconst (pc' := 39) rfl rfl ?_
        refine xx_icmp (pc' := 42) (tg := 49) rfl rfl rfl (fun q39 => ?_) (fun q39 => ?_)
        · refine xi_iload_n (pc' := 50) rfl rfl rfl ?_
          refine xi_iconst (pc' := 51) rfl rfl ?_
          refine xx_icmp (pc' := 54) (tg := 66) rfl rfl rfl (fun q51 => ?_) (fun q51 => ?_)
          · refine xi_iconst (pc' := 67) rfl rfl ?_
            refine xi_goto (pc' := 71) rfl rfl ?_
            refine xi_istore (pc' := 73) rfl (st1_7 rfl) rfl ?_
            refine xi_iload (pc' := 75) rfl rfl rfl ?_
            refine xi_iff (pc' := 78) (tg := 122) rfl rfl (by decide) rfl ?_
            refine xi_iload_n (pc' := 79) rfl rfl rfl ?_
            refine xi_iconst (pc' := 80) rfl rfl ?_
            refine xx_icmp (pc' := 83) (tg := 94) rfl rfl rfl (fun q80 => ?_) (fun q80 => ?_)
            · refine xi_iload (pc' := 96) rfl rfl rfl ?_
              refine xi_iconst (pc' := 97) rfl rfl ?_
              refine xx_icmp (pc' := 100) (tg := 122) rfl rfl rfl (fun q97 => ?_) (fun q97 => ?_)
              · refine xi_iconst (pc' := 123) rfl rfl ?_
                refine xi_istore (pc' := 125) rfl (st1_7 rfl) rfl ?_
                exact k0 (by clear k0 k1; simp only [ex_P, Classical.not_not, bI_0, okMsg, vT, vS, isC, Int32.lt_iff_toInt_lt, Int32.le_iff_toInt_le, ← Int32.toInt_inj, toI, Nat.reduceLT, Int32.toInt_zero] at *; omega)
              · refine xi_iload (pc' := 102) rfl rfl rfl ?_
                refine xi_iconst (pc' := 103) rfl rfl ?_
                refine xx_icmp (pc' := 106) (tg := 122) rfl rfl rfl (fun q103 => ?_) (fun q103 => ?_)
                · refine xi_iconst (pc' := 123) rfl rfl ?_
                  refine xi_istore (pc' := 125) rfl (st1_7 rfl) rfl ?_
                  exact k0 (by clear k0 k1; simp only [ex_P, Classical.not_not, bI_0, okMsg, vT, vS, isC, Int32.lt_iff_toInt_lt, Int32.le_iff_toInt_le, ← Int32.toInt_inj, toI, Nat.reduceLT, Int32.toInt_zero] at *; omega)
                · refine xi_iload (pc' := 108) rfl rfl rfl ?_
                  refine xi_iconst (pc' := 109) rfl rfl ?_
                  refine xx_icmp (pc' := 112) (tg := 122) rfl rfl rfl (fun q109 => ?_) (fun q109 => ?_)
                  · refine xi_iconst (pc' := 123) rfl rfl ?_
                    refine xi_istore (pc' := 125) rfl (st1_7 rfl) rfl ?_
                    exact k0 (by clear k0 k1; simp only [ex_P, Classical.not_not, bI_0, okMsg, vT, vS, isC, Int32.lt_iff_toInt_lt, Int32.le_iff_toInt_le, ← Int32.toInt_inj, toI, Nat.reduceLT, Int32.toInt_zero] at *; omega)
                  · refine xi_iload (pc' := 114) rfl rfl rfl ?_
                    refine xi_iconst (pc' := 115) rfl rfl ?_
                    refine xx_icmp (pc' := 118) (tg := 122) rfl rfl rfl (fun q115 => ?_) (fun q115 => ?_)
                    · refine xi_iconst (pc' := 123) rfl rfl ?_
                      refine xi_istore (pc' := 125) rfl (st1_7 rfl) rfl ?_
                      exact k0 (by clear k0 k1; simp only [ex_P, Classical.not_not, bI_0, okMsg, vT, vS, isC, Int32.lt_iff_toInt_lt, Int32.le_iff_toInt_le, ← Int32.toInt_inj, toI, Nat.reduceLT, Int32.toInt_zero] at *; omega)
                    · refine xi_iconst (pc' := 119) rfl rfl ?_
                      refine xi_goto (pc' := 123) rfl rfl ?_
                      refine xi_istore (pc' := 125) rfl (st1_7 rfl) rfl ?_
                      exact k1 (by clear k0 k1; simp only [ex_P, Classical.not_not, bI_0, okMsg, vT, vS, isC, Int32.lt_iff_toInt_lt, Int32.le_iff_toInt_le, ← Int32.toInt_inj, toI, Nat.reduceLT, Int32.toInt_zero] at *; omega)
            · refine xi_iload (pc' := 85) rfl rfl rfl ?_
              refine xx_callSi (pc' := 88) rfl rfl (by decide) rfl (Nat.le_of_ble_eq_true rfl) rfl rfl (r_isCode0 hc) ?_
              refine xi_ift (pc' := 122) rfl rfl (by decide) ?_
              refine xi_iconst (pc' := 123) rfl rfl ?_
              refine xi_istore (pc' := 125) rfl (st1_7 rfl) rfl ?_
              exact k0 (by clear k0 k1; simp only [ex_P, Classical.not_not, bI_0, okMsg, vT, vS, isC, Int32.lt_iff_toInt_lt, Int32.le_iff_toInt_le, ← Int32.toInt_inj, toI, Nat.reduceLT, Int32.toInt_zero] at *; omega)
          · refine xi_iload_n (pc' := 55) rfl rfl rfl ?_
            refine xx_callSi (pc' := 58) rfl rfl (by decide) rfl (Nat.le_of_ble_eq_true rfl) rfl rfl (r_isTerminal1 hy) ?_
            refine xi_iff (pc' := 61) (tg := 70) rfl rfl (by decide) rfl ?_
            refine xi_iload_n (pc' := 62) rfl rfl rfl ?_
            refine xi_iload_n (pc' := 63) rfl rfl rfl ?_
            refine xx_icmp (pc' := 66) (tg := 70) rfl rfl rfl (fun q63 => ?_) (fun q63 => ?_)
            · refine xi_iconst (pc' := 71) rfl rfl ?_
              refine xi_istore (pc' := 73) rfl (st1_7 rfl) rfl ?_
              refine xi_iload (pc' := 75) rfl rfl rfl ?_
              refine xi_ift (pc' := 122) rfl rfl (by decide) ?_
              refine xi_iconst (pc' := 123) rfl rfl ?_
              refine xi_istore (pc' := 125) rfl (st1_7 rfl) rfl ?_
              exact k0 (by clear k0 k1; simp only [ex_P, Classical.not_not, bI_0, okMsg, vT, vS, isC, Int32.lt_iff_toInt_lt, Int32.le_iff_toInt_le, ← Int32.toInt_inj, toI, Nat.reduceLT, Int32.toInt_zero] at *; omega)
            · refine xi_iconst (pc' := 67) rfl rfl ?_
              refine xi_goto (pc' := 71) rfl rfl ?_
              refine xi_istore (pc' := 73) rfl (st1_7 rfl) rfl ?_
              refine xi_iload (pc' := 75) rfl rfl rfl ?_
              refine xi_iff (pc' := 78) (tg := 122) rfl rfl (by decide) rfl ?_
              refine xi_iload_n (pc' := 79) rfl rfl rfl ?_
              refine xi_iconst (pc' := 80) rfl rfl ?_
              refine xx_icmp (pc' := 83) (tg := 94) rfl rfl rfl (fun q80 => ?_) (fun q80 => ?_)
              · refine xi_iload (pc' := 96) rfl rfl rfl ?_
                refine xi_iconst (pc' := 97) rfl rfl ?_
                refine xx_icmp (pc' := 100) (tg := 122) rfl rfl rfl (fun q97 => ?_) (fun q97 => ?_)
                · refine xi_iconst (pc' := 123) rfl rfl ?_
                  refine xi_istore (pc' := 125) rfl (st1_7 rfl) rfl ?_
                  exact k0 (by clear k0 k1; simp only [ex_P, Classical.not_not, bI_0, okMsg, vT, vS, isC, Int32.lt_iff_toInt_lt, Int32.le_iff_toInt_le, ← Int32.toInt_inj, toI, Nat.reduceLT, Int32.toInt_zero] at *; omega)
                · refine xi_iload (pc' := 102) rfl rfl rfl ?_
                  refine xi_iconst (pc' := 103) rfl rfl ?_
                  refine xx_icmp (pc' := 106) (tg := 122) rfl rfl rfl (fun q103 => ?_) (fun q103 => ?_)
                  · refine xi_iconst (pc' := 123) rfl rfl ?_
                    refine xi_istore (pc' := 125) rfl (st1_7 rfl) rfl ?_
                    exact k0 (by clear k0 k1; simp only [ex_P, Classical.not_not, bI_0, okMsg, vT, vS, isC, Int32.lt_iff_toInt_lt, Int32.le_iff_toInt_le, ← Int32.toInt_inj, toI, Nat.reduceLT, Int32.toInt_zero] at *; omega)
                  · refine xi_iload (pc' := 108) rfl rfl rfl ?_
                    refine xi_iconst (pc' := 109) rfl rfl ?_
                    refine xx_icmp (pc' := 112) (tg := 122) rfl rfl rfl (fun q109 => ?_) (fun q109 => ?_)
                    · refine xi_iconst (pc' := 123) rfl rfl ?_
                      refine xi_istore (pc' := 125) rfl (st1_7 rfl) rfl ?_
                      exact k0 (by clear k0 k1; simp only [ex_P, Classical.not_not, bI_0, okMsg, vT, vS, isC, Int32.lt_iff_toInt_lt, Int32.le_iff_toInt_le, ← Int32.toInt_inj, toI, Nat.reduceLT, Int32.toInt_zero] at *; omega)
                    · refine xi_iload (pc' := 114) rfl rfl rfl ?_
                      refine xi_iconst (pc' := 115) rfl rfl ?_
                      refine xx_icmp (pc' := 118) (tg := 122) rfl rfl rfl (fun q115 => ?_) (fun q115 => ?_)
                      · refine xi_iconst (pc' := 123) rfl rfl ?_
                        refine xi_istore (pc' := 125) rfl (st1_7 rfl) rfl ?_
                        exact k0 (by clear k0 k1; simp only [ex_P, Classical.not_not, bI_0, okMsg, vT, vS, isC, Int32.lt_iff_toInt_lt, Int32.le_iff_toInt_le, ← Int32.toInt_inj, toI, Nat.reduceLT, Int32.toInt_zero] at *; omega)
                      · refine xi_iconst (pc' := 119) rfl rfl ?_
                        refine xi_goto (pc' := 123) rfl rfl ?_
                        refine xi_istore (pc' := 125) rfl (st1_7 rfl) rfl ?_
                        exact k1 (by clear k0 k1; simp only [ex_P, Classical.not_not, bI_0, okMsg, vT, vS, isC, Int32.lt_iff_toInt_lt, Int32.le_iff_toInt_le, ← Int32.toInt_inj, toI, Nat.reduceLT, Int32.toInt_zero] at *; omega)
              · refine xi_iload (pc' := 85) rfl rfl rfl ?_
                refine xx_callSi (pc' := 88) rfl rfl (by decide) rfl (Nat.le_of_ble_eq_true rfl) rfl rfl (r_isCode0 hc) ?_
                refine xi_ift (pc' := 122) rfl rfl (by decide) ?_
                refine xi_iconst (pc' := 123) rfl rfl ?_
                refine xi_istore (pc' := 125) rfl (st1_7 rfl) rfl ?_
                exact k0 (by clear k0 k1; simp only [ex_P, Classical.not_not, bI_0, okMsg, vT, vS, isC, Int32.lt_iff_toInt_lt, Int32.le_iff_toInt_le, ← Int32.toInt_inj, toI, Nat.reduceLT, Int32.toInt_zero] at *; omega)
        · refine xi_iload_n (pc' := 43) rfl rfl rfl ?_
          refine xx_callSi (pc' := 46) rfl rfl (by decide) rfl (Nat.le_of_ble_eq_true rfl) rfl rfl (r_isTerminal1 hx) ?_
          refine xi_iff (pc' := 49) (tg := 70) rfl rfl (by decide) rfl ?_
          refine xi_iload_n (pc' := 50) rfl rfl rfl ?_
          refine xi_iconst (pc' := 51) rfl rfl ?_
          refine xx_icmp (pc' := 54) (tg := 66) rfl rfl rfl (fun q51 => ?_) (fun q51 => ?_)
          · refine xi_iconst (pc' := 67) rfl rfl ?_
            refine xi_goto (pc' := 71) rfl rfl ?_
            refine xi_istore (pc' := 73) rfl (st1_7 rfl) rfl ?_
            refine xi_iload (pc' := 75) rfl rfl rfl ?_
            refine xi_iff (pc' := 78) (tg := 122) rfl rfl (by decide) rfl ?_
            refine xi_iload_n (pc' := 79) rfl rfl rfl ?_
            refine xi_iconst (pc' := 80) rfl rfl ?_
            refine xx_icmp (pc' := 83) (tg := 94) rfl rfl rfl (fun q80 => ?_) (fun q80 => ?_)
            · refine xi_iload (pc' := 96) rfl rfl rfl ?_
              refine xi_iconst (pc' := 97) rfl rfl ?_
              refine xx_icmp (pc' := 100) (tg := 122) rfl rfl rfl (fun q97 => ?_) (fun q97 => ?_)
              · refine xi_iconst (pc' := 123) rfl rfl ?_
                refine xi_istore (pc' := 125) rfl (st1_7 rfl) rfl ?_
                exact k0 (by clear k0 k1; simp only [ex_P, Classical.not_not, bI_0, okMsg, vT, vS, isC, Int32.lt_iff_toInt_lt, Int32.le_iff_toInt_le, ← Int32.toInt_inj, toI, Nat.reduceLT, Int32.toInt_zero] at *; omega)
              · refine xi_iload (pc' := 102) rfl rfl rfl ?_
                refine xi_iconst (pc' := 103) rfl rfl ?_
                refine xx_icmp (pc' := 106) (tg := 122) rfl rfl rfl (fun q103 => ?_) (fun q103 => ?_)
                · refine xi_iconst (pc' := 123) rfl rfl ?_
                  refine xi_istore (pc' := 125) rfl (st1_7 rfl) rfl ?_
                  exact k0 (by clear k0 k1; simp only [ex_P, Classical.not_not, bI_0, okMsg, vT, vS, isC, Int32.lt_iff_toInt_lt, Int32.le_iff_toInt_le, ← Int32.toInt_inj, toI, Nat.reduceLT, Int32.toInt_zero] at *; omega)
                · refine xi_iload (pc' := 108) rfl rfl rfl ?_
                  refine xi_iconst (pc' := 109) rfl rfl ?_
                  refine xx_icmp (pc' := 112) (tg := 122) rfl rfl rfl (fun q109 => ?_) (fun q109 => ?_)
                  · refine xi_iconst (pc' := 123) rfl rfl ?_
                    refine xi_istore (pc' := 125) rfl (st1_7 rfl) rfl ?_
                    exact k0 (by clear k0 k1; simp only [ex_P, Classical.not_not, bI_0, okMsg, vT, vS, isC, Int32.lt_iff_toInt_lt, Int32.le_iff_toInt_le, ← Int32.toInt_inj, toI, Nat.reduceLT, Int32.toInt_zero] at *; omega)
                  · refine xi_iload (pc' := 114) rfl rfl rfl ?_
                    refine xi_iconst (pc' := 115) rfl rfl ?_
                    refine xx_icmp (pc' := 118) (tg := 122) rfl rfl rfl (fun q115 => ?_) (fun q115 => ?_)
                    · refine xi_iconst (pc' := 123) rfl rfl ?_
                      refine xi_istore (pc' := 125) rfl (st1_7 rfl) rfl ?_
                      exact k0 (by clear k0 k1; simp only [ex_P, Classical.not_not, bI_0, okMsg, vT, vS, isC, Int32.lt_iff_toInt_lt, Int32.le_iff_toInt_le, ← Int32.toInt_inj, toI, Nat.reduceLT, Int32.toInt_zero] at *; omega)
                    · refine xi_iconst (pc' := 119) rfl rfl ?_
                      refine xi_goto (pc' := 123) rfl rfl ?_
                      refine xi_istore (pc' := 125) rfl (st1_7 rfl) rfl ?_
                      exact k1 (by clear k0 k1; simp only [ex_P, Classical.not_not, bI_0, okMsg, vT, vS, isC, Int32.lt_iff_toInt_lt, Int32.le_iff_toInt_le, ← Int32.toInt_inj, toI, Nat.reduceLT, Int32.toInt_zero] at *; omega)
            · refine xi_iload (pc' := 85) rfl rfl rfl ?_
              refine xx_callSi (pc' := 88) rfl rfl (by decide) rfl (Nat.le_of_ble_eq_true rfl) rfl rfl (r_isCode0 hc) ?_
              refine xi_ift (pc' := 122) rfl rfl (by decide) ?_
              refine xi_iconst (pc' := 123) rfl rfl ?_
              refine xi_istore (pc' := 125) rfl (st1_7 rfl) rfl ?_
              exact k0 (by clear k0 k1; simp only [ex_P, Classical.not_not, bI_0, okMsg, vT, vS, isC, Int32.lt_iff_toInt_lt, Int32.le_iff_toInt_le, ← Int32.toInt_inj, toI, Nat.reduceLT, Int32.toInt_zero] at *; omega)
          · refine xi_iload_n (pc' := 55) rfl rfl rfl ?_
            refine xx_callSi (pc' := 58) rfl rfl (by decide) rfl (Nat.le_of_ble_eq_true rfl) rfl rfl (r_isTerminal1 hy) ?_
            refine xi_iff (pc' := 61) (tg := 70) rfl rfl (by decide) rfl ?_
            refine xi_iload_n (pc' := 62) rfl rfl rfl ?_
            refine xi_iload_n (pc' := 63) rfl rfl rfl ?_
            refine xx_icmp (pc' := 66) (tg := 70) rfl rfl rfl (fun q63 => ?_) (fun q63 => ?_)
            · refine xi_iconst (pc' := 71) rfl rfl ?_
              refine xi_istore (pc' := 73) rfl (st1_7 rfl) rfl ?_
              refine xi_iload (pc' := 75) rfl rfl rfl ?_
              refine xi_ift (pc' := 122) rfl rfl (by decide) ?_
              refine xi_iconst (pc' := 123) rfl rfl ?_
              refine xi_istore (pc' := 125) rfl (st1_7 rfl) rfl ?_
              exact k0 (by clear k0 k1; simp only [ex_P, Classical.not_not, bI_0, okMsg, vT, vS, isC, Int32.lt_iff_toInt_lt, Int32.le_iff_toInt_le, ← Int32.toInt_inj, toI, Nat.reduceLT, Int32.toInt_zero] at *; omega)
            · refine xi_iconst (pc' := 67) rfl rfl ?_
              refine xi_goto (pc' := 71) rfl rfl ?_
              refine xi_istore (pc' := 73) rfl (st1_7 rfl) rfl ?_
              refine xi_iload (pc' := 75) rfl rfl rfl ?_
              refine xi_iff (pc' := 78) (tg := 122) rfl rfl (by decide) rfl ?_
              refine xi_iload_n (pc' := 79) rfl rfl rfl ?_
              refine xi_iconst (pc' := 80) rfl rfl ?_
              refine xx_icmp (pc' := 83) (tg := 94) rfl rfl rfl (fun q80 => ?_) (fun q80 => ?_)
              · refine xi_iload (pc' := 96) rfl rfl rfl ?_
                refine xi_iconst (pc' := 97) rfl rfl ?_
                refine xx_icmp (pc' := 100) (tg := 122) rfl rfl rfl (fun q97 => ?_) (fun q97 => ?_)
                · refine xi_iconst (pc' := 123) rfl rfl ?_
                  refine xi_istore (pc' := 125) rfl (st1_7 rfl) rfl ?_
                  exact k0 (by clear k0 k1; simp only [ex_P, Classical.not_not, bI_0, okMsg, vT, vS, isC, Int32.lt_iff_toInt_lt, Int32.le_iff_toInt_le, ← Int32.toInt_inj, toI, Nat.reduceLT, Int32.toInt_zero] at *; omega)
                · refine xi_iload (pc' := 102) rfl rfl rfl ?_
                  refine xi_iconst (pc' := 103) rfl rfl ?_
                  refine xx_icmp (pc' := 106) (tg := 122) rfl rfl rfl (fun q103 => ?_) (fun q103 => ?_)
                  · refine xi_iconst (pc' := 123) rfl rfl ?_
                    refine xi_istore (pc' := 125) rfl (st1_7 rfl) rfl ?_
                    exact k0 (by clear k0 k1; simp only [ex_P, Classical.not_not, bI_0, okMsg, vT, vS, isC, Int32.lt_iff_toInt_lt, Int32.le_iff_toInt_le, ← Int32.toInt_inj, toI, Nat.reduceLT, Int32.toInt_zero] at *; omega)
                  · refine xi_iload (pc' := 108) rfl rfl rfl ?_
                    refine xi_iconst (pc' := 109) rfl rfl ?_
                    refine xx_icmp (pc' := 112) (tg := 122) rfl rfl rfl (fun q109 => ?_) (fun q109 => ?_)
                    · refine xi_iconst (pc' := 123) rfl rfl ?_
                      refine xi_istore (pc' := 125) rfl (st1_7 rfl) rfl ?_
                      exact k0 (by clear k0 k1; simp only [ex_P, Classical.not_not, bI_0, okMsg, vT, vS, isC, Int32.lt_iff_toInt_lt, Int32.le_iff_toInt_le, ← Int32.toInt_inj, toI, Nat.reduceLT, Int32.toInt_zero] at *; omega)
                    · refine xi_iload (pc' := 114) rfl rfl rfl ?_
                      refine xi_iconst (pc' := 115) rfl rfl ?_
                      refine xx_icmp (pc' := 118) (tg := 122) rfl rfl rfl (fun q115 => ?_) (fun q115 => ?_)
                      · refine xi_iconst (pc' := 123) rfl rfl ?_
                        refine xi_istore (pc' := 125) rfl (st1_7 rfl) rfl ?_
                        exact k0 (by clear k0 k1; simp only [ex_P, Classical.not_not, bI_0, okMsg, vT, vS, isC, Int32.lt_iff_toInt_lt, Int32.le_iff_toInt_le, ← Int32.toInt_inj, toI, Nat.reduceLT, Int32.toInt_zero] at *; omega)
                      · refine xi_iconst (pc' := 119) rfl rfl ?_
                        refine xi_goto (pc' := 123) rfl rfl ?_
                        refine xi_istore (pc' := 125) rfl (st1_7 rfl) rfl ?_
                        exact k1 (by clear k0 k1; simp only [ex_P, Classical.not_not, bI_0, okMsg, vT, vS, isC, Int32.lt_iff_toInt_lt, Int32.le_iff_toInt_le, ← Int32.toInt_inj, toI, Nat.reduceLT, Int32.toInt_zero] at *; omega)
              · refine xi_iload (pc' := 85) rfl rfl rfl ?_
                refine xx_callSi (pc' := 88) rfl rfl (by decide) rfl (Nat.le_of_ble_eq_true rfl) rfl rfl (r_isCode0 hc) ?_
                refine xi_ift (pc' := 122) rfl rfl (by decide) ?_
                refine xi_iconst (pc' := 123) rfl rfl ?_
                refine xi_istore (pc' := 125) rfl (st1_7 rfl) rfl ?_
                exact k0 (by clear k0 k1; simp only [ex_P, Classical.not_not, bI_0, okMsg, vT, vS, isC, Int32.lt_iff_toInt_lt, Int32.le_iff_toInt_le, ← Int32.toInt_inj, toI, Nat.reduceLT, Int32.toInt_zero] at *; omega)
      · refine xi_iload (pc' := 27) rfl rfl rfl ?_
        refine xi_iconst (pc' := 28) rfl rfl ?_
        refine xx_icmp (pc' := 31) (tg := 37) rfl rfl rfl (fun q28 => ?_) (fun q28 => ?_)
        · refine xi_iload_n (pc' := 38) rfl rfl rfl ?_
          refine xi_iconst (pc' := 39) rfl rfl ?_
          refine xx_icmp (pc' := 42) (tg := 49) rfl rfl rfl (fun q39 => ?_) (fun q39 => ?_)
          · refine xi_iload_n (pc' := 50) rfl rfl rfl ?_
            refine xi_iconst (pc' := 51) rfl rfl ?_
            refine xx_icmp (pc' := 54) (tg := 66) rfl rfl rfl (fun q51 => ?_) (fun q51 => ?_)
            · refine xi_iconst (pc' := 67) rfl rfl ?_
              refine xi_goto (pc' := 71) rfl rfl ?_
              refine xi_istore (pc' := 73) rfl (st1_7 rfl) rfl ?_
              refine xi_iload (pc' := 75) rfl rfl rfl ?_
              refine xi_iff (pc' := 78) (tg := 122) rfl rfl (by decide) rfl ?_
              refine xi_iload_n (pc' := 79) rfl rfl rfl ?_
              refine xi_iconst (pc' := 80) rfl rfl ?_
              refine xx_icmp (pc' := 83) (tg := 94) rfl rfl rfl (fun q80 => ?_) (fun q80 => ?_)
              · refine xi_iload (pc' := 96) rfl rfl rfl ?_
                refine xi_iconst (pc' := 97) rfl rfl ?_
                refine xx_icmp (pc' := 100) (tg := 122) rfl rfl rfl (fun q97 => ?_) (fun q97 => ?_)
                · refine xi_iconst (pc' := 123) rfl rfl ?_
                  refine xi_istore (pc' := 125) rfl (st1_7 rfl) rfl ?_
                  exact k0 (by clear k0 k1; simp only [ex_P, Classical.not_not, bI_0, okMsg, vT, vS, isC, Int32.lt_iff_toInt_lt, Int32.le_iff_toInt_le, ← Int32.toInt_inj, toI, Nat.reduceLT, Int32.toInt_zero] at *; omega)
                · refine xi_iload (pc' := 102) rfl rfl rfl ?_
                  refine xi_iconst (pc' := 103) rfl rfl ?_
                  refine xx_icmp (pc' := 106) (tg := 122) rfl rfl rfl (fun q103 => ?_) (fun q103 => ?_)
                  · refine xi_iconst (pc' := 123) rfl rfl ?_
                    refine xi_istore (pc' := 125) rfl (st1_7 rfl) rfl ?_
                    exact k0 (by clear k0 k1; simp only [ex_P, Classical.not_not, bI_0, okMsg, vT, vS, isC, Int32.lt_iff_toInt_lt, Int32.le_iff_toInt_le, ← Int32.toInt_inj, toI, Nat.reduceLT, Int32.toInt_zero] at *; omega)
                  · refine xi_iload (pc' := 108) rfl rfl rfl ?_
                    refine xi_iconst (pc' := 109) rfl rfl ?_
                    refine xx_icmp (pc' := 112) (tg := 122) rfl rfl rfl (fun q109 => ?_) (fun q109 => ?_)
                    · refine xi_iconst (pc' := 123) rfl rfl ?_
                      refine xi_istore (pc' := 125) rfl (st1_7 rfl) rfl ?_
                      exact k0 (by clear k0 k1; simp only [ex_P, Classical.not_not, bI_0, okMsg, vT, vS, isC, Int32.lt_iff_toInt_lt, Int32.le_iff_toInt_le, ← Int32.toInt_inj, toI, Nat.reduceLT, Int32.toInt_zero] at *; omega)
                    · refine xi_iload (pc' := 114) rfl rfl rfl ?_
                      refine xi_iconst (pc' := 115) rfl rfl ?_
                      refine xx_icmp (pc' := 118) (tg := 122) rfl rfl rfl (fun q115 => ?_) (fun q115 => ?_)
                      · refine xi_iconst (pc' := 123) rfl rfl ?_
                        refine xi_istore (pc' := 125) rfl (st1_7 rfl) rfl ?_
                        exact k0 (by clear k0 k1; simp only [ex_P, Classical.not_not, bI_0, okMsg, vT, vS, isC, Int32.lt_iff_toInt_lt, Int32.le_iff_toInt_le, ← Int32.toInt_inj, toI, Nat.reduceLT, Int32.toInt_zero] at *; omega)
                      · refine xi_iconst (pc' := 119) rfl rfl ?_
                        refine xi_goto (pc' := 123) rfl rfl ?_
                        refine xi_istore (pc' := 125) rfl (st1_7 rfl) rfl ?_
                        exact k1 (by clear k0 k1; simp only [ex_P, Classical.not_not, bI_0, okMsg, vT, vS, isC, Int32.lt_iff_toInt_lt, Int32.le_iff_toInt_le, ← Int32.toInt_inj, toI, Nat.reduceLT, Int32.toInt_zero] at *; omega)
              · refine xi_iload (pc' := 85) rfl rfl rfl ?_
                refine xx_callSi (pc' := 88) rfl rfl (by decide) rfl (Nat.le_of_ble_eq_true rfl) rfl rfl (r_isCode0 hc) ?_
                refine xi_ift (pc' := 122) rfl rfl (by decide) ?_
                refine xi_iconst (pc' := 123) rfl rfl ?_
                refine xi_istore (pc' := 125) rfl (st1_7 rfl) rfl ?_
                exact k0 (by clear k0 k1; simp only [ex_P, Classical.not_not, bI_0, okMsg, vT, vS, isC, Int32.lt_iff_toInt_lt, Int32.le_iff_toInt_le, ← Int32.toInt_inj, toI, Nat.reduceLT, Int32.toInt_zero] at *; omega)
            · refine xi_iload_n (pc' := 55) rfl rfl rfl ?_
              refine xx_callSi (pc' := 58) rfl rfl (by decide) rfl (Nat.le_of_ble_eq_true rfl) rfl rfl (r_isTerminal1 hy) ?_
              refine xi_iff (pc' := 61) (tg := 70) rfl rfl (by decide) rfl ?_
              refine xi_iload_n (pc' := 62) rfl rfl rfl ?_
              refine xi_iload_n (pc' := 63) rfl rfl rfl ?_
              refine xx_icmp (pc' := 66) (tg := 70) rfl rfl rfl (fun q63 => ?_) (fun q63 => ?_)
              · refine xi_iconst (pc' := 71) rfl rfl ?_
                refine xi_istore (pc' := 73) rfl (st1_7 rfl) rfl ?_
                refine xi_iload (pc' := 75) rfl rfl rfl ?_
                refine xi_ift (pc' := 122) rfl rfl (by decide) ?_
                refine xi_iconst (pc' := 123) rfl rfl ?_
                refine xi_istore (pc' := 125) rfl (st1_7 rfl) rfl ?_
                exact k0 (by clear k0 k1; simp only [ex_P, Classical.not_not, bI_0, okMsg, vT, vS, isC, Int32.lt_iff_toInt_lt, Int32.le_iff_toInt_le, ← Int32.toInt_inj, toI, Nat.reduceLT, Int32.toInt_zero] at *; omega)
              · refine xi_iconst (pc' := 67) rfl rfl ?_
                refine xi_goto (pc' := 71) rfl rfl ?_
                refine xi_istore (pc' := 73) rfl (st1_7 rfl) rfl ?_
                refine xi_iload (pc' := 75) rfl rfl rfl ?_
                refine xi_iff (pc' := 78) (tg := 122) rfl rfl (by decide) rfl ?_
                refine xi_iload_n (pc' := 79) rfl rfl rfl ?_
                refine xi_iconst (pc' := 80) rfl rfl ?_
                refine xx_icmp (pc' := 83) (tg := 94) rfl rfl rfl (fun q80 => ?_) (fun q80 => ?_)
                · refine xi_iload (pc' := 96) rfl rfl rfl ?_
                  refine xi_iconst (pc' := 97) rfl rfl ?_
                  refine xx_icmp (pc' := 100) (tg := 122) rfl rfl rfl (fun q97 => ?_) (fun q97 => ?_)
                  · refine xi_iconst (pc' := 123) rfl rfl ?_
                    refine xi_istore (pc' := 125) rfl (st1_7 rfl) rfl ?_
                    exact k0 (by clear k0 k1; simp only [ex_P, Classical.not_not, bI_0, okMsg, vT, vS, isC, Int32.lt_iff_toInt_lt, Int32.le_iff_toInt_le, ← Int32.toInt_inj, toI, Nat.reduceLT, Int32.toInt_zero] at *; omega)
                  · refine xi_iload (pc' := 102) rfl rfl rfl ?_
                    refine xi_iconst (pc' := 103) rfl rfl ?_
                    refine xx_icmp (pc' := 106) (tg := 122) rfl rfl rfl (fun q103 => ?_) (fun q103 => ?_)
                    · refine xi_iconst (pc' := 123) rfl rfl ?_
                      refine xi_istore (pc' := 125) rfl (st1_7 rfl) rfl ?_
                      exact k0 (by clear k0 k1; simp only [ex_P, Classical.not_not, bI_0, okMsg, vT, vS, isC, Int32.lt_iff_toInt_lt, Int32.le_iff_toInt_le, ← Int32.toInt_inj, toI, Nat.reduceLT, Int32.toInt_zero] at *; omega)
                    · refine xi_iload (pc' := 108) rfl rfl rfl ?_
                      refine xi_iconst (pc' := 109) rfl rfl ?_
                      refine xx_icmp (pc' := 112) (tg := 122) rfl rfl rfl (fun q109 => ?_) (fun q109 => ?_)
                      · refine xi_iconst (pc' := 123) rfl rfl ?_
                        refine xi_istore (pc' := 125) rfl (st1_7 rfl) rfl ?_
                        exact k0 (by clear k0 k1; simp only [ex_P, Classical.not_not, bI_0, okMsg, vT, vS, isC, Int32.lt_iff_toInt_lt, Int32.le_iff_toInt_le, ← Int32.toInt_inj, toI, Nat.reduceLT, Int32.toInt_zero] at *; omega)
                      · refine xi_iload (pc' := 114) rfl rfl rfl ?_
                        refine xi_iconst (pc' := 115) rfl rfl ?_
                        refine xx_icmp (pc' := 118) (tg := 122) rfl rfl rfl (fun q115 => ?_) (fun q115 => ?_)
                        · refine xi_iconst (pc' := 123) rfl rfl ?_
                          refine xi_istore (pc' := 125) rfl (st1_7 rfl) rfl ?_
                          exact k0 (by clear k0 k1; simp only [ex_P, Classical.not_not, bI_0, okMsg, vT, vS, isC, Int32.lt_iff_toInt_lt, Int32.le_iff_toInt_le, ← Int32.toInt_inj, toI, Nat.reduceLT, Int32.toInt_zero] at *; omega)
                        · refine xi_iconst (pc' := 119) rfl rfl ?_
                          refine xi_goto (pc' := 123) rfl rfl ?_
                          refine xi_istore (pc' := 125) rfl (st1_7 rfl) rfl ?_
                          exact k1 (by clear k0 k1; simp only [ex_P, Classical.not_not, bI_0, okMsg, vT, vS, isC, Int32.lt_iff_toInt_lt, Int32.le_iff_toInt_le, ← Int32.toInt_inj, toI, Nat.reduceLT, Int32.toInt_zero] at *; omega)
                · refine xi_iload (pc' := 85) rfl rfl rfl ?_
                  refine xx_callSi (pc' := 88) rfl rfl (by decide) rfl (Nat.le_of_ble_eq_true rfl) rfl rfl (r_isCode0 hc) ?_
                  refine xi_ift (pc' := 122) rfl rfl (by decide) ?_
                  refine xi_iconst (pc' := 123) rfl rfl ?_
                  refine xi_istore (pc' := 125) rfl (st1_7 rfl) rfl ?_
                  exact k0 (by clear k0 k1; simp only [ex_P, Classical.not_not, bI_0, okMsg, vT, vS, isC, Int32.lt_iff_toInt_lt, Int32.le_iff_toInt_le, ← Int32.toInt_inj, toI, Nat.reduceLT, Int32.toInt_zero] at *; omega)
          · refine xi_iload_n (pc' := 43) rfl rfl rfl ?_
            refine xx_callSi (pc' := 46) rfl rfl (by decide) rfl (Nat.le_of_ble_eq_true rfl) rfl rfl (r_isTerminal1 hx) ?_
            refine xi_iff (pc' := 49) (tg := 70) rfl rfl (by decide) rfl ?_
            refine xi_iload_n (pc' := 50) rfl rfl rfl ?_
            refine xi_iconst (pc' := 51) rfl rfl ?_
            refine xx_icmp (pc' := 54) (tg := 66) rfl rfl rfl (fun q51 => ?_) (fun q51 => ?_)
            · refine xi_iconst (pc' := 67) rfl rfl ?_
              refine xi_goto (pc' := 71) rfl rfl ?_
              refine xi_istore (pc' := 73) rfl (st1_7 rfl) rfl ?_
              refine xi_iload (pc' := 75) rfl rfl rfl ?_
              refine xi_iff (pc' := 78) (tg := 122) rfl rfl (by decide) rfl ?_
              refine xi_iload_n (pc' := 79) rfl rfl rfl ?_
              refine xi_iconst (pc' := 80) rfl rfl ?_
              refine xx_icmp (pc' := 83) (tg := 94) rfl rfl rfl (fun q80 => ?_) (fun q80 => ?_)
              · refine xi_iload (pc' := 96) rfl rfl rfl ?_
                refine xi_iconst (pc' := 97) rfl rfl ?_
                refine xx_icmp (pc' := 100) (tg := 122) rfl rfl rfl (fun q97 => ?_) (fun q97 => ?_)
                · refine xi_iconst (pc' := 123) rfl rfl ?_
                  refine xi_istore (pc' := 125) rfl (st1_7 rfl) rfl ?_
                  exact k0 (by clear k0 k1; simp only [ex_P, Classical.not_not, bI_0, okMsg, vT, vS, isC, Int32.lt_iff_toInt_lt, Int32.le_iff_toInt_le, ← Int32.toInt_inj, toI, Nat.reduceLT, Int32.toInt_zero] at *; omega)
                · refine xi_iload (pc' := 102) rfl rfl rfl ?_
                  refine xi_iconst (pc' := 103) rfl rfl ?_
                  refine xx_icmp (pc' := 106) (tg := 122) rfl rfl rfl (fun q103 => ?_) (fun q103 => ?_)
                  · refine xi_iconst (pc' := 123) rfl rfl ?_
                    refine xi_istore (pc' := 125) rfl (st1_7 rfl) rfl ?_
                    exact k0 (by clear k0 k1; simp only [ex_P, Classical.not_not, bI_0, okMsg, vT, vS, isC, Int32.lt_iff_toInt_lt, Int32.le_iff_toInt_le, ← Int32.toInt_inj, toI, Nat.reduceLT, Int32.toInt_zero] at *; omega)
                  · refine xi_iload (pc' := 108) rfl rfl rfl ?_
                    refine xi_iconst (pc' := 109) rfl rfl ?_
                    refine xx_icmp (pc' := 112) (tg := 122) rfl rfl rfl (fun q109 => ?_) (fun q109 => ?_)
                    · refine xi_iconst (pc' := 123) rfl rfl ?_
                      refine xi_istore (pc' := 125) rfl (st1_7 rfl) rfl ?_
                      exact k0 (by clear k0 k1; simp only [ex_P, Classical.not_not, bI_0, okMsg, vT, vS, isC, Int32.lt_iff_toInt_lt, Int32.le_iff_toInt_le, ← Int32.toInt_inj, toI, Nat.reduceLT, Int32.toInt_zero] at *; omega)
                    · refine xi_iload (pc' := 114) rfl rfl rfl ?_
                      refine xi_iconst (pc' := 115) rfl rfl ?_
                      refine xx_icmp (pc' := 118) (tg := 122) rfl rfl rfl (fun q115 => ?_) (fun q115 => ?_)
                      · refine xi_iconst (pc' := 123) rfl rfl ?_
                        refine xi_istore (pc' := 125) rfl (st1_7 rfl) rfl ?_
                        exact k0 (by clear k0 k1; simp only [ex_P, Classical.not_not, bI_0, okMsg, vT, vS, isC, Int32.lt_iff_toInt_lt, Int32.le_iff_toInt_le, ← Int32.toInt_inj, toI, Nat.reduceLT, Int32.toInt_zero] at *; omega)
                      · refine xi_iconst (pc' := 119) rfl rfl ?_
                        refine xi_goto (pc' := 123) rfl rfl ?_
                        refine xi_istore (pc' := 125) rfl (st1_7 rfl) rfl ?_
                        exact k1 (by clear k0 k1; simp only [ex_P, Classical.not_not, bI_0, okMsg, vT, vS, isC, Int32.lt_iff_toInt_lt, Int32.le_iff_toInt_le, ← Int32.toInt_inj, toI, Nat.reduceLT, Int32.toInt_zero] at *; omega)
              · refine xi_iload (pc' := 85) rfl rfl rfl ?_
                refine xx_callSi (pc' := 88) rfl rfl (by decide) rfl (Nat.le_of_ble_eq_true rfl) rfl rfl (r_isCode0 hc) ?_
                refine xi_ift (pc' := 122) rfl rfl (by decide) ?_
                refine xi_iconst (pc' := 123) rfl rfl ?_
                refine xi_istore (pc' := 125) rfl (st1_7 rfl) rfl ?_
                exact k0 (by clear k0 k1; simp only [ex_P, Classical.not_not, bI_0, okMsg, vT, vS, isC, Int32.lt_iff_toInt_lt, Int32.le_iff_toInt_le, ← Int32.toInt_inj, toI, Nat.reduceLT, Int32.toInt_zero] at *; omega)
            · refine xi_iload_n (pc' := 55) rfl rfl rfl ?_
              refine xx_callSi (pc' := 58) rfl rfl (by decide) rfl (Nat.le_of_ble_eq_true rfl) rfl rfl (r_isTerminal1 hy) ?_
              refine xi_iff (pc' := 61) (tg := 70) rfl rfl (by decide) rfl ?_
              refine xi_iload_n (pc' := 62) rfl rfl rfl ?_
              refine xi_iload_n (pc' := 63) rfl rfl rfl ?_
              refine xx_icmp (pc' := 66) (tg := 70) rfl rfl rfl (fun q63 => ?_) (fun q63 => ?_)
              · refine xi_iconst (pc' := 71) rfl rfl ?_
                refine xi_istore (pc' := 73) rfl (st1_7 rfl) rfl ?_
                refine xi_iload (pc' := 75) rfl rfl rfl ?_
                refine xi_ift (pc' := 122) rfl rfl (by decide) ?_
                refine xi_iconst (pc' := 123) rfl rfl ?_
                refine xi_istore (pc' := 125) rfl (st1_7 rfl) rfl ?_
                exact k0 (by clear k0 k1; simp only [ex_P, Classical.not_not, bI_0, okMsg, vT, vS, isC, Int32.lt_iff_toInt_lt, Int32.le_iff_toInt_le, ← Int32.toInt_inj, toI, Nat.reduceLT, Int32.toInt_zero] at *; omega)
              · refine xi_iconst (pc' := 67) rfl rfl ?_
                refine xi_goto (pc' := 71) rfl rfl ?_
                refine xi_istore (pc' := 73) rfl (st1_7 rfl) rfl ?_
                refine xi_iload (pc' := 75) rfl rfl rfl ?_
                refine xi_iff (pc' := 78) (tg := 122) rfl rfl (by decide) rfl ?_
                refine xi_iload_n (pc' := 79) rfl rfl rfl ?_
                refine xi_iconst (pc' := 80) rfl rfl ?_
                refine xx_icmp (pc' := 83) (tg := 94) rfl rfl rfl (fun q80 => ?_) (fun q80 => ?_)
                · refine xi_iload (pc' := 96) rfl rfl rfl ?_
                  refine xi_iconst (pc' := 97) rfl rfl ?_
                  refine xx_icmp (pc' := 100) (tg := 122) rfl rfl rfl (fun q97 => ?_) (fun q97 => ?_)
                  · refine xi_iconst (pc' := 123) rfl rfl ?_
                    refine xi_istore (pc' := 125) rfl (st1_7 rfl) rfl ?_
                    exact k0 (by clear k0 k1; simp only [ex_P, Classical.not_not, bI_0, okMsg, vT, vS, isC, Int32.lt_iff_toInt_lt, Int32.le_iff_toInt_le, ← Int32.toInt_inj, toI, Nat.reduceLT, Int32.toInt_zero] at *; omega)
                  · refine xi_iload (pc' := 102) rfl rfl rfl ?_
                    refine xi_iconst (pc' := 103) rfl rfl ?_
                    refine xx_icmp (pc' := 106) (tg := 122) rfl rfl rfl (fun q103 => ?_) (fun q103 => ?_)
                    · refine xi_iconst (pc' := 123) rfl rfl ?_
                      refine xi_istore (pc' := 125) rfl (st1_7 rfl) rfl ?_
                      exact k0 (by clear k0 k1; simp only [ex_P, Classical.not_not, bI_0, okMsg, vT, vS, isC, Int32.lt_iff_toInt_lt, Int32.le_iff_toInt_le, ← Int32.toInt_inj, toI, Nat.reduceLT, Int32.toInt_zero] at *; omega)
                    · refine xi_iload (pc' := 108) rfl rfl rfl ?_
                      refine xi_iconst (pc' := 109) rfl rfl ?_
                      refine xx_icmp (pc' := 112) (tg := 122) rfl rfl rfl (fun q109 => ?_) (fun q109 => ?_)
                      · refine xi_iconst (pc' := 123) rfl rfl ?_
                        refine xi_istore (pc' := 125) rfl (st1_7 rfl) rfl ?_
                        exact k0 (by clear k0 k1; simp only [ex_P, Classical.not_not, bI_0, okMsg, vT, vS, isC, Int32.lt_iff_toInt_lt, Int32.le_iff_toInt_le, ← Int32.toInt_inj, toI, Nat.reduceLT, Int32.toInt_zero] at *; omega)
                      · refine xi_iload (pc' := 114) rfl rfl rfl ?_
                        refine xi_iconst (pc' := 115) rfl rfl ?_
                        refine xx_icmp (pc' := 118) (tg := 122) rfl rfl rfl (fun q115 => ?_) (fun q115 => ?_)
                        · refine xi_iconst (pc' := 123) rfl rfl ?_
                          refine xi_istore (pc' := 125) rfl (st1_7 rfl) rfl ?_
                          exact k0 (by clear k0 k1; simp only [ex_P, Classical.not_not, bI_0, okMsg, vT, vS, isC, Int32.lt_iff_toInt_lt, Int32.le_iff_toInt_le, ← Int32.toInt_inj, toI, Nat.reduceLT, Int32.toInt_zero] at *; omega)
                        · refine xi_iconst (pc' := 119) rfl rfl ?_
                          refine xi_goto (pc' := 123) rfl rfl ?_
                          refine xi_istore (pc' := 125) rfl (st1_7 rfl) rfl ?_
                          exact k1 (by clear k0 k1; simp only [ex_P, Classical.not_not, bI_0, okMsg, vT, vS, isC, Int32.lt_iff_toInt_lt, Int32.le_iff_toInt_le, ← Int32.toInt_inj, toI, Nat.reduceLT, Int32.toInt_zero] at *; omega)
                · refine xi_iload (pc' := 85) rfl rfl rfl ?_
                  refine xx_callSi (pc' := 88) rfl rfl (by decide) rfl (Nat.le_of_ble_eq_true rfl) rfl rfl (r_isCode0 hc) ?_
                  refine xi_ift (pc' := 122) rfl rfl (by decide) ?_
                  refine xi_iconst (pc' := 123) rfl rfl ?_
                  refine xi_istore (pc' := 125) rfl (st1_7 rfl) rfl ?_
                  exact k0 (by clear k0 k1; simp only [ex_P, Classical.not_not, bI_0, okMsg, vT, vS, isC, Int32.lt_iff_toInt_lt, Int32.le_iff_toInt_le, ← Int32.toInt_inj, toI, Nat.reduceLT, Int32.toInt_zero] at *; omega)
        · refine xi_iload (pc' := 33) rfl rfl rfl ?_
          refine xi_iconst (pc' := 34) rfl rfl ?_
          refine xx_icmp (pc' := 37) (tg := 70) rfl rfl rfl (fun q34 => ?_) (fun q34 => ?_)
          · refine xi_iconst (pc' := 71) rfl rfl ?_
            refine xi_istore (pc' := 73) rfl (st1_7 rfl) rfl ?_
            refine xi_iload (pc' := 75) rfl rfl rfl ?_
            refine xi_ift (pc' := 122) rfl rfl (by decide) ?_
            refine xi_iconst (pc' := 123) rfl rfl ?_
            refine xi_istore (pc' := 125) rfl (st1_7 rfl) rfl ?_
            exact k0 (by clear k0 k1; simp only [ex_P, Classical.not_not, bI_0, okMsg, vT, vS, isC, Int32.lt_iff_toInt_lt, Int32.le_iff_toInt_le, ← Int32.toInt_inj, toI, Nat.reduceLT, Int32.toInt_zero] at *; omega)
          · refine xi_iload_n (pc' := 38) rfl rfl rfl ?_
            refine xi_iconst (pc' := 39) rfl rfl ?_
            refine xx_icmp (pc' := 42) (tg := 49) rfl rfl rfl (fun q39 => ?_) (fun q39 => ?_)
            · refine xi_iload_n (pc' := 50) rfl rfl rfl ?_
              refine xi_iconst (pc' := 51) rfl rfl ?_
              refine xx_icmp (pc' := 54) (tg := 66) rfl rfl rfl (fun q51 => ?_) (fun q51 => ?_)
              · refine xi_iconst (pc' := 67) rfl rfl ?_
                refine xi_goto (pc' := 71) rfl rfl ?_
                refine xi_istore (pc' := 73) rfl (st1_7 rfl) rfl ?_
                refine xi_iload (pc' := 75) rfl rfl rfl ?_
                refine xi_iff (pc' := 78) (tg := 122) rfl rfl (by decide) rfl ?_
                refine xi_iload_n (pc' := 79) rfl rfl rfl ?_
                refine xi_iconst (pc' := 80) rfl rfl ?_
                refine xx_icmp (pc' := 83) (tg := 94) rfl rfl rfl (fun q80 => ?_) (fun q80 => ?_)
                · refine xi_iload (pc' := 96) rfl rfl rfl ?_
                  refine xi_iconst (pc' := 97) rfl rfl ?_
                  refine xx_icmp (pc' := 100) (tg := 122) rfl rfl rfl (fun q97 => ?_) (fun q97 => ?_)
                  · refine xi_iconst (pc' := 123) rfl rfl ?_
                    refine xi_istore (pc' := 125) rfl (st1_7 rfl) rfl ?_
                    exact k0 (by clear k0 k1; simp only [ex_P, Classical.not_not, bI_0, okMsg, vT, vS, isC, Int32.lt_iff_toInt_lt, Int32.le_iff_toInt_le, ← Int32.toInt_inj, toI, Nat.reduceLT, Int32.toInt_zero] at *; omega)
                  · refine xi_iload (pc' := 102) rfl rfl rfl ?_
                    refine xi_iconst (pc' := 103) rfl rfl ?_
                    refine xx_icmp (pc' := 106) (tg := 122) rfl rfl rfl (fun q103 => ?_) (fun q103 => ?_)
                    · refine xi_iconst (pc' := 123) rfl rfl ?_
                      refine xi_istore (pc' := 125) rfl (st1_7 rfl) rfl ?_
                      exact k0 (by clear k0 k1; simp only [ex_P, Classical.not_not, bI_0, okMsg, vT, vS, isC, Int32.lt_iff_toInt_lt, Int32.le_iff_toInt_le, ← Int32.toInt_inj, toI, Nat.reduceLT, Int32.toInt_zero] at *; omega)
                    · refine xi_iload (pc' := 108) rfl rfl rfl ?_
                      refine xi_iconst (pc' := 109) rfl rfl ?_
                      refine xx_icmp (pc' := 112) (tg := 122) rfl rfl rfl (fun q109 => ?_) (fun q109 => ?_)
                      · refine xi_iconst (pc' := 123) rfl rfl ?_
                        refine xi_istore (pc' := 125) rfl (st1_7 rfl) rfl ?_
                        exact k0 (by clear k0 k1; simp only [ex_P, Classical.not_not, bI_0, okMsg, vT, vS, isC, Int32.lt_iff_toInt_lt, Int32.le_iff_toInt_le, ← Int32.toInt_inj, toI, Nat.reduceLT, Int32.toInt_zero] at *; omega)
                      · refine xi_iload (pc' := 114) rfl rfl rfl ?_
                        refine xi_iconst (pc' := 115) rfl rfl ?_
                        refine xx_icmp (pc' := 118) (tg := 122) rfl rfl rfl (fun q115 => ?_) (fun q115 => ?_)
                        · refine xi_iconst (pc' := 123) rfl rfl ?_
                          refine xi_istore (pc' := 125) rfl (st1_7 rfl) rfl ?_
                          exact k0 (by clear k0 k1; simp only [ex_P, Classical.not_not, bI_0, okMsg, vT, vS, isC, Int32.lt_iff_toInt_lt, Int32.le_iff_toInt_le, ← Int32.toInt_inj, toI, Nat.reduceLT, Int32.toInt_zero] at *; omega)
                        · refine xi_iconst (pc' := 119) rfl rfl ?_
                          refine xi_goto (pc' := 123) rfl rfl ?_
                          refine xi_istore (pc' := 125) rfl (st1_7 rfl) rfl ?_
                          exact k1 (by clear k0 k1; simp only [ex_P, Classical.not_not, bI_0, okMsg, vT, vS, isC, Int32.lt_iff_toInt_lt, Int32.le_iff_toInt_le, ← Int32.toInt_inj, toI, Nat.reduceLT, Int32.toInt_zero] at *; omega)
                · refine xi_iload (pc' := 85) rfl rfl rfl ?_
                  refine xx_callSi (pc' := 88) rfl rfl (by decide) rfl (Nat.le_of_ble_eq_true rfl) rfl rfl (r_isCode0 hc) ?_
                  refine xi_ift (pc' := 122) rfl rfl (by decide) ?_
                  refine xi_iconst (pc' := 123) rfl rfl ?_
                  refine xi_istore (pc' := 125) rfl (st1_7 rfl) rfl ?_
                  exact k0 (by clear k0 k1; simp only [ex_P, Classical.not_not, bI_0, okMsg, vT, vS, isC, Int32.lt_iff_toInt_lt, Int32.le_iff_toInt_le, ← Int32.toInt_inj, toI, Nat.reduceLT, Int32.toInt_zero] at *; omega)
              · refine xi_iload_n (pc' := 55) rfl rfl rfl ?_
                refine xx_callSi (pc' := 58) rfl rfl (by decide) rfl (Nat.le_of_ble_eq_true rfl) rfl rfl (r_isTerminal1 hy) ?_
                refine xi_iff (pc' := 61) (tg := 70) rfl rfl (by decide) rfl ?_
                refine xi_iload_n (pc' := 62) rfl rfl rfl ?_
                refine xi_iload_n (pc' := 63) rfl rfl rfl ?_
                refine xx_icmp (pc' := 66) (tg := 70) rfl rfl rfl (fun q63 => ?_) (fun q63 => ?_)
                · refine xi_iconst (pc' := 71) rfl rfl ?_
                  refine xi_istore (pc' := 73) rfl (st1_7 rfl) rfl ?_
                  refine xi_iload (pc' := 75) rfl rfl rfl ?_
                  refine xi_ift (pc' := 122) rfl rfl (by decide) ?_
                  refine xi_iconst (pc' := 123) rfl rfl ?_
                  refine xi_istore (pc' := 125) rfl (st1_7 rfl) rfl ?_
                  exact k0 (by clear k0 k1; simp only [ex_P, Classical.not_not, bI_0, okMsg, vT, vS, isC, Int32.lt_iff_toInt_lt, Int32.le_iff_toInt_le, ← Int32.toInt_inj, toI, Nat.reduceLT, Int32.toInt_zero] at *; omega)
                · refine xi_iconst (pc' := 67) rfl rfl ?_
                  refine xi_goto (pc' := 71) rfl rfl ?_
                  refine xi_istore (pc' := 73) rfl (st1_7 rfl) rfl ?_
                  refine xi_iload (pc' := 75) rfl rfl rfl ?_
                  refine xi_iff (pc' := 78) (tg := 122) rfl rfl (by decide) rfl ?_
                  refine xi_iload_n (pc' := 79) rfl rfl rfl ?_
                  refine xi_iconst (pc' := 80) rfl rfl ?_
                  refine xx_icmp (pc' := 83) (tg := 94) rfl rfl rfl (fun q80 => ?_) (fun q80 => ?_)
                  · refine xi_iload (pc' := 96) rfl rfl rfl ?_
                    refine xi_iconst (pc' := 97) rfl rfl ?_
                    refine xx_icmp (pc' := 100) (tg := 122) rfl rfl rfl (fun q97 => ?_) (fun q97 => ?_)
                    · refine xi_iconst (pc' := 123) rfl rfl ?_
                      refine xi_istore (pc' := 125) rfl (st1_7 rfl) rfl ?_
                      exact k0 (by clear k0 k1; simp only [ex_P, Classical.not_not, bI_0, okMsg, vT, vS, isC, Int32.lt_iff_toInt_lt, Int32.le_iff_toInt_le, ← Int32.toInt_inj, toI, Nat.reduceLT, Int32.toInt_zero] at *; omega)
                    · refine xi_iload (pc' := 102) rfl rfl rfl ?_
                      refine xi_iconst (pc' := 103) rfl rfl ?_
                      refine xx_icmp (pc' := 106) (tg := 122) rfl rfl rfl (fun q103 => ?_) (fun q103 => ?_)
                      · refine xi_iconst (pc' := 123) rfl rfl ?_
                        refine xi_istore (pc' := 125) rfl (st1_7 rfl) rfl ?_
                        exact k0 (by clear k0 k1; simp only [ex_P, Classical.not_not, bI_0, okMsg, vT, vS, isC, Int32.lt_iff_toInt_lt, Int32.le_iff_toInt_le, ← Int32.toInt_inj, toI, Nat.reduceLT, Int32.toInt_zero] at *; omega)
                      · refine xi_iload (pc' := 108) rfl rfl rfl ?_
                        refine xi_iconst (pc' := 109) rfl rfl ?_
                        refine xx_icmp (pc' := 112) (tg := 122) rfl rfl rfl (fun q109 => ?_) (fun q109 => ?_)
                        · refine xi_iconst (pc' := 123) rfl rfl ?_
                          refine xi_istore (pc' := 125) rfl (st1_7 rfl) rfl ?_
                          exact k0 (by clear k0 k1; simp only [ex_P, Classical.not_not, bI_0, okMsg, vT, vS, isC, Int32.lt_iff_toInt_lt, Int32.le_iff_toInt_le, ← Int32.toInt_inj, toI, Nat.reduceLT, Int32.toInt_zero] at *; omega)
                        · refine xi_iload (pc' := 114) rfl rfl rfl ?_
                          refine xi_iconst (pc' := 115) rfl rfl ?_
                          refine xx_icmp (pc' := 118) (tg := 122) rfl rfl rfl (fun q115 => ?_) (fun q115 => ?_)
                          · refine xi_iconst (pc' := 123) rfl rfl ?_
                            refine xi_istore (pc' := 125) rfl (st1_7 rfl) rfl ?_
                            exact k0 (by clear k0 k1; simp only [ex_P, Classical.not_not, bI_0, okMsg, vT, vS, isC, Int32.lt_iff_toInt_lt, Int32.le_iff_toInt_le, ← Int32.toInt_inj, toI, Nat.reduceLT, Int32.toInt_zero] at *; omega)
                          · refine xi_iconst (pc' := 119) rfl rfl ?_
                            refine xi_goto (pc' := 123) rfl rfl ?_
                            refine xi_istore (pc' := 125) rfl (st1_7 rfl) rfl ?_
                            exact k1 (by clear k0 k1; simp only [ex_P, Classical.not_not, bI_0, okMsg, vT, vS, isC, Int32.lt_iff_toInt_lt, Int32.le_iff_toInt_le, ← Int32.toInt_inj, toI, Nat.reduceLT, Int32.toInt_zero] at *; omega)
                  · refine xi_iload (pc' := 85) rfl rfl rfl ?_
                    refine xx_callSi (pc' := 88) rfl rfl (by decide) rfl (Nat.le_of_ble_eq_true rfl) rfl rfl (r_isCode0 hc) ?_
                    refine xi_ift (pc' := 122) rfl rfl (by decide) ?_
                    refine xi_iconst (pc' := 123) rfl rfl ?_
                    refine xi_istore (pc' := 125) rfl (st1_7 rfl) rfl ?_
                    exact k0 (by clear k0 k1; simp only [ex_P, Classical.not_not, bI_0, okMsg, vT, vS, isC, Int32.lt_iff_toInt_lt, Int32.le_iff_toInt_le, ← Int32.toInt_inj, toI, Nat.reduceLT, Int32.toInt_zero] at *; omega)
            · refine xi_iload_n (pc' := 43) rfl rfl rfl ?_
              refine xx_callSi (pc' := 46) rfl rfl (by decide) rfl (Nat.le_of_ble_eq_true rfl) rfl rfl (r_isTerminal1 hx) ?_
              refine xi_iff (pc' := 49) (tg := 70) rfl rfl (by decide) rfl ?_
              refine xi_iload_n (pc' := 50) rfl rfl rfl ?_
              refine xi_iconst (pc' := 51) rfl rfl ?_
              refine xx_icmp (pc' := 54) (tg := 66) rfl rfl rfl (fun q51 => ?_) (fun q51 => ?_)
              · refine xi_iconst (pc' := 67) rfl rfl ?_
                refine xi_goto (pc' := 71) rfl rfl ?_
                refine xi_istore (pc' := 73) rfl (st1_7 rfl) rfl ?_
                refine xi_iload (pc' := 75) rfl rfl rfl ?_
                refine xi_iff (pc' := 78) (tg := 122) rfl rfl (by decide) rfl ?_
                refine xi_iload_n (pc' := 79) rfl rfl rfl ?_
                refine xi_iconst (pc' := 80) rfl rfl ?_
                refine xx_icmp (pc' := 83) (tg := 94) rfl rfl rfl (fun q80 => ?_) (fun q80 => ?_)
                · refine xi_iload (pc' := 96) rfl rfl rfl ?_
                  refine xi_iconst (pc' := 97) rfl rfl ?_
                  refine xx_icmp (pc' := 100) (tg := 122) rfl rfl rfl (fun q97 => ?_) (fun q97 => ?_)
                  · refine xi_iconst (pc' := 123) rfl rfl ?_
                    refine xi_istore (pc' := 125) rfl (st1_7 rfl) rfl ?_
                    exact k0 (by clear k0 k1; simp only [ex_P, Classical.not_not, bI_0, okMsg, vT, vS, isC, Int32.lt_iff_toInt_lt, Int32.le_iff_toInt_le, ← Int32.toInt_inj, toI, Nat.reduceLT, Int32.toInt_zero] at *; omega)
                  · refine xi_iload (pc' := 102) rfl rfl rfl ?_
                    refine xi_iconst (pc' := 103) rfl rfl ?_
                    refine xx_icmp (pc' := 106) (tg := 122) rfl rfl rfl (fun q103 => ?_) (fun q103 => ?_)
                    · refine xi_iconst (pc' := 123) rfl rfl ?_
                      refine xi_istore (pc' := 125) rfl (st1_7 rfl) rfl ?_
                      exact k0 (by clear k0 k1; simp only [ex_P, Classical.not_not, bI_0, okMsg, vT, vS, isC, Int32.lt_iff_toInt_lt, Int32.le_iff_toInt_le, ← Int32.toInt_inj, toI, Nat.reduceLT, Int32.toInt_zero] at *; omega)
                    · refine xi_iload (pc' := 108) rfl rfl rfl ?_
                      refine xi_iconst (pc' := 109) rfl rfl ?_
                      refine xx_icmp (pc' := 112) (tg := 122) rfl rfl rfl (fun q109 => ?_) (fun q109 => ?_)
                      · refine xi_iconst (pc' := 123) rfl rfl ?_
                        refine xi_istore (pc' := 125) rfl (st1_7 rfl) rfl ?_
                        exact k0 (by clear k0 k1; simp only [ex_P, Classical.not_not, bI_0, okMsg, vT, vS, isC, Int32.lt_iff_toInt_lt, Int32.le_iff_toInt_le, ← Int32.toInt_inj, toI, Nat.reduceLT, Int32.toInt_zero] at *; omega)
                      · refine xi_iload (pc' := 114) rfl rfl rfl ?_
                        refine xi_iconst (pc' := 115) rfl rfl ?_
                        refine xx_icmp (pc' := 118) (tg := 122) rfl rfl rfl (fun q115 => ?_) (fun q115 => ?_)
                        · refine xi_iconst (pc' := 123) rfl rfl ?_
                          refine xi_istore (pc' := 125) rfl (st1_7 rfl) rfl ?_
                          exact k0 (by clear k0 k1; simp only [ex_P, Classical.not_not, bI_0, okMsg, vT, vS, isC, Int32.lt_iff_toInt_lt, Int32.le_iff_toInt_le, ← Int32.toInt_inj, toI, Nat.reduceLT, Int32.toInt_zero] at *; omega)
                        · refine xi_iconst (pc' := 119) rfl rfl ?_
                          refine xi_goto (pc' := 123) rfl rfl ?_
                          refine xi_istore (pc' := 125) rfl (st1_7 rfl) rfl ?_
                          exact k1 (by clear k0 k1; simp only [ex_P, Classical.not_not, bI_0, okMsg, vT, vS, isC, Int32.lt_iff_toInt_lt, Int32.le_iff_toInt_le, ← Int32.toInt_inj, toI, Nat.reduceLT, Int32.toInt_zero] at *; omega)
                · refine xi_iload (pc' := 85) rfl rfl rfl ?_
                  refine xx_callSi (pc' := 88) rfl rfl (by decide) rfl (Nat.le_of_ble_eq_true rfl) rfl rfl (r_isCode0 hc) ?_
                  refine xi_ift (pc' := 122) rfl rfl (by decide) ?_
                  refine xi_iconst (pc' := 123) rfl rfl ?_
                  refine xi_istore (pc' := 125) rfl (st1_7 rfl) rfl ?_
                  exact k0 (by clear k0 k1; simp only [ex_P, Classical.not_not, bI_0, okMsg, vT, vS, isC, Int32.lt_iff_toInt_lt, Int32.le_iff_toInt_le, ← Int32.toInt_inj, toI, Nat.reduceLT, Int32.toInt_zero] at *; omega)
              · refine xi_iload_n (pc' := 55) rfl rfl rfl ?_
                refine xx_callSi (pc' := 58) rfl rfl (by decide) rfl (Nat.le_of_ble_eq_true rfl) rfl rfl (r_isTerminal1 hy) ?_
                refine xi_iff (pc' := 61) (tg := 70) rfl rfl (by decide) rfl ?_
                refine xi_iload_n (pc' := 62) rfl rfl rfl ?_
                refine xi_iload_n (pc' := 63) rfl rfl rfl ?_
                refine xx_icmp (pc' := 66) (tg := 70) rfl rfl rfl (fun q63 => ?_) (fun q63 => ?_)
                · refine xi_iconst (pc' := 71) rfl rfl ?_
                  refine xi_istore (pc' := 73) rfl (st1_7 rfl) rfl ?_
                  refine xi_iload (pc' := 75) rfl rfl rfl ?_
                  refine xi_ift (pc' := 122) rfl rfl (by decide) ?_
                  refine xi_iconst (pc' := 123) rfl rfl ?_
                  refine xi_istore (pc' := 125) rfl (st1_7 rfl) rfl ?_
                  exact k0 (by clear k0 k1; simp only [ex_P, Classical.not_not, bI_0, okMsg, vT, vS, isC, Int32.lt_iff_toInt_lt, Int32.le_iff_toInt_le, ← Int32.toInt_inj, toI, Nat.reduceLT, Int32.toInt_zero] at *; omega)
                · refine xi_iconst (pc' := 67) rfl rfl ?_
                  refine xi_goto (pc' := 71) rfl rfl ?_
                  refine xi_istore (pc' := 73) rfl (st1_7 rfl) rfl ?_
                  refine xi_iload (pc' := 75) rfl rfl rfl ?_
                  refine xi_iff (pc' := 78) (tg := 122) rfl rfl (by decide) rfl ?_
                  refine xi_iload_n (pc' := 79) rfl rfl rfl ?_
                  refine xi_iconst (pc' := 80) rfl rfl ?_
                  refine xx_icmp (pc' := 83) (tg := 94) rfl rfl rfl (fun q80 => ?_) (fun q80 => ?_)
                  · refine xi_iload (pc' := 96) rfl rfl rfl ?_
                    refine xi_iconst (pc' := 97) rfl rfl ?_
                    refine xx_icmp (pc' := 100) (tg := 122) rfl rfl rfl (fun q97 => ?_) (fun q97 => ?_)
                    · refine xi_iconst (pc' := 123) rfl rfl ?_
                      refine xi_istore (pc' := 125) rfl (st1_7 rfl) rfl ?_
                      exact k0 (by clear k0 k1; simp only [ex_P, Classical.not_not, bI_0, okMsg, vT, vS, isC, Int32.lt_iff_toInt_lt, Int32.le_iff_toInt_le, ← Int32.toInt_inj, toI, Nat.reduceLT, Int32.toInt_zero] at *; omega)
                    · refine xi_iload (pc' := 102) rfl rfl rfl ?_
                      refine xi_iconst (pc' := 103) rfl rfl ?_
                      refine xx_icmp (pc' := 106) (tg := 122) rfl rfl rfl (fun q103 => ?_) (fun q103 => ?_)
                      · refine xi_iconst (pc' := 123) rfl rfl ?_
                        refine xi_istore (pc' := 125) rfl (st1_7 rfl) rfl ?_
                        exact k0 (by clear k0 k1; simp only [ex_P, Classical.not_not, bI_0, okMsg, vT, vS, isC, Int32.lt_iff_toInt_lt, Int32.le_iff_toInt_le, ← Int32.toInt_inj, toI, Nat.reduceLT, Int32.toInt_zero] at *; omega)
                      · refine xi_iload (pc' := 108) rfl rfl rfl ?_
                        refine xi_iconst (pc' := 109) rfl rfl ?_
                        refine xx_icmp (pc' := 112) (tg := 122) rfl rfl rfl (fun q109 => ?_) (fun q109 => ?_)
                        · refine xi_iconst (pc' := 123) rfl rfl ?_
                          refine xi_istore (pc' := 125) rfl (st1_7 rfl) rfl ?_
                          exact k0 (by clear k0 k1; simp only [ex_P, Classical.not_not, bI_0, okMsg, vT, vS, isC, Int32.lt_iff_toInt_lt, Int32.le_iff_toInt_le, ← Int32.toInt_inj, toI, Nat.reduceLT, Int32.toInt_zero] at *; omega)
                        · refine xi_iload (pc' := 114) rfl rfl rfl ?_
                          refine xi_iconst (pc' := 115) rfl rfl ?_
                          refine xx_icmp (pc' := 118) (tg := 122) rfl rfl rfl (fun q115 => ?_) (fun q115 => ?_)
                          · refine xi_iconst (pc' := 123) rfl rfl ?_
                            refine xi_istore (pc' := 125) rfl (st1_7 rfl) rfl ?_
                            exact k0 (by clear k0 k1; simp only [ex_P, Classical.not_not, bI_0, okMsg, vT, vS, isC, Int32.lt_iff_toInt_lt, Int32.le_iff_toInt_le, ← Int32.toInt_inj, toI, Nat.reduceLT, Int32.toInt_zero] at *; omega)
                          · refine xi_iconst (pc' := 119) rfl rfl ?_
                            refine xi_goto (pc' := 123) rfl rfl ?_
                            refine xi_istore (pc' := 125) rfl (st1_7 rfl) rfl ?_
                            exact k1 (by clear k0 k1; simp only [ex_P, Classical.not_not, bI_0, okMsg, vT, vS, isC, Int32.lt_iff_toInt_lt, Int32.le_iff_toInt_le, ← Int32.toInt_inj, toI, Nat.reduceLT, Int32.toInt_zero] at *; omega)
                  · refine xi_iload (pc' := 85) rfl rfl rfl ?_
                    refine xx_callSi (pc' := 88) rfl rfl (by decide) rfl (Nat.le_of_ble_eq_true rfl) rfl rfl (r_isCode0 hc) ?_
                    refine xi_ift (pc' := 122) rfl rfl (by decide) ?_
                    refine xi_iconst (pc' := 123) rfl rfl ?_
                    refine xi_istore (pc' := 125) rfl (st1_7 rfl) rfl ?_
                    exact k0 (by clear k0 k1; simp only [ex_P, Classical.not_not, bI_0, okMsg, vT, vS, isC, Int32.lt_iff_toInt_lt, Int32.le_iff_toInt_le, ← Int32.toInt_inj, toI, Nat.reduceLT, Int32.toInt_zero] at *; omega)
theorem r_msg_101 {L : Nat} {xs : Nat → Int32} {D n : Nat} {I J : ex_Mem} {kind x y s nn per : Int32} {Q : Option Value → ex_Hp → Prop} (k1 : okMsg kind x y s nn per → xx cb_G L xs (D + 1) 94 125 [.ref 52, .int kind, .int x, .int y, .int s, .int nn, .int per, .int (nI 1)] [] (mkH n I J) Q) (k0 : ¬ okMsg kind x y s nn per → xx cb_G L xs (D + 1) 94 125 [.ref 52, .int kind, .int x, .int y, .int s, .int nn, .int per, .int (nI 0)] [] (mkH n I J) Q) (hx : vT x) (hy : ¬ vT y) (hc : isC nn) : xx cb_G L xs (D + 1) 94 10 [.ref 52, .int kind, .int x, .int y, .int s, .int nn, .int per, ex_no] [] (mkH n I J) Q := by
  refine xi_iload_n (pc' := 11) rfl rfl rfl ?_
  refine xx_if (pc' := 14) (tg := 70) rfl rfl rfl (fun q11 => ?_) (fun q11 => ?_)
  · refine xi_iconst (pc' := 71) rfl rfl ?_
    refine xi_istore (pc' := 73) rfl (st1_7 rfl) rfl ?_
    refine xi_iload (pc' := 75) rfl rfl rfl ?_
    refine xi_ift (pc' := 122) rfl rfl (by decide) ?_
    refine xi_iconst (pc' := 123) rfl rfl ?_
    refine xi_istore (pc' := 125) rfl (st1_7 rfl) rfl ?_
    exact k0 (by clear k0 k1; simp only [ex_P, Classical.not_not, bI_0, okMsg, vT, vS, isC, Int32.lt_iff_toInt_lt, Int32.le_iff_toInt_le, ← Int32.toInt_inj, toI, Nat.reduceLT, Int32.toInt_zero] at *; omega)
  · refine xi_iload_n (pc' := 15) rfl rfl rfl ?_
    refine xi_iconst (pc' := 16) rfl rfl ?_
    refine xx_icmp (pc' := 19) (tg := 70) rfl rfl rfl (fun q16 => ?_) (fun q16 => ?_)
    · refine xi_iconst (pc' := 71) rfl rfl ?_
      refine xi_istore (pc' := 73) rfl (st1_7 rfl) rfl ?_
      refine xi_iload (pc' := 75) rfl rfl rfl ?_
      refine xi_ift (pc' := 122) rfl rfl (by decide) ?_
      refine xi_iconst (pc' := 123) rfl rfl ?_
      refine xi_istore (pc' := 125) rfl (st1_7 rfl) rfl ?_
      exact k0 (by clear k0 k1; simp only [ex_P, Classical.not_not, bI_0, okMsg, vT, vS, isC, Int32.lt_iff_toInt_lt, Int32.le_iff_toInt_le, ← Int32.toInt_inj, toI, Nat.reduceLT, Int32.toInt_zero] at *; omega)
    · refine xi_iload (pc' := 21) rfl rfl rfl ?_
      refine xi_iconst (pc' := 22) rfl rfl ?_
      refine xx_icmp (pc' := 25) (tg := 37) rfl rfl rfl (fun q22 => ?_) (fun q22 => ?_)
      · refine xi_iload_n (pc' := 38) rfl rfl rfl ?_
        refine xi_iconst (pc' := 39) rfl rfl ?_
        refine xx_icmp (pc' := 42) (tg := 49) rfl rfl rfl (fun q39 => ?_) (fun q39 => ?_)
        · refine xi_iload_n (pc' := 50) rfl rfl rfl ?_
          refine xi_iconst (pc' := 51) rfl rfl ?_
          refine xx_icmp (pc' := 54) (tg := 66) rfl rfl rfl (fun q51 => ?_) (fun q51 => ?_)
          · refine xi_iconst (pc' := 67) rfl rfl ?_
            refine xi_goto (pc' := 71) rfl rfl ?_
            refine xi_istore (pc' := 73) rfl (st1_7 rfl) rfl ?_
            refine xi_iload (pc' := 75) rfl rfl rfl ?_
            refine xi_iff (pc' := 78) (tg := 122) rfl rfl (by decide) rfl ?_
            refine xi_iload_n (pc' := 79) rfl rfl rfl ?_
            refine xi_iconst (pc' := 80) rfl rfl ?_
            refine xx_icmp (pc' := 83) (tg := 94) rfl rfl rfl (fun q80 => ?_) (fun q80 => ?_)
            · refine xi_iload (pc' := 96) rfl rfl rfl ?_
              refine xi_iconst (pc' := 97) rfl rfl ?_
              refine xx_icmp (pc' := 100) (tg := 122) rfl rfl rfl (fun q97 => ?_) (fun q97 => ?_)
              · refine xi_iconst (pc' := 123) rfl rfl ?_
                refine xi_istore (pc' := 125) rfl (st1_7 rfl) rfl ?_
                exact k0 (by clear k0 k1; simp only [ex_P, Classical.not_not, bI_0, okMsg, vT, vS, isC, Int32.lt_iff_toInt_lt, Int32.le_iff_toInt_le, ← Int32.toInt_inj, toI, Nat.reduceLT, Int32.toInt_zero] at *; omega)
              · refine xi_iload (pc' := 102) rfl rfl rfl ?_
                refine xi_iconst (pc' := 103) rfl rfl ?_
                refine xx_icmp (pc' := 106) (tg := 122) rfl rfl rfl (fun q103 => ?_) (fun q103 => ?_)
                · refine xi_iconst (pc' := 123) rfl rfl ?_
                  refine xi_istore (pc' := 125) rfl (st1_7 rfl) rfl ?_
                  exact k0 (by clear k0 k1; simp only [ex_P, Classical.not_not, bI_0, okMsg, vT, vS, isC, Int32.lt_iff_toInt_lt, Int32.le_iff_toInt_le, ← Int32.toInt_inj, toI, Nat.reduceLT, Int32.toInt_zero] at *; omega)
                · refine xi_iload (pc' := 108) rfl rfl rfl ?_
                  refine xi_iconst (pc' := 109) rfl rfl ?_
                  refine xx_icmp (pc' := 112) (tg := 122) rfl rfl rfl (fun q109 => ?_) (fun q109 => ?_)
                  · refine xi_iconst (pc' := 123) rfl rfl ?_
                    refine xi_istore (pc' := 125) rfl (st1_7 rfl) rfl ?_
                    exact k0 (by clear k0 k1; simp only [ex_P, Classical.not_not, bI_0, okMsg, vT, vS, isC, Int32.lt_iff_toInt_lt, Int32.le_iff_toInt_le, ← Int32.toInt_inj, toI, Nat.reduceLT, Int32.toInt_zero] at *; omega)
                  · refine xi_iload (pc' := 114) rfl rfl rfl ?_
                    refine xi_iconst (pc' := 115) rfl rfl ?_
                    refine xx_icmp (pc' := 118) (tg := 122) rfl rfl rfl (fun q115 => ?_) (fun q115 => ?_)
                    · refine xi_iconst (pc' := 123) rfl rfl ?_
                      refine xi_istore (pc' := 125) rfl (st1_7 rfl) rfl ?_
                      exact k0 (by clear k0 k1; simp only [ex_P, Classical.not_not, bI_0, okMsg, vT, vS, isC, Int32.lt_iff_toInt_lt, Int32.le_iff_toInt_le, ← Int32.toInt_inj, toI, Nat.reduceLT, Int32.toInt_zero] at *; omega)
                    · refine xi_iconst (pc' := 119) rfl rfl ?_
                      refine xi_goto (pc' := 123) rfl rfl ?_
                      refine xi_istore (pc' := 125) rfl (st1_7 rfl) rfl ?_
                      exact k1 (by clear k0 k1; simp only [ex_P, Classical.not_not, bI_0, okMsg, vT, vS, isC, Int32.lt_iff_toInt_lt, Int32.le_iff_toInt_le, ← Int32.toInt_inj, toI, Nat.reduceLT, Int32.toInt_zero] at *; omega)
            · refine xi_iload (pc' := 85) rfl rfl rfl ?_
              refine xx_callSi (pc' := 88) rfl rfl (by decide) rfl (Nat.le_of_ble_eq_true rfl) rfl rfl (r_isCode1 hc) ?_
              refine xi_iff (pc' := 91) (tg := 122) rfl rfl (by decide) rfl ?_
              refine xi_goto (pc' := 118) rfl rfl ?_
              refine xi_iconst (pc' := 119) rfl rfl ?_
              refine xi_goto (pc' := 123) rfl rfl ?_
              refine xi_istore (pc' := 125) rfl (st1_7 rfl) rfl ?_
              exact k1 (by clear k0 k1; simp only [ex_P, Classical.not_not, bI_0, okMsg, vT, vS, isC, Int32.lt_iff_toInt_lt, Int32.le_iff_toInt_le, ← Int32.toInt_inj, toI, Nat.reduceLT, Int32.toInt_zero] at *; omega)
          · refine xi_iload_n (pc' := 55) rfl rfl rfl ?_
            refine xx_callSi (pc' := 58) rfl rfl (by decide) rfl (Nat.le_of_ble_eq_true rfl) rfl rfl (r_isTerminal0 hy) ?_
            refine xi_ift (pc' := 70) rfl rfl (by decide) ?_
            refine xi_iconst (pc' := 71) rfl rfl ?_
            refine xi_istore (pc' := 73) rfl (st1_7 rfl) rfl ?_
            refine xi_iload (pc' := 75) rfl rfl rfl ?_
            refine xi_ift (pc' := 122) rfl rfl (by decide) ?_
            refine xi_iconst (pc' := 123) rfl rfl ?_
            refine xi_istore (pc' := 125) rfl (st1_7 rfl) rfl ?_
            exact k0 (by clear k0 k1; simp only [ex_P, Classical.not_not, bI_0, okMsg, vT, vS, isC, Int32.lt_iff_toInt_lt, Int32.le_iff_toInt_le, ← Int32.toInt_inj, toI, Nat.reduceLT, Int32.toInt_zero] at *; omega)
        · refine xi_iload_n (pc' := 43) rfl rfl rfl ?_
          refine xx_callSi (pc' := 46) rfl rfl (by decide) rfl (Nat.le_of_ble_eq_true rfl) rfl rfl (r_isTerminal1 hx) ?_
          refine xi_iff (pc' := 49) (tg := 70) rfl rfl (by decide) rfl ?_
          refine xi_iload_n (pc' := 50) rfl rfl rfl ?_
          refine xi_iconst (pc' := 51) rfl rfl ?_
          refine xx_icmp (pc' := 54) (tg := 66) rfl rfl rfl (fun q51 => ?_) (fun q51 => ?_)
          · refine xi_iconst (pc' := 67) rfl rfl ?_
            refine xi_goto (pc' := 71) rfl rfl ?_
            refine xi_istore (pc' := 73) rfl (st1_7 rfl) rfl ?_
            refine xi_iload (pc' := 75) rfl rfl rfl ?_
            refine xi_iff (pc' := 78) (tg := 122) rfl rfl (by decide) rfl ?_
            refine xi_iload_n (pc' := 79) rfl rfl rfl ?_
            refine xi_iconst (pc' := 80) rfl rfl ?_
            refine xx_icmp (pc' := 83) (tg := 94) rfl rfl rfl (fun q80 => ?_) (fun q80 => ?_)
            · refine xi_iload (pc' := 96) rfl rfl rfl ?_
              refine xi_iconst (pc' := 97) rfl rfl ?_
              refine xx_icmp (pc' := 100) (tg := 122) rfl rfl rfl (fun q97 => ?_) (fun q97 => ?_)
              · refine xi_iconst (pc' := 123) rfl rfl ?_
                refine xi_istore (pc' := 125) rfl (st1_7 rfl) rfl ?_
                exact k0 (by clear k0 k1; simp only [ex_P, Classical.not_not, bI_0, okMsg, vT, vS, isC, Int32.lt_iff_toInt_lt, Int32.le_iff_toInt_le, ← Int32.toInt_inj, toI, Nat.reduceLT, Int32.toInt_zero] at *; omega)
              · refine xi_iload (pc' := 102) rfl rfl rfl ?_
                refine xi_iconst (pc' := 103) rfl rfl ?_
                refine xx_icmp (pc' := 106) (tg := 122) rfl rfl rfl (fun q103 => ?_) (fun q103 => ?_)
                · refine xi_iconst (pc' := 123) rfl rfl ?_
                  refine xi_istore (pc' := 125) rfl (st1_7 rfl) rfl ?_
                  exact k0 (by clear k0 k1; simp only [ex_P, Classical.not_not, bI_0, okMsg, vT, vS, isC, Int32.lt_iff_toInt_lt, Int32.le_iff_toInt_le, ← Int32.toInt_inj, toI, Nat.reduceLT, Int32.toInt_zero] at *; omega)
                · refine xi_iload (pc' := 108) rfl rfl rfl ?_
                  refine xi_iconst (pc' := 109) rfl rfl ?_
                  refine xx_icmp (pc' := 112) (tg := 122) rfl rfl rfl (fun q109 => ?_) (fun q109 => ?_)
                  · refine xi_iconst (pc' := 123) rfl rfl ?_
                    refine xi_istore (pc' := 125) rfl (st1_7 rfl) rfl ?_
                    exact k0 (by clear k0 k1; simp only [ex_P, Classical.not_not, bI_0, okMsg, vT, vS, isC, Int32.lt_iff_toInt_lt, Int32.le_iff_toInt_le, ← Int32.toInt_inj, toI, Nat.reduceLT, Int32.toInt_zero] at *; omega)
                  · refine xi_iload (pc' := 114) rfl rfl rfl ?_
                    refine xi_iconst (pc' := 115) rfl rfl ?_
                    refine xx_icmp (pc' := 118) (tg := 122) rfl rfl rfl (fun q115 => ?_) (fun q115 => ?_)
                    · refine xi_iconst (pc' := 123) rfl rfl ?_
                      refine xi_istore (pc' := 125) rfl (st1_7 rfl) rfl ?_
                      exact k0 (by clear k0 k1; simp only [ex_P, Classical.not_not, bI_0, okMsg, vT, vS, isC, Int32.lt_iff_toInt_lt, Int32.le_iff_toInt_le, ← Int32.toInt_inj, toI, Nat.reduceLT, Int32.toInt_zero] at *; omega)
                    · refine xi_iconst (pc' := 119) rfl rfl ?_
                      refine xi_goto (pc' := 123) rfl rfl ?_
                      refine xi_istore (pc' := 125) rfl (st1_7 rfl) rfl ?_
                      exact k1 (by clear k0 k1; simp only [ex_P, Classical.not_not, bI_0, okMsg, vT, vS, isC, Int32.lt_iff_toInt_lt, Int32.le_iff_toInt_le, ← Int32.toInt_inj, toI, Nat.reduceLT, Int32.toInt_zero] at *; omega)
            · refine xi_iload (pc' := 85) rfl rfl rfl ?_
              refine xx_callSi (pc' := 88) rfl rfl (by decide) rfl (Nat.le_of_ble_eq_true rfl) rfl rfl (r_isCode1 hc) ?_
              refine xi_iff (pc' := 91) (tg := 122) rfl rfl (by decide) rfl ?_
              refine xi_goto (pc' := 118) rfl rfl ?_
              refine xi_iconst (pc' := 119) rfl rfl ?_
              refine xi_goto (pc' := 123) rfl rfl ?_
              refine xi_istore (pc' := 125) rfl (st1_7 rfl) rfl ?_
              exact k1 (by clear k0 k1; simp only [ex_P, Classical.not_not, bI_0, okMsg, vT, vS, isC, Int32.lt_iff_toInt_lt, Int32.le_iff_toInt_le, ← Int32.toInt_inj, toI, Nat.reduceLT, Int32.toInt_zero] at *; omega)
          · refine xi_iload_n (pc' := 55) rfl rfl rfl ?_
            refine xx_callSi (pc' := 58) rfl rfl (by decide) rfl (Nat.le_of_ble_eq_true rfl) rfl rfl (r_isTerminal0 hy) ?_
            refine xi_ift (pc' := 70) rfl rfl (by decide) ?_
            refine xi_iconst (pc' := 71) rfl rfl ?_
            refine xi_istore (pc' := 73) rfl (st1_7 rfl) rfl ?_
            refine xi_iload (pc' := 75) rfl rfl rfl ?_
            refine xi_ift (pc' := 122) rfl rfl (by decide) ?_
            refine xi_iconst (pc' := 123) rfl rfl ?_
            refine xi_istore (pc' := 125) rfl (st1_7 rfl) rfl ?_
            exact k0 (by clear k0 k1; simp only [ex_P, Classical.not_not, bI_0, okMsg, vT, vS, isC, Int32.lt_iff_toInt_lt, Int32.le_iff_toInt_le, ← Int32.toInt_inj, toI, Nat.reduceLT, Int32.toInt_zero] at *; omega)
      · refine xi_iload (pc' := 27) rfl rfl rfl ?_
        refine xi_iconst (pc' := 28) rfl rfl ?_
        refine xx_icmp (pc' := 31) (tg := 37) rfl rfl rfl (fun q28 => ?_) (fun q28 => ?_)
        · refine xi_iload_n (pc' := 38) rfl rfl rfl ?_
          refine xi_iconst (pc' := 39) rfl rfl ?_
          refine xx_icmp (pc' := 42) (tg := 49) rfl rfl rfl (fun q39 => ?_) (fun q39 => ?_)
          · refine xi_iload_n (pc' := 50) rfl rfl rfl ?_
            refine xi_iconst (pc' := 51) rfl rfl ?_
            refine xx_icmp (pc' := 54) (tg := 66) rfl rfl rfl (fun q51 => ?_) (fun q51 => ?_)
            · refine xi_iconst (pc' := 67) rfl rfl ?_
              refine xi_goto (pc' := 71) rfl rfl ?_
              refine xi_istore (pc' := 73) rfl (st1_7 rfl) rfl ?_
              refine xi_iload (pc' := 75) rfl rfl rfl ?_
              refine xi_iff (pc' := 78) (tg := 122) rfl rfl (by decide) rfl ?_
              refine xi_iload_n (pc' := 79) rfl rfl rfl ?_
              refine xi_iconst (pc' := 80) rfl rfl ?_
              refine xx_icmp (pc' := 83) (tg := 94) rfl rfl rfl (fun q80 => ?_) (fun q80 => ?_)
              · refine xi_iload (pc' := 96) rfl rfl rfl ?_
                refine xi_iconst (pc' := 97) rfl rfl ?_
                refine xx_icmp (pc' := 100) (tg := 122) rfl rfl rfl (fun q97 => ?_) (fun q97 => ?_)
                · refine xi_iconst (pc' := 123) rfl rfl ?_
                  refine xi_istore (pc' := 125) rfl (st1_7 rfl) rfl ?_
                  exact k0 (by clear k0 k1; simp only [ex_P, Classical.not_not, bI_0, okMsg, vT, vS, isC, Int32.lt_iff_toInt_lt, Int32.le_iff_toInt_le, ← Int32.toInt_inj, toI, Nat.reduceLT, Int32.toInt_zero] at *; omega)
                · refine xi_iload (pc' := 102) rfl rfl rfl ?_
                  refine xi_iconst (pc' := 103) rfl rfl ?_
                  refine xx_icmp (pc' := 106) (tg := 122) rfl rfl rfl (fun q103 => ?_) (fun q103 => ?_)
                  · refine xi_iconst (pc' := 123) rfl rfl ?_
                    refine xi_istore (pc' := 125) rfl (st1_7 rfl) rfl ?_
                    exact k0 (by clear k0 k1; simp only [ex_P, Classical.not_not, bI_0, okMsg, vT, vS, isC, Int32.lt_iff_toInt_lt, Int32.le_iff_toInt_le, ← Int32.toInt_inj, toI, Nat.reduceLT, Int32.toInt_zero] at *; omega)
                  · refine xi_iload (pc' := 108) rfl rfl rfl ?_
                    refine xi_iconst (pc' := 109) rfl rfl ?_
                    refine xx_icmp (pc' := 112) (tg := 122) rfl rfl rfl (fun q109 => ?_) (fun q109 => ?_)
                    · refine xi_iconst (pc' := 123) rfl rfl ?_
                      refine xi_istore (pc' := 125) rfl (st1_7 rfl) rfl ?_
                      exact k0 (by clear k0 k1; simp only [ex_P, Classical.not_not, bI_0, okMsg, vT, vS, isC, Int32.lt_iff_toInt_lt, Int32.le_iff_toInt_le, ← Int32.toInt_inj, toI, Nat.reduceLT, Int32.toInt_zero] at *; omega)
                    · refine xi_iload (pc' := 114) rfl rfl rfl ?_
                      refine xi_iconst (pc' := 115) rfl rfl ?_
                      refine xx_icmp (pc' := 118) (tg := 122) rfl rfl rfl (fun q115 => ?_) (fun q115 => ?_)
                      · refine xi_iconst (pc' := 123) rfl rfl ?_
                        refine xi_istore (pc' := 125) rfl (st1_7 rfl) rfl ?_
                        exact k0 (by clear k0 k1; simp only [ex_P, Classical.not_not, bI_0, okMsg, vT, vS, isC, Int32.lt_iff_toInt_lt, Int32.le_iff_toInt_le, ← Int32.toInt_inj, toI, Nat.reduceLT, Int32.toInt_zero] at *; omega)
                      · refine xi_iconst (pc' := 119) rfl rfl ?_
                        refine xi_goto (pc' := 123) rfl rfl ?_
                        refine xi_istore (pc' := 125) rfl (st1_7 rfl) rfl ?_
                        exact k1 (by clear k0 k1; simp only [ex_P, Classical.not_not, bI_0, okMsg, vT, vS, isC, Int32.lt_iff_toInt_lt, Int32.le_iff_toInt_le, ← Int32.toInt_inj, toI, Nat.reduceLT, Int32.toInt_zero] at *; omega)
              · refine xi_iload (pc' := 85) rfl rfl rfl ?_
                refine xx_callSi (pc' := 88) rfl rfl (by decide) rfl (Nat.le_of_ble_eq_true rfl) rfl rfl (r_isCode1 hc) ?_
                refine xi_iff (pc' := 91) (tg := 122) rfl rfl (by decide) rfl ?_
                refine xi_goto (pc' := 118) rfl rfl ?_
                refine xi_iconst (pc' := 119) rfl rfl ?_
                refine xi_goto (pc' := 123) rfl rfl ?_
                refine xi_istore (pc' := 125) rfl (st1_7 rfl) rfl ?_
                exact k1 (by clear k0 k1; simp only [ex_P, Classical.not_not, bI_0, okMsg, vT, vS, isC, Int32.lt_iff_toInt_lt, Int32.le_iff_toInt_le, ← Int32.toInt_inj, toI, Nat.reduceLT, Int32.toInt_zero] at *; omega)
            · refine xi_iload_n (pc' := 55) rfl rfl rfl ?_
              refine xx_callSi (pc' := 58) rfl rfl (by decide) rfl (Nat.le_of_ble_eq_true rfl) rfl rfl (r_isTerminal0 hy) ?_
              refine xi_ift (pc' := 70) rfl rfl (by decide) ?_
              refine xi_iconst (pc' := 71) rfl rfl ?_
              refine xi_istore (pc' := 73) rfl (st1_7 rfl) rfl ?_
              refine xi_iload (pc' := 75) rfl rfl rfl ?_
              refine xi_ift (pc' := 122) rfl rfl (by decide) ?_
              refine xi_iconst (pc' := 123) rfl rfl ?_
              refine xi_istore (pc' := 125) rfl (st1_7 rfl) rfl ?_
              exact k0 (by clear k0 k1; simp only [ex_P, Classical.not_not, bI_0, okMsg, vT, vS, isC, Int32.lt_iff_toInt_lt, Int32.le_iff_toInt_le, ← Int32.toInt_inj, toI, Nat.reduceLT, Int32.toInt_zero] at *; omega)
          · refine xi_iload_n (pc' := 43) rfl rfl rfl ?_
            refine xx_callSi (pc' := 46) rfl rfl (by decide) rfl (Nat.le_of_ble_eq_true rfl) rfl rfl (r_isTerminal1 hx) ?_
            refine xi_iff (pc' := 49) (tg := 70) rfl rfl (by decide) rfl ?_
            refine xi_iload_n (pc' := 50) rfl rfl rfl ?_
            refine xi_iconst (pc' := 51) rfl rfl ?_
            refine xx_icmp (pc' := 54) (tg := 66) rfl rfl rfl (fun q51 => ?_) (fun q51 => ?_)
            · refine xi_iconst (pc' := 67) rfl rfl ?_
              refine xi_goto (pc' := 71) rfl rfl ?_
              refine xi_istore (pc' := 73) rfl (st1_7 rfl) rfl ?_
              refine xi_iload (pc' := 75) rfl rfl rfl ?_
              refine xi_iff (pc' := 78) (tg := 122) rfl rfl (by decide) rfl ?_
              refine xi_iload_n (pc' := 79) rfl rfl rfl ?_
              refine xi_iconst (pc' := 80) rfl rfl ?_
              refine xx_icmp (pc' := 83) (tg := 94) rfl rfl rfl (fun q80 => ?_) (fun q80 => ?_)
              · refine xi_iload (pc' := 96) rfl rfl rfl ?_
                refine xi_iconst (pc' := 97) rfl rfl ?_
                refine xx_icmp (pc' := 100) (tg := 122) rfl rfl rfl (fun q97 => ?_) (fun q97 => ?_)
                · refine xi_iconst (pc' := 123) rfl rfl ?_
                  refine xi_istore (pc' := 125) rfl (st1_7 rfl) rfl ?_
                  exact k0 (by clear k0 k1; simp only [ex_P, Classical.not_not, bI_0, okMsg, vT, vS, isC, Int32.lt_iff_toInt_lt, Int32.le_iff_toInt_le, ← Int32.toInt_inj, toI, Nat.reduceLT, Int32.toInt_zero] at *; omega)
                · refine xi_iload (pc' := 102) rfl rfl rfl ?_
                  refine xi_iconst (pc' := 103) rfl rfl ?_
                  refine xx_icmp (pc' := 106) (tg := 122) rfl rfl rfl (fun q103 => ?_) (fun q103 => ?_)
                  · refine xi_iconst (pc' := 123) rfl rfl ?_
                    refine xi_istore (pc' := 125) rfl (st1_7 rfl) rfl ?_
                    exact k0 (by clear k0 k1; simp only [ex_P, Classical.not_not, bI_0, okMsg, vT, vS, isC, Int32.lt_iff_toInt_lt, Int32.le_iff_toInt_le, ← Int32.toInt_inj, toI, Nat.reduceLT, Int32.toInt_zero] at *; omega)
                  · refine xi_iload (pc' := 108) rfl rfl rfl ?_
                    refine xi_iconst (pc' := 109) rfl rfl ?_
                    refine xx_icmp (pc' := 112) (tg := 122) rfl rfl rfl (fun q109 => ?_) (fun q109 => ?_)
                    · refine xi_iconst (pc' := 123) rfl rfl ?_
                      refine xi_istore (pc' := 125) rfl (st1_7 rfl) rfl ?_
                      exact k0 (by clear k0 k1; simp only [ex_P, Classical.not_not, bI_0, okMsg, vT, vS, isC, Int32.lt_iff_toInt_lt, Int32.le_iff_toInt_le, ← Int32.toInt_inj, toI, Nat.reduceLT, Int32.toInt_zero] at *; omega)
                    · refine xi_iload (pc' := 114) rfl rfl rfl ?_
                      refine xi_iconst (pc' := 115) rfl rfl ?_
                      refine xx_icmp (pc' := 118) (tg := 122) rfl rfl rfl (fun q115 => ?_) (fun q115 => ?_)
                      · refine xi_iconst (pc' := 123) rfl rfl ?_
                        refine xi_istore (pc' := 125) rfl (st1_7 rfl) rfl ?_
                        exact k0 (by clear k0 k1; simp only [ex_P, Classical.not_not, bI_0, okMsg, vT, vS, isC, Int32.lt_iff_toInt_lt, Int32.le_iff_toInt_le, ← Int32.toInt_inj, toI, Nat.reduceLT, Int32.toInt_zero] at *; omega)
                      · refine xi_iconst (pc' := 119) rfl rfl ?_
                        refine xi_goto (pc' := 123) rfl rfl ?_
                        refine xi_istore (pc' := 125) rfl (st1_7 rfl) rfl ?_
                        exact k1 (by clear k0 k1; simp only [ex_P, Classical.not_not, bI_0, okMsg, vT, vS, isC, Int32.lt_iff_toInt_lt, Int32.le_iff_toInt_le, ← Int32.toInt_inj, toI, Nat.reduceLT, Int32.toInt_zero] at *; omega)
              · refine xi_iload (pc' := 85) rfl rfl rfl ?_
                refine xx_callSi (pc' := 88) rfl rfl (by decide) rfl (Nat.le_of_ble_eq_true rfl) rfl rfl (r_isCode1 hc) ?_
                refine xi_iff (pc' := 91) (tg := 122) rfl rfl (by decide) rfl ?_
                refine xi_goto (pc' := 118) rfl rfl ?_
                refine xi_iconst (pc' := 119) rfl rfl ?_
                refine xi_goto (pc' := 123) rfl rfl ?_
                refine xi_istore (pc' := 125) rfl (st1_7 rfl) rfl ?_
                exact k1 (by clear k0 k1; simp only [ex_P, Classical.not_not, bI_0, okMsg, vT, vS, isC, Int32.lt_iff_toInt_lt, Int32.le_iff_toInt_le, ← Int32.toInt_inj, toI, Nat.reduceLT, Int32.toInt_zero] at *; omega)
            · refine xi_iload_n (pc' := 55) rfl rfl rfl ?_
              refine xx_callSi (pc' := 58) rfl rfl (by decide) rfl (Nat.le_of_ble_eq_true rfl) rfl rfl (r_isTerminal0 hy) ?_
              refine xi_ift (pc' := 70) rfl rfl (by decide) ?_
              refine xi_iconst (pc' := 71) rfl rfl ?_
              refine xi_istore (pc' := 73) rfl (st1_7 rfl) rfl ?_
              refine xi_iload (pc' := 75) rfl rfl rfl ?_
              refine xi_ift (pc' := 122) rfl rfl (by decide) ?_
              refine xi_iconst (pc' := 123) rfl rfl ?_
              refine xi_istore (pc' := 125) rfl (st1_7 rfl) rfl ?_
              exact k0 (by clear k0 k1; simp only [ex_P, Classical.not_not, bI_0, okMsg, vT, vS, isC, Int32.lt_iff_toInt_lt, Int32.le_iff_toInt_le, ← Int32.toInt_inj, toI, Nat.reduceLT, Int32.toInt_zero] at *; omega)
        · refine xi_iload (pc' := 33) rfl rfl rfl ?_
          refine xi_iconst (pc' := 34) rfl rfl ?_
          refine xx_icmp (pc' := 37) (tg := 70) rfl rfl rfl (fun q34 => ?_) (fun q34 => ?_)
          · refine xi_iconst (pc' := 71) rfl rfl ?_
            refine xi_istore (pc' := 73) rfl (st1_7 rfl) rfl ?_
            refine xi_iload (pc' := 75) rfl rfl rfl ?_
            refine xi_ift (pc' := 122) rfl rfl (by decide) ?_
            refine xi_iconst (pc' := 123) rfl rfl ?_
            refine xi_istore (pc' := 125) rfl (st1_7 rfl) rfl ?_
            exact k0 (by clear k0 k1; simp only [ex_P, Classical.not_not, bI_0, okMsg, vT, vS, isC, Int32.lt_iff_toInt_lt, Int32.le_iff_toInt_le, ← Int32.toInt_inj, toI, Nat.reduceLT, Int32.toInt_zero] at *; omega)
          · refine xi_iload_n (pc' := 38) rfl rfl rfl ?_
            refine xi_iconst (pc' := 39) rfl rfl ?_
            refine xx_icmp (pc' := 42) (tg := 49) rfl rfl rfl (fun q39 => ?_) (fun q39 => ?_)
            · refine xi_iload_n (pc' := 50) rfl rfl rfl ?_
              refine xi_iconst (pc' := 51) rfl rfl ?_
              refine xx_icmp (pc' := 54) (tg := 66) rfl rfl rfl (fun q51 => ?_) (fun q51 => ?_)
              · refine xi_iconst (pc' := 67) rfl rfl ?_
                refine xi_goto (pc' := 71) rfl rfl ?_
                refine xi_istore (pc' := 73) rfl (st1_7 rfl) rfl ?_
                refine xi_iload (pc' := 75) rfl rfl rfl ?_
                refine xi_iff (pc' := 78) (tg := 122) rfl rfl (by decide) rfl ?_
                refine xi_iload_n (pc' := 79) rfl rfl rfl ?_
                refine xi_iconst (pc' := 80) rfl rfl ?_
                refine xx_icmp (pc' := 83) (tg := 94) rfl rfl rfl (fun q80 => ?_) (fun q80 => ?_)
                · refine xi_iload (pc' := 96) rfl rfl rfl ?_
                  refine xi_iconst (pc' := 97) rfl rfl ?_
                  refine xx_icmp (pc' := 100) (tg := 122) rfl rfl rfl (fun q97 => ?_) (fun q97 => ?_)
                  · refine xi_iconst (pc' := 123) rfl rfl ?_
                    refine xi_istore (pc' := 125) rfl (st1_7 rfl) rfl ?_
                    exact k0 (by clear k0 k1; simp only [ex_P, Classical.not_not, bI_0, okMsg, vT, vS, isC, Int32.lt_iff_toInt_lt, Int32.le_iff_toInt_le, ← Int32.toInt_inj, toI, Nat.reduceLT, Int32.toInt_zero] at *; omega)
                  · refine xi_iload (pc' := 102) rfl rfl rfl ?_
                    refine xi_iconst (pc' := 103) rfl rfl ?_
                    refine xx_icmp (pc' := 106) (tg := 122) rfl rfl rfl (fun q103 => ?_) (fun q103 => ?_)
                    · refine xi_iconst (pc' := 123) rfl rfl ?_
                      refine xi_istore (pc' := 125) rfl (st1_7 rfl) rfl ?_
                      exact k0 (by clear k0 k1; simp only [ex_P, Classical.not_not, bI_0, okMsg, vT, vS, isC, Int32.lt_iff_toInt_lt, Int32.le_iff_toInt_le, ← Int32.toInt_inj, toI, Nat.reduceLT, Int32.toInt_zero] at *; omega)
                    · refine xi_iload (pc' := 108) rfl rfl rfl ?_
                      refine xi_iconst (pc' := 109) rfl rfl ?_
                      refine xx_icmp (pc' := 112) (tg := 122) rfl rfl rfl (fun q109 => ?_) (fun q109 => ?_)
                      · refine xi_iconst (pc' := 123) rfl rfl ?_
                        refine xi_istore (pc' := 125) rfl (st1_7 rfl) rfl ?_
                        exact k0 (by clear k0 k1; simp only [ex_P, Classical.not_not, bI_0, okMsg, vT, vS, isC, Int32.lt_iff_toInt_lt, Int32.le_iff_toInt_le, ← Int32.toInt_inj, toI, Nat.reduceLT, Int32.toInt_zero] at *; omega)
                      · refine xi_iload (pc' := 114) rfl rfl rfl ?_
                        refine xi_iconst (pc' := 115) rfl rfl ?_
                        refine xx_icmp (pc' := 118) (tg := 122) rfl rfl rfl (fun q115 => ?_) (fun q115 => ?_)
                        · refine xi_iconst (pc' := 123) rfl rfl ?_
                          refine xi_istore (pc' := 125) rfl (st1_7 rfl) rfl ?_
                          exact k0 (by clear k0 k1; simp only [ex_P, Classical.not_not, bI_0, okMsg, vT, vS, isC, Int32.lt_iff_toInt_lt, Int32.le_iff_toInt_le, ← Int32.toInt_inj, toI, Nat.reduceLT, Int32.toInt_zero] at *; omega)
                        · refine xi_iconst (pc' := 119) rfl rfl ?_
                          refine xi_goto (pc' := 123) rfl rfl ?_
                          refine xi_istore (pc' := 125) rfl (st1_7 rfl) rfl ?_
                          exact k1 (by clear k0 k1; simp only [ex_P, Classical.not_not, bI_0, okMsg, vT, vS, isC, Int32.lt_iff_toInt_lt, Int32.le_iff_toInt_le, ← Int32.toInt_inj, toI, Nat.reduceLT, Int32.toInt_zero] at *; omega)
                · refine xi_iload (pc' := 85) rfl rfl rfl ?_
                  refine xx_callSi (pc' := 88) rfl rfl (by decide) rfl (Nat.le_of_ble_eq_true rfl) rfl rfl (r_isCode1 hc) ?_
                  refine xi_iff (pc' := 91) (tg := 122) rfl rfl (by decide) rfl ?_
                  refine xi_goto (pc' := 118) rfl rfl ?_
                  refine xi_iconst (pc' := 119) rfl rfl ?_
                  refine xi_goto (pc' := 123) rfl rfl ?_
                  refine xi_istore (pc' := 125) rfl (st1_7 rfl) rfl ?_
                  exact k1 (by clear k0 k1; simp only [ex_P, Classical.not_not, bI_0, okMsg, vT, vS, isC, Int32.lt_iff_toInt_lt, Int32.le_iff_toInt_le, ← Int32.toInt_inj, toI, Nat.reduceLT, Int32.toInt_zero] at *; omega)
              · refine xi_iload_n (pc' := 55) rfl rfl rfl ?_
                refine xx_callSi (pc' := 58) rfl rfl (by decide) rfl (Nat.le_of_ble_eq_true rfl) rfl rfl (r_isTerminal0 hy) ?_
                refine xi_ift (pc' := 70) rfl rfl (by decide) ?_
                refine xi_iconst (pc' := 71) rfl rfl ?_
                refine xi_istore (pc' := 73) rfl (st1_7 rfl) rfl ?_
                refine xi_iload (pc' := 75) rfl rfl rfl ?_
                refine xi_ift (pc' := 122) rfl rfl (by decide) ?_
                refine xi_iconst (pc' := 123) rfl rfl ?_
                refine xi_istore (pc' := 125) rfl (st1_7 rfl) rfl ?_
                exact k0 (by clear k0 k1; simp only [ex_P, Classical.not_not, bI_0, okMsg, vT, vS, isC, Int32.lt_iff_toInt_lt, Int32.le_iff_toInt_le, ← Int32.toInt_inj, toI, Nat.reduceLT, Int32.toInt_zero] at *; omega)
            · refine xi_iload_n (pc' := 43) rfl rfl rfl ?_
              refine xx_callSi (pc' := 46) rfl rfl (by decide) rfl (Nat.le_of_ble_eq_true rfl) rfl rfl (r_isTerminal1 hx) ?_
              refine xi_iff (pc' := 49) (tg := 70) rfl rfl (by decide) rfl ?_
              refine xi_iload_n (pc' := 50) rfl rfl rfl ?_
              refine xi_iconst (pc' := 51) rfl rfl ?_
              refine xx_icmp (pc' := 54) (tg := 66) rfl rfl rfl (fun q51 => ?_) (fun q51 => ?_)
              · refine xi_iconst (pc' := 67) rfl rfl ?_
                refine xi_goto (pc' := 71) rfl rfl ?_
                refine xi_istore (pc' := 73) rfl (st1_7 rfl) rfl ?_
                refine xi_iload (pc' := 75) rfl rfl rfl ?_
                refine xi_iff (pc' := 78) (tg := 122) rfl rfl (by decide) rfl ?_
                refine xi_iload_n (pc' := 79) rfl rfl rfl ?_
                refine xi_iconst (pc' := 80) rfl rfl ?_
                refine xx_icmp (pc' := 83) (tg := 94) rfl rfl rfl (fun q80 => ?_) (fun q80 => ?_)
                · refine xi_iload (pc' := 96) rfl rfl rfl ?_
                  refine xi_iconst (pc' := 97) rfl rfl ?_
                  refine xx_icmp (pc' := 100) (tg := 122) rfl rfl rfl (fun q97 => ?_) (fun q97 => ?_)
                  · refine xi_iconst (pc' := 123) rfl rfl ?_
                    refine xi_istore (pc' := 125) rfl (st1_7 rfl) rfl ?_
                    exact k0 (by clear k0 k1; simp only [ex_P, Classical.not_not, bI_0, okMsg, vT, vS, isC, Int32.lt_iff_toInt_lt, Int32.le_iff_toInt_le, ← Int32.toInt_inj, toI, Nat.reduceLT, Int32.toInt_zero] at *; omega)
                  · refine xi_iload (pc' := 102) rfl rfl rfl ?_
                    refine xi_iconst (pc' := 103) rfl rfl ?_
                    refine xx_icmp (pc' := 106) (tg := 122) rfl rfl rfl (fun q103 => ?_) (fun q103 => ?_)
                    · refine xi_iconst (pc' := 123) rfl rfl ?_
                      refine xi_istore (pc' := 125) rfl (st1_7 rfl) rfl ?_
                      exact k0 (by clear k0 k1; simp only [ex_P, Classical.not_not, bI_0, okMsg, vT, vS, isC, Int32.lt_iff_toInt_lt, Int32.le_iff_toInt_le, ← Int32.toInt_inj, toI, Nat.reduceLT, Int32.toInt_zero] at *; omega)
                    · refine xi_iload (pc' := 108) rfl rfl rfl ?_
                      refine xi_iconst (pc' := 109) rfl rfl ?_
                      refine xx_icmp (pc' := 112) (tg := 122) rfl rfl rfl (fun q109 => ?_) (fun q109 => ?_)
                      · refine xi_iconst (pc' := 123) rfl rfl ?_
                        refine xi_istore (pc' := 125) rfl (st1_7 rfl) rfl ?_
                        exact k0 (by clear k0 k1; simp only [ex_P, Classical.not_not, bI_0, okMsg, vT, vS, isC, Int32.lt_iff_toInt_lt, Int32.le_iff_toInt_le, ← Int32.toInt_inj, toI, Nat.reduceLT, Int32.toInt_zero] at *; omega)
                      · refine xi_iload (pc' := 114) rfl rfl rfl ?_
                        refine xi_iconst (pc' := 115) rfl rfl ?_
                        refine xx_icmp (pc' := 118) (tg := 122) rfl rfl rfl (fun q115 => ?_) (fun q115 => ?_)
                        · refine xi_iconst (pc' := 123) rfl rfl ?_
                          refine xi_istore (pc' := 125) rfl (st1_7 rfl) rfl ?_
                          exact k0 (by clear k0 k1; simp only [ex_P, Classical.not_not, bI_0, okMsg, vT, vS, isC, Int32.lt_iff_toInt_lt, Int32.le_iff_toInt_le, ← Int32.toInt_inj, toI, Nat.reduceLT, Int32.toInt_zero] at *; omega)
                        · refine xi_iconst (pc' := 119) rfl rfl ?_
                          refine xi_goto (pc' := 123) rfl rfl ?_
                          refine xi_istore (pc' := 125) rfl (st1_7 rfl) rfl ?_
                          exact k1 (by clear k0 k1; simp only [ex_P, Classical.not_not, bI_0, okMsg, vT, vS, isC, Int32.lt_iff_toInt_lt, Int32.le_iff_toInt_le, ← Int32.toInt_inj, toI, Nat.reduceLT, Int32.toInt_zero] at *; omega)
                · refine xi_iload (pc' := 85) rfl rfl rfl ?_
                  refine xx_callSi (pc' := 88) rfl rfl (by decide) rfl (Nat.le_of_ble_eq_true rfl) rfl rfl (r_isCode1 hc) ?_
                  refine xi_iff (pc' := 91) (tg := 122) rfl rfl (by decide) rfl ?_
                  refine xi_goto (pc' := 118) rfl rfl ?_
                  refine xi_iconst (pc' := 119) rfl rfl ?_
                  refine xi_goto (pc' := 123) rfl rfl ?_
                  refine xi_istore (pc' := 125) rfl (st1_7 rfl) rfl ?_
                  exact k1 (by clear k0 k1; simp only [ex_P, Classical.not_not, bI_0, okMsg, vT, vS, isC, Int32.lt_iff_toInt_lt, Int32.le_iff_toInt_le, ← Int32.toInt_inj, toI, Nat.reduceLT, Int32.toInt_zero] at *; omega)
              · refine xi_iload_n (pc' := 55) rfl rfl rfl ?_
                refine xx_callSi (pc' := 58) rfl rfl (by decide) rfl (Nat.le_of_ble_eq_true rfl) rfl rfl (r_isTerminal0 hy) ?_
                refine xi_ift (pc' := 70) rfl rfl (by decide) ?_
                refine xi_iconst (pc' := 71) rfl rfl ?_
                refine xi_istore (pc' := 73) rfl (st1_7 rfl) rfl ?_
                refine xi_iload (pc' := 75) rfl rfl rfl ?_
                refine xi_ift (pc' := 122) rfl rfl (by decide) ?_
                refine xi_iconst (pc' := 123) rfl rfl ?_
                refine xi_istore (pc' := 125) rfl (st1_7 rfl) rfl ?_
                exact k0 (by clear k0 k1; simp only [ex_P, Classical.not_not, bI_0, okMsg, vT, vS, isC, Int32.lt_iff_toInt_lt, Int32.le_iff_toInt_le, ← Int32.toInt_inj, toI, Nat.reduceLT, Int32.toInt_zero] at *; omega)
theorem r_msg_100 {L : Nat} {xs : Nat → Int32} {D n : Nat} {I J : ex_Mem} {kind x y s nn per : Int32} {Q : Option Value → ex_Hp → Prop} (k1 : okMsg kind x y s nn per → xx cb_G L xs (D + 1) 94 125 [.ref 52, .int kind, .int x, .int y, .int s, .int nn, .int per, .int (nI 1)] [] (mkH n I J) Q) (k0 : ¬ okMsg kind x y s nn per → xx cb_G L xs (D + 1) 94 125 [.ref 52, .int kind, .int x, .int y, .int s, .int nn, .int per, .int (nI 0)] [] (mkH n I J) Q) (hx : vT x) (hy : ¬ vT y) (hc : ¬ isC nn) : xx cb_G L xs (D + 1) 94 10 [.ref 52, .int kind, .int x, .int y, .int s, .int nn, .int per, ex_no] [] (mkH n I J) Q := by
  refine xi_iload_n (pc' := 11) rfl rfl rfl ?_
  refine xx_if (pc' := 14) (tg := 70) rfl rfl rfl (fun q11 => ?_) (fun q11 => ?_)
  · refine xi_iconst (pc' := 71) rfl rfl ?_
    refine xi_istore (pc' := 73) rfl (st1_7 rfl) rfl ?_
    refine xi_iload (pc' := 75) rfl rfl rfl ?_
    refine xi_ift (pc' := 122) rfl rfl (by decide) ?_
    refine xi_iconst (pc' := 123) rfl rfl ?_
    refine xi_istore (pc' := 125) rfl (st1_7 rfl) rfl ?_
    exact k0 (by clear k0 k1; simp only [ex_P, Classical.not_not, bI_0, okMsg, vT, vS, isC, Int32.lt_iff_toInt_lt, Int32.le_iff_toInt_le, ← Int32.toInt_inj, toI, Nat.reduceLT, Int32.toInt_zero] at *; omega)
  · refine xi_iload_n (pc' := 15) rfl rfl rfl ?_
    refine xi_iconst (pc' := 16) rfl rfl ?_
    refine xx_icmp (pc' := 19) (tg := 70) rfl rfl rfl (fun q16 => ?_) (fun q16 => ?_)
    · refine xi_iconst (pc' := 71) rfl rfl ?_
      refine xi_istore (pc' := 73) rfl (st1_7 rfl) rfl ?_
      refine xi_iload (pc' := 75) rfl rfl rfl ?_
      refine xi_ift (pc' := 122) rfl rfl (by decide) ?_
      refine xi_iconst (pc' := 123) rfl rfl ?_
      refine xi_istore (pc' := 125) rfl (st1_7 rfl) rfl ?_
      exact k0 (by clear k0 k1; simp only [ex_P, Classical.not_not, bI_0, okMsg, vT, vS, isC, Int32.lt_iff_toInt_lt, Int32.le_iff_toInt_le, ← Int32.toInt_inj, toI, Nat.reduceLT, Int32.toInt_zero] at *; omega)
    · refine xi_iload (pc' := 21) rfl rfl rfl ?_
      refine xi_iconst (pc' := 22) rfl rfl ?_
      refine xx_icmp (pc' := 25) (tg := 37) rfl rfl rfl (fun q22 => ?_) (fun q22 => ?_)
      · refine xi_iload_n (pc' := 38) rfl rfl rfl ?_
        refine xi_iconst (pc' := 39) rfl rfl ?_
        refine xx_icmp (pc' := 42) (tg := 49) rfl rfl rfl (fun q39 => ?_) (fun q39 => ?_)
        · refine xi_iload_n (pc' := 50) rfl rfl rfl ?_
          refine xi_iconst (pc' := 51) rfl rfl ?_
          refine xx_icmp (pc' := 54) (tg := 66) rfl rfl rfl (fun q51 => ?_) (fun q51 => ?_)
          · refine xi_iconst (pc' := 67) rfl rfl ?_
            refine xi_goto (pc' := 71) rfl rfl ?_
            refine xi_istore (pc' := 73) rfl (st1_7 rfl) rfl ?_
            refine xi_iload (pc' := 75) rfl rfl rfl ?_
            refine xi_iff (pc' := 78) (tg := 122) rfl rfl (by decide) rfl ?_
            refine xi_iload_n (pc' := 79) rfl rfl rfl ?_
            refine xi_iconst (pc' := 80) rfl rfl ?_
            refine xx_icmp (pc' := 83) (tg := 94) rfl rfl rfl (fun q80 => ?_) (fun q80 => ?_)
            · refine xi_iload (pc' := 96) rfl rfl rfl ?_
              refine xi_iconst (pc' := 97) rfl rfl ?_
              refine xx_icmp (pc' := 100) (tg := 122) rfl rfl rfl (fun q97 => ?_) (fun q97 => ?_)
              · refine xi_iconst (pc' := 123) rfl rfl ?_
                refine xi_istore (pc' := 125) rfl (st1_7 rfl) rfl ?_
                exact k0 (by clear k0 k1; simp only [ex_P, Classical.not_not, bI_0, okMsg, vT, vS, isC, Int32.lt_iff_toInt_lt, Int32.le_iff_toInt_le, ← Int32.toInt_inj, toI, Nat.reduceLT, Int32.toInt_zero] at *; omega)
              · refine xi_iload (pc' := 102) rfl rfl rfl ?_
                refine xi_iconst (pc' := 103) rfl rfl ?_
                refine xx_icmp (pc' := 106) (tg := 122) rfl rfl rfl (fun q103 => ?_) (fun q103 => ?_)
                · refine xi_iconst (pc' := 123) rfl rfl ?_
                  refine xi_istore (pc' := 125) rfl (st1_7 rfl) rfl ?_
                  exact k0 (by clear k0 k1; simp only [ex_P, Classical.not_not, bI_0, okMsg, vT, vS, isC, Int32.lt_iff_toInt_lt, Int32.le_iff_toInt_le, ← Int32.toInt_inj, toI, Nat.reduceLT, Int32.toInt_zero] at *; omega)
                · refine xi_iload (pc' := 108) rfl rfl rfl ?_
                  refine xi_iconst (pc' := 109) rfl rfl ?_
                  refine xx_icmp (pc' := 112) (tg := 122) rfl rfl rfl (fun q109 => ?_) (fun q109 => ?_)
                  · refine xi_iconst (pc' := 123) rfl rfl ?_
                    refine xi_istore (pc' := 125) rfl (st1_7 rfl) rfl ?_
                    exact k0 (by clear k0 k1; simp only [ex_P, Classical.not_not, bI_0, okMsg, vT, vS, isC, Int32.lt_iff_toInt_lt, Int32.le_iff_toInt_le, ← Int32.toInt_inj, toI, Nat.reduceLT, Int32.toInt_zero] at *; omega)
                  · refine xi_iload (pc' := 114) rfl rfl rfl ?_
                    refine xi_iconst (pc' := 115) rfl rfl ?_
                    refine xx_icmp (pc' := 118) (tg := 122) rfl rfl rfl (fun q115 => ?_) (fun q115 => ?_)
                    · refine xi_iconst (pc' := 123) rfl rfl ?_
                      refine xi_istore (pc' := 125) rfl (st1_7 rfl) rfl ?_
                      exact k0 (by clear k0 k1; simp only [ex_P, Classical.not_not, bI_0, okMsg, vT, vS, isC, Int32.lt_iff_toInt_lt, Int32.le_iff_toInt_le, ← Int32.toInt_inj, toI, Nat.reduceLT, Int32.toInt_zero] at *; omega)
                    · refine xi_iconst (pc' := 119) rfl rfl ?_
                      refine xi_goto (pc' := 123) rfl rfl ?_
                      refine xi_istore (pc' := 125) rfl (st1_7 rfl) rfl ?_
                      exact k1 (by clear k0 k1; simp only [ex_P, Classical.not_not, bI_0, okMsg, vT, vS, isC, Int32.lt_iff_toInt_lt, Int32.le_iff_toInt_le, ← Int32.toInt_inj, toI, Nat.reduceLT, Int32.toInt_zero] at *; omega)
            · refine xi_iload (pc' := 85) rfl rfl rfl ?_
              refine xx_callSi (pc' := 88) rfl rfl (by decide) rfl (Nat.le_of_ble_eq_true rfl) rfl rfl (r_isCode0 hc) ?_
              refine xi_ift (pc' := 122) rfl rfl (by decide) ?_
              refine xi_iconst (pc' := 123) rfl rfl ?_
              refine xi_istore (pc' := 125) rfl (st1_7 rfl) rfl ?_
              exact k0 (by clear k0 k1; simp only [ex_P, Classical.not_not, bI_0, okMsg, vT, vS, isC, Int32.lt_iff_toInt_lt, Int32.le_iff_toInt_le, ← Int32.toInt_inj, toI, Nat.reduceLT, Int32.toInt_zero] at *; omega)
          · refine xi_iload_n (pc' := 55) rfl rfl rfl ?_
            refine xx_callSi (pc' := 58) rfl rfl (by decide) rfl (Nat.le_of_ble_eq_true rfl) rfl rfl (r_isTerminal0 hy) ?_
            refine xi_ift (pc' := 70) rfl rfl (by decide) ?_
            refine xi_iconst (pc' := 71) rfl rfl ?_
            refine xi_istore (pc' := 73) rfl (st1_7 rfl) rfl ?_
            refine xi_iload (pc' := 75) rfl rfl rfl ?_
            refine xi_ift (pc' := 122) rfl rfl (by decide) ?_
            refine xi_iconst (pc' := 123) rfl rfl ?_
            refine xi_istore (pc' := 125) rfl (st1_7 rfl) rfl ?_
            exact k0 (by clear k0 k1; simp only [ex_P, Classical.not_not, bI_0, okMsg, vT, vS, isC, Int32.lt_iff_toInt_lt, Int32.le_iff_toInt_le, ← Int32.toInt_inj, toI, Nat.reduceLT, Int32.toInt_zero] at *; omega)
        · refine xi_iload_n (pc' := 43) rfl rfl rfl ?_
          refine xx_callSi (pc' := 46) rfl rfl (by decide) rfl (Nat.le_of_ble_eq_true rfl) rfl rfl (r_isTerminal1 hx) ?_
          refine xi_iff (pc' := 49) (tg := 70) rfl rfl (by decide) rfl ?_
          refine xi_iload_n (pc' := 50) rfl rfl rfl ?_
          refine xi_iconst (pc' := 51) rfl rfl ?_
          refine xx_icmp (pc' := 54) (tg := 66) rfl rfl rfl (fun q51 => ?_) (fun q51 => ?_)
          · refine xi_iconst (pc' := 67) rfl rfl ?_
            refine xi_goto (pc' := 71) rfl rfl ?_
            refine xi_istore (pc' := 73) rfl (st1_7 rfl) rfl ?_
            refine xi_iload (pc' := 75) rfl rfl rfl ?_
            refine xi_iff (pc' := 78) (tg := 122) rfl rfl (by decide) rfl ?_
            refine xi_iload_n (pc' := 79) rfl rfl rfl ?_
            refine xi_iconst (pc' := 80) rfl rfl ?_
            refine xx_icmp (pc' := 83) (tg := 94) rfl rfl rfl (fun q80 => ?_) (fun q80 => ?_)
            · refine xi_iload (pc' := 96) rfl rfl rfl ?_
              refine xi_iconst (pc' := 97) rfl rfl ?_
              refine xx_icmp (pc' := 100) (tg := 122) rfl rfl rfl (fun q97 => ?_) (fun q97 => ?_)
              · refine xi_iconst (pc' := 123) rfl rfl ?_
                refine xi_istore (pc' := 125) rfl (st1_7 rfl) rfl ?_
                exact k0 (by clear k0 k1; simp only [ex_P, Classical.not_not, bI_0, okMsg, vT, vS, isC, Int32.lt_iff_toInt_lt, Int32.le_iff_toInt_le, ← Int32.toInt_inj, toI, Nat.reduceLT, Int32.toInt_zero] at *; omega)
              · refine xi_iload (pc' := 102) rfl rfl rfl ?_
                refine xi_iconst (pc' := 103) rfl rfl ?_
                refine xx_icmp (pc' := 106) (tg := 122) rfl rfl rfl (fun q103 => ?_) (fun q103 => ?_)
                · refine xi_iconst (pc' := 123) rfl rfl ?_
                  refine xi_istore (pc' := 125) rfl (st1_7 rfl) rfl ?_
                  exact k0 (by clear k0 k1; simp only [ex_P, Classical.not_not, bI_0, okMsg, vT, vS, isC, Int32.lt_iff_toInt_lt, Int32.le_iff_toInt_le, ← Int32.toInt_inj, toI, Nat.reduceLT, Int32.toInt_zero] at *; omega)
                · refine xi_iload (pc' := 108) rfl rfl rfl ?_
                  refine xi_iconst (pc' := 109) rfl rfl ?_
                  refine xx_icmp (pc' := 112) (tg := 122) rfl rfl rfl (fun q109 => ?_) (fun q109 => ?_)
                  · refine xi_iconst (pc' := 123) rfl rfl ?_
                    refine xi_istore (pc' := 125) rfl (st1_7 rfl) rfl ?_
                    exact k0 (by clear k0 k1; simp only [ex_P, Classical.not_not, bI_0, okMsg, vT, vS, isC, Int32.lt_iff_toInt_lt, Int32.le_iff_toInt_le, ← Int32.toInt_inj, toI, Nat.reduceLT, Int32.toInt_zero] at *; omega)
                  · refine xi_iload (pc' := 114) rfl rfl rfl ?_
                    refine xi_iconst (pc' := 115) rfl rfl ?_
                    refine xx_icmp (pc' := 118) (tg := 122) rfl rfl rfl (fun q115 => ?_) (fun q115 => ?_)
                    · refine xi_iconst (pc' := 123) rfl rfl ?_
                      refine xi_istore (pc' := 125) rfl (st1_7 rfl) rfl ?_
                      exact k0 (by clear k0 k1; simp only [ex_P, Classical.not_not, bI_0, okMsg, vT, vS, isC, Int32.lt_iff_toInt_lt, Int32.le_iff_toInt_le, ← Int32.toInt_inj, toI, Nat.reduceLT, Int32.toInt_zero] at *; omega)
                    · refine xi_iconst (pc' := 119) rfl rfl ?_
                      refine xi_goto (pc' := 123) rfl rfl ?_
                      refine xi_istore (pc' := 125) rfl (st1_7 rfl) rfl ?_
                      exact k1 (by clear k0 k1; simp only [ex_P, Classical.not_not, bI_0, okMsg, vT, vS, isC, Int32.lt_iff_toInt_lt, Int32.le_iff_toInt_le, ← Int32.toInt_inj, toI, Nat.reduceLT, Int32.toInt_zero] at *; omega)
            · refine xi_iload (pc' := 85) rfl rfl rfl ?_
              refine xx_callSi (pc' := 88) rfl rfl (by decide) rfl (Nat.le_of_ble_eq_true rfl) rfl rfl (r_isCode0 hc) ?_
              refine xi_ift (pc' := 122) rfl rfl (by decide) ?_
              refine xi_iconst (pc' := 123) rfl rfl ?_
              refine xi_istore (pc' := 125) rfl (st1_7 rfl) rfl ?_
              exact k0 (by clear k0 k1; simp only [ex_P, Classical.not_not, bI_0, okMsg, vT, vS, isC, Int32.lt_iff_toInt_lt, Int32.le_iff_toInt_le, ← Int32.toInt_inj, toI, Nat.reduceLT, Int32.toInt_zero] at *; omega)
          · refine xi_iload_n (pc' := 55) rfl rfl rfl ?_
            refine xx_callSi (pc' := 58) rfl rfl (by decide) rfl (Nat.le_of_ble_eq_true rfl) rfl rfl (r_isTerminal0 hy) ?_
            refine xi_ift (pc' := 70) rfl rfl (by decide) ?_
            refine xi_iconst (pc' := 71) rfl rfl ?_
            refine xi_istore (pc' := 73) rfl (st1_7 rfl) rfl ?_
            refine xi_iload (pc' := 75) rfl rfl rfl ?_
            refine xi_ift (pc' := 122) rfl rfl (by decide) ?_
            refine xi_iconst (pc' := 123) rfl rfl ?_
            refine xi_istore (pc' := 125) rfl (st1_7 rfl) rfl ?_
            exact k0 (by clear k0 k1; simp only [ex_P, Classical.not_not, bI_0, okMsg, vT, vS, isC, Int32.lt_iff_toInt_lt, Int32.le_iff_toInt_le, ← Int32.toInt_inj, toI, Nat.reduceLT, Int32.toInt_zero] at *; omega)
      · refine xi_iload (pc' := 27) rfl rfl rfl ?_
        refine xi_iconst (pc' := 28) rfl rfl ?_
        refine xx_icmp (pc' := 31) (tg := 37) rfl rfl rfl (fun q28 => ?_) (fun q28 => ?_)
        · refine xi_iload_n (pc' := 38) rfl rfl rfl ?_
          refine xi_iconst (pc' := 39) rfl rfl ?_
          refine xx_icmp (pc' := 42) (tg := 49) rfl rfl rfl (fun q39 => ?_) (fun q39 => ?_)
          · refine xi_iload_n (pc' := 50) rfl rfl rfl ?_
            refine xi_iconst (pc' := 51) rfl rfl ?_
            refine xx_icmp (pc' := 54) (tg := 66) rfl rfl rfl (fun q51 => ?_) (fun q51 => ?_)
            · refine xi_iconst (pc' := 67) rfl rfl ?_
              refine xi_goto (pc' := 71) rfl rfl ?_
              refine xi_istore (pc' := 73) rfl (st1_7 rfl) rfl ?_
              refine xi_iload (pc' := 75) rfl rfl rfl ?_
              refine xi_iff (pc' := 78) (tg := 122) rfl rfl (by decide) rfl ?_
              refine xi_iload_n (pc' := 79) rfl rfl rfl ?_
              refine xi_iconst (pc' := 80) rfl rfl ?_
              refine xx_icmp (pc' := 83) (tg := 94) rfl rfl rfl (fun q80 => ?_) (fun q80 => ?_)
              · refine xi_iload (pc' := 96) rfl rfl rfl ?_
                refine xi_iconst (pc' := 97) rfl rfl ?_
                refine xx_icmp (pc' := 100) (tg := 122) rfl rfl rfl (fun q97 => ?_) (fun q97 => ?_)
                · refine xi_iconst (pc' := 123) rfl rfl ?_
                  refine xi_istore (pc' := 125) rfl (st1_7 rfl) rfl ?_
                  exact k0 (by clear k0 k1; simp only [ex_P, Classical.not_not, bI_0, okMsg, vT, vS, isC, Int32.lt_iff_toInt_lt, Int32.le_iff_toInt_le, ← Int32.toInt_inj, toI, Nat.reduceLT, Int32.toInt_zero] at *; omega)
                · refine xi_iload (pc' := 102) rfl rfl rfl ?_
                  refine xi_iconst (pc' := 103) rfl rfl ?_
                  refine xx_icmp (pc' := 106) (tg := 122) rfl rfl rfl (fun q103 => ?_) (fun q103 => ?_)
                  · refine xi_iconst (pc' := 123) rfl rfl ?_
                    refine xi_istore (pc' := 125) rfl (st1_7 rfl) rfl ?_
                    exact k0 (by clear k0 k1; simp only [ex_P, Classical.not_not, bI_0, okMsg, vT, vS, isC, Int32.lt_iff_toInt_lt, Int32.le_iff_toInt_le, ← Int32.toInt_inj, toI, Nat.reduceLT, Int32.toInt_zero] at *; omega)
                  · refine xi_iload (pc' := 108) rfl rfl rfl ?_
                    refine xi_iconst (pc' := 109) rfl rfl ?_
                    refine xx_icmp (pc' := 112) (tg := 122) rfl rfl rfl (fun q109 => ?_) (fun q109 => ?_)
                    · refine xi_iconst (pc' := 123) rfl rfl ?_
                      refine xi_istore (pc' := 125) rfl (st1_7 rfl) rfl ?_
                      exact k0 (by clear k0 k1; simp only [ex_P, Classical.not_not, bI_0, okMsg, vT, vS, isC, Int32.lt_iff_toInt_lt, Int32.le_iff_toInt_le, ← Int32.toInt_inj, toI, Nat.reduceLT, Int32.toInt_zero] at *; omega)
                    · refine xi_iload (pc' := 114) rfl rfl rfl ?_
                      refine xi_iconst (pc' := 115) rfl rfl ?_
                      refine xx_icmp (pc' := 118) (tg := 122) rfl rfl rfl (fun q115 => ?_) (fun q115 => ?_)
                      · refine xi_iconst (pc' := 123) rfl rfl ?_
                        refine xi_istore (pc' := 125) rfl (st1_7 rfl) rfl ?_
                        exact k0 (by clear k0 k1; simp only [ex_P, Classical.not_not, bI_0, okMsg, vT, vS, isC, Int32.lt_iff_toInt_lt, Int32.le_iff_toInt_le, ← Int32.toInt_inj, toI, Nat.reduceLT, Int32.toInt_zero] at *; omega)
                      · refine xi_iconst (pc' := 119) rfl rfl ?_
                        refine xi_goto (pc' := 123) rfl rfl ?_
                        refine xi_istore (pc' := 125) rfl (st1_7 rfl) rfl ?_
                        exact k1 (by clear k0 k1; simp only [ex_P, Classical.not_not, bI_0, okMsg, vT, vS, isC, Int32.lt_iff_toInt_lt, Int32.le_iff_toInt_le, ← Int32.toInt_inj, toI, Nat.reduceLT, Int32.toInt_zero] at *; omega)
              · refine xi_iload (pc' := 85) rfl rfl rfl ?_
                refine xx_callSi (pc' := 88) rfl rfl (by decide) rfl (Nat.le_of_ble_eq_true rfl) rfl rfl (r_isCode0 hc) ?_
                refine xi_ift (pc' := 122) rfl rfl (by decide) ?_
                refine xi_iconst (pc' := 123) rfl rfl ?_
                refine xi_istore (pc' := 125) rfl (st1_7 rfl) rfl ?_
                exact k0 (by clear k0 k1; simp only [ex_P, Classical.not_not, bI_0, okMsg, vT, vS, isC, Int32.lt_iff_toInt_lt, Int32.le_iff_toInt_le, ← Int32.toInt_inj, toI, Nat.reduceLT, Int32.toInt_zero] at *; omega)
            · refine xi_iload_n (pc' := 55) rfl rfl rfl ?_
              refine xx_callSi (pc' := 58) rfl rfl (by decide) rfl (Nat.le_of_ble_eq_true rfl) rfl rfl (r_isTerminal0 hy) ?_
              refine xi_ift (pc' := 70) rfl rfl (by decide) ?_
              refine xi_iconst (pc' := 71) rfl rfl ?_
              refine xi_istore (pc' := 73) rfl (st1_7 rfl) rfl ?_
              refine xi_iload (pc' := 75) rfl rfl rfl ?_
              refine xi_ift (pc' := 122) rfl rfl (by decide) ?_
              refine xi_iconst (pc' := 123) rfl rfl ?_
              refine xi_istore (pc' := 125) rfl (st1_7 rfl) rfl ?_
              exact k0 (by clear k0 k1; simp only [ex_P, Classical.not_not, bI_0, okMsg, vT, vS, isC, Int32.lt_iff_toInt_lt, Int32.le_iff_toInt_le, ← Int32.toInt_inj, toI, Nat.reduceLT, Int32.toInt_zero] at *; omega)
          · refine xi_iload_n (pc' := 43) rfl rfl rfl ?_
            refine xx_callSi (pc' := 46) rfl rfl (by decide) rfl (Nat.le_of_ble_eq_true rfl) rfl rfl (r_isTerminal1 hx) ?_
            refine xi_iff (pc' := 49) (tg := 70) rfl rfl (by decide) rfl ?_
            refine xi_iload_n (pc' := 50) rfl rfl rfl ?_
            refine xi_iconst (pc' := 51) rfl rfl ?_
            refine xx_icmp (pc' := 54) (tg := 66) rfl rfl rfl (fun q51 => ?_) (fun q51 => ?_)
            · refine xi_iconst (pc' := 67) rfl rfl ?_
              refine xi_goto (pc' := 71) rfl rfl ?_
              refine xi_istore (pc' := 73) rfl (st1_7 rfl) rfl ?_
              refine xi_iload (pc' := 75) rfl rfl rfl ?_
              refine xi_iff (pc' := 78) (tg := 122) rfl rfl (by decide) rfl ?_
              refine xi_iload_n (pc' := 79) rfl rfl rfl ?_
              refine xi_iconst (pc' := 80) rfl rfl ?_
              refine xx_icmp (pc' := 83) (tg := 94) rfl rfl rfl (fun q80 => ?_) (fun q80 => ?_)
              · refine xi_iload (pc' := 96) rfl rfl rfl ?_
                refine xi_iconst (pc' := 97) rfl rfl ?_
                refine xx_icmp (pc' := 100) (tg := 122) rfl rfl rfl (fun q97 => ?_) (fun q97 => ?_)
                · refine xi_iconst (pc' := 123) rfl rfl ?_
                  refine xi_istore (pc' := 125) rfl (st1_7 rfl) rfl ?_
                  exact k0 (by clear k0 k1; simp only [ex_P, Classical.not_not, bI_0, okMsg, vT, vS, isC, Int32.lt_iff_toInt_lt, Int32.le_iff_toInt_le, ← Int32.toInt_inj, toI, Nat.reduceLT, Int32.toInt_zero] at *; omega)
                · refine xi_iload (pc' := 102) rfl rfl rfl ?_
                  refine xi_iconst (pc' := 103) rfl rfl ?_
                  refine xx_icmp (pc' := 106) (tg := 122) rfl rfl rfl (fun q103 => ?_) (fun q103 => ?_)
                  · refine xi_iconst (pc' := 123) rfl rfl ?_
                    refine xi_istore (pc' := 125) rfl (st1_7 rfl) rfl ?_
                    exact k0 (by clear k0 k1; simp only [ex_P, Classical.not_not, bI_0, okMsg, vT, vS, isC, Int32.lt_iff_toInt_lt, Int32.le_iff_toInt_le, ← Int32.toInt_inj, toI, Nat.reduceLT, Int32.toInt_zero] at *; omega)
                  · refine xi_iload (pc' := 108) rfl rfl rfl ?_
                    refine xi_iconst (pc' := 109) rfl rfl ?_
                    refine xx_icmp (pc' := 112) (tg := 122) rfl rfl rfl (fun q109 => ?_) (fun q109 => ?_)
                    · refine xi_iconst (pc' := 123) rfl rfl ?_
                      refine xi_istore (pc' := 125) rfl (st1_7 rfl) rfl ?_
                      exact k0 (by clear k0 k1; simp only [ex_P, Classical.not_not, bI_0, okMsg, vT, vS, isC, Int32.lt_iff_toInt_lt, Int32.le_iff_toInt_le, ← Int32.toInt_inj, toI, Nat.reduceLT, Int32.toInt_zero] at *; omega)
                    · refine xi_iload (pc' := 114) rfl rfl rfl ?_
                      refine xi_iconst (pc' := 115) rfl rfl ?_
                      refine xx_icmp (pc' := 118) (tg := 122) rfl rfl rfl (fun q115 => ?_) (fun q115 => ?_)
                      · refine xi_iconst (pc' := 123) rfl rfl ?_
                        refine xi_istore (pc' := 125) rfl (st1_7 rfl) rfl ?_
                        exact k0 (by clear k0 k1; simp only [ex_P, Classical.not_not, bI_0, okMsg, vT, vS, isC, Int32.lt_iff_toInt_lt, Int32.le_iff_toInt_le, ← Int32.toInt_inj, toI, Nat.reduceLT, Int32.toInt_zero] at *; omega)
                      · refine xi_iconst (pc' := 119) rfl rfl ?_
                        refine xi_goto (pc' := 123) rfl rfl ?_
                        refine xi_istore (pc' := 125) rfl (st1_7 rfl) rfl ?_
                        exact k1 (by clear k0 k1; simp only [ex_P, Classical.not_not, bI_0, okMsg, vT, vS, isC, Int32.lt_iff_toInt_lt, Int32.le_iff_toInt_le, ← Int32.toInt_inj, toI, Nat.reduceLT, Int32.toInt_zero] at *; omega)
              · refine xi_iload (pc' := 85) rfl rfl rfl ?_
                refine xx_callSi (pc' := 88) rfl rfl (by decide) rfl (Nat.le_of_ble_eq_true rfl) rfl rfl (r_isCode0 hc) ?_
                refine xi_ift (pc' := 122) rfl rfl (by decide) ?_
                refine xi_iconst (pc' := 123) rfl rfl ?_
                refine xi_istore (pc' := 125) rfl (st1_7 rfl) rfl ?_
                exact k0 (by clear k0 k1; simp only [ex_P, Classical.not_not, bI_0, okMsg, vT, vS, isC, Int32.lt_iff_toInt_lt, Int32.le_iff_toInt_le, ← Int32.toInt_inj, toI, Nat.reduceLT, Int32.toInt_zero] at *; omega)
            · refine xi_iload_n (pc' := 55) rfl rfl rfl ?_
              refine xx_callSi (pc' := 58) rfl rfl (by decide) rfl (Nat.le_of_ble_eq_true rfl) rfl rfl (r_isTerminal0 hy) ?_
              refine xi_ift (pc' := 70) rfl rfl (by decide) ?_
              refine xi_iconst (pc' := 71) rfl rfl ?_
              refine xi_istore (pc' := 73) rfl (st1_7 rfl) rfl ?_
              refine xi_iload (pc' := 75) rfl rfl rfl ?_
              refine xi_ift (pc' := 122) rfl rfl (by decide) ?_
              refine xi_iconst (pc' := 123) rfl rfl ?_
              refine xi_istore (pc' := 125) rfl (st1_7 rfl) rfl ?_
              exact k0 (by clear k0 k1; simp only [ex_P, Classical.not_not, bI_0, okMsg, vT, vS, isC, Int32.lt_iff_toInt_lt, Int32.le_iff_toInt_le, ← Int32.toInt_inj, toI, Nat.reduceLT, Int32.toInt_zero] at *; omega)
        · refine xi_iload (pc' := 33) rfl rfl rfl ?_
          refine xi_iconst (pc' := 34) rfl rfl ?_
          refine xx_icmp (pc' := 37) (tg := 70) rfl rfl rfl (fun q34 => ?_) (fun q34 => ?_)
          · refine xi_iconst (pc' := 71) rfl rfl ?_
            refine xi_istore (pc' := 73) rfl (st1_7 rfl) rfl ?_
            refine xi_iload (pc' := 75) rfl rfl rfl ?_
            refine xi_ift (pc' := 122) rfl rfl (by decide) ?_
            refine xi_iconst (pc' := 123) rfl rfl ?_
            refine xi_istore (pc' := 125) rfl (st1_7 rfl) rfl ?_
            exact k0 (by clear k0 k1; simp only [ex_P, Classical.not_not, bI_0, okMsg, vT, vS, isC, Int32.lt_iff_toInt_lt, Int32.le_iff_toInt_le, ← Int32.toInt_inj, toI, Nat.reduceLT, Int32.toInt_zero] at *; omega)
          · refine xi_iload_n (pc' := 38) rfl rfl rfl ?_
            refine xi_iconst (pc' := 39) rfl rfl ?_
            refine xx_icmp (pc' := 42) (tg := 49) rfl rfl rfl (fun q39 => ?_) (fun q39 => ?_)
            · refine xi_iload_n (pc' := 50) rfl rfl rfl ?_
              refine xi_iconst (pc' := 51) rfl rfl ?_
              refine xx_icmp (pc' := 54) (tg := 66) rfl rfl rfl (fun q51 => ?_) (fun q51 => ?_)
              · refine xi_iconst (pc' := 67) rfl rfl ?_
                refine xi_goto (pc' := 71) rfl rfl ?_
                refine xi_istore (pc' := 73) rfl (st1_7 rfl) rfl ?_
                refine xi_iload (pc' := 75) rfl rfl rfl ?_
                refine xi_iff (pc' := 78) (tg := 122) rfl rfl (by decide) rfl ?_
                refine xi_iload_n (pc' := 79) rfl rfl rfl ?_
                refine xi_iconst (pc' := 80) rfl rfl ?_
                refine xx_icmp (pc' := 83) (tg := 94) rfl rfl rfl (fun q80 => ?_) (fun q80 => ?_)
                · refine xi_iload (pc' := 96) rfl rfl rfl ?_
                  refine xi_iconst (pc' := 97) rfl rfl ?_
                  refine xx_icmp (pc' := 100) (tg := 122) rfl rfl rfl (fun q97 => ?_) (fun q97 => ?_)
                  · refine xi_iconst (pc' := 123) rfl rfl ?_
                    refine xi_istore (pc' := 125) rfl (st1_7 rfl) rfl ?_
                    exact k0 (by clear k0 k1; simp only [ex_P, Classical.not_not, bI_0, okMsg, vT, vS, isC, Int32.lt_iff_toInt_lt, Int32.le_iff_toInt_le, ← Int32.toInt_inj, toI, Nat.reduceLT, Int32.toInt_zero] at *; omega)
                  · refine xi_iload (pc' := 102) rfl rfl rfl ?_
                    refine xi_iconst (pc' := 103) rfl rfl ?_
                    refine xx_icmp (pc' := 106) (tg := 122) rfl rfl rfl (fun q103 => ?_) (fun q103 => ?_)
                    · refine xi_iconst (pc' := 123) rfl rfl ?_
                      refine xi_istore (pc' := 125) rfl (st1_7 rfl) rfl ?_
                      exact k0 (by clear k0 k1; simp only [ex_P, Classical.not_not, bI_0, okMsg, vT, vS, isC, Int32.lt_iff_toInt_lt, Int32.le_iff_toInt_le, ← Int32.toInt_inj, toI, Nat.reduceLT, Int32.toInt_zero] at *; omega)
                    · refine xi_iload (pc' := 108) rfl rfl rfl ?_
                      refine xi_iconst (pc' := 109) rfl rfl ?_
                      refine xx_icmp (pc' := 112) (tg := 122) rfl rfl rfl (fun q109 => ?_) (fun q109 => ?_)
                      · refine xi_iconst (pc' := 123) rfl rfl ?_
                        refine xi_istore (pc' := 125) rfl (st1_7 rfl) rfl ?_
                        exact k0 (by clear k0 k1; simp only [ex_P, Classical.not_not, bI_0, okMsg, vT, vS, isC, Int32.lt_iff_toInt_lt, Int32.le_iff_toInt_le, ← Int32.toInt_inj, toI, Nat.reduceLT, Int32.toInt_zero] at *; omega)
                      · refine xi_iload (pc' := 114) rfl rfl rfl ?_
                        refine xi_iconst (pc' := 115) rfl rfl ?_
                        refine xx_icmp (pc' := 118) (tg := 122) rfl rfl rfl (fun q115 => ?_) (fun q115 => ?_)
                        · refine xi_iconst (pc' := 123) rfl rfl ?_
                          refine xi_istore (pc' := 125) rfl (st1_7 rfl) rfl ?_
                          exact k0 (by clear k0 k1; simp only [ex_P, Classical.not_not, bI_0, okMsg, vT, vS, isC, Int32.lt_iff_toInt_lt, Int32.le_iff_toInt_le, ← Int32.toInt_inj, toI, Nat.reduceLT, Int32.toInt_zero] at *; omega)
                        · refine xi_iconst (pc' := 119) rfl rfl ?_
                          refine xi_goto (pc' := 123) rfl rfl ?_
                          refine xi_istore (pc' := 125) rfl (st1_7 rfl) rfl ?_
                          exact k1 (by clear k0 k1; simp only [ex_P, Classical.not_not, bI_0, okMsg, vT, vS, isC, Int32.lt_iff_toInt_lt, Int32.le_iff_toInt_le, ← Int32.toInt_inj, toI, Nat.reduceLT, Int32.toInt_zero] at *; omega)
                · refine xi_iload (pc' := 85) rfl rfl rfl ?_
                  refine xx_callSi (pc' := 88) rfl rfl (by decide) rfl (Nat.le_of_ble_eq_true rfl) rfl rfl (r_isCode0 hc) ?_
                  refine xi_ift (pc' := 122) rfl rfl (by decide) ?_
                  refine xi_iconst (pc' := 123) rfl rfl ?_
                  refine xi_istore (pc' := 125) rfl (st1_7 rfl) rfl ?_
                  exact k0 (by clear k0 k1; simp only [ex_P, Classical.not_not, bI_0, okMsg, vT, vS, isC, Int32.lt_iff_toInt_lt, Int32.le_iff_toInt_le, ← Int32.toInt_inj, toI, Nat.reduceLT, Int32.toInt_zero] at *; omega)
              · refine xi_iload_n (pc' := 55) rfl rfl rfl ?_
                refine xx_callSi (pc' := 58) rfl rfl (by decide) rfl (Nat.le_of_ble_eq_true rfl) rfl rfl (r_isTerminal0 hy) ?_
                refine xi_ift (pc' := 70) rfl rfl (by decide) ?_
                refine xi_iconst (pc' := 71) rfl rfl ?_
                refine xi_istore (pc' := 73) rfl (st1_7 rfl) rfl ?_
                refine xi_iload (pc' := 75) rfl rfl rfl ?_
                refine xi_ift (pc' := 122) rfl rfl (by decide) ?_
                refine xi_iconst (pc' := 123) rfl rfl ?_
                refine xi_istore (pc' := 125) rfl (st1_7 rfl) rfl ?_
                exact k0 (by clear k0 k1; simp only [ex_P, Classical.not_not, bI_0, okMsg, vT, vS, isC, Int32.lt_iff_toInt_lt, Int32.le_iff_toInt_le, ← Int32.toInt_inj, toI, Nat.reduceLT, Int32.toInt_zero] at *; omega)
            · refine xi_iload_n (pc' := 43) rfl rfl rfl ?_
              refine xx_callSi (pc' := 46) rfl rfl (by decide) rfl (Nat.le_of_ble_eq_true rfl) rfl rfl (r_isTerminal1 hx) ?_
              refine xi_iff (pc' := 49) (tg := 70) rfl rfl (by decide) rfl ?_
              refine xi_iload_n (pc' := 50) rfl rfl rfl ?_
              refine xi_iconst (pc' := 51) rfl rfl ?_
              refine xx_icmp (pc' := 54) (tg := 66) rfl rfl rfl (fun q51 => ?_) (fun q51 => ?_)
              · refine xi_iconst (pc' := 67) rfl rfl ?_
                refine xi_goto (pc' := 71) rfl rfl ?_
                refine xi_istore (pc' := 73) rfl (st1_7 rfl) rfl ?_
                refine xi_iload (pc' := 75) rfl rfl rfl ?_
                refine xi_iff (pc' := 78) (tg := 122) rfl rfl (by decide) rfl ?_
                refine xi_iload_n (pc' := 79) rfl rfl rfl ?_
                refine xi_iconst (pc' := 80) rfl rfl ?_
                refine xx_icmp (pc' := 83) (tg := 94) rfl rfl rfl (fun q80 => ?_) (fun q80 => ?_)
                · refine xi_iload (pc' := 96) rfl rfl rfl ?_
                  refine xi_iconst (pc' := 97) rfl rfl ?_
                  refine xx_icmp (pc' := 100) (tg := 122) rfl rfl rfl (fun q97 => ?_) (fun q97 => ?_)
                  · refine xi_iconst (pc' := 123) rfl rfl ?_
                    refine xi_istore (pc' := 125) rfl (st1_7 rfl) rfl ?_
                    exact k0 (by clear k0 k1; simp only [ex_P, Classical.not_not, bI_0, okMsg, vT, vS, isC, Int32.lt_iff_toInt_lt, Int32.le_iff_toInt_le, ← Int32.toInt_inj, toI, Nat.reduceLT, Int32.toInt_zero] at *; omega)
                  · refine xi_iload (pc' := 102) rfl rfl rfl ?_
                    refine xi_iconst (pc' := 103) rfl rfl ?_
                    refine xx_icmp (pc' := 106) (tg := 122) rfl rfl rfl (fun q103 => ?_) (fun q103 => ?_)
                    · refine xi_iconst (pc' := 123) rfl rfl ?_
                      refine xi_istore (pc' := 125) rfl (st1_7 rfl) rfl ?_
                      exact k0 (by clear k0 k1; simp only [ex_P, Classical.not_not, bI_0, okMsg, vT, vS, isC, Int32.lt_iff_toInt_lt, Int32.le_iff_toInt_le, ← Int32.toInt_inj, toI, Nat.reduceLT, Int32.toInt_zero] at *; omega)
                    · refine xi_iload (pc' := 108) rfl rfl rfl ?_
                      refine xi_iconst (pc' := 109) rfl rfl ?_
                      refine xx_icmp (pc' := 112) (tg := 122) rfl rfl rfl (fun q109 => ?_) (fun q109 => ?_)
                      · refine xi_iconst (pc' := 123) rfl rfl ?_
                        refine xi_istore (pc' := 125) rfl (st1_7 rfl) rfl ?_
                        exact k0 (by clear k0 k1; simp only [ex_P, Classical.not_not, bI_0, okMsg, vT, vS, isC, Int32.lt_iff_toInt_lt, Int32.le_iff_toInt_le, ← Int32.toInt_inj, toI, Nat.reduceLT, Int32.toInt_zero] at *; omega)
                      · refine xi_iload (pc' := 114) rfl rfl rfl ?_
                        refine xi_iconst (pc' := 115) rfl rfl ?_
                        refine xx_icmp (pc' := 118) (tg := 122) rfl rfl rfl (fun q115 => ?_) (fun q115 => ?_)
                        · refine xi_iconst (pc' := 123) rfl rfl ?_
                          refine xi_istore (pc' := 125) rfl (st1_7 rfl) rfl ?_
                          exact k0 (by clear k0 k1; simp only [ex_P, Classical.not_not, bI_0, okMsg, vT, vS, isC, Int32.lt_iff_toInt_lt, Int32.le_iff_toInt_le, ← Int32.toInt_inj, toI, Nat.reduceLT, Int32.toInt_zero] at *; omega)
                        · refine xi_iconst (pc' := 119) rfl rfl ?_
                          refine xi_goto (pc' := 123) rfl rfl ?_
                          refine xi_istore (pc' := 125) rfl (st1_7 rfl) rfl ?_
                          exact k1 (by clear k0 k1; simp only [ex_P, Classical.not_not, bI_0, okMsg, vT, vS, isC, Int32.lt_iff_toInt_lt, Int32.le_iff_toInt_le, ← Int32.toInt_inj, toI, Nat.reduceLT, Int32.toInt_zero] at *; omega)
                · refine xi_iload (pc' := 85) rfl rfl rfl ?_
                  refine xx_callSi (pc' := 88) rfl rfl (by decide) rfl (Nat.le_of_ble_eq_true rfl) rfl rfl (r_isCode0 hc) ?_
                  refine xi_ift (pc' := 122) rfl rfl (by decide) ?_
                  refine xi_iconst (pc' := 123) rfl rfl ?_
                  refine xi_istore (pc' := 125) rfl (st1_7 rfl) rfl ?_
                  exact k0 (by clear k0 k1; simp only [ex_P, Classical.not_not, bI_0, okMsg, vT, vS, isC, Int32.lt_iff_toInt_lt, Int32.le_iff_toInt_le, ← Int32.toInt_inj, toI, Nat.reduceLT, Int32.toInt_zero] at *; omega)
              · refine xi_iload_n (pc' := 55) rfl rfl rfl ?_
                refine xx_callSi (pc' := 58) rfl rfl (by decide) rfl (Nat.le_of_ble_eq_true rfl) rfl rfl (r_isTerminal0 hy) ?_
                refine xi_ift (pc' := 70) rfl rfl (by decide) ?_
                refine xi_iconst (pc' := 71) rfl rfl ?_
                refine xi_istore (pc' := 73) rfl (st1_7 rfl) rfl ?_
                refine xi_iload (pc' := 75) rfl rfl rfl ?_
                refine xi_ift (pc' := 122) rfl rfl (by decide) ?_
                refine xi_iconst (pc' := 123) rfl rfl ?_
                refine xi_istore (pc' := 125) rfl (st1_7 rfl) rfl ?_
                exact k0 (by clear k0 k1; simp only [ex_P, Classical.not_not, bI_0, okMsg, vT, vS, isC, Int32.lt_iff_toInt_lt, Int32.le_iff_toInt_le, ← Int32.toInt_inj, toI, Nat.reduceLT, Int32.toInt_zero] at *; omega)
theorem r_msg_011 {L : Nat} {xs : Nat → Int32} {D n : Nat} {I J : ex_Mem} {kind x y s nn per : Int32} {Q : Option Value → ex_Hp → Prop} (k1 : okMsg kind x y s nn per → xx cb_G L xs (D + 1) 94 125 [.ref 52, .int kind, .int x, .int y, .int s, .int nn, .int per, .int (nI 1)] [] (mkH n I J) Q) (k0 : ¬ okMsg kind x y s nn per → xx cb_G L xs (D + 1) 94 125 [.ref 52, .int kind, .int x, .int y, .int s, .int nn, .int per, .int (nI 0)] [] (mkH n I J) Q) (hx : ¬ vT x) (hy : vT y) (hc : isC nn) : xx cb_G L xs (D + 1) 94 10 [.ref 52, .int kind, .int x, .int y, .int s, .int nn, .int per, ex_no] [] (mkH n I J) Q := by
  refine xi_iload_n (pc' := 11) rfl rfl rfl ?_
  refine xx_if (pc' := 14) (tg := 70) rfl rfl rfl (fun q11 => ?_) (fun q11 => ?_)
  · refine xi_iconst (pc' := 71) rfl rfl ?_
    refine xi_istore (pc' := 73) rfl (st1_7 rfl) rfl ?_
    refine xi_iload (pc' := 75) rfl rfl rfl ?_
    refine xi_ift (pc' := 122) rfl rfl (by decide) ?_
    refine xi_iconst (pc' := 123) rfl rfl ?_
    refine xi_istore (pc' := 125) rfl (st1_7 rfl) rfl ?_
    exact k0 (by clear k0 k1; simp only [ex_P, Classical.not_not, bI_0, okMsg, vT, vS, isC, Int32.lt_iff_toInt_lt, Int32.le_iff_toInt_le, ← Int32.toInt_inj, toI, Nat.reduceLT, Int32.toInt_zero] at *; omega)
  · refine xi_iload_n (pc' := 15) rfl rfl rfl ?_
    refine xi_iconst (pc' := 16) rfl rfl ?_
    refine xx_icmp (pc' := 19) (tg := 70) rfl rfl rfl (fun q16 => ?_) (fun q16 => ?_)
    · refine xi_iconst (pc' := 71) rfl rfl ?_
      refine xi_istore (pc' := 73) rfl (st1_7 rfl) rfl ?_
      refine xi_iload (pc' := 75) rfl rfl rfl ?_
      refine xi_ift (pc' := 122) rfl rfl (by decide) ?_
      refine xi_iconst (pc' := 123) rfl rfl ?_
      refine xi_istore (pc' := 125) rfl (st1_7 rfl) rfl ?_
      exact k0 (by clear k0 k1; simp only [ex_P, Classical.not_not, bI_0, okMsg, vT, vS, isC, Int32.lt_iff_toInt_lt, Int32.le_iff_toInt_le, ← Int32.toInt_inj, toI, Nat.reduceLT, Int32.toInt_zero] at *; omega)
    · refine xi_iload (pc' := 21) rfl rfl rfl ?_
      refine xi_iconst (pc' := 22) rfl rfl ?_
      refine xx_icmp (pc' := 25) (tg := 37) rfl rfl rfl (fun q22 => ?_) (fun q22 => ?_)
      · refine xi_iload_n (pc' := 38) rfl rfl rfl ?_
        refine xi_iconst (pc' := 39) rfl rfl ?_
        refine xx_icmp (pc' := 42) (tg := 49) rfl rfl rfl (fun q39 => ?_) (fun q39 => ?_)
        · refine xi_iload_n (pc' := 50) rfl rfl rfl ?_
          refine xi_iconst (pc' := 51) rfl rfl ?_
          refine xx_icmp (pc' := 54) (tg := 66) rfl rfl rfl (fun q51 => ?_) (fun q51 => ?_)
          · refine xi_iconst (pc' := 67) rfl rfl ?_
            refine xi_goto (pc' := 71) rfl rfl ?_
            refine xi_istore (pc' := 73) rfl (st1_7 rfl) rfl ?_
            refine xi_iload (pc' := 75) rfl rfl rfl ?_
            refine xi_iff (pc' := 78) (tg := 122) rfl rfl (by decide) rfl ?_
            refine xi_iload_n (pc' := 79) rfl rfl rfl ?_
            refine xi_iconst (pc' := 80) rfl rfl ?_
            refine xx_icmp (pc' := 83) (tg := 94) rfl rfl rfl (fun q80 => ?_) (fun q80 => ?_)
            · refine xi_iload (pc' := 96) rfl rfl rfl ?_
              refine xi_iconst (pc' := 97) rfl rfl ?_
              refine xx_icmp (pc' := 100) (tg := 122) rfl rfl rfl (fun q97 => ?_) (fun q97 => ?_)
              · refine xi_iconst (pc' := 123) rfl rfl ?_
                refine xi_istore (pc' := 125) rfl (st1_7 rfl) rfl ?_
                exact k0 (by clear k0 k1; simp only [ex_P, Classical.not_not, bI_0, okMsg, vT, vS, isC, Int32.lt_iff_toInt_lt, Int32.le_iff_toInt_le, ← Int32.toInt_inj, toI, Nat.reduceLT, Int32.toInt_zero] at *; omega)
              · refine xi_iload (pc' := 102) rfl rfl rfl ?_
                refine xi_iconst (pc' := 103) rfl rfl ?_
                refine xx_icmp (pc' := 106) (tg := 122) rfl rfl rfl (fun q103 => ?_) (fun q103 => ?_)
                · refine xi_iconst (pc' := 123) rfl rfl ?_
                  refine xi_istore (pc' := 125) rfl (st1_7 rfl) rfl ?_
                  exact k0 (by clear k0 k1; simp only [ex_P, Classical.not_not, bI_0, okMsg, vT, vS, isC, Int32.lt_iff_toInt_lt, Int32.le_iff_toInt_le, ← Int32.toInt_inj, toI, Nat.reduceLT, Int32.toInt_zero] at *; omega)
                · refine xi_iload (pc' := 108) rfl rfl rfl ?_
                  refine xi_iconst (pc' := 109) rfl rfl ?_
                  refine xx_icmp (pc' := 112) (tg := 122) rfl rfl rfl (fun q109 => ?_) (fun q109 => ?_)
                  · refine xi_iconst (pc' := 123) rfl rfl ?_
                    refine xi_istore (pc' := 125) rfl (st1_7 rfl) rfl ?_
                    exact k0 (by clear k0 k1; simp only [ex_P, Classical.not_not, bI_0, okMsg, vT, vS, isC, Int32.lt_iff_toInt_lt, Int32.le_iff_toInt_le, ← Int32.toInt_inj, toI, Nat.reduceLT, Int32.toInt_zero] at *; omega)
                  · refine xi_iload (pc' := 114) rfl rfl rfl ?_
                    refine xi_iconst (pc' := 115) rfl rfl ?_
                    refine xx_icmp (pc' := 118) (tg := 122) rfl rfl rfl (fun q115 => ?_) (fun q115 => ?_)
                    · refine xi_iconst (pc' := 123) rfl rfl ?_
                      refine xi_istore (pc' := 125) rfl (st1_7 rfl) rfl ?_
                      exact k0 (by clear k0 k1; simp only [ex_P, Classical.not_not, bI_0, okMsg, vT, vS, isC, Int32.lt_iff_toInt_lt, Int32.le_iff_toInt_le, ← Int32.toInt_inj, toI, Nat.reduceLT, Int32.toInt_zero] at *; omega)
                    · refine xi_iconst (pc' := 119) rfl rfl ?_
                      refine xi_goto (pc' := 123) rfl rfl ?_
                      refine xi_istore (pc' := 125) rfl (st1_7 rfl) rfl ?_
                      exact k1 (by clear k0 k1; simp only [ex_P, Classical.not_not, bI_0, okMsg, vT, vS, isC, Int32.lt_iff_toInt_lt, Int32.le_iff_toInt_le, ← Int32.toInt_inj, toI, Nat.reduceLT, Int32.toInt_zero] at *; omega)
            · refine xi_iload (pc' := 85) rfl rfl rfl ?_
              refine xx_callSi (pc' := 88) rfl rfl (by decide) rfl (Nat.le_of_ble_eq_true rfl) rfl rfl (r_isCode1 hc) ?_
              refine xi_iff (pc' := 91) (tg := 122) rfl rfl (by decide) rfl ?_
              refine xi_goto (pc' := 118) rfl rfl ?_
              refine xi_iconst (pc' := 119) rfl rfl ?_
              refine xi_goto (pc' := 123) rfl rfl ?_
              refine xi_istore (pc' := 125) rfl (st1_7 rfl) rfl ?_
              exact k1 (by clear k0 k1; simp only [ex_P, Classical.not_not, bI_0, okMsg, vT, vS, isC, Int32.lt_iff_toInt_lt, Int32.le_iff_toInt_le, ← Int32.toInt_inj, toI, Nat.reduceLT, Int32.toInt_zero] at *; omega)
          · refine xi_iload_n (pc' := 55) rfl rfl rfl ?_
            refine xx_callSi (pc' := 58) rfl rfl (by decide) rfl (Nat.le_of_ble_eq_true rfl) rfl rfl (r_isTerminal1 hy) ?_
            refine xi_iff (pc' := 61) (tg := 70) rfl rfl (by decide) rfl ?_
            refine xi_iload_n (pc' := 62) rfl rfl rfl ?_
            refine xi_iload_n (pc' := 63) rfl rfl rfl ?_
            refine xx_icmp (pc' := 66) (tg := 70) rfl rfl rfl (fun q63 => ?_) (fun q63 => ?_)
            · refine xi_iconst (pc' := 71) rfl rfl ?_
              refine xi_istore (pc' := 73) rfl (st1_7 rfl) rfl ?_
              refine xi_iload (pc' := 75) rfl rfl rfl ?_
              refine xi_ift (pc' := 122) rfl rfl (by decide) ?_
              refine xi_iconst (pc' := 123) rfl rfl ?_
              refine xi_istore (pc' := 125) rfl (st1_7 rfl) rfl ?_
              exact k0 (by clear k0 k1; simp only [ex_P, Classical.not_not, bI_0, okMsg, vT, vS, isC, Int32.lt_iff_toInt_lt, Int32.le_iff_toInt_le, ← Int32.toInt_inj, toI, Nat.reduceLT, Int32.toInt_zero] at *; omega)
            · refine xi_iconst (pc' := 67) rfl rfl ?_
              refine xi_goto (pc' := 71) rfl rfl ?_
              refine xi_istore (pc' := 73) rfl (st1_7 rfl) rfl ?_
              refine xi_iload (pc' := 75) rfl rfl rfl ?_
              refine xi_iff (pc' := 78) (tg := 122) rfl rfl (by decide) rfl ?_
              refine xi_iload_n (pc' := 79) rfl rfl rfl ?_
              refine xi_iconst (pc' := 80) rfl rfl ?_
              refine xx_icmp (pc' := 83) (tg := 94) rfl rfl rfl (fun q80 => ?_) (fun q80 => ?_)
              · refine xi_iload (pc' := 96) rfl rfl rfl ?_
                refine xi_iconst (pc' := 97) rfl rfl ?_
                refine xx_icmp (pc' := 100) (tg := 122) rfl rfl rfl (fun q97 => ?_) (fun q97 => ?_)
                · refine xi_iconst (pc' := 123) rfl rfl ?_
                  refine xi_istore (pc' := 125) rfl (st1_7 rfl) rfl ?_
                  exact k0 (by clear k0 k1; simp only [ex_P, Classical.not_not, bI_0, okMsg, vT, vS, isC, Int32.lt_iff_toInt_lt, Int32.le_iff_toInt_le, ← Int32.toInt_inj, toI, Nat.reduceLT, Int32.toInt_zero] at *; omega)
                · refine xi_iload (pc' := 102) rfl rfl rfl ?_
                  refine xi_iconst (pc' := 103) rfl rfl ?_
                  refine xx_icmp (pc' := 106) (tg := 122) rfl rfl rfl (fun q103 => ?_) (fun q103 => ?_)
                  · refine xi_iconst (pc' := 123) rfl rfl ?_
                    refine xi_istore (pc' := 125) rfl (st1_7 rfl) rfl ?_
                    exact k0 (by clear k0 k1; simp only [ex_P, Classical.not_not, bI_0, okMsg, vT, vS, isC, Int32.lt_iff_toInt_lt, Int32.le_iff_toInt_le, ← Int32.toInt_inj, toI, Nat.reduceLT, Int32.toInt_zero] at *; omega)
                  · refine xi_iload (pc' := 108) rfl rfl rfl ?_
                    refine xi_iconst (pc' := 109) rfl rfl ?_
                    refine xx_icmp (pc' := 112) (tg := 122) rfl rfl rfl (fun q109 => ?_) (fun q109 => ?_)
                    · refine xi_iconst (pc' := 123) rfl rfl ?_
                      refine xi_istore (pc' := 125) rfl (st1_7 rfl) rfl ?_
                      exact k0 (by clear k0 k1; simp only [ex_P, Classical.not_not, bI_0, okMsg, vT, vS, isC, Int32.lt_iff_toInt_lt, Int32.le_iff_toInt_le, ← Int32.toInt_inj, toI, Nat.reduceLT, Int32.toInt_zero] at *; omega)
                    · refine xi_iload (pc' := 114) rfl rfl rfl ?_
                      refine xi_iconst (pc' := 115) rfl rfl ?_
                      refine xx_icmp (pc' := 118) (tg := 122) rfl rfl rfl (fun q115 => ?_) (fun q115 => ?_)
                      · refine xi_iconst (pc' := 123) rfl rfl ?_
                        refine xi_istore (pc' := 125) rfl (st1_7 rfl) rfl ?_
                        exact k0 (by clear k0 k1; simp only [ex_P, Classical.not_not, bI_0, okMsg, vT, vS, isC, Int32.lt_iff_toInt_lt, Int32.le_iff_toInt_le, ← Int32.toInt_inj, toI, Nat.reduceLT, Int32.toInt_zero] at *; omega)
                      · refine xi_iconst (pc' := 119) rfl rfl ?_
                        refine xi_goto (pc' := 123) rfl rfl ?_
                        refine xi_istore (pc' := 125) rfl (st1_7 rfl) rfl ?_
                        exact k1 (by clear k0 k1; simp only [ex_P, Classical.not_not, bI_0, okMsg, vT, vS, isC, Int32.lt_iff_toInt_lt, Int32.le_iff_toInt_le, ← Int32.toInt_inj, toI, Nat.reduceLT, Int32.toInt_zero] at *; omega)
              · refine xi_iload (pc' := 85) rfl rfl rfl ?_
                refine xx_callSi (pc' := 88) rfl rfl (by decide) rfl (Nat.le_of_ble_eq_true rfl) rfl rfl (r_isCode1 hc) ?_
                refine xi_iff (pc' := 91) (tg := 122) rfl rfl (by decide) rfl ?_
                refine xi_goto (pc' := 118) rfl rfl ?_
                refine xi_iconst (pc' := 119) rfl rfl ?_
                refine xi_goto (pc' := 123) rfl rfl ?_
                refine xi_istore (pc' := 125) rfl (st1_7 rfl) rfl ?_
                exact k1 (by clear k0 k1; simp only [ex_P, Classical.not_not, bI_0, okMsg, vT, vS, isC, Int32.lt_iff_toInt_lt, Int32.le_iff_toInt_le, ← Int32.toInt_inj, toI, Nat.reduceLT, Int32.toInt_zero] at *; omega)
        · refine xi_iload_n (pc' := 43) rfl rfl rfl ?_
          refine xx_callSi (pc' := 46) rfl rfl (by decide) rfl (Nat.le_of_ble_eq_true rfl) rfl rfl (r_isTerminal0 hx) ?_
          refine xi_ift (pc' := 70) rfl rfl (by decide) ?_
          refine xi_iconst (pc' := 71) rfl rfl ?_
          refine xi_istore (pc' := 73) rfl (st1_7 rfl) rfl ?_
          refine xi_iload (pc' := 75) rfl rfl rfl ?_
          refine xi_ift (pc' := 122) rfl rfl (by decide) ?_
          refine xi_iconst (pc' := 123) rfl rfl ?_
          refine xi_istore (pc' := 125) rfl (st1_7 rfl) rfl ?_
          exact k0 (by clear k0 k1; simp only [ex_P, Classical.not_not, bI_0, okMsg, vT, vS, isC, Int32.lt_iff_toInt_lt, Int32.le_iff_toInt_le, ← Int32.toInt_inj, toI, Nat.reduceLT, Int32.toInt_zero] at *; omega)
      · refine xi_iload (pc' := 27) rfl rfl rfl ?_
        refine xi_iconst (pc' := 28) rfl rfl ?_
        refine xx_icmp (pc' := 31) (tg := 37) rfl rfl rfl (fun q28 => ?_) (fun q28 => ?_)
        · refine xi_iload_n (pc' := 38) rfl rfl rfl ?_
          refine xi_iconst (pc' := 39) rfl rfl ?_
          refine xx_icmp (pc' := 42) (tg := 49) rfl rfl rfl (fun q39 => ?_) (fun q39 => ?_)
          · refine xi_iload_n (pc' := 50) rfl rfl rfl ?_
            refine xi_iconst (pc' := 51) rfl rfl ?_
            refine xx_icmp (pc' := 54) (tg := 66) rfl rfl rfl (fun q51 => ?_) (fun q51 => ?_)
            · refine xi_iconst (pc' := 67) rfl rfl ?_
              refine xi_goto (pc' := 71) rfl rfl ?_
              refine xi_istore (pc' := 73) rfl (st1_7 rfl) rfl ?_
              refine xi_iload (pc' := 75) rfl rfl rfl ?_
              refine xi_iff (pc' := 78) (tg := 122) rfl rfl (by decide) rfl ?_
              refine xi_iload_n (pc' := 79) rfl rfl rfl ?_
              refine xi_iconst (pc' := 80) rfl rfl ?_
              refine xx_icmp (pc' := 83) (tg := 94) rfl rfl rfl (fun q80 => ?_) (fun q80 => ?_)
              · refine xi_iload (pc' := 96) rfl rfl rfl ?_
                refine xi_iconst (pc' := 97) rfl rfl ?_
                refine xx_icmp (pc' := 100) (tg := 122) rfl rfl rfl (fun q97 => ?_) (fun q97 => ?_)
                · refine xi_iconst (pc' := 123) rfl rfl ?_
                  refine xi_istore (pc' := 125) rfl (st1_7 rfl) rfl ?_
                  exact k0 (by clear k0 k1; simp only [ex_P, Classical.not_not, bI_0, okMsg, vT, vS, isC, Int32.lt_iff_toInt_lt, Int32.le_iff_toInt_le, ← Int32.toInt_inj, toI, Nat.reduceLT, Int32.toInt_zero] at *; omega)
                · refine xi_iload (pc' := 102) rfl rfl rfl ?_
                  refine xi_iconst (pc' := 103) rfl rfl ?_
                  refine xx_icmp (pc' := 106) (tg := 122) rfl rfl rfl (fun q103 => ?_) (fun q103 => ?_)
                  · refine xi_iconst (pc' := 123) rfl rfl ?_
                    refine xi_istore (pc' := 125) rfl (st1_7 rfl) rfl ?_
                    exact k0 (by clear k0 k1; simp only [ex_P, Classical.not_not, bI_0, okMsg, vT, vS, isC, Int32.lt_iff_toInt_lt, Int32.le_iff_toInt_le, ← Int32.toInt_inj, toI, Nat.reduceLT, Int32.toInt_zero] at *; omega)
                  · refine xi_iload (pc' := 108) rfl rfl rfl ?_
                    refine xi_iconst (pc' := 109) rfl rfl ?_
                    refine xx_icmp (pc' := 112) (tg := 122) rfl rfl rfl (fun q109 => ?_) (fun q109 => ?_)
                    · refine xi_iconst (pc' := 123) rfl rfl ?_
                      refine xi_istore (pc' := 125) rfl (st1_7 rfl) rfl ?_
                      exact k0 (by clear k0 k1; simp only [ex_P, Classical.not_not, bI_0, okMsg, vT, vS, isC, Int32.lt_iff_toInt_lt, Int32.le_iff_toInt_le, ← Int32.toInt_inj, toI, Nat.reduceLT, Int32.toInt_zero] at *; omega)
                    · refine xi_iload (pc' := 114) rfl rfl rfl ?_
                      refine xi_iconst (pc' := 115) rfl rfl ?_
                      refine xx_icmp (pc' := 118) (tg := 122) rfl rfl rfl (fun q115 => ?_) (fun q115 => ?_)
                      · refine xi_iconst (pc' := 123) rfl rfl ?_
                        refine xi_istore (pc' := 125) rfl (st1_7 rfl) rfl ?_
                        exact k0 (by clear k0 k1; simp only [ex_P, Classical.not_not, bI_0, okMsg, vT, vS, isC, Int32.lt_iff_toInt_lt, Int32.le_iff_toInt_le, ← Int32.toInt_inj, toI, Nat.reduceLT, Int32.toInt_zero] at *; omega)
                      · refine xi_iconst (pc' := 119) rfl rfl ?_
                        refine xi_goto (pc' := 123) rfl rfl ?_
                        refine xi_istore (pc' := 125) rfl (st1_7 rfl) rfl ?_
                        exact k1 (by clear k0 k1; simp only [ex_P, Classical.not_not, bI_0, okMsg, vT, vS, isC, Int32.lt_iff_toInt_lt, Int32.le_iff_toInt_le, ← Int32.toInt_inj, toI, Nat.reduceLT, Int32.toInt_zero] at *; omega)
              · refine xi_iload (pc' := 85) rfl rfl rfl ?_
                refine xx_callSi (pc' := 88) rfl rfl (by decide) rfl (Nat.le_of_ble_eq_true rfl) rfl rfl (r_isCode1 hc) ?_
                refine xi_iff (pc' := 91) (tg := 122) rfl rfl (by decide) rfl ?_
                refine xi_goto (pc' := 118) rfl rfl ?_
                refine xi_iconst (pc' := 119) rfl rfl ?_
                refine xi_goto (pc' := 123) rfl rfl ?_
                refine xi_istore (pc' := 125) rfl (st1_7 rfl) rfl ?_
                exact k1 (by clear k0 k1; simp only [ex_P, Classical.not_not, bI_0, okMsg, vT, vS, isC, Int32.lt_iff_toInt_lt, Int32.le_iff_toInt_le, ← Int32.toInt_inj, toI, Nat.reduceLT, Int32.toInt_zero] at *; omega)
            · refine xi_iload_n (pc' := 55) rfl rfl rfl ?_
              refine xx_callSi (pc' := 58) rfl rfl (by decide) rfl (Nat.le_of_ble_eq_true rfl) rfl rfl (r_isTerminal1 hy) ?_
              refine xi_iff (pc' := 61) (tg := 70) rfl rfl (by decide) rfl ?_
              refine xi_iload_n (pc' := 62) rfl rfl rfl ?_
              refine xi_iload_n (pc' := 63) rfl rfl rfl ?_
              refine xx_icmp (pc' := 66) (tg := 70) rfl rfl rfl (fun q63 => ?_) (fun q63 => ?_)
              · refine xi_iconst (pc' := 71) rfl rfl ?_
                refine xi_istore (pc' := 73) rfl (st1_7 rfl) rfl ?_
                refine xi_iload (pc' := 75) rfl rfl rfl ?_
                refine xi_ift (pc' := 122) rfl rfl (by decide) ?_
                refine xi_iconst (pc' := 123) rfl rfl ?_
                refine xi_istore (pc' := 125) rfl (st1_7 rfl) rfl ?_
                exact k0 (by clear k0 k1; simp only [ex_P, Classical.not_not, bI_0, okMsg, vT, vS, isC, Int32.lt_iff_toInt_lt, Int32.le_iff_toInt_le, ← Int32.toInt_inj, toI, Nat.reduceLT, Int32.toInt_zero] at *; omega)
              · refine xi_iconst (pc' := 67) rfl rfl ?_
                refine xi_goto (pc' := 71) rfl rfl ?_
                refine xi_istore (pc' := 73) rfl (st1_7 rfl) rfl ?_
                refine xi_iload (pc' := 75) rfl rfl rfl ?_
                refine xi_iff (pc' := 78) (tg := 122) rfl rfl (by decide) rfl ?_
                refine xi_iload_n (pc' := 79) rfl rfl rfl ?_
                refine xi_iconst (pc' := 80) rfl rfl ?_
                refine xx_icmp (pc' := 83) (tg := 94) rfl rfl rfl (fun q80 => ?_) (fun q80 => ?_)
                · refine xi_iload (pc' := 96) rfl rfl rfl ?_
                  refine xi_iconst (pc' := 97) rfl rfl ?_
                  refine xx_icmp (pc' := 100) (tg := 122) rfl rfl rfl (fun q97 => ?_) (fun q97 => ?_)
                  · refine xi_iconst (pc' := 123) rfl rfl ?_
                    refine xi_istore (pc' := 125) rfl (st1_7 rfl) rfl ?_
                    exact k0 (by clear k0 k1; simp only [ex_P, Classical.not_not, bI_0, okMsg, vT, vS, isC, Int32.lt_iff_toInt_lt, Int32.le_iff_toInt_le, ← Int32.toInt_inj, toI, Nat.reduceLT, Int32.toInt_zero] at *; omega)
                  · refine xi_iload (pc' := 102) rfl rfl rfl ?_
                    refine xi_iconst (pc' := 103) rfl rfl ?_
                    refine xx_icmp (pc' := 106) (tg := 122) rfl rfl rfl (fun q103 => ?_) (fun q103 => ?_)
                    · refine xi_iconst (pc' := 123) rfl rfl ?_
                      refine xi_istore (pc' := 125) rfl (st1_7 rfl) rfl ?_
                      exact k0 (by clear k0 k1; simp only [ex_P, Classical.not_not, bI_0, okMsg, vT, vS, isC, Int32.lt_iff_toInt_lt, Int32.le_iff_toInt_le, ← Int32.toInt_inj, toI, Nat.reduceLT, Int32.toInt_zero] at *; omega)
                    · refine xi_iload (pc' := 108) rfl rfl rfl ?_
                      refine xi_iconst (pc' := 109) rfl rfl ?_
                      refine xx_icmp (pc' := 112) (tg := 122) rfl rfl rfl (fun q109 => ?_) (fun q109 => ?_)
                      · refine xi_iconst (pc' := 123) rfl rfl ?_
                        refine xi_istore (pc' := 125) rfl (st1_7 rfl) rfl ?_
                        exact k0 (by clear k0 k1; simp only [ex_P, Classical.not_not, bI_0, okMsg, vT, vS, isC, Int32.lt_iff_toInt_lt, Int32.le_iff_toInt_le, ← Int32.toInt_inj, toI, Nat.reduceLT, Int32.toInt_zero] at *; omega)
                      · refine xi_iload (pc' := 114) rfl rfl rfl ?_
                        refine xi_iconst (pc' := 115) rfl rfl ?_
                        refine xx_icmp (pc' := 118) (tg := 122) rfl rfl rfl (fun q115 => ?_) (fun q115 => ?_)
                        · refine xi_iconst (pc' := 123) rfl rfl ?_
                          refine xi_istore (pc' := 125) rfl (st1_7 rfl) rfl ?_
                          exact k0 (by clear k0 k1; simp only [ex_P, Classical.not_not, bI_0, okMsg, vT, vS, isC, Int32.lt_iff_toInt_lt, Int32.le_iff_toInt_le, ← Int32.toInt_inj, toI, Nat.reduceLT, Int32.toInt_zero] at *; omega)
                        · refine xi_iconst (pc' := 119) rfl rfl ?_
                          refine xi_goto (pc' := 123) rfl rfl ?_
                          refine xi_istore (pc' := 125) rfl (st1_7 rfl) rfl ?_
                          exact k1 (by clear k0 k1; simp only [ex_P, Classical.not_not, bI_0, okMsg, vT, vS, isC, Int32.lt_iff_toInt_lt, Int32.le_iff_toInt_le, ← Int32.toInt_inj, toI, Nat.reduceLT, Int32.toInt_zero] at *; omega)
                · refine xi_iload (pc' := 85) rfl rfl rfl ?_
                  refine xx_callSi (pc' := 88) rfl rfl (by decide) rfl (Nat.le_of_ble_eq_true rfl) rfl rfl (r_isCode1 hc) ?_
                  refine xi_iff (pc' := 91) (tg := 122) rfl rfl (by decide) rfl ?_
                  refine xi_goto (pc' := 118) rfl rfl ?_
                  refine xi_iconst (pc' := 119) rfl rfl ?_
                  refine xi_goto (pc' := 123) rfl rfl ?_
                  refine xi_istore (pc' := 125) rfl (st1_7 rfl) rfl ?_
                  exact k1 (by clear k0 k1; simp only [ex_P, Classical.not_not, bI_0, okMsg, vT, vS, isC, Int32.lt_iff_toInt_lt, Int32.le_iff_toInt_le, ← Int32.toInt_inj, toI, Nat.reduceLT, Int32.toInt_zero] at *; omega)
          · refine xi_iload_n (pc' := 43) rfl rfl rfl ?_
            refine xx_callSi (pc' := 46) rfl rfl (by decide) rfl (Nat.le_of_ble_eq_true rfl) rfl rfl (r_isTerminal0 hx) ?_
            refine xi_ift (pc' := 70) rfl rfl (by decide) ?_
            refine xi_iconst (pc' := 71) rfl rfl ?_
            refine xi_istore (pc' := 73) rfl (st1_7 rfl) rfl ?_
            refine xi_iload (pc' := 75) rfl rfl rfl ?_
            refine xi_ift (pc' := 122) rfl rfl (by decide) ?_
            refine xi_iconst (pc' := 123) rfl rfl ?_
            refine xi_istore (pc' := 125) rfl (st1_7 rfl) rfl ?_
            exact k0 (by clear k0 k1; simp only [ex_P, Classical.not_not, bI_0, okMsg, vT, vS, isC, Int32.lt_iff_toInt_lt, Int32.le_iff_toInt_le, ← Int32.toInt_inj, toI, Nat.reduceLT, Int32.toInt_zero] at *; omega)
        · refine xi_iload (pc' := 33) rfl rfl rfl ?_
          refine xi_iconst (pc' := 34) rfl rfl ?_
          refine xx_icmp (pc' := 37) (tg := 70) rfl rfl rfl (fun q34 => ?_) (fun q34 => ?_)
          · refine xi_iconst (pc' := 71) rfl rfl ?_
            refine xi_istore (pc' := 73) rfl (st1_7 rfl) rfl ?_
            refine xi_iload (pc' := 75) rfl rfl rfl ?_
            refine xi_ift (pc' := 122) rfl rfl (by decide) ?_
            refine xi_iconst (pc' := 123) rfl rfl ?_
            refine xi_istore (pc' := 125) rfl (st1_7 rfl) rfl ?_
            exact k0 (by clear k0 k1; simp only [ex_P, Classical.not_not, bI_0, okMsg, vT, vS, isC, Int32.lt_iff_toInt_lt, Int32.le_iff_toInt_le, ← Int32.toInt_inj, toI, Nat.reduceLT, Int32.toInt_zero] at *; omega)
          · refine xi_iload_n (pc' := 38) rfl rfl rfl ?_
            refine xi_iconst (pc' := 39) rfl rfl ?_
            refine xx_icmp (pc' := 42) (tg := 49) rfl rfl rfl (fun q39 => ?_) (fun q39 => ?_)
            · refine xi_iload_n (pc' := 50) rfl rfl rfl ?_
              refine xi_iconst (pc' := 51) rfl rfl ?_
              refine xx_icmp (pc' := 54) (tg := 66) rfl rfl rfl (fun q51 => ?_) (fun q51 => ?_)
              · refine xi_iconst (pc' := 67) rfl rfl ?_
                refine xi_goto (pc' := 71) rfl rfl ?_
                refine xi_istore (pc' := 73) rfl (st1_7 rfl) rfl ?_
                refine xi_iload (pc' := 75) rfl rfl rfl ?_
                refine xi_iff (pc' := 78) (tg := 122) rfl rfl (by decide) rfl ?_
                refine xi_iload_n (pc' := 79) rfl rfl rfl ?_
                refine xi_iconst (pc' := 80) rfl rfl ?_
                refine xx_icmp (pc' := 83) (tg := 94) rfl rfl rfl (fun q80 => ?_) (fun q80 => ?_)
                · refine xi_iload (pc' := 96) rfl rfl rfl ?_
                  refine xi_iconst (pc' := 97) rfl rfl ?_
                  refine xx_icmp (pc' := 100) (tg := 122) rfl rfl rfl (fun q97 => ?_) (fun q97 => ?_)
                  · refine xi_iconst (pc' := 123) rfl rfl ?_
                    refine xi_istore (pc' := 125) rfl (st1_7 rfl) rfl ?_
                    exact k0 (by clear k0 k1; simp only [ex_P, Classical.not_not, bI_0, okMsg, vT, vS, isC, Int32.lt_iff_toInt_lt, Int32.le_iff_toInt_le, ← Int32.toInt_inj, toI, Nat.reduceLT, Int32.toInt_zero] at *; omega)
                  · refine xi_iload (pc' := 102) rfl rfl rfl ?_
                    refine xi_iconst (pc' := 103) rfl rfl ?_
                    refine xx_icmp (pc' := 106) (tg := 122) rfl rfl rfl (fun q103 => ?_) (fun q103 => ?_)
                    · refine xi_iconst (pc' := 123) rfl rfl ?_
                      refine xi_istore (pc' := 125) rfl (st1_7 rfl) rfl ?_
                      exact k0 (by clear k0 k1; simp only [ex_P, Classical.not_not, bI_0, okMsg, vT, vS, isC, Int32.lt_iff_toInt_lt, Int32.le_iff_toInt_le, ← Int32.toInt_inj, toI, Nat.reduceLT, Int32.toInt_zero] at *; omega)
                    · refine xi_iload (pc' := 108) rfl rfl rfl ?_
                      refine xi_iconst (pc' := 109) rfl rfl ?_
                      refine xx_icmp (pc' := 112) (tg := 122) rfl rfl rfl (fun q109 => ?_) (fun q109 => ?_)
                      · refine xi_iconst (pc' := 123) rfl rfl ?_
                        refine xi_istore (pc' := 125) rfl (st1_7 rfl) rfl ?_
                        exact k0 (by clear k0 k1; simp only [ex_P, Classical.not_not, bI_0, okMsg, vT, vS, isC, Int32.lt_iff_toInt_lt, Int32.le_iff_toInt_le, ← Int32.toInt_inj, toI, Nat.reduceLT, Int32.toInt_zero] at *; omega)
                      · refine xi_iload (pc' := 114) rfl rfl rfl ?_
                        refine xi_iconst (pc' := 115) rfl rfl ?_
                        refine xx_icmp (pc' := 118) (tg := 122) rfl rfl rfl (fun q115 => ?_) (fun q115 => ?_)
                        · refine xi_iconst (pc' := 123) rfl rfl ?_
                          refine xi_istore (pc' := 125) rfl (st1_7 rfl) rfl ?_
                          exact k0 (by clear k0 k1; simp only [ex_P, Classical.not_not, bI_0, okMsg, vT, vS, isC, Int32.lt_iff_toInt_lt, Int32.le_iff_toInt_le, ← Int32.toInt_inj, toI, Nat.reduceLT, Int32.toInt_zero] at *; omega)
                        · refine xi_iconst (pc' := 119) rfl rfl ?_
                          refine xi_goto (pc' := 123) rfl rfl ?_
                          refine xi_istore (pc' := 125) rfl (st1_7 rfl) rfl ?_
                          exact k1 (by clear k0 k1; simp only [ex_P, Classical.not_not, bI_0, okMsg, vT, vS, isC, Int32.lt_iff_toInt_lt, Int32.le_iff_toInt_le, ← Int32.toInt_inj, toI, Nat.reduceLT, Int32.toInt_zero] at *; omega)
                · refine xi_iload (pc' := 85) rfl rfl rfl ?_
                  refine xx_callSi (pc' := 88) rfl rfl (by decide) rfl (Nat.le_of_ble_eq_true rfl) rfl rfl (r_isCode1 hc) ?_
                  refine xi_iff (pc' := 91) (tg := 122) rfl rfl (by decide) rfl ?_
                  refine xi_goto (pc' := 118) rfl rfl ?_
                  refine xi_iconst (pc' := 119) rfl rfl ?_
                  refine xi_goto (pc' := 123) rfl rfl ?_
                  refine xi_istore (pc' := 125) rfl (st1_7 rfl) rfl ?_
                  exact k1 (by clear k0 k1; simp only [ex_P, Classical.not_not, bI_0, okMsg, vT, vS, isC, Int32.lt_iff_toInt_lt, Int32.le_iff_toInt_le, ← Int32.toInt_inj, toI, Nat.reduceLT, Int32.toInt_zero] at *; omega)
              · refine xi_iload_n (pc' := 55) rfl rfl rfl ?_
                refine xx_callSi (pc' := 58) rfl rfl (by decide) rfl (Nat.le_of_ble_eq_true rfl) rfl rfl (r_isTerminal1 hy) ?_
                refine xi_iff (pc' := 61) (tg := 70) rfl rfl (by decide) rfl ?_
                refine xi_iload_n (pc' := 62) rfl rfl rfl ?_
                refine xi_iload_n (pc' := 63) rfl rfl rfl ?_
                refine xx_icmp (pc' := 66) (tg := 70) rfl rfl rfl (fun q63 => ?_) (fun q63 => ?_)
                · refine xi_iconst (pc' := 71) rfl rfl ?_
                  refine xi_istore (pc' := 73) rfl (st1_7 rfl) rfl ?_
                  refine xi_iload (pc' := 75) rfl rfl rfl ?_
                  refine xi_ift (pc' := 122) rfl rfl (by decide) ?_
                  refine xi_iconst (pc' := 123) rfl rfl ?_
                  refine xi_istore (pc' := 125) rfl (st1_7 rfl) rfl ?_
                  exact k0 (by clear k0 k1; simp only [ex_P, Classical.not_not, bI_0, okMsg, vT, vS, isC, Int32.lt_iff_toInt_lt, Int32.le_iff_toInt_le, ← Int32.toInt_inj, toI, Nat.reduceLT, Int32.toInt_zero] at *; omega)
                · refine xi_iconst (pc' := 67) rfl rfl ?_
                  refine xi_goto (pc' := 71) rfl rfl ?_
                  refine xi_istore (pc' := 73) rfl (st1_7 rfl) rfl ?_
                  refine xi_iload (pc' := 75) rfl rfl rfl ?_
                  refine xi_iff (pc' := 78) (tg := 122) rfl rfl (by decide) rfl ?_
                  refine xi_iload_n (pc' := 79) rfl rfl rfl ?_
                  refine xi_iconst (pc' := 80) rfl rfl ?_
                  refine xx_icmp (pc' := 83) (tg := 94) rfl rfl rfl (fun q80 => ?_) (fun q80 => ?_)
                  · refine xi_iload (pc' := 96) rfl rfl rfl ?_
                    refine xi_iconst (pc' := 97) rfl rfl ?_
                    refine xx_icmp (pc' := 100) (tg := 122) rfl rfl rfl (fun q97 => ?_) (fun q97 => ?_)
                    · refine xi_iconst (pc' := 123) rfl rfl ?_
                      refine xi_istore (pc' := 125) rfl (st1_7 rfl) rfl ?_
                      exact k0 (by clear k0 k1; simp only [ex_P, Classical.not_not, bI_0, okMsg, vT, vS, isC, Int32.lt_iff_toInt_lt, Int32.le_iff_toInt_le, ← Int32.toInt_inj, toI, Nat.reduceLT, Int32.toInt_zero] at *; omega)
                    · refine xi_iload (pc' := 102) rfl rfl rfl ?_
                      refine xi_iconst (pc' := 103) rfl rfl ?_
                      refine xx_icmp (pc' := 106) (tg := 122) rfl rfl rfl (fun q103 => ?_) (fun q103 => ?_)
                      · refine xi_iconst (pc' := 123) rfl rfl ?_
                        refine xi_istore (pc' := 125) rfl (st1_7 rfl) rfl ?_
                        exact k0 (by clear k0 k1; simp only [ex_P, Classical.not_not, bI_0, okMsg, vT, vS, isC, Int32.lt_iff_toInt_lt, Int32.le_iff_toInt_le, ← Int32.toInt_inj, toI, Nat.reduceLT, Int32.toInt_zero] at *; omega)
                      · refine xi_iload (pc' := 108) rfl rfl rfl ?_
                        refine xi_iconst (pc' := 109) rfl rfl ?_
                        refine xx_icmp (pc' := 112) (tg := 122) rfl rfl rfl (fun q109 => ?_) (fun q109 => ?_)
                        · refine xi_iconst (pc' := 123) rfl rfl ?_
                          refine xi_istore (pc' := 125) rfl (st1_7 rfl) rfl ?_
                          exact k0 (by clear k0 k1; simp only [ex_P, Classical.not_not, bI_0, okMsg, vT, vS, isC, Int32.lt_iff_toInt_lt, Int32.le_iff_toInt_le, ← Int32.toInt_inj, toI, Nat.reduceLT, Int32.toInt_zero] at *; omega)
                        · refine xi_iload (pc' := 114) rfl rfl rfl ?_
                          refine xi_iconst (pc' := 115) rfl rfl ?_
                          refine xx_icmp (pc' := 118) (tg := 122) rfl rfl rfl (fun q115 => ?_) (fun q115 => ?_)
                          · refine xi_iconst (pc' := 123) rfl rfl ?_
                            refine xi_istore (pc' := 125) rfl (st1_7 rfl) rfl ?_
                            exact k0 (by clear k0 k1; simp only [ex_P, Classical.not_not, bI_0, okMsg, vT, vS, isC, Int32.lt_iff_toInt_lt, Int32.le_iff_toInt_le, ← Int32.toInt_inj, toI, Nat.reduceLT, Int32.toInt_zero] at *; omega)
                          · refine xi_iconst (pc' := 119) rfl rfl ?_
                            refine xi_goto (pc' := 123) rfl rfl ?_
                            refine xi_istore (pc' := 125) rfl (st1_7 rfl) rfl ?_
                            exact k1 (by clear k0 k1; simp only [ex_P, Classical.not_not, bI_0, okMsg, vT, vS, isC, Int32.lt_iff_toInt_lt, Int32.le_iff_toInt_le, ← Int32.toInt_inj, toI, Nat.reduceLT, Int32.toInt_zero] at *; omega)
                  · refine xi_iload (pc' := 85) rfl rfl rfl ?_
                    refine xx_callSi (pc' := 88) rfl rfl (by decide) rfl (Nat.le_of_ble_eq_true rfl) rfl rfl (r_isCode1 hc) ?_
                    refine xi_iff (pc' := 91) (tg := 122) rfl rfl (by decide) rfl ?_
                    refine xi_goto (pc' := 118) rfl rfl ?_
                    refine xi_iconst (pc' := 119) rfl rfl ?_
                    refine xi_goto (pc' := 123) rfl rfl ?_
                    refine xi_istore (pc' := 125) rfl (st1_7 rfl) rfl ?_
                    exact k1 (by clear k0 k1; simp only [ex_P, Classical.not_not, bI_0, okMsg, vT, vS, isC, Int32.lt_iff_toInt_lt, Int32.le_iff_toInt_le, ← Int32.toInt_inj, toI, Nat.reduceLT, Int32.toInt_zero] at *; omega)
            · refine xi_iload_n (pc' := 43) rfl rfl rfl ?_
              refine xx_callSi (pc' := 46) rfl rfl (by decide) rfl (Nat.le_of_ble_eq_true rfl) rfl rfl (r_isTerminal0 hx) ?_
              refine xi_ift (pc' := 70) rfl rfl (by decide) ?_
              refine xi_iconst (pc' := 71) rfl rfl ?_
              refine xi_istore (pc' := 73) rfl (st1_7 rfl) rfl ?_
              refine xi_iload (pc' := 75) rfl rfl rfl ?_
              refine xi_ift (pc' := 122) rfl rfl (by decide) ?_
              refine xi_iconst (pc' := 123) rfl rfl ?_
              refine xi_istore (pc' := 125) rfl (st1_7 rfl) rfl ?_
              exact k0 (by clear k0 k1; simp only [ex_P, Classical.not_not, bI_0, okMsg, vT, vS, isC, Int32.lt_iff_toInt_lt, Int32.le_iff_toInt_le, ← Int32.toInt_inj, toI, Nat.reduceLT, Int32.toInt_zero] at *; omega)
theorem r_msg_010 {L : Nat} {xs : Nat → Int32} {D n : Nat} {I J : ex_Mem} {kind x y s nn per : Int32} {Q : Option Value → ex_Hp → Prop} (k1 : okMsg kind x y s nn per → xx cb_G L xs (D + 1) 94 125 [.ref 52, .int kind, .int x, .int y, .int s, .int nn, .int per, .int (nI 1)] [] (mkH n I J) Q) (k0 : ¬ okMsg kind x y s nn per → xx cb_G L xs (D + 1) 94 125 [.ref 52, .int kind, .int x, .int y, .int s, .int nn, .int per, .int (nI 0)] [] (mkH n I J) Q) (hx : ¬ vT x) (hy : vT y) (hc : ¬ isC nn) : xx cb_G L xs (D + 1) 94 10 [.ref 52, .int kind, .int x, .int y, .int s, .int nn, .int per, ex_no] [] (mkH n I J) Q := by
  refine xi_iload_n (pc' := 11) rfl rfl rfl ?_
  refine xx_if (pc' := 14) (tg := 70) rfl rfl rfl (fun q11 => ?_) (fun q11 => ?_)
  · refine xi_iconst (pc' := 71) rfl rfl ?_
    refine xi_istore (pc' := 73) rfl (st1_7 rfl) rfl ?_
    refine xi_iload (pc' := 75) rfl rfl rfl ?_
    refine xi_ift (pc' := 122) rfl rfl (by decide) ?_
    refine xi_iconst (pc' := 123) rfl rfl ?_
    refine xi_istore (pc' := 125) rfl (st1_7 rfl) rfl ?_
    exact k0 (by clear k0 k1; simp only [ex_P, Classical.not_not, bI_0, okMsg, vT, vS, isC, Int32.lt_iff_toInt_lt, Int32.le_iff_toInt_le, ← Int32.toInt_inj, toI, Nat.reduceLT, Int32.toInt_zero] at *; omega)
  · refine xi_iload_n (pc' := 15) rfl rfl rfl ?_
    refine xi_iconst (pc' := 16) rfl rfl ?_
    refine xx_icmp (pc' := 19) (tg := 70) rfl rfl rfl (fun q16 => ?_) (fun q16 => ?_)
    · refine xi_iconst (pc' := 71) rfl rfl ?_
      refine xi_istore (pc' := 73) rfl (st1_7 rfl) rfl ?_
      refine xi_iload (pc' := 75) rfl rfl rfl ?_
      refine xi_ift (pc' := 122) rfl rfl (by decide) ?_
      refine xi_iconst (pc' := 123) rfl rfl ?_
      refine xi_istore (pc' := 125) rfl (st1_7 rfl) rfl ?_
      exact k0 (by clear k0 k1; simp only [ex_P, Classical.not_not, bI_0, okMsg, vT, vS, isC, Int32.lt_iff_toInt_lt, Int32.le_iff_toInt_le, ← Int32.toInt_inj, toI, Nat.reduceLT, Int32.toInt_zero] at *; omega)
    · refine xi_iload (pc' := 21) rfl rfl rfl ?_
      refine xi_iconst (pc' := 22) rfl rfl ?_
      refine xx_icmp (pc' := 25) (tg := 37) rfl rfl rfl (fun q22 => ?_) (fun q22 => ?_)
      · refine xi_iload_n (pc' := 38) rfl rfl rfl ?_
        refine xi_iconst (pc' := 39) rfl rfl ?_
        refine xx_icmp (pc' := 42) (tg := 49) rfl rfl rfl (fun q39 => ?_) (fun q39 => ?_)
        · refine xi_iload_n (pc' := 50) rfl rfl rfl ?_
          refine xi_iconst (pc' := 51) rfl rfl ?_
          refine xx_icmp (pc' := 54) (tg := 66) rfl rfl rfl (fun q51 => ?_) (fun q51 => ?_)
          · refine xi_iconst (pc' := 67) rfl rfl ?_
            refine xi_goto (pc' := 71) rfl rfl ?_
            refine xi_istore (pc' := 73) rfl (st1_7 rfl) rfl ?_
            refine xi_iload (pc' := 75) rfl rfl rfl ?_
            refine xi_iff (pc' := 78) (tg := 122) rfl rfl (by decide) rfl ?_
            refine xi_iload_n (pc' := 79) rfl rfl rfl ?_
            refine xi_iconst (pc' := 80) rfl rfl ?_
            refine xx_icmp (pc' := 83) (tg := 94) rfl rfl rfl (fun q80 => ?_) (fun q80 => ?_)
            · refine xi_iload (pc' := 96) rfl rfl rfl ?_
              refine xi_iconst (pc' := 97) rfl rfl ?_
              refine xx_icmp (pc' := 100) (tg := 122) rfl rfl rfl (fun q97 => ?_) (fun q97 => ?_)
              · refine xi_iconst (pc' := 123) rfl rfl ?_
                refine xi_istore (pc' := 125) rfl (st1_7 rfl) rfl ?_
                exact k0 (by clear k0 k1; simp only [ex_P, Classical.not_not, bI_0, okMsg, vT, vS, isC, Int32.lt_iff_toInt_lt, Int32.le_iff_toInt_le, ← Int32.toInt_inj, toI, Nat.reduceLT, Int32.toInt_zero] at *; omega)
              · refine xi_iload (pc' := 102) rfl rfl rfl ?_
                refine xi_iconst (pc' := 103) rfl rfl ?_
                refine xx_icmp (pc' := 106) (tg := 122) rfl rfl rfl (fun q103 => ?_) (fun q103 => ?_)
                · refine xi_iconst (pc' := 123) rfl rfl ?_
                  refine xi_istore (pc' := 125) rfl (st1_7 rfl) rfl ?_
                  exact k0 (by clear k0 k1; simp only [ex_P, Classical.not_not, bI_0, okMsg, vT, vS, isC, Int32.lt_iff_toInt_lt, Int32.le_iff_toInt_le, ← Int32.toInt_inj, toI, Nat.reduceLT, Int32.toInt_zero] at *; omega)
                · refine xi_iload (pc' := 108) rfl rfl rfl ?_
                  refine xi_iconst (pc' := 109) rfl rfl ?_
                  refine xx_icmp (pc' := 112) (tg := 122) rfl rfl rfl (fun q109 => ?_) (fun q109 => ?_)
                  · refine xi_iconst (pc' := 123) rfl rfl ?_
                    refine xi_istore (pc' := 125) rfl (st1_7 rfl) rfl ?_
                    exact k0 (by clear k0 k1; simp only [ex_P, Classical.not_not, bI_0, okMsg, vT, vS, isC, Int32.lt_iff_toInt_lt, Int32.le_iff_toInt_le, ← Int32.toInt_inj, toI, Nat.reduceLT, Int32.toInt_zero] at *; omega)
                  · refine xi_iload (pc' := 114) rfl rfl rfl ?_
                    refine xi_iconst (pc' := 115) rfl rfl ?_
                    refine xx_icmp (pc' := 118) (tg := 122) rfl rfl rfl (fun q115 => ?_) (fun q115 => ?_)
                    · refine xi_iconst (pc' := 123) rfl rfl ?_
                      refine xi_istore (pc' := 125) rfl (st1_7 rfl) rfl ?_
                      exact k0 (by clear k0 k1; simp only [ex_P, Classical.not_not, bI_0, okMsg, vT, vS, isC, Int32.lt_iff_toInt_lt, Int32.le_iff_toInt_le, ← Int32.toInt_inj, toI, Nat.reduceLT, Int32.toInt_zero] at *; omega)
                    · refine xi_iconst (pc' := 119) rfl rfl ?_
                      refine xi_goto (pc' := 123) rfl rfl ?_
                      refine xi_istore (pc' := 125) rfl (st1_7 rfl) rfl ?_
                      exact k1 (by clear k0 k1; simp only [ex_P, Classical.not_not, bI_0, okMsg, vT, vS, isC, Int32.lt_iff_toInt_lt, Int32.le_iff_toInt_le, ← Int32.toInt_inj, toI, Nat.reduceLT, Int32.toInt_zero] at *; omega)
            · refine xi_iload (pc' := 85) rfl rfl rfl ?_
              refine xx_callSi (pc' := 88) rfl rfl (by decide) rfl (Nat.le_of_ble_eq_true rfl) rfl rfl (r_isCode0 hc) ?_
              refine xi_ift (pc' := 122) rfl rfl (by decide) ?_
              refine xi_iconst (pc' := 123) rfl rfl ?_
              refine xi_istore (pc' := 125) rfl (st1_7 rfl) rfl ?_
              exact k0 (by clear k0 k1; simp only [ex_P, Classical.not_not, bI_0, okMsg, vT, vS, isC, Int32.lt_iff_toInt_lt, Int32.le_iff_toInt_le, ← Int32.toInt_inj, toI, Nat.reduceLT, Int32.toInt_zero] at *; omega)
          · refine xi_iload_n (pc' := 55) rfl rfl rfl ?_
            refine xx_callSi (pc' := 58) rfl rfl (by decide) rfl (Nat.le_of_ble_eq_true rfl) rfl rfl (r_isTerminal1 hy) ?_
            refine xi_iff (pc' := 61) (tg := 70) rfl rfl (by decide) rfl ?_
            refine xi_iload_n (pc' := 62) rfl rfl rfl ?_
            refine xi_iload_n (pc' := 63) rfl rfl rfl ?_
            refine xx_icmp (pc' := 66) (tg := 70) rfl rfl rfl (fun q63 => ?_) (fun q63 => ?_)
            · refine xi_iconst (pc' := 71) rfl rfl ?_
              refine xi_istore (pc' := 73) rfl (st1_7 rfl) rfl ?_
              refine xi_iload (pc' := 75) rfl rfl rfl ?_
              refine xi_ift (pc' := 122) rfl rfl (by decide) ?_
              refine xi_iconst (pc' := 123) rfl rfl ?_
              refine xi_istore (pc' := 125) rfl (st1_7 rfl) rfl ?_
              exact k0 (by clear k0 k1; simp only [ex_P, Classical.not_not, bI_0, okMsg, vT, vS, isC, Int32.lt_iff_toInt_lt, Int32.le_iff_toInt_le, ← Int32.toInt_inj, toI, Nat.reduceLT, Int32.toInt_zero] at *; omega)
            · refine xi_iconst (pc' := 67) rfl rfl ?_
              refine xi_goto (pc' := 71) rfl rfl ?_
              refine xi_istore (pc' := 73) rfl (st1_7 rfl) rfl ?_
              refine xi_iload (pc' := 75) rfl rfl rfl ?_
              refine xi_iff (pc' := 78) (tg := 122) rfl rfl (by decide) rfl ?_
              refine xi_iload_n (pc' := 79) rfl rfl rfl ?_
              refine xi_iconst (pc' := 80) rfl rfl ?_
              refine xx_icmp (pc' := 83) (tg := 94) rfl rfl rfl (fun q80 => ?_) (fun q80 => ?_)
              · refine xi_iload (pc' := 96) rfl rfl rfl ?_
                refine xi_iconst (pc' := 97) rfl rfl ?_
                refine xx_icmp (pc' := 100) (tg := 122) rfl rfl rfl (fun q97 => ?_) (fun q97 => ?_)
                · refine xi_iconst (pc' := 123) rfl rfl ?_
                  refine xi_istore (pc' := 125) rfl (st1_7 rfl) rfl ?_
                  exact k0 (by clear k0 k1; simp only [ex_P, Classical.not_not, bI_0, okMsg, vT, vS, isC, Int32.lt_iff_toInt_lt, Int32.le_iff_toInt_le, ← Int32.toInt_inj, toI, Nat.reduceLT, Int32.toInt_zero] at *; omega)
                · refine xi_iload (pc' := 102) rfl rfl rfl ?_
                  refine xi_iconst (pc' := 103) rfl rfl ?_
                  refine xx_icmp (pc' := 106) (tg := 122) rfl rfl rfl (fun q103 => ?_) (fun q103 => ?_)
                  · refine xi_iconst (pc' := 123) rfl rfl ?_
                    refine xi_istore (pc' := 125) rfl (st1_7 rfl) rfl ?_
                    exact k0 (by clear k0 k1; simp only [ex_P, Classical.not_not, bI_0, okMsg, vT, vS, isC, Int32.lt_iff_toInt_lt, Int32.le_iff_toInt_le, ← Int32.toInt_inj, toI, Nat.reduceLT, Int32.toInt_zero] at *; omega)
                  · refine xi_iload (pc' := 108) rfl rfl rfl ?_
                    refine xi_iconst (pc' := 109) rfl rfl ?_
                    refine xx_icmp (pc' := 112) (tg := 122) rfl rfl rfl (fun q109 => ?_) (fun q109 => ?_)
                    · refine xi_iconst (pc' := 123) rfl rfl ?_
                      refine xi_istore (pc' := 125) rfl (st1_7 rfl) rfl ?_
                      exact k0 (by clear k0 k1; simp only [ex_P, Classical.not_not, bI_0, okMsg, vT, vS, isC, Int32.lt_iff_toInt_lt, Int32.le_iff_toInt_le, ← Int32.toInt_inj, toI, Nat.reduceLT, Int32.toInt_zero] at *; omega)
                    · refine xi_iload (pc' := 114) rfl rfl rfl ?_
                      refine xi_iconst (pc' := 115) rfl rfl ?_
                      refine xx_icmp (pc' := 118) (tg := 122) rfl rfl rfl (fun q115 => ?_) (fun q115 => ?_)
                      · refine xi_iconst (pc' := 123) rfl rfl ?_
                        refine xi_istore (pc' := 125) rfl (st1_7 rfl) rfl ?_
                        exact k0 (by clear k0 k1; simp only [ex_P, Classical.not_not, bI_0, okMsg, vT, vS, isC, Int32.lt_iff_toInt_lt, Int32.le_iff_toInt_le, ← Int32.toInt_inj, toI, Nat.reduceLT, Int32.toInt_zero] at *; omega)
                      · refine xi_iconst (pc' := 119) rfl rfl ?_
                        refine xi_goto (pc' := 123) rfl rfl ?_
                        refine xi_istore (pc' := 125) rfl (st1_7 rfl) rfl ?_
                        exact k1 (by clear k0 k1; simp only [ex_P, Classical.not_not, bI_0, okMsg, vT, vS, isC, Int32.lt_iff_toInt_lt, Int32.le_iff_toInt_le, ← Int32.toInt_inj, toI, Nat.reduceLT, Int32.toInt_zero] at *; omega)
              · refine xi_iload (pc' := 85) rfl rfl rfl ?_
                refine xx_callSi (pc' := 88) rfl rfl (by decide) rfl (Nat.le_of_ble_eq_true rfl) rfl rfl (r_isCode0 hc) ?_
                refine xi_ift (pc' := 122) rfl rfl (by decide) ?_
                refine xi_iconst (pc' := 123) rfl rfl ?_
                refine xi_istore (pc' := 125) rfl (st1_7 rfl) rfl ?_
                exact k0 (by clear k0 k1; simp only [ex_P, Classical.not_not, bI_0, okMsg, vT, vS, isC, Int32.lt_iff_toInt_lt, Int32.le_iff_toInt_le, ← Int32.toInt_inj, toI, Nat.reduceLT, Int32.toInt_zero] at *; omega)
        · refine xi_iload_n (pc' := 43) rfl rfl rfl ?_
          refine xx_callSi (pc' := 46) rfl rfl (by decide) rfl (Nat.le_of_ble_eq_true rfl) rfl rfl (r_isTerminal0 hx) ?_
          refine xi_ift (pc' := 70) rfl rfl (by decide) ?_
          refine xi_iconst (pc' := 71) rfl rfl ?_
          refine xi_istore (pc' := 73) rfl (st1_7 rfl) rfl ?_
          refine xi_iload (pc' := 75) rfl rfl rfl ?_
          refine xi_ift (pc' := 122) rfl rfl (by decide) ?_
          refine xi_iconst (pc' := 123) rfl rfl ?_
          refine xi_istore (pc' := 125) rfl (st1_7 rfl) rfl ?_
          exact k0 (by clear k0 k1; simp only [ex_P, Classical.not_not, bI_0, okMsg, vT, vS, isC, Int32.lt_iff_toInt_lt, Int32.le_iff_toInt_le, ← Int32.toInt_inj, toI, Nat.reduceLT, Int32.toInt_zero] at *; omega)
      · refine xi_iload (pc' := 27) rfl rfl rfl ?_
        refine xi_iconst (pc' := 28) rfl rfl ?_
        refine xx_icmp (pc' := 31) (tg := 37) rfl rfl rfl (fun q28 => ?_) (fun q28 => ?_)
        · refine xi_iload_n (pc' := 38) rfl rfl rfl ?_
          refine xi_iconst (pc' := 39) rfl rfl ?_
          refine xx_icmp (pc' := 42) (tg := 49) rfl rfl rfl (fun q39 => ?_) (fun q39 => ?_)
          · refine xi_iload_n (pc' := 50) rfl rfl rfl ?_
            refine xi_iconst (pc' := 51) rfl rfl ?_
            refine xx_icmp (pc' := 54) (tg := 66) rfl rfl rfl (fun q51 => ?_) (fun q51 => ?_)
            · refine xi_iconst (pc' := 67) rfl rfl ?_
              refine xi_goto (pc' := 71) rfl rfl ?_
              refine xi_istore (pc' := 73) rfl (st1_7 rfl) rfl ?_
              refine xi_iload (pc' := 75) rfl rfl rfl ?_
              refine xi_iff (pc' := 78) (tg := 122) rfl rfl (by decide) rfl ?_
              refine xi_iload_n (pc' := 79) rfl rfl rfl ?_
              refine xi_iconst (pc' := 80) rfl rfl ?_
              refine xx_icmp (pc' := 83) (tg := 94) rfl rfl rfl (fun q80 => ?_) (fun q80 => ?_)
              · refine xi_iload (pc' := 96) rfl rfl rfl ?_
                refine xi_iconst (pc' := 97) rfl rfl ?_
                refine xx_icmp (pc' := 100) (tg := 122) rfl rfl rfl (fun q97 => ?_) (fun q97 => ?_)
                · refine xi_iconst (pc' := 123) rfl rfl ?_
                  refine xi_istore (pc' := 125) rfl (st1_7 rfl) rfl ?_
                  exact k0 (by clear k0 k1; simp only [ex_P, Classical.not_not, bI_0, okMsg, vT, vS, isC, Int32.lt_iff_toInt_lt, Int32.le_iff_toInt_le, ← Int32.toInt_inj, toI, Nat.reduceLT, Int32.toInt_zero] at *; omega)
                · refine xi_iload (pc' := 102) rfl rfl rfl ?_
                  refine xi_iconst (pc' := 103) rfl rfl ?_
                  refine xx_icmp (pc' := 106) (tg := 122) rfl rfl rfl (fun q103 => ?_) (fun q103 => ?_)
                  · refine xi_iconst (pc' := 123) rfl rfl ?_
                    refine xi_istore (pc' := 125) rfl (st1_7 rfl) rfl ?_
                    exact k0 (by clear k0 k1; simp only [ex_P, Classical.not_not, bI_0, okMsg, vT, vS, isC, Int32.lt_iff_toInt_lt, Int32.le_iff_toInt_le, ← Int32.toInt_inj, toI, Nat.reduceLT, Int32.toInt_zero] at *; omega)
                  · refine xi_iload (pc' := 108) rfl rfl rfl ?_
                    refine xi_iconst (pc' := 109) rfl rfl ?_
                    refine xx_icmp (pc' := 112) (tg := 122) rfl rfl rfl (fun q109 => ?_) (fun q109 => ?_)
                    · refine xi_iconst (pc' := 123) rfl rfl ?_
                      refine xi_istore (pc' := 125) rfl (st1_7 rfl) rfl ?_
                      exact k0 (by clear k0 k1; simp only [ex_P, Classical.not_not, bI_0, okMsg, vT, vS, isC, Int32.lt_iff_toInt_lt, Int32.le_iff_toInt_le, ← Int32.toInt_inj, toI, Nat.reduceLT, Int32.toInt_zero] at *; omega)
                    · refine xi_iload (pc' := 114) rfl rfl rfl ?_
                      refine xi_iconst (pc' := 115) rfl rfl ?_
                      refine xx_icmp (pc' := 118) (tg := 122) rfl rfl rfl (fun q115 => ?_) (fun q115 => ?_)
                      · refine xi_iconst (pc' := 123) rfl rfl ?_
                        refine xi_istore (pc' := 125) rfl (st1_7 rfl) rfl ?_
                        exact k0 (by clear k0 k1; simp only [ex_P, Classical.not_not, bI_0, okMsg, vT, vS, isC, Int32.lt_iff_toInt_lt, Int32.le_iff_toInt_le, ← Int32.toInt_inj, toI, Nat.reduceLT, Int32.toInt_zero] at *; omega)
                      · refine xi_iconst (pc' := 119) rfl rfl ?_
                        refine xi_goto (pc' := 123) rfl rfl ?_
                        refine xi_istore (pc' := 125) rfl (st1_7 rfl) rfl ?_
                        exact k1 (by clear k0 k1; simp only [ex_P, Classical.not_not, bI_0, okMsg, vT, vS, isC, Int32.lt_iff_toInt_lt, Int32.le_iff_toInt_le, ← Int32.toInt_inj, toI, Nat.reduceLT, Int32.toInt_zero] at *; omega)
              · refine xi_iload (pc' := 85) rfl rfl rfl ?_
                refine xx_callSi (pc' := 88) rfl rfl (by decide) rfl (Nat.le_of_ble_eq_true rfl) rfl rfl (r_isCode0 hc) ?_
                refine xi_ift (pc' := 122) rfl rfl (by decide) ?_
                refine xi_iconst (pc' := 123) rfl rfl ?_
                refine xi_istore (pc' := 125) rfl (st1_7 rfl) rfl ?_
                exact k0 (by clear k0 k1; simp only [ex_P, Classical.not_not, bI_0, okMsg, vT, vS, isC, Int32.lt_iff_toInt_lt, Int32.le_iff_toInt_le, ← Int32.toInt_inj, toI, Nat.reduceLT, Int32.toInt_zero] at *; omega)
            · refine xi_iload_n (pc' := 55) rfl rfl rfl ?_
              refine xx_callSi (pc' := 58) rfl rfl (by decide) rfl (Nat.le_of_ble_eq_true rfl) rfl rfl (r_isTerminal1 hy) ?_
              refine xi_iff (pc' := 61) (tg := 70) rfl rfl (by decide) rfl ?_
              refine xi_iload_n (pc' := 62) rfl rfl rfl ?_
              refine xi_iload_n (pc' := 63) rfl rfl rfl ?_
              refine xx_icmp (pc' := 66) (tg := 70) rfl rfl rfl (fun q63 => ?_) (fun q63 => ?_)
              · refine xi_iconst (pc' := 71) rfl rfl ?_
                refine xi_istore (pc' := 73) rfl (st1_7 rfl) rfl ?_
                refine xi_iload (pc' := 75) rfl rfl rfl ?_
                refine xi_ift (pc' := 122) rfl rfl (by decide) ?_
                refine xi_iconst (pc' := 123) rfl rfl ?_
                refine xi_istore (pc' := 125) rfl (st1_7 rfl) rfl ?_
                exact k0 (by clear k0 k1; simp only [ex_P, Classical.not_not, bI_0, okMsg, vT, vS, isC, Int32.lt_iff_toInt_lt, Int32.le_iff_toInt_le, ← Int32.toInt_inj, toI, Nat.reduceLT, Int32.toInt_zero] at *; omega)
              · refine xi_iconst (pc' := 67) rfl rfl ?_
                refine xi_goto (pc' := 71) rfl rfl ?_
                refine xi_istore (pc' := 73) rfl (st1_7 rfl) rfl ?_
                refine xi_iload (pc' := 75) rfl rfl rfl ?_
                refine xi_iff (pc' := 78) (tg := 122) rfl rfl (by decide) rfl ?_
                refine xi_iload_n (pc' := 79) rfl rfl rfl ?_
                refine xi_iconst (pc' := 80) rfl rfl ?_
                refine xx_icmp (pc' := 83) (tg := 94) rfl rfl rfl (fun q80 => ?_) (fun q80 => ?_)
                · refine xi_iload (pc' := 96) rfl rfl rfl ?_
                  refine xi_iconst (pc' := 97) rfl rfl ?_
                  refine xx_icmp (pc' := 100) (tg := 122) rfl rfl rfl (fun q97 => ?_) (fun q97 => ?_)
                  · refine xi_iconst (pc' := 123) rfl rfl ?_
                    refine xi_istore (pc' := 125) rfl (st1_7 rfl) rfl ?_
                    exact k0 (by clear k0 k1; simp only [ex_P, Classical.not_not, bI_0, okMsg, vT, vS, isC, Int32.lt_iff_toInt_lt, Int32.le_iff_toInt_le, ← Int32.toInt_inj, toI, Nat.reduceLT, Int32.toInt_zero] at *; omega)
                  · refine xi_iload (pc' := 102) rfl rfl rfl ?_
                    refine xi_iconst (pc' := 103) rfl rfl ?_
                    refine xx_icmp (pc' := 106) (tg := 122) rfl rfl rfl (fun q103 => ?_) (fun q103 => ?_)
                    · refine xi_iconst (pc' := 123) rfl rfl ?_
                      refine xi_istore (pc' := 125) rfl (st1_7 rfl) rfl ?_
                      exact k0 (by clear k0 k1; simp only [ex_P, Classical.not_not, bI_0, okMsg, vT, vS, isC, Int32.lt_iff_toInt_lt, Int32.le_iff_toInt_le, ← Int32.toInt_inj, toI, Nat.reduceLT, Int32.toInt_zero] at *; omega)
                    · refine xi_iload (pc' := 108) rfl rfl rfl ?_
                      refine xi_iconst (pc' := 109) rfl rfl ?_
                      refine xx_icmp (pc' := 112) (tg := 122) rfl rfl rfl (fun q109 => ?_) (fun q109 => ?_)
                      · refine xi_iconst (pc' := 123) rfl rfl ?_
                        refine xi_istore (pc' := 125) rfl (st1_7 rfl) rfl ?_
                        exact k0 (by clear k0 k1; simp only [ex_P, Classical.not_not, bI_0, okMsg, vT, vS, isC, Int32.lt_iff_toInt_lt, Int32.le_iff_toInt_le, ← Int32.toInt_inj, toI, Nat.reduceLT, Int32.toInt_zero] at *; omega)
                      · refine xi_iload (pc' := 114) rfl rfl rfl ?_
                        refine xi_iconst (pc' := 115) rfl rfl ?_
                        refine xx_icmp (pc' := 118) (tg := 122) rfl rfl rfl (fun q115 => ?_) (fun q115 => ?_)
                        · refine xi_iconst (pc' := 123) rfl rfl ?_
                          refine xi_istore (pc' := 125) rfl (st1_7 rfl) rfl ?_
                          exact k0 (by clear k0 k1; simp only [ex_P, Classical.not_not, bI_0, okMsg, vT, vS, isC, Int32.lt_iff_toInt_lt, Int32.le_iff_toInt_le, ← Int32.toInt_inj, toI, Nat.reduceLT, Int32.toInt_zero] at *; omega)
                        · refine xi_iconst (pc' := 119) rfl rfl ?_
                          refine xi_goto (pc' := 123) rfl rfl ?_
                          refine xi_istore (pc' := 125) rfl (st1_7 rfl) rfl ?_
                          exact k1 (by clear k0 k1; simp only [ex_P, Classical.not_not, bI_0, okMsg, vT, vS, isC, Int32.lt_iff_toInt_lt, Int32.le_iff_toInt_le, ← Int32.toInt_inj, toI, Nat.reduceLT, Int32.toInt_zero] at *; omega)
                · refine xi_iload (pc' := 85) rfl rfl rfl ?_
                  refine xx_callSi (pc' := 88) rfl rfl (by decide) rfl (Nat.le_of_ble_eq_true rfl) rfl rfl (r_isCode0 hc) ?_
                  refine xi_ift (pc' := 122) rfl rfl (by decide) ?_
                  refine xi_iconst (pc' := 123) rfl rfl ?_
                  refine xi_istore (pc' := 125) rfl (st1_7 rfl) rfl ?_
                  exact k0 (by clear k0 k1; simp only [ex_P, Classical.not_not, bI_0, okMsg, vT, vS, isC, Int32.lt_iff_toInt_lt, Int32.le_iff_toInt_le, ← Int32.toInt_inj, toI, Nat.reduceLT, Int32.toInt_zero] at *; omega)
          · refine xi_iload_n (pc' := 43) rfl rfl rfl ?_
            refine xx_callSi (pc' := 46) rfl rfl (by decide) rfl (Nat.le_of_ble_eq_true rfl) rfl rfl (r_isTerminal0 hx) ?_
            refine xi_ift (pc' := 70) rfl rfl (by decide) ?_
            refine xi_iconst (pc' := 71) rfl rfl ?_
            refine xi_istore (pc' := 73) rfl (st1_7 rfl) rfl ?_
            refine xi_iload (pc' := 75) rfl rfl rfl ?_
            refine xi_ift (pc' := 122) rfl rfl (by decide) ?_
            refine xi_iconst (pc' := 123) rfl rfl ?_
            refine xi_istore (pc' := 125) rfl (st1_7 rfl) rfl ?_
            exact k0 (by clear k0 k1; simp only [ex_P, Classical.not_not, bI_0, okMsg, vT, vS, isC, Int32.lt_iff_toInt_lt, Int32.le_iff_toInt_le, ← Int32.toInt_inj, toI, Nat.reduceLT, Int32.toInt_zero] at *; omega)
        · refine xi_iload (pc' := 33) rfl rfl rfl ?_
          refine xi_iconst (pc' := 34) rfl rfl ?_
          refine xx_icmp (pc' := 37) (tg := 70) rfl rfl rfl (fun q34 => ?_) (fun q34 => ?_)
          · refine xi_iconst (pc' := 71) rfl rfl ?_
            refine xi_istore (pc' := 73) rfl (st1_7 rfl) rfl ?_
            refine xi_iload (pc' := 75) rfl rfl rfl ?_
            refine xi_ift (pc' := 122) rfl rfl (by decide) ?_
            refine xi_iconst (pc' := 123) rfl rfl ?_
            refine xi_istore (pc' := 125) rfl (st1_7 rfl) rfl ?_
            exact k0 (by clear k0 k1; simp only [ex_P, Classical.not_not, bI_0, okMsg, vT, vS, isC, Int32.lt_iff_toInt_lt, Int32.le_iff_toInt_le, ← Int32.toInt_inj, toI, Nat.reduceLT, Int32.toInt_zero] at *; omega)
          · refine xi_iload_n (pc' := 38) rfl rfl rfl ?_
            refine xi_iconst (pc' := 39) rfl rfl ?_
            refine xx_icmp (pc' := 42) (tg := 49) rfl rfl rfl (fun q39 => ?_) (fun q39 => ?_)
            · refine xi_iload_n (pc' := 50) rfl rfl rfl ?_
              refine xi_iconst (pc' := 51) rfl rfl ?_
              refine xx_icmp (pc' := 54) (tg := 66) rfl rfl rfl (fun q51 => ?_) (fun q51 => ?_)
              · refine xi_iconst (pc' := 67) rfl rfl ?_
                refine xi_goto (pc' := 71) rfl rfl ?_
                refine xi_istore (pc' := 73) rfl (st1_7 rfl) rfl ?_
                refine xi_iload (pc' := 75) rfl rfl rfl ?_
                refine xi_iff (pc' := 78) (tg := 122) rfl rfl (by decide) rfl ?_
                refine xi_iload_n (pc' := 79) rfl rfl rfl ?_
                refine xi_iconst (pc' := 80) rfl rfl ?_
                refine xx_icmp (pc' := 83) (tg := 94) rfl rfl rfl (fun q80 => ?_) (fun q80 => ?_)
                · refine xi_iload (pc' := 96) rfl rfl rfl ?_
                  refine xi_iconst (pc' := 97) rfl rfl ?_
                  refine xx_icmp (pc' := 100) (tg := 122) rfl rfl rfl (fun q97 => ?_) (fun q97 => ?_)
                  · refine xi_iconst (pc' := 123) rfl rfl ?_
                    refine xi_istore (pc' := 125) rfl (st1_7 rfl) rfl ?_
                    exact k0 (by clear k0 k1; simp only [ex_P, Classical.not_not, bI_0, okMsg, vT, vS, isC, Int32.lt_iff_toInt_lt, Int32.le_iff_toInt_le, ← Int32.toInt_inj, toI, Nat.reduceLT, Int32.toInt_zero] at *; omega)
                  · refine xi_iload (pc' := 102) rfl rfl rfl ?_
                    refine xi_iconst (pc' := 103) rfl rfl ?_
                    refine xx_icmp (pc' := 106) (tg := 122) rfl rfl rfl (fun q103 => ?_) (fun q103 => ?_)
                    · refine xi_iconst (pc' := 123) rfl rfl ?_
                      refine xi_istore (pc' := 125) rfl (st1_7 rfl) rfl ?_
                      exact k0 (by clear k0 k1; simp only [ex_P, Classical.not_not, bI_0, okMsg, vT, vS, isC, Int32.lt_iff_toInt_lt, Int32.le_iff_toInt_le, ← Int32.toInt_inj, toI, Nat.reduceLT, Int32.toInt_zero] at *; omega)
                    · refine xi_iload (pc' := 108) rfl rfl rfl ?_
                      refine xi_iconst (pc' := 109) rfl rfl ?_
                      refine xx_icmp (pc' := 112) (tg := 122) rfl rfl rfl (fun q109 => ?_) (fun q109 => ?_)
                      · refine xi_iconst (pc' := 123) rfl rfl ?_
                        refine xi_istore (pc' := 125) rfl (st1_7 rfl) rfl ?_
                        exact k0 (by clear k0 k1; simp only [ex_P, Classical.not_not, bI_0, okMsg, vT, vS, isC, Int32.lt_iff_toInt_lt, Int32.le_iff_toInt_le, ← Int32.toInt_inj, toI, Nat.reduceLT, Int32.toInt_zero] at *; omega)
                      · refine xi_iload (pc' := 114) rfl rfl rfl ?_
                        refine xi_iconst (pc' := 115) rfl rfl ?_
                        refine xx_icmp (pc' := 118) (tg := 122) rfl rfl rfl (fun q115 => ?_) (fun q115 => ?_)
                        · refine xi_iconst (pc' := 123) rfl rfl ?_
                          refine xi_istore (pc' := 125) rfl (st1_7 rfl) rfl ?_
                          exact k0 (by clear k0 k1; simp only [ex_P, Classical.not_not, bI_0, okMsg, vT, vS, isC, Int32.lt_iff_toInt_lt, Int32.le_iff_toInt_le, ← Int32.toInt_inj, toI, Nat.reduceLT, Int32.toInt_zero] at *; omega)
                        · refine xi_iconst (pc' := 119) rfl rfl ?_
                          refine xi_goto (pc' := 123) rfl rfl ?_
                          refine xi_istore (pc' := 125) rfl (st1_7 rfl) rfl ?_
                          exact k1 (by clear k0 k1; simp only [ex_P, Classical.not_not, bI_0, okMsg, vT, vS, isC, Int32.lt_iff_toInt_lt, Int32.le_iff_toInt_le, ← Int32.toInt_inj, toI, Nat.reduceLT, Int32.toInt_zero] at *; omega)
                · refine xi_iload (pc' := 85) rfl rfl rfl ?_
                  refine xx_callSi (pc' := 88) rfl rfl (by decide) rfl (Nat.le_of_ble_eq_true rfl) rfl rfl (r_isCode0 hc) ?_
                  refine xi_ift (pc' := 122) rfl rfl (by decide) ?_
                  refine xi_iconst (pc' := 123) rfl rfl ?_
                  refine xi_istore (pc' := 125) rfl (st1_7 rfl) rfl ?_
                  exact k0 (by clear k0 k1; simp only [ex_P, Classical.not_not, bI_0, okMsg, vT, vS, isC, Int32.lt_iff_toInt_lt, Int32.le_iff_toInt_le, ← Int32.toInt_inj, toI, Nat.reduceLT, Int32.toInt_zero] at *; omega)
              · refine xi_iload_n (pc' := 55) rfl rfl rfl ?_
                refine xx_callSi (pc' := 58) rfl rfl (by decide) rfl (Nat.le_of_ble_eq_true rfl) rfl rfl (r_isTerminal1 hy) ?_
                refine xi_iff (pc' := 61) (tg := 70) rfl rfl (by decide) rfl ?_
                refine xi_iload_n (pc' := 62) rfl rfl rfl ?_
                refine xi_iload_n (pc' := 63) rfl rfl rfl ?_
                refine xx_icmp (pc' := 66) (tg := 70) rfl rfl rfl (fun q63 => ?_) (fun q63 => ?_)
                · refine xi_iconst (pc' := 71) rfl rfl ?_
                  refine xi_istore (pc' := 73) rfl (st1_7 rfl) rfl ?_
                  refine xi_iload (pc' := 75) rfl rfl rfl ?_
                  refine xi_ift (pc' := 122) rfl rfl (by decide) ?_
                  refine xi_iconst (pc' := 123) rfl rfl ?_
                  refine xi_istore (pc' := 125) rfl (st1_7 rfl) rfl ?_
                  exact k0 (by clear k0 k1; simp only [ex_P, Classical.not_not, bI_0, okMsg, vT, vS, isC, Int32.lt_iff_toInt_lt, Int32.le_iff_toInt_le, ← Int32.toInt_inj, toI, Nat.reduceLT, Int32.toInt_zero] at *; omega)
                · refine xi_iconst (pc' := 67) rfl rfl ?_
                  refine xi_goto (pc' := 71) rfl rfl ?_
                  refine xi_istore (pc' := 73) rfl (st1_7 rfl) rfl ?_
                  refine xi_iload (pc' := 75) rfl rfl rfl ?_
                  refine xi_iff (pc' := 78) (tg := 122) rfl rfl (by decide) rfl ?_
                  refine xi_iload_n (pc' := 79) rfl rfl rfl ?_
                  refine xi_iconst (pc' := 80) rfl rfl ?_
                  refine xx_icmp (pc' := 83) (tg := 94) rfl rfl rfl (fun q80 => ?_) (fun q80 => ?_)
                  · refine xi_iload (pc' := 96) rfl rfl rfl ?_
                    refine xi_iconst (pc' := 97) rfl rfl ?_
                    refine xx_icmp (pc' := 100) (tg := 122) rfl rfl rfl (fun q97 => ?_) (fun q97 => ?_)
                    · refine xi_iconst (pc' := 123) rfl rfl ?_
                      refine xi_istore (pc' := 125) rfl (st1_7 rfl) rfl ?_
                      exact k0 (by clear k0 k1; simp only [ex_P, Classical.not_not, bI_0, okMsg, vT, vS, isC, Int32.lt_iff_toInt_lt, Int32.le_iff_toInt_le, ← Int32.toInt_inj, toI, Nat.reduceLT, Int32.toInt_zero] at *; omega)
                    · refine xi_iload (pc' := 102) rfl rfl rfl ?_
                      refine xi_iconst (pc' := 103) rfl rfl ?_
                      refine xx_icmp (pc' := 106) (tg := 122) rfl rfl rfl (fun q103 => ?_) (fun q103 => ?_)
                      · refine xi_iconst (pc' := 123) rfl rfl ?_
                        refine xi_istore (pc' := 125) rfl (st1_7 rfl) rfl ?_
                        exact k0 (by clear k0 k1; simp only [ex_P, Classical.not_not, bI_0, okMsg, vT, vS, isC, Int32.lt_iff_toInt_lt, Int32.le_iff_toInt_le, ← Int32.toInt_inj, toI, Nat.reduceLT, Int32.toInt_zero] at *; omega)
                      · refine xi_iload (pc' := 108) rfl rfl rfl ?_
                        refine xi_iconst (pc' := 109) rfl rfl ?_
                        refine xx_icmp (pc' := 112) (tg := 122) rfl rfl rfl (fun q109 => ?_) (fun q109 => ?_)
                        · refine xi_iconst (pc' := 123) rfl rfl ?_
                          refine xi_istore (pc' := 125) rfl (st1_7 rfl) rfl ?_
                          exact k0 (by clear k0 k1; simp only [ex_P, Classical.not_not, bI_0, okMsg, vT, vS, isC, Int32.lt_iff_toInt_lt, Int32.le_iff_toInt_le, ← Int32.toInt_inj, toI, Nat.reduceLT, Int32.toInt_zero] at *; omega)
                        · refine xi_iload (pc' := 114) rfl rfl rfl ?_
                          refine xi_iconst (pc' := 115) rfl rfl ?_
                          refine xx_icmp (pc' := 118) (tg := 122) rfl rfl rfl (fun q115 => ?_) (fun q115 => ?_)
                          · refine xi_iconst (pc' := 123) rfl rfl ?_
                            refine xi_istore (pc' := 125) rfl (st1_7 rfl) rfl ?_
                            exact k0 (by clear k0 k1; simp only [ex_P, Classical.not_not, bI_0, okMsg, vT, vS, isC, Int32.lt_iff_toInt_lt, Int32.le_iff_toInt_le, ← Int32.toInt_inj, toI, Nat.reduceLT, Int32.toInt_zero] at *; omega)
                          · refine xi_iconst (pc' := 119) rfl rfl ?_
                            refine xi_goto (pc' := 123) rfl rfl ?_
                            refine xi_istore (pc' := 125) rfl (st1_7 rfl) rfl ?_
                            exact k1 (by clear k0 k1; simp only [ex_P, Classical.not_not, bI_0, okMsg, vT, vS, isC, Int32.lt_iff_toInt_lt, Int32.le_iff_toInt_le, ← Int32.toInt_inj, toI, Nat.reduceLT, Int32.toInt_zero] at *; omega)
                  · refine xi_iload (pc' := 85) rfl rfl rfl ?_
                    refine xx_callSi (pc' := 88) rfl rfl (by decide) rfl (Nat.le_of_ble_eq_true rfl) rfl rfl (r_isCode0 hc) ?_
                    refine xi_ift (pc' := 122) rfl rfl (by decide) ?_
                    refine xi_iconst (pc' := 123) rfl rfl ?_
                    refine xi_istore (pc' := 125) rfl (st1_7 rfl) rfl ?_
                    exact k0 (by clear k0 k1; simp only [ex_P, Classical.not_not, bI_0, okMsg, vT, vS, isC, Int32.lt_iff_toInt_lt, Int32.le_iff_toInt_le, ← Int32.toInt_inj, toI, Nat.reduceLT, Int32.toInt_zero] at *; omega)
            · refine xi_iload_n (pc' := 43) rfl rfl rfl ?_
              refine xx_callSi (pc' := 46) rfl rfl (by decide) rfl (Nat.le_of_ble_eq_true rfl) rfl rfl (r_isTerminal0 hx) ?_
              refine xi_ift (pc' := 70) rfl rfl (by decide) ?_
              refine xi_iconst (pc' := 71) rfl rfl ?_
              refine xi_istore (pc' := 73) rfl (st1_7 rfl) rfl ?_
              refine xi_iload (pc' := 75) rfl rfl rfl ?_
              refine xi_ift (pc' := 122) rfl rfl (by decide) ?_
              refine xi_iconst (pc' := 123) rfl rfl ?_
              refine xi_istore (pc' := 125) rfl (st1_7 rfl) rfl ?_
              exact k0 (by clear k0 k1; simp only [ex_P, Classical.not_not, bI_0, okMsg, vT, vS, isC, Int32.lt_iff_toInt_lt, Int32.le_iff_toInt_le, ← Int32.toInt_inj, toI, Nat.reduceLT, Int32.toInt_zero] at *; omega)
theorem r_msg_001 {L : Nat} {xs : Nat → Int32} {D n : Nat} {I J : ex_Mem} {kind x y s nn per : Int32} {Q : Option Value → ex_Hp → Prop} (k1 : okMsg kind x y s nn per → xx cb_G L xs (D + 1) 94 125 [.ref 52, .int kind, .int x, .int y, .int s, .int nn, .int per, .int (nI 1)] [] (mkH n I J) Q) (k0 : ¬ okMsg kind x y s nn per → xx cb_G L xs (D + 1) 94 125 [.ref 52, .int kind, .int x, .int y, .int s, .int nn, .int per, .int (nI 0)] [] (mkH n I J) Q) (hx : ¬ vT x) (hy : ¬ vT y) (hc : isC nn) : xx cb_G L xs (D + 1) 94 10 [.ref 52, .int kind, .int x, .int y, .int s, .int nn, .int per, ex_no] [] (mkH n I J) Q := by
  refine xi_iload_n (pc' := 11) rfl rfl rfl ?_
  refine xx_if (pc' := 14) (tg := 70) rfl rfl rfl (fun q11 => ?_) (fun q11 => ?_)
  · refine xi_iconst (pc' := 71) rfl rfl ?_
    refine xi_istore (pc' := 73) rfl (st1_7 rfl) rfl ?_
    refine xi_iload (pc' := 75) rfl rfl rfl ?_
    refine xi_ift (pc' := 122) rfl rfl (by decide) ?_
    refine xi_iconst (pc' := 123) rfl rfl ?_
    refine xi_istore (pc' := 125) rfl (st1_7 rfl) rfl ?_
    exact k0 (by clear k0 k1; simp only [ex_P, Classical.not_not, bI_0, okMsg, vT, vS, isC, Int32.lt_iff_toInt_lt, Int32.le_iff_toInt_le, ← Int32.toInt_inj, toI, Nat.reduceLT, Int32.toInt_zero] at *; omega)
  · refine xi_iload_n (pc' := 15) rfl rfl rfl ?_
    refine xi_iconst (pc' := 16) rfl rfl ?_
    refine xx_icmp (pc' := 19) (tg := 70) rfl rfl rfl (fun q16 => ?_) (fun q16 => ?_)
    · refine xi_iconst (pc' := 71) rfl rfl ?_
      refine xi_istore (pc' := 73) rfl (st1_7 rfl) rfl ?_
      refine xi_iload (pc' := 75) rfl rfl rfl ?_
      refine xi_ift (pc' := 122) rfl rfl (by decide) ?_
      refine xi_iconst (pc' := 123) rfl rfl ?_
      refine xi_istore (pc' := 125) rfl (st1_7 rfl) rfl ?_
      exact k0 (by clear k0 k1; simp only [ex_P, Classical.not_not, bI_0, okMsg, vT, vS, isC, Int32.lt_iff_toInt_lt, Int32.le_iff_toInt_le, ← Int32.toInt_inj, toI, Nat.reduceLT, Int32.toInt_zero] at *; omega)
    · refine xi_iload (pc' := 21) rfl rfl rfl ?_
      refine xi_iconst (pc' := 22) rfl rfl ?_
      refine xx_icmp (pc' := 25) (tg := 37) rfl rfl rfl (fun q22 => ?_) (fun q22 => ?_)
      · refine xi_iload_n (pc' := 38) rfl rfl rfl ?_
        refine xi_iconst (pc' := 39) rfl rfl ?_
        refine xx_icmp (pc' := 42) (tg := 49) rfl rfl rfl (fun q39 => ?_) (fun q39 => ?_)
        · refine xi_iload_n (pc' := 50) rfl rfl rfl ?_
          refine xi_iconst (pc' := 51) rfl rfl ?_
          refine xx_icmp (pc' := 54) (tg := 66) rfl rfl rfl (fun q51 => ?_) (fun q51 => ?_)
          · refine xi_iconst (pc' := 67) rfl rfl ?_
            refine xi_goto (pc' := 71) rfl rfl ?_
            refine xi_istore (pc' := 73) rfl (st1_7 rfl) rfl ?_
            refine xi_iload (pc' := 75) rfl rfl rfl ?_
            refine xi_iff (pc' := 78) (tg := 122) rfl rfl (by decide) rfl ?_
            refine xi_iload_n (pc' := 79) rfl rfl rfl ?_
            refine xi_iconst (pc' := 80) rfl rfl ?_
            refine xx_icmp (pc' := 83) (tg := 94) rfl rfl rfl (fun q80 => ?_) (fun q80 => ?_)
            · refine xi_iload (pc' := 96) rfl rfl rfl ?_
              refine xi_iconst (pc' := 97) rfl rfl ?_
              refine xx_icmp (pc' := 100) (tg := 122) rfl rfl rfl (fun q97 => ?_) (fun q97 => ?_)
              · refine xi_iconst (pc' := 123) rfl rfl ?_
                refine xi_istore (pc' := 125) rfl (st1_7 rfl) rfl ?_
                exact k0 (by clear k0 k1; simp only [ex_P, Classical.not_not, bI_0, okMsg, vT, vS, isC, Int32.lt_iff_toInt_lt, Int32.le_iff_toInt_le, ← Int32.toInt_inj, toI, Nat.reduceLT, Int32.toInt_zero] at *; omega)
              · refine xi_iload (pc' := 102) rfl rfl rfl ?_
                refine xi_iconst (pc' := 103) rfl rfl ?_
                refine xx_icmp (pc' := 106) (tg := 122) rfl rfl rfl (fun q103 => ?_) (fun q103 => ?_)
                · refine xi_iconst (pc' := 123) rfl rfl ?_
                  refine xi_istore (pc' := 125) rfl (st1_7 rfl) rfl ?_
                  exact k0 (by clear k0 k1; simp only [ex_P, Classical.not_not, bI_0, okMsg, vT, vS, isC, Int32.lt_iff_toInt_lt, Int32.le_iff_toInt_le, ← Int32.toInt_inj, toI, Nat.reduceLT, Int32.toInt_zero] at *; omega)
                · refine xi_iload (pc' := 108) rfl rfl rfl ?_
                  refine xi_iconst (pc' := 109) rfl rfl ?_
                  refine xx_icmp (pc' := 112) (tg := 122) rfl rfl rfl (fun q109 => ?_) (fun q109 => ?_)
                  · refine xi_iconst (pc' := 123) rfl rfl ?_
                    refine xi_istore (pc' := 125) rfl (st1_7 rfl) rfl ?_
                    exact k0 (by clear k0 k1; simp only [ex_P, Classical.not_not, bI_0, okMsg, vT, vS, isC, Int32.lt_iff_toInt_lt, Int32.le_iff_toInt_le, ← Int32.toInt_inj, toI, Nat.reduceLT, Int32.toInt_zero] at *; omega)
                  · refine xi_iload (pc' := 114) rfl rfl rfl ?_
                    refine xi_iconst (pc' := 115) rfl rfl ?_
                    refine xx_icmp (pc' := 118) (tg := 122) rfl rfl rfl (fun q115 => ?_) (fun q115 => ?_)
                    · refine xi_iconst (pc' := 123) rfl rfl ?_
                      refine xi_istore (pc' := 125) rfl (st1_7 rfl) rfl ?_
                      exact k0 (by clear k0 k1; simp only [ex_P, Classical.not_not, bI_0, okMsg, vT, vS, isC, Int32.lt_iff_toInt_lt, Int32.le_iff_toInt_le, ← Int32.toInt_inj, toI, Nat.reduceLT, Int32.toInt_zero] at *; omega)
                    · refine xi_iconst (pc' := 119) rfl rfl ?_
                      refine xi_goto (pc' := 123) rfl rfl ?_
                      refine xi_istore (pc' := 125) rfl (st1_7 rfl) rfl ?_
                      exact k1 (by clear k0 k1; simp only [ex_P, Classical.not_not, bI_0, okMsg, vT, vS, isC, Int32.lt_iff_toInt_lt, Int32.le_iff_toInt_le, ← Int32.toInt_inj, toI, Nat.reduceLT, Int32.toInt_zero] at *; omega)
            · refine xi_iload (pc' := 85) rfl rfl rfl ?_
              refine xx_callSi (pc' := 88) rfl rfl (by decide) rfl (Nat.le_of_ble_eq_true rfl) rfl rfl (r_isCode1 hc) ?_
              refine xi_iff (pc' := 91) (tg := 122) rfl rfl (by decide) rfl ?_
              refine xi_goto (pc' := 118) rfl rfl ?_
              refine xi_iconst (pc' := 119) rfl rfl ?_
              refine xi_goto (pc' := 123) rfl rfl ?_
              refine xi_istore (pc' := 125) rfl (st1_7 rfl) rfl ?_
              exact k1 (by clear k0 k1; simp only [ex_P, Classical.not_not, bI_0, okMsg, vT, vS, isC, Int32.lt_iff_toInt_lt, Int32.le_iff_toInt_le, ← Int32.toInt_inj, toI, Nat.reduceLT, Int32.toInt_zero] at *; omega)
          · refine xi_iload_n (pc' := 55) rfl rfl rfl ?_
            refine xx_callSi (pc' := 58) rfl rfl (by decide) rfl (Nat.le_of_ble_eq_true rfl) rfl rfl (r_isTerminal0 hy) ?_
            refine xi_ift (pc' := 70) rfl rfl (by decide) ?_
            refine xi_iconst (pc' := 71) rfl rfl ?_
            refine xi_istore (pc' := 73) rfl (st1_7 rfl) rfl ?_
            refine xi_iload (pc' := 75) rfl rfl rfl ?_
            refine xi_ift (pc' := 122) rfl rfl (by decide) ?_
            refine xi_iconst (pc' := 123) rfl rfl ?_
            refine xi_istore (pc' := 125) rfl (st1_7 rfl) rfl ?_
            exact k0 (by clear k0 k1; simp only [ex_P, Classical.not_not, bI_0, okMsg, vT, vS, isC, Int32.lt_iff_toInt_lt, Int32.le_iff_toInt_le, ← Int32.toInt_inj, toI, Nat.reduceLT, Int32.toInt_zero] at *; omega)
        · refine xi_iload_n (pc' := 43) rfl rfl rfl ?_
          refine xx_callSi (pc' := 46) rfl rfl (by decide) rfl (Nat.le_of_ble_eq_true rfl) rfl rfl (r_isTerminal0 hx) ?_
          refine xi_ift (pc' := 70) rfl rfl (by decide) ?_
          refine xi_iconst (pc' := 71) rfl rfl ?_
          refine xi_istore (pc' := 73) rfl (st1_7 rfl) rfl ?_
          refine xi_iload (pc' := 75) rfl rfl rfl ?_
          refine xi_ift (pc' := 122) rfl rfl (by decide) ?_
          refine xi_iconst (pc' := 123) rfl rfl ?_
          refine xi_istore (pc' := 125) rfl (st1_7 rfl) rfl ?_
          exact k0 (by clear k0 k1; simp only [ex_P, Classical.not_not, bI_0, okMsg, vT, vS, isC, Int32.lt_iff_toInt_lt, Int32.le_iff_toInt_le, ← Int32.toInt_inj, toI, Nat.reduceLT, Int32.toInt_zero] at *; omega)
      · refine xi_iload (pc' := 27) rfl rfl rfl ?_
        refine xi_iconst (pc' := 28) rfl rfl ?_
        refine xx_icmp (pc' := 31) (tg := 37) rfl rfl rfl (fun q28 => ?_) (fun q28 => ?_)
        · refine xi_iload_n (pc' := 38) rfl rfl rfl ?_
          refine xi_iconst (pc' := 39) rfl rfl ?_
          refine xx_icmp (pc' := 42) (tg := 49) rfl rfl rfl (fun q39 => ?_) (fun q39 => ?_)
          · refine xi_iload_n (pc' := 50) rfl rfl rfl ?_
            refine xi_iconst (pc' := 51) rfl rfl ?_
            refine xx_icmp (pc' := 54) (tg := 66) rfl rfl rfl (fun q51 => ?_) (fun q51 => ?_)
            · refine xi_iconst (pc' := 67) rfl rfl ?_
              refine xi_goto (pc' := 71) rfl rfl ?_
              refine xi_istore (pc' := 73) rfl (st1_7 rfl) rfl ?_
              refine xi_iload (pc' := 75) rfl rfl rfl ?_
              refine xi_iff (pc' := 78) (tg := 122) rfl rfl (by decide) rfl ?_
              refine xi_iload_n (pc' := 79) rfl rfl rfl ?_
              refine xi_iconst (pc' := 80) rfl rfl ?_
              refine xx_icmp (pc' := 83) (tg := 94) rfl rfl rfl (fun q80 => ?_) (fun q80 => ?_)
              · refine xi_iload (pc' := 96) rfl rfl rfl ?_
                refine xi_iconst (pc' := 97) rfl rfl ?_
                refine xx_icmp (pc' := 100) (tg := 122) rfl rfl rfl (fun q97 => ?_) (fun q97 => ?_)
                · refine xi_iconst (pc' := 123) rfl rfl ?_
                  refine xi_istore (pc' := 125) rfl (st1_7 rfl) rfl ?_
                  exact k0 (by clear k0 k1; simp only [ex_P, Classical.not_not, bI_0, okMsg, vT, vS, isC, Int32.lt_iff_toInt_lt, Int32.le_iff_toInt_le, ← Int32.toInt_inj, toI, Nat.reduceLT, Int32.toInt_zero] at *; omega)
                · refine xi_iload (pc' := 102) rfl rfl rfl ?_
                  refine xi_iconst (pc' := 103) rfl rfl ?_
                  refine xx_icmp (pc' := 106) (tg := 122) rfl rfl rfl (fun q103 => ?_) (fun q103 => ?_)
                  · refine xi_iconst (pc' := 123) rfl rfl ?_
                    refine xi_istore (pc' := 125) rfl (st1_7 rfl) rfl ?_
                    exact k0 (by clear k0 k1; simp only [ex_P, Classical.not_not, bI_0, okMsg, vT, vS, isC, Int32.lt_iff_toInt_lt, Int32.le_iff_toInt_le, ← Int32.toInt_inj, toI, Nat.reduceLT, Int32.toInt_zero] at *; omega)
                  · refine xi_iload (pc' := 108) rfl rfl rfl ?_
                    refine xi_iconst (pc' := 109) rfl rfl ?_
                    refine xx_icmp (pc' := 112) (tg := 122) rfl rfl rfl (fun q109 => ?_) (fun q109 => ?_)
                    · refine xi_iconst (pc' := 123) rfl rfl ?_
                      refine xi_istore (pc' := 125) rfl (st1_7 rfl) rfl ?_
                      exact k0 (by clear k0 k1; simp only [ex_P, Classical.not_not, bI_0, okMsg, vT, vS, isC, Int32.lt_iff_toInt_lt, Int32.le_iff_toInt_le, ← Int32.toInt_inj, toI, Nat.reduceLT, Int32.toInt_zero] at *; omega)
                    · refine xi_iload (pc' := 114) rfl rfl rfl ?_
                      refine xi_iconst (pc' := 115) rfl rfl ?_
                      refine xx_icmp (pc' := 118) (tg := 122) rfl rfl rfl (fun q115 => ?_) (fun q115 => ?_)
                      · refine xi_iconst (pc' := 123) rfl rfl ?_
                        refine xi_istore (pc' := 125) rfl (st1_7 rfl) rfl ?_
                        exact k0 (by clear k0 k1; simp only [ex_P, Classical.not_not, bI_0, okMsg, vT, vS, isC, Int32.lt_iff_toInt_lt, Int32.le_iff_toInt_le, ← Int32.toInt_inj, toI, Nat.reduceLT, Int32.toInt_zero] at *; omega)
                      · refine xi_iconst (pc' := 119) rfl rfl ?_
                        refine xi_goto (pc' := 123) rfl rfl ?_
                        refine xi_istore (pc' := 125) rfl (st1_7 rfl) rfl ?_
                        exact k1 (by clear k0 k1; simp only [ex_P, Classical.not_not, bI_0, okMsg, vT, vS, isC, Int32.lt_iff_toInt_lt, Int32.le_iff_toInt_le, ← Int32.toInt_inj, toI, Nat.reduceLT, Int32.toInt_zero] at *; omega)
              · refine xi_iload (pc' := 85) rfl rfl rfl ?_
                refine xx_callSi (pc' := 88) rfl rfl (by decide) rfl (Nat.le_of_ble_eq_true rfl) rfl rfl (r_isCode1 hc) ?_
                refine xi_iff (pc' := 91) (tg := 122) rfl rfl (by decide) rfl ?_
                refine xi_goto (pc' := 118) rfl rfl ?_
                refine xi_iconst (pc' := 119) rfl rfl ?_
                refine xi_goto (pc' := 123) rfl rfl ?_
                refine xi_istore (pc' := 125) rfl (st1_7 rfl) rfl ?_
                exact k1 (by clear k0 k1; simp only [ex_P, Classical.not_not, bI_0, okMsg, vT, vS, isC, Int32.lt_iff_toInt_lt, Int32.le_iff_toInt_le, ← Int32.toInt_inj, toI, Nat.reduceLT, Int32.toInt_zero] at *; omega)
            · refine xi_iload_n (pc' := 55) rfl rfl rfl ?_
              refine xx_callSi (pc' := 58) rfl rfl (by decide) rfl (Nat.le_of_ble_eq_true rfl) rfl rfl (r_isTerminal0 hy) ?_
              refine xi_ift (pc' := 70) rfl rfl (by decide) ?_
              refine xi_iconst (pc' := 71) rfl rfl ?_
              refine xi_istore (pc' := 73) rfl (st1_7 rfl) rfl ?_
              refine xi_iload (pc' := 75) rfl rfl rfl ?_
              refine xi_ift (pc' := 122) rfl rfl (by decide) ?_
              refine xi_iconst (pc' := 123) rfl rfl ?_
              refine xi_istore (pc' := 125) rfl (st1_7 rfl) rfl ?_
              exact k0 (by clear k0 k1; simp only [ex_P, Classical.not_not, bI_0, okMsg, vT, vS, isC, Int32.lt_iff_toInt_lt, Int32.le_iff_toInt_le, ← Int32.toInt_inj, toI, Nat.reduceLT, Int32.toInt_zero] at *; omega)
          · refine xi_iload_n (pc' := 43) rfl rfl rfl ?_
            refine xx_callSi (pc' := 46) rfl rfl (by decide) rfl (Nat.le_of_ble_eq_true rfl) rfl rfl (r_isTerminal0 hx) ?_
            refine xi_ift (pc' := 70) rfl rfl (by decide) ?_
            refine xi_iconst (pc' := 71) rfl rfl ?_
            refine xi_istore (pc' := 73) rfl (st1_7 rfl) rfl ?_
            refine xi_iload (pc' := 75) rfl rfl rfl ?_
            refine xi_ift (pc' := 122) rfl rfl (by decide) ?_
            refine xi_iconst (pc' := 123) rfl rfl ?_
            refine xi_istore (pc' := 125) rfl (st1_7 rfl) rfl ?_
            exact k0 (by clear k0 k1; simp only [ex_P, Classical.not_not, bI_0, okMsg, vT, vS, isC, Int32.lt_iff_toInt_lt, Int32.le_iff_toInt_le, ← Int32.toInt_inj, toI, Nat.reduceLT, Int32.toInt_zero] at *; omega)
        · refine xi_iload (pc' := 33) rfl rfl rfl ?_
          refine xi_iconst (pc' := 34) rfl rfl ?_
          refine xx_icmp (pc' := 37) (tg := 70) rfl rfl rfl (fun q34 => ?_) (fun q34 => ?_)
          · refine xi_iconst (pc' := 71) rfl rfl ?_
            refine xi_istore (pc' := 73) rfl (st1_7 rfl) rfl ?_
            refine xi_iload (pc' := 75) rfl rfl rfl ?_
            refine xi_ift (pc' := 122) rfl rfl (by decide) ?_
            refine xi_iconst (pc' := 123) rfl rfl ?_
            refine xi_istore (pc' := 125) rfl (st1_7 rfl) rfl ?_
            exact k0 (by clear k0 k1; simp only [ex_P, Classical.not_not, bI_0, okMsg, vT, vS, isC, Int32.lt_iff_toInt_lt, Int32.le_iff_toInt_le, ← Int32.toInt_inj, toI, Nat.reduceLT, Int32.toInt_zero] at *; omega)
          · refine xi_iload_n (pc' := 38) rfl rfl rfl ?_
            refine xi_iconst (pc' := 39) rfl rfl ?_
            refine xx_icmp (pc' := 42) (tg := 49) rfl rfl rfl (fun q39 => ?_) (fun q39 => ?_)
            · refine xi_iload_n (pc' := 50) rfl rfl rfl ?_
              refine xi_iconst (pc' := 51) rfl rfl ?_
              refine xx_icmp (pc' := 54) (tg := 66) rfl rfl rfl (fun q51 => ?_) (fun q51 => ?_)
              · refine xi_iconst (pc' := 67) rfl rfl ?_
                refine xi_goto (pc' := 71) rfl rfl ?_
                refine xi_istore (pc' := 73) rfl (st1_7 rfl) rfl ?_
                refine xi_iload (pc' := 75) rfl rfl rfl ?_
                refine xi_iff (pc' := 78) (tg := 122) rfl rfl (by decide) rfl ?_
                refine xi_iload_n (pc' := 79) rfl rfl rfl ?_
                refine xi_iconst (pc' := 80) rfl rfl ?_
                refine xx_icmp (pc' := 83) (tg := 94) rfl rfl rfl (fun q80 => ?_) (fun q80 => ?_)
                · refine xi_iload (pc' := 96) rfl rfl rfl ?_
                  refine xi_iconst (pc' := 97) rfl rfl ?_
                  refine xx_icmp (pc' := 100) (tg := 122) rfl rfl rfl (fun q97 => ?_) (fun q97 => ?_)
                  · refine xi_iconst (pc' := 123) rfl rfl ?_
                    refine xi_istore (pc' := 125) rfl (st1_7 rfl) rfl ?_
                    exact k0 (by clear k0 k1; simp only [ex_P, Classical.not_not, bI_0, okMsg, vT, vS, isC, Int32.lt_iff_toInt_lt, Int32.le_iff_toInt_le, ← Int32.toInt_inj, toI, Nat.reduceLT, Int32.toInt_zero] at *; omega)
                  · refine xi_iload (pc' := 102) rfl rfl rfl ?_
                    refine xi_iconst (pc' := 103) rfl rfl ?_
                    refine xx_icmp (pc' := 106) (tg := 122) rfl rfl rfl (fun q103 => ?_) (fun q103 => ?_)
                    · refine xi_iconst (pc' := 123) rfl rfl ?_
                      refine xi_istore (pc' := 125) rfl (st1_7 rfl) rfl ?_
                      exact k0 (by clear k0 k1; simp only [ex_P, Classical.not_not, bI_0, okMsg, vT, vS, isC, Int32.lt_iff_toInt_lt, Int32.le_iff_toInt_le, ← Int32.toInt_inj, toI, Nat.reduceLT, Int32.toInt_zero] at *; omega)
                    · refine xi_iload (pc' := 108) rfl rfl rfl ?_
                      refine xi_iconst (pc' := 109) rfl rfl ?_
                      refine xx_icmp (pc' := 112) (tg := 122) rfl rfl rfl (fun q109 => ?_) (fun q109 => ?_)
                      · refine xi_iconst (pc' := 123) rfl rfl ?_
                        refine xi_istore (pc' := 125) rfl (st1_7 rfl) rfl ?_
                        exact k0 (by clear k0 k1; simp only [ex_P, Classical.not_not, bI_0, okMsg, vT, vS, isC, Int32.lt_iff_toInt_lt, Int32.le_iff_toInt_le, ← Int32.toInt_inj, toI, Nat.reduceLT, Int32.toInt_zero] at *; omega)
                      · refine xi_iload (pc' := 114) rfl rfl rfl ?_
                        refine xi_iconst (pc' := 115) rfl rfl ?_
                        refine xx_icmp (pc' := 118) (tg := 122) rfl rfl rfl (fun q115 => ?_) (fun q115 => ?_)
                        · refine xi_iconst (pc' := 123) rfl rfl ?_
                          refine xi_istore (pc' := 125) rfl (st1_7 rfl) rfl ?_
                          exact k0 (by clear k0 k1; simp only [ex_P, Classical.not_not, bI_0, okMsg, vT, vS, isC, Int32.lt_iff_toInt_lt, Int32.le_iff_toInt_le, ← Int32.toInt_inj, toI, Nat.reduceLT, Int32.toInt_zero] at *; omega)
                        · refine xi_iconst (pc' := 119) rfl rfl ?_
                          refine xi_goto (pc' := 123) rfl rfl ?_
                          refine xi_istore (pc' := 125) rfl (st1_7 rfl) rfl ?_
                          exact k1 (by clear k0 k1; simp only [ex_P, Classical.not_not, bI_0, okMsg, vT, vS, isC, Int32.lt_iff_toInt_lt, Int32.le_iff_toInt_le, ← Int32.toInt_inj, toI, Nat.reduceLT, Int32.toInt_zero] at *; omega)
                · refine xi_iload (pc' := 85) rfl rfl rfl ?_
                  refine xx_callSi (pc' := 88) rfl rfl (by decide) rfl (Nat.le_of_ble_eq_true rfl) rfl rfl (r_isCode1 hc) ?_
                  refine xi_iff (pc' := 91) (tg := 122) rfl rfl (by decide) rfl ?_
                  refine xi_goto (pc' := 118) rfl rfl ?_
                  refine xi_iconst (pc' := 119) rfl rfl ?_
                  refine xi_goto (pc' := 123) rfl rfl ?_
                  refine xi_istore (pc' := 125) rfl (st1_7 rfl) rfl ?_
                  exact k1 (by clear k0 k1; simp only [ex_P, Classical.not_not, bI_0, okMsg, vT, vS, isC, Int32.lt_iff_toInt_lt, Int32.le_iff_toInt_le, ← Int32.toInt_inj, toI, Nat.reduceLT, Int32.toInt_zero] at *; omega)
              · refine xi_iload_n (pc' := 55) rfl rfl rfl ?_
                refine xx_callSi (pc' := 58) rfl rfl (by decide) rfl (Nat.le_of_ble_eq_true rfl) rfl rfl (r_isTerminal0 hy) ?_
                refine xi_ift (pc' := 70) rfl rfl (by decide) ?_
                refine xi_iconst (pc' := 71) rfl rfl ?_
                refine xi_istore (pc' := 73) rfl (st1_7 rfl) rfl ?_
                refine xi_iload (pc' := 75) rfl rfl rfl ?_
                refine xi_ift (pc' := 122) rfl rfl (by decide) ?_
                refine xi_iconst (pc' := 123) rfl rfl ?_
                refine xi_istore (pc' := 125) rfl (st1_7 rfl) rfl ?_
                exact k0 (by clear k0 k1; simp only [ex_P, Classical.not_not, bI_0, okMsg, vT, vS, isC, Int32.lt_iff_toInt_lt, Int32.le_iff_toInt_le, ← Int32.toInt_inj, toI, Nat.reduceLT, Int32.toInt_zero] at *; omega)
            · refine xi_iload_n (pc' := 43) rfl rfl rfl ?_
              refine xx_callSi (pc' := 46) rfl rfl (by decide) rfl (Nat.le_of_ble_eq_true rfl) rfl rfl (r_isTerminal0 hx) ?_
              refine xi_ift (pc' := 70) rfl rfl (by decide) ?_
              refine xi_iconst (pc' := 71) rfl rfl ?_
              refine xi_istore (pc' := 73) rfl (st1_7 rfl) rfl ?_
              refine xi_iload (pc' := 75) rfl rfl rfl ?_
              refine xi_ift (pc' := 122) rfl rfl (by decide) ?_
              refine xi_iconst (pc' := 123) rfl rfl ?_
              refine xi_istore (pc' := 125) rfl (st1_7 rfl) rfl ?_
              exact k0 (by clear k0 k1; simp only [ex_P, Classical.not_not, bI_0, okMsg, vT, vS, isC, Int32.lt_iff_toInt_lt, Int32.le_iff_toInt_le, ← Int32.toInt_inj, toI, Nat.reduceLT, Int32.toInt_zero] at *; omega)
theorem r_msg_000 {L : Nat} {xs : Nat → Int32} {D n : Nat} {I J : ex_Mem} {kind x y s nn per : Int32} {Q : Option Value → ex_Hp → Prop} (k1 : okMsg kind x y s nn per → xx cb_G L xs (D + 1) 94 125 [.ref 52, .int kind, .int x, .int y, .int s, .int nn, .int per, .int (nI 1)] [] (mkH n I J) Q) (k0 : ¬ okMsg kind x y s nn per → xx cb_G L xs (D + 1) 94 125 [.ref 52, .int kind, .int x, .int y, .int s, .int nn, .int per, .int (nI 0)] [] (mkH n I J) Q) (hx : ¬ vT x) (hy : ¬ vT y) (hc : ¬ isC nn) : xx cb_G L xs (D + 1) 94 10 [.ref 52, .int kind, .int x, .int y, .int s, .int nn, .int per, ex_no] [] (mkH n I J) Q := by
  refine xi_iload_n (pc' := 11) rfl rfl rfl ?_
  refine xx_if (pc' := 14) (tg := 70) rfl rfl rfl (fun q11 => ?_) (fun q11 => ?_)
  · refine xi_iconst (pc' := 71) rfl rfl ?_
    refine xi_istore (pc' := 73) rfl (st1_7 rfl) rfl ?_
    refine xi_iload (pc' := 75) rfl rfl rfl ?_
    refine xi_ift (pc' := 122) rfl rfl (by decide) ?_
    refine xi_iconst (pc' := 123) rfl rfl ?_
    refine xi_istore (pc' := 125) rfl (st1_7 rfl) rfl ?_
    exact k0 (by clear k0 k1; simp only [ex_P, Classical.not_not, bI_0, okMsg, vT, vS, isC, Int32.lt_iff_toInt_lt, Int32.le_iff_toInt_le, ← Int32.toInt_inj, toI, Nat.reduceLT, Int32.toInt_zero] at *; omega)
  · refine xi_iload_n (pc' := 15) rfl rfl rfl ?_
    refine xi_iconst (pc' := 16) rfl rfl ?_
    refine xx_icmp (pc' := 19) (tg := 70) rfl rfl rfl (fun q16 => ?_) (fun q16 => ?_)
    · refine xi_iconst (pc' := 71) rfl rfl ?_
      refine xi_istore (pc' := 73) rfl (st1_7 rfl) rfl ?_
      refine xi_iload (pc' := 75) rfl rfl rfl ?_
      refine xi_ift (pc' := 122) rfl rfl (by decide) ?_
      refine xi_iconst (pc' := 123) rfl rfl ?_
      refine xi_istore (pc' := 125) rfl (st1_7 rfl) rfl ?_
      exact k0 (by clear k0 k1; simp only [ex_P, Classical.not_not, bI_0, okMsg, vT, vS, isC, Int32.lt_iff_toInt_lt, Int32.le_iff_toInt_le, ← Int32.toInt_inj, toI, Nat.reduceLT, Int32.toInt_zero] at *; omega)
    · refine xi_iload (pc' := 21) rfl rfl rfl ?_
      refine xi_iconst (pc' := 22) rfl rfl ?_
      refine xx_icmp (pc' := 25) (tg := 37) rfl rfl rfl (fun q22 => ?_) (fun q22 => ?_)
      · refine xi_iload_n (pc' := 38) rfl rfl rfl ?_
        refine xi_iconst (pc' := 39) rfl rfl ?_
        refine xx_icmp (pc' := 42) (tg := 49) rfl rfl rfl (fun q39 => ?_) (fun q39 => ?_)
        · refine xi_iload_n (pc' := 50) rfl rfl rfl ?_
          refine xi_iconst (pc' := 51) rfl rfl ?_
          refine xx_icmp (pc' := 54) (tg := 66) rfl rfl rfl (fun q51 => ?_) (fun q51 => ?_)
          · refine xi_iconst (pc' := 67) rfl rfl ?_
            refine xi_goto (pc' := 71) rfl rfl ?_
            refine xi_istore (pc' := 73) rfl (st1_7 rfl) rfl ?_
            refine xi_iload (pc' := 75) rfl rfl rfl ?_
            refine xi_iff (pc' := 78) (tg := 122) rfl rfl (by decide) rfl ?_
            refine xi_iload_n (pc' := 79) rfl rfl rfl ?_
            refine xi_iconst (pc' := 80) rfl rfl ?_
            refine xx_icmp (pc' := 83) (tg := 94) rfl rfl rfl (fun q80 => ?_) (fun q80 => ?_)
            · refine xi_iload (pc' := 96) rfl rfl rfl ?_
              refine xi_iconst (pc' := 97) rfl rfl ?_
              refine xx_icmp (pc' := 100) (tg := 122) rfl rfl rfl (fun q97 => ?_) (fun q97 => ?_)
              · refine xi_iconst (pc' := 123) rfl rfl ?_
                refine xi_istore (pc' := 125) rfl (st1_7 rfl) rfl ?_
                exact k0 (by clear k0 k1; simp only [ex_P, Classical.not_not, bI_0, okMsg, vT, vS, isC, Int32.lt_iff_toInt_lt, Int32.le_iff_toInt_le, ← Int32.toInt_inj, toI, Nat.reduceLT, Int32.toInt_zero] at *; omega)
              · refine xi_iload (pc' := 102) rfl rfl rfl ?_
                refine xi_iconst (pc' := 103) rfl rfl ?_
                refine xx_icmp (pc' := 106) (tg := 122) rfl rfl rfl (fun q103 => ?_) (fun q103 => ?_)
                · refine xi_iconst (pc' := 123) rfl rfl ?_
                  refine xi_istore (pc' := 125) rfl (st1_7 rfl) rfl ?_
                  exact k0 (by clear k0 k1; simp only [ex_P, Classical.not_not, bI_0, okMsg, vT, vS, isC, Int32.lt_iff_toInt_lt, Int32.le_iff_toInt_le, ← Int32.toInt_inj, toI, Nat.reduceLT, Int32.toInt_zero] at *; omega)
                · refine xi_iload (pc' := 108) rfl rfl rfl ?_
                  refine xi_iconst (pc' := 109) rfl rfl ?_
                  refine xx_icmp (pc' := 112) (tg := 122) rfl rfl rfl (fun q109 => ?_) (fun q109 => ?_)
                  · refine xi_iconst (pc' := 123) rfl rfl ?_
                    refine xi_istore (pc' := 125) rfl (st1_7 rfl) rfl ?_
                    exact k0 (by clear k0 k1; simp only [ex_P, Classical.not_not, bI_0, okMsg, vT, vS, isC, Int32.lt_iff_toInt_lt, Int32.le_iff_toInt_le, ← Int32.toInt_inj, toI, Nat.reduceLT, Int32.toInt_zero] at *; omega)
                  · refine xi_iload (pc' := 114) rfl rfl rfl ?_
                    refine xi_iconst (pc' := 115) rfl rfl ?_
                    refine xx_icmp (pc' := 118) (tg := 122) rfl rfl rfl (fun q115 => ?_) (fun q115 => ?_)
                    · refine xi_iconst (pc' := 123) rfl rfl ?_
                      refine xi_istore (pc' := 125) rfl (st1_7 rfl) rfl ?_
                      exact k0 (by clear k0 k1; simp only [ex_P, Classical.not_not, bI_0, okMsg, vT, vS, isC, Int32.lt_iff_toInt_lt, Int32.le_iff_toInt_le, ← Int32.toInt_inj, toI, Nat.reduceLT, Int32.toInt_zero] at *; omega)
                    · refine xi_iconst (pc' := 119) rfl rfl ?_
                      refine xi_goto (pc' := 123) rfl rfl ?_
                      refine xi_istore (pc' := 125) rfl (st1_7 rfl) rfl ?_
                      exact k1 (by clear k0 k1; simp only [ex_P, Classical.not_not, bI_0, okMsg, vT, vS, isC, Int32.lt_iff_toInt_lt, Int32.le_iff_toInt_le, ← Int32.toInt_inj, toI, Nat.reduceLT, Int32.toInt_zero] at *; omega)
            · refine xi_iload (pc' := 85) rfl rfl rfl ?_
              refine xx_callSi (pc' := 88) rfl rfl (by decide) rfl (Nat.le_of_ble_eq_true rfl) rfl rfl (r_isCode0 hc) ?_
              refine xi_ift (pc' := 122) rfl rfl (by decide) ?_
              refine xi_iconst (pc' := 123) rfl rfl ?_
              refine xi_istore (pc' := 125) rfl (st1_7 rfl) rfl ?_
              exact k0 (by clear k0 k1; simp only [ex_P, Classical.not_not, bI_0, okMsg, vT, vS, isC, Int32.lt_iff_toInt_lt, Int32.le_iff_toInt_le, ← Int32.toInt_inj, toI, Nat.reduceLT, Int32.toInt_zero] at *; omega)
          · refine xi_iload_n (pc' := 55) rfl rfl rfl ?_
            refine xx_callSi (pc' := 58) rfl rfl (by decide) rfl (Nat.le_of_ble_eq_true rfl) rfl rfl (r_isTerminal0 hy) ?_
            refine xi_ift (pc' := 70) rfl rfl (by decide) ?_
            refine xi_iconst (pc' := 71) rfl rfl ?_
            refine xi_istore (pc' := 73) rfl (st1_7 rfl) rfl ?_
            refine xi_iload (pc' := 75) rfl rfl rfl ?_
            refine xi_ift (pc' := 122) rfl rfl (by decide) ?_
            refine xi_iconst (pc' := 123) rfl rfl ?_
            refine xi_istore (pc' := 125) rfl (st1_7 rfl) rfl ?_
            exact k0 (by clear k0 k1; simp only [ex_P, Classical.not_not, bI_0, okMsg, vT, vS, isC, Int32.lt_iff_toInt_lt, Int32.le_iff_toInt_le, ← Int32.toInt_inj, toI, Nat.reduceLT, Int32.toInt_zero] at *; omega)
        · refine xi_iload_n (pc' := 43) rfl rfl rfl ?_
          refine xx_callSi (pc' := 46) rfl rfl (by decide) rfl (Nat.le_of_ble_eq_true rfl) rfl rfl (r_isTerminal0 hx) ?_
          refine xi_ift (pc' := 70) rfl rfl (by decide) ?_
          refine xi_iconst (pc' := 71) rfl rfl ?_
          refine xi_istore (pc' := 73) rfl (st1_7 rfl) rfl ?_
          refine xi_iload (pc' := 75) rfl rfl rfl ?_
          refine xi_ift (pc' := 122) rfl rfl (by decide) ?_
          refine xi_iconst (pc' := 123) rfl rfl ?_
          refine xi_istore (pc' := 125) rfl (st1_7 rfl) rfl ?_
          exact k0 (by clear k0 k1; simp only [ex_P, Classical.not_not, bI_0, okMsg, vT, vS, isC, Int32.lt_iff_toInt_lt, Int32.le_iff_toInt_le, ← Int32.toInt_inj, toI, Nat.reduceLT, Int32.toInt_zero] at *; omega)
      · refine xi_iload (pc' := 27) rfl rfl rfl ?_
        refine xi_iconst (pc' := 28) rfl rfl ?_
        refine xx_icmp (pc' := 31) (tg := 37) rfl rfl rfl (fun q28 => ?_) (fun q28 => ?_)
        · refine xi_iload_n (pc' := 38) rfl rfl rfl ?_
          refine xi_iconst (pc' := 39) rfl rfl ?_
          refine xx_icmp (pc' := 42) (tg := 49) rfl rfl rfl (fun q39 => ?_) (fun q39 => ?_)
          · refine xi_iload_n (pc' := 50) rfl rfl rfl ?_
            refine xi_iconst (pc' := 51) rfl rfl ?_
            refine xx_icmp (pc' := 54) (tg := 66) rfl rfl rfl (fun q51 => ?_) (fun q51 => ?_)
            · refine xi_iconst (pc' := 67) rfl rfl ?_
              refine xi_goto (pc' := 71) rfl rfl ?_
              refine xi_istore (pc' := 73) rfl (st1_7 rfl) rfl ?_
              refine xi_iload (pc' := 75) rfl rfl rfl ?_
              refine xi_iff (pc' := 78) (tg := 122) rfl rfl (by decide) rfl ?_
              refine xi_iload_n (pc' := 79) rfl rfl rfl ?_
              refine xi_iconst (pc' := 80) rfl rfl ?_
              refine xx_icmp (pc' := 83) (tg := 94) rfl rfl rfl (fun q80 => ?_) (fun q80 => ?_)
              · refine xi_iload (pc' := 96) rfl rfl rfl ?_
                refine xi_iconst (pc' := 97) rfl rfl ?_
                refine xx_icmp (pc' := 100) (tg := 122) rfl rfl rfl (fun q97 => ?_) (fun q97 => ?_)
                · refine xi_iconst (pc' := 123) rfl rfl ?_
                  refine xi_istore (pc' := 125) rfl (st1_7 rfl) rfl ?_
                  exact k0 (by clear k0 k1; simp only [ex_P, Classical.not_not, bI_0, okMsg, vT, vS, isC, Int32.lt_iff_toInt_lt, Int32.le_iff_toInt_le, ← Int32.toInt_inj, toI, Nat.reduceLT, Int32.toInt_zero] at *; omega)
                · refine xi_iload (pc' := 102) rfl rfl rfl ?_
                  refine xi_iconst (pc' := 103) rfl rfl ?_
                  refine xx_icmp (pc' := 106) (tg := 122) rfl rfl rfl (fun q103 => ?_) (fun q103 => ?_)
                  · refine xi_iconst (pc' := 123) rfl rfl ?_
                    refine xi_istore (pc' := 125) rfl (st1_7 rfl) rfl ?_
                    exact k0 (by clear k0 k1; simp only [ex_P, Classical.not_not, bI_0, okMsg, vT, vS, isC, Int32.lt_iff_toInt_lt, Int32.le_iff_toInt_le, ← Int32.toInt_inj, toI, Nat.reduceLT, Int32.toInt_zero] at *; omega)
                  · refine xi_iload (pc' := 108) rfl rfl rfl ?_
                    refine xi_iconst (pc' := 109) rfl rfl ?_
                    refine xx_icmp (pc' := 112) (tg := 122) rfl rfl rfl (fun q109 => ?_) (fun q109 => ?_)
                    · refine xi_iconst (pc' := 123) rfl rfl ?_
                      refine xi_istore (pc' := 125) rfl (st1_7 rfl) rfl ?_
                      exact k0 (by clear k0 k1; simp only [ex_P, Classical.not_not, bI_0, okMsg, vT, vS, isC, Int32.lt_iff_toInt_lt, Int32.le_iff_toInt_le, ← Int32.toInt_inj, toI, Nat.reduceLT, Int32.toInt_zero] at *; omega)
                    · refine xi_iload (pc' := 114) rfl rfl rfl ?_
                      refine xi_iconst (pc' := 115) rfl rfl ?_
                      refine xx_icmp (pc' := 118) (tg := 122) rfl rfl rfl (fun q115 => ?_) (fun q115 => ?_)
                      · refine xi_iconst (pc' := 123) rfl rfl ?_
                        refine xi_istore (pc' := 125) rfl (st1_7 rfl) rfl ?_
                        exact k0 (by clear k0 k1; simp only [ex_P, Classical.not_not, bI_0, okMsg, vT, vS, isC, Int32.lt_iff_toInt_lt, Int32.le_iff_toInt_le, ← Int32.toInt_inj, toI, Nat.reduceLT, Int32.toInt_zero] at *; omega)
                      · refine xi_iconst (pc' := 119) rfl rfl ?_
                        refine xi_goto (pc' := 123) rfl rfl ?_
                        refine xi_istore (pc' := 125) rfl (st1_7 rfl) rfl ?_
                        exact k1 (by clear k0 k1; simp only [ex_P, Classical.not_not, bI_0, okMsg, vT, vS, isC, Int32.lt_iff_toInt_lt, Int32.le_iff_toInt_le, ← Int32.toInt_inj, toI, Nat.reduceLT, Int32.toInt_zero] at *; omega)
              · refine xi_iload (pc' := 85) rfl rfl rfl ?_
                refine xx_callSi (pc' := 88) rfl rfl (by decide) rfl (Nat.le_of_ble_eq_true rfl) rfl rfl (r_isCode0 hc) ?_
                refine xi_ift (pc' := 122) rfl rfl (by decide) ?_
                refine xi_iconst (pc' := 123) rfl rfl ?_
                refine xi_istore (pc' := 125) rfl (st1_7 rfl) rfl ?_
                exact k0 (by clear k0 k1; simp only [ex_P, Classical.not_not, bI_0, okMsg, vT, vS, isC, Int32.lt_iff_toInt_lt, Int32.le_iff_toInt_le, ← Int32.toInt_inj, toI, Nat.reduceLT, Int32.toInt_zero] at *; omega)
            · refine xi_iload_n (pc' := 55) rfl rfl rfl ?_
              refine xx_callSi (pc' := 58) rfl rfl (by decide) rfl (Nat.le_of_ble_eq_true rfl) rfl rfl (r_isTerminal0 hy) ?_
              refine xi_ift (pc' := 70) rfl rfl (by decide) ?_
              refine xi_iconst (pc' := 71) rfl rfl ?_
              refine xi_istore (pc' := 73) rfl (st1_7 rfl) rfl ?_
              refine xi_iload (pc' := 75) rfl rfl rfl ?_
              refine xi_ift (pc' := 122) rfl rfl (by decide) ?_
              refine xi_iconst (pc' := 123) rfl rfl ?_
              refine xi_istore (pc' := 125) rfl (st1_7 rfl) rfl ?_
              exact k0 (by clear k0 k1; simp only [ex_P, Classical.not_not, bI_0, okMsg, vT, vS, isC, Int32.lt_iff_toInt_lt, Int32.le_iff_toInt_le, ← Int32.toInt_inj, toI, Nat.reduceLT, Int32.toInt_zero] at *; omega)
          · refine xi_iload_n (pc' := 43) rfl rfl rfl ?_
            refine xx_callSi (pc' := 46) rfl rfl (by decide) rfl (Nat.le_of_ble_eq_true rfl) rfl rfl (r_isTerminal0 hx) ?_
            refine xi_ift (pc' := 70) rfl rfl (by decide) ?_
            refine xi_iconst (pc' := 71) rfl rfl ?_
            refine xi_istore (pc' := 73) rfl (st1_7 rfl) rfl ?_
            refine xi_iload (pc' := 75) rfl rfl rfl ?_
            refine xi_ift (pc' := 122) rfl rfl (by decide) ?_
            refine xi_iconst (pc' := 123) rfl rfl ?_
            refine xi_istore (pc' := 125) rfl (st1_7 rfl) rfl ?_
            exact k0 (by clear k0 k1; simp only [ex_P, Classical.not_not, bI_0, okMsg, vT, vS, isC, Int32.lt_iff_toInt_lt, Int32.le_iff_toInt_le, ← Int32.toInt_inj, toI, Nat.reduceLT, Int32.toInt_zero] at *; omega)
        · refine xi_iload (pc' := 33) rfl rfl rfl ?_
          refine xi_iconst (pc' := 34) rfl rfl ?_
          refine xx_icmp (pc' := 37) (tg := 70) rfl rfl rfl (fun q34 => ?_) (fun q34 => ?_)
          · refine xi_iconst (pc' := 71) rfl rfl ?_
            refine xi_istore (pc' := 73) rfl (st1_7 rfl) rfl ?_
            refine xi_iload (pc' := 75) rfl rfl rfl ?_
            refine xi_ift (pc' := 122) rfl rfl (by decide) ?_
            refine xi_iconst (pc' := 123) rfl rfl ?_
            refine xi_istore (pc' := 125) rfl (st1_7 rfl) rfl ?_
            exact k0 (by clear k0 k1; simp only [ex_P, Classical.not_not, bI_0, okMsg, vT, vS, isC, Int32.lt_iff_toInt_lt, Int32.le_iff_toInt_le, ← Int32.toInt_inj, toI, Nat.reduceLT, Int32.toInt_zero] at *; omega)
          · refine xi_iload_n (pc' := 38) rfl rfl rfl ?_
            refine xi_iconst (pc' := 39) rfl rfl ?_
            refine xx_icmp (pc' := 42) (tg := 49) rfl rfl rfl (fun q39 => ?_) (fun q39 => ?_)
            · refine xi_iload_n (pc' := 50) rfl rfl rfl ?_
              refine xi_iconst (pc' := 51) rfl rfl ?_
              refine xx_icmp (pc' := 54) (tg := 66) rfl rfl rfl (fun q51 => ?_) (fun q51 => ?_)
              · refine xi_iconst (pc' := 67) rfl rfl ?_
                refine xi_goto (pc' := 71) rfl rfl ?_
                refine xi_istore (pc' := 73) rfl (st1_7 rfl) rfl ?_
                refine xi_iload (pc' := 75) rfl rfl rfl ?_
                refine xi_iff (pc' := 78) (tg := 122) rfl rfl (by decide) rfl ?_
                refine xi_iload_n (pc' := 79) rfl rfl rfl ?_
                refine xi_iconst (pc' := 80) rfl rfl ?_
                refine xx_icmp (pc' := 83) (tg := 94) rfl rfl rfl (fun q80 => ?_) (fun q80 => ?_)
                · refine xi_iload (pc' := 96) rfl rfl rfl ?_
                  refine xi_iconst (pc' := 97) rfl rfl ?_
                  refine xx_icmp (pc' := 100) (tg := 122) rfl rfl rfl (fun q97 => ?_) (fun q97 => ?_)
                  · refine xi_iconst (pc' := 123) rfl rfl ?_
                    refine xi_istore (pc' := 125) rfl (st1_7 rfl) rfl ?_
                    exact k0 (by clear k0 k1; simp only [ex_P, Classical.not_not, bI_0, okMsg, vT, vS, isC, Int32.lt_iff_toInt_lt, Int32.le_iff_toInt_le, ← Int32.toInt_inj, toI, Nat.reduceLT, Int32.toInt_zero] at *; omega)
                  · refine xi_iload (pc' := 102) rfl rfl rfl ?_
                    refine xi_iconst (pc' := 103) rfl rfl ?_
                    refine xx_icmp (pc' := 106) (tg := 122) rfl rfl rfl (fun q103 => ?_) (fun q103 => ?_)
                    · refine xi_iconst (pc' := 123) rfl rfl ?_
                      refine xi_istore (pc' := 125) rfl (st1_7 rfl) rfl ?_
                      exact k0 (by clear k0 k1; simp only [ex_P, Classical.not_not, bI_0, okMsg, vT, vS, isC, Int32.lt_iff_toInt_lt, Int32.le_iff_toInt_le, ← Int32.toInt_inj, toI, Nat.reduceLT, Int32.toInt_zero] at *; omega)
                    · refine xi_iload (pc' := 108) rfl rfl rfl ?_
                      refine xi_iconst (pc' := 109) rfl rfl ?_
                      refine xx_icmp (pc' := 112) (tg := 122) rfl rfl rfl (fun q109 => ?_) (fun q109 => ?_)
                      · refine xi_iconst (pc' := 123) rfl rfl ?_
                        refine xi_istore (pc' := 125) rfl (st1_7 rfl) rfl ?_
                        exact k0 (by clear k0 k1; simp only [ex_P, Classical.not_not, bI_0, okMsg, vT, vS, isC, Int32.lt_iff_toInt_lt, Int32.le_iff_toInt_le, ← Int32.toInt_inj, toI, Nat.reduceLT, Int32.toInt_zero] at *; omega)
                      · refine xi_iload (pc' := 114) rfl rfl rfl ?_
                        refine xi_iconst (pc' := 115) rfl rfl ?_
                        refine xx_icmp (pc' := 118) (tg := 122) rfl rfl rfl (fun q115 => ?_) (fun q115 => ?_)
                        · refine xi_iconst (pc' := 123) rfl rfl ?_
                          refine xi_istore (pc' := 125) rfl (st1_7 rfl) rfl ?_
                          exact k0 (by clear k0 k1; simp only [ex_P, Classical.not_not, bI_0, okMsg, vT, vS, isC, Int32.lt_iff_toInt_lt, Int32.le_iff_toInt_le, ← Int32.toInt_inj, toI, Nat.reduceLT, Int32.toInt_zero] at *; omega)
                        · refine xi_iconst (pc' := 119) rfl rfl ?_
                          refine xi_goto (pc' := 123) rfl rfl ?_
                          refine xi_istore (pc' := 125) rfl (st1_7 rfl) rfl ?_
                          exact k1 (by clear k0 k1; simp only [ex_P, Classical.not_not, bI_0, okMsg, vT, vS, isC, Int32.lt_iff_toInt_lt, Int32.le_iff_toInt_le, ← Int32.toInt_inj, toI, Nat.reduceLT, Int32.toInt_zero] at *; omega)
                · refine xi_iload (pc' := 85) rfl rfl rfl ?_
                  refine xx_callSi (pc' := 88) rfl rfl (by decide) rfl (Nat.le_of_ble_eq_true rfl) rfl rfl (r_isCode0 hc) ?_
                  refine xi_ift (pc' := 122) rfl rfl (by decide) ?_
                  refine xi_iconst (pc' := 123) rfl rfl ?_
                  refine xi_istore (pc' := 125) rfl (st1_7 rfl) rfl ?_
                  exact k0 (by clear k0 k1; simp only [ex_P, Classical.not_not, bI_0, okMsg, vT, vS, isC, Int32.lt_iff_toInt_lt, Int32.le_iff_toInt_le, ← Int32.toInt_inj, toI, Nat.reduceLT, Int32.toInt_zero] at *; omega)
              · refine xi_iload_n (pc' := 55) rfl rfl rfl ?_
                refine xx_callSi (pc' := 58) rfl rfl (by decide) rfl (Nat.le_of_ble_eq_true rfl) rfl rfl (r_isTerminal0 hy) ?_
                refine xi_ift (pc' := 70) rfl rfl (by decide) ?_
                refine xi_iconst (pc' := 71) rfl rfl ?_
                refine xi_istore (pc' := 73) rfl (st1_7 rfl) rfl ?_
                refine xi_iload (pc' := 75) rfl rfl rfl ?_
                refine xi_ift (pc' := 122) rfl rfl (by decide) ?_
                refine xi_iconst (pc' := 123) rfl rfl ?_
                refine xi_istore (pc' := 125) rfl (st1_7 rfl) rfl ?_
                exact k0 (by clear k0 k1; simp only [ex_P, Classical.not_not, bI_0, okMsg, vT, vS, isC, Int32.lt_iff_toInt_lt, Int32.le_iff_toInt_le, ← Int32.toInt_inj, toI, Nat.reduceLT, Int32.toInt_zero] at *; omega)
            · refine xi_iload_n (pc' := 43) rfl rfl rfl ?_
              refine xx_callSi (pc' := 46) rfl rfl (by decide) rfl (Nat.le_of_ble_eq_true rfl) rfl rfl (r_isTerminal0 hx) ?_
              refine xi_ift (pc' := 70) rfl rfl (by decide) ?_
              refine xi_iconst (pc' := 71) rfl rfl ?_
              refine xi_istore (pc' := 73) rfl (st1_7 rfl) rfl ?_
              refine xi_iload (pc' := 75) rfl rfl rfl ?_
              refine xi_ift (pc' := 122) rfl rfl (by decide) ?_
              refine xi_iconst (pc' := 123) rfl rfl ?_
              refine xi_istore (pc' := 125) rfl (st1_7 rfl) rfl ?_
              exact k0 (by clear k0 k1; simp only [ex_P, Classical.not_not, bI_0, okMsg, vT, vS, isC, Int32.lt_iff_toInt_lt, Int32.le_iff_toInt_le, ← Int32.toInt_inj, toI, Nat.reduceLT, Int32.toInt_zero] at *; omega)
theorem r_msg_chk {L : Nat} {xs : Nat → Int32} {D n : Nat} {I J : ex_Mem} {kind x y s nn per : Int32} {Q : Option Value → ex_Hp → Prop} (k1 : okMsg kind x y s nn per → xx cb_G L xs (D + 1) 94 125 [.ref 52, .int kind, .int x, .int y, .int s, .int nn, .int per, .int (nI 1)] [] (mkH n I J) Q) (k0 : ¬ okMsg kind x y s nn per → xx cb_G L xs (D + 1) 94 125 [.ref 52, .int kind, .int x, .int y, .int s, .int nn, .int per, .int (nI 0)] [] (mkH n I J) Q) : xx cb_G L xs (D + 1) 94 10 [.ref 52, .int kind, .int x, .int y, .int s, .int nn, .int per, ex_no] [] (mkH n I J) Q := by
  by_cases hx : vT x <;> by_cases hy : vT y <;> by_cases hc : isC nn
  · exact r_msg_111 k1 k0 hx hy hc
  · exact r_msg_110 k1 k0 hx hy hc
  · exact r_msg_101 k1 k0 hx hy hc
  · exact r_msg_100 k1 k0 hx hy hc
  · exact r_msg_011 k1 k0 hx hy hc
  · exact r_msg_010 k1 k0 hx hy hc
  · exact r_msg_001 k1 k0 hx hy hc
  · exact r_msg_000 k1 k0 hx hy hc
theorem r_message_s {L : Nat} {xs : Nat → Int32} {D n : Nat} {I J : ex_Mem} {kind x y s nn per : Int32} (hz : J 52 27 = nI 1) : ri L xs (D + 1) 94 [.ref 52, .int kind, .int x, .int y, .int s, .int nn, .int per] (mkH n I J) (- nI 6) (mkH n I J) := by
  show xx cb_G _ _ _ 94 0 [.ref 52, .int kind, .int x, .int y, .int s, .int nn, .int per, ex_no] [] _ _
  refine xi_aload_n (pc' := 1) rfl rfl rfl ?_
  refine xr_getiv (v := nI (1)) (pc' := 4) rfl rfl (by decide) (by decide) (hz) rfl ?_
  refine xi_iff (pc' := 7) (tg := 10) rfl rfl (by decide) rfl ?_
  refine xi_bipushm (pc' := 9) rfl (by decide) rfl ?_
  refine xx_ireturn rfl rfl ?_
  exact ⟨rfl, rfl⟩
theorem r_message_b {L : Nat} {xs : Nat → Int32} {D n : Nat} {I J : ex_Mem} {kind x y s nn per : Int32} (hz : J 52 27 = nI 0) (h : ¬ okMsg kind x y s nn per) : ri L xs (D + 1) 94 [.ref 52, .int kind, .int x, .int y, .int s, .int nn, .int per] (mkH n I J) (- nI 1) (mkH n I J) := by
  show xx cb_G _ _ _ 94 0 [.ref 52, .int kind, .int x, .int y, .int s, .int nn, .int per, ex_no] [] _ _
  refine xi_aload_n (pc' := 1) rfl rfl rfl ?_
  refine xr_getiv (v := nI (0)) (pc' := 4) rfl rfl (by decide) (by decide) (hz) rfl ?_
  refine xi_ift (pc' := 10) rfl rfl (by decide) ?_
  refine r_msg_chk (fun q => absurd q h) (fun _ => ?_)
  refine xi_iload (pc' := 127) rfl rfl rfl ?_
  refine xi_iff (pc' := 130) (tg := 132) rfl rfl (by decide) rfl ?_
  refine xi_iconstm (pc' := 131) rfl rfl ?_
  refine xx_ireturn rfl rfl ?_
  exact ⟨rfl, rfl⟩
theorem r_message_f {L : Nat} {xs : Nat → Int32} {D n : Nat} {I J : ex_Mem} {kind x y s nn per : Int32} (hz : J 52 27 = nI 0) (h : okMsg kind x y s nn per) (hnm : J 52 17 = nI 8) : ri L xs (D + 1) 94 [.ref 52, .int kind, .int x, .int y, .int s, .int nn, .int per] (mkH n I J) (- nI 2) (mkH n I J) := by
  show xx cb_G _ _ _ 94 0 [.ref 52, .int kind, .int x, .int y, .int s, .int nn, .int per, ex_no] [] _ _
  refine xi_aload_n (pc' := 1) rfl rfl rfl ?_
  refine xr_getiv (v := nI (0)) (pc' := 4) rfl rfl (by decide) (by decide) (hz) rfl ?_
  refine xi_ift (pc' := 10) rfl rfl (by decide) ?_
  refine r_msg_chk (fun _ => ?_) (fun q => absurd h q)
  refine xi_iload (pc' := 127) rfl rfl rfl ?_
  refine xi_ift (pc' := 132) rfl rfl (by decide) ?_
  refine xi_aload_n (pc' := 133) rfl rfl rfl ?_
  refine xr_getiv (v := nI (8)) (pc' := 136) rfl rfl (by decide) (by decide) (hnm) rfl ?_
  refine xi_bipush (pc' := 138) rfl (by decide) rfl ?_
  refine xi_icmpf (pc' := 141) (tg := 144) rfl rfl (by decide) rfl ?_
  refine xi_bipushm (pc' := 143) rfl (by decide) rfl ?_
  refine xx_ireturn rfl rfl ?_
  exact ⟨rfl, rfl⟩
def r_add (J : ex_Mem) (nm : Nat) (kind x y s nn per : Int32) : ex_Mem := ex_wI (ex_wI (ex_wI (ex_wI (ex_wI (ex_wI (ex_wI (ex_wI J 69 nm kind) 70 nm x) 71 nm y) 72 nm s) 73 nm nn) 74 nm per) 77 nm (nI 0)) 52 17 (nI (nm + 1))
theorem r_message_a {L : Nat} {xs : Nat → Int32} {D n : Nat} {I J : ex_Mem} {kind x y s nn per : Int32} {nm : Nat} (hz : J 52 27 = nI 0) (h : okMsg kind x y s nn per) (h8 : nm < 8) (hnm : J 52 17 = nI nm) : ri L xs (D + 1) 94 [.ref 52, .int kind, .int x, .int y, .int s, .int nn, .int per] (mkH n I J) (nI nm) (mkH n I (r_add J nm kind x y s nn per)) := by
  show xx cb_G _ _ _ 94 0 [.ref 52, .int kind, .int x, .int y, .int s, .int nn, .int per, ex_no] [] _ _
  refine xi_aload_n (pc' := 1) rfl rfl rfl ?_
  refine xr_getiv (v := nI (0)) (pc' := 4) rfl rfl (by decide) (by decide) (hz) rfl ?_
  refine xi_ift (pc' := 10) rfl rfl (by decide) ?_
  refine r_msg_chk (fun _ => ?_) (fun q => absurd h q)
  refine xi_iload (pc' := 127) rfl rfl rfl ?_
  refine xi_ift (pc' := 132) rfl rfl (by decide) ?_
  refine xi_aload_n (pc' := 133) rfl rfl rfl ?_
  refine xr_getiv (v := nI (nm)) (pc' := 136) rfl rfl (by decide) (by decide) (hnm) rfl ?_
  refine xi_bipush (pc' := 138) rfl (by decide) rfl ?_
  refine xx_icmp (pc' := 141) (tg := 144) rfl rfl rfl (fun q138 => ?_) (fun q138 => absurd (show ex_P .ne (nI nm) (nI 8) from fun q => absurd ((nI_lit (by omega) (by decide)).mp q) (by omega)) q138)
  refine xi_aload_n (pc' := 145) rfl rfl rfl ?_
  refine xr_getp (pc' := 148) rfl rfl (by decide) rfl rfl rfl ?_
  refine xi_aload_n (pc' := 149) rfl rfl rfl ?_
  refine xr_getiv (v := nI (nm)) (pc' := 152) rfl rfl (by decide) (by decide) (hnm) rfl ?_
  refine xi_iload_n (pc' := 153) rfl rfl rfl ?_
  refine xr_iast (j := nm) (pc' := 154) rfl rfl (by decide) (by first | rfl | (simp only [ix_add, ix_mul, ix_pred]; done) | (simp only [ix_add, ix_mul, ix_pred, *]; done)) (by omega) (by decide) rfl ?_
  refine xi_aload_n (pc' := 155) rfl rfl rfl ?_
  refine xr_getp (pc' := 158) rfl rfl (by decide) rfl rfl rfl ?_
  refine xi_aload_n (pc' := 159) rfl rfl rfl ?_
  refine xr_getiv (v := nI (nm)) (pc' := 162) rfl rfl (by decide) (by decide) (hnm) rfl ?_
  refine xi_iload_n (pc' := 163) rfl rfl rfl ?_
  refine xr_iast (j := nm) (pc' := 164) rfl rfl (by decide) (by first | rfl | (simp only [ix_add, ix_mul, ix_pred]; done) | (simp only [ix_add, ix_mul, ix_pred, *]; done)) (by omega) (by decide) rfl ?_
  refine xi_aload_n (pc' := 165) rfl rfl rfl ?_
  refine xr_getp (pc' := 168) rfl rfl (by decide) rfl rfl rfl ?_
  refine xi_aload_n (pc' := 169) rfl rfl rfl ?_
  refine xr_getiv (v := nI (nm)) (pc' := 172) rfl rfl (by decide) (by decide) (hnm) rfl ?_
  refine xi_iload_n (pc' := 173) rfl rfl rfl ?_
  refine xr_iast (j := nm) (pc' := 174) rfl rfl (by decide) (by first | rfl | (simp only [ix_add, ix_mul, ix_pred]; done) | (simp only [ix_add, ix_mul, ix_pred, *]; done)) (by omega) (by decide) rfl ?_
  refine xi_aload_n (pc' := 175) rfl rfl rfl ?_
  refine xr_getp (pc' := 178) rfl rfl (by decide) rfl rfl rfl ?_
  refine xi_aload_n (pc' := 179) rfl rfl rfl ?_
  refine xr_getiv (v := nI (nm)) (pc' := 182) rfl rfl (by decide) (by decide) (hnm) rfl ?_
  refine xi_iload (pc' := 184) rfl rfl rfl ?_
  refine xr_iast (j := nm) (pc' := 185) rfl rfl (by decide) (by first | rfl | (simp only [ix_add, ix_mul, ix_pred]; done) | (simp only [ix_add, ix_mul, ix_pred, *]; done)) (by omega) (by decide) rfl ?_
  refine xi_aload_n (pc' := 186) rfl rfl rfl ?_
  refine xr_getp (pc' := 189) rfl rfl (by decide) rfl rfl rfl ?_
  refine xi_aload_n (pc' := 190) rfl rfl rfl ?_
  refine xr_getiv (v := nI (nm)) (pc' := 193) rfl rfl (by decide) (by decide) (hnm) rfl ?_
  refine xi_iload (pc' := 195) rfl rfl rfl ?_
  refine xr_iast (j := nm) (pc' := 196) rfl rfl (by decide) (by first | rfl | (simp only [ix_add, ix_mul, ix_pred]; done) | (simp only [ix_add, ix_mul, ix_pred, *]; done)) (by omega) (by decide) rfl ?_
  refine xi_aload_n (pc' := 197) rfl rfl rfl ?_
  refine xr_getp (pc' := 200) rfl rfl (by decide) rfl rfl rfl ?_
  refine xi_aload_n (pc' := 201) rfl rfl rfl ?_
  refine xr_getiv (v := nI (nm)) (pc' := 204) rfl rfl (by decide) (by decide) (hnm) rfl ?_
  refine xi_iload (pc' := 206) rfl rfl rfl ?_
  refine xr_iast (j := nm) (pc' := 207) rfl rfl (by decide) (by first | rfl | (simp only [ix_add, ix_mul, ix_pred]; done) | (simp only [ix_add, ix_mul, ix_pred, *]; done)) (by omega) (by decide) rfl ?_
  refine xi_aload_n (pc' := 208) rfl rfl rfl ?_
  refine xr_getp (pc' := 211) rfl rfl (by decide) rfl rfl rfl ?_
  refine xi_aload_n (pc' := 212) rfl rfl rfl ?_
  refine xr_getiv (v := nI (nm)) (pc' := 215) rfl rfl (by decide) (by decide) (hnm) rfl ?_
  refine xi_iconst (pc' := 216) rfl rfl ?_
  refine xr_iast (j := nm) (pc' := 217) rfl rfl (by decide) (by first | rfl | (simp only [ix_add, ix_mul, ix_pred]; done) | (simp only [ix_add, ix_mul, ix_pred, *]; done)) (by omega) (by decide) rfl ?_
  refine xi_aload_n (pc' := 218) rfl rfl rfl ?_
  refine xi_dup (pc' := 219) rfl rfl rfl ?_
  refine xr_getiv (v := nI (nm)) (pc' := 222) rfl rfl (by decide) (by decide) (hnm) rfl ?_
  refine xi_iconst (pc' := 223) rfl rfl ?_
  refine xi_iadd (pc' := 224) rfl rfl ?_
  refine xx_topi (y := nI (nm + 1)) (ix_add nm 1) ?_
  refine xr_puti (z := 0) (pc' := 227) rfl rfl (by decide) (Or.inl rfl) rfl ?_
  refine xi_aload_n (pc' := 228) rfl rfl rfl ?_
  refine xr_getiv (v := nI (nm + 1)) (pc' := 231) rfl rfl (by decide) (by decide) (rfl) rfl ?_
  refine xi_iconst (pc' := 232) rfl rfl ?_
  refine xi_isub (pc' := 233) rfl rfl ?_
  refine xx_topi (y := nI nm) (ix_pred nm) ?_
  refine xx_ireturn rfl rfl ?_
  exact ⟨rfl, rfl⟩
