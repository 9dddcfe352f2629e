def isP (p : Int32) : Prop := p = nI 1 ∨ p = nI 2 ∨ p = nI 4
def aT (kind x y : Int32) : Prop := kind = nI 3 ∨ ¬ kind = nI 3 ∧ vT x ∧ (¬ kind = nI 2 ∨ vT y ∧ ¬ x = y)
def aC (kind s nn : Int32) : Prop := kind = nI 4 ∧ isC nn ∨ ¬ kind = nI 4 ∧ 0 ≤ kind ∧ kind ≤ nI 3 ∧ vS s ∧ nI 1 ≤ nn ∧ nn ≤ nI 4
theorem ok_iff {kind x y s nn per : Int32} : okMsg kind x y s nn per ↔ isP per ∧ aT kind x y ∧ aC kind s nn := by
  simp only [ex_P, Classical.not_not, bI_0, okMsg, isP, aT, aC, vT, vS, isC, Int32.lt_iff_toInt_lt, Int32.le_iff_toInt_le, ← Int32.toInt_inj, toI, Nat.reduceLT, Int32.toInt_zero] at *; omega
theorem c_isPer1 {L : Nat} {xs : Nat → Int32} {D n : Nat} {I J : ex_Mem} {c : Int32} (h : isP c) : ri L xs D 15 [.int c] (mkH n I J) (nI 1) (mkH n I J) := by
  show xx cb_G _ _ _ 15 0 [.int c] [] _ _
  refine xi_iload_n (pc' := 1) rfl rfl rfl ?_
  refine xi_iconst (pc' := 2) rfl rfl ?_
  refine xx_icmp (pc' := 5) (tg := 15) rfl rfl rfl (fun q2 => ?_) (fun q2 => ?_)
  · refine xi_iconst (pc' := 16) rfl rfl ?_
    refine xi_goto (pc' := 20) rfl rfl ?_
    refine xx_zreturn rfl rfl (by first | rfl | assumption | exact b01_bI | simp [ex_b01, bI]) ?_
    first | exact ⟨rfl, rfl⟩ | (exfalso; simp only [ex_P, Classical.not_not, bI_0, okMsg, isP, aT, aC, vT, vS, isC, Int32.lt_iff_toInt_lt, Int32.le_iff_toInt_le, ← Int32.toInt_inj, toI, Nat.reduceLT, Int32.toInt_zero] at *; omega)
  · refine xi_iload_n (pc' := 6) rfl rfl rfl ?_
    refine xi_iconst (pc' := 7) rfl rfl ?_
    refine xx_icmp (pc' := 10) (tg := 15) rfl rfl rfl (fun q7 => ?_) (fun q7 => ?_)
    · refine xi_iconst (pc' := 16) rfl rfl ?_
      refine xi_goto (pc' := 20) rfl rfl ?_
      refine xx_zreturn rfl rfl (by first | rfl | assumption | exact b01_bI | simp [ex_b01, bI]) ?_
      first | exact ⟨rfl, rfl⟩ | (exfalso; simp only [ex_P, Classical.not_not, bI_0, okMsg, isP, aT, aC, vT, vS, isC, Int32.lt_iff_toInt_lt, Int32.le_iff_toInt_le, ← Int32.toInt_inj, toI, Nat.reduceLT, Int32.toInt_zero] at *; omega)
    · refine xi_iload_n (pc' := 11) rfl rfl rfl ?_
      refine xi_iconst (pc' := 12) rfl rfl ?_
      refine xx_icmp (pc' := 15) (tg := 19) rfl rfl rfl (fun q12 => ?_) (fun q12 => ?_)
      · refine xi_iconst (pc' := 20) rfl rfl ?_
        refine xx_zreturn rfl rfl (by first | rfl | assumption | exact b01_bI | simp [ex_b01, bI]) ?_
        first | exact ⟨rfl, rfl⟩ | (exfalso; simp only [ex_P, Classical.not_not, bI_0, okMsg, isP, aT, aC, vT, vS, isC, Int32.lt_iff_toInt_lt, Int32.le_iff_toInt_le, ← Int32.toInt_inj, toI, Nat.reduceLT, Int32.toInt_zero] at *; omega)
      · refine xi_iconst (pc' := 16) rfl rfl ?_
        refine xi_goto (pc' := 20) rfl rfl ?_
        refine xx_zreturn rfl rfl (by first | rfl | assumption | exact b01_bI | simp [ex_b01, bI]) ?_
        first | exact ⟨rfl, rfl⟩ | (exfalso; simp only [ex_P, Classical.not_not, bI_0, okMsg, isP, aT, aC, vT, vS, isC, Int32.lt_iff_toInt_lt, Int32.le_iff_toInt_le, ← Int32.toInt_inj, toI, Nat.reduceLT, Int32.toInt_zero] at *; omega)
theorem c_isPer0 {L : Nat} {xs : Nat → Int32} {D n : Nat} {I J : ex_Mem} {c : Int32} (h : ¬ isP c) : ri L xs D 15 [.int c] (mkH n I J) (nI 0) (mkH n I J) := by
  show xx cb_G _ _ _ 15 0 [.int c] [] _ _
  refine xi_iload_n (pc' := 1) rfl rfl rfl ?_
  refine xi_iconst (pc' := 2) rfl rfl ?_
  refine xx_icmp (pc' := 5) (tg := 15) rfl rfl rfl (fun q2 => ?_) (fun q2 => ?_)
  · refine xi_iconst (pc' := 16) rfl rfl ?_
    refine xi_goto (pc' := 20) rfl rfl ?_
    refine xx_zreturn rfl rfl (by first | rfl | assumption | exact b01_bI | simp [ex_b01, bI]) ?_
    first | exact ⟨rfl, rfl⟩ | (exfalso; simp only [ex_P, Classical.not_not, bI_0, okMsg, isP, aT, aC, vT, vS, isC, Int32.lt_iff_toInt_lt, Int32.le_iff_toInt_le, ← Int32.toInt_inj, toI, Nat.reduceLT, Int32.toInt_zero] at *; omega)
  · refine xi_iload_n (pc' := 6) rfl rfl rfl ?_
    refine xi_iconst (pc' := 7) rfl rfl ?_
    refine xx_icmp (pc' := 10) (tg := 15) rfl rfl rfl (fun q7 => ?_) (fun q7 => ?_)
    · refine xi_iconst (pc' := 16) rfl rfl ?_
      refine xi_goto (pc' := 20) rfl rfl ?_
      refine xx_zreturn rfl rfl (by first | rfl | assumption | exact b01_bI | simp [ex_b01, bI]) ?_
      first | exact ⟨rfl, rfl⟩ | (exfalso; simp only [ex_P, Classical.not_not, bI_0, okMsg, isP, aT, aC, vT, vS, isC, Int32.lt_iff_toInt_lt, Int32.le_iff_toInt_le, ← Int32.toInt_inj, toI, Nat.reduceLT, Int32.toInt_zero] at *; omega)
    · refine xi_iload_n (pc' := 11) rfl rfl rfl ?_
      refine xi_iconst (pc' := 12) rfl rfl ?_
      refine xx_icmp (pc' := 15) (tg := 19) rfl rfl rfl (fun q12 => ?_) (fun q12 => ?_)
      · refine xi_iconst (pc' := 20) rfl rfl ?_
        refine xx_zreturn rfl rfl (by first | rfl | assumption | exact b01_bI | simp [ex_b01, bI]) ?_
        first | exact ⟨rfl, rfl⟩ | (exfalso; simp only [ex_P, Classical.not_not, bI_0, okMsg, isP, aT, aC, vT, vS, isC, Int32.lt_iff_toInt_lt, Int32.le_iff_toInt_le, ← Int32.toInt_inj, toI, Nat.reduceLT, Int32.toInt_zero] at *; omega)
      · refine xi_iconst (pc' := 16) rfl rfl ?_
        refine xi_goto (pc' := 20) rfl rfl ?_
        refine xx_zreturn rfl rfl (by first | rfl | assumption | exact b01_bI | simp [ex_b01, bI]) ?_
        first | exact ⟨rfl, rfl⟩ | (exfalso; simp only [ex_P, Classical.not_not, bI_0, okMsg, isP, aT, aC, vT, vS, isC, Int32.lt_iff_toInt_lt, Int32.le_iff_toInt_le, ← Int32.toInt_inj, toI, Nat.reduceLT, Int32.toInt_zero] at *; omega)
theorem c_isMC1 {L : Nat} {xs : Nat → Int32} {D n : Nat} {I J : ex_Mem} {c : Int32} (h : isC c) : ri L xs D 18 [.int c] (mkH n I J) (nI 1) (mkH n I J) := by
  show xx cb_G _ _ _ 18 0 [.int c] [] _ _
  refine xi_iload_n (pc' := 1) rfl rfl rfl ?_
  refine xi_iconst (pc' := 2) rfl rfl ?_
  refine xx_icmp (pc' := 5) (tg := 32) rfl rfl rfl (fun q2 => ?_) (fun q2 => ?_)
  · refine xi_iconst (pc' := 33) rfl rfl ?_
    refine xi_goto (pc' := 37) rfl rfl ?_
    refine xx_zreturn rfl rfl (by first | rfl | assumption | exact b01_bI | simp [ex_b01, bI]) ?_
    first | exact ⟨rfl, rfl⟩ | (exfalso; simp only [ex_P, Classical.not_not, bI_0, okMsg, isP, aT, aC, vT, vS, isC, Int32.lt_iff_toInt_lt, Int32.le_iff_toInt_le, ← Int32.toInt_inj, toI, Nat.reduceLT, Int32.toInt_zero] at *; omega)
  · refine xi_iload_n (pc' := 6) rfl rfl rfl ?_
    refine xi_iconst (pc' := 7) rfl rfl ?_
    refine xx_icmp (pc' := 10) (tg := 32) rfl rfl rfl (fun q7 => ?_) (fun q7 => ?_)
    · refine xi_iconst (pc' := 33) rfl rfl ?_
      refine xi_goto (pc' := 37) rfl rfl ?_
      refine xx_zreturn rfl rfl (by first | rfl | assumption | exact b01_bI | simp [ex_b01, bI]) ?_
      first | exact ⟨rfl, rfl⟩ | (exfalso; simp only [ex_P, Classical.not_not, bI_0, okMsg, isP, aT, aC, vT, vS, isC, Int32.lt_iff_toInt_lt, Int32.le_iff_toInt_le, ← Int32.toInt_inj, toI, Nat.reduceLT, Int32.toInt_zero] at *; omega)
    · refine xi_iload_n (pc' := 11) rfl rfl rfl ?_
      refine xi_iconst (pc' := 12) rfl rfl ?_
      refine xx_icmp (pc' := 15) (tg := 32) rfl rfl rfl (fun q12 => ?_) (fun q12 => ?_)
      · refine xi_iconst (pc' := 33) rfl rfl ?_
        refine xi_goto (pc' := 37) rfl rfl ?_
        refine xx_zreturn rfl rfl (by first | rfl | assumption | exact b01_bI | simp [ex_b01, bI]) ?_
        first | exact ⟨rfl, rfl⟩ | (exfalso; simp only [ex_P, Classical.not_not, bI_0, okMsg, isP, aT, aC, vT, vS, isC, Int32.lt_iff_toInt_lt, Int32.le_iff_toInt_le, ← Int32.toInt_inj, toI, Nat.reduceLT, Int32.toInt_zero] at *; omega)
      · refine xi_iload_n (pc' := 16) rfl rfl rfl ?_
        refine xi_iconst (pc' := 17) rfl rfl ?_
        refine xx_icmp (pc' := 20) (tg := 32) rfl rfl rfl (fun q17 => ?_) (fun q17 => ?_)
        · refine xi_iconst (pc' := 33) rfl rfl ?_
          refine xi_goto (pc' := 37) rfl rfl ?_
          refine xx_zreturn rfl rfl (by first | rfl | assumption | exact b01_bI | simp [ex_b01, bI]) ?_
          first | exact ⟨rfl, rfl⟩ | (exfalso; simp only [ex_P, Classical.not_not, bI_0, okMsg, isP, aT, aC, vT, vS, isC, Int32.lt_iff_toInt_lt, Int32.le_iff_toInt_le, ← Int32.toInt_inj, toI, Nat.reduceLT, Int32.toInt_zero] at *; omega)
        · refine xi_iload_n (pc' := 21) rfl rfl rfl ?_
          refine xi_bipush (pc' := 23) rfl (by decide) rfl ?_
          refine xx_icmp (pc' := 26) (tg := 32) rfl rfl rfl (fun q23 => ?_) (fun q23 => ?_)
          · refine xi_iconst (pc' := 33) rfl rfl ?_
            refine xi_goto (pc' := 37) rfl rfl ?_
            refine xx_zreturn rfl rfl (by first | rfl | assumption | exact b01_bI | simp [ex_b01, bI]) ?_
            first | exact ⟨rfl, rfl⟩ | (exfalso; simp only [ex_P, Classical.not_not, bI_0, okMsg, isP, aT, aC, vT, vS, isC, Int32.lt_iff_toInt_lt, Int32.le_iff_toInt_le, ← Int32.toInt_inj, toI, Nat.reduceLT, Int32.toInt_zero] at *; omega)
          · refine xi_iload_n (pc' := 27) rfl rfl rfl ?_
            refine xi_bipush (pc' := 29) rfl (by decide) rfl ?_
            refine xx_icmp (pc' := 32) (tg := 36) rfl rfl rfl (fun q29 => ?_) (fun q29 => ?_)
            · refine xi_iconst (pc' := 37) rfl rfl ?_
              refine xx_zreturn rfl rfl (by first | rfl | assumption | exact b01_bI | simp [ex_b01, bI]) ?_
              first | exact ⟨rfl, rfl⟩ | (exfalso; simp only [ex_P, Classical.not_not, bI_0, okMsg, isP, aT, aC, vT, vS, isC, Int32.lt_iff_toInt_lt, Int32.le_iff_toInt_le, ← Int32.toInt_inj, toI, Nat.reduceLT, Int32.toInt_zero] at *; omega)
            · refine xi_iconst (pc' := 33) rfl rfl ?_
              refine xi_goto (pc' := 37) rfl rfl ?_
              refine xx_zreturn rfl rfl (by first | rfl | assumption | exact b01_bI | simp [ex_b01, bI]) ?_
              first | exact ⟨rfl, rfl⟩ | (exfalso; simp only [ex_P, Classical.not_not, bI_0, okMsg, isP, aT, aC, vT, vS, isC, Int32.lt_iff_toInt_lt, Int32.le_iff_toInt_le, ← Int32.toInt_inj, toI, Nat.reduceLT, Int32.toInt_zero] at *; omega)
theorem c_isMC0 {L : Nat} {xs : Nat → Int32} {D n : Nat} {I J : ex_Mem} {c : Int32} (h : ¬ isC c) : ri L xs D 18 [.int c] (mkH n I J) (nI 0) (mkH n I J) := by
  show xx cb_G _ _ _ 18 0 [.int c] [] _ _
  refine xi_iload_n (pc' := 1) rfl rfl rfl ?_
  refine xi_iconst (pc' := 2) rfl rfl ?_
  refine xx_icmp (pc' := 5) (tg := 32) rfl rfl rfl (fun q2 => ?_) (fun q2 => ?_)
  · refine xi_iconst (pc' := 33) rfl rfl ?_
    refine xi_goto (pc' := 37) rfl rfl ?_
    refine xx_zreturn rfl rfl (by first | rfl | assumption | exact b01_bI | simp [ex_b01, bI]) ?_
    first | exact ⟨rfl, rfl⟩ | (exfalso; simp only [ex_P, Classical.not_not, bI_0, okMsg, isP, aT, aC, vT, vS, isC, Int32.lt_iff_toInt_lt, Int32.le_iff_toInt_le, ← Int32.toInt_inj, toI, Nat.reduceLT, Int32.toInt_zero] at *; omega)
  · refine xi_iload_n (pc' := 6) rfl rfl rfl ?_
    refine xi_iconst (pc' := 7) rfl rfl ?_
    refine xx_icmp (pc' := 10) (tg := 32) rfl rfl rfl (fun q7 => ?_) (fun q7 => ?_)
    · refine xi_iconst (pc' := 33) rfl rfl ?_
      refine xi_goto (pc' := 37) rfl rfl ?_
      refine xx_zreturn rfl rfl (by first | rfl | assumption | exact b01_bI | simp [ex_b01, bI]) ?_
      first | exact ⟨rfl, rfl⟩ | (exfalso; simp only [ex_P, Classical.not_not, bI_0, okMsg, isP, aT, aC, vT, vS, isC, Int32.lt_iff_toInt_lt, Int32.le_iff_toInt_le, ← Int32.toInt_inj, toI, Nat.reduceLT, Int32.toInt_zero] at *; omega)
    · refine xi_iload_n (pc' := 11) rfl rfl rfl ?_
      refine xi_iconst (pc' := 12) rfl rfl ?_
      refine xx_icmp (pc' := 15) (tg := 32) rfl rfl rfl (fun q12 => ?_) (fun q12 => ?_)
      · refine xi_iconst (pc' := 33) rfl rfl ?_
        refine xi_goto (pc' := 37) rfl rfl ?_
        refine xx_zreturn rfl rfl (by first | rfl | assumption | exact b01_bI | simp [ex_b01, bI]) ?_
        first | exact ⟨rfl, rfl⟩ | (exfalso; simp only [ex_P, Classical.not_not, bI_0, okMsg, isP, aT, aC, vT, vS, isC, Int32.lt_iff_toInt_lt, Int32.le_iff_toInt_le, ← Int32.toInt_inj, toI, Nat.reduceLT, Int32.toInt_zero] at *; omega)
      · refine xi_iload_n (pc' := 16) rfl rfl rfl ?_
        refine xi_iconst (pc' := 17) rfl rfl ?_
        refine xx_icmp (pc' := 20) (tg := 32) rfl rfl rfl (fun q17 => ?_) (fun q17 => ?_)
        · refine xi_iconst (pc' := 33) rfl rfl ?_
          refine xi_goto (pc' := 37) rfl rfl ?_
          refine xx_zreturn rfl rfl (by first | rfl | assumption | exact b01_bI | simp [ex_b01, bI]) ?_
          first | exact ⟨rfl, rfl⟩ | (exfalso; simp only [ex_P, Classical.not_not, bI_0, okMsg, isP, aT, aC, vT, vS, isC, Int32.lt_iff_toInt_lt, Int32.le_iff_toInt_le, ← Int32.toInt_inj, toI, Nat.reduceLT, Int32.toInt_zero] at *; omega)
        · refine xi_iload_n (pc' := 21) rfl rfl rfl ?_
          refine xi_bipush (pc' := 23) rfl (by decide) rfl ?_
          refine xx_icmp (pc' := 26) (tg := 32) rfl rfl rfl (fun q23 => ?_) (fun q23 => ?_)
          · refine xi_iconst (pc' := 33) rfl rfl ?_
            refine xi_goto (pc' := 37) rfl rfl ?_
            refine xx_zreturn rfl rfl (by first | rfl | assumption | exact b01_bI | simp [ex_b01, bI]) ?_
            first | exact ⟨rfl, rfl⟩ | (exfalso; simp only [ex_P, Classical.not_not, bI_0, okMsg, isP, aT, aC, vT, vS, isC, Int32.lt_iff_toInt_lt, Int32.le_iff_toInt_le, ← Int32.toInt_inj, toI, Nat.reduceLT, Int32.toInt_zero] at *; omega)
          · refine xi_iload_n (pc' := 27) rfl rfl rfl ?_
            refine xi_bipush (pc' := 29) rfl (by decide) rfl ?_
            refine xx_icmp (pc' := 32) (tg := 36) rfl rfl rfl (fun q29 => ?_) (fun q29 => ?_)
            · refine xi_iconst (pc' := 37) rfl rfl ?_
              refine xx_zreturn rfl rfl (by first | rfl | assumption | exact b01_bI | simp [ex_b01, bI]) ?_
              first | exact ⟨rfl, rfl⟩ | (exfalso; simp only [ex_P, Classical.not_not, bI_0, okMsg, isP, aT, aC, vT, vS, isC, Int32.lt_iff_toInt_lt, Int32.le_iff_toInt_le, ← Int32.toInt_inj, toI, Nat.reduceLT, Int32.toInt_zero] at *; omega)
            · refine xi_iconst (pc' := 33) rfl rfl ?_
              refine xi_goto (pc' := 37) rfl rfl ?_
              refine xx_zreturn rfl rfl (by first | rfl | assumption | exact b01_bI | simp [ex_b01, bI]) ?_
              first | exact ⟨rfl, rfl⟩ | (exfalso; simp only [ex_P, Classical.not_not, bI_0, okMsg, isP, aT, aC, vT, vS, isC, Int32.lt_iff_toInt_lt, Int32.le_iff_toInt_le, ← Int32.toInt_inj, toI, Nat.reduceLT, Int32.toInt_zero] at *; omega)
theorem c_aT1_11 {L : Nat} {xs : Nat → Int32} {D n : Nat} {I J : ex_Mem} {kind x y : Int32} (h : aT kind x y) (hx : vT x) (hy : vT y) : ri L xs (D + 1) 16 [.int kind, .int x, .int y] (mkH n I J) (nI 1) (mkH n I J) := by
  show xx cb_G _ _ _ 16 0 [.int kind, .int x, .int y] [] _ _
  refine xi_iload_n (pc' := 1) rfl rfl rfl ?_
  refine xi_iconst (pc' := 2) rfl rfl ?_
  refine xx_icmp (pc' := 5) (tg := 7) rfl rfl rfl (fun q2 => ?_) (fun q2 => ?_)
  · refine xi_iload_n (pc' := 8) rfl rfl rfl ?_
    refine xi_iconst (pc' := 9) rfl rfl ?_
    refine xx_icmp (pc' := 12) (tg := 37) rfl rfl rfl (fun q9 => ?_) (fun q9 => ?_)
    · refine xi_iload_n (pc' := 38) rfl rfl rfl ?_
      refine xx_callSi (pc' := 41) rfl rfl (by decide) rfl (Nat.le_of_ble_eq_true rfl) rfl rfl (c_isTerminal1 hx) ?_
      refine xx_zreturn rfl rfl (by first | rfl | assumption | exact b01_bI | simp [ex_b01, bI]) ?_
      first | exact ⟨rfl, rfl⟩ | (exfalso; simp only [ex_P, Classical.not_not, bI_0, okMsg, isP, aT, aC, vT, vS, isC, Int32.lt_iff_toInt_lt, Int32.le_iff_toInt_le, ← Int32.toInt_inj, toI, Nat.reduceLT, Int32.toInt_zero] at *; omega)
    · refine xi_iload_n (pc' := 13) rfl rfl rfl ?_
      refine xx_callSi (pc' := 16) rfl rfl (by decide) rfl (Nat.le_of_ble_eq_true rfl) rfl rfl (c_isTerminal1 hx) ?_
      refine xi_iff (pc' := 19) (tg := 35) rfl rfl (by decide) rfl ?_
      refine xi_iload_n (pc' := 20) rfl rfl rfl ?_
      refine xx_callSi (pc' := 23) rfl rfl (by decide) rfl (Nat.le_of_ble_eq_true rfl) rfl rfl (c_isTerminal1 hy) ?_
      refine xi_iff (pc' := 26) (tg := 35) rfl rfl (by decide) rfl ?_
      refine xi_iload_n (pc' := 27) rfl rfl rfl ?_
      refine xi_iload_n (pc' := 28) rfl rfl rfl ?_
      refine xx_icmp (pc' := 31) (tg := 35) rfl rfl rfl (fun q28 => ?_) (fun q28 => ?_)
      · refine xi_iconst (pc' := 36) rfl rfl ?_
        refine xx_zreturn rfl rfl (by first | rfl | assumption | exact b01_bI | simp [ex_b01, bI]) ?_
        first | exact ⟨rfl, rfl⟩ | (exfalso; simp only [ex_P, Classical.not_not, bI_0, okMsg, isP, aT, aC, vT, vS, isC, Int32.lt_iff_toInt_lt, Int32.le_iff_toInt_le, ← Int32.toInt_inj, toI, Nat.reduceLT, Int32.toInt_zero] at *; omega)
      · refine xi_iconst (pc' := 32) rfl rfl ?_
        refine xi_goto (pc' := 36) rfl rfl ?_
        refine xx_zreturn rfl rfl (by first | rfl | assumption | exact b01_bI | simp [ex_b01, bI]) ?_
        first | exact ⟨rfl, rfl⟩ | (exfalso; simp only [ex_P, Classical.not_not, bI_0, okMsg, isP, aT, aC, vT, vS, isC, Int32.lt_iff_toInt_lt, Int32.le_iff_toInt_le, ← Int32.toInt_inj, toI, Nat.reduceLT, Int32.toInt_zero] at *; omega)
  · refine xi_iconst (pc' := 6) rfl rfl ?_
    refine xx_zreturn rfl rfl (by first | rfl | assumption | exact b01_bI | simp [ex_b01, bI]) ?_
    first | exact ⟨rfl, rfl⟩ | (exfalso; simp only [ex_P, Classical.not_not, bI_0, okMsg, isP, aT, aC, vT, vS, isC, Int32.lt_iff_toInt_lt, Int32.le_iff_toInt_le, ← Int32.toInt_inj, toI, Nat.reduceLT, Int32.toInt_zero] at *; omega)
theorem c_aT1_10 {L : Nat} {xs : Nat → Int32} {D n : Nat} {I J : ex_Mem} {kind x y : Int32} (h : aT kind x y) (hx : vT x) (hy : ¬ vT y) : ri L xs (D + 1) 16 [.int kind, .int x, .int y] (mkH n I J) (nI 1) (mkH n I J) := by
  show xx cb_G _ _ _ 16 0 [.int kind, .int x, .int y] [] _ _
  refine xi_iload_n (pc' := 1) rfl rfl rfl ?_
  refine xi_iconst (pc' := 2) rfl rfl ?_
  refine xx_icmp (pc' := 5) (tg := 7) rfl rfl rfl (fun q2 => ?_) (fun q2 => ?_)
  · refine xi_iload_n (pc' := 8) rfl rfl rfl ?_
    refine xi_iconst (pc' := 9) rfl rfl ?_
    refine xx_icmp (pc' := 12) (tg := 37) rfl rfl rfl (fun q9 => ?_) (fun q9 => ?_)
    · refine xi_iload_n (pc' := 38) rfl rfl rfl ?_
      refine xx_callSi (pc' := 41) rfl rfl (by decide) rfl (Nat.le_of_ble_eq_true rfl) rfl rfl (c_isTerminal1 hx) ?_
      refine xx_zreturn rfl rfl (by first | rfl | assumption | exact b01_bI | simp [ex_b01, bI]) ?_
      first | exact ⟨rfl, rfl⟩ | (exfalso; simp only [ex_P, Classical.not_not, bI_0, okMsg, isP, aT, aC, vT, vS, isC, Int32.lt_iff_toInt_lt, Int32.le_iff_toInt_le, ← Int32.toInt_inj, toI, Nat.reduceLT, Int32.toInt_zero] at *; omega)
    · refine xi_iload_n (pc' := 13) rfl rfl rfl ?_
      refine xx_callSi (pc' := 16) rfl rfl (by decide) rfl (Nat.le_of_ble_eq_true rfl) rfl rfl (c_isTerminal1 hx) ?_
      refine xi_iff (pc' := 19) (tg := 35) rfl rfl (by decide) rfl ?_
      refine xi_iload_n (pc' := 20) rfl rfl rfl ?_
      refine xx_callSi (pc' := 23) rfl rfl (by decide) rfl (Nat.le_of_ble_eq_true rfl) rfl rfl (c_isTerminal0 hy) ?_
      refine xi_ift (pc' := 35) rfl rfl (by decide) ?_
      refine xi_iconst (pc' := 36) rfl rfl ?_
      refine xx_zreturn rfl rfl (by first | rfl | assumption | exact b01_bI | simp [ex_b01, bI]) ?_
      first | exact ⟨rfl, rfl⟩ | (exfalso; simp only [ex_P, Classical.not_not, bI_0, okMsg, isP, aT, aC, vT, vS, isC, Int32.lt_iff_toInt_lt, Int32.le_iff_toInt_le, ← Int32.toInt_inj, toI, Nat.reduceLT, Int32.toInt_zero] at *; omega)
  · refine xi_iconst (pc' := 6) rfl rfl ?_
    refine xx_zreturn rfl rfl (by first | rfl | assumption | exact b01_bI | simp [ex_b01, bI]) ?_
    first | exact ⟨rfl, rfl⟩ | (exfalso; simp only [ex_P, Classical.not_not, bI_0, okMsg, isP, aT, aC, vT, vS, isC, Int32.lt_iff_toInt_lt, Int32.le_iff_toInt_le, ← Int32.toInt_inj, toI, Nat.reduceLT, Int32.toInt_zero] at *; omega)
theorem c_aT1_01 {L : Nat} {xs : Nat → Int32} {D n : Nat} {I J : ex_Mem} {kind x y : Int32} (h : aT kind x y) (hx : ¬ vT x) (hy : vT y) : ri L xs (D + 1) 16 [.int kind, .int x, .int y] (mkH n I J) (nI 1) (mkH n I J) := by
  show xx cb_G _ _ _ 16 0 [.int kind, .int x, .int y] [] _ _
  refine xi_iload_n (pc' := 1) rfl rfl rfl ?_
  refine xi_iconst (pc' := 2) rfl rfl ?_
  refine xx_icmp (pc' := 5) (tg := 7) rfl rfl rfl (fun q2 => ?_) (fun q2 => ?_)
  · refine xi_iload_n (pc' := 8) rfl rfl rfl ?_
    refine xi_iconst (pc' := 9) rfl rfl ?_
    refine xx_icmp (pc' := 12) (tg := 37) rfl rfl rfl (fun q9 => ?_) (fun q9 => ?_)
    · refine xi_iload_n (pc' := 38) rfl rfl rfl ?_
      refine xx_callSi (pc' := 41) rfl rfl (by decide) rfl (Nat.le_of_ble_eq_true rfl) rfl rfl (c_isTerminal0 hx) ?_
      refine xx_zreturn rfl rfl (by first | rfl | assumption | exact b01_bI | simp [ex_b01, bI]) ?_
      first | exact ⟨rfl, rfl⟩ | (exfalso; simp only [ex_P, Classical.not_not, bI_0, okMsg, isP, aT, aC, vT, vS, isC, Int32.lt_iff_toInt_lt, Int32.le_iff_toInt_le, ← Int32.toInt_inj, toI, Nat.reduceLT, Int32.toInt_zero] at *; omega)
    · refine xi_iload_n (pc' := 13) rfl rfl rfl ?_
      refine xx_callSi (pc' := 16) rfl rfl (by decide) rfl (Nat.le_of_ble_eq_true rfl) rfl rfl (c_isTerminal0 hx) ?_
      refine xi_ift (pc' := 35) rfl rfl (by decide) ?_
      refine xi_iconst (pc' := 36) rfl rfl ?_
      refine xx_zreturn rfl rfl (by first | rfl | assumption | exact b01_bI | simp [ex_b01, bI]) ?_
      first | exact ⟨rfl, rfl⟩ | (exfalso; simp only [ex_P, Classical.not_not, bI_0, okMsg, isP, aT, aC, vT, vS, isC, Int32.lt_iff_toInt_lt, Int32.le_iff_toInt_le, ← Int32.toInt_inj, toI, Nat.reduceLT, Int32.toInt_zero] at *; omega)
  · refine xi_iconst (pc' := 6) rfl rfl ?_
    refine xx_zreturn rfl rfl (by first | rfl | assumption | exact b01_bI | simp [ex_b01, bI]) ?_
    first | exact ⟨rfl, rfl⟩ | (exfalso; simp only [ex_P, Classical.not_not, bI_0, okMsg, isP, aT, aC, vT, vS, isC, Int32.lt_iff_toInt_lt, Int32.le_iff_toInt_le, ← Int32.toInt_inj, toI, Nat.reduceLT, Int32.toInt_zero] at *; omega)
theorem c_aT1_00 {L : Nat} {xs : Nat → Int32} {D n : Nat} {I J : ex_Mem} {kind x y : Int32} (h : aT kind x y) (hx : ¬ vT x) (hy : ¬ vT y) : ri L xs (D + 1) 16 [.int kind, .int x, .int y] (mkH n I J) (nI 1) (mkH n I J) := by
  show xx cb_G _ _ _ 16 0 [.int kind, .int x, .int y] [] _ _
  refine xi_iload_n (pc' := 1) rfl rfl rfl ?_
  refine xi_iconst (pc' := 2) rfl rfl ?_
  refine xx_icmp (pc' := 5) (tg := 7) rfl rfl rfl (fun q2 => ?_) (fun q2 => ?_)
  · refine xi_iload_n (pc' := 8) rfl rfl rfl ?_
    refine xi_iconst (pc' := 9) rfl rfl ?_
    refine xx_icmp (pc' := 12) (tg := 37) rfl rfl rfl (fun q9 => ?_) (fun q9 => ?_)
    · refine xi_iload_n (pc' := 38) rfl rfl rfl ?_
      refine xx_callSi (pc' := 41) rfl rfl (by decide) rfl (Nat.le_of_ble_eq_true rfl) rfl rfl (c_isTerminal0 hx) ?_
      refine xx_zreturn rfl rfl (by first | rfl | assumption | exact b01_bI | simp [ex_b01, bI]) ?_
      first | exact ⟨rfl, rfl⟩ | (exfalso; simp only [ex_P, Classical.not_not, bI_0, okMsg, isP, aT, aC, vT, vS, isC, Int32.lt_iff_toInt_lt, Int32.le_iff_toInt_le, ← Int32.toInt_inj, toI, Nat.reduceLT, Int32.toInt_zero] at *; omega)
    · refine xi_iload_n (pc' := 13) rfl rfl rfl ?_
      refine xx_callSi (pc' := 16) rfl rfl (by decide) rfl (Nat.le_of_ble_eq_true rfl) rfl rfl (c_isTerminal0 hx) ?_
      refine xi_ift (pc' := 35) rfl rfl (by decide) ?_
      refine xi_iconst (pc' := 36) rfl rfl ?_
      refine xx_zreturn rfl rfl (by first | rfl | assumption | exact b01_bI | simp [ex_b01, bI]) ?_
      first | exact ⟨rfl, rfl⟩ | (exfalso; simp only [ex_P, Classical.not_not, bI_0, okMsg, isP, aT, aC, vT, vS, isC, Int32.lt_iff_toInt_lt, Int32.le_iff_toInt_le, ← Int32.toInt_inj, toI, Nat.reduceLT, Int32.toInt_zero] at *; omega)
  · refine xi_iconst (pc' := 6) rfl rfl ?_
    refine xx_zreturn rfl rfl (by first | rfl | assumption | exact b01_bI | simp [ex_b01, bI]) ?_
    first | exact ⟨rfl, rfl⟩ | (exfalso; simp only [ex_P, Classical.not_not, bI_0, okMsg, isP, aT, aC, vT, vS, isC, Int32.lt_iff_toInt_lt, Int32.le_iff_toInt_le, ← Int32.toInt_inj, toI, Nat.reduceLT, Int32.toInt_zero] at *; omega)
theorem c_aT1 {L : Nat} {xs : Nat → Int32} {D n : Nat} {I J : ex_Mem} {kind x y : Int32} (h : aT kind x y) : ri L xs (D + 1) 16 [.int kind, .int x, .int y] (mkH n I J) (nI 1) (mkH n I J) := by
  by_cases hx : vT x <;> by_cases hy : vT y
  · exact c_aT1_11 h hx hy
  · exact c_aT1_10 h hx hy
  · exact c_aT1_01 h hx hy
  · exact c_aT1_00 h hx hy
theorem c_aC1_11 {L : Nat} {xs : Nat → Int32} {D n : Nat} {I J : ex_Mem} {kind s nn : Int32} (h : aC kind s nn) (hs : vS s) (hc : isC nn) : ri L xs (D + 1) 17 [.int kind, .int s, .int nn] (mkH n I J) (nI 1) (mkH n I J) := by
  show xx cb_G _ _ _ 17 0 [.int kind, .int s, .int nn] [] _ _
  refine xi_iload_n (pc' := 1) rfl rfl rfl ?_
  refine xi_iconst (pc' := 2) rfl rfl ?_
  refine xx_icmp (pc' := 5) (tg := 10) rfl rfl rfl (fun q2 => ?_) (fun q2 => ?_)
  · refine xi_iload_n (pc' := 11) rfl rfl rfl ?_
    refine xx_if (pc' := 14) (tg := 40) rfl rfl rfl (fun q11 => ?_) (fun q11 => ?_)
    · refine xi_iconst (pc' := 41) rfl rfl ?_
      refine xx_zreturn rfl rfl (by first | rfl | assumption | exact b01_bI | simp [ex_b01, bI]) ?_
      first | exact ⟨rfl, rfl⟩ | (exfalso; simp only [ex_P, Classical.not_not, bI_0, okMsg, isP, aT, aC, vT, vS, isC, Int32.lt_iff_toInt_lt, Int32.le_iff_toInt_le, ← Int32.toInt_inj, toI, Nat.reduceLT, Int32.toInt_zero] at *; omega)
    · refine xi_iload_n (pc' := 15) rfl rfl rfl ?_
      refine xi_iconst (pc' := 16) rfl rfl ?_
      refine xx_icmp (pc' := 19) (tg := 40) rfl rfl rfl (fun q16 => ?_) (fun q16 => ?_)
      · refine xi_iconst (pc' := 41) rfl rfl ?_
        refine xx_zreturn rfl rfl (by first | rfl | assumption | exact b01_bI | simp [ex_b01, bI]) ?_
        first | exact ⟨rfl, rfl⟩ | (exfalso; simp only [ex_P, Classical.not_not, bI_0, okMsg, isP, aT, aC, vT, vS, isC, Int32.lt_iff_toInt_lt, Int32.le_iff_toInt_le, ← Int32.toInt_inj, toI, Nat.reduceLT, Int32.toInt_zero] at *; omega)
      · refine xi_iload_n (pc' := 20) rfl rfl rfl ?_
        refine xx_callSi (pc' := 23) rfl rfl (by decide) rfl (Nat.le_of_ble_eq_true rfl) rfl rfl (c_isSub1 hs) ?_
        refine xi_iff (pc' := 26) (tg := 40) rfl rfl (by decide) rfl ?_
        refine xi_iload_n (pc' := 27) rfl rfl rfl ?_
        refine xi_iconst (pc' := 28) rfl rfl ?_
        refine xx_icmp (pc' := 31) (tg := 40) rfl rfl rfl (fun q28 => ?_) (fun q28 => ?_)
        · refine xi_iconst (pc' := 41) rfl rfl ?_
          refine xx_zreturn rfl rfl (by first | rfl | assumption | exact b01_bI | simp [ex_b01, bI]) ?_
          first | exact ⟨rfl, rfl⟩ | (exfalso; simp only [ex_P, Classical.not_not, bI_0, okMsg, isP, aT, aC, vT, vS, isC, Int32.lt_iff_toInt_lt, Int32.le_iff_toInt_le, ← Int32.toInt_inj, toI, Nat.reduceLT, Int32.toInt_zero] at *; omega)
        · refine xi_iload_n (pc' := 32) rfl rfl rfl ?_
          refine xi_iconst (pc' := 33) rfl rfl ?_
          refine xx_icmp (pc' := 36) (tg := 40) rfl rfl rfl (fun q33 => ?_) (fun q33 => ?_)
          · refine xi_iconst (pc' := 41) rfl rfl ?_
            refine xx_zreturn rfl rfl (by first | rfl | assumption | exact b01_bI | simp [ex_b01, bI]) ?_
            first | exact ⟨rfl, rfl⟩ | (exfalso; simp only [ex_P, Classical.not_not, bI_0, okMsg, isP, aT, aC, vT, vS, isC, Int32.lt_iff_toInt_lt, Int32.le_iff_toInt_le, ← Int32.toInt_inj, toI, Nat.reduceLT, Int32.toInt_zero] at *; omega)
          · refine xi_iconst (pc' := 37) rfl rfl ?_
            refine xi_goto (pc' := 41) rfl rfl ?_
            refine xx_zreturn rfl rfl (by first | rfl | assumption | exact b01_bI | simp [ex_b01, bI]) ?_
            first | exact ⟨rfl, rfl⟩ | (exfalso; simp only [ex_P, Classical.not_not, bI_0, okMsg, isP, aT, aC, vT, vS, isC, Int32.lt_iff_toInt_lt, Int32.le_iff_toInt_le, ← Int32.toInt_inj, toI, Nat.reduceLT, Int32.toInt_zero] at *; omega)
  · refine xi_iload_n (pc' := 6) rfl rfl rfl ?_
    refine xx_callSi (pc' := 9) rfl rfl (by decide) rfl (Nat.le_of_ble_eq_true rfl) rfl rfl (c_isMC1 hc) ?_
    refine xx_zreturn rfl rfl (by first | rfl | assumption | exact b01_bI | simp [ex_b01, bI]) ?_
    first | exact ⟨rfl, rfl⟩ | (exfalso; simp only [ex_P, Classical.not_not, bI_0, okMsg, isP, aT, aC, vT, vS, isC, Int32.lt_iff_toInt_lt, Int32.le_iff_toInt_le, ← Int32.toInt_inj, toI, Nat.reduceLT, Int32.toInt_zero] at *; omega)
theorem c_aC1_10 {L : Nat} {xs : Nat → Int32} {D n : Nat} {I J : ex_Mem} {kind s nn : Int32} (h : aC kind s nn) (hs : vS s) (hc : ¬ isC nn) : ri L xs (D + 1) 17 [.int kind, .int s, .int nn] (mkH n I J) (nI 1) (mkH n I J) := by
  show xx cb_G _ _ _ 17 0 [.int kind, .int s, .int nn] [] _ _
  refine xi_iload_n (pc' := 1) rfl rfl rfl ?_
  refine xi_iconst (pc' := 2) rfl rfl ?_
  refine xx_icmp (pc' := 5) (tg := 10) rfl rfl rfl (fun q2 => ?_) (fun q2 => ?_)
  · refine xi_iload_n (pc' := 11) rfl rfl rfl ?_
    refine xx_if (pc' := 14) (tg := 40) rfl rfl rfl (fun q11 => ?_) (fun q11 => ?_)
    · refine xi_iconst (pc' := 41) rfl rfl ?_
      refine xx_zreturn rfl rfl (by first | rfl | assumption | exact b01_bI | simp [ex_b01, bI]) ?_
      first | exact ⟨rfl, rfl⟩ | (exfalso; simp only [ex_P, Classical.not_not, bI_0, okMsg, isP, aT, aC, vT, vS, isC, Int32.lt_iff_toInt_lt, Int32.le_iff_toInt_le, ← Int32.toInt_inj, toI, Nat.reduceLT, Int32.toInt_zero] at *; omega)
    · refine xi_iload_n (pc' := 15) rfl rfl rfl ?_
      refine xi_iconst (pc' := 16) rfl rfl ?_
      refine xx_icmp (pc' := 19) (tg := 40) rfl rfl rfl (fun q16 => ?_) (fun q16 => ?_)
      · refine xi_iconst (pc' := 41) rfl rfl ?_
        refine xx_zreturn rfl rfl (by first | rfl | assumption | exact b01_bI | simp [ex_b01, bI]) ?_
        first | exact ⟨rfl, rfl⟩ | (exfalso; simp only [ex_P, Classical.not_not, bI_0, okMsg, isP, aT, aC, vT, vS, isC, Int32.lt_iff_toInt_lt, Int32.le_iff_toInt_le, ← Int32.toInt_inj, toI, Nat.reduceLT, Int32.toInt_zero] at *; omega)
      · refine xi_iload_n (pc' := 20) rfl rfl rfl ?_
        refine xx_callSi (pc' := 23) rfl rfl (by decide) rfl (Nat.le_of_ble_eq_true rfl) rfl rfl (c_isSub1 hs) ?_
        refine xi_iff (pc' := 26) (tg := 40) rfl rfl (by decide) rfl ?_
        refine xi_iload_n (pc' := 27) rfl rfl rfl ?_
        refine xi_iconst (pc' := 28) rfl rfl ?_
        refine xx_icmp (pc' := 31) (tg := 40) rfl rfl rfl (fun q28 => ?_) (fun q28 => ?_)
        · refine xi_iconst (pc' := 41) rfl rfl ?_
          refine xx_zreturn rfl rfl (by first | rfl | assumption | exact b01_bI | simp [ex_b01, bI]) ?_
          first | exact ⟨rfl, rfl⟩ | (exfalso; simp only [ex_P, Classical.not_not, bI_0, okMsg, isP, aT, aC, vT, vS, isC, Int32.lt_iff_toInt_lt, Int32.le_iff_toInt_le, ← Int32.toInt_inj, toI, Nat.reduceLT, Int32.toInt_zero] at *; omega)
        · refine xi_iload_n (pc' := 32) rfl rfl rfl ?_
          refine xi_iconst (pc' := 33) rfl rfl ?_
          refine xx_icmp (pc' := 36) (tg := 40) rfl rfl rfl (fun q33 => ?_) (fun q33 => ?_)
          · refine xi_iconst (pc' := 41) rfl rfl ?_
            refine xx_zreturn rfl rfl (by first | rfl | assumption | exact b01_bI | simp [ex_b01, bI]) ?_
            first | exact ⟨rfl, rfl⟩ | (exfalso; simp only [ex_P, Classical.not_not, bI_0, okMsg, isP, aT, aC, vT, vS, isC, Int32.lt_iff_toInt_lt, Int32.le_iff_toInt_le, ← Int32.toInt_inj, toI, Nat.reduceLT, Int32.toInt_zero] at *; omega)
          · refine xi_iconst (pc' := 37) rfl rfl ?_
            refine xi_goto (pc' := 41) rfl rfl ?_
            refine xx_zreturn rfl rfl (by first | rfl | assumption | exact b01_bI | simp [ex_b01, bI]) ?_
            first | exact ⟨rfl, rfl⟩ | (exfalso; simp only [ex_P, Classical.not_not, bI_0, okMsg, isP, aT, aC, vT, vS, isC, Int32.lt_iff_toInt_lt, Int32.le_iff_toInt_le, ← Int32.toInt_inj, toI, Nat.reduceLT, Int32.toInt_zero] at *; omega)
  · refine xi_iload_n (pc' := 6) rfl rfl rfl ?_
    refine xx_callSi (pc' := 9) rfl rfl (by decide) rfl (Nat.le_of_ble_eq_true rfl) rfl rfl (c_isMC0 hc) ?_
    refine xx_zreturn rfl rfl (by first | rfl | assumption | exact b01_bI | simp [ex_b01, bI]) ?_
    first | exact ⟨rfl, rfl⟩ | (exfalso; simp only [ex_P, Classical.not_not, bI_0, okMsg, isP, aT, aC, vT, vS, isC, Int32.lt_iff_toInt_lt, Int32.le_iff_toInt_le, ← Int32.toInt_inj, toI, Nat.reduceLT, Int32.toInt_zero] at *; omega)
theorem c_aC1_01 {L : Nat} {xs : Nat → Int32} {D n : Nat} {I J : ex_Mem} {kind s nn : Int32} (h : aC kind s nn) (hs : ¬ vS s) (hc : isC nn) : ri L xs (D + 1) 17 [.int kind, .int s, .int nn] (mkH n I J) (nI 1) (mkH n I J) := by
  show xx cb_G _ _ _ 17 0 [.int kind, .int s, .int nn] [] _ _
  refine xi_iload_n (pc' := 1) rfl rfl rfl ?_
  refine xi_iconst (pc' := 2) rfl rfl ?_
  refine xx_icmp (pc' := 5) (tg := 10) rfl rfl rfl (fun q2 => ?_) (fun q2 => ?_)
  · refine xi_iload_n (pc' := 11) rfl rfl rfl ?_
    refine xx_if (pc' := 14) (tg := 40) rfl rfl rfl (fun q11 => ?_) (fun q11 => ?_)
    · refine xi_iconst (pc' := 41) rfl rfl ?_
      refine xx_zreturn rfl rfl (by first | rfl | assumption | exact b01_bI | simp [ex_b01, bI]) ?_
      first | exact ⟨rfl, rfl⟩ | (exfalso; simp only [ex_P, Classical.not_not, bI_0, okMsg, isP, aT, aC, vT, vS, isC, Int32.lt_iff_toInt_lt, Int32.le_iff_toInt_le, ← Int32.toInt_inj, toI, Nat.reduceLT, Int32.toInt_zero] at *; omega)
    · refine xi_iload_n (pc' := 15) rfl rfl rfl ?_
      refine xi_iconst (pc' := 16) rfl rfl ?_
      refine xx_icmp (pc' := 19) (tg := 40) rfl rfl rfl (fun q16 => ?_) (fun q16 => ?_)
      · refine xi_iconst (pc' := 41) rfl rfl ?_
        refine xx_zreturn rfl rfl (by first | rfl | assumption | exact b01_bI | simp [ex_b01, bI]) ?_
        first | exact ⟨rfl, rfl⟩ | (exfalso; simp only [ex_P, Classical.not_not, bI_0, okMsg, isP, aT, aC, vT, vS, isC, Int32.lt_iff_toInt_lt, Int32.le_iff_toInt_le, ← Int32.toInt_inj, toI, Nat.reduceLT, Int32.toInt_zero] at *; omega)
      · refine xi_iload_n (pc' := 20) rfl rfl rfl ?_
        refine xx_callSi (pc' := 23) rfl rfl (by decide) rfl (Nat.le_of_ble_eq_true rfl) rfl rfl (c_isSub0 hs) ?_
        refine xi_ift (pc' := 40) rfl rfl (by decide) ?_
        refine xi_iconst (pc' := 41) rfl rfl ?_
        refine xx_zreturn rfl rfl (by first | rfl | assumption | exact b01_bI | simp [ex_b01, bI]) ?_
        first | exact ⟨rfl, rfl⟩ | (exfalso; simp only [ex_P, Classical.not_not, bI_0, okMsg, isP, aT, aC, vT, vS, isC, Int32.lt_iff_toInt_lt, Int32.le_iff_toInt_le, ← Int32.toInt_inj, toI, Nat.reduceLT, Int32.toInt_zero] at *; omega)
  · refine xi_iload_n (pc' := 6) rfl rfl rfl ?_
    refine xx_callSi (pc' := 9) rfl rfl (by decide) rfl (Nat.le_of_ble_eq_true rfl) rfl rfl (c_isMC1 hc) ?_
    refine xx_zreturn rfl rfl (by first | rfl | assumption | exact b01_bI | simp [ex_b01, bI]) ?_
    first | exact ⟨rfl, rfl⟩ | (exfalso; simp only [ex_P, Classical.not_not, bI_0, okMsg, isP, aT, aC, vT, vS, isC, Int32.lt_iff_toInt_lt, Int32.le_iff_toInt_le, ← Int32.toInt_inj, toI, Nat.reduceLT, Int32.toInt_zero] at *; omega)
theorem c_aC1_00 {L : Nat} {xs : Nat → Int32} {D n : Nat} {I J : ex_Mem} {kind s nn : Int32} (h : aC kind s nn) (hs : ¬ vS s) (hc : ¬ isC nn) : ri L xs (D + 1) 17 [.int kind, .int s, .int nn] (mkH n I J) (nI 1) (mkH n I J) := by
  show xx cb_G _ _ _ 17 0 [.int kind, .int s, .int nn] [] _ _
  refine xi_iload_n (pc' := 1) rfl rfl rfl ?_
  refine xi_iconst (pc' := 2) rfl rfl ?_
  refine xx_icmp (pc' := 5) (tg := 10) rfl rfl rfl (fun q2 => ?_) (fun q2 => ?_)
  · refine xi_iload_n (pc' := 11) rfl rfl rfl ?_
    refine xx_if (pc' := 14) (tg := 40) rfl rfl rfl (fun q11 => ?_) (fun q11 => ?_)
    · refine xi_iconst (pc' := 41) rfl rfl ?_
      refine xx_zreturn rfl rfl (by first | rfl | assumption | exact b01_bI | simp [ex_b01, bI]) ?_
      first | exact ⟨rfl, rfl⟩ | (exfalso; simp only [ex_P, Classical.not_not, bI_0, okMsg, isP, aT, aC, vT, vS, isC, Int32.lt_iff_toInt_lt, Int32.le_iff_toInt_le, ← Int32.toInt_inj, toI, Nat.reduceLT, Int32.toInt_zero] at *; omega)
    · refine xi_iload_n (pc' := 15) rfl rfl rfl ?_
      refine xi_iconst (pc' := 16) rfl rfl ?_
      refine xx_icmp (pc' := 19) (tg := 40) rfl rfl rfl (fun q16 => ?_) (fun q16 => ?_)
      · refine xi_iconst (pc' := 41) rfl rfl ?_
        refine xx_zreturn rfl rfl (by first | rfl | assumption | exact b01_bI | simp [ex_b01, bI]) ?_
        first | exact ⟨rfl, rfl⟩ | (exfalso; simp only [ex_P, Classical.not_not, bI_0, okMsg, isP, aT, aC, vT, vS, isC, Int32.lt_iff_toInt_lt, Int32.le_iff_toInt_le, ← Int32.toInt_inj, toI, Nat.reduceLT, Int32.toInt_zero] at *; omega)
      · refine xi_iload_n (pc' := 20) rfl rfl rfl ?_
        refine xx_callSi (pc' := 23) rfl rfl (by decide) rfl (Nat.le_of_ble_eq_true rfl) rfl rfl (c_isSub0 hs) ?_
        refine xi_ift (pc' := 40) rfl rfl (by decide) ?_
        refine xi_iconst (pc' := 41) rfl rfl ?_
        refine xx_zreturn rfl rfl (by first | rfl | assumption | exact b01_bI | simp [ex_b01, bI]) ?_
        first | exact ⟨rfl, rfl⟩ | (exfalso; simp only [ex_P, Classical.not_not, bI_0, okMsg, isP, aT, aC, vT, vS, isC, Int32.lt_iff_toInt_lt, Int32.le_iff_toInt_le, ← Int32.toInt_inj, toI, Nat.reduceLT, Int32.toInt_zero] at *; omega)
  · refine xi_iload_n (pc' := 6) rfl rfl rfl ?_
    refine xx_callSi (pc' := 9) rfl rfl (by decide) rfl (Nat.le_of_ble_eq_true rfl) rfl rfl (c_isMC0 hc) ?_
    refine xx_zreturn rfl rfl (by first | rfl | assumption | exact b01_bI | simp [ex_b01, bI]) ?_
    first | exact ⟨rfl, rfl⟩ | (exfalso; simp only [ex_P, Classical.not_not, bI_0, okMsg, isP, aT, aC, vT, vS, isC, Int32.lt_iff_toInt_lt, Int32.le_iff_toInt_le, ← Int32.toInt_inj, toI, Nat.reduceLT, Int32.toInt_zero] at *; omega)
theorem c_aC1 {L : Nat} {xs : Nat → Int32} {D n : Nat} {I J : ex_Mem} {kind s nn : Int32} (h : aC kind s nn) : ri L xs (D + 1) 17 [.int kind, .int s, .int nn] (mkH n I J) (nI 1) (mkH n I J) := by
  by_cases hs : vS s <;> by_cases hc : isC nn
  · exact c_aC1_11 h hs hc
  · exact c_aC1_10 h hs hc
  · exact c_aC1_01 h hs hc
  · exact c_aC1_00 h hs hc
theorem c_aT0_11 {L : Nat} {xs : Nat → Int32} {D n : Nat} {I J : ex_Mem} {kind x y : Int32} (h : ¬ aT kind x y) (hx : vT x) (hy : vT y) : ri L xs (D + 1) 16 [.int kind, .int x, .int y] (mkH n I J) (nI 0) (mkH n I J) := by
  show xx cb_G _ _ _ 16 0 [.int kind, .int x, .int y] [] _ _
  refine xi_iload_n (pc' := 1) rfl rfl rfl ?_
  refine xi_iconst (pc' := 2) rfl rfl ?_
  refine xx_icmp (pc' := 5) (tg := 7) rfl rfl rfl (fun q2 => ?_) (fun q2 => ?_)
  · refine xi_iload_n (pc' := 8) rfl rfl rfl ?_
    refine xi_iconst (pc' := 9) rfl rfl ?_
    refine xx_icmp (pc' := 12) (tg := 37) rfl rfl rfl (fun q9 => ?_) (fun q9 => ?_)
    · refine xi_iload_n (pc' := 38) rfl rfl rfl ?_
      refine xx_callSi (pc' := 41) rfl rfl (by decide) rfl (Nat.le_of_ble_eq_true rfl) rfl rfl (c_isTerminal1 hx) ?_
      refine xx_zreturn rfl rfl (by first | rfl | assumption | exact b01_bI | simp [ex_b01, bI]) ?_
      first | exact ⟨rfl, rfl⟩ | (exfalso; simp only [ex_P, Classical.not_not, bI_0, okMsg, isP, aT, aC, vT, vS, isC, Int32.lt_iff_toInt_lt, Int32.le_iff_toInt_le, ← Int32.toInt_inj, toI, Nat.reduceLT, Int32.toInt_zero] at *; omega)
    · refine xi_iload_n (pc' := 13) rfl rfl rfl ?_
      refine xx_callSi (pc' := 16) rfl rfl (by decide) rfl (Nat.le_of_ble_eq_true rfl) rfl rfl (c_isTerminal1 hx) ?_
      refine xi_iff (pc' := 19) (tg := 35) rfl rfl (by decide) rfl ?_
      refine xi_iload_n (pc' := 20) rfl rfl rfl ?_
      refine xx_callSi (pc' := 23) rfl rfl (by decide) rfl (Nat.le_of_ble_eq_true rfl) rfl rfl (c_isTerminal1 hy) ?_
      refine xi_iff (pc' := 26) (tg := 35) rfl rfl (by decide) rfl ?_
      refine xi_iload_n (pc' := 27) rfl rfl rfl ?_
      refine xi_iload_n (pc' := 28) rfl rfl rfl ?_
      refine xx_icmp (pc' := 31) (tg := 35) rfl rfl rfl (fun q28 => ?_) (fun q28 => ?_)
      · refine xi_iconst (pc' := 36) rfl rfl ?_
        refine xx_zreturn rfl rfl (by first | rfl | assumption | exact b01_bI | simp [ex_b01, bI]) ?_
        first | exact ⟨rfl, rfl⟩ | (exfalso; simp only [ex_P, Classical.not_not, bI_0, okMsg, isP, aT, aC, vT, vS, isC, Int32.lt_iff_toInt_lt, Int32.le_iff_toInt_le, ← Int32.toInt_inj, toI, Nat.reduceLT, Int32.toInt_zero] at *; omega)
      · refine xi_iconst (pc' := 32) rfl rfl ?_
        refine xi_goto (pc' := 36) rfl rfl ?_
        refine xx_zreturn rfl rfl (by first | rfl | assumption | exact b01_bI | simp [ex_b01, bI]) ?_
        first | exact ⟨rfl, rfl⟩ | (exfalso; simp only [ex_P, Classical.not_not, bI_0, okMsg, isP, aT, aC, vT, vS, isC, Int32.lt_iff_toInt_lt, Int32.le_iff_toInt_le, ← Int32.toInt_inj, toI, Nat.reduceLT, Int32.toInt_zero] at *; omega)
  · refine xi_iconst (pc' := 6) rfl rfl ?_
    refine xx_zreturn rfl rfl (by first | rfl | assumption | exact b01_bI | simp [ex_b01, bI]) ?_
    first | exact ⟨rfl, rfl⟩ | (exfalso; simp only [ex_P, Classical.not_not, bI_0, okMsg, isP, aT, aC, vT, vS, isC, Int32.lt_iff_toInt_lt, Int32.le_iff_toInt_le, ← Int32.toInt_inj, toI, Nat.reduceLT, Int32.toInt_zero] at *; omega)
theorem c_aT0_10 {L : Nat} {xs : Nat → Int32} {D n : Nat} {I J : ex_Mem} {kind x y : Int32} (h : ¬ aT kind x y) (hx : vT x) (hy : ¬ vT y) : ri L xs (D + 1) 16 [.int kind, .int x, .int y] (mkH n I J) (nI 0) (mkH n I J) := by
  show xx cb_G _ _ _ 16 0 [.int kind, .int x, .int y] [] _ _
  refine xi_iload_n (pc' := 1) rfl rfl rfl ?_
  refine xi_iconst (pc' := 2) rfl rfl ?_
  refine xx_icmp (pc' := 5) (tg := 7) rfl rfl rfl (fun q2 => ?_) (fun q2 => ?_)
  · refine xi_iload_n (pc' := 8) rfl rfl rfl ?_
    refine xi_iconst (pc' := 9) rfl rfl ?_
    refine xx_icmp (pc' := 12) (tg := 37) rfl rfl rfl (fun q9 => ?_) (fun q9 => ?_)
    · refine xi_iload_n (pc' := 38) rfl rfl rfl ?_
      refine xx_callSi (pc' := 41) rfl rfl (by decide) rfl (Nat.le_of_ble_eq_true rfl) rfl rfl (c_isTerminal1 hx) ?_
      refine xx_zreturn rfl rfl (by first | rfl | assumption | exact b01_bI | simp [ex_b01, bI]) ?_
      first | exact ⟨rfl, rfl⟩ | (exfalso; simp only [ex_P, Classical.not_not, bI_0, okMsg, isP, aT, aC, vT, vS, isC, Int32.lt_iff_toInt_lt, Int32.le_iff_toInt_le, ← Int32.toInt_inj, toI, Nat.reduceLT, Int32.toInt_zero] at *; omega)
    · refine xi_iload_n (pc' := 13) rfl rfl rfl ?_
      refine xx_callSi (pc' := 16) rfl rfl (by decide) rfl (Nat.le_of_ble_eq_true rfl) rfl rfl (c_isTerminal1 hx) ?_
      refine xi_iff (pc' := 19) (tg := 35) rfl rfl (by decide) rfl ?_
      refine xi_iload_n (pc' := 20) rfl rfl rfl ?_
      refine xx_callSi (pc' := 23) rfl rfl (by decide) rfl (Nat.le_of_ble_eq_true rfl) rfl rfl (c_isTerminal0 hy) ?_
      refine xi_ift (pc' := 35) rfl rfl (by decide) ?_
      refine xi_iconst (pc' := 36) rfl rfl ?_
      refine xx_zreturn rfl rfl (by first | rfl | assumption | exact b01_bI | simp [ex_b01, bI]) ?_
      first | exact ⟨rfl, rfl⟩ | (exfalso; simp only [ex_P, Classical.not_not, bI_0, okMsg, isP, aT, aC, vT, vS, isC, Int32.lt_iff_toInt_lt, Int32.le_iff_toInt_le, ← Int32.toInt_inj, toI, Nat.reduceLT, Int32.toInt_zero] at *; omega)
  · refine xi_iconst (pc' := 6) rfl rfl ?_
    refine xx_zreturn rfl rfl (by first | rfl | assumption | exact b01_bI | simp [ex_b01, bI]) ?_
    first | exact ⟨rfl, rfl⟩ | (exfalso; simp only [ex_P, Classical.not_not, bI_0, okMsg, isP, aT, aC, vT, vS, isC, Int32.lt_iff_toInt_lt, Int32.le_iff_toInt_le, ← Int32.toInt_inj, toI, Nat.reduceLT, Int32.toInt_zero] at *; omega)
theorem c_aT0_01 {L : Nat} {xs : Nat → Int32} {D n : Nat} {I J : ex_Mem} {kind x y : Int32} (h : ¬ aT kind x y) (hx : ¬ vT x) (hy : vT y) : ri L xs (D + 1) 16 [.int kind, .int x, .int y] (mkH n I J) (nI 0) (mkH n I J) := by
  show xx cb_G _ _ _ 16 0 [.int kind, .int x, .int y] [] _ _
  refine xi_iload_n (pc' := 1) rfl rfl rfl ?_
  refine xi_iconst (pc' := 2) rfl rfl ?_
  refine xx_icmp (pc' := 5) (tg := 7) rfl rfl rfl (fun q2 => ?_) (fun q2 => ?_)
  · refine xi_iload_n (pc' := 8) rfl rfl rfl ?_
    refine xi_iconst (pc' := 9) rfl rfl ?_
    refine xx_icmp (pc' := 12) (tg := 37) rfl rfl rfl (fun q9 => ?_) (fun q9 => ?_)
    · refine xi_iload_n (pc' := 38) rfl rfl rfl ?_
      refine xx_callSi (pc' := 41) rfl rfl (by decide) rfl (Nat.le_of_ble_eq_true rfl) rfl rfl (c_isTerminal0 hx) ?_
      refine xx_zreturn rfl rfl (by first | rfl | assumption | exact b01_bI | simp [ex_b01, bI]) ?_
      first | exact ⟨rfl, rfl⟩ | (exfalso; simp only [ex_P, Classical.not_not, bI_0, okMsg, isP, aT, aC, vT, vS, isC, Int32.lt_iff_toInt_lt, Int32.le_iff_toInt_le, ← Int32.toInt_inj, toI, Nat.reduceLT, Int32.toInt_zero] at *; omega)
    · refine xi_iload_n (pc' := 13) rfl rfl rfl ?_
      refine xx_callSi (pc' := 16) rfl rfl (by decide) rfl (Nat.le_of_ble_eq_true rfl) rfl rfl (c_isTerminal0 hx) ?_
      refine xi_ift (pc' := 35) rfl rfl (by decide) ?_
      refine xi_iconst (pc' := 36) rfl rfl ?_
      refine xx_zreturn rfl rfl (by first | rfl | assumption | exact b01_bI | simp [ex_b01, bI]) ?_
      first | exact ⟨rfl, rfl⟩ | (exfalso; simp only [ex_P, Classical.not_not, bI_0, okMsg, isP, aT, aC, vT, vS, isC, Int32.lt_iff_toInt_lt, Int32.le_iff_toInt_le, ← Int32.toInt_inj, toI, Nat.reduceLT, Int32.toInt_zero] at *; omega)
  · refine xi_iconst (pc' := 6) rfl rfl ?_
    refine xx_zreturn rfl rfl (by first | rfl | assumption | exact b01_bI | simp [ex_b01, bI]) ?_
    first | exact ⟨rfl, rfl⟩ | (exfalso; simp only [ex_P, Classical.not_not, bI_0, okMsg, isP, aT, aC, vT, vS, isC, Int32.lt_iff_toInt_lt, Int32.le_iff_toInt_le, ← Int32.toInt_inj, toI, Nat.reduceLT, Int32.toInt_zero] at *; omega)
theorem c_aT0_00 {L : Nat} {xs : Nat → Int32} {D n : Nat} {I J : ex_Mem} {kind x y : Int32} (h : ¬ aT kind x y) (hx : ¬ vT x) (hy : ¬ vT y) : ri L xs (D + 1) 16 [.int kind, .int x, .int y] (mkH n I J) (nI 0) (mkH n I J) := by
  show xx cb_G _ _ _ 16 0 [.int kind, .int x, .int y] [] _ _
  refine xi_iload_n (pc' := 1) rfl rfl rfl ?_
  refine xi_iconst (pc' := 2) rfl rfl ?_
  refine xx_icmp (pc' := 5) (tg := 7) rfl rfl rfl (fun q2 => ?_) (fun q2 => ?_)
  · refine xi_iload_n (pc' := 8) rfl rfl rfl ?_
    refine xi_iconst (pc' := 9) rfl rfl ?_
    refine xx_icmp (pc' := 12) (tg := 37) rfl rfl rfl (fun q9 => ?_) (fun q9 => ?_)
    · refine xi_iload_n (pc' := 38) rfl rfl rfl ?_
      refine xx_callSi (pc' := 41) rfl rfl (by decide) rfl (Nat.le_of_ble_eq_true rfl) rfl rfl (c_isTerminal0 hx) ?_
      refine xx_zreturn rfl rfl (by first | rfl | assumption | exact b01_bI | simp [ex_b01, bI]) ?_
      first | exact ⟨rfl, rfl⟩ | (exfalso; simp only [ex_P, Classical.not_not, bI_0, okMsg, isP, aT, aC, vT, vS, isC, Int32.lt_iff_toInt_lt, Int32.le_iff_toInt_le, ← Int32.toInt_inj, toI, Nat.reduceLT, Int32.toInt_zero] at *; omega)
    · refine xi_iload_n (pc' := 13) rfl rfl rfl ?_
      refine xx_callSi (pc' := 16) rfl rfl (by decide) rfl (Nat.le_of_ble_eq_true rfl) rfl rfl (c_isTerminal0 hx) ?_
      refine xi_ift (pc' := 35) rfl rfl (by decide) ?_
      refine xi_iconst (pc' := 36) rfl rfl ?_
      refine xx_zreturn rfl rfl (by first | rfl | assumption | exact b01_bI | simp [ex_b01, bI]) ?_
      first | exact ⟨rfl, rfl⟩ | (exfalso; simp only [ex_P, Classical.not_not, bI_0, okMsg, isP, aT, aC, vT, vS, isC, Int32.lt_iff_toInt_lt, Int32.le_iff_toInt_le, ← Int32.toInt_inj, toI, Nat.reduceLT, Int32.toInt_zero] at *; omega)
  · refine xi_iconst (pc' := 6) rfl rfl ?_
    refine xx_zreturn rfl rfl (by first | rfl | assumption | exact b01_bI | simp [ex_b01, bI]) ?_
    first | exact ⟨rfl, rfl⟩ | (exfalso; simp only [ex_P, Classical.not_not, bI_0, okMsg, isP, aT, aC, vT, vS, isC, Int32.lt_iff_toInt_lt, Int32.le_iff_toInt_le, ← Int32.toInt_inj, toI, Nat.reduceLT, Int32.toInt_zero] at *; omega)
theorem c_aT0 {L : Nat} {xs : Nat → Int32} {D n : Nat} {I J : ex_Mem} {kind x y : Int32} (h : ¬ aT kind x y) : ri L xs (D + 1) 16 [.int kind, .int x, .int y] (mkH n I J) (nI 0) (mkH n I J) := by
  by_cases hx : vT x <;> by_cases hy : vT y
  · exact c_aT0_11 h hx hy
  · exact c_aT0_10 h hx hy
  · exact c_aT0_01 h hx hy
  · exact c_aT0_00 h hx hy
theorem c_aC0_11 {L : Nat} {xs : Nat → Int32} {D n : Nat} {I J : ex_Mem} {kind s nn : Int32} (h : ¬ aC kind s nn) (hs : vS s) (hc : isC nn) : ri L xs (D + 1) 17 [.int kind, .int s, .int nn] (mkH n I J) (nI 0) (mkH n I J) := by
  show xx cb_G _ _ _ 17 0 [.int kind, .int s, .int nn] [] _ _
  refine xi_iload_n (pc' := 1) rfl rfl rfl ?_
  refine xi_iconst (pc' := 2) rfl rfl ?_
  refine xx_icmp (pc' := 5) (tg := 10) rfl rfl rfl (fun q2 => ?_) (fun q2 => ?_)
  · refine xi_iload_n (pc' := 11) rfl rfl rfl ?_
    refine xx_if (pc' := 14) (tg := 40) rfl rfl rfl (fun q11 => ?_) (fun q11 => ?_)
    · refine xi_iconst (pc' := 41) rfl rfl ?_
      refine xx_zreturn rfl rfl (by first | rfl | assumption | exact b01_bI | simp [ex_b01, bI]) ?_
      first | exact ⟨rfl, rfl⟩ | (exfalso; simp only [ex_P, Classical.not_not, bI_0, okMsg, isP, aT, aC, vT, vS, isC, Int32.lt_iff_toInt_lt, Int32.le_iff_toInt_le, ← Int32.toInt_inj, toI, Nat.reduceLT, Int32.toInt_zero] at *; omega)
    · refine xi_iload_n (pc' := 15) rfl rfl rfl ?_
      refine xi_iconst (pc' := 16) rfl rfl ?_
      refine xx_icmp (pc' := 19) (tg := 40) rfl rfl rfl (fun q16 => ?_) (fun q16 => ?_)
      · refine xi_iconst (pc' := 41) rfl rfl ?_
        refine xx_zreturn rfl rfl (by first | rfl | assumption | exact b01_bI | simp [ex_b01, bI]) ?_
        first | exact ⟨rfl, rfl⟩ | (exfalso; simp only [ex_P, Classical.not_not, bI_0, okMsg, isP, aT, aC, vT, vS, isC, Int32.lt_iff_toInt_lt, Int32.le_iff_toInt_le, ← Int32.toInt_inj, toI, Nat.reduceLT, Int32.toInt_zero] at *; omega)
      · refine xi_iload_n (pc' := 20) rfl rfl rfl ?_
        refine xx_callSi (pc' := 23) rfl rfl (by decide) rfl (Nat.le_of_ble_eq_true rfl) rfl rfl (c_isSub1 hs) ?_
        refine xi_iff (pc' := 26) (tg := 40) rfl rfl (by decide) rfl ?_
        refine xi_iload_n (pc' := 27) rfl rfl rfl ?_
        refine xi_iconst (pc' := 28) rfl rfl ?_
        refine xx_icmp (pc' := 31) (tg := 40) rfl rfl rfl (fun q28 => ?_) (fun q28 => ?_)
        · refine xi_iconst (pc' := 41) rfl rfl ?_
          refine xx_zreturn rfl rfl (by first | rfl | assumption | exact b01_bI | simp [ex_b01, bI]) ?_
          first | exact ⟨rfl, rfl⟩ | (exfalso; simp only [ex_P, Classical.not_not, bI_0, okMsg, isP, aT, aC, vT, vS, isC, Int32.lt_iff_toInt_lt, Int32.le_iff_toInt_le, ← Int32.toInt_inj, toI, Nat.reduceLT, Int32.toInt_zero] at *; omega)
        · refine xi_iload_n (pc' := 32) rfl rfl rfl ?_
          refine xi_iconst (pc' := 33) rfl rfl ?_
          refine xx_icmp (pc' := 36) (tg := 40) rfl rfl rfl (fun q33 => ?_) (fun q33 => ?_)
          · refine xi_iconst (pc' := 41) rfl rfl ?_
            refine xx_zreturn rfl rfl (by first | rfl | assumption | exact b01_bI | simp [ex_b01, bI]) ?_
            first | exact ⟨rfl, rfl⟩ | (exfalso; simp only [ex_P, Classical.not_not, bI_0, okMsg, isP, aT, aC, vT, vS, isC, Int32.lt_iff_toInt_lt, Int32.le_iff_toInt_le, ← Int32.toInt_inj, toI, Nat.reduceLT, Int32.toInt_zero] at *; omega)
          · refine xi_iconst (pc' := 37) rfl rfl ?_
            refine xi_goto (pc' := 41) rfl rfl ?_
            refine xx_zreturn rfl rfl (by first | rfl | assumption | exact b01_bI | simp [ex_b01, bI]) ?_
            first | exact ⟨rfl, rfl⟩ | (exfalso; simp only [ex_P, Classical.not_not, bI_0, okMsg, isP, aT, aC, vT, vS, isC, Int32.lt_iff_toInt_lt, Int32.le_iff_toInt_le, ← Int32.toInt_inj, toI, Nat.reduceLT, Int32.toInt_zero] at *; omega)
  · refine xi_iload_n (pc' := 6) rfl rfl rfl ?_
    refine xx_callSi (pc' := 9) rfl rfl (by decide) rfl (Nat.le_of_ble_eq_true rfl) rfl rfl (c_isMC1 hc) ?_
    refine xx_zreturn rfl rfl (by first | rfl | assumption | exact b01_bI | simp [ex_b01, bI]) ?_
    first | exact ⟨rfl, rfl⟩ | (exfalso; simp only [ex_P, Classical.not_not, bI_0, okMsg, isP, aT, aC, vT, vS, isC, Int32.lt_iff_toInt_lt, Int32.le_iff_toInt_le, ← Int32.toInt_inj, toI, Nat.reduceLT, Int32.toInt_zero] at *; omega)
theorem c_aC0_10 {L : Nat} {xs : Nat → Int32} {D n : Nat} {I J : ex_Mem} {kind s nn : Int32} (h : ¬ aC kind s nn) (hs : vS s) (hc : ¬ isC nn) : ri L xs (D + 1) 17 [.int kind, .int s, .int nn] (mkH n I J) (nI 0) (mkH n I J) := by
  show xx cb_G _ _ _ 17 0 [.int kind, .int s, .int nn] [] _ _
  refine xi_iload_n (pc' := 1) rfl rfl rfl ?_
  refine xi_iconst (pc' := 2) rfl rfl ?_
  refine xx_icmp (pc' := 5) (tg := 10) rfl rfl rfl (fun q2 => ?_) (fun q2 => ?_)
  · refine xi_iload_n (pc' := 11) rfl rfl rfl ?_
    refine xx_if (pc' := 14) (tg := 40) rfl rfl rfl (fun q11 => ?_) (fun q11 => ?_)
    · refine xi_iconst (pc' := 41) rfl rfl ?_
      refine xx_zreturn rfl rfl (by first | rfl | assumption | exact b01_bI | simp [ex_b01, bI]) ?_
      first | exact ⟨rfl, rfl⟩ | (exfalso; simp only [ex_P, Classical.not_not, bI_0, okMsg, isP, aT, aC, vT, vS, isC, Int32.lt_iff_toInt_lt, Int32.le_iff_toInt_le, ← Int32.toInt_inj, toI, Nat.reduceLT, Int32.toInt_zero] at *; omega)
    · refine xi_iload_n (pc' := 15) rfl rfl rfl ?_
      refine xi_iconst (pc' := 16) rfl rfl ?_
      refine xx_icmp (pc' := 19) (tg := 40) rfl rfl rfl (fun q16 => ?_) (fun q16 => ?_)
      · refine xi_iconst (pc' := 41) rfl rfl ?_
        refine xx_zreturn rfl rfl (by first | rfl | assumption | exact b01_bI | simp [ex_b01, bI]) ?_
        first | exact ⟨rfl, rfl⟩ | (exfalso; simp only [ex_P, Classical.not_not, bI_0, okMsg, isP, aT, aC, vT, vS, isC, Int32.lt_iff_toInt_lt, Int32.le_iff_toInt_le, ← Int32.toInt_inj, toI, Nat.reduceLT, Int32.toInt_zero] at *; omega)
      · refine xi_iload_n (pc' := 20) rfl rfl rfl ?_
        refine xx_callSi (pc' := 23) rfl rfl (by decide) rfl (Nat.le_of_ble_eq_true rfl) rfl rfl (c_isSub1 hs) ?_
        refine xi_iff (pc' := 26) (tg := 40) rfl rfl (by decide) rfl ?_
        refine xi_iload_n (pc' := 27) rfl rfl rfl ?_
        refine xi_iconst (pc' := 28) rfl rfl ?_
        refine xx_icmp (pc' := 31) (tg := 40) rfl rfl rfl (fun q28 => ?_) (fun q28 => ?_)
        · refine xi_iconst (pc' := 41) rfl rfl ?_
          refine xx_zreturn rfl rfl (by first | rfl | assumption | exact b01_bI | simp [ex_b01, bI]) ?_
          first | exact ⟨rfl, rfl⟩ | (exfalso; simp only [ex_P, Classical.not_not, bI_0, okMsg, isP, aT, aC, vT, vS, isC, Int32.lt_iff_toInt_lt, Int32.le_iff_toInt_le, ← Int32.toInt_inj, toI, Nat.reduceLT, Int32.toInt_zero] at *; omega)
        · refine xi_iload_n (pc' := 32) rfl rfl rfl ?_
          refine xi_iconst (pc' := 33) rfl rfl ?_
          refine xx_icmp (pc' := 36) (tg := 40) rfl rfl rfl (fun q33 => ?_) (fun q33 => ?_)
          · refine xi_iconst (pc' := 41) rfl rfl ?_
            refine xx_zreturn rfl rfl (by first | rfl | assumption | exact b01_bI | simp [ex_b01, bI]) ?_
            first | exact ⟨rfl, rfl⟩ | (exfalso; simp only [ex_P, Classical.not_not, bI_0, okMsg, isP, aT, aC, vT, vS, isC, Int32.lt_iff_toInt_lt, Int32.le_iff_toInt_le, ← Int32.toInt_inj, toI, Nat.reduceLT, Int32.toInt_zero] at *; omega)
          · refine xi_iconst (pc' := 37) rfl rfl ?_
            refine xi_goto (pc' := 41) rfl rfl ?_
            refine xx_zreturn rfl rfl (by first | rfl | assumption | exact b01_bI | simp [ex_b01, bI]) ?_
            first | exact ⟨rfl, rfl⟩ | (exfalso; simp only [ex_P, Classical.not_not, bI_0, okMsg, isP, aT, aC, vT, vS, isC, Int32.lt_iff_toInt_lt, Int32.le_iff_toInt_le, ← Int32.toInt_inj, toI, Nat.reduceLT, Int32.toInt_zero] at *; omega)
  · refine xi_iload_n (pc' := 6) rfl rfl rfl ?_
    refine xx_callSi (pc' := 9) rfl rfl (by decide) rfl (Nat.le_of_ble_eq_true rfl) rfl rfl (c_isMC0 hc) ?_
    refine xx_zreturn rfl rfl (by first | rfl | assumption | exact b01_bI | simp [ex_b01, bI]) ?_
    first | exact ⟨rfl, rfl⟩ | (exfalso; simp only [ex_P, Classical.not_not, bI_0, okMsg, isP, aT, aC, vT, vS, isC, Int32.lt_iff_toInt_lt, Int32.le_iff_toInt_le, ← Int32.toInt_inj, toI, Nat.reduceLT, Int32.toInt_zero] at *; omega)
theorem c_aC0_01 {L : Nat} {xs : Nat → Int32} {D n : Nat} {I J : ex_Mem} {kind s nn : Int32} (h : ¬ aC kind s nn) (hs : ¬ vS s) (hc : isC nn) : ri L xs (D + 1) 17 [.int kind, .int s, .int nn] (mkH n I J) (nI 0) (mkH n I J) := by
  show xx cb_G _ _ _ 17 0 [.int kind, .int s, .int nn] [] _ _
  refine xi_iload_n (pc' := 1) rfl rfl rfl ?_
  refine xi_iconst (pc' := 2) rfl rfl ?_
  refine xx_icmp (pc' := 5) (tg := 10) rfl rfl rfl (fun q2 => ?_) (fun q2 => ?_)
  · refine xi_iload_n (pc' := 11) rfl rfl rfl ?_
    refine xx_if (pc' := 14) (tg := 40) rfl rfl rfl (fun q11 => ?_) (fun q11 => ?_)
    · refine xi_iconst (pc' := 41) rfl rfl ?_
      refine xx_zreturn rfl rfl (by first | rfl | assumption | exact b01_bI | simp [ex_b01, bI]) ?_
      first | exact ⟨rfl, rfl⟩ | (exfalso; simp only [ex_P, Classical.not_not, bI_0, okMsg, isP, aT, aC, vT, vS, isC, Int32.lt_iff_toInt_lt, Int32.le_iff_toInt_le, ← Int32.toInt_inj, toI, Nat.reduceLT, Int32.toInt_zero] at *; omega)
    · refine xi_iload_n (pc' := 15) rfl rfl rfl ?_
      refine xi_iconst (pc' := 16) rfl rfl ?_
      refine xx_icmp (pc' := 19) (tg := 40) rfl rfl rfl (fun q16 => ?_) (fun q16 => ?_)
      · refine xi_iconst (pc' := 41) rfl rfl ?_
        refine xx_zreturn rfl rfl (by first | rfl | assumption | exact b01_bI | simp [ex_b01, bI]) ?_
        first | exact ⟨rfl, rfl⟩ | (exfalso; simp only [ex_P, Classical.not_not, bI_0, okMsg, isP, aT, aC, vT, vS, isC, Int32.lt_iff_toInt_lt, Int32.le_iff_toInt_le, ← Int32.toInt_inj, toI, Nat.reduceLT, Int32.toInt_zero] at *; omega)
      · refine xi_iload_n (pc' := 20) rfl rfl rfl ?_
        refine xx_callSi (pc' := 23) rfl rfl (by decide) rfl (Nat.le_of_ble_eq_true rfl) rfl rfl (c_isSub0 hs) ?_
        refine xi_ift (pc' := 40) rfl rfl (by decide) ?_
        refine xi_iconst (pc' := 41) rfl rfl ?_
        refine xx_zreturn rfl rfl (by first | rfl | assumption | exact b01_bI | simp [ex_b01, bI]) ?_
        first | exact ⟨rfl, rfl⟩ | (exfalso; simp only [ex_P, Classical.not_not, bI_0, okMsg, isP, aT, aC, vT, vS, isC, Int32.lt_iff_toInt_lt, Int32.le_iff_toInt_le, ← Int32.toInt_inj, toI, Nat.reduceLT, Int32.toInt_zero] at *; omega)
  · refine xi_iload_n (pc' := 6) rfl rfl rfl ?_
    refine xx_callSi (pc' := 9) rfl rfl (by decide) rfl (Nat.le_of_ble_eq_true rfl) rfl rfl (c_isMC1 hc) ?_
    refine xx_zreturn rfl rfl (by first | rfl | assumption | exact b01_bI | simp [ex_b01, bI]) ?_
    first | exact ⟨rfl, rfl⟩ | (exfalso; simp only [ex_P, Classical.not_not, bI_0, okMsg, isP, aT, aC, vT, vS, isC, Int32.lt_iff_toInt_lt, Int32.le_iff_toInt_le, ← Int32.toInt_inj, toI, Nat.reduceLT, Int32.toInt_zero] at *; omega)
theorem c_aC0_00 {L : Nat} {xs : Nat → Int32} {D n : Nat} {I J : ex_Mem} {kind s nn : Int32} (h : ¬ aC kind s nn) (hs : ¬ vS s) (hc : ¬ isC nn) : ri L xs (D + 1) 17 [.int kind, .int s, .int nn] (mkH n I J) (nI 0) (mkH n I J) := by
  show xx cb_G _ _ _ 17 0 [.int kind, .int s, .int nn] [] _ _
  refine xi_iload_n (pc' := 1) rfl rfl rfl ?_
  refine xi_iconst (pc' := 2) rfl rfl ?_
  refine xx_icmp (pc' := 5) (tg := 10) rfl rfl rfl (fun q2 => ?_) (fun q2 => ?_)
  · refine xi_iload_n (pc' := 11) rfl rfl rfl ?_
    refine xx_if (pc' := 14) (tg := 40) rfl rfl rfl (fun q11 => ?_) (fun q11 => ?_)
    · refine xi_iconst (pc' := 41) rfl rfl ?_
      refine xx_zreturn rfl rfl (by first | rfl | assumption | exact b01_bI | simp [ex_b01, bI]) ?_
      first | exact ⟨rfl, rfl⟩ | (exfalso; simp only [ex_P, Classical.not_not, bI_0, okMsg, isP, aT, aC, vT, vS, isC, Int32.lt_iff_toInt_lt, Int32.le_iff_toInt_le, ← Int32.toInt_inj, toI, Nat.reduceLT, Int32.toInt_zero] at *; omega)
    · refine xi_iload_n (pc' := 15) rfl rfl rfl ?_
      refine xi_iconst (pc' := 16) rfl rfl ?_
      refine xx_icmp (pc' := 19) (tg := 40) rfl rfl rfl (fun q16 => ?_) (fun q16 => ?_)
      · refine xi_iconst (pc' := 41) rfl rfl ?_
        refine xx_zreturn rfl rfl (by first | rfl | assumption | exact b01_bI | simp [ex_b01, bI]) ?_
        first | exact ⟨rfl, rfl⟩ | (exfalso; simp only [ex_P, Classical.not_not, bI_0, okMsg, isP, aT, aC, vT, vS, isC, Int32.lt_iff_toInt_lt, Int32.le_iff_toInt_le, ← Int32.toInt_inj, toI, Nat.reduceLT, Int32.toInt_zero] at *; omega)
      · refine xi_iload_n (pc' := 20) rfl rfl rfl ?_
        refine xx_callSi (pc' := 23) rfl rfl (by decide) rfl (Nat.le_of_ble_eq_true rfl) rfl rfl (c_isSub0 hs) ?_
        refine xi_ift (pc' := 40) rfl rfl (by decide) ?_
        refine xi_iconst (pc' := 41) rfl rfl ?_
        refine xx_zreturn rfl rfl (by first | rfl | assumption | exact b01_bI | simp [ex_b01, bI]) ?_
        first | exact ⟨rfl, rfl⟩ | (exfalso; simp only [ex_P, Classical.not_not, bI_0, okMsg, isP, aT, aC, vT, vS, isC, Int32.lt_iff_toInt_lt, Int32.le_iff_toInt_le, ← Int32.toInt_inj, toI, Nat.reduceLT, Int32.toInt_zero] at *; omega)
  · refine xi_iload_n (pc' := 6) rfl rfl rfl ?_
    refine xx_callSi (pc' := 9) rfl rfl (by decide) rfl (Nat.le_of_ble_eq_true rfl) rfl rfl (c_isMC0 hc) ?_
    refine xx_zreturn rfl rfl (by first | rfl | assumption | exact b01_bI | simp [ex_b01, bI]) ?_
    first | exact ⟨rfl, rfl⟩ | (exfalso; simp only [ex_P, Classical.not_not, bI_0, okMsg, isP, aT, aC, vT, vS, isC, Int32.lt_iff_toInt_lt, Int32.le_iff_toInt_le, ← Int32.toInt_inj, toI, Nat.reduceLT, Int32.toInt_zero] at *; omega)
theorem c_aC0 {L : Nat} {xs : Nat → Int32} {D n : Nat} {I J : ex_Mem} {kind s nn : Int32} (h : ¬ aC kind s nn) : ri L xs (D + 1) 17 [.int kind, .int s, .int nn] (mkH n I J) (nI 0) (mkH n I J) := by
  by_cases hs : vS s <;> by_cases hc : isC nn
  · exact c_aC0_11 h hs hc
  · exact c_aC0_10 h hs hc
  · exact c_aC0_01 h hs hc
  · exact c_aC0_00 h hs hc
theorem c_isFor {L : Nat} {xs : Nat → Int32} {D n : Nat} {I J : ex_Mem} {m t : Nat} (h8 : n ≤ 8) (hm : m < n) : ri L xs D 79 [.ref (81 + 2 * m), .int (nI t)] (mkH n I J) (q_for I m t) (mkH n I J) := by
  show xx cb_G _ _ _ 79 0 [.ref (81 + 2 * m), .int (nI t)] [] _ _
  refine xi_aload_n (pc' := 1) rfl rfl rfl ?_
  refine xc_geti (pc' := 4) rfl rfl (by decide) (kd_M0 (Nat.lt_of_lt_of_le hm h8)) (by omega) (by omega) (by decide) (by decide) rfl ?_
  refine xi_iconst (pc' := 5) rfl rfl ?_
  refine xx_icmp (pc' := 8) (tg := 10) rfl rfl rfl (fun q5 => ?_) (fun q5 => ?_)
  · refine xi_iload_n (pc' := 11) rfl rfl rfl ?_
    refine xi_aload_n (pc' := 12) rfl rfl rfl ?_
    refine xc_geti (pc' := 15) rfl rfl (by decide) (kd_M0 (Nat.lt_of_lt_of_le hm h8)) (by omega) (by omega) (by decide) (by decide) rfl ?_
    refine xx_icmp (pc' := 18) (tg := 34) rfl rfl rfl (fun q15 => ?_) (fun q15 => ?_)
    · refine xi_iconst (pc' := 35) rfl rfl ?_
      refine xi_goto (pc' := 39) rfl rfl ?_
      refine xx_zreturn rfl rfl (by first | rfl | assumption | exact b01_bI | simp [ex_b01, bI]) ?_
      refine ⟨congrArg (fun v => some (Value.int v)) ?_, rfl⟩
      unfold q_for
      simp only [ex_P, Classical.not_not] at *
      first | (rw [if_pos q5]; done) | (rw [if_neg q5, if_pos q15]; done) | (rw [if_neg q5, if_neg q15, if_neg q23]; done) | (rw [if_neg q5, if_neg q15, if_pos q23, if_pos q31]; done) | (rw [if_neg q5, if_neg q15, if_pos q23, if_neg q31]; done)
    · refine xi_aload_n (pc' := 19) rfl rfl rfl ?_
      refine xc_geti (pc' := 22) rfl rfl (by decide) (kd_M0 (Nat.lt_of_lt_of_le hm h8)) (by omega) (by omega) (by decide) (by decide) rfl ?_
      refine xi_iconst (pc' := 23) rfl rfl ?_
      refine xx_icmp (pc' := 26) (tg := 38) rfl rfl rfl (fun q23 => ?_) (fun q23 => ?_)
      · refine xi_iconst (pc' := 39) rfl rfl ?_
        refine xx_zreturn rfl rfl (by first | rfl | assumption | exact b01_bI | simp [ex_b01, bI]) ?_
        refine ⟨congrArg (fun v => some (Value.int v)) ?_, rfl⟩
        unfold q_for
        simp only [ex_P, Classical.not_not] at *
        first | (rw [if_pos q5]; done) | (rw [if_neg q5, if_pos q15]; done) | (rw [if_neg q5, if_neg q15, if_neg q23]; done) | (rw [if_neg q5, if_neg q15, if_pos q23, if_pos q31]; done) | (rw [if_neg q5, if_neg q15, if_pos q23, if_neg q31]; done)
      · refine xi_iload_n (pc' := 27) rfl rfl rfl ?_
        refine xi_aload_n (pc' := 28) rfl rfl rfl ?_
        refine xc_geti (pc' := 31) rfl rfl (by decide) (kd_M0 (Nat.lt_of_lt_of_le hm h8)) (by omega) (by omega) (by decide) (by decide) rfl ?_
        refine xx_icmp (pc' := 34) (tg := 38) rfl rfl rfl (fun q31 => ?_) (fun q31 => ?_)
        · refine xi_iconst (pc' := 39) rfl rfl ?_
          refine xx_zreturn rfl rfl (by first | rfl | assumption | exact b01_bI | simp [ex_b01, bI]) ?_
          refine ⟨congrArg (fun v => some (Value.int v)) ?_, rfl⟩
          unfold q_for
          simp only [ex_P, Classical.not_not] at *
          first | (rw [if_pos q5]; done) | (rw [if_neg q5, if_pos q15]; done) | (rw [if_neg q5, if_neg q15, if_neg q23]; done) | (rw [if_neg q5, if_neg q15, if_pos q23, if_pos q31]; done) | (rw [if_neg q5, if_neg q15, if_pos q23, if_neg q31]; done)
        · refine xi_iconst (pc' := 35) rfl rfl ?_
          refine xi_goto (pc' := 39) rfl rfl ?_
          refine xx_zreturn rfl rfl (by first | rfl | assumption | exact b01_bI | simp [ex_b01, bI]) ?_
          refine ⟨congrArg (fun v => some (Value.int v)) ?_, rfl⟩
          unfold q_for
          simp only [ex_P, Classical.not_not] at *
          first | (rw [if_pos q5]; done) | (rw [if_neg q5, if_pos q15]; done) | (rw [if_neg q5, if_neg q15, if_neg q23]; done) | (rw [if_neg q5, if_neg q15, if_pos q23, if_pos q31]; done) | (rw [if_neg q5, if_neg q15, if_pos q23, if_neg q31]; done)
  · refine xi_iconst (pc' := 9) rfl rfl ?_
    refine xx_zreturn rfl rfl (by first | rfl | assumption | exact b01_bI | simp [ex_b01, bI]) ?_
    refine ⟨congrArg (fun v => some (Value.int v)) ?_, rfl⟩
    unfold q_for
    simp only [ex_P, Classical.not_not] at *
    first | (rw [if_pos q5]; done) | (rw [if_neg q5, if_pos q15]; done) | (rw [if_neg q5, if_neg q15, if_neg q23]; done) | (rw [if_neg q5, if_neg q15, if_pos q23, if_pos q31]; done) | (rw [if_neg q5, if_neg q15, if_pos q23, if_neg q31]; done)
theorem c_isAt {L : Nat} {xs : Nat → Int32} {D n : Nat} {I J : ex_Mem} {m f : Nat} {ph : Int32} (h8 : n ≤ 8) (hm : m < n) : ri L xs D 73 [.ref (81 + 2 * m), .int ph, .int (nI f)] (mkH n I J) (if nI f &&& (I (81 + 2 * m) 5 - nI 1) = ph then nI 1 else nI 0) (mkH n I J) := by
  show xx cb_G _ _ _ 73 0 [.ref (81 + 2 * m), .int ph, .int (nI f)] [] _ _
  refine xi_iload_n (pc' := 1) rfl rfl rfl ?_
  refine xi_aload_n (pc' := 2) rfl rfl rfl ?_
  refine xc_geti (pc' := 5) rfl rfl (by decide) (kd_M0 (Nat.lt_of_lt_of_le hm h8)) (by omega) (by omega) (by decide) (by decide) rfl ?_
  refine xi_iconst (pc' := 6) rfl rfl ?_
  refine xi_isub (pc' := 7) rfl rfl ?_
  refine xi_iand (pc' := 8) rfl rfl ?_
  refine xi_iload_n (pc' := 9) rfl rfl rfl ?_
  refine xx_icmp (pc' := 12) (tg := 16) rfl rfl rfl (fun q9 => ?_) (fun q9 => ?_)
  · refine xi_iconst (pc' := 17) rfl rfl ?_
    refine xx_zreturn rfl rfl (by first | rfl | assumption | exact b01_bI | simp [ex_b01, bI]) ?_
    simp only [ex_P, Classical.not_not, ↓reduceIte, Nat.add_zero, or_true, true_or, not_true_eq_false, not_false_eq_true, or_false, false_or, wI_get, false_and, true_and, and_true, and_false, and_self, Nat.reduceEqDiff, Nat.succ_ne_zero, reduceCtorEq, nI_lit, nI_lit0, Nat.reduceLT, eq_self, Nat.zero_add, mn_lit, mn_lit', mn_0] at *
    first | (simp only [q_at, *, ↓reduceIte, Nat.add_zero, or_true, true_or, not_true_eq_false, not_false_eq_true, or_false, false_or, wI_get, false_and, true_and, and_true, and_false, and_self, Nat.reduceEqDiff, Nat.succ_ne_zero, reduceCtorEq, nI_lit, nI_lit0, Nat.reduceLT, eq_self, Nat.zero_add, mn_lit, mn_lit', mn_0]; done) | (exfalso; simp_all only [↓reduceIte, Nat.add_zero, or_true, true_or, not_true_eq_false, not_false_eq_true, or_false, false_or, wI_get, false_and, true_and, and_true, and_false, and_self, Nat.reduceEqDiff, Nat.succ_ne_zero, reduceCtorEq, nI_lit, nI_lit0, Nat.reduceLT, eq_self, Nat.zero_add, mn_lit, mn_lit', mn_0]; done)
  · refine xi_iconst (pc' := 13) rfl rfl ?_
    refine xi_goto (pc' := 17) rfl rfl ?_
    refine xx_zreturn rfl rfl (by first | rfl | assumption | exact b01_bI | simp [ex_b01, bI]) ?_
    simp only [ex_P, Classical.not_not, ↓reduceIte, Nat.add_zero, or_true, true_or, not_true_eq_false, not_false_eq_true, or_false, false_or, wI_get, false_and, true_and, and_true, and_false, and_self, Nat.reduceEqDiff, Nat.succ_ne_zero, reduceCtorEq, nI_lit, nI_lit0, Nat.reduceLT, eq_self, Nat.zero_add, mn_lit, mn_lit', mn_0] at *
    first | (simp only [q_at, *, ↓reduceIte, Nat.add_zero, or_true, true_or, not_true_eq_false, not_false_eq_true, or_false, false_or, wI_get, false_and, true_and, and_true, and_false, and_self, Nat.reduceEqDiff, Nat.succ_ne_zero, reduceCtorEq, nI_lit, nI_lit0, Nat.reduceLT, eq_self, Nat.zero_add, mn_lit, mn_lit', mn_0]; done) | (exfalso; simp_all only [↓reduceIte, Nat.add_zero, or_true, true_or, not_true_eq_false, not_false_eq_true, or_false, false_or, wI_get, false_and, true_and, and_true, and_false, and_self, Nat.reduceEqDiff, Nat.succ_ne_zero, reduceCtorEq, nI_lit, nI_lit0, Nat.reduceLT, eq_self, Nat.zero_add, mn_lit, mn_lit', mn_0]; done)
theorem c_isIn {L : Nat} {xs : Nat → Int32} {D n : Nat} {I J : ex_Mem} {m f : Nat} (h8 : n ≤ 8) (hm : m < n) : ri L xs (D + 1) 78 [.ref (81 + 2 * m), .int (nI f)] (mkH n I J) (q_isIn I m f) (mkH n I J) := by
  show xx cb_G _ _ _ 78 0 [.ref (81 + 2 * m), .int (nI f)] [] _ _
  refine xi_aload_n (pc' := 1) rfl rfl rfl ?_
  refine xi_aload_n (pc' := 2) rfl rfl rfl ?_
  refine xc_geti (pc' := 5) rfl rfl (by decide) (kd_M0 (Nat.lt_of_lt_of_le hm h8)) (by omega) (by omega) (by decide) (by decide) rfl ?_
  refine xi_iload_n (pc' := 6) rfl rfl rfl ?_
  refine xx_callVi (pc' := 9) rfl rfl (by decide) rfl (kd_M0 (Nat.lt_of_lt_of_le hm h8)) (by show _ < 81 + 2 * _; omega) (Nat.le_of_ble_eq_true rfl) rfl rfl (c_isAt h8 hm) ?_
  refine xx_zreturn rfl rfl (by split <;> rfl) ?_
  exact ⟨rfl, rfl⟩
theorem c_statuses {L : Nat} {xs : Nat → Int32} {D n : Nat} {I J : ex_Mem} {m : Nat} (h8 : n ≤ 8) (hm : m < n) : ri L xs D 75 [.ref (81 + 2 * m)] (mkH n I J) (q_st I m) (mkH n I J) := by
  show xx cb_G _ _ _ 75 0 [.ref (81 + 2 * m)] [] _ _
  refine xi_aload_n (pc' := 1) rfl rfl rfl ?_
  refine xc_geti (pc' := 4) rfl rfl (by decide) (kd_M0 (Nat.lt_of_lt_of_le hm h8)) (by omega) (by omega) (by decide) (by decide) rfl ?_
  refine xi_iconst (pc' := 5) rfl rfl ?_
  refine xx_icmp (pc' := 8) (tg := 10) rfl rfl rfl (fun q5 => ?_) (fun q5 => ?_)
  · refine xi_aload_n (pc' := 11) rfl rfl rfl ?_
    refine xc_geti (pc' := 14) rfl rfl (by decide) (kd_M0 (Nat.lt_of_lt_of_le hm h8)) (by omega) (by omega) (by decide) (by decide) rfl ?_
    refine xi_iconst (pc' := 15) rfl rfl ?_
    refine xx_icmp (pc' := 18) (tg := 22) rfl rfl rfl (fun q15 => ?_) (fun q15 => ?_)
    · refine xi_iconst (pc' := 23) rfl rfl ?_
      refine xx_ireturn rfl rfl ?_
      simp only [ex_P, Classical.not_not, ↓reduceIte, Nat.add_zero, or_true, true_or, not_true_eq_false, not_false_eq_true, or_false, false_or, wI_get, false_and, true_and, and_true, and_false, and_self, Nat.reduceEqDiff, Nat.succ_ne_zero, reduceCtorEq, nI_lit, nI_lit0, Nat.reduceLT, eq_self, Nat.zero_add, mn_lit, mn_lit', mn_0] at *
      first | (simp only [q_st, *, ↓reduceIte, Nat.add_zero, or_true, true_or, not_true_eq_false, not_false_eq_true, or_false, false_or, wI_get, false_and, true_and, and_true, and_false, and_self, Nat.reduceEqDiff, Nat.succ_ne_zero, reduceCtorEq, nI_lit, nI_lit0, Nat.reduceLT, eq_self, Nat.zero_add, mn_lit, mn_lit', mn_0]; done) | (exfalso; simp_all only [↓reduceIte, Nat.add_zero, or_true, true_or, not_true_eq_false, not_false_eq_true, or_false, false_or, wI_get, false_and, true_and, and_true, and_false, and_self, Nat.reduceEqDiff, Nat.succ_ne_zero, reduceCtorEq, nI_lit, nI_lit0, Nat.reduceLT, eq_self, Nat.zero_add, mn_lit, mn_lit', mn_0]; done)
    · refine xi_iconst (pc' := 19) rfl rfl ?_
      refine xi_goto (pc' := 23) rfl rfl ?_
      refine xx_ireturn rfl rfl ?_
      simp only [ex_P, Classical.not_not, ↓reduceIte, Nat.add_zero, or_true, true_or, not_true_eq_false, not_false_eq_true, or_false, false_or, wI_get, false_and, true_and, and_true, and_false, and_self, Nat.reduceEqDiff, Nat.succ_ne_zero, reduceCtorEq, nI_lit, nI_lit0, Nat.reduceLT, eq_self, Nat.zero_add, mn_lit, mn_lit', mn_0] at *
      first | (simp only [q_st, *, ↓reduceIte, Nat.add_zero, or_true, true_or, not_true_eq_false, not_false_eq_true, or_false, false_or, wI_get, false_and, true_and, and_true, and_false, and_self, Nat.reduceEqDiff, Nat.succ_ne_zero, reduceCtorEq, nI_lit, nI_lit0, Nat.reduceLT, eq_self, Nat.zero_add, mn_lit, mn_lit', mn_0]; done) | (exfalso; simp_all only [↓reduceIte, Nat.add_zero, or_true, true_or, not_true_eq_false, not_false_eq_true, or_false, false_or, wI_get, false_and, true_and, and_true, and_false, and_self, Nat.reduceEqDiff, Nat.succ_ne_zero, reduceCtorEq, nI_lit, nI_lit0, Nat.reduceLT, eq_self, Nat.zero_add, mn_lit, mn_lit', mn_0]; done)
  · refine xi_iconst (pc' := 9) rfl rfl ?_
    refine xx_ireturn rfl rfl ?_
    simp only [ex_P, Classical.not_not, ↓reduceIte, Nat.add_zero, or_true, true_or, not_true_eq_false, not_false_eq_true, or_false, false_or, wI_get, false_and, true_and, and_true, and_false, and_self, Nat.reduceEqDiff, Nat.succ_ne_zero, reduceCtorEq, nI_lit, nI_lit0, Nat.reduceLT, eq_self, Nat.zero_add, mn_lit, mn_lit', mn_0] at *
    first | (simp only [q_st, *, ↓reduceIte, Nat.add_zero, or_true, true_or, not_true_eq_false, not_false_eq_true, or_false, false_or, wI_get, false_and, true_and, and_true, and_false, and_self, Nat.reduceEqDiff, Nat.succ_ne_zero, reduceCtorEq, nI_lit, nI_lit0, Nat.reduceLT, eq_self, Nat.zero_add, mn_lit, mn_lit', mn_0]; done) | (exfalso; simp_all only [↓reduceIte, Nat.add_zero, or_true, true_or, not_true_eq_false, not_false_eq_true, or_false, false_or, wI_get, false_and, true_and, and_true, and_false, and_self, Nat.reduceEqDiff, Nat.succ_ne_zero, reduceCtorEq, nI_lit, nI_lit0, Nat.reduceLT, eq_self, Nat.zero_add, mn_lit, mn_lit', mn_0]; done)
theorem c_commands {L : Nat} {xs : Nat → Int32} {D n : Nat} {I J : ex_Mem} {m : Nat} (h8 : n ≤ 8) (hm : m < n) : ri L xs D 76 [.ref (81 + 2 * m)] (mkH n I J) (q_cm I m) (mkH n I J) := by
  show xx cb_G _ _ _ 76 0 [.ref (81 + 2 * m)] [] _ _
  refine xi_aload_n (pc' := 1) rfl rfl rfl ?_
  refine xc_geti (pc' := 4) rfl rfl (by decide) (kd_M0 (Nat.lt_of_lt_of_le hm h8)) (by omega) (by omega) (by decide) (by decide) rfl ?_
  refine xi_iconst (pc' := 5) rfl rfl ?_
  refine xx_icmp (pc' := 8) (tg := 12) rfl rfl rfl (fun q5 => ?_) (fun q5 => ?_)
  · refine xi_iconst (pc' := 13) rfl rfl ?_
    refine xx_ireturn rfl rfl ?_
    simp only [ex_P, Classical.not_not, ↓reduceIte, Nat.add_zero, or_true, true_or, not_true_eq_false, not_false_eq_true, or_false, false_or, wI_get, false_and, true_and, and_true, and_false, and_self, Nat.reduceEqDiff, Nat.succ_ne_zero, reduceCtorEq, nI_lit, nI_lit0, Nat.reduceLT, eq_self, Nat.zero_add, mn_lit, mn_lit', mn_0] at *
    first | (simp only [q_cm, *, ↓reduceIte, Nat.add_zero, or_true, true_or, not_true_eq_false, not_false_eq_true, or_false, false_or, wI_get, false_and, true_and, and_true, and_false, and_self, Nat.reduceEqDiff, Nat.succ_ne_zero, reduceCtorEq, nI_lit, nI_lit0, Nat.reduceLT, eq_self, Nat.zero_add, mn_lit, mn_lit', mn_0]; done) | (exfalso; simp_all only [↓reduceIte, Nat.add_zero, or_true, true_or, not_true_eq_false, not_false_eq_true, or_false, false_or, wI_get, false_and, true_and, and_true, and_false, and_self, Nat.reduceEqDiff, Nat.succ_ne_zero, reduceCtorEq, nI_lit, nI_lit0, Nat.reduceLT, eq_self, Nat.zero_add, mn_lit, mn_lit', mn_0]; done)
  · refine xi_iconst (pc' := 9) rfl rfl ?_
    refine xi_goto (pc' := 13) rfl rfl ?_
    refine xx_ireturn rfl rfl ?_
    simp only [ex_P, Classical.not_not, ↓reduceIte, Nat.add_zero, or_true, true_or, not_true_eq_false, not_false_eq_true, or_false, false_or, wI_get, false_and, true_and, and_true, and_false, and_self, Nat.reduceEqDiff, Nat.succ_ne_zero, reduceCtorEq, nI_lit, nI_lit0, Nat.reduceLT, eq_self, Nat.zero_add, mn_lit, mn_lit', mn_0] at *
    first | (simp only [q_cm, *, ↓reduceIte, Nat.add_zero, or_true, true_or, not_true_eq_false, not_false_eq_true, or_false, false_or, wI_get, false_and, true_and, and_true, and_false, and_self, Nat.reduceEqDiff, Nat.succ_ne_zero, reduceCtorEq, nI_lit, nI_lit0, Nat.reduceLT, eq_self, Nat.zero_add, mn_lit, mn_lit', mn_0]; done) | (exfalso; simp_all only [↓reduceIte, Nat.add_zero, or_true, true_or, not_true_eq_false, not_false_eq_true, or_false, false_or, wI_get, false_and, true_and, and_true, and_false, and_self, Nat.reduceEqDiff, Nat.succ_ne_zero, reduceCtorEq, nI_lit, nI_lit0, Nat.reduceLT, eq_self, Nat.zero_add, mn_lit, mn_lit', mn_0]; done)
theorem c_dataWords {L : Nat} {xs : Nat → Int32} {D n : Nat} {I J : ex_Mem} {m : Nat} (h8 : n ≤ 8) (hm : m < n) : ri L xs D 77 [.ref (81 + 2 * m)] (mkH n I J) (q_dwd I m) (mkH n I J) := by
  show xx cb_G _ _ _ 77 0 [.ref (81 + 2 * m)] [] _ _
  refine xi_aload_n (pc' := 1) rfl rfl rfl ?_
  refine xc_geti (pc' := 4) rfl rfl (by decide) (kd_M0 (Nat.lt_of_lt_of_le hm h8)) (by omega) (by omega) (by decide) (by decide) rfl ?_
  refine xi_iconst (pc' := 5) rfl rfl ?_
  refine xx_icmp (pc' := 8) (tg := 13) rfl rfl rfl (fun q5 => ?_) (fun q5 => ?_)
  · refine xi_aload_n (pc' := 14) rfl rfl rfl ?_
    refine xc_geti (pc' := 17) rfl rfl (by decide) (kd_M0 (Nat.lt_of_lt_of_le hm h8)) (by omega) (by omega) (by decide) (by decide) rfl ?_
    refine xi_bipush (pc' := 19) rfl (by decide) rfl ?_
    refine xx_icmp (pc' := 22) (tg := 26) rfl rfl rfl (fun q19 => ?_) (fun q19 => ?_)
    · refine xi_iconst (pc' := 27) rfl rfl ?_
      refine xx_ireturn rfl rfl ?_
      simp only [ex_P, Classical.not_not, ↓reduceIte, Nat.add_zero, or_true, true_or, not_true_eq_false, not_false_eq_true, or_false, false_or, wI_get, false_and, true_and, and_true, and_false, and_self, Nat.reduceEqDiff, Nat.succ_ne_zero, reduceCtorEq, nI_lit, nI_lit0, Nat.reduceLT, eq_self, Nat.zero_add, mn_lit, mn_lit', mn_0] at *
      first | (simp only [q_dwd, *, ↓reduceIte, Nat.add_zero, or_true, true_or, not_true_eq_false, not_false_eq_true, or_false, false_or, wI_get, false_and, true_and, and_true, and_false, and_self, Nat.reduceEqDiff, Nat.succ_ne_zero, reduceCtorEq, nI_lit, nI_lit0, Nat.reduceLT, eq_self, Nat.zero_add, mn_lit, mn_lit', mn_0]; done) | (exfalso; simp_all only [↓reduceIte, Nat.add_zero, or_true, true_or, not_true_eq_false, not_false_eq_true, or_false, false_or, wI_get, false_and, true_and, and_true, and_false, and_self, Nat.reduceEqDiff, Nat.succ_ne_zero, reduceCtorEq, nI_lit, nI_lit0, Nat.reduceLT, eq_self, Nat.zero_add, mn_lit, mn_lit', mn_0]; done)
    · refine xi_iconst (pc' := 23) rfl rfl ?_
      refine xi_goto (pc' := 27) rfl rfl ?_
      refine xx_ireturn rfl rfl ?_
      simp only [ex_P, Classical.not_not, ↓reduceIte, Nat.add_zero, or_true, true_or, not_true_eq_false, not_false_eq_true, or_false, false_or, wI_get, false_and, true_and, and_true, and_false, and_self, Nat.reduceEqDiff, Nat.succ_ne_zero, reduceCtorEq, nI_lit, nI_lit0, Nat.reduceLT, eq_self, Nat.zero_add, mn_lit, mn_lit', mn_0] at *
      first | (simp only [q_dwd, *, ↓reduceIte, Nat.add_zero, or_true, true_or, not_true_eq_false, not_false_eq_true, or_false, false_or, wI_get, false_and, true_and, and_true, and_false, and_self, Nat.reduceEqDiff, Nat.succ_ne_zero, reduceCtorEq, nI_lit, nI_lit0, Nat.reduceLT, eq_self, Nat.zero_add, mn_lit, mn_lit', mn_0]; done) | (exfalso; simp_all only [↓reduceIte, Nat.add_zero, or_true, true_or, not_true_eq_false, not_false_eq_true, or_false, false_or, wI_get, false_and, true_and, and_true, and_false, and_self, Nat.reduceEqDiff, Nat.succ_ne_zero, reduceCtorEq, nI_lit, nI_lit0, Nat.reduceLT, eq_self, Nat.zero_add, mn_lit, mn_lit', mn_0]; done)
  · refine xi_aload_n (pc' := 9) rfl rfl rfl ?_
    refine xc_geti (pc' := 12) rfl rfl (by decide) (kd_M0 (Nat.lt_of_lt_of_le hm h8)) (by omega) (by omega) (by decide) (by decide) rfl ?_
    refine xx_ireturn rfl rfl ?_
    simp only [ex_P, Classical.not_not, ↓reduceIte, Nat.add_zero, or_true, true_or, not_true_eq_false, not_false_eq_true, or_false, false_or, wI_get, false_and, true_and, and_true, and_false, and_self, Nat.reduceEqDiff, Nat.succ_ne_zero, reduceCtorEq, nI_lit, nI_lit0, Nat.reduceLT, eq_self, Nat.zero_add, mn_lit, mn_lit', mn_0] at *
    first | (simp only [q_dwd, *, ↓reduceIte, Nat.add_zero, or_true, true_or, not_true_eq_false, not_false_eq_true, or_false, false_or, wI_get, false_and, true_and, and_true, and_false, and_self, Nat.reduceEqDiff, Nat.succ_ne_zero, reduceCtorEq, nI_lit, nI_lit0, Nat.reduceLT, eq_self, Nat.zero_add, mn_lit, mn_lit', mn_0]; done) | (exfalso; simp_all only [↓reduceIte, Nat.add_zero, or_true, true_or, not_true_eq_false, not_false_eq_true, or_false, false_or, wI_get, false_and, true_and, and_true, and_false, and_self, Nat.reduceEqDiff, Nat.succ_ne_zero, reduceCtorEq, nI_lit, nI_lit0, Nat.reduceLT, eq_self, Nat.zero_add, mn_lit, mn_lit', mn_0]; done)
theorem c_length {L : Nat} {xs : Nat → Int32} {D n : Nat} {I J : ex_Mem} {m : Nat} (h8 : n ≤ 8) (hm : m < n) : ri L xs (D + 1) 74 [.ref (81 + 2 * m)] (mkH n I J) (q_len I m) (mkH n I J) := by
  show xx cb_G _ _ _ 74 0 [.ref (81 + 2 * m), ex_no, ex_no] [] _ _
  refine xi_aload_n (pc' := 1) rfl rfl rfl ?_
  refine xx_callVi (pc' := 4) rfl rfl (by decide) rfl (kd_M0 (Nat.lt_of_lt_of_le hm h8)) (by show _ < 81 + 2 * _; omega) (Nat.le_of_ble_eq_true rfl) rfl rfl (c_statuses h8 hm) ?_
  refine xi_istore_n (pc' := 5) rfl (st1_1 rfl) rfl ?_
  refine xi_aload_n (pc' := 6) rfl rfl rfl ?_
  refine xx_callVi (pc' := 9) rfl rfl (by decide) rfl (kd_M0 (Nat.lt_of_lt_of_le hm h8)) (by show _ < 81 + 2 * _; omega) (Nat.le_of_ble_eq_true rfl) rfl rfl (c_commands h8 hm) ?_
  refine xi_aload_n (pc' := 10) rfl rfl rfl ?_
  refine xx_callVi (pc' := 13) rfl rfl (by decide) rfl (kd_M0 (Nat.lt_of_lt_of_le hm h8)) (by show _ < 81 + 2 * _; omega) (Nat.le_of_ble_eq_true rfl) rfl rfl (c_dataWords h8 hm) ?_
  refine xi_iadd (pc' := 14) rfl rfl ?_
  refine xi_iload_n (pc' := 15) rfl rfl rfl ?_
  refine xi_iadd (pc' := 16) rfl rfl ?_
  refine xi_istore_n (pc' := 17) rfl (st1_2 rfl) rfl ?_
  refine xi_iconst (pc' := 18) rfl rfl ?_
  refine xi_bipush (pc' := 20) rfl (by decide) rfl ?_
  refine xi_iload_n (pc' := 21) rfl rfl rfl ?_
  refine xi_imul (pc' := 22) rfl rfl ?_
  refine xi_bipush (pc' := 24) rfl (by decide) rfl ?_
  refine xi_iload_n (pc' := 25) rfl rfl rfl ?_
  refine xi_imul (pc' := 26) rfl rfl ?_
  refine xi_iadd (pc' := 27) rfl rfl ?_
  refine xi_imul (pc' := 28) rfl rfl ?_
  refine xx_ireturn rfl rfl ?_
  exact ⟨rfl, rfl⟩
theorem c_takeBack {L : Nat} {xs : Nat → Int32} {D n : Nat} {I J : ex_Mem} {t : Nat} (ht : t < 6) : ro L xs D 68 [.ref 47, .int (nI t)] (mkH n I J) (mkH n (ex_wI (ex_wI I 49 t (nI 0)) 48 t (nI 0)) J) := by
  show xx cb_G _ _ _ 68 0 [.ref 47, .int (nI t)] [] _ _
  refine xi_aload_n (pc' := 1) rfl rfl rfl ?_
  refine xc_getp (pc' := 4) rfl rfl (by decide) rfl (by omega) (by decide) rfl rfl rfl ?_
  refine xi_iload_n (pc' := 5) rfl rfl rfl ?_
  refine xi_iconst (pc' := 6) rfl rfl ?_
  refine xc_zast (j := t) (pc' := 7) rfl rfl (by decide) (by omega) (by first | rfl | (simp only [ix_add, ix_mul, ix_pred]; done) | (simp only [ix_add, ix_mul, ix_pred, *]; done)) (by omega) (by decide) (by first | rfl | assumption) rfl ?_
  refine xi_aload_n (pc' := 8) rfl rfl rfl ?_
  refine xc_getp (pc' := 11) rfl rfl (by decide) rfl (by omega) (by decide) rfl rfl rfl ?_
  refine xi_iload_n (pc' := 12) rfl rfl rfl ?_
  refine xi_iconst (pc' := 13) rfl rfl ?_
  refine xc_iast (j := t) (pc' := 14) rfl rfl (by decide) (by omega) (by first | rfl | (simp only [ix_add, ix_mul, ix_pred]; done) | (simp only [ix_add, ix_mul, ix_pred, *]; done)) (by omega) (by decide) rfl ?_
  refine xx_return rfl (by decide) ?_
  exact ⟨rfl, rfl⟩
theorem for_b01 {I : ex_Mem} {m t : Nat} : q_for I m t = nI 0 ∨ q_for I m t = nI 1 := by
  unfold q_for
  split
  · exact Or.inl rfl
  · split
    · exact Or.inr rfl
    · split
      · split
        · exact Or.inr rfl
        · exact Or.inl rfl
      · exact Or.inl rfl
theorem hd_one {I : ex_Mem} {m t : Nat} (h : q_hd I m t = nI 1) : ∀ k, t ≤ k → q_hd I m k = nI 1
  | 0, hk => by
    have : t = 0 := by omega
    rw [← this]; exact h
  | k + 1, hk => by
    by_cases e : t = k + 1
    · rw [← e]; exact h
    · have ih := hd_one h k (by omega)
      show (if q_hd I m k = 0 then (if I 49 k = 0 then nI 0 else q_for I m k) else nI 1) = nI 1
      rw [ih]
      exact if_neg (by decide)
theorem hd_s {I : ex_Mem} {m t : Nat} : q_hd I m (t + 1) = if q_hd I m t = 0 then (if I 49 t = 0 then nI 0 else q_for I m t) else nI 1 := rfl
theorem c_hd_loop {L : Nat} {xs : Nat → Int32} {D n : Nat} {I J : ex_Mem} {m : Nat} (h8 : n ≤ 8) (hm : m < n) : ∀ (j t : Nat), t + j = 6 → q_hd I m t = 0 → xx cb_G L xs (D + 1) 69 2 [.ref 47, .ref (81 + 2 * m), .int (nI t)] [] (mkH n I J) (fun r h => r = some (.int (q_hd I m 6)) ∧ h = mkH n I J) := by
  intro j
  induction j with
  | zero =>
    intro t ht h0
    have ht : t = 6 := by omega
    subst ht
    refine xi_iload_n (pc' := 3) rfl rfl rfl ?_
    refine xi_bipush (pc' := 5) rfl (by decide) rfl ?_
    refine xx_icmp (pc' := 8) (tg := 33) rfl rfl rfl (fun q5 => ?_) (fun q5 => absurd (show ex_P .ge (nI 6) (nI 6) from Int32.le_refl _) q5)
    refine xi_iconst (pc' := 34) rfl rfl ?_
    refine xx_zreturn rfl rfl (by first | rfl | assumption | exact b01_bI | simp [ex_b01, bI]) ?_
    refine ⟨?_, rfl⟩
    rw [h0]
    rfl
  | succ j ih =>
    intro t ht h0
    have e := hd_s (I := I) (m := m) (t := t)
    rw [if_pos h0] at e
    refine xi_iload_n (pc' := 3) rfl rfl rfl ?_
    refine xi_bipush (pc' := 5) rfl (by decide) rfl ?_
    refine xx_icmp (pc' := 8) (tg := 33) rfl rfl rfl (fun q5 => absurd q5 (show ¬ ex_P .ge (nI t) (nI 6) from nI_ge (by omega) (by decide))) (fun q5 => ?_)
    refine xi_aload_n (pc' := 9) rfl rfl rfl ?_
    refine xc_getp (pc' := 12) rfl rfl (by decide) rfl (by omega) (by decide) rfl rfl rfl ?_
    refine xi_iload_n (pc' := 13) rfl rfl rfl ?_
    refine xc_zald (j := t) (pc' := 14) rfl rfl (by decide) (by omega) (by first | rfl | (simp only [ix_add, ix_mul, ix_pred]; done) | (simp only [ix_add, ix_mul, ix_pred, *]; done)) (by omega) (by decide) rfl ?_
    refine xx_if (pc' := 17) (tg := 27) rfl rfl rfl (fun q14 => ?_) (fun q14 => ?_)
    · refine xi_iincv (y := nI (t + 1)) (pc' := 30) rfl rfl (ix_add _ _) (st1_2 rfl) rfl ?_
      refine xi_goto (pc' := 2) rfl rfl ?_
      simp only [ex_P, Classical.not_not] at q14
      first | (rw [if_pos q14] at e; exact ih (t + 1) (by omega) e) | (simp only [ex_P, Classical.not_not] at q22; rw [if_neg q14] at e; exact ih (t + 1) (by omega) (by rw [e]; exact q22))
    · refine xi_aload_n (pc' := 18) rfl rfl rfl ?_
      refine xi_iload_n (pc' := 19) rfl rfl rfl ?_
      refine xx_callVi (pc' := 22) rfl rfl (by decide) rfl (kd_M0 (Nat.lt_of_lt_of_le hm h8)) (by show _ < 81 + 2 * _; omega) (Nat.le_of_ble_eq_true rfl) rfl rfl (c_isFor h8 hm) ?_
      refine xx_if (pc' := 25) (tg := 27) rfl rfl rfl (fun q22 => ?_) (fun q22 => ?_)
      · refine xi_iincv (y := nI (t + 1)) (pc' := 30) rfl rfl (ix_add _ _) (st1_2 rfl) rfl ?_
        refine xi_goto (pc' := 2) rfl rfl ?_
        simp only [ex_P, Classical.not_not] at q14
        first | (rw [if_pos q14] at e; exact ih (t + 1) (by omega) e) | (simp only [ex_P, Classical.not_not] at q22; rw [if_neg q14] at e; exact ih (t + 1) (by omega) (by rw [e]; exact q22))
      · refine xi_iconst (pc' := 26) rfl rfl ?_
        refine xx_zreturn rfl rfl (by first | rfl | assumption | exact b01_bI | simp [ex_b01, bI]) ?_
        simp only [ex_P, Classical.not_not] at q14 q22
        rw [if_neg q14] at e
        have e2 := (for_b01 (I := I) (m := m) (t := t)).resolve_left (fun z => q22 (by rw [z]; rfl))
        rw [e2] at e
        refine ⟨?_, rfl⟩
        rw [hd_one e 6 (by omega)]
theorem c_hasDropped {L : Nat} {xs : Nat → Int32} {D n : Nat} {I J : ex_Mem} {m : Nat} (h8 : n ≤ 8) (hm : m < n) : ri L xs (D + 1) 69 [.ref 47, .ref (81 + 2 * m)] (mkH n I J) (q_hd I m 6) (mkH n I J) := by
  show xx cb_G _ _ _ 69 0 [.ref 47, .ref (81 + 2 * m), ex_no] [] _ _
  refine xi_iconst (pc' := 1) rfl rfl ?_
  refine xi_istore_n (pc' := 2) rfl (st1_2 rfl) rfl ?_
  exact c_hd_loop h8 hm 6 0 (by omega) rfl
theorem qnt_s {I : ex_Mem} {m t : Nat} : q_nt I m (t + 1) = q_nt1 (q_nt I m t) m t := rfl
theorem qnt1_a {S : ex_Mem} {m t : Nat} (h : q_for S m t = 0) : q_nt1 S m t = S := by unfold q_nt1; exact if_pos h
theorem qnt1_b {S : ex_Mem} {m t : Nat} (h : ¬ q_for S m t = 0) (h2 : ¬ S 51 t = 0) : q_nt1 S m t = ex_wI (ex_wI S 50 t (nI 1)) 51 t (nI 1) := by unfold q_nt1; rw [if_neg h, if_neg h2]
theorem qnt1_c {S : ex_Mem} {m t : Nat} (h : ¬ q_for S m t = 0) (h2 : S 51 t = 0) (h3 : S (81 + 2 * m) 8 = nI 4) : q_nt1 S m t = ex_wI (ex_wI S 50 t (nI 1)) 51 t (nI 1) := by unfold q_nt1; rw [if_neg h, if_pos h2, if_pos h3]
theorem qnt1_d {S : ex_Mem} {m t : Nat} (h : ¬ q_for S m t = 0) (h2 : S 51 t = 0) (h3 : ¬ S (81 + 2 * m) 8 = nI 4) : q_nt1 S m t = ex_wI (ex_wI S 50 t (nI 1)) 51 t (nI 0) := by unfold q_nt1; rw [if_neg h, if_pos h2, if_neg h3]
theorem c_nt_loop {L : Nat} {xs : Nat → Int32} {D n : Nat} {I J : ex_Mem} {m : Nat} (h8 : n ≤ 8) (hm : m < n) : ∀ (j t : Nat), t + j = 6 → xx cb_G L xs (D + 1) 70 2 [.ref 47, .ref (81 + 2 * m), .int (nI t)] [] (mkH n (q_nt I m t) J) (fun r h => r = none ∧ h = mkH n (q_nt I m 6) J) := by
  intro j
  induction j with
  | zero =>
    intro t ht
    have ht : t = 6 := by omega
    subst ht
    refine xi_iload_n (pc' := 3) rfl rfl rfl ?_
    refine xi_bipush (pc' := 5) rfl (by decide) rfl ?_
    refine xx_icmp (pc' := 8) (tg := 57) rfl rfl rfl (fun q5 => ?_) (fun q5 => absurd (show ex_P .ge (nI 6) (nI 6) from Int32.le_refl _) q5)
    refine xx_return rfl (by decide) ?_
    exact ⟨rfl, rfl⟩
  | succ j ih =>
    intro t ht
    refine xi_iload_n (pc' := 3) rfl rfl rfl ?_
    refine xi_bipush (pc' := 5) rfl (by decide) rfl ?_
    refine xx_icmp (pc' := 8) (tg := 57) rfl rfl rfl (fun q5 => absurd q5 (show ¬ ex_P .ge (nI t) (nI 6) from nI_ge (by omega) (by decide))) (fun q5 => ?_)
    refine xi_aload_n (pc' := 9) rfl rfl rfl ?_
    refine xi_iload_n (pc' := 10) rfl rfl rfl ?_
    refine xx_callVi (pc' := 13) rfl rfl (by decide) rfl (kd_M0 (Nat.lt_of_lt_of_le hm h8)) (by show _ < 81 + 2 * _; omega) (Nat.le_of_ble_eq_true rfl) rfl rfl (c_isFor h8 hm) ?_
    refine xx_if (pc' := 16) (tg := 51) rfl rfl rfl (fun q13 => ?_) (fun q13 => ?_)
    · refine xi_iincv (y := nI (t + 1)) (pc' := 54) rfl rfl (ix_add _ _) (st1_2 rfl) rfl ?_
      refine xi_goto (pc' := 2) rfl rfl ?_
      have e := ih (t + 1) (by omega)
      rw [qnt_s] at e
      simp only [ex_P, Classical.not_not] at *
      generalize q_nt I m t = S at *
      first | (rw [qnt1_a q13] at e; exact e) | (rw [wI_fr (by omega)] at q34; first | (rw [qnt1_b q13 q34] at e; exact e) | (rw [wI_fr (by omega)] at q42; first | (rw [qnt1_c q13 q34 q42] at e; exact e) | (rw [qnt1_d q13 q34 q42] at e; exact e)))
    · refine xi_aload_n (pc' := 17) rfl rfl rfl ?_
      refine xc_getp (pc' := 20) rfl rfl (by decide) rfl (by omega) (by decide) rfl rfl rfl ?_
      refine xi_iload_n (pc' := 21) rfl rfl rfl ?_
      refine xi_iconst (pc' := 22) rfl rfl ?_
      refine xc_zast (j := t) (pc' := 23) rfl rfl (by decide) (by omega) (by first | rfl | (simp only [ix_add, ix_mul, ix_pred]; done) | (simp only [ix_add, ix_mul, ix_pred, *]; done)) (by omega) (by decide) (by first | rfl | assumption) rfl ?_
      refine xi_aload_n (pc' := 24) rfl rfl rfl ?_
      refine xc_getp (pc' := 27) rfl rfl (by decide) rfl (by omega) (by decide) rfl rfl rfl ?_
      refine xi_iload_n (pc' := 28) rfl rfl rfl ?_
      refine xi_aload_n (pc' := 29) rfl rfl rfl ?_
      refine xc_getp (pc' := 32) rfl rfl (by decide) rfl (by omega) (by decide) rfl rfl rfl ?_
      refine xi_iload_n (pc' := 33) rfl rfl rfl ?_
      refine xc_zald (j := t) (pc' := 34) rfl rfl (by decide) (by omega) (by first | rfl | (simp only [ix_add, ix_mul, ix_pred]; done) | (simp only [ix_add, ix_mul, ix_pred, *]; done)) (by omega) (by decide) rfl ?_
      refine xx_if (pc' := 37) (tg := 45) rfl rfl rfl (fun q34 => ?_) (fun q34 => ?_)
      · refine xi_iconst (pc' := 46) rfl rfl ?_
        refine xi_goto (pc' := 50) rfl rfl ?_
        refine xc_zast (j := t) (pc' := 51) rfl rfl (by decide) (by omega) (by first | rfl | (simp only [ix_add, ix_mul, ix_pred]; done) | (simp only [ix_add, ix_mul, ix_pred, *]; done)) (by omega) (by decide) (by first | rfl | assumption) rfl ?_
        refine xi_iincv (y := nI (t + 1)) (pc' := 54) rfl rfl (ix_add _ _) (st1_2 rfl) rfl ?_
        refine xi_goto (pc' := 2) rfl rfl ?_
        have e := ih (t + 1) (by omega)
        rw [qnt_s] at e
        simp only [ex_P, Classical.not_not] at *
        generalize q_nt I m t = S at *
        first | (rw [qnt1_a q13] at e; exact e) | (rw [wI_fr (by omega)] at q34; first | (rw [qnt1_b q13 q34] at e; exact e) | (rw [wI_fr (by omega)] at q42; first | (rw [qnt1_c q13 q34 q42] at e; exact e) | (rw [qnt1_d q13 q34 q42] at e; exact e)))
      · refine xi_aload_n (pc' := 38) rfl rfl rfl ?_
        refine xc_geti (pc' := 41) rfl rfl (by decide) (kd_M0 (Nat.lt_of_lt_of_le hm h8)) (by omega) (by omega) (by decide) (by decide) rfl ?_
        refine xi_iconst (pc' := 42) rfl rfl ?_
        refine xx_icmp (pc' := 45) (tg := 49) rfl rfl rfl (fun q42 => ?_) (fun q42 => ?_)
        · refine xi_iconst (pc' := 50) rfl rfl ?_
          refine xc_zast (j := t) (pc' := 51) rfl rfl (by decide) (by omega) (by first | rfl | (simp only [ix_add, ix_mul, ix_pred]; done) | (simp only [ix_add, ix_mul, ix_pred, *]; done)) (by omega) (by decide) (by first | rfl | assumption) rfl ?_
          refine xi_iincv (y := nI (t + 1)) (pc' := 54) rfl rfl (ix_add _ _) (st1_2 rfl) rfl ?_
          refine xi_goto (pc' := 2) rfl rfl ?_
          have e := ih (t + 1) (by omega)
          rw [qnt_s] at e
          simp only [ex_P, Classical.not_not] at *
          generalize q_nt I m t = S at *
          first | (rw [qnt1_a q13] at e; exact e) | (rw [wI_fr (by omega)] at q34; first | (rw [qnt1_b q13 q34] at e; exact e) | (rw [wI_fr (by omega)] at q42; first | (rw [qnt1_c q13 q34 q42] at e; exact e) | (rw [qnt1_d q13 q34 q42] at e; exact e)))
        · refine xi_iconst (pc' := 46) rfl rfl ?_
          refine xi_goto (pc' := 50) rfl rfl ?_
          refine xc_zast (j := t) (pc' := 51) rfl rfl (by decide) (by omega) (by first | rfl | (simp only [ix_add, ix_mul, ix_pred]; done) | (simp only [ix_add, ix_mul, ix_pred, *]; done)) (by omega) (by decide) (by first | rfl | assumption) rfl ?_
          refine xi_iincv (y := nI (t + 1)) (pc' := 54) rfl rfl (ix_add _ _) (st1_2 rfl) rfl ?_
          refine xi_goto (pc' := 2) rfl rfl ?_
          have e := ih (t + 1) (by omega)
          rw [qnt_s] at e
          simp only [ex_P, Classical.not_not] at *
          generalize q_nt I m t = S at *
          first | (rw [qnt1_a q13] at e; exact e) | (rw [wI_fr (by omega)] at q34; first | (rw [qnt1_b q13 q34] at e; exact e) | (rw [wI_fr (by omega)] at q42; first | (rw [qnt1_c q13 q34 q42] at e; exact e) | (rw [qnt1_d q13 q34 q42] at e; exact e)))
theorem c_note {L : Nat} {xs : Nat → Int32} {D n : Nat} {I J : ex_Mem} {m : Nat} (h8 : n ≤ 8) (hm : m < n) : ro L xs (D + 1) 70 [.ref 47, .ref (81 + 2 * m)] (mkH n I J) (mkH n (q_nt I m 6) J) := by
  show xx cb_G _ _ _ 70 0 [.ref 47, .ref (81 + 2 * m), ex_no] [] _ _
  refine xi_iconst (pc' := 1) rfl rfl ?_
  refine xi_istore_n (pc' := 2) rfl (st1_2 rfl) rfl ?_
  exact c_nt_loop h8 hm 6 0 (by omega)
theorem qend_s {I : ex_Mem} {t : Nat} : q_end I (t + 1) = q_e (q_end I t) t := rfl
theorem qe_a {S : ex_Mem} {t : Nat} (h : S 50 t = 0) : q_e S t = ex_wI (ex_wI S 50 t (nI 0)) 51 t (nI 0) := by unfold q_e q_e1; rw [if_pos h]
theorem qe_b {S : ex_Mem} {t : Nat} {v : Int32} (h : ¬ S 50 t = 0) (hv : q_bad S t = v) (h3 : v = nI 3) : q_e S t = ex_wI (ex_wI (ex_wI (ex_wI S 48 t v) 49 t (nI 1)) 50 t (nI 0)) 51 t (nI 0) := by unfold q_e q_e1; rw [if_neg h, hv, if_pos h3]
theorem qe_c {S : ex_Mem} {t : Nat} {v : Int32} (h : ¬ S 50 t = 0) (hv : q_bad S t = v) (h3 : ¬ v = nI 3) : q_e S t = ex_wI (ex_wI (ex_wI (ex_wI S 48 t v) 49 t (nI 0)) 50 t (nI 0)) 51 t (nI 0) := by unfold q_e q_e1; rw [if_neg h, hv, if_neg h3]
theorem qbad_a {S : ex_Mem} {t : Nat} (h : S 51 t = 0) : q_bad S t = nI 0 := by unfold q_bad; exact if_pos h
theorem qbad_b {S : ex_Mem} {t : Nat} (h : ¬ S 51 t = 0) : q_bad S t = S 48 t + nI 1 := by unfold q_bad; exact if_neg h
theorem c_end_loop {L : Nat} {xs : Nat → Int32} {D n : Nat} {I J : ex_Mem}  : ∀ (j t : Nat), t + j = 6 → xx cb_G L xs D 71 2 [.ref 47, .int (nI t)] [] (mkH n (q_end I t) J) (fun r h => r = none ∧ h = mkH n (q_end I 6) J) := by
  intro j
  induction j with
  | zero =>
    intro t ht
    have ht : t = 6 := by omega
    subst ht
    refine xi_iload_n (pc' := 3) rfl rfl rfl ?_
    refine xi_bipush (pc' := 5) rfl (by decide) rfl ?_
    refine xx_icmp (pc' := 8) (tg := 85) rfl rfl rfl (fun q5 => ?_) (fun q5 => absurd (show ex_P .ge (nI 6) (nI 6) from Int32.le_refl _) q5)
    refine xx_return rfl (by decide) ?_
    exact ⟨rfl, rfl⟩
  | succ j ih =>
    intro t ht
    refine xi_iload_n (pc' := 3) rfl rfl rfl ?_
    refine xi_bipush (pc' := 5) rfl (by decide) rfl ?_
    refine xx_icmp (pc' := 8) (tg := 85) rfl rfl rfl (fun q5 => absurd q5 (show ¬ ex_P .ge (nI t) (nI 6) from nI_ge (by omega) (by decide))) (fun q5 => ?_)
    refine xi_aload_n (pc' := 9) rfl rfl rfl ?_
    refine xc_getp (pc' := 12) rfl rfl (by decide) rfl (by omega) (by decide) rfl rfl rfl ?_
    refine xi_iload_n (pc' := 13) rfl rfl rfl ?_
    refine xc_zald (j := t) (pc' := 14) rfl rfl (by decide) (by omega) (by first | rfl | (simp only [ix_add, ix_mul, ix_pred]; done) | (simp only [ix_add, ix_mul, ix_pred, *]; done)) (by omega) (by decide) rfl ?_
    refine xx_if (pc' := 17) (tg := 65) rfl rfl rfl (fun q14 => ?_) (fun q14 => ?_)
    · refine xi_aload_n (pc' := 66) rfl rfl rfl ?_
      refine xc_getp (pc' := 69) rfl rfl (by decide) rfl (by omega) (by decide) rfl rfl rfl ?_
      refine xi_iload_n (pc' := 70) rfl rfl rfl ?_
      refine xi_iconst (pc' := 71) rfl rfl ?_
      refine xc_zast (j := t) (pc' := 72) rfl rfl (by decide) (by omega) (by first | rfl | (simp only [ix_add, ix_mul, ix_pred]; done) | (simp only [ix_add, ix_mul, ix_pred, *]; done)) (by omega) (by decide) (by first | rfl | assumption) rfl ?_
      refine xi_aload_n (pc' := 73) rfl rfl rfl ?_
      refine xc_getp (pc' := 76) rfl rfl (by decide) rfl (by omega) (by decide) rfl rfl rfl ?_
      refine xi_iload_n (pc' := 77) rfl rfl rfl ?_
      refine xi_iconst (pc' := 78) rfl rfl ?_
      refine xc_zast (j := t) (pc' := 79) rfl rfl (by decide) (by omega) (by first | rfl | (simp only [ix_add, ix_mul, ix_pred]; done) | (simp only [ix_add, ix_mul, ix_pred, *]; done)) (by omega) (by decide) (by first | rfl | assumption) rfl ?_
      refine xi_iincv (y := nI (t + 1)) (pc' := 82) rfl rfl (ix_add _ _) (st1_1 rfl) rfl ?_
      refine xi_goto (pc' := 2) rfl rfl ?_
      have e := ih (t + 1) (by omega)
      rw [qend_s] at e
      simp only [ex_P, Classical.not_not] at *
      generalize q_end I t = S at *
      first | (rw [qe_a q14] at e; exact e) | (simp only [wI_get, and_self, if_true] at q56; first | (rw [qe_b q14 (qbad_a q28) q56] at e; exact e) | (rw [qe_c q14 (qbad_a q28) q56] at e; exact e) | (rw [qe_b q14 (qbad_b q28) q56] at e; exact e) | (rw [qe_c q14 (qbad_b q28) q56] at e; exact e))
    · refine xi_aload_n (pc' := 18) rfl rfl rfl ?_
      refine xc_getp (pc' := 21) rfl rfl (by decide) rfl (by omega) (by decide) rfl rfl rfl ?_
      refine xi_iload_n (pc' := 22) rfl rfl rfl ?_
      refine xi_aload_n (pc' := 23) rfl rfl rfl ?_
      refine xc_getp (pc' := 26) rfl rfl (by decide) rfl (by omega) (by decide) rfl rfl rfl ?_
      refine xi_iload_n (pc' := 27) rfl rfl rfl ?_
      refine xc_zald (j := t) (pc' := 28) rfl rfl (by decide) (by omega) (by first | rfl | (simp only [ix_add, ix_mul, ix_pred]; done) | (simp only [ix_add, ix_mul, ix_pred, *]; done)) (by omega) (by decide) rfl ?_
      refine xx_if (pc' := 31) (tg := 42) rfl rfl rfl (fun q28 => ?_) (fun q28 => ?_)
      · refine xi_iconst (pc' := 43) rfl rfl ?_
        refine xc_iast (j := t) (pc' := 44) rfl rfl (by decide) (by omega) (by first | rfl | (simp only [ix_add, ix_mul, ix_pred]; done) | (simp only [ix_add, ix_mul, ix_pred, *]; done)) (by omega) (by decide) rfl ?_
        refine xi_aload_n (pc' := 45) rfl rfl rfl ?_
        refine xc_getp (pc' := 48) rfl rfl (by decide) rfl (by omega) (by decide) rfl rfl rfl ?_
        refine xi_iload_n (pc' := 49) rfl rfl rfl ?_
        refine xi_aload_n (pc' := 50) rfl rfl rfl ?_
        refine xc_getp (pc' := 53) rfl rfl (by decide) rfl (by omega) (by decide) rfl rfl rfl ?_
        refine xi_iload_n (pc' := 54) rfl rfl rfl ?_
        refine xc_iald (j := t) (pc' := 55) rfl rfl (by decide) (by omega) (by omega) (by first | rfl | (simp only [ix_add, ix_mul, ix_pred]; done) | (simp only [ix_add, ix_mul, ix_pred, *]; done)) (by omega) (by decide) rfl ?_
        refine xi_iconst (pc' := 56) rfl rfl ?_
        refine xx_icmp (pc' := 59) (tg := 63) rfl rfl rfl (fun q56 => ?_) (fun q56 => ?_)
        · refine xi_iconst (pc' := 64) rfl rfl ?_
          refine xc_zast (j := t) (pc' := 65) rfl rfl (by decide) (by omega) (by first | rfl | (simp only [ix_add, ix_mul, ix_pred]; done) | (simp only [ix_add, ix_mul, ix_pred, *]; done)) (by omega) (by decide) (by first | rfl | assumption) rfl ?_
          refine xi_aload_n (pc' := 66) rfl rfl rfl ?_
          refine xc_getp (pc' := 69) rfl rfl (by decide) rfl (by omega) (by decide) rfl rfl rfl ?_
          refine xi_iload_n (pc' := 70) rfl rfl rfl ?_
          refine xi_iconst (pc' := 71) rfl rfl ?_
          refine xc_zast (j := t) (pc' := 72) rfl rfl (by decide) (by omega) (by first | rfl | (simp only [ix_add, ix_mul, ix_pred]; done) | (simp only [ix_add, ix_mul, ix_pred, *]; done)) (by omega) (by decide) (by first | rfl | assumption) rfl ?_
          refine xi_aload_n (pc' := 73) rfl rfl rfl ?_
          refine xc_getp (pc' := 76) rfl rfl (by decide) rfl (by omega) (by decide) rfl rfl rfl ?_
          refine xi_iload_n (pc' := 77) rfl rfl rfl ?_
          refine xi_iconst (pc' := 78) rfl rfl ?_
          refine xc_zast (j := t) (pc' := 79) rfl rfl (by decide) (by omega) (by first | rfl | (simp only [ix_add, ix_mul, ix_pred]; done) | (simp only [ix_add, ix_mul, ix_pred, *]; done)) (by omega) (by decide) (by first | rfl | assumption) rfl ?_
          refine xi_iincv (y := nI (t + 1)) (pc' := 82) rfl rfl (ix_add _ _) (st1_1 rfl) rfl ?_
          refine xi_goto (pc' := 2) rfl rfl ?_
          have e := ih (t + 1) (by omega)
          rw [qend_s] at e
          simp only [ex_P, Classical.not_not] at *
          generalize q_end I t = S at *
          first | (rw [qe_a q14] at e; exact e) | (simp only [wI_get, and_self, if_true] at q56; first | (rw [qe_b q14 (qbad_a q28) q56] at e; exact e) | (rw [qe_c q14 (qbad_a q28) q56] at e; exact e) | (rw [qe_b q14 (qbad_b q28) q56] at e; exact e) | (rw [qe_c q14 (qbad_b q28) q56] at e; exact e))
        · refine xi_iconst (pc' := 60) rfl rfl ?_
          refine xi_goto (pc' := 64) rfl rfl ?_
          refine xc_zast (j := t) (pc' := 65) rfl rfl (by decide) (by omega) (by first | rfl | (simp only [ix_add, ix_mul, ix_pred]; done) | (simp only [ix_add, ix_mul, ix_pred, *]; done)) (by omega) (by decide) (by first | rfl | assumption) rfl ?_
          refine xi_aload_n (pc' := 66) rfl rfl rfl ?_
          refine xc_getp (pc' := 69) rfl rfl (by decide) rfl (by omega) (by decide) rfl rfl rfl ?_
          refine xi_iload_n (pc' := 70) rfl rfl rfl ?_
          refine xi_iconst (pc' := 71) rfl rfl ?_
          refine xc_zast (j := t) (pc' := 72) rfl rfl (by decide) (by omega) (by first | rfl | (simp only [ix_add, ix_mul, ix_pred]; done) | (simp only [ix_add, ix_mul, ix_pred, *]; done)) (by omega) (by decide) (by first | rfl | assumption) rfl ?_
          refine xi_aload_n (pc' := 73) rfl rfl rfl ?_
          refine xc_getp (pc' := 76) rfl rfl (by decide) rfl (by omega) (by decide) rfl rfl rfl ?_
          refine xi_iload_n (pc' := 77) rfl rfl rfl ?_
          refine xi_iconst (pc' := 78) rfl rfl ?_
          refine xc_zast (j := t) (pc' := 79) rfl rfl (by decide) (by omega) (by first | rfl | (simp only [ix_add, ix_mul, ix_pred]; done) | (simp only [ix_add, ix_mul, ix_pred, *]; done)) (by omega) (by decide) (by first | rfl | assumption) rfl ?_
          refine xi_iincv (y := nI (t + 1)) (pc' := 82) rfl rfl (ix_add _ _) (st1_1 rfl) rfl ?_
          refine xi_goto (pc' := 2) rfl rfl ?_
          have e := ih (t + 1) (by omega)
          rw [qend_s] at e
          simp only [ex_P, Classical.not_not] at *
          generalize q_end I t = S at *
          first | (rw [qe_a q14] at e; exact e) | (simp only [wI_get, and_self, if_true] at q56; first | (rw [qe_b q14 (qbad_a q28) q56] at e; exact e) | (rw [qe_c q14 (qbad_a q28) q56] at e; exact e) | (rw [qe_b q14 (qbad_b q28) q56] at e; exact e) | (rw [qe_c q14 (qbad_b q28) q56] at e; exact e))
      · refine xi_aload_n (pc' := 32) rfl rfl rfl ?_
        refine xc_getp (pc' := 35) rfl rfl (by decide) rfl (by omega) (by decide) rfl rfl rfl ?_
        refine xi_iload_n (pc' := 36) rfl rfl rfl ?_
        refine xc_iald (j := t) (pc' := 37) rfl rfl (by decide) (by omega) (by omega) (by first | rfl | (simp only [ix_add, ix_mul, ix_pred]; done) | (simp only [ix_add, ix_mul, ix_pred, *]; done)) (by omega) (by decide) rfl ?_
        refine xi_iconst (pc' := 38) rfl rfl ?_
        refine xi_iadd (pc' := 39) rfl rfl ?_
        refine xi_goto (pc' := 43) rfl rfl ?_
        refine xc_iast (j := t) (pc' := 44) rfl rfl (by decide) (by omega) (by first | rfl | (simp only [ix_add, ix_mul, ix_pred]; done) | (simp only [ix_add, ix_mul, ix_pred, *]; done)) (by omega) (by decide) rfl ?_
        refine xi_aload_n (pc' := 45) rfl rfl rfl ?_
        refine xc_getp (pc' := 48) rfl rfl (by decide) rfl (by omega) (by decide) rfl rfl rfl ?_
        refine xi_iload_n (pc' := 49) rfl rfl rfl ?_
        refine xi_aload_n (pc' := 50) rfl rfl rfl ?_
        refine xc_getp (pc' := 53) rfl rfl (by decide) rfl (by omega) (by decide) rfl rfl rfl ?_
        refine xi_iload_n (pc' := 54) rfl rfl rfl ?_
        refine xc_iald (j := t) (pc' := 55) rfl rfl (by decide) (by omega) (by omega) (by first | rfl | (simp only [ix_add, ix_mul, ix_pred]; done) | (simp only [ix_add, ix_mul, ix_pred, *]; done)) (by omega) (by decide) rfl ?_
        refine xi_iconst (pc' := 56) rfl rfl ?_
        refine xx_icmp (pc' := 59) (tg := 63) rfl rfl rfl (fun q56 => ?_) (fun q56 => ?_)
        · refine xi_iconst (pc' := 64) rfl rfl ?_
          refine xc_zast (j := t) (pc' := 65) rfl rfl (by decide) (by omega) (by first | rfl | (simp only [ix_add, ix_mul, ix_pred]; done) | (simp only [ix_add, ix_mul, ix_pred, *]; done)) (by omega) (by decide) (by first | rfl | assumption) rfl ?_
          refine xi_aload_n (pc' := 66) rfl rfl rfl ?_
          refine xc_getp (pc' := 69) rfl rfl (by decide) rfl (by omega) (by decide) rfl rfl rfl ?_
          refine xi_iload_n (pc' := 70) rfl rfl rfl ?_
          refine xi_iconst (pc' := 71) rfl rfl ?_
          refine xc_zast (j := t) (pc' := 72) rfl rfl (by decide) (by omega) (by first | rfl | (simp only [ix_add, ix_mul, ix_pred]; done) | (simp only [ix_add, ix_mul, ix_pred, *]; done)) (by omega) (by decide) (by first | rfl | assumption) rfl ?_
          refine xi_aload_n (pc' := 73) rfl rfl rfl ?_
          refine xc_getp (pc' := 76) rfl rfl (by decide) rfl (by omega) (by decide) rfl rfl rfl ?_
          refine xi_iload_n (pc' := 77) rfl rfl rfl ?_
          refine xi_iconst (pc' := 78) rfl rfl ?_
          refine xc_zast (j := t) (pc' := 79) rfl rfl (by decide) (by omega) (by first | rfl | (simp only [ix_add, ix_mul, ix_pred]; done) | (simp only [ix_add, ix_mul, ix_pred, *]; done)) (by omega) (by decide) (by first | rfl | assumption) rfl ?_
          refine xi_iincv (y := nI (t + 1)) (pc' := 82) rfl rfl (ix_add _ _) (st1_1 rfl) rfl ?_
          refine xi_goto (pc' := 2) rfl rfl ?_
          have e := ih (t + 1) (by omega)
          rw [qend_s] at e
          simp only [ex_P, Classical.not_not] at *
          generalize q_end I t = S at *
          first | (rw [qe_a q14] at e; exact e) | (simp only [wI_get, and_self, if_true] at q56; first | (rw [qe_b q14 (qbad_a q28) q56] at e; exact e) | (rw [qe_c q14 (qbad_a q28) q56] at e; exact e) | (rw [qe_b q14 (qbad_b q28) q56] at e; exact e) | (rw [qe_c q14 (qbad_b q28) q56] at e; exact e))
        · refine xi_iconst (pc' := 60) rfl rfl ?_
          refine xi_goto (pc' := 64) rfl rfl ?_
          refine xc_zast (j := t) (pc' := 65) rfl rfl (by decide) (by omega) (by first | rfl | (simp only [ix_add, ix_mul, ix_pred]; done) | (simp only [ix_add, ix_mul, ix_pred, *]; done)) (by omega) (by decide) (by first | rfl | assumption) rfl ?_
          refine xi_aload_n (pc' := 66) rfl rfl rfl ?_
          refine xc_getp (pc' := 69) rfl rfl (by decide) rfl (by omega) (by decide) rfl rfl rfl ?_
          refine xi_iload_n (pc' := 70) rfl rfl rfl ?_
          refine xi_iconst (pc' := 71) rfl rfl ?_
          refine xc_zast (j := t) (pc' := 72) rfl rfl (by decide) (by omega) (by first | rfl | (simp only [ix_add, ix_mul, ix_pred]; done) | (simp only [ix_add, ix_mul, ix_pred, *]; done)) (by omega) (by decide) (by first | rfl | assumption) rfl ?_
          refine xi_aload_n (pc' := 73) rfl rfl rfl ?_
          refine xc_getp (pc' := 76) rfl rfl (by decide) rfl (by omega) (by decide) rfl rfl rfl ?_
          refine xi_iload_n (pc' := 77) rfl rfl rfl ?_
          refine xi_iconst (pc' := 78) rfl rfl ?_
          refine xc_zast (j := t) (pc' := 79) rfl rfl (by decide) (by omega) (by first | rfl | (simp only [ix_add, ix_mul, ix_pred]; done) | (simp only [ix_add, ix_mul, ix_pred, *]; done)) (by omega) (by decide) (by first | rfl | assumption) rfl ?_
          refine xi_iincv (y := nI (t + 1)) (pc' := 82) rfl rfl (ix_add _ _) (st1_1 rfl) rfl ?_
          refine xi_goto (pc' := 2) rfl rfl ?_
          have e := ih (t + 1) (by omega)
          rw [qend_s] at e
          simp only [ex_P, Classical.not_not] at *
          generalize q_end I t = S at *
          first | (rw [qe_a q14] at e; exact e) | (simp only [wI_get, and_self, if_true] at q56; first | (rw [qe_b q14 (qbad_a q28) q56] at e; exact e) | (rw [qe_c q14 (qbad_a q28) q56] at e; exact e) | (rw [qe_b q14 (qbad_b q28) q56] at e; exact e) | (rw [qe_c q14 (qbad_b q28) q56] at e; exact e))
theorem c_endFrame {L : Nat} {xs : Nat → Int32} {D n : Nat} {I J : ex_Mem}  : ro L xs D 71 [.ref 47] (mkH n I J) (mkH n (q_end I 6) J) := by
  show xx cb_G _ _ _ 71 0 [.ref 47, ex_no] [] _ _
  refine xi_iconst (pc' := 1) rfl rfl ?_
  refine xi_istore_n (pc' := 2) rfl (st1_1 rfl) rfl ?_
  exact c_end_loop 6 0 (by omega)
