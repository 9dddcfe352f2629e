/-! a new message -/
def PX (n : Nat) : ex_Pm := fun a k => if a = 81 + 2 * n ∧ k = 6 then some (82 + 2 * n) else PD n a k
def hX (n : Nat) (I J : ex_Mem) : ex_Hp := (83 + 2 * n, 952 + 13 * n, mm I J, PX n)
theorem PX_lt {n a k : Nat} (h : a < 81) : PX n a k = PD n a k := if_neg (by omega)
theorem PD_hi {n a k : Nat} (h : 81 + 2 * n ≤ a) : PD n a k = none := by
  unfold PD
  rw [if_neg (by omega), if_neg (by omega), if_neg (by omega)]
theorem hX_new {n : Nat} {I J : ex_Mem} : ex_hP (ex_hN (ex_hN (mkH n I J) 9) 4) (81 + 2 * n) 6 (some (81 + 2 * n + 1)) = hX n (q_new I n) J := by
  show ((81 + 2 * n + 1 + 1, 939 + 13 * n + 9 + 4, ex_cI (ex_cI (mm I J) (81 + 2 * n)) (81 + 2 * n + 1), ex_wP (ex_cP (ex_cP (PD n) (81 + 2 * n)) (81 + 2 * n + 1)) (81 + 2 * n) 6 (some (81 + 2 * n + 1))) : ex_Hp) = (83 + 2 * n, 952 + 13 * n, mm (q_new I n) J, PX n)
  rw [show 81 + 2 * n + 1 + 1 = 83 + 2 * n by omega, show 939 + 13 * n + 9 + 4 = 952 + 13 * n by omega, show 81 + 2 * n + 1 = 82 + 2 * n by omega]
  have e1 : ex_cI (ex_cI (mm I J) (81 + 2 * n)) (82 + 2 * n) = mm (q_new I n) J := by
    funext a k
    show (if a = 82 + 2 * n then 0 else if a = 81 + 2 * n then 0 else if 52 ≤ a ∧ a < 81 then J a k else I a k) = if 52 ≤ a ∧ a < 81 then J a k else (if a = 82 + 2 * n then 0 else if a = 81 + 2 * n then 0 else I a k)
    by_cases h : 52 ≤ a ∧ a < 81
    · rw [if_pos h, if_pos h, if_neg (by omega), if_neg (by omega)]
    · rw [if_neg h, if_neg h]
  have e2 : ex_wP (ex_cP (ex_cP (PD n) (81 + 2 * n)) (82 + 2 * n)) (81 + 2 * n) 6 (some (82 + 2 * n)) = PX n := by
    funext a k
    show (if a = 81 + 2 * n ∧ k = 6 then some (82 + 2 * n) else if a = 82 + 2 * n then none else if a = 81 + 2 * n then none else PD n a k) = if a = 81 + 2 * n ∧ k = 6 then some (82 + 2 * n) else PD n a k
    by_cases h : a = 81 + 2 * n ∧ k = 6
    · rw [if_pos h, if_pos h]
    · rw [if_neg h, if_neg h]
      by_cases h2 : a = 82 + 2 * n
      · rw [if_pos h2, PD_hi (by omega)]
      · rw [if_neg h2]
        by_cases h3 : a = 81 + 2 * n
        · rw [if_pos h3, PD_hi (by omega)]
        · rw [if_neg h3]
  rw [e1, e2]
theorem hX_put {n k : Nat} {I J : ex_Mem} {v : Int32} : ex_hI (hX n I J) (81 + 2 * n) k v = hX n (ex_wI I (81 + 2 * n) k v) J := by
  show ((83 + 2 * n, 952 + 13 * n, ex_wI (mm I J) (81 + 2 * n) k v, PX n) : ex_Hp) = _
  rw [mm_wc (by omega)]
  rfl
theorem hX_add {n : Nat} {I J : ex_Mem} : ex_hP (hX n I J) 45 n (some (81 + 2 * n)) = mkH (n + 1) I J := by
  show ((83 + 2 * n, 952 + 13 * n, mm I J, ex_wP (PX n) 45 n (some (81 + 2 * n))) : ex_Hp) = (81 + 2 * (n + 1), 939 + 13 * (n + 1), mm I J, PD (n + 1))
  rw [show 83 + 2 * n = 81 + 2 * (n + 1) by omega, show 952 + 13 * n = 939 + 13 * (n + 1) by omega]
  have e : ex_wP (PX n) 45 n (some (81 + 2 * n)) = PD (n + 1) := by
    funext a k
    show (if a = 45 ∧ k = n then some (81 + 2 * n) else if a = 81 + 2 * n ∧ k = 6 then some (82 + 2 * n) else (if a = 45 then (if k < n then some (81 + 2 * k) else none) else if a < 81 then (cb_PT.getD a []).getD k none else if k = 6 ∧ a % 2 = 1 ∧ a < 81 + 2 * n then some (a + 1) else none)) = (if a = 45 then (if k < n + 1 then some (81 + 2 * k) else none) else if a < 81 then (cb_PT.getD a []).getD k none else if k = 6 ∧ a % 2 = 1 ∧ a < 81 + 2 * (n + 1) then some (a + 1) else none)
    by_cases h : a = 45
    · rw [if_pos h, if_pos h]
      by_cases hk : k = n
      · rw [if_pos ⟨h, hk⟩, if_pos (by omega), hk]
      · rw [if_neg (fun z => hk z.2), if_neg (by omega)]
        by_cases hk2 : k < n
        · rw [if_pos hk2, if_pos (by omega)]
        · rw [if_neg hk2, if_neg (by omega)]
    · rw [if_neg (fun z => h z.1), if_neg h, if_neg h]
      by_cases h2 : a < 81
      · rw [if_neg (by omega), if_pos h2, if_pos h2]
      · rw [if_neg h2, if_neg h2]
        by_cases h3 : a = 81 + 2 * n ∧ k = 6
        · rw [if_pos h3, if_pos (by omega), h3.1]
          congr 1
          omega
        · rw [if_neg h3]
          by_cases h4 : k = 6 ∧ a % 2 = 1 ∧ a < 81 + 2 * n
          · rw [if_pos h4, if_pos (by omega)]
          · rw [if_neg h4, if_neg (by omega)]
  rw [e]
theorem c_minit {L : Nat} {xs : Nat → Int32} {D n : Nat} {I J : ex_Mem} {kd x y s nn per : Int32} (h8 : n < 8) : rn cb_G L xs (D + 1) 72 [.ref (81 + 2 * n), .int kd, .int x, .int y, .int s, .int nn, .int per] (ex_hN (mkH n I J) 9) (fun r h => r = none ∧ h = hX n (q_mk I n kd x y s nn per) J) := by
  show xx cb_G _ _ _ 72 0 [.ref (81 + 2 * n), .int kd, .int x, .int y, .int s, .int nn, .int per] [] _ _
  refine xi_aload_n (pc' := 1) rfl rfl rfl ?_
  refine xx_obj (pc' := 4) rfl rfl (Nat.le_of_ble_eq_true rfl) rfl ?_
  refine xi_aload_n (pc' := 5) rfl rfl rfl ?_
  refine xi_iconst (pc' := 6) rfl rfl ?_
  refine xx_newI (n := 4) (pc' := 8) rfl rfl (by decide) (show 81 + 2 * n + 1 < 1000000 by omega) (show cb_kd (81 + 2 * n + 1) = (1, 4) by rw [show 81 + 2 * n + 1 = 82 + 2 * n by omega]; exact kd_M1 h8) rfl ?_
  refine xx_putP (v := some (81 + 2 * n + 1)) (pc' := 11) rfl rfl (by decide) (kd_M0 h8) (by decide) (show 81 + 2 * n < 81 + 2 * n + 1 + 1 by omega) rfl rfl ?_
  rw [hX_new]
  refine xi_aload_n (pc' := 12) rfl rfl rfl ?_
  refine xi_iload_n (pc' := 13) rfl rfl rfl ?_
  refine xx_putI (pc' := 16) rfl rfl (by decide) (kd_M0 h8) (by decide) (show 81 + 2 * n < 83 + 2 * n by omega) (Or.inl rfl) rfl ?_
  rw [hX_put]
  refine xi_aload_n (pc' := 17) rfl rfl rfl ?_
  refine xi_iload_n (pc' := 18) rfl rfl rfl ?_
  refine xx_putI (pc' := 21) rfl rfl (by decide) (kd_M0 h8) (by decide) (show 81 + 2 * n < 83 + 2 * n by omega) (Or.inl rfl) rfl ?_
  rw [hX_put]
  refine xi_aload_n (pc' := 22) rfl rfl rfl ?_
  refine xi_iload_n (pc' := 23) rfl rfl rfl ?_
  refine xx_putI (pc' := 26) rfl rfl (by decide) (kd_M0 h8) (by decide) (show 81 + 2 * n < 83 + 2 * n by omega) (Or.inl rfl) rfl ?_
  rw [hX_put]
  refine xi_aload_n (pc' := 27) rfl rfl rfl ?_
  refine xi_iload (pc' := 29) rfl rfl rfl ?_
  refine xx_putI (pc' := 32) rfl rfl (by decide) (kd_M0 h8) (by decide) (show 81 + 2 * n < 83 + 2 * n by omega) (Or.inl rfl) rfl ?_
  rw [hX_put]
  refine xi_aload_n (pc' := 33) rfl rfl rfl ?_
  refine xi_iload (pc' := 35) rfl rfl rfl ?_
  refine xx_putI (pc' := 38) rfl rfl (by decide) (kd_M0 h8) (by decide) (show 81 + 2 * n < 83 + 2 * n by omega) (Or.inl rfl) rfl ?_
  rw [hX_put]
  refine xi_aload_n (pc' := 39) rfl rfl rfl ?_
  refine xi_iload (pc' := 41) rfl rfl rfl ?_
  refine xx_putI (pc' := 44) rfl rfl (by decide) (kd_M0 h8) (by decide) (show 81 + 2 * n < 83 + 2 * n by omega) (Or.inl rfl) rfl ?_
  rw [hX_put]
  refine xx_return rfl (by decide) ?_
  exact ⟨rfl, rfl⟩
theorem c_tadd {L : Nat} {xs : Nat → Int32} {D n : Nat} {I J : ex_Mem} (h8 : n < 8) (hcn : I 44 2 = nI n) : rn cb_G L xs D 60 [.ref 44, .ref (81 + 2 * n)] (hX n I J) (fun r h => r = some (.int (nI n)) ∧ h = mkH (n + 1) (ex_wI I 44 2 (nI (n + 1))) J) := by
  show xx cb_G _ _ _ 60 0 [.ref 44, .ref (81 + 2 * n)] [] _ _
  refine xi_aload_n (pc' := 1) rfl rfl rfl ?_
  refine xx_get (v := .ref 45) (pc' := 4) rfl rfl (by decide) rfl (by decide) (show 44 < 83 + 2 * n by omega) (by show va_rf (PX n 44 0) = _; rw [PX_lt (by decide)]; rfl) rfl ?_
  refine xi_aload_n (pc' := 5) rfl rfl rfl ?_
  refine xx_get (v := .int (nI n)) (pc' := 8) rfl rfl (by decide) rfl (by decide) (show 44 < 83 + 2 * n by omega) (by show Value.int (mm I J 44 2) = _; rw [mm_c (by decide), hcn]) rfl ?_
  refine xi_aload_n (pc' := 9) rfl rfl rfl ?_
  refine xx_aast (j := n) (t := 7) (pc' := 10) rfl rfl (show 45 < 83 + 2 * n by omega) (show 81 + 2 * n < 83 + 2 * n by omega) (kd_M0 h8) rfl h8 (by decide) rfl ?_
  rw [hX_add]
  refine xi_aload_n (pc' := 11) rfl rfl rfl ?_
  refine xi_dup (pc' := 12) rfl rfl rfl ?_
  refine xc_getiv (v := nI (n)) (pc' := 15) rfl rfl (by decide) rfl (by decide) (by omega) (by decide) (by decide) (hcn) rfl ?_
  refine xi_iconst (pc' := 16) rfl rfl ?_
  refine xi_iadd (pc' := 17) rfl rfl ?_
  refine xx_topi (y := nI (n + 1)) (ix_add n 1) ?_
  refine xc_puti (pc' := 20) rfl rfl (by decide) rfl (by decide) (by omega) (by decide) (Or.inl rfl) rfl ?_
  refine xi_aload_n (pc' := 21) rfl rfl rfl ?_
  refine xc_getiv (v := nI (n + 1)) (pc' := 24) rfl rfl (by decide) rfl (by decide) (by omega) (by decide) (by decide) (rfl) rfl ?_
  refine xi_iconst (pc' := 25) rfl rfl ?_
  refine xi_isub (pc' := 26) rfl rfl ?_
  refine xx_topi (y := nI n) (ix_pred n) ?_
  refine xx_ireturn rfl rfl ?_
  exact ⟨rfl, rfl⟩
theorem f_msg_s {L : Nat} {xs : Nat → Int32} {D n : Nat} {I J : ex_Mem} {kd x y s nn per : Int32} (hz : I 44 4 = nI 1) : ri L xs (D + 2) 14 [.ref 0, .int kd, .int x, .int y, .int s, .int nn, .int per] (mkH n I J) (- nI 6) (mkH n I J) := by
  show xx cb_G _ _ _ 14 0 [.ref 0, .int kd, .int x, .int y, .int s, .int nn, .int per] [] _ _
  refine xi_aload_n (pc' := 1) rfl rfl rfl ?_
  refine xc_getp (pc' := 4) rfl rfl (by decide) rfl (by omega) (by decide) rfl rfl rfl ?_
  refine xc_getiv (v := nI (1)) (pc' := 7) rfl rfl (by decide) rfl (by decide) (by omega) (by decide) (by decide) (hz) rfl ?_
  refine xi_iff (pc' := 10) (tg := 13) rfl rfl (by decide) rfl ?_
  refine xi_bipushm (pc' := 12) rfl (by decide) rfl ?_
  refine xx_ireturn rfl rfl ?_
  exact ⟨rfl, rfl⟩
theorem f_msg_bp {L : Nat} {xs : Nat → Int32} {D n : Nat} {I J : ex_Mem} {kd x y s nn per : Int32} (hz : I 44 4 = nI 0) (hp : ¬ isP per) : ri L xs (D + 2) 14 [.ref 0, .int kd, .int x, .int y, .int s, .int nn, .int per] (mkH n I J) (- nI 1) (mkH n I J) := by
  show xx cb_G _ _ _ 14 0 [.ref 0, .int kd, .int x, .int y, .int s, .int nn, .int per] [] _ _
  refine xi_aload_n (pc' := 1) rfl rfl rfl ?_
  refine xc_getp (pc' := 4) rfl rfl (by decide) rfl (by omega) (by decide) rfl rfl rfl ?_
  refine xc_getiv (v := nI (0)) (pc' := 7) rfl rfl (by decide) rfl (by decide) (by omega) (by decide) (by decide) (hz) rfl ?_
  refine xi_ift (pc' := 13) rfl rfl (by decide) ?_
  refine xi_iload (pc' := 15) rfl rfl rfl ?_
  refine xx_callSi (pc' := 18) rfl rfl (by decide) rfl (Nat.le_of_ble_eq_true rfl) rfl rfl (c_isPer0 hp) ?_
  refine xi_ift (pc' := 41) rfl rfl (by decide) ?_
  refine xi_iconstm (pc' := 42) rfl rfl ?_
  refine xx_ireturn rfl rfl ?_
  exact ⟨rfl, rfl⟩
theorem f_msg_bt {L : Nat} {xs : Nat → Int32} {D n : Nat} {I J : ex_Mem} {kd x y s nn per : Int32} (hz : I 44 4 = nI 0) (hp : isP per) (ht : ¬ aT kd x y) : ri L xs (D + 2) 14 [.ref 0, .int kd, .int x, .int y, .int s, .int nn, .int per] (mkH n I J) (- nI 1) (mkH n I J) := by
  show xx cb_G _ _ _ 14 0 [.ref 0, .int kd, .int x, .int y, .int s, .int nn, .int per] [] _ _
  refine xi_aload_n (pc' := 1) rfl rfl rfl ?_
  refine xc_getp (pc' := 4) rfl rfl (by decide) rfl (by omega) (by decide) rfl rfl rfl ?_
  refine xc_getiv (v := nI (0)) (pc' := 7) rfl rfl (by decide) rfl (by decide) (by omega) (by decide) (by decide) (hz) rfl ?_
  refine xi_ift (pc' := 13) rfl rfl (by decide) ?_
  refine xi_iload (pc' := 15) rfl rfl rfl ?_
  refine xx_callSi (pc' := 18) rfl rfl (by decide) rfl (Nat.le_of_ble_eq_true rfl) rfl rfl (c_isPer1 hp) ?_
  refine xi_iff (pc' := 21) (tg := 41) rfl rfl (by decide) rfl ?_
  refine xi_iload_n (pc' := 22) rfl rfl rfl ?_
  refine xi_iload_n (pc' := 23) rfl rfl rfl ?_
  refine xi_iload_n (pc' := 24) rfl rfl rfl ?_
  refine xx_callSi (pc' := 27) rfl rfl (by decide) rfl (Nat.le_of_ble_eq_true rfl) rfl rfl (c_aT0 ht) ?_
  refine xi_ift (pc' := 41) rfl rfl (by decide) ?_
  refine xi_iconstm (pc' := 42) rfl rfl ?_
  refine xx_ireturn rfl rfl ?_
  exact ⟨rfl, rfl⟩
theorem f_msg_bc {L : Nat} {xs : Nat → Int32} {D n : Nat} {I J : ex_Mem} {kd x y s nn per : Int32} (hz : I 44 4 = nI 0) (hp : isP per) (ht : aT kd x y) (hc : ¬ aC kd s nn) : ri L xs (D + 2) 14 [.ref 0, .int kd, .int x, .int y, .int s, .int nn, .int per] (mkH n I J) (- nI 1) (mkH n I J) := by
  show xx cb_G _ _ _ 14 0 [.ref 0, .int kd, .int x, .int y, .int s, .int nn, .int per] [] _ _
  refine xi_aload_n (pc' := 1) rfl rfl rfl ?_
  refine xc_getp (pc' := 4) rfl rfl (by decide) rfl (by omega) (by decide) rfl rfl rfl ?_
  refine xc_getiv (v := nI (0)) (pc' := 7) rfl rfl (by decide) rfl (by decide) (by omega) (by decide) (by decide) (hz) rfl ?_
  refine xi_ift (pc' := 13) rfl rfl (by decide) ?_
  refine xi_iload (pc' := 15) rfl rfl rfl ?_
  refine xx_callSi (pc' := 18) rfl rfl (by decide) rfl (Nat.le_of_ble_eq_true rfl) rfl rfl (c_isPer1 hp) ?_
  refine xi_iff (pc' := 21) (tg := 41) rfl rfl (by decide) rfl ?_
  refine xi_iload_n (pc' := 22) rfl rfl rfl ?_
  refine xi_iload_n (pc' := 23) rfl rfl rfl ?_
  refine xi_iload_n (pc' := 24) rfl rfl rfl ?_
  refine xx_callSi (pc' := 27) rfl rfl (by decide) rfl (Nat.le_of_ble_eq_true rfl) rfl rfl (c_aT1 ht) ?_
  refine xi_iff (pc' := 30) (tg := 41) rfl rfl (by decide) rfl ?_
  refine xi_iload_n (pc' := 31) rfl rfl rfl ?_
  refine xi_iload (pc' := 33) rfl rfl rfl ?_
  refine xi_iload (pc' := 35) rfl rfl rfl ?_
  refine xx_callSi (pc' := 38) rfl rfl (by decide) rfl (Nat.le_of_ble_eq_true rfl) rfl rfl (c_aC0 hc) ?_
  refine xi_iff (pc' := 41) (tg := 43) rfl rfl (by decide) rfl ?_
  refine xi_iconstm (pc' := 42) rfl rfl ?_
  refine xx_ireturn rfl rfl ?_
  exact ⟨rfl, rfl⟩
theorem f_msg_f {L : Nat} {xs : Nat → Int32} {D n : Nat} {I J : ex_Mem} {kd x y s nn per : Int32} (hz : I 44 4 = nI 0) (hp : isP per) (ht : aT kd x y) (hc : aC kd s nn) (hcn : I 44 2 = nI 8) : ri L xs (D + 2) 14 [.ref 0, .int kd, .int x, .int y, .int s, .int nn, .int per] (mkH n I J) (- nI 2) (mkH n I J) := by
  show xx cb_G _ _ _ 14 0 [.ref 0, .int kd, .int x, .int y, .int s, .int nn, .int per] [] _ _
  refine xi_aload_n (pc' := 1) rfl rfl rfl ?_
  refine xc_getp (pc' := 4) rfl rfl (by decide) rfl (by omega) (by decide) rfl rfl rfl ?_
  refine xc_getiv (v := nI (0)) (pc' := 7) rfl rfl (by decide) rfl (by decide) (by omega) (by decide) (by decide) (hz) rfl ?_
  refine xi_ift (pc' := 13) rfl rfl (by decide) ?_
  refine xi_iload (pc' := 15) rfl rfl rfl ?_
  refine xx_callSi (pc' := 18) rfl rfl (by decide) rfl (Nat.le_of_ble_eq_true rfl) rfl rfl (c_isPer1 hp) ?_
  refine xi_iff (pc' := 21) (tg := 41) rfl rfl (by decide) rfl ?_
  refine xi_iload_n (pc' := 22) rfl rfl rfl ?_
  refine xi_iload_n (pc' := 23) rfl rfl rfl ?_
  refine xi_iload_n (pc' := 24) rfl rfl rfl ?_
  refine xx_callSi (pc' := 27) rfl rfl (by decide) rfl (Nat.le_of_ble_eq_true rfl) rfl rfl (c_aT1 ht) ?_
  refine xi_iff (pc' := 30) (tg := 41) rfl rfl (by decide) rfl ?_
  refine xi_iload_n (pc' := 31) rfl rfl rfl ?_
  refine xi_iload (pc' := 33) rfl rfl rfl ?_
  refine xi_iload (pc' := 35) rfl rfl rfl ?_
  refine xx_callSi (pc' := 38) rfl rfl (by decide) rfl (Nat.le_of_ble_eq_true rfl) rfl rfl (c_aC1 hc) ?_
  refine xi_ift (pc' := 43) rfl rfl (by decide) ?_
  refine xi_aload_n (pc' := 44) rfl rfl rfl ?_
  refine xc_getp (pc' := 47) rfl rfl (by decide) rfl (by omega) (by decide) rfl rfl rfl ?_
  refine xc_getiv (v := nI (8)) (pc' := 50) rfl rfl (by decide) rfl (by decide) (by omega) (by decide) (by decide) (hcn) rfl ?_
  refine xi_bipush (pc' := 52) rfl (by decide) rfl ?_
  refine xi_icmpf (pc' := 55) (tg := 58) rfl rfl (by decide) rfl ?_
  refine xi_bipushm (pc' := 57) rfl (by decide) rfl ?_
  refine xx_ireturn rfl rfl ?_
  exact ⟨rfl, rfl⟩
theorem f_msg_a {L : Nat} {xs : Nat → Int32} {D n : Nat} {I J : ex_Mem} {kd x y s nn per : Int32} (hz : I 44 4 = nI 0) (hp : isP per) (ht : aT kd x y) (hc : aC kd s nn) (h8 : n < 8) (hcn : I 44 2 = nI n) : ri L xs (D + 2) 14 [.ref 0, .int kd, .int x, .int y, .int s, .int nn, .int per] (mkH n I J) (nI n) (mkH (n + 1) (q_add I n kd x y s nn per) J) := by
  show xx cb_G _ _ _ 14 0 [.ref 0, .int kd, .int x, .int y, .int s, .int nn, .int per] [] _ _
  refine xi_aload_n (pc' := 1) rfl rfl rfl ?_
  refine xc_getp (pc' := 4) rfl rfl (by decide) rfl (by omega) (by decide) rfl rfl rfl ?_
  refine xc_getiv (v := nI (0)) (pc' := 7) rfl rfl (by decide) rfl (by decide) (by omega) (by decide) (by decide) (hz) rfl ?_
  refine xi_ift (pc' := 13) rfl rfl (by decide) ?_
  refine xi_iload (pc' := 15) rfl rfl rfl ?_
  refine xx_callSi (pc' := 18) rfl rfl (by decide) rfl (Nat.le_of_ble_eq_true rfl) rfl rfl (c_isPer1 hp) ?_
  refine xi_iff (pc' := 21) (tg := 41) rfl rfl (by decide) rfl ?_
  refine xi_iload_n (pc' := 22) rfl rfl rfl ?_
  refine xi_iload_n (pc' := 23) rfl rfl rfl ?_
  refine xi_iload_n (pc' := 24) rfl rfl rfl ?_
  refine xx_callSi (pc' := 27) rfl rfl (by decide) rfl (Nat.le_of_ble_eq_true rfl) rfl rfl (c_aT1 ht) ?_
  refine xi_iff (pc' := 30) (tg := 41) rfl rfl (by decide) rfl ?_
  refine xi_iload_n (pc' := 31) rfl rfl rfl ?_
  refine xi_iload (pc' := 33) rfl rfl rfl ?_
  refine xi_iload (pc' := 35) rfl rfl rfl ?_
  refine xx_callSi (pc' := 38) rfl rfl (by decide) rfl (Nat.le_of_ble_eq_true rfl) rfl rfl (c_aC1 hc) ?_
  refine xi_ift (pc' := 43) rfl rfl (by decide) ?_
  refine xi_aload_n (pc' := 44) rfl rfl rfl ?_
  refine xc_getp (pc' := 47) rfl rfl (by decide) rfl (by omega) (by decide) rfl rfl rfl ?_
  refine xc_getiv (v := nI (n)) (pc' := 50) rfl rfl (by decide) rfl (by decide) (by omega) (by decide) (by decide) (hcn) rfl ?_
  refine xi_bipush (pc' := 52) rfl (by decide) rfl ?_
  refine xx_icmp (pc' := 55) (tg := 58) rfl rfl rfl (fun q52 => ?_) (fun q52 => absurd (show ex_P .ne (nI n) (nI 8) from fun q => absurd ((nI_lit (by omega) (by decide)).mp q) (by omega)) q52)
  have hcn' : q_mk I n kd x y s nn per 44 2 = nI n := by
    unfold q_mk q_new
    rw [wI_fr (by omega), wI_fr (by omega), wI_fr (by omega), wI_fr (by omega), wI_fr (by omega), wI_fr (by omega), cI_get, if_neg (by omega), cI_get, if_neg (by omega), hcn]
  refine xi_aload_n (pc' := 59) rfl rfl rfl ?_
  refine xc_getp (pc' := 62) rfl rfl (by decide) rfl (by omega) (by decide) rfl rfl rfl ?_
  refine xx_new (pc' := 65) rfl rfl (show 81 + 2 * n < 1000000 by omega) (kd_M0 h8) rfl ?_
  refine xi_dup (pc' := 66) rfl rfl rfl ?_
  refine xi_iload_n (pc' := 67) rfl rfl rfl ?_
  refine xi_iload_n (pc' := 68) rfl rfl rfl ?_
  refine xi_iload_n (pc' := 69) rfl rfl rfl ?_
  refine xi_iload (pc' := 71) rfl rfl rfl ?_
  refine xi_iload (pc' := 73) rfl rfl rfl ?_
  refine xi_iload (pc' := 75) rfl rfl rfl ?_
  refine xx_callI (pc' := 78) rfl rfl (by decide) rfl (Nat.le_of_ble_eq_true rfl) rfl rfl (c_minit h8) (fun r h q => ?_)
  obtain ⟨rfl, rfl⟩ := q
  refine xx_callV (pc' := 81) rfl rfl (by decide) rfl rfl (show 44 < 83 + 2 * n by omega) (Nat.le_of_ble_eq_true rfl) rfl rfl (c_tadd h8 hcn') (fun r h q => ?_)
  obtain ⟨rfl, rfl⟩ := q
  refine xx_ireturn rfl rfl ?_
  exact ⟨rfl, rfl⟩
