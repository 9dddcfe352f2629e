def cb_h0 : ex_Hp := (0, 0, fun _ _ => 0, fun _ _ => none)
/-! the heap with n messages: I holds the ints of the system, J those of the reference (addresses 52 to 80) -/
def cb_PT : List (List (Option Nat)) := [[some 1, some 2, some 3, some 44, some 47], [some 2, some 3], [some 8, some 14, some 20, some 26, some 32, some 38], [some 4, some 6, some 7], [some 5], [], [], [], [none, none, none, none, none, none, some 9, some 10, some 11, some 12, some 13], [], [], [], [], [], [none, none, none, none, none, none, some 15, some 16, some 17, some 18, some 19], [], [], [], [], [], [none, none, none, none, none, none, some 21, some 22, some 23, some 24, some 25], [], [], [], [], [], [none, none, none, none, none, none, some 27, some 28, some 29, some 30, some 31], [], [], [], [], [], [none, none, none, none, none, none, some 33, some 34, some 35, some 36, some 37], [], [], [], [], [], [none, none, none, none, none, none, some 39, some 40, some 41, some 42, some 43], [], [], [], [], [], [some 45, some 46], [], [], [some 48, some 49, some 50, some 51], [], [], [], [], [some 53, some 54, some 55, none, some 56, some 57, some 58, some 59, some 60, some 61, some 62, some 63, some 64, some 65, some 66, some 67, some 68, none, some 69, some 70, some 71, some 72, some 73, some 74, some 75, some 76, some 77, none, some 78, none, none, some 79, none, some 80], [], [], [], [], [], [], [], [], [], [], [], [], [], [], [], [], [], [], [], [], [], [], [], [], [], [], [], []]
def PD (n : Nat) : ex_Pm := fun a k => if a = 45 then (if k < n then some (81 + 2 * k) else none) else if a < 81 then (cb_PT.getD a []).getD k none else if k = 6 ∧ a % 2 = 1 ∧ a < 81 + 2 * n then some (a + 1) else none
def mm (I J : ex_Mem) : ex_Mem := fun a k => if 52 ≤ a ∧ a < 81 then J a k else I a k
def mkH (n : Nat) (I J : ex_Mem) : ex_Hp := (81 + 2 * n, 939 + 13 * n, mm I J, PD n)
theorem mm_self (I : ex_Mem) : mm I I = I := by
  funext a k
  unfold mm
  split <;> rfl
theorem mm_r {I J : ex_Mem} {a k : Nat} (h : 52 ≤ a ∧ a < 81) : mm I J a k = J a k := if_pos h
theorem mm_c {I J : ex_Mem} {a k : Nat} (h : ¬ (52 ≤ a ∧ a < 81)) : mm I J a k = I a k := if_neg h
theorem mm_wr {I J : ex_Mem} {a k : Nat} {v : Int32} (h : 52 ≤ a ∧ a < 81) : ex_wI (mm I J) a k v = mm I (ex_wI J a k v) := by
  funext b j
  show (if b = a ∧ j = k then v else if 52 ≤ b ∧ b < 81 then J b j else I b j) = (if 52 ≤ b ∧ b < 81 then (if b = a ∧ j = k then v else J b j) else I b j)
  by_cases h1 : b = a ∧ j = k
  · rw [if_pos h1, if_pos (by rw [h1.1]; exact h), if_pos h1]
  · rw [if_neg h1, if_neg h1]
theorem mm_wc {I J : ex_Mem} {a k : Nat} {v : Int32} (h : ¬ (52 ≤ a ∧ a < 81)) : ex_wI (mm I J) a k v = mm (ex_wI I a k v) J := by
  funext b j
  show (if b = a ∧ j = k then v else if 52 ≤ b ∧ b < 81 then J b j else I b j) = (if 52 ≤ b ∧ b < 81 then J b j else (if b = a ∧ j = k then v else I b j))
  by_cases h1 : b = a ∧ j = k
  · rw [if_pos h1, if_neg (by rw [h1.1]; exact h), if_pos h1]
  · rw [if_neg h1, if_neg h1]
theorem mm_cpc {I J : ex_Mem} {a0 sp a dp n : Nat} (h : ¬ (52 ≤ a ∧ a < 81)) (h0 : ¬ (52 ≤ a0 ∧ a0 < 81)) : ex_copy (mm I J) a0 sp a dp n = mm (ex_copy I a0 sp a dp n) J := by
  funext b j
  have e : ∀ x, ¬ (52 ≤ x ∧ x < 81) → mm I J x = I x := fun x hx => by funext k; exact mm_c hx
  show (if b = a then va_cpy (mm I J a0) (mm I J a) sp dp n j else mm I J b j) = (if 52 ≤ b ∧ b < 81 then J b j else (if b = a then va_cpy (I a0) (I a) sp dp n j else I b j))
  by_cases h1 : b = a
  · rw [if_pos h1, e a0 h0, e a h, if_neg (by rw [h1]; exact h), if_pos h1]
  · rw [if_neg h1, if_neg h1]
    rfl
section XR
variable {L : Nat} {xs : Nat → Int32} {D mi pc pc' n : Nat} {lv st : List Value} {I J : ex_Mem} {Q : Option Value → ex_Hp → Prop}
/-- the reference's own int field -/
theorem xr_geti {i k : Nat} {z : Int} (hf : ex_look (ex_cd cb_G mi) pc = some (.getfield i)) (hl : ex_look (ex_lt cb_G (ex_ow cb_G mi)) i = some (0, 8, k, z)) (hn : k < 34) (hv : ¬ cb_fk 8 k = 2) (hpc : pc + 3 = pc') (kk : xx cb_G L xs D mi pc' lv (.int (J 52 k) :: st) (mkH n I J) Q) : xx cb_G L xs D mi pc lv (.ref 52 :: st) (mkH n I J) Q := by
  refine xx_get hf hl (by decide) rfl hn (show 52 < 81 + 2 * n by omega) (v := .int (J 52 k)) ?_ hpc kk
  show (if cb_fk 8 k = 2 then va_rf (PD n 52 k) else .int (mm I J 52 k)) = _
  rw [if_neg hv, mm_r (by decide)]
theorem xr_getp {i k q : Nat} {z : Int} (hf : ex_look (ex_cd cb_G mi) pc = some (.getfield i)) (hl : ex_look (ex_lt cb_G (ex_ow cb_G mi)) i = some (0, 8, k, z)) (hn : k < 34) (hv : cb_fk 8 k = 2) (hp : (cb_PT.getD 52 []).getD k none = some q) (hpc : pc + 3 = pc') (kk : xx cb_G L xs D mi pc' lv (.ref q :: st) (mkH n I J) Q) : xx cb_G L xs D mi pc lv (.ref 52 :: st) (mkH n I J) Q := by
  refine xx_get hf hl (by decide) rfl hn (show 52 < 81 + 2 * n by omega) (v := .ref q) ?_ hpc kk
  show (if cb_fk 8 k = 2 then va_rf (PD n 52 k) else .int (mm I J 52 k)) = _
  rw [if_pos hv]
  show va_rf ((cb_PT.getD 52 []).getD k none) = _
  rw [hp]; rfl
theorem xr_puti {i k : Nat} {z : Int} {v : Int32} (hf : ex_look (ex_cd cb_G mi) pc = some (.putfield i)) (hl : ex_look (ex_lt cb_G (ex_ow cb_G mi)) i = some (0, 8, k, 0)) (hn : k < 34) (hv : cb_fk 8 k = 0 ∨ cb_fk 8 k = 1 ∧ ex_b01 v = true) (hpc : pc + 3 = pc') (kk : xx cb_G L xs D mi pc' lv st (mkH n I (ex_wI J 52 k v)) Q) : xx cb_G L xs D mi pc lv (.int v :: .ref 52 :: st) (mkH n I J) Q := by
  refine xx_putI hf hl ⟨Or.inl rfl, Or.inl rfl⟩ rfl hn (show 52 < 81 + 2 * n by omega) hv hpc ?_
  have e : ex_hI (mkH n I J) 52 k v = mkH n I (ex_wI J 52 k v) := by
    show ((81 + 2 * n, 939 + 13 * n, ex_wI (mm I J) 52 k v, PD n) : ex_Hp) = _
    rw [mm_wr (by decide)]; rfl
  rw [e]
  exact kk
theorem xr_iald {a j m : Nat} {i : Int32} (hf : ex_look (ex_cd cb_G mi) pc = some .iaload) (hk : cb_kd a = (1, m)) (ha : 52 ≤ a ∧ a < 81) (hi : i = nI j) (hj : j < m) (hm : m < 2 ^ 31) (hpc : pc + 1 = pc') (kk : xx cb_G L xs D mi pc' lv (.int (J a j) :: st) (mkH n I J) Q) : xx cb_G L xs D mi pc lv (.int i :: .ref a :: st) (mkH n I J) Q :=
  xx_iald hf hk (show a < 81 + 2 * n by omega) (show a < 1000000 by omega) hi hj hm (mm_r ha) hpc kk
theorem xr_zald {a j m : Nat} {i : Int32} (hf : ex_look (ex_cd cb_G mi) pc = some .baload) (hk : cb_kd a = (2, m)) (ha : 52 ≤ a ∧ a < 81) (hi : i = nI j) (hj : j < m) (hm : m < 2 ^ 31) (hpc : pc + 1 = pc') (kk : xx cb_G L xs D mi pc' lv (.int (J a j) :: st) (mkH n I J) Q) : xx cb_G L xs D mi pc lv (.int i :: .ref a :: st) (mkH n I J) Q :=
  xx_zald hf hk (show a < 81 + 2 * n by omega) hi hj hm (mm_r ha) hpc kk
theorem mk_wr {a k : Nat} {v : Int32} (h : 52 ≤ a ∧ a < 81) : ex_hI (mkH n I J) a k v = mkH n I (ex_wI J a k v) := by
  show ((81 + 2 * n, 939 + 13 * n, ex_wI (mm I J) a k v, PD n) : ex_Hp) = _
  rw [mm_wr h]; rfl
theorem mk_wc {a k : Nat} {v : Int32} (h : ¬ (52 ≤ a ∧ a < 81)) : ex_hI (mkH n I J) a k v = mkH n (ex_wI I a k v) J := by
  show ((81 + 2 * n, 939 + 13 * n, ex_wI (mm I J) a k v, PD n) : ex_Hp) = _
  rw [mm_wc h]; rfl
theorem xr_iast {a j m : Nat} {i v : Int32} (hf : ex_look (ex_cd cb_G mi) pc = some .iastore) (hk : cb_kd a = (1, m)) (ha : 52 ≤ a ∧ a < 81) (hi : i = nI j) (hj : j < m) (hm : m < 2 ^ 31) (hpc : pc + 1 = pc') (kk : xx cb_G L xs D mi pc' lv st (mkH n I (ex_wI J a j v)) Q) : xx cb_G L xs D mi pc lv (.int v :: .int i :: .ref a :: st) (mkH n I J) Q := by
  refine xx_iast hf hk (show a < 81 + 2 * n by omega) hi hj hm hpc ?_
  rw [mk_wr ha]
  exact kk
theorem xr_zast {a j m : Nat} {i v : Int32} (hf : ex_look (ex_cd cb_G mi) pc = some .bastore) (hk : cb_kd a = (2, m)) (ha : 52 ≤ a ∧ a < 81) (hi : i = nI j) (hj : j < m) (hm : m < 2 ^ 31) (hv : ex_b01 v = true) (hpc : pc + 1 = pc') (kk : xx cb_G L xs D mi pc' lv st (mkH n I (ex_wI J a j v)) Q) : xx cb_G L xs D mi pc lv (.int v :: .int i :: .ref a :: st) (mkH n I J) Q := by
  refine xx_zast hf hk (show a < 81 + 2 * n by omega) hi hj hm hv hpc ?_
  rw [mk_wr ha]
  exact kk
/-- the system's cells -/
theorem xc_geti {i tag c k a : Nat} {z : Int} (hf : ex_look (ex_cd cb_G mi) pc = some (.getfield i)) (hl : ex_look (ex_lt cb_G (ex_ow cb_G mi)) i = some (tag, c, k, z)) (ht : tag ≤ 1) (hk : cb_kd a = (0, c)) (ha : ¬ (52 ≤ a ∧ a < 81)) (hs : a < 81 + 2 * n) (hn : k < cb_nf c) (hv : ¬ cb_fk c k = 2) (hpc : pc + 3 = pc') (kk : xx cb_G L xs D mi pc' lv (.int (I a k) :: st) (mkH n I J) Q) : xx cb_G L xs D mi pc lv (.ref a :: st) (mkH n I J) Q := by
  refine xx_get hf hl ht hk hn hs (v := .int (I a k)) ?_ hpc kk
  show (if cb_fk c k = 2 then va_rf (PD n a k) else .int (mm I J a k)) = _
  rw [if_neg hv, mm_c ha]
theorem xc_getp {i tag c k a q : Nat} {z : Int} (hf : ex_look (ex_cd cb_G mi) pc = some (.getfield i)) (hl : ex_look (ex_lt cb_G (ex_ow cb_G mi)) i = some (tag, c, k, z)) (ht : tag ≤ 1) (hk : cb_kd a = (0, c)) (hs : a < 81 + 2 * n) (hn : k < cb_nf c) (hv : cb_fk c k = 2) (hp : PD n a k = some q) (hpc : pc + 3 = pc') (kk : xx cb_G L xs D mi pc' lv (.ref q :: st) (mkH n I J) Q) : xx cb_G L xs D mi pc lv (.ref a :: st) (mkH n I J) Q := by
  refine xx_get hf hl ht hk hn hs (v := .ref q) ?_ hpc kk
  show (if cb_fk c k = 2 then va_rf (PD n a k) else .int (mm I J a k)) = _
  rw [if_pos hv, hp]; rfl
theorem xc_puti {i tag c k a : Nat} {v : Int32} (hf : ex_look (ex_cd cb_G mi) pc = some (.putfield i)) (hl : ex_look (ex_lt cb_G (ex_ow cb_G mi)) i = some (tag, c, k, 0)) (ht : tag ≤ 1) (hk : cb_kd a = (0, c)) (ha : ¬ (52 ≤ a ∧ a < 81)) (hs : a < 81 + 2 * n) (hn : k < cb_nf c) (hv : cb_fk c k = 0 ∨ cb_fk c k = 1 ∧ ex_b01 v = true) (hpc : pc + 3 = pc') (kk : xx cb_G L xs D mi pc' lv st (mkH n (ex_wI I a k v) J) Q) : xx cb_G L xs D mi pc lv (.int v :: .ref a :: st) (mkH n I J) Q := by
  refine xx_putI hf hl ⟨by omega, Or.inl rfl⟩ hk hn hs hv hpc ?_
  rw [mk_wc ha]
  exact kk
theorem xc_iald {a j m : Nat} {i : Int32} (hf : ex_look (ex_cd cb_G mi) pc = some .iaload) (hk : cb_kd a = (1, m)) (ha : ¬ (52 ≤ a ∧ a < 81)) (hs : a < 81 + 2 * n) (hs2 : a < 1000) (hi : i = nI j) (hj : j < m) (hm : m < 2 ^ 31) (hpc : pc + 1 = pc') (kk : xx cb_G L xs D mi pc' lv (.int (I a j) :: st) (mkH n I J) Q) : xx cb_G L xs D mi pc lv (.int i :: .ref a :: st) (mkH n I J) Q :=
  xx_iald hf hk hs (show a < 1000000 by omega) hi hj hm (mm_c ha) hpc kk
theorem xc_zald {a j m : Nat} {i : Int32} (hf : ex_look (ex_cd cb_G mi) pc = some .baload) (hk : cb_kd a = (2, m)) (ha : ¬ (52 ≤ a ∧ a < 81)) (hs : a < 81 + 2 * n) (hi : i = nI j) (hj : j < m) (hm : m < 2 ^ 31) (hpc : pc + 1 = pc') (kk : xx cb_G L xs D mi pc' lv (.int (I a j) :: st) (mkH n I J) Q) : xx cb_G L xs D mi pc lv (.int i :: .ref a :: st) (mkH n I J) Q :=
  xx_zald hf hk hs hi hj hm (mm_c ha) hpc kk
theorem xc_aald {a j m t q : Nat} {i : Int32} (hf : ex_look (ex_cd cb_G mi) pc = some .aaload) (hk : cb_kd a = (t + 3, m)) (hs : a < 81 + 2 * n) (hi : i = nI j) (hj : j < m) (hm : m < 2 ^ 31) (hp : PD n a j = some q) (hpc : pc + 1 = pc') (kk : xx cb_G L xs D mi pc' lv (.ref q :: st) (mkH n I J) Q) : xx cb_G L xs D mi pc lv (.int i :: .ref a :: st) (mkH n I J) Q :=
  xx_aald hf hk hs hi hj hm (show va_rf (PD n a j) = .ref q by rw [hp]; rfl) hpc kk
theorem xc_iast {a j m : Nat} {i v : Int32} (hf : ex_look (ex_cd cb_G mi) pc = some .iastore) (hk : cb_kd a = (1, m)) (ha : ¬ (52 ≤ a ∧ a < 81)) (hs : a < 81 + 2 * n) (hi : i = nI j) (hj : j < m) (hm : m < 2 ^ 31) (hpc : pc + 1 = pc') (kk : xx cb_G L xs D mi pc' lv st (mkH n (ex_wI I a j v) J) Q) : xx cb_G L xs D mi pc lv (.int v :: .int i :: .ref a :: st) (mkH n I J) Q := by
  refine xx_iast hf hk hs hi hj hm hpc ?_
  rw [mk_wc ha]
  exact kk
theorem xc_zast {a j m : Nat} {i v : Int32} (hf : ex_look (ex_cd cb_G mi) pc = some .bastore) (hk : cb_kd a = (2, m)) (ha : ¬ (52 ≤ a ∧ a < 81)) (hs : a < 81 + 2 * n) (hi : i = nI j) (hj : j < m) (hm : m < 2 ^ 31) (hv : ex_b01 v = true) (hpc : pc + 1 = pc') (kk : xx cb_G L xs D mi pc' lv st (mkH n (ex_wI I a j v) J) Q) : xx cb_G L xs D mi pc lv (.int v :: .int i :: .ref a :: st) (mkH n I J) Q := by
  refine xx_zast hf hk hs hi hj hm hv hpc ?_
  rw [mk_wc ha]
  exact kk
end XR
