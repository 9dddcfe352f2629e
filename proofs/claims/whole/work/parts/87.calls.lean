/-! calls with exact answers; small numbers -/
def bI (P : Prop) (d : Decidable P) : Int32 := @ite Int32 P d (nI 1) (nI 0)
section XCL
variable {L : Nat} {xs : Nat → Int32} {D mi pc pc' : Nat} {lv st : List Value} {h h' : ex_Hp} {Q : Option Value → ex_Hp → Prop}
def ri (L : Nat) (xs : Nat → Int32) (D y : Nat) (as : List Value) (h : ex_Hp) (v : Int32) (h' : ex_Hp) : Prop := rn cb_G L xs D y as h (fun r h1 => r = some (.int v) ∧ h1 = h')
def rl (L : Nat) (xs : Nat → Int32) (D y : Nat) (as : List Value) (h : ex_Hp) (v : Int64) (h' : ex_Hp) : Prop := rn cb_G L xs D y as h (fun r h1 => r = some (.long v) ∧ h1 = h')
def rp (L : Nat) (xs : Nat → Int32) (D y : Nat) (as : List Value) (h : ex_Hp) (v : Option Nat) (h' : ex_Hp) : Prop := rn cb_G L xs D y as h (fun r h1 => r = some (va_rf v) ∧ h1 = h')
def ro (L : Nat) (xs : Nat → Int32) (D y : Nat) (as : List Value) (h h' : ex_Hp) : Prop := rn cb_G L xs D y as h (fun r h1 => r = none ∧ h1 = h')
section V
variable {i tag y n a : Nat} {z : Int} {as u : List Value} (hf : ex_look (ex_cd cb_G mi) pc = some (.invokevirtual i)) (hl : ex_look (ex_lt cb_G (ex_ow cb_G mi)) i = some (tag, y, n, z)) (ht : tag = 2 ∨ tag = 3) (hst : ex_args n st = some (as, .ref a :: u)) (hk : cb_kd a = (0, ex_ow cb_G y)) (ha : a < h.1) (hu : (u.map fun v => v.category).sum ≤ 8) (hfit : ex_fit cb_G y (.ref a :: as) = true) (hpc : pc + 3 = pc')
theorem xx_callVi {v : Int32} (hf : ex_look (ex_cd cb_G mi) pc = some (.invokevirtual i)) (hl : ex_look (ex_lt cb_G (ex_ow cb_G mi)) i = some (tag, y, n, z)) (ht : tag = 2 ∨ tag = 3) (hst : ex_args n st = some (as, .ref a :: u)) (hk : cb_kd a = (0, ex_ow cb_G y)) (ha : a < h.1) (hu : (u.map fun v => v.category).sum ≤ 8) (hfit : ex_fit cb_G y (.ref a :: as) = true) (hpc : pc + 3 = pc')
    (hy : ri L xs D y (.ref a :: as) h v h') (kk : xx cb_G L xs (D + 1) mi pc' lv (.int v :: u) h' Q) : xx cb_G L xs (D + 1) mi pc lv st h Q :=
  xx_callV hf hl ht hst hk ha hu hfit hpc hy (fun r h1 q => by obtain ⟨rfl, rfl⟩ := q; exact kk)
theorem xx_callVr {v : Option Nat} (hf : ex_look (ex_cd cb_G mi) pc = some (.invokevirtual i)) (hl : ex_look (ex_lt cb_G (ex_ow cb_G mi)) i = some (tag, y, n, z)) (ht : tag = 2 ∨ tag = 3) (hst : ex_args n st = some (as, .ref a :: u)) (hk : cb_kd a = (0, ex_ow cb_G y)) (ha : a < h.1) (hu : (u.map fun v => v.category).sum ≤ 8) (hfit : ex_fit cb_G y (.ref a :: as) = true) (hpc : pc + 3 = pc')
    (hy : rp L xs D y (.ref a :: as) h v h') (kk : xx cb_G L xs (D + 1) mi pc' lv (va_rf v :: u) h' Q) : xx cb_G L xs (D + 1) mi pc lv st h Q :=
  xx_callV hf hl ht hst hk ha hu hfit hpc hy (fun r h1 q => by obtain ⟨rfl, rfl⟩ := q; exact kk)
theorem xx_callVl {v : Int64} (hf : ex_look (ex_cd cb_G mi) pc = some (.invokevirtual i)) (hl : ex_look (ex_lt cb_G (ex_ow cb_G mi)) i = some (tag, y, n, z)) (ht : tag = 2 ∨ tag = 3) (hst : ex_args n st = some (as, .ref a :: u)) (hk : cb_kd a = (0, ex_ow cb_G y)) (ha : a < h.1) (hu : (u.map fun v => v.category).sum ≤ 8) (hfit : ex_fit cb_G y (.ref a :: as) = true) (hpc : pc + 3 = pc')
    (hy : rl L xs D y (.ref a :: as) h v h') (kk : xx cb_G L xs (D + 1) mi pc' lv (.long v :: u) h' Q) : xx cb_G L xs (D + 1) mi pc lv st h Q :=
  xx_callV hf hl ht hst hk ha hu hfit hpc hy (fun r h1 q => by obtain ⟨rfl, rfl⟩ := q; exact kk)
theorem xx_callVv (hf : ex_look (ex_cd cb_G mi) pc = some (.invokevirtual i)) (hl : ex_look (ex_lt cb_G (ex_ow cb_G mi)) i = some (tag, y, n, z)) (ht : tag = 2 ∨ tag = 3) (hst : ex_args n st = some (as, .ref a :: u)) (hk : cb_kd a = (0, ex_ow cb_G y)) (ha : a < h.1) (hu : (u.map fun v => v.category).sum ≤ 8) (hfit : ex_fit cb_G y (.ref a :: as) = true) (hpc : pc + 3 = pc')
    (hy : ro L xs D y (.ref a :: as) h h') (kk : xx cb_G L xs (D + 1) mi pc' lv u h' Q) : xx cb_G L xs (D + 1) mi pc lv st h Q :=
  xx_callV hf hl ht hst hk ha hu hfit hpc hy (fun r h1 q => by obtain ⟨rfl, rfl⟩ := q; exact kk)
theorem xx_callSi {v : Int32} (hf : ex_look (ex_cd cb_G mi) pc = some (.invokestatic i)) (hl : ex_look (ex_lt cb_G (ex_ow cb_G mi)) i = some (tag, y, n, z)) (ht : tag = 4 ∨ tag = 5) (hst : ex_args n st = some (as, u)) (hu : (u.map fun v => v.category).sum ≤ 8) (hfit : ex_fit cb_G y as = true) (hpc : pc + 3 = pc')
    (hy : ri L xs D y as h v h') (kk : xx cb_G L xs (D + 1) mi pc' lv (.int v :: u) h' Q) : xx cb_G L xs (D + 1) mi pc lv st h Q :=
  xx_callS hf hl ht hst hu hfit hpc hy (fun r h1 q => by obtain ⟨rfl, rfl⟩ := q; exact kk)
theorem xx_callSl {v : Int64} (hf : ex_look (ex_cd cb_G mi) pc = some (.invokestatic i)) (hl : ex_look (ex_lt cb_G (ex_ow cb_G mi)) i = some (tag, y, n, z)) (ht : tag = 4 ∨ tag = 5) (hst : ex_args n st = some (as, u)) (hu : (u.map fun v => v.category).sum ≤ 8) (hfit : ex_fit cb_G y as = true) (hpc : pc + 3 = pc')
    (hy : rl L xs D y as h v h') (kk : xx cb_G L xs (D + 1) mi pc' lv (.long v :: u) h' Q) : xx cb_G L xs (D + 1) mi pc lv st h Q :=
  xx_callS hf hl ht hst hu hfit hpc hy (fun r h1 q => by obtain ⟨rfl, rfl⟩ := q; exact kk)
theorem xx_callSv (hf : ex_look (ex_cd cb_G mi) pc = some (.invokestatic i)) (hl : ex_look (ex_lt cb_G (ex_ow cb_G mi)) i = some (tag, y, n, z)) (ht : tag = 4 ∨ tag = 5) (hst : ex_args n st = some (as, u)) (hu : (u.map fun v => v.category).sum ≤ 8) (hfit : ex_fit cb_G y as = true) (hpc : pc + 3 = pc')
    (hy : ro L xs D y as h h') (kk : xx cb_G L xs (D + 1) mi pc' lv u h' Q) : xx cb_G L xs (D + 1) mi pc lv st h Q :=
  xx_callS hf hl ht hst hu hfit hpc hy (fun r h1 q => by obtain ⟨rfl, rfl⟩ := q; exact kk)
end V
end XCL
theorem ix_add (a b : Nat) : nI a + nI b = nI (a + b) := by
  unfold nI
  rw [Int32.ofNat_add]
theorem ix_mul (a b : Nat) : nI a * nI b = nI (a * b) := by
  unfold nI
  rw [Int32.ofNat_mul]
theorem ix_pred (a : Nat) : nI (a + 1) - nI 1 = nI a := by
  rw [← ix_add]
  exact Int32.add_sub_cancel _ _
theorem b01_0 : ex_b01 (nI 0) = true := by decide
theorem b01_1 : ex_b01 (nI 1) = true := by decide
theorem wI_get {I : ex_Mem} {a k b j : Nat} {v : Int32} : ex_wI I a k v b j = if b = a ∧ j = k then v else I b j := rfl
theorem nI_lit {a b : Nat} (ha : a < 2147483648) (hb : b < 2147483648) : (nI a = nI b) = (a = b) := by
  apply propext
  refine ⟨fun h => ?_, fun h => by rw [h]⟩
  have h1 := congrArg Int32.toInt h
  rw [nI_toInt ha, nI_toInt hb] at h1
  omega
theorem nI_lit0 {a : Nat} (ha : a < 2147483648) : (nI a = 0) = (a = 0) := nI_lit (b := 0) ha (by decide)
theorem xi_iincv {G : ex_G} {L : Nat} {xs : Nat → Int32} {D mi pc pc' : Nat} {lv lv' st : List Value} {h : ex_Hp} {Q : Option Value → ex_Hp → Prop} {i k : Nat} {x y : Int32} (hf : ex_look (ex_cd G mi) pc = some (.iinc i (.ofNat k))) (hl : lv[i]? = some (.int x)) (hv : x + nI k = y) (hs : ex_st1 lv i (.int y) = some lv') (hpc : pc + 3 = pc') (kk : xx G L xs D mi pc' lv' st h Q) : xx G L xs D mi pc lv st h Q := by
  subst hv
  exact xi_iinc hf hl hs hpc kk
