/-! words on the wire -/
theorem and_n {a b : Nat} (ha : a < 2 ^ 31) : nI a &&& nI b = nI (a &&& b) := by
  apply Int32.toBitVec_inj.1
  show BitVec.ofNat 32 a &&& BitVec.ofNat 32 b = BitVec.ofNat 32 (a &&& b)
  apply BitVec.eq_of_toNat_eq
  simp only [BitVec.toNat_and, BitVec.toNat_ofNat]
  rw [Nat.and_mod_two_pow]
theorem sub_n {a b : Nat} (h : b ≤ a) : nI a - nI b = nI (a - b) := by
  have e : nI a = nI (a - b) + nI b := by rw [ix_add, Nat.sub_add_cancel h]
  rw [e]
  exact Int32.add_sub_cancel _ _
theorem shr_n {a i : Nat} (ha : a < 2 ^ 31) (hi : i < 32) : nI a >>> (nI i &&& 31) = nI (a >>> i) := by
  apply Int32.toBitVec_inj.1
  show BitVec.sshiftRight (BitVec.ofNat 32 a) ((nI i &&& 31).toBitVec.smod 32).toNat = BitVec.ofNat 32 (a >>> i)
  have e : ∀ i, i < 32 → ((nI i &&& 31).toBitVec.smod 32).toNat = i := by decide
  rw [e i hi, BitVec.sshiftRight_eq_of_msb_false]
  · apply BitVec.eq_of_toNat_eq
    rw [BitVec.toNat_ushiftRight, BitVec.toNat_ofNat, BitVec.toNat_ofNat, Nat.mod_eq_of_lt (by omega), Nat.mod_eq_of_lt]
    have := Nat.shiftRight_le a i
    omega
  · rw [BitVec.msb_eq_decide, BitVec.toNat_ofNat, Nat.mod_eq_of_lt (by omega)]
    simp
    omega
def q_us (x k : Int32) : Int32 := (x.toUInt32 >>> (k.toUInt32 &&& Int32.toUInt32 31)).toInt32
theorem us_n {a k : Nat} (ha : a < 2 ^ 31) (hk : k < 32) : q_us (nI a) (nI k) = nI (a >>> k) := by
  apply Int32.toBitVec_inj.1
  show (BitVec.ofNat 32 a) >>> ((BitVec.ofNat 32 k &&& 31#32) % 32#32) = BitVec.ofNat 32 (a >>> k)
  have e : ∀ k, k < 32 → ((BitVec.ofNat 32 k &&& 31#32) % 32#32).toNat = k := by decide
  apply BitVec.eq_of_toNat_eq
  show ((BitVec.ofNat 32 a) >>> ((BitVec.ofNat 32 k &&& 31#32) % 32#32).toNat).toNat = _
  rw [e k hk, BitVec.toNat_ushiftRight, BitVec.toNat_ofNat, BitVec.toNat_ofNat, Nat.mod_eq_of_lt (by omega), Nat.mod_eq_of_lt]
  have := Nat.shiftRight_le a k
  omega
def q_b1 (x : Int32) : Int32 := x - (q_us x (nI 1) &&& nI 1431655765)
def q_b2 (x : Int32) : Int32 := (x &&& nI 858993459) + (q_us x (nI 2) &&& nI 858993459)
def q_b3 (x : Int32) : Int32 := (x + q_us x (nI 4)) &&& nI 252645135
def q_b4 (x : Int32) : Int32 := x + q_us x (nI 8)
def q_b5 (x : Int32) : Int32 := x + q_us x (nI 16)
def q_bc (x : Int32) : Int32 := q_b5 (q_b4 (q_b3 (q_b2 (q_b1 x)))) &&& nI 63
def b1 (i : Nat) : Nat := Nat.sub i (Nat.land (Nat.shiftRight i 1) 1431655765)
def b2 (i : Nat) : Nat := Nat.add (Nat.land i 858993459) (Nat.land (Nat.shiftRight i 2) 858993459)
def b3 (i : Nat) : Nat := Nat.land (Nat.add i (Nat.shiftRight i 4)) 252645135
def b4 (i : Nat) : Nat := Nat.add i (Nat.shiftRight i 8)
def b5 (i : Nat) : Nat := Nat.add i (Nat.shiftRight i 16)
def bcN (i : Nat) : Nat := Nat.land (b5 (b4 (b3 (b2 (b1 i))))) 63
theorem b1_n {a : Nat} (h : a < 2 ^ 31) : q_b1 (nI a) = nI (b1 a) ∧ b1 a < 2 ^ 31 := by
  have h1 := Nat.shiftRight_le a 1
  have h2 : (a >>> 1) &&& 1431655765 ≤ a >>> 1 := Nat.and_le_left
  refine ⟨?_, ?_⟩
  · unfold q_b1
    rw [us_n h (by decide), and_n (by omega), sub_n (by omega)]
    rfl
  · show a - ((a >>> 1) &&& 1431655765) < 2 ^ 31
    omega
theorem b2_n {a : Nat} (h : a < 2 ^ 31) : q_b2 (nI a) = nI (b2 a) ∧ b2 a < 2 ^ 31 := by
  have h1 := Nat.shiftRight_le a 2
  have h2 : (a >>> 2) &&& 858993459 ≤ 858993459 := Nat.and_le_right
  have h3 : a &&& 858993459 ≤ 858993459 := Nat.and_le_right
  refine ⟨?_, ?_⟩
  · unfold q_b2
    rw [us_n h (by decide), and_n (by omega), and_n (by omega), ix_add]
    rfl
  · show (a &&& 858993459) + ((a >>> 2) &&& 858993459) < 2 ^ 31
    omega
theorem b3_n {a : Nat} (h : a < 1800000000) : q_b3 (nI a) = nI (b3 a) ∧ b3 a ≤ 252645135 := by
  have h1 : a >>> 4 ≤ 134217728 := by
    rw [Nat.shiftRight_eq_div_pow]
    omega
  have h3 : (a + a >>> 4) &&& 252645135 ≤ 252645135 := Nat.and_le_right
  refine ⟨?_, h3⟩
  unfold q_b3
  rw [us_n (by omega) (by decide), ix_add, and_n (by omega)]
  rfl
theorem b4_n {a : Nat} (h : a ≤ 252645135) : q_b4 (nI a) = nI (b4 a) ∧ b4 a ≤ 505290270 := by
  have h1 := Nat.shiftRight_le a 8
  refine ⟨?_, ?_⟩
  · unfold q_b4
    rw [us_n (by omega) (by decide), ix_add]
    rfl
  · show a + a >>> 8 ≤ _
    omega
theorem b5_n {a : Nat} (h : a ≤ 505290270) : q_b5 (nI a) = nI (b5 a) ∧ b5 a ≤ 1010580540 := by
  have h1 := Nat.shiftRight_le a 16
  refine ⟨?_, ?_⟩
  · unfold q_b5
    rw [us_n (by omega) (by decide), ix_add]
    rfl
  · show a + a >>> 16 ≤ _
    omega
theorem b2_le {a : Nat} : b2 a < 1800000000 := by
  have h2 : (a >>> 2) &&& 858993459 ≤ 858993459 := Nat.and_le_right
  have h3 : a &&& 858993459 ≤ 858993459 := Nat.and_le_right
  show (a &&& 858993459) + ((a >>> 2) &&& 858993459) < _
  omega
theorem bc_n {a : Nat} (h : a < 2 ^ 31) : q_bc (nI a) = nI (bcN a) := by
  unfold q_bc bcN
  have h1 := b1_n h
  have h2 := b2_n h1.2
  have h3 := b3_n (b2_le (a := b1 a))
  have h4 := b4_n h3.2
  have h5 := b5_n h4.2
  rw [h1.1, h2.1, h3.1, h4.1, h5.1, and_n (by omega)]
  rfl
def chkP (y : Nat) : Bool := Nat.beq (Nat.mod (bcN (Nat.mul 2 y)) 2) (Nat.mod (bcN y) 2) && Nat.beq (Nat.mod (bcN (Nat.add (Nat.mul 2 y) 1)) 2) (Nat.mod (Nat.add (bcN y) 1) 2)
def chkT : Nat → Nat → Bool
  | 0, y => chkP y
  | k + 1, y => chkT k (2 * y) && chkT k (2 * y + 1)
theorem chk_0 : chkT 14 0 = true := by decide +kernel
theorem chk_1 : chkT 14 1 = true := by decide +kernel
theorem chk_2 : chkT 14 2 = true := by decide +kernel
theorem chk_3 : chkT 14 3 = true := by decide +kernel
theorem chk_of : ∀ k y, chkT k y = true → ∀ j, j < 2 ^ k → chkP (2 ^ k * y + j) = true
  | 0, y, h, j, hj => by
    obtain rfl : j = 0 := by omega
    rw [Nat.pow_zero, Nat.one_mul]
    exact h
  | k + 1, y, h, j, hj => by
    have h' : (chkT k (2 * y) && chkT k (2 * y + 1)) = true := h
    rw [Bool.and_eq_true] at h'
    have hp : 2 ^ (k + 1) = 2 ^ k * 2 := Nat.pow_succ ..
    by_cases q : j < 2 ^ k
    · have := chk_of k (2 * y) h'.1 j q
      rw [hp, Nat.mul_assoc]
      exact this
    · have := chk_of k (2 * y + 1) h'.2 (j - 2 ^ k) (by omega)
      have e : 2 ^ (k + 1) * y + j = 2 ^ k * (2 * y + 1) + (j - 2 ^ k) := by
        rw [hp, Nat.mul_assoc, Nat.mul_add, Nat.mul_one]
        omega
      rw [e]
      exact this
theorem chk_all {y : Nat} (h : y < 65536) : chkP y = true := by
  have hy : y = 2 ^ 14 * (y / 16384) + y % 16384 := by
    have := Nat.div_add_mod y 16384
    omega
  have hm : y % 16384 < 2 ^ 14 := by omega
  rcases (show y / 16384 = 0 ∨ y / 16384 = 1 ∨ y / 16384 = 2 ∨ y / 16384 = 3 by omega) with q | q | q | q <;> rw [q] at hy <;> rw [hy]
  · exact chk_of 14 0 chk_0 _ hm
  · exact chk_of 14 1 chk_1 _ hm
  · exact chk_of 14 2 chk_2 _ hm
  · exact chk_of 14 3 chk_3 _ hm
theorem bc_2 {y b : Nat} (h : y < 65536) (hb : b < 2) : bcN (2 * y + b) % 2 = (bcN y + b) % 2 := by
  have h1 := chk_all h
  unfold chkP at h1
  rw [Bool.and_eq_true] at h1
  rcases (show b = 0 ∨ b = 1 by omega) with rfl | rfl
  · exact Nat.eq_of_beq_eq_true h1.1
  · exact Nat.eq_of_beq_eq_true h1.2
/-- the sum of the low k bits -/
def pc : Nat → Nat → Nat
  | 0, _ => 0
  | k + 1, x => pc k x + x / 2 ^ k % 2
theorem pc_2 {y b : Nat} (hb : b < 2) : ∀ k, pc (k + 1) (2 * y + b) = pc k y + b
  | 0 => by
    show 0 + (2 * y + b) / 2 ^ 0 % 2 = 0 + b
    rw [Nat.pow_zero, Nat.div_one]
    omega
  | k + 1 => by
    have ih := pc_2 (y := y) hb k
    show pc (k + 1) (2 * y + b) + (2 * y + b) / 2 ^ (k + 1) % 2 = pc k y + y / 2 ^ k % 2 + b
    have e : (2 * y + b) / 2 ^ (k + 1) = y / 2 ^ k := by
      rw [Nat.pow_succ', ← Nat.div_div_eq_div_mul]
      congr 1
      omega
    rw [ih, e]
    omega
theorem bc_pc : ∀ k, k ≤ 17 → ∀ x, x < 2 ^ k → bcN x % 2 = pc k x % 2
  | 0, _, x, h => by
    obtain rfl : x = 0 := by omega
    rfl
  | k + 1, hk, x, h => by
    have hp : 2 ^ (k + 1) = 2 ^ k * 2 := Nat.pow_succ ..
    have hx : x = 2 * (x / 2) + x % 2 := by omega
    have h2 : x / 2 < 2 ^ k := by omega
    have h16 : 2 ^ k ≤ 2 ^ 16 := Nat.pow_le_pow_right (by decide) (by omega)
    have ih := bc_pc k (by omega) (x / 2) h2
    rw [hx, bc_2 (by omega) (by omega), pc_2 (by omega)]
    omega
/-! encode and decode -/
def q_odd (x : Int32) : Int32 := if q_bc x &&& nI 1 = nI 1 then nI 1 else nI 0
theorem odd_n {x : Nat} (h : x < 2 ^ 17) : q_odd (nI x) = if pc 17 x % 2 = 1 then nI 1 else nI 0 := by
  have h1 := bc_pc 17 (Nat.le_refl _) x h
  have h63 : bcN x ≤ 63 := Nat.and_le_right
  unfold q_odd
  rw [bc_n (by omega), and_n (by omega), Nat.and_one_is_mod, h1]
  by_cases q : pc 17 x % 2 = 1
  · rw [q]; rfl
  · rw [show pc 17 x % 2 = 0 by omega]; rfl
theorem ebit_n {a i : Nat} (ha : a < 2 ^ 31) (hi : i < 32) : en_bit (nI a) (nI i) = nI (a / 2 ^ i % 2) := by
  unfold en_bit
  have := Nat.shiftRight_le a i
  rw [shr_n ha hi, and_n (by omega), Nat.and_one_is_mod, Nat.shiftRight_eq_div_pow]
def q_es (v b : Int32) (H : Int64) : Int64 := H * lN 4 + (if en_bit v b = nI 1 then nI 2 else nI 1).toInt64
def q_ef (v : Int32) : Nat → Int64 → Int64
  | 0, H => q_es v (nI 0) H
  | i + 1, H => q_ef v i (q_es v (nI (i + 1)) H)
def q_bits (v : Int32) : Int32 := v * nI 2 + (if q_odd v = 0 then nI 1 else nI 0)
def q_enc (d v : Int32) : Int64 := q_ef (q_bits v) 16 (if d = 0 then lN 56 else lN 7)
theorem es_eq {w p i : Nat} {o : Int32} {H : Int64} (hw : w < 65536) (hp : p < 2) (hi : i < 16) : q_es (nI (2 * w + p)) (nI (i + 1)) H = (en_st (nI w) (nI i) (o, H)).2 := by
  unfold q_es en_st
  rw [ebit_n (by omega) (by omega), ebit_n (by omega) (by omega)]
  have e : (2 * w + p) / 2 ^ (i + 1) = w / 2 ^ i := by
    rw [Nat.pow_succ', ← Nat.div_div_eq_div_mul]
    congr 1
    omega
  rw [e, Int64.mul_comm]
  rcases (show w / 2 ^ i % 2 = 0 ∨ w / 2 ^ i % 2 = 1 by omega) with q | q <;> rw [q] <;> rfl
theorem ef_eq {w p : Nat} (hw : w < 65536) (hp : p < 2) : ∀ i, i < 16 → ∀ (o : Int32) (H : Int64), q_ef (nI (2 * w + p)) (i + 1) H = q_es (nI (2 * w + p)) (nI 0) (en_f (nI w) i (o, H)).2
  | 0, _, o, H => by
    show q_es (nI (2 * w + p)) (nI 0) (q_es (nI (2 * w + p)) (nI (0 + 1)) H) = q_es (nI (2 * w + p)) (nI 0) (en_st (nI w) (nI 0) (o, H)).2
    rw [es_eq (o := o) hw hp (by decide)]
  | i + 1, hi, o, H => by
    show q_ef (nI (2 * w + p)) (i + 1) (q_es (nI (2 * w + p)) (nI (i + 1 + 1)) H) = q_es (nI (2 * w + p)) (nI 0) (en_f (nI w) i (en_st (nI w) (nI (i + 1)) (o, H))).2
    rw [es_eq (o := o) hw hp hi]
    exact ef_eq hw hp i (by omega) _ _
theorem ones_eq {w : Nat} (hw : w < 65536) : ∀ i, i < 16 → ∀ (o : Nat) (H : Int64), (en_f (nI w) i (nI o, H)).1 = nI (o + pc (i + 1) w)
  | 0, _, o, H => by
    show nI o + en_bit (nI w) (nI 0) = nI (o + (0 + w / 2 ^ 0 % 2))
    rw [ebit_n (by omega) (by decide), ix_add, Nat.zero_add]
  | i + 1, hi, o, H => by
    show (en_f (nI w) i (nI o + en_bit (nI w) (nI (i + 1)), (en_st (nI w) (nI (i + 1)) (nI o, H)).2)).1 = nI (o + (pc (i + 1) w + w / 2 ^ (i + 1) % 2))
    rw [ebit_n (by omega) (by omega), ix_add, ones_eq hw i (by omega)]
    congr 1
    omega
theorem pc_le {x : Nat} : ∀ k, pc k x ≤ k
  | 0 => Nat.le_refl _
  | k + 1 => by
    have := pc_le (x := x) k
    show pc k x + x / 2 ^ k % 2 ≤ k + 1
    omega
theorem enc_eq {d v : Int32} (hv : vV v) : q_enc d v = r_enc d v := by
  have h0 := i_nat hv.1
  have h1 := i_le hv.1 hv.2 (by decide)
  obtain ⟨w, hw⟩ : ∃ w, w = v.toNatClampNeg := ⟨_, rfl⟩
  rw [← hw] at h0 h1
  rw [h0.1]
  have hp17 : pc 17 w = pc 16 w := by
    show pc 16 w + w / 2 ^ 16 % 2 = pc 16 w
    rw [Nat.div_eq_of_lt (by omega)]
    rfl
  have hodd := odd_n (x := w) (by omega)
  rw [hp17] at hodd
  obtain ⟨p, hp, hpe⟩ : ∃ p, p < 2 ∧ q_bits (nI w) = nI (2 * w + p) ∧ p = (pc 16 w + 1) % 2 := by
    refine ⟨(pc 16 w + 1) % 2, by omega, ?_, rfl⟩
    unfold q_bits
    rw [hodd]
    by_cases q : pc 16 w % 2 = 1
    · rw [if_pos q, if_neg (by decide), ix_mul, ix_add]
      congr 1
      omega
    · rw [if_neg q, if_pos (by rfl), ix_mul, ix_add]
      congr 1
      omega
  unfold q_enc r_enc
  rw [hpe.1]
  generalize (if d = 0 then lN 56 else lN 7) = H
  rw [ef_eq (by omega) hp 15 (by decide) (nI 0) H]
  have e1 := ones_eq (w := w) (by omega) 15 (by decide) 0 H
  rw [Nat.zero_add] at e1
  simp only [Nat.reduceAdd] at e1
  rw [e1]
  unfold q_es
  have hpl := pc_le (x := w) 16
  rw [ebit_n (by omega) (by decide), ix_rem (by omega) (by decide) (by decide), Int64.mul_comm]
  congr 1
  rw [Nat.pow_zero, Nat.div_one, show (2 * w + p) % 2 = p by omega, hpe.2]
  rcases (show pc 16 w % 2 = 0 ∨ pc 16 w % 2 = 1 by omega) with q | q
  · rw [q, show (pc 16 w + 1) % 2 = 1 by omega]; rfl
  · rw [q, show (pc 16 w + 1) % 2 = 0 by omega]; rfl
/-- decode -/
def q_pr (h : Int64) (k : Int32) : Int32 := (h >>> ((nI 2 * k).toInt64 &&& 63)).toInt32 &&& nI 3
theorem pr_eq {h : Int64} {k : Int32} : q_pr h k = de_two h k := by
  unfold q_pr de_two
  generalize h >>> ((nI 2 * k).toInt64 &&& 63) = X
  apply Int32.toBitVec_inj.1
  show X.toBitVec.signExtend 32 &&& 3#32 = (X.toBitVec &&& 3#64).signExtend 32
  rw [BitVec.signExtend_and]
  rfl
def q_fin (h : Int64) (b : Int32) : Int32 := if q_odd b = 0 then - nI 5 else (b >>> (nI 1 &&& 31)) + (if de_sy h = nI 7 then nI 65536 else nI 0)
def q_nb (h : Int64) (k b : Int32) : Int32 := b * nI 2 + (if q_pr h k = nI 2 then nI 1 else nI 0)
def q_df (h : Int64) : Nat → Int32 → Int32
  | 0, b => if q_pr h (nI 0) = nI 2 ∨ q_pr h (nI 0) = nI 1 then q_fin h (q_nb h (nI 0) b) else - nI 4
  | i + 1, b => if q_pr h (nI (i + 1)) = nI 2 ∨ q_pr h (nI (i + 1)) = nI 1 then q_df h i (q_nb h (nI (i + 1)) b) else - nI 4
theorem two_cases {h : Int64} {k : Int32} : de_two h k = nI 0 ∨ de_two h k = nI 1 ∨ de_two h k = nI 2 ∨ de_two h k = nI 3 := by
  rw [← pr_eq]
  unfold q_pr
  generalize (h >>> ((nI 2 * k).toInt64 &&& 63)).toInt32 = Y
  have e : (Y &&& nI 3).toBitVec.toNat < 4 := by
    show (Y.toBitVec &&& 3#32).toNat < 4
    rw [BitVec.toNat_and]
    exact Nat.and_lt_two_pow (n := 2) _ (by decide)
  have e2 : Y &&& nI 3 = nI ((Y &&& nI 3).toBitVec.toNat) := by
    apply Int32.toBitVec_inj.1
    show (Y &&& nI 3).toBitVec = BitVec.ofNat 32 _
    rw [BitVec.ofNat_toNat, BitVec.setWidth_eq]
  rw [e2]
  generalize (Y &&& nI 3).toBitVec.toNat = z at e
  rcases (show z = 0 ∨ z = 1 ∨ z = 2 ∨ z = 3 by omega) with rfl | rfl | rfl | rfl <;> simp
theorem def_bad {h : Int64} : ∀ i S, ¬ S.2.2 = 0 → ¬ (de_f h i S).2.2 = 0
  | 0, S, hs => by
    show ¬ de_same h (nI 0) S.2.2 = 0
    unfold de_same
    rw [if_neg hs]
    decide
  | i + 1, S, hs => by
    refine def_bad i _ ?_
    show ¬ de_same h (nI (i + 1)) S.2.2 = 0
    unfold de_same
    rw [if_neg hs]
    decide
theorem dec_bad {h : Int64} {S : Int32 × Int32 × Int32} (hs : ¬ S.2.2 = 0) : r_dec h S = - nI 4 := by
  unfold r_dec
  exact if_neg hs
theorem same_0 {h : Int64} {k : Int32} (q : de_two h k = nI 2 ∨ de_two h k = nI 1) : de_same h k (nI 0) = nI 0 := by
  unfold de_same
  rcases q with q | q <;> rw [q] <;> rfl
theorem same_1 {h : Int64} {k : Int32} (q : ¬ (de_two h k = nI 2 ∨ de_two h k = nI 1)) : ¬ de_same h k (nI 0) = 0 := by
  unfold de_same
  rcases two_cases (h := h) (k := k) with z | z | z | z
  · rw [z]; decide
  · exact absurd (Or.inr z) q
  · exact absurd (Or.inl z) q
  · rw [z]; decide
theorem dbit_n {h : Int64} {k : Int32} : ∃ b, b < 2 ∧ de_bit h k = nI b ∧ (if q_pr h k = nI 2 then nI 1 else nI 0) = nI b := by
  rw [pr_eq]
  unfold de_bit
  by_cases q : de_two h k = nI 2
  · exact ⟨1, by decide, by rw [if_pos q], by rw [if_pos q]⟩
  · exact ⟨0, by decide, by rw [if_neg q], by rw [if_neg q]⟩
theorem pc_ext {x : Nat} {j : Nat} (h : x < 2 ^ j) : ∀ k, j ≤ k → pc k x = pc j x
  | 0, hk => by rw [show j = 0 by omega]
  | k + 1, hk => by
    by_cases e : j = k + 1
    · rw [e]
    · have ih := pc_ext h k (by omega)
      show pc k x + x / 2 ^ k % 2 = pc j x
      have : 2 ^ j ≤ 2 ^ k := Nat.pow_le_pow_right (by decide) (by omega)
      rw [ih, Nat.div_eq_of_lt (by omega)]
      rfl
theorem df_eq {h : Int64} (hsy : de_sy h = nI 7 ∨ de_sy h = nI 56) : ∀ i, i ≤ 16 → ∀ z, z < 2 ^ (16 - i) → q_df h i (nI z) = r_dec h (de_f h i (nI z, nI (pc 16 z), nI 0))
  | 0, _, z, hz => by
    show (if q_pr h (nI 0) = nI 2 ∨ q_pr h (nI 0) = nI 1 then q_fin h (q_nb h (nI 0) (nI z)) else - nI 4) = r_dec h (de_st h (nI 0) (nI z, nI (pc 16 z), nI 0))
    by_cases q : de_two h (nI 0) = nI 2 ∨ de_two h (nI 0) = nI 1
    · rw [pr_eq, if_pos q]
      obtain ⟨b, hb, e1, e2⟩ := dbit_n (h := h) (k := nI 0)
      have hz' : z < 65536 := hz
      unfold r_dec de_st q_fin q_nb
      rw [e2, same_0 q, e1, ix_mul, ix_add, ix_add]
      have hpl := pc_le (x := z) 16
      have e3 : pc 17 (z * 2 + b) = pc 16 z + b := by rw [Nat.mul_comm, pc_2 hb]
      rw [odd_n (by omega), e3, ix_rem (by omega) (by decide) (by decide), shr_n (by omega) (by decide), Nat.shiftRight_eq_div_pow]
      rw [if_pos (show nI 0 = 0 from rfl), if_pos (show nI 0 ≤ 0 by decide), show (z * 2 + b) / 2 ^ 1 = z by omega]
      by_cases o : (pc 16 z + b) % 2 = 1
      · rw [if_pos o, o, if_neg (show ¬ nI 1 = 0 by decide), if_neg (show ¬ nI 1 = 0 by decide)]
        dsimp only
        rcases hsy with s | s
        · rw [if_pos s, if_pos s, Int32.add_comm]
        · rw [if_neg (by rw [s]; decide), if_neg (by rw [s]; decide), ix_0]
      · rw [if_neg o, show (pc 16 z + b) % 2 = 0 by omega, if_pos (by rfl), if_pos (by rfl)]
    · rw [pr_eq, if_neg q, dec_bad]
      exact same_1 q
  | i + 1, hi, z, hz => by
    show (if q_pr h (nI (i + 1)) = nI 2 ∨ q_pr h (nI (i + 1)) = nI 1 then q_df h i (q_nb h (nI (i + 1)) (nI z)) else - nI 4) = r_dec h (de_f h i (de_st h (nI (i + 1)) (nI z, nI (pc 16 z), nI 0)))
    by_cases q : de_two h (nI (i + 1)) = nI 2 ∨ de_two h (nI (i + 1)) = nI 1
    · rw [pr_eq, if_pos q]
      obtain ⟨b, hb, e1, e2⟩ := dbit_n (h := h) (k := nI (i + 1))
      have hp : 2 ^ (16 - i) = 2 ^ (16 - (i + 1)) * 2 := by rw [show 16 - i = 16 - (i + 1) + 1 by omega, Nat.pow_succ]
      have hz2 : 2 * z + b < 2 ^ (16 - i) := by omega
      have ih := df_eq hsy i (by omega) (2 * z + b) hz2
      have h15 : 2 ^ (16 - (i + 1)) ≤ 2 ^ 15 := Nat.pow_le_pow_right (by decide) (by omega)
      have e4 : pc 16 (2 * z + b) = pc 16 z + b := by
        rw [pc_2 hb 15, pc_ext (x := z) (j := 15) (by omega) 16 (by decide)]
      have e5 : q_nb h (nI (i + 1)) (nI z) = nI (2 * z + b) := by
        unfold q_nb
        rw [e2, ix_mul, ix_add, Nat.mul_comm]
      have e6 : de_st h (nI (i + 1)) (nI z, nI (pc 16 z), nI 0) = (nI (2 * z + b), nI (pc 16 (2 * z + b)), nI 0) := by
        unfold de_st
        dsimp only
        rw [same_0 q, e1, ix_mul, ix_add, ix_add, e4, if_neg]
        rw [show (0 : Int32) = nI 0 from rfl, niLe (by omega) (by decide)]
        omega
      rw [e5, e6, ih]
    · rw [pr_eq, if_neg q, dec_bad]
      exact def_bad i _ (same_1 q)
theorem dec_eq {h : Int64} (hsy : de_sy h = nI 7 ∨ de_sy h = nI 56) : q_df h 16 (nI 0) = r_dec h (de_f h 16 (nI 0, nI 0, nI 0)) := df_eq hsy 16 (Nat.le_refl _) 0 (by decide)
