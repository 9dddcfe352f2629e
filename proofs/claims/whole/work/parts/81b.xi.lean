/-! an instruction, a row: of the interpreter -/
section XI
variable {G : ex_G} {L : Nat} {xs : Nat → Int32} {D mi pc pc' : Nat} {lv lv' st : List Value} {h : ex_Hp} {Q : Option Value → ex_Hp → Prop}
theorem xi_iconst {k : Nat} (hf : ex_look (ex_cd G mi) pc = some (.iconst (.ofNat k)))  (hpc : pc + 1 = pc') (kk : xx G L xs D mi pc' lv (.int (nI k) :: st) h Q) : xx G L xs D mi pc lv (st) h Q := by
  subst hpc
  exact xx_pure hf (rfl) kk
theorem xi_iconstm {k : Nat} (hf : ex_look (ex_cd G mi) pc = some (.iconst (.negSucc k)))  (hpc : pc + 1 = pc') (kk : xx G L xs D mi pc' lv (.int (- nI (k + 1)) :: st) h Q) : xx G L xs D mi pc lv (st) h Q := by
  subst hpc
  exact xx_pure hf (rfl) kk
theorem xi_bipush {k : Nat} (hf : ex_look (ex_cd G mi) pc = some (.bipush (.ofNat k))) (hk : k < 128) (hpc : pc + 2 = pc') (kk : xx G L xs D mi pc' lv (.int (nI k) :: st) h Q) : xx G L xs D mi pc lv (st) h Q := by
  subst hpc
  exact xx_pure hf (by show (if -128 ≤ (Int.ofNat k) ∧ (Int.ofNat k) < 128 then some (pc + 2, lv, Value.int (nI k) :: st) else none) = _; rw [if_pos ⟨by show (-128 : Int) ≤ (k : Int); omega, by show (k : Int) < 128; omega⟩]) kk
theorem xi_sipush {k : Nat} (hf : ex_look (ex_cd G mi) pc = some (.sipush (.ofNat k))) (hk : k < 32768) (hpc : pc + 3 = pc') (kk : xx G L xs D mi pc' lv (.int (nI k) :: st) h Q) : xx G L xs D mi pc lv (st) h Q := by
  subst hpc
  exact xx_pure hf (by show (if -32768 ≤ (Int.ofNat k) ∧ (Int.ofNat k) < 32768 then some (pc + 3, lv, Value.int (nI k) :: st) else none) = _; rw [if_pos ⟨by show (-32768 : Int) ≤ (k : Int); omega, by show (k : Int) < 32768; omega⟩]) kk
theorem xi_lconst {k : Fin 2} (hf : ex_look (ex_cd G mi) pc = some (.lconst k))  (hpc : pc + 1 = pc') (kk : xx G L xs D mi pc' lv (.long (Int64.ofNat k) :: st) h Q) : xx G L xs D mi pc lv (st) h Q := by
  subst hpc
  exact xx_pure hf (rfl) kk
theorem xi_null  (hf : ex_look (ex_cd G mi) pc = some (.aconst_null))  (hpc : pc + 1 = pc') (kk : xx G L xs D mi pc' lv (.null :: st) h Q) : xx G L xs D mi pc lv (st) h Q := by
  subst hpc
  exact xx_pure hf (rfl) kk
theorem xi_iload {i : Nat} {x : Int32} (hf : ex_look (ex_cd G mi) pc = some (.iload i)) (hl : lv[i]? = some (.int x)) (hpc : pc + 2 = pc') (kk : xx G L xs D mi pc' lv (.int x :: st) h Q) : xx G L xs D mi pc lv (st) h Q := by
  subst hpc
  exact xx_pure hf (by show ex_li lv i (pc + 2) st = _; unfold ex_li; rw [hl]) kk
theorem xi_iload_n {i : Fin 4} {x : Int32} (hf : ex_look (ex_cd G mi) pc = some (.iload_n i)) (hl : lv[(i : Nat)]? = some (.int x)) (hpc : pc + 1 = pc') (kk : xx G L xs D mi pc' lv (.int x :: st) h Q) : xx G L xs D mi pc lv (st) h Q := by
  subst hpc
  exact xx_pure hf (by show ex_li lv (i : Nat) (pc + 1) st = _; unfold ex_li; rw [hl]) kk
theorem xi_lload {i : Nat} {x : Int64} (hf : ex_look (ex_cd G mi) pc = some (.lload i)) (hl : lv[i]? = some (.long x)) (hpc : pc + 2 = pc') (kk : xx G L xs D mi pc' lv (.long x :: st) h Q) : xx G L xs D mi pc lv (st) h Q := by
  subst hpc
  exact xx_pure hf (by show ex_ll lv i (pc + 2) st = _; unfold ex_ll; rw [hl]) kk
theorem xi_lload_n {i : Fin 4} {x : Int64} (hf : ex_look (ex_cd G mi) pc = some (.lload_n i)) (hl : lv[(i : Nat)]? = some (.long x)) (hpc : pc + 1 = pc') (kk : xx G L xs D mi pc' lv (.long x :: st) h Q) : xx G L xs D mi pc lv (st) h Q := by
  subst hpc
  exact xx_pure hf (by show ex_ll lv (i : Nat) (pc + 1) st = _; unfold ex_ll; rw [hl]) kk
theorem xi_aload {i : Nat} {x : Nat} (hf : ex_look (ex_cd G mi) pc = some (.aload i)) (hl : lv[i]? = some (.ref x)) (hpc : pc + 2 = pc') (kk : xx G L xs D mi pc' lv (.ref x :: st) h Q) : xx G L xs D mi pc lv (st) h Q := by
  subst hpc
  exact xx_pure hf (by show ex_la lv i (pc + 2) st = _; unfold ex_la; rw [hl]) kk
theorem xi_aloadN {i : Nat} (hf : ex_look (ex_cd G mi) pc = some (.aload i)) (hl : lv[i]? = some .null) (hpc : pc + 2 = pc') (kk : xx G L xs D mi pc' lv (.null :: st) h Q) : xx G L xs D mi pc lv (st) h Q := by
  subst hpc
  exact xx_pure hf (by show ex_la lv i (pc + 2) st = _; unfold ex_la; rw [hl]) kk
theorem xi_istore {i : Nat} {x : Int32} (hf : ex_look (ex_cd G mi) pc = some (.istore i)) (hs : ex_st1 lv i (.int x) = some lv') (hpc : pc + 2 = pc') (kk : xx G L xs D mi pc' lv' (st) h Q) : xx G L xs D mi pc lv (.int x :: st) h Q := by
  subst hpc
  exact xx_pure hf (by show ex_go (pc + 2) st (ex_st1 lv i (.int x)) = _; rw [hs]; rfl) kk
theorem xi_astore {i : Nat} {x : Nat} (hf : ex_look (ex_cd G mi) pc = some (.astore i)) (hs : ex_st1 lv i (.ref x) = some lv') (hpc : pc + 2 = pc') (kk : xx G L xs D mi pc' lv' (st) h Q) : xx G L xs D mi pc lv (.ref x :: st) h Q := by
  subst hpc
  exact xx_pure hf (by show ex_go (pc + 2) st (ex_st1 lv i (.ref x)) = _; rw [hs]; rfl) kk
theorem xi_astoreN {i : Nat} (hf : ex_look (ex_cd G mi) pc = some (.astore i)) (hs : ex_st1 lv i .null = some lv') (hpc : pc + 2 = pc') (kk : xx G L xs D mi pc' lv' (st) h Q) : xx G L xs D mi pc lv (.null :: st) h Q := by
  subst hpc
  exact xx_pure hf (by show ex_go (pc + 2) st (ex_st1 lv i .null) = _; rw [hs]; rfl) kk
theorem xi_lstore {i : Nat} {x : Int64} (hf : ex_look (ex_cd G mi) pc = some (.lstore i)) (hs : ex_st2 lv i (.long x) = some lv') (hpc : pc + 2 = pc') (kk : xx G L xs D mi pc' lv' (st) h Q) : xx G L xs D mi pc lv (.long x :: st) h Q := by
  subst hpc
  exact xx_pure hf (by show ex_go (pc + 2) st (ex_st2 lv i (.long x)) = _; rw [hs]; rfl) kk
theorem xi_aload_n {i : Fin 4} {x : Nat} (hf : ex_look (ex_cd G mi) pc = some (.aload_n i)) (hl : lv[(i : Nat)]? = some (.ref x)) (hpc : pc + 1 = pc') (kk : xx G L xs D mi pc' lv (.ref x :: st) h Q) : xx G L xs D mi pc lv (st) h Q := by
  subst hpc
  exact xx_pure hf (by show ex_la lv (i : Nat) (pc + 1) st = _; unfold ex_la; rw [hl]) kk
theorem xi_aload_nN {i : Fin 4} (hf : ex_look (ex_cd G mi) pc = some (.aload_n i)) (hl : lv[(i : Nat)]? = some .null) (hpc : pc + 1 = pc') (kk : xx G L xs D mi pc' lv (.null :: st) h Q) : xx G L xs D mi pc lv (st) h Q := by
  subst hpc
  exact xx_pure hf (by show ex_la lv (i : Nat) (pc + 1) st = _; unfold ex_la; rw [hl]) kk
theorem xi_istore_n {i : Fin 4} {x : Int32} (hf : ex_look (ex_cd G mi) pc = some (.istore_n i)) (hs : ex_st1 lv (i : Nat) (.int x) = some lv') (hpc : pc + 1 = pc') (kk : xx G L xs D mi pc' lv' (st) h Q) : xx G L xs D mi pc lv (.int x :: st) h Q := by
  subst hpc
  exact xx_pure hf (by show ex_go (pc + 1) st (ex_st1 lv (i : Nat) (.int x)) = _; rw [hs]; rfl) kk
theorem xi_astore_n {i : Fin 4} {x : Nat} (hf : ex_look (ex_cd G mi) pc = some (.astore_n i)) (hs : ex_st1 lv (i : Nat) (.ref x) = some lv') (hpc : pc + 1 = pc') (kk : xx G L xs D mi pc' lv' (st) h Q) : xx G L xs D mi pc lv (.ref x :: st) h Q := by
  subst hpc
  exact xx_pure hf (by show ex_go (pc + 1) st (ex_st1 lv (i : Nat) (.ref x)) = _; rw [hs]; rfl) kk
theorem xi_astore_nN {i : Fin 4} (hf : ex_look (ex_cd G mi) pc = some (.astore_n i)) (hs : ex_st1 lv (i : Nat) .null = some lv') (hpc : pc + 1 = pc') (kk : xx G L xs D mi pc' lv' (st) h Q) : xx G L xs D mi pc lv (.null :: st) h Q := by
  subst hpc
  exact xx_pure hf (by show ex_go (pc + 1) st (ex_st1 lv (i : Nat) .null) = _; rw [hs]; rfl) kk
theorem xi_lstore_n {i : Fin 4} {x : Int64} (hf : ex_look (ex_cd G mi) pc = some (.lstore_n i)) (hs : ex_st2 lv (i : Nat) (.long x) = some lv') (hpc : pc + 1 = pc') (kk : xx G L xs D mi pc' lv' (st) h Q) : xx G L xs D mi pc lv (.long x :: st) h Q := by
  subst hpc
  exact xx_pure hf (by show ex_go (pc + 1) st (ex_st2 lv (i : Nat) (.long x)) = _; rw [hs]; rfl) kk
theorem xi_iinc {i k : Nat} {x : Int32} (hf : ex_look (ex_cd G mi) pc = some (.iinc i (.ofNat k))) (hl : lv[i]? = some (.int x)) (hs : ex_st1 lv i (.int (x + nI k)) = some lv') (hpc : pc + 3 = pc') (kk : xx G L xs D mi pc' lv' (st) h Q) : xx G L xs D mi pc lv (st) h Q := by
  subst hpc
  exact xx_pure hf (by show ex_inc lv i (.ofNat k) (pc + 3) st = _; unfold ex_inc; rw [hl]; show ex_go (pc + 3) st (ex_st1 lv i (.int (x + nI k))) = _; rw [hs]; rfl) kk
theorem xi_iincm {i k : Nat} {x : Int32} (hf : ex_look (ex_cd G mi) pc = some (.iinc i (.negSucc k))) (hl : lv[i]? = some (.int x)) (hs : ex_st1 lv i (.int (x + - nI (k + 1))) = some lv') (hpc : pc + 3 = pc') (kk : xx G L xs D mi pc' lv' (st) h Q) : xx G L xs D mi pc lv (st) h Q := by
  subst hpc
  exact xx_pure hf (by show ex_inc lv i (.negSucc k) (pc + 3) st = _; unfold ex_inc; rw [hl]; show ex_go (pc + 3) st (ex_st1 lv i (.int (x + - nI (k + 1)))) = _; rw [hs]; rfl) kk
theorem xi_iadd {x y : Int32} (hf : ex_look (ex_cd G mi) pc = some (.iadd))  (hpc : pc + 1 = pc') (kk : xx G L xs D mi pc' lv (.int (x + y) :: st) h Q) : xx G L xs D mi pc lv (.int y :: .int x :: st) h Q := by
  subst hpc
  exact xx_pure hf (rfl) kk
theorem xi_isub {x y : Int32} (hf : ex_look (ex_cd G mi) pc = some (.isub))  (hpc : pc + 1 = pc') (kk : xx G L xs D mi pc' lv (.int (x - y) :: st) h Q) : xx G L xs D mi pc lv (.int y :: .int x :: st) h Q := by
  subst hpc
  exact xx_pure hf (rfl) kk
theorem xi_imul {x y : Int32} (hf : ex_look (ex_cd G mi) pc = some (.imul))  (hpc : pc + 1 = pc') (kk : xx G L xs D mi pc' lv (.int (x * y) :: st) h Q) : xx G L xs D mi pc lv (.int y :: .int x :: st) h Q := by
  subst hpc
  exact xx_pure hf (rfl) kk
theorem xi_iand {x y : Int32} (hf : ex_look (ex_cd G mi) pc = some (.iand))  (hpc : pc + 1 = pc') (kk : xx G L xs D mi pc' lv (.int (x &&& y) :: st) h Q) : xx G L xs D mi pc lv (.int y :: .int x :: st) h Q := by
  subst hpc
  exact xx_pure hf (rfl) kk
theorem xi_ishr {x y : Int32} (hf : ex_look (ex_cd G mi) pc = some (.ishr))  (hpc : pc + 1 = pc') (kk : xx G L xs D mi pc' lv (.int (x >>> (y &&& 31)) :: st) h Q) : xx G L xs D mi pc lv (.int y :: .int x :: st) h Q := by
  subst hpc
  exact xx_pure hf (rfl) kk
theorem xi_iushr {x y : Int32} (hf : ex_look (ex_cd G mi) pc = some (.iushr))  (hpc : pc + 1 = pc') (kk : xx G L xs D mi pc' lv (.int ((x.toUInt32 >>> (y.toUInt32 &&& Int32.toUInt32 31)).toInt32) :: st) h Q) : xx G L xs D mi pc lv (.int y :: .int x :: st) h Q := by
  subst hpc
  exact xx_pure hf (rfl) kk
theorem xi_irem {x y : Int32} (hf : ex_look (ex_cd G mi) pc = some (.irem)) (hy : ¬ y = 0) (hpc : pc + 1 = pc') (kk : xx G L xs D mi pc' lv (.int (x - x / y * y) :: st) h Q) : xx G L xs D mi pc lv (.int y :: .int x :: st) h Q := by
  subst hpc
  exact xx_pure hf (by show (if y = 0 then none else some (pc + 1, lv, Value.int (x - x / y * y) :: st)) = _; rw [if_neg hy]) kk
theorem xi_ladd {x y : Int64} (hf : ex_look (ex_cd G mi) pc = some (.ladd))  (hpc : pc + 1 = pc') (kk : xx G L xs D mi pc' lv (.long (x + y) :: st) h Q) : xx G L xs D mi pc lv (.long y :: .long x :: st) h Q := by
  subst hpc
  exact xx_pure hf (rfl) kk
theorem xi_lmul {x y : Int64} (hf : ex_look (ex_cd G mi) pc = some (.lmul))  (hpc : pc + 1 = pc') (kk : xx G L xs D mi pc' lv (.long (x * y) :: st) h Q) : xx G L xs D mi pc lv (.long y :: .long x :: st) h Q := by
  subst hpc
  exact xx_pure hf (rfl) kk
theorem xi_land {x y : Int64} (hf : ex_look (ex_cd G mi) pc = some (.land))  (hpc : pc + 1 = pc') (kk : xx G L xs D mi pc' lv (.long (x &&& y) :: st) h Q) : xx G L xs D mi pc lv (.long y :: .long x :: st) h Q := by
  subst hpc
  exact xx_pure hf (rfl) kk
theorem xi_lor {x y : Int64} (hf : ex_look (ex_cd G mi) pc = some (.lor))  (hpc : pc + 1 = pc') (kk : xx G L xs D mi pc' lv (.long (x ||| y) :: st) h Q) : xx G L xs D mi pc lv (.long y :: .long x :: st) h Q := by
  subst hpc
  exact xx_pure hf (rfl) kk
theorem xi_lshl {x : Int64} {y : Int32} (hf : ex_look (ex_cd G mi) pc = some (.lshl))  (hpc : pc + 1 = pc') (kk : xx G L xs D mi pc' lv (.long (x <<< (y.toInt64 &&& 63)) :: st) h Q) : xx G L xs D mi pc lv (.int y :: .long x :: st) h Q := by
  subst hpc
  exact xx_pure hf (rfl) kk
theorem xi_lshr {x : Int64} {y : Int32} (hf : ex_look (ex_cd G mi) pc = some (.lshr))  (hpc : pc + 1 = pc') (kk : xx G L xs D mi pc' lv (.long (x >>> (y.toInt64 &&& 63)) :: st) h Q) : xx G L xs D mi pc lv (.int y :: .long x :: st) h Q := by
  subst hpc
  exact xx_pure hf (rfl) kk
theorem xi_lcmp {x y : Int64} (hf : ex_look (ex_cd G mi) pc = some (.lcmp))  (hpc : pc + 1 = pc') (kk : xx G L xs D mi pc' lv (.int (lg_cmp x y) :: st) h Q) : xx G L xs D mi pc lv (.long y :: .long x :: st) h Q := by
  subst hpc
  exact xx_pure hf (rfl) kk
theorem xi_i2l {x : Int32} (hf : ex_look (ex_cd G mi) pc = some (.i2l))  (hpc : pc + 1 = pc') (kk : xx G L xs D mi pc' lv (.long x.toInt64 :: st) h Q) : xx G L xs D mi pc lv (.int x :: st) h Q := by
  subst hpc
  exact xx_pure hf (rfl) kk
theorem xi_l2i {x : Int64} (hf : ex_look (ex_cd G mi) pc = some (.l2i))  (hpc : pc + 1 = pc') (kk : xx G L xs D mi pc' lv (.int x.toInt32 :: st) h Q) : xx G L xs D mi pc lv (.long x :: st) h Q := by
  subst hpc
  exact xx_pure hf (rfl) kk
theorem xi_dup {v : Value} (hf : ex_look (ex_cd G mi) pc = some (.dup)) (hv : v.category = 1) (hpc : pc + 1 = pc') (kk : xx G L xs D mi pc' lv (v :: v :: st) h Q) : xx G L xs D mi pc lv (v :: st) h Q := by
  subst hpc
  exact xx_pure hf (by show (if v.category = 1 then some (pc + 1, lv, v :: v :: st) else none) = _; rw [if_pos hv]) kk
theorem xi_dup2 {v w : Value} (hf : ex_look (ex_cd G mi) pc = some (.dup2)) (hv : v.category = 1) (hw : w.category = 1) (hpc : pc + 1 = pc') (kk : xx G L xs D mi pc' lv (v :: w :: v :: w :: st) h Q) : xx G L xs D mi pc lv (v :: w :: st) h Q := by
  subst hpc
  exact xx_pure hf (by show (if v.category = 1 then (if w.category = 1 then some (pc + 1, lv, v :: w :: v :: w :: st) else none) else none) = _; rw [if_pos hv, if_pos hw]) kk
theorem xi_pop {v : Value} (hf : ex_look (ex_cd G mi) pc = some (.pop)) (hv : v.category = 1) (hpc : pc + 1 = pc') (kk : xx G L xs D mi pc' lv (st) h Q) : xx G L xs D mi pc lv (v :: st) h Q := by
  subst hpc
  exact xx_pure hf (by show (if v.category = 1 then some (pc + 1, lv, st) else none) = _; rw [if_pos hv]) kk
theorem xi_goto {off : Int} (hf : ex_look (ex_cd G mi) pc = some (.goto off)) (hj : ex_jump pc off = some pc') (kk : xx G L xs D mi pc' lv st h Q) : xx G L xs D mi pc lv st h Q :=
  xx_pure hf (by show ex_to pc off lv st = _; unfold ex_to; rw [hj]) kk
theorem xi_ift {k : ClassFile.Cond} {off : Int} {x : Int32} (hf : ex_look (ex_cd G mi) pc = some (.ifCond k off)) (hj : ex_jump pc off = some pc') (hc : ex_cmp k x 0 = true) (kk : xx G L xs D mi pc' lv st h Q) : xx G L xs D mi pc lv (.int x :: st) h Q :=
  xx_pure hf (by show ex_br (ex_cmp k x 0) pc off lv st = _; unfold ex_br; rw [hj, hc]; rfl) kk
theorem xi_iff {k : ClassFile.Cond} {off : Int} {x : Int32} {tg : Nat} (hf : ex_look (ex_cd G mi) pc = some (.ifCond k off)) (hj : ex_jump pc off = some tg) (hc : ex_cmp k x 0 = false) (hpc : pc + 3 = pc') (kk : xx G L xs D mi pc' lv st h Q) : xx G L xs D mi pc lv (.int x :: st) h Q := by
  subst hpc
  exact xx_pure hf (by show ex_br (ex_cmp k x 0) pc off lv st = _; unfold ex_br; rw [hj, hc]; rfl) kk
theorem xi_icmpt {k : ClassFile.Cond} {off : Int} {x y : Int32} (hf : ex_look (ex_cd G mi) pc = some (.if_icmp k off)) (hj : ex_jump pc off = some pc') (hc : ex_cmp k x y = true) (kk : xx G L xs D mi pc' lv st h Q) : xx G L xs D mi pc lv (.int y :: .int x :: st) h Q :=
  xx_pure hf (by show ex_br (ex_cmp k x y) pc off lv st = _; unfold ex_br; rw [hj, hc]; rfl) kk
theorem xi_icmpf {k : ClassFile.Cond} {off : Int} {x y : Int32} {tg : Nat} (hf : ex_look (ex_cd G mi) pc = some (.if_icmp k off)) (hj : ex_jump pc off = some tg) (hc : ex_cmp k x y = false) (hpc : pc + 3 = pc') (kk : xx G L xs D mi pc' lv st h Q) : xx G L xs D mi pc lv (.int y :: .int x :: st) h Q := by
  subst hpc
  exact xx_pure hf (by show ex_br (ex_cmp k x y) pc off lv st = _; unfold ex_br; rw [hj, hc]; rfl) kk
theorem xi_ifnull {off : Int} {a tg : Nat} (hf : ex_look (ex_cd G mi) pc = some (.ifnull off)) (hj : ex_jump pc off = some tg) (hpc : pc + 3 = pc') (kk : xx G L xs D mi pc' lv st h Q) : xx G L xs D mi pc lv (.ref a :: st) h Q := by
  subst hpc
  exact xx_pure hf (by show ex_br false pc off lv st = _; unfold ex_br; rw [hj]; rfl) kk
theorem xi_ifnullN {off : Int} (hf : ex_look (ex_cd G mi) pc = some (.ifnull off)) (hj : ex_jump pc off = some pc') (kk : xx G L xs D mi pc' lv st h Q) : xx G L xs D mi pc lv (.null :: st) h Q :=
  xx_pure hf (by show ex_br true pc off lv st = _; unfold ex_br; rw [hj]; rfl) kk
theorem xi_ifnonnull {off : Int} {a : Nat} (hf : ex_look (ex_cd G mi) pc = some (.ifnonnull off)) (hj : ex_jump pc off = some pc') (kk : xx G L xs D mi pc' lv st h Q) : xx G L xs D mi pc lv (.ref a :: st) h Q :=
  xx_pure hf (by show ex_br true pc off lv st = _; unfold ex_br; rw [hj]; rfl) kk
theorem xi_ifnonnullN {off : Int} {tg : Nat} (hf : ex_look (ex_cd G mi) pc = some (.ifnonnull off)) (hj : ex_jump pc off = some tg) (hpc : pc + 3 = pc') (kk : xx G L xs D mi pc' lv st h Q) : xx G L xs D mi pc lv (.null :: st) h Q := by
  subst hpc
  exact xx_pure hf (by show ex_br false pc off lv st = _; unfold ex_br; rw [hj]; rfl) kk
theorem xi_switch {dflt lo hi off : Int} {offs : Array Int} {x : Int32} (hf : ex_look (ex_cd G mi) pc = some (.tableswitch dflt lo hi offs)) (h1 : ¬ (x.toInt < lo ∨ hi < x.toInt)) (ho : offs[(x.toInt - lo).toNat]? = some off) (hj : ex_jump pc off = some pc') (kk : xx G L xs D mi pc' lv st h Q) : xx G L xs D mi pc lv (.int x :: st) h Q :=
  xx_pure hf (by show ex_sw x pc dflt lo hi offs lv st = _; unfold ex_sw; rw [if_neg h1, ho]; show ex_to pc off lv st = _; unfold ex_to; rw [hj]) kk
theorem xi_switchD {dflt lo hi : Int} {offs : Array Int} {x : Int32} (hf : ex_look (ex_cd G mi) pc = some (.tableswitch dflt lo hi offs)) (h1 : x.toInt < lo ∨ hi < x.toInt) (hj : ex_jump pc dflt = some pc') (kk : xx G L xs D mi pc' lv st h Q) : xx G L xs D mi pc lv (.int x :: st) h Q :=
  xx_pure hf (by show ex_sw x pc dflt lo hi offs lv st = _; unfold ex_sw; rw [if_pos h1]; show ex_to pc dflt lv st = _; unfold ex_to; rw [hj]) kk
end XI
theorem st1_0 {a0 v : Value} {t : List Value} : ex_st1 (a0 :: t) 0 v = some (v :: t) := by
  show (if 0 < (a0 :: t).length then some ((a0 :: t).set 0 v) else none) = _
  rw [if_pos (by simp)]; rfl
theorem st2_0 {a0 a1 v : Value} {t : List Value} : ex_st2 (a0 :: a1 :: t) 0 v = some (v :: ex_no :: t) := by
  show (if 1 < (a0 :: a1 :: t).length then some (((a0 :: a1 :: t).set 0 v).set 1 ex_no) else none) = _
  rw [if_pos (by simp)]; rfl
theorem st1_1 {a0 a1 v : Value} {t : List Value} (hc : a0.category = 1) : ex_st1 (a0 :: a1 :: t) 1 v = some (a0 :: v :: t) := by
  show (if 1 < (a0 :: a1 :: t).length then some ((if a0.category = 2 then (a0 :: a1 :: t).set 0 ex_no else (a0 :: a1 :: t)).set 1 v) else none) = _
  rw [if_pos (by simp), if_neg (by rw [hc]; decide)]; rfl
theorem st2_1 {a0 a1 a2 v : Value} {t : List Value} (hc : a0.category = 1) : ex_st2 (a0 :: a1 :: a2 :: t) 1 v = some (a0 :: v :: ex_no :: t) := by
  show (if 2 < (a0 :: a1 :: a2 :: t).length then some (((if a0.category = 2 then (a0 :: a1 :: a2 :: t).set 0 ex_no else (a0 :: a1 :: a2 :: t)).set 1 v).set 2 ex_no) else none) = _
  rw [if_pos (by simp), if_neg (by rw [hc]; decide)]; rfl
theorem st1_2 {a0 a1 a2 v : Value} {t : List Value} (hc : a1.category = 1) : ex_st1 (a0 :: a1 :: a2 :: t) 2 v = some (a0 :: a1 :: v :: t) := by
  show (if 2 < (a0 :: a1 :: a2 :: t).length then some ((if a1.category = 2 then (a0 :: a1 :: a2 :: t).set 1 ex_no else (a0 :: a1 :: a2 :: t)).set 2 v) else none) = _
  rw [if_pos (by simp), if_neg (by rw [hc]; decide)]; rfl
theorem st2_2 {a0 a1 a2 a3 v : Value} {t : List Value} (hc : a1.category = 1) : ex_st2 (a0 :: a1 :: a2 :: a3 :: t) 2 v = some (a0 :: a1 :: v :: ex_no :: t) := by
  show (if 3 < (a0 :: a1 :: a2 :: a3 :: t).length then some (((if a1.category = 2 then (a0 :: a1 :: a2 :: a3 :: t).set 1 ex_no else (a0 :: a1 :: a2 :: a3 :: t)).set 2 v).set 3 ex_no) else none) = _
  rw [if_pos (by simp), if_neg (by rw [hc]; decide)]; rfl
theorem st1_3 {a0 a1 a2 a3 v : Value} {t : List Value} (hc : a2.category = 1) : ex_st1 (a0 :: a1 :: a2 :: a3 :: t) 3 v = some (a0 :: a1 :: a2 :: v :: t) := by
  show (if 3 < (a0 :: a1 :: a2 :: a3 :: t).length then some ((if a2.category = 2 then (a0 :: a1 :: a2 :: a3 :: t).set 2 ex_no else (a0 :: a1 :: a2 :: a3 :: t)).set 3 v) else none) = _
  rw [if_pos (by simp), if_neg (by rw [hc]; decide)]; rfl
theorem st2_3 {a0 a1 a2 a3 a4 v : Value} {t : List Value} (hc : a2.category = 1) : ex_st2 (a0 :: a1 :: a2 :: a3 :: a4 :: t) 3 v = some (a0 :: a1 :: a2 :: v :: ex_no :: t) := by
  show (if 4 < (a0 :: a1 :: a2 :: a3 :: a4 :: t).length then some (((if a2.category = 2 then (a0 :: a1 :: a2 :: a3 :: a4 :: t).set 2 ex_no else (a0 :: a1 :: a2 :: a3 :: a4 :: t)).set 3 v).set 4 ex_no) else none) = _
  rw [if_pos (by simp), if_neg (by rw [hc]; decide)]; rfl
theorem st1_4 {a0 a1 a2 a3 a4 v : Value} {t : List Value} (hc : a3.category = 1) : ex_st1 (a0 :: a1 :: a2 :: a3 :: a4 :: t) 4 v = some (a0 :: a1 :: a2 :: a3 :: v :: t) := by
  show (if 4 < (a0 :: a1 :: a2 :: a3 :: a4 :: t).length then some ((if a3.category = 2 then (a0 :: a1 :: a2 :: a3 :: a4 :: t).set 3 ex_no else (a0 :: a1 :: a2 :: a3 :: a4 :: t)).set 4 v) else none) = _
  rw [if_pos (by simp), if_neg (by rw [hc]; decide)]; rfl
theorem st2_4 {a0 a1 a2 a3 a4 a5 v : Value} {t : List Value} (hc : a3.category = 1) : ex_st2 (a0 :: a1 :: a2 :: a3 :: a4 :: a5 :: t) 4 v = some (a0 :: a1 :: a2 :: a3 :: v :: ex_no :: t) := by
  show (if 5 < (a0 :: a1 :: a2 :: a3 :: a4 :: a5 :: t).length then some (((if a3.category = 2 then (a0 :: a1 :: a2 :: a3 :: a4 :: a5 :: t).set 3 ex_no else (a0 :: a1 :: a2 :: a3 :: a4 :: a5 :: t)).set 4 v).set 5 ex_no) else none) = _
  rw [if_pos (by simp), if_neg (by rw [hc]; decide)]; rfl
theorem st1_5 {a0 a1 a2 a3 a4 a5 v : Value} {t : List Value} (hc : a4.category = 1) : ex_st1 (a0 :: a1 :: a2 :: a3 :: a4 :: a5 :: t) 5 v = some (a0 :: a1 :: a2 :: a3 :: a4 :: v :: t) := by
  show (if 5 < (a0 :: a1 :: a2 :: a3 :: a4 :: a5 :: t).length then some ((if a4.category = 2 then (a0 :: a1 :: a2 :: a3 :: a4 :: a5 :: t).set 4 ex_no else (a0 :: a1 :: a2 :: a3 :: a4 :: a5 :: t)).set 5 v) else none) = _
  rw [if_pos (by simp), if_neg (by rw [hc]; decide)]; rfl
theorem st2_5 {a0 a1 a2 a3 a4 a5 a6 v : Value} {t : List Value} (hc : a4.category = 1) : ex_st2 (a0 :: a1 :: a2 :: a3 :: a4 :: a5 :: a6 :: t) 5 v = some (a0 :: a1 :: a2 :: a3 :: a4 :: v :: ex_no :: t) := by
  show (if 6 < (a0 :: a1 :: a2 :: a3 :: a4 :: a5 :: a6 :: t).length then some (((if a4.category = 2 then (a0 :: a1 :: a2 :: a3 :: a4 :: a5 :: a6 :: t).set 4 ex_no else (a0 :: a1 :: a2 :: a3 :: a4 :: a5 :: a6 :: t)).set 5 v).set 6 ex_no) else none) = _
  rw [if_pos (by simp), if_neg (by rw [hc]; decide)]; rfl
theorem st1_6 {a0 a1 a2 a3 a4 a5 a6 v : Value} {t : List Value} (hc : a5.category = 1) : ex_st1 (a0 :: a1 :: a2 :: a3 :: a4 :: a5 :: a6 :: t) 6 v = some (a0 :: a1 :: a2 :: a3 :: a4 :: a5 :: v :: t) := by
  show (if 6 < (a0 :: a1 :: a2 :: a3 :: a4 :: a5 :: a6 :: t).length then some ((if a5.category = 2 then (a0 :: a1 :: a2 :: a3 :: a4 :: a5 :: a6 :: t).set 5 ex_no else (a0 :: a1 :: a2 :: a3 :: a4 :: a5 :: a6 :: t)).set 6 v) else none) = _
  rw [if_pos (by simp), if_neg (by rw [hc]; decide)]; rfl
theorem st2_6 {a0 a1 a2 a3 a4 a5 a6 a7 v : Value} {t : List Value} (hc : a5.category = 1) : ex_st2 (a0 :: a1 :: a2 :: a3 :: a4 :: a5 :: a6 :: a7 :: t) 6 v = some (a0 :: a1 :: a2 :: a3 :: a4 :: a5 :: v :: ex_no :: t) := by
  show (if 7 < (a0 :: a1 :: a2 :: a3 :: a4 :: a5 :: a6 :: a7 :: t).length then some (((if a5.category = 2 then (a0 :: a1 :: a2 :: a3 :: a4 :: a5 :: a6 :: a7 :: t).set 5 ex_no else (a0 :: a1 :: a2 :: a3 :: a4 :: a5 :: a6 :: a7 :: t)).set 6 v).set 7 ex_no) else none) = _
  rw [if_pos (by simp), if_neg (by rw [hc]; decide)]; rfl
theorem st1_7 {a0 a1 a2 a3 a4 a5 a6 a7 v : Value} {t : List Value} (hc : a6.category = 1) : ex_st1 (a0 :: a1 :: a2 :: a3 :: a4 :: a5 :: a6 :: a7 :: t) 7 v = some (a0 :: a1 :: a2 :: a3 :: a4 :: a5 :: a6 :: v :: t) := by
  show (if 7 < (a0 :: a1 :: a2 :: a3 :: a4 :: a5 :: a6 :: a7 :: t).length then some ((if a6.category = 2 then (a0 :: a1 :: a2 :: a3 :: a4 :: a5 :: a6 :: a7 :: t).set 6 ex_no else (a0 :: a1 :: a2 :: a3 :: a4 :: a5 :: a6 :: a7 :: t)).set 7 v) else none) = _
  rw [if_pos (by simp), if_neg (by rw [hc]; decide)]; rfl
theorem st2_7 {a0 a1 a2 a3 a4 a5 a6 a7 a8 v : Value} {t : List Value} (hc : a6.category = 1) : ex_st2 (a0 :: a1 :: a2 :: a3 :: a4 :: a5 :: a6 :: a7 :: a8 :: t) 7 v = some (a0 :: a1 :: a2 :: a3 :: a4 :: a5 :: a6 :: v :: ex_no :: t) := by
  show (if 8 < (a0 :: a1 :: a2 :: a3 :: a4 :: a5 :: a6 :: a7 :: a8 :: t).length then some (((if a6.category = 2 then (a0 :: a1 :: a2 :: a3 :: a4 :: a5 :: a6 :: a7 :: a8 :: t).set 6 ex_no else (a0 :: a1 :: a2 :: a3 :: a4 :: a5 :: a6 :: a7 :: a8 :: t)).set 7 v).set 8 ex_no) else none) = _
  rw [if_pos (by simp), if_neg (by rw [hc]; decide)]; rfl
theorem st1_8 {a0 a1 a2 a3 a4 a5 a6 a7 a8 v : Value} {t : List Value} (hc : a7.category = 1) : ex_st1 (a0 :: a1 :: a2 :: a3 :: a4 :: a5 :: a6 :: a7 :: a8 :: t) 8 v = some (a0 :: a1 :: a2 :: a3 :: a4 :: a5 :: a6 :: a7 :: v :: t) := by
  show (if 8 < (a0 :: a1 :: a2 :: a3 :: a4 :: a5 :: a6 :: a7 :: a8 :: t).length then some ((if a7.category = 2 then (a0 :: a1 :: a2 :: a3 :: a4 :: a5 :: a6 :: a7 :: a8 :: t).set 7 ex_no else (a0 :: a1 :: a2 :: a3 :: a4 :: a5 :: a6 :: a7 :: a8 :: t)).set 8 v) else none) = _
  rw [if_pos (by simp), if_neg (by rw [hc]; decide)]; rfl
theorem st2_8 {a0 a1 a2 a3 a4 a5 a6 a7 a8 a9 v : Value} {t : List Value} (hc : a7.category = 1) : ex_st2 (a0 :: a1 :: a2 :: a3 :: a4 :: a5 :: a6 :: a7 :: a8 :: a9 :: t) 8 v = some (a0 :: a1 :: a2 :: a3 :: a4 :: a5 :: a6 :: a7 :: v :: ex_no :: t) := by
  show (if 9 < (a0 :: a1 :: a2 :: a3 :: a4 :: a5 :: a6 :: a7 :: a8 :: a9 :: t).length then some (((if a7.category = 2 then (a0 :: a1 :: a2 :: a3 :: a4 :: a5 :: a6 :: a7 :: a8 :: a9 :: t).set 7 ex_no else (a0 :: a1 :: a2 :: a3 :: a4 :: a5 :: a6 :: a7 :: a8 :: a9 :: t)).set 8 v).set 9 ex_no) else none) = _
  rw [if_pos (by simp), if_neg (by rw [hc]; decide)]; rfl
theorem st1_9 {a0 a1 a2 a3 a4 a5 a6 a7 a8 a9 v : Value} {t : List Value} (hc : a8.category = 1) : ex_st1 (a0 :: a1 :: a2 :: a3 :: a4 :: a5 :: a6 :: a7 :: a8 :: a9 :: t) 9 v = some (a0 :: a1 :: a2 :: a3 :: a4 :: a5 :: a6 :: a7 :: a8 :: v :: t) := by
  show (if 9 < (a0 :: a1 :: a2 :: a3 :: a4 :: a5 :: a6 :: a7 :: a8 :: a9 :: t).length then some ((if a8.category = 2 then (a0 :: a1 :: a2 :: a3 :: a4 :: a5 :: a6 :: a7 :: a8 :: a9 :: t).set 8 ex_no else (a0 :: a1 :: a2 :: a3 :: a4 :: a5 :: a6 :: a7 :: a8 :: a9 :: t)).set 9 v) else none) = _
  rw [if_pos (by simp), if_neg (by rw [hc]; decide)]; rfl
theorem st2_9 {a0 a1 a2 a3 a4 a5 a6 a7 a8 a9 a10 v : Value} {t : List Value} (hc : a8.category = 1) : ex_st2 (a0 :: a1 :: a2 :: a3 :: a4 :: a5 :: a6 :: a7 :: a8 :: a9 :: a10 :: t) 9 v = some (a0 :: a1 :: a2 :: a3 :: a4 :: a5 :: a6 :: a7 :: a8 :: v :: ex_no :: t) := by
  show (if 10 < (a0 :: a1 :: a2 :: a3 :: a4 :: a5 :: a6 :: a7 :: a8 :: a9 :: a10 :: t).length then some (((if a8.category = 2 then (a0 :: a1 :: a2 :: a3 :: a4 :: a5 :: a6 :: a7 :: a8 :: a9 :: a10 :: t).set 8 ex_no else (a0 :: a1 :: a2 :: a3 :: a4 :: a5 :: a6 :: a7 :: a8 :: a9 :: a10 :: t)).set 9 v).set 10 ex_no) else none) = _
  rw [if_pos (by simp), if_neg (by rw [hc]; decide)]; rfl
theorem st1_10 {a0 a1 a2 a3 a4 a5 a6 a7 a8 a9 a10 v : Value} {t : List Value} (hc : a9.category = 1) : ex_st1 (a0 :: a1 :: a2 :: a3 :: a4 :: a5 :: a6 :: a7 :: a8 :: a9 :: a10 :: t) 10 v = some (a0 :: a1 :: a2 :: a3 :: a4 :: a5 :: a6 :: a7 :: a8 :: a9 :: v :: t) := by
  show (if 10 < (a0 :: a1 :: a2 :: a3 :: a4 :: a5 :: a6 :: a7 :: a8 :: a9 :: a10 :: t).length then some ((if a9.category = 2 then (a0 :: a1 :: a2 :: a3 :: a4 :: a5 :: a6 :: a7 :: a8 :: a9 :: a10 :: t).set 9 ex_no else (a0 :: a1 :: a2 :: a3 :: a4 :: a5 :: a6 :: a7 :: a8 :: a9 :: a10 :: t)).set 10 v) else none) = _
  rw [if_pos (by simp), if_neg (by rw [hc]; decide)]; rfl
theorem st2_10 {a0 a1 a2 a3 a4 a5 a6 a7 a8 a9 a10 a11 v : Value} {t : List Value} (hc : a9.category = 1) : ex_st2 (a0 :: a1 :: a2 :: a3 :: a4 :: a5 :: a6 :: a7 :: a8 :: a9 :: a10 :: a11 :: t) 10 v = some (a0 :: a1 :: a2 :: a3 :: a4 :: a5 :: a6 :: a7 :: a8 :: a9 :: v :: ex_no :: t) := by
  show (if 11 < (a0 :: a1 :: a2 :: a3 :: a4 :: a5 :: a6 :: a7 :: a8 :: a9 :: a10 :: a11 :: t).length then some (((if a9.category = 2 then (a0 :: a1 :: a2 :: a3 :: a4 :: a5 :: a6 :: a7 :: a8 :: a9 :: a10 :: a11 :: t).set 9 ex_no else (a0 :: a1 :: a2 :: a3 :: a4 :: a5 :: a6 :: a7 :: a8 :: a9 :: a10 :: a11 :: t)).set 10 v).set 11 ex_no) else none) = _
  rw [if_pos (by simp), if_neg (by rw [hc]; decide)]; rfl
theorem st1_11 {a0 a1 a2 a3 a4 a5 a6 a7 a8 a9 a10 a11 v : Value} {t : List Value} (hc : a10.category = 1) : ex_st1 (a0 :: a1 :: a2 :: a3 :: a4 :: a5 :: a6 :: a7 :: a8 :: a9 :: a10 :: a11 :: t) 11 v = some (a0 :: a1 :: a2 :: a3 :: a4 :: a5 :: a6 :: a7 :: a8 :: a9 :: a10 :: v :: t) := by
  show (if 11 < (a0 :: a1 :: a2 :: a3 :: a4 :: a5 :: a6 :: a7 :: a8 :: a9 :: a10 :: a11 :: t).length then some ((if a10.category = 2 then (a0 :: a1 :: a2 :: a3 :: a4 :: a5 :: a6 :: a7 :: a8 :: a9 :: a10 :: a11 :: t).set 10 ex_no else (a0 :: a1 :: a2 :: a3 :: a4 :: a5 :: a6 :: a7 :: a8 :: a9 :: a10 :: a11 :: t)).set 11 v) else none) = _
  rw [if_pos (by simp), if_neg (by rw [hc]; decide)]; rfl
theorem st2_11 {a0 a1 a2 a3 a4 a5 a6 a7 a8 a9 a10 a11 a12 v : Value} {t : List Value} (hc : a10.category = 1) : ex_st2 (a0 :: a1 :: a2 :: a3 :: a4 :: a5 :: a6 :: a7 :: a8 :: a9 :: a10 :: a11 :: a12 :: t) 11 v = some (a0 :: a1 :: a2 :: a3 :: a4 :: a5 :: a6 :: a7 :: a8 :: a9 :: a10 :: v :: ex_no :: t) := by
  show (if 12 < (a0 :: a1 :: a2 :: a3 :: a4 :: a5 :: a6 :: a7 :: a8 :: a9 :: a10 :: a11 :: a12 :: t).length then some (((if a10.category = 2 then (a0 :: a1 :: a2 :: a3 :: a4 :: a5 :: a6 :: a7 :: a8 :: a9 :: a10 :: a11 :: a12 :: t).set 10 ex_no else (a0 :: a1 :: a2 :: a3 :: a4 :: a5 :: a6 :: a7 :: a8 :: a9 :: a10 :: a11 :: a12 :: t)).set 11 v).set 12 ex_no) else none) = _
  rw [if_pos (by simp), if_neg (by rw [hc]; decide)]; rfl
theorem st1_12 {a0 a1 a2 a3 a4 a5 a6 a7 a8 a9 a10 a11 a12 v : Value} {t : List Value} (hc : a11.category = 1) : ex_st1 (a0 :: a1 :: a2 :: a3 :: a4 :: a5 :: a6 :: a7 :: a8 :: a9 :: a10 :: a11 :: a12 :: t) 12 v = some (a0 :: a1 :: a2 :: a3 :: a4 :: a5 :: a6 :: a7 :: a8 :: a9 :: a10 :: a11 :: v :: t) := by
  show (if 12 < (a0 :: a1 :: a2 :: a3 :: a4 :: a5 :: a6 :: a7 :: a8 :: a9 :: a10 :: a11 :: a12 :: t).length then some ((if a11.category = 2 then (a0 :: a1 :: a2 :: a3 :: a4 :: a5 :: a6 :: a7 :: a8 :: a9 :: a10 :: a11 :: a12 :: t).set 11 ex_no else (a0 :: a1 :: a2 :: a3 :: a4 :: a5 :: a6 :: a7 :: a8 :: a9 :: a10 :: a11 :: a12 :: t)).set 12 v) else none) = _
  rw [if_pos (by simp), if_neg (by rw [hc]; decide)]; rfl
theorem st2_12 {a0 a1 a2 a3 a4 a5 a6 a7 a8 a9 a10 a11 a12 a13 v : Value} {t : List Value} (hc : a11.category = 1) : ex_st2 (a0 :: a1 :: a2 :: a3 :: a4 :: a5 :: a6 :: a7 :: a8 :: a9 :: a10 :: a11 :: a12 :: a13 :: t) 12 v = some (a0 :: a1 :: a2 :: a3 :: a4 :: a5 :: a6 :: a7 :: a8 :: a9 :: a10 :: a11 :: v :: ex_no :: t) := by
  show (if 13 < (a0 :: a1 :: a2 :: a3 :: a4 :: a5 :: a6 :: a7 :: a8 :: a9 :: a10 :: a11 :: a12 :: a13 :: t).length then some (((if a11.category = 2 then (a0 :: a1 :: a2 :: a3 :: a4 :: a5 :: a6 :: a7 :: a8 :: a9 :: a10 :: a11 :: a12 :: a13 :: t).set 11 ex_no else (a0 :: a1 :: a2 :: a3 :: a4 :: a5 :: a6 :: a7 :: a8 :: a9 :: a10 :: a11 :: a12 :: a13 :: t)).set 12 v).set 13 ex_no) else none) = _
  rw [if_pos (by simp), if_neg (by rw [hc]; decide)]; rfl
theorem st1_13 {a0 a1 a2 a3 a4 a5 a6 a7 a8 a9 a10 a11 a12 a13 v : Value} {t : List Value} (hc : a12.category = 1) : ex_st1 (a0 :: a1 :: a2 :: a3 :: a4 :: a5 :: a6 :: a7 :: a8 :: a9 :: a10 :: a11 :: a12 :: a13 :: t) 13 v = some (a0 :: a1 :: a2 :: a3 :: a4 :: a5 :: a6 :: a7 :: a8 :: a9 :: a10 :: a11 :: a12 :: v :: t) := by
  show (if 13 < (a0 :: a1 :: a2 :: a3 :: a4 :: a5 :: a6 :: a7 :: a8 :: a9 :: a10 :: a11 :: a12 :: a13 :: t).length then some ((if a12.category = 2 then (a0 :: a1 :: a2 :: a3 :: a4 :: a5 :: a6 :: a7 :: a8 :: a9 :: a10 :: a11 :: a12 :: a13 :: t).set 12 ex_no else (a0 :: a1 :: a2 :: a3 :: a4 :: a5 :: a6 :: a7 :: a8 :: a9 :: a10 :: a11 :: a12 :: a13 :: t)).set 13 v) else none) = _
  rw [if_pos (by simp), if_neg (by rw [hc]; decide)]; rfl
