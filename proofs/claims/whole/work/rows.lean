section
/-! an interpreter of my own over an abstract heap: addresses are numbers of making; G: the program's tables -/
abbrev ex_Mem : Type := Nat → Nat → Int32
abbrev ex_Pm : Type := Nat → Nat → Option Nat
/-- size, slots, ints, references -/
abbrev ex_Hp : Type := Nat × Nat × ex_Mem × ex_Pm
/-- a link: tag, two numbers, a constant -/
abbrev ex_Lk : Type := Nat × Nat × Nat × Int
/-- code, maxLocals, kind of answer, owner's number, links of an owner, number of fields, kinds of fields, kinds of cells -/
abbrev ex_G : Type := (Nat → List (Nat × Instr)) × (Nat → Nat) × (Nat → Nat) × (Nat → Nat) × (Nat → List (Nat × ex_Lk)) × (Nat → Nat) × (Nat → Nat → Nat) × (Nat → Nat × Nat)
def ex_cd (G : ex_G) : Nat → List (Nat × Instr) := G.1
def ex_mx (G : ex_G) : Nat → Nat := G.2.1
def ex_rt (G : ex_G) : Nat → Nat := G.2.2.1
def ex_ow (G : ex_G) : Nat → Nat := G.2.2.2.1
def ex_lt (G : ex_G) : Nat → List (Nat × ex_Lk) := G.2.2.2.2.1
def ex_nf (G : ex_G) : Nat → Nat := G.2.2.2.2.2.1
def ex_fk (G : ex_G) : Nat → Nat → Nat := G.2.2.2.2.2.2.1
def ex_kd (G : ex_G) : Nat → Nat × Nat := G.2.2.2.2.2.2.2
def ex_look {α : Type} : List (Nat × α) → Nat → Option α
  | [], _ => none
  | q :: t, i => if q.1 = i then some q.2 else ex_look t i
/-- no value is known here -/
def ex_no : Value := .retAddr 0
/-- the script's abstract address -/
def ex_scr : Nat := 1000000
def ex_jump (pc : Nat) (off : Int) : Option Nat := match (pc : Int) + off with
  | .ofNat t => some t
  | .negSucc _ => none
def ex_kill (lv : List Value) (i : Nat) : List Value := match i with
  | 0 => lv
  | j + 1 => match lv[j]? with
    | some w => if w.category = 2 then lv.set j ex_no else lv
    | none => lv
def ex_st1 (lv : List Value) (i : Nat) (v : Value) : Option (List Value) := if i < lv.length then some ((ex_kill lv i).set i v) else none
def ex_st2 (lv : List Value) (i : Nat) (v : Value) : Option (List Value) := if i + 1 < lv.length then some (((ex_kill lv i).set i v).set (i + 1) ex_no) else none
def ex_ent : Nat → List Value → List Value
  | n, [] => List.replicate n ex_no
  | n, v :: vs => if v.category = 2 then v :: ex_no :: ex_ent (n - 2) vs else v :: ex_ent (n - 1) vs
/-- a constant by its number -/
def ex_i : Int → Int32
  | .ofNat n => nI n
  | .negSucc n => - nI (n + 1)
def ex_len : Instr → Nat
  | .iload _ | .lload _ | .aload _ | .istore _ | .lstore _ | .astore _ | .bipush _ | .ldc _ | .newarray _ => 2
  | .sipush _ | .iinc _ _ | .ifCond _ _ | .if_icmp _ _ | .ifnull _ | .ifnonnull _ | .goto _ | .getfield _ | .putfield _ | .invokevirtual _ | .invokespecial _ | .invokestatic _ | .new _ | .anewarray _ | .ldc2_w _ | .ldc_w _ => 3
  | .tableswitch _ _ _ _ => 0
  | _ => 1
abbrev ex_Pr : Type := Nat × List Value × List Value
def ex_cmp (k : ClassFile.Cond) (x y : Int32) : Bool := match k with
  | .eq => decide (x = y)
  | .ne => decide (¬ x = y)
  | .lt => decide (x < y)
  | .ge => decide (y ≤ x)
  | .gt => decide (y < x)
  | .le => decide (x ≤ y)
/-- taking from the stack -/
def ex_pi {α : Type} (st : List Value) (k : Int32 → List Value → Option α) : Option α := match st with
  | .int x :: t => k x t
  | _ => none
def ex_pl {α : Type} (st : List Value) (k : Int64 → List Value → Option α) : Option α := match st with
  | .long x :: t => k x t
  | _ => none
def ex_pa {α : Type} (st : List Value) (k : Nat → List Value → Option α) : Option α := match st with
  | .ref a :: t => k a t
  | _ => none
/-- a reference or null -/
def ex_pn {α : Type} (st : List Value) (k : Option Nat → List Value → Option α) : Option α := match st with
  | .ref a :: t => k (some a) t
  | .null :: t => k none t
  | _ => none
/-- a value of one word -/
def ex_p1 {α : Type} (st : List Value) (k : Value → List Value → Option α) : Option α := match st with
  | v :: t => if v.category = 1 then k v t else none
  | _ => none
def ex_to (pc : Nat) (off : Int) (lv st : List Value) : Option ex_Pr := match ex_jump pc off with
  | some t => some (t, lv, st)
  | none => none
def ex_br (c : Bool) (pc : Nat) (off : Int) (lv st : List Value) : Option ex_Pr := match ex_jump pc off with
  | some t => some (if c = true then t else pc + 3, lv, st)
  | none => none
def ex_sw (x : Int32) (pc : Nat) (dflt lo hi : Int) (offs : Array Int) (lv st : List Value) : Option ex_Pr :=
  if x.toInt < lo ∨ hi < x.toInt then ex_to pc dflt lv st else match offs[(x.toInt - lo).toNat]? with
    | some off => ex_to pc off lv st
    | none => none
def ex_go (pc : Nat) (st : List Value) (lv : Option (List Value)) : Option ex_Pr := match lv with
  | some l => some (pc, l, st)
  | none => none
def ex_li (lv : List Value) (i pc : Nat) (st : List Value) : Option ex_Pr := match lv[i]? with
  | some (.int x) => some (pc, lv, .int x :: st)
  | _ => none
def ex_ll (lv : List Value) (i pc : Nat) (st : List Value) : Option ex_Pr := match lv[i]? with
  | some (.long x) => some (pc, lv, .long x :: st)
  | _ => none
def ex_la (lv : List Value) (i pc : Nat) (st : List Value) : Option ex_Pr := match lv[i]? with
  | some (.ref x) => some (pc, lv, .ref x :: st)
  | some .null => some (pc, lv, .null :: st)
  | _ => none
def ex_inc (lv : List Value) (i : Nat) (n : Int) (pc : Nat) (st : List Value) : Option ex_Pr := match lv[i]? with
  | some (.int x) => ex_go pc st (ex_st1 lv i (.int (x + ex_i n)))
  | _ => none
/-- instructions that touch locals and stack alone -/
def ex_pure (pc : Nat) (lv st : List Value) (ins : Instr) : Option ex_Pr := match ins with
  | .iconst n => some (pc + 1, lv, .int (ex_i n) :: st)
  | .bipush n => if -128 ≤ n ∧ n < 128 then some (pc + 2, lv, .int (ex_i n) :: st) else none
  | .sipush n => if -32768 ≤ n ∧ n < 32768 then some (pc + 3, lv, .int (ex_i n) :: st) else none
  | .lconst n => some (pc + 1, lv, .long (Int64.ofNat n) :: st)
  | .aconst_null => some (pc + 1, lv, .null :: st)
  | .iload i => ex_li lv i (pc + 2) st
  | .iload_n i => ex_li lv i (pc + 1) st
  | .lload i => ex_ll lv i (pc + 2) st
  | .lload_n i => ex_ll lv i (pc + 1) st
  | .aload i => ex_la lv i (pc + 2) st
  | .aload_n i => ex_la lv i (pc + 1) st
  | .istore i => ex_pi st fun x t => ex_go (pc + 2) t (ex_st1 lv i (.int x))
  | .istore_n i => ex_pi st fun x t => ex_go (pc + 1) t (ex_st1 lv i (.int x))
  | .lstore i => ex_pl st fun x t => ex_go (pc + 2) t (ex_st2 lv i (.long x))
  | .lstore_n i => ex_pl st fun x t => ex_go (pc + 1) t (ex_st2 lv i (.long x))
  | .astore i => ex_pn st fun x t => ex_go (pc + 2) t (ex_st1 lv i (va_rf x))
  | .astore_n i => ex_pn st fun x t => ex_go (pc + 1) t (ex_st1 lv i (va_rf x))
  | .iinc i n => ex_inc lv i n (pc + 3) st
  | .iadd => ex_pi st fun y t => ex_pi t fun x u => some (pc + 1, lv, .int (x + y) :: u)
  | .isub => ex_pi st fun y t => ex_pi t fun x u => some (pc + 1, lv, .int (x - y) :: u)
  | .imul => ex_pi st fun y t => ex_pi t fun x u => some (pc + 1, lv, .int (x * y) :: u)
  | .iand => ex_pi st fun y t => ex_pi t fun x u => some (pc + 1, lv, .int (x &&& y) :: u)
  | .irem => ex_pi st fun y t => ex_pi t fun x u => if y = 0 then none else some (pc + 1, lv, .int (x - x / y * y) :: u)
  | .ishr => ex_pi st fun y t => ex_pi t fun x u => some (pc + 1, lv, .int (x >>> (y &&& 31)) :: u)
  | .iushr => ex_pi st fun y t => ex_pi t fun x u => some (pc + 1, lv, .int ((x.toUInt32 >>> (y.toUInt32 &&& Int32.toUInt32 31)).toInt32) :: u)
  | .ladd => ex_pl st fun y t => ex_pl t fun x u => some (pc + 1, lv, .long (x + y) :: u)
  | .lmul => ex_pl st fun y t => ex_pl t fun x u => some (pc + 1, lv, .long (x * y) :: u)
  | .land => ex_pl st fun y t => ex_pl t fun x u => some (pc + 1, lv, .long (x &&& y) :: u)
  | .lor => ex_pl st fun y t => ex_pl t fun x u => some (pc + 1, lv, .long (x ||| y) :: u)
  | .lshl => ex_pi st fun y t => ex_pl t fun x u => some (pc + 1, lv, .long (x <<< (y.toInt64 &&& 63)) :: u)
  | .lshr => ex_pi st fun y t => ex_pl t fun x u => some (pc + 1, lv, .long (x >>> (y.toInt64 &&& 63)) :: u)
  | .lcmp => ex_pl st fun y t => ex_pl t fun x u => some (pc + 1, lv, .int (lg_cmp x y) :: u)
  | .i2l => ex_pi st fun x t => some (pc + 1, lv, .long x.toInt64 :: t)
  | .l2i => ex_pl st fun x t => some (pc + 1, lv, .int x.toInt32 :: t)
  | .dup => ex_p1 st fun v t => some (pc + 1, lv, v :: v :: t)
  | .dup2 => ex_p1 st fun v t => ex_p1 t fun w u => some (pc + 1, lv, v :: w :: v :: w :: u)
  | .pop => ex_p1 st fun _ t => some (pc + 1, lv, t)
  | .ifCond k off => ex_pi st fun x t => ex_br (ex_cmp k x 0) pc off lv t
  | .if_icmp k off => ex_pi st fun y t => ex_pi t fun x u => ex_br (ex_cmp k x y) pc off lv u
  | .ifnull off => ex_pn st fun x t => ex_br x.isNone pc off lv t
  | .ifnonnull off => ex_pn st fun x t => ex_br x.isSome pc off lv t
  | .goto off => ex_to pc off lv st
  | .tableswitch dflt lo hi offs => ex_pi st fun x t => ex_sw x pc dflt lo hi offs lv t
  | _ => none
/-- a field's value -/
def ex_fv (G : ex_G) (h : ex_Hp) (c a k : Nat) : Value := if ex_fk G c k = 2 then va_rf (h.2.2.2 a k) else .int (h.2.2.1 a k)
def ex_wI (I : ex_Mem) (a k : Nat) (x : Int32) : ex_Mem := fun b j => if b = a ∧ j = k then x else I b j
def ex_wP (P : ex_Pm) (a k : Nat) (x : Option Nat) : ex_Pm := fun b j => if b = a ∧ j = k then x else P b j
def ex_cI (I : ex_Mem) (a : Nat) : ex_Mem := fun b j => if b = a then 0 else I b j
def ex_cP (P : ex_Pm) (a : Nat) : ex_Pm := fun b j => if b = a then none else P b j
def ex_copy (I : ex_Mem) (a0 sp a dp n : Nat) : ex_Mem := fun b j => if b = a then va_cpy (I a0) (I a) sp dp n j else I b j
def ex_hI (h : ex_Hp) (a k : Nat) (x : Int32) : ex_Hp := (h.1, h.2.1, ex_wI h.2.2.1 a k x, h.2.2.2)
def ex_hP (h : ex_Hp) (a k : Nat) (x : Option Nat) : ex_Hp := (h.1, h.2.1, h.2.2.1, ex_wP h.2.2.2 a k x)
def ex_hN (h : ex_Hp) (n : Nat) : ex_Hp := (h.1 + 1, h.2.1 + n, ex_cI h.2.2.1 h.1, ex_cP h.2.2.2 h.1)
def ex_b01 (x : Int32) : Bool := decide (x = 0 ∨ x = 1)
/-- the index is within -/
def ex_in (i : Int32) (n : Nat) : Bool := decide (¬ (i < 0 ∨ n ≤ i.toNatClampNeg))
abbrev ex_Mr : Type := List Value × ex_Hp
def ex_mem (G : ex_G) (L : Nat) (xs : Nat → Int32) (d mi : Nat) (st : List Value) (h : ex_Hp) (ins : Instr) : Option ex_Mr := match ins with
  | .getfield i => match ex_look (ex_lt G (ex_ow G mi)) i with
    | some (tag, c, k, _) => if tag ≤ 1 then ex_pa st fun a t => if a < h.1 ∧ ex_kd G a = (0, c) ∧ k < ex_nf G c then some (ex_fv G h c a k :: t, h) else none else none
    | none => none
  | .putfield i => match ex_look (ex_lt G (ex_ow G mi)) i with
    | some (tag, c, k, z) => if (tag = 0 ∨ tag = 1 ∧ z = 0) ∧ (z = 0 ∨ z = 1 ∧ ex_ow G mi = c ∧ ex_rt G mi = 5) then
        (if ex_fk G c k = 2 then ex_pn st fun v t => ex_pa t fun a u => if a < h.1 ∧ ex_kd G a = (0, c) ∧ k < ex_nf G c then some (u, ex_hP h a k v) else none
         else ex_pi st fun v t => ex_pa t fun a u => if a < h.1 ∧ ex_kd G a = (0, c) ∧ k < ex_nf G c ∧ (ex_fk G c k = 0 ∨ ex_fk G c k = 1 ∧ ex_b01 v = true) then some (u, ex_hI h a k v) else none)
        else none
    | none => none
  | .iaload => ex_pi st fun i t => ex_pa t fun a u => if a = ex_scr then (if ex_in i (L - 1) = true then some (.int (xs i.toNatClampNeg) :: u, h) else none)
      else if a < h.1 ∧ (ex_kd G a).1 = 1 ∧ ex_in i (ex_kd G a).2 = true then some (.int (h.2.2.1 a i.toNatClampNeg) :: u, h) else none
  | .baload => ex_pi st fun i t => ex_pa t fun a u => if a < h.1 ∧ (ex_kd G a).1 = 2 ∧ ex_in i (ex_kd G a).2 = true then some (.int (h.2.2.1 a i.toNatClampNeg) :: u, h) else none
  | .aaload => ex_pi st fun i t => ex_pa t fun a u => if a < h.1 ∧ 3 ≤ (ex_kd G a).1 ∧ ex_in i (ex_kd G a).2 = true then some (va_rf (h.2.2.2 a i.toNatClampNeg) :: u, h) else none
  | .iastore => ex_pi st fun x s => ex_pi s fun i t => ex_pa t fun a u => if a < h.1 ∧ (ex_kd G a).1 = 1 ∧ ex_in i (ex_kd G a).2 = true then some (u, ex_hI h a i.toNatClampNeg x) else none
  | .bastore => ex_pi st fun x s => ex_pi s fun i t => ex_pa t fun a u => if a < h.1 ∧ (ex_kd G a).1 = 2 ∧ ex_in i (ex_kd G a).2 = true ∧ ex_b01 x = true then some (u, ex_hI h a i.toNatClampNeg x) else none
  | .aastore => ex_pa st fun x s => ex_pi s fun i t => ex_pa t fun a u => if a < h.1 ∧ x < h.1 ∧ (ex_kd G a).1 = 3 + (ex_kd G x).2 ∧ (ex_kd G x).1 = 0 ∧ ex_in i (ex_kd G a).2 = true then some (u, ex_hP h a i.toNatClampNeg (some x)) else none
  | .arraylength => ex_pa st fun a u => if a = ex_scr then (if L = 0 then none else some (.int (nI (L - 1)) :: u, h))
      else if a < h.1 ∧ 1 ≤ (ex_kd G a).1 then some (.int (nI (ex_kd G a).2) :: u, h) else none
  | .newarray ty => ex_pi st fun n u => if ¬ n < 0 ∧ n.toNatClampNeg ≤ 1000 ∧ h.1 < ex_scr ∧ (ty = .int ∧ ex_kd G h.1 = (1, n.toNatClampNeg) ∨ ty = .boolean ∧ ex_kd G h.1 = (2, n.toNatClampNeg)) then some (.ref h.1 :: u, ex_hN h n.toNatClampNeg) else none
  | .anewarray i => match ex_look (ex_lt G (ex_ow G mi)) i with
    | some (tag, c, _, _) => ex_pi st fun n u => if tag = 10 ∧ ¬ n < 0 ∧ n.toNatClampNeg ≤ 1000 ∧ h.1 < ex_scr ∧ ex_kd G h.1 = (3 + c, n.toNatClampNeg) then some (.ref h.1 :: u, ex_hN h n.toNatClampNeg) else none
    | none => none
  | .new i => match ex_look (ex_lt G (ex_ow G mi)) i with
    | some (tag, c, _, _) => if tag = 9 ∧ h.1 < ex_scr ∧ ex_kd G h.1 = (0, c) then some (.ref h.1 :: st, ex_hN h (ex_nf G c)) else none
    | none => none
  | .ldc i => match ex_look (ex_lt G (ex_ow G mi)) i with
    | some (tag, _, _, z) => if tag = 11 then some (.int (Int32.ofInt z) :: st, h) else none
    | none => none
  | .ldc_w i => match ex_look (ex_lt G (ex_ow G mi)) i with
    | some (tag, _, _, z) => if tag = 11 then some (.int (Int32.ofInt z) :: st, h) else none
    | none => none
  | .ldc2_w i => match ex_look (ex_lt G (ex_ow G mi)) i with
    | some (tag, _, _, z) => if tag = 12 then some (.long (Int64.ofInt z) :: st, h) else none
    | none => none
  | .invokespecial i => match ex_look (ex_lt G (ex_ow G mi)) i with
    | some (tag, _, _, _) => if tag = 8 ∧ 1 ≤ d then ex_pa st fun _ u => if (u.map fun v => v.category).sum ≤ 8 then some (u, h) else none else none
    | none => none
  | .invokestatic i => match ex_look (ex_lt G (ex_ow G mi)) i with
    | some (tag, _, _, _) => if tag = 13 ∧ 1 ≤ d then ex_pi st fun n s1 => ex_pi s1 fun dp s2 => ex_pa s2 fun a s3 => ex_pi s3 fun sp s4 => ex_pa s4 fun a0 u =>
        if (u.map fun v => v.category).sum ≤ 8 ∧ a < h.1 ∧ a0 < h.1 ∧ (ex_kd G a).1 = 1 ∧ (ex_kd G a0).1 = 1 ∧ ¬ sp < 0 ∧ ¬ dp < 0 ∧ ¬ n < 0 ∧ sp.toNatClampNeg + n.toNatClampNeg ≤ (ex_kd G a0).2 ∧ dp.toNatClampNeg + n.toNatClampNeg ≤ (ex_kd G a).2
        then some (u, h.1, h.2.1, ex_copy h.2.2.1 a0 sp.toNatClampNeg a dp.toNatClampNeg n.toNatClampNeg, h.2.2.2) else none else none
    | none => none
  | _ => none
/-- a call: the callee's number, its arguments, the rest of the stack -/
abbrev ex_Cl : Type := Nat × List Value × List Value
def ex_fit (G : ex_G) (y : Nat) (as : List Value) : Bool := decide ((as.map fun v => v.category).sum ≤ ex_mx G y)
def ex_args (n : Nat) (st : List Value) : Option (List Value × List Value) := if n ≤ st.length then some ((st.take n).reverse, st.drop n) else none
def ex_call (G : ex_G) (mi : Nat) (st : List Value) (h : ex_Hp) (ins : Instr) : Option ex_Cl := match ins with
  | .invokevirtual i => match ex_look (ex_lt G (ex_ow G mi)) i with
    | some (tag, y, n, _) => if tag = 2 ∨ tag = 3 then match ex_args n st with
      | some (as, t) => ex_pa t fun a u => if a < h.1 ∧ ex_kd G a = (0, ex_ow G y) ∧ (u.map fun v => v.category).sum ≤ 8 ∧ ex_fit G y (.ref a :: as) = true then some (y, .ref a :: as, u) else none
      | none => none
      else none
    | none => none
  | .invokespecial i => match ex_look (ex_lt G (ex_ow G mi)) i with
    | some (tag, y, n, _) => if tag = 6 ∨ tag = 7 then match ex_args n st with
      | some (as, t) => ex_pa t fun a u => if (u.map fun v => v.category).sum ≤ 8 ∧ ex_fit G y (.ref a :: as) = true then some (y, .ref a :: as, u) else none
      | none => none
      else none
    | none => none
  | .invokestatic i => match ex_look (ex_lt G (ex_ow G mi)) i with
    | some (tag, y, n, _) => if tag = 4 ∨ tag = 5 then match ex_args n st with
      | some (as, u) => if (u.map fun v => v.category).sum ≤ 8 ∧ ex_fit G y as = true then some (y, as, u) else none
      | none => none
      else none
    | none => none
  | _ => none
def ex_ret (G : ex_G) (mi : Nat) (st : List Value) (ins : Instr) : Option (Option Value) := match ins with
  | .ireturn => match st with
    | [.int x] => if ex_rt G mi = 1 ∨ ex_rt G mi = 2 ∧ ex_b01 x = true then some (some (.int x)) else none
    | _ => none
  | .lreturn => match st with
    | [.long x] => if ex_rt G mi = 3 then some (some (.long x)) else none
    | _ => none
  | .areturn => match st with
    | [.ref a] => if ex_rt G mi = 4 then some (some (.ref a)) else none
    | [.null] => if ex_rt G mi = 4 then some (some .null) else none
    | _ => none
  | .return_ => match st with
    | [] => if ex_rt G mi = 0 ∨ ex_rt G mi = 5 then some none else none
    | _ => none
  | _ => none
/-- a step that stays in the method -/
def ex_step (G : ex_G) (L : Nat) (xs : Nat → Int32) (d mi pc : Nat) (lv st : List Value) (h : ex_Hp) (ins : Instr) : Option (ex_Pr × ex_Hp) := match ex_pure pc lv st ins with
  | some r => some (r, h)
  | none => match ex_mem G L xs d mi st h ins with
    | some (t, h') => if h.1 ≤ h'.1 ∧ h.2.1 ≤ h'.2.1 then some ((pc + ex_len ins, lv, t), h') else none
    | none => none
def ex_run (G : ex_G) (L : Nat) (xs : Nat → Int32) : Nat → Nat → Nat → Nat → List Value → List Value → ex_Hp → Option (Option Value × ex_Hp)
  | 0, _, _, _, _, _, _ => none
  | f + 1, d, mi, pc, lv, st, h => match ex_look (ex_cd G mi) pc with
    | none => none
    | some ins => match ex_step G L xs d mi pc lv st h ins with
      | some ((pc', lv', st'), h') => ex_run G L xs f d mi pc' lv' st' h'
      | none => match ex_ret G mi st ins with
        | some r => some (r, h)
        | none => match ex_call G mi st h ins with
          | none => none
          | some (y, as, u) => match d with
            | 0 => none
            | d' + 1 => match ex_run G L xs f d' y 0 (ex_ent (ex_mx G y) as) [] h with
              | none => none
              | some (r, h') => ex_run G L xs f (d' + 1) mi (pc + 3) lv (r.toList ++ u) h'
end
section
/-- what an abstract value is on the machine -/
def ex_rv (ad : Nat → Nat) : Value → Value
  | .ref a => .ref (ad a)
  | v => v
theorem ex_rv_cat (ad : Nat → Nat) (v : Value) : (ex_rv ad v).category = v.category := by cases v <;> rfl
theorem ex_rv_rf (ad : Nat → Nat) (r : Option Nat) : ex_rv ad (va_rf r) = va_rf (r.map ad) := by cases r <;> rfl
def ex_kn (ad : Nat → Nat) (lv : List Value) : List (Nat × Value) := (List.range lv.length).filterMap fun j => match lv[j]? with
  | some w => if w = ex_no then none else some (j, ex_rv ad w)
  | none => none
theorem ex_kn_of {ad : Nat → Nat} {lv : List Value} {j : Nat} {w : Value} (h : lv[j]? = some w) (hw : w ≠ ex_no) : (j, ex_rv ad w) ∈ ex_kn ad lv := by
  refine List.mem_filterMap.mpr ⟨j, List.mem_range.mpr (List.getElem?_eq_some_iff.mp h).1, ?_⟩
  rw [h]
  exact if_neg hw
theorem ex_kn_to {ad : Nat → Nat} {lv : List Value} {q : Nat × Value} (h : q ∈ ex_kn ad lv) : ∃ w, lv[q.1]? = some w ∧ w ≠ ex_no ∧ q.2 = ex_rv ad w := by
  obtain ⟨j, -, h2⟩ := List.mem_filterMap.mp h
  cases hj : lv[j]? with
  | none => rw [hj] at h2; cases h2
  | some w =>
    rw [hj] at h2
    by_cases hw : w = ex_no
    · simp [hw] at h2
    · simp only [if_neg hw] at h2
      cases h2
      exact ⟨w, hj, hw, rfl⟩
/-- the machine's locals hold what is known -/
def ex_LV (ad : Nat → Nat) (ls : Array Slot) (nL : Nat) (lv : List Value) : Prop := lv.length = nL ∧ lv_has ls nL (ex_kn ad lv)
theorem ex_LV.get {ad : Nat → Nat} {ls : Array Slot} {nL : Nat} {lv : List Value} (h : ex_LV ad ls nL lv) {i : Nat} {w : Value} (hi : lv[i]? = some w) (hw : w ≠ ex_no) : ls[i]? = some (.val (ex_rv ad w)) := h.2.2.2 (i, _) (ex_kn_of hi hw)
theorem ex_kill_len (lv : List Value) (i : Nat) : (ex_kill lv i).length = lv.length := by
  cases i with
  | zero => rfl
  | succ k =>
    show (match lv[k]? with | some w => if w.category = 2 then lv.set k ex_no else lv | none => lv).length = _
    cases lv[k]? with
    | none => rfl
    | some w =>
      show (if w.category = 2 then lv.set k ex_no else lv).length = _
      split
      · simp
      · rfl
theorem ex_kill_get {lv : List Value} {i j : Nat} {w : Value} (h : (ex_kill lv i)[j]? = some w) (hw : w ≠ ex_no) : lv[j]? = some w ∧ ¬ (j + 1 = i ∧ w.category = 2) := by
  cases i with
  | zero => exact ⟨h, fun q => by omega⟩
  | succ k =>
    have h : (match lv[k]? with | some w => if w.category = 2 then lv.set k ex_no else lv | none => lv)[j]? = some w := h
    cases hk : lv[k]? with
    | none =>
      rw [hk] at h
      have h : lv[j]? = some w := h
      refine ⟨h, fun q => ?_⟩
      have : j = k := by omega
      subst this
      rw [hk] at h; cases h
    | some w0 =>
      rw [hk] at h
      have h : (if w0.category = 2 then lv.set k ex_no else lv)[j]? = some w := h
      by_cases hc : w0.category = 2
      · rw [if_pos hc, List.getElem?_set] at h
        by_cases hj : k = j
        · rw [if_pos hj] at h
          split at h
          · cases h; exact absurd rfl hw
          · cases h
        · rw [if_neg hj] at h
          exact ⟨h, fun q => by omega⟩
      · rw [if_neg hc] at h
        refine ⟨h, fun q => ?_⟩
        have hjk : j = k := by omega
        rw [hjk, hk] at h
        cases h
        exact hc q.2
theorem ex_LV_st1 {ad : Nat → Nat} {ls' : Array Slot} {nL i : Nat} {lv lv' : List Value} {v : Value} (h0 : lv.length = nL) (h : ex_st1 lv i v = some lv')
    (hs : lv_has ls' nL ((i, ex_rv ad v) :: (ex_kn ad lv).filter (fun q => !(q.1 == i) && !(q.1 + 1 == i && q.2.category == 2)))) : ex_LV ad ls' nL lv' := by
  unfold ex_st1 at h
  split at h
  · rename_i hi
    cases h
    refine ⟨by rw [List.length_set, ex_kill_len]; exact h0, hs.1, hs.2.1, fun q hq => hs.2.2 q ?_⟩
    obtain ⟨w, h1, h2, h3⟩ := ex_kn_to hq
    obtain ⟨j, u⟩ := q
    dsimp only at h1 h3
    subst h3
    rw [List.getElem?_set] at h1
    by_cases hj : i = j
    · rw [if_pos hj] at h1
      split at h1
      · cases h1; subst hj; exact List.mem_cons_self
      · cases h1
    · rw [if_neg hj] at h1
      obtain ⟨g1, g2⟩ := ex_kill_get h1 h2
      refine List.mem_cons_of_mem _ (List.mem_filter.mpr ⟨ex_kn_of g1 h2, ?_⟩)
      simp only [ex_rv_cat]
      by_cases hj1 : j + 1 = i
      · have : ¬ w.category = 2 := fun q => g2 ⟨hj1, q⟩
        simp [this, Ne.symm hj]
      · simp [hj1, Ne.symm hj]
  · cases h
theorem ex_LV_st2 {ad : Nat → Nat} {ls' : Array Slot} {nL i : Nat} {lv lv' : List Value} {v : Value} (h0 : lv.length = nL) (h : ex_st2 lv i v = some lv')
    (hs : lv_has ls' nL ((i, ex_rv ad v) :: (ex_kn ad lv).filter (fun q => !(q.1 == i) && (!(q.1 == i + 1) && !(q.1 + 1 == i && q.2.category == 2))))) : ex_LV ad ls' nL lv' := by
  unfold ex_st2 at h
  split at h
  · rename_i hi
    cases h
    refine ⟨by rw [List.length_set, List.length_set, ex_kill_len]; exact h0, hs.1, hs.2.1, fun q hq => hs.2.2 q ?_⟩
    obtain ⟨w, h1, h2, h3⟩ := ex_kn_to hq
    obtain ⟨j, u⟩ := q
    dsimp only at h1 h3
    subst h3
    rw [List.getElem?_set] at h1
    by_cases hj2 : i + 1 = j
    · rw [if_pos hj2] at h1
      split at h1
      · cases h1; exact absurd rfl h2
      · cases h1
    · rw [if_neg hj2, List.getElem?_set] at h1
      by_cases hj : i = j
      · rw [if_pos hj] at h1
        split at h1
        · cases h1; subst hj; exact List.mem_cons_self
        · cases h1
      · rw [if_neg hj] at h1
        obtain ⟨g1, g2⟩ := ex_kill_get h1 h2
        refine List.mem_cons_of_mem _ (List.mem_filter.mpr ⟨ex_kn_of g1 h2, ?_⟩)
        simp only [ex_rv_cat]
        by_cases hj1 : j + 1 = i
        · have : ¬ w.category = 2 := fun q => g2 ⟨hj1, q⟩
          simp [this, Ne.symm hj, Ne.symm hj2]
        · simp [hj1, Ne.symm hj, Ne.symm hj2]
  · cases h
theorem ex_st1_lt {lv lv' : List Value} {i : Nat} {v : Value} (h : ex_st1 lv i v = some lv') : i < lv.length := by
  unfold ex_st1 at h
  split at h
  · assumption
  · cases h
theorem ex_st2_lt {lv lv' : List Value} {i : Nat} {v : Value} (h : ex_st2 lv i v = some lv') : i + 1 < lv.length := by
  unfold ex_st2 at h
  split at h
  · assumption
  · cases h
theorem ex_pi_some {α : Type} {st : List Value} {k : Int32 → List Value → Option α} {r : α} (h : ex_pi st k = some r) : ∃ x t, st = .int x :: t ∧ k x t = some r := by
  unfold ex_pi at h
  split at h
  · exact ⟨_, _, rfl, h⟩
  · cases h
theorem ex_pl_some {α : Type} {st : List Value} {k : Int64 → List Value → Option α} {r : α} (h : ex_pl st k = some r) : ∃ x t, st = .long x :: t ∧ k x t = some r := by
  unfold ex_pl at h
  split at h
  · exact ⟨_, _, rfl, h⟩
  · cases h
theorem ex_pa_some {α : Type} {st : List Value} {k : Nat → List Value → Option α} {r : α} (h : ex_pa st k = some r) : ∃ x t, st = .ref x :: t ∧ k x t = some r := by
  unfold ex_pa at h
  split at h
  · exact ⟨_, _, rfl, h⟩
  · cases h
theorem ex_pn_some {α : Type} {st : List Value} {k : Option Nat → List Value → Option α} {r : α} (h : ex_pn st k = some r) : ∃ x t, st = va_rf x :: t ∧ k x t = some r := by
  unfold ex_pn at h
  split at h
  · exact ⟨some _, _, rfl, h⟩
  · exact ⟨none, _, rfl, h⟩
  · cases h
theorem ex_p1_some {α : Type} {st : List Value} {k : Value → List Value → Option α} {r : α} (h : ex_p1 st k = some r) : ∃ v t, st = v :: t ∧ v.category = 1 ∧ k v t = some r := by
  unfold ex_p1 at h
  split at h
  · split at h
    · exact ⟨_, _, rfl, ‹_›, h⟩
    · cases h
  · cases h
theorem ex_jump_some {pc t : Nat} {off : Int} (h : ex_jump pc off = some t) : (pc : Int) + off = (t : Int) := by
  unfold ex_jump at h
  split at h
  · rename_i q hq
    cases h
    exact hq
  · cases h
theorem ex_to_some {pc : Nat} {off : Int} {lv st lv' st' : List Value} {pc' : Nat} (h : ex_to pc off lv st = some (pc', lv', st')) : (pc : Int) + off = (pc' : Int) ∧ lv' = lv ∧ st' = st := by
  unfold ex_to at h
  split at h
  · rename_i t ht
    cases h
    exact ⟨ex_jump_some ht, rfl, rfl⟩
  · cases h
theorem ex_br_some {b : Bool} {pc : Nat} {off : Int} {lv st lv' st' : List Value} {pc' : Nat} (h : ex_br b pc off lv st = some (pc', lv', st')) : ∃ t : Nat, (pc : Int) + off = (t : Int) ∧ pc' = (if b = true then t else pc + 3) ∧ lv' = lv ∧ st' = st := by
  unfold ex_br at h
  split at h
  · rename_i t ht
    cases h
    exact ⟨t, ex_jump_some ht, rfl, rfl, rfl⟩
  · cases h
theorem ex_go_some {pc : Nat} {st lv' st' : List Value} {o : Option (List Value)} {pc' : Nat} (h : ex_go pc st o = some (pc', lv', st')) : o = some lv' ∧ pc' = pc ∧ st' = st := by
  unfold ex_go at h
  split at h
  · cases h; exact ⟨rfl, rfl, rfl⟩
  · cases h
theorem ex_li_some {pc i : Nat} {lv st lv' st' : List Value} {pc' : Nat} (h : ex_li lv i pc st = some (pc', lv', st')) : ∃ x, lv[i]? = some (.int x) ∧ pc' = pc ∧ lv' = lv ∧ st' = .int x :: st := by
  unfold ex_li at h
  split at h
  · cases h; exact ⟨_, ‹_›, rfl, rfl, rfl⟩
  · cases h
theorem ex_ll_some {pc i : Nat} {lv st lv' st' : List Value} {pc' : Nat} (h : ex_ll lv i pc st = some (pc', lv', st')) : ∃ x, lv[i]? = some (.long x) ∧ pc' = pc ∧ lv' = lv ∧ st' = .long x :: st := by
  unfold ex_ll at h
  split at h
  · cases h; exact ⟨_, ‹_›, rfl, rfl, rfl⟩
  · cases h
theorem ex_la_some {pc i : Nat} {lv st lv' st' : List Value} {pc' : Nat} (h : ex_la lv i pc st = some (pc', lv', st')) : ∃ x, lv[i]? = some (va_rf x) ∧ pc' = pc ∧ lv' = lv ∧ st' = va_rf x :: st := by
  unfold ex_la at h
  split at h
  · cases h; exact ⟨some _, ‹_›, rfl, rfl, rfl⟩
  · cases h; exact ⟨none, ‹_›, rfl, rfl, rfl⟩
  · cases h
theorem ex_inc_some {pc i : Nat} {n : Int} {lv st lv' st' : List Value} {pc' : Nat} (h : ex_inc lv i n pc st = some (pc', lv', st')) : ∃ x, lv[i]? = some (.int x) ∧ ex_st1 lv i (.int (x + ex_i n)) = some lv' ∧ pc' = pc ∧ st' = st := by
  unfold ex_inc at h
  split at h
  · obtain ⟨h1, h2, h3⟩ := ex_go_some h
    exact ⟨_, ‹_›, h1, h2, h3⟩
  · cases h
theorem ex_i_int (n : Int) : Int32.ofInt n = ex_i n := by
  cases n with
  | ofNat k => rfl
  | negSucc k =>
    show Int32.ofInt (-((k + 1 : Nat) : Int)) = - nI (k + 1)
    rw [Int32.ofInt_neg]
    rfl
theorem ex_i_byte {n : Int} (h : -128 ≤ n ∧ n < 128) : (Int8.ofInt n).toInt32 = ex_i n := by
  rw [← ex_i_int]
  apply Int32.toInt_inj.mp
  rw [Int8.toInt_toInt32, Int8.toInt_ofInt_of_le (by have := h.1; simpa using this) (by have := h.2; simpa using this), Int32.toInt_ofInt_of_le (by have := h.1; simp; omega) (by have := h.2; simp; omega)]
theorem ex_i_short {n : Int} (h : -32768 ≤ n ∧ n < 32768) : (Int16.ofInt n).toInt32 = ex_i n := by
  rw [← ex_i_int]
  apply Int32.toInt_inj.mp
  rw [Int16.toInt_toInt32, Int16.toInt_ofInt_of_le (by have := h.1; simpa using this) (by have := h.2; simpa using this), Int32.toInt_ofInt_of_le (by have := h.1; simp; omega) (by have := h.2; simp; omega)]
/-- the bytes say what the table says -/
def ex_dec (cc : ByteArray) (pc : Nat) (ins : Instr) : Prop := match ins with
  | .tableswitch a b c d => ∃ n, decode cc pc = .ok (.tableswitch a b c d, n)
  | i => decode cc pc = .ok (i, ex_len i)
section EXP
variable {p : Program} {l : Launch} {e : Env} {R : Room} {s : State} {m : MethodId} {args : Array Value} {below : List Frame} {meth : Method} {c : Code} {H : Heap} {locs : List Loc} {cells slots : Nat} {Q : State → Prop}
variable {cc : ByteArray} {ls : Array Slot} {nL : Nat} {ad : Nat → Nat}
theorem ex_W_st1 {pc' i : Nat} {v : Value} {lv lv' t : List Value} (hl : ex_LV ad ls nL lv) (ho : ex_st1 lv i v = some lv') (hc : v.category = 1)
    (kk : ∀ ls', ex_LV ad ls' nL lv' → W p l e R s m args below meth c H locs cells slots Q (F0 m pc' ls' (t.map (ex_rv ad)))) :
    ∀ ls' : Array Slot, lv_has ls' nL ((i, ex_rv ad v) :: (ex_kn ad lv).filter (fun q => !(q.1 == i) && !(q.1 + 1 == i && q.2.category == 2))) → W p l e R s m args below meth c H locs cells slots Q (F0 m pc' ls' (t.map (ex_rv ad))) :=
  fun ls' h => kk ls' (ex_LV_st1 hl.1 ho h)
set_option maxHeartbeats 4000000 in
theorem ex_pure_ok (hexec : p.tables.exec = Jvm.exec) (hb : c.code = cc) {pc pc' : Nat} {lv st lv' st' : List Value} {ins : Instr} (hx : ex_pure pc lv st ins = some (pc', lv', st')) (hd : ex_dec cc pc ins) (hl : ex_LV ad ls nL lv)
    (kk : ∀ ls', ex_LV ad ls' nL lv' → W p l e R s m args below meth c H locs cells slots Q (F0 m pc' ls' (st'.map (ex_rv ad)))) :
    W p l e R s m args below meth c H locs cells slots Q (F0 m pc ls (st.map (ex_rv ad))) := by
  cases ins with
  | iconst n => cases hx; exact lv_iconst hexec hb hd (ex_i_int n) (kk ls hl)
  | bipush n =>
    have hx : (if -128 ≤ n ∧ n < 128 then some (pc + 2, lv, .int (ex_i n) :: st) else none) = some (pc', lv', st') := hx
    split at hx
    · rename_i hr; cases hx; exact lv_bipush hexec hb hd (ex_i_byte hr) (kk ls hl)
    · cases hx
  | sipush n =>
    have hx : (if -32768 ≤ n ∧ n < 32768 then some (pc + 3, lv, .int (ex_i n) :: st) else none) = some (pc', lv', st') := hx
    split at hx
    · rename_i hr; cases hx; exact lv_sipush hexec hb hd (ex_i_short hr) (kk ls hl)
    · cases hx
  | lconst n => cases hx; exact lv_lconst hexec hb hd rfl (kk ls hl)
  | aconst_null => cases hx; exact lv_null hexec hb hd (kk ls hl)
  | iload i =>
    obtain ⟨x, h1, rfl, rfl, rfl⟩ := ex_li_some (show ex_li lv i (pc + 2) st = _ from hx)
    exact lv_iload hexec hb hd (hl.get h1 (fun q => by cases q)) (kk ls hl)
  | iload_n i =>
    obtain ⟨x, h1, rfl, rfl, rfl⟩ := ex_li_some (show ex_li lv i (pc + 1) st = _ from hx)
    exact lv_iload_n hexec hb hd rfl (hl.get h1 (fun q => by cases q)) (kk ls hl)
  | lload i =>
    obtain ⟨x, h1, rfl, rfl, rfl⟩ := ex_ll_some (show ex_ll lv i (pc + 2) st = _ from hx)
    exact lv_lload hexec hb hd (hl.get h1 (fun q => by cases q)) (kk ls hl)
  | lload_n i =>
    obtain ⟨x, h1, rfl, rfl, rfl⟩ := ex_ll_some (show ex_ll lv i (pc + 1) st = _ from hx)
    exact lv_lload_n hexec hb hd rfl (hl.get h1 (fun q => by cases q)) (kk ls hl)
  | aload i =>
    obtain ⟨x, h1, rfl, rfl, rfl⟩ := ex_la_some (show ex_la lv i (pc + 2) st = _ from hx)
    cases x with
    | none => exact lv_aloadN hexec hb hd (hl.get h1 (fun q => by cases q)) (kk ls hl)
    | some a => exact lv_aload hexec hb hd (hl.get h1 (fun q => by cases q)) (kk ls hl)
  | aload_n i =>
    obtain ⟨x, h1, rfl, rfl, rfl⟩ := ex_la_some (show ex_la lv i (pc + 1) st = _ from hx)
    cases x with
    | none => exact lv_aload_nN hexec hb hd rfl (hl.get h1 (fun q => by cases q)) (kk ls hl)
    | some a => exact lv_aload_n hexec hb hd rfl (hl.get h1 (fun q => by cases q)) (kk ls hl)
  | istore i =>
    obtain ⟨x, t, rfl, hx⟩ := ex_pi_some (show ex_pi st _ = some _ from hx)
    obtain ⟨ho, rfl, rfl⟩ := ex_go_some hx
    exact lv_istore hexec hb hd hl.2 (by rw [← hl.1]; exact ex_st1_lt ho) rfl (ex_W_st1 hl ho rfl kk)
  | istore_n i =>
    obtain ⟨x, t, rfl, hx⟩ := ex_pi_some (show ex_pi st _ = some _ from hx)
    obtain ⟨ho, rfl, rfl⟩ := ex_go_some hx
    exact lv_istore_n hexec hb hd rfl hl.2 (by rw [← hl.1]; exact ex_st1_lt ho) rfl (ex_W_st1 hl ho rfl kk)
  | lstore i =>
    obtain ⟨x, t, rfl, hx⟩ := ex_pl_some (show ex_pl st _ = some _ from hx)
    obtain ⟨ho, rfl, rfl⟩ := ex_go_some hx
    exact lv_lstore hexec hb hd hl.2 (by rw [← hl.1]; exact ex_st2_lt ho) rfl (fun ls' h => kk ls' (ex_LV_st2 hl.1 ho h))
  | lstore_n i =>
    obtain ⟨x, t, rfl, hx⟩ := ex_pl_some (show ex_pl st _ = some _ from hx)
    obtain ⟨ho, rfl, rfl⟩ := ex_go_some hx
    exact lv_lstore_n hexec hb hd rfl hl.2 (by rw [← hl.1]; exact ex_st2_lt ho) rfl (fun ls' h => kk ls' (ex_LV_st2 hl.1 ho h))
  | astore i =>
    obtain ⟨x, t, rfl, hx2⟩ := ex_pn_some (show ex_pn st (fun x t => ex_go (pc + 2) t (ex_st1 lv i (va_rf x))) = some _ from hx)
    obtain ⟨ho, rfl, rfl⟩ := ex_go_some hx2
    cases x with
    | none => exact lv_astoreN hexec hb hd hl.2 (by rw [← hl.1]; exact ex_st1_lt ho) rfl (ex_W_st1 hl ho rfl kk)
    | some a => exact lv_astore hexec hb hd hl.2 (by rw [← hl.1]; exact ex_st1_lt ho) rfl (ex_W_st1 hl ho rfl kk)
  | astore_n i =>
    obtain ⟨x, t, rfl, hx2⟩ := ex_pn_some (show ex_pn st (fun x t => ex_go (pc + 1) t (ex_st1 lv i (va_rf x))) = some _ from hx)
    obtain ⟨ho, rfl, rfl⟩ := ex_go_some hx2
    cases x with
    | none => exact lv_astore_nN hexec hb hd rfl hl.2 (by rw [← hl.1]; exact ex_st1_lt ho) rfl (ex_W_st1 hl ho rfl kk)
    | some a => exact lv_astore_n hexec hb hd rfl hl.2 (by rw [← hl.1]; exact ex_st1_lt ho) rfl (ex_W_st1 hl ho rfl kk)
  | iinc i n =>
    obtain ⟨x, h1, ho, rfl, rfl⟩ := ex_inc_some (show ex_inc lv i n (pc + 3) st = _ from hx)
    obtain ⟨k, hk⟩ := List.getElem?_of_mem (ex_kn_of (ad := ad) h1 (fun q => by cases q))
    exact lv_iinc hexec hb hd hl.2 hk (by rw [ex_i_int]) (by rw [← hl.1]; exact ex_st1_lt ho) rfl (ex_W_st1 hl ho rfl kk)
  | iadd =>
    obtain ⟨y, t, rfl, hx⟩ := ex_pi_some (show ex_pi st _ = some _ from hx)
    obtain ⟨x, u, rfl, hx⟩ := ex_pi_some hx
    cases hx; exact lv_iadd hexec hb hd (kk ls hl)
  | isub =>
    obtain ⟨y, t, rfl, hx⟩ := ex_pi_some (show ex_pi st _ = some _ from hx)
    obtain ⟨x, u, rfl, hx⟩ := ex_pi_some hx
    cases hx; exact lv_isub hexec hb hd (kk ls hl)
  | imul =>
    obtain ⟨y, t, rfl, hx⟩ := ex_pi_some (show ex_pi st _ = some _ from hx)
    obtain ⟨x, u, rfl, hx⟩ := ex_pi_some hx
    cases hx; exact lv_imul hexec hb hd (kk ls hl)
  | iand =>
    obtain ⟨y, t, rfl, hx⟩ := ex_pi_some (show ex_pi st _ = some _ from hx)
    obtain ⟨x, u, rfl, hx⟩ := ex_pi_some hx
    cases hx; exact lv_iand hexec hb hd (kk ls hl)
  | irem =>
    obtain ⟨y, t, rfl, hx⟩ := ex_pi_some (show ex_pi st _ = some _ from hx)
    obtain ⟨x, u, rfl, hx⟩ := ex_pi_some hx
    have hx : (if y = 0 then none else some (pc + 1, lv, Value.int (x - x / y * y) :: u)) = some (pc', lv', st') := hx
    split at hx
    · cases hx
    · cases hx; exact lv_irem hexec hb hd ‹_› (kk ls hl)
  | ishr =>
    obtain ⟨y, t, rfl, hx⟩ := ex_pi_some (show ex_pi st _ = some _ from hx)
    obtain ⟨x, u, rfl, hx⟩ := ex_pi_some hx
    cases hx; exact lv_ishr hexec hb hd (kk ls hl)
  | iushr =>
    obtain ⟨y, t, rfl, hx⟩ := ex_pi_some (show ex_pi st _ = some _ from hx)
    obtain ⟨x, u, rfl, hx⟩ := ex_pi_some hx
    cases hx; exact lv_iushr hexec hb hd rfl (kk ls hl)
  | ladd =>
    obtain ⟨y, t, rfl, hx⟩ := ex_pl_some (show ex_pl st _ = some _ from hx)
    obtain ⟨x, u, rfl, hx⟩ := ex_pl_some hx
    cases hx; exact lv_ladd hexec hb hd (kk ls hl)
  | lmul =>
    obtain ⟨y, t, rfl, hx⟩ := ex_pl_some (show ex_pl st _ = some _ from hx)
    obtain ⟨x, u, rfl, hx⟩ := ex_pl_some hx
    cases hx; exact lv_lmul hexec hb hd (kk ls hl)
  | land =>
    obtain ⟨y, t, rfl, hx⟩ := ex_pl_some (show ex_pl st _ = some _ from hx)
    obtain ⟨x, u, rfl, hx⟩ := ex_pl_some hx
    cases hx; exact lv_land hexec hb hd (kk ls hl)
  | lor =>
    obtain ⟨y, t, rfl, hx⟩ := ex_pl_some (show ex_pl st _ = some _ from hx)
    obtain ⟨x, u, rfl, hx⟩ := ex_pl_some hx
    cases hx; exact lv_lor hexec hb hd (kk ls hl)
  | lshl =>
    obtain ⟨y, t, rfl, hx⟩ := ex_pi_some (show ex_pi st _ = some _ from hx)
    obtain ⟨x, u, rfl, hx⟩ := ex_pl_some hx
    cases hx; exact lv_lshl hexec hb hd rfl (kk ls hl)
  | lshr =>
    obtain ⟨y, t, rfl, hx⟩ := ex_pi_some (show ex_pi st _ = some _ from hx)
    obtain ⟨x, u, rfl, hx⟩ := ex_pl_some hx
    cases hx; exact lv_lshr hexec hb hd rfl (kk ls hl)
  | lcmp =>
    obtain ⟨y, t, rfl, hx⟩ := ex_pl_some (show ex_pl st _ = some _ from hx)
    obtain ⟨x, u, rfl, hx⟩ := ex_pl_some hx
    cases hx; exact W.lcmp hexec hb hd (kk ls hl)
  | i2l =>
    obtain ⟨x, t, rfl, hx⟩ := ex_pi_some (show ex_pi st _ = some _ from hx)
    cases hx; exact lv_i2l hexec hb hd rfl (kk ls hl)
  | l2i =>
    obtain ⟨x, t, rfl, hx⟩ := ex_pl_some (show ex_pl st _ = some _ from hx)
    cases hx; exact lv_l2i hexec hb hd rfl (kk ls hl)
  | dup =>
    obtain ⟨v, t, rfl, hv, hx⟩ := ex_p1_some (show ex_p1 st _ = some _ from hx)
    cases hx; exact lv_dup hexec hb hd ((ex_rv_cat ad v).trans hv) (kk ls hl)
  | dup2 =>
    obtain ⟨v, t, rfl, hv, hx⟩ := ex_p1_some (show ex_p1 st _ = some _ from hx)
    obtain ⟨w, u, rfl, hw, hx⟩ := ex_p1_some hx
    cases hx; exact lv_dup2_11 hexec hb hd ((ex_rv_cat ad v).trans hv) ((ex_rv_cat ad w).trans hw) (kk ls hl)
  | pop =>
    obtain ⟨v, t, rfl, hv, hx⟩ := ex_p1_some (show ex_p1 st _ = some _ from hx)
    cases hx; exact lv_pop hexec hb hd ((ex_rv_cat ad v).trans hv) (kk ls hl)
  | ifCond k off =>
    obtain ⟨x, t, rfl, hx⟩ := ex_pi_some (show ex_pi st _ = some _ from hx)
    obtain ⟨tg, ht, rfl, rfl, rfl⟩ := ex_br_some hx
    have kk := kk ls hl
    cases k with
    | eq => exact lv_if_eq hexec hb hd ht (fun h => by rw [if_pos (show ex_cmp .eq x 0 = true from decide_eq_true h)] at kk; exact kk) (fun h => by rw [if_neg (by simp [ex_cmp, h])] at kk; exact kk)
    | ne => exact lv_if_ne hexec hb hd ht (fun h => by rw [if_pos (show ex_cmp .ne x 0 = true from decide_eq_true h)] at kk; exact kk) (fun h => by rw [if_neg (by simp [ex_cmp, h])] at kk; exact kk)
    | lt => exact lv_if_lt hexec hb hd ht (fun h => by rw [if_pos (show ex_cmp .lt x 0 = true from decide_eq_true h)] at kk; exact kk) (fun h => by rw [if_neg (by simpa [ex_cmp] using h)] at kk; exact kk)
    | ge => exact lv_if_ge hexec hb hd ht (fun h => by rw [if_pos (show ex_cmp .ge x 0 = true from decide_eq_true h)] at kk; exact kk) (fun h => by rw [if_neg (by simpa [ex_cmp] using h)] at kk; exact kk)
    | gt => exact lv_if_gt hexec hb hd ht (fun h => by rw [if_pos (show ex_cmp .gt x 0 = true from decide_eq_true h)] at kk; exact kk) (fun h => by rw [if_neg (by simpa [ex_cmp] using h)] at kk; exact kk)
    | le => exact lv_if_le hexec hb hd ht (fun h => by rw [if_pos (show ex_cmp .le x 0 = true from decide_eq_true h)] at kk; exact kk) (fun h => by rw [if_neg (by simpa [ex_cmp] using h)] at kk; exact kk)
  | if_icmp k off =>
    obtain ⟨y, t, rfl, hx⟩ := ex_pi_some (show ex_pi st _ = some _ from hx)
    obtain ⟨x, u, rfl, hx⟩ := ex_pi_some hx
    obtain ⟨tg, ht, rfl, rfl, rfl⟩ := ex_br_some hx
    have kk := kk ls hl
    cases k with
    | eq => exact lv_icmp_eq hexec hb hd ht (fun h => by rw [if_pos (show ex_cmp .eq x y = true from decide_eq_true h)] at kk; exact kk) (fun h => by rw [if_neg (by simp [ex_cmp, h])] at kk; exact kk)
    | ne => exact lv_icmp_ne hexec hb hd ht (fun h => by rw [if_pos (show ex_cmp .ne x y = true from decide_eq_true h)] at kk; exact kk) (fun h => by rw [if_neg (by simp [ex_cmp, h])] at kk; exact kk)
    | lt => exact lv_icmp_lt hexec hb hd ht (fun h => by rw [if_pos (show ex_cmp .lt x y = true from decide_eq_true h)] at kk; exact kk) (fun h => by rw [if_neg (by simpa [ex_cmp] using h)] at kk; exact kk)
    | ge => exact lv_icmp_ge hexec hb hd ht (fun h => by rw [if_pos (show ex_cmp .ge x y = true from decide_eq_true h)] at kk; exact kk) (fun h => by rw [if_neg (by simpa [ex_cmp] using h)] at kk; exact kk)
    | gt => exact lv_icmp_gt hexec hb hd ht (fun h => by rw [if_pos (show ex_cmp .gt x y = true from decide_eq_true h)] at kk; exact kk) (fun h => by rw [if_neg (by simpa [ex_cmp] using h)] at kk; exact kk)
    | le => exact lv_icmp_le hexec hb hd ht (fun h => by rw [if_pos (show ex_cmp .le x y = true from decide_eq_true h)] at kk; exact kk) (fun h => by rw [if_neg (by simpa [ex_cmp] using h)] at kk; exact kk)
  | ifnull off =>
    obtain ⟨x, t, rfl, hx2⟩ := ex_pn_some (show ex_pn st (fun x t => ex_br x.isNone pc off lv t) = some _ from hx)
    obtain ⟨tg, ht, rfl, rfl, rfl⟩ := ex_br_some hx2
    cases x with
    | none => exact lv_ifnullN hexec hb hd ht (kk ls hl)
    | some a => exact lv_ifnull hexec hb hd (kk ls hl)
  | ifnonnull off =>
    obtain ⟨x, t, rfl, hx2⟩ := ex_pn_some (show ex_pn st (fun x t => ex_br x.isSome pc off lv t) = some _ from hx)
    obtain ⟨tg, ht, rfl, rfl, rfl⟩ := ex_br_some hx2
    cases x with
    | none => exact lv_ifnonnullN hexec hb hd (kk ls hl)
    | some a => exact lv_ifnonnull hexec hb hd ht (kk ls hl)
  | goto off =>
    obtain ⟨ht, rfl, rfl⟩ := ex_to_some (show ex_to pc off lv st = _ from hx)
    exact lv_goto hexec hb hd ht (kk ls hl)
  | tableswitch dflt lo hi offs =>
    obtain ⟨n, hd⟩ := hd
    obtain ⟨x, t, rfl, hx⟩ := ex_pi_some (show ex_pi st _ = some _ from hx)
    have hx : ex_sw x pc dflt lo hi offs lv t = some (pc', lv', st') := hx
    unfold ex_sw at hx
    split at hx
    · rename_i hr
      obtain ⟨ht, rfl, rfl⟩ := ex_to_some hx
      exact lv_tableOut hexec hb hd hr ht (kk ls hl)
    · rename_i hr
      split at hx
      · rename_i off ho
        obtain ⟨ht, rfl, rfl⟩ := ex_to_some hx
        exact lv_tableIn hexec hb hd (fun q => hr (Or.inl q)) (fun q => hr (Or.inr q)) ho ht (kk ls hl)
      · cases hx
  | _ => exact absurd (show (none : Option ex_Pr) = some _ from hx) (fun q => by cases q)
end EXP
end
section
/-! the abstract heap on the machine -/
def ex_cell (G : ex_G) (ca : Nat → ClassId) (ad : Nat → Nat) (h : ex_Hp) (i : Nat) : va_E := match ex_kd G i with
  | (0, c) => .inr (c, (List.range (ex_nf G c)).map fun k => ex_rv ad (ex_fv G h c i k))
  | (1, n) => .inl (ca 1, n, .inl (h.2.2.1 i))
  | (2, n) => .inl (ca 2, n, .inl (h.2.2.1 i))
  | (t + 3, n) => .inl (ca (t + 3), n, .inr (.inr (.inr (.inr fun k => (h.2.2.2 i k).map ad))))
def ex_ws (G : ex_G) (ca : Nat → ClassId) (ad : Nat → Nat) (h : ex_Hp) : va_W := (List.range h.1).map fun i => (ad i, ex_cell G ca ad h i)
section EXW
variable {G : ex_G} {ca : Nat → ClassId} {ad : Nat → Nat} {h h' : ex_Hp}
theorem ex_cell_0 {i c : Nat} (hk : ex_kd G i = (0, c)) : ex_cell G ca ad h i = .inr (c, (List.range (ex_nf G c)).map fun k => ex_rv ad (ex_fv G h c i k)) := by
  unfold ex_cell; rw [hk]
theorem ex_cell_1 {i n : Nat} (hk : ex_kd G i = (1, n)) : ex_cell G ca ad h i = .inl (ca 1, n, .inl (h.2.2.1 i)) := by
  unfold ex_cell; rw [hk]
theorem ex_cell_2 {i n : Nat} (hk : ex_kd G i = (2, n)) : ex_cell G ca ad h i = .inl (ca 2, n, .inl (h.2.2.1 i)) := by
  unfold ex_cell; rw [hk]
theorem ex_cell_3 {i t n : Nat} (hk : ex_kd G i = (t + 3, n)) : ex_cell G ca ad h i = .inl (ca (t + 3), n, .inr (.inr (.inr (.inr fun k => (h.2.2.2 i k).map ad)))) := by
  unfold ex_cell; rw [hk]
theorem ex_fv_congr {c i k : Nat} (h1 : h'.2.2.1 i = h.2.2.1 i) (h2 : h'.2.2.2 i = h.2.2.2 i) : ex_fv G h' c i k = ex_fv G h c i k := by
  unfold ex_fv; rw [h1, h2]
theorem ex_cell_congr {i : Nat} (h1 : h'.2.2.1 i = h.2.2.1 i) (h2 : h'.2.2.2 i = h.2.2.2 i) : ex_cell G ca ad h' i = ex_cell G ca ad h i := by
  unfold ex_cell
  simp only [h1, h2, ex_fv_congr h1 h2]
theorem ex_ws_get {i : Nat} (hi : i < h.1) : (ex_ws G ca ad h)[i]? = some (ad i, ex_cell G ca ad h i) := by
  unfold ex_ws
  rw [List.getElem?_map, List.getElem?_range hi]; rfl
theorem ex_ws_at {i : Nat} {e : va_E} (hi : i < h.1) (he : ex_cell G ca ad h i = e) : (ex_ws G ca ad h)[i]? = some (ad i, e) := by
  rw [ex_ws_get hi, he]
theorem ex_ws_len : (ex_ws G ca ad h).length = h.1 := by simp [ex_ws]
theorem ex_ws_to {i : Nat} {q : Nat × va_E} (hq : (ex_ws G ca ad h)[i]? = some q) : i < h.1 ∧ q = (ad i, ex_cell G ca ad h i) := by
  have hi : i < h.1 := by rw [← ex_ws_len (G := G) (ca := ca) (ad := ad) (h := h)]; exact (List.getElem?_eq_some_iff.mp hq).1
  rw [ex_ws_get hi] at hq
  exact ⟨hi, (Option.some.inj hq).symm⟩
/-- one cell has changed -/
theorem ex_ws_set {a : Nat} {e : va_E} (ha : a < h.1) (hs : h'.1 = h.1) (he : ex_cell G ca ad h' a = e) (h1 : ∀ i, i ≠ a → h'.2.2.1 i = h.2.2.1 i) (h2 : ∀ i, i ≠ a → h'.2.2.2 i = h.2.2.2 i) : (ex_ws G ca ad h).set a (ad a, e) = ex_ws G ca ad h' := by
  apply List.ext_getElem?
  intro i
  rw [List.getElem?_set]
  by_cases hi : a = i
  · subst hi
    rw [if_pos rfl, ex_ws_len, if_pos ha, ex_ws_get (by rw [hs]; exact ha), he]
  · rw [if_neg hi]
    by_cases hl : i < h.1
    · rw [ex_ws_get hl, ex_ws_get (by rw [hs]; exact hl), ex_cell_congr (h1 i (Ne.symm hi)) (h2 i (Ne.symm hi))]
    · rw [List.getElem?_eq_none (by rw [ex_ws_len]; omega), List.getElem?_eq_none (by rw [ex_ws_len, hs]; omega)]
/-- a cell is new -/
theorem ex_ws_push {n : Nat} {e : va_E} (he : ex_cell G ca ad (ex_hN h n) h.1 = e) : ex_ws G ca ad h ++ [(ad h.1, e)] = ex_ws G ca ad (ex_hN h n) := by
  unfold ex_ws
  show _ = (List.range (h.1 + 1)).map _
  rw [List.range_succ, List.map_append]
  congr 1
  · apply List.map_congr_left
    intro i hi
    have hi := List.mem_range.mp hi
    rw [ex_cell_congr (h := h) (h' := ex_hN h n) (i := i)]
    · funext j
      show (if i = h.1 then 0 else h.2.2.1 i j) = _
      rw [if_neg (by omega)]
    · funext j
      show (if i = h.1 then none else h.2.2.2 i j) = _
      rw [if_neg (by omega)]
  · rw [← he]; rfl
theorem ex_wI_ne {I : ex_Mem} {a k i : Nat} {x : Int32} (hi : i ≠ a) : ex_wI I a k x i = I i := by
  funext j
  exact if_neg (fun q => hi q.1)
theorem ex_wP_ne {P : ex_Pm} {a k i : Nat} {x : Option Nat} (hi : i ≠ a) : ex_wP P a k x i = P i := by
  funext j
  exact if_neg (fun q => hi q.1)
theorem ex_wI_eq {I : ex_Mem} {a k : Nat} {x : Int32} : ex_wI I a k x a = upd (I a) k x := by
  funext j
  by_cases hj : j = k
  · show (if a = a ∧ j = k then x else I a j) = if j = k then x else I a j
    rw [if_pos ⟨rfl, hj⟩, if_pos hj]
  · show (if a = a ∧ j = k then x else I a j) = if j = k then x else I a j
    rw [if_neg (fun q => hj q.2), if_neg hj]
theorem ex_wP_eq {P : ex_Pm} {a k : Nat} {x : Option Nat} : ex_wP P a k x a = va_up (P a) k x := by
  funext j
  by_cases hj : j = k
  · show (if a = a ∧ j = k then x else P a j) = if j = k then x else P a j
    rw [if_pos ⟨rfl, hj⟩, if_pos hj]
  · show (if a = a ∧ j = k then x else P a j) = if j = k then x else P a j
    rw [if_neg (fun q => hj q.2), if_neg hj]
theorem ex_range_set {α : Type} {n k : Nat} {f g : Nat → α} {x : α} (hk : f k = x) (hn : ∀ j, j ≠ k → f j = g j) : (List.range n).map f = ((List.range n).map g).set k x := by
  apply List.ext_getElem?
  intro i
  rw [List.getElem?_set, List.getElem?_map]
  by_cases hi : k = i
  · subst hi
    rw [if_pos rfl]
    by_cases hl : k < n
    · rw [List.getElem?_range hl, if_pos (by simpa using hl), ← hk]; rfl
    · rw [if_neg (by simpa using hl), List.getElem?_eq_none (by simpa using hl)]; rfl
  · rw [if_neg hi, List.getElem?_map]
    by_cases hl : i < n
    · rw [List.getElem?_range hl]
      show some (f i) = some (g i)
      rw [hn i (Ne.symm hi)]
    · rw [List.getElem?_eq_none (by simpa using hl)]; rfl
theorem ex_set_fI {c a k : Nat} {x : Int32} (hk : ex_kd G a = (0, c)) (hf : ¬ ex_fk G c k = 2) : ex_cell G ca ad (ex_hI h a k x) a = .inr (c, ((List.range (ex_nf G c)).map fun j => ex_rv ad (ex_fv G h c a j)).set k (.int x)) := by
  rw [ex_cell_0 hk, ex_range_set]
  · show ex_rv ad (if ex_fk G c k = 2 then va_rf (h.2.2.2 a k) else .int (ex_wI h.2.2.1 a k x a k)) = _
    rw [if_neg hf]
    show Value.int (if a = a ∧ k = k then x else h.2.2.1 a k) = _
    rw [if_pos ⟨rfl, rfl⟩]
  · intro j hj
    show ex_rv ad (if ex_fk G c j = 2 then va_rf (h.2.2.2 a j) else .int (if a = a ∧ j = k then x else h.2.2.1 a j)) = ex_rv ad (if ex_fk G c j = 2 then va_rf (h.2.2.2 a j) else .int (h.2.2.1 a j))
    rw [if_neg (c := a = a ∧ j = k) (fun q => hj q.2)]
theorem ex_set_fP {c a k : Nat} {x : Option Nat} (hk : ex_kd G a = (0, c)) (hf : ex_fk G c k = 2) : ex_cell G ca ad (ex_hP h a k x) a = .inr (c, ((List.range (ex_nf G c)).map fun j => ex_rv ad (ex_fv G h c a j)).set k (ex_rv ad (va_rf x))) := by
  rw [ex_cell_0 hk, ex_range_set]
  · show ex_rv ad (if ex_fk G c k = 2 then va_rf (if a = a ∧ k = k then x else h.2.2.2 a k) else _) = _
    rw [if_pos hf, if_pos ⟨rfl, rfl⟩]
  · intro j hj
    show ex_rv ad (if ex_fk G c j = 2 then va_rf (if a = a ∧ j = k then x else h.2.2.2 a j) else .int (h.2.2.1 a j)) = ex_rv ad (if ex_fk G c j = 2 then va_rf (h.2.2.2 a j) else .int (h.2.2.1 a j))
    rw [if_neg (c := a = a ∧ j = k) (fun q => hj q.2)]
end EXW
/-- the type of an array's elements, by its kind -/
def ex_ty (cn : Nat → String) : Nat → FieldType
  | 2 => .boolean
  | t + 3 => .object (cn t)
  | _ => .int
def ex_TY (G : ex_G) (cn : Nat → String) (ca : Nat → ClassId) (tys : List (ClassId × FieldType)) (n : Nat) : Prop := ∀ i, i < n → ∀ k z, ex_kd G i = (k + 1, z) → (ca (k + 1), ex_ty cn (k + 1)) ∈ tys
/-- the world: cells at base, base + 1, .. -/
def ex_ad (base b : Nat) (a : Nat) : Nat := if a = ex_scr then b else base + a
def ex_Wd (G : ex_G) (cn : Nat → String) (cl : List vw_C) (D : va_G) (ca : Nat → ClassId) (base b : Nat) (U : State) (H : Heap) (h : ex_Hp) : Prop :=
  h.1 ≤ ex_scr ∧ va_P D cl (ex_ws G ca (ex_ad base b) h) H ∧ va_D (fun q => base ≤ q) (ex_ws G ca (ex_ad base b) h) ∧ ∃ tys, va_K D cl tys U ∧ ex_TY G cn ca tys h.1
/-- what stays true of the tables -/
def ex_U (cn : Nat → String) (ca : Nat → ClassId) (nst : Cond → Prop) (ao : Nat → Prop) (base b L : Nat) (xs : Nat → Int32) (U : State) : Prop :=
  (∀ w, nst w → va_Nw w U) ∧ (∀ c, ao c → va_AO (cn c) U) ∧ (∀ k cA, U.vm.findClass ("[" ++ (ex_ty cn (k + 1)).toString) = some cA → cA = ca (k + 1)) ∧ va_X b L xs U U.heap ∧ b < base ∧ base ≤ U.heap.size
theorem ex_RA_find {U : State} {cn : Nat → String} {k : Nat} {cA : ClassId} (h : va_RA U cA (ex_ty cn (k + 1))) : U.vm.findClass ("[" ++ (ex_ty cn (k + 1)).toString) = some cA := by
  match k with
  | 0 => exact h
  | 1 => exact h
  | t + 2 =>
    obtain ⟨kA, comp, h1, h2, h3, h4⟩ := h
    exact h4
theorem ex_ad_lt {base b a : Nat} (h : a < ex_scr) : ex_ad base b a = base + a := if_neg (by omega)
section EXZ
variable {p : Program} {l : Launch} {e : Env} {R : Room} {s : State} {m : MethodId} {args : Array Value} {below : List Frame} {meth : Method} {c : Code} {H : Heap} {locs : List Loc} {cells slots : Nat} {Q : State → Prop}
theorem ex_W_size {g : JFrame} (k : H.size ≤ s.heap.size + cells → W p l e R s m args below meth c H locs cells slots Q g) : W p l e R s m args below meth c H locs cells slots Q g := by
  intro T hT X
  exact k (by rw [← hT]; exact X.heapSize) T hT X
/-- where the new cell lies -/
theorem ex_new_at {D : va_G} {cl : List vw_C} {base n q : Nat} {w : va_W} {x : va_E} (hP : va_P D cl (w ++ [(q, x)]) H) (hD : va_D (fun q => base ≤ q) (w ++ [(q, x)])) (hw : w.length = n) (ha : ∀ i, i < n → ∃ y, w[i]? = some (base + i, y)) (hs : H.size ≤ base + n + 1) : q = base + n := by
  have hq : (w ++ [(q, x)])[n]? = some (q, x) := by
    rw [List.getElem?_append_right (by omega), hw, Nat.sub_self]; rfl
  have h1 := hD.2 n _ hq
  have h2 := (hP n _ hq).lt
  dsimp only at h1 h2
  by_cases h3 : q < base + n
  · obtain ⟨y, hy⟩ := ha (q - base) (by omega)
    have e : base + (q - base) = q := by omega
    rw [e] at hy
    have hy' : (w ++ [(q, x)])[q - base]? = some (q, y) := by rw [List.getElem?_append_left (by omega)]; exact hy
    have := hD.1 _ _ _ _ hy' hq rfl
    omega
  · omega
end EXZ
end
section
/-! the tables and the words -/
def ex_cOK (G : ex_G) (cn : Nat → String) (TT : Nat → u_T) (cl : List vw_C) (TB : List Cond) (c : Nat) : Prop :=
  cl[c]? = some (cn c, TT c, ex_nf G c) ∧ (∀ w ∈ u_ws (cn c) (TT c) (ex_nf G c), w ∈ TB) ∧
  (∃ ty0 : Nat → FieldType, ∀ k, k < ex_nf G c → parseFieldDescriptor (TT c k).2.2.1 = some (ty0 k) ∧ (ex_fk G c k = 0 ∧ ty0 k = .int ∨ ex_fk G c k = 1 ∧ ty0 k = .boolean ∨ ex_fk G c k = 2 ∧ ((∃ C, ty0 k = .object C) ∨ ∃ t, ty0 k = .array t))) ∧
  (∀ a, a < ex_nf G c → ∀ b, b < ex_nf G c → a ≠ b → (TT c a).2.1 ≠ (TT c b).2.1) ∧ (∀ k, k < ex_nf G c → (TT c k).1 = cn c) ∧ Cond.instantiable (cn c) (ex_nf G c) ∈ TB ∧ Cond.initialized (cn c) ∈ TB
/-- a field's link -/
def ex_fL (G : ex_G) (cn : Nat → String) (TT : Nat → u_T) (cl : List vw_C) (TB : List Cond) (nst : Cond → Prop) (host : String) (o i tag c k : Nat) (z : Int) : Prop :=
  ex_cOK G cn TT cl TB c ∧ (tag = 0 ∧ Cond.fieldLink (cn o) i (cn c) (TT c k).2.1 (TT c k).2.2.1 ∈ TB ∨ tag = 1 ∧ nst (Cond.fieldLinkNest (cn o) i (cn c) (TT c k).2.1 (TT c k).2.2.1 host)) ∧
  (z = 0 ∧ (TT c k).2.2.2 = false ∨ z = 1 ∧ (TT c k).2.2.2 = true)
section EXM
variable {p : Program} {l : Launch} {e : Env} {R : Room} {s : State} {m : MethodId} {args : Array Value} {below : List Frame} {meth : Method} {c : Code} {H : Heap} {locs : List Loc} {cells slots : Nat} {Q : State → Prop}
variable {cc : ByteArray} {pc : Nat} {ls : Array Slot} {rest : List Value}
variable {G : ex_G} {cn : Nat → String} {TT : Nat → u_T} {cl : List vw_C} {TB : List Cond} {nst : Cond → Prop} {ao : Nat → Prop} {host : String} {D : va_G} {ca : Nat → ClassId} {base b L : Nat} {xs : Nat → Int32} {h h' : ex_Hp}
theorem ex_Wd_of {a : Nat} {x : va_E} {H1 : Heap} (hw : ex_Wd G cn cl D ca base b s H h) (ha : a < h.1) (hs : h'.1 = h.1) (he : ex_cell G ca (ex_ad base b) h' a = x) (h1 : ∀ i, i ≠ a → h'.2.2.1 i = h.2.2.1 i) (h2 : ∀ i, i ≠ a → h'.2.2.2 i = h.2.2.2 i)
    (hP1 : va_P D cl ((ex_ws G ca (ex_ad base b) h).set a (ex_ad base b a, x)) H1) (hD1 : va_D (fun q => base ≤ q) ((ex_ws G ca (ex_ad base b) h).set a (ex_ad base b a, x))) : ex_Wd G cn cl D ca base b s H1 h' := by
  rw [ex_ws_set ha hs he h1 h2] at hP1 hD1
  obtain ⟨hz, -, -, tys, k1, k2⟩ := hw
  exact ⟨by rw [hs]; exact hz, hP1, hD1, tys, k1, by rw [hs]; exact k2⟩
theorem ex_fs_get {c0 a k : Nat} (hk : k < ex_nf G c0) {ad : Nat → Nat} : ((List.range (ex_nf G c0)).map fun j => ex_rv ad (ex_fv G h c0 a j))[k]? = some (ex_rv ad (ex_fv G h c0 a k)) := by
  rw [List.getElem?_map, List.getElem?_range hk]; rfl
theorem ex_get_ok (hexec : p.tables.exec = Jvm.exec) (hb : c.code = cc) (hts : ∀ w ∈ TB, w.before args s = true) (hN : ∀ w, nst w → va_Nw w s) {o i tag c0 k : Nat} {z : Int} (hlk : ex_fL G cn TT cl TB nst host o i tag c0 k z) (hown : s.vm.findClass (cn o) = some m.cls)
    (hw : ex_Wd G cn cl D ca base b s H h) {a : Nat} (ha : a < h.1) (hk : ex_kd G a = (0, c0)) (hkn : k < ex_nf G c0) (hdg : decode cc pc = .ok (.getfield i, 3))
    (kk : W p l e R s m args below meth c H locs cells slots Q (F0 m (pc + 3) ls (ex_rv (ex_ad base b) (ex_fv G h c0 a k) :: rest))) : W p l e R s m args below meth c H locs cells slots Q (F0 m pc ls (.ref (ex_ad base b a) :: rest)) := by
  obtain ⟨⟨hc, hin, -, -, hdc, -, -⟩, hlink, -⟩ := hlk
  obtain ⟨-, hP, -, tys, hK, -⟩ := hw
  have hsame : ∀ x, s.fieldFound? (TT c0 k).1 (TT c0 k).2.1 (TT c0 k).2.2.1 = some x → s.fieldFound? (cn c0) (TT c0 k).2.1 (TT c0 k).2.2.1 = some x := fun x hx => by rw [← hdc k hkn]; exact hx
  rcases hlink with ⟨-, hl⟩ | ⟨-, hl⟩
  · exact va_get hexec hb hts hin hown hK hP a (ex_ws_at ha (ex_cell_0 hk)) hc k hkn (hts _ hl) hsame (ex_fs_get hkn) hdg kk
  · exact va_getN hexec hb hts hin hown hK hP a (ex_ws_at ha (ex_cell_0 hk)) hc k hkn (va_Nw.use rfl (hN _ hl)) hsame (ex_fs_get hkn) hdg kk
theorem ex_put_ok (hexec : p.tables.exec = Jvm.exec) (hb : c.code = cc) (hts : ∀ w ∈ TB, w.before args s = true) (hN : ∀ w, nst w → va_Nw w s) {o i tag c0 k : Nat} {z : Int} (hlk : ex_fL G cn TT cl TB nst host o i tag c0 k z) (hown : s.vm.findClass (cn o) = some m.cls)
    (hw : ex_Wd G cn cl D ca base b s H h) (hS : va_S (fun q => base ≤ q) s.heap H locs) {a : Nat} (ha : a < h.1) (hk : ex_kd G a = (0, c0)) (hkn : k < ex_nf G c0) (hz : z = 0 ∨ tag = 0 ∧ z = 1 ∧ o = c0 ∧ meth.name = "<init>")
    {v : Value} (hv : ∀ ty : FieldType, (ex_fk G c0 k = 0 ∧ ty = .int ∨ ex_fk G c0 k = 1 ∧ ty = .boolean ∨ ex_fk G c0 k = 2 ∧ ((∃ C, ty = .object C) ∨ ∃ t, ty = .array t)) → narrow ty v = v ∧ fits ty v = true)
    (hs : h'.1 = h.1) (he : ex_cell G ca (ex_ad base b) h' a = .inr (c0, ((List.range (ex_nf G c0)).map fun j => ex_rv (ex_ad base b) (ex_fv G h c0 a j)).set k v)) (h1 : ∀ i, i ≠ a → h'.2.2.1 i = h.2.2.1 i) (h2 : ∀ i, i ≠ a → h'.2.2.2 i = h.2.2.2 i) (hdg : decode cc pc = .ok (.putfield i, 3))
    (kk : ∀ (H1 : Heap) (locs1 : List Loc), ex_Wd G cn cl D ca base b s H1 h' → va_S (fun q => base ≤ q) s.heap H1 locs1 → W p l e R s m args below meth c H1 locs1 cells slots Q (F0 m (pc + 3) ls rest)) : W p l e R s m args below meth c H locs cells slots Q (F0 m pc ls (v :: .ref (ex_ad base b a) :: rest)) := by
  obtain ⟨⟨hc, hin, ⟨ty0, hty⟩, hnm, hdc, -, -⟩, hlink, hfin⟩ := hlk
  have hw0 := hw
  obtain ⟨-, hP, hD, tys, hK, -⟩ := hw
  have hsame : ∀ x, s.fieldFound? (TT c0 k).1 (TT c0 k).2.1 (TT c0 k).2.2.1 = some x → s.fieldFound? (cn c0) (TT c0 k).2.1 (TT c0 k).2.2.1 = some x := fun x hx => by rw [← hdc k hkn]; exact hx
  obtain ⟨v1, v2⟩ := hv _ (hty k hkn).2
  have hl : k < ((List.range (ex_nf G c0)).map fun j => ex_rv (ex_ad base b) (ex_fv G h c0 a j)).length := by simpa using hkn
  rcases hlink with ⟨-, hlw⟩ | ⟨ht1, hlw⟩
  · rcases hfin with ⟨hz0, hf⟩ | ⟨hz1, hf⟩
    · exact va_put hexec hb hts hin ty0 (fun j hj => (hty j hj).1) hnm hown hK hP hD hS a (ex_ws_at ha (ex_cell_0 hk)) hc k hkn (hts _ hlw) hsame hf (hty k hkn).1 v1 v2 hl hdg (fun H1 locs1 p1 d1 s1 => kk H1 locs1 (ex_Wd_of hw0 ha hs he h1 h2 p1 d1) s1)
    · rcases hz with hz | ⟨-, -, ho, hnam⟩
      · rw [hz] at hz1; cases hz1
      · subst ho
        exact va_putF hexec hb hts hin ty0 (fun j hj => (hty j hj).1) hnm hown hK hP hD hS a (ex_ws_at ha (ex_cell_0 hk)) hc k hkn (hts _ hlw) hsame hf hnam (hdc k hkn) (hty k hkn).1 v1 v2 hl hdg (fun H1 locs1 p1 d1 s1 => kk H1 locs1 (ex_Wd_of hw0 ha hs he h1 h2 p1 d1) s1)
  · rcases hfin with ⟨hz0, hf⟩ | ⟨hz1, hf⟩
    · exact va_putN hexec hb hts hin ty0 (fun j hj => (hty j hj).1) hnm hown hK hP hD hS a (ex_ws_at ha (ex_cell_0 hk)) hc k hkn (va_Nw.use rfl (hN _ hlw)) hsame hf (hty k hkn).1 v1 v2 hl hdg (fun H1 locs1 p1 d1 s1 => kk H1 locs1 (ex_Wd_of hw0 ha hs he h1 h2 p1 d1) s1)
    · rcases hz with hz | ⟨hz, -⟩
      · rw [hz] at hz1; cases hz1
      · rw [hz] at ht1; cases ht1
theorem ex_narrow_int (x : Int32) : narrow .int (.int x) = .int x ∧ fits .int (.int x) = true := ⟨rfl, rfl⟩
theorem ex_narrow_bool {x : Int32} (hx : ex_b01 x = true) : narrow .boolean (.int x) = .int x ∧ fits .boolean (.int x) = true := by
  rcases of_decide_eq_true hx with rfl | rfl <;> exact ⟨by decide, by decide⟩
theorem ex_narrow_ref (r : Option Nat) {ty : FieldType} (h : (∃ C, ty = .object C) ∨ ∃ t, ty = .array t) : narrow ty (va_rf r) = va_rf r ∧ fits ty (va_rf r) = true := by
  rcases h with ⟨C, rfl⟩ | ⟨t, rfl⟩ <;> cases r <;> exact ⟨rfl, rfl⟩
theorem ex_putI_ok (hexec : p.tables.exec = Jvm.exec) (hb : c.code = cc) (hts : ∀ w ∈ TB, w.before args s = true) (hN : ∀ w, nst w → va_Nw w s) {o i tag c0 k : Nat} {z : Int} (hlk : ex_fL G cn TT cl TB nst host o i tag c0 k z) (hown : s.vm.findClass (cn o) = some m.cls)
    (hw : ex_Wd G cn cl D ca base b s H h) (hS : va_S (fun q => base ≤ q) s.heap H locs) {a : Nat} (ha : a < h.1) (hk : ex_kd G a = (0, c0)) (hkn : k < ex_nf G c0) (hz : z = 0 ∨ tag = 0 ∧ z = 1 ∧ o = c0 ∧ meth.name = "<init>")
    {x : Int32} (hx : ex_fk G c0 k = 0 ∨ ex_fk G c0 k = 1 ∧ ex_b01 x = true) (hdg : decode cc pc = .ok (.putfield i, 3))
    (kk : ∀ (H1 : Heap) (locs1 : List Loc), ex_Wd G cn cl D ca base b s H1 (ex_hI h a k x) → va_S (fun q => base ≤ q) s.heap H1 locs1 → W p l e R s m args below meth c H1 locs1 cells slots Q (F0 m (pc + 3) ls rest)) : W p l e R s m args below meth c H locs cells slots Q (F0 m pc ls (.int x :: .ref (ex_ad base b a) :: rest)) := by
  refine ex_put_ok hexec hb hts hN hlk hown hw hS ha hk hkn hz (h' := ex_hI h a k x) (fun ty hty => ?_) rfl (ex_set_fI hk (by rcases hx with q | ⟨q, -⟩ <;> rw [q] <;> decide)) (fun i hi => ex_wI_ne hi) (fun i hi => rfl) hdg kk
  rcases hty with ⟨-, rfl⟩ | ⟨q, rfl⟩ | ⟨q, -⟩
  · exact ex_narrow_int x
  · rcases hx with q2 | ⟨-, q2⟩
    · rw [q] at q2; cases q2
    · exact ex_narrow_bool q2
  · rcases hx with q2 | ⟨q2, -⟩ <;> rw [q] at q2 <;> cases q2
theorem ex_putP_ok (hexec : p.tables.exec = Jvm.exec) (hb : c.code = cc) (hts : ∀ w ∈ TB, w.before args s = true) (hN : ∀ w, nst w → va_Nw w s) {o i tag c0 k : Nat} {z : Int} (hlk : ex_fL G cn TT cl TB nst host o i tag c0 k z) (hown : s.vm.findClass (cn o) = some m.cls)
    (hw : ex_Wd G cn cl D ca base b s H h) (hS : va_S (fun q => base ≤ q) s.heap H locs) {a : Nat} (ha : a < h.1) (hk : ex_kd G a = (0, c0)) (hkn : k < ex_nf G c0) (hz : z = 0 ∨ tag = 0 ∧ z = 1 ∧ o = c0 ∧ meth.name = "<init>")
    {x : Option Nat} (hx : ex_fk G c0 k = 2) (hdg : decode cc pc = .ok (.putfield i, 3))
    (kk : ∀ (H1 : Heap) (locs1 : List Loc), ex_Wd G cn cl D ca base b s H1 (ex_hP h a k x) → va_S (fun q => base ≤ q) s.heap H1 locs1 → W p l e R s m args below meth c H1 locs1 cells slots Q (F0 m (pc + 3) ls rest)) : W p l e R s m args below meth c H locs cells slots Q (F0 m pc ls (ex_rv (ex_ad base b) (va_rf x) :: .ref (ex_ad base b a) :: rest)) := by
  refine ex_put_ok hexec hb hts hN hlk hown hw hS ha hk hkn hz (h' := ex_hP h a k x) (fun ty hty => ?_) rfl (ex_set_fP hk hx) (fun i hi => rfl) (fun i hi => ex_wP_ne hi) hdg kk
  rcases hty with ⟨q, -⟩ | ⟨q, -⟩ | ⟨-, q⟩
  · rw [hx] at q; cases q
  · rw [hx] at q; cases q
  · rw [ex_rv_rf]
    exact ex_narrow_ref _ q
/-- an array's place in the list of types -/
theorem ex_ty_at (hw : ex_Wd G cn cl D ca base b s H h) {a k n : Nat} (ha : a < h.1) (hk : ex_kd G a = (k + 1, n)) : ∃ (tys : List (ClassId × FieldType)) (t0 : Nat), va_K D cl tys s ∧ tys[t0]? = some (ca (k + 1), ex_ty cn (k + 1)) := by
  obtain ⟨-, -, -, tys, hK, hT⟩ := hw
  obtain ⟨t0, h0⟩ := List.getElem?_of_mem (hT a ha k n hk)
  exact ⟨tys, t0, hK, h0⟩
theorem ex_in_vp {i : Int32} {n : Nat} (hi : ex_in i n = true) : vp_in i n := by
  have h2 : ¬ (i < 0 ∨ n ≤ i.toNatClampNeg) := of_decide_eq_true hi
  exact h2
theorem ex_iald_ok (hexec : p.tables.exec = Jvm.exec) (hb : c.code = cc) (hw : ex_Wd G cn cl D ca base b s H h) {a n : Nat} (ha : a < h.1) (hk : ex_kd G a = (1, n)) {i : Int32} (hi : ex_in i n = true) (hdg : decode cc pc = .ok (.iaload, 1))
    (kk : W p l e R s m args below meth c H locs cells slots Q (F0 m (pc + 1) ls (.int (h.2.2.1 a i.toNatClampNeg) :: rest))) : W p l e R s m args below meth c H locs cells slots Q (F0 m pc ls (.int i :: .ref (ex_ad base b a) :: rest)) := by
  obtain ⟨tys, t0, hK, h0⟩ := ex_ty_at hw ha hk
  exact va_iald hexec hb hK hw.2.1 a t0 (ex_ws_at ha (ex_cell_1 hk)) h0 (ex_in_vp hi) hdg kk
theorem ex_zald_ok (hexec : p.tables.exec = Jvm.exec) (hb : c.code = cc) (hw : ex_Wd G cn cl D ca base b s H h) {a n : Nat} (ha : a < h.1) (hk : ex_kd G a = (2, n)) {i : Int32} (hi : ex_in i n = true) (hdg : decode cc pc = .ok (.baload, 1))
    (kk : W p l e R s m args below meth c H locs cells slots Q (F0 m (pc + 1) ls (.int (h.2.2.1 a i.toNatClampNeg) :: rest))) : W p l e R s m args below meth c H locs cells slots Q (F0 m pc ls (.int i :: .ref (ex_ad base b a) :: rest)) := by
  obtain ⟨tys, t0, hK, h0⟩ := ex_ty_at hw ha hk
  exact va_zald hexec hb hK hw.2.1 a t0 (ex_ws_at ha (ex_cell_2 hk)) h0 (ex_in_vp hi) hdg kk
theorem ex_aald_ok (hexec : p.tables.exec = Jvm.exec) (hb : c.code = cc) (hw : ex_Wd G cn cl D ca base b s H h) {a t n : Nat} (ha : a < h.1) (hk : ex_kd G a = (t + 3, n)) {i : Int32} (hi : ex_in i n = true) (hdg : decode cc pc = .ok (.aaload, 1))
    (kk : W p l e R s m args below meth c H locs cells slots Q (F0 m (pc + 1) ls (ex_rv (ex_ad base b) (va_rf (h.2.2.2 a i.toNatClampNeg)) :: rest))) : W p l e R s m args below meth c H locs cells slots Q (F0 m pc ls (.int i :: .ref (ex_ad base b a) :: rest)) := by
  obtain ⟨tys, t0, hK, h0⟩ := ex_ty_at hw ha hk
  rw [ex_rv_rf] at kk
  exact va_aldq hexec hb hK hw.2.1 a t0 (ex_ws_at ha (ex_cell_3 hk)) h0 (ex_in_vp hi) hdg kk
theorem ex_iast_ok (hexec : p.tables.exec = Jvm.exec) (hb : c.code = cc) (hw : ex_Wd G cn cl D ca base b s H h) (hS : va_S (fun q => base ≤ q) s.heap H locs) {a n : Nat} (ha : a < h.1) (hk : ex_kd G a = (1, n)) {i x : Int32} (hi : ex_in i n = true) (hdg : decode cc pc = .ok (.iastore, 1))
    (kk : ∀ (H1 : Heap) (locs1 : List Loc), ex_Wd G cn cl D ca base b s H1 (ex_hI h a i.toNatClampNeg x) → va_S (fun q => base ≤ q) s.heap H1 locs1 → W p l e R s m args below meth c H1 locs1 cells slots Q (F0 m (pc + 1) ls rest)) : W p l e R s m args below meth c H locs cells slots Q (F0 m pc ls (.int x :: .int i :: .ref (ex_ad base b a) :: rest)) := by
  obtain ⟨tys, t0, hK, h0⟩ := ex_ty_at hw ha hk
  refine va_iast hexec hb hK hw.2.1 hw.2.2.1 hS a t0 (ex_ws_at ha (ex_cell_1 hk)) h0 (ex_in_vp hi) hdg (fun H1 locs1 p1 d1 s1 => kk H1 locs1 (ex_Wd_of (h' := ex_hI h a i.toNatClampNeg x) hw ha rfl ?_ (fun i hi => ex_wI_ne hi) (fun i hi => rfl) p1 d1) s1)
  rw [ex_cell_1 hk]
  show (Sum.inl (ca 1, n, Sum.inl (ex_wI h.2.2.1 a _ x a)) : va_E) = _
  rw [ex_wI_eq]
theorem ex_nar_bool {x : Int32} (hx : ex_b01 x = true) : vp_nar .boolean x = x := by
  rcases of_decide_eq_true hx with rfl | rfl <;> decide
theorem ex_zast_ok (hexec : p.tables.exec = Jvm.exec) (hb : c.code = cc) (hw : ex_Wd G cn cl D ca base b s H h) (hS : va_S (fun q => base ≤ q) s.heap H locs) {a n : Nat} (ha : a < h.1) (hk : ex_kd G a = (2, n)) {i x : Int32} (hi : ex_in i n = true) (hx : ex_b01 x = true) (hdg : decode cc pc = .ok (.bastore, 1))
    (kk : ∀ (H1 : Heap) (locs1 : List Loc), ex_Wd G cn cl D ca base b s H1 (ex_hI h a i.toNatClampNeg x) → va_S (fun q => base ≤ q) s.heap H1 locs1 → W p l e R s m args below meth c H1 locs1 cells slots Q (F0 m (pc + 1) ls rest)) : W p l e R s m args below meth c H locs cells slots Q (F0 m pc ls (.int x :: .int i :: .ref (ex_ad base b a) :: rest)) := by
  obtain ⟨tys, t0, hK, h0⟩ := ex_ty_at hw ha hk
  refine va_zast hexec hb hK hw.2.1 hw.2.2.1 hS a t0 (ex_ws_at ha (ex_cell_2 hk)) h0 (ex_in_vp hi) hdg (fun H1 locs1 p1 d1 s1 => kk H1 locs1 (ex_Wd_of (h' := ex_hI h a i.toNatClampNeg x) hw ha rfl ?_ (fun i hi => ex_wI_ne hi) (fun i hi => rfl) p1 d1) s1)
  rw [ex_cell_2 hk, ex_nar_bool hx]
  show (Sum.inl (ca 2, n, Sum.inl (ex_wI h.2.2.1 a _ x a)) : va_E) = _
  rw [ex_wI_eq]
theorem ex_aast_ok (hexec : p.tables.exec = Jvm.exec) (hb : c.code = cc) (hw : ex_Wd G cn cl D ca base b s H h) (hS : va_S (fun q => base ≤ q) s.heap H locs) {a x t n : Nat} (ha : a < h.1) (hk : ex_kd G a = (t + 3, n)) (hx : x < h.1) (hkx : ex_kd G x = (0, t)) (hc : ex_cOK G cn TT cl TB t) {i : Int32} (hi : ex_in i n = true) (hdg : decode cc pc = .ok (.aastore, 1))
    (kk : ∀ (H1 : Heap) (locs1 : List Loc), ex_Wd G cn cl D ca base b s H1 (ex_hP h a i.toNatClampNeg (some x)) → va_S (fun q => base ≤ q) s.heap H1 locs1 → W p l e R s m args below meth c H1 locs1 cells slots Q (F0 m (pc + 1) ls rest)) : W p l e R s m args below meth c H locs cells slots Q (F0 m pc ls (.ref (ex_ad base b x) :: .int i :: .ref (ex_ad base b a) :: rest)) := by
  obtain ⟨tys, t0, hK, h0⟩ := ex_ty_at hw ha hk
  refine va_astq hexec hb hK hw.2.1 hw.2.2.1 hS a t0 x t (r := (cn t, TT t, ex_nf G t)) (ex_ws_at ha (ex_cell_3 hk)) h0 (ex_ws_at hx (ex_cell_0 hkx)) hc.1 (ex_in_vp hi) hdg (fun H1 locs1 p1 d1 s1 => kk H1 locs1 (ex_Wd_of (h' := ex_hP h a i.toNatClampNeg (some x)) hw ha rfl ?_ (fun i hi => rfl) (fun i hi => ex_wP_ne hi) p1 d1) s1)
  rw [ex_cell_3 hk]
  have e1 : (fun k => ((ex_hP h a i.toNatClampNeg (some x)).2.2.2 a k).map (ex_ad base b)) = va_up (fun k => (h.2.2.2 a k).map (ex_ad base b)) i.toNatClampNeg (some (ex_ad base b x)) := by
    funext j
    show (ex_wP h.2.2.2 a i.toNatClampNeg (some x) a j).map (ex_ad base b) = _
    rw [ex_wP_eq]
    unfold va_up
    split <;> rfl
  rw [e1]
theorem ex_alen_ok (hexec : p.tables.exec = Jvm.exec) (hb : c.code = cc) (hw : ex_Wd G cn cl D ca base b s H h) {a k n : Nat} (ha : a < h.1) (hk : ex_kd G a = (k + 1, n)) (hdg : decode cc pc = .ok (.arraylength, 1))
    (kk : W p l e R s m args below meth c H locs cells slots Q (F0 m (pc + 1) ls (.int (nI n) :: rest))) : W p l e R s m args below meth c H locs cells slots Q (F0 m pc ls (.ref (ex_ad base b a) :: rest)) := by
  obtain ⟨tys, t0, hK, h0⟩ := ex_ty_at hw ha hk
  match k with
  | 0 => exact va_alen hexec hb hK hw.2.1 a t0 (ex_ws_at ha (ex_cell_1 hk)) h0 rfl hdg kk
  | 1 => exact va_alen hexec hb hK hw.2.1 a t0 (ex_ws_at ha (ex_cell_2 hk)) h0 rfl hdg kk
  | t + 2 => exact va_alen hexec hb hK hw.2.1 a t0 (ex_ws_at ha (ex_cell_3 hk)) h0 rfl hdg kk
/-- the world behind a making -/
theorem ex_Wd_new {q n : Nat} {x : va_E} {H1 : Heap} {tys : List (ClassId × FieldType)} (hw : ex_Wd G cn cl D ca base b s H h) (hz : h.1 < ex_scr) (hsz : H1.size ≤ base + h.1 + 1) (he : ex_cell G ca (ex_ad base b) (ex_hN h n) h.1 = x)
    (hP1 : va_P D cl (ex_ws G ca (ex_ad base b) h ++ [(q, x)]) H1) (hD1 : va_D (fun q => base ≤ q) (ex_ws G ca (ex_ad base b) h ++ [(q, x)])) (hK : va_K D cl tys s) (hT : ex_TY G cn ca tys (h.1 + 1)) : q = ex_ad base b h.1 ∧ ex_Wd G cn cl D ca base b s H1 (ex_hN h n) := by
  have hq : q = base + h.1 := ex_new_at hP1 hD1 ex_ws_len (fun i hi => ⟨_, by rw [ex_ws_get hi, ex_ad_lt (by omega)]⟩) hsz
  have hq : q = ex_ad base b h.1 := by rw [ex_ad_lt hz]; exact hq
  subst hq
  rw [ex_ws_push he] at hP1 hD1
  exact ⟨rfl, hz, hP1, hD1, tys, hK, hT⟩
end EXM
end
section
theorem ex_TY_push {G : ex_G} {cn : Nat → String} {ca : Nat → ClassId} {tys tys' : List (ClassId × FieldType)} {n k z : Nat} (hT : ex_TY G cn ca tys n) (hs : ∀ q ∈ tys, q ∈ tys') (hk : ex_kd G n = (k + 1, z)) (hm : (ca (k + 1), ex_ty cn (k + 1)) ∈ tys') : ex_TY G cn ca tys' (n + 1) := by
  intro i hi k' z' hk'
  by_cases h : i = n
  · subst h
    rw [hk] at hk'
    cases hk'
    exact hm
  · exact hs _ (hT i (by omega) k' z' hk')
theorem ex_TY_obj {G : ex_G} {cn : Nat → String} {ca : Nat → ClassId} {tys : List (ClassId × FieldType)} {n z : Nat} (hT : ex_TY G cn ca tys n) (hk : ex_kd G n = (0, z)) : ex_TY G cn ca tys (n + 1) := by
  intro i hi k' z' hk'
  by_cases h : i = n
  · subst h
    rw [hk] at hk'
    cases hk'
  · exact hT i (by omega) k' z' hk'
section EXN
variable {p : Program} {l : Launch} {e : Env} {R : Room} {s : State} {m : MethodId} {args : Array Value} {below : List Frame} {meth : Method} {c : Code} {H : Heap} {locs : List Loc} {cells slots : Nat} {Q : State → Prop}
variable {cc : ByteArray} {pc : Nat} {ls : Array Slot} {rest : List Value}
variable {G : ex_G} {cn : Nat → String} {TT : Nat → u_T} {cl : List vw_C} {TB : List Cond} {nst : Cond → Prop} {ao : Nat → Prop} {host : String} {D : va_G} {ca : Nat → ClassId} {base b L : Nat} {xs : Nat → Int32} {h h' : ex_Hp}
theorem ex_hN_I {n : Nat} : (ex_hN h n).2.2.1 h.1 = fun _ => 0 := by
  funext j
  exact if_pos rfl
theorem ex_hN_P {n : Nat} : (ex_hN h n).2.2.2 h.1 = fun _ => none := by
  funext j
  exact if_pos rfl
theorem ex_newa_ok (hexec : p.tables.exec = Jvm.exec) (hb : c.code = cc) (hU : ex_U cn ca nst ao base b L xs s) (hw : ex_Wd G cn cl D ca base b s H h) (hS : va_S (fun q => base ≤ q) s.heap H locs) (hsc : s.heap.size + cells = base + h.1)
    {atype : ArrayType} {k : Nat} (harr : (Cond.arrayClass (newarray.typeOf atype)).before args s = true) (hty : newarray.typeOf atype = ex_ty cn (k + 1)) (hk2 : k < 2) {n : Int32} (hn : ¬ n < 0) (hn2 : n.toNatClampNeg ≤ 1000) (hz : h.1 < ex_scr) (hk : ex_kd G h.1 = (k + 1, n.toNatClampNeg))
    (hcells : cells + 1 ≤ R.cells) (hslots : slots + n.toNatClampNeg ≤ R.slots) (hdg : decode cc pc = .ok (.newarray atype, 2))
    (kk : ∀ H1 : Heap, ex_Wd G cn cl D ca base b s H1 (ex_hN h n.toNatClampNeg) → va_S (fun q => base ≤ q) s.heap H1 locs → W p l e R s m args below meth c H1 locs (cells + 1) (slots + n.toNatClampNeg) Q (F0 m (pc + 2) ls (.ref (ex_ad base b h.1) :: rest))) : W p l e R s m args below meth c H locs cells slots Q (F0 m pc ls (.int n :: rest)) := by
  have hw0 := hw
  obtain ⟨-, hP, hD, tys, hK, hT⟩ := hw
  have hdef : ∀ cA : ClassId, vp_cell cA (n.toNatClampNeg, .inl (fun _ => 0)) = arrV cA n.toNatClampNeg (fun _ => defaultValue (ex_ty cn (k + 1))) := by
    intro cA
    rcases (by omega : k = 0 ∨ k = 1) with rfl | rfl <;> rfl
  have hby : n.toNatClampNeg * componentBytes (ex_ty cn (k + 1)) ≤ 536870912 := by
    rcases (by omega : k = 0 ∨ k = 1) with rfl | rfl
    · show _ * 4 ≤ _; omega
    · show _ * 1 ≤ _; omega
  refine va_newa hexec hb harr hty hK hP hD hS (fun q hq => Nat.le_trans hU.2.2.2.2.2 hq) hdef hn rfl hby hcells hslots hdg (fun q cA H1 K1 P1 D1 S1 => ex_W_size (fun hz1 => ?_))
  have hcA : cA = ca (k + 1) := hU.2.2.1 k cA (ex_RA_find (K1.2 tys.length _ (by rw [List.getElem?_append_right (Nat.le_refl _), Nat.sub_self]; rfl)).2)
  subst hcA
  obtain ⟨rfl, W1⟩ := ex_Wd_new (n := n.toNatClampNeg) hw0 hz (by omega) (by
    rcases (by omega : k = 0 ∨ k = 1) with rfl | rfl
    · rw [ex_cell_1 hk, ex_hN_I]
    · rw [ex_cell_2 hk, ex_hN_I]) P1 D1 K1 (ex_TY_push hT (fun q hq => List.mem_append_left _ hq) hk (List.mem_append_right _ List.mem_cons_self))
  exact kk H1 W1 S1
theorem ex_newq_ok (hexec : p.tables.exec = Jvm.exec) (hb : c.code = cc) (hU : ex_U cn ca nst ao base b L xs s) (hw : ex_Wd G cn cl D ca base b s H h) (hS : va_S (fun q => base ≤ q) s.heap H locs) (hsc : s.heap.size + cells = base + h.1)
    {o i t : Nat} (hown : s.vm.findClass (cn o) = some m.cls) (hcl : (Cond.classLink (cn o) i (cn t)).before args s = true) (hao : ao t) {n : Int32} (hn : ¬ n < 0) (hn2 : n.toNatClampNeg ≤ 1000) (hz : h.1 < ex_scr) (hk : ex_kd G h.1 = (t + 3, n.toNatClampNeg))
    (hcells : cells + 1 ≤ R.cells) (hslots : slots + n.toNatClampNeg ≤ R.slots) (hdg : decode cc pc = .ok (.anewarray i, 3))
    (kk : ∀ H1 : Heap, ex_Wd G cn cl D ca base b s H1 (ex_hN h n.toNatClampNeg) → va_S (fun q => base ≤ q) s.heap H1 locs → W p l e R s m args below meth c H1 locs (cells + 1) (slots + n.toNatClampNeg) Q (F0 m (pc + 3) ls (.ref (ex_ad base b h.1) :: rest))) : W p l e R s m args below meth c H locs cells slots Q (F0 m pc ls (.int n :: rest)) := by
  have hw0 := hw
  obtain ⟨-, hP, hD, tys, hK, hT⟩ := hw
  refine va_newq hexec hb hown hcl (hU.2.1 t hao) hK hP hD hS (fun q hq => Nat.le_trans hU.2.2.2.2.2 hq) hn rfl (by omega) hcells hslots hdg (fun q cA H1 K1 P1 D1 S1 => ex_W_size (fun hz1 => ?_))
  have hcA : cA = ca (t + 3) := hU.2.2.1 (t + 2) cA (ex_RA_find (cn := cn) (k := t + 2) (K1.2 tys.length _ (by rw [List.getElem?_append_right (Nat.le_refl _), Nat.sub_self]; rfl)).2)
  subst hcA
  obtain ⟨rfl, W1⟩ := ex_Wd_new (n := n.toNatClampNeg) hw0 hz (by omega) (by
    rw [ex_cell_3 hk, ex_hN_P]; rfl) P1 D1 K1 (ex_TY_push hT (fun q hq => List.mem_append_left _ hq) hk (List.mem_append_right _ List.mem_cons_self))
  exact kk H1 W1 S1
theorem ex_new_ok (hexec : p.tables.exec = Jvm.exec) (hb : c.code = cc) (hts : ∀ w ∈ TB, w.before args s = true) (hU : ex_U cn ca nst ao base b L xs s) (hw : ex_Wd G cn cl D ca base b s H h) (hS : va_S (fun q => base ≤ q) s.heap H locs) (hsc : s.heap.size + cells = base + h.1)
    {o i t : Nat} (hown : s.vm.findClass (cn o) = some m.cls) (hcl : (Cond.classLink (cn o) i (cn t)).before args s = true) (hc : ex_cOK G cn TT cl TB t) (hz : h.1 < ex_scr) (hk : ex_kd G h.1 = (0, t))
    (hcells : cells + 1 ≤ R.cells) (hslots : slots + ex_nf G t ≤ R.slots) (hdg : decode cc pc = .ok (.new i, 3))
    (kk : ∀ H1 : Heap, ex_Wd G cn cl D ca base b s H1 (ex_hN h (ex_nf G t)) → va_S (fun q => base ≤ q) s.heap H1 locs → W p l e R s m args below meth c H1 locs (cells + 1) (slots + ex_nf G t) Q (F0 m (pc + 3) ls (.ref (ex_ad base b h.1) :: rest))) : W p l e R s m args below meth c H locs cells slots Q (F0 m pc ls rest) := by
  have hw0 := hw
  obtain ⟨-, hP, hD, tys, hK, hT⟩ := hw
  obtain ⟨hc1, hin, ⟨ty0, hty⟩, hnm, hdc, hinst, hini⟩ := hc
  have hfs : ∀ j, j < ex_nf G t → defaultValue (ty0 j) = vp_V ((List.range (ex_nf G t)).map fun k => ex_rv (ex_ad base b) (ex_fv G (ex_hN h (ex_nf G t)) t h.1 k)) j := by
    intro j hj
    unfold vp_V
    rw [List.getD_eq_getElem?_getD, ex_fs_get hj]
    show _ = ex_rv _ (ex_fv G _ t h.1 j)
    unfold ex_fv
    rw [ex_hN_I, ex_hN_P]
    rcases (hty j hj).2 with ⟨q1, q2⟩ | ⟨q1, q2⟩ | ⟨q1, ⟨C, q2⟩ | ⟨C, q2⟩⟩ <;> rw [q1, q2] <;> rfl
  refine va_new hexec hb hts hin ty0 (fun j hj => (hty j hj).1) hown hcl (hts _ hinst) (hts _ hini) hK hP hD hS (fun q hq => Nat.le_trans hU.2.2.2.2.2 hq) hc1 hfs hcells hslots hdg (fun q H1 P1 D1 S1 => ex_W_size (fun hz1 => ?_))
  obtain ⟨rfl, W1⟩ := ex_Wd_new (n := ex_nf G t) hw0 hz (by omega) (ex_cell_0 hk) P1 D1 hK (ex_TY_obj hT hk)
  exact kk H1 W1 S1
theorem ex_copy_ok (hexec : p.tables.exec = Jvm.exec) (hb : c.code = cc) (hml : c.maxLocals = ls.size) {o i : Nat} (hown : s.vm.findClass (cn o) = some m.cls) (hlink : (Cond.methodLink (cn o) i arraycopyName).before args s = true) (hnat : (Cond.native arraycopyName).before args s = true) (hstat : (Cond.static arraycopyName).before args s = true) (hini : (Cond.initialized "java/lang/System").before args s = true)
    (hw : ex_Wd G cn cl D ca base b s H h) (hS : va_S (fun q => base ≤ q) s.heap H locs) {a0 a n0 n1 : Nat} (ha0 : a0 < h.1) (ha : a < h.1) (hk0 : ex_kd G a0 = (1, n0)) (hk : ex_kd G a = (1, n1))
    {sp dp n : Int32} (h1 : ¬ sp < 0) (h2 : ¬ dp < 0) (h3 : ¬ n < 0) (h4 : sp.toNatClampNeg + n.toNatClampNeg ≤ n0) (h5 : dp.toNatClampNeg + n.toNatClampNeg ≤ n1) (hframes : 1 ≤ R.frames) (hlocals : (rest.map fun v => v.category).sum + 18 ≤ R.locals) (hdg : decode cc pc = .ok (.invokestatic i, 3))
    (kk : ∀ (H1 : Heap) (locs1 : List Loc), ex_Wd G cn cl D ca base b s H1 (h.1, h.2.1, ex_copy h.2.2.1 a0 sp.toNatClampNeg a dp.toNatClampNeg n.toNatClampNeg, h.2.2.2) → va_S (fun q => base ≤ q) s.heap H1 locs1 → W p l e R s m args below meth c H1 locs1 cells slots Q (F0 m (pc + 3) ls rest)) :
    W p l e R s m args below meth c H locs cells slots Q (F0 m pc ls (.int n :: .int dp :: .ref (ex_ad base b a) :: .int sp :: .ref (ex_ad base b a0) :: rest)) := by
  obtain ⟨tys, t0, hK, h0⟩ := ex_ty_at hw ha hk
  have hc0 : ca (0 + 1) = ca 1 := rfl
  refine va_copyi hexec hb hml hown hlink hnat hstat hini hK hw.2.1 hw.2.2.1 hS a0 a t0 t0 (ty := .int) (ex_ws_at ha0 (ex_cell_1 hk0)) (ex_ws_at ha (ex_cell_1 hk)) h0 h0 rfl h1 h2 h3 h4 h5 (fun i hi => rfl) hframes hlocals hdg (fun H1 locs1 p1 d1 s1 => kk H1 locs1 (ex_Wd_of hw ha rfl ?_ (fun i hi => ?_) (fun i hi => rfl) p1 d1) s1)
  · rw [ex_cell_1 hk]
    show (Sum.inl (ca 1, n1, Sum.inl (ex_copy h.2.2.1 a0 sp.toNatClampNeg a dp.toNatClampNeg n.toNatClampNeg a)) : va_E) = _
    have e1 : ex_copy h.2.2.1 a0 sp.toNatClampNeg a dp.toNatClampNeg n.toNatClampNeg a = va_cpy (h.2.2.1 a0) (h.2.2.1 a) sp.toNatClampNeg dp.toNatClampNeg n.toNatClampNeg := by
      funext j
      exact if_pos rfl
    rw [e1]
  · funext j
    exact if_neg hi
end EXN
end
section
/-- a method's table and words; K: the words of locals for a frame -/
def ex_mB (G : ex_G) (cn : Nat → String) (TB : List Cond) (ym : Nat → MethodName) (bt : Nat → ByteArray) (rT : Nat → Option FieldType) (y : Nat) : Prop :=
  Cond.code (ym y) (bt y) (ex_mx G y) (rT y) ∈ TB ∧ plainName (ym y).cls = true ∧ (ym y).cls = cn (ex_ow G y) ∧ ex_mx G y ≤ 18 ∧
  (match ex_rt G y with
    | 0 => rT y = none
    | 1 => rT y = some .int
    | 2 => rT y = some .boolean
    | 3 => rT y = some .long
    | 4 => ∃ C, rT y = some (.object C)
    | 5 => rT y = none ∧ (ym y).name = "<init>"
    | _ => False) ∧
  (∀ pc ins, ex_look (ex_cd G y) pc = some ins → ex_dec (bt y) pc ins)
/-- a callee's words -/
def ex_mK (G : ex_G) (cn : Nat → String) (TB : List Cond) (ym : Nat → MethodName) (bt : Nat → ByteArray) (rT : Nat → Option FieldType) (y n : Nat) : Prop :=
  ex_mB G cn TB ym bt rT y ∧ Cond.initialized (ym y).cls ∈ TB ∧ (ym y).cls ≠ "java/lang/invoke/MethodHandle" ∧ (ym y).cls ≠ "java/lang/invoke/VarHandle" ∧ (parseMethodDescriptor (ym y).desc).map (fun d => d.parameters.length) = some n
def ex_lOK (G : ex_G) (cn : Nat → String) (TT : Nat → u_T) (cl : List vw_C) (TB : List Cond) (nst : Cond → Prop) (ao : Nat → Prop) (host : String) (ym : Nat → MethodName) (bt : Nat → ByteArray) (rT : Nat → Option FieldType) (o i : Nat) (r : ex_Lk) : Prop := match r with
  | (0, c, k, z) => ex_fL G cn TT cl TB nst host o i 0 c k z
  | (1, c, k, z) => ex_fL G cn TT cl TB nst host o i 1 c k z
  | (2, y, n, _) => ex_mK G cn TB ym bt rT y n ∧ ex_cOK G cn TT cl TB (ex_ow G y) ∧ Cond.instanceMethod (ym y) ∈ TB ∧ Cond.selects (cn (ex_ow G y)) (ym y) (ym y) ∈ TB ∧ Cond.methodLink (cn o) i (ym y) ∈ TB
  | (3, y, n, _) => ex_mK G cn TB ym bt rT y n ∧ ex_cOK G cn TT cl TB (ex_ow G y) ∧ Cond.instanceMethod (ym y) ∈ TB ∧ Cond.selects (cn (ex_ow G y)) (ym y) (ym y) ∈ TB ∧ nst (Cond.methodLinkNest (cn o) i (ym y) host)
  | (4, y, n, _) => ex_mK G cn TB ym bt rT y n ∧ Cond.static (ym y) ∈ TB ∧ Cond.methodLink (cn o) i (ym y) ∈ TB
  | (5, y, n, _) => ex_mK G cn TB ym bt rT y n ∧ Cond.static (ym y) ∈ TB ∧ nst (Cond.methodLinkNest (cn o) i (ym y) host)
  | (6, y, n, _) => ex_mK G cn TB ym bt rT y n ∧ ex_rt G y = 5 ∧ Cond.instanceMethod (ym y) ∈ TB ∧ Cond.methodLink (cn o) i (ym y) ∈ TB
  | (7, y, n, _) => ex_mK G cn TB ym bt rT y n ∧ ex_rt G y = 5 ∧ Cond.instanceMethod (ym y) ∈ TB ∧ nst (Cond.methodLinkNest (cn o) i (ym y) host)
  | (8, _, _, _) => Cond.methodLink (cn o) i Lib.objectInit ∈ TB ∧ Cond.instanceMethod Lib.objectInit ∈ TB ∧ Cond.code Lib.objectInit ⟨#[0xb1]⟩ 1 none ∈ TB
  | (9, c, _, _) => ex_cOK G cn TT cl TB c ∧ Cond.classLink (cn o) i (cn c) ∈ TB
  | (10, c, _, _) => ao c ∧ Cond.classLink (cn o) i (cn c) ∈ TB
  | (11, _, _, z) => Cond.constant (cn o) i (Int32.ofInt z) ∈ TB
  | (12, _, _, z) => Cond.constantLong (cn o) i (Int64.ofInt z) ∈ TB
  | (13, _, _, _) => Cond.methodLink (cn o) i arraycopyName ∈ TB ∧ Cond.native arraycopyName ∈ TB ∧ Cond.static arraycopyName ∈ TB ∧ Cond.initialized "java/lang/System" ∈ TB
  | _ => False
/-- the program's facts -/
def ex_PF (G : ex_G) (cn : Nat → String) (TT : Nat → u_T) (cl : List vw_C) (TB : List Cond) (nst : Cond → Prop) (ao : Nat → Prop) (host : String) (ym : Nat → MethodName) (bt : Nat → ByteArray) (rT : Nat → Option FieldType) : Prop :=
  (∀ w ∈ TB, (w.onTables && w.keeps) = true ∨ ∃ ty, w = .arrayClass ty) ∧
  (∀ w, nst w → (∃ (a : String) (i : Nat) (x n d : String), w = .fieldLinkNest a i x n d host) ∨ (∃ (a : String) (i : Nat) (x : MethodName), w = .methodLinkNest a i x host)) ∧
  (Cond.arrayClass .int ∈ TB ∧ Cond.arrayClass .boolean ∈ TB) ∧
  (∀ o i r, ex_look (ex_lt G o) i = some r → ex_lOK G cn TT cl TB nst ao host ym bt rT o i r) ∧
  (∀ i c, ex_kd G i = (0, c) → ex_cOK G cn TT cl TB c)
section EXR
variable {p : Program} {l : Launch} {e : Env} {R : Room} {s : State} {m : MethodId} {args : Array Value} {below : List Frame} {meth : Method} {c : Code} {H : Heap} {locs : List Loc} {cells slots : Nat} {Q : State → Prop}
variable {cc : ByteArray} {pc : Nat} {ls : Array Slot} {rest : List Value}
variable {G : ex_G} {cn : Nat → String} {TT : Nat → u_T} {cl : List vw_C} {TB : List Cond} {nst : Cond → Prop} {ao : Nat → Prop} {host : String} {ym : Nat → MethodName} {bt : Nat → ByteArray} {rT : Nat → Option FieldType} {D : va_G} {ca : Nat → ClassId} {base b L : Nat} {xs : Nat → Int32} {h h' : ex_Hp}
/-- the facts of a frame of method mi -/
def ex_Fr (G : ex_G) (cn : Nat → String) (TB : List Cond) (bt : Nat → ByteArray) (rT : Nat → Option FieldType) (p : Program) (s : State) (m : MethodId) (args : Array Value) (meth : Method) (c : Code) (mi : Nat) : Prop :=
  p.tables.exec = Jvm.exec ∧ c.code = bt mi ∧ c.maxLocals = ex_mx G mi ∧ s.vm.findClass (cn (ex_ow G mi)) = some m.cls ∧ (∀ w ∈ TB, w.before args s = true) ∧ (ex_rt G mi = 5 → meth.name = "<init>") ∧ meth.sig.returnType = rT mi ∧ meth.locks = false
theorem ex_cat_sum (ad : Nat → Nat) (u : List Value) : ((u.map (ex_rv ad)).map fun v => v.category).sum = (u.map fun v => v.category).sum := by
  rw [List.map_map]
  congr 1
  apply List.map_congr_left
  intro v _
  exact ex_rv_cat ad v
set_option maxHeartbeats 4000000 in
theorem ex_mem_ok (PF : ex_PF G cn TT cl TB nst ao host ym bt rT) {d mi n0 k0 : Nat} (F : ex_Fr G cn TB bt rT p s m args meth c mi) (hU : ex_U cn ca nst ao base b L xs s) (hls : ls.size = ex_mx G mi) (hR : 1 ≤ d → 1 ≤ R.frames ∧ 37 ≤ R.locals) (hw : ex_Wd G cn cl D ca base b s H h) (hS : va_S (fun q => base ≤ q) s.heap H locs)
    (h0 : s.heap.size = base + n0) (hn0 : n0 ≤ h.1) (hk0 : k0 ≤ h.2.1) (hfc : h'.1 ≤ n0 + R.cells) (hfs : h'.2.1 ≤ k0 + R.slots) {st st' : List Value} {ins : Instr} (hx : ex_mem G (L + 1) xs d mi st h ins = some (st', h')) (hd : ex_dec (bt mi) pc ins)
    (kk : ∀ (H1 : Heap) (locs1 : List Loc), ex_Wd G cn cl D ca base b s H1 h' → va_S (fun q => base ≤ q) s.heap H1 locs1 → W p l e R s m args below meth c H1 locs1 (h'.1 - n0) (h'.2.1 - k0) Q (F0 m (pc + ex_len ins) ls (st'.map (ex_rv (ex_ad base b))))) :
    W p l e R s m args below meth c H locs (h.1 - n0) (h.2.1 - k0) Q (F0 m pc ls (st.map (ex_rv (ex_ad base b)))) := by
  obtain ⟨hexec, hb, hml, hown, hts, hnam, -, -⟩ := F
  obtain ⟨PG, PN, PA, PL, PC⟩ := PF
  cases ins with
  | getfield i =>
    simp only [ex_mem] at hx
    split at hx
    · rename_i tag c0 k z hlk
      split at hx
      · rename_i ht
        obtain ⟨a, t, rfl, hxq1⟩ := ex_pa_some hx
        split at hxq1
        · rename_i hc
          obtain ⟨h1, h2, h3⟩ := hc
          cases hxq1
          have hok := PL _ _ _ hlk
          have hok : ex_fL G cn TT cl TB nst host (ex_ow G mi) i tag c0 k z := by
            rcases (by omega : tag = 0 ∨ tag = 1) with rfl | rfl <;> exact hok
          exact ex_get_ok hexec hb hts hU.1 hok hown hw h1 h2 h3 hd (kk H locs hw hS)
        · cases hxq1
      · cases hx
    · cases hx
  | putfield i =>
    simp only [ex_mem] at hx
    split at hx
    · rename_i tag c0 k z hlk
      split at hx
      · rename_i ht
        have hok := PL _ _ _ hlk
        have hok : ex_fL G cn TT cl TB nst host (ex_ow G mi) i tag c0 k z := by
          rcases ht.1 with rfl | ⟨rfl, -⟩ <;> exact hok
        have hz : z = 0 ∨ tag = 0 ∧ z = 1 ∧ ex_ow G mi = c0 ∧ meth.name = "<init>" := by
          rcases ht.2 with hz | ⟨hz, ho, hr⟩
          · exact Or.inl hz
          · rcases ht.1 with h0 | ⟨-, h0⟩
            · exact Or.inr ⟨h0, hz, ho, hnam hr⟩
            · exact Or.inl h0
        split at hx
        · rename_i hf
          obtain ⟨v, t, rfl, hxq2⟩ := ex_pn_some hx
          obtain ⟨a, u, rfl, hxq3⟩ := ex_pa_some hxq2
          split at hxq3
          · rename_i hc
            obtain ⟨h1, h2, h3⟩ := hc
            cases hxq3
            exact ex_putP_ok hexec hb hts hU.1 hok hown hw hS h1 h2 h3 hz hf hd kk
          · cases hxq3
        · rename_i hf
          obtain ⟨v, t, rfl, hxq4⟩ := ex_pi_some hx
          obtain ⟨a, u, rfl, hxq5⟩ := ex_pa_some hxq4
          split at hxq5
          · rename_i hc
            obtain ⟨h1, h2, h3, h4⟩ := hc
            cases hxq5
            exact ex_putI_ok hexec hb hts hU.1 hok hown hw hS h1 h2 h3 hz h4 hd kk
          · cases hxq5
      · cases hx
    · cases hx
  | iaload =>
    simp only [ex_mem] at hx
    obtain ⟨i, t, rfl, hxq6⟩ := ex_pi_some hx
    obtain ⟨a, u, rfl, hxq7⟩ := ex_pa_some hxq6
    split at hxq7
    · rename_i ha
      split at hxq7
      · rename_i hi
        cases hxq7
        subst ha
        have e1 : ex_ad base b ex_scr = b := if_pos rfl
        have g := va_sld (l := l) (e := e) (R := R) (below := below) (meth := meth) (cells := h.1 - n0) (slots := h.2.1 - k0) (Q := Q) (args := args) (m := m) (ls := ls) (rest := u.map (ex_rv (ex_ad base b))) hexec hb hU.2.2.2.1 (Nat.lt_of_lt_of_le hU.2.2.2.2.1 hU.2.2.2.2.2) (A := fun q => base ≤ q) (fun q => absurd hU.2.2.2.2.1 (Nat.not_lt.mpr q)) hS (ex_in_vp hi) hd (kk H locs hw hS)
        rw [← e1] at g
        exact g
      · cases hxq7
    · split at hxq7
      · rename_i hc
        obtain ⟨h1, h2, h3⟩ := hc
        cases hxq7
        exact ex_iald_ok hexec hb hw h1 (n := (ex_kd G a).2) (by rw [← h2]) h3 hd (kk H locs hw hS)
      · cases hxq7
  | baload =>
    simp only [ex_mem] at hx
    obtain ⟨i, t, rfl, hxq8⟩ := ex_pi_some hx
    obtain ⟨a, u, rfl, hxq9⟩ := ex_pa_some hxq8
    split at hxq9
    · rename_i hc
      obtain ⟨h1, h2, h3⟩ := hc
      cases hxq9
      exact ex_zald_ok hexec hb hw h1 (n := (ex_kd G a).2) (by rw [← h2]) h3 hd (kk H locs hw hS)
    · cases hxq9
  | aaload =>
    simp only [ex_mem] at hx
    obtain ⟨i, t, rfl, hxq10⟩ := ex_pi_some hx
    obtain ⟨a, u, rfl, hxq11⟩ := ex_pa_some hxq10
    split at hxq11
    · rename_i hc
      obtain ⟨h1, h2, h3⟩ := hc
      cases hxq11
      exact ex_aald_ok hexec hb hw h1 (t := (ex_kd G a).1 - 3) (n := (ex_kd G a).2) (by rw [Nat.sub_add_cancel h2]) h3 hd (kk H locs hw hS)
    · cases hxq11
  | iastore =>
    simp only [ex_mem] at hx
    obtain ⟨x, s1, rfl, hxq12⟩ := ex_pi_some hx
    obtain ⟨i, t, rfl, hxq13⟩ := ex_pi_some hxq12
    obtain ⟨a, u, rfl, hxq14⟩ := ex_pa_some hxq13
    split at hxq14
    · rename_i hc
      obtain ⟨h1, h2, h3⟩ := hc
      cases hxq14
      exact ex_iast_ok hexec hb hw hS h1 (n := (ex_kd G a).2) (by rw [← h2]) h3 hd kk
    · cases hxq14
  | bastore =>
    simp only [ex_mem] at hx
    obtain ⟨x, s1, rfl, hxq15⟩ := ex_pi_some hx
    obtain ⟨i, t, rfl, hxq16⟩ := ex_pi_some hxq15
    obtain ⟨a, u, rfl, hxq17⟩ := ex_pa_some hxq16
    split at hxq17
    · rename_i hc
      obtain ⟨h1, h2, h3, h4⟩ := hc
      cases hxq17
      exact ex_zast_ok hexec hb hw hS h1 (n := (ex_kd G a).2) (by rw [← h2]) h3 h4 hd kk
    · cases hxq17
  | aastore =>
    simp only [ex_mem] at hx
    obtain ⟨x, s1, rfl, hxq18⟩ := ex_pa_some hx
    obtain ⟨i, t, rfl, hxq19⟩ := ex_pi_some hxq18
    obtain ⟨a, u, rfl, hxq20⟩ := ex_pa_some hxq19
    split at hxq20
    · rename_i hc
      obtain ⟨h1, h2, h3, h4, h5⟩ := hc
      cases hxq20
      have hkx : ex_kd G x = (0, (ex_kd G x).2) := by rw [← h4]
      exact ex_aast_ok hexec hb hw hS h1 (t := (ex_kd G x).2) (n := (ex_kd G a).2) (by rw [Nat.add_comm, ← h3]) h2 hkx (PC _ _ hkx) h5 hd kk
    · cases hxq20
  | arraylength =>
    simp only [ex_mem] at hx
    obtain ⟨a, u, rfl, hxq21⟩ := ex_pa_some hx
    split at hxq21
    · rename_i ha
      rw [if_neg (Nat.succ_ne_zero L)] at hxq21
      cases hxq21
      subst ha
      have e1 : ex_ad base b ex_scr = b := if_pos rfl
      have g := va_slen (l := l) (e := e) (R := R) (below := below) (meth := meth) (cells := h.1 - n0) (slots := h.2.1 - k0) (Q := Q) (args := args) (m := m) (ls := ls) (rest := u.map (ex_rv (ex_ad base b))) hexec hb hU.2.2.2.1 (Nat.lt_of_lt_of_le hU.2.2.2.2.1 hU.2.2.2.2.2) (A := fun q => base ≤ q) (fun q => absurd hU.2.2.2.2.1 (Nat.not_lt.mpr q)) hS hd (kk H locs hw hS)
      rw [← e1] at g
      exact g
    · split at hxq21
      · rename_i hc
        obtain ⟨h1, h2⟩ := hc
        cases hxq21
        exact ex_alen_ok hexec hb hw h1 (k := (ex_kd G a).1 - 1) (n := (ex_kd G a).2) (by rw [Nat.sub_add_cancel h2]) hd (kk H locs hw hS)
      · cases hxq21
  | newarray ty =>
    simp only [ex_mem] at hx
    obtain ⟨n, u, rfl, hxq22⟩ := ex_pi_some hx
    split at hxq22
    · rename_i hc
      obtain ⟨h1, h2, h3, h4⟩ := hc
      cases hxq22
      have q1 : h.1 + 1 ≤ n0 + R.cells := hfc
      have q2 : h.2.1 + n.toNatClampNeg ≤ k0 + R.slots := hfs
      have kk2 : ∀ H1 : Heap, ex_Wd G cn cl D ca base b s H1 (ex_hN h n.toNatClampNeg) → va_S (fun q => base ≤ q) s.heap H1 locs → W p l e R s m args below meth c H1 locs (h.1 - n0 + 1) (h.2.1 - k0 + n.toNatClampNeg) Q (F0 m (pc + 2) ls (.ref (ex_ad base b h.1) :: u.map (ex_rv (ex_ad base b)))) := by
        intro H1 w1 s1
        have g := kk H1 locs w1 s1
        rw [show (ex_hN h n.toNatClampNeg).1 - n0 = h.1 - n0 + 1 from by show h.1 + 1 - n0 = _; omega, show (ex_hN h n.toNatClampNeg).2.1 - k0 = h.2.1 - k0 + n.toNatClampNeg from by show h.2.1 + n.toNatClampNeg - k0 = _; omega] at g
        exact g
      rcases h4 with ⟨rfl, h4⟩ | ⟨rfl, h4⟩
      · exact ex_newa_ok hexec hb hU hw hS (by omega) (atype := .int) (k := 0) (hts _ PA.1) rfl (by omega) h1 h2 h3 h4 (by omega) (by omega) hd kk2
      · exact ex_newa_ok hexec hb hU hw hS (by omega) (atype := .boolean) (k := 1) (hts _ PA.2) rfl (by omega) h1 h2 h3 h4 (by omega) (by omega) hd kk2
    · cases hxq22
  | anewarray i =>
    simp only [ex_mem] at hx
    split at hx
    · rename_i tag c0 k z hlk
      obtain ⟨n, u, rfl, hxq23⟩ := ex_pi_some hx
      split at hxq23
      · rename_i hc
        obtain ⟨rfl, h1, h2, h3, h4⟩ := hc
        cases hxq23
        have q1 : h.1 + 1 ≤ n0 + R.cells := hfc
        have q2 : h.2.1 + n.toNatClampNeg ≤ k0 + R.slots := hfs
        have hok := PL _ _ _ hlk
        refine ex_newq_ok hexec hb hU hw hS (by omega) hown (hts _ hok.2) hok.1 h1 h2 h3 (by rw [h4, Nat.add_comm]) (by omega) (by omega) hd (fun H1 w1 s1 => ?_)
        have g := kk H1 locs w1 s1
        rw [show (ex_hN h n.toNatClampNeg).1 - n0 = h.1 - n0 + 1 from by show h.1 + 1 - n0 = _; omega, show (ex_hN h n.toNatClampNeg).2.1 - k0 = h.2.1 - k0 + n.toNatClampNeg from by show h.2.1 + n.toNatClampNeg - k0 = _; omega] at g
        exact g
      · cases hxq23
    · cases hx
  | new i =>
    simp only [ex_mem] at hx
    split at hx
    · rename_i tag c0 k z hlk
      split at hx
      · rename_i hc
        obtain ⟨rfl, h3, h4⟩ := hc
        cases hx
        have q1 : h.1 + 1 ≤ n0 + R.cells := hfc
        have q2 : h.2.1 + ex_nf G c0 ≤ k0 + R.slots := hfs
        have hok := PL _ _ _ hlk
        refine ex_new_ok hexec hb hts hU hw hS (by omega) hown (hts _ hok.2) hok.1 h3 h4 (by omega) (by omega) hd (fun H1 w1 s1 => ?_)
        have g := kk H1 locs w1 s1
        rw [show (ex_hN h (ex_nf G c0)).1 - n0 = h.1 - n0 + 1 from by show h.1 + 1 - n0 = _; omega, show (ex_hN h (ex_nf G c0)).2.1 - k0 = h.2.1 - k0 + ex_nf G c0 from by show h.2.1 + ex_nf G c0 - k0 = _; omega] at g
        exact g
      · cases hx
    · cases hx
  | ldc i =>
    simp only [ex_mem] at hx
    split at hx
    · rename_i tag c0 k z hlk
      split at hx
      · rename_i hc
        subst hc
        cases hx
        exact lv_ldc hexec hb hown (hts _ (PL _ _ _ hlk)) hd (kk H locs hw hS)
      · cases hx
    · cases hx
  | ldc_w i =>
    simp only [ex_mem] at hx
    split at hx
    · rename_i tag c0 k z hlk
      split at hx
      · rename_i hc
        subst hc
        cases hx
        exact lv_ldcw hexec hb hown (hts _ (PL _ _ _ hlk)) hd (kk H locs hw hS)
      · cases hx
    · cases hx
  | ldc2_w i =>
    simp only [ex_mem] at hx
    split at hx
    · rename_i tag c0 k z hlk
      split at hx
      · rename_i hc
        subst hc
        cases hx
        exact lv_ldc2 hexec hb hown (hts _ (PL _ _ _ hlk)) hd (kk H locs hw hS)
      · cases hx
    · cases hx
  | invokespecial i =>
    simp only [ex_mem] at hx
    split at hx
    · rename_i tag c0 k z hlk
      split at hx
      · rename_i hc
        obtain ⟨rfl, hd1⟩ := hc
        obtain ⟨a, u, rfl, hxq24⟩ := ex_pa_some hx
        split at hxq24
        · rename_i hu
          cases hxq24
          obtain ⟨g1, g2, g3⟩ := PL _ _ _ hlk
          obtain ⟨r1, r2⟩ := hR hd1
          refine W.objInit hexec hb hown (hts _ g1) (hts _ g2) (hts _ g3) (g := F0 m pc ls (.ref (ex_ad base b a) :: st'.map (ex_rv (ex_ad base b)))) rfl (hls.trans hml.symm) rfl hd r1 ?_ (kk H locs hw hS)
          show 2 * 0 + _ + 12 ≤ _
          rw [ex_cat_sum]
          omega
        · cases hxq24
      · cases hx
    · cases hx
  | invokestatic i =>
    simp only [ex_mem] at hx
    split at hx
    · rename_i tag c0 k z hlk
      split at hx
      · rename_i hc
        obtain ⟨rfl, hd1⟩ := hc
        obtain ⟨n, s1, rfl, hxq25⟩ := ex_pi_some hx
        obtain ⟨dp, s2, rfl, hxq26⟩ := ex_pi_some hxq25
        obtain ⟨a, s3, rfl, hxq27⟩ := ex_pa_some hxq26
        obtain ⟨sp, s4, rfl, hxq28⟩ := ex_pi_some hxq27
        obtain ⟨a0, u, rfl, hxq29⟩ := ex_pa_some hxq28
        split at hxq29
        · rename_i hu
          obtain ⟨u1, u2, u3, u4, u5, u6, u7, u8, u9, u10⟩ := hu
          cases hxq29
          obtain ⟨g1, g2, g3, g4⟩ := PL _ _ _ hlk
          obtain ⟨r1, r2⟩ := hR hd1
          exact ex_copy_ok hexec hb (hml.trans hls.symm) hown (hts _ g1) (hts _ g2) (hts _ g3) (hts _ g4) hw hS u3 u2 (n0 := (ex_kd G a0).2) (n1 := (ex_kd G a).2) (by rw [← u5]) (by rw [← u4]) u6 u7 u8 u9 u10 r1 (by rw [ex_cat_sum]; omega) hd kk
        · cases hxq29
      · cases hx
    · cases hx
  | _ => exact absurd (show (none : Option ex_Mr) = some _ from hx) (fun q => by cases q)
end EXR
end
section
theorem ex_sl_len (vs : List Value) : (lg_sl vs).length = (vs.map fun v => v.category).sum := by
  induction vs with
  | nil => rfl
  | cons v t ih =>
    have e1 : lg_sl (v :: t) = (if v.category = 2 then [Slot.val v, .second] else [.val v]) ++ lg_sl t := by simp [lg_sl]
    rw [e1, List.length_append, ih, List.map_cons, List.sum_cons]
    rcases lv_cat v with h | h <;> simp [h]
theorem ex_ent_len (vs : List Value) : ∀ n, (vs.map fun v => v.category).sum ≤ n → (ex_ent n vs).length = n := by
  induction vs with
  | nil => intro n _; simp [ex_ent]
  | cons v t ih =>
    intro n hn
    rw [List.map_cons, List.sum_cons] at hn
    unfold ex_ent
    rcases lv_cat v with h | h
    · rw [if_neg (by omega), List.length_cons, ih (n - 1) (by omega)]; omega
    · rw [if_pos h, List.length_cons, List.length_cons, ih (n - 2) (by omega)]; omega
theorem ex_ent_get {ad : Nat → Nat} (vs : List Value) : ∀ (n i j : Nat) (w : Value), (ex_ent n vs)[j]? = some w → w ≠ ex_no → (i + j, ex_rv ad w) ∈ lv_args i (vs.map (ex_rv ad)) := by
  induction vs with
  | nil =>
    intro n i j w h hw
    have := List.mem_of_getElem? h
    exact absurd (List.eq_of_mem_replicate this) hw
  | cons v t ih =>
    intro n i j w h hw
    rw [List.map_cons]
    unfold lv_args
    rw [ex_rv_cat]
    unfold ex_ent at h
    by_cases hc : v.category = 2
    · rw [if_pos hc] at h
      match j with
      | 0 => cases h; exact List.mem_cons_self
      | 1 => cases h; exact absurd rfl hw
      | j + 2 =>
        refine List.mem_cons_of_mem _ ?_
        rw [if_pos hc]
        have := ih (n - 2) (i + 2) j w h hw
        rw [show i + (j + 2) = i + 2 + j by omega]
        exact this
    · rw [if_neg hc] at h
      match j with
      | 0 => cases h; exact List.mem_cons_self
      | j + 1 =>
        refine List.mem_cons_of_mem _ ?_
        rw [if_neg hc]
        have := ih (n - 1) (i + 1) j w h hw
        rw [show i + (j + 1) = i + 1 + j by omega]
        exact this
theorem ex_entry {ad : Nat → Nat} {vs : List Value} {n : Nat} (h : (vs.map fun v => v.category).sum ≤ n) : ex_LV ad ((lg_sl (vs.map (ex_rv ad)) ++ List.replicate (n - (lg_sl (vs.map (ex_rv ad))).length) Slot.unset).toArray) n (ex_ent n vs) := by
  have hl : (lg_sl (vs.map (ex_rv ad))).length ≤ n := by rw [ex_sl_len, ex_cat_sum]; exact h
  obtain ⟨h1, h2, h3⟩ := lv_entry (vs.map (ex_rv ad)) hl
  refine ⟨ex_ent_len vs n h, h1, h2, fun q hq => h3 q ?_⟩
  obtain ⟨w, g1, g2, g3⟩ := ex_kn_to hq
  obtain ⟨j, v⟩ := q
  dsimp only at g1 g3
  subst g3
  have := ex_ent_get (ad := ad) vs n 0 j w g1 g2
  rw [Nat.zero_add] at this
  exact this
theorem ex_step_mono {G : ex_G} {L : Nat} {xs : Nat → Int32} {d mi pc : Nat} {lv st : List Value} {h h' : ex_Hp} {ins : Instr} {r : ex_Pr} (hx : ex_step G L xs d mi pc lv st h ins = some (r, h')) : h.1 ≤ h'.1 ∧ h.2.1 ≤ h'.2.1 := by
  unfold ex_step at hx
  split at hx
  · cases hx; exact ⟨Nat.le_refl _, Nat.le_refl _⟩
  · split at hx
    · split at hx
      · cases hx; assumption
      · cases hx
    · cases hx
theorem ex_run_mono {G : ex_G} {L : Nat} {xs : Nat → Int32} : ∀ (f d mi pc : Nat) (lv st : List Value) (h : ex_Hp) (r : Option Value) (h' : ex_Hp), ex_run G L xs f d mi pc lv st h = some (r, h') → h.1 ≤ h'.1 ∧ h.2.1 ≤ h'.2.1 := by
  intro f
  induction f with
  | zero => intro d mi pc lv st h r h' hx; cases hx
  | succ f ih =>
    intro d mi pc lv st h r h' hx
    unfold ex_run at hx
    split at hx
    · cases hx
    · split at hx
      · rename_i hst
        have h1 := ex_step_mono hst
        have h2 := ih _ _ _ _ _ _ _ _ hx
        exact ⟨Nat.le_trans h1.1 h2.1, Nat.le_trans h1.2 h2.2⟩
      · split at hx
        · cases hx; exact ⟨Nat.le_refl _, Nat.le_refl _⟩
        · split at hx
          · cases hx
          · split at hx
            · cases hx
            · split at hx
              · cases hx
              · rename_i hc
                have h1 := ih _ _ _ _ _ _ _ _ hc
                have h2 := ih _ _ _ _ _ _ _ _ hx
                exact ⟨Nat.le_trans h1.1 h2.1, Nat.le_trans h1.2 h2.2⟩
section EXC
variable {p : Program} {l : Launch} {e : Env} {R : Room} {s : State} {m : MethodId} {args : Array Value} {below : List Frame} {meth : Method} {c : Code} {H : Heap} {locs : List Loc} {cells slots : Nat} {Q : State → Prop}
variable {cc : ByteArray} {pc : Nat} {ls : Array Slot} {rest : List Value}
variable {G : ex_G} {cn : Nat → String} {TT : Nat → u_T} {cl : List vw_C} {TB : List Cond} {nst : Cond → Prop} {ao : Nat → Prop} {host : String} {ym : Nat → MethodName} {bt : Nat → ByteArray} {rT : Nat → Option FieldType} {D : va_G} {ca : Nat → ClassId} {base b L : Nat} {xs : Nat → Int32} {h h' : ex_Hp}
theorem ex_Wd.moved {u U : State} (hvm : u.vm.Alike U.vm) (hw : ex_Wd G cn cl D ca base b u H h) : ex_Wd G cn cl D ca base b U H h := by
  obtain ⟨h1, h2, h3, tys, h4, h5⟩ := hw
  exact ⟨h1, h2, h3, tys, h4.moved hvm, h5⟩
theorem ex_size (hw : ex_Wd G cn cl D ca base b s H h) (hS : va_S (fun q => base ≤ q) s.heap H locs) {n0 : Nat} (h0 : s.heap.size = base + n0) : base + h.1 ≤ H.size := by
  by_cases hz : h.1 = 0
  · have := hS.1
    omega
  · have hg := ex_ws_get (G := G) (ca := ca) (ad := ex_ad base b) (h := h) (i := h.1 - 1) (by omega)
    have h1 := (hw.2.1 _ _ hg).lt
    have h2 := hw.1
    rw [ex_ad_lt (by omega)] at h1
    dsimp only at h1
    omega
def ex_Pc (G : ex_G) (cn : Nat → String) (cl : List vw_C) (D : va_G) (ca : Nat → ClassId) (nst : Cond → Prop) (ao : Nat → Prop) (base b L : Nat) (xs : Nat → Int32) (as : List Value) (h : ex_Hp) : Array Value → State → Prop :=
  va_Pc (as.map (ex_rv (ex_ad base b))) (fun U => ex_U cn ca nst ao base b L xs U ∧ ex_Wd G cn cl D ca base b U U.heap h ∧ U.heap.size = base + h.1)
def ex_Qc (G : ex_G) (cn : Nat → String) (cl : List vw_C) (D : va_G) (ca : Nat → ClassId) (base b : Nat) (r : Option Value) (h : ex_Hp) : Array Value → State → Outcome → State → Prop :=
  fun _ st oc t => oc = .returned (r.map (ex_rv (ex_ad base b))) ∧ ex_Wd G cn cl D ca base b t t.heap h ∧ va_F (fun q => base ≤ q) st t
theorem ex_U.to {U : State} (PN : ∀ w, nst w → (∃ (a : String) (i : Nat) (x n d : String), w = .fieldLinkNest a i x n d host) ∨ (∃ (a : String) (i : Nat) (x : MethodName), w = .methodLinkNest a i x host)) (hU : ex_U cn ca nst ao base b L xs s) (hW : s.WarmedH U.vm) (hh : U.heap[b]? = s.heap[b]?) (hs : s.heap.size ≤ U.heap.size) : ex_U cn ca nst ao base b L xs U := by
  obtain ⟨h1, h2, h3, h4, h5, h6⟩ := hU
  refine ⟨fun w hw => ?_, fun c hc => (h2 c hc).moved hW.alike, fun k cA hk => h3 k cA ?_, (h4.kept hh).moved hW.alike, h5, Nat.le_trans h6 hs⟩
  · rcases PN w hw with ⟨a, i, x, n, d, rfl⟩ | ⟨a, i, x, rfl⟩
    · exact va_Nw.warmF hW (h1 _ hw)
    · exact va_Nw.warmM hW (h1 _ hw)
  · rw [← hW.alike.findClass]; exact hk
theorem ex_blind (PN : ∀ w, nst w → (∃ (a : String) (i : Nat) (x n d : String), w = .fieldLinkNest a i x n d host) ∨ (∃ (a : String) (i : Nat) (x : MethodName), w = .methodLinkNest a i x host)) (as : List Value) : FrameBlind (ex_Pc G cn cl D ca nst ao base b L xs as h) := by
  intro a U g mk hP
  obtain ⟨h0, ⟨h1, h2, h3, h4, h5, h6⟩, hw, hz⟩ := hP
  refine ⟨h0, ⟨fun w hw => ?_, fun c hc => h2 c hc, h3, h4, h5, h6⟩, hw, hz⟩
  rcases PN w hw with ⟨a, i, x, n, d, rfl⟩ | ⟨a, i, x, rfl⟩
  · exact va_Nw.same rfl rfl (h1 _ hw)
  · exact va_Nw.same rfl rfl (h1 _ hw)
theorem ex_ret_ok {mi : Nat} (F : ex_Fr G cn TB bt rT p s m args meth c mi) (hm : ex_mB G cn TB ym bt rT mi) {st : List Value} {ins : Instr} {r : Option Value} (hx : ex_ret G mi st ins = some r) (hd : ex_dec (bt mi) pc ins) {ad : Nat → Nat} {Qc : Array Value → State → Outcome → State → Prop} {free : Addr → Prop}
    (hq : ∀ t : State, t.heap = H → s.WarmedH t.vm → Qc args s (.returned (r.map (ex_rv ad))) t) (hf : ∀ q ∈ locs, free q.base) : W p l e R s m args below meth c H locs cells slots (MQ below Qc args s cells slots free) (F0 m pc ls (st.map (ex_rv ad))) := by
  obtain ⟨hexec, hb, -, -, -, -, hr, hl⟩ := F
  obtain ⟨-, -, -, -, hrt, -⟩ := hm
  cases ins with
  | ireturn =>
    simp only [ex_ret] at hx
    split at hx
    · rename_i x
      split at hx
      · rename_i hc
        cases hx
        rcases hc with hc | ⟨hc, hb1⟩
        · rw [hc] at hrt
          exact W.iret hexec hb (hr.trans hrt) hq hf hd hl
        · rw [hc] at hrt
          exact W.zret hexec hb (hr.trans hrt) (ex_narrow_bool hb1).1 hq hf hd hl
      · cases hx
    · cases hx
  | lreturn =>
    simp only [ex_ret] at hx
    split at hx
    · rename_i x
      split at hx
      · rename_i hc
        cases hx
        rw [hc] at hrt
        exact W.lret hexec hb (hr.trans hrt) hq hf hd hl
      · cases hx
    · cases hx
  | areturn =>
    simp only [ex_ret] at hx
    split at hx
    · rename_i x
      split at hx
      · rename_i hc
        cases hx
        rw [hc] at hrt
        obtain ⟨C, hC⟩ := hrt
        exact W.aret hexec hb (hr.trans hC) (Or.inl ⟨C, rfl⟩) (Or.inr ⟨_, rfl⟩) hq hf hd hl
      · cases hx
    · split at hx
      · rename_i hc
        cases hx
        rw [hc] at hrt
        obtain ⟨C, hC⟩ := hrt
        exact W.aret hexec hb (hr.trans hC) (Or.inl ⟨C, rfl⟩) (Or.inl rfl) hq hf hd hl
      · cases hx
    · cases hx
  | return_ =>
    simp only [ex_ret] at hx
    split at hx
    · split at hx
      · rename_i hc
        cases hx
        rcases hc with hc | hc
        · rw [hc] at hrt
          exact W.vret hexec hb (hr.trans hrt) hq hf hd hl
        · rw [hc] at hrt
          exact W.vret hexec hb (hr.trans hrt.1) hq hf hd hl
      · cases hx
    · cases hx
  | _ => exact absurd (show (none : Option (Option Value)) = some _ from hx) (fun q => by cases q)
/-- behind a call -/
theorem ex_back {mc ms : Nat} {st0 : List Value} {v : Option Value} {B : State → Prop} {A : Nat → Prop} {free : Addr → Prop} (hr : va_Run p l e R s m args below meth c H locs cells slots mc ms (F0 m pc ls st0) rest (fun st oc t => oc = .returned v ∧ B t ∧ va_F A st t) free) (hS : va_S A s.heap H locs) (hf : ∀ q, free q → A q)
    (kk : ∀ (t : State) (H1 : Heap) (locs1 : List Loc), t.heap = H1 → s.vm.Alike t.vm → B t → va_S A s.heap H1 locs1 → W p l e R s m args below meth c H1 locs1 (cells + mc) (slots + ms) Q (F0 m (pc + 3) ls (v.toList ++ rest))) : W p l e R s m args below meth c H locs cells slots Q (F0 m pc ls st0) := by
  intro T hT X
  obtain ⟨v', st₀, t, T', L, h0, X', hL, e1, e2, ⟨hv, hb, hz, hk⟩, st⟩ := hr T hT X
  cases hv
  rw [h0] at hz hk
  obtain ⟨t2, a1, b1⟩ := kk t T'.heap (locs ++ L) e1.symm (by rw [← e2]; exact X'.warmed.alike) hb
    ⟨Nat.le_trans hS.1 (by rw [e1]; exact hz), fun q h1 h2 => by rw [e1, hk q (Nat.lt_of_lt_of_le h1 hS.1) h2]; exact hS.2.1 q h1 h2, fun q hq => by
      rcases List.mem_append.mp hq with h | h
      · exact hS.2.2 q h
      · exact hf _ (hL q h)⟩ T' rfl X'
  exact ⟨t2, st t2 a1, b1⟩
theorem ex_args_some {n : Nat} {st as t : List Value} (h : ex_args n st = some (as, t)) : as.length = n ∧ st = as.reverse ++ t := by
  unfold ex_args at h
  split at h
  · cases h
    refine ⟨by simp; omega, by simp⟩
  · cases h
theorem ex_good {y : Nat} (PG : ∀ w ∈ TB, (w.onTables && w.keeps) = true ∨ ∃ ty, w = .arrayClass ty) (hm : Cond.code (ym y) (bt y) (ex_mx G y) (rT y) ∈ TB) : GoodIn TB (Cond.code (ym y) (bt y) (ex_mx G y) (rT y) :: TB) := by
  intro w hw
  rcases List.mem_cons.mp hw with rfl | hw
  · exact ⟨hm, PG _ hm⟩
  · exact ⟨hw, PG _ hw⟩
end EXC
end
section
section EXS
variable {G : ex_G} {cn : Nat → String} {TT : Nat → u_T} {cl : List vw_C} {TB : List Cond} {nst : Cond → Prop} {ao : Nat → Prop} {host : String} {ym : Nat → MethodName} {bt : Nat → ByteArray} {rT : Nat → Option FieldType} {D : va_G} {ca : Nat → ClassId} {base b L : Nat} {xs : Nat → Int32}
/-- what a run of the interpreter says of the machine -/
def ex_Snd (G : ex_G) (cn : Nat → String) (cl : List vw_C) (TB : List Cond) (nst : Cond → Prop) (ao : Nat → Prop) (bt : Nat → ByteArray) (rT : Nat → Option FieldType) (D : va_G) (ca : Nat → ClassId) (base b L : Nat) (xs : Nat → Int32) (l : Launch) (d mi pc : Nat) (lv st : List Value) (h : ex_Hp) (r : Option Value) (h' : ex_Hp) : Prop :=
  ∀ (p : Program) (e : Env) (R : Room) (s : State) (m : MethodId) (args : Array Value) (below : List Frame) (meth : Method) (c : Code) (H : Heap) (locs : List Loc) (Q : State → Prop) (ls : Array Slot) (n0 k0 : Nat),
    ex_Fr G cn TB bt rT p s m args meth c mi → ex_U cn ca nst ao base b L xs s → ex_LV (ex_ad base b) ls (ex_mx G mi) lv → d ≤ R.frames → 37 * d ≤ R.locals → ex_Wd G cn cl D ca base b s H h → va_S (fun q => base ≤ q) s.heap H locs → s.heap.size = base + n0 → n0 ≤ h.1 → k0 ≤ h.2.1 → h'.1 ≤ n0 + R.cells → h'.2.1 ≤ k0 + R.slots →
    (∀ (pc' : Nat) (ins : Instr) (ls' : Array Slot) (st' : List Value) (H1 : Heap) (locs1 : List Loc), ex_look (ex_cd G mi) pc' = some ins → ex_ret G mi st' ins = some r → ex_Wd G cn cl D ca base b s H1 h' → va_S (fun q => base ≤ q) s.heap H1 locs1 → W p l e R s m args below meth c H1 locs1 (h'.1 - n0) (h'.2.1 - k0) Q (F0 m pc' ls' (st'.map (ex_rv (ex_ad base b))))) →
    W p l e R s m args below meth c H locs (h.1 - n0) (h.2.1 - k0) Q (F0 m pc ls (st.map (ex_rv (ex_ad base b))))
def ex_rm (d mc ms : Nat) : Room := { frames := d, cells := mc, slots := ms, locals := 37 * d }
theorem ex_met (PF : ex_PF G cn TT cl TB nst ao host ym bt rT) {l : Launch} {d y : Nat} {as : List Value} {h h1 : ex_Hp} {r : Option Value} (hm : ex_mB G cn TB ym bt rT y) (hfit : ex_fit G y as = true) (hs : ex_Snd G cn cl TB nst ao bt rT D ca base b L xs l d y 0 (ex_ent (ex_mx G y) as) [] h r h1) (hmo : h.1 ≤ h1.1 ∧ h.2.1 ≤ h1.2.1) :
    Met l (ym y) (Cond.code (ym y) (bt y) (ex_mx G y) (rT y) :: TB) (ex_rm d (h1.1 - h.1) (h1.2.1 - h.2.1)) (ex_Pc G cn cl D ca nst ao base b L xs as h) (ex_Qc G cn cl D ca base b r h1) (h1.1 - h.1) (h1.2.1 - h.2.1) (fun q => base ≤ q) := by
  refine Met.ofW (cc := bt y) (maxL := ex_mx G y) (ret := rT y) hm.2.1 rfl ?_
  intro p e s m args below meth c s₁ B hml hv
  obtain ⟨rfl, hU, hw, hz⟩ := hv
  have hts : ∀ w ∈ (Cond.code (ym y) (bt y) (ex_mx G y) (rT y) :: TB), w.before (as.map (ex_rv (ex_ad base b))).toArray s = true := atoms_spec (ws := Cond.code (ym y) (bt y) (ex_mx G y) (rT y) :: TB) B.pre
  have hcls : s.vm.findClass (cn (ex_ow G y)) = some m.cls := by rw [← hm.2.2.1]; exact findClass_of_methodNamed B.named
  have hnm : ex_rt G y = 5 → meth.name = "<init>" := by
    intro h5
    have hrt := hm.2.2.2.2.1
    rw [h5] at hrt
    exact (name_of_methodNamed B.named B.method).1.trans hrt.2
  have F : ex_Fr G cn TB bt rT p s m (as.map (ex_rv (ex_ad base b))).toArray meth c y := ⟨B.exec, B.bytes, hml, hcls, fun w hw => hts w (List.mem_cons_of_mem _ hw), hnm, B.returns, B.notSynchronized⟩
  rw [lg_entry_eq]
  have g := hs p e (headSpec (Cond.code (ym y) (bt y) (ex_mx G y) (rT y) :: TB) (ex_rm d (h1.1 - h.1) (h1.2.1 - h.2.1))).room s m _ below meth c s.heap [] (MQ below (ex_Qc G cn cl D ca base b r h1) (as.map (ex_rv (ex_ad base b))).toArray s (h1.1 - h.1) (h1.2.1 - h.2.1) (fun q => base ≤ q)) _ h.1 h.2.1 F hU (ex_entry (of_decide_eq_true hfit)) (Nat.le_refl _) (Nat.le_refl _) hw va_S.rf hz (Nat.le_refl _) (Nat.le_refl _)
    (by show h1.1 ≤ h.1 + (h1.1 - h.1); omega) (by show h1.2.1 ≤ h.2.1 + (h1.2.1 - h.2.1); omega)
    (fun pc' ins ls' st' H1 locs1 hl hr w1 s1 => ex_ret_ok F hm hr (hm.2.2.2.2.2 _ _ hl) (fun t ht hW => ⟨rfl, by rw [ht]; exact w1.moved hW.alike, s1.F ht⟩) s1.2.2)
  rw [Nat.sub_self, Nat.sub_self] at g
  exact g
theorem ex_rest (r : Option Value) (u : List Value) (ad : Nat → Nat) : (r.map (ex_rv ad)).toList ++ u.map (ex_rv ad) = (r.toList ++ u).map (ex_rv ad) := by cases r <;> rfl
set_option maxHeartbeats 4000000 in
theorem ex_call_ok (PF : ex_PF G cn TT cl TB nst ao host ym bt rT) {p : Program} {l : Launch} {e : Env} {R : Room} {s : State} {m : MethodId} {args : Array Value} {below : List Frame} {meth : Method} {c : Code} {H : Heap} {locs : List Loc} {Q : State → Prop} {ls : Array Slot} {n0 k0 d mi pc y : Nat} {st as u : List Value} {h h1 : ex_Hp} {r : Option Value} {ins : Instr}
    (F : ex_Fr G cn TB bt rT p s m args meth c mi) (hU : ex_U cn ca nst ao base b L xs s) (hl : ls.size = ex_mx G mi) (hR1 : d + 1 ≤ R.frames) (hR2 : 37 * (d + 1) ≤ R.locals) (hw : ex_Wd G cn cl D ca base b s H h) (hS : va_S (fun q => base ≤ q) s.heap H locs) (h0 : s.heap.size = base + n0) (hn0 : n0 ≤ h.1) (hk0 : k0 ≤ h.2.1)
    (hc : ex_call G mi st h ins = some (y, as, u)) (hd : ex_dec (bt mi) pc ins) (hs : ex_mB G cn TB ym bt rT y → ex_Snd G cn cl TB nst ao bt rT D ca base b L xs l d y 0 (ex_ent (ex_mx G y) as) [] h r h1) (hmo : h.1 ≤ h1.1 ∧ h.2.1 ≤ h1.2.1) (hfc : h1.1 ≤ n0 + R.cells) (hfs : h1.2.1 ≤ k0 + R.slots)
    (kk : ∀ (H1 : Heap) (locs1 : List Loc), ex_Wd G cn cl D ca base b s H1 h1 → va_S (fun q => base ≤ q) s.heap H1 locs1 → W p l e R s m args below meth c H1 locs1 (h1.1 - n0) (h1.2.1 - k0) Q (F0 m (pc + 3) ls ((r.toList ++ u).map (ex_rv (ex_ad base b))))) :
    W p l e R s m args below meth c H locs (h.1 - n0) (h.2.1 - k0) Q (F0 m pc ls (st.map (ex_rv (ex_ad base b)))) := by
  refine ex_W_size (fun hsz => ?_)
  have hsize : H.size = base + h.1 := by
    have := ex_size hw hS h0
    omega
  have hpre : ∀ U : State, U.heap = H → s.WarmedH U.vm → ex_Pc G cn cl D ca nst ao base b L xs as h (as.map (ex_rv (ex_ad base b))).toArray U := by
    intro U hUh hW
    refine ⟨rfl, ex_U.to PF.2.1 hU hW ?_ (by rw [hUh]; exact hS.1), by rw [hUh]; exact hw.moved hW.alike, by rw [hUh]; exact hsize⟩
    rw [hUh]
    exact hS.2.1 b (Nat.lt_of_lt_of_le hU.2.2.2.2.1 hU.2.2.2.2.2) (fun q => absurd hU.2.2.2.2.1 (Nat.not_lt.mpr q))
  have hbl := ex_blind (G := G) (cl := cl) (D := D) (ca := ca) (cn := cn) (ao := ao) (base := base) (b := b) (L := L) (xs := xs) (h := h) PF.2.1 as
  have hcells : h.1 - n0 + (h1.1 - h.1) = h1.1 - n0 := by omega
  have hslots : h.2.1 - k0 + (h1.2.1 - h.2.1) = h1.2.1 - k0 := by omega
  have hfit : h.1 - n0 + (h1.1 - h.1) ≤ R.cells ∧ h.2.1 - k0 + (h1.2.1 - h.2.1) ≤ R.slots := by omega
  have fin : ∀ {a : Array Value}, va_Run p l e R s m args below meth c H locs (h.1 - n0) (h.2.1 - k0) (h1.1 - h.1) (h1.2.1 - h.2.1) (F0 m pc ls (st.map (ex_rv (ex_ad base b)))) (u.map (ex_rv (ex_ad base b))) (ex_Qc G cn cl D ca base b r h1 a) (fun q => base ≤ q) →
      W p l e R s m args below meth c H locs (h.1 - n0) (h.2.1 - k0) Q (F0 m pc ls (st.map (ex_rv (ex_ad base b)))) := by
    intro a hr
    refine ex_back (v := r.map (ex_rv (ex_ad base b))) (B := fun t => ex_Wd G cn cl D ca base b t t.heap h1) hr hS (fun q hq => hq) (fun t H1 locs1 ht hal w1 s1 => ?_)
    rw [hcells, hslots, ex_rest]
    refine kk H1 locs1 ?_ s1
    rw [ht] at w1
    exact w1.moved hal.symm
  obtain ⟨hexec, hb, hml, hown, hts, hnam, -, -⟩ := F
  have S : CallFix p m c (bt mi) (ex_mx G mi) s args TB (cn (ex_ow G mi)) := ⟨hexec, hb, hml, hown, hts⟩
  obtain ⟨PG, PN, PA, PL, PC⟩ := PF
  have PF : ex_PF G cn TT cl TB nst ao host ym bt rT := ⟨PG, PN, PA, PL, PC⟩
  cases ins with
  | invokevirtual i =>
    simp only [ex_call] at hc
    split at hc
    · rename_i tag y' n z hlk
      split at hc
      · rename_i ht
        split at hc
        · rename_i as' t' ha
          obtain ⟨ha1, rfl⟩ := ex_args_some ha
          obtain ⟨a, u', rfl, hcq1⟩ := ex_pa_some hc
          split at hcq1
          · rename_i hcc
            obtain ⟨c1, c2, c3, c4⟩ := hcc
            cases hcq1
            have hst : ((as'.reverse ++ .ref a :: u).map (ex_rv (ex_ad base b))) = (as'.map (ex_rv (ex_ad base b))).reverse ++ .ref (ex_ad base b a) :: u.map (ex_rv (ex_ad base b)) := by simp [ex_rv]
            have hcat : 2 * 0 + ((u.map (ex_rv (ex_ad base b))).map fun v => v.category).sum ≤ 8 := by rw [ex_cat_sum]; omega
            have hok := PL _ _ _ hlk
            rcases ht with rfl | rfl
            · obtain ⟨⟨hmB, hini, hd1, hd2, hd3⟩, hcl, hin, hsel, hlink⟩ := hok
              have M := ex_met PF hmB c4 (hs hmB) hmo
              obtain ⟨tys, hK, -⟩ := hw.2.2.2
              have hrecv := va_recv hK hw.2.1 hcl.1 (ex_ws_at c1 (ex_cell_0 c2))
              exact fin (va_runV S M ⟨callB_of n hts (ex_good PG hmB.1) rfl rfl rfl (hts _ hini) (hts _ hlink) ⟨hd1, hd2, hd3⟩ ⟨by show d + 1 ≤ _; exact hR1, by show 8 + _ + 37 * d ≤ _; have := hmB.2.2.2.1; omega⟩, hts _ hin, hts _ hsel⟩ ⟨hbl, hrecv, hpre⟩ rfl (by rw [List.length_map]; exact ha1) hl hst hcat hd hfit)
            · obtain ⟨⟨hmB, hini, hd1, hd2, hd3⟩, hcl, hin, hsel, hlink⟩ := hok
              have M := ex_met PF hmB c4 (hs hmB) hmo
              obtain ⟨tys, hK, -⟩ := hw.2.2.2
              have hrecv := va_recv hK hw.2.1 hcl.1 (ex_ws_at c1 (ex_cell_0 c2))
              exact fin (va_runVN S M ⟨va_cnB n hts (ex_good PG hmB.1) rfl rfl rfl (hU.1 _ hlink) (hts _ hini) ⟨hd1, hd2, hd3⟩ ⟨by show d + 1 ≤ _; exact hR1, by show 8 + _ + 37 * d ≤ _; have := hmB.2.2.2.1; omega⟩, hts _ hin, hts _ hsel⟩ ⟨hbl, hrecv, hpre⟩ rfl (by rw [List.length_map]; exact ha1) hl hst hcat hd hfit)
          · cases hcq1
        · cases hc
      · cases hc
    · cases hc
  | invokespecial i =>
    simp only [ex_call] at hc
    split at hc
    · rename_i tag y' n z hlk
      split at hc
      · rename_i ht
        split at hc
        · rename_i as' t' ha
          obtain ⟨ha1, rfl⟩ := ex_args_some ha
          obtain ⟨a, u', rfl, hcq2⟩ := ex_pa_some hc
          split at hcq2
          · rename_i hcc
            obtain ⟨c3, c4⟩ := hcc
            cases hcq2
            have hst : ((as'.reverse ++ .ref a :: u).map (ex_rv (ex_ad base b))) = (as'.map (ex_rv (ex_ad base b))).reverse ++ .ref (ex_ad base b a) :: u.map (ex_rv (ex_ad base b)) := by simp [ex_rv]
            have hcat : 2 * 0 + ((u.map (ex_rv (ex_ad base b))).map fun v => v.category).sum ≤ 8 := by rw [ex_cat_sum]; omega
            have hok := PL _ _ _ hlk
            rcases ht with rfl | rfl
            · obtain ⟨⟨hmB, hini, hd1, hd2, hd3⟩, h5, hin, hlink⟩ := hok
              have hrt := hmB.2.2.2.2.1
              rw [h5] at hrt
              have M := ex_met PF hmB c4 (hs hmB) hmo
              have CB := callB_of (R := R) (rm := ex_rm d (h1.1 - h.1) (h1.2.1 - h.2.1)) n hts (ex_good PG hmB.1) rfl rfl rfl (hts _ hini) (hts _ hlink) ⟨hd1, hd2, hd3⟩ ⟨by show d + 1 ≤ _; exact hR1, by show 8 + _ + 37 * d ≤ _; have := hmB.2.2.2.1; omega⟩
              rw [hrt.1] at CB M
              exact fin (va_runI S M ⟨CB, hrt.2, hts _ hin⟩ ⟨hbl, hpre⟩ rfl (by rw [List.length_map]; exact ha1) hl hst hcat hd hfit)
            · obtain ⟨⟨hmB, hini, hd1, hd2, hd3⟩, h5, hin, hlink⟩ := hok
              have hrt := hmB.2.2.2.2.1
              rw [h5] at hrt
              have M := ex_met PF hmB c4 (hs hmB) hmo
              have CB := va_cnB (R := R) (rm := ex_rm d (h1.1 - h.1) (h1.2.1 - h.2.1)) n hts (ex_good PG hmB.1) rfl rfl rfl (hU.1 _ hlink) (hts _ hini) ⟨hd1, hd2, hd3⟩ ⟨by show d + 1 ≤ _; exact hR1, by show 8 + _ + 37 * d ≤ _; have := hmB.2.2.2.1; omega⟩
              rw [hrt.1] at CB M
              exact fin (va_runIN S M ⟨CB, hrt.2, hts _ hin⟩ ⟨hbl, hpre⟩ rfl (by rw [List.length_map]; exact ha1) hl hst hcat hd hfit)
          · cases hcq2
        · cases hc
      · cases hc
    · cases hc
  | invokestatic i =>
    simp only [ex_call] at hc
    split at hc
    · rename_i tag y' n z hlk
      split at hc
      · rename_i ht
        split at hc
        · rename_i as' t' ha
          obtain ⟨ha1, rfl⟩ := ex_args_some ha
          split at hc
          · rename_i hcc
            obtain ⟨c3, c4⟩ := hcc
            cases hc
            have hst : ((as.reverse ++ u).map (ex_rv (ex_ad base b))) = (as.map (ex_rv (ex_ad base b))).reverse ++ u.map (ex_rv (ex_ad base b)) := by simp
            have hcat : 2 * 0 + ((u.map (ex_rv (ex_ad base b))).map fun v => v.category).sum ≤ 8 := by rw [ex_cat_sum]; omega
            have hok := PL _ _ _ hlk
            rcases ht with rfl | rfl
            · obtain ⟨⟨hmB, hini, hd1, hd2, hd3⟩, hstt, hlink⟩ := hok
              have M := ex_met PF hmB c4 (hs hmB) hmo
              exact fin (va_runS S M ⟨callB_of n hts (ex_good PG hmB.1) rfl rfl rfl (hts _ hini) (hts _ hlink) ⟨hd1, hd2, hd3⟩ ⟨by show d + 1 ≤ _; exact hR1, by show 8 + _ + 37 * d ≤ _; have := hmB.2.2.2.1; omega⟩, hts _ hstt⟩ ⟨hbl, hpre⟩ rfl (by rw [List.length_map]; exact ha1) hl hst hcat hd hfit)
            · obtain ⟨⟨hmB, hini, hd1, hd2, hd3⟩, hstt, hlink⟩ := hok
              have M := ex_met PF hmB c4 (hs hmB) hmo
              exact fin (va_runSN S M ⟨va_cnB n hts (ex_good PG hmB.1) rfl rfl rfl (hU.1 _ hlink) (hts _ hini) ⟨hd1, hd2, hd3⟩ ⟨by show d + 1 ≤ _; exact hR1, by show 8 + _ + 37 * d ≤ _; have := hmB.2.2.2.1; omega⟩, hts _ hstt, trivial⟩ ⟨hbl, hpre⟩ rfl (by rw [List.length_map]; exact ha1) hl hst hcat hd hfit)
          · cases hc
        · cases hc
      · cases hc
    · cases hc
  | _ => exact absurd (show (none : Option ex_Cl) = some _ from hc) (fun q => by cases q)
/-- WHAT THE INTERPRETER COMPUTES, THE MACHINE DOES -/
theorem ex_main (PF : ex_PF G cn TT cl TB nst ao host ym bt rT) (l : Launch) : ∀ (f d mi pc : Nat) (lv st : List Value) (h : ex_Hp) (r : Option Value) (h' : ex_Hp), ex_run G (L + 1) xs f d mi pc lv st h = some (r, h') → (∀ pc ins, ex_look (ex_cd G mi) pc = some ins → ex_dec (bt mi) pc ins) → ex_Snd G cn cl TB nst ao bt rT D ca base b L xs l d mi pc lv st h r h' := by
  intro f
  induction f with
  | zero => intro d mi pc lv st h r h' hx; cases hx
  | succ f ih =>
    intro d mi pc lv st h r h' hx hm p e R s m args below meth c H locs Q ls n0 k0 F hU hl hR1 hR2 hw hS h0 hn0 hk0 hfc hfs hfin
    unfold ex_run at hx
    split at hx
    · cases hx
    · rename_i ins hlook
      have hd := hm _ _ hlook
      split at hx
      · rename_i pc' lv' st' h2 hst
        have mo := ex_run_mono _ _ _ _ _ _ _ _ _ hx
        unfold ex_step at hst
        split at hst
        · rename_i rr hp
          cases hst
          exact ex_pure_ok F.1 F.2.1 hp hd hl (fun ls' hl' => ih _ _ _ _ _ _ _ _ hx hm p e R s m args below meth c H locs Q ls' n0 k0 F hU hl' hR1 hR2 hw hS h0 hn0 hk0 hfc hfs hfin)
        · split at hst
          · rename_i t h3 hme
            split at hst
            · rename_i hle
              cases hst
              exact ex_mem_ok PF F hU hl.2.1 (fun q => ⟨by omega, by omega⟩) hw hS h0 hn0 hk0 (Nat.le_trans mo.1 hfc) (Nat.le_trans mo.2 hfs) hme hd (fun H1 locs1 w1 s1 => ih _ _ _ _ _ _ _ _ hx hm p e R s m args below meth c H1 locs1 Q ls n0 k0 F hU hl hR1 hR2 w1 s1 h0 (Nat.le_trans hn0 hle.1) (Nat.le_trans hk0 hle.2) hfc hfs hfin)
            · cases hst
          · cases hst
      · split at hx
        · rename_i hr
          cases hx
          exact hfin pc ins ls st H locs hlook hr hw hS
        · split at hx
          · cases hx
          · rename_i y as u hcall
            split at hx
            · cases hx
            · rename_i d'
              split at hx
              · cases hx
              · rename_i r1 h1 hrun
                have mo1 := ex_run_mono _ _ _ _ _ _ _ _ _ hrun
                have mo2 := ex_run_mono _ _ _ _ _ _ _ _ _ hx
                exact ex_call_ok PF F hU hl.2.1 hR1 hR2 hw hS h0 hn0 hk0 hcall hd (fun hmy => ih _ _ _ _ _ _ _ _ hrun hmy.2.2.2.2.2) mo1 (Nat.le_trans mo2.1 hfc) (Nat.le_trans mo2.2 hfs) (fun H1 locs1 w1 s1 => ih _ _ _ _ _ _ _ _ hx hm p e R s m args below meth c H1 locs1 Q ls n0 k0 F hU hl hR1 hR2 w1 s1 h0 (Nat.le_trans hn0 mo1.1) (Nat.le_trans hk0 mo1.2) hfc hfs hfin)
end EXS
end
section
/-! reasoning about runs of the interpreter -/
theorem ex_run_fuel {G : ex_G} {L : Nat} {xs : Nat → Int32} : ∀ (f f' d mi pc : Nat) (lv st : List Value) (h : ex_Hp) (r : Option Value × ex_Hp), ex_run G L xs f d mi pc lv st h = some r → f ≤ f' → ex_run G L xs f' d mi pc lv st h = some r := by
  intro f
  induction f with
  | zero => intro f' d mi pc lv st h r hx; cases hx
  | succ f ih =>
    intro f' d mi pc lv st h r hx hf
    obtain ⟨g, rfl⟩ : ∃ g, f' = g + 1 := ⟨f' - 1, by omega⟩
    have hg : f ≤ g := by omega
    unfold ex_run at hx ⊢
    split at hx
    · cases hx
    · rename_i ins hl
      rw [hl]
      dsimp only
      split at hx
      · rename_i hs
        rw [hs]
        exact ih _ _ _ _ _ _ _ _ hx hg
      · rename_i hs
        rw [hs]
        dsimp only
        split at hx
        · rename_i hr
          rw [hr]
          exact hx
        · rename_i hr
          rw [hr]
          dsimp only
          split at hx
          · cases hx
          · rename_i hc
            rw [hc]
            dsimp only
            split at hx
            · cases hx
            · dsimp only
              split at hx
              · cases hx
              · rename_i hrun
                rw [ih _ _ _ _ _ _ _ _ hrun hg]
                exact ih _ _ _ _ _ _ _ _ hx hg
def xx (G : ex_G) (L : Nat) (xs : Nat → Int32) (D mi pc : Nat) (lv st : List Value) (h : ex_Hp) (Q : Option Value → ex_Hp → Prop) : Prop := ∃ (f : Nat) (r : Option Value) (h' : ex_Hp), ex_run G L xs f D mi pc lv st h = some (r, h') ∧ Q r h'
/-- a whole method -/
def rn (G : ex_G) (L : Nat) (xs : Nat → Int32) (D mi : Nat) (as : List Value) (h : ex_Hp) (Q : Option Value → ex_Hp → Prop) : Prop := xx G L xs D mi 0 (ex_ent (ex_mx G mi) as) [] h Q
def ex_steps (cd : List (Nat × Instr)) : Nat → ex_Pr → Option ex_Pr
  | 0, s => some s
  | n + 1, s => match ex_look cd s.1 with
    | some ins => match ex_pure s.1 s.2.1 s.2.2 ins with
      | some s' => ex_steps cd n s'
      | none => none
    | none => none
def ex_P (k : ClassFile.Cond) (x y : Int32) : Prop := match k with
  | .eq => x = y
  | .ne => ¬ x = y
  | .lt => x < y
  | .ge => y ≤ x
  | .gt => y < x
  | .le => x ≤ y
theorem ex_P_cmp {k : ClassFile.Cond} {x y : Int32} : ex_cmp k x y = true ↔ ex_P k x y := by cases k <;> simp [ex_cmp, ex_P]
section XXS
variable {G : ex_G} {L : Nat} {xs : Nat → Int32} {D mi pc pc' : Nat} {lv st : List Value} {h h' : ex_Hp} {Q Q' : Option Value → ex_Hp → Prop}
theorem xx_imp (k : xx G L xs D mi pc lv st h Q) (hq : ∀ r h', Q r h' → Q' r h') : xx G L xs D mi pc lv st h Q' := by
  obtain ⟨f, r, h', h1, h2⟩ := k
  exact ⟨f, r, h', h1, hq _ _ h2⟩
theorem xx_step {ins : Instr} {lv' st' : List Value} (hf : ex_look (ex_cd G mi) pc = some ins) (hs : ex_step G L xs D mi pc lv st h ins = some ((pc', lv', st'), h')) (k : xx G L xs D mi pc' lv' st' h' Q) : xx G L xs D mi pc lv st h Q := by
  obtain ⟨f, r, h2, h3, h4⟩ := k
  refine ⟨f + 1, r, h2, ?_, h4⟩
  unfold ex_run
  rw [hf]
  dsimp only
  rw [hs]
  exact h3
theorem xx_pure {ins : Instr} {lv' st' : List Value} (hf : ex_look (ex_cd G mi) pc = some ins) (hp : ex_pure pc lv st ins = some (pc', lv', st')) (k : xx G L xs D mi pc' lv' st' h Q) : xx G L xs D mi pc lv st h Q :=
  xx_step hf (by unfold ex_step; rw [hp]) k
theorem xx_steps {n : Nat} {lv' st' : List Value} (hs : ex_steps (ex_cd G mi) n (pc, lv, st) = some (pc', lv', st')) (k : xx G L xs D mi pc' lv' st' h Q) : xx G L xs D mi pc lv st h Q := by
  induction n generalizing pc lv st with
  | zero => cases hs; exact k
  | succ n ih =>
    unfold ex_steps at hs
    split at hs
    · rename_i ins hl
      split at hs
      · rename_i s' hp
        obtain ⟨p1, l1, s1⟩ := s'
        exact xx_pure hl hp (ih hs)
      · cases hs
    · cases hs
theorem xx_mem {ins : Instr} {st' : List Value} (hf : ex_look (ex_cd G mi) pc = some ins) (hp : ex_pure pc lv st ins = none) (hm : ex_mem G L xs D mi st h ins = some (st', h')) (hle : h.1 ≤ h'.1 ∧ h.2.1 ≤ h'.2.1) (hpc : pc + ex_len ins = pc') (k : xx G L xs D mi pc' lv st' h' Q) : xx G L xs D mi pc lv st h Q := by
  subst hpc
  refine xx_step hf ?_ k
  unfold ex_step
  rw [hp]
  dsimp only
  rw [hm]
  dsimp only
  rw [if_pos hle]
theorem xx_get {i tag c k a : Nat} {z : Int} {v : Value} (hf : ex_look (ex_cd G mi) pc = some (.getfield i)) (hl : ex_look (ex_lt G (ex_ow G mi)) i = some (tag, c, k, z)) (ht : tag ≤ 1) (hk : ex_kd G a = (0, c)) (hn : k < ex_nf G c) (ha : a < h.1) (hv : ex_fv G h c a k = v) (hpc : pc + 3 = pc') (kk : xx G L xs D mi pc' lv (v :: st) h Q) : xx G L xs D mi pc lv (.ref a :: st) h Q := by
  refine xx_mem hf rfl (st' := v :: st) (h' := h) ?_ ⟨Nat.le_refl _, Nat.le_refl _⟩ hpc kk
  simp only [ex_mem, hl]
  rw [if_pos ht]
  show (if a < h.1 ∧ ex_kd G a = (0, c) ∧ k < ex_nf G c then some (ex_fv G h c a k :: st, h) else none) = _
  rw [if_pos ⟨ha, hk, hn⟩, hv]
theorem xx_putI {i tag c k a : Nat} {z : Int} {v : Int32} (hf : ex_look (ex_cd G mi) pc = some (.putfield i)) (hl : ex_look (ex_lt G (ex_ow G mi)) i = some (tag, c, k, z)) (ht : (tag = 0 ∨ tag = 1 ∧ z = 0) ∧ (z = 0 ∨ z = 1 ∧ ex_ow G mi = c ∧ ex_rt G mi = 5)) (hk : ex_kd G a = (0, c)) (hn : k < ex_nf G c) (ha : a < h.1) (hv : ex_fk G c k = 0 ∨ ex_fk G c k = 1 ∧ ex_b01 v = true) (hpc : pc + 3 = pc') (kk : xx G L xs D mi pc' lv st (ex_hI h a k v) Q) : xx G L xs D mi pc lv (.int v :: .ref a :: st) h Q := by
  refine xx_mem hf rfl (st' := st) (h' := ex_hI h a k v) ?_ ⟨Nat.le_refl _, Nat.le_refl _⟩ hpc kk
  simp only [ex_mem, hl]
  rw [if_pos ht, if_neg (by rcases hv with q | ⟨q, -⟩ <;> rw [q] <;> decide)]
  show (if a < h.1 ∧ ex_kd G a = (0, c) ∧ k < ex_nf G c ∧ (ex_fk G c k = 0 ∨ ex_fk G c k = 1 ∧ ex_b01 v = true) then some (st, ex_hI h a k v) else none) = _
  rw [if_pos ⟨ha, hk, hn, hv⟩]
theorem xx_putP {i tag c k a : Nat} {z : Int} {v : Option Nat} (hf : ex_look (ex_cd G mi) pc = some (.putfield i)) (hl : ex_look (ex_lt G (ex_ow G mi)) i = some (tag, c, k, z)) (ht : (tag = 0 ∨ tag = 1 ∧ z = 0) ∧ (z = 0 ∨ z = 1 ∧ ex_ow G mi = c ∧ ex_rt G mi = 5)) (hk : ex_kd G a = (0, c)) (hn : k < ex_nf G c) (ha : a < h.1) (hv : ex_fk G c k = 2) (hpc : pc + 3 = pc') (kk : xx G L xs D mi pc' lv st (ex_hP h a k v) Q) : xx G L xs D mi pc lv (va_rf v :: .ref a :: st) h Q := by
  refine xx_mem hf rfl (st' := st) (h' := ex_hP h a k v) ?_ ⟨Nat.le_refl _, Nat.le_refl _⟩ hpc kk
  simp only [ex_mem, hl]
  rw [if_pos ht, if_pos hv]
  cases v with
  | none =>
    show (if a < h.1 ∧ ex_kd G a = (0, c) ∧ k < ex_nf G c then some (st, ex_hP h a k none) else none) = _
    rw [if_pos ⟨ha, hk, hn⟩]
  | some w =>
    show (if a < h.1 ∧ ex_kd G a = (0, c) ∧ k < ex_nf G c then some (st, ex_hP h a k (some w)) else none) = _
    rw [if_pos ⟨ha, hk, hn⟩]
theorem ex_in_nI {j n : Nat} (hj : j < n) (hn : n < 2 ^ 31) : ex_in (nI j) n = true := decide_eq_true (nI_in hj hn)
theorem xx_iald {a j n : Nat} {i v : Int32} (hf : ex_look (ex_cd G mi) pc = some .iaload) (hk : ex_kd G a = (1, n)) (ha : a < h.1) (has : a < ex_scr) (hi : i = nI j) (hj : j < n) (hn : n < 2 ^ 31) (hv : h.2.2.1 a j = v) (hpc : pc + 1 = pc') (kk : xx G L xs D mi pc' lv (.int v :: st) h Q) : xx G L xs D mi pc lv (.int i :: .ref a :: st) h Q := by
  subst hi
  refine xx_mem hf rfl (st' := .int v :: st) (h' := h) ?_ ⟨Nat.le_refl _, Nat.le_refl _⟩ hpc kk
  show (if a = ex_scr then (if ex_in (nI j) (L - 1) = true then some (Value.int (xs (nI j).toNatClampNeg) :: st, h) else none) else if a < h.1 ∧ (ex_kd G a).1 = 1 ∧ ex_in (nI j) (ex_kd G a).2 = true then some (.int (h.2.2.1 a (nI j).toNatClampNeg) :: st, h) else none) = _
  rw [if_neg (by omega), hk, if_pos ⟨ha, rfl, ex_in_nI hj hn⟩, nI_clamp (by omega), hv]
theorem xx_sld {j : Nat} {i : Int32} (hf : ex_look (ex_cd G mi) pc = some .iaload) (hi : i = nI j) (hj : j < L) (hn : L < 2 ^ 31) (hpc : pc + 1 = pc') (kk : xx G (L + 1) xs D mi pc' lv (.int (xs j) :: st) h Q) : xx G (L + 1) xs D mi pc lv (.int i :: .ref ex_scr :: st) h Q := by
  subst hi
  refine xx_mem hf rfl (st' := .int (xs j) :: st) (h' := h) ?_ ⟨Nat.le_refl _, Nat.le_refl _⟩ hpc kk
  show (if ex_scr = ex_scr then (if ex_in (nI j) L = true then some (Value.int (xs (nI j).toNatClampNeg) :: st, h) else none) else _) = _
  rw [if_pos rfl, if_pos (ex_in_nI hj hn), nI_clamp (by omega)]
theorem xx_slen (hf : ex_look (ex_cd G mi) pc = some .arraylength) (hpc : pc + 1 = pc') (kk : xx G (L + 1) xs D mi pc' lv (.int (nI L) :: st) h Q) : xx G (L + 1) xs D mi pc lv (.ref ex_scr :: st) h Q := by
  refine xx_mem hf rfl (st' := .int (nI L) :: st) (h' := h) ?_ ⟨Nat.le_refl _, Nat.le_refl _⟩ hpc kk
  show (if ex_scr = ex_scr then (if L + 1 = 0 then none else some (Value.int (nI L) :: st, h)) else _) = _
  rw [if_pos rfl, if_neg (Nat.succ_ne_zero L)]
theorem xx_alen {a k n : Nat} (hf : ex_look (ex_cd G mi) pc = some .arraylength) (hk : ex_kd G a = (k + 1, n)) (ha : a < h.1) (has : a < ex_scr) (hpc : pc + 1 = pc') (kk : xx G L xs D mi pc' lv (.int (nI n) :: st) h Q) : xx G L xs D mi pc lv (.ref a :: st) h Q := by
  refine xx_mem hf rfl (st' := .int (nI n) :: st) (h' := h) ?_ ⟨Nat.le_refl _, Nat.le_refl _⟩ hpc kk
  show (if a = ex_scr then (if L = 0 then none else some (Value.int (nI (L - 1)) :: st, h)) else if a < h.1 ∧ 1 ≤ (ex_kd G a).1 then some (.int (nI (ex_kd G a).2) :: st, h) else none) = _
  rw [if_neg (by omega), hk, if_pos ⟨ha, by show 1 ≤ k + 1; omega⟩]
theorem xx_zald {a j n : Nat} {i v : Int32} (hf : ex_look (ex_cd G mi) pc = some .baload) (hk : ex_kd G a = (2, n)) (ha : a < h.1) (hi : i = nI j) (hj : j < n) (hn : n < 2 ^ 31) (hv : h.2.2.1 a j = v) (hpc : pc + 1 = pc') (kk : xx G L xs D mi pc' lv (.int v :: st) h Q) : xx G L xs D mi pc lv (.int i :: .ref a :: st) h Q := by
  subst hi
  refine xx_mem hf rfl (st' := .int v :: st) (h' := h) ?_ ⟨Nat.le_refl _, Nat.le_refl _⟩ hpc kk
  show (if a < h.1 ∧ (ex_kd G a).1 = 2 ∧ ex_in (nI j) (ex_kd G a).2 = true then some (Value.int (h.2.2.1 a (nI j).toNatClampNeg) :: st, h) else none) = _
  rw [hk, if_pos ⟨ha, rfl, ex_in_nI hj hn⟩, nI_clamp (by omega), hv]
theorem xx_aald {a j n t : Nat} {i : Int32} {v : Value} (hf : ex_look (ex_cd G mi) pc = some .aaload) (hk : ex_kd G a = (t + 3, n)) (ha : a < h.1) (hi : i = nI j) (hj : j < n) (hn : n < 2 ^ 31) (hv : va_rf (h.2.2.2 a j) = v) (hpc : pc + 1 = pc') (kk : xx G L xs D mi pc' lv (v :: st) h Q) : xx G L xs D mi pc lv (.int i :: .ref a :: st) h Q := by
  subst hi
  refine xx_mem hf rfl (st' := v :: st) (h' := h) ?_ ⟨Nat.le_refl _, Nat.le_refl _⟩ hpc kk
  show (if a < h.1 ∧ 3 ≤ (ex_kd G a).1 ∧ ex_in (nI j) (ex_kd G a).2 = true then some (va_rf (h.2.2.2 a (nI j).toNatClampNeg) :: st, h) else none) = _
  rw [hk, if_pos ⟨ha, by show 3 ≤ t + 3; omega, ex_in_nI hj hn⟩, nI_clamp (by omega), hv]
theorem xx_iast {a j n : Nat} {i v : Int32} (hf : ex_look (ex_cd G mi) pc = some .iastore) (hk : ex_kd G a = (1, n)) (ha : a < h.1) (hi : i = nI j) (hj : j < n) (hn : n < 2 ^ 31) (hpc : pc + 1 = pc') (kk : xx G L xs D mi pc' lv st (ex_hI h a j v) Q) : xx G L xs D mi pc lv (.int v :: .int i :: .ref a :: st) h Q := by
  subst hi
  refine xx_mem hf rfl (st' := st) (h' := ex_hI h a j v) ?_ ⟨Nat.le_refl _, Nat.le_refl _⟩ hpc kk
  show (if a < h.1 ∧ (ex_kd G a).1 = 1 ∧ ex_in (nI j) (ex_kd G a).2 = true then some (st, ex_hI h a (nI j).toNatClampNeg v) else none) = _
  rw [hk, if_pos ⟨ha, rfl, ex_in_nI hj hn⟩, nI_clamp (by omega)]
theorem xx_zast {a j n : Nat} {i v : Int32} (hf : ex_look (ex_cd G mi) pc = some .bastore) (hk : ex_kd G a = (2, n)) (ha : a < h.1) (hi : i = nI j) (hj : j < n) (hn : n < 2 ^ 31) (hv : ex_b01 v = true) (hpc : pc + 1 = pc') (kk : xx G L xs D mi pc' lv st (ex_hI h a j v) Q) : xx G L xs D mi pc lv (.int v :: .int i :: .ref a :: st) h Q := by
  subst hi
  refine xx_mem hf rfl (st' := st) (h' := ex_hI h a j v) ?_ ⟨Nat.le_refl _, Nat.le_refl _⟩ hpc kk
  show (if a < h.1 ∧ (ex_kd G a).1 = 2 ∧ ex_in (nI j) (ex_kd G a).2 = true ∧ ex_b01 v = true then some (st, ex_hI h a (nI j).toNatClampNeg v) else none) = _
  rw [hk, if_pos ⟨ha, rfl, ex_in_nI hj hn, hv⟩, nI_clamp (by omega)]
theorem xx_aast {a x j n t : Nat} {i : Int32} (hf : ex_look (ex_cd G mi) pc = some .aastore) (hk : ex_kd G a = (3 + t, n)) (ha : a < h.1) (hx : x < h.1) (hkx : ex_kd G x = (0, t)) (hi : i = nI j) (hj : j < n) (hn : n < 2 ^ 31) (hpc : pc + 1 = pc') (kk : xx G L xs D mi pc' lv st (ex_hP h a j (some x)) Q) : xx G L xs D mi pc lv (.ref x :: .int i :: .ref a :: st) h Q := by
  subst hi
  refine xx_mem hf rfl (st' := st) (h' := ex_hP h a j (some x)) ?_ ⟨Nat.le_refl _, Nat.le_refl _⟩ hpc kk
  show (if a < h.1 ∧ x < h.1 ∧ (ex_kd G a).1 = 3 + (ex_kd G x).2 ∧ (ex_kd G x).1 = 0 ∧ ex_in (nI j) (ex_kd G a).2 = true then some (st, ex_hP h a (nI j).toNatClampNeg (some x)) else none) = _
  rw [hk, hkx, if_pos ⟨ha, hx, rfl, rfl, ex_in_nI hj hn⟩, nI_clamp (by omega)]
theorem xx_new {i c k : Nat} {z : Int} (hf : ex_look (ex_cd G mi) pc = some (.new i)) (hl : ex_look (ex_lt G (ex_ow G mi)) i = some (9, c, k, z)) (hz : h.1 < ex_scr) (hk : ex_kd G h.1 = (0, c)) (hpc : pc + 3 = pc') (kk : xx G L xs D mi pc' lv (.ref h.1 :: st) (ex_hN h (ex_nf G c)) Q) : xx G L xs D mi pc lv st h Q := by
  refine xx_mem hf rfl (st' := .ref h.1 :: st) (h' := ex_hN h (ex_nf G c)) ?_ ⟨Nat.le_succ _, Nat.le_add_right _ _⟩ hpc kk
  simp only [ex_mem, hl]
  rw [if_pos ⟨rfl, hz, hk⟩]
theorem xx_newI {n : Nat} {i : Int32} (hf : ex_look (ex_cd G mi) pc = some (.newarray .int)) (hi : i = nI n) (hn : n ≤ 1000) (hz : h.1 < ex_scr) (hk : ex_kd G h.1 = (1, n)) (hpc : pc + 2 = pc') (kk : xx G L xs D mi pc' lv (.ref h.1 :: st) (ex_hN h n) Q) : xx G L xs D mi pc lv (.int i :: st) h Q := by
  subst hi
  refine xx_mem hf rfl (st' := .ref h.1 :: st) (h' := ex_hN h n) ?_ ⟨Nat.le_succ _, Nat.le_add_right _ _⟩ hpc kk
  show (if ¬ nI n < 0 ∧ (nI n).toNatClampNeg ≤ 1000 ∧ h.1 < ex_scr ∧ (ArrayType.int = .int ∧ ex_kd G h.1 = (1, (nI n).toNatClampNeg) ∨ ArrayType.int = .boolean ∧ ex_kd G h.1 = (2, (nI n).toNatClampNeg)) then some (Value.ref h.1 :: st, ex_hN h (nI n).toNatClampNeg) else none) = _
  rw [nI_clamp (by omega), if_pos ⟨nI_pos (by omega), hn, hz, Or.inl ⟨rfl, hk⟩⟩]
theorem xx_ldc {i c k : Nat} {z : Int} {v : Int32} (hf : ex_look (ex_cd G mi) pc = some (.ldc i)) (hl : ex_look (ex_lt G (ex_ow G mi)) i = some (11, c, k, z)) (hv : Int32.ofInt z = v) (hpc : pc + 2 = pc') (kk : xx G L xs D mi pc' lv (.int v :: st) h Q) : xx G L xs D mi pc lv st h Q := by
  refine xx_mem hf rfl (st' := .int v :: st) (h' := h) ?_ ⟨Nat.le_refl _, Nat.le_refl _⟩ hpc kk
  simp only [ex_mem, hl]
  rw [if_pos rfl, hv]
theorem xx_ldcw {i c k : Nat} {z : Int} {v : Int32} (hf : ex_look (ex_cd G mi) pc = some (.ldc_w i)) (hl : ex_look (ex_lt G (ex_ow G mi)) i = some (11, c, k, z)) (hv : Int32.ofInt z = v) (hpc : pc + 3 = pc') (kk : xx G L xs D mi pc' lv (.int v :: st) h Q) : xx G L xs D mi pc lv st h Q := by
  refine xx_mem hf rfl (st' := .int v :: st) (h' := h) ?_ ⟨Nat.le_refl _, Nat.le_refl _⟩ hpc kk
  simp only [ex_mem, hl]
  rw [if_pos rfl, hv]
theorem xx_ldc2 {i c k : Nat} {z : Int} {v : Int64} (hf : ex_look (ex_cd G mi) pc = some (.ldc2_w i)) (hl : ex_look (ex_lt G (ex_ow G mi)) i = some (12, c, k, z)) (hv : Int64.ofInt z = v) (hpc : pc + 3 = pc') (kk : xx G L xs D mi pc' lv (.long v :: st) h Q) : xx G L xs D mi pc lv st h Q := by
  refine xx_mem hf rfl (st' := .long v :: st) (h' := h) ?_ ⟨Nat.le_refl _, Nat.le_refl _⟩ hpc kk
  simp only [ex_mem, hl]
  rw [if_pos rfl, hv]
theorem xx_if {k : ClassFile.Cond} {off : Int} {x : Int32} {tg : Nat} (hf : ex_look (ex_cd G mi) pc = some (.ifCond k off)) (hj : ex_jump pc off = some tg) (hpc : pc + 3 = pc') (kt : ex_P k x 0 → xx G L xs D mi tg lv st h Q) (kf : ¬ ex_P k x 0 → xx G L xs D mi pc' lv st h Q) : xx G L xs D mi pc lv (.int x :: st) h Q := by
  subst hpc
  have hp : ex_pure pc lv (.int x :: st) (.ifCond k off) = some (if ex_cmp k x 0 = true then tg else pc + 3, lv, st) := by
    show ex_br (ex_cmp k x 0) pc off lv st = _
    unfold ex_br
    rw [hj]
  by_cases hc : ex_P k x 0
  · rw [if_pos (ex_P_cmp.mpr hc)] at hp
    exact xx_pure hf hp (kt hc)
  · rw [if_neg (fun q => hc (ex_P_cmp.mp q))] at hp
    exact xx_pure hf hp (kf hc)
theorem xx_icmp {k : ClassFile.Cond} {off : Int} {x y : Int32} {tg : Nat} (hf : ex_look (ex_cd G mi) pc = some (.if_icmp k off)) (hj : ex_jump pc off = some tg) (hpc : pc + 3 = pc') (kt : ex_P k x y → xx G L xs D mi tg lv st h Q) (kf : ¬ ex_P k x y → xx G L xs D mi pc' lv st h Q) : xx G L xs D mi pc lv (.int y :: .int x :: st) h Q := by
  subst hpc
  have hp : ex_pure pc lv (.int y :: .int x :: st) (.if_icmp k off) = some (if ex_cmp k x y = true then tg else pc + 3, lv, st) := by
    show ex_br (ex_cmp k x y) pc off lv st = _
    unfold ex_br
    rw [hj]
  by_cases hc : ex_P k x y
  · rw [if_pos (ex_P_cmp.mpr hc)] at hp
    exact xx_pure hf hp (kt hc)
  · rw [if_neg (fun q => hc (ex_P_cmp.mp q))] at hp
    exact xx_pure hf hp (kf hc)
theorem xx_ret {ins : Instr} {r : Option Value} (hf : ex_look (ex_cd G mi) pc = some ins) (hp : ex_pure pc lv st ins = none) (hm : ex_mem G L xs D mi st h ins = none) (hr : ex_ret G mi st ins = some r) (hq : Q r h) : xx G L xs D mi pc lv st h Q := by
  refine ⟨1, r, h, ?_, hq⟩
  unfold ex_run
  rw [hf]
  dsimp only
  have : ex_step G L xs D mi pc lv st h ins = none := by unfold ex_step; rw [hp]; dsimp only; rw [hm]
  rw [this]
  dsimp only
  rw [hr]
theorem xx_ireturn {x : Int32} (hf : ex_look (ex_cd G mi) pc = some .ireturn) (hr : ex_rt G mi = 1) (hq : Q (some (.int x)) h) : xx G L xs D mi pc lv [.int x] h Q := by
  refine xx_ret hf rfl rfl (r := some (.int x)) ?_ hq
  show (if ex_rt G mi = 1 ∨ ex_rt G mi = 2 ∧ ex_b01 x = true then some (some (Value.int x)) else none) = _
  rw [if_pos (Or.inl hr)]
theorem xx_zreturn {x : Int32} (hf : ex_look (ex_cd G mi) pc = some .ireturn) (hr : ex_rt G mi = 2) (hb : ex_b01 x = true) (hq : Q (some (.int x)) h) : xx G L xs D mi pc lv [.int x] h Q := by
  refine xx_ret hf rfl rfl (r := some (.int x)) ?_ hq
  show (if ex_rt G mi = 1 ∨ ex_rt G mi = 2 ∧ ex_b01 x = true then some (some (Value.int x)) else none) = _
  rw [if_pos (Or.inr ⟨hr, hb⟩)]
theorem xx_lreturn {x : Int64} (hf : ex_look (ex_cd G mi) pc = some .lreturn) (hr : ex_rt G mi = 3) (hq : Q (some (.long x)) h) : xx G L xs D mi pc lv [.long x] h Q := by
  refine xx_ret hf rfl rfl (r := some (.long x)) ?_ hq
  show (if ex_rt G mi = 3 then some (some (Value.long x)) else none) = _
  rw [if_pos hr]
theorem xx_areturn {x : Option Nat} (hf : ex_look (ex_cd G mi) pc = some .areturn) (hr : ex_rt G mi = 4) (hq : Q (some (va_rf x)) h) : xx G L xs D mi pc lv [va_rf x] h Q := by
  refine xx_ret hf rfl rfl (r := some (va_rf x)) ?_ hq
  cases x with
  | none =>
    show (if ex_rt G mi = 4 then some (some Value.null) else none) = _
    rw [if_pos hr]; rfl
  | some a =>
    show (if ex_rt G mi = 4 then some (some (Value.ref a)) else none) = _
    rw [if_pos hr]; rfl
theorem xx_return (hf : ex_look (ex_cd G mi) pc = some .return_) (hr : ex_rt G mi = 0 ∨ ex_rt G mi = 5) (hq : Q none h) : xx G L xs D mi pc lv [] h Q := by
  refine xx_ret hf rfl rfl (r := none) ?_ hq
  show (if ex_rt G mi = 0 ∨ ex_rt G mi = 5 then some none else none) = _
  rw [if_pos hr]
theorem xx_callG {ins : Instr} {y : Nat} {as u : List Value} {Qy : Option Value → ex_Hp → Prop} (hf : ex_look (ex_cd G mi) pc = some ins) (hp : ex_pure pc lv st ins = none) (hm : ex_mem G L xs (D + 1) mi st h ins = none) (hr : ex_ret G mi st ins = none) (hc : ex_call G mi st h ins = some (y, as, u)) (hpc : pc + 3 = pc')
    (hy : rn G L xs D y as h Qy) (kk : ∀ r h', Qy r h' → xx G L xs (D + 1) mi pc' lv (r.toList ++ u) h' Q) : xx G L xs (D + 1) mi pc lv st h Q := by
  subst hpc
  obtain ⟨f1, r1, h1, g1, g2⟩ := hy
  obtain ⟨f2, r2, h2, g3, g4⟩ := kk r1 h1 g2
  refine ⟨max f1 f2 + 1, r2, h2, ?_, g4⟩
  have e1 := ex_run_fuel _ (max f1 f2) _ _ _ _ _ _ _ g1 (Nat.le_max_left _ _)
  have e2 := ex_run_fuel _ (max f1 f2) _ _ _ _ _ _ _ g3 (Nat.le_max_right _ _)
  unfold ex_run
  rw [hf]
  dsimp only
  have : ex_step G L xs (D + 1) mi pc lv st h ins = none := by unfold ex_step; rw [hp]; dsimp only; rw [hm]
  rw [this]
  dsimp only
  rw [hr]
  dsimp only
  rw [hc]
  dsimp only
  rw [e1]
  exact e2
theorem xx_callV {i tag y n a : Nat} {z : Int} {as u : List Value} {Qy : Option Value → ex_Hp → Prop} (hf : ex_look (ex_cd G mi) pc = some (.invokevirtual i)) (hl : ex_look (ex_lt G (ex_ow G mi)) i = some (tag, y, n, z)) (ht : tag = 2 ∨ tag = 3) (hst : ex_args n st = some (as, .ref a :: u)) (hk : ex_kd G a = (0, ex_ow G y)) (ha : a < h.1) (hu : (u.map fun v => v.category).sum ≤ 8) (hfit : ex_fit G y (.ref a :: as) = true) (hpc : pc + 3 = pc')
    (hy : rn G L xs D y (.ref a :: as) h Qy) (kk : ∀ r h', Qy r h' → xx G L xs (D + 1) mi pc' lv (r.toList ++ u) h' Q) : xx G L xs (D + 1) mi pc lv st h Q := by
  refine xx_callG hf rfl rfl rfl (y := y) (as := .ref a :: as) (u := u) ?_ hpc hy kk
  simp only [ex_call, hl]
  rw [if_pos ht, hst]
  show (if a < h.1 ∧ ex_kd G a = (0, ex_ow G y) ∧ (u.map fun v => v.category).sum ≤ 8 ∧ ex_fit G y (.ref a :: as) = true then some (y, Value.ref a :: as, u) else none) = _
  rw [if_pos ⟨ha, hk, hu, hfit⟩]
theorem xx_callI {i tag y n a : Nat} {z : Int} {as u : List Value} {Qy : Option Value → ex_Hp → Prop} (hf : ex_look (ex_cd G mi) pc = some (.invokespecial i)) (hl : ex_look (ex_lt G (ex_ow G mi)) i = some (tag, y, n, z)) (ht : tag = 6 ∨ tag = 7) (hst : ex_args n st = some (as, .ref a :: u)) (hu : (u.map fun v => v.category).sum ≤ 8) (hfit : ex_fit G y (.ref a :: as) = true) (hpc : pc + 3 = pc')
    (hy : rn G L xs D y (.ref a :: as) h Qy) (kk : ∀ r h', Qy r h' → xx G L xs (D + 1) mi pc' lv (r.toList ++ u) h' Q) : xx G L xs (D + 1) mi pc lv st h Q := by
  have hm : ex_mem G L xs (D + 1) mi st h (.invokespecial i) = none := by
    simp only [ex_mem, hl]
    rw [if_neg (by omega)]
  refine xx_callG hf rfl hm rfl (y := y) (as := .ref a :: as) (u := u) ?_ hpc hy kk
  simp only [ex_call, hl]
  rw [if_pos ht, hst]
  show (if (u.map fun v => v.category).sum ≤ 8 ∧ ex_fit G y (.ref a :: as) = true then some (y, Value.ref a :: as, u) else none) = _
  rw [if_pos ⟨hu, hfit⟩]
theorem xx_callS {i tag y n : Nat} {z : Int} {as u : List Value} {Qy : Option Value → ex_Hp → Prop} (hf : ex_look (ex_cd G mi) pc = some (.invokestatic i)) (hl : ex_look (ex_lt G (ex_ow G mi)) i = some (tag, y, n, z)) (ht : tag = 4 ∨ tag = 5) (hst : ex_args n st = some (as, u)) (hu : (u.map fun v => v.category).sum ≤ 8) (hfit : ex_fit G y as = true) (hpc : pc + 3 = pc')
    (hy : rn G L xs D y as h Qy) (kk : ∀ r h', Qy r h' → xx G L xs (D + 1) mi pc' lv (r.toList ++ u) h' Q) : xx G L xs (D + 1) mi pc lv st h Q := by
  have hm : ex_mem G L xs (D + 1) mi st h (.invokestatic i) = none := by
    simp only [ex_mem, hl]
    rw [if_neg (by omega)]
  refine xx_callG hf rfl hm rfl (y := y) (as := as) (u := u) ?_ hpc hy kk
  simp only [ex_call, hl]
  rw [if_pos ht, hst]
  show (if (u.map fun v => v.category).sum ≤ 8 ∧ ex_fit G y as = true then some (y, as, u) else none) = _
  rw [if_pos ⟨hu, hfit⟩]
/-- the choice of one of two constants -/
theorem xx_tern {k : ClassFile.Cond} {off off2 : Int} {x v1 v2 : Int32} {i1 i2 : Instr} {q1 q2 q3 : Nat} (hf : ex_look (ex_cd G mi) pc = some (.ifCond k off)) (hj : ex_jump pc off = some q2) (h1 : ex_look (ex_cd G mi) (pc + 3) = some i1) (e1 : ex_pure (pc + 3) lv st i1 = some (q1, lv, .int v1 :: st)) (hg : ex_look (ex_cd G mi) q1 = some (.goto off2)) (hj2 : ex_jump q1 off2 = some q3)
    (h2 : ex_look (ex_cd G mi) q2 = some i2) (e2 : ex_pure q2 lv st i2 = some (q3, lv, .int v2 :: st)) (kk : ∀ v : Int32, (ex_P k x 0 ∧ v = v2 ∨ ¬ ex_P k x 0 ∧ v = v1) → xx G L xs D mi q3 lv (.int v :: st) h Q) : xx G L xs D mi pc lv (.int x :: st) h Q := by
  refine xx_if hf hj rfl (fun hc => xx_pure h2 e2 (kk _ (Or.inl ⟨hc, rfl⟩))) (fun hc => xx_pure h1 e1 (xx_pure hg ?_ (kk _ (Or.inr ⟨hc, rfl⟩))))
  show ex_to q1 off2 lv (.int v1 :: st) = _
  unfold ex_to
  rw [hj2]
end XXS
end
