/-! an interpreter of my own over an abstract heap: addresses are numbers of making; G: the program's tables -/
abbrev ex_Mem : Type := Nat → Nat → Int32
abbrev ex_Pm : Type := Nat → Nat → Option Nat
/-- size, slots, ints, references -/
abbrev ex_Hp : Type := Nat × Nat × ex_Mem × ex_Pm
/-- a link: tag, two numbers, a constant -/
abbrev ex_Lk : Type := Nat × Nat × Nat × Int
/-- code, maxLocals, kind of answer, owner's number, links of an owner, number of fields, kinds of fields, kinds of cells -/
abbrev ex_G : Type := (Nat → List (Nat × Instr)) × (Nat → Nat) × (Nat → Nat) × (Nat → Nat) × (Nat → List (Nat × ex_Lk)) × (Nat → Nat) × (Nat → Nat → Nat) × (Nat → Nat × Nat)
def ex_cd (G : ex_G) : Nat → List (Nat × Instr) := G.1
def ex_mx (G : ex_G) : Nat → Nat := G.2.1
def ex_rt (G : ex_G) : Nat → Nat := G.2.2.1
def ex_ow (G : ex_G) : Nat → Nat := G.2.2.2.1
def ex_lt (G : ex_G) : Nat → List (Nat × ex_Lk) := G.2.2.2.2.1
def ex_nf (G : ex_G) : Nat → Nat := G.2.2.2.2.2.1
def ex_fk (G : ex_G) : Nat → Nat → Nat := G.2.2.2.2.2.2.1
def ex_kd (G : ex_G) : Nat → Nat × Nat := G.2.2.2.2.2.2.2
def ex_look {α : Type} : List (Nat × α) → Nat → Option α
  | [], _ => none
  | q :: t, i => if q.1 = i then some q.2 else ex_look t i
/-- no value is known here -/
def ex_no : Value := .retAddr 0
/-- the script's abstract address -/
def ex_scr : Nat := 1000000
def ex_jump (pc : Nat) (off : Int) : Option Nat := match (pc : Int) + off with
  | .ofNat t => some t
  | .negSucc _ => none
def ex_kill (lv : List Value) (i : Nat) : List Value := match i with
  | 0 => lv
  | j + 1 => match lv[j]? with
    | some w => if w.category = 2 then lv.set j ex_no else lv
    | none => lv
def ex_st1 (lv : List Value) (i : Nat) (v : Value) : Option (List Value) := if i < lv.length then some ((ex_kill lv i).set i v) else none
def ex_st2 (lv : List Value) (i : Nat) (v : Value) : Option (List Value) := if i + 1 < lv.length then some (((ex_kill lv i).set i v).set (i + 1) ex_no) else none
def ex_ent : Nat → List Value → List Value
  | n, [] => List.replicate n ex_no
  | n, v :: vs => if v.category = 2 then v :: ex_no :: ex_ent (n - 2) vs else v :: ex_ent (n - 1) vs
/-- a constant by its number -/
def ex_i : Int → Int32
  | .ofNat n => nI n
  | .negSucc n => - nI (n + 1)
def ex_len : Instr → Nat
  | .iload _ | .lload _ | .aload _ | .istore _ | .lstore _ | .astore _ | .bipush _ | .ldc _ | .newarray _ => 2
  | .sipush _ | .iinc _ _ | .ifCond _ _ | .if_icmp _ _ | .ifnull _ | .ifnonnull _ | .goto _ | .getfield _ | .putfield _ | .invokevirtual _ | .invokespecial _ | .invokestatic _ | .new _ | .anewarray _ | .ldc2_w _ | .ldc_w _ => 3
  | .tableswitch _ _ _ _ => 0
  | _ => 1
abbrev ex_Pr : Type := Nat × List Value × List Value
def ex_cmp (k : ClassFile.Cond) (x y : Int32) : Bool := match k with
  | .eq => decide (x = y)
  | .ne => decide (¬ x = y)
  | .lt => decide (x < y)
  | .ge => decide (y ≤ x)
  | .gt => decide (y < x)
  | .le => decide (x ≤ y)
/-- taking from the stack -/
def ex_pi {α : Type} (st : List Value) (k : Int32 → List Value → Option α) : Option α := match st with
  | .int x :: t => k x t
  | _ => none
def ex_pl {α : Type} (st : List Value) (k : Int64 → List Value → Option α) : Option α := match st with
  | .long x :: t => k x t
  | _ => none
def ex_pa {α : Type} (st : List Value) (k : Nat → List Value → Option α) : Option α := match st with
  | .ref a :: t => k a t
  | _ => none
/-- a reference or null -/
def ex_pn {α : Type} (st : List Value) (k : Option Nat → List Value → Option α) : Option α := match st with
  | .ref a :: t => k (some a) t
  | .null :: t => k none t
  | _ => none
/-- a value of one word -/
def ex_p1 {α : Type} (st : List Value) (k : Value → List Value → Option α) : Option α := match st with
  | v :: t => if v.category = 1 then k v t else none
  | _ => none
def ex_to (pc : Nat) (off : Int) (lv st : List Value) : Option ex_Pr := match ex_jump pc off with
  | some t => some (t, lv, st)
  | none => none
def ex_br (c : Bool) (pc : Nat) (off : Int) (lv st : List Value) : Option ex_Pr := match ex_jump pc off with
  | some t => some (if c = true then t else pc + 3, lv, st)
  | none => none
def ex_sw (x : Int32) (pc : Nat) (dflt lo hi : Int) (offs : Array Int) (lv st : List Value) : Option ex_Pr :=
  if x.toInt < lo ∨ hi < x.toInt then ex_to pc dflt lv st else match offs[(x.toInt - lo).toNat]? with
    | some off => ex_to pc off lv st
    | none => none
def ex_go (pc : Nat) (st : List Value) (lv : Option (List Value)) : Option ex_Pr := match lv with
  | some l => some (pc, l, st)
  | none => none
def ex_li (lv : List Value) (i pc : Nat) (st : List Value) : Option ex_Pr := match lv[i]? with
  | some (.int x) => some (pc, lv, .int x :: st)
  | _ => none
def ex_ll (lv : List Value) (i pc : Nat) (st : List Value) : Option ex_Pr := match lv[i]? with
  | some (.long x) => some (pc, lv, .long x :: st)
  | _ => none
def ex_la (lv : List Value) (i pc : Nat) (st : List Value) : Option ex_Pr := match lv[i]? with
  | some (.ref x) => some (pc, lv, .ref x :: st)
  | some .null => some (pc, lv, .null :: st)
  | _ => none
def ex_inc (lv : List Value) (i : Nat) (n : Int) (pc : Nat) (st : List Value) : Option ex_Pr := match lv[i]? with
  | some (.int x) => ex_go pc st (ex_st1 lv i (.int (x + ex_i n)))
  | _ => none
/-- instructions that touch locals and stack alone -/
def ex_pure (pc : Nat) (lv st : List Value) (ins : Instr) : Option ex_Pr := match ins with
  | .iconst n => some (pc + 1, lv, .int (ex_i n) :: st)
  | .bipush n => if -128 ≤ n ∧ n < 128 then some (pc + 2, lv, .int (ex_i n) :: st) else none
  | .sipush n => if -32768 ≤ n ∧ n < 32768 then some (pc + 3, lv, .int (ex_i n) :: st) else none
  | .lconst n => some (pc + 1, lv, .long (Int64.ofNat n) :: st)
  | .aconst_null => some (pc + 1, lv, .null :: st)
  | .iload i => ex_li lv i (pc + 2) st
  | .iload_n i => ex_li lv i (pc + 1) st
  | .lload i => ex_ll lv i (pc + 2) st
  | .lload_n i => ex_ll lv i (pc + 1) st
  | .aload i => ex_la lv i (pc + 2) st
  | .aload_n i => ex_la lv i (pc + 1) st
  | .istore i => ex_pi st fun x t => ex_go (pc + 2) t (ex_st1 lv i (.int x))
  | .istore_n i => ex_pi st fun x t => ex_go (pc + 1) t (ex_st1 lv i (.int x))
  | .lstore i => ex_pl st fun x t => ex_go (pc + 2) t (ex_st2 lv i (.long x))
  | .lstore_n i => ex_pl st fun x t => ex_go (pc + 1) t (ex_st2 lv i (.long x))
  | .astore i => ex_pn st fun x t => ex_go (pc + 2) t (ex_st1 lv i (va_rf x))
  | .astore_n i => ex_pn st fun x t => ex_go (pc + 1) t (ex_st1 lv i (va_rf x))
  | .iinc i n => ex_inc lv i n (pc + 3) st
  | .iadd => ex_pi st fun y t => ex_pi t fun x u => some (pc + 1, lv, .int (x + y) :: u)
  | .isub => ex_pi st fun y t => ex_pi t fun x u => some (pc + 1, lv, .int (x - y) :: u)
  | .imul => ex_pi st fun y t => ex_pi t fun x u => some (pc + 1, lv, .int (x * y) :: u)
  | .iand => ex_pi st fun y t => ex_pi t fun x u => some (pc + 1, lv, .int (x &&& y) :: u)
  | .irem => ex_pi st fun y t => ex_pi t fun x u => if y = 0 then none else some (pc + 1, lv, .int (x - x / y * y) :: u)
  | .ishr => ex_pi st fun y t => ex_pi t fun x u => some (pc + 1, lv, .int (x >>> (y &&& 31)) :: u)
  | .iushr => ex_pi st fun y t => ex_pi t fun x u => some (pc + 1, lv, .int ((x.toUInt32 >>> (y.toUInt32 &&& Int32.toUInt32 31)).toInt32) :: u)
  | .ladd => ex_pl st fun y t => ex_pl t fun x u => some (pc + 1, lv, .long (x + y) :: u)
  | .lmul => ex_pl st fun y t => ex_pl t fun x u => some (pc + 1, lv, .long (x * y) :: u)
  | .land => ex_pl st fun y t => ex_pl t fun x u => some (pc + 1, lv, .long (x &&& y) :: u)
  | .lor => ex_pl st fun y t => ex_pl t fun x u => some (pc + 1, lv, .long (x ||| y) :: u)
  | .lshl => ex_pi st fun y t => ex_pl t fun x u => some (pc + 1, lv, .long (x <<< (y.toInt64 &&& 63)) :: u)
  | .lshr => ex_pi st fun y t => ex_pl t fun x u => some (pc + 1, lv, .long (x >>> (y.toInt64 &&& 63)) :: u)
  | .lcmp => ex_pl st fun y t => ex_pl t fun x u => some (pc + 1, lv, .int (lg_cmp x y) :: u)
  | .i2l => ex_pi st fun x t => some (pc + 1, lv, .long x.toInt64 :: t)
  | .l2i => ex_pl st fun x t => some (pc + 1, lv, .int x.toInt32 :: t)
  | .dup => ex_p1 st fun v t => some (pc + 1, lv, v :: v :: t)
  | .dup2 => ex_p1 st fun v t => ex_p1 t fun w u => some (pc + 1, lv, v :: w :: v :: w :: u)
  | .pop => ex_p1 st fun _ t => some (pc + 1, lv, t)
  | .ifCond k off => ex_pi st fun x t => ex_br (ex_cmp k x 0) pc off lv t
  | .if_icmp k off => ex_pi st fun y t => ex_pi t fun x u => ex_br (ex_cmp k x y) pc off lv u
  | .ifnull off => ex_pn st fun x t => ex_br x.isNone pc off lv t
  | .ifnonnull off => ex_pn st fun x t => ex_br x.isSome pc off lv t
  | .goto off => ex_to pc off lv st
  | .tableswitch dflt lo hi offs => ex_pi st fun x t => ex_sw x pc dflt lo hi offs lv t
  | _ => none
/-- a field's value -/
def ex_fv (G : ex_G) (h : ex_Hp) (c a k : Nat) : Value := if ex_fk G c k = 2 then va_rf (h.2.2.2 a k) else .int (h.2.2.1 a k)
def ex_wI (I : ex_Mem) (a k : Nat) (x : Int32) : ex_Mem := fun b j => if b = a ∧ j = k then x else I b j
def ex_wP (P : ex_Pm) (a k : Nat) (x : Option Nat) : ex_Pm := fun b j => if b = a ∧ j = k then x else P b j
def ex_cI (I : ex_Mem) (a : Nat) : ex_Mem := fun b j => if b = a then 0 else I b j
def ex_cP (P : ex_Pm) (a : Nat) : ex_Pm := fun b j => if b = a then none else P b j
def ex_copy (I : ex_Mem) (a0 sp a dp n : Nat) : ex_Mem := fun b j => if b = a then va_cpy (I a0) (I a) sp dp n j else I b j
def ex_hI (h : ex_Hp) (a k : Nat) (x : Int32) : ex_Hp := (h.1, h.2.1, ex_wI h.2.2.1 a k x, h.2.2.2)
def ex_hP (h : ex_Hp) (a k : Nat) (x : Option Nat) : ex_Hp := (h.1, h.2.1, h.2.2.1, ex_wP h.2.2.2 a k x)
def ex_hN (h : ex_Hp) (n : Nat) : ex_Hp := (h.1 + 1, h.2.1 + n, ex_cI h.2.2.1 h.1, ex_cP h.2.2.2 h.1)
def ex_b01 (x : Int32) : Bool := decide (x = 0 ∨ x = 1)
/-- the index is within -/
def ex_in (i : Int32) (n : Nat) : Bool := decide (¬ (i < 0 ∨ n ≤ i.toNatClampNeg))
abbrev ex_Mr : Type := List Value × ex_Hp
def ex_mem (G : ex_G) (L : Nat) (xs : Nat → Int32) (d mi : Nat) (st : List Value) (h : ex_Hp) (ins : Instr) : Option ex_Mr := match ins with
  | .getfield i => match ex_look (ex_lt G (ex_ow G mi)) i with
    | some (tag, c, k, _) => if tag ≤ 1 then ex_pa st fun a t => if a < h.1 ∧ ex_kd G a = (0, c) ∧ k < ex_nf G c then some (ex_fv G h c a k :: t, h) else none else none
    | none => none
  | .putfield i => match ex_look (ex_lt G (ex_ow G mi)) i with
    | some (tag, c, k, z) => if (tag = 0 ∨ tag = 1 ∧ z = 0) ∧ (z = 0 ∨ z = 1 ∧ ex_ow G mi = c ∧ ex_rt G mi = 5) then
        (if ex_fk G c k = 2 then ex_pn st fun v t => ex_pa t fun a u => if a < h.1 ∧ ex_kd G a = (0, c) ∧ k < ex_nf G c then some (u, ex_hP h a k v) else none
         else ex_pi st fun v t => ex_pa t fun a u => if a < h.1 ∧ ex_kd G a = (0, c) ∧ k < ex_nf G c ∧ (ex_fk G c k = 0 ∨ ex_fk G c k = 1 ∧ ex_b01 v = true) then some (u, ex_hI h a k v) else none)
        else none
    | none => none
  | .iaload => ex_pi st fun i t => ex_pa t fun a u => if a = ex_scr then (if ex_in i (L - 1) = true then some (.int (xs i.toNatClampNeg) :: u, h) else none)
      else if a < h.1 ∧ (ex_kd G a).1 = 1 ∧ ex_in i (ex_kd G a).2 = true then some (.int (h.2.2.1 a i.toNatClampNeg) :: u, h) else none
  | .baload => ex_pi st fun i t => ex_pa t fun a u => if a < h.1 ∧ (ex_kd G a).1 = 2 ∧ ex_in i (ex_kd G a).2 = true then some (.int (h.2.2.1 a i.toNatClampNeg) :: u, h) else none
  | .aaload => ex_pi st fun i t => ex_pa t fun a u => if a < h.1 ∧ 3 ≤ (ex_kd G a).1 ∧ ex_in i (ex_kd G a).2 = true then some (va_rf (h.2.2.2 a i.toNatClampNeg) :: u, h) else none
  | .iastore => ex_pi st fun x s => ex_pi s fun i t => ex_pa t fun a u => if a < h.1 ∧ (ex_kd G a).1 = 1 ∧ ex_in i (ex_kd G a).2 = true then some (u, ex_hI h a i.toNatClampNeg x) else none
  | .bastore => ex_pi st fun x s => ex_pi s fun i t => ex_pa t fun a u => if a < h.1 ∧ (ex_kd G a).1 = 2 ∧ ex_in i (ex_kd G a).2 = true ∧ ex_b01 x = true then some (u, ex_hI h a i.toNatClampNeg x) else none
  | .aastore => ex_pa st fun x s => ex_pi s fun i t => ex_pa t fun a u => if a < h.1 ∧ x < h.1 ∧ (ex_kd G a).1 = 3 + (ex_kd G x).2 ∧ (ex_kd G x).1 = 0 ∧ ex_in i (ex_kd G a).2 = true then some (u, ex_hP h a i.toNatClampNeg (some x)) else none
  | .arraylength => ex_pa st fun a u => if a = ex_scr then (if L = 0 then none else some (.int (nI (L - 1)) :: u, h))
      else if a < h.1 ∧ 1 ≤ (ex_kd G a).1 then some (.int (nI (ex_kd G a).2) :: u, h) else none
  | .newarray ty => ex_pi st fun n u => if ¬ n < 0 ∧ n.toNatClampNeg ≤ 1000 ∧ h.1 < ex_scr ∧ (ty = .int ∧ ex_kd G h.1 = (1, n.toNatClampNeg) ∨ ty = .boolean ∧ ex_kd G h.1 = (2, n.toNatClampNeg)) then some (.ref h.1 :: u, ex_hN h n.toNatClampNeg) else none
  | .anewarray i => match ex_look (ex_lt G (ex_ow G mi)) i with
    | some (tag, c, k, _) => ex_pi st fun n u => if (tag = 9 ∧ k = 1) ∧ ¬ n < 0 ∧ n.toNatClampNeg ≤ 1000 ∧ h.1 < ex_scr ∧ ex_kd G h.1 = (3 + c, n.toNatClampNeg) then some (.ref h.1 :: u, ex_hN h n.toNatClampNeg) else none
    | none => none
  | .new i => match ex_look (ex_lt G (ex_ow G mi)) i with
    | some (tag, c, _, _) => if tag = 9 ∧ h.1 < ex_scr ∧ ex_kd G h.1 = (0, c) then some (.ref h.1 :: st, ex_hN h (ex_nf G c)) else none
    | none => none
  | .ldc i => match ex_look (ex_lt G (ex_ow G mi)) i with
    | some (tag, _, _, z) => if tag = 11 then some (.int (Int32.ofInt z) :: st, h) else none
    | none => none
  | .ldc_w i => match ex_look (ex_lt G (ex_ow G mi)) i with
    | some (tag, _, _, z) => if tag = 11 then some (.int (Int32.ofInt z) :: st, h) else none
    | none => none
  | .ldc2_w i => match ex_look (ex_lt G (ex_ow G mi)) i with
    | some (tag, _, _, z) => if tag = 12 then some (.long (Int64.ofInt z) :: st, h) else none
    | none => none
  | .invokespecial i => match ex_look (ex_lt G (ex_ow G mi)) i with
    | some (tag, _, _, _) => if tag = 8 ∧ 1 ≤ d then ex_pa st fun _ u => if (u.map fun v => v.category).sum ≤ 8 then some (u, h) else none else none
    | none => none
  | .invokestatic i => match ex_look (ex_lt G (ex_ow G mi)) i with
    | some (tag, _, _, _) => if tag = 13 ∧ 1 ≤ d then ex_pi st fun n s1 => ex_pi s1 fun dp s2 => ex_pa s2 fun a s3 => ex_pi s3 fun sp s4 => ex_pa s4 fun a0 u =>
        if (u.map fun v => v.category).sum ≤ 8 ∧ a < h.1 ∧ a0 < h.1 ∧ (ex_kd G a).1 = 1 ∧ (ex_kd G a0).1 = 1 ∧ ¬ sp < 0 ∧ ¬ dp < 0 ∧ ¬ n < 0 ∧ sp.toNatClampNeg + n.toNatClampNeg ≤ (ex_kd G a0).2 ∧ dp.toNatClampNeg + n.toNatClampNeg ≤ (ex_kd G a).2
        then some (u, h.1, h.2.1, ex_copy h.2.2.1 a0 sp.toNatClampNeg a dp.toNatClampNeg n.toNatClampNeg, h.2.2.2) else none
      else if tag = 14 ∧ 1 ≤ d then ex_pi st fun y s1 => ex_pi s1 fun x u => if (u.map fun v => v.category).sum ≤ 8 then some (.int (if x < y then y else x) :: u, h) else none else none
    | none => none
  | _ => none
/-- a call: the callee's number, its arguments, the rest of the stack -/
abbrev ex_Cl : Type := Nat × List Value × List Value
def ex_fit (G : ex_G) (y : Nat) (as : List Value) : Bool := decide ((as.map fun v => v.category).sum ≤ ex_mx G y)
def ex_args (n : Nat) (st : List Value) : Option (List Value × List Value) := if n ≤ st.length then some ((st.take n).reverse, st.drop n) else none
def ex_call (G : ex_G) (mi : Nat) (st : List Value) (h : ex_Hp) (ins : Instr) : Option ex_Cl := match ins with
  | .invokevirtual i => match ex_look (ex_lt G (ex_ow G mi)) i with
    | some (tag, y, n, _) => if tag = 2 ∨ tag = 3 then match ex_args n st with
      | some (as, t) => ex_pa t fun a u => if a < h.1 ∧ ex_kd G a = (0, ex_ow G y) ∧ (u.map fun v => v.category).sum ≤ 8 ∧ ex_fit G y (.ref a :: as) = true then some (y, .ref a :: as, u) else none
      | none => none
      else none
    | none => none
  | .invokespecial i => match ex_look (ex_lt G (ex_ow G mi)) i with
    | some (tag, y, n, _) => if tag = 6 ∨ tag = 7 then match ex_args n st with
      | some (as, t) => ex_pa t fun a u => if (u.map fun v => v.category).sum ≤ 8 ∧ ex_fit G y (.ref a :: as) = true then some (y, .ref a :: as, u) else none
      | none => none
      else none
    | none => none
  | .invokestatic i => match ex_look (ex_lt G (ex_ow G mi)) i with
    | some (tag, y, n, _) => if tag = 4 ∨ tag = 5 then match ex_args n st with
      | some (as, u) => if (u.map fun v => v.category).sum ≤ 8 ∧ ex_fit G y as = true then some (y, as, u) else none
      | none => none
      else none
    | none => none
  | _ => none
def ex_ret (G : ex_G) (mi : Nat) (st : List Value) (ins : Instr) : Option (Option Value) := match ins with
  | .ireturn => match st with
    | [.int x] => if ex_rt G mi = 1 ∨ ex_rt G mi = 2 ∧ ex_b01 x = true then some (some (.int x)) else none
    | _ => none
  | .lreturn => match st with
    | [.long x] => if ex_rt G mi = 3 then some (some (.long x)) else none
    | _ => none
  | .areturn => match st with
    | [.ref a] => if ex_rt G mi = 4 then some (some (.ref a)) else none
    | [.null] => if ex_rt G mi = 4 then some (some .null) else none
    | _ => none
  | .return_ => match st with
    | [] => if ex_rt G mi = 0 ∨ ex_rt G mi = 5 then some none else none
    | _ => none
  | _ => none
/-- a step that stays in the method -/
def ex_step (G : ex_G) (L : Nat) (xs : Nat → Int32) (d mi pc : Nat) (lv st : List Value) (h : ex_Hp) (ins : Instr) : Option (ex_Pr × ex_Hp) := match ex_pure pc lv st ins with
  | some r => some (r, h)
  | none => match ex_mem G L xs d mi st h ins with
    | some (t, h') => if h.1 ≤ h'.1 ∧ h.2.1 ≤ h'.2.1 then some ((pc + ex_len ins, lv, t), h') else none
    | none => none
def ex_run (G : ex_G) (L : Nat) (xs : Nat → Int32) : Nat → Nat → Nat → Nat → List Value → List Value → ex_Hp → Option (Option Value × ex_Hp)
  | 0, _, _, _, _, _, _ => none
  | f + 1, d, mi, pc, lv, st, h => match ex_look (ex_cd G mi) pc with
    | none => none
    | some ins => match ex_step G L xs d mi pc lv st h ins with
      | some ((pc', lv', st'), h') => ex_run G L xs f d mi pc' lv' st' h'
      | none => match ex_ret G mi st ins with
        | some r => some (r, h)
        | none => match ex_call G mi st h ins with
          | none => none
          | some (y, as, u) => match d with
            | 0 => none
            | d' + 1 => match ex_run G L xs f d' y 0 (ex_ent (ex_mx G y) as) [] h with
              | none => none
              | some (r, h') => ex_run G L xs f (d' + 1) mi (pc + 3) lv (r.toList ++ u) h'
