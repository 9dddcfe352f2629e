section
def lw_okq (q : MethodName × Nat) : Prop := (q.1.cls ≠ "java/lang/invoke/MethodHandle" ∧ q.1.cls ≠ "java/lang/invoke/VarHandle") ∧ Cond.instantiable q.1.cls q.2 ∈ tables_1 ∧ Cond.privateMethod q.1 ∈ tables_1 ∧ Cond.instanceMethod q.1 ∈ tables_1
theorem lw_p0 : lw_okq (⟨"CommandBuses$Table", "bestPhase", "(LCommandBuses$Message;)I"⟩, 5) := ⟨⟨by decide +kernel, by decide +kernel⟩, List.mem_of_getElem? (i := 134) (by decide +kernel), List.mem_of_getElem? (i := 368) (by decide +kernel), List.mem_of_getElem? (i := 369) (by decide +kernel)⟩
theorem lw_p1 : lw_okq (⟨"CommandBuses$Table", "greatestLoad", "(LCommandBuses$Message;I)I"⟩, 5) := ⟨⟨by decide +kernel, by decide +kernel⟩, List.mem_of_getElem? (i := 134) (by decide +kernel), List.mem_of_getElem? (i := 372) (by decide +kernel), List.mem_of_getElem? (i := 373) (by decide +kernel)⟩
theorem lw_p2 : lw_okq (⟨"CommandBuses$Table", "addLength", "(LCommandBuses$Message;)V"⟩, 5) := ⟨⟨by decide +kernel, by decide +kernel⟩, List.mem_of_getElem? (i := 134) (by decide +kernel), List.mem_of_getElem? (i := 383) (by decide +kernel), List.mem_of_getElem? (i := 384) (by decide +kernel)⟩
theorem lw_p3 : lw_okq (⟨"CommandBuses$Message", "statuses", "()I"⟩, 9) := ⟨⟨by decide +kernel, by decide +kernel⟩, List.mem_of_getElem? (i := 299) (by decide +kernel), List.mem_of_getElem? (i := 391) (by decide +kernel), List.mem_of_getElem? (i := 392) (by decide +kernel)⟩
theorem lw_p4 : lw_okq (⟨"CommandBuses$Message", "commands", "()I"⟩, 9) := ⟨⟨by decide +kernel, by decide +kernel⟩, List.mem_of_getElem? (i := 299) (by decide +kernel), List.mem_of_getElem? (i := 395) (by decide +kernel), List.mem_of_getElem? (i := 396) (by decide +kernel)⟩
theorem lw_p5 : lw_okq (⟨"CommandBuses$Message", "dataWords", "()I"⟩, 9) := ⟨⟨by decide +kernel, by decide +kernel⟩, List.mem_of_getElem? (i := 299) (by decide +kernel), List.mem_of_getElem? (i := 399) (by decide +kernel), List.mem_of_getElem? (i := 400) (by decide +kernel)⟩
theorem lw_p6 : lw_okq (⟨"CommandBuses", "pollDropped", "()V"⟩, 5) := ⟨⟨by decide +kernel, by decide +kernel⟩, List.mem_of_getElem? (i := 17) (by decide +kernel), List.mem_of_getElem? (i := 432) (by decide +kernel), List.mem_of_getElem? (i := 433) (by decide +kernel)⟩
theorem lw_p7 : lw_okq (⟨"CommandBuses$Controller", "modeGoesWell", "(LCommandBuses$Terminal;II)Z"⟩, 3) := ⟨⟨by decide +kernel, by decide +kernel⟩, List.mem_of_getElem? (i := 25) (by decide +kernel), List.mem_of_getElem? (i := 440) (by decide +kernel), List.mem_of_getElem? (i := 441) (by decide +kernel)⟩
theorem lw_p8 : lw_okq (⟨"CommandBuses$Wires", "nextHit", "(I)I"⟩, 3) := ⟨⟨by decide +kernel, by decide +kernel⟩, List.mem_of_getElem? (i := 33) (by decide +kernel), List.mem_of_getElem? (i := 457) (by decide +kernel), List.mem_of_getElem? (i := 458) (by decide +kernel)⟩
theorem lw_p9 : lw_okq (⟨"CommandBuses$Terminal", "clearMarks", "()V"⟩, 11) := ⟨⟨by decide +kernel, by decide +kernel⟩, List.mem_of_getElem? (i := 70) (by decide +kernel), List.mem_of_getElem? (i := 471) (by decide +kernel), List.mem_of_getElem? (i := 472) (by decide +kernel)⟩
theorem lw_p10 : lw_okq (⟨"CommandBuses$Terminal", "changeBy", "(II)V"⟩, 11) := ⟨⟨by decide +kernel, by decide +kernel⟩, List.mem_of_getElem? (i := 70) (by decide +kernel), List.mem_of_getElem? (i := 476) (by decide +kernel), List.mem_of_getElem? (i := 477) (by decide +kernel)⟩
theorem lw_p11 : lw_okq (⟨"CommandBuses$Controller", "goesWell", "(LCommandBuses$Message;I)Z"⟩, 3) := ⟨⟨by decide +kernel, by decide +kernel⟩, List.mem_of_getElem? (i := 25) (by decide +kernel), List.mem_of_getElem? (i := 499) (by decide +kernel), List.mem_of_getElem? (i := 500) (by decide +kernel)⟩
theorem lw_p12 : lw_okq (⟨"CommandBuses$Controller", "giveGoesWell", "(LCommandBuses$Message;I)Z"⟩, 3) := ⟨⟨by decide +kernel, by decide +kernel⟩, List.mem_of_getElem? (i := 25) (by decide +kernel), List.mem_of_getElem? (i := 503) (by decide +kernel), List.mem_of_getElem? (i := 504) (by decide +kernel)⟩
theorem lw_p13 : lw_okq (⟨"CommandBuses$Controller", "takeGoesWell", "(LCommandBuses$Message;I)Z"⟩, 3) := ⟨⟨by decide +kernel, by decide +kernel⟩, List.mem_of_getElem? (i := 25) (by decide +kernel), List.mem_of_getElem? (i := 522) (by decide +kernel), List.mem_of_getElem? (i := 523) (by decide +kernel)⟩
theorem lw_p14 : lw_okq (⟨"CommandBuses$Controller", "passGoesWell", "(LCommandBuses$Message;I)Z"⟩, 3) := ⟨⟨by decide +kernel, by decide +kernel⟩, List.mem_of_getElem? (i := 25) (by decide +kernel), List.mem_of_getElem? (i := 529) (by decide +kernel), List.mem_of_getElem? (i := 530) (by decide +kernel)⟩
theorem lw_p15 : lw_okq (⟨"CommandBuses$Controller", "tellAll", "(LCommandBuses$Message;I)V"⟩, 3) := ⟨⟨by decide +kernel, by decide +kernel⟩, List.mem_of_getElem? (i := 25) (by decide +kernel), List.mem_of_getElem? (i := 533) (by decide +kernel), List.mem_of_getElem? (i := 534) (by decide +kernel)⟩
def lw_privs_1 : List (MethodName × Nat) := [(⟨"CommandBuses$Table", "bestPhase", "(LCommandBuses$Message;)I"⟩, 5), (⟨"CommandBuses$Table", "greatestLoad", "(LCommandBuses$Message;I)I"⟩, 5), (⟨"CommandBuses$Table", "addLength", "(LCommandBuses$Message;)V"⟩, 5), (⟨"CommandBuses$Message", "statuses", "()I"⟩, 9), (⟨"CommandBuses$Message", "commands", "()I"⟩, 9), (⟨"CommandBuses$Message", "dataWords", "()I"⟩, 9), (⟨"CommandBuses", "pollDropped", "()V"⟩, 5), (⟨"CommandBuses$Controller", "modeGoesWell", "(LCommandBuses$Terminal;II)Z"⟩, 3), (⟨"CommandBuses$Wires", "nextHit", "(I)I"⟩, 3), (⟨"CommandBuses$Terminal", "clearMarks", "()V"⟩, 11), (⟨"CommandBuses$Terminal", "changeBy", "(II)V"⟩, 11), (⟨"CommandBuses$Controller", "goesWell", "(LCommandBuses$Message;I)Z"⟩, 3), (⟨"CommandBuses$Controller", "giveGoesWell", "(LCommandBuses$Message;I)Z"⟩, 3), (⟨"CommandBuses$Controller", "takeGoesWell", "(LCommandBuses$Message;I)Z"⟩, 3), (⟨"CommandBuses$Controller", "passGoesWell", "(LCommandBuses$Message;I)Z"⟩, 3), (⟨"CommandBuses$Controller", "tellAll", "(LCommandBuses$Message;I)V"⟩, 3)]
theorem lw_r1 : ∀ q ∈ lw_privs_1, lw_okq q := List.forall_mem_cons.mpr ⟨lw_p0, List.forall_mem_cons.mpr ⟨lw_p1, List.forall_mem_cons.mpr ⟨lw_p2, List.forall_mem_cons.mpr ⟨lw_p3, List.forall_mem_cons.mpr ⟨lw_p4, List.forall_mem_cons.mpr ⟨lw_p5, List.forall_mem_cons.mpr ⟨lw_p6, List.forall_mem_cons.mpr ⟨lw_p7, List.forall_mem_cons.mpr ⟨lw_p8, List.forall_mem_cons.mpr ⟨lw_p9, List.forall_mem_cons.mpr ⟨lw_p10, List.forall_mem_cons.mpr ⟨lw_p11, List.forall_mem_cons.mpr ⟨lw_p12, List.forall_mem_cons.mpr ⟨lw_p13, List.forall_mem_cons.mpr ⟨lw_p14, List.forall_mem_cons.mpr ⟨lw_p15, fun _ h => absurd h List.not_mem_nil⟩⟩⟩⟩⟩⟩⟩⟩⟩⟩⟩⟩⟩⟩⟩⟩
theorem lw_p16 : lw_okq (⟨"CommandBuses$Controller", "modeMessageGoesWell", "(LCommandBuses$Message;I)Z"⟩, 3) := ⟨⟨by decide +kernel, by decide +kernel⟩, List.mem_of_getElem? (i := 25) (by decide +kernel), List.mem_of_getElem? (i := 537) (by decide +kernel), List.mem_of_getElem? (i := 538) (by decide +kernel)⟩
theorem lw_p17 : lw_okq (⟨"CommandBusesModel", "statusOf", "(I)I"⟩, 34) := ⟨⟨by decide +kernel, by decide +kernel⟩, List.mem_of_getElem? (i := 569) (by decide +kernel), List.mem_of_getElem? (i := 730) (by decide +kernel), List.mem_of_getElem? (i := 731) (by decide +kernel)⟩
theorem lw_p18 : lw_okq (⟨"CommandBusesModel", "isMessage", "(I)Z"⟩, 34) := ⟨⟨by decide +kernel, by decide +kernel⟩, List.mem_of_getElem? (i := 569) (by decide +kernel), List.mem_of_getElem? (i := 745) (by decide +kernel), List.mem_of_getElem? (i := 746) (by decide +kernel)⟩
theorem lw_p19 : lw_okq (⟨"CommandBusesModel", "worst", "(II)I"⟩, 34) := ⟨⟨by decide +kernel, by decide +kernel⟩, List.mem_of_getElem? (i := 569) (by decide +kernel), List.mem_of_getElem? (i := 757) (by decide +kernel), List.mem_of_getElem? (i := 758) (by decide +kernel)⟩
theorem lw_p20 : lw_okq (⟨"CommandBusesModel", "loadOf", "(II)I"⟩, 34) := ⟨⟨by decide +kernel, by decide +kernel⟩, List.mem_of_getElem? (i := 569) (by decide +kernel), List.mem_of_getElem? (i := 761) (by decide +kernel), List.mem_of_getElem? (i := 762) (by decide +kernel)⟩
theorem lw_p21 : lw_okq (⟨"CommandBusesModel", "isIn", "(II)Z"⟩, 34) := ⟨⟨by decide +kernel, by decide +kernel⟩, List.mem_of_getElem? (i := 569) (by decide +kernel), List.mem_of_getElem? (i := 765) (by decide +kernel), List.mem_of_getElem? (i := 766) (by decide +kernel)⟩
theorem lw_p22 : lw_okq (⟨"CommandBusesModel", "lengthOf", "(I)I"⟩, 34) := ⟨⟨by decide +kernel, by decide +kernel⟩, List.mem_of_getElem? (i := 569) (by decide +kernel), List.mem_of_getElem? (i := 769) (by decide +kernel), List.mem_of_getElem? (i := 770) (by decide +kernel)⟩
theorem lw_p23 : lw_okq (⟨"CommandBusesModel", "poll", "()V"⟩, 34) := ⟨⟨by decide +kernel, by decide +kernel⟩, List.mem_of_getElem? (i := 569) (by decide +kernel), List.mem_of_getElem? (i := 789) (by decide +kernel), List.mem_of_getElem? (i := 790) (by decide +kernel)⟩
theorem lw_p24 : lw_okq (⟨"CommandBusesModel", "commands", "(IIII)Z"⟩, 34) := ⟨⟨by decide +kernel, by decide +kernel⟩, List.mem_of_getElem? (i := 569) (by decide +kernel), List.mem_of_getElem? (i := 793) (by decide +kernel), List.mem_of_getElem? (i := 794) (by decide +kernel)⟩
theorem lw_p25 : lw_okq (⟨"CommandBusesModel", "put", "(IZI)I"⟩, 34) := ⟨⟨by decide +kernel, by decide +kernel⟩, List.mem_of_getElem? (i := 569) (by decide +kernel), List.mem_of_getElem? (i := 800) (by decide +kernel), List.mem_of_getElem? (i := 801) (by decide +kernel)⟩
theorem lw_p26 : lw_okq (⟨"CommandBusesModel", "hears", "(IIIZZ)Z"⟩, 34) := ⟨⟨by decide +kernel, by decide +kernel⟩, List.mem_of_getElem? (i := 569) (by decide +kernel), List.mem_of_getElem? (i := 806) (by decide +kernel), List.mem_of_getElem? (i := 807) (by decide +kernel)⟩
theorem lw_p27 : lw_okq (⟨"CommandBusesModel", "saysStatus", "(II)I"⟩, 34) := ⟨⟨by decide +kernel, by decide +kernel⟩, List.mem_of_getElem? (i := 569) (by decide +kernel), List.mem_of_getElem? (i := 810) (by decide +kernel), List.mem_of_getElem? (i := 811) (by decide +kernel)⟩
theorem lw_p28 : lw_okq (⟨"CommandBusesModel", "says", "(IIZI)I"⟩, 34) := ⟨⟨by decide +kernel, by decide +kernel⟩, List.mem_of_getElem? (i := 569) (by decide +kernel), List.mem_of_getElem? (i := 814) (by decide +kernel), List.mem_of_getElem? (i := 815) (by decide +kernel)⟩
theorem lw_p29 : lw_okq (⟨"CommandBusesModel", "isAside", "(I)Z"⟩, 34) := ⟨⟨by decide +kernel, by decide +kernel⟩, List.mem_of_getElem? (i := 569) (by decide +kernel), List.mem_of_getElem? (i := 818) (by decide +kernel), List.mem_of_getElem? (i := 819) (by decide +kernel)⟩
theorem lw_p30 : lw_okq (⟨"CommandBusesModel", "isOf", "(II)Z"⟩, 34) := ⟨⟨by decide +kernel, by decide +kernel⟩, List.mem_of_getElem? (i := 569) (by decide +kernel), List.mem_of_getElem? (i := 822) (by decide +kernel), List.mem_of_getElem? (i := 823) (by decide +kernel)⟩
theorem lw_p31 : lw_okq (⟨"CommandBusesModel", "does", "(I)V"⟩, 34) := ⟨⟨by decide +kernel, by decide +kernel⟩, List.mem_of_getElem? (i := 569) (by decide +kernel), List.mem_of_getElem? (i := 826) (by decide +kernel), List.mem_of_getElem? (i := 827) (by decide +kernel)⟩
def lw_privs_2 : List (MethodName × Nat) := [(⟨"CommandBuses$Controller", "modeMessageGoesWell", "(LCommandBuses$Message;I)Z"⟩, 3), (⟨"CommandBusesModel", "statusOf", "(I)I"⟩, 34), (⟨"CommandBusesModel", "isMessage", "(I)Z"⟩, 34), (⟨"CommandBusesModel", "worst", "(II)I"⟩, 34), (⟨"CommandBusesModel", "loadOf", "(II)I"⟩, 34), (⟨"CommandBusesModel", "isIn", "(II)Z"⟩, 34), (⟨"CommandBusesModel", "lengthOf", "(I)I"⟩, 34), (⟨"CommandBusesModel", "poll", "()V"⟩, 34), (⟨"CommandBusesModel", "commands", "(IIII)Z"⟩, 34), (⟨"CommandBusesModel", "put", "(IZI)I"⟩, 34), (⟨"CommandBusesModel", "hears", "(IIIZZ)Z"⟩, 34), (⟨"CommandBusesModel", "saysStatus", "(II)I"⟩, 34), (⟨"CommandBusesModel", "says", "(IIZI)I"⟩, 34), (⟨"CommandBusesModel", "isAside", "(I)Z"⟩, 34), (⟨"CommandBusesModel", "isOf", "(II)Z"⟩, 34), (⟨"CommandBusesModel", "does", "(I)V"⟩, 34)]
theorem lw_r2 : ∀ q ∈ lw_privs_2, lw_okq q := List.forall_mem_cons.mpr ⟨lw_p16, List.forall_mem_cons.mpr ⟨lw_p17, List.forall_mem_cons.mpr ⟨lw_p18, List.forall_mem_cons.mpr ⟨lw_p19, List.forall_mem_cons.mpr ⟨lw_p20, List.forall_mem_cons.mpr ⟨lw_p21, List.forall_mem_cons.mpr ⟨lw_p22, List.forall_mem_cons.mpr ⟨lw_p23, List.forall_mem_cons.mpr ⟨lw_p24, List.forall_mem_cons.mpr ⟨lw_p25, List.forall_mem_cons.mpr ⟨lw_p26, List.forall_mem_cons.mpr ⟨lw_p27, List.forall_mem_cons.mpr ⟨lw_p28, List.forall_mem_cons.mpr ⟨lw_p29, List.forall_mem_cons.mpr ⟨lw_p30, List.forall_mem_cons.mpr ⟨lw_p31, fun _ h => absurd h List.not_mem_nil⟩⟩⟩⟩⟩⟩⟩⟩⟩⟩⟩⟩⟩⟩⟩⟩
theorem lw_p32 : lw_okq (⟨"CommandBusesModel", "attempt", "(II)Z"⟩, 34) := ⟨⟨by decide +kernel, by decide +kernel⟩, List.mem_of_getElem? (i := 569) (by decide +kernel), List.mem_of_getElem? (i := 830) (by decide +kernel), List.mem_of_getElem? (i := 831) (by decide +kernel)⟩
theorem lw_p33 : lw_okq (⟨"CommandBusesModel", "gives", "(II)Z"⟩, 34) := ⟨⟨by decide +kernel, by decide +kernel⟩, List.mem_of_getElem? (i := 569) (by decide +kernel), List.mem_of_getElem? (i := 834) (by decide +kernel), List.mem_of_getElem? (i := 835) (by decide +kernel)⟩
theorem lw_p34 : lw_okq (⟨"CommandBusesModel", "dataWord", "(II)V"⟩, 34) := ⟨⟨by decide +kernel, by decide +kernel⟩, List.mem_of_getElem? (i := 569) (by decide +kernel), List.mem_of_getElem? (i := 838) (by decide +kernel), List.mem_of_getElem? (i := 839) (by decide +kernel)⟩
theorem lw_p35 : lw_okq (⟨"CommandBusesModel", "takes", "(IIIZ)Z"⟩, 34) := ⟨⟨by decide +kernel, by decide +kernel⟩, List.mem_of_getElem? (i := 569) (by decide +kernel), List.mem_of_getElem? (i := 842) (by decide +kernel), List.mem_of_getElem? (i := 843) (by decide +kernel)⟩
theorem lw_p36 : lw_okq (⟨"CommandBusesModel", "passes", "(II)Z"⟩, 34) := ⟨⟨by decide +kernel, by decide +kernel⟩, List.mem_of_getElem? (i := 569) (by decide +kernel), List.mem_of_getElem? (i := 846) (by decide +kernel), List.mem_of_getElem? (i := 847) (by decide +kernel)⟩
theorem lw_p37 : lw_okq (⟨"CommandBusesModel", "answers", "(IIII)Z"⟩, 34) := ⟨⟨by decide +kernel, by decide +kernel⟩, List.mem_of_getElem? (i := 569) (by decide +kernel), List.mem_of_getElem? (i := 850) (by decide +kernel), List.mem_of_getElem? (i := 851) (by decide +kernel)⟩
theorem lw_p38 : lw_okq (⟨"CommandBusesModel", "note", "(I)V"⟩, 34) := ⟨⟨by decide +kernel, by decide +kernel⟩, List.mem_of_getElem? (i := 569) (by decide +kernel), List.mem_of_getElem? (i := 854) (by decide +kernel), List.mem_of_getElem? (i := 855) (by decide +kernel)⟩
def lw_privs_3 : List (MethodName × Nat) := [(⟨"CommandBusesModel", "attempt", "(II)Z"⟩, 34), (⟨"CommandBusesModel", "gives", "(II)Z"⟩, 34), (⟨"CommandBusesModel", "dataWord", "(II)V"⟩, 34), (⟨"CommandBusesModel", "takes", "(IIIZ)Z"⟩, 34), (⟨"CommandBusesModel", "passes", "(II)Z"⟩, 34), (⟨"CommandBusesModel", "answers", "(IIII)Z"⟩, 34), (⟨"CommandBusesModel", "note", "(I)V"⟩, 34)]
theorem lw_r3 : ∀ q ∈ lw_privs_3, lw_okq q := List.forall_mem_cons.mpr ⟨lw_p32, List.forall_mem_cons.mpr ⟨lw_p33, List.forall_mem_cons.mpr ⟨lw_p34, List.forall_mem_cons.mpr ⟨lw_p35, List.forall_mem_cons.mpr ⟨lw_p36, List.forall_mem_cons.mpr ⟨lw_p37, List.forall_mem_cons.mpr ⟨lw_p38, fun _ h => absurd h List.not_mem_nil⟩⟩⟩⟩⟩⟩⟩
def lw_privs : List (MethodName × Nat) := lw_privs_1 ++ (lw_privs_2 ++ (lw_privs_3))
def lw_tbl : List Cond := k2_sels lw_privs ++ tables_1
theorem lw_privs_ok : ∀ q ∈ lw_privs, lw_okq q := by
  show ∀ q ∈ lw_privs_1 ++ (lw_privs_2 ++ (lw_privs_3)), lw_okq q
  exact List.forall_mem_append.mpr ⟨lw_r1, List.forall_mem_append.mpr ⟨lw_r2, lw_r3⟩⟩
end
section
/-! an interpreter of my own over an abstract heap: addresses are numbers of making; G: the program's tables -/
abbrev ex_Mem : Type := Nat → Nat → Int32
abbrev ex_Pm : Type := Nat → Nat → Option Nat
/-- size, slots, ints, references -/
abbrev ex_Hp : Type := Nat × Nat × ex_Mem × ex_Pm
/-- a link: tag, two numbers, a constant -/
abbrev ex_Lk : Type := Nat × Nat × Nat × Int
/-- code, maxLocals, kind of answer, owner's number, links of an owner, number of fields, kinds of fields, kinds of cells -/
abbrev ex_G : Type := (Nat → List (Nat × Instr)) × (Nat → Nat) × (Nat → Nat) × (Nat → Nat) × (Nat → List (Nat × ex_Lk)) × (Nat → Nat) × (Nat → Nat → Nat) × (Nat → Nat × Nat)
def ex_cd (G : ex_G) : Nat → List (Nat × Instr) := G.1
def ex_mx (G : ex_G) : Nat → Nat := G.2.1
def ex_rt (G : ex_G) : Nat → Nat := G.2.2.1
def ex_ow (G : ex_G) : Nat → Nat := G.2.2.2.1
def ex_lt (G : ex_G) : Nat → List (Nat × ex_Lk) := G.2.2.2.2.1
def ex_nf (G : ex_G) : Nat → Nat := G.2.2.2.2.2.1
def ex_fk (G : ex_G) : Nat → Nat → Nat := G.2.2.2.2.2.2.1
def ex_kd (G : ex_G) : Nat → Nat × Nat := G.2.2.2.2.2.2.2
def ex_look {α : Type} : List (Nat × α) → Nat → Option α
  | [], _ => none
  | q :: t, i => if q.1 = i then some q.2 else ex_look t i
/-- no value is known here -/
def ex_no : Value := .retAddr 0
/-- the script's abstract address -/
def ex_scr : Nat := 1000000
def ex_jump (pc : Nat) (off : Int) : Option Nat := match (pc : Int) + off with
  | .ofNat t => some t
  | .negSucc _ => none
def ex_kill (lv : List Value) (i : Nat) : List Value := match i with
  | 0 => lv
  | j + 1 => match lv[j]? with
    | some w => if w.category = 2 then lv.set j ex_no else lv
    | none => lv
def ex_st1 (lv : List Value) (i : Nat) (v : Value) : Option (List Value) := if i < lv.length then some ((ex_kill lv i).set i v) else none
def ex_st2 (lv : List Value) (i : Nat) (v : Value) : Option (List Value) := if i + 1 < lv.length then some (((ex_kill lv i).set i v).set (i + 1) ex_no) else none
def ex_ent : Nat → List Value → List Value
  | n, [] => List.replicate n ex_no
  | n, v :: vs => if v.category = 2 then v :: ex_no :: ex_ent (n - 2) vs else v :: ex_ent (n - 1) vs
/-- a constant by its number -/
def ex_i : Int → Int32
  | .ofNat n => nI n
  | .negSucc n => - nI (n + 1)
def ex_len : Instr → Nat
  | .iload _ | .lload _ | .aload _ | .istore _ | .lstore _ | .astore _ | .bipush _ | .ldc _ | .newarray _ => 2
  | .sipush _ | .iinc _ _ | .ifCond _ _ | .if_icmp _ _ | .ifnull _ | .ifnonnull _ | .goto _ | .getfield _ | .putfield _ | .invokevirtual _ | .invokespecial _ | .invokestatic _ | .new _ | .anewarray _ | .ldc2_w _ | .ldc_w _ => 3
  | .tableswitch _ _ _ _ => 0
  | _ => 1
abbrev ex_Pr : Type := Nat × List Value × List Value
def ex_cmp (k : ClassFile.Cond) (x y : Int32) : Bool := match k with
  | .eq => decide (x = y)
  | .ne => decide (¬ x = y)
  | .lt => decide (x < y)
  | .ge => decide (y ≤ x)
  | .gt => decide (y < x)
  | .le => decide (x ≤ y)
/-- taking from the stack -/
def ex_pi {α : Type} (st : List Value) (k : Int32 → List Value → Option α) : Option α := match st with
  | .int x :: t => k x t
  | _ => none
def ex_pl {α : Type} (st : List Value) (k : Int64 → List Value → Option α) : Option α := match st with
  | .long x :: t => k x t
  | _ => none
def ex_pa {α : Type} (st : List Value) (k : Nat → List Value → Option α) : Option α := match st with
  | .ref a :: t => k a t
  | _ => none
/-- a reference or null -/
def ex_pn {α : Type} (st : List Value) (k : Option Nat → List Value → Option α) : Option α := match st with
  | .ref a :: t => k (some a) t
  | .null :: t => k none t
  | _ => none
/-- a value of one word -/
def ex_p1 {α : Type} (st : List Value) (k : Value → List Value → Option α) : Option α := match st with
  | v :: t => if v.category = 1 then k v t else none
  | _ => none
def ex_to (pc : Nat) (off : Int) (lv st : List Value) : Option ex_Pr := match ex_jump pc off with
  | some t => some (t, lv, st)
  | none => none
def ex_br (c : Bool) (pc : Nat) (off : Int) (lv st : List Value) : Option ex_Pr := match ex_jump pc off with
  | some t => some (if c = true then t else pc + 3, lv, st)
  | none => none
def ex_sw (x : Int32) (pc : Nat) (dflt lo hi : Int) (offs : Array Int) (lv st : List Value) : Option ex_Pr :=
  if x.toInt < lo ∨ hi < x.toInt then ex_to pc dflt lv st else match offs[(x.toInt - lo).toNat]? with
    | some off => ex_to pc off lv st
    | none => none
def ex_go (pc : Nat) (st : List Value) (lv : Option (List Value)) : Option ex_Pr := match lv with
  | some l => some (pc, l, st)
  | none => none
def ex_li (lv : List Value) (i pc : Nat) (st : List Value) : Option ex_Pr := match lv[i]? with
  | some (.int x) => some (pc, lv, .int x :: st)
  | _ => none
def ex_ll (lv : List Value) (i pc : Nat) (st : List Value) : Option ex_Pr := match lv[i]? with
  | some (.long x) => some (pc, lv, .long x :: st)
  | _ => none
def ex_la (lv : List Value) (i pc : Nat) (st : List Value) : Option ex_Pr := match lv[i]? with
  | some (.ref x) => some (pc, lv, .ref x :: st)
  | some .null => some (pc, lv, .null :: st)
  | _ => none
def ex_inc (lv : List Value) (i : Nat) (n : Int) (pc : Nat) (st : List Value) : Option ex_Pr := match lv[i]? with
  | some (.int x) => ex_go pc st (ex_st1 lv i (.int (x + ex_i n)))
  | _ => none
/-- instructions that touch locals and stack alone -/
def ex_pure (pc : Nat) (lv st : List Value) (ins : Instr) : Option ex_Pr := match ins with
  | .iconst n => some (pc + 1, lv, .int (ex_i n) :: st)
  | .bipush n => if -128 ≤ n ∧ n < 128 then some (pc + 2, lv, .int (ex_i n) :: st) else none
  | .sipush n => if -32768 ≤ n ∧ n < 32768 then some (pc + 3, lv, .int (ex_i n) :: st) else none
  | .lconst n => some (pc + 1, lv, .long (Int64.ofNat n) :: st)
  | .aconst_null => some (pc + 1, lv, .null :: st)
  | .iload i => ex_li lv i (pc + 2) st
  | .iload_n i => ex_li lv i (pc + 1) st
  | .lload i => ex_ll lv i (pc + 2) st
  | .lload_n i => ex_ll lv i (pc + 1) st
  | .aload i => ex_la lv i (pc + 2) st
  | .aload_n i => ex_la lv i (pc + 1) st
  | .istore i => ex_pi st fun x t => ex_go (pc + 2) t (ex_st1 lv i (.int x))
  | .istore_n i => ex_pi st fun x t => ex_go (pc + 1) t (ex_st1 lv i (.int x))
  | .lstore i => ex_pl st fun x t => ex_go (pc + 2) t (ex_st2 lv i (.long x))
  | .lstore_n i => ex_pl st fun x t => ex_go (pc + 1) t (ex_st2 lv i (.long x))
  | .astore i => ex_pn st fun x t => ex_go (pc + 2) t (ex_st1 lv i (va_rf x))
  | .astore_n i => ex_pn st fun x t => ex_go (pc + 1) t (ex_st1 lv i (va_rf x))
  | .iinc i n => ex_inc lv i n (pc + 3) st
  | .iadd => ex_pi st fun y t => ex_pi t fun x u => some (pc + 1, lv, .int (x + y) :: u)
  | .isub => ex_pi st fun y t => ex_pi t fun x u => some (pc + 1, lv, .int (x - y) :: u)
  | .imul => ex_pi st fun y t => ex_pi t fun x u => some (pc + 1, lv, .int (x * y) :: u)
  | .iand => ex_pi st fun y t => ex_pi t fun x u => some (pc + 1, lv, .int (x &&& y) :: u)
  | .irem => ex_pi st fun y t => ex_pi t fun x u => if y = 0 then none else some (pc + 1, lv, .int (x - x / y * y) :: u)
  | .ishr => ex_pi st fun y t => ex_pi t fun x u => some (pc + 1, lv, .int (x >>> (y &&& 31)) :: u)
  | .iushr => ex_pi st fun y t => ex_pi t fun x u => some (pc + 1, lv, .int ((x.toUInt32 >>> (y.toUInt32 &&& Int32.toUInt32 31)).toInt32) :: u)
  | .ladd => ex_pl st fun y t => ex_pl t fun x u => some (pc + 1, lv, .long (x + y) :: u)
  | .lmul => ex_pl st fun y t => ex_pl t fun x u => some (pc + 1, lv, .long (x * y) :: u)
  | .land => ex_pl st fun y t => ex_pl t fun x u => some (pc + 1, lv, .long (x &&& y) :: u)
  | .lor => ex_pl st fun y t => ex_pl t fun x u => some (pc + 1, lv, .long (x ||| y) :: u)
  | .lshl => ex_pi st fun y t => ex_pl t fun x u => some (pc + 1, lv, .long (x <<< (y.toInt64 &&& 63)) :: u)
  | .lshr => ex_pi st fun y t => ex_pl t fun x u => some (pc + 1, lv, .long (x >>> (y.toInt64 &&& 63)) :: u)
  | .lcmp => ex_pl st fun y t => ex_pl t fun x u => some (pc + 1, lv, .int (lg_cmp x y) :: u)
  | .i2l => ex_pi st fun x t => some (pc + 1, lv, .long x.toInt64 :: t)
  | .l2i => ex_pl st fun x t => some (pc + 1, lv, .int x.toInt32 :: t)
  | .dup => ex_p1 st fun v t => some (pc + 1, lv, v :: v :: t)
  | .dup2 => ex_p1 st fun v t => ex_p1 t fun w u => some (pc + 1, lv, v :: w :: v :: w :: u)
  | .pop => ex_p1 st fun _ t => some (pc + 1, lv, t)
  | .ifCond k off => ex_pi st fun x t => ex_br (ex_cmp k x 0) pc off lv t
  | .if_icmp k off => ex_pi st fun y t => ex_pi t fun x u => ex_br (ex_cmp k x y) pc off lv u
  | .ifnull off => ex_pn st fun x t => ex_br x.isNone pc off lv t
  | .ifnonnull off => ex_pn st fun x t => ex_br x.isSome pc off lv t
  | .goto off => ex_to pc off lv st
  | .tableswitch dflt lo hi offs => ex_pi st fun x t => ex_sw x pc dflt lo hi offs lv t
  | _ => none
/-- a field's value -/
def ex_fv (G : ex_G) (h : ex_Hp) (c a k : Nat) : Value := if ex_fk G c k = 2 then va_rf (h.2.2.2 a k) else .int (h.2.2.1 a k)
def ex_wI (I : ex_Mem) (a k : Nat) (x : Int32) : ex_Mem := fun b j => if b = a ∧ j = k then x else I b j
def ex_wP (P : ex_Pm) (a k : Nat) (x : Option Nat) : ex_Pm := fun b j => if b = a ∧ j = k then x else P b j
def ex_cI (I : ex_Mem) (a : Nat) : ex_Mem := fun b j => if b = a then 0 else I b j
def ex_cP (P : ex_Pm) (a : Nat) : ex_Pm := fun b j => if b = a then none else P b j
def ex_copy (I : ex_Mem) (a0 sp a dp n : Nat) : ex_Mem := fun b j => if b = a then va_cpy (I a0) (I a) sp dp n j else I b j
def ex_hI (h : ex_Hp) (a k : Nat) (x : Int32) : ex_Hp := (h.1, h.2.1, ex_wI h.2.2.1 a k x, h.2.2.2)
def ex_hP (h : ex_Hp) (a k : Nat) (x : Option Nat) : ex_Hp := (h.1, h.2.1, h.2.2.1, ex_wP h.2.2.2 a k x)
def ex_hN (h : ex_Hp) (n : Nat) : ex_Hp := (h.1 + 1, h.2.1 + n, ex_cI h.2.2.1 h.1, ex_cP h.2.2.2 h.1)
def ex_b01 (x : Int32) : Bool := decide (x = 0 ∨ x = 1)
/-- the index is within -/
def ex_in (i : Int32) (n : Nat) : Bool := decide (¬ (i < 0 ∨ n ≤ i.toNatClampNeg))
abbrev ex_Mr : Type := List Value × ex_Hp
def ex_mem (G : ex_G) (L : Nat) (xs : Nat → Int32) (d mi : Nat) (st : List Value) (h : ex_Hp) (ins : Instr) : Option ex_Mr := match ins with
  | .getfield i => match ex_look (ex_lt G (ex_ow G mi)) i with
    | some (tag, c, k, _) => if tag ≤ 1 then ex_pa st fun a t => if a < h.1 ∧ ex_kd G a = (0, c) ∧ k < ex_nf G c then some (ex_fv G h c a k :: t, h) else none else none
    | none => none
  | .putfield i => match ex_look (ex_lt G (ex_ow G mi)) i with
    | some (tag, c, k, z) => if (tag = 0 ∨ tag = 1 ∧ z = 0) ∧ (z = 0 ∨ z = 1 ∧ ex_ow G mi = c ∧ ex_rt G mi = 5) then
        (if ex_fk G c k = 2 then ex_pn st fun v t => ex_pa t fun a u => if a < h.1 ∧ ex_kd G a = (0, c) ∧ k < ex_nf G c then some (u, ex_hP h a k v) else none
         else ex_pi st fun v t => ex_pa t fun a u => if a < h.1 ∧ ex_kd G a = (0, c) ∧ k < ex_nf G c ∧ (ex_fk G c k = 0 ∨ ex_fk G c k = 1 ∧ ex_b01 v = true) then some (u, ex_hI h a k v) else none)
        else none
    | none => none
  | .iaload => ex_pi st fun i t => ex_pa t fun a u => if a = ex_scr then (if ex_in i (L - 1) = true then some (.int (xs i.toNatClampNeg) :: u, h) else none)
      else if a < h.1 ∧ (ex_kd G a).1 = 1 ∧ ex_in i (ex_kd G a).2 = true then some (.int (h.2.2.1 a i.toNatClampNeg) :: u, h) else none
  | .baload => ex_pi st fun i t => ex_pa t fun a u => if a < h.1 ∧ (ex_kd G a).1 = 2 ∧ ex_in i (ex_kd G a).2 = true then some (.int (h.2.2.1 a i.toNatClampNeg) :: u, h) else none
  | .aaload => ex_pi st fun i t => ex_pa t fun a u => if a < h.1 ∧ 3 ≤ (ex_kd G a).1 ∧ ex_in i (ex_kd G a).2 = true then some (va_rf (h.2.2.2 a i.toNatClampNeg) :: u, h) else none
  | .iastore => ex_pi st fun x s => ex_pi s fun i t => ex_pa t fun a u => if a < h.1 ∧ (ex_kd G a).1 = 1 ∧ ex_in i (ex_kd G a).2 = true then some (u, ex_hI h a i.toNatClampNeg x) else none
  | .bastore => ex_pi st fun x s => ex_pi s fun i t => ex_pa t fun a u => if a < h.1 ∧ (ex_kd G a).1 = 2 ∧ ex_in i (ex_kd G a).2 = true ∧ ex_b01 x = true then some (u, ex_hI h a i.toNatClampNeg x) else none
  | .aastore => ex_pa st fun x s => ex_pi s fun i t => ex_pa t fun a u => if a < h.1 ∧ x < h.1 ∧ (ex_kd G a).1 = 3 + (ex_kd G x).2 ∧ (ex_kd G x).1 = 0 ∧ ex_in i (ex_kd G a).2 = true then some (u, ex_hP h a i.toNatClampNeg (some x)) else none
  | .arraylength => ex_pa st fun a u => if a = ex_scr then (if L = 0 then none else some (.int (nI (L - 1)) :: u, h))
      else if a < h.1 ∧ 1 ≤ (ex_kd G a).1 then some (.int (nI (ex_kd G a).2) :: u, h) else none
  | .newarray ty => ex_pi st fun n u => if ¬ n < 0 ∧ n.toNatClampNeg ≤ 1000 ∧ h.1 < ex_scr ∧ (ty = .int ∧ ex_kd G h.1 = (1, n.toNatClampNeg) ∨ ty = .boolean ∧ ex_kd G h.1 = (2, n.toNatClampNeg)) then some (.ref h.1 :: u, ex_hN h n.toNatClampNeg) else none
  | .anewarray i => match ex_look (ex_lt G (ex_ow G mi)) i with
    | some (tag, c, k, _) => ex_pi st fun n u => if (tag = 9 ∧ k = 1) ∧ ¬ n < 0 ∧ n.toNatClampNeg ≤ 1000 ∧ h.1 < ex_scr ∧ ex_kd G h.1 = (3 + c, n.toNatClampNeg) then some (.ref h.1 :: u, ex_hN h n.toNatClampNeg) else none
    | none => none
  | .new i => match ex_look (ex_lt G (ex_ow G mi)) i with
    | some (tag, c, _, _) => if tag = 9 ∧ h.1 < ex_scr ∧ ex_kd G h.1 = (0, c) then some (.ref h.1 :: st, ex_hN h (ex_nf G c)) else none
    | none => none
  | .ldc i => match ex_look (ex_lt G (ex_ow G mi)) i with
    | some (tag, _, _, z) => if tag = 11 then some (.int (Int32.ofInt z) :: st, h) else none
    | none => none
  | .ldc_w i => match ex_look (ex_lt G (ex_ow G mi)) i with
    | some (tag, _, _, z) => if tag = 11 then some (.int (Int32.ofInt z) :: st, h) else none
    | none => none
  | .ldc2_w i => match ex_look (ex_lt G (ex_ow G mi)) i with
    | some (tag, _, _, z) => if tag = 12 then some (.long (Int64.ofInt z) :: st, h) else none
    | none => none
  | .invokespecial i => match ex_look (ex_lt G (ex_ow G mi)) i with
    | some (tag, _, _, _) => if tag = 8 ∧ 1 ≤ d then ex_pa st fun _ u => if (u.map fun v => v.category).sum ≤ 8 then some (u, h) else none else none
    | none => none
  | .invokestatic i => match ex_look (ex_lt G (ex_ow G mi)) i with
    | some (tag, _, _, _) => if tag = 13 ∧ 1 ≤ d then ex_pi st fun n s1 => ex_pi s1 fun dp s2 => ex_pa s2 fun a s3 => ex_pi s3 fun sp s4 => ex_pa s4 fun a0 u =>
        if (u.map fun v => v.category).sum ≤ 8 ∧ a < h.1 ∧ a0 < h.1 ∧ (ex_kd G a).1 = 1 ∧ (ex_kd G a0).1 = 1 ∧ ¬ sp < 0 ∧ ¬ dp < 0 ∧ ¬ n < 0 ∧ sp.toNatClampNeg + n.toNatClampNeg ≤ (ex_kd G a0).2 ∧ dp.toNatClampNeg + n.toNatClampNeg ≤ (ex_kd G a).2
        then some (u, h.1, h.2.1, ex_copy h.2.2.1 a0 sp.toNatClampNeg a dp.toNatClampNeg n.toNatClampNeg, h.2.2.2) else none
      else if tag = 14 ∧ 1 ≤ d then ex_pi st fun y s1 => ex_pi s1 fun x u => if (u.map fun v => v.category).sum ≤ 8 then some (.int (if x < y then y else x) :: u, h) else none else none
    | none => none
  | _ => none
/-- a call: the callee's number, its arguments, the rest of the stack -/
abbrev ex_Cl : Type := Nat × List Value × List Value
def ex_fit (G : ex_G) (y : Nat) (as : List Value) : Bool := decide ((as.map fun v => v.category).sum ≤ ex_mx G y)
def ex_args (n : Nat) (st : List Value) : Option (List Value × List Value) := if n ≤ st.length then some ((st.take n).reverse, st.drop n) else none
def ex_call (G : ex_G) (mi : Nat) (st : List Value) (h : ex_Hp) (ins : Instr) : Option ex_Cl := match ins with
  | .invokevirtual i => match ex_look (ex_lt G (ex_ow G mi)) i with
    | some (tag, y, n, _) => if tag = 2 ∨ tag = 3 then match ex_args n st with
      | some (as, t) => ex_pa t fun a u => if a < h.1 ∧ ex_kd G a = (0, ex_ow G y) ∧ (u.map fun v => v.category).sum ≤ 8 ∧ ex_fit G y (.ref a :: as) = true then some (y, .ref a :: as, u) else none
      | none => none
      else none
    | none => none
  | .invokespecial i => match ex_look (ex_lt G (ex_ow G mi)) i with
    | some (tag, y, n, _) => if tag = 6 ∨ tag = 7 then match ex_args n st with
      | some (as, t) => ex_pa t fun a u => if (u.map fun v => v.category).sum ≤ 8 ∧ ex_fit G y (.ref a :: as) = true then some (y, .ref a :: as, u) else none
      | none => none
      else none
    | none => none
  | .invokestatic i => match ex_look (ex_lt G (ex_ow G mi)) i with
    | some (tag, y, n, _) => if tag = 4 ∨ tag = 5 then match ex_args n st with
      | some (as, u) => if (u.map fun v => v.category).sum ≤ 8 ∧ ex_fit G y as = true then some (y, as, u) else none
      | none => none
      else none
    | none => none
  | _ => none
def ex_ret (G : ex_G) (mi : Nat) (st : List Value) (ins : Instr) : Option (Option Value) := match ins with
  | .ireturn => match st with
    | [.int x] => if ex_rt G mi = 1 ∨ ex_rt G mi = 2 ∧ ex_b01 x = true then some (some (.int x)) else none
    | _ => none
  | .lreturn => match st with
    | [.long x] => if ex_rt G mi = 3 then some (some (.long x)) else none
    | _ => none
  | .areturn => match st with
    | [.ref a] => if ex_rt G mi = 4 then some (some (.ref a)) else none
    | [.null] => if ex_rt G mi = 4 then some (some .null) else none
    | _ => none
  | .return_ => match st with
    | [] => if ex_rt G mi = 0 ∨ ex_rt G mi = 5 then some none else none
    | _ => none
  | _ => none
/-- a step that stays in the method -/
def ex_step (G : ex_G) (L : Nat) (xs : Nat → Int32) (d mi pc : Nat) (lv st : List Value) (h : ex_Hp) (ins : Instr) : Option (ex_Pr × ex_Hp) := match ex_pure pc lv st ins with
  | some r => some (r, h)
  | none => match ex_mem G L xs d mi st h ins with
    | some (t, h') => if h.1 ≤ h'.1 ∧ h.2.1 ≤ h'.2.1 then some ((pc + ex_len ins, lv, t), h') else none
    | none => none
def ex_run (G : ex_G) (L : Nat) (xs : Nat → Int32) : Nat → Nat → Nat → Nat → List Value → List Value → ex_Hp → Option (Option Value × ex_Hp)
  | 0, _, _, _, _, _, _ => none
  | f + 1, d, mi, pc, lv, st, h => match ex_look (ex_cd G mi) pc with
    | none => none
    | some ins => match ex_step G L xs d mi pc lv st h ins with
      | some ((pc', lv', st'), h') => ex_run G L xs f d mi pc' lv' st' h'
      | none => match ex_ret G mi st ins with
        | some r => some (r, h)
        | none => match ex_call G mi st h ins with
          | none => none
          | some (y, as, u) => match d with
            | 0 => none
            | d' + 1 => match ex_run G L xs f d' y 0 (ex_ent (ex_mx G y) as) [] h with
              | none => none
              | some (r, h') => ex_run G L xs f (d' + 1) mi (pc + 3) lv (r.toList ++ u) h'
end
section
/-- what an abstract value is on the machine -/
def ex_rv (ad : Nat → Nat) : Value → Value
  | .ref a => .ref (ad a)
  | v => v
theorem ex_rv_cat (ad : Nat → Nat) (v : Value) : (ex_rv ad v).category = v.category := by cases v <;> rfl
theorem ex_rv_rf (ad : Nat → Nat) (r : Option Nat) : ex_rv ad (va_rf r) = va_rf (r.map ad) := by cases r <;> rfl
def ex_kn (ad : Nat → Nat) (lv : List Value) : List (Nat × Value) := (List.range lv.length).filterMap fun j => match lv[j]? with
  | some w => if w = ex_no then none else some (j, ex_rv ad w)
  | none => none
theorem ex_kn_of {ad : Nat → Nat} {lv : List Value} {j : Nat} {w : Value} (h : lv[j]? = some w) (hw : w ≠ ex_no) : (j, ex_rv ad w) ∈ ex_kn ad lv := by
  refine List.mem_filterMap.mpr ⟨j, List.mem_range.mpr (List.getElem?_eq_some_iff.mp h).1, ?_⟩
  rw [h]
  exact if_neg hw
theorem ex_kn_to {ad : Nat → Nat} {lv : List Value} {q : Nat × Value} (h : q ∈ ex_kn ad lv) : ∃ w, lv[q.1]? = some w ∧ w ≠ ex_no ∧ q.2 = ex_rv ad w := by
  obtain ⟨j, -, h2⟩ := List.mem_filterMap.mp h
  cases hj : lv[j]? with
  | none => rw [hj] at h2; cases h2
  | some w =>
    rw [hj] at h2
    by_cases hw : w = ex_no
    · simp [hw] at h2
    · simp only [if_neg hw] at h2
      cases h2
      exact ⟨w, hj, hw, rfl⟩
/-- the machine's locals hold what is known -/
def ex_LV (ad : Nat → Nat) (ls : Array Slot) (nL : Nat) (lv : List Value) : Prop := lv.length = nL ∧ lv_has ls nL (ex_kn ad lv)
theorem ex_LV.get {ad : Nat → Nat} {ls : Array Slot} {nL : Nat} {lv : List Value} (h : ex_LV ad ls nL lv) {i : Nat} {w : Value} (hi : lv[i]? = some w) (hw : w ≠ ex_no) : ls[i]? = some (.val (ex_rv ad w)) := h.2.2.2 (i, _) (ex_kn_of hi hw)
theorem ex_kill_len (lv : List Value) (i : Nat) : (ex_kill lv i).length = lv.length := by
  cases i with
  | zero => rfl
  | succ k =>
    show (match lv[k]? with | some w => if w.category = 2 then lv.set k ex_no else lv | none => lv).length = _
    cases lv[k]? with
    | none => rfl
    | some w =>
      show (if w.category = 2 then lv.set k ex_no else lv).length = _
      split
      · simp
      · rfl
theorem ex_kill_get {lv : List Value} {i j : Nat} {w : Value} (h : (ex_kill lv i)[j]? = some w) (hw : w ≠ ex_no) : lv[j]? = some w ∧ ¬ (j + 1 = i ∧ w.category = 2) := by
  cases i with
  | zero => exact ⟨h, fun q => by omega⟩
  | succ k =>
    have h : (match lv[k]? with | some w => if w.category = 2 then lv.set k ex_no else lv | none => lv)[j]? = some w := h
    cases hk : lv[k]? with
    | none =>
      rw [hk] at h
      have h : lv[j]? = some w := h
      refine ⟨h, fun q => ?_⟩
      have : j = k := by omega
      subst this
      rw [hk] at h; cases h
    | some w0 =>
      rw [hk] at h
      have h : (if w0.category = 2 then lv.set k ex_no else lv)[j]? = some w := h
      by_cases hc : w0.category = 2
      · rw [if_pos hc, List.getElem?_set] at h
        by_cases hj : k = j
        · rw [if_pos hj] at h
          split at h
          · cases h; exact absurd rfl hw
          · cases h
        · rw [if_neg hj] at h
          exact ⟨h, fun q => by omega⟩
      · rw [if_neg hc] at h
        refine ⟨h, fun q => ?_⟩
        have hjk : j = k := by omega
        rw [hjk, hk] at h
        cases h
        exact hc q.2
theorem ex_LV_st1 {ad : Nat → Nat} {ls' : Array Slot} {nL i : Nat} {lv lv' : List Value} {v : Value} (h0 : lv.length = nL) (h : ex_st1 lv i v = some lv')
    (hs : lv_has ls' nL ((i, ex_rv ad v) :: (ex_kn ad lv).filter (fun q => !(q.1 == i) && !(q.1 + 1 == i && q.2.category == 2)))) : ex_LV ad ls' nL lv' := by
  unfold ex_st1 at h
  split at h
  · rename_i hi
    cases h
    refine ⟨by rw [List.length_set, ex_kill_len]; exact h0, hs.1, hs.2.1, fun q hq => hs.2.2 q ?_⟩
    obtain ⟨w, h1, h2, h3⟩ := ex_kn_to hq
    obtain ⟨j, u⟩ := q
    dsimp only at h1 h3
    subst h3
    rw [List.getElem?_set] at h1
    by_cases hj : i = j
    · rw [if_pos hj] at h1
      split at h1
      · cases h1; subst hj; exact List.mem_cons_self
      · cases h1
    · rw [if_neg hj] at h1
      obtain ⟨g1, g2⟩ := ex_kill_get h1 h2
      refine List.mem_cons_of_mem _ (List.mem_filter.mpr ⟨ex_kn_of g1 h2, ?_⟩)
      simp only [ex_rv_cat]
      by_cases hj1 : j + 1 = i
      · have : ¬ w.category = 2 := fun q => g2 ⟨hj1, q⟩
        simp [this, Ne.symm hj]
      · simp [hj1, Ne.symm hj]
  · cases h
theorem ex_LV_st2 {ad : Nat → Nat} {ls' : Array Slot} {nL i : Nat} {lv lv' : List Value} {v : Value} (h0 : lv.length = nL) (h : ex_st2 lv i v = some lv')
    (hs : lv_has ls' nL ((i, ex_rv ad v) :: (ex_kn ad lv).filter (fun q => !(q.1 == i) && (!(q.1 == i + 1) && !(q.1 + 1 == i && q.2.category == 2))))) : ex_LV ad ls' nL lv' := by
  unfold ex_st2 at h
  split at h
  · rename_i hi
    cases h
    refine ⟨by rw [List.length_set, List.length_set, ex_kill_len]; exact h0, hs.1, hs.2.1, fun q hq => hs.2.2 q ?_⟩
    obtain ⟨w, h1, h2, h3⟩ := ex_kn_to hq
    obtain ⟨j, u⟩ := q
    dsimp only at h1 h3
    subst h3
    rw [List.getElem?_set] at h1
    by_cases hj2 : i + 1 = j
    · rw [if_pos hj2] at h1
      split at h1
      · cases h1; exact absurd rfl h2
      · cases h1
    · rw [if_neg hj2, List.getElem?_set] at h1
      by_cases hj : i = j
      · rw [if_pos hj] at h1
        split at h1
        · cases h1; subst hj; exact List.mem_cons_self
        · cases h1
      · rw [if_neg hj] at h1
        obtain ⟨g1, g2⟩ := ex_kill_get h1 h2
        refine List.mem_cons_of_mem _ (List.mem_filter.mpr ⟨ex_kn_of g1 h2, ?_⟩)
        simp only [ex_rv_cat]
        by_cases hj1 : j + 1 = i
        · have : ¬ w.category = 2 := fun q => g2 ⟨hj1, q⟩
          simp [this, Ne.symm hj, Ne.symm hj2]
        · simp [hj1, Ne.symm hj, Ne.symm hj2]
  · cases h
theorem ex_st1_lt {lv lv' : List Value} {i : Nat} {v : Value} (h : ex_st1 lv i v = some lv') : i < lv.length := by
  unfold ex_st1 at h
  split at h
  · assumption
  · cases h
theorem ex_st2_lt {lv lv' : List Value} {i : Nat} {v : Value} (h : ex_st2 lv i v = some lv') : i + 1 < lv.length := by
  unfold ex_st2 at h
  split at h
  · assumption
  · cases h
theorem ex_pi_some {α : Type} {st : List Value} {k : Int32 → List Value → Option α} {r : α} (h : ex_pi st k = some r) : ∃ x t, st = .int x :: t ∧ k x t = some r := by
  unfold ex_pi at h
  split at h
  · exact ⟨_, _, rfl, h⟩
  · cases h
theorem ex_pl_some {α : Type} {st : List Value} {k : Int64 → List Value → Option α} {r : α} (h : ex_pl st k = some r) : ∃ x t, st = .long x :: t ∧ k x t = some r := by
  unfold ex_pl at h
  split at h
  · exact ⟨_, _, rfl, h⟩
  · cases h
theorem ex_pa_some {α : Type} {st : List Value} {k : Nat → List Value → Option α} {r : α} (h : ex_pa st k = some r) : ∃ x t, st = .ref x :: t ∧ k x t = some r := by
  unfold ex_pa at h
  split at h
  · exact ⟨_, _, rfl, h⟩
  · cases h
theorem ex_pn_some {α : Type} {st : List Value} {k : Option Nat → List Value → Option α} {r : α} (h : ex_pn st k = some r) : ∃ x t, st = va_rf x :: t ∧ k x t = some r := by
  unfold ex_pn at h
  split at h
  · exact ⟨some _, _, rfl, h⟩
  · exact ⟨none, _, rfl, h⟩
  · cases h
theorem ex_p1_some {α : Type} {st : List Value} {k : Value → List Value → Option α} {r : α} (h : ex_p1 st k = some r) : ∃ v t, st = v :: t ∧ v.category = 1 ∧ k v t = some r := by
  unfold ex_p1 at h
  split at h
  · split at h
    · exact ⟨_, _, rfl, ‹_›, h⟩
    · cases h
  · cases h
theorem ex_jump_some {pc t : Nat} {off : Int} (h : ex_jump pc off = some t) : (pc : Int) + off = (t : Int) := by
  unfold ex_jump at h
  split at h
  · rename_i q hq
    cases h
    exact hq
  · cases h
theorem ex_to_some {pc : Nat} {off : Int} {lv st lv' st' : List Value} {pc' : Nat} (h : ex_to pc off lv st = some (pc', lv', st')) : (pc : Int) + off = (pc' : Int) ∧ lv' = lv ∧ st' = st := by
  unfold ex_to at h
  split at h
  · rename_i t ht
    cases h
    exact ⟨ex_jump_some ht, rfl, rfl⟩
  · cases h
theorem ex_br_some {b : Bool} {pc : Nat} {off : Int} {lv st lv' st' : List Value} {pc' : Nat} (h : ex_br b pc off lv st = some (pc', lv', st')) : ∃ t : Nat, (pc : Int) + off = (t : Int) ∧ pc' = (if b = true then t else pc + 3) ∧ lv' = lv ∧ st' = st := by
  unfold ex_br at h
  split at h
  · rename_i t ht
    cases h
    exact ⟨t, ex_jump_some ht, rfl, rfl, rfl⟩
  · cases h
theorem ex_go_some {pc : Nat} {st lv' st' : List Value} {o : Option (List Value)} {pc' : Nat} (h : ex_go pc st o = some (pc', lv', st')) : o = some lv' ∧ pc' = pc ∧ st' = st := by
  unfold ex_go at h
  split at h
  · cases h; exact ⟨rfl, rfl, rfl⟩
  · cases h
theorem ex_li_some {pc i : Nat} {lv st lv' st' : List Value} {pc' : Nat} (h : ex_li lv i pc st = some (pc', lv', st')) : ∃ x, lv[i]? = some (.int x) ∧ pc' = pc ∧ lv' = lv ∧ st' = .int x :: st := by
  unfold ex_li at h
  split at h
  · cases h; exact ⟨_, ‹_›, rfl, rfl, rfl⟩
  · cases h
theorem ex_ll_some {pc i : Nat} {lv st lv' st' : List Value} {pc' : Nat} (h : ex_ll lv i pc st = some (pc', lv', st')) : ∃ x, lv[i]? = some (.long x) ∧ pc' = pc ∧ lv' = lv ∧ st' = .long x :: st := by
  unfold ex_ll at h
  split at h
  · cases h; exact ⟨_, ‹_›, rfl, rfl, rfl⟩
  · cases h
theorem ex_la_some {pc i : Nat} {lv st lv' st' : List Value} {pc' : Nat} (h : ex_la lv i pc st = some (pc', lv', st')) : ∃ x, lv[i]? = some (va_rf x) ∧ pc' = pc ∧ lv' = lv ∧ st' = va_rf x :: st := by
  unfold ex_la at h
  split at h
  · cases h; exact ⟨some _, ‹_›, rfl, rfl, rfl⟩
  · cases h; exact ⟨none, ‹_›, rfl, rfl, rfl⟩
  · cases h
theorem ex_inc_some {pc i : Nat} {n : Int} {lv st lv' st' : List Value} {pc' : Nat} (h : ex_inc lv i n pc st = some (pc', lv', st')) : ∃ x, lv[i]? = some (.int x) ∧ ex_st1 lv i (.int (x + ex_i n)) = some lv' ∧ pc' = pc ∧ st' = st := by
  unfold ex_inc at h
  split at h
  · obtain ⟨h1, h2, h3⟩ := ex_go_some h
    exact ⟨_, ‹_›, h1, h2, h3⟩
  · cases h
theorem ex_i_int (n : Int) : Int32.ofInt n = ex_i n := by
  cases n with
  | ofNat k => rfl
  | negSucc k =>
    show Int32.ofInt (-((k + 1 : Nat) : Int)) = - nI (k + 1)
    rw [Int32.ofInt_neg]
    rfl
theorem ex_i_byte {n : Int} (h : -128 ≤ n ∧ n < 128) : (Int8.ofInt n).toInt32 = ex_i n := by
  rw [← ex_i_int]
  apply Int32.toInt_inj.mp
  rw [Int8.toInt_toInt32, Int8.toInt_ofInt_of_le (by have := h.1; simpa using this) (by have := h.2; simpa using this), Int32.toInt_ofInt_of_le (by have := h.1; simp; omega) (by have := h.2; simp; omega)]
theorem ex_i_short {n : Int} (h : -32768 ≤ n ∧ n < 32768) : (Int16.ofInt n).toInt32 = ex_i n := by
  rw [← ex_i_int]
  apply Int32.toInt_inj.mp
  rw [Int16.toInt_toInt32, Int16.toInt_ofInt_of_le (by have := h.1; simpa using this) (by have := h.2; simpa using this), Int32.toInt_ofInt_of_le (by have := h.1; simp; omega) (by have := h.2; simp; omega)]
/-- the bytes say what the table says -/
def ex_dec (cc : ByteArray) (pc : Nat) (ins : Instr) : Prop := match ins with
  | .tableswitch a b c d => ∃ n, decode cc pc = .ok (.tableswitch a b c d, n)
  | i => decode cc pc = .ok (i, ex_len i)
section EXP
variable {p : Program} {l : Launch} {e : Env} {R : Room} {s : State} {m : MethodId} {args : Array Value} {below : List Frame} {meth : Method} {c : Code} {H : Heap} {locs : List Loc} {cells slots : Nat} {Q : State → Prop}
variable {cc : ByteArray} {ls : Array Slot} {nL : Nat} {ad : Nat → Nat}
theorem ex_W_st1 {pc' i : Nat} {v : Value} {lv lv' t : List Value} (hl : ex_LV ad ls nL lv) (ho : ex_st1 lv i v = some lv') (hc : v.category = 1)
    (kk : ∀ ls', ex_LV ad ls' nL lv' → W p l e R s m args below meth c H locs cells slots Q (F0 m pc' ls' (t.map (ex_rv ad)))) :
    ∀ ls' : Array Slot, lv_has ls' nL ((i, ex_rv ad v) :: (ex_kn ad lv).filter (fun q => !(q.1 == i) && !(q.1 + 1 == i && q.2.category == 2))) → W p l e R s m args below meth c H locs cells slots Q (F0 m pc' ls' (t.map (ex_rv ad))) :=
  fun ls' h => kk ls' (ex_LV_st1 hl.1 ho h)
set_option maxHeartbeats 4000000 in
theorem ex_pure_ok (hexec : p.tables.exec = Jvm.exec) (hb : c.code = cc) {pc pc' : Nat} {lv st lv' st' : List Value} {ins : Instr} (hx : ex_pure pc lv st ins = some (pc', lv', st')) (hd : ex_dec cc pc ins) (hl : ex_LV ad ls nL lv)
    (kk : ∀ ls', ex_LV ad ls' nL lv' → W p l e R s m args below meth c H locs cells slots Q (F0 m pc' ls' (st'.map (ex_rv ad)))) :
    W p l e R s m args below meth c H locs cells slots Q (F0 m pc ls (st.map (ex_rv ad))) := by
  cases ins with
  | iconst n => cases hx; exact lv_iconst hexec hb hd (ex_i_int n) (kk ls hl)
  | bipush n =>
    have hx : (if -128 ≤ n ∧ n < 128 then some (pc + 2, lv, .int (ex_i n) :: st) else none) = some (pc', lv', st') := hx
    split at hx
    · rename_i hr; cases hx; exact lv_bipush hexec hb hd (ex_i_byte hr) (kk ls hl)
    · cases hx
  | sipush n =>
    have hx : (if -32768 ≤ n ∧ n < 32768 then some (pc + 3, lv, .int (ex_i n) :: st) else none) = some (pc', lv', st') := hx
    split at hx
    · rename_i hr; cases hx; exact lv_sipush hexec hb hd (ex_i_short hr) (kk ls hl)
    · cases hx
  | lconst n => cases hx; exact lv_lconst hexec hb hd rfl (kk ls hl)
  | aconst_null => cases hx; exact lv_null hexec hb hd (kk ls hl)
  | iload i =>
    obtain ⟨x, h1, rfl, rfl, rfl⟩ := ex_li_some (show ex_li lv i (pc + 2) st = _ from hx)
    exact lv_iload hexec hb hd (hl.get h1 (fun q => by cases q)) (kk ls hl)
  | iload_n i =>
    obtain ⟨x, h1, rfl, rfl, rfl⟩ := ex_li_some (show ex_li lv i (pc + 1) st = _ from hx)
    exact lv_iload_n hexec hb hd rfl (hl.get h1 (fun q => by cases q)) (kk ls hl)
  | lload i =>
    obtain ⟨x, h1, rfl, rfl, rfl⟩ := ex_ll_some (show ex_ll lv i (pc + 2) st = _ from hx)
    exact lv_lload hexec hb hd (hl.get h1 (fun q => by cases q)) (kk ls hl)
  | lload_n i =>
    obtain ⟨x, h1, rfl, rfl, rfl⟩ := ex_ll_some (show ex_ll lv i (pc + 1) st = _ from hx)
    exact lv_lload_n hexec hb hd rfl (hl.get h1 (fun q => by cases q)) (kk ls hl)
  | aload i =>
    obtain ⟨x, h1, rfl, rfl, rfl⟩ := ex_la_some (show ex_la lv i (pc + 2) st = _ from hx)
    cases x with
    | none => exact lv_aloadN hexec hb hd (hl.get h1 (fun q => by cases q)) (kk ls hl)
    | some a => exact lv_aload hexec hb hd (hl.get h1 (fun q => by cases q)) (kk ls hl)
  | aload_n i =>
    obtain ⟨x, h1, rfl, rfl, rfl⟩ := ex_la_some (show ex_la lv i (pc + 1) st = _ from hx)
    cases x with
    | none => exact lv_aload_nN hexec hb hd rfl (hl.get h1 (fun q => by cases q)) (kk ls hl)
    | some a => exact lv_aload_n hexec hb hd rfl (hl.get h1 (fun q => by cases q)) (kk ls hl)
  | istore i =>
    obtain ⟨x, t, rfl, hx⟩ := ex_pi_some (show ex_pi st _ = some _ from hx)
    obtain ⟨ho, rfl, rfl⟩ := ex_go_some hx
    exact lv_istore hexec hb hd hl.2 (by rw [← hl.1]; exact ex_st1_lt ho) rfl (ex_W_st1 hl ho rfl kk)
  | istore_n i =>
    obtain ⟨x, t, rfl, hx⟩ := ex_pi_some (show ex_pi st _ = some _ from hx)
    obtain ⟨ho, rfl, rfl⟩ := ex_go_some hx
    exact lv_istore_n hexec hb hd rfl hl.2 (by rw [← hl.1]; exact ex_st1_lt ho) rfl (ex_W_st1 hl ho rfl kk)
  | lstore i =>
    obtain ⟨x, t, rfl, hx⟩ := ex_pl_some (show ex_pl st _ = some _ from hx)
    obtain ⟨ho, rfl, rfl⟩ := ex_go_some hx
    exact lv_lstore hexec hb hd hl.2 (by rw [← hl.1]; exact ex_st2_lt ho) rfl (fun ls' h => kk ls' (ex_LV_st2 hl.1 ho h))
  | lstore_n i =>
    obtain ⟨x, t, rfl, hx⟩ := ex_pl_some (show ex_pl st _ = some _ from hx)
    obtain ⟨ho, rfl, rfl⟩ := ex_go_some hx
    exact lv_lstore_n hexec hb hd rfl hl.2 (by rw [← hl.1]; exact ex_st2_lt ho) rfl (fun ls' h => kk ls' (ex_LV_st2 hl.1 ho h))
  | astore i =>
    obtain ⟨x, t, rfl, hx2⟩ := ex_pn_some (show ex_pn st (fun x t => ex_go (pc + 2) t (ex_st1 lv i (va_rf x))) = some _ from hx)
    obtain ⟨ho, rfl, rfl⟩ := ex_go_some hx2
    cases x with
    | none => exact lv_astoreN hexec hb hd hl.2 (by rw [← hl.1]; exact ex_st1_lt ho) rfl (ex_W_st1 hl ho rfl kk)
    | some a => exact lv_astore hexec hb hd hl.2 (by rw [← hl.1]; exact ex_st1_lt ho) rfl (ex_W_st1 hl ho rfl kk)
  | astore_n i =>
    obtain ⟨x, t, rfl, hx2⟩ := ex_pn_some (show ex_pn st (fun x t => ex_go (pc + 1) t (ex_st1 lv i (va_rf x))) = some _ from hx)
    obtain ⟨ho, rfl, rfl⟩ := ex_go_some hx2
    cases x with
    | none => exact lv_astore_nN hexec hb hd rfl hl.2 (by rw [← hl.1]; exact ex_st1_lt ho) rfl (ex_W_st1 hl ho rfl kk)
    | some a => exact lv_astore_n hexec hb hd rfl hl.2 (by rw [← hl.1]; exact ex_st1_lt ho) rfl (ex_W_st1 hl ho rfl kk)
  | iinc i n =>
    obtain ⟨x, h1, ho, rfl, rfl⟩ := ex_inc_some (show ex_inc lv i n (pc + 3) st = _ from hx)
    obtain ⟨k, hk⟩ := List.getElem?_of_mem (ex_kn_of (ad := ad) h1 (fun q => by cases q))
    exact lv_iinc hexec hb hd hl.2 hk (by rw [ex_i_int]) (by rw [← hl.1]; exact ex_st1_lt ho) rfl (ex_W_st1 hl ho rfl kk)
  | iadd =>
    obtain ⟨y, t, rfl, hx⟩ := ex_pi_some (show ex_pi st _ = some _ from hx)
    obtain ⟨x, u, rfl, hx⟩ := ex_pi_some hx
    cases hx; exact lv_iadd hexec hb hd (kk ls hl)
  | isub =>
    obtain ⟨y, t, rfl, hx⟩ := ex_pi_some (show ex_pi st _ = some _ from hx)
    obtain ⟨x, u, rfl, hx⟩ := ex_pi_some hx
    cases hx; exact lv_isub hexec hb hd (kk ls hl)
  | imul =>
    obtain ⟨y, t, rfl, hx⟩ := ex_pi_some (show ex_pi st _ = some _ from hx)
    obtain ⟨x, u, rfl, hx⟩ := ex_pi_some hx
    cases hx; exact lv_imul hexec hb hd (kk ls hl)
  | iand =>
    obtain ⟨y, t, rfl, hx⟩ := ex_pi_some (show ex_pi st _ = some _ from hx)
    obtain ⟨x, u, rfl, hx⟩ := ex_pi_some hx
    cases hx; exact lv_iand hexec hb hd (kk ls hl)
  | irem =>
    obtain ⟨y, t, rfl, hx⟩ := ex_pi_some (show ex_pi st _ = some _ from hx)
    obtain ⟨x, u, rfl, hx⟩ := ex_pi_some hx
    have hx : (if y = 0 then none else some (pc + 1, lv, Value.int (x - x / y * y) :: u)) = some (pc', lv', st') := hx
    split at hx
    · cases hx
    · cases hx; exact lv_irem hexec hb hd ‹_› (kk ls hl)
  | ishr =>
    obtain ⟨y, t, rfl, hx⟩ := ex_pi_some (show ex_pi st _ = some _ from hx)
    obtain ⟨x, u, rfl, hx⟩ := ex_pi_some hx
    cases hx; exact lv_ishr hexec hb hd (kk ls hl)
  | iushr =>
    obtain ⟨y, t, rfl, hx⟩ := ex_pi_some (show ex_pi st _ = some _ from hx)
    obtain ⟨x, u, rfl, hx⟩ := ex_pi_some hx
    cases hx; exact lv_iushr hexec hb hd rfl (kk ls hl)
  | ladd =>
    obtain ⟨y, t, rfl, hx⟩ := ex_pl_some (show ex_pl st _ = some _ from hx)
    obtain ⟨x, u, rfl, hx⟩ := ex_pl_some hx
    cases hx; exact lv_ladd hexec hb hd (kk ls hl)
  | lmul =>
    obtain ⟨y, t, rfl, hx⟩ := ex_pl_some (show ex_pl st _ = some _ from hx)
    obtain ⟨x, u, rfl, hx⟩ := ex_pl_some hx
    cases hx; exact lv_lmul hexec hb hd (kk ls hl)
  | land =>
    obtain ⟨y, t, rfl, hx⟩ := ex_pl_some (show ex_pl st _ = some _ from hx)
    obtain ⟨x, u, rfl, hx⟩ := ex_pl_some hx
    cases hx; exact lv_land hexec hb hd (kk ls hl)
  | lor =>
    obtain ⟨y, t, rfl, hx⟩ := ex_pl_some (show ex_pl st _ = some _ from hx)
    obtain ⟨x, u, rfl, hx⟩ := ex_pl_some hx
    cases hx; exact lv_lor hexec hb hd (kk ls hl)
  | lshl =>
    obtain ⟨y, t, rfl, hx⟩ := ex_pi_some (show ex_pi st _ = some _ from hx)
    obtain ⟨x, u, rfl, hx⟩ := ex_pl_some hx
    cases hx; exact lv_lshl hexec hb hd rfl (kk ls hl)
  | lshr =>
    obtain ⟨y, t, rfl, hx⟩ := ex_pi_some (show ex_pi st _ = some _ from hx)
    obtain ⟨x, u, rfl, hx⟩ := ex_pl_some hx
    cases hx; exact lv_lshr hexec hb hd rfl (kk ls hl)
  | lcmp =>
    obtain ⟨y, t, rfl, hx⟩ := ex_pl_some (show ex_pl st _ = some _ from hx)
    obtain ⟨x, u, rfl, hx⟩ := ex_pl_some hx
    cases hx; exact W.lcmp hexec hb hd (kk ls hl)
  | i2l =>
    obtain ⟨x, t, rfl, hx⟩ := ex_pi_some (show ex_pi st _ = some _ from hx)
    cases hx; exact lv_i2l hexec hb hd rfl (kk ls hl)
  | l2i =>
    obtain ⟨x, t, rfl, hx⟩ := ex_pl_some (show ex_pl st _ = some _ from hx)
    cases hx; exact lv_l2i hexec hb hd rfl (kk ls hl)
  | dup =>
    obtain ⟨v, t, rfl, hv, hx⟩ := ex_p1_some (show ex_p1 st _ = some _ from hx)
    cases hx; exact lv_dup hexec hb hd ((ex_rv_cat ad v).trans hv) (kk ls hl)
  | dup2 =>
    obtain ⟨v, t, rfl, hv, hx⟩ := ex_p1_some (show ex_p1 st _ = some _ from hx)
    obtain ⟨w, u, rfl, hw, hx⟩ := ex_p1_some hx
    cases hx; exact lv_dup2_11 hexec hb hd ((ex_rv_cat ad v).trans hv) ((ex_rv_cat ad w).trans hw) (kk ls hl)
  | pop =>
    obtain ⟨v, t, rfl, hv, hx⟩ := ex_p1_some (show ex_p1 st _ = some _ from hx)
    cases hx; exact lv_pop hexec hb hd ((ex_rv_cat ad v).trans hv) (kk ls hl)
  | ifCond k off =>
    obtain ⟨x, t, rfl, hx⟩ := ex_pi_some (show ex_pi st _ = some _ from hx)
    obtain ⟨tg, ht, rfl, rfl, rfl⟩ := ex_br_some hx
    have kk := kk ls hl
    cases k with
    | eq => exact lv_if_eq hexec hb hd ht (fun h => by rw [if_pos (show ex_cmp .eq x 0 = true from decide_eq_true h)] at kk; exact kk) (fun h => by rw [if_neg (by simp [ex_cmp, h])] at kk; exact kk)
    | ne => exact lv_if_ne hexec hb hd ht (fun h => by rw [if_pos (show ex_cmp .ne x 0 = true from decide_eq_true h)] at kk; exact kk) (fun h => by rw [if_neg (by simp [ex_cmp, h])] at kk; exact kk)
    | lt => exact lv_if_lt hexec hb hd ht (fun h => by rw [if_pos (show ex_cmp .lt x 0 = true from decide_eq_true h)] at kk; exact kk) (fun h => by rw [if_neg (by simpa [ex_cmp] using h)] at kk; exact kk)
    | ge => exact lv_if_ge hexec hb hd ht (fun h => by rw [if_pos (show ex_cmp .ge x 0 = true from decide_eq_true h)] at kk; exact kk) (fun h => by rw [if_neg (by simpa [ex_cmp] using h)] at kk; exact kk)
    | gt => exact lv_if_gt hexec hb hd ht (fun h => by rw [if_pos (show ex_cmp .gt x 0 = true from decide_eq_true h)] at kk; exact kk) (fun h => by rw [if_neg (by simpa [ex_cmp] using h)] at kk; exact kk)
    | le => exact lv_if_le hexec hb hd ht (fun h => by rw [if_pos (show ex_cmp .le x 0 = true from decide_eq_true h)] at kk; exact kk) (fun h => by rw [if_neg (by simpa [ex_cmp] using h)] at kk; exact kk)
  | if_icmp k off =>
    obtain ⟨y, t, rfl, hx⟩ := ex_pi_some (show ex_pi st _ = some _ from hx)
    obtain ⟨x, u, rfl, hx⟩ := ex_pi_some hx
    obtain ⟨tg, ht, rfl, rfl, rfl⟩ := ex_br_some hx
    have kk := kk ls hl
    cases k with
    | eq => exact lv_icmp_eq hexec hb hd ht (fun h => by rw [if_pos (show ex_cmp .eq x y = true from decide_eq_true h)] at kk; exact kk) (fun h => by rw [if_neg (by simp [ex_cmp, h])] at kk; exact kk)
    | ne => exact lv_icmp_ne hexec hb hd ht (fun h => by rw [if_pos (show ex_cmp .ne x y = true from decide_eq_true h)] at kk; exact kk) (fun h => by rw [if_neg (by simp [ex_cmp, h])] at kk; exact kk)
    | lt => exact lv_icmp_lt hexec hb hd ht (fun h => by rw [if_pos (show ex_cmp .lt x y = true from decide_eq_true h)] at kk; exact kk) (fun h => by rw [if_neg (by simpa [ex_cmp] using h)] at kk; exact kk)
    | ge => exact lv_icmp_ge hexec hb hd ht (fun h => by rw [if_pos (show ex_cmp .ge x y = true from decide_eq_true h)] at kk; exact kk) (fun h => by rw [if_neg (by simpa [ex_cmp] using h)] at kk; exact kk)
    | gt => exact lv_icmp_gt hexec hb hd ht (fun h => by rw [if_pos (show ex_cmp .gt x y = true from decide_eq_true h)] at kk; exact kk) (fun h => by rw [if_neg (by simpa [ex_cmp] using h)] at kk; exact kk)
    | le => exact lv_icmp_le hexec hb hd ht (fun h => by rw [if_pos (show ex_cmp .le x y = true from decide_eq_true h)] at kk; exact kk) (fun h => by rw [if_neg (by simpa [ex_cmp] using h)] at kk; exact kk)
  | ifnull off =>
    obtain ⟨x, t, rfl, hx2⟩ := ex_pn_some (show ex_pn st (fun x t => ex_br x.isNone pc off lv t) = some _ from hx)
    obtain ⟨tg, ht, rfl, rfl, rfl⟩ := ex_br_some hx2
    cases x with
    | none => exact lv_ifnullN hexec hb hd ht (kk ls hl)
    | some a => exact lv_ifnull hexec hb hd (kk ls hl)
  | ifnonnull off =>
    obtain ⟨x, t, rfl, hx2⟩ := ex_pn_some (show ex_pn st (fun x t => ex_br x.isSome pc off lv t) = some _ from hx)
    obtain ⟨tg, ht, rfl, rfl, rfl⟩ := ex_br_some hx2
    cases x with
    | none => exact lv_ifnonnullN hexec hb hd (kk ls hl)
    | some a => exact lv_ifnonnull hexec hb hd ht (kk ls hl)
  | goto off =>
    obtain ⟨ht, rfl, rfl⟩ := ex_to_some (show ex_to pc off lv st = _ from hx)
    exact lv_goto hexec hb hd ht (kk ls hl)
  | tableswitch dflt lo hi offs =>
    obtain ⟨n, hd⟩ := hd
    obtain ⟨x, t, rfl, hx⟩ := ex_pi_some (show ex_pi st _ = some _ from hx)
    have hx : ex_sw x pc dflt lo hi offs lv t = some (pc', lv', st') := hx
    unfold ex_sw at hx
    split at hx
    · rename_i hr
      obtain ⟨ht, rfl, rfl⟩ := ex_to_some hx
      exact lv_tableOut hexec hb hd hr ht (kk ls hl)
    · rename_i hr
      split at hx
      · rename_i off ho
        obtain ⟨ht, rfl, rfl⟩ := ex_to_some hx
        exact lv_tableIn hexec hb hd (fun q => hr (Or.inl q)) (fun q => hr (Or.inr q)) ho ht (kk ls hl)
      · cases hx
  | _ => exact absurd (show (none : Option ex_Pr) = some _ from hx) (fun q => by cases q)
end EXP
end
section
/-! the abstract heap on the machine -/
def ex_cell (G : ex_G) (ca : Nat → ClassId) (ad : Nat → Nat) (h : ex_Hp) (i : Nat) : va_E := match ex_kd G i with
  | (0, c) => .inr (c, (List.range (ex_nf G c)).map fun k => ex_rv ad (ex_fv G h c i k))
  | (1, n) => .inl (ca 1, n, .inl (h.2.2.1 i))
  | (2, n) => .inl (ca 2, n, .inl (h.2.2.1 i))
  | (t + 3, n) => .inl (ca (t + 3), n, .inr (.inr (.inr (.inr fun k => (h.2.2.2 i k).map ad))))
def ex_ws (G : ex_G) (ca : Nat → ClassId) (ad : Nat → Nat) (h : ex_Hp) : va_W := (List.range h.1).map fun i => (ad i, ex_cell G ca ad h i)
section EXW
variable {G : ex_G} {ca : Nat → ClassId} {ad : Nat → Nat} {h h' : ex_Hp}
theorem ex_cell_0 {i c : Nat} (hk : ex_kd G i = (0, c)) : ex_cell G ca ad h i = .inr (c, (List.range (ex_nf G c)).map fun k => ex_rv ad (ex_fv G h c i k)) := by
  unfold ex_cell; rw [hk]
theorem ex_cell_1 {i n : Nat} (hk : ex_kd G i = (1, n)) : ex_cell G ca ad h i = .inl (ca 1, n, .inl (h.2.2.1 i)) := by
  unfold ex_cell; rw [hk]
theorem ex_cell_2 {i n : Nat} (hk : ex_kd G i = (2, n)) : ex_cell G ca ad h i = .inl (ca 2, n, .inl (h.2.2.1 i)) := by
  unfold ex_cell; rw [hk]
theorem ex_cell_3 {i t n : Nat} (hk : ex_kd G i = (t + 3, n)) : ex_cell G ca ad h i = .inl (ca (t + 3), n, .inr (.inr (.inr (.inr fun k => (h.2.2.2 i k).map ad)))) := by
  unfold ex_cell; rw [hk]
theorem ex_fv_congr {c i k : Nat} (h1 : h'.2.2.1 i = h.2.2.1 i) (h2 : h'.2.2.2 i = h.2.2.2 i) : ex_fv G h' c i k = ex_fv G h c i k := by
  unfold ex_fv; rw [h1, h2]
theorem ex_cell_congr {i : Nat} (h1 : h'.2.2.1 i = h.2.2.1 i) (h2 : h'.2.2.2 i = h.2.2.2 i) : ex_cell G ca ad h' i = ex_cell G ca ad h i := by
  unfold ex_cell
  simp only [h1, h2, ex_fv_congr h1 h2]
theorem ex_ws_get {i : Nat} (hi : i < h.1) : (ex_ws G ca ad h)[i]? = some (ad i, ex_cell G ca ad h i) := by
  unfold ex_ws
  rw [List.getElem?_map, List.getElem?_range hi]; rfl
theorem ex_ws_at {i : Nat} {e : va_E} (hi : i < h.1) (he : ex_cell G ca ad h i = e) : (ex_ws G ca ad h)[i]? = some (ad i, e) := by
  rw [ex_ws_get hi, he]
theorem ex_ws_len : (ex_ws G ca ad h).length = h.1 := by simp [ex_ws]
theorem ex_ws_to {i : Nat} {q : Nat × va_E} (hq : (ex_ws G ca ad h)[i]? = some q) : i < h.1 ∧ q = (ad i, ex_cell G ca ad h i) := by
  have hi : i < h.1 := by rw [← ex_ws_len (G := G) (ca := ca) (ad := ad) (h := h)]; exact (List.getElem?_eq_some_iff.mp hq).1
  rw [ex_ws_get hi] at hq
  exact ⟨hi, (Option.some.inj hq).symm⟩
/-- one cell has changed -/
theorem ex_ws_set {a : Nat} {e : va_E} (ha : a < h.1) (hs : h'.1 = h.1) (he : ex_cell G ca ad h' a = e) (h1 : ∀ i, i ≠ a → h'.2.2.1 i = h.2.2.1 i) (h2 : ∀ i, i ≠ a → h'.2.2.2 i = h.2.2.2 i) : (ex_ws G ca ad h).set a (ad a, e) = ex_ws G ca ad h' := by
  apply List.ext_getElem?
  intro i
  rw [List.getElem?_set]
  by_cases hi : a = i
  · subst hi
    rw [if_pos rfl, ex_ws_len, if_pos ha, ex_ws_get (by rw [hs]; exact ha), he]
  · rw [if_neg hi]
    by_cases hl : i < h.1
    · rw [ex_ws_get hl, ex_ws_get (by rw [hs]; exact hl), ex_cell_congr (h1 i (Ne.symm hi)) (h2 i (Ne.symm hi))]
    · rw [List.getElem?_eq_none (by rw [ex_ws_len]; omega), List.getElem?_eq_none (by rw [ex_ws_len, hs]; omega)]
/-- a cell is new -/
theorem ex_ws_push {n : Nat} {e : va_E} (he : ex_cell G ca ad (ex_hN h n) h.1 = e) : ex_ws G ca ad h ++ [(ad h.1, e)] = ex_ws G ca ad (ex_hN h n) := by
  unfold ex_ws
  show _ = (List.range (h.1 + 1)).map _
  rw [List.range_succ, List.map_append]
  congr 1
  · apply List.map_congr_left
    intro i hi
    have hi := List.mem_range.mp hi
    rw [ex_cell_congr (h := h) (h' := ex_hN h n) (i := i)]
    · funext j
      show (if i = h.1 then 0 else h.2.2.1 i j) = _
      rw [if_neg (by omega)]
    · funext j
      show (if i = h.1 then none else h.2.2.2 i j) = _
      rw [if_neg (by omega)]
  · rw [← he]; rfl
theorem ex_wI_ne {I : ex_Mem} {a k i : Nat} {x : Int32} (hi : i ≠ a) : ex_wI I a k x i = I i := by
  funext j
  exact if_neg (fun q => hi q.1)
theorem ex_wP_ne {P : ex_Pm} {a k i : Nat} {x : Option Nat} (hi : i ≠ a) : ex_wP P a k x i = P i := by
  funext j
  exact if_neg (fun q => hi q.1)
theorem ex_wI_eq {I : ex_Mem} {a k : Nat} {x : Int32} : ex_wI I a k x a = upd (I a) k x := by
  funext j
  by_cases hj : j = k
  · show (if a = a ∧ j = k then x else I a j) = if j = k then x else I a j
    rw [if_pos ⟨rfl, hj⟩, if_pos hj]
  · show (if a = a ∧ j = k then x else I a j) = if j = k then x else I a j
    rw [if_neg (fun q => hj q.2), if_neg hj]
theorem ex_wP_eq {P : ex_Pm} {a k : Nat} {x : Option Nat} : ex_wP P a k x a = va_up (P a) k x := by
  funext j
  by_cases hj : j = k
  · show (if a = a ∧ j = k then x else P a j) = if j = k then x else P a j
    rw [if_pos ⟨rfl, hj⟩, if_pos hj]
  · show (if a = a ∧ j = k then x else P a j) = if j = k then x else P a j
    rw [if_neg (fun q => hj q.2), if_neg hj]
theorem ex_range_set {α : Type} {n k : Nat} {f g : Nat → α} {x : α} (hk : f k = x) (hn : ∀ j, j ≠ k → f j = g j) : (List.range n).map f = ((List.range n).map g).set k x := by
  apply List.ext_getElem?
  intro i
  rw [List.getElem?_set, List.getElem?_map]
  by_cases hi : k = i
  · subst hi
    rw [if_pos rfl]
    by_cases hl : k < n
    · rw [List.getElem?_range hl, if_pos (by simpa using hl), ← hk]; rfl
    · rw [if_neg (by simpa using hl), List.getElem?_eq_none (by simpa using hl)]; rfl
  · rw [if_neg hi, List.getElem?_map]
    by_cases hl : i < n
    · rw [List.getElem?_range hl]
      show some (f i) = some (g i)
      rw [hn i (Ne.symm hi)]
    · rw [List.getElem?_eq_none (by simpa using hl)]; rfl
theorem ex_set_fI {c a k : Nat} {x : Int32} (hk : ex_kd G a = (0, c)) (hf : ¬ ex_fk G c k = 2) : ex_cell G ca ad (ex_hI h a k x) a = .inr (c, ((List.range (ex_nf G c)).map fun j => ex_rv ad (ex_fv G h c a j)).set k (.int x)) := by
  rw [ex_cell_0 hk, ex_range_set]
  · show ex_rv ad (if ex_fk G c k = 2 then va_rf (h.2.2.2 a k) else .int (ex_wI h.2.2.1 a k x a k)) = _
    rw [if_neg hf]
    show Value.int (if a = a ∧ k = k then x else h.2.2.1 a k) = _
    rw [if_pos ⟨rfl, rfl⟩]
  · intro j hj
    show ex_rv ad (if ex_fk G c j = 2 then va_rf (h.2.2.2 a j) else .int (if a = a ∧ j = k then x else h.2.2.1 a j)) = ex_rv ad (if ex_fk G c j = 2 then va_rf (h.2.2.2 a j) else .int (h.2.2.1 a j))
    rw [if_neg (c := a = a ∧ j = k) (fun q => hj q.2)]
theorem ex_set_fP {c a k : Nat} {x : Option Nat} (hk : ex_kd G a = (0, c)) (hf : ex_fk G c k = 2) : ex_cell G ca ad (ex_hP h a k x) a = .inr (c, ((List.range (ex_nf G c)).map fun j => ex_rv ad (ex_fv G h c a j)).set k (ex_rv ad (va_rf x))) := by
  rw [ex_cell_0 hk, ex_range_set]
  · show ex_rv ad (if ex_fk G c k = 2 then va_rf (if a = a ∧ k = k then x else h.2.2.2 a k) else _) = _
    rw [if_pos hf, if_pos ⟨rfl, rfl⟩]
  · intro j hj
    show ex_rv ad (if ex_fk G c j = 2 then va_rf (if a = a ∧ j = k then x else h.2.2.2 a j) else .int (h.2.2.1 a j)) = ex_rv ad (if ex_fk G c j = 2 then va_rf (h.2.2.2 a j) else .int (h.2.2.1 a j))
    rw [if_neg (c := a = a ∧ j = k) (fun q => hj q.2)]
end EXW
/-- the type of an array's elements, by its kind -/
def ex_ty (cn : Nat → String) : Nat → FieldType
  | 2 => .boolean
  | t + 3 => .object (cn t)
  | _ => .int
def ex_TY (G : ex_G) (cn : Nat → String) (ca : Nat → ClassId) (tys : List (ClassId × FieldType)) (n : Nat) : Prop := ∀ i, i < n → ∀ k z, ex_kd G i = (k + 1, z) → (ca (k + 1), ex_ty cn (k + 1)) ∈ tys
/-- the world: cells at base, base + 1, .. -/
def ex_ad (base b : Nat) (a : Nat) : Nat := if a = ex_scr then b else base + a
def ex_Wd (G : ex_G) (cn : Nat → String) (cl : List vw_C) (D : va_G) (ca : Nat → ClassId) (base b : Nat) (U : State) (H : Heap) (h : ex_Hp) : Prop :=
  h.1 ≤ ex_scr ∧ va_P D cl (ex_ws G ca (ex_ad base b) h) H ∧ va_D (fun q => base ≤ q) (ex_ws G ca (ex_ad base b) h) ∧ ∃ tys, va_K D cl tys U ∧ ex_TY G cn ca tys h.1
/-- what stays true of the tables -/
def ex_U (cn : Nat → String) (ca : Nat → ClassId) (nst : Cond → Prop) (ao : Nat → Prop) (base b L : Nat) (xs : Nat → Int32) (U : State) : Prop :=
  (∀ w, nst w → va_Nw w U) ∧ (∀ c, ao c → va_AO (cn c) U) ∧ (∀ k cA, U.vm.findClass ("[" ++ (ex_ty cn (k + 1)).toString) = some cA → cA = ca (k + 1)) ∧ va_X b L xs U U.heap ∧ b < base ∧ base ≤ U.heap.size
theorem ex_RA_find {U : State} {cn : Nat → String} {k : Nat} {cA : ClassId} (h : va_RA U cA (ex_ty cn (k + 1))) : U.vm.findClass ("[" ++ (ex_ty cn (k + 1)).toString) = some cA := by
  match k with
  | 0 => exact h
  | 1 => exact h
  | t + 2 =>
    obtain ⟨kA, comp, h1, h2, h3, h4⟩ := h
    exact h4
theorem ex_ad_lt {base b a : Nat} (h : a < ex_scr) : ex_ad base b a = base + a := if_neg (by omega)
section EXZ
variable {p : Program} {l : Launch} {e : Env} {R : Room} {s : State} {m : MethodId} {args : Array Value} {below : List Frame} {meth : Method} {c : Code} {H : Heap} {locs : List Loc} {cells slots : Nat} {Q : State → Prop}
theorem ex_W_size {g : JFrame} (k : H.size ≤ s.heap.size + cells → W p l e R s m args below meth c H locs cells slots Q g) : W p l e R s m args below meth c H locs cells slots Q g := by
  intro T hT X
  exact k (by rw [← hT]; exact X.heapSize) T hT X
/-- where the new cell lies -/
theorem ex_new_at {D : va_G} {cl : List vw_C} {base n q : Nat} {w : va_W} {x : va_E} (hP : va_P D cl (w ++ [(q, x)]) H) (hD : va_D (fun q => base ≤ q) (w ++ [(q, x)])) (hw : w.length = n) (ha : ∀ i, i < n → ∃ y, w[i]? = some (base + i, y)) (hs : H.size ≤ base + n + 1) : q = base + n := by
  have hq : (w ++ [(q, x)])[n]? = some (q, x) := by
    rw [List.getElem?_append_right (by omega), hw, Nat.sub_self]; rfl
  have h1 := hD.2 n _ hq
  have h2 := (hP n _ hq).lt
  dsimp only at h1 h2
  by_cases h3 : q < base + n
  · obtain ⟨y, hy⟩ := ha (q - base) (by omega)
    have e : base + (q - base) = q := by omega
    rw [e] at hy
    have hy' : (w ++ [(q, x)])[q - base]? = some (q, y) := by rw [List.getElem?_append_left (by omega)]; exact hy
    have := hD.1 _ _ _ _ hy' hq rfl
    omega
  · omega
end EXZ
end
section
/-! the tables and the words -/
def ex_cOK (G : ex_G) (cn : Nat → String) (TT : Nat → u_T) (cl : List vw_C) (TB : List Cond) (c : Nat) : Prop :=
  cl[c]? = some (cn c, TT c, ex_nf G c) ∧ (∀ w ∈ u_ws (cn c) (TT c) (ex_nf G c), w ∈ TB) ∧
  (∃ ty0 : Nat → FieldType, ∀ k, k < ex_nf G c → parseFieldDescriptor (TT c k).2.2.1 = some (ty0 k) ∧ (ex_fk G c k = 0 ∧ ty0 k = .int ∨ ex_fk G c k = 1 ∧ ty0 k = .boolean ∨ ex_fk G c k = 2 ∧ ((∃ C, ty0 k = .object C) ∨ ∃ t, ty0 k = .array t))) ∧
  (∀ a, a < ex_nf G c → ∀ b, b < ex_nf G c → a ≠ b → (TT c a).2.1 ≠ (TT c b).2.1) ∧ (∀ k, k < ex_nf G c → (TT c k).1 = cn c) ∧ Cond.instantiable (cn c) (ex_nf G c) ∈ TB ∧ Cond.initialized (cn c) ∈ TB
/-- a field's link -/
def ex_fL (G : ex_G) (cn : Nat → String) (TT : Nat → u_T) (cl : List vw_C) (TB : List Cond) (nst : Cond → Prop) (host : String) (o i tag c k : Nat) (z : Int) : Prop :=
  ex_cOK G cn TT cl TB c ∧ (tag = 0 ∧ Cond.fieldLink (cn o) i (cn c) (TT c k).2.1 (TT c k).2.2.1 ∈ TB ∨ tag = 1 ∧ nst (Cond.fieldLinkNest (cn o) i (cn c) (TT c k).2.1 (TT c k).2.2.1 host)) ∧
  (z = 0 ∧ (TT c k).2.2.2 = false ∨ z = 1 ∧ (TT c k).2.2.2 = true)
section EXM
variable {p : Program} {l : Launch} {e : Env} {R : Room} {s : State} {m : MethodId} {args : Array Value} {below : List Frame} {meth : Method} {c : Code} {H : Heap} {locs : List Loc} {cells slots : Nat} {Q : State → Prop}
variable {cc : ByteArray} {pc : Nat} {ls : Array Slot} {rest : List Value}
variable {G : ex_G} {cn : Nat → String} {TT : Nat → u_T} {cl : List vw_C} {TB : List Cond} {nst : Cond → Prop} {ao : Nat → Prop} {host : String} {D : va_G} {ca : Nat → ClassId} {base b L : Nat} {xs : Nat → Int32} {h h' : ex_Hp}
theorem ex_Wd_of {a : Nat} {x : va_E} {H1 : Heap} (hw : ex_Wd G cn cl D ca base b s H h) (ha : a < h.1) (hs : h'.1 = h.1) (he : ex_cell G ca (ex_ad base b) h' a = x) (h1 : ∀ i, i ≠ a → h'.2.2.1 i = h.2.2.1 i) (h2 : ∀ i, i ≠ a → h'.2.2.2 i = h.2.2.2 i)
    (hP1 : va_P D cl ((ex_ws G ca (ex_ad base b) h).set a (ex_ad base b a, x)) H1) (hD1 : va_D (fun q => base ≤ q) ((ex_ws G ca (ex_ad base b) h).set a (ex_ad base b a, x))) : ex_Wd G cn cl D ca base b s H1 h' := by
  rw [ex_ws_set ha hs he h1 h2] at hP1 hD1
  obtain ⟨hz, -, -, tys, k1, k2⟩ := hw
  exact ⟨by rw [hs]; exact hz, hP1, hD1, tys, k1, by rw [hs]; exact k2⟩
theorem ex_fs_get {c0 a k : Nat} (hk : k < ex_nf G c0) {ad : Nat → Nat} : ((List.range (ex_nf G c0)).map fun j => ex_rv ad (ex_fv G h c0 a j))[k]? = some (ex_rv ad (ex_fv G h c0 a k)) := by
  rw [List.getElem?_map, List.getElem?_range hk]; rfl
theorem ex_get_ok (hexec : p.tables.exec = Jvm.exec) (hb : c.code = cc) (hts : ∀ w ∈ TB, w.before args s = true) (hN : ∀ w, nst w → va_Nw w s) {o i tag c0 k : Nat} {z : Int} (hlk : ex_fL G cn TT cl TB nst host o i tag c0 k z) (hown : s.vm.findClass (cn o) = some m.cls)
    (hw : ex_Wd G cn cl D ca base b s H h) {a : Nat} (ha : a < h.1) (hk : ex_kd G a = (0, c0)) (hkn : k < ex_nf G c0) (hdg : decode cc pc = .ok (.getfield i, 3))
    (kk : W p l e R s m args below meth c H locs cells slots Q (F0 m (pc + 3) ls (ex_rv (ex_ad base b) (ex_fv G h c0 a k) :: rest))) : W p l e R s m args below meth c H locs cells slots Q (F0 m pc ls (.ref (ex_ad base b a) :: rest)) := by
  obtain ⟨⟨hc, hin, -, -, hdc, -, -⟩, hlink, -⟩ := hlk
  obtain ⟨-, hP, -, tys, hK, -⟩ := hw
  have hsame : ∀ x, s.fieldFound? (TT c0 k).1 (TT c0 k).2.1 (TT c0 k).2.2.1 = some x → s.fieldFound? (cn c0) (TT c0 k).2.1 (TT c0 k).2.2.1 = some x := fun x hx => by rw [← hdc k hkn]; exact hx
  rcases hlink with ⟨-, hl⟩ | ⟨-, hl⟩
  · exact va_get hexec hb hts hin hown hK hP a (ex_ws_at ha (ex_cell_0 hk)) hc k hkn (hts _ hl) hsame (ex_fs_get hkn) hdg kk
  · exact va_getN hexec hb hts hin hown hK hP a (ex_ws_at ha (ex_cell_0 hk)) hc k hkn (va_Nw.use rfl (hN _ hl)) hsame (ex_fs_get hkn) hdg kk
theorem ex_put_ok (hexec : p.tables.exec = Jvm.exec) (hb : c.code = cc) (hts : ∀ w ∈ TB, w.before args s = true) (hN : ∀ w, nst w → va_Nw w s) {o i tag c0 k : Nat} {z : Int} (hlk : ex_fL G cn TT cl TB nst host o i tag c0 k z) (hown : s.vm.findClass (cn o) = some m.cls)
    (hw : ex_Wd G cn cl D ca base b s H h) (hS : va_S (fun q => base ≤ q) s.heap H locs) {a : Nat} (ha : a < h.1) (hk : ex_kd G a = (0, c0)) (hkn : k < ex_nf G c0) (hz : z = 0 ∨ tag = 0 ∧ z = 1 ∧ o = c0 ∧ meth.name = "<init>")
    {v : Value} (hv : ∀ ty : FieldType, (ex_fk G c0 k = 0 ∧ ty = .int ∨ ex_fk G c0 k = 1 ∧ ty = .boolean ∨ ex_fk G c0 k = 2 ∧ ((∃ C, ty = .object C) ∨ ∃ t, ty = .array t)) → narrow ty v = v ∧ fits ty v = true)
    (hs : h'.1 = h.1) (he : ex_cell G ca (ex_ad base b) h' a = .inr (c0, ((List.range (ex_nf G c0)).map fun j => ex_rv (ex_ad base b) (ex_fv G h c0 a j)).set k v)) (h1 : ∀ i, i ≠ a → h'.2.2.1 i = h.2.2.1 i) (h2 : ∀ i, i ≠ a → h'.2.2.2 i = h.2.2.2 i) (hdg : decode cc pc = .ok (.putfield i, 3))
    (kk : ∀ (H1 : Heap) (locs1 : List Loc), ex_Wd G cn cl D ca base b s H1 h' → va_S (fun q => base ≤ q) s.heap H1 locs1 → W p l e R s m args below meth c H1 locs1 cells slots Q (F0 m (pc + 3) ls rest)) : W p l e R s m args below meth c H locs cells slots Q (F0 m pc ls (v :: .ref (ex_ad base b a) :: rest)) := by
  obtain ⟨⟨hc, hin, ⟨ty0, hty⟩, hnm, hdc, -, -⟩, hlink, hfin⟩ := hlk
  have hw0 := hw
  obtain ⟨-, hP, hD, tys, hK, -⟩ := hw
  have hsame : ∀ x, s.fieldFound? (TT c0 k).1 (TT c0 k).2.1 (TT c0 k).2.2.1 = some x → s.fieldFound? (cn c0) (TT c0 k).2.1 (TT c0 k).2.2.1 = some x := fun x hx => by rw [← hdc k hkn]; exact hx
  obtain ⟨v1, v2⟩ := hv _ (hty k hkn).2
  have hl : k < ((List.range (ex_nf G c0)).map fun j => ex_rv (ex_ad base b) (ex_fv G h c0 a j)).length := by simpa using hkn
  rcases hlink with ⟨-, hlw⟩ | ⟨ht1, hlw⟩
  · rcases hfin with ⟨hz0, hf⟩ | ⟨hz1, hf⟩
    · exact va_put hexec hb hts hin ty0 (fun j hj => (hty j hj).1) hnm hown hK hP hD hS a (ex_ws_at ha (ex_cell_0 hk)) hc k hkn (hts _ hlw) hsame hf (hty k hkn).1 v1 v2 hl hdg (fun H1 locs1 p1 d1 s1 => kk H1 locs1 (ex_Wd_of hw0 ha hs he h1 h2 p1 d1) s1)
    · rcases hz with hz | ⟨-, -, ho, hnam⟩
      · rw [hz] at hz1; cases hz1
      · subst ho
        exact va_putF hexec hb hts hin ty0 (fun j hj => (hty j hj).1) hnm hown hK hP hD hS a (ex_ws_at ha (ex_cell_0 hk)) hc k hkn (hts _ hlw) hsame hf hnam (hdc k hkn) (hty k hkn).1 v1 v2 hl hdg (fun H1 locs1 p1 d1 s1 => kk H1 locs1 (ex_Wd_of hw0 ha hs he h1 h2 p1 d1) s1)
  · rcases hfin with ⟨hz0, hf⟩ | ⟨hz1, hf⟩
    · exact va_putN hexec hb hts hin ty0 (fun j hj => (hty j hj).1) hnm hown hK hP hD hS a (ex_ws_at ha (ex_cell_0 hk)) hc k hkn (va_Nw.use rfl (hN _ hlw)) hsame hf (hty k hkn).1 v1 v2 hl hdg (fun H1 locs1 p1 d1 s1 => kk H1 locs1 (ex_Wd_of hw0 ha hs he h1 h2 p1 d1) s1)
    · rcases hz with hz | ⟨hz, -⟩
      · rw [hz] at hz1; cases hz1
      · rw [hz] at ht1; cases ht1
theorem ex_narrow_int (x : Int32) : narrow .int (.int x) = .int x ∧ fits .int (.int x) = true := ⟨rfl, rfl⟩
theorem ex_narrow_bool {x : Int32} (hx : ex_b01 x = true) : narrow .boolean (.int x) = .int x ∧ fits .boolean (.int x) = true := by
  rcases of_decide_eq_true hx with rfl | rfl <;> exact ⟨by decide, by decide⟩
theorem ex_narrow_ref (r : Option Nat) {ty : FieldType} (h : (∃ C, ty = .object C) ∨ ∃ t, ty = .array t) : narrow ty (va_rf r) = va_rf r ∧ fits ty (va_rf r) = true := by
  rcases h with ⟨C, rfl⟩ | ⟨t, rfl⟩ <;> cases r <;> exact ⟨rfl, rfl⟩
theorem ex_putI_ok (hexec : p.tables.exec = Jvm.exec) (hb : c.code = cc) (hts : ∀ w ∈ TB, w.before args s = true) (hN : ∀ w, nst w → va_Nw w s) {o i tag c0 k : Nat} {z : Int} (hlk : ex_fL G cn TT cl TB nst host o i tag c0 k z) (hown : s.vm.findClass (cn o) = some m.cls)
    (hw : ex_Wd G cn cl D ca base b s H h) (hS : va_S (fun q => base ≤ q) s.heap H locs) {a : Nat} (ha : a < h.1) (hk : ex_kd G a = (0, c0)) (hkn : k < ex_nf G c0) (hz : z = 0 ∨ tag = 0 ∧ z = 1 ∧ o = c0 ∧ meth.name = "<init>")
    {x : Int32} (hx : ex_fk G c0 k = 0 ∨ ex_fk G c0 k = 1 ∧ ex_b01 x = true) (hdg : decode cc pc = .ok (.putfield i, 3))
    (kk : ∀ (H1 : Heap) (locs1 : List Loc), ex_Wd G cn cl D ca base b s H1 (ex_hI h a k x) → va_S (fun q => base ≤ q) s.heap H1 locs1 → W p l e R s m args below meth c H1 locs1 cells slots Q (F0 m (pc + 3) ls rest)) : W p l e R s m args below meth c H locs cells slots Q (F0 m pc ls (.int x :: .ref (ex_ad base b a) :: rest)) := by
  refine ex_put_ok hexec hb hts hN hlk hown hw hS ha hk hkn hz (h' := ex_hI h a k x) (fun ty hty => ?_) rfl (ex_set_fI hk (by rcases hx with q | ⟨q, -⟩ <;> rw [q] <;> decide)) (fun i hi => ex_wI_ne hi) (fun i hi => rfl) hdg kk
  rcases hty with ⟨-, rfl⟩ | ⟨q, rfl⟩ | ⟨q, -⟩
  · exact ex_narrow_int x
  · rcases hx with q2 | ⟨-, q2⟩
    · rw [q] at q2; cases q2
    · exact ex_narrow_bool q2
  · rcases hx with q2 | ⟨q2, -⟩ <;> rw [q] at q2 <;> cases q2
theorem ex_putP_ok (hexec : p.tables.exec = Jvm.exec) (hb : c.code = cc) (hts : ∀ w ∈ TB, w.before args s = true) (hN : ∀ w, nst w → va_Nw w s) {o i tag c0 k : Nat} {z : Int} (hlk : ex_fL G cn TT cl TB nst host o i tag c0 k z) (hown : s.vm.findClass (cn o) = some m.cls)
    (hw : ex_Wd G cn cl D ca base b s H h) (hS : va_S (fun q => base ≤ q) s.heap H locs) {a : Nat} (ha : a < h.1) (hk : ex_kd G a = (0, c0)) (hkn : k < ex_nf G c0) (hz : z = 0 ∨ tag = 0 ∧ z = 1 ∧ o = c0 ∧ meth.name = "<init>")
    {x : Option Nat} (hx : ex_fk G c0 k = 2) (hdg : decode cc pc = .ok (.putfield i, 3))
    (kk : ∀ (H1 : Heap) (locs1 : List Loc), ex_Wd G cn cl D ca base b s H1 (ex_hP h a k x) → va_S (fun q => base ≤ q) s.heap H1 locs1 → W p l e R s m args below meth c H1 locs1 cells slots Q (F0 m (pc + 3) ls rest)) : W p l e R s m args below meth c H locs cells slots Q (F0 m pc ls (ex_rv (ex_ad base b) (va_rf x) :: .ref (ex_ad base b a) :: rest)) := by
  refine ex_put_ok hexec hb hts hN hlk hown hw hS ha hk hkn hz (h' := ex_hP h a k x) (fun ty hty => ?_) rfl (ex_set_fP hk hx) (fun i hi => rfl) (fun i hi => ex_wP_ne hi) hdg kk
  rcases hty with ⟨q, -⟩ | ⟨q, -⟩ | ⟨-, q⟩
  · rw [hx] at q; cases q
  · rw [hx] at q; cases q
  · rw [ex_rv_rf]
    exact ex_narrow_ref _ q
/-- an array's place in the list of types -/
theorem ex_ty_at (hw : ex_Wd G cn cl D ca base b s H h) {a k n : Nat} (ha : a < h.1) (hk : ex_kd G a = (k + 1, n)) : ∃ (tys : List (ClassId × FieldType)) (t0 : Nat), va_K D cl tys s ∧ tys[t0]? = some (ca (k + 1), ex_ty cn (k + 1)) := by
  obtain ⟨-, -, -, tys, hK, hT⟩ := hw
  obtain ⟨t0, h0⟩ := List.getElem?_of_mem (hT a ha k n hk)
  exact ⟨tys, t0, hK, h0⟩
theorem ex_in_vp {i : Int32} {n : Nat} (hi : ex_in i n = true) : vp_in i n := by
  have h2 : ¬ (i < 0 ∨ n ≤ i.toNatClampNeg) := of_decide_eq_true hi
  exact h2
theorem ex_iald_ok (hexec : p.tables.exec = Jvm.exec) (hb : c.code = cc) (hw : ex_Wd G cn cl D ca base b s H h) {a n : Nat} (ha : a < h.1) (hk : ex_kd G a = (1, n)) {i : Int32} (hi : ex_in i n = true) (hdg : decode cc pc = .ok (.iaload, 1))
    (kk : W p l e R s m args below meth c H locs cells slots Q (F0 m (pc + 1) ls (.int (h.2.2.1 a i.toNatClampNeg) :: rest))) : W p l e R s m args below meth c H locs cells slots Q (F0 m pc ls (.int i :: .ref (ex_ad base b a) :: rest)) := by
  obtain ⟨tys, t0, hK, h0⟩ := ex_ty_at hw ha hk
  exact va_iald hexec hb hK hw.2.1 a t0 (ex_ws_at ha (ex_cell_1 hk)) h0 (ex_in_vp hi) hdg kk
theorem ex_zald_ok (hexec : p.tables.exec = Jvm.exec) (hb : c.code = cc) (hw : ex_Wd G cn cl D ca base b s H h) {a n : Nat} (ha : a < h.1) (hk : ex_kd G a = (2, n)) {i : Int32} (hi : ex_in i n = true) (hdg : decode cc pc = .ok (.baload, 1))
    (kk : W p l e R s m args below meth c H locs cells slots Q (F0 m (pc + 1) ls (.int (h.2.2.1 a i.toNatClampNeg) :: rest))) : W p l e R s m args below meth c H locs cells slots Q (F0 m pc ls (.int i :: .ref (ex_ad base b a) :: rest)) := by
  obtain ⟨tys, t0, hK, h0⟩ := ex_ty_at hw ha hk
  exact va_zald hexec hb hK hw.2.1 a t0 (ex_ws_at ha (ex_cell_2 hk)) h0 (ex_in_vp hi) hdg kk
theorem ex_aald_ok (hexec : p.tables.exec = Jvm.exec) (hb : c.code = cc) (hw : ex_Wd G cn cl D ca base b s H h) {a t n : Nat} (ha : a < h.1) (hk : ex_kd G a = (t + 3, n)) {i : Int32} (hi : ex_in i n = true) (hdg : decode cc pc = .ok (.aaload, 1))
    (kk : W p l e R s m args below meth c H locs cells slots Q (F0 m (pc + 1) ls (ex_rv (ex_ad base b) (va_rf (h.2.2.2 a i.toNatClampNeg)) :: rest))) : W p l e R s m args below meth c H locs cells slots Q (F0 m pc ls (.int i :: .ref (ex_ad base b a) :: rest)) := by
  obtain ⟨tys, t0, hK, h0⟩ := ex_ty_at hw ha hk
  rw [ex_rv_rf] at kk
  exact va_aldq hexec hb hK hw.2.1 a t0 (ex_ws_at ha (ex_cell_3 hk)) h0 (ex_in_vp hi) hdg kk
theorem ex_iast_ok (hexec : p.tables.exec = Jvm.exec) (hb : c.code = cc) (hw : ex_Wd G cn cl D ca base b s H h) (hS : va_S (fun q => base ≤ q) s.heap H locs) {a n : Nat} (ha : a < h.1) (hk : ex_kd G a = (1, n)) {i x : Int32} (hi : ex_in i n = true) (hdg : decode cc pc = .ok (.iastore, 1))
    (kk : ∀ (H1 : Heap) (locs1 : List Loc), ex_Wd G cn cl D ca base b s H1 (ex_hI h a i.toNatClampNeg x) → va_S (fun q => base ≤ q) s.heap H1 locs1 → W p l e R s m args below meth c H1 locs1 cells slots Q (F0 m (pc + 1) ls rest)) : W p l e R s m args below meth c H locs cells slots Q (F0 m pc ls (.int x :: .int i :: .ref (ex_ad base b a) :: rest)) := by
  obtain ⟨tys, t0, hK, h0⟩ := ex_ty_at hw ha hk
  refine va_iast hexec hb hK hw.2.1 hw.2.2.1 hS a t0 (ex_ws_at ha (ex_cell_1 hk)) h0 (ex_in_vp hi) hdg (fun H1 locs1 p1 d1 s1 => kk H1 locs1 (ex_Wd_of (h' := ex_hI h a i.toNatClampNeg x) hw ha rfl ?_ (fun i hi => ex_wI_ne hi) (fun i hi => rfl) p1 d1) s1)
  rw [ex_cell_1 hk]
  show (Sum.inl (ca 1, n, Sum.inl (ex_wI h.2.2.1 a _ x a)) : va_E) = _
  rw [ex_wI_eq]
theorem ex_nar_bool {x : Int32} (hx : ex_b01 x = true) : vp_nar .boolean x = x := by
  rcases of_decide_eq_true hx with rfl | rfl <;> decide
theorem ex_zast_ok (hexec : p.tables.exec = Jvm.exec) (hb : c.code = cc) (hw : ex_Wd G cn cl D ca base b s H h) (hS : va_S (fun q => base ≤ q) s.heap H locs) {a n : Nat} (ha : a < h.1) (hk : ex_kd G a = (2, n)) {i x : Int32} (hi : ex_in i n = true) (hx : ex_b01 x = true) (hdg : decode cc pc = .ok (.bastore, 1))
    (kk : ∀ (H1 : Heap) (locs1 : List Loc), ex_Wd G cn cl D ca base b s H1 (ex_hI h a i.toNatClampNeg x) → va_S (fun q => base ≤ q) s.heap H1 locs1 → W p l e R s m args below meth c H1 locs1 cells slots Q (F0 m (pc + 1) ls rest)) : W p l e R s m args below meth c H locs cells slots Q (F0 m pc ls (.int x :: .int i :: .ref (ex_ad base b a) :: rest)) := by
  obtain ⟨tys, t0, hK, h0⟩ := ex_ty_at hw ha hk
  refine va_zast hexec hb hK hw.2.1 hw.2.2.1 hS a t0 (ex_ws_at ha (ex_cell_2 hk)) h0 (ex_in_vp hi) hdg (fun H1 locs1 p1 d1 s1 => kk H1 locs1 (ex_Wd_of (h' := ex_hI h a i.toNatClampNeg x) hw ha rfl ?_ (fun i hi => ex_wI_ne hi) (fun i hi => rfl) p1 d1) s1)
  rw [ex_cell_2 hk, ex_nar_bool hx]
  show (Sum.inl (ca 2, n, Sum.inl (ex_wI h.2.2.1 a _ x a)) : va_E) = _
  rw [ex_wI_eq]
theorem ex_aast_ok (hexec : p.tables.exec = Jvm.exec) (hb : c.code = cc) (hw : ex_Wd G cn cl D ca base b s H h) (hS : va_S (fun q => base ≤ q) s.heap H locs) {a x t n : Nat} (ha : a < h.1) (hk : ex_kd G a = (t + 3, n)) (hx : x < h.1) (hkx : ex_kd G x = (0, t)) (hc : ex_cOK G cn TT cl TB t) {i : Int32} (hi : ex_in i n = true) (hdg : decode cc pc = .ok (.aastore, 1))
    (kk : ∀ (H1 : Heap) (locs1 : List Loc), ex_Wd G cn cl D ca base b s H1 (ex_hP h a i.toNatClampNeg (some x)) → va_S (fun q => base ≤ q) s.heap H1 locs1 → W p l e R s m args below meth c H1 locs1 cells slots Q (F0 m (pc + 1) ls rest)) : W p l e R s m args below meth c H locs cells slots Q (F0 m pc ls (.ref (ex_ad base b x) :: .int i :: .ref (ex_ad base b a) :: rest)) := by
  obtain ⟨tys, t0, hK, h0⟩ := ex_ty_at hw ha hk
  refine va_astq hexec hb hK hw.2.1 hw.2.2.1 hS a t0 x t (r := (cn t, TT t, ex_nf G t)) (ex_ws_at ha (ex_cell_3 hk)) h0 (ex_ws_at hx (ex_cell_0 hkx)) hc.1 (ex_in_vp hi) hdg (fun H1 locs1 p1 d1 s1 => kk H1 locs1 (ex_Wd_of (h' := ex_hP h a i.toNatClampNeg (some x)) hw ha rfl ?_ (fun i hi => rfl) (fun i hi => ex_wP_ne hi) p1 d1) s1)
  rw [ex_cell_3 hk]
  have e1 : (fun k => ((ex_hP h a i.toNatClampNeg (some x)).2.2.2 a k).map (ex_ad base b)) = va_up (fun k => (h.2.2.2 a k).map (ex_ad base b)) i.toNatClampNeg (some (ex_ad base b x)) := by
    funext j
    show (ex_wP h.2.2.2 a i.toNatClampNeg (some x) a j).map (ex_ad base b) = _
    rw [ex_wP_eq]
    unfold va_up
    split <;> rfl
  rw [e1]
theorem ex_alen_ok (hexec : p.tables.exec = Jvm.exec) (hb : c.code = cc) (hw : ex_Wd G cn cl D ca base b s H h) {a k n : Nat} (ha : a < h.1) (hk : ex_kd G a = (k + 1, n)) (hdg : decode cc pc = .ok (.arraylength, 1))
    (kk : W p l e R s m args below meth c H locs cells slots Q (F0 m (pc + 1) ls (.int (nI n) :: rest))) : W p l e R s m args below meth c H locs cells slots Q (F0 m pc ls (.ref (ex_ad base b a) :: rest)) := by
  obtain ⟨tys, t0, hK, h0⟩ := ex_ty_at hw ha hk
  match k with
  | 0 => exact va_alen hexec hb hK hw.2.1 a t0 (ex_ws_at ha (ex_cell_1 hk)) h0 rfl hdg kk
  | 1 => exact va_alen hexec hb hK hw.2.1 a t0 (ex_ws_at ha (ex_cell_2 hk)) h0 rfl hdg kk
  | t + 2 => exact va_alen hexec hb hK hw.2.1 a t0 (ex_ws_at ha (ex_cell_3 hk)) h0 rfl hdg kk
/-- the world behind a making -/
theorem ex_Wd_new {q n : Nat} {x : va_E} {H1 : Heap} {tys : List (ClassId × FieldType)} (hw : ex_Wd G cn cl D ca base b s H h) (hz : h.1 < ex_scr) (hsz : H1.size ≤ base + h.1 + 1) (he : ex_cell G ca (ex_ad base b) (ex_hN h n) h.1 = x)
    (hP1 : va_P D cl (ex_ws G ca (ex_ad base b) h ++ [(q, x)]) H1) (hD1 : va_D (fun q => base ≤ q) (ex_ws G ca (ex_ad base b) h ++ [(q, x)])) (hK : va_K D cl tys s) (hT : ex_TY G cn ca tys (h.1 + 1)) : q = ex_ad base b h.1 ∧ ex_Wd G cn cl D ca base b s H1 (ex_hN h n) := by
  have hq : q = base + h.1 := ex_new_at hP1 hD1 ex_ws_len (fun i hi => ⟨_, by rw [ex_ws_get hi, ex_ad_lt (by omega)]⟩) hsz
  have hq : q = ex_ad base b h.1 := by rw [ex_ad_lt hz]; exact hq
  subst hq
  rw [ex_ws_push he] at hP1 hD1
  exact ⟨rfl, hz, hP1, hD1, tys, hK, hT⟩
end EXM
end
section
theorem ex_TY_push {G : ex_G} {cn : Nat → String} {ca : Nat → ClassId} {tys tys' : List (ClassId × FieldType)} {n k z : Nat} (hT : ex_TY G cn ca tys n) (hs : ∀ q ∈ tys, q ∈ tys') (hk : ex_kd G n = (k + 1, z)) (hm : (ca (k + 1), ex_ty cn (k + 1)) ∈ tys') : ex_TY G cn ca tys' (n + 1) := by
  intro i hi k' z' hk'
  by_cases h : i = n
  · subst h
    rw [hk] at hk'
    cases hk'
    exact hm
  · exact hs _ (hT i (by omega) k' z' hk')
theorem ex_TY_obj {G : ex_G} {cn : Nat → String} {ca : Nat → ClassId} {tys : List (ClassId × FieldType)} {n z : Nat} (hT : ex_TY G cn ca tys n) (hk : ex_kd G n = (0, z)) : ex_TY G cn ca tys (n + 1) := by
  intro i hi k' z' hk'
  by_cases h : i = n
  · subst h
    rw [hk] at hk'
    cases hk'
  · exact hT i (by omega) k' z' hk'
section EXN
variable {p : Program} {l : Launch} {e : Env} {R : Room} {s : State} {m : MethodId} {args : Array Value} {below : List Frame} {meth : Method} {c : Code} {H : Heap} {locs : List Loc} {cells slots : Nat} {Q : State → Prop}
variable {cc : ByteArray} {pc : Nat} {ls : Array Slot} {rest : List Value}
variable {G : ex_G} {cn : Nat → String} {TT : Nat → u_T} {cl : List vw_C} {TB : List Cond} {nst : Cond → Prop} {ao : Nat → Prop} {host : String} {D : va_G} {ca : Nat → ClassId} {base b L : Nat} {xs : Nat → Int32} {h h' : ex_Hp}
theorem ex_hN_I {n : Nat} : (ex_hN h n).2.2.1 h.1 = fun _ => 0 := by
  funext j
  exact if_pos rfl
theorem ex_hN_P {n : Nat} : (ex_hN h n).2.2.2 h.1 = fun _ => none := by
  funext j
  exact if_pos rfl
theorem ex_newa_ok (hexec : p.tables.exec = Jvm.exec) (hb : c.code = cc) (hU : ex_U cn ca nst ao base b L xs s) (hw : ex_Wd G cn cl D ca base b s H h) (hS : va_S (fun q => base ≤ q) s.heap H locs) (hsc : s.heap.size + cells = base + h.1)
    {atype : ArrayType} {k : Nat} (harr : (Cond.arrayClass (newarray.typeOf atype)).before args s = true) (hty : newarray.typeOf atype = ex_ty cn (k + 1)) (hk2 : k < 2) {n : Int32} (hn : ¬ n < 0) (hn2 : n.toNatClampNeg ≤ 1000) (hz : h.1 < ex_scr) (hk : ex_kd G h.1 = (k + 1, n.toNatClampNeg))
    (hcells : cells + 1 ≤ R.cells) (hslots : slots + n.toNatClampNeg ≤ R.slots) (hdg : decode cc pc = .ok (.newarray atype, 2))
    (kk : ∀ H1 : Heap, ex_Wd G cn cl D ca base b s H1 (ex_hN h n.toNatClampNeg) → va_S (fun q => base ≤ q) s.heap H1 locs → W p l e R s m args below meth c H1 locs (cells + 1) (slots + n.toNatClampNeg) Q (F0 m (pc + 2) ls (.ref (ex_ad base b h.1) :: rest))) : W p l e R s m args below meth c H locs cells slots Q (F0 m pc ls (.int n :: rest)) := by
  have hw0 := hw
  obtain ⟨-, hP, hD, tys, hK, hT⟩ := hw
  have hdef : ∀ cA : ClassId, vp_cell cA (n.toNatClampNeg, .inl (fun _ => 0)) = arrV cA n.toNatClampNeg (fun _ => defaultValue (ex_ty cn (k + 1))) := by
    intro cA
    rcases (by omega : k = 0 ∨ k = 1) with rfl | rfl <;> rfl
  have hby : n.toNatClampNeg * componentBytes (ex_ty cn (k + 1)) ≤ 536870912 := by
    rcases (by omega : k = 0 ∨ k = 1) with rfl | rfl
    · show _ * 4 ≤ _; omega
    · show _ * 1 ≤ _; omega
  refine va_newa hexec hb harr hty hK hP hD hS (fun q hq => Nat.le_trans hU.2.2.2.2.2 hq) hdef hn rfl hby hcells hslots hdg (fun q cA H1 K1 P1 D1 S1 => ex_W_size (fun hz1 => ?_))
  have hcA : cA = ca (k + 1) := hU.2.2.1 k cA (ex_RA_find (K1.2 tys.length _ (by rw [List.getElem?_append_right (Nat.le_refl _), Nat.sub_self]; rfl)).2)
  subst hcA
  obtain ⟨rfl, W1⟩ := ex_Wd_new (n := n.toNatClampNeg) hw0 hz (by omega) (by
    rcases (by omega : k = 0 ∨ k = 1) with rfl | rfl
    · rw [ex_cell_1 hk, ex_hN_I]
    · rw [ex_cell_2 hk, ex_hN_I]) P1 D1 K1 (ex_TY_push hT (fun q hq => List.mem_append_left _ hq) hk (List.mem_append_right _ List.mem_cons_self))
  exact kk H1 W1 S1
theorem ex_newq_ok (hexec : p.tables.exec = Jvm.exec) (hb : c.code = cc) (hU : ex_U cn ca nst ao base b L xs s) (hw : ex_Wd G cn cl D ca base b s H h) (hS : va_S (fun q => base ≤ q) s.heap H locs) (hsc : s.heap.size + cells = base + h.1)
    {o i t : Nat} (hown : s.vm.findClass (cn o) = some m.cls) (hcl : (Cond.classLink (cn o) i (cn t)).before args s = true) (hao : ao t) {n : Int32} (hn : ¬ n < 0) (hn2 : n.toNatClampNeg ≤ 1000) (hz : h.1 < ex_scr) (hk : ex_kd G h.1 = (t + 3, n.toNatClampNeg))
    (hcells : cells + 1 ≤ R.cells) (hslots : slots + n.toNatClampNeg ≤ R.slots) (hdg : decode cc pc = .ok (.anewarray i, 3))
    (kk : ∀ H1 : Heap, ex_Wd G cn cl D ca base b s H1 (ex_hN h n.toNatClampNeg) → va_S (fun q => base ≤ q) s.heap H1 locs → W p l e R s m args below meth c H1 locs (cells + 1) (slots + n.toNatClampNeg) Q (F0 m (pc + 3) ls (.ref (ex_ad base b h.1) :: rest))) : W p l e R s m args below meth c H locs cells slots Q (F0 m pc ls (.int n :: rest)) := by
  have hw0 := hw
  obtain ⟨-, hP, hD, tys, hK, hT⟩ := hw
  refine va_newq hexec hb hown hcl (hU.2.1 t hao) hK hP hD hS (fun q hq => Nat.le_trans hU.2.2.2.2.2 hq) hn rfl (by omega) hcells hslots hdg (fun q cA H1 K1 P1 D1 S1 => ex_W_size (fun hz1 => ?_))
  have hcA : cA = ca (t + 3) := hU.2.2.1 (t + 2) cA (ex_RA_find (cn := cn) (k := t + 2) (K1.2 tys.length _ (by rw [List.getElem?_append_right (Nat.le_refl _), Nat.sub_self]; rfl)).2)
  subst hcA
  obtain ⟨rfl, W1⟩ := ex_Wd_new (n := n.toNatClampNeg) hw0 hz (by omega) (by
    rw [ex_cell_3 hk, ex_hN_P]; rfl) P1 D1 K1 (ex_TY_push hT (fun q hq => List.mem_append_left _ hq) hk (List.mem_append_right _ List.mem_cons_self))
  exact kk H1 W1 S1
theorem ex_new_ok (hexec : p.tables.exec = Jvm.exec) (hb : c.code = cc) (hts : ∀ w ∈ TB, w.before args s = true) (hU : ex_U cn ca nst ao base b L xs s) (hw : ex_Wd G cn cl D ca base b s H h) (hS : va_S (fun q => base ≤ q) s.heap H locs) (hsc : s.heap.size + cells = base + h.1)
    {o i t : Nat} (hown : s.vm.findClass (cn o) = some m.cls) (hcl : (Cond.classLink (cn o) i (cn t)).before args s = true) (hc : ex_cOK G cn TT cl TB t) (hz : h.1 < ex_scr) (hk : ex_kd G h.1 = (0, t))
    (hcells : cells + 1 ≤ R.cells) (hslots : slots + ex_nf G t ≤ R.slots) (hdg : decode cc pc = .ok (.new i, 3))
    (kk : ∀ H1 : Heap, ex_Wd G cn cl D ca base b s H1 (ex_hN h (ex_nf G t)) → va_S (fun q => base ≤ q) s.heap H1 locs → W p l e R s m args below meth c H1 locs (cells + 1) (slots + ex_nf G t) Q (F0 m (pc + 3) ls (.ref (ex_ad base b h.1) :: rest))) : W p l e R s m args below meth c H locs cells slots Q (F0 m pc ls rest) := by
  have hw0 := hw
  obtain ⟨-, hP, hD, tys, hK, hT⟩ := hw
  obtain ⟨hc1, hin, ⟨ty0, hty⟩, hnm, hdc, hinst, hini⟩ := hc
  have hfs : ∀ j, j < ex_nf G t → defaultValue (ty0 j) = vp_V ((List.range (ex_nf G t)).map fun k => ex_rv (ex_ad base b) (ex_fv G (ex_hN h (ex_nf G t)) t h.1 k)) j := by
    intro j hj
    unfold vp_V
    rw [List.getD_eq_getElem?_getD, ex_fs_get hj]
    show _ = ex_rv _ (ex_fv G _ t h.1 j)
    unfold ex_fv
    rw [ex_hN_I, ex_hN_P]
    rcases (hty j hj).2 with ⟨q1, q2⟩ | ⟨q1, q2⟩ | ⟨q1, ⟨C, q2⟩ | ⟨C, q2⟩⟩ <;> rw [q1, q2] <;> rfl
  refine va_new hexec hb hts hin ty0 (fun j hj => (hty j hj).1) hown hcl (hts _ hinst) (hts _ hini) hK hP hD hS (fun q hq => Nat.le_trans hU.2.2.2.2.2 hq) hc1 hfs hcells hslots hdg (fun q H1 P1 D1 S1 => ex_W_size (fun hz1 => ?_))
  obtain ⟨rfl, W1⟩ := ex_Wd_new (n := ex_nf G t) hw0 hz (by omega) (ex_cell_0 hk) P1 D1 hK (ex_TY_obj hT hk)
  exact kk H1 W1 S1
theorem ex_copy_ok (hexec : p.tables.exec = Jvm.exec) (hb : c.code = cc) (hml : c.maxLocals = ls.size) {o i : Nat} (hown : s.vm.findClass (cn o) = some m.cls) (hlink : (Cond.methodLink (cn o) i arraycopyName).before args s = true) (hnat : (Cond.native arraycopyName).before args s = true) (hstat : (Cond.static arraycopyName).before args s = true) (hini : (Cond.initialized "java/lang/System").before args s = true)
    (hw : ex_Wd G cn cl D ca base b s H h) (hS : va_S (fun q => base ≤ q) s.heap H locs) {a0 a n0 n1 : Nat} (ha0 : a0 < h.1) (ha : a < h.1) (hk0 : ex_kd G a0 = (1, n0)) (hk : ex_kd G a = (1, n1))
    {sp dp n : Int32} (h1 : ¬ sp < 0) (h2 : ¬ dp < 0) (h3 : ¬ n < 0) (h4 : sp.toNatClampNeg + n.toNatClampNeg ≤ n0) (h5 : dp.toNatClampNeg + n.toNatClampNeg ≤ n1) (hframes : 1 ≤ R.frames) (hlocals : (rest.map fun v => v.category).sum + 18 ≤ R.locals) (hdg : decode cc pc = .ok (.invokestatic i, 3))
    (kk : ∀ (H1 : Heap) (locs1 : List Loc), ex_Wd G cn cl D ca base b s H1 (h.1, h.2.1, ex_copy h.2.2.1 a0 sp.toNatClampNeg a dp.toNatClampNeg n.toNatClampNeg, h.2.2.2) → va_S (fun q => base ≤ q) s.heap H1 locs1 → W p l e R s m args below meth c H1 locs1 cells slots Q (F0 m (pc + 3) ls rest)) :
    W p l e R s m args below meth c H locs cells slots Q (F0 m pc ls (.int n :: .int dp :: .ref (ex_ad base b a) :: .int sp :: .ref (ex_ad base b a0) :: rest)) := by
  obtain ⟨tys, t0, hK, h0⟩ := ex_ty_at hw ha hk
  have hc0 : ca (0 + 1) = ca 1 := rfl
  refine va_copyi hexec hb hml hown hlink hnat hstat hini hK hw.2.1 hw.2.2.1 hS a0 a t0 t0 (ty := .int) (ex_ws_at ha0 (ex_cell_1 hk0)) (ex_ws_at ha (ex_cell_1 hk)) h0 h0 rfl h1 h2 h3 h4 h5 (fun i hi => rfl) hframes hlocals hdg (fun H1 locs1 p1 d1 s1 => kk H1 locs1 (ex_Wd_of hw ha rfl ?_ (fun i hi => ?_) (fun i hi => rfl) p1 d1) s1)
  · rw [ex_cell_1 hk]
    show (Sum.inl (ca 1, n1, Sum.inl (ex_copy h.2.2.1 a0 sp.toNatClampNeg a dp.toNatClampNeg n.toNatClampNeg a)) : va_E) = _
    have e1 : ex_copy h.2.2.1 a0 sp.toNatClampNeg a dp.toNatClampNeg n.toNatClampNeg a = va_cpy (h.2.2.1 a0) (h.2.2.1 a) sp.toNatClampNeg dp.toNatClampNeg n.toNatClampNeg := by
      funext j
      exact if_pos rfl
    rw [e1]
  · funext j
    exact if_neg hi
end EXN
end
section
/-- a method's table and words; K: the words of locals for a frame -/
def ex_mB (G : ex_G) (cn : Nat → String) (TB : List Cond) (ym : Nat → MethodName) (bt : Nat → ByteArray) (rT : Nat → Option FieldType) (y : Nat) : Prop :=
  Cond.code (ym y) (bt y) (ex_mx G y) (rT y) ∈ TB ∧ plainName (ym y).cls = true ∧ (ym y).cls = cn (ex_ow G y) ∧ ex_mx G y ≤ 18 ∧
  (match ex_rt G y with
    | 0 => rT y = none
    | 1 => rT y = some .int
    | 2 => rT y = some .boolean
    | 3 => rT y = some .long
    | 4 => ∃ C, rT y = some (.object C)
    | 5 => rT y = none ∧ (ym y).name = "<init>"
    | _ => False) ∧
  (∀ pc ins, ex_look (ex_cd G y) pc = some ins → ex_dec (bt y) pc ins)
/-- a callee's words -/
def ex_mK (G : ex_G) (cn : Nat → String) (TB : List Cond) (ym : Nat → MethodName) (bt : Nat → ByteArray) (rT : Nat → Option FieldType) (y n : Nat) : Prop :=
  ex_mB G cn TB ym bt rT y ∧ Cond.initialized (ym y).cls ∈ TB ∧ (ym y).cls ≠ "java/lang/invoke/MethodHandle" ∧ (ym y).cls ≠ "java/lang/invoke/VarHandle" ∧ (parseMethodDescriptor (ym y).desc).map (fun d => d.parameters.length) = some n
def ex_lOK (G : ex_G) (cn : Nat → String) (TT : Nat → u_T) (cl : List vw_C) (TB : List Cond) (nst : Cond → Prop) (ao : Nat → Prop) (host : String) (ym : Nat → MethodName) (bt : Nat → ByteArray) (rT : Nat → Option FieldType) (o i : Nat) (r : ex_Lk) : Prop := match r with
  | (0, c, k, z) => ex_fL G cn TT cl TB nst host o i 0 c k z
  | (1, c, k, z) => ex_fL G cn TT cl TB nst host o i 1 c k z
  | (2, y, n, _) => ex_mK G cn TB ym bt rT y n ∧ ex_cOK G cn TT cl TB (ex_ow G y) ∧ Cond.instanceMethod (ym y) ∈ TB ∧ Cond.selects (cn (ex_ow G y)) (ym y) (ym y) ∈ TB ∧ Cond.methodLink (cn o) i (ym y) ∈ TB
  | (3, y, n, _) => ex_mK G cn TB ym bt rT y n ∧ ex_cOK G cn TT cl TB (ex_ow G y) ∧ Cond.instanceMethod (ym y) ∈ TB ∧ Cond.selects (cn (ex_ow G y)) (ym y) (ym y) ∈ TB ∧ nst (Cond.methodLinkNest (cn o) i (ym y) host)
  | (4, y, n, _) => ex_mK G cn TB ym bt rT y n ∧ Cond.static (ym y) ∈ TB ∧ Cond.methodLink (cn o) i (ym y) ∈ TB
  | (5, y, n, _) => ex_mK G cn TB ym bt rT y n ∧ Cond.static (ym y) ∈ TB ∧ nst (Cond.methodLinkNest (cn o) i (ym y) host)
  | (6, y, n, _) => ex_mK G cn TB ym bt rT y n ∧ ex_rt G y = 5 ∧ Cond.instanceMethod (ym y) ∈ TB ∧ Cond.methodLink (cn o) i (ym y) ∈ TB
  | (7, y, n, _) => ex_mK G cn TB ym bt rT y n ∧ ex_rt G y = 5 ∧ Cond.instanceMethod (ym y) ∈ TB ∧ nst (Cond.methodLinkNest (cn o) i (ym y) host)
  | (8, _, _, _) => Cond.methodLink (cn o) i Lib.objectInit ∈ TB ∧ Cond.instanceMethod Lib.objectInit ∈ TB ∧ Cond.code Lib.objectInit ⟨#[0xb1]⟩ 1 none ∈ TB
  | (9, c, k, _) => ex_cOK G cn TT cl TB c ∧ Cond.classLink (cn o) i (cn c) ∈ TB ∧ (k = 1 → ao c)
  | (11, _, _, z) => Cond.constant (cn o) i (Int32.ofInt z) ∈ TB
  | (12, _, _, z) => Cond.constantLong (cn o) i (Int64.ofInt z) ∈ TB
  | (13, _, _, _) => Cond.methodLink (cn o) i arraycopyName ∈ TB ∧ Cond.native arraycopyName ∈ TB ∧ Cond.static arraycopyName ∈ TB ∧ Cond.initialized "java/lang/System" ∈ TB
  | (14, _, _, _) => Cond.methodLink (cn o) i Lib.Math.max.name ∈ TB ∧ Cond.static Lib.Math.max.name ∈ TB ∧ Cond.initialized "java/lang/Math" ∈ TB ∧ Cond.code Lib.Math.max.name Lib.Math.max.code 2 (some .int) ∈ TB
  | _ => False
/-- the program's facts -/
def ex_PF (G : ex_G) (cn : Nat → String) (TT : Nat → u_T) (cl : List vw_C) (TB : List Cond) (nst : Cond → Prop) (ao : Nat → Prop) (host : String) (ym : Nat → MethodName) (bt : Nat → ByteArray) (rT : Nat → Option FieldType) : Prop :=
  (∀ w ∈ TB, (w.onTables && w.keeps) = true ∨ ∃ ty, w = .arrayClass ty) ∧
  (∀ w, nst w → (∃ (a : String) (i : Nat) (x n d : String), w = .fieldLinkNest a i x n d host) ∨ (∃ (a : String) (i : Nat) (x : MethodName), w = .methodLinkNest a i x host)) ∧
  (Cond.arrayClass .int ∈ TB ∧ Cond.arrayClass .boolean ∈ TB) ∧
  (∀ o i r, ex_look (ex_lt G o) i = some r → ex_lOK G cn TT cl TB nst ao host ym bt rT o i r) ∧
  (∀ i c, ex_kd G i = (0, c) → ex_cOK G cn TT cl TB c)
section EXR
variable {p : Program} {l : Launch} {e : Env} {R : Room} {s : State} {m : MethodId} {args : Array Value} {below : List Frame} {meth : Method} {c : Code} {H : Heap} {locs : List Loc} {cells slots : Nat} {Q : State → Prop}
variable {cc : ByteArray} {pc : Nat} {ls : Array Slot} {rest : List Value}
variable {G : ex_G} {cn : Nat → String} {TT : Nat → u_T} {cl : List vw_C} {TB : List Cond} {nst : Cond → Prop} {ao : Nat → Prop} {host : String} {ym : Nat → MethodName} {bt : Nat → ByteArray} {rT : Nat → Option FieldType} {D : va_G} {ca : Nat → ClassId} {base b L : Nat} {xs : Nat → Int32} {h h' : ex_Hp}
/-- the facts of a frame of method mi -/
def ex_Fr (G : ex_G) (cn : Nat → String) (TB : List Cond) (bt : Nat → ByteArray) (rT : Nat → Option FieldType) (p : Program) (s : State) (m : MethodId) (args : Array Value) (meth : Method) (c : Code) (mi : Nat) : Prop :=
  p.tables.exec = Jvm.exec ∧ c.code = bt mi ∧ c.maxLocals = ex_mx G mi ∧ s.vm.findClass (cn (ex_ow G mi)) = some m.cls ∧ (∀ w ∈ TB, w.before args s = true) ∧ (ex_rt G mi = 5 → meth.name = "<init>") ∧ meth.sig.returnType = rT mi ∧ meth.locks = false
theorem ex_cat_sum (ad : Nat → Nat) (u : List Value) : ((u.map (ex_rv ad)).map fun v => v.category).sum = (u.map fun v => v.category).sum := by
  rw [List.map_map]
  congr 1
  apply List.map_congr_left
  intro v _
  exact ex_rv_cat ad v
set_option maxHeartbeats 4000000 in
theorem ex_mem_ok (PF : ex_PF G cn TT cl TB nst ao host ym bt rT) {d mi n0 k0 : Nat} (F : ex_Fr G cn TB bt rT p s m args meth c mi) (hU : ex_U cn ca nst ao base b L xs s) (hls : ls.size = ex_mx G mi) (hR : 1 ≤ d → 1 ≤ R.frames ∧ 37 ≤ R.locals) (hw : ex_Wd G cn cl D ca base b s H h) (hS : va_S (fun q => base ≤ q) s.heap H locs)
    (h0 : s.heap.size = base + n0) (hn0 : n0 ≤ h.1) (hk0 : k0 ≤ h.2.1) (hfc : h'.1 ≤ n0 + R.cells) (hfs : h'.2.1 ≤ k0 + R.slots) {st st' : List Value} {ins : Instr} (hx : ex_mem G (L + 1) xs d mi st h ins = some (st', h')) (hd : ex_dec (bt mi) pc ins)
    (kk : ∀ (H1 : Heap) (locs1 : List Loc), ex_Wd G cn cl D ca base b s H1 h' → va_S (fun q => base ≤ q) s.heap H1 locs1 → W p l e R s m args below meth c H1 locs1 (h'.1 - n0) (h'.2.1 - k0) Q (F0 m (pc + ex_len ins) ls (st'.map (ex_rv (ex_ad base b))))) :
    W p l e R s m args below meth c H locs (h.1 - n0) (h.2.1 - k0) Q (F0 m pc ls (st.map (ex_rv (ex_ad base b)))) := by
  obtain ⟨hexec, hb, hml, hown, hts, hnam, -, -⟩ := F
  obtain ⟨PG, PN, PA, PL, PC⟩ := PF
  cases ins with
  | getfield i =>
    simp only [ex_mem] at hx
    split at hx
    · rename_i tag c0 k z hlk
      split at hx
      · rename_i ht
        obtain ⟨a, t, rfl, hxq1⟩ := ex_pa_some hx
        split at hxq1
        · rename_i hc
          obtain ⟨h1, h2, h3⟩ := hc
          cases hxq1
          have hok := PL _ _ _ hlk
          have hok : ex_fL G cn TT cl TB nst host (ex_ow G mi) i tag c0 k z := by
            rcases (by omega : tag = 0 ∨ tag = 1) with rfl | rfl <;> exact hok
          exact ex_get_ok hexec hb hts hU.1 hok hown hw h1 h2 h3 hd (kk H locs hw hS)
        · cases hxq1
      · cases hx
    · cases hx
  | putfield i =>
    simp only [ex_mem] at hx
    split at hx
    · rename_i tag c0 k z hlk
      split at hx
      · rename_i ht
        have hok := PL _ _ _ hlk
        have hok : ex_fL G cn TT cl TB nst host (ex_ow G mi) i tag c0 k z := by
          rcases ht.1 with rfl | ⟨rfl, -⟩ <;> exact hok
        have hz : z = 0 ∨ tag = 0 ∧ z = 1 ∧ ex_ow G mi = c0 ∧ meth.name = "<init>" := by
          rcases ht.2 with hz | ⟨hz, ho, hr⟩
          · exact Or.inl hz
          · rcases ht.1 with h0 | ⟨-, h0⟩
            · exact Or.inr ⟨h0, hz, ho, hnam hr⟩
            · exact Or.inl h0
        split at hx
        · rename_i hf
          obtain ⟨v, t, rfl, hxq2⟩ := ex_pn_some hx
          obtain ⟨a, u, rfl, hxq3⟩ := ex_pa_some hxq2
          split at hxq3
          · rename_i hc
            obtain ⟨h1, h2, h3⟩ := hc
            cases hxq3
            exact ex_putP_ok hexec hb hts hU.1 hok hown hw hS h1 h2 h3 hz hf hd kk
          · cases hxq3
        · rename_i hf
          obtain ⟨v, t, rfl, hxq4⟩ := ex_pi_some hx
          obtain ⟨a, u, rfl, hxq5⟩ := ex_pa_some hxq4
          split at hxq5
          · rename_i hc
            obtain ⟨h1, h2, h3, h4⟩ := hc
            cases hxq5
            exact ex_putI_ok hexec hb hts hU.1 hok hown hw hS h1 h2 h3 hz h4 hd kk
          · cases hxq5
      · cases hx
    · cases hx
  | iaload =>
    simp only [ex_mem] at hx
    obtain ⟨i, t, rfl, hxq6⟩ := ex_pi_some hx
    obtain ⟨a, u, rfl, hxq7⟩ := ex_pa_some hxq6
    split at hxq7
    · rename_i ha
      split at hxq7
      · rename_i hi
        cases hxq7
        subst ha
        have e1 : ex_ad base b ex_scr = b := if_pos rfl
        have g := va_sld (l := l) (e := e) (R := R) (below := below) (meth := meth) (cells := h.1 - n0) (slots := h.2.1 - k0) (Q := Q) (args := args) (m := m) (ls := ls) (rest := u.map (ex_rv (ex_ad base b))) hexec hb hU.2.2.2.1 (Nat.lt_of_lt_of_le hU.2.2.2.2.1 hU.2.2.2.2.2) (A := fun q => base ≤ q) (fun q => absurd hU.2.2.2.2.1 (Nat.not_lt.mpr q)) hS (ex_in_vp hi) hd (kk H locs hw hS)
        rw [← e1] at g
        exact g
      · cases hxq7
    · split at hxq7
      · rename_i hc
        obtain ⟨h1, h2, h3⟩ := hc
        cases hxq7
        exact ex_iald_ok hexec hb hw h1 (n := (ex_kd G a).2) (by rw [← h2]) h3 hd (kk H locs hw hS)
      · cases hxq7
  | baload =>
    simp only [ex_mem] at hx
    obtain ⟨i, t, rfl, hxq8⟩ := ex_pi_some hx
    obtain ⟨a, u, rfl, hxq9⟩ := ex_pa_some hxq8
    split at hxq9
    · rename_i hc
      obtain ⟨h1, h2, h3⟩ := hc
      cases hxq9
      exact ex_zald_ok hexec hb hw h1 (n := (ex_kd G a).2) (by rw [← h2]) h3 hd (kk H locs hw hS)
    · cases hxq9
  | aaload =>
    simp only [ex_mem] at hx
    obtain ⟨i, t, rfl, hxq10⟩ := ex_pi_some hx
    obtain ⟨a, u, rfl, hxq11⟩ := ex_pa_some hxq10
    split at hxq11
    · rename_i hc
      obtain ⟨h1, h2, h3⟩ := hc
      cases hxq11
      exact ex_aald_ok hexec hb hw h1 (t := (ex_kd G a).1 - 3) (n := (ex_kd G a).2) (by rw [Nat.sub_add_cancel h2]) h3 hd (kk H locs hw hS)
    · cases hxq11
  | iastore =>
    simp only [ex_mem] at hx
    obtain ⟨x, s1, rfl, hxq12⟩ := ex_pi_some hx
    obtain ⟨i, t, rfl, hxq13⟩ := ex_pi_some hxq12
    obtain ⟨a, u, rfl, hxq14⟩ := ex_pa_some hxq13
    split at hxq14
    · rename_i hc
      obtain ⟨h1, h2, h3⟩ := hc
      cases hxq14
      exact ex_iast_ok hexec hb hw hS h1 (n := (ex_kd G a).2) (by rw [← h2]) h3 hd kk
    · cases hxq14
  | bastore =>
    simp only [ex_mem] at hx
    obtain ⟨x, s1, rfl, hxq15⟩ := ex_pi_some hx
    obtain ⟨i, t, rfl, hxq16⟩ := ex_pi_some hxq15
    obtain ⟨a, u, rfl, hxq17⟩ := ex_pa_some hxq16
    split at hxq17
    · rename_i hc
      obtain ⟨h1, h2, h3, h4⟩ := hc
      cases hxq17
      exact ex_zast_ok hexec hb hw hS h1 (n := (ex_kd G a).2) (by rw [← h2]) h3 h4 hd kk
    · cases hxq17
  | aastore =>
    simp only [ex_mem] at hx
    obtain ⟨x, s1, rfl, hxq18⟩ := ex_pa_some hx
    obtain ⟨i, t, rfl, hxq19⟩ := ex_pi_some hxq18
    obtain ⟨a, u, rfl, hxq20⟩ := ex_pa_some hxq19
    split at hxq20
    · rename_i hc
      obtain ⟨h1, h2, h3, h4, h5⟩ := hc
      cases hxq20
      have hkx : ex_kd G x = (0, (ex_kd G x).2) := by rw [← h4]
      exact ex_aast_ok hexec hb hw hS h1 (t := (ex_kd G x).2) (n := (ex_kd G a).2) (by rw [Nat.add_comm, ← h3]) h2 hkx (PC _ _ hkx) h5 hd kk
    · cases hxq20
  | arraylength =>
    simp only [ex_mem] at hx
    obtain ⟨a, u, rfl, hxq21⟩ := ex_pa_some hx
    split at hxq21
    · rename_i ha
      rw [if_neg (Nat.succ_ne_zero L)] at hxq21
      cases hxq21
      subst ha
      have e1 : ex_ad base b ex_scr = b := if_pos rfl
      have g := va_slen (l := l) (e := e) (R := R) (below := below) (meth := meth) (cells := h.1 - n0) (slots := h.2.1 - k0) (Q := Q) (args := args) (m := m) (ls := ls) (rest := u.map (ex_rv (ex_ad base b))) hexec hb hU.2.2.2.1 (Nat.lt_of_lt_of_le hU.2.2.2.2.1 hU.2.2.2.2.2) (A := fun q => base ≤ q) (fun q => absurd hU.2.2.2.2.1 (Nat.not_lt.mpr q)) hS hd (kk H locs hw hS)
      rw [← e1] at g
      exact g
    · split at hxq21
      · rename_i hc
        obtain ⟨h1, h2⟩ := hc
        cases hxq21
        exact ex_alen_ok hexec hb hw h1 (k := (ex_kd G a).1 - 1) (n := (ex_kd G a).2) (by rw [Nat.sub_add_cancel h2]) hd (kk H locs hw hS)
      · cases hxq21
  | newarray ty =>
    simp only [ex_mem] at hx
    obtain ⟨n, u, rfl, hxq22⟩ := ex_pi_some hx
    split at hxq22
    · rename_i hc
      obtain ⟨h1, h2, h3, h4⟩ := hc
      cases hxq22
      have q1 : h.1 + 1 ≤ n0 + R.cells := hfc
      have q2 : h.2.1 + n.toNatClampNeg ≤ k0 + R.slots := hfs
      have kk2 : ∀ H1 : Heap, ex_Wd G cn cl D ca base b s H1 (ex_hN h n.toNatClampNeg) → va_S (fun q => base ≤ q) s.heap H1 locs → W p l e R s m args below meth c H1 locs (h.1 - n0 + 1) (h.2.1 - k0 + n.toNatClampNeg) Q (F0 m (pc + 2) ls (.ref (ex_ad base b h.1) :: u.map (ex_rv (ex_ad base b)))) := by
        intro H1 w1 s1
        have g := kk H1 locs w1 s1
        rw [show (ex_hN h n.toNatClampNeg).1 - n0 = h.1 - n0 + 1 from by show h.1 + 1 - n0 = _; omega, show (ex_hN h n.toNatClampNeg).2.1 - k0 = h.2.1 - k0 + n.toNatClampNeg from by show h.2.1 + n.toNatClampNeg - k0 = _; omega] at g
        exact g
      rcases h4 with ⟨rfl, h4⟩ | ⟨rfl, h4⟩
      · exact ex_newa_ok hexec hb hU hw hS (by omega) (atype := .int) (k := 0) (hts _ PA.1) rfl (by omega) h1 h2 h3 h4 (by omega) (by omega) hd kk2
      · exact ex_newa_ok hexec hb hU hw hS (by omega) (atype := .boolean) (k := 1) (hts _ PA.2) rfl (by omega) h1 h2 h3 h4 (by omega) (by omega) hd kk2
    · cases hxq22
  | anewarray i =>
    simp only [ex_mem] at hx
    split at hx
    · rename_i tag c0 k z hlk
      obtain ⟨n, u, rfl, hxq23⟩ := ex_pi_some hx
      split at hxq23
      · rename_i hc
        obtain ⟨⟨rfl, rfl⟩, h1, h2, h3, h4⟩ := hc
        cases hxq23
        have q1 : h.1 + 1 ≤ n0 + R.cells := hfc
        have q2 : h.2.1 + n.toNatClampNeg ≤ k0 + R.slots := hfs
        have hok := PL _ _ _ hlk
        refine ex_newq_ok hexec hb hU hw hS (by omega) hown (hts _ hok.2.1) (hok.2.2 rfl) h1 h2 h3 (by rw [h4, Nat.add_comm]) (by omega) (by omega) hd (fun H1 w1 s1 => ?_)
        have g := kk H1 locs w1 s1
        rw [show (ex_hN h n.toNatClampNeg).1 - n0 = h.1 - n0 + 1 from by show h.1 + 1 - n0 = _; omega, show (ex_hN h n.toNatClampNeg).2.1 - k0 = h.2.1 - k0 + n.toNatClampNeg from by show h.2.1 + n.toNatClampNeg - k0 = _; omega] at g
        exact g
      · cases hxq23
    · cases hx
  | new i =>
    simp only [ex_mem] at hx
    split at hx
    · rename_i tag c0 k z hlk
      split at hx
      · rename_i hc
        obtain ⟨rfl, h3, h4⟩ := hc
        cases hx
        have q1 : h.1 + 1 ≤ n0 + R.cells := hfc
        have q2 : h.2.1 + ex_nf G c0 ≤ k0 + R.slots := hfs
        have hok := PL _ _ _ hlk
        refine ex_new_ok hexec hb hts hU hw hS (by omega) hown (hts _ hok.2.1) hok.1 h3 h4 (by omega) (by omega) hd (fun H1 w1 s1 => ?_)
        have g := kk H1 locs w1 s1
        rw [show (ex_hN h (ex_nf G c0)).1 - n0 = h.1 - n0 + 1 from by show h.1 + 1 - n0 = _; omega, show (ex_hN h (ex_nf G c0)).2.1 - k0 = h.2.1 - k0 + ex_nf G c0 from by show h.2.1 + ex_nf G c0 - k0 = _; omega] at g
        exact g
      · cases hx
    · cases hx
  | ldc i =>
    simp only [ex_mem] at hx
    split at hx
    · rename_i tag c0 k z hlk
      split at hx
      · rename_i hc
        subst hc
        cases hx
        exact lv_ldc hexec hb hown (hts _ (PL _ _ _ hlk)) hd (kk H locs hw hS)
      · cases hx
    · cases hx
  | ldc_w i =>
    simp only [ex_mem] at hx
    split at hx
    · rename_i tag c0 k z hlk
      split at hx
      · rename_i hc
        subst hc
        cases hx
        exact lv_ldcw hexec hb hown (hts _ (PL _ _ _ hlk)) hd (kk H locs hw hS)
      · cases hx
    · cases hx
  | ldc2_w i =>
    simp only [ex_mem] at hx
    split at hx
    · rename_i tag c0 k z hlk
      split at hx
      · rename_i hc
        subst hc
        cases hx
        exact lv_ldc2 hexec hb hown (hts _ (PL _ _ _ hlk)) hd (kk H locs hw hS)
      · cases hx
    · cases hx
  | invokespecial i =>
    simp only [ex_mem] at hx
    split at hx
    · rename_i tag c0 k z hlk
      split at hx
      · rename_i hc
        obtain ⟨rfl, hd1⟩ := hc
        obtain ⟨a, u, rfl, hxq24⟩ := ex_pa_some hx
        split at hxq24
        · rename_i hu
          cases hxq24
          obtain ⟨g1, g2, g3⟩ := PL _ _ _ hlk
          obtain ⟨r1, r2⟩ := hR hd1
          refine W.objInit hexec hb hown (hts _ g1) (hts _ g2) (hts _ g3) (g := F0 m pc ls (.ref (ex_ad base b a) :: st'.map (ex_rv (ex_ad base b)))) rfl (hls.trans hml.symm) rfl hd r1 ?_ (kk H locs hw hS)
          show 2 * 0 + _ + 12 ≤ _
          rw [ex_cat_sum]
          omega
        · cases hxq24
      · cases hx
    · cases hx
  | invokestatic i =>
    simp only [ex_mem] at hx
    split at hx
    · rename_i tag c0 k z hlk
      split at hx
      · rename_i hc
        obtain ⟨rfl, hd1⟩ := hc
        obtain ⟨n, s1, rfl, hxq25⟩ := ex_pi_some hx
        obtain ⟨dp, s2, rfl, hxq26⟩ := ex_pi_some hxq25
        obtain ⟨a, s3, rfl, hxq27⟩ := ex_pa_some hxq26
        obtain ⟨sp, s4, rfl, hxq28⟩ := ex_pi_some hxq27
        obtain ⟨a0, u, rfl, hxq29⟩ := ex_pa_some hxq28
        split at hxq29
        · rename_i hu
          obtain ⟨u1, u2, u3, u4, u5, u6, u7, u8, u9, u10⟩ := hu
          cases hxq29
          obtain ⟨g1, g2, g3, g4⟩ := PL _ _ _ hlk
          obtain ⟨r1, r2⟩ := hR hd1
          exact ex_copy_ok hexec hb (hml.trans hls.symm) hown (hts _ g1) (hts _ g2) (hts _ g3) (hts _ g4) hw hS u3 u2 (n0 := (ex_kd G a0).2) (n1 := (ex_kd G a).2) (by rw [← u5]) (by rw [← u4]) u6 u7 u8 u9 u10 r1 (by rw [ex_cat_sum]; omega) hd kk
        · cases hxq29
      · split at hx
        · rename_i hc
          obtain ⟨rfl, hd1⟩ := hc
          obtain ⟨y, s1, rfl, hxm1⟩ := ex_pi_some hx
          obtain ⟨x, u, rfl, hxm2⟩ := ex_pi_some hxm1
          split at hxm2
          · rename_i hu
            cases hxm2
            obtain ⟨g1, g2, g3, g4⟩ := PL _ _ _ hlk
            obtain ⟨r1, r2⟩ := hR hd1
            exact va_mmax hexec hb (hml.trans hls.symm) hown (hts _ g1) (hts _ g2) (hts _ g3) (hts _ g4) r1 (by rw [ex_cat_sum]; omega) (by omega) (by omega) hd (kk H locs hw hS)
          · cases hxm2
        · cases hx
    · cases hx
  | _ => exact absurd (show (none : Option ex_Mr) = some _ from hx) (fun q => by cases q)
end EXR
end
section
theorem ex_sl_len (vs : List Value) : (lg_sl vs).length = (vs.map fun v => v.category).sum := by
  induction vs with
  | nil => rfl
  | cons v t ih =>
    have e1 : lg_sl (v :: t) = (if v.category = 2 then [Slot.val v, .second] else [.val v]) ++ lg_sl t := by simp [lg_sl]
    rw [e1, List.length_append, ih, List.map_cons, List.sum_cons]
    rcases lv_cat v with h | h <;> simp [h]
theorem ex_ent_len (vs : List Value) : ∀ n, (vs.map fun v => v.category).sum ≤ n → (ex_ent n vs).length = n := by
  induction vs with
  | nil => intro n _; simp [ex_ent]
  | cons v t ih =>
    intro n hn
    rw [List.map_cons, List.sum_cons] at hn
    unfold ex_ent
    rcases lv_cat v with h | h
    · rw [if_neg (by omega), List.length_cons, ih (n - 1) (by omega)]; omega
    · rw [if_pos h, List.length_cons, List.length_cons, ih (n - 2) (by omega)]; omega
theorem ex_ent_get {ad : Nat → Nat} (vs : List Value) : ∀ (n i j : Nat) (w : Value), (ex_ent n vs)[j]? = some w → w ≠ ex_no → (i + j, ex_rv ad w) ∈ lv_args i (vs.map (ex_rv ad)) := by
  induction vs with
  | nil =>
    intro n i j w h hw
    have := List.mem_of_getElem? h
    exact absurd (List.eq_of_mem_replicate this) hw
  | cons v t ih =>
    intro n i j w h hw
    rw [List.map_cons]
    unfold lv_args
    rw [ex_rv_cat]
    unfold ex_ent at h
    by_cases hc : v.category = 2
    · rw [if_pos hc] at h
      match j with
      | 0 => cases h; exact List.mem_cons_self
      | 1 => cases h; exact absurd rfl hw
      | j + 2 =>
        refine List.mem_cons_of_mem _ ?_
        rw [if_pos hc]
        have := ih (n - 2) (i + 2) j w h hw
        rw [show i + (j + 2) = i + 2 + j by omega]
        exact this
    · rw [if_neg hc] at h
      match j with
      | 0 => cases h; exact List.mem_cons_self
      | j + 1 =>
        refine List.mem_cons_of_mem _ ?_
        rw [if_neg hc]
        have := ih (n - 1) (i + 1) j w h hw
        rw [show i + (j + 1) = i + 1 + j by omega]
        exact this
theorem ex_entry {ad : Nat → Nat} {vs : List Value} {n : Nat} (h : (vs.map fun v => v.category).sum ≤ n) : ex_LV ad ((lg_sl (vs.map (ex_rv ad)) ++ List.replicate (n - (lg_sl (vs.map (ex_rv ad))).length) Slot.unset).toArray) n (ex_ent n vs) := by
  have hl : (lg_sl (vs.map (ex_rv ad))).length ≤ n := by rw [ex_sl_len, ex_cat_sum]; exact h
  obtain ⟨h1, h2, h3⟩ := lv_entry (vs.map (ex_rv ad)) hl
  refine ⟨ex_ent_len vs n h, h1, h2, fun q hq => h3 q ?_⟩
  obtain ⟨w, g1, g2, g3⟩ := ex_kn_to hq
  obtain ⟨j, v⟩ := q
  dsimp only at g1 g3
  subst g3
  have := ex_ent_get (ad := ad) vs n 0 j w g1 g2
  rw [Nat.zero_add] at this
  exact this
theorem ex_step_mono {G : ex_G} {L : Nat} {xs : Nat → Int32} {d mi pc : Nat} {lv st : List Value} {h h' : ex_Hp} {ins : Instr} {r : ex_Pr} (hx : ex_step G L xs d mi pc lv st h ins = some (r, h')) : h.1 ≤ h'.1 ∧ h.2.1 ≤ h'.2.1 := by
  unfold ex_step at hx
  split at hx
  · cases hx; exact ⟨Nat.le_refl _, Nat.le_refl _⟩
  · split at hx
    · split at hx
      · cases hx; assumption
      · cases hx
    · cases hx
theorem ex_run_mono {G : ex_G} {L : Nat} {xs : Nat → Int32} : ∀ (f d mi pc : Nat) (lv st : List Value) (h : ex_Hp) (r : Option Value) (h' : ex_Hp), ex_run G L xs f d mi pc lv st h = some (r, h') → h.1 ≤ h'.1 ∧ h.2.1 ≤ h'.2.1 := by
  intro f
  induction f with
  | zero => intro d mi pc lv st h r h' hx; cases hx
  | succ f ih =>
    intro d mi pc lv st h r h' hx
    unfold ex_run at hx
    split at hx
    · cases hx
    · split at hx
      · rename_i hst
        have h1 := ex_step_mono hst
        have h2 := ih _ _ _ _ _ _ _ _ hx
        exact ⟨Nat.le_trans h1.1 h2.1, Nat.le_trans h1.2 h2.2⟩
      · split at hx
        · cases hx; exact ⟨Nat.le_refl _, Nat.le_refl _⟩
        · split at hx
          · cases hx
          · split at hx
            · cases hx
            · split at hx
              · cases hx
              · rename_i hc
                have h1 := ih _ _ _ _ _ _ _ _ hc
                have h2 := ih _ _ _ _ _ _ _ _ hx
                exact ⟨Nat.le_trans h1.1 h2.1, Nat.le_trans h1.2 h2.2⟩
section EXC
variable {p : Program} {l : Launch} {e : Env} {R : Room} {s : State} {m : MethodId} {args : Array Value} {below : List Frame} {meth : Method} {c : Code} {H : Heap} {locs : List Loc} {cells slots : Nat} {Q : State → Prop}
variable {cc : ByteArray} {pc : Nat} {ls : Array Slot} {rest : List Value}
variable {G : ex_G} {cn : Nat → String} {TT : Nat → u_T} {cl : List vw_C} {TB : List Cond} {nst : Cond → Prop} {ao : Nat → Prop} {host : String} {ym : Nat → MethodName} {bt : Nat → ByteArray} {rT : Nat → Option FieldType} {D : va_G} {ca : Nat → ClassId} {base b L : Nat} {xs : Nat → Int32} {h h' : ex_Hp}
theorem ex_Wd.moved {u U : State} (hvm : u.vm.Alike U.vm) (hw : ex_Wd G cn cl D ca base b u H h) : ex_Wd G cn cl D ca base b U H h := by
  obtain ⟨h1, h2, h3, tys, h4, h5⟩ := hw
  exact ⟨h1, h2, h3, tys, h4.moved hvm, h5⟩
theorem ex_size (hw : ex_Wd G cn cl D ca base b s H h) (hS : va_S (fun q => base ≤ q) s.heap H locs) {n0 : Nat} (h0 : s.heap.size = base + n0) : base + h.1 ≤ H.size := by
  by_cases hz : h.1 = 0
  · have := hS.1
    omega
  · have hg := ex_ws_get (G := G) (ca := ca) (ad := ex_ad base b) (h := h) (i := h.1 - 1) (by omega)
    have h1 := (hw.2.1 _ _ hg).lt
    have h2 := hw.1
    rw [ex_ad_lt (by omega)] at h1
    dsimp only at h1
    omega
def ex_Pc (G : ex_G) (cn : Nat → String) (cl : List vw_C) (D : va_G) (ca : Nat → ClassId) (nst : Cond → Prop) (ao : Nat → Prop) (base b L : Nat) (xs : Nat → Int32) (as : List Value) (h : ex_Hp) : Array Value → State → Prop :=
  va_Pc (as.map (ex_rv (ex_ad base b))) (fun U => ex_U cn ca nst ao base b L xs U ∧ ex_Wd G cn cl D ca base b U U.heap h ∧ U.heap.size = base + h.1)
def ex_Qc (G : ex_G) (cn : Nat → String) (cl : List vw_C) (D : va_G) (ca : Nat → ClassId) (base b : Nat) (r : Option Value) (h : ex_Hp) : Array Value → State → Outcome → State → Prop :=
  fun _ st oc t => oc = .returned (r.map (ex_rv (ex_ad base b))) ∧ ex_Wd G cn cl D ca base b t t.heap h ∧ va_F (fun q => base ≤ q) st t
theorem ex_U.to {U : State} (PN : ∀ w, nst w → (∃ (a : String) (i : Nat) (x n d : String), w = .fieldLinkNest a i x n d host) ∨ (∃ (a : String) (i : Nat) (x : MethodName), w = .methodLinkNest a i x host)) (hU : ex_U cn ca nst ao base b L xs s) (hW : s.WarmedH U.vm) (hh : U.heap[b]? = s.heap[b]?) (hs : s.heap.size ≤ U.heap.size) : ex_U cn ca nst ao base b L xs U := by
  obtain ⟨h1, h2, h3, h4, h5, h6⟩ := hU
  refine ⟨fun w hw => ?_, fun c hc => (h2 c hc).moved hW.alike, fun k cA hk => h3 k cA ?_, (h4.kept hh).moved hW.alike, h5, Nat.le_trans h6 hs⟩
  · rcases PN w hw with ⟨a, i, x, n, d, rfl⟩ | ⟨a, i, x, rfl⟩
    · exact va_Nw.warmF hW (h1 _ hw)
    · exact va_Nw.warmM hW (h1 _ hw)
  · rw [← hW.alike.findClass]; exact hk
theorem ex_blind (PN : ∀ w, nst w → (∃ (a : String) (i : Nat) (x n d : String), w = .fieldLinkNest a i x n d host) ∨ (∃ (a : String) (i : Nat) (x : MethodName), w = .methodLinkNest a i x host)) (as : List Value) : FrameBlind (ex_Pc G cn cl D ca nst ao base b L xs as h) := by
  intro a U g mk hP
  obtain ⟨h0, ⟨h1, h2, h3, h4, h5, h6⟩, hw, hz⟩ := hP
  refine ⟨h0, ⟨fun w hw => ?_, fun c hc => h2 c hc, h3, h4, h5, h6⟩, hw, hz⟩
  rcases PN w hw with ⟨a, i, x, n, d, rfl⟩ | ⟨a, i, x, rfl⟩
  · exact va_Nw.same rfl rfl (h1 _ hw)
  · exact va_Nw.same rfl rfl (h1 _ hw)
theorem ex_ret_ok {mi : Nat} (F : ex_Fr G cn TB bt rT p s m args meth c mi) (hm : ex_mB G cn TB ym bt rT mi) {st : List Value} {ins : Instr} {r : Option Value} (hx : ex_ret G mi st ins = some r) (hd : ex_dec (bt mi) pc ins) {ad : Nat → Nat} {Qc : Array Value → State → Outcome → State → Prop} {free : Addr → Prop}
    (hq : ∀ t : State, t.heap = H → s.WarmedH t.vm → Qc args s (.returned (r.map (ex_rv ad))) t) (hf : ∀ q ∈ locs, free q.base) : W p l e R s m args below meth c H locs cells slots (MQ below Qc args s cells slots free) (F0 m pc ls (st.map (ex_rv ad))) := by
  obtain ⟨hexec, hb, -, -, -, -, hr, hl⟩ := F
  obtain ⟨-, -, -, -, hrt, -⟩ := hm
  cases ins with
  | ireturn =>
    simp only [ex_ret] at hx
    split at hx
    · rename_i x
      split at hx
      · rename_i hc
        cases hx
        rcases hc with hc | ⟨hc, hb1⟩
        · rw [hc] at hrt
          exact W.iret hexec hb (hr.trans hrt) hq hf hd hl
        · rw [hc] at hrt
          exact W.zret hexec hb (hr.trans hrt) (ex_narrow_bool hb1).1 hq hf hd hl
      · cases hx
    · cases hx
  | lreturn =>
    simp only [ex_ret] at hx
    split at hx
    · rename_i x
      split at hx
      · rename_i hc
        cases hx
        rw [hc] at hrt
        exact W.lret hexec hb (hr.trans hrt) hq hf hd hl
      · cases hx
    · cases hx
  | areturn =>
    simp only [ex_ret] at hx
    split at hx
    · rename_i x
      split at hx
      · rename_i hc
        cases hx
        rw [hc] at hrt
        obtain ⟨C, hC⟩ := hrt
        exact W.aret hexec hb (hr.trans hC) (Or.inl ⟨C, rfl⟩) (Or.inr ⟨_, rfl⟩) hq hf hd hl
      · cases hx
    · split at hx
      · rename_i hc
        cases hx
        rw [hc] at hrt
        obtain ⟨C, hC⟩ := hrt
        exact W.aret hexec hb (hr.trans hC) (Or.inl ⟨C, rfl⟩) (Or.inl rfl) hq hf hd hl
      · cases hx
    · cases hx
  | return_ =>
    simp only [ex_ret] at hx
    split at hx
    · split at hx
      · rename_i hc
        cases hx
        rcases hc with hc | hc
        · rw [hc] at hrt
          exact W.vret hexec hb (hr.trans hrt) hq hf hd hl
        · rw [hc] at hrt
          exact W.vret hexec hb (hr.trans hrt.1) hq hf hd hl
      · cases hx
    · cases hx
  | _ => exact absurd (show (none : Option (Option Value)) = some _ from hx) (fun q => by cases q)
/-- behind a call -/
theorem ex_back {mc ms : Nat} {st0 : List Value} {v : Option Value} {B : State → Prop} {A : Nat → Prop} {free : Addr → Prop} (hr : va_Run p l e R s m args below meth c H locs cells slots mc ms (F0 m pc ls st0) rest (fun st oc t => oc = .returned v ∧ B t ∧ va_F A st t) free) (hS : va_S A s.heap H locs) (hf : ∀ q, free q → A q)
    (kk : ∀ (t : State) (H1 : Heap) (locs1 : List Loc), t.heap = H1 → s.vm.Alike t.vm → B t → va_S A s.heap H1 locs1 → W p l e R s m args below meth c H1 locs1 (cells + mc) (slots + ms) Q (F0 m (pc + 3) ls (v.toList ++ rest))) : W p l e R s m args below meth c H locs cells slots Q (F0 m pc ls st0) := by
  intro T hT X
  obtain ⟨v', st₀, t, T', L, h0, X', hL, e1, e2, ⟨hv, hb, hz, hk⟩, st⟩ := hr T hT X
  cases hv
  rw [h0] at hz hk
  obtain ⟨t2, a1, b1⟩ := kk t T'.heap (locs ++ L) e1.symm (by rw [← e2]; exact X'.warmed.alike) hb
    ⟨Nat.le_trans hS.1 (by rw [e1]; exact hz), fun q h1 h2 => by rw [e1, hk q (Nat.lt_of_lt_of_le h1 hS.1) h2]; exact hS.2.1 q h1 h2, fun q hq => by
      rcases List.mem_append.mp hq with h | h
      · exact hS.2.2 q h
      · exact hf _ (hL q h)⟩ T' rfl X'
  exact ⟨t2, st t2 a1, b1⟩
theorem ex_args_some {n : Nat} {st as t : List Value} (h : ex_args n st = some (as, t)) : as.length = n ∧ st = as.reverse ++ t := by
  unfold ex_args at h
  split at h
  · cases h
    refine ⟨by simp; omega, by simp⟩
  · cases h
theorem ex_good {y : Nat} (PG : ∀ w ∈ TB, (w.onTables && w.keeps) = true ∨ ∃ ty, w = .arrayClass ty) (hm : Cond.code (ym y) (bt y) (ex_mx G y) (rT y) ∈ TB) : GoodIn TB (Cond.code (ym y) (bt y) (ex_mx G y) (rT y) :: TB) := by
  intro w hw
  rcases List.mem_cons.mp hw with rfl | hw
  · exact ⟨hm, PG _ hm⟩
  · exact ⟨hw, PG _ hw⟩
end EXC
end
section
section EXS
variable {G : ex_G} {cn : Nat → String} {TT : Nat → u_T} {cl : List vw_C} {TB : List Cond} {nst : Cond → Prop} {ao : Nat → Prop} {host : String} {ym : Nat → MethodName} {bt : Nat → ByteArray} {rT : Nat → Option FieldType} {D : va_G} {ca : Nat → ClassId} {base b L : Nat} {xs : Nat → Int32}
/-- what a run of the interpreter says of the machine -/
def ex_Snd (G : ex_G) (cn : Nat → String) (cl : List vw_C) (TB : List Cond) (nst : Cond → Prop) (ao : Nat → Prop) (bt : Nat → ByteArray) (rT : Nat → Option FieldType) (D : va_G) (ca : Nat → ClassId) (base b L : Nat) (xs : Nat → Int32) (l : Launch) (d mi pc : Nat) (lv st : List Value) (h : ex_Hp) (r : Option Value) (h' : ex_Hp) : Prop :=
  ∀ (p : Program) (e : Env) (R : Room) (s : State) (m : MethodId) (args : Array Value) (below : List Frame) (meth : Method) (c : Code) (H : Heap) (locs : List Loc) (Q : State → Prop) (ls : Array Slot) (n0 k0 : Nat),
    ex_Fr G cn TB bt rT p s m args meth c mi → ex_U cn ca nst ao base b L xs s → ex_LV (ex_ad base b) ls (ex_mx G mi) lv → d ≤ R.frames → 37 * d ≤ R.locals → ex_Wd G cn cl D ca base b s H h → va_S (fun q => base ≤ q) s.heap H locs → s.heap.size = base + n0 → n0 ≤ h.1 → k0 ≤ h.2.1 → h'.1 ≤ n0 + R.cells → h'.2.1 ≤ k0 + R.slots →
    (∀ (pc' : Nat) (ins : Instr) (ls' : Array Slot) (st' : List Value) (H1 : Heap) (locs1 : List Loc), ex_look (ex_cd G mi) pc' = some ins → ex_ret G mi st' ins = some r → ex_Wd G cn cl D ca base b s H1 h' → va_S (fun q => base ≤ q) s.heap H1 locs1 → W p l e R s m args below meth c H1 locs1 (h'.1 - n0) (h'.2.1 - k0) Q (F0 m pc' ls' (st'.map (ex_rv (ex_ad base b))))) →
    W p l e R s m args below meth c H locs (h.1 - n0) (h.2.1 - k0) Q (F0 m pc ls (st.map (ex_rv (ex_ad base b))))
def ex_rm (d mc ms : Nat) : Room := { frames := d, cells := mc, slots := ms, locals := 37 * d }
theorem ex_met (PF : ex_PF G cn TT cl TB nst ao host ym bt rT) {l : Launch} {d y : Nat} {as : List Value} {h h1 : ex_Hp} {r : Option Value} (hm : ex_mB G cn TB ym bt rT y) (hfit : ex_fit G y as = true) (hs : ex_Snd G cn cl TB nst ao bt rT D ca base b L xs l d y 0 (ex_ent (ex_mx G y) as) [] h r h1) (hmo : h.1 ≤ h1.1 ∧ h.2.1 ≤ h1.2.1) :
    Met l (ym y) (Cond.code (ym y) (bt y) (ex_mx G y) (rT y) :: TB) (ex_rm d (h1.1 - h.1) (h1.2.1 - h.2.1)) (ex_Pc G cn cl D ca nst ao base b L xs as h) (ex_Qc G cn cl D ca base b r h1) (h1.1 - h.1) (h1.2.1 - h.2.1) (fun q => base ≤ q) := by
  refine Met.ofW (cc := bt y) (maxL := ex_mx G y) (ret := rT y) hm.2.1 rfl ?_
  intro p e s m args below meth c s₁ B hml hv
  obtain ⟨rfl, hU, hw, hz⟩ := hv
  have hts : ∀ w ∈ (Cond.code (ym y) (bt y) (ex_mx G y) (rT y) :: TB), w.before (as.map (ex_rv (ex_ad base b))).toArray s = true := atoms_spec (ws := Cond.code (ym y) (bt y) (ex_mx G y) (rT y) :: TB) B.pre
  have hcls : s.vm.findClass (cn (ex_ow G y)) = some m.cls := by rw [← hm.2.2.1]; exact findClass_of_methodNamed B.named
  have hnm : ex_rt G y = 5 → meth.name = "<init>" := by
    intro h5
    have hrt := hm.2.2.2.2.1
    rw [h5] at hrt
    exact (name_of_methodNamed B.named B.method).1.trans hrt.2
  have F : ex_Fr G cn TB bt rT p s m (as.map (ex_rv (ex_ad base b))).toArray meth c y := ⟨B.exec, B.bytes, hml, hcls, fun w hw => hts w (List.mem_cons_of_mem _ hw), hnm, B.returns, B.notSynchronized⟩
  rw [lg_entry_eq]
  have g := hs p e (headSpec (Cond.code (ym y) (bt y) (ex_mx G y) (rT y) :: TB) (ex_rm d (h1.1 - h.1) (h1.2.1 - h.2.1))).room s m _ below meth c s.heap [] (MQ below (ex_Qc G cn cl D ca base b r h1) (as.map (ex_rv (ex_ad base b))).toArray s (h1.1 - h.1) (h1.2.1 - h.2.1) (fun q => base ≤ q)) _ h.1 h.2.1 F hU (ex_entry (of_decide_eq_true hfit)) (Nat.le_refl _) (Nat.le_refl _) hw va_S.rf hz (Nat.le_refl _) (Nat.le_refl _)
    (by show h1.1 ≤ h.1 + (h1.1 - h.1); omega) (by show h1.2.1 ≤ h.2.1 + (h1.2.1 - h.2.1); omega)
    (fun pc' ins ls' st' H1 locs1 hl hr w1 s1 => ex_ret_ok F hm hr (hm.2.2.2.2.2 _ _ hl) (fun t ht hW => ⟨rfl, by rw [ht]; exact w1.moved hW.alike, s1.F ht⟩) s1.2.2)
  rw [Nat.sub_self, Nat.sub_self] at g
  exact g
theorem ex_rest (r : Option Value) (u : List Value) (ad : Nat → Nat) : (r.map (ex_rv ad)).toList ++ u.map (ex_rv ad) = (r.toList ++ u).map (ex_rv ad) := by cases r <;> rfl
set_option maxHeartbeats 4000000 in
theorem ex_call_ok (PF : ex_PF G cn TT cl TB nst ao host ym bt rT) {p : Program} {l : Launch} {e : Env} {R : Room} {s : State} {m : MethodId} {args : Array Value} {below : List Frame} {meth : Method} {c : Code} {H : Heap} {locs : List Loc} {Q : State → Prop} {ls : Array Slot} {n0 k0 d mi pc y : Nat} {st as u : List Value} {h h1 : ex_Hp} {r : Option Value} {ins : Instr}
    (F : ex_Fr G cn TB bt rT p s m args meth c mi) (hU : ex_U cn ca nst ao base b L xs s) (hl : ls.size = ex_mx G mi) (hR1 : d + 1 ≤ R.frames) (hR2 : 37 * (d + 1) ≤ R.locals) (hw : ex_Wd G cn cl D ca base b s H h) (hS : va_S (fun q => base ≤ q) s.heap H locs) (h0 : s.heap.size = base + n0) (hn0 : n0 ≤ h.1) (hk0 : k0 ≤ h.2.1)
    (hc : ex_call G mi st h ins = some (y, as, u)) (hd : ex_dec (bt mi) pc ins) (hs : ex_mB G cn TB ym bt rT y → ex_Snd G cn cl TB nst ao bt rT D ca base b L xs l d y 0 (ex_ent (ex_mx G y) as) [] h r h1) (hmo : h.1 ≤ h1.1 ∧ h.2.1 ≤ h1.2.1) (hfc : h1.1 ≤ n0 + R.cells) (hfs : h1.2.1 ≤ k0 + R.slots)
    (kk : ∀ (H1 : Heap) (locs1 : List Loc), ex_Wd G cn cl D ca base b s H1 h1 → va_S (fun q => base ≤ q) s.heap H1 locs1 → W p l e R s m args below meth c H1 locs1 (h1.1 - n0) (h1.2.1 - k0) Q (F0 m (pc + 3) ls ((r.toList ++ u).map (ex_rv (ex_ad base b))))) :
    W p l e R s m args below meth c H locs (h.1 - n0) (h.2.1 - k0) Q (F0 m pc ls (st.map (ex_rv (ex_ad base b)))) := by
  refine ex_W_size (fun hsz => ?_)
  have hsize : H.size = base + h.1 := by
    have := ex_size hw hS h0
    omega
  have hpre : ∀ U : State, U.heap = H → s.WarmedH U.vm → ex_Pc G cn cl D ca nst ao base b L xs as h (as.map (ex_rv (ex_ad base b))).toArray U := by
    intro U hUh hW
    refine ⟨rfl, ex_U.to PF.2.1 hU hW ?_ (by rw [hUh]; exact hS.1), by rw [hUh]; exact hw.moved hW.alike, by rw [hUh]; exact hsize⟩
    rw [hUh]
    exact hS.2.1 b (Nat.lt_of_lt_of_le hU.2.2.2.2.1 hU.2.2.2.2.2) (fun q => absurd hU.2.2.2.2.1 (Nat.not_lt.mpr q))
  have hbl := ex_blind (G := G) (cl := cl) (D := D) (ca := ca) (cn := cn) (ao := ao) (base := base) (b := b) (L := L) (xs := xs) (h := h) PF.2.1 as
  have hcells : h.1 - n0 + (h1.1 - h.1) = h1.1 - n0 := by omega
  have hslots : h.2.1 - k0 + (h1.2.1 - h.2.1) = h1.2.1 - k0 := by omega
  have hfit : h.1 - n0 + (h1.1 - h.1) ≤ R.cells ∧ h.2.1 - k0 + (h1.2.1 - h.2.1) ≤ R.slots := by omega
  have fin : ∀ {a : Array Value}, va_Run p l e R s m args below meth c H locs (h.1 - n0) (h.2.1 - k0) (h1.1 - h.1) (h1.2.1 - h.2.1) (F0 m pc ls (st.map (ex_rv (ex_ad base b)))) (u.map (ex_rv (ex_ad base b))) (ex_Qc G cn cl D ca base b r h1 a) (fun q => base ≤ q) →
      W p l e R s m args below meth c H locs (h.1 - n0) (h.2.1 - k0) Q (F0 m pc ls (st.map (ex_rv (ex_ad base b)))) := by
    intro a hr
    refine ex_back (v := r.map (ex_rv (ex_ad base b))) (B := fun t => ex_Wd G cn cl D ca base b t t.heap h1) hr hS (fun q hq => hq) (fun t H1 locs1 ht hal w1 s1 => ?_)
    rw [hcells, hslots, ex_rest]
    refine kk H1 locs1 ?_ s1
    rw [ht] at w1
    exact w1.moved hal.symm
  obtain ⟨hexec, hb, hml, hown, hts, hnam, -, -⟩ := F
  have S : CallFix p m c (bt mi) (ex_mx G mi) s args TB (cn (ex_ow G mi)) := ⟨hexec, hb, hml, hown, hts⟩
  obtain ⟨PG, PN, PA, PL, PC⟩ := PF
  have PF : ex_PF G cn TT cl TB nst ao host ym bt rT := ⟨PG, PN, PA, PL, PC⟩
  cases ins with
  | invokevirtual i =>
    simp only [ex_call] at hc
    split at hc
    · rename_i tag y' n z hlk
      split at hc
      · rename_i ht
        split at hc
        · rename_i as' t' ha
          obtain ⟨ha1, rfl⟩ := ex_args_some ha
          obtain ⟨a, u', rfl, hcq1⟩ := ex_pa_some hc
          split at hcq1
          · rename_i hcc
            obtain ⟨c1, c2, c3, c4⟩ := hcc
            cases hcq1
            have hst : ((as'.reverse ++ .ref a :: u).map (ex_rv (ex_ad base b))) = (as'.map (ex_rv (ex_ad base b))).reverse ++ .ref (ex_ad base b a) :: u.map (ex_rv (ex_ad base b)) := by simp [ex_rv]
            have hcat : 2 * 0 + ((u.map (ex_rv (ex_ad base b))).map fun v => v.category).sum ≤ 8 := by rw [ex_cat_sum]; omega
            have hok := PL _ _ _ hlk
            rcases ht with rfl | rfl
            · obtain ⟨⟨hmB, hini, hd1, hd2, hd3⟩, hcl, hin, hsel, hlink⟩ := hok
              have M := ex_met PF hmB c4 (hs hmB) hmo
              obtain ⟨tys, hK, -⟩ := hw.2.2.2
              have hrecv := va_recv hK hw.2.1 hcl.1 (ex_ws_at c1 (ex_cell_0 c2))
              exact fin (va_runV S M ⟨callB_of n hts (ex_good PG hmB.1) rfl rfl rfl (hts _ hini) (hts _ hlink) ⟨hd1, hd2, hd3⟩ ⟨by show d + 1 ≤ _; exact hR1, by show 8 + _ + 37 * d ≤ _; have := hmB.2.2.2.1; omega⟩, hts _ hin, hts _ hsel⟩ ⟨hbl, hrecv, hpre⟩ rfl (by rw [List.length_map]; exact ha1) hl hst hcat hd hfit)
            · obtain ⟨⟨hmB, hini, hd1, hd2, hd3⟩, hcl, hin, hsel, hlink⟩ := hok
              have M := ex_met PF hmB c4 (hs hmB) hmo
              obtain ⟨tys, hK, -⟩ := hw.2.2.2
              have hrecv := va_recv hK hw.2.1 hcl.1 (ex_ws_at c1 (ex_cell_0 c2))
              exact fin (va_runVN S M ⟨va_cnB n hts (ex_good PG hmB.1) rfl rfl rfl (hU.1 _ hlink) (hts _ hini) ⟨hd1, hd2, hd3⟩ ⟨by show d + 1 ≤ _; exact hR1, by show 8 + _ + 37 * d ≤ _; have := hmB.2.2.2.1; omega⟩, hts _ hin, hts _ hsel⟩ ⟨hbl, hrecv, hpre⟩ rfl (by rw [List.length_map]; exact ha1) hl hst hcat hd hfit)
          · cases hcq1
        · cases hc
      · cases hc
    · cases hc
  | invokespecial i =>
    simp only [ex_call] at hc
    split at hc
    · rename_i tag y' n z hlk
      split at hc
      · rename_i ht
        split at hc
        · rename_i as' t' ha
          obtain ⟨ha1, rfl⟩ := ex_args_some ha
          obtain ⟨a, u', rfl, hcq2⟩ := ex_pa_some hc
          split at hcq2
          · rename_i hcc
            obtain ⟨c3, c4⟩ := hcc
            cases hcq2
            have hst : ((as'.reverse ++ .ref a :: u).map (ex_rv (ex_ad base b))) = (as'.map (ex_rv (ex_ad base b))).reverse ++ .ref (ex_ad base b a) :: u.map (ex_rv (ex_ad base b)) := by simp [ex_rv]
            have hcat : 2 * 0 + ((u.map (ex_rv (ex_ad base b))).map fun v => v.category).sum ≤ 8 := by rw [ex_cat_sum]; omega
            have hok := PL _ _ _ hlk
            rcases ht with rfl | rfl
            · obtain ⟨⟨hmB, hini, hd1, hd2, hd3⟩, h5, hin, hlink⟩ := hok
              have hrt := hmB.2.2.2.2.1
              rw [h5] at hrt
              have M := ex_met PF hmB c4 (hs hmB) hmo
              have CB := callB_of (R := R) (rm := ex_rm d (h1.1 - h.1) (h1.2.1 - h.2.1)) n hts (ex_good PG hmB.1) rfl rfl rfl (hts _ hini) (hts _ hlink) ⟨hd1, hd2, hd3⟩ ⟨by show d + 1 ≤ _; exact hR1, by show 8 + _ + 37 * d ≤ _; have := hmB.2.2.2.1; omega⟩
              rw [hrt.1] at CB M
              exact fin (va_runI S M ⟨CB, hrt.2, hts _ hin⟩ ⟨hbl, hpre⟩ rfl (by rw [List.length_map]; exact ha1) hl hst hcat hd hfit)
            · obtain ⟨⟨hmB, hini, hd1, hd2, hd3⟩, h5, hin, hlink⟩ := hok
              have hrt := hmB.2.2.2.2.1
              rw [h5] at hrt
              have M := ex_met PF hmB c4 (hs hmB) hmo
              have CB := va_cnB (R := R) (rm := ex_rm d (h1.1 - h.1) (h1.2.1 - h.2.1)) n hts (ex_good PG hmB.1) rfl rfl rfl (hU.1 _ hlink) (hts _ hini) ⟨hd1, hd2, hd3⟩ ⟨by show d + 1 ≤ _; exact hR1, by show 8 + _ + 37 * d ≤ _; have := hmB.2.2.2.1; omega⟩
              rw [hrt.1] at CB M
              exact fin (va_runIN S M ⟨CB, hrt.2, hts _ hin⟩ ⟨hbl, hpre⟩ rfl (by rw [List.length_map]; exact ha1) hl hst hcat hd hfit)
          · cases hcq2
        · cases hc
      · cases hc
    · cases hc
  | invokestatic i =>
    simp only [ex_call] at hc
    split at hc
    · rename_i tag y' n z hlk
      split at hc
      · rename_i ht
        split at hc
        · rename_i as' t' ha
          obtain ⟨ha1, rfl⟩ := ex_args_some ha
          split at hc
          · rename_i hcc
            obtain ⟨c3, c4⟩ := hcc
            cases hc
            have hst : ((as.reverse ++ u).map (ex_rv (ex_ad base b))) = (as.map (ex_rv (ex_ad base b))).reverse ++ u.map (ex_rv (ex_ad base b)) := by simp
            have hcat : 2 * 0 + ((u.map (ex_rv (ex_ad base b))).map fun v => v.category).sum ≤ 8 := by rw [ex_cat_sum]; omega
            have hok := PL _ _ _ hlk
            rcases ht with rfl | rfl
            · obtain ⟨⟨hmB, hini, hd1, hd2, hd3⟩, hstt, hlink⟩ := hok
              have M := ex_met PF hmB c4 (hs hmB) hmo
              exact fin (va_runS S M ⟨callB_of n hts (ex_good PG hmB.1) rfl rfl rfl (hts _ hini) (hts _ hlink) ⟨hd1, hd2, hd3⟩ ⟨by show d + 1 ≤ _; exact hR1, by show 8 + _ + 37 * d ≤ _; have := hmB.2.2.2.1; omega⟩, hts _ hstt⟩ ⟨hbl, hpre⟩ rfl (by rw [List.length_map]; exact ha1) hl hst hcat hd hfit)
            · obtain ⟨⟨hmB, hini, hd1, hd2, hd3⟩, hstt, hlink⟩ := hok
              have M := ex_met PF hmB c4 (hs hmB) hmo
              exact fin (va_runSN S M ⟨va_cnB n hts (ex_good PG hmB.1) rfl rfl rfl (hU.1 _ hlink) (hts _ hini) ⟨hd1, hd2, hd3⟩ ⟨by show d + 1 ≤ _; exact hR1, by show 8 + _ + 37 * d ≤ _; have := hmB.2.2.2.1; omega⟩, hts _ hstt, trivial⟩ ⟨hbl, hpre⟩ rfl (by rw [List.length_map]; exact ha1) hl hst hcat hd hfit)
          · cases hc
        · cases hc
      · cases hc
    · cases hc
  | _ => exact absurd (show (none : Option ex_Cl) = some _ from hc) (fun q => by cases q)
/-- WHAT THE INTERPRETER COMPUTES, THE MACHINE DOES -/
theorem ex_main (PF : ex_PF G cn TT cl TB nst ao host ym bt rT) (l : Launch) : ∀ (f d mi pc : Nat) (lv st : List Value) (h : ex_Hp) (r : Option Value) (h' : ex_Hp), ex_run G (L + 1) xs f d mi pc lv st h = some (r, h') → (∀ pc ins, ex_look (ex_cd G mi) pc = some ins → ex_dec (bt mi) pc ins) → ex_Snd G cn cl TB nst ao bt rT D ca base b L xs l d mi pc lv st h r h' := by
  intro f
  induction f with
  | zero => intro d mi pc lv st h r h' hx; cases hx
  | succ f ih =>
    intro d mi pc lv st h r h' hx hm p e R s m args below meth c H locs Q ls n0 k0 F hU hl hR1 hR2 hw hS h0 hn0 hk0 hfc hfs hfin
    unfold ex_run at hx
    split at hx
    · cases hx
    · rename_i ins hlook
      have hd := hm _ _ hlook
      split at hx
      · rename_i pc' lv' st' h2 hst
        have mo := ex_run_mono _ _ _ _ _ _ _ _ _ hx
        unfold ex_step at hst
        split at hst
        · rename_i rr hp
          cases hst
          exact ex_pure_ok F.1 F.2.1 hp hd hl (fun ls' hl' => ih _ _ _ _ _ _ _ _ hx hm p e R s m args below meth c H locs Q ls' n0 k0 F hU hl' hR1 hR2 hw hS h0 hn0 hk0 hfc hfs hfin)
        · split at hst
          · rename_i t h3 hme
            split at hst
            · rename_i hle
              cases hst
              exact ex_mem_ok PF F hU hl.2.1 (fun q => ⟨by omega, by omega⟩) hw hS h0 hn0 hk0 (Nat.le_trans mo.1 hfc) (Nat.le_trans mo.2 hfs) hme hd (fun H1 locs1 w1 s1 => ih _ _ _ _ _ _ _ _ hx hm p e R s m args below meth c H1 locs1 Q ls n0 k0 F hU hl hR1 hR2 w1 s1 h0 (Nat.le_trans hn0 hle.1) (Nat.le_trans hk0 hle.2) hfc hfs hfin)
            · cases hst
          · cases hst
      · split at hx
        · rename_i hr
          cases hx
          exact hfin pc ins ls st H locs hlook hr hw hS
        · split at hx
          · cases hx
          · rename_i y as u hcall
            split at hx
            · cases hx
            · rename_i d'
              split at hx
              · cases hx
              · rename_i r1 h1 hrun
                have mo1 := ex_run_mono _ _ _ _ _ _ _ _ _ hrun
                have mo2 := ex_run_mono _ _ _ _ _ _ _ _ _ hx
                exact ex_call_ok PF F hU hl.2.1 hR1 hR2 hw hS h0 hn0 hk0 hcall hd (fun hmy => ih _ _ _ _ _ _ _ _ hrun hmy.2.2.2.2.2) mo1 (Nat.le_trans mo2.1 hfc) (Nat.le_trans mo2.2 hfs) (fun H1 locs1 w1 s1 => ih _ _ _ _ _ _ _ _ hx hm p e R s m args below meth c H1 locs1 Q ls n0 k0 F hU hl hR1 hR2 w1 s1 h0 (Nat.le_trans hn0 mo1.1) (Nat.le_trans hk0 mo1.2) hfc hfs hfin)
end EXS
end
section
/-! reasoning about runs of the interpreter -/
theorem ex_run_fuel {G : ex_G} {L : Nat} {xs : Nat → Int32} : ∀ (f f' d mi pc : Nat) (lv st : List Value) (h : ex_Hp) (r : Option Value × ex_Hp), ex_run G L xs f d mi pc lv st h = some r → f ≤ f' → ex_run G L xs f' d mi pc lv st h = some r := by
  intro f
  induction f with
  | zero => intro f' d mi pc lv st h r hx; cases hx
  | succ f ih =>
    intro f' d mi pc lv st h r hx hf
    obtain ⟨g, rfl⟩ : ∃ g, f' = g + 1 := ⟨f' - 1, by omega⟩
    have hg : f ≤ g := by omega
    unfold ex_run at hx ⊢
    split at hx
    · cases hx
    · rename_i ins hl
      try rw [hl]
      try dsimp only
      split at hx
      · rename_i hs
        try rw [hs]
        exact ih _ _ _ _ _ _ _ _ hx hg
      · rename_i hs
        try rw [hs]
        try dsimp only
        split at hx
        · rename_i hr
          try rw [hr]
          exact hx
        · rename_i hr
          try rw [hr]
          try dsimp only
          split at hx
          · cases hx
          · rename_i hc
            try rw [hc]
            try dsimp only
            split at hx
            · cases hx
            · try dsimp only
              split at hx
              · cases hx
              · rename_i hrun
                rw [ih _ _ _ _ _ _ _ _ hrun hg]
                exact ih _ _ _ _ _ _ _ _ hx hg
def xx (G : ex_G) (L : Nat) (xs : Nat → Int32) (D mi pc : Nat) (lv st : List Value) (h : ex_Hp) (Q : Option Value → ex_Hp → Prop) : Prop := ∃ (f : Nat) (r : Option Value) (h' : ex_Hp), ex_run G L xs f D mi pc lv st h = some (r, h') ∧ Q r h'
/-- a whole method -/
def rn (G : ex_G) (L : Nat) (xs : Nat → Int32) (D mi : Nat) (as : List Value) (h : ex_Hp) (Q : Option Value → ex_Hp → Prop) : Prop := xx G L xs D mi 0 (ex_ent (ex_mx G mi) as) [] h Q
def ex_steps (cd : List (Nat × Instr)) : Nat → ex_Pr → Option ex_Pr
  | 0, s => some s
  | n + 1, s => match ex_look cd s.1 with
    | some ins => match ex_pure s.1 s.2.1 s.2.2 ins with
      | some s' => ex_steps cd n s'
      | none => none
    | none => none
def ex_P (k : ClassFile.Cond) (x y : Int32) : Prop := match k with
  | .eq => x = y
  | .ne => ¬ x = y
  | .lt => x < y
  | .ge => y ≤ x
  | .gt => y < x
  | .le => x ≤ y
theorem ex_P_cmp {k : ClassFile.Cond} {x y : Int32} : ex_cmp k x y = true ↔ ex_P k x y := by cases k <;> simp [ex_cmp, ex_P]
section XXS
variable {G : ex_G} {L : Nat} {xs : Nat → Int32} {D mi pc pc' : Nat} {lv st : List Value} {h h' : ex_Hp} {Q Q' : Option Value → ex_Hp → Prop}
theorem xx_imp (k : xx G L xs D mi pc lv st h Q) (hq : ∀ r h', Q r h' → Q' r h') : xx G L xs D mi pc lv st h Q' := by
  obtain ⟨f, r, h', h1, h2⟩ := k
  exact ⟨f, r, h', h1, hq _ _ h2⟩
theorem xx_step {ins : Instr} {lv' st' : List Value} (hf : ex_look (ex_cd G mi) pc = some ins) (hs : ex_step G L xs D mi pc lv st h ins = some ((pc', lv', st'), h')) (k : xx G L xs D mi pc' lv' st' h' Q) : xx G L xs D mi pc lv st h Q := by
  obtain ⟨f, r, h2, h3, h4⟩ := k
  refine ⟨f + 1, r, h2, ?_, h4⟩
  unfold ex_run
  rw [hf]
  dsimp only
  rw [hs]
  exact h3
theorem xx_pure {ins : Instr} {lv' st' : List Value} (hf : ex_look (ex_cd G mi) pc = some ins) (hp : ex_pure pc lv st ins = some (pc', lv', st')) (k : xx G L xs D mi pc' lv' st' h Q) : xx G L xs D mi pc lv st h Q :=
  xx_step hf (by unfold ex_step; rw [hp]) k
theorem xx_steps {n : Nat} {lv' st' : List Value} (hs : ex_steps (ex_cd G mi) n (pc, lv, st) = some (pc', lv', st')) (k : xx G L xs D mi pc' lv' st' h Q) : xx G L xs D mi pc lv st h Q := by
  induction n generalizing pc lv st with
  | zero => cases hs; exact k
  | succ n ih =>
    unfold ex_steps at hs
    split at hs
    · rename_i ins hl
      split at hs
      · rename_i s' hp
        obtain ⟨p1, l1, s1⟩ := s'
        exact xx_pure hl hp (ih hs)
      · cases hs
    · cases hs
theorem xx_mem {ins : Instr} {st' : List Value} (hf : ex_look (ex_cd G mi) pc = some ins) (hp : ex_pure pc lv st ins = none) (hm : ex_mem G L xs D mi st h ins = some (st', h')) (hle : h.1 ≤ h'.1 ∧ h.2.1 ≤ h'.2.1) (hpc : pc + ex_len ins = pc') (k : xx G L xs D mi pc' lv st' h' Q) : xx G L xs D mi pc lv st h Q := by
  subst hpc
  refine xx_step hf ?_ k
  unfold ex_step
  rw [hp]
  dsimp only
  rw [hm]
  dsimp only
  rw [if_pos hle]
theorem xx_get {i tag c k a : Nat} {z : Int} {v : Value} (hf : ex_look (ex_cd G mi) pc = some (.getfield i)) (hl : ex_look (ex_lt G (ex_ow G mi)) i = some (tag, c, k, z)) (ht : tag ≤ 1) (hk : ex_kd G a = (0, c)) (hn : k < ex_nf G c) (ha : a < h.1) (hv : ex_fv G h c a k = v) (hpc : pc + 3 = pc') (kk : xx G L xs D mi pc' lv (v :: st) h Q) : xx G L xs D mi pc lv (.ref a :: st) h Q := by
  refine xx_mem hf rfl (st' := v :: st) (h' := h) ?_ ⟨Nat.le_refl _, Nat.le_refl _⟩ hpc kk
  simp only [ex_mem, hl]
  rw [if_pos ht]
  show (if a < h.1 ∧ ex_kd G a = (0, c) ∧ k < ex_nf G c then some (ex_fv G h c a k :: st, h) else none) = _
  rw [if_pos ⟨ha, hk, hn⟩, hv]
theorem xx_putI {i tag c k a : Nat} {z : Int} {v : Int32} (hf : ex_look (ex_cd G mi) pc = some (.putfield i)) (hl : ex_look (ex_lt G (ex_ow G mi)) i = some (tag, c, k, z)) (ht : (tag = 0 ∨ tag = 1 ∧ z = 0) ∧ (z = 0 ∨ z = 1 ∧ ex_ow G mi = c ∧ ex_rt G mi = 5)) (hk : ex_kd G a = (0, c)) (hn : k < ex_nf G c) (ha : a < h.1) (hv : ex_fk G c k = 0 ∨ ex_fk G c k = 1 ∧ ex_b01 v = true) (hpc : pc + 3 = pc') (kk : xx G L xs D mi pc' lv st (ex_hI h a k v) Q) : xx G L xs D mi pc lv (.int v :: .ref a :: st) h Q := by
  refine xx_mem hf rfl (st' := st) (h' := ex_hI h a k v) ?_ ⟨Nat.le_refl _, Nat.le_refl _⟩ hpc kk
  simp only [ex_mem, hl]
  rw [if_pos ht, if_neg (by rcases hv with q | ⟨q, -⟩ <;> rw [q] <;> decide)]
  show (if a < h.1 ∧ ex_kd G a = (0, c) ∧ k < ex_nf G c ∧ (ex_fk G c k = 0 ∨ ex_fk G c k = 1 ∧ ex_b01 v = true) then some (st, ex_hI h a k v) else none) = _
  rw [if_pos ⟨ha, hk, hn, hv⟩]
theorem xx_putP {i tag c k a : Nat} {z : Int} {v : Option Nat} (hf : ex_look (ex_cd G mi) pc = some (.putfield i)) (hl : ex_look (ex_lt G (ex_ow G mi)) i = some (tag, c, k, z)) (ht : (tag = 0 ∨ tag = 1 ∧ z = 0) ∧ (z = 0 ∨ z = 1 ∧ ex_ow G mi = c ∧ ex_rt G mi = 5)) (hk : ex_kd G a = (0, c)) (hn : k < ex_nf G c) (ha : a < h.1) (hv : ex_fk G c k = 2) (hpc : pc + 3 = pc') (kk : xx G L xs D mi pc' lv st (ex_hP h a k v) Q) : xx G L xs D mi pc lv (va_rf v :: .ref a :: st) h Q := by
  refine xx_mem hf rfl (st' := st) (h' := ex_hP h a k v) ?_ ⟨Nat.le_refl _, Nat.le_refl _⟩ hpc kk
  simp only [ex_mem, hl]
  rw [if_pos ht, if_pos hv]
  cases v with
  | none =>
    show (if a < h.1 ∧ ex_kd G a = (0, c) ∧ k < ex_nf G c then some (st, ex_hP h a k none) else none) = _
    rw [if_pos ⟨ha, hk, hn⟩]
  | some w =>
    show (if a < h.1 ∧ ex_kd G a = (0, c) ∧ k < ex_nf G c then some (st, ex_hP h a k (some w)) else none) = _
    rw [if_pos ⟨ha, hk, hn⟩]
theorem ex_in_nI {j n : Nat} (hj : j < n) (hn : n < 2 ^ 31) : ex_in (nI j) n = true := decide_eq_true (nI_in hj hn)
theorem xx_iald {a j n : Nat} {i v : Int32} (hf : ex_look (ex_cd G mi) pc = some .iaload) (hk : ex_kd G a = (1, n)) (ha : a < h.1) (has : a < ex_scr) (hi : i = nI j) (hj : j < n) (hn : n < 2 ^ 31) (hv : h.2.2.1 a j = v) (hpc : pc + 1 = pc') (kk : xx G L xs D mi pc' lv (.int v :: st) h Q) : xx G L xs D mi pc lv (.int i :: .ref a :: st) h Q := by
  subst hi
  refine xx_mem hf rfl (st' := .int v :: st) (h' := h) ?_ ⟨Nat.le_refl _, Nat.le_refl _⟩ hpc kk
  show (if a = ex_scr then (if ex_in (nI j) (L - 1) = true then some (Value.int (xs (nI j).toNatClampNeg) :: st, h) else none) else if a < h.1 ∧ (ex_kd G a).1 = 1 ∧ ex_in (nI j) (ex_kd G a).2 = true then some (.int (h.2.2.1 a (nI j).toNatClampNeg) :: st, h) else none) = _
  rw [if_neg (by omega), hk, if_pos ⟨ha, rfl, ex_in_nI hj hn⟩, nI_clamp (by omega), hv]
theorem xx_sld {j : Nat} {i : Int32} (hf : ex_look (ex_cd G mi) pc = some .iaload) (hi : i = nI j) (hj : j < L) (hn : L < 2 ^ 31) (hpc : pc + 1 = pc') (kk : xx G (L + 1) xs D mi pc' lv (.int (xs j) :: st) h Q) : xx G (L + 1) xs D mi pc lv (.int i :: .ref ex_scr :: st) h Q := by
  subst hi
  refine xx_mem hf rfl (st' := .int (xs j) :: st) (h' := h) ?_ ⟨Nat.le_refl _, Nat.le_refl _⟩ hpc kk
  show (if ex_scr = ex_scr then (if ex_in (nI j) L = true then some (Value.int (xs (nI j).toNatClampNeg) :: st, h) else none) else if ex_scr < h.1 ∧ (ex_kd G ex_scr).1 = 1 ∧ ex_in (nI j) (ex_kd G ex_scr).2 = true then some (.int (h.2.2.1 ex_scr (nI j).toNatClampNeg) :: st, h) else none) = _
  rw [if_pos rfl, if_pos (ex_in_nI hj hn), nI_clamp (by omega)]
theorem xx_slen (hf : ex_look (ex_cd G mi) pc = some .arraylength) (hpc : pc + 1 = pc') (kk : xx G (L + 1) xs D mi pc' lv (.int (nI L) :: st) h Q) : xx G (L + 1) xs D mi pc lv (.ref ex_scr :: st) h Q := by
  refine xx_mem hf rfl (st' := .int (nI L) :: st) (h' := h) ?_ ⟨Nat.le_refl _, Nat.le_refl _⟩ hpc kk
  show (if ex_scr = ex_scr then (if L + 1 = 0 then none else some (Value.int (nI L) :: st, h)) else if ex_scr < h.1 ∧ 1 ≤ (ex_kd G ex_scr).1 then some (.int (nI (ex_kd G ex_scr).2) :: st, h) else none) = _
  rw [if_pos rfl, if_neg (Nat.succ_ne_zero L)]
theorem xx_alen {a k n : Nat} (hf : ex_look (ex_cd G mi) pc = some .arraylength) (hk : ex_kd G a = (k + 1, n)) (ha : a < h.1) (has : a < ex_scr) (hpc : pc + 1 = pc') (kk : xx G L xs D mi pc' lv (.int (nI n) :: st) h Q) : xx G L xs D mi pc lv (.ref a :: st) h Q := by
  refine xx_mem hf rfl (st' := .int (nI n) :: st) (h' := h) ?_ ⟨Nat.le_refl _, Nat.le_refl _⟩ hpc kk
  show (if a = ex_scr then (if L = 0 then none else some (Value.int (nI (L - 1)) :: st, h)) else if a < h.1 ∧ 1 ≤ (ex_kd G a).1 then some (.int (nI (ex_kd G a).2) :: st, h) else none) = _
  rw [if_neg (by omega), hk, if_pos ⟨ha, by show 1 ≤ k + 1; omega⟩]
theorem xx_zald {a j n : Nat} {i v : Int32} (hf : ex_look (ex_cd G mi) pc = some .baload) (hk : ex_kd G a = (2, n)) (ha : a < h.1) (hi : i = nI j) (hj : j < n) (hn : n < 2 ^ 31) (hv : h.2.2.1 a j = v) (hpc : pc + 1 = pc') (kk : xx G L xs D mi pc' lv (.int v :: st) h Q) : xx G L xs D mi pc lv (.int i :: .ref a :: st) h Q := by
  subst hi
  refine xx_mem hf rfl (st' := .int v :: st) (h' := h) ?_ ⟨Nat.le_refl _, Nat.le_refl _⟩ hpc kk
  show (if a < h.1 ∧ (ex_kd G a).1 = 2 ∧ ex_in (nI j) (ex_kd G a).2 = true then some (Value.int (h.2.2.1 a (nI j).toNatClampNeg) :: st, h) else none) = _
  rw [hk, if_pos ⟨ha, rfl, ex_in_nI hj hn⟩, nI_clamp (by omega), hv]
theorem xx_aald {a j n t : Nat} {i : Int32} {v : Value} (hf : ex_look (ex_cd G mi) pc = some .aaload) (hk : ex_kd G a = (t + 3, n)) (ha : a < h.1) (hi : i = nI j) (hj : j < n) (hn : n < 2 ^ 31) (hv : va_rf (h.2.2.2 a j) = v) (hpc : pc + 1 = pc') (kk : xx G L xs D mi pc' lv (v :: st) h Q) : xx G L xs D mi pc lv (.int i :: .ref a :: st) h Q := by
  subst hi
  refine xx_mem hf rfl (st' := v :: st) (h' := h) ?_ ⟨Nat.le_refl _, Nat.le_refl _⟩ hpc kk
  show (if a < h.1 ∧ 3 ≤ (ex_kd G a).1 ∧ ex_in (nI j) (ex_kd G a).2 = true then some (va_rf (h.2.2.2 a (nI j).toNatClampNeg) :: st, h) else none) = _
  rw [hk, if_pos ⟨ha, by show 3 ≤ t + 3; omega, ex_in_nI hj hn⟩, nI_clamp (by omega), hv]
theorem xx_iast {a j n : Nat} {i v : Int32} (hf : ex_look (ex_cd G mi) pc = some .iastore) (hk : ex_kd G a = (1, n)) (ha : a < h.1) (hi : i = nI j) (hj : j < n) (hn : n < 2 ^ 31) (hpc : pc + 1 = pc') (kk : xx G L xs D mi pc' lv st (ex_hI h a j v) Q) : xx G L xs D mi pc lv (.int v :: .int i :: .ref a :: st) h Q := by
  subst hi
  refine xx_mem hf rfl (st' := st) (h' := ex_hI h a j v) ?_ ⟨Nat.le_refl _, Nat.le_refl _⟩ hpc kk
  show (if a < h.1 ∧ (ex_kd G a).1 = 1 ∧ ex_in (nI j) (ex_kd G a).2 = true then some (st, ex_hI h a (nI j).toNatClampNeg v) else none) = _
  rw [hk, if_pos ⟨ha, rfl, ex_in_nI hj hn⟩, nI_clamp (by omega)]
theorem xx_zast {a j n : Nat} {i v : Int32} (hf : ex_look (ex_cd G mi) pc = some .bastore) (hk : ex_kd G a = (2, n)) (ha : a < h.1) (hi : i = nI j) (hj : j < n) (hn : n < 2 ^ 31) (hv : ex_b01 v = true) (hpc : pc + 1 = pc') (kk : xx G L xs D mi pc' lv st (ex_hI h a j v) Q) : xx G L xs D mi pc lv (.int v :: .int i :: .ref a :: st) h Q := by
  subst hi
  refine xx_mem hf rfl (st' := st) (h' := ex_hI h a j v) ?_ ⟨Nat.le_refl _, Nat.le_refl _⟩ hpc kk
  show (if a < h.1 ∧ (ex_kd G a).1 = 2 ∧ ex_in (nI j) (ex_kd G a).2 = true ∧ ex_b01 v = true then some (st, ex_hI h a (nI j).toNatClampNeg v) else none) = _
  rw [hk, if_pos ⟨ha, rfl, ex_in_nI hj hn, hv⟩, nI_clamp (by omega)]
theorem xx_aast {a x j n t : Nat} {i : Int32} (hf : ex_look (ex_cd G mi) pc = some .aastore) (hk : ex_kd G a = (3 + t, n)) (ha : a < h.1) (hx : x < h.1) (hkx : ex_kd G x = (0, t)) (hi : i = nI j) (hj : j < n) (hn : n < 2 ^ 31) (hpc : pc + 1 = pc') (kk : xx G L xs D mi pc' lv st (ex_hP h a j (some x)) Q) : xx G L xs D mi pc lv (.ref x :: .int i :: .ref a :: st) h Q := by
  subst hi
  refine xx_mem hf rfl (st' := st) (h' := ex_hP h a j (some x)) ?_ ⟨Nat.le_refl _, Nat.le_refl _⟩ hpc kk
  show (if a < h.1 ∧ x < h.1 ∧ (ex_kd G a).1 = 3 + (ex_kd G x).2 ∧ (ex_kd G x).1 = 0 ∧ ex_in (nI j) (ex_kd G a).2 = true then some (st, ex_hP h a (nI j).toNatClampNeg (some x)) else none) = _
  rw [hk, hkx, if_pos ⟨ha, hx, rfl, rfl, ex_in_nI hj hn⟩, nI_clamp (by omega)]
theorem xx_new {i c k : Nat} {z : Int} (hf : ex_look (ex_cd G mi) pc = some (.new i)) (hl : ex_look (ex_lt G (ex_ow G mi)) i = some (9, c, k, z)) (hz : h.1 < ex_scr) (hk : ex_kd G h.1 = (0, c)) (hpc : pc + 3 = pc') (kk : xx G L xs D mi pc' lv (.ref h.1 :: st) (ex_hN h (ex_nf G c)) Q) : xx G L xs D mi pc lv st h Q := by
  refine xx_mem hf rfl (st' := .ref h.1 :: st) (h' := ex_hN h (ex_nf G c)) ?_ ⟨Nat.le_succ _, Nat.le_add_right _ _⟩ hpc kk
  simp only [ex_mem, hl]
  rw [if_pos ⟨trivial, hz, hk⟩]
theorem xx_newI {n : Nat} {i : Int32} (hf : ex_look (ex_cd G mi) pc = some (.newarray .int)) (hi : i = nI n) (hn : n ≤ 1000) (hz : h.1 < ex_scr) (hk : ex_kd G h.1 = (1, n)) (hpc : pc + 2 = pc') (kk : xx G L xs D mi pc' lv (.ref h.1 :: st) (ex_hN h n) Q) : xx G L xs D mi pc lv (.int i :: st) h Q := by
  subst hi
  refine xx_mem hf rfl (st' := .ref h.1 :: st) (h' := ex_hN h n) ?_ ⟨Nat.le_succ _, Nat.le_add_right _ _⟩ hpc kk
  show (if ¬ nI n < 0 ∧ (nI n).toNatClampNeg ≤ 1000 ∧ h.1 < ex_scr ∧ (ArrayType.int = .int ∧ ex_kd G h.1 = (1, (nI n).toNatClampNeg) ∨ ArrayType.int = .boolean ∧ ex_kd G h.1 = (2, (nI n).toNatClampNeg)) then some (Value.ref h.1 :: st, ex_hN h (nI n).toNatClampNeg) else none) = _
  rw [nI_clamp (by omega), if_pos ⟨nI_pos (by omega), hn, hz, Or.inl ⟨rfl, hk⟩⟩]
theorem xx_max {i c k : Nat} {z : Int} {x y v : Int32} (hf : ex_look (ex_cd G mi) pc = some (.invokestatic i)) (hl : ex_look (ex_lt G (ex_ow G mi)) i = some (14, c, k, z)) (hu : (st.map fun v => v.category).sum ≤ 8) (hv : (if x < y then y else x) = v) (hpc : pc + 3 = pc') (kk : xx G L xs (D + 1) mi pc' lv (.int v :: st) h Q) : xx G L xs (D + 1) mi pc lv (.int y :: .int x :: st) h Q := by
  refine xx_mem hf rfl (st' := .int v :: st) (h' := h) ?_ ⟨Nat.le_refl _, Nat.le_refl _⟩ hpc kk
  simp only [ex_mem, hl]
  rw [if_neg (by omega), if_pos ⟨trivial, by omega⟩]
  show (if (st.map fun v => v.category).sum ≤ 8 then some (Value.int (if x < y then y else x) :: st, h) else none) = _
  rw [if_pos hu, hv]
theorem xx_obj {i c k a : Nat} {z : Int} (hf : ex_look (ex_cd G mi) pc = some (.invokespecial i)) (hl : ex_look (ex_lt G (ex_ow G mi)) i = some (8, c, k, z)) (hu : (st.map fun v => v.category).sum ≤ 8) (hpc : pc + 3 = pc') (kk : xx G L xs (D + 1) mi pc' lv st h Q) : xx G L xs (D + 1) mi pc lv (.ref a :: st) h Q := by
  refine xx_mem hf rfl (st' := st) (h' := h) ?_ ⟨Nat.le_refl _, Nat.le_refl _⟩ hpc kk
  simp only [ex_mem, hl]
  rw [if_pos ⟨trivial, by omega⟩]
  show (if (st.map fun v => v.category).sum ≤ 8 then some (st, h) else none) = _
  rw [if_pos hu]
theorem xx_copy {i c k a a0 n0 n1 jn jd js : Nat} {z : Int} {n dp sp : Int32} (hf : ex_look (ex_cd G mi) pc = some (.invokestatic i)) (hl : ex_look (ex_lt G (ex_ow G mi)) i = some (13, c, k, z)) (hk0 : ex_kd G a0 = (1, n0)) (hk : ex_kd G a = (1, n1)) (ha : a < h.1) (ha0 : a0 < h.1) (hn : n = nI jn) (hd : dp = nI jd) (hs : sp = nI js) (h1 : js + jn ≤ n0) (h2 : jd + jn ≤ n1) (hn0 : n0 < 2 ^ 31) (hn1 : n1 < 2 ^ 31) (hu : (st.map fun v => v.category).sum ≤ 8) (hpc : pc + 3 = pc')
    (kk : xx G L xs (D + 1) mi pc' lv st (h.1, h.2.1, ex_copy h.2.2.1 a0 js a jd jn, h.2.2.2) Q) : xx G L xs (D + 1) mi pc lv (.int n :: .int dp :: .ref a :: .int sp :: .ref a0 :: st) h Q := by
  subst hn; subst hd; subst hs
  refine xx_mem hf rfl (st' := st) (h' := (h.1, h.2.1, ex_copy h.2.2.1 a0 js a jd jn, h.2.2.2)) ?_ ⟨Nat.le_refl _, Nat.le_refl _⟩ hpc kk
  simp only [ex_mem, hl]
  rw [if_pos ⟨trivial, by omega⟩]
  show (if (st.map fun v => v.category).sum ≤ 8 ∧ a < h.1 ∧ a0 < h.1 ∧ (ex_kd G a).1 = 1 ∧ (ex_kd G a0).1 = 1 ∧ ¬ nI js < 0 ∧ ¬ nI jd < 0 ∧ ¬ nI jn < 0 ∧ (nI js).toNatClampNeg + (nI jn).toNatClampNeg ≤ (ex_kd G a0).2 ∧ (nI jd).toNatClampNeg + (nI jn).toNatClampNeg ≤ (ex_kd G a).2 then some (st, h.1, h.2.1, ex_copy h.2.2.1 a0 (nI js).toNatClampNeg a (nI jd).toNatClampNeg (nI jn).toNatClampNeg, h.2.2.2) else none) = _
  rw [nI_clamp (n := js) (by omega), nI_clamp (n := jd) (by omega), nI_clamp (n := jn) (by omega), hk, hk0]
  rw [if_pos ⟨hu, ha, ha0, rfl, rfl, nI_pos (by omega), nI_pos (by omega), nI_pos (by omega), h1, h2⟩]
theorem xx_ldc {i c k : Nat} {z : Int} {v : Int32} (hf : ex_look (ex_cd G mi) pc = some (.ldc i)) (hl : ex_look (ex_lt G (ex_ow G mi)) i = some (11, c, k, z)) (hv : Int32.ofInt z = v) (hpc : pc + 2 = pc') (kk : xx G L xs D mi pc' lv (.int v :: st) h Q) : xx G L xs D mi pc lv st h Q := by
  refine xx_mem hf rfl (st' := .int v :: st) (h' := h) ?_ ⟨Nat.le_refl _, Nat.le_refl _⟩ hpc kk
  simp only [ex_mem, hl, if_true, hv]
theorem xx_ldcw {i c k : Nat} {z : Int} {v : Int32} (hf : ex_look (ex_cd G mi) pc = some (.ldc_w i)) (hl : ex_look (ex_lt G (ex_ow G mi)) i = some (11, c, k, z)) (hv : Int32.ofInt z = v) (hpc : pc + 3 = pc') (kk : xx G L xs D mi pc' lv (.int v :: st) h Q) : xx G L xs D mi pc lv st h Q := by
  refine xx_mem hf rfl (st' := .int v :: st) (h' := h) ?_ ⟨Nat.le_refl _, Nat.le_refl _⟩ hpc kk
  simp only [ex_mem, hl, if_true, hv]
theorem xx_ldc2 {i c k : Nat} {z : Int} {v : Int64} (hf : ex_look (ex_cd G mi) pc = some (.ldc2_w i)) (hl : ex_look (ex_lt G (ex_ow G mi)) i = some (12, c, k, z)) (hv : Int64.ofInt z = v) (hpc : pc + 3 = pc') (kk : xx G L xs D mi pc' lv (.long v :: st) h Q) : xx G L xs D mi pc lv st h Q := by
  refine xx_mem hf rfl (st' := .long v :: st) (h' := h) ?_ ⟨Nat.le_refl _, Nat.le_refl _⟩ hpc kk
  simp only [ex_mem, hl, if_true, hv]
theorem xx_if {k : ClassFile.Cond} {off : Int} {x : Int32} {tg : Nat} (hf : ex_look (ex_cd G mi) pc = some (.ifCond k off)) (hj : ex_jump pc off = some tg) (hpc : pc + 3 = pc') (kt : ex_P k x 0 → xx G L xs D mi tg lv st h Q) (kf : ¬ ex_P k x 0 → xx G L xs D mi pc' lv st h Q) : xx G L xs D mi pc lv (.int x :: st) h Q := by
  subst hpc
  have hp : ex_pure pc lv (.int x :: st) (.ifCond k off) = some (if ex_cmp k x 0 = true then tg else pc + 3, lv, st) := by
    show ex_br (ex_cmp k x 0) pc off lv st = _
    unfold ex_br
    rw [hj]
  by_cases hc : ex_P k x 0
  · rw [if_pos (ex_P_cmp.mpr hc)] at hp
    exact xx_pure hf hp (kt hc)
  · rw [if_neg (fun q => hc (ex_P_cmp.mp q))] at hp
    exact xx_pure hf hp (kf hc)
theorem xx_icmp {k : ClassFile.Cond} {off : Int} {x y : Int32} {tg : Nat} (hf : ex_look (ex_cd G mi) pc = some (.if_icmp k off)) (hj : ex_jump pc off = some tg) (hpc : pc + 3 = pc') (kt : ex_P k x y → xx G L xs D mi tg lv st h Q) (kf : ¬ ex_P k x y → xx G L xs D mi pc' lv st h Q) : xx G L xs D mi pc lv (.int y :: .int x :: st) h Q := by
  subst hpc
  have hp : ex_pure pc lv (.int y :: .int x :: st) (.if_icmp k off) = some (if ex_cmp k x y = true then tg else pc + 3, lv, st) := by
    show ex_br (ex_cmp k x y) pc off lv st = _
    unfold ex_br
    rw [hj]
  by_cases hc : ex_P k x y
  · rw [if_pos (ex_P_cmp.mpr hc)] at hp
    exact xx_pure hf hp (kt hc)
  · rw [if_neg (fun q => hc (ex_P_cmp.mp q))] at hp
    exact xx_pure hf hp (kf hc)
theorem xx_ret {ins : Instr} {r : Option Value} (hf : ex_look (ex_cd G mi) pc = some ins) (hp : ex_pure pc lv st ins = none) (hm : ex_mem G L xs D mi st h ins = none) (hr : ex_ret G mi st ins = some r) (hq : Q r h) : xx G L xs D mi pc lv st h Q := by
  refine ⟨1, r, h, ?_, hq⟩
  unfold ex_run
  rw [hf]
  dsimp only
  have : ex_step G L xs D mi pc lv st h ins = none := by unfold ex_step; rw [hp]; dsimp only; rw [hm]
  rw [this]
  dsimp only
  rw [hr]
theorem xx_ireturn {x : Int32} (hf : ex_look (ex_cd G mi) pc = some .ireturn) (hr : ex_rt G mi = 1) (hq : Q (some (.int x)) h) : xx G L xs D mi pc lv [.int x] h Q := by
  refine xx_ret hf rfl rfl (r := some (.int x)) ?_ hq
  show (if ex_rt G mi = 1 ∨ ex_rt G mi = 2 ∧ ex_b01 x = true then some (some (Value.int x)) else none) = _
  rw [if_pos (Or.inl hr)]
theorem xx_zreturn {x : Int32} (hf : ex_look (ex_cd G mi) pc = some .ireturn) (hr : ex_rt G mi = 2) (hb : ex_b01 x = true) (hq : Q (some (.int x)) h) : xx G L xs D mi pc lv [.int x] h Q := by
  refine xx_ret hf rfl rfl (r := some (.int x)) ?_ hq
  show (if ex_rt G mi = 1 ∨ ex_rt G mi = 2 ∧ ex_b01 x = true then some (some (Value.int x)) else none) = _
  rw [if_pos (Or.inr ⟨hr, hb⟩)]
theorem xx_lreturn {x : Int64} (hf : ex_look (ex_cd G mi) pc = some .lreturn) (hr : ex_rt G mi = 3) (hq : Q (some (.long x)) h) : xx G L xs D mi pc lv [.long x] h Q := by
  refine xx_ret hf rfl rfl (r := some (.long x)) ?_ hq
  show (if ex_rt G mi = 3 then some (some (Value.long x)) else none) = _
  rw [if_pos hr]
theorem xx_areturn {x : Option Nat} (hf : ex_look (ex_cd G mi) pc = some .areturn) (hr : ex_rt G mi = 4) (hq : Q (some (va_rf x)) h) : xx G L xs D mi pc lv [va_rf x] h Q := by
  refine xx_ret hf rfl rfl (r := some (va_rf x)) ?_ hq
  cases x with
  | none =>
    show (if ex_rt G mi = 4 then some (some Value.null) else none) = _
    rw [if_pos hr]; rfl
  | some a =>
    show (if ex_rt G mi = 4 then some (some (Value.ref a)) else none) = _
    rw [if_pos hr]; rfl
theorem xx_return (hf : ex_look (ex_cd G mi) pc = some .return_) (hr : ex_rt G mi = 0 ∨ ex_rt G mi = 5) (hq : Q none h) : xx G L xs D mi pc lv [] h Q := by
  refine xx_ret hf rfl rfl (r := none) ?_ hq
  show (if ex_rt G mi = 0 ∨ ex_rt G mi = 5 then some none else none) = _
  rw [if_pos hr]
theorem xx_callG {ins : Instr} {y : Nat} {as u : List Value} {Qy : Option Value → ex_Hp → Prop} (hf : ex_look (ex_cd G mi) pc = some ins) (hp : ex_pure pc lv st ins = none) (hm : ex_mem G L xs (D + 1) mi st h ins = none) (hr : ex_ret G mi st ins = none) (hc : ex_call G mi st h ins = some (y, as, u)) (hpc : pc + 3 = pc')
    (hy : rn G L xs D y as h Qy) (kk : ∀ r h', Qy r h' → xx G L xs (D + 1) mi pc' lv (r.toList ++ u) h' Q) : xx G L xs (D + 1) mi pc lv st h Q := by
  subst hpc
  obtain ⟨f1, r1, h1, g1, g2⟩ := hy
  obtain ⟨f2, r2, h2, g3, g4⟩ := kk r1 h1 g2
  refine ⟨max f1 f2 + 1, r2, h2, ?_, g4⟩
  have e1 := ex_run_fuel _ (max f1 f2) _ _ _ _ _ _ _ g1 (Nat.le_max_left _ _)
  have e2 := ex_run_fuel _ (max f1 f2) _ _ _ _ _ _ _ g3 (Nat.le_max_right _ _)
  unfold ex_run
  rw [hf]
  dsimp only
  have : ex_step G L xs (D + 1) mi pc lv st h ins = none := by unfold ex_step; rw [hp]; dsimp only; rw [hm]
  rw [this]
  dsimp only
  rw [hr]
  dsimp only
  rw [hc]
  dsimp only
  rw [e1]
  exact e2
theorem xx_callV {i tag y n a : Nat} {z : Int} {as u : List Value} {Qy : Option Value → ex_Hp → Prop} (hf : ex_look (ex_cd G mi) pc = some (.invokevirtual i)) (hl : ex_look (ex_lt G (ex_ow G mi)) i = some (tag, y, n, z)) (ht : tag = 2 ∨ tag = 3) (hst : ex_args n st = some (as, .ref a :: u)) (hk : ex_kd G a = (0, ex_ow G y)) (ha : a < h.1) (hu : (u.map fun v => v.category).sum ≤ 8) (hfit : ex_fit G y (.ref a :: as) = true) (hpc : pc + 3 = pc')
    (hy : rn G L xs D y (.ref a :: as) h Qy) (kk : ∀ r h', Qy r h' → xx G L xs (D + 1) mi pc' lv (r.toList ++ u) h' Q) : xx G L xs (D + 1) mi pc lv st h Q := by
  refine xx_callG hf rfl rfl rfl (y := y) (as := .ref a :: as) (u := u) ?_ hpc hy kk
  simp only [ex_call, hl]
  rw [if_pos ht, hst]
  show (if a < h.1 ∧ ex_kd G a = (0, ex_ow G y) ∧ (u.map fun v => v.category).sum ≤ 8 ∧ ex_fit G y (.ref a :: as) = true then some (y, Value.ref a :: as, u) else none) = _
  rw [if_pos ⟨ha, hk, hu, hfit⟩]
theorem xx_callI {i tag y n a : Nat} {z : Int} {as u : List Value} {Qy : Option Value → ex_Hp → Prop} (hf : ex_look (ex_cd G mi) pc = some (.invokespecial i)) (hl : ex_look (ex_lt G (ex_ow G mi)) i = some (tag, y, n, z)) (ht : tag = 6 ∨ tag = 7) (hst : ex_args n st = some (as, .ref a :: u)) (hu : (u.map fun v => v.category).sum ≤ 8) (hfit : ex_fit G y (.ref a :: as) = true) (hpc : pc + 3 = pc')
    (hy : rn G L xs D y (.ref a :: as) h Qy) (kk : ∀ r h', Qy r h' → xx G L xs (D + 1) mi pc' lv (r.toList ++ u) h' Q) : xx G L xs (D + 1) mi pc lv st h Q := by
  have hm : ex_mem G L xs (D + 1) mi st h (.invokespecial i) = none := by
    simp only [ex_mem, hl]
    rw [if_neg (by omega)]
  refine xx_callG hf rfl hm rfl (y := y) (as := .ref a :: as) (u := u) ?_ hpc hy kk
  simp only [ex_call, hl]
  rw [if_pos ht, hst]
  show (if (u.map fun v => v.category).sum ≤ 8 ∧ ex_fit G y (.ref a :: as) = true then some (y, Value.ref a :: as, u) else none) = _
  rw [if_pos ⟨hu, hfit⟩]
theorem xx_callS {i tag y n : Nat} {z : Int} {as u : List Value} {Qy : Option Value → ex_Hp → Prop} (hf : ex_look (ex_cd G mi) pc = some (.invokestatic i)) (hl : ex_look (ex_lt G (ex_ow G mi)) i = some (tag, y, n, z)) (ht : tag = 4 ∨ tag = 5) (hst : ex_args n st = some (as, u)) (hu : (u.map fun v => v.category).sum ≤ 8) (hfit : ex_fit G y as = true) (hpc : pc + 3 = pc')
    (hy : rn G L xs D y as h Qy) (kk : ∀ r h', Qy r h' → xx G L xs (D + 1) mi pc' lv (r.toList ++ u) h' Q) : xx G L xs (D + 1) mi pc lv st h Q := by
  have hm : ex_mem G L xs (D + 1) mi st h (.invokestatic i) = none := by
    simp only [ex_mem, hl]
    rw [if_neg (by omega), if_neg (by omega)]
  refine xx_callG hf rfl hm rfl (y := y) (as := as) (u := u) ?_ hpc hy kk
  simp only [ex_call, hl]
  rw [if_pos ht, hst]
  show (if (u.map fun v => v.category).sum ≤ 8 ∧ ex_fit G y as = true then some (y, as, u) else none) = _
  rw [if_pos ⟨hu, hfit⟩]
/-- the choice of one of two constants -/
theorem xx_tern {k : ClassFile.Cond} {off off2 : Int} {x v1 v2 : Int32} {i1 i2 : Instr} {q1 q2 q3 : Nat} (hf : ex_look (ex_cd G mi) pc = some (.ifCond k off)) (hj : ex_jump pc off = some q2) (h1 : ex_look (ex_cd G mi) (pc + 3) = some i1) (e1 : ex_pure (pc + 3) lv st i1 = some (q1, lv, .int v1 :: st)) (hg : ex_look (ex_cd G mi) q1 = some (.goto off2)) (hj2 : ex_jump q1 off2 = some q3)
    (h2 : ex_look (ex_cd G mi) q2 = some i2) (e2 : ex_pure q2 lv st i2 = some (q3, lv, .int v2 :: st)) (kk : ∀ v : Int32, (ex_P k x 0 ∧ v = v2 ∨ ¬ ex_P k x 0 ∧ v = v1) → xx G L xs D mi q3 lv (.int v :: st) h Q) : xx G L xs D mi pc lv (.int x :: st) h Q := by
  refine xx_if hf hj rfl (fun hc => xx_pure h2 e2 (kk _ (Or.inl ⟨hc, rfl⟩))) (fun hc => xx_pure h1 e1 (xx_pure hg ?_ (kk _ (Or.inr ⟨hc, rfl⟩))))
  show ex_to q1 off2 lv (.int v1 :: st) = _
  unfold ex_to
  rw [hj2]
end XXS
end
section
/-! an instruction, a row: of the interpreter -/
section XI
variable {G : ex_G} {L : Nat} {xs : Nat → Int32} {D mi pc pc' : Nat} {lv lv' st : List Value} {h : ex_Hp} {Q : Option Value → ex_Hp → Prop}
theorem xi_iconst {k : Nat} (hf : ex_look (ex_cd G mi) pc = some (.iconst (.ofNat k)))  (hpc : pc + 1 = pc') (kk : xx G L xs D mi pc' lv (.int (nI k) :: st) h Q) : xx G L xs D mi pc lv (st) h Q := by
  subst hpc
  exact xx_pure hf (rfl) kk
theorem xi_iconstm {k : Nat} (hf : ex_look (ex_cd G mi) pc = some (.iconst (.negSucc k)))  (hpc : pc + 1 = pc') (kk : xx G L xs D mi pc' lv (.int (- nI (k + 1)) :: st) h Q) : xx G L xs D mi pc lv (st) h Q := by
  subst hpc
  exact xx_pure hf (rfl) kk
theorem xi_bipush {k : Nat} (hf : ex_look (ex_cd G mi) pc = some (.bipush (.ofNat k))) (hk : k < 128) (hpc : pc + 2 = pc') (kk : xx G L xs D mi pc' lv (.int (nI k) :: st) h Q) : xx G L xs D mi pc lv (st) h Q := by
  subst hpc
  exact xx_pure hf (by show (if -128 ≤ (Int.ofNat k) ∧ (Int.ofNat k) < 128 then some (pc + 2, lv, Value.int (nI k) :: st) else none) = _; rw [if_pos ⟨by show (-128 : Int) ≤ (k : Int); omega, by show (k : Int) < 128; omega⟩]) kk
theorem xi_sipush {k : Nat} (hf : ex_look (ex_cd G mi) pc = some (.sipush (.ofNat k))) (hk : k < 32768) (hpc : pc + 3 = pc') (kk : xx G L xs D mi pc' lv (.int (nI k) :: st) h Q) : xx G L xs D mi pc lv (st) h Q := by
  subst hpc
  exact xx_pure hf (by show (if -32768 ≤ (Int.ofNat k) ∧ (Int.ofNat k) < 32768 then some (pc + 3, lv, Value.int (nI k) :: st) else none) = _; rw [if_pos ⟨by show (-32768 : Int) ≤ (k : Int); omega, by show (k : Int) < 32768; omega⟩]) kk
theorem xi_lconst {k : Fin 2} (hf : ex_look (ex_cd G mi) pc = some (.lconst k))  (hpc : pc + 1 = pc') (kk : xx G L xs D mi pc' lv (.long (Int64.ofNat k) :: st) h Q) : xx G L xs D mi pc lv (st) h Q := by
  subst hpc
  exact xx_pure hf (rfl) kk
theorem xi_null  (hf : ex_look (ex_cd G mi) pc = some (.aconst_null))  (hpc : pc + 1 = pc') (kk : xx G L xs D mi pc' lv (.null :: st) h Q) : xx G L xs D mi pc lv (st) h Q := by
  subst hpc
  exact xx_pure hf (rfl) kk
theorem xi_iload {i : Nat} {x : Int32} (hf : ex_look (ex_cd G mi) pc = some (.iload i)) (hl : lv[i]? = some (.int x)) (hpc : pc + 2 = pc') (kk : xx G L xs D mi pc' lv (.int x :: st) h Q) : xx G L xs D mi pc lv (st) h Q := by
  subst hpc
  exact xx_pure hf (by show ex_li lv i (pc + 2) st = _; unfold ex_li; rw [hl]) kk
theorem xi_iload_n {i : Fin 4} {x : Int32} (hf : ex_look (ex_cd G mi) pc = some (.iload_n i)) (hl : lv[(i : Nat)]? = some (.int x)) (hpc : pc + 1 = pc') (kk : xx G L xs D mi pc' lv (.int x :: st) h Q) : xx G L xs D mi pc lv (st) h Q := by
  subst hpc
  exact xx_pure hf (by show ex_li lv (i : Nat) (pc + 1) st = _; unfold ex_li; rw [hl]) kk
theorem xi_lload {i : Nat} {x : Int64} (hf : ex_look (ex_cd G mi) pc = some (.lload i)) (hl : lv[i]? = some (.long x)) (hpc : pc + 2 = pc') (kk : xx G L xs D mi pc' lv (.long x :: st) h Q) : xx G L xs D mi pc lv (st) h Q := by
  subst hpc
  exact xx_pure hf (by show ex_ll lv i (pc + 2) st = _; unfold ex_ll; rw [hl]) kk
theorem xi_lload_n {i : Fin 4} {x : Int64} (hf : ex_look (ex_cd G mi) pc = some (.lload_n i)) (hl : lv[(i : Nat)]? = some (.long x)) (hpc : pc + 1 = pc') (kk : xx G L xs D mi pc' lv (.long x :: st) h Q) : xx G L xs D mi pc lv (st) h Q := by
  subst hpc
  exact xx_pure hf (by show ex_ll lv (i : Nat) (pc + 1) st = _; unfold ex_ll; rw [hl]) kk
theorem xi_aload {i : Nat} {x : Nat} (hf : ex_look (ex_cd G mi) pc = some (.aload i)) (hl : lv[i]? = some (.ref x)) (hpc : pc + 2 = pc') (kk : xx G L xs D mi pc' lv (.ref x :: st) h Q) : xx G L xs D mi pc lv (st) h Q := by
  subst hpc
  exact xx_pure hf (by show ex_la lv i (pc + 2) st = _; unfold ex_la; rw [hl]) kk
theorem xi_aloadN {i : Nat} (hf : ex_look (ex_cd G mi) pc = some (.aload i)) (hl : lv[i]? = some .null) (hpc : pc + 2 = pc') (kk : xx G L xs D mi pc' lv (.null :: st) h Q) : xx G L xs D mi pc lv (st) h Q := by
  subst hpc
  exact xx_pure hf (by show ex_la lv i (pc + 2) st = _; unfold ex_la; rw [hl]) kk
theorem xi_istore {i : Nat} {x : Int32} (hf : ex_look (ex_cd G mi) pc = some (.istore i)) (hs : ex_st1 lv i (.int x) = some lv') (hpc : pc + 2 = pc') (kk : xx G L xs D mi pc' lv' (st) h Q) : xx G L xs D mi pc lv (.int x :: st) h Q := by
  subst hpc
  exact xx_pure hf (by show ex_go (pc + 2) st (ex_st1 lv i (.int x)) = _; rw [hs]; rfl) kk
theorem xi_astore {i : Nat} {x : Nat} (hf : ex_look (ex_cd G mi) pc = some (.astore i)) (hs : ex_st1 lv i (.ref x) = some lv') (hpc : pc + 2 = pc') (kk : xx G L xs D mi pc' lv' (st) h Q) : xx G L xs D mi pc lv (.ref x :: st) h Q := by
  subst hpc
  exact xx_pure hf (by show ex_go (pc + 2) st (ex_st1 lv i (.ref x)) = _; rw [hs]; rfl) kk
theorem xi_astoreN {i : Nat} (hf : ex_look (ex_cd G mi) pc = some (.astore i)) (hs : ex_st1 lv i .null = some lv') (hpc : pc + 2 = pc') (kk : xx G L xs D mi pc' lv' (st) h Q) : xx G L xs D mi pc lv (.null :: st) h Q := by
  subst hpc
  exact xx_pure hf (by show ex_go (pc + 2) st (ex_st1 lv i .null) = _; rw [hs]; rfl) kk
theorem xi_lstore {i : Nat} {x : Int64} (hf : ex_look (ex_cd G mi) pc = some (.lstore i)) (hs : ex_st2 lv i (.long x) = some lv') (hpc : pc + 2 = pc') (kk : xx G L xs D mi pc' lv' (st) h Q) : xx G L xs D mi pc lv (.long x :: st) h Q := by
  subst hpc
  exact xx_pure hf (by show ex_go (pc + 2) st (ex_st2 lv i (.long x)) = _; rw [hs]; rfl) kk
theorem xi_aload_n {i : Fin 4} {x : Nat} (hf : ex_look (ex_cd G mi) pc = some (.aload_n i)) (hl : lv[(i : Nat)]? = some (.ref x)) (hpc : pc + 1 = pc') (kk : xx G L xs D mi pc' lv (.ref x :: st) h Q) : xx G L xs D mi pc lv (st) h Q := by
  subst hpc
  exact xx_pure hf (by show ex_la lv (i : Nat) (pc + 1) st = _; unfold ex_la; rw [hl]) kk
theorem xi_aload_nN {i : Fin 4} (hf : ex_look (ex_cd G mi) pc = some (.aload_n i)) (hl : lv[(i : Nat)]? = some .null) (hpc : pc + 1 = pc') (kk : xx G L xs D mi pc' lv (.null :: st) h Q) : xx G L xs D mi pc lv (st) h Q := by
  subst hpc
  exact xx_pure hf (by show ex_la lv (i : Nat) (pc + 1) st = _; unfold ex_la; rw [hl]) kk
theorem xi_istore_n {i : Fin 4} {x : Int32} (hf : ex_look (ex_cd G mi) pc = some (.istore_n i)) (hs : ex_st1 lv (i : Nat) (.int x) = some lv') (hpc : pc + 1 = pc') (kk : xx G L xs D mi pc' lv' (st) h Q) : xx G L xs D mi pc lv (.int x :: st) h Q := by
  subst hpc
  exact xx_pure hf (by show ex_go (pc + 1) st (ex_st1 lv (i : Nat) (.int x)) = _; rw [hs]; rfl) kk
theorem xi_astore_n {i : Fin 4} {x : Nat} (hf : ex_look (ex_cd G mi) pc = some (.astore_n i)) (hs : ex_st1 lv (i : Nat) (.ref x) = some lv') (hpc : pc + 1 = pc') (kk : xx G L xs D mi pc' lv' (st) h Q) : xx G L xs D mi pc lv (.ref x :: st) h Q := by
  subst hpc
  exact xx_pure hf (by show ex_go (pc + 1) st (ex_st1 lv (i : Nat) (.ref x)) = _; rw [hs]; rfl) kk
theorem xi_astore_nN {i : Fin 4} (hf : ex_look (ex_cd G mi) pc = some (.astore_n i)) (hs : ex_st1 lv (i : Nat) .null = some lv') (hpc : pc + 1 = pc') (kk : xx G L xs D mi pc' lv' (st) h Q) : xx G L xs D mi pc lv (.null :: st) h Q := by
  subst hpc
  exact xx_pure hf (by show ex_go (pc + 1) st (ex_st1 lv (i : Nat) .null) = _; rw [hs]; rfl) kk
theorem xi_lstore_n {i : Fin 4} {x : Int64} (hf : ex_look (ex_cd G mi) pc = some (.lstore_n i)) (hs : ex_st2 lv (i : Nat) (.long x) = some lv') (hpc : pc + 1 = pc') (kk : xx G L xs D mi pc' lv' (st) h Q) : xx G L xs D mi pc lv (.long x :: st) h Q := by
  subst hpc
  exact xx_pure hf (by show ex_go (pc + 1) st (ex_st2 lv (i : Nat) (.long x)) = _; rw [hs]; rfl) kk
theorem xi_iinc {i k : Nat} {x : Int32} (hf : ex_look (ex_cd G mi) pc = some (.iinc i (.ofNat k))) (hl : lv[i]? = some (.int x)) (hs : ex_st1 lv i (.int (x + nI k)) = some lv') (hpc : pc + 3 = pc') (kk : xx G L xs D mi pc' lv' (st) h Q) : xx G L xs D mi pc lv (st) h Q := by
  subst hpc
  exact xx_pure hf (by show ex_inc lv i (.ofNat k) (pc + 3) st = _; unfold ex_inc; rw [hl]; show ex_go (pc + 3) st (ex_st1 lv i (.int (x + nI k))) = _; rw [hs]; rfl) kk
theorem xi_iincm {i k : Nat} {x : Int32} (hf : ex_look (ex_cd G mi) pc = some (.iinc i (.negSucc k))) (hl : lv[i]? = some (.int x)) (hs : ex_st1 lv i (.int (x + - nI (k + 1))) = some lv') (hpc : pc + 3 = pc') (kk : xx G L xs D mi pc' lv' (st) h Q) : xx G L xs D mi pc lv (st) h Q := by
  subst hpc
  exact xx_pure hf (by show ex_inc lv i (.negSucc k) (pc + 3) st = _; unfold ex_inc; rw [hl]; show ex_go (pc + 3) st (ex_st1 lv i (.int (x + - nI (k + 1)))) = _; rw [hs]; rfl) kk
theorem xi_iadd {x y : Int32} (hf : ex_look (ex_cd G mi) pc = some (.iadd))  (hpc : pc + 1 = pc') (kk : xx G L xs D mi pc' lv (.int (x + y) :: st) h Q) : xx G L xs D mi pc lv (.int y :: .int x :: st) h Q := by
  subst hpc
  exact xx_pure hf (rfl) kk
theorem xi_isub {x y : Int32} (hf : ex_look (ex_cd G mi) pc = some (.isub))  (hpc : pc + 1 = pc') (kk : xx G L xs D mi pc' lv (.int (x - y) :: st) h Q) : xx G L xs D mi pc lv (.int y :: .int x :: st) h Q := by
  subst hpc
  exact xx_pure hf (rfl) kk
theorem xi_imul {x y : Int32} (hf : ex_look (ex_cd G mi) pc = some (.imul))  (hpc : pc + 1 = pc') (kk : xx G L xs D mi pc' lv (.int (x * y) :: st) h Q) : xx G L xs D mi pc lv (.int y :: .int x :: st) h Q := by
  subst hpc
  exact xx_pure hf (rfl) kk
theorem xi_iand {x y : Int32} (hf : ex_look (ex_cd G mi) pc = some (.iand))  (hpc : pc + 1 = pc') (kk : xx G L xs D mi pc' lv (.int (x &&& y) :: st) h Q) : xx G L xs D mi pc lv (.int y :: .int x :: st) h Q := by
  subst hpc
  exact xx_pure hf (rfl) kk
theorem xi_ishr {x y : Int32} (hf : ex_look (ex_cd G mi) pc = some (.ishr))  (hpc : pc + 1 = pc') (kk : xx G L xs D mi pc' lv (.int (x >>> (y &&& 31)) :: st) h Q) : xx G L xs D mi pc lv (.int y :: .int x :: st) h Q := by
  subst hpc
  exact xx_pure hf (rfl) kk
theorem xi_iushr {x y : Int32} (hf : ex_look (ex_cd G mi) pc = some (.iushr))  (hpc : pc + 1 = pc') (kk : xx G L xs D mi pc' lv (.int ((x.toUInt32 >>> (y.toUInt32 &&& Int32.toUInt32 31)).toInt32) :: st) h Q) : xx G L xs D mi pc lv (.int y :: .int x :: st) h Q := by
  subst hpc
  exact xx_pure hf (rfl) kk
theorem xi_irem {x y : Int32} (hf : ex_look (ex_cd G mi) pc = some (.irem)) (hy : ¬ y = 0) (hpc : pc + 1 = pc') (kk : xx G L xs D mi pc' lv (.int (x - x / y * y) :: st) h Q) : xx G L xs D mi pc lv (.int y :: .int x :: st) h Q := by
  subst hpc
  exact xx_pure hf (by show (if y = 0 then none else some (pc + 1, lv, Value.int (x - x / y * y) :: st)) = _; rw [if_neg hy]) kk
theorem xi_ladd {x y : Int64} (hf : ex_look (ex_cd G mi) pc = some (.ladd))  (hpc : pc + 1 = pc') (kk : xx G L xs D mi pc' lv (.long (x + y) :: st) h Q) : xx G L xs D mi pc lv (.long y :: .long x :: st) h Q := by
  subst hpc
  exact xx_pure hf (rfl) kk
theorem xi_lmul {x y : Int64} (hf : ex_look (ex_cd G mi) pc = some (.lmul))  (hpc : pc + 1 = pc') (kk : xx G L xs D mi pc' lv (.long (x * y) :: st) h Q) : xx G L xs D mi pc lv (.long y :: .long x :: st) h Q := by
  subst hpc
  exact xx_pure hf (rfl) kk
theorem xi_land {x y : Int64} (hf : ex_look (ex_cd G mi) pc = some (.land))  (hpc : pc + 1 = pc') (kk : xx G L xs D mi pc' lv (.long (x &&& y) :: st) h Q) : xx G L xs D mi pc lv (.long y :: .long x :: st) h Q := by
  subst hpc
  exact xx_pure hf (rfl) kk
theorem xi_lor {x y : Int64} (hf : ex_look (ex_cd G mi) pc = some (.lor))  (hpc : pc + 1 = pc') (kk : xx G L xs D mi pc' lv (.long (x ||| y) :: st) h Q) : xx G L xs D mi pc lv (.long y :: .long x :: st) h Q := by
  subst hpc
  exact xx_pure hf (rfl) kk
theorem xi_lshl {x : Int64} {y : Int32} (hf : ex_look (ex_cd G mi) pc = some (.lshl))  (hpc : pc + 1 = pc') (kk : xx G L xs D mi pc' lv (.long (x <<< (y.toInt64 &&& 63)) :: st) h Q) : xx G L xs D mi pc lv (.int y :: .long x :: st) h Q := by
  subst hpc
  exact xx_pure hf (rfl) kk
theorem xi_lshr {x : Int64} {y : Int32} (hf : ex_look (ex_cd G mi) pc = some (.lshr))  (hpc : pc + 1 = pc') (kk : xx G L xs D mi pc' lv (.long (x >>> (y.toInt64 &&& 63)) :: st) h Q) : xx G L xs D mi pc lv (.int y :: .long x :: st) h Q := by
  subst hpc
  exact xx_pure hf (rfl) kk
theorem xi_lcmp {x y : Int64} (hf : ex_look (ex_cd G mi) pc = some (.lcmp))  (hpc : pc + 1 = pc') (kk : xx G L xs D mi pc' lv (.int (lg_cmp x y) :: st) h Q) : xx G L xs D mi pc lv (.long y :: .long x :: st) h Q := by
  subst hpc
  exact xx_pure hf (rfl) kk
theorem xi_i2l {x : Int32} (hf : ex_look (ex_cd G mi) pc = some (.i2l))  (hpc : pc + 1 = pc') (kk : xx G L xs D mi pc' lv (.long x.toInt64 :: st) h Q) : xx G L xs D mi pc lv (.int x :: st) h Q := by
  subst hpc
  exact xx_pure hf (rfl) kk
theorem xi_l2i {x : Int64} (hf : ex_look (ex_cd G mi) pc = some (.l2i))  (hpc : pc + 1 = pc') (kk : xx G L xs D mi pc' lv (.int x.toInt32 :: st) h Q) : xx G L xs D mi pc lv (.long x :: st) h Q := by
  subst hpc
  exact xx_pure hf (rfl) kk
theorem xi_dup {v : Value} (hf : ex_look (ex_cd G mi) pc = some (.dup)) (hv : v.category = 1) (hpc : pc + 1 = pc') (kk : xx G L xs D mi pc' lv (v :: v :: st) h Q) : xx G L xs D mi pc lv (v :: st) h Q := by
  subst hpc
  exact xx_pure hf (by show (if v.category = 1 then some (pc + 1, lv, v :: v :: st) else none) = _; rw [if_pos hv]) kk
theorem xi_dup2 {v w : Value} (hf : ex_look (ex_cd G mi) pc = some (.dup2)) (hv : v.category = 1) (hw : w.category = 1) (hpc : pc + 1 = pc') (kk : xx G L xs D mi pc' lv (v :: w :: v :: w :: st) h Q) : xx G L xs D mi pc lv (v :: w :: st) h Q := by
  subst hpc
  exact xx_pure hf (by show (if v.category = 1 then (if w.category = 1 then some (pc + 1, lv, v :: w :: v :: w :: st) else none) else none) = _; rw [if_pos hv, if_pos hw]) kk
theorem xi_pop {v : Value} (hf : ex_look (ex_cd G mi) pc = some (.pop)) (hv : v.category = 1) (hpc : pc + 1 = pc') (kk : xx G L xs D mi pc' lv (st) h Q) : xx G L xs D mi pc lv (v :: st) h Q := by
  subst hpc
  exact xx_pure hf (by show (if v.category = 1 then some (pc + 1, lv, st) else none) = _; rw [if_pos hv]) kk
theorem xi_goto {off : Int} (hf : ex_look (ex_cd G mi) pc = some (.goto off)) (hj : ex_jump pc off = some pc') (kk : xx G L xs D mi pc' lv st h Q) : xx G L xs D mi pc lv st h Q :=
  xx_pure hf (by show ex_to pc off lv st = _; unfold ex_to; rw [hj]) kk
theorem xi_ift {k : ClassFile.Cond} {off : Int} {x : Int32} (hf : ex_look (ex_cd G mi) pc = some (.ifCond k off)) (hj : ex_jump pc off = some pc') (hc : ex_cmp k x 0 = true) (kk : xx G L xs D mi pc' lv st h Q) : xx G L xs D mi pc lv (.int x :: st) h Q :=
  xx_pure hf (by show ex_br (ex_cmp k x 0) pc off lv st = _; unfold ex_br; rw [hj, hc]; rfl) kk
theorem xi_iff {k : ClassFile.Cond} {off : Int} {x : Int32} {tg : Nat} (hf : ex_look (ex_cd G mi) pc = some (.ifCond k off)) (hj : ex_jump pc off = some tg) (hc : ex_cmp k x 0 = false) (hpc : pc + 3 = pc') (kk : xx G L xs D mi pc' lv st h Q) : xx G L xs D mi pc lv (.int x :: st) h Q := by
  subst hpc
  exact xx_pure hf (by show ex_br (ex_cmp k x 0) pc off lv st = _; unfold ex_br; rw [hj, hc]; rfl) kk
theorem xi_icmpt {k : ClassFile.Cond} {off : Int} {x y : Int32} (hf : ex_look (ex_cd G mi) pc = some (.if_icmp k off)) (hj : ex_jump pc off = some pc') (hc : ex_cmp k x y = true) (kk : xx G L xs D mi pc' lv st h Q) : xx G L xs D mi pc lv (.int y :: .int x :: st) h Q :=
  xx_pure hf (by show ex_br (ex_cmp k x y) pc off lv st = _; unfold ex_br; rw [hj, hc]; rfl) kk
theorem xi_icmpf {k : ClassFile.Cond} {off : Int} {x y : Int32} {tg : Nat} (hf : ex_look (ex_cd G mi) pc = some (.if_icmp k off)) (hj : ex_jump pc off = some tg) (hc : ex_cmp k x y = false) (hpc : pc + 3 = pc') (kk : xx G L xs D mi pc' lv st h Q) : xx G L xs D mi pc lv (.int y :: .int x :: st) h Q := by
  subst hpc
  exact xx_pure hf (by show ex_br (ex_cmp k x y) pc off lv st = _; unfold ex_br; rw [hj, hc]; rfl) kk
theorem xi_ifnull {off : Int} {a tg : Nat} (hf : ex_look (ex_cd G mi) pc = some (.ifnull off)) (hj : ex_jump pc off = some tg) (hpc : pc + 3 = pc') (kk : xx G L xs D mi pc' lv st h Q) : xx G L xs D mi pc lv (.ref a :: st) h Q := by
  subst hpc
  exact xx_pure hf (by show ex_br false pc off lv st = _; unfold ex_br; rw [hj]; rfl) kk
theorem xi_ifnullN {off : Int} (hf : ex_look (ex_cd G mi) pc = some (.ifnull off)) (hj : ex_jump pc off = some pc') (kk : xx G L xs D mi pc' lv st h Q) : xx G L xs D mi pc lv (.null :: st) h Q :=
  xx_pure hf (by show ex_br true pc off lv st = _; unfold ex_br; rw [hj]; rfl) kk
theorem xi_ifnonnull {off : Int} {a : Nat} (hf : ex_look (ex_cd G mi) pc = some (.ifnonnull off)) (hj : ex_jump pc off = some pc') (kk : xx G L xs D mi pc' lv st h Q) : xx G L xs D mi pc lv (.ref a :: st) h Q :=
  xx_pure hf (by show ex_br true pc off lv st = _; unfold ex_br; rw [hj]; rfl) kk
theorem xi_ifnonnullN {off : Int} {tg : Nat} (hf : ex_look (ex_cd G mi) pc = some (.ifnonnull off)) (hj : ex_jump pc off = some tg) (hpc : pc + 3 = pc') (kk : xx G L xs D mi pc' lv st h Q) : xx G L xs D mi pc lv (.null :: st) h Q := by
  subst hpc
  exact xx_pure hf (by show ex_br false pc off lv st = _; unfold ex_br; rw [hj]; rfl) kk
theorem xi_switch {dflt lo hi off : Int} {offs : Array Int} {x : Int32} (hf : ex_look (ex_cd G mi) pc = some (.tableswitch dflt lo hi offs)) (h1 : ¬ (x.toInt < lo ∨ hi < x.toInt)) (ho : offs[(x.toInt - lo).toNat]? = some off) (hj : ex_jump pc off = some pc') (kk : xx G L xs D mi pc' lv st h Q) : xx G L xs D mi pc lv (.int x :: st) h Q :=
  xx_pure hf (by show ex_sw x pc dflt lo hi offs lv st = _; unfold ex_sw; rw [if_neg h1, ho]; show ex_to pc off lv st = _; unfold ex_to; rw [hj]) kk
theorem xi_switchD {dflt lo hi : Int} {offs : Array Int} {x : Int32} (hf : ex_look (ex_cd G mi) pc = some (.tableswitch dflt lo hi offs)) (h1 : x.toInt < lo ∨ hi < x.toInt) (hj : ex_jump pc dflt = some pc') (kk : xx G L xs D mi pc' lv st h Q) : xx G L xs D mi pc lv (.int x :: st) h Q :=
  xx_pure hf (by show ex_sw x pc dflt lo hi offs lv st = _; unfold ex_sw; rw [if_pos h1]; show ex_to pc dflt lv st = _; unfold ex_to; rw [hj]) kk
end XI
theorem st1_0 {a0 v : Value} {t : List Value} : ex_st1 (a0 :: t) 0 v = some (v :: t) := by
  show (if 0 < (a0 :: t).length then some ((a0 :: t).set 0 v) else none) = _
  rw [if_pos (by simp)]; rfl
theorem st2_0 {a0 a1 v : Value} {t : List Value} : ex_st2 (a0 :: a1 :: t) 0 v = some (v :: ex_no :: t) := by
  show (if 1 < (a0 :: a1 :: t).length then some (((a0 :: a1 :: t).set 0 v).set 1 ex_no) else none) = _
  rw [if_pos (by simp)]; rfl
theorem st1_1 {a0 a1 v : Value} {t : List Value} (hc : a0.category = 1) : ex_st1 (a0 :: a1 :: t) 1 v = some (a0 :: v :: t) := by
  show (if 1 < (a0 :: a1 :: t).length then some ((if a0.category = 2 then (a0 :: a1 :: t).set 0 ex_no else (a0 :: a1 :: t)).set 1 v) else none) = _
  rw [if_pos (by simp), if_neg (by rw [hc]; decide)]; rfl
theorem st2_1 {a0 a1 a2 v : Value} {t : List Value} (hc : a0.category = 1) : ex_st2 (a0 :: a1 :: a2 :: t) 1 v = some (a0 :: v :: ex_no :: t) := by
  show (if 2 < (a0 :: a1 :: a2 :: t).length then some (((if a0.category = 2 then (a0 :: a1 :: a2 :: t).set 0 ex_no else (a0 :: a1 :: a2 :: t)).set 1 v).set 2 ex_no) else none) = _
  rw [if_pos (by simp), if_neg (by rw [hc]; decide)]; rfl
theorem st1_2 {a0 a1 a2 v : Value} {t : List Value} (hc : a1.category = 1) : ex_st1 (a0 :: a1 :: a2 :: t) 2 v = some (a0 :: a1 :: v :: t) := by
  show (if 2 < (a0 :: a1 :: a2 :: t).length then some ((if a1.category = 2 then (a0 :: a1 :: a2 :: t).set 1 ex_no else (a0 :: a1 :: a2 :: t)).set 2 v) else none) = _
  rw [if_pos (by simp), if_neg (by rw [hc]; decide)]; rfl
theorem st2_2 {a0 a1 a2 a3 v : Value} {t : List Value} (hc : a1.category = 1) : ex_st2 (a0 :: a1 :: a2 :: a3 :: t) 2 v = some (a0 :: a1 :: v :: ex_no :: t) := by
  show (if 3 < (a0 :: a1 :: a2 :: a3 :: t).length then some (((if a1.category = 2 then (a0 :: a1 :: a2 :: a3 :: t).set 1 ex_no else (a0 :: a1 :: a2 :: a3 :: t)).set 2 v).set 3 ex_no) else none) = _
  rw [if_pos (by simp), if_neg (by rw [hc]; decide)]; rfl
theorem st1_3 {a0 a1 a2 a3 v : Value} {t : List Value} (hc : a2.category = 1) : ex_st1 (a0 :: a1 :: a2 :: a3 :: t) 3 v = some (a0 :: a1 :: a2 :: v :: t) := by
  show (if 3 < (a0 :: a1 :: a2 :: a3 :: t).length then some ((if a2.category = 2 then (a0 :: a1 :: a2 :: a3 :: t).set 2 ex_no else (a0 :: a1 :: a2 :: a3 :: t)).set 3 v) else none) = _
  rw [if_pos (by simp), if_neg (by rw [hc]; decide)]; rfl
theorem st2_3 {a0 a1 a2 a3 a4 v : Value} {t : List Value} (hc : a2.category = 1) : ex_st2 (a0 :: a1 :: a2 :: a3 :: a4 :: t) 3 v = some (a0 :: a1 :: a2 :: v :: ex_no :: t) := by
  show (if 4 < (a0 :: a1 :: a2 :: a3 :: a4 :: t).length then some (((if a2.category = 2 then (a0 :: a1 :: a2 :: a3 :: a4 :: t).set 2 ex_no else (a0 :: a1 :: a2 :: a3 :: a4 :: t)).set 3 v).set 4 ex_no) else none) = _
  rw [if_pos (by simp), if_neg (by rw [hc]; decide)]; rfl
theorem st1_4 {a0 a1 a2 a3 a4 v : Value} {t : List Value} (hc : a3.category = 1) : ex_st1 (a0 :: a1 :: a2 :: a3 :: a4 :: t) 4 v = some (a0 :: a1 :: a2 :: a3 :: v :: t) := by
  show (if 4 < (a0 :: a1 :: a2 :: a3 :: a4 :: t).length then some ((if a3.category = 2 then (a0 :: a1 :: a2 :: a3 :: a4 :: t).set 3 ex_no else (a0 :: a1 :: a2 :: a3 :: a4 :: t)).set 4 v) else none) = _
  rw [if_pos (by simp), if_neg (by rw [hc]; decide)]; rfl
theorem st2_4 {a0 a1 a2 a3 a4 a5 v : Value} {t : List Value} (hc : a3.category = 1) : ex_st2 (a0 :: a1 :: a2 :: a3 :: a4 :: a5 :: t) 4 v = some (a0 :: a1 :: a2 :: a3 :: v :: ex_no :: t) := by
  show (if 5 < (a0 :: a1 :: a2 :: a3 :: a4 :: a5 :: t).length then some (((if a3.category = 2 then (a0 :: a1 :: a2 :: a3 :: a4 :: a5 :: t).set 3 ex_no else (a0 :: a1 :: a2 :: a3 :: a4 :: a5 :: t)).set 4 v).set 5 ex_no) else none) = _
  rw [if_pos (by simp), if_neg (by rw [hc]; decide)]; rfl
theorem st1_5 {a0 a1 a2 a3 a4 a5 v : Value} {t : List Value} (hc : a4.category = 1) : ex_st1 (a0 :: a1 :: a2 :: a3 :: a4 :: a5 :: t) 5 v = some (a0 :: a1 :: a2 :: a3 :: a4 :: v :: t) := by
  show (if 5 < (a0 :: a1 :: a2 :: a3 :: a4 :: a5 :: t).length then some ((if a4.category = 2 then (a0 :: a1 :: a2 :: a3 :: a4 :: a5 :: t).set 4 ex_no else (a0 :: a1 :: a2 :: a3 :: a4 :: a5 :: t)).set 5 v) else none) = _
  rw [if_pos (by simp), if_neg (by rw [hc]; decide)]; rfl
theorem st2_5 {a0 a1 a2 a3 a4 a5 a6 v : Value} {t : List Value} (hc : a4.category = 1) : ex_st2 (a0 :: a1 :: a2 :: a3 :: a4 :: a5 :: a6 :: t) 5 v = some (a0 :: a1 :: a2 :: a3 :: a4 :: v :: ex_no :: t) := by
  show (if 6 < (a0 :: a1 :: a2 :: a3 :: a4 :: a5 :: a6 :: t).length then some (((if a4.category = 2 then (a0 :: a1 :: a2 :: a3 :: a4 :: a5 :: a6 :: t).set 4 ex_no else (a0 :: a1 :: a2 :: a3 :: a4 :: a5 :: a6 :: t)).set 5 v).set 6 ex_no) else none) = _
  rw [if_pos (by simp), if_neg (by rw [hc]; decide)]; rfl
theorem st1_6 {a0 a1 a2 a3 a4 a5 a6 v : Value} {t : List Value} (hc : a5.category = 1) : ex_st1 (a0 :: a1 :: a2 :: a3 :: a4 :: a5 :: a6 :: t) 6 v = some (a0 :: a1 :: a2 :: a3 :: a4 :: a5 :: v :: t) := by
  show (if 6 < (a0 :: a1 :: a2 :: a3 :: a4 :: a5 :: a6 :: t).length then some ((if a5.category = 2 then (a0 :: a1 :: a2 :: a3 :: a4 :: a5 :: a6 :: t).set 5 ex_no else (a0 :: a1 :: a2 :: a3 :: a4 :: a5 :: a6 :: t)).set 6 v) else none) = _
  rw [if_pos (by simp), if_neg (by rw [hc]; decide)]; rfl
theorem st2_6 {a0 a1 a2 a3 a4 a5 a6 a7 v : Value} {t : List Value} (hc : a5.category = 1) : ex_st2 (a0 :: a1 :: a2 :: a3 :: a4 :: a5 :: a6 :: a7 :: t) 6 v = some (a0 :: a1 :: a2 :: a3 :: a4 :: a5 :: v :: ex_no :: t) := by
  show (if 7 < (a0 :: a1 :: a2 :: a3 :: a4 :: a5 :: a6 :: a7 :: t).length then some (((if a5.category = 2 then (a0 :: a1 :: a2 :: a3 :: a4 :: a5 :: a6 :: a7 :: t).set 5 ex_no else (a0 :: a1 :: a2 :: a3 :: a4 :: a5 :: a6 :: a7 :: t)).set 6 v).set 7 ex_no) else none) = _
  rw [if_pos (by simp), if_neg (by rw [hc]; decide)]; rfl
theorem st1_7 {a0 a1 a2 a3 a4 a5 a6 a7 v : Value} {t : List Value} (hc : a6.category = 1) : ex_st1 (a0 :: a1 :: a2 :: a3 :: a4 :: a5 :: a6 :: a7 :: t) 7 v = some (a0 :: a1 :: a2 :: a3 :: a4 :: a5 :: a6 :: v :: t) := by
  show (if 7 < (a0 :: a1 :: a2 :: a3 :: a4 :: a5 :: a6 :: a7 :: t).length then some ((if a6.category = 2 then (a0 :: a1 :: a2 :: a3 :: a4 :: a5 :: a6 :: a7 :: t).set 6 ex_no else (a0 :: a1 :: a2 :: a3 :: a4 :: a5 :: a6 :: a7 :: t)).set 7 v) else none) = _
  rw [if_pos (by simp), if_neg (by rw [hc]; decide)]; rfl
theorem st2_7 {a0 a1 a2 a3 a4 a5 a6 a7 a8 v : Value} {t : List Value} (hc : a6.category = 1) : ex_st2 (a0 :: a1 :: a2 :: a3 :: a4 :: a5 :: a6 :: a7 :: a8 :: t) 7 v = some (a0 :: a1 :: a2 :: a3 :: a4 :: a5 :: a6 :: v :: ex_no :: t) := by
  show (if 8 < (a0 :: a1 :: a2 :: a3 :: a4 :: a5 :: a6 :: a7 :: a8 :: t).length then some (((if a6.category = 2 then (a0 :: a1 :: a2 :: a3 :: a4 :: a5 :: a6 :: a7 :: a8 :: t).set 6 ex_no else (a0 :: a1 :: a2 :: a3 :: a4 :: a5 :: a6 :: a7 :: a8 :: t)).set 7 v).set 8 ex_no) else none) = _
  rw [if_pos (by simp), if_neg (by rw [hc]; decide)]; rfl
theorem st1_8 {a0 a1 a2 a3 a4 a5 a6 a7 a8 v : Value} {t : List Value} (hc : a7.category = 1) : ex_st1 (a0 :: a1 :: a2 :: a3 :: a4 :: a5 :: a6 :: a7 :: a8 :: t) 8 v = some (a0 :: a1 :: a2 :: a3 :: a4 :: a5 :: a6 :: a7 :: v :: t) := by
  show (if 8 < (a0 :: a1 :: a2 :: a3 :: a4 :: a5 :: a6 :: a7 :: a8 :: t).length then some ((if a7.category = 2 then (a0 :: a1 :: a2 :: a3 :: a4 :: a5 :: a6 :: a7 :: a8 :: t).set 7 ex_no else (a0 :: a1 :: a2 :: a3 :: a4 :: a5 :: a6 :: a7 :: a8 :: t)).set 8 v) else none) = _
  rw [if_pos (by simp), if_neg (by rw [hc]; decide)]; rfl
theorem st2_8 {a0 a1 a2 a3 a4 a5 a6 a7 a8 a9 v : Value} {t : List Value} (hc : a7.category = 1) : ex_st2 (a0 :: a1 :: a2 :: a3 :: a4 :: a5 :: a6 :: a7 :: a8 :: a9 :: t) 8 v = some (a0 :: a1 :: a2 :: a3 :: a4 :: a5 :: a6 :: a7 :: v :: ex_no :: t) := by
  show (if 9 < (a0 :: a1 :: a2 :: a3 :: a4 :: a5 :: a6 :: a7 :: a8 :: a9 :: t).length then some (((if a7.category = 2 then (a0 :: a1 :: a2 :: a3 :: a4 :: a5 :: a6 :: a7 :: a8 :: a9 :: t).set 7 ex_no else (a0 :: a1 :: a2 :: a3 :: a4 :: a5 :: a6 :: a7 :: a8 :: a9 :: t)).set 8 v).set 9 ex_no) else none) = _
  rw [if_pos (by simp), if_neg (by rw [hc]; decide)]; rfl
theorem st1_9 {a0 a1 a2 a3 a4 a5 a6 a7 a8 a9 v : Value} {t : List Value} (hc : a8.category = 1) : ex_st1 (a0 :: a1 :: a2 :: a3 :: a4 :: a5 :: a6 :: a7 :: a8 :: a9 :: t) 9 v = some (a0 :: a1 :: a2 :: a3 :: a4 :: a5 :: a6 :: a7 :: a8 :: v :: t) := by
  show (if 9 < (a0 :: a1 :: a2 :: a3 :: a4 :: a5 :: a6 :: a7 :: a8 :: a9 :: t).length then some ((if a8.category = 2 then (a0 :: a1 :: a2 :: a3 :: a4 :: a5 :: a6 :: a7 :: a8 :: a9 :: t).set 8 ex_no else (a0 :: a1 :: a2 :: a3 :: a4 :: a5 :: a6 :: a7 :: a8 :: a9 :: t)).set 9 v) else none) = _
  rw [if_pos (by simp), if_neg (by rw [hc]; decide)]; rfl
theorem st2_9 {a0 a1 a2 a3 a4 a5 a6 a7 a8 a9 a10 v : Value} {t : List Value} (hc : a8.category = 1) : ex_st2 (a0 :: a1 :: a2 :: a3 :: a4 :: a5 :: a6 :: a7 :: a8 :: a9 :: a10 :: t) 9 v = some (a0 :: a1 :: a2 :: a3 :: a4 :: a5 :: a6 :: a7 :: a8 :: v :: ex_no :: t) := by
  show (if 10 < (a0 :: a1 :: a2 :: a3 :: a4 :: a5 :: a6 :: a7 :: a8 :: a9 :: a10 :: t).length then some (((if a8.category = 2 then (a0 :: a1 :: a2 :: a3 :: a4 :: a5 :: a6 :: a7 :: a8 :: a9 :: a10 :: t).set 8 ex_no else (a0 :: a1 :: a2 :: a3 :: a4 :: a5 :: a6 :: a7 :: a8 :: a9 :: a10 :: t)).set 9 v).set 10 ex_no) else none) = _
  rw [if_pos (by simp), if_neg (by rw [hc]; decide)]; rfl
theorem st1_10 {a0 a1 a2 a3 a4 a5 a6 a7 a8 a9 a10 v : Value} {t : List Value} (hc : a9.category = 1) : ex_st1 (a0 :: a1 :: a2 :: a3 :: a4 :: a5 :: a6 :: a7 :: a8 :: a9 :: a10 :: t) 10 v = some (a0 :: a1 :: a2 :: a3 :: a4 :: a5 :: a6 :: a7 :: a8 :: a9 :: v :: t) := by
  show (if 10 < (a0 :: a1 :: a2 :: a3 :: a4 :: a5 :: a6 :: a7 :: a8 :: a9 :: a10 :: t).length then some ((if a9.category = 2 then (a0 :: a1 :: a2 :: a3 :: a4 :: a5 :: a6 :: a7 :: a8 :: a9 :: a10 :: t).set 9 ex_no else (a0 :: a1 :: a2 :: a3 :: a4 :: a5 :: a6 :: a7 :: a8 :: a9 :: a10 :: t)).set 10 v) else none) = _
  rw [if_pos (by simp), if_neg (by rw [hc]; decide)]; rfl
theorem st2_10 {a0 a1 a2 a3 a4 a5 a6 a7 a8 a9 a10 a11 v : Value} {t : List Value} (hc : a9.category = 1) : ex_st2 (a0 :: a1 :: a2 :: a3 :: a4 :: a5 :: a6 :: a7 :: a8 :: a9 :: a10 :: a11 :: t) 10 v = some (a0 :: a1 :: a2 :: a3 :: a4 :: a5 :: a6 :: a7 :: a8 :: a9 :: v :: ex_no :: t) := by
  show (if 11 < (a0 :: a1 :: a2 :: a3 :: a4 :: a5 :: a6 :: a7 :: a8 :: a9 :: a10 :: a11 :: t).length then some (((if a9.category = 2 then (a0 :: a1 :: a2 :: a3 :: a4 :: a5 :: a6 :: a7 :: a8 :: a9 :: a10 :: a11 :: t).set 9 ex_no else (a0 :: a1 :: a2 :: a3 :: a4 :: a5 :: a6 :: a7 :: a8 :: a9 :: a10 :: a11 :: t)).set 10 v).set 11 ex_no) else none) = _
  rw [if_pos (by simp), if_neg (by rw [hc]; decide)]; rfl
theorem st1_11 {a0 a1 a2 a3 a4 a5 a6 a7 a8 a9 a10 a11 v : Value} {t : List Value} (hc : a10.category = 1) : ex_st1 (a0 :: a1 :: a2 :: a3 :: a4 :: a5 :: a6 :: a7 :: a8 :: a9 :: a10 :: a11 :: t) 11 v = some (a0 :: a1 :: a2 :: a3 :: a4 :: a5 :: a6 :: a7 :: a8 :: a9 :: a10 :: v :: t) := by
  show (if 11 < (a0 :: a1 :: a2 :: a3 :: a4 :: a5 :: a6 :: a7 :: a8 :: a9 :: a10 :: a11 :: t).length then some ((if a10.category = 2 then (a0 :: a1 :: a2 :: a3 :: a4 :: a5 :: a6 :: a7 :: a8 :: a9 :: a10 :: a11 :: t).set 10 ex_no else (a0 :: a1 :: a2 :: a3 :: a4 :: a5 :: a6 :: a7 :: a8 :: a9 :: a10 :: a11 :: t)).set 11 v) else none) = _
  rw [if_pos (by simp), if_neg (by rw [hc]; decide)]; rfl
theorem st2_11 {a0 a1 a2 a3 a4 a5 a6 a7 a8 a9 a10 a11 a12 v : Value} {t : List Value} (hc : a10.category = 1) : ex_st2 (a0 :: a1 :: a2 :: a3 :: a4 :: a5 :: a6 :: a7 :: a8 :: a9 :: a10 :: a11 :: a12 :: t) 11 v = some (a0 :: a1 :: a2 :: a3 :: a4 :: a5 :: a6 :: a7 :: a8 :: a9 :: a10 :: v :: ex_no :: t) := by
  show (if 12 < (a0 :: a1 :: a2 :: a3 :: a4 :: a5 :: a6 :: a7 :: a8 :: a9 :: a10 :: a11 :: a12 :: t).length then some (((if a10.category = 2 then (a0 :: a1 :: a2 :: a3 :: a4 :: a5 :: a6 :: a7 :: a8 :: a9 :: a10 :: a11 :: a12 :: t).set 10 ex_no else (a0 :: a1 :: a2 :: a3 :: a4 :: a5 :: a6 :: a7 :: a8 :: a9 :: a10 :: a11 :: a12 :: t)).set 11 v).set 12 ex_no) else none) = _
  rw [if_pos (by simp), if_neg (by rw [hc]; decide)]; rfl
theorem st1_12 {a0 a1 a2 a3 a4 a5 a6 a7 a8 a9 a10 a11 a12 v : Value} {t : List Value} (hc : a11.category = 1) : ex_st1 (a0 :: a1 :: a2 :: a3 :: a4 :: a5 :: a6 :: a7 :: a8 :: a9 :: a10 :: a11 :: a12 :: t) 12 v = some (a0 :: a1 :: a2 :: a3 :: a4 :: a5 :: a6 :: a7 :: a8 :: a9 :: a10 :: a11 :: v :: t) := by
  show (if 12 < (a0 :: a1 :: a2 :: a3 :: a4 :: a5 :: a6 :: a7 :: a8 :: a9 :: a10 :: a11 :: a12 :: t).length then some ((if a11.category = 2 then (a0 :: a1 :: a2 :: a3 :: a4 :: a5 :: a6 :: a7 :: a8 :: a9 :: a10 :: a11 :: a12 :: t).set 11 ex_no else (a0 :: a1 :: a2 :: a3 :: a4 :: a5 :: a6 :: a7 :: a8 :: a9 :: a10 :: a11 :: a12 :: t)).set 12 v) else none) = _
  rw [if_pos (by simp), if_neg (by rw [hc]; decide)]; rfl
theorem st2_12 {a0 a1 a2 a3 a4 a5 a6 a7 a8 a9 a10 a11 a12 a13 v : Value} {t : List Value} (hc : a11.category = 1) : ex_st2 (a0 :: a1 :: a2 :: a3 :: a4 :: a5 :: a6 :: a7 :: a8 :: a9 :: a10 :: a11 :: a12 :: a13 :: t) 12 v = some (a0 :: a1 :: a2 :: a3 :: a4 :: a5 :: a6 :: a7 :: a8 :: a9 :: a10 :: a11 :: v :: ex_no :: t) := by
  show (if 13 < (a0 :: a1 :: a2 :: a3 :: a4 :: a5 :: a6 :: a7 :: a8 :: a9 :: a10 :: a11 :: a12 :: a13 :: t).length then some (((if a11.category = 2 then (a0 :: a1 :: a2 :: a3 :: a4 :: a5 :: a6 :: a7 :: a8 :: a9 :: a10 :: a11 :: a12 :: a13 :: t).set 11 ex_no else (a0 :: a1 :: a2 :: a3 :: a4 :: a5 :: a6 :: a7 :: a8 :: a9 :: a10 :: a11 :: a12 :: a13 :: t)).set 12 v).set 13 ex_no) else none) = _
  rw [if_pos (by simp), if_neg (by rw [hc]; decide)]; rfl
theorem st1_13 {a0 a1 a2 a3 a4 a5 a6 a7 a8 a9 a10 a11 a12 a13 v : Value} {t : List Value} (hc : a12.category = 1) : ex_st1 (a0 :: a1 :: a2 :: a3 :: a4 :: a5 :: a6 :: a7 :: a8 :: a9 :: a10 :: a11 :: a12 :: a13 :: t) 13 v = some (a0 :: a1 :: a2 :: a3 :: a4 :: a5 :: a6 :: a7 :: a8 :: a9 :: a10 :: a11 :: a12 :: v :: t) := by
  show (if 13 < (a0 :: a1 :: a2 :: a3 :: a4 :: a5 :: a6 :: a7 :: a8 :: a9 :: a10 :: a11 :: a12 :: a13 :: t).length then some ((if a12.category = 2 then (a0 :: a1 :: a2 :: a3 :: a4 :: a5 :: a6 :: a7 :: a8 :: a9 :: a10 :: a11 :: a12 :: a13 :: t).set 12 ex_no else (a0 :: a1 :: a2 :: a3 :: a4 :: a5 :: a6 :: a7 :: a8 :: a9 :: a10 :: a11 :: a12 :: a13 :: t)).set 13 v) else none) = _
  rw [if_pos (by simp), if_neg (by rw [hc]; decide)]; rfl
end
section
/-! tables of the program, printed by gen.py -/
def cb_cn : Nat → String
  | 0 => "CommandBuses"
  | 1 => "CommandBuses$Controller"
  | 2 => "CommandBuses$Wires"
  | 3 => "CommandBuses$Monitor"
  | 4 => "CommandBuses$Terminal"
  | 5 => "CommandBuses$Table"
  | 6 => "CommandBuses$Roster"
  | 7 => "CommandBuses$Message"
  | 8 => "CommandBusesModel"
  | 9 => "CommandBuses$Coding"
  | 10 => "CommandBuses$Commands"
  | 11 => "CommandBusesLaw"
  | 12 => "java/lang/Integer"
  | _ => "java/util/Arrays"
def cb_T0 : u_T := fun k => match k with
  | 0 => ("CommandBuses", "controller", "LCommandBuses$Controller;", true)
  | 1 => ("CommandBuses", "terminals", "[LCommandBuses$Terminal;", true)
  | 2 => ("CommandBuses", "wires", "LCommandBuses$Wires;", true)
  | 3 => ("CommandBuses", "table", "LCommandBuses$Table;", true)
  | _ => ("CommandBuses", "roster", "LCommandBuses$Roster;", true)
def cb_T1 : u_T := fun k => match k with
  | 0 => ("CommandBuses$Controller", "terminals", "[LCommandBuses$Terminal;", true)
  | 1 => ("CommandBuses$Controller", "wires", "LCommandBuses$Wires;", true)
  | _ => ("CommandBuses$Controller", "ownBus", "I", false)
def cb_T2 : u_T := fun k => match k with
  | 0 => ("CommandBuses$Wires", "monitor", "LCommandBuses$Monitor;", true)
  | 1 => ("CommandBuses$Wires", "faultKinds", "[I", true)
  | _ => ("CommandBuses$Wires", "wordsBefore", "[I", true)
def cb_T3 : u_T := fun k => match k with
  | 0 => ("CommandBuses$Monitor", "latest", "[I", true)
  | 1 => ("CommandBuses$Monitor", "next", "I", false)
  | _ => ("CommandBuses$Monitor", "written", "I", false)
def cb_T4 : u_T := fun k => match k with
  | 0 => ("CommandBuses$Terminal", "number", "I", true)
  | 1 => ("CommandBuses$Terminal", "isLive", "Z", false)
  | 2 => ("CommandBuses$Terminal", "hasError", "Z", false)
  | 3 => ("CommandBuses$Terminal", "hasAll", "Z", false)
  | 4 => ("CommandBuses$Terminal", "lastCommand", "I", false)
  | 5 => ("CommandBuses$Terminal", "timesSynchronized", "I", false)
  | 6 => ("CommandBuses$Terminal", "isShut", "[Z", true)
  | 7 => ("CommandBuses$Terminal", "drafts", "[I", true)
  | 8 => ("CommandBuses$Terminal", "toSend", "[I", true)
  | 9 => ("CommandBuses$Terminal", "received", "[I", true)
  | _ => ("CommandBuses$Terminal", "hasReceived", "[Z", true)
def cb_T5 : u_T := fun k => match k with
  | 0 => ("CommandBuses$Table", "messages", "[LCommandBuses$Message;", true)
  | 1 => ("CommandBuses$Table", "loads", "[I", true)
  | 2 => ("CommandBuses$Table", "count", "I", false)
  | 3 => ("CommandBuses$Table", "nextFrame", "I", false)
  | _ => ("CommandBuses$Table", "isSealed", "Z", false)
def cb_T6 : u_T := fun k => match k with
  | 0 => ("CommandBuses$Roster", "badFrames", "[I", true)
  | 1 => ("CommandBuses$Roster", "isDropped", "[Z", true)
  | 2 => ("CommandBuses$Roster", "wasUsed", "[Z", true)
  | _ => ("CommandBuses$Roster", "hasFailed", "[Z", true)
def cb_T7 : u_T := fun k => match k with
  | 0 => ("CommandBuses$Message", "kind", "I", true)
  | 1 => ("CommandBuses$Message", "x", "I", true)
  | 2 => ("CommandBuses$Message", "y", "I", true)
  | 3 => ("CommandBuses$Message", "subaddress", "I", true)
  | 4 => ("CommandBuses$Message", "n", "I", true)
  | 5 => ("CommandBuses$Message", "period", "I", true)
  | 6 => ("CommandBuses$Message", "values", "[I", true)
  | 7 => ("CommandBuses$Message", "phase", "I", false)
  | _ => ("CommandBuses$Message", "outcome", "I", false)
def cb_T8 : u_T := fun k => match k with
  | 0 => ("CommandBusesModel", "armed", "[Z", true)
  | 1 => ("CommandBusesModel", "faultKind", "[I", true)
  | 2 => ("CommandBusesModel", "after", "[I", true)
  | 3 => ("CommandBusesModel", "heardWords", "I", false)
  | 4 => ("CommandBusesModel", "log", "[I", true)
  | 5 => ("CommandBusesModel", "dead", "[Z", true)
  | 6 => ("CommandBusesModel", "drafts", "[I", true)
  | 7 => ("CommandBusesModel", "toSend", "[I", true)
  | 8 => ("CommandBusesModel", "got", "[I", true)
  | 9 => ("CommandBusesModel", "any", "[Z", true)
  | 10 => ("CommandBusesModel", "error", "[Z", true)
  | 11 => ("CommandBusesModel", "all", "[Z", true)
  | 12 => ("CommandBusesModel", "last", "[I", true)
  | 13 => ("CommandBusesModel", "synced", "[I", true)
  | 14 => ("CommandBusesModel", "shut", "[Z", true)
  | 15 => ("CommandBusesModel", "badFrames", "[I", true)
  | 16 => ("CommandBusesModel", "dropped", "[Z", true)
  | 17 => ("CommandBusesModel", "messages", "I", false)
  | 18 => ("CommandBusesModel", "kinds", "[I", true)
  | 19 => ("CommandBusesModel", "xs", "[I", true)
  | 20 => ("CommandBusesModel", "ys", "[I", true)
  | 21 => ("CommandBusesModel", "subs", "[I", true)
  | 22 => ("CommandBusesModel", "ns", "[I", true)
  | 23 => ("CommandBusesModel", "periods", "[I", true)
  | 24 => ("CommandBusesModel", "phases", "[I", true)
  | 25 => ("CommandBusesModel", "values", "[I", true)
  | 26 => ("CommandBusesModel", "outcomes", "[I", true)
  | 27 => ("CommandBusesModel", "sealed", "Z", false)
  | 28 => ("CommandBusesModel", "loads", "[I", true)
  | 29 => ("CommandBusesModel", "frame", "I", false)
  | 30 => ("CommandBusesModel", "bus", "I", false)
  | 31 => ("CommandBusesModel", "came", "[I", true)
  | 32 => ("CommandBusesModel", "good", "I", false)
  | _ => ("CommandBusesModel", "part", "[I", true)
def cb_TT : Nat → u_T
  | 0 => cb_T0
  | 1 => cb_T1
  | 2 => cb_T2
  | 3 => cb_T3
  | 4 => cb_T4
  | 5 => cb_T5
  | 6 => cb_T6
  | 7 => cb_T7
  | 8 => cb_T8
  | _ => cb_T0
def cb_nf : Nat → Nat
  | 0 => 5
  | 1 => 3
  | 2 => 3
  | 3 => 3
  | 4 => 11
  | 5 => 5
  | 6 => 4
  | 7 => 9
  | 8 => 34
  | _ => 0
def cb_fkL : List (List Nat) := [[2, 2, 2, 2, 2], [2, 2, 0], [2, 2, 2], [2, 0, 0], [0, 1, 1, 1, 0, 0, 2, 2, 2, 2, 2], [2, 2, 0, 0, 1], [2, 2, 2, 2], [0, 0, 0, 0, 0, 0, 2, 0, 0], [2, 2, 2, 0, 2, 2, 2, 2, 2, 2, 2, 2, 2, 2, 2, 2, 2, 0, 2, 2, 2, 2, 2, 2, 2, 2, 2, 1, 2, 0, 0, 2, 0, 2]]
def cb_fk (c k : Nat) : Nat := (cb_fkL.getD c []).getD k 0
def cb_cl : List vw_C := [(cb_cn 0, cb_TT 0, cb_nf 0), (cb_cn 1, cb_TT 1, cb_nf 1), (cb_cn 2, cb_TT 2, cb_nf 2), (cb_cn 3, cb_TT 3, cb_nf 3), (cb_cn 4, cb_TT 4, cb_nf 4), (cb_cn 5, cb_TT 5, cb_nf 5), (cb_cn 6, cb_TT 6, cb_nf 6), (cb_cn 7, cb_TT 7, cb_nf 7), (cb_cn 8, cb_TT 8, cb_nf 8)]
/-- CommandBusesLaw/law -/
def cd_0 : List (Nat × Instr) := [(0, .new 7), (3, .dup), (4, .invokespecial 9), (7, .astore_n 1), (8, .new 10), (11, .dup), (12, .invokespecial 12), (15, .astore_n 2), (16, .iconst (.ofNat 0)), (17, .istore_n 3), (18, .iload_n 3), (19, .aload_n 0), (20, .arraylength), (21, .bipush (.ofNat 7)), (23, .isub), (24, .if_icmp .gt (.ofNat 758)), (27, .aload_n 0), (28, .iload_n 3), (29, .iaload), (30, .bipush (.ofNat 31)), (32, .iand), (33, .tableswitch (.ofNat 743) (.ofNat 0) (.ofNat 18) #[(.ofNat 91), (.ofNat 141), (.ofNat 194), (.ofNat 243), (.ofNat 296), (.ofNat 329), (.ofNat 372), (.ofNat 405), (.ofNat 480), (.ofNat 523), (.ofNat 556), (.ofNat 579), (.ofNat 592), (.ofNat 615), (.ofNat 658), (.ofNat 671), (.ofNat 694), (.ofNat 707), (.ofNat 720)]), (124, .aload_n 1), (125, .aload_n 0), (126, .iload_n 3), (127, .iconst (.ofNat 1)), (128, .iadd), (129, .iaload), (130, .ifCond .eq (.ofNat 7)), (133, .iconst (.ofNat 1)), (134, .goto (.ofNat 4)), (137, .iconst (.ofNat 0)), (138, .aload_n 0), (139, .iload_n 3), (140, .iconst (.ofNat 2)), (141, .iadd), (142, .iaload), (143, .invokevirtual 13), (146, .aload_n 2), (147, .aload_n 0), (148, .iload_n 3), (149, .iconst (.ofNat 1)), (150, .iadd), (151, .iaload), (152, .ifCond .eq (.ofNat 7)), (155, .iconst (.ofNat 1)), (156, .goto (.ofNat 4)), (159, .iconst (.ofNat 0)), (160, .aload_n 0), (161, .iload_n 3), (162, .iconst (.ofNat 2)), (163, .iadd), (164, .iaload), (165, .invokevirtual 17), (168, .lcmp), (169, .ifCond .eq (.ofNat 607)), (172, .iconst (.ofNat 0)), (173, .ireturn), (174, .aload_n 1), (175, .aload_n 0), (176, .iload_n 3), (177, .iconst (.ofNat 1)), (178, .iadd), (179, .iaload), (180, .i2l), (181, .bipush (.ofNat 32)), (183, .lshl), (184, .aload_n 0), (185, .iload_n 3), (186, .iconst (.ofNat 2)), (187, .iadd), (188, .iaload), (189, .i2l), (190, .ldc2_w 18), (193, .land), (194, .lor), (195, .invokevirtual 20), (198, .aload_n 2), (199, .aload_n 0), (200, .iload_n 3), (201, .iconst (.ofNat 1)), (202, .iadd), (203, .iaload), (204, .i2l), (205, .bipush (.ofNat 32)), (207, .lshl), (208, .aload_n 0), (209, .iload_n 3), (210, .iconst (.ofNat 2)), (211, .iadd), (212, .iaload), (213, .i2l), (214, .ldc2_w 18), (217, .land), (218, .lor), (219, .invokevirtual 24), (222, .if_icmp .eq (.ofNat 554)), (225, .iconst (.ofNat 0)), (226, .ireturn), (227, .aload_n 1), (228, .aload_n 0), (229, .iload_n 3), (230, .iconst (.ofNat 1)), (231, .iadd), (232, .iaload), (233, .aload_n 0), (234, .iload_n 3), (235, .iconst (.ofNat 2)), (236, .iadd), (237, .iaload), (238, .ifCond .eq (.ofNat 7)), (241, .iconst (.ofNat 1)), (242, .goto (.ofNat 4)), (245, .iconst (.ofNat 0)), (246, .invokevirtual 25), (249, .aload_n 2), (250, .aload_n 0), (251, .iload_n 3), (252, .iconst (.ofNat 1)), (253, .iadd), (254, .iaload), (255, .aload_n 0), (256, .iload_n 3), (257, .iconst (.ofNat 2)), (258, .iadd), (259, .iaload), (260, .ifCond .eq (.ofNat 7)), (263, .iconst (.ofNat 1)), (264, .goto (.ofNat 4)), (267, .iconst (.ofNat 0)), (268, .invokevirtual 29), (271, .if_icmp .eq (.ofNat 505)), (274, .iconst (.ofNat 0)), (275, .ireturn), (276, .aload_n 1), (277, .aload_n 0), (278, .iload_n 3), (279, .iconst (.ofNat 1)), (280, .iadd), (281, .iaload), (282, .aload_n 0), (283, .iload_n 3), (284, .iconst (.ofNat 2)), (285, .iadd), (286, .iaload), (287, .aload_n 0), (288, .iload_n 3), (289, .iconst (.ofNat 3)), (290, .iadd), (291, .iaload), (292, .aload_n 0), (293, .iload_n 3), (294, .iconst (.ofNat 4)), (295, .iadd), (296, .iaload), (297, .invokevirtual 30), (300, .aload_n 2), (301, .aload_n 0), (302, .iload_n 3), (303, .iconst (.ofNat 1)), (304, .iadd), (305, .iaload), (306, .aload_n 0), (307, .iload_n 3), (308, .iconst (.ofNat 2)), (309, .iadd), (310, .iaload), (311, .aload_n 0), (312, .iload_n 3), (313, .iconst (.ofNat 3)), (314, .iadd), (315, .iaload), (316, .aload_n 0), (317, .iload_n 3), (318, .iconst (.ofNat 4)), (319, .iadd), (320, .iaload), (321, .invokevirtual 34), (324, .if_icmp .eq (.ofNat 452)), (327, .iconst (.ofNat 0)), (328, .ireturn), (329, .aload_n 1), (330, .aload_n 0), (331, .iload_n 3), (332, .iconst (.ofNat 1)), (333, .iadd), (334, .iaload), (335, .aload_n 0), (336, .iload_n 3), (337, .iconst (.ofNat 2)), (338, .iadd), (339, .iaload), (340, .invokevirtual 35), (343, .aload_n 2), (344, .aload_n 0), (345, .iload_n 3), (346, .iconst (.ofNat 1)), (347, .iadd), (348, .iaload), (349, .aload_n 0), (350, .iload_n 3), (351, .iconst (.ofNat 2)), (352, .iadd), (353, .iaload), (354, .invokevirtual 39), (357, .if_icmp .eq (.ofNat 419)), (360, .iconst (.ofNat 0)), (361, .ireturn), (362, .aload_n 1), (363, .aload_n 0), (364, .iload_n 3), (365, .iconst (.ofNat 1)), (366, .iadd), (367, .iaload), (368, .aload_n 0), (369, .iload_n 3), (370, .iconst (.ofNat 2)), (371, .iadd), (372, .iaload), (373, .aload_n 0), (374, .iload_n 3), (375, .iconst (.ofNat 3)), (376, .iadd), (377, .iaload), (378, .invokevirtual 40), (381, .aload_n 2), (382, .aload_n 0), (383, .iload_n 3), (384, .iconst (.ofNat 1)), (385, .iadd), (386, .iaload), (387, .aload_n 0), (388, .iload_n 3), (389, .iconst (.ofNat 2)), (390, .iadd), (391, .iaload), (392, .aload_n 0), (393, .iload_n 3), (394, .iconst (.ofNat 3)), (395, .iadd), (396, .iaload), (397, .invokevirtual 44), (400, .if_icmp .eq (.ofNat 376)), (403, .iconst (.ofNat 0)), (404, .ireturn), (405, .aload_n 1), (406, .aload_n 0), (407, .iload_n 3), (408, .iconst (.ofNat 1)), (409, .iadd), (410, .iaload), (411, .aload_n 0), (412, .iload_n 3), (413, .iconst (.ofNat 2)), (414, .iadd), (415, .iaload), (416, .invokevirtual 45), (419, .aload_n 2), (420, .aload_n 0), (421, .iload_n 3), (422, .iconst (.ofNat 1)), (423, .iadd), (424, .iaload), (425, .aload_n 0), (426, .iload_n 3), (427, .iconst (.ofNat 2)), (428, .iadd), (429, .iaload), (430, .invokevirtual 49), (433, .if_icmp .eq (.ofNat 343)), (436, .iconst (.ofNat 0)), (437, .ireturn), (438, .aload_n 1), (439, .aload_n 0), (440, .iload_n 3), (441, .iconst (.ofNat 1)), (442, .iadd), (443, .iaload), (444, .aload_n 0), (445, .iload_n 3), (446, .iconst (.ofNat 2)), (447, .iadd), (448, .iaload), (449, .aload_n 0), (450, .iload_n 3), (451, .iconst (.ofNat 3)), (452, .iadd), (453, .iaload), (454, .aload_n 0), (455, .iload_n 3), (456, .iconst (.ofNat 4)), (457, .iadd), (458, .iaload), (459, .aload_n 0), (460, .iload_n 3), (461, .iconst (.ofNat 5)), (462, .iadd), (463, .iaload), (464, .aload_n 0), (465, .iload_n 3), (466, .bipush (.ofNat 6)), (468, .iadd), (469, .iaload), (470, .invokevirtual 50), (473, .aload_n 2), (474, .aload_n 0), (475, .iload_n 3), (476, .iconst (.ofNat 1)), (477, .iadd), (478, .iaload), (479, .aload_n 0), (480, .iload_n 3), (481, .iconst (.ofNat 2)), (482, .iadd), (483, .iaload), (484, .aload_n 0), (485, .iload_n 3), (486, .iconst (.ofNat 3)), (487, .iadd), (488, .iaload), (489, .aload_n 0), (490, .iload_n 3), (491, .iconst (.ofNat 4)), (492, .iadd), (493, .iaload), (494, .aload_n 0), (495, .iload_n 3), (496, .iconst (.ofNat 5)), (497, .iadd), (498, .iaload), (499, .aload_n 0), (500, .iload_n 3), (501, .bipush (.ofNat 6)), (503, .iadd), (504, .iaload), (505, .invokevirtual 54), (508, .if_icmp .eq (.ofNat 268)), (511, .iconst (.ofNat 0)), (512, .ireturn), (513, .aload_n 1), (514, .aload_n 0), (515, .iload_n 3), (516, .iconst (.ofNat 1)), (517, .iadd), (518, .iaload), (519, .aload_n 0), (520, .iload_n 3), (521, .iconst (.ofNat 2)), (522, .iadd), (523, .iaload), (524, .aload_n 0), (525, .iload_n 3), (526, .iconst (.ofNat 3)), (527, .iadd), (528, .iaload), (529, .invokevirtual 55), (532, .aload_n 2), (533, .aload_n 0), (534, .iload_n 3), (535, .iconst (.ofNat 1)), (536, .iadd), (537, .iaload), (538, .aload_n 0), (539, .iload_n 3), (540, .iconst (.ofNat 2)), (541, .iadd), (542, .iaload), (543, .aload_n 0), (544, .iload_n 3), (545, .iconst (.ofNat 3)), (546, .iadd), (547, .iaload), (548, .invokevirtual 59), (551, .if_icmp .eq (.ofNat 225)), (554, .iconst (.ofNat 0)), (555, .ireturn), (556, .aload_n 1), (557, .aload_n 0), (558, .iload_n 3), (559, .iconst (.ofNat 1)), (560, .iadd), (561, .iaload), (562, .aload_n 0), (563, .iload_n 3), (564, .iconst (.ofNat 2)), (565, .iadd), (566, .iaload), (567, .invokevirtual 60), (570, .aload_n 2), (571, .aload_n 0), (572, .iload_n 3), (573, .iconst (.ofNat 1)), (574, .iadd), (575, .iaload), (576, .aload_n 0), (577, .iload_n 3), (578, .iconst (.ofNat 2)), (579, .iadd), (580, .iaload), (581, .invokevirtual 63), (584, .if_icmp .eq (.ofNat 192)), (587, .iconst (.ofNat 0)), (588, .ireturn), (589, .aload_n 1), (590, .aload_n 0), (591, .iload_n 3), (592, .iconst (.ofNat 1)), (593, .iadd), (594, .iaload), (595, .invokevirtual 64), (598, .aload_n 2), (599, .aload_n 0), (600, .iload_n 3), (601, .iconst (.ofNat 1)), (602, .iadd), (603, .iaload), (604, .invokevirtual 68), (607, .if_icmp .eq (.ofNat 169)), (610, .iconst (.ofNat 0)), (611, .ireturn), (612, .aload_n 1), (613, .invokevirtual 69), (616, .aload_n 2), (617, .invokevirtual 73), (620, .if_icmp .eq (.ofNat 156)), (623, .iconst (.ofNat 0)), (624, .ireturn), (625, .aload_n 1), (626, .aload_n 0), (627, .iload_n 3), (628, .iconst (.ofNat 1)), (629, .iadd), (630, .iaload), (631, .invokevirtual 74), (634, .aload_n 2), (635, .aload_n 0), (636, .iload_n 3), (637, .iconst (.ofNat 1)), (638, .iadd), (639, .iaload), (640, .invokevirtual 77), (643, .if_icmp .eq (.ofNat 133)), (646, .iconst (.ofNat 0)), (647, .ireturn), (648, .aload_n 1), (649, .aload_n 0), (650, .iload_n 3), (651, .iconst (.ofNat 1)), (652, .iadd), (653, .iaload), (654, .aload_n 0), (655, .iload_n 3), (656, .iconst (.ofNat 2)), (657, .iadd), (658, .iaload), (659, .aload_n 0), (660, .iload_n 3), (661, .iconst (.ofNat 3)), (662, .iadd), (663, .iaload), (664, .invokevirtual 78), (667, .aload_n 2), (668, .aload_n 0), (669, .iload_n 3), (670, .iconst (.ofNat 1)), (671, .iadd), (672, .iaload), (673, .aload_n 0), (674, .iload_n 3), (675, .iconst (.ofNat 2)), (676, .iadd), (677, .iaload), (678, .aload_n 0), (679, .iload_n 3), (680, .iconst (.ofNat 3)), (681, .iadd), (682, .iaload), (683, .invokevirtual 81), (686, .if_icmp .eq (.ofNat 90)), (689, .iconst (.ofNat 0)), (690, .ireturn), (691, .aload_n 1), (692, .invokevirtual 82), (695, .aload_n 2), (696, .invokevirtual 86), (699, .if_icmp .eq (.ofNat 77)), (702, .iconst (.ofNat 0)), (703, .ireturn), (704, .aload_n 1), (705, .aload_n 0), (706, .iload_n 3), (707, .iconst (.ofNat 1)), (708, .iadd), (709, .iaload), (710, .invokevirtual 87), (713, .aload_n 2), (714, .aload_n 0), (715, .iload_n 3), (716, .iconst (.ofNat 1)), (717, .iadd), (718, .iaload), (719, .invokevirtual 90), (722, .if_icmp .eq (.ofNat 54)), (725, .iconst (.ofNat 0)), (726, .ireturn), (727, .aload_n 1), (728, .invokevirtual 91), (731, .aload_n 2), (732, .invokevirtual 94), (735, .if_icmp .eq (.ofNat 41)), (738, .iconst (.ofNat 0)), (739, .ireturn), (740, .aload_n 1), (741, .invokevirtual 95), (744, .aload_n 2), (745, .invokevirtual 98), (748, .if_icmp .eq (.ofNat 28)), (751, .iconst (.ofNat 0)), (752, .ireturn), (753, .aload_n 1), (754, .aload_n 0), (755, .iload_n 3), (756, .iconst (.ofNat 1)), (757, .iadd), (758, .iaload), (759, .invokevirtual 99), (762, .aload_n 2), (763, .aload_n 0), (764, .iload_n 3), (765, .iconst (.ofNat 1)), (766, .iadd), (767, .iaload), (768, .invokevirtual 102), (771, .if_icmp .eq (.ofNat 5)), (774, .iconst (.ofNat 0)), (775, .ireturn), (776, .iinc 3 (.ofNat 7)), (779, .goto (.negSucc 760)), (782, .iconst (.ofNat 1)), (783, .ireturn)]
/-- CommandBuses/make -/
def cd_1 : List (Nat × Instr) := [(0, .aload_n 0), (1, .invokespecial 1), (4, .aload_n 0), (5, .new 7), (8, .dup), (9, .invokespecial 9), (12, .putfield 10), (15, .aload_n 0), (16, .aload_n 0), (17, .getfield 10), (20, .getfield 16), (23, .putfield 20), (26, .aload_n 0), (27, .aload_n 0), (28, .getfield 10), (31, .getfield 21), (34, .putfield 25), (37, .aload_n 0), (38, .new 26), (41, .dup), (42, .invokespecial 28), (45, .putfield 29), (48, .aload_n 0), (49, .new 33), (52, .dup), (53, .invokespecial 35), (56, .putfield 36), (59, .return_)]
/-- CommandBuses/encode -/
def cd_2 : List (Nat × Instr) := [(0, .iload_n 2), (1, .invokestatic 40), (4, .ifCond .eq (.ofNat 11)), (7, .iload_n 1), (8, .iload_n 2), (9, .invokestatic 44), (12, .goto (.ofNat 6)), (15, .ldc2_w 50), (18, .lreturn)]
/-- CommandBuses/isValue -/
def cd_3 : List (Nat × Instr) := [(0, .iload_n 0), (1, .ifCond .lt (.ofNat 13)), (4, .iload_n 0), (5, .ldc 210), (7, .if_icmp .gt (.ofNat 7)), (10, .iconst (.ofNat 1)), (11, .goto (.ofNat 4)), (14, .iconst (.ofNat 0)), (15, .ireturn)]
/-- CommandBuses/decode -/
def cd_4 : List (Nat × Instr) := [(0, .lload_n 1), (1, .invokestatic 52), (4, .ireturn)]
/-- CommandBuses/live -/
def cd_5 : List (Nat × Instr) := [(0, .iload_n 1), (1, .invokestatic 56), (4, .ifCond .ne (.ofNat 5)), (7, .iconst (.ofNat 0)), (8, .ireturn), (9, .aload_n 0), (10, .getfield 20), (13, .iload_n 1), (14, .aaload), (15, .iload_n 2), (16, .putfield 59), (19, .iconst (.ofNat 1)), (20, .ireturn)]
/-- CommandBuses/isTerminal -/
def cd_6 : List (Nat × Instr) := [(0, .iload_n 0), (1, .ifCond .lt (.ofNat 13)), (4, .iload_n 0), (5, .bipush (.ofNat 6)), (7, .if_icmp .ge (.ofNat 7)), (10, .iconst (.ofNat 1)), (11, .goto (.ofNat 4)), (14, .iconst (.ofNat 0)), (15, .ireturn)]
/-- CommandBuses/draft -/
def cd_7 : List (Nat × Instr) := [(0, .iload_n 1), (1, .iload_n 2), (2, .invokestatic 65), (5, .ifCond .eq (.ofNat 18)), (8, .iload_n 3), (9, .invokestatic 69), (12, .ifCond .eq (.ofNat 11)), (15, .iload 4), (17, .invokestatic 40), (20, .ifCond .ne (.ofNat 5)), (23, .iconst (.ofNat 0)), (24, .ireturn), (25, .aload_n 0), (26, .getfield 20), (29, .iload_n 1), (30, .aaload), (31, .getfield 72), (34, .iload_n 2), (35, .invokestatic 76), (38, .iload_n 3), (39, .iadd), (40, .iload 4), (42, .iastore), (43, .iconst (.ofNat 1)), (44, .ireturn)]
/-- CommandBuses/isPlace -/
def cd_8 : List (Nat × Instr) := [(0, .iload_n 0), (1, .invokestatic 56), (4, .ifCond .eq (.ofNat 14)), (7, .iload_n 1), (8, .invokestatic 207), (11, .ifCond .eq (.ofNat 7)), (14, .iconst (.ofNat 1)), (15, .goto (.ofNat 4)), (18, .iconst (.ofNat 0)), (19, .ireturn)]
/-- CommandBuses/isSubaddress -/
def cd_9 : List (Nat × Instr) := [(0, .iload_n 0), (1, .iconst (.ofNat 1)), (2, .if_icmp .lt (.ofNat 12)), (5, .iload_n 0), (6, .iconst (.ofNat 3)), (7, .if_icmp .gt (.ofNat 7)), (10, .iconst (.ofNat 1)), (11, .goto (.ofNat 4)), (14, .iconst (.ofNat 0)), (15, .ireturn)]
/-- CommandBuses/isIndex -/
def cd_10 : List (Nat × Instr) := [(0, .iload_n 0), (1, .ifCond .lt (.ofNat 12)), (4, .iload_n 0), (5, .iconst (.ofNat 4)), (6, .if_icmp .ge (.ofNat 7)), (9, .iconst (.ofNat 1)), (10, .goto (.ofNat 4)), (13, .iconst (.ofNat 0)), (14, .ireturn)]
/-- CommandBuses/publish -/
def cd_11 : List (Nat × Instr) := [(0, .iload_n 1), (1, .iload_n 2), (2, .invokestatic 65), (5, .ifCond .ne (.ofNat 5)), (8, .iconst (.ofNat 0)), (9, .ireturn), (10, .aload_n 0), (11, .getfield 20), (14, .iload_n 1), (15, .aaload), (16, .iload_n 2), (17, .invokevirtual 80), (20, .iconst (.ofNat 1)), (21, .ireturn)]
/-- CommandBuses/received -/
def cd_12 : List (Nat × Instr) := [(0, .iload_n 1), (1, .iload_n 2), (2, .invokestatic 65), (5, .ifCond .eq (.ofNat 10)), (8, .iload_n 3), (9, .invokestatic 69), (12, .ifCond .ne (.ofNat 5)), (15, .iconst (.negSucc 0)), (16, .ireturn), (17, .aload_n 0), (18, .getfield 20), (21, .iload_n 1), (22, .aaload), (23, .iload_n 2), (24, .iload_n 3), (25, .invokevirtual 84), (28, .ireturn)]
/-- CommandBuses/terminal -/
def cd_13 : List (Nat × Instr) := [(0, .iload_n 1), (1, .invokestatic 56), (4, .ifCond .ne (.ofNat 5)), (7, .iconst (.negSucc 0)), (8, .ireturn), (9, .aload_n 0), (10, .getfield 20), (13, .iload_n 1), (14, .aaload), (15, .astore_n 3), (16, .iload_n 2), (17, .tableswitch (.ofNat 116) (.ofNat 0) (.ofNat 6) #[(.ofNat 43), (.ofNat 48), (.ofNat 53), (.ofNat 58), (.ofNat 73), (.ofNat 88), (.ofNat 98)]), (60, .aload_n 3), (61, .invokevirtual 88), (64, .ireturn), (65, .aload_n 3), (66, .getfield 92), (69, .ireturn), (70, .aload_n 3), (71, .getfield 96), (74, .ireturn), (75, .aload_n 3), (76, .getfield 99), (79, .iconst (.ofNat 0)), (80, .baload), (81, .ifCond .eq (.ofNat 7)), (84, .iconst (.ofNat 1)), (85, .goto (.ofNat 4)), (88, .iconst (.ofNat 0)), (89, .ireturn), (90, .aload_n 3), (91, .getfield 99), (94, .iconst (.ofNat 1)), (95, .baload), (96, .ifCond .eq (.ofNat 7)), (99, .iconst (.ofNat 1)), (100, .goto (.ofNat 4)), (103, .iconst (.ofNat 0)), (104, .ireturn), (105, .aload_n 0), (106, .getfield 36), (109, .getfield 103), (112, .iload_n 1), (113, .iaload), (114, .ireturn), (115, .aload_n 0), (116, .getfield 36), (119, .getfield 106), (122, .iload_n 1), (123, .baload), (124, .ifCond .eq (.ofNat 7)), (127, .iconst (.ofNat 1)), (128, .goto (.ofNat 4)), (131, .iconst (.ofNat 0)), (132, .ireturn), (133, .iconst (.negSucc 0)), (134, .ireturn)]
/-- CommandBuses/message -/
def cd_14 : List (Nat × Instr) := [(0, .aload_n 0), (1, .getfield 29), (4, .getfield 109), (7, .ifCond .eq (.ofNat 6)), (10, .bipush (.negSucc 5)), (12, .ireturn), (13, .iload 6), (15, .invokestatic 112), (18, .ifCond .eq (.ofNat 23)), (21, .iload_n 1), (22, .iload_n 2), (23, .iload_n 3), (24, .invokestatic 115), (27, .ifCond .eq (.ofNat 14)), (30, .iload_n 1), (31, .iload 4), (33, .iload 5), (35, .invokestatic 119), (38, .ifCond .ne (.ofNat 5)), (41, .iconst (.negSucc 0)), (42, .ireturn), (43, .aload_n 0), (44, .getfield 29), (47, .getfield 122), (50, .bipush (.ofNat 8)), (52, .if_icmp .ne (.ofNat 6)), (55, .bipush (.negSucc 1)), (57, .ireturn), (58, .aload_n 0), (59, .getfield 29), (62, .new 125), (65, .dup), (66, .iload_n 1), (67, .iload_n 2), (68, .iload_n 3), (69, .iload 4), (71, .iload 5), (73, .iload 6), (75, .invokespecial 127), (78, .invokevirtual 130), (81, .ireturn)]
/-- CommandBuses/isPeriod -/
def cd_15 : List (Nat × Instr) := [(0, .iload_n 0), (1, .iconst (.ofNat 1)), (2, .if_icmp .eq (.ofNat 13)), (5, .iload_n 0), (6, .iconst (.ofNat 2)), (7, .if_icmp .eq (.ofNat 8)), (10, .iload_n 0), (11, .iconst (.ofNat 4)), (12, .if_icmp .ne (.ofNat 7)), (15, .iconst (.ofNat 1)), (16, .goto (.ofNat 4)), (19, .iconst (.ofNat 0)), (20, .ireturn)]
/-- CommandBuses/areTerminalsOf -/
def cd_16 : List (Nat × Instr) := [(0, .iload_n 0), (1, .iconst (.ofNat 3)), (2, .if_icmp .ne (.ofNat 5)), (5, .iconst (.ofNat 1)), (6, .ireturn), (7, .iload_n 0), (8, .iconst (.ofNat 2)), (9, .if_icmp .ne (.ofNat 28)), (12, .iload_n 1), (13, .invokestatic 56), (16, .ifCond .eq (.ofNat 19)), (19, .iload_n 2), (20, .invokestatic 56), (23, .ifCond .eq (.ofNat 12)), (26, .iload_n 1), (27, .iload_n 2), (28, .if_icmp .eq (.ofNat 7)), (31, .iconst (.ofNat 1)), (32, .goto (.ofNat 4)), (35, .iconst (.ofNat 0)), (36, .ireturn), (37, .iload_n 1), (38, .invokestatic 56), (41, .ireturn)]
/-- CommandBuses/isContentOf -/
def cd_17 : List (Nat × Instr) := [(0, .iload_n 0), (1, .iconst (.ofNat 4)), (2, .if_icmp .ne (.ofNat 8)), (5, .iload_n 2), (6, .invokestatic 211), (9, .ireturn), (10, .iload_n 0), (11, .ifCond .lt (.ofNat 29)), (14, .iload_n 0), (15, .iconst (.ofNat 3)), (16, .if_icmp .gt (.ofNat 24)), (19, .iload_n 1), (20, .invokestatic 207), (23, .ifCond .eq (.ofNat 17)), (26, .iload_n 2), (27, .iconst (.ofNat 1)), (28, .if_icmp .lt (.ofNat 12)), (31, .iload_n 2), (32, .iconst (.ofNat 4)), (33, .if_icmp .gt (.ofNat 7)), (36, .iconst (.ofNat 1)), (37, .goto (.ofNat 4)), (40, .iconst (.ofNat 0)), (41, .ireturn)]
/-- CommandBuses/isModeCode -/
def cd_18 : List (Nat × Instr) := [(0, .iload_n 0), (1, .iconst (.ofNat 1)), (2, .if_icmp .eq (.ofNat 30)), (5, .iload_n 0), (6, .iconst (.ofNat 2)), (7, .if_icmp .eq (.ofNat 25)), (10, .iload_n 0), (11, .iconst (.ofNat 4)), (12, .if_icmp .eq (.ofNat 20)), (15, .iload_n 0), (16, .iconst (.ofNat 5)), (17, .if_icmp .eq (.ofNat 15)), (20, .iload_n 0), (21, .bipush (.ofNat 8)), (23, .if_icmp .eq (.ofNat 9)), (26, .iload_n 0), (27, .bipush (.ofNat 18)), (29, .if_icmp .ne (.ofNat 7)), (32, .iconst (.ofNat 1)), (33, .goto (.ofNat 4)), (36, .iconst (.ofNat 0)), (37, .ireturn)]
/-- CommandBuses/give -/
def cd_19 : List (Nat × Instr) := [(0, .aload_n 0), (1, .getfield 29), (4, .iload_n 1), (5, .invokevirtual 134), (8, .astore 4), (10, .aload 4), (12, .ifnull (.ofNat 17)), (15, .iload_n 2), (16, .invokestatic 69), (19, .ifCond .eq (.ofNat 10)), (22, .iload_n 3), (23, .invokestatic 40), (26, .ifCond .ne (.ofNat 5)), (29, .iconst (.ofNat 0)), (30, .ireturn), (31, .aload 4), (33, .getfield 138), (36, .iload_n 2), (37, .iload_n 3), (38, .iastore), (39, .iconst (.ofNat 1)), (40, .ireturn)]
/-- CommandBuses/taken -/
def cd_20 : List (Nat × Instr) := [(0, .aload_n 0), (1, .getfield 29), (4, .iload_n 1), (5, .invokevirtual 134), (8, .astore_n 3), (9, .aload_n 3), (10, .ifnull (.ofNat 10)), (13, .iload_n 2), (14, .invokestatic 69), (17, .ifCond .ne (.ofNat 7)), (20, .iconst (.negSucc 0)), (21, .goto (.ofNat 9)), (24, .aload_n 3), (25, .getfield 138), (28, .iload_n 2), (29, .iaload), (30, .ireturn)]
/-- CommandBuses/seal -/
def cd_21 : List (Nat × Instr) := [(0, .aload_n 0), (1, .getfield 29), (4, .getfield 109), (7, .ifCond .eq (.ofNat 6)), (10, .bipush (.negSucc 5)), (12, .ireturn), (13, .iload_n 1), (14, .ifCond .ge (.ofNat 5)), (17, .iconst (.negSucc 0)), (18, .ireturn), (19, .aload_n 0), (20, .getfield 29), (23, .invokevirtual 141), (26, .istore_n 2), (27, .iload_n 2), (28, .iload_n 1), (29, .if_icmp .le (.ofNat 6)), (32, .bipush (.negSucc 1)), (34, .ireturn), (35, .aload_n 0), (36, .getfield 29), (39, .iconst (.ofNat 1)), (40, .putfield 109), (43, .aload_n 0), (44, .getfield 29), (47, .iconst (.ofNat 0)), (48, .putfield 144), (51, .iload_n 2), (52, .ireturn)]
/-- CommandBuses/opn -/
def cd_22 : List (Nat × Instr) := [(0, .aload_n 0), (1, .getfield 29), (4, .getfield 109), (7, .istore_n 1), (8, .aload_n 0), (9, .getfield 29), (12, .iconst (.ofNat 0)), (13, .putfield 109), (16, .iload_n 1), (17, .ireturn)]
/-- CommandBuses/load -/
def cd_23 : List (Nat × Instr) := [(0, .aload_n 0), (1, .getfield 29), (4, .getfield 109), (7, .ifCond .eq (.ofNat 12)), (10, .iload_n 1), (11, .ifCond .lt (.ofNat 8)), (14, .iload_n 1), (15, .iconst (.ofNat 4)), (16, .if_icmp .lt (.ofNat 7)), (19, .iconst (.negSucc 0)), (20, .goto (.ofNat 12)), (23, .aload_n 0), (24, .getfield 29), (27, .getfield 147), (30, .iload_n 1), (31, .iaload), (32, .ireturn)]
/-- CommandBuses/fault -/
def cd_24 : List (Nat × Instr) := [(0, .iload_n 1), (1, .ifCond .lt (.ofNat 17)), (4, .iload_n 1), (5, .iconst (.ofNat 2)), (6, .if_icmp .ge (.ofNat 12)), (9, .iload_n 2), (10, .ifCond .lt (.ofNat 8)), (13, .iload_n 2), (14, .iconst (.ofNat 2)), (15, .if_icmp .le (.ofNat 5)), (18, .iconst (.ofNat 0)), (19, .ireturn), (20, .iload_n 3), (21, .ifCond .lt (.ofNat 10)), (24, .iload_n 3), (25, .sipush (.ofNat 1000)), (28, .if_icmp .le (.ofNat 5)), (31, .iconst (.ofNat 0)), (32, .ireturn), (33, .aload_n 0), (34, .getfield 25), (37, .iload_n 1), (38, .iload_n 2), (39, .iload_n 3), (40, .invokevirtual 150), (43, .iconst (.ofNat 1)), (44, .ireturn)]
/-- CommandBuses/run -/
def cd_25 : List (Nat × Instr) := [(0, .aload_n 0), (1, .getfield 29), (4, .getfield 109), (7, .ifCond .ne (.ofNat 5)), (10, .iconst (.negSucc 0)), (11, .ireturn), (12, .aload_n 0), (13, .getfield 29), (16, .invokevirtual 156), (19, .istore_n 1), (20, .iload_n 1), (21, .ifCond .ne (.ofNat 7)), (24, .aload_n 0), (25, .invokevirtual 159), (28, .iconst (.ofNat 0)), (29, .istore_n 2), (30, .iconst (.ofNat 0)), (31, .istore_n 3), (32, .iload_n 3), (33, .aload_n 0), (34, .getfield 29), (37, .getfield 122), (40, .if_icmp .ge (.ofNat 81)), (43, .aload_n 0), (44, .getfield 29), (47, .getfield 162), (50, .iload_n 3), (51, .aaload), (52, .astore 4), (54, .aload 4), (56, .iload_n 1), (57, .invokevirtual 166), (60, .ifCond .eq (.ofNat 55)), (63, .aload_n 0), (64, .getfield 36), (67, .aload 4), (69, .invokevirtual 169), (72, .ifCond .ne (.ofNat 43)), (75, .aload 4), (77, .aload_n 0), (78, .getfield 10), (81, .aload 4), (83, .invokevirtual 173), (86, .putfield 176), (89, .aload_n 0), (90, .getfield 36), (93, .aload 4), (95, .invokevirtual 179), (98, .iload_n 2), (99, .aload 4), (101, .getfield 176), (104, .iconst (.ofNat 4)), (105, .if_icmp .ne (.ofNat 7)), (108, .iconst (.ofNat 0)), (109, .goto (.ofNat 4)), (112, .iconst (.ofNat 1)), (113, .iadd), (114, .istore_n 2), (115, .iinc 3 (.ofNat 1)), (118, .goto (.negSucc 85)), (121, .aload_n 0), (122, .getfield 36), (125, .invokevirtual 183), (128, .iload_n 2), (129, .ireturn)]
/-- CommandBuses/pollDropped -/
def cd_26 : List (Nat × Instr) := [(0, .iconst (.ofNat 0)), (1, .istore_n 1), (2, .iload_n 1), (3, .bipush (.ofNat 6)), (5, .if_icmp .ge (.ofNat 40)), (8, .aload_n 0), (9, .getfield 36), (12, .getfield 106), (15, .iload_n 1), (16, .baload), (17, .ifCond .eq (.ofNat 22)), (20, .aload_n 0), (21, .getfield 10), (24, .iload_n 1), (25, .invokevirtual 201), (28, .ifCond .eq (.ofNat 11)), (31, .aload_n 0), (32, .getfield 36), (35, .iload_n 1), (36, .invokevirtual 204), (39, .iinc 1 (.ofNat 1)), (42, .goto (.negSucc 39)), (45, .return_)]
/-- CommandBuses/outcome -/
def cd_27 : List (Nat × Instr) := [(0, .aload_n 0), (1, .getfield 29), (4, .iload_n 1), (5, .invokevirtual 134), (8, .astore_n 2), (9, .aload_n 2), (10, .ifnonnull (.ofNat 7)), (13, .iconst (.negSucc 0)), (14, .goto (.ofNat 7)), (17, .aload_n 2), (18, .getfield 176), (21, .ireturn)]
/-- CommandBuses/bus -/
def cd_28 : List (Nat × Instr) := [(0, .aload_n 0), (1, .getfield 10), (4, .getfield 186), (7, .ireturn)]
/-- CommandBuses/words -/
def cd_29 : List (Nat × Instr) := [(0, .aload_n 0), (1, .getfield 25), (4, .getfield 189), (7, .getfield 193), (10, .ireturn)]
/-- CommandBuses/heard -/
def cd_30 : List (Nat × Instr) := [(0, .aload_n 0), (1, .getfield 25), (4, .getfield 189), (7, .iload_n 1), (8, .invokevirtual 198), (11, .ireturn)]
/-- CommandBuses$Controller/make -/
def cd_31 : List (Nat × Instr) := [(0, .aload_n 0), (1, .invokespecial 3), (4, .aload_n 0), (5, .bipush (.ofNat 6)), (7, .anewarray 9), (10, .putfield 11), (13, .aload_n 0), (14, .new 17), (17, .dup), (18, .invokespecial 19), (21, .putfield 20), (24, .iconst (.ofNat 0)), (25, .istore_n 1), (26, .iload_n 1), (27, .bipush (.ofNat 6)), (29, .if_icmp .ge (.ofNat 23)), (32, .aload_n 0), (33, .getfield 11), (36, .iload_n 1), (37, .new 9), (40, .dup), (41, .iload_n 1), (42, .invokespecial 24), (45, .aastore), (46, .iinc 1 (.ofNat 1)), (49, .goto (.negSucc 22)), (52, .return_)]
/-- CommandBuses$Controller/answersPoll -/
def cd_32 : List (Nat × Instr) := [(0, .aload_n 0), (1, .aload_n 0), (2, .getfield 11), (5, .iload_n 1), (6, .aaload), (7, .iconst (.ofNat 2)), (8, .aload_n 0), (9, .getfield 27), (12, .invokevirtual 35), (15, .ireturn)]
/-- CommandBuses$Controller/modeGoesWell -/
def cd_33 : List (Nat × Instr) := [(0, .aload_n 0), (1, .getfield 20), (4, .iload_n 3), (5, .aload_n 1), (6, .getfield 128), (9, .iload_n 2), (10, .invokestatic 131), (13, .invokevirtual 75), (16, .ifCond .eq (.ofNat 16)), (19, .aload_n 1), (20, .iload_n 2), (21, .iload_n 3), (22, .invokevirtual 135), (25, .ifCond .eq (.ofNat 7)), (28, .iconst (.ofNat 1)), (29, .goto (.ofNat 4)), (32, .iconst (.ofNat 0)), (33, .istore 4), (35, .iload 4), (37, .ifCond .eq (.ofNat 16)), (40, .aload_n 1), (41, .getfield 95), (44, .iload_n 3), (45, .baload), (46, .ifCond .ne (.ofNat 7)), (49, .iconst (.ofNat 1)), (50, .goto (.ofNat 4)), (53, .iconst (.ofNat 0)), (54, .istore 5), (56, .iload 5), (58, .ifCond .eq (.ofNat 22)), (61, .aload_n 0), (62, .getfield 20), (65, .iload_n 3), (66, .aload_n 1), (67, .invokevirtual 99), (70, .invokevirtual 75), (73, .ifCond .eq (.ofNat 7)), (76, .iconst (.ofNat 1)), (77, .goto (.ofNat 4)), (80, .iconst (.ofNat 0)), (81, .istore 6), (83, .iload_n 2), (84, .bipush (.ofNat 18)), (86, .if_icmp .eq (.ofNat 6)), (89, .iload 6), (91, .ireturn), (92, .iload 5), (94, .ifCond .eq (.ofNat 25)), (97, .aload_n 0), (98, .getfield 20), (101, .iload_n 3), (102, .ldc 138), (104, .aload_n 1), (105, .getfield 125), (108, .iadd), (109, .invokevirtual 75), (112, .ifCond .eq (.ofNat 7)), (115, .iconst (.ofNat 1)), (116, .goto (.ofNat 4)), (119, .iconst (.ofNat 0)), (120, .istore 7), (122, .iload 6), (124, .ifCond .eq (.ofNat 12)), (127, .iload 7), (129, .ifCond .eq (.ofNat 7)), (132, .iconst (.ofNat 1)), (133, .goto (.ofNat 4)), (136, .iconst (.ofNat 0)), (137, .ireturn)]
/-- CommandBuses$Controller/outcomeOfDoing -/
def cd_34 : List (Nat × Instr) := [(0, .aload_n 0), (1, .aload_n 1), (2, .aload_n 0), (3, .getfield 27), (6, .invokevirtual 31), (9, .ifCond .eq (.ofNat 5)), (12, .iconst (.ofNat 1)), (13, .ireturn), (14, .aload_n 0), (15, .aload_n 1), (16, .aload_n 0), (17, .getfield 27), (20, .invokevirtual 31), (23, .ifCond .eq (.ofNat 5)), (26, .iconst (.ofNat 2)), (27, .ireturn), (28, .iconst (.ofNat 1)), (29, .aload_n 0), (30, .getfield 27), (33, .isub), (34, .istore_n 2), (35, .aload_n 0), (36, .aload_n 1), (37, .iload_n 2), (38, .invokevirtual 31), (41, .ifCond .eq (.ofNat 10)), (44, .aload_n 0), (45, .iload_n 2), (46, .putfield 27), (49, .iconst (.ofNat 3)), (50, .ireturn), (51, .iconst (.ofNat 4)), (52, .ireturn)]
/-- CommandBuses$Controller/goesWell -/
def cd_35 : List (Nat × Instr) := [(0, .aload_n 1), (1, .getfield 39), (4, .tableswitch (.ofNat 61) (.ofNat 0) (.ofNat 3) #[(.ofNat 32), (.ofNat 39), (.ofNat 46), (.ofNat 53)]), (36, .aload_n 0), (37, .aload_n 1), (38, .iload_n 2), (39, .invokevirtual 44), (42, .ireturn), (43, .aload_n 0), (44, .aload_n 1), (45, .iload_n 2), (46, .invokevirtual 47), (49, .ireturn), (50, .aload_n 0), (51, .aload_n 1), (52, .iload_n 2), (53, .invokevirtual 50), (56, .ireturn), (57, .aload_n 0), (58, .aload_n 1), (59, .iload_n 2), (60, .invokevirtual 53), (63, .iconst (.ofNat 1)), (64, .ireturn), (65, .aload_n 0), (66, .aload_n 1), (67, .iload_n 2), (68, .invokevirtual 57), (71, .ireturn)]
/-- CommandBuses$Controller/giveGoesWell -/
def cd_36 : List (Nat × Instr) := [(0, .aload_n 0), (1, .getfield 11), (4, .aload_n 1), (5, .getfield 60), (8, .aaload), (9, .astore_n 3), (10, .aload_n 1), (11, .getfield 60), (14, .aload_n 1), (15, .getfield 63), (18, .aload_n 1), (19, .getfield 66), (22, .invokestatic 69), (25, .istore 4), (27, .aload_n 0), (28, .getfield 20), (31, .iload_n 2), (32, .iload 4), (34, .invokevirtual 75), (37, .ifCond .eq (.ofNat 16)), (40, .aload_n 3), (41, .iload 4), (43, .invokevirtual 79), (46, .ifCond .eq (.ofNat 7)), (49, .iconst (.ofNat 1)), (50, .goto (.ofNat 4)), (53, .iconst (.ofNat 0)), (54, .istore 5), (56, .aload_n 0), (57, .getfield 20), (60, .iload_n 2), (61, .aload_n 1), (62, .getfield 83), (65, .iconst (.ofNat 0)), (66, .aload_n 1), (67, .getfield 66), (70, .invokevirtual 87), (73, .istore 6), (75, .iload 5), (77, .ifCond .eq (.ofNat 29)), (80, .aload_n 3), (81, .iload 6), (83, .aload_n 1), (84, .getfield 63), (87, .aload_n 1), (88, .getfield 83), (91, .iconst (.ofNat 0)), (92, .aload_n 1), (93, .getfield 66), (96, .invokevirtual 91), (99, .ifCond .eq (.ofNat 7)), (102, .iconst (.ofNat 1)), (103, .goto (.ofNat 4)), (106, .iconst (.ofNat 0)), (107, .istore 7), (109, .iload 7), (111, .ifCond .eq (.ofNat 31)), (114, .aload_n 3), (115, .getfield 95), (118, .iload_n 2), (119, .baload), (120, .ifCond .ne (.ofNat 22)), (123, .aload_n 0), (124, .getfield 20), (127, .iload_n 2), (128, .aload_n 3), (129, .invokevirtual 99), (132, .invokevirtual 75), (135, .ifCond .eq (.ofNat 7)), (138, .iconst (.ofNat 1)), (139, .goto (.ofNat 4)), (142, .iconst (.ofNat 0)), (143, .ireturn)]
/-- CommandBuses$Controller/takeGoesWell -/
def cd_37 : List (Nat × Instr) := [(0, .aload_n 0), (1, .getfield 11), (4, .aload_n 1), (5, .getfield 60), (8, .aaload), (9, .astore_n 3), (10, .aload_n 1), (11, .getfield 63), (14, .invokestatic 103), (17, .istore 4), (19, .aload_n 1), (20, .getfield 60), (23, .aload_n 1), (24, .getfield 63), (27, .aload_n 1), (28, .getfield 66), (31, .invokestatic 107), (34, .istore 5), (36, .aload_n 0), (37, .getfield 20), (40, .iload_n 2), (41, .iload 5), (43, .invokevirtual 75), (46, .ifCond .eq (.ofNat 25)), (49, .aload_n 3), (50, .iload 5), (52, .invokevirtual 79), (55, .ifCond .eq (.ofNat 16)), (58, .aload_n 3), (59, .getfield 95), (62, .iload_n 2), (63, .baload), (64, .ifCond .ne (.ofNat 7)), (67, .iconst (.ofNat 1)), (68, .goto (.ofNat 4)), (71, .iconst (.ofNat 0)), (72, .istore 6), (74, .iload 6), (76, .ifCond .eq (.ofNat 22)), (79, .aload_n 0), (80, .getfield 20), (83, .iload_n 2), (84, .aload_n 3), (85, .invokevirtual 99), (88, .invokevirtual 75), (91, .ifCond .eq (.ofNat 7)), (94, .iconst (.ofNat 1)), (95, .goto (.ofNat 4)), (98, .iconst (.ofNat 0)), (99, .istore 7), (101, .iload 6), (103, .ifCond .eq (.ofNat 28)), (106, .aload_n 0), (107, .getfield 20), (110, .iload_n 2), (111, .aload_n 3), (112, .getfield 110), (115, .iload 4), (117, .aload_n 1), (118, .getfield 66), (121, .invokevirtual 87), (124, .ifCond .eq (.ofNat 7)), (127, .iconst (.ofNat 1)), (128, .goto (.ofNat 4)), (131, .iconst (.ofNat 0)), (132, .istore 8), (134, .iload 7), (136, .ifCond .eq (.ofNat 8)), (139, .iload 8), (141, .ifCond .ne (.ofNat 5)), (144, .iconst (.ofNat 0)), (145, .ireturn), (146, .aload_n 3), (147, .getfield 110), (150, .iload 4), (152, .aload_n 1), (153, .getfield 83), (156, .iconst (.ofNat 0)), (157, .aload_n 1), (158, .getfield 66), (161, .invokestatic 112), (164, .iconst (.ofNat 1)), (165, .ireturn)]
/-- CommandBuses$Controller/passGoesWell -/
def cd_38 : List (Nat × Instr) := [(0, .aload_n 0), (1, .getfield 11), (4, .aload_n 1), (5, .getfield 60), (8, .aaload), (9, .astore_n 3), (10, .aload_n 0), (11, .getfield 11), (14, .aload_n 1), (15, .getfield 118), (18, .aaload), (19, .astore 4), (21, .aload_n 1), (22, .getfield 63), (25, .invokestatic 103), (28, .istore 5), (30, .aload_n 1), (31, .getfield 118), (34, .aload_n 1), (35, .getfield 63), (38, .aload_n 1), (39, .getfield 66), (42, .invokestatic 69), (45, .istore 6), (47, .aload_n 1), (48, .getfield 60), (51, .aload_n 1), (52, .getfield 63), (55, .aload_n 1), (56, .getfield 66), (59, .invokestatic 107), (62, .istore 7), (64, .aload_n 0), (65, .getfield 20), (68, .iload_n 2), (69, .iload 6), (71, .invokevirtual 75), (74, .ifCond .eq (.ofNat 17)), (77, .aload 4), (79, .iload 6), (81, .invokevirtual 79), (84, .ifCond .eq (.ofNat 7)), (87, .iconst (.ofNat 1)), (88, .goto (.ofNat 4)), (91, .iconst (.ofNat 0)), (92, .istore 8), (94, .aload_n 0), (95, .getfield 20), (98, .iload_n 2), (99, .iload 7), (101, .invokevirtual 75), (104, .ifCond .eq (.ofNat 25)), (107, .aload_n 3), (108, .iload 7), (110, .invokevirtual 79), (113, .ifCond .eq (.ofNat 16)), (116, .aload_n 3), (117, .getfield 95), (120, .iload_n 2), (121, .baload), (122, .ifCond .ne (.ofNat 7)), (125, .iconst (.ofNat 1)), (126, .goto (.ofNat 4)), (129, .iconst (.ofNat 0)), (130, .istore 9), (132, .iload 9), (134, .ifCond .eq (.ofNat 22)), (137, .aload_n 0), (138, .getfield 20), (141, .iload_n 2), (142, .aload_n 3), (143, .invokevirtual 99), (146, .invokevirtual 75), (149, .ifCond .eq (.ofNat 7)), (152, .iconst (.ofNat 1)), (153, .goto (.ofNat 4)), (156, .iconst (.ofNat 0)), (157, .istore 10), (159, .iload 9), (161, .ifCond .eq (.ofNat 28)), (164, .aload_n 0), (165, .getfield 20), (168, .iload_n 2), (169, .aload_n 3), (170, .getfield 110), (173, .iload 5), (175, .aload_n 1), (176, .getfield 66), (179, .invokevirtual 87), (182, .ifCond .eq (.ofNat 7)), (185, .iconst (.ofNat 1)), (186, .goto (.ofNat 4)), (189, .iconst (.ofNat 0)), (190, .istore 11), (192, .iload 8), (194, .ifCond .eq (.ofNat 31)), (197, .aload 4), (199, .iload 11), (201, .aload_n 1), (202, .getfield 63), (205, .aload_n 3), (206, .getfield 110), (209, .iload 5), (211, .aload_n 1), (212, .getfield 66), (215, .invokevirtual 91), (218, .ifCond .eq (.ofNat 7)), (221, .iconst (.ofNat 1)), (222, .goto (.ofNat 4)), (225, .iconst (.ofNat 0)), (226, .istore 12), (228, .iload 12), (230, .ifCond .eq (.ofNat 33)), (233, .aload 4), (235, .getfield 95), (238, .iload_n 2), (239, .baload), (240, .ifCond .ne (.ofNat 23)), (243, .aload_n 0), (244, .getfield 20), (247, .iload_n 2), (248, .aload 4), (250, .invokevirtual 99), (253, .invokevirtual 75), (256, .ifCond .eq (.ofNat 7)), (259, .iconst (.ofNat 1)), (260, .goto (.ofNat 4)), (263, .iconst (.ofNat 0)), (264, .istore 13), (266, .iload 10), (268, .ifCond .eq (.ofNat 12)), (271, .iload 13), (273, .ifCond .eq (.ofNat 7)), (276, .iconst (.ofNat 1)), (277, .goto (.ofNat 4)), (280, .iconst (.ofNat 0)), (281, .ireturn)]
/-- CommandBuses$Controller/tellAll -/
def cd_39 : List (Nat × Instr) := [(0, .bipush (.ofNat 31)), (2, .aload_n 1), (3, .getfield 63), (6, .aload_n 1), (7, .getfield 66), (10, .invokestatic 69), (13, .istore_n 3), (14, .aload_n 0), (15, .getfield 20), (18, .iload_n 2), (19, .iload_n 3), (20, .invokevirtual 75), (23, .istore 4), (25, .aload_n 0), (26, .getfield 20), (29, .iload_n 2), (30, .aload_n 1), (31, .getfield 83), (34, .iconst (.ofNat 0)), (35, .aload_n 1), (36, .getfield 66), (39, .invokevirtual 87), (42, .istore 5), (44, .iconst (.ofNat 0)), (45, .istore 6), (47, .iload 6), (49, .bipush (.ofNat 6)), (51, .if_icmp .ge (.ofNat 57)), (54, .aload_n 0), (55, .getfield 11), (58, .iload 6), (60, .aaload), (61, .astore 7), (63, .iload 4), (65, .ifCond .eq (.ofNat 37)), (68, .aload 7), (70, .iload_n 3), (71, .invokevirtual 79), (74, .ifCond .eq (.ofNat 28)), (77, .aload 7), (79, .aload 7), (81, .iload 5), (83, .aload_n 1), (84, .getfield 63), (87, .aload_n 1), (88, .getfield 83), (91, .iconst (.ofNat 0)), (92, .aload_n 1), (93, .getfield 66), (96, .invokevirtual 91), (99, .putfield 121), (102, .iinc 6 (.ofNat 1)), (105, .goto (.negSucc 57)), (108, .return_)]
/-- CommandBuses$Controller/modeMessageGoesWell -/
def cd_40 : List (Nat × Instr) := [(0, .aload_n 0), (1, .getfield 11), (4, .aload_n 1), (5, .getfield 60), (8, .aaload), (9, .astore_n 3), (10, .aload_n 0), (11, .aload_n 3), (12, .aload_n 1), (13, .getfield 66), (16, .iload_n 2), (17, .invokevirtual 35), (20, .istore 4), (22, .iload 4), (24, .ifCond .eq (.ofNat 22)), (27, .aload_n 1), (28, .getfield 66), (31, .bipush (.ofNat 18)), (33, .if_icmp .ne (.ofNat 13)), (36, .aload_n 1), (37, .getfield 83), (40, .iconst (.ofNat 0)), (41, .aload_n 3), (42, .getfield 125), (45, .iastore), (46, .iload 4), (48, .ireturn)]
/-- CommandBuses$Wires/make -/
def cd_41 : List (Nat × Instr) := [(0, .aload_n 0), (1, .invokespecial 3), (4, .aload_n 0), (5, .new 9), (8, .dup), (9, .invokespecial 11), (12, .putfield 12), (15, .aload_n 0), (16, .iconst (.ofNat 2)), (17, .newarray .int), (19, .putfield 18), (22, .aload_n 0), (23, .iconst (.ofNat 2)), (24, .newarray .int), (26, .putfield 22), (29, .aload_n 0), (30, .getfield 18), (33, .iconst (.negSucc 0)), (34, .invokestatic 25), (37, .return_)]
/-- CommandBuses$Wires/arm -/
def cd_42 : List (Nat × Instr) := [(0, .aload_n 0), (1, .getfield 18), (4, .iload_n 1), (5, .iload_n 2), (6, .iastore), (7, .aload_n 0), (8, .getfield 22), (11, .iload_n 1), (12, .iload_n 3), (13, .iastore), (14, .return_)]
/-- CommandBuses$Wires/carry -/
def cd_43 : List (Nat × Instr) := [(0, .aload_n 0), (1, .iload_n 1), (2, .invokevirtual 31), (5, .istore_n 3), (6, .iload_n 3), (7, .ifCond .eq (.ofNat 8)), (10, .iload_n 3), (11, .iconst (.ofNat 2)), (12, .if_icmp .ne (.ofNat 5)), (15, .iconst (.ofNat 0)), (16, .ireturn), (17, .iload_n 3), (18, .iconst (.ofNat 1)), (19, .if_icmp .ne (.ofNat 8)), (22, .ldc 35), (24, .goto (.ofNat 4)), (27, .iconst (.ofNat 0)), (28, .istore 4), (30, .aload_n 0), (31, .getfield 12), (34, .iload_n 2), (35, .iload 4), (37, .iadd), (38, .iload_n 1), (39, .ldc 36), (41, .imul), (42, .iadd), (43, .invokevirtual 37), (46, .iload_n 3), (47, .iconst (.negSucc 0)), (48, .if_icmp .ne (.ofNat 7)), (51, .iconst (.ofNat 1)), (52, .goto (.ofNat 4)), (55, .iconst (.ofNat 0)), (56, .ireturn)]
/-- CommandBuses$Wires/nextHit -/
def cd_44 : List (Nat × Instr) := [(0, .aload_n 0), (1, .getfield 18), (4, .iload_n 1), (5, .iaload), (6, .istore_n 2), (7, .iload_n 2), (8, .iconst (.negSucc 0)), (9, .if_icmp .ne (.ofNat 5)), (12, .iconst (.negSucc 0)), (13, .ireturn), (14, .aload_n 0), (15, .getfield 22), (18, .iload_n 1), (19, .iaload), (20, .ifCond .le (.ofNat 15)), (23, .aload_n 0), (24, .getfield 22), (27, .iload_n 1), (28, .dup2), (29, .iaload), (30, .iconst (.ofNat 1)), (31, .isub), (32, .iastore), (33, .iconst (.negSucc 0)), (34, .ireturn), (35, .iload_n 2), (36, .iconst (.ofNat 2)), (37, .if_icmp .eq (.ofNat 10)), (40, .aload_n 0), (41, .getfield 18), (44, .iload_n 1), (45, .iconst (.negSucc 0)), (46, .iastore), (47, .iload_n 2), (48, .ireturn)]
/-- CommandBuses$Wires/carryData -/
def cd_45 : List (Nat × Instr) := [(0, .iconst (.ofNat 1)), (1, .istore 5), (3, .iconst (.ofNat 0)), (4, .istore 6), (6, .iload 6), (8, .iload 4), (10, .if_icmp .ge (.ofNat 42)), (13, .aload_n 0), (14, .iload_n 1), (15, .ldc 41), (17, .aload_n 2), (18, .iload_n 3), (19, .iload 6), (21, .iadd), (22, .iaload), (23, .iadd), (24, .invokevirtual 42), (27, .istore 7), (29, .iload 5), (31, .ifCond .eq (.ofNat 12)), (34, .iload 7), (36, .ifCond .eq (.ofNat 7)), (39, .iconst (.ofNat 1)), (40, .goto (.ofNat 4)), (43, .iconst (.ofNat 0)), (44, .istore 5), (46, .iinc 6 (.ofNat 1)), (49, .goto (.negSucc 42)), (52, .iload 5), (54, .ireturn)]
/-- CommandBuses$Monitor/make -/
def cd_46 : List (Nat × Instr) := [(0, .aload_n 0), (1, .invokespecial 3), (4, .aload_n 0), (5, .bipush (.ofNat 60)), (7, .newarray .int), (9, .putfield 11), (12, .return_)]
/-- CommandBuses$Monitor/write -/
def cd_47 : List (Nat × Instr) := [(0, .aload_n 0), (1, .getfield 11), (4, .aload_n 0), (5, .getfield 15), (8, .iload_n 1), (9, .iastore), (10, .aload_n 0), (11, .aload_n 0), (12, .getfield 15), (15, .iconst (.ofNat 1)), (16, .iadd), (17, .bipush (.ofNat 60)), (19, .irem), (20, .putfield 15), (23, .aload_n 0), (24, .dup), (25, .getfield 19), (28, .iconst (.ofNat 1)), (29, .iadd), (30, .putfield 19), (33, .return_)]
/-- CommandBuses$Monitor/latestBut -/
def cd_48 : List (Nat × Instr) := [(0, .iload_n 1), (1, .ifCond .lt (.ofNat 17)), (4, .iload_n 1), (5, .bipush (.ofNat 60)), (7, .if_icmp .ge (.ofNat 11)), (10, .iload_n 1), (11, .aload_n 0), (12, .getfield 19), (15, .if_icmp .lt (.ofNat 5)), (18, .iconst (.negSucc 0)), (19, .ireturn), (20, .aload_n 0), (21, .getfield 11), (24, .aload_n 0), (25, .getfield 15), (28, .bipush (.ofNat 60)), (30, .iadd), (31, .iconst (.ofNat 1)), (32, .isub), (33, .iload_n 1), (34, .isub), (35, .bipush (.ofNat 60)), (37, .irem), (38, .iaload), (39, .ireturn)]
/-- CommandBuses$Terminal/make -/
def cd_49 : List (Nat × Instr) := [(0, .aload_n 0), (1, .invokespecial 3), (4, .aload_n 0), (5, .iconst (.ofNat 1)), (6, .putfield 9), (9, .aload_n 0), (10, .iconst (.ofNat 2)), (11, .newarray .boolean), (13, .putfield 15), (16, .aload_n 0), (17, .bipush (.ofNat 12)), (19, .newarray .int), (21, .putfield 19), (24, .aload_n 0), (25, .bipush (.ofNat 12)), (27, .newarray .int), (29, .putfield 23), (32, .aload_n 0), (33, .bipush (.ofNat 12)), (35, .newarray .int), (37, .putfield 26), (40, .aload_n 0), (41, .iconst (.ofNat 3)), (42, .newarray .boolean), (44, .putfield 29), (47, .aload_n 0), (48, .iload_n 1), (49, .putfield 32), (52, .return_)]
/-- CommandBuses$Terminal/firstOf -/
def cd_50 : List (Nat × Instr) := [(0, .iload_n 0), (1, .iconst (.ofNat 1)), (2, .isub), (3, .iconst (.ofNat 4)), (4, .imul), (5, .ireturn)]
/-- CommandBuses$Terminal/sendDraft -/
def cd_51 : List (Nat × Instr) := [(0, .iload_n 1), (1, .invokestatic 42), (4, .istore_n 2), (5, .aload_n 0), (6, .getfield 19), (9, .iload_n 2), (10, .aload_n 0), (11, .getfield 23), (14, .iload_n 2), (15, .iconst (.ofNat 4)), (16, .invokestatic 46), (19, .return_)]
/-- CommandBuses$Terminal/valueReceived -/
def cd_52 : List (Nat × Instr) := [(0, .aload_n 0), (1, .getfield 29), (4, .iload_n 1), (5, .iconst (.ofNat 1)), (6, .isub), (7, .baload), (8, .ifCond .eq (.ofNat 17)), (11, .aload_n 0), (12, .getfield 26), (15, .iload_n 1), (16, .invokestatic 42), (19, .iload_n 2), (20, .iadd), (21, .iaload), (22, .goto (.ofNat 4)), (25, .iconst (.negSucc 0)), (26, .ireturn)]
/-- CommandBuses$Terminal/status -/
def cd_53 : List (Nat × Instr) := [(0, .aload_n 0), (1, .getfield 32), (4, .sipush (.ofNat 2048)), (7, .imul), (8, .aload_n 0), (9, .getfield 36), (12, .ifCond .eq (.ofNat 9)), (15, .sipush (.ofNat 1024)), (18, .goto (.ofNat 4)), (21, .iconst (.ofNat 0)), (22, .iadd), (23, .aload_n 0), (24, .getfield 39), (27, .ifCond .eq (.ofNat 8)), (30, .bipush (.ofNat 16)), (32, .goto (.ofNat 4)), (35, .iconst (.ofNat 0)), (36, .iadd), (37, .ireturn)]
/-- CommandBuses$Terminal/obeyMode -/
def cd_54 : List (Nat × Instr) := [(0, .aload_n 0), (1, .getfield 9), (4, .ifCond .ne (.ofNat 5)), (7, .iconst (.ofNat 0)), (8, .ireturn), (9, .iload_n 1), (10, .iconst (.ofNat 2)), (11, .if_icmp .eq (.ofNat 13)), (14, .iload_n 1), (15, .bipush (.ofNat 18)), (17, .if_icmp .eq (.ofNat 7)), (20, .aload_n 0), (21, .invokevirtual 52), (24, .iload_n 1), (25, .bipush (.ofNat 18)), (27, .if_icmp .eq (.ofNat 15)), (30, .aload_n 0), (31, .aload_n 0), (32, .getfield 32), (35, .iload_n 1), (36, .invokestatic 58), (39, .putfield 55), (42, .aload_n 0), (43, .iload_n 1), (44, .iconst (.ofNat 1)), (45, .iload_n 2), (46, .isub), (47, .invokevirtual 64), (50, .iconst (.ofNat 1)), (51, .ireturn)]
/-- CommandBuses$Terminal/clearMarks -/
def cd_55 : List (Nat × Instr) := [(0, .aload_n 0), (1, .iconst (.ofNat 0)), (2, .putfield 36), (5, .aload_n 0), (6, .iconst (.ofNat 0)), (7, .putfield 39), (10, .return_)]
/-- CommandBuses$Terminal/changeBy -/
def cd_56 : List (Nat × Instr) := [(0, .iload_n 1), (1, .iconst (.ofNat 1)), (2, .if_icmp .ne (.ofNat 16)), (5, .aload_n 0), (6, .dup), (7, .getfield 68), (10, .iconst (.ofNat 1)), (11, .iadd), (12, .putfield 68), (15, .goto (.ofNat 53)), (18, .iload_n 1), (19, .iconst (.ofNat 4)), (20, .if_icmp .ne (.ofNat 13)), (23, .aload_n 0), (24, .getfield 15), (27, .iload_n 2), (28, .iconst (.ofNat 1)), (29, .bastore), (30, .goto (.ofNat 38)), (33, .iload_n 1), (34, .iconst (.ofNat 5)), (35, .if_icmp .ne (.ofNat 13)), (38, .aload_n 0), (39, .getfield 15), (42, .iload_n 2), (43, .iconst (.ofNat 0)), (44, .bastore), (45, .goto (.ofNat 23)), (48, .iload_n 1), (49, .bipush (.ofNat 8)), (51, .if_icmp .ne (.ofNat 17)), (54, .aload_n 0), (55, .getfield 15), (58, .iconst (.ofNat 0)), (59, .iconst (.ofNat 0)), (60, .bastore), (61, .aload_n 0), (62, .getfield 15), (65, .iconst (.ofNat 1)), (66, .iconst (.ofNat 0)), (67, .bastore), (68, .return_)]
/-- CommandBuses$Terminal/obey -/
def cd_57 : List (Nat × Instr) := [(0, .aload_n 0), (1, .getfield 9), (4, .ifCond .ne (.ofNat 5)), (7, .iconst (.ofNat 0)), (8, .ireturn), (9, .aload_n 0), (10, .invokevirtual 52), (13, .aload_n 0), (14, .iload_n 1), (15, .putfield 55), (18, .iconst (.ofNat 1)), (19, .ireturn)]
/-- CommandBuses$Terminal/receive -/
def cd_58 : List (Nat × Instr) := [(0, .iload_n 1), (1, .ifCond .ne (.ofNat 10)), (4, .aload_n 0), (5, .iconst (.ofNat 1)), (6, .putfield 36), (9, .iconst (.ofNat 0)), (10, .ireturn), (11, .iload_n 2), (12, .invokestatic 42), (15, .istore 6), (17, .iconst (.ofNat 0)), (18, .istore 7), (20, .iload 7), (22, .iconst (.ofNat 4)), (23, .if_icmp .ge (.ofNat 37)), (26, .aload_n 0), (27, .getfield 26), (30, .iload 6), (32, .iload 7), (34, .iadd), (35, .iload 7), (37, .iload 5), (39, .if_icmp .ge (.ofNat 13)), (42, .aload_n 3), (43, .iload 4), (45, .iload 7), (47, .iadd), (48, .iaload), (49, .goto (.ofNat 4)), (52, .iconst (.ofNat 0)), (53, .iastore), (54, .iinc 7 (.ofNat 1)), (57, .goto (.negSucc 36)), (60, .aload_n 0), (61, .getfield 29), (64, .iload_n 2), (65, .iconst (.ofNat 1)), (66, .isub), (67, .iconst (.ofNat 1)), (68, .bastore), (69, .iconst (.ofNat 1)), (70, .ireturn)]
/-- CommandBuses$Table/make -/
def cd_59 : List (Nat × Instr) := [(0, .aload_n 0), (1, .invokespecial 3), (4, .aload_n 0), (5, .bipush (.ofNat 8)), (7, .anewarray 9), (10, .putfield 11), (13, .aload_n 0), (14, .iconst (.ofNat 4)), (15, .newarray .int), (17, .putfield 17), (20, .return_)]
/-- CommandBuses$Table/add -/
def cd_60 : List (Nat × Instr) := [(0, .aload_n 0), (1, .getfield 11), (4, .aload_n 0), (5, .getfield 21), (8, .aload_n 1), (9, .aastore), (10, .aload_n 0), (11, .dup), (12, .getfield 21), (15, .iconst (.ofNat 1)), (16, .iadd), (17, .putfield 21), (20, .aload_n 0), (21, .getfield 21), (24, .iconst (.ofNat 1)), (25, .isub), (26, .ireturn)]
/-- CommandBuses$Table/find -/
def cd_61 : List (Nat × Instr) := [(0, .iload_n 1), (1, .ifCond .lt (.ofNat 20)), (4, .iload_n 1), (5, .aload_n 0), (6, .getfield 21), (9, .if_icmp .ge (.ofNat 12)), (12, .aload_n 0), (13, .getfield 11), (16, .iload_n 1), (17, .aaload), (18, .goto (.ofNat 4)), (21, .aconst_null), (22, .areturn)]
/-- CommandBuses$Table/fillFrames -/
def cd_62 : List (Nat × Instr) := [(0, .aload_n 0), (1, .getfield 17), (4, .iconst (.ofNat 0)), (5, .invokestatic 28), (8, .iconst (.ofNat 0)), (9, .istore_n 1), (10, .iload_n 1), (11, .aload_n 0), (12, .getfield 21), (15, .if_icmp .ge (.ofNat 30)), (18, .aload_n 0), (19, .getfield 11), (22, .iload_n 1), (23, .aaload), (24, .astore_n 2), (25, .aload_n 2), (26, .aload_n 0), (27, .aload_n 2), (28, .invokevirtual 34), (31, .putfield 38), (34, .aload_n 0), (35, .aload_n 2), (36, .invokevirtual 41), (39, .iinc 1 (.ofNat 1)), (42, .goto (.negSucc 31)), (45, .iconst (.ofNat 0)), (46, .istore_n 1), (47, .iconst (.ofNat 0)), (48, .istore_n 2), (49, .iload_n 2), (50, .iconst (.ofNat 4)), (51, .if_icmp .ge (.ofNat 20)), (54, .iload_n 1), (55, .aload_n 0), (56, .getfield 17), (59, .iload_n 2), (60, .iaload), (61, .invokestatic 45), (64, .istore_n 1), (65, .iinc 2 (.ofNat 1)), (68, .goto (.negSucc 18)), (71, .iload_n 1), (72, .ireturn)]
/-- CommandBuses$Table/bestPhase -/
def cd_63 : List (Nat × Instr) := [(0, .iconst (.ofNat 0)), (1, .istore_n 2), (2, .iconst (.ofNat 1)), (3, .istore_n 3), (4, .iload_n 3), (5, .aload_n 1), (6, .getfield 51), (9, .if_icmp .ge (.ofNat 26)), (12, .aload_n 0), (13, .aload_n 1), (14, .iload_n 3), (15, .invokevirtual 54), (18, .aload_n 0), (19, .aload_n 1), (20, .iload_n 2), (21, .invokevirtual 54), (24, .if_icmp .ge (.ofNat 5)), (27, .iload_n 3), (28, .istore_n 2), (29, .iinc 3 (.ofNat 1)), (32, .goto (.negSucc 27)), (35, .iload_n 2), (36, .ireturn)]
/-- CommandBuses$Table/greatestLoad -/
def cd_64 : List (Nat × Instr) := [(0, .iconst (.ofNat 0)), (1, .istore_n 3), (2, .iconst (.ofNat 0)), (3, .istore 4), (5, .iload 4), (7, .iconst (.ofNat 4)), (8, .if_icmp .ge (.ofNat 31)), (11, .aload_n 1), (12, .iload_n 2), (13, .iload 4), (15, .invokevirtual 58), (18, .ifCond .eq (.ofNat 15)), (21, .iload_n 3), (22, .aload_n 0), (23, .getfield 17), (26, .iload 4), (28, .iaload), (29, .invokestatic 45), (32, .istore_n 3), (33, .iinc 4 (.ofNat 1)), (36, .goto (.negSucc 30)), (39, .iload_n 3), (40, .ireturn)]
/-- CommandBuses$Table/addLength -/
def cd_65 : List (Nat × Instr) := [(0, .aload_n 1), (1, .invokevirtual 62), (4, .istore_n 2), (5, .iconst (.ofNat 0)), (6, .istore_n 3), (7, .iload_n 3), (8, .iconst (.ofNat 4)), (9, .if_icmp .ge (.ofNat 27)), (12, .aload_n 1), (13, .iload_n 3), (14, .invokevirtual 66), (17, .ifCond .eq (.ofNat 13)), (20, .aload_n 0), (21, .getfield 17), (24, .iload_n 3), (25, .dup2), (26, .iaload), (27, .iload_n 2), (28, .iadd), (29, .iastore), (30, .iinc 3 (.ofNat 1)), (33, .goto (.negSucc 25)), (36, .return_)]
/-- CommandBuses$Table/takeFrame -/
def cd_66 : List (Nat × Instr) := [(0, .aload_n 0), (1, .getfield 25), (4, .istore_n 1), (5, .aload_n 0), (6, .aload_n 0), (7, .getfield 25), (10, .iconst (.ofNat 1)), (11, .iadd), (12, .iconst (.ofNat 4)), (13, .irem), (14, .putfield 25), (17, .iload_n 1), (18, .ireturn)]
/-- CommandBuses$Roster/make -/
def cd_67 : List (Nat × Instr) := [(0, .aload_n 0), (1, .invokespecial 3), (4, .aload_n 0), (5, .bipush (.ofNat 6)), (7, .newarray .int), (9, .putfield 9), (12, .aload_n 0), (13, .bipush (.ofNat 6)), (15, .newarray .boolean), (17, .putfield 15), (20, .aload_n 0), (21, .bipush (.ofNat 6)), (23, .newarray .boolean), (25, .putfield 19), (28, .aload_n 0), (29, .bipush (.ofNat 6)), (31, .newarray .boolean), (33, .putfield 22), (36, .return_)]
/-- CommandBuses$Roster/takeBack -/
def cd_68 : List (Nat × Instr) := [(0, .aload_n 0), (1, .getfield 15), (4, .iload_n 1), (5, .iconst (.ofNat 0)), (6, .bastore), (7, .aload_n 0), (8, .getfield 9), (11, .iload_n 1), (12, .iconst (.ofNat 0)), (13, .iastore), (14, .return_)]
/-- CommandBuses$Roster/hasDropped -/
def cd_69 : List (Nat × Instr) := [(0, .iconst (.ofNat 0)), (1, .istore_n 2), (2, .iload_n 2), (3, .bipush (.ofNat 6)), (5, .if_icmp .ge (.ofNat 28)), (8, .aload_n 0), (9, .getfield 15), (12, .iload_n 2), (13, .baload), (14, .ifCond .eq (.ofNat 13)), (17, .aload_n 1), (18, .iload_n 2), (19, .invokevirtual 25), (22, .ifCond .eq (.ofNat 5)), (25, .iconst (.ofNat 1)), (26, .ireturn), (27, .iinc 2 (.ofNat 1)), (30, .goto (.negSucc 27)), (33, .iconst (.ofNat 0)), (34, .ireturn)]
/-- CommandBuses$Roster/note -/
def cd_70 : List (Nat × Instr) := [(0, .iconst (.ofNat 0)), (1, .istore_n 2), (2, .iload_n 2), (3, .bipush (.ofNat 6)), (5, .if_icmp .ge (.ofNat 52)), (8, .aload_n 1), (9, .iload_n 2), (10, .invokevirtual 25), (13, .ifCond .eq (.ofNat 38)), (16, .aload_n 0), (17, .getfield 19), (20, .iload_n 2), (21, .iconst (.ofNat 1)), (22, .bastore), (23, .aload_n 0), (24, .getfield 22), (27, .iload_n 2), (28, .aload_n 0), (29, .getfield 22), (32, .iload_n 2), (33, .baload), (34, .ifCond .ne (.ofNat 11)), (37, .aload_n 1), (38, .getfield 31), (41, .iconst (.ofNat 4)), (42, .if_icmp .ne (.ofNat 7)), (45, .iconst (.ofNat 1)), (46, .goto (.ofNat 4)), (49, .iconst (.ofNat 0)), (50, .bastore), (51, .iinc 2 (.ofNat 1)), (54, .goto (.negSucc 51)), (57, .return_)]
/-- CommandBuses$Roster/endFrame -/
def cd_71 : List (Nat × Instr) := [(0, .iconst (.ofNat 0)), (1, .istore_n 1), (2, .iload_n 1), (3, .bipush (.ofNat 6)), (5, .if_icmp .ge (.ofNat 80)), (8, .aload_n 0), (9, .getfield 19), (12, .iload_n 1), (13, .baload), (14, .ifCond .eq (.ofNat 51)), (17, .aload_n 0), (18, .getfield 9), (21, .iload_n 1), (22, .aload_n 0), (23, .getfield 22), (26, .iload_n 1), (27, .baload), (28, .ifCond .eq (.ofNat 14)), (31, .aload_n 0), (32, .getfield 9), (35, .iload_n 1), (36, .iaload), (37, .iconst (.ofNat 1)), (38, .iadd), (39, .goto (.ofNat 4)), (42, .iconst (.ofNat 0)), (43, .iastore), (44, .aload_n 0), (45, .getfield 15), (48, .iload_n 1), (49, .aload_n 0), (50, .getfield 9), (53, .iload_n 1), (54, .iaload), (55, .iconst (.ofNat 3)), (56, .if_icmp .ne (.ofNat 7)), (59, .iconst (.ofNat 1)), (60, .goto (.ofNat 4)), (63, .iconst (.ofNat 0)), (64, .bastore), (65, .aload_n 0), (66, .getfield 19), (69, .iload_n 1), (70, .iconst (.ofNat 0)), (71, .bastore), (72, .aload_n 0), (73, .getfield 22), (76, .iload_n 1), (77, .iconst (.ofNat 0)), (78, .bastore), (79, .iinc 1 (.ofNat 1)), (82, .goto (.negSucc 79)), (85, .return_)]
/-- CommandBuses$Message/make -/
def cd_72 : List (Nat × Instr) := [(0, .aload_n 0), (1, .invokespecial 3), (4, .aload_n 0), (5, .iconst (.ofNat 4)), (6, .newarray .int), (8, .putfield 9), (11, .aload_n 0), (12, .iload_n 1), (13, .putfield 15), (16, .aload_n 0), (17, .iload_n 2), (18, .putfield 19), (21, .aload_n 0), (22, .iload_n 3), (23, .putfield 22), (26, .aload_n 0), (27, .iload 4), (29, .putfield 25), (32, .aload_n 0), (33, .iload 5), (35, .putfield 28), (38, .aload_n 0), (39, .iload 6), (41, .putfield 31), (44, .return_)]
/-- CommandBuses$Message/isAt -/
def cd_73 : List (Nat × Instr) := [(0, .iload_n 2), (1, .aload_n 0), (2, .getfield 31), (5, .iconst (.ofNat 1)), (6, .isub), (7, .iand), (8, .iload_n 1), (9, .if_icmp .ne (.ofNat 7)), (12, .iconst (.ofNat 1)), (13, .goto (.ofNat 4)), (16, .iconst (.ofNat 0)), (17, .ireturn)]
/-- CommandBuses$Message/length -/
def cd_74 : List (Nat × Instr) := [(0, .aload_n 0), (1, .invokevirtual 41), (4, .istore_n 1), (5, .aload_n 0), (6, .invokevirtual 45), (9, .aload_n 0), (10, .invokevirtual 48), (13, .iadd), (14, .iload_n 1), (15, .iadd), (16, .istore_n 2), (17, .iconst (.ofNat 3)), (18, .bipush (.ofNat 20)), (20, .iload_n 2), (21, .imul), (22, .bipush (.ofNat 10)), (24, .iload_n 1), (25, .imul), (26, .iadd), (27, .imul), (28, .ireturn)]
/-- CommandBuses$Message/statuses -/
def cd_75 : List (Nat × Instr) := [(0, .aload_n 0), (1, .getfield 15), (4, .iconst (.ofNat 3)), (5, .if_icmp .ne (.ofNat 5)), (8, .iconst (.ofNat 0)), (9, .ireturn), (10, .aload_n 0), (11, .getfield 15), (14, .iconst (.ofNat 2)), (15, .if_icmp .ne (.ofNat 7)), (18, .iconst (.ofNat 2)), (19, .goto (.ofNat 4)), (22, .iconst (.ofNat 1)), (23, .ireturn)]
/-- CommandBuses$Message/commands -/
def cd_76 : List (Nat × Instr) := [(0, .aload_n 0), (1, .getfield 15), (4, .iconst (.ofNat 2)), (5, .if_icmp .ne (.ofNat 7)), (8, .iconst (.ofNat 2)), (9, .goto (.ofNat 4)), (12, .iconst (.ofNat 1)), (13, .ireturn)]
/-- CommandBuses$Message/dataWords -/
def cd_77 : List (Nat × Instr) := [(0, .aload_n 0), (1, .getfield 15), (4, .iconst (.ofNat 4)), (5, .if_icmp .eq (.ofNat 8)), (8, .aload_n 0), (9, .getfield 28), (12, .ireturn), (13, .aload_n 0), (14, .getfield 28), (17, .bipush (.ofNat 18)), (19, .if_icmp .ne (.ofNat 7)), (22, .iconst (.ofNat 1)), (23, .goto (.ofNat 4)), (26, .iconst (.ofNat 0)), (27, .ireturn)]
/-- CommandBuses$Message/isIn -/
def cd_78 : List (Nat × Instr) := [(0, .aload_n 0), (1, .aload_n 0), (2, .getfield 34), (5, .iload_n 1), (6, .invokevirtual 37), (9, .ireturn)]
/-- CommandBuses$Message/isFor -/
def cd_79 : List (Nat × Instr) := [(0, .aload_n 0), (1, .getfield 15), (4, .iconst (.ofNat 3)), (5, .if_icmp .ne (.ofNat 5)), (8, .iconst (.ofNat 0)), (9, .ireturn), (10, .iload_n 1), (11, .aload_n 0), (12, .getfield 19), (15, .if_icmp .eq (.ofNat 19)), (18, .aload_n 0), (19, .getfield 15), (22, .iconst (.ofNat 2)), (23, .if_icmp .ne (.ofNat 15)), (26, .iload_n 1), (27, .aload_n 0), (28, .getfield 22), (31, .if_icmp .ne (.ofNat 7)), (34, .iconst (.ofNat 1)), (35, .goto (.ofNat 4)), (38, .iconst (.ofNat 0)), (39, .ireturn)]
/-- CommandBusesModel/make -/
def cd_80 : List (Nat × Instr) := [(0, .aload_n 0), (1, .invokespecial 1), (4, .aload_n 0), (5, .iconst (.ofNat 2)), (6, .newarray .boolean), (8, .putfield 7), (11, .aload_n 0), (12, .iconst (.ofNat 2)), (13, .newarray .int), (15, .putfield 13), (18, .aload_n 0), (19, .iconst (.ofNat 2)), (20, .newarray .int), (22, .putfield 17), (25, .aload_n 0), (26, .bipush (.ofNat 60)), (28, .newarray .int), (30, .putfield 20), (33, .aload_n 0), (34, .bipush (.ofNat 6)), (36, .newarray .boolean), (38, .putfield 23), (41, .aload_n 0), (42, .bipush (.ofNat 72)), (44, .newarray .int), (46, .putfield 26), (49, .aload_n 0), (50, .bipush (.ofNat 72)), (52, .newarray .int), (54, .putfield 29), (57, .aload_n 0), (58, .bipush (.ofNat 72)), (60, .newarray .int), (62, .putfield 32), (65, .aload_n 0), (66, .bipush (.ofNat 18)), (68, .newarray .boolean), (70, .putfield 35), (73, .aload_n 0), (74, .bipush (.ofNat 6)), (76, .newarray .boolean), (78, .putfield 38), (81, .aload_n 0), (82, .bipush (.ofNat 6)), (84, .newarray .boolean), (86, .putfield 41), (89, .aload_n 0), (90, .bipush (.ofNat 6)), (92, .newarray .int), (94, .putfield 44), (97, .aload_n 0), (98, .bipush (.ofNat 6)), (100, .newarray .int), (102, .putfield 47), (105, .aload_n 0), (106, .bipush (.ofNat 12)), (108, .newarray .boolean), (110, .putfield 50), (113, .aload_n 0), (114, .bipush (.ofNat 6)), (116, .newarray .int), (118, .putfield 53), (121, .aload_n 0), (122, .bipush (.ofNat 6)), (124, .newarray .boolean), (126, .putfield 56), (129, .aload_n 0), (130, .bipush (.ofNat 8)), (132, .newarray .int), (134, .putfield 59), (137, .aload_n 0), (138, .bipush (.ofNat 8)), (140, .newarray .int), (142, .putfield 62), (145, .aload_n 0), (146, .bipush (.ofNat 8)), (148, .newarray .int), (150, .putfield 65), (153, .aload_n 0), (154, .bipush (.ofNat 8)), (156, .newarray .int), (158, .putfield 68), (161, .aload_n 0), (162, .bipush (.ofNat 8)), (164, .newarray .int), (166, .putfield 71), (169, .aload_n 0), (170, .bipush (.ofNat 8)), (172, .newarray .int), (174, .putfield 74), (177, .aload_n 0), (178, .bipush (.ofNat 8)), (180, .newarray .int), (182, .putfield 77), (185, .aload_n 0), (186, .bipush (.ofNat 32)), (188, .newarray .int), (190, .putfield 80), (193, .aload_n 0), (194, .bipush (.ofNat 8)), (196, .newarray .int), (198, .putfield 83), (201, .aload_n 0), (202, .iconst (.ofNat 4)), (203, .newarray .int), (205, .putfield 86), (208, .aload_n 0), (209, .iconst (.ofNat 4)), (210, .newarray .int), (212, .putfield 89), (215, .aload_n 0), (216, .bipush (.ofNat 6)), (218, .newarray .int), (220, .putfield 92), (223, .return_)]
/-- CommandBusesModel/encode -/
def cd_81 : List (Nat × Instr) := [(0, .iload_n 2), (1, .invokestatic 100), (4, .ifCond .ne (.ofNat 7)), (7, .ldc2_w 103), (10, .lreturn), (11, .iload_n 1), (12, .ifCond .eq (.ofNat 9)), (15, .ldc2_w 105), (18, .goto (.ofNat 6)), (21, .ldc2_w 107), (24, .lstore_n 3), (25, .iconst (.ofNat 0)), (26, .istore 5), (28, .bipush (.ofNat 15)), (30, .istore 6), (32, .iload 6), (34, .ifCond .lt (.ofNat 44)), (37, .iload_n 2), (38, .iload 6), (40, .ishr), (41, .iconst (.ofNat 1)), (42, .iand), (43, .istore 7), (45, .iload 5), (47, .iload 7), (49, .iadd), (50, .istore 5), (52, .ldc2_w 109), (55, .lload_n 3), (56, .lmul), (57, .iload 7), (59, .iconst (.ofNat 1)), (60, .if_icmp .ne (.ofNat 9)), (63, .ldc2_w 111), (66, .goto (.ofNat 4)), (69, .lconst 1), (70, .ladd), (71, .lstore_n 3), (72, .iinc 6 (.negSucc 0)), (75, .goto (.negSucc 42)), (78, .ldc2_w 109), (81, .lload_n 3), (82, .lmul), (83, .iload 5), (85, .iconst (.ofNat 2)), (86, .irem), (87, .ifCond .ne (.ofNat 9)), (90, .ldc2_w 111), (93, .goto (.ofNat 4)), (96, .lconst 1), (97, .ladd), (98, .lreturn)]
/-- CommandBusesModel/isValue -/
def cd_82 : List (Nat × Instr) := [(0, .iload_n 0), (1, .ifCond .lt (.ofNat 13)), (4, .iload_n 0), (5, .ldc 99), (7, .if_icmp .gt (.ofNat 7)), (10, .iconst (.ofNat 1)), (11, .goto (.ofNat 4)), (14, .iconst (.ofNat 0)), (15, .ireturn)]
/-- CommandBusesModel/decode -/
def cd_83 : List (Nat × Instr) := [(0, .lload_n 1), (1, .lconst 0), (2, .lcmp), (3, .ifCond .lt (.ofNat 11)), (6, .lload_n 1), (7, .ldc2_w 113), (10, .lcmp), (11, .ifCond .le (.ofNat 5)), (14, .iconst (.negSucc 0)), (15, .ireturn), (16, .lload_n 1), (17, .bipush (.ofNat 34)), (19, .lshr), (20, .l2i), (21, .istore_n 3), (22, .iload_n 3), (23, .bipush (.ofNat 7)), (25, .if_icmp .eq (.ofNat 12)), (28, .iload_n 3), (29, .bipush (.ofNat 56)), (31, .if_icmp .eq (.ofNat 6)), (34, .bipush (.negSucc 2)), (36, .ireturn), (37, .iconst (.ofNat 0)), (38, .istore 4), (40, .iconst (.ofNat 0)), (41, .istore 5), (43, .iconst (.ofNat 0)), (44, .istore 6), (46, .bipush (.ofNat 16)), (48, .istore 7), (50, .iload 7), (52, .ifCond .lt (.ofNat 84)), (55, .lload_n 1), (56, .iconst (.ofNat 2)), (57, .iload 7), (59, .imul), (60, .lshr), (61, .ldc2_w 115), (64, .land), (65, .l2i), (66, .istore 8), (68, .iload 6), (70, .ifCond .ne (.ofNat 14)), (73, .iload 8), (75, .ifCond .eq (.ofNat 9)), (78, .iload 8), (80, .iconst (.ofNat 3)), (81, .if_icmp .ne (.ofNat 7)), (84, .iconst (.ofNat 1)), (85, .goto (.ofNat 4)), (88, .iconst (.ofNat 0)), (89, .istore 6), (91, .iload 8), (93, .iconst (.ofNat 2)), (94, .if_icmp .ne (.ofNat 7)), (97, .iconst (.ofNat 1)), (98, .goto (.ofNat 4)), (101, .iconst (.ofNat 0)), (102, .istore 9), (104, .iload 5), (106, .iload 9), (108, .iadd), (109, .istore 5), (111, .iload 7), (113, .ifCond .le (.ofNat 13)), (116, .iconst (.ofNat 2)), (117, .iload 4), (119, .imul), (120, .iload 9), (122, .iadd), (123, .goto (.ofNat 5)), (126, .iload 4), (128, .istore 4), (130, .iinc 7 (.negSucc 0)), (133, .goto (.negSucc 82)), (136, .iload 6), (138, .ifCond .eq (.ofNat 6)), (141, .bipush (.negSucc 3)), (143, .ireturn), (144, .iload 5), (146, .iconst (.ofNat 2)), (147, .irem), (148, .ifCond .ne (.ofNat 8)), (151, .bipush (.negSucc 4)), (153, .goto (.ofNat 19)), (156, .iload_n 3), (157, .bipush (.ofNat 7)), (159, .if_icmp .ne (.ofNat 11)), (162, .ldc 117), (164, .iload 4), (166, .iadd), (167, .goto (.ofNat 5)), (170, .iload 4), (172, .ireturn)]
/-- CommandBusesModel/live -/
def cd_84 : List (Nat × Instr) := [(0, .iload_n 1), (1, .invokestatic 95), (4, .ifCond .ne (.ofNat 5)), (7, .iconst (.ofNat 0)), (8, .ireturn), (9, .aload_n 0), (10, .getfield 23), (13, .iload_n 1), (14, .iload_n 2), (15, .ifCond .ne (.ofNat 7)), (18, .iconst (.ofNat 1)), (19, .goto (.ofNat 4)), (22, .iconst (.ofNat 0)), (23, .bastore), (24, .iconst (.ofNat 1)), (25, .ireturn)]
/-- CommandBusesModel/isTerminal -/
def cd_85 : List (Nat × Instr) := [(0, .iload_n 0), (1, .ifCond .lt (.ofNat 13)), (4, .iload_n 0), (5, .bipush (.ofNat 6)), (7, .if_icmp .ge (.ofNat 7)), (10, .iconst (.ofNat 1)), (11, .goto (.ofNat 4)), (14, .iconst (.ofNat 0)), (15, .ireturn)]
/-- CommandBusesModel/draft -/
def cd_86 : List (Nat × Instr) := [(0, .iload_n 1), (1, .iload_n 2), (2, .invokestatic 124), (5, .ifCond .eq (.ofNat 18)), (8, .iload_n 3), (9, .invokestatic 128), (12, .ifCond .eq (.ofNat 11)), (15, .iload 4), (17, .invokestatic 100), (20, .ifCond .ne (.ofNat 5)), (23, .iconst (.ofNat 0)), (24, .ireturn), (25, .aload_n 0), (26, .getfield 26), (29, .iload_n 1), (30, .iload_n 2), (31, .invokestatic 131), (34, .iload_n 3), (35, .iadd), (36, .iload 4), (38, .iastore), (39, .iconst (.ofNat 1)), (40, .ireturn)]
/-- CommandBusesModel/isPlace -/
def cd_87 : List (Nat × Instr) := [(0, .iload_n 0), (1, .invokestatic 95), (4, .ifCond .eq (.ofNat 17)), (7, .iload_n 1), (8, .iconst (.ofNat 1)), (9, .if_icmp .lt (.ofNat 12)), (12, .iload_n 1), (13, .iconst (.ofNat 3)), (14, .if_icmp .gt (.ofNat 7)), (17, .iconst (.ofNat 1)), (18, .goto (.ofNat 4)), (21, .iconst (.ofNat 0)), (22, .ireturn)]
/-- CommandBusesModel/isIndex -/
def cd_88 : List (Nat × Instr) := [(0, .iload_n 0), (1, .ifCond .lt (.ofNat 12)), (4, .iload_n 0), (5, .iconst (.ofNat 4)), (6, .if_icmp .ge (.ofNat 7)), (9, .iconst (.ofNat 1)), (10, .goto (.ofNat 4)), (13, .iconst (.ofNat 0)), (14, .ireturn)]
/-- CommandBusesModel/place -/
def cd_89 : List (Nat × Instr) := [(0, .bipush (.ofNat 12)), (2, .iload_n 0), (3, .imul), (4, .iconst (.ofNat 4)), (5, .iload_n 1), (6, .iconst (.ofNat 1)), (7, .isub), (8, .imul), (9, .iadd), (10, .ireturn)]
/-- CommandBusesModel/publish -/
def cd_90 : List (Nat × Instr) := [(0, .iload_n 1), (1, .iload_n 2), (2, .invokestatic 124), (5, .ifCond .ne (.ofNat 5)), (8, .iconst (.ofNat 0)), (9, .ireturn), (10, .iload_n 1), (11, .iload_n 2), (12, .invokestatic 131), (15, .istore_n 3), (16, .iconst (.ofNat 0)), (17, .istore 4), (19, .iload 4), (21, .iconst (.ofNat 4)), (22, .if_icmp .ge (.ofNat 27)), (25, .aload_n 0), (26, .getfield 29), (29, .iload_n 3), (30, .iload 4), (32, .iadd), (33, .aload_n 0), (34, .getfield 26), (37, .iload_n 3), (38, .iload 4), (40, .iadd), (41, .iaload), (42, .iastore), (43, .iinc 4 (.ofNat 1)), (46, .goto (.negSucc 26)), (49, .iconst (.ofNat 1)), (50, .ireturn)]
/-- CommandBusesModel/received -/
def cd_91 : List (Nat × Instr) := [(0, .iload_n 1), (1, .iload_n 2), (2, .invokestatic 124), (5, .ifCond .eq (.ofNat 25)), (8, .iload_n 3), (9, .invokestatic 128), (12, .ifCond .eq (.ofNat 18)), (15, .aload_n 0), (16, .getfield 35), (19, .iconst (.ofNat 3)), (20, .iload_n 1), (21, .imul), (22, .iload_n 2), (23, .iadd), (24, .iconst (.ofNat 1)), (25, .isub), (26, .baload), (27, .ifCond .ne (.ofNat 5)), (30, .iconst (.negSucc 0)), (31, .ireturn), (32, .aload_n 0), (33, .getfield 32), (36, .iload_n 1), (37, .iload_n 2), (38, .invokestatic 131), (41, .iload_n 3), (42, .iadd), (43, .iaload), (44, .ireturn)]
/-- CommandBusesModel/terminal -/
def cd_92 : List (Nat × Instr) := [(0, .iload_n 1), (1, .invokestatic 95), (4, .ifCond .ne (.ofNat 5)), (7, .iconst (.negSucc 0)), (8, .ireturn), (9, .iload_n 2), (10, .tableswitch (.ofNat 120) (.ofNat 0) (.ofNat 6) #[(.ofNat 42), (.ofNat 48), (.ofNat 55), (.ofNat 62), (.ofNat 79), (.ofNat 98), (.ofNat 105)]), (52, .aload_n 0), (53, .iload_n 1), (54, .invokevirtual 135), (57, .ireturn), (58, .aload_n 0), (59, .getfield 44), (62, .iload_n 1), (63, .iaload), (64, .ireturn), (65, .aload_n 0), (66, .getfield 47), (69, .iload_n 1), (70, .iaload), (71, .ireturn), (72, .aload_n 0), (73, .getfield 50), (76, .iconst (.ofNat 2)), (77, .iload_n 1), (78, .imul), (79, .baload), (80, .ifCond .eq (.ofNat 7)), (83, .iconst (.ofNat 1)), (84, .goto (.ofNat 4)), (87, .iconst (.ofNat 0)), (88, .ireturn), (89, .aload_n 0), (90, .getfield 50), (93, .iconst (.ofNat 2)), (94, .iload_n 1), (95, .imul), (96, .iconst (.ofNat 1)), (97, .iadd), (98, .baload), (99, .ifCond .eq (.ofNat 7)), (102, .iconst (.ofNat 1)), (103, .goto (.ofNat 4)), (106, .iconst (.ofNat 0)), (107, .ireturn), (108, .aload_n 0), (109, .getfield 53), (112, .iload_n 1), (113, .iaload), (114, .ireturn), (115, .aload_n 0), (116, .getfield 56), (119, .iload_n 1), (120, .baload), (121, .ifCond .eq (.ofNat 7)), (124, .iconst (.ofNat 1)), (125, .goto (.ofNat 4)), (128, .iconst (.ofNat 0)), (129, .ireturn), (130, .iconst (.negSucc 0)), (131, .ireturn)]
/-- CommandBusesModel/statusOf -/
def cd_93 : List (Nat × Instr) := [(0, .sipush (.ofNat 2048)), (3, .iload_n 1), (4, .imul), (5, .aload_n 0), (6, .getfield 38), (9, .iload_n 1), (10, .baload), (11, .ifCond .eq (.ofNat 9)), (14, .sipush (.ofNat 1024)), (17, .goto (.ofNat 4)), (20, .iconst (.ofNat 0)), (21, .iadd), (22, .aload_n 0), (23, .getfield 41), (26, .iload_n 1), (27, .baload), (28, .ifCond .eq (.ofNat 8)), (31, .bipush (.ofNat 16)), (33, .goto (.ofNat 4)), (36, .iconst (.ofNat 0)), (37, .iadd), (38, .ireturn)]
/-- CommandBusesModel/message -/
def cd_94 : List (Nat × Instr) := [(0, .aload_n 0), (1, .getfield 188), (4, .ifCond .eq (.ofNat 6)), (7, .bipush (.negSucc 5)), (9, .ireturn), (10, .iload_n 1), (11, .ifCond .lt (.ofNat 59)), (14, .iload_n 1), (15, .iconst (.ofNat 4)), (16, .if_icmp .gt (.ofNat 54)), (19, .iload 6), (21, .iconst (.ofNat 1)), (22, .if_icmp .eq (.ofNat 15)), (25, .iload 6), (27, .iconst (.ofNat 2)), (28, .if_icmp .eq (.ofNat 9)), (31, .iload 6), (33, .iconst (.ofNat 4)), (34, .if_icmp .ne (.ofNat 36)), (37, .iload_n 1), (38, .iconst (.ofNat 3)), (39, .if_icmp .eq (.ofNat 10)), (42, .iload_n 2), (43, .invokestatic 95), (46, .ifCond .eq (.ofNat 24)), (49, .iload_n 1), (50, .iconst (.ofNat 2)), (51, .if_icmp .ne (.ofNat 15)), (54, .iload_n 3), (55, .invokestatic 95), (58, .ifCond .eq (.ofNat 12)), (61, .iload_n 2), (62, .iload_n 3), (63, .if_icmp .eq (.ofNat 7)), (66, .iconst (.ofNat 1)), (67, .goto (.ofNat 4)), (70, .iconst (.ofNat 0)), (71, .istore 7), (73, .iload 7), (75, .ifCond .eq (.ofNat 47)), (78, .iload_n 1), (79, .iconst (.ofNat 4)), (80, .if_icmp .ne (.ofNat 14)), (83, .iload 5), (85, .invokestatic 192), (88, .ifCond .eq (.ofNat 34)), (91, .goto (.ofNat 27)), (94, .iload 4), (96, .iconst (.ofNat 1)), (97, .if_icmp .lt (.ofNat 25)), (100, .iload 4), (102, .iconst (.ofNat 3)), (103, .if_icmp .gt (.ofNat 19)), (106, .iload 5), (108, .iconst (.ofNat 1)), (109, .if_icmp .lt (.ofNat 13)), (112, .iload 5), (114, .iconst (.ofNat 4)), (115, .if_icmp .gt (.ofNat 7)), (118, .iconst (.ofNat 1)), (119, .goto (.ofNat 4)), (122, .iconst (.ofNat 0)), (123, .istore 7), (125, .iload 7), (127, .ifCond .ne (.ofNat 5)), (130, .iconst (.negSucc 0)), (131, .ireturn), (132, .aload_n 0), (133, .getfield 195), (136, .bipush (.ofNat 8)), (138, .if_icmp .ne (.ofNat 6)), (141, .bipush (.negSucc 1)), (143, .ireturn), (144, .aload_n 0), (145, .getfield 59), (148, .aload_n 0), (149, .getfield 195), (152, .iload_n 1), (153, .iastore), (154, .aload_n 0), (155, .getfield 62), (158, .aload_n 0), (159, .getfield 195), (162, .iload_n 2), (163, .iastore), (164, .aload_n 0), (165, .getfield 65), (168, .aload_n 0), (169, .getfield 195), (172, .iload_n 3), (173, .iastore), (174, .aload_n 0), (175, .getfield 68), (178, .aload_n 0), (179, .getfield 195), (182, .iload 4), (184, .iastore), (185, .aload_n 0), (186, .getfield 71), (189, .aload_n 0), (190, .getfield 195), (193, .iload 5), (195, .iastore), (196, .aload_n 0), (197, .getfield 74), (200, .aload_n 0), (201, .getfield 195), (204, .iload 6), (206, .iastore), (207, .aload_n 0), (208, .getfield 83), (211, .aload_n 0), (212, .getfield 195), (215, .iconst (.ofNat 0)), (216, .iastore), (217, .aload_n 0), (218, .dup), (219, .getfield 195), (222, .iconst (.ofNat 1)), (223, .iadd), (224, .putfield 195), (227, .aload_n 0), (228, .getfield 195), (231, .iconst (.ofNat 1)), (232, .isub), (233, .ireturn)]
/-- CommandBusesModel/isCode -/
def cd_95 : List (Nat × Instr) := [(0, .iload_n 0), (1, .iconst (.ofNat 1)), (2, .if_icmp .eq (.ofNat 30)), (5, .iload_n 0), (6, .iconst (.ofNat 2)), (7, .if_icmp .eq (.ofNat 25)), (10, .iload_n 0), (11, .iconst (.ofNat 4)), (12, .if_icmp .eq (.ofNat 20)), (15, .iload_n 0), (16, .iconst (.ofNat 5)), (17, .if_icmp .eq (.ofNat 15)), (20, .iload_n 0), (21, .bipush (.ofNat 8)), (23, .if_icmp .eq (.ofNat 9)), (26, .iload_n 0), (27, .bipush (.ofNat 18)), (29, .if_icmp .ne (.ofNat 7)), (32, .iconst (.ofNat 1)), (33, .goto (.ofNat 4)), (36, .iconst (.ofNat 0)), (37, .ireturn)]
/-- CommandBusesModel/give -/
def cd_96 : List (Nat × Instr) := [(0, .aload_n 0), (1, .iload_n 1), (2, .invokevirtual 198), (5, .ifCond .eq (.ofNat 17)), (8, .iload_n 2), (9, .invokestatic 128), (12, .ifCond .eq (.ofNat 10)), (15, .iload_n 3), (16, .invokestatic 100), (19, .ifCond .ne (.ofNat 5)), (22, .iconst (.ofNat 0)), (23, .ireturn), (24, .aload_n 0), (25, .getfield 80), (28, .iconst (.ofNat 4)), (29, .iload_n 1), (30, .imul), (31, .iload_n 2), (32, .iadd), (33, .iload_n 3), (34, .iastore), (35, .iconst (.ofNat 1)), (36, .ireturn)]
/-- CommandBusesModel/isMessage -/
def cd_97 : List (Nat × Instr) := [(0, .iload_n 1), (1, .ifCond .lt (.ofNat 15)), (4, .iload_n 1), (5, .aload_n 0), (6, .getfield 195), (9, .if_icmp .ge (.ofNat 7)), (12, .iconst (.ofNat 1)), (13, .goto (.ofNat 4)), (16, .iconst (.ofNat 0)), (17, .ireturn)]
/-- CommandBusesModel/taken -/
def cd_98 : List (Nat × Instr) := [(0, .aload_n 0), (1, .iload_n 1), (2, .invokevirtual 198), (5, .ifCond .eq (.ofNat 23)), (8, .iload_n 2), (9, .invokestatic 128), (12, .ifCond .eq (.ofNat 16)), (15, .aload_n 0), (16, .getfield 80), (19, .iconst (.ofNat 4)), (20, .iload_n 1), (21, .imul), (22, .iload_n 2), (23, .iadd), (24, .iaload), (25, .goto (.ofNat 4)), (28, .iconst (.negSucc 0)), (29, .ireturn)]
/-- CommandBusesModel/seal -/
def cd_99 : List (Nat × Instr) := [(0, .aload_n 0), (1, .getfield 188), (4, .ifCond .eq (.ofNat 6)), (7, .bipush (.negSucc 5)), (9, .ireturn), (10, .iload_n 1), (11, .ifCond .ge (.ofNat 5)), (14, .iconst (.negSucc 0)), (15, .ireturn), (16, .iconst (.ofNat 0)), (17, .istore_n 2), (18, .iload_n 2), (19, .aload_n 0), (20, .getfield 195), (23, .if_icmp .ge (.ofNat 85)), (26, .iconst (.ofNat 0)), (27, .istore_n 3), (28, .aload_n 0), (29, .iload_n 2), (30, .iconst (.ofNat 0)), (31, .invokevirtual 210), (34, .istore 4), (36, .iconst (.ofNat 1)), (37, .istore 5), (39, .iload 5), (41, .aload_n 0), (42, .getfield 74), (45, .iload_n 2), (46, .iaload), (47, .if_icmp .ge (.ofNat 48)), (50, .aload_n 0), (51, .iload_n 2), (52, .iload 5), (54, .invokevirtual 210), (57, .istore 6), (59, .iload 6), (61, .iload 4), (63, .if_icmp .ge (.ofNat 8)), (66, .iload 5), (68, .goto (.ofNat 4)), (71, .iload_n 3), (72, .istore_n 3), (73, .iload 6), (75, .iload 4), (77, .if_icmp .ge (.ofNat 8)), (80, .iload 6), (82, .goto (.ofNat 5)), (85, .iload 4), (87, .istore 4), (89, .iinc 5 (.ofNat 1)), (92, .goto (.negSucc 52)), (95, .aload_n 0), (96, .getfield 77), (99, .iload_n 2), (100, .iload_n 3), (101, .iastore), (102, .iinc 2 (.ofNat 1)), (105, .goto (.negSucc 86)), (108, .iconst (.ofNat 0)), (109, .istore_n 2), (110, .iconst (.ofNat 0)), (111, .istore_n 3), (112, .iload_n 3), (113, .iconst (.ofNat 4)), (114, .if_icmp .ge (.ofNat 33)), (117, .aload_n 0), (118, .iload_n 3), (119, .aload_n 0), (120, .getfield 195), (123, .invokevirtual 207), (126, .istore 4), (128, .iload 4), (130, .iload_n 2), (131, .if_icmp .le (.ofNat 8)), (134, .iload 4), (136, .goto (.ofNat 4)), (139, .iload_n 2), (140, .istore_n 2), (141, .iinc 3 (.ofNat 1)), (144, .goto (.negSucc 31)), (147, .iload_n 2), (148, .iload_n 1), (149, .if_icmp .le (.ofNat 6)), (152, .bipush (.negSucc 1)), (154, .ireturn), (155, .iconst (.ofNat 0)), (156, .istore_n 3), (157, .iload_n 3), (158, .iconst (.ofNat 4)), (159, .if_icmp .ge (.ofNat 24)), (162, .aload_n 0), (163, .getfield 86), (166, .iload_n 3), (167, .aload_n 0), (168, .iload_n 3), (169, .aload_n 0), (170, .getfield 195), (173, .invokevirtual 207), (176, .iastore), (177, .iinc 3 (.ofNat 1)), (180, .goto (.negSucc 22)), (183, .aload_n 0), (184, .iconst (.ofNat 1)), (185, .putfield 188), (188, .aload_n 0), (189, .iconst (.ofNat 0)), (190, .putfield 213), (193, .iload_n 2), (194, .ireturn)]
/-- CommandBusesModel/worst -/
def cd_100 : List (Nat × Instr) := [(0, .aload_n 0), (1, .getfield 77), (4, .iload_n 1), (5, .iload_n 2), (6, .iastore), (7, .iconst (.ofNat 0)), (8, .istore_n 3), (9, .iload_n 2), (10, .istore 4), (12, .iload 4), (14, .iconst (.ofNat 4)), (15, .if_icmp .ge (.ofNat 41)), (18, .aload_n 0), (19, .iload 4), (21, .iload_n 1), (22, .iconst (.ofNat 1)), (23, .iadd), (24, .invokevirtual 207), (27, .istore 5), (29, .iload 5), (31, .iload_n 3), (32, .if_icmp .le (.ofNat 8)), (35, .iload 5), (37, .goto (.ofNat 4)), (40, .iload_n 3), (41, .istore_n 3), (42, .iload 4), (44, .aload_n 0), (45, .getfield 74), (48, .iload_n 1), (49, .iaload), (50, .iadd), (51, .istore 4), (53, .goto (.negSucc 40)), (56, .iload_n 3), (57, .ireturn)]
/-- CommandBusesModel/loadOf -/
def cd_101 : List (Nat × Instr) := [(0, .iconst (.ofNat 0)), (1, .istore_n 3), (2, .iconst (.ofNat 0)), (3, .istore 4), (5, .iload 4), (7, .iload_n 2), (8, .if_icmp .ge (.ofNat 32)), (11, .iload_n 3), (12, .aload_n 0), (13, .iload 4), (15, .iload_n 1), (16, .invokevirtual 201), (19, .ifCond .eq (.ofNat 12)), (22, .aload_n 0), (23, .iload 4), (25, .invokevirtual 204), (28, .goto (.ofNat 4)), (31, .iconst (.ofNat 0)), (32, .iadd), (33, .istore_n 3), (34, .iinc 4 (.ofNat 1)), (37, .goto (.negSucc 31)), (40, .iload_n 3), (41, .ireturn)]
/-- CommandBusesModel/isIn -/
def cd_102 : List (Nat × Instr) := [(0, .iload_n 2), (1, .aload_n 0), (2, .getfield 74), (5, .iload_n 1), (6, .iaload), (7, .irem), (8, .aload_n 0), (9, .getfield 77), (12, .iload_n 1), (13, .iaload), (14, .if_icmp .ne (.ofNat 7)), (17, .iconst (.ofNat 1)), (18, .goto (.ofNat 4)), (21, .iconst (.ofNat 0)), (22, .ireturn)]
/-- CommandBusesModel/lengthOf -/
def cd_103 : List (Nat × Instr) := [(0, .aload_n 0), (1, .getfield 71), (4, .iload_n 1), (5, .iaload), (6, .istore_n 2), (7, .aload_n 0), (8, .getfield 59), (11, .iload_n 1), (12, .iaload), (13, .tableswitch (.ofNat 62) (.ofNat 0) (.ofNat 3) #[(.ofNat 31), (.ofNat 31), (.ofNat 43), (.ofNat 55)]), (44, .iconst (.ofNat 3)), (45, .bipush (.ofNat 20)), (47, .iload_n 2), (48, .iconst (.ofNat 2)), (49, .iadd), (50, .imul), (51, .bipush (.ofNat 10)), (53, .iadd), (54, .imul), (55, .ireturn), (56, .iconst (.ofNat 3)), (57, .bipush (.ofNat 20)), (59, .iload_n 2), (60, .iconst (.ofNat 4)), (61, .iadd), (62, .imul), (63, .bipush (.ofNat 20)), (65, .iadd), (66, .imul), (67, .ireturn), (68, .bipush (.ofNat 60)), (70, .iload_n 2), (71, .iconst (.ofNat 1)), (72, .iadd), (73, .imul), (74, .ireturn), (75, .iconst (.ofNat 3)), (76, .bipush (.ofNat 20)), (78, .iload_n 2), (79, .bipush (.ofNat 18)), (81, .if_icmp .ne (.ofNat 7)), (84, .iconst (.ofNat 3)), (85, .goto (.ofNat 4)), (88, .iconst (.ofNat 2)), (89, .imul), (90, .bipush (.ofNat 10)), (92, .iadd), (93, .imul), (94, .ireturn)]
/-- CommandBusesModel/opn -/
def cd_104 : List (Nat × Instr) := [(0, .aload_n 0), (1, .getfield 188), (4, .istore_n 1), (5, .aload_n 0), (6, .iconst (.ofNat 0)), (7, .putfield 188), (10, .iload_n 1), (11, .ireturn)]
/-- CommandBusesModel/load -/
def cd_105 : List (Nat × Instr) := [(0, .aload_n 0), (1, .getfield 188), (4, .ifCond .eq (.ofNat 21)), (7, .iload_n 1), (8, .ifCond .lt (.ofNat 17)), (11, .iload_n 1), (12, .iconst (.ofNat 4)), (13, .if_icmp .ge (.ofNat 12)), (16, .aload_n 0), (17, .getfield 86), (20, .iload_n 1), (21, .iaload), (22, .goto (.ofNat 4)), (25, .iconst (.negSucc 0)), (26, .ireturn)]
/-- CommandBusesModel/fault -/
def cd_106 : List (Nat × Instr) := [(0, .iload_n 1), (1, .ifCond .lt (.ofNat 28)), (4, .iload_n 1), (5, .iconst (.ofNat 1)), (6, .if_icmp .gt (.ofNat 23)), (9, .iload_n 2), (10, .ifCond .lt (.ofNat 19)), (13, .iload_n 2), (14, .iconst (.ofNat 2)), (15, .if_icmp .gt (.ofNat 14)), (18, .iload_n 3), (19, .ifCond .lt (.ofNat 10)), (22, .iload_n 3), (23, .sipush (.ofNat 1000)), (26, .if_icmp .le (.ofNat 5)), (29, .iconst (.ofNat 0)), (30, .ireturn), (31, .aload_n 0), (32, .getfield 7), (35, .iload_n 1), (36, .iconst (.ofNat 1)), (37, .bastore), (38, .aload_n 0), (39, .getfield 13), (42, .iload_n 1), (43, .iload_n 2), (44, .iastore), (45, .aload_n 0), (46, .getfield 17), (49, .iload_n 1), (50, .iload_n 3), (51, .iastore), (52, .iconst (.ofNat 1)), (53, .ireturn)]
/-- CommandBusesModel/run -/
def cd_107 : List (Nat × Instr) := [(0, .aload_n 0), (1, .getfield 188), (4, .ifCond .ne (.ofNat 5)), (7, .iconst (.negSucc 0)), (8, .ireturn), (9, .aload_n 0), (10, .getfield 213), (13, .ifCond .ne (.ofNat 7)), (16, .aload_n 0), (17, .invokevirtual 219), (20, .iconst (.ofNat 0)), (21, .istore_n 1), (22, .iload_n 1), (23, .bipush (.ofNat 6)), (25, .if_icmp .ge (.ofNat 16)), (28, .aload_n 0), (29, .getfield 92), (32, .iload_n 1), (33, .iconst (.ofNat 0)), (34, .iastore), (35, .iinc 1 (.ofNat 1)), (38, .goto (.negSucc 15)), (41, .iconst (.ofNat 0)), (42, .istore_n 1), (43, .iconst (.ofNat 0)), (44, .istore_n 2), (45, .iload_n 2), (46, .aload_n 0), (47, .getfield 195), (50, .if_icmp .ge (.ofNat 57)), (53, .aload_n 0), (54, .iload_n 2), (55, .aload_n 0), (56, .getfield 213), (59, .invokevirtual 201), (62, .ifCond .eq (.ofNat 39)), (65, .aload_n 0), (66, .iload_n 2), (67, .invokevirtual 222), (70, .ifCond .ne (.ofNat 31)), (73, .aload_n 0), (74, .iload_n 2), (75, .invokevirtual 225), (78, .aload_n 0), (79, .iload_n 2), (80, .invokevirtual 229), (83, .iload_n 1), (84, .aload_n 0), (85, .getfield 83), (88, .iload_n 2), (89, .iaload), (90, .iconst (.ofNat 4)), (91, .if_icmp .ge (.ofNat 7)), (94, .iconst (.ofNat 1)), (95, .goto (.ofNat 4)), (98, .iconst (.ofNat 0)), (99, .iadd), (100, .istore_n 1), (101, .iinc 2 (.ofNat 1)), (104, .goto (.negSucc 58)), (107, .iconst (.ofNat 0)), (108, .istore_n 2), (109, .iload_n 2), (110, .bipush (.ofNat 6)), (112, .if_icmp .ge (.ofNat 86)), (115, .aload_n 0), (116, .getfield 53), (119, .iload_n 2), (120, .aload_n 0), (121, .getfield 92), (124, .iload_n 2), (125, .iaload), (126, .iconst (.ofNat 2)), (127, .if_icmp .ne (.ofNat 14)), (130, .aload_n 0), (131, .getfield 53), (134, .iload_n 2), (135, .iaload), (136, .iconst (.ofNat 1)), (137, .iadd), (138, .goto (.ofNat 23)), (141, .aload_n 0), (142, .getfield 92), (145, .iload_n 2), (146, .iaload), (147, .iconst (.ofNat 1)), (148, .if_icmp .ne (.ofNat 7)), (151, .iconst (.ofNat 0)), (152, .goto (.ofNat 9)), (155, .aload_n 0), (156, .getfield 53), (159, .iload_n 2), (160, .iaload), (161, .iastore), (162, .aload_n 0), (163, .getfield 56), (166, .iload_n 2), (167, .aload_n 0), (168, .getfield 56), (171, .iload_n 2), (172, .baload), (173, .ifCond .ne (.ofNat 13)), (176, .aload_n 0), (177, .getfield 53), (180, .iload_n 2), (181, .iaload), (182, .iconst (.ofNat 3)), (183, .if_icmp .lt (.ofNat 7)), (186, .iconst (.ofNat 1)), (187, .goto (.ofNat 4)), (190, .iconst (.ofNat 0)), (191, .bastore), (192, .iinc 2 (.ofNat 1)), (195, .goto (.negSucc 85)), (198, .aload_n 0), (199, .aload_n 0), (200, .getfield 213), (203, .iconst (.ofNat 1)), (204, .iadd), (205, .iconst (.ofNat 4)), (206, .irem), (207, .putfield 213), (210, .iload_n 1), (211, .ireturn)]
/-- CommandBusesModel/poll -/
def cd_108 : List (Nat × Instr) := [(0, .iconst (.ofNat 0)), (1, .istore_n 1), (2, .iload_n 1), (3, .bipush (.ofNat 6)), (5, .if_icmp .ge (.ofNat 46)), (8, .aload_n 0), (9, .getfield 56), (12, .iload_n 1), (13, .baload), (14, .ifCond .eq (.ofNat 31)), (17, .aload_n 0), (18, .iconst (.negSucc 0)), (19, .iload_n 1), (20, .iconst (.ofNat 2)), (21, .aload_n 0), (22, .getfield 182), (25, .invokevirtual 160), (28, .ifCond .eq (.ofNat 17)), (31, .aload_n 0), (32, .getfield 56), (35, .iload_n 1), (36, .iconst (.ofNat 0)), (37, .bastore), (38, .aload_n 0), (39, .getfield 53), (42, .iload_n 1), (43, .iconst (.ofNat 0)), (44, .iastore), (45, .iinc 1 (.ofNat 1)), (48, .goto (.negSucc 45)), (51, .return_)]
/-- CommandBusesModel/commands -/
def cd_109 : List (Nat × Instr) := [(0, .iload_n 2), (1, .iconst (.ofNat 1)), (2, .iconst (.ofNat 0)), (3, .iload_n 3), (4, .invokestatic 167), (7, .istore 5), (9, .aload_n 0), (10, .iload 4), (12, .iconst (.ofNat 0)), (13, .iload 5), (15, .invokevirtual 139), (18, .istore 6), (20, .iload_n 3), (21, .iconst (.ofNat 2)), (22, .if_icmp .eq (.ofNat 9)), (25, .iload_n 3), (26, .bipush (.ofNat 18)), (28, .if_icmp .ne (.ofNat 7)), (31, .iconst (.ofNat 1)), (32, .goto (.ofNat 4)), (35, .iconst (.ofNat 0)), (36, .istore 7), (38, .aload_n 0), (39, .iload_n 2), (40, .iload 6), (42, .iload 5), (44, .iload 7), (46, .iload_n 3), (47, .bipush (.ofNat 18)), (49, .if_icmp .ne (.ofNat 7)), (52, .iconst (.ofNat 1)), (53, .goto (.ofNat 4)), (56, .iconst (.ofNat 0)), (57, .invokevirtual 171), (60, .ifCond .ne (.ofNat 5)), (63, .iconst (.ofNat 0)), (64, .ireturn), (65, .iload_n 3), (66, .iconst (.ofNat 1)), (67, .if_icmp .ne (.ofNat 13)), (70, .aload_n 0), (71, .getfield 47), (74, .iload_n 2), (75, .dup2), (76, .iaload), (77, .iconst (.ofNat 1)), (78, .iadd), (79, .iastore), (80, .iload_n 3), (81, .iconst (.ofNat 4)), (82, .if_icmp .eq (.ofNat 8)), (85, .iload_n 3), (86, .iconst (.ofNat 5)), (87, .if_icmp .ne (.ofNat 26)), (90, .aload_n 0), (91, .getfield 50), (94, .iconst (.ofNat 2)), (95, .iload_n 2), (96, .imul), (97, .iconst (.ofNat 1)), (98, .iadd), (99, .iload 4), (101, .isub), (102, .iload_n 3), (103, .iconst (.ofNat 4)), (104, .if_icmp .ne (.ofNat 7)), (107, .iconst (.ofNat 1)), (108, .goto (.ofNat 4)), (111, .iconst (.ofNat 0)), (112, .bastore), (113, .iload_n 3), (114, .bipush (.ofNat 8)), (116, .if_icmp .ne (.ofNat 23)), (119, .aload_n 0), (120, .getfield 50), (123, .iconst (.ofNat 2)), (124, .iload_n 2), (125, .imul), (126, .iconst (.ofNat 0)), (127, .bastore), (128, .aload_n 0), (129, .getfield 50), (132, .iconst (.ofNat 2)), (133, .iload_n 2), (134, .imul), (135, .iconst (.ofNat 1)), (136, .iadd), (137, .iconst (.ofNat 0)), (138, .bastore), (139, .aload_n 0), (140, .iload_n 2), (141, .iload 4), (143, .invokevirtual 150), (146, .iconst (.ofNat 1)), (147, .if_icmp .ne (.ofNat 7)), (150, .iconst (.ofNat 1)), (151, .goto (.ofNat 4)), (154, .iconst (.ofNat 0)), (155, .istore 8), (157, .iload_n 3), (158, .bipush (.ofNat 18)), (160, .if_icmp .ne (.ofNat 56)), (163, .aload_n 0), (164, .iload_n 2), (165, .iload 4), (167, .iconst (.ofNat 1)), (168, .aload_n 0), (169, .getfield 44), (172, .iload_n 2), (173, .iaload), (174, .invokevirtual 143), (177, .iconst (.ofNat 1)), (178, .if_icmp .ne (.ofNat 12)), (181, .iload 8), (183, .ifCond .eq (.ofNat 7)), (186, .iconst (.ofNat 1)), (187, .goto (.ofNat 4)), (190, .iconst (.ofNat 0)), (191, .istore 8), (193, .iload 8), (195, .ifCond .eq (.ofNat 21)), (198, .iload_n 1), (199, .ifCond .lt (.ofNat 17)), (202, .aload_n 0), (203, .getfield 80), (206, .iconst (.ofNat 4)), (207, .iload_n 1), (208, .imul), (209, .aload_n 0), (210, .getfield 44), (213, .iload_n 2), (214, .iaload), (215, .iastore), (216, .iload 8), (218, .ireturn)]
/-- CommandBusesModel/command -/
def cd_110 : List (Nat × Instr) := [(0, .sipush (.ofNat 2048)), (3, .iload_n 0), (4, .imul), (5, .sipush (.ofNat 1024)), (8, .iload_n 1), (9, .imul), (10, .iadd), (11, .bipush (.ofNat 32)), (13, .iload_n 2), (14, .imul), (15, .iadd), (16, .iload_n 3), (17, .iadd), (18, .ireturn)]
/-- CommandBusesModel/put -/
def cd_111 : List (Nat × Instr) := [(0, .aload_n 0), (1, .getfield 7), (4, .iload_n 1), (5, .baload), (6, .ifCond .eq (.ofNat 16)), (9, .aload_n 0), (10, .getfield 17), (13, .iload_n 1), (14, .iaload), (15, .ifCond .ne (.ofNat 7)), (18, .iconst (.ofNat 1)), (19, .goto (.ofNat 4)), (22, .iconst (.ofNat 0)), (23, .istore 4), (25, .iload 4), (27, .ifCond .eq (.ofNat 17)), (30, .aload_n 0), (31, .getfield 13), (34, .iload_n 1), (35, .iaload), (36, .iconst (.ofNat 2)), (37, .if_icmp .ne (.ofNat 7)), (40, .iconst (.ofNat 1)), (41, .goto (.ofNat 4)), (44, .iconst (.ofNat 0)), (45, .istore 5), (47, .iload 5), (49, .ifCond .ne (.ofNat 13)), (52, .aload_n 0), (53, .getfield 17), (56, .iload_n 1), (57, .dup2), (58, .iaload), (59, .iconst (.ofNat 1)), (60, .isub), (61, .iastore), (62, .iload 4), (64, .ifCond .eq (.ofNat 15)), (67, .iload 5), (69, .ifCond .ne (.ofNat 10)), (72, .aload_n 0), (73, .getfield 7), (76, .iload_n 1), (77, .iconst (.ofNat 0)), (78, .bastore), (79, .iload 4), (81, .ifCond .eq (.ofNat 15)), (84, .aload_n 0), (85, .getfield 13), (88, .iload_n 1), (89, .iaload), (90, .iconst (.ofNat 1)), (91, .if_icmp .eq (.ofNat 5)), (94, .iconst (.ofNat 0)), (95, .ireturn), (96, .aload_n 0), (97, .getfield 20), (100, .aload_n 0), (101, .getfield 118), (104, .bipush (.ofNat 60)), (106, .irem), (107, .iload_n 3), (108, .iload_n 2), (109, .ifCond .eq (.ofNat 8)), (112, .ldc 117), (114, .goto (.ofNat 4)), (117, .iconst (.ofNat 0)), (118, .iadd), (119, .iload 4), (121, .ifCond .eq (.ofNat 8)), (124, .ldc 122), (126, .goto (.ofNat 4)), (129, .iconst (.ofNat 0)), (130, .iadd), (131, .iload_n 1), (132, .iconst (.ofNat 1)), (133, .if_icmp .ne (.ofNat 8)), (136, .ldc 123), (138, .goto (.ofNat 4)), (141, .iconst (.ofNat 0)), (142, .iadd), (143, .iastore), (144, .aload_n 0), (145, .dup), (146, .getfield 118), (149, .iconst (.ofNat 1)), (150, .iadd), (151, .putfield 118), (154, .iload 4), (156, .ifCond .eq (.ofNat 7)), (159, .iconst (.ofNat 2)), (160, .goto (.ofNat 4)), (163, .iconst (.ofNat 1)), (164, .ireturn)]
/-- CommandBusesModel/hears -/
def cd_112 : List (Nat × Instr) := [(0, .iload_n 2), (1, .iconst (.ofNat 1)), (2, .if_icmp .ne (.ofNat 12)), (5, .aload_n 0), (6, .getfield 23), (9, .iload_n 1), (10, .baload), (11, .ifCond .eq (.ofNat 5)), (14, .iconst (.ofNat 0)), (15, .ireturn), (16, .iload 4), (18, .ifCond .ne (.ofNat 17)), (21, .aload_n 0), (22, .getfield 38), (25, .iload_n 1), (26, .iconst (.ofNat 0)), (27, .bastore), (28, .aload_n 0), (29, .getfield 41), (32, .iload_n 1), (33, .iconst (.ofNat 0)), (34, .bastore), (35, .iload 5), (37, .ifCond .ne (.ofNat 10)), (40, .aload_n 0), (41, .getfield 44), (44, .iload_n 1), (45, .iload_n 3), (46, .iastore), (47, .iconst (.ofNat 1)), (48, .ireturn)]
/-- CommandBusesModel/saysStatus -/
def cd_113 : List (Nat × Instr) := [(0, .aload_n 0), (1, .iload_n 1), (2, .iload_n 2), (3, .iconst (.ofNat 0)), (4, .aload_n 0), (5, .iload_n 1), (6, .invokevirtual 135), (9, .invokevirtual 143), (12, .ireturn)]
/-- CommandBusesModel/says -/
def cd_114 : List (Nat × Instr) := [(0, .aload_n 0), (1, .getfield 50), (4, .iconst (.ofNat 2)), (5, .iload_n 1), (6, .imul), (7, .iload_n 2), (8, .iadd), (9, .baload), (10, .ifCond .eq (.ofNat 7)), (13, .iconst (.ofNat 0)), (14, .goto (.ofNat 11)), (17, .aload_n 0), (18, .iload_n 2), (19, .iload_n 3), (20, .iload 4), (22, .invokevirtual 139), (25, .ireturn)]
/-- CommandBusesModel/isAside -/
def cd_115 : List (Nat × Instr) := [(0, .iconst (.ofNat 0)), (1, .istore_n 2), (2, .iconst (.ofNat 0)), (3, .istore_n 3), (4, .iload_n 3), (5, .bipush (.ofNat 6)), (7, .if_icmp .ge (.ofNat 37)), (10, .iload_n 2), (11, .ifCond .ne (.ofNat 21)), (14, .aload_n 0), (15, .getfield 56), (18, .iload_n 3), (19, .baload), (20, .ifCond .eq (.ofNat 16)), (23, .aload_n 0), (24, .iload_n 1), (25, .iload_n 3), (26, .invokevirtual 216), (29, .ifCond .eq (.ofNat 7)), (32, .iconst (.ofNat 1)), (33, .goto (.ofNat 4)), (36, .iconst (.ofNat 0)), (37, .istore_n 2), (38, .iinc 3 (.ofNat 1)), (41, .goto (.negSucc 36)), (44, .iload_n 2), (45, .ireturn)]
/-- CommandBusesModel/isOf -/
def cd_116 : List (Nat × Instr) := [(0, .aload_n 0), (1, .getfield 59), (4, .iload_n 1), (5, .iaload), (6, .iconst (.ofNat 3)), (7, .if_icmp .eq (.ofNat 37)), (10, .aload_n 0), (11, .getfield 62), (14, .iload_n 1), (15, .iaload), (16, .iload_n 2), (17, .if_icmp .eq (.ofNat 23)), (20, .aload_n 0), (21, .getfield 59), (24, .iload_n 1), (25, .iaload), (26, .iconst (.ofNat 2)), (27, .if_icmp .ne (.ofNat 17)), (30, .aload_n 0), (31, .getfield 65), (34, .iload_n 1), (35, .iaload), (36, .iload_n 2), (37, .if_icmp .ne (.ofNat 7)), (40, .iconst (.ofNat 1)), (41, .goto (.ofNat 4)), (44, .iconst (.ofNat 0)), (45, .ireturn)]
/-- CommandBusesModel/does -/
def cd_117 : List (Nat × Instr) := [(0, .iconst (.ofNat 4)), (1, .istore_n 2), (2, .iconst (.ofNat 1)), (3, .istore_n 3), (4, .iload_n 3), (5, .iconst (.ofNat 3)), (6, .if_icmp .gt (.ofNat 50)), (9, .iload_n 2), (10, .iconst (.ofNat 4)), (11, .if_icmp .ne (.ofNat 45)), (14, .iload_n 3), (15, .iconst (.ofNat 3)), (16, .if_icmp .ge (.ofNat 10)), (19, .aload_n 0), (20, .getfield 182), (23, .goto (.ofNat 9)), (26, .iconst (.ofNat 1)), (27, .aload_n 0), (28, .getfield 182), (31, .isub), (32, .istore 4), (34, .aload_n 0), (35, .iload_n 1), (36, .iload 4), (38, .invokevirtual 185), (41, .ifCond .eq (.ofNat 7)), (44, .iload_n 3), (45, .goto (.ofNat 4)), (48, .iconst (.ofNat 4)), (49, .istore_n 2), (50, .iinc 3 (.ofNat 1)), (53, .goto (.negSucc 48)), (56, .iload_n 2), (57, .iconst (.ofNat 3)), (58, .if_icmp .ne (.ofNat 13)), (61, .aload_n 0), (62, .iconst (.ofNat 1)), (63, .aload_n 0), (64, .getfield 182), (67, .isub), (68, .putfield 182), (71, .aload_n 0), (72, .getfield 83), (75, .iload_n 1), (76, .iload_n 2), (77, .iastore), (78, .return_)]
/-- CommandBusesModel/attempt -/
def cd_118 : List (Nat × Instr) := [(0, .aload_n 0), (1, .iconst (.ofNat 0)), (2, .putfield 147), (5, .aload_n 0), (6, .getfield 59), (9, .iload_n 1), (10, .iaload), (11, .istore_n 3), (12, .iload_n 3), (13, .ifCond .eq (.ofNat 8)), (16, .iload_n 3), (17, .iconst (.ofNat 3)), (18, .if_icmp .ne (.ofNat 10)), (21, .aload_n 0), (22, .iload_n 1), (23, .iload_n 2), (24, .invokevirtual 157), (27, .ireturn), (28, .iload_n 3), (29, .iconst (.ofNat 4)), (30, .if_icmp .ne (.ofNat 22)), (33, .aload_n 0), (34, .iload_n 1), (35, .aload_n 0), (36, .getfield 62), (39, .iload_n 1), (40, .iaload), (41, .aload_n 0), (42, .getfield 71), (45, .iload_n 1), (46, .iaload), (47, .iload_n 2), (48, .invokevirtual 160), (51, .ireturn), (52, .iload_n 3), (53, .iconst (.ofNat 2)), (54, .if_icmp .ne (.ofNat 10)), (57, .aload_n 0), (58, .iload_n 1), (59, .iload_n 2), (60, .invokevirtual 164), (63, .ireturn), (64, .aload_n 0), (65, .getfield 62), (68, .iload_n 1), (69, .iaload), (70, .iconst (.ofNat 1)), (71, .aload_n 0), (72, .getfield 68), (75, .iload_n 1), (76, .iaload), (77, .aload_n 0), (78, .getfield 71), (81, .iload_n 1), (82, .iaload), (83, .invokestatic 167), (86, .istore 4), (88, .aload_n 0), (89, .iload_n 2), (90, .iconst (.ofNat 0)), (91, .iload 4), (93, .invokevirtual 139), (96, .istore 5), (98, .aload_n 0), (99, .aload_n 0), (100, .getfield 62), (103, .iload_n 1), (104, .iaload), (105, .iload 5), (107, .iload 4), (109, .iconst (.ofNat 0)), (110, .iconst (.ofNat 0)), (111, .invokevirtual 171), (114, .ifCond .ne (.ofNat 5)), (117, .iconst (.ofNat 0)), (118, .ireturn), (119, .aload_n 0), (120, .aload_n 0), (121, .getfield 62), (124, .iload_n 1), (125, .iaload), (126, .aload_n 0), (127, .getfield 68), (130, .iload_n 1), (131, .iaload), (132, .aload_n 0), (133, .getfield 71), (136, .iload_n 1), (137, .iaload), (138, .iload_n 2), (139, .invokevirtual 175), (142, .ifCond .eq (.ofNat 20)), (145, .aload_n 0), (146, .getfield 147), (149, .aload_n 0), (150, .getfield 71), (153, .iload_n 1), (154, .iaload), (155, .if_icmp .ne (.ofNat 7)), (158, .iconst (.ofNat 1)), (159, .goto (.ofNat 4)), (162, .iconst (.ofNat 0)), (163, .istore 6), (165, .iconst (.ofNat 0)), (166, .istore 7), (168, .iload 7), (170, .aload_n 0), (171, .getfield 71), (174, .iload_n 1), (175, .iaload), (176, .if_icmp .ge (.ofNat 32)), (179, .iload 6), (181, .ifCond .eq (.ofNat 27)), (184, .aload_n 0), (185, .getfield 80), (188, .iconst (.ofNat 4)), (189, .iload_n 1), (190, .imul), (191, .iload 7), (193, .iadd), (194, .aload_n 0), (195, .getfield 89), (198, .iload 7), (200, .iaload), (201, .iastore), (202, .iinc 7 (.ofNat 1)), (205, .goto (.negSucc 36)), (208, .iload 6), (210, .ireturn)]
/-- CommandBusesModel/gives -/
def cd_119 : List (Nat × Instr) := [(0, .aload_n 0), (1, .getfield 59), (4, .iload_n 1), (5, .iaload), (6, .iconst (.ofNat 3)), (7, .if_icmp .ne (.ofNat 7)), (10, .iconst (.ofNat 1)), (11, .goto (.ofNat 4)), (14, .iconst (.ofNat 0)), (15, .istore_n 3), (16, .iload_n 3), (17, .ifCond .eq (.ofNat 8)), (20, .bipush (.ofNat 31)), (22, .goto (.ofNat 9)), (25, .aload_n 0), (26, .getfield 62), (29, .iload_n 1), (30, .iaload), (31, .iconst (.ofNat 0)), (32, .aload_n 0), (33, .getfield 68), (36, .iload_n 1), (37, .iaload), (38, .aload_n 0), (39, .getfield 71), (42, .iload_n 1), (43, .iaload), (44, .invokestatic 167), (47, .istore 4), (49, .aload_n 0), (50, .iload_n 2), (51, .iconst (.ofNat 0)), (52, .iload 4), (54, .invokevirtual 139), (57, .istore 5), (59, .iconst (.ofNat 0)), (60, .istore 6), (62, .iload 6), (64, .aload_n 0), (65, .getfield 71), (68, .iload_n 1), (69, .iaload), (70, .if_icmp .ge (.ofNat 40)), (73, .aload_n 0), (74, .getfield 80), (77, .iconst (.ofNat 4)), (78, .iload_n 1), (79, .imul), (80, .iload 6), (82, .iadd), (83, .iaload), (84, .istore 7), (86, .aload_n 0), (87, .iload_n 2), (88, .iconst (.ofNat 1)), (89, .iload 7), (91, .invokevirtual 139), (94, .istore 8), (96, .aload_n 0), (97, .iload 8), (99, .iload 7), (101, .invokevirtual 153), (104, .iinc 6 (.ofNat 1)), (107, .goto (.negSucc 44)), (110, .iconst (.ofNat 0)), (111, .istore 6), (113, .iconst (.ofNat 0)), (114, .istore 7), (116, .iload 7), (118, .bipush (.ofNat 6)), (120, .if_icmp .ge (.ofNat 87)), (123, .iload_n 3), (124, .ifCond .ne (.ofNat 14)), (127, .iload 7), (129, .aload_n 0), (130, .getfield 62), (133, .iload_n 1), (134, .iaload), (135, .if_icmp .ne (.ofNat 66)), (138, .aload_n 0), (139, .iload 7), (141, .iload 5), (143, .iload 4), (145, .iconst (.ofNat 0)), (146, .iconst (.ofNat 0)), (147, .invokevirtual 171), (150, .ifCond .eq (.ofNat 51)), (153, .aload_n 0), (154, .iload 7), (156, .aload_n 0), (157, .getfield 68), (160, .iload_n 1), (161, .iaload), (162, .aload_n 0), (163, .getfield 71), (166, .iload_n 1), (167, .iaload), (168, .iload_n 3), (169, .invokevirtual 178), (172, .istore 8), (174, .iload 8), (176, .ifCond .eq (.ofNat 25)), (179, .iload_n 3), (180, .ifCond .ne (.ofNat 21)), (183, .aload_n 0), (184, .iload 7), (186, .iload_n 2), (187, .invokevirtual 150), (190, .iconst (.ofNat 1)), (191, .if_icmp .ne (.ofNat 7)), (194, .iconst (.ofNat 1)), (195, .goto (.ofNat 4)), (198, .iconst (.ofNat 0)), (199, .istore 6), (201, .iinc 7 (.ofNat 1)), (204, .goto (.negSucc 87)), (207, .iload 6), (209, .ifCond .ne (.ofNat 7)), (212, .iload_n 3), (213, .ifCond .eq (.ofNat 7)), (216, .iconst (.ofNat 1)), (217, .goto (.ofNat 4)), (220, .iconst (.ofNat 0)), (221, .ireturn)]
/-- CommandBusesModel/dataWord -/
def cd_120 : List (Nat × Instr) := [(0, .iload_n 1), (1, .iconst (.ofNat 1)), (2, .if_icmp .ne (.ofNat 23)), (5, .aload_n 0), (6, .getfield 89), (9, .aload_n 0), (10, .getfield 147), (13, .iload_n 2), (14, .iastore), (15, .aload_n 0), (16, .dup), (17, .getfield 147), (20, .iconst (.ofNat 1)), (21, .iadd), (22, .putfield 147), (25, .return_)]
/-- CommandBusesModel/takes -/
def cd_121 : List (Nat × Instr) := [(0, .aload_n 0), (1, .getfield 147), (4, .iload_n 3), (5, .if_icmp .ge (.ofNat 12)), (8, .aload_n 0), (9, .getfield 38), (12, .iload_n 1), (13, .iconst (.ofNat 1)), (14, .bastore), (15, .iconst (.ofNat 0)), (16, .ireturn), (17, .iload_n 1), (18, .iload_n 2), (19, .invokestatic 131), (22, .istore 5), (24, .iconst (.ofNat 0)), (25, .istore 6), (27, .iload 6), (29, .iconst (.ofNat 4)), (30, .if_icmp .ge (.ofNat 36)), (33, .aload_n 0), (34, .getfield 32), (37, .iload 5), (39, .iload 6), (41, .iadd), (42, .iload 6), (44, .iload_n 3), (45, .if_icmp .ge (.ofNat 13)), (48, .aload_n 0), (49, .getfield 89), (52, .iload 6), (54, .iaload), (55, .goto (.ofNat 4)), (58, .iconst (.ofNat 0)), (59, .iastore), (60, .iinc 6 (.ofNat 1)), (63, .goto (.negSucc 35)), (66, .aload_n 0), (67, .getfield 35), (70, .iconst (.ofNat 3)), (71, .iload_n 1), (72, .imul), (73, .iload_n 2), (74, .iadd), (75, .iconst (.ofNat 1)), (76, .isub), (77, .iconst (.ofNat 1)), (78, .bastore), (79, .aload_n 0), (80, .getfield 41), (83, .iload_n 1), (84, .iload 4), (86, .bastore), (87, .iconst (.ofNat 1)), (88, .ireturn)]
/-- CommandBusesModel/passes -/
def cd_122 : List (Nat × Instr) := [(0, .aload_n 0), (1, .getfield 62), (4, .iload_n 1), (5, .iaload), (6, .istore_n 3), (7, .aload_n 0), (8, .getfield 65), (11, .iload_n 1), (12, .iaload), (13, .istore 4), (15, .iload 4), (17, .iconst (.ofNat 0)), (18, .aload_n 0), (19, .getfield 68), (22, .iload_n 1), (23, .iaload), (24, .aload_n 0), (25, .getfield 71), (28, .iload_n 1), (29, .iaload), (30, .invokestatic 167), (33, .istore 5), (35, .aload_n 0), (36, .iload_n 2), (37, .iconst (.ofNat 0)), (38, .iload 5), (40, .invokevirtual 139), (43, .istore 6), (45, .aload_n 0), (46, .iload 4), (48, .iload 6), (50, .iload 5), (52, .iconst (.ofNat 0)), (53, .iconst (.ofNat 0)), (54, .invokevirtual 171), (57, .istore 7), (59, .iload_n 3), (60, .iconst (.ofNat 1)), (61, .aload_n 0), (62, .getfield 68), (65, .iload_n 1), (66, .iaload), (67, .aload_n 0), (68, .getfield 71), (71, .iload_n 1), (72, .iaload), (73, .invokestatic 167), (76, .istore 8), (78, .aload_n 0), (79, .iload_n 2), (80, .iconst (.ofNat 0)), (81, .iload 8), (83, .invokevirtual 139), (86, .istore 6), (88, .aload_n 0), (89, .iload_n 3), (90, .iload 6), (92, .iload 8), (94, .iconst (.ofNat 0)), (95, .iconst (.ofNat 0)), (96, .invokevirtual 171), (99, .ifCond .eq (.ofNat 28)), (102, .aload_n 0), (103, .iload_n 3), (104, .aload_n 0), (105, .getfield 68), (108, .iload_n 1), (109, .iaload), (110, .aload_n 0), (111, .getfield 71), (114, .iload_n 1), (115, .iaload), (116, .iload_n 2), (117, .invokevirtual 175), (120, .ifCond .eq (.ofNat 7)), (123, .iconst (.ofNat 1)), (124, .goto (.ofNat 4)), (127, .iconst (.ofNat 0)), (128, .istore 9), (130, .iload 7), (132, .ifCond .eq (.ofNat 40)), (135, .aload_n 0), (136, .iload 4), (138, .aload_n 0), (139, .getfield 68), (142, .iload_n 1), (143, .iaload), (144, .aload_n 0), (145, .getfield 71), (148, .iload_n 1), (149, .iaload), (150, .iconst (.ofNat 0)), (151, .invokevirtual 178), (154, .ifCond .eq (.ofNat 18)), (157, .aload_n 0), (158, .iload 4), (160, .iload_n 2), (161, .invokevirtual 150), (164, .iconst (.ofNat 1)), (165, .if_icmp .ne (.ofNat 7)), (168, .iconst (.ofNat 1)), (169, .goto (.ofNat 4)), (172, .iconst (.ofNat 0)), (173, .istore 10), (175, .iload 9), (177, .ifCond .eq (.ofNat 12)), (180, .iload 10), (182, .ifCond .eq (.ofNat 7)), (185, .iconst (.ofNat 1)), (186, .goto (.ofNat 4)), (189, .iconst (.ofNat 0)), (190, .ireturn)]
/-- CommandBusesModel/answers -/
def cd_123 : List (Nat × Instr) := [(0, .aload_n 0), (1, .iload_n 1), (2, .iload 4), (4, .invokevirtual 150), (7, .iconst (.ofNat 1)), (8, .if_icmp .ne (.ofNat 7)), (11, .iconst (.ofNat 1)), (12, .goto (.ofNat 4)), (15, .iconst (.ofNat 0)), (16, .istore 5), (18, .iconst (.ofNat 0)), (19, .istore 6), (21, .iload 6), (23, .iload_n 3), (24, .if_icmp .ge (.ofNat 44)), (27, .aload_n 0), (28, .getfield 29), (31, .iload_n 1), (32, .iload_n 2), (33, .invokestatic 131), (36, .iload 6), (38, .iadd), (39, .iaload), (40, .istore 7), (42, .aload_n 0), (43, .iload_n 1), (44, .iload 4), (46, .iconst (.ofNat 1)), (47, .iload 7), (49, .invokevirtual 143), (52, .istore 8), (54, .aload_n 0), (55, .iload 8), (57, .iload 7), (59, .invokevirtual 153), (62, .iinc 6 (.ofNat 1)), (65, .goto (.negSucc 43)), (68, .iload 5), (70, .ireturn)]
/-- CommandBusesModel/note -/
def cd_124 : List (Nat × Instr) := [(0, .iconst (.ofNat 0)), (1, .istore_n 2), (2, .iload_n 2), (3, .bipush (.ofNat 6)), (5, .if_icmp .ge (.ofNat 60)), (8, .aload_n 0), (9, .getfield 83), (12, .iload_n 1), (13, .iaload), (14, .iconst (.ofNat 4)), (15, .if_icmp .ne (.ofNat 7)), (18, .iconst (.ofNat 2)), (19, .goto (.ofNat 4)), (22, .iconst (.ofNat 1)), (23, .istore_n 3), (24, .aload_n 0), (25, .getfield 92), (28, .iload_n 2), (29, .aload_n 0), (30, .iload_n 1), (31, .iload_n 2), (32, .invokevirtual 216), (35, .ifCond .eq (.ofNat 17)), (38, .iload_n 3), (39, .aload_n 0), (40, .getfield 92), (43, .iload_n 2), (44, .iaload), (45, .if_icmp .le (.ofNat 7)), (48, .iload_n 3), (49, .goto (.ofNat 9)), (52, .aload_n 0), (53, .getfield 92), (56, .iload_n 2), (57, .iaload), (58, .iastore), (59, .iinc 2 (.ofNat 1)), (62, .goto (.negSucc 59)), (65, .return_)]
/-- CommandBusesModel/outcome -/
def cd_125 : List (Nat × Instr) := [(0, .aload_n 0), (1, .iload_n 1), (2, .invokevirtual 198), (5, .ifCond .eq (.ofNat 12)), (8, .aload_n 0), (9, .getfield 83), (12, .iload_n 1), (13, .iaload), (14, .goto (.ofNat 4)), (17, .iconst (.negSucc 0)), (18, .ireturn)]
/-- CommandBusesModel/bus -/
def cd_126 : List (Nat × Instr) := [(0, .aload_n 0), (1, .getfield 182), (4, .ireturn)]
/-- CommandBusesModel/words -/
def cd_127 : List (Nat × Instr) := [(0, .aload_n 0), (1, .getfield 118), (4, .ireturn)]
/-- CommandBusesModel/heard -/
def cd_128 : List (Nat × Instr) := [(0, .iload_n 1), (1, .ifCond .lt (.ofNat 17)), (4, .iload_n 1), (5, .bipush (.ofNat 60)), (7, .if_icmp .ge (.ofNat 11)), (10, .iload_n 1), (11, .aload_n 0), (12, .getfield 118), (15, .if_icmp .lt (.ofNat 5)), (18, .iconst (.negSucc 0)), (19, .ireturn), (20, .aload_n 0), (21, .getfield 20), (24, .aload_n 0), (25, .getfield 118), (28, .iconst (.ofNat 1)), (29, .isub), (30, .iload_n 1), (31, .isub), (32, .bipush (.ofNat 60)), (34, .irem), (35, .iaload), (36, .ireturn)]
/-- CommandBuses$Coding/halvesOf -/
def cd_129 : List (Nat × Instr) := [(0, .iload_n 1), (1, .invokestatic 9), (4, .ifCond .eq (.ofNat 7)), (7, .iconst (.ofNat 0)), (8, .goto (.ofNat 4)), (11, .iconst (.ofNat 1)), (12, .istore_n 2), (13, .iload_n 1), (14, .iconst (.ofNat 2)), (15, .imul), (16, .iload_n 2), (17, .iadd), (18, .istore_n 3), (19, .iload_n 0), (20, .ifCond .eq (.ofNat 9)), (23, .ldc2_w 15), (26, .goto (.ofNat 6)), (29, .ldc2_w 17), (32, .lstore 4), (34, .bipush (.ofNat 16)), (36, .istore 6), (38, .iload 6), (40, .ifCond .lt (.ofNat 34)), (43, .lload 4), (45, .ldc2_w 19), (48, .lmul), (49, .iload_n 3), (50, .iload 6), (52, .ishr), (53, .iconst (.ofNat 1)), (54, .iand), (55, .iconst (.ofNat 1)), (56, .if_icmp .ne (.ofNat 7)), (59, .iconst (.ofNat 2)), (60, .goto (.ofNat 4)), (63, .iconst (.ofNat 1)), (64, .i2l), (65, .ladd), (66, .lstore 4), (68, .iinc 6 (.negSucc 0)), (71, .goto (.negSucc 32)), (74, .lload 4), (76, .lreturn)]
/-- CommandBuses$Coding/isOdd -/
def cd_130 : List (Nat × Instr) := [(0, .iload_n 0), (1, .invokestatic 24), (4, .iconst (.ofNat 1)), (5, .iand), (6, .iconst (.ofNat 1)), (7, .if_icmp .ne (.ofNat 7)), (10, .iconst (.ofNat 1)), (11, .goto (.ofNat 4)), (14, .iconst (.ofNat 0)), (15, .ireturn)]
/-- CommandBuses$Coding/wordOf -/
def cd_131 : List (Nat × Instr) := [(0, .lload_n 0), (1, .lconst 0), (2, .lcmp), (3, .ifCond .lt (.ofNat 11)), (6, .lload_n 0), (7, .ldc2_w 21), (10, .lcmp), (11, .ifCond .lt (.ofNat 5)), (14, .iconst (.negSucc 0)), (15, .ireturn), (16, .lload_n 0), (17, .bipush (.ofNat 34)), (19, .lshr), (20, .l2i), (21, .istore_n 2), (22, .iload_n 2), (23, .bipush (.ofNat 56)), (25, .if_icmp .eq (.ofNat 12)), (28, .iload_n 2), (29, .bipush (.ofNat 7)), (31, .if_icmp .eq (.ofNat 6)), (34, .bipush (.negSucc 2)), (36, .ireturn), (37, .iconst (.ofNat 0)), (38, .istore_n 3), (39, .bipush (.ofNat 16)), (41, .istore 4), (43, .iload 4), (45, .ifCond .lt (.ofNat 51)), (48, .lload_n 0), (49, .iconst (.ofNat 2)), (50, .iload 4), (52, .imul), (53, .lshr), (54, .l2i), (55, .iconst (.ofNat 3)), (56, .iand), (57, .istore 5), (59, .iload 5), (61, .iconst (.ofNat 2)), (62, .if_icmp .eq (.ofNat 12)), (65, .iload 5), (67, .iconst (.ofNat 1)), (68, .if_icmp .eq (.ofNat 6)), (71, .bipush (.negSucc 3)), (73, .ireturn), (74, .iload_n 3), (75, .iconst (.ofNat 2)), (76, .imul), (77, .iload 5), (79, .iconst (.ofNat 2)), (80, .if_icmp .ne (.ofNat 7)), (83, .iconst (.ofNat 1)), (84, .goto (.ofNat 4)), (87, .iconst (.ofNat 0)), (88, .iadd), (89, .istore_n 3), (90, .iinc 4 (.negSucc 0)), (93, .goto (.negSucc 49)), (96, .iload_n 3), (97, .invokestatic 9), (100, .ifCond .ne (.ofNat 6)), (103, .bipush (.negSucc 4)), (105, .ireturn), (106, .iload_n 3), (107, .iconst (.ofNat 1)), (108, .ishr), (109, .iload_n 2), (110, .bipush (.ofNat 7)), (112, .if_icmp .ne (.ofNat 8)), (115, .ldc 23), (117, .goto (.ofNat 4)), (120, .iconst (.ofNat 0)), (121, .iadd), (122, .ireturn)]
/-- CommandBuses$Commands/mode -/
def cd_132 : List (Nat × Instr) := [(0, .iload_n 0), (1, .iconst (.ofNat 0)), (2, .iload_n 1), (3, .invokestatic 13), (6, .ireturn)]
/-- CommandBuses$Commands/toSend -/
def cd_133 : List (Nat × Instr) := [(0, .iload_n 0), (1, .iload_n 1), (2, .iload_n 2), (3, .invokestatic 9), (6, .sipush (.ofNat 1024)), (9, .iadd), (10, .ireturn)]
/-- CommandBuses$Commands/toReceive -/
def cd_134 : List (Nat × Instr) := [(0, .iload_n 0), (1, .sipush (.ofNat 2048)), (4, .imul), (5, .iload_n 1), (6, .bipush (.ofNat 32)), (8, .imul), (9, .iadd), (10, .iload_n 2), (11, .iadd), (12, .ireturn)]
/-- java/lang/Integer/bitCount -/
def cd_135 : List (Nat × Instr) := [(0, .iload_n 0), (1, .iload_n 0), (2, .iconst (.ofNat 1)), (3, .iushr), (4, .ldc_w 265), (7, .iand), (8, .isub), (9, .istore_n 0), (10, .iload_n 0), (11, .ldc_w 266), (14, .iand), (15, .iload_n 0), (16, .iconst (.ofNat 2)), (17, .iushr), (18, .ldc_w 266), (21, .iand), (22, .iadd), (23, .istore_n 0), (24, .iload_n 0), (25, .iload_n 0), (26, .iconst (.ofNat 4)), (27, .iushr), (28, .iadd), (29, .ldc_w 267), (32, .iand), (33, .istore_n 0), (34, .iload_n 0), (35, .iload_n 0), (36, .bipush (.ofNat 8)), (38, .iushr), (39, .iadd), (40, .istore_n 0), (41, .iload_n 0), (42, .iload_n 0), (43, .bipush (.ofNat 16)), (45, .iushr), (46, .iadd), (47, .istore_n 0), (48, .iload_n 0), (49, .bipush (.ofNat 63)), (51, .iand), (52, .ireturn)]
/-- java/util/Arrays/fill -/
def cd_136 : List (Nat × Instr) := [(0, .iconst (.ofNat 0)), (1, .istore_n 2), (2, .aload_n 0), (3, .arraylength), (4, .istore_n 3), (5, .iload_n 2), (6, .iload_n 3), (7, .if_icmp .ge (.ofNat 13)), (10, .aload_n 0), (11, .iload_n 2), (12, .iload_n 1), (13, .iastore), (14, .iinc 2 (.ofNat 1)), (17, .goto (.negSucc 11)), (20, .return_)]
def cb_cd : Nat → List (Nat × Instr)
  | 0 => cd_0
  | 1 => cd_1
  | 2 => cd_2
  | 3 => cd_3
  | 4 => cd_4
  | 5 => cd_5
  | 6 => cd_6
  | 7 => cd_7
  | 8 => cd_8
  | 9 => cd_9
  | 10 => cd_10
  | 11 => cd_11
  | 12 => cd_12
  | 13 => cd_13
  | 14 => cd_14
  | 15 => cd_15
  | 16 => cd_16
  | 17 => cd_17
  | 18 => cd_18
  | 19 => cd_19
  | 20 => cd_20
  | 21 => cd_21
  | 22 => cd_22
  | 23 => cd_23
  | 24 => cd_24
  | 25 => cd_25
  | 26 => cd_26
  | 27 => cd_27
  | 28 => cd_28
  | 29 => cd_29
  | 30 => cd_30
  | 31 => cd_31
  | 32 => cd_32
  | 33 => cd_33
  | 34 => cd_34
  | 35 => cd_35
  | 36 => cd_36
  | 37 => cd_37
  | 38 => cd_38
  | 39 => cd_39
  | 40 => cd_40
  | 41 => cd_41
  | 42 => cd_42
  | 43 => cd_43
  | 44 => cd_44
  | 45 => cd_45
  | 46 => cd_46
  | 47 => cd_47
  | 48 => cd_48
  | 49 => cd_49
  | 50 => cd_50
  | 51 => cd_51
  | 52 => cd_52
  | 53 => cd_53
  | 54 => cd_54
  | 55 => cd_55
  | 56 => cd_56
  | 57 => cd_57
  | 58 => cd_58
  | 59 => cd_59
  | 60 => cd_60
  | 61 => cd_61
  | 62 => cd_62
  | 63 => cd_63
  | 64 => cd_64
  | 65 => cd_65
  | 66 => cd_66
  | 67 => cd_67
  | 68 => cd_68
  | 69 => cd_69
  | 70 => cd_70
  | 71 => cd_71
  | 72 => cd_72
  | 73 => cd_73
  | 74 => cd_74
  | 75 => cd_75
  | 76 => cd_76
  | 77 => cd_77
  | 78 => cd_78
  | 79 => cd_79
  | 80 => cd_80
  | 81 => cd_81
  | 82 => cd_82
  | 83 => cd_83
  | 84 => cd_84
  | 85 => cd_85
  | 86 => cd_86
  | 87 => cd_87
  | 88 => cd_88
  | 89 => cd_89
  | 90 => cd_90
  | 91 => cd_91
  | 92 => cd_92
  | 93 => cd_93
  | 94 => cd_94
  | 95 => cd_95
  | 96 => cd_96
  | 97 => cd_97
  | 98 => cd_98
  | 99 => cd_99
  | 100 => cd_100
  | 101 => cd_101
  | 102 => cd_102
  | 103 => cd_103
  | 104 => cd_104
  | 105 => cd_105
  | 106 => cd_106
  | 107 => cd_107
  | 108 => cd_108
  | 109 => cd_109
  | 110 => cd_110
  | 111 => cd_111
  | 112 => cd_112
  | 113 => cd_113
  | 114 => cd_114
  | 115 => cd_115
  | 116 => cd_116
  | 117 => cd_117
  | 118 => cd_118
  | 119 => cd_119
  | 120 => cd_120
  | 121 => cd_121
  | 122 => cd_122
  | 123 => cd_123
  | 124 => cd_124
  | 125 => cd_125
  | 126 => cd_126
  | 127 => cd_127
  | 128 => cd_128
  | 129 => cd_129
  | 130 => cd_130
  | 131 => cd_131
  | 132 => cd_132
  | 133 => cd_133
  | 134 => cd_134
  | 135 => cd_135
  | 136 => cd_136
  | _ => []
def cb_mx : Nat → Nat
  | 0 => 4
  | 1 => 1
  | 2 => 3
  | 3 => 1
  | 4 => 3
  | 5 => 3
  | 6 => 1
  | 7 => 5
  | 8 => 2
  | 9 => 1
  | 10 => 1
  | 11 => 3
  | 12 => 4
  | 13 => 4
  | 14 => 7
  | 15 => 1
  | 16 => 3
  | 17 => 3
  | 18 => 1
  | 19 => 5
  | 20 => 4
  | 21 => 3
  | 22 => 2
  | 23 => 2
  | 24 => 4
  | 25 => 5
  | 26 => 2
  | 27 => 3
  | 28 => 1
  | 29 => 1
  | 30 => 2
  | 31 => 2
  | 32 => 2
  | 33 => 8
  | 34 => 3
  | 35 => 3
  | 36 => 8
  | 37 => 9
  | 38 => 14
  | 39 => 8
  | 40 => 5
  | 41 => 1
  | 42 => 4
  | 43 => 5
  | 44 => 3
  | 45 => 8
  | 46 => 1
  | 47 => 2
  | 48 => 2
  | 49 => 2
  | 50 => 1
  | 51 => 3
  | 52 => 3
  | 53 => 1
  | 54 => 3
  | 55 => 1
  | 56 => 3
  | 57 => 2
  | 58 => 8
  | 59 => 1
  | 60 => 2
  | 61 => 2
  | 62 => 3
  | 63 => 4
  | 64 => 5
  | 65 => 4
  | 66 => 2
  | 67 => 1
  | 68 => 2
  | 69 => 3
  | 70 => 3
  | 71 => 2
  | 72 => 7
  | 73 => 3
  | 74 => 3
  | 75 => 1
  | 76 => 1
  | 77 => 1
  | 78 => 2
  | 79 => 2
  | 80 => 1
  | 81 => 8
  | 82 => 1
  | 83 => 10
  | 84 => 3
  | 85 => 1
  | 86 => 5
  | 87 => 2
  | 88 => 1
  | 89 => 2
  | 90 => 5
  | 91 => 4
  | 92 => 3
  | 93 => 2
  | 94 => 8
  | 95 => 1
  | 96 => 4
  | 97 => 2
  | 98 => 3
  | 99 => 7
  | 100 => 6
  | 101 => 5
  | 102 => 3
  | 103 => 3
  | 104 => 2
  | 105 => 2
  | 106 => 4
  | 107 => 3
  | 108 => 2
  | 109 => 9
  | 110 => 4
  | 111 => 6
  | 112 => 6
  | 113 => 3
  | 114 => 5
  | 115 => 4
  | 116 => 3
  | 117 => 5
  | 118 => 8
  | 119 => 9
  | 120 => 3
  | 121 => 7
  | 122 => 11
  | 123 => 9
  | 124 => 4
  | 125 => 2
  | 126 => 1
  | 127 => 1
  | 128 => 2
  | 129 => 7
  | 130 => 1
  | 131 => 6
  | 132 => 2
  | 133 => 3
  | 134 => 3
  | 135 => 1
  | 136 => 4
  | _ => 0
def cb_rt : Nat → Nat
  | 0 => 2
  | 1 => 5
  | 2 => 3
  | 3 => 2
  | 4 => 1
  | 5 => 2
  | 6 => 2
  | 7 => 2
  | 8 => 2
  | 9 => 2
  | 10 => 2
  | 11 => 2
  | 12 => 1
  | 13 => 1
  | 14 => 1
  | 15 => 2
  | 16 => 2
  | 17 => 2
  | 18 => 2
  | 19 => 2
  | 20 => 1
  | 21 => 1
  | 22 => 2
  | 23 => 1
  | 24 => 2
  | 25 => 1
  | 26 => 0
  | 27 => 1
  | 28 => 1
  | 29 => 1
  | 30 => 1
  | 31 => 5
  | 32 => 2
  | 33 => 2
  | 34 => 1
  | 35 => 2
  | 36 => 2
  | 37 => 2
  | 38 => 2
  | 39 => 0
  | 40 => 2
  | 41 => 5
  | 42 => 0
  | 43 => 2
  | 44 => 1
  | 45 => 2
  | 46 => 5
  | 47 => 0
  | 48 => 1
  | 49 => 5
  | 50 => 1
  | 51 => 0
  | 52 => 1
  | 53 => 1
  | 54 => 2
  | 55 => 0
  | 56 => 0
  | 57 => 2
  | 58 => 2
  | 59 => 5
  | 60 => 1
  | 61 => 4
  | 62 => 1
  | 63 => 1
  | 64 => 1
  | 65 => 0
  | 66 => 1
  | 67 => 5
  | 68 => 0
  | 69 => 2
  | 70 => 0
  | 71 => 0
  | 72 => 5
  | 73 => 2
  | 74 => 1
  | 75 => 1
  | 76 => 1
  | 77 => 1
  | 78 => 2
  | 79 => 2
  | 80 => 5
  | 81 => 3
  | 82 => 2
  | 83 => 1
  | 84 => 2
  | 85 => 2
  | 86 => 2
  | 87 => 2
  | 88 => 2
  | 89 => 1
  | 90 => 2
  | 91 => 1
  | 92 => 1
  | 93 => 1
  | 94 => 1
  | 95 => 2
  | 96 => 2
  | 97 => 2
  | 98 => 1
  | 99 => 1
  | 100 => 1
  | 101 => 1
  | 102 => 2
  | 103 => 1
  | 104 => 2
  | 105 => 1
  | 106 => 2
  | 107 => 1
  | 108 => 0
  | 109 => 2
  | 110 => 1
  | 111 => 1
  | 112 => 2
  | 113 => 1
  | 114 => 1
  | 115 => 2
  | 116 => 2
  | 117 => 0
  | 118 => 2
  | 119 => 2
  | 120 => 0
  | 121 => 2
  | 122 => 2
  | 123 => 2
  | 124 => 0
  | 125 => 1
  | 126 => 1
  | 127 => 1
  | 128 => 1
  | 129 => 3
  | 130 => 2
  | 131 => 1
  | 132 => 1
  | 133 => 1
  | 134 => 1
  | 135 => 1
  | 136 => 0
  | _ => 9
def cb_ow : Nat → Nat
  | 0 => 11
  | 1 => 0
  | 2 => 0
  | 3 => 0
  | 4 => 0
  | 5 => 0
  | 6 => 0
  | 7 => 0
  | 8 => 0
  | 9 => 0
  | 10 => 0
  | 11 => 0
  | 12 => 0
  | 13 => 0
  | 14 => 0
  | 15 => 0
  | 16 => 0
  | 17 => 0
  | 18 => 0
  | 19 => 0
  | 20 => 0
  | 21 => 0
  | 22 => 0
  | 23 => 0
  | 24 => 0
  | 25 => 0
  | 26 => 0
  | 27 => 0
  | 28 => 0
  | 29 => 0
  | 30 => 0
  | 31 => 1
  | 32 => 1
  | 33 => 1
  | 34 => 1
  | 35 => 1
  | 36 => 1
  | 37 => 1
  | 38 => 1
  | 39 => 1
  | 40 => 1
  | 41 => 2
  | 42 => 2
  | 43 => 2
  | 44 => 2
  | 45 => 2
  | 46 => 3
  | 47 => 3
  | 48 => 3
  | 49 => 4
  | 50 => 4
  | 51 => 4
  | 52 => 4
  | 53 => 4
  | 54 => 4
  | 55 => 4
  | 56 => 4
  | 57 => 4
  | 58 => 4
  | 59 => 5
  | 60 => 5
  | 61 => 5
  | 62 => 5
  | 63 => 5
  | 64 => 5
  | 65 => 5
  | 66 => 5
  | 67 => 6
  | 68 => 6
  | 69 => 6
  | 70 => 6
  | 71 => 6
  | 72 => 7
  | 73 => 7
  | 74 => 7
  | 75 => 7
  | 76 => 7
  | 77 => 7
  | 78 => 7
  | 79 => 7
  | 80 => 8
  | 81 => 8
  | 82 => 8
  | 83 => 8
  | 84 => 8
  | 85 => 8
  | 86 => 8
  | 87 => 8
  | 88 => 8
  | 89 => 8
  | 90 => 8
  | 91 => 8
  | 92 => 8
  | 93 => 8
  | 94 => 8
  | 95 => 8
  | 96 => 8
  | 97 => 8
  | 98 => 8
  | 99 => 8
  | 100 => 8
  | 101 => 8
  | 102 => 8
  | 103 => 8
  | 104 => 8
  | 105 => 8
  | 106 => 8
  | 107 => 8
  | 108 => 8
  | 109 => 8
  | 110 => 8
  | 111 => 8
  | 112 => 8
  | 113 => 8
  | 114 => 8
  | 115 => 8
  | 116 => 8
  | 117 => 8
  | 118 => 8
  | 119 => 8
  | 120 => 8
  | 121 => 8
  | 122 => 8
  | 123 => 8
  | 124 => 8
  | 125 => 8
  | 126 => 8
  | 127 => 8
  | 128 => 8
  | 129 => 9
  | 130 => 9
  | 131 => 9
  | 132 => 10
  | 133 => 10
  | 134 => 10
  | 135 => 12
  | 136 => 13
  | _ => 20
def lk_0 : List (Nat × ex_Lk) := [(1, 8, 0, 0, 0), (7, 9, 1, 0, 0), (9, 6, 31, 0, 0), (10, 0, 0, 0, 1), (16, 1, 1, 0, 1), (20, 0, 0, 1, 1), (21, 1, 1, 1, 1), (25, 0, 0, 2, 1), (26, 9, 5, 0, 0), (28, 7, 59, 0, 0), (29, 0, 0, 3, 1), (33, 9, 6, 0, 0), (35, 7, 67, 0, 0), (36, 0, 0, 4, 1), (40, 4, 3, 1, 0), (44, 4, 129, 2, 0), (50, 12, 0, 0, (-1)), (52, 4, 131, 1, 0), (56, 4, 6, 1, 0), (59, 1, 4, 1, 0), (65, 4, 8, 2, 0), (69, 4, 10, 1, 0), (72, 1, 4, 7, 1), (76, 4, 50, 1, 0), (80, 2, 51, 1, 0), (84, 2, 52, 2, 0), (88, 2, 53, 0, 0), (92, 1, 4, 4, 0), (96, 1, 4, 5, 0), (99, 1, 4, 6, 1), (103, 1, 6, 0, 1), (106, 1, 6, 1, 1), (109, 1, 5, 4, 0), (112, 4, 15, 1, 0), (115, 4, 16, 3, 0), (119, 4, 17, 3, 0), (122, 1, 5, 2, 0), (125, 9, 7, 1, 0), (127, 6, 72, 6, 0), (130, 2, 60, 1, 0), (134, 2, 61, 1, 0), (138, 1, 7, 6, 1), (141, 2, 62, 0, 0), (144, 1, 5, 3, 0), (147, 1, 5, 1, 1), (150, 2, 42, 3, 0), (156, 2, 66, 0, 0), (159, 2, 26, 0, 0), (162, 1, 5, 0, 1), (166, 2, 78, 1, 0), (169, 2, 69, 1, 0), (173, 2, 34, 1, 0), (176, 1, 7, 8, 0), (179, 2, 70, 1, 0), (183, 2, 71, 0, 0), (186, 1, 1, 2, 0), (189, 1, 2, 0, 1), (193, 1, 3, 2, 0), (198, 2, 48, 1, 0), (201, 2, 32, 1, 0), (204, 2, 68, 1, 0), (207, 4, 9, 1, 0), (210, 11, 0, 0, 65535), (211, 4, 18, 1, 0)]
def lk_1 : List (Nat × ex_Lk) := [(3, 8, 0, 0, 0), (9, 9, 4, 1, 0), (11, 0, 1, 0, 1), (17, 9, 2, 0, 0), (19, 6, 41, 0, 0), (20, 0, 1, 1, 1), (24, 6, 49, 1, 0), (27, 0, 1, 2, 0), (31, 2, 35, 2, 0), (35, 2, 33, 3, 0), (39, 1, 7, 0, 1), (44, 2, 36, 2, 0), (47, 2, 37, 2, 0), (50, 2, 38, 2, 0), (53, 2, 39, 2, 0), (57, 2, 40, 2, 0), (60, 1, 7, 1, 1), (63, 1, 7, 3, 1), (66, 1, 7, 4, 1), (69, 4, 134, 3, 0), (75, 2, 43, 2, 0), (79, 2, 57, 1, 0), (83, 1, 7, 6, 1), (87, 2, 45, 4, 0), (91, 2, 58, 5, 0), (95, 1, 4, 6, 1), (99, 2, 53, 0, 0), (103, 4, 50, 1, 0), (107, 4, 133, 3, 0), (110, 1, 4, 8, 1), (112, 13, 0, 0, 0), (118, 1, 7, 2, 1), (121, 1, 4, 3, 0), (125, 1, 4, 4, 0), (128, 1, 4, 0, 1), (131, 4, 132, 2, 0), (135, 2, 54, 2, 0), (138, 11, 0, 0, 65536)]
def lk_2 : List (Nat × ex_Lk) := [(3, 8, 0, 0, 0), (9, 9, 3, 0, 0), (11, 7, 46, 0, 0), (12, 0, 2, 0, 1), (18, 0, 2, 1, 1), (22, 0, 2, 2, 1), (25, 4, 136, 2, 0), (31, 2, 44, 1, 0), (35, 11, 0, 0, 131072), (36, 11, 0, 0, 262144), (37, 2, 47, 1, 0), (41, 11, 0, 0, 65536), (42, 2, 43, 2, 0)]
def lk_3 : List (Nat × ex_Lk) := [(3, 8, 0, 0, 0), (11, 0, 3, 0, 1), (15, 0, 3, 1, 0), (19, 0, 3, 2, 0)]
def lk_4 : List (Nat × ex_Lk) := [(3, 8, 0, 0, 0), (9, 0, 4, 1, 0), (15, 0, 4, 6, 1), (19, 0, 4, 7, 1), (23, 0, 4, 8, 1), (26, 0, 4, 9, 1), (29, 0, 4, 10, 1), (32, 0, 4, 0, 1), (36, 0, 4, 2, 0), (39, 0, 4, 3, 0), (42, 4, 50, 1, 0), (46, 13, 0, 0, 0), (52, 2, 55, 0, 0), (55, 0, 4, 4, 0), (58, 4, 132, 2, 0), (64, 2, 56, 2, 0), (68, 0, 4, 5, 0)]
def lk_5 : List (Nat × ex_Lk) := [(3, 8, 0, 0, 0), (9, 9, 7, 1, 0), (11, 0, 5, 0, 1), (17, 0, 5, 1, 1), (21, 0, 5, 2, 0), (25, 0, 5, 3, 0), (28, 4, 136, 2, 0), (34, 2, 63, 1, 0), (38, 1, 7, 7, 0), (41, 2, 65, 1, 0), (45, 14, 0, 0, 0), (51, 1, 7, 5, 1), (54, 2, 64, 2, 0), (58, 2, 73, 2, 0), (62, 2, 74, 0, 0), (66, 2, 78, 1, 0)]
def lk_6 : List (Nat × ex_Lk) := [(3, 8, 0, 0, 0), (9, 0, 6, 0, 1), (15, 0, 6, 1, 1), (19, 0, 6, 2, 1), (22, 0, 6, 3, 1), (25, 2, 79, 1, 0), (31, 1, 7, 8, 0)]
def lk_7 : List (Nat × ex_Lk) := [(3, 8, 0, 0, 0), (9, 0, 7, 6, 1), (15, 0, 7, 0, 1), (19, 0, 7, 1, 1), (22, 0, 7, 2, 1), (25, 0, 7, 3, 1), (28, 0, 7, 4, 1), (31, 0, 7, 5, 1), (34, 0, 7, 7, 0), (37, 2, 73, 2, 0), (41, 2, 75, 0, 0), (45, 2, 76, 0, 0), (48, 2, 77, 0, 0)]
def lk_8 : List (Nat × ex_Lk) := [(1, 8, 0, 0, 0), (7, 0, 8, 0, 1), (13, 0, 8, 1, 1), (17, 0, 8, 2, 1), (20, 0, 8, 4, 1), (23, 0, 8, 5, 1), (26, 0, 8, 6, 1), (29, 0, 8, 7, 1), (32, 0, 8, 8, 1), (35, 0, 8, 9, 1), (38, 0, 8, 10, 1), (41, 0, 8, 11, 1), (44, 0, 8, 12, 1), (47, 0, 8, 13, 1), (50, 0, 8, 14, 1), (53, 0, 8, 15, 1), (56, 0, 8, 16, 1), (59, 0, 8, 18, 1), (62, 0, 8, 19, 1), (65, 0, 8, 20, 1), (68, 0, 8, 21, 1), (71, 0, 8, 22, 1), (74, 0, 8, 23, 1), (77, 0, 8, 24, 1), (80, 0, 8, 25, 1), (83, 0, 8, 26, 1), (86, 0, 8, 28, 1), (89, 0, 8, 31, 1), (92, 0, 8, 33, 1), (95, 4, 85, 1, 0), (99, 11, 0, 0, 65535), (100, 4, 82, 1, 0), (103, 12, 0, 0, (-1)), (105, 12, 0, 0, 7), (107, 12, 0, 0, 56), (109, 12, 0, 0, 4), (111, 12, 0, 0, 2), (113, 12, 0, 0, 1099511627775), (115, 12, 0, 0, 3), (117, 11, 0, 0, 65536), (118, 0, 8, 3, 0), (122, 11, 0, 0, 131072), (123, 11, 0, 0, 262144), (124, 4, 87, 2, 0), (128, 4, 88, 1, 0), (131, 4, 89, 2, 0), (135, 2, 93, 1, 0), (139, 2, 111, 3, 0), (143, 2, 114, 4, 0), (147, 0, 8, 32, 0), (150, 2, 113, 2, 0), (153, 2, 120, 2, 0), (157, 2, 119, 2, 0), (160, 2, 109, 4, 0), (164, 2, 122, 2, 0), (167, 4, 110, 4, 0), (171, 2, 112, 5, 0), (175, 2, 123, 4, 0), (178, 2, 121, 4, 0), (182, 0, 8, 30, 0), (185, 2, 118, 2, 0), (188, 0, 8, 27, 0), (192, 4, 95, 1, 0), (195, 0, 8, 17, 0), (198, 2, 97, 1, 0), (201, 2, 102, 2, 0), (204, 2, 103, 1, 0), (207, 2, 101, 2, 0), (210, 2, 100, 2, 0), (213, 0, 8, 29, 0), (216, 2, 116, 2, 0), (219, 2, 108, 0, 0), (222, 2, 115, 1, 0), (225, 2, 117, 1, 0), (229, 2, 124, 1, 0)]
def lk_9 : List (Nat × ex_Lk) := [(9, 4, 130, 1, 0), (15, 12, 0, 0, 7), (17, 12, 0, 0, 56), (19, 12, 0, 0, 4), (21, 12, 0, 0, 1099511627776), (23, 11, 0, 0, 65536), (24, 4, 135, 1, 0)]
def lk_10 : List (Nat × ex_Lk) := [(9, 4, 134, 3, 0), (13, 4, 133, 3, 0)]
def lk_11 : List (Nat × ex_Lk) := [(7, 9, 0, 0, 0), (9, 6, 1, 0, 0), (10, 9, 8, 0, 0), (12, 6, 80, 0, 0), (13, 2, 2, 2, 0), (17, 2, 81, 2, 0), (18, 12, 0, 0, 4294967295), (20, 2, 4, 1, 0), (24, 2, 83, 1, 0), (25, 2, 5, 2, 0), (29, 2, 84, 2, 0), (30, 2, 7, 4, 0), (34, 2, 86, 4, 0), (35, 2, 11, 2, 0), (39, 2, 90, 2, 0), (40, 2, 12, 3, 0), (44, 2, 91, 3, 0), (45, 2, 13, 2, 0), (49, 2, 92, 2, 0), (50, 2, 14, 6, 0), (54, 2, 94, 6, 0), (55, 2, 19, 3, 0), (59, 2, 96, 3, 0), (60, 2, 20, 2, 0), (63, 2, 98, 2, 0), (64, 2, 21, 1, 0), (68, 2, 99, 1, 0), (69, 2, 22, 0, 0), (73, 2, 104, 0, 0), (74, 2, 23, 1, 0), (77, 2, 105, 1, 0), (78, 2, 24, 3, 0), (81, 2, 106, 3, 0), (82, 2, 25, 0, 0), (86, 2, 107, 0, 0), (87, 2, 27, 1, 0), (90, 2, 125, 1, 0), (91, 2, 28, 0, 0), (94, 2, 126, 0, 0), (95, 2, 29, 0, 0), (98, 2, 127, 0, 0), (99, 2, 30, 1, 0), (102, 2, 128, 1, 0)]
def lk_12 : List (Nat × ex_Lk) := [(265, 11, 0, 0, 1431655765), (266, 11, 0, 0, 858993459), (267, 11, 0, 0, 252645135)]
def cb_lt : Nat → List (Nat × ex_Lk)
  | 0 => lk_0
  | 1 => lk_1
  | 2 => lk_2
  | 3 => lk_3
  | 4 => lk_4
  | 5 => lk_5
  | 6 => lk_6
  | 7 => lk_7
  | 8 => lk_8
  | 9 => lk_9
  | 10 => lk_10
  | 11 => lk_11
  | 12 => lk_12
  | _ => []
def cb_kdL : List (Nat × Nat) := [(0, 0), (0, 1), (7, 6), (0, 2), (0, 3), (1, 60), (1, 2), (1, 2), (0, 4), (2, 2), (1, 12), (1, 12), (1, 12), (2, 3), (0, 4), (2, 2), (1, 12), (1, 12), (1, 12), (2, 3), (0, 4), (2, 2), (1, 12), (1, 12), (1, 12), (2, 3), (0, 4), (2, 2), (1, 12), (1, 12), (1, 12), (2, 3), (0, 4), (2, 2), (1, 12), (1, 12), (1, 12), (2, 3), (0, 4), (2, 2), (1, 12), (1, 12), (1, 12), (2, 3), (0, 5), (10, 8), (1, 4), (0, 6), (1, 6), (2, 6), (2, 6), (2, 6), (0, 8), (2, 2), (1, 2), (1, 2), (1, 60), (2, 6), (1, 72), (1, 72), (1, 72), (2, 18), (2, 6), (2, 6), (1, 6), (1, 6), (2, 12), (1, 6), (2, 6), (1, 8), (1, 8), (1, 8), (1, 8), (1, 8), (1, 8), (1, 8), (1, 32), (1, 8), (1, 4), (1, 4), (1, 6), (0, 7), (1, 4), (0, 7), (1, 4), (0, 7), (1, 4), (0, 7), (1, 4), (0, 7), (1, 4), (0, 7), (1, 4), (0, 7), (1, 4), (0, 7), (1, 4)]
def cb_kd (i : Nat) : Nat × Nat := cb_kdL.getD i (1, 0)
def cb_G : ex_G := (cb_cd, cb_mx, cb_rt, cb_ow, cb_lt, cb_nf, cb_fk, cb_kd)
def cb_ym : Nat → MethodName
  | 0 => ⟨"CommandBusesLaw", "law", "([I)Z"⟩
  | 1 => ⟨"CommandBuses", "<init>", "()V"⟩
  | 2 => ⟨"CommandBuses", "encode", "(ZI)J"⟩
  | 3 => ⟨"CommandBuses", "isValue", "(I)Z"⟩
  | 4 => ⟨"CommandBuses", "decode", "(J)I"⟩
  | 5 => ⟨"CommandBuses", "live", "(IZ)Z"⟩
  | 6 => ⟨"CommandBuses", "isTerminal", "(I)Z"⟩
  | 7 => ⟨"CommandBuses", "draft", "(IIII)Z"⟩
  | 8 => ⟨"CommandBuses", "isPlace", "(II)Z"⟩
  | 9 => ⟨"CommandBuses", "isSubaddress", "(I)Z"⟩
  | 10 => ⟨"CommandBuses", "isIndex", "(I)Z"⟩
  | 11 => ⟨"CommandBuses", "publish", "(II)Z"⟩
  | 12 => ⟨"CommandBuses", "received", "(III)I"⟩
  | 13 => ⟨"CommandBuses", "terminal", "(II)I"⟩
  | 14 => ⟨"CommandBuses", "message", "(IIIIII)I"⟩
  | 15 => ⟨"CommandBuses", "isPeriod", "(I)Z"⟩
  | 16 => ⟨"CommandBuses", "areTerminalsOf", "(III)Z"⟩
  | 17 => ⟨"CommandBuses", "isContentOf", "(III)Z"⟩
  | 18 => ⟨"CommandBuses", "isModeCode", "(I)Z"⟩
  | 19 => ⟨"CommandBuses", "give", "(III)Z"⟩
  | 20 => ⟨"CommandBuses", "taken", "(II)I"⟩
  | 21 => ⟨"CommandBuses", "seal", "(I)I"⟩
  | 22 => ⟨"CommandBuses", "open", "()Z"⟩
  | 23 => ⟨"CommandBuses", "load", "(I)I"⟩
  | 24 => ⟨"CommandBuses", "fault", "(III)Z"⟩
  | 25 => ⟨"CommandBuses", "run", "()I"⟩
  | 26 => ⟨"CommandBuses", "pollDropped", "()V"⟩
  | 27 => ⟨"CommandBuses", "outcome", "(I)I"⟩
  | 28 => ⟨"CommandBuses", "bus", "()I"⟩
  | 29 => ⟨"CommandBuses", "words", "()I"⟩
  | 30 => ⟨"CommandBuses", "heard", "(I)I"⟩
  | 31 => ⟨"CommandBuses$Controller", "<init>", "()V"⟩
  | 32 => ⟨"CommandBuses$Controller", "answersPoll", "(I)Z"⟩
  | 33 => ⟨"CommandBuses$Controller", "modeGoesWell", "(LCommandBuses$Terminal;II)Z"⟩
  | 34 => ⟨"CommandBuses$Controller", "outcomeOfDoing", "(LCommandBuses$Message;)I"⟩
  | 35 => ⟨"CommandBuses$Controller", "goesWell", "(LCommandBuses$Message;I)Z"⟩
  | 36 => ⟨"CommandBuses$Controller", "giveGoesWell", "(LCommandBuses$Message;I)Z"⟩
  | 37 => ⟨"CommandBuses$Controller", "takeGoesWell", "(LCommandBuses$Message;I)Z"⟩
  | 38 => ⟨"CommandBuses$Controller", "passGoesWell", "(LCommandBuses$Message;I)Z"⟩
  | 39 => ⟨"CommandBuses$Controller", "tellAll", "(LCommandBuses$Message;I)V"⟩
  | 40 => ⟨"CommandBuses$Controller", "modeMessageGoesWell", "(LCommandBuses$Message;I)Z"⟩
  | 41 => ⟨"CommandBuses$Wires", "<init>", "()V"⟩
  | 42 => ⟨"CommandBuses$Wires", "arm", "(III)V"⟩
  | 43 => ⟨"CommandBuses$Wires", "carry", "(II)Z"⟩
  | 44 => ⟨"CommandBuses$Wires", "nextHit", "(I)I"⟩
  | 45 => ⟨"CommandBuses$Wires", "carryData", "(I[III)Z"⟩
  | 46 => ⟨"CommandBuses$Monitor", "<init>", "()V"⟩
  | 47 => ⟨"CommandBuses$Monitor", "write", "(I)V"⟩
  | 48 => ⟨"CommandBuses$Monitor", "latestBut", "(I)I"⟩
  | 49 => ⟨"CommandBuses$Terminal", "<init>", "(I)V"⟩
  | 50 => ⟨"CommandBuses$Terminal", "firstOf", "(I)I"⟩
  | 51 => ⟨"CommandBuses$Terminal", "sendDraft", "(I)V"⟩
  | 52 => ⟨"CommandBuses$Terminal", "valueReceived", "(II)I"⟩
  | 53 => ⟨"CommandBuses$Terminal", "status", "()I"⟩
  | 54 => ⟨"CommandBuses$Terminal", "obeyMode", "(II)Z"⟩
  | 55 => ⟨"CommandBuses$Terminal", "clearMarks", "()V"⟩
  | 56 => ⟨"CommandBuses$Terminal", "changeBy", "(II)V"⟩
  | 57 => ⟨"CommandBuses$Terminal", "obey", "(I)Z"⟩
  | 58 => ⟨"CommandBuses$Terminal", "receive", "(ZI[III)Z"⟩
  | 59 => ⟨"CommandBuses$Table", "<init>", "()V"⟩
  | 60 => ⟨"CommandBuses$Table", "add", "(LCommandBuses$Message;)I"⟩
  | 61 => ⟨"CommandBuses$Table", "find", "(I)LCommandBuses$Message;"⟩
  | 62 => ⟨"CommandBuses$Table", "fillFrames", "()I"⟩
  | 63 => ⟨"CommandBuses$Table", "bestPhase", "(LCommandBuses$Message;)I"⟩
  | 64 => ⟨"CommandBuses$Table", "greatestLoad", "(LCommandBuses$Message;I)I"⟩
  | 65 => ⟨"CommandBuses$Table", "addLength", "(LCommandBuses$Message;)V"⟩
  | 66 => ⟨"CommandBuses$Table", "takeFrame", "()I"⟩
  | 67 => ⟨"CommandBuses$Roster", "<init>", "()V"⟩
  | 68 => ⟨"CommandBuses$Roster", "takeBack", "(I)V"⟩
  | 69 => ⟨"CommandBuses$Roster", "hasDropped", "(LCommandBuses$Message;)Z"⟩
  | 70 => ⟨"CommandBuses$Roster", "note", "(LCommandBuses$Message;)V"⟩
  | 71 => ⟨"CommandBuses$Roster", "endFrame", "()V"⟩
  | 72 => ⟨"CommandBuses$Message", "<init>", "(IIIIII)V"⟩
  | 73 => ⟨"CommandBuses$Message", "isAt", "(II)Z"⟩
  | 74 => ⟨"CommandBuses$Message", "length", "()I"⟩
  | 75 => ⟨"CommandBuses$Message", "statuses", "()I"⟩
  | 76 => ⟨"CommandBuses$Message", "commands", "()I"⟩
  | 77 => ⟨"CommandBuses$Message", "dataWords", "()I"⟩
  | 78 => ⟨"CommandBuses$Message", "isIn", "(I)Z"⟩
  | 79 => ⟨"CommandBuses$Message", "isFor", "(I)Z"⟩
  | 80 => ⟨"CommandBusesModel", "<init>", "()V"⟩
  | 81 => ⟨"CommandBusesModel", "encode", "(ZI)J"⟩
  | 82 => ⟨"CommandBusesModel", "isValue", "(I)Z"⟩
  | 83 => ⟨"CommandBusesModel", "decode", "(J)I"⟩
  | 84 => ⟨"CommandBusesModel", "live", "(IZ)Z"⟩
  | 85 => ⟨"CommandBusesModel", "isTerminal", "(I)Z"⟩
  | 86 => ⟨"CommandBusesModel", "draft", "(IIII)Z"⟩
  | 87 => ⟨"CommandBusesModel", "isPlace", "(II)Z"⟩
  | 88 => ⟨"CommandBusesModel", "isIndex", "(I)Z"⟩
  | 89 => ⟨"CommandBusesModel", "place", "(II)I"⟩
  | 90 => ⟨"CommandBusesModel", "publish", "(II)Z"⟩
  | 91 => ⟨"CommandBusesModel", "received", "(III)I"⟩
  | 92 => ⟨"CommandBusesModel", "terminal", "(II)I"⟩
  | 93 => ⟨"CommandBusesModel", "statusOf", "(I)I"⟩
  | 94 => ⟨"CommandBusesModel", "message", "(IIIIII)I"⟩
  | 95 => ⟨"CommandBusesModel", "isCode", "(I)Z"⟩
  | 96 => ⟨"CommandBusesModel", "give", "(III)Z"⟩
  | 97 => ⟨"CommandBusesModel", "isMessage", "(I)Z"⟩
  | 98 => ⟨"CommandBusesModel", "taken", "(II)I"⟩
  | 99 => ⟨"CommandBusesModel", "seal", "(I)I"⟩
  | 100 => ⟨"CommandBusesModel", "worst", "(II)I"⟩
  | 101 => ⟨"CommandBusesModel", "loadOf", "(II)I"⟩
  | 102 => ⟨"CommandBusesModel", "isIn", "(II)Z"⟩
  | 103 => ⟨"CommandBusesModel", "lengthOf", "(I)I"⟩
  | 104 => ⟨"CommandBusesModel", "open", "()Z"⟩
  | 105 => ⟨"CommandBusesModel", "load", "(I)I"⟩
  | 106 => ⟨"CommandBusesModel", "fault", "(III)Z"⟩
  | 107 => ⟨"CommandBusesModel", "run", "()I"⟩
  | 108 => ⟨"CommandBusesModel", "poll", "()V"⟩
  | 109 => ⟨"CommandBusesModel", "commands", "(IIII)Z"⟩
  | 110 => ⟨"CommandBusesModel", "command", "(IIII)I"⟩
  | 111 => ⟨"CommandBusesModel", "put", "(IZI)I"⟩
  | 112 => ⟨"CommandBusesModel", "hears", "(IIIZZ)Z"⟩
  | 113 => ⟨"CommandBusesModel", "saysStatus", "(II)I"⟩
  | 114 => ⟨"CommandBusesModel", "says", "(IIZI)I"⟩
  | 115 => ⟨"CommandBusesModel", "isAside", "(I)Z"⟩
  | 116 => ⟨"CommandBusesModel", "isOf", "(II)Z"⟩
  | 117 => ⟨"CommandBusesModel", "does", "(I)V"⟩
  | 118 => ⟨"CommandBusesModel", "attempt", "(II)Z"⟩
  | 119 => ⟨"CommandBusesModel", "gives", "(II)Z"⟩
  | 120 => ⟨"CommandBusesModel", "dataWord", "(II)V"⟩
  | 121 => ⟨"CommandBusesModel", "takes", "(IIIZ)Z"⟩
  | 122 => ⟨"CommandBusesModel", "passes", "(II)Z"⟩
  | 123 => ⟨"CommandBusesModel", "answers", "(IIII)Z"⟩
  | 124 => ⟨"CommandBusesModel", "note", "(I)V"⟩
  | 125 => ⟨"CommandBusesModel", "outcome", "(I)I"⟩
  | 126 => ⟨"CommandBusesModel", "bus", "()I"⟩
  | 127 => ⟨"CommandBusesModel", "words", "()I"⟩
  | 128 => ⟨"CommandBusesModel", "heard", "(I)I"⟩
  | 129 => ⟨"CommandBuses$Coding", "halvesOf", "(ZI)J"⟩
  | 130 => ⟨"CommandBuses$Coding", "isOdd", "(I)Z"⟩
  | 131 => ⟨"CommandBuses$Coding", "wordOf", "(J)I"⟩
  | 132 => ⟨"CommandBuses$Commands", "mode", "(II)I"⟩
  | 133 => ⟨"CommandBuses$Commands", "toSend", "(III)I"⟩
  | 134 => ⟨"CommandBuses$Commands", "toReceive", "(III)I"⟩
  | 135 => ⟨"java/lang/Integer", "bitCount", "(I)I"⟩
  | 136 => ⟨"java/util/Arrays", "fill", "([II)V"⟩
  | _ => ⟨"", "", ""⟩
def cb_bt : Nat → ByteArray
  | 0 => code
  | 1 => prog_1_method_1_code
  | 2 => prog_1_method_2_code
  | 3 => prog_1_method_26_code
  | 4 => prog_1_method_3_code
  | 5 => prog_1_method_4_code
  | 6 => prog_1_method_22_code
  | 7 => prog_1_method_5_code
  | 8 => prog_1_method_24_code
  | 9 => prog_1_method_23_code
  | 10 => prog_1_method_25_code
  | 11 => prog_1_method_6_code
  | 12 => prog_1_method_7_code
  | 13 => prog_1_method_8_code
  | 14 => prog_1_method_9_code
  | 15 => prog_1_method_27_code
  | 16 => prog_1_method_29_code
  | 17 => prog_1_method_30_code
  | 18 => prog_1_method_28_code
  | 19 => prog_1_method_10_code
  | 20 => prog_1_method_11_code
  | 21 => prog_1_method_12_code
  | 22 => prog_1_method_13_code
  | 23 => prog_1_method_14_code
  | 24 => prog_1_method_15_code
  | 25 => prog_1_method_16_code
  | 26 => prog_1_method_21_code
  | 27 => prog_1_method_17_code
  | 28 => prog_1_method_18_code
  | 29 => prog_1_method_19_code
  | 30 => prog_1_method_20_code
  | 31 => prog_4_method_1_code
  | 32 => prog_4_method_3_code
  | 33 => prog_4_method_10_code
  | 34 => prog_4_method_2_code
  | 35 => prog_4_method_4_code
  | 36 => prog_4_method_5_code
  | 37 => prog_4_method_6_code
  | 38 => prog_4_method_7_code
  | 39 => prog_4_method_8_code
  | 40 => prog_4_method_9_code
  | 41 => prog_10_method_1_code
  | 42 => prog_10_method_2_code
  | 43 => prog_10_method_3_code
  | 44 => prog_10_method_5_code
  | 45 => prog_10_method_4_code
  | 46 => prog_6_method_1_code
  | 47 => prog_6_method_2_code
  | 48 => prog_6_method_3_code
  | 49 => prog_9_method_1_code
  | 50 => prog_9_method_2_code
  | 51 => prog_9_method_4_code
  | 52 => prog_9_method_5_code
  | 53 => prog_9_method_3_code
  | 54 => prog_9_method_7_code
  | 55 => prog_9_method_9_code
  | 56 => prog_9_method_8_code
  | 57 => prog_9_method_6_code
  | 58 => prog_9_method_10_code
  | 59 => prog_8_method_1_code
  | 60 => prog_8_method_2_code
  | 61 => prog_8_method_3_code
  | 62 => prog_8_method_5_code
  | 63 => prog_8_method_6_code
  | 64 => prog_8_method_7_code
  | 65 => prog_8_method_8_code
  | 66 => prog_8_method_4_code
  | 67 => prog_7_method_1_code
  | 68 => prog_7_method_3_code
  | 69 => prog_7_method_2_code
  | 70 => prog_7_method_4_code
  | 71 => prog_7_method_5_code
  | 72 => prog_5_method_1_code
  | 73 => prog_5_method_4_code
  | 74 => prog_5_method_5_code
  | 75 => prog_5_method_7_code
  | 76 => prog_5_method_6_code
  | 77 => prog_5_method_8_code
  | 78 => prog_5_method_3_code
  | 79 => prog_5_method_2_code
  | 80 => prog_12_method_1_code
  | 81 => prog_12_method_7_code
  | 82 => prog_12_method_4_code
  | 83 => prog_12_method_8_code
  | 84 => prog_12_method_10_code
  | 85 => prog_12_method_2_code
  | 86 => prog_12_method_11_code
  | 87 => prog_12_method_3_code
  | 88 => prog_12_method_5_code
  | 89 => prog_12_method_6_code
  | 90 => prog_12_method_12_code
  | 91 => prog_12_method_13_code
  | 92 => prog_12_method_15_code
  | 93 => prog_12_method_14_code
  | 94 => prog_12_method_29_code
  | 95 => prog_12_method_28_code
  | 96 => prog_12_method_31_code
  | 97 => prog_12_method_30_code
  | 98 => prog_12_method_32_code
  | 99 => prog_12_method_37_code
  | 100 => prog_12_method_36_code
  | 101 => prog_12_method_35_code
  | 102 => prog_12_method_34_code
  | 103 => prog_12_method_33_code
  | 104 => prog_12_method_38_code
  | 105 => prog_12_method_39_code
  | 106 => prog_12_method_40_code
  | 107 => prog_12_method_45_code
  | 108 => prog_12_method_43_code
  | 109 => prog_12_method_26_code
  | 110 => prog_12_method_22_code
  | 111 => prog_12_method_9_code
  | 112 => prog_12_method_18_code
  | 113 => prog_12_method_17_code
  | 114 => prog_12_method_16_code
  | 115 => prog_12_method_42_code
  | 116 => prog_12_method_41_code
  | 117 => prog_12_method_27_code
  | 118 => prog_12_method_23_code
  | 119 => prog_12_method_24_code
  | 120 => prog_12_method_20_code
  | 121 => prog_12_method_19_code
  | 122 => prog_12_method_25_code
  | 123 => prog_12_method_21_code
  | 124 => prog_12_method_44_code
  | 125 => prog_12_method_46_code
  | 126 => prog_12_method_47_code
  | 127 => prog_12_method_48_code
  | 128 => prog_12_method_49_code
  | 129 => prog_2_method_2_code
  | 130 => prog_2_method_4_code
  | 131 => prog_2_method_3_code
  | 132 => prog_3_method_4_code
  | 133 => prog_3_method_3_code
  | 134 => prog_3_method_2_code
  | 135 => prog_13_method_49_code
  | 136 => prog_16_method_103_code
  | _ => code
def cb_rT : Nat → Option FieldType
  | 0 => (Option.some FieldType.boolean)
  | 1 => (Option.none : Option FieldType)
  | 2 => (Option.some FieldType.long)
  | 3 => (Option.some FieldType.boolean)
  | 4 => (Option.some FieldType.int)
  | 5 => (Option.some FieldType.boolean)
  | 6 => (Option.some FieldType.boolean)
  | 7 => (Option.some FieldType.boolean)
  | 8 => (Option.some FieldType.boolean)
  | 9 => (Option.some FieldType.boolean)
  | 10 => (Option.some FieldType.boolean)
  | 11 => (Option.some FieldType.boolean)
  | 12 => (Option.some FieldType.int)
  | 13 => (Option.some FieldType.int)
  | 14 => (Option.some FieldType.int)
  | 15 => (Option.some FieldType.boolean)
  | 16 => (Option.some FieldType.boolean)
  | 17 => (Option.some FieldType.boolean)
  | 18 => (Option.some FieldType.boolean)
  | 19 => (Option.some FieldType.boolean)
  | 20 => (Option.some FieldType.int)
  | 21 => (Option.some FieldType.int)
  | 22 => (Option.some FieldType.boolean)
  | 23 => (Option.some FieldType.int)
  | 24 => (Option.some FieldType.boolean)
  | 25 => (Option.some FieldType.int)
  | 26 => (Option.none : Option FieldType)
  | 27 => (Option.some FieldType.int)
  | 28 => (Option.some FieldType.int)
  | 29 => (Option.some FieldType.int)
  | 30 => (Option.some FieldType.int)
  | 31 => (Option.none : Option FieldType)
  | 32 => (Option.some FieldType.boolean)
  | 33 => (Option.some FieldType.boolean)
  | 34 => (Option.some FieldType.int)
  | 35 => (Option.some FieldType.boolean)
  | 36 => (Option.some FieldType.boolean)
  | 37 => (Option.some FieldType.boolean)
  | 38 => (Option.some FieldType.boolean)
  | 39 => (Option.none : Option FieldType)
  | 40 => (Option.some FieldType.boolean)
  | 41 => (Option.none : Option FieldType)
  | 42 => (Option.none : Option FieldType)
  | 43 => (Option.some FieldType.boolean)
  | 44 => (Option.some FieldType.int)
  | 45 => (Option.some FieldType.boolean)
  | 46 => (Option.none : Option FieldType)
  | 47 => (Option.none : Option FieldType)
  | 48 => (Option.some FieldType.int)
  | 49 => (Option.none : Option FieldType)
  | 50 => (Option.some FieldType.int)
  | 51 => (Option.none : Option FieldType)
  | 52 => (Option.some FieldType.int)
  | 53 => (Option.some FieldType.int)
  | 54 => (Option.some FieldType.boolean)
  | 55 => (Option.none : Option FieldType)
  | 56 => (Option.none : Option FieldType)
  | 57 => (Option.some FieldType.boolean)
  | 58 => (Option.some FieldType.boolean)
  | 59 => (Option.none : Option FieldType)
  | 60 => (Option.some FieldType.int)
  | 61 => (Option.some (FieldType.object "CommandBuses$Message"))
  | 62 => (Option.some FieldType.int)
  | 63 => (Option.some FieldType.int)
  | 64 => (Option.some FieldType.int)
  | 65 => (Option.none : Option FieldType)
  | 66 => (Option.some FieldType.int)
  | 67 => (Option.none : Option FieldType)
  | 68 => (Option.none : Option FieldType)
  | 69 => (Option.some FieldType.boolean)
  | 70 => (Option.none : Option FieldType)
  | 71 => (Option.none : Option FieldType)
  | 72 => (Option.none : Option FieldType)
  | 73 => (Option.some FieldType.boolean)
  | 74 => (Option.some FieldType.int)
  | 75 => (Option.some FieldType.int)
  | 76 => (Option.some FieldType.int)
  | 77 => (Option.some FieldType.int)
  | 78 => (Option.some FieldType.boolean)
  | 79 => (Option.some FieldType.boolean)
  | 80 => (Option.none : Option FieldType)
  | 81 => (Option.some FieldType.long)
  | 82 => (Option.some FieldType.boolean)
  | 83 => (Option.some FieldType.int)
  | 84 => (Option.some FieldType.boolean)
  | 85 => (Option.some FieldType.boolean)
  | 86 => (Option.some FieldType.boolean)
  | 87 => (Option.some FieldType.boolean)
  | 88 => (Option.some FieldType.boolean)
  | 89 => (Option.some FieldType.int)
  | 90 => (Option.some FieldType.boolean)
  | 91 => (Option.some FieldType.int)
  | 92 => (Option.some FieldType.int)
  | 93 => (Option.some FieldType.int)
  | 94 => (Option.some FieldType.int)
  | 95 => (Option.some FieldType.boolean)
  | 96 => (Option.some FieldType.boolean)
  | 97 => (Option.some FieldType.boolean)
  | 98 => (Option.some FieldType.int)
  | 99 => (Option.some FieldType.int)
  | 100 => (Option.some FieldType.int)
  | 101 => (Option.some FieldType.int)
  | 102 => (Option.some FieldType.boolean)
  | 103 => (Option.some FieldType.int)
  | 104 => (Option.some FieldType.boolean)
  | 105 => (Option.some FieldType.int)
  | 106 => (Option.some FieldType.boolean)
  | 107 => (Option.some FieldType.int)
  | 108 => (Option.none : Option FieldType)
  | 109 => (Option.some FieldType.boolean)
  | 110 => (Option.some FieldType.int)
  | 111 => (Option.some FieldType.int)
  | 112 => (Option.some FieldType.boolean)
  | 113 => (Option.some FieldType.int)
  | 114 => (Option.some FieldType.int)
  | 115 => (Option.some FieldType.boolean)
  | 116 => (Option.some FieldType.boolean)
  | 117 => (Option.none : Option FieldType)
  | 118 => (Option.some FieldType.boolean)
  | 119 => (Option.some FieldType.boolean)
  | 120 => (Option.none : Option FieldType)
  | 121 => (Option.some FieldType.boolean)
  | 122 => (Option.some FieldType.boolean)
  | 123 => (Option.some FieldType.boolean)
  | 124 => (Option.none : Option FieldType)
  | 125 => (Option.some FieldType.int)
  | 126 => (Option.some FieldType.int)
  | 127 => (Option.some FieldType.int)
  | 128 => (Option.some FieldType.int)
  | 129 => (Option.some FieldType.long)
  | 130 => (Option.some FieldType.boolean)
  | 131 => (Option.some FieldType.int)
  | 132 => (Option.some FieldType.int)
  | 133 => (Option.some FieldType.int)
  | 134 => (Option.some FieldType.int)
  | 135 => (Option.some FieldType.int)
  | 136 => (Option.none : Option FieldType)
  | _ => none
end
section
/-! the words of the tables by their places -/
def cb_TB : List Cond := lw_tbl.filter goodWord
theorem tb_of {w : Cond} (i : Nat) (h : lw_tbl[i]? = some w) (g : goodWord w = true) : w ∈ cb_TB := List.mem_filter.mpr ⟨List.mem_of_getElem? h, g⟩
def cb_isN : Cond → Bool
  | .fieldLinkNest _ _ _ _ _ h => decide (h = "CommandBuses")
  | .methodLinkNest _ _ _ h => decide (h = "CommandBuses")
  | _ => false
def cb_nst (w : Cond) : Prop := w ∈ lw_tbl ∧ cb_isN w = true
theorem nst_of {w : Cond} (i : Nat) (h : lw_tbl[i]? = some w) (g : cb_isN w = true) : cb_nst w := ⟨List.mem_of_getElem? h, g⟩
theorem cb_PN : ∀ w, cb_nst w → (∃ (a : String) (i : Nat) (x n d : String), w = .fieldLinkNest a i x n d "CommandBuses") ∨ (∃ (a : String) (i : Nat) (x : MethodName), w = .methodLinkNest a i x "CommandBuses") := by
  intro w hw
  have h := hw.2
  unfold cb_isN at h
  split at h
  · rename_i a i x n d hh
    have h := of_decide_eq_true h
    subst h
    exact Or.inl ⟨_, _, _, _, _, rfl⟩
  · rename_i a i x hh
    have h := of_decide_eq_true h
    subst h
    exact Or.inr ⟨_, _, _, rfl⟩
  · cases h
def cb_ao (c : Nat) : Prop := c = 4 ∨ c = 7
theorem cb_PG : ∀ w ∈ cb_TB, (w.onTables && w.keeps) = true ∨ ∃ ty, w = .arrayClass ty := fun _ hw => good_of_word (List.mem_filter.mp hw).2
theorem ws_of {C : String} {T : u_T} {N : Nat} (ix : List Nat) (h : ∀ k, k < N → lw_tbl[ix.getD k 0]? = some (u_lay C T k) ∧ goodWord (u_lay C T k) = true) : ∀ w ∈ u_ws C T N, w ∈ cb_TB := by
  intro w hw
  obtain ⟨k, hk, rfl⟩ := List.mem_map.mp hw
  obtain ⟨h1, h2⟩ := h k (List.mem_range.mp hk)
  exact tb_of _ h1 h2
def cb_tyB (f : Nat) (ty : Option FieldType) : Bool := match ty with
  | some .int => f == 0
  | some .boolean => f == 1
  | some (.object _) => f == 2
  | some (.array _) => f == 2
  | _ => false
theorem cb_tyP {f : Nat} {ty : Option FieldType} (h : cb_tyB f ty = true) : ty = some (ty.getD .int) ∧ (f = 0 ∧ ty.getD .int = .int ∨ f = 1 ∧ ty.getD .int = .boolean ∨ f = 2 ∧ ((∃ C, ty.getD .int = .object C) ∨ ∃ t, ty.getD .int = .array t)) := by
  unfold cb_tyB at h
  split at h
  · exact ⟨rfl, Or.inl ⟨by simpa using h, rfl⟩⟩
  · exact ⟨rfl, Or.inr (Or.inl ⟨by simpa using h, rfl⟩)⟩
  · exact ⟨rfl, Or.inr (Or.inr ⟨by simpa using h, Or.inl ⟨_, rfl⟩⟩)⟩
  · exact ⟨rfl, Or.inr (Or.inr ⟨by simpa using h, Or.inr ⟨_, rfl⟩⟩)⟩
  · cases h
theorem cOK_of {c : Nat} (h1 : cb_cl[c]? = some (cb_cn c, cb_TT c, cb_nf c)) (ix : List Nat) (h2 : ∀ k, k < cb_nf c → lw_tbl[ix.getD k 0]? = some (u_lay (cb_cn c) (cb_TT c) k) ∧ goodWord (u_lay (cb_cn c) (cb_TT c) k) = true) (h3 : ∀ k, k < cb_nf c → cb_tyB (cb_fk c k) (parseFieldDescriptor (cb_TT c k).2.2.1) = true)
    (h4 : ∀ a, a < cb_nf c → ∀ b, b < cb_nf c → a ≠ b → (cb_TT c a).2.1 ≠ (cb_TT c b).2.1) (h5 : ∀ k, k < cb_nf c → (cb_TT c k).1 = cb_cn c) (h6 : Cond.instantiable (cb_cn c) (cb_nf c) ∈ cb_TB) (h7 : Cond.initialized (cb_cn c) ∈ cb_TB) : ex_cOK cb_G cb_cn cb_TT cb_cl cb_TB c :=
  ⟨h1, ws_of ix h2, ⟨fun k => (parseFieldDescriptor (cb_TT c k).2.2.1).getD .int, fun k hk => cb_tyP (h3 k hk)⟩, h4, h5, h6, h7⟩
theorem cok_0 : ex_cOK cb_G cb_cn cb_TT cb_cl cb_TB 0 := cOK_of rfl [226, 228, 230, 232, 234] (by decide +kernel) (by decide +kernel) (by decide +kernel) (by decide +kernel) (tb_of 56 (by decide +kernel) (by decide +kernel)) (tb_of 40 (by decide +kernel) (by decide +kernel))
theorem cok_1 : ex_cOK cb_G cb_cn cb_TT cb_cl cb_TB 1 := cOK_of rfl [165, 167, 169] (by decide +kernel) (by decide +kernel) (by decide +kernel) (by decide +kernel) (tb_of 64 (by decide +kernel) (by decide +kernel)) (tb_of 41 (by decide +kernel) (by decide +kernel))
theorem cok_2 : ex_cOK cb_G cb_cn cb_TT cb_cl cb_TB 2 := cOK_of rfl [102, 104, 106] (by decide +kernel) (by decide +kernel) (by decide +kernel) (by decide +kernel) (tb_of 72 (by decide +kernel) (by decide +kernel)) (tb_of 42 (by decide +kernel) (by decide +kernel))
theorem cok_3 : ex_cOK cb_G cb_cn cb_TT cb_cl cb_TB 3 := cOK_of rfl [87, 89, 91] (by decide +kernel) (by decide +kernel) (by decide +kernel) (by decide +kernel) (tb_of 78 (by decide +kernel) (by decide +kernel)) (tb_of 43 (by decide +kernel) (by decide +kernel))
theorem cok_4 : ex_cOK cb_G cb_cn cb_TT cb_cl cb_TB 4 := cOK_of rfl [135, 137, 139, 141, 143, 145, 147, 149, 151, 153, 155] (by decide +kernel) (by decide +kernel) (by decide +kernel) (by decide +kernel) (tb_of 109 (by decide +kernel) (by decide +kernel)) (tb_of 45 (by decide +kernel) (by decide +kernel))
theorem cok_5 : ex_cOK cb_G cb_cn cb_TT cb_cl cb_TB 5 := cOK_of rfl [189, 191, 193, 195, 197] (by decide +kernel) (by decide +kernel) (by decide +kernel) (by decide +kernel) (tb_of 173 (by decide +kernel) (by decide +kernel)) (tb_of 46 (by decide +kernel) (by decide +kernel))
theorem cok_6 : ex_cOK cb_G cb_cn cb_TT cb_cl cb_TB 6 := cOK_of rfl [212, 214, 216, 218] (by decide +kernel) (by decide +kernel) (by decide +kernel) (by decide +kernel) (tb_of 201 (by decide +kernel) (by decide +kernel)) (tb_of 47 (by decide +kernel) (by decide +kernel))
theorem cok_7 : ex_cOK cb_G cb_cn cb_TT cb_cl cb_TB 7 := cOK_of rfl [362, 364, 366, 368, 370, 372, 374, 376, 378] (by decide +kernel) (by decide +kernel) (by decide +kernel) (by decide +kernel) (tb_of 338 (by decide +kernel) (by decide +kernel)) (tb_of 52 (by decide +kernel) (by decide +kernel))
theorem cok_8 : ex_cOK cb_G cb_cn cb_TT cb_cl cb_TB 8 := cOK_of rfl [647, 649, 651, 653, 655, 657, 659, 661, 663, 665, 667, 669, 671, 673, 675, 677, 679, 681, 683, 685, 687, 689, 691, 693, 695, 697, 699, 701, 703, 705, 707, 709, 711, 713] (by decide +kernel) (by decide +kernel) (by decide +kernel) (by decide +kernel) (tb_of 608 (by decide +kernel) (by decide +kernel)) (tb_of 48 (by decide +kernel) (by decide +kernel))
end
section
def cb_h0 : ex_Hp := (0, 0, fun _ _ => 0, fun _ _ => none)
/-! the heap with n messages: I holds the ints of the system, J those of the reference (addresses 52 to 80) -/
def cb_PT : List (List (Option Nat)) := [[some 1, some 2, some 3, some 44, some 47], [some 2, some 3], [some 8, some 14, some 20, some 26, some 32, some 38], [some 4, some 6, some 7], [some 5], [], [], [], [none, none, none, none, none, none, some 9, some 10, some 11, some 12, some 13], [], [], [], [], [], [none, none, none, none, none, none, some 15, some 16, some 17, some 18, some 19], [], [], [], [], [], [none, none, none, none, none, none, some 21, some 22, some 23, some 24, some 25], [], [], [], [], [], [none, none, none, none, none, none, some 27, some 28, some 29, some 30, some 31], [], [], [], [], [], [none, none, none, none, none, none, some 33, some 34, some 35, some 36, some 37], [], [], [], [], [], [none, none, none, none, none, none, some 39, some 40, some 41, some 42, some 43], [], [], [], [], [], [some 45, some 46], [], [], [some 48, some 49, some 50, some 51], [], [], [], [], [some 53, some 54, some 55, none, some 56, some 57, some 58, some 59, some 60, some 61, some 62, some 63, some 64, some 65, some 66, some 67, some 68, none, some 69, some 70, some 71, some 72, some 73, some 74, some 75, some 76, some 77, none, some 78, none, none, some 79, none, some 80], [], [], [], [], [], [], [], [], [], [], [], [], [], [], [], [], [], [], [], [], [], [], [], [], [], [], [], []]
def PD (n : Nat) : ex_Pm := fun a k => if a = 45 then (if k < n then some (81 + 2 * k) else none) else if a < 81 then (cb_PT.getD a []).getD k none else if k = 6 ∧ a % 2 = 1 ∧ a < 81 + 2 * n then some (a + 1) else none
def mm (I J : ex_Mem) : ex_Mem := fun a k => if 52 ≤ a ∧ a < 81 then J a k else I a k
def mkH (n : Nat) (I J : ex_Mem) : ex_Hp := (81 + 2 * n, 939 + 13 * n, mm I J, PD n)
theorem mm_self (I : ex_Mem) : mm I I = I := by
  funext a k
  unfold mm
  split <;> rfl
theorem mm_r {I J : ex_Mem} {a k : Nat} (h : 52 ≤ a ∧ a < 81) : mm I J a k = J a k := if_pos h
theorem mm_c {I J : ex_Mem} {a k : Nat} (h : ¬ (52 ≤ a ∧ a < 81)) : mm I J a k = I a k := if_neg h
theorem mm_wr {I J : ex_Mem} {a k : Nat} {v : Int32} (h : 52 ≤ a ∧ a < 81) : ex_wI (mm I J) a k v = mm I (ex_wI J a k v) := by
  funext b j
  show (if b = a ∧ j = k then v else if 52 ≤ b ∧ b < 81 then J b j else I b j) = (if 52 ≤ b ∧ b < 81 then (if b = a ∧ j = k then v else J b j) else I b j)
  by_cases h1 : b = a ∧ j = k
  · rw [if_pos h1, if_pos (by rw [h1.1]; exact h), if_pos h1]
  · rw [if_neg h1, if_neg h1]
theorem mm_wc {I J : ex_Mem} {a k : Nat} {v : Int32} (h : ¬ (52 ≤ a ∧ a < 81)) : ex_wI (mm I J) a k v = mm (ex_wI I a k v) J := by
  funext b j
  show (if b = a ∧ j = k then v else if 52 ≤ b ∧ b < 81 then J b j else I b j) = (if 52 ≤ b ∧ b < 81 then J b j else (if b = a ∧ j = k then v else I b j))
  by_cases h1 : b = a ∧ j = k
  · rw [if_pos h1, if_neg (by rw [h1.1]; exact h), if_pos h1]
  · rw [if_neg h1, if_neg h1]
theorem mm_cpc {I J : ex_Mem} {a0 sp a dp n : Nat} (h : ¬ (52 ≤ a ∧ a < 81)) (h0 : ¬ (52 ≤ a0 ∧ a0 < 81)) : ex_copy (mm I J) a0 sp a dp n = mm (ex_copy I a0 sp a dp n) J := by
  funext b j
  have e : ∀ x, ¬ (52 ≤ x ∧ x < 81) → mm I J x = I x := fun x hx => by funext k; exact mm_c hx
  show (if b = a then va_cpy (mm I J a0) (mm I J a) sp dp n j else mm I J b j) = (if 52 ≤ b ∧ b < 81 then J b j else (if b = a then va_cpy (I a0) (I a) sp dp n j else I b j))
  by_cases h1 : b = a
  · rw [if_pos h1, e a0 h0, e a h, if_neg (by rw [h1]; exact h), if_pos h1]
  · rw [if_neg h1, if_neg h1]
    rfl
section XR
variable {L : Nat} {xs : Nat → Int32} {D mi pc pc' n : Nat} {lv st : List Value} {I J : ex_Mem} {Q : Option Value → ex_Hp → Prop}
/-- the reference's own int field -/
theorem xr_geti {i k : Nat} {z : Int} (hf : ex_look (ex_cd cb_G mi) pc = some (.getfield i)) (hl : ex_look (ex_lt cb_G (ex_ow cb_G mi)) i = some (0, 8, k, z)) (hn : k < 34) (hv : ¬ cb_fk 8 k = 2) (hpc : pc + 3 = pc') (kk : xx cb_G L xs D mi pc' lv (.int (J 52 k) :: st) (mkH n I J) Q) : xx cb_G L xs D mi pc lv (.ref 52 :: st) (mkH n I J) Q := by
  refine xx_get hf hl (by decide) rfl hn (show 52 < 81 + 2 * n by omega) (v := .int (J 52 k)) ?_ hpc kk
  show (if cb_fk 8 k = 2 then va_rf (PD n 52 k) else .int (mm I J 52 k)) = _
  rw [if_neg hv, mm_r (by decide)]
theorem xr_getp {i k q : Nat} {z : Int} (hf : ex_look (ex_cd cb_G mi) pc = some (.getfield i)) (hl : ex_look (ex_lt cb_G (ex_ow cb_G mi)) i = some (0, 8, k, z)) (hn : k < 34) (hv : cb_fk 8 k = 2) (hp : (cb_PT.getD 52 []).getD k none = some q) (hpc : pc + 3 = pc') (kk : xx cb_G L xs D mi pc' lv (.ref q :: st) (mkH n I J) Q) : xx cb_G L xs D mi pc lv (.ref 52 :: st) (mkH n I J) Q := by
  refine xx_get hf hl (by decide) rfl hn (show 52 < 81 + 2 * n by omega) (v := .ref q) ?_ hpc kk
  show (if cb_fk 8 k = 2 then va_rf (PD n 52 k) else .int (mm I J 52 k)) = _
  rw [if_pos hv]
  show va_rf ((cb_PT.getD 52 []).getD k none) = _
  rw [hp]; rfl
theorem xr_puti {i k : Nat} {z : Int} {v : Int32} (hf : ex_look (ex_cd cb_G mi) pc = some (.putfield i)) (hl : ex_look (ex_lt cb_G (ex_ow cb_G mi)) i = some (0, 8, k, 0)) (hn : k < 34) (hv : cb_fk 8 k = 0 ∨ cb_fk 8 k = 1 ∧ ex_b01 v = true) (hpc : pc + 3 = pc') (kk : xx cb_G L xs D mi pc' lv st (mkH n I (ex_wI J 52 k v)) Q) : xx cb_G L xs D mi pc lv (.int v :: .ref 52 :: st) (mkH n I J) Q := by
  refine xx_putI hf hl ⟨Or.inl rfl, Or.inl rfl⟩ rfl hn (show 52 < 81 + 2 * n by omega) hv hpc ?_
  have e : ex_hI (mkH n I J) 52 k v = mkH n I (ex_wI J 52 k v) := by
    show ((81 + 2 * n, 939 + 13 * n, ex_wI (mm I J) 52 k v, PD n) : ex_Hp) = _
    rw [mm_wr (by decide)]; rfl
  rw [e]
  exact kk
theorem xr_iald {a j m : Nat} {i : Int32} (hf : ex_look (ex_cd cb_G mi) pc = some .iaload) (hk : cb_kd a = (1, m)) (ha : 52 ≤ a ∧ a < 81) (hi : i = nI j) (hj : j < m) (hm : m < 2 ^ 31) (hpc : pc + 1 = pc') (kk : xx cb_G L xs D mi pc' lv (.int (J a j) :: st) (mkH n I J) Q) : xx cb_G L xs D mi pc lv (.int i :: .ref a :: st) (mkH n I J) Q :=
  xx_iald hf hk (show a < 81 + 2 * n by omega) (show a < 1000000 by omega) hi hj hm (mm_r ha) hpc kk
theorem xr_zald {a j m : Nat} {i : Int32} (hf : ex_look (ex_cd cb_G mi) pc = some .baload) (hk : cb_kd a = (2, m)) (ha : 52 ≤ a ∧ a < 81) (hi : i = nI j) (hj : j < m) (hm : m < 2 ^ 31) (hpc : pc + 1 = pc') (kk : xx cb_G L xs D mi pc' lv (.int (J a j) :: st) (mkH n I J) Q) : xx cb_G L xs D mi pc lv (.int i :: .ref a :: st) (mkH n I J) Q :=
  xx_zald hf hk (show a < 81 + 2 * n by omega) hi hj hm (mm_r ha) hpc kk
theorem mk_wr {a k : Nat} {v : Int32} (h : 52 ≤ a ∧ a < 81) : ex_hI (mkH n I J) a k v = mkH n I (ex_wI J a k v) := by
  show ((81 + 2 * n, 939 + 13 * n, ex_wI (mm I J) a k v, PD n) : ex_Hp) = _
  rw [mm_wr h]; rfl
theorem mk_wc {a k : Nat} {v : Int32} (h : ¬ (52 ≤ a ∧ a < 81)) : ex_hI (mkH n I J) a k v = mkH n (ex_wI I a k v) J := by
  show ((81 + 2 * n, 939 + 13 * n, ex_wI (mm I J) a k v, PD n) : ex_Hp) = _
  rw [mm_wc h]; rfl
theorem xr_iast {a j m : Nat} {i v : Int32} (hf : ex_look (ex_cd cb_G mi) pc = some .iastore) (hk : cb_kd a = (1, m)) (ha : 52 ≤ a ∧ a < 81) (hi : i = nI j) (hj : j < m) (hm : m < 2 ^ 31) (hpc : pc + 1 = pc') (kk : xx cb_G L xs D mi pc' lv st (mkH n I (ex_wI J a j v)) Q) : xx cb_G L xs D mi pc lv (.int v :: .int i :: .ref a :: st) (mkH n I J) Q := by
  refine xx_iast hf hk (show a < 81 + 2 * n by omega) hi hj hm hpc ?_
  rw [mk_wr ha]
  exact kk
theorem xr_zast {a j m : Nat} {i v : Int32} (hf : ex_look (ex_cd cb_G mi) pc = some .bastore) (hk : cb_kd a = (2, m)) (ha : 52 ≤ a ∧ a < 81) (hi : i = nI j) (hj : j < m) (hm : m < 2 ^ 31) (hv : ex_b01 v = true) (hpc : pc + 1 = pc') (kk : xx cb_G L xs D mi pc' lv st (mkH n I (ex_wI J a j v)) Q) : xx cb_G L xs D mi pc lv (.int v :: .int i :: .ref a :: st) (mkH n I J) Q := by
  refine xx_zast hf hk (show a < 81 + 2 * n by omega) hi hj hm hv hpc ?_
  rw [mk_wr ha]
  exact kk
/-- the system's cells -/
theorem xc_geti {i tag c k a : Nat} {z : Int} (hf : ex_look (ex_cd cb_G mi) pc = some (.getfield i)) (hl : ex_look (ex_lt cb_G (ex_ow cb_G mi)) i = some (tag, c, k, z)) (ht : tag ≤ 1) (hk : cb_kd a = (0, c)) (ha : ¬ (52 ≤ a ∧ a < 81)) (hs : a < 81 + 2 * n) (hn : k < cb_nf c) (hv : ¬ cb_fk c k = 2) (hpc : pc + 3 = pc') (kk : xx cb_G L xs D mi pc' lv (.int (I a k) :: st) (mkH n I J) Q) : xx cb_G L xs D mi pc lv (.ref a :: st) (mkH n I J) Q := by
  refine xx_get hf hl ht hk hn hs (v := .int (I a k)) ?_ hpc kk
  show (if cb_fk c k = 2 then va_rf (PD n a k) else .int (mm I J a k)) = _
  rw [if_neg hv, mm_c ha]
theorem xc_getp {i tag c k a q : Nat} {z : Int} (hf : ex_look (ex_cd cb_G mi) pc = some (.getfield i)) (hl : ex_look (ex_lt cb_G (ex_ow cb_G mi)) i = some (tag, c, k, z)) (ht : tag ≤ 1) (hk : cb_kd a = (0, c)) (hs : a < 81 + 2 * n) (hn : k < cb_nf c) (hv : cb_fk c k = 2) (hp : PD n a k = some q) (hpc : pc + 3 = pc') (kk : xx cb_G L xs D mi pc' lv (.ref q :: st) (mkH n I J) Q) : xx cb_G L xs D mi pc lv (.ref a :: st) (mkH n I J) Q := by
  refine xx_get hf hl ht hk hn hs (v := .ref q) ?_ hpc kk
  show (if cb_fk c k = 2 then va_rf (PD n a k) else .int (mm I J a k)) = _
  rw [if_pos hv, hp]; rfl
theorem xc_puti {i tag c k a : Nat} {v : Int32} (hf : ex_look (ex_cd cb_G mi) pc = some (.putfield i)) (hl : ex_look (ex_lt cb_G (ex_ow cb_G mi)) i = some (tag, c, k, 0)) (ht : tag ≤ 1) (hk : cb_kd a = (0, c)) (ha : ¬ (52 ≤ a ∧ a < 81)) (hs : a < 81 + 2 * n) (hn : k < cb_nf c) (hv : cb_fk c k = 0 ∨ cb_fk c k = 1 ∧ ex_b01 v = true) (hpc : pc + 3 = pc') (kk : xx cb_G L xs D mi pc' lv st (mkH n (ex_wI I a k v) J) Q) : xx cb_G L xs D mi pc lv (.int v :: .ref a :: st) (mkH n I J) Q := by
  refine xx_putI hf hl ⟨by omega, Or.inl rfl⟩ hk hn hs hv hpc ?_
  rw [mk_wc ha]
  exact kk
theorem xc_iald {a j m : Nat} {i : Int32} (hf : ex_look (ex_cd cb_G mi) pc = some .iaload) (hk : cb_kd a = (1, m)) (ha : ¬ (52 ≤ a ∧ a < 81)) (hs : a < 81 + 2 * n) (hs2 : a < 1000) (hi : i = nI j) (hj : j < m) (hm : m < 2 ^ 31) (hpc : pc + 1 = pc') (kk : xx cb_G L xs D mi pc' lv (.int (I a j) :: st) (mkH n I J) Q) : xx cb_G L xs D mi pc lv (.int i :: .ref a :: st) (mkH n I J) Q :=
  xx_iald hf hk hs (show a < 1000000 by omega) hi hj hm (mm_c ha) hpc kk
theorem xc_zald {a j m : Nat} {i : Int32} (hf : ex_look (ex_cd cb_G mi) pc = some .baload) (hk : cb_kd a = (2, m)) (ha : ¬ (52 ≤ a ∧ a < 81)) (hs : a < 81 + 2 * n) (hi : i = nI j) (hj : j < m) (hm : m < 2 ^ 31) (hpc : pc + 1 = pc') (kk : xx cb_G L xs D mi pc' lv (.int (I a j) :: st) (mkH n I J) Q) : xx cb_G L xs D mi pc lv (.int i :: .ref a :: st) (mkH n I J) Q :=
  xx_zald hf hk hs hi hj hm (mm_c ha) hpc kk
theorem xc_aald {a j m t q : Nat} {i : Int32} (hf : ex_look (ex_cd cb_G mi) pc = some .aaload) (hk : cb_kd a = (t + 3, m)) (hs : a < 81 + 2 * n) (hi : i = nI j) (hj : j < m) (hm : m < 2 ^ 31) (hp : PD n a j = some q) (hpc : pc + 1 = pc') (kk : xx cb_G L xs D mi pc' lv (.ref q :: st) (mkH n I J) Q) : xx cb_G L xs D mi pc lv (.int i :: .ref a :: st) (mkH n I J) Q :=
  xx_aald hf hk hs hi hj hm (show va_rf (PD n a j) = .ref q by rw [hp]; rfl) hpc kk
theorem xc_iast {a j m : Nat} {i v : Int32} (hf : ex_look (ex_cd cb_G mi) pc = some .iastore) (hk : cb_kd a = (1, m)) (ha : ¬ (52 ≤ a ∧ a < 81)) (hs : a < 81 + 2 * n) (hi : i = nI j) (hj : j < m) (hm : m < 2 ^ 31) (hpc : pc + 1 = pc') (kk : xx cb_G L xs D mi pc' lv st (mkH n (ex_wI I a j v) J) Q) : xx cb_G L xs D mi pc lv (.int v :: .int i :: .ref a :: st) (mkH n I J) Q := by
  refine xx_iast hf hk hs hi hj hm hpc ?_
  rw [mk_wc ha]
  exact kk
theorem xc_zast {a j m : Nat} {i v : Int32} (hf : ex_look (ex_cd cb_G mi) pc = some .bastore) (hk : cb_kd a = (2, m)) (ha : ¬ (52 ≤ a ∧ a < 81)) (hs : a < 81 + 2 * n) (hi : i = nI j) (hj : j < m) (hm : m < 2 ^ 31) (hv : ex_b01 v = true) (hpc : pc + 1 = pc') (kk : xx cb_G L xs D mi pc' lv st (mkH n (ex_wI I a j v) J) Q) : xx cb_G L xs D mi pc lv (.int v :: .int i :: .ref a :: st) (mkH n I J) Q := by
  refine xx_zast hf hk hs hi hj hm hv hpc ?_
  rw [mk_wc ha]
  exact kk
end XR
end
section
/-! a run that touches no script is the same for every script -/
theorem ex_mem_eq {G : ex_G} {K : Nat} {xs xs0 : Nat → Int32} {d mi : Nat} {st : List Value} {h : ex_Hp} {ins : Instr} (h1 : ins ≠ .iaload) (h2 : ins ≠ .arraylength) : ex_mem G K xs d mi st h ins = ex_mem G 0 xs0 d mi st h ins := by
  cases ins <;> first | rfl | exact absurd rfl h1 | exact absurd rfl h2
theorem ex_mem_any {G : ex_G} {K : Nat} {xs xs0 : Nat → Int32} {d mi : Nat} {st : List Value} {h : ex_Hp} {ins : Instr} {r : ex_Mr} (hm : ex_mem G 0 xs0 d mi st h ins = some r) : ex_mem G K xs d mi st h ins = some r := by
  by_cases h1 : ins = .iaload
  · subst h1
    obtain ⟨i, t, rfl, q1⟩ := ex_pi_some (show ex_pi st _ = some _ from hm)
    obtain ⟨a, u, rfl, q2⟩ := ex_pa_some q1
    have q2 : (if a = ex_scr then (if ex_in i 0 = true then some (Value.int (xs0 i.toNatClampNeg) :: u, h) else none) else if a < h.1 ∧ (ex_kd G a).1 = 1 ∧ ex_in i (ex_kd G a).2 = true then some (.int (h.2.2.1 a i.toNatClampNeg) :: u, h) else none) = some r := q2
    show (if a = ex_scr then (if ex_in i (K - 1) = true then some (Value.int (xs i.toNatClampNeg) :: u, h) else none) else if a < h.1 ∧ (ex_kd G a).1 = 1 ∧ ex_in i (ex_kd G a).2 = true then some (.int (h.2.2.1 a i.toNatClampNeg) :: u, h) else none) = some r
    by_cases ha : a = ex_scr
    · rw [if_pos ha, if_neg (by simp [ex_in])] at q2
      cases q2
    · rw [if_neg ha] at q2 ⊢
      exact q2
  · by_cases h2 : ins = .arraylength
    · subst h2
      obtain ⟨a, u, rfl, q2⟩ := ex_pa_some (show ex_pa st _ = some _ from hm)
      have q2 : (if a = ex_scr then none else if a < h.1 ∧ 1 ≤ (ex_kd G a).1 then some (Value.int (nI (ex_kd G a).2) :: u, h) else none) = some r := q2
      show (if a = ex_scr then (if K = 0 then none else some (Value.int (nI (K - 1)) :: u, h)) else if a < h.1 ∧ 1 ≤ (ex_kd G a).1 then some (Value.int (nI (ex_kd G a).2) :: u, h) else none) = some r
      by_cases ha : a = ex_scr
      · rw [if_pos ha] at q2
        cases q2
      · rw [if_neg ha] at q2 ⊢
        exact q2
    · rw [ex_mem_eq (xs0 := xs0) h1 h2]
      exact hm
theorem ex_run_any {G : ex_G} {K : Nat} {xs xs0 : Nat → Int32} : ∀ (f d mi pc : Nat) (lv st : List Value) (h : ex_Hp) (r : Option Value × ex_Hp), ex_run G 0 xs0 f d mi pc lv st h = some r → ex_run G K xs f d mi pc lv st h = some r := by
  intro f
  induction f with
  | zero => intro d mi pc lv st h r hx; cases hx
  | succ f ih =>
    intro d mi pc lv st h r hx
    unfold ex_run at hx ⊢
    cases hl : ex_look (ex_cd G mi) pc with
    | none => rw [hl] at hx; cases hx
    | some ins =>
      rw [hl] at hx
      dsimp only at hx ⊢
      cases hs : ex_step G 0 xs0 d mi pc lv st h ins with
      | some q =>
        obtain ⟨⟨pc', lv', st'⟩, h'⟩ := q
        rw [hs] at hx
        have hs2 : ex_step G K xs d mi pc lv st h ins = some ((pc', lv', st'), h') := by
          unfold ex_step at hs ⊢
          split at hs
          · rename_i hp
            exact hs
          · split at hs
            · rename_i hm
              rw [ex_mem_any hm]
              exact hs
            · cases hs
        rw [hs2]
        exact ih _ _ _ _ _ _ _ hx
      | none =>
        rw [hs] at hx
        dsimp only at hx
        have key : ex_ret G mi st ins ≠ none ∨ ex_call G mi st h ins ≠ none := by
          cases hr : ex_ret G mi st ins with
          | some v => exact Or.inl (fun q => by cases q)
          | none =>
            rw [hr] at hx
            dsimp only at hx
            cases hc : ex_call G mi st h ins with
            | some v => exact Or.inr (fun q => by cases q)
            | none => rw [hc] at hx; cases hx
        have n1 : ins ≠ .iaload := fun q => by
          subst q
          rcases key with k | k <;> exact k rfl
        have n2 : ins ≠ .arraylength := fun q => by
          subst q
          rcases key with k | k <;> exact k rfl
        have hs2 : ex_step G K xs d mi pc lv st h ins = none := by
          unfold ex_step at hs ⊢
          rw [ex_mem_eq (xs0 := xs0) n1 n2]
          exact hs
        rw [hs2]
        dsimp only
        cases hr : ex_ret G mi st ins with
        | some v => rw [hr] at hx; exact hx
        | none =>
          rw [hr] at hx
          dsimp only at hx ⊢
          cases hc : ex_call G mi st h ins with
          | none => rw [hc] at hx; cases hx
          | some v =>
            obtain ⟨y, as, u⟩ := v
            rw [hc] at hx
            dsimp only at hx ⊢
            cases d with
            | zero => cases hx
            | succ d' =>
              dsimp only at hx ⊢
              cases hq : ex_run G 0 xs0 f d' y 0 (ex_ent (ex_mx G y) as) [] h with
              | none => rw [hq] at hx; cases hx
              | some w =>
                rw [hq] at hx
                rw [ih _ _ _ _ _ _ _ hq]
                exact ih _ _ _ _ _ _ _ hx
/-- the makings, run by the kernel -/
def cb_c0 : Option (Option Value × ex_Hp) := ex_run cb_G 0 (fun _ => 0) 300 10 1 0 (ex_ent 1 [.ref 0]) [] (ex_hN cb_h0 5)
theorem cb_c0_ok : (cb_c0.map fun r => (r.1, r.2.1, r.2.2.1)) = some (none, 52, 441) := by decide +kernel
def cb_h1 : ex_Hp := (cb_c0.getD (none, cb_h0)).2
theorem cb_c0_is : cb_c0 = some (none, cb_h1) := by
  have h := cb_c0_ok
  cases hc : cb_c0 with
  | none => rw [hc] at h; cases h
  | some r =>
    rw [hc] at h
    have h1 : r.1 = none := congrArg (fun q : Option Value × Nat × Nat => q.1) (Option.some.inj h)
    have h2 : cb_h1 = r.2 := by unfold cb_h1; rw [hc]; rfl
    rw [h2, ← h1]
theorem cb_h1_ok : cb_h1.1 = 52 ∧ cb_h1.2.1 = 441 := by decide +kernel
def cb_c1 : Option (Option Value × ex_Hp) := ex_run cb_G 0 (fun _ => 0) 300 10 80 0 (ex_ent 1 [.ref 52]) [] (ex_hN cb_h1 34)
theorem cb_c1_ok : (cb_c1.map fun r => (r.1, r.2.1, r.2.2.1)) = some (none, 81, 939) := by decide +kernel
def cb_h2 : ex_Hp := (cb_c1.getD (none, cb_h0)).2
theorem cb_c1_is : cb_c1 = some (none, cb_h2) := by
  have h := cb_c1_ok
  cases hc : cb_c1 with
  | none => rw [hc] at h; cases h
  | some r =>
    rw [hc] at h
    have h1 : r.1 = none := congrArg (fun q : Option Value × Nat × Nat => q.1) (Option.some.inj h)
    have h2 : cb_h2 = r.2 := by unfold cb_h2; rw [hc]; rfl
    rw [h2, ← h1]
theorem cb_h2_ok : cb_h2.1 = 81 ∧ cb_h2.2.1 = 939 := by decide +kernel
theorem cb_h2_P : ∀ a, a < 81 → ∀ k, k < 40 → cb_h2.2.2.2 a k = PD 0 a k := by decide +kernel
end
section
/-- no reference lies outside the cells that are, or beyond place 40 -/
def ex_sup (h : ex_Hp) : Prop := ∀ a k, (h.1 ≤ a ∨ 40 ≤ k) → h.2.2.2 a k = none
theorem ex_sup_P {h : ex_Hp} {a k : Nat} {v : Option Nat} (hs : ex_sup h) (ha : a < h.1) (hk : k < 40) : ex_sup (ex_hP h a k v) := by
  intro b j hb
  show (if b = a ∧ j = k then v else h.2.2.2 b j) = none
  have hb : h.1 ≤ b ∨ 40 ≤ j := hb
  rw [if_neg (by omega)]
  exact hs b j hb
theorem ex_sup_N {h : ex_Hp} {n : Nat} (hs : ex_sup h) : ex_sup (ex_hN h n) := by
  intro b j hb
  show (if b = h.1 then none else h.2.2.2 b j) = none
  have hb : h.1 + 1 ≤ b ∨ 40 ≤ j := hb
  split
  · rfl
  · exact hs b j (by omega)
theorem ex_in_lt {i : Int32} {n : Nat} (h : ex_in i n = true) : i.toNatClampNeg < n := by
  have h2 : ¬ (i < 0 ∨ n ≤ i.toNatClampNeg) := of_decide_eq_true h
  omega
theorem ex_mem_sup {G : ex_G} (hG1 : ∀ c, ex_nf G c ≤ 40) (hG2 : ∀ i t n, ex_kd G i = (t + 3, n) → n ≤ 40) {K : Nat} {xs : Nat → Int32} {d mi : Nat} {st st' : List Value} {h h' : ex_Hp} {ins : Instr} (hx : ex_mem G K xs d mi st h ins = some (st', h')) (hs : ex_sup h) : ex_sup h' := by
  cases ins with
  | getfield i =>
    simp only [ex_mem] at hx
    split at hx
    · split at hx
      · obtain ⟨a, t, rfl, q⟩ := ex_pa_some hx
        split at q
        · cases q; exact hs
        · cases q
      · cases hx
    · cases hx
  | putfield i =>
    simp only [ex_mem] at hx
    split at hx
    · rename_i tag c k z hlk
      split at hx
      · split at hx
        · obtain ⟨v, t, rfl, q1⟩ := ex_pn_some hx
          obtain ⟨a, u, rfl, q2⟩ := ex_pa_some q1
          split at q2
          · rename_i hc
            cases q2
            exact ex_sup_P hs hc.1 (Nat.lt_of_lt_of_le hc.2.2 (hG1 c))
          · cases q2
        · obtain ⟨v, t, rfl, q1⟩ := ex_pi_some hx
          obtain ⟨a, u, rfl, q2⟩ := ex_pa_some q1
          split at q2
          · cases q2; exact hs
          · cases q2
      · cases hx
    · cases hx
  | iaload =>
    simp only [ex_mem] at hx
    obtain ⟨i, t, rfl, q1⟩ := ex_pi_some hx
    obtain ⟨a, u, rfl, q2⟩ := ex_pa_some q1
    split at q2
    · split at q2
      · cases q2; exact hs
      · cases q2
    · split at q2
      · cases q2; exact hs
      · cases q2
  | baload =>
    simp only [ex_mem] at hx
    obtain ⟨i, t, rfl, q1⟩ := ex_pi_some hx
    obtain ⟨a, u, rfl, q2⟩ := ex_pa_some q1
    split at q2
    · cases q2; exact hs
    · cases q2
  | aaload =>
    simp only [ex_mem] at hx
    obtain ⟨i, t, rfl, q1⟩ := ex_pi_some hx
    obtain ⟨a, u, rfl, q2⟩ := ex_pa_some q1
    split at q2
    · cases q2; exact hs
    · cases q2
  | iastore =>
    simp only [ex_mem] at hx
    obtain ⟨x, s1, rfl, q0⟩ := ex_pi_some hx
    obtain ⟨i, t, rfl, q1⟩ := ex_pi_some q0
    obtain ⟨a, u, rfl, q2⟩ := ex_pa_some q1
    split at q2
    · cases q2; exact hs
    · cases q2
  | bastore =>
    simp only [ex_mem] at hx
    obtain ⟨x, s1, rfl, q0⟩ := ex_pi_some hx
    obtain ⟨i, t, rfl, q1⟩ := ex_pi_some q0
    obtain ⟨a, u, rfl, q2⟩ := ex_pa_some q1
    split at q2
    · cases q2; exact hs
    · cases q2
  | aastore =>
    simp only [ex_mem] at hx
    obtain ⟨x, s1, rfl, q0⟩ := ex_pa_some hx
    obtain ⟨i, t, rfl, q1⟩ := ex_pi_some q0
    obtain ⟨a, u, rfl, q2⟩ := ex_pa_some q1
    split at q2
    · rename_i hc
      obtain ⟨c1, c2, c3, c4, c5⟩ := hc
      cases q2
      have hk : ex_kd G a = ((ex_kd G x).2 + 3, (ex_kd G a).2) := by rw [Nat.add_comm, ← c3]
      exact ex_sup_P hs c1 (Nat.lt_of_lt_of_le (ex_in_lt c5) (hG2 a _ _ hk))
    · cases q2
  | arraylength =>
    simp only [ex_mem] at hx
    obtain ⟨a, u, rfl, q2⟩ := ex_pa_some hx
    split at q2
    · split at q2
      · cases q2
      · cases q2; exact hs
    · split at q2
      · cases q2; exact hs
      · cases q2
  | newarray ty =>
    simp only [ex_mem] at hx
    obtain ⟨n, u, rfl, q2⟩ := ex_pi_some hx
    split at q2
    · cases q2; exact ex_sup_N hs
    · cases q2
  | anewarray i =>
    simp only [ex_mem] at hx
    split at hx
    · obtain ⟨n, u, rfl, q2⟩ := ex_pi_some hx
      split at q2
      · cases q2; exact ex_sup_N hs
      · cases q2
    · cases hx
  | new i =>
    simp only [ex_mem] at hx
    split at hx
    · split at hx
      · cases hx; exact ex_sup_N hs
      · cases hx
    · cases hx
  | ldc i =>
    simp only [ex_mem] at hx
    split at hx
    · split at hx
      · cases hx; exact hs
      · cases hx
    · cases hx
  | ldc_w i =>
    simp only [ex_mem] at hx
    split at hx
    · split at hx
      · cases hx; exact hs
      · cases hx
    · cases hx
  | ldc2_w i =>
    simp only [ex_mem] at hx
    split at hx
    · split at hx
      · cases hx; exact hs
      · cases hx
    · cases hx
  | invokespecial i =>
    simp only [ex_mem] at hx
    split at hx
    · split at hx
      · obtain ⟨a, u, rfl, q2⟩ := ex_pa_some hx
        split at q2
        · cases q2; exact hs
        · cases q2
      · cases hx
    · cases hx
  | invokestatic i =>
    simp only [ex_mem] at hx
    split at hx
    · split at hx
      · obtain ⟨n, s1, rfl, q1⟩ := ex_pi_some hx
        obtain ⟨dp, s2, rfl, q2⟩ := ex_pi_some q1
        obtain ⟨a, s3, rfl, q3⟩ := ex_pa_some q2
        obtain ⟨sp, s4, rfl, q4⟩ := ex_pi_some q3
        obtain ⟨a0, u, rfl, q5⟩ := ex_pa_some q4
        split at q5
        · cases q5; exact hs
        · cases q5
      · split at hx
        · obtain ⟨y, s1, rfl, q1⟩ := ex_pi_some hx
          obtain ⟨x, u, rfl, q2⟩ := ex_pi_some q1
          split at q2
          · cases q2; exact hs
          · cases q2
        · cases hx
    · cases hx
  | _ => exact absurd (show (none : Option ex_Mr) = some _ from hx) (fun q => by cases q)
theorem ex_run_sup {G : ex_G} (hG1 : ∀ c, ex_nf G c ≤ 40) (hG2 : ∀ i t n, ex_kd G i = (t + 3, n) → n ≤ 40) {K : Nat} {xs : Nat → Int32} : ∀ (f d mi pc : Nat) (lv st : List Value) (h : ex_Hp) (r : Option Value) (h' : ex_Hp), ex_run G K xs f d mi pc lv st h = some (r, h') → ex_sup h → ex_sup h' := by
  intro f
  induction f with
  | zero => intro d mi pc lv st h r h' hx; cases hx
  | succ f ih =>
    intro d mi pc lv st h r h' hx hs
    unfold ex_run at hx
    split at hx
    · cases hx
    · split at hx
      · rename_i hst
        refine ih _ _ _ _ _ _ _ _ hx ?_
        unfold ex_step at hst
        split at hst
        · cases hst; exact hs
        · split at hst
          · rename_i hm
            split at hst
            · cases hst; exact ex_mem_sup hG1 hG2 hm hs
            · cases hst
          · cases hst
      · split at hx
        · cases hx; exact hs
        · split at hx
          · cases hx
          · split at hx
            · cases hx
            · split at hx
              · cases hx
              · rename_i hc
                exact ih _ _ _ _ _ _ _ _ hx (ih _ _ _ _ _ _ _ _ hc hs)
theorem cb_nf40 : ∀ c, ex_nf cb_G c ≤ 40 := by
  intro c
  show cb_nf c ≤ 40
  unfold cb_nf
  split <;> decide
theorem cb_kd40L : ∀ q ∈ cb_kdL, q.2 ≤ 40 ∨ q.1 < 3 := by decide +kernel
theorem cb_kd40 : ∀ i t n, ex_kd cb_G i = (t + 3, n) → n ≤ 40 := by
  intro i t n h
  have h : cb_kdL.getD i (1, 0) = (t + 3, n) := h
  rw [List.getD_eq_getElem?_getD] at h
  cases hq : cb_kdL[i]? with
  | none => rw [hq] at h; cases h
  | some q =>
    rw [hq] at h
    have h : q = (t + 3, n) := h
    subst h
    rcases cb_kd40L _ (List.mem_of_getElem? hq) with h | h
    · exact h
    · exact absurd h (by show ¬ t + 3 < 3; omega)
theorem cb_h0_sup : ex_sup cb_h0 := fun _ _ _ => rfl
theorem cb_h2_sup : ex_sup cb_h2 := by
  have h1 : ex_sup cb_h1 := ex_run_sup cb_nf40 cb_kd40 _ _ _ _ _ _ _ _ _ cb_c0_is (ex_sup_N cb_h0_sup)
  exact ex_run_sup cb_nf40 cb_kd40 _ _ _ _ _ _ _ _ _ cb_c1_is (ex_sup_N h1)
theorem PD0_out {a k : Nat} (h : 81 ≤ a ∨ 40 ≤ k) : PD 0 a k = none := by
  unfold PD
  by_cases h1 : a = 45
  · rw [if_pos h1, if_neg (by omega)]
  · rw [if_neg h1]
    by_cases h2 : a < 81
    · rw [if_pos h2]
      have hk : 40 ≤ k := by omega
      have hl : ∀ a, a < 81 → (cb_PT.getD a []).length ≤ 40 := by decide +kernel
      rw [List.getD_eq_getElem?_getD, List.getElem?_eq_none (Nat.le_trans (hl a h2) hk)]
      rfl
    · rw [if_neg h2, if_neg (by omega)]
/-- the heap behind both makings -/
theorem cb_h2_eq : cb_h2 = mkH 0 cb_h2.2.2.1 cb_h2.2.2.1 := by
  have hP : cb_h2.2.2.2 = PD 0 := by
    funext a k
    by_cases h : 81 ≤ a ∨ 40 ≤ k
    · rw [PD0_out h]
      exact cb_h2_sup a k (by rw [cb_h2_ok.1]; exact h)
    · exact cb_h2_P a (by omega) k (by omega)
  show cb_h2 = (81, 939, mm cb_h2.2.2.1 cb_h2.2.2.1, PD 0)
  rw [mm_self, ← hP, ← cb_h2_ok.1, ← cb_h2_ok.2]
end
section
/-! calls with exact answers; small numbers -/
def bI (P : Prop) (d : Decidable P) : Int32 := @ite Int32 P d (nI 1) (nI 0)
section XCL
variable {L : Nat} {xs : Nat → Int32} {D mi pc pc' : Nat} {lv st : List Value} {h h' : ex_Hp} {Q : Option Value → ex_Hp → Prop}
def ri (L : Nat) (xs : Nat → Int32) (D y : Nat) (as : List Value) (h : ex_Hp) (v : Int32) (h' : ex_Hp) : Prop := rn cb_G L xs D y as h (fun r h1 => r = some (.int v) ∧ h1 = h')
def rl (L : Nat) (xs : Nat → Int32) (D y : Nat) (as : List Value) (h : ex_Hp) (v : Int64) (h' : ex_Hp) : Prop := rn cb_G L xs D y as h (fun r h1 => r = some (.long v) ∧ h1 = h')
def rp (L : Nat) (xs : Nat → Int32) (D y : Nat) (as : List Value) (h : ex_Hp) (v : Option Nat) (h' : ex_Hp) : Prop := rn cb_G L xs D y as h (fun r h1 => r = some (va_rf v) ∧ h1 = h')
def ro (L : Nat) (xs : Nat → Int32) (D y : Nat) (as : List Value) (h h' : ex_Hp) : Prop := rn cb_G L xs D y as h (fun r h1 => r = none ∧ h1 = h')
section V
variable {i tag y n a : Nat} {z : Int} {as u : List Value} (hf : ex_look (ex_cd cb_G mi) pc = some (.invokevirtual i)) (hl : ex_look (ex_lt cb_G (ex_ow cb_G mi)) i = some (tag, y, n, z)) (ht : tag = 2 ∨ tag = 3) (hst : ex_args n st = some (as, .ref a :: u)) (hk : cb_kd a = (0, ex_ow cb_G y)) (ha : a < h.1) (hu : (u.map fun v => v.category).sum ≤ 8) (hfit : ex_fit cb_G y (.ref a :: as) = true) (hpc : pc + 3 = pc')
theorem xx_callVi {v : Int32} (hf : ex_look (ex_cd cb_G mi) pc = some (.invokevirtual i)) (hl : ex_look (ex_lt cb_G (ex_ow cb_G mi)) i = some (tag, y, n, z)) (ht : tag = 2 ∨ tag = 3) (hst : ex_args n st = some (as, .ref a :: u)) (hk : cb_kd a = (0, ex_ow cb_G y)) (ha : a < h.1) (hu : (u.map fun v => v.category).sum ≤ 8) (hfit : ex_fit cb_G y (.ref a :: as) = true) (hpc : pc + 3 = pc')
    (hy : ri L xs D y (.ref a :: as) h v h') (kk : xx cb_G L xs (D + 1) mi pc' lv (.int v :: u) h' Q) : xx cb_G L xs (D + 1) mi pc lv st h Q :=
  xx_callV hf hl ht hst hk ha hu hfit hpc hy (fun r h1 q => by obtain ⟨rfl, rfl⟩ := q; exact kk)
theorem xx_callVr {v : Option Nat} (hf : ex_look (ex_cd cb_G mi) pc = some (.invokevirtual i)) (hl : ex_look (ex_lt cb_G (ex_ow cb_G mi)) i = some (tag, y, n, z)) (ht : tag = 2 ∨ tag = 3) (hst : ex_args n st = some (as, .ref a :: u)) (hk : cb_kd a = (0, ex_ow cb_G y)) (ha : a < h.1) (hu : (u.map fun v => v.category).sum ≤ 8) (hfit : ex_fit cb_G y (.ref a :: as) = true) (hpc : pc + 3 = pc')
    (hy : rp L xs D y (.ref a :: as) h v h') (kk : xx cb_G L xs (D + 1) mi pc' lv (va_rf v :: u) h' Q) : xx cb_G L xs (D + 1) mi pc lv st h Q :=
  xx_callV hf hl ht hst hk ha hu hfit hpc hy (fun r h1 q => by obtain ⟨rfl, rfl⟩ := q; exact kk)
theorem xx_callVl {v : Int64} (hf : ex_look (ex_cd cb_G mi) pc = some (.invokevirtual i)) (hl : ex_look (ex_lt cb_G (ex_ow cb_G mi)) i = some (tag, y, n, z)) (ht : tag = 2 ∨ tag = 3) (hst : ex_args n st = some (as, .ref a :: u)) (hk : cb_kd a = (0, ex_ow cb_G y)) (ha : a < h.1) (hu : (u.map fun v => v.category).sum ≤ 8) (hfit : ex_fit cb_G y (.ref a :: as) = true) (hpc : pc + 3 = pc')
    (hy : rl L xs D y (.ref a :: as) h v h') (kk : xx cb_G L xs (D + 1) mi pc' lv (.long v :: u) h' Q) : xx cb_G L xs (D + 1) mi pc lv st h Q :=
  xx_callV hf hl ht hst hk ha hu hfit hpc hy (fun r h1 q => by obtain ⟨rfl, rfl⟩ := q; exact kk)
theorem xx_callVv (hf : ex_look (ex_cd cb_G mi) pc = some (.invokevirtual i)) (hl : ex_look (ex_lt cb_G (ex_ow cb_G mi)) i = some (tag, y, n, z)) (ht : tag = 2 ∨ tag = 3) (hst : ex_args n st = some (as, .ref a :: u)) (hk : cb_kd a = (0, ex_ow cb_G y)) (ha : a < h.1) (hu : (u.map fun v => v.category).sum ≤ 8) (hfit : ex_fit cb_G y (.ref a :: as) = true) (hpc : pc + 3 = pc')
    (hy : ro L xs D y (.ref a :: as) h h') (kk : xx cb_G L xs (D + 1) mi pc' lv u h' Q) : xx cb_G L xs (D + 1) mi pc lv st h Q :=
  xx_callV hf hl ht hst hk ha hu hfit hpc hy (fun r h1 q => by obtain ⟨rfl, rfl⟩ := q; exact kk)
theorem xx_callSi {v : Int32} (hf : ex_look (ex_cd cb_G mi) pc = some (.invokestatic i)) (hl : ex_look (ex_lt cb_G (ex_ow cb_G mi)) i = some (tag, y, n, z)) (ht : tag = 4 ∨ tag = 5) (hst : ex_args n st = some (as, u)) (hu : (u.map fun v => v.category).sum ≤ 8) (hfit : ex_fit cb_G y as = true) (hpc : pc + 3 = pc')
    (hy : ri L xs D y as h v h') (kk : xx cb_G L xs (D + 1) mi pc' lv (.int v :: u) h' Q) : xx cb_G L xs (D + 1) mi pc lv st h Q :=
  xx_callS hf hl ht hst hu hfit hpc hy (fun r h1 q => by obtain ⟨rfl, rfl⟩ := q; exact kk)
theorem xx_callSl {v : Int64} (hf : ex_look (ex_cd cb_G mi) pc = some (.invokestatic i)) (hl : ex_look (ex_lt cb_G (ex_ow cb_G mi)) i = some (tag, y, n, z)) (ht : tag = 4 ∨ tag = 5) (hst : ex_args n st = some (as, u)) (hu : (u.map fun v => v.category).sum ≤ 8) (hfit : ex_fit cb_G y as = true) (hpc : pc + 3 = pc')
    (hy : rl L xs D y as h v h') (kk : xx cb_G L xs (D + 1) mi pc' lv (.long v :: u) h' Q) : xx cb_G L xs (D + 1) mi pc lv st h Q :=
  xx_callS hf hl ht hst hu hfit hpc hy (fun r h1 q => by obtain ⟨rfl, rfl⟩ := q; exact kk)
theorem xx_callSv (hf : ex_look (ex_cd cb_G mi) pc = some (.invokestatic i)) (hl : ex_look (ex_lt cb_G (ex_ow cb_G mi)) i = some (tag, y, n, z)) (ht : tag = 4 ∨ tag = 5) (hst : ex_args n st = some (as, u)) (hu : (u.map fun v => v.category).sum ≤ 8) (hfit : ex_fit cb_G y as = true) (hpc : pc + 3 = pc')
    (hy : ro L xs D y as h h') (kk : xx cb_G L xs (D + 1) mi pc' lv u h' Q) : xx cb_G L xs (D + 1) mi pc lv st h Q :=
  xx_callS hf hl ht hst hu hfit hpc hy (fun r h1 q => by obtain ⟨rfl, rfl⟩ := q; exact kk)
end V
end XCL
theorem ix_add (a b : Nat) : nI a + nI b = nI (a + b) := by
  unfold nI
  rw [Int32.ofNat_add]
theorem ix_mul (a b : Nat) : nI a * nI b = nI (a * b) := by
  unfold nI
  rw [Int32.ofNat_mul]
theorem ix_pred (a : Nat) : nI (a + 1) - nI 1 = nI a := by
  rw [← ix_add]
  exact Int32.add_sub_cancel _ _
theorem b01_0 : ex_b01 (nI 0) = true := by decide
theorem b01_1 : ex_b01 (nI 1) = true := by decide
theorem wI_get {I : ex_Mem} {a k b j : Nat} {v : Int32} : ex_wI I a k v b j = if b = a ∧ j = k then v else I b j := rfl
theorem nI_lit {a b : Nat} (ha : a < 2147483648) (hb : b < 2147483648) : (nI a = nI b) = (a = b) := by
  apply propext
  refine ⟨fun h => ?_, fun h => by rw [h]⟩
  have h1 := congrArg Int32.toInt h
  rw [nI_toInt ha, nI_toInt hb] at h1
  omega
theorem nI_lit0 {a : Nat} (ha : a < 2147483648) : (nI a = 0) = (a = 0) := nI_lit (b := 0) ha (by decide)
theorem xi_iincv {G : ex_G} {L : Nat} {xs : Nat → Int32} {D mi pc pc' : Nat} {lv lv' st : List Value} {h : ex_Hp} {Q : Option Value → ex_Hp → Prop} {i k : Nat} {x y : Int32} (hf : ex_look (ex_cd G mi) pc = some (.iinc i (.ofNat k))) (hl : lv[i]? = some (.int x)) (hv : x + nI k = y) (hs : ex_st1 lv i (.int y) = some lv') (hpc : pc + 3 = pc') (kk : xx G L xs D mi pc' lv' st h Q) : xx G L xs D mi pc lv st h Q := by
  subst hv
  exact xi_iinc hf hl hs hpc kk
end
section
theorem r_isTerminal {L : Nat} {xs : Nat → Int32} {D n : Nat} {I J : ex_Mem} (t : Int32) : ri L xs D 85 [.int t] (mkH n I J) (if 0 ≤ t ∧ t < nI 6 then nI 1 else nI 0) (mkH n I J) := by
  show xx cb_G _ _ _ 85 0 [.int t] [] _ _
  refine xi_iload_n (pc' := 1) rfl rfl rfl ?_
  refine xx_if (pc' := 4) (tg := 14) rfl rfl rfl (fun q1 => ?_) (fun q1 => ?_)
  · refine xi_iconst (pc' := 15) rfl rfl ?_
    refine xx_zreturn rfl rfl (by first | rfl | assumption | exact b01_bI | simp [ex_b01, bI]) ?_
    refine ⟨congrArg (fun v => some (Value.int v)) ?_, ?_⟩
    · first | with_reducible rfl | (simp only [ex_P] at *; simp only [*, ↓reduceIte]; done) | (simp only [ex_P, Int32.lt_iff_toInt_lt, Int32.le_iff_toInt_le] at *; split <;> first | with_reducible rfl | (exfalso; omega))
    · first | with_reducible rfl | (simp only [ex_P] at *; simp only [*, ↓reduceIte]; done) | rfl
  · refine xi_iload_n (pc' := 5) rfl rfl rfl ?_
    refine xi_bipush (pc' := 7) rfl (by decide) rfl ?_
    refine xx_icmp (pc' := 10) (tg := 14) rfl rfl rfl (fun q7 => ?_) (fun q7 => ?_)
    · refine xi_iconst (pc' := 15) rfl rfl ?_
      refine xx_zreturn rfl rfl (by first | rfl | assumption | exact b01_bI | simp [ex_b01, bI]) ?_
      refine ⟨congrArg (fun v => some (Value.int v)) ?_, ?_⟩
      · first | with_reducible rfl | (simp only [ex_P] at *; simp only [*, ↓reduceIte]; done) | (simp only [ex_P, Int32.lt_iff_toInt_lt, Int32.le_iff_toInt_le] at *; split <;> first | with_reducible rfl | (exfalso; omega))
      · first | with_reducible rfl | (simp only [ex_P] at *; simp only [*, ↓reduceIte]; done) | rfl
    · refine xi_iconst (pc' := 11) rfl rfl ?_
      refine xi_goto (pc' := 15) rfl rfl ?_
      refine xx_zreturn rfl rfl (by first | rfl | assumption | exact b01_bI | simp [ex_b01, bI]) ?_
      refine ⟨congrArg (fun v => some (Value.int v)) ?_, ?_⟩
      · first | with_reducible rfl | (simp only [ex_P] at *; simp only [*, ↓reduceIte]; done) | (simp only [ex_P, Int32.lt_iff_toInt_lt, Int32.le_iff_toInt_le] at *; split <;> first | with_reducible rfl | (exfalso; omega))
      · first | with_reducible rfl | (simp only [ex_P] at *; simp only [*, ↓reduceIte]; done) | rfl
theorem r_isIndex {L : Nat} {xs : Nat → Int32} {D n : Nat} {I J : ex_Mem} (t : Int32) : ri L xs D 88 [.int t] (mkH n I J) (if 0 ≤ t ∧ t < nI 4 then nI 1 else nI 0) (mkH n I J) := by
  show xx cb_G _ _ _ 88 0 [.int t] [] _ _
  refine xi_iload_n (pc' := 1) rfl rfl rfl ?_
  refine xx_if (pc' := 4) (tg := 13) rfl rfl rfl (fun q1 => ?_) (fun q1 => ?_)
  · refine xi_iconst (pc' := 14) rfl rfl ?_
    refine xx_zreturn rfl rfl (by first | rfl | assumption | exact b01_bI | simp [ex_b01, bI]) ?_
    refine ⟨congrArg (fun v => some (Value.int v)) ?_, ?_⟩
    · first | with_reducible rfl | (simp only [ex_P] at *; simp only [*, ↓reduceIte]; done) | (simp only [ex_P, Int32.lt_iff_toInt_lt, Int32.le_iff_toInt_le] at *; split <;> first | with_reducible rfl | (exfalso; omega))
    · first | with_reducible rfl | (simp only [ex_P] at *; simp only [*, ↓reduceIte]; done) | rfl
  · refine xi_iload_n (pc' := 5) rfl rfl rfl ?_
    refine xi_iconst (pc' := 6) rfl rfl ?_
    refine xx_icmp (pc' := 9) (tg := 13) rfl rfl rfl (fun q6 => ?_) (fun q6 => ?_)
    · refine xi_iconst (pc' := 14) rfl rfl ?_
      refine xx_zreturn rfl rfl (by first | rfl | assumption | exact b01_bI | simp [ex_b01, bI]) ?_
      refine ⟨congrArg (fun v => some (Value.int v)) ?_, ?_⟩
      · first | with_reducible rfl | (simp only [ex_P] at *; simp only [*, ↓reduceIte]; done) | (simp only [ex_P, Int32.lt_iff_toInt_lt, Int32.le_iff_toInt_le] at *; split <;> first | with_reducible rfl | (exfalso; omega))
      · first | with_reducible rfl | (simp only [ex_P] at *; simp only [*, ↓reduceIte]; done) | rfl
    · refine xi_iconst (pc' := 10) rfl rfl ?_
      refine xi_goto (pc' := 14) rfl rfl ?_
      refine xx_zreturn rfl rfl (by first | rfl | assumption | exact b01_bI | simp [ex_b01, bI]) ?_
      refine ⟨congrArg (fun v => some (Value.int v)) ?_, ?_⟩
      · first | with_reducible rfl | (simp only [ex_P] at *; simp only [*, ↓reduceIte]; done) | (simp only [ex_P, Int32.lt_iff_toInt_lt, Int32.le_iff_toInt_le] at *; split <;> first | with_reducible rfl | (exfalso; omega))
      · first | with_reducible rfl | (simp only [ex_P] at *; simp only [*, ↓reduceIte]; done) | rfl
theorem r_isValue {L : Nat} {xs : Nat → Int32} {D n : Nat} {I J : ex_Mem} (t : Int32) : ri L xs D 82 [.int t] (mkH n I J) (if 0 ≤ t ∧ t ≤ nI 65535 then nI 1 else nI 0) (mkH n I J) := by
  show xx cb_G _ _ _ 82 0 [.int t] [] _ _
  refine xi_iload_n (pc' := 1) rfl rfl rfl ?_
  refine xx_if (pc' := 4) (tg := 14) rfl rfl rfl (fun q1 => ?_) (fun q1 => ?_)
  · refine xi_iconst (pc' := 15) rfl rfl ?_
    refine xx_zreturn rfl rfl (by first | rfl | assumption | exact b01_bI | simp [ex_b01, bI]) ?_
    refine ⟨congrArg (fun v => some (Value.int v)) ?_, ?_⟩
    · first | with_reducible rfl | (simp only [ex_P] at *; simp only [*, ↓reduceIte]; done) | (simp only [ex_P, Int32.lt_iff_toInt_lt, Int32.le_iff_toInt_le] at *; split <;> first | with_reducible rfl | (exfalso; omega))
    · first | with_reducible rfl | (simp only [ex_P] at *; simp only [*, ↓reduceIte]; done) | rfl
  · refine xi_iload_n (pc' := 5) rfl rfl rfl ?_
    refine xx_ldc (v := nI 65535) (pc' := 7) rfl rfl (by decide) rfl ?_
    refine xx_icmp (pc' := 10) (tg := 14) rfl rfl rfl (fun q7 => ?_) (fun q7 => ?_)
    · refine xi_iconst (pc' := 15) rfl rfl ?_
      refine xx_zreturn rfl rfl (by first | rfl | assumption | exact b01_bI | simp [ex_b01, bI]) ?_
      refine ⟨congrArg (fun v => some (Value.int v)) ?_, ?_⟩
      · first | with_reducible rfl | (simp only [ex_P] at *; simp only [*, ↓reduceIte]; done) | (simp only [ex_P, Int32.lt_iff_toInt_lt, Int32.le_iff_toInt_le] at *; split <;> first | with_reducible rfl | (exfalso; omega))
      · first | with_reducible rfl | (simp only [ex_P] at *; simp only [*, ↓reduceIte]; done) | rfl
    · refine xi_iconst (pc' := 11) rfl rfl ?_
      refine xi_goto (pc' := 15) rfl rfl ?_
      refine xx_zreturn rfl rfl (by first | rfl | assumption | exact b01_bI | simp [ex_b01, bI]) ?_
      refine ⟨congrArg (fun v => some (Value.int v)) ?_, ?_⟩
      · first | with_reducible rfl | (simp only [ex_P] at *; simp only [*, ↓reduceIte]; done) | (simp only [ex_P, Int32.lt_iff_toInt_lt, Int32.le_iff_toInt_le] at *; split <;> first | with_reducible rfl | (exfalso; omega))
      · first | with_reducible rfl | (simp only [ex_P] at *; simp only [*, ↓reduceIte]; done) | rfl
def r_st (J : ex_Mem) (t : Nat) : Int32 := nI 2048 * nI t + (if J 62 t = 0 then nI 0 else nI 1024) + (if J 63 t = 0 then nI 0 else nI 16)
theorem r_statusOf {L : Nat} {xs : Nat → Int32} {D n : Nat} {I J : ex_Mem} {t : Nat} (ht : t < 6) : ri L xs D 93 [.ref 52, .int (nI t)] (mkH n I J) (r_st J t) (mkH n I J) := by
  show xx cb_G _ _ _ 93 0 [.ref 52, .int (nI t)] [] _ _
  refine xi_sipush (pc' := 3) rfl (by decide) rfl ?_
  refine xi_iload_n (pc' := 4) rfl rfl rfl ?_
  refine xi_imul (pc' := 5) rfl rfl ?_
  refine xi_aload_n (pc' := 6) rfl rfl rfl ?_
  refine xr_getp (pc' := 9) rfl rfl (by decide) rfl rfl rfl ?_
  refine xi_iload_n (pc' := 10) rfl rfl rfl ?_
  refine xr_zald (j := t) (pc' := 11) rfl rfl (by decide) (by first | rfl | (simp only [ix_add, ix_mul, ix_pred]; done) | (simp only [ix_add, ix_mul, ix_pred, *]; done)) (by omega) (by decide) rfl ?_
  refine xx_if (pc' := 14) (tg := 20) rfl rfl rfl (fun q11 => ?_) (fun q11 => ?_)
  · refine xi_iconst (pc' := 21) rfl rfl ?_
    refine xi_iadd (pc' := 22) rfl rfl ?_
    refine xi_aload_n (pc' := 23) rfl rfl rfl ?_
    refine xr_getp (pc' := 26) rfl rfl (by decide) rfl rfl rfl ?_
    refine xi_iload_n (pc' := 27) rfl rfl rfl ?_
    refine xr_zald (j := t) (pc' := 28) rfl rfl (by decide) (by first | rfl | (simp only [ix_add, ix_mul, ix_pred]; done) | (simp only [ix_add, ix_mul, ix_pred, *]; done)) (by omega) (by decide) rfl ?_
    refine xx_if (pc' := 31) (tg := 36) rfl rfl rfl (fun q28 => ?_) (fun q28 => ?_)
    · refine xi_iconst (pc' := 37) rfl rfl ?_
      refine xi_iadd (pc' := 38) rfl rfl ?_
      refine xx_ireturn rfl rfl ?_
      simp only [ex_P, Classical.not_not, ↓reduceIte, or_true, true_or, not_true_eq_false, not_false_eq_true, or_false, false_or, wI_get, false_and, true_and, and_true, and_false, and_self, Nat.reduceEqDiff, Nat.succ_ne_zero, reduceCtorEq, nI_lit, nI_lit0, Nat.reduceLT] at *
      first | (simp only [r_st, *, ↓reduceIte, or_true, true_or, not_true_eq_false, not_false_eq_true, or_false, false_or, wI_get, false_and, true_and, and_true, and_false, and_self, Nat.reduceEqDiff, Nat.succ_ne_zero, reduceCtorEq, nI_lit, nI_lit0, Nat.reduceLT]; done) | (exfalso; simp_all only [↓reduceIte, or_true, true_or, not_true_eq_false, not_false_eq_true, or_false, false_or, wI_get, false_and, true_and, and_true, and_false, and_self, Nat.reduceEqDiff, Nat.succ_ne_zero, reduceCtorEq, nI_lit, nI_lit0, Nat.reduceLT]; done)
    · refine xi_bipush (pc' := 33) rfl (by decide) rfl ?_
      refine xi_goto (pc' := 37) rfl rfl ?_
      refine xi_iadd (pc' := 38) rfl rfl ?_
      refine xx_ireturn rfl rfl ?_
      simp only [ex_P, Classical.not_not, ↓reduceIte, or_true, true_or, not_true_eq_false, not_false_eq_true, or_false, false_or, wI_get, false_and, true_and, and_true, and_false, and_self, Nat.reduceEqDiff, Nat.succ_ne_zero, reduceCtorEq, nI_lit, nI_lit0, Nat.reduceLT] at *
      first | (simp only [r_st, *, ↓reduceIte, or_true, true_or, not_true_eq_false, not_false_eq_true, or_false, false_or, wI_get, false_and, true_and, and_true, and_false, and_self, Nat.reduceEqDiff, Nat.succ_ne_zero, reduceCtorEq, nI_lit, nI_lit0, Nat.reduceLT]; done) | (exfalso; simp_all only [↓reduceIte, or_true, true_or, not_true_eq_false, not_false_eq_true, or_false, false_or, wI_get, false_and, true_and, and_true, and_false, and_self, Nat.reduceEqDiff, Nat.succ_ne_zero, reduceCtorEq, nI_lit, nI_lit0, Nat.reduceLT]; done)
  · refine xi_sipush (pc' := 17) rfl (by decide) rfl ?_
    refine xi_goto (pc' := 21) rfl rfl ?_
    refine xi_iadd (pc' := 22) rfl rfl ?_
    refine xi_aload_n (pc' := 23) rfl rfl rfl ?_
    refine xr_getp (pc' := 26) rfl rfl (by decide) rfl rfl rfl ?_
    refine xi_iload_n (pc' := 27) rfl rfl rfl ?_
    refine xr_zald (j := t) (pc' := 28) rfl rfl (by decide) (by first | rfl | (simp only [ix_add, ix_mul, ix_pred]; done) | (simp only [ix_add, ix_mul, ix_pred, *]; done)) (by omega) (by decide) rfl ?_
    refine xx_if (pc' := 31) (tg := 36) rfl rfl rfl (fun q28 => ?_) (fun q28 => ?_)
    · refine xi_iconst (pc' := 37) rfl rfl ?_
      refine xi_iadd (pc' := 38) rfl rfl ?_
      refine xx_ireturn rfl rfl ?_
      simp only [ex_P, Classical.not_not, ↓reduceIte, or_true, true_or, not_true_eq_false, not_false_eq_true, or_false, false_or, wI_get, false_and, true_and, and_true, and_false, and_self, Nat.reduceEqDiff, Nat.succ_ne_zero, reduceCtorEq, nI_lit, nI_lit0, Nat.reduceLT] at *
      first | (simp only [r_st, *, ↓reduceIte, or_true, true_or, not_true_eq_false, not_false_eq_true, or_false, false_or, wI_get, false_and, true_and, and_true, and_false, and_self, Nat.reduceEqDiff, Nat.succ_ne_zero, reduceCtorEq, nI_lit, nI_lit0, Nat.reduceLT]; done) | (exfalso; simp_all only [↓reduceIte, or_true, true_or, not_true_eq_false, not_false_eq_true, or_false, false_or, wI_get, false_and, true_and, and_true, and_false, and_self, Nat.reduceEqDiff, Nat.succ_ne_zero, reduceCtorEq, nI_lit, nI_lit0, Nat.reduceLT]; done)
    · refine xi_bipush (pc' := 33) rfl (by decide) rfl ?_
      refine xi_goto (pc' := 37) rfl rfl ?_
      refine xi_iadd (pc' := 38) rfl rfl ?_
      refine xx_ireturn rfl rfl ?_
      simp only [ex_P, Classical.not_not, ↓reduceIte, or_true, true_or, not_true_eq_false, not_false_eq_true, or_false, false_or, wI_get, false_and, true_and, and_true, and_false, and_self, Nat.reduceEqDiff, Nat.succ_ne_zero, reduceCtorEq, nI_lit, nI_lit0, Nat.reduceLT] at *
      first | (simp only [r_st, *, ↓reduceIte, or_true, true_or, not_true_eq_false, not_false_eq_true, or_false, false_or, wI_get, false_and, true_and, and_true, and_false, and_self, Nat.reduceEqDiff, Nat.succ_ne_zero, reduceCtorEq, nI_lit, nI_lit0, Nat.reduceLT]; done) | (exfalso; simp_all only [↓reduceIte, or_true, true_or, not_true_eq_false, not_false_eq_true, or_false, false_or, wI_get, false_and, true_and, and_true, and_false, and_self, Nat.reduceEqDiff, Nat.succ_ne_zero, reduceCtorEq, nI_lit, nI_lit0, Nat.reduceLT]; done)
theorem r_place {L : Nat} {xs : Nat → Int32} {D n : Nat} {I J : ex_Mem} (t s : Nat) : ri L xs D 89 [.int (nI t), .int (nI (s + 1))] (mkH n I J) (nI (12 * t + 4 * s)) (mkH n I J) := by
  show xx cb_G _ _ _ 89 0 [.int (nI t), .int (nI (s + 1))] [] _ _
  refine xi_bipush (pc' := 2) rfl (by decide) rfl ?_
  refine xi_iload_n (pc' := 3) rfl rfl rfl ?_
  refine xi_imul (pc' := 4) rfl rfl ?_
  refine xi_iconst (pc' := 5) rfl rfl ?_
  refine xi_iload_n (pc' := 6) rfl rfl rfl ?_
  refine xi_iconst (pc' := 7) rfl rfl ?_
  refine xi_isub (pc' := 8) rfl rfl ?_
  refine xi_imul (pc' := 9) rfl rfl ?_
  refine xi_iadd (pc' := 10) rfl rfl ?_
  refine xx_ireturn rfl rfl ?_
  exact ⟨congrArg (fun v => some (Value.int v)) (by simp only [ix_add, ix_mul, ix_pred]), rfl⟩
theorem r_command {L : Nat} {xs : Nat → Int32} {D n : Nat} {I J : ex_Mem} (t u s k : Int32) : ri L xs D 110 [.int t, .int u, .int s, .int k] (mkH n I J) (nI 2048 * t + nI 1024 * u + nI 32 * s + k) (mkH n I J) := by
  show xx cb_G _ _ _ 110 0 [.int t, .int u, .int s, .int k] [] _ _
  refine xi_sipush (pc' := 3) rfl (by decide) rfl ?_
  refine xi_iload_n (pc' := 4) rfl rfl rfl ?_
  refine xi_imul (pc' := 5) rfl rfl ?_
  refine xi_sipush (pc' := 8) rfl (by decide) rfl ?_
  refine xi_iload_n (pc' := 9) rfl rfl rfl ?_
  refine xi_imul (pc' := 10) rfl rfl ?_
  refine xi_iadd (pc' := 11) rfl rfl ?_
  refine xi_bipush (pc' := 13) rfl (by decide) rfl ?_
  refine xi_iload_n (pc' := 14) rfl rfl rfl ?_
  refine xi_imul (pc' := 15) rfl rfl ?_
  refine xi_iadd (pc' := 16) rfl rfl ?_
  refine xi_iload_n (pc' := 17) rfl rfl rfl ?_
  refine xi_iadd (pc' := 18) rfl rfl ?_
  refine xx_ireturn rfl rfl ?_
  refine ⟨congrArg (fun v => some (Value.int v)) ?_, ?_⟩
  · first | with_reducible rfl | (simp only [ex_P] at *; simp only [*, ↓reduceIte]; done) | (simp only [ex_P, Int32.lt_iff_toInt_lt, Int32.le_iff_toInt_le] at *; split <;> first | with_reducible rfl | (exfalso; omega))
  · first | with_reducible rfl | (simp only [ex_P] at *; simp only [*, ↓reduceIte]; done) | rfl
/-- how many words were heard -/
def hwOf (J : ex_Mem) : Nat := (J 52 3).toNatClampNeg
def hwB (N : Nat) (J : ex_Mem) : Prop := J 52 3 = nI (hwOf J) ∧ hwOf J ≤ N
theorem ix_0 (x : Int32) : x + nI 0 = x := Int32.add_zero x
theorem ix_rem {a b : Nat} (ha : a < 2 ^ 31) (hb : b < 2 ^ 31) (h0 : 0 < b) : nI a - nI a / nI b * nI b = nI (a % b) := pk_rem ha h0 hb
def r_bm (b : Nat) : Int32 := if nI b = nI 1 then nI 262144 else nI 0
def r_put (J : ex_Mem) (b : Nat) (w : Int32) : Int32 × ex_Mem :=
  if J 53 b = 0 ∨ ¬ J 55 b = 0 then (nI 1, ex_wI (ex_wI (ex_wI J 55 b (J 55 b - nI 1)) 56 (hwOf J % 60) (w + r_bm b)) 52 3 (J 52 3 + nI 1))
  else if J 54 b = nI 2 then (nI 0, J)
  else if J 54 b = nI 1 then (nI 2, ex_wI (ex_wI (ex_wI (ex_wI J 55 b (J 55 b - nI 1)) 53 b (nI 0)) 56 (hwOf J % 60) (w + nI 131072 + r_bm b)) 52 3 (J 52 3 + nI 1))
  else (nI 0, ex_wI (ex_wI J 55 b (J 55 b - nI 1)) 53 b (nI 0))
theorem r_put_d {L : Nat} {xs : Nat → Int32} {D n : Nat} {I J : ex_Mem} {b N : Nat} {d v : Int32} (hb : b < 2) (hh : J 52 3 = nI (hwOf J)) (h31 : hwOf J < 2 ^ 31) : ri L xs D 111 [.ref 52, .int (nI b), .int d, .int v] (mkH n I J) ((r_put J b (v + (if d = 0 then nI 0 else nI 65536))).1) (mkH n I (r_put J b (v + (if d = 0 then nI 0 else nI 65536))).2) := by
  show xx cb_G _ _ _ 111 0 [.ref 52, .int (nI b), .int d, .int v, ex_no, ex_no] [] _ _
  refine xi_aload_n (pc' := 1) rfl rfl rfl ?_
  refine xr_getp (pc' := 4) rfl rfl (by decide) rfl rfl rfl ?_
  refine xi_iload_n (pc' := 5) rfl rfl rfl ?_
  refine xr_zald (j := b) (pc' := 6) rfl rfl (by decide) (by first | rfl | (simp only [ix_add, ix_mul, ix_pred]; done) | (simp only [ix_add, ix_mul, ix_pred, *]; done)) (by omega) (by decide) rfl ?_
  refine xx_if (pc' := 9) (tg := 22) rfl rfl rfl (fun q6 => ?_) (fun q6 => ?_)
  · refine xi_iconst (pc' := 23) rfl rfl ?_
    refine xi_istore (pc' := 25) rfl (st1_4 rfl) rfl ?_
    refine xi_iload (pc' := 27) rfl rfl rfl ?_
    refine xi_ift (pc' := 44) rfl rfl (by decide) ?_
    refine xi_iconst (pc' := 45) rfl rfl ?_
    refine xi_istore (pc' := 47) rfl (st1_5 rfl) rfl ?_
    refine xi_iload (pc' := 49) rfl rfl rfl ?_
    refine xi_iff (pc' := 52) (tg := 62) rfl rfl (by decide) rfl ?_
    refine xi_aload_n (pc' := 53) rfl rfl rfl ?_
    refine xr_getp (pc' := 56) rfl rfl (by decide) rfl rfl rfl ?_
    refine xi_iload_n (pc' := 57) rfl rfl rfl ?_
    refine xi_dup2 (pc' := 58) rfl rfl rfl rfl ?_
    refine xr_iald (j := b) (pc' := 59) rfl rfl (by decide) (by first | rfl | (simp only [ix_add, ix_mul, ix_pred]; done) | (simp only [ix_add, ix_mul, ix_pred, *]; done)) (by omega) (by decide) rfl ?_
    refine xi_iconst (pc' := 60) rfl rfl ?_
    refine xi_isub (pc' := 61) rfl rfl ?_
    refine xr_iast (j := b) (pc' := 62) rfl rfl (by decide) (by first | rfl | (simp only [ix_add, ix_mul, ix_pred]; done) | (simp only [ix_add, ix_mul, ix_pred, *]; done)) (by omega) (by decide) rfl ?_
    refine xi_iload (pc' := 64) rfl rfl rfl ?_
    refine xi_ift (pc' := 79) rfl rfl (by decide) ?_
    refine xi_iload (pc' := 81) rfl rfl rfl ?_
    refine xi_ift (pc' := 96) rfl rfl (by decide) ?_
    refine xi_aload_n (pc' := 97) rfl rfl rfl ?_
    refine xr_getp (pc' := 100) rfl rfl (by decide) rfl rfl rfl ?_
    refine xi_aload_n (pc' := 101) rfl rfl rfl ?_
    refine xr_geti (pc' := 104) rfl rfl (by decide) (by decide) rfl ?_
    refine xi_bipush (pc' := 106) rfl (by decide) rfl ?_
    refine xi_irem (pc' := 107) rfl (by decide) rfl ?_
    refine xi_iload_n (pc' := 108) rfl rfl rfl ?_
    refine xi_iload_n (pc' := 109) rfl rfl rfl ?_
    refine xx_if (pc' := 112) (tg := 117) rfl rfl rfl (fun q109 => ?_) (fun q109 => ?_)
    · refine xi_iconst (pc' := 118) rfl rfl ?_
      refine xi_iadd (pc' := 119) rfl rfl ?_
      refine xi_iload (pc' := 121) rfl rfl rfl ?_
      refine xi_ift (pc' := 129) rfl rfl (by decide) ?_
      refine xi_iconst (pc' := 130) rfl rfl ?_
      refine xi_iadd (pc' := 131) rfl rfl ?_
      refine xi_iload_n (pc' := 132) rfl rfl rfl ?_
      refine xi_iconst (pc' := 133) rfl rfl ?_
      refine xx_icmp (pc' := 136) (tg := 141) rfl rfl rfl (fun q133 => ?_) (fun q133 => ?_)
      · refine xi_iconst (pc' := 142) rfl rfl ?_
        refine xi_iadd (pc' := 143) rfl rfl ?_
        refine xr_iast (j := hwOf J % 60) (pc' := 144) rfl rfl (by decide) ((congrArg (fun x => x - x / nI 60 * nI 60) hh).trans (ix_rem h31 (by decide) (by decide))) (Nat.mod_lt _ (by decide)) (by decide) rfl ?_
        refine xi_aload_n (pc' := 145) rfl rfl rfl ?_
        refine xi_dup (pc' := 146) rfl rfl rfl ?_
        refine xr_geti (pc' := 149) rfl rfl (by decide) (by decide) rfl ?_
        refine xi_iconst (pc' := 150) rfl rfl ?_
        refine xi_iadd (pc' := 151) rfl rfl ?_
        refine xr_puti (z := 0) (pc' := 154) rfl rfl (by decide) (Or.inl rfl) rfl ?_
        refine xi_iload (pc' := 156) rfl rfl rfl ?_
        refine xi_ift (pc' := 163) rfl rfl (by decide) ?_
        refine xi_iconst (pc' := 164) rfl rfl ?_
        refine xx_ireturn rfl rfl ?_
        simp only [ex_P, Classical.not_not, ↓reduceIte, or_true, true_or, not_true_eq_false, not_false_eq_true, or_false, false_or, wI_get, false_and, true_and, and_true, and_false, and_self, Nat.reduceEqDiff, Nat.succ_ne_zero, reduceCtorEq, nI_lit, nI_lit0, Nat.reduceLT] at *
        first | (simp only [r_put, r_bm, ix_0, *, ↓reduceIte, or_true, true_or, not_true_eq_false, not_false_eq_true, or_false, false_or, wI_get, false_and, true_and, and_true, and_false, and_self, Nat.reduceEqDiff, Nat.succ_ne_zero, reduceCtorEq, nI_lit, nI_lit0, Nat.reduceLT]; done) | (exfalso; simp_all only [↓reduceIte, or_true, true_or, not_true_eq_false, not_false_eq_true, or_false, false_or, wI_get, false_and, true_and, and_true, and_false, and_self, Nat.reduceEqDiff, Nat.succ_ne_zero, reduceCtorEq, nI_lit, nI_lit0, Nat.reduceLT]; done)
      · refine xx_ldc (v := nI 262144) (pc' := 138) rfl rfl (by decide) rfl ?_
        refine xi_goto (pc' := 142) rfl rfl ?_
        refine xi_iadd (pc' := 143) rfl rfl ?_
        refine xr_iast (j := hwOf J % 60) (pc' := 144) rfl rfl (by decide) ((congrArg (fun x => x - x / nI 60 * nI 60) hh).trans (ix_rem h31 (by decide) (by decide))) (Nat.mod_lt _ (by decide)) (by decide) rfl ?_
        refine xi_aload_n (pc' := 145) rfl rfl rfl ?_
        refine xi_dup (pc' := 146) rfl rfl rfl ?_
        refine xr_geti (pc' := 149) rfl rfl (by decide) (by decide) rfl ?_
        refine xi_iconst (pc' := 150) rfl rfl ?_
        refine xi_iadd (pc' := 151) rfl rfl ?_
        refine xr_puti (z := 0) (pc' := 154) rfl rfl (by decide) (Or.inl rfl) rfl ?_
        refine xi_iload (pc' := 156) rfl rfl rfl ?_
        refine xi_ift (pc' := 163) rfl rfl (by decide) ?_
        refine xi_iconst (pc' := 164) rfl rfl ?_
        refine xx_ireturn rfl rfl ?_
        simp only [ex_P, Classical.not_not, ↓reduceIte, or_true, true_or, not_true_eq_false, not_false_eq_true, or_false, false_or, wI_get, false_and, true_and, and_true, and_false, and_self, Nat.reduceEqDiff, Nat.succ_ne_zero, reduceCtorEq, nI_lit, nI_lit0, Nat.reduceLT] at *
        first | (simp only [r_put, r_bm, ix_0, *, ↓reduceIte, or_true, true_or, not_true_eq_false, not_false_eq_true, or_false, false_or, wI_get, false_and, true_and, and_true, and_false, and_self, Nat.reduceEqDiff, Nat.succ_ne_zero, reduceCtorEq, nI_lit, nI_lit0, Nat.reduceLT]; done) | (exfalso; simp_all only [↓reduceIte, or_true, true_or, not_true_eq_false, not_false_eq_true, or_false, false_or, wI_get, false_and, true_and, and_true, and_false, and_self, Nat.reduceEqDiff, Nat.succ_ne_zero, reduceCtorEq, nI_lit, nI_lit0, Nat.reduceLT]; done)
    · refine xx_ldc (v := nI 65536) (pc' := 114) rfl rfl (by decide) rfl ?_
      refine xi_goto (pc' := 118) rfl rfl ?_
      refine xi_iadd (pc' := 119) rfl rfl ?_
      refine xi_iload (pc' := 121) rfl rfl rfl ?_
      refine xi_ift (pc' := 129) rfl rfl (by decide) ?_
      refine xi_iconst (pc' := 130) rfl rfl ?_
      refine xi_iadd (pc' := 131) rfl rfl ?_
      refine xi_iload_n (pc' := 132) rfl rfl rfl ?_
      refine xi_iconst (pc' := 133) rfl rfl ?_
      refine xx_icmp (pc' := 136) (tg := 141) rfl rfl rfl (fun q133 => ?_) (fun q133 => ?_)
      · refine xi_iconst (pc' := 142) rfl rfl ?_
        refine xi_iadd (pc' := 143) rfl rfl ?_
        refine xr_iast (j := hwOf J % 60) (pc' := 144) rfl rfl (by decide) ((congrArg (fun x => x - x / nI 60 * nI 60) hh).trans (ix_rem h31 (by decide) (by decide))) (Nat.mod_lt _ (by decide)) (by decide) rfl ?_
        refine xi_aload_n (pc' := 145) rfl rfl rfl ?_
        refine xi_dup (pc' := 146) rfl rfl rfl ?_
        refine xr_geti (pc' := 149) rfl rfl (by decide) (by decide) rfl ?_
        refine xi_iconst (pc' := 150) rfl rfl ?_
        refine xi_iadd (pc' := 151) rfl rfl ?_
        refine xr_puti (z := 0) (pc' := 154) rfl rfl (by decide) (Or.inl rfl) rfl ?_
        refine xi_iload (pc' := 156) rfl rfl rfl ?_
        refine xi_ift (pc' := 163) rfl rfl (by decide) ?_
        refine xi_iconst (pc' := 164) rfl rfl ?_
        refine xx_ireturn rfl rfl ?_
        simp only [ex_P, Classical.not_not, ↓reduceIte, or_true, true_or, not_true_eq_false, not_false_eq_true, or_false, false_or, wI_get, false_and, true_and, and_true, and_false, and_self, Nat.reduceEqDiff, Nat.succ_ne_zero, reduceCtorEq, nI_lit, nI_lit0, Nat.reduceLT] at *
        first | (simp only [r_put, r_bm, ix_0, *, ↓reduceIte, or_true, true_or, not_true_eq_false, not_false_eq_true, or_false, false_or, wI_get, false_and, true_and, and_true, and_false, and_self, Nat.reduceEqDiff, Nat.succ_ne_zero, reduceCtorEq, nI_lit, nI_lit0, Nat.reduceLT]; done) | (exfalso; simp_all only [↓reduceIte, or_true, true_or, not_true_eq_false, not_false_eq_true, or_false, false_or, wI_get, false_and, true_and, and_true, and_false, and_self, Nat.reduceEqDiff, Nat.succ_ne_zero, reduceCtorEq, nI_lit, nI_lit0, Nat.reduceLT]; done)
      · refine xx_ldc (v := nI 262144) (pc' := 138) rfl rfl (by decide) rfl ?_
        refine xi_goto (pc' := 142) rfl rfl ?_
        refine xi_iadd (pc' := 143) rfl rfl ?_
        refine xr_iast (j := hwOf J % 60) (pc' := 144) rfl rfl (by decide) ((congrArg (fun x => x - x / nI 60 * nI 60) hh).trans (ix_rem h31 (by decide) (by decide))) (Nat.mod_lt _ (by decide)) (by decide) rfl ?_
        refine xi_aload_n (pc' := 145) rfl rfl rfl ?_
        refine xi_dup (pc' := 146) rfl rfl rfl ?_
        refine xr_geti (pc' := 149) rfl rfl (by decide) (by decide) rfl ?_
        refine xi_iconst (pc' := 150) rfl rfl ?_
        refine xi_iadd (pc' := 151) rfl rfl ?_
        refine xr_puti (z := 0) (pc' := 154) rfl rfl (by decide) (Or.inl rfl) rfl ?_
        refine xi_iload (pc' := 156) rfl rfl rfl ?_
        refine xi_ift (pc' := 163) rfl rfl (by decide) ?_
        refine xi_iconst (pc' := 164) rfl rfl ?_
        refine xx_ireturn rfl rfl ?_
        simp only [ex_P, Classical.not_not, ↓reduceIte, or_true, true_or, not_true_eq_false, not_false_eq_true, or_false, false_or, wI_get, false_and, true_and, and_true, and_false, and_self, Nat.reduceEqDiff, Nat.succ_ne_zero, reduceCtorEq, nI_lit, nI_lit0, Nat.reduceLT] at *
        first | (simp only [r_put, r_bm, ix_0, *, ↓reduceIte, or_true, true_or, not_true_eq_false, not_false_eq_true, or_false, false_or, wI_get, false_and, true_and, and_true, and_false, and_self, Nat.reduceEqDiff, Nat.succ_ne_zero, reduceCtorEq, nI_lit, nI_lit0, Nat.reduceLT]; done) | (exfalso; simp_all only [↓reduceIte, or_true, true_or, not_true_eq_false, not_false_eq_true, or_false, false_or, wI_get, false_and, true_and, and_true, and_false, and_self, Nat.reduceEqDiff, Nat.succ_ne_zero, reduceCtorEq, nI_lit, nI_lit0, Nat.reduceLT]; done)
  · refine xi_aload_n (pc' := 10) rfl rfl rfl ?_
    refine xr_getp (pc' := 13) rfl rfl (by decide) rfl rfl rfl ?_
    refine xi_iload_n (pc' := 14) rfl rfl rfl ?_
    refine xr_iald (j := b) (pc' := 15) rfl rfl (by decide) (by first | rfl | (simp only [ix_add, ix_mul, ix_pred]; done) | (simp only [ix_add, ix_mul, ix_pred, *]; done)) (by omega) (by decide) rfl ?_
    refine xx_if (pc' := 18) (tg := 22) rfl rfl rfl (fun q15 => ?_) (fun q15 => ?_)
    · refine xi_iconst (pc' := 23) rfl rfl ?_
      refine xi_istore (pc' := 25) rfl (st1_4 rfl) rfl ?_
      refine xi_iload (pc' := 27) rfl rfl rfl ?_
      refine xi_ift (pc' := 44) rfl rfl (by decide) ?_
      refine xi_iconst (pc' := 45) rfl rfl ?_
      refine xi_istore (pc' := 47) rfl (st1_5 rfl) rfl ?_
      refine xi_iload (pc' := 49) rfl rfl rfl ?_
      refine xi_iff (pc' := 52) (tg := 62) rfl rfl (by decide) rfl ?_
      refine xi_aload_n (pc' := 53) rfl rfl rfl ?_
      refine xr_getp (pc' := 56) rfl rfl (by decide) rfl rfl rfl ?_
      refine xi_iload_n (pc' := 57) rfl rfl rfl ?_
      refine xi_dup2 (pc' := 58) rfl rfl rfl rfl ?_
      refine xr_iald (j := b) (pc' := 59) rfl rfl (by decide) (by first | rfl | (simp only [ix_add, ix_mul, ix_pred]; done) | (simp only [ix_add, ix_mul, ix_pred, *]; done)) (by omega) (by decide) rfl ?_
      refine xi_iconst (pc' := 60) rfl rfl ?_
      refine xi_isub (pc' := 61) rfl rfl ?_
      refine xr_iast (j := b) (pc' := 62) rfl rfl (by decide) (by first | rfl | (simp only [ix_add, ix_mul, ix_pred]; done) | (simp only [ix_add, ix_mul, ix_pred, *]; done)) (by omega) (by decide) rfl ?_
      refine xi_iload (pc' := 64) rfl rfl rfl ?_
      refine xi_ift (pc' := 79) rfl rfl (by decide) ?_
      refine xi_iload (pc' := 81) rfl rfl rfl ?_
      refine xi_ift (pc' := 96) rfl rfl (by decide) ?_
      refine xi_aload_n (pc' := 97) rfl rfl rfl ?_
      refine xr_getp (pc' := 100) rfl rfl (by decide) rfl rfl rfl ?_
      refine xi_aload_n (pc' := 101) rfl rfl rfl ?_
      refine xr_geti (pc' := 104) rfl rfl (by decide) (by decide) rfl ?_
      refine xi_bipush (pc' := 106) rfl (by decide) rfl ?_
      refine xi_irem (pc' := 107) rfl (by decide) rfl ?_
      refine xi_iload_n (pc' := 108) rfl rfl rfl ?_
      refine xi_iload_n (pc' := 109) rfl rfl rfl ?_
      refine xx_if (pc' := 112) (tg := 117) rfl rfl rfl (fun q109 => ?_) (fun q109 => ?_)
      · refine xi_iconst (pc' := 118) rfl rfl ?_
        refine xi_iadd (pc' := 119) rfl rfl ?_
        refine xi_iload (pc' := 121) rfl rfl rfl ?_
        refine xi_ift (pc' := 129) rfl rfl (by decide) ?_
        refine xi_iconst (pc' := 130) rfl rfl ?_
        refine xi_iadd (pc' := 131) rfl rfl ?_
        refine xi_iload_n (pc' := 132) rfl rfl rfl ?_
        refine xi_iconst (pc' := 133) rfl rfl ?_
        refine xx_icmp (pc' := 136) (tg := 141) rfl rfl rfl (fun q133 => ?_) (fun q133 => ?_)
        · refine xi_iconst (pc' := 142) rfl rfl ?_
          refine xi_iadd (pc' := 143) rfl rfl ?_
          refine xr_iast (j := hwOf J % 60) (pc' := 144) rfl rfl (by decide) ((congrArg (fun x => x - x / nI 60 * nI 60) hh).trans (ix_rem h31 (by decide) (by decide))) (Nat.mod_lt _ (by decide)) (by decide) rfl ?_
          refine xi_aload_n (pc' := 145) rfl rfl rfl ?_
          refine xi_dup (pc' := 146) rfl rfl rfl ?_
          refine xr_geti (pc' := 149) rfl rfl (by decide) (by decide) rfl ?_
          refine xi_iconst (pc' := 150) rfl rfl ?_
          refine xi_iadd (pc' := 151) rfl rfl ?_
          refine xr_puti (z := 0) (pc' := 154) rfl rfl (by decide) (Or.inl rfl) rfl ?_
          refine xi_iload (pc' := 156) rfl rfl rfl ?_
          refine xi_ift (pc' := 163) rfl rfl (by decide) ?_
          refine xi_iconst (pc' := 164) rfl rfl ?_
          refine xx_ireturn rfl rfl ?_
          simp only [ex_P, Classical.not_not, ↓reduceIte, or_true, true_or, not_true_eq_false, not_false_eq_true, or_false, false_or, wI_get, false_and, true_and, and_true, and_false, and_self, Nat.reduceEqDiff, Nat.succ_ne_zero, reduceCtorEq, nI_lit, nI_lit0, Nat.reduceLT] at *
          first | (simp only [r_put, r_bm, ix_0, *, ↓reduceIte, or_true, true_or, not_true_eq_false, not_false_eq_true, or_false, false_or, wI_get, false_and, true_and, and_true, and_false, and_self, Nat.reduceEqDiff, Nat.succ_ne_zero, reduceCtorEq, nI_lit, nI_lit0, Nat.reduceLT]; done) | (exfalso; simp_all only [↓reduceIte, or_true, true_or, not_true_eq_false, not_false_eq_true, or_false, false_or, wI_get, false_and, true_and, and_true, and_false, and_self, Nat.reduceEqDiff, Nat.succ_ne_zero, reduceCtorEq, nI_lit, nI_lit0, Nat.reduceLT]; done)
        · refine xx_ldc (v := nI 262144) (pc' := 138) rfl rfl (by decide) rfl ?_
          refine xi_goto (pc' := 142) rfl rfl ?_
          refine xi_iadd (pc' := 143) rfl rfl ?_
          refine xr_iast (j := hwOf J % 60) (pc' := 144) rfl rfl (by decide) ((congrArg (fun x => x - x / nI 60 * nI 60) hh).trans (ix_rem h31 (by decide) (by decide))) (Nat.mod_lt _ (by decide)) (by decide) rfl ?_
          refine xi_aload_n (pc' := 145) rfl rfl rfl ?_
          refine xi_dup (pc' := 146) rfl rfl rfl ?_
          refine xr_geti (pc' := 149) rfl rfl (by decide) (by decide) rfl ?_
          refine xi_iconst (pc' := 150) rfl rfl ?_
          refine xi_iadd (pc' := 151) rfl rfl ?_
          refine xr_puti (z := 0) (pc' := 154) rfl rfl (by decide) (Or.inl rfl) rfl ?_
          refine xi_iload (pc' := 156) rfl rfl rfl ?_
          refine xi_ift (pc' := 163) rfl rfl (by decide) ?_
          refine xi_iconst (pc' := 164) rfl rfl ?_
          refine xx_ireturn rfl rfl ?_
          simp only [ex_P, Classical.not_not, ↓reduceIte, or_true, true_or, not_true_eq_false, not_false_eq_true, or_false, false_or, wI_get, false_and, true_and, and_true, and_false, and_self, Nat.reduceEqDiff, Nat.succ_ne_zero, reduceCtorEq, nI_lit, nI_lit0, Nat.reduceLT] at *
          first | (simp only [r_put, r_bm, ix_0, *, ↓reduceIte, or_true, true_or, not_true_eq_false, not_false_eq_true, or_false, false_or, wI_get, false_and, true_and, and_true, and_false, and_self, Nat.reduceEqDiff, Nat.succ_ne_zero, reduceCtorEq, nI_lit, nI_lit0, Nat.reduceLT]; done) | (exfalso; simp_all only [↓reduceIte, or_true, true_or, not_true_eq_false, not_false_eq_true, or_false, false_or, wI_get, false_and, true_and, and_true, and_false, and_self, Nat.reduceEqDiff, Nat.succ_ne_zero, reduceCtorEq, nI_lit, nI_lit0, Nat.reduceLT]; done)
      · refine xx_ldc (v := nI 65536) (pc' := 114) rfl rfl (by decide) rfl ?_
        refine xi_goto (pc' := 118) rfl rfl ?_
        refine xi_iadd (pc' := 119) rfl rfl ?_
        refine xi_iload (pc' := 121) rfl rfl rfl ?_
        refine xi_ift (pc' := 129) rfl rfl (by decide) ?_
        refine xi_iconst (pc' := 130) rfl rfl ?_
        refine xi_iadd (pc' := 131) rfl rfl ?_
        refine xi_iload_n (pc' := 132) rfl rfl rfl ?_
        refine xi_iconst (pc' := 133) rfl rfl ?_
        refine xx_icmp (pc' := 136) (tg := 141) rfl rfl rfl (fun q133 => ?_) (fun q133 => ?_)
        · refine xi_iconst (pc' := 142) rfl rfl ?_
          refine xi_iadd (pc' := 143) rfl rfl ?_
          refine xr_iast (j := hwOf J % 60) (pc' := 144) rfl rfl (by decide) ((congrArg (fun x => x - x / nI 60 * nI 60) hh).trans (ix_rem h31 (by decide) (by decide))) (Nat.mod_lt _ (by decide)) (by decide) rfl ?_
          refine xi_aload_n (pc' := 145) rfl rfl rfl ?_
          refine xi_dup (pc' := 146) rfl rfl rfl ?_
          refine xr_geti (pc' := 149) rfl rfl (by decide) (by decide) rfl ?_
          refine xi_iconst (pc' := 150) rfl rfl ?_
          refine xi_iadd (pc' := 151) rfl rfl ?_
          refine xr_puti (z := 0) (pc' := 154) rfl rfl (by decide) (Or.inl rfl) rfl ?_
          refine xi_iload (pc' := 156) rfl rfl rfl ?_
          refine xi_ift (pc' := 163) rfl rfl (by decide) ?_
          refine xi_iconst (pc' := 164) rfl rfl ?_
          refine xx_ireturn rfl rfl ?_
          simp only [ex_P, Classical.not_not, ↓reduceIte, or_true, true_or, not_true_eq_false, not_false_eq_true, or_false, false_or, wI_get, false_and, true_and, and_true, and_false, and_self, Nat.reduceEqDiff, Nat.succ_ne_zero, reduceCtorEq, nI_lit, nI_lit0, Nat.reduceLT] at *
          first | (simp only [r_put, r_bm, ix_0, *, ↓reduceIte, or_true, true_or, not_true_eq_false, not_false_eq_true, or_false, false_or, wI_get, false_and, true_and, and_true, and_false, and_self, Nat.reduceEqDiff, Nat.succ_ne_zero, reduceCtorEq, nI_lit, nI_lit0, Nat.reduceLT]; done) | (exfalso; simp_all only [↓reduceIte, or_true, true_or, not_true_eq_false, not_false_eq_true, or_false, false_or, wI_get, false_and, true_and, and_true, and_false, and_self, Nat.reduceEqDiff, Nat.succ_ne_zero, reduceCtorEq, nI_lit, nI_lit0, Nat.reduceLT]; done)
        · refine xx_ldc (v := nI 262144) (pc' := 138) rfl rfl (by decide) rfl ?_
          refine xi_goto (pc' := 142) rfl rfl ?_
          refine xi_iadd (pc' := 143) rfl rfl ?_
          refine xr_iast (j := hwOf J % 60) (pc' := 144) rfl rfl (by decide) ((congrArg (fun x => x - x / nI 60 * nI 60) hh).trans (ix_rem h31 (by decide) (by decide))) (Nat.mod_lt _ (by decide)) (by decide) rfl ?_
          refine xi_aload_n (pc' := 145) rfl rfl rfl ?_
          refine xi_dup (pc' := 146) rfl rfl rfl ?_
          refine xr_geti (pc' := 149) rfl rfl (by decide) (by decide) rfl ?_
          refine xi_iconst (pc' := 150) rfl rfl ?_
          refine xi_iadd (pc' := 151) rfl rfl ?_
          refine xr_puti (z := 0) (pc' := 154) rfl rfl (by decide) (Or.inl rfl) rfl ?_
          refine xi_iload (pc' := 156) rfl rfl rfl ?_
          refine xi_ift (pc' := 163) rfl rfl (by decide) ?_
          refine xi_iconst (pc' := 164) rfl rfl ?_
          refine xx_ireturn rfl rfl ?_
          simp only [ex_P, Classical.not_not, ↓reduceIte, or_true, true_or, not_true_eq_false, not_false_eq_true, or_false, false_or, wI_get, false_and, true_and, and_true, and_false, and_self, Nat.reduceEqDiff, Nat.succ_ne_zero, reduceCtorEq, nI_lit, nI_lit0, Nat.reduceLT] at *
          first | (simp only [r_put, r_bm, ix_0, *, ↓reduceIte, or_true, true_or, not_true_eq_false, not_false_eq_true, or_false, false_or, wI_get, false_and, true_and, and_true, and_false, and_self, Nat.reduceEqDiff, Nat.succ_ne_zero, reduceCtorEq, nI_lit, nI_lit0, Nat.reduceLT]; done) | (exfalso; simp_all only [↓reduceIte, or_true, true_or, not_true_eq_false, not_false_eq_true, or_false, false_or, wI_get, false_and, true_and, and_true, and_false, and_self, Nat.reduceEqDiff, Nat.succ_ne_zero, reduceCtorEq, nI_lit, nI_lit0, Nat.reduceLT]; done)
    · refine xi_iconst (pc' := 19) rfl rfl ?_
      refine xi_goto (pc' := 23) rfl rfl ?_
      refine xi_istore (pc' := 25) rfl (st1_4 rfl) rfl ?_
      refine xi_iload (pc' := 27) rfl rfl rfl ?_
      refine xi_iff (pc' := 30) (tg := 44) rfl rfl (by decide) rfl ?_
      refine xi_aload_n (pc' := 31) rfl rfl rfl ?_
      refine xr_getp (pc' := 34) rfl rfl (by decide) rfl rfl rfl ?_
      refine xi_iload_n (pc' := 35) rfl rfl rfl ?_
      refine xr_iald (j := b) (pc' := 36) rfl rfl (by decide) (by first | rfl | (simp only [ix_add, ix_mul, ix_pred]; done) | (simp only [ix_add, ix_mul, ix_pred, *]; done)) (by omega) (by decide) rfl ?_
      refine xi_iconst (pc' := 37) rfl rfl ?_
      refine xx_icmp (pc' := 40) (tg := 44) rfl rfl rfl (fun q37 => ?_) (fun q37 => ?_)
      · refine xi_iconst (pc' := 45) rfl rfl ?_
        refine xi_istore (pc' := 47) rfl (st1_5 rfl) rfl ?_
        refine xi_iload (pc' := 49) rfl rfl rfl ?_
        refine xi_iff (pc' := 52) (tg := 62) rfl rfl (by decide) rfl ?_
        refine xi_aload_n (pc' := 53) rfl rfl rfl ?_
        refine xr_getp (pc' := 56) rfl rfl (by decide) rfl rfl rfl ?_
        refine xi_iload_n (pc' := 57) rfl rfl rfl ?_
        refine xi_dup2 (pc' := 58) rfl rfl rfl rfl ?_
        refine xr_iald (j := b) (pc' := 59) rfl rfl (by decide) (by first | rfl | (simp only [ix_add, ix_mul, ix_pred]; done) | (simp only [ix_add, ix_mul, ix_pred, *]; done)) (by omega) (by decide) rfl ?_
        refine xi_iconst (pc' := 60) rfl rfl ?_
        refine xi_isub (pc' := 61) rfl rfl ?_
        refine xr_iast (j := b) (pc' := 62) rfl rfl (by decide) (by first | rfl | (simp only [ix_add, ix_mul, ix_pred]; done) | (simp only [ix_add, ix_mul, ix_pred, *]; done)) (by omega) (by decide) rfl ?_
        refine xi_iload (pc' := 64) rfl rfl rfl ?_
        refine xi_iff (pc' := 67) (tg := 79) rfl rfl (by decide) rfl ?_
        refine xi_iload (pc' := 69) rfl rfl rfl ?_
        refine xi_iff (pc' := 72) (tg := 79) rfl rfl (by decide) rfl ?_
        refine xi_aload_n (pc' := 73) rfl rfl rfl ?_
        refine xr_getp (pc' := 76) rfl rfl (by decide) rfl rfl rfl ?_
        refine xi_iload_n (pc' := 77) rfl rfl rfl ?_
        refine xi_iconst (pc' := 78) rfl rfl ?_
        refine xr_zast (j := b) (pc' := 79) rfl rfl (by decide) (by first | rfl | (simp only [ix_add, ix_mul, ix_pred]; done) | (simp only [ix_add, ix_mul, ix_pred, *]; done)) (by omega) (by decide) (by decide) rfl ?_
        refine xi_iload (pc' := 81) rfl rfl rfl ?_
        refine xi_iff (pc' := 84) (tg := 96) rfl rfl (by decide) rfl ?_
        refine xi_aload_n (pc' := 85) rfl rfl rfl ?_
        refine xr_getp (pc' := 88) rfl rfl (by decide) rfl rfl rfl ?_
        refine xi_iload_n (pc' := 89) rfl rfl rfl ?_
        refine xr_iald (j := b) (pc' := 90) rfl rfl (by decide) (by first | rfl | (simp only [ix_add, ix_mul, ix_pred]; done) | (simp only [ix_add, ix_mul, ix_pred, *]; done)) (by omega) (by decide) rfl ?_
        refine xi_iconst (pc' := 91) rfl rfl ?_
        refine xx_icmp (pc' := 94) (tg := 96) rfl rfl rfl (fun q91 => ?_) (fun q91 => ?_)
        · refine xi_aload_n (pc' := 97) rfl rfl rfl ?_
          refine xr_getp (pc' := 100) rfl rfl (by decide) rfl rfl rfl ?_
          refine xi_aload_n (pc' := 101) rfl rfl rfl ?_
          refine xr_geti (pc' := 104) rfl rfl (by decide) (by decide) rfl ?_
          refine xi_bipush (pc' := 106) rfl (by decide) rfl ?_
          refine xi_irem (pc' := 107) rfl (by decide) rfl ?_
          refine xi_iload_n (pc' := 108) rfl rfl rfl ?_
          refine xi_iload_n (pc' := 109) rfl rfl rfl ?_
          refine xx_if (pc' := 112) (tg := 117) rfl rfl rfl (fun q109 => ?_) (fun q109 => ?_)
          · refine xi_iconst (pc' := 118) rfl rfl ?_
            refine xi_iadd (pc' := 119) rfl rfl ?_
            refine xi_iload (pc' := 121) rfl rfl rfl ?_
            refine xi_iff (pc' := 124) (tg := 129) rfl rfl (by decide) rfl ?_
            refine xx_ldc (v := nI 131072) (pc' := 126) rfl rfl (by decide) rfl ?_
            refine xi_goto (pc' := 130) rfl rfl ?_
            refine xi_iadd (pc' := 131) rfl rfl ?_
            refine xi_iload_n (pc' := 132) rfl rfl rfl ?_
            refine xi_iconst (pc' := 133) rfl rfl ?_
            refine xx_icmp (pc' := 136) (tg := 141) rfl rfl rfl (fun q133 => ?_) (fun q133 => ?_)
            · refine xi_iconst (pc' := 142) rfl rfl ?_
              refine xi_iadd (pc' := 143) rfl rfl ?_
              refine xr_iast (j := hwOf J % 60) (pc' := 144) rfl rfl (by decide) ((congrArg (fun x => x - x / nI 60 * nI 60) hh).trans (ix_rem h31 (by decide) (by decide))) (Nat.mod_lt _ (by decide)) (by decide) rfl ?_
              refine xi_aload_n (pc' := 145) rfl rfl rfl ?_
              refine xi_dup (pc' := 146) rfl rfl rfl ?_
              refine xr_geti (pc' := 149) rfl rfl (by decide) (by decide) rfl ?_
              refine xi_iconst (pc' := 150) rfl rfl ?_
              refine xi_iadd (pc' := 151) rfl rfl ?_
              refine xr_puti (z := 0) (pc' := 154) rfl rfl (by decide) (Or.inl rfl) rfl ?_
              refine xi_iload (pc' := 156) rfl rfl rfl ?_
              refine xi_iff (pc' := 159) (tg := 163) rfl rfl (by decide) rfl ?_
              refine xi_iconst (pc' := 160) rfl rfl ?_
              refine xi_goto (pc' := 164) rfl rfl ?_
              refine xx_ireturn rfl rfl ?_
              simp only [ex_P, Classical.not_not, ↓reduceIte, or_true, true_or, not_true_eq_false, not_false_eq_true, or_false, false_or, wI_get, false_and, true_and, and_true, and_false, and_self, Nat.reduceEqDiff, Nat.succ_ne_zero, reduceCtorEq, nI_lit, nI_lit0, Nat.reduceLT] at *
              first | (simp only [r_put, r_bm, ix_0, *, ↓reduceIte, or_true, true_or, not_true_eq_false, not_false_eq_true, or_false, false_or, wI_get, false_and, true_and, and_true, and_false, and_self, Nat.reduceEqDiff, Nat.succ_ne_zero, reduceCtorEq, nI_lit, nI_lit0, Nat.reduceLT]; done) | (exfalso; simp_all only [↓reduceIte, or_true, true_or, not_true_eq_false, not_false_eq_true, or_false, false_or, wI_get, false_and, true_and, and_true, and_false, and_self, Nat.reduceEqDiff, Nat.succ_ne_zero, reduceCtorEq, nI_lit, nI_lit0, Nat.reduceLT]; done)
            · refine xx_ldc (v := nI 262144) (pc' := 138) rfl rfl (by decide) rfl ?_
              refine xi_goto (pc' := 142) rfl rfl ?_
              refine xi_iadd (pc' := 143) rfl rfl ?_
              refine xr_iast (j := hwOf J % 60) (pc' := 144) rfl rfl (by decide) ((congrArg (fun x => x - x / nI 60 * nI 60) hh).trans (ix_rem h31 (by decide) (by decide))) (Nat.mod_lt _ (by decide)) (by decide) rfl ?_
              refine xi_aload_n (pc' := 145) rfl rfl rfl ?_
              refine xi_dup (pc' := 146) rfl rfl rfl ?_
              refine xr_geti (pc' := 149) rfl rfl (by decide) (by decide) rfl ?_
              refine xi_iconst (pc' := 150) rfl rfl ?_
              refine xi_iadd (pc' := 151) rfl rfl ?_
              refine xr_puti (z := 0) (pc' := 154) rfl rfl (by decide) (Or.inl rfl) rfl ?_
              refine xi_iload (pc' := 156) rfl rfl rfl ?_
              refine xi_iff (pc' := 159) (tg := 163) rfl rfl (by decide) rfl ?_
              refine xi_iconst (pc' := 160) rfl rfl ?_
              refine xi_goto (pc' := 164) rfl rfl ?_
              refine xx_ireturn rfl rfl ?_
              simp only [ex_P, Classical.not_not, ↓reduceIte, or_true, true_or, not_true_eq_false, not_false_eq_true, or_false, false_or, wI_get, false_and, true_and, and_true, and_false, and_self, Nat.reduceEqDiff, Nat.succ_ne_zero, reduceCtorEq, nI_lit, nI_lit0, Nat.reduceLT] at *
              first | (simp only [r_put, r_bm, ix_0, *, ↓reduceIte, or_true, true_or, not_true_eq_false, not_false_eq_true, or_false, false_or, wI_get, false_and, true_and, and_true, and_false, and_self, Nat.reduceEqDiff, Nat.succ_ne_zero, reduceCtorEq, nI_lit, nI_lit0, Nat.reduceLT]; done) | (exfalso; simp_all only [↓reduceIte, or_true, true_or, not_true_eq_false, not_false_eq_true, or_false, false_or, wI_get, false_and, true_and, and_true, and_false, and_self, Nat.reduceEqDiff, Nat.succ_ne_zero, reduceCtorEq, nI_lit, nI_lit0, Nat.reduceLT]; done)
          · refine xx_ldc (v := nI 65536) (pc' := 114) rfl rfl (by decide) rfl ?_
            refine xi_goto (pc' := 118) rfl rfl ?_
            refine xi_iadd (pc' := 119) rfl rfl ?_
            refine xi_iload (pc' := 121) rfl rfl rfl ?_
            refine xi_iff (pc' := 124) (tg := 129) rfl rfl (by decide) rfl ?_
            refine xx_ldc (v := nI 131072) (pc' := 126) rfl rfl (by decide) rfl ?_
            refine xi_goto (pc' := 130) rfl rfl ?_
            refine xi_iadd (pc' := 131) rfl rfl ?_
            refine xi_iload_n (pc' := 132) rfl rfl rfl ?_
            refine xi_iconst (pc' := 133) rfl rfl ?_
            refine xx_icmp (pc' := 136) (tg := 141) rfl rfl rfl (fun q133 => ?_) (fun q133 => ?_)
            · refine xi_iconst (pc' := 142) rfl rfl ?_
              refine xi_iadd (pc' := 143) rfl rfl ?_
              refine xr_iast (j := hwOf J % 60) (pc' := 144) rfl rfl (by decide) ((congrArg (fun x => x - x / nI 60 * nI 60) hh).trans (ix_rem h31 (by decide) (by decide))) (Nat.mod_lt _ (by decide)) (by decide) rfl ?_
              refine xi_aload_n (pc' := 145) rfl rfl rfl ?_
              refine xi_dup (pc' := 146) rfl rfl rfl ?_
              refine xr_geti (pc' := 149) rfl rfl (by decide) (by decide) rfl ?_
              refine xi_iconst (pc' := 150) rfl rfl ?_
              refine xi_iadd (pc' := 151) rfl rfl ?_
              refine xr_puti (z := 0) (pc' := 154) rfl rfl (by decide) (Or.inl rfl) rfl ?_
              refine xi_iload (pc' := 156) rfl rfl rfl ?_
              refine xi_iff (pc' := 159) (tg := 163) rfl rfl (by decide) rfl ?_
              refine xi_iconst (pc' := 160) rfl rfl ?_
              refine xi_goto (pc' := 164) rfl rfl ?_
              refine xx_ireturn rfl rfl ?_
              simp only [ex_P, Classical.not_not, ↓reduceIte, or_true, true_or, not_true_eq_false, not_false_eq_true, or_false, false_or, wI_get, false_and, true_and, and_true, and_false, and_self, Nat.reduceEqDiff, Nat.succ_ne_zero, reduceCtorEq, nI_lit, nI_lit0, Nat.reduceLT] at *
              first | (simp only [r_put, r_bm, ix_0, *, ↓reduceIte, or_true, true_or, not_true_eq_false, not_false_eq_true, or_false, false_or, wI_get, false_and, true_and, and_true, and_false, and_self, Nat.reduceEqDiff, Nat.succ_ne_zero, reduceCtorEq, nI_lit, nI_lit0, Nat.reduceLT]; done) | (exfalso; simp_all only [↓reduceIte, or_true, true_or, not_true_eq_false, not_false_eq_true, or_false, false_or, wI_get, false_and, true_and, and_true, and_false, and_self, Nat.reduceEqDiff, Nat.succ_ne_zero, reduceCtorEq, nI_lit, nI_lit0, Nat.reduceLT]; done)
            · refine xx_ldc (v := nI 262144) (pc' := 138) rfl rfl (by decide) rfl ?_
              refine xi_goto (pc' := 142) rfl rfl ?_
              refine xi_iadd (pc' := 143) rfl rfl ?_
              refine xr_iast (j := hwOf J % 60) (pc' := 144) rfl rfl (by decide) ((congrArg (fun x => x - x / nI 60 * nI 60) hh).trans (ix_rem h31 (by decide) (by decide))) (Nat.mod_lt _ (by decide)) (by decide) rfl ?_
              refine xi_aload_n (pc' := 145) rfl rfl rfl ?_
              refine xi_dup (pc' := 146) rfl rfl rfl ?_
              refine xr_geti (pc' := 149) rfl rfl (by decide) (by decide) rfl ?_
              refine xi_iconst (pc' := 150) rfl rfl ?_
              refine xi_iadd (pc' := 151) rfl rfl ?_
              refine xr_puti (z := 0) (pc' := 154) rfl rfl (by decide) (Or.inl rfl) rfl ?_
              refine xi_iload (pc' := 156) rfl rfl rfl ?_
              refine xi_iff (pc' := 159) (tg := 163) rfl rfl (by decide) rfl ?_
              refine xi_iconst (pc' := 160) rfl rfl ?_
              refine xi_goto (pc' := 164) rfl rfl ?_
              refine xx_ireturn rfl rfl ?_
              simp only [ex_P, Classical.not_not, ↓reduceIte, or_true, true_or, not_true_eq_false, not_false_eq_true, or_false, false_or, wI_get, false_and, true_and, and_true, and_false, and_self, Nat.reduceEqDiff, Nat.succ_ne_zero, reduceCtorEq, nI_lit, nI_lit0, Nat.reduceLT] at *
              first | (simp only [r_put, r_bm, ix_0, *, ↓reduceIte, or_true, true_or, not_true_eq_false, not_false_eq_true, or_false, false_or, wI_get, false_and, true_and, and_true, and_false, and_self, Nat.reduceEqDiff, Nat.succ_ne_zero, reduceCtorEq, nI_lit, nI_lit0, Nat.reduceLT]; done) | (exfalso; simp_all only [↓reduceIte, or_true, true_or, not_true_eq_false, not_false_eq_true, or_false, false_or, wI_get, false_and, true_and, and_true, and_false, and_self, Nat.reduceEqDiff, Nat.succ_ne_zero, reduceCtorEq, nI_lit, nI_lit0, Nat.reduceLT]; done)
        · refine xi_iconst (pc' := 95) rfl rfl ?_
          refine xx_ireturn rfl rfl ?_
          simp only [ex_P, Classical.not_not, ↓reduceIte, or_true, true_or, not_true_eq_false, not_false_eq_true, or_false, false_or, wI_get, false_and, true_and, and_true, and_false, and_self, Nat.reduceEqDiff, Nat.succ_ne_zero, reduceCtorEq, nI_lit, nI_lit0, Nat.reduceLT] at *
          first | (simp only [r_put, r_bm, ix_0, *, ↓reduceIte, or_true, true_or, not_true_eq_false, not_false_eq_true, or_false, false_or, wI_get, false_and, true_and, and_true, and_false, and_self, Nat.reduceEqDiff, Nat.succ_ne_zero, reduceCtorEq, nI_lit, nI_lit0, Nat.reduceLT]; done) | (exfalso; simp_all only [↓reduceIte, or_true, true_or, not_true_eq_false, not_false_eq_true, or_false, false_or, wI_get, false_and, true_and, and_true, and_false, and_self, Nat.reduceEqDiff, Nat.succ_ne_zero, reduceCtorEq, nI_lit, nI_lit0, Nat.reduceLT]; done)
      · refine xi_iconst (pc' := 41) rfl rfl ?_
        refine xi_goto (pc' := 45) rfl rfl ?_
        refine xi_istore (pc' := 47) rfl (st1_5 rfl) rfl ?_
        refine xi_iload (pc' := 49) rfl rfl rfl ?_
        refine xi_ift (pc' := 62) rfl rfl (by decide) ?_
        refine xi_iload (pc' := 64) rfl rfl rfl ?_
        refine xi_iff (pc' := 67) (tg := 79) rfl rfl (by decide) rfl ?_
        refine xi_iload (pc' := 69) rfl rfl rfl ?_
        refine xi_ift (pc' := 79) rfl rfl (by decide) ?_
        refine xi_iload (pc' := 81) rfl rfl rfl ?_
        refine xi_iff (pc' := 84) (tg := 96) rfl rfl (by decide) rfl ?_
        refine xi_aload_n (pc' := 85) rfl rfl rfl ?_
        refine xr_getp (pc' := 88) rfl rfl (by decide) rfl rfl rfl ?_
        refine xi_iload_n (pc' := 89) rfl rfl rfl ?_
        refine xr_iald (j := b) (pc' := 90) rfl rfl (by decide) (by first | rfl | (simp only [ix_add, ix_mul, ix_pred]; done) | (simp only [ix_add, ix_mul, ix_pred, *]; done)) (by omega) (by decide) rfl ?_
        refine xi_iconst (pc' := 91) rfl rfl ?_
        refine xx_icmp (pc' := 94) (tg := 96) rfl rfl rfl (fun q91 => ?_) (fun q91 => ?_)
        · refine xi_aload_n (pc' := 97) rfl rfl rfl ?_
          refine xr_getp (pc' := 100) rfl rfl (by decide) rfl rfl rfl ?_
          refine xi_aload_n (pc' := 101) rfl rfl rfl ?_
          refine xr_geti (pc' := 104) rfl rfl (by decide) (by decide) rfl ?_
          refine xi_bipush (pc' := 106) rfl (by decide) rfl ?_
          refine xi_irem (pc' := 107) rfl (by decide) rfl ?_
          refine xi_iload_n (pc' := 108) rfl rfl rfl ?_
          refine xi_iload_n (pc' := 109) rfl rfl rfl ?_
          refine xx_if (pc' := 112) (tg := 117) rfl rfl rfl (fun q109 => ?_) (fun q109 => ?_)
          · refine xi_iconst (pc' := 118) rfl rfl ?_
            refine xi_iadd (pc' := 119) rfl rfl ?_
            refine xi_iload (pc' := 121) rfl rfl rfl ?_
            refine xi_iff (pc' := 124) (tg := 129) rfl rfl (by decide) rfl ?_
            refine xx_ldc (v := nI 131072) (pc' := 126) rfl rfl (by decide) rfl ?_
            refine xi_goto (pc' := 130) rfl rfl ?_
            refine xi_iadd (pc' := 131) rfl rfl ?_
            refine xi_iload_n (pc' := 132) rfl rfl rfl ?_
            refine xi_iconst (pc' := 133) rfl rfl ?_
            refine xx_icmp (pc' := 136) (tg := 141) rfl rfl rfl (fun q133 => ?_) (fun q133 => ?_)
            · refine xi_iconst (pc' := 142) rfl rfl ?_
              refine xi_iadd (pc' := 143) rfl rfl ?_
              refine xr_iast (j := hwOf J % 60) (pc' := 144) rfl rfl (by decide) ((congrArg (fun x => x - x / nI 60 * nI 60) hh).trans (ix_rem h31 (by decide) (by decide))) (Nat.mod_lt _ (by decide)) (by decide) rfl ?_
              refine xi_aload_n (pc' := 145) rfl rfl rfl ?_
              refine xi_dup (pc' := 146) rfl rfl rfl ?_
              refine xr_geti (pc' := 149) rfl rfl (by decide) (by decide) rfl ?_
              refine xi_iconst (pc' := 150) rfl rfl ?_
              refine xi_iadd (pc' := 151) rfl rfl ?_
              refine xr_puti (z := 0) (pc' := 154) rfl rfl (by decide) (Or.inl rfl) rfl ?_
              refine xi_iload (pc' := 156) rfl rfl rfl ?_
              refine xi_iff (pc' := 159) (tg := 163) rfl rfl (by decide) rfl ?_
              refine xi_iconst (pc' := 160) rfl rfl ?_
              refine xi_goto (pc' := 164) rfl rfl ?_
              refine xx_ireturn rfl rfl ?_
              simp only [ex_P, Classical.not_not, ↓reduceIte, or_true, true_or, not_true_eq_false, not_false_eq_true, or_false, false_or, wI_get, false_and, true_and, and_true, and_false, and_self, Nat.reduceEqDiff, Nat.succ_ne_zero, reduceCtorEq, nI_lit, nI_lit0, Nat.reduceLT] at *
              first | (simp only [r_put, r_bm, ix_0, *, ↓reduceIte, or_true, true_or, not_true_eq_false, not_false_eq_true, or_false, false_or, wI_get, false_and, true_and, and_true, and_false, and_self, Nat.reduceEqDiff, Nat.succ_ne_zero, reduceCtorEq, nI_lit, nI_lit0, Nat.reduceLT]; done) | (exfalso; simp_all only [↓reduceIte, or_true, true_or, not_true_eq_false, not_false_eq_true, or_false, false_or, wI_get, false_and, true_and, and_true, and_false, and_self, Nat.reduceEqDiff, Nat.succ_ne_zero, reduceCtorEq, nI_lit, nI_lit0, Nat.reduceLT]; done)
            · refine xx_ldc (v := nI 262144) (pc' := 138) rfl rfl (by decide) rfl ?_
              refine xi_goto (pc' := 142) rfl rfl ?_
              refine xi_iadd (pc' := 143) rfl rfl ?_
              refine xr_iast (j := hwOf J % 60) (pc' := 144) rfl rfl (by decide) ((congrArg (fun x => x - x / nI 60 * nI 60) hh).trans (ix_rem h31 (by decide) (by decide))) (Nat.mod_lt _ (by decide)) (by decide) rfl ?_
              refine xi_aload_n (pc' := 145) rfl rfl rfl ?_
              refine xi_dup (pc' := 146) rfl rfl rfl ?_
              refine xr_geti (pc' := 149) rfl rfl (by decide) (by decide) rfl ?_
              refine xi_iconst (pc' := 150) rfl rfl ?_
              refine xi_iadd (pc' := 151) rfl rfl ?_
              refine xr_puti (z := 0) (pc' := 154) rfl rfl (by decide) (Or.inl rfl) rfl ?_
              refine xi_iload (pc' := 156) rfl rfl rfl ?_
              refine xi_iff (pc' := 159) (tg := 163) rfl rfl (by decide) rfl ?_
              refine xi_iconst (pc' := 160) rfl rfl ?_
              refine xi_goto (pc' := 164) rfl rfl ?_
              refine xx_ireturn rfl rfl ?_
              simp only [ex_P, Classical.not_not, ↓reduceIte, or_true, true_or, not_true_eq_false, not_false_eq_true, or_false, false_or, wI_get, false_and, true_and, and_true, and_false, and_self, Nat.reduceEqDiff, Nat.succ_ne_zero, reduceCtorEq, nI_lit, nI_lit0, Nat.reduceLT] at *
              first | (simp only [r_put, r_bm, ix_0, *, ↓reduceIte, or_true, true_or, not_true_eq_false, not_false_eq_true, or_false, false_or, wI_get, false_and, true_and, and_true, and_false, and_self, Nat.reduceEqDiff, Nat.succ_ne_zero, reduceCtorEq, nI_lit, nI_lit0, Nat.reduceLT]; done) | (exfalso; simp_all only [↓reduceIte, or_true, true_or, not_true_eq_false, not_false_eq_true, or_false, false_or, wI_get, false_and, true_and, and_true, and_false, and_self, Nat.reduceEqDiff, Nat.succ_ne_zero, reduceCtorEq, nI_lit, nI_lit0, Nat.reduceLT]; done)
          · refine xx_ldc (v := nI 65536) (pc' := 114) rfl rfl (by decide) rfl ?_
            refine xi_goto (pc' := 118) rfl rfl ?_
            refine xi_iadd (pc' := 119) rfl rfl ?_
            refine xi_iload (pc' := 121) rfl rfl rfl ?_
            refine xi_iff (pc' := 124) (tg := 129) rfl rfl (by decide) rfl ?_
            refine xx_ldc (v := nI 131072) (pc' := 126) rfl rfl (by decide) rfl ?_
            refine xi_goto (pc' := 130) rfl rfl ?_
            refine xi_iadd (pc' := 131) rfl rfl ?_
            refine xi_iload_n (pc' := 132) rfl rfl rfl ?_
            refine xi_iconst (pc' := 133) rfl rfl ?_
            refine xx_icmp (pc' := 136) (tg := 141) rfl rfl rfl (fun q133 => ?_) (fun q133 => ?_)
            · refine xi_iconst (pc' := 142) rfl rfl ?_
              refine xi_iadd (pc' := 143) rfl rfl ?_
              refine xr_iast (j := hwOf J % 60) (pc' := 144) rfl rfl (by decide) ((congrArg (fun x => x - x / nI 60 * nI 60) hh).trans (ix_rem h31 (by decide) (by decide))) (Nat.mod_lt _ (by decide)) (by decide) rfl ?_
              refine xi_aload_n (pc' := 145) rfl rfl rfl ?_
              refine xi_dup (pc' := 146) rfl rfl rfl ?_
              refine xr_geti (pc' := 149) rfl rfl (by decide) (by decide) rfl ?_
              refine xi_iconst (pc' := 150) rfl rfl ?_
              refine xi_iadd (pc' := 151) rfl rfl ?_
              refine xr_puti (z := 0) (pc' := 154) rfl rfl (by decide) (Or.inl rfl) rfl ?_
              refine xi_iload (pc' := 156) rfl rfl rfl ?_
              refine xi_iff (pc' := 159) (tg := 163) rfl rfl (by decide) rfl ?_
              refine xi_iconst (pc' := 160) rfl rfl ?_
              refine xi_goto (pc' := 164) rfl rfl ?_
              refine xx_ireturn rfl rfl ?_
              simp only [ex_P, Classical.not_not, ↓reduceIte, or_true, true_or, not_true_eq_false, not_false_eq_true, or_false, false_or, wI_get, false_and, true_and, and_true, and_false, and_self, Nat.reduceEqDiff, Nat.succ_ne_zero, reduceCtorEq, nI_lit, nI_lit0, Nat.reduceLT] at *
              first | (simp only [r_put, r_bm, ix_0, *, ↓reduceIte, or_true, true_or, not_true_eq_false, not_false_eq_true, or_false, false_or, wI_get, false_and, true_and, and_true, and_false, and_self, Nat.reduceEqDiff, Nat.succ_ne_zero, reduceCtorEq, nI_lit, nI_lit0, Nat.reduceLT]; done) | (exfalso; simp_all only [↓reduceIte, or_true, true_or, not_true_eq_false, not_false_eq_true, or_false, false_or, wI_get, false_and, true_and, and_true, and_false, and_self, Nat.reduceEqDiff, Nat.succ_ne_zero, reduceCtorEq, nI_lit, nI_lit0, Nat.reduceLT]; done)
            · refine xx_ldc (v := nI 262144) (pc' := 138) rfl rfl (by decide) rfl ?_
              refine xi_goto (pc' := 142) rfl rfl ?_
              refine xi_iadd (pc' := 143) rfl rfl ?_
              refine xr_iast (j := hwOf J % 60) (pc' := 144) rfl rfl (by decide) ((congrArg (fun x => x - x / nI 60 * nI 60) hh).trans (ix_rem h31 (by decide) (by decide))) (Nat.mod_lt _ (by decide)) (by decide) rfl ?_
              refine xi_aload_n (pc' := 145) rfl rfl rfl ?_
              refine xi_dup (pc' := 146) rfl rfl rfl ?_
              refine xr_geti (pc' := 149) rfl rfl (by decide) (by decide) rfl ?_
              refine xi_iconst (pc' := 150) rfl rfl ?_
              refine xi_iadd (pc' := 151) rfl rfl ?_
              refine xr_puti (z := 0) (pc' := 154) rfl rfl (by decide) (Or.inl rfl) rfl ?_
              refine xi_iload (pc' := 156) rfl rfl rfl ?_
              refine xi_iff (pc' := 159) (tg := 163) rfl rfl (by decide) rfl ?_
              refine xi_iconst (pc' := 160) rfl rfl ?_
              refine xi_goto (pc' := 164) rfl rfl ?_
              refine xx_ireturn rfl rfl ?_
              simp only [ex_P, Classical.not_not, ↓reduceIte, or_true, true_or, not_true_eq_false, not_false_eq_true, or_false, false_or, wI_get, false_and, true_and, and_true, and_false, and_self, Nat.reduceEqDiff, Nat.succ_ne_zero, reduceCtorEq, nI_lit, nI_lit0, Nat.reduceLT] at *
              first | (simp only [r_put, r_bm, ix_0, *, ↓reduceIte, or_true, true_or, not_true_eq_false, not_false_eq_true, or_false, false_or, wI_get, false_and, true_and, and_true, and_false, and_self, Nat.reduceEqDiff, Nat.succ_ne_zero, reduceCtorEq, nI_lit, nI_lit0, Nat.reduceLT]; done) | (exfalso; simp_all only [↓reduceIte, or_true, true_or, not_true_eq_false, not_false_eq_true, or_false, false_or, wI_get, false_and, true_and, and_true, and_false, and_self, Nat.reduceEqDiff, Nat.succ_ne_zero, reduceCtorEq, nI_lit, nI_lit0, Nat.reduceLT]; done)
        · refine xi_iconst (pc' := 95) rfl rfl ?_
          refine xx_ireturn rfl rfl ?_
          simp only [ex_P, Classical.not_not, ↓reduceIte, or_true, true_or, not_true_eq_false, not_false_eq_true, or_false, false_or, wI_get, false_and, true_and, and_true, and_false, and_self, Nat.reduceEqDiff, Nat.succ_ne_zero, reduceCtorEq, nI_lit, nI_lit0, Nat.reduceLT] at *
          first | (simp only [r_put, r_bm, ix_0, *, ↓reduceIte, or_true, true_or, not_true_eq_false, not_false_eq_true, or_false, false_or, wI_get, false_and, true_and, and_true, and_false, and_self, Nat.reduceEqDiff, Nat.succ_ne_zero, reduceCtorEq, nI_lit, nI_lit0, Nat.reduceLT]; done) | (exfalso; simp_all only [↓reduceIte, or_true, true_or, not_true_eq_false, not_false_eq_true, or_false, false_or, wI_get, false_and, true_and, and_true, and_false, and_self, Nat.reduceEqDiff, Nat.succ_ne_zero, reduceCtorEq, nI_lit, nI_lit0, Nat.reduceLT]; done)
theorem r_put0 {L : Nat} {xs : Nat → Int32} {D n : Nat} {I J : ex_Mem} {b N : Nat} {v : Int32} (hb : b < 2) (hh : hwB N J) (hN : N < 2 ^ 31) : ri L xs D 111 [.ref 52, .int (nI b), .int (nI 0), .int v] (mkH n I J) (r_put J b v).1 (mkH n I (r_put J b v).2) := by
  have h := r_put_d (L := L) (xs := xs) (D := D) (n := n) (I := I) (N := N) (d := nI 0) (v := v) hb hh.1 (Nat.lt_of_le_of_lt hh.2 hN)
  rw [if_pos (by decide), ix_0] at h
  exact h
theorem r_put1 {L : Nat} {xs : Nat → Int32} {D n : Nat} {I J : ex_Mem} {b N : Nat} {v : Int32} (hb : b < 2) (hh : hwB N J) (hN : N < 2 ^ 31) : ri L xs D 111 [.ref 52, .int (nI b), .int (nI 1), .int v] (mkH n I J) (r_put J b (v + nI 65536)).1 (mkH n I (r_put J b (v + nI 65536)).2) := by
  have h := r_put_d (L := L) (xs := xs) (D := D) (n := n) (I := I) (N := N) (d := nI 1) (v := v) hb hh.1 (Nat.lt_of_le_of_lt hh.2 hN)
  rw [if_neg (by decide)] at h
  exact h
theorem hwOf_of {J : ex_Mem} {h : Nat} (e : J 52 3 = nI h) (h31 : h < 2 ^ 31) : hwOf J = h := by
  unfold hwOf
  rw [e]
  exact nI_clamp h31
theorem hwB_w {N : Nat} {J : ex_Mem} (hh : hwB N J) {a k : Nat} {v : Int32} (ha : ¬ (52 = a ∧ 3 = k)) : hwB N (ex_wI J a k v) := by
  have e : ex_wI J a k v 52 3 = J 52 3 := if_neg ha
  have e2 : hwOf (ex_wI J a k v) = hwOf J := congrArg Int32.toNatClampNeg e
  exact ⟨by rw [e, e2]; exact hh.1, by rw [e2]; exact hh.2⟩
theorem hwB_up {N M : Nat} {J : ex_Mem} (hh : hwB N J) (h : N ≤ M) : hwB M J := ⟨hh.1, Nat.le_trans hh.2 h⟩
theorem hwB_inc {N : Nat} {J J' : ex_Mem} (hh : hwB N J) (hN : N + 1 < 2 ^ 31) (e : J' 52 3 = J 52 3 + nI 1) : hwB (N + 1) J' := by
  have e1 : J' 52 3 = nI (hwOf J + 1) := by rw [e, hh.1, ix_add]
  have e2 := hwOf_of e1 (by have := hh.2; omega)
  exact ⟨by rw [e2]; exact e1, by rw [e2]; have := hh.2; omega⟩
theorem hwB_put {N b : Nat} {J : ex_Mem} {w : Int32} (hh : hwB N J) (hN : N + 1 < 2 ^ 31) : hwB (N + 1) (r_put J b w).2 := by
  unfold r_put
  split
  · exact hwB_inc hh hN rfl
  · split
    · exact hwB_up hh (by omega)
    · split
      · exact hwB_inc hh hN rfl
      · exact hwB_up (hwB_w (hwB_w hh (by omega)) (by omega)) (by omega)
def r_says (J : ex_Mem) (t b : Nat) (w : Int32) : Int32 × ex_Mem := if J 66 (2 * t + b) = 0 then r_put J b w else (nI 0, J)
theorem hwB_says {N t b : Nat} {J : ex_Mem} {w : Int32} (hh : hwB N J) (hN : N + 1 < 2 ^ 31) : hwB (N + 1) (r_says J t b w).2 := by
  unfold r_says
  split
  · exact hwB_put hh hN
  · exact hwB_up hh (by omega)
theorem r_says0 {L : Nat} {xs : Nat → Int32} {D n : Nat} {I J : ex_Mem} {t b N : Nat} {v : Int32} (ht : t < 6) (hb : b < 2) (hh : hwB N J) (hN : N < 2 ^ 31) : ri L xs (D + 1) 114 [.ref 52, .int (nI t), .int (nI b), .int (nI 0), .int v] (mkH n I J) ((r_says J t b v).1) (mkH n I (r_says J t b v).2) := by
  show xx cb_G _ _ _ 114 0 [.ref 52, .int (nI t), .int (nI b), .int (nI 0), .int v] [] _ _
  refine xi_aload_n (pc' := 1) rfl rfl rfl ?_
  refine xr_getp (pc' := 4) rfl rfl (by decide) rfl rfl rfl ?_
  refine xi_iconst (pc' := 5) rfl rfl ?_
  refine xi_iload_n (pc' := 6) rfl rfl rfl ?_
  refine xi_imul (pc' := 7) rfl rfl ?_
  refine xi_iload_n (pc' := 8) rfl rfl rfl ?_
  refine xi_iadd (pc' := 9) rfl rfl ?_
  refine xr_zald (j := (2) * (t) + b) (pc' := 10) rfl rfl (by decide) (by first | rfl | (simp only [ix_add, ix_mul, ix_pred]; done) | (simp only [ix_add, ix_mul, ix_pred, *]; done)) (by omega) (by decide) rfl ?_
  refine xx_if (pc' := 13) (tg := 17) rfl rfl rfl (fun q10 => ?_) (fun q10 => ?_)
  · refine xi_aload_n (pc' := 18) rfl rfl rfl ?_
    refine xi_iload_n (pc' := 19) rfl rfl rfl ?_
    refine xi_iload_n (pc' := 20) rfl rfl rfl ?_
    refine xi_iload (pc' := 22) rfl rfl rfl ?_
    refine xx_callVi (pc' := 25) rfl rfl (by decide) rfl rfl (by show _ < 81 + 2 * _; omega) (Nat.le_of_ble_eq_true rfl) rfl rfl (r_put0 hb hh hN) ?_
    refine xx_ireturn rfl rfl ?_
    simp only [ex_P, Classical.not_not, ↓reduceIte, or_true, true_or, not_true_eq_false, not_false_eq_true, or_false, false_or, wI_get, false_and, true_and, and_true, and_false, and_self, Nat.reduceEqDiff, Nat.succ_ne_zero, reduceCtorEq, nI_lit, nI_lit0, Nat.reduceLT] at *
    first | (simp only [r_says, *, ↓reduceIte, or_true, true_or, not_true_eq_false, not_false_eq_true, or_false, false_or, wI_get, false_and, true_and, and_true, and_false, and_self, Nat.reduceEqDiff, Nat.succ_ne_zero, reduceCtorEq, nI_lit, nI_lit0, Nat.reduceLT]; done) | (exfalso; simp_all only [↓reduceIte, or_true, true_or, not_true_eq_false, not_false_eq_true, or_false, false_or, wI_get, false_and, true_and, and_true, and_false, and_self, Nat.reduceEqDiff, Nat.succ_ne_zero, reduceCtorEq, nI_lit, nI_lit0, Nat.reduceLT]; done)
  · refine xi_iconst (pc' := 14) rfl rfl ?_
    refine xi_goto (pc' := 25) rfl rfl ?_
    refine xx_ireturn rfl rfl ?_
    simp only [ex_P, Classical.not_not, ↓reduceIte, or_true, true_or, not_true_eq_false, not_false_eq_true, or_false, false_or, wI_get, false_and, true_and, and_true, and_false, and_self, Nat.reduceEqDiff, Nat.succ_ne_zero, reduceCtorEq, nI_lit, nI_lit0, Nat.reduceLT] at *
    first | (simp only [r_says, *, ↓reduceIte, or_true, true_or, not_true_eq_false, not_false_eq_true, or_false, false_or, wI_get, false_and, true_and, and_true, and_false, and_self, Nat.reduceEqDiff, Nat.succ_ne_zero, reduceCtorEq, nI_lit, nI_lit0, Nat.reduceLT]; done) | (exfalso; simp_all only [↓reduceIte, or_true, true_or, not_true_eq_false, not_false_eq_true, or_false, false_or, wI_get, false_and, true_and, and_true, and_false, and_self, Nat.reduceEqDiff, Nat.succ_ne_zero, reduceCtorEq, nI_lit, nI_lit0, Nat.reduceLT]; done)
theorem r_says1 {L : Nat} {xs : Nat → Int32} {D n : Nat} {I J : ex_Mem} {t b N : Nat} {v : Int32} (ht : t < 6) (hb : b < 2) (hh : hwB N J) (hN : N < 2 ^ 31) : ri L xs (D + 1) 114 [.ref 52, .int (nI t), .int (nI b), .int (nI 1), .int v] (mkH n I J) ((r_says J t b (v + nI 65536)).1) (mkH n I (r_says J t b (v + nI 65536)).2) := by
  show xx cb_G _ _ _ 114 0 [.ref 52, .int (nI t), .int (nI b), .int (nI 1), .int v] [] _ _
  refine xi_aload_n (pc' := 1) rfl rfl rfl ?_
  refine xr_getp (pc' := 4) rfl rfl (by decide) rfl rfl rfl ?_
  refine xi_iconst (pc' := 5) rfl rfl ?_
  refine xi_iload_n (pc' := 6) rfl rfl rfl ?_
  refine xi_imul (pc' := 7) rfl rfl ?_
  refine xi_iload_n (pc' := 8) rfl rfl rfl ?_
  refine xi_iadd (pc' := 9) rfl rfl ?_
  refine xr_zald (j := (2) * (t) + b) (pc' := 10) rfl rfl (by decide) (by first | rfl | (simp only [ix_add, ix_mul, ix_pred]; done) | (simp only [ix_add, ix_mul, ix_pred, *]; done)) (by omega) (by decide) rfl ?_
  refine xx_if (pc' := 13) (tg := 17) rfl rfl rfl (fun q10 => ?_) (fun q10 => ?_)
  · refine xi_aload_n (pc' := 18) rfl rfl rfl ?_
    refine xi_iload_n (pc' := 19) rfl rfl rfl ?_
    refine xi_iload_n (pc' := 20) rfl rfl rfl ?_
    refine xi_iload (pc' := 22) rfl rfl rfl ?_
    refine xx_callVi (pc' := 25) rfl rfl (by decide) rfl rfl (by show _ < 81 + 2 * _; omega) (Nat.le_of_ble_eq_true rfl) rfl rfl (r_put1 hb hh hN) ?_
    refine xx_ireturn rfl rfl ?_
    simp only [ex_P, Classical.not_not, ↓reduceIte, or_true, true_or, not_true_eq_false, not_false_eq_true, or_false, false_or, wI_get, false_and, true_and, and_true, and_false, and_self, Nat.reduceEqDiff, Nat.succ_ne_zero, reduceCtorEq, nI_lit, nI_lit0, Nat.reduceLT] at *
    first | (simp only [r_says, *, ↓reduceIte, or_true, true_or, not_true_eq_false, not_false_eq_true, or_false, false_or, wI_get, false_and, true_and, and_true, and_false, and_self, Nat.reduceEqDiff, Nat.succ_ne_zero, reduceCtorEq, nI_lit, nI_lit0, Nat.reduceLT]; done) | (exfalso; simp_all only [↓reduceIte, or_true, true_or, not_true_eq_false, not_false_eq_true, or_false, false_or, wI_get, false_and, true_and, and_true, and_false, and_self, Nat.reduceEqDiff, Nat.succ_ne_zero, reduceCtorEq, nI_lit, nI_lit0, Nat.reduceLT]; done)
  · refine xi_iconst (pc' := 14) rfl rfl ?_
    refine xi_goto (pc' := 25) rfl rfl ?_
    refine xx_ireturn rfl rfl ?_
    simp only [ex_P, Classical.not_not, ↓reduceIte, or_true, true_or, not_true_eq_false, not_false_eq_true, or_false, false_or, wI_get, false_and, true_and, and_true, and_false, and_self, Nat.reduceEqDiff, Nat.succ_ne_zero, reduceCtorEq, nI_lit, nI_lit0, Nat.reduceLT] at *
    first | (simp only [r_says, *, ↓reduceIte, or_true, true_or, not_true_eq_false, not_false_eq_true, or_false, false_or, wI_get, false_and, true_and, and_true, and_false, and_self, Nat.reduceEqDiff, Nat.succ_ne_zero, reduceCtorEq, nI_lit, nI_lit0, Nat.reduceLT]; done) | (exfalso; simp_all only [↓reduceIte, or_true, true_or, not_true_eq_false, not_false_eq_true, or_false, false_or, wI_get, false_and, true_and, and_true, and_false, and_self, Nat.reduceEqDiff, Nat.succ_ne_zero, reduceCtorEq, nI_lit, nI_lit0, Nat.reduceLT]; done)
theorem r_saysStatus {L : Nat} {xs : Nat → Int32} {D n : Nat} {I J : ex_Mem} {t b N : Nat} (ht : t < 6) (hb : b < 2) (hh : hwB N J) (hN : N < 2 ^ 31) : ri L xs (D + 2) 113 [.ref 52, .int (nI t), .int (nI b)] (mkH n I J) ((r_says J t b (r_st J t)).1) (mkH n I (r_says J t b (r_st J t)).2) := by
  show xx cb_G _ _ _ 113 0 [.ref 52, .int (nI t), .int (nI b)] [] _ _
  refine xi_aload_n (pc' := 1) rfl rfl rfl ?_
  refine xi_iload_n (pc' := 2) rfl rfl rfl ?_
  refine xi_iload_n (pc' := 3) rfl rfl rfl ?_
  refine xi_iconst (pc' := 4) rfl rfl ?_
  refine xi_aload_n (pc' := 5) rfl rfl rfl ?_
  refine xi_iload_n (pc' := 6) rfl rfl rfl ?_
  refine xx_callVi (pc' := 9) rfl rfl (by decide) rfl rfl (by show _ < 81 + 2 * _; omega) (Nat.le_of_ble_eq_true rfl) rfl rfl (r_statusOf ht) ?_
  refine xx_callVi (pc' := 12) rfl rfl (by decide) rfl rfl (by show _ < 81 + 2 * _; omega) (Nat.le_of_ble_eq_true rfl) rfl rfl (r_says0 ht hb hh hN) ?_
  refine xx_ireturn rfl rfl ?_
  exact ⟨rfl, rfl⟩
def r_hears (J : ex_Mem) (t : Nat) (how c km kl : Int32) : Int32 × ex_Mem :=
  if ¬ how = nI 1 ∨ ¬ J 57 t = 0 then (nI 0, J)
  else if km = 0 then (if kl = 0 then (nI 1, ex_wI (ex_wI (ex_wI J 62 t (nI 0)) 63 t (nI 0)) 64 t c) else (nI 1, ex_wI (ex_wI J 62 t (nI 0)) 63 t (nI 0)))
  else (if kl = 0 then (nI 1, ex_wI J 64 t c) else (nI 1, J))
theorem r_hears_ok {L : Nat} {xs : Nat → Int32} {D n : Nat} {I J : ex_Mem} {t : Nat} {how c km kl : Int32} (ht : t < 6) : ri L xs D 112 [.ref 52, .int (nI t), .int how, .int c, .int km, .int kl] (mkH n I J) ((r_hears J t how c km kl).1) (mkH n I (r_hears J t how c km kl).2) := by
  show xx cb_G _ _ _ 112 0 [.ref 52, .int (nI t), .int how, .int c, .int km, .int kl] [] _ _
  refine xi_iload_n (pc' := 1) rfl rfl rfl ?_
  refine xi_iconst (pc' := 2) rfl rfl ?_
  refine xx_icmp (pc' := 5) (tg := 14) rfl rfl rfl (fun q2 => ?_) (fun q2 => ?_)
  · refine xi_iconst (pc' := 15) rfl rfl ?_
    refine xx_zreturn rfl rfl (by decide) ?_
    simp only [ex_P, Classical.not_not, ↓reduceIte, or_true, true_or, not_true_eq_false, not_false_eq_true, or_false, false_or, wI_get, false_and, true_and, and_true, and_false, and_self, Nat.reduceEqDiff, Nat.succ_ne_zero, reduceCtorEq, nI_lit, nI_lit0, Nat.reduceLT] at *
    first | (simp only [r_hears, *, ↓reduceIte, or_true, true_or, not_true_eq_false, not_false_eq_true, or_false, false_or, wI_get, false_and, true_and, and_true, and_false, and_self, Nat.reduceEqDiff, Nat.succ_ne_zero, reduceCtorEq, nI_lit, nI_lit0, Nat.reduceLT]; done) | (exfalso; simp_all only [↓reduceIte, or_true, true_or, not_true_eq_false, not_false_eq_true, or_false, false_or, wI_get, false_and, true_and, and_true, and_false, and_self, Nat.reduceEqDiff, Nat.succ_ne_zero, reduceCtorEq, nI_lit, nI_lit0, Nat.reduceLT]; done)
  · refine xi_aload_n (pc' := 6) rfl rfl rfl ?_
    refine xr_getp (pc' := 9) rfl rfl (by decide) rfl rfl rfl ?_
    refine xi_iload_n (pc' := 10) rfl rfl rfl ?_
    refine xr_zald (j := t) (pc' := 11) rfl rfl (by decide) (by first | rfl | (simp only [ix_add, ix_mul, ix_pred]; done) | (simp only [ix_add, ix_mul, ix_pred, *]; done)) (by omega) (by decide) rfl ?_
    refine xx_if (pc' := 14) (tg := 16) rfl rfl rfl (fun q11 => ?_) (fun q11 => ?_)
    · refine xi_iload (pc' := 18) rfl rfl rfl ?_
      refine xx_if (pc' := 21) (tg := 35) rfl rfl rfl (fun q18 => ?_) (fun q18 => ?_)
      · refine xi_iload (pc' := 37) rfl rfl rfl ?_
        refine xx_if (pc' := 40) (tg := 47) rfl rfl rfl (fun q37 => ?_) (fun q37 => ?_)
        · refine xi_iconst (pc' := 48) rfl rfl ?_
          refine xx_zreturn rfl rfl (by decide) ?_
          simp only [ex_P, Classical.not_not, ↓reduceIte, or_true, true_or, not_true_eq_false, not_false_eq_true, or_false, false_or, wI_get, false_and, true_and, and_true, and_false, and_self, Nat.reduceEqDiff, Nat.succ_ne_zero, reduceCtorEq, nI_lit, nI_lit0, Nat.reduceLT] at *
          first | (simp only [r_hears, *, ↓reduceIte, or_true, true_or, not_true_eq_false, not_false_eq_true, or_false, false_or, wI_get, false_and, true_and, and_true, and_false, and_self, Nat.reduceEqDiff, Nat.succ_ne_zero, reduceCtorEq, nI_lit, nI_lit0, Nat.reduceLT]; done) | (exfalso; simp_all only [↓reduceIte, or_true, true_or, not_true_eq_false, not_false_eq_true, or_false, false_or, wI_get, false_and, true_and, and_true, and_false, and_self, Nat.reduceEqDiff, Nat.succ_ne_zero, reduceCtorEq, nI_lit, nI_lit0, Nat.reduceLT]; done)
        · refine xi_aload_n (pc' := 41) rfl rfl rfl ?_
          refine xr_getp (pc' := 44) rfl rfl (by decide) rfl rfl rfl ?_
          refine xi_iload_n (pc' := 45) rfl rfl rfl ?_
          refine xi_iload_n (pc' := 46) rfl rfl rfl ?_
          refine xr_iast (j := t) (pc' := 47) rfl rfl (by decide) (by first | rfl | (simp only [ix_add, ix_mul, ix_pred]; done) | (simp only [ix_add, ix_mul, ix_pred, *]; done)) (by omega) (by decide) rfl ?_
          refine xi_iconst (pc' := 48) rfl rfl ?_
          refine xx_zreturn rfl rfl (by decide) ?_
          simp only [ex_P, Classical.not_not, ↓reduceIte, or_true, true_or, not_true_eq_false, not_false_eq_true, or_false, false_or, wI_get, false_and, true_and, and_true, and_false, and_self, Nat.reduceEqDiff, Nat.succ_ne_zero, reduceCtorEq, nI_lit, nI_lit0, Nat.reduceLT] at *
          first | (simp only [r_hears, *, ↓reduceIte, or_true, true_or, not_true_eq_false, not_false_eq_true, or_false, false_or, wI_get, false_and, true_and, and_true, and_false, and_self, Nat.reduceEqDiff, Nat.succ_ne_zero, reduceCtorEq, nI_lit, nI_lit0, Nat.reduceLT]; done) | (exfalso; simp_all only [↓reduceIte, or_true, true_or, not_true_eq_false, not_false_eq_true, or_false, false_or, wI_get, false_and, true_and, and_true, and_false, and_self, Nat.reduceEqDiff, Nat.succ_ne_zero, reduceCtorEq, nI_lit, nI_lit0, Nat.reduceLT]; done)
      · refine xi_aload_n (pc' := 22) rfl rfl rfl ?_
        refine xr_getp (pc' := 25) rfl rfl (by decide) rfl rfl rfl ?_
        refine xi_iload_n (pc' := 26) rfl rfl rfl ?_
        refine xi_iconst (pc' := 27) rfl rfl ?_
        refine xr_zast (j := t) (pc' := 28) rfl rfl (by decide) (by first | rfl | (simp only [ix_add, ix_mul, ix_pred]; done) | (simp only [ix_add, ix_mul, ix_pred, *]; done)) (by omega) (by decide) (by decide) rfl ?_
        refine xi_aload_n (pc' := 29) rfl rfl rfl ?_
        refine xr_getp (pc' := 32) rfl rfl (by decide) rfl rfl rfl ?_
        refine xi_iload_n (pc' := 33) rfl rfl rfl ?_
        refine xi_iconst (pc' := 34) rfl rfl ?_
        refine xr_zast (j := t) (pc' := 35) rfl rfl (by decide) (by first | rfl | (simp only [ix_add, ix_mul, ix_pred]; done) | (simp only [ix_add, ix_mul, ix_pred, *]; done)) (by omega) (by decide) (by decide) rfl ?_
        refine xi_iload (pc' := 37) rfl rfl rfl ?_
        refine xx_if (pc' := 40) (tg := 47) rfl rfl rfl (fun q37 => ?_) (fun q37 => ?_)
        · refine xi_iconst (pc' := 48) rfl rfl ?_
          refine xx_zreturn rfl rfl (by decide) ?_
          simp only [ex_P, Classical.not_not, ↓reduceIte, or_true, true_or, not_true_eq_false, not_false_eq_true, or_false, false_or, wI_get, false_and, true_and, and_true, and_false, and_self, Nat.reduceEqDiff, Nat.succ_ne_zero, reduceCtorEq, nI_lit, nI_lit0, Nat.reduceLT] at *
          first | (simp only [r_hears, *, ↓reduceIte, or_true, true_or, not_true_eq_false, not_false_eq_true, or_false, false_or, wI_get, false_and, true_and, and_true, and_false, and_self, Nat.reduceEqDiff, Nat.succ_ne_zero, reduceCtorEq, nI_lit, nI_lit0, Nat.reduceLT]; done) | (exfalso; simp_all only [↓reduceIte, or_true, true_or, not_true_eq_false, not_false_eq_true, or_false, false_or, wI_get, false_and, true_and, and_true, and_false, and_self, Nat.reduceEqDiff, Nat.succ_ne_zero, reduceCtorEq, nI_lit, nI_lit0, Nat.reduceLT]; done)
        · refine xi_aload_n (pc' := 41) rfl rfl rfl ?_
          refine xr_getp (pc' := 44) rfl rfl (by decide) rfl rfl rfl ?_
          refine xi_iload_n (pc' := 45) rfl rfl rfl ?_
          refine xi_iload_n (pc' := 46) rfl rfl rfl ?_
          refine xr_iast (j := t) (pc' := 47) rfl rfl (by decide) (by first | rfl | (simp only [ix_add, ix_mul, ix_pred]; done) | (simp only [ix_add, ix_mul, ix_pred, *]; done)) (by omega) (by decide) rfl ?_
          refine xi_iconst (pc' := 48) rfl rfl ?_
          refine xx_zreturn rfl rfl (by decide) ?_
          simp only [ex_P, Classical.not_not, ↓reduceIte, or_true, true_or, not_true_eq_false, not_false_eq_true, or_false, false_or, wI_get, false_and, true_and, and_true, and_false, and_self, Nat.reduceEqDiff, Nat.succ_ne_zero, reduceCtorEq, nI_lit, nI_lit0, Nat.reduceLT] at *
          first | (simp only [r_hears, *, ↓reduceIte, or_true, true_or, not_true_eq_false, not_false_eq_true, or_false, false_or, wI_get, false_and, true_and, and_true, and_false, and_self, Nat.reduceEqDiff, Nat.succ_ne_zero, reduceCtorEq, nI_lit, nI_lit0, Nat.reduceLT]; done) | (exfalso; simp_all only [↓reduceIte, or_true, true_or, not_true_eq_false, not_false_eq_true, or_false, false_or, wI_get, false_and, true_and, and_true, and_false, and_self, Nat.reduceEqDiff, Nat.succ_ne_zero, reduceCtorEq, nI_lit, nI_lit0, Nat.reduceLT]; done)
    · refine xi_iconst (pc' := 15) rfl rfl ?_
      refine xx_zreturn rfl rfl (by decide) ?_
      simp only [ex_P, Classical.not_not, ↓reduceIte, or_true, true_or, not_true_eq_false, not_false_eq_true, or_false, false_or, wI_get, false_and, true_and, and_true, and_false, and_self, Nat.reduceEqDiff, Nat.succ_ne_zero, reduceCtorEq, nI_lit, nI_lit0, Nat.reduceLT] at *
      first | (simp only [r_hears, *, ↓reduceIte, or_true, true_or, not_true_eq_false, not_false_eq_true, or_false, false_or, wI_get, false_and, true_and, and_true, and_false, and_self, Nat.reduceEqDiff, Nat.succ_ne_zero, reduceCtorEq, nI_lit, nI_lit0, Nat.reduceLT]; done) | (exfalso; simp_all only [↓reduceIte, or_true, true_or, not_true_eq_false, not_false_eq_true, or_false, false_or, wI_get, false_and, true_and, and_true, and_false, and_self, Nat.reduceEqDiff, Nat.succ_ne_zero, reduceCtorEq, nI_lit, nI_lit0, Nat.reduceLT]; done)
def gdOf (J : ex_Mem) : Nat := (J 52 32).toNatClampNeg
def gdB (N : Nat) (J : ex_Mem) : Prop := J 52 32 = nI (gdOf J) ∧ gdOf J ≤ N
def r_dw (J : ex_Mem) (how v : Int32) : ex_Mem := if how = nI 1 then ex_wI (ex_wI J 79 (gdOf J) v) 52 32 (J 52 32 + nI 1) else J
theorem r_dataWord {L : Nat} {xs : Nat → Int32} {D n : Nat} {I J : ex_Mem} {N : Nat} {how v : Int32} (hg : gdB N J) (hN : N < 4) : ro L xs D 120 [.ref 52, .int how, .int v] (mkH n I J) (mkH n I (r_dw J how v)) := by
  show xx cb_G _ _ _ 120 0 [.ref 52, .int how, .int v] [] _ _
  refine xi_iload_n (pc' := 1) rfl rfl rfl ?_
  refine xi_iconst (pc' := 2) rfl rfl ?_
  refine xx_icmp (pc' := 5) (tg := 25) rfl rfl rfl (fun q2 => ?_) (fun q2 => ?_)
  · refine xx_return rfl (by decide) ?_
    simp only [ex_P, Classical.not_not, ↓reduceIte, or_true, true_or, not_true_eq_false, not_false_eq_true, or_false, false_or, wI_get, false_and, true_and, and_true, and_false, and_self, Nat.reduceEqDiff, Nat.succ_ne_zero, reduceCtorEq, nI_lit, nI_lit0, Nat.reduceLT] at *
    first | (simp only [r_dw, *, ↓reduceIte, or_true, true_or, not_true_eq_false, not_false_eq_true, or_false, false_or, wI_get, false_and, true_and, and_true, and_false, and_self, Nat.reduceEqDiff, Nat.succ_ne_zero, reduceCtorEq, nI_lit, nI_lit0, Nat.reduceLT]; done) | (exfalso; simp_all only [↓reduceIte, or_true, true_or, not_true_eq_false, not_false_eq_true, or_false, false_or, wI_get, false_and, true_and, and_true, and_false, and_self, Nat.reduceEqDiff, Nat.succ_ne_zero, reduceCtorEq, nI_lit, nI_lit0, Nat.reduceLT]; done)
  · refine xi_aload_n (pc' := 6) rfl rfl rfl ?_
    refine xr_getp (pc' := 9) rfl rfl (by decide) rfl rfl rfl ?_
    refine xi_aload_n (pc' := 10) rfl rfl rfl ?_
    refine xr_geti (pc' := 13) rfl rfl (by decide) (by decide) rfl ?_
    refine xi_iload_n (pc' := 14) rfl rfl rfl ?_
    refine xr_iast (j := gdOf J) (pc' := 15) rfl rfl (by decide) (hg.1) (Nat.lt_of_le_of_lt hg.2 hN) (by decide) rfl ?_
    refine xi_aload_n (pc' := 16) rfl rfl rfl ?_
    refine xi_dup (pc' := 17) rfl rfl rfl ?_
    refine xr_geti (pc' := 20) rfl rfl (by decide) (by decide) rfl ?_
    refine xi_iconst (pc' := 21) rfl rfl ?_
    refine xi_iadd (pc' := 22) rfl rfl ?_
    refine xr_puti (z := 0) (pc' := 25) rfl rfl (by decide) (Or.inl rfl) rfl ?_
    refine xx_return rfl (by decide) ?_
    simp only [ex_P, Classical.not_not, ↓reduceIte, or_true, true_or, not_true_eq_false, not_false_eq_true, or_false, false_or, wI_get, false_and, true_and, and_true, and_false, and_self, Nat.reduceEqDiff, Nat.succ_ne_zero, reduceCtorEq, nI_lit, nI_lit0, Nat.reduceLT] at *
    first | (simp only [r_dw, *, ↓reduceIte, or_true, true_or, not_true_eq_false, not_false_eq_true, or_false, false_or, wI_get, false_and, true_and, and_true, and_false, and_self, Nat.reduceEqDiff, Nat.succ_ne_zero, reduceCtorEq, nI_lit, nI_lit0, Nat.reduceLT]; done) | (exfalso; simp_all only [↓reduceIte, or_true, true_or, not_true_eq_false, not_false_eq_true, or_false, false_or, wI_get, false_and, true_and, and_true, and_false, and_self, Nat.reduceEqDiff, Nat.succ_ne_zero, reduceCtorEq, nI_lit, nI_lit0, Nat.reduceLT]; done)
end
section
def r_f (J : ex_Mem) (nn k : Nat) : Int32 := if k < nn then J 79 k else nI 0
def r_fill (J : ex_Mem) (p nn : Nat) : ex_Mem := ex_wI (ex_wI (ex_wI (ex_wI J 60 p (r_f J nn 0)) 60 (p + 1) (r_f J nn 1)) 60 (p + 2) (r_f J nn 2)) 60 (p + 3) (r_f J nn 3)
def r_takes (J : ex_Mem) (t s nn : Nat) (fa : Int32) : Int32 × ex_Mem :=
  if nI nn ≤ J 52 32 then (nI 1, ex_wI (ex_wI (r_fill J (12 * t + 4 * s) nn) 61 (3 * t + s) (nI 1)) 63 t fa) else (nI 0, ex_wI J 62 t (nI 1))
theorem r_takes_1 {L : Nat} {xs : Nat → Int32} {D n : Nat} {I J : ex_Mem} {t s : Nat} {fa : Int32} (ht : t < 6) (hs : s < 3) (hfa : ex_b01 fa = true) : ri L xs (D + 1) 121 [.ref 52, .int (nI t), .int (nI (s + 1)), .int (nI 1), .int fa] (mkH n I J) ((r_takes J t s 1 fa).1) (mkH n I (r_takes J t s 1 fa).2) := by
  show xx cb_G _ _ _ 121 0 [.ref 52, .int (nI t), .int (nI (s + 1)), .int (nI 1), .int fa, ex_no, ex_no] [] _ _
  refine xi_aload_n (pc' := 1) rfl rfl rfl ?_
  refine xr_geti (pc' := 4) rfl rfl (by decide) (by decide) rfl ?_
  refine xi_iload_n (pc' := 5) rfl rfl rfl ?_
  refine xx_icmp (pc' := 8) (tg := 17) rfl rfl rfl (fun q5 => ?_) (fun q5 => ?_)
  · refine xi_iload_n (pc' := 18) rfl rfl rfl ?_
    refine xi_iload_n (pc' := 19) rfl rfl rfl ?_
    refine xx_callSi (pc' := 22) rfl rfl (by decide) rfl (Nat.le_of_ble_eq_true rfl) rfl rfl (r_place t s) ?_
    refine xi_istore (pc' := 24) rfl (st1_5 rfl) rfl ?_
    refine xi_iconst (pc' := 25) rfl rfl ?_
    refine xi_istore (pc' := 27) rfl (st1_6 rfl) rfl ?_
    refine xi_iload (pc' := 29) rfl rfl rfl ?_
    refine xi_iconst (pc' := 30) rfl rfl ?_
    refine xi_icmpf (pc' := 33) (tg := 66) rfl rfl (by decide) rfl ?_
    refine xi_aload_n (pc' := 34) rfl rfl rfl ?_
    refine xr_getp (pc' := 37) rfl rfl (by decide) rfl rfl rfl ?_
    refine xi_iload (pc' := 39) rfl rfl rfl ?_
    refine xi_iload (pc' := 41) rfl rfl rfl ?_
    refine xi_iadd (pc' := 42) rfl rfl ?_
    refine xi_iload (pc' := 44) rfl rfl rfl ?_
    refine xi_iload_n (pc' := 45) rfl rfl rfl ?_
    refine xi_icmpf (pc' := 48) (tg := 58) rfl rfl (by decide) rfl ?_
    refine xi_aload_n (pc' := 49) rfl rfl rfl ?_
    refine xr_getp (pc' := 52) rfl rfl (by decide) rfl rfl rfl ?_
    refine xi_iload (pc' := 54) rfl rfl rfl ?_
    refine xr_iald (j := 0) (pc' := 55) rfl rfl (by decide) (by first | rfl | (simp only [ix_add, ix_mul, ix_pred]; done) | (simp only [ix_add, ix_mul, ix_pred, *]; done)) (by omega) (by decide) rfl ?_
    refine xi_goto (pc' := 59) rfl rfl ?_
    refine xr_iast (j := 12 * t + 4 * s + 0) (pc' := 60) rfl rfl (by decide) (by first | rfl | (simp only [ix_add, ix_mul, ix_pred]; done) | (simp only [ix_add, ix_mul, ix_pred, *]; done)) (by omega) (by decide) rfl ?_
    refine xi_iincv (y := nI 1) (pc' := 63) rfl rfl (by decide) (st1_6 rfl) rfl ?_
    refine xi_goto (pc' := 27) rfl rfl ?_
    refine xi_iload (pc' := 29) rfl rfl rfl ?_
    refine xi_iconst (pc' := 30) rfl rfl ?_
    refine xi_icmpf (pc' := 33) (tg := 66) rfl rfl (by decide) rfl ?_
    refine xi_aload_n (pc' := 34) rfl rfl rfl ?_
    refine xr_getp (pc' := 37) rfl rfl (by decide) rfl rfl rfl ?_
    refine xi_iload (pc' := 39) rfl rfl rfl ?_
    refine xi_iload (pc' := 41) rfl rfl rfl ?_
    refine xi_iadd (pc' := 42) rfl rfl ?_
    refine xi_iload (pc' := 44) rfl rfl rfl ?_
    refine xi_iload_n (pc' := 45) rfl rfl rfl ?_
    refine xi_icmpt (pc' := 58) rfl rfl (by decide) ?_
    refine xi_iconst (pc' := 59) rfl rfl ?_
    refine xr_iast (j := 12 * t + 4 * s + 1) (pc' := 60) rfl rfl (by decide) (by first | rfl | (simp only [ix_add, ix_mul, ix_pred]; done) | (simp only [ix_add, ix_mul, ix_pred, *]; done)) (by omega) (by decide) rfl ?_
    refine xi_iincv (y := nI 2) (pc' := 63) rfl rfl (by decide) (st1_6 rfl) rfl ?_
    refine xi_goto (pc' := 27) rfl rfl ?_
    refine xi_iload (pc' := 29) rfl rfl rfl ?_
    refine xi_iconst (pc' := 30) rfl rfl ?_
    refine xi_icmpf (pc' := 33) (tg := 66) rfl rfl (by decide) rfl ?_
    refine xi_aload_n (pc' := 34) rfl rfl rfl ?_
    refine xr_getp (pc' := 37) rfl rfl (by decide) rfl rfl rfl ?_
    refine xi_iload (pc' := 39) rfl rfl rfl ?_
    refine xi_iload (pc' := 41) rfl rfl rfl ?_
    refine xi_iadd (pc' := 42) rfl rfl ?_
    refine xi_iload (pc' := 44) rfl rfl rfl ?_
    refine xi_iload_n (pc' := 45) rfl rfl rfl ?_
    refine xi_icmpt (pc' := 58) rfl rfl (by decide) ?_
    refine xi_iconst (pc' := 59) rfl rfl ?_
    refine xr_iast (j := 12 * t + 4 * s + 2) (pc' := 60) rfl rfl (by decide) (by first | rfl | (simp only [ix_add, ix_mul, ix_pred]; done) | (simp only [ix_add, ix_mul, ix_pred, *]; done)) (by omega) (by decide) rfl ?_
    refine xi_iincv (y := nI 3) (pc' := 63) rfl rfl (by decide) (st1_6 rfl) rfl ?_
    refine xi_goto (pc' := 27) rfl rfl ?_
    refine xi_iload (pc' := 29) rfl rfl rfl ?_
    refine xi_iconst (pc' := 30) rfl rfl ?_
    refine xi_icmpf (pc' := 33) (tg := 66) rfl rfl (by decide) rfl ?_
    refine xi_aload_n (pc' := 34) rfl rfl rfl ?_
    refine xr_getp (pc' := 37) rfl rfl (by decide) rfl rfl rfl ?_
    refine xi_iload (pc' := 39) rfl rfl rfl ?_
    refine xi_iload (pc' := 41) rfl rfl rfl ?_
    refine xi_iadd (pc' := 42) rfl rfl ?_
    refine xi_iload (pc' := 44) rfl rfl rfl ?_
    refine xi_iload_n (pc' := 45) rfl rfl rfl ?_
    refine xi_icmpt (pc' := 58) rfl rfl (by decide) ?_
    refine xi_iconst (pc' := 59) rfl rfl ?_
    refine xr_iast (j := 12 * t + 4 * s + 3) (pc' := 60) rfl rfl (by decide) (by first | rfl | (simp only [ix_add, ix_mul, ix_pred]; done) | (simp only [ix_add, ix_mul, ix_pred, *]; done)) (by omega) (by decide) rfl ?_
    refine xi_iincv (y := nI 4) (pc' := 63) rfl rfl (by decide) (st1_6 rfl) rfl ?_
    refine xi_goto (pc' := 27) rfl rfl ?_
    refine xi_iload (pc' := 29) rfl rfl rfl ?_
    refine xi_iconst (pc' := 30) rfl rfl ?_
    refine xi_icmpt (pc' := 66) rfl rfl (by decide) ?_
    refine xi_aload_n (pc' := 67) rfl rfl rfl ?_
    refine xr_getp (pc' := 70) rfl rfl (by decide) rfl rfl rfl ?_
    refine xi_iconst (pc' := 71) rfl rfl ?_
    refine xi_iload_n (pc' := 72) rfl rfl rfl ?_
    refine xi_imul (pc' := 73) rfl rfl ?_
    refine xi_iload_n (pc' := 74) rfl rfl rfl ?_
    refine xi_iadd (pc' := 75) rfl rfl ?_
    refine xi_iconst (pc' := 76) rfl rfl ?_
    refine xi_isub (pc' := 77) rfl rfl ?_
    refine xi_iconst (pc' := 78) rfl rfl ?_
    refine xr_zast (j := 3 * t + s) (pc' := 79) rfl rfl (by decide) (by simp only [ix_mul, ix_add]; exact ix_pred (3 * t + s)) (by omega) (by decide) (by decide) rfl ?_
    refine xi_aload_n (pc' := 80) rfl rfl rfl ?_
    refine xr_getp (pc' := 83) rfl rfl (by decide) rfl rfl rfl ?_
    refine xi_iload_n (pc' := 84) rfl rfl rfl ?_
    refine xi_iload (pc' := 86) rfl rfl rfl ?_
    refine xr_zast (j := t) (pc' := 87) rfl rfl (by decide) (by first | rfl | (simp only [ix_add, ix_mul, ix_pred]; done) | (simp only [ix_add, ix_mul, ix_pred, *]; done)) (by omega) (by decide) (hfa) rfl ?_
    refine xi_iconst (pc' := 88) rfl rfl ?_
    refine xx_zreturn rfl rfl (by first | rfl | assumption | exact b01_bI | simp [ex_b01, bI]) ?_
    simp only [ex_P, Classical.not_not, ↓reduceIte, Nat.add_zero, or_true, true_or, not_true_eq_false, not_false_eq_true, or_false, false_or, wI_get, false_and, true_and, and_true, and_false, and_self, Nat.reduceEqDiff, Nat.succ_ne_zero, reduceCtorEq, nI_lit, nI_lit0, Nat.reduceLT] at *
    first | (simp only [r_takes, r_fill, r_f, Nat.reduceAdd, *, ↓reduceIte, Nat.add_zero, or_true, true_or, not_true_eq_false, not_false_eq_true, or_false, false_or, wI_get, false_and, true_and, and_true, and_false, and_self, Nat.reduceEqDiff, Nat.succ_ne_zero, reduceCtorEq, nI_lit, nI_lit0, Nat.reduceLT]; done) | (exfalso; simp_all only [↓reduceIte, Nat.add_zero, or_true, true_or, not_true_eq_false, not_false_eq_true, or_false, false_or, wI_get, false_and, true_and, and_true, and_false, and_self, Nat.reduceEqDiff, Nat.succ_ne_zero, reduceCtorEq, nI_lit, nI_lit0, Nat.reduceLT]; done)
  · refine xi_aload_n (pc' := 9) rfl rfl rfl ?_
    refine xr_getp (pc' := 12) rfl rfl (by decide) rfl rfl rfl ?_
    refine xi_iload_n (pc' := 13) rfl rfl rfl ?_
    refine xi_iconst (pc' := 14) rfl rfl ?_
    refine xr_zast (j := t) (pc' := 15) rfl rfl (by decide) (by first | rfl | (simp only [ix_add, ix_mul, ix_pred]; done) | (simp only [ix_add, ix_mul, ix_pred, *]; done)) (by omega) (by decide) (by decide) rfl ?_
    refine xi_iconst (pc' := 16) rfl rfl ?_
    refine xx_zreturn rfl rfl (by first | rfl | assumption | exact b01_bI | simp [ex_b01, bI]) ?_
    simp only [ex_P, Classical.not_not, ↓reduceIte, Nat.add_zero, or_true, true_or, not_true_eq_false, not_false_eq_true, or_false, false_or, wI_get, false_and, true_and, and_true, and_false, and_self, Nat.reduceEqDiff, Nat.succ_ne_zero, reduceCtorEq, nI_lit, nI_lit0, Nat.reduceLT] at *
    first | (simp only [r_takes, r_fill, r_f, Nat.reduceAdd, *, ↓reduceIte, Nat.add_zero, or_true, true_or, not_true_eq_false, not_false_eq_true, or_false, false_or, wI_get, false_and, true_and, and_true, and_false, and_self, Nat.reduceEqDiff, Nat.succ_ne_zero, reduceCtorEq, nI_lit, nI_lit0, Nat.reduceLT]; done) | (exfalso; simp_all only [↓reduceIte, Nat.add_zero, or_true, true_or, not_true_eq_false, not_false_eq_true, or_false, false_or, wI_get, false_and, true_and, and_true, and_false, and_self, Nat.reduceEqDiff, Nat.succ_ne_zero, reduceCtorEq, nI_lit, nI_lit0, Nat.reduceLT]; done)
theorem r_takes_2 {L : Nat} {xs : Nat → Int32} {D n : Nat} {I J : ex_Mem} {t s : Nat} {fa : Int32} (ht : t < 6) (hs : s < 3) (hfa : ex_b01 fa = true) : ri L xs (D + 1) 121 [.ref 52, .int (nI t), .int (nI (s + 1)), .int (nI 2), .int fa] (mkH n I J) ((r_takes J t s 2 fa).1) (mkH n I (r_takes J t s 2 fa).2) := by
  show xx cb_G _ _ _ 121 0 [.ref 52, .int (nI t), .int (nI (s + 1)), .int (nI 2), .int fa, ex_no, ex_no] [] _ _
  refine xi_aload_n (pc' := 1) rfl rfl rfl ?_
  refine xr_geti (pc' := 4) rfl rfl (by decide) (by decide) rfl ?_
  refine xi_iload_n (pc' := 5) rfl rfl rfl ?_
  refine xx_icmp (pc' := 8) (tg := 17) rfl rfl rfl (fun q5 => ?_) (fun q5 => ?_)
  · refine xi_iload_n (pc' := 18) rfl rfl rfl ?_
    refine xi_iload_n (pc' := 19) rfl rfl rfl ?_
    refine xx_callSi (pc' := 22) rfl rfl (by decide) rfl (Nat.le_of_ble_eq_true rfl) rfl rfl (r_place t s) ?_
    refine xi_istore (pc' := 24) rfl (st1_5 rfl) rfl ?_
    refine xi_iconst (pc' := 25) rfl rfl ?_
    refine xi_istore (pc' := 27) rfl (st1_6 rfl) rfl ?_
    refine xi_iload (pc' := 29) rfl rfl rfl ?_
    refine xi_iconst (pc' := 30) rfl rfl ?_
    refine xi_icmpf (pc' := 33) (tg := 66) rfl rfl (by decide) rfl ?_
    refine xi_aload_n (pc' := 34) rfl rfl rfl ?_
    refine xr_getp (pc' := 37) rfl rfl (by decide) rfl rfl rfl ?_
    refine xi_iload (pc' := 39) rfl rfl rfl ?_
    refine xi_iload (pc' := 41) rfl rfl rfl ?_
    refine xi_iadd (pc' := 42) rfl rfl ?_
    refine xi_iload (pc' := 44) rfl rfl rfl ?_
    refine xi_iload_n (pc' := 45) rfl rfl rfl ?_
    refine xi_icmpf (pc' := 48) (tg := 58) rfl rfl (by decide) rfl ?_
    refine xi_aload_n (pc' := 49) rfl rfl rfl ?_
    refine xr_getp (pc' := 52) rfl rfl (by decide) rfl rfl rfl ?_
    refine xi_iload (pc' := 54) rfl rfl rfl ?_
    refine xr_iald (j := 0) (pc' := 55) rfl rfl (by decide) (by first | rfl | (simp only [ix_add, ix_mul, ix_pred]; done) | (simp only [ix_add, ix_mul, ix_pred, *]; done)) (by omega) (by decide) rfl ?_
    refine xi_goto (pc' := 59) rfl rfl ?_
    refine xr_iast (j := 12 * t + 4 * s + 0) (pc' := 60) rfl rfl (by decide) (by first | rfl | (simp only [ix_add, ix_mul, ix_pred]; done) | (simp only [ix_add, ix_mul, ix_pred, *]; done)) (by omega) (by decide) rfl ?_
    refine xi_iincv (y := nI 1) (pc' := 63) rfl rfl (by decide) (st1_6 rfl) rfl ?_
    refine xi_goto (pc' := 27) rfl rfl ?_
    refine xi_iload (pc' := 29) rfl rfl rfl ?_
    refine xi_iconst (pc' := 30) rfl rfl ?_
    refine xi_icmpf (pc' := 33) (tg := 66) rfl rfl (by decide) rfl ?_
    refine xi_aload_n (pc' := 34) rfl rfl rfl ?_
    refine xr_getp (pc' := 37) rfl rfl (by decide) rfl rfl rfl ?_
    refine xi_iload (pc' := 39) rfl rfl rfl ?_
    refine xi_iload (pc' := 41) rfl rfl rfl ?_
    refine xi_iadd (pc' := 42) rfl rfl ?_
    refine xi_iload (pc' := 44) rfl rfl rfl ?_
    refine xi_iload_n (pc' := 45) rfl rfl rfl ?_
    refine xi_icmpf (pc' := 48) (tg := 58) rfl rfl (by decide) rfl ?_
    refine xi_aload_n (pc' := 49) rfl rfl rfl ?_
    refine xr_getp (pc' := 52) rfl rfl (by decide) rfl rfl rfl ?_
    refine xi_iload (pc' := 54) rfl rfl rfl ?_
    refine xr_iald (j := 1) (pc' := 55) rfl rfl (by decide) (by first | rfl | (simp only [ix_add, ix_mul, ix_pred]; done) | (simp only [ix_add, ix_mul, ix_pred, *]; done)) (by omega) (by decide) rfl ?_
    refine xi_goto (pc' := 59) rfl rfl ?_
    refine xr_iast (j := 12 * t + 4 * s + 1) (pc' := 60) rfl rfl (by decide) (by first | rfl | (simp only [ix_add, ix_mul, ix_pred]; done) | (simp only [ix_add, ix_mul, ix_pred, *]; done)) (by omega) (by decide) rfl ?_
    refine xi_iincv (y := nI 2) (pc' := 63) rfl rfl (by decide) (st1_6 rfl) rfl ?_
    refine xi_goto (pc' := 27) rfl rfl ?_
    refine xi_iload (pc' := 29) rfl rfl rfl ?_
    refine xi_iconst (pc' := 30) rfl rfl ?_
    refine xi_icmpf (pc' := 33) (tg := 66) rfl rfl (by decide) rfl ?_
    refine xi_aload_n (pc' := 34) rfl rfl rfl ?_
    refine xr_getp (pc' := 37) rfl rfl (by decide) rfl rfl rfl ?_
    refine xi_iload (pc' := 39) rfl rfl rfl ?_
    refine xi_iload (pc' := 41) rfl rfl rfl ?_
    refine xi_iadd (pc' := 42) rfl rfl ?_
    refine xi_iload (pc' := 44) rfl rfl rfl ?_
    refine xi_iload_n (pc' := 45) rfl rfl rfl ?_
    refine xi_icmpt (pc' := 58) rfl rfl (by decide) ?_
    refine xi_iconst (pc' := 59) rfl rfl ?_
    refine xr_iast (j := 12 * t + 4 * s + 2) (pc' := 60) rfl rfl (by decide) (by first | rfl | (simp only [ix_add, ix_mul, ix_pred]; done) | (simp only [ix_add, ix_mul, ix_pred, *]; done)) (by omega) (by decide) rfl ?_
    refine xi_iincv (y := nI 3) (pc' := 63) rfl rfl (by decide) (st1_6 rfl) rfl ?_
    refine xi_goto (pc' := 27) rfl rfl ?_
    refine xi_iload (pc' := 29) rfl rfl rfl ?_
    refine xi_iconst (pc' := 30) rfl rfl ?_
    refine xi_icmpf (pc' := 33) (tg := 66) rfl rfl (by decide) rfl ?_
    refine xi_aload_n (pc' := 34) rfl rfl rfl ?_
    refine xr_getp (pc' := 37) rfl rfl (by decide) rfl rfl rfl ?_
    refine xi_iload (pc' := 39) rfl rfl rfl ?_
    refine xi_iload (pc' := 41) rfl rfl rfl ?_
    refine xi_iadd (pc' := 42) rfl rfl ?_
    refine xi_iload (pc' := 44) rfl rfl rfl ?_
    refine xi_iload_n (pc' := 45) rfl rfl rfl ?_
    refine xi_icmpt (pc' := 58) rfl rfl (by decide) ?_
    refine xi_iconst (pc' := 59) rfl rfl ?_
    refine xr_iast (j := 12 * t + 4 * s + 3) (pc' := 60) rfl rfl (by decide) (by first | rfl | (simp only [ix_add, ix_mul, ix_pred]; done) | (simp only [ix_add, ix_mul, ix_pred, *]; done)) (by omega) (by decide) rfl ?_
    refine xi_iincv (y := nI 4) (pc' := 63) rfl rfl (by decide) (st1_6 rfl) rfl ?_
    refine xi_goto (pc' := 27) rfl rfl ?_
    refine xi_iload (pc' := 29) rfl rfl rfl ?_
    refine xi_iconst (pc' := 30) rfl rfl ?_
    refine xi_icmpt (pc' := 66) rfl rfl (by decide) ?_
    refine xi_aload_n (pc' := 67) rfl rfl rfl ?_
    refine xr_getp (pc' := 70) rfl rfl (by decide) rfl rfl rfl ?_
    refine xi_iconst (pc' := 71) rfl rfl ?_
    refine xi_iload_n (pc' := 72) rfl rfl rfl ?_
    refine xi_imul (pc' := 73) rfl rfl ?_
    refine xi_iload_n (pc' := 74) rfl rfl rfl ?_
    refine xi_iadd (pc' := 75) rfl rfl ?_
    refine xi_iconst (pc' := 76) rfl rfl ?_
    refine xi_isub (pc' := 77) rfl rfl ?_
    refine xi_iconst (pc' := 78) rfl rfl ?_
    refine xr_zast (j := 3 * t + s) (pc' := 79) rfl rfl (by decide) (by simp only [ix_mul, ix_add]; exact ix_pred (3 * t + s)) (by omega) (by decide) (by decide) rfl ?_
    refine xi_aload_n (pc' := 80) rfl rfl rfl ?_
    refine xr_getp (pc' := 83) rfl rfl (by decide) rfl rfl rfl ?_
    refine xi_iload_n (pc' := 84) rfl rfl rfl ?_
    refine xi_iload (pc' := 86) rfl rfl rfl ?_
    refine xr_zast (j := t) (pc' := 87) rfl rfl (by decide) (by first | rfl | (simp only [ix_add, ix_mul, ix_pred]; done) | (simp only [ix_add, ix_mul, ix_pred, *]; done)) (by omega) (by decide) (hfa) rfl ?_
    refine xi_iconst (pc' := 88) rfl rfl ?_
    refine xx_zreturn rfl rfl (by first | rfl | assumption | exact b01_bI | simp [ex_b01, bI]) ?_
    simp only [ex_P, Classical.not_not, ↓reduceIte, Nat.add_zero, or_true, true_or, not_true_eq_false, not_false_eq_true, or_false, false_or, wI_get, false_and, true_and, and_true, and_false, and_self, Nat.reduceEqDiff, Nat.succ_ne_zero, reduceCtorEq, nI_lit, nI_lit0, Nat.reduceLT] at *
    first | (simp only [r_takes, r_fill, r_f, Nat.reduceAdd, *, ↓reduceIte, Nat.add_zero, or_true, true_or, not_true_eq_false, not_false_eq_true, or_false, false_or, wI_get, false_and, true_and, and_true, and_false, and_self, Nat.reduceEqDiff, Nat.succ_ne_zero, reduceCtorEq, nI_lit, nI_lit0, Nat.reduceLT]; done) | (exfalso; simp_all only [↓reduceIte, Nat.add_zero, or_true, true_or, not_true_eq_false, not_false_eq_true, or_false, false_or, wI_get, false_and, true_and, and_true, and_false, and_self, Nat.reduceEqDiff, Nat.succ_ne_zero, reduceCtorEq, nI_lit, nI_lit0, Nat.reduceLT]; done)
  · refine xi_aload_n (pc' := 9) rfl rfl rfl ?_
    refine xr_getp (pc' := 12) rfl rfl (by decide) rfl rfl rfl ?_
    refine xi_iload_n (pc' := 13) rfl rfl rfl ?_
    refine xi_iconst (pc' := 14) rfl rfl ?_
    refine xr_zast (j := t) (pc' := 15) rfl rfl (by decide) (by first | rfl | (simp only [ix_add, ix_mul, ix_pred]; done) | (simp only [ix_add, ix_mul, ix_pred, *]; done)) (by omega) (by decide) (by decide) rfl ?_
    refine xi_iconst (pc' := 16) rfl rfl ?_
    refine xx_zreturn rfl rfl (by first | rfl | assumption | exact b01_bI | simp [ex_b01, bI]) ?_
    simp only [ex_P, Classical.not_not, ↓reduceIte, Nat.add_zero, or_true, true_or, not_true_eq_false, not_false_eq_true, or_false, false_or, wI_get, false_and, true_and, and_true, and_false, and_self, Nat.reduceEqDiff, Nat.succ_ne_zero, reduceCtorEq, nI_lit, nI_lit0, Nat.reduceLT] at *
    first | (simp only [r_takes, r_fill, r_f, Nat.reduceAdd, *, ↓reduceIte, Nat.add_zero, or_true, true_or, not_true_eq_false, not_false_eq_true, or_false, false_or, wI_get, false_and, true_and, and_true, and_false, and_self, Nat.reduceEqDiff, Nat.succ_ne_zero, reduceCtorEq, nI_lit, nI_lit0, Nat.reduceLT]; done) | (exfalso; simp_all only [↓reduceIte, Nat.add_zero, or_true, true_or, not_true_eq_false, not_false_eq_true, or_false, false_or, wI_get, false_and, true_and, and_true, and_false, and_self, Nat.reduceEqDiff, Nat.succ_ne_zero, reduceCtorEq, nI_lit, nI_lit0, Nat.reduceLT]; done)
theorem r_takes_3 {L : Nat} {xs : Nat → Int32} {D n : Nat} {I J : ex_Mem} {t s : Nat} {fa : Int32} (ht : t < 6) (hs : s < 3) (hfa : ex_b01 fa = true) : ri L xs (D + 1) 121 [.ref 52, .int (nI t), .int (nI (s + 1)), .int (nI 3), .int fa] (mkH n I J) ((r_takes J t s 3 fa).1) (mkH n I (r_takes J t s 3 fa).2) := by
  show xx cb_G _ _ _ 121 0 [.ref 52, .int (nI t), .int (nI (s + 1)), .int (nI 3), .int fa, ex_no, ex_no] [] _ _
  refine xi_aload_n (pc' := 1) rfl rfl rfl ?_
  refine xr_geti (pc' := 4) rfl rfl (by decide) (by decide) rfl ?_
  refine xi_iload_n (pc' := 5) rfl rfl rfl ?_
  refine xx_icmp (pc' := 8) (tg := 17) rfl rfl rfl (fun q5 => ?_) (fun q5 => ?_)
  · refine xi_iload_n (pc' := 18) rfl rfl rfl ?_
    refine xi_iload_n (pc' := 19) rfl rfl rfl ?_
    refine xx_callSi (pc' := 22) rfl rfl (by decide) rfl (Nat.le_of_ble_eq_true rfl) rfl rfl (r_place t s) ?_
    refine xi_istore (pc' := 24) rfl (st1_5 rfl) rfl ?_
    refine xi_iconst (pc' := 25) rfl rfl ?_
    refine xi_istore (pc' := 27) rfl (st1_6 rfl) rfl ?_
    refine xi_iload (pc' := 29) rfl rfl rfl ?_
    refine xi_iconst (pc' := 30) rfl rfl ?_
    refine xi_icmpf (pc' := 33) (tg := 66) rfl rfl (by decide) rfl ?_
    refine xi_aload_n (pc' := 34) rfl rfl rfl ?_
    refine xr_getp (pc' := 37) rfl rfl (by decide) rfl rfl rfl ?_
    refine xi_iload (pc' := 39) rfl rfl rfl ?_
    refine xi_iload (pc' := 41) rfl rfl rfl ?_
    refine xi_iadd (pc' := 42) rfl rfl ?_
    refine xi_iload (pc' := 44) rfl rfl rfl ?_
    refine xi_iload_n (pc' := 45) rfl rfl rfl ?_
    refine xi_icmpf (pc' := 48) (tg := 58) rfl rfl (by decide) rfl ?_
    refine xi_aload_n (pc' := 49) rfl rfl rfl ?_
    refine xr_getp (pc' := 52) rfl rfl (by decide) rfl rfl rfl ?_
    refine xi_iload (pc' := 54) rfl rfl rfl ?_
    refine xr_iald (j := 0) (pc' := 55) rfl rfl (by decide) (by first | rfl | (simp only [ix_add, ix_mul, ix_pred]; done) | (simp only [ix_add, ix_mul, ix_pred, *]; done)) (by omega) (by decide) rfl ?_
    refine xi_goto (pc' := 59) rfl rfl ?_
    refine xr_iast (j := 12 * t + 4 * s + 0) (pc' := 60) rfl rfl (by decide) (by first | rfl | (simp only [ix_add, ix_mul, ix_pred]; done) | (simp only [ix_add, ix_mul, ix_pred, *]; done)) (by omega) (by decide) rfl ?_
    refine xi_iincv (y := nI 1) (pc' := 63) rfl rfl (by decide) (st1_6 rfl) rfl ?_
    refine xi_goto (pc' := 27) rfl rfl ?_
    refine xi_iload (pc' := 29) rfl rfl rfl ?_
    refine xi_iconst (pc' := 30) rfl rfl ?_
    refine xi_icmpf (pc' := 33) (tg := 66) rfl rfl (by decide) rfl ?_
    refine xi_aload_n (pc' := 34) rfl rfl rfl ?_
    refine xr_getp (pc' := 37) rfl rfl (by decide) rfl rfl rfl ?_
    refine xi_iload (pc' := 39) rfl rfl rfl ?_
    refine xi_iload (pc' := 41) rfl rfl rfl ?_
    refine xi_iadd (pc' := 42) rfl rfl ?_
    refine xi_iload (pc' := 44) rfl rfl rfl ?_
    refine xi_iload_n (pc' := 45) rfl rfl rfl ?_
    refine xi_icmpf (pc' := 48) (tg := 58) rfl rfl (by decide) rfl ?_
    refine xi_aload_n (pc' := 49) rfl rfl rfl ?_
    refine xr_getp (pc' := 52) rfl rfl (by decide) rfl rfl rfl ?_
    refine xi_iload (pc' := 54) rfl rfl rfl ?_
    refine xr_iald (j := 1) (pc' := 55) rfl rfl (by decide) (by first | rfl | (simp only [ix_add, ix_mul, ix_pred]; done) | (simp only [ix_add, ix_mul, ix_pred, *]; done)) (by omega) (by decide) rfl ?_
    refine xi_goto (pc' := 59) rfl rfl ?_
    refine xr_iast (j := 12 * t + 4 * s + 1) (pc' := 60) rfl rfl (by decide) (by first | rfl | (simp only [ix_add, ix_mul, ix_pred]; done) | (simp only [ix_add, ix_mul, ix_pred, *]; done)) (by omega) (by decide) rfl ?_
    refine xi_iincv (y := nI 2) (pc' := 63) rfl rfl (by decide) (st1_6 rfl) rfl ?_
    refine xi_goto (pc' := 27) rfl rfl ?_
    refine xi_iload (pc' := 29) rfl rfl rfl ?_
    refine xi_iconst (pc' := 30) rfl rfl ?_
    refine xi_icmpf (pc' := 33) (tg := 66) rfl rfl (by decide) rfl ?_
    refine xi_aload_n (pc' := 34) rfl rfl rfl ?_
    refine xr_getp (pc' := 37) rfl rfl (by decide) rfl rfl rfl ?_
    refine xi_iload (pc' := 39) rfl rfl rfl ?_
    refine xi_iload (pc' := 41) rfl rfl rfl ?_
    refine xi_iadd (pc' := 42) rfl rfl ?_
    refine xi_iload (pc' := 44) rfl rfl rfl ?_
    refine xi_iload_n (pc' := 45) rfl rfl rfl ?_
    refine xi_icmpf (pc' := 48) (tg := 58) rfl rfl (by decide) rfl ?_
    refine xi_aload_n (pc' := 49) rfl rfl rfl ?_
    refine xr_getp (pc' := 52) rfl rfl (by decide) rfl rfl rfl ?_
    refine xi_iload (pc' := 54) rfl rfl rfl ?_
    refine xr_iald (j := 2) (pc' := 55) rfl rfl (by decide) (by first | rfl | (simp only [ix_add, ix_mul, ix_pred]; done) | (simp only [ix_add, ix_mul, ix_pred, *]; done)) (by omega) (by decide) rfl ?_
    refine xi_goto (pc' := 59) rfl rfl ?_
    refine xr_iast (j := 12 * t + 4 * s + 2) (pc' := 60) rfl rfl (by decide) (by first | rfl | (simp only [ix_add, ix_mul, ix_pred]; done) | (simp only [ix_add, ix_mul, ix_pred, *]; done)) (by omega) (by decide) rfl ?_
    refine xi_iincv (y := nI 3) (pc' := 63) rfl rfl (by decide) (st1_6 rfl) rfl ?_
    refine xi_goto (pc' := 27) rfl rfl ?_
    refine xi_iload (pc' := 29) rfl rfl rfl ?_
    refine xi_iconst (pc' := 30) rfl rfl ?_
    refine xi_icmpf (pc' := 33) (tg := 66) rfl rfl (by decide) rfl ?_
    refine xi_aload_n (pc' := 34) rfl rfl rfl ?_
    refine xr_getp (pc' := 37) rfl rfl (by decide) rfl rfl rfl ?_
    refine xi_iload (pc' := 39) rfl rfl rfl ?_
    refine xi_iload (pc' := 41) rfl rfl rfl ?_
    refine xi_iadd (pc' := 42) rfl rfl ?_
    refine xi_iload (pc' := 44) rfl rfl rfl ?_
    refine xi_iload_n (pc' := 45) rfl rfl rfl ?_
    refine xi_icmpt (pc' := 58) rfl rfl (by decide) ?_
    refine xi_iconst (pc' := 59) rfl rfl ?_
    refine xr_iast (j := 12 * t + 4 * s + 3) (pc' := 60) rfl rfl (by decide) (by first | rfl | (simp only [ix_add, ix_mul, ix_pred]; done) | (simp only [ix_add, ix_mul, ix_pred, *]; done)) (by omega) (by decide) rfl ?_
    refine xi_iincv (y := nI 4) (pc' := 63) rfl rfl (by decide) (st1_6 rfl) rfl ?_
    refine xi_goto (pc' := 27) rfl rfl ?_
    refine xi_iload (pc' := 29) rfl rfl rfl ?_
    refine xi_iconst (pc' := 30) rfl rfl ?_
    refine xi_icmpt (pc' := 66) rfl rfl (by decide) ?_
    refine xi_aload_n (pc' := 67) rfl rfl rfl ?_
    refine xr_getp (pc' := 70) rfl rfl (by decide) rfl rfl rfl ?_
    refine xi_iconst (pc' := 71) rfl rfl ?_
    refine xi_iload_n (pc' := 72) rfl rfl rfl ?_
    refine xi_imul (pc' := 73) rfl rfl ?_
    refine xi_iload_n (pc' := 74) rfl rfl rfl ?_
    refine xi_iadd (pc' := 75) rfl rfl ?_
    refine xi_iconst (pc' := 76) rfl rfl ?_
    refine xi_isub (pc' := 77) rfl rfl ?_
    refine xi_iconst (pc' := 78) rfl rfl ?_
    refine xr_zast (j := 3 * t + s) (pc' := 79) rfl rfl (by decide) (by simp only [ix_mul, ix_add]; exact ix_pred (3 * t + s)) (by omega) (by decide) (by decide) rfl ?_
    refine xi_aload_n (pc' := 80) rfl rfl rfl ?_
    refine xr_getp (pc' := 83) rfl rfl (by decide) rfl rfl rfl ?_
    refine xi_iload_n (pc' := 84) rfl rfl rfl ?_
    refine xi_iload (pc' := 86) rfl rfl rfl ?_
    refine xr_zast (j := t) (pc' := 87) rfl rfl (by decide) (by first | rfl | (simp only [ix_add, ix_mul, ix_pred]; done) | (simp only [ix_add, ix_mul, ix_pred, *]; done)) (by omega) (by decide) (hfa) rfl ?_
    refine xi_iconst (pc' := 88) rfl rfl ?_
    refine xx_zreturn rfl rfl (by first | rfl | assumption | exact b01_bI | simp [ex_b01, bI]) ?_
    simp only [ex_P, Classical.not_not, ↓reduceIte, Nat.add_zero, or_true, true_or, not_true_eq_false, not_false_eq_true, or_false, false_or, wI_get, false_and, true_and, and_true, and_false, and_self, Nat.reduceEqDiff, Nat.succ_ne_zero, reduceCtorEq, nI_lit, nI_lit0, Nat.reduceLT] at *
    first | (simp only [r_takes, r_fill, r_f, Nat.reduceAdd, *, ↓reduceIte, Nat.add_zero, or_true, true_or, not_true_eq_false, not_false_eq_true, or_false, false_or, wI_get, false_and, true_and, and_true, and_false, and_self, Nat.reduceEqDiff, Nat.succ_ne_zero, reduceCtorEq, nI_lit, nI_lit0, Nat.reduceLT]; done) | (exfalso; simp_all only [↓reduceIte, Nat.add_zero, or_true, true_or, not_true_eq_false, not_false_eq_true, or_false, false_or, wI_get, false_and, true_and, and_true, and_false, and_self, Nat.reduceEqDiff, Nat.succ_ne_zero, reduceCtorEq, nI_lit, nI_lit0, Nat.reduceLT]; done)
  · refine xi_aload_n (pc' := 9) rfl rfl rfl ?_
    refine xr_getp (pc' := 12) rfl rfl (by decide) rfl rfl rfl ?_
    refine xi_iload_n (pc' := 13) rfl rfl rfl ?_
    refine xi_iconst (pc' := 14) rfl rfl ?_
    refine xr_zast (j := t) (pc' := 15) rfl rfl (by decide) (by first | rfl | (simp only [ix_add, ix_mul, ix_pred]; done) | (simp only [ix_add, ix_mul, ix_pred, *]; done)) (by omega) (by decide) (by decide) rfl ?_
    refine xi_iconst (pc' := 16) rfl rfl ?_
    refine xx_zreturn rfl rfl (by first | rfl | assumption | exact b01_bI | simp [ex_b01, bI]) ?_
    simp only [ex_P, Classical.not_not, ↓reduceIte, Nat.add_zero, or_true, true_or, not_true_eq_false, not_false_eq_true, or_false, false_or, wI_get, false_and, true_and, and_true, and_false, and_self, Nat.reduceEqDiff, Nat.succ_ne_zero, reduceCtorEq, nI_lit, nI_lit0, Nat.reduceLT] at *
    first | (simp only [r_takes, r_fill, r_f, Nat.reduceAdd, *, ↓reduceIte, Nat.add_zero, or_true, true_or, not_true_eq_false, not_false_eq_true, or_false, false_or, wI_get, false_and, true_and, and_true, and_false, and_self, Nat.reduceEqDiff, Nat.succ_ne_zero, reduceCtorEq, nI_lit, nI_lit0, Nat.reduceLT]; done) | (exfalso; simp_all only [↓reduceIte, Nat.add_zero, or_true, true_or, not_true_eq_false, not_false_eq_true, or_false, false_or, wI_get, false_and, true_and, and_true, and_false, and_self, Nat.reduceEqDiff, Nat.succ_ne_zero, reduceCtorEq, nI_lit, nI_lit0, Nat.reduceLT]; done)
theorem r_takes_4 {L : Nat} {xs : Nat → Int32} {D n : Nat} {I J : ex_Mem} {t s : Nat} {fa : Int32} (ht : t < 6) (hs : s < 3) (hfa : ex_b01 fa = true) : ri L xs (D + 1) 121 [.ref 52, .int (nI t), .int (nI (s + 1)), .int (nI 4), .int fa] (mkH n I J) ((r_takes J t s 4 fa).1) (mkH n I (r_takes J t s 4 fa).2) := by
  show xx cb_G _ _ _ 121 0 [.ref 52, .int (nI t), .int (nI (s + 1)), .int (nI 4), .int fa, ex_no, ex_no] [] _ _
  refine xi_aload_n (pc' := 1) rfl rfl rfl ?_
  refine xr_geti (pc' := 4) rfl rfl (by decide) (by decide) rfl ?_
  refine xi_iload_n (pc' := 5) rfl rfl rfl ?_
  refine xx_icmp (pc' := 8) (tg := 17) rfl rfl rfl (fun q5 => ?_) (fun q5 => ?_)
  · refine xi_iload_n (pc' := 18) rfl rfl rfl ?_
    refine xi_iload_n (pc' := 19) rfl rfl rfl ?_
    refine xx_callSi (pc' := 22) rfl rfl (by decide) rfl (Nat.le_of_ble_eq_true rfl) rfl rfl (r_place t s) ?_
    refine xi_istore (pc' := 24) rfl (st1_5 rfl) rfl ?_
    refine xi_iconst (pc' := 25) rfl rfl ?_
    refine xi_istore (pc' := 27) rfl (st1_6 rfl) rfl ?_
    refine xi_iload (pc' := 29) rfl rfl rfl ?_
    refine xi_iconst (pc' := 30) rfl rfl ?_
    refine xi_icmpf (pc' := 33) (tg := 66) rfl rfl (by decide) rfl ?_
    refine xi_aload_n (pc' := 34) rfl rfl rfl ?_
    refine xr_getp (pc' := 37) rfl rfl (by decide) rfl rfl rfl ?_
    refine xi_iload (pc' := 39) rfl rfl rfl ?_
    refine xi_iload (pc' := 41) rfl rfl rfl ?_
    refine xi_iadd (pc' := 42) rfl rfl ?_
    refine xi_iload (pc' := 44) rfl rfl rfl ?_
    refine xi_iload_n (pc' := 45) rfl rfl rfl ?_
    refine xi_icmpf (pc' := 48) (tg := 58) rfl rfl (by decide) rfl ?_
    refine xi_aload_n (pc' := 49) rfl rfl rfl ?_
    refine xr_getp (pc' := 52) rfl rfl (by decide) rfl rfl rfl ?_
    refine xi_iload (pc' := 54) rfl rfl rfl ?_
    refine xr_iald (j := 0) (pc' := 55) rfl rfl (by decide) (by first | rfl | (simp only [ix_add, ix_mul, ix_pred]; done) | (simp only [ix_add, ix_mul, ix_pred, *]; done)) (by omega) (by decide) rfl ?_
    refine xi_goto (pc' := 59) rfl rfl ?_
    refine xr_iast (j := 12 * t + 4 * s + 0) (pc' := 60) rfl rfl (by decide) (by first | rfl | (simp only [ix_add, ix_mul, ix_pred]; done) | (simp only [ix_add, ix_mul, ix_pred, *]; done)) (by omega) (by decide) rfl ?_
    refine xi_iincv (y := nI 1) (pc' := 63) rfl rfl (by decide) (st1_6 rfl) rfl ?_
    refine xi_goto (pc' := 27) rfl rfl ?_
    refine xi_iload (pc' := 29) rfl rfl rfl ?_
    refine xi_iconst (pc' := 30) rfl rfl ?_
    refine xi_icmpf (pc' := 33) (tg := 66) rfl rfl (by decide) rfl ?_
    refine xi_aload_n (pc' := 34) rfl rfl rfl ?_
    refine xr_getp (pc' := 37) rfl rfl (by decide) rfl rfl rfl ?_
    refine xi_iload (pc' := 39) rfl rfl rfl ?_
    refine xi_iload (pc' := 41) rfl rfl rfl ?_
    refine xi_iadd (pc' := 42) rfl rfl ?_
    refine xi_iload (pc' := 44) rfl rfl rfl ?_
    refine xi_iload_n (pc' := 45) rfl rfl rfl ?_
    refine xi_icmpf (pc' := 48) (tg := 58) rfl rfl (by decide) rfl ?_
    refine xi_aload_n (pc' := 49) rfl rfl rfl ?_
    refine xr_getp (pc' := 52) rfl rfl (by decide) rfl rfl rfl ?_
    refine xi_iload (pc' := 54) rfl rfl rfl ?_
    refine xr_iald (j := 1) (pc' := 55) rfl rfl (by decide) (by first | rfl | (simp only [ix_add, ix_mul, ix_pred]; done) | (simp only [ix_add, ix_mul, ix_pred, *]; done)) (by omega) (by decide) rfl ?_
    refine xi_goto (pc' := 59) rfl rfl ?_
    refine xr_iast (j := 12 * t + 4 * s + 1) (pc' := 60) rfl rfl (by decide) (by first | rfl | (simp only [ix_add, ix_mul, ix_pred]; done) | (simp only [ix_add, ix_mul, ix_pred, *]; done)) (by omega) (by decide) rfl ?_
    refine xi_iincv (y := nI 2) (pc' := 63) rfl rfl (by decide) (st1_6 rfl) rfl ?_
    refine xi_goto (pc' := 27) rfl rfl ?_
    refine xi_iload (pc' := 29) rfl rfl rfl ?_
    refine xi_iconst (pc' := 30) rfl rfl ?_
    refine xi_icmpf (pc' := 33) (tg := 66) rfl rfl (by decide) rfl ?_
    refine xi_aload_n (pc' := 34) rfl rfl rfl ?_
    refine xr_getp (pc' := 37) rfl rfl (by decide) rfl rfl rfl ?_
    refine xi_iload (pc' := 39) rfl rfl rfl ?_
    refine xi_iload (pc' := 41) rfl rfl rfl ?_
    refine xi_iadd (pc' := 42) rfl rfl ?_
    refine xi_iload (pc' := 44) rfl rfl rfl ?_
    refine xi_iload_n (pc' := 45) rfl rfl rfl ?_
    refine xi_icmpf (pc' := 48) (tg := 58) rfl rfl (by decide) rfl ?_
    refine xi_aload_n (pc' := 49) rfl rfl rfl ?_
    refine xr_getp (pc' := 52) rfl rfl (by decide) rfl rfl rfl ?_
    refine xi_iload (pc' := 54) rfl rfl rfl ?_
    refine xr_iald (j := 2) (pc' := 55) rfl rfl (by decide) (by first | rfl | (simp only [ix_add, ix_mul, ix_pred]; done) | (simp only [ix_add, ix_mul, ix_pred, *]; done)) (by omega) (by decide) rfl ?_
    refine xi_goto (pc' := 59) rfl rfl ?_
    refine xr_iast (j := 12 * t + 4 * s + 2) (pc' := 60) rfl rfl (by decide) (by first | rfl | (simp only [ix_add, ix_mul, ix_pred]; done) | (simp only [ix_add, ix_mul, ix_pred, *]; done)) (by omega) (by decide) rfl ?_
    refine xi_iincv (y := nI 3) (pc' := 63) rfl rfl (by decide) (st1_6 rfl) rfl ?_
    refine xi_goto (pc' := 27) rfl rfl ?_
    refine xi_iload (pc' := 29) rfl rfl rfl ?_
    refine xi_iconst (pc' := 30) rfl rfl ?_
    refine xi_icmpf (pc' := 33) (tg := 66) rfl rfl (by decide) rfl ?_
    refine xi_aload_n (pc' := 34) rfl rfl rfl ?_
    refine xr_getp (pc' := 37) rfl rfl (by decide) rfl rfl rfl ?_
    refine xi_iload (pc' := 39) rfl rfl rfl ?_
    refine xi_iload (pc' := 41) rfl rfl rfl ?_
    refine xi_iadd (pc' := 42) rfl rfl ?_
    refine xi_iload (pc' := 44) rfl rfl rfl ?_
    refine xi_iload_n (pc' := 45) rfl rfl rfl ?_
    refine xi_icmpf (pc' := 48) (tg := 58) rfl rfl (by decide) rfl ?_
    refine xi_aload_n (pc' := 49) rfl rfl rfl ?_
    refine xr_getp (pc' := 52) rfl rfl (by decide) rfl rfl rfl ?_
    refine xi_iload (pc' := 54) rfl rfl rfl ?_
    refine xr_iald (j := 3) (pc' := 55) rfl rfl (by decide) (by first | rfl | (simp only [ix_add, ix_mul, ix_pred]; done) | (simp only [ix_add, ix_mul, ix_pred, *]; done)) (by omega) (by decide) rfl ?_
    refine xi_goto (pc' := 59) rfl rfl ?_
    refine xr_iast (j := 12 * t + 4 * s + 3) (pc' := 60) rfl rfl (by decide) (by first | rfl | (simp only [ix_add, ix_mul, ix_pred]; done) | (simp only [ix_add, ix_mul, ix_pred, *]; done)) (by omega) (by decide) rfl ?_
    refine xi_iincv (y := nI 4) (pc' := 63) rfl rfl (by decide) (st1_6 rfl) rfl ?_
    refine xi_goto (pc' := 27) rfl rfl ?_
    refine xi_iload (pc' := 29) rfl rfl rfl ?_
    refine xi_iconst (pc' := 30) rfl rfl ?_
    refine xi_icmpt (pc' := 66) rfl rfl (by decide) ?_
    refine xi_aload_n (pc' := 67) rfl rfl rfl ?_
    refine xr_getp (pc' := 70) rfl rfl (by decide) rfl rfl rfl ?_
    refine xi_iconst (pc' := 71) rfl rfl ?_
    refine xi_iload_n (pc' := 72) rfl rfl rfl ?_
    refine xi_imul (pc' := 73) rfl rfl ?_
    refine xi_iload_n (pc' := 74) rfl rfl rfl ?_
    refine xi_iadd (pc' := 75) rfl rfl ?_
    refine xi_iconst (pc' := 76) rfl rfl ?_
    refine xi_isub (pc' := 77) rfl rfl ?_
    refine xi_iconst (pc' := 78) rfl rfl ?_
    refine xr_zast (j := 3 * t + s) (pc' := 79) rfl rfl (by decide) (by simp only [ix_mul, ix_add]; exact ix_pred (3 * t + s)) (by omega) (by decide) (by decide) rfl ?_
    refine xi_aload_n (pc' := 80) rfl rfl rfl ?_
    refine xr_getp (pc' := 83) rfl rfl (by decide) rfl rfl rfl ?_
    refine xi_iload_n (pc' := 84) rfl rfl rfl ?_
    refine xi_iload (pc' := 86) rfl rfl rfl ?_
    refine xr_zast (j := t) (pc' := 87) rfl rfl (by decide) (by first | rfl | (simp only [ix_add, ix_mul, ix_pred]; done) | (simp only [ix_add, ix_mul, ix_pred, *]; done)) (by omega) (by decide) (hfa) rfl ?_
    refine xi_iconst (pc' := 88) rfl rfl ?_
    refine xx_zreturn rfl rfl (by first | rfl | assumption | exact b01_bI | simp [ex_b01, bI]) ?_
    simp only [ex_P, Classical.not_not, ↓reduceIte, Nat.add_zero, or_true, true_or, not_true_eq_false, not_false_eq_true, or_false, false_or, wI_get, false_and, true_and, and_true, and_false, and_self, Nat.reduceEqDiff, Nat.succ_ne_zero, reduceCtorEq, nI_lit, nI_lit0, Nat.reduceLT] at *
    first | (simp only [r_takes, r_fill, r_f, Nat.reduceAdd, *, ↓reduceIte, Nat.add_zero, or_true, true_or, not_true_eq_false, not_false_eq_true, or_false, false_or, wI_get, false_and, true_and, and_true, and_false, and_self, Nat.reduceEqDiff, Nat.succ_ne_zero, reduceCtorEq, nI_lit, nI_lit0, Nat.reduceLT]; done) | (exfalso; simp_all only [↓reduceIte, Nat.add_zero, or_true, true_or, not_true_eq_false, not_false_eq_true, or_false, false_or, wI_get, false_and, true_and, and_true, and_false, and_self, Nat.reduceEqDiff, Nat.succ_ne_zero, reduceCtorEq, nI_lit, nI_lit0, Nat.reduceLT]; done)
  · refine xi_aload_n (pc' := 9) rfl rfl rfl ?_
    refine xr_getp (pc' := 12) rfl rfl (by decide) rfl rfl rfl ?_
    refine xi_iload_n (pc' := 13) rfl rfl rfl ?_
    refine xi_iconst (pc' := 14) rfl rfl ?_
    refine xr_zast (j := t) (pc' := 15) rfl rfl (by decide) (by first | rfl | (simp only [ix_add, ix_mul, ix_pred]; done) | (simp only [ix_add, ix_mul, ix_pred, *]; done)) (by omega) (by decide) (by decide) rfl ?_
    refine xi_iconst (pc' := 16) rfl rfl ?_
    refine xx_zreturn rfl rfl (by first | rfl | assumption | exact b01_bI | simp [ex_b01, bI]) ?_
    simp only [ex_P, Classical.not_not, ↓reduceIte, Nat.add_zero, or_true, true_or, not_true_eq_false, not_false_eq_true, or_false, false_or, wI_get, false_and, true_and, and_true, and_false, and_self, Nat.reduceEqDiff, Nat.succ_ne_zero, reduceCtorEq, nI_lit, nI_lit0, Nat.reduceLT] at *
    first | (simp only [r_takes, r_fill, r_f, Nat.reduceAdd, *, ↓reduceIte, Nat.add_zero, or_true, true_or, not_true_eq_false, not_false_eq_true, or_false, false_or, wI_get, false_and, true_and, and_true, and_false, and_self, Nat.reduceEqDiff, Nat.succ_ne_zero, reduceCtorEq, nI_lit, nI_lit0, Nat.reduceLT]; done) | (exfalso; simp_all only [↓reduceIte, Nat.add_zero, or_true, true_or, not_true_eq_false, not_false_eq_true, or_false, false_or, wI_get, false_and, true_and, and_true, and_false, and_self, Nat.reduceEqDiff, Nat.succ_ne_zero, reduceCtorEq, nI_lit, nI_lit0, Nat.reduceLT]; done)
theorem r_takes_ok {L : Nat} {xs : Nat → Int32} {D n : Nat} {I J : ex_Mem} {t s nn : Nat} {fa : Int32} (ht : t < 6) (hs : s < 3) (h1 : 1 ≤ nn) (h4 : nn ≤ 4) (hfa : ex_b01 fa = true) : ri L xs (D + 1) 121 [.ref 52, .int (nI t), .int (nI (s + 1)), .int (nI nn), .int fa] (mkH n I J) (r_takes J t s nn fa).1 (mkH n I (r_takes J t s nn fa).2) := by
  rcases (by omega : nn = 1 ∨ nn = 2 ∨ nn = 3 ∨ nn = 4) with rfl | rfl | rfl | rfl
  · exact r_takes_1 ht hs hfa
  · exact r_takes_2 ht hs hfa
  · exact r_takes_3 ht hs hfa
  · exact r_takes_4 ht hs hfa
theorem gdOf_of {J : ex_Mem} {h : Nat} (e : J 52 32 = nI h) (h31 : h < 2 ^ 31) : gdOf J = h := by
  unfold gdOf
  rw [e]
  exact nI_clamp h31
theorem gdB_eq {N : Nat} {J J' : ex_Mem} (hh : gdB N J) (e : J' 52 32 = J 52 32) : gdB N J' := by
  have e2 : gdOf J' = gdOf J := congrArg Int32.toNatClampNeg e
  exact ⟨by rw [e, e2]; exact hh.1, by rw [e2]; exact hh.2⟩
theorem hwB_eq {N : Nat} {J J' : ex_Mem} (hh : hwB N J) (e : J' 52 3 = J 52 3) : hwB N J' := by
  have e2 : hwOf J' = hwOf J := congrArg Int32.toNatClampNeg e
  exact ⟨by rw [e, e2]; exact hh.1, by rw [e2]; exact hh.2⟩
theorem gdB_up {N M : Nat} {J : ex_Mem} (hh : gdB N J) (h : N ≤ M) : gdB M J := ⟨hh.1, Nat.le_trans hh.2 h⟩
theorem put_gd {J : ex_Mem} {b : Nat} {w : Int32} : (r_put J b w).2 52 32 = J 52 32 := by
  unfold r_put
  split
  · rfl
  · split
    · rfl
    · split
      · rfl
      · rfl
theorem says_gd {J : ex_Mem} {t b : Nat} {w : Int32} : (r_says J t b w).2 52 32 = J 52 32 := by
  unfold r_says
  split
  · exact put_gd
  · rfl
theorem dw_hw {J : ex_Mem} {how v : Int32} : r_dw J how v 52 3 = J 52 3 := by
  unfold r_dw
  split
  · rfl
  · rfl
theorem gdB_dw {N : Nat} {J : ex_Mem} {how v : Int32} (hh : gdB N J) (hN : N < 1000) : gdB (N + 1) (r_dw J how v) := by
  unfold r_dw
  split
  · have e : ex_wI (ex_wI J 79 (gdOf J) v) 52 32 (J 52 32 + nI 1) 52 32 = nI (gdOf J + 1) := by
      show J 52 32 + nI 1 = _
      rw [hh.1, ix_add]
    have e2 := gdOf_of e (by have := hh.2; omega)
    exact ⟨by rw [e2]; exact e, by rw [e2]; have := hh.2; omega⟩
  · exact gdB_up hh (by omega)
/-- the values that a terminal sends, one after another -/
def r_send (J : ex_Mem) (t s b : Nat) : Nat → ex_Mem
  | 0 => J
  | k + 1 => r_dw (r_says (r_send J t s b k) t b (r_send J t s b k 59 (12 * t + 4 * s + k) + nI 65536)).2 (r_says (r_send J t s b k) t b (r_send J t s b k 59 (12 * t + 4 * s + k) + nI 65536)).1 (r_send J t s b k 59 (12 * t + 4 * s + k))
theorem hwB_send {N t s b : Nat} {J : ex_Mem} (hh : hwB N J) : ∀ k, N + k < 2 ^ 31 → hwB (N + k) (r_send J t s b k)
  | 0, _ => hh
  | k + 1, h => hwB_eq (hwB_says (hwB_send hh k (by omega)) h) dw_hw
theorem gdB_send {N t s b : Nat} {J : ex_Mem} (hh : gdB N J) : ∀ k, N + k < 100 → gdB (N + k) (r_send J t s b k)
  | 0, _ => hh
  | k + 1, h => gdB_dw (gdB_eq (gdB_send hh k (by omega)) says_gd) (show N + k < 1000 by omega)
def r_ans (J : ex_Mem) (t s nn b : Nat) : Int32 × ex_Mem := (if (r_says J t b (r_st J t)).1 = nI 1 then nI 1 else nI 0, r_send (r_says J t b (r_st J t)).2 t s b nn)
theorem r_ans_loop {L : Nat} {xs : Nat → Int32} {D n : Nat} {I J : ex_Mem} {t s nn b N g : Nat} {w : Int32} (ht : t < 6) (hs : s < 3) (hnn : nn ≤ 4) (hb : b < 2) (hw01 : ex_b01 w = true) (hh : hwB N J) (hN : N + 4 < 2 ^ 31) (hg : gdB g J) (hgn : g + nn ≤ 4) : ∀ (j k : Nat), k + j = nn → ∀ v7 v8 : Value, v7.category = 1 → v8.category = 1 → xx cb_G L xs (D + 3) 123 21 [.ref 52, .int (nI t), .int (nI (s + 1)), .int (nI nn), .int (nI b), .int w, .int (nI k), v7, v8] [] (mkH n I (r_send J t s b k)) (fun r h => r = some (.int w) ∧ h = mkH n I (r_send J t s b nn)) := by
  intro j
  induction j with
  | zero =>
    intro k hk v7 v8 h7 h8
    have hk : k = nn := by omega
    subst hk
    refine xi_iload (pc' := 23) rfl rfl rfl ?_
    refine xi_iload_n (pc' := 24) rfl rfl rfl ?_
    refine xx_icmp (pc' := 27) (tg := 68) rfl rfl rfl (fun q24 => ?_) (fun q24 => absurd (show ex_P .ge (nI k) (nI k) from Int32.le_refl _) q24)
    refine xi_iload (pc' := 70) rfl rfl rfl ?_
    refine xx_zreturn rfl rfl (hw01) ?_
    exact ⟨rfl, rfl⟩
  | succ j ih =>
    intro k hk v7 v8 h7 h8
    refine xi_iload (pc' := 23) rfl rfl rfl ?_
    refine xi_iload_n (pc' := 24) rfl rfl rfl ?_
    refine xx_icmp (pc' := 27) (tg := 68) rfl rfl rfl (fun q24 => absurd q24 (show ¬ ex_P .ge (nI k) (nI nn) from nI_ge (by omega) (by omega))) (fun q24 => ?_)
    refine xi_aload_n (pc' := 28) rfl rfl rfl ?_
    refine xr_getp (pc' := 31) rfl rfl (by decide) rfl rfl rfl ?_
    refine xi_iload_n (pc' := 32) rfl rfl rfl ?_
    refine xi_iload_n (pc' := 33) rfl rfl rfl ?_
    refine xx_callSi (pc' := 36) rfl rfl (by decide) rfl (Nat.le_of_ble_eq_true rfl) rfl rfl (r_place t s) ?_
    refine xi_iload (pc' := 38) rfl rfl rfl ?_
    refine xi_iadd (pc' := 39) rfl rfl ?_
    refine xr_iald (j := 12 * t + 4 * s + k) (pc' := 40) rfl rfl (by decide) (by first | rfl | (simp only [ix_add, ix_mul, ix_pred]; done) | (simp only [ix_add, ix_mul, ix_pred, *]; done)) (by omega) (by decide) rfl ?_
    refine xi_istore (pc' := 42) rfl (st1_7 rfl) rfl ?_
    refine xi_aload_n (pc' := 43) rfl rfl rfl ?_
    refine xi_iload_n (pc' := 44) rfl rfl rfl ?_
    refine xi_iload (pc' := 46) rfl rfl rfl ?_
    refine xi_iconst (pc' := 47) rfl rfl ?_
    refine xi_iload (pc' := 49) rfl rfl rfl ?_
    refine xx_callVi (pc' := 52) rfl rfl (by decide) rfl rfl (by show _ < 81 + 2 * _; omega) (Nat.le_of_ble_eq_true rfl) rfl rfl (r_says1 ht hb (hwB_send hh k (by omega)) (by omega)) ?_
    refine xi_istore (pc' := 54) rfl (st1_8 rfl) rfl ?_
    refine xi_aload_n (pc' := 55) rfl rfl rfl ?_
    refine xi_iload (pc' := 57) rfl rfl rfl ?_
    refine xi_iload (pc' := 59) rfl rfl rfl ?_
    refine xx_callVv (pc' := 62) rfl rfl (by decide) rfl rfl (by show _ < 81 + 2 * _; omega) (Nat.le_of_ble_eq_true rfl) rfl rfl (r_dataWord (gdB_eq (gdB_send hg k (by omega)) says_gd) (by omega)) ?_
    refine xi_iincv (y := nI (k + 1)) (pc' := 65) rfl rfl (ix_add _ _) (st1_6 rfl) rfl ?_
    refine xi_goto (pc' := 21) rfl rfl ?_
    exact ih (k + 1) (by omega) _ _ rfl rfl
theorem r_answers_ok {L : Nat} {xs : Nat → Int32} {D n : Nat} {I J : ex_Mem} {t s nn b N g : Nat} (ht : t < 6) (hs : s < 3) (hnn : nn ≤ 4) (hb : b < 2) (hh : hwB N J) (hN : N + 5 < 2 ^ 31) (hg : gdB g J) (hgn : g + nn ≤ 4) : ri L xs (D + 3) 123 [.ref 52, .int (nI t), .int (nI (s + 1)), .int (nI nn), .int (nI b)] (mkH n I J) ((r_ans J t s nn b).1) (mkH n I (r_ans J t s nn b).2) := by
  show xx cb_G _ _ _ 123 0 [.ref 52, .int (nI t), .int (nI (s + 1)), .int (nI nn), .int (nI b), ex_no, ex_no, ex_no, ex_no] [] _ _
  refine xi_aload_n (pc' := 1) rfl rfl rfl ?_
  refine xi_iload_n (pc' := 2) rfl rfl rfl ?_
  refine xi_iload (pc' := 4) rfl rfl rfl ?_
  refine xx_callVi (pc' := 7) rfl rfl (by decide) rfl rfl (by show _ < 81 + 2 * _; omega) (Nat.le_of_ble_eq_true rfl) rfl rfl (r_saysStatus ht hb hh (by omega)) ?_
  refine xi_iconst (pc' := 8) rfl rfl ?_
  refine xx_icmp (pc' := 11) (tg := 15) rfl rfl rfl (fun q8 => ?_) (fun q8 => ?_)
  · refine xi_iconst (pc' := 16) rfl rfl ?_
    refine xi_istore (pc' := 18) rfl (st1_5 rfl) rfl ?_
    refine xi_iconst (pc' := 19) rfl rfl ?_
    refine xi_istore (pc' := 21) rfl (st1_6 rfl) rfl ?_
    refine xx_imp (r_ans_loop (w := _) ht hs hnn hb (by decide) (hwB_says hh (by omega)) (by omega) (gdB_eq hg says_gd) hgn nn 0 (by omega) _ _ rfl rfl) (fun r h hq => ?_)
    obtain ⟨rfl, rfl⟩ := hq
    simp only [ex_P, Classical.not_not, ↓reduceIte, Nat.add_zero, or_true, true_or, not_true_eq_false, not_false_eq_true, or_false, false_or, wI_get, false_and, true_and, and_true, and_false, and_self, Nat.reduceEqDiff, Nat.succ_ne_zero, reduceCtorEq, nI_lit, nI_lit0, Nat.reduceLT] at *
    first | (simp only [r_ans, *, ↓reduceIte, Nat.add_zero, or_true, true_or, not_true_eq_false, not_false_eq_true, or_false, false_or, wI_get, false_and, true_and, and_true, and_false, and_self, Nat.reduceEqDiff, Nat.succ_ne_zero, reduceCtorEq, nI_lit, nI_lit0, Nat.reduceLT]; done) | (exfalso; simp_all only [↓reduceIte, Nat.add_zero, or_true, true_or, not_true_eq_false, not_false_eq_true, or_false, false_or, wI_get, false_and, true_and, and_true, and_false, and_self, Nat.reduceEqDiff, Nat.succ_ne_zero, reduceCtorEq, nI_lit, nI_lit0, Nat.reduceLT]; done)
  · refine xi_iconst (pc' := 12) rfl rfl ?_
    refine xi_goto (pc' := 16) rfl rfl ?_
    refine xi_istore (pc' := 18) rfl (st1_5 rfl) rfl ?_
    refine xi_iconst (pc' := 19) rfl rfl ?_
    refine xi_istore (pc' := 21) rfl (st1_6 rfl) rfl ?_
    refine xx_imp (r_ans_loop (w := _) ht hs hnn hb (by decide) (hwB_says hh (by omega)) (by omega) (gdB_eq hg says_gd) hgn nn 0 (by omega) _ _ rfl rfl) (fun r h hq => ?_)
    obtain ⟨rfl, rfl⟩ := hq
    simp only [ex_P, Classical.not_not, ↓reduceIte, Nat.add_zero, or_true, true_or, not_true_eq_false, not_false_eq_true, or_false, false_or, wI_get, false_and, true_and, and_true, and_false, and_self, Nat.reduceEqDiff, Nat.succ_ne_zero, reduceCtorEq, nI_lit, nI_lit0, Nat.reduceLT] at *
    first | (simp only [r_ans, *, ↓reduceIte, Nat.add_zero, or_true, true_or, not_true_eq_false, not_false_eq_true, or_false, false_or, wI_get, false_and, true_and, and_true, and_false, and_self, Nat.reduceEqDiff, Nat.succ_ne_zero, reduceCtorEq, nI_lit, nI_lit0, Nat.reduceLT]; done) | (exfalso; simp_all only [↓reduceIte, Nat.add_zero, or_true, true_or, not_true_eq_false, not_false_eq_true, or_false, false_or, wI_get, false_and, true_and, and_true, and_false, and_self, Nat.reduceEqDiff, Nat.succ_ne_zero, reduceCtorEq, nI_lit, nI_lit0, Nat.reduceLT]; done)
end
section
/-! what the reference's steps leave as it was -/
theorem wI_fr {J : ex_Mem} {a k b j : Nat} {v : Int32} (h : b ≠ a) : ex_wI J a k v b j = J b j := if_neg (fun q => h q.1)
theorem put_fr {J : ex_Mem} {b a k : Nat} {w : Int32} (h1 : a ≠ 52) (h2 : a ≠ 53) (h3 : a ≠ 55) (h4 : a ≠ 56) : (r_put J b w).2 a k = J a k := by
  unfold r_put
  split
  · simp only [wI_fr h1, wI_fr h4, wI_fr h3]
  · split
    · rfl
    · split
      · simp only [wI_fr h1, wI_fr h4, wI_fr h2, wI_fr h3]
      · simp only [wI_fr h2, wI_fr h3]
theorem says_fr {J : ex_Mem} {t b a k : Nat} {w : Int32} (h1 : a ≠ 52) (h2 : a ≠ 53) (h3 : a ≠ 55) (h4 : a ≠ 56) : (r_says J t b w).2 a k = J a k := by
  unfold r_says
  split
  · exact put_fr h1 h2 h3 h4
  · rfl
theorem hears_fr {J : ex_Mem} {t a k : Nat} {how c km kl : Int32} (h1 : a ≠ 62) (h2 : a ≠ 63) (h3 : a ≠ 64) : (r_hears J t how c km kl).2 a k = J a k := by
  unfold r_hears
  split
  · rfl
  · split
    · split
      · simp only [wI_fr h3, wI_fr h2, wI_fr h1]
      · simp only [wI_fr h2, wI_fr h1]
    · split
      · simp only [wI_fr h3]
      · rfl
theorem takes_fr {J : ex_Mem} {t s nn a k : Nat} {fa : Int32} (h1 : a ≠ 60) (h2 : a ≠ 61) (h3 : a ≠ 62) (h4 : a ≠ 63) : (r_takes J t s nn fa).2 a k = J a k := by
  unfold r_takes r_fill
  split
  · simp only [wI_fr h4, wI_fr h2, wI_fr h1, wI_fr h1, wI_fr h1, wI_fr h1]
  · simp only [wI_fr h3]
theorem dw_fr {J : ex_Mem} {a k : Nat} {how v : Int32} (h1 : a ≠ 52) (h2 : a ≠ 79) : r_dw J how v a k = J a k := by
  unfold r_dw
  split
  · simp only [wI_fr h1, wI_fr h2]
  · rfl
theorem send_fr {J : ex_Mem} {t s b a k : Nat} (h1 : a ≠ 52) (h2 : a ≠ 53) (h3 : a ≠ 55) (h4 : a ≠ 56) (h5 : a ≠ 79) : ∀ j, r_send J t s b j a k = J a k
  | 0 => rfl
  | j + 1 => by
    unfold r_send
    rw [dw_fr h1 h5, says_fr h1 h2 h3 h4]
    exact send_fr h1 h2 h3 h4 h5 j
theorem ans_fr {J : ex_Mem} {t s nn b a k : Nat} (h1 : a ≠ 52) (h2 : a ≠ 53) (h3 : a ≠ 55) (h4 : a ≠ 56) (h5 : a ≠ 79) : (r_ans J t s nn b).2 a k = J a k := by
  unfold r_ans
  show r_send _ t s b nn a k = J a k
  rw [send_fr h1 h2 h3 h4 h5, says_fr h1 h2 h3 h4]
theorem hears_hw {N t : Nat} {J : ex_Mem} {how c km kl : Int32} (hh : hwB N J) : hwB N (r_hears J t how c km kl).2 := hwB_eq hh (hears_fr (by decide) (by decide) (by decide))
theorem takes_hw {N t s nn : Nat} {J : ex_Mem} {fa : Int32} (hh : hwB N J) : hwB N (r_takes J t s nn fa).2 := hwB_eq hh (takes_fr (by decide) (by decide) (by decide) (by decide))
theorem ans_hw {N t s nn b : Nat} {J : ex_Mem} (hh : hwB N J) (hN : N + 1 + nn < 2 ^ 31) : hwB (N + 1 + nn) (r_ans J t s nn b).2 := hwB_send (hwB_says hh (by omega)) nn hN
theorem hears_gd {N t : Nat} {J : ex_Mem} {how c km kl : Int32} (hh : gdB N J) : gdB N (r_hears J t how c km kl).2 := gdB_eq hh (hears_fr (by decide) (by decide) (by decide))
theorem put_gdB {N b : Nat} {J : ex_Mem} {w : Int32} (hh : gdB N J) : gdB N (r_put J b w).2 := gdB_eq hh put_gd
theorem takes_gd {N t s nn : Nat} {J : ex_Mem} {fa : Int32} (hh : gdB N J) : gdB N (r_takes J t s nn fa).2 := gdB_eq hh (takes_fr (by decide) (by decide) (by decide) (by decide))
section XRV
variable {L : Nat} {xs : Nat → Int32} {D mi pc pc' n : Nat} {lv st : List Value} {I J : ex_Mem} {Q : Option Value → ex_Hp → Prop}
theorem xr_ialdv {a j m : Nat} {i v : Int32} (hf : ex_look (ex_cd cb_G mi) pc = some .iaload) (hk : cb_kd a = (1, m)) (ha : 52 ≤ a ∧ a < 81) (hi : i = nI j) (hj : j < m) (hm : m < 2 ^ 31) (hv : J a j = v) (hpc : pc + 1 = pc') (kk : xx cb_G L xs D mi pc' lv (.int v :: st) (mkH n I J) Q) : xx cb_G L xs D mi pc lv (.int i :: .ref a :: st) (mkH n I J) Q := by
  subst hv
  exact xr_iald hf hk ha hi hj hm hpc kk
theorem xr_getiv {i k : Nat} {z : Int} {v : Int32} (hf : ex_look (ex_cd cb_G mi) pc = some (.getfield i)) (hl : ex_look (ex_lt cb_G (ex_ow cb_G mi)) i = some (0, 8, k, z)) (hn : k < 34) (hv : ¬ cb_fk 8 k = 2) (he : J 52 k = v) (hpc : pc + 3 = pc') (kk : xx cb_G L xs D mi pc' lv (.int v :: st) (mkH n I J) Q) : xx cb_G L xs D mi pc lv (.ref 52 :: st) (mkH n I J) Q := by
  subst he
  exact xr_geti hf hl hn hv hpc kk
theorem xc_ialdv {a j m : Nat} {i v : Int32} (hf : ex_look (ex_cd cb_G mi) pc = some .iaload) (hk : cb_kd a = (1, m)) (ha : ¬ (52 ≤ a ∧ a < 81)) (hs : a < 81 + 2 * n) (hs2 : a < 1000) (hi : i = nI j) (hj : j < m) (hm : m < 2 ^ 31) (hv : I a j = v) (hpc : pc + 1 = pc') (kk : xx cb_G L xs D mi pc' lv (.int v :: st) (mkH n I J) Q) : xx cb_G L xs D mi pc lv (.int i :: .ref a :: st) (mkH n I J) Q := by
  subst hv
  exact xc_iald hf hk ha hs hs2 hi hj hm hpc kk
theorem xc_getiv {i tag c k a : Nat} {z : Int} {v : Int32} (hf : ex_look (ex_cd cb_G mi) pc = some (.getfield i)) (hl : ex_look (ex_lt cb_G (ex_ow cb_G mi)) i = some (tag, c, k, z)) (ht : tag ≤ 1) (hk : cb_kd a = (0, c)) (ha : ¬ (52 ≤ a ∧ a < 81)) (hs : a < 81 + 2 * n) (hn : k < cb_nf c) (hv : ¬ cb_fk c k = 2) (he : I a k = v) (hpc : pc + 3 = pc') (kk : xx cb_G L xs D mi pc' lv (.int v :: st) (mkH n I J) Q) : xx cb_G L xs D mi pc lv (.ref a :: st) (mkH n I J) Q := by
  subst he
  exact xc_geti hf hl ht hk ha hs hn hv hpc kk
end XRV
end
section
def r_mc (t cd : Nat) : Int32 := nI 2048 * nI t + nI 1024 * nI 1 + nI 32 * nI 0 + nI cd
theorem r_commandM {L : Nat} {xs : Nat → Int32} {D n : Nat} {I J : ex_Mem} {t cd : Nat} : ri L xs D 110 [.int (nI t), .int (nI 1), .int (nI 0), .int (nI cd)] (mkH n I J) (r_mc t cd) (mkH n I J) := r_command _ _ _ _
def r_eff (J : ex_Mem) (t cd b : Nat) : ex_Mem := if cd = 1 then ex_wI J 65 t (J 65 t + nI 1) else if cd = 4 then ex_wI J 66 (2 * t + 1 - b) (nI 1) else if cd = 5 then ex_wI J 66 (2 * t + 1 - b) (nI 0) else if cd = 8 then ex_wI (ex_wI J 66 (2 * t) (nI 0)) 66 (2 * t + 1) (nI 0) else J
def r_c1 (J : ex_Mem) (t cd b : Nat) : Int32 × ex_Mem := r_put J b (r_mc t cd)
def r_c2 (J : ex_Mem) (t cd b : Nat) : Int32 × ex_Mem := r_hears (r_c1 J t cd b).2 t (r_c1 J t cd b).1 (r_mc t cd) (if cd = 2 ∨ cd = 18 then nI 1 else nI 0) (if cd = 18 then nI 1 else nI 0)
def r_c3 (J : ex_Mem) (t cd b : Nat) : ex_Mem := r_eff (r_c2 J t cd b).2 t cd b
def r_c4 (J : ex_Mem) (t cd b : Nat) : Int32 × ex_Mem := r_says (r_c3 J t cd b) t b (r_st (r_c3 J t cd b) t)
def r_c5 (J : ex_Mem) (t cd b : Nat) : Int32 × ex_Mem := r_says (r_c4 J t cd b).2 t b ((r_c4 J t cd b).2 64 t + nI 65536)
def r_commands (J : ex_Mem) (m t cd b : Nat) : Int32 × ex_Mem :=
  if (r_c2 J t cd b).1 = 0 then (nI 0, (r_c2 J t cd b).2)
  else if cd = 18 then (if (r_c5 J t cd b).1 = nI 1 ∧ (r_c4 J t cd b).1 = nI 1 then (nI 1, ex_wI (r_c5 J t cd b).2 76 (4 * m) ((r_c5 J t cd b).2 64 t)) else (nI 0, (r_c5 J t cd b).2))
  else (if (r_c4 J t cd b).1 = nI 1 then nI 1 else nI 0, (r_c4 J t cd b).2)
theorem eff_fr {J : ex_Mem} {t cd b a k : Nat} (h1 : a ≠ 65) (h2 : a ≠ 66) : r_eff J t cd b a k = J a k := by
  unfold r_eff
  split
  · exact wI_fr h1
  · split
    · exact wI_fr h2
    · split
      · exact wI_fr h2
      · split
        · rw [wI_fr h2, wI_fr h2]
        · rfl
theorem c2_hw {J : ex_Mem} {N t cd b : Nat} (hh : hwB N J) (hN : N + 1 < 2 ^ 31) : hwB (N + 1) (r_c2 J t cd b).2 := hears_hw (hwB_put hh hN)
theorem c3_hw {J : ex_Mem} {N t cd b : Nat} (hh : hwB N J) (hN : N + 1 < 2 ^ 31) : hwB (N + 1) (r_c3 J t cd b) := hwB_eq (c2_hw (t := t) (cd := cd) (b := b) hh hN) (eff_fr (by decide) (by decide))
theorem c4_hw {J : ex_Mem} {N t cd b : Nat} (hh : hwB N J) (hN : N + 2 < 2 ^ 31) : hwB (N + 2) (r_c4 J t cd b).2 := hwB_says (c3_hw hh (by omega)) hN
theorem c5_hw {J : ex_Mem} {N t cd b : Nat} (hh : hwB N J) (hN : N + 3 < 2 ^ 31) : hwB (N + 3) (r_c5 J t cd b).2 := hwB_says (c4_hw hh (by omega)) hN
theorem r_commands_1 {L : Nat} {xs : Nat → Int32} {D n : Nat} {I J : ex_Mem} {m : Int32} {t b N : Nat} (ht : t < 6) (hb : b < 2) (hh : hwB N J) (hN : N + 3 < 2 ^ 31) : ri L xs (D + 3) 109 [.ref 52, .int m, .int (nI t), .int (nI 1), .int (nI b)] (mkH n I J) ((r_commands J 0 t 1 b).1) (mkH n I (r_commands J 0 t 1 b).2) := by
  show xx cb_G _ _ _ 109 0 [.ref 52, .int m, .int (nI t), .int (nI 1), .int (nI b), ex_no, ex_no, ex_no, ex_no] [] _ _
  refine xi_iload_n (pc' := 1) rfl rfl rfl ?_
  refine xi_iconst (pc' := 2) rfl rfl ?_
  refine xi_iconst (pc' := 3) rfl rfl ?_
  refine xi_iload_n (pc' := 4) rfl rfl rfl ?_
  refine xx_callSi (pc' := 7) rfl rfl (by decide) rfl (Nat.le_of_ble_eq_true rfl) rfl rfl (r_commandM) ?_
  refine xi_istore (pc' := 9) rfl (st1_5 rfl) rfl ?_
  refine xi_aload_n (pc' := 10) rfl rfl rfl ?_
  refine xi_iload (pc' := 12) rfl rfl rfl ?_
  refine xi_iconst (pc' := 13) rfl rfl ?_
  refine xi_iload (pc' := 15) rfl rfl rfl ?_
  refine xx_callVi (pc' := 18) rfl rfl (by decide) rfl rfl (by show _ < 81 + 2 * _; omega) (Nat.le_of_ble_eq_true rfl) rfl rfl (r_put0 hb hh (by omega)) ?_
  refine xi_istore (pc' := 20) rfl (st1_6 rfl) rfl ?_
  refine xi_iload_n (pc' := 21) rfl rfl rfl ?_
  refine xi_iconst (pc' := 22) rfl rfl ?_
  refine xi_icmpf (pc' := 25) (tg := 31) rfl rfl (by decide) rfl ?_
  refine xi_iload_n (pc' := 26) rfl rfl rfl ?_
  refine xi_bipush (pc' := 28) rfl (by decide) rfl ?_
  refine xi_icmpt (pc' := 35) rfl rfl (by decide) ?_
  refine xi_iconst (pc' := 36) rfl rfl ?_
  refine xi_istore (pc' := 38) rfl (st1_7 rfl) rfl ?_
  refine xi_aload_n (pc' := 39) rfl rfl rfl ?_
  refine xi_iload_n (pc' := 40) rfl rfl rfl ?_
  refine xi_iload (pc' := 42) rfl rfl rfl ?_
  refine xi_iload (pc' := 44) rfl rfl rfl ?_
  refine xi_iload (pc' := 46) rfl rfl rfl ?_
  refine xi_iload_n (pc' := 47) rfl rfl rfl ?_
  refine xi_bipush (pc' := 49) rfl (by decide) rfl ?_
  refine xi_icmpt (pc' := 56) rfl rfl (by decide) ?_
  refine xi_iconst (pc' := 57) rfl rfl ?_
  refine xx_callVi (pc' := 60) rfl rfl (by decide) rfl rfl (by show _ < 81 + 2 * _; omega) (Nat.le_of_ble_eq_true rfl) rfl rfl (r_hears_ok ht) ?_
  refine xx_if (pc' := 63) (tg := 65) rfl rfl rfl (fun q60 => ?_) (fun q60 => ?_)
  · refine xi_iload_n (pc' := 66) rfl rfl rfl ?_
    refine xi_iconst (pc' := 67) rfl rfl ?_
    refine xi_icmpf (pc' := 70) (tg := 80) rfl rfl (by decide) rfl ?_
    refine xi_aload_n (pc' := 71) rfl rfl rfl ?_
    refine xr_getp (pc' := 74) rfl rfl (by decide) rfl rfl rfl ?_
    refine xi_iload_n (pc' := 75) rfl rfl rfl ?_
    refine xi_dup2 (pc' := 76) rfl rfl rfl rfl ?_
    refine xr_iald (j := t) (pc' := 77) rfl rfl (by decide) (by first | rfl | (simp only [ix_add, ix_mul, ix_pred]; done) | (simp only [ix_add, ix_mul, ix_pred, *]; done)) (by omega) (by decide) rfl ?_
    refine xi_iconst (pc' := 78) rfl rfl ?_
    refine xi_iadd (pc' := 79) rfl rfl ?_
    refine xr_iast (j := t) (pc' := 80) rfl rfl (by decide) (by first | rfl | (simp only [ix_add, ix_mul, ix_pred]; done) | (simp only [ix_add, ix_mul, ix_pred, *]; done)) (by omega) (by decide) rfl ?_
    refine xi_iload_n (pc' := 81) rfl rfl rfl ?_
    refine xi_iconst (pc' := 82) rfl rfl ?_
    refine xi_icmpf (pc' := 85) (tg := 90) rfl rfl (by decide) rfl ?_
    refine xi_iload_n (pc' := 86) rfl rfl rfl ?_
    refine xi_iconst (pc' := 87) rfl rfl ?_
    refine xi_icmpt (pc' := 113) rfl rfl (by decide) ?_
    refine xi_iload_n (pc' := 114) rfl rfl rfl ?_
    refine xi_bipush (pc' := 116) rfl (by decide) rfl ?_
    refine xi_icmpt (pc' := 139) rfl rfl (by decide) ?_
    refine xi_aload_n (pc' := 140) rfl rfl rfl ?_
    refine xi_iload_n (pc' := 141) rfl rfl rfl ?_
    refine xi_iload (pc' := 143) rfl rfl rfl ?_
    refine xx_callVi (pc' := 146) rfl rfl (by decide) rfl rfl (by show _ < 81 + 2 * _; omega) (Nat.le_of_ble_eq_true rfl) rfl rfl (r_saysStatus ht hb (c3_hw (t := t) (cd := 1) (b := b) hh (by omega)) (by omega)) ?_
    refine xi_iconst (pc' := 147) rfl rfl ?_
    refine xx_icmp (pc' := 150) (tg := 154) rfl rfl rfl (fun q147 => ?_) (fun q147 => ?_)
    · refine xi_iconst (pc' := 155) rfl rfl ?_
      refine xi_istore (pc' := 157) rfl (st1_8 rfl) rfl ?_
      refine xi_iload_n (pc' := 158) rfl rfl rfl ?_
      refine xi_bipush (pc' := 160) rfl (by decide) rfl ?_
      refine xi_icmpt (pc' := 216) rfl rfl (by decide) ?_
      refine xi_iload (pc' := 218) rfl rfl rfl ?_
      refine xx_zreturn rfl rfl (by decide) ?_
      simp only [ex_P, Classical.not_not, ↓reduceIte, Nat.add_zero, or_true, true_or, not_true_eq_false, not_false_eq_true, or_false, false_or, wI_get, false_and, true_and, and_true, and_false, and_self, Nat.reduceEqDiff, Nat.succ_ne_zero, reduceCtorEq, nI_lit, nI_lit0, Nat.reduceLT] at *
      first | (simp only [r_commands, r_c1, r_c2, r_c3, r_c4, r_c5, r_eff, *, ↓reduceIte, Nat.add_zero, or_true, true_or, not_true_eq_false, not_false_eq_true, or_false, false_or, wI_get, false_and, true_and, and_true, and_false, and_self, Nat.reduceEqDiff, Nat.succ_ne_zero, reduceCtorEq, nI_lit, nI_lit0, Nat.reduceLT]; done) | (exfalso; simp_all only [↓reduceIte, Nat.add_zero, or_true, true_or, not_true_eq_false, not_false_eq_true, or_false, false_or, wI_get, false_and, true_and, and_true, and_false, and_self, Nat.reduceEqDiff, Nat.succ_ne_zero, reduceCtorEq, nI_lit, nI_lit0, Nat.reduceLT]; done)
    · refine xi_iconst (pc' := 151) rfl rfl ?_
      refine xi_goto (pc' := 155) rfl rfl ?_
      refine xi_istore (pc' := 157) rfl (st1_8 rfl) rfl ?_
      refine xi_iload_n (pc' := 158) rfl rfl rfl ?_
      refine xi_bipush (pc' := 160) rfl (by decide) rfl ?_
      refine xi_icmpt (pc' := 216) rfl rfl (by decide) ?_
      refine xi_iload (pc' := 218) rfl rfl rfl ?_
      refine xx_zreturn rfl rfl (by decide) ?_
      simp only [ex_P, Classical.not_not, ↓reduceIte, Nat.add_zero, or_true, true_or, not_true_eq_false, not_false_eq_true, or_false, false_or, wI_get, false_and, true_and, and_true, and_false, and_self, Nat.reduceEqDiff, Nat.succ_ne_zero, reduceCtorEq, nI_lit, nI_lit0, Nat.reduceLT] at *
      first | (simp only [r_commands, r_c1, r_c2, r_c3, r_c4, r_c5, r_eff, *, ↓reduceIte, Nat.add_zero, or_true, true_or, not_true_eq_false, not_false_eq_true, or_false, false_or, wI_get, false_and, true_and, and_true, and_false, and_self, Nat.reduceEqDiff, Nat.succ_ne_zero, reduceCtorEq, nI_lit, nI_lit0, Nat.reduceLT]; done) | (exfalso; simp_all only [↓reduceIte, Nat.add_zero, or_true, true_or, not_true_eq_false, not_false_eq_true, or_false, false_or, wI_get, false_and, true_and, and_true, and_false, and_self, Nat.reduceEqDiff, Nat.succ_ne_zero, reduceCtorEq, nI_lit, nI_lit0, Nat.reduceLT]; done)
  · refine xi_iconst (pc' := 64) rfl rfl ?_
    refine xx_zreturn rfl rfl (by decide) ?_
    simp only [ex_P, Classical.not_not, ↓reduceIte, Nat.add_zero, or_true, true_or, not_true_eq_false, not_false_eq_true, or_false, false_or, wI_get, false_and, true_and, and_true, and_false, and_self, Nat.reduceEqDiff, Nat.succ_ne_zero, reduceCtorEq, nI_lit, nI_lit0, Nat.reduceLT] at *
    first | (simp only [r_commands, r_c1, r_c2, r_c3, r_c4, r_c5, r_eff, *, ↓reduceIte, Nat.add_zero, or_true, true_or, not_true_eq_false, not_false_eq_true, or_false, false_or, wI_get, false_and, true_and, and_true, and_false, and_self, Nat.reduceEqDiff, Nat.succ_ne_zero, reduceCtorEq, nI_lit, nI_lit0, Nat.reduceLT]; done) | (exfalso; simp_all only [↓reduceIte, Nat.add_zero, or_true, true_or, not_true_eq_false, not_false_eq_true, or_false, false_or, wI_get, false_and, true_and, and_true, and_false, and_self, Nat.reduceEqDiff, Nat.succ_ne_zero, reduceCtorEq, nI_lit, nI_lit0, Nat.reduceLT]; done)
theorem r_commands_2 {L : Nat} {xs : Nat → Int32} {D n : Nat} {I J : ex_Mem} {m : Int32} {t b N : Nat} (ht : t < 6) (hb : b < 2) (hh : hwB N J) (hN : N + 3 < 2 ^ 31) : ri L xs (D + 3) 109 [.ref 52, .int m, .int (nI t), .int (nI 2), .int (nI b)] (mkH n I J) ((r_commands J 0 t 2 b).1) (mkH n I (r_commands J 0 t 2 b).2) := by
  show xx cb_G _ _ _ 109 0 [.ref 52, .int m, .int (nI t), .int (nI 2), .int (nI b), ex_no, ex_no, ex_no, ex_no] [] _ _
  refine xi_iload_n (pc' := 1) rfl rfl rfl ?_
  refine xi_iconst (pc' := 2) rfl rfl ?_
  refine xi_iconst (pc' := 3) rfl rfl ?_
  refine xi_iload_n (pc' := 4) rfl rfl rfl ?_
  refine xx_callSi (pc' := 7) rfl rfl (by decide) rfl (Nat.le_of_ble_eq_true rfl) rfl rfl (r_commandM) ?_
  refine xi_istore (pc' := 9) rfl (st1_5 rfl) rfl ?_
  refine xi_aload_n (pc' := 10) rfl rfl rfl ?_
  refine xi_iload (pc' := 12) rfl rfl rfl ?_
  refine xi_iconst (pc' := 13) rfl rfl ?_
  refine xi_iload (pc' := 15) rfl rfl rfl ?_
  refine xx_callVi (pc' := 18) rfl rfl (by decide) rfl rfl (by show _ < 81 + 2 * _; omega) (Nat.le_of_ble_eq_true rfl) rfl rfl (r_put0 hb hh (by omega)) ?_
  refine xi_istore (pc' := 20) rfl (st1_6 rfl) rfl ?_
  refine xi_iload_n (pc' := 21) rfl rfl rfl ?_
  refine xi_iconst (pc' := 22) rfl rfl ?_
  refine xi_icmpt (pc' := 31) rfl rfl (by decide) ?_
  refine xi_iconst (pc' := 32) rfl rfl ?_
  refine xi_goto (pc' := 36) rfl rfl ?_
  refine xi_istore (pc' := 38) rfl (st1_7 rfl) rfl ?_
  refine xi_aload_n (pc' := 39) rfl rfl rfl ?_
  refine xi_iload_n (pc' := 40) rfl rfl rfl ?_
  refine xi_iload (pc' := 42) rfl rfl rfl ?_
  refine xi_iload (pc' := 44) rfl rfl rfl ?_
  refine xi_iload (pc' := 46) rfl rfl rfl ?_
  refine xi_iload_n (pc' := 47) rfl rfl rfl ?_
  refine xi_bipush (pc' := 49) rfl (by decide) rfl ?_
  refine xi_icmpt (pc' := 56) rfl rfl (by decide) ?_
  refine xi_iconst (pc' := 57) rfl rfl ?_
  refine xx_callVi (pc' := 60) rfl rfl (by decide) rfl rfl (by show _ < 81 + 2 * _; omega) (Nat.le_of_ble_eq_true rfl) rfl rfl (r_hears_ok ht) ?_
  refine xx_if (pc' := 63) (tg := 65) rfl rfl rfl (fun q60 => ?_) (fun q60 => ?_)
  · refine xi_iload_n (pc' := 66) rfl rfl rfl ?_
    refine xi_iconst (pc' := 67) rfl rfl ?_
    refine xi_icmpt (pc' := 80) rfl rfl (by decide) ?_
    refine xi_iload_n (pc' := 81) rfl rfl rfl ?_
    refine xi_iconst (pc' := 82) rfl rfl ?_
    refine xi_icmpf (pc' := 85) (tg := 90) rfl rfl (by decide) rfl ?_
    refine xi_iload_n (pc' := 86) rfl rfl rfl ?_
    refine xi_iconst (pc' := 87) rfl rfl ?_
    refine xi_icmpt (pc' := 113) rfl rfl (by decide) ?_
    refine xi_iload_n (pc' := 114) rfl rfl rfl ?_
    refine xi_bipush (pc' := 116) rfl (by decide) rfl ?_
    refine xi_icmpt (pc' := 139) rfl rfl (by decide) ?_
    refine xi_aload_n (pc' := 140) rfl rfl rfl ?_
    refine xi_iload_n (pc' := 141) rfl rfl rfl ?_
    refine xi_iload (pc' := 143) rfl rfl rfl ?_
    refine xx_callVi (pc' := 146) rfl rfl (by decide) rfl rfl (by show _ < 81 + 2 * _; omega) (Nat.le_of_ble_eq_true rfl) rfl rfl (r_saysStatus ht hb (c3_hw (t := t) (cd := 2) (b := b) hh (by omega)) (by omega)) ?_
    refine xi_iconst (pc' := 147) rfl rfl ?_
    refine xx_icmp (pc' := 150) (tg := 154) rfl rfl rfl (fun q147 => ?_) (fun q147 => ?_)
    · refine xi_iconst (pc' := 155) rfl rfl ?_
      refine xi_istore (pc' := 157) rfl (st1_8 rfl) rfl ?_
      refine xi_iload_n (pc' := 158) rfl rfl rfl ?_
      refine xi_bipush (pc' := 160) rfl (by decide) rfl ?_
      refine xi_icmpt (pc' := 216) rfl rfl (by decide) ?_
      refine xi_iload (pc' := 218) rfl rfl rfl ?_
      refine xx_zreturn rfl rfl (by decide) ?_
      simp only [ex_P, Classical.not_not, ↓reduceIte, Nat.add_zero, or_true, true_or, not_true_eq_false, not_false_eq_true, or_false, false_or, wI_get, false_and, true_and, and_true, and_false, and_self, Nat.reduceEqDiff, Nat.succ_ne_zero, reduceCtorEq, nI_lit, nI_lit0, Nat.reduceLT] at *
      first | (simp only [r_commands, r_c1, r_c2, r_c3, r_c4, r_c5, r_eff, *, ↓reduceIte, Nat.add_zero, or_true, true_or, not_true_eq_false, not_false_eq_true, or_false, false_or, wI_get, false_and, true_and, and_true, and_false, and_self, Nat.reduceEqDiff, Nat.succ_ne_zero, reduceCtorEq, nI_lit, nI_lit0, Nat.reduceLT]; done) | (exfalso; simp_all only [↓reduceIte, Nat.add_zero, or_true, true_or, not_true_eq_false, not_false_eq_true, or_false, false_or, wI_get, false_and, true_and, and_true, and_false, and_self, Nat.reduceEqDiff, Nat.succ_ne_zero, reduceCtorEq, nI_lit, nI_lit0, Nat.reduceLT]; done)
    · refine xi_iconst (pc' := 151) rfl rfl ?_
      refine xi_goto (pc' := 155) rfl rfl ?_
      refine xi_istore (pc' := 157) rfl (st1_8 rfl) rfl ?_
      refine xi_iload_n (pc' := 158) rfl rfl rfl ?_
      refine xi_bipush (pc' := 160) rfl (by decide) rfl ?_
      refine xi_icmpt (pc' := 216) rfl rfl (by decide) ?_
      refine xi_iload (pc' := 218) rfl rfl rfl ?_
      refine xx_zreturn rfl rfl (by decide) ?_
      simp only [ex_P, Classical.not_not, ↓reduceIte, Nat.add_zero, or_true, true_or, not_true_eq_false, not_false_eq_true, or_false, false_or, wI_get, false_and, true_and, and_true, and_false, and_self, Nat.reduceEqDiff, Nat.succ_ne_zero, reduceCtorEq, nI_lit, nI_lit0, Nat.reduceLT] at *
      first | (simp only [r_commands, r_c1, r_c2, r_c3, r_c4, r_c5, r_eff, *, ↓reduceIte, Nat.add_zero, or_true, true_or, not_true_eq_false, not_false_eq_true, or_false, false_or, wI_get, false_and, true_and, and_true, and_false, and_self, Nat.reduceEqDiff, Nat.succ_ne_zero, reduceCtorEq, nI_lit, nI_lit0, Nat.reduceLT]; done) | (exfalso; simp_all only [↓reduceIte, Nat.add_zero, or_true, true_or, not_true_eq_false, not_false_eq_true, or_false, false_or, wI_get, false_and, true_and, and_true, and_false, and_self, Nat.reduceEqDiff, Nat.succ_ne_zero, reduceCtorEq, nI_lit, nI_lit0, Nat.reduceLT]; done)
  · refine xi_iconst (pc' := 64) rfl rfl ?_
    refine xx_zreturn rfl rfl (by decide) ?_
    simp only [ex_P, Classical.not_not, ↓reduceIte, Nat.add_zero, or_true, true_or, not_true_eq_false, not_false_eq_true, or_false, false_or, wI_get, false_and, true_and, and_true, and_false, and_self, Nat.reduceEqDiff, Nat.succ_ne_zero, reduceCtorEq, nI_lit, nI_lit0, Nat.reduceLT] at *
    first | (simp only [r_commands, r_c1, r_c2, r_c3, r_c4, r_c5, r_eff, *, ↓reduceIte, Nat.add_zero, or_true, true_or, not_true_eq_false, not_false_eq_true, or_false, false_or, wI_get, false_and, true_and, and_true, and_false, and_self, Nat.reduceEqDiff, Nat.succ_ne_zero, reduceCtorEq, nI_lit, nI_lit0, Nat.reduceLT]; done) | (exfalso; simp_all only [↓reduceIte, Nat.add_zero, or_true, true_or, not_true_eq_false, not_false_eq_true, or_false, false_or, wI_get, false_and, true_and, and_true, and_false, and_self, Nat.reduceEqDiff, Nat.succ_ne_zero, reduceCtorEq, nI_lit, nI_lit0, Nat.reduceLT]; done)
theorem r_commands_4 {L : Nat} {xs : Nat → Int32} {D n : Nat} {I J : ex_Mem} {m : Int32} {t b N : Nat} (ht : t < 6) (hb : b < 2) (hh : hwB N J) (hN : N + 3 < 2 ^ 31) : ri L xs (D + 3) 109 [.ref 52, .int m, .int (nI t), .int (nI 4), .int (nI b)] (mkH n I J) ((r_commands J 0 t 4 b).1) (mkH n I (r_commands J 0 t 4 b).2) := by
  show xx cb_G _ _ _ 109 0 [.ref 52, .int m, .int (nI t), .int (nI 4), .int (nI b), ex_no, ex_no, ex_no, ex_no] [] _ _
  refine xi_iload_n (pc' := 1) rfl rfl rfl ?_
  refine xi_iconst (pc' := 2) rfl rfl ?_
  refine xi_iconst (pc' := 3) rfl rfl ?_
  refine xi_iload_n (pc' := 4) rfl rfl rfl ?_
  refine xx_callSi (pc' := 7) rfl rfl (by decide) rfl (Nat.le_of_ble_eq_true rfl) rfl rfl (r_commandM) ?_
  refine xi_istore (pc' := 9) rfl (st1_5 rfl) rfl ?_
  refine xi_aload_n (pc' := 10) rfl rfl rfl ?_
  refine xi_iload (pc' := 12) rfl rfl rfl ?_
  refine xi_iconst (pc' := 13) rfl rfl ?_
  refine xi_iload (pc' := 15) rfl rfl rfl ?_
  refine xx_callVi (pc' := 18) rfl rfl (by decide) rfl rfl (by show _ < 81 + 2 * _; omega) (Nat.le_of_ble_eq_true rfl) rfl rfl (r_put0 hb hh (by omega)) ?_
  refine xi_istore (pc' := 20) rfl (st1_6 rfl) rfl ?_
  refine xi_iload_n (pc' := 21) rfl rfl rfl ?_
  refine xi_iconst (pc' := 22) rfl rfl ?_
  refine xi_icmpf (pc' := 25) (tg := 31) rfl rfl (by decide) rfl ?_
  refine xi_iload_n (pc' := 26) rfl rfl rfl ?_
  refine xi_bipush (pc' := 28) rfl (by decide) rfl ?_
  refine xi_icmpt (pc' := 35) rfl rfl (by decide) ?_
  refine xi_iconst (pc' := 36) rfl rfl ?_
  refine xi_istore (pc' := 38) rfl (st1_7 rfl) rfl ?_
  refine xi_aload_n (pc' := 39) rfl rfl rfl ?_
  refine xi_iload_n (pc' := 40) rfl rfl rfl ?_
  refine xi_iload (pc' := 42) rfl rfl rfl ?_
  refine xi_iload (pc' := 44) rfl rfl rfl ?_
  refine xi_iload (pc' := 46) rfl rfl rfl ?_
  refine xi_iload_n (pc' := 47) rfl rfl rfl ?_
  refine xi_bipush (pc' := 49) rfl (by decide) rfl ?_
  refine xi_icmpt (pc' := 56) rfl rfl (by decide) ?_
  refine xi_iconst (pc' := 57) rfl rfl ?_
  refine xx_callVi (pc' := 60) rfl rfl (by decide) rfl rfl (by show _ < 81 + 2 * _; omega) (Nat.le_of_ble_eq_true rfl) rfl rfl (r_hears_ok ht) ?_
  refine xx_if (pc' := 63) (tg := 65) rfl rfl rfl (fun q60 => ?_) (fun q60 => ?_)
  · refine xi_iload_n (pc' := 66) rfl rfl rfl ?_
    refine xi_iconst (pc' := 67) rfl rfl ?_
    refine xi_icmpt (pc' := 80) rfl rfl (by decide) ?_
    refine xi_iload_n (pc' := 81) rfl rfl rfl ?_
    refine xi_iconst (pc' := 82) rfl rfl ?_
    refine xi_icmpt (pc' := 90) rfl rfl (by decide) ?_
    refine xi_aload_n (pc' := 91) rfl rfl rfl ?_
    refine xr_getp (pc' := 94) rfl rfl (by decide) rfl rfl rfl ?_
    refine xi_iconst (pc' := 95) rfl rfl ?_
    refine xi_iload_n (pc' := 96) rfl rfl rfl ?_
    refine xi_imul (pc' := 97) rfl rfl ?_
    refine xi_iconst (pc' := 98) rfl rfl ?_
    refine xi_iadd (pc' := 99) rfl rfl ?_
    refine xi_iload (pc' := 101) rfl rfl rfl ?_
    refine xi_isub (pc' := 102) rfl rfl ?_
    refine xi_iload_n (pc' := 103) rfl rfl rfl ?_
    refine xi_iconst (pc' := 104) rfl rfl ?_
    refine xi_icmpf (pc' := 107) (tg := 111) rfl rfl (by decide) rfl ?_
    refine xi_iconst (pc' := 108) rfl rfl ?_
    refine xi_goto (pc' := 112) rfl rfl ?_
    refine xr_zast (j := 2 * t + 1 - b) (pc' := 113) rfl rfl (by decide) (by simp only [ix_mul, ix_add]; exact pk_sub (by omega)) (by omega) (by decide) (by decide) rfl ?_
    refine xi_iload_n (pc' := 114) rfl rfl rfl ?_
    refine xi_bipush (pc' := 116) rfl (by decide) rfl ?_
    refine xi_icmpt (pc' := 139) rfl rfl (by decide) ?_
    refine xi_aload_n (pc' := 140) rfl rfl rfl ?_
    refine xi_iload_n (pc' := 141) rfl rfl rfl ?_
    refine xi_iload (pc' := 143) rfl rfl rfl ?_
    refine xx_callVi (pc' := 146) rfl rfl (by decide) rfl rfl (by show _ < 81 + 2 * _; omega) (Nat.le_of_ble_eq_true rfl) rfl rfl (r_saysStatus ht hb (c3_hw (t := t) (cd := 4) (b := b) hh (by omega)) (by omega)) ?_
    refine xi_iconst (pc' := 147) rfl rfl ?_
    refine xx_icmp (pc' := 150) (tg := 154) rfl rfl rfl (fun q147 => ?_) (fun q147 => ?_)
    · refine xi_iconst (pc' := 155) rfl rfl ?_
      refine xi_istore (pc' := 157) rfl (st1_8 rfl) rfl ?_
      refine xi_iload_n (pc' := 158) rfl rfl rfl ?_
      refine xi_bipush (pc' := 160) rfl (by decide) rfl ?_
      refine xi_icmpt (pc' := 216) rfl rfl (by decide) ?_
      refine xi_iload (pc' := 218) rfl rfl rfl ?_
      refine xx_zreturn rfl rfl (by decide) ?_
      simp only [ex_P, Classical.not_not, ↓reduceIte, Nat.add_zero, or_true, true_or, not_true_eq_false, not_false_eq_true, or_false, false_or, wI_get, false_and, true_and, and_true, and_false, and_self, Nat.reduceEqDiff, Nat.succ_ne_zero, reduceCtorEq, nI_lit, nI_lit0, Nat.reduceLT] at *
      first | (simp only [r_commands, r_c1, r_c2, r_c3, r_c4, r_c5, r_eff, *, ↓reduceIte, Nat.add_zero, or_true, true_or, not_true_eq_false, not_false_eq_true, or_false, false_or, wI_get, false_and, true_and, and_true, and_false, and_self, Nat.reduceEqDiff, Nat.succ_ne_zero, reduceCtorEq, nI_lit, nI_lit0, Nat.reduceLT]; done) | (exfalso; simp_all only [↓reduceIte, Nat.add_zero, or_true, true_or, not_true_eq_false, not_false_eq_true, or_false, false_or, wI_get, false_and, true_and, and_true, and_false, and_self, Nat.reduceEqDiff, Nat.succ_ne_zero, reduceCtorEq, nI_lit, nI_lit0, Nat.reduceLT]; done)
    · refine xi_iconst (pc' := 151) rfl rfl ?_
      refine xi_goto (pc' := 155) rfl rfl ?_
      refine xi_istore (pc' := 157) rfl (st1_8 rfl) rfl ?_
      refine xi_iload_n (pc' := 158) rfl rfl rfl ?_
      refine xi_bipush (pc' := 160) rfl (by decide) rfl ?_
      refine xi_icmpt (pc' := 216) rfl rfl (by decide) ?_
      refine xi_iload (pc' := 218) rfl rfl rfl ?_
      refine xx_zreturn rfl rfl (by decide) ?_
      simp only [ex_P, Classical.not_not, ↓reduceIte, Nat.add_zero, or_true, true_or, not_true_eq_false, not_false_eq_true, or_false, false_or, wI_get, false_and, true_and, and_true, and_false, and_self, Nat.reduceEqDiff, Nat.succ_ne_zero, reduceCtorEq, nI_lit, nI_lit0, Nat.reduceLT] at *
      first | (simp only [r_commands, r_c1, r_c2, r_c3, r_c4, r_c5, r_eff, *, ↓reduceIte, Nat.add_zero, or_true, true_or, not_true_eq_false, not_false_eq_true, or_false, false_or, wI_get, false_and, true_and, and_true, and_false, and_self, Nat.reduceEqDiff, Nat.succ_ne_zero, reduceCtorEq, nI_lit, nI_lit0, Nat.reduceLT]; done) | (exfalso; simp_all only [↓reduceIte, Nat.add_zero, or_true, true_or, not_true_eq_false, not_false_eq_true, or_false, false_or, wI_get, false_and, true_and, and_true, and_false, and_self, Nat.reduceEqDiff, Nat.succ_ne_zero, reduceCtorEq, nI_lit, nI_lit0, Nat.reduceLT]; done)
  · refine xi_iconst (pc' := 64) rfl rfl ?_
    refine xx_zreturn rfl rfl (by decide) ?_
    simp only [ex_P, Classical.not_not, ↓reduceIte, Nat.add_zero, or_true, true_or, not_true_eq_false, not_false_eq_true, or_false, false_or, wI_get, false_and, true_and, and_true, and_false, and_self, Nat.reduceEqDiff, Nat.succ_ne_zero, reduceCtorEq, nI_lit, nI_lit0, Nat.reduceLT] at *
    first | (simp only [r_commands, r_c1, r_c2, r_c3, r_c4, r_c5, r_eff, *, ↓reduceIte, Nat.add_zero, or_true, true_or, not_true_eq_false, not_false_eq_true, or_false, false_or, wI_get, false_and, true_and, and_true, and_false, and_self, Nat.reduceEqDiff, Nat.succ_ne_zero, reduceCtorEq, nI_lit, nI_lit0, Nat.reduceLT]; done) | (exfalso; simp_all only [↓reduceIte, Nat.add_zero, or_true, true_or, not_true_eq_false, not_false_eq_true, or_false, false_or, wI_get, false_and, true_and, and_true, and_false, and_self, Nat.reduceEqDiff, Nat.succ_ne_zero, reduceCtorEq, nI_lit, nI_lit0, Nat.reduceLT]; done)
theorem r_commands_5 {L : Nat} {xs : Nat → Int32} {D n : Nat} {I J : ex_Mem} {m : Int32} {t b N : Nat} (ht : t < 6) (hb : b < 2) (hh : hwB N J) (hN : N + 3 < 2 ^ 31) : ri L xs (D + 3) 109 [.ref 52, .int m, .int (nI t), .int (nI 5), .int (nI b)] (mkH n I J) ((r_commands J 0 t 5 b).1) (mkH n I (r_commands J 0 t 5 b).2) := by
  show xx cb_G _ _ _ 109 0 [.ref 52, .int m, .int (nI t), .int (nI 5), .int (nI b), ex_no, ex_no, ex_no, ex_no] [] _ _
  refine xi_iload_n (pc' := 1) rfl rfl rfl ?_
  refine xi_iconst (pc' := 2) rfl rfl ?_
  refine xi_iconst (pc' := 3) rfl rfl ?_
  refine xi_iload_n (pc' := 4) rfl rfl rfl ?_
  refine xx_callSi (pc' := 7) rfl rfl (by decide) rfl (Nat.le_of_ble_eq_true rfl) rfl rfl (r_commandM) ?_
  refine xi_istore (pc' := 9) rfl (st1_5 rfl) rfl ?_
  refine xi_aload_n (pc' := 10) rfl rfl rfl ?_
  refine xi_iload (pc' := 12) rfl rfl rfl ?_
  refine xi_iconst (pc' := 13) rfl rfl ?_
  refine xi_iload (pc' := 15) rfl rfl rfl ?_
  refine xx_callVi (pc' := 18) rfl rfl (by decide) rfl rfl (by show _ < 81 + 2 * _; omega) (Nat.le_of_ble_eq_true rfl) rfl rfl (r_put0 hb hh (by omega)) ?_
  refine xi_istore (pc' := 20) rfl (st1_6 rfl) rfl ?_
  refine xi_iload_n (pc' := 21) rfl rfl rfl ?_
  refine xi_iconst (pc' := 22) rfl rfl ?_
  refine xi_icmpf (pc' := 25) (tg := 31) rfl rfl (by decide) rfl ?_
  refine xi_iload_n (pc' := 26) rfl rfl rfl ?_
  refine xi_bipush (pc' := 28) rfl (by decide) rfl ?_
  refine xi_icmpt (pc' := 35) rfl rfl (by decide) ?_
  refine xi_iconst (pc' := 36) rfl rfl ?_
  refine xi_istore (pc' := 38) rfl (st1_7 rfl) rfl ?_
  refine xi_aload_n (pc' := 39) rfl rfl rfl ?_
  refine xi_iload_n (pc' := 40) rfl rfl rfl ?_
  refine xi_iload (pc' := 42) rfl rfl rfl ?_
  refine xi_iload (pc' := 44) rfl rfl rfl ?_
  refine xi_iload (pc' := 46) rfl rfl rfl ?_
  refine xi_iload_n (pc' := 47) rfl rfl rfl ?_
  refine xi_bipush (pc' := 49) rfl (by decide) rfl ?_
  refine xi_icmpt (pc' := 56) rfl rfl (by decide) ?_
  refine xi_iconst (pc' := 57) rfl rfl ?_
  refine xx_callVi (pc' := 60) rfl rfl (by decide) rfl rfl (by show _ < 81 + 2 * _; omega) (Nat.le_of_ble_eq_true rfl) rfl rfl (r_hears_ok ht) ?_
  refine xx_if (pc' := 63) (tg := 65) rfl rfl rfl (fun q60 => ?_) (fun q60 => ?_)
  · refine xi_iload_n (pc' := 66) rfl rfl rfl ?_
    refine xi_iconst (pc' := 67) rfl rfl ?_
    refine xi_icmpt (pc' := 80) rfl rfl (by decide) ?_
    refine xi_iload_n (pc' := 81) rfl rfl rfl ?_
    refine xi_iconst (pc' := 82) rfl rfl ?_
    refine xi_icmpf (pc' := 85) (tg := 90) rfl rfl (by decide) rfl ?_
    refine xi_iload_n (pc' := 86) rfl rfl rfl ?_
    refine xi_iconst (pc' := 87) rfl rfl ?_
    refine xi_icmpf (pc' := 90) (tg := 113) rfl rfl (by decide) rfl ?_
    refine xi_aload_n (pc' := 91) rfl rfl rfl ?_
    refine xr_getp (pc' := 94) rfl rfl (by decide) rfl rfl rfl ?_
    refine xi_iconst (pc' := 95) rfl rfl ?_
    refine xi_iload_n (pc' := 96) rfl rfl rfl ?_
    refine xi_imul (pc' := 97) rfl rfl ?_
    refine xi_iconst (pc' := 98) rfl rfl ?_
    refine xi_iadd (pc' := 99) rfl rfl ?_
    refine xi_iload (pc' := 101) rfl rfl rfl ?_
    refine xi_isub (pc' := 102) rfl rfl ?_
    refine xi_iload_n (pc' := 103) rfl rfl rfl ?_
    refine xi_iconst (pc' := 104) rfl rfl ?_
    refine xi_icmpt (pc' := 111) rfl rfl (by decide) ?_
    refine xi_iconst (pc' := 112) rfl rfl ?_
    refine xr_zast (j := 2 * t + 1 - b) (pc' := 113) rfl rfl (by decide) (by simp only [ix_mul, ix_add]; exact pk_sub (by omega)) (by omega) (by decide) (by decide) rfl ?_
    refine xi_iload_n (pc' := 114) rfl rfl rfl ?_
    refine xi_bipush (pc' := 116) rfl (by decide) rfl ?_
    refine xi_icmpt (pc' := 139) rfl rfl (by decide) ?_
    refine xi_aload_n (pc' := 140) rfl rfl rfl ?_
    refine xi_iload_n (pc' := 141) rfl rfl rfl ?_
    refine xi_iload (pc' := 143) rfl rfl rfl ?_
    refine xx_callVi (pc' := 146) rfl rfl (by decide) rfl rfl (by show _ < 81 + 2 * _; omega) (Nat.le_of_ble_eq_true rfl) rfl rfl (r_saysStatus ht hb (c3_hw (t := t) (cd := 5) (b := b) hh (by omega)) (by omega)) ?_
    refine xi_iconst (pc' := 147) rfl rfl ?_
    refine xx_icmp (pc' := 150) (tg := 154) rfl rfl rfl (fun q147 => ?_) (fun q147 => ?_)
    · refine xi_iconst (pc' := 155) rfl rfl ?_
      refine xi_istore (pc' := 157) rfl (st1_8 rfl) rfl ?_
      refine xi_iload_n (pc' := 158) rfl rfl rfl ?_
      refine xi_bipush (pc' := 160) rfl (by decide) rfl ?_
      refine xi_icmpt (pc' := 216) rfl rfl (by decide) ?_
      refine xi_iload (pc' := 218) rfl rfl rfl ?_
      refine xx_zreturn rfl rfl (by decide) ?_
      simp only [ex_P, Classical.not_not, ↓reduceIte, Nat.add_zero, or_true, true_or, not_true_eq_false, not_false_eq_true, or_false, false_or, wI_get, false_and, true_and, and_true, and_false, and_self, Nat.reduceEqDiff, Nat.succ_ne_zero, reduceCtorEq, nI_lit, nI_lit0, Nat.reduceLT] at *
      first | (simp only [r_commands, r_c1, r_c2, r_c3, r_c4, r_c5, r_eff, *, ↓reduceIte, Nat.add_zero, or_true, true_or, not_true_eq_false, not_false_eq_true, or_false, false_or, wI_get, false_and, true_and, and_true, and_false, and_self, Nat.reduceEqDiff, Nat.succ_ne_zero, reduceCtorEq, nI_lit, nI_lit0, Nat.reduceLT]; done) | (exfalso; simp_all only [↓reduceIte, Nat.add_zero, or_true, true_or, not_true_eq_false, not_false_eq_true, or_false, false_or, wI_get, false_and, true_and, and_true, and_false, and_self, Nat.reduceEqDiff, Nat.succ_ne_zero, reduceCtorEq, nI_lit, nI_lit0, Nat.reduceLT]; done)
    · refine xi_iconst (pc' := 151) rfl rfl ?_
      refine xi_goto (pc' := 155) rfl rfl ?_
      refine xi_istore (pc' := 157) rfl (st1_8 rfl) rfl ?_
      refine xi_iload_n (pc' := 158) rfl rfl rfl ?_
      refine xi_bipush (pc' := 160) rfl (by decide) rfl ?_
      refine xi_icmpt (pc' := 216) rfl rfl (by decide) ?_
      refine xi_iload (pc' := 218) rfl rfl rfl ?_
      refine xx_zreturn rfl rfl (by decide) ?_
      simp only [ex_P, Classical.not_not, ↓reduceIte, Nat.add_zero, or_true, true_or, not_true_eq_false, not_false_eq_true, or_false, false_or, wI_get, false_and, true_and, and_true, and_false, and_self, Nat.reduceEqDiff, Nat.succ_ne_zero, reduceCtorEq, nI_lit, nI_lit0, Nat.reduceLT] at *
      first | (simp only [r_commands, r_c1, r_c2, r_c3, r_c4, r_c5, r_eff, *, ↓reduceIte, Nat.add_zero, or_true, true_or, not_true_eq_false, not_false_eq_true, or_false, false_or, wI_get, false_and, true_and, and_true, and_false, and_self, Nat.reduceEqDiff, Nat.succ_ne_zero, reduceCtorEq, nI_lit, nI_lit0, Nat.reduceLT]; done) | (exfalso; simp_all only [↓reduceIte, Nat.add_zero, or_true, true_or, not_true_eq_false, not_false_eq_true, or_false, false_or, wI_get, false_and, true_and, and_true, and_false, and_self, Nat.reduceEqDiff, Nat.succ_ne_zero, reduceCtorEq, nI_lit, nI_lit0, Nat.reduceLT]; done)
  · refine xi_iconst (pc' := 64) rfl rfl ?_
    refine xx_zreturn rfl rfl (by decide) ?_
    simp only [ex_P, Classical.not_not, ↓reduceIte, Nat.add_zero, or_true, true_or, not_true_eq_false, not_false_eq_true, or_false, false_or, wI_get, false_and, true_and, and_true, and_false, and_self, Nat.reduceEqDiff, Nat.succ_ne_zero, reduceCtorEq, nI_lit, nI_lit0, Nat.reduceLT] at *
    first | (simp only [r_commands, r_c1, r_c2, r_c3, r_c4, r_c5, r_eff, *, ↓reduceIte, Nat.add_zero, or_true, true_or, not_true_eq_false, not_false_eq_true, or_false, false_or, wI_get, false_and, true_and, and_true, and_false, and_self, Nat.reduceEqDiff, Nat.succ_ne_zero, reduceCtorEq, nI_lit, nI_lit0, Nat.reduceLT]; done) | (exfalso; simp_all only [↓reduceIte, Nat.add_zero, or_true, true_or, not_true_eq_false, not_false_eq_true, or_false, false_or, wI_get, false_and, true_and, and_true, and_false, and_self, Nat.reduceEqDiff, Nat.succ_ne_zero, reduceCtorEq, nI_lit, nI_lit0, Nat.reduceLT]; done)
theorem r_commands_8 {L : Nat} {xs : Nat → Int32} {D n : Nat} {I J : ex_Mem} {m : Int32} {t b N : Nat} (ht : t < 6) (hb : b < 2) (hh : hwB N J) (hN : N + 3 < 2 ^ 31) : ri L xs (D + 3) 109 [.ref 52, .int m, .int (nI t), .int (nI 8), .int (nI b)] (mkH n I J) ((r_commands J 0 t 8 b).1) (mkH n I (r_commands J 0 t 8 b).2) := by
  show xx cb_G _ _ _ 109 0 [.ref 52, .int m, .int (nI t), .int (nI 8), .int (nI b), ex_no, ex_no, ex_no, ex_no] [] _ _
  refine xi_iload_n (pc' := 1) rfl rfl rfl ?_
  refine xi_iconst (pc' := 2) rfl rfl ?_
  refine xi_iconst (pc' := 3) rfl rfl ?_
  refine xi_iload_n (pc' := 4) rfl rfl rfl ?_
  refine xx_callSi (pc' := 7) rfl rfl (by decide) rfl (Nat.le_of_ble_eq_true rfl) rfl rfl (r_commandM) ?_
  refine xi_istore (pc' := 9) rfl (st1_5 rfl) rfl ?_
  refine xi_aload_n (pc' := 10) rfl rfl rfl ?_
  refine xi_iload (pc' := 12) rfl rfl rfl ?_
  refine xi_iconst (pc' := 13) rfl rfl ?_
  refine xi_iload (pc' := 15) rfl rfl rfl ?_
  refine xx_callVi (pc' := 18) rfl rfl (by decide) rfl rfl (by show _ < 81 + 2 * _; omega) (Nat.le_of_ble_eq_true rfl) rfl rfl (r_put0 hb hh (by omega)) ?_
  refine xi_istore (pc' := 20) rfl (st1_6 rfl) rfl ?_
  refine xi_iload_n (pc' := 21) rfl rfl rfl ?_
  refine xi_iconst (pc' := 22) rfl rfl ?_
  refine xi_icmpf (pc' := 25) (tg := 31) rfl rfl (by decide) rfl ?_
  refine xi_iload_n (pc' := 26) rfl rfl rfl ?_
  refine xi_bipush (pc' := 28) rfl (by decide) rfl ?_
  refine xi_icmpt (pc' := 35) rfl rfl (by decide) ?_
  refine xi_iconst (pc' := 36) rfl rfl ?_
  refine xi_istore (pc' := 38) rfl (st1_7 rfl) rfl ?_
  refine xi_aload_n (pc' := 39) rfl rfl rfl ?_
  refine xi_iload_n (pc' := 40) rfl rfl rfl ?_
  refine xi_iload (pc' := 42) rfl rfl rfl ?_
  refine xi_iload (pc' := 44) rfl rfl rfl ?_
  refine xi_iload (pc' := 46) rfl rfl rfl ?_
  refine xi_iload_n (pc' := 47) rfl rfl rfl ?_
  refine xi_bipush (pc' := 49) rfl (by decide) rfl ?_
  refine xi_icmpt (pc' := 56) rfl rfl (by decide) ?_
  refine xi_iconst (pc' := 57) rfl rfl ?_
  refine xx_callVi (pc' := 60) rfl rfl (by decide) rfl rfl (by show _ < 81 + 2 * _; omega) (Nat.le_of_ble_eq_true rfl) rfl rfl (r_hears_ok ht) ?_
  refine xx_if (pc' := 63) (tg := 65) rfl rfl rfl (fun q60 => ?_) (fun q60 => ?_)
  · refine xi_iload_n (pc' := 66) rfl rfl rfl ?_
    refine xi_iconst (pc' := 67) rfl rfl ?_
    refine xi_icmpt (pc' := 80) rfl rfl (by decide) ?_
    refine xi_iload_n (pc' := 81) rfl rfl rfl ?_
    refine xi_iconst (pc' := 82) rfl rfl ?_
    refine xi_icmpf (pc' := 85) (tg := 90) rfl rfl (by decide) rfl ?_
    refine xi_iload_n (pc' := 86) rfl rfl rfl ?_
    refine xi_iconst (pc' := 87) rfl rfl ?_
    refine xi_icmpt (pc' := 113) rfl rfl (by decide) ?_
    refine xi_iload_n (pc' := 114) rfl rfl rfl ?_
    refine xi_bipush (pc' := 116) rfl (by decide) rfl ?_
    refine xi_icmpf (pc' := 119) (tg := 139) rfl rfl (by decide) rfl ?_
    refine xi_aload_n (pc' := 120) rfl rfl rfl ?_
    refine xr_getp (pc' := 123) rfl rfl (by decide) rfl rfl rfl ?_
    refine xi_iconst (pc' := 124) rfl rfl ?_
    refine xi_iload_n (pc' := 125) rfl rfl rfl ?_
    refine xi_imul (pc' := 126) rfl rfl ?_
    refine xi_iconst (pc' := 127) rfl rfl ?_
    refine xr_zast (j := (2) * (t)) (pc' := 128) rfl rfl (by decide) (by first | rfl | (simp only [ix_add, ix_mul, ix_pred]; done) | (simp only [ix_add, ix_mul, ix_pred, *]; done)) (by omega) (by decide) (by decide) rfl ?_
    refine xi_aload_n (pc' := 129) rfl rfl rfl ?_
    refine xr_getp (pc' := 132) rfl rfl (by decide) rfl rfl rfl ?_
    refine xi_iconst (pc' := 133) rfl rfl ?_
    refine xi_iload_n (pc' := 134) rfl rfl rfl ?_
    refine xi_imul (pc' := 135) rfl rfl ?_
    refine xi_iconst (pc' := 136) rfl rfl ?_
    refine xi_iadd (pc' := 137) rfl rfl ?_
    refine xi_iconst (pc' := 138) rfl rfl ?_
    refine xr_zast (j := (2) * (t) + 1) (pc' := 139) rfl rfl (by decide) (by first | rfl | (simp only [ix_add, ix_mul, ix_pred]; done) | (simp only [ix_add, ix_mul, ix_pred, *]; done)) (by omega) (by decide) (by decide) rfl ?_
    refine xi_aload_n (pc' := 140) rfl rfl rfl ?_
    refine xi_iload_n (pc' := 141) rfl rfl rfl ?_
    refine xi_iload (pc' := 143) rfl rfl rfl ?_
    refine xx_callVi (pc' := 146) rfl rfl (by decide) rfl rfl (by show _ < 81 + 2 * _; omega) (Nat.le_of_ble_eq_true rfl) rfl rfl (r_saysStatus ht hb (c3_hw (t := t) (cd := 8) (b := b) hh (by omega)) (by omega)) ?_
    refine xi_iconst (pc' := 147) rfl rfl ?_
    refine xx_icmp (pc' := 150) (tg := 154) rfl rfl rfl (fun q147 => ?_) (fun q147 => ?_)
    · refine xi_iconst (pc' := 155) rfl rfl ?_
      refine xi_istore (pc' := 157) rfl (st1_8 rfl) rfl ?_
      refine xi_iload_n (pc' := 158) rfl rfl rfl ?_
      refine xi_bipush (pc' := 160) rfl (by decide) rfl ?_
      refine xi_icmpt (pc' := 216) rfl rfl (by decide) ?_
      refine xi_iload (pc' := 218) rfl rfl rfl ?_
      refine xx_zreturn rfl rfl (by decide) ?_
      simp only [ex_P, Classical.not_not, ↓reduceIte, Nat.add_zero, or_true, true_or, not_true_eq_false, not_false_eq_true, or_false, false_or, wI_get, false_and, true_and, and_true, and_false, and_self, Nat.reduceEqDiff, Nat.succ_ne_zero, reduceCtorEq, nI_lit, nI_lit0, Nat.reduceLT] at *
      first | (simp only [r_commands, r_c1, r_c2, r_c3, r_c4, r_c5, r_eff, *, ↓reduceIte, Nat.add_zero, or_true, true_or, not_true_eq_false, not_false_eq_true, or_false, false_or, wI_get, false_and, true_and, and_true, and_false, and_self, Nat.reduceEqDiff, Nat.succ_ne_zero, reduceCtorEq, nI_lit, nI_lit0, Nat.reduceLT]; done) | (exfalso; simp_all only [↓reduceIte, Nat.add_zero, or_true, true_or, not_true_eq_false, not_false_eq_true, or_false, false_or, wI_get, false_and, true_and, and_true, and_false, and_self, Nat.reduceEqDiff, Nat.succ_ne_zero, reduceCtorEq, nI_lit, nI_lit0, Nat.reduceLT]; done)
    · refine xi_iconst (pc' := 151) rfl rfl ?_
      refine xi_goto (pc' := 155) rfl rfl ?_
      refine xi_istore (pc' := 157) rfl (st1_8 rfl) rfl ?_
      refine xi_iload_n (pc' := 158) rfl rfl rfl ?_
      refine xi_bipush (pc' := 160) rfl (by decide) rfl ?_
      refine xi_icmpt (pc' := 216) rfl rfl (by decide) ?_
      refine xi_iload (pc' := 218) rfl rfl rfl ?_
      refine xx_zreturn rfl rfl (by decide) ?_
      simp only [ex_P, Classical.not_not, ↓reduceIte, Nat.add_zero, or_true, true_or, not_true_eq_false, not_false_eq_true, or_false, false_or, wI_get, false_and, true_and, and_true, and_false, and_self, Nat.reduceEqDiff, Nat.succ_ne_zero, reduceCtorEq, nI_lit, nI_lit0, Nat.reduceLT] at *
      first | (simp only [r_commands, r_c1, r_c2, r_c3, r_c4, r_c5, r_eff, *, ↓reduceIte, Nat.add_zero, or_true, true_or, not_true_eq_false, not_false_eq_true, or_false, false_or, wI_get, false_and, true_and, and_true, and_false, and_self, Nat.reduceEqDiff, Nat.succ_ne_zero, reduceCtorEq, nI_lit, nI_lit0, Nat.reduceLT]; done) | (exfalso; simp_all only [↓reduceIte, Nat.add_zero, or_true, true_or, not_true_eq_false, not_false_eq_true, or_false, false_or, wI_get, false_and, true_and, and_true, and_false, and_self, Nat.reduceEqDiff, Nat.succ_ne_zero, reduceCtorEq, nI_lit, nI_lit0, Nat.reduceLT]; done)
  · refine xi_iconst (pc' := 64) rfl rfl ?_
    refine xx_zreturn rfl rfl (by decide) ?_
    simp only [ex_P, Classical.not_not, ↓reduceIte, Nat.add_zero, or_true, true_or, not_true_eq_false, not_false_eq_true, or_false, false_or, wI_get, false_and, true_and, and_true, and_false, and_self, Nat.reduceEqDiff, Nat.succ_ne_zero, reduceCtorEq, nI_lit, nI_lit0, Nat.reduceLT] at *
    first | (simp only [r_commands, r_c1, r_c2, r_c3, r_c4, r_c5, r_eff, *, ↓reduceIte, Nat.add_zero, or_true, true_or, not_true_eq_false, not_false_eq_true, or_false, false_or, wI_get, false_and, true_and, and_true, and_false, and_self, Nat.reduceEqDiff, Nat.succ_ne_zero, reduceCtorEq, nI_lit, nI_lit0, Nat.reduceLT]; done) | (exfalso; simp_all only [↓reduceIte, Nat.add_zero, or_true, true_or, not_true_eq_false, not_false_eq_true, or_false, false_or, wI_get, false_and, true_and, and_true, and_false, and_self, Nat.reduceEqDiff, Nat.succ_ne_zero, reduceCtorEq, nI_lit, nI_lit0, Nat.reduceLT]; done)
theorem r_commands_18 {L : Nat} {xs : Nat → Int32} {D n : Nat} {I J : ex_Mem} {m : Nat} (hm : m < 8) {t b N : Nat} (ht : t < 6) (hb : b < 2) (hh : hwB N J) (hN : N + 3 < 2 ^ 31) : ri L xs (D + 3) 109 [.ref 52, .int (nI m), .int (nI t), .int (nI 18), .int (nI b)] (mkH n I J) ((r_commands J m t 18 b).1) (mkH n I (r_commands J m t 18 b).2) := by
  show xx cb_G _ _ _ 109 0 [.ref 52, .int (nI m), .int (nI t), .int (nI 18), .int (nI b), ex_no, ex_no, ex_no, ex_no] [] _ _
  refine xi_iload_n (pc' := 1) rfl rfl rfl ?_
  refine xi_iconst (pc' := 2) rfl rfl ?_
  refine xi_iconst (pc' := 3) rfl rfl ?_
  refine xi_iload_n (pc' := 4) rfl rfl rfl ?_
  refine xx_callSi (pc' := 7) rfl rfl (by decide) rfl (Nat.le_of_ble_eq_true rfl) rfl rfl (r_commandM) ?_
  refine xi_istore (pc' := 9) rfl (st1_5 rfl) rfl ?_
  refine xi_aload_n (pc' := 10) rfl rfl rfl ?_
  refine xi_iload (pc' := 12) rfl rfl rfl ?_
  refine xi_iconst (pc' := 13) rfl rfl ?_
  refine xi_iload (pc' := 15) rfl rfl rfl ?_
  refine xx_callVi (pc' := 18) rfl rfl (by decide) rfl rfl (by show _ < 81 + 2 * _; omega) (Nat.le_of_ble_eq_true rfl) rfl rfl (r_put0 hb hh (by omega)) ?_
  refine xi_istore (pc' := 20) rfl (st1_6 rfl) rfl ?_
  refine xi_iload_n (pc' := 21) rfl rfl rfl ?_
  refine xi_iconst (pc' := 22) rfl rfl ?_
  refine xi_icmpf (pc' := 25) (tg := 31) rfl rfl (by decide) rfl ?_
  refine xi_iload_n (pc' := 26) rfl rfl rfl ?_
  refine xi_bipush (pc' := 28) rfl (by decide) rfl ?_
  refine xi_icmpf (pc' := 31) (tg := 35) rfl rfl (by decide) rfl ?_
  refine xi_iconst (pc' := 32) rfl rfl ?_
  refine xi_goto (pc' := 36) rfl rfl ?_
  refine xi_istore (pc' := 38) rfl (st1_7 rfl) rfl ?_
  refine xi_aload_n (pc' := 39) rfl rfl rfl ?_
  refine xi_iload_n (pc' := 40) rfl rfl rfl ?_
  refine xi_iload (pc' := 42) rfl rfl rfl ?_
  refine xi_iload (pc' := 44) rfl rfl rfl ?_
  refine xi_iload (pc' := 46) rfl rfl rfl ?_
  refine xi_iload_n (pc' := 47) rfl rfl rfl ?_
  refine xi_bipush (pc' := 49) rfl (by decide) rfl ?_
  refine xi_icmpf (pc' := 52) (tg := 56) rfl rfl (by decide) rfl ?_
  refine xi_iconst (pc' := 53) rfl rfl ?_
  refine xi_goto (pc' := 57) rfl rfl ?_
  refine xx_callVi (pc' := 60) rfl rfl (by decide) rfl rfl (by show _ < 81 + 2 * _; omega) (Nat.le_of_ble_eq_true rfl) rfl rfl (r_hears_ok ht) ?_
  refine xx_if (pc' := 63) (tg := 65) rfl rfl rfl (fun q60 => ?_) (fun q60 => ?_)
  · refine xi_iload_n (pc' := 66) rfl rfl rfl ?_
    refine xi_iconst (pc' := 67) rfl rfl ?_
    refine xi_icmpt (pc' := 80) rfl rfl (by decide) ?_
    refine xi_iload_n (pc' := 81) rfl rfl rfl ?_
    refine xi_iconst (pc' := 82) rfl rfl ?_
    refine xi_icmpf (pc' := 85) (tg := 90) rfl rfl (by decide) rfl ?_
    refine xi_iload_n (pc' := 86) rfl rfl rfl ?_
    refine xi_iconst (pc' := 87) rfl rfl ?_
    refine xi_icmpt (pc' := 113) rfl rfl (by decide) ?_
    refine xi_iload_n (pc' := 114) rfl rfl rfl ?_
    refine xi_bipush (pc' := 116) rfl (by decide) rfl ?_
    refine xi_icmpt (pc' := 139) rfl rfl (by decide) ?_
    refine xi_aload_n (pc' := 140) rfl rfl rfl ?_
    refine xi_iload_n (pc' := 141) rfl rfl rfl ?_
    refine xi_iload (pc' := 143) rfl rfl rfl ?_
    refine xx_callVi (pc' := 146) rfl rfl (by decide) rfl rfl (by show _ < 81 + 2 * _; omega) (Nat.le_of_ble_eq_true rfl) rfl rfl (r_saysStatus ht hb (c3_hw (t := t) (cd := 18) (b := b) hh (by omega)) (by omega)) ?_
    refine xi_iconst (pc' := 147) rfl rfl ?_
    refine xx_icmp (pc' := 150) (tg := 154) rfl rfl rfl (fun q147 => ?_) (fun q147 => ?_)
    · refine xi_iconst (pc' := 155) rfl rfl ?_
      refine xi_istore (pc' := 157) rfl (st1_8 rfl) rfl ?_
      refine xi_iload_n (pc' := 158) rfl rfl rfl ?_
      refine xi_bipush (pc' := 160) rfl (by decide) rfl ?_
      refine xi_icmpf (pc' := 163) (tg := 216) rfl rfl (by decide) rfl ?_
      refine xi_aload_n (pc' := 164) rfl rfl rfl ?_
      refine xi_iload_n (pc' := 165) rfl rfl rfl ?_
      refine xi_iload (pc' := 167) rfl rfl rfl ?_
      refine xi_iconst (pc' := 168) rfl rfl ?_
      refine xi_aload_n (pc' := 169) rfl rfl rfl ?_
      refine xr_getp (pc' := 172) rfl rfl (by decide) rfl rfl rfl ?_
      refine xi_iload_n (pc' := 173) rfl rfl rfl ?_
      refine xr_iald (j := t) (pc' := 174) rfl rfl (by decide) (by first | rfl | (simp only [ix_add, ix_mul, ix_pred]; done) | (simp only [ix_add, ix_mul, ix_pred, *]; done)) (by omega) (by decide) rfl ?_
      refine xx_callVi (pc' := 177) rfl rfl (by decide) rfl rfl (by show _ < 81 + 2 * _; omega) (Nat.le_of_ble_eq_true rfl) rfl rfl (r_says1 ht hb (c4_hw (t := t) (cd := 18) (b := b) hh (by omega)) (by omega)) ?_
      refine xi_iconst (pc' := 178) rfl rfl ?_
      refine xx_icmp (pc' := 181) (tg := 190) rfl rfl rfl (fun q178 => ?_) (fun q178 => ?_)
      · refine xi_iconst (pc' := 191) rfl rfl ?_
        refine xi_istore (pc' := 193) rfl (st1_8 rfl) rfl ?_
        refine xi_iload (pc' := 195) rfl rfl rfl ?_
        refine xi_ift (pc' := 216) rfl rfl (by decide) ?_
        refine xi_iload (pc' := 218) rfl rfl rfl ?_
        refine xx_zreturn rfl rfl (by decide) ?_
        simp only [ex_P, Classical.not_not, ↓reduceIte, Nat.add_zero, or_true, true_or, not_true_eq_false, not_false_eq_true, or_false, false_or, wI_get, false_and, true_and, and_true, and_false, and_self, Nat.reduceEqDiff, Nat.succ_ne_zero, reduceCtorEq, nI_lit, nI_lit0, Nat.reduceLT] at *
        first | (simp only [r_commands, r_c1, r_c2, r_c3, r_c4, r_c5, r_eff, *, ↓reduceIte, Nat.add_zero, or_true, true_or, not_true_eq_false, not_false_eq_true, or_false, false_or, wI_get, false_and, true_and, and_true, and_false, and_self, Nat.reduceEqDiff, Nat.succ_ne_zero, reduceCtorEq, nI_lit, nI_lit0, Nat.reduceLT]; done) | (exfalso; simp_all only [↓reduceIte, Nat.add_zero, or_true, true_or, not_true_eq_false, not_false_eq_true, or_false, false_or, wI_get, false_and, true_and, and_true, and_false, and_self, Nat.reduceEqDiff, Nat.succ_ne_zero, reduceCtorEq, nI_lit, nI_lit0, Nat.reduceLT]; done)
      · refine xi_iload (pc' := 183) rfl rfl rfl ?_
        refine xi_ift (pc' := 190) rfl rfl (by decide) ?_
        refine xi_iconst (pc' := 191) rfl rfl ?_
        refine xi_istore (pc' := 193) rfl (st1_8 rfl) rfl ?_
        refine xi_iload (pc' := 195) rfl rfl rfl ?_
        refine xi_ift (pc' := 216) rfl rfl (by decide) ?_
        refine xi_iload (pc' := 218) rfl rfl rfl ?_
        refine xx_zreturn rfl rfl (by decide) ?_
        simp only [ex_P, Classical.not_not, ↓reduceIte, Nat.add_zero, or_true, true_or, not_true_eq_false, not_false_eq_true, or_false, false_or, wI_get, false_and, true_and, and_true, and_false, and_self, Nat.reduceEqDiff, Nat.succ_ne_zero, reduceCtorEq, nI_lit, nI_lit0, Nat.reduceLT] at *
        first | (simp only [r_commands, r_c1, r_c2, r_c3, r_c4, r_c5, r_eff, *, ↓reduceIte, Nat.add_zero, or_true, true_or, not_true_eq_false, not_false_eq_true, or_false, false_or, wI_get, false_and, true_and, and_true, and_false, and_self, Nat.reduceEqDiff, Nat.succ_ne_zero, reduceCtorEq, nI_lit, nI_lit0, Nat.reduceLT]; done) | (exfalso; simp_all only [↓reduceIte, Nat.add_zero, or_true, true_or, not_true_eq_false, not_false_eq_true, or_false, false_or, wI_get, false_and, true_and, and_true, and_false, and_self, Nat.reduceEqDiff, Nat.succ_ne_zero, reduceCtorEq, nI_lit, nI_lit0, Nat.reduceLT]; done)
    · refine xi_iconst (pc' := 151) rfl rfl ?_
      refine xi_goto (pc' := 155) rfl rfl ?_
      refine xi_istore (pc' := 157) rfl (st1_8 rfl) rfl ?_
      refine xi_iload_n (pc' := 158) rfl rfl rfl ?_
      refine xi_bipush (pc' := 160) rfl (by decide) rfl ?_
      refine xi_icmpf (pc' := 163) (tg := 216) rfl rfl (by decide) rfl ?_
      refine xi_aload_n (pc' := 164) rfl rfl rfl ?_
      refine xi_iload_n (pc' := 165) rfl rfl rfl ?_
      refine xi_iload (pc' := 167) rfl rfl rfl ?_
      refine xi_iconst (pc' := 168) rfl rfl ?_
      refine xi_aload_n (pc' := 169) rfl rfl rfl ?_
      refine xr_getp (pc' := 172) rfl rfl (by decide) rfl rfl rfl ?_
      refine xi_iload_n (pc' := 173) rfl rfl rfl ?_
      refine xr_iald (j := t) (pc' := 174) rfl rfl (by decide) (by first | rfl | (simp only [ix_add, ix_mul, ix_pred]; done) | (simp only [ix_add, ix_mul, ix_pred, *]; done)) (by omega) (by decide) rfl ?_
      refine xx_callVi (pc' := 177) rfl rfl (by decide) rfl rfl (by show _ < 81 + 2 * _; omega) (Nat.le_of_ble_eq_true rfl) rfl rfl (r_says1 ht hb (c4_hw (t := t) (cd := 18) (b := b) hh (by omega)) (by omega)) ?_
      refine xi_iconst (pc' := 178) rfl rfl ?_
      refine xx_icmp (pc' := 181) (tg := 190) rfl rfl rfl (fun q178 => ?_) (fun q178 => ?_)
      · refine xi_iconst (pc' := 191) rfl rfl ?_
        refine xi_istore (pc' := 193) rfl (st1_8 rfl) rfl ?_
        refine xi_iload (pc' := 195) rfl rfl rfl ?_
        refine xi_ift (pc' := 216) rfl rfl (by decide) ?_
        refine xi_iload (pc' := 218) rfl rfl rfl ?_
        refine xx_zreturn rfl rfl (by decide) ?_
        simp only [ex_P, Classical.not_not, ↓reduceIte, Nat.add_zero, or_true, true_or, not_true_eq_false, not_false_eq_true, or_false, false_or, wI_get, false_and, true_and, and_true, and_false, and_self, Nat.reduceEqDiff, Nat.succ_ne_zero, reduceCtorEq, nI_lit, nI_lit0, Nat.reduceLT] at *
        first | (simp only [r_commands, r_c1, r_c2, r_c3, r_c4, r_c5, r_eff, *, ↓reduceIte, Nat.add_zero, or_true, true_or, not_true_eq_false, not_false_eq_true, or_false, false_or, wI_get, false_and, true_and, and_true, and_false, and_self, Nat.reduceEqDiff, Nat.succ_ne_zero, reduceCtorEq, nI_lit, nI_lit0, Nat.reduceLT]; done) | (exfalso; simp_all only [↓reduceIte, Nat.add_zero, or_true, true_or, not_true_eq_false, not_false_eq_true, or_false, false_or, wI_get, false_and, true_and, and_true, and_false, and_self, Nat.reduceEqDiff, Nat.succ_ne_zero, reduceCtorEq, nI_lit, nI_lit0, Nat.reduceLT]; done)
      · refine xi_iload (pc' := 183) rfl rfl rfl ?_
        refine xi_iff (pc' := 186) (tg := 190) rfl rfl (by decide) rfl ?_
        refine xi_iconst (pc' := 187) rfl rfl ?_
        refine xi_goto (pc' := 191) rfl rfl ?_
        refine xi_istore (pc' := 193) rfl (st1_8 rfl) rfl ?_
        refine xi_iload (pc' := 195) rfl rfl rfl ?_
        refine xi_iff (pc' := 198) (tg := 216) rfl rfl (by decide) rfl ?_
        refine xi_iload_n (pc' := 199) rfl rfl rfl ?_
        refine xx_if (pc' := 202) (tg := 216) rfl rfl rfl (fun q199 => absurd q199 (show ¬ ex_P .lt (nI m) 0 from nI_pos (by omega))) (fun q199 => ?_)
        refine xi_aload_n (pc' := 203) rfl rfl rfl ?_
        refine xr_getp (pc' := 206) rfl rfl (by decide) rfl rfl rfl ?_
        refine xi_iconst (pc' := 207) rfl rfl ?_
        refine xi_iload_n (pc' := 208) rfl rfl rfl ?_
        refine xi_imul (pc' := 209) rfl rfl ?_
        refine xi_aload_n (pc' := 210) rfl rfl rfl ?_
        refine xr_getp (pc' := 213) rfl rfl (by decide) rfl rfl rfl ?_
        refine xi_iload_n (pc' := 214) rfl rfl rfl ?_
        refine xr_iald (j := t) (pc' := 215) rfl rfl (by decide) (by first | rfl | (simp only [ix_add, ix_mul, ix_pred]; done) | (simp only [ix_add, ix_mul, ix_pred, *]; done)) (by omega) (by decide) rfl ?_
        refine xr_iast (j := (4) * (m)) (pc' := 216) rfl rfl (by decide) (by first | rfl | (simp only [ix_add, ix_mul, ix_pred]; done) | (simp only [ix_add, ix_mul, ix_pred, *]; done)) (by omega) (by decide) rfl ?_
        refine xi_iload (pc' := 218) rfl rfl rfl ?_
        refine xx_zreturn rfl rfl (by decide) ?_
        simp only [ex_P, Classical.not_not, ↓reduceIte, Nat.add_zero, or_true, true_or, not_true_eq_false, not_false_eq_true, or_false, false_or, wI_get, false_and, true_and, and_true, and_false, and_self, Nat.reduceEqDiff, Nat.succ_ne_zero, reduceCtorEq, nI_lit, nI_lit0, Nat.reduceLT] at *
        first | (simp only [r_commands, r_c1, r_c2, r_c3, r_c4, r_c5, r_eff, *, ↓reduceIte, Nat.add_zero, or_true, true_or, not_true_eq_false, not_false_eq_true, or_false, false_or, wI_get, false_and, true_and, and_true, and_false, and_self, Nat.reduceEqDiff, Nat.succ_ne_zero, reduceCtorEq, nI_lit, nI_lit0, Nat.reduceLT]; done) | (exfalso; simp_all only [↓reduceIte, Nat.add_zero, or_true, true_or, not_true_eq_false, not_false_eq_true, or_false, false_or, wI_get, false_and, true_and, and_true, and_false, and_self, Nat.reduceEqDiff, Nat.succ_ne_zero, reduceCtorEq, nI_lit, nI_lit0, Nat.reduceLT]; done)
  · refine xi_iconst (pc' := 64) rfl rfl ?_
    refine xx_zreturn rfl rfl (by decide) ?_
    simp only [ex_P, Classical.not_not, ↓reduceIte, Nat.add_zero, or_true, true_or, not_true_eq_false, not_false_eq_true, or_false, false_or, wI_get, false_and, true_and, and_true, and_false, and_self, Nat.reduceEqDiff, Nat.succ_ne_zero, reduceCtorEq, nI_lit, nI_lit0, Nat.reduceLT] at *
    first | (simp only [r_commands, r_c1, r_c2, r_c3, r_c4, r_c5, r_eff, *, ↓reduceIte, Nat.add_zero, or_true, true_or, not_true_eq_false, not_false_eq_true, or_false, false_or, wI_get, false_and, true_and, and_true, and_false, and_self, Nat.reduceEqDiff, Nat.succ_ne_zero, reduceCtorEq, nI_lit, nI_lit0, Nat.reduceLT]; done) | (exfalso; simp_all only [↓reduceIte, Nat.add_zero, or_true, true_or, not_true_eq_false, not_false_eq_true, or_false, false_or, wI_get, false_and, true_and, and_true, and_false, and_self, Nat.reduceEqDiff, Nat.succ_ne_zero, reduceCtorEq, nI_lit, nI_lit0, Nat.reduceLT]; done)
end
section
def r_cw (x u s nn : Nat) : Int32 := nI 2048 * nI x + nI 1024 * nI u + nI 32 * nI s + nI nn
theorem r_commandW {L : Nat} {xs : Nat → Int32} {D n : Nat} {I J : ex_Mem} {x u s nn : Nat} : ri L xs D 110 [.int (nI x), .int (nI u), .int (nI s), .int (nI nn)] (mkH n I J) (r_cw x u s nn) (mkH n I J) := r_command _ _ _ _
/-- the values of a message, one after another -/
def r_dat (J : ex_Mem) (b m : Nat) : Nat → ex_Mem
  | 0 => J
  | k + 1 => r_dw (r_put (r_dat J b m k) b (r_dat J b m k 76 (4 * m + k) + nI 65536)).2 (r_put (r_dat J b m k) b (r_dat J b m k 76 (4 * m + k) + nI 65536)).1 (r_dat J b m k 76 (4 * m + k))
theorem hwB_dat {N b m : Nat} {J : ex_Mem} (hh : hwB N J) : ∀ k, N + k < 2 ^ 31 → hwB (N + k) (r_dat J b m k)
  | 0, _ => hh
  | k + 1, h => hwB_eq (hwB_put (hwB_dat hh k (by omega)) h) dw_hw
theorem gdB_dat {N b m : Nat} {J : ex_Mem} (hh : gdB N J) : ∀ k, N + k < 100 → gdB (N + k) (r_dat J b m k)
  | 0, _ => hh
  | k + 1, h => gdB_dw (gdB_eq (gdB_dat hh k (by omega)) put_gd) (show N + k < 1000 by omega)
theorem dat_fr {J : ex_Mem} {b m a k : Nat} (h1 : a ≠ 52) (h2 : a ≠ 53) (h3 : a ≠ 55) (h4 : a ≠ 56) (h5 : a ≠ 79) : ∀ j, r_dat J b m j a k = J a k
  | 0 => rfl
  | j + 1 => by
    unfold r_dat
    rw [dw_fr h1 h5, put_fr h1 h2 h3 h4]
    exact dat_fr h1 h2 h3 h4 h5 j
def r_tell (J : ex_Mem) (how c : Int32) (s nn : Nat) : Nat → ex_Mem
  | 0 => J
  | t + 1 => if (r_hears (r_tell J how c s nn t) t how c (nI 0) (nI 0)).1 = 0 then (r_hears (r_tell J how c s nn t) t how c (nI 0) (nI 0)).2 else (r_takes (r_hears (r_tell J how c s nn t) t how c (nI 0) (nI 0)).2 t s nn (nI 1)).2
theorem tell_fr {J : ex_Mem} {how c : Int32} {s nn a k : Nat} (h1 : a ≠ 60) (h2 : a ≠ 61) (h3 : a ≠ 62) (h4 : a ≠ 63) (h5 : a ≠ 64) : ∀ t, r_tell J how c s nn t a k = J a k
  | 0 => rfl
  | t + 1 => by
    unfold r_tell
    split
    · rw [hears_fr h3 h4 h5]; exact tell_fr h1 h2 h3 h4 h5 t
    · rw [takes_fr h1 h2 h3 h4, hears_fr h3 h4 h5]; exact tell_fr h1 h2 h3 h4 h5 t
def r_g1 (J : ex_Mem) (m x s nn b : Nat) : ex_Mem := r_dat (r_put J b (r_cw x 0 (s + 1) nn)).2 b m nn
def r_g2 (J : ex_Mem) (m x s nn b : Nat) : Int32 × ex_Mem := r_hears (r_g1 J m x s nn b) x (r_put J b (r_cw x 0 (s + 1) nn)).1 (r_cw x 0 (s + 1) nn) (nI 0) (nI 0)
def r_g3 (J : ex_Mem) (m x s nn b : Nat) : Int32 × ex_Mem := r_takes (r_g2 J m x s nn b).2 x s nn (nI 0)
def r_g4 (J : ex_Mem) (m x s nn b : Nat) : Int32 × ex_Mem := r_says (r_g3 J m x s nn b).2 x b (r_st (r_g3 J m x s nn b).2 x)
def r_give (J : ex_Mem) (m x s nn b : Nat) : Int32 × ex_Mem :=
  if (r_g2 J m x s nn b).1 = 0 then (nI 0, (r_g2 J m x s nn b).2)
  else if (r_g3 J m x s nn b).1 = 0 then (nI 0, (r_g3 J m x s nn b).2)
  else (if (r_g4 J m x s nn b).1 = nI 1 then nI 1 else nI 0, (r_g4 J m x s nn b).2)
def r_telAll (J : ex_Mem) (m s nn b : Nat) : ex_Mem := r_tell (r_g1 J m 31 s nn b) (r_put J b (r_cw 31 0 (s + 1) nn)).1 (r_cw 31 0 (s + 1) nn) s nn 6
theorem g1_hw {J : ex_Mem} {N m x s nn b : Nat} (hh : hwB N J) (hN : N + 1 + nn < 2 ^ 31) : hwB (N + 1 + nn) (r_g1 J m x s nn b) := hwB_dat (hwB_put hh (by omega)) nn hN
theorem g3_hw {J : ex_Mem} {N m x s nn b : Nat} (hh : hwB N J) (hN : N + 1 + nn < 2 ^ 31) : hwB (N + 1 + nn) (r_g3 J m x s nn b).2 := takes_hw (hears_hw (g1_hw hh hN))
theorem g4_hw {J : ex_Mem} {N m x s nn b : Nat} (hh : hwB N J) (hN : N + 2 + nn < 2 ^ 31) : hwB (N + 2 + nn) (r_g4 J m x s nn b).2 := hwB_up (hwB_says (g3_hw hh (by omega)) (by omega)) (by omega)
theorem r_dat_loop {L : Nat} {xs : Nat → Int32} {D n : Nat} {I J : ex_Mem} {m nn b N g : Nat} {fa c how : Int32} {Q : Option Value → ex_Hp → Prop} (hm : m < 8) (hnn : nn ≤ 4) (hb : b < 2) (hh : hwB N J) (hN : N + 4 < 2 ^ 31) (hg : gdB g J) (hgn : g + nn ≤ 4) (hn : J 73 m = nI nn) (kk : ∀ v7 v8 : Value, v7.category = 1 → v8.category = 1 → xx cb_G L xs (D + 3) 119 110 [.ref 52, .int (nI m), .int (nI b), .int fa, .int c, .int how, .int (nI nn), v7, v8] [] (mkH n I (r_dat J b m nn)) Q) : ∀ (j k : Nat), k + j = nn → ∀ v7 v8 : Value, v7.category = 1 → v8.category = 1 → xx cb_G L xs (D + 3) 119 62 [.ref 52, .int (nI m), .int (nI b), .int fa, .int c, .int how, .int (nI k), v7, v8] [] (mkH n I (r_dat J b m k)) Q := by
  intro j
  induction j with
  | zero =>
    intro k hk v7 v8 h7 h8
    have hk : k = nn := by omega
    subst hk
    refine xi_iload (pc' := 64) rfl rfl rfl ?_
    refine xi_aload_n (pc' := 65) rfl rfl rfl ?_
    refine xr_getp (pc' := 68) rfl rfl (by decide) rfl rfl rfl ?_
    refine xi_iload_n (pc' := 69) rfl rfl rfl ?_
    refine xr_ialdv (v := nI (k)) (j := m) (pc' := 70) rfl rfl (by decide) (by first | rfl | (simp only [ix_add, ix_mul, ix_pred]; done) | (simp only [ix_add, ix_mul, ix_pred, *]; done)) (by omega) (by decide) ((dat_fr (by decide) (by decide) (by decide) (by decide) (by decide) k).trans hn) rfl ?_
    refine xx_icmp (pc' := 73) (tg := 110) rfl rfl rfl (fun q70 => ?_) (fun q70 => absurd (show ex_P .ge (nI k) (nI k) from Int32.le_refl _) q70)
    exact kk _ _ h7 h8
  | succ j ih =>
    intro k hk v7 v8 h7 h8
    refine xi_iload (pc' := 64) rfl rfl rfl ?_
    refine xi_aload_n (pc' := 65) rfl rfl rfl ?_
    refine xr_getp (pc' := 68) rfl rfl (by decide) rfl rfl rfl ?_
    refine xi_iload_n (pc' := 69) rfl rfl rfl ?_
    refine xr_ialdv (v := nI (nn)) (j := m) (pc' := 70) rfl rfl (by decide) (by first | rfl | (simp only [ix_add, ix_mul, ix_pred]; done) | (simp only [ix_add, ix_mul, ix_pred, *]; done)) (by omega) (by decide) ((dat_fr (by decide) (by decide) (by decide) (by decide) (by decide) k).trans hn) rfl ?_
    refine xx_icmp (pc' := 73) (tg := 110) rfl rfl rfl (fun q70 => absurd q70 (show ¬ ex_P .ge (nI k) (nI nn) from nI_ge (by omega) (by omega))) (fun q70 => ?_)
    refine xi_aload_n (pc' := 74) rfl rfl rfl ?_
    refine xr_getp (pc' := 77) rfl rfl (by decide) rfl rfl rfl ?_
    refine xi_iconst (pc' := 78) rfl rfl ?_
    refine xi_iload_n (pc' := 79) rfl rfl rfl ?_
    refine xi_imul (pc' := 80) rfl rfl ?_
    refine xi_iload (pc' := 82) rfl rfl rfl ?_
    refine xi_iadd (pc' := 83) rfl rfl ?_
    refine xr_iald (j := (4) * (m) + k) (pc' := 84) rfl rfl (by decide) (by first | rfl | (simp only [ix_add, ix_mul, ix_pred]; done) | (simp only [ix_add, ix_mul, ix_pred, *]; done)) (by omega) (by decide) rfl ?_
    refine xi_istore (pc' := 86) rfl (st1_7 rfl) rfl ?_
    refine xi_aload_n (pc' := 87) rfl rfl rfl ?_
    refine xi_iload_n (pc' := 88) rfl rfl rfl ?_
    refine xi_iconst (pc' := 89) rfl rfl ?_
    refine xi_iload (pc' := 91) rfl rfl rfl ?_
    refine xx_callVi (pc' := 94) rfl rfl (by decide) rfl rfl (by show _ < 81 + 2 * _; omega) (Nat.le_of_ble_eq_true rfl) rfl rfl (r_put1 hb (hwB_dat hh k (by omega)) (by omega)) ?_
    refine xi_istore (pc' := 96) rfl (st1_8 rfl) rfl ?_
    refine xi_aload_n (pc' := 97) rfl rfl rfl ?_
    refine xi_iload (pc' := 99) rfl rfl rfl ?_
    refine xi_iload (pc' := 101) rfl rfl rfl ?_
    refine xx_callVv (pc' := 104) rfl rfl (by decide) rfl rfl (by show _ < 81 + 2 * _; omega) (Nat.le_of_ble_eq_true rfl) rfl rfl (r_dataWord (gdB_eq (gdB_dat hg k (by omega)) put_gd) (by omega)) ?_
    refine xi_iincv (y := nI (k + 1)) (pc' := 107) rfl rfl (ix_add _ _) (st1_6 rfl) rfl ?_
    refine xi_goto (pc' := 62) rfl rfl ?_
    exact ih (k + 1) (by omega) _ _ rfl rfl
theorem tell_0 {J : ex_Mem} {how c : Int32} {s nn t : Nat} (h : (r_hears (r_tell J how c s nn t) t how c (nI 0) (nI 0)).1 = 0) : r_tell J how c s nn (t + 1) = (r_hears (r_tell J how c s nn t) t how c (nI 0) (nI 0)).2 := by
  show (if (r_hears (r_tell J how c s nn t) t how c (nI 0) (nI 0)).1 = 0 then _ else _) = _
  rw [if_pos h]
theorem tell_1 {J : ex_Mem} {how c : Int32} {s nn t : Nat} (h : ¬ (r_hears (r_tell J how c s nn t) t how c (nI 0) (nI 0)).1 = 0) : r_tell J how c s nn (t + 1) = (r_takes (r_hears (r_tell J how c s nn t) t how c (nI 0) (nI 0)).2 t s nn (nI 1)).2 := by
  show (if (r_hears (r_tell J how c s nn t) t how c (nI 0) (nI 0)).1 = 0 then _ else _) = _
  rw [if_neg h]
theorem r_tell_loop {L : Nat} {xs : Nat → Int32} {D n : Nat} {I J : ex_Mem} {m s nn b : Nat} {c how : Int32} (hm : m < 8) (hs : s < 3) (h1 : 1 ≤ nn) (h4 : nn ≤ 4) (hsb : J 72 m = nI (s + 1)) (hn : J 73 m = nI nn) : ∀ (j t : Nat), t + j = 6 → ∀ v8 : Value, v8.category = 1 → xx cb_G L xs (D + 3) 119 116 [.ref 52, .int (nI m), .int (nI b), .int (nI 1), .int c, .int how, .int (nI 0), .int (nI t), v8] [] (mkH n I (r_tell J how c s nn t)) (fun r h => r = some (.int (nI 1)) ∧ h = mkH n I (r_tell J how c s nn 6)) := by
  intro j
  induction j with
  | zero =>
    intro t ht v8 h8
    have ht : t = 6 := by omega
    subst ht
    refine xi_iload (pc' := 118) rfl rfl rfl ?_
    refine xi_bipush (pc' := 120) rfl (by decide) rfl ?_
    refine xx_icmp (pc' := 123) (tg := 207) rfl rfl rfl (fun q120 => ?_) (fun q120 => absurd (show ex_P .ge (nI 6) (nI 6) from Int32.le_refl _) q120)
    refine xi_iload (pc' := 209) rfl rfl rfl ?_
    refine xi_iff (pc' := 212) (tg := 216) rfl rfl (by decide) rfl ?_
    refine xi_iload_n (pc' := 213) rfl rfl rfl ?_
    refine xi_iff (pc' := 216) (tg := 220) rfl rfl (by decide) rfl ?_
    refine xi_iconst (pc' := 217) rfl rfl ?_
    refine xi_goto (pc' := 221) rfl rfl ?_
    refine xx_zreturn rfl rfl (by decide) ?_
    exact ⟨rfl, rfl⟩
  | succ j ih =>
    intro t ht v8 h8
    refine xi_iload (pc' := 118) rfl rfl rfl ?_
    refine xi_bipush (pc' := 120) rfl (by decide) rfl ?_
    refine xx_icmp (pc' := 123) (tg := 207) rfl rfl rfl (fun q120 => absurd q120 (show ¬ ex_P .ge (nI t) (nI 6) from nI_ge (by omega) (by decide))) (fun q120 => ?_)
    refine xi_iload_n (pc' := 124) rfl rfl rfl ?_
    refine xi_ift (pc' := 138) rfl rfl (by decide) ?_
    refine xi_aload_n (pc' := 139) rfl rfl rfl ?_
    refine xi_iload (pc' := 141) rfl rfl rfl ?_
    refine xi_iload (pc' := 143) rfl rfl rfl ?_
    refine xi_iload (pc' := 145) rfl rfl rfl ?_
    refine xi_iconst (pc' := 146) rfl rfl ?_
    refine xi_iconst (pc' := 147) rfl rfl ?_
    refine xx_callVi (pc' := 150) rfl rfl (by decide) rfl rfl (by show _ < 81 + 2 * _; omega) (Nat.le_of_ble_eq_true rfl) rfl rfl (r_hears_ok (by omega)) ?_
    refine xx_if (pc' := 153) (tg := 201) rfl rfl rfl (fun q150 => ?_) (fun q150 => ?_)
    · refine xi_iincv (y := nI (t + 1)) (pc' := 204) rfl rfl (ix_add _ _) (st1_7 rfl) rfl ?_
      refine xi_goto (pc' := 116) rfl rfl ?_
      have e := fun v h => ih (t + 1) (by omega) v h
      first | (rw [tell_0 (show _ = (0 : Int32) from q150)] at e; exact e _ (by first | rfl | exact h8)) | (rw [tell_1 q150] at e; exact e _ (by first | rfl | exact h8))
    · refine xi_aload_n (pc' := 154) rfl rfl rfl ?_
      refine xi_iload (pc' := 156) rfl rfl rfl ?_
      refine xi_aload_n (pc' := 157) rfl rfl rfl ?_
      refine xr_getp (pc' := 160) rfl rfl (by decide) rfl rfl rfl ?_
      refine xi_iload_n (pc' := 161) rfl rfl rfl ?_
      refine xr_ialdv (v := nI (s + 1)) (j := m) (pc' := 162) rfl rfl (by decide) (by first | rfl | (simp only [ix_add, ix_mul, ix_pred]; done) | (simp only [ix_add, ix_mul, ix_pred, *]; done)) (by omega) (by decide) (by simp only [wI_fr, says_fr, put_fr, takes_fr, hears_fr, dat_fr, dw_fr, ans_fr, eff_fr, tell_fr, ne_eq, Nat.reduceEqDiff, not_false_eq_true, hsb]) rfl ?_
      refine xi_aload_n (pc' := 163) rfl rfl rfl ?_
      refine xr_getp (pc' := 166) rfl rfl (by decide) rfl rfl rfl ?_
      refine xi_iload_n (pc' := 167) rfl rfl rfl ?_
      refine xr_ialdv (v := nI (nn)) (j := m) (pc' := 168) rfl rfl (by decide) (by first | rfl | (simp only [ix_add, ix_mul, ix_pred]; done) | (simp only [ix_add, ix_mul, ix_pred, *]; done)) (by omega) (by decide) (by simp only [wI_fr, says_fr, put_fr, takes_fr, hears_fr, dat_fr, dw_fr, ans_fr, eff_fr, tell_fr, ne_eq, Nat.reduceEqDiff, not_false_eq_true, hn]) rfl ?_
      refine xi_iload_n (pc' := 169) rfl rfl rfl ?_
      refine xx_callVi (pc' := 172) rfl rfl (by decide) rfl rfl (by show _ < 81 + 2 * _; omega) (Nat.le_of_ble_eq_true rfl) rfl rfl (r_takes_ok (by omega) hs h1 h4 (by decide)) ?_
      refine xi_istore (pc' := 174) rfl (st1_8 rfl) rfl ?_
      refine xi_iload (pc' := 176) rfl rfl rfl ?_
      refine xx_if (pc' := 179) (tg := 201) rfl rfl rfl (fun q176 => ?_) (fun q176 => ?_)
      · refine xi_iincv (y := nI (t + 1)) (pc' := 204) rfl rfl (ix_add _ _) (st1_7 rfl) rfl ?_
        refine xi_goto (pc' := 116) rfl rfl ?_
        have e := fun v h => ih (t + 1) (by omega) v h
        first | (rw [tell_0 (show _ = (0 : Int32) from q150)] at e; exact e _ (by first | rfl | exact h8)) | (rw [tell_1 q150] at e; exact e _ (by first | rfl | exact h8))
      · refine xi_iload_n (pc' := 180) rfl rfl rfl ?_
        refine xi_ift (pc' := 201) rfl rfl (by decide) ?_
        refine xi_iincv (y := nI (t + 1)) (pc' := 204) rfl rfl (ix_add _ _) (st1_7 rfl) rfl ?_
        refine xi_goto (pc' := 116) rfl rfl ?_
        have e := fun v h => ih (t + 1) (by omega) v h
        first | (rw [tell_0 (show _ = (0 : Int32) from q150)] at e; exact e _ (by first | rfl | exact h8)) | (rw [tell_1 q150] at e; exact e _ (by first | rfl | exact h8))
theorem r_gives_3 {L : Nat} {xs : Nat → Int32} {D n : Nat} {I J : ex_Mem} {m s nn b N : Nat} (hk : J 69 m = nI 3) (hm : m < 8) (hb : b < 2) (hs : s < 3) (h1 : 1 ≤ nn) (h4 : nn ≤ 4) (hsb : J 72 m = nI (s + 1)) (hn : J 73 m = nI nn) (hh : hwB N J) (hN : N + 8 < 2 ^ 31) (hg : gdB 0 J) : ri L xs (D + 3) 119 [.ref 52, .int (nI m), .int (nI b)] (mkH n I J) (nI 1) (mkH n I (r_telAll J m s nn b)) := by
  show xx cb_G _ _ _ 119 0 [.ref 52, .int (nI m), .int (nI b), ex_no, ex_no, ex_no, ex_no, ex_no, ex_no] [] _ _
  refine xi_aload_n (pc' := 1) rfl rfl rfl ?_
  refine xr_getp (pc' := 4) rfl rfl (by decide) rfl rfl rfl ?_
  refine xi_iload_n (pc' := 5) rfl rfl rfl ?_
  refine xr_ialdv (v := nI (3)) (j := m) (pc' := 6) rfl rfl (by decide) (by first | rfl | (simp only [ix_add, ix_mul, ix_pred]; done) | (simp only [ix_add, ix_mul, ix_pred, *]; done)) (by omega) (by decide) (hk) rfl ?_
  refine xi_iconst (pc' := 7) rfl rfl ?_
  refine xi_icmpf (pc' := 10) (tg := 14) rfl rfl (by decide) rfl ?_
  refine xi_iconst (pc' := 11) rfl rfl ?_
  refine xi_goto (pc' := 15) rfl rfl ?_
  refine xi_istore_n (pc' := 16) rfl (st1_3 rfl) rfl ?_
  refine xi_iload_n (pc' := 17) rfl rfl rfl ?_
  refine xi_iff (pc' := 20) (tg := 25) rfl rfl (by decide) rfl ?_
  refine xi_bipush (pc' := 22) rfl (by decide) rfl ?_
  refine xi_goto (pc' := 31) rfl rfl ?_
  refine xi_iconst (pc' := 32) rfl rfl ?_
  refine xi_aload_n (pc' := 33) rfl rfl rfl ?_
  refine xr_getp (pc' := 36) rfl rfl (by decide) rfl rfl rfl ?_
  refine xi_iload_n (pc' := 37) rfl rfl rfl ?_
  refine xr_ialdv (v := nI (s + 1)) (j := m) (pc' := 38) rfl rfl (by decide) (by first | rfl | (simp only [ix_add, ix_mul, ix_pred]; done) | (simp only [ix_add, ix_mul, ix_pred, *]; done)) (by omega) (by decide) (hsb) rfl ?_
  refine xi_aload_n (pc' := 39) rfl rfl rfl ?_
  refine xr_getp (pc' := 42) rfl rfl (by decide) rfl rfl rfl ?_
  refine xi_iload_n (pc' := 43) rfl rfl rfl ?_
  refine xr_ialdv (v := nI (nn)) (j := m) (pc' := 44) rfl rfl (by decide) (by first | rfl | (simp only [ix_add, ix_mul, ix_pred]; done) | (simp only [ix_add, ix_mul, ix_pred, *]; done)) (by omega) (by decide) (hn) rfl ?_
  refine xx_callSi (pc' := 47) rfl rfl (by decide) rfl (Nat.le_of_ble_eq_true rfl) rfl rfl (r_commandW) ?_
  refine xi_istore (pc' := 49) rfl (st1_4 rfl) rfl ?_
  refine xi_aload_n (pc' := 50) rfl rfl rfl ?_
  refine xi_iload_n (pc' := 51) rfl rfl rfl ?_
  refine xi_iconst (pc' := 52) rfl rfl ?_
  refine xi_iload (pc' := 54) rfl rfl rfl ?_
  refine xx_callVi (pc' := 57) rfl rfl (by decide) rfl rfl (by show _ < 81 + 2 * _; omega) (Nat.le_of_ble_eq_true rfl) rfl rfl (r_put0 hb hh (by omega)) ?_
  refine xi_istore (pc' := 59) rfl (st1_5 rfl) rfl ?_
  refine xi_iconst (pc' := 60) rfl rfl ?_
  refine xi_istore (pc' := 62) rfl (st1_6 rfl) rfl ?_
  refine r_dat_loop (D := D) (N := N + 1) (g := 0) (fa := nI 1) hm h4 hb (hwB_put hh (by omega)) (by omega) (put_gdB hg) (by omega) ((put_fr (by decide) (by decide) (by decide) (by decide)).trans hn) (fun v7 v8 h7 h8 => ?_) nn 0 (by omega) _ _ rfl rfl
  refine xi_iconst (pc' := 111) rfl rfl ?_
  refine xi_istore (pc' := 113) rfl (st1_6 rfl) rfl ?_
  refine xi_iconst (pc' := 114) rfl rfl ?_
  refine xi_istore (pc' := 116) rfl (st1_7 rfl) rfl ?_
  exact r_tell_loop hm hs h1 h4 ((dat_fr (by decide) (by decide) (by decide) (by decide) (by decide) nn).trans ((put_fr (by decide) (by decide) (by decide) (by decide)).trans hsb)) ((dat_fr (by decide) (by decide) (by decide) (by decide) (by decide) nn).trans ((put_fr (by decide) (by decide) (by decide) (by decide)).trans hn)) 6 0 (by omega) _ h8
theorem r_gives_0_0 {L : Nat} {xs : Nat → Int32} {D n : Nat} {I J : ex_Mem} {m s nn b N : Nat} (hk : J 69 m = nI 0) (hx : J 70 m = nI 0) (hm : m < 8) (hb : b < 2) (hs : s < 3) (h1 : 1 ≤ nn) (h4 : nn ≤ 4) (hsb : J 72 m = nI (s + 1)) (hn : J 73 m = nI nn) (hh : hwB N J) (hN : N + 8 < 2 ^ 31) (hg : gdB 0 J) : ri L xs (D + 3) 119 [.ref 52, .int (nI m), .int (nI b)] (mkH n I J) ((r_give J m 0 s nn b).1) (mkH n I (r_give J m 0 s nn b).2) := by
  show xx cb_G _ _ _ 119 0 [.ref 52, .int (nI m), .int (nI b), ex_no, ex_no, ex_no, ex_no, ex_no, ex_no] [] _ _
  refine xi_aload_n (pc' := 1) rfl rfl rfl ?_
  refine xr_getp (pc' := 4) rfl rfl (by decide) rfl rfl rfl ?_
  refine xi_iload_n (pc' := 5) rfl rfl rfl ?_
  refine xr_ialdv (v := nI (0)) (j := m) (pc' := 6) rfl rfl (by decide) (by first | rfl | (simp only [ix_add, ix_mul, ix_pred]; done) | (simp only [ix_add, ix_mul, ix_pred, *]; done)) (by omega) (by decide) (hk) rfl ?_
  refine xi_iconst (pc' := 7) rfl rfl ?_
  refine xi_icmpt (pc' := 14) rfl rfl (by decide) ?_
  refine xi_iconst (pc' := 15) rfl rfl ?_
  refine xi_istore_n (pc' := 16) rfl (st1_3 rfl) rfl ?_
  refine xi_iload_n (pc' := 17) rfl rfl rfl ?_
  refine xi_ift (pc' := 25) rfl rfl (by decide) ?_
  refine xi_aload_n (pc' := 26) rfl rfl rfl ?_
  refine xr_getp (pc' := 29) rfl rfl (by decide) rfl rfl rfl ?_
  refine xi_iload_n (pc' := 30) rfl rfl rfl ?_
  refine xr_ialdv (v := nI (0)) (j := m) (pc' := 31) rfl rfl (by decide) (by first | rfl | (simp only [ix_add, ix_mul, ix_pred]; done) | (simp only [ix_add, ix_mul, ix_pred, *]; done)) (by omega) (by decide) (hx) rfl ?_
  refine xi_iconst (pc' := 32) rfl rfl ?_
  refine xi_aload_n (pc' := 33) rfl rfl rfl ?_
  refine xr_getp (pc' := 36) rfl rfl (by decide) rfl rfl rfl ?_
  refine xi_iload_n (pc' := 37) rfl rfl rfl ?_
  refine xr_ialdv (v := nI (s + 1)) (j := m) (pc' := 38) rfl rfl (by decide) (by first | rfl | (simp only [ix_add, ix_mul, ix_pred]; done) | (simp only [ix_add, ix_mul, ix_pred, *]; done)) (by omega) (by decide) (hsb) rfl ?_
  refine xi_aload_n (pc' := 39) rfl rfl rfl ?_
  refine xr_getp (pc' := 42) rfl rfl (by decide) rfl rfl rfl ?_
  refine xi_iload_n (pc' := 43) rfl rfl rfl ?_
  refine xr_ialdv (v := nI (nn)) (j := m) (pc' := 44) rfl rfl (by decide) (by first | rfl | (simp only [ix_add, ix_mul, ix_pred]; done) | (simp only [ix_add, ix_mul, ix_pred, *]; done)) (by omega) (by decide) (hn) rfl ?_
  refine xx_callSi (pc' := 47) rfl rfl (by decide) rfl (Nat.le_of_ble_eq_true rfl) rfl rfl (r_commandW) ?_
  refine xi_istore (pc' := 49) rfl (st1_4 rfl) rfl ?_
  refine xi_aload_n (pc' := 50) rfl rfl rfl ?_
  refine xi_iload_n (pc' := 51) rfl rfl rfl ?_
  refine xi_iconst (pc' := 52) rfl rfl ?_
  refine xi_iload (pc' := 54) rfl rfl rfl ?_
  refine xx_callVi (pc' := 57) rfl rfl (by decide) rfl rfl (by show _ < 81 + 2 * _; omega) (Nat.le_of_ble_eq_true rfl) rfl rfl (r_put0 hb hh (by omega)) ?_
  refine xi_istore (pc' := 59) rfl (st1_5 rfl) rfl ?_
  refine xi_iconst (pc' := 60) rfl rfl ?_
  refine xi_istore (pc' := 62) rfl (st1_6 rfl) rfl ?_
  refine r_dat_loop (D := D) (N := N + 1) (g := 0) (fa := nI 0) hm h4 hb (hwB_put hh (by omega)) (by omega) (put_gdB hg) (by omega) ((put_fr (by decide) (by decide) (by decide) (by decide)).trans hn) (fun v7 v8 h7 h8 => ?_) nn 0 (by omega) _ _ rfl rfl
  refine xi_iconst (pc' := 111) rfl rfl ?_
  refine xi_istore (pc' := 113) rfl (st1_6 rfl) rfl ?_
  refine xi_iconst (pc' := 114) rfl rfl ?_
  refine xi_istore (pc' := 116) rfl (st1_7 rfl) rfl ?_
  refine xi_iload (pc' := 118) rfl rfl rfl ?_
  refine xi_bipush (pc' := 120) rfl (by decide) rfl ?_
  refine xi_icmpf (pc' := 123) (tg := 207) rfl rfl (by decide) rfl ?_
  refine xi_iload_n (pc' := 124) rfl rfl rfl ?_
  refine xi_iff (pc' := 127) (tg := 138) rfl rfl (by decide) rfl ?_
  refine xi_iload (pc' := 129) rfl rfl rfl ?_
  refine xi_aload_n (pc' := 130) rfl rfl rfl ?_
  refine xr_getp (pc' := 133) rfl rfl (by decide) rfl rfl rfl ?_
  refine xi_iload_n (pc' := 134) rfl rfl rfl ?_
  refine xr_ialdv (v := nI (0)) (j := m) (pc' := 135) rfl rfl (by decide) (by first | rfl | (simp only [ix_add, ix_mul, ix_pred]; done) | (simp only [ix_add, ix_mul, ix_pred, *]; done)) (by omega) (by decide) (by simp only [wI_fr, says_fr, put_fr, takes_fr, hears_fr, dat_fr, dw_fr, ans_fr, eff_fr, tell_fr, ne_eq, Nat.reduceEqDiff, not_false_eq_true, hx]) rfl ?_
  refine xi_icmpf (pc' := 138) (tg := 201) rfl rfl (by decide) rfl ?_
  refine xi_aload_n (pc' := 139) rfl rfl rfl ?_
  refine xi_iload (pc' := 141) rfl rfl rfl ?_
  refine xi_iload (pc' := 143) rfl rfl rfl ?_
  refine xi_iload (pc' := 145) rfl rfl rfl ?_
  refine xi_iconst (pc' := 146) rfl rfl ?_
  refine xi_iconst (pc' := 147) rfl rfl ?_
  refine xx_callVi (pc' := 150) rfl rfl (by decide) rfl rfl (by show _ < 81 + 2 * _; omega) (Nat.le_of_ble_eq_true rfl) rfl rfl (r_hears_ok (t := 0) (by decide)) ?_
  refine xx_if (pc' := 153) (tg := 201) rfl rfl rfl (fun q150 => ?_) (fun q150 => ?_)
  · refine xi_iincv (y := nI 1) (pc' := 204) rfl rfl (by decide) (st1_7 rfl) rfl ?_
    refine xi_goto (pc' := 116) rfl rfl ?_
    refine xi_iload (pc' := 118) rfl rfl rfl ?_
    refine xi_bipush (pc' := 120) rfl (by decide) rfl ?_
    refine xi_icmpf (pc' := 123) (tg := 207) rfl rfl (by decide) rfl ?_
    refine xi_iload_n (pc' := 124) rfl rfl rfl ?_
    refine xi_iff (pc' := 127) (tg := 138) rfl rfl (by decide) rfl ?_
    refine xi_iload (pc' := 129) rfl rfl rfl ?_
    refine xi_aload_n (pc' := 130) rfl rfl rfl ?_
    refine xr_getp (pc' := 133) rfl rfl (by decide) rfl rfl rfl ?_
    refine xi_iload_n (pc' := 134) rfl rfl rfl ?_
    refine xr_ialdv (v := nI (0)) (j := m) (pc' := 135) rfl rfl (by decide) (by first | rfl | (simp only [ix_add, ix_mul, ix_pred]; done) | (simp only [ix_add, ix_mul, ix_pred, *]; done)) (by omega) (by decide) (by simp only [wI_fr, says_fr, put_fr, takes_fr, hears_fr, dat_fr, dw_fr, ans_fr, eff_fr, tell_fr, ne_eq, Nat.reduceEqDiff, not_false_eq_true, hx]) rfl ?_
    refine xi_icmpt (pc' := 201) rfl rfl (by decide) ?_
    refine xi_iincv (y := nI 2) (pc' := 204) rfl rfl (by decide) (st1_7 rfl) rfl ?_
    refine xi_goto (pc' := 116) rfl rfl ?_
    refine xi_iload (pc' := 118) rfl rfl rfl ?_
    refine xi_bipush (pc' := 120) rfl (by decide) rfl ?_
    refine xi_icmpf (pc' := 123) (tg := 207) rfl rfl (by decide) rfl ?_
    refine xi_iload_n (pc' := 124) rfl rfl rfl ?_
    refine xi_iff (pc' := 127) (tg := 138) rfl rfl (by decide) rfl ?_
    refine xi_iload (pc' := 129) rfl rfl rfl ?_
    refine xi_aload_n (pc' := 130) rfl rfl rfl ?_
    refine xr_getp (pc' := 133) rfl rfl (by decide) rfl rfl rfl ?_
    refine xi_iload_n (pc' := 134) rfl rfl rfl ?_
    refine xr_ialdv (v := nI (0)) (j := m) (pc' := 135) rfl rfl (by decide) (by first | rfl | (simp only [ix_add, ix_mul, ix_pred]; done) | (simp only [ix_add, ix_mul, ix_pred, *]; done)) (by omega) (by decide) (by simp only [wI_fr, says_fr, put_fr, takes_fr, hears_fr, dat_fr, dw_fr, ans_fr, eff_fr, tell_fr, ne_eq, Nat.reduceEqDiff, not_false_eq_true, hx]) rfl ?_
    refine xi_icmpt (pc' := 201) rfl rfl (by decide) ?_
    refine xi_iincv (y := nI 3) (pc' := 204) rfl rfl (by decide) (st1_7 rfl) rfl ?_
    refine xi_goto (pc' := 116) rfl rfl ?_
    refine xi_iload (pc' := 118) rfl rfl rfl ?_
    refine xi_bipush (pc' := 120) rfl (by decide) rfl ?_
    refine xi_icmpf (pc' := 123) (tg := 207) rfl rfl (by decide) rfl ?_
    refine xi_iload_n (pc' := 124) rfl rfl rfl ?_
    refine xi_iff (pc' := 127) (tg := 138) rfl rfl (by decide) rfl ?_
    refine xi_iload (pc' := 129) rfl rfl rfl ?_
    refine xi_aload_n (pc' := 130) rfl rfl rfl ?_
    refine xr_getp (pc' := 133) rfl rfl (by decide) rfl rfl rfl ?_
    refine xi_iload_n (pc' := 134) rfl rfl rfl ?_
    refine xr_ialdv (v := nI (0)) (j := m) (pc' := 135) rfl rfl (by decide) (by first | rfl | (simp only [ix_add, ix_mul, ix_pred]; done) | (simp only [ix_add, ix_mul, ix_pred, *]; done)) (by omega) (by decide) (by simp only [wI_fr, says_fr, put_fr, takes_fr, hears_fr, dat_fr, dw_fr, ans_fr, eff_fr, tell_fr, ne_eq, Nat.reduceEqDiff, not_false_eq_true, hx]) rfl ?_
    refine xi_icmpt (pc' := 201) rfl rfl (by decide) ?_
    refine xi_iincv (y := nI 4) (pc' := 204) rfl rfl (by decide) (st1_7 rfl) rfl ?_
    refine xi_goto (pc' := 116) rfl rfl ?_
    refine xi_iload (pc' := 118) rfl rfl rfl ?_
    refine xi_bipush (pc' := 120) rfl (by decide) rfl ?_
    refine xi_icmpf (pc' := 123) (tg := 207) rfl rfl (by decide) rfl ?_
    refine xi_iload_n (pc' := 124) rfl rfl rfl ?_
    refine xi_iff (pc' := 127) (tg := 138) rfl rfl (by decide) rfl ?_
    refine xi_iload (pc' := 129) rfl rfl rfl ?_
    refine xi_aload_n (pc' := 130) rfl rfl rfl ?_
    refine xr_getp (pc' := 133) rfl rfl (by decide) rfl rfl rfl ?_
    refine xi_iload_n (pc' := 134) rfl rfl rfl ?_
    refine xr_ialdv (v := nI (0)) (j := m) (pc' := 135) rfl rfl (by decide) (by first | rfl | (simp only [ix_add, ix_mul, ix_pred]; done) | (simp only [ix_add, ix_mul, ix_pred, *]; done)) (by omega) (by decide) (by simp only [wI_fr, says_fr, put_fr, takes_fr, hears_fr, dat_fr, dw_fr, ans_fr, eff_fr, tell_fr, ne_eq, Nat.reduceEqDiff, not_false_eq_true, hx]) rfl ?_
    refine xi_icmpt (pc' := 201) rfl rfl (by decide) ?_
    refine xi_iincv (y := nI 5) (pc' := 204) rfl rfl (by decide) (st1_7 rfl) rfl ?_
    refine xi_goto (pc' := 116) rfl rfl ?_
    refine xi_iload (pc' := 118) rfl rfl rfl ?_
    refine xi_bipush (pc' := 120) rfl (by decide) rfl ?_
    refine xi_icmpf (pc' := 123) (tg := 207) rfl rfl (by decide) rfl ?_
    refine xi_iload_n (pc' := 124) rfl rfl rfl ?_
    refine xi_iff (pc' := 127) (tg := 138) rfl rfl (by decide) rfl ?_
    refine xi_iload (pc' := 129) rfl rfl rfl ?_
    refine xi_aload_n (pc' := 130) rfl rfl rfl ?_
    refine xr_getp (pc' := 133) rfl rfl (by decide) rfl rfl rfl ?_
    refine xi_iload_n (pc' := 134) rfl rfl rfl ?_
    refine xr_ialdv (v := nI (0)) (j := m) (pc' := 135) rfl rfl (by decide) (by first | rfl | (simp only [ix_add, ix_mul, ix_pred]; done) | (simp only [ix_add, ix_mul, ix_pred, *]; done)) (by omega) (by decide) (by simp only [wI_fr, says_fr, put_fr, takes_fr, hears_fr, dat_fr, dw_fr, ans_fr, eff_fr, tell_fr, ne_eq, Nat.reduceEqDiff, not_false_eq_true, hx]) rfl ?_
    refine xi_icmpt (pc' := 201) rfl rfl (by decide) ?_
    refine xi_iincv (y := nI 6) (pc' := 204) rfl rfl (by decide) (st1_7 rfl) rfl ?_
    refine xi_goto (pc' := 116) rfl rfl ?_
    refine xi_iload (pc' := 118) rfl rfl rfl ?_
    refine xi_bipush (pc' := 120) rfl (by decide) rfl ?_
    refine xi_icmpt (pc' := 207) rfl rfl (by decide) ?_
    refine xi_iload (pc' := 209) rfl rfl rfl ?_
    refine xi_iff (pc' := 212) (tg := 216) rfl rfl (by decide) rfl ?_
    refine xi_iload_n (pc' := 213) rfl rfl rfl ?_
    refine xi_ift (pc' := 220) rfl rfl (by decide) ?_
    refine xi_iconst (pc' := 221) rfl rfl ?_
    refine xx_zreturn rfl rfl (by decide) ?_
    simp only [ex_P, Classical.not_not, ↓reduceIte, Nat.add_zero, or_true, true_or, not_true_eq_false, not_false_eq_true, or_false, false_or, wI_get, false_and, true_and, and_true, and_false, and_self, Nat.reduceEqDiff, Nat.succ_ne_zero, reduceCtorEq, nI_lit, nI_lit0, Nat.reduceLT] at *
    first | (simp only [r_give, r_g1, r_g2, r_g3, r_g4, *, ↓reduceIte, Nat.add_zero, or_true, true_or, not_true_eq_false, not_false_eq_true, or_false, false_or, wI_get, false_and, true_and, and_true, and_false, and_self, Nat.reduceEqDiff, Nat.succ_ne_zero, reduceCtorEq, nI_lit, nI_lit0, Nat.reduceLT]; done) | (exfalso; simp_all only [↓reduceIte, Nat.add_zero, or_true, true_or, not_true_eq_false, not_false_eq_true, or_false, false_or, wI_get, false_and, true_and, and_true, and_false, and_self, Nat.reduceEqDiff, Nat.succ_ne_zero, reduceCtorEq, nI_lit, nI_lit0, Nat.reduceLT]; done)
  · refine xi_aload_n (pc' := 154) rfl rfl rfl ?_
    refine xi_iload (pc' := 156) rfl rfl rfl ?_
    refine xi_aload_n (pc' := 157) rfl rfl rfl ?_
    refine xr_getp (pc' := 160) rfl rfl (by decide) rfl rfl rfl ?_
    refine xi_iload_n (pc' := 161) rfl rfl rfl ?_
    refine xr_ialdv (v := nI (s + 1)) (j := m) (pc' := 162) rfl rfl (by decide) (by first | rfl | (simp only [ix_add, ix_mul, ix_pred]; done) | (simp only [ix_add, ix_mul, ix_pred, *]; done)) (by omega) (by decide) (by simp only [wI_fr, says_fr, put_fr, takes_fr, hears_fr, dat_fr, dw_fr, ans_fr, eff_fr, tell_fr, ne_eq, Nat.reduceEqDiff, not_false_eq_true, hsb]) rfl ?_
    refine xi_aload_n (pc' := 163) rfl rfl rfl ?_
    refine xr_getp (pc' := 166) rfl rfl (by decide) rfl rfl rfl ?_
    refine xi_iload_n (pc' := 167) rfl rfl rfl ?_
    refine xr_ialdv (v := nI (nn)) (j := m) (pc' := 168) rfl rfl (by decide) (by first | rfl | (simp only [ix_add, ix_mul, ix_pred]; done) | (simp only [ix_add, ix_mul, ix_pred, *]; done)) (by omega) (by decide) (by simp only [wI_fr, says_fr, put_fr, takes_fr, hears_fr, dat_fr, dw_fr, ans_fr, eff_fr, tell_fr, ne_eq, Nat.reduceEqDiff, not_false_eq_true, hn]) rfl ?_
    refine xi_iload_n (pc' := 169) rfl rfl rfl ?_
    refine xx_callVi (pc' := 172) rfl rfl (by decide) rfl rfl (by show _ < 81 + 2 * _; omega) (Nat.le_of_ble_eq_true rfl) rfl rfl (r_takes_ok (t := 0) (by decide) hs h1 h4 (by decide)) ?_
    refine xi_istore (pc' := 174) rfl (st1_8 rfl) rfl ?_
    refine xi_iload (pc' := 176) rfl rfl rfl ?_
    refine xx_if (pc' := 179) (tg := 201) rfl rfl rfl (fun q176 => ?_) (fun q176 => ?_)
    · refine xi_iincv (y := nI 1) (pc' := 204) rfl rfl (by decide) (st1_7 rfl) rfl ?_
      refine xi_goto (pc' := 116) rfl rfl ?_
      refine xi_iload (pc' := 118) rfl rfl rfl ?_
      refine xi_bipush (pc' := 120) rfl (by decide) rfl ?_
      refine xi_icmpf (pc' := 123) (tg := 207) rfl rfl (by decide) rfl ?_
      refine xi_iload_n (pc' := 124) rfl rfl rfl ?_
      refine xi_iff (pc' := 127) (tg := 138) rfl rfl (by decide) rfl ?_
      refine xi_iload (pc' := 129) rfl rfl rfl ?_
      refine xi_aload_n (pc' := 130) rfl rfl rfl ?_
      refine xr_getp (pc' := 133) rfl rfl (by decide) rfl rfl rfl ?_
      refine xi_iload_n (pc' := 134) rfl rfl rfl ?_
      refine xr_ialdv (v := nI (0)) (j := m) (pc' := 135) rfl rfl (by decide) (by first | rfl | (simp only [ix_add, ix_mul, ix_pred]; done) | (simp only [ix_add, ix_mul, ix_pred, *]; done)) (by omega) (by decide) (by simp only [wI_fr, says_fr, put_fr, takes_fr, hears_fr, dat_fr, dw_fr, ans_fr, eff_fr, tell_fr, ne_eq, Nat.reduceEqDiff, not_false_eq_true, hx]) rfl ?_
      refine xi_icmpt (pc' := 201) rfl rfl (by decide) ?_
      refine xi_iincv (y := nI 2) (pc' := 204) rfl rfl (by decide) (st1_7 rfl) rfl ?_
      refine xi_goto (pc' := 116) rfl rfl ?_
      refine xi_iload (pc' := 118) rfl rfl rfl ?_
      refine xi_bipush (pc' := 120) rfl (by decide) rfl ?_
      refine xi_icmpf (pc' := 123) (tg := 207) rfl rfl (by decide) rfl ?_
      refine xi_iload_n (pc' := 124) rfl rfl rfl ?_
      refine xi_iff (pc' := 127) (tg := 138) rfl rfl (by decide) rfl ?_
      refine xi_iload (pc' := 129) rfl rfl rfl ?_
      refine xi_aload_n (pc' := 130) rfl rfl rfl ?_
      refine xr_getp (pc' := 133) rfl rfl (by decide) rfl rfl rfl ?_
      refine xi_iload_n (pc' := 134) rfl rfl rfl ?_
      refine xr_ialdv (v := nI (0)) (j := m) (pc' := 135) rfl rfl (by decide) (by first | rfl | (simp only [ix_add, ix_mul, ix_pred]; done) | (simp only [ix_add, ix_mul, ix_pred, *]; done)) (by omega) (by decide) (by simp only [wI_fr, says_fr, put_fr, takes_fr, hears_fr, dat_fr, dw_fr, ans_fr, eff_fr, tell_fr, ne_eq, Nat.reduceEqDiff, not_false_eq_true, hx]) rfl ?_
      refine xi_icmpt (pc' := 201) rfl rfl (by decide) ?_
      refine xi_iincv (y := nI 3) (pc' := 204) rfl rfl (by decide) (st1_7 rfl) rfl ?_
      refine xi_goto (pc' := 116) rfl rfl ?_
      refine xi_iload (pc' := 118) rfl rfl rfl ?_
      refine xi_bipush (pc' := 120) rfl (by decide) rfl ?_
      refine xi_icmpf (pc' := 123) (tg := 207) rfl rfl (by decide) rfl ?_
      refine xi_iload_n (pc' := 124) rfl rfl rfl ?_
      refine xi_iff (pc' := 127) (tg := 138) rfl rfl (by decide) rfl ?_
      refine xi_iload (pc' := 129) rfl rfl rfl ?_
      refine xi_aload_n (pc' := 130) rfl rfl rfl ?_
      refine xr_getp (pc' := 133) rfl rfl (by decide) rfl rfl rfl ?_
      refine xi_iload_n (pc' := 134) rfl rfl rfl ?_
      refine xr_ialdv (v := nI (0)) (j := m) (pc' := 135) rfl rfl (by decide) (by first | rfl | (simp only [ix_add, ix_mul, ix_pred]; done) | (simp only [ix_add, ix_mul, ix_pred, *]; done)) (by omega) (by decide) (by simp only [wI_fr, says_fr, put_fr, takes_fr, hears_fr, dat_fr, dw_fr, ans_fr, eff_fr, tell_fr, ne_eq, Nat.reduceEqDiff, not_false_eq_true, hx]) rfl ?_
      refine xi_icmpt (pc' := 201) rfl rfl (by decide) ?_
      refine xi_iincv (y := nI 4) (pc' := 204) rfl rfl (by decide) (st1_7 rfl) rfl ?_
      refine xi_goto (pc' := 116) rfl rfl ?_
      refine xi_iload (pc' := 118) rfl rfl rfl ?_
      refine xi_bipush (pc' := 120) rfl (by decide) rfl ?_
      refine xi_icmpf (pc' := 123) (tg := 207) rfl rfl (by decide) rfl ?_
      refine xi_iload_n (pc' := 124) rfl rfl rfl ?_
      refine xi_iff (pc' := 127) (tg := 138) rfl rfl (by decide) rfl ?_
      refine xi_iload (pc' := 129) rfl rfl rfl ?_
      refine xi_aload_n (pc' := 130) rfl rfl rfl ?_
      refine xr_getp (pc' := 133) rfl rfl (by decide) rfl rfl rfl ?_
      refine xi_iload_n (pc' := 134) rfl rfl rfl ?_
      refine xr_ialdv (v := nI (0)) (j := m) (pc' := 135) rfl rfl (by decide) (by first | rfl | (simp only [ix_add, ix_mul, ix_pred]; done) | (simp only [ix_add, ix_mul, ix_pred, *]; done)) (by omega) (by decide) (by simp only [wI_fr, says_fr, put_fr, takes_fr, hears_fr, dat_fr, dw_fr, ans_fr, eff_fr, tell_fr, ne_eq, Nat.reduceEqDiff, not_false_eq_true, hx]) rfl ?_
      refine xi_icmpt (pc' := 201) rfl rfl (by decide) ?_
      refine xi_iincv (y := nI 5) (pc' := 204) rfl rfl (by decide) (st1_7 rfl) rfl ?_
      refine xi_goto (pc' := 116) rfl rfl ?_
      refine xi_iload (pc' := 118) rfl rfl rfl ?_
      refine xi_bipush (pc' := 120) rfl (by decide) rfl ?_
      refine xi_icmpf (pc' := 123) (tg := 207) rfl rfl (by decide) rfl ?_
      refine xi_iload_n (pc' := 124) rfl rfl rfl ?_
      refine xi_iff (pc' := 127) (tg := 138) rfl rfl (by decide) rfl ?_
      refine xi_iload (pc' := 129) rfl rfl rfl ?_
      refine xi_aload_n (pc' := 130) rfl rfl rfl ?_
      refine xr_getp (pc' := 133) rfl rfl (by decide) rfl rfl rfl ?_
      refine xi_iload_n (pc' := 134) rfl rfl rfl ?_
      refine xr_ialdv (v := nI (0)) (j := m) (pc' := 135) rfl rfl (by decide) (by first | rfl | (simp only [ix_add, ix_mul, ix_pred]; done) | (simp only [ix_add, ix_mul, ix_pred, *]; done)) (by omega) (by decide) (by simp only [wI_fr, says_fr, put_fr, takes_fr, hears_fr, dat_fr, dw_fr, ans_fr, eff_fr, tell_fr, ne_eq, Nat.reduceEqDiff, not_false_eq_true, hx]) rfl ?_
      refine xi_icmpt (pc' := 201) rfl rfl (by decide) ?_
      refine xi_iincv (y := nI 6) (pc' := 204) rfl rfl (by decide) (st1_7 rfl) rfl ?_
      refine xi_goto (pc' := 116) rfl rfl ?_
      refine xi_iload (pc' := 118) rfl rfl rfl ?_
      refine xi_bipush (pc' := 120) rfl (by decide) rfl ?_
      refine xi_icmpt (pc' := 207) rfl rfl (by decide) ?_
      refine xi_iload (pc' := 209) rfl rfl rfl ?_
      refine xi_iff (pc' := 212) (tg := 216) rfl rfl (by decide) rfl ?_
      refine xi_iload_n (pc' := 213) rfl rfl rfl ?_
      refine xi_ift (pc' := 220) rfl rfl (by decide) ?_
      refine xi_iconst (pc' := 221) rfl rfl ?_
      refine xx_zreturn rfl rfl (by decide) ?_
      simp only [ex_P, Classical.not_not, ↓reduceIte, Nat.add_zero, or_true, true_or, not_true_eq_false, not_false_eq_true, or_false, false_or, wI_get, false_and, true_and, and_true, and_false, and_self, Nat.reduceEqDiff, Nat.succ_ne_zero, reduceCtorEq, nI_lit, nI_lit0, Nat.reduceLT] at *
      first | (simp only [r_give, r_g1, r_g2, r_g3, r_g4, *, ↓reduceIte, Nat.add_zero, or_true, true_or, not_true_eq_false, not_false_eq_true, or_false, false_or, wI_get, false_and, true_and, and_true, and_false, and_self, Nat.reduceEqDiff, Nat.succ_ne_zero, reduceCtorEq, nI_lit, nI_lit0, Nat.reduceLT]; done) | (exfalso; simp_all only [↓reduceIte, Nat.add_zero, or_true, true_or, not_true_eq_false, not_false_eq_true, or_false, false_or, wI_get, false_and, true_and, and_true, and_false, and_self, Nat.reduceEqDiff, Nat.succ_ne_zero, reduceCtorEq, nI_lit, nI_lit0, Nat.reduceLT]; done)
    · refine xi_iload_n (pc' := 180) rfl rfl rfl ?_
      refine xi_iff (pc' := 183) (tg := 201) rfl rfl (by decide) rfl ?_
      refine xi_aload_n (pc' := 184) rfl rfl rfl ?_
      refine xi_iload (pc' := 186) rfl rfl rfl ?_
      refine xi_iload_n (pc' := 187) rfl rfl rfl ?_
      refine xx_callVi (pc' := 190) rfl rfl (by decide) rfl rfl (by show _ < 81 + 2 * _; omega) (Nat.le_of_ble_eq_true rfl) rfl rfl (r_saysStatus (t := 0) (by decide) hb (g3_hw (x := 0) hh (by omega)) (by omega)) ?_
      refine xi_iconst (pc' := 191) rfl rfl ?_
      refine xx_icmp (pc' := 194) (tg := 198) rfl rfl rfl (fun q191 => ?_) (fun q191 => ?_)
      · refine xi_iconst (pc' := 199) rfl rfl ?_
        refine xi_istore (pc' := 201) rfl (st1_6 rfl) rfl ?_
        refine xi_iincv (y := nI 1) (pc' := 204) rfl rfl (by decide) (st1_7 rfl) rfl ?_
        refine xi_goto (pc' := 116) rfl rfl ?_
        refine xi_iload (pc' := 118) rfl rfl rfl ?_
        refine xi_bipush (pc' := 120) rfl (by decide) rfl ?_
        refine xi_icmpf (pc' := 123) (tg := 207) rfl rfl (by decide) rfl ?_
        refine xi_iload_n (pc' := 124) rfl rfl rfl ?_
        refine xi_iff (pc' := 127) (tg := 138) rfl rfl (by decide) rfl ?_
        refine xi_iload (pc' := 129) rfl rfl rfl ?_
        refine xi_aload_n (pc' := 130) rfl rfl rfl ?_
        refine xr_getp (pc' := 133) rfl rfl (by decide) rfl rfl rfl ?_
        refine xi_iload_n (pc' := 134) rfl rfl rfl ?_
        refine xr_ialdv (v := nI (0)) (j := m) (pc' := 135) rfl rfl (by decide) (by first | rfl | (simp only [ix_add, ix_mul, ix_pred]; done) | (simp only [ix_add, ix_mul, ix_pred, *]; done)) (by omega) (by decide) (by simp only [wI_fr, says_fr, put_fr, takes_fr, hears_fr, dat_fr, dw_fr, ans_fr, eff_fr, tell_fr, ne_eq, Nat.reduceEqDiff, not_false_eq_true, hx]) rfl ?_
        refine xi_icmpt (pc' := 201) rfl rfl (by decide) ?_
        refine xi_iincv (y := nI 2) (pc' := 204) rfl rfl (by decide) (st1_7 rfl) rfl ?_
        refine xi_goto (pc' := 116) rfl rfl ?_
        refine xi_iload (pc' := 118) rfl rfl rfl ?_
        refine xi_bipush (pc' := 120) rfl (by decide) rfl ?_
        refine xi_icmpf (pc' := 123) (tg := 207) rfl rfl (by decide) rfl ?_
        refine xi_iload_n (pc' := 124) rfl rfl rfl ?_
        refine xi_iff (pc' := 127) (tg := 138) rfl rfl (by decide) rfl ?_
        refine xi_iload (pc' := 129) rfl rfl rfl ?_
        refine xi_aload_n (pc' := 130) rfl rfl rfl ?_
        refine xr_getp (pc' := 133) rfl rfl (by decide) rfl rfl rfl ?_
        refine xi_iload_n (pc' := 134) rfl rfl rfl ?_
        refine xr_ialdv (v := nI (0)) (j := m) (pc' := 135) rfl rfl (by decide) (by first | rfl | (simp only [ix_add, ix_mul, ix_pred]; done) | (simp only [ix_add, ix_mul, ix_pred, *]; done)) (by omega) (by decide) (by simp only [wI_fr, says_fr, put_fr, takes_fr, hears_fr, dat_fr, dw_fr, ans_fr, eff_fr, tell_fr, ne_eq, Nat.reduceEqDiff, not_false_eq_true, hx]) rfl ?_
        refine xi_icmpt (pc' := 201) rfl rfl (by decide) ?_
        refine xi_iincv (y := nI 3) (pc' := 204) rfl rfl (by decide) (st1_7 rfl) rfl ?_
        refine xi_goto (pc' := 116) rfl rfl ?_
        refine xi_iload (pc' := 118) rfl rfl rfl ?_
        refine xi_bipush (pc' := 120) rfl (by decide) rfl ?_
        refine xi_icmpf (pc' := 123) (tg := 207) rfl rfl (by decide) rfl ?_
        refine xi_iload_n (pc' := 124) rfl rfl rfl ?_
        refine xi_iff (pc' := 127) (tg := 138) rfl rfl (by decide) rfl ?_
        refine xi_iload (pc' := 129) rfl rfl rfl ?_
        refine xi_aload_n (pc' := 130) rfl rfl rfl ?_
        refine xr_getp (pc' := 133) rfl rfl (by decide) rfl rfl rfl ?_
        refine xi_iload_n (pc' := 134) rfl rfl rfl ?_
        refine xr_ialdv (v := nI (0)) (j := m) (pc' := 135) rfl rfl (by decide) (by first | rfl | (simp only [ix_add, ix_mul, ix_pred]; done) | (simp only [ix_add, ix_mul, ix_pred, *]; done)) (by omega) (by decide) (by simp only [wI_fr, says_fr, put_fr, takes_fr, hears_fr, dat_fr, dw_fr, ans_fr, eff_fr, tell_fr, ne_eq, Nat.reduceEqDiff, not_false_eq_true, hx]) rfl ?_
        refine xi_icmpt (pc' := 201) rfl rfl (by decide) ?_
        refine xi_iincv (y := nI 4) (pc' := 204) rfl rfl (by decide) (st1_7 rfl) rfl ?_
        refine xi_goto (pc' := 116) rfl rfl ?_
        refine xi_iload (pc' := 118) rfl rfl rfl ?_
        refine xi_bipush (pc' := 120) rfl (by decide) rfl ?_
        refine xi_icmpf (pc' := 123) (tg := 207) rfl rfl (by decide) rfl ?_
        refine xi_iload_n (pc' := 124) rfl rfl rfl ?_
        refine xi_iff (pc' := 127) (tg := 138) rfl rfl (by decide) rfl ?_
        refine xi_iload (pc' := 129) rfl rfl rfl ?_
        refine xi_aload_n (pc' := 130) rfl rfl rfl ?_
        refine xr_getp (pc' := 133) rfl rfl (by decide) rfl rfl rfl ?_
        refine xi_iload_n (pc' := 134) rfl rfl rfl ?_
        refine xr_ialdv (v := nI (0)) (j := m) (pc' := 135) rfl rfl (by decide) (by first | rfl | (simp only [ix_add, ix_mul, ix_pred]; done) | (simp only [ix_add, ix_mul, ix_pred, *]; done)) (by omega) (by decide) (by simp only [wI_fr, says_fr, put_fr, takes_fr, hears_fr, dat_fr, dw_fr, ans_fr, eff_fr, tell_fr, ne_eq, Nat.reduceEqDiff, not_false_eq_true, hx]) rfl ?_
        refine xi_icmpt (pc' := 201) rfl rfl (by decide) ?_
        refine xi_iincv (y := nI 5) (pc' := 204) rfl rfl (by decide) (st1_7 rfl) rfl ?_
        refine xi_goto (pc' := 116) rfl rfl ?_
        refine xi_iload (pc' := 118) rfl rfl rfl ?_
        refine xi_bipush (pc' := 120) rfl (by decide) rfl ?_
        refine xi_icmpf (pc' := 123) (tg := 207) rfl rfl (by decide) rfl ?_
        refine xi_iload_n (pc' := 124) rfl rfl rfl ?_
        refine xi_iff (pc' := 127) (tg := 138) rfl rfl (by decide) rfl ?_
        refine xi_iload (pc' := 129) rfl rfl rfl ?_
        refine xi_aload_n (pc' := 130) rfl rfl rfl ?_
        refine xr_getp (pc' := 133) rfl rfl (by decide) rfl rfl rfl ?_
        refine xi_iload_n (pc' := 134) rfl rfl rfl ?_
        refine xr_ialdv (v := nI (0)) (j := m) (pc' := 135) rfl rfl (by decide) (by first | rfl | (simp only [ix_add, ix_mul, ix_pred]; done) | (simp only [ix_add, ix_mul, ix_pred, *]; done)) (by omega) (by decide) (by simp only [wI_fr, says_fr, put_fr, takes_fr, hears_fr, dat_fr, dw_fr, ans_fr, eff_fr, tell_fr, ne_eq, Nat.reduceEqDiff, not_false_eq_true, hx]) rfl ?_
        refine xi_icmpt (pc' := 201) rfl rfl (by decide) ?_
        refine xi_iincv (y := nI 6) (pc' := 204) rfl rfl (by decide) (st1_7 rfl) rfl ?_
        refine xi_goto (pc' := 116) rfl rfl ?_
        refine xi_iload (pc' := 118) rfl rfl rfl ?_
        refine xi_bipush (pc' := 120) rfl (by decide) rfl ?_
        refine xi_icmpt (pc' := 207) rfl rfl (by decide) ?_
        refine xi_iload (pc' := 209) rfl rfl rfl ?_
        refine xi_iff (pc' := 212) (tg := 216) rfl rfl (by decide) rfl ?_
        refine xi_iload_n (pc' := 213) rfl rfl rfl ?_
        refine xi_ift (pc' := 220) rfl rfl (by decide) ?_
        refine xi_iconst (pc' := 221) rfl rfl ?_
        refine xx_zreturn rfl rfl (by decide) ?_
        simp only [ex_P, Classical.not_not, ↓reduceIte, Nat.add_zero, or_true, true_or, not_true_eq_false, not_false_eq_true, or_false, false_or, wI_get, false_and, true_and, and_true, and_false, and_self, Nat.reduceEqDiff, Nat.succ_ne_zero, reduceCtorEq, nI_lit, nI_lit0, Nat.reduceLT] at *
        first | (simp only [r_give, r_g1, r_g2, r_g3, r_g4, *, ↓reduceIte, Nat.add_zero, or_true, true_or, not_true_eq_false, not_false_eq_true, or_false, false_or, wI_get, false_and, true_and, and_true, and_false, and_self, Nat.reduceEqDiff, Nat.succ_ne_zero, reduceCtorEq, nI_lit, nI_lit0, Nat.reduceLT]; done) | (exfalso; simp_all only [↓reduceIte, Nat.add_zero, or_true, true_or, not_true_eq_false, not_false_eq_true, or_false, false_or, wI_get, false_and, true_and, and_true, and_false, and_self, Nat.reduceEqDiff, Nat.succ_ne_zero, reduceCtorEq, nI_lit, nI_lit0, Nat.reduceLT]; done)
      · refine xi_iconst (pc' := 195) rfl rfl ?_
        refine xi_goto (pc' := 199) rfl rfl ?_
        refine xi_istore (pc' := 201) rfl (st1_6 rfl) rfl ?_
        refine xi_iincv (y := nI 1) (pc' := 204) rfl rfl (by decide) (st1_7 rfl) rfl ?_
        refine xi_goto (pc' := 116) rfl rfl ?_
        refine xi_iload (pc' := 118) rfl rfl rfl ?_
        refine xi_bipush (pc' := 120) rfl (by decide) rfl ?_
        refine xi_icmpf (pc' := 123) (tg := 207) rfl rfl (by decide) rfl ?_
        refine xi_iload_n (pc' := 124) rfl rfl rfl ?_
        refine xi_iff (pc' := 127) (tg := 138) rfl rfl (by decide) rfl ?_
        refine xi_iload (pc' := 129) rfl rfl rfl ?_
        refine xi_aload_n (pc' := 130) rfl rfl rfl ?_
        refine xr_getp (pc' := 133) rfl rfl (by decide) rfl rfl rfl ?_
        refine xi_iload_n (pc' := 134) rfl rfl rfl ?_
        refine xr_ialdv (v := nI (0)) (j := m) (pc' := 135) rfl rfl (by decide) (by first | rfl | (simp only [ix_add, ix_mul, ix_pred]; done) | (simp only [ix_add, ix_mul, ix_pred, *]; done)) (by omega) (by decide) (by simp only [wI_fr, says_fr, put_fr, takes_fr, hears_fr, dat_fr, dw_fr, ans_fr, eff_fr, tell_fr, ne_eq, Nat.reduceEqDiff, not_false_eq_true, hx]) rfl ?_
        refine xi_icmpt (pc' := 201) rfl rfl (by decide) ?_
        refine xi_iincv (y := nI 2) (pc' := 204) rfl rfl (by decide) (st1_7 rfl) rfl ?_
        refine xi_goto (pc' := 116) rfl rfl ?_
        refine xi_iload (pc' := 118) rfl rfl rfl ?_
        refine xi_bipush (pc' := 120) rfl (by decide) rfl ?_
        refine xi_icmpf (pc' := 123) (tg := 207) rfl rfl (by decide) rfl ?_
        refine xi_iload_n (pc' := 124) rfl rfl rfl ?_
        refine xi_iff (pc' := 127) (tg := 138) rfl rfl (by decide) rfl ?_
        refine xi_iload (pc' := 129) rfl rfl rfl ?_
        refine xi_aload_n (pc' := 130) rfl rfl rfl ?_
        refine xr_getp (pc' := 133) rfl rfl (by decide) rfl rfl rfl ?_
        refine xi_iload_n (pc' := 134) rfl rfl rfl ?_
        refine xr_ialdv (v := nI (0)) (j := m) (pc' := 135) rfl rfl (by decide) (by first | rfl | (simp only [ix_add, ix_mul, ix_pred]; done) | (simp only [ix_add, ix_mul, ix_pred, *]; done)) (by omega) (by decide) (by simp only [wI_fr, says_fr, put_fr, takes_fr, hears_fr, dat_fr, dw_fr, ans_fr, eff_fr, tell_fr, ne_eq, Nat.reduceEqDiff, not_false_eq_true, hx]) rfl ?_
        refine xi_icmpt (pc' := 201) rfl rfl (by decide) ?_
        refine xi_iincv (y := nI 3) (pc' := 204) rfl rfl (by decide) (st1_7 rfl) rfl ?_
        refine xi_goto (pc' := 116) rfl rfl ?_
        refine xi_iload (pc' := 118) rfl rfl rfl ?_
        refine xi_bipush (pc' := 120) rfl (by decide) rfl ?_
        refine xi_icmpf (pc' := 123) (tg := 207) rfl rfl (by decide) rfl ?_
        refine xi_iload_n (pc' := 124) rfl rfl rfl ?_
        refine xi_iff (pc' := 127) (tg := 138) rfl rfl (by decide) rfl ?_
        refine xi_iload (pc' := 129) rfl rfl rfl ?_
        refine xi_aload_n (pc' := 130) rfl rfl rfl ?_
        refine xr_getp (pc' := 133) rfl rfl (by decide) rfl rfl rfl ?_
        refine xi_iload_n (pc' := 134) rfl rfl rfl ?_
        refine xr_ialdv (v := nI (0)) (j := m) (pc' := 135) rfl rfl (by decide) (by first | rfl | (simp only [ix_add, ix_mul, ix_pred]; done) | (simp only [ix_add, ix_mul, ix_pred, *]; done)) (by omega) (by decide) (by simp only [wI_fr, says_fr, put_fr, takes_fr, hears_fr, dat_fr, dw_fr, ans_fr, eff_fr, tell_fr, ne_eq, Nat.reduceEqDiff, not_false_eq_true, hx]) rfl ?_
        refine xi_icmpt (pc' := 201) rfl rfl (by decide) ?_
        refine xi_iincv (y := nI 4) (pc' := 204) rfl rfl (by decide) (st1_7 rfl) rfl ?_
        refine xi_goto (pc' := 116) rfl rfl ?_
        refine xi_iload (pc' := 118) rfl rfl rfl ?_
        refine xi_bipush (pc' := 120) rfl (by decide) rfl ?_
        refine xi_icmpf (pc' := 123) (tg := 207) rfl rfl (by decide) rfl ?_
        refine xi_iload_n (pc' := 124) rfl rfl rfl ?_
        refine xi_iff (pc' := 127) (tg := 138) rfl rfl (by decide) rfl ?_
        refine xi_iload (pc' := 129) rfl rfl rfl ?_
        refine xi_aload_n (pc' := 130) rfl rfl rfl ?_
        refine xr_getp (pc' := 133) rfl rfl (by decide) rfl rfl rfl ?_
        refine xi_iload_n (pc' := 134) rfl rfl rfl ?_
        refine xr_ialdv (v := nI (0)) (j := m) (pc' := 135) rfl rfl (by decide) (by first | rfl | (simp only [ix_add, ix_mul, ix_pred]; done) | (simp only [ix_add, ix_mul, ix_pred, *]; done)) (by omega) (by decide) (by simp only [wI_fr, says_fr, put_fr, takes_fr, hears_fr, dat_fr, dw_fr, ans_fr, eff_fr, tell_fr, ne_eq, Nat.reduceEqDiff, not_false_eq_true, hx]) rfl ?_
        refine xi_icmpt (pc' := 201) rfl rfl (by decide) ?_
        refine xi_iincv (y := nI 5) (pc' := 204) rfl rfl (by decide) (st1_7 rfl) rfl ?_
        refine xi_goto (pc' := 116) rfl rfl ?_
        refine xi_iload (pc' := 118) rfl rfl rfl ?_
        refine xi_bipush (pc' := 120) rfl (by decide) rfl ?_
        refine xi_icmpf (pc' := 123) (tg := 207) rfl rfl (by decide) rfl ?_
        refine xi_iload_n (pc' := 124) rfl rfl rfl ?_
        refine xi_iff (pc' := 127) (tg := 138) rfl rfl (by decide) rfl ?_
        refine xi_iload (pc' := 129) rfl rfl rfl ?_
        refine xi_aload_n (pc' := 130) rfl rfl rfl ?_
        refine xr_getp (pc' := 133) rfl rfl (by decide) rfl rfl rfl ?_
        refine xi_iload_n (pc' := 134) rfl rfl rfl ?_
        refine xr_ialdv (v := nI (0)) (j := m) (pc' := 135) rfl rfl (by decide) (by first | rfl | (simp only [ix_add, ix_mul, ix_pred]; done) | (simp only [ix_add, ix_mul, ix_pred, *]; done)) (by omega) (by decide) (by simp only [wI_fr, says_fr, put_fr, takes_fr, hears_fr, dat_fr, dw_fr, ans_fr, eff_fr, tell_fr, ne_eq, Nat.reduceEqDiff, not_false_eq_true, hx]) rfl ?_
        refine xi_icmpt (pc' := 201) rfl rfl (by decide) ?_
        refine xi_iincv (y := nI 6) (pc' := 204) rfl rfl (by decide) (st1_7 rfl) rfl ?_
        refine xi_goto (pc' := 116) rfl rfl ?_
        refine xi_iload (pc' := 118) rfl rfl rfl ?_
        refine xi_bipush (pc' := 120) rfl (by decide) rfl ?_
        refine xi_icmpt (pc' := 207) rfl rfl (by decide) ?_
        refine xi_iload (pc' := 209) rfl rfl rfl ?_
        refine xi_ift (pc' := 216) rfl rfl (by decide) ?_
        refine xi_iconst (pc' := 217) rfl rfl ?_
        refine xi_goto (pc' := 221) rfl rfl ?_
        refine xx_zreturn rfl rfl (by decide) ?_
        simp only [ex_P, Classical.not_not, ↓reduceIte, Nat.add_zero, or_true, true_or, not_true_eq_false, not_false_eq_true, or_false, false_or, wI_get, false_and, true_and, and_true, and_false, and_self, Nat.reduceEqDiff, Nat.succ_ne_zero, reduceCtorEq, nI_lit, nI_lit0, Nat.reduceLT] at *
        first | (simp only [r_give, r_g1, r_g2, r_g3, r_g4, *, ↓reduceIte, Nat.add_zero, or_true, true_or, not_true_eq_false, not_false_eq_true, or_false, false_or, wI_get, false_and, true_and, and_true, and_false, and_self, Nat.reduceEqDiff, Nat.succ_ne_zero, reduceCtorEq, nI_lit, nI_lit0, Nat.reduceLT]; done) | (exfalso; simp_all only [↓reduceIte, Nat.add_zero, or_true, true_or, not_true_eq_false, not_false_eq_true, or_false, false_or, wI_get, false_and, true_and, and_true, and_false, and_self, Nat.reduceEqDiff, Nat.succ_ne_zero, reduceCtorEq, nI_lit, nI_lit0, Nat.reduceLT]; done)
theorem r_gives_0_1 {L : Nat} {xs : Nat → Int32} {D n : Nat} {I J : ex_Mem} {m s nn b N : Nat} (hk : J 69 m = nI 0) (hx : J 70 m = nI 1) (hm : m < 8) (hb : b < 2) (hs : s < 3) (h1 : 1 ≤ nn) (h4 : nn ≤ 4) (hsb : J 72 m = nI (s + 1)) (hn : J 73 m = nI nn) (hh : hwB N J) (hN : N + 8 < 2 ^ 31) (hg : gdB 0 J) : ri L xs (D + 3) 119 [.ref 52, .int (nI m), .int (nI b)] (mkH n I J) ((r_give J m 1 s nn b).1) (mkH n I (r_give J m 1 s nn b).2) := by
  show xx cb_G _ _ _ 119 0 [.ref 52, .int (nI m), .int (nI b), ex_no, ex_no, ex_no, ex_no, ex_no, ex_no] [] _ _
  refine xi_aload_n (pc' := 1) rfl rfl rfl ?_
  refine xr_getp (pc' := 4) rfl rfl (by decide) rfl rfl rfl ?_
  refine xi_iload_n (pc' := 5) rfl rfl rfl ?_
  refine xr_ialdv (v := nI (0)) (j := m) (pc' := 6) rfl rfl (by decide) (by first | rfl | (simp only [ix_add, ix_mul, ix_pred]; done) | (simp only [ix_add, ix_mul, ix_pred, *]; done)) (by omega) (by decide) (hk) rfl ?_
  refine xi_iconst (pc' := 7) rfl rfl ?_
  refine xi_icmpt (pc' := 14) rfl rfl (by decide) ?_
  refine xi_iconst (pc' := 15) rfl rfl ?_
  refine xi_istore_n (pc' := 16) rfl (st1_3 rfl) rfl ?_
  refine xi_iload_n (pc' := 17) rfl rfl rfl ?_
  refine xi_ift (pc' := 25) rfl rfl (by decide) ?_
  refine xi_aload_n (pc' := 26) rfl rfl rfl ?_
  refine xr_getp (pc' := 29) rfl rfl (by decide) rfl rfl rfl ?_
  refine xi_iload_n (pc' := 30) rfl rfl rfl ?_
  refine xr_ialdv (v := nI (1)) (j := m) (pc' := 31) rfl rfl (by decide) (by first | rfl | (simp only [ix_add, ix_mul, ix_pred]; done) | (simp only [ix_add, ix_mul, ix_pred, *]; done)) (by omega) (by decide) (hx) rfl ?_
  refine xi_iconst (pc' := 32) rfl rfl ?_
  refine xi_aload_n (pc' := 33) rfl rfl rfl ?_
  refine xr_getp (pc' := 36) rfl rfl (by decide) rfl rfl rfl ?_
  refine xi_iload_n (pc' := 37) rfl rfl rfl ?_
  refine xr_ialdv (v := nI (s + 1)) (j := m) (pc' := 38) rfl rfl (by decide) (by first | rfl | (simp only [ix_add, ix_mul, ix_pred]; done) | (simp only [ix_add, ix_mul, ix_pred, *]; done)) (by omega) (by decide) (hsb) rfl ?_
  refine xi_aload_n (pc' := 39) rfl rfl rfl ?_
  refine xr_getp (pc' := 42) rfl rfl (by decide) rfl rfl rfl ?_
  refine xi_iload_n (pc' := 43) rfl rfl rfl ?_
  refine xr_ialdv (v := nI (nn)) (j := m) (pc' := 44) rfl rfl (by decide) (by first | rfl | (simp only [ix_add, ix_mul, ix_pred]; done) | (simp only [ix_add, ix_mul, ix_pred, *]; done)) (by omega) (by decide) (hn) rfl ?_
  refine xx_callSi (pc' := 47) rfl rfl (by decide) rfl (Nat.le_of_ble_eq_true rfl) rfl rfl (r_commandW) ?_
  refine xi_istore (pc' := 49) rfl (st1_4 rfl) rfl ?_
  refine xi_aload_n (pc' := 50) rfl rfl rfl ?_
  refine xi_iload_n (pc' := 51) rfl rfl rfl ?_
  refine xi_iconst (pc' := 52) rfl rfl ?_
  refine xi_iload (pc' := 54) rfl rfl rfl ?_
  refine xx_callVi (pc' := 57) rfl rfl (by decide) rfl rfl (by show _ < 81 + 2 * _; omega) (Nat.le_of_ble_eq_true rfl) rfl rfl (r_put0 hb hh (by omega)) ?_
  refine xi_istore (pc' := 59) rfl (st1_5 rfl) rfl ?_
  refine xi_iconst (pc' := 60) rfl rfl ?_
  refine xi_istore (pc' := 62) rfl (st1_6 rfl) rfl ?_
  refine r_dat_loop (D := D) (N := N + 1) (g := 0) (fa := nI 0) hm h4 hb (hwB_put hh (by omega)) (by omega) (put_gdB hg) (by omega) ((put_fr (by decide) (by decide) (by decide) (by decide)).trans hn) (fun v7 v8 h7 h8 => ?_) nn 0 (by omega) _ _ rfl rfl
  refine xi_iconst (pc' := 111) rfl rfl ?_
  refine xi_istore (pc' := 113) rfl (st1_6 rfl) rfl ?_
  refine xi_iconst (pc' := 114) rfl rfl ?_
  refine xi_istore (pc' := 116) rfl (st1_7 rfl) rfl ?_
  refine xi_iload (pc' := 118) rfl rfl rfl ?_
  refine xi_bipush (pc' := 120) rfl (by decide) rfl ?_
  refine xi_icmpf (pc' := 123) (tg := 207) rfl rfl (by decide) rfl ?_
  refine xi_iload_n (pc' := 124) rfl rfl rfl ?_
  refine xi_iff (pc' := 127) (tg := 138) rfl rfl (by decide) rfl ?_
  refine xi_iload (pc' := 129) rfl rfl rfl ?_
  refine xi_aload_n (pc' := 130) rfl rfl rfl ?_
  refine xr_getp (pc' := 133) rfl rfl (by decide) rfl rfl rfl ?_
  refine xi_iload_n (pc' := 134) rfl rfl rfl ?_
  refine xr_ialdv (v := nI (1)) (j := m) (pc' := 135) rfl rfl (by decide) (by first | rfl | (simp only [ix_add, ix_mul, ix_pred]; done) | (simp only [ix_add, ix_mul, ix_pred, *]; done)) (by omega) (by decide) (by simp only [wI_fr, says_fr, put_fr, takes_fr, hears_fr, dat_fr, dw_fr, ans_fr, eff_fr, tell_fr, ne_eq, Nat.reduceEqDiff, not_false_eq_true, hx]) rfl ?_
  refine xi_icmpt (pc' := 201) rfl rfl (by decide) ?_
  refine xi_iincv (y := nI 1) (pc' := 204) rfl rfl (by decide) (st1_7 rfl) rfl ?_
  refine xi_goto (pc' := 116) rfl rfl ?_
  refine xi_iload (pc' := 118) rfl rfl rfl ?_
  refine xi_bipush (pc' := 120) rfl (by decide) rfl ?_
  refine xi_icmpf (pc' := 123) (tg := 207) rfl rfl (by decide) rfl ?_
  refine xi_iload_n (pc' := 124) rfl rfl rfl ?_
  refine xi_iff (pc' := 127) (tg := 138) rfl rfl (by decide) rfl ?_
  refine xi_iload (pc' := 129) rfl rfl rfl ?_
  refine xi_aload_n (pc' := 130) rfl rfl rfl ?_
  refine xr_getp (pc' := 133) rfl rfl (by decide) rfl rfl rfl ?_
  refine xi_iload_n (pc' := 134) rfl rfl rfl ?_
  refine xr_ialdv (v := nI (1)) (j := m) (pc' := 135) rfl rfl (by decide) (by first | rfl | (simp only [ix_add, ix_mul, ix_pred]; done) | (simp only [ix_add, ix_mul, ix_pred, *]; done)) (by omega) (by decide) (by simp only [wI_fr, says_fr, put_fr, takes_fr, hears_fr, dat_fr, dw_fr, ans_fr, eff_fr, tell_fr, ne_eq, Nat.reduceEqDiff, not_false_eq_true, hx]) rfl ?_
  refine xi_icmpf (pc' := 138) (tg := 201) rfl rfl (by decide) rfl ?_
  refine xi_aload_n (pc' := 139) rfl rfl rfl ?_
  refine xi_iload (pc' := 141) rfl rfl rfl ?_
  refine xi_iload (pc' := 143) rfl rfl rfl ?_
  refine xi_iload (pc' := 145) rfl rfl rfl ?_
  refine xi_iconst (pc' := 146) rfl rfl ?_
  refine xi_iconst (pc' := 147) rfl rfl ?_
  refine xx_callVi (pc' := 150) rfl rfl (by decide) rfl rfl (by show _ < 81 + 2 * _; omega) (Nat.le_of_ble_eq_true rfl) rfl rfl (r_hears_ok (t := 1) (by decide)) ?_
  refine xx_if (pc' := 153) (tg := 201) rfl rfl rfl (fun q150 => ?_) (fun q150 => ?_)
  · refine xi_iincv (y := nI 2) (pc' := 204) rfl rfl (by decide) (st1_7 rfl) rfl ?_
    refine xi_goto (pc' := 116) rfl rfl ?_
    refine xi_iload (pc' := 118) rfl rfl rfl ?_
    refine xi_bipush (pc' := 120) rfl (by decide) rfl ?_
    refine xi_icmpf (pc' := 123) (tg := 207) rfl rfl (by decide) rfl ?_
    refine xi_iload_n (pc' := 124) rfl rfl rfl ?_
    refine xi_iff (pc' := 127) (tg := 138) rfl rfl (by decide) rfl ?_
    refine xi_iload (pc' := 129) rfl rfl rfl ?_
    refine xi_aload_n (pc' := 130) rfl rfl rfl ?_
    refine xr_getp (pc' := 133) rfl rfl (by decide) rfl rfl rfl ?_
    refine xi_iload_n (pc' := 134) rfl rfl rfl ?_
    refine xr_ialdv (v := nI (1)) (j := m) (pc' := 135) rfl rfl (by decide) (by first | rfl | (simp only [ix_add, ix_mul, ix_pred]; done) | (simp only [ix_add, ix_mul, ix_pred, *]; done)) (by omega) (by decide) (by simp only [wI_fr, says_fr, put_fr, takes_fr, hears_fr, dat_fr, dw_fr, ans_fr, eff_fr, tell_fr, ne_eq, Nat.reduceEqDiff, not_false_eq_true, hx]) rfl ?_
    refine xi_icmpt (pc' := 201) rfl rfl (by decide) ?_
    refine xi_iincv (y := nI 3) (pc' := 204) rfl rfl (by decide) (st1_7 rfl) rfl ?_
    refine xi_goto (pc' := 116) rfl rfl ?_
    refine xi_iload (pc' := 118) rfl rfl rfl ?_
    refine xi_bipush (pc' := 120) rfl (by decide) rfl ?_
    refine xi_icmpf (pc' := 123) (tg := 207) rfl rfl (by decide) rfl ?_
    refine xi_iload_n (pc' := 124) rfl rfl rfl ?_
    refine xi_iff (pc' := 127) (tg := 138) rfl rfl (by decide) rfl ?_
    refine xi_iload (pc' := 129) rfl rfl rfl ?_
    refine xi_aload_n (pc' := 130) rfl rfl rfl ?_
    refine xr_getp (pc' := 133) rfl rfl (by decide) rfl rfl rfl ?_
    refine xi_iload_n (pc' := 134) rfl rfl rfl ?_
    refine xr_ialdv (v := nI (1)) (j := m) (pc' := 135) rfl rfl (by decide) (by first | rfl | (simp only [ix_add, ix_mul, ix_pred]; done) | (simp only [ix_add, ix_mul, ix_pred, *]; done)) (by omega) (by decide) (by simp only [wI_fr, says_fr, put_fr, takes_fr, hears_fr, dat_fr, dw_fr, ans_fr, eff_fr, tell_fr, ne_eq, Nat.reduceEqDiff, not_false_eq_true, hx]) rfl ?_
    refine xi_icmpt (pc' := 201) rfl rfl (by decide) ?_
    refine xi_iincv (y := nI 4) (pc' := 204) rfl rfl (by decide) (st1_7 rfl) rfl ?_
    refine xi_goto (pc' := 116) rfl rfl ?_
    refine xi_iload (pc' := 118) rfl rfl rfl ?_
    refine xi_bipush (pc' := 120) rfl (by decide) rfl ?_
    refine xi_icmpf (pc' := 123) (tg := 207) rfl rfl (by decide) rfl ?_
    refine xi_iload_n (pc' := 124) rfl rfl rfl ?_
    refine xi_iff (pc' := 127) (tg := 138) rfl rfl (by decide) rfl ?_
    refine xi_iload (pc' := 129) rfl rfl rfl ?_
    refine xi_aload_n (pc' := 130) rfl rfl rfl ?_
    refine xr_getp (pc' := 133) rfl rfl (by decide) rfl rfl rfl ?_
    refine xi_iload_n (pc' := 134) rfl rfl rfl ?_
    refine xr_ialdv (v := nI (1)) (j := m) (pc' := 135) rfl rfl (by decide) (by first | rfl | (simp only [ix_add, ix_mul, ix_pred]; done) | (simp only [ix_add, ix_mul, ix_pred, *]; done)) (by omega) (by decide) (by simp only [wI_fr, says_fr, put_fr, takes_fr, hears_fr, dat_fr, dw_fr, ans_fr, eff_fr, tell_fr, ne_eq, Nat.reduceEqDiff, not_false_eq_true, hx]) rfl ?_
    refine xi_icmpt (pc' := 201) rfl rfl (by decide) ?_
    refine xi_iincv (y := nI 5) (pc' := 204) rfl rfl (by decide) (st1_7 rfl) rfl ?_
    refine xi_goto (pc' := 116) rfl rfl ?_
    refine xi_iload (pc' := 118) rfl rfl rfl ?_
    refine xi_bipush (pc' := 120) rfl (by decide) rfl ?_
    refine xi_icmpf (pc' := 123) (tg := 207) rfl rfl (by decide) rfl ?_
    refine xi_iload_n (pc' := 124) rfl rfl rfl ?_
    refine xi_iff (pc' := 127) (tg := 138) rfl rfl (by decide) rfl ?_
    refine xi_iload (pc' := 129) rfl rfl rfl ?_
    refine xi_aload_n (pc' := 130) rfl rfl rfl ?_
    refine xr_getp (pc' := 133) rfl rfl (by decide) rfl rfl rfl ?_
    refine xi_iload_n (pc' := 134) rfl rfl rfl ?_
    refine xr_ialdv (v := nI (1)) (j := m) (pc' := 135) rfl rfl (by decide) (by first | rfl | (simp only [ix_add, ix_mul, ix_pred]; done) | (simp only [ix_add, ix_mul, ix_pred, *]; done)) (by omega) (by decide) (by simp only [wI_fr, says_fr, put_fr, takes_fr, hears_fr, dat_fr, dw_fr, ans_fr, eff_fr, tell_fr, ne_eq, Nat.reduceEqDiff, not_false_eq_true, hx]) rfl ?_
    refine xi_icmpt (pc' := 201) rfl rfl (by decide) ?_
    refine xi_iincv (y := nI 6) (pc' := 204) rfl rfl (by decide) (st1_7 rfl) rfl ?_
    refine xi_goto (pc' := 116) rfl rfl ?_
    refine xi_iload (pc' := 118) rfl rfl rfl ?_
    refine xi_bipush (pc' := 120) rfl (by decide) rfl ?_
    refine xi_icmpt (pc' := 207) rfl rfl (by decide) ?_
    refine xi_iload (pc' := 209) rfl rfl rfl ?_
    refine xi_iff (pc' := 212) (tg := 216) rfl rfl (by decide) rfl ?_
    refine xi_iload_n (pc' := 213) rfl rfl rfl ?_
    refine xi_ift (pc' := 220) rfl rfl (by decide) ?_
    refine xi_iconst (pc' := 221) rfl rfl ?_
    refine xx_zreturn rfl rfl (by decide) ?_
    simp only [ex_P, Classical.not_not, ↓reduceIte, Nat.add_zero, or_true, true_or, not_true_eq_false, not_false_eq_true, or_false, false_or, wI_get, false_and, true_and, and_true, and_false, and_self, Nat.reduceEqDiff, Nat.succ_ne_zero, reduceCtorEq, nI_lit, nI_lit0, Nat.reduceLT] at *
    first | (simp only [r_give, r_g1, r_g2, r_g3, r_g4, *, ↓reduceIte, Nat.add_zero, or_true, true_or, not_true_eq_false, not_false_eq_true, or_false, false_or, wI_get, false_and, true_and, and_true, and_false, and_self, Nat.reduceEqDiff, Nat.succ_ne_zero, reduceCtorEq, nI_lit, nI_lit0, Nat.reduceLT]; done) | (exfalso; simp_all only [↓reduceIte, Nat.add_zero, or_true, true_or, not_true_eq_false, not_false_eq_true, or_false, false_or, wI_get, false_and, true_and, and_true, and_false, and_self, Nat.reduceEqDiff, Nat.succ_ne_zero, reduceCtorEq, nI_lit, nI_lit0, Nat.reduceLT]; done)
  · refine xi_aload_n (pc' := 154) rfl rfl rfl ?_
    refine xi_iload (pc' := 156) rfl rfl rfl ?_
    refine xi_aload_n (pc' := 157) rfl rfl rfl ?_
    refine xr_getp (pc' := 160) rfl rfl (by decide) rfl rfl rfl ?_
    refine xi_iload_n (pc' := 161) rfl rfl rfl ?_
    refine xr_ialdv (v := nI (s + 1)) (j := m) (pc' := 162) rfl rfl (by decide) (by first | rfl | (simp only [ix_add, ix_mul, ix_pred]; done) | (simp only [ix_add, ix_mul, ix_pred, *]; done)) (by omega) (by decide) (by simp only [wI_fr, says_fr, put_fr, takes_fr, hears_fr, dat_fr, dw_fr, ans_fr, eff_fr, tell_fr, ne_eq, Nat.reduceEqDiff, not_false_eq_true, hsb]) rfl ?_
    refine xi_aload_n (pc' := 163) rfl rfl rfl ?_
    refine xr_getp (pc' := 166) rfl rfl (by decide) rfl rfl rfl ?_
    refine xi_iload_n (pc' := 167) rfl rfl rfl ?_
    refine xr_ialdv (v := nI (nn)) (j := m) (pc' := 168) rfl rfl (by decide) (by first | rfl | (simp only [ix_add, ix_mul, ix_pred]; done) | (simp only [ix_add, ix_mul, ix_pred, *]; done)) (by omega) (by decide) (by simp only [wI_fr, says_fr, put_fr, takes_fr, hears_fr, dat_fr, dw_fr, ans_fr, eff_fr, tell_fr, ne_eq, Nat.reduceEqDiff, not_false_eq_true, hn]) rfl ?_
    refine xi_iload_n (pc' := 169) rfl rfl rfl ?_
    refine xx_callVi (pc' := 172) rfl rfl (by decide) rfl rfl (by show _ < 81 + 2 * _; omega) (Nat.le_of_ble_eq_true rfl) rfl rfl (r_takes_ok (t := 1) (by decide) hs h1 h4 (by decide)) ?_
    refine xi_istore (pc' := 174) rfl (st1_8 rfl) rfl ?_
    refine xi_iload (pc' := 176) rfl rfl rfl ?_
    refine xx_if (pc' := 179) (tg := 201) rfl rfl rfl (fun q176 => ?_) (fun q176 => ?_)
    · refine xi_iincv (y := nI 2) (pc' := 204) rfl rfl (by decide) (st1_7 rfl) rfl ?_
      refine xi_goto (pc' := 116) rfl rfl ?_
      refine xi_iload (pc' := 118) rfl rfl rfl ?_
      refine xi_bipush (pc' := 120) rfl (by decide) rfl ?_
      refine xi_icmpf (pc' := 123) (tg := 207) rfl rfl (by decide) rfl ?_
      refine xi_iload_n (pc' := 124) rfl rfl rfl ?_
      refine xi_iff (pc' := 127) (tg := 138) rfl rfl (by decide) rfl ?_
      refine xi_iload (pc' := 129) rfl rfl rfl ?_
      refine xi_aload_n (pc' := 130) rfl rfl rfl ?_
      refine xr_getp (pc' := 133) rfl rfl (by decide) rfl rfl rfl ?_
      refine xi_iload_n (pc' := 134) rfl rfl rfl ?_
      refine xr_ialdv (v := nI (1)) (j := m) (pc' := 135) rfl rfl (by decide) (by first | rfl | (simp only [ix_add, ix_mul, ix_pred]; done) | (simp only [ix_add, ix_mul, ix_pred, *]; done)) (by omega) (by decide) (by simp only [wI_fr, says_fr, put_fr, takes_fr, hears_fr, dat_fr, dw_fr, ans_fr, eff_fr, tell_fr, ne_eq, Nat.reduceEqDiff, not_false_eq_true, hx]) rfl ?_
      refine xi_icmpt (pc' := 201) rfl rfl (by decide) ?_
      refine xi_iincv (y := nI 3) (pc' := 204) rfl rfl (by decide) (st1_7 rfl) rfl ?_
      refine xi_goto (pc' := 116) rfl rfl ?_
      refine xi_iload (pc' := 118) rfl rfl rfl ?_
      refine xi_bipush (pc' := 120) rfl (by decide) rfl ?_
      refine xi_icmpf (pc' := 123) (tg := 207) rfl rfl (by decide) rfl ?_
      refine xi_iload_n (pc' := 124) rfl rfl rfl ?_
      refine xi_iff (pc' := 127) (tg := 138) rfl rfl (by decide) rfl ?_
      refine xi_iload (pc' := 129) rfl rfl rfl ?_
      refine xi_aload_n (pc' := 130) rfl rfl rfl ?_
      refine xr_getp (pc' := 133) rfl rfl (by decide) rfl rfl rfl ?_
      refine xi_iload_n (pc' := 134) rfl rfl rfl ?_
      refine xr_ialdv (v := nI (1)) (j := m) (pc' := 135) rfl rfl (by decide) (by first | rfl | (simp only [ix_add, ix_mul, ix_pred]; done) | (simp only [ix_add, ix_mul, ix_pred, *]; done)) (by omega) (by decide) (by simp only [wI_fr, says_fr, put_fr, takes_fr, hears_fr, dat_fr, dw_fr, ans_fr, eff_fr, tell_fr, ne_eq, Nat.reduceEqDiff, not_false_eq_true, hx]) rfl ?_
      refine xi_icmpt (pc' := 201) rfl rfl (by decide) ?_
      refine xi_iincv (y := nI 4) (pc' := 204) rfl rfl (by decide) (st1_7 rfl) rfl ?_
      refine xi_goto (pc' := 116) rfl rfl ?_
      refine xi_iload (pc' := 118) rfl rfl rfl ?_
      refine xi_bipush (pc' := 120) rfl (by decide) rfl ?_
      refine xi_icmpf (pc' := 123) (tg := 207) rfl rfl (by decide) rfl ?_
      refine xi_iload_n (pc' := 124) rfl rfl rfl ?_
      refine xi_iff (pc' := 127) (tg := 138) rfl rfl (by decide) rfl ?_
      refine xi_iload (pc' := 129) rfl rfl rfl ?_
      refine xi_aload_n (pc' := 130) rfl rfl rfl ?_
      refine xr_getp (pc' := 133) rfl rfl (by decide) rfl rfl rfl ?_
      refine xi_iload_n (pc' := 134) rfl rfl rfl ?_
      refine xr_ialdv (v := nI (1)) (j := m) (pc' := 135) rfl rfl (by decide) (by first | rfl | (simp only [ix_add, ix_mul, ix_pred]; done) | (simp only [ix_add, ix_mul, ix_pred, *]; done)) (by omega) (by decide) (by simp only [wI_fr, says_fr, put_fr, takes_fr, hears_fr, dat_fr, dw_fr, ans_fr, eff_fr, tell_fr, ne_eq, Nat.reduceEqDiff, not_false_eq_true, hx]) rfl ?_
      refine xi_icmpt (pc' := 201) rfl rfl (by decide) ?_
      refine xi_iincv (y := nI 5) (pc' := 204) rfl rfl (by decide) (st1_7 rfl) rfl ?_
      refine xi_goto (pc' := 116) rfl rfl ?_
      refine xi_iload (pc' := 118) rfl rfl rfl ?_
      refine xi_bipush (pc' := 120) rfl (by decide) rfl ?_
      refine xi_icmpf (pc' := 123) (tg := 207) rfl rfl (by decide) rfl ?_
      refine xi_iload_n (pc' := 124) rfl rfl rfl ?_
      refine xi_iff (pc' := 127) (tg := 138) rfl rfl (by decide) rfl ?_
      refine xi_iload (pc' := 129) rfl rfl rfl ?_
      refine xi_aload_n (pc' := 130) rfl rfl rfl ?_
      refine xr_getp (pc' := 133) rfl rfl (by decide) rfl rfl rfl ?_
      refine xi_iload_n (pc' := 134) rfl rfl rfl ?_
      refine xr_ialdv (v := nI (1)) (j := m) (pc' := 135) rfl rfl (by decide) (by first | rfl | (simp only [ix_add, ix_mul, ix_pred]; done) | (simp only [ix_add, ix_mul, ix_pred, *]; done)) (by omega) (by decide) (by simp only [wI_fr, says_fr, put_fr, takes_fr, hears_fr, dat_fr, dw_fr, ans_fr, eff_fr, tell_fr, ne_eq, Nat.reduceEqDiff, not_false_eq_true, hx]) rfl ?_
      refine xi_icmpt (pc' := 201) rfl rfl (by decide) ?_
      refine xi_iincv (y := nI 6) (pc' := 204) rfl rfl (by decide) (st1_7 rfl) rfl ?_
      refine xi_goto (pc' := 116) rfl rfl ?_
      refine xi_iload (pc' := 118) rfl rfl rfl ?_
      refine xi_bipush (pc' := 120) rfl (by decide) rfl ?_
      refine xi_icmpt (pc' := 207) rfl rfl (by decide) ?_
      refine xi_iload (pc' := 209) rfl rfl rfl ?_
      refine xi_iff (pc' := 212) (tg := 216) rfl rfl (by decide) rfl ?_
      refine xi_iload_n (pc' := 213) rfl rfl rfl ?_
      refine xi_ift (pc' := 220) rfl rfl (by decide) ?_
      refine xi_iconst (pc' := 221) rfl rfl ?_
      refine xx_zreturn rfl rfl (by decide) ?_
      simp only [ex_P, Classical.not_not, ↓reduceIte, Nat.add_zero, or_true, true_or, not_true_eq_false, not_false_eq_true, or_false, false_or, wI_get, false_and, true_and, and_true, and_false, and_self, Nat.reduceEqDiff, Nat.succ_ne_zero, reduceCtorEq, nI_lit, nI_lit0, Nat.reduceLT] at *
      first | (simp only [r_give, r_g1, r_g2, r_g3, r_g4, *, ↓reduceIte, Nat.add_zero, or_true, true_or, not_true_eq_false, not_false_eq_true, or_false, false_or, wI_get, false_and, true_and, and_true, and_false, and_self, Nat.reduceEqDiff, Nat.succ_ne_zero, reduceCtorEq, nI_lit, nI_lit0, Nat.reduceLT]; done) | (exfalso; simp_all only [↓reduceIte, Nat.add_zero, or_true, true_or, not_true_eq_false, not_false_eq_true, or_false, false_or, wI_get, false_and, true_and, and_true, and_false, and_self, Nat.reduceEqDiff, Nat.succ_ne_zero, reduceCtorEq, nI_lit, nI_lit0, Nat.reduceLT]; done)
    · refine xi_iload_n (pc' := 180) rfl rfl rfl ?_
      refine xi_iff (pc' := 183) (tg := 201) rfl rfl (by decide) rfl ?_
      refine xi_aload_n (pc' := 184) rfl rfl rfl ?_
      refine xi_iload (pc' := 186) rfl rfl rfl ?_
      refine xi_iload_n (pc' := 187) rfl rfl rfl ?_
      refine xx_callVi (pc' := 190) rfl rfl (by decide) rfl rfl (by show _ < 81 + 2 * _; omega) (Nat.le_of_ble_eq_true rfl) rfl rfl (r_saysStatus (t := 1) (by decide) hb (g3_hw (x := 1) hh (by omega)) (by omega)) ?_
      refine xi_iconst (pc' := 191) rfl rfl ?_
      refine xx_icmp (pc' := 194) (tg := 198) rfl rfl rfl (fun q191 => ?_) (fun q191 => ?_)
      · refine xi_iconst (pc' := 199) rfl rfl ?_
        refine xi_istore (pc' := 201) rfl (st1_6 rfl) rfl ?_
        refine xi_iincv (y := nI 2) (pc' := 204) rfl rfl (by decide) (st1_7 rfl) rfl ?_
        refine xi_goto (pc' := 116) rfl rfl ?_
        refine xi_iload (pc' := 118) rfl rfl rfl ?_
        refine xi_bipush (pc' := 120) rfl (by decide) rfl ?_
        refine xi_icmpf (pc' := 123) (tg := 207) rfl rfl (by decide) rfl ?_
        refine xi_iload_n (pc' := 124) rfl rfl rfl ?_
        refine xi_iff (pc' := 127) (tg := 138) rfl rfl (by decide) rfl ?_
        refine xi_iload (pc' := 129) rfl rfl rfl ?_
        refine xi_aload_n (pc' := 130) rfl rfl rfl ?_
        refine xr_getp (pc' := 133) rfl rfl (by decide) rfl rfl rfl ?_
        refine xi_iload_n (pc' := 134) rfl rfl rfl ?_
        refine xr_ialdv (v := nI (1)) (j := m) (pc' := 135) rfl rfl (by decide) (by first | rfl | (simp only [ix_add, ix_mul, ix_pred]; done) | (simp only [ix_add, ix_mul, ix_pred, *]; done)) (by omega) (by decide) (by simp only [wI_fr, says_fr, put_fr, takes_fr, hears_fr, dat_fr, dw_fr, ans_fr, eff_fr, tell_fr, ne_eq, Nat.reduceEqDiff, not_false_eq_true, hx]) rfl ?_
        refine xi_icmpt (pc' := 201) rfl rfl (by decide) ?_
        refine xi_iincv (y := nI 3) (pc' := 204) rfl rfl (by decide) (st1_7 rfl) rfl ?_
        refine xi_goto (pc' := 116) rfl rfl ?_
        refine xi_iload (pc' := 118) rfl rfl rfl ?_
        refine xi_bipush (pc' := 120) rfl (by decide) rfl ?_
        refine xi_icmpf (pc' := 123) (tg := 207) rfl rfl (by decide) rfl ?_
        refine xi_iload_n (pc' := 124) rfl rfl rfl ?_
        refine xi_iff (pc' := 127) (tg := 138) rfl rfl (by decide) rfl ?_
        refine xi_iload (pc' := 129) rfl rfl rfl ?_
        refine xi_aload_n (pc' := 130) rfl rfl rfl ?_
        refine xr_getp (pc' := 133) rfl rfl (by decide) rfl rfl rfl ?_
        refine xi_iload_n (pc' := 134) rfl rfl rfl ?_
        refine xr_ialdv (v := nI (1)) (j := m) (pc' := 135) rfl rfl (by decide) (by first | rfl | (simp only [ix_add, ix_mul, ix_pred]; done) | (simp only [ix_add, ix_mul, ix_pred, *]; done)) (by omega) (by decide) (by simp only [wI_fr, says_fr, put_fr, takes_fr, hears_fr, dat_fr, dw_fr, ans_fr, eff_fr, tell_fr, ne_eq, Nat.reduceEqDiff, not_false_eq_true, hx]) rfl ?_
        refine xi_icmpt (pc' := 201) rfl rfl (by decide) ?_
        refine xi_iincv (y := nI 4) (pc' := 204) rfl rfl (by decide) (st1_7 rfl) rfl ?_
        refine xi_goto (pc' := 116) rfl rfl ?_
        refine xi_iload (pc' := 118) rfl rfl rfl ?_
        refine xi_bipush (pc' := 120) rfl (by decide) rfl ?_
        refine xi_icmpf (pc' := 123) (tg := 207) rfl rfl (by decide) rfl ?_
        refine xi_iload_n (pc' := 124) rfl rfl rfl ?_
        refine xi_iff (pc' := 127) (tg := 138) rfl rfl (by decide) rfl ?_
        refine xi_iload (pc' := 129) rfl rfl rfl ?_
        refine xi_aload_n (pc' := 130) rfl rfl rfl ?_
        refine xr_getp (pc' := 133) rfl rfl (by decide) rfl rfl rfl ?_
        refine xi_iload_n (pc' := 134) rfl rfl rfl ?_
        refine xr_ialdv (v := nI (1)) (j := m) (pc' := 135) rfl rfl (by decide) (by first | rfl | (simp only [ix_add, ix_mul, ix_pred]; done) | (simp only [ix_add, ix_mul, ix_pred, *]; done)) (by omega) (by decide) (by simp only [wI_fr, says_fr, put_fr, takes_fr, hears_fr, dat_fr, dw_fr, ans_fr, eff_fr, tell_fr, ne_eq, Nat.reduceEqDiff, not_false_eq_true, hx]) rfl ?_
        refine xi_icmpt (pc' := 201) rfl rfl (by decide) ?_
        refine xi_iincv (y := nI 5) (pc' := 204) rfl rfl (by decide) (st1_7 rfl) rfl ?_
        refine xi_goto (pc' := 116) rfl rfl ?_
        refine xi_iload (pc' := 118) rfl rfl rfl ?_
        refine xi_bipush (pc' := 120) rfl (by decide) rfl ?_
        refine xi_icmpf (pc' := 123) (tg := 207) rfl rfl (by decide) rfl ?_
        refine xi_iload_n (pc' := 124) rfl rfl rfl ?_
        refine xi_iff (pc' := 127) (tg := 138) rfl rfl (by decide) rfl ?_
        refine xi_iload (pc' := 129) rfl rfl rfl ?_
        refine xi_aload_n (pc' := 130) rfl rfl rfl ?_
        refine xr_getp (pc' := 133) rfl rfl (by decide) rfl rfl rfl ?_
        refine xi_iload_n (pc' := 134) rfl rfl rfl ?_
        refine xr_ialdv (v := nI (1)) (j := m) (pc' := 135) rfl rfl (by decide) (by first | rfl | (simp only [ix_add, ix_mul, ix_pred]; done) | (simp only [ix_add, ix_mul, ix_pred, *]; done)) (by omega) (by decide) (by simp only [wI_fr, says_fr, put_fr, takes_fr, hears_fr, dat_fr, dw_fr, ans_fr, eff_fr, tell_fr, ne_eq, Nat.reduceEqDiff, not_false_eq_true, hx]) rfl ?_
        refine xi_icmpt (pc' := 201) rfl rfl (by decide) ?_
        refine xi_iincv (y := nI 6) (pc' := 204) rfl rfl (by decide) (st1_7 rfl) rfl ?_
        refine xi_goto (pc' := 116) rfl rfl ?_
        refine xi_iload (pc' := 118) rfl rfl rfl ?_
        refine xi_bipush (pc' := 120) rfl (by decide) rfl ?_
        refine xi_icmpt (pc' := 207) rfl rfl (by decide) ?_
        refine xi_iload (pc' := 209) rfl rfl rfl ?_
        refine xi_iff (pc' := 212) (tg := 216) rfl rfl (by decide) rfl ?_
        refine xi_iload_n (pc' := 213) rfl rfl rfl ?_
        refine xi_ift (pc' := 220) rfl rfl (by decide) ?_
        refine xi_iconst (pc' := 221) rfl rfl ?_
        refine xx_zreturn rfl rfl (by decide) ?_
        simp only [ex_P, Classical.not_not, ↓reduceIte, Nat.add_zero, or_true, true_or, not_true_eq_false, not_false_eq_true, or_false, false_or, wI_get, false_and, true_and, and_true, and_false, and_self, Nat.reduceEqDiff, Nat.succ_ne_zero, reduceCtorEq, nI_lit, nI_lit0, Nat.reduceLT] at *
        first | (simp only [r_give, r_g1, r_g2, r_g3, r_g4, *, ↓reduceIte, Nat.add_zero, or_true, true_or, not_true_eq_false, not_false_eq_true, or_false, false_or, wI_get, false_and, true_and, and_true, and_false, and_self, Nat.reduceEqDiff, Nat.succ_ne_zero, reduceCtorEq, nI_lit, nI_lit0, Nat.reduceLT]; done) | (exfalso; simp_all only [↓reduceIte, Nat.add_zero, or_true, true_or, not_true_eq_false, not_false_eq_true, or_false, false_or, wI_get, false_and, true_and, and_true, and_false, and_self, Nat.reduceEqDiff, Nat.succ_ne_zero, reduceCtorEq, nI_lit, nI_lit0, Nat.reduceLT]; done)
      · refine xi_iconst (pc' := 195) rfl rfl ?_
        refine xi_goto (pc' := 199) rfl rfl ?_
        refine xi_istore (pc' := 201) rfl (st1_6 rfl) rfl ?_
        refine xi_iincv (y := nI 2) (pc' := 204) rfl rfl (by decide) (st1_7 rfl) rfl ?_
        refine xi_goto (pc' := 116) rfl rfl ?_
        refine xi_iload (pc' := 118) rfl rfl rfl ?_
        refine xi_bipush (pc' := 120) rfl (by decide) rfl ?_
        refine xi_icmpf (pc' := 123) (tg := 207) rfl rfl (by decide) rfl ?_
        refine xi_iload_n (pc' := 124) rfl rfl rfl ?_
        refine xi_iff (pc' := 127) (tg := 138) rfl rfl (by decide) rfl ?_
        refine xi_iload (pc' := 129) rfl rfl rfl ?_
        refine xi_aload_n (pc' := 130) rfl rfl rfl ?_
        refine xr_getp (pc' := 133) rfl rfl (by decide) rfl rfl rfl ?_
        refine xi_iload_n (pc' := 134) rfl rfl rfl ?_
        refine xr_ialdv (v := nI (1)) (j := m) (pc' := 135) rfl rfl (by decide) (by first | rfl | (simp only [ix_add, ix_mul, ix_pred]; done) | (simp only [ix_add, ix_mul, ix_pred, *]; done)) (by omega) (by decide) (by simp only [wI_fr, says_fr, put_fr, takes_fr, hears_fr, dat_fr, dw_fr, ans_fr, eff_fr, tell_fr, ne_eq, Nat.reduceEqDiff, not_false_eq_true, hx]) rfl ?_
        refine xi_icmpt (pc' := 201) rfl rfl (by decide) ?_
        refine xi_iincv (y := nI 3) (pc' := 204) rfl rfl (by decide) (st1_7 rfl) rfl ?_
        refine xi_goto (pc' := 116) rfl rfl ?_
        refine xi_iload (pc' := 118) rfl rfl rfl ?_
        refine xi_bipush (pc' := 120) rfl (by decide) rfl ?_
        refine xi_icmpf (pc' := 123) (tg := 207) rfl rfl (by decide) rfl ?_
        refine xi_iload_n (pc' := 124) rfl rfl rfl ?_
        refine xi_iff (pc' := 127) (tg := 138) rfl rfl (by decide) rfl ?_
        refine xi_iload (pc' := 129) rfl rfl rfl ?_
        refine xi_aload_n (pc' := 130) rfl rfl rfl ?_
        refine xr_getp (pc' := 133) rfl rfl (by decide) rfl rfl rfl ?_
        refine xi_iload_n (pc' := 134) rfl rfl rfl ?_
        refine xr_ialdv (v := nI (1)) (j := m) (pc' := 135) rfl rfl (by decide) (by first | rfl | (simp only [ix_add, ix_mul, ix_pred]; done) | (simp only [ix_add, ix_mul, ix_pred, *]; done)) (by omega) (by decide) (by simp only [wI_fr, says_fr, put_fr, takes_fr, hears_fr, dat_fr, dw_fr, ans_fr, eff_fr, tell_fr, ne_eq, Nat.reduceEqDiff, not_false_eq_true, hx]) rfl ?_
        refine xi_icmpt (pc' := 201) rfl rfl (by decide) ?_
        refine xi_iincv (y := nI 4) (pc' := 204) rfl rfl (by decide) (st1_7 rfl) rfl ?_
        refine xi_goto (pc' := 116) rfl rfl ?_
        refine xi_iload (pc' := 118) rfl rfl rfl ?_
        refine xi_bipush (pc' := 120) rfl (by decide) rfl ?_
        refine xi_icmpf (pc' := 123) (tg := 207) rfl rfl (by decide) rfl ?_
        refine xi_iload_n (pc' := 124) rfl rfl rfl ?_
        refine xi_iff (pc' := 127) (tg := 138) rfl rfl (by decide) rfl ?_
        refine xi_iload (pc' := 129) rfl rfl rfl ?_
        refine xi_aload_n (pc' := 130) rfl rfl rfl ?_
        refine xr_getp (pc' := 133) rfl rfl (by decide) rfl rfl rfl ?_
        refine xi_iload_n (pc' := 134) rfl rfl rfl ?_
        refine xr_ialdv (v := nI (1)) (j := m) (pc' := 135) rfl rfl (by decide) (by first | rfl | (simp only [ix_add, ix_mul, ix_pred]; done) | (simp only [ix_add, ix_mul, ix_pred, *]; done)) (by omega) (by decide) (by simp only [wI_fr, says_fr, put_fr, takes_fr, hears_fr, dat_fr, dw_fr, ans_fr, eff_fr, tell_fr, ne_eq, Nat.reduceEqDiff, not_false_eq_true, hx]) rfl ?_
        refine xi_icmpt (pc' := 201) rfl rfl (by decide) ?_
        refine xi_iincv (y := nI 5) (pc' := 204) rfl rfl (by decide) (st1_7 rfl) rfl ?_
        refine xi_goto (pc' := 116) rfl rfl ?_
        refine xi_iload (pc' := 118) rfl rfl rfl ?_
        refine xi_bipush (pc' := 120) rfl (by decide) rfl ?_
        refine xi_icmpf (pc' := 123) (tg := 207) rfl rfl (by decide) rfl ?_
        refine xi_iload_n (pc' := 124) rfl rfl rfl ?_
        refine xi_iff (pc' := 127) (tg := 138) rfl rfl (by decide) rfl ?_
        refine xi_iload (pc' := 129) rfl rfl rfl ?_
        refine xi_aload_n (pc' := 130) rfl rfl rfl ?_
        refine xr_getp (pc' := 133) rfl rfl (by decide) rfl rfl rfl ?_
        refine xi_iload_n (pc' := 134) rfl rfl rfl ?_
        refine xr_ialdv (v := nI (1)) (j := m) (pc' := 135) rfl rfl (by decide) (by first | rfl | (simp only [ix_add, ix_mul, ix_pred]; done) | (simp only [ix_add, ix_mul, ix_pred, *]; done)) (by omega) (by decide) (by simp only [wI_fr, says_fr, put_fr, takes_fr, hears_fr, dat_fr, dw_fr, ans_fr, eff_fr, tell_fr, ne_eq, Nat.reduceEqDiff, not_false_eq_true, hx]) rfl ?_
        refine xi_icmpt (pc' := 201) rfl rfl (by decide) ?_
        refine xi_iincv (y := nI 6) (pc' := 204) rfl rfl (by decide) (st1_7 rfl) rfl ?_
        refine xi_goto (pc' := 116) rfl rfl ?_
        refine xi_iload (pc' := 118) rfl rfl rfl ?_
        refine xi_bipush (pc' := 120) rfl (by decide) rfl ?_
        refine xi_icmpt (pc' := 207) rfl rfl (by decide) ?_
        refine xi_iload (pc' := 209) rfl rfl rfl ?_
        refine xi_ift (pc' := 216) rfl rfl (by decide) ?_
        refine xi_iconst (pc' := 217) rfl rfl ?_
        refine xi_goto (pc' := 221) rfl rfl ?_
        refine xx_zreturn rfl rfl (by decide) ?_
        simp only [ex_P, Classical.not_not, ↓reduceIte, Nat.add_zero, or_true, true_or, not_true_eq_false, not_false_eq_true, or_false, false_or, wI_get, false_and, true_and, and_true, and_false, and_self, Nat.reduceEqDiff, Nat.succ_ne_zero, reduceCtorEq, nI_lit, nI_lit0, Nat.reduceLT] at *
        first | (simp only [r_give, r_g1, r_g2, r_g3, r_g4, *, ↓reduceIte, Nat.add_zero, or_true, true_or, not_true_eq_false, not_false_eq_true, or_false, false_or, wI_get, false_and, true_and, and_true, and_false, and_self, Nat.reduceEqDiff, Nat.succ_ne_zero, reduceCtorEq, nI_lit, nI_lit0, Nat.reduceLT]; done) | (exfalso; simp_all only [↓reduceIte, Nat.add_zero, or_true, true_or, not_true_eq_false, not_false_eq_true, or_false, false_or, wI_get, false_and, true_and, and_true, and_false, and_self, Nat.reduceEqDiff, Nat.succ_ne_zero, reduceCtorEq, nI_lit, nI_lit0, Nat.reduceLT]; done)
theorem r_gives_0_2 {L : Nat} {xs : Nat → Int32} {D n : Nat} {I J : ex_Mem} {m s nn b N : Nat} (hk : J 69 m = nI 0) (hx : J 70 m = nI 2) (hm : m < 8) (hb : b < 2) (hs : s < 3) (h1 : 1 ≤ nn) (h4 : nn ≤ 4) (hsb : J 72 m = nI (s + 1)) (hn : J 73 m = nI nn) (hh : hwB N J) (hN : N + 8 < 2 ^ 31) (hg : gdB 0 J) : ri L xs (D + 3) 119 [.ref 52, .int (nI m), .int (nI b)] (mkH n I J) ((r_give J m 2 s nn b).1) (mkH n I (r_give J m 2 s nn b).2) := by
  show xx cb_G _ _ _ 119 0 [.ref 52, .int (nI m), .int (nI b), ex_no, ex_no, ex_no, ex_no, ex_no, ex_no] [] _ _
  refine xi_aload_n (pc' := 1) rfl rfl rfl ?_
  refine xr_getp (pc' := 4) rfl rfl (by decide) rfl rfl rfl ?_
  refine xi_iload_n (pc' := 5) rfl rfl rfl ?_
  refine xr_ialdv (v := nI (0)) (j := m) (pc' := 6) rfl rfl (by decide) (by first | rfl | (simp only [ix_add, ix_mul, ix_pred]; done) | (simp only [ix_add, ix_mul, ix_pred, *]; done)) (by omega) (by decide) (hk) rfl ?_
  refine xi_iconst (pc' := 7) rfl rfl ?_
  refine xi_icmpt (pc' := 14) rfl rfl (by decide) ?_
  refine xi_iconst (pc' := 15) rfl rfl ?_
  refine xi_istore_n (pc' := 16) rfl (st1_3 rfl) rfl ?_
  refine xi_iload_n (pc' := 17) rfl rfl rfl ?_
  refine xi_ift (pc' := 25) rfl rfl (by decide) ?_
  refine xi_aload_n (pc' := 26) rfl rfl rfl ?_
  refine xr_getp (pc' := 29) rfl rfl (by decide) rfl rfl rfl ?_
  refine xi_iload_n (pc' := 30) rfl rfl rfl ?_
  refine xr_ialdv (v := nI (2)) (j := m) (pc' := 31) rfl rfl (by decide) (by first | rfl | (simp only [ix_add, ix_mul, ix_pred]; done) | (simp only [ix_add, ix_mul, ix_pred, *]; done)) (by omega) (by decide) (hx) rfl ?_
  refine xi_iconst (pc' := 32) rfl rfl ?_
  refine xi_aload_n (pc' := 33) rfl rfl rfl ?_
  refine xr_getp (pc' := 36) rfl rfl (by decide) rfl rfl rfl ?_
  refine xi_iload_n (pc' := 37) rfl rfl rfl ?_
  refine xr_ialdv (v := nI (s + 1)) (j := m) (pc' := 38) rfl rfl (by decide) (by first | rfl | (simp only [ix_add, ix_mul, ix_pred]; done) | (simp only [ix_add, ix_mul, ix_pred, *]; done)) (by omega) (by decide) (hsb) rfl ?_
  refine xi_aload_n (pc' := 39) rfl rfl rfl ?_
  refine xr_getp (pc' := 42) rfl rfl (by decide) rfl rfl rfl ?_
  refine xi_iload_n (pc' := 43) rfl rfl rfl ?_
  refine xr_ialdv (v := nI (nn)) (j := m) (pc' := 44) rfl rfl (by decide) (by first | rfl | (simp only [ix_add, ix_mul, ix_pred]; done) | (simp only [ix_add, ix_mul, ix_pred, *]; done)) (by omega) (by decide) (hn) rfl ?_
  refine xx_callSi (pc' := 47) rfl rfl (by decide) rfl (Nat.le_of_ble_eq_true rfl) rfl rfl (r_commandW) ?_
  refine xi_istore (pc' := 49) rfl (st1_4 rfl) rfl ?_
  refine xi_aload_n (pc' := 50) rfl rfl rfl ?_
  refine xi_iload_n (pc' := 51) rfl rfl rfl ?_
  refine xi_iconst (pc' := 52) rfl rfl ?_
  refine xi_iload (pc' := 54) rfl rfl rfl ?_
  refine xx_callVi (pc' := 57) rfl rfl (by decide) rfl rfl (by show _ < 81 + 2 * _; omega) (Nat.le_of_ble_eq_true rfl) rfl rfl (r_put0 hb hh (by omega)) ?_
  refine xi_istore (pc' := 59) rfl (st1_5 rfl) rfl ?_
  refine xi_iconst (pc' := 60) rfl rfl ?_
  refine xi_istore (pc' := 62) rfl (st1_6 rfl) rfl ?_
  refine r_dat_loop (D := D) (N := N + 1) (g := 0) (fa := nI 0) hm h4 hb (hwB_put hh (by omega)) (by omega) (put_gdB hg) (by omega) ((put_fr (by decide) (by decide) (by decide) (by decide)).trans hn) (fun v7 v8 h7 h8 => ?_) nn 0 (by omega) _ _ rfl rfl
  refine xi_iconst (pc' := 111) rfl rfl ?_
  refine xi_istore (pc' := 113) rfl (st1_6 rfl) rfl ?_
  refine xi_iconst (pc' := 114) rfl rfl ?_
  refine xi_istore (pc' := 116) rfl (st1_7 rfl) rfl ?_
  refine xi_iload (pc' := 118) rfl rfl rfl ?_
  refine xi_bipush (pc' := 120) rfl (by decide) rfl ?_
  refine xi_icmpf (pc' := 123) (tg := 207) rfl rfl (by decide) rfl ?_
  refine xi_iload_n (pc' := 124) rfl rfl rfl ?_
  refine xi_iff (pc' := 127) (tg := 138) rfl rfl (by decide) rfl ?_
  refine xi_iload (pc' := 129) rfl rfl rfl ?_
  refine xi_aload_n (pc' := 130) rfl rfl rfl ?_
  refine xr_getp (pc' := 133) rfl rfl (by decide) rfl rfl rfl ?_
  refine xi_iload_n (pc' := 134) rfl rfl rfl ?_
  refine xr_ialdv (v := nI (2)) (j := m) (pc' := 135) rfl rfl (by decide) (by first | rfl | (simp only [ix_add, ix_mul, ix_pred]; done) | (simp only [ix_add, ix_mul, ix_pred, *]; done)) (by omega) (by decide) (by simp only [wI_fr, says_fr, put_fr, takes_fr, hears_fr, dat_fr, dw_fr, ans_fr, eff_fr, tell_fr, ne_eq, Nat.reduceEqDiff, not_false_eq_true, hx]) rfl ?_
  refine xi_icmpt (pc' := 201) rfl rfl (by decide) ?_
  refine xi_iincv (y := nI 1) (pc' := 204) rfl rfl (by decide) (st1_7 rfl) rfl ?_
  refine xi_goto (pc' := 116) rfl rfl ?_
  refine xi_iload (pc' := 118) rfl rfl rfl ?_
  refine xi_bipush (pc' := 120) rfl (by decide) rfl ?_
  refine xi_icmpf (pc' := 123) (tg := 207) rfl rfl (by decide) rfl ?_
  refine xi_iload_n (pc' := 124) rfl rfl rfl ?_
  refine xi_iff (pc' := 127) (tg := 138) rfl rfl (by decide) rfl ?_
  refine xi_iload (pc' := 129) rfl rfl rfl ?_
  refine xi_aload_n (pc' := 130) rfl rfl rfl ?_
  refine xr_getp (pc' := 133) rfl rfl (by decide) rfl rfl rfl ?_
  refine xi_iload_n (pc' := 134) rfl rfl rfl ?_
  refine xr_ialdv (v := nI (2)) (j := m) (pc' := 135) rfl rfl (by decide) (by first | rfl | (simp only [ix_add, ix_mul, ix_pred]; done) | (simp only [ix_add, ix_mul, ix_pred, *]; done)) (by omega) (by decide) (by simp only [wI_fr, says_fr, put_fr, takes_fr, hears_fr, dat_fr, dw_fr, ans_fr, eff_fr, tell_fr, ne_eq, Nat.reduceEqDiff, not_false_eq_true, hx]) rfl ?_
  refine xi_icmpt (pc' := 201) rfl rfl (by decide) ?_
  refine xi_iincv (y := nI 2) (pc' := 204) rfl rfl (by decide) (st1_7 rfl) rfl ?_
  refine xi_goto (pc' := 116) rfl rfl ?_
  refine xi_iload (pc' := 118) rfl rfl rfl ?_
  refine xi_bipush (pc' := 120) rfl (by decide) rfl ?_
  refine xi_icmpf (pc' := 123) (tg := 207) rfl rfl (by decide) rfl ?_
  refine xi_iload_n (pc' := 124) rfl rfl rfl ?_
  refine xi_iff (pc' := 127) (tg := 138) rfl rfl (by decide) rfl ?_
  refine xi_iload (pc' := 129) rfl rfl rfl ?_
  refine xi_aload_n (pc' := 130) rfl rfl rfl ?_
  refine xr_getp (pc' := 133) rfl rfl (by decide) rfl rfl rfl ?_
  refine xi_iload_n (pc' := 134) rfl rfl rfl ?_
  refine xr_ialdv (v := nI (2)) (j := m) (pc' := 135) rfl rfl (by decide) (by first | rfl | (simp only [ix_add, ix_mul, ix_pred]; done) | (simp only [ix_add, ix_mul, ix_pred, *]; done)) (by omega) (by decide) (by simp only [wI_fr, says_fr, put_fr, takes_fr, hears_fr, dat_fr, dw_fr, ans_fr, eff_fr, tell_fr, ne_eq, Nat.reduceEqDiff, not_false_eq_true, hx]) rfl ?_
  refine xi_icmpf (pc' := 138) (tg := 201) rfl rfl (by decide) rfl ?_
  refine xi_aload_n (pc' := 139) rfl rfl rfl ?_
  refine xi_iload (pc' := 141) rfl rfl rfl ?_
  refine xi_iload (pc' := 143) rfl rfl rfl ?_
  refine xi_iload (pc' := 145) rfl rfl rfl ?_
  refine xi_iconst (pc' := 146) rfl rfl ?_
  refine xi_iconst (pc' := 147) rfl rfl ?_
  refine xx_callVi (pc' := 150) rfl rfl (by decide) rfl rfl (by show _ < 81 + 2 * _; omega) (Nat.le_of_ble_eq_true rfl) rfl rfl (r_hears_ok (t := 2) (by decide)) ?_
  refine xx_if (pc' := 153) (tg := 201) rfl rfl rfl (fun q150 => ?_) (fun q150 => ?_)
  · refine xi_iincv (y := nI 3) (pc' := 204) rfl rfl (by decide) (st1_7 rfl) rfl ?_
    refine xi_goto (pc' := 116) rfl rfl ?_
    refine xi_iload (pc' := 118) rfl rfl rfl ?_
    refine xi_bipush (pc' := 120) rfl (by decide) rfl ?_
    refine xi_icmpf (pc' := 123) (tg := 207) rfl rfl (by decide) rfl ?_
    refine xi_iload_n (pc' := 124) rfl rfl rfl ?_
    refine xi_iff (pc' := 127) (tg := 138) rfl rfl (by decide) rfl ?_
    refine xi_iload (pc' := 129) rfl rfl rfl ?_
    refine xi_aload_n (pc' := 130) rfl rfl rfl ?_
    refine xr_getp (pc' := 133) rfl rfl (by decide) rfl rfl rfl ?_
    refine xi_iload_n (pc' := 134) rfl rfl rfl ?_
    refine xr_ialdv (v := nI (2)) (j := m) (pc' := 135) rfl rfl (by decide) (by first | rfl | (simp only [ix_add, ix_mul, ix_pred]; done) | (simp only [ix_add, ix_mul, ix_pred, *]; done)) (by omega) (by decide) (by simp only [wI_fr, says_fr, put_fr, takes_fr, hears_fr, dat_fr, dw_fr, ans_fr, eff_fr, tell_fr, ne_eq, Nat.reduceEqDiff, not_false_eq_true, hx]) rfl ?_
    refine xi_icmpt (pc' := 201) rfl rfl (by decide) ?_
    refine xi_iincv (y := nI 4) (pc' := 204) rfl rfl (by decide) (st1_7 rfl) rfl ?_
    refine xi_goto (pc' := 116) rfl rfl ?_
    refine xi_iload (pc' := 118) rfl rfl rfl ?_
    refine xi_bipush (pc' := 120) rfl (by decide) rfl ?_
    refine xi_icmpf (pc' := 123) (tg := 207) rfl rfl (by decide) rfl ?_
    refine xi_iload_n (pc' := 124) rfl rfl rfl ?_
    refine xi_iff (pc' := 127) (tg := 138) rfl rfl (by decide) rfl ?_
    refine xi_iload (pc' := 129) rfl rfl rfl ?_
    refine xi_aload_n (pc' := 130) rfl rfl rfl ?_
    refine xr_getp (pc' := 133) rfl rfl (by decide) rfl rfl rfl ?_
    refine xi_iload_n (pc' := 134) rfl rfl rfl ?_
    refine xr_ialdv (v := nI (2)) (j := m) (pc' := 135) rfl rfl (by decide) (by first | rfl | (simp only [ix_add, ix_mul, ix_pred]; done) | (simp only [ix_add, ix_mul, ix_pred, *]; done)) (by omega) (by decide) (by simp only [wI_fr, says_fr, put_fr, takes_fr, hears_fr, dat_fr, dw_fr, ans_fr, eff_fr, tell_fr, ne_eq, Nat.reduceEqDiff, not_false_eq_true, hx]) rfl ?_
    refine xi_icmpt (pc' := 201) rfl rfl (by decide) ?_
    refine xi_iincv (y := nI 5) (pc' := 204) rfl rfl (by decide) (st1_7 rfl) rfl ?_
    refine xi_goto (pc' := 116) rfl rfl ?_
    refine xi_iload (pc' := 118) rfl rfl rfl ?_
    refine xi_bipush (pc' := 120) rfl (by decide) rfl ?_
    refine xi_icmpf (pc' := 123) (tg := 207) rfl rfl (by decide) rfl ?_
    refine xi_iload_n (pc' := 124) rfl rfl rfl ?_
    refine xi_iff (pc' := 127) (tg := 138) rfl rfl (by decide) rfl ?_
    refine xi_iload (pc' := 129) rfl rfl rfl ?_
    refine xi_aload_n (pc' := 130) rfl rfl rfl ?_
    refine xr_getp (pc' := 133) rfl rfl (by decide) rfl rfl rfl ?_
    refine xi_iload_n (pc' := 134) rfl rfl rfl ?_
    refine xr_ialdv (v := nI (2)) (j := m) (pc' := 135) rfl rfl (by decide) (by first | rfl | (simp only [ix_add, ix_mul, ix_pred]; done) | (simp only [ix_add, ix_mul, ix_pred, *]; done)) (by omega) (by decide) (by simp only [wI_fr, says_fr, put_fr, takes_fr, hears_fr, dat_fr, dw_fr, ans_fr, eff_fr, tell_fr, ne_eq, Nat.reduceEqDiff, not_false_eq_true, hx]) rfl ?_
    refine xi_icmpt (pc' := 201) rfl rfl (by decide) ?_
    refine xi_iincv (y := nI 6) (pc' := 204) rfl rfl (by decide) (st1_7 rfl) rfl ?_
    refine xi_goto (pc' := 116) rfl rfl ?_
    refine xi_iload (pc' := 118) rfl rfl rfl ?_
    refine xi_bipush (pc' := 120) rfl (by decide) rfl ?_
    refine xi_icmpt (pc' := 207) rfl rfl (by decide) ?_
    refine xi_iload (pc' := 209) rfl rfl rfl ?_
    refine xi_iff (pc' := 212) (tg := 216) rfl rfl (by decide) rfl ?_
    refine xi_iload_n (pc' := 213) rfl rfl rfl ?_
    refine xi_ift (pc' := 220) rfl rfl (by decide) ?_
    refine xi_iconst (pc' := 221) rfl rfl ?_
    refine xx_zreturn rfl rfl (by decide) ?_
    simp only [ex_P, Classical.not_not, ↓reduceIte, Nat.add_zero, or_true, true_or, not_true_eq_false, not_false_eq_true, or_false, false_or, wI_get, false_and, true_and, and_true, and_false, and_self, Nat.reduceEqDiff, Nat.succ_ne_zero, reduceCtorEq, nI_lit, nI_lit0, Nat.reduceLT] at *
    first | (simp only [r_give, r_g1, r_g2, r_g3, r_g4, *, ↓reduceIte, Nat.add_zero, or_true, true_or, not_true_eq_false, not_false_eq_true, or_false, false_or, wI_get, false_and, true_and, and_true, and_false, and_self, Nat.reduceEqDiff, Nat.succ_ne_zero, reduceCtorEq, nI_lit, nI_lit0, Nat.reduceLT]; done) | (exfalso; simp_all only [↓reduceIte, Nat.add_zero, or_true, true_or, not_true_eq_false, not_false_eq_true, or_false, false_or, wI_get, false_and, true_and, and_true, and_false, and_self, Nat.reduceEqDiff, Nat.succ_ne_zero, reduceCtorEq, nI_lit, nI_lit0, Nat.reduceLT]; done)
  · refine xi_aload_n (pc' := 154) rfl rfl rfl ?_
    refine xi_iload (pc' := 156) rfl rfl rfl ?_
    refine xi_aload_n (pc' := 157) rfl rfl rfl ?_
    refine xr_getp (pc' := 160) rfl rfl (by decide) rfl rfl rfl ?_
    refine xi_iload_n (pc' := 161) rfl rfl rfl ?_
    refine xr_ialdv (v := nI (s + 1)) (j := m) (pc' := 162) rfl rfl (by decide) (by first | rfl | (simp only [ix_add, ix_mul, ix_pred]; done) | (simp only [ix_add, ix_mul, ix_pred, *]; done)) (by omega) (by decide) (by simp only [wI_fr, says_fr, put_fr, takes_fr, hears_fr, dat_fr, dw_fr, ans_fr, eff_fr, tell_fr, ne_eq, Nat.reduceEqDiff, not_false_eq_true, hsb]) rfl ?_
    refine xi_aload_n (pc' := 163) rfl rfl rfl ?_
    refine xr_getp (pc' := 166) rfl rfl (by decide) rfl rfl rfl ?_
    refine xi_iload_n (pc' := 167) rfl rfl rfl ?_
    refine xr_ialdv (v := nI (nn)) (j := m) (pc' := 168) rfl rfl (by decide) (by first | rfl | (simp only [ix_add, ix_mul, ix_pred]; done) | (simp only [ix_add, ix_mul, ix_pred, *]; done)) (by omega) (by decide) (by simp only [wI_fr, says_fr, put_fr, takes_fr, hears_fr, dat_fr, dw_fr, ans_fr, eff_fr, tell_fr, ne_eq, Nat.reduceEqDiff, not_false_eq_true, hn]) rfl ?_
    refine xi_iload_n (pc' := 169) rfl rfl rfl ?_
    refine xx_callVi (pc' := 172) rfl rfl (by decide) rfl rfl (by show _ < 81 + 2 * _; omega) (Nat.le_of_ble_eq_true rfl) rfl rfl (r_takes_ok (t := 2) (by decide) hs h1 h4 (by decide)) ?_
    refine xi_istore (pc' := 174) rfl (st1_8 rfl) rfl ?_
    refine xi_iload (pc' := 176) rfl rfl rfl ?_
    refine xx_if (pc' := 179) (tg := 201) rfl rfl rfl (fun q176 => ?_) (fun q176 => ?_)
    · refine xi_iincv (y := nI 3) (pc' := 204) rfl rfl (by decide) (st1_7 rfl) rfl ?_
      refine xi_goto (pc' := 116) rfl rfl ?_
      refine xi_iload (pc' := 118) rfl rfl rfl ?_
      refine xi_bipush (pc' := 120) rfl (by decide) rfl ?_
      refine xi_icmpf (pc' := 123) (tg := 207) rfl rfl (by decide) rfl ?_
      refine xi_iload_n (pc' := 124) rfl rfl rfl ?_
      refine xi_iff (pc' := 127) (tg := 138) rfl rfl (by decide) rfl ?_
      refine xi_iload (pc' := 129) rfl rfl rfl ?_
      refine xi_aload_n (pc' := 130) rfl rfl rfl ?_
      refine xr_getp (pc' := 133) rfl rfl (by decide) rfl rfl rfl ?_
      refine xi_iload_n (pc' := 134) rfl rfl rfl ?_
      refine xr_ialdv (v := nI (2)) (j := m) (pc' := 135) rfl rfl (by decide) (by first | rfl | (simp only [ix_add, ix_mul, ix_pred]; done) | (simp only [ix_add, ix_mul, ix_pred, *]; done)) (by omega) (by decide) (by simp only [wI_fr, says_fr, put_fr, takes_fr, hears_fr, dat_fr, dw_fr, ans_fr, eff_fr, tell_fr, ne_eq, Nat.reduceEqDiff, not_false_eq_true, hx]) rfl ?_
      refine xi_icmpt (pc' := 201) rfl rfl (by decide) ?_
      refine xi_iincv (y := nI 4) (pc' := 204) rfl rfl (by decide) (st1_7 rfl) rfl ?_
      refine xi_goto (pc' := 116) rfl rfl ?_
      refine xi_iload (pc' := 118) rfl rfl rfl ?_
      refine xi_bipush (pc' := 120) rfl (by decide) rfl ?_
      refine xi_icmpf (pc' := 123) (tg := 207) rfl rfl (by decide) rfl ?_
      refine xi_iload_n (pc' := 124) rfl rfl rfl ?_
      refine xi_iff (pc' := 127) (tg := 138) rfl rfl (by decide) rfl ?_
      refine xi_iload (pc' := 129) rfl rfl rfl ?_
      refine xi_aload_n (pc' := 130) rfl rfl rfl ?_
      refine xr_getp (pc' := 133) rfl rfl (by decide) rfl rfl rfl ?_
      refine xi_iload_n (pc' := 134) rfl rfl rfl ?_
      refine xr_ialdv (v := nI (2)) (j := m) (pc' := 135) rfl rfl (by decide) (by first | rfl | (simp only [ix_add, ix_mul, ix_pred]; done) | (simp only [ix_add, ix_mul, ix_pred, *]; done)) (by omega) (by decide) (by simp only [wI_fr, says_fr, put_fr, takes_fr, hears_fr, dat_fr, dw_fr, ans_fr, eff_fr, tell_fr, ne_eq, Nat.reduceEqDiff, not_false_eq_true, hx]) rfl ?_
      refine xi_icmpt (pc' := 201) rfl rfl (by decide) ?_
      refine xi_iincv (y := nI 5) (pc' := 204) rfl rfl (by decide) (st1_7 rfl) rfl ?_
      refine xi_goto (pc' := 116) rfl rfl ?_
      refine xi_iload (pc' := 118) rfl rfl rfl ?_
      refine xi_bipush (pc' := 120) rfl (by decide) rfl ?_
      refine xi_icmpf (pc' := 123) (tg := 207) rfl rfl (by decide) rfl ?_
      refine xi_iload_n (pc' := 124) rfl rfl rfl ?_
      refine xi_iff (pc' := 127) (tg := 138) rfl rfl (by decide) rfl ?_
      refine xi_iload (pc' := 129) rfl rfl rfl ?_
      refine xi_aload_n (pc' := 130) rfl rfl rfl ?_
      refine xr_getp (pc' := 133) rfl rfl (by decide) rfl rfl rfl ?_
      refine xi_iload_n (pc' := 134) rfl rfl rfl ?_
      refine xr_ialdv (v := nI (2)) (j := m) (pc' := 135) rfl rfl (by decide) (by first | rfl | (simp only [ix_add, ix_mul, ix_pred]; done) | (simp only [ix_add, ix_mul, ix_pred, *]; done)) (by omega) (by decide) (by simp only [wI_fr, says_fr, put_fr, takes_fr, hears_fr, dat_fr, dw_fr, ans_fr, eff_fr, tell_fr, ne_eq, Nat.reduceEqDiff, not_false_eq_true, hx]) rfl ?_
      refine xi_icmpt (pc' := 201) rfl rfl (by decide) ?_
      refine xi_iincv (y := nI 6) (pc' := 204) rfl rfl (by decide) (st1_7 rfl) rfl ?_
      refine xi_goto (pc' := 116) rfl rfl ?_
      refine xi_iload (pc' := 118) rfl rfl rfl ?_
      refine xi_bipush (pc' := 120) rfl (by decide) rfl ?_
      refine xi_icmpt (pc' := 207) rfl rfl (by decide) ?_
      refine xi_iload (pc' := 209) rfl rfl rfl ?_
      refine xi_iff (pc' := 212) (tg := 216) rfl rfl (by decide) rfl ?_
      refine xi_iload_n (pc' := 213) rfl rfl rfl ?_
      refine xi_ift (pc' := 220) rfl rfl (by decide) ?_
      refine xi_iconst (pc' := 221) rfl rfl ?_
      refine xx_zreturn rfl rfl (by decide) ?_
      simp only [ex_P, Classical.not_not, ↓reduceIte, Nat.add_zero, or_true, true_or, not_true_eq_false, not_false_eq_true, or_false, false_or, wI_get, false_and, true_and, and_true, and_false, and_self, Nat.reduceEqDiff, Nat.succ_ne_zero, reduceCtorEq, nI_lit, nI_lit0, Nat.reduceLT] at *
      first | (simp only [r_give, r_g1, r_g2, r_g3, r_g4, *, ↓reduceIte, Nat.add_zero, or_true, true_or, not_true_eq_false, not_false_eq_true, or_false, false_or, wI_get, false_and, true_and, and_true, and_false, and_self, Nat.reduceEqDiff, Nat.succ_ne_zero, reduceCtorEq, nI_lit, nI_lit0, Nat.reduceLT]; done) | (exfalso; simp_all only [↓reduceIte, Nat.add_zero, or_true, true_or, not_true_eq_false, not_false_eq_true, or_false, false_or, wI_get, false_and, true_and, and_true, and_false, and_self, Nat.reduceEqDiff, Nat.succ_ne_zero, reduceCtorEq, nI_lit, nI_lit0, Nat.reduceLT]; done)
    · refine xi_iload_n (pc' := 180) rfl rfl rfl ?_
      refine xi_iff (pc' := 183) (tg := 201) rfl rfl (by decide) rfl ?_
      refine xi_aload_n (pc' := 184) rfl rfl rfl ?_
      refine xi_iload (pc' := 186) rfl rfl rfl ?_
      refine xi_iload_n (pc' := 187) rfl rfl rfl ?_
      refine xx_callVi (pc' := 190) rfl rfl (by decide) rfl rfl (by show _ < 81 + 2 * _; omega) (Nat.le_of_ble_eq_true rfl) rfl rfl (r_saysStatus (t := 2) (by decide) hb (g3_hw (x := 2) hh (by omega)) (by omega)) ?_
      refine xi_iconst (pc' := 191) rfl rfl ?_
      refine xx_icmp (pc' := 194) (tg := 198) rfl rfl rfl (fun q191 => ?_) (fun q191 => ?_)
      · refine xi_iconst (pc' := 199) rfl rfl ?_
        refine xi_istore (pc' := 201) rfl (st1_6 rfl) rfl ?_
        refine xi_iincv (y := nI 3) (pc' := 204) rfl rfl (by decide) (st1_7 rfl) rfl ?_
        refine xi_goto (pc' := 116) rfl rfl ?_
        refine xi_iload (pc' := 118) rfl rfl rfl ?_
        refine xi_bipush (pc' := 120) rfl (by decide) rfl ?_
        refine xi_icmpf (pc' := 123) (tg := 207) rfl rfl (by decide) rfl ?_
        refine xi_iload_n (pc' := 124) rfl rfl rfl ?_
        refine xi_iff (pc' := 127) (tg := 138) rfl rfl (by decide) rfl ?_
        refine xi_iload (pc' := 129) rfl rfl rfl ?_
        refine xi_aload_n (pc' := 130) rfl rfl rfl ?_
        refine xr_getp (pc' := 133) rfl rfl (by decide) rfl rfl rfl ?_
        refine xi_iload_n (pc' := 134) rfl rfl rfl ?_
        refine xr_ialdv (v := nI (2)) (j := m) (pc' := 135) rfl rfl (by decide) (by first | rfl | (simp only [ix_add, ix_mul, ix_pred]; done) | (simp only [ix_add, ix_mul, ix_pred, *]; done)) (by omega) (by decide) (by simp only [wI_fr, says_fr, put_fr, takes_fr, hears_fr, dat_fr, dw_fr, ans_fr, eff_fr, tell_fr, ne_eq, Nat.reduceEqDiff, not_false_eq_true, hx]) rfl ?_
        refine xi_icmpt (pc' := 201) rfl rfl (by decide) ?_
        refine xi_iincv (y := nI 4) (pc' := 204) rfl rfl (by decide) (st1_7 rfl) rfl ?_
        refine xi_goto (pc' := 116) rfl rfl ?_
        refine xi_iload (pc' := 118) rfl rfl rfl ?_
        refine xi_bipush (pc' := 120) rfl (by decide) rfl ?_
        refine xi_icmpf (pc' := 123) (tg := 207) rfl rfl (by decide) rfl ?_
        refine xi_iload_n (pc' := 124) rfl rfl rfl ?_
        refine xi_iff (pc' := 127) (tg := 138) rfl rfl (by decide) rfl ?_
        refine xi_iload (pc' := 129) rfl rfl rfl ?_
        refine xi_aload_n (pc' := 130) rfl rfl rfl ?_
        refine xr_getp (pc' := 133) rfl rfl (by decide) rfl rfl rfl ?_
        refine xi_iload_n (pc' := 134) rfl rfl rfl ?_
        refine xr_ialdv (v := nI (2)) (j := m) (pc' := 135) rfl rfl (by decide) (by first | rfl | (simp only [ix_add, ix_mul, ix_pred]; done) | (simp only [ix_add, ix_mul, ix_pred, *]; done)) (by omega) (by decide) (by simp only [wI_fr, says_fr, put_fr, takes_fr, hears_fr, dat_fr, dw_fr, ans_fr, eff_fr, tell_fr, ne_eq, Nat.reduceEqDiff, not_false_eq_true, hx]) rfl ?_
        refine xi_icmpt (pc' := 201) rfl rfl (by decide) ?_
        refine xi_iincv (y := nI 5) (pc' := 204) rfl rfl (by decide) (st1_7 rfl) rfl ?_
        refine xi_goto (pc' := 116) rfl rfl ?_
        refine xi_iload (pc' := 118) rfl rfl rfl ?_
        refine xi_bipush (pc' := 120) rfl (by decide) rfl ?_
        refine xi_icmpf (pc' := 123) (tg := 207) rfl rfl (by decide) rfl ?_
        refine xi_iload_n (pc' := 124) rfl rfl rfl ?_
        refine xi_iff (pc' := 127) (tg := 138) rfl rfl (by decide) rfl ?_
        refine xi_iload (pc' := 129) rfl rfl rfl ?_
        refine xi_aload_n (pc' := 130) rfl rfl rfl ?_
        refine xr_getp (pc' := 133) rfl rfl (by decide) rfl rfl rfl ?_
        refine xi_iload_n (pc' := 134) rfl rfl rfl ?_
        refine xr_ialdv (v := nI (2)) (j := m) (pc' := 135) rfl rfl (by decide) (by first | rfl | (simp only [ix_add, ix_mul, ix_pred]; done) | (simp only [ix_add, ix_mul, ix_pred, *]; done)) (by omega) (by decide) (by simp only [wI_fr, says_fr, put_fr, takes_fr, hears_fr, dat_fr, dw_fr, ans_fr, eff_fr, tell_fr, ne_eq, Nat.reduceEqDiff, not_false_eq_true, hx]) rfl ?_
        refine xi_icmpt (pc' := 201) rfl rfl (by decide) ?_
        refine xi_iincv (y := nI 6) (pc' := 204) rfl rfl (by decide) (st1_7 rfl) rfl ?_
        refine xi_goto (pc' := 116) rfl rfl ?_
        refine xi_iload (pc' := 118) rfl rfl rfl ?_
        refine xi_bipush (pc' := 120) rfl (by decide) rfl ?_
        refine xi_icmpt (pc' := 207) rfl rfl (by decide) ?_
        refine xi_iload (pc' := 209) rfl rfl rfl ?_
        refine xi_iff (pc' := 212) (tg := 216) rfl rfl (by decide) rfl ?_
        refine xi_iload_n (pc' := 213) rfl rfl rfl ?_
        refine xi_ift (pc' := 220) rfl rfl (by decide) ?_
        refine xi_iconst (pc' := 221) rfl rfl ?_
        refine xx_zreturn rfl rfl (by decide) ?_
        simp only [ex_P, Classical.not_not, ↓reduceIte, Nat.add_zero, or_true, true_or, not_true_eq_false, not_false_eq_true, or_false, false_or, wI_get, false_and, true_and, and_true, and_false, and_self, Nat.reduceEqDiff, Nat.succ_ne_zero, reduceCtorEq, nI_lit, nI_lit0, Nat.reduceLT] at *
        first | (simp only [r_give, r_g1, r_g2, r_g3, r_g4, *, ↓reduceIte, Nat.add_zero, or_true, true_or, not_true_eq_false, not_false_eq_true, or_false, false_or, wI_get, false_and, true_and, and_true, and_false, and_self, Nat.reduceEqDiff, Nat.succ_ne_zero, reduceCtorEq, nI_lit, nI_lit0, Nat.reduceLT]; done) | (exfalso; simp_all only [↓reduceIte, Nat.add_zero, or_true, true_or, not_true_eq_false, not_false_eq_true, or_false, false_or, wI_get, false_and, true_and, and_true, and_false, and_self, Nat.reduceEqDiff, Nat.succ_ne_zero, reduceCtorEq, nI_lit, nI_lit0, Nat.reduceLT]; done)
      · refine xi_iconst (pc' := 195) rfl rfl ?_
        refine xi_goto (pc' := 199) rfl rfl ?_
        refine xi_istore (pc' := 201) rfl (st1_6 rfl) rfl ?_
        refine xi_iincv (y := nI 3) (pc' := 204) rfl rfl (by decide) (st1_7 rfl) rfl ?_
        refine xi_goto (pc' := 116) rfl rfl ?_
        refine xi_iload (pc' := 118) rfl rfl rfl ?_
        refine xi_bipush (pc' := 120) rfl (by decide) rfl ?_
        refine xi_icmpf (pc' := 123) (tg := 207) rfl rfl (by decide) rfl ?_
        refine xi_iload_n (pc' := 124) rfl rfl rfl ?_
        refine xi_iff (pc' := 127) (tg := 138) rfl rfl (by decide) rfl ?_
        refine xi_iload (pc' := 129) rfl rfl rfl ?_
        refine xi_aload_n (pc' := 130) rfl rfl rfl ?_
        refine xr_getp (pc' := 133) rfl rfl (by decide) rfl rfl rfl ?_
        refine xi_iload_n (pc' := 134) rfl rfl rfl ?_
        refine xr_ialdv (v := nI (2)) (j := m) (pc' := 135) rfl rfl (by decide) (by first | rfl | (simp only [ix_add, ix_mul, ix_pred]; done) | (simp only [ix_add, ix_mul, ix_pred, *]; done)) (by omega) (by decide) (by simp only [wI_fr, says_fr, put_fr, takes_fr, hears_fr, dat_fr, dw_fr, ans_fr, eff_fr, tell_fr, ne_eq, Nat.reduceEqDiff, not_false_eq_true, hx]) rfl ?_
        refine xi_icmpt (pc' := 201) rfl rfl (by decide) ?_
        refine xi_iincv (y := nI 4) (pc' := 204) rfl rfl (by decide) (st1_7 rfl) rfl ?_
        refine xi_goto (pc' := 116) rfl rfl ?_
        refine xi_iload (pc' := 118) rfl rfl rfl ?_
        refine xi_bipush (pc' := 120) rfl (by decide) rfl ?_
        refine xi_icmpf (pc' := 123) (tg := 207) rfl rfl (by decide) rfl ?_
        refine xi_iload_n (pc' := 124) rfl rfl rfl ?_
        refine xi_iff (pc' := 127) (tg := 138) rfl rfl (by decide) rfl ?_
        refine xi_iload (pc' := 129) rfl rfl rfl ?_
        refine xi_aload_n (pc' := 130) rfl rfl rfl ?_
        refine xr_getp (pc' := 133) rfl rfl (by decide) rfl rfl rfl ?_
        refine xi_iload_n (pc' := 134) rfl rfl rfl ?_
        refine xr_ialdv (v := nI (2)) (j := m) (pc' := 135) rfl rfl (by decide) (by first | rfl | (simp only [ix_add, ix_mul, ix_pred]; done) | (simp only [ix_add, ix_mul, ix_pred, *]; done)) (by omega) (by decide) (by simp only [wI_fr, says_fr, put_fr, takes_fr, hears_fr, dat_fr, dw_fr, ans_fr, eff_fr, tell_fr, ne_eq, Nat.reduceEqDiff, not_false_eq_true, hx]) rfl ?_
        refine xi_icmpt (pc' := 201) rfl rfl (by decide) ?_
        refine xi_iincv (y := nI 5) (pc' := 204) rfl rfl (by decide) (st1_7 rfl) rfl ?_
        refine xi_goto (pc' := 116) rfl rfl ?_
        refine xi_iload (pc' := 118) rfl rfl rfl ?_
        refine xi_bipush (pc' := 120) rfl (by decide) rfl ?_
        refine xi_icmpf (pc' := 123) (tg := 207) rfl rfl (by decide) rfl ?_
        refine xi_iload_n (pc' := 124) rfl rfl rfl ?_
        refine xi_iff (pc' := 127) (tg := 138) rfl rfl (by decide) rfl ?_
        refine xi_iload (pc' := 129) rfl rfl rfl ?_
        refine xi_aload_n (pc' := 130) rfl rfl rfl ?_
        refine xr_getp (pc' := 133) rfl rfl (by decide) rfl rfl rfl ?_
        refine xi_iload_n (pc' := 134) rfl rfl rfl ?_
        refine xr_ialdv (v := nI (2)) (j := m) (pc' := 135) rfl rfl (by decide) (by first | rfl | (simp only [ix_add, ix_mul, ix_pred]; done) | (simp only [ix_add, ix_mul, ix_pred, *]; done)) (by omega) (by decide) (by simp only [wI_fr, says_fr, put_fr, takes_fr, hears_fr, dat_fr, dw_fr, ans_fr, eff_fr, tell_fr, ne_eq, Nat.reduceEqDiff, not_false_eq_true, hx]) rfl ?_
        refine xi_icmpt (pc' := 201) rfl rfl (by decide) ?_
        refine xi_iincv (y := nI 6) (pc' := 204) rfl rfl (by decide) (st1_7 rfl) rfl ?_
        refine xi_goto (pc' := 116) rfl rfl ?_
        refine xi_iload (pc' := 118) rfl rfl rfl ?_
        refine xi_bipush (pc' := 120) rfl (by decide) rfl ?_
        refine xi_icmpt (pc' := 207) rfl rfl (by decide) ?_
        refine xi_iload (pc' := 209) rfl rfl rfl ?_
        refine xi_ift (pc' := 216) rfl rfl (by decide) ?_
        refine xi_iconst (pc' := 217) rfl rfl ?_
        refine xi_goto (pc' := 221) rfl rfl ?_
        refine xx_zreturn rfl rfl (by decide) ?_
        simp only [ex_P, Classical.not_not, ↓reduceIte, Nat.add_zero, or_true, true_or, not_true_eq_false, not_false_eq_true, or_false, false_or, wI_get, false_and, true_and, and_true, and_false, and_self, Nat.reduceEqDiff, Nat.succ_ne_zero, reduceCtorEq, nI_lit, nI_lit0, Nat.reduceLT] at *
        first | (simp only [r_give, r_g1, r_g2, r_g3, r_g4, *, ↓reduceIte, Nat.add_zero, or_true, true_or, not_true_eq_false, not_false_eq_true, or_false, false_or, wI_get, false_and, true_and, and_true, and_false, and_self, Nat.reduceEqDiff, Nat.succ_ne_zero, reduceCtorEq, nI_lit, nI_lit0, Nat.reduceLT]; done) | (exfalso; simp_all only [↓reduceIte, Nat.add_zero, or_true, true_or, not_true_eq_false, not_false_eq_true, or_false, false_or, wI_get, false_and, true_and, and_true, and_false, and_self, Nat.reduceEqDiff, Nat.succ_ne_zero, reduceCtorEq, nI_lit, nI_lit0, Nat.reduceLT]; done)
theorem r_gives_0_3 {L : Nat} {xs : Nat → Int32} {D n : Nat} {I J : ex_Mem} {m s nn b N : Nat} (hk : J 69 m = nI 0) (hx : J 70 m = nI 3) (hm : m < 8) (hb : b < 2) (hs : s < 3) (h1 : 1 ≤ nn) (h4 : nn ≤ 4) (hsb : J 72 m = nI (s + 1)) (hn : J 73 m = nI nn) (hh : hwB N J) (hN : N + 8 < 2 ^ 31) (hg : gdB 0 J) : ri L xs (D + 3) 119 [.ref 52, .int (nI m), .int (nI b)] (mkH n I J) ((r_give J m 3 s nn b).1) (mkH n I (r_give J m 3 s nn b).2) := by
  show xx cb_G _ _ _ 119 0 [.ref 52, .int (nI m), .int (nI b), ex_no, ex_no, ex_no, ex_no, ex_no, ex_no] [] _ _
  refine xi_aload_n (pc' := 1) rfl rfl rfl ?_
  refine xr_getp (pc' := 4) rfl rfl (by decide) rfl rfl rfl ?_
  refine xi_iload_n (pc' := 5) rfl rfl rfl ?_
  refine xr_ialdv (v := nI (0)) (j := m) (pc' := 6) rfl rfl (by decide) (by first | rfl | (simp only [ix_add, ix_mul, ix_pred]; done) | (simp only [ix_add, ix_mul, ix_pred, *]; done)) (by omega) (by decide) (hk) rfl ?_
  refine xi_iconst (pc' := 7) rfl rfl ?_
  refine xi_icmpt (pc' := 14) rfl rfl (by decide) ?_
  refine xi_iconst (pc' := 15) rfl rfl ?_
  refine xi_istore_n (pc' := 16) rfl (st1_3 rfl) rfl ?_
  refine xi_iload_n (pc' := 17) rfl rfl rfl ?_
  refine xi_ift (pc' := 25) rfl rfl (by decide) ?_
  refine xi_aload_n (pc' := 26) rfl rfl rfl ?_
  refine xr_getp (pc' := 29) rfl rfl (by decide) rfl rfl rfl ?_
  refine xi_iload_n (pc' := 30) rfl rfl rfl ?_
  refine xr_ialdv (v := nI (3)) (j := m) (pc' := 31) rfl rfl (by decide) (by first | rfl | (simp only [ix_add, ix_mul, ix_pred]; done) | (simp only [ix_add, ix_mul, ix_pred, *]; done)) (by omega) (by decide) (hx) rfl ?_
  refine xi_iconst (pc' := 32) rfl rfl ?_
  refine xi_aload_n (pc' := 33) rfl rfl rfl ?_
  refine xr_getp (pc' := 36) rfl rfl (by decide) rfl rfl rfl ?_
  refine xi_iload_n (pc' := 37) rfl rfl rfl ?_
  refine xr_ialdv (v := nI (s + 1)) (j := m) (pc' := 38) rfl rfl (by decide) (by first | rfl | (simp only [ix_add, ix_mul, ix_pred]; done) | (simp only [ix_add, ix_mul, ix_pred, *]; done)) (by omega) (by decide) (hsb) rfl ?_
  refine xi_aload_n (pc' := 39) rfl rfl rfl ?_
  refine xr_getp (pc' := 42) rfl rfl (by decide) rfl rfl rfl ?_
  refine xi_iload_n (pc' := 43) rfl rfl rfl ?_
  refine xr_ialdv (v := nI (nn)) (j := m) (pc' := 44) rfl rfl (by decide) (by first | rfl | (simp only [ix_add, ix_mul, ix_pred]; done) | (simp only [ix_add, ix_mul, ix_pred, *]; done)) (by omega) (by decide) (hn) rfl ?_
  refine xx_callSi (pc' := 47) rfl rfl (by decide) rfl (Nat.le_of_ble_eq_true rfl) rfl rfl (r_commandW) ?_
  refine xi_istore (pc' := 49) rfl (st1_4 rfl) rfl ?_
  refine xi_aload_n (pc' := 50) rfl rfl rfl ?_
  refine xi_iload_n (pc' := 51) rfl rfl rfl ?_
  refine xi_iconst (pc' := 52) rfl rfl ?_
  refine xi_iload (pc' := 54) rfl rfl rfl ?_
  refine xx_callVi (pc' := 57) rfl rfl (by decide) rfl rfl (by show _ < 81 + 2 * _; omega) (Nat.le_of_ble_eq_true rfl) rfl rfl (r_put0 hb hh (by omega)) ?_
  refine xi_istore (pc' := 59) rfl (st1_5 rfl) rfl ?_
  refine xi_iconst (pc' := 60) rfl rfl ?_
  refine xi_istore (pc' := 62) rfl (st1_6 rfl) rfl ?_
  refine r_dat_loop (D := D) (N := N + 1) (g := 0) (fa := nI 0) hm h4 hb (hwB_put hh (by omega)) (by omega) (put_gdB hg) (by omega) ((put_fr (by decide) (by decide) (by decide) (by decide)).trans hn) (fun v7 v8 h7 h8 => ?_) nn 0 (by omega) _ _ rfl rfl
  refine xi_iconst (pc' := 111) rfl rfl ?_
  refine xi_istore (pc' := 113) rfl (st1_6 rfl) rfl ?_
  refine xi_iconst (pc' := 114) rfl rfl ?_
  refine xi_istore (pc' := 116) rfl (st1_7 rfl) rfl ?_
  refine xi_iload (pc' := 118) rfl rfl rfl ?_
  refine xi_bipush (pc' := 120) rfl (by decide) rfl ?_
  refine xi_icmpf (pc' := 123) (tg := 207) rfl rfl (by decide) rfl ?_
  refine xi_iload_n (pc' := 124) rfl rfl rfl ?_
  refine xi_iff (pc' := 127) (tg := 138) rfl rfl (by decide) rfl ?_
  refine xi_iload (pc' := 129) rfl rfl rfl ?_
  refine xi_aload_n (pc' := 130) rfl rfl rfl ?_
  refine xr_getp (pc' := 133) rfl rfl (by decide) rfl rfl rfl ?_
  refine xi_iload_n (pc' := 134) rfl rfl rfl ?_
  refine xr_ialdv (v := nI (3)) (j := m) (pc' := 135) rfl rfl (by decide) (by first | rfl | (simp only [ix_add, ix_mul, ix_pred]; done) | (simp only [ix_add, ix_mul, ix_pred, *]; done)) (by omega) (by decide) (by simp only [wI_fr, says_fr, put_fr, takes_fr, hears_fr, dat_fr, dw_fr, ans_fr, eff_fr, tell_fr, ne_eq, Nat.reduceEqDiff, not_false_eq_true, hx]) rfl ?_
  refine xi_icmpt (pc' := 201) rfl rfl (by decide) ?_
  refine xi_iincv (y := nI 1) (pc' := 204) rfl rfl (by decide) (st1_7 rfl) rfl ?_
  refine xi_goto (pc' := 116) rfl rfl ?_
  refine xi_iload (pc' := 118) rfl rfl rfl ?_
  refine xi_bipush (pc' := 120) rfl (by decide) rfl ?_
  refine xi_icmpf (pc' := 123) (tg := 207) rfl rfl (by decide) rfl ?_
  refine xi_iload_n (pc' := 124) rfl rfl rfl ?_
  refine xi_iff (pc' := 127) (tg := 138) rfl rfl (by decide) rfl ?_
  refine xi_iload (pc' := 129) rfl rfl rfl ?_
  refine xi_aload_n (pc' := 130) rfl rfl rfl ?_
  refine xr_getp (pc' := 133) rfl rfl (by decide) rfl rfl rfl ?_
  refine xi_iload_n (pc' := 134) rfl rfl rfl ?_
  refine xr_ialdv (v := nI (3)) (j := m) (pc' := 135) rfl rfl (by decide) (by first | rfl | (simp only [ix_add, ix_mul, ix_pred]; done) | (simp only [ix_add, ix_mul, ix_pred, *]; done)) (by omega) (by decide) (by simp only [wI_fr, says_fr, put_fr, takes_fr, hears_fr, dat_fr, dw_fr, ans_fr, eff_fr, tell_fr, ne_eq, Nat.reduceEqDiff, not_false_eq_true, hx]) rfl ?_
  refine xi_icmpt (pc' := 201) rfl rfl (by decide) ?_
  refine xi_iincv (y := nI 2) (pc' := 204) rfl rfl (by decide) (st1_7 rfl) rfl ?_
  refine xi_goto (pc' := 116) rfl rfl ?_
  refine xi_iload (pc' := 118) rfl rfl rfl ?_
  refine xi_bipush (pc' := 120) rfl (by decide) rfl ?_
  refine xi_icmpf (pc' := 123) (tg := 207) rfl rfl (by decide) rfl ?_
  refine xi_iload_n (pc' := 124) rfl rfl rfl ?_
  refine xi_iff (pc' := 127) (tg := 138) rfl rfl (by decide) rfl ?_
  refine xi_iload (pc' := 129) rfl rfl rfl ?_
  refine xi_aload_n (pc' := 130) rfl rfl rfl ?_
  refine xr_getp (pc' := 133) rfl rfl (by decide) rfl rfl rfl ?_
  refine xi_iload_n (pc' := 134) rfl rfl rfl ?_
  refine xr_ialdv (v := nI (3)) (j := m) (pc' := 135) rfl rfl (by decide) (by first | rfl | (simp only [ix_add, ix_mul, ix_pred]; done) | (simp only [ix_add, ix_mul, ix_pred, *]; done)) (by omega) (by decide) (by simp only [wI_fr, says_fr, put_fr, takes_fr, hears_fr, dat_fr, dw_fr, ans_fr, eff_fr, tell_fr, ne_eq, Nat.reduceEqDiff, not_false_eq_true, hx]) rfl ?_
  refine xi_icmpt (pc' := 201) rfl rfl (by decide) ?_
  refine xi_iincv (y := nI 3) (pc' := 204) rfl rfl (by decide) (st1_7 rfl) rfl ?_
  refine xi_goto (pc' := 116) rfl rfl ?_
  refine xi_iload (pc' := 118) rfl rfl rfl ?_
  refine xi_bipush (pc' := 120) rfl (by decide) rfl ?_
  refine xi_icmpf (pc' := 123) (tg := 207) rfl rfl (by decide) rfl ?_
  refine xi_iload_n (pc' := 124) rfl rfl rfl ?_
  refine xi_iff (pc' := 127) (tg := 138) rfl rfl (by decide) rfl ?_
  refine xi_iload (pc' := 129) rfl rfl rfl ?_
  refine xi_aload_n (pc' := 130) rfl rfl rfl ?_
  refine xr_getp (pc' := 133) rfl rfl (by decide) rfl rfl rfl ?_
  refine xi_iload_n (pc' := 134) rfl rfl rfl ?_
  refine xr_ialdv (v := nI (3)) (j := m) (pc' := 135) rfl rfl (by decide) (by first | rfl | (simp only [ix_add, ix_mul, ix_pred]; done) | (simp only [ix_add, ix_mul, ix_pred, *]; done)) (by omega) (by decide) (by simp only [wI_fr, says_fr, put_fr, takes_fr, hears_fr, dat_fr, dw_fr, ans_fr, eff_fr, tell_fr, ne_eq, Nat.reduceEqDiff, not_false_eq_true, hx]) rfl ?_
  refine xi_icmpf (pc' := 138) (tg := 201) rfl rfl (by decide) rfl ?_
  refine xi_aload_n (pc' := 139) rfl rfl rfl ?_
  refine xi_iload (pc' := 141) rfl rfl rfl ?_
  refine xi_iload (pc' := 143) rfl rfl rfl ?_
  refine xi_iload (pc' := 145) rfl rfl rfl ?_
  refine xi_iconst (pc' := 146) rfl rfl ?_
  refine xi_iconst (pc' := 147) rfl rfl ?_
  refine xx_callVi (pc' := 150) rfl rfl (by decide) rfl rfl (by show _ < 81 + 2 * _; omega) (Nat.le_of_ble_eq_true rfl) rfl rfl (r_hears_ok (t := 3) (by decide)) ?_
  refine xx_if (pc' := 153) (tg := 201) rfl rfl rfl (fun q150 => ?_) (fun q150 => ?_)
  · refine xi_iincv (y := nI 4) (pc' := 204) rfl rfl (by decide) (st1_7 rfl) rfl ?_
    refine xi_goto (pc' := 116) rfl rfl ?_
    refine xi_iload (pc' := 118) rfl rfl rfl ?_
    refine xi_bipush (pc' := 120) rfl (by decide) rfl ?_
    refine xi_icmpf (pc' := 123) (tg := 207) rfl rfl (by decide) rfl ?_
    refine xi_iload_n (pc' := 124) rfl rfl rfl ?_
    refine xi_iff (pc' := 127) (tg := 138) rfl rfl (by decide) rfl ?_
    refine xi_iload (pc' := 129) rfl rfl rfl ?_
    refine xi_aload_n (pc' := 130) rfl rfl rfl ?_
    refine xr_getp (pc' := 133) rfl rfl (by decide) rfl rfl rfl ?_
    refine xi_iload_n (pc' := 134) rfl rfl rfl ?_
    refine xr_ialdv (v := nI (3)) (j := m) (pc' := 135) rfl rfl (by decide) (by first | rfl | (simp only [ix_add, ix_mul, ix_pred]; done) | (simp only [ix_add, ix_mul, ix_pred, *]; done)) (by omega) (by decide) (by simp only [wI_fr, says_fr, put_fr, takes_fr, hears_fr, dat_fr, dw_fr, ans_fr, eff_fr, tell_fr, ne_eq, Nat.reduceEqDiff, not_false_eq_true, hx]) rfl ?_
    refine xi_icmpt (pc' := 201) rfl rfl (by decide) ?_
    refine xi_iincv (y := nI 5) (pc' := 204) rfl rfl (by decide) (st1_7 rfl) rfl ?_
    refine xi_goto (pc' := 116) rfl rfl ?_
    refine xi_iload (pc' := 118) rfl rfl rfl ?_
    refine xi_bipush (pc' := 120) rfl (by decide) rfl ?_
    refine xi_icmpf (pc' := 123) (tg := 207) rfl rfl (by decide) rfl ?_
    refine xi_iload_n (pc' := 124) rfl rfl rfl ?_
    refine xi_iff (pc' := 127) (tg := 138) rfl rfl (by decide) rfl ?_
    refine xi_iload (pc' := 129) rfl rfl rfl ?_
    refine xi_aload_n (pc' := 130) rfl rfl rfl ?_
    refine xr_getp (pc' := 133) rfl rfl (by decide) rfl rfl rfl ?_
    refine xi_iload_n (pc' := 134) rfl rfl rfl ?_
    refine xr_ialdv (v := nI (3)) (j := m) (pc' := 135) rfl rfl (by decide) (by first | rfl | (simp only [ix_add, ix_mul, ix_pred]; done) | (simp only [ix_add, ix_mul, ix_pred, *]; done)) (by omega) (by decide) (by simp only [wI_fr, says_fr, put_fr, takes_fr, hears_fr, dat_fr, dw_fr, ans_fr, eff_fr, tell_fr, ne_eq, Nat.reduceEqDiff, not_false_eq_true, hx]) rfl ?_
    refine xi_icmpt (pc' := 201) rfl rfl (by decide) ?_
    refine xi_iincv (y := nI 6) (pc' := 204) rfl rfl (by decide) (st1_7 rfl) rfl ?_
    refine xi_goto (pc' := 116) rfl rfl ?_
    refine xi_iload (pc' := 118) rfl rfl rfl ?_
    refine xi_bipush (pc' := 120) rfl (by decide) rfl ?_
    refine xi_icmpt (pc' := 207) rfl rfl (by decide) ?_
    refine xi_iload (pc' := 209) rfl rfl rfl ?_
    refine xi_iff (pc' := 212) (tg := 216) rfl rfl (by decide) rfl ?_
    refine xi_iload_n (pc' := 213) rfl rfl rfl ?_
    refine xi_ift (pc' := 220) rfl rfl (by decide) ?_
    refine xi_iconst (pc' := 221) rfl rfl ?_
    refine xx_zreturn rfl rfl (by decide) ?_
    simp only [ex_P, Classical.not_not, ↓reduceIte, Nat.add_zero, or_true, true_or, not_true_eq_false, not_false_eq_true, or_false, false_or, wI_get, false_and, true_and, and_true, and_false, and_self, Nat.reduceEqDiff, Nat.succ_ne_zero, reduceCtorEq, nI_lit, nI_lit0, Nat.reduceLT] at *
    first | (simp only [r_give, r_g1, r_g2, r_g3, r_g4, *, ↓reduceIte, Nat.add_zero, or_true, true_or, not_true_eq_false, not_false_eq_true, or_false, false_or, wI_get, false_and, true_and, and_true, and_false, and_self, Nat.reduceEqDiff, Nat.succ_ne_zero, reduceCtorEq, nI_lit, nI_lit0, Nat.reduceLT]; done) | (exfalso; simp_all only [↓reduceIte, Nat.add_zero, or_true, true_or, not_true_eq_false, not_false_eq_true, or_false, false_or, wI_get, false_and, true_and, and_true, and_false, and_self, Nat.reduceEqDiff, Nat.succ_ne_zero, reduceCtorEq, nI_lit, nI_lit0, Nat.reduceLT]; done)
  · refine xi_aload_n (pc' := 154) rfl rfl rfl ?_
    refine xi_iload (pc' := 156) rfl rfl rfl ?_
    refine xi_aload_n (pc' := 157) rfl rfl rfl ?_
    refine xr_getp (pc' := 160) rfl rfl (by decide) rfl rfl rfl ?_
    refine xi_iload_n (pc' := 161) rfl rfl rfl ?_
    refine xr_ialdv (v := nI (s + 1)) (j := m) (pc' := 162) rfl rfl (by decide) (by first | rfl | (simp only [ix_add, ix_mul, ix_pred]; done) | (simp only [ix_add, ix_mul, ix_pred, *]; done)) (by omega) (by decide) (by simp only [wI_fr, says_fr, put_fr, takes_fr, hears_fr, dat_fr, dw_fr, ans_fr, eff_fr, tell_fr, ne_eq, Nat.reduceEqDiff, not_false_eq_true, hsb]) rfl ?_
    refine xi_aload_n (pc' := 163) rfl rfl rfl ?_
    refine xr_getp (pc' := 166) rfl rfl (by decide) rfl rfl rfl ?_
    refine xi_iload_n (pc' := 167) rfl rfl rfl ?_
    refine xr_ialdv (v := nI (nn)) (j := m) (pc' := 168) rfl rfl (by decide) (by first | rfl | (simp only [ix_add, ix_mul, ix_pred]; done) | (simp only [ix_add, ix_mul, ix_pred, *]; done)) (by omega) (by decide) (by simp only [wI_fr, says_fr, put_fr, takes_fr, hears_fr, dat_fr, dw_fr, ans_fr, eff_fr, tell_fr, ne_eq, Nat.reduceEqDiff, not_false_eq_true, hn]) rfl ?_
    refine xi_iload_n (pc' := 169) rfl rfl rfl ?_
    refine xx_callVi (pc' := 172) rfl rfl (by decide) rfl rfl (by show _ < 81 + 2 * _; omega) (Nat.le_of_ble_eq_true rfl) rfl rfl (r_takes_ok (t := 3) (by decide) hs h1 h4 (by decide)) ?_
    refine xi_istore (pc' := 174) rfl (st1_8 rfl) rfl ?_
    refine xi_iload (pc' := 176) rfl rfl rfl ?_
    refine xx_if (pc' := 179) (tg := 201) rfl rfl rfl (fun q176 => ?_) (fun q176 => ?_)
    · refine xi_iincv (y := nI 4) (pc' := 204) rfl rfl (by decide) (st1_7 rfl) rfl ?_
      refine xi_goto (pc' := 116) rfl rfl ?_
      refine xi_iload (pc' := 118) rfl rfl rfl ?_
      refine xi_bipush (pc' := 120) rfl (by decide) rfl ?_
      refine xi_icmpf (pc' := 123) (tg := 207) rfl rfl (by decide) rfl ?_
      refine xi_iload_n (pc' := 124) rfl rfl rfl ?_
      refine xi_iff (pc' := 127) (tg := 138) rfl rfl (by decide) rfl ?_
      refine xi_iload (pc' := 129) rfl rfl rfl ?_
      refine xi_aload_n (pc' := 130) rfl rfl rfl ?_
      refine xr_getp (pc' := 133) rfl rfl (by decide) rfl rfl rfl ?_
      refine xi_iload_n (pc' := 134) rfl rfl rfl ?_
      refine xr_ialdv (v := nI (3)) (j := m) (pc' := 135) rfl rfl (by decide) (by first | rfl | (simp only [ix_add, ix_mul, ix_pred]; done) | (simp only [ix_add, ix_mul, ix_pred, *]; done)) (by omega) (by decide) (by simp only [wI_fr, says_fr, put_fr, takes_fr, hears_fr, dat_fr, dw_fr, ans_fr, eff_fr, tell_fr, ne_eq, Nat.reduceEqDiff, not_false_eq_true, hx]) rfl ?_
      refine xi_icmpt (pc' := 201) rfl rfl (by decide) ?_
      refine xi_iincv (y := nI 5) (pc' := 204) rfl rfl (by decide) (st1_7 rfl) rfl ?_
      refine xi_goto (pc' := 116) rfl rfl ?_
      refine xi_iload (pc' := 118) rfl rfl rfl ?_
      refine xi_bipush (pc' := 120) rfl (by decide) rfl ?_
      refine xi_icmpf (pc' := 123) (tg := 207) rfl rfl (by decide) rfl ?_
      refine xi_iload_n (pc' := 124) rfl rfl rfl ?_
      refine xi_iff (pc' := 127) (tg := 138) rfl rfl (by decide) rfl ?_
      refine xi_iload (pc' := 129) rfl rfl rfl ?_
      refine xi_aload_n (pc' := 130) rfl rfl rfl ?_
      refine xr_getp (pc' := 133) rfl rfl (by decide) rfl rfl rfl ?_
      refine xi_iload_n (pc' := 134) rfl rfl rfl ?_
      refine xr_ialdv (v := nI (3)) (j := m) (pc' := 135) rfl rfl (by decide) (by first | rfl | (simp only [ix_add, ix_mul, ix_pred]; done) | (simp only [ix_add, ix_mul, ix_pred, *]; done)) (by omega) (by decide) (by simp only [wI_fr, says_fr, put_fr, takes_fr, hears_fr, dat_fr, dw_fr, ans_fr, eff_fr, tell_fr, ne_eq, Nat.reduceEqDiff, not_false_eq_true, hx]) rfl ?_
      refine xi_icmpt (pc' := 201) rfl rfl (by decide) ?_
      refine xi_iincv (y := nI 6) (pc' := 204) rfl rfl (by decide) (st1_7 rfl) rfl ?_
      refine xi_goto (pc' := 116) rfl rfl ?_
      refine xi_iload (pc' := 118) rfl rfl rfl ?_
      refine xi_bipush (pc' := 120) rfl (by decide) rfl ?_
      refine xi_icmpt (pc' := 207) rfl rfl (by decide) ?_
      refine xi_iload (pc' := 209) rfl rfl rfl ?_
      refine xi_iff (pc' := 212) (tg := 216) rfl rfl (by decide) rfl ?_
      refine xi_iload_n (pc' := 213) rfl rfl rfl ?_
      refine xi_ift (pc' := 220) rfl rfl (by decide) ?_
      refine xi_iconst (pc' := 221) rfl rfl ?_
      refine xx_zreturn rfl rfl (by decide) ?_
      simp only [ex_P, Classical.not_not, ↓reduceIte, Nat.add_zero, or_true, true_or, not_true_eq_false, not_false_eq_true, or_false, false_or, wI_get, false_and, true_and, and_true, and_false, and_self, Nat.reduceEqDiff, Nat.succ_ne_zero, reduceCtorEq, nI_lit, nI_lit0, Nat.reduceLT] at *
      first | (simp only [r_give, r_g1, r_g2, r_g3, r_g4, *, ↓reduceIte, Nat.add_zero, or_true, true_or, not_true_eq_false, not_false_eq_true, or_false, false_or, wI_get, false_and, true_and, and_true, and_false, and_self, Nat.reduceEqDiff, Nat.succ_ne_zero, reduceCtorEq, nI_lit, nI_lit0, Nat.reduceLT]; done) | (exfalso; simp_all only [↓reduceIte, Nat.add_zero, or_true, true_or, not_true_eq_false, not_false_eq_true, or_false, false_or, wI_get, false_and, true_and, and_true, and_false, and_self, Nat.reduceEqDiff, Nat.succ_ne_zero, reduceCtorEq, nI_lit, nI_lit0, Nat.reduceLT]; done)
    · refine xi_iload_n (pc' := 180) rfl rfl rfl ?_
      refine xi_iff (pc' := 183) (tg := 201) rfl rfl (by decide) rfl ?_
      refine xi_aload_n (pc' := 184) rfl rfl rfl ?_
      refine xi_iload (pc' := 186) rfl rfl rfl ?_
      refine xi_iload_n (pc' := 187) rfl rfl rfl ?_
      refine xx_callVi (pc' := 190) rfl rfl (by decide) rfl rfl (by show _ < 81 + 2 * _; omega) (Nat.le_of_ble_eq_true rfl) rfl rfl (r_saysStatus (t := 3) (by decide) hb (g3_hw (x := 3) hh (by omega)) (by omega)) ?_
      refine xi_iconst (pc' := 191) rfl rfl ?_
      refine xx_icmp (pc' := 194) (tg := 198) rfl rfl rfl (fun q191 => ?_) (fun q191 => ?_)
      · refine xi_iconst (pc' := 199) rfl rfl ?_
        refine xi_istore (pc' := 201) rfl (st1_6 rfl) rfl ?_
        refine xi_iincv (y := nI 4) (pc' := 204) rfl rfl (by decide) (st1_7 rfl) rfl ?_
        refine xi_goto (pc' := 116) rfl rfl ?_
        refine xi_iload (pc' := 118) rfl rfl rfl ?_
        refine xi_bipush (pc' := 120) rfl (by decide) rfl ?_
        refine xi_icmpf (pc' := 123) (tg := 207) rfl rfl (by decide) rfl ?_
        refine xi_iload_n (pc' := 124) rfl rfl rfl ?_
        refine xi_iff (pc' := 127) (tg := 138) rfl rfl (by decide) rfl ?_
        refine xi_iload (pc' := 129) rfl rfl rfl ?_
        refine xi_aload_n (pc' := 130) rfl rfl rfl ?_
        refine xr_getp (pc' := 133) rfl rfl (by decide) rfl rfl rfl ?_
        refine xi_iload_n (pc' := 134) rfl rfl rfl ?_
        refine xr_ialdv (v := nI (3)) (j := m) (pc' := 135) rfl rfl (by decide) (by first | rfl | (simp only [ix_add, ix_mul, ix_pred]; done) | (simp only [ix_add, ix_mul, ix_pred, *]; done)) (by omega) (by decide) (by simp only [wI_fr, says_fr, put_fr, takes_fr, hears_fr, dat_fr, dw_fr, ans_fr, eff_fr, tell_fr, ne_eq, Nat.reduceEqDiff, not_false_eq_true, hx]) rfl ?_
        refine xi_icmpt (pc' := 201) rfl rfl (by decide) ?_
        refine xi_iincv (y := nI 5) (pc' := 204) rfl rfl (by decide) (st1_7 rfl) rfl ?_
        refine xi_goto (pc' := 116) rfl rfl ?_
        refine xi_iload (pc' := 118) rfl rfl rfl ?_
        refine xi_bipush (pc' := 120) rfl (by decide) rfl ?_
        refine xi_icmpf (pc' := 123) (tg := 207) rfl rfl (by decide) rfl ?_
        refine xi_iload_n (pc' := 124) rfl rfl rfl ?_
        refine xi_iff (pc' := 127) (tg := 138) rfl rfl (by decide) rfl ?_
        refine xi_iload (pc' := 129) rfl rfl rfl ?_
        refine xi_aload_n (pc' := 130) rfl rfl rfl ?_
        refine xr_getp (pc' := 133) rfl rfl (by decide) rfl rfl rfl ?_
        refine xi_iload_n (pc' := 134) rfl rfl rfl ?_
        refine xr_ialdv (v := nI (3)) (j := m) (pc' := 135) rfl rfl (by decide) (by first | rfl | (simp only [ix_add, ix_mul, ix_pred]; done) | (simp only [ix_add, ix_mul, ix_pred, *]; done)) (by omega) (by decide) (by simp only [wI_fr, says_fr, put_fr, takes_fr, hears_fr, dat_fr, dw_fr, ans_fr, eff_fr, tell_fr, ne_eq, Nat.reduceEqDiff, not_false_eq_true, hx]) rfl ?_
        refine xi_icmpt (pc' := 201) rfl rfl (by decide) ?_
        refine xi_iincv (y := nI 6) (pc' := 204) rfl rfl (by decide) (st1_7 rfl) rfl ?_
        refine xi_goto (pc' := 116) rfl rfl ?_
        refine xi_iload (pc' := 118) rfl rfl rfl ?_
        refine xi_bipush (pc' := 120) rfl (by decide) rfl ?_
        refine xi_icmpt (pc' := 207) rfl rfl (by decide) ?_
        refine xi_iload (pc' := 209) rfl rfl rfl ?_
        refine xi_iff (pc' := 212) (tg := 216) rfl rfl (by decide) rfl ?_
        refine xi_iload_n (pc' := 213) rfl rfl rfl ?_
        refine xi_ift (pc' := 220) rfl rfl (by decide) ?_
        refine xi_iconst (pc' := 221) rfl rfl ?_
        refine xx_zreturn rfl rfl (by decide) ?_
        simp only [ex_P, Classical.not_not, ↓reduceIte, Nat.add_zero, or_true, true_or, not_true_eq_false, not_false_eq_true, or_false, false_or, wI_get, false_and, true_and, and_true, and_false, and_self, Nat.reduceEqDiff, Nat.succ_ne_zero, reduceCtorEq, nI_lit, nI_lit0, Nat.reduceLT] at *
        first | (simp only [r_give, r_g1, r_g2, r_g3, r_g4, *, ↓reduceIte, Nat.add_zero, or_true, true_or, not_true_eq_false, not_false_eq_true, or_false, false_or, wI_get, false_and, true_and, and_true, and_false, and_self, Nat.reduceEqDiff, Nat.succ_ne_zero, reduceCtorEq, nI_lit, nI_lit0, Nat.reduceLT]; done) | (exfalso; simp_all only [↓reduceIte, Nat.add_zero, or_true, true_or, not_true_eq_false, not_false_eq_true, or_false, false_or, wI_get, false_and, true_and, and_true, and_false, and_self, Nat.reduceEqDiff, Nat.succ_ne_zero, reduceCtorEq, nI_lit, nI_lit0, Nat.reduceLT]; done)
      · refine xi_iconst (pc' := 195) rfl rfl ?_
        refine xi_goto (pc' := 199) rfl rfl ?_
        refine xi_istore (pc' := 201) rfl (st1_6 rfl) rfl ?_
        refine xi_iincv (y := nI 4) (pc' := 204) rfl rfl (by decide) (st1_7 rfl) rfl ?_
        refine xi_goto (pc' := 116) rfl rfl ?_
        refine xi_iload (pc' := 118) rfl rfl rfl ?_
        refine xi_bipush (pc' := 120) rfl (by decide) rfl ?_
        refine xi_icmpf (pc' := 123) (tg := 207) rfl rfl (by decide) rfl ?_
        refine xi_iload_n (pc' := 124) rfl rfl rfl ?_
        refine xi_iff (pc' := 127) (tg := 138) rfl rfl (by decide) rfl ?_
        refine xi_iload (pc' := 129) rfl rfl rfl ?_
        refine xi_aload_n (pc' := 130) rfl rfl rfl ?_
        refine xr_getp (pc' := 133) rfl rfl (by decide) rfl rfl rfl ?_
        refine xi_iload_n (pc' := 134) rfl rfl rfl ?_
        refine xr_ialdv (v := nI (3)) (j := m) (pc' := 135) rfl rfl (by decide) (by first | rfl | (simp only [ix_add, ix_mul, ix_pred]; done) | (simp only [ix_add, ix_mul, ix_pred, *]; done)) (by omega) (by decide) (by simp only [wI_fr, says_fr, put_fr, takes_fr, hears_fr, dat_fr, dw_fr, ans_fr, eff_fr, tell_fr, ne_eq, Nat.reduceEqDiff, not_false_eq_true, hx]) rfl ?_
        refine xi_icmpt (pc' := 201) rfl rfl (by decide) ?_
        refine xi_iincv (y := nI 5) (pc' := 204) rfl rfl (by decide) (st1_7 rfl) rfl ?_
        refine xi_goto (pc' := 116) rfl rfl ?_
        refine xi_iload (pc' := 118) rfl rfl rfl ?_
        refine xi_bipush (pc' := 120) rfl (by decide) rfl ?_
        refine xi_icmpf (pc' := 123) (tg := 207) rfl rfl (by decide) rfl ?_
        refine xi_iload_n (pc' := 124) rfl rfl rfl ?_
        refine xi_iff (pc' := 127) (tg := 138) rfl rfl (by decide) rfl ?_
        refine xi_iload (pc' := 129) rfl rfl rfl ?_
        refine xi_aload_n (pc' := 130) rfl rfl rfl ?_
        refine xr_getp (pc' := 133) rfl rfl (by decide) rfl rfl rfl ?_
        refine xi_iload_n (pc' := 134) rfl rfl rfl ?_
        refine xr_ialdv (v := nI (3)) (j := m) (pc' := 135) rfl rfl (by decide) (by first | rfl | (simp only [ix_add, ix_mul, ix_pred]; done) | (simp only [ix_add, ix_mul, ix_pred, *]; done)) (by omega) (by decide) (by simp only [wI_fr, says_fr, put_fr, takes_fr, hears_fr, dat_fr, dw_fr, ans_fr, eff_fr, tell_fr, ne_eq, Nat.reduceEqDiff, not_false_eq_true, hx]) rfl ?_
        refine xi_icmpt (pc' := 201) rfl rfl (by decide) ?_
        refine xi_iincv (y := nI 6) (pc' := 204) rfl rfl (by decide) (st1_7 rfl) rfl ?_
        refine xi_goto (pc' := 116) rfl rfl ?_
        refine xi_iload (pc' := 118) rfl rfl rfl ?_
        refine xi_bipush (pc' := 120) rfl (by decide) rfl ?_
        refine xi_icmpt (pc' := 207) rfl rfl (by decide) ?_
        refine xi_iload (pc' := 209) rfl rfl rfl ?_
        refine xi_ift (pc' := 216) rfl rfl (by decide) ?_
        refine xi_iconst (pc' := 217) rfl rfl ?_
        refine xi_goto (pc' := 221) rfl rfl ?_
        refine xx_zreturn rfl rfl (by decide) ?_
        simp only [ex_P, Classical.not_not, ↓reduceIte, Nat.add_zero, or_true, true_or, not_true_eq_false, not_false_eq_true, or_false, false_or, wI_get, false_and, true_and, and_true, and_false, and_self, Nat.reduceEqDiff, Nat.succ_ne_zero, reduceCtorEq, nI_lit, nI_lit0, Nat.reduceLT] at *
        first | (simp only [r_give, r_g1, r_g2, r_g3, r_g4, *, ↓reduceIte, Nat.add_zero, or_true, true_or, not_true_eq_false, not_false_eq_true, or_false, false_or, wI_get, false_and, true_and, and_true, and_false, and_self, Nat.reduceEqDiff, Nat.succ_ne_zero, reduceCtorEq, nI_lit, nI_lit0, Nat.reduceLT]; done) | (exfalso; simp_all only [↓reduceIte, Nat.add_zero, or_true, true_or, not_true_eq_false, not_false_eq_true, or_false, false_or, wI_get, false_and, true_and, and_true, and_false, and_self, Nat.reduceEqDiff, Nat.succ_ne_zero, reduceCtorEq, nI_lit, nI_lit0, Nat.reduceLT]; done)
theorem r_gives_0_4 {L : Nat} {xs : Nat → Int32} {D n : Nat} {I J : ex_Mem} {m s nn b N : Nat} (hk : J 69 m = nI 0) (hx : J 70 m = nI 4) (hm : m < 8) (hb : b < 2) (hs : s < 3) (h1 : 1 ≤ nn) (h4 : nn ≤ 4) (hsb : J 72 m = nI (s + 1)) (hn : J 73 m = nI nn) (hh : hwB N J) (hN : N + 8 < 2 ^ 31) (hg : gdB 0 J) : ri L xs (D + 3) 119 [.ref 52, .int (nI m), .int (nI b)] (mkH n I J) ((r_give J m 4 s nn b).1) (mkH n I (r_give J m 4 s nn b).2) := by
  show xx cb_G _ _ _ 119 0 [.ref 52, .int (nI m), .int (nI b), ex_no, ex_no, ex_no, ex_no, ex_no, ex_no] [] _ _
  refine xi_aload_n (pc' := 1) rfl rfl rfl ?_
  refine xr_getp (pc' := 4) rfl rfl (by decide) rfl rfl rfl ?_
  refine xi_iload_n (pc' := 5) rfl rfl rfl ?_
  refine xr_ialdv (v := nI (0)) (j := m) (pc' := 6) rfl rfl (by decide) (by first | rfl | (simp only [ix_add, ix_mul, ix_pred]; done) | (simp only [ix_add, ix_mul, ix_pred, *]; done)) (by omega) (by decide) (hk) rfl ?_
  refine xi_iconst (pc' := 7) rfl rfl ?_
  refine xi_icmpt (pc' := 14) rfl rfl (by decide) ?_
  refine xi_iconst (pc' := 15) rfl rfl ?_
  refine xi_istore_n (pc' := 16) rfl (st1_3 rfl) rfl ?_
  refine xi_iload_n (pc' := 17) rfl rfl rfl ?_
  refine xi_ift (pc' := 25) rfl rfl (by decide) ?_
  refine xi_aload_n (pc' := 26) rfl rfl rfl ?_
  refine xr_getp (pc' := 29) rfl rfl (by decide) rfl rfl rfl ?_
  refine xi_iload_n (pc' := 30) rfl rfl rfl ?_
  refine xr_ialdv (v := nI (4)) (j := m) (pc' := 31) rfl rfl (by decide) (by first | rfl | (simp only [ix_add, ix_mul, ix_pred]; done) | (simp only [ix_add, ix_mul, ix_pred, *]; done)) (by omega) (by decide) (hx) rfl ?_
  refine xi_iconst (pc' := 32) rfl rfl ?_
  refine xi_aload_n (pc' := 33) rfl rfl rfl ?_
  refine xr_getp (pc' := 36) rfl rfl (by decide) rfl rfl rfl ?_
  refine xi_iload_n (pc' := 37) rfl rfl rfl ?_
  refine xr_ialdv (v := nI (s + 1)) (j := m) (pc' := 38) rfl rfl (by decide) (by first | rfl | (simp only [ix_add, ix_mul, ix_pred]; done) | (simp only [ix_add, ix_mul, ix_pred, *]; done)) (by omega) (by decide) (hsb) rfl ?_
  refine xi_aload_n (pc' := 39) rfl rfl rfl ?_
  refine xr_getp (pc' := 42) rfl rfl (by decide) rfl rfl rfl ?_
  refine xi_iload_n (pc' := 43) rfl rfl rfl ?_
  refine xr_ialdv (v := nI (nn)) (j := m) (pc' := 44) rfl rfl (by decide) (by first | rfl | (simp only [ix_add, ix_mul, ix_pred]; done) | (simp only [ix_add, ix_mul, ix_pred, *]; done)) (by omega) (by decide) (hn) rfl ?_
  refine xx_callSi (pc' := 47) rfl rfl (by decide) rfl (Nat.le_of_ble_eq_true rfl) rfl rfl (r_commandW) ?_
  refine xi_istore (pc' := 49) rfl (st1_4 rfl) rfl ?_
  refine xi_aload_n (pc' := 50) rfl rfl rfl ?_
  refine xi_iload_n (pc' := 51) rfl rfl rfl ?_
  refine xi_iconst (pc' := 52) rfl rfl ?_
  refine xi_iload (pc' := 54) rfl rfl rfl ?_
  refine xx_callVi (pc' := 57) rfl rfl (by decide) rfl rfl (by show _ < 81 + 2 * _; omega) (Nat.le_of_ble_eq_true rfl) rfl rfl (r_put0 hb hh (by omega)) ?_
  refine xi_istore (pc' := 59) rfl (st1_5 rfl) rfl ?_
  refine xi_iconst (pc' := 60) rfl rfl ?_
  refine xi_istore (pc' := 62) rfl (st1_6 rfl) rfl ?_
  refine r_dat_loop (D := D) (N := N + 1) (g := 0) (fa := nI 0) hm h4 hb (hwB_put hh (by omega)) (by omega) (put_gdB hg) (by omega) ((put_fr (by decide) (by decide) (by decide) (by decide)).trans hn) (fun v7 v8 h7 h8 => ?_) nn 0 (by omega) _ _ rfl rfl
  refine xi_iconst (pc' := 111) rfl rfl ?_
  refine xi_istore (pc' := 113) rfl (st1_6 rfl) rfl ?_
  refine xi_iconst (pc' := 114) rfl rfl ?_
  refine xi_istore (pc' := 116) rfl (st1_7 rfl) rfl ?_
  refine xi_iload (pc' := 118) rfl rfl rfl ?_
  refine xi_bipush (pc' := 120) rfl (by decide) rfl ?_
  refine xi_icmpf (pc' := 123) (tg := 207) rfl rfl (by decide) rfl ?_
  refine xi_iload_n (pc' := 124) rfl rfl rfl ?_
  refine xi_iff (pc' := 127) (tg := 138) rfl rfl (by decide) rfl ?_
  refine xi_iload (pc' := 129) rfl rfl rfl ?_
  refine xi_aload_n (pc' := 130) rfl rfl rfl ?_
  refine xr_getp (pc' := 133) rfl rfl (by decide) rfl rfl rfl ?_
  refine xi_iload_n (pc' := 134) rfl rfl rfl ?_
  refine xr_ialdv (v := nI (4)) (j := m) (pc' := 135) rfl rfl (by decide) (by first | rfl | (simp only [ix_add, ix_mul, ix_pred]; done) | (simp only [ix_add, ix_mul, ix_pred, *]; done)) (by omega) (by decide) (by simp only [wI_fr, says_fr, put_fr, takes_fr, hears_fr, dat_fr, dw_fr, ans_fr, eff_fr, tell_fr, ne_eq, Nat.reduceEqDiff, not_false_eq_true, hx]) rfl ?_
  refine xi_icmpt (pc' := 201) rfl rfl (by decide) ?_
  refine xi_iincv (y := nI 1) (pc' := 204) rfl rfl (by decide) (st1_7 rfl) rfl ?_
  refine xi_goto (pc' := 116) rfl rfl ?_
  refine xi_iload (pc' := 118) rfl rfl rfl ?_
  refine xi_bipush (pc' := 120) rfl (by decide) rfl ?_
  refine xi_icmpf (pc' := 123) (tg := 207) rfl rfl (by decide) rfl ?_
  refine xi_iload_n (pc' := 124) rfl rfl rfl ?_
  refine xi_iff (pc' := 127) (tg := 138) rfl rfl (by decide) rfl ?_
  refine xi_iload (pc' := 129) rfl rfl rfl ?_
  refine xi_aload_n (pc' := 130) rfl rfl rfl ?_
  refine xr_getp (pc' := 133) rfl rfl (by decide) rfl rfl rfl ?_
  refine xi_iload_n (pc' := 134) rfl rfl rfl ?_
  refine xr_ialdv (v := nI (4)) (j := m) (pc' := 135) rfl rfl (by decide) (by first | rfl | (simp only [ix_add, ix_mul, ix_pred]; done) | (simp only [ix_add, ix_mul, ix_pred, *]; done)) (by omega) (by decide) (by simp only [wI_fr, says_fr, put_fr, takes_fr, hears_fr, dat_fr, dw_fr, ans_fr, eff_fr, tell_fr, ne_eq, Nat.reduceEqDiff, not_false_eq_true, hx]) rfl ?_
  refine xi_icmpt (pc' := 201) rfl rfl (by decide) ?_
  refine xi_iincv (y := nI 2) (pc' := 204) rfl rfl (by decide) (st1_7 rfl) rfl ?_
  refine xi_goto (pc' := 116) rfl rfl ?_
  refine xi_iload (pc' := 118) rfl rfl rfl ?_
  refine xi_bipush (pc' := 120) rfl (by decide) rfl ?_
  refine xi_icmpf (pc' := 123) (tg := 207) rfl rfl (by decide) rfl ?_
  refine xi_iload_n (pc' := 124) rfl rfl rfl ?_
  refine xi_iff (pc' := 127) (tg := 138) rfl rfl (by decide) rfl ?_
  refine xi_iload (pc' := 129) rfl rfl rfl ?_
  refine xi_aload_n (pc' := 130) rfl rfl rfl ?_
  refine xr_getp (pc' := 133) rfl rfl (by decide) rfl rfl rfl ?_
  refine xi_iload_n (pc' := 134) rfl rfl rfl ?_
  refine xr_ialdv (v := nI (4)) (j := m) (pc' := 135) rfl rfl (by decide) (by first | rfl | (simp only [ix_add, ix_mul, ix_pred]; done) | (simp only [ix_add, ix_mul, ix_pred, *]; done)) (by omega) (by decide) (by simp only [wI_fr, says_fr, put_fr, takes_fr, hears_fr, dat_fr, dw_fr, ans_fr, eff_fr, tell_fr, ne_eq, Nat.reduceEqDiff, not_false_eq_true, hx]) rfl ?_
  refine xi_icmpt (pc' := 201) rfl rfl (by decide) ?_
  refine xi_iincv (y := nI 3) (pc' := 204) rfl rfl (by decide) (st1_7 rfl) rfl ?_
  refine xi_goto (pc' := 116) rfl rfl ?_
  refine xi_iload (pc' := 118) rfl rfl rfl ?_
  refine xi_bipush (pc' := 120) rfl (by decide) rfl ?_
  refine xi_icmpf (pc' := 123) (tg := 207) rfl rfl (by decide) rfl ?_
  refine xi_iload_n (pc' := 124) rfl rfl rfl ?_
  refine xi_iff (pc' := 127) (tg := 138) rfl rfl (by decide) rfl ?_
  refine xi_iload (pc' := 129) rfl rfl rfl ?_
  refine xi_aload_n (pc' := 130) rfl rfl rfl ?_
  refine xr_getp (pc' := 133) rfl rfl (by decide) rfl rfl rfl ?_
  refine xi_iload_n (pc' := 134) rfl rfl rfl ?_
  refine xr_ialdv (v := nI (4)) (j := m) (pc' := 135) rfl rfl (by decide) (by first | rfl | (simp only [ix_add, ix_mul, ix_pred]; done) | (simp only [ix_add, ix_mul, ix_pred, *]; done)) (by omega) (by decide) (by simp only [wI_fr, says_fr, put_fr, takes_fr, hears_fr, dat_fr, dw_fr, ans_fr, eff_fr, tell_fr, ne_eq, Nat.reduceEqDiff, not_false_eq_true, hx]) rfl ?_
  refine xi_icmpt (pc' := 201) rfl rfl (by decide) ?_
  refine xi_iincv (y := nI 4) (pc' := 204) rfl rfl (by decide) (st1_7 rfl) rfl ?_
  refine xi_goto (pc' := 116) rfl rfl ?_
  refine xi_iload (pc' := 118) rfl rfl rfl ?_
  refine xi_bipush (pc' := 120) rfl (by decide) rfl ?_
  refine xi_icmpf (pc' := 123) (tg := 207) rfl rfl (by decide) rfl ?_
  refine xi_iload_n (pc' := 124) rfl rfl rfl ?_
  refine xi_iff (pc' := 127) (tg := 138) rfl rfl (by decide) rfl ?_
  refine xi_iload (pc' := 129) rfl rfl rfl ?_
  refine xi_aload_n (pc' := 130) rfl rfl rfl ?_
  refine xr_getp (pc' := 133) rfl rfl (by decide) rfl rfl rfl ?_
  refine xi_iload_n (pc' := 134) rfl rfl rfl ?_
  refine xr_ialdv (v := nI (4)) (j := m) (pc' := 135) rfl rfl (by decide) (by first | rfl | (simp only [ix_add, ix_mul, ix_pred]; done) | (simp only [ix_add, ix_mul, ix_pred, *]; done)) (by omega) (by decide) (by simp only [wI_fr, says_fr, put_fr, takes_fr, hears_fr, dat_fr, dw_fr, ans_fr, eff_fr, tell_fr, ne_eq, Nat.reduceEqDiff, not_false_eq_true, hx]) rfl ?_
  refine xi_icmpf (pc' := 138) (tg := 201) rfl rfl (by decide) rfl ?_
  refine xi_aload_n (pc' := 139) rfl rfl rfl ?_
  refine xi_iload (pc' := 141) rfl rfl rfl ?_
  refine xi_iload (pc' := 143) rfl rfl rfl ?_
  refine xi_iload (pc' := 145) rfl rfl rfl ?_
  refine xi_iconst (pc' := 146) rfl rfl ?_
  refine xi_iconst (pc' := 147) rfl rfl ?_
  refine xx_callVi (pc' := 150) rfl rfl (by decide) rfl rfl (by show _ < 81 + 2 * _; omega) (Nat.le_of_ble_eq_true rfl) rfl rfl (r_hears_ok (t := 4) (by decide)) ?_
  refine xx_if (pc' := 153) (tg := 201) rfl rfl rfl (fun q150 => ?_) (fun q150 => ?_)
  · refine xi_iincv (y := nI 5) (pc' := 204) rfl rfl (by decide) (st1_7 rfl) rfl ?_
    refine xi_goto (pc' := 116) rfl rfl ?_
    refine xi_iload (pc' := 118) rfl rfl rfl ?_
    refine xi_bipush (pc' := 120) rfl (by decide) rfl ?_
    refine xi_icmpf (pc' := 123) (tg := 207) rfl rfl (by decide) rfl ?_
    refine xi_iload_n (pc' := 124) rfl rfl rfl ?_
    refine xi_iff (pc' := 127) (tg := 138) rfl rfl (by decide) rfl ?_
    refine xi_iload (pc' := 129) rfl rfl rfl ?_
    refine xi_aload_n (pc' := 130) rfl rfl rfl ?_
    refine xr_getp (pc' := 133) rfl rfl (by decide) rfl rfl rfl ?_
    refine xi_iload_n (pc' := 134) rfl rfl rfl ?_
    refine xr_ialdv (v := nI (4)) (j := m) (pc' := 135) rfl rfl (by decide) (by first | rfl | (simp only [ix_add, ix_mul, ix_pred]; done) | (simp only [ix_add, ix_mul, ix_pred, *]; done)) (by omega) (by decide) (by simp only [wI_fr, says_fr, put_fr, takes_fr, hears_fr, dat_fr, dw_fr, ans_fr, eff_fr, tell_fr, ne_eq, Nat.reduceEqDiff, not_false_eq_true, hx]) rfl ?_
    refine xi_icmpt (pc' := 201) rfl rfl (by decide) ?_
    refine xi_iincv (y := nI 6) (pc' := 204) rfl rfl (by decide) (st1_7 rfl) rfl ?_
    refine xi_goto (pc' := 116) rfl rfl ?_
    refine xi_iload (pc' := 118) rfl rfl rfl ?_
    refine xi_bipush (pc' := 120) rfl (by decide) rfl ?_
    refine xi_icmpt (pc' := 207) rfl rfl (by decide) ?_
    refine xi_iload (pc' := 209) rfl rfl rfl ?_
    refine xi_iff (pc' := 212) (tg := 216) rfl rfl (by decide) rfl ?_
    refine xi_iload_n (pc' := 213) rfl rfl rfl ?_
    refine xi_ift (pc' := 220) rfl rfl (by decide) ?_
    refine xi_iconst (pc' := 221) rfl rfl ?_
    refine xx_zreturn rfl rfl (by decide) ?_
    simp only [ex_P, Classical.not_not, ↓reduceIte, Nat.add_zero, or_true, true_or, not_true_eq_false, not_false_eq_true, or_false, false_or, wI_get, false_and, true_and, and_true, and_false, and_self, Nat.reduceEqDiff, Nat.succ_ne_zero, reduceCtorEq, nI_lit, nI_lit0, Nat.reduceLT] at *
    first | (simp only [r_give, r_g1, r_g2, r_g3, r_g4, *, ↓reduceIte, Nat.add_zero, or_true, true_or, not_true_eq_false, not_false_eq_true, or_false, false_or, wI_get, false_and, true_and, and_true, and_false, and_self, Nat.reduceEqDiff, Nat.succ_ne_zero, reduceCtorEq, nI_lit, nI_lit0, Nat.reduceLT]; done) | (exfalso; simp_all only [↓reduceIte, Nat.add_zero, or_true, true_or, not_true_eq_false, not_false_eq_true, or_false, false_or, wI_get, false_and, true_and, and_true, and_false, and_self, Nat.reduceEqDiff, Nat.succ_ne_zero, reduceCtorEq, nI_lit, nI_lit0, Nat.reduceLT]; done)
  · refine xi_aload_n (pc' := 154) rfl rfl rfl ?_
    refine xi_iload (pc' := 156) rfl rfl rfl ?_
    refine xi_aload_n (pc' := 157) rfl rfl rfl ?_
    refine xr_getp (pc' := 160) rfl rfl (by decide) rfl rfl rfl ?_
    refine xi_iload_n (pc' := 161) rfl rfl rfl ?_
    refine xr_ialdv (v := nI (s + 1)) (j := m) (pc' := 162) rfl rfl (by decide) (by first | rfl | (simp only [ix_add, ix_mul, ix_pred]; done) | (simp only [ix_add, ix_mul, ix_pred, *]; done)) (by omega) (by decide) (by simp only [wI_fr, says_fr, put_fr, takes_fr, hears_fr, dat_fr, dw_fr, ans_fr, eff_fr, tell_fr, ne_eq, Nat.reduceEqDiff, not_false_eq_true, hsb]) rfl ?_
    refine xi_aload_n (pc' := 163) rfl rfl rfl ?_
    refine xr_getp (pc' := 166) rfl rfl (by decide) rfl rfl rfl ?_
    refine xi_iload_n (pc' := 167) rfl rfl rfl ?_
    refine xr_ialdv (v := nI (nn)) (j := m) (pc' := 168) rfl rfl (by decide) (by first | rfl | (simp only [ix_add, ix_mul, ix_pred]; done) | (simp only [ix_add, ix_mul, ix_pred, *]; done)) (by omega) (by decide) (by simp only [wI_fr, says_fr, put_fr, takes_fr, hears_fr, dat_fr, dw_fr, ans_fr, eff_fr, tell_fr, ne_eq, Nat.reduceEqDiff, not_false_eq_true, hn]) rfl ?_
    refine xi_iload_n (pc' := 169) rfl rfl rfl ?_
    refine xx_callVi (pc' := 172) rfl rfl (by decide) rfl rfl (by show _ < 81 + 2 * _; omega) (Nat.le_of_ble_eq_true rfl) rfl rfl (r_takes_ok (t := 4) (by decide) hs h1 h4 (by decide)) ?_
    refine xi_istore (pc' := 174) rfl (st1_8 rfl) rfl ?_
    refine xi_iload (pc' := 176) rfl rfl rfl ?_
    refine xx_if (pc' := 179) (tg := 201) rfl rfl rfl (fun q176 => ?_) (fun q176 => ?_)
    · refine xi_iincv (y := nI 5) (pc' := 204) rfl rfl (by decide) (st1_7 rfl) rfl ?_
      refine xi_goto (pc' := 116) rfl rfl ?_
      refine xi_iload (pc' := 118) rfl rfl rfl ?_
      refine xi_bipush (pc' := 120) rfl (by decide) rfl ?_
      refine xi_icmpf (pc' := 123) (tg := 207) rfl rfl (by decide) rfl ?_
      refine xi_iload_n (pc' := 124) rfl rfl rfl ?_
      refine xi_iff (pc' := 127) (tg := 138) rfl rfl (by decide) rfl ?_
      refine xi_iload (pc' := 129) rfl rfl rfl ?_
      refine xi_aload_n (pc' := 130) rfl rfl rfl ?_
      refine xr_getp (pc' := 133) rfl rfl (by decide) rfl rfl rfl ?_
      refine xi_iload_n (pc' := 134) rfl rfl rfl ?_
      refine xr_ialdv (v := nI (4)) (j := m) (pc' := 135) rfl rfl (by decide) (by first | rfl | (simp only [ix_add, ix_mul, ix_pred]; done) | (simp only [ix_add, ix_mul, ix_pred, *]; done)) (by omega) (by decide) (by simp only [wI_fr, says_fr, put_fr, takes_fr, hears_fr, dat_fr, dw_fr, ans_fr, eff_fr, tell_fr, ne_eq, Nat.reduceEqDiff, not_false_eq_true, hx]) rfl ?_
      refine xi_icmpt (pc' := 201) rfl rfl (by decide) ?_
      refine xi_iincv (y := nI 6) (pc' := 204) rfl rfl (by decide) (st1_7 rfl) rfl ?_
      refine xi_goto (pc' := 116) rfl rfl ?_
      refine xi_iload (pc' := 118) rfl rfl rfl ?_
      refine xi_bipush (pc' := 120) rfl (by decide) rfl ?_
      refine xi_icmpt (pc' := 207) rfl rfl (by decide) ?_
      refine xi_iload (pc' := 209) rfl rfl rfl ?_
      refine xi_iff (pc' := 212) (tg := 216) rfl rfl (by decide) rfl ?_
      refine xi_iload_n (pc' := 213) rfl rfl rfl ?_
      refine xi_ift (pc' := 220) rfl rfl (by decide) ?_
      refine xi_iconst (pc' := 221) rfl rfl ?_
      refine xx_zreturn rfl rfl (by decide) ?_
      simp only [ex_P, Classical.not_not, ↓reduceIte, Nat.add_zero, or_true, true_or, not_true_eq_false, not_false_eq_true, or_false, false_or, wI_get, false_and, true_and, and_true, and_false, and_self, Nat.reduceEqDiff, Nat.succ_ne_zero, reduceCtorEq, nI_lit, nI_lit0, Nat.reduceLT] at *
      first | (simp only [r_give, r_g1, r_g2, r_g3, r_g4, *, ↓reduceIte, Nat.add_zero, or_true, true_or, not_true_eq_false, not_false_eq_true, or_false, false_or, wI_get, false_and, true_and, and_true, and_false, and_self, Nat.reduceEqDiff, Nat.succ_ne_zero, reduceCtorEq, nI_lit, nI_lit0, Nat.reduceLT]; done) | (exfalso; simp_all only [↓reduceIte, Nat.add_zero, or_true, true_or, not_true_eq_false, not_false_eq_true, or_false, false_or, wI_get, false_and, true_and, and_true, and_false, and_self, Nat.reduceEqDiff, Nat.succ_ne_zero, reduceCtorEq, nI_lit, nI_lit0, Nat.reduceLT]; done)
    · refine xi_iload_n (pc' := 180) rfl rfl rfl ?_
      refine xi_iff (pc' := 183) (tg := 201) rfl rfl (by decide) rfl ?_
      refine xi_aload_n (pc' := 184) rfl rfl rfl ?_
      refine xi_iload (pc' := 186) rfl rfl rfl ?_
      refine xi_iload_n (pc' := 187) rfl rfl rfl ?_
      refine xx_callVi (pc' := 190) rfl rfl (by decide) rfl rfl (by show _ < 81 + 2 * _; omega) (Nat.le_of_ble_eq_true rfl) rfl rfl (r_saysStatus (t := 4) (by decide) hb (g3_hw (x := 4) hh (by omega)) (by omega)) ?_
      refine xi_iconst (pc' := 191) rfl rfl ?_
      refine xx_icmp (pc' := 194) (tg := 198) rfl rfl rfl (fun q191 => ?_) (fun q191 => ?_)
      · refine xi_iconst (pc' := 199) rfl rfl ?_
        refine xi_istore (pc' := 201) rfl (st1_6 rfl) rfl ?_
        refine xi_iincv (y := nI 5) (pc' := 204) rfl rfl (by decide) (st1_7 rfl) rfl ?_
        refine xi_goto (pc' := 116) rfl rfl ?_
        refine xi_iload (pc' := 118) rfl rfl rfl ?_
        refine xi_bipush (pc' := 120) rfl (by decide) rfl ?_
        refine xi_icmpf (pc' := 123) (tg := 207) rfl rfl (by decide) rfl ?_
        refine xi_iload_n (pc' := 124) rfl rfl rfl ?_
        refine xi_iff (pc' := 127) (tg := 138) rfl rfl (by decide) rfl ?_
        refine xi_iload (pc' := 129) rfl rfl rfl ?_
        refine xi_aload_n (pc' := 130) rfl rfl rfl ?_
        refine xr_getp (pc' := 133) rfl rfl (by decide) rfl rfl rfl ?_
        refine xi_iload_n (pc' := 134) rfl rfl rfl ?_
        refine xr_ialdv (v := nI (4)) (j := m) (pc' := 135) rfl rfl (by decide) (by first | rfl | (simp only [ix_add, ix_mul, ix_pred]; done) | (simp only [ix_add, ix_mul, ix_pred, *]; done)) (by omega) (by decide) (by simp only [wI_fr, says_fr, put_fr, takes_fr, hears_fr, dat_fr, dw_fr, ans_fr, eff_fr, tell_fr, ne_eq, Nat.reduceEqDiff, not_false_eq_true, hx]) rfl ?_
        refine xi_icmpt (pc' := 201) rfl rfl (by decide) ?_
        refine xi_iincv (y := nI 6) (pc' := 204) rfl rfl (by decide) (st1_7 rfl) rfl ?_
        refine xi_goto (pc' := 116) rfl rfl ?_
        refine xi_iload (pc' := 118) rfl rfl rfl ?_
        refine xi_bipush (pc' := 120) rfl (by decide) rfl ?_
        refine xi_icmpt (pc' := 207) rfl rfl (by decide) ?_
        refine xi_iload (pc' := 209) rfl rfl rfl ?_
        refine xi_iff (pc' := 212) (tg := 216) rfl rfl (by decide) rfl ?_
        refine xi_iload_n (pc' := 213) rfl rfl rfl ?_
        refine xi_ift (pc' := 220) rfl rfl (by decide) ?_
        refine xi_iconst (pc' := 221) rfl rfl ?_
        refine xx_zreturn rfl rfl (by decide) ?_
        simp only [ex_P, Classical.not_not, ↓reduceIte, Nat.add_zero, or_true, true_or, not_true_eq_false, not_false_eq_true, or_false, false_or, wI_get, false_and, true_and, and_true, and_false, and_self, Nat.reduceEqDiff, Nat.succ_ne_zero, reduceCtorEq, nI_lit, nI_lit0, Nat.reduceLT] at *
        first | (simp only [r_give, r_g1, r_g2, r_g3, r_g4, *, ↓reduceIte, Nat.add_zero, or_true, true_or, not_true_eq_false, not_false_eq_true, or_false, false_or, wI_get, false_and, true_and, and_true, and_false, and_self, Nat.reduceEqDiff, Nat.succ_ne_zero, reduceCtorEq, nI_lit, nI_lit0, Nat.reduceLT]; done) | (exfalso; simp_all only [↓reduceIte, Nat.add_zero, or_true, true_or, not_true_eq_false, not_false_eq_true, or_false, false_or, wI_get, false_and, true_and, and_true, and_false, and_self, Nat.reduceEqDiff, Nat.succ_ne_zero, reduceCtorEq, nI_lit, nI_lit0, Nat.reduceLT]; done)
      · refine xi_iconst (pc' := 195) rfl rfl ?_
        refine xi_goto (pc' := 199) rfl rfl ?_
        refine xi_istore (pc' := 201) rfl (st1_6 rfl) rfl ?_
        refine xi_iincv (y := nI 5) (pc' := 204) rfl rfl (by decide) (st1_7 rfl) rfl ?_
        refine xi_goto (pc' := 116) rfl rfl ?_
        refine xi_iload (pc' := 118) rfl rfl rfl ?_
        refine xi_bipush (pc' := 120) rfl (by decide) rfl ?_
        refine xi_icmpf (pc' := 123) (tg := 207) rfl rfl (by decide) rfl ?_
        refine xi_iload_n (pc' := 124) rfl rfl rfl ?_
        refine xi_iff (pc' := 127) (tg := 138) rfl rfl (by decide) rfl ?_
        refine xi_iload (pc' := 129) rfl rfl rfl ?_
        refine xi_aload_n (pc' := 130) rfl rfl rfl ?_
        refine xr_getp (pc' := 133) rfl rfl (by decide) rfl rfl rfl ?_
        refine xi_iload_n (pc' := 134) rfl rfl rfl ?_
        refine xr_ialdv (v := nI (4)) (j := m) (pc' := 135) rfl rfl (by decide) (by first | rfl | (simp only [ix_add, ix_mul, ix_pred]; done) | (simp only [ix_add, ix_mul, ix_pred, *]; done)) (by omega) (by decide) (by simp only [wI_fr, says_fr, put_fr, takes_fr, hears_fr, dat_fr, dw_fr, ans_fr, eff_fr, tell_fr, ne_eq, Nat.reduceEqDiff, not_false_eq_true, hx]) rfl ?_
        refine xi_icmpt (pc' := 201) rfl rfl (by decide) ?_
        refine xi_iincv (y := nI 6) (pc' := 204) rfl rfl (by decide) (st1_7 rfl) rfl ?_
        refine xi_goto (pc' := 116) rfl rfl ?_
        refine xi_iload (pc' := 118) rfl rfl rfl ?_
        refine xi_bipush (pc' := 120) rfl (by decide) rfl ?_
        refine xi_icmpt (pc' := 207) rfl rfl (by decide) ?_
        refine xi_iload (pc' := 209) rfl rfl rfl ?_
        refine xi_ift (pc' := 216) rfl rfl (by decide) ?_
        refine xi_iconst (pc' := 217) rfl rfl ?_
        refine xi_goto (pc' := 221) rfl rfl ?_
        refine xx_zreturn rfl rfl (by decide) ?_
        simp only [ex_P, Classical.not_not, ↓reduceIte, Nat.add_zero, or_true, true_or, not_true_eq_false, not_false_eq_true, or_false, false_or, wI_get, false_and, true_and, and_true, and_false, and_self, Nat.reduceEqDiff, Nat.succ_ne_zero, reduceCtorEq, nI_lit, nI_lit0, Nat.reduceLT] at *
        first | (simp only [r_give, r_g1, r_g2, r_g3, r_g4, *, ↓reduceIte, Nat.add_zero, or_true, true_or, not_true_eq_false, not_false_eq_true, or_false, false_or, wI_get, false_and, true_and, and_true, and_false, and_self, Nat.reduceEqDiff, Nat.succ_ne_zero, reduceCtorEq, nI_lit, nI_lit0, Nat.reduceLT]; done) | (exfalso; simp_all only [↓reduceIte, Nat.add_zero, or_true, true_or, not_true_eq_false, not_false_eq_true, or_false, false_or, wI_get, false_and, true_and, and_true, and_false, and_self, Nat.reduceEqDiff, Nat.succ_ne_zero, reduceCtorEq, nI_lit, nI_lit0, Nat.reduceLT]; done)
theorem r_gives_0_5 {L : Nat} {xs : Nat → Int32} {D n : Nat} {I J : ex_Mem} {m s nn b N : Nat} (hk : J 69 m = nI 0) (hx : J 70 m = nI 5) (hm : m < 8) (hb : b < 2) (hs : s < 3) (h1 : 1 ≤ nn) (h4 : nn ≤ 4) (hsb : J 72 m = nI (s + 1)) (hn : J 73 m = nI nn) (hh : hwB N J) (hN : N + 8 < 2 ^ 31) (hg : gdB 0 J) : ri L xs (D + 3) 119 [.ref 52, .int (nI m), .int (nI b)] (mkH n I J) ((r_give J m 5 s nn b).1) (mkH n I (r_give J m 5 s nn b).2) := by
  show xx cb_G _ _ _ 119 0 [.ref 52, .int (nI m), .int (nI b), ex_no, ex_no, ex_no, ex_no, ex_no, ex_no] [] _ _
  refine xi_aload_n (pc' := 1) rfl rfl rfl ?_
  refine xr_getp (pc' := 4) rfl rfl (by decide) rfl rfl rfl ?_
  refine xi_iload_n (pc' := 5) rfl rfl rfl ?_
  refine xr_ialdv (v := nI (0)) (j := m) (pc' := 6) rfl rfl (by decide) (by first | rfl | (simp only [ix_add, ix_mul, ix_pred]; done) | (simp only [ix_add, ix_mul, ix_pred, *]; done)) (by omega) (by decide) (hk) rfl ?_
  refine xi_iconst (pc' := 7) rfl rfl ?_
  refine xi_icmpt (pc' := 14) rfl rfl (by decide) ?_
  refine xi_iconst (pc' := 15) rfl rfl ?_
  refine xi_istore_n (pc' := 16) rfl (st1_3 rfl) rfl ?_
  refine xi_iload_n (pc' := 17) rfl rfl rfl ?_
  refine xi_ift (pc' := 25) rfl rfl (by decide) ?_
  refine xi_aload_n (pc' := 26) rfl rfl rfl ?_
  refine xr_getp (pc' := 29) rfl rfl (by decide) rfl rfl rfl ?_
  refine xi_iload_n (pc' := 30) rfl rfl rfl ?_
  refine xr_ialdv (v := nI (5)) (j := m) (pc' := 31) rfl rfl (by decide) (by first | rfl | (simp only [ix_add, ix_mul, ix_pred]; done) | (simp only [ix_add, ix_mul, ix_pred, *]; done)) (by omega) (by decide) (hx) rfl ?_
  refine xi_iconst (pc' := 32) rfl rfl ?_
  refine xi_aload_n (pc' := 33) rfl rfl rfl ?_
  refine xr_getp (pc' := 36) rfl rfl (by decide) rfl rfl rfl ?_
  refine xi_iload_n (pc' := 37) rfl rfl rfl ?_
  refine xr_ialdv (v := nI (s + 1)) (j := m) (pc' := 38) rfl rfl (by decide) (by first | rfl | (simp only [ix_add, ix_mul, ix_pred]; done) | (simp only [ix_add, ix_mul, ix_pred, *]; done)) (by omega) (by decide) (hsb) rfl ?_
  refine xi_aload_n (pc' := 39) rfl rfl rfl ?_
  refine xr_getp (pc' := 42) rfl rfl (by decide) rfl rfl rfl ?_
  refine xi_iload_n (pc' := 43) rfl rfl rfl ?_
  refine xr_ialdv (v := nI (nn)) (j := m) (pc' := 44) rfl rfl (by decide) (by first | rfl | (simp only [ix_add, ix_mul, ix_pred]; done) | (simp only [ix_add, ix_mul, ix_pred, *]; done)) (by omega) (by decide) (hn) rfl ?_
  refine xx_callSi (pc' := 47) rfl rfl (by decide) rfl (Nat.le_of_ble_eq_true rfl) rfl rfl (r_commandW) ?_
  refine xi_istore (pc' := 49) rfl (st1_4 rfl) rfl ?_
  refine xi_aload_n (pc' := 50) rfl rfl rfl ?_
  refine xi_iload_n (pc' := 51) rfl rfl rfl ?_
  refine xi_iconst (pc' := 52) rfl rfl ?_
  refine xi_iload (pc' := 54) rfl rfl rfl ?_
  refine xx_callVi (pc' := 57) rfl rfl (by decide) rfl rfl (by show _ < 81 + 2 * _; omega) (Nat.le_of_ble_eq_true rfl) rfl rfl (r_put0 hb hh (by omega)) ?_
  refine xi_istore (pc' := 59) rfl (st1_5 rfl) rfl ?_
  refine xi_iconst (pc' := 60) rfl rfl ?_
  refine xi_istore (pc' := 62) rfl (st1_6 rfl) rfl ?_
  refine r_dat_loop (D := D) (N := N + 1) (g := 0) (fa := nI 0) hm h4 hb (hwB_put hh (by omega)) (by omega) (put_gdB hg) (by omega) ((put_fr (by decide) (by decide) (by decide) (by decide)).trans hn) (fun v7 v8 h7 h8 => ?_) nn 0 (by omega) _ _ rfl rfl
  refine xi_iconst (pc' := 111) rfl rfl ?_
  refine xi_istore (pc' := 113) rfl (st1_6 rfl) rfl ?_
  refine xi_iconst (pc' := 114) rfl rfl ?_
  refine xi_istore (pc' := 116) rfl (st1_7 rfl) rfl ?_
  refine xi_iload (pc' := 118) rfl rfl rfl ?_
  refine xi_bipush (pc' := 120) rfl (by decide) rfl ?_
  refine xi_icmpf (pc' := 123) (tg := 207) rfl rfl (by decide) rfl ?_
  refine xi_iload_n (pc' := 124) rfl rfl rfl ?_
  refine xi_iff (pc' := 127) (tg := 138) rfl rfl (by decide) rfl ?_
  refine xi_iload (pc' := 129) rfl rfl rfl ?_
  refine xi_aload_n (pc' := 130) rfl rfl rfl ?_
  refine xr_getp (pc' := 133) rfl rfl (by decide) rfl rfl rfl ?_
  refine xi_iload_n (pc' := 134) rfl rfl rfl ?_
  refine xr_ialdv (v := nI (5)) (j := m) (pc' := 135) rfl rfl (by decide) (by first | rfl | (simp only [ix_add, ix_mul, ix_pred]; done) | (simp only [ix_add, ix_mul, ix_pred, *]; done)) (by omega) (by decide) (by simp only [wI_fr, says_fr, put_fr, takes_fr, hears_fr, dat_fr, dw_fr, ans_fr, eff_fr, tell_fr, ne_eq, Nat.reduceEqDiff, not_false_eq_true, hx]) rfl ?_
  refine xi_icmpt (pc' := 201) rfl rfl (by decide) ?_
  refine xi_iincv (y := nI 1) (pc' := 204) rfl rfl (by decide) (st1_7 rfl) rfl ?_
  refine xi_goto (pc' := 116) rfl rfl ?_
  refine xi_iload (pc' := 118) rfl rfl rfl ?_
  refine xi_bipush (pc' := 120) rfl (by decide) rfl ?_
  refine xi_icmpf (pc' := 123) (tg := 207) rfl rfl (by decide) rfl ?_
  refine xi_iload_n (pc' := 124) rfl rfl rfl ?_
  refine xi_iff (pc' := 127) (tg := 138) rfl rfl (by decide) rfl ?_
  refine xi_iload (pc' := 129) rfl rfl rfl ?_
  refine xi_aload_n (pc' := 130) rfl rfl rfl ?_
  refine xr_getp (pc' := 133) rfl rfl (by decide) rfl rfl rfl ?_
  refine xi_iload_n (pc' := 134) rfl rfl rfl ?_
  refine xr_ialdv (v := nI (5)) (j := m) (pc' := 135) rfl rfl (by decide) (by first | rfl | (simp only [ix_add, ix_mul, ix_pred]; done) | (simp only [ix_add, ix_mul, ix_pred, *]; done)) (by omega) (by decide) (by simp only [wI_fr, says_fr, put_fr, takes_fr, hears_fr, dat_fr, dw_fr, ans_fr, eff_fr, tell_fr, ne_eq, Nat.reduceEqDiff, not_false_eq_true, hx]) rfl ?_
  refine xi_icmpt (pc' := 201) rfl rfl (by decide) ?_
  refine xi_iincv (y := nI 2) (pc' := 204) rfl rfl (by decide) (st1_7 rfl) rfl ?_
  refine xi_goto (pc' := 116) rfl rfl ?_
  refine xi_iload (pc' := 118) rfl rfl rfl ?_
  refine xi_bipush (pc' := 120) rfl (by decide) rfl ?_
  refine xi_icmpf (pc' := 123) (tg := 207) rfl rfl (by decide) rfl ?_
  refine xi_iload_n (pc' := 124) rfl rfl rfl ?_
  refine xi_iff (pc' := 127) (tg := 138) rfl rfl (by decide) rfl ?_
  refine xi_iload (pc' := 129) rfl rfl rfl ?_
  refine xi_aload_n (pc' := 130) rfl rfl rfl ?_
  refine xr_getp (pc' := 133) rfl rfl (by decide) rfl rfl rfl ?_
  refine xi_iload_n (pc' := 134) rfl rfl rfl ?_
  refine xr_ialdv (v := nI (5)) (j := m) (pc' := 135) rfl rfl (by decide) (by first | rfl | (simp only [ix_add, ix_mul, ix_pred]; done) | (simp only [ix_add, ix_mul, ix_pred, *]; done)) (by omega) (by decide) (by simp only [wI_fr, says_fr, put_fr, takes_fr, hears_fr, dat_fr, dw_fr, ans_fr, eff_fr, tell_fr, ne_eq, Nat.reduceEqDiff, not_false_eq_true, hx]) rfl ?_
  refine xi_icmpt (pc' := 201) rfl rfl (by decide) ?_
  refine xi_iincv (y := nI 3) (pc' := 204) rfl rfl (by decide) (st1_7 rfl) rfl ?_
  refine xi_goto (pc' := 116) rfl rfl ?_
  refine xi_iload (pc' := 118) rfl rfl rfl ?_
  refine xi_bipush (pc' := 120) rfl (by decide) rfl ?_
  refine xi_icmpf (pc' := 123) (tg := 207) rfl rfl (by decide) rfl ?_
  refine xi_iload_n (pc' := 124) rfl rfl rfl ?_
  refine xi_iff (pc' := 127) (tg := 138) rfl rfl (by decide) rfl ?_
  refine xi_iload (pc' := 129) rfl rfl rfl ?_
  refine xi_aload_n (pc' := 130) rfl rfl rfl ?_
  refine xr_getp (pc' := 133) rfl rfl (by decide) rfl rfl rfl ?_
  refine xi_iload_n (pc' := 134) rfl rfl rfl ?_
  refine xr_ialdv (v := nI (5)) (j := m) (pc' := 135) rfl rfl (by decide) (by first | rfl | (simp only [ix_add, ix_mul, ix_pred]; done) | (simp only [ix_add, ix_mul, ix_pred, *]; done)) (by omega) (by decide) (by simp only [wI_fr, says_fr, put_fr, takes_fr, hears_fr, dat_fr, dw_fr, ans_fr, eff_fr, tell_fr, ne_eq, Nat.reduceEqDiff, not_false_eq_true, hx]) rfl ?_
  refine xi_icmpt (pc' := 201) rfl rfl (by decide) ?_
  refine xi_iincv (y := nI 4) (pc' := 204) rfl rfl (by decide) (st1_7 rfl) rfl ?_
  refine xi_goto (pc' := 116) rfl rfl ?_
  refine xi_iload (pc' := 118) rfl rfl rfl ?_
  refine xi_bipush (pc' := 120) rfl (by decide) rfl ?_
  refine xi_icmpf (pc' := 123) (tg := 207) rfl rfl (by decide) rfl ?_
  refine xi_iload_n (pc' := 124) rfl rfl rfl ?_
  refine xi_iff (pc' := 127) (tg := 138) rfl rfl (by decide) rfl ?_
  refine xi_iload (pc' := 129) rfl rfl rfl ?_
  refine xi_aload_n (pc' := 130) rfl rfl rfl ?_
  refine xr_getp (pc' := 133) rfl rfl (by decide) rfl rfl rfl ?_
  refine xi_iload_n (pc' := 134) rfl rfl rfl ?_
  refine xr_ialdv (v := nI (5)) (j := m) (pc' := 135) rfl rfl (by decide) (by first | rfl | (simp only [ix_add, ix_mul, ix_pred]; done) | (simp only [ix_add, ix_mul, ix_pred, *]; done)) (by omega) (by decide) (by simp only [wI_fr, says_fr, put_fr, takes_fr, hears_fr, dat_fr, dw_fr, ans_fr, eff_fr, tell_fr, ne_eq, Nat.reduceEqDiff, not_false_eq_true, hx]) rfl ?_
  refine xi_icmpt (pc' := 201) rfl rfl (by decide) ?_
  refine xi_iincv (y := nI 5) (pc' := 204) rfl rfl (by decide) (st1_7 rfl) rfl ?_
  refine xi_goto (pc' := 116) rfl rfl ?_
  refine xi_iload (pc' := 118) rfl rfl rfl ?_
  refine xi_bipush (pc' := 120) rfl (by decide) rfl ?_
  refine xi_icmpf (pc' := 123) (tg := 207) rfl rfl (by decide) rfl ?_
  refine xi_iload_n (pc' := 124) rfl rfl rfl ?_
  refine xi_iff (pc' := 127) (tg := 138) rfl rfl (by decide) rfl ?_
  refine xi_iload (pc' := 129) rfl rfl rfl ?_
  refine xi_aload_n (pc' := 130) rfl rfl rfl ?_
  refine xr_getp (pc' := 133) rfl rfl (by decide) rfl rfl rfl ?_
  refine xi_iload_n (pc' := 134) rfl rfl rfl ?_
  refine xr_ialdv (v := nI (5)) (j := m) (pc' := 135) rfl rfl (by decide) (by first | rfl | (simp only [ix_add, ix_mul, ix_pred]; done) | (simp only [ix_add, ix_mul, ix_pred, *]; done)) (by omega) (by decide) (by simp only [wI_fr, says_fr, put_fr, takes_fr, hears_fr, dat_fr, dw_fr, ans_fr, eff_fr, tell_fr, ne_eq, Nat.reduceEqDiff, not_false_eq_true, hx]) rfl ?_
  refine xi_icmpf (pc' := 138) (tg := 201) rfl rfl (by decide) rfl ?_
  refine xi_aload_n (pc' := 139) rfl rfl rfl ?_
  refine xi_iload (pc' := 141) rfl rfl rfl ?_
  refine xi_iload (pc' := 143) rfl rfl rfl ?_
  refine xi_iload (pc' := 145) rfl rfl rfl ?_
  refine xi_iconst (pc' := 146) rfl rfl ?_
  refine xi_iconst (pc' := 147) rfl rfl ?_
  refine xx_callVi (pc' := 150) rfl rfl (by decide) rfl rfl (by show _ < 81 + 2 * _; omega) (Nat.le_of_ble_eq_true rfl) rfl rfl (r_hears_ok (t := 5) (by decide)) ?_
  refine xx_if (pc' := 153) (tg := 201) rfl rfl rfl (fun q150 => ?_) (fun q150 => ?_)
  · refine xi_iincv (y := nI 6) (pc' := 204) rfl rfl (by decide) (st1_7 rfl) rfl ?_
    refine xi_goto (pc' := 116) rfl rfl ?_
    refine xi_iload (pc' := 118) rfl rfl rfl ?_
    refine xi_bipush (pc' := 120) rfl (by decide) rfl ?_
    refine xi_icmpt (pc' := 207) rfl rfl (by decide) ?_
    refine xi_iload (pc' := 209) rfl rfl rfl ?_
    refine xi_iff (pc' := 212) (tg := 216) rfl rfl (by decide) rfl ?_
    refine xi_iload_n (pc' := 213) rfl rfl rfl ?_
    refine xi_ift (pc' := 220) rfl rfl (by decide) ?_
    refine xi_iconst (pc' := 221) rfl rfl ?_
    refine xx_zreturn rfl rfl (by decide) ?_
    simp only [ex_P, Classical.not_not, ↓reduceIte, Nat.add_zero, or_true, true_or, not_true_eq_false, not_false_eq_true, or_false, false_or, wI_get, false_and, true_and, and_true, and_false, and_self, Nat.reduceEqDiff, Nat.succ_ne_zero, reduceCtorEq, nI_lit, nI_lit0, Nat.reduceLT] at *
    first | (simp only [r_give, r_g1, r_g2, r_g3, r_g4, *, ↓reduceIte, Nat.add_zero, or_true, true_or, not_true_eq_false, not_false_eq_true, or_false, false_or, wI_get, false_and, true_and, and_true, and_false, and_self, Nat.reduceEqDiff, Nat.succ_ne_zero, reduceCtorEq, nI_lit, nI_lit0, Nat.reduceLT]; done) | (exfalso; simp_all only [↓reduceIte, Nat.add_zero, or_true, true_or, not_true_eq_false, not_false_eq_true, or_false, false_or, wI_get, false_and, true_and, and_true, and_false, and_self, Nat.reduceEqDiff, Nat.succ_ne_zero, reduceCtorEq, nI_lit, nI_lit0, Nat.reduceLT]; done)
  · refine xi_aload_n (pc' := 154) rfl rfl rfl ?_
    refine xi_iload (pc' := 156) rfl rfl rfl ?_
    refine xi_aload_n (pc' := 157) rfl rfl rfl ?_
    refine xr_getp (pc' := 160) rfl rfl (by decide) rfl rfl rfl ?_
    refine xi_iload_n (pc' := 161) rfl rfl rfl ?_
    refine xr_ialdv (v := nI (s + 1)) (j := m) (pc' := 162) rfl rfl (by decide) (by first | rfl | (simp only [ix_add, ix_mul, ix_pred]; done) | (simp only [ix_add, ix_mul, ix_pred, *]; done)) (by omega) (by decide) (by simp only [wI_fr, says_fr, put_fr, takes_fr, hears_fr, dat_fr, dw_fr, ans_fr, eff_fr, tell_fr, ne_eq, Nat.reduceEqDiff, not_false_eq_true, hsb]) rfl ?_
    refine xi_aload_n (pc' := 163) rfl rfl rfl ?_
    refine xr_getp (pc' := 166) rfl rfl (by decide) rfl rfl rfl ?_
    refine xi_iload_n (pc' := 167) rfl rfl rfl ?_
    refine xr_ialdv (v := nI (nn)) (j := m) (pc' := 168) rfl rfl (by decide) (by first | rfl | (simp only [ix_add, ix_mul, ix_pred]; done) | (simp only [ix_add, ix_mul, ix_pred, *]; done)) (by omega) (by decide) (by simp only [wI_fr, says_fr, put_fr, takes_fr, hears_fr, dat_fr, dw_fr, ans_fr, eff_fr, tell_fr, ne_eq, Nat.reduceEqDiff, not_false_eq_true, hn]) rfl ?_
    refine xi_iload_n (pc' := 169) rfl rfl rfl ?_
    refine xx_callVi (pc' := 172) rfl rfl (by decide) rfl rfl (by show _ < 81 + 2 * _; omega) (Nat.le_of_ble_eq_true rfl) rfl rfl (r_takes_ok (t := 5) (by decide) hs h1 h4 (by decide)) ?_
    refine xi_istore (pc' := 174) rfl (st1_8 rfl) rfl ?_
    refine xi_iload (pc' := 176) rfl rfl rfl ?_
    refine xx_if (pc' := 179) (tg := 201) rfl rfl rfl (fun q176 => ?_) (fun q176 => ?_)
    · refine xi_iincv (y := nI 6) (pc' := 204) rfl rfl (by decide) (st1_7 rfl) rfl ?_
      refine xi_goto (pc' := 116) rfl rfl ?_
      refine xi_iload (pc' := 118) rfl rfl rfl ?_
      refine xi_bipush (pc' := 120) rfl (by decide) rfl ?_
      refine xi_icmpt (pc' := 207) rfl rfl (by decide) ?_
      refine xi_iload (pc' := 209) rfl rfl rfl ?_
      refine xi_iff (pc' := 212) (tg := 216) rfl rfl (by decide) rfl ?_
      refine xi_iload_n (pc' := 213) rfl rfl rfl ?_
      refine xi_ift (pc' := 220) rfl rfl (by decide) ?_
      refine xi_iconst (pc' := 221) rfl rfl ?_
      refine xx_zreturn rfl rfl (by decide) ?_
      simp only [ex_P, Classical.not_not, ↓reduceIte, Nat.add_zero, or_true, true_or, not_true_eq_false, not_false_eq_true, or_false, false_or, wI_get, false_and, true_and, and_true, and_false, and_self, Nat.reduceEqDiff, Nat.succ_ne_zero, reduceCtorEq, nI_lit, nI_lit0, Nat.reduceLT] at *
      first | (simp only [r_give, r_g1, r_g2, r_g3, r_g4, *, ↓reduceIte, Nat.add_zero, or_true, true_or, not_true_eq_false, not_false_eq_true, or_false, false_or, wI_get, false_and, true_and, and_true, and_false, and_self, Nat.reduceEqDiff, Nat.succ_ne_zero, reduceCtorEq, nI_lit, nI_lit0, Nat.reduceLT]; done) | (exfalso; simp_all only [↓reduceIte, Nat.add_zero, or_true, true_or, not_true_eq_false, not_false_eq_true, or_false, false_or, wI_get, false_and, true_and, and_true, and_false, and_self, Nat.reduceEqDiff, Nat.succ_ne_zero, reduceCtorEq, nI_lit, nI_lit0, Nat.reduceLT]; done)
    · refine xi_iload_n (pc' := 180) rfl rfl rfl ?_
      refine xi_iff (pc' := 183) (tg := 201) rfl rfl (by decide) rfl ?_
      refine xi_aload_n (pc' := 184) rfl rfl rfl ?_
      refine xi_iload (pc' := 186) rfl rfl rfl ?_
      refine xi_iload_n (pc' := 187) rfl rfl rfl ?_
      refine xx_callVi (pc' := 190) rfl rfl (by decide) rfl rfl (by show _ < 81 + 2 * _; omega) (Nat.le_of_ble_eq_true rfl) rfl rfl (r_saysStatus (t := 5) (by decide) hb (g3_hw (x := 5) hh (by omega)) (by omega)) ?_
      refine xi_iconst (pc' := 191) rfl rfl ?_
      refine xx_icmp (pc' := 194) (tg := 198) rfl rfl rfl (fun q191 => ?_) (fun q191 => ?_)
      · refine xi_iconst (pc' := 199) rfl rfl ?_
        refine xi_istore (pc' := 201) rfl (st1_6 rfl) rfl ?_
        refine xi_iincv (y := nI 6) (pc' := 204) rfl rfl (by decide) (st1_7 rfl) rfl ?_
        refine xi_goto (pc' := 116) rfl rfl ?_
        refine xi_iload (pc' := 118) rfl rfl rfl ?_
        refine xi_bipush (pc' := 120) rfl (by decide) rfl ?_
        refine xi_icmpt (pc' := 207) rfl rfl (by decide) ?_
        refine xi_iload (pc' := 209) rfl rfl rfl ?_
        refine xi_iff (pc' := 212) (tg := 216) rfl rfl (by decide) rfl ?_
        refine xi_iload_n (pc' := 213) rfl rfl rfl ?_
        refine xi_ift (pc' := 220) rfl rfl (by decide) ?_
        refine xi_iconst (pc' := 221) rfl rfl ?_
        refine xx_zreturn rfl rfl (by decide) ?_
        simp only [ex_P, Classical.not_not, ↓reduceIte, Nat.add_zero, or_true, true_or, not_true_eq_false, not_false_eq_true, or_false, false_or, wI_get, false_and, true_and, and_true, and_false, and_self, Nat.reduceEqDiff, Nat.succ_ne_zero, reduceCtorEq, nI_lit, nI_lit0, Nat.reduceLT] at *
        first | (simp only [r_give, r_g1, r_g2, r_g3, r_g4, *, ↓reduceIte, Nat.add_zero, or_true, true_or, not_true_eq_false, not_false_eq_true, or_false, false_or, wI_get, false_and, true_and, and_true, and_false, and_self, Nat.reduceEqDiff, Nat.succ_ne_zero, reduceCtorEq, nI_lit, nI_lit0, Nat.reduceLT]; done) | (exfalso; simp_all only [↓reduceIte, Nat.add_zero, or_true, true_or, not_true_eq_false, not_false_eq_true, or_false, false_or, wI_get, false_and, true_and, and_true, and_false, and_self, Nat.reduceEqDiff, Nat.succ_ne_zero, reduceCtorEq, nI_lit, nI_lit0, Nat.reduceLT]; done)
      · refine xi_iconst (pc' := 195) rfl rfl ?_
        refine xi_goto (pc' := 199) rfl rfl ?_
        refine xi_istore (pc' := 201) rfl (st1_6 rfl) rfl ?_
        refine xi_iincv (y := nI 6) (pc' := 204) rfl rfl (by decide) (st1_7 rfl) rfl ?_
        refine xi_goto (pc' := 116) rfl rfl ?_
        refine xi_iload (pc' := 118) rfl rfl rfl ?_
        refine xi_bipush (pc' := 120) rfl (by decide) rfl ?_
        refine xi_icmpt (pc' := 207) rfl rfl (by decide) ?_
        refine xi_iload (pc' := 209) rfl rfl rfl ?_
        refine xi_ift (pc' := 216) rfl rfl (by decide) ?_
        refine xi_iconst (pc' := 217) rfl rfl ?_
        refine xi_goto (pc' := 221) rfl rfl ?_
        refine xx_zreturn rfl rfl (by decide) ?_
        simp only [ex_P, Classical.not_not, ↓reduceIte, Nat.add_zero, or_true, true_or, not_true_eq_false, not_false_eq_true, or_false, false_or, wI_get, false_and, true_and, and_true, and_false, and_self, Nat.reduceEqDiff, Nat.succ_ne_zero, reduceCtorEq, nI_lit, nI_lit0, Nat.reduceLT] at *
        first | (simp only [r_give, r_g1, r_g2, r_g3, r_g4, *, ↓reduceIte, Nat.add_zero, or_true, true_or, not_true_eq_false, not_false_eq_true, or_false, false_or, wI_get, false_and, true_and, and_true, and_false, and_self, Nat.reduceEqDiff, Nat.succ_ne_zero, reduceCtorEq, nI_lit, nI_lit0, Nat.reduceLT]; done) | (exfalso; simp_all only [↓reduceIte, Nat.add_zero, or_true, true_or, not_true_eq_false, not_false_eq_true, or_false, false_or, wI_get, false_and, true_and, and_true, and_false, and_self, Nat.reduceEqDiff, Nat.succ_ne_zero, reduceCtorEq, nI_lit, nI_lit0, Nat.reduceLT]; done)
theorem r_gives_0 {L : Nat} {xs : Nat → Int32} {D n : Nat} {I J : ex_Mem} {m x s nn b N : Nat} (hk : J 69 m = nI 0) (hx6 : x < 6) (hx : J 70 m = nI x) (hm : m < 8) (hb : b < 2) (hs : s < 3) (h1 : 1 ≤ nn) (h4 : nn ≤ 4) (hsb : J 72 m = nI (s + 1)) (hn : J 73 m = nI nn) (hh : hwB N J) (hN : N + 8 < 2 ^ 31) (hg : gdB 0 J) : ri L xs (D + 3) 119 [.ref 52, .int (nI m), .int (nI b)] (mkH n I J) (r_give J m x s nn b).1 (mkH n I (r_give J m x s nn b).2) := by
  rcases (by omega : x = 0 ∨ x = 1 ∨ x = 2 ∨ x = 3 ∨ x = 4 ∨ x = 5) with rfl | rfl | rfl | rfl | rfl | rfl
  · exact r_gives_0_0 hk hx hm hb hs h1 h4 hsb hn hh hN hg
  · exact r_gives_0_1 hk hx hm hb hs h1 h4 hsb hn hh hN hg
  · exact r_gives_0_2 hk hx hm hb hs h1 h4 hsb hn hh hN hg
  · exact r_gives_0_3 hk hx hm hb hs h1 h4 hsb hn hh hN hg
  · exact r_gives_0_4 hk hx hm hb hs h1 h4 hsb hn hh hN hg
  · exact r_gives_0_5 hk hx hm hb hs h1 h4 hsb hn hh hN hg
end
section
def r_pa (J : ex_Mem) (y s nn b : Nat) : Int32 × ex_Mem := r_put J b (r_cw y 0 (s + 1) nn)
def r_pb (J : ex_Mem) (y s nn b : Nat) : Int32 × ex_Mem := r_hears (r_pa J y s nn b).2 y (r_pa J y s nn b).1 (r_cw y 0 (s + 1) nn) (nI 0) (nI 0)
def r_pc (J : ex_Mem) (x y s nn b : Nat) : Int32 × ex_Mem := r_put (r_pb J y s nn b).2 b (r_cw x 1 (s + 1) nn)
def r_pd (J : ex_Mem) (x y s nn b : Nat) : Int32 × ex_Mem := r_hears (r_pc J x y s nn b).2 x (r_pc J x y s nn b).1 (r_cw x 1 (s + 1) nn) (nI 0) (nI 0)
def r_pe (J : ex_Mem) (x y s nn b : Nat) : Int32 × ex_Mem :=
  if (r_pd J x y s nn b).1 = 0 then (nI 0, (r_pd J x y s nn b).2) else if (r_ans (r_pd J x y s nn b).2 x s nn b).1 = 0 then (nI 0, (r_ans (r_pd J x y s nn b).2 x s nn b).2) else (nI 1, (r_ans (r_pd J x y s nn b).2 x s nn b).2)
def r_pf (J : ex_Mem) (x y s nn b : Nat) : Int32 × ex_Mem :=
  if (r_pb J y s nn b).1 = 0 then (nI 0, (r_pe J x y s nn b).2)
  else if (r_takes (r_pe J x y s nn b).2 y s nn (nI 0)).1 = 0 then (nI 0, (r_takes (r_pe J x y s nn b).2 y s nn (nI 0)).2)
  else if (r_says (r_takes (r_pe J x y s nn b).2 y s nn (nI 0)).2 y b (r_st (r_takes (r_pe J x y s nn b).2 y s nn (nI 0)).2 y)).1 = nI 1 then (nI 1, (r_says (r_takes (r_pe J x y s nn b).2 y s nn (nI 0)).2 y b (r_st (r_takes (r_pe J x y s nn b).2 y s nn (nI 0)).2 y)).2)
  else (nI 0, (r_says (r_takes (r_pe J x y s nn b).2 y s nn (nI 0)).2 y b (r_st (r_takes (r_pe J x y s nn b).2 y s nn (nI 0)).2 y)).2)
def r_pass (J : ex_Mem) (x y s nn b : Nat) : Int32 × ex_Mem := (if (r_pe J x y s nn b).1 = 0 then nI 0 else if (r_pf J x y s nn b).1 = 0 then nI 0 else nI 1, (r_pf J x y s nn b).2)
theorem r_passes_ok {L : Nat} {xs : Nat → Int32} {D n : Nat} {I J : ex_Mem} {m x y s nn b N : Nat} (hm : m < 8) (hb : b < 2) (hx6 : x < 6) (hy6 : y < 6) (hs : s < 3) (h1 : 1 ≤ nn) (h4 : nn ≤ 4) (hx : J 70 m = nI x) (hy : J 71 m = nI y) (hsb : J 72 m = nI (s + 1)) (hn : J 73 m = nI nn) (hh : hwB N J) (hN : N + 12 < 2 ^ 31) (hg : gdB 0 J) : ri L xs (D + 4) 122 [.ref 52, .int (nI m), .int (nI b)] (mkH n I J) ((r_pass J x y s nn b).1) (mkH n I (r_pass J x y s nn b).2) := by
  show xx cb_G _ _ _ 122 0 [.ref 52, .int (nI m), .int (nI b), ex_no, ex_no, ex_no, ex_no, ex_no, ex_no, ex_no, ex_no] [] _ _
  refine xi_aload_n (pc' := 1) rfl rfl rfl ?_
  refine xr_getp (pc' := 4) rfl rfl (by decide) rfl rfl rfl ?_
  refine xi_iload_n (pc' := 5) rfl rfl rfl ?_
  refine xr_ialdv (v := nI (x)) (j := m) (pc' := 6) rfl rfl (by decide) (by first | rfl | (simp only [ix_add, ix_mul, ix_pred]; done) | (simp only [ix_add, ix_mul, ix_pred, *]; done)) (by omega) (by decide) (hx) rfl ?_
  refine xi_istore_n (pc' := 7) rfl (st1_3 rfl) rfl ?_
  refine xi_aload_n (pc' := 8) rfl rfl rfl ?_
  refine xr_getp (pc' := 11) rfl rfl (by decide) rfl rfl rfl ?_
  refine xi_iload_n (pc' := 12) rfl rfl rfl ?_
  refine xr_ialdv (v := nI (y)) (j := m) (pc' := 13) rfl rfl (by decide) (by first | rfl | (simp only [ix_add, ix_mul, ix_pred]; done) | (simp only [ix_add, ix_mul, ix_pred, *]; done)) (by omega) (by decide) (hy) rfl ?_
  refine xi_istore (pc' := 15) rfl (st1_4 rfl) rfl ?_
  refine xi_iload (pc' := 17) rfl rfl rfl ?_
  refine xi_iconst (pc' := 18) rfl rfl ?_
  refine xi_aload_n (pc' := 19) rfl rfl rfl ?_
  refine xr_getp (pc' := 22) rfl rfl (by decide) rfl rfl rfl ?_
  refine xi_iload_n (pc' := 23) rfl rfl rfl ?_
  refine xr_ialdv (v := nI (s + 1)) (j := m) (pc' := 24) rfl rfl (by decide) (by first | rfl | (simp only [ix_add, ix_mul, ix_pred]; done) | (simp only [ix_add, ix_mul, ix_pred, *]; done)) (by omega) (by decide) (by simp only [wI_fr, says_fr, put_fr, takes_fr, hears_fr, dat_fr, dw_fr, ans_fr, eff_fr, tell_fr, ne_eq, Nat.reduceEqDiff, not_false_eq_true, hsb]) rfl ?_
  refine xi_aload_n (pc' := 25) rfl rfl rfl ?_
  refine xr_getp (pc' := 28) rfl rfl (by decide) rfl rfl rfl ?_
  refine xi_iload_n (pc' := 29) rfl rfl rfl ?_
  refine xr_ialdv (v := nI (nn)) (j := m) (pc' := 30) rfl rfl (by decide) (by first | rfl | (simp only [ix_add, ix_mul, ix_pred]; done) | (simp only [ix_add, ix_mul, ix_pred, *]; done)) (by omega) (by decide) (by simp only [wI_fr, says_fr, put_fr, takes_fr, hears_fr, dat_fr, dw_fr, ans_fr, eff_fr, tell_fr, ne_eq, Nat.reduceEqDiff, not_false_eq_true, hn]) rfl ?_
  refine xx_callSi (pc' := 33) rfl rfl (by decide) rfl (Nat.le_of_ble_eq_true rfl) rfl rfl (r_commandW) ?_
  refine xi_istore (pc' := 35) rfl (st1_5 rfl) rfl ?_
  refine xi_aload_n (pc' := 36) rfl rfl rfl ?_
  refine xi_iload_n (pc' := 37) rfl rfl rfl ?_
  refine xi_iconst (pc' := 38) rfl rfl ?_
  refine xi_iload (pc' := 40) rfl rfl rfl ?_
  refine xx_callVi (pc' := 43) rfl rfl (by decide) rfl rfl (by show _ < 81 + 2 * _; omega) (Nat.le_of_ble_eq_true rfl) rfl rfl (r_put0 hb hh (by omega)) ?_
  refine xi_istore (pc' := 45) rfl (st1_6 rfl) rfl ?_
  refine xi_aload_n (pc' := 46) rfl rfl rfl ?_
  refine xi_iload (pc' := 48) rfl rfl rfl ?_
  refine xi_iload (pc' := 50) rfl rfl rfl ?_
  refine xi_iload (pc' := 52) rfl rfl rfl ?_
  refine xi_iconst (pc' := 53) rfl rfl ?_
  refine xi_iconst (pc' := 54) rfl rfl ?_
  refine xx_callVi (pc' := 57) rfl rfl (by decide) rfl rfl (by show _ < 81 + 2 * _; omega) (Nat.le_of_ble_eq_true rfl) rfl rfl (r_hears_ok hy6) ?_
  refine xi_istore (pc' := 59) rfl (st1_7 rfl) rfl ?_
  refine xi_iload_n (pc' := 60) rfl rfl rfl ?_
  refine xi_iconst (pc' := 61) rfl rfl ?_
  refine xi_aload_n (pc' := 62) rfl rfl rfl ?_
  refine xr_getp (pc' := 65) rfl rfl (by decide) rfl rfl rfl ?_
  refine xi_iload_n (pc' := 66) rfl rfl rfl ?_
  refine xr_ialdv (v := nI (s + 1)) (j := m) (pc' := 67) rfl rfl (by decide) (by first | rfl | (simp only [ix_add, ix_mul, ix_pred]; done) | (simp only [ix_add, ix_mul, ix_pred, *]; done)) (by omega) (by decide) (by simp only [wI_fr, says_fr, put_fr, takes_fr, hears_fr, dat_fr, dw_fr, ans_fr, eff_fr, tell_fr, ne_eq, Nat.reduceEqDiff, not_false_eq_true, hsb]) rfl ?_
  refine xi_aload_n (pc' := 68) rfl rfl rfl ?_
  refine xr_getp (pc' := 71) rfl rfl (by decide) rfl rfl rfl ?_
  refine xi_iload_n (pc' := 72) rfl rfl rfl ?_
  refine xr_ialdv (v := nI (nn)) (j := m) (pc' := 73) rfl rfl (by decide) (by first | rfl | (simp only [ix_add, ix_mul, ix_pred]; done) | (simp only [ix_add, ix_mul, ix_pred, *]; done)) (by omega) (by decide) (by simp only [wI_fr, says_fr, put_fr, takes_fr, hears_fr, dat_fr, dw_fr, ans_fr, eff_fr, tell_fr, ne_eq, Nat.reduceEqDiff, not_false_eq_true, hn]) rfl ?_
  refine xx_callSi (pc' := 76) rfl rfl (by decide) rfl (Nat.le_of_ble_eq_true rfl) rfl rfl (r_commandW) ?_
  refine xi_istore (pc' := 78) rfl (st1_8 rfl) rfl ?_
  refine xi_aload_n (pc' := 79) rfl rfl rfl ?_
  refine xi_iload_n (pc' := 80) rfl rfl rfl ?_
  refine xi_iconst (pc' := 81) rfl rfl ?_
  refine xi_iload (pc' := 83) rfl rfl rfl ?_
  refine xx_callVi (pc' := 86) rfl rfl (by decide) rfl rfl (by show _ < 81 + 2 * _; omega) (Nat.le_of_ble_eq_true rfl) rfl rfl (r_put0 hb (hears_hw (hwB_put hh (by omega))) (by omega)) ?_
  refine xi_istore (pc' := 88) rfl (st1_6 rfl) rfl ?_
  refine xi_aload_n (pc' := 89) rfl rfl rfl ?_
  refine xi_iload_n (pc' := 90) rfl rfl rfl ?_
  refine xi_iload (pc' := 92) rfl rfl rfl ?_
  refine xi_iload (pc' := 94) rfl rfl rfl ?_
  refine xi_iconst (pc' := 95) rfl rfl ?_
  refine xi_iconst (pc' := 96) rfl rfl ?_
  refine xx_callVi (pc' := 99) rfl rfl (by decide) rfl rfl (by show _ < 81 + 2 * _; omega) (Nat.le_of_ble_eq_true rfl) rfl rfl (r_hears_ok hx6) ?_
  refine xx_if (pc' := 102) (tg := 127) rfl rfl rfl (fun q99 => ?_) (fun q99 => ?_)
  · refine xi_iconst (pc' := 128) rfl rfl ?_
    refine xi_istore (pc' := 130) rfl (st1_9 rfl) rfl ?_
    refine xi_iload (pc' := 132) rfl rfl rfl ?_
    refine xx_if (pc' := 135) (tg := 172) rfl rfl rfl (fun q132 => ?_) (fun q132 => ?_)
    · refine xi_iconst (pc' := 173) rfl rfl ?_
      refine xi_istore (pc' := 175) rfl (st1_10 rfl) rfl ?_
      refine xi_iload (pc' := 177) rfl rfl rfl ?_
      refine xi_ift (pc' := 189) rfl rfl (by decide) ?_
      refine xi_iconst (pc' := 190) rfl rfl ?_
      refine xx_zreturn rfl rfl (by decide) ?_
      simp only [ex_P, Classical.not_not, ↓reduceIte, Nat.add_zero, or_true, true_or, not_true_eq_false, not_false_eq_true, or_false, false_or, wI_get, false_and, true_and, and_true, and_false, and_self, Nat.reduceEqDiff, Nat.succ_ne_zero, reduceCtorEq, nI_lit, nI_lit0, Nat.reduceLT] at *
      first | (simp only [r_pass, r_pa, r_pb, r_pc, r_pd, r_pe, r_pf, *, ↓reduceIte, Nat.add_zero, or_true, true_or, not_true_eq_false, not_false_eq_true, or_false, false_or, wI_get, false_and, true_and, and_true, and_false, and_self, Nat.reduceEqDiff, Nat.succ_ne_zero, reduceCtorEq, nI_lit, nI_lit0, Nat.reduceLT]; done) | (exfalso; simp_all only [↓reduceIte, Nat.add_zero, or_true, true_or, not_true_eq_false, not_false_eq_true, or_false, false_or, wI_get, false_and, true_and, and_true, and_false, and_self, Nat.reduceEqDiff, Nat.succ_ne_zero, reduceCtorEq, nI_lit, nI_lit0, Nat.reduceLT]; done)
    · refine xi_aload_n (pc' := 136) rfl rfl rfl ?_
      refine xi_iload (pc' := 138) rfl rfl rfl ?_
      refine xi_aload_n (pc' := 139) rfl rfl rfl ?_
      refine xr_getp (pc' := 142) rfl rfl (by decide) rfl rfl rfl ?_
      refine xi_iload_n (pc' := 143) rfl rfl rfl ?_
      refine xr_ialdv (v := nI (s + 1)) (j := m) (pc' := 144) rfl rfl (by decide) (by first | rfl | (simp only [ix_add, ix_mul, ix_pred]; done) | (simp only [ix_add, ix_mul, ix_pred, *]; done)) (by omega) (by decide) (by simp only [wI_fr, says_fr, put_fr, takes_fr, hears_fr, dat_fr, dw_fr, ans_fr, eff_fr, tell_fr, ne_eq, Nat.reduceEqDiff, not_false_eq_true, hsb]) rfl ?_
      refine xi_aload_n (pc' := 145) rfl rfl rfl ?_
      refine xr_getp (pc' := 148) rfl rfl (by decide) rfl rfl rfl ?_
      refine xi_iload_n (pc' := 149) rfl rfl rfl ?_
      refine xr_ialdv (v := nI (nn)) (j := m) (pc' := 150) rfl rfl (by decide) (by first | rfl | (simp only [ix_add, ix_mul, ix_pred]; done) | (simp only [ix_add, ix_mul, ix_pred, *]; done)) (by omega) (by decide) (by simp only [wI_fr, says_fr, put_fr, takes_fr, hears_fr, dat_fr, dw_fr, ans_fr, eff_fr, tell_fr, ne_eq, Nat.reduceEqDiff, not_false_eq_true, hn]) rfl ?_
      refine xi_iconst (pc' := 151) rfl rfl ?_
      refine xx_callVi (pc' := 154) rfl rfl (by decide) rfl rfl (by show _ < 81 + 2 * _; omega) (Nat.le_of_ble_eq_true rfl) rfl rfl (r_takes_ok (D := D + 2) hy6 hs h1 h4 (by decide)) ?_
      refine xx_if (pc' := 157) (tg := 172) rfl rfl rfl (fun q154 => ?_) (fun q154 => ?_)
      · refine xi_iconst (pc' := 173) rfl rfl ?_
        refine xi_istore (pc' := 175) rfl (st1_10 rfl) rfl ?_
        refine xi_iload (pc' := 177) rfl rfl rfl ?_
        refine xi_ift (pc' := 189) rfl rfl (by decide) ?_
        refine xi_iconst (pc' := 190) rfl rfl ?_
        refine xx_zreturn rfl rfl (by decide) ?_
        simp only [ex_P, Classical.not_not, ↓reduceIte, Nat.add_zero, or_true, true_or, not_true_eq_false, not_false_eq_true, or_false, false_or, wI_get, false_and, true_and, and_true, and_false, and_self, Nat.reduceEqDiff, Nat.succ_ne_zero, reduceCtorEq, nI_lit, nI_lit0, Nat.reduceLT] at *
        first | (simp only [r_pass, r_pa, r_pb, r_pc, r_pd, r_pe, r_pf, *, ↓reduceIte, Nat.add_zero, or_true, true_or, not_true_eq_false, not_false_eq_true, or_false, false_or, wI_get, false_and, true_and, and_true, and_false, and_self, Nat.reduceEqDiff, Nat.succ_ne_zero, reduceCtorEq, nI_lit, nI_lit0, Nat.reduceLT]; done) | (exfalso; simp_all only [↓reduceIte, Nat.add_zero, or_true, true_or, not_true_eq_false, not_false_eq_true, or_false, false_or, wI_get, false_and, true_and, and_true, and_false, and_self, Nat.reduceEqDiff, Nat.succ_ne_zero, reduceCtorEq, nI_lit, nI_lit0, Nat.reduceLT]; done)
      · refine xi_aload_n (pc' := 158) rfl rfl rfl ?_
        refine xi_iload (pc' := 160) rfl rfl rfl ?_
        refine xi_iload_n (pc' := 161) rfl rfl rfl ?_
        refine xx_callVi (pc' := 164) rfl rfl (by decide) rfl rfl (by show _ < 81 + 2 * _; omega) (Nat.le_of_ble_eq_true rfl) rfl rfl (by first | exact r_saysStatus (N := N + 3 + nn) hy6 hb (takes_hw (ans_hw (hears_hw (hwB_put (hears_hw (hwB_put hh (by omega))) (by omega))) (by omega))) (by omega) | exact r_saysStatus (N := N + 2) hy6 hb (takes_hw (hears_hw (hwB_put (hears_hw (hwB_put hh (by omega))) (by omega)))) (by omega)) ?_
        refine xi_iconst (pc' := 165) rfl rfl ?_
        refine xx_icmp (pc' := 168) (tg := 172) rfl rfl rfl (fun q165 => ?_) (fun q165 => ?_)
        · refine xi_iconst (pc' := 173) rfl rfl ?_
          refine xi_istore (pc' := 175) rfl (st1_10 rfl) rfl ?_
          refine xi_iload (pc' := 177) rfl rfl rfl ?_
          refine xi_ift (pc' := 189) rfl rfl (by decide) ?_
          refine xi_iconst (pc' := 190) rfl rfl ?_
          refine xx_zreturn rfl rfl (by decide) ?_
          simp only [ex_P, Classical.not_not, ↓reduceIte, Nat.add_zero, or_true, true_or, not_true_eq_false, not_false_eq_true, or_false, false_or, wI_get, false_and, true_and, and_true, and_false, and_self, Nat.reduceEqDiff, Nat.succ_ne_zero, reduceCtorEq, nI_lit, nI_lit0, Nat.reduceLT] at *
          first | (simp only [r_pass, r_pa, r_pb, r_pc, r_pd, r_pe, r_pf, *, ↓reduceIte, Nat.add_zero, or_true, true_or, not_true_eq_false, not_false_eq_true, or_false, false_or, wI_get, false_and, true_and, and_true, and_false, and_self, Nat.reduceEqDiff, Nat.succ_ne_zero, reduceCtorEq, nI_lit, nI_lit0, Nat.reduceLT]; done) | (exfalso; simp_all only [↓reduceIte, Nat.add_zero, or_true, true_or, not_true_eq_false, not_false_eq_true, or_false, false_or, wI_get, false_and, true_and, and_true, and_false, and_self, Nat.reduceEqDiff, Nat.succ_ne_zero, reduceCtorEq, nI_lit, nI_lit0, Nat.reduceLT]; done)
        · refine xi_iconst (pc' := 169) rfl rfl ?_
          refine xi_goto (pc' := 173) rfl rfl ?_
          refine xi_istore (pc' := 175) rfl (st1_10 rfl) rfl ?_
          refine xi_iload (pc' := 177) rfl rfl rfl ?_
          refine xi_ift (pc' := 189) rfl rfl (by decide) ?_
          refine xi_iconst (pc' := 190) rfl rfl ?_
          refine xx_zreturn rfl rfl (by decide) ?_
          simp only [ex_P, Classical.not_not, ↓reduceIte, Nat.add_zero, or_true, true_or, not_true_eq_false, not_false_eq_true, or_false, false_or, wI_get, false_and, true_and, and_true, and_false, and_self, Nat.reduceEqDiff, Nat.succ_ne_zero, reduceCtorEq, nI_lit, nI_lit0, Nat.reduceLT] at *
          first | (simp only [r_pass, r_pa, r_pb, r_pc, r_pd, r_pe, r_pf, *, ↓reduceIte, Nat.add_zero, or_true, true_or, not_true_eq_false, not_false_eq_true, or_false, false_or, wI_get, false_and, true_and, and_true, and_false, and_self, Nat.reduceEqDiff, Nat.succ_ne_zero, reduceCtorEq, nI_lit, nI_lit0, Nat.reduceLT]; done) | (exfalso; simp_all only [↓reduceIte, Nat.add_zero, or_true, true_or, not_true_eq_false, not_false_eq_true, or_false, false_or, wI_get, false_and, true_and, and_true, and_false, and_self, Nat.reduceEqDiff, Nat.succ_ne_zero, reduceCtorEq, nI_lit, nI_lit0, Nat.reduceLT]; done)
  · refine xi_aload_n (pc' := 103) rfl rfl rfl ?_
    refine xi_iload_n (pc' := 104) rfl rfl rfl ?_
    refine xi_aload_n (pc' := 105) rfl rfl rfl ?_
    refine xr_getp (pc' := 108) rfl rfl (by decide) rfl rfl rfl ?_
    refine xi_iload_n (pc' := 109) rfl rfl rfl ?_
    refine xr_ialdv (v := nI (s + 1)) (j := m) (pc' := 110) rfl rfl (by decide) (by first | rfl | (simp only [ix_add, ix_mul, ix_pred]; done) | (simp only [ix_add, ix_mul, ix_pred, *]; done)) (by omega) (by decide) (by simp only [wI_fr, says_fr, put_fr, takes_fr, hears_fr, dat_fr, dw_fr, ans_fr, eff_fr, tell_fr, ne_eq, Nat.reduceEqDiff, not_false_eq_true, hsb]) rfl ?_
    refine xi_aload_n (pc' := 111) rfl rfl rfl ?_
    refine xr_getp (pc' := 114) rfl rfl (by decide) rfl rfl rfl ?_
    refine xi_iload_n (pc' := 115) rfl rfl rfl ?_
    refine xr_ialdv (v := nI (nn)) (j := m) (pc' := 116) rfl rfl (by decide) (by first | rfl | (simp only [ix_add, ix_mul, ix_pred]; done) | (simp only [ix_add, ix_mul, ix_pred, *]; done)) (by omega) (by decide) (by simp only [wI_fr, says_fr, put_fr, takes_fr, hears_fr, dat_fr, dw_fr, ans_fr, eff_fr, tell_fr, ne_eq, Nat.reduceEqDiff, not_false_eq_true, hn]) rfl ?_
    refine xi_iload_n (pc' := 117) rfl rfl rfl ?_
    refine xx_callVi (pc' := 120) rfl rfl (by decide) rfl rfl (by show _ < 81 + 2 * _; omega) (Nat.le_of_ble_eq_true rfl) rfl rfl (r_answers_ok (D := D) (N := N + 2) (g := 0) hx6 hs h4 hb (hears_hw (hwB_put (hears_hw (hwB_put hh (by omega))) (by omega))) (by omega) (hears_gd (put_gdB (hears_gd (put_gdB hg)))) (by omega)) ?_
    refine xx_if (pc' := 123) (tg := 127) rfl rfl rfl (fun q120 => ?_) (fun q120 => ?_)
    · refine xi_iconst (pc' := 128) rfl rfl ?_
      refine xi_istore (pc' := 130) rfl (st1_9 rfl) rfl ?_
      refine xi_iload (pc' := 132) rfl rfl rfl ?_
      refine xx_if (pc' := 135) (tg := 172) rfl rfl rfl (fun q132 => ?_) (fun q132 => ?_)
      · refine xi_iconst (pc' := 173) rfl rfl ?_
        refine xi_istore (pc' := 175) rfl (st1_10 rfl) rfl ?_
        refine xi_iload (pc' := 177) rfl rfl rfl ?_
        refine xi_ift (pc' := 189) rfl rfl (by decide) ?_
        refine xi_iconst (pc' := 190) rfl rfl ?_
        refine xx_zreturn rfl rfl (by decide) ?_
        simp only [ex_P, Classical.not_not, ↓reduceIte, Nat.add_zero, or_true, true_or, not_true_eq_false, not_false_eq_true, or_false, false_or, wI_get, false_and, true_and, and_true, and_false, and_self, Nat.reduceEqDiff, Nat.succ_ne_zero, reduceCtorEq, nI_lit, nI_lit0, Nat.reduceLT] at *
        first | (simp only [r_pass, r_pa, r_pb, r_pc, r_pd, r_pe, r_pf, *, ↓reduceIte, Nat.add_zero, or_true, true_or, not_true_eq_false, not_false_eq_true, or_false, false_or, wI_get, false_and, true_and, and_true, and_false, and_self, Nat.reduceEqDiff, Nat.succ_ne_zero, reduceCtorEq, nI_lit, nI_lit0, Nat.reduceLT]; done) | (exfalso; simp_all only [↓reduceIte, Nat.add_zero, or_true, true_or, not_true_eq_false, not_false_eq_true, or_false, false_or, wI_get, false_and, true_and, and_true, and_false, and_self, Nat.reduceEqDiff, Nat.succ_ne_zero, reduceCtorEq, nI_lit, nI_lit0, Nat.reduceLT]; done)
      · refine xi_aload_n (pc' := 136) rfl rfl rfl ?_
        refine xi_iload (pc' := 138) rfl rfl rfl ?_
        refine xi_aload_n (pc' := 139) rfl rfl rfl ?_
        refine xr_getp (pc' := 142) rfl rfl (by decide) rfl rfl rfl ?_
        refine xi_iload_n (pc' := 143) rfl rfl rfl ?_
        refine xr_ialdv (v := nI (s + 1)) (j := m) (pc' := 144) rfl rfl (by decide) (by first | rfl | (simp only [ix_add, ix_mul, ix_pred]; done) | (simp only [ix_add, ix_mul, ix_pred, *]; done)) (by omega) (by decide) (by simp only [wI_fr, says_fr, put_fr, takes_fr, hears_fr, dat_fr, dw_fr, ans_fr, eff_fr, tell_fr, ne_eq, Nat.reduceEqDiff, not_false_eq_true, hsb]) rfl ?_
        refine xi_aload_n (pc' := 145) rfl rfl rfl ?_
        refine xr_getp (pc' := 148) rfl rfl (by decide) rfl rfl rfl ?_
        refine xi_iload_n (pc' := 149) rfl rfl rfl ?_
        refine xr_ialdv (v := nI (nn)) (j := m) (pc' := 150) rfl rfl (by decide) (by first | rfl | (simp only [ix_add, ix_mul, ix_pred]; done) | (simp only [ix_add, ix_mul, ix_pred, *]; done)) (by omega) (by decide) (by simp only [wI_fr, says_fr, put_fr, takes_fr, hears_fr, dat_fr, dw_fr, ans_fr, eff_fr, tell_fr, ne_eq, Nat.reduceEqDiff, not_false_eq_true, hn]) rfl ?_
        refine xi_iconst (pc' := 151) rfl rfl ?_
        refine xx_callVi (pc' := 154) rfl rfl (by decide) rfl rfl (by show _ < 81 + 2 * _; omega) (Nat.le_of_ble_eq_true rfl) rfl rfl (r_takes_ok (D := D + 2) hy6 hs h1 h4 (by decide)) ?_
        refine xx_if (pc' := 157) (tg := 172) rfl rfl rfl (fun q154 => ?_) (fun q154 => ?_)
        · refine xi_iconst (pc' := 173) rfl rfl ?_
          refine xi_istore (pc' := 175) rfl (st1_10 rfl) rfl ?_
          refine xi_iload (pc' := 177) rfl rfl rfl ?_
          refine xi_ift (pc' := 189) rfl rfl (by decide) ?_
          refine xi_iconst (pc' := 190) rfl rfl ?_
          refine xx_zreturn rfl rfl (by decide) ?_
          simp only [ex_P, Classical.not_not, ↓reduceIte, Nat.add_zero, or_true, true_or, not_true_eq_false, not_false_eq_true, or_false, false_or, wI_get, false_and, true_and, and_true, and_false, and_self, Nat.reduceEqDiff, Nat.succ_ne_zero, reduceCtorEq, nI_lit, nI_lit0, Nat.reduceLT] at *
          first | (simp only [r_pass, r_pa, r_pb, r_pc, r_pd, r_pe, r_pf, *, ↓reduceIte, Nat.add_zero, or_true, true_or, not_true_eq_false, not_false_eq_true, or_false, false_or, wI_get, false_and, true_and, and_true, and_false, and_self, Nat.reduceEqDiff, Nat.succ_ne_zero, reduceCtorEq, nI_lit, nI_lit0, Nat.reduceLT]; done) | (exfalso; simp_all only [↓reduceIte, Nat.add_zero, or_true, true_or, not_true_eq_false, not_false_eq_true, or_false, false_or, wI_get, false_and, true_and, and_true, and_false, and_self, Nat.reduceEqDiff, Nat.succ_ne_zero, reduceCtorEq, nI_lit, nI_lit0, Nat.reduceLT]; done)
        · refine xi_aload_n (pc' := 158) rfl rfl rfl ?_
          refine xi_iload (pc' := 160) rfl rfl rfl ?_
          refine xi_iload_n (pc' := 161) rfl rfl rfl ?_
          refine xx_callVi (pc' := 164) rfl rfl (by decide) rfl rfl (by show _ < 81 + 2 * _; omega) (Nat.le_of_ble_eq_true rfl) rfl rfl (by first | exact r_saysStatus (N := N + 3 + nn) hy6 hb (takes_hw (ans_hw (hears_hw (hwB_put (hears_hw (hwB_put hh (by omega))) (by omega))) (by omega))) (by omega) | exact r_saysStatus (N := N + 2) hy6 hb (takes_hw (hears_hw (hwB_put (hears_hw (hwB_put hh (by omega))) (by omega)))) (by omega)) ?_
          refine xi_iconst (pc' := 165) rfl rfl ?_
          refine xx_icmp (pc' := 168) (tg := 172) rfl rfl rfl (fun q165 => ?_) (fun q165 => ?_)
          · refine xi_iconst (pc' := 173) rfl rfl ?_
            refine xi_istore (pc' := 175) rfl (st1_10 rfl) rfl ?_
            refine xi_iload (pc' := 177) rfl rfl rfl ?_
            refine xi_ift (pc' := 189) rfl rfl (by decide) ?_
            refine xi_iconst (pc' := 190) rfl rfl ?_
            refine xx_zreturn rfl rfl (by decide) ?_
            simp only [ex_P, Classical.not_not, ↓reduceIte, Nat.add_zero, or_true, true_or, not_true_eq_false, not_false_eq_true, or_false, false_or, wI_get, false_and, true_and, and_true, and_false, and_self, Nat.reduceEqDiff, Nat.succ_ne_zero, reduceCtorEq, nI_lit, nI_lit0, Nat.reduceLT] at *
            first | (simp only [r_pass, r_pa, r_pb, r_pc, r_pd, r_pe, r_pf, *, ↓reduceIte, Nat.add_zero, or_true, true_or, not_true_eq_false, not_false_eq_true, or_false, false_or, wI_get, false_and, true_and, and_true, and_false, and_self, Nat.reduceEqDiff, Nat.succ_ne_zero, reduceCtorEq, nI_lit, nI_lit0, Nat.reduceLT]; done) | (exfalso; simp_all only [↓reduceIte, Nat.add_zero, or_true, true_or, not_true_eq_false, not_false_eq_true, or_false, false_or, wI_get, false_and, true_and, and_true, and_false, and_self, Nat.reduceEqDiff, Nat.succ_ne_zero, reduceCtorEq, nI_lit, nI_lit0, Nat.reduceLT]; done)
          · refine xi_iconst (pc' := 169) rfl rfl ?_
            refine xi_goto (pc' := 173) rfl rfl ?_
            refine xi_istore (pc' := 175) rfl (st1_10 rfl) rfl ?_
            refine xi_iload (pc' := 177) rfl rfl rfl ?_
            refine xi_ift (pc' := 189) rfl rfl (by decide) ?_
            refine xi_iconst (pc' := 190) rfl rfl ?_
            refine xx_zreturn rfl rfl (by decide) ?_
            simp only [ex_P, Classical.not_not, ↓reduceIte, Nat.add_zero, or_true, true_or, not_true_eq_false, not_false_eq_true, or_false, false_or, wI_get, false_and, true_and, and_true, and_false, and_self, Nat.reduceEqDiff, Nat.succ_ne_zero, reduceCtorEq, nI_lit, nI_lit0, Nat.reduceLT] at *
            first | (simp only [r_pass, r_pa, r_pb, r_pc, r_pd, r_pe, r_pf, *, ↓reduceIte, Nat.add_zero, or_true, true_or, not_true_eq_false, not_false_eq_true, or_false, false_or, wI_get, false_and, true_and, and_true, and_false, and_self, Nat.reduceEqDiff, Nat.succ_ne_zero, reduceCtorEq, nI_lit, nI_lit0, Nat.reduceLT]; done) | (exfalso; simp_all only [↓reduceIte, Nat.add_zero, or_true, true_or, not_true_eq_false, not_false_eq_true, or_false, false_or, wI_get, false_and, true_and, and_true, and_false, and_self, Nat.reduceEqDiff, Nat.succ_ne_zero, reduceCtorEq, nI_lit, nI_lit0, Nat.reduceLT]; done)
    · refine xi_iconst (pc' := 124) rfl rfl ?_
      refine xi_goto (pc' := 128) rfl rfl ?_
      refine xi_istore (pc' := 130) rfl (st1_9 rfl) rfl ?_
      refine xi_iload (pc' := 132) rfl rfl rfl ?_
      refine xx_if (pc' := 135) (tg := 172) rfl rfl rfl (fun q132 => ?_) (fun q132 => ?_)
      · refine xi_iconst (pc' := 173) rfl rfl ?_
        refine xi_istore (pc' := 175) rfl (st1_10 rfl) rfl ?_
        refine xi_iload (pc' := 177) rfl rfl rfl ?_
        refine xi_iff (pc' := 180) (tg := 189) rfl rfl (by decide) rfl ?_
        refine xi_iload (pc' := 182) rfl rfl rfl ?_
        refine xi_ift (pc' := 189) rfl rfl (by decide) ?_
        refine xi_iconst (pc' := 190) rfl rfl ?_
        refine xx_zreturn rfl rfl (by decide) ?_
        simp only [ex_P, Classical.not_not, ↓reduceIte, Nat.add_zero, or_true, true_or, not_true_eq_false, not_false_eq_true, or_false, false_or, wI_get, false_and, true_and, and_true, and_false, and_self, Nat.reduceEqDiff, Nat.succ_ne_zero, reduceCtorEq, nI_lit, nI_lit0, Nat.reduceLT] at *
        first | (simp only [r_pass, r_pa, r_pb, r_pc, r_pd, r_pe, r_pf, *, ↓reduceIte, Nat.add_zero, or_true, true_or, not_true_eq_false, not_false_eq_true, or_false, false_or, wI_get, false_and, true_and, and_true, and_false, and_self, Nat.reduceEqDiff, Nat.succ_ne_zero, reduceCtorEq, nI_lit, nI_lit0, Nat.reduceLT]; done) | (exfalso; simp_all only [↓reduceIte, Nat.add_zero, or_true, true_or, not_true_eq_false, not_false_eq_true, or_false, false_or, wI_get, false_and, true_and, and_true, and_false, and_self, Nat.reduceEqDiff, Nat.succ_ne_zero, reduceCtorEq, nI_lit, nI_lit0, Nat.reduceLT]; done)
      · refine xi_aload_n (pc' := 136) rfl rfl rfl ?_
        refine xi_iload (pc' := 138) rfl rfl rfl ?_
        refine xi_aload_n (pc' := 139) rfl rfl rfl ?_
        refine xr_getp (pc' := 142) rfl rfl (by decide) rfl rfl rfl ?_
        refine xi_iload_n (pc' := 143) rfl rfl rfl ?_
        refine xr_ialdv (v := nI (s + 1)) (j := m) (pc' := 144) rfl rfl (by decide) (by first | rfl | (simp only [ix_add, ix_mul, ix_pred]; done) | (simp only [ix_add, ix_mul, ix_pred, *]; done)) (by omega) (by decide) (by simp only [wI_fr, says_fr, put_fr, takes_fr, hears_fr, dat_fr, dw_fr, ans_fr, eff_fr, tell_fr, ne_eq, Nat.reduceEqDiff, not_false_eq_true, hsb]) rfl ?_
        refine xi_aload_n (pc' := 145) rfl rfl rfl ?_
        refine xr_getp (pc' := 148) rfl rfl (by decide) rfl rfl rfl ?_
        refine xi_iload_n (pc' := 149) rfl rfl rfl ?_
        refine xr_ialdv (v := nI (nn)) (j := m) (pc' := 150) rfl rfl (by decide) (by first | rfl | (simp only [ix_add, ix_mul, ix_pred]; done) | (simp only [ix_add, ix_mul, ix_pred, *]; done)) (by omega) (by decide) (by simp only [wI_fr, says_fr, put_fr, takes_fr, hears_fr, dat_fr, dw_fr, ans_fr, eff_fr, tell_fr, ne_eq, Nat.reduceEqDiff, not_false_eq_true, hn]) rfl ?_
        refine xi_iconst (pc' := 151) rfl rfl ?_
        refine xx_callVi (pc' := 154) rfl rfl (by decide) rfl rfl (by show _ < 81 + 2 * _; omega) (Nat.le_of_ble_eq_true rfl) rfl rfl (r_takes_ok (D := D + 2) hy6 hs h1 h4 (by decide)) ?_
        refine xx_if (pc' := 157) (tg := 172) rfl rfl rfl (fun q154 => ?_) (fun q154 => ?_)
        · refine xi_iconst (pc' := 173) rfl rfl ?_
          refine xi_istore (pc' := 175) rfl (st1_10 rfl) rfl ?_
          refine xi_iload (pc' := 177) rfl rfl rfl ?_
          refine xi_iff (pc' := 180) (tg := 189) rfl rfl (by decide) rfl ?_
          refine xi_iload (pc' := 182) rfl rfl rfl ?_
          refine xi_ift (pc' := 189) rfl rfl (by decide) ?_
          refine xi_iconst (pc' := 190) rfl rfl ?_
          refine xx_zreturn rfl rfl (by decide) ?_
          simp only [ex_P, Classical.not_not, ↓reduceIte, Nat.add_zero, or_true, true_or, not_true_eq_false, not_false_eq_true, or_false, false_or, wI_get, false_and, true_and, and_true, and_false, and_self, Nat.reduceEqDiff, Nat.succ_ne_zero, reduceCtorEq, nI_lit, nI_lit0, Nat.reduceLT] at *
          first | (simp only [r_pass, r_pa, r_pb, r_pc, r_pd, r_pe, r_pf, *, ↓reduceIte, Nat.add_zero, or_true, true_or, not_true_eq_false, not_false_eq_true, or_false, false_or, wI_get, false_and, true_and, and_true, and_false, and_self, Nat.reduceEqDiff, Nat.succ_ne_zero, reduceCtorEq, nI_lit, nI_lit0, Nat.reduceLT]; done) | (exfalso; simp_all only [↓reduceIte, Nat.add_zero, or_true, true_or, not_true_eq_false, not_false_eq_true, or_false, false_or, wI_get, false_and, true_and, and_true, and_false, and_self, Nat.reduceEqDiff, Nat.succ_ne_zero, reduceCtorEq, nI_lit, nI_lit0, Nat.reduceLT]; done)
        · refine xi_aload_n (pc' := 158) rfl rfl rfl ?_
          refine xi_iload (pc' := 160) rfl rfl rfl ?_
          refine xi_iload_n (pc' := 161) rfl rfl rfl ?_
          refine xx_callVi (pc' := 164) rfl rfl (by decide) rfl rfl (by show _ < 81 + 2 * _; omega) (Nat.le_of_ble_eq_true rfl) rfl rfl (by first | exact r_saysStatus (N := N + 3 + nn) hy6 hb (takes_hw (ans_hw (hears_hw (hwB_put (hears_hw (hwB_put hh (by omega))) (by omega))) (by omega))) (by omega) | exact r_saysStatus (N := N + 2) hy6 hb (takes_hw (hears_hw (hwB_put (hears_hw (hwB_put hh (by omega))) (by omega)))) (by omega)) ?_
          refine xi_iconst (pc' := 165) rfl rfl ?_
          refine xx_icmp (pc' := 168) (tg := 172) rfl rfl rfl (fun q165 => ?_) (fun q165 => ?_)
          · refine xi_iconst (pc' := 173) rfl rfl ?_
            refine xi_istore (pc' := 175) rfl (st1_10 rfl) rfl ?_
            refine xi_iload (pc' := 177) rfl rfl rfl ?_
            refine xi_iff (pc' := 180) (tg := 189) rfl rfl (by decide) rfl ?_
            refine xi_iload (pc' := 182) rfl rfl rfl ?_
            refine xi_ift (pc' := 189) rfl rfl (by decide) ?_
            refine xi_iconst (pc' := 190) rfl rfl ?_
            refine xx_zreturn rfl rfl (by decide) ?_
            simp only [ex_P, Classical.not_not, ↓reduceIte, Nat.add_zero, or_true, true_or, not_true_eq_false, not_false_eq_true, or_false, false_or, wI_get, false_and, true_and, and_true, and_false, and_self, Nat.reduceEqDiff, Nat.succ_ne_zero, reduceCtorEq, nI_lit, nI_lit0, Nat.reduceLT] at *
            first | (simp only [r_pass, r_pa, r_pb, r_pc, r_pd, r_pe, r_pf, *, ↓reduceIte, Nat.add_zero, or_true, true_or, not_true_eq_false, not_false_eq_true, or_false, false_or, wI_get, false_and, true_and, and_true, and_false, and_self, Nat.reduceEqDiff, Nat.succ_ne_zero, reduceCtorEq, nI_lit, nI_lit0, Nat.reduceLT]; done) | (exfalso; simp_all only [↓reduceIte, Nat.add_zero, or_true, true_or, not_true_eq_false, not_false_eq_true, or_false, false_or, wI_get, false_and, true_and, and_true, and_false, and_self, Nat.reduceEqDiff, Nat.succ_ne_zero, reduceCtorEq, nI_lit, nI_lit0, Nat.reduceLT]; done)
          · refine xi_iconst (pc' := 169) rfl rfl ?_
            refine xi_goto (pc' := 173) rfl rfl ?_
            refine xi_istore (pc' := 175) rfl (st1_10 rfl) rfl ?_
            refine xi_iload (pc' := 177) rfl rfl rfl ?_
            refine xi_iff (pc' := 180) (tg := 189) rfl rfl (by decide) rfl ?_
            refine xi_iload (pc' := 182) rfl rfl rfl ?_
            refine xi_iff (pc' := 185) (tg := 189) rfl rfl (by decide) rfl ?_
            refine xi_iconst (pc' := 186) rfl rfl ?_
            refine xi_goto (pc' := 190) rfl rfl ?_
            refine xx_zreturn rfl rfl (by decide) ?_
            simp only [ex_P, Classical.not_not, ↓reduceIte, Nat.add_zero, or_true, true_or, not_true_eq_false, not_false_eq_true, or_false, false_or, wI_get, false_and, true_and, and_true, and_false, and_self, Nat.reduceEqDiff, Nat.succ_ne_zero, reduceCtorEq, nI_lit, nI_lit0, Nat.reduceLT] at *
            first | (simp only [r_pass, r_pa, r_pb, r_pc, r_pd, r_pe, r_pf, *, ↓reduceIte, Nat.add_zero, or_true, true_or, not_true_eq_false, not_false_eq_true, or_false, false_or, wI_get, false_and, true_and, and_true, and_false, and_self, Nat.reduceEqDiff, Nat.succ_ne_zero, reduceCtorEq, nI_lit, nI_lit0, Nat.reduceLT]; done) | (exfalso; simp_all only [↓reduceIte, Nat.add_zero, or_true, true_or, not_true_eq_false, not_false_eq_true, or_false, false_or, wI_get, false_and, true_and, and_true, and_false, and_self, Nat.reduceEqDiff, Nat.succ_ne_zero, reduceCtorEq, nI_lit, nI_lit0, Nat.reduceLT]; done)
def r_cpy (J : ex_Mem) (m : Nat) : Nat → ex_Mem
  | 0 => J
  | k + 1 => ex_wI (r_cpy J m k) 76 (4 * m + k) (r_cpy J m k 79 k)
theorem cpy_fr {J : ex_Mem} {m a j : Nat} (h : a ≠ 76) : ∀ k, r_cpy J m k a j = J a j
  | 0 => rfl
  | k + 1 => (wI_fr h).trans (cpy_fr h k)
def r_ta (J : ex_Mem) (x s nn b : Nat) : Int32 × ex_Mem := r_hears (r_put J b (r_cw x 1 (s + 1) nn)).2 x (r_put J b (r_cw x 1 (s + 1) nn)).1 (r_cw x 1 (s + 1) nn) (nI 0) (nI 0)
def r_take (J : ex_Mem) (m x s nn b : Nat) : Int32 × ex_Mem :=
  if (r_ta J x s nn b).1 = 0 then (nI 0, (r_ta J x s nn b).2)
  else if (r_ans (r_ta J x s nn b).2 x s nn b).1 = 0 then (nI 0, (r_ans (r_ta J x s nn b).2 x s nn b).2)
  else if (r_ans (r_ta J x s nn b).2 x s nn b).2 52 32 = nI nn then (nI 1, r_cpy (r_ans (r_ta J x s nn b).2 x s nn b).2 m nn)
  else (nI 0, (r_ans (r_ta J x s nn b).2 x s nn b).2)
theorem r_cpy_loop {L : Nat} {xs : Nat → Int32} {D n : Nat} {I J : ex_Mem} {m nn b : Nat} {v3 v4 v5 : Value} (h3 : v3.category = 1) (h4c : v4.category = 1) (h5 : v5.category = 1) (hm : m < 8) (hb : b < 2) (h4 : nn ≤ 4) (hn : J 73 m = nI nn) : ∀ (j k : Nat), k + j = nn → xx cb_G L xs (D + 4) 118 168 [.ref 52, .int (nI m), .int (nI b), v3, v4, v5, .int (nI 1), .int (nI k)] [] (mkH n I (r_cpy J m k)) (fun r h => r = some (.int (nI 1)) ∧ h = mkH n I (r_cpy J m nn)) := by
  intro j
  induction j with
  | zero =>
    intro k hk
    have hk : k = nn := by omega
    subst hk
    refine xi_iload (pc' := 170) rfl rfl rfl ?_
    refine xi_aload_n (pc' := 171) rfl rfl rfl ?_
    refine xr_getp (pc' := 174) rfl rfl (by decide) rfl rfl rfl ?_
    refine xi_iload_n (pc' := 175) rfl rfl rfl ?_
    refine xr_ialdv (v := nI (k)) (j := m) (pc' := 176) rfl rfl (by decide) (by first | rfl | (simp only [ix_add, ix_mul, ix_pred]; done) | (simp only [ix_add, ix_mul, ix_pred, *]; done)) (by omega) (by decide) ((cpy_fr (by decide) k).trans hn) rfl ?_
    refine xx_icmp (pc' := 179) (tg := 208) rfl rfl rfl (fun q176 => ?_) (fun q176 => absurd (show ex_P .ge (nI k) (nI k) from Int32.le_refl _) q176)
    refine xi_iload (pc' := 210) rfl rfl rfl ?_
    refine xx_zreturn rfl rfl (by decide) ?_
    exact ⟨rfl, rfl⟩
  | succ j ih =>
    intro k hk
    refine xi_iload (pc' := 170) rfl rfl rfl ?_
    refine xi_aload_n (pc' := 171) rfl rfl rfl ?_
    refine xr_getp (pc' := 174) rfl rfl (by decide) rfl rfl rfl ?_
    refine xi_iload_n (pc' := 175) rfl rfl rfl ?_
    refine xr_ialdv (v := nI (nn)) (j := m) (pc' := 176) rfl rfl (by decide) (by first | rfl | (simp only [ix_add, ix_mul, ix_pred]; done) | (simp only [ix_add, ix_mul, ix_pred, *]; done)) (by omega) (by decide) ((cpy_fr (by decide) k).trans hn) rfl ?_
    refine xx_icmp (pc' := 179) (tg := 208) rfl rfl rfl (fun q176 => absurd q176 (show ¬ ex_P .ge (nI k) (nI nn) from nI_ge (by omega) (by omega))) (fun q176 => ?_)
    refine xi_iload (pc' := 181) rfl rfl rfl ?_
    refine xi_iff (pc' := 184) (tg := 208) rfl rfl (by decide) rfl ?_
    refine xi_aload_n (pc' := 185) rfl rfl rfl ?_
    refine xr_getp (pc' := 188) rfl rfl (by decide) rfl rfl rfl ?_
    refine xi_iconst (pc' := 189) rfl rfl ?_
    refine xi_iload_n (pc' := 190) rfl rfl rfl ?_
    refine xi_imul (pc' := 191) rfl rfl ?_
    refine xi_iload (pc' := 193) rfl rfl rfl ?_
    refine xi_iadd (pc' := 194) rfl rfl ?_
    refine xi_aload_n (pc' := 195) rfl rfl rfl ?_
    refine xr_getp (pc' := 198) rfl rfl (by decide) rfl rfl rfl ?_
    refine xi_iload (pc' := 200) rfl rfl rfl ?_
    refine xr_iald (j := k) (pc' := 201) rfl rfl (by decide) (by first | rfl | (simp only [ix_add, ix_mul, ix_pred]; done) | (simp only [ix_add, ix_mul, ix_pred, *]; done)) (by omega) (by decide) rfl ?_
    refine xr_iast (j := (4) * (m) + k) (pc' := 202) rfl rfl (by decide) (by first | rfl | (simp only [ix_add, ix_mul, ix_pred]; done) | (simp only [ix_add, ix_mul, ix_pred, *]; done)) (by omega) (by decide) rfl ?_
    refine xi_iincv (y := nI (k + 1)) (pc' := 205) rfl rfl (ix_add _ _) (st1_7 rfl) rfl ?_
    refine xi_goto (pc' := 168) rfl rfl ?_
    exact ih (k + 1) (by omega)
theorem r_take_from {L : Nat} {xs : Nat → Int32} {D n : Nat} {I J : ex_Mem} {m x s nn b N : Nat} (hm : m < 8) (hb : b < 2) (hx6 : x < 6) (hs : s < 3) (h1 : 1 ≤ nn) (h4 : nn ≤ 4) (hx : J 70 m = nI x) (hsb : J 72 m = nI (s + 1)) (hn : J 73 m = nI nn) (hh : hwB N J) (hN : N + 12 < 2 ^ 31) (hg : gdB 0 J) {v3 : Int32} : xx cb_G L xs (D + 4) 118 64 [.ref 52, .int (nI m), .int (nI b), .int v3, ex_no, ex_no, ex_no, ex_no] [] (mkH n I J) (fun r h => r = some (.int (r_take J m x s nn b).1) ∧ h = mkH n I (r_take J m x s nn b).2) := by
  refine xi_aload_n (pc' := 65) rfl rfl rfl ?_
  refine xr_getp (pc' := 68) rfl rfl (by decide) rfl rfl rfl ?_
  refine xi_iload_n (pc' := 69) rfl rfl rfl ?_
  refine xr_ialdv (v := nI (x)) (j := m) (pc' := 70) rfl rfl (by decide) (by first | rfl | (simp only [ix_add, ix_mul, ix_pred]; done) | (simp only [ix_add, ix_mul, ix_pred, *]; done)) (by omega) (by decide) (by simp only [wI_fr, says_fr, put_fr, takes_fr, hears_fr, dat_fr, dw_fr, ans_fr, eff_fr, tell_fr, ne_eq, Nat.reduceEqDiff, not_false_eq_true, hx]) rfl ?_
  refine xi_iconst (pc' := 71) rfl rfl ?_
  refine xi_aload_n (pc' := 72) rfl rfl rfl ?_
  refine xr_getp (pc' := 75) rfl rfl (by decide) rfl rfl rfl ?_
  refine xi_iload_n (pc' := 76) rfl rfl rfl ?_
  refine xr_ialdv (v := nI (s + 1)) (j := m) (pc' := 77) rfl rfl (by decide) (by first | rfl | (simp only [ix_add, ix_mul, ix_pred]; done) | (simp only [ix_add, ix_mul, ix_pred, *]; done)) (by omega) (by decide) (by simp only [wI_fr, says_fr, put_fr, takes_fr, hears_fr, dat_fr, dw_fr, ans_fr, eff_fr, tell_fr, ne_eq, Nat.reduceEqDiff, not_false_eq_true, hsb]) rfl ?_
  refine xi_aload_n (pc' := 78) rfl rfl rfl ?_
  refine xr_getp (pc' := 81) rfl rfl (by decide) rfl rfl rfl ?_
  refine xi_iload_n (pc' := 82) rfl rfl rfl ?_
  refine xr_ialdv (v := nI (nn)) (j := m) (pc' := 83) rfl rfl (by decide) (by first | rfl | (simp only [ix_add, ix_mul, ix_pred]; done) | (simp only [ix_add, ix_mul, ix_pred, *]; done)) (by omega) (by decide) (by simp only [wI_fr, says_fr, put_fr, takes_fr, hears_fr, dat_fr, dw_fr, ans_fr, eff_fr, tell_fr, ne_eq, Nat.reduceEqDiff, not_false_eq_true, hn]) rfl ?_
  refine xx_callSi (pc' := 86) rfl rfl (by decide) rfl (Nat.le_of_ble_eq_true rfl) rfl rfl (r_commandW) ?_
  refine xi_istore (pc' := 88) rfl (st1_4 rfl) rfl ?_
  refine xi_aload_n (pc' := 89) rfl rfl rfl ?_
  refine xi_iload_n (pc' := 90) rfl rfl rfl ?_
  refine xi_iconst (pc' := 91) rfl rfl ?_
  refine xi_iload (pc' := 93) rfl rfl rfl ?_
  refine xx_callVi (pc' := 96) rfl rfl (by decide) rfl rfl (by show _ < 81 + 2 * _; omega) (Nat.le_of_ble_eq_true rfl) rfl rfl (r_put0 hb hh (by omega)) ?_
  refine xi_istore (pc' := 98) rfl (st1_5 rfl) rfl ?_
  refine xi_aload_n (pc' := 99) rfl rfl rfl ?_
  refine xi_aload_n (pc' := 100) rfl rfl rfl ?_
  refine xr_getp (pc' := 103) rfl rfl (by decide) rfl rfl rfl ?_
  refine xi_iload_n (pc' := 104) rfl rfl rfl ?_
  refine xr_ialdv (v := nI (x)) (j := m) (pc' := 105) rfl rfl (by decide) (by first | rfl | (simp only [ix_add, ix_mul, ix_pred]; done) | (simp only [ix_add, ix_mul, ix_pred, *]; done)) (by omega) (by decide) (by simp only [wI_fr, says_fr, put_fr, takes_fr, hears_fr, dat_fr, dw_fr, ans_fr, eff_fr, tell_fr, ne_eq, Nat.reduceEqDiff, not_false_eq_true, hx]) rfl ?_
  refine xi_iload (pc' := 107) rfl rfl rfl ?_
  refine xi_iload (pc' := 109) rfl rfl rfl ?_
  refine xi_iconst (pc' := 110) rfl rfl ?_
  refine xi_iconst (pc' := 111) rfl rfl ?_
  refine xx_callVi (pc' := 114) rfl rfl (by decide) rfl rfl (by show _ < 81 + 2 * _; omega) (Nat.le_of_ble_eq_true rfl) rfl rfl (r_hears_ok hx6) ?_
  refine xx_if (pc' := 117) (tg := 119) rfl rfl rfl (fun q114 => ?_) (fun q114 => ?_)
  · refine xi_aload_n (pc' := 120) rfl rfl rfl ?_
    refine xi_aload_n (pc' := 121) rfl rfl rfl ?_
    refine xr_getp (pc' := 124) rfl rfl (by decide) rfl rfl rfl ?_
    refine xi_iload_n (pc' := 125) rfl rfl rfl ?_
    refine xr_ialdv (v := nI (x)) (j := m) (pc' := 126) rfl rfl (by decide) (by first | rfl | (simp only [ix_add, ix_mul, ix_pred]; done) | (simp only [ix_add, ix_mul, ix_pred, *]; done)) (by omega) (by decide) (by simp only [wI_fr, says_fr, put_fr, takes_fr, hears_fr, dat_fr, dw_fr, ans_fr, eff_fr, tell_fr, ne_eq, Nat.reduceEqDiff, not_false_eq_true, hx]) rfl ?_
    refine xi_aload_n (pc' := 127) rfl rfl rfl ?_
    refine xr_getp (pc' := 130) rfl rfl (by decide) rfl rfl rfl ?_
    refine xi_iload_n (pc' := 131) rfl rfl rfl ?_
    refine xr_ialdv (v := nI (s + 1)) (j := m) (pc' := 132) rfl rfl (by decide) (by first | rfl | (simp only [ix_add, ix_mul, ix_pred]; done) | (simp only [ix_add, ix_mul, ix_pred, *]; done)) (by omega) (by decide) (by simp only [wI_fr, says_fr, put_fr, takes_fr, hears_fr, dat_fr, dw_fr, ans_fr, eff_fr, tell_fr, ne_eq, Nat.reduceEqDiff, not_false_eq_true, hsb]) rfl ?_
    refine xi_aload_n (pc' := 133) rfl rfl rfl ?_
    refine xr_getp (pc' := 136) rfl rfl (by decide) rfl rfl rfl ?_
    refine xi_iload_n (pc' := 137) rfl rfl rfl ?_
    refine xr_ialdv (v := nI (nn)) (j := m) (pc' := 138) rfl rfl (by decide) (by first | rfl | (simp only [ix_add, ix_mul, ix_pred]; done) | (simp only [ix_add, ix_mul, ix_pred, *]; done)) (by omega) (by decide) (by simp only [wI_fr, says_fr, put_fr, takes_fr, hears_fr, dat_fr, dw_fr, ans_fr, eff_fr, tell_fr, ne_eq, Nat.reduceEqDiff, not_false_eq_true, hn]) rfl ?_
    refine xi_iload_n (pc' := 139) rfl rfl rfl ?_
    refine xx_callVi (pc' := 142) rfl rfl (by decide) rfl rfl (by show _ < 81 + 2 * _; omega) (Nat.le_of_ble_eq_true rfl) rfl rfl (r_answers_ok (D := D) (N := N + 1) (g := 0) hx6 hs h4 hb (hears_hw (hwB_put hh (by omega))) (by omega) (hears_gd (put_gdB hg)) (by omega)) ?_
    refine xx_if (pc' := 145) (tg := 162) rfl rfl rfl (fun q142 => ?_) (fun q142 => ?_)
    · refine xi_iconst (pc' := 163) rfl rfl ?_
      refine xi_istore (pc' := 165) rfl (st1_6 rfl) rfl ?_
      refine xi_iconst (pc' := 166) rfl rfl ?_
      refine xi_istore (pc' := 168) rfl (st1_7 rfl) rfl ?_
      refine xi_iload (pc' := 170) rfl rfl rfl ?_
      refine xi_aload_n (pc' := 171) rfl rfl rfl ?_
      refine xr_getp (pc' := 174) rfl rfl (by decide) rfl rfl rfl ?_
      refine xi_iload_n (pc' := 175) rfl rfl rfl ?_
      refine xr_ialdv (v := nI (nn)) (j := m) (pc' := 176) rfl rfl (by decide) (by first | rfl | (simp only [ix_add, ix_mul, ix_pred]; done) | (simp only [ix_add, ix_mul, ix_pred, *]; done)) (by omega) (by decide) (((ans_fr (by decide) (by decide) (by decide) (by decide) (by decide)).trans ((hears_fr (by decide) (by decide) (by decide)).trans ((put_fr (by decide) (by decide) (by decide) (by decide)).trans hn)))) rfl ?_
      refine xx_icmp (pc' := 179) (tg := 208) rfl rfl rfl (fun q176 => absurd q176 (show ¬ ex_P .ge (nI 0) (nI nn) from nI_ge (by omega) (by omega))) (fun q176 => ?_)
      refine xi_iload (pc' := 181) rfl rfl rfl ?_
      refine xi_ift (pc' := 208) rfl rfl (by decide) ?_
      refine xi_iload (pc' := 210) rfl rfl rfl ?_
      refine xx_zreturn rfl rfl (by decide) ?_
      simp only [ex_P, Classical.not_not, ↓reduceIte, Nat.add_zero, or_true, true_or, not_true_eq_false, not_false_eq_true, or_false, false_or, wI_get, false_and, true_and, and_true, and_false, and_self, Nat.reduceEqDiff, Nat.succ_ne_zero, reduceCtorEq, nI_lit, nI_lit0, Nat.reduceLT] at *
      first | (simp only [r_take, r_ta, *, ↓reduceIte, Nat.add_zero, or_true, true_or, not_true_eq_false, not_false_eq_true, or_false, false_or, wI_get, false_and, true_and, and_true, and_false, and_self, Nat.reduceEqDiff, Nat.succ_ne_zero, reduceCtorEq, nI_lit, nI_lit0, Nat.reduceLT]; done) | (exfalso; simp_all only [↓reduceIte, Nat.add_zero, or_true, true_or, not_true_eq_false, not_false_eq_true, or_false, false_or, wI_get, false_and, true_and, and_true, and_false, and_self, Nat.reduceEqDiff, Nat.succ_ne_zero, reduceCtorEq, nI_lit, nI_lit0, Nat.reduceLT]; done)
    · refine xi_aload_n (pc' := 146) rfl rfl rfl ?_
      refine xr_geti (pc' := 149) rfl rfl (by decide) (by decide) rfl ?_
      refine xi_aload_n (pc' := 150) rfl rfl rfl ?_
      refine xr_getp (pc' := 153) rfl rfl (by decide) rfl rfl rfl ?_
      refine xi_iload_n (pc' := 154) rfl rfl rfl ?_
      refine xr_ialdv (v := nI (nn)) (j := m) (pc' := 155) rfl rfl (by decide) (by first | rfl | (simp only [ix_add, ix_mul, ix_pred]; done) | (simp only [ix_add, ix_mul, ix_pred, *]; done)) (by omega) (by decide) (by simp only [wI_fr, says_fr, put_fr, takes_fr, hears_fr, dat_fr, dw_fr, ans_fr, eff_fr, tell_fr, ne_eq, Nat.reduceEqDiff, not_false_eq_true, hn]) rfl ?_
      refine xx_icmp (pc' := 158) (tg := 162) rfl rfl rfl (fun q155 => ?_) (fun q155 => ?_)
      · refine xi_iconst (pc' := 163) rfl rfl ?_
        refine xi_istore (pc' := 165) rfl (st1_6 rfl) rfl ?_
        refine xi_iconst (pc' := 166) rfl rfl ?_
        refine xi_istore (pc' := 168) rfl (st1_7 rfl) rfl ?_
        refine xi_iload (pc' := 170) rfl rfl rfl ?_
        refine xi_aload_n (pc' := 171) rfl rfl rfl ?_
        refine xr_getp (pc' := 174) rfl rfl (by decide) rfl rfl rfl ?_
        refine xi_iload_n (pc' := 175) rfl rfl rfl ?_
        refine xr_ialdv (v := nI (nn)) (j := m) (pc' := 176) rfl rfl (by decide) (by first | rfl | (simp only [ix_add, ix_mul, ix_pred]; done) | (simp only [ix_add, ix_mul, ix_pred, *]; done)) (by omega) (by decide) (((ans_fr (by decide) (by decide) (by decide) (by decide) (by decide)).trans ((hears_fr (by decide) (by decide) (by decide)).trans ((put_fr (by decide) (by decide) (by decide) (by decide)).trans hn)))) rfl ?_
        refine xx_icmp (pc' := 179) (tg := 208) rfl rfl rfl (fun q176 => absurd q176 (show ¬ ex_P .ge (nI 0) (nI nn) from nI_ge (by omega) (by omega))) (fun q176 => ?_)
        refine xi_iload (pc' := 181) rfl rfl rfl ?_
        refine xi_ift (pc' := 208) rfl rfl (by decide) ?_
        refine xi_iload (pc' := 210) rfl rfl rfl ?_
        refine xx_zreturn rfl rfl (by decide) ?_
        simp only [ex_P, Classical.not_not, ↓reduceIte, Nat.add_zero, or_true, true_or, not_true_eq_false, not_false_eq_true, or_false, false_or, wI_get, false_and, true_and, and_true, and_false, and_self, Nat.reduceEqDiff, Nat.succ_ne_zero, reduceCtorEq, nI_lit, nI_lit0, Nat.reduceLT] at *
        first | (simp only [r_take, r_ta, *, ↓reduceIte, Nat.add_zero, or_true, true_or, not_true_eq_false, not_false_eq_true, or_false, false_or, wI_get, false_and, true_and, and_true, and_false, and_self, Nat.reduceEqDiff, Nat.succ_ne_zero, reduceCtorEq, nI_lit, nI_lit0, Nat.reduceLT]; done) | (exfalso; simp_all only [↓reduceIte, Nat.add_zero, or_true, true_or, not_true_eq_false, not_false_eq_true, or_false, false_or, wI_get, false_and, true_and, and_true, and_false, and_self, Nat.reduceEqDiff, Nat.succ_ne_zero, reduceCtorEq, nI_lit, nI_lit0, Nat.reduceLT]; done)
      · refine xi_iconst (pc' := 159) rfl rfl ?_
        refine xi_goto (pc' := 163) rfl rfl ?_
        refine xi_istore (pc' := 165) rfl (st1_6 rfl) rfl ?_
        refine xi_iconst (pc' := 166) rfl rfl ?_
        refine xi_istore (pc' := 168) rfl (st1_7 rfl) rfl ?_
        refine xx_imp (r_cpy_loop (D := D) rfl rfl rfl hm hb h4 ((ans_fr (by decide) (by decide) (by decide) (by decide) (by decide)).trans ((hears_fr (by decide) (by decide) (by decide)).trans ((put_fr (by decide) (by decide) (by decide) (by decide)).trans hn))) nn 0 (by omega)) (fun r h hq => ?_)
        obtain ⟨rfl, rfl⟩ := hq
        simp only [ex_P, Classical.not_not, ↓reduceIte, Nat.add_zero, or_true, true_or, not_true_eq_false, not_false_eq_true, or_false, false_or, wI_get, false_and, true_and, and_true, and_false, and_self, Nat.reduceEqDiff, Nat.succ_ne_zero, reduceCtorEq, nI_lit, nI_lit0, Nat.reduceLT] at *
        first | (simp only [r_take, r_ta, *, ↓reduceIte, Nat.add_zero, or_true, true_or, not_true_eq_false, not_false_eq_true, or_false, false_or, wI_get, false_and, true_and, and_true, and_false, and_self, Nat.reduceEqDiff, Nat.succ_ne_zero, reduceCtorEq, nI_lit, nI_lit0, Nat.reduceLT]; done) | (exfalso; simp_all only [↓reduceIte, Nat.add_zero, or_true, true_or, not_true_eq_false, not_false_eq_true, or_false, false_or, wI_get, false_and, true_and, and_true, and_false, and_self, Nat.reduceEqDiff, Nat.succ_ne_zero, reduceCtorEq, nI_lit, nI_lit0, Nat.reduceLT]; done)
  · refine xi_iconst (pc' := 118) rfl rfl ?_
    refine xx_zreturn rfl rfl (by decide) ?_
    simp only [ex_P, Classical.not_not, ↓reduceIte, Nat.add_zero, or_true, true_or, not_true_eq_false, not_false_eq_true, or_false, false_or, wI_get, false_and, true_and, and_true, and_false, and_self, Nat.reduceEqDiff, Nat.succ_ne_zero, reduceCtorEq, nI_lit, nI_lit0, Nat.reduceLT] at *
    first | (simp only [r_take, r_ta, *, ↓reduceIte, Nat.add_zero, or_true, true_or, not_true_eq_false, not_false_eq_true, or_false, false_or, wI_get, false_and, true_and, and_true, and_false, and_self, Nat.reduceEqDiff, Nat.succ_ne_zero, reduceCtorEq, nI_lit, nI_lit0, Nat.reduceLT]; done) | (exfalso; simp_all only [↓reduceIte, Nat.add_zero, or_true, true_or, not_true_eq_false, not_false_eq_true, or_false, false_or, wI_get, false_and, true_and, and_true, and_false, and_self, Nat.reduceEqDiff, Nat.succ_ne_zero, reduceCtorEq, nI_lit, nI_lit0, Nat.reduceLT]; done)
end
section
/-- a number of the table -/
def tk (J : ex_Mem) (a m : Nat) : Nat := (J a m).toNatClampNeg
def isCd (c : Nat) : Prop := c = 1 ∨ c = 2 ∨ c = 4 ∨ c = 5 ∨ c = 8 ∨ c = 18
/-- message m of the table is as it may be -/
def vMsg (J : ex_Mem) (m : Nat) : Prop :=
  J 69 m = nI (tk J 69 m) ∧ tk J 69 m ≤ 4 ∧ (tk J 69 m ≠ 3 → J 70 m = nI (tk J 70 m) ∧ tk J 70 m < 6) ∧ (tk J 69 m = 2 → J 71 m = nI (tk J 71 m) ∧ tk J 71 m < 6 ∧ tk J 70 m ≠ tk J 71 m) ∧
  (tk J 69 m ≠ 4 → J 72 m = nI (tk J 72 m - 1 + 1) ∧ tk J 72 m - 1 < 3 ∧ J 73 m = nI (tk J 73 m) ∧ 1 ≤ tk J 73 m ∧ tk J 73 m ≤ 4) ∧ (tk J 69 m = 4 → J 73 m = nI (tk J 73 m) ∧ isCd (tk J 73 m))
def r_j0 (J : ex_Mem) : ex_Mem := ex_wI J 52 32 (nI 0)
def r_attempt (J : ex_Mem) (m b : Nat) : Int32 × ex_Mem :=
  if tk J 69 m = 0 then r_give (r_j0 J) m (tk J 70 m) (tk J 72 m - 1) (tk J 73 m) b
  else if tk J 69 m = 3 then (nI 1, r_telAll (r_j0 J) m (tk J 72 m - 1) (tk J 73 m) b)
  else if tk J 69 m = 4 then r_commands (r_j0 J) m (tk J 70 m) (tk J 73 m) b
  else if tk J 69 m = 2 then r_pass (r_j0 J) (tk J 70 m) (tk J 71 m) (tk J 72 m - 1) (tk J 73 m) b
  else r_take (r_j0 J) m (tk J 70 m) (tk J 72 m - 1) (tk J 73 m) b
theorem j0_hw {J : ex_Mem} {N : Nat} (hh : hwB N J) : hwB N (r_j0 J) := hwB_w hh (by omega)
theorem j0_gd {J : ex_Mem} : gdB 0 (r_j0 J) := by
  have e : r_j0 J 52 32 = nI 0 := rfl
  have e2 := gdOf_of e (by decide)
  exact ⟨by rw [e2]; exact e, by rw [e2]; exact Nat.le_refl 0⟩
theorem j0_fr {J : ex_Mem} {a k : Nat} (h : a ≠ 52) : r_j0 J a k = J a k := wI_fr h
theorem bool_give {J : ex_Mem} {m x s nn b : Nat} : ex_b01 (r_give J m x s nn b).1 = true := by
  unfold r_give
  split
  · exact b01_0
  · split
    · exact b01_0
    · dsimp only; split <;> first | exact b01_0 | exact b01_1
theorem bool_pass {J : ex_Mem} {x y s nn b : Nat} : ex_b01 (r_pass J x y s nn b).1 = true := by
  unfold r_pass
  dsimp only
  split
  · exact b01_0
  · split <;> first | exact b01_0 | exact b01_1
theorem bool_cmds {J : ex_Mem} {m t cd b : Nat} : ex_b01 (r_commands J m t cd b).1 = true := by
  unfold r_commands
  split
  · exact b01_0
  · split
    · split <;> first | exact b01_0 | exact b01_1
    · dsimp only; split <;> first | exact b01_0 | exact b01_1
theorem cmds_0 {J : ex_Mem} {m t cd b : Nat} (h : cd ≠ 18) : r_commands J m t cd b = r_commands J 0 t cd b := by
  unfold r_commands
  rw [if_neg h, if_neg h]
theorem r_commands_ok {L : Nat} {xs : Nat → Int32} {D n : Nat} {I J : ex_Mem} {m t cd b N : Nat} (hm : m < 8) (ht : t < 6) (hb : b < 2) (hc : isCd cd) (hh : hwB N J) (hN : N + 3 < 2 ^ 31) : ri L xs (D + 3) 109 [.ref 52, .int (nI m), .int (nI t), .int (nI cd), .int (nI b)] (mkH n I J) (r_commands J m t cd b).1 (mkH n I (r_commands J m t cd b).2) := by
  rcases hc with rfl | rfl | rfl | rfl | rfl | rfl
  · rw [cmds_0 (by decide)]; exact r_commands_1 ht hb hh hN
  · rw [cmds_0 (by decide)]; exact r_commands_2 ht hb hh hN
  · rw [cmds_0 (by decide)]; exact r_commands_4 ht hb hh hN
  · rw [cmds_0 (by decide)]; exact r_commands_5 ht hb hh hN
  · rw [cmds_0 (by decide)]; exact r_commands_8 ht hb hh hN
  · exact r_commands_18 hm ht hb hh hN
theorem r_attempt_ok {L : Nat} {xs : Nat → Int32} {D n : Nat} {I J : ex_Mem} {m b N : Nat} (hm : m < 8) (hb : b < 2) (hv : vMsg J m) (hh : hwB N J) (hN : N + 12 < 2 ^ 31) : ri L xs (D + 5) 118 [.ref 52, .int (nI m), .int (nI b)] (mkH n I J) (r_attempt J m b).1 (mkH n I (r_attempt J m b).2) := by
  obtain ⟨k1, k2, k3, k4, k5, k6⟩ := hv
  rcases (by omega : tk J 69 m = 0 ∨ tk J 69 m = 3 ∨ tk J 69 m = 4 ∨ tk J 69 m = 2 ∨ tk J 69 m = 1) with hq | hq | hq | hq | hq
  · have e : r_attempt J m b = r_give (r_j0 J) m (tk J 70 m) (tk J 72 m - 1) (tk J 73 m) b := by unfold r_attempt; rw [if_pos hq]
    rw [e]
    have hkd : J 69 m = nI 0 := by rw [k1, hq]
    obtain ⟨x1, x2⟩ := k3 (by omega)
    obtain ⟨s1, s2, n1, n2, n3⟩ := k5 (by omega)
    show xx cb_G _ _ _ 118 0 [.ref 52, .int (nI m), .int (nI b), ex_no, ex_no, ex_no, ex_no, ex_no] [] _ _
    refine xi_aload_n (pc' := 1) rfl rfl rfl ?_
    refine xi_iconst (pc' := 2) rfl rfl ?_
    refine xr_puti (z := 0) (pc' := 5) rfl rfl (by decide) (Or.inl rfl) rfl ?_
    refine xi_aload_n (pc' := 6) rfl rfl rfl ?_
    refine xr_getp (pc' := 9) rfl rfl (by decide) rfl rfl rfl ?_
    refine xi_iload_n (pc' := 10) rfl rfl rfl ?_
    refine xr_ialdv (v := nI (0)) (j := m) (pc' := 11) rfl rfl (by decide) (by first | rfl | (simp only [ix_add, ix_mul, ix_pred]; done) | (simp only [ix_add, ix_mul, ix_pred, *]; done)) (by omega) (by decide) ((j0_fr (by decide)).trans hkd) rfl ?_
    refine xi_istore_n (pc' := 12) rfl (st1_3 rfl) rfl ?_
    refine xi_iload_n (pc' := 13) rfl rfl rfl ?_
    refine xi_ift (pc' := 21) rfl rfl (by decide) ?_
    refine xi_aload_n (pc' := 22) rfl rfl rfl ?_
    refine xi_iload_n (pc' := 23) rfl rfl rfl ?_
    refine xi_iload_n (pc' := 24) rfl rfl rfl ?_
    refine xx_callVi (pc' := 27) rfl rfl (by decide) rfl rfl (by show _ < 81 + 2 * _; omega) (Nat.le_of_ble_eq_true rfl) rfl rfl (r_gives_0 (D := D + 1) (N := N) ((j0_fr (by decide)).trans hkd) x2 ((j0_fr (by decide)).trans x1) hm hb s2 n2 n3 ((j0_fr (by decide)).trans s1) ((j0_fr (by decide)).trans n1) (j0_hw hh) (by omega) j0_gd) ?_
    refine xx_zreturn rfl rfl (bool_give) ?_
    exact ⟨rfl, rfl⟩
  · have e : r_attempt J m b = (nI 1, r_telAll (r_j0 J) m (tk J 72 m - 1) (tk J 73 m) b) := by unfold r_attempt; rw [if_neg (by omega), if_pos hq]
    rw [e]
    have hkd : J 69 m = nI 3 := by rw [k1, hq]
    obtain ⟨s1, s2, n1, n2, n3⟩ := k5 (by omega)
    show xx cb_G _ _ _ 118 0 [.ref 52, .int (nI m), .int (nI b), ex_no, ex_no, ex_no, ex_no, ex_no] [] _ _
    refine xi_aload_n (pc' := 1) rfl rfl rfl ?_
    refine xi_iconst (pc' := 2) rfl rfl ?_
    refine xr_puti (z := 0) (pc' := 5) rfl rfl (by decide) (Or.inl rfl) rfl ?_
    refine xi_aload_n (pc' := 6) rfl rfl rfl ?_
    refine xr_getp (pc' := 9) rfl rfl (by decide) rfl rfl rfl ?_
    refine xi_iload_n (pc' := 10) rfl rfl rfl ?_
    refine xr_ialdv (v := nI (3)) (j := m) (pc' := 11) rfl rfl (by decide) (by first | rfl | (simp only [ix_add, ix_mul, ix_pred]; done) | (simp only [ix_add, ix_mul, ix_pred, *]; done)) (by omega) (by decide) ((j0_fr (by decide)).trans hkd) rfl ?_
    refine xi_istore_n (pc' := 12) rfl (st1_3 rfl) rfl ?_
    refine xi_iload_n (pc' := 13) rfl rfl rfl ?_
    refine xi_iff (pc' := 16) (tg := 21) rfl rfl (by decide) rfl ?_
    refine xi_iload_n (pc' := 17) rfl rfl rfl ?_
    refine xi_iconst (pc' := 18) rfl rfl ?_
    refine xi_icmpf (pc' := 21) (tg := 28) rfl rfl (by decide) rfl ?_
    refine xi_aload_n (pc' := 22) rfl rfl rfl ?_
    refine xi_iload_n (pc' := 23) rfl rfl rfl ?_
    refine xi_iload_n (pc' := 24) rfl rfl rfl ?_
    refine xx_callVi (pc' := 27) rfl rfl (by decide) rfl rfl (by show _ < 81 + 2 * _; omega) (Nat.le_of_ble_eq_true rfl) rfl rfl (r_gives_3 (D := D + 1) (N := N) ((j0_fr (by decide)).trans hkd) hm hb s2 n2 n3 ((j0_fr (by decide)).trans s1) ((j0_fr (by decide)).trans n1) (j0_hw hh) (by omega) j0_gd) ?_
    refine xx_zreturn rfl rfl (by decide) ?_
    exact ⟨rfl, rfl⟩
  · have e : r_attempt J m b = r_commands (r_j0 J) m (tk J 70 m) (tk J 73 m) b := by unfold r_attempt; rw [if_neg (by omega), if_neg (by omega), if_pos hq]
    rw [e]
    have hkd : J 69 m = nI 4 := by rw [k1, hq]
    obtain ⟨x1, x2⟩ := k3 (by omega)
    obtain ⟨n1, n2⟩ := k6 hq
    show xx cb_G _ _ _ 118 0 [.ref 52, .int (nI m), .int (nI b), ex_no, ex_no, ex_no, ex_no, ex_no] [] _ _
    refine xi_aload_n (pc' := 1) rfl rfl rfl ?_
    refine xi_iconst (pc' := 2) rfl rfl ?_
    refine xr_puti (z := 0) (pc' := 5) rfl rfl (by decide) (Or.inl rfl) rfl ?_
    refine xi_aload_n (pc' := 6) rfl rfl rfl ?_
    refine xr_getp (pc' := 9) rfl rfl (by decide) rfl rfl rfl ?_
    refine xi_iload_n (pc' := 10) rfl rfl rfl ?_
    refine xr_ialdv (v := nI (4)) (j := m) (pc' := 11) rfl rfl (by decide) (by first | rfl | (simp only [ix_add, ix_mul, ix_pred]; done) | (simp only [ix_add, ix_mul, ix_pred, *]; done)) (by omega) (by decide) ((j0_fr (by decide)).trans hkd) rfl ?_
    refine xi_istore_n (pc' := 12) rfl (st1_3 rfl) rfl ?_
    refine xi_iload_n (pc' := 13) rfl rfl rfl ?_
    refine xi_iff (pc' := 16) (tg := 21) rfl rfl (by decide) rfl ?_
    refine xi_iload_n (pc' := 17) rfl rfl rfl ?_
    refine xi_iconst (pc' := 18) rfl rfl ?_
    refine xi_icmpt (pc' := 28) rfl rfl (by decide) ?_
    refine xi_iload_n (pc' := 29) rfl rfl rfl ?_
    refine xi_iconst (pc' := 30) rfl rfl ?_
    refine xi_icmpf (pc' := 33) (tg := 52) rfl rfl (by decide) rfl ?_
    refine xi_aload_n (pc' := 34) rfl rfl rfl ?_
    refine xi_iload_n (pc' := 35) rfl rfl rfl ?_
    refine xi_aload_n (pc' := 36) rfl rfl rfl ?_
    refine xr_getp (pc' := 39) rfl rfl (by decide) rfl rfl rfl ?_
    refine xi_iload_n (pc' := 40) rfl rfl rfl ?_
    refine xr_ialdv (v := nI (tk J 70 m)) (j := m) (pc' := 41) rfl rfl (by decide) (by first | rfl | (simp only [ix_add, ix_mul, ix_pred]; done) | (simp only [ix_add, ix_mul, ix_pred, *]; done)) (by omega) (by decide) ((j0_fr (by decide)).trans x1) rfl ?_
    refine xi_aload_n (pc' := 42) rfl rfl rfl ?_
    refine xr_getp (pc' := 45) rfl rfl (by decide) rfl rfl rfl ?_
    refine xi_iload_n (pc' := 46) rfl rfl rfl ?_
    refine xr_ialdv (v := nI (tk J 73 m)) (j := m) (pc' := 47) rfl rfl (by decide) (by first | rfl | (simp only [ix_add, ix_mul, ix_pred]; done) | (simp only [ix_add, ix_mul, ix_pred, *]; done)) (by omega) (by decide) ((j0_fr (by decide)).trans n1) rfl ?_
    refine xi_iload_n (pc' := 48) rfl rfl rfl ?_
    refine xx_callVi (pc' := 51) rfl rfl (by decide) rfl rfl (by show _ < 81 + 2 * _; omega) (Nat.le_of_ble_eq_true rfl) rfl rfl (r_commands_ok (D := D + 1) (N := N) hm x2 hb n2 (j0_hw hh) (by omega)) ?_
    refine xx_zreturn rfl rfl (bool_cmds) ?_
    exact ⟨rfl, rfl⟩
  · have e : r_attempt J m b = r_pass (r_j0 J) (tk J 70 m) (tk J 71 m) (tk J 72 m - 1) (tk J 73 m) b := by unfold r_attempt; rw [if_neg (by omega), if_neg (by omega), if_neg (by omega), if_pos hq]
    rw [e]
    have hkd : J 69 m = nI 2 := by rw [k1, hq]
    obtain ⟨x1, x2⟩ := k3 (by omega)
    obtain ⟨y1, y2, y3⟩ := k4 hq
    obtain ⟨s1, s2, n1, n2, n3⟩ := k5 (by omega)
    show xx cb_G _ _ _ 118 0 [.ref 52, .int (nI m), .int (nI b), ex_no, ex_no, ex_no, ex_no, ex_no] [] _ _
    refine xi_aload_n (pc' := 1) rfl rfl rfl ?_
    refine xi_iconst (pc' := 2) rfl rfl ?_
    refine xr_puti (z := 0) (pc' := 5) rfl rfl (by decide) (Or.inl rfl) rfl ?_
    refine xi_aload_n (pc' := 6) rfl rfl rfl ?_
    refine xr_getp (pc' := 9) rfl rfl (by decide) rfl rfl rfl ?_
    refine xi_iload_n (pc' := 10) rfl rfl rfl ?_
    refine xr_ialdv (v := nI (2)) (j := m) (pc' := 11) rfl rfl (by decide) (by first | rfl | (simp only [ix_add, ix_mul, ix_pred]; done) | (simp only [ix_add, ix_mul, ix_pred, *]; done)) (by omega) (by decide) ((j0_fr (by decide)).trans hkd) rfl ?_
    refine xi_istore_n (pc' := 12) rfl (st1_3 rfl) rfl ?_
    refine xi_iload_n (pc' := 13) rfl rfl rfl ?_
    refine xi_iff (pc' := 16) (tg := 21) rfl rfl (by decide) rfl ?_
    refine xi_iload_n (pc' := 17) rfl rfl rfl ?_
    refine xi_iconst (pc' := 18) rfl rfl ?_
    refine xi_icmpt (pc' := 28) rfl rfl (by decide) ?_
    refine xi_iload_n (pc' := 29) rfl rfl rfl ?_
    refine xi_iconst (pc' := 30) rfl rfl ?_
    refine xi_icmpt (pc' := 52) rfl rfl (by decide) ?_
    refine xi_iload_n (pc' := 53) rfl rfl rfl ?_
    refine xi_iconst (pc' := 54) rfl rfl ?_
    refine xi_icmpf (pc' := 57) (tg := 64) rfl rfl (by decide) rfl ?_
    refine xi_aload_n (pc' := 58) rfl rfl rfl ?_
    refine xi_iload_n (pc' := 59) rfl rfl rfl ?_
    refine xi_iload_n (pc' := 60) rfl rfl rfl ?_
    refine xx_callVi (pc' := 63) rfl rfl (by decide) rfl rfl (by show _ < 81 + 2 * _; omega) (Nat.le_of_ble_eq_true rfl) rfl rfl (r_passes_ok (D := D) (N := N) hm hb x2 y2 s2 n2 n3 ((j0_fr (by decide)).trans x1) ((j0_fr (by decide)).trans y1) ((j0_fr (by decide)).trans s1) ((j0_fr (by decide)).trans n1) (j0_hw hh) (by omega) j0_gd) ?_
    refine xx_zreturn rfl rfl (bool_pass) ?_
    exact ⟨rfl, rfl⟩
  · have e : r_attempt J m b = r_take (r_j0 J) m (tk J 70 m) (tk J 72 m - 1) (tk J 73 m) b := by unfold r_attempt; rw [if_neg (by omega), if_neg (by omega), if_neg (by omega), if_neg (by omega)]
    rw [e]
    have hkd : J 69 m = nI 1 := by rw [k1, hq]
    obtain ⟨x1, x2⟩ := k3 (by omega)
    obtain ⟨s1, s2, n1, n2, n3⟩ := k5 (by omega)
    show xx cb_G _ _ _ 118 0 [.ref 52, .int (nI m), .int (nI b), ex_no, ex_no, ex_no, ex_no, ex_no] [] _ _
    refine xi_aload_n (pc' := 1) rfl rfl rfl ?_
    refine xi_iconst (pc' := 2) rfl rfl ?_
    refine xr_puti (z := 0) (pc' := 5) rfl rfl (by decide) (Or.inl rfl) rfl ?_
    refine xi_aload_n (pc' := 6) rfl rfl rfl ?_
    refine xr_getp (pc' := 9) rfl rfl (by decide) rfl rfl rfl ?_
    refine xi_iload_n (pc' := 10) rfl rfl rfl ?_
    refine xr_ialdv (v := nI (1)) (j := m) (pc' := 11) rfl rfl (by decide) (by first | rfl | (simp only [ix_add, ix_mul, ix_pred]; done) | (simp only [ix_add, ix_mul, ix_pred, *]; done)) (by omega) (by decide) ((j0_fr (by decide)).trans hkd) rfl ?_
    refine xi_istore_n (pc' := 12) rfl (st1_3 rfl) rfl ?_
    refine xi_iload_n (pc' := 13) rfl rfl rfl ?_
    refine xi_iff (pc' := 16) (tg := 21) rfl rfl (by decide) rfl ?_
    refine xi_iload_n (pc' := 17) rfl rfl rfl ?_
    refine xi_iconst (pc' := 18) rfl rfl ?_
    refine xi_icmpt (pc' := 28) rfl rfl (by decide) ?_
    refine xi_iload_n (pc' := 29) rfl rfl rfl ?_
    refine xi_iconst (pc' := 30) rfl rfl ?_
    refine xi_icmpt (pc' := 52) rfl rfl (by decide) ?_
    refine xi_iload_n (pc' := 53) rfl rfl rfl ?_
    refine xi_iconst (pc' := 54) rfl rfl ?_
    refine xi_icmpt (pc' := 64) rfl rfl (by decide) ?_
    exact r_take_from (D := D + 1) (N := N) hm hb x2 s2 n2 n3 ((j0_fr (by decide)).trans x1) ((j0_fr (by decide)).trans s1) ((j0_fr (by decide)).trans n1) (j0_hw hh) (by omega) j0_gd
end
section
/-- places that an attempt never writes -/
def nt (a k : Nat) : Prop := (a = 52 ∧ k ≠ 3 ∧ k ≠ 32) ∨ a = 54 ∨ a = 57 ∨ a = 58 ∨ a = 59 ∨ (67 ≤ a ∧ a ≤ 75) ∨ (77 ≤ a ∧ a ≠ 79)
theorem nt_w {J : ex_Mem} {a k a' k' : Nat} {v : Int32} (h : nt a k) (hx : ¬ nt a' k') : ex_wI J a' k' v a k = J a k := by
  refine if_neg (fun q => hx ?_)
  rw [← q.1, ← q.2]
  exact h
theorem w53 {J : ex_Mem} {a k j : Nat} {v : Int32} (h : nt a k) : ex_wI J 53 j v a k = J a k := nt_w h (by unfold nt; omega)
theorem w55 {J : ex_Mem} {a k j : Nat} {v : Int32} (h : nt a k) : ex_wI J 55 j v a k = J a k := nt_w h (by unfold nt; omega)
theorem w56 {J : ex_Mem} {a k j : Nat} {v : Int32} (h : nt a k) : ex_wI J 56 j v a k = J a k := nt_w h (by unfold nt; omega)
theorem w523 {J : ex_Mem} {a k : Nat} {v : Int32} (h : nt a k) : ex_wI J 52 3 v a k = J a k := nt_w h (by unfold nt; omega)
theorem put_nt {J : ex_Mem} {b a k : Nat} {w : Int32} (h : nt a k) : (r_put J b w).2 a k = J a k := by
  unfold r_put
  split
  · dsimp only; rw [w523 h, w56 h, w55 h]
  · split
    · rfl
    · split
      · dsimp only; rw [w523 h, w56 h, w53 h, w55 h]
      · dsimp only; rw [w53 h, w55 h]
theorem says_nt {J : ex_Mem} {t b a k : Nat} {w : Int32} (h : nt a k) : (r_says J t b w).2 a k = J a k := by
  unfold r_says
  split
  · exact put_nt h
  · rfl
theorem hears_nt {J : ex_Mem} {t a k : Nat} {how c km kl : Int32} (h : nt a k) : (r_hears J t how c km kl).2 a k = J a k := hears_fr (by unfold nt at h; omega) (by unfold nt at h; omega) (by unfold nt at h; omega)
theorem takes_nt {J : ex_Mem} {t s nn a k : Nat} {fa : Int32} (h : nt a k) : (r_takes J t s nn fa).2 a k = J a k := takes_fr (by unfold nt at h; omega) (by unfold nt at h; omega) (by unfold nt at h; omega) (by unfold nt at h; omega)
theorem dw_nt {J : ex_Mem} {a k : Nat} {how v : Int32} (h : nt a k) : r_dw J how v a k = J a k := by
  unfold r_dw
  split
  · rw [nt_w h (show ¬ nt 52 32 by unfold nt; omega), nt_w h (show ¬ nt 79 _ by unfold nt; omega)]
  · rfl
theorem send_nt {J : ex_Mem} {t s b a k : Nat} (h : nt a k) : ∀ j, r_send J t s b j a k = J a k
  | 0 => rfl
  | j + 1 => by
    unfold r_send
    rw [dw_nt h, says_nt h]
    exact send_nt h j
theorem ans_nt {J : ex_Mem} {t s nn b a k : Nat} (h : nt a k) : (r_ans J t s nn b).2 a k = J a k := by
  show r_send _ t s b nn a k = J a k
  rw [send_nt h, says_nt h]
theorem dat_nt {J : ex_Mem} {b m a k : Nat} (h : nt a k) : ∀ j, r_dat J b m j a k = J a k
  | 0 => rfl
  | j + 1 => by
    unfold r_dat
    rw [dw_nt h, put_nt h]
    exact dat_nt h j
theorem tell_nt {J : ex_Mem} {how c : Int32} {s nn a k : Nat} (h : nt a k) (t : Nat) : r_tell J how c s nn t a k = J a k := tell_fr (by unfold nt at h; omega) (by unfold nt at h; omega) (by unfold nt at h; omega) (by unfold nt at h; omega) (by unfold nt at h; omega) t
theorem eff_nt {J : ex_Mem} {t cd b a k : Nat} (h : nt a k) : r_eff J t cd b a k = J a k := eff_fr (by unfold nt at h; omega) (by unfold nt at h; omega)
theorem c2_nt {J : ex_Mem} {t cd b a k : Nat} (h : nt a k) : (r_c2 J t cd b).2 a k = J a k := (hears_nt h).trans (put_nt h)
theorem c3_nt {J : ex_Mem} {t cd b a k : Nat} (h : nt a k) : r_c3 J t cd b a k = J a k := (eff_nt h).trans (c2_nt h)
theorem c4_nt {J : ex_Mem} {t cd b a k : Nat} (h : nt a k) : (r_c4 J t cd b).2 a k = J a k := (says_nt h).trans (c3_nt h)
theorem c5_nt {J : ex_Mem} {t cd b a k : Nat} (h : nt a k) : (r_c5 J t cd b).2 a k = J a k := (says_nt h).trans (c4_nt h)
theorem cmds_nt {J : ex_Mem} {m t cd b a k : Nat} (h : nt a k) : (r_commands J m t cd b).2 a k = J a k := by
  unfold r_commands
  split
  · exact c2_nt h
  · split
    · split
      · exact (nt_w h (show ¬ nt 76 _ by unfold nt; omega)).trans (c5_nt h)
      · exact c5_nt h
    · exact c4_nt h
theorem g1_nt {J : ex_Mem} {m x s nn b a k : Nat} (h : nt a k) : r_g1 J m x s nn b a k = J a k := (dat_nt h nn).trans (put_nt h)
theorem g2_nt {J : ex_Mem} {m x s nn b a k : Nat} (h : nt a k) : (r_g2 J m x s nn b).2 a k = J a k := (hears_nt h).trans (g1_nt h)
theorem g3_nt {J : ex_Mem} {m x s nn b a k : Nat} (h : nt a k) : (r_g3 J m x s nn b).2 a k = J a k := (takes_nt h).trans (g2_nt h)
theorem g4_nt {J : ex_Mem} {m x s nn b a k : Nat} (h : nt a k) : (r_g4 J m x s nn b).2 a k = J a k := (says_nt h).trans (g3_nt h)
theorem give_nt {J : ex_Mem} {m x s nn b a k : Nat} (h : nt a k) : (r_give J m x s nn b).2 a k = J a k := by
  unfold r_give
  split
  · exact g2_nt h
  · split
    · exact g3_nt h
    · exact g4_nt h
theorem telAll_nt {J : ex_Mem} {m s nn b a k : Nat} (h : nt a k) : r_telAll J m s nn b a k = J a k := (tell_nt h 6).trans (g1_nt h)
theorem pb_nt {J : ex_Mem} {y s nn b a k : Nat} (h : nt a k) : (r_pb J y s nn b).2 a k = J a k := (hears_nt h).trans (put_nt h)
theorem pd_nt {J : ex_Mem} {x y s nn b a k : Nat} (h : nt a k) : (r_pd J x y s nn b).2 a k = J a k := (hears_nt h).trans ((put_nt h).trans (pb_nt h))
theorem pe_nt {J : ex_Mem} {x y s nn b a k : Nat} (h : nt a k) : (r_pe J x y s nn b).2 a k = J a k := by
  have hp : (r_pd J x y s nn b).2 a k = J a k := pd_nt h
  unfold r_pe
  generalize r_pd J x y s nn b = P at *
  split
  · exact hp
  · split
    · exact (ans_nt h).trans hp
    · exact (ans_nt h).trans hp
theorem pf_nt {J : ex_Mem} {x y s nn b a k : Nat} (h : nt a k) : (r_pf J x y s nn b).2 a k = J a k := by
  have hp : (r_pe J x y s nn b).2 a k = J a k := pe_nt h
  unfold r_pf
  generalize r_pe J x y s nn b = P at *
  split
  · exact hp
  · split
    · exact (takes_nt h).trans hp
    · split
      · exact (says_nt h).trans ((takes_nt h).trans hp)
      · exact (says_nt h).trans ((takes_nt h).trans hp)
theorem pass_2 {J : ex_Mem} {x y s nn b : Nat} : (r_pass J x y s nn b).2 = (r_pf J x y s nn b).2 := by
  unfold r_pass
  dsimp only
theorem pass_nt {J : ex_Mem} {x y s nn b a k : Nat} (h : nt a k) : (r_pass J x y s nn b).2 a k = J a k := by
  rw [pass_2]
  exact pf_nt h
theorem cpy_nt {J : ex_Mem} {m a j : Nat} (h : nt a j) (k : Nat) : r_cpy J m k a j = J a j := cpy_fr (by unfold nt at h; omega) k
theorem ta_nt {J : ex_Mem} {x s nn b a k : Nat} (h : nt a k) : (r_ta J x s nn b).2 a k = J a k := (hears_nt h).trans (put_nt h)
theorem take_nt {J : ex_Mem} {m x s nn b a k : Nat} (h : nt a k) : (r_take J m x s nn b).2 a k = J a k := by
  unfold r_take
  split
  · exact ta_nt h
  · split
    · exact (ans_nt h).trans (ta_nt h)
    · split
      · exact (cpy_nt h nn).trans ((ans_nt h).trans (ta_nt h))
      · exact (ans_nt h).trans (ta_nt h)
theorem j0_nt {J : ex_Mem} {a k : Nat} (h : nt a k) : r_j0 J a k = J a k := nt_w h (by unfold nt; omega)
theorem att_nt {J : ex_Mem} {m b a k : Nat} (h : nt a k) : (r_attempt J m b).2 a k = J a k := by
  unfold r_attempt
  split
  · exact (give_nt h).trans (j0_nt h)
  · split
    · exact (telAll_nt h).trans (j0_nt h)
    · split
      · exact (cmds_nt h).trans (j0_nt h)
      · split
        · exact (pass_nt h).trans (j0_nt h)
        · exact (take_nt h).trans (j0_nt h)
theorem tk_eq {J J' : ex_Mem} {a m : Nat} (h : J' a m = J a m) : tk J' a m = tk J a m := congrArg Int32.toNatClampNeg h
theorem vMsg_eq {J J' : ex_Mem} {m : Nat} (h9 : J' 69 m = J 69 m) (h0 : J' 70 m = J 70 m) (h1 : J' 71 m = J 71 m) (h2 : J' 72 m = J 72 m) (h3 : J' 73 m = J 73 m) (hv : vMsg J m) : vMsg J' m := by
  unfold vMsg at *
  rw [tk_eq h9, tk_eq h0, tk_eq h1, tk_eq h2, tk_eq h3, h9, h0, h1, h2, h3]
  exact hv
theorem nt69 {a k : Nat} (h : 67 ≤ a ∧ a ≤ 75) : nt a k := Or.inr (Or.inr (Or.inr (Or.inr (Or.inr (Or.inl h)))))
theorem vMsg_att {J : ex_Mem} {m m' b : Nat} (hv : vMsg J m) : vMsg (r_attempt J m' b).2 m := vMsg_eq (att_nt (nt69 (by decide))) (att_nt (nt69 (by decide))) (att_nt (nt69 (by decide))) (att_nt (nt69 (by decide))) (att_nt (nt69 (by decide))) hv
/-- an attempt adds at most twelve words -/
theorem cmds_hw {J : ex_Mem} {N m t cd b : Nat} (hh : hwB N J) (hN : N + 3 < 2 ^ 31) : hwB (N + 3) (r_commands J m t cd b).2 := by
  unfold r_commands
  split
  · exact hwB_up (c2_hw hh (by omega)) (by omega)
  · split
    · split
      · exact hwB_w (c5_hw hh hN) (by omega)
      · exact c5_hw hh hN
    · exact hwB_up (c4_hw hh (by omega)) (by omega)
theorem give_hw {J : ex_Mem} {N m x s nn b : Nat} (hh : hwB N J) (h4 : nn ≤ 4) (hN : N + 12 < 2 ^ 31) : hwB (N + 12) (r_give J m x s nn b).2 := by
  unfold r_give
  split
  · exact hwB_up (hears_hw (g1_hw hh (by omega))) (by omega)
  · split
    · exact hwB_up (g3_hw hh (by omega)) (by omega)
    · exact hwB_up (g4_hw hh (by omega)) (by omega)
theorem telAll_hw {J : ex_Mem} {N m s nn b : Nat} (hh : hwB N J) (h4 : nn ≤ 4) (hN : N + 12 < 2 ^ 31) : hwB (N + 12) (r_telAll J m s nn b) := hwB_up (hwB_eq (g1_hw (N := N) (m := m) (x := 31) (s := s) (nn := nn) (b := b) hh (by omega)) (tell_fr (by decide) (by decide) (by decide) (by decide) (by decide) 6)) (by omega)
theorem pd_hw {J : ex_Mem} {N x y s nn b : Nat} (hh : hwB N J) (hN : N + 2 < 2 ^ 31) : hwB (N + 2) (r_pd J x y s nn b).2 := hears_hw (hwB_put (hears_hw (hwB_put hh (by omega))) (by omega))
theorem pe_hw {J : ex_Mem} {N x y s nn b : Nat} (hh : hwB N J) (h4 : nn ≤ 4) (hN : N + 12 < 2 ^ 31) : hwB (N + 8) (r_pe J x y s nn b).2 := by
  have hp : hwB (N + 2) (r_pd J x y s nn b).2 := pd_hw hh (by omega)
  unfold r_pe
  generalize r_pd J x y s nn b = P at *
  split
  · exact hwB_up hp (by omega)
  · split
    · exact hwB_up (ans_hw hp (by omega)) (by omega)
    · exact hwB_up (ans_hw hp (by omega)) (by omega)
theorem pf_hw {J : ex_Mem} {N x y s nn b : Nat} (hh : hwB N J) (h4 : nn ≤ 4) (hN : N + 12 < 2 ^ 31) : hwB (N + 12) (r_pf J x y s nn b).2 := by
  have hp : hwB (N + 8) (r_pe J x y s nn b).2 := pe_hw hh h4 hN
  unfold r_pf
  generalize r_pe J x y s nn b = P at *
  split
  · exact hwB_up hp (by omega)
  · split
    · exact hwB_up (takes_hw hp) (by omega)
    · split
      · exact hwB_up (hwB_says (takes_hw hp) (by omega)) (by omega)
      · exact hwB_up (hwB_says (takes_hw hp) (by omega)) (by omega)
theorem pass_hw {J : ex_Mem} {N x y s nn b : Nat} (hh : hwB N J) (h4 : nn ≤ 4) (hN : N + 12 < 2 ^ 31) : hwB (N + 12) (r_pass J x y s nn b).2 := by
  rw [pass_2]
  exact pf_hw hh h4 hN
theorem take_hw {J : ex_Mem} {N m x s nn b : Nat} (hh : hwB N J) (h4 : nn ≤ 4) (hN : N + 12 < 2 ^ 31) : hwB (N + 12) (r_take J m x s nn b).2 := by
  have h1 : hwB (N + 1) (r_ta J x s nn b).2 := hears_hw (hwB_put hh (by omega))
  unfold r_take
  split
  · exact hwB_up h1 (by omega)
  · split
    · exact hwB_up (ans_hw h1 (by omega)) (by omega)
    · split
      · exact hwB_up (hwB_eq (ans_hw h1 (by omega)) (cpy_fr (by decide) nn)) (by omega)
      · exact hwB_up (ans_hw h1 (by omega)) (by omega)
theorem att_hw {J : ex_Mem} {N m b : Nat} (hv : vMsg J m) (hh : hwB N J) (hN : N + 12 < 2 ^ 31) : hwB (N + 12) (r_attempt J m b).2 := by
  obtain ⟨k1, k2, k3, k4, k5, k6⟩ := hv
  unfold r_attempt
  split
  · exact give_hw (j0_hw hh) (k5 (by omega)).2.2.2.2 hN
  · split
    · exact telAll_hw (j0_hw hh) (k5 (by omega)).2.2.2.2 hN
    · split
      · exact hwB_up (cmds_hw (j0_hw hh) (by omega)) (by omega)
      · split
        · exact pass_hw (j0_hw hh) (k5 (by omega)).2.2.2.2 hN
        · exact take_hw (j0_hw hh) (k5 (by omega)).2.2.2.2 hN
theorem xx_topi {G : ex_G} {L : Nat} {xs : Nat → Int32} {D mi pc : Nat} {lv st : List Value} {h : ex_Hp} {Q : Option Value → ex_Hp → Prop} {x y : Int32} (e : x = y) (kk : xx G L xs D mi pc lv (.int y :: st) h Q) : xx G L xs D mi pc lv (.int x :: st) h Q := by
  subst e
  exact kk
end
section
def r_d3 (A : Int32 × ex_Mem) (m bb : Nat) : ex_Mem := if A.1 = 0 then ex_wI A.2 77 m (nI 4) else ex_wI (ex_wI A.2 52 30 (nI (1 - bb))) 77 m (nI 3)
def r_d2 (A : Int32 × ex_Mem) (m bb : Nat) : ex_Mem := if A.1 = 0 then r_d3 (r_attempt A.2 m (1 - bb)) m bb else ex_wI A.2 77 m (nI 2)
def r_d1 (A : Int32 × ex_Mem) (m bb : Nat) : ex_Mem := if A.1 = 0 then r_d2 (r_attempt A.2 m bb) m bb else ex_wI A.2 77 m (nI 1)
def r_does (J : ex_Mem) (m bb : Nat) : ex_Mem := r_d1 (r_attempt J m bb) m bb
theorem nt_bus : nt 52 30 := by unfold nt; omega
theorem r_does_ok {L : Nat} {xs : Nat → Int32} {D n : Nat} {I J : ex_Mem} {m bb N : Nat} (hm : m < 8) (hbb : bb < 2) (hbus : J 52 30 = nI bb) (hv : vMsg J m) (hh : hwB N J) (hN : N + 36 < 2 ^ 31) : ro L xs (D + 6) 117 [.ref 52, .int (nI m)] (mkH n I J) (mkH n I (r_does J m bb)) := by
  show xx cb_G _ _ _ 117 0 [.ref 52, .int (nI m), ex_no, ex_no, ex_no] [] _ _
  refine xi_iconst (pc' := 1) rfl rfl ?_
  refine xi_istore_n (pc' := 2) rfl (st1_2 rfl) rfl ?_
  refine xi_iconst (pc' := 3) rfl rfl ?_
  refine xi_istore_n (pc' := 4) rfl (st1_3 rfl) rfl ?_
  refine xi_iload_n (pc' := 5) rfl rfl rfl ?_
  refine xi_iconst (pc' := 6) rfl rfl ?_
  refine xi_icmpf (pc' := 9) (tg := 56) rfl rfl (by decide) rfl ?_
  refine xi_iload_n (pc' := 10) rfl rfl rfl ?_
  refine xi_iconst (pc' := 11) rfl rfl ?_
  refine xi_icmpf (pc' := 14) (tg := 56) rfl rfl (by decide) rfl ?_
  refine xi_iload_n (pc' := 15) rfl rfl rfl ?_
  refine xi_iconst (pc' := 16) rfl rfl ?_
  refine xi_icmpf (pc' := 19) (tg := 26) rfl rfl (by decide) rfl ?_
  refine xi_aload_n (pc' := 20) rfl rfl rfl ?_
  refine xr_getiv (v := nI (bb)) (pc' := 23) rfl rfl (by decide) (by decide) (by first | exact hbus | exact (att_nt nt_bus).trans hbus | exact (att_nt nt_bus).trans ((att_nt nt_bus).trans hbus) | exact (att_nt nt_bus).trans ((att_nt nt_bus).trans ((att_nt nt_bus).trans hbus))) rfl ?_
  refine xi_goto (pc' := 32) rfl rfl ?_
  refine xi_istore (pc' := 34) rfl (st1_4 rfl) rfl ?_
  refine xi_aload_n (pc' := 35) rfl rfl rfl ?_
  refine xi_iload_n (pc' := 36) rfl rfl rfl ?_
  refine xi_iload (pc' := 38) rfl rfl rfl ?_
  refine xx_callVi (pc' := 41) rfl rfl (by decide) rfl rfl (by show _ < 81 + 2 * _; omega) (Nat.le_of_ble_eq_true rfl) rfl rfl (r_attempt_ok (D := D) (N := N) hm hbb hv hh (by omega)) ?_
  refine xx_if (pc' := 44) (tg := 48) rfl rfl rfl (fun q41 => ?_) (fun q41 => ?_)
  · refine xi_iconst (pc' := 49) rfl rfl ?_
    refine xi_istore_n (pc' := 50) rfl (st1_2 rfl) rfl ?_
    refine xi_iincv (y := nI 2) (pc' := 53) rfl rfl (by decide) (st1_3 rfl) rfl ?_
    refine xi_goto (pc' := 4) rfl rfl ?_
    refine xi_iload_n (pc' := 5) rfl rfl rfl ?_
    refine xi_iconst (pc' := 6) rfl rfl ?_
    refine xi_icmpf (pc' := 9) (tg := 56) rfl rfl (by decide) rfl ?_
    refine xi_iload_n (pc' := 10) rfl rfl rfl ?_
    refine xi_iconst (pc' := 11) rfl rfl ?_
    refine xi_icmpf (pc' := 14) (tg := 56) rfl rfl (by decide) rfl ?_
    refine xi_iload_n (pc' := 15) rfl rfl rfl ?_
    refine xi_iconst (pc' := 16) rfl rfl ?_
    refine xi_icmpf (pc' := 19) (tg := 26) rfl rfl (by decide) rfl ?_
    refine xi_aload_n (pc' := 20) rfl rfl rfl ?_
    refine xr_getiv (v := nI (bb)) (pc' := 23) rfl rfl (by decide) (by decide) (by first | exact hbus | exact (att_nt nt_bus).trans hbus | exact (att_nt nt_bus).trans ((att_nt nt_bus).trans hbus) | exact (att_nt nt_bus).trans ((att_nt nt_bus).trans ((att_nt nt_bus).trans hbus))) rfl ?_
    refine xi_goto (pc' := 32) rfl rfl ?_
    refine xi_istore (pc' := 34) rfl (st1_4 rfl) rfl ?_
    refine xi_aload_n (pc' := 35) rfl rfl rfl ?_
    refine xi_iload_n (pc' := 36) rfl rfl rfl ?_
    refine xi_iload (pc' := 38) rfl rfl rfl ?_
    refine xx_callVi (pc' := 41) rfl rfl (by decide) rfl rfl (by show _ < 81 + 2 * _; omega) (Nat.le_of_ble_eq_true rfl) rfl rfl (r_attempt_ok (D := D) (N := N + 12) hm hbb (vMsg_att hv) (att_hw hv hh (by omega)) (by omega)) ?_
    refine xx_if (pc' := 44) (tg := 48) rfl rfl rfl (fun q41 => ?_) (fun q41 => ?_)
    · refine xi_iconst (pc' := 49) rfl rfl ?_
      refine xi_istore_n (pc' := 50) rfl (st1_2 rfl) rfl ?_
      refine xi_iincv (y := nI 3) (pc' := 53) rfl rfl (by decide) (st1_3 rfl) rfl ?_
      refine xi_goto (pc' := 4) rfl rfl ?_
      refine xi_iload_n (pc' := 5) rfl rfl rfl ?_
      refine xi_iconst (pc' := 6) rfl rfl ?_
      refine xi_icmpf (pc' := 9) (tg := 56) rfl rfl (by decide) rfl ?_
      refine xi_iload_n (pc' := 10) rfl rfl rfl ?_
      refine xi_iconst (pc' := 11) rfl rfl ?_
      refine xi_icmpf (pc' := 14) (tg := 56) rfl rfl (by decide) rfl ?_
      refine xi_iload_n (pc' := 15) rfl rfl rfl ?_
      refine xi_iconst (pc' := 16) rfl rfl ?_
      refine xi_icmpt (pc' := 26) rfl rfl (by decide) ?_
      refine xi_iconst (pc' := 27) rfl rfl ?_
      refine xi_aload_n (pc' := 28) rfl rfl rfl ?_
      refine xr_getiv (v := nI (bb)) (pc' := 31) rfl rfl (by decide) (by decide) (by first | exact hbus | exact (att_nt nt_bus).trans hbus | exact (att_nt nt_bus).trans ((att_nt nt_bus).trans hbus) | exact (att_nt nt_bus).trans ((att_nt nt_bus).trans ((att_nt nt_bus).trans hbus))) rfl ?_
      refine xi_isub (pc' := 32) rfl rfl ?_
      refine xx_topi (y := nI (1 - bb)) (pk_sub (by omega)) ?_
      refine xi_istore (pc' := 34) rfl (st1_4 rfl) rfl ?_
      refine xi_aload_n (pc' := 35) rfl rfl rfl ?_
      refine xi_iload_n (pc' := 36) rfl rfl rfl ?_
      refine xi_iload (pc' := 38) rfl rfl rfl ?_
      refine xx_callVi (pc' := 41) rfl rfl (by decide) rfl rfl (by show _ < 81 + 2 * _; omega) (Nat.le_of_ble_eq_true rfl) rfl rfl (r_attempt_ok (D := D) (N := N + 24) (b := 1 - bb) hm (by omega) (vMsg_att (vMsg_att hv)) (att_hw (vMsg_att hv) (att_hw hv hh (by omega)) (by omega)) (by omega)) ?_
      refine xx_if (pc' := 44) (tg := 48) rfl rfl rfl (fun q41 => ?_) (fun q41 => ?_)
      · refine xi_iconst (pc' := 49) rfl rfl ?_
        refine xi_istore_n (pc' := 50) rfl (st1_2 rfl) rfl ?_
        refine xi_iincv (y := nI 4) (pc' := 53) rfl rfl (by decide) (st1_3 rfl) rfl ?_
        refine xi_goto (pc' := 4) rfl rfl ?_
        refine xi_iload_n (pc' := 5) rfl rfl rfl ?_
        refine xi_iconst (pc' := 6) rfl rfl ?_
        refine xi_icmpt (pc' := 56) rfl rfl (by decide) ?_
        refine xi_iload_n (pc' := 57) rfl rfl rfl ?_
        refine xi_iconst (pc' := 58) rfl rfl ?_
        refine xi_icmpt (pc' := 71) rfl rfl (by decide) ?_
        refine xi_aload_n (pc' := 72) rfl rfl rfl ?_
        refine xr_getp (pc' := 75) rfl rfl (by decide) rfl rfl rfl ?_
        refine xi_iload_n (pc' := 76) rfl rfl rfl ?_
        refine xi_iload_n (pc' := 77) rfl rfl rfl ?_
        refine xr_iast (j := m) (pc' := 78) rfl rfl (by decide) (by first | rfl | (simp only [ix_add, ix_mul, ix_pred]; done) | (simp only [ix_add, ix_mul, ix_pred, *]; done)) (by omega) (by decide) rfl ?_
        refine xx_return rfl (by decide) ?_
        simp only [ex_P, Classical.not_not, ↓reduceIte, Nat.add_zero, or_true, true_or, not_true_eq_false, not_false_eq_true, or_false, false_or, wI_get, false_and, true_and, and_true, and_false, and_self, Nat.reduceEqDiff, Nat.succ_ne_zero, reduceCtorEq, nI_lit, nI_lit0, Nat.reduceLT] at *
        first | (simp only [r_does, r_d1, r_d2, r_d3, *, ↓reduceIte, Nat.add_zero, or_true, true_or, not_true_eq_false, not_false_eq_true, or_false, false_or, wI_get, false_and, true_and, and_true, and_false, and_self, Nat.reduceEqDiff, Nat.succ_ne_zero, reduceCtorEq, nI_lit, nI_lit0, Nat.reduceLT]; done) | (exfalso; simp_all only [↓reduceIte, Nat.add_zero, or_true, true_or, not_true_eq_false, not_false_eq_true, or_false, false_or, wI_get, false_and, true_and, and_true, and_false, and_self, Nat.reduceEqDiff, Nat.succ_ne_zero, reduceCtorEq, nI_lit, nI_lit0, Nat.reduceLT]; done)
      · refine xi_iload_n (pc' := 45) rfl rfl rfl ?_
        refine xi_goto (pc' := 49) rfl rfl ?_
        refine xi_istore_n (pc' := 50) rfl (st1_2 rfl) rfl ?_
        refine xi_iincv (y := nI 4) (pc' := 53) rfl rfl (by decide) (st1_3 rfl) rfl ?_
        refine xi_goto (pc' := 4) rfl rfl ?_
        refine xi_iload_n (pc' := 5) rfl rfl rfl ?_
        refine xi_iconst (pc' := 6) rfl rfl ?_
        refine xi_icmpt (pc' := 56) rfl rfl (by decide) ?_
        refine xi_iload_n (pc' := 57) rfl rfl rfl ?_
        refine xi_iconst (pc' := 58) rfl rfl ?_
        refine xi_icmpf (pc' := 61) (tg := 71) rfl rfl (by decide) rfl ?_
        refine xi_aload_n (pc' := 62) rfl rfl rfl ?_
        refine xi_iconst (pc' := 63) rfl rfl ?_
        refine xi_aload_n (pc' := 64) rfl rfl rfl ?_
        refine xr_getiv (v := nI (bb)) (pc' := 67) rfl rfl (by decide) (by decide) (by first | exact hbus | exact (att_nt nt_bus).trans hbus | exact (att_nt nt_bus).trans ((att_nt nt_bus).trans hbus) | exact (att_nt nt_bus).trans ((att_nt nt_bus).trans ((att_nt nt_bus).trans hbus))) rfl ?_
        refine xi_isub (pc' := 68) rfl rfl ?_
        refine xx_topi (y := nI (1 - bb)) (pk_sub (by omega)) ?_
        refine xr_puti (z := 0) (pc' := 71) rfl rfl (by decide) (Or.inl rfl) rfl ?_
        refine xi_aload_n (pc' := 72) rfl rfl rfl ?_
        refine xr_getp (pc' := 75) rfl rfl (by decide) rfl rfl rfl ?_
        refine xi_iload_n (pc' := 76) rfl rfl rfl ?_
        refine xi_iload_n (pc' := 77) rfl rfl rfl ?_
        refine xr_iast (j := m) (pc' := 78) rfl rfl (by decide) (by first | rfl | (simp only [ix_add, ix_mul, ix_pred]; done) | (simp only [ix_add, ix_mul, ix_pred, *]; done)) (by omega) (by decide) rfl ?_
        refine xx_return rfl (by decide) ?_
        simp only [ex_P, Classical.not_not, ↓reduceIte, Nat.add_zero, or_true, true_or, not_true_eq_false, not_false_eq_true, or_false, false_or, wI_get, false_and, true_and, and_true, and_false, and_self, Nat.reduceEqDiff, Nat.succ_ne_zero, reduceCtorEq, nI_lit, nI_lit0, Nat.reduceLT] at *
        first | (simp only [r_does, r_d1, r_d2, r_d3, *, ↓reduceIte, Nat.add_zero, or_true, true_or, not_true_eq_false, not_false_eq_true, or_false, false_or, wI_get, false_and, true_and, and_true, and_false, and_self, Nat.reduceEqDiff, Nat.succ_ne_zero, reduceCtorEq, nI_lit, nI_lit0, Nat.reduceLT]; done) | (exfalso; simp_all only [↓reduceIte, Nat.add_zero, or_true, true_or, not_true_eq_false, not_false_eq_true, or_false, false_or, wI_get, false_and, true_and, and_true, and_false, and_self, Nat.reduceEqDiff, Nat.succ_ne_zero, reduceCtorEq, nI_lit, nI_lit0, Nat.reduceLT]; done)
    · refine xi_iload_n (pc' := 45) rfl rfl rfl ?_
      refine xi_goto (pc' := 49) rfl rfl ?_
      refine xi_istore_n (pc' := 50) rfl (st1_2 rfl) rfl ?_
      refine xi_iincv (y := nI 3) (pc' := 53) rfl rfl (by decide) (st1_3 rfl) rfl ?_
      refine xi_goto (pc' := 4) rfl rfl ?_
      refine xi_iload_n (pc' := 5) rfl rfl rfl ?_
      refine xi_iconst (pc' := 6) rfl rfl ?_
      refine xi_icmpf (pc' := 9) (tg := 56) rfl rfl (by decide) rfl ?_
      refine xi_iload_n (pc' := 10) rfl rfl rfl ?_
      refine xi_iconst (pc' := 11) rfl rfl ?_
      refine xi_icmpt (pc' := 56) rfl rfl (by decide) ?_
      refine xi_iload_n (pc' := 57) rfl rfl rfl ?_
      refine xi_iconst (pc' := 58) rfl rfl ?_
      refine xi_icmpt (pc' := 71) rfl rfl (by decide) ?_
      refine xi_aload_n (pc' := 72) rfl rfl rfl ?_
      refine xr_getp (pc' := 75) rfl rfl (by decide) rfl rfl rfl ?_
      refine xi_iload_n (pc' := 76) rfl rfl rfl ?_
      refine xi_iload_n (pc' := 77) rfl rfl rfl ?_
      refine xr_iast (j := m) (pc' := 78) rfl rfl (by decide) (by first | rfl | (simp only [ix_add, ix_mul, ix_pred]; done) | (simp only [ix_add, ix_mul, ix_pred, *]; done)) (by omega) (by decide) rfl ?_
      refine xx_return rfl (by decide) ?_
      simp only [ex_P, Classical.not_not, ↓reduceIte, Nat.add_zero, or_true, true_or, not_true_eq_false, not_false_eq_true, or_false, false_or, wI_get, false_and, true_and, and_true, and_false, and_self, Nat.reduceEqDiff, Nat.succ_ne_zero, reduceCtorEq, nI_lit, nI_lit0, Nat.reduceLT] at *
      first | (simp only [r_does, r_d1, r_d2, r_d3, *, ↓reduceIte, Nat.add_zero, or_true, true_or, not_true_eq_false, not_false_eq_true, or_false, false_or, wI_get, false_and, true_and, and_true, and_false, and_self, Nat.reduceEqDiff, Nat.succ_ne_zero, reduceCtorEq, nI_lit, nI_lit0, Nat.reduceLT]; done) | (exfalso; simp_all only [↓reduceIte, Nat.add_zero, or_true, true_or, not_true_eq_false, not_false_eq_true, or_false, false_or, wI_get, false_and, true_and, and_true, and_false, and_self, Nat.reduceEqDiff, Nat.succ_ne_zero, reduceCtorEq, nI_lit, nI_lit0, Nat.reduceLT]; done)
  · refine xi_iload_n (pc' := 45) rfl rfl rfl ?_
    refine xi_goto (pc' := 49) rfl rfl ?_
    refine xi_istore_n (pc' := 50) rfl (st1_2 rfl) rfl ?_
    refine xi_iincv (y := nI 2) (pc' := 53) rfl rfl (by decide) (st1_3 rfl) rfl ?_
    refine xi_goto (pc' := 4) rfl rfl ?_
    refine xi_iload_n (pc' := 5) rfl rfl rfl ?_
    refine xi_iconst (pc' := 6) rfl rfl ?_
    refine xi_icmpf (pc' := 9) (tg := 56) rfl rfl (by decide) rfl ?_
    refine xi_iload_n (pc' := 10) rfl rfl rfl ?_
    refine xi_iconst (pc' := 11) rfl rfl ?_
    refine xi_icmpt (pc' := 56) rfl rfl (by decide) ?_
    refine xi_iload_n (pc' := 57) rfl rfl rfl ?_
    refine xi_iconst (pc' := 58) rfl rfl ?_
    refine xi_icmpt (pc' := 71) rfl rfl (by decide) ?_
    refine xi_aload_n (pc' := 72) rfl rfl rfl ?_
    refine xr_getp (pc' := 75) rfl rfl (by decide) rfl rfl rfl ?_
    refine xi_iload_n (pc' := 76) rfl rfl rfl ?_
    refine xi_iload_n (pc' := 77) rfl rfl rfl ?_
    refine xr_iast (j := m) (pc' := 78) rfl rfl (by decide) (by first | rfl | (simp only [ix_add, ix_mul, ix_pred]; done) | (simp only [ix_add, ix_mul, ix_pred, *]; done)) (by omega) (by decide) rfl ?_
    refine xx_return rfl (by decide) ?_
    simp only [ex_P, Classical.not_not, ↓reduceIte, Nat.add_zero, or_true, true_or, not_true_eq_false, not_false_eq_true, or_false, false_or, wI_get, false_and, true_and, and_true, and_false, and_self, Nat.reduceEqDiff, Nat.succ_ne_zero, reduceCtorEq, nI_lit, nI_lit0, Nat.reduceLT] at *
    first | (simp only [r_does, r_d1, r_d2, r_d3, *, ↓reduceIte, Nat.add_zero, or_true, true_or, not_true_eq_false, not_false_eq_true, or_false, false_or, wI_get, false_and, true_and, and_true, and_false, and_self, Nat.reduceEqDiff, Nat.succ_ne_zero, reduceCtorEq, nI_lit, nI_lit0, Nat.reduceLT]; done) | (exfalso; simp_all only [↓reduceIte, Nat.add_zero, or_true, true_or, not_true_eq_false, not_false_eq_true, or_false, false_or, wI_get, false_and, true_and, and_true, and_false, and_self, Nat.reduceEqDiff, Nat.succ_ne_zero, reduceCtorEq, nI_lit, nI_lit0, Nat.reduceLT]; done)
def r_isOf (J : ex_Mem) (m t : Nat) : Int32 := if J 69 m = nI 3 then nI 0 else if J 70 m = nI t then nI 1 else if J 69 m = nI 2 then (if J 71 m = nI t then nI 1 else nI 0) else nI 0
theorem r_isOf_ok {L : Nat} {xs : Nat → Int32} {D n : Nat} {I J : ex_Mem} {m t : Nat} (hm : m < 8) (ht : t < 6) : ri L xs D 116 [.ref 52, .int (nI m), .int (nI t)] (mkH n I J) (r_isOf J m t) (mkH n I J) := by
  show xx cb_G _ _ _ 116 0 [.ref 52, .int (nI m), .int (nI t)] [] _ _
  refine xi_aload_n (pc' := 1) rfl rfl rfl ?_
  refine xr_getp (pc' := 4) rfl rfl (by decide) rfl rfl rfl ?_
  refine xi_iload_n (pc' := 5) rfl rfl rfl ?_
  refine xr_iald (j := m) (pc' := 6) rfl rfl (by decide) (by first | rfl | (simp only [ix_add, ix_mul, ix_pred]; done) | (simp only [ix_add, ix_mul, ix_pred, *]; done)) (by omega) (by decide) rfl ?_
  refine xi_iconst (pc' := 7) rfl rfl ?_
  refine xx_icmp (pc' := 10) (tg := 44) rfl rfl rfl (fun q7 => ?_) (fun q7 => ?_)
  · refine xi_iconst (pc' := 45) rfl rfl ?_
    refine xx_zreturn rfl rfl (by first | rfl | assumption | exact b01_bI | simp [ex_b01, bI]) ?_
    simp only [ex_P, Classical.not_not, ↓reduceIte, Nat.add_zero, or_true, true_or, not_true_eq_false, not_false_eq_true, or_false, false_or, wI_get, false_and, true_and, and_true, and_false, and_self, Nat.reduceEqDiff, Nat.succ_ne_zero, reduceCtorEq, nI_lit, nI_lit0, Nat.reduceLT] at *
    first | (simp only [r_isOf, *, ↓reduceIte, Nat.add_zero, or_true, true_or, not_true_eq_false, not_false_eq_true, or_false, false_or, wI_get, false_and, true_and, and_true, and_false, and_self, Nat.reduceEqDiff, Nat.succ_ne_zero, reduceCtorEq, nI_lit, nI_lit0, Nat.reduceLT]; done) | (exfalso; simp_all only [↓reduceIte, Nat.add_zero, or_true, true_or, not_true_eq_false, not_false_eq_true, or_false, false_or, wI_get, false_and, true_and, and_true, and_false, and_self, Nat.reduceEqDiff, Nat.succ_ne_zero, reduceCtorEq, nI_lit, nI_lit0, Nat.reduceLT]; done)
  · refine xi_aload_n (pc' := 11) rfl rfl rfl ?_
    refine xr_getp (pc' := 14) rfl rfl (by decide) rfl rfl rfl ?_
    refine xi_iload_n (pc' := 15) rfl rfl rfl ?_
    refine xr_iald (j := m) (pc' := 16) rfl rfl (by decide) (by first | rfl | (simp only [ix_add, ix_mul, ix_pred]; done) | (simp only [ix_add, ix_mul, ix_pred, *]; done)) (by omega) (by decide) rfl ?_
    refine xi_iload_n (pc' := 17) rfl rfl rfl ?_
    refine xx_icmp (pc' := 20) (tg := 40) rfl rfl rfl (fun q17 => ?_) (fun q17 => ?_)
    · refine xi_iconst (pc' := 41) rfl rfl ?_
      refine xi_goto (pc' := 45) rfl rfl ?_
      refine xx_zreturn rfl rfl (by first | rfl | assumption | exact b01_bI | simp [ex_b01, bI]) ?_
      simp only [ex_P, Classical.not_not, ↓reduceIte, Nat.add_zero, or_true, true_or, not_true_eq_false, not_false_eq_true, or_false, false_or, wI_get, false_and, true_and, and_true, and_false, and_self, Nat.reduceEqDiff, Nat.succ_ne_zero, reduceCtorEq, nI_lit, nI_lit0, Nat.reduceLT] at *
      first | (simp only [r_isOf, *, ↓reduceIte, Nat.add_zero, or_true, true_or, not_true_eq_false, not_false_eq_true, or_false, false_or, wI_get, false_and, true_and, and_true, and_false, and_self, Nat.reduceEqDiff, Nat.succ_ne_zero, reduceCtorEq, nI_lit, nI_lit0, Nat.reduceLT]; done) | (exfalso; simp_all only [↓reduceIte, Nat.add_zero, or_true, true_or, not_true_eq_false, not_false_eq_true, or_false, false_or, wI_get, false_and, true_and, and_true, and_false, and_self, Nat.reduceEqDiff, Nat.succ_ne_zero, reduceCtorEq, nI_lit, nI_lit0, Nat.reduceLT]; done)
    · refine xi_aload_n (pc' := 21) rfl rfl rfl ?_
      refine xr_getp (pc' := 24) rfl rfl (by decide) rfl rfl rfl ?_
      refine xi_iload_n (pc' := 25) rfl rfl rfl ?_
      refine xr_iald (j := m) (pc' := 26) rfl rfl (by decide) (by first | rfl | (simp only [ix_add, ix_mul, ix_pred]; done) | (simp only [ix_add, ix_mul, ix_pred, *]; done)) (by omega) (by decide) rfl ?_
      refine xi_iconst (pc' := 27) rfl rfl ?_
      refine xx_icmp (pc' := 30) (tg := 44) rfl rfl rfl (fun q27 => ?_) (fun q27 => ?_)
      · refine xi_iconst (pc' := 45) rfl rfl ?_
        refine xx_zreturn rfl rfl (by first | rfl | assumption | exact b01_bI | simp [ex_b01, bI]) ?_
        simp only [ex_P, Classical.not_not, ↓reduceIte, Nat.add_zero, or_true, true_or, not_true_eq_false, not_false_eq_true, or_false, false_or, wI_get, false_and, true_and, and_true, and_false, and_self, Nat.reduceEqDiff, Nat.succ_ne_zero, reduceCtorEq, nI_lit, nI_lit0, Nat.reduceLT] at *
        first | (simp only [r_isOf, *, ↓reduceIte, Nat.add_zero, or_true, true_or, not_true_eq_false, not_false_eq_true, or_false, false_or, wI_get, false_and, true_and, and_true, and_false, and_self, Nat.reduceEqDiff, Nat.succ_ne_zero, reduceCtorEq, nI_lit, nI_lit0, Nat.reduceLT]; done) | (exfalso; simp_all only [↓reduceIte, Nat.add_zero, or_true, true_or, not_true_eq_false, not_false_eq_true, or_false, false_or, wI_get, false_and, true_and, and_true, and_false, and_self, Nat.reduceEqDiff, Nat.succ_ne_zero, reduceCtorEq, nI_lit, nI_lit0, Nat.reduceLT]; done)
      · refine xi_aload_n (pc' := 31) rfl rfl rfl ?_
        refine xr_getp (pc' := 34) rfl rfl (by decide) rfl rfl rfl ?_
        refine xi_iload_n (pc' := 35) rfl rfl rfl ?_
        refine xr_iald (j := m) (pc' := 36) rfl rfl (by decide) (by first | rfl | (simp only [ix_add, ix_mul, ix_pred]; done) | (simp only [ix_add, ix_mul, ix_pred, *]; done)) (by omega) (by decide) rfl ?_
        refine xi_iload_n (pc' := 37) rfl rfl rfl ?_
        refine xx_icmp (pc' := 40) (tg := 44) rfl rfl rfl (fun q37 => ?_) (fun q37 => ?_)
        · refine xi_iconst (pc' := 45) rfl rfl ?_
          refine xx_zreturn rfl rfl (by first | rfl | assumption | exact b01_bI | simp [ex_b01, bI]) ?_
          simp only [ex_P, Classical.not_not, ↓reduceIte, Nat.add_zero, or_true, true_or, not_true_eq_false, not_false_eq_true, or_false, false_or, wI_get, false_and, true_and, and_true, and_false, and_self, Nat.reduceEqDiff, Nat.succ_ne_zero, reduceCtorEq, nI_lit, nI_lit0, Nat.reduceLT] at *
          first | (simp only [r_isOf, *, ↓reduceIte, Nat.add_zero, or_true, true_or, not_true_eq_false, not_false_eq_true, or_false, false_or, wI_get, false_and, true_and, and_true, and_false, and_self, Nat.reduceEqDiff, Nat.succ_ne_zero, reduceCtorEq, nI_lit, nI_lit0, Nat.reduceLT]; done) | (exfalso; simp_all only [↓reduceIte, Nat.add_zero, or_true, true_or, not_true_eq_false, not_false_eq_true, or_false, false_or, wI_get, false_and, true_and, and_true, and_false, and_self, Nat.reduceEqDiff, Nat.succ_ne_zero, reduceCtorEq, nI_lit, nI_lit0, Nat.reduceLT]; done)
        · refine xi_iconst (pc' := 41) rfl rfl ?_
          refine xi_goto (pc' := 45) rfl rfl ?_
          refine xx_zreturn rfl rfl (by first | rfl | assumption | exact b01_bI | simp [ex_b01, bI]) ?_
          simp only [ex_P, Classical.not_not, ↓reduceIte, Nat.add_zero, or_true, true_or, not_true_eq_false, not_false_eq_true, or_false, false_or, wI_get, false_and, true_and, and_true, and_false, and_self, Nat.reduceEqDiff, Nat.succ_ne_zero, reduceCtorEq, nI_lit, nI_lit0, Nat.reduceLT] at *
          first | (simp only [r_isOf, *, ↓reduceIte, Nat.add_zero, or_true, true_or, not_true_eq_false, not_false_eq_true, or_false, false_or, wI_get, false_and, true_and, and_true, and_false, and_self, Nat.reduceEqDiff, Nat.succ_ne_zero, reduceCtorEq, nI_lit, nI_lit0, Nat.reduceLT]; done) | (exfalso; simp_all only [↓reduceIte, Nat.add_zero, or_true, true_or, not_true_eq_false, not_false_eq_true, or_false, false_or, wI_get, false_and, true_and, and_true, and_false, and_self, Nat.reduceEqDiff, Nat.succ_ne_zero, reduceCtorEq, nI_lit, nI_lit0, Nat.reduceLT]; done)
def r_aside (J : ex_Mem) (m : Nat) : Nat → Int32
  | 0 => nI 0
  | t + 1 => if r_aside J m t = 0 then (if J 68 t = 0 then nI 0 else if r_isOf J m t = 0 then nI 0 else nI 1) else nI 1
def r_note1 (J : ex_Mem) (m t : Nat) : Int32 := if r_isOf J m t = 0 then J 80 t else if J 80 t < (if J 77 m = nI 4 then nI 2 else nI 1) then (if J 77 m = nI 4 then nI 2 else nI 1) else J 80 t
def r_note (J : ex_Mem) (m : Nat) : Nat → ex_Mem
  | 0 => J
  | t + 1 => ex_wI (r_note J m t) 80 t (r_note1 (r_note J m t) m t)
end
section
theorem bool_aside {J : ex_Mem} {m : Nat} : ∀ t, ex_b01 (r_aside J m t) = true
  | 0 => b01_0
  | t + 1 => by
    unfold r_aside
    split
    · split
      · exact b01_0
      · split
        · exact b01_0
        · exact b01_1
    · exact b01_1
theorem r_aside_loop {L : Nat} {xs : Nat → Int32} {D n : Nat} {I J : ex_Mem} {m : Nat} (hm : m < 8) : ∀ (j t : Nat), t + j = 6 → xx cb_G L xs (D + 1) 115 4 [.ref 52, .int (nI m), .int (r_aside J m t), .int (nI t)] [] (mkH n I J) (fun r h => r = some (.int (r_aside J m 6)) ∧ h = mkH n I J) := by
  intro j
  induction j with
  | zero =>
    intro t ht
    have ht : t = 6 := by omega
    subst ht
    refine xi_iload_n (pc' := 5) rfl rfl rfl ?_
    refine xi_bipush (pc' := 7) rfl (by decide) rfl ?_
    refine xx_icmp (pc' := 10) (tg := 44) rfl rfl rfl (fun q7 => ?_) (fun q7 => absurd (show ex_P .ge (nI 6) (nI 6) from Int32.le_refl _) q7)
    refine xi_iload_n (pc' := 45) rfl rfl rfl ?_
    refine xx_zreturn rfl rfl (bool_aside 6) ?_
    exact ⟨rfl, rfl⟩
  | succ j ih =>
    intro t ht
    refine xi_iload_n (pc' := 5) rfl rfl rfl ?_
    refine xi_bipush (pc' := 7) rfl (by decide) rfl ?_
    refine xx_icmp (pc' := 10) (tg := 44) rfl rfl rfl (fun q7 => absurd q7 (show ¬ ex_P .ge (nI t) (nI 6) from nI_ge (by omega) (by decide))) (fun q7 => ?_)
    refine xi_iload_n (pc' := 11) rfl rfl rfl ?_
    refine xx_if (pc' := 14) (tg := 32) rfl rfl rfl (fun q11 => ?_) (fun q11 => ?_)
    · refine xi_iconst (pc' := 33) rfl rfl ?_
      refine xi_goto (pc' := 37) rfl rfl ?_
      refine xi_istore_n (pc' := 38) rfl (st1_2 rfl) rfl ?_
      refine xi_iincv (y := nI (t + 1)) (pc' := 41) rfl rfl (ix_add _ _) (st1_3 rfl) rfl ?_
      refine xi_goto (pc' := 4) rfl rfl ?_
      have e1 : r_aside J m (t + 1) = nI 1 := by
        simp only [ex_P, Classical.not_not] at *
        unfold r_aside
        simp only [*, ↓reduceIte]
      have e := ih (t + 1) (by omega)
      rw [e1] at e
      exact e
    · refine xi_aload_n (pc' := 15) rfl rfl rfl ?_
      refine xr_getp (pc' := 18) rfl rfl (by decide) rfl rfl rfl ?_
      refine xi_iload_n (pc' := 19) rfl rfl rfl ?_
      refine xr_zald (j := t) (pc' := 20) rfl rfl (by decide) (by first | rfl | (simp only [ix_add, ix_mul, ix_pred]; done) | (simp only [ix_add, ix_mul, ix_pred, *]; done)) (by omega) (by decide) rfl ?_
      refine xx_if (pc' := 23) (tg := 36) rfl rfl rfl (fun q20 => ?_) (fun q20 => ?_)
      · refine xi_iconst (pc' := 37) rfl rfl ?_
        refine xi_istore_n (pc' := 38) rfl (st1_2 rfl) rfl ?_
        refine xi_iincv (y := nI (t + 1)) (pc' := 41) rfl rfl (ix_add _ _) (st1_3 rfl) rfl ?_
        refine xi_goto (pc' := 4) rfl rfl ?_
        have e1 : r_aside J m (t + 1) = nI 0 := by
          simp only [ex_P, Classical.not_not] at *
          unfold r_aside
          simp only [*, ↓reduceIte]
        have e := ih (t + 1) (by omega)
        rw [e1] at e
        exact e
      · refine xi_aload_n (pc' := 24) rfl rfl rfl ?_
        refine xi_iload_n (pc' := 25) rfl rfl rfl ?_
        refine xi_iload_n (pc' := 26) rfl rfl rfl ?_
        refine xx_callVi (pc' := 29) rfl rfl (by decide) rfl rfl (by show _ < 81 + 2 * _; omega) (Nat.le_of_ble_eq_true rfl) rfl rfl (r_isOf_ok hm (by omega)) ?_
        refine xx_if (pc' := 32) (tg := 36) rfl rfl rfl (fun q29 => ?_) (fun q29 => ?_)
        · refine xi_iconst (pc' := 37) rfl rfl ?_
          refine xi_istore_n (pc' := 38) rfl (st1_2 rfl) rfl ?_
          refine xi_iincv (y := nI (t + 1)) (pc' := 41) rfl rfl (ix_add _ _) (st1_3 rfl) rfl ?_
          refine xi_goto (pc' := 4) rfl rfl ?_
          have e1 : r_aside J m (t + 1) = nI 0 := by
            simp only [ex_P, Classical.not_not] at *
            unfold r_aside
            simp only [*, ↓reduceIte]
          have e := ih (t + 1) (by omega)
          rw [e1] at e
          exact e
        · refine xi_iconst (pc' := 33) rfl rfl ?_
          refine xi_goto (pc' := 37) rfl rfl ?_
          refine xi_istore_n (pc' := 38) rfl (st1_2 rfl) rfl ?_
          refine xi_iincv (y := nI (t + 1)) (pc' := 41) rfl rfl (ix_add _ _) (st1_3 rfl) rfl ?_
          refine xi_goto (pc' := 4) rfl rfl ?_
          have e1 : r_aside J m (t + 1) = nI 1 := by
            simp only [ex_P, Classical.not_not] at *
            unfold r_aside
            simp only [*, ↓reduceIte]
          have e := ih (t + 1) (by omega)
          rw [e1] at e
          exact e
theorem r_isAside_ok {L : Nat} {xs : Nat → Int32} {D n : Nat} {I J : ex_Mem} {m : Nat} (hm : m < 8) : ri L xs (D + 1) 115 [.ref 52, .int (nI m)] (mkH n I J) (r_aside J m 6) (mkH n I J) := by
  show xx cb_G _ _ _ 115 0 [.ref 52, .int (nI m), ex_no, ex_no] [] _ _
  refine xi_iconst (pc' := 1) rfl rfl ?_
  refine xi_istore_n (pc' := 2) rfl (st1_2 rfl) rfl ?_
  refine xi_iconst (pc' := 3) rfl rfl ?_
  refine xi_istore_n (pc' := 4) rfl (st1_3 rfl) rfl ?_
  exact r_aside_loop hm 6 0 (by omega)
def r_now (J : ex_Mem) (m : Nat) : Int32 := if J 77 m = nI 4 then nI 2 else nI 1
def r_nt1 (J : ex_Mem) (m t : Nat) : Int32 := if r_isOf J m t = 0 then J 80 t else if r_now J m ≤ J 80 t then J 80 t else r_now J m
def r_nte (J : ex_Mem) (m : Nat) : Nat → ex_Mem
  | 0 => J
  | t + 1 => ex_wI (r_nte J m t) 80 t (r_nt1 (r_nte J m t) m t)
theorem r_note_loop {L : Nat} {xs : Nat → Int32} {D n : Nat} {I J : ex_Mem} {m : Nat} (hm : m < 8) : ∀ (j t : Nat), t + j = 6 → ∀ v3 : Value, v3.category = 1 → xx cb_G L xs (D + 1) 124 2 [.ref 52, .int (nI m), .int (nI t), v3] [] (mkH n I (r_nte J m t)) (fun r h => r = none ∧ h = mkH n I (r_nte J m 6)) := by
  intro j
  induction j with
  | zero =>
    intro t ht v3 h3
    have ht : t = 6 := by omega
    subst ht
    refine xi_iload_n (pc' := 3) rfl rfl rfl ?_
    refine xi_bipush (pc' := 5) rfl (by decide) rfl ?_
    refine xx_icmp (pc' := 8) (tg := 65) rfl rfl rfl (fun q5 => ?_) (fun q5 => absurd (show ex_P .ge (nI 6) (nI 6) from Int32.le_refl _) q5)
    refine xx_return rfl (by decide) ?_
    exact ⟨rfl, rfl⟩
  | succ j ih =>
    intro t ht v3 h3
    refine xi_iload_n (pc' := 3) rfl rfl rfl ?_
    refine xi_bipush (pc' := 5) rfl (by decide) rfl ?_
    refine xx_icmp (pc' := 8) (tg := 65) rfl rfl rfl (fun q5 => absurd q5 (show ¬ ex_P .ge (nI t) (nI 6) from nI_ge (by omega) (by decide))) (fun q5 => ?_)
    refine xi_aload_n (pc' := 9) rfl rfl rfl ?_
    refine xr_getp (pc' := 12) rfl rfl (by decide) rfl rfl rfl ?_
    refine xi_iload_n (pc' := 13) rfl rfl rfl ?_
    refine xr_iald (j := m) (pc' := 14) rfl rfl (by decide) (by first | rfl | (simp only [ix_add, ix_mul, ix_pred]; done) | (simp only [ix_add, ix_mul, ix_pred, *]; done)) (by omega) (by decide) rfl ?_
    refine xi_iconst (pc' := 15) rfl rfl ?_
    refine xx_icmp (pc' := 18) (tg := 22) rfl rfl rfl (fun q15 => ?_) (fun q15 => ?_)
    · refine xi_iconst (pc' := 23) rfl rfl ?_
      refine xi_istore_n (pc' := 24) rfl (st1_3 rfl) rfl ?_
      refine xi_aload_n (pc' := 25) rfl rfl rfl ?_
      refine xr_getp (pc' := 28) rfl rfl (by decide) rfl rfl rfl ?_
      refine xi_iload_n (pc' := 29) rfl rfl rfl ?_
      refine xi_aload_n (pc' := 30) rfl rfl rfl ?_
      refine xi_iload_n (pc' := 31) rfl rfl rfl ?_
      refine xi_iload_n (pc' := 32) rfl rfl rfl ?_
      refine xx_callVi (pc' := 35) rfl rfl (by decide) rfl rfl (by show _ < 81 + 2 * _; omega) (Nat.le_of_ble_eq_true rfl) rfl rfl (r_isOf_ok hm (by omega)) ?_
      refine xx_if (pc' := 38) (tg := 52) rfl rfl rfl (fun q35 => ?_) (fun q35 => ?_)
      · refine xi_aload_n (pc' := 53) rfl rfl rfl ?_
        refine xr_getp (pc' := 56) rfl rfl (by decide) rfl rfl rfl ?_
        refine xi_iload_n (pc' := 57) rfl rfl rfl ?_
        refine xr_iald (j := t) (pc' := 58) rfl rfl (by decide) (by first | rfl | (simp only [ix_add, ix_mul, ix_pred]; done) | (simp only [ix_add, ix_mul, ix_pred, *]; done)) (by omega) (by decide) rfl ?_
        refine xr_iast (j := t) (pc' := 59) rfl rfl (by decide) (by first | rfl | (simp only [ix_add, ix_mul, ix_pred]; done) | (simp only [ix_add, ix_mul, ix_pred, *]; done)) (by omega) (by decide) rfl ?_
        refine xi_iincv (y := nI (t + 1)) (pc' := 62) rfl rfl (ix_add _ _) (st1_2 rfl) rfl ?_
        refine xi_goto (pc' := 2) rfl rfl ?_
        have e := fun v h => ih (t + 1) (by omega) v h
        rw [show r_nte J m (t + 1) = ex_wI (r_nte J m t) 80 t (r_nt1 (r_nte J m t) m t) from rfl] at e
        simp only [ex_P, Classical.not_not] at q15 q35
        first | (simp only [ex_P] at q45; simp only [r_nt1, r_now, q15, q35, q45, ↓reduceIte] at e; exact e _ rfl) | (simp only [r_nt1, r_now, q15, q35, ↓reduceIte] at e; exact e _ rfl)
      · refine xi_iload_n (pc' := 39) rfl rfl rfl ?_
        refine xi_aload_n (pc' := 40) rfl rfl rfl ?_
        refine xr_getp (pc' := 43) rfl rfl (by decide) rfl rfl rfl ?_
        refine xi_iload_n (pc' := 44) rfl rfl rfl ?_
        refine xr_iald (j := t) (pc' := 45) rfl rfl (by decide) (by first | rfl | (simp only [ix_add, ix_mul, ix_pred]; done) | (simp only [ix_add, ix_mul, ix_pred, *]; done)) (by omega) (by decide) rfl ?_
        refine xx_icmp (pc' := 48) (tg := 52) rfl rfl rfl (fun q45 => ?_) (fun q45 => ?_)
        · refine xi_aload_n (pc' := 53) rfl rfl rfl ?_
          refine xr_getp (pc' := 56) rfl rfl (by decide) rfl rfl rfl ?_
          refine xi_iload_n (pc' := 57) rfl rfl rfl ?_
          refine xr_iald (j := t) (pc' := 58) rfl rfl (by decide) (by first | rfl | (simp only [ix_add, ix_mul, ix_pred]; done) | (simp only [ix_add, ix_mul, ix_pred, *]; done)) (by omega) (by decide) rfl ?_
          refine xr_iast (j := t) (pc' := 59) rfl rfl (by decide) (by first | rfl | (simp only [ix_add, ix_mul, ix_pred]; done) | (simp only [ix_add, ix_mul, ix_pred, *]; done)) (by omega) (by decide) rfl ?_
          refine xi_iincv (y := nI (t + 1)) (pc' := 62) rfl rfl (ix_add _ _) (st1_2 rfl) rfl ?_
          refine xi_goto (pc' := 2) rfl rfl ?_
          have e := fun v h => ih (t + 1) (by omega) v h
          rw [show r_nte J m (t + 1) = ex_wI (r_nte J m t) 80 t (r_nt1 (r_nte J m t) m t) from rfl] at e
          simp only [ex_P, Classical.not_not] at q15 q35
          first | (simp only [ex_P] at q45; simp only [r_nt1, r_now, q15, q35, q45, ↓reduceIte] at e; exact e _ rfl) | (simp only [r_nt1, r_now, q15, q35, ↓reduceIte] at e; exact e _ rfl)
        · refine xi_iload_n (pc' := 49) rfl rfl rfl ?_
          refine xi_goto (pc' := 58) rfl rfl ?_
          refine xr_iast (j := t) (pc' := 59) rfl rfl (by decide) (by first | rfl | (simp only [ix_add, ix_mul, ix_pred]; done) | (simp only [ix_add, ix_mul, ix_pred, *]; done)) (by omega) (by decide) rfl ?_
          refine xi_iincv (y := nI (t + 1)) (pc' := 62) rfl rfl (ix_add _ _) (st1_2 rfl) rfl ?_
          refine xi_goto (pc' := 2) rfl rfl ?_
          have e := fun v h => ih (t + 1) (by omega) v h
          rw [show r_nte J m (t + 1) = ex_wI (r_nte J m t) 80 t (r_nt1 (r_nte J m t) m t) from rfl] at e
          simp only [ex_P, Classical.not_not] at q15 q35
          first | (simp only [ex_P] at q45; simp only [r_nt1, r_now, q15, q35, q45, ↓reduceIte] at e; exact e _ rfl) | (simp only [r_nt1, r_now, q15, q35, ↓reduceIte] at e; exact e _ rfl)
    · refine xi_iconst (pc' := 19) rfl rfl ?_
      refine xi_goto (pc' := 23) rfl rfl ?_
      refine xi_istore_n (pc' := 24) rfl (st1_3 rfl) rfl ?_
      refine xi_aload_n (pc' := 25) rfl rfl rfl ?_
      refine xr_getp (pc' := 28) rfl rfl (by decide) rfl rfl rfl ?_
      refine xi_iload_n (pc' := 29) rfl rfl rfl ?_
      refine xi_aload_n (pc' := 30) rfl rfl rfl ?_
      refine xi_iload_n (pc' := 31) rfl rfl rfl ?_
      refine xi_iload_n (pc' := 32) rfl rfl rfl ?_
      refine xx_callVi (pc' := 35) rfl rfl (by decide) rfl rfl (by show _ < 81 + 2 * _; omega) (Nat.le_of_ble_eq_true rfl) rfl rfl (r_isOf_ok hm (by omega)) ?_
      refine xx_if (pc' := 38) (tg := 52) rfl rfl rfl (fun q35 => ?_) (fun q35 => ?_)
      · refine xi_aload_n (pc' := 53) rfl rfl rfl ?_
        refine xr_getp (pc' := 56) rfl rfl (by decide) rfl rfl rfl ?_
        refine xi_iload_n (pc' := 57) rfl rfl rfl ?_
        refine xr_iald (j := t) (pc' := 58) rfl rfl (by decide) (by first | rfl | (simp only [ix_add, ix_mul, ix_pred]; done) | (simp only [ix_add, ix_mul, ix_pred, *]; done)) (by omega) (by decide) rfl ?_
        refine xr_iast (j := t) (pc' := 59) rfl rfl (by decide) (by first | rfl | (simp only [ix_add, ix_mul, ix_pred]; done) | (simp only [ix_add, ix_mul, ix_pred, *]; done)) (by omega) (by decide) rfl ?_
        refine xi_iincv (y := nI (t + 1)) (pc' := 62) rfl rfl (ix_add _ _) (st1_2 rfl) rfl ?_
        refine xi_goto (pc' := 2) rfl rfl ?_
        have e := fun v h => ih (t + 1) (by omega) v h
        rw [show r_nte J m (t + 1) = ex_wI (r_nte J m t) 80 t (r_nt1 (r_nte J m t) m t) from rfl] at e
        simp only [ex_P, Classical.not_not] at q15 q35
        first | (simp only [ex_P] at q45; simp only [r_nt1, r_now, q15, q35, q45, ↓reduceIte] at e; exact e _ rfl) | (simp only [r_nt1, r_now, q15, q35, ↓reduceIte] at e; exact e _ rfl)
      · refine xi_iload_n (pc' := 39) rfl rfl rfl ?_
        refine xi_aload_n (pc' := 40) rfl rfl rfl ?_
        refine xr_getp (pc' := 43) rfl rfl (by decide) rfl rfl rfl ?_
        refine xi_iload_n (pc' := 44) rfl rfl rfl ?_
        refine xr_iald (j := t) (pc' := 45) rfl rfl (by decide) (by first | rfl | (simp only [ix_add, ix_mul, ix_pred]; done) | (simp only [ix_add, ix_mul, ix_pred, *]; done)) (by omega) (by decide) rfl ?_
        refine xx_icmp (pc' := 48) (tg := 52) rfl rfl rfl (fun q45 => ?_) (fun q45 => ?_)
        · refine xi_aload_n (pc' := 53) rfl rfl rfl ?_
          refine xr_getp (pc' := 56) rfl rfl (by decide) rfl rfl rfl ?_
          refine xi_iload_n (pc' := 57) rfl rfl rfl ?_
          refine xr_iald (j := t) (pc' := 58) rfl rfl (by decide) (by first | rfl | (simp only [ix_add, ix_mul, ix_pred]; done) | (simp only [ix_add, ix_mul, ix_pred, *]; done)) (by omega) (by decide) rfl ?_
          refine xr_iast (j := t) (pc' := 59) rfl rfl (by decide) (by first | rfl | (simp only [ix_add, ix_mul, ix_pred]; done) | (simp only [ix_add, ix_mul, ix_pred, *]; done)) (by omega) (by decide) rfl ?_
          refine xi_iincv (y := nI (t + 1)) (pc' := 62) rfl rfl (ix_add _ _) (st1_2 rfl) rfl ?_
          refine xi_goto (pc' := 2) rfl rfl ?_
          have e := fun v h => ih (t + 1) (by omega) v h
          rw [show r_nte J m (t + 1) = ex_wI (r_nte J m t) 80 t (r_nt1 (r_nte J m t) m t) from rfl] at e
          simp only [ex_P, Classical.not_not] at q15 q35
          first | (simp only [ex_P] at q45; simp only [r_nt1, r_now, q15, q35, q45, ↓reduceIte] at e; exact e _ rfl) | (simp only [r_nt1, r_now, q15, q35, ↓reduceIte] at e; exact e _ rfl)
        · refine xi_iload_n (pc' := 49) rfl rfl rfl ?_
          refine xi_goto (pc' := 58) rfl rfl ?_
          refine xr_iast (j := t) (pc' := 59) rfl rfl (by decide) (by first | rfl | (simp only [ix_add, ix_mul, ix_pred]; done) | (simp only [ix_add, ix_mul, ix_pred, *]; done)) (by omega) (by decide) rfl ?_
          refine xi_iincv (y := nI (t + 1)) (pc' := 62) rfl rfl (ix_add _ _) (st1_2 rfl) rfl ?_
          refine xi_goto (pc' := 2) rfl rfl ?_
          have e := fun v h => ih (t + 1) (by omega) v h
          rw [show r_nte J m (t + 1) = ex_wI (r_nte J m t) 80 t (r_nt1 (r_nte J m t) m t) from rfl] at e
          simp only [ex_P, Classical.not_not] at q15 q35
          first | (simp only [ex_P] at q45; simp only [r_nt1, r_now, q15, q35, q45, ↓reduceIte] at e; exact e _ rfl) | (simp only [r_nt1, r_now, q15, q35, ↓reduceIte] at e; exact e _ rfl)
theorem r_note_ok {L : Nat} {xs : Nat → Int32} {D n : Nat} {I J : ex_Mem} {m : Nat} (hm : m < 8) : ro L xs (D + 1) 124 [.ref 52, .int (nI m)] (mkH n I J) (mkH n I (r_nte J m 6)) := by
  show xx cb_G _ _ _ 124 0 [.ref 52, .int (nI m), ex_no, ex_no] [] _ _
  refine xi_iconst (pc' := 1) rfl rfl ?_
  refine xi_istore_n (pc' := 2) rfl (st1_2 rfl) rfl ?_
  exact r_note_loop hm 6 0 (by omega) _ rfl
def r_pl (C : Int32 × ex_Mem) (t : Nat) : ex_Mem := if C.1 = 0 then C.2 else ex_wI (ex_wI C.2 68 t (nI 0)) 67 t (nI 0)
def r_poll (J : ex_Mem) (bb : Nat) : Nat → ex_Mem
  | 0 => J
  | t + 1 => if r_poll J bb t 68 t = 0 then r_poll J bb t else r_pl (r_commands (r_poll J bb t) 0 t 2 bb) t
theorem pl_nt {C : Int32 × ex_Mem} {t a k : Nat} (h1 : a ≠ 67) (h2 : a ≠ 68) : r_pl C t a k = C.2 a k := by
  unfold r_pl
  split
  · rfl
  · rw [wI_fr h1, wI_fr h2]
theorem poll_nt {J : ex_Mem} {bb a k : Nat} (h : nt a k) (h1 : a ≠ 67) (h2 : a ≠ 68) : ∀ t, r_poll J bb t a k = J a k
  | 0 => rfl
  | t + 1 => by
    unfold r_poll
    split
    · exact poll_nt h h1 h2 t
    · rw [pl_nt h1 h2, cmds_nt h]
      exact poll_nt h h1 h2 t
theorem poll_hw {J : ex_Mem} {bb N : Nat} (hh : hwB N J) : ∀ t, N + 3 * t < 2 ^ 31 → hwB (N + 3 * t) (r_poll J bb t)
  | 0, _ => hh
  | t + 1, h => by
    unfold r_poll
    split
    · exact hwB_up (poll_hw hh t (by omega)) (by omega)
    · exact hwB_up (hwB_eq (cmds_hw (N := N + 3 * t) (poll_hw hh t (by omega)) (by omega)) (pl_nt (by decide) (by decide))) (by omega)
theorem r_poll_loop {L : Nat} {xs : Nat → Int32} {D n : Nat} {I J : ex_Mem} {bb N : Nat} (hbb : bb < 2) (hbus : J 52 30 = nI bb) (hh : hwB N J) (hN : N + 30 < 2 ^ 31) : ∀ (j t : Nat), t + j = 6 → xx cb_G L xs (D + 4) 108 2 [.ref 52, .int (nI t)] [] (mkH n I (r_poll J bb t)) (fun r h => r = none ∧ h = mkH n I (r_poll J bb 6)) := by
  intro j
  induction j with
  | zero =>
    intro t ht
    have ht : t = 6 := by omega
    subst ht
    refine xi_iload_n (pc' := 3) rfl rfl rfl ?_
    refine xi_bipush (pc' := 5) rfl (by decide) rfl ?_
    refine xx_icmp (pc' := 8) (tg := 51) rfl rfl rfl (fun q5 => ?_) (fun q5 => absurd (show ex_P .ge (nI 6) (nI 6) from Int32.le_refl _) q5)
    refine xx_return rfl (by decide) ?_
    exact ⟨rfl, rfl⟩
  | succ j ih =>
    intro t ht
    refine xi_iload_n (pc' := 3) rfl rfl rfl ?_
    refine xi_bipush (pc' := 5) rfl (by decide) rfl ?_
    refine xx_icmp (pc' := 8) (tg := 51) rfl rfl rfl (fun q5 => absurd q5 (show ¬ ex_P .ge (nI t) (nI 6) from nI_ge (by omega) (by decide))) (fun q5 => ?_)
    refine xi_aload_n (pc' := 9) rfl rfl rfl ?_
    refine xr_getp (pc' := 12) rfl rfl (by decide) rfl rfl rfl ?_
    refine xi_iload_n (pc' := 13) rfl rfl rfl ?_
    refine xr_zald (j := t) (pc' := 14) rfl rfl (by decide) (by first | rfl | (simp only [ix_add, ix_mul, ix_pred]; done) | (simp only [ix_add, ix_mul, ix_pred, *]; done)) (by omega) (by decide) rfl ?_
    refine xx_if (pc' := 17) (tg := 45) rfl rfl rfl (fun q14 => ?_) (fun q14 => ?_)
    · refine xi_iincv (y := nI (t + 1)) (pc' := 48) rfl rfl (ix_add _ _) (st1_1 rfl) rfl ?_
      refine xi_goto (pc' := 2) rfl rfl ?_
      have e := ih (t + 1) (by omega)
      rw [show r_poll J bb (t + 1) = (if r_poll J bb t 68 t = 0 then r_poll J bb t else r_pl (r_commands (r_poll J bb t) 0 t 2 bb) t) from rfl] at e
      simp only [ex_P, Classical.not_not] at q14
      first | (simp only [ex_P, Classical.not_not] at q28; simp only [r_pl, q14, q28, ↓reduceIte] at e; exact e) | (simp only [q14, ↓reduceIte] at e; exact e)
    · refine xi_aload_n (pc' := 18) rfl rfl rfl ?_
      refine xi_iconstm (pc' := 19) rfl rfl ?_
      refine xi_iload_n (pc' := 20) rfl rfl rfl ?_
      refine xi_iconst (pc' := 21) rfl rfl ?_
      refine xi_aload_n (pc' := 22) rfl rfl rfl ?_
      refine xr_getiv (v := nI (bb)) (pc' := 25) rfl rfl (by decide) (by decide) ((poll_nt nt_bus (by decide) (by decide) t).trans hbus) rfl ?_
      refine xx_callVi (pc' := 28) rfl rfl (by decide) rfl rfl (by show _ < 81 + 2 * _; omega) (Nat.le_of_ble_eq_true rfl) rfl rfl (r_commands_2 (D := D) (N := N + 3 * t) (b := bb) (by omega) hbb (poll_hw hh t (by omega)) (by omega)) ?_
      refine xx_if (pc' := 31) (tg := 45) rfl rfl rfl (fun q28 => ?_) (fun q28 => ?_)
      · refine xi_iincv (y := nI (t + 1)) (pc' := 48) rfl rfl (ix_add _ _) (st1_1 rfl) rfl ?_
        refine xi_goto (pc' := 2) rfl rfl ?_
        have e := ih (t + 1) (by omega)
        rw [show r_poll J bb (t + 1) = (if r_poll J bb t 68 t = 0 then r_poll J bb t else r_pl (r_commands (r_poll J bb t) 0 t 2 bb) t) from rfl] at e
        simp only [ex_P, Classical.not_not] at q14
        first | (simp only [ex_P, Classical.not_not] at q28; simp only [r_pl, q14, q28, ↓reduceIte] at e; exact e) | (simp only [q14, ↓reduceIte] at e; exact e)
      · refine xi_aload_n (pc' := 32) rfl rfl rfl ?_
        refine xr_getp (pc' := 35) rfl rfl (by decide) rfl rfl rfl ?_
        refine xi_iload_n (pc' := 36) rfl rfl rfl ?_
        refine xi_iconst (pc' := 37) rfl rfl ?_
        refine xr_zast (j := t) (pc' := 38) rfl rfl (by decide) (by first | rfl | (simp only [ix_add, ix_mul, ix_pred]; done) | (simp only [ix_add, ix_mul, ix_pred, *]; done)) (by omega) (by decide) (by decide) rfl ?_
        refine xi_aload_n (pc' := 39) rfl rfl rfl ?_
        refine xr_getp (pc' := 42) rfl rfl (by decide) rfl rfl rfl ?_
        refine xi_iload_n (pc' := 43) rfl rfl rfl ?_
        refine xi_iconst (pc' := 44) rfl rfl ?_
        refine xr_iast (j := t) (pc' := 45) rfl rfl (by decide) (by first | rfl | (simp only [ix_add, ix_mul, ix_pred]; done) | (simp only [ix_add, ix_mul, ix_pred, *]; done)) (by omega) (by decide) rfl ?_
        refine xi_iincv (y := nI (t + 1)) (pc' := 48) rfl rfl (ix_add _ _) (st1_1 rfl) rfl ?_
        refine xi_goto (pc' := 2) rfl rfl ?_
        have e := ih (t + 1) (by omega)
        rw [show r_poll J bb (t + 1) = (if r_poll J bb t 68 t = 0 then r_poll J bb t else r_pl (r_commands (r_poll J bb t) 0 t 2 bb) t) from rfl] at e
        simp only [ex_P, Classical.not_not] at q14
        first | (simp only [ex_P, Classical.not_not] at q28; simp only [r_pl, q14, q28, ↓reduceIte] at e; exact e) | (simp only [q14, ↓reduceIte] at e; exact e)
theorem r_poll_ok {L : Nat} {xs : Nat → Int32} {D n : Nat} {I J : ex_Mem} {bb N : Nat} (hbb : bb < 2) (hbus : J 52 30 = nI bb) (hh : hwB N J) (hN : N + 30 < 2 ^ 31) : ro L xs (D + 4) 108 [.ref 52] (mkH n I J) (mkH n I (r_poll J bb 6)) := by
  show xx cb_G _ _ _ 108 0 [.ref 52, ex_no] [] _ _
  refine xi_iconst (pc' := 1) rfl rfl ?_
  refine xi_istore_n (pc' := 2) rfl (st1_1 rfl) rfl ?_
  exact r_poll_loop hbb hbus hh hN 6 0 (by omega)
end
section
theorem xi_bipushm {G : ex_G} {L : Nat} {xs : Nat → Int32} {D mi pc pc' : Nat} {lv st : List Value} {h : ex_Hp} {Q : Option Value → ex_Hp → Prop} {k : Nat} (hf : ex_look (ex_cd G mi) pc = some (.bipush (.negSucc k))) (hk : k < 128) (hpc : pc + 2 = pc') (kk : xx G L xs D mi pc' lv (.int (- nI (k + 1)) :: st) h Q) : xx G L xs D mi pc lv st h Q := by
  subst hpc
  exact xx_pure hf (by show (if -128 ≤ (Int.negSucc k) ∧ (Int.negSucc k) < 128 then some (pc + 2, lv, Value.int (- nI (k + 1)) :: st) else none) = _; rw [if_pos ⟨by omega, by omega⟩]) kk
/-- arguments as they may be -/
def vT (t : Int32) : Prop := 0 ≤ t ∧ t < nI 6
def vK (t : Int32) : Prop := 0 ≤ t ∧ t < nI 4
def vV (t : Int32) : Prop := 0 ≤ t ∧ t ≤ nI 65535
def vS (s : Int32) : Prop := nI 1 ≤ s ∧ s ≤ nI 3
theorem vT_n {t : Nat} (h : t < 6) : vT (nI t) := ⟨nI_pos' (by omega), nI_lt h (by decide)⟩
theorem vK_n {t : Nat} (h : t < 4) : vK (nI t) := ⟨nI_pos' (by omega), nI_lt h (by decide)⟩
theorem vS_n {s : Nat} (h : s < 3) : vS (nI (s + 1)) := ⟨nI_le (by omega) (by omega), nI_le (by omega) (by decide)⟩
theorem r_isTerminal1 {L : Nat} {xs : Nat → Int32} {D n : Nat} {I J : ex_Mem} {t : Int32} (h : vT t) : ri L xs D 85 [.int t] (mkH n I J) (nI 1) (mkH n I J) := by
  have e := r_isTerminal (L := L) (xs := xs) (D := D) (n := n) (I := I) (J := J) t
  unfold vT at h
  rw [if_pos h] at e
  exact e
theorem r_isTerminal0 {L : Nat} {xs : Nat → Int32} {D n : Nat} {I J : ex_Mem} {t : Int32} (h : ¬ vT t) : ri L xs D 85 [.int t] (mkH n I J) (nI 0) (mkH n I J) := by
  have e := r_isTerminal (L := L) (xs := xs) (D := D) (n := n) (I := I) (J := J) t
  unfold vT at h
  rw [if_neg h] at e
  exact e
theorem r_isIndex1 {L : Nat} {xs : Nat → Int32} {D n : Nat} {I J : ex_Mem} {t : Int32} (h : vK t) : ri L xs D 88 [.int t] (mkH n I J) (nI 1) (mkH n I J) := by
  have e := r_isIndex (L := L) (xs := xs) (D := D) (n := n) (I := I) (J := J) t
  unfold vK at h
  rw [if_pos h] at e
  exact e
theorem r_isIndex0 {L : Nat} {xs : Nat → Int32} {D n : Nat} {I J : ex_Mem} {t : Int32} (h : ¬ vK t) : ri L xs D 88 [.int t] (mkH n I J) (nI 0) (mkH n I J) := by
  have e := r_isIndex (L := L) (xs := xs) (D := D) (n := n) (I := I) (J := J) t
  unfold vK at h
  rw [if_neg h] at e
  exact e
theorem r_isValue1 {L : Nat} {xs : Nat → Int32} {D n : Nat} {I J : ex_Mem} {t : Int32} (h : vV t) : ri L xs D 82 [.int t] (mkH n I J) (nI 1) (mkH n I J) := by
  have e := r_isValue (L := L) (xs := xs) (D := D) (n := n) (I := I) (J := J) t
  unfold vV at h
  rw [if_pos h] at e
  exact e
theorem r_isValue0 {L : Nat} {xs : Nat → Int32} {D n : Nat} {I J : ex_Mem} {t : Int32} (h : ¬ vV t) : ri L xs D 82 [.int t] (mkH n I J) (nI 0) (mkH n I J) := by
  have e := r_isValue (L := L) (xs := xs) (D := D) (n := n) (I := I) (J := J) t
  unfold vV at h
  rw [if_neg h] at e
  exact e
theorem r_isPlace1 {L : Nat} {xs : Nat → Int32} {D n : Nat} {I J : ex_Mem} {t s : Int32} (ht : vT t) (hs : vS s) : ri L xs (D + 1) 87 [.int t, .int s] (mkH n I J) (nI 1) (mkH n I J) := by
  show xx cb_G _ _ _ 87 0 [.int t, .int s] [] _ _
  refine xi_iload_n (pc' := 1) rfl rfl rfl ?_
  refine xx_callSi (pc' := 4) rfl rfl (by decide) rfl (Nat.le_of_ble_eq_true rfl) rfl rfl (r_isTerminal1 ht) ?_
  refine xi_iff (pc' := 7) (tg := 21) rfl rfl (by decide) rfl ?_
  refine xi_iload_n (pc' := 8) rfl rfl rfl ?_
  refine xi_iconst (pc' := 9) rfl rfl ?_
  refine xx_icmp (pc' := 12) (tg := 21) rfl rfl rfl (fun q9 => absurd q9 (fun q => absurd (show s < nI 1 from q) (Int32.not_lt.mpr hs.1))) (fun q9 => ?_)
  refine xi_iload_n (pc' := 13) rfl rfl rfl ?_
  refine xi_iconst (pc' := 14) rfl rfl ?_
  refine xx_icmp (pc' := 17) (tg := 21) rfl rfl rfl (fun q14 => absurd q14 (fun q => absurd (show nI 3 < s from q) (Int32.not_lt.mpr hs.2))) (fun q14 => ?_)
  refine xi_iconst (pc' := 18) rfl rfl ?_
  refine xi_goto (pc' := 22) rfl rfl ?_
  refine xx_zreturn rfl rfl (by first | rfl | assumption | exact b01_bI | simp [ex_b01, bI]) ?_
  exact ⟨rfl, rfl⟩
theorem r_isPlace0t {L : Nat} {xs : Nat → Int32} {D n : Nat} {I J : ex_Mem} {t s : Int32} (ht : ¬ vT t) : ri L xs (D + 1) 87 [.int t, .int s] (mkH n I J) (nI 0) (mkH n I J) := by
  show xx cb_G _ _ _ 87 0 [.int t, .int s] [] _ _
  refine xi_iload_n (pc' := 1) rfl rfl rfl ?_
  refine xx_callSi (pc' := 4) rfl rfl (by decide) rfl (Nat.le_of_ble_eq_true rfl) rfl rfl (r_isTerminal0 ht) ?_
  refine xi_ift (pc' := 21) rfl rfl (by decide) ?_
  refine xi_iconst (pc' := 22) rfl rfl ?_
  refine xx_zreturn rfl rfl (by first | rfl | assumption | exact b01_bI | simp [ex_b01, bI]) ?_
  exact ⟨rfl, rfl⟩
theorem r_isPlace0s {L : Nat} {xs : Nat → Int32} {D n : Nat} {I J : ex_Mem} {t s : Int32} (ht : vT t) (hs : ¬ vS s) : ri L xs (D + 1) 87 [.int t, .int s] (mkH n I J) (nI 0) (mkH n I J) := by
  show xx cb_G _ _ _ 87 0 [.int t, .int s] [] _ _
  refine xi_iload_n (pc' := 1) rfl rfl rfl ?_
  refine xx_callSi (pc' := 4) rfl rfl (by decide) rfl (Nat.le_of_ble_eq_true rfl) rfl rfl (r_isTerminal1 ht) ?_
  refine xi_iff (pc' := 7) (tg := 21) rfl rfl (by decide) rfl ?_
  refine xi_iload_n (pc' := 8) rfl rfl rfl ?_
  refine xi_iconst (pc' := 9) rfl rfl ?_
  refine xx_icmp (pc' := 12) (tg := 21) rfl rfl rfl (fun q9 => ?_) (fun q9 => ?_)
  · refine xi_iconst (pc' := 22) rfl rfl ?_
    refine xx_zreturn rfl rfl (by first | rfl | assumption | exact b01_bI | simp [ex_b01, bI]) ?_
    first | exact ⟨rfl, rfl⟩ | exact absurd ⟨Int32.not_lt.mp q9, Int32.not_lt.mp q14⟩ hs
  · refine xi_iload_n (pc' := 13) rfl rfl rfl ?_
    refine xi_iconst (pc' := 14) rfl rfl ?_
    refine xx_icmp (pc' := 17) (tg := 21) rfl rfl rfl (fun q14 => ?_) (fun q14 => ?_)
    · refine xi_iconst (pc' := 22) rfl rfl ?_
      refine xx_zreturn rfl rfl (by first | rfl | assumption | exact b01_bI | simp [ex_b01, bI]) ?_
      first | exact ⟨rfl, rfl⟩ | exact absurd ⟨Int32.not_lt.mp q9, Int32.not_lt.mp q14⟩ hs
    · refine xi_iconst (pc' := 18) rfl rfl ?_
      refine xi_goto (pc' := 22) rfl rfl ?_
      refine xx_zreturn rfl rfl (by first | rfl | assumption | exact b01_bI | simp [ex_b01, bI]) ?_
      first | exact ⟨rfl, rfl⟩ | exact absurd ⟨Int32.not_lt.mp q9, Int32.not_lt.mp q14⟩ hs
theorem r_isPlace0 {L : Nat} {xs : Nat → Int32} {D n : Nat} {I J : ex_Mem} {t s : Int32} (h : ¬ (vT t ∧ vS s)) : ri L xs (D + 1) 87 [.int t, .int s] (mkH n I J) (nI 0) (mkH n I J) := by
  by_cases ht : vT t
  · exact r_isPlace0s ht (fun hs => h ⟨ht, hs⟩)
  · exact r_isPlace0t ht
theorem r_live1 {L : Nat} {xs : Nat → Int32} {D n : Nat} {I J : ex_Mem} {t : Nat} {on : Int32} (ht : t < 6) : ri L xs (D + 1) 84 [.ref 52, .int (nI t), .int on] (mkH n I J) (nI 1) (mkH n I (ex_wI J 57 t (if on = 0 then nI 1 else nI 0))) := by
  show xx cb_G _ _ _ 84 0 [.ref 52, .int (nI t), .int on] [] _ _
  refine xi_iload_n (pc' := 1) rfl rfl rfl ?_
  refine xx_callSi (pc' := 4) rfl rfl (by decide) rfl (Nat.le_of_ble_eq_true rfl) rfl rfl (r_isTerminal1 (vT_n ht)) ?_
  refine xi_ift (pc' := 9) rfl rfl (by decide) ?_
  refine xi_aload_n (pc' := 10) rfl rfl rfl ?_
  refine xr_getp (pc' := 13) rfl rfl (by decide) rfl rfl rfl ?_
  refine xi_iload_n (pc' := 14) rfl rfl rfl ?_
  refine xi_iload_n (pc' := 15) rfl rfl rfl ?_
  refine xx_if (pc' := 18) (tg := 22) rfl rfl rfl (fun q15 => ?_) (fun q15 => ?_)
  · refine xi_iconst (pc' := 23) rfl rfl ?_
    refine xr_zast (j := t) (pc' := 24) rfl rfl (by decide) (by first | rfl | (simp only [ix_add, ix_mul, ix_pred]; done) | (simp only [ix_add, ix_mul, ix_pred, *]; done)) (by omega) (by decide) (by decide) rfl ?_
    refine xi_iconst (pc' := 25) rfl rfl ?_
    refine xx_zreturn rfl rfl (by decide) ?_
    simp only [ex_P, Classical.not_not, ↓reduceIte, Nat.add_zero, or_true, true_or, not_true_eq_false, not_false_eq_true, or_false, false_or, wI_get, false_and, true_and, and_true, and_false, and_self, Nat.reduceEqDiff, Nat.succ_ne_zero, reduceCtorEq, nI_lit, nI_lit0, Nat.reduceLT] at *
    first | (simp only [ix_0, *, ↓reduceIte, Nat.add_zero, or_true, true_or, not_true_eq_false, not_false_eq_true, or_false, false_or, wI_get, false_and, true_and, and_true, and_false, and_self, Nat.reduceEqDiff, Nat.succ_ne_zero, reduceCtorEq, nI_lit, nI_lit0, Nat.reduceLT]; done) | (exfalso; simp_all only [↓reduceIte, Nat.add_zero, or_true, true_or, not_true_eq_false, not_false_eq_true, or_false, false_or, wI_get, false_and, true_and, and_true, and_false, and_self, Nat.reduceEqDiff, Nat.succ_ne_zero, reduceCtorEq, nI_lit, nI_lit0, Nat.reduceLT]; done)
  · refine xi_iconst (pc' := 19) rfl rfl ?_
    refine xi_goto (pc' := 23) rfl rfl ?_
    refine xr_zast (j := t) (pc' := 24) rfl rfl (by decide) (by first | rfl | (simp only [ix_add, ix_mul, ix_pred]; done) | (simp only [ix_add, ix_mul, ix_pred, *]; done)) (by omega) (by decide) (by decide) rfl ?_
    refine xi_iconst (pc' := 25) rfl rfl ?_
    refine xx_zreturn rfl rfl (by decide) ?_
    simp only [ex_P, Classical.not_not, ↓reduceIte, Nat.add_zero, or_true, true_or, not_true_eq_false, not_false_eq_true, or_false, false_or, wI_get, false_and, true_and, and_true, and_false, and_self, Nat.reduceEqDiff, Nat.succ_ne_zero, reduceCtorEq, nI_lit, nI_lit0, Nat.reduceLT] at *
    first | (simp only [ix_0, *, ↓reduceIte, Nat.add_zero, or_true, true_or, not_true_eq_false, not_false_eq_true, or_false, false_or, wI_get, false_and, true_and, and_true, and_false, and_self, Nat.reduceEqDiff, Nat.succ_ne_zero, reduceCtorEq, nI_lit, nI_lit0, Nat.reduceLT]; done) | (exfalso; simp_all only [↓reduceIte, Nat.add_zero, or_true, true_or, not_true_eq_false, not_false_eq_true, or_false, false_or, wI_get, false_and, true_and, and_true, and_false, and_self, Nat.reduceEqDiff, Nat.succ_ne_zero, reduceCtorEq, nI_lit, nI_lit0, Nat.reduceLT]; done)
theorem r_live0 {L : Nat} {xs : Nat → Int32} {D n : Nat} {I J : ex_Mem} {t on : Int32} (ht : ¬ vT t) : ri L xs (D + 1) 84 [.ref 52, .int t, .int on] (mkH n I J) (nI 0) (mkH n I J) := by
  show xx cb_G _ _ _ 84 0 [.ref 52, .int t, .int on] [] _ _
  refine xi_iload_n (pc' := 1) rfl rfl rfl ?_
  refine xx_callSi (pc' := 4) rfl rfl (by decide) rfl (Nat.le_of_ble_eq_true rfl) rfl rfl (r_isTerminal0 ht) ?_
  refine xi_iff (pc' := 7) (tg := 9) rfl rfl (by decide) rfl ?_
  refine xi_iconst (pc' := 8) rfl rfl ?_
  refine xx_zreturn rfl rfl (by first | rfl | assumption | exact b01_bI | simp [ex_b01, bI]) ?_
  exact ⟨rfl, rfl⟩
theorem r_draft1 {L : Nat} {xs : Nat → Int32} {D n : Nat} {I J : ex_Mem} {t s k : Nat} {v : Int32} (ht : t < 6) (hs : s < 3) (hk : k < 4) (hv : vV v) : ri L xs (D + 2) 86 [.ref 52, .int (nI t), .int (nI (s + 1)), .int (nI k), .int v] (mkH n I J) (nI 1) (mkH n I (ex_wI J 58 (12 * t + 4 * s + k) v)) := by
  show xx cb_G _ _ _ 86 0 [.ref 52, .int (nI t), .int (nI (s + 1)), .int (nI k), .int v] [] _ _
  refine xi_iload_n (pc' := 1) rfl rfl rfl ?_
  refine xi_iload_n (pc' := 2) rfl rfl rfl ?_
  refine xx_callSi (pc' := 5) rfl rfl (by decide) rfl (Nat.le_of_ble_eq_true rfl) rfl rfl (r_isPlace1 (D := D) (vT_n ht) (vS_n hs)) ?_
  refine xi_iff (pc' := 8) (tg := 23) rfl rfl (by decide) rfl ?_
  refine xi_iload_n (pc' := 9) rfl rfl rfl ?_
  refine xx_callSi (pc' := 12) rfl rfl (by decide) rfl (Nat.le_of_ble_eq_true rfl) rfl rfl (r_isIndex1 (vK_n hk)) ?_
  refine xi_iff (pc' := 15) (tg := 23) rfl rfl (by decide) rfl ?_
  refine xi_iload (pc' := 17) rfl rfl rfl ?_
  refine xx_callSi (pc' := 20) rfl rfl (by decide) rfl (Nat.le_of_ble_eq_true rfl) rfl rfl (r_isValue1 hv) ?_
  refine xi_ift (pc' := 25) rfl rfl (by decide) ?_
  refine xi_aload_n (pc' := 26) rfl rfl rfl ?_
  refine xr_getp (pc' := 29) rfl rfl (by decide) rfl rfl rfl ?_
  refine xi_iload_n (pc' := 30) rfl rfl rfl ?_
  refine xi_iload_n (pc' := 31) rfl rfl rfl ?_
  refine xx_callSi (pc' := 34) rfl rfl (by decide) rfl (Nat.le_of_ble_eq_true rfl) rfl rfl (r_place t s) ?_
  refine xi_iload_n (pc' := 35) rfl rfl rfl ?_
  refine xi_iadd (pc' := 36) rfl rfl ?_
  refine xi_iload (pc' := 38) rfl rfl rfl ?_
  refine xr_iast (j := 12 * t + 4 * s + k) (pc' := 39) rfl rfl (by decide) (by first | rfl | (simp only [ix_add, ix_mul, ix_pred]; done) | (simp only [ix_add, ix_mul, ix_pred, *]; done)) (by omega) (by decide) rfl ?_
  refine xi_iconst (pc' := 40) rfl rfl ?_
  refine xx_zreturn rfl rfl (by first | rfl | assumption | exact b01_bI | simp [ex_b01, bI]) ?_
  exact ⟨rfl, rfl⟩
theorem r_draft0p {L : Nat} {xs : Nat → Int32} {D n : Nat} {I J : ex_Mem} {t s k v : Int32} (hp : ¬ (vT t ∧ vS s)) : ri L xs (D + 2) 86 [.ref 52, .int t, .int s, .int k, .int v] (mkH n I J) (nI 0) (mkH n I J) := by
  show xx cb_G _ _ _ 86 0 [.ref 52, .int t, .int s, .int k, .int v] [] _ _
  refine xi_iload_n (pc' := 1) rfl rfl rfl ?_
  refine xi_iload_n (pc' := 2) rfl rfl rfl ?_
  refine xx_callSi (pc' := 5) rfl rfl (by decide) rfl (Nat.le_of_ble_eq_true rfl) rfl rfl (r_isPlace0 (D := D) hp) ?_
  refine xi_ift (pc' := 23) rfl rfl (by decide) ?_
  refine xi_iconst (pc' := 24) rfl rfl ?_
  refine xx_zreturn rfl rfl (by first | rfl | assumption | exact b01_bI | simp [ex_b01, bI]) ?_
  exact ⟨rfl, rfl⟩
theorem r_draft0k {L : Nat} {xs : Nat → Int32} {D n : Nat} {I J : ex_Mem} {t s k v : Int32} (hp : vT t ∧ vS s) (hk : ¬ vK k) : ri L xs (D + 2) 86 [.ref 52, .int t, .int s, .int k, .int v] (mkH n I J) (nI 0) (mkH n I J) := by
  show xx cb_G _ _ _ 86 0 [.ref 52, .int t, .int s, .int k, .int v] [] _ _
  refine xi_iload_n (pc' := 1) rfl rfl rfl ?_
  refine xi_iload_n (pc' := 2) rfl rfl rfl ?_
  refine xx_callSi (pc' := 5) rfl rfl (by decide) rfl (Nat.le_of_ble_eq_true rfl) rfl rfl (r_isPlace1 (D := D) hp.1 hp.2) ?_
  refine xi_iff (pc' := 8) (tg := 23) rfl rfl (by decide) rfl ?_
  refine xi_iload_n (pc' := 9) rfl rfl rfl ?_
  refine xx_callSi (pc' := 12) rfl rfl (by decide) rfl (Nat.le_of_ble_eq_true rfl) rfl rfl (r_isIndex0 hk) ?_
  refine xi_ift (pc' := 23) rfl rfl (by decide) ?_
  refine xi_iconst (pc' := 24) rfl rfl ?_
  refine xx_zreturn rfl rfl (by first | rfl | assumption | exact b01_bI | simp [ex_b01, bI]) ?_
  exact ⟨rfl, rfl⟩
theorem r_draft0v {L : Nat} {xs : Nat → Int32} {D n : Nat} {I J : ex_Mem} {t s k v : Int32} (hp : vT t ∧ vS s) (hk : vK k) (hv : ¬ vV v) : ri L xs (D + 2) 86 [.ref 52, .int t, .int s, .int k, .int v] (mkH n I J) (nI 0) (mkH n I J) := by
  show xx cb_G _ _ _ 86 0 [.ref 52, .int t, .int s, .int k, .int v] [] _ _
  refine xi_iload_n (pc' := 1) rfl rfl rfl ?_
  refine xi_iload_n (pc' := 2) rfl rfl rfl ?_
  refine xx_callSi (pc' := 5) rfl rfl (by decide) rfl (Nat.le_of_ble_eq_true rfl) rfl rfl (r_isPlace1 (D := D) hp.1 hp.2) ?_
  refine xi_iff (pc' := 8) (tg := 23) rfl rfl (by decide) rfl ?_
  refine xi_iload_n (pc' := 9) rfl rfl rfl ?_
  refine xx_callSi (pc' := 12) rfl rfl (by decide) rfl (Nat.le_of_ble_eq_true rfl) rfl rfl (r_isIndex1 hk) ?_
  refine xi_iff (pc' := 15) (tg := 23) rfl rfl (by decide) rfl ?_
  refine xi_iload (pc' := 17) rfl rfl rfl ?_
  refine xx_callSi (pc' := 20) rfl rfl (by decide) rfl (Nat.le_of_ble_eq_true rfl) rfl rfl (r_isValue0 hv) ?_
  refine xi_iff (pc' := 23) (tg := 25) rfl rfl (by decide) rfl ?_
  refine xi_iconst (pc' := 24) rfl rfl ?_
  refine xx_zreturn rfl rfl (by first | rfl | assumption | exact b01_bI | simp [ex_b01, bI]) ?_
  exact ⟨rfl, rfl⟩
def r_pub (J : ex_Mem) (p : Nat) : ex_Mem := ex_wI (ex_wI (ex_wI (ex_wI J 59 p (J 58 p)) 59 (p + 1) (J 58 (p + 1))) 59 (p + 2) (J 58 (p + 2))) 59 (p + 3) (J 58 (p + 3))
theorem r_publish1 {L : Nat} {xs : Nat → Int32} {D n : Nat} {I J : ex_Mem} {t s : Nat} (ht : t < 6) (hs : s < 3) : ri L xs (D + 2) 90 [.ref 52, .int (nI t), .int (nI (s + 1))] (mkH n I J) (nI 1) (mkH n I (r_pub J (12 * t + 4 * s))) := by
  show xx cb_G _ _ _ 90 0 [.ref 52, .int (nI t), .int (nI (s + 1)), ex_no, ex_no] [] _ _
  refine xi_iload_n (pc' := 1) rfl rfl rfl ?_
  refine xi_iload_n (pc' := 2) rfl rfl rfl ?_
  refine xx_callSi (pc' := 5) rfl rfl (by decide) rfl (Nat.le_of_ble_eq_true rfl) rfl rfl (r_isPlace1 (D := D) (vT_n ht) (vS_n hs)) ?_
  refine xi_ift (pc' := 10) rfl rfl (by decide) ?_
  refine xi_iload_n (pc' := 11) rfl rfl rfl ?_
  refine xi_iload_n (pc' := 12) rfl rfl rfl ?_
  refine xx_callSi (pc' := 15) rfl rfl (by decide) rfl (Nat.le_of_ble_eq_true rfl) rfl rfl (r_place t s) ?_
  refine xi_istore_n (pc' := 16) rfl (st1_3 rfl) rfl ?_
  refine xi_iconst (pc' := 17) rfl rfl ?_
  refine xi_istore (pc' := 19) rfl (st1_4 rfl) rfl ?_
  refine xi_iload (pc' := 21) rfl rfl rfl ?_
  refine xi_iconst (pc' := 22) rfl rfl ?_
  refine xi_icmpf (pc' := 25) (tg := 49) rfl rfl (by decide) rfl ?_
  refine xi_aload_n (pc' := 26) rfl rfl rfl ?_
  refine xr_getp (pc' := 29) rfl rfl (by decide) rfl rfl rfl ?_
  refine xi_iload_n (pc' := 30) rfl rfl rfl ?_
  refine xi_iload (pc' := 32) rfl rfl rfl ?_
  refine xi_iadd (pc' := 33) rfl rfl ?_
  refine xi_aload_n (pc' := 34) rfl rfl rfl ?_
  refine xr_getp (pc' := 37) rfl rfl (by decide) rfl rfl rfl ?_
  refine xi_iload_n (pc' := 38) rfl rfl rfl ?_
  refine xi_iload (pc' := 40) rfl rfl rfl ?_
  refine xi_iadd (pc' := 41) rfl rfl ?_
  refine xr_iald (j := 12 * t + 4 * s + 0) (pc' := 42) rfl rfl (by decide) (by first | rfl | (simp only [ix_add, ix_mul, ix_pred]; done) | (simp only [ix_add, ix_mul, ix_pred, *]; done)) (by omega) (by decide) rfl ?_
  refine xr_iast (j := 12 * t + 4 * s + 0) (pc' := 43) rfl rfl (by decide) (by first | rfl | (simp only [ix_add, ix_mul, ix_pred]; done) | (simp only [ix_add, ix_mul, ix_pred, *]; done)) (by omega) (by decide) rfl ?_
  refine xi_iincv (y := nI 1) (pc' := 46) rfl rfl (by decide) (st1_4 rfl) rfl ?_
  refine xi_goto (pc' := 19) rfl rfl ?_
  refine xi_iload (pc' := 21) rfl rfl rfl ?_
  refine xi_iconst (pc' := 22) rfl rfl ?_
  refine xi_icmpf (pc' := 25) (tg := 49) rfl rfl (by decide) rfl ?_
  refine xi_aload_n (pc' := 26) rfl rfl rfl ?_
  refine xr_getp (pc' := 29) rfl rfl (by decide) rfl rfl rfl ?_
  refine xi_iload_n (pc' := 30) rfl rfl rfl ?_
  refine xi_iload (pc' := 32) rfl rfl rfl ?_
  refine xi_iadd (pc' := 33) rfl rfl ?_
  refine xi_aload_n (pc' := 34) rfl rfl rfl ?_
  refine xr_getp (pc' := 37) rfl rfl (by decide) rfl rfl rfl ?_
  refine xi_iload_n (pc' := 38) rfl rfl rfl ?_
  refine xi_iload (pc' := 40) rfl rfl rfl ?_
  refine xi_iadd (pc' := 41) rfl rfl ?_
  refine xr_iald (j := 12 * t + 4 * s + 1) (pc' := 42) rfl rfl (by decide) (by first | rfl | (simp only [ix_add, ix_mul, ix_pred]; done) | (simp only [ix_add, ix_mul, ix_pred, *]; done)) (by omega) (by decide) rfl ?_
  refine xr_iast (j := 12 * t + 4 * s + 1) (pc' := 43) rfl rfl (by decide) (by first | rfl | (simp only [ix_add, ix_mul, ix_pred]; done) | (simp only [ix_add, ix_mul, ix_pred, *]; done)) (by omega) (by decide) rfl ?_
  refine xi_iincv (y := nI 2) (pc' := 46) rfl rfl (by decide) (st1_4 rfl) rfl ?_
  refine xi_goto (pc' := 19) rfl rfl ?_
  refine xi_iload (pc' := 21) rfl rfl rfl ?_
  refine xi_iconst (pc' := 22) rfl rfl ?_
  refine xi_icmpf (pc' := 25) (tg := 49) rfl rfl (by decide) rfl ?_
  refine xi_aload_n (pc' := 26) rfl rfl rfl ?_
  refine xr_getp (pc' := 29) rfl rfl (by decide) rfl rfl rfl ?_
  refine xi_iload_n (pc' := 30) rfl rfl rfl ?_
  refine xi_iload (pc' := 32) rfl rfl rfl ?_
  refine xi_iadd (pc' := 33) rfl rfl ?_
  refine xi_aload_n (pc' := 34) rfl rfl rfl ?_
  refine xr_getp (pc' := 37) rfl rfl (by decide) rfl rfl rfl ?_
  refine xi_iload_n (pc' := 38) rfl rfl rfl ?_
  refine xi_iload (pc' := 40) rfl rfl rfl ?_
  refine xi_iadd (pc' := 41) rfl rfl ?_
  refine xr_iald (j := 12 * t + 4 * s + 2) (pc' := 42) rfl rfl (by decide) (by first | rfl | (simp only [ix_add, ix_mul, ix_pred]; done) | (simp only [ix_add, ix_mul, ix_pred, *]; done)) (by omega) (by decide) rfl ?_
  refine xr_iast (j := 12 * t + 4 * s + 2) (pc' := 43) rfl rfl (by decide) (by first | rfl | (simp only [ix_add, ix_mul, ix_pred]; done) | (simp only [ix_add, ix_mul, ix_pred, *]; done)) (by omega) (by decide) rfl ?_
  refine xi_iincv (y := nI 3) (pc' := 46) rfl rfl (by decide) (st1_4 rfl) rfl ?_
  refine xi_goto (pc' := 19) rfl rfl ?_
  refine xi_iload (pc' := 21) rfl rfl rfl ?_
  refine xi_iconst (pc' := 22) rfl rfl ?_
  refine xi_icmpf (pc' := 25) (tg := 49) rfl rfl (by decide) rfl ?_
  refine xi_aload_n (pc' := 26) rfl rfl rfl ?_
  refine xr_getp (pc' := 29) rfl rfl (by decide) rfl rfl rfl ?_
  refine xi_iload_n (pc' := 30) rfl rfl rfl ?_
  refine xi_iload (pc' := 32) rfl rfl rfl ?_
  refine xi_iadd (pc' := 33) rfl rfl ?_
  refine xi_aload_n (pc' := 34) rfl rfl rfl ?_
  refine xr_getp (pc' := 37) rfl rfl (by decide) rfl rfl rfl ?_
  refine xi_iload_n (pc' := 38) rfl rfl rfl ?_
  refine xi_iload (pc' := 40) rfl rfl rfl ?_
  refine xi_iadd (pc' := 41) rfl rfl ?_
  refine xr_iald (j := 12 * t + 4 * s + 3) (pc' := 42) rfl rfl (by decide) (by first | rfl | (simp only [ix_add, ix_mul, ix_pred]; done) | (simp only [ix_add, ix_mul, ix_pred, *]; done)) (by omega) (by decide) rfl ?_
  refine xr_iast (j := 12 * t + 4 * s + 3) (pc' := 43) rfl rfl (by decide) (by first | rfl | (simp only [ix_add, ix_mul, ix_pred]; done) | (simp only [ix_add, ix_mul, ix_pred, *]; done)) (by omega) (by decide) rfl ?_
  refine xi_iincv (y := nI 4) (pc' := 46) rfl rfl (by decide) (st1_4 rfl) rfl ?_
  refine xi_goto (pc' := 19) rfl rfl ?_
  refine xi_iload (pc' := 21) rfl rfl rfl ?_
  refine xi_iconst (pc' := 22) rfl rfl ?_
  refine xi_icmpt (pc' := 49) rfl rfl (by decide) ?_
  refine xi_iconst (pc' := 50) rfl rfl ?_
  refine xx_zreturn rfl rfl (by first | rfl | assumption | exact b01_bI | simp [ex_b01, bI]) ?_
  simp only [ex_P, Classical.not_not, ↓reduceIte, Nat.add_zero, or_true, true_or, not_true_eq_false, not_false_eq_true, or_false, false_or, wI_get, false_and, true_and, and_true, and_false, and_self, Nat.reduceEqDiff, Nat.succ_ne_zero, reduceCtorEq, nI_lit, nI_lit0, Nat.reduceLT] at *
  first | (simp only [r_pub, *, ↓reduceIte, Nat.add_zero, or_true, true_or, not_true_eq_false, not_false_eq_true, or_false, false_or, wI_get, false_and, true_and, and_true, and_false, and_self, Nat.reduceEqDiff, Nat.succ_ne_zero, reduceCtorEq, nI_lit, nI_lit0, Nat.reduceLT]; done) | (exfalso; simp_all only [↓reduceIte, Nat.add_zero, or_true, true_or, not_true_eq_false, not_false_eq_true, or_false, false_or, wI_get, false_and, true_and, and_true, and_false, and_self, Nat.reduceEqDiff, Nat.succ_ne_zero, reduceCtorEq, nI_lit, nI_lit0, Nat.reduceLT]; done)
theorem r_publish0 {L : Nat} {xs : Nat → Int32} {D n : Nat} {I J : ex_Mem} {t s : Int32} (hp : ¬ (vT t ∧ vS s)) : ri L xs (D + 2) 90 [.ref 52, .int t, .int s] (mkH n I J) (nI 0) (mkH n I J) := by
  show xx cb_G _ _ _ 90 0 [.ref 52, .int t, .int s, ex_no, ex_no] [] _ _
  refine xi_iload_n (pc' := 1) rfl rfl rfl ?_
  refine xi_iload_n (pc' := 2) rfl rfl rfl ?_
  refine xx_callSi (pc' := 5) rfl rfl (by decide) rfl (Nat.le_of_ble_eq_true rfl) rfl rfl (r_isPlace0 (D := D) hp) ?_
  refine xi_iff (pc' := 8) (tg := 10) rfl rfl (by decide) rfl ?_
  refine xi_iconst (pc' := 9) rfl rfl ?_
  refine xx_zreturn rfl rfl (by first | rfl | assumption | exact b01_bI | simp [ex_b01, bI]) ?_
  exact ⟨rfl, rfl⟩
theorem r_received1 {L : Nat} {xs : Nat → Int32} {D n : Nat} {I J : ex_Mem} {t s k : Nat} (ht : t < 6) (hs : s < 3) (hk : k < 4) : ri L xs (D + 2) 91 [.ref 52, .int (nI t), .int (nI (s + 1)), .int (nI k)] (mkH n I J) (if J 61 (3 * t + s) = 0 then - nI 1 else J 60 (12 * t + 4 * s + k)) (mkH n I J) := by
  show xx cb_G _ _ _ 91 0 [.ref 52, .int (nI t), .int (nI (s + 1)), .int (nI k)] [] _ _
  refine xi_iload_n (pc' := 1) rfl rfl rfl ?_
  refine xi_iload_n (pc' := 2) rfl rfl rfl ?_
  refine xx_callSi (pc' := 5) rfl rfl (by decide) rfl (Nat.le_of_ble_eq_true rfl) rfl rfl (r_isPlace1 (D := D) (vT_n ht) (vS_n hs)) ?_
  refine xi_iff (pc' := 8) (tg := 30) rfl rfl (by decide) rfl ?_
  refine xi_iload_n (pc' := 9) rfl rfl rfl ?_
  refine xx_callSi (pc' := 12) rfl rfl (by decide) rfl (Nat.le_of_ble_eq_true rfl) rfl rfl (r_isIndex1 (vK_n hk)) ?_
  refine xi_iff (pc' := 15) (tg := 30) rfl rfl (by decide) rfl ?_
  refine xi_aload_n (pc' := 16) rfl rfl rfl ?_
  refine xr_getp (pc' := 19) rfl rfl (by decide) rfl rfl rfl ?_
  refine xi_iconst (pc' := 20) rfl rfl ?_
  refine xi_iload_n (pc' := 21) rfl rfl rfl ?_
  refine xi_imul (pc' := 22) rfl rfl ?_
  refine xi_iload_n (pc' := 23) rfl rfl rfl ?_
  refine xi_iadd (pc' := 24) rfl rfl ?_
  refine xi_iconst (pc' := 25) rfl rfl ?_
  refine xi_isub (pc' := 26) rfl rfl ?_
  refine xr_zald (j := 3 * t + s) (pc' := 27) rfl rfl (by decide) (by simp only [ix_mul, ix_add]; exact ix_pred (3 * t + s)) (by omega) (by decide) rfl ?_
  refine xx_if (pc' := 30) (tg := 32) rfl rfl rfl (fun q27 => ?_) (fun q27 => ?_)
  · refine xi_aload_n (pc' := 33) rfl rfl rfl ?_
    refine xr_getp (pc' := 36) rfl rfl (by decide) rfl rfl rfl ?_
    refine xi_iload_n (pc' := 37) rfl rfl rfl ?_
    refine xi_iload_n (pc' := 38) rfl rfl rfl ?_
    refine xx_callSi (pc' := 41) rfl rfl (by decide) rfl (Nat.le_of_ble_eq_true rfl) rfl rfl (r_place t s) ?_
    refine xi_iload_n (pc' := 42) rfl rfl rfl ?_
    refine xi_iadd (pc' := 43) rfl rfl ?_
    refine xr_iald (j := 12 * t + 4 * s + k) (pc' := 44) rfl rfl (by decide) (by first | rfl | (simp only [ix_add, ix_mul, ix_pred]; done) | (simp only [ix_add, ix_mul, ix_pred, *]; done)) (by omega) (by decide) rfl ?_
    refine xx_ireturn rfl rfl ?_
    simp only [ex_P, Classical.not_not, ↓reduceIte, Nat.add_zero, or_true, true_or, not_true_eq_false, not_false_eq_true, or_false, false_or, wI_get, false_and, true_and, and_true, and_false, and_self, Nat.reduceEqDiff, Nat.succ_ne_zero, reduceCtorEq, nI_lit, nI_lit0, Nat.reduceLT] at *
    first | (simp only [ix_0, *, ↓reduceIte, Nat.add_zero, or_true, true_or, not_true_eq_false, not_false_eq_true, or_false, false_or, wI_get, false_and, true_and, and_true, and_false, and_self, Nat.reduceEqDiff, Nat.succ_ne_zero, reduceCtorEq, nI_lit, nI_lit0, Nat.reduceLT]; done) | (exfalso; simp_all only [↓reduceIte, Nat.add_zero, or_true, true_or, not_true_eq_false, not_false_eq_true, or_false, false_or, wI_get, false_and, true_and, and_true, and_false, and_self, Nat.reduceEqDiff, Nat.succ_ne_zero, reduceCtorEq, nI_lit, nI_lit0, Nat.reduceLT]; done)
  · refine xi_iconstm (pc' := 31) rfl rfl ?_
    refine xx_ireturn rfl rfl ?_
    simp only [ex_P, Classical.not_not, ↓reduceIte, Nat.add_zero, or_true, true_or, not_true_eq_false, not_false_eq_true, or_false, false_or, wI_get, false_and, true_and, and_true, and_false, and_self, Nat.reduceEqDiff, Nat.succ_ne_zero, reduceCtorEq, nI_lit, nI_lit0, Nat.reduceLT] at *
    first | (simp only [ix_0, *, ↓reduceIte, Nat.add_zero, or_true, true_or, not_true_eq_false, not_false_eq_true, or_false, false_or, wI_get, false_and, true_and, and_true, and_false, and_self, Nat.reduceEqDiff, Nat.succ_ne_zero, reduceCtorEq, nI_lit, nI_lit0, Nat.reduceLT]; done) | (exfalso; simp_all only [↓reduceIte, Nat.add_zero, or_true, true_or, not_true_eq_false, not_false_eq_true, or_false, false_or, wI_get, false_and, true_and, and_true, and_false, and_self, Nat.reduceEqDiff, Nat.succ_ne_zero, reduceCtorEq, nI_lit, nI_lit0, Nat.reduceLT]; done)
theorem r_received0p {L : Nat} {xs : Nat → Int32} {D n : Nat} {I J : ex_Mem} {t s k : Int32} (hp : ¬ (vT t ∧ vS s)) : ri L xs (D + 2) 91 [.ref 52, .int t, .int s, .int k] (mkH n I J) (- nI 1) (mkH n I J) := by
  show xx cb_G _ _ _ 91 0 [.ref 52, .int t, .int s, .int k] [] _ _
  refine xi_iload_n (pc' := 1) rfl rfl rfl ?_
  refine xi_iload_n (pc' := 2) rfl rfl rfl ?_
  refine xx_callSi (pc' := 5) rfl rfl (by decide) rfl (Nat.le_of_ble_eq_true rfl) rfl rfl (r_isPlace0 (D := D) hp) ?_
  refine xi_ift (pc' := 30) rfl rfl (by decide) ?_
  refine xi_iconstm (pc' := 31) rfl rfl ?_
  refine xx_ireturn rfl rfl ?_
  exact ⟨rfl, rfl⟩
theorem r_received0k {L : Nat} {xs : Nat → Int32} {D n : Nat} {I J : ex_Mem} {t s k : Int32} (hp : vT t ∧ vS s) (hk : ¬ vK k) : ri L xs (D + 2) 91 [.ref 52, .int t, .int s, .int k] (mkH n I J) (- nI 1) (mkH n I J) := by
  show xx cb_G _ _ _ 91 0 [.ref 52, .int t, .int s, .int k] [] _ _
  refine xi_iload_n (pc' := 1) rfl rfl rfl ?_
  refine xi_iload_n (pc' := 2) rfl rfl rfl ?_
  refine xx_callSi (pc' := 5) rfl rfl (by decide) rfl (Nat.le_of_ble_eq_true rfl) rfl rfl (r_isPlace1 (D := D) hp.1 hp.2) ?_
  refine xi_iff (pc' := 8) (tg := 30) rfl rfl (by decide) rfl ?_
  refine xi_iload_n (pc' := 9) rfl rfl rfl ?_
  refine xx_callSi (pc' := 12) rfl rfl (by decide) rfl (Nat.le_of_ble_eq_true rfl) rfl rfl (r_isIndex0 hk) ?_
  refine xi_ift (pc' := 30) rfl rfl (by decide) ?_
  refine xi_iconstm (pc' := 31) rfl rfl ?_
  refine xx_ireturn rfl rfl ?_
  exact ⟨rfl, rfl⟩
theorem r_terminal_0 {L : Nat} {xs : Nat → Int32} {D n : Nat} {I J : ex_Mem} {t : Nat} (ht : t < 6) : ri L xs (D + 1) 92 [.ref 52, .int (nI t), .int (nI 0)] (mkH n I J) (r_st J t) (mkH n I J) := by
  show xx cb_G _ _ _ 92 0 [.ref 52, .int (nI t), .int (nI 0)] [] _ _
  refine xi_iload_n (pc' := 1) rfl rfl rfl ?_
  refine xx_callSi (pc' := 4) rfl rfl (by decide) rfl (Nat.le_of_ble_eq_true rfl) rfl rfl (r_isTerminal1 (vT_n ht)) ?_
  refine xi_ift (pc' := 9) rfl rfl (by decide) ?_
  refine xi_iload_n (pc' := 10) rfl rfl rfl ?_
  refine xi_switch (off := .ofNat 42) (pc' := 52) rfl (by decide) (by decide) rfl ?_
  refine xi_aload_n (pc' := 53) rfl rfl rfl ?_
  refine xi_iload_n (pc' := 54) rfl rfl rfl ?_
  refine xx_callVi (pc' := 57) rfl rfl (by decide) rfl rfl (by show _ < 81 + 2 * _; omega) (Nat.le_of_ble_eq_true rfl) rfl rfl (r_statusOf ht) ?_
  refine xx_ireturn rfl rfl ?_
  exact ⟨rfl, rfl⟩
theorem r_terminal_1 {L : Nat} {xs : Nat → Int32} {D n : Nat} {I J : ex_Mem} {t : Nat} (ht : t < 6) : ri L xs (D + 1) 92 [.ref 52, .int (nI t), .int (nI 1)] (mkH n I J) (J 64 t) (mkH n I J) := by
  show xx cb_G _ _ _ 92 0 [.ref 52, .int (nI t), .int (nI 1)] [] _ _
  refine xi_iload_n (pc' := 1) rfl rfl rfl ?_
  refine xx_callSi (pc' := 4) rfl rfl (by decide) rfl (Nat.le_of_ble_eq_true rfl) rfl rfl (r_isTerminal1 (vT_n ht)) ?_
  refine xi_ift (pc' := 9) rfl rfl (by decide) ?_
  refine xi_iload_n (pc' := 10) rfl rfl rfl ?_
  refine xi_switch (off := .ofNat 48) (pc' := 58) rfl (by decide) (by decide) rfl ?_
  refine xi_aload_n (pc' := 59) rfl rfl rfl ?_
  refine xr_getp (pc' := 62) rfl rfl (by decide) rfl rfl rfl ?_
  refine xi_iload_n (pc' := 63) rfl rfl rfl ?_
  refine xr_iald (j := t) (pc' := 64) rfl rfl (by decide) (by first | rfl | (simp only [ix_add, ix_mul, ix_pred]; done) | (simp only [ix_add, ix_mul, ix_pred, *]; done)) (by omega) (by decide) rfl ?_
  refine xx_ireturn rfl rfl ?_
  exact ⟨rfl, rfl⟩
theorem r_terminal_2 {L : Nat} {xs : Nat → Int32} {D n : Nat} {I J : ex_Mem} {t : Nat} (ht : t < 6) : ri L xs (D + 1) 92 [.ref 52, .int (nI t), .int (nI 2)] (mkH n I J) (J 65 t) (mkH n I J) := by
  show xx cb_G _ _ _ 92 0 [.ref 52, .int (nI t), .int (nI 2)] [] _ _
  refine xi_iload_n (pc' := 1) rfl rfl rfl ?_
  refine xx_callSi (pc' := 4) rfl rfl (by decide) rfl (Nat.le_of_ble_eq_true rfl) rfl rfl (r_isTerminal1 (vT_n ht)) ?_
  refine xi_ift (pc' := 9) rfl rfl (by decide) ?_
  refine xi_iload_n (pc' := 10) rfl rfl rfl ?_
  refine xi_switch (off := .ofNat 55) (pc' := 65) rfl (by decide) (by decide) rfl ?_
  refine xi_aload_n (pc' := 66) rfl rfl rfl ?_
  refine xr_getp (pc' := 69) rfl rfl (by decide) rfl rfl rfl ?_
  refine xi_iload_n (pc' := 70) rfl rfl rfl ?_
  refine xr_iald (j := t) (pc' := 71) rfl rfl (by decide) (by first | rfl | (simp only [ix_add, ix_mul, ix_pred]; done) | (simp only [ix_add, ix_mul, ix_pred, *]; done)) (by omega) (by decide) rfl ?_
  refine xx_ireturn rfl rfl ?_
  exact ⟨rfl, rfl⟩
theorem r_terminal_3 {L : Nat} {xs : Nat → Int32} {D n : Nat} {I J : ex_Mem} {t : Nat} (ht : t < 6) : ri L xs (D + 1) 92 [.ref 52, .int (nI t), .int (nI 3)] (mkH n I J) (if J 66 (2 * t) = 0 then nI 0 else nI 1) (mkH n I J) := by
  show xx cb_G _ _ _ 92 0 [.ref 52, .int (nI t), .int (nI 3)] [] _ _
  refine xi_iload_n (pc' := 1) rfl rfl rfl ?_
  refine xx_callSi (pc' := 4) rfl rfl (by decide) rfl (Nat.le_of_ble_eq_true rfl) rfl rfl (r_isTerminal1 (vT_n ht)) ?_
  refine xi_ift (pc' := 9) rfl rfl (by decide) ?_
  refine xi_iload_n (pc' := 10) rfl rfl rfl ?_
  refine xi_switch (off := .ofNat 62) (pc' := 72) rfl (by decide) (by decide) rfl ?_
  refine xi_aload_n (pc' := 73) rfl rfl rfl ?_
  refine xr_getp (pc' := 76) rfl rfl (by decide) rfl rfl rfl ?_
  refine xi_iconst (pc' := 77) rfl rfl ?_
  refine xi_iload_n (pc' := 78) rfl rfl rfl ?_
  refine xi_imul (pc' := 79) rfl rfl ?_
  refine xr_zald (j := (2) * (t)) (pc' := 80) rfl rfl (by decide) (by first | rfl | (simp only [ix_add, ix_mul, ix_pred]; done) | (simp only [ix_add, ix_mul, ix_pred, *]; done)) (by omega) (by decide) rfl ?_
  refine xx_if (pc' := 83) (tg := 87) rfl rfl rfl (fun q80 => ?_) (fun q80 => ?_)
  · refine xi_iconst (pc' := 88) rfl rfl ?_
    refine xx_ireturn rfl rfl ?_
    simp only [ex_P, Classical.not_not, ↓reduceIte, Nat.add_zero, or_true, true_or, not_true_eq_false, not_false_eq_true, or_false, false_or, wI_get, false_and, true_and, and_true, and_false, and_self, Nat.reduceEqDiff, Nat.succ_ne_zero, reduceCtorEq, nI_lit, nI_lit0, Nat.reduceLT] at *
    first | (simp only [ix_0, *, ↓reduceIte, Nat.add_zero, or_true, true_or, not_true_eq_false, not_false_eq_true, or_false, false_or, wI_get, false_and, true_and, and_true, and_false, and_self, Nat.reduceEqDiff, Nat.succ_ne_zero, reduceCtorEq, nI_lit, nI_lit0, Nat.reduceLT]; done) | (exfalso; simp_all only [↓reduceIte, Nat.add_zero, or_true, true_or, not_true_eq_false, not_false_eq_true, or_false, false_or, wI_get, false_and, true_and, and_true, and_false, and_self, Nat.reduceEqDiff, Nat.succ_ne_zero, reduceCtorEq, nI_lit, nI_lit0, Nat.reduceLT]; done)
  · refine xi_iconst (pc' := 84) rfl rfl ?_
    refine xi_goto (pc' := 88) rfl rfl ?_
    refine xx_ireturn rfl rfl ?_
    simp only [ex_P, Classical.not_not, ↓reduceIte, Nat.add_zero, or_true, true_or, not_true_eq_false, not_false_eq_true, or_false, false_or, wI_get, false_and, true_and, and_true, and_false, and_self, Nat.reduceEqDiff, Nat.succ_ne_zero, reduceCtorEq, nI_lit, nI_lit0, Nat.reduceLT] at *
    first | (simp only [ix_0, *, ↓reduceIte, Nat.add_zero, or_true, true_or, not_true_eq_false, not_false_eq_true, or_false, false_or, wI_get, false_and, true_and, and_true, and_false, and_self, Nat.reduceEqDiff, Nat.succ_ne_zero, reduceCtorEq, nI_lit, nI_lit0, Nat.reduceLT]; done) | (exfalso; simp_all only [↓reduceIte, Nat.add_zero, or_true, true_or, not_true_eq_false, not_false_eq_true, or_false, false_or, wI_get, false_and, true_and, and_true, and_false, and_self, Nat.reduceEqDiff, Nat.succ_ne_zero, reduceCtorEq, nI_lit, nI_lit0, Nat.reduceLT]; done)
theorem r_terminal_4 {L : Nat} {xs : Nat → Int32} {D n : Nat} {I J : ex_Mem} {t : Nat} (ht : t < 6) : ri L xs (D + 1) 92 [.ref 52, .int (nI t), .int (nI 4)] (mkH n I J) (if J 66 (2 * t + 1) = 0 then nI 0 else nI 1) (mkH n I J) := by
  show xx cb_G _ _ _ 92 0 [.ref 52, .int (nI t), .int (nI 4)] [] _ _
  refine xi_iload_n (pc' := 1) rfl rfl rfl ?_
  refine xx_callSi (pc' := 4) rfl rfl (by decide) rfl (Nat.le_of_ble_eq_true rfl) rfl rfl (r_isTerminal1 (vT_n ht)) ?_
  refine xi_ift (pc' := 9) rfl rfl (by decide) ?_
  refine xi_iload_n (pc' := 10) rfl rfl rfl ?_
  refine xi_switch (off := .ofNat 79) (pc' := 89) rfl (by decide) (by decide) rfl ?_
  refine xi_aload_n (pc' := 90) rfl rfl rfl ?_
  refine xr_getp (pc' := 93) rfl rfl (by decide) rfl rfl rfl ?_
  refine xi_iconst (pc' := 94) rfl rfl ?_
  refine xi_iload_n (pc' := 95) rfl rfl rfl ?_
  refine xi_imul (pc' := 96) rfl rfl ?_
  refine xi_iconst (pc' := 97) rfl rfl ?_
  refine xi_iadd (pc' := 98) rfl rfl ?_
  refine xr_zald (j := (2) * (t) + 1) (pc' := 99) rfl rfl (by decide) (by first | rfl | (simp only [ix_add, ix_mul, ix_pred]; done) | (simp only [ix_add, ix_mul, ix_pred, *]; done)) (by omega) (by decide) rfl ?_
  refine xx_if (pc' := 102) (tg := 106) rfl rfl rfl (fun q99 => ?_) (fun q99 => ?_)
  · refine xi_iconst (pc' := 107) rfl rfl ?_
    refine xx_ireturn rfl rfl ?_
    simp only [ex_P, Classical.not_not, ↓reduceIte, Nat.add_zero, or_true, true_or, not_true_eq_false, not_false_eq_true, or_false, false_or, wI_get, false_and, true_and, and_true, and_false, and_self, Nat.reduceEqDiff, Nat.succ_ne_zero, reduceCtorEq, nI_lit, nI_lit0, Nat.reduceLT] at *
    first | (simp only [ix_0, *, ↓reduceIte, Nat.add_zero, or_true, true_or, not_true_eq_false, not_false_eq_true, or_false, false_or, wI_get, false_and, true_and, and_true, and_false, and_self, Nat.reduceEqDiff, Nat.succ_ne_zero, reduceCtorEq, nI_lit, nI_lit0, Nat.reduceLT]; done) | (exfalso; simp_all only [↓reduceIte, Nat.add_zero, or_true, true_or, not_true_eq_false, not_false_eq_true, or_false, false_or, wI_get, false_and, true_and, and_true, and_false, and_self, Nat.reduceEqDiff, Nat.succ_ne_zero, reduceCtorEq, nI_lit, nI_lit0, Nat.reduceLT]; done)
  · refine xi_iconst (pc' := 103) rfl rfl ?_
    refine xi_goto (pc' := 107) rfl rfl ?_
    refine xx_ireturn rfl rfl ?_
    simp only [ex_P, Classical.not_not, ↓reduceIte, Nat.add_zero, or_true, true_or, not_true_eq_false, not_false_eq_true, or_false, false_or, wI_get, false_and, true_and, and_true, and_false, and_self, Nat.reduceEqDiff, Nat.succ_ne_zero, reduceCtorEq, nI_lit, nI_lit0, Nat.reduceLT] at *
    first | (simp only [ix_0, *, ↓reduceIte, Nat.add_zero, or_true, true_or, not_true_eq_false, not_false_eq_true, or_false, false_or, wI_get, false_and, true_and, and_true, and_false, and_self, Nat.reduceEqDiff, Nat.succ_ne_zero, reduceCtorEq, nI_lit, nI_lit0, Nat.reduceLT]; done) | (exfalso; simp_all only [↓reduceIte, Nat.add_zero, or_true, true_or, not_true_eq_false, not_false_eq_true, or_false, false_or, wI_get, false_and, true_and, and_true, and_false, and_self, Nat.reduceEqDiff, Nat.succ_ne_zero, reduceCtorEq, nI_lit, nI_lit0, Nat.reduceLT]; done)
theorem r_terminal_5 {L : Nat} {xs : Nat → Int32} {D n : Nat} {I J : ex_Mem} {t : Nat} (ht : t < 6) : ri L xs (D + 1) 92 [.ref 52, .int (nI t), .int (nI 5)] (mkH n I J) (J 67 t) (mkH n I J) := by
  show xx cb_G _ _ _ 92 0 [.ref 52, .int (nI t), .int (nI 5)] [] _ _
  refine xi_iload_n (pc' := 1) rfl rfl rfl ?_
  refine xx_callSi (pc' := 4) rfl rfl (by decide) rfl (Nat.le_of_ble_eq_true rfl) rfl rfl (r_isTerminal1 (vT_n ht)) ?_
  refine xi_ift (pc' := 9) rfl rfl (by decide) ?_
  refine xi_iload_n (pc' := 10) rfl rfl rfl ?_
  refine xi_switch (off := .ofNat 98) (pc' := 108) rfl (by decide) (by decide) rfl ?_
  refine xi_aload_n (pc' := 109) rfl rfl rfl ?_
  refine xr_getp (pc' := 112) rfl rfl (by decide) rfl rfl rfl ?_
  refine xi_iload_n (pc' := 113) rfl rfl rfl ?_
  refine xr_iald (j := t) (pc' := 114) rfl rfl (by decide) (by first | rfl | (simp only [ix_add, ix_mul, ix_pred]; done) | (simp only [ix_add, ix_mul, ix_pred, *]; done)) (by omega) (by decide) rfl ?_
  refine xx_ireturn rfl rfl ?_
  exact ⟨rfl, rfl⟩
theorem r_terminal_6 {L : Nat} {xs : Nat → Int32} {D n : Nat} {I J : ex_Mem} {t : Nat} (ht : t < 6) : ri L xs (D + 1) 92 [.ref 52, .int (nI t), .int (nI 6)] (mkH n I J) (if J 68 t = 0 then nI 0 else nI 1) (mkH n I J) := by
  show xx cb_G _ _ _ 92 0 [.ref 52, .int (nI t), .int (nI 6)] [] _ _
  refine xi_iload_n (pc' := 1) rfl rfl rfl ?_
  refine xx_callSi (pc' := 4) rfl rfl (by decide) rfl (Nat.le_of_ble_eq_true rfl) rfl rfl (r_isTerminal1 (vT_n ht)) ?_
  refine xi_ift (pc' := 9) rfl rfl (by decide) ?_
  refine xi_iload_n (pc' := 10) rfl rfl rfl ?_
  refine xi_switch (off := .ofNat 105) (pc' := 115) rfl (by decide) (by decide) rfl ?_
  refine xi_aload_n (pc' := 116) rfl rfl rfl ?_
  refine xr_getp (pc' := 119) rfl rfl (by decide) rfl rfl rfl ?_
  refine xi_iload_n (pc' := 120) rfl rfl rfl ?_
  refine xr_zald (j := t) (pc' := 121) rfl rfl (by decide) (by first | rfl | (simp only [ix_add, ix_mul, ix_pred]; done) | (simp only [ix_add, ix_mul, ix_pred, *]; done)) (by omega) (by decide) rfl ?_
  refine xx_if (pc' := 124) (tg := 128) rfl rfl rfl (fun q121 => ?_) (fun q121 => ?_)
  · refine xi_iconst (pc' := 129) rfl rfl ?_
    refine xx_ireturn rfl rfl ?_
    simp only [ex_P, Classical.not_not, ↓reduceIte, Nat.add_zero, or_true, true_or, not_true_eq_false, not_false_eq_true, or_false, false_or, wI_get, false_and, true_and, and_true, and_false, and_self, Nat.reduceEqDiff, Nat.succ_ne_zero, reduceCtorEq, nI_lit, nI_lit0, Nat.reduceLT] at *
    first | (simp only [ix_0, *, ↓reduceIte, Nat.add_zero, or_true, true_or, not_true_eq_false, not_false_eq_true, or_false, false_or, wI_get, false_and, true_and, and_true, and_false, and_self, Nat.reduceEqDiff, Nat.succ_ne_zero, reduceCtorEq, nI_lit, nI_lit0, Nat.reduceLT]; done) | (exfalso; simp_all only [↓reduceIte, Nat.add_zero, or_true, true_or, not_true_eq_false, not_false_eq_true, or_false, false_or, wI_get, false_and, true_and, and_true, and_false, and_self, Nat.reduceEqDiff, Nat.succ_ne_zero, reduceCtorEq, nI_lit, nI_lit0, Nat.reduceLT]; done)
  · refine xi_iconst (pc' := 125) rfl rfl ?_
    refine xi_goto (pc' := 129) rfl rfl ?_
    refine xx_ireturn rfl rfl ?_
    simp only [ex_P, Classical.not_not, ↓reduceIte, Nat.add_zero, or_true, true_or, not_true_eq_false, not_false_eq_true, or_false, false_or, wI_get, false_and, true_and, and_true, and_false, and_self, Nat.reduceEqDiff, Nat.succ_ne_zero, reduceCtorEq, nI_lit, nI_lit0, Nat.reduceLT] at *
    first | (simp only [ix_0, *, ↓reduceIte, Nat.add_zero, or_true, true_or, not_true_eq_false, not_false_eq_true, or_false, false_or, wI_get, false_and, true_and, and_true, and_false, and_self, Nat.reduceEqDiff, Nat.succ_ne_zero, reduceCtorEq, nI_lit, nI_lit0, Nat.reduceLT]; done) | (exfalso; simp_all only [↓reduceIte, Nat.add_zero, or_true, true_or, not_true_eq_false, not_false_eq_true, or_false, false_or, wI_get, false_and, true_and, and_true, and_false, and_self, Nat.reduceEqDiff, Nat.succ_ne_zero, reduceCtorEq, nI_lit, nI_lit0, Nat.reduceLT]; done)
theorem r_terminal_d {L : Nat} {xs : Nat → Int32} {D n : Nat} {I J : ex_Mem} {t : Nat} {w : Int32} (ht : t < 6) (hw : w.toInt < 0 ∨ 6 < w.toInt) : ri L xs (D + 1) 92 [.ref 52, .int (nI t), .int w] (mkH n I J) (- nI 1) (mkH n I J) := by
  show xx cb_G _ _ _ 92 0 [.ref 52, .int (nI t), .int w] [] _ _
  refine xi_iload_n (pc' := 1) rfl rfl rfl ?_
  refine xx_callSi (pc' := 4) rfl rfl (by decide) rfl (Nat.le_of_ble_eq_true rfl) rfl rfl (r_isTerminal1 (vT_n ht)) ?_
  refine xi_ift (pc' := 9) rfl rfl (by decide) ?_
  refine xi_iload_n (pc' := 10) rfl rfl rfl ?_
  refine xi_switchD (pc' := 130) rfl (hw) rfl ?_
  refine xi_iconstm (pc' := 131) rfl rfl ?_
  refine xx_ireturn rfl rfl ?_
  exact ⟨rfl, rfl⟩
theorem r_terminal_x {L : Nat} {xs : Nat → Int32} {D n : Nat} {I J : ex_Mem} {t w : Int32} (ht : ¬ vT t) : ri L xs (D + 1) 92 [.ref 52, .int t, .int w] (mkH n I J) (- nI 1) (mkH n I J) := by
  show xx cb_G _ _ _ 92 0 [.ref 52, .int t, .int w] [] _ _
  refine xi_iload_n (pc' := 1) rfl rfl rfl ?_
  refine xx_callSi (pc' := 4) rfl rfl (by decide) rfl (Nat.le_of_ble_eq_true rfl) rfl rfl (r_isTerminal0 ht) ?_
  refine xi_iff (pc' := 7) (tg := 9) rfl rfl (by decide) rfl ?_
  refine xi_iconstm (pc' := 8) rfl rfl ?_
  refine xx_ireturn rfl rfl ?_
  exact ⟨rfl, rfl⟩
theorem r_bus_ok {L : Nat} {xs : Nat → Int32} {D n : Nat} {I J : ex_Mem}  : ri L xs D 126 [.ref 52] (mkH n I J) (J 52 30) (mkH n I J) := by
  show xx cb_G _ _ _ 126 0 [.ref 52] [] _ _
  refine xi_aload_n (pc' := 1) rfl rfl rfl ?_
  refine xr_geti (pc' := 4) rfl rfl (by decide) (by decide) rfl ?_
  refine xx_ireturn rfl rfl ?_
  exact ⟨rfl, rfl⟩
theorem r_words_ok {L : Nat} {xs : Nat → Int32} {D n : Nat} {I J : ex_Mem}  : ri L xs D 127 [.ref 52] (mkH n I J) (J 52 3) (mkH n I J) := by
  show xx cb_G _ _ _ 127 0 [.ref 52] [] _ _
  refine xi_aload_n (pc' := 1) rfl rfl rfl ?_
  refine xr_geti (pc' := 4) rfl rfl (by decide) (by decide) rfl ?_
  refine xx_ireturn rfl rfl ?_
  exact ⟨rfl, rfl⟩
theorem r_open_ok {L : Nat} {xs : Nat → Int32} {D n : Nat} {I J : ex_Mem} (hz : ex_b01 (J 52 27) = true) : ri L xs D 104 [.ref 52] (mkH n I J) (J 52 27) (mkH n I (ex_wI J 52 27 (nI 0))) := by
  show xx cb_G _ _ _ 104 0 [.ref 52, ex_no] [] _ _
  refine xi_aload_n (pc' := 1) rfl rfl rfl ?_
  refine xr_geti (pc' := 4) rfl rfl (by decide) (by decide) rfl ?_
  refine xi_istore_n (pc' := 5) rfl (st1_1 rfl) rfl ?_
  refine xi_aload_n (pc' := 6) rfl rfl rfl ?_
  refine xi_iconst (pc' := 7) rfl rfl ?_
  refine xr_puti (z := 0) (pc' := 10) rfl rfl (by decide) (Or.inr ⟨rfl, by decide⟩) rfl ?_
  refine xi_iload_n (pc' := 11) rfl rfl rfl ?_
  refine xx_zreturn rfl rfl (hz) ?_
  exact ⟨rfl, rfl⟩
theorem r_isMessage1 {L : Nat} {xs : Nat → Int32} {D n : Nat} {I J : ex_Mem} {m nm : Nat} (hnm : J 52 17 = nI nm) (h8 : nm ≤ 8) (hm : m < nm) : ri L xs D 97 [.ref 52, .int (nI m)] (mkH n I J) (nI 1) (mkH n I J) := by
  show xx cb_G _ _ _ 97 0 [.ref 52, .int (nI m)] [] _ _
  refine xi_iload_n (pc' := 1) rfl rfl rfl ?_
  refine xx_if (pc' := 4) (tg := 16) rfl rfl rfl (fun q1 => absurd q1 (show ¬ ex_P .lt (nI m) 0 from nI_pos (by omega))) (fun q1 => ?_)
  refine xi_iload_n (pc' := 5) rfl rfl rfl ?_
  refine xi_aload_n (pc' := 6) rfl rfl rfl ?_
  refine xr_getiv (v := nI (nm)) (pc' := 9) rfl rfl (by decide) (by decide) (hnm) rfl ?_
  refine xx_icmp (pc' := 12) (tg := 16) rfl rfl rfl (fun q9 => absurd q9 (show ¬ ex_P .ge (nI m) (nI nm) from nI_ge (by omega) (by omega))) (fun q9 => ?_)
  refine xi_iconst (pc' := 13) rfl rfl ?_
  refine xi_goto (pc' := 17) rfl rfl ?_
  refine xx_zreturn rfl rfl (by first | rfl | assumption | exact b01_bI | simp [ex_b01, bI]) ?_
  exact ⟨rfl, rfl⟩
def vM (nm : Nat) (m : Int32) : Prop := 0 ≤ m ∧ m < nI nm
theorem r_isMessage0 {L : Nat} {xs : Nat → Int32} {D n : Nat} {I J : ex_Mem} {m : Int32} {nm : Nat} (hnm : J 52 17 = nI nm) (hm : ¬ vM nm m) : ri L xs D 97 [.ref 52, .int m] (mkH n I J) (nI 0) (mkH n I J) := by
  show xx cb_G _ _ _ 97 0 [.ref 52, .int m] [] _ _
  refine xi_iload_n (pc' := 1) rfl rfl rfl ?_
  refine xx_if (pc' := 4) (tg := 16) rfl rfl rfl (fun q1 => ?_) (fun q1 => ?_)
  · refine xi_iconst (pc' := 17) rfl rfl ?_
    refine xx_zreturn rfl rfl (by first | rfl | assumption | exact b01_bI | simp [ex_b01, bI]) ?_
    first | exact ⟨rfl, rfl⟩ | exact absurd ⟨Int32.not_lt.mp q1, Int32.not_le.mp q9⟩ hm
  · refine xi_iload_n (pc' := 5) rfl rfl rfl ?_
    refine xi_aload_n (pc' := 6) rfl rfl rfl ?_
    refine xr_getiv (v := nI (nm)) (pc' := 9) rfl rfl (by decide) (by decide) (hnm) rfl ?_
    refine xx_icmp (pc' := 12) (tg := 16) rfl rfl rfl (fun q9 => ?_) (fun q9 => ?_)
    · refine xi_iconst (pc' := 17) rfl rfl ?_
      refine xx_zreturn rfl rfl (by first | rfl | assumption | exact b01_bI | simp [ex_b01, bI]) ?_
      first | exact ⟨rfl, rfl⟩ | exact absurd ⟨Int32.not_lt.mp q1, Int32.not_le.mp q9⟩ hm
    · refine xi_iconst (pc' := 13) rfl rfl ?_
      refine xi_goto (pc' := 17) rfl rfl ?_
      refine xx_zreturn rfl rfl (by first | rfl | assumption | exact b01_bI | simp [ex_b01, bI]) ?_
      first | exact ⟨rfl, rfl⟩ | exact absurd ⟨Int32.not_lt.mp q1, Int32.not_le.mp q9⟩ hm
theorem r_give1 {L : Nat} {xs : Nat → Int32} {D n : Nat} {I J : ex_Mem} {m nm : Nat} (hnm : J 52 17 = nI nm) (h8 : nm ≤ 8) (hm : m < nm) {k : Nat} {v : Int32} (hk : k < 4) (hv : vV v) : ri L xs (D + 1) 96 [.ref 52, .int (nI m), .int (nI k), .int v] (mkH n I J) (nI 1) (mkH n I (ex_wI J 76 (4 * m + k) v)) := by
  show xx cb_G _ _ _ 96 0 [.ref 52, .int (nI m), .int (nI k), .int v] [] _ _
  refine xi_aload_n (pc' := 1) rfl rfl rfl ?_
  refine xi_iload_n (pc' := 2) rfl rfl rfl ?_
  refine xx_callVi (pc' := 5) rfl rfl (by decide) rfl rfl (by show _ < 81 + 2 * _; omega) (Nat.le_of_ble_eq_true rfl) rfl rfl (r_isMessage1 (D := D) hnm h8 hm) ?_
  refine xi_iff (pc' := 8) (tg := 22) rfl rfl (by decide) rfl ?_
  refine xi_iload_n (pc' := 9) rfl rfl rfl ?_
  refine xx_callSi (pc' := 12) rfl rfl (by decide) rfl (Nat.le_of_ble_eq_true rfl) rfl rfl (r_isIndex1 (vK_n hk)) ?_
  refine xi_iff (pc' := 15) (tg := 22) rfl rfl (by decide) rfl ?_
  refine xi_iload_n (pc' := 16) rfl rfl rfl ?_
  refine xx_callSi (pc' := 19) rfl rfl (by decide) rfl (Nat.le_of_ble_eq_true rfl) rfl rfl (r_isValue1 hv) ?_
  refine xi_ift (pc' := 24) rfl rfl (by decide) ?_
  refine xi_aload_n (pc' := 25) rfl rfl rfl ?_
  refine xr_getp (pc' := 28) rfl rfl (by decide) rfl rfl rfl ?_
  refine xi_iconst (pc' := 29) rfl rfl ?_
  refine xi_iload_n (pc' := 30) rfl rfl rfl ?_
  refine xi_imul (pc' := 31) rfl rfl ?_
  refine xi_iload_n (pc' := 32) rfl rfl rfl ?_
  refine xi_iadd (pc' := 33) rfl rfl ?_
  refine xi_iload_n (pc' := 34) rfl rfl rfl ?_
  refine xr_iast (j := (4) * (m) + k) (pc' := 35) rfl rfl (by decide) (by first | rfl | (simp only [ix_add, ix_mul, ix_pred]; done) | (simp only [ix_add, ix_mul, ix_pred, *]; done)) (by omega) (by decide) rfl ?_
  refine xi_iconst (pc' := 36) rfl rfl ?_
  refine xx_zreturn rfl rfl (by first | rfl | assumption | exact b01_bI | simp [ex_b01, bI]) ?_
  exact ⟨rfl, rfl⟩
theorem r_give0m {L : Nat} {xs : Nat → Int32} {D n : Nat} {I J : ex_Mem} {m : Int32} {nm : Nat} (hnm : J 52 17 = nI nm) (hm : ¬ vM nm m) {k v : Int32} : ri L xs (D + 1) 96 [.ref 52, .int m, .int k, .int v] (mkH n I J) (nI 0) (mkH n I J) := by
  show xx cb_G _ _ _ 96 0 [.ref 52, .int m, .int k, .int v] [] _ _
  refine xi_aload_n (pc' := 1) rfl rfl rfl ?_
  refine xi_iload_n (pc' := 2) rfl rfl rfl ?_
  refine xx_callVi (pc' := 5) rfl rfl (by decide) rfl rfl (by show _ < 81 + 2 * _; omega) (Nat.le_of_ble_eq_true rfl) rfl rfl (r_isMessage0 (D := D) hnm hm) ?_
  refine xi_ift (pc' := 22) rfl rfl (by decide) ?_
  refine xi_iconst (pc' := 23) rfl rfl ?_
  refine xx_zreturn rfl rfl (by first | rfl | assumption | exact b01_bI | simp [ex_b01, bI]) ?_
  exact ⟨rfl, rfl⟩
theorem r_give0k {L : Nat} {xs : Nat → Int32} {D n : Nat} {I J : ex_Mem} {m nm : Nat} (hnm : J 52 17 = nI nm) (h8 : nm ≤ 8) (hm : m < nm) {k v : Int32} (hk : ¬ vK k) : ri L xs (D + 1) 96 [.ref 52, .int (nI m), .int k, .int v] (mkH n I J) (nI 0) (mkH n I J) := by
  show xx cb_G _ _ _ 96 0 [.ref 52, .int (nI m), .int k, .int v] [] _ _
  refine xi_aload_n (pc' := 1) rfl rfl rfl ?_
  refine xi_iload_n (pc' := 2) rfl rfl rfl ?_
  refine xx_callVi (pc' := 5) rfl rfl (by decide) rfl rfl (by show _ < 81 + 2 * _; omega) (Nat.le_of_ble_eq_true rfl) rfl rfl (r_isMessage1 (D := D) hnm h8 hm) ?_
  refine xi_iff (pc' := 8) (tg := 22) rfl rfl (by decide) rfl ?_
  refine xi_iload_n (pc' := 9) rfl rfl rfl ?_
  refine xx_callSi (pc' := 12) rfl rfl (by decide) rfl (Nat.le_of_ble_eq_true rfl) rfl rfl (r_isIndex0 hk) ?_
  refine xi_ift (pc' := 22) rfl rfl (by decide) ?_
  refine xi_iconst (pc' := 23) rfl rfl ?_
  refine xx_zreturn rfl rfl (by first | rfl | assumption | exact b01_bI | simp [ex_b01, bI]) ?_
  exact ⟨rfl, rfl⟩
theorem r_give0v {L : Nat} {xs : Nat → Int32} {D n : Nat} {I J : ex_Mem} {m nm : Nat} (hnm : J 52 17 = nI nm) (h8 : nm ≤ 8) (hm : m < nm) {k v : Int32} (hk : vK k) (hv : ¬ vV v) : ri L xs (D + 1) 96 [.ref 52, .int (nI m), .int k, .int v] (mkH n I J) (nI 0) (mkH n I J) := by
  show xx cb_G _ _ _ 96 0 [.ref 52, .int (nI m), .int k, .int v] [] _ _
  refine xi_aload_n (pc' := 1) rfl rfl rfl ?_
  refine xi_iload_n (pc' := 2) rfl rfl rfl ?_
  refine xx_callVi (pc' := 5) rfl rfl (by decide) rfl rfl (by show _ < 81 + 2 * _; omega) (Nat.le_of_ble_eq_true rfl) rfl rfl (r_isMessage1 (D := D) hnm h8 hm) ?_
  refine xi_iff (pc' := 8) (tg := 22) rfl rfl (by decide) rfl ?_
  refine xi_iload_n (pc' := 9) rfl rfl rfl ?_
  refine xx_callSi (pc' := 12) rfl rfl (by decide) rfl (Nat.le_of_ble_eq_true rfl) rfl rfl (r_isIndex1 hk) ?_
  refine xi_iff (pc' := 15) (tg := 22) rfl rfl (by decide) rfl ?_
  refine xi_iload_n (pc' := 16) rfl rfl rfl ?_
  refine xx_callSi (pc' := 19) rfl rfl (by decide) rfl (Nat.le_of_ble_eq_true rfl) rfl rfl (r_isValue0 hv) ?_
  refine xi_iff (pc' := 22) (tg := 24) rfl rfl (by decide) rfl ?_
  refine xi_iconst (pc' := 23) rfl rfl ?_
  refine xx_zreturn rfl rfl (by first | rfl | assumption | exact b01_bI | simp [ex_b01, bI]) ?_
  exact ⟨rfl, rfl⟩
theorem r_taken1 {L : Nat} {xs : Nat → Int32} {D n : Nat} {I J : ex_Mem} {m nm : Nat} (hnm : J 52 17 = nI nm) (h8 : nm ≤ 8) (hm : m < nm) {k : Nat} (hk : k < 4) : ri L xs (D + 1) 98 [.ref 52, .int (nI m), .int (nI k)] (mkH n I J) (J 76 (4 * m + k)) (mkH n I J) := by
  show xx cb_G _ _ _ 98 0 [.ref 52, .int (nI m), .int (nI k)] [] _ _
  refine xi_aload_n (pc' := 1) rfl rfl rfl ?_
  refine xi_iload_n (pc' := 2) rfl rfl rfl ?_
  refine xx_callVi (pc' := 5) rfl rfl (by decide) rfl rfl (by show _ < 81 + 2 * _; omega) (Nat.le_of_ble_eq_true rfl) rfl rfl (r_isMessage1 (D := D) hnm h8 hm) ?_
  refine xi_iff (pc' := 8) (tg := 28) rfl rfl (by decide) rfl ?_
  refine xi_iload_n (pc' := 9) rfl rfl rfl ?_
  refine xx_callSi (pc' := 12) rfl rfl (by decide) rfl (Nat.le_of_ble_eq_true rfl) rfl rfl (r_isIndex1 (vK_n hk)) ?_
  refine xi_iff (pc' := 15) (tg := 28) rfl rfl (by decide) rfl ?_
  refine xi_aload_n (pc' := 16) rfl rfl rfl ?_
  refine xr_getp (pc' := 19) rfl rfl (by decide) rfl rfl rfl ?_
  refine xi_iconst (pc' := 20) rfl rfl ?_
  refine xi_iload_n (pc' := 21) rfl rfl rfl ?_
  refine xi_imul (pc' := 22) rfl rfl ?_
  refine xi_iload_n (pc' := 23) rfl rfl rfl ?_
  refine xi_iadd (pc' := 24) rfl rfl ?_
  refine xr_iald (j := (4) * (m) + k) (pc' := 25) rfl rfl (by decide) (by first | rfl | (simp only [ix_add, ix_mul, ix_pred]; done) | (simp only [ix_add, ix_mul, ix_pred, *]; done)) (by omega) (by decide) rfl ?_
  refine xi_goto (pc' := 29) rfl rfl ?_
  refine xx_ireturn rfl rfl ?_
  exact ⟨rfl, rfl⟩
theorem r_taken0m {L : Nat} {xs : Nat → Int32} {D n : Nat} {I J : ex_Mem} {m : Int32} {nm : Nat} (hnm : J 52 17 = nI nm) (hm : ¬ vM nm m) {k : Int32} : ri L xs (D + 1) 98 [.ref 52, .int m, .int k] (mkH n I J) (- nI 1) (mkH n I J) := by
  show xx cb_G _ _ _ 98 0 [.ref 52, .int m, .int k] [] _ _
  refine xi_aload_n (pc' := 1) rfl rfl rfl ?_
  refine xi_iload_n (pc' := 2) rfl rfl rfl ?_
  refine xx_callVi (pc' := 5) rfl rfl (by decide) rfl rfl (by show _ < 81 + 2 * _; omega) (Nat.le_of_ble_eq_true rfl) rfl rfl (r_isMessage0 (D := D) hnm hm) ?_
  refine xi_ift (pc' := 28) rfl rfl (by decide) ?_
  refine xi_iconstm (pc' := 29) rfl rfl ?_
  refine xx_ireturn rfl rfl ?_
  exact ⟨rfl, rfl⟩
theorem r_taken0k {L : Nat} {xs : Nat → Int32} {D n : Nat} {I J : ex_Mem} {m nm : Nat} (hnm : J 52 17 = nI nm) (h8 : nm ≤ 8) (hm : m < nm) {k : Int32} (hk : ¬ vK k) : ri L xs (D + 1) 98 [.ref 52, .int (nI m), .int k] (mkH n I J) (- nI 1) (mkH n I J) := by
  show xx cb_G _ _ _ 98 0 [.ref 52, .int (nI m), .int k] [] _ _
  refine xi_aload_n (pc' := 1) rfl rfl rfl ?_
  refine xi_iload_n (pc' := 2) rfl rfl rfl ?_
  refine xx_callVi (pc' := 5) rfl rfl (by decide) rfl rfl (by show _ < 81 + 2 * _; omega) (Nat.le_of_ble_eq_true rfl) rfl rfl (r_isMessage1 (D := D) hnm h8 hm) ?_
  refine xi_iff (pc' := 8) (tg := 28) rfl rfl (by decide) rfl ?_
  refine xi_iload_n (pc' := 9) rfl rfl rfl ?_
  refine xx_callSi (pc' := 12) rfl rfl (by decide) rfl (Nat.le_of_ble_eq_true rfl) rfl rfl (r_isIndex0 hk) ?_
  refine xi_ift (pc' := 28) rfl rfl (by decide) ?_
  refine xi_iconstm (pc' := 29) rfl rfl ?_
  refine xx_ireturn rfl rfl ?_
  exact ⟨rfl, rfl⟩
theorem r_outcome1 {L : Nat} {xs : Nat → Int32} {D n : Nat} {I J : ex_Mem} {m nm : Nat} (hnm : J 52 17 = nI nm) (h8 : nm ≤ 8) (hm : m < nm) : ri L xs (D + 1) 125 [.ref 52, .int (nI m)] (mkH n I J) (J 77 m) (mkH n I J) := by
  show xx cb_G _ _ _ 125 0 [.ref 52, .int (nI m)] [] _ _
  refine xi_aload_n (pc' := 1) rfl rfl rfl ?_
  refine xi_iload_n (pc' := 2) rfl rfl rfl ?_
  refine xx_callVi (pc' := 5) rfl rfl (by decide) rfl rfl (by show _ < 81 + 2 * _; omega) (Nat.le_of_ble_eq_true rfl) rfl rfl (r_isMessage1 (D := D) hnm h8 hm) ?_
  refine xi_iff (pc' := 8) (tg := 17) rfl rfl (by decide) rfl ?_
  refine xi_aload_n (pc' := 9) rfl rfl rfl ?_
  refine xr_getp (pc' := 12) rfl rfl (by decide) rfl rfl rfl ?_
  refine xi_iload_n (pc' := 13) rfl rfl rfl ?_
  refine xr_iald (j := m) (pc' := 14) rfl rfl (by decide) (by first | rfl | (simp only [ix_add, ix_mul, ix_pred]; done) | (simp only [ix_add, ix_mul, ix_pred, *]; done)) (by omega) (by decide) rfl ?_
  refine xi_goto (pc' := 18) rfl rfl ?_
  refine xx_ireturn rfl rfl ?_
  exact ⟨rfl, rfl⟩
theorem r_outcome0 {L : Nat} {xs : Nat → Int32} {D n : Nat} {I J : ex_Mem} {m : Int32} {nm : Nat} (hnm : J 52 17 = nI nm) (hm : ¬ vM nm m) : ri L xs (D + 1) 125 [.ref 52, .int m] (mkH n I J) (- nI 1) (mkH n I J) := by
  show xx cb_G _ _ _ 125 0 [.ref 52, .int m] [] _ _
  refine xi_aload_n (pc' := 1) rfl rfl rfl ?_
  refine xi_iload_n (pc' := 2) rfl rfl rfl ?_
  refine xx_callVi (pc' := 5) rfl rfl (by decide) rfl rfl (by show _ < 81 + 2 * _; omega) (Nat.le_of_ble_eq_true rfl) rfl rfl (r_isMessage0 (D := D) hnm hm) ?_
  refine xi_ift (pc' := 17) rfl rfl (by decide) ?_
  refine xi_iconstm (pc' := 18) rfl rfl ?_
  refine xx_ireturn rfl rfl ?_
  exact ⟨rfl, rfl⟩
theorem r_load1 {L : Nat} {xs : Nat → Int32} {D n : Nat} {I J : ex_Mem} {f : Nat} (hz : J 52 27 = nI 1) (hf : f < 4) : ri L xs D 105 [.ref 52, .int (nI f)] (mkH n I J) (J 78 f) (mkH n I J) := by
  show xx cb_G _ _ _ 105 0 [.ref 52, .int (nI f)] [] _ _
  refine xi_aload_n (pc' := 1) rfl rfl rfl ?_
  refine xr_getiv (v := nI (1)) (pc' := 4) rfl rfl (by decide) (by decide) (hz) rfl ?_
  refine xi_iff (pc' := 7) (tg := 25) rfl rfl (by decide) rfl ?_
  refine xi_iload_n (pc' := 8) rfl rfl rfl ?_
  refine xx_if (pc' := 11) (tg := 25) rfl rfl rfl (fun q8 => absurd q8 (show ¬ ex_P .lt (nI f) 0 from nI_pos (by omega))) (fun q8 => ?_)
  refine xi_iload_n (pc' := 12) rfl rfl rfl ?_
  refine xi_iconst (pc' := 13) rfl rfl ?_
  refine xx_icmp (pc' := 16) (tg := 25) rfl rfl rfl (fun q13 => absurd q13 (show ¬ ex_P .ge (nI f) (nI 4) from nI_ge (by omega) (by decide))) (fun q13 => ?_)
  refine xi_aload_n (pc' := 17) rfl rfl rfl ?_
  refine xr_getp (pc' := 20) rfl rfl (by decide) rfl rfl rfl ?_
  refine xi_iload_n (pc' := 21) rfl rfl rfl ?_
  refine xr_iald (j := f) (pc' := 22) rfl rfl (by decide) (by first | rfl | (simp only [ix_add, ix_mul, ix_pred]; done) | (simp only [ix_add, ix_mul, ix_pred, *]; done)) (by omega) (by decide) rfl ?_
  refine xi_goto (pc' := 26) rfl rfl ?_
  refine xx_ireturn rfl rfl ?_
  exact ⟨rfl, rfl⟩
theorem r_load0z {L : Nat} {xs : Nat → Int32} {D n : Nat} {I J : ex_Mem} {f : Int32} (hz : J 52 27 = nI 0) : ri L xs D 105 [.ref 52, .int f] (mkH n I J) (- nI 1) (mkH n I J) := by
  show xx cb_G _ _ _ 105 0 [.ref 52, .int f] [] _ _
  refine xi_aload_n (pc' := 1) rfl rfl rfl ?_
  refine xr_getiv (v := nI (0)) (pc' := 4) rfl rfl (by decide) (by decide) (hz) rfl ?_
  refine xi_ift (pc' := 25) rfl rfl (by decide) ?_
  refine xi_iconstm (pc' := 26) rfl rfl ?_
  refine xx_ireturn rfl rfl ?_
  exact ⟨rfl, rfl⟩
end
section
theorem r_load0 {L : Nat} {xs : Nat → Int32} {D n : Nat} {I J : ex_Mem} {f : Int32} (hz : J 52 27 = nI 1) (hf : ¬ vK f) : ri L xs D 105 [.ref 52, .int f] (mkH n I J) (- nI 1) (mkH n I J) := by
  show xx cb_G _ _ _ 105 0 [.ref 52, .int f] [] _ _
  refine xi_aload_n (pc' := 1) rfl rfl rfl ?_
  refine xr_getiv (v := nI (1)) (pc' := 4) rfl rfl (by decide) (by decide) (hz) rfl ?_
  refine xi_iff (pc' := 7) (tg := 25) rfl rfl (by decide) rfl ?_
  refine xi_iload_n (pc' := 8) rfl rfl rfl ?_
  refine xx_if (pc' := 11) (tg := 25) rfl rfl rfl (fun q8 => ?_) (fun q8 => ?_)
  · refine xi_iconstm (pc' := 26) rfl rfl ?_
    refine xx_ireturn rfl rfl ?_
    exact ⟨rfl, rfl⟩
  · refine xi_iload_n (pc' := 12) rfl rfl rfl ?_
    refine xi_iconst (pc' := 13) rfl rfl ?_
    refine xx_icmp (pc' := 16) (tg := 25) rfl rfl rfl (fun q13 => ?_) (fun q13 => ?_)
    · refine xi_iconstm (pc' := 26) rfl rfl ?_
      refine xx_ireturn rfl rfl ?_
      exact ⟨rfl, rfl⟩
    · exact absurd ⟨Int32.not_lt.mp q8, Int32.not_le.mp q13⟩ hf
def vF (b kd k : Int32) : Prop := 0 ≤ b ∧ b ≤ nI 1 ∧ 0 ≤ kd ∧ kd ≤ nI 2 ∧ 0 ≤ k ∧ k ≤ nI 1000
theorem r_fault1 {L : Nat} {xs : Nat → Int32} {D n : Nat} {I J : ex_Mem} {b kd k : Nat} (hb : b < 2) (hkd : kd < 3) (hk : k ≤ 1000) : ri L xs D 106 [.ref 52, .int (nI b), .int (nI kd), .int (nI k)] (mkH n I J) (nI 1) (mkH n I (ex_wI (ex_wI (ex_wI J 53 b (nI 1)) 54 b (nI kd)) 55 b (nI k))) := by
  show xx cb_G _ _ _ 106 0 [.ref 52, .int (nI b), .int (nI kd), .int (nI k)] [] _ _
  refine xi_iload_n (pc' := 1) rfl rfl rfl ?_
  refine xx_if (pc' := 4) (tg := 29) rfl rfl rfl (fun q1 => absurd q1 (show ¬ ex_P .lt (nI b) 0 from nI_pos (by omega))) (fun q1 => ?_)
  refine xi_iload_n (pc' := 5) rfl rfl rfl ?_
  refine xi_iconst (pc' := 6) rfl rfl ?_
  refine xx_icmp (pc' := 9) (tg := 29) rfl rfl rfl (fun q6 => absurd q6 (show ¬ ex_P .gt (nI b) (nI 1) from nI_nlt (by omega) (by omega))) (fun q6 => ?_)
  refine xi_iload_n (pc' := 10) rfl rfl rfl ?_
  refine xx_if (pc' := 13) (tg := 29) rfl rfl rfl (fun q10 => absurd q10 (show ¬ ex_P .lt (nI kd) 0 from nI_pos (by omega))) (fun q10 => ?_)
  refine xi_iload_n (pc' := 14) rfl rfl rfl ?_
  refine xi_iconst (pc' := 15) rfl rfl ?_
  refine xx_icmp (pc' := 18) (tg := 29) rfl rfl rfl (fun q15 => absurd q15 (show ¬ ex_P .gt (nI kd) (nI 2) from nI_nlt (by omega) (by omega))) (fun q15 => ?_)
  refine xi_iload_n (pc' := 19) rfl rfl rfl ?_
  refine xx_if (pc' := 22) (tg := 29) rfl rfl rfl (fun q19 => absurd q19 (show ¬ ex_P .lt (nI k) 0 from nI_pos (by omega))) (fun q19 => ?_)
  refine xi_iload_n (pc' := 23) rfl rfl rfl ?_
  refine xi_sipush (pc' := 26) rfl (by decide) rfl ?_
  refine xx_icmp (pc' := 29) (tg := 31) rfl rfl rfl (fun q26 => ?_) (fun q26 => absurd (show ex_P .le (nI k) (nI 1000) from nI_le (by omega) (by decide)) q26)
  refine xi_aload_n (pc' := 32) rfl rfl rfl ?_
  refine xr_getp (pc' := 35) rfl rfl (by decide) rfl rfl rfl ?_
  refine xi_iload_n (pc' := 36) rfl rfl rfl ?_
  refine xi_iconst (pc' := 37) rfl rfl ?_
  refine xr_zast (j := b) (pc' := 38) rfl rfl (by decide) (by first | rfl | (simp only [ix_add, ix_mul, ix_pred]; done) | (simp only [ix_add, ix_mul, ix_pred, *]; done)) (by omega) (by decide) (by decide) rfl ?_
  refine xi_aload_n (pc' := 39) rfl rfl rfl ?_
  refine xr_getp (pc' := 42) rfl rfl (by decide) rfl rfl rfl ?_
  refine xi_iload_n (pc' := 43) rfl rfl rfl ?_
  refine xi_iload_n (pc' := 44) rfl rfl rfl ?_
  refine xr_iast (j := b) (pc' := 45) rfl rfl (by decide) (by first | rfl | (simp only [ix_add, ix_mul, ix_pred]; done) | (simp only [ix_add, ix_mul, ix_pred, *]; done)) (by omega) (by decide) rfl ?_
  refine xi_aload_n (pc' := 46) rfl rfl rfl ?_
  refine xr_getp (pc' := 49) rfl rfl (by decide) rfl rfl rfl ?_
  refine xi_iload_n (pc' := 50) rfl rfl rfl ?_
  refine xi_iload_n (pc' := 51) rfl rfl rfl ?_
  refine xr_iast (j := b) (pc' := 52) rfl rfl (by decide) (by first | rfl | (simp only [ix_add, ix_mul, ix_pred]; done) | (simp only [ix_add, ix_mul, ix_pred, *]; done)) (by omega) (by decide) rfl ?_
  refine xi_iconst (pc' := 53) rfl rfl ?_
  refine xx_zreturn rfl rfl (by first | rfl | assumption | exact b01_bI | simp [ex_b01, bI]) ?_
  exact ⟨rfl, rfl⟩
theorem r_fault0 {L : Nat} {xs : Nat → Int32} {D n : Nat} {I J : ex_Mem} {b kd k : Int32} (h : ¬ vF b kd k) : ri L xs D 106 [.ref 52, .int b, .int kd, .int k] (mkH n I J) (nI 0) (mkH n I J) := by
  show xx cb_G _ _ _ 106 0 [.ref 52, .int b, .int kd, .int k] [] _ _
  refine xi_iload_n (pc' := 1) rfl rfl rfl ?_
  refine xx_if (pc' := 4) (tg := 29) rfl rfl rfl (fun q1 => ?_) (fun q1 => ?_)
  · refine xi_iconst (pc' := 30) rfl rfl ?_
    refine xx_zreturn rfl rfl (by first | rfl | assumption | exact b01_bI | simp [ex_b01, bI]) ?_
    exact ⟨rfl, rfl⟩
  · refine xi_iload_n (pc' := 5) rfl rfl rfl ?_
    refine xi_iconst (pc' := 6) rfl rfl ?_
    refine xx_icmp (pc' := 9) (tg := 29) rfl rfl rfl (fun q6 => ?_) (fun q6 => ?_)
    · refine xi_iconst (pc' := 30) rfl rfl ?_
      refine xx_zreturn rfl rfl (by first | rfl | assumption | exact b01_bI | simp [ex_b01, bI]) ?_
      exact ⟨rfl, rfl⟩
    · refine xi_iload_n (pc' := 10) rfl rfl rfl ?_
      refine xx_if (pc' := 13) (tg := 29) rfl rfl rfl (fun q10 => ?_) (fun q10 => ?_)
      · refine xi_iconst (pc' := 30) rfl rfl ?_
        refine xx_zreturn rfl rfl (by first | rfl | assumption | exact b01_bI | simp [ex_b01, bI]) ?_
        exact ⟨rfl, rfl⟩
      · refine xi_iload_n (pc' := 14) rfl rfl rfl ?_
        refine xi_iconst (pc' := 15) rfl rfl ?_
        refine xx_icmp (pc' := 18) (tg := 29) rfl rfl rfl (fun q15 => ?_) (fun q15 => ?_)
        · refine xi_iconst (pc' := 30) rfl rfl ?_
          refine xx_zreturn rfl rfl (by first | rfl | assumption | exact b01_bI | simp [ex_b01, bI]) ?_
          exact ⟨rfl, rfl⟩
        · refine xi_iload_n (pc' := 19) rfl rfl rfl ?_
          refine xx_if (pc' := 22) (tg := 29) rfl rfl rfl (fun q19 => ?_) (fun q19 => ?_)
          · refine xi_iconst (pc' := 30) rfl rfl ?_
            refine xx_zreturn rfl rfl (by first | rfl | assumption | exact b01_bI | simp [ex_b01, bI]) ?_
            exact ⟨rfl, rfl⟩
          · refine xi_iload_n (pc' := 23) rfl rfl rfl ?_
            refine xi_sipush (pc' := 26) rfl (by decide) rfl ?_
            refine xx_icmp (pc' := 29) (tg := 31) rfl rfl rfl (fun q26 => ?_) (fun q26 => ?_)
            · exact absurd ⟨Int32.not_lt.mp q1, Int32.not_lt.mp q6, Int32.not_lt.mp q10, Int32.not_lt.mp q15, Int32.not_lt.mp q19, q26⟩ h
            · refine xi_iconst (pc' := 30) rfl rfl ?_
              refine xx_zreturn rfl rfl (by first | rfl | assumption | exact b01_bI | simp [ex_b01, bI]) ?_
              exact ⟨rfl, rfl⟩
def vH (hw : Nat) (i : Int32) : Prop := 0 ≤ i ∧ i < nI 60 ∧ i < nI hw
theorem r_heard1 {L : Nat} {xs : Nat → Int32} {D n : Nat} {I J : ex_Mem} {i hw : Nat} (hh : J 52 3 = nI hw) (h31 : hw < 2 ^ 31) (hi : i < 60) (hiw : i < hw) : ri L xs D 128 [.ref 52, .int (nI i)] (mkH n I J) (J 56 ((hw - 1 - i) % 60)) (mkH n I J) := by
  show xx cb_G _ _ _ 128 0 [.ref 52, .int (nI i)] [] _ _
  refine xi_iload_n (pc' := 1) rfl rfl rfl ?_
  refine xx_if (pc' := 4) (tg := 18) rfl rfl rfl (fun q1 => absurd q1 (show ¬ ex_P .lt (nI i) 0 from nI_pos (by omega))) (fun q1 => ?_)
  refine xi_iload_n (pc' := 5) rfl rfl rfl ?_
  refine xi_bipush (pc' := 7) rfl (by decide) rfl ?_
  refine xx_icmp (pc' := 10) (tg := 18) rfl rfl rfl (fun q7 => absurd q7 (show ¬ ex_P .ge (nI i) (nI 60) from nI_ge (by omega) (by decide))) (fun q7 => ?_)
  refine xi_iload_n (pc' := 11) rfl rfl rfl ?_
  refine xi_aload_n (pc' := 12) rfl rfl rfl ?_
  refine xr_getiv (v := nI (hw)) (pc' := 15) rfl rfl (by decide) (by decide) (hh) rfl ?_
  refine xx_icmp (pc' := 18) (tg := 20) rfl rfl rfl (fun q15 => ?_) (fun q15 => absurd (show ex_P .lt (nI i) (nI hw) from nI_lt hiw h31) q15)
  refine xi_aload_n (pc' := 21) rfl rfl rfl ?_
  refine xr_getp (pc' := 24) rfl rfl (by decide) rfl rfl rfl ?_
  refine xi_aload_n (pc' := 25) rfl rfl rfl ?_
  refine xr_getiv (v := nI (hw)) (pc' := 28) rfl rfl (by decide) (by decide) (hh) rfl ?_
  refine xi_iconst (pc' := 29) rfl rfl ?_
  refine xi_isub (pc' := 30) rfl rfl ?_
  refine xx_topi (y := nI (hw - 1)) (pk_sub (by omega)) ?_
  refine xi_iload_n (pc' := 31) rfl rfl rfl ?_
  refine xi_isub (pc' := 32) rfl rfl ?_
  refine xx_topi (y := nI (hw - 1 - i)) (pk_sub (by omega)) ?_
  refine xi_bipush (pc' := 34) rfl (by decide) rfl ?_
  refine xi_irem (pc' := 35) rfl (by decide) rfl ?_
  refine xx_topi (y := nI ((hw - 1 - i) % 60)) (ix_rem (by omega) (by decide) (by decide)) ?_
  refine xr_iald (j := (hw - 1 - i) % 60) (pc' := 36) rfl rfl (by decide) (by first | rfl | (simp only [ix_add, ix_mul, ix_pred]; done) | (simp only [ix_add, ix_mul, ix_pred, *]; done)) (Nat.mod_lt _ (by decide)) (by decide) rfl ?_
  refine xx_ireturn rfl rfl ?_
  exact ⟨rfl, rfl⟩
theorem r_heard0 {L : Nat} {xs : Nat → Int32} {D n : Nat} {I J : ex_Mem} {i : Int32} {hw : Nat} (hh : J 52 3 = nI hw) (h : ¬ vH hw i) : ri L xs D 128 [.ref 52, .int i] (mkH n I J) (- nI 1) (mkH n I J) := by
  show xx cb_G _ _ _ 128 0 [.ref 52, .int i] [] _ _
  refine xi_iload_n (pc' := 1) rfl rfl rfl ?_
  refine xx_if (pc' := 4) (tg := 18) rfl rfl rfl (fun q1 => ?_) (fun q1 => ?_)
  · refine xi_iconstm (pc' := 19) rfl rfl ?_
    refine xx_ireturn rfl rfl ?_
    exact ⟨rfl, rfl⟩
  · refine xi_iload_n (pc' := 5) rfl rfl rfl ?_
    refine xi_bipush (pc' := 7) rfl (by decide) rfl ?_
    refine xx_icmp (pc' := 10) (tg := 18) rfl rfl rfl (fun q7 => ?_) (fun q7 => ?_)
    · refine xi_iconstm (pc' := 19) rfl rfl ?_
      refine xx_ireturn rfl rfl ?_
      exact ⟨rfl, rfl⟩
    · refine xi_iload_n (pc' := 11) rfl rfl rfl ?_
      refine xi_aload_n (pc' := 12) rfl rfl rfl ?_
      refine xr_getiv (v := nI (hw)) (pc' := 15) rfl rfl (by decide) (by decide) (hh) rfl ?_
      refine xx_icmp (pc' := 18) (tg := 20) rfl rfl rfl (fun q15 => ?_) (fun q15 => ?_)
      · exact absurd ⟨Int32.not_lt.mp q1, Int32.not_le.mp q7, q15⟩ h
      · refine xi_iconstm (pc' := 19) rfl rfl ?_
        refine xx_ireturn rfl rfl ?_
        exact ⟨rfl, rfl⟩
def r_len (J : ex_Mem) (m : Nat) : Int32 :=
  if J 69 m = nI 0 ∨ J 69 m = nI 1 then nI 3 * (nI 20 * (J 73 m + nI 2) + nI 10)
  else if J 69 m = nI 2 then nI 3 * (nI 20 * (J 73 m + nI 4) + nI 20)
  else if J 69 m = nI 3 then nI 60 * (J 73 m + nI 1)
  else nI 3 * (nI 20 * (if J 73 m = nI 18 then nI 3 else nI 2) + nI 10)
theorem r_len_0 {L : Nat} {xs : Nat → Int32} {D n : Nat} {I J : ex_Mem} {m : Nat} (hm : m < 8) (hk : J 69 m = nI 0) : ri L xs D 103 [.ref 52, .int (nI m)] (mkH n I J) (r_len J m) (mkH n I J) := by
  show xx cb_G _ _ _ 103 0 [.ref 52, .int (nI m), ex_no] [] _ _
  refine xi_aload_n (pc' := 1) rfl rfl rfl ?_
  refine xr_getp (pc' := 4) rfl rfl (by decide) rfl rfl rfl ?_
  refine xi_iload_n (pc' := 5) rfl rfl rfl ?_
  refine xr_iald (j := m) (pc' := 6) rfl rfl (by decide) (by first | rfl | (simp only [ix_add, ix_mul, ix_pred]; done) | (simp only [ix_add, ix_mul, ix_pred, *]; done)) (by omega) (by decide) rfl ?_
  refine xi_istore_n (pc' := 7) rfl (st1_2 rfl) rfl ?_
  refine xi_aload_n (pc' := 8) rfl rfl rfl ?_
  refine xr_getp (pc' := 11) rfl rfl (by decide) rfl rfl rfl ?_
  refine xi_iload_n (pc' := 12) rfl rfl rfl ?_
  refine xr_ialdv (v := nI (0)) (j := m) (pc' := 13) rfl rfl (by decide) (by first | rfl | (simp only [ix_add, ix_mul, ix_pred]; done) | (simp only [ix_add, ix_mul, ix_pred, *]; done)) (by omega) (by decide) (hk) rfl ?_
  refine xi_switch (off := .ofNat 31) (pc' := 44) rfl (by decide) (by decide) rfl ?_
  refine xi_iconst (pc' := 45) rfl rfl ?_
  refine xi_bipush (pc' := 47) rfl (by decide) rfl ?_
  refine xi_iload_n (pc' := 48) rfl rfl rfl ?_
  refine xi_iconst (pc' := 49) rfl rfl ?_
  refine xi_iadd (pc' := 50) rfl rfl ?_
  refine xi_imul (pc' := 51) rfl rfl ?_
  refine xi_bipush (pc' := 53) rfl (by decide) rfl ?_
  refine xi_iadd (pc' := 54) rfl rfl ?_
  refine xi_imul (pc' := 55) rfl rfl ?_
  refine xx_ireturn rfl rfl ?_
  simp only [ex_P, Classical.not_not, ↓reduceIte, Nat.add_zero, or_true, true_or, not_true_eq_false, not_false_eq_true, or_false, false_or, wI_get, false_and, true_and, and_true, and_false, and_self, Nat.reduceEqDiff, Nat.succ_ne_zero, reduceCtorEq, nI_lit, nI_lit0, Nat.reduceLT] at *
  first | (simp only [r_len, *, ↓reduceIte, Nat.add_zero, or_true, true_or, not_true_eq_false, not_false_eq_true, or_false, false_or, wI_get, false_and, true_and, and_true, and_false, and_self, Nat.reduceEqDiff, Nat.succ_ne_zero, reduceCtorEq, nI_lit, nI_lit0, Nat.reduceLT]; done) | (exfalso; simp_all only [↓reduceIte, Nat.add_zero, or_true, true_or, not_true_eq_false, not_false_eq_true, or_false, false_or, wI_get, false_and, true_and, and_true, and_false, and_self, Nat.reduceEqDiff, Nat.succ_ne_zero, reduceCtorEq, nI_lit, nI_lit0, Nat.reduceLT]; done)
theorem r_len_1 {L : Nat} {xs : Nat → Int32} {D n : Nat} {I J : ex_Mem} {m : Nat} (hm : m < 8) (hk : J 69 m = nI 1) : ri L xs D 103 [.ref 52, .int (nI m)] (mkH n I J) (r_len J m) (mkH n I J) := by
  show xx cb_G _ _ _ 103 0 [.ref 52, .int (nI m), ex_no] [] _ _
  refine xi_aload_n (pc' := 1) rfl rfl rfl ?_
  refine xr_getp (pc' := 4) rfl rfl (by decide) rfl rfl rfl ?_
  refine xi_iload_n (pc' := 5) rfl rfl rfl ?_
  refine xr_iald (j := m) (pc' := 6) rfl rfl (by decide) (by first | rfl | (simp only [ix_add, ix_mul, ix_pred]; done) | (simp only [ix_add, ix_mul, ix_pred, *]; done)) (by omega) (by decide) rfl ?_
  refine xi_istore_n (pc' := 7) rfl (st1_2 rfl) rfl ?_
  refine xi_aload_n (pc' := 8) rfl rfl rfl ?_
  refine xr_getp (pc' := 11) rfl rfl (by decide) rfl rfl rfl ?_
  refine xi_iload_n (pc' := 12) rfl rfl rfl ?_
  refine xr_ialdv (v := nI (1)) (j := m) (pc' := 13) rfl rfl (by decide) (by first | rfl | (simp only [ix_add, ix_mul, ix_pred]; done) | (simp only [ix_add, ix_mul, ix_pred, *]; done)) (by omega) (by decide) (hk) rfl ?_
  refine xi_switch (off := .ofNat 31) (pc' := 44) rfl (by decide) (by decide) rfl ?_
  refine xi_iconst (pc' := 45) rfl rfl ?_
  refine xi_bipush (pc' := 47) rfl (by decide) rfl ?_
  refine xi_iload_n (pc' := 48) rfl rfl rfl ?_
  refine xi_iconst (pc' := 49) rfl rfl ?_
  refine xi_iadd (pc' := 50) rfl rfl ?_
  refine xi_imul (pc' := 51) rfl rfl ?_
  refine xi_bipush (pc' := 53) rfl (by decide) rfl ?_
  refine xi_iadd (pc' := 54) rfl rfl ?_
  refine xi_imul (pc' := 55) rfl rfl ?_
  refine xx_ireturn rfl rfl ?_
  simp only [ex_P, Classical.not_not, ↓reduceIte, Nat.add_zero, or_true, true_or, not_true_eq_false, not_false_eq_true, or_false, false_or, wI_get, false_and, true_and, and_true, and_false, and_self, Nat.reduceEqDiff, Nat.succ_ne_zero, reduceCtorEq, nI_lit, nI_lit0, Nat.reduceLT] at *
  first | (simp only [r_len, *, ↓reduceIte, Nat.add_zero, or_true, true_or, not_true_eq_false, not_false_eq_true, or_false, false_or, wI_get, false_and, true_and, and_true, and_false, and_self, Nat.reduceEqDiff, Nat.succ_ne_zero, reduceCtorEq, nI_lit, nI_lit0, Nat.reduceLT]; done) | (exfalso; simp_all only [↓reduceIte, Nat.add_zero, or_true, true_or, not_true_eq_false, not_false_eq_true, or_false, false_or, wI_get, false_and, true_and, and_true, and_false, and_self, Nat.reduceEqDiff, Nat.succ_ne_zero, reduceCtorEq, nI_lit, nI_lit0, Nat.reduceLT]; done)
theorem r_len_2 {L : Nat} {xs : Nat → Int32} {D n : Nat} {I J : ex_Mem} {m : Nat} (hm : m < 8) (hk : J 69 m = nI 2) : ri L xs D 103 [.ref 52, .int (nI m)] (mkH n I J) (r_len J m) (mkH n I J) := by
  show xx cb_G _ _ _ 103 0 [.ref 52, .int (nI m), ex_no] [] _ _
  refine xi_aload_n (pc' := 1) rfl rfl rfl ?_
  refine xr_getp (pc' := 4) rfl rfl (by decide) rfl rfl rfl ?_
  refine xi_iload_n (pc' := 5) rfl rfl rfl ?_
  refine xr_iald (j := m) (pc' := 6) rfl rfl (by decide) (by first | rfl | (simp only [ix_add, ix_mul, ix_pred]; done) | (simp only [ix_add, ix_mul, ix_pred, *]; done)) (by omega) (by decide) rfl ?_
  refine xi_istore_n (pc' := 7) rfl (st1_2 rfl) rfl ?_
  refine xi_aload_n (pc' := 8) rfl rfl rfl ?_
  refine xr_getp (pc' := 11) rfl rfl (by decide) rfl rfl rfl ?_
  refine xi_iload_n (pc' := 12) rfl rfl rfl ?_
  refine xr_ialdv (v := nI (2)) (j := m) (pc' := 13) rfl rfl (by decide) (by first | rfl | (simp only [ix_add, ix_mul, ix_pred]; done) | (simp only [ix_add, ix_mul, ix_pred, *]; done)) (by omega) (by decide) (hk) rfl ?_
  refine xi_switch (off := .ofNat 43) (pc' := 56) rfl (by decide) (by decide) rfl ?_
  refine xi_iconst (pc' := 57) rfl rfl ?_
  refine xi_bipush (pc' := 59) rfl (by decide) rfl ?_
  refine xi_iload_n (pc' := 60) rfl rfl rfl ?_
  refine xi_iconst (pc' := 61) rfl rfl ?_
  refine xi_iadd (pc' := 62) rfl rfl ?_
  refine xi_imul (pc' := 63) rfl rfl ?_
  refine xi_bipush (pc' := 65) rfl (by decide) rfl ?_
  refine xi_iadd (pc' := 66) rfl rfl ?_
  refine xi_imul (pc' := 67) rfl rfl ?_
  refine xx_ireturn rfl rfl ?_
  simp only [ex_P, Classical.not_not, ↓reduceIte, Nat.add_zero, or_true, true_or, not_true_eq_false, not_false_eq_true, or_false, false_or, wI_get, false_and, true_and, and_true, and_false, and_self, Nat.reduceEqDiff, Nat.succ_ne_zero, reduceCtorEq, nI_lit, nI_lit0, Nat.reduceLT] at *
  first | (simp only [r_len, *, ↓reduceIte, Nat.add_zero, or_true, true_or, not_true_eq_false, not_false_eq_true, or_false, false_or, wI_get, false_and, true_and, and_true, and_false, and_self, Nat.reduceEqDiff, Nat.succ_ne_zero, reduceCtorEq, nI_lit, nI_lit0, Nat.reduceLT]; done) | (exfalso; simp_all only [↓reduceIte, Nat.add_zero, or_true, true_or, not_true_eq_false, not_false_eq_true, or_false, false_or, wI_get, false_and, true_and, and_true, and_false, and_self, Nat.reduceEqDiff, Nat.succ_ne_zero, reduceCtorEq, nI_lit, nI_lit0, Nat.reduceLT]; done)
theorem r_len_3 {L : Nat} {xs : Nat → Int32} {D n : Nat} {I J : ex_Mem} {m : Nat} (hm : m < 8) (hk : J 69 m = nI 3) : ri L xs D 103 [.ref 52, .int (nI m)] (mkH n I J) (r_len J m) (mkH n I J) := by
  show xx cb_G _ _ _ 103 0 [.ref 52, .int (nI m), ex_no] [] _ _
  refine xi_aload_n (pc' := 1) rfl rfl rfl ?_
  refine xr_getp (pc' := 4) rfl rfl (by decide) rfl rfl rfl ?_
  refine xi_iload_n (pc' := 5) rfl rfl rfl ?_
  refine xr_iald (j := m) (pc' := 6) rfl rfl (by decide) (by first | rfl | (simp only [ix_add, ix_mul, ix_pred]; done) | (simp only [ix_add, ix_mul, ix_pred, *]; done)) (by omega) (by decide) rfl ?_
  refine xi_istore_n (pc' := 7) rfl (st1_2 rfl) rfl ?_
  refine xi_aload_n (pc' := 8) rfl rfl rfl ?_
  refine xr_getp (pc' := 11) rfl rfl (by decide) rfl rfl rfl ?_
  refine xi_iload_n (pc' := 12) rfl rfl rfl ?_
  refine xr_ialdv (v := nI (3)) (j := m) (pc' := 13) rfl rfl (by decide) (by first | rfl | (simp only [ix_add, ix_mul, ix_pred]; done) | (simp only [ix_add, ix_mul, ix_pred, *]; done)) (by omega) (by decide) (hk) rfl ?_
  refine xi_switch (off := .ofNat 55) (pc' := 68) rfl (by decide) (by decide) rfl ?_
  refine xi_bipush (pc' := 70) rfl (by decide) rfl ?_
  refine xi_iload_n (pc' := 71) rfl rfl rfl ?_
  refine xi_iconst (pc' := 72) rfl rfl ?_
  refine xi_iadd (pc' := 73) rfl rfl ?_
  refine xi_imul (pc' := 74) rfl rfl ?_
  refine xx_ireturn rfl rfl ?_
  simp only [ex_P, Classical.not_not, ↓reduceIte, Nat.add_zero, or_true, true_or, not_true_eq_false, not_false_eq_true, or_false, false_or, wI_get, false_and, true_and, and_true, and_false, and_self, Nat.reduceEqDiff, Nat.succ_ne_zero, reduceCtorEq, nI_lit, nI_lit0, Nat.reduceLT] at *
  first | (simp only [r_len, *, ↓reduceIte, Nat.add_zero, or_true, true_or, not_true_eq_false, not_false_eq_true, or_false, false_or, wI_get, false_and, true_and, and_true, and_false, and_self, Nat.reduceEqDiff, Nat.succ_ne_zero, reduceCtorEq, nI_lit, nI_lit0, Nat.reduceLT]; done) | (exfalso; simp_all only [↓reduceIte, Nat.add_zero, or_true, true_or, not_true_eq_false, not_false_eq_true, or_false, false_or, wI_get, false_and, true_and, and_true, and_false, and_self, Nat.reduceEqDiff, Nat.succ_ne_zero, reduceCtorEq, nI_lit, nI_lit0, Nat.reduceLT]; done)
theorem r_len_4 {L : Nat} {xs : Nat → Int32} {D n : Nat} {I J : ex_Mem} {m : Nat} (hm : m < 8) (hk : J 69 m = nI 4) : ri L xs D 103 [.ref 52, .int (nI m)] (mkH n I J) (r_len J m) (mkH n I J) := by
  show xx cb_G _ _ _ 103 0 [.ref 52, .int (nI m), ex_no] [] _ _
  refine xi_aload_n (pc' := 1) rfl rfl rfl ?_
  refine xr_getp (pc' := 4) rfl rfl (by decide) rfl rfl rfl ?_
  refine xi_iload_n (pc' := 5) rfl rfl rfl ?_
  refine xr_iald (j := m) (pc' := 6) rfl rfl (by decide) (by first | rfl | (simp only [ix_add, ix_mul, ix_pred]; done) | (simp only [ix_add, ix_mul, ix_pred, *]; done)) (by omega) (by decide) rfl ?_
  refine xi_istore_n (pc' := 7) rfl (st1_2 rfl) rfl ?_
  refine xi_aload_n (pc' := 8) rfl rfl rfl ?_
  refine xr_getp (pc' := 11) rfl rfl (by decide) rfl rfl rfl ?_
  refine xi_iload_n (pc' := 12) rfl rfl rfl ?_
  refine xr_ialdv (v := nI (4)) (j := m) (pc' := 13) rfl rfl (by decide) (by first | rfl | (simp only [ix_add, ix_mul, ix_pred]; done) | (simp only [ix_add, ix_mul, ix_pred, *]; done)) (by omega) (by decide) (hk) rfl ?_
  refine xi_switchD (pc' := 75) rfl (by decide) rfl ?_
  refine xi_iconst (pc' := 76) rfl rfl ?_
  refine xi_bipush (pc' := 78) rfl (by decide) rfl ?_
  refine xi_iload_n (pc' := 79) rfl rfl rfl ?_
  refine xi_bipush (pc' := 81) rfl (by decide) rfl ?_
  refine xx_icmp (pc' := 84) (tg := 88) rfl rfl rfl (fun q81 => ?_) (fun q81 => ?_)
  · refine xi_iconst (pc' := 89) rfl rfl ?_
    refine xi_imul (pc' := 90) rfl rfl ?_
    refine xi_bipush (pc' := 92) rfl (by decide) rfl ?_
    refine xi_iadd (pc' := 93) rfl rfl ?_
    refine xi_imul (pc' := 94) rfl rfl ?_
    refine xx_ireturn rfl rfl ?_
    simp only [ex_P, Classical.not_not, ↓reduceIte, Nat.add_zero, or_true, true_or, not_true_eq_false, not_false_eq_true, or_false, false_or, wI_get, false_and, true_and, and_true, and_false, and_self, Nat.reduceEqDiff, Nat.succ_ne_zero, reduceCtorEq, nI_lit, nI_lit0, Nat.reduceLT] at *
    first | (simp only [r_len, *, ↓reduceIte, Nat.add_zero, or_true, true_or, not_true_eq_false, not_false_eq_true, or_false, false_or, wI_get, false_and, true_and, and_true, and_false, and_self, Nat.reduceEqDiff, Nat.succ_ne_zero, reduceCtorEq, nI_lit, nI_lit0, Nat.reduceLT]; done) | (exfalso; simp_all only [↓reduceIte, Nat.add_zero, or_true, true_or, not_true_eq_false, not_false_eq_true, or_false, false_or, wI_get, false_and, true_and, and_true, and_false, and_self, Nat.reduceEqDiff, Nat.succ_ne_zero, reduceCtorEq, nI_lit, nI_lit0, Nat.reduceLT]; done)
  · refine xi_iconst (pc' := 85) rfl rfl ?_
    refine xi_goto (pc' := 89) rfl rfl ?_
    refine xi_imul (pc' := 90) rfl rfl ?_
    refine xi_bipush (pc' := 92) rfl (by decide) rfl ?_
    refine xi_iadd (pc' := 93) rfl rfl ?_
    refine xi_imul (pc' := 94) rfl rfl ?_
    refine xx_ireturn rfl rfl ?_
    simp only [ex_P, Classical.not_not, ↓reduceIte, Nat.add_zero, or_true, true_or, not_true_eq_false, not_false_eq_true, or_false, false_or, wI_get, false_and, true_and, and_true, and_false, and_self, Nat.reduceEqDiff, Nat.succ_ne_zero, reduceCtorEq, nI_lit, nI_lit0, Nat.reduceLT] at *
    first | (simp only [r_len, *, ↓reduceIte, Nat.add_zero, or_true, true_or, not_true_eq_false, not_false_eq_true, or_false, false_or, wI_get, false_and, true_and, and_true, and_false, and_self, Nat.reduceEqDiff, Nat.succ_ne_zero, reduceCtorEq, nI_lit, nI_lit0, Nat.reduceLT]; done) | (exfalso; simp_all only [↓reduceIte, Nat.add_zero, or_true, true_or, not_true_eq_false, not_false_eq_true, or_false, false_or, wI_get, false_and, true_and, and_true, and_false, and_self, Nat.reduceEqDiff, Nat.succ_ne_zero, reduceCtorEq, nI_lit, nI_lit0, Nat.reduceLT]; done)
theorem r_len_ok {L : Nat} {xs : Nat → Int32} {D n : Nat} {I J : ex_Mem} {m : Nat} (hm : m < 8) (hv : vMsg J m) : ri L xs D 103 [.ref 52, .int (nI m)] (mkH n I J) (r_len J m) (mkH n I J) := by
  obtain ⟨k1, k2, -⟩ := hv
  rcases (by omega : tk J 69 m = 0 ∨ tk J 69 m = 1 ∨ tk J 69 m = 2 ∨ tk J 69 m = 3 ∨ tk J 69 m = 4) with h | h | h | h | h <;> rw [h] at k1
  · exact r_len_0 hm k1
  · exact r_len_1 hm k1
  · exact r_len_2 hm k1
  · exact r_len_3 hm k1
  · exact r_len_4 hm k1
/-- a message's period -/
def vPer (J : ex_Mem) (m : Nat) : Prop := J 74 m = nI (tk J 74 m) ∧ (tk J 74 m = 1 ∨ tk J 74 m = 2 ∨ tk J 74 m = 4)
def r_isIn (J : ex_Mem) (m f : Nat) : Int32 := if nI (f % tk J 74 m) = J 75 m then nI 1 else nI 0
theorem r_isIn_ok {L : Nat} {xs : Nat → Int32} {D n : Nat} {I J : ex_Mem} {m f : Nat} (hm : m < 8) (hf : f < 4) (hp : vPer J m) : ri L xs D 102 [.ref 52, .int (nI m), .int (nI f)] (mkH n I J) (r_isIn J m f) (mkH n I J) := by
  show xx cb_G _ _ _ 102 0 [.ref 52, .int (nI m), .int (nI f)] [] _ _
  refine xi_iload_n (pc' := 1) rfl rfl rfl ?_
  refine xi_aload_n (pc' := 2) rfl rfl rfl ?_
  refine xr_getp (pc' := 5) rfl rfl (by decide) rfl rfl rfl ?_
  refine xi_iload_n (pc' := 6) rfl rfl rfl ?_
  refine xr_ialdv (v := nI (tk J 74 m)) (j := m) (pc' := 7) rfl rfl (by decide) (by first | rfl | (simp only [ix_add, ix_mul, ix_pred]; done) | (simp only [ix_add, ix_mul, ix_pred, *]; done)) (by omega) (by decide) (hp.1) rfl ?_
  refine xi_irem (pc' := 8) rfl (nI_ne0 (by have := hp.2; omega) (by have := hp.2; omega)) rfl ?_
  refine xx_topi (y := nI (f % tk J 74 m)) (ix_rem (by omega) (by have := hp.2; omega) (by have := hp.2; omega)) ?_
  refine xi_aload_n (pc' := 9) rfl rfl rfl ?_
  refine xr_getp (pc' := 12) rfl rfl (by decide) rfl rfl rfl ?_
  refine xi_iload_n (pc' := 13) rfl rfl rfl ?_
  refine xr_iald (j := m) (pc' := 14) rfl rfl (by decide) (by first | rfl | (simp only [ix_add, ix_mul, ix_pred]; done) | (simp only [ix_add, ix_mul, ix_pred, *]; done)) (by omega) (by decide) rfl ?_
  refine xx_icmp (pc' := 17) (tg := 21) rfl rfl rfl (fun q14 => ?_) (fun q14 => ?_)
  · refine xi_iconst (pc' := 22) rfl rfl ?_
    refine xx_zreturn rfl rfl (by first | rfl | assumption | exact b01_bI | simp [ex_b01, bI]) ?_
    simp only [ex_P, Classical.not_not, ↓reduceIte, Nat.add_zero, or_true, true_or, not_true_eq_false, not_false_eq_true, or_false, false_or, wI_get, false_and, true_and, and_true, and_false, and_self, Nat.reduceEqDiff, Nat.succ_ne_zero, reduceCtorEq, nI_lit, nI_lit0, Nat.reduceLT] at *
    first | (simp only [r_isIn, *, ↓reduceIte, Nat.add_zero, or_true, true_or, not_true_eq_false, not_false_eq_true, or_false, false_or, wI_get, false_and, true_and, and_true, and_false, and_self, Nat.reduceEqDiff, Nat.succ_ne_zero, reduceCtorEq, nI_lit, nI_lit0, Nat.reduceLT]; done) | (exfalso; simp_all only [↓reduceIte, Nat.add_zero, or_true, true_or, not_true_eq_false, not_false_eq_true, or_false, false_or, wI_get, false_and, true_and, and_true, and_false, and_self, Nat.reduceEqDiff, Nat.succ_ne_zero, reduceCtorEq, nI_lit, nI_lit0, Nat.reduceLT]; done)
  · refine xi_iconst (pc' := 18) rfl rfl ?_
    refine xi_goto (pc' := 22) rfl rfl ?_
    refine xx_zreturn rfl rfl (by first | rfl | assumption | exact b01_bI | simp [ex_b01, bI]) ?_
    simp only [ex_P, Classical.not_not, ↓reduceIte, Nat.add_zero, or_true, true_or, not_true_eq_false, not_false_eq_true, or_false, false_or, wI_get, false_and, true_and, and_true, and_false, and_self, Nat.reduceEqDiff, Nat.succ_ne_zero, reduceCtorEq, nI_lit, nI_lit0, Nat.reduceLT] at *
    first | (simp only [r_isIn, *, ↓reduceIte, Nat.add_zero, or_true, true_or, not_true_eq_false, not_false_eq_true, or_false, false_or, wI_get, false_and, true_and, and_true, and_false, and_self, Nat.reduceEqDiff, Nat.succ_ne_zero, reduceCtorEq, nI_lit, nI_lit0, Nat.reduceLT]; done) | (exfalso; simp_all only [↓reduceIte, Nat.add_zero, or_true, true_or, not_true_eq_false, not_false_eq_true, or_false, false_or, wI_get, false_and, true_and, and_true, and_false, and_self, Nat.reduceEqDiff, Nat.succ_ne_zero, reduceCtorEq, nI_lit, nI_lit0, Nat.reduceLT]; done)
def r_load (J : ex_Mem) (f : Nat) : Nat → Int32
  | 0 => nI 0
  | m + 1 => r_load J f m + (if r_isIn J m f = 0 then nI 0 else r_len J m)
theorem r_load_loop {L : Nat} {xs : Nat → Int32} {D n : Nat} {I J : ex_Mem} {f nm : Nat} (hf : f < 4) (h8 : nm ≤ 8) (hv : ∀ m, m < nm → vMsg J m) (hp : ∀ m, m < nm → vPer J m) : ∀ (j m : Nat), m + j = nm → xx cb_G L xs (D + 1) 101 5 [.ref 52, .int (nI f), .int (nI nm), .int (r_load J f m), .int (nI m)] [] (mkH n I J) (fun r h => r = some (.int (r_load J f nm)) ∧ h = mkH n I J) := by
  intro j
  induction j with
  | zero =>
    intro m hm
    have hm : m = nm := by omega
    subst hm
    refine xi_iload (pc' := 7) rfl rfl rfl ?_
    refine xi_iload_n (pc' := 8) rfl rfl rfl ?_
    refine xx_icmp (pc' := 11) (tg := 40) rfl rfl rfl (fun q8 => ?_) (fun q8 => absurd (show ex_P .ge (nI m) (nI m) from Int32.le_refl _) q8)
    refine xi_iload_n (pc' := 41) rfl rfl rfl ?_
    refine xx_ireturn rfl rfl ?_
    exact ⟨rfl, rfl⟩
  | succ j ih =>
    intro m hm
    refine xi_iload (pc' := 7) rfl rfl rfl ?_
    refine xi_iload_n (pc' := 8) rfl rfl rfl ?_
    refine xx_icmp (pc' := 11) (tg := 40) rfl rfl rfl (fun q8 => absurd q8 (show ¬ ex_P .ge (nI m) (nI nm) from nI_ge (by omega) (by omega))) (fun q8 => ?_)
    refine xi_iload_n (pc' := 12) rfl rfl rfl ?_
    refine xi_aload_n (pc' := 13) rfl rfl rfl ?_
    refine xi_iload (pc' := 15) rfl rfl rfl ?_
    refine xi_iload_n (pc' := 16) rfl rfl rfl ?_
    refine xx_callVi (pc' := 19) rfl rfl (by decide) rfl rfl (by show _ < 81 + 2 * _; omega) (Nat.le_of_ble_eq_true rfl) rfl rfl (r_isIn_ok (by omega) hf (hp m (by omega))) ?_
    refine xx_if (pc' := 22) (tg := 31) rfl rfl rfl (fun q19 => ?_) (fun q19 => ?_)
    · refine xi_iconst (pc' := 32) rfl rfl ?_
      refine xi_iadd (pc' := 33) rfl rfl ?_
      refine xi_istore_n (pc' := 34) rfl (st1_3 rfl) rfl ?_
      refine xi_iincv (y := nI (m + 1)) (pc' := 37) rfl rfl (ix_add _ _) (st1_4 rfl) rfl ?_
      refine xi_goto (pc' := 5) rfl rfl ?_
      have e := ih (m + 1) (by omega)
      rw [show r_load J f (m + 1) = r_load J f m + (if r_isIn J m f = 0 then nI 0 else r_len J m) from rfl] at e
      simp only [ex_P] at q19
      simp only [q19, ↓reduceIte] at e
      exact e
    · refine xi_aload_n (pc' := 23) rfl rfl rfl ?_
      refine xi_iload (pc' := 25) rfl rfl rfl ?_
      refine xx_callVi (pc' := 28) rfl rfl (by decide) rfl rfl (by show _ < 81 + 2 * _; omega) (Nat.le_of_ble_eq_true rfl) rfl rfl (r_len_ok (by omega) (hv m (by omega))) ?_
      refine xi_goto (pc' := 32) rfl rfl ?_
      refine xi_iadd (pc' := 33) rfl rfl ?_
      refine xi_istore_n (pc' := 34) rfl (st1_3 rfl) rfl ?_
      refine xi_iincv (y := nI (m + 1)) (pc' := 37) rfl rfl (ix_add _ _) (st1_4 rfl) rfl ?_
      refine xi_goto (pc' := 5) rfl rfl ?_
      have e := ih (m + 1) (by omega)
      rw [show r_load J f (m + 1) = r_load J f m + (if r_isIn J m f = 0 then nI 0 else r_len J m) from rfl] at e
      simp only [ex_P] at q19
      simp only [q19, ↓reduceIte] at e
      exact e
theorem r_loadOf_ok {L : Nat} {xs : Nat → Int32} {D n : Nat} {I J : ex_Mem} {f nm : Nat} (hf : f < 4) (h8 : nm ≤ 8) (hv : ∀ m, m < nm → vMsg J m) (hp : ∀ m, m < nm → vPer J m) : ri L xs (D + 1) 101 [.ref 52, .int (nI f), .int (nI nm)] (mkH n I J) (r_load J f nm) (mkH n I J) := by
  show xx cb_G _ _ _ 101 0 [.ref 52, .int (nI f), .int (nI nm), ex_no, ex_no] [] _ _
  refine xi_iconst (pc' := 1) rfl rfl ?_
  refine xi_istore_n (pc' := 2) rfl (st1_3 rfl) rfl ?_
  refine xi_iconst (pc' := 3) rfl rfl ?_
  refine xi_istore (pc' := 5) rfl (st1_4 rfl) rfl ?_
  exact r_load_loop hf h8 hv hp nm 0 (by omega)
end
