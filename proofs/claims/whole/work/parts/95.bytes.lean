/-! the bytes say what my tables say -/
def cb_sw : Instr → Bool
  | .tableswitch _ _ _ _ => true
  | _ => false
def cb_decB (cc : ByteArray) (pc : Nat) (ins : Instr) : Bool := match decode cc pc with
  | .ok (i, n) => decide (i = ins) && (cb_sw ins || n == ex_len ins)
  | _ => false
theorem cb_decP {cc : ByteArray} {pc : Nat} {ins : Instr} (h : cb_decB cc pc ins = true) : ex_dec cc pc ins := by
  unfold cb_decB at h
  split at h
  · rename_i i n hd
    simp only [Bool.and_eq_true, Bool.or_eq_true, decide_eq_true_eq, beq_iff_eq] at h
    obtain ⟨rfl, h2⟩ := h
    cases i with
    | tableswitch a b c d => exact ⟨n, hd⟩
    | _ =>
      rcases h2 with h2 | h2
      · cases h2
      · subst h2
        exact hd
  · cases h
theorem ex_look_mem {α : Type} {l : List (Nat × α)} {i : Nat} {r : α} (h : ex_look l i = some r) : (i, r) ∈ l := by
  induction l with
  | nil => cases h
  | cons q t ih =>
    unfold ex_look at h
    split at h
    · rename_i hq
      cases h
      subst hq
      exact List.mem_cons_self
    · exact List.mem_cons_of_mem _ (ih h)
theorem cb_dec_of {y : Nat} (h : ∀ q ∈ cb_cd y, cb_decB (cb_bt y) q.1 q.2 = true) : ∀ pc ins, ex_look (ex_cd cb_G y) pc = some ins → ex_dec (cb_bt y) pc ins := fun pc ins hl => cb_decP (h (pc, ins) (ex_look_mem hl))
theorem all_take {α : Type} {P : α → Bool} (l : List α) (n : Nat) (h1 : (l.take n).all P = true) (h2 : (l.drop n).all P = true) : l.all P = true := by
  rw [← List.take_append_drop n l, List.all_append, h1, h2]; rfl
theorem dc_0_0 : ((cd_0.drop 0).take 50).all (fun q => cb_decB (cb_bt 0) q.1 q.2) = true := by decide +kernel
theorem dc_0_1 : ((cd_0.drop 50).take 50).all (fun q => cb_decB (cb_bt 0) q.1 q.2) = true := by decide +kernel
theorem dc_0_2 : ((cd_0.drop 100).take 50).all (fun q => cb_decB (cb_bt 0) q.1 q.2) = true := by decide +kernel
theorem dc_0_3 : ((cd_0.drop 150).take 50).all (fun q => cb_decB (cb_bt 0) q.1 q.2) = true := by decide +kernel
theorem dc_0_4 : ((cd_0.drop 200).take 50).all (fun q => cb_decB (cb_bt 0) q.1 q.2) = true := by decide +kernel
theorem dc_0_5 : ((cd_0.drop 250).take 50).all (fun q => cb_decB (cb_bt 0) q.1 q.2) = true := by decide +kernel
theorem dc_0_6 : ((cd_0.drop 300).take 50).all (fun q => cb_decB (cb_bt 0) q.1 q.2) = true := by decide +kernel
theorem dc_0_7 : ((cd_0.drop 350).take 50).all (fun q => cb_decB (cb_bt 0) q.1 q.2) = true := by decide +kernel
theorem dc_0_8 : ((cd_0.drop 400).take 50).all (fun q => cb_decB (cb_bt 0) q.1 q.2) = true := by decide +kernel
theorem dc_0_9 : ((cd_0.drop 450).take 50).all (fun q => cb_decB (cb_bt 0) q.1 q.2) = true := by decide +kernel
theorem dc_0_10 : (cd_0.drop 500).all (fun q => cb_decB (cb_bt 0) q.1 q.2) = true := by decide +kernel
theorem dd_0_9 : (cd_0.drop 450).all (fun q => cb_decB (cb_bt 0) q.1 q.2) = true := all_take _ 50 dc_0_9 (by rw [List.drop_drop]; exact dc_0_10)
theorem dd_0_8 : (cd_0.drop 400).all (fun q => cb_decB (cb_bt 0) q.1 q.2) = true := all_take _ 50 dc_0_8 (by rw [List.drop_drop]; exact dd_0_9)
theorem dd_0_7 : (cd_0.drop 350).all (fun q => cb_decB (cb_bt 0) q.1 q.2) = true := all_take _ 50 dc_0_7 (by rw [List.drop_drop]; exact dd_0_8)
theorem dd_0_6 : (cd_0.drop 300).all (fun q => cb_decB (cb_bt 0) q.1 q.2) = true := all_take _ 50 dc_0_6 (by rw [List.drop_drop]; exact dd_0_7)
theorem dd_0_5 : (cd_0.drop 250).all (fun q => cb_decB (cb_bt 0) q.1 q.2) = true := all_take _ 50 dc_0_5 (by rw [List.drop_drop]; exact dd_0_6)
theorem dd_0_4 : (cd_0.drop 200).all (fun q => cb_decB (cb_bt 0) q.1 q.2) = true := all_take _ 50 dc_0_4 (by rw [List.drop_drop]; exact dd_0_5)
theorem dd_0_3 : (cd_0.drop 150).all (fun q => cb_decB (cb_bt 0) q.1 q.2) = true := all_take _ 50 dc_0_3 (by rw [List.drop_drop]; exact dd_0_4)
theorem dd_0_2 : (cd_0.drop 100).all (fun q => cb_decB (cb_bt 0) q.1 q.2) = true := all_take _ 50 dc_0_2 (by rw [List.drop_drop]; exact dd_0_3)
theorem dd_0_1 : (cd_0.drop 50).all (fun q => cb_decB (cb_bt 0) q.1 q.2) = true := all_take _ 50 dc_0_1 (by rw [List.drop_drop]; exact dd_0_2)
theorem dd_0_0 : (cd_0.drop 0).all (fun q => cb_decB (cb_bt 0) q.1 q.2) = true := all_take _ 50 dc_0_0 (by rw [List.drop_drop]; exact dd_0_1)
theorem dc_0 : ∀ q ∈ cd_0, cb_decB (cb_bt 0) q.1 q.2 = true := List.all_eq_true.mp dd_0_0
theorem dc_1 : ∀ q ∈ cd_1, cb_decB (cb_bt 1) q.1 q.2 = true := List.all_eq_true.mp (by decide +kernel)
theorem dc_2 : ∀ q ∈ cd_2, cb_decB (cb_bt 2) q.1 q.2 = true := List.all_eq_true.mp (by decide +kernel)
theorem dc_3 : ∀ q ∈ cd_3, cb_decB (cb_bt 3) q.1 q.2 = true := List.all_eq_true.mp (by decide +kernel)
theorem dc_4 : ∀ q ∈ cd_4, cb_decB (cb_bt 4) q.1 q.2 = true := List.all_eq_true.mp (by decide +kernel)
theorem dc_5 : ∀ q ∈ cd_5, cb_decB (cb_bt 5) q.1 q.2 = true := List.all_eq_true.mp (by decide +kernel)
theorem dc_6 : ∀ q ∈ cd_6, cb_decB (cb_bt 6) q.1 q.2 = true := List.all_eq_true.mp (by decide +kernel)
theorem dc_7 : ∀ q ∈ cd_7, cb_decB (cb_bt 7) q.1 q.2 = true := List.all_eq_true.mp (by decide +kernel)
theorem dc_8 : ∀ q ∈ cd_8, cb_decB (cb_bt 8) q.1 q.2 = true := List.all_eq_true.mp (by decide +kernel)
theorem dc_9 : ∀ q ∈ cd_9, cb_decB (cb_bt 9) q.1 q.2 = true := List.all_eq_true.mp (by decide +kernel)
theorem dc_10 : ∀ q ∈ cd_10, cb_decB (cb_bt 10) q.1 q.2 = true := List.all_eq_true.mp (by decide +kernel)
theorem dc_11 : ∀ q ∈ cd_11, cb_decB (cb_bt 11) q.1 q.2 = true := List.all_eq_true.mp (by decide +kernel)
theorem dc_12 : ∀ q ∈ cd_12, cb_decB (cb_bt 12) q.1 q.2 = true := List.all_eq_true.mp (by decide +kernel)
theorem dc_13 : ∀ q ∈ cd_13, cb_decB (cb_bt 13) q.1 q.2 = true := List.all_eq_true.mp (by decide +kernel)
theorem dc_14 : ∀ q ∈ cd_14, cb_decB (cb_bt 14) q.1 q.2 = true := List.all_eq_true.mp (by decide +kernel)
theorem dc_15 : ∀ q ∈ cd_15, cb_decB (cb_bt 15) q.1 q.2 = true := List.all_eq_true.mp (by decide +kernel)
theorem dc_16 : ∀ q ∈ cd_16, cb_decB (cb_bt 16) q.1 q.2 = true := List.all_eq_true.mp (by decide +kernel)
theorem dc_17 : ∀ q ∈ cd_17, cb_decB (cb_bt 17) q.1 q.2 = true := List.all_eq_true.mp (by decide +kernel)
theorem dc_18 : ∀ q ∈ cd_18, cb_decB (cb_bt 18) q.1 q.2 = true := List.all_eq_true.mp (by decide +kernel)
theorem dc_19 : ∀ q ∈ cd_19, cb_decB (cb_bt 19) q.1 q.2 = true := List.all_eq_true.mp (by decide +kernel)
theorem dc_20 : ∀ q ∈ cd_20, cb_decB (cb_bt 20) q.1 q.2 = true := List.all_eq_true.mp (by decide +kernel)
theorem dc_21 : ∀ q ∈ cd_21, cb_decB (cb_bt 21) q.1 q.2 = true := List.all_eq_true.mp (by decide +kernel)
theorem dc_22 : ∀ q ∈ cd_22, cb_decB (cb_bt 22) q.1 q.2 = true := List.all_eq_true.mp (by decide +kernel)
theorem dc_23 : ∀ q ∈ cd_23, cb_decB (cb_bt 23) q.1 q.2 = true := List.all_eq_true.mp (by decide +kernel)
theorem dc_24 : ∀ q ∈ cd_24, cb_decB (cb_bt 24) q.1 q.2 = true := List.all_eq_true.mp (by decide +kernel)
theorem dc_25_0 : ((cd_25.drop 0).take 50).all (fun q => cb_decB (cb_bt 25) q.1 q.2) = true := by decide +kernel
theorem dc_25_1 : (cd_25.drop 50).all (fun q => cb_decB (cb_bt 25) q.1 q.2) = true := by decide +kernel
theorem dd_25_0 : (cd_25.drop 0).all (fun q => cb_decB (cb_bt 25) q.1 q.2) = true := all_take _ 50 dc_25_0 (by rw [List.drop_drop]; exact dc_25_1)
theorem dc_25 : ∀ q ∈ cd_25, cb_decB (cb_bt 25) q.1 q.2 = true := List.all_eq_true.mp dd_25_0
theorem dc_26 : ∀ q ∈ cd_26, cb_decB (cb_bt 26) q.1 q.2 = true := List.all_eq_true.mp (by decide +kernel)
theorem dc_27 : ∀ q ∈ cd_27, cb_decB (cb_bt 27) q.1 q.2 = true := List.all_eq_true.mp (by decide +kernel)
theorem dc_28 : ∀ q ∈ cd_28, cb_decB (cb_bt 28) q.1 q.2 = true := List.all_eq_true.mp (by decide +kernel)
theorem dc_29 : ∀ q ∈ cd_29, cb_decB (cb_bt 29) q.1 q.2 = true := List.all_eq_true.mp (by decide +kernel)
theorem dc_30 : ∀ q ∈ cd_30, cb_decB (cb_bt 30) q.1 q.2 = true := List.all_eq_true.mp (by decide +kernel)
theorem dc_31 : ∀ q ∈ cd_31, cb_decB (cb_bt 31) q.1 q.2 = true := List.all_eq_true.mp (by decide +kernel)
theorem dc_32 : ∀ q ∈ cd_32, cb_decB (cb_bt 32) q.1 q.2 = true := List.all_eq_true.mp (by decide +kernel)
theorem dc_33_0 : ((cd_33.drop 0).take 50).all (fun q => cb_decB (cb_bt 33) q.1 q.2) = true := by decide +kernel
theorem dc_33_1 : (cd_33.drop 50).all (fun q => cb_decB (cb_bt 33) q.1 q.2) = true := by decide +kernel
theorem dd_33_0 : (cd_33.drop 0).all (fun q => cb_decB (cb_bt 33) q.1 q.2) = true := all_take _ 50 dc_33_0 (by rw [List.drop_drop]; exact dc_33_1)
theorem dc_33 : ∀ q ∈ cd_33, cb_decB (cb_bt 33) q.1 q.2 = true := List.all_eq_true.mp dd_33_0
theorem dc_34 : ∀ q ∈ cd_34, cb_decB (cb_bt 34) q.1 q.2 = true := List.all_eq_true.mp (by decide +kernel)
theorem dc_35 : ∀ q ∈ cd_35, cb_decB (cb_bt 35) q.1 q.2 = true := List.all_eq_true.mp (by decide +kernel)
theorem dc_36_0 : ((cd_36.drop 0).take 50).all (fun q => cb_decB (cb_bt 36) q.1 q.2) = true := by decide +kernel
theorem dc_36_1 : (cd_36.drop 50).all (fun q => cb_decB (cb_bt 36) q.1 q.2) = true := by decide +kernel
theorem dd_36_0 : (cd_36.drop 0).all (fun q => cb_decB (cb_bt 36) q.1 q.2) = true := all_take _ 50 dc_36_0 (by rw [List.drop_drop]; exact dc_36_1)
theorem dc_36 : ∀ q ∈ cd_36, cb_decB (cb_bt 36) q.1 q.2 = true := List.all_eq_true.mp dd_36_0
theorem dc_37_0 : ((cd_37.drop 0).take 50).all (fun q => cb_decB (cb_bt 37) q.1 q.2) = true := by decide +kernel
theorem dc_37_1 : (cd_37.drop 50).all (fun q => cb_decB (cb_bt 37) q.1 q.2) = true := by decide +kernel
theorem dd_37_0 : (cd_37.drop 0).all (fun q => cb_decB (cb_bt 37) q.1 q.2) = true := all_take _ 50 dc_37_0 (by rw [List.drop_drop]; exact dc_37_1)
theorem dc_37 : ∀ q ∈ cd_37, cb_decB (cb_bt 37) q.1 q.2 = true := List.all_eq_true.mp dd_37_0
theorem dc_38_0 : ((cd_38.drop 0).take 50).all (fun q => cb_decB (cb_bt 38) q.1 q.2) = true := by decide +kernel
theorem dc_38_1 : ((cd_38.drop 50).take 50).all (fun q => cb_decB (cb_bt 38) q.1 q.2) = true := by decide +kernel
theorem dc_38_2 : (cd_38.drop 100).all (fun q => cb_decB (cb_bt 38) q.1 q.2) = true := by decide +kernel
theorem dd_38_1 : (cd_38.drop 50).all (fun q => cb_decB (cb_bt 38) q.1 q.2) = true := all_take _ 50 dc_38_1 (by rw [List.drop_drop]; exact dc_38_2)
theorem dd_38_0 : (cd_38.drop 0).all (fun q => cb_decB (cb_bt 38) q.1 q.2) = true := all_take _ 50 dc_38_0 (by rw [List.drop_drop]; exact dd_38_1)
theorem dc_38 : ∀ q ∈ cd_38, cb_decB (cb_bt 38) q.1 q.2 = true := List.all_eq_true.mp dd_38_0
theorem dc_39 : ∀ q ∈ cd_39, cb_decB (cb_bt 39) q.1 q.2 = true := List.all_eq_true.mp (by decide +kernel)
theorem dc_40 : ∀ q ∈ cd_40, cb_decB (cb_bt 40) q.1 q.2 = true := List.all_eq_true.mp (by decide +kernel)
theorem dc_41 : ∀ q ∈ cd_41, cb_decB (cb_bt 41) q.1 q.2 = true := List.all_eq_true.mp (by decide +kernel)
theorem dc_42 : ∀ q ∈ cd_42, cb_decB (cb_bt 42) q.1 q.2 = true := List.all_eq_true.mp (by decide +kernel)
theorem dc_43 : ∀ q ∈ cd_43, cb_decB (cb_bt 43) q.1 q.2 = true := List.all_eq_true.mp (by decide +kernel)
theorem dc_44 : ∀ q ∈ cd_44, cb_decB (cb_bt 44) q.1 q.2 = true := List.all_eq_true.mp (by decide +kernel)
theorem dc_45 : ∀ q ∈ cd_45, cb_decB (cb_bt 45) q.1 q.2 = true := List.all_eq_true.mp (by decide +kernel)
theorem dc_46 : ∀ q ∈ cd_46, cb_decB (cb_bt 46) q.1 q.2 = true := List.all_eq_true.mp (by decide +kernel)
theorem dc_47 : ∀ q ∈ cd_47, cb_decB (cb_bt 47) q.1 q.2 = true := List.all_eq_true.mp (by decide +kernel)
theorem dc_48 : ∀ q ∈ cd_48, cb_decB (cb_bt 48) q.1 q.2 = true := List.all_eq_true.mp (by decide +kernel)
theorem dc_49 : ∀ q ∈ cd_49, cb_decB (cb_bt 49) q.1 q.2 = true := List.all_eq_true.mp (by decide +kernel)
theorem dc_50 : ∀ q ∈ cd_50, cb_decB (cb_bt 50) q.1 q.2 = true := List.all_eq_true.mp (by decide +kernel)
theorem dc_51 : ∀ q ∈ cd_51, cb_decB (cb_bt 51) q.1 q.2 = true := List.all_eq_true.mp (by decide +kernel)
theorem dc_52 : ∀ q ∈ cd_52, cb_decB (cb_bt 52) q.1 q.2 = true := List.all_eq_true.mp (by decide +kernel)
theorem dc_53 : ∀ q ∈ cd_53, cb_decB (cb_bt 53) q.1 q.2 = true := List.all_eq_true.mp (by decide +kernel)
theorem dc_54 : ∀ q ∈ cd_54, cb_decB (cb_bt 54) q.1 q.2 = true := List.all_eq_true.mp (by decide +kernel)
theorem dc_55 : ∀ q ∈ cd_55, cb_decB (cb_bt 55) q.1 q.2 = true := List.all_eq_true.mp (by decide +kernel)
theorem dc_56 : ∀ q ∈ cd_56, cb_decB (cb_bt 56) q.1 q.2 = true := List.all_eq_true.mp (by decide +kernel)
theorem dc_57 : ∀ q ∈ cd_57, cb_decB (cb_bt 57) q.1 q.2 = true := List.all_eq_true.mp (by decide +kernel)
theorem dc_58 : ∀ q ∈ cd_58, cb_decB (cb_bt 58) q.1 q.2 = true := List.all_eq_true.mp (by decide +kernel)
theorem dc_59 : ∀ q ∈ cd_59, cb_decB (cb_bt 59) q.1 q.2 = true := List.all_eq_true.mp (by decide +kernel)
theorem dc_60 : ∀ q ∈ cd_60, cb_decB (cb_bt 60) q.1 q.2 = true := List.all_eq_true.mp (by decide +kernel)
theorem dc_61 : ∀ q ∈ cd_61, cb_decB (cb_bt 61) q.1 q.2 = true := List.all_eq_true.mp (by decide +kernel)
theorem dc_62 : ∀ q ∈ cd_62, cb_decB (cb_bt 62) q.1 q.2 = true := List.all_eq_true.mp (by decide +kernel)
theorem dc_63 : ∀ q ∈ cd_63, cb_decB (cb_bt 63) q.1 q.2 = true := List.all_eq_true.mp (by decide +kernel)
theorem dc_64 : ∀ q ∈ cd_64, cb_decB (cb_bt 64) q.1 q.2 = true := List.all_eq_true.mp (by decide +kernel)
theorem dc_65 : ∀ q ∈ cd_65, cb_decB (cb_bt 65) q.1 q.2 = true := List.all_eq_true.mp (by decide +kernel)
theorem dc_66 : ∀ q ∈ cd_66, cb_decB (cb_bt 66) q.1 q.2 = true := List.all_eq_true.mp (by decide +kernel)
theorem dc_67 : ∀ q ∈ cd_67, cb_decB (cb_bt 67) q.1 q.2 = true := List.all_eq_true.mp (by decide +kernel)
theorem dc_68 : ∀ q ∈ cd_68, cb_decB (cb_bt 68) q.1 q.2 = true := List.all_eq_true.mp (by decide +kernel)
theorem dc_69 : ∀ q ∈ cd_69, cb_decB (cb_bt 69) q.1 q.2 = true := List.all_eq_true.mp (by decide +kernel)
theorem dc_70 : ∀ q ∈ cd_70, cb_decB (cb_bt 70) q.1 q.2 = true := List.all_eq_true.mp (by decide +kernel)
theorem dc_71 : ∀ q ∈ cd_71, cb_decB (cb_bt 71) q.1 q.2 = true := List.all_eq_true.mp (by decide +kernel)
theorem dc_72 : ∀ q ∈ cd_72, cb_decB (cb_bt 72) q.1 q.2 = true := List.all_eq_true.mp (by decide +kernel)
theorem dc_73 : ∀ q ∈ cd_73, cb_decB (cb_bt 73) q.1 q.2 = true := List.all_eq_true.mp (by decide +kernel)
theorem dc_74 : ∀ q ∈ cd_74, cb_decB (cb_bt 74) q.1 q.2 = true := List.all_eq_true.mp (by decide +kernel)
theorem dc_75 : ∀ q ∈ cd_75, cb_decB (cb_bt 75) q.1 q.2 = true := List.all_eq_true.mp (by decide +kernel)
theorem dc_76 : ∀ q ∈ cd_76, cb_decB (cb_bt 76) q.1 q.2 = true := List.all_eq_true.mp (by decide +kernel)
theorem dc_77 : ∀ q ∈ cd_77, cb_decB (cb_bt 77) q.1 q.2 = true := List.all_eq_true.mp (by decide +kernel)
theorem dc_78 : ∀ q ∈ cd_78, cb_decB (cb_bt 78) q.1 q.2 = true := List.all_eq_true.mp (by decide +kernel)
theorem dc_79 : ∀ q ∈ cd_79, cb_decB (cb_bt 79) q.1 q.2 = true := List.all_eq_true.mp (by decide +kernel)
theorem dc_80_0 : ((cd_80.drop 0).take 50).all (fun q => cb_decB (cb_bt 80) q.1 q.2) = true := by decide +kernel
theorem dc_80_1 : ((cd_80.drop 50).take 50).all (fun q => cb_decB (cb_bt 80) q.1 q.2) = true := by decide +kernel
theorem dc_80_2 : (cd_80.drop 100).all (fun q => cb_decB (cb_bt 80) q.1 q.2) = true := by decide +kernel
theorem dd_80_1 : (cd_80.drop 50).all (fun q => cb_decB (cb_bt 80) q.1 q.2) = true := all_take _ 50 dc_80_1 (by rw [List.drop_drop]; exact dc_80_2)
theorem dd_80_0 : (cd_80.drop 0).all (fun q => cb_decB (cb_bt 80) q.1 q.2) = true := all_take _ 50 dc_80_0 (by rw [List.drop_drop]; exact dd_80_1)
theorem dc_80 : ∀ q ∈ cd_80, cb_decB (cb_bt 80) q.1 q.2 = true := List.all_eq_true.mp dd_80_0
theorem dc_81 : ∀ q ∈ cd_81, cb_decB (cb_bt 81) q.1 q.2 = true := List.all_eq_true.mp (by decide +kernel)
theorem dc_82 : ∀ q ∈ cd_82, cb_decB (cb_bt 82) q.1 q.2 = true := List.all_eq_true.mp (by decide +kernel)
theorem dc_83_0 : ((cd_83.drop 0).take 50).all (fun q => cb_decB (cb_bt 83) q.1 q.2) = true := by decide +kernel
theorem dc_83_1 : (cd_83.drop 50).all (fun q => cb_decB (cb_bt 83) q.1 q.2) = true := by decide +kernel
theorem dd_83_0 : (cd_83.drop 0).all (fun q => cb_decB (cb_bt 83) q.1 q.2) = true := all_take _ 50 dc_83_0 (by rw [List.drop_drop]; exact dc_83_1)
theorem dc_83 : ∀ q ∈ cd_83, cb_decB (cb_bt 83) q.1 q.2 = true := List.all_eq_true.mp dd_83_0
theorem dc_84 : ∀ q ∈ cd_84, cb_decB (cb_bt 84) q.1 q.2 = true := List.all_eq_true.mp (by decide +kernel)
theorem dc_85 : ∀ q ∈ cd_85, cb_decB (cb_bt 85) q.1 q.2 = true := List.all_eq_true.mp (by decide +kernel)
theorem dc_86 : ∀ q ∈ cd_86, cb_decB (cb_bt 86) q.1 q.2 = true := List.all_eq_true.mp (by decide +kernel)
theorem dc_87 : ∀ q ∈ cd_87, cb_decB (cb_bt 87) q.1 q.2 = true := List.all_eq_true.mp (by decide +kernel)
theorem dc_88 : ∀ q ∈ cd_88, cb_decB (cb_bt 88) q.1 q.2 = true := List.all_eq_true.mp (by decide +kernel)
theorem dc_89 : ∀ q ∈ cd_89, cb_decB (cb_bt 89) q.1 q.2 = true := List.all_eq_true.mp (by decide +kernel)
theorem dc_90 : ∀ q ∈ cd_90, cb_decB (cb_bt 90) q.1 q.2 = true := List.all_eq_true.mp (by decide +kernel)
theorem dc_91 : ∀ q ∈ cd_91, cb_decB (cb_bt 91) q.1 q.2 = true := List.all_eq_true.mp (by decide +kernel)
theorem dc_92_0 : ((cd_92.drop 0).take 50).all (fun q => cb_decB (cb_bt 92) q.1 q.2) = true := by decide +kernel
theorem dc_92_1 : (cd_92.drop 50).all (fun q => cb_decB (cb_bt 92) q.1 q.2) = true := by decide +kernel
theorem dd_92_0 : (cd_92.drop 0).all (fun q => cb_decB (cb_bt 92) q.1 q.2) = true := all_take _ 50 dc_92_0 (by rw [List.drop_drop]; exact dc_92_1)
theorem dc_92 : ∀ q ∈ cd_92, cb_decB (cb_bt 92) q.1 q.2 = true := List.all_eq_true.mp dd_92_0
theorem dc_93 : ∀ q ∈ cd_93, cb_decB (cb_bt 93) q.1 q.2 = true := List.all_eq_true.mp (by decide +kernel)
theorem dc_94_0 : ((cd_94.drop 0).take 50).all (fun q => cb_decB (cb_bt 94) q.1 q.2) = true := by decide +kernel
theorem dc_94_1 : ((cd_94.drop 50).take 50).all (fun q => cb_decB (cb_bt 94) q.1 q.2) = true := by decide +kernel
theorem dc_94_2 : (cd_94.drop 100).all (fun q => cb_decB (cb_bt 94) q.1 q.2) = true := by decide +kernel
theorem dd_94_1 : (cd_94.drop 50).all (fun q => cb_decB (cb_bt 94) q.1 q.2) = true := all_take _ 50 dc_94_1 (by rw [List.drop_drop]; exact dc_94_2)
theorem dd_94_0 : (cd_94.drop 0).all (fun q => cb_decB (cb_bt 94) q.1 q.2) = true := all_take _ 50 dc_94_0 (by rw [List.drop_drop]; exact dd_94_1)
theorem dc_94 : ∀ q ∈ cd_94, cb_decB (cb_bt 94) q.1 q.2 = true := List.all_eq_true.mp dd_94_0
theorem dc_95 : ∀ q ∈ cd_95, cb_decB (cb_bt 95) q.1 q.2 = true := List.all_eq_true.mp (by decide +kernel)
theorem dc_96 : ∀ q ∈ cd_96, cb_decB (cb_bt 96) q.1 q.2 = true := List.all_eq_true.mp (by decide +kernel)
theorem dc_97 : ∀ q ∈ cd_97, cb_decB (cb_bt 97) q.1 q.2 = true := List.all_eq_true.mp (by decide +kernel)
theorem dc_98 : ∀ q ∈ cd_98, cb_decB (cb_bt 98) q.1 q.2 = true := List.all_eq_true.mp (by decide +kernel)
theorem dc_99_0 : ((cd_99.drop 0).take 50).all (fun q => cb_decB (cb_bt 99) q.1 q.2) = true := by decide +kernel
theorem dc_99_1 : ((cd_99.drop 50).take 50).all (fun q => cb_decB (cb_bt 99) q.1 q.2) = true := by decide +kernel
theorem dc_99_2 : (cd_99.drop 100).all (fun q => cb_decB (cb_bt 99) q.1 q.2) = true := by decide +kernel
theorem dd_99_1 : (cd_99.drop 50).all (fun q => cb_decB (cb_bt 99) q.1 q.2) = true := all_take _ 50 dc_99_1 (by rw [List.drop_drop]; exact dc_99_2)
theorem dd_99_0 : (cd_99.drop 0).all (fun q => cb_decB (cb_bt 99) q.1 q.2) = true := all_take _ 50 dc_99_0 (by rw [List.drop_drop]; exact dd_99_1)
theorem dc_99 : ∀ q ∈ cd_99, cb_decB (cb_bt 99) q.1 q.2 = true := List.all_eq_true.mp dd_99_0
theorem dc_100 : ∀ q ∈ cd_100, cb_decB (cb_bt 100) q.1 q.2 = true := List.all_eq_true.mp (by decide +kernel)
theorem dc_101 : ∀ q ∈ cd_101, cb_decB (cb_bt 101) q.1 q.2 = true := List.all_eq_true.mp (by decide +kernel)
theorem dc_102 : ∀ q ∈ cd_102, cb_decB (cb_bt 102) q.1 q.2 = true := List.all_eq_true.mp (by decide +kernel)
theorem dc_103 : ∀ q ∈ cd_103, cb_decB (cb_bt 103) q.1 q.2 = true := List.all_eq_true.mp (by decide +kernel)
theorem dc_104 : ∀ q ∈ cd_104, cb_decB (cb_bt 104) q.1 q.2 = true := List.all_eq_true.mp (by decide +kernel)
theorem dc_105 : ∀ q ∈ cd_105, cb_decB (cb_bt 105) q.1 q.2 = true := List.all_eq_true.mp (by decide +kernel)
theorem dc_106 : ∀ q ∈ cd_106, cb_decB (cb_bt 106) q.1 q.2 = true := List.all_eq_true.mp (by decide +kernel)
theorem dc_107_0 : ((cd_107.drop 0).take 50).all (fun q => cb_decB (cb_bt 107) q.1 q.2) = true := by decide +kernel
theorem dc_107_1 : ((cd_107.drop 50).take 50).all (fun q => cb_decB (cb_bt 107) q.1 q.2) = true := by decide +kernel
theorem dc_107_2 : (cd_107.drop 100).all (fun q => cb_decB (cb_bt 107) q.1 q.2) = true := by decide +kernel
theorem dd_107_1 : (cd_107.drop 50).all (fun q => cb_decB (cb_bt 107) q.1 q.2) = true := all_take _ 50 dc_107_1 (by rw [List.drop_drop]; exact dc_107_2)
theorem dd_107_0 : (cd_107.drop 0).all (fun q => cb_decB (cb_bt 107) q.1 q.2) = true := all_take _ 50 dc_107_0 (by rw [List.drop_drop]; exact dd_107_1)
theorem dc_107 : ∀ q ∈ cd_107, cb_decB (cb_bt 107) q.1 q.2 = true := List.all_eq_true.mp dd_107_0
theorem dc_108 : ∀ q ∈ cd_108, cb_decB (cb_bt 108) q.1 q.2 = true := List.all_eq_true.mp (by decide +kernel)
theorem dc_109_0 : ((cd_109.drop 0).take 50).all (fun q => cb_decB (cb_bt 109) q.1 q.2) = true := by decide +kernel
theorem dc_109_1 : ((cd_109.drop 50).take 50).all (fun q => cb_decB (cb_bt 109) q.1 q.2) = true := by decide +kernel
theorem dc_109_2 : (cd_109.drop 100).all (fun q => cb_decB (cb_bt 109) q.1 q.2) = true := by decide +kernel
theorem dd_109_1 : (cd_109.drop 50).all (fun q => cb_decB (cb_bt 109) q.1 q.2) = true := all_take _ 50 dc_109_1 (by rw [List.drop_drop]; exact dc_109_2)
theorem dd_109_0 : (cd_109.drop 0).all (fun q => cb_decB (cb_bt 109) q.1 q.2) = true := all_take _ 50 dc_109_0 (by rw [List.drop_drop]; exact dd_109_1)
theorem dc_109 : ∀ q ∈ cd_109, cb_decB (cb_bt 109) q.1 q.2 = true := List.all_eq_true.mp dd_109_0
theorem dc_110 : ∀ q ∈ cd_110, cb_decB (cb_bt 110) q.1 q.2 = true := List.all_eq_true.mp (by decide +kernel)
theorem dc_111_0 : ((cd_111.drop 0).take 50).all (fun q => cb_decB (cb_bt 111) q.1 q.2) = true := by decide +kernel
theorem dc_111_1 : (cd_111.drop 50).all (fun q => cb_decB (cb_bt 111) q.1 q.2) = true := by decide +kernel
theorem dd_111_0 : (cd_111.drop 0).all (fun q => cb_decB (cb_bt 111) q.1 q.2) = true := all_take _ 50 dc_111_0 (by rw [List.drop_drop]; exact dc_111_1)
theorem dc_111 : ∀ q ∈ cd_111, cb_decB (cb_bt 111) q.1 q.2 = true := List.all_eq_true.mp dd_111_0
theorem dc_112 : ∀ q ∈ cd_112, cb_decB (cb_bt 112) q.1 q.2 = true := List.all_eq_true.mp (by decide +kernel)
theorem dc_113 : ∀ q ∈ cd_113, cb_decB (cb_bt 113) q.1 q.2 = true := List.all_eq_true.mp (by decide +kernel)
theorem dc_114 : ∀ q ∈ cd_114, cb_decB (cb_bt 114) q.1 q.2 = true := List.all_eq_true.mp (by decide +kernel)
theorem dc_115 : ∀ q ∈ cd_115, cb_decB (cb_bt 115) q.1 q.2 = true := List.all_eq_true.mp (by decide +kernel)
theorem dc_116 : ∀ q ∈ cd_116, cb_decB (cb_bt 116) q.1 q.2 = true := List.all_eq_true.mp (by decide +kernel)
theorem dc_117 : ∀ q ∈ cd_117, cb_decB (cb_bt 117) q.1 q.2 = true := List.all_eq_true.mp (by decide +kernel)
theorem dc_118_0 : ((cd_118.drop 0).take 50).all (fun q => cb_decB (cb_bt 118) q.1 q.2) = true := by decide +kernel
theorem dc_118_1 : ((cd_118.drop 50).take 50).all (fun q => cb_decB (cb_bt 118) q.1 q.2) = true := by decide +kernel
theorem dc_118_2 : (cd_118.drop 100).all (fun q => cb_decB (cb_bt 118) q.1 q.2) = true := by decide +kernel
theorem dd_118_1 : (cd_118.drop 50).all (fun q => cb_decB (cb_bt 118) q.1 q.2) = true := all_take _ 50 dc_118_1 (by rw [List.drop_drop]; exact dc_118_2)
theorem dd_118_0 : (cd_118.drop 0).all (fun q => cb_decB (cb_bt 118) q.1 q.2) = true := all_take _ 50 dc_118_0 (by rw [List.drop_drop]; exact dd_118_1)
theorem dc_118 : ∀ q ∈ cd_118, cb_decB (cb_bt 118) q.1 q.2 = true := List.all_eq_true.mp dd_118_0
theorem dc_119_0 : ((cd_119.drop 0).take 50).all (fun q => cb_decB (cb_bt 119) q.1 q.2) = true := by decide +kernel
theorem dc_119_1 : ((cd_119.drop 50).take 50).all (fun q => cb_decB (cb_bt 119) q.1 q.2) = true := by decide +kernel
theorem dc_119_2 : (cd_119.drop 100).all (fun q => cb_decB (cb_bt 119) q.1 q.2) = true := by decide +kernel
theorem dd_119_1 : (cd_119.drop 50).all (fun q => cb_decB (cb_bt 119) q.1 q.2) = true := all_take _ 50 dc_119_1 (by rw [List.drop_drop]; exact dc_119_2)
theorem dd_119_0 : (cd_119.drop 0).all (fun q => cb_decB (cb_bt 119) q.1 q.2) = true := all_take _ 50 dc_119_0 (by rw [List.drop_drop]; exact dd_119_1)
theorem dc_119 : ∀ q ∈ cd_119, cb_decB (cb_bt 119) q.1 q.2 = true := List.all_eq_true.mp dd_119_0
theorem dc_120 : ∀ q ∈ cd_120, cb_decB (cb_bt 120) q.1 q.2 = true := List.all_eq_true.mp (by decide +kernel)
theorem dc_121 : ∀ q ∈ cd_121, cb_decB (cb_bt 121) q.1 q.2 = true := List.all_eq_true.mp (by decide +kernel)
theorem dc_122_0 : ((cd_122.drop 0).take 50).all (fun q => cb_decB (cb_bt 122) q.1 q.2) = true := by decide +kernel
theorem dc_122_1 : ((cd_122.drop 50).take 50).all (fun q => cb_decB (cb_bt 122) q.1 q.2) = true := by decide +kernel
theorem dc_122_2 : (cd_122.drop 100).all (fun q => cb_decB (cb_bt 122) q.1 q.2) = true := by decide +kernel
theorem dd_122_1 : (cd_122.drop 50).all (fun q => cb_decB (cb_bt 122) q.1 q.2) = true := all_take _ 50 dc_122_1 (by rw [List.drop_drop]; exact dc_122_2)
theorem dd_122_0 : (cd_122.drop 0).all (fun q => cb_decB (cb_bt 122) q.1 q.2) = true := all_take _ 50 dc_122_0 (by rw [List.drop_drop]; exact dd_122_1)
theorem dc_122 : ∀ q ∈ cd_122, cb_decB (cb_bt 122) q.1 q.2 = true := List.all_eq_true.mp dd_122_0
theorem dc_123 : ∀ q ∈ cd_123, cb_decB (cb_bt 123) q.1 q.2 = true := List.all_eq_true.mp (by decide +kernel)
theorem dc_124 : ∀ q ∈ cd_124, cb_decB (cb_bt 124) q.1 q.2 = true := List.all_eq_true.mp (by decide +kernel)
theorem dc_125 : ∀ q ∈ cd_125, cb_decB (cb_bt 125) q.1 q.2 = true := List.all_eq_true.mp (by decide +kernel)
theorem dc_126 : ∀ q ∈ cd_126, cb_decB (cb_bt 126) q.1 q.2 = true := List.all_eq_true.mp (by decide +kernel)
theorem dc_127 : ∀ q ∈ cd_127, cb_decB (cb_bt 127) q.1 q.2 = true := List.all_eq_true.mp (by decide +kernel)
theorem dc_128 : ∀ q ∈ cd_128, cb_decB (cb_bt 128) q.1 q.2 = true := List.all_eq_true.mp (by decide +kernel)
theorem dc_129 : ∀ q ∈ cd_129, cb_decB (cb_bt 129) q.1 q.2 = true := List.all_eq_true.mp (by decide +kernel)
theorem dc_130 : ∀ q ∈ cd_130, cb_decB (cb_bt 130) q.1 q.2 = true := List.all_eq_true.mp (by decide +kernel)
theorem dc_131_0 : ((cd_131.drop 0).take 50).all (fun q => cb_decB (cb_bt 131) q.1 q.2) = true := by decide +kernel
theorem dc_131_1 : (cd_131.drop 50).all (fun q => cb_decB (cb_bt 131) q.1 q.2) = true := by decide +kernel
theorem dd_131_0 : (cd_131.drop 0).all (fun q => cb_decB (cb_bt 131) q.1 q.2) = true := all_take _ 50 dc_131_0 (by rw [List.drop_drop]; exact dc_131_1)
theorem dc_131 : ∀ q ∈ cd_131, cb_decB (cb_bt 131) q.1 q.2 = true := List.all_eq_true.mp dd_131_0
theorem dc_132 : ∀ q ∈ cd_132, cb_decB (cb_bt 132) q.1 q.2 = true := List.all_eq_true.mp (by decide +kernel)
theorem dc_133 : ∀ q ∈ cd_133, cb_decB (cb_bt 133) q.1 q.2 = true := List.all_eq_true.mp (by decide +kernel)
theorem dc_134 : ∀ q ∈ cd_134, cb_decB (cb_bt 134) q.1 q.2 = true := List.all_eq_true.mp (by decide +kernel)
theorem dc_135 : ∀ q ∈ cd_135, cb_decB (cb_bt 135) q.1 q.2 = true := List.all_eq_true.mp (by decide +kernel)
theorem dc_136 : ∀ q ∈ cd_136, cb_decB (cb_bt 136) q.1 q.2 = true := List.all_eq_true.mp (by decide +kernel)
