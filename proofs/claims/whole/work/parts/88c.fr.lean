/-! what the reference's steps leave as it was -/
theorem wI_fr {J : ex_Mem} {a k b j : Nat} {v : Int32} (h : b ≠ a) : ex_wI J a k v b j = J b j := if_neg (fun q => h q.1)
theorem put_fr {J : ex_Mem} {b a k : Nat} {w : Int32} (h1 : a ≠ 52) (h2 : a ≠ 53) (h3 : a ≠ 55) (h4 : a ≠ 56) : (r_put J b w).2 a k = J a k := by
  unfold r_put
  split
  · simp only [wI_fr h1, wI_fr h4, wI_fr h3]
  · split
    · rfl
    · split
      · simp only [wI_fr h1, wI_fr h4, wI_fr h2, wI_fr h3]
      · simp only [wI_fr h2, wI_fr h3]
theorem says_fr {J : ex_Mem} {t b a k : Nat} {w : Int32} (h1 : a ≠ 52) (h2 : a ≠ 53) (h3 : a ≠ 55) (h4 : a ≠ 56) : (r_says J t b w).2 a k = J a k := by
  unfold r_says
  split
  · exact put_fr h1 h2 h3 h4
  · rfl
theorem hears_fr {J : ex_Mem} {t a k : Nat} {how c km kl : Int32} (h1 : a ≠ 62) (h2 : a ≠ 63) (h3 : a ≠ 64) : (r_hears J t how c km kl).2 a k = J a k := by
  unfold r_hears
  split
  · rfl
  · split
    · split
      · simp only [wI_fr h3, wI_fr h2, wI_fr h1]
      · simp only [wI_fr h2, wI_fr h1]
    · split
      · simp only [wI_fr h3]
      · rfl
theorem takes_fr {J : ex_Mem} {t s nn a k : Nat} {fa : Int32} (h1 : a ≠ 60) (h2 : a ≠ 61) (h3 : a ≠ 62) (h4 : a ≠ 63) : (r_takes J t s nn fa).2 a k = J a k := by
  unfold r_takes r_fill
  split
  · simp only [wI_fr h4, wI_fr h2, wI_fr h1, wI_fr h1, wI_fr h1, wI_fr h1]
  · simp only [wI_fr h3]
theorem dw_fr {J : ex_Mem} {a k : Nat} {how v : Int32} (h1 : a ≠ 52) (h2 : a ≠ 79) : r_dw J how v a k = J a k := by
  unfold r_dw
  split
  · simp only [wI_fr h1, wI_fr h2]
  · rfl
theorem send_fr {J : ex_Mem} {t s b a k : Nat} (h1 : a ≠ 52) (h2 : a ≠ 53) (h3 : a ≠ 55) (h4 : a ≠ 56) (h5 : a ≠ 79) : ∀ j, r_send J t s b j a k = J a k
  | 0 => rfl
  | j + 1 => by
    unfold r_send
    rw [dw_fr h1 h5, says_fr h1 h2 h3 h4]
    exact send_fr h1 h2 h3 h4 h5 j
theorem ans_fr {J : ex_Mem} {t s nn b a k : Nat} (h1 : a ≠ 52) (h2 : a ≠ 53) (h3 : a ≠ 55) (h4 : a ≠ 56) (h5 : a ≠ 79) : (r_ans J t s nn b).2 a k = J a k := by
  unfold r_ans
  show r_send _ t s b nn a k = J a k
  rw [send_fr h1 h2 h3 h4 h5, says_fr h1 h2 h3 h4]
theorem hears_hw {N t : Nat} {J : ex_Mem} {how c km kl : Int32} (hh : hwB N J) : hwB N (r_hears J t how c km kl).2 := hwB_eq hh (hears_fr (by decide) (by decide) (by decide))
theorem takes_hw {N t s nn : Nat} {J : ex_Mem} {fa : Int32} (hh : hwB N J) : hwB N (r_takes J t s nn fa).2 := hwB_eq hh (takes_fr (by decide) (by decide) (by decide) (by decide))
theorem ans_hw {N t s nn b : Nat} {J : ex_Mem} (hh : hwB N J) (hN : N + 1 + nn < 2 ^ 31) : hwB (N + 1 + nn) (r_ans J t s nn b).2 := hwB_send (hwB_says hh (by omega)) nn hN
theorem hears_gd {N t : Nat} {J : ex_Mem} {how c km kl : Int32} (hh : gdB N J) : gdB N (r_hears J t how c km kl).2 := gdB_eq hh (hears_fr (by decide) (by decide) (by decide))
theorem put_gdB {N b : Nat} {J : ex_Mem} {w : Int32} (hh : gdB N J) : gdB N (r_put J b w).2 := gdB_eq hh put_gd
theorem takes_gd {N t s nn : Nat} {J : ex_Mem} {fa : Int32} (hh : gdB N J) : gdB N (r_takes J t s nn fa).2 := gdB_eq hh (takes_fr (by decide) (by decide) (by decide) (by decide))
section XRV
variable {L : Nat} {xs : Nat → Int32} {D mi pc pc' n : Nat} {lv st : List Value} {I J : ex_Mem} {Q : Option Value → ex_Hp → Prop}
theorem xr_ialdv {a j m : Nat} {i v : Int32} (hf : ex_look (ex_cd cb_G mi) pc = some .iaload) (hk : cb_kd a = (1, m)) (ha : 52 ≤ a ∧ a < 81) (hi : i = nI j) (hj : j < m) (hm : m < 2 ^ 31) (hv : J a j = v) (hpc : pc + 1 = pc') (kk : xx cb_G L xs D mi pc' lv (.int v :: st) (mkH n I J) Q) : xx cb_G L xs D mi pc lv (.int i :: .ref a :: st) (mkH n I J) Q := by
  subst hv
  exact xr_iald hf hk ha hi hj hm hpc kk
theorem xr_getiv {i k : Nat} {z : Int} {v : Int32} (hf : ex_look (ex_cd cb_G mi) pc = some (.getfield i)) (hl : ex_look (ex_lt cb_G (ex_ow cb_G mi)) i = some (0, 8, k, z)) (hn : k < 34) (hv : ¬ cb_fk 8 k = 2) (he : J 52 k = v) (hpc : pc + 3 = pc') (kk : xx cb_G L xs D mi pc' lv (.int v :: st) (mkH n I J) Q) : xx cb_G L xs D mi pc lv (.ref 52 :: st) (mkH n I J) Q := by
  subst he
  exact xr_geti hf hl hn hv hpc kk
theorem xc_ialdv {a j m : Nat} {i v : Int32} (hf : ex_look (ex_cd cb_G mi) pc = some .iaload) (hk : cb_kd a = (1, m)) (ha : ¬ (52 ≤ a ∧ a < 81)) (hs : a < 81 + 2 * n) (hs2 : a < 1000) (hi : i = nI j) (hj : j < m) (hm : m < 2 ^ 31) (hv : I a j = v) (hpc : pc + 1 = pc') (kk : xx cb_G L xs D mi pc' lv (.int v :: st) (mkH n I J) Q) : xx cb_G L xs D mi pc lv (.int i :: .ref a :: st) (mkH n I J) Q := by
  subst hv
  exact xc_iald hf hk ha hs hs2 hi hj hm hpc kk
theorem xc_getiv {i tag c k a : Nat} {z : Int} {v : Int32} (hf : ex_look (ex_cd cb_G mi) pc = some (.getfield i)) (hl : ex_look (ex_lt cb_G (ex_ow cb_G mi)) i = some (tag, c, k, z)) (ht : tag ≤ 1) (hk : cb_kd a = (0, c)) (ha : ¬ (52 ≤ a ∧ a < 81)) (hs : a < 81 + 2 * n) (hn : k < cb_nf c) (hv : ¬ cb_fk c k = 2) (he : I a k = v) (hpc : pc + 3 = pc') (kk : xx cb_G L xs D mi pc' lv (.int v :: st) (mkH n I J) Q) : xx cb_G L xs D mi pc lv (.ref a :: st) (mkH n I J) Q := by
  subst he
  exact xc_geti hf hl ht hk ha hs hn hv hpc kk
end XRV
