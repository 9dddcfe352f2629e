/-! the addresses of terminals and messages -/
theorem kd_T0 {t : Nat} (ht : t < 6) : cb_kd (8 + 6 * t) = (0, 4) := by
  rcases (show t = 0 ∨ t = 1 ∨ t = 2 ∨ t = 3 ∨ t = 4 ∨ t = 5 by omega) with rfl | rfl | rfl | rfl | rfl | rfl <;> rfl
theorem kd_T1 {t : Nat} (ht : t < 6) : cb_kd (9 + 6 * t) = (2, 2) := by
  rcases (show t = 0 ∨ t = 1 ∨ t = 2 ∨ t = 3 ∨ t = 4 ∨ t = 5 by omega) with rfl | rfl | rfl | rfl | rfl | rfl <;> rfl
theorem kd_T2 {t : Nat} (ht : t < 6) : cb_kd (10 + 6 * t) = (1, 12) := by
  rcases (show t = 0 ∨ t = 1 ∨ t = 2 ∨ t = 3 ∨ t = 4 ∨ t = 5 by omega) with rfl | rfl | rfl | rfl | rfl | rfl <;> rfl
theorem kd_T3 {t : Nat} (ht : t < 6) : cb_kd (11 + 6 * t) = (1, 12) := by
  rcases (show t = 0 ∨ t = 1 ∨ t = 2 ∨ t = 3 ∨ t = 4 ∨ t = 5 by omega) with rfl | rfl | rfl | rfl | rfl | rfl <;> rfl
theorem kd_T4 {t : Nat} (ht : t < 6) : cb_kd (12 + 6 * t) = (1, 12) := by
  rcases (show t = 0 ∨ t = 1 ∨ t = 2 ∨ t = 3 ∨ t = 4 ∨ t = 5 by omega) with rfl | rfl | rfl | rfl | rfl | rfl <;> rfl
theorem kd_T5 {t : Nat} (ht : t < 6) : cb_kd (13 + 6 * t) = (2, 3) := by
  rcases (show t = 0 ∨ t = 1 ∨ t = 2 ∨ t = 3 ∨ t = 4 ∨ t = 5 by omega) with rfl | rfl | rfl | rfl | rfl | rfl <;> rfl
theorem kd_M0 {m : Nat} (hm : m < 8) : cb_kd (81 + 2 * m) = (0, 7) := by
  rcases (show m = 0 ∨ m = 1 ∨ m = 2 ∨ m = 3 ∨ m = 4 ∨ m = 5 ∨ m = 6 ∨ m = 7 by omega) with rfl | rfl | rfl | rfl | rfl | rfl | rfl | rfl <;> rfl
theorem kd_M1 {m : Nat} (hm : m < 8) : cb_kd (82 + 2 * m) = (1, 4) := by
  rcases (show m = 0 ∨ m = 1 ∨ m = 2 ∨ m = 3 ∨ m = 4 ∨ m = 5 ∨ m = 6 ∨ m = 7 by omega) with rfl | rfl | rfl | rfl | rfl | rfl | rfl | rfl <;> rfl
theorem pd_T6 {n t : Nat} (ht : t < 6) : PD n (8 + 6 * t) 6 = some (9 + 6 * t) := by
  rcases (show t = 0 ∨ t = 1 ∨ t = 2 ∨ t = 3 ∨ t = 4 ∨ t = 5 by omega) with rfl | rfl | rfl | rfl | rfl | rfl <;> rfl
theorem pd_T7 {n t : Nat} (ht : t < 6) : PD n (8 + 6 * t) 7 = some (10 + 6 * t) := by
  rcases (show t = 0 ∨ t = 1 ∨ t = 2 ∨ t = 3 ∨ t = 4 ∨ t = 5 by omega) with rfl | rfl | rfl | rfl | rfl | rfl <;> rfl
theorem pd_T8 {n t : Nat} (ht : t < 6) : PD n (8 + 6 * t) 8 = some (11 + 6 * t) := by
  rcases (show t = 0 ∨ t = 1 ∨ t = 2 ∨ t = 3 ∨ t = 4 ∨ t = 5 by omega) with rfl | rfl | rfl | rfl | rfl | rfl <;> rfl
theorem pd_T9 {n t : Nat} (ht : t < 6) : PD n (8 + 6 * t) 9 = some (12 + 6 * t) := by
  rcases (show t = 0 ∨ t = 1 ∨ t = 2 ∨ t = 3 ∨ t = 4 ∨ t = 5 by omega) with rfl | rfl | rfl | rfl | rfl | rfl <;> rfl
theorem pd_T10 {n t : Nat} (ht : t < 6) : PD n (8 + 6 * t) 10 = some (13 + 6 * t) := by
  rcases (show t = 0 ∨ t = 1 ∨ t = 2 ∨ t = 3 ∨ t = 4 ∨ t = 5 by omega) with rfl | rfl | rfl | rfl | rfl | rfl <;> rfl
theorem pd_2 {n t : Nat} (ht : t < 6) : PD n 2 t = some (8 + 6 * t) := by
  rcases (show t = 0 ∨ t = 1 ∨ t = 2 ∨ t = 3 ∨ t = 4 ∨ t = 5 by omega) with rfl | rfl | rfl | rfl | rfl | rfl <;> rfl
theorem pd_45 {n m : Nat} (hm : m < n) : PD n 45 m = some (81 + 2 * m) := by
  show (if m < n then some (81 + 2 * m) else none) = _
  rw [if_pos hm]
theorem pd_M {n m : Nat} (hm : m < n) : PD n (81 + 2 * m) 6 = some (82 + 2 * m) := by
  unfold PD
  rw [if_neg (by omega), if_neg (by omega), if_pos ⟨rfl, by omega, by omega⟩]
  show some (81 + 2 * m + 1) = some (82 + 2 * m)
  congr 1
  omega
