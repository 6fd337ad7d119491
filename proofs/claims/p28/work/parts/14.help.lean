theorem x_m1 (x : Int32) : x + Int32.ofInt (-1) = x - 1 := by rw [Int32.sub_eq_add_neg]; rfl
theorem kd_pos {z : Int32} {k : Nat} (hz : z = nI k - 1) (h : ¬ z < 0) : ∃ j, k = j + 1 := by
  cases k with
  | zero => subst hz; exact absurd (by decide) h
  | succ j => exact ⟨j, rfl⟩
theorem nx_rb {y : Int32} {l m : Nat} (hm : l ≤ m ∧ m < 2 ^ 31) (h : nI l ≤ y ∧ y ≤ nI m) : ∃ j, j ≤ m - l ∧ y = nI (l + j) := by
  have h0 : 0 ≤ y := Int32.le_trans (nI_pos' (by omega)) h.1
  obtain ⟨j, hj, rfl⟩ := nx_ge0 h0
  have h1 := (nI_leI (by omega) hj).mp h.1
  have h2 := (nI_leI hj (by omega)).mp h.2
  exact ⟨j - l, by omega, by congr 1; omega⟩
