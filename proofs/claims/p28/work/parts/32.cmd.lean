def TC (f : kV) (n : Nat) : Prop := ∀ k, k < n → ∃ m, 32 ≤ m ∧ m ≤ 126 ∧ f k = nI m
theorem kst_self {I : kI} {a k : Nat} : kst I a k (I a k) = I := by
  funext b
  by_cases h : b = a
  · subst h; rw [kst_s]; funext j; by_cases hj : j = k
    · rw [hj, upd_s]
    · rw [upd_ne hj]
  · rw [kst_n h]
theorem kst_kst {I : kI} {a k : Nat} {x y : Int32} : kst (kst I a k x) a k y = kst I a k y := by
  funext b
  by_cases h : b = a
  · subst h; rw [kst_s, kst_s, kst_s]; funext j; by_cases hj : j = k
    · rw [hj, upd_s, upd_s]
    · rw [upd_ne hj, upd_ne hj, upd_ne hj]
  · rw [kst_n h, kst_n h, kst_n h]
theorem nI48 {m : Nat} (h : m ≤ 126) : (nI m - 48).toInt = (m : Int) - 48 := by
  rw [ti_sub (by rw [ti_nI (by omega), show (48 : Int32).toInt = 48 by decide]; omega) (by rw [ti_nI (by omega), show (48 : Int32).toInt = 48 by decide]; omega), ti_nI (by omega)]; rfl
theorem rn_no1 {f : kV} {n p : Nat} {d : Int32} (hT : TC f n) (hd : d = (if p < n then f p else 0) - 48) (h : d < 0) : ¬ (p < n ∧ 48 ≤ f p ∧ f p ≤ 57) := by
  rintro ⟨h1, h2, h3⟩
  obtain ⟨m, m1, m2, m3⟩ := hT p h1
  rw [if_pos h1, m3] at hd
  rw [m3, ti_le, ti_nI (by omega), show (48 : Int32).toInt = 48 by decide] at h2
  rw [hd, ti_lt, nI48 m2, ti_0] at h
  omega
theorem rn_no2 {f : kV} {n p : Nat} {d : Int32} (hT : TC f n) (hd : d = (if p < n then f p else 0) - 48) (h : ¬ d ≤ 9) : ¬ (p < n ∧ 48 ≤ f p ∧ f p ≤ 57) := by
  rintro ⟨h1, h2, h3⟩
  obtain ⟨m, m1, m2, m3⟩ := hT p h1
  rw [if_pos h1, m3] at hd
  rw [m3, ti_le, ti_nI (by omega), show (57 : Int32).toInt = 57 by decide] at h3
  refine h ?_
  rw [hd, ti_le, nI48 m2, show (9 : Int32).toInt = 9 by decide]
  omega
theorem rn_yes {f : kV} {n p : Nat} {d : Int32} (hT : TC f n) (hd : d = (if p < n then f p else 0) - 48) (h : ¬ d < 0) (h2 : d ≤ 9) : (p < n ∧ 48 ≤ f p ∧ f p ≤ 57) ∧ ∃ m, m < 10 ∧ d = nI m := by
  by_cases h1 : p < n
  · obtain ⟨m, m1, m2, m3⟩ := hT p h1
    rw [if_pos h1, m3] at hd
    rw [hd, ti_lt, nI48 m2, ti_0] at h
    rw [hd, ti_le, nI48 m2, show (9 : Int32).toInt = 9 by decide] at h2
    refine ⟨⟨h1, ?_, ?_⟩, m - 48, by omega, ?_⟩
    · rw [m3, ti_le, ti_nI (by omega), show (48 : Int32).toInt = 48 by decide]; omega
    · rw [m3, ti_le, ti_nI (by omega), show (57 : Int32).toInt = 57 by decide]; omega
    · rw [hd]
      refine Int32.toInt_inj.mp ?_
      rw [nI48 m2, ti_nI (by omega)]; omega
  · rw [if_neg h1] at hd
    rw [hd] at h
    exact absurd (by decide) h
theorem rn_v {f : kV} {n p : Nat} {d v : Int32} (hd : d = (if p < n then f p else 0) - 48) (h1 : p < n) : 10 * v + f p - 48 = v * 10 + d := by
  rw [hd, if_pos h1, Int32.mul_comm, Int32.sub_eq_add_neg, Int32.sub_eq_add_neg, Int32.add_assoc]
theorem rn_step {i b m : Nat} {y v d : Int32} (hi : i < 4) (hv : v = nI b) (hb : b < 10 ^ i) (hy0 : i = 0 → y = -1) (hy1 : i ≠ 0 → y = v) (hm : m < 10) (hd : d = nI m) : v * 10 + d = nI (b * 10 + m) ∧ (if y < 0 then 0 else y) * 10 + d = v * 10 + d := by
  have hb4 : b < 10000 := Nat.lt_of_lt_of_le hb (by
    rcases (show i = 0 ∨ i = 1 ∨ i = 2 ∨ i = 3 by omega) with rfl | rfl | rfl | rfl <;> omega)
  refine ⟨by rw [hv, hd, show (10 : Int32) = nI 10 from rfl, pk_mul, nI_add], ?_⟩
  congr 2
  by_cases h0 : i = 0
  · have hb0 : b = 0 := by subst h0; simpa using hb
    rw [hy0 h0, hv, hb0]; decide
  · rw [hy1 h0, hv]
    have h9 : (0 : Int32) ≤ nI b := nI_pos' (by omega)
    rw [if_neg (Int32.not_lt.mpr h9)]



