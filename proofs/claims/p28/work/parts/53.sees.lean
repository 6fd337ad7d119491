theorem qb_k {s : kV} (hS : SX s) {i j : Nat} (hi : i < nB s) (hj : j < 4) : qBinOf s (nI i) (nI j) = s (81 + (6 * i + j)) := by
  obtain ⟨b1, b2⟩ := SX_B hS
  have c : ¬ ¬ ((0 ≤ nI i ∧ nI i < s 12) ∧ (0 ≤ nI j ∧ nI j ≤ 6)) := fun h => h ⟨⟨nI_pos' (by omega), by rw [b2]; exact (nI_ltI (by omega) (by omega)).mpr hi⟩, nI_rg (a := 0) (b := 6) (by omega) (by omega) (by omega)⟩
  unfold qBinOf
  rw [if_neg c, if_pos (show nI j < 4 from (nI_ltI (a := j) (b := 4) (by omega) (by omega)).mpr hj), tn_nI (by omega), tn_nI (by omega), Nat.add_assoc]
theorem qb_in {s : kV} (hS : SX s) {i : Nat} {w : Int32} (hi : i < nB s) (hw : 0 ≤ w ∧ w ≤ 6) : ¬ ¬ ((0 ≤ nI i ∧ nI i < s 12) ∧ (0 ≤ w ∧ w ≤ 6)) := by
  obtain ⟨b1, b2⟩ := SX_B hS
  exact fun h => h ⟨⟨nI_pos' (by omega), by rw [b2]; exact (nI_ltI (by omega) (by omega)).mpr hi⟩, hw⟩
theorem qb_4 {s : kV} (hS : SX s) {i : Nat} (hi : i < nB s) : qBinOf s (nI i) 4 = sm s (81 + 6 * i) 4 := by
  have b8 := (SX_B hS).1
  unfold qBinOf
  rw [if_neg (qb_in hS hi (by decide)), if_neg (by decide), if_pos rfl, tn_nI (by omega)]; rfl
theorem qb_5 {s : kV} (hS : SX s) {i : Nat} (hi : i < nB s) : qBinOf s (nI i) 5 = s (81 + (6 * i + 4)) + 1000000000 := by
  have b8 := (SX_B hS).1
  unfold qBinOf
  rw [if_neg (qb_in hS hi (by decide)), if_neg (by decide), if_neg (by decide), if_pos rfl, tn_nI (by omega), show 81 + (6 * i + 4) = 85 + 6 * i by omega]
theorem qb_6 {s : kV} (hS : SX s) {i : Nat} (hi : i < nB s) : qBinOf s (nI i) 6 = s (81 + (6 * i + 5)) := by
  have b8 := (SX_B hS).1
  unfold qBinOf
  rw [if_neg (qb_in hS hi (by decide)), if_neg (by decide), if_neg (by decide), if_neg (by decide), tn_nI (by omega), show 81 + (6 * i + 5) = 86 + 6 * i by omega]
theorem qb_7 {s : kV} {x : Int32} : qBinOf s x 7 = -1000001 := by
  unfold qBinOf
  rw [if_pos (fun h => absurd h.2.2 (by decide))]
theorem qb_o {s : kV} : qBinOf s (s 12) 0 = -1000001 := by
  unfold qBinOf
  rw [if_pos (fun h => Int32.lt_irrefl h.1.2)]
theorem qb_m {s : kV} : qBinOf s (-1) 0 = -1000001 := by
  unfold qBinOf
  rw [if_pos (fun h => absurd h.1.1 (by decide))]
theorem qm_k {s : kV} {i : Nat} (hi : i < 48) : qMassAt s (nI (i / 4)) (nI (i % 4)) = s (21 + i) := by
  unfold qMassAt
  rw [if_neg (fun h => h ⟨nI_rg (a := 0) (b := 11) (by omega) (by omega) (by omega), Int32.le_trans (by decide) (nI_pos' (by omega)), (nI_rg (a := 0) (b := 3) (by omega) (by omega) (by omega)).2⟩), if_neg (nI_pos (by omega)), tn_nI (by omega), tn_nI (by omega)]
  congr 1; omega
theorem qm_m {s : kV} {p : Nat} (hp : p < 12) : qMassAt s (nI p) (-1) = sm s (21 + 4 * p) 4 := by
  unfold qMassAt
  rw [if_neg (fun h => h ⟨nI_rg (a := 0) (b := 11) (by omega) (by omega) (by omega), by decide, by decide⟩), if_pos (by decide), tn_nI (by omega)]
theorem qm_o {s : kV} : qMassAt s 12 0 = -1000001 := by
  unfold qMassAt
  rw [if_pos (fun h => absurd h.1.2 (by decide))]
theorem ql_in {s : kV} (hS : SX s) {i : Nat} (hi : i / 2 < nLo s) : qLotOf s (nI (i / 2)) (nI (i % 2)) = s (69 + i) := by
  obtain ⟨l1, l2, -⟩ := SX_L hS
  unfold qLotOf
  rw [if_neg (fun h => h.elim (fun h => nI_pos (by omega) h) (fun h => h (nI_rg (a := 0) (b := 1) (by omega) (by omega) (by omega)))), if_neg (fun h => by rw [l2] at h; have := (nI_leI (by omega) (by omega)).mp h; omega), tn_nI (by omega), tn_nI (by omega)]
  congr 1; omega
theorem ql_out {s : kV} (hS : SX s) {i : Nat} (hi : i < 12) (h : ¬ i / 2 < nLo s) : qLotOf s (nI (i / 2)) (nI (i % 2)) = -1000004 := by
  obtain ⟨l1, l2, -⟩ := SX_L hS
  unfold qLotOf
  rw [if_neg (fun h => h.elim (fun h => nI_pos (by omega) h) (fun h => h (nI_rg (a := 0) (b := 1) (by omega) (by omega) (by omega)))), if_pos (by rw [l2]; exact (nI_leI (by omega) (by omega)).mpr (by omega))]
theorem ql_o {s : kV} : qLotOf s 0 2 = -1000001 := by
  unfold qLotOf
  rw [if_pos (Or.inr (by decide))]
theorem qa_in {s : kV} (hS : SX s) {a : Nat} {w : Int32} (ha : a < nAc s) (hw : 0 ≤ w ∧ w ≤ 4) : ¬ ¬ ((0 ≤ nI a ∧ nI a < s 14) ∧ (0 ≤ w ∧ w ≤ 4)) := by
  obtain ⟨a1, a2, a3, -⟩ := SX_A hS
  exact fun h => h ⟨⟨nI_pos' (by omega), by rw [a3]; exact (nI_ltI (by omega) (by omega)).mpr ha⟩, hw⟩
theorem qa_0 {s : kV} (hS : SX s) {a : Nat} (ha : a < nAc s) : qAccountOf s (nI a) 0 = s (129 + 2 * a) := by
  have a2 := (SX_A hS).2.1
  unfold qAccountOf
  rw [if_neg (qa_in hS ha (by decide)), if_pos (by decide), tn_nI (by omega), show tn 0 = 0 from rfl, Nat.add_zero]
theorem qa_1 {s : kV} (hS : SX s) {a : Nat} (ha : a < nAc s) : qAccountOf s (nI a) 1 = s (129 + (2 * a + 1)) := by
  have a2 := (SX_A hS).2.1
  unfold qAccountOf
  rw [if_neg (qa_in hS ha (by decide)), if_pos (by decide), tn_nI (by omega), show tn 1 = 1 from rfl, Nat.add_assoc]
theorem qa_5 {s : kV} {x : Int32} : qAccountOf s x 5 = -1000001 := by
  unfold qAccountOf
  rw [if_pos (fun h => absurd h.2.2 (by decide))]
theorem qa_o {s : kV} : qAccountOf s (s 14) 0 = -1000001 := by
  unfold qAccountOf
  rw [if_pos (fun h => Int32.lt_irrefl h.1.2)]
def smF (s : kV) : Nat → Int32
  | 0 => 0
  | n + 1 => smF s n + (if n % 6 < 4 ∧ n / 6 < nB s then s (81 + n) else 0)
def smH (s : kV) : Nat → Int32
  | 0 => 0
  | n + 1 => smH s n + (if n % 2 = 1 ∧ n / 2 < nLo s then s (69 + n) else 0)
theorem smF_6 {s : kV} : ∀ n, smF s (6 * n) = smB s (min n (nB s))
  | 0 => by rw [Nat.zero_min]; rfl
  | n + 1 => by
    have ih := smF_6 (s := s) n
    have e : smF s (6 * (n + 1)) = smF s (6 * n) + (if (6 * n) % 6 < 4 ∧ (6 * n) / 6 < nB s then s (81 + 6 * n) else 0) + (if (6 * n + 1) % 6 < 4 ∧ (6 * n + 1) / 6 < nB s then s (81 + (6 * n + 1)) else 0) + (if (6 * n + 2) % 6 < 4 ∧ (6 * n + 2) / 6 < nB s then s (81 + (6 * n + 2)) else 0) + (if (6 * n + 3) % 6 < 4 ∧ (6 * n + 3) / 6 < nB s then s (81 + (6 * n + 3)) else 0) + (if (6 * n + 4) % 6 < 4 ∧ (6 * n + 4) / 6 < nB s then s (81 + (6 * n + 4)) else 0) + (if (6 * n + 5) % 6 < 4 ∧ (6 * n + 5) / 6 < nB s then s (81 + (6 * n + 5)) else 0) := rfl
    rw [e, ih, if_neg (show ¬ ((6 * n + 4) % 6 < 4 ∧ (6 * n + 4) / 6 < nB s) by omega), if_neg (show ¬ ((6 * n + 5) % 6 < 4 ∧ (6 * n + 5) / 6 < nB s) by omega), Int32.add_zero, Int32.add_zero]
    by_cases h : n < nB s
    · rw [if_pos (by omega), if_pos (by omega), if_pos (by omega), if_pos (by omega), show min (n + 1) (nB s) = n + 1 by omega, show min n (nB s) = n by omega]
      show _ = smB s n + bMass s n
      have e4 : bMass s n = 0 + s (81 + 6 * n + 0) + s (81 + 6 * n + 1) + s (81 + 6 * n + 2) + s (81 + 6 * n + 3) := rfl
      rw [e4, Int32.zero_add, Nat.add_assoc 81 (6 * n) 1, Nat.add_assoc 81 (6 * n) 2, Nat.add_assoc 81 (6 * n) 3, Nat.add_zero]
      ac_rfl
    · rw [if_neg (by omega), if_neg (by omega), if_neg (by omega), if_neg (by omega), show min (n + 1) (nB s) = min n (nB s) by omega, Int32.add_zero, Int32.add_zero, Int32.add_zero, Int32.add_zero]
theorem smF_48 {s : kV} (hS : SX s) : smF s 48 = smB s (nB s) := by
  have h := smF_6 (s := s) 8
  rw [show min 8 (nB s) = nB s by have := (SX_B hS).1; omega] at h
  exact h
theorem smH_2 {s : kV} : ∀ n, smH s (2 * n) = smL s (min n (nLo s))
  | 0 => by rw [Nat.zero_min]; rfl
  | n + 1 => by
    have ih := smH_2 (s := s) n
    have e : smH s (2 * (n + 1)) = smH s (2 * n) + (if (2 * n) % 2 = 1 ∧ (2 * n) / 2 < nLo s then s (69 + 2 * n) else 0) + (if (2 * n + 1) % 2 = 1 ∧ (2 * n + 1) / 2 < nLo s then s (69 + (2 * n + 1)) else 0) := rfl
    rw [e, ih, if_neg (show ¬ ((2 * n) % 2 = 1 ∧ (2 * n) / 2 < nLo s) by omega), Int32.add_zero]
    by_cases h : n < nLo s
    · rw [if_pos (by omega), show min (n + 1) (nLo s) = n + 1 by omega, show min n (nLo s) = n by omega, show 69 + (2 * n + 1) = 70 + 2 * n by omega]
      rfl
    · rw [if_neg (by omega), show min (n + 1) (nLo s) = min n (nLo s) by omega, Int32.add_zero]
theorem smH_12 {s : kV} (hS : SX s) : smH s 12 = smL s (nLo s) := by
  have h := smH_2 (s := s) 6
  rw [show min 6 (nLo s) = nLo s by have := (SX_L hS).1; omega] at h
  exact h
theorem qc_st {s : kV} {np nt : Int32} {i : Nat} (hi : i < 3) : qCount s np nt (nI (20 + i)) = s (18 + i) + (if i = 2 then 10 else 0) := by
  rw [qCount_st (nI_rg (a := 20) (b := 22) (by omega) (by omega) (by omega)), tn_nI (by omega), show 20 + i - 20 = i by omega]
  congr 1
  by_cases h : i = 2
  · subst h; rfl
  · rw [if_neg h, if_neg (fun e => h (by have := (nI_eq (a := 20 + i) (b := 22) (by omega) (by omega)).mp e; omega))]
theorem qc_bk {s : kV} {np nt : Int32} {i : Nat} (hi : i < 4) : qCount s np nt (nI (30 + i)) = s (145 + i) := by
  rw [qCount_bk (nI_rg (a := 30) (b := 33) (by omega) (by omega) (by omega)), tn_nI (by omega), show 30 + i - 30 = i by omega]
theorem lg_self (x : Int64) : lg_cmp x x = 0 := by
  unfold lg_cmp
  rw [if_neg (Int64.lt_irrefl), if_pos rfl]
theorem tdivK (a : Int) : (0 ≤ a ∧ a.tdiv 1000 = a / 1000) ∨ (a < 0 ∧ a.tdiv 1000 = -((-a) / 1000)) := by
  by_cases h : 0 ≤ a
  · exact Or.inl ⟨h, Int.tdiv_eq_ediv_of_nonneg h⟩
  · refine Or.inr ⟨by omega, ?_⟩
    have e : a.tdiv 1000 = -((-a).tdiv 1000) := by rw [Int.neg_tdiv, Int.neg_neg]
    rw [e, Int.tdiv_eq_ediv_of_nonneg (by omega)]
def told (s : kV) : Int64 := (s 5).toInt64 * (s 7).toInt64 / 1000
theorem told_b {s : kV} (hI : LI s) (ht : (s 2).toInt ≤ 4000) : (told s).toInt = ((s 5).toInt * (s 7).toInt).tdiv 1000 ∧ -900000000 ≤ (told s).toInt ∧ (told s).toInt ≤ 900000000 := by
  obtain ⟨⟨t1, t2⟩, -, f1, f2⟩ := hI.2.2.1
  have t0 := hI.1.2.2.1.1
  have sb : (s 2).toInt * (s 2).toInt ≤ 4000 * (s 2).toInt := Int.mul_le_mul_of_nonneg_right ht t0
  have p1 : (s 5).toInt * (s 7).toInt ≤ 448120000 * (s 7).toInt := Int.mul_le_mul_of_nonneg_right (by omega) (by omega)
  have p2 : -448120000 * (s 7).toInt ≤ (s 5).toInt * (s 7).toInt := Int.mul_le_mul_of_nonneg_right (by omega) (by omega)
  have e1 : ((s 5).toInt64 * (s 7).toInt64).toInt = (s 5).toInt * (s 7).toInt := by
    rw [Int64.toInt_mul, Int32.toInt_toInt64, Int32.toInt_toInt64]
    exact Int.bmod_eq_of_le (by omega) (by omega)
  have e2 : (told s).toInt = ((s 5).toInt * (s 7).toInt).tdiv 1000 := by
    unfold told
    rw [Int64.toInt_div_of_ne_right _ _ (by decide), e1, show (1000 : Int64).toInt = 1000 by decide]
  have d := tdivK ((s 5).toInt * (s 7).toInt)
  exact ⟨e2, by rw [e2]; omega, by rw [e2]; omega⟩
theorem told_q {s : kV} (hI : LI s) (ht : (s 2).toInt ≤ 4000) : (qTotal s).toInt = (told s).toInt := by
  obtain ⟨-, b1, b2⟩ := told_b hI ht
  show ((told s).toInt32).toInt = _
  rw [Int64.toInt_toInt32]
  exact Int.bmod_eq_of_le (by omega) (by omega)
theorem ti_G : (1000000000 : Int32).toInt = 1000000000 := by decide
theorem tl_G : (1000000000 : Int64).toInt = 1000000000 := by decide
theorem told_4 {s : kV} (hI : LI s) (ht : (s 2).toInt ≤ 4000) : (qTotal s + 1000000000).toInt64 = told s + 1000000000 := by
  obtain ⟨-, b1, b2⟩ := told_b hI ht
  have e := told_q hI ht
  refine Int64.toInt_inj.mp ?_
  rw [Int32.toInt_toInt64, ti_add (by rw [ti_G, e]; omega) (by rw [ti_G, e]; omega), ti_G, e, Int64.toInt_add, tl_G]
  exact (Int.bmod_eq_of_le (by omega) (by omega)).symm
theorem told_e {s : kV} (hI : LI s) (ht : (s 2).toInt ≤ 4000) : (qError s).toInt64 = told s - (s 11).toInt64 + 1000000000 := by
  obtain ⟨-, b1, b2⟩ := told_b hI ht
  have e := told_q hI ht
  have u := hI.1.2.2.2.2.1
  have z := zs_nn u.1
  have z1 := u.2.1
  have z2 := u.2.2.1
  have e1 : (qTotal s - s 11).toInt = (told s).toInt - (s 11).toInt := by rw [ti_sub (by rw [e]; omega) (by rw [e]; omega), e]
  have e2 : (told s - (s 11).toInt64).toInt = (told s).toInt - (s 11).toInt := by
    rw [Int64.toInt_sub, Int32.toInt_toInt64]
    exact Int.bmod_eq_of_le (by omega) (by omega)
  refine Int64.toInt_inj.mp ?_
  unfold qError
  rw [Int32.toInt_toInt64, ti_add (by rw [ti_G, e1]; omega) (by rw [ti_G, e1]; omega), ti_G, e1, Int64.toInt_add, e2, tl_G]
  exact (Int.bmod_eq_of_le (by omega) (by omega)).symm
theorem qc_0 {s : kV} {np nt : Int32} : qCount s np nt 0 = s 13 := by
  unfold qCount
  rw [if_pos rfl]
theorem qc_1 {s : kV} {np nt : Int32} : qCount s np nt 1 = s 0 := by
  unfold qCount
  rw [if_neg (by decide), if_pos rfl]
theorem qc_2 {s : kV} {np nt : Int32} : qCount s np nt 2 = s 1 := by
  unfold qCount
  rw [if_neg (by decide), if_neg (by decide), if_pos rfl]
theorem qc_3 {s : kV} {np nt : Int32} : qCount s np nt 3 = s 12 := by
  unfold qCount
  rw [if_neg (by decide), if_neg (by decide), if_neg (by decide), if_pos rfl]
theorem qc_4 {s : kV} {np nt : Int32} : qCount s np nt 4 = (if s 12 = 0 then -1000004 else s 12 - 1) := by
  unfold qCount
  rw [if_neg (by decide), if_neg (by decide), if_neg (by decide), if_neg (by decide), if_pos rfl]
theorem qc_5 {s : kV} {np nt : Int32} : qCount s np nt 5 = qTold s 5 := by
  unfold qCount
  rw [if_neg (by decide), if_neg (by decide), if_neg (by decide), if_neg (by decide), if_neg (by decide), if_pos rfl]
theorem qc_6 {s : kV} {np nt : Int32} : qCount s np nt 6 = qTold s 6 := by
  unfold qCount
  rw [if_neg (by decide), if_neg (by decide), if_neg (by decide), if_neg (by decide), if_neg (by decide), if_neg (by decide), if_pos rfl]
theorem qc_7 {s : kV} {np nt : Int32} : qCount s np nt 7 = s 2 := by
  unfold qCount
  rw [if_neg (by decide), if_neg (by decide), if_neg (by decide), if_neg (by decide), if_neg (by decide), if_neg (by decide), if_neg (by decide), if_pos rfl]
theorem qc_8 {s : kV} {np nt : Int32} : qCount s np nt 8 = sm s 21 48 := by
  unfold qCount
  rw [if_neg (by decide), if_neg (by decide), if_neg (by decide), if_neg (by decide), if_neg (by decide), if_neg (by decide), if_neg (by decide), if_neg (by decide), if_pos rfl]
theorem qc_9 {s : kV} {np nt : Int32} : qCount s np nt 9 = smL s (nLo s) := by
  unfold qCount
  rw [if_neg (by decide), if_neg (by decide), if_neg (by decide), if_neg (by decide), if_neg (by decide), if_neg (by decide), if_neg (by decide), if_neg (by decide), if_neg (by decide), if_pos rfl]
theorem qc_10 {s : kV} {np nt : Int32} : qCount s np nt 10 = s 9 := by
  unfold qCount
  rw [if_neg (by decide), if_neg (by decide), if_neg (by decide), if_neg (by decide), if_neg (by decide), if_neg (by decide), if_neg (by decide), if_neg (by decide), if_neg (by decide), if_neg (by decide), if_pos rfl]
theorem qc_11 {s : kV} {np nt : Int32} : qCount s np nt 11 = smB s (nB s) := by
  unfold qCount
  rw [if_neg (by decide), if_neg (by decide), if_neg (by decide), if_neg (by decide), if_neg (by decide), if_neg (by decide), if_neg (by decide), if_neg (by decide), if_neg (by decide), if_neg (by decide), if_neg (by decide), if_pos rfl]
theorem qc_12 {s : kV} {np nt : Int32} : qCount s np nt 12 = s 10 := by
  unfold qCount
  rw [if_neg (by decide), if_neg (by decide), if_neg (by decide), if_neg (by decide), if_neg (by decide), if_neg (by decide), if_neg (by decide), if_neg (by decide), if_neg (by decide), if_neg (by decide), if_neg (by decide), if_neg (by decide), if_pos rfl]
theorem qc_13 {s : kV} {np nt : Int32} : qCount s np nt 13 = s 14 := by
  unfold qCount
  rw [if_neg (by decide), if_neg (by decide), if_neg (by decide), if_neg (by decide), if_neg (by decide), if_neg (by decide), if_neg (by decide), if_neg (by decide), if_neg (by decide), if_neg (by decide), if_neg (by decide), if_neg (by decide), if_neg (by decide), if_pos rfl]
theorem qc_15 {s : kV} {np nt : Int32} : qCount s np nt 15 = nt := by
  unfold qCount
  rw [if_neg (by decide), if_neg (by decide), if_neg (by decide), if_neg (by decide), if_neg (by decide), if_neg (by decide), if_neg (by decide), if_neg (by decide), if_neg (by decide), if_neg (by decide), if_neg (by decide), if_neg (by decide), if_neg (by decide), if_neg (by decide), if_neg (by decide), if_pos rfl]
theorem qc_16 {s : kV} {np nt : Int32} : qCount s np nt 16 = -1000001 := by
  unfold qCount
  rw [if_neg (by decide), if_neg (by decide), if_neg (by decide), if_neg (by decide), if_neg (by decide), if_neg (by decide), if_neg (by decide), if_neg (by decide), if_neg (by decide), if_neg (by decide), if_neg (by decide), if_neg (by decide), if_neg (by decide), if_neg (by decide), if_neg (by decide), if_neg (by decide), if_neg (by decide), if_neg (by decide)]
theorem qc_34 {s : kV} {np nt : Int32} : qCount s np nt 34 = -1000001 := by
  unfold qCount
  rw [if_neg (by decide), if_neg (by decide), if_neg (by decide), if_neg (by decide), if_neg (by decide), if_neg (by decide), if_neg (by decide), if_neg (by decide), if_neg (by decide), if_neg (by decide), if_neg (by decide), if_neg (by decide), if_neg (by decide), if_neg (by decide), if_neg (by decide), if_neg (by decide), if_neg (by decide), if_neg (by decide)]
theorem qs_0 {s : kV} : qScale s 0 = rdg s + 1000000 := by
  unfold qScale
  rw [if_pos rfl]
theorem qs_1 {s : kV} : qScale s 1 = s 3 + 1000000 := by
  unfold qScale
  rw [if_neg (by decide), if_pos rfl]
theorem qs_2 {s : kV} : qScale s 2 = s 4 + 1000000 := by
  unfold qScale
  rw [if_neg (by decide), if_neg (by decide), if_pos rfl]
theorem qs_3 {s : kV} : qScale s 3 = s 5 + 1000000000 := by
  unfold qScale
  rw [if_neg (by decide), if_neg (by decide), if_neg (by decide), if_pos rfl]
theorem qs_4 {s : kV} : qScale s 4 = qTotal s + 1000000000 := by
  unfold qScale
  rw [if_neg (by decide), if_neg (by decide), if_neg (by decide), if_neg (by decide), if_pos rfl]
theorem qs_5 {s : kV} : qScale s 5 = s 7 := by
  unfold qScale
  rw [if_neg (by decide), if_neg (by decide), if_neg (by decide), if_neg (by decide), if_neg (by decide), if_pos rfl]
theorem qs_6 {s : kV} : qScale s 6 = s 8 := by
  unfold qScale
  rw [if_neg (by decide), if_neg (by decide), if_neg (by decide), if_neg (by decide), if_neg (by decide), if_neg (by decide), if_pos rfl]
theorem qs_7 {s : kV} : qScale s 7 = -1000001 := by
  unfold qScale
  rw [if_neg (by decide), if_neg (by decide), if_neg (by decide), if_neg (by decide), if_neg (by decide), if_neg (by decide), if_neg (by decide)]
set_option maxHeartbeats 4000000 in
set_option maxRecDepth 100000 in
theorem c_L_areBins {g : kG} {σ : kS} {I : kI} {r q : Nat} {T : Int} (h : LSd g σ r q I T) (hTT : T ≤ 4000)  : ct g mL_areBins ⟨2, 0, 0, 46⟩ [.ref r, .ref q, .ref (q + 3)] σ I (qI 1 σ I) := by
  refine ct_of pnL rfl (Nat.le_of_ble_eq_true rfl) ok_L_areBins.1 trivial ?_
  show wp _ _ _ _ _ _ _ _ 0 [some (.ref r), some (.ref q), some (.ref (q + 3)), none, none, none, none] []
  obtain ⟨x, c, f, hW, hC, hI, hL, hD, hTm⟩ := h
  have hS := hI.1.1
  obtain ⟨b1, b2⟩ := SX_B hS
  have e12 : I q 12 = nI (nB c.1) := (hD.1 12 (by omega)).trans b2
  refine w_aload_0 (pc := 0) dL_areBins_0 ?_
  refine w_aload_1 (pc := 1) dL_areBins_1 ?_
  refine w_bipush (pc := 2) (v := 12) dL_areBins_2 (by decide) ?_
  refine w_iald (pc := 4) (j := 12) (sL_in0 hL) hL.2.1 rfl (by decide) (by decide) dL_areBins_4 ?_
  refine w_iconst (pc := 5) (v := 0) dL_areBins_5 (by decide) ?_
  rw [hD.1 12 (by omega)]
  refine w_callV_I (pc := 6) (c_BS_binOf hW hC) ok_X10_binOf t621 t622 kc10 (sBS_in hW.1) hW.1.2.1 t620 ⟨Nat.le_of_ble_eq_true rfl, Nat.le_of_ble_eq_true rfl⟩ ⟨rfl, rfl⟩ ⟨Nat.le_refl _, Nat.le_refl _⟩ rfl (Nat.le_of_ble_eq_true rfl) dL_areBins_6 ?_
  rw [qb_o]
  refine w_ldc (pc := 9) (v := -1000001) t574 dL_areBins_9 ?_
  refine w_icmp_ne (pc := 11) (tgt := 29) dL_areBins_11 (by decide) (fun c11 => ?_) (fun c11 => ?_)
  · exact (c11 rfl).elim
  · refine w_aload_0 (pc := 14) dL_areBins_14 ?_
    refine w_iconst (pc := 15) (v := -1) dL_areBins_15 (by decide) ?_
    refine w_iconst (pc := 16) (v := 0) dL_areBins_16 (by decide) ?_
    refine w_callV_I (pc := 17) (c_BS_binOf hW hC) ok_X10_binOf t621 t622 kc10 (sBS_in hW.1) hW.1.2.1 t620 ⟨Nat.le_of_ble_eq_true rfl, Nat.le_of_ble_eq_true rfl⟩ ⟨rfl, rfl⟩ ⟨Nat.le_refl _, Nat.le_refl _⟩ rfl (Nat.le_of_ble_eq_true rfl) dL_areBins_17 ?_
    rw [qb_m]
    refine w_ldc (pc := 20) (v := -1000001) t574 dL_areBins_20 ?_
    refine w_icmp_ne (pc := 22) (tgt := 29) dL_areBins_22 (by decide) (fun c22 => ?_) (fun c22 => ?_)
    · exact (c22 rfl).elim
    · refine w_iconst (pc := 25) (v := 1) dL_areBins_25 (by decide) ?_
      refine w_goto (pc := 26) (tgt := 30) dL_areBins_26 (by decide) ?_
      refine w_istore_3 (pc := 30) dL_areBins_30 rfl ?_
      refine w_iconst (pc := 31) (v := 0) dL_areBins_31 (by decide) ?_
      refine w_istore_4 (pc := 32) dL_areBins_32 rfl ?_
      have L0 : ∀ (n i : Nat) (z : Int32), i ≤ nB c.1 → nB c.1 + 1 ≤ i + n → z = nI i → wp g mL_areBins ⟨2, 0, 0, 46⟩ (fun _ => True) (qI 1 σ I) (0, 0) σ I 34 [some (.ref r), some (.ref q), some (.ref (q + 3)), some (.int 1), some (.int z), none, none] [] := by
        intro n
        induction n with
        | zero => intro i z h1 h2; exact absurd h2 (by omega)
        | succ n ih =>
          intro i z h1 h2 hz
          refine w_iload_4 (pc := 34) dL_areBins_34 ?_
          refine w_aload_1 (pc := 36) dL_areBins_36 ?_
          refine w_bipush (pc := 37) (v := 12) dL_areBins_37 (by decide) ?_
          refine w_iald (pc := 39) (j := 12) (sL_in0 hL) hL.2.1 rfl (by decide) (by decide) dL_areBins_39 ?_
          refine w_icmp_ge (pc := 40) (tgt := 194) dL_areBins_40 (by decide) (fun c40 => ?_) (fun c40 => ?_)
          · have hi : nB c.1 ≤ i := (nx_cmp e12 (by omega) hz (by omega)).1.mp c40
            refine w_iload_3 (pc := 194) dL_areBins_194 ?_
            refine w_zret (pc := 195) rfl (by decide) ⟨Nat.le_refl _, Nat.le_refl _⟩ dL_areBins_195 ?_
            exact ⟨rfl, rfl, rfl⟩
          · have hi : i < nB c.1 := nx_nle c40 e12 (by omega) hz (by omega)
            refine w_iload_3 (pc := 43) dL_areBins_43 ?_
            refine w_if_eq (pc := 44) (tgt := 194) dL_areBins_44 (by decide) (fun c9 => absurd c9 (by decide)) (fun _ => ?_)
            refine w_iconst (pc := 47) (v := 0) dL_areBins_47 (by decide) ?_
            refine w_istore_5 (pc := 48) dL_areBins_48 rfl ?_
            refine w_iconst (pc := 50) (v := 0) dL_areBins_50 (by decide) ?_
            refine w_istore_6 (pc := 51) dL_areBins_51 rfl ?_
            have L1 : ∀ (n j : Nat) (a w : Int32), j ≤ 4 → 5 ≤ j + n → w = nI j → a = sm c.1 (81 + 6 * i) j → wp g mL_areBins ⟨2, 0, 0, 46⟩ (fun _ => True) (qI 1 σ I) (0, 0) σ I 53 [some (.ref r), some (.ref q), some (.ref (q + 3)), some (.int 1), some (.int z), some (.int a), some (.int w)] [] := by
              intro n
              induction n with
              | zero => intro j a w h1 h2; exact absurd h2 (by omega)
              | succ n ih1 =>
                intro j a w h1 h2 hw ha
                refine w_iload_6 (pc := 53) dL_areBins_53 ?_
                refine w_iconst (pc := 55) (v := 4) dL_areBins_55 (by decide) ?_
                refine w_icmp_ge (pc := 56) (tgt := 111) dL_areBins_56 (by decide) (fun c56 => ?_) (fun c56 => ?_)
                · have hj : j = 4 := by
                    have := (nx_cmp (x := 4) (a := 4) rfl (by omega) hw (by omega)).1.mp c56
                    omega
                  subst hj
                  refine w_iload_3 (pc := 111) dL_areBins_111 ?_
                  refine w_if_eq (pc := 112) (tgt := 186) dL_areBins_112 (by decide) (fun c9 => absurd c9 (by decide)) (fun _ => ?_)
                  refine w_aload_0 (pc := 115) dL_areBins_115 ?_
                  refine w_iload_4 (pc := 116) dL_areBins_116 ?_
                  refine w_iconst (pc := 118) (v := 4) dL_areBins_118 (by decide) ?_
                  refine w_callV_I (pc := 119) (c_BS_binOf hW hC) ok_X10_binOf t621 t622 kc10 (sBS_in hW.1) hW.1.2.1 t620 ⟨Nat.le_of_ble_eq_true rfl, Nat.le_of_ble_eq_true rfl⟩ ⟨rfl, rfl⟩ ⟨Nat.le_refl _, Nat.le_refl _⟩ rfl (Nat.le_of_ble_eq_true rfl) dL_areBins_119 ?_
                  rw [hz, qb_4 hS hi, ← hz]
                  refine w_iload_5 (pc := 122) dL_areBins_122 ?_
                  refine w_icmp_ne (pc := 124) (tgt := 186) dL_areBins_124 (by decide) (fun c124 => ?_) (fun c124 => ?_)
                  · exact (c124 ha.symm).elim
                  · refine w_aload_0 (pc := 127) dL_areBins_127 ?_
                    refine w_iload_4 (pc := 128) dL_areBins_128 ?_
                    refine w_iconst (pc := 130) (v := 5) dL_areBins_130 (by decide) ?_
                    refine w_callV_I (pc := 131) (c_BS_binOf hW hC) ok_X10_binOf t621 t622 kc10 (sBS_in hW.1) hW.1.2.1 t620 ⟨Nat.le_of_ble_eq_true rfl, Nat.le_of_ble_eq_true rfl⟩ ⟨rfl, rfl⟩ ⟨Nat.le_refl _, Nat.le_refl _⟩ rfl (Nat.le_of_ble_eq_true rfl) dL_areBins_131 ?_
                    rw [hz, qb_5 hS hi, ← hz]
                    refine w_aload_2 (pc := 134) dL_areBins_134 ?_
                    refine w_bipush (pc := 135) (v := 6) dL_areBins_135 (by decide) ?_
                    refine w_iload_4 (pc := 137) dL_areBins_137 ?_
                    refine w_imul (pc := 139) dL_areBins_139 ?_
                    refine w_iconst (pc := 140) (v := 4) dL_areBins_140 (by decide) ?_
                    refine w_iadd (pc := 141) dL_areBins_141 ?_
                    refine w_iald (pc := 142) (j := 6 * i + 4) (sL_in hL (k := 3) (by decide)) hL.2.2.2.2.1 (by rw [hz, show (6 : Int32) = nI 6 from rfl, pk_mul]; exact nI_add (6 * i) 4) (by omega) (by decide) dL_areBins_142 ?_
                    refine w_ldc (pc := 143) (v := 1000000000) t627 dL_areBins_143 ?_
                    refine w_iadd (pc := 145) dL_areBins_145 ?_
                    refine w_icmp_ne (pc := 146) (tgt := 186) dL_areBins_146 (by decide) (fun c146 => ?_) (fun c146 => ?_)
                    · exact (c146 (by rw [hD.2.2.2.1 _ (by omega)])).elim
                    · refine w_aload_0 (pc := 149) dL_areBins_149 ?_
                      refine w_iload_4 (pc := 150) dL_areBins_150 ?_
                      refine w_bipush (pc := 152) (v := 6) dL_areBins_152 (by decide) ?_
                      refine w_callV_I (pc := 154) (c_BS_binOf hW hC) ok_X10_binOf t621 t622 kc10 (sBS_in hW.1) hW.1.2.1 t620 ⟨Nat.le_of_ble_eq_true rfl, Nat.le_of_ble_eq_true rfl⟩ ⟨rfl, rfl⟩ ⟨Nat.le_refl _, Nat.le_refl _⟩ rfl (Nat.le_of_ble_eq_true rfl) dL_areBins_154 ?_
                      rw [hz, qb_6 hS hi, ← hz]
                      refine w_aload_2 (pc := 157) dL_areBins_157 ?_
                      refine w_bipush (pc := 158) (v := 6) dL_areBins_158 (by decide) ?_
                      refine w_iload_4 (pc := 160) dL_areBins_160 ?_
                      refine w_imul (pc := 162) dL_areBins_162 ?_
                      refine w_iconst (pc := 163) (v := 5) dL_areBins_163 (by decide) ?_
                      refine w_iadd (pc := 164) dL_areBins_164 ?_
                      refine w_iald (pc := 165) (j := 6 * i + 5) (sL_in hL (k := 3) (by decide)) hL.2.2.2.2.1 (by rw [hz, show (6 : Int32) = nI 6 from rfl, pk_mul]; exact nI_add (6 * i) 5) (by omega) (by decide) dL_areBins_165 ?_
                      refine w_icmp_ne (pc := 166) (tgt := 186) dL_areBins_166 (by decide) (fun c166 => ?_) (fun c166 => ?_)
                      · exact (c166 (hD.2.2.2.1 _ (by omega)).symm).elim
                      · refine w_aload_0 (pc := 169) dL_areBins_169 ?_
                        refine w_iload_4 (pc := 170) dL_areBins_170 ?_
                        refine w_bipush (pc := 172) (v := 7) dL_areBins_172 (by decide) ?_
                        refine w_callV_I (pc := 174) (c_BS_binOf hW hC) ok_X10_binOf t621 t622 kc10 (sBS_in hW.1) hW.1.2.1 t620 ⟨Nat.le_of_ble_eq_true rfl, Nat.le_of_ble_eq_true rfl⟩ ⟨rfl, rfl⟩ ⟨Nat.le_refl _, Nat.le_refl _⟩ rfl (Nat.le_of_ble_eq_true rfl) dL_areBins_174 ?_
                        rw [qb_7]
                        refine w_ldc (pc := 177) (v := -1000001) t574 dL_areBins_177 ?_
                        refine w_icmp_ne (pc := 179) (tgt := 186) dL_areBins_179 (by decide) (fun c179 => ?_) (fun c179 => ?_)
                        · exact (c179 rfl).elim
                        · refine w_iconst (pc := 182) (v := 1) dL_areBins_182 (by decide) ?_
                          refine w_goto (pc := 183) (tgt := 187) dL_areBins_183 (by decide) ?_
                          refine w_istore_3 (pc := 187) dL_areBins_187 rfl ?_
                          refine w_iinc_4 (pc := 188) dL_areBins_188 rfl rfl ?_
                          refine w_goto (pc := 191) (tgt := 34) dL_areBins_191 (by decide) ?_
                          refine w_drop 5 ?_
                          refine w_drop 6 ?_
                          exact ih (i + 1) _ (by omega) (by omega) (by rw [hz]; exact nI_1 i)
                · have hj : j < 4 := nx_nle (x := 4) (a := 4) c56 rfl (by omega) hw (by omega)
                  refine w_iload_5 (pc := 59) dL_areBins_59 ?_
                  refine w_aload_2 (pc := 61) dL_areBins_61 ?_
                  refine w_bipush (pc := 62) (v := 6) dL_areBins_62 (by decide) ?_
                  refine w_iload_4 (pc := 64) dL_areBins_64 ?_
                  refine w_imul (pc := 66) dL_areBins_66 ?_
                  refine w_iload_6 (pc := 67) dL_areBins_67 ?_
                  refine w_iadd (pc := 69) dL_areBins_69 ?_
                  refine w_iald (pc := 70) (j := 6 * i + j) (sL_in hL (k := 3) (by decide)) hL.2.2.2.2.1 (by rw [hz, hw, show (6 : Int32) = nI 6 from rfl, pk_mul, nI_add]) (by omega) (by decide) dL_areBins_70 ?_
                  refine w_iadd (pc := 71) dL_areBins_71 ?_
                  refine w_istore_5 (pc := 72) dL_areBins_72 rfl ?_
                  refine w_iload_3 (pc := 74) dL_areBins_74 ?_
                  refine w_if_eq (pc := 75) (tgt := 103) dL_areBins_75 (by decide) (fun c9 => absurd c9 (by decide)) (fun _ => ?_)
                  refine w_aload_0 (pc := 78) dL_areBins_78 ?_
                  refine w_iload_4 (pc := 79) dL_areBins_79 ?_
                  refine w_iload_6 (pc := 81) dL_areBins_81 ?_
                  refine w_callV_I (pc := 83) (c_BS_binOf hW hC) ok_X10_binOf t621 t622 kc10 (sBS_in hW.1) hW.1.2.1 t620 ⟨Nat.le_of_ble_eq_true rfl, Nat.le_of_ble_eq_true rfl⟩ ⟨rfl, rfl⟩ ⟨Nat.le_refl _, Nat.le_refl _⟩ rfl (Nat.le_of_ble_eq_true rfl) dL_areBins_83 ?_
                  rw [hz, hw, qb_k hS hi hj, ← hz, ← hw]
                  refine w_aload_2 (pc := 86) dL_areBins_86 ?_
                  refine w_bipush (pc := 87) (v := 6) dL_areBins_87 (by decide) ?_
                  refine w_iload_4 (pc := 89) dL_areBins_89 ?_
                  refine w_imul (pc := 91) dL_areBins_91 ?_
                  refine w_iload_6 (pc := 92) dL_areBins_92 ?_
                  refine w_iadd (pc := 94) dL_areBins_94 ?_
                  refine w_iald (pc := 95) (j := 6 * i + j) (sL_in hL (k := 3) (by decide)) hL.2.2.2.2.1 (by rw [hz, hw, show (6 : Int32) = nI 6 from rfl, pk_mul, nI_add]) (by omega) (by decide) dL_areBins_95 ?_
                  refine w_icmp_ne (pc := 96) (tgt := 103) dL_areBins_96 (by decide) (fun c96 => ?_) (fun c96 => ?_)
                  · exact (c96 (hD.2.2.2.1 _ (by omega)).symm).elim
                  · refine w_iconst (pc := 99) (v := 1) dL_areBins_99 (by decide) ?_
                    refine w_goto (pc := 100) (tgt := 104) dL_areBins_100 (by decide) ?_
                    refine w_istore_3 (pc := 104) dL_areBins_104 rfl ?_
                    refine w_iinc_6 (pc := 105) dL_areBins_105 rfl rfl ?_
                    refine w_goto (pc := 108) (tgt := 53) dL_areBins_108 (by decide) ?_
                    exact ih1 (j + 1) _ _ (by omega) (by omega) (by rw [hw]; exact nI_1 j) (by rw [ha, hD.2.2.2.1 _ (by omega), sm_succ, Nat.add_assoc])
            exact L1 5 0 _ _ (by omega) (by omega) rfl rfl
      exact L0 (nB c.1 + 1) 0 _ (by omega) (by omega) rfl
