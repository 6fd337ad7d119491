-- what feeding leaves alone
def fdF (k : Nat) : Prop := (k < 21 ∧ k ≠ 10 ∧ k ≠ 13) ∨ 81 ≤ k
theorem popL_o {s : kV} (hS : SX s) {k : Nat} (hk : fdF k) : popL s k = s k := by
  have := (SX_L hS).1
  simp only [fdF] at hk
  unfold popL
  rw [if_neg (by omega), if_neg (by omega)]
theorem feed1_o {s : kV} (hS : SX s) (hL : 0 < nLo s) (x : Int32) {k : Nat} (hk : fdF k) : feed1 s x k = s k := by
  have := (feed1_k hS hL).1
  simp only [fdF] at hk
  unfold feed1
  rw [upd_ne (by omega), upd_ne (by omega)]
theorem feedL_o {k : Nat} (hk : fdF k) : ∀ (n : Nat) (l : Int32) {s : kV}, SX s → feedL n l s k = s k
  | 0, _, _, _ => rfl
  | n + 1, l, s, h => by
    unfold feedL
    split
    · rename_i hc
      have hL := (lots_pos h).mp hc.2
      have h1 := SX_feed1 h hL (mn (s 70) l)
      split
      · rw [feedL_o hk n _ (SX_pop h1 (by rw [feed1_nLo h hL]; exact hL)), popL_o h1 hk, feed1_o h hL _ hk]
      · rw [feedL_o hk n _ h1, feed1_o h hL _ hk]
    · rfl
theorem spl_o {k : Nat} (hk : fdF k) : ∀ (n : Nat) (m : Int32) (s : kV), n ≤ 4 → spl n m s k = s k
  | 0, _, _, _ => rfl
  | n + 1, m, s, hn => by
    have hk' := hk
    simp only [fdF] at hk'
    unfold spl
    split
    · rw [spl_o hk n _ _ (by omega), upd_ne (by omega), upd_ne (by omega)]
    · rfl
theorem feeds_o {s : kV} (h : SX s) {k : Nat} (hk : fdF k) : feeds s k = s k := by
  unfold feeds
  rw [spl_o hk 4 _ _ (Nat.le_refl 4), feedL_o hk 6 _ h]
theorem goesB_o {s : kV} (h : SX s) {k : Nat} (hk : fdF k) : goesB s k = s k := by
  unfold goesB
  split
  · rfl
  · exact feeds_o h hk
theorem shift_o {s : kV} {k : Nat} (hk : fdF k) : shiftS s k = s k := by
  simp only [fdF] at hk
  unfold shiftS
  rw [if_neg (by omega), if_neg (by omega)]
-- a number of the bins written before or behind
theorem sm_uK {s : kV} {K a n : Nat} {x : Int32} (h : K < a ∨ a + n ≤ K) : sm (upd s K x) a n = sm s a n := sm_cong (fun k hk => upd_ne (by omega))
theorem shift_uK {s : kV} {K : Nat} {x : Int32} (hK : 81 ≤ K) : shiftS (upd s K x) = upd (shiftS s) K x := by
  funext k
  by_cases h : k = K
  · subst h; rw [upd_s]; unfold shiftS; rw [if_neg (by omega), if_neg (by omega), upd_s]
  · rw [upd_ne h]
    unfold shiftS
    split
    · rw [upd_ne (by omega)]
    · split
      · rfl
      · rw [upd_ne h]
theorem popL_uK {s : kV} (hS : SX s) {K : Nat} {x : Int32} (hK : 81 ≤ K) : popL (upd s K x) = upd (popL s) K x := by
  have := (SX_L hS).1
  funext k
  by_cases h : k = K
  · subst h; rw [upd_s]; unfold popL; rw [nLo_u (by omega), if_neg (by omega), if_neg (by omega), upd_s]
  · rw [upd_ne h]
    unfold popL
    rw [nLo_u (by omega)]
    split
    · rw [upd_ne (by omega)]
    · split
      · rw [upd_ne (by omega)]
      · rw [upd_ne h]
theorem feed1_uK {s : kV} (hS : SX s) (hL : 0 < nLo s) {K : Nat} {x y : Int32} (hK : 81 ≤ K) : feed1 (upd s K x) y = upd (feed1 s y) K x := by
  have := (feed1_k hS hL).1
  unfold feed1
  rw [upd_ne (show 69 ≠ K by omega), upd_ne (show 70 ≠ K by omega), upd_ne (show 21 + tn (s 69) ≠ K by omega), uc (j := K) (by omega), uc (j := K) (by omega)]
theorem feedL_uK {K : Nat} {x : Int32} (hK : 81 ≤ K) : ∀ (n : Nat) (l : Int32) {s : kV}, SX s → feedL n l (upd s K x) = upd (feedL n l s) K x
  | 0, _, _, _ => rfl
  | n + 1, l, s, h => by
    unfold feedL
    rw [upd_ne (show 13 ≠ K by omega), upd_ne (show 70 ≠ K by omega)]
    by_cases c : 0 < l ∧ 0 < s 13
    · have hL := (lots_pos h).mp c.2
      have h1 := SX_feed1 h hL (mn (s 70) l)
      rw [if_pos c, if_pos c, feed1_uK h hL hK, upd_ne (show 70 ≠ K by omega), popL_uK h1 hK]
      by_cases c2 : feed1 s (mn (s 70) l) 70 = 0
      · rw [if_pos c2, if_pos c2, feedL_uK hK n _ (SX_pop h1 (by rw [feed1_nLo h hL]; exact hL))]
      · rw [if_neg c2, if_neg c2, feedL_uK hK n _ h1]
    · rw [if_neg c, if_neg c]
theorem spl_uK {K : Nat} {x : Int32} (hK : 81 ≤ K) : ∀ (n : Nat) (m : Int32) (s : kV), n ≤ 4 → spl n m (upd s K x) = upd (spl n m s) K x
  | 0, _, _, _ => rfl
  | n + 1, m, s, hn => by
    unfold spl
    rw [upd_ne (show 21 + n ≠ K by omega), upd_ne (show 10 ≠ K by omega), uc (j := K) (by omega), uc (j := K) (by omega), spl_uK hK n _ _ (by omega)]
    split <;> rfl
theorem feeds_uK {s : kV} (h : SX s) {K : Nat} {x : Int32} (hK : 81 ≤ K) : feeds (upd s K x) = upd (feeds s) K x := by
  unfold feeds
  rw [upd_ne (show 0 ≠ K by omega), feedL_uK hK 6 _ h, sm_uK (by omega), upd_ne (show 18 ≠ K by omega), spl_uK hK 4 _ _ (Nat.le_refl 4)]
theorem goesB_uK {s : kV} (h : SX s) {K : Nat} {x : Int32} (hK : 81 ≤ K) : goesB (upd s K x) = upd (goesB s) K x := by
  unfold goesB
  rw [upd_ne (show 15 ≠ K by omega), upd_ne (show 16 ≠ K by omega), feeds_uK h hK]
  split <;> rfl
theorem readS_uK {s : kV} {K : Nat} {x : Int32} (hK : 81 ≤ K) (h : K ≠ 85 + 6 * (nB s - 1)) : readS (upd s K x) = upd (readS s) K x := by
  have e1 : nB (upd s K x) = nB s := by rw [nB, upd_ne (by omega), nB]
  have e2 : rdg (upd s K x) = rdg s := by unfold rdg; rw [sm_uK (by omega), upd_ne (show 3 ≠ K by omega), upd_ne (show 4 ≠ K by omega)]
  unfold readS reads1
  rw [e1, e2, upd_ne (show 6 ≠ K by omega), upd_ne (show 5 ≠ K by omega), upd_ne (Ne.symm h)]
  by_cases c : nB s = 0
  · rw [if_pos c, if_pos c, uc (j := K) (by omega), uc (j := K) (by omega)]
  · rw [if_neg c, if_neg c, uc (j := K) (by omega), uc (j := K) (by omega), uc (j := K) (Ne.symm h)]
-- what falls, but for the tick that is counted
def fallF (s : kV) : kV := if nB s = 0 then falls1 s else fallN (falls1 s) (nB s - 1) 4
theorem falls_F {s : kV} : falls s = if nB s ≠ 0 ∧ 0 < sm s 65 4 then upd (fallF s) (86 + 6 * (nB s - 1)) (fallF s (86 + 6 * (nB s - 1)) + 1) else fallF s := by
  unfold falls fallF
  by_cases h : nB s = 0
  · rw [if_pos h, if_pos h, if_neg (fun q => q.1 h)]
  · rw [if_neg h, if_neg h]
    by_cases c : 0 < sm s 65 4
    · rw [if_pos c, if_pos ⟨h, c⟩]
    · rw [if_neg c, if_neg (fun q => c q.2)]
theorem SX_fallF {s : kV} (h : SX s) : SX (fallF s) := by
  have hB := (SX_B h).1
  unfold fallF
  split
  · exact SX_falls1 h
  · exact SX_fallN (SX_falls1 h) (by omega) 4 (Nat.le_refl 4)
theorem fallF_lo {s : kV} (h : SX s) {k : Nat} (hk : k < 81) (h1 : k ≠ 10) (h2 : k ≠ 11) (h3 : k ≠ 17) : fallF s k = s k := by
  have hB := (SX_B h).1
  unfold fallF
  split
  · exact falls1_lo h1 h2 h3
  · rw [fallN_lo (by omega) (Or.inl hk) 4 (Nat.le_refl 4), falls1_lo h1 h2 h3]
abbrev rowA (s : kV) : kV := goesB (shiftS (fallF s))
theorem rowA_o {s : kV} (h : SX s) {k : Nat} (hk : k < 21) (h1 : k ≠ 10) (h2 : k ≠ 11) (h3 : k ≠ 17) (h4 : k ≠ 13) : rowA s k = s k := by
  have hf : fdF k := Or.inl ⟨hk, h1, h4⟩
  rw [rowA, goesB_o (SX_shift (SX_fallF h)) hf, shift_o hf, fallF_lo h (by omega) h1 h2 h3]
theorem rowA_B {s : kV} (h : SX s) : nB (rowA s) = nB s := by rw [nB, rowA_o h (by omega) (by omega) (by omega) (by omega) (by omega), nB]
theorem SX_rowA {s : kV} (h : SX s) : SX (rowA s) := SX_goesB (SX_shift (SX_fallF h))
theorem goes_eq {s : kV} (h : SX s) : goesS s = if nB s ≠ 0 ∧ 0 < sm s 65 4 then upd (upd (readS (rowA s)) (86 + 6 * (nB s - 1)) (rowA s (86 + 6 * (nB s - 1)) + 1)) 8 0 else upd (readS (rowA s)) 8 0 := by
  have hF := SX_fallF h
  unfold goesS goesA
  rw [falls_F]
  by_cases c : nB s ≠ 0 ∧ 0 < sm s 65 4
  · rw [if_pos c, if_pos c, shift_uK (by omega), goesB_uK (SX_shift hF) (by omega), readS_uK (by omega) (by rw [show goesB (shiftS (fallF s)) = rowA s from rfl, rowA_B h]; omega)]
    have e : rowA s (86 + 6 * (nB s - 1)) = fallF s (86 + 6 * (nB s - 1)) := by
      have hf : fdF (86 + 6 * (nB s - 1)) := Or.inr (by omega)
      rw [rowA, goesB_o (SX_shift hF) hf, shift_o hf]
    rw [e]
  · rw [if_neg c, if_neg c]
theorem goes_lo {s : kV} (h : SX s) {k : Nat} (hk : k < 81) (h5 : k ≠ 5) (h6 : k ≠ 6) (h8 : k ≠ 8) : goesS s k = rowA s k := by
  have e : readS (rowA s) k = rowA s k := by
    unfold readS reads1
    split
    · rw [upd_ne h6, upd_ne h5]
    · rw [upd_ne (by omega), upd_ne h6, upd_ne h5]
  rw [goes_eq h]
  split
  · rw [upd_ne h8, upd_ne (by omega), e]
  · rw [upd_ne h8, e]
theorem goes_56 {s : kV} (h : SX s) : goesS s 5 = s 5 + (rdg (rowA s) + s 6) / 4 ∧ goesS s 6 = rdg (rowA s) + s 6 - (rdg (rowA s) + s 6) / 4 * 4 := by
  have e5 := rowA_o h (k := 5) (by omega) (by omega) (by omega) (by omega) (by omega)
  have e6 := rowA_o h (k := 6) (by omega) (by omega) (by omega) (by omega) (by omega)
  have a5 : readS (rowA s) 5 = s 5 + (rdg (rowA s) + s 6) / 4 := by
    unfold readS reads1
    split
    · rw [upd_ne (by omega), upd_s, e5, e6]
    · rw [upd_ne (by omega), upd_ne (by omega), upd_s, e5, e6]
  have a6 : readS (rowA s) 6 = rdg (rowA s) + s 6 - (rdg (rowA s) + s 6) / 4 * 4 := by
    unfold readS reads1
    split
    · rw [upd_s, e6]
    · rw [upd_ne (by omega), upd_s, e6]
  rw [goes_eq h]
  split
  · rw [upd_ne (by omega), upd_ne (by omega), upd_ne (by omega), upd_ne (by omega), a5, a6]; exact ⟨rfl, rfl⟩
  · rw [upd_ne (by omega), upd_ne (by omega), a5, a6]; exact ⟨rfl, rfl⟩
theorem rdg_cong {s t : kV} (h3 : t 3 = s 3) (h4 : t 4 = s 4) (h : ∀ k, 37 ≤ k → k < 53 → t k = s k) : rdg t = rdg s := by
  unfold rdg
  rw [h3, h4, sm_cong (f := t) (g := s) (b := 37) (fun k hk => h _ (by omega) (by omega))]
def runs2 (s : kV) : Prop := 0 < tk2 (tk1 s) 15 ∨ tk2 (tk1 s) 1 = 1
theorem tick_go {s : kV} (hr : runs2 s) : tickS s = tk4 (goesS (tk2 (tk1 s))) := by
  have hr2 : 0 < tk2 (tk1 s) 15 ∨ tk2 (tk1 s) 1 = 1 := hr
  unfold tickS tk3; rw [if_pos hr2]
theorem tick_still {s : kV} (hr : ¬ runs2 s) : tickS s = upd (tk2 (tk1 s)) 8 (tk2 (tk1 s) 8 + 1) := by
  have hr2 : ¬ (0 < tk2 (tk1 s) 15 ∨ tk2 (tk1 s) 1 = 1) := hr
  have e : tk3 (tk2 (tk1 s)) = upd (tk2 (tk1 s)) 8 (tk2 (tk1 s) 8 + 1) := by unfold tk3; rw [if_neg hr2]
  unfold tickS
  rw [e, tk4, if_neg]
  rintro ⟨h, -⟩
  rw [upd_ne (by omega)] at h
  exact hr (Or.inl h)
theorem tick_rdg {s : kV} (hS : SX s) (hr : runs2 s) : rdg (rowA (tk2 (tk1 s))) = rdg (tickS s) := by
  have S2 := SX_tk2 (SX_tk1 hS)
  rw [tick_go hr]
  refine (rdg_cong ?_ ?_ (fun k h1 h2 => ?_)).symm
  · rw [tk4_k (by omega), goes_lo S2 (by omega) (by omega) (by omega) (by omega)]
  · rw [tk4_k (by omega), goes_lo S2 (by omega) (by omega) (by omega) (by omega)]
  · rw [tk4_k (by omega), goes_lo S2 (by omega) (by omega) (by omega) (by omega)]
theorem tick_56 {s : kV} (hS : SX s) : (tickS s 5 = s 5 ∧ tickS s 6 = s 6) ∨ (tickS s 5 = s 5 + (rdg (tickS s) + s 6) / 4 ∧ tickS s 6 = rdg (tickS s) + s 6 - (rdg (tickS s) + s 6) / 4 * 4) := by
  have S2 := SX_tk2 (SX_tk1 hS)
  have e5 : tk2 (tk1 s) 5 = s 5 := by rw [tk2_k (by omega), tk1_k (by omega) (by omega)]
  have e6 : tk2 (tk1 s) 6 = s 6 := by rw [tk2_k (by omega), tk1_k (by omega) (by omega)]
  by_cases hr : runs2 s
  · obtain ⟨h1, h2⟩ := goes_56 S2
    rw [tick_rdg hS hr, e6] at h1 h2
    rw [e5] at h1
    refine Or.inr ⟨?_, ?_⟩
    · rw [← h1, tick_go hr, tk4_k (by omega)]
    · rw [← h2, tick_go hr, tk4_k (by omega)]
  · refine Or.inl ⟨?_, ?_⟩
    · rw [tick_still hr, upd_ne (by omega), e5]
    · rw [tick_still hr, upd_ne (by omega), e6]
-- the scale's bounds
theorem rdg_bd {s : kV} (h : NI s) : (rdg s).toInt = (sm s 37 16).toInt + (s 3).toInt - (s 4).toInt ∧ -218 * (s 2).toInt ≤ (rdg s).toInt ∧ (rdg s).toInt ≤ 218 * (s 2).toInt := by
  obtain ⟨b1, b2, b3, b4⟩ := NI_belt h
  obtain ⟨⟨a1, a2⟩, -, -, ⟨c1, c2⟩, ⟨d1, d2⟩, -⟩ := h
  have e : (rdg s).toInt = (sm s 37 16).toInt + (s 3).toInt - (s 4).toInt := by
    unfold rdg
    rw [ti_sub, ti_add] <;> (try rw [ti_add]) <;> omega
  exact ⟨e, by omega, by omega⟩
theorem ti_4 : (4 : Int32).toInt = 4 := by decide
theorem ti_div4 {v : Int32} : (v / 4).toInt = v.toInt.tdiv 4 := by
  rw [Int32.toInt_div_of_ne_right v 4 (by decide), ti_4]
theorem tdiv4 (a : Int) : (0 ≤ a ∧ a.tdiv 4 = a / 4) ∨ (a < 0 ∧ a.tdiv 4 = -((-a) / 4)) := by
  by_cases h : 0 ≤ a
  · exact Or.inl ⟨h, Int.tdiv_eq_ediv_of_nonneg h⟩
  · refine Or.inr ⟨by omega, ?_⟩
    have e : a.tdiv 4 = -((-a).tdiv 4) := by rw [Int.neg_tdiv, Int.neg_neg]
    rw [e, Int.tdiv_eq_ediv_of_nonneg (by omega)]
theorem ti_neg {v : Int32} (h : -2147483647 ≤ v.toInt) : (-v).toInt = -v.toInt := by
  have h2 := Int32.toInt_lt v
  rw [Int32.toInt_neg]; exact Int.bmod_eq_of_le (by omega) (by omega)
theorem neg_div4 {v : Int32} (h : -2147483647 ≤ v.toInt) (hv : v < 0) : -(-v / 4) = v / 4 := by
  refine Int32.toInt_inj.mp ?_
  rw [ti_lt, ti_0] at hv
  have h3 := tdiv4 v.toInt
  have h4 := tdiv4 (-v.toInt)
  have e : (-v / 4).toInt = (-v.toInt).tdiv 4 := by rw [ti_div4, ti_neg h]
  rw [ti_neg (by rw [e]; omega), e, ti_div4]; omega
theorem fallN_u17 {x : Int32} {b : Nat} : ∀ (n : Nat) (s : kV), fallN (upd s 17 x) b n = upd (fallN s b n) 17 x
  | 0, _ => rfl
  | n + 1, s => by
    show fallB (fallA (fallN (upd s 17 x) b n) b n) n = upd (fallB (fallA (fallN s b n) b n) n) 17 x
    rw [fallN_u17 n]
    unfold fallB fallA
    rw [upd_ne (show 81 + 6 * b + n ≠ 17 by omega), upd_ne (show 65 + n ≠ 17 by omega), uc (j := 17) (by omega), upd_ne (show 145 + n ≠ 17 by omega), upd_ne (show 65 + n ≠ 17 by omega), upd_ne (show 130 + 2 * tn _ ≠ 17 by omega), uc (j := 17) (by omega)]
theorem upd_upd {s : kV} {k : Nat} {x y : Int32} : upd (upd s k x) k y = upd s k y := by
  funext j; by_cases h : j = k
  · rw [h, upd_s, upd_s]
  · rw [upd_ne h, upd_ne h, upd_ne h]
theorem last_P {s : kV} (hS : SX s) {z : Int32} (hz : z = 6 * s 12 - 6) : (nB s = 0 ∧ z < 0) ∨ ∃ b, nB s = b + 1 ∧ b < 8 ∧ z = nI (6 * b) := by
  obtain ⟨h1, h2⟩ := SX_B hS
  cases hb : nB s with
  | zero => rw [h2, hb] at hz; exact Or.inl ⟨rfl, by rw [hz]; decide⟩
  | succ b =>
    rw [h2, hb, show (6 : Int32) = nI 6 from rfl, pk_mul, show 6 * (b + 1) = 6 * b + 6 by omega, ← nI_add, Int32.add_sub_cancel] at hz
    exact Or.inr ⟨b, rfl, by omega, hz⟩
-- the fall, kind by kind
def fallR (s : kV) (e w : Int32) (i : Nat) : kV := upd (fallN (upd (upd s 11 (s 11 + e)) 10 (s 10 + w)) (nB s - 1) i) 17 (s 17 + sm s 65 i)
theorem fallR_0 {s : kV} {e w : Int32} : fallR s e w 0 = upd (upd s 11 (s 11 + e)) 10 (s 10 + w) := by
  unfold fallR
  show upd (upd (upd s 11 (s 11 + e)) 10 (s 10 + w)) 17 (s 17 + 0) = _
  rw [Int32.add_zero]
  have : s 17 = upd (upd s 11 (s 11 + e)) 10 (s 10 + w) 17 := by rw [upd_ne (by omega), upd_ne (by omega)]
  rw [this, upd_self]
theorem fallR_z {s : kV} {w : Int32} (h : nB s = 0) (hw : w = sm s 65 4) : fallR s (sm s 65 4) w 0 = fallF s := by
  rw [fallR_0, fallF, if_pos h, falls1, if_pos h, if_pos h, Int32.add_zero, hw]
  have : s 17 = upd (upd s 11 (s 11 + sm s 65 4)) 10 (s 10 + sm s 65 4) 17 := by rw [upd_ne (by omega), upd_ne (by omega)]
  rw [this, upd_self]
theorem fallR_4 {s : kV} (h : nB s ≠ 0) : fallR s (sm s 65 4) 0 4 = fallF s := by
  rw [fallR, fallF, if_neg h, falls1, if_neg h, if_neg h, fallN_u17]
theorem fallR_k {s : kV} {e w : Int32} {b i k : Nat} (hB : nB s = b + 1) (hb : b < 8) (hi : i ≤ 4) (hk : (k < 81 ∧ k ≠ 10 ∧ k ≠ 11 ∧ k ≠ 17) ∨ (84 + 6 * b < k ∧ k < 130)) : fallR s e w i k = s k := by
  unfold fallR
  rw [upd_ne (by omega), hB, Nat.add_sub_cancel, fallN_lo hb (by omega) i hi, upd_ne (by omega), upd_ne (by omega)]
theorem fall_step {X : kV} {b i c : Nat} {y y' : Int32} (hc : X (145 + i) = nI c) (hc8 : c < 8) (hb : b < 8) (hi : i < 4) : upd (upd (upd (upd X 17 y) (81 + (6 * b + i)) (X (81 + (6 * b + i)) + X (65 + i))) 17 y') (129 + (2 * c + 1)) (X (129 + (2 * c + 1)) + X (65 + i)) = upd (fallB (fallA X b i) i) 17 y' := by
  have e1 : fallA X b i = upd X (81 + (6 * b + i)) (X (81 + (6 * b + i)) + X (65 + i)) := by unfold fallA; rw [Nat.add_assoc]
  have e2 : tn (fallA X b i (145 + i)) = c := by rw [e1, upd_ne (by omega), hc, tn_nI (by omega)]
  unfold fallB
  rw [e2, e1, show 130 + 2 * c = 129 + (2 * c + 1) by omega, upd_ne (show 129 + (2 * c + 1) ≠ 81 + (6 * b + i) by omega), upd_ne (show 65 + i ≠ 81 + (6 * b + i) by omega), uc (j := 17) (k := 81 + (6 * b + i)) (by omega), upd_upd, uc (j := 17) (by omega)]
theorem fallN_bk {s : kV} (h : SX s) {b i k : Nat} (hb : b < 8) (hi : i ≤ 4) (hk : tkF k) {x y : Int32} (h1 : k ≠ 10) (h2 : k ≠ 11) : fallN (upd (upd s 11 x) 10 y) b i k = s k := by
  rw [fallN_k (SX_upd (SX_upd h (by simp [sxI])) (by simp [sxI])) hb hk i hi, upd_ne h1, upd_ne h2]
theorem fallR_succ {s : kV} (hS : SX s) {e w : Int32} {b i c : Nat} (hB : nB s = b + 1) (hb : b < 8) (hi : i < 4) (hc : s (145 + i) = nI c) (hc8 : c < 8) (X : kV) (hX : X = fallN (upd (upd s 11 (s 11 + e)) 10 (s 10 + w)) b i) : upd (upd (upd (fallR s e w i) (81 + (6 * b + i)) (X (81 + (6 * b + i)) + X (65 + i))) 17 (s 17 + sm s 65 i + s (65 + i))) (129 + (2 * c + 1)) (X (129 + (2 * c + 1)) + X (65 + i)) = fallR s e w (i + 1) := by
  have hb1 : nB s - 1 = b := by omega
  have e1 : fallR s e w i = upd X 17 (s 17 + sm s 65 i) := by rw [fallR, hb1, hX]
  have e2 : fallR s e w (i + 1) = upd (fallB (fallA X b i) i) 17 (s 17 + sm s 65 i + s (65 + i)) := by
    rw [fallR, hb1, hX, sm_succ, Int32.add_assoc]; rfl
  have e3 : X (145 + i) = nI c := by
    rw [hX, fallN_bk hS hb (by omega) (by simp only [tkF]; omega) (by omega) (by omega), hc]
  rw [e1, e2, fall_step e3 hc8 hb hi]
