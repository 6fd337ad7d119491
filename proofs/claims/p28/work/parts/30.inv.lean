-- bounds
def zi (x : Int32) : Int := x.toInt
theorem ti_add {a b : Int32} (h1 : -2147483648 ≤ a.toInt + b.toInt) (h2 : a.toInt + b.toInt ≤ 2147483647) : (a + b).toInt = a.toInt + b.toInt := by
  rw [Int32.toInt_add]; exact Int.bmod_eq_of_le (by omega) (by omega)
theorem ti_sub {a b : Int32} (h1 : -2147483648 ≤ a.toInt - b.toInt) (h2 : a.toInt - b.toInt ≤ 2147483647) : (a - b).toInt = a.toInt - b.toInt := by
  rw [Int32.toInt_sub]; exact Int.bmod_eq_of_le (by omega) (by omega)
theorem ti_lt {a b : Int32} : a < b ↔ a.toInt < b.toInt := Int32.lt_iff_toInt_lt
theorem ti_le {a b : Int32} : a ≤ b ↔ a.toInt ≤ b.toInt := Int32.le_iff_toInt_le
theorem ti_0 : (0 : Int32).toInt = 0 := by decide
theorem ti_nI {n : Nat} (h : n < 2 ^ 31) : (nI n).toInt = n := by
  have h1 := nI_pos' h
  rw [ti_le, ti_0] at h1
  have h2 := nI_clamp h
  have h3 : ((nI n).toNatClampNeg : Int) = (nI n).toInt := by
    show (((nI n).toInt.toNat : Nat) : Int) = _
    exact Int.toNat_of_nonneg h1
  rw [← h3, h2]
def zs (s : kV) (a : Nat) : Nat → Int
  | 0 => 0
  | n + 1 => zs s a n + (s (a + n)).toInt
theorem zs_cong {s t : kV} {a b : Nat} : ∀ {n : Nat}, (∀ k, k < n → s (a + k) = t (b + k)) → zs s a n = zs t b n
  | 0, _ => rfl
  | n + 1, h => by
    show zs s a n + _ = zs t b n + _
    rw [zs_cong (fun k hk => h k (by omega)), h n (by omega)]
theorem zs_split (s : kV) (a m : Nat) : ∀ n, zs s a (m + n) = zs s a m + zs s (a + m) n
  | 0 => (Int.add_zero _).symm
  | n + 1 => by
    show zs s a (m + n) + (s (a + (m + n))).toInt = zs s a m + (zs s (a + m) n + (s (a + m + n)).toInt)
    rw [zs_split s a m n, Int.add_assoc, Nat.add_assoc]
theorem zs_nn {s : kV} {a : Nat} : ∀ {n : Nat}, (∀ k, k < n → 0 ≤ (s (a + k)).toInt) → 0 ≤ zs s a n
  | 0, _ => Int.le_refl _
  | n + 1, h => by
    have h1 := zs_nn (fun k hk => h k (by omega : k < n + 1)) (n := n)
    have h2 := h n (by omega)
    show 0 ≤ zs s a n + (s (a + n)).toInt
    omega
theorem zs_le {s : kV} {a j : Nat} : ∀ {n : Nat}, (∀ k, k < n → 0 ≤ (s (a + k)).toInt) → j < n → (s (a + j)).toInt ≤ zs s a n
  | 0, _, hj => absurd hj (by omega)
  | n + 1, h, hj => by
    have h2 := h n (by omega)
    have h3 := zs_nn (fun k hk => h k (by omega : k < n + 1)) (n := n)
    show _ ≤ zs s a n + (s (a + n)).toInt
    by_cases e : j = n
    · subst e; omega
    · have := zs_le (fun k hk => h k (by omega : k < n + 1)) (n := n) (by omega : j < n)
      omega
theorem zs_upd {s : kV} {a j : Nat} {x : Int32} : ∀ {n : Nat}, j < n → zs (upd s (a + j) x) a n = zs s a n + (x.toInt - (s (a + j)).toInt)
  | 0, hj => absurd hj (by omega)
  | n + 1, hj => by
    show zs (upd s (a + j) x) a n + (upd s (a + j) x (a + n)).toInt = zs s a n + (s (a + n)).toInt + _
    by_cases e : j = n
    · subst e
      rw [upd_s, zs_cong (s := upd s (a + j) x) (t := s) (b := a) (fun k hk => upd_ne (by omega))]
      omega
    · rw [zs_upd (by omega : j < n), upd_ne (by omega)]
      omega
theorem zs_sm {s : kV} {a : Nat} : ∀ {n : Nat}, (∀ k, k < n → 0 ≤ (s (a + k)).toInt) → zs s a n ≤ 2147483647 → (sm s a n).toInt = zs s a n
  | 0, _, _ => ti_0
  | n + 1, h, hb => by
    have h2 := h n (by omega)
    have h3 := zs_nn (fun k hk => h k (by omega : k < n + 1)) (n := n)
    have hb' : zs s a n + (s (a + n)).toInt ≤ 2147483647 := hb
    have h4 := zs_sm (fun k hk => h k (by omega : k < n + 1)) (n := n) (by omega)
    rw [sm_succ, ti_add (by omega) (by omega), h4]; rfl
def NB (T : Int) (s : kV) : Prop := (∀ k, k < 48 → 0 ≤ (s (21 + k)).toInt) ∧ 0 ≤ (s 11).toInt ∧ (s 11).toInt + zs s 21 48 ≤ T ∧ (∀ k, k < nLo s → 0 ≤ (s (70 + 2 * k)).toInt) ∧ (∀ b, b < nB s → (∀ κ, κ < 4 → 0 ≤ (s (81 + 6 * b + κ)).toInt) ∧ zs s (81 + 6 * b) 4 ≤ (s 11).toInt)
def nbI (k : Nat) : Prop := k = 11 ∨ k = 12 ∨ k = 13 ∨ (21 ≤ k ∧ k < 69) ∨ (69 < k ∧ k < 81) ∨ (81 ≤ k ∧ k < 129 ∧ (k - 81) % 6 < 4)
theorem NB_congr {T : Int} {s t : kV} (h : NB T s) (hS : SX s) (e : ∀ k, nbI k → t k = s k) : NB T t := by
  obtain ⟨h1, h2, h3, h4, h5⟩ := h
  have e11 := e 11 (by simp [nbI])
  have eB : nB t = nB s := by rw [nB, e 12 (by simp [nbI]), nB]
  have eL : nLo t = nLo s := by rw [nLo, e 13 (by simp [nbI]), nLo]
  have l1 := (SX_L hS).1
  have b1 := (SX_B hS).1
  refine ⟨fun k hk => by rw [e _ (by simp only [nbI]; omega)]; exact h1 k hk, by rw [e11]; exact h2, ?_, fun k hk => ?_, fun b hb => ⟨fun κ hκ => ?_, ?_⟩⟩
  · rw [e11, zs_cong (fun k hk => e (21 + k) (by simp only [nbI]; omega))]; exact h3
  · rw [eL] at hk; rw [e _ (by simp only [nbI]; omega)]; exact h4 k hk
  · rw [eB] at hb; rw [e _ (by simp only [nbI]; omega)]; exact (h5 b hb).1 κ hκ
  · rw [eB] at hb
    rw [e11, zs_cong (fun k hk => e (81 + 6 * b + k) (by simp only [nbI]; omega))]; exact (h5 b hb).2
theorem NB_mono {T U : Int} {s : kV} (h : NB T s) (hT : T ≤ U) : NB U s := ⟨h.1, h.2.1, Int.le_trans h.2.2.1 hT, h.2.2.2⟩
theorem NB_upd {T : Int} {s : kV} (h : NB T s) (hS : SX s) {k : Nat} {x : Int32} (hk : ¬ nbI k) : NB T (upd s k x) := NB_congr h hS (fun j hj => upd_ne (fun e => hk (e ▸ hj)))
theorem fallN_bin {t : kV} {w : Nat} (hw : w < 8) {b κ : Nat} (hb : b < 8) (hκ : κ < 4) : ∀ n, n ≤ 4 → fallN t w n (81 + 6 * b + κ) = if b = w ∧ κ < n then t (81 + 6 * b + κ) + t (65 + κ) else t (81 + 6 * b + κ)
  | 0, _ => by rw [if_neg (by omega)]; rfl
  | n + 1, hn => by
    show fallK (fallN t w n) w n (81 + 6 * b + κ) = _
    rw [fallK_at hw (by omega), fallN_lo (k := 65 + n) hw (Or.inl (by omega)) n (by omega), fallN_bin hw hb hκ n (by omega)]
    by_cases c : b = w ∧ κ = n
    · obtain ⟨rfl, rfl⟩ := c
      rw [if_pos rfl, if_neg (show ¬ (b = b ∧ κ < κ) by omega), if_pos (show b = b ∧ κ < κ + 1 by omega)]
    · rw [if_neg (show ¬ 81 + 6 * b + κ = 81 + 6 * w + n by omega), if_neg (by omega)]
      by_cases d : b = w ∧ κ < n
      · rw [if_pos d, if_pos (show b = w ∧ κ < n + 1 by omega)]
      · rw [if_neg d, if_neg (show ¬ (b = w ∧ κ < n + 1) by omega)]
theorem NB_goesA {T : Int} {s : kV} (h : NB T s) (hS : SX s) (hT : T ≤ 2147483647) : NB T (goesA s) := by
  obtain ⟨h1, h2, h3, h4, h5⟩ := h
  have l1 := (SX_L hS).1
  have b1 := (SX_B hS).1
  have sp : zs s 21 48 = zs s 21 44 + zs s 65 4 := zs_split s 21 44 4
  have p1 : 0 ≤ zs s 21 44 := zs_nn (fun k hk => h1 k (by omega))
  have q65 : ∀ k, k < 4 → 0 ≤ (s (65 + k)).toInt := fun k hk => by have := h1 (44 + k) (by omega); rw [show 21 + (44 + k) = 65 + k by omega] at this; exact this
  have p2 : 0 ≤ zs s 65 4 := zs_nn q65
  have hF : (sm s 65 4).toInt = zs s 65 4 := zs_sm q65 (by omega)
  have e11 : goesA s 11 = s 11 + sm s 65 4 := by rw [goesA, shift_h (by simp [hG]), falls_11 hS]
  have t11 : (goesA s 11).toInt = (s 11).toInt + zs s 65 4 := by rw [e11, ti_add (by omega) (by omega), hF]
  have e12 : goesA s 12 = s 12 := by rw [goesA, shift_k (by simp [tkF]), falls_k hS (by simp [tkF])]
  have eB : nB (goesA s) = nB s := by rw [nB, e12, nB]
  have e13 : goesA s 13 = s 13 := by rw [goesA, shiftS, if_neg (by omega), if_neg (by omega), falls_lo hS (by omega) (by omega) (by omega) (by omega)]
  have eL : nLo (goesA s) = nLo s := by rw [nLo, e13, nLo]
  have z0 : ∀ k, k < 4 → goesA s (21 + k) = 0 := fun k hk => by rw [goesA, shiftS, if_neg (by omega), if_pos (by omega)]
  have z1 : ∀ k, k < 44 → goesA s (21 + (4 + k)) = s (21 + k) := fun k hk => by
    rw [goesA, shiftS, if_pos (by omega), show 21 + (4 + k) - 4 = 21 + k by omega, falls_lo hS (by omega) (by omega) (by omega) (by omega)]
  refine ⟨fun k hk => ?_, by omega, ?_, fun k hk => ?_, fun b hb => ?_⟩
  · by_cases c : k < 4
    · rw [z0 k c, ti_0]; omega
    · rw [show k = 4 + (k - 4) by omega, z1 _ (by omega)]; exact h1 _ (by omega)
  · have e1 : zs (goesA s) 21 48 = zs (goesA s) 21 4 + zs (goesA s) 25 44 := zs_split _ 21 4 44
    have e2 : zs (goesA s) 21 4 = 0 := by
      show 0 + (goesA s (21 + 0)).toInt + (goesA s (21 + 1)).toInt + (goesA s (21 + 2)).toInt + (goesA s (21 + 3)).toInt = 0
      rw [z0 0 (by omega), z0 1 (by omega), z0 2 (by omega), z0 3 (by omega)]; decide
    have e3 : zs (goesA s) 25 44 = zs s 21 44 := zs_cong (fun k hk => by rw [show 25 + k = 21 + (4 + k) by omega]; exact z1 k hk)
    omega
  · rw [eL] at hk
    rw [goesA, shiftS, if_neg (by omega), if_neg (by omega), falls_lo hS (by omega) (by omega) (by omega) (by omega)]
    exact h4 k hk
  · rw [eB] at hb
    obtain ⟨i1, i2⟩ := h5 b hb
    obtain ⟨w, hw⟩ : ∃ w, nB s = w + 1 := ⟨nB s - 1, by omega⟩
    have ev : ∀ κ, κ < 4 → goesA s (81 + 6 * b + κ) = if b = w then s (81 + 6 * b + κ) + s (65 + κ) else s (81 + 6 * b + κ) := fun κ hκ => by
      rw [goesA, shiftS, if_neg (by omega), if_neg (by omega), falls_at (by omega) hw, if_neg (by omega), fallN_bin (by omega) (by omega) hκ 4 (Nat.le_refl 4), falls1_lo (by omega) (by omega) (by omega), falls1_lo (by omega) (by omega) (by omega)]
      by_cases c : b = w
      · rw [if_pos ⟨c, hκ⟩, if_pos c]
      · rw [if_neg (fun q => c q.1), if_neg c]
    by_cases c : b = w
    · have e' : ∀ κ, κ < 4 → (goesA s (81 + 6 * b + κ)).toInt = (s (81 + 6 * b + κ)).toInt + (s (65 + κ)).toInt := fun κ hκ => by
        have m1 := zs_le i1 hκ
        have m2 := zs_le q65 hκ
        have m3 := i1 κ hκ
        have m4 := q65 κ hκ
        rw [ev κ hκ, if_pos c, ti_add (by omega) (by omega)]
      refine ⟨fun κ hκ => ?_, ?_⟩
      · have m3 := i1 κ hκ
        have m4 := q65 κ hκ
        rw [e' κ hκ]; omega
      · have f0 := e' 0 (by omega)
        have f1 := e' 1 (by omega)
        have f2 := e' 2 (by omega)
        have f3 := e' 3 (by omega)
        have g1 : zs s (81 + 6 * b) 4 = 0 + (s (81 + 6 * b + 0)).toInt + (s (81 + 6 * b + 1)).toInt + (s (81 + 6 * b + 2)).toInt + (s (81 + 6 * b + 3)).toInt := rfl
        have g2 : zs s 65 4 = 0 + (s (65 + 0)).toInt + (s (65 + 1)).toInt + (s (65 + 2)).toInt + (s (65 + 3)).toInt := rfl
        show 0 + (goesA s (81 + 6 * b + 0)).toInt + (goesA s (81 + 6 * b + 1)).toInt + (goesA s (81 + 6 * b + 2)).toInt + (goesA s (81 + 6 * b + 3)).toInt ≤ _
        rw [f0, f1, f2, f3, t11]
        omega
    · have e' : ∀ κ, κ < 4 → goesA s (81 + 6 * b + κ) = s (81 + 6 * b + κ) := fun κ hκ => by rw [ev κ hκ, if_neg c]
      refine ⟨fun κ hκ => by rw [e' κ hκ]; exact i1 κ hκ, ?_⟩
      rw [zs_cong (t := s) (b := 81 + 6 * b) e', t11]
      omega
theorem mn_le {x y : Int32} : mn x y ≤ x ∧ mn x y ≤ y ∧ (mn x y = x ∨ mn x y = y) := by
  unfold mn
  split
  · rename_i h; exact ⟨Int32.le_refl _, Int32.le_of_lt h, Or.inl rfl⟩
  · rename_i h; exact ⟨Int32.not_lt.mp h, Int32.le_refl _, Or.inr rfl⟩
theorem mn_b {x y : Int32} (hx : 0 ≤ x.toInt) (hy : 0 ≤ y.toInt) : 0 ≤ (mn x y).toInt ∧ (mn x y).toInt ≤ x.toInt ∧ (mn x y).toInt ≤ y.toInt := by
  obtain ⟨h1, h2, h3⟩ := @mn_le x y
  refine ⟨?_, ti_le.mp h1, ti_le.mp h2⟩
  rcases h3 with h | h <;> rw [h] <;> assumption
theorem NB_fdN {T : Int} {s : kV} {x : Int32} (h : NB T s) (hS : SX s) (hL : 0 < nLo s) (h0 : 0 ≤ x.toInt) (h1 : x.toInt ≤ (s 70).toInt) (hT : T + x.toInt ≤ 2147483647) : NB (T + x.toInt) (fdN s x) := by
  obtain ⟨f1, f2⟩ := feed1_k hS hL
  obtain ⟨a1, a2, a3, a4, a5⟩ := h
  have l1 := (SX_L hS).1
  have b1 := (SX_B hS).1
  have p1 : 0 ≤ zs s 21 48 := zs_nn a1
  have c1 := zs_le a1 (show tn (s 69) < 48 by omega)
  have c2 := a1 (tn (s 69)) (by omega)
  have n1 := feed1_nLo hS hL x
  have s70 : (s 70 - x).toInt = (s 70).toInt - x.toInt := ti_sub (by have := Int32.toInt_lt (s 70); omega) (by have := Int32.toInt_lt (s 70); omega)
  have sk : (s (21 + tn (s 69)) + x).toInt = (s (21 + tn (s 69))).toInt + x.toInt := ti_add (by omega) (by omega)
  have v : ∀ k, k ≠ 70 → k ≠ 21 + tn (s 69) → feed1 s x k = s k := fun k h1 h2 => by unfold feed1; rw [upd_ne h1, upd_ne h2]
  have v70 : feed1 s x 70 = s 70 - x := by unfold feed1; rw [upd_s]
  have v21 : feed1 s x (21 + tn (s 69)) = s (21 + tn (s 69)) + x := by unfold feed1; rw [upd_ne (by omega), upd_s]
  have v13 := feed1_13 hS hL x
  have N1 : NB (T + x.toInt) (feed1 s x) := by
    refine ⟨fun k hk => ?_, by rw [v 11 (by omega) (by omega)]; exact a2, ?_, fun k hk => ?_, fun b hb => ?_⟩
    · by_cases c : k = tn (s 69)
      · rw [c, v21, sk]; omega
      · rw [v _ (by omega) (by omega)]; exact a1 k hk
    · have e : zs (feed1 s x) 21 48 = zs s 21 48 + x.toInt := by
        rw [zs_cong (t := upd s (21 + tn (s 69)) (s (21 + tn (s 69)) + x)) (b := 21) (fun k hk => by unfold feed1; rw [upd_ne (by omega)]), zs_upd (by omega), sk]; omega
      rw [v 11 (by omega) (by omega), e]; omega
    · rw [n1] at hk
      by_cases c : k = 0
      · subst c
        show 0 ≤ (feed1 s x 70).toInt
        rw [v70, s70]; omega
      · rw [v _ (by omega) (by omega)]; exact a4 k hk
    · have eB : nB (feed1 s x) = nB s := by rw [nB, v 12 (by omega) (by omega), nB]
      rw [eB] at hb
      obtain ⟨i1, i2⟩ := a5 b hb
      refine ⟨fun κ hκ => by rw [v _ (by omega) (by omega)]; exact i1 κ hκ, ?_⟩
      rw [v 11 (by omega) (by omega), zs_cong (t := s) (b := 81 + 6 * b) (fun k hk => v _ (by omega) (by omega))]; exact i2
  unfold fdN
  split
  · have S1 := SX_feed1 hS hL x
    obtain ⟨m1, m2, m3, m4, m5⟩ := N1
    have pv : ∀ k, k < 69 → k ≠ 13 → popL (feed1 s x) k = feed1 s x k := fun k h1 h2 => by unfold popL; rw [if_neg (by omega), if_neg h2]
    have ph : ∀ k, 81 ≤ k → popL (feed1 s x) k = feed1 s x k := fun k h1 => by unfold popL; rw [n1, if_neg (by omega), if_neg (by omega)]
    refine ⟨fun k hk => by rw [pv _ (by omega) (by omega)]; exact m1 k hk, by rw [pv _ (by omega) (by omega)]; exact m2, ?_, fun k hk => ?_, fun b hb => ?_⟩
    · rw [pv 11 (by omega) (by omega), zs_cong (t := feed1 s x) (b := 21) (fun k hk => pv _ (by omega) (by omega))]; exact m3
    · rw [popL_nLo S1 (by omega), n1] at hk
      unfold popL
      rw [n1, if_pos (by omega), show 70 + 2 * k + 2 = 70 + 2 * (k + 1) by omega]
      exact m4 (k + 1) (by omega)
    · have eB : nB (popL (feed1 s x)) = nB (feed1 s x) := by rw [nB, pv 12 (by omega) (by omega), nB]
      rw [eB] at hb
      obtain ⟨i1, i2⟩ := m5 b hb
      refine ⟨fun κ hκ => by rw [ph _ (by omega)]; exact i1 κ hκ, ?_⟩
      rw [pv 11 (by omega) (by omega), zs_cong (t := feed1 s x) (b := 81 + 6 * b) (fun k hk => ph _ (by omega))]; exact i2
  · exact N1
theorem NB_feedL : ∀ (n : Nat) {T : Int} {l : Int32} {s : kV}, NB T s → SX s → 0 ≤ l.toInt → T + l.toInt ≤ 2147483647 → NB (T + l.toInt) (feedL n l s)
  | 0, T, l, s, h, _, h0, _ => NB_mono h (by omega)
  | n + 1, T, l, s, h, hS, h0, hT => by
    by_cases c : 0 < l ∧ 0 < s 13
    · have hL := (lots_pos hS).mp c.2
      have h70 : 0 ≤ (s 70).toInt := h.2.2.2.1 0 hL
      obtain ⟨b1, b2, b3⟩ := mn_b h70 h0
      rw [feedL_step c.1 c.2]
      have e := @ti_sub l (mn (s 70) l) (by have := Int32.toInt_lt l; omega) (by have := Int32.toInt_lt l; omega)
      have h2 := NB_feedL n (NB_fdN h hS hL b1 b2 (by omega)) (SX_fdN hS hL _) (l := l - mn (s 70) l) (by omega) (by omega)
      exact NB_mono h2 (by omega)
    · rw [feedL, if_neg c]; exact NB_mono h (by omega)
theorem NB_spl : ∀ (n : Nat) {T : Int} {m : Int32} {s : kV}, n ≤ 4 → NB T s → SX s → T ≤ 2147483647 → NB T (spl n m s)
  | 0, _, _, _, _, h, _, _ => h
  | n + 1, T, m, s, hn, h, hS, hT => by
    unfold spl
    split
    · rename_i c
      have h0 := h.1 n (by omega)
      obtain ⟨b1, b2, b3⟩ := mn_b h0 (show 0 ≤ m.toInt by have := ti_lt.mp c; rw [ti_0] at this; omega)
      have h21 := Int32.toInt_lt (s (21 + n))
      have e := @ti_sub (s (21 + n)) (mn (s (21 + n)) m) (by omega) (by omega)
      have S1 : SX (upd s (21 + n) (s (21 + n) - mn (s (21 + n)) m)) := SX_upd hS (by simp only [sxI]; omega)
      refine NB_spl n (by omega) (NB_upd ?_ S1 (by simp [nbI])) (SX_upd S1 (by simp [sxI])) hT
      obtain ⟨a1, a2, a3, a4, a5⟩ := h
      have v : ∀ k, k ≠ 21 + n → upd s (21 + n) (s (21 + n) - mn (s (21 + n)) m) k = s k := fun k h => upd_ne h
      have l1 := (SX_L hS).1
      refine ⟨fun k hk => ?_, by rw [v 11 (by omega)]; exact a2, ?_, fun k hk => ?_, fun b hb => ?_⟩
      · by_cases q : k = n
        · rw [q, upd_s]; omega
        · rw [v _ (by omega)]; exact a1 k hk
      · rw [v 11 (by omega), zs_upd (by omega), e]; omega
      · rw [nLo, v 13 (by omega)] at hk
        rw [v _ (by omega)]; exact a4 k hk
      · rw [nB, v 12 (by omega)] at hb
        obtain ⟨i1, i2⟩ := a5 b hb
        refine ⟨fun κ hκ => by rw [v _ (by omega)]; exact i1 κ hκ, ?_⟩
        rw [v 11 (by omega), zs_cong (t := s) (b := 81 + 6 * b) (fun k hk => v _ (by omega))]; exact i2
    · exact h
theorem NB_readS {T : Int} {s : kV} (h : NB T s) (hS : SX s) : NB T (readS s) := by
  have b1 := (SX_B hS).1
  have S1 : SX (reads1 s (rdg s + s 6)) := SX_upd (SX_upd hS (by simp [sxI])) (by simp [sxI])
  have N1 : NB T (reads1 s (rdg s + s 6)) := NB_upd (NB_upd h hS (by simp [nbI])) (SX_upd hS (by simp [sxI])) (by simp [nbI])
  unfold readS
  split
  · exact N1
  · exact NB_upd N1 S1 (by simp only [nbI]; omega)
theorem NB_goes {T : Int} {s : kV} (h : NB T s) (hS : SX s) (h0 : 0 ≤ (s 0).toInt) (h1 : (s 0).toInt ≤ 200) (hT : T ≤ 2000000000) : NB (T + 200) (goesS s) := by
  have SA : SX (goesA s) := SX_shift (SX_falls hS)
  have NA := NB_goesA h hS (by omega)
  have e0 : goesA s 0 = s 0 := by rw [goesA, shift_k (by simp [tkF]), falls_k hS (by simp [tkF])]
  have NG : NB (T + 200) (goesB (goesA s)) := by
    unfold goesB
    split
    · exact NB_mono NA (by omega)
    · unfold feeds
      have NF := NB_feedL 6 (l := goesA s 0) NA SA (by rw [e0]; exact h0) (by rw [e0]; omega)
      rw [e0] at NF ⊢
      exact NB_spl 4 (Nat.le_refl 4) (NB_mono NF (by omega)) (SX_feedL 6 _ SA) (by omega)
  have SG := SX_goesB SA
  exact NB_upd (NB_readS NG SG) (SX_readS SG) (by simp [nbI])
def NI (s : kV) : Prop := (0 ≤ (s 2).toInt ∧ (s 2).toInt ≤ 9000) ∧ (0 ≤ (s 0).toInt ∧ (s 0).toInt ≤ 200) ∧ NB (200 * (s 2).toInt) s ∧ (-9 * (s 2).toInt ≤ (s 3).toInt ∧ (s 3).toInt ≤ 9 * (s 2).toInt) ∧ (-9 * (s 2).toInt ≤ (s 4).toInt ∧ (s 4).toInt ≤ 209 * (s 2).toInt) ∧ (-9 ≤ (s 20).toInt ∧ (s 20).toInt ≤ 9) ∧ 1 ≤ (s 18).toInt ∧ s 129 = -1000004
theorem NI_tick {s : kV} (h : NI s) (hS : SX s) (ht : (s 2).toInt < 9000) : NI (tickS s) ∧ (tickS s 2).toInt = (s 2).toInt + 1 ∧ (s 11).toInt ≤ (tickS s 11).toInt := by
  obtain ⟨⟨a1, a2⟩, ⟨b1, b2⟩, hN, ⟨c1, c2⟩, ⟨d1, d2⟩, ⟨e1, e2⟩, f1⟩ := h
  have S1 := SX_tk1 hS
  have S2 := SX_tk2 S1
  have v2 : (s 2 + 1).toInt = (s 2).toInt + 1 := by rw [ti_add (by rw [show (1 : Int32).toInt = 1 by decide]; omega) (by rw [show (1 : Int32).toInt = 1 by decide]; omega)]; rfl
  have N2 : NB (200 * (s 2).toInt) (tk2 (tk1 s)) := by
    have N1 : NB (200 * (s 2).toInt) (tk1 s) := NB_upd (NB_upd hN hS (by simp [nbI])) (SX_upd hS (by simp [sxI])) (by simp [nbI])
    unfold tk2
    split
    · exact NB_upd N1 S1 (by simp [nbI])
    · exact N1
  have w0 : tk2 (tk1 s) 0 = s 0 := by rw [tk2_k (by omega), tk1_k (by omega) (by omega)]
  have w2 : tk2 (tk1 s) 2 = s 2 + 1 := by rw [tk2_k (by omega)]; unfold tk1; rw [upd_ne (by omega), upd_s]
  have w11 : tk2 (tk1 s) 11 = s 11 := by rw [tk2_k (by omega), tk1_k (by omega) (by omega)]
  have S3 := SX_tk3 S2
  have q2 : tk3 (tk2 (tk1 s)) 2 = s 2 + 1 := by
    unfold tk3
    split
    · rw [goes_h (by simp [hG]) (by omega) S2, w2]
    · rw [upd_ne (by omega), w2]
  have x3 : tk2 (tk1 s) 3 = s 3 + (if s 2 + 1 - (s 2 + 1) / s 19 * s 19 = 0 then s 20 else 0) := by rw [tk2_k (by omega)]; unfold tk1; rw [upd_s]
  have q3 : tk3 (tk2 (tk1 s)) 3 = s 3 + (if s 2 + 1 - (s 2 + 1) / s 19 * s 19 = 0 then s 20 else 0) := by
    unfold tk3
    split
    · rw [goes_h (by simp [hG]) (by omega) S2, x3]
    · rw [upd_ne (by omega), x3]
  have N3 : NB (200 * (s 2).toInt + 200) (tk3 (tk2 (tk1 s))) := by
    unfold tk3
    split
    · exact NB_goes N2 S2 (by rw [w0]; exact b1) (by rw [w0]; exact b2) (by omega)
    · exact NB_mono (NB_upd N2 S2 (by simp [nbI])) (by omega)
  have N4 : NB (200 * (s 2).toInt + 200) (tickS s) := by
    unfold tickS tk4
    split
    · exact NB_upd N3 S3 (by simp [nbI])
    · exact N3
  have r2 : (tickS s 2).toInt = (s 2).toInt + 1 := by unfold tickS; rw [tk4_k (by omega), q2, v2]
  have q9 : -9 ≤ (if s 2 + 1 - (s 2 + 1) / s 19 * s 19 = 0 then s 20 else 0 : Int32).toInt ∧ (if s 2 + 1 - (s 2 + 1) / s 19 * s 19 = 0 then s 20 else 0 : Int32).toInt ≤ 9 := by
    split
    · exact ⟨e1, e2⟩
    · rw [ti_0]; omega
  have r3 : (tickS s 3).toInt = (s 3).toInt + (if s 2 + 1 - (s 2 + 1) / s 19 * s 19 = 0 then s 20 else 0 : Int32).toInt := by
    unfold tickS
    rw [tk4_k (by omega), q3]
    exact ti_add (by omega) (by omega)
  have r11 : (s 11).toInt ≤ (tickS s 11).toInt := by
    unfold tickS
    rw [tk4_k (by omega)]
    unfold tk3
    split
    · obtain ⟨m1, m2, m3, m4, m5⟩ := N2
      have sp : zs (tk2 (tk1 s)) 21 48 = zs (tk2 (tk1 s)) 21 44 + zs (tk2 (tk1 s)) 65 4 := zs_split _ 21 44 4
      have p1 : 0 ≤ zs (tk2 (tk1 s)) 21 44 := zs_nn (fun k hk => m1 k (by omega))
      have q65 : ∀ k, k < 4 → 0 ≤ (tk2 (tk1 s) (65 + k)).toInt := fun k hk => by have := m1 (44 + k) (by omega); rw [show 21 + (44 + k) = 65 + k by omega] at this; exact this
      have p2 : 0 ≤ zs (tk2 (tk1 s)) 65 4 := zs_nn q65
      have hF : (sm (tk2 (tk1 s)) 65 4).toInt = zs (tk2 (tk1 s)) 65 4 := zs_sm q65 (by omega)
      rw [goes_11 S2, ti_add (by omega) (by omega), hF, w11]; omega
    · rw [upd_ne (by omega), w11]; omega
  refine ⟨⟨by omega, ?_, ?_, ?_, ?_, ?_, ?_⟩, r2, r11⟩
  · rw [tick_k hS (by simp [tkF])]; exact ⟨b1, b2⟩
  · rw [r2, show 200 * ((s 2).toInt + 1) = 200 * (s 2).toInt + 200 by omega]; exact N4
  · rw [r2, r3]; omega
  · rw [tick_k (k := 4) hS (by simp [tkF]), r2]; omega
  · rw [tick_k hS (by simp [tkF])]; exact ⟨e1, e2⟩
  · rw [tick_k (k := 18) hS (by simp [tkF]), tick_k (k := 129) hS (by simp [tkF])]; exact f1
theorem NI_tickN {s : kV} (h : NI s) (hS : SX s) : ∀ n : Nat, (s 2).toInt + n ≤ 9000 → NI (tickN s n) ∧ (tickN s n 2).toInt = (s 2).toInt + n ∧ (s 11).toInt ≤ (tickN s n 11).toInt
  | 0, _ => ⟨h, by simp [tickN], Int.le_refl _⟩
  | n + 1, hn => by
    obtain ⟨h1, h2, h3⟩ := NI_tickN h hS n (by omega)
    obtain ⟨k1, k2, k3⟩ := NI_tick h1 (SX_tickN hS n) (by omega)
    exact ⟨k1, by show (tickS (tickN s n) 2).toInt = _; rw [k2, h2]; omega, Int.le_trans h3 k3⟩

