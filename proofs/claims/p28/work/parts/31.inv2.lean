def KI (s : kV) : Prop := SX s ∧ SB s ∧ NI s
def noE (r : Int32) : Prop := ¬ (-1000004 ≤ r ∧ r ≤ -1000001)
def opG (m : Int) (s : kV) (o : kO) : Prop := ∀ r t, o = (r, some t) → m ≤ r.toInt ∧ KI t ∧ ∀ k, 149 ≤ k → t k = s k
theorem g_if {m : Int} {s : kV} {c : Prop} [Decidable c] {e : Int32} {y : kO} (h : ¬ c → opG m s y) : opG m s (if c then (e, none) else y) := by
  by_cases q : c
  · rw [if_pos q]; intro r t ht; exact absurd (congrArg Prod.snd ht) (by simp)
  · rw [if_neg q]; exact h q
theorem g_some {m : Int} {s t : kV} {r : Int32} (h1 : m ≤ r.toInt) (h2 : KI t) (h3 : ∀ k, 149 ≤ k → t k = s k) : opG m s (r, some t) := by
  intro r' t' h
  cases h
  exact ⟨h1, h2, h3⟩
theorem SB_congr {s t : kV} (h : SB s) (e : ∀ k, k = 1 ∨ k = 12 ∨ k = 15 ∨ k = 16 → t k = s k) : SB t := by
  obtain ⟨h1, h2, h3⟩ := h
  refine ⟨by rw [e 1 (by omega)]; exact h1, by rw [e 16 (by omega)]; exact h2, fun h => ?_⟩
  rw [e 15 (by omega)] at h
  rw [nB, e 12 (by omega)]; exact h3 h
def niI (k : Nat) : Prop := k = 0 ∨ k = 2 ∨ k = 3 ∨ k = 4 ∨ k = 18 ∨ k = 20 ∨ k = 129
theorem NI_congr {s t : kV} (h : NI s) (e : ∀ k, niI k → t k = s k) (hN : NB (200 * (s 2).toInt) t) : NI t := by
  obtain ⟨h1, h2, h3, h4, h5, h6, h7⟩ := h
  rw [NI, e 0 (by simp [niI]), e 2 (by simp [niI]), e 3 (by simp [niI]), e 4 (by simp [niI]), e 18 (by simp [niI]), e 20 (by simp [niI]), e 129 (by simp [niI])]
  exact ⟨h1, h2, hN, h4, h5, h6, h7⟩
theorem KI_upd {s : kV} {k : Nat} {x : Int32} (h : KI s) (h1 : ¬ sxI k) (h2 : k ≠ 1 ∧ k ≠ 12 ∧ k ≠ 15 ∧ k ≠ 16) (h3 : ¬ niI k) (h4 : ¬ nbI k) : KI (upd s k x) :=
  ⟨SX_upd h.1 h1, SB_congr h.2.1 (fun j hj => upd_ne (by omega)), NI_congr h.2.2 (fun j hj => upd_ne (fun e => h3 (e ▸ hj))) (NB_upd h.2.2.2.2.1 h.1 h4)⟩
theorem nx_ti {x : Int32} {n : Nat} (h : x = nI n) (hn : n < 2 ^ 31) : x.toInt = n := by rw [h]; exact ti_nI hn
theorem g_Lot {s : kV} (h : KI s) (x y : Int32) : opG 0 s (oLot s x y) := by
  unfold oLot
  refine g_if (fun c1 => g_if (fun c2 => ?_))
  have c1 := Decidable.not_not.mp c1
  obtain ⟨hS, hB, hN⟩ := h
  obtain ⟨l1, l2, l3⟩ := SX_L hS
  have b1 := (SX_B hS).1
  have l4 : nLo s < 6 := by have := nx_ne c2 l2 (by omega) (b := 6) rfl (by omega); omega
  obtain ⟨κ, k1, k2⟩ := nx_rg (m := 3) (by omega) c1.1
  have e : ∀ k, k ≠ 69 + 2 * nLo s → k ≠ 70 + 2 * nLo s → k ≠ 13 → k ≠ 9 → upd (upd (upd (upd s (69 + 2 * nLo s) x) (70 + 2 * nLo s) y) 13 (s 13 + 1)) 9 (s 9 + y) k = s k := fun k h1 h2 h3 h4 => by rw [upd_ne h4, upd_ne h3, upd_ne h2, upd_ne h1]
  have e13 : upd (upd (upd (upd s (69 + 2 * nLo s) x) (70 + 2 * nLo s) y) 13 (s 13 + 1)) 9 (s 9 + y) 13 = nI (nLo s + 1) := by rw [upd_ne (by omega), upd_s, l2, nI_1]
  have eL : nLo (upd (upd (upd (upd s (69 + 2 * nLo s) x) (70 + 2 * nLo s) y) 13 (s 13 + 1)) 9 (s 9 + y)) = nLo s + 1 := tn_of e13 (by omega)
  obtain ⟨-, ⟨B, h4, h5⟩, ⟨A, h6, h7, h8, h9, h10⟩, h11⟩ := hS
  refine g_some ?_ ⟨⟨⟨nLo s + 1, by omega, e13, fun k hk => ?_⟩, ⟨B, h4, by rw [e _ (by omega) (by omega) (by omega) (by omega)]; exact h5⟩, ⟨A, h6, h7, by rw [e _ (by omega) (by omega) (by omega) (by omega)]; exact h8, fun a ha1 ha2 => ?_, fun κ hκ => ?_⟩, by rw [e _ (by omega) (by omega) (by omega) (by omega)]; exact h11⟩, SB_congr hB (fun k hk => e k (by omega) (by omega) (by omega) (by omega)), NI_congr hN (fun k hk => by simp only [niI] at hk; exact e k (by omega) (by omega) (by omega) (by omega)) ?_⟩ (fun k hk => e k (by omega) (by omega) (by omega) (by omega))
  · rw [l2, nI_1, ti_nI (by omega)]; omega
  · by_cases q : k = nLo s
    · exact ⟨κ, by omega, by rw [q, upd_ne (by omega), upd_ne (by omega), upd_ne (by omega), upd_s]; exact k2⟩
    · rw [e _ (by omega) (by omega) (by omega) (by omega)]; exact l3 k (by omega)
  · obtain ⟨v, hv, hw⟩ := h9 a ha1 ha2
    exact ⟨v, hv, (e _ (by omega) (by omega) (by omega) (by omega)).trans hw⟩
  · rw [e _ (by omega) (by omega) (by omega) (by omega)]; exact h10 κ hκ
  · obtain ⟨m1, m2, m3, m4, m5⟩ := hN.2.2.1
    have eB : nB (upd (upd (upd (upd s (69 + 2 * nLo s) x) (70 + 2 * nLo s) y) 13 (s 13 + 1)) 9 (s 9 + y)) = nB s := by rw [nB, e _ (by omega) (by omega) (by omega) (by omega), nB]
    refine ⟨fun k hk => by rw [e _ (by omega) (by omega) (by omega) (by omega)]; exact m1 k hk, by rw [e _ (by omega) (by omega) (by omega) (by omega)]; exact m2, ?_, fun k hk => ?_, fun b hb => ?_⟩
    · rw [e _ (by omega) (by omega) (by omega) (by omega), zs_cong (t := s) (b := 21) (fun k hk => e _ (by omega) (by omega) (by omega) (by omega))]; exact m3
    · rw [eL] at hk
      by_cases q : k = nLo s
      · rw [q, upd_ne (by omega), upd_ne (by omega), upd_s]
        have := ti_le.mp c1.2.1
        rw [show (1 : Int32).toInt = 1 by decide] at this; omega
      · rw [e _ (by omega) (by omega) (by omega) (by omega)]; exact m4 k (by omega)
    · rw [eB] at hb
      obtain ⟨i1, i2⟩ := m5 b hb
      refine ⟨fun κ hκ => by rw [e _ (by omega) (by omega) (by omega) (by omega)]; exact i1 κ hκ, ?_⟩
      rw [e 11 (by omega) (by omega) (by omega) (by omega), zs_cong (t := s) (b := 81 + 6 * b) (fun k hk => e _ (by omega) (by omega) (by omega) (by omega))]; exact i2
theorem g_Gate {s : kV} (h : KI s) (x : Int32) : opG 0 s (oGate s x) := by
  unfold oGate
  refine g_if (fun c1 => ?_)
  have c1 := Decidable.not_not.mp c1
  obtain ⟨hS, hB, h1, h2, h3, h4⟩ := h
  have a1 := ti_le.mp c1.1
  have a2 := ti_le.mp c1.2
  rw [show (0 : Int32).toInt = 0 by decide] at a1
  rw [show (200 : Int32).toInt = 200 by decide] at a2
  refine g_some (by omega) ⟨SX_upd hS (by simp [sxI]), SB_congr hB (fun j hj => upd_ne (by omega)), ?_⟩ (fun k hk => upd_ne (by omega))
  rw [NI, upd_ne (show 2 ≠ 0 by omega), upd_ne (show 3 ≠ 0 by omega), upd_ne (show 4 ≠ 0 by omega), upd_ne (show 18 ≠ 0 by omega), upd_ne (show 20 ≠ 0 by omega), upd_ne (show 129 ≠ 0 by omega), upd_s]
  exact ⟨h1, ⟨a1, a2⟩, NB_upd h3 hS (by simp [nbI]), h4⟩
theorem g_Run {s : kV} (h : KI s) (x : Int32) : opG 0 s (oRun s x) := by
  unfold oRun
  refine g_if (fun c1 => g_if (fun c2 => ?_))
  have c1 := Decidable.not_not.mp c1
  obtain ⟨hS, ⟨b1, b2, b3⟩, hN⟩ := h
  obtain ⟨j, hj, hx⟩ := nx_rg (m := 1) (by omega) c1
  refine g_some ?_ ⟨SX_upd hS (by simp [sxI]), ⟨?_, by rw [upd_ne (by omega)]; exact b2, ?_⟩, NI_congr hN (fun j hj => upd_ne (by simp only [niI] at hj; omega)) (NB_upd hN.2.2.1 hS (by simp [nbI]))⟩ (fun k hk => upd_ne (by omega))
  · rcases b1 with q | q <;> rw [q] <;> decide
  · rw [upd_s, hx]
    rcases (show j = 0 ∨ j = 1 by omega) with rfl | rfl
    · exact Or.inl rfl
    · exact Or.inr rfl
  · rw [upd_ne (by omega), nB, upd_ne (by omega)]; exact b3
theorem g_Bin {s : kV} (h : KI s) : opG 0 s (oBin s) := by
  unfold oBin
  refine g_if (fun c1 => g_if (fun c2 => ?_))
  obtain ⟨hS, ⟨b1, b2, b3⟩, hN⟩ := h
  obtain ⟨l1, l2⟩ := SX_B hS
  have l4 : nB s < 8 := by have := nx_ne c2 l2 (by omega) (b := 8) rfl (by omega); omega
  have e : ∀ k, (k < 81 + 6 * nB s ∨ 87 + 6 * nB s ≤ k) → k ≠ 12 → upd (binZ s (nB s)) 12 (s 12 + 1) k = s k := fun k h1 h2 => by rw [upd_ne h2]; unfold binZ; rw [if_neg (by omega)]
  have ez : ∀ k, 81 + 6 * nB s ≤ k → k < 87 + 6 * nB s → upd (binZ s (nB s)) 12 (s 12 + 1) k = 0 := fun k h1 h2 => by rw [upd_ne (by omega)]; unfold binZ; rw [if_pos ⟨h1, h2⟩]
  have e12 : upd (binZ s (nB s)) 12 (s 12 + 1) 12 = nI (nB s + 1) := by rw [upd_s, l2, nI_1]
  have eB : nB (upd (binZ s (nB s)) 12 (s 12 + 1)) = nB s + 1 := tn_of e12 (by omega)
  have eL : nLo (upd (binZ s (nB s)) 12 (s 12 + 1)) = nLo s := by rw [nLo, e _ (by omega) (by omega), nLo]
  have nl := (SX_L hS).1
  obtain ⟨⟨L, h1, h2, h3⟩, -, ⟨A, h6, h7, h8, h9, h10⟩, h11⟩ := hS
  have hLL : L = nLo s := (tn_of h2 (by omega)).symm
  refine g_some ?_ ⟨⟨⟨L, h1, by rw [e _ (by omega) (by omega)]; exact h2, fun k hk => by rw [e _ (by omega) (by omega)]; exact h3 k hk⟩, ⟨nB s + 1, by omega, e12⟩, ⟨A, h6, h7, by rw [e _ (by omega) (by omega)]; exact h8, fun a ha1 ha2 => ?_, fun κ hκ => ?_⟩, by rw [e _ (by omega) (by omega)]; exact h11⟩, ⟨by rw [e _ (by omega) (by omega)]; exact b1, by rw [e _ (by omega) (by omega)]; exact b2, fun _ => by rw [eB]; omega⟩, NI_congr hN (fun k hk => by simp only [niI] at hk; exact e k (by omega) (by omega)) ?_⟩ (fun k hk => e k (by omega) (by omega))
  · rw [l2, ti_nI (by omega)]; omega
  · obtain ⟨v, hv, hw⟩ := h9 a ha1 ha2
    exact ⟨v, hv, (e _ (by omega) (by omega)).trans hw⟩
  · rw [e _ (by omega) (by omega)]; exact h10 κ hκ
  · obtain ⟨m1, m2, m3, m4, m5⟩ := hN.2.2.1
    refine ⟨fun k hk => by rw [e _ (by omega) (by omega)]; exact m1 k hk, by rw [e _ (by omega) (by omega)]; exact m2, ?_, fun k hk => ?_, fun b hb => ?_⟩
    · rw [e _ (by omega) (by omega), zs_cong (t := s) (b := 21) (fun k hk => e _ (by omega) (by omega))]; exact m3
    · rw [eL] at hk; rw [e _ (by omega) (by omega)]; exact m4 k hk
    · rw [eB] at hb
      by_cases q : b = nB s
      · have z : ∀ κ, κ < 4 → upd (binZ s (nB s)) 12 (s 12 + 1) (81 + 6 * b + κ) = 0 := fun κ hκ => ez _ (by omega) (by omega)
        refine ⟨fun κ hκ => by rw [z κ hκ, ti_0]; omega, ?_⟩
        rw [e 11 (by omega) (by omega)]
        show 0 + (upd (binZ s (nB s)) 12 (s 12 + 1) (81 + 6 * b + 0)).toInt + (upd (binZ s (nB s)) 12 (s 12 + 1) (81 + 6 * b + 1)).toInt + (upd (binZ s (nB s)) 12 (s 12 + 1) (81 + 6 * b + 2)).toInt + (upd (binZ s (nB s)) 12 (s 12 + 1) (81 + 6 * b + 3)).toInt ≤ _
        rw [z 0 (by omega), z 1 (by omega), z 2 (by omega), z 3 (by omega), ti_0]; omega
      · obtain ⟨i1, i2⟩ := m5 b (by omega)
        refine ⟨fun κ hκ => by rw [e _ (by omega) (by omega)]; exact i1 κ hκ, ?_⟩
        rw [e 11 (by omega) (by omega), zs_cong (t := s) (b := 81 + 6 * b) (fun k hk => e _ (by omega) (by omega))]; exact i2
theorem NI_belt {s : kV} (h : NI s) : 0 ≤ (sm s 21 48).toInt ∧ (sm s 21 48).toInt ≤ 200 * (s 2).toInt ∧ 0 ≤ (sm s 37 16).toInt ∧ (sm s 37 16).toInt ≤ 200 * (s 2).toInt := by
  obtain ⟨⟨a1, a2⟩, -, ⟨m1, m2, m3, -⟩, -⟩ := h
  have p := zs_nn m1
  have e1 : (sm s 21 48).toInt = zs s 21 48 := zs_sm m1 (by omega)
  have s1 : zs s 21 48 = zs s 21 16 + zs s 37 32 := zs_split s 21 16 32
  have s2 : zs s 37 32 = zs s 37 16 + zs s 53 16 := zs_split s 37 16 16
  have c : ∀ a k, 21 ≤ a → a + k < 69 → 0 ≤ (s (a + k)).toInt := fun a k h1 h2 => by
    have := m1 (a + k - 21) (by omega)
    rw [show 21 + (a + k - 21) = a + k by omega] at this; exact this
  have p1 : 0 ≤ zs s 21 16 := zs_nn (fun k hk => c _ _ (by omega) (by omega))
  have p2 : 0 ≤ zs s 37 16 := zs_nn (fun k hk => c _ _ (by omega) (by omega))
  have p3 : 0 ≤ zs s 53 16 := zs_nn (fun k hk => c _ _ (by omega) (by omega))
  have e2 : (sm s 37 16).toInt = zs s 37 16 := zs_sm (fun k hk => c _ _ (by omega) (by omega)) (by omega)
  omega
theorem g_Batch {s : kV} (h : KI s) (x : Int32) : opG 0 s (oBatch s x) := by
  unfold oBatch
  refine g_if (fun c1 => g_if (fun c2 => ?_))
  obtain ⟨hS, ⟨b1, b2, b3⟩, hN⟩ := h
  have e : ∀ k, k ≠ 15 → k ≠ 16 → k ≠ 17 → k ≠ 1 → upd (upd (upd (upd s 15 x) 16 0) 17 0) 1 0 k = s k := fun k h1 h2 h3 h4 => by rw [upd_ne h4, upd_ne h3, upd_ne h2, upd_ne h1]
  refine g_some (by have := (NI_belt hN).1; omega) ⟨SX_congr hS (fun k hk => by simp only [sxI] at hk; exact e k (by omega) (by omega) (by omega) (by omega)), ⟨Or.inl (by rw [upd_s]), Or.inl (by rw [upd_ne (by omega), upd_ne (by omega), upd_s]), fun _ q => ?_⟩, NI_congr hN (fun k hk => by simp only [niI] at hk; exact e k (by omega) (by omega) (by omega) (by omega)) (NB_congr hN.2.2.1 hS (fun k hk => by simp only [nbI] at hk; exact e k (by omega) (by omega) (by omega) (by omega)))⟩ (fun k hk => e k (by omega) (by omega) (by omega) (by omega))
  rw [nB, e 12 (by omega) (by omega) (by omega) (by omega)] at q
  refine c2 (Or.inr ?_)
  have := (SX_B hS).2
  rw [this]
  have q' : nB s = 0 := q
  rw [q']; rfl
theorem g_Tick {s : kV} (h : KI s) (x : Int32) : opG 0 s (oTick s x) := by
  unfold oTick
  refine g_if (fun c1 => g_if (fun c2 => ?_))
  have c1 := Decidable.not_not.mp c1
  obtain ⟨hS, hB, hN⟩ := h
  obtain ⟨j, hj, hx⟩ := nx_rg (m := 200) (by omega) ⟨Int32.le_trans (by decide) c1.1, c1.2⟩
  have ht : tn x = j := tn_of hx (by omega)
  have hxi : x.toInt = j := nx_ti hx (by omega)
  obtain ⟨a1, a2⟩ := hN.1
  have hs : (s 2 + x).toInt = (s 2).toInt + x.toInt := ti_add (by omega) (by omega)
  have h9 := ti_le.mp (Int32.not_lt.mp c2)
  rw [show (9000 : Int32).toInt = 9000 by decide, hs] at h9
  obtain ⟨n1, n2, n3⟩ := NI_tickN hN hS j (by omega)
  rw [ht]
  have u := n1.2.2.1
  have up := zs_nn u.1
  have b1 := u.2.1
  have b2 := u.2.2.1
  have b3 := n1.1.2
  have c0 := hN.2.2.1.2.1
  refine g_some (by rw [ti_sub (by omega) (by omega)]; omega) ⟨SX_tickN hS j, SB_tickN hS hB j, n1⟩ (fun k hk => tickN_k hS (by simp only [tkF]; omega) j)
theorem g_Zero {s : kV} (h : KI s) : opG 0 s (oZero s) := by
  unfold oZero
  refine g_if (fun c1 => ?_)
  obtain ⟨hS, hB, hN⟩ := h
  obtain ⟨-, -, p1, p2⟩ := NI_belt hN
  obtain ⟨⟨a1, a2⟩, h2, h3, ⟨d1, d2⟩, ⟨z1, z2⟩, h6⟩ := hN
  have ea : (sm s 37 16 + s 3).toInt = (sm s 37 16).toInt + (s 3).toInt := ti_add (by omega) (by omega)
  have er : (s 4 + 1000000).toInt = (s 4).toInt + 1000000 := by
    rw [ti_add (by rw [show (1000000 : Int32).toInt = 1000000 by decide]; omega) (by rw [show (1000000 : Int32).toInt = 1000000 by decide]; omega)]; rfl
  refine g_some (by rw [er]; omega) ⟨SX_upd hS (by simp [sxI]), SB_congr hB (fun j hj => upd_ne (by omega)), ?_⟩ (fun k hk => upd_ne (by omega))
  rw [NI, upd_ne (show 2 ≠ 4 by omega), upd_ne (show 3 ≠ 4 by omega), upd_ne (show 0 ≠ 4 by omega), upd_ne (show 18 ≠ 4 by omega), upd_ne (show 20 ≠ 4 by omega), upd_ne (show 129 ≠ 4 by omega), upd_s]
  exact ⟨⟨a1, a2⟩, h2, NB_upd h3 hS (by simp [nbI]), ⟨d1, d2⟩, ⟨by omega, by omega⟩, h6⟩
theorem g_Correct {s : kV} (h : KI s) (x : Int32) : opG 0 s (oCorrect s x) := by
  unfold oCorrect
  refine g_if (fun c1 => g_if (fun c2 => ?_))
  refine g_some ?_ (KI_upd h (by simp [sxI]) (by omega) (by simp [niI]) (by simp [nbI])) (fun k hk => upd_ne (by omega))
  have l := Int64.not_lt.mp (fun q => c2 (Or.inl q))
  have u := Int64.not_lt.mp (fun q => c2 (Or.inr q))
  rw [Int64.le_iff_toInt_le] at l u
  rw [show (500 : Int64).toInt = 500 by decide] at l
  rw [show (2000 : Int64).toInt = 2000 by decide] at u
  rw [Int64.toInt_toInt32, Int.bmod_eq_of_le (by omega) (by omega)]
  omega
theorem g_Set {s : kV} (h : KI s) (x y : Int32) : opG (-9) s (oSet s x y) := by
  unfold oSet
  refine g_if (fun c1 => ?_)
  have c1 := Decidable.not_not.mp c1
  obtain ⟨⟨x0, x2⟩, y0, y2⟩ := c1
  obtain ⟨k0, hk0l, hk0⟩ := nx_rg (m := 2) (by omega) ⟨x0, x2⟩
  rw [tn_of hk0 (by omega)]
  obtain ⟨hS, hB, hN⟩ := h
  have hs19 := ti_le.mp hS.2.2.2
  rw [show (1 : Int32).toInt = 1 by decide] at hs19
  have hN' := hN
  obtain ⟨h1, h2, h3, h4, h5, ⟨e1, e2⟩, f1⟩ := hN
  have hSB : SB (upd s (18 + k0) y) := SB_congr hB (fun j hj => upd_ne (by omega))
  have hNB : NB (200 * (s 2).toInt) (upd s (18 + k0) y) := NB_upd h3 hS (by simp only [nbI]; omega)
  subst hk0
  rcases (show k0 = 0 ∨ k0 = 1 ∨ k0 = 2 by omega) with rfl | rfl | rfl
  · have y0 := ti_le.mp y0
    rw [show (if nI 0 = 2 then (-9 : Int32) else 1).toInt = 1 by decide] at y0
    refine g_some (by show -9 ≤ (s 18).toInt; omega) ⟨SX_upd hS (by simp [sxI]), hSB, ?_⟩ (fun k hk => upd_ne (by omega))
    rw [NI, upd_ne (show 2 ≠ 18 + 0 by omega), upd_ne (show 3 ≠ 18 + 0 by omega), upd_ne (show 0 ≠ 18 + 0 by omega), upd_ne (show 4 ≠ 18 + 0 by omega), upd_ne (show 20 ≠ 18 + 0 by omega), upd_ne (show 129 ≠ 18 + 0 by omega)]
    exact ⟨h1, h2, hNB, h4, h5, ⟨e1, e2⟩, by rw [upd_s]; exact y0, f1.2⟩
  · rw [show (if nI 1 = 2 then (-9 : Int32) else 1) = 1 by decide] at y0
    refine g_some (by show -9 ≤ (s 19).toInt; omega) ⟨?_, hSB, ?_⟩ (fun k hk => upd_ne (by omega))
    · obtain ⟨⟨L, q1, q2, q3⟩, ⟨B, q4, q5⟩, ⟨A, q6, q7, q8, q9, q10⟩, q11⟩ := hS
      refine ⟨⟨L, q1, by rw [upd_ne (by omega)]; exact q2, fun k hk => by rw [upd_ne (by omega)]; exact q3 k hk⟩, ⟨B, q4, by rw [upd_ne (by omega)]; exact q5⟩, ⟨A, q6, q7, by rw [upd_ne (by omega)]; exact q8, fun a a1 a2 => ?_, fun κ hκ => by rw [upd_ne (by omega)]; exact q10 κ hκ⟩, by rw [upd_s]; exact y0⟩
      obtain ⟨v, hv, hw⟩ := q9 a a1 a2
      exact ⟨v, hv, (upd_ne (by omega)).trans hw⟩
    · exact NI_congr hN' (fun j hj => upd_ne (by simp only [niI] at hj; omega)) hNB
  · have y0 := ti_le.mp y0
    have y2 := ti_le.mp y2
    rw [show (if nI 2 = 2 then (-9 : Int32) else 1).toInt = -9 by decide] at y0
    rw [show (if nI 2 = 0 then (500 : Int32) else if nI 2 = 1 then 99 else 9).toInt = 9 by decide] at y2
    refine g_some (by show -9 ≤ (s 20).toInt; omega) ⟨SX_upd hS (by simp [sxI]), hSB, ?_⟩ (fun k hk => upd_ne (by omega))
    rw [NI, upd_ne (show 2 ≠ 18 + 2 by omega), upd_ne (show 3 ≠ 18 + 2 by omega), upd_ne (show 0 ≠ 18 + 2 by omega), upd_ne (show 4 ≠ 18 + 2 by omega), upd_ne (show 18 ≠ 18 + 2 by omega), upd_ne (show 129 ≠ 18 + 2 by omega)]
    exact ⟨h1, h2, hNB, h4, h5, ⟨by rw [upd_s]; exact y0, by rw [upd_s]; exact y2⟩, f1⟩
theorem g_Account {s : kV} (h : KI s) (x : Int32) : opG 0 s (oAccount s x) := by
  unfold oAccount
  refine g_if (fun c1 => g_if (fun c2 => ?_))
  have c1 := Decidable.not_not.mp c1
  obtain ⟨hS, hB, hN⟩ := h
  obtain ⟨a1, a2, a3, a4, a5⟩ := SX_A hS
  have a6 : nAc s < 8 := by have := nx_ne c2 a3 (by omega) (b := 8) rfl (by omega); omega
  obtain ⟨v0, v1, v2⟩ := nx_rl (by omega) a3 c1
  have e : ∀ k, k ≠ 129 + 2 * nAc s → k ≠ 130 + 2 * nAc s → k ≠ 14 → upd (upd (upd s (129 + 2 * nAc s) x) (130 + 2 * nAc s) 0) 14 (s 14 + 1) k = s k := fun k h1 h2 h3 => by rw [upd_ne h3, upd_ne h2, upd_ne h1]
  have nl := (SX_L hS).1
  have nb := (SX_B hS).1
  have hS' := hS
  obtain ⟨⟨L, q1, q2, q3⟩, ⟨B, q4, q5⟩, -, q11⟩ := hS
  refine g_some ?_ ⟨⟨⟨L, q1, by rw [e _ (by omega) (by omega) (by omega)]; exact q2, fun k hk => by rw [e _ (by omega) (by omega) (by omega)]; exact q3 k hk⟩, ⟨B, q4, by rw [e _ (by omega) (by omega) (by omega)]; exact q5⟩, ⟨nAc s + 1, by omega, by omega, by rw [upd_s, a3, nI_1], fun a h1 h2 => ?_, fun κ hκ => ?_⟩, by rw [e _ (by omega) (by omega) (by omega)]; exact q11⟩, SB_congr hB (fun k hk => e k (by omega) (by omega) (by omega)), NI_congr hN (fun k hk => by simp only [niI] at hk; exact e k (by omega) (by omega) (by omega)) (NB_congr hN.2.2.1 hS' (fun k hk => by simp only [nbI] at hk; exact e k (by omega) (by omega) (by omega)))⟩ (fun k hk => e k (by omega) (by omega) (by omega))
  · rw [a3, ti_nI (by omega)]; omega
  · show ∃ v, v < a ∧ upd (upd (upd s (129 + 2 * nAc s) x) (130 + 2 * nAc s) 0) 14 (s 14 + 1) (129 + 2 * a) = nI v
    by_cases q : a = nAc s
    · exact ⟨v0, by omega, by rw [q, upd_ne (by omega), upd_ne (by omega), upd_s]; exact v2⟩
    · obtain ⟨v, hv, hw⟩ := a4 a h1 (by omega)
      exact ⟨v, hv, (e _ (by omega) (by omega) (by omega)).trans hw⟩
  · obtain ⟨v, hv, hw⟩ := a5 κ hκ
    exact ⟨v, by omega, (e _ (by omega) (by omega) (by omega)).trans hw⟩
theorem g_Book {s : kV} (h : KI s) (x y : Int32) : opG 0 s (oBook s x y) := by
  unfold oBook
  refine g_if (fun c1 => ?_)
  have c1 := Decidable.not_not.mp c1
  obtain ⟨hS, hB, hN⟩ := h
  obtain ⟨a1, a2, a3, a4, a5⟩ := SX_A hS
  obtain ⟨k0, k1, k2⟩ := nx_rg (m := 3) (by omega) c1.1
  obtain ⟨v0, v1, v2⟩ := nx_rl (by omega) a3 c1.2
  rw [tn_of k2 (by omega)]
  obtain ⟨⟨L, q1, q2, q3⟩, ⟨B, q4, q5⟩, -, q11⟩ := hS
  have hS' : SX s := ⟨⟨L, q1, q2, q3⟩, ⟨B, q4, q5⟩, ⟨nAc s, a1, a2, a3, a4, a5⟩, q11⟩
  obtain ⟨w0, w1, w2⟩ := a5 k0 (by omega)
  refine g_some (by rw [w2, ti_nI (by omega)]; omega) ⟨⟨⟨L, q1, by rw [upd_ne (by omega)]; exact q2, fun k hk => by rw [upd_ne (by omega)]; exact q3 k hk⟩, ⟨B, q4, by rw [upd_ne (by omega)]; exact q5⟩, ⟨nAc s, a1, a2, by rw [upd_ne (by omega)]; exact a3, fun a h1 h2 => ?_, fun κ hκ => ?_⟩, by rw [upd_ne (by omega)]; exact q11⟩, SB_congr hB (fun k hk => upd_ne (by omega)), NI_congr hN (fun k hk => by simp only [niI] at hk; exact upd_ne (by omega)) (NB_upd hN.2.2.1 hS' (by simp only [nbI]; omega))⟩ (fun k hk => upd_ne (by omega))
  · obtain ⟨v, hv, hw⟩ := a4 a h1 h2
    exact ⟨v, hv, (upd_ne (by omega)).trans hw⟩
  · by_cases q : κ = k0
    · exact ⟨v0, v1, by rw [q, upd_s]; exact v2⟩
    · obtain ⟨v, hv, hw⟩ := a5 κ hκ
      exact ⟨v, hv, (upd_ne (by omega)).trans hw⟩
theorem g_cmO {s : kV} (h : KI s) (l v w : Int32) : opG 0 s (cmO s l v w) := by
  unfold cmO
  repeat' split
  · exact g_Bin h
  · exact g_Run h 1
  · exact g_Run h 0
  · exact g_Zero h
  · exact g_Lot h v w
  · exact g_Gate h v
  · exact g_Batch h v
  · exact g_Correct h v
  · exact g_Tick h v
theorem noE_of {r : Int32} (h : -9 ≤ r.toInt) : noE r := by
  rintro ⟨-, h2⟩
  have := ti_le.mp h2
  rw [show (-1000001 : Int32).toInt = -1000001 by decide] at this
  omega
theorem KI_bm {s : kV} (h : KI s) : ∀ b, b < nB s → 0 ≤ bMass s b ∧ bMass s b ≤ 2000000 := by
  intro b hb
  obtain ⟨⟨a1, a2⟩, -, ⟨m1, m2, m3, -, m5⟩, -⟩ := h.2.2
  obtain ⟨i1, i2⟩ := m5 b hb
  have p := zs_nn m1
  have p2 := zs_nn i1
  have e : (bMass s b).toInt = zs s (81 + 6 * b) 4 := zs_sm i1 (by omega)
  rw [ti_le, ti_le, e, ti_0, show (2000000 : Int32).toInt = 2000000 by decide]
  omega
theorem opG_mono {m n : Int} {s : kV} {o : kO} (h : opG m s o) (hm : n ≤ m) : opG n s o := fun r t e => ⟨Int.le_trans hm (h r t e).1, (h r t e).2⟩
