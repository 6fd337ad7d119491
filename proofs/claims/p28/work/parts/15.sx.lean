theorem fallB_sx {s : kV} (h : SX s) {κ : Nat} (hκ : κ < 4) : ∀ k, sxI k → fallB s κ k = s k := by
  intro k hk
  have h1 := (SX_bk h hκ).1
  have h2 := (SX_A h).2.1
  unfold fallB
  refine upd_ne ?_
  simp only [sxI] at hk; omega
theorem SX_falls1 {s : kV} (h : SX s) : SX (falls1 s) := by
  unfold falls1
  exact SX_upd (SX_upd (SX_upd h (by simp [sxI])) (by simp [sxI])) (by simp [sxI])
theorem SX_fallA {s : kV} (h : SX s) {b κ : Nat} (hb : b < 8) (hκ : κ < 4) : SX (fallA s b κ) := by
  unfold fallA
  exact SX_upd h (by simp only [sxI]; omega)
theorem SX_fallK {s : kV} (h : SX s) {b κ : Nat} (hb : b < 8) (hκ : κ < 4) : SX (fallK s b κ) := SX_congr (SX_fallA h hb hκ) (fallB_sx (SX_fallA h hb hκ) hκ)
theorem SX_fallN {s : kV} (h : SX s) {b : Nat} (hb : b < 8) : ∀ n, n ≤ 4 → SX (fallN s b n)
  | 0, _ => h
  | n + 1, hn => SX_fallK (SX_fallN h hb n (by omega)) hb (by omega)
theorem SX_falls {s : kV} (h : SX s) : SX (falls s) := by
  have hB := (SX_B h).1
  unfold falls
  split
  · exact SX_falls1 h
  · have h4 := SX_fallN (SX_falls1 h) (b := nB s - 1) (by omega) 4 (Nat.le_refl 4)
    split
    · exact SX_upd h4 (by simp only [sxI]; omega)
    · exact h4
theorem SX_shift {s : kV} (h : SX s) : SX (shiftS s) := SX_congr h (fun k hk => by
  unfold shiftS
  simp only [sxI] at hk
  rw [if_neg (by omega), if_neg (by omega)])
theorem feed1_k {s : kV} (h : SX s) (hL : 0 < nLo s) : tn (s 69) < 4 ∧ s 69 = nI (tn (s 69)) := by
  obtain ⟨-, -, h3⟩ := SX_L h
  obtain ⟨κ, h4, h5⟩ := h3 0 hL
  have h5 : s 69 = nI κ := h5
  rw [tn_of h5 (by omega)]; exact ⟨h4, h5⟩
theorem SX_feed1 {s : kV} (h : SX s) (hL : 0 < nLo s) (x : Int32) : SX (feed1 s x) := by
  have := (feed1_k h hL).1
  unfold feed1
  exact SX_upd (SX_upd h (by simp only [sxI]; omega)) (by simp [sxI])
theorem feed1_13 {s : kV} (h : SX s) (hL : 0 < nLo s) (x : Int32) : feed1 s x 13 = s 13 := by
  have := (feed1_k h hL).1
  unfold feed1
  rw [upd_ne (by omega), upd_ne (by omega)]
theorem feed1_nLo {s : kV} (h : SX s) (hL : 0 < nLo s) (x : Int32) : nLo (feed1 s x) = nLo s := by rw [nLo, feed1_13 h hL, nLo]
theorem popL_13 {s : kV} : popL s 13 = s 13 - 1 := by simp [popL]
theorem popL_nLo {s : kV} (h : SX s) (hL : 0 < nLo s) : nLo (popL s) = nLo s - 1 := by
  obtain ⟨h1, h2, -⟩ := SX_L h
  rw [nLo, popL_13]
  refine tn_of ?_ (by omega)
  rw [h2, show nLo s = (nLo s - 1) + 1 by omega, nI_pred]
  congr 1
theorem SX_pop {s : kV} (h : SX s) (hL : 0 < nLo s) : SX (popL s) := by
  obtain ⟨l1, l2, l3⟩ := SX_L h
  obtain ⟨-, ⟨B, h4, h5⟩, ⟨A, h6, h7, h8, h9, h10⟩, h11⟩ := h
  have e : ∀ k, (k = 12 ∨ k = 14 ∨ k = 19 ∨ 81 ≤ k) → popL s k = s k := fun k hk => by
    unfold popL
    rw [if_neg (by omega), if_neg (by omega)]
  refine ⟨⟨nLo s - 1, by omega, ?_, fun k hk => ?_⟩, ⟨B, h4, by rw [e 12 (by omega)]; exact h5⟩, ⟨A, h6, h7, by rw [e 14 (by omega)]; exact h8, fun a ha1 ha2 => ?_, fun κ hκ => ?_⟩, by rw [e 19 (by omega)]; exact h11⟩
  · rw [popL_13, l2, show nLo s = (nLo s - 1) + 1 by omega, nI_pred]; congr 1
  · unfold popL
    rw [if_pos (by omega), show 69 + 2 * k + 2 = 69 + 2 * (k + 1) by omega]
    exact l3 (k + 1) (by omega)
  · obtain ⟨v, hv, hw⟩ := h9 a ha1 ha2
    exact ⟨v, hv, by show popL s (129 + 2 * a) = _; rw [e _ (by omega)]; exact hw⟩
  · rw [e _ (by omega)]; exact h10 κ hκ
theorem lots_pos {s : kV} (h : SX s) : 0 < s 13 ↔ 0 < nLo s := by
  obtain ⟨h1, h2, -⟩ := SX_L h
  exact (nx_cmp (x := 0) (a := 0) rfl (by omega) h2 (by omega)).2.1
theorem SX_feedL : ∀ (n : Nat) (l : Int32) {s : kV}, SX s → SX (feedL n l s)
  | 0, _, _, h => h
  | n + 1, l, s, h => by
    unfold feedL
    split
    · rename_i hc
      have hL := (lots_pos h).mp hc.2
      have h1 := SX_feed1 h hL (mn (s 70) l)
      split
      · exact SX_feedL n _ (SX_pop h1 (by rw [feed1_nLo h hL]; exact hL))
      · exact SX_feedL n _ h1
    · exact h
theorem SX_spl : ∀ (n : Nat) (m : Int32) {s : kV}, n ≤ 4 → SX s → SX (spl n m s)
  | 0, _, _, _, h => h
  | n + 1, m, s, hn, h => by
    unfold spl
    split
    · exact SX_spl n _ (by omega) (SX_upd (SX_upd h (by simp only [sxI]; omega)) (by simp [sxI]))
    · exact h
theorem SX_feeds {s : kV} (h : SX s) : SX (feeds s) := SX_spl 4 _ (Nat.le_refl 4) (SX_feedL 6 _ h)
theorem SX_readS {s : kV} (h : SX s) : SX (readS s) := by
  have hB := (SX_B h).1
  have h1 : SX (reads1 s (rdg s + s 6)) := SX_upd (SX_upd h (by simp [sxI])) (by simp [sxI])
  unfold readS
  split
  · exact h1
  · exact SX_upd h1 (by simp only [sxI]; omega)
theorem SX_goesB {s : kV} (h : SX s) : SX (goesB s) := by
  unfold goesB
  split
  · exact h
  · exact SX_feeds h
theorem SX_goes {s : kV} (h : SX s) : SX (goesS s) := SX_upd (SX_readS (SX_goesB (SX_shift (SX_falls h)))) (by simp [sxI])
theorem SX_tk1 {s : kV} (h : SX s) : SX (tk1 s) := SX_upd (SX_upd h (by simp [sxI])) (by simp [sxI])
theorem SX_tk2 {s : kV} (h : SX s) : SX (tk2 s) := by
  unfold tk2
  split
  · exact SX_upd h (by simp [sxI])
  · exact h
theorem SX_tk3 {s : kV} (h : SX s) : SX (tk3 s) := by
  unfold tk3
  split
  · exact SX_goes h
  · exact SX_upd h (by simp [sxI])
theorem SX_tk4 {s : kV} (h : SX s) : SX (tk4 s) := by
  unfold tk4
  split
  · exact SX_upd h (by simp [sxI])
  · exact h
theorem SX_tick {s : kV} (h : SX s) : SX (tickS s) := SX_tk4 (SX_tk3 (SX_tk2 (SX_tk1 h)))
theorem SX_tickN {s : kV} (h : SX s) : ∀ n, SX (tickN s n)
  | 0 => h
  | n + 1 => SX_tick (SX_tickN h n)

