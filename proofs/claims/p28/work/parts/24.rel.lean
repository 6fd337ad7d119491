-- a plant at p tells the row s
def PRh (I : kI) (p : Nat) (s : kV) : Prop := I (p + 1) 2 = s 13 ∧ I (p + 1) 3 = s 9 ∧ ∀ k, k < nLo s → I (p + 2) k = s (69 + 2 * k) ∧ I (p + 3) k = s (70 + 2 * k)
def PRb (I : kI) (p : Nat) (s : kV) : Prop := ∃ z, z < 12 ∧ I (p + 4) 1 = nI z ∧ (∀ π κ, π < 12 → κ < 4 → I (p + 5) ((z + π) % 12 * 4 + κ) = s (21 + 4 * π + κ)) ∧ I (p + 4) 2 = sm s 21 48
def PRn (I : kI) (p : Nat) (s : kV) : Prop := I (p + 6) 3 = s 12 ∧ (∀ b κ, b < 8 → κ < 4 → I (p + 7) (b * 4 + κ) = if b < nB s then s (81 + 6 * b + κ) else 0) ∧ (∀ b, b < 8 → I (p + 8) b = if b < nB s then s (85 + 6 * b) else 0) ∧ (∀ b, b < 8 → I (p + 9) b = if b < nB s then s (86 + 6 * b) else 0)
def PRs (I : kI) (p : Nat) (s : kV) : Prop := I (p + 10) 0 = s 3 ∧ I (p + 10) 1 = s 4 ∧ I (p + 10) 2 = s 5 ∧ I (p + 10) 3 = s 6 ∧ I (p + 10) 4 = s 7
def PRa (I : kI) (p : Nat) (s : kV) : Prop := I (p + 11) 3 = s 14 ∧ (∀ a, 1 ≤ a → a < nAc s → I (p + 12) a = s (129 + 2 * a)) ∧ (∀ a, a < 8 → I (p + 13) a = if a < nAc s then s (130 + 2 * a) else 0) ∧ (∀ κ, κ < 4 → I (p + 14) κ = s (145 + κ))
def PRt (I : kI) (p : Nat) (s : kV) : Prop := ∀ k, k < 3 → I (p + 15) k = s (18 + k)
def PRp (I : kI) (p : Nat) (s : kV) : Prop := I p 6 = s 0 ∧ I p 7 = s 1 ∧ I p 8 = s 15 ∧ (0 < s 15 → I p 9 = s 16) ∧ (¬ 0 < s 15 → I p 9 = 0) ∧ (0 < s 15 → I p 10 = s 17) ∧ I p 11 = s 2 ∧ I p 12 = s 8 ∧ I p 13 = s 10 ∧ I p 14 = s 11
def PR (I : kI) (p : Nat) (s : kV) : Prop := PRh I p s ∧ PRb I p s ∧ PRn I p s ∧ PRs I p s ∧ PRa I p s ∧ PRt I p s ∧ PRp I p s
def frP (p : Nat) (I I1 : kI) : Prop := ∀ b, (b < p ∨ p + 16 ≤ b) → I1 b = I b
theorem frP_r {p : Nat} {I : kI} : frP p I I := fun _ _ => rfl
theorem frP_t {p : Nat} {I J K : kI} (h1 : frP p I J) (h2 : frP p J K) : frP p I K := fun b hb => (h2 b hb).trans (h1 b hb)
theorem frP_kst {p : Nat} {I : kI} {a k : Nat} {x : Int32} (h : p ≤ a ∧ a < p + 16) : frP p I (kst I a k x) := fun b hb => kst_n (by omega)
theorem PRh_c {I J : kI} {p : Nat} {s t : kV} (h : PRh I p s) (e1 : J (p + 1) = I (p + 1)) (e2 : J (p + 2) = I (p + 2)) (e3 : J (p + 3) = I (p + 3)) (es : ∀ k, k = 9 ∨ k = 13 ∨ (69 ≤ k ∧ k < 81) → t k = s k) (hL : nLo s ≤ 6) : PRh J p t := by
  obtain ⟨h1, h2, h3⟩ := h
  have e13 := es 13 (by omega)
  refine ⟨by rw [e1, e13]; exact h1, by rw [e1, es 9 (by omega)]; exact h2, fun k hk => ?_⟩
  rw [nLo, e13] at hk
  have hk' : k < nLo s := hk
  obtain ⟨g1, g2⟩ := h3 k hk'
  exact ⟨by rw [e2, es _ (by omega)]; exact g1, by rw [e3, es _ (by omega)]; exact g2⟩
theorem PRb_c {I J : kI} {p : Nat} {s t : kV} (h : PRb I p s) (e1 : J (p + 4) = I (p + 4)) (e2 : J (p + 5) = I (p + 5)) (es : ∀ k, 21 ≤ k → k < 69 → t k = s k) : PRb J p t := by
  obtain ⟨z, h1, h2, h3, h4⟩ := h
  refine ⟨z, h1, by rw [e1]; exact h2, fun π κ hπ hκ => ?_, ?_⟩
  · rw [e2, es _ (by omega) (by omega)]; exact h3 π κ hπ hκ
  · rw [e1, h4]; exact sm_cong (fun k hk => (es (21 + k) (by omega) (by omega)).symm)
theorem PRn_c {I J : kI} {p : Nat} {s t : kV} (h : PRn I p s) (e1 : J (p + 6) = I (p + 6)) (e2 : J (p + 7) = I (p + 7)) (e3 : J (p + 8) = I (p + 8)) (e4 : J (p + 9) = I (p + 9)) (es : ∀ k, k = 12 ∨ (81 ≤ k ∧ k < 129) → t k = s k) : PRn J p t := by
  obtain ⟨h1, h2, h3, h4⟩ := h
  have e12 := es 12 (by omega)
  have eB : nB t = nB s := by rw [nB, e12, nB]
  refine ⟨by rw [e1, e12]; exact h1, fun b κ hb hκ => ?_, fun b hb => ?_, fun b hb => ?_⟩
  · rw [e2, eB, es _ (by omega)]; exact h2 b κ hb hκ
  · rw [e3, eB, es _ (by omega)]; exact h3 b hb
  · rw [e4, eB, es _ (by omega)]; exact h4 b hb
theorem PRs_c {I J : kI} {p : Nat} {s t : kV} (h : PRs I p s) (e1 : J (p + 10) = I (p + 10)) (es : ∀ k, 3 ≤ k → k < 8 → t k = s k) : PRs J p t := by
  obtain ⟨h1, h2, h3, h4, h5⟩ := h
  refine ⟨?_, ?_, ?_, ?_, ?_⟩ <;> rw [e1, es _ (by omega) (by omega)] <;> assumption
theorem PRa_c {I J : kI} {p : Nat} {s t : kV} (h : PRa I p s) (e1 : J (p + 11) = I (p + 11)) (e2 : J (p + 12) = I (p + 12)) (e3 : J (p + 13) = I (p + 13)) (e4 : J (p + 14) = I (p + 14)) (es : ∀ k, k = 14 ∨ 129 ≤ k → t k = s k) : PRa J p t := by
  obtain ⟨h1, h2, h3, h4⟩ := h
  have e14 := es 14 (by omega)
  have eA : nAc t = nAc s := by rw [nAc, e14, nAc]
  refine ⟨by rw [e1, e14]; exact h1, fun a h1 h2' => ?_, fun a ha => ?_, fun κ hκ => ?_⟩
  · rw [eA] at h2'; rw [e2, es _ (by omega)]; exact h2 a h1 h2'
  · rw [e3, eA, es _ (by omega)]; exact h3 a ha
  · rw [e4, es _ (by omega)]; exact h4 κ hκ
theorem PRt_c {I J : kI} {p : Nat} {s t : kV} (h : PRt I p s) (e1 : J (p + 15) = I (p + 15)) (es : ∀ k, 18 ≤ k → k < 21 → t k = s k) : PRt J p t := fun k hk => by
  rw [e1, es _ (by omega) (by omega)]; exact h k hk
theorem PRp_c {I J : kI} {p : Nat} {s t : kV} (h : PRp I p s) (e1 : J p = I p) (es : ∀ k, k = 0 ∨ k = 1 ∨ k = 2 ∨ k = 8 ∨ k = 10 ∨ k = 11 ∨ k = 15 ∨ k = 16 ∨ k = 17 → t k = s k) : PRp J p t := by
  obtain ⟨h1, h2, h3, h4, h5, h6, h7, h8, h9, h10⟩ := h
  rw [PRp, e1, es 0 (by omega), es 1 (by omega), es 2 (by omega), es 8 (by omega), es 10 (by omega), es 11 (by omega), es 15 (by omega), es 16 (by omega), es 17 (by omega)]
  exact ⟨h1, h2, h3, h4, h5, h6, h7, h8, h9, h10⟩
theorem PR_same {I J : kI} {p q : Nat} {s : kV} (h : PR I q s) (e : sameP J p I q) (hS : SX s) : PR J p s := by
  obtain ⟨⟨a1, a2, a3⟩, ⟨z, b1, b2, b3, b4⟩, ⟨c1, c2, c3, c4⟩, ⟨d1, d2, d3, d4, d5⟩, ⟨f1, f2, f3, f4⟩, g1, h1, h2, h3, h4, h5, h6, h7, h8, h9, h10⟩ := h
  have hL := (SX_L hS).1
  have hA := (SX_A hS).2.1
  have e0 : ∀ k, 6 ≤ k → k < 15 → J p k = I q k := fun k x y => e 0 k ⟨x, y⟩
  have hB : ∀ b κ, b < 8 → κ < 4 → b * 4 + κ < 32 := fun b κ _ _ => by omega
  refine ⟨⟨(e 1 2 (Or.inl rfl)).trans a1, (e 1 3 (Or.inr rfl)).trans a2, fun k hk => ?_⟩, ⟨z, b1, (e 4 1 (Or.inl rfl)).trans b2, fun π κ hπ hκ => ?_, (e 4 2 (Or.inr rfl)).trans b4⟩, ⟨(e 6 3 rfl).trans c1, fun b κ hb hκ => ?_, fun b hb => ?_, fun b hb => ?_⟩, ⟨?_, ?_, ?_, ?_, ?_⟩, ⟨(e 11 3 rfl).trans f1, fun a x y => ?_, fun a ha => ?_, fun κ hκ => ?_⟩, fun k hk => ?_, ?_⟩
  · obtain ⟨x, y⟩ := a3 k hk
    exact ⟨(e 2 k (show k < 6 by omega)).trans x, (e 3 k (show k < 6 by omega)).trans y⟩
  · exact (e 5 _ (show _ < 48 by omega)).trans (b3 π κ hπ hκ)
  · exact (e 7 _ (hB b κ hb hκ)).trans (c2 b κ hb hκ)
  · exact (e 8 _ hb).trans (c3 b hb)
  · exact (e 9 _ hb).trans (c4 b hb)
  · exact (e 10 0 (show 0 < 5 by omega)).trans d1
  · exact (e 10 1 (show 1 < 5 by omega)).trans d2
  · exact (e 10 2 (show 2 < 5 by omega)).trans d3
  · exact (e 10 3 (show 3 < 5 by omega)).trans d4
  · exact (e 10 4 (show 4 < 5 by omega)).trans d5
  · exact (e 12 a (show a < 8 by omega)).trans (f2 a x y)
  · exact (e 13 a ha).trans (f3 a ha)
  · exact (e 14 κ hκ).trans (f4 κ hκ)
  · exact (e 15 k hk).trans (g1 k hk)
  · rw [PRp, e0 6 (by omega) (by omega), e0 7 (by omega) (by omega), e0 8 (by omega) (by omega), e0 9 (by omega) (by omega), e0 10 (by omega) (by omega), e0 11 (by omega) (by omega), e0 12 (by omega) (by omega), e0 13 (by omega) (by omega), e0 14 (by omega) (by omega)]
    exact ⟨h1, h2, h3, h4, h5, h6, h7, h8, h9, h10⟩
def opP (p : Nat) (I : kI) (o : kO) (I1 : kI) : Prop := match o.2 with
  | none => I1 = I
  | some s => frP p I I1 ∧ PR I1 p s
theorem PR_bool {I : kI} {p : Nat} {s : kV} (h : PRp I p s) (h16 : s 16 = 0 ∨ s 16 = 1) : I p 9 = 0 ∨ I p 9 = 1 := by
  obtain ⟨-, -, -, h4, h5, -⟩ := h
  by_cases c : 0 < s 15
  · rw [h4 c]; exact h16
  · exact Or.inl (h5 c)

