theorem sm_upd {f : kV} {a j : Nat} {d : Int32} : ∀ n, j < n → sm (upd f (a + j) (f (a + j) + d)) a n = sm f a n + d
  | 0, h => absurd h (by omega)
  | n + 1, h => by
    rw [sm_succ, sm_succ]
    by_cases c : j = n
    · subst c
      rw [upd_s, sm_cong (f := upd f (a + j) (f (a + j) + d)) (g := f) (b := a) (fun k hk => upd_ne (by omega)), Int32.add_assoc]
    · rw [sm_upd n (by omega), upd_ne (by omega), nx_addc]
def PRz (I : kI) (p : Nat) (s : kV) (z : Nat) : Prop := z < 12 ∧ I (p + 4) 1 = nI z ∧ (∀ π κ, π < 12 → κ < 4 → I (p + 5) ((z + π) % 12 * 4 + κ) = s (21 + 4 * π + κ)) ∧ I (p + 4) 2 = sm s 21 48
theorem PRz_c {I J : kI} {p z : Nat} {s t : kV} (h : PRz I p s z) (e1 : J (p + 4) = I (p + 4)) (e2 : J (p + 5) = I (p + 5)) (es : ∀ k, 21 ≤ k → k < 69 → t k = s k) : PRz J p t z := by
  obtain ⟨h1, h2, h3, h4⟩ := h
  refine ⟨h1, by rw [e1]; exact h2, fun π κ hπ hκ => ?_, ?_⟩
  · rw [e2, es _ (by omega) (by omega)]; exact h3 π κ hπ hκ
  · rw [e1, h4]; exact sm_cong (fun k hk => (es (21 + k) (by omega) (by omega)).symm)
theorem PRz_add {J J' : kI} {p z π κ : Nat} {V : kV} {d : Int32} (h : PRz J p V z) (hπ : π < 12) (hκ : κ < 4) (e4 : J' (p + 4) = upd (J (p + 4)) 2 (J (p + 4) 2 + d)) (e5 : J' (p + 5) = upd (J (p + 5)) ((z + π) % 12 * 4 + κ) (J (p + 5) ((z + π) % 12 * 4 + κ) + d)) : PRz J' p (upd V (21 + 4 * π + κ) (V (21 + 4 * π + κ) + d)) z := by
  obtain ⟨h0, h1, h2, h3⟩ := h
  refine ⟨h0, by rw [e4, upd_ne (by omega)]; exact h1, fun π' κ' hπ' hκ' => ?_, ?_⟩
  · rw [e5]
    by_cases c : π' = π ∧ κ' = κ
    · obtain ⟨rfl, rfl⟩ := c
      rw [upd_s, upd_s, h2 _ _ hπ hκ]
    · rw [upd_ne (by omega), upd_ne (by omega)]; exact h2 _ _ hπ' hκ'
  · rw [e4, upd_s, h3, show 21 + 4 * π + κ = 21 + (4 * π + κ) by omega]
    exact (sm_upd 48 (by omega)).symm
def zr (κ : Nat) (s : kV) : kV := fun k => if 65 ≤ k ∧ k < 65 + κ then 0 else s k
theorem zr_step {s : kV} {κ : Nat} : upd (zr κ s) (21 + 4 * 11 + κ) (zr κ s (21 + 4 * 11 + κ) + -(s (65 + κ))) = zr (κ + 1) s := by
  funext k
  show upd (zr κ s) (65 + κ) (zr κ s (65 + κ) + -(s (65 + κ))) k = _
  by_cases hk : k = 65 + κ
  · subst hk
    rw [upd_s]
    unfold zr
    rw [if_neg (by omega), if_pos (by omega)]
    rw [← Int32.sub_eq_add_neg, Int32.sub_self]
  · rw [upd_ne hk]
    unfold zr
    by_cases h : 65 ≤ k ∧ k < 65 + κ
    · rw [if_pos h, if_pos (by omega)]
    · rw [if_neg h, if_neg (by omega)]
theorem fallK_at {t : kV} {w κ : Nat} (hw : w < 8) (hκ : κ < 4) (k : Nat) : fallK t w κ k = if k = 81 + 6 * w + κ then t k + t (65 + κ) else if k = 130 + 2 * tn (t (145 + κ)) then t k + t (65 + κ) else t k := by
  unfold fallK fallB fallA
  rw [upd_ne (show 145 + κ ≠ 81 + 6 * w + κ by omega), upd_ne (show 65 + κ ≠ 81 + 6 * w + κ by omega), upd_ne (show 130 + 2 * tn (t (145 + κ)) ≠ 81 + 6 * w + κ by omega)]
  by_cases h1 : k = 81 + 6 * w + κ
  · rw [if_pos h1, upd_ne (by omega), h1, upd_s]
  · rw [if_neg h1]
    by_cases h2 : k = 130 + 2 * tn (t (145 + κ))
    · rw [if_pos h2, h2, upd_s]
    · rw [if_neg h2, upd_ne h2, upd_ne h1]
theorem fallN_lo {t : kV} {w : Nat} (hw : w < 8) {k : Nat} (hk : k < 81 ∨ (84 + 6 * w < k ∧ k < 130)) : ∀ n, n ≤ 4 → fallN t w n k = t k
  | 0, _ => rfl
  | n + 1, hn => by
    show fallK (fallN t w n) w n k = t k
    rw [fallK_at hw (by omega), if_neg (by omega), if_neg (by omega)]
    exact fallN_lo hw hk n (by omega)
theorem falls1_lo {s : kV} {k : Nat} (h1 : k ≠ 10) (h2 : k ≠ 11) (h3 : k ≠ 17) : falls1 s k = s k := by
  unfold falls1
  rw [upd_ne h3, upd_ne h1, upd_ne h2]
theorem falls_at {s : kV} {w k : Nat} (hw : w < 8) (hB : nB s = w + 1) : falls s k = if k = 86 + 6 * w ∧ 0 < sm s 65 4 then fallN (falls1 s) w 4 k + 1 else fallN (falls1 s) w 4 k := by
  unfold falls
  rw [if_neg (by omega), hB]
  show (if 0 < sm s 65 4 then upd (fallN (falls1 s) w 4) (86 + 6 * w) (fallN (falls1 s) w 4 (86 + 6 * w) + 1) else _) k = _
  by_cases h : 0 < sm s 65 4
  · rw [if_pos h]
    by_cases hk : k = 86 + 6 * w
    · rw [if_pos ⟨hk, h⟩, hk, upd_s]
    · rw [if_neg (fun q => hk q.1), upd_ne hk]
  · rw [if_neg h, if_neg (fun q => h q.2)]; rfl
theorem falls_lo {s : kV} (hS : SX s) {k : Nat} (hk : k < 81) (h1 : k ≠ 10) (h2 : k ≠ 11) (h3 : k ≠ 17) : falls s k = s k := by
  have hB := (SX_B hS).1
  cases h : nB s with
  | zero => unfold falls; rw [if_pos h]; exact falls1_lo h1 h2 h3
  | succ w => rw [falls_at (by omega) h, if_neg (by omega), fallN_lo (by omega) (Or.inl hk) 4 (Nat.le_refl 4)]; exact falls1_lo h1 h2 h3
def DR (I : kI) (p z w : Nat) (s : kV) (κ : Nat) (J : kI) : Prop := (∀ a, a ≠ p + 4 → a ≠ p + 5 → a ≠ p + 7 → a ≠ p + 13 → J a = I a) ∧ PRz J p (zr κ s) z ∧ PRn J p (fallN (falls1 s) w κ) ∧ PRa J p (fallN (falls1 s) w κ)
theorem DR_m {I J : kI} {p z w κ : Nat} {s : kV} (h : DR I p z w s κ J) (hκ : κ < 4) : J (p + 5) ((z + 11) % 12 * 4 + κ) = s (65 + κ) := by
  rw [h.2.1.2.2.1 11 κ (by omega) hκ]
  show zr κ s (65 + κ) = _
  unfold zr; rw [if_neg (by omega)]
theorem DR_v {I J : kI} {p z w κ : Nat} {s : kV} (hS : SX s) (hw : w < 8) (h : DR I p z w s κ J) (hκ : κ < 4) : J (p + 14) κ = nI (tn (s (145 + κ))) ∧ tn (s (145 + κ)) < 8 ∧ fallN (falls1 s) w κ (145 + κ) = s (145 + κ) ∧ nAc (fallN (falls1 s) w κ) = nAc s ∧ tn (s (145 + κ)) < nAc s := by
  have e : fallN (falls1 s) w κ (145 + κ) = s (145 + κ) := (fallN_k (SX_falls1 hS) hw (by simp only [tkF]; omega) κ (by omega)).trans (falls1_k (by simp only [tkF]; omega))
  have e2 : fallN (falls1 s) w κ 14 = s 14 := (fallN_k (SX_falls1 hS) hw (by simp [tkF]) κ (by omega)).trans (falls1_k (by simp [tkF]))
  obtain ⟨b1, b2⟩ := SX_bk hS hκ
  have := (SX_A hS).2.1
  exact ⟨by rw [h.2.2.2.2.2.2 κ hκ, e]; exact b2, by omega, e, by rw [nAc, e2, nAc], b1⟩
theorem DR_step {I J J3 : kI} {p z w κ : Nat} {s : kV} (hS : SX s) (hw : nB s = w + 1) (hκ : κ < 4) (h : DR I p z w s κ J) (eo : ∀ a, a ≠ p + 4 → a ≠ p + 5 → a ≠ p + 7 → a ≠ p + 13 → J3 a = J a)
    (e4 : J3 (p + 4) = upd (J (p + 4)) 2 (J (p + 4) 2 - J (p + 5) ((z + 11) % 12 * 4 + κ))) (e5 : J3 (p + 5) = upd (J (p + 5)) ((z + 11) % 12 * 4 + κ) (J (p + 5) ((z + 11) % 12 * 4 + κ) - J (p + 5) ((z + 11) % 12 * 4 + κ)))
    (e7 : J3 (p + 7) = upd (J (p + 7)) (w * 4 + κ) (J (p + 7) (w * 4 + κ) + J (p + 5) ((z + 11) % 12 * 4 + κ))) (e13 : J3 (p + 13) = upd (J (p + 13)) (tn (s (145 + κ))) (J (p + 13) (tn (s (145 + κ))) + J (p + 5) ((z + 11) % 12 * 4 + κ))) : DR I p z w s (κ + 1) J3 := by
  have hw8 : w < 8 := by have := (SX_B hS).1; omega
  have hm := DR_m h hκ
  obtain ⟨v1, v2, v3, v4, v5⟩ := DR_v hS hw8 h hκ
  obtain ⟨h1, h2, ⟨n1, n2, n3, n4⟩, ⟨a1, a2, a3, a4⟩⟩ := h
  have e12 : fallN (falls1 s) w κ 12 = s 12 := (fallN_k (SX_falls1 hS) hw8 (by simp [tkF]) κ (by omega)).trans (falls1_k (by simp [tkF]))
  have eB : nB (fallN (falls1 s) w κ) = w + 1 := by rw [nB, e12]; exact hw
  have e65 : fallN (falls1 s) w κ (65 + κ) = s (65 + κ) := (fallN_lo hw8 (by omega) κ (by omega)).trans (falls1_lo (by omega) (by omega) (by omega))
  have ea := fallK_at (t := fallN (falls1 s) w κ) hw8 hκ
  rw [v3, e65] at ea
  have eB' : nB (fallK (fallN (falls1 s) w κ) w κ) = w + 1 := by rw [nB, ea, if_neg (by omega), if_neg (by omega)]; exact eB
  have eA' : nAc (fallK (fallN (falls1 s) w κ) w κ) = nAc (fallN (falls1 s) w κ) := by rw [nAc, ea, if_neg (by omega), if_neg (by omega), nAc]
  rw [hm] at e4 e5 e7 e13
  refine ⟨fun a x1 x2 x3 x4 => (eo a x1 x2 x3 x4).trans (h1 a x1 x2 x3 x4), ?_, ⟨?_, fun b κ' hb hκ' => ?_, fun b hb => ?_, fun b hb => ?_⟩, ⟨?_, fun a x1 x2 => ?_, fun a ha => ?_, fun κ' hκ' => ?_⟩⟩
  · rw [← zr_step]
    exact PRz_add h2 (by omega) hκ (by rw [e4, Int32.sub_eq_add_neg]) (by rw [e5, hm, Int32.sub_eq_add_neg])
  · show J3 (p + 6) 3 = fallK (fallN (falls1 s) w κ) w κ 12
    rw [eo _ (by omega) (by omega) (by omega) (by omega), n1, ea, if_neg (by omega), if_neg (by omega)]
  · show J3 (p + 7) (b * 4 + κ') = if b < nB (fallK (fallN (falls1 s) w κ) w κ) then fallK (fallN (falls1 s) w κ) w κ (81 + 6 * b + κ') else 0
    rw [eB', e7, ea]
    by_cases hq : b = w ∧ κ' = κ
    · obtain ⟨rfl, rfl⟩ := hq
      rw [upd_s, if_pos (by omega), if_pos rfl, n2 _ _ hb hκ', eB, if_pos (by omega)]
    · rw [upd_ne (by omega), if_neg (show ¬ 81 + 6 * b + κ' = 81 + 6 * w + κ by omega), if_neg (show ¬ 81 + 6 * b + κ' = 130 + 2 * tn (s (145 + κ)) by omega), n2 _ _ hb hκ', eB]
  · show J3 (p + 8) b = if b < nB (fallK (fallN (falls1 s) w κ) w κ) then fallK (fallN (falls1 s) w κ) w κ (85 + 6 * b) else 0
    rw [eo _ (by omega) (by omega) (by omega) (by omega), n3 b hb, eB, eB', ea, if_neg (show ¬ 85 + 6 * b = 81 + 6 * w + κ by omega), if_neg (show ¬ 85 + 6 * b = 130 + 2 * tn (s (145 + κ)) by omega)]
  · show J3 (p + 9) b = if b < nB (fallK (fallN (falls1 s) w κ) w κ) then fallK (fallN (falls1 s) w κ) w κ (86 + 6 * b) else 0
    rw [eo _ (by omega) (by omega) (by omega) (by omega), n4 b hb, eB, eB', ea, if_neg (show ¬ 86 + 6 * b = 81 + 6 * w + κ by omega), if_neg (show ¬ 86 + 6 * b = 130 + 2 * tn (s (145 + κ)) by omega)]
  · show J3 (p + 11) 3 = fallK (fallN (falls1 s) w κ) w κ 14
    rw [eo _ (by omega) (by omega) (by omega) (by omega), a1, ea, if_neg (by omega), if_neg (by omega)]
  · show J3 (p + 12) a = fallK (fallN (falls1 s) w κ) w κ (129 + 2 * a)
    have x2' : a < nAc (fallN (falls1 s) w κ) := by rw [← eA']; exact x2
    rw [eo _ (by omega) (by omega) (by omega) (by omega), a2 a x1 x2', ea, if_neg (by omega), if_neg (by omega)]
  · show J3 (p + 13) a = if a < nAc (fallK (fallN (falls1 s) w κ) w κ) then fallK (fallN (falls1 s) w κ) w κ (130 + 2 * a) else 0
    rw [eA', e13, ea, if_neg (show ¬ 130 + 2 * a = 81 + 6 * w + κ by omega)]
    by_cases hq : a = tn (s (145 + κ))
    · rw [hq, upd_s, if_pos (by omega), if_pos rfl, a3 _ v2, if_pos (by omega)]
    · rw [upd_ne hq, if_neg (show ¬ 130 + 2 * a = 130 + 2 * tn (s (145 + κ)) by omega), a3 a ha]
  · show J3 (p + 14) κ' = fallK (fallN (falls1 s) w κ) w κ (145 + κ')
    rw [eo _ (by omega) (by omega) (by omega) (by omega), a4 κ' hκ', ea, if_neg (by omega), if_neg (by omega)]
theorem zr_k {κ : Nat} {s : kV} {k : Nat} (h : k < 65 ∨ 65 + κ ≤ k) : zr κ s k = s k := by unfold zr; rw [if_neg (by omega)]
theorem zr_B {κ : Nat} {s : kV} (h : κ ≤ 4) : nB (zr κ s) = nB s ∧ nAc (zr κ s) = nAc s := ⟨by rw [nB, zr_k (by omega), nB], by rw [nAc, zr_k (by omega), nAc]⟩
theorem zr_PRn {κ : Nat} {J : kI} {p : Nat} {s : kV} (h : PRn J p s) (hκ : κ ≤ 4) : PRn J p (zr κ s) := PRn_c h rfl rfl rfl rfl (fun k hk => zr_k (by omega))
theorem zr_PRa {κ : Nat} {J : kI} {p : Nat} {s : kV} (h : PRa J p s) (hκ : κ ≤ 4) : PRa J p (zr κ s) := PRa_c h rfl rfl rfl rfl (fun k hk => zr_k (by omega))
theorem DR_end {I J K : kI} {p z w : Nat} {s : kV} (hS : SX s) (hR : PR I p s) (hw : nB s = w + 1) (h : DR I p z w s 4 J) (eo : ∀ a, a ≠ p → a ≠ p + 9 → K a = J a) (e0 : K p = upd (upd (J p) 10 (J p 10 + sm s 65 4)) 14 (J p 14 + sm s 65 4)) (e9 : ∀ b, K (p + 9) b = if b = w ∧ 0 < sm s 65 4 then J (p + 9) b + 1 else J (p + 9) b) : frP p I K ∧ PR K p (zr 4 (falls s)) := by
  have hw8 : w < 8 := by have := (SX_B hS).1; omega
  obtain ⟨h1, h2, h3, h4⟩ := h
  obtain ⟨rh, rb, rn, rs, ra, rt, rp⟩ := hR
  have ei : ∀ a, a ≠ p → a ≠ p + 4 → a ≠ p + 5 → a ≠ p + 7 → a ≠ p + 9 → a ≠ p + 13 → K a = I a := fun a x1 x2 x3 x4 x5 x6 => (eo a x1 x5).trans (h1 a x2 x3 x4 x6)
  have el : ∀ k, k < 81 → k ≠ 10 → k ≠ 11 → k ≠ 17 → (k < 65 ∨ 69 ≤ k) → zr 4 (falls s) k = s k := fun k x1 x2 x3 x4 x5 => (zr_k (by omega)).trans (falls_lo hS x1 x2 x3 x4)
  have ef : ∀ k, k ≠ 86 + 6 * w → falls s k = fallN (falls1 s) w 4 k := fun k hk => by rw [falls_at hw8 hw, if_neg (fun q => hk q.1)]
  have eg : ∀ k, k < 81 → falls s k = falls1 s k := fun k hk => by rw [ef k (by omega), fallN_lo hw8 (by omega) 4 (Nat.le_refl 4)]
  refine ⟨fun b hb => ei b (by omega) (by omega) (by omega) (by omega) (by omega) (by omega), ?_, ⟨z, PRz_c h2 (eo _ (by omega) (by omega)) (eo _ (by omega) (by omega)) (fun k x1 x2 => ?_)⟩, zr_PRn ?_ (by omega), ?_, zr_PRa ?_ (by omega), ?_, ?_⟩
  · exact PRh_c rh (ei _ (by omega) (by omega) (by omega) (by omega) (by omega) (by omega)) (ei _ (by omega) (by omega) (by omega) (by omega) (by omega) (by omega)) (ei _ (by omega) (by omega) (by omega) (by omega) (by omega) (by omega)) (fun k hk => el k (by omega) (by omega) (by omega) (by omega) (by omega)) (SX_L hS).1
  · unfold zr
    by_cases q : 65 ≤ k ∧ k < 65 + 4
    · rw [if_pos q, if_pos q]
    · rw [if_neg q, if_neg q, falls_lo hS (by omega) (by omega) (by omega) (by omega)]
  · obtain ⟨n1, n2, n3, n4⟩ := h3
    have eB : nB (falls s) = nB (fallN (falls1 s) w 4) := by rw [nB, ef 12 (by omega), nB]
    have eB2 : nB (fallN (falls1 s) w 4) = w + 1 := by rw [← eB, nB, falls_k hS (by simp [tkF])]; exact hw
    refine ⟨?_, fun b κ' hb hκ' => ?_, fun b hb => ?_, fun b hb => ?_⟩
    · rw [eo _ (by omega) (by omega), n1, ef 12 (by omega)]
    · rw [eo _ (by omega) (by omega), n2 b κ' hb hκ', eB, ef _ (by omega)]
    · rw [eo _ (by omega) (by omega), n3 b hb, eB, ef _ (by omega)]
    · rw [e9, n4 b hb, eB, eB2, falls_at hw8 hw]
      by_cases q : b = w
      · subst q
        rw [if_pos (show b < b + 1 by omega), if_pos (show b < b + 1 by omega)]
        by_cases q2 : 0 < sm s 65 4
        · rw [if_pos ⟨rfl, q2⟩, if_pos ⟨rfl, q2⟩]
        · rw [if_neg (fun x => q2 x.2), if_neg (fun x => q2 x.2)]
      · rw [if_neg (fun x => q x.1), if_neg (show ¬ (86 + 6 * b = 86 + 6 * w ∧ 0 < sm s 65 4) from fun x => absurd x.1 (by omega))]
  · exact PRs_c rs (ei _ (by omega) (by omega) (by omega) (by omega) (by omega) (by omega)) (fun k x1 x2 => el k (by omega) (by omega) (by omega) (by omega) (by omega))
  · exact PRa_c h4 (eo _ (by omega) (by omega)) (eo _ (by omega) (by omega)) (eo _ (by omega) (by omega)) (eo _ (by omega) (by omega)) (fun k hk => ef k (by omega))
  · exact PRt_c rt (ei _ (by omega) (by omega) (by omega) (by omega) (by omega) (by omega)) (fun k x1 x2 => el k (by omega) (by omega) (by omega) (by omega) (by omega))
  · have ep : J p = I p := h1 p (by omega) (by omega) (by omega) (by omega)
    obtain ⟨g1, g2, g3, g4, g5, g6, g7, g8, g9, g10⟩ := rp
    rw [PRp, e0, ep, el 0 (by omega) (by omega) (by omega) (by omega) (by omega), el 1 (by omega) (by omega) (by omega) (by omega) (by omega), el 2 (by omega) (by omega) (by omega) (by omega) (by omega), el 8 (by omega) (by omega) (by omega) (by omega) (by omega), el 15 (by omega) (by omega) (by omega) (by omega) (by omega), el 16 (by omega) (by omega) (by omega) (by omega) (by omega), zr_k (k := 10) (by omega), zr_k (k := 11) (by omega), zr_k (k := 17) (by omega), eg 10 (by omega), eg 11 (by omega), eg 17 (by omega)]
    have hB0 : ¬ nB s = 0 := by omega
    simp only [falls1, upd, hB0, if_false]
    refine ⟨g1, g2, g3, g4, g5, ?_, g7, g8, ?_, ?_⟩
    · intro q; simp [g6 q]
    · simp [g9]
    · simp [g10]
def DZ (I : kI) (p z : Nat) (s : kV) (κ : Nat) (J : kI) : Prop := (∀ a, a ≠ p → a ≠ p + 4 → a ≠ p + 5 → J a = I a) ∧ J p = upd (I p) 13 (I p 13 + sm s 65 κ) ∧ PRz J p (zr κ s) z
theorem DZ_m {I J : kI} {p z κ : Nat} {s : kV} (h : DZ I p z s κ J) (hκ : κ < 4) : J (p + 5) ((z + 11) % 12 * 4 + κ) = s (65 + κ) := by
  rw [h.2.2.2.2.1 11 κ (by omega) hκ]
  show zr κ s (65 + κ) = _
  unfold zr; rw [if_neg (by omega)]
theorem DZ_step {I J J3 : kI} {p z κ : Nat} {s : kV} (hκ : κ < 4) (h : DZ I p z s κ J) (eo : ∀ a, a ≠ p → a ≠ p + 4 → a ≠ p + 5 → J3 a = J a)
    (e4 : J3 (p + 4) = upd (J (p + 4)) 2 (J (p + 4) 2 - J (p + 5) ((z + 11) % 12 * 4 + κ))) (e5 : J3 (p + 5) = upd (J (p + 5)) ((z + 11) % 12 * 4 + κ) (J (p + 5) ((z + 11) % 12 * 4 + κ) - J (p + 5) ((z + 11) % 12 * 4 + κ)))
    (e0 : J3 p = upd (J p) 13 (J p 13 + J (p + 5) ((z + 11) % 12 * 4 + κ))) : DZ I p z s (κ + 1) J3 := by
  have hm := DZ_m h hκ
  obtain ⟨h1, h2, h3⟩ := h
  rw [hm] at e4 e5 e0
  refine ⟨fun a x1 x2 x3 => (eo a x1 x2 x3).trans (h1 a x1 x2 x3), ?_, ?_⟩
  · rw [e0, h2, upd_s, sm_succ, Int32.add_assoc]
    funext k
    by_cases hk : k = 13
    · rw [hk, upd_s, upd_s]
    · rw [upd_ne hk, upd_ne hk, upd_ne hk]
  · rw [← zr_step]
    exact PRz_add h3 (by omega) hκ (by rw [e4, Int32.sub_eq_add_neg]) (by rw [e5, hm, Int32.sub_eq_add_neg])
theorem DZ_end {I J K : kI} {p z : Nat} {s : kV} (hS : SX s) (hR : PR I p s) (hw : nB s = 0) (hb : ¬ 0 < s 15) (h : DZ I p z s 4 J) (eo : ∀ a, a ≠ p → K a = J a) (e0 : K p = upd (upd (J p) 10 (J p 10 + sm s 65 4)) 14 (J p 14 + sm s 65 4)) : frP p I K ∧ PR K p (zr 4 (falls s)) := by
  obtain ⟨h1, h2, h3⟩ := h
  obtain ⟨rh, rb, rn, rs, ra, rt, rp⟩ := hR
  have ei : ∀ a, a ≠ p → a ≠ p + 4 → a ≠ p + 5 → K a = I a := fun a x1 x2 x3 => (eo a x1).trans (h1 a x1 x2 x3)
  have ef : falls s = falls1 s := by unfold falls; rw [if_pos hw]
  have el : ∀ k, k ≠ 10 → k ≠ 11 → k ≠ 17 → (k < 65 ∨ 69 ≤ k) → zr 4 (falls s) k = s k := fun k x2 x3 x4 x5 => (zr_k (by omega)).trans (by rw [ef]; exact falls1_lo x2 x3 x4)
  refine ⟨fun b hb => ei b (by omega) (by omega) (by omega), ?_, ⟨z, PRz_c h3 (eo _ (by omega)) (eo _ (by omega)) (fun k x1 x2 => ?_)⟩, ?_, ?_, ?_, ?_, ?_⟩
  · exact PRh_c rh (ei _ (by omega) (by omega) (by omega)) (ei _ (by omega) (by omega) (by omega)) (ei _ (by omega) (by omega) (by omega)) (fun k hk => el k (by omega) (by omega) (by omega) (by omega)) (SX_L hS).1
  · unfold zr
    by_cases q : 65 ≤ k ∧ k < 65 + 4
    · rw [if_pos q, if_pos q]
    · rw [if_neg q, if_neg q, falls_lo hS (by omega) (by omega) (by omega) (by omega)]
  · exact PRn_c rn (ei _ (by omega) (by omega) (by omega)) (ei _ (by omega) (by omega) (by omega)) (ei _ (by omega) (by omega) (by omega)) (ei _ (by omega) (by omega) (by omega)) (fun k hk => el k (by omega) (by omega) (by omega) (by omega))
  · exact PRs_c rs (ei _ (by omega) (by omega) (by omega)) (fun k x1 x2 => el k (by omega) (by omega) (by omega) (by omega))
  · exact PRa_c ra (ei _ (by omega) (by omega) (by omega)) (ei _ (by omega) (by omega) (by omega)) (ei _ (by omega) (by omega) (by omega)) (ei _ (by omega) (by omega) (by omega)) (fun k hk => el k (by omega) (by omega) (by omega) (by omega))
  · exact PRt_c rt (ei _ (by omega) (by omega) (by omega)) (fun k x1 x2 => el k (by omega) (by omega) (by omega) (by omega))
  · obtain ⟨g1, g2, g3, g4, g5, g6, g7, g8, g9, g10⟩ := rp
    rw [PRp, e0, h2, el 0 (by omega) (by omega) (by omega) (by omega), el 1 (by omega) (by omega) (by omega) (by omega), el 2 (by omega) (by omega) (by omega) (by omega), el 8 (by omega) (by omega) (by omega) (by omega), el 15 (by omega) (by omega) (by omega) (by omega), el 16 (by omega) (by omega) (by omega) (by omega), zr_k (k := 10) (by omega), zr_k (k := 11) (by omega), zr_k (k := 17) (by omega), ef]
    simp only [falls1, upd, hw, if_true]
    refine ⟨g1, g2, g3, g4, g5, fun q => absurd q hb, g7, g8, ?_, ?_⟩
    · simp [g9]
    · simp [g10]
theorem nI_pos3 {n : Nat} (h : 0 < n) (h2 : n < 2 ^ 31) : ¬ nI n ≤ 0 := fun q => by
  have := (nx_cmp (x := nI n) rfl h2 (y := 0) (b := 0) rfl (by omega)).1.mp q
  omega
set_option maxHeartbeats 4000000 in
set_option maxRecDepth 100000 in
theorem c_Plant_drop0 {g : kG} {σ : kS} {I : kI} {p : Nat} {s : kV} (hP : sPlant g σ p) (hR : PR I p s) (hS : SX s) (hB : nB s = 0) (hb : 0 < s 15 → nB s ≠ 0) : ct g mX6_dropAtEnd ⟨1, 0, 0, 23⟩ [.ref p] σ I (qEI σ (fun r I1 => r = sm s 65 4 ∧ frP p I I1 ∧ PR I1 p (zr 4 (falls s)))) := by
  refine ct_of pn6 rfl (Nat.le_of_ble_eq_true rfl) ok_X6_dropAtEnd.1 trivial ?_
  show wp _ _ _ _ _ _ _ _ 0 [some (.ref p), none, none, none] []
  have hRR := hR
  obtain ⟨rh, rb, rn, rs, ra, rt, rp⟩ := hR
  have B2 := SX_B hS
  have hw8 : nB s ≤ 8 := B2.1
  obtain ⟨z, z1, z2, z3, z4⟩ := rb
  refine w_iconst (pc := 0) (v := 0) dX6_dropAtEnd_0 (by decide) ?_
  refine w_istore_1 (pc := 1) dX6_dropAtEnd_1 rfl ?_
  refine w_iconst (pc := 2) (v := 0) dX6_dropAtEnd_2 (by decide) ?_
  refine w_istore_2 (pc := 3) dX6_dropAtEnd_3 rfl ?_
  have L0 : ∀ (n κ : Nat) (x z2 : Int32) (J : kI), κ ≤ 4 → 5 ≤ κ + n → x = sm s 65 κ → z2 = nI κ → DZ I p z s κ J → wp g mX6_dropAtEnd ⟨1, 0, 0, 23⟩ (fun _ => True) (qEI σ (fun r I1 => r = sm s 65 4 ∧ frP p I I1 ∧ PR I1 p (zr 4 (falls s)))) (0, 0) σ J 4 [some (.ref p), some (.int x), some (.int z2), none] [] := by
    intro n
    induction n with
    | zero => intro κ x z2 J h1 h2; exact absurd h2 (by omega)
    | succ n ih =>
      intro κ x z2 J h1 h2 hx hz2 hD
      refine w_iload_2 (pc := 4) dX6_dropAtEnd_4 ?_
      refine w_iconst (pc := 5) (v := 4) dX6_dropAtEnd_5 (by decide) ?_
      refine w_icmp_ge (pc := 6) (tgt := 82) dX6_dropAtEnd_6 (by decide) (fun c6 => ?_) (fun c6 => ?_)
      · have hκ4 : 4 ≤ κ := (nx_cmp (a := 4) rfl (by omega) hz2 (by omega)).1.mp c6
        obtain rfl : κ = 4 := by omega
        subst hx
        have j6 : J (p + 6) 3 = nI (nB s) := by rw [hD.1 _ (by omega) (by omega) (by omega), rn.1]; exact B2.2
        refine w_iload_1 (pc := 82) dX6_dropAtEnd_82 ?_
        refine w_if_le (pc := 83) (tgt := 93) dX6_dropAtEnd_83 (by decide) (fun c83 => ?_) (fun c83 => ?_)
        · refine w_aload_0 (pc := 93) dX6_dropAtEnd_93 ?_
          refine w_dup_a (pc := 94) dX6_dropAtEnd_94 ?_
          refine w_getI (pc := 95) kc6 10 (sP_in0 hP) (sP_s0 hP) rfl t187 dX6_dropAtEnd_95 ?_
          refine w_iload_1 (pc := 98) dX6_dropAtEnd_98 ?_
          refine w_iadd (pc := 99) dX6_dropAtEnd_99 ?_
          refine w_putI (pc := 100) kc6 10 (sP_in0 hP) (sP_s0 hP) rfl t187 rfl (tyX6_ok 10 (by decide)) rfl rfl dX6_dropAtEnd_100 ?_
          refine w_aload_0 (pc := 103) dX6_dropAtEnd_103 ?_
          refine w_dup_a (pc := 104) dX6_dropAtEnd_104 ?_
          refine w_getI (pc := 105) kc6 14 (sP_in0 hP) (sP_s0 hP) rfl t194 dX6_dropAtEnd_105 ?_
          refine w_iload_1 (pc := 108) dX6_dropAtEnd_108 ?_
          refine w_iadd (pc := 109) dX6_dropAtEnd_109 ?_
          refine w_putI (pc := 110) kc6 14 (sP_in0 hP) (sP_s0 hP) rfl t194 rfl (tyX6_ok 14 (by decide)) rfl rfl dX6_dropAtEnd_110 ?_
          refine w_iload_1 (pc := 113) dX6_dropAtEnd_113 ?_
          refine w_iret (pc := 114) rfl ⟨Nat.le_refl _, Nat.le_refl _⟩ dX6_dropAtEnd_114 ?_
          exact ⟨_, rfl, rfl, rfl, DZ_end hS hRR hB (fun q => hb q hB) hD (fun a x0 => by simp [kst, va_up, x0]) (by simp [kst, va_up, upd])⟩
        · refine w_aload_0 (pc := 86) dX6_dropAtEnd_86 ?_
          refine w_getR (pc := 87) (b := p + 6) kc6 2 (sP_in0 hP) (sP_s0 hP) rfl (sP_r0_2 hP) t171 dX6_dropAtEnd_87 ?_
          refine w_callV_V (pc := 90) (c_Bins_countFilledTick (sP_Bins hP) (n0 := 0) (by rw [j6, hB]) (by omega)) ok_X2_countFilledTick t441 t442 kc2 (sP_in hP (k := 6) (by decide)) (sP_s6 hP) t440 ⟨Nat.le_of_ble_eq_true rfl, Nat.le_of_ble_eq_true rfl⟩ ⟨rfl, rfl⟩ ⟨Nat.le_refl _, Nat.le_refl _⟩ rfl (Nat.le_of_ble_eq_true rfl) dX6_dropAtEnd_90 ?_
          rw [if_pos rfl]
          refine w_aload_0 (pc := 93) dX6_dropAtEnd_93 ?_
          refine w_dup_a (pc := 94) dX6_dropAtEnd_94 ?_
          refine w_getI (pc := 95) kc6 10 (sP_in0 hP) (sP_s0 hP) rfl t187 dX6_dropAtEnd_95 ?_
          refine w_iload_1 (pc := 98) dX6_dropAtEnd_98 ?_
          refine w_iadd (pc := 99) dX6_dropAtEnd_99 ?_
          refine w_putI (pc := 100) kc6 10 (sP_in0 hP) (sP_s0 hP) rfl t187 rfl (tyX6_ok 10 (by decide)) rfl rfl dX6_dropAtEnd_100 ?_
          refine w_aload_0 (pc := 103) dX6_dropAtEnd_103 ?_
          refine w_dup_a (pc := 104) dX6_dropAtEnd_104 ?_
          refine w_getI (pc := 105) kc6 14 (sP_in0 hP) (sP_s0 hP) rfl t194 dX6_dropAtEnd_105 ?_
          refine w_iload_1 (pc := 108) dX6_dropAtEnd_108 ?_
          refine w_iadd (pc := 109) dX6_dropAtEnd_109 ?_
          refine w_putI (pc := 110) kc6 14 (sP_in0 hP) (sP_s0 hP) rfl t194 rfl (tyX6_ok 14 (by decide)) rfl rfl dX6_dropAtEnd_110 ?_
          refine w_iload_1 (pc := 113) dX6_dropAtEnd_113 ?_
          refine w_iret (pc := 114) rfl ⟨Nat.le_refl _, Nat.le_refl _⟩ dX6_dropAtEnd_114 ?_
          exact ⟨_, rfl, rfl, rfl, DZ_end hS hRR hB (fun q => hb q hB) hD (fun a x0 => by simp [kst, va_up, x0]) (by simp [kst, va_up, upd])⟩
      · have hκ : κ < 4 := nx_nle (a := 4) c6 rfl (by omega) hz2 (by omega)
        have j4 : J (p + 4) 1 = nI z := hD.2.2.2.1
        have j6 : J (p + 6) 3 = nI (nB s) := by rw [hD.1 _ (by omega) (by omega) (by omega), rn.1]; exact B2.2
        refine w_aload_0 (pc := 9) dX6_dropAtEnd_9 ?_
        refine w_getR (pc := 10) (b := p + 4) kc6 1 (sP_in0 hP) (sP_s0 hP) rfl (sP_r0_1 hP) t169 dX6_dropAtEnd_10 ?_
        refine w_bipush (pc := 13) (v := 11) dX6_dropAtEnd_13 (by decide) ?_
        refine w_iload_2 (pc := 15) dX6_dropAtEnd_15 ?_
        refine w_callV_I (pc := 16) (c_Belt_mass (sP_Belt hP) j4 z1 (π := 11) rfl (by omega) hz2 hκ) ok_X1_mass t325 t326 kc1 (sP_in hP (k := 4) (by decide)) (sP_s4 hP) t427 ⟨Nat.le_of_ble_eq_true rfl, Nat.le_of_ble_eq_true rfl⟩ ⟨rfl, rfl⟩ ⟨Nat.le_refl _, Nat.le_refl _⟩ rfl (Nat.le_of_ble_eq_true rfl) dX6_dropAtEnd_16 ?_
        refine w_istore_3 (pc := 19) dX6_dropAtEnd_19 rfl ?_
        refine w_aload_0 (pc := 20) dX6_dropAtEnd_20 ?_
        refine w_getR (pc := 21) (b := p + 4) kc6 1 (sP_in0 hP) (sP_s0 hP) rfl (sP_r0_1 hP) t169 dX6_dropAtEnd_21 ?_
        refine w_bipush (pc := 24) (v := 11) dX6_dropAtEnd_24 (by decide) ?_
        refine w_iload_2 (pc := 26) dX6_dropAtEnd_26 ?_
        refine w_iload_3 (pc := 27) dX6_dropAtEnd_27 ?_
        refine w_callV_V (pc := 28) (c_Belt_take (sP_Belt hP) j4 z1 (π := 11) rfl (by omega) hz2 hκ) ok_X1_take t429 t430 kc1 (sP_in hP (k := 4) (by decide)) (sP_s4 hP) t428 ⟨Nat.le_of_ble_eq_true rfl, Nat.le_of_ble_eq_true rfl⟩ ⟨rfl, rfl⟩ ⟨Nat.le_refl _, Nat.le_refl _⟩ rfl (Nat.le_of_ble_eq_true rfl) dX6_dropAtEnd_28 ?_
        refine w_iload_1 (pc := 31) dX6_dropAtEnd_31 ?_
        refine w_iload_3 (pc := 32) dX6_dropAtEnd_32 ?_
        refine w_iadd (pc := 33) dX6_dropAtEnd_33 ?_
        refine w_istore_1 (pc := 34) dX6_dropAtEnd_34 rfl ?_
        refine w_aload_0 (pc := 35) dX6_dropAtEnd_35 ?_
        refine w_getR (pc := 36) (b := p + 6) kc6 2 (sP_in0 hP) (sP_s0 hP) rfl (sP_r0_2 hP) t171 dX6_dropAtEnd_36 ?_
        refine w_getI (pc := 39) kc2 3 (sP_in hP (k := 6) (by decide)) (sP_s6 hP) rfl t93 dX6_dropAtEnd_39 ?_
        refine w_if_le (pc := 42) (tgt := 66) dX6_dropAtEnd_42 (by decide) (fun c42 => ?_) (fun c42 => ?_)
        · refine w_aload_0 (pc := 66) dX6_dropAtEnd_66 ?_
          refine w_dup_a (pc := 67) dX6_dropAtEnd_67 ?_
          refine w_getI (pc := 68) kc6 13 (sP_in0 hP) (sP_s0 hP) rfl t192 dX6_dropAtEnd_68 ?_
          refine w_iload_3 (pc := 71) dX6_dropAtEnd_71 ?_
          refine w_iadd (pc := 72) dX6_dropAtEnd_72 ?_
          refine w_putI (pc := 73) kc6 13 (sP_in0 hP) (sP_s0 hP) rfl t192 rfl (tyX6_ok 13 (by decide)) rfl rfl dX6_dropAtEnd_73 ?_
          refine w_iinc_2 (pc := 76) dX6_dropAtEnd_76 rfl rfl ?_
          refine w_goto (pc := 79) (tgt := 4) dX6_dropAtEnd_79 (by decide) ?_
          refine w_drop 3 ?_
          refine ih (κ + 1) _ _ _ (by omega) (by omega) (by rw [sm_succ, hx, DZ_m hD hκ]) (by rw [hz2]; exact nI_1 κ) (DZ_step hκ hD (fun a x0 x1 x2 => by simp [kst, va_up, x0, x1, x2]) ?_ ?_ ?_) <;> simp [kst, va_up]
        · exact absurd (by rw [kst_n (by omega), kst_n (by omega), j6, hB]; decide) c42
  refine L0 5 0 _ _ I (by omega) (by omega) rfl rfl ⟨fun _ _ _ _ => rfl, ?_, ?_⟩
  · funext k; by_cases hk : k = 13 <;> simp [upd, hk, sm]
  · exact PRz_c (s := s) ⟨z1, z2, z3, z4⟩ rfl rfl (fun k x1 x2 => zr_k (by omega))
set_option maxHeartbeats 4000000 in
set_option maxRecDepth 100000 in
theorem c_Plant_drop1 {g : kG} {σ : kS} {I : kI} {p : Nat} {s : kV} (hP : sPlant g σ p) (hR : PR I p s) (hS : SX s) {w : Nat} (hB : nB s = w + 1) (hb : 0 < s 15 → nB s ≠ 0) : ct g mX6_dropAtEnd ⟨1, 0, 0, 23⟩ [.ref p] σ I (qEI σ (fun r I1 => r = sm s 65 4 ∧ frP p I I1 ∧ PR I1 p (zr 4 (falls s)))) := by
  refine ct_of pn6 rfl (Nat.le_of_ble_eq_true rfl) ok_X6_dropAtEnd.1 trivial ?_
  show wp _ _ _ _ _ _ _ _ 0 [some (.ref p), none, none, none] []
  have hRR := hR
  obtain ⟨rh, rb, rn, rs, ra, rt, rp⟩ := hR
  have B2 := SX_B hS
  have hw8 : nB s ≤ 8 := B2.1
  obtain ⟨z, z1, z2, z3, z4⟩ := rb
  refine w_iconst (pc := 0) (v := 0) dX6_dropAtEnd_0 (by decide) ?_
  refine w_istore_1 (pc := 1) dX6_dropAtEnd_1 rfl ?_
  refine w_iconst (pc := 2) (v := 0) dX6_dropAtEnd_2 (by decide) ?_
  refine w_istore_2 (pc := 3) dX6_dropAtEnd_3 rfl ?_
  have L0 : ∀ (n κ : Nat) (x z2 : Int32) (J : kI), κ ≤ 4 → 5 ≤ κ + n → x = sm s 65 κ → z2 = nI κ → DR I p z w s κ J → wp g mX6_dropAtEnd ⟨1, 0, 0, 23⟩ (fun _ => True) (qEI σ (fun r I1 => r = sm s 65 4 ∧ frP p I I1 ∧ PR I1 p (zr 4 (falls s)))) (0, 0) σ J 4 [some (.ref p), some (.int x), some (.int z2), none] [] := by
    intro n
    induction n with
    | zero => intro κ x z2 J h1 h2; exact absurd h2 (by omega)
    | succ n ih =>
      intro κ x z2 J h1 h2 hx hz2 hD
      refine w_iload_2 (pc := 4) dX6_dropAtEnd_4 ?_
      refine w_iconst (pc := 5) (v := 4) dX6_dropAtEnd_5 (by decide) ?_
      refine w_icmp_ge (pc := 6) (tgt := 82) dX6_dropAtEnd_6 (by decide) (fun c6 => ?_) (fun c6 => ?_)
      · have hκ4 : 4 ≤ κ := (nx_cmp (a := 4) rfl (by omega) hz2 (by omega)).1.mp c6
        obtain rfl : κ = 4 := by omega
        subst hx
        have j6 : J (p + 6) 3 = nI (nB s) := by rw [hD.1 _ (by omega) (by omega) (by omega) (by omega), rn.1]; exact B2.2
        refine w_iload_1 (pc := 82) dX6_dropAtEnd_82 ?_
        refine w_if_le (pc := 83) (tgt := 93) dX6_dropAtEnd_83 (by decide) (fun c83 => ?_) (fun c83 => ?_)
        · refine w_aload_0 (pc := 93) dX6_dropAtEnd_93 ?_
          refine w_dup_a (pc := 94) dX6_dropAtEnd_94 ?_
          refine w_getI (pc := 95) kc6 10 (sP_in0 hP) (sP_s0 hP) rfl t187 dX6_dropAtEnd_95 ?_
          refine w_iload_1 (pc := 98) dX6_dropAtEnd_98 ?_
          refine w_iadd (pc := 99) dX6_dropAtEnd_99 ?_
          refine w_putI (pc := 100) kc6 10 (sP_in0 hP) (sP_s0 hP) rfl t187 rfl (tyX6_ok 10 (by decide)) rfl rfl dX6_dropAtEnd_100 ?_
          refine w_aload_0 (pc := 103) dX6_dropAtEnd_103 ?_
          refine w_dup_a (pc := 104) dX6_dropAtEnd_104 ?_
          refine w_getI (pc := 105) kc6 14 (sP_in0 hP) (sP_s0 hP) rfl t194 dX6_dropAtEnd_105 ?_
          refine w_iload_1 (pc := 108) dX6_dropAtEnd_108 ?_
          refine w_iadd (pc := 109) dX6_dropAtEnd_109 ?_
          refine w_putI (pc := 110) kc6 14 (sP_in0 hP) (sP_s0 hP) rfl t194 rfl (tyX6_ok 14 (by decide)) rfl rfl dX6_dropAtEnd_110 ?_
          refine w_iload_1 (pc := 113) dX6_dropAtEnd_113 ?_
          refine w_iret (pc := 114) rfl ⟨Nat.le_refl _, Nat.le_refl _⟩ dX6_dropAtEnd_114 ?_
          exact ⟨_, rfl, rfl, rfl, DR_end hS hRR hB hD (fun a x0 x1 => by simp [kst, va_up, x0]) (by simp [kst, va_up, upd]) (fun b => by rw [if_neg (fun q => absurd q.2 (Int32.not_lt.mpr c83))]; simp [kst, va_up])⟩
        · refine w_aload_0 (pc := 86) dX6_dropAtEnd_86 ?_
          refine w_getR (pc := 87) (b := p + 6) kc6 2 (sP_in0 hP) (sP_s0 hP) rfl (sP_r0_2 hP) t171 dX6_dropAtEnd_87 ?_
          refine w_callV_V (pc := 90) (c_Bins_countFilledTick (sP_Bins hP) (n0 := w + 1) (by rw [j6, hB]) (by omega)) ok_X2_countFilledTick t441 t442 kc2 (sP_in hP (k := 6) (by decide)) (sP_s6 hP) t440 ⟨Nat.le_of_ble_eq_true rfl, Nat.le_of_ble_eq_true rfl⟩ ⟨rfl, rfl⟩ ⟨Nat.le_refl _, Nat.le_refl _⟩ rfl (Nat.le_of_ble_eq_true rfl) dX6_dropAtEnd_90 ?_
          rw [if_neg (Nat.succ_ne_zero w)]
          show wp _ _ _ _ _ _ _ (kst _ (p + 9) w _) _ _ _
          refine w_aload_0 (pc := 93) dX6_dropAtEnd_93 ?_
          refine w_dup_a (pc := 94) dX6_dropAtEnd_94 ?_
          refine w_getI (pc := 95) kc6 10 (sP_in0 hP) (sP_s0 hP) rfl t187 dX6_dropAtEnd_95 ?_
          refine w_iload_1 (pc := 98) dX6_dropAtEnd_98 ?_
          refine w_iadd (pc := 99) dX6_dropAtEnd_99 ?_
          refine w_putI (pc := 100) kc6 10 (sP_in0 hP) (sP_s0 hP) rfl t187 rfl (tyX6_ok 10 (by decide)) rfl rfl dX6_dropAtEnd_100 ?_
          refine w_aload_0 (pc := 103) dX6_dropAtEnd_103 ?_
          refine w_dup_a (pc := 104) dX6_dropAtEnd_104 ?_
          refine w_getI (pc := 105) kc6 14 (sP_in0 hP) (sP_s0 hP) rfl t194 dX6_dropAtEnd_105 ?_
          refine w_iload_1 (pc := 108) dX6_dropAtEnd_108 ?_
          refine w_iadd (pc := 109) dX6_dropAtEnd_109 ?_
          refine w_putI (pc := 110) kc6 14 (sP_in0 hP) (sP_s0 hP) rfl t194 rfl (tyX6_ok 14 (by decide)) rfl rfl dX6_dropAtEnd_110 ?_
          refine w_iload_1 (pc := 113) dX6_dropAtEnd_113 ?_
          refine w_iret (pc := 114) rfl ⟨Nat.le_refl _, Nat.le_refl _⟩ dX6_dropAtEnd_114 ?_
          exact ⟨_, rfl, rfl, rfl, DR_end hS hRR hB hD (fun a x0 x1 => by simp [kst, va_up, x0, x1]) (by simp [kst, va_up, upd]) (fun b => by have q0 := Int32.not_le.mp c83; by_cases q : b = w <;> simp [kst, va_up, q, q0, upd])⟩
      · have hκ : κ < 4 := nx_nle (a := 4) c6 rfl (by omega) hz2 (by omega)
        have j4 : J (p + 4) 1 = nI z := hD.2.1.2.1
        have j6 : J (p + 6) 3 = nI (nB s) := by rw [hD.1 _ (by omega) (by omega) (by omega) (by omega), rn.1]; exact B2.2
        obtain ⟨v1, v2, v3, v4, v5⟩ := DR_v hS (by omega) hD hκ
        refine w_aload_0 (pc := 9) dX6_dropAtEnd_9 ?_
        refine w_getR (pc := 10) (b := p + 4) kc6 1 (sP_in0 hP) (sP_s0 hP) rfl (sP_r0_1 hP) t169 dX6_dropAtEnd_10 ?_
        refine w_bipush (pc := 13) (v := 11) dX6_dropAtEnd_13 (by decide) ?_
        refine w_iload_2 (pc := 15) dX6_dropAtEnd_15 ?_
        refine w_callV_I (pc := 16) (c_Belt_mass (sP_Belt hP) j4 z1 (π := 11) rfl (by omega) hz2 hκ) ok_X1_mass t325 t326 kc1 (sP_in hP (k := 4) (by decide)) (sP_s4 hP) t427 ⟨Nat.le_of_ble_eq_true rfl, Nat.le_of_ble_eq_true rfl⟩ ⟨rfl, rfl⟩ ⟨Nat.le_refl _, Nat.le_refl _⟩ rfl (Nat.le_of_ble_eq_true rfl) dX6_dropAtEnd_16 ?_
        refine w_istore_3 (pc := 19) dX6_dropAtEnd_19 rfl ?_
        refine w_aload_0 (pc := 20) dX6_dropAtEnd_20 ?_
        refine w_getR (pc := 21) (b := p + 4) kc6 1 (sP_in0 hP) (sP_s0 hP) rfl (sP_r0_1 hP) t169 dX6_dropAtEnd_21 ?_
        refine w_bipush (pc := 24) (v := 11) dX6_dropAtEnd_24 (by decide) ?_
        refine w_iload_2 (pc := 26) dX6_dropAtEnd_26 ?_
        refine w_iload_3 (pc := 27) dX6_dropAtEnd_27 ?_
        refine w_callV_V (pc := 28) (c_Belt_take (sP_Belt hP) j4 z1 (π := 11) rfl (by omega) hz2 hκ) ok_X1_take t429 t430 kc1 (sP_in hP (k := 4) (by decide)) (sP_s4 hP) t428 ⟨Nat.le_of_ble_eq_true rfl, Nat.le_of_ble_eq_true rfl⟩ ⟨rfl, rfl⟩ ⟨Nat.le_refl _, Nat.le_refl _⟩ rfl (Nat.le_of_ble_eq_true rfl) dX6_dropAtEnd_28 ?_
        refine w_iload_1 (pc := 31) dX6_dropAtEnd_31 ?_
        refine w_iload_3 (pc := 32) dX6_dropAtEnd_32 ?_
        refine w_iadd (pc := 33) dX6_dropAtEnd_33 ?_
        refine w_istore_1 (pc := 34) dX6_dropAtEnd_34 rfl ?_
        refine w_aload_0 (pc := 35) dX6_dropAtEnd_35 ?_
        refine w_getR (pc := 36) (b := p + 6) kc6 2 (sP_in0 hP) (sP_s0 hP) rfl (sP_r0_2 hP) t171 dX6_dropAtEnd_36 ?_
        refine w_getI (pc := 39) kc2 3 (sP_in hP (k := 6) (by decide)) (sP_s6 hP) rfl t93 dX6_dropAtEnd_39 ?_
        refine w_if_le (pc := 42) (tgt := 66) dX6_dropAtEnd_42 (by decide) (fun c42 => ?_) (fun c42 => ?_)
        · exfalso; rw [kst_n (by omega), kst_n (by omega), j6, hB] at c42; exact nI_pos3 (by omega) (by omega) c42
        · refine w_aload_0 (pc := 45) dX6_dropAtEnd_45 ?_
          refine w_getR (pc := 46) (b := p + 6) kc6 2 (sP_in0 hP) (sP_s0 hP) rfl (sP_r0_2 hP) t171 dX6_dropAtEnd_46 ?_
          refine w_iload_2 (pc := 49) dX6_dropAtEnd_49 ?_
          refine w_iload_3 (pc := 50) dX6_dropAtEnd_50 ?_
          refine w_callV_V (pc := 51) (c_Bins_addToPresent (sP_Bins hP) (n0 := w + 1) (by rw [kst_n (by omega), kst_n (by omega), j6, hB]) (by omega) hz2 hκ) ok_X2_addToPresent t433 t434 kc2 (sP_in hP (k := 6) (by decide)) (sP_s6 hP) t432 ⟨Nat.le_of_ble_eq_true rfl, Nat.le_of_ble_eq_true rfl⟩ ⟨rfl, rfl⟩ ⟨Nat.le_refl _, Nat.le_refl _⟩ rfl (Nat.le_of_ble_eq_true rfl) dX6_dropAtEnd_51 ?_
          rw [if_neg (Nat.succ_ne_zero w)]
          show wp _ _ _ _ _ _ _ (kst _ (p + 7) (w * 4 + κ) _) _ _ _
          refine w_aload_0 (pc := 54) dX6_dropAtEnd_54 ?_
          refine w_getR (pc := 55) (b := p + 11) kc6 4 (sP_in0 hP) (sP_s0 hP) rfl (sP_r0_4 hP) t175 dX6_dropAtEnd_55 ?_
          refine w_iload_2 (pc := 58) dX6_dropAtEnd_58 ?_
          refine w_iload_3 (pc := 59) dX6_dropAtEnd_59 ?_
          refine w_callV_V (pc := 60) (c_Acc_enter (sP_Acc hP) (v := tn (s (145 + κ))) hz2 hκ (by rw [kst_n (by omega), kst_n (by omega), kst_n (by omega)]; exact v1) v2) ok_X0_enter t437 t438 kc0 (sP_in hP (k := 11) (by decide)) (sP_s11 hP) t436 ⟨Nat.le_of_ble_eq_true rfl, Nat.le_of_ble_eq_true rfl⟩ ⟨rfl, rfl⟩ ⟨Nat.le_refl _, Nat.le_refl _⟩ rfl (Nat.le_of_ble_eq_true rfl) dX6_dropAtEnd_60 ?_
          refine w_goto (pc := 63) (tgt := 76) dX6_dropAtEnd_63 (by decide) ?_
          refine w_iinc_2 (pc := 76) dX6_dropAtEnd_76 rfl rfl ?_
          refine w_goto (pc := 79) (tgt := 4) dX6_dropAtEnd_79 (by decide) ?_
          refine w_drop 3 ?_
          refine ih (κ + 1) _ _ _ (by omega) (by omega) (by rw [sm_succ, hx, DR_m hD hκ]) (by rw [hz2]; exact nI_1 κ) (DR_step hS hB hκ hD (fun a x0 x1 x2 x3 => by simp [kst, va_up, x0, x1, x2, x3]) ?_ ?_ ?_ ?_) <;> simp [kst, va_up]
  refine L0 5 0 _ _ I (by omega) (by omega) rfl rfl ⟨fun _ _ _ _ _ => rfl, ?_, ?_, ?_⟩
  · exact PRz_c (s := s) ⟨z1, z2, z3, z4⟩ rfl rfl (fun k x1 x2 => zr_k (by omega))
  · exact PRn_c rn rfl rfl rfl rfl (fun k hk => falls1_lo (by omega) (by omega) (by omega))
  · exact PRa_c ra rfl rfl rfl rfl (fun k hk => falls1_lo (by omega) (by omega) (by omega))
theorem c_Plant_dropAtEnd {g : kG} {σ : kS} {I : kI} {p : Nat} {s : kV} (hP : sPlant g σ p) (hR : PR I p s) (hS : SX s) (hb : 0 < s 15 → nB s ≠ 0) : ct g mX6_dropAtEnd ⟨1, 0, 0, 23⟩ [.ref p] σ I (qEI σ (fun r I1 => r = sm s 65 4 ∧ frP p I I1 ∧ PR I1 p (zr 4 (falls s)))) := by
  cases hB : nB s with
  | zero => exact c_Plant_drop0 hP hR hS hB hb
  | succ w => exact c_Plant_drop1 hP hR hS hB hb

