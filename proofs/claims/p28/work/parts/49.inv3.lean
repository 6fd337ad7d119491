-- no mass is lost; what is in bins is booked
def smO (s : kV) : Nat → Int32
  | 0 => 0
  | n + 1 => smO s n + s (130 + 2 * n)
theorem smL_c {s t : kV} : ∀ {n : Nat}, (∀ k, k < n → t (70 + 2 * k) = s (70 + 2 * k)) → smL t n = smL s n
  | 0, _ => rfl
  | n + 1, h => by
    show smL t n + _ = smL s n + _
    rw [smL_c (fun k hk => h k (by omega)), h n (by omega)]
theorem smO_c {s t : kV} : ∀ {n : Nat}, (∀ k, k < n → t (130 + 2 * k) = s (130 + 2 * k)) → smO t n = smO s n
  | 0, _ => rfl
  | n + 1, h => by
    show smO t n + _ = smO s n + _
    rw [smO_c (fun k hk => h k (by omega)), h n (by omega)]
theorem bMass_c {s t : kV} {b : Nat} (h : ∀ κ, κ < 4 → t (81 + 6 * b + κ) = s (81 + 6 * b + κ)) : bMass t b = bMass s b := sm_cong (fun k hk => h k hk)
theorem smB_c {s t : kV} : ∀ {n : Nat}, (∀ b κ, b < n → κ < 4 → t (81 + 6 * b + κ) = s (81 + 6 * b + κ)) → smB t n = smB s n
  | 0, _ => rfl
  | n + 1, h => by
    show smB t n + bMass t n = smB s n + bMass s n
    rw [smB_c (fun b κ hb hκ => h b κ (by omega) hκ), bMass_c (fun κ hκ => h n κ (by omega) hκ)]
def Zt (s : kV) : Int32 := sm s 21 48 + smL s (nLo s) + smB s (nB s) + s 10
def zI (k : Nat) : Prop := k = 10 ∨ k = 12 ∨ k = 13 ∨ (21 ≤ k ∧ k < 69) ∨ (69 < k ∧ k < 81) ∨ (81 ≤ k ∧ k < 129 ∧ (k - 81) % 6 < 4)
theorem Zt_c {s t : kV} (hS : SX s) (e : ∀ k, zI k → t k = s k) : Zt t = Zt s ∧ nB t = nB s ∧ nLo t = nLo s := by
  have h12 := e 12 (by simp [zI])
  have h13 := e 13 (by simp [zI])
  have hB : nB t = nB s := by rw [nB, h12, nB]
  have hL : nLo t = nLo s := by rw [nLo, h13, nLo]
  have b8 := (SX_B hS).1
  have l6 := (SX_L hS).1
  refine ⟨?_, hB, hL⟩
  unfold Zt
  rw [hB, hL, e 10 (by simp [zI]), sm_cong (f := t) (g := s) (b := 21) (fun k hk => e _ (by simp only [zI]; omega)), smL_c (fun k hk => e _ (by simp only [zI]; omega)), smB_c (fun b κ hb hκ => e _ (by simp only [zI]; omega))]
def CV (s : kV) : Prop := s 9 = Zt s ∧ smO s (nAc s) = smB s (nB s)
def cvI (k : Nat) : Prop := zI k ∨ k = 9 ∨ k = 14 ∨ (130 ≤ k ∧ k < 145 ∧ k % 2 = 0)
theorem CV_c {s t : kV} (hS : SX s) (h : CV s) (e : ∀ k, cvI k → t k = s k) : CV t := by
  obtain ⟨z1, z2, z3⟩ := Zt_c hS (fun k hk => e k (Or.inl hk))
  have b8 := (SX_B hS).1
  have a8 := (SX_A hS).2.1
  have hA : nAc t = nAc s := by rw [nAc, e 14 (by simp [cvI]), nAc]
  refine ⟨by rw [z1, e 9 (by simp [cvI])]; exact h.1, ?_⟩
  rw [hA, z2, smO_c (fun k hk => e _ (by simp only [cvI]; omega)), smB_c (fun b κ hb hκ => e _ (by simp only [cvI, zI]; omega))]
  exact h.2
theorem CV_u {s : kV} (hS : SX s) (h : CV s) {k : Nat} {x : Int32} (hk : ¬ cvI k) : CV (upd s k x) := CV_c hS h (fun j hj => upd_ne (fun e => hk (e ▸ hj)))
-- the pieces of a tick
theorem sm_plus {s t d : kV} {a b c : Nat} : ∀ {n : Nat}, (∀ k, k < n → t (a + k) = s (b + k) + d (c + k)) → sm t a n = sm s b n + sm d c n
  | 0, _ => rfl
  | n + 1, h => by
    rw [sm_succ, sm_succ, sm_succ, sm_plus (fun k hk => h k (by omega)), h n (by omega)]
    ac_rfl
theorem sm_shift {s : kV} : sm (shiftS s) 21 48 + sm s 65 4 = sm s 21 48 := by
  have e1 : sm (shiftS s) 21 (4 + 44) = sm (shiftS s) 21 4 + sm (shiftS s) (21 + 4) 44 := sm_add _ 21 4 44
  have e2 : sm (shiftS s) 21 4 = 0 := by simp [sm, shiftS]
  have e3 : sm (shiftS s) (21 + 4) 44 = sm s 21 44 := sm_cong (fun k hk => by
    unfold shiftS
    rw [if_pos (by omega)]; congr 1; omega)
  have e4 : sm s 21 (44 + 4) = sm s 21 44 + sm s (21 + 44) 4 := sm_add _ 21 44 4
  rw [show (48 : Nat) = 44 + 4 from rfl, e4]
  rw [show (44 + 4 : Nat) = 4 + 44 from rfl, e1, e2, e3, Int32.zero_add]
theorem smO_u {s : kV} {c : Nat} {d : Int32} : ∀ {n : Nat}, c < n → smO (upd s (130 + 2 * c) (s (130 + 2 * c) + d)) n = smO s n + d
  | 0, h => absurd h (Nat.not_lt_zero _)
  | n + 1, h => by
    show smO (upd s (130 + 2 * c) (s (130 + 2 * c) + d)) n + upd s (130 + 2 * c) (s (130 + 2 * c) + d) (130 + 2 * n) = smO s n + s (130 + 2 * n) + d
    by_cases e : c = n
    · subst e
      rw [upd_s, smO_c (s := s) (fun k hk => upd_ne (by omega))]
      ac_rfl
    · rw [smO_u (by omega : c < n), upd_ne (by omega)]
      ac_rfl
theorem smO_fallN {t : kV} (hS : SX t) {w : Nat} (hw : w < 8) : ∀ n, n ≤ 4 → smO (fallN t w n) (nAc t) = smO t (nAc t) + sm t 65 n
  | 0, _ => (Int32.add_zero _).symm
  | n + 1, hn => by
    have ih := smO_fallN hS hw n (by omega)
    have SN := SX_fallN hS hw n (by omega)
    have SA := SX_fallA SN hw (κ := n) (by omega)
    obtain ⟨k1, k2⟩ := SX_bk SA (κ := n) (by omega)
    have a8 := (SX_A SA).2.1
    have eA : nAc (fallA (fallN t w n) w n) = nAc t := by rw [nAc, fallA_k hw (by omega) (by simp [tkF]), fallN_k hS hw (by simp [tkF]) n (by omega), nAc]
    have e65 : fallA (fallN t w n) w n (65 + n) = t (65 + n) := by
      unfold fallA
      rw [upd_ne (by omega), fallN_lo hw (Or.inl (by omega)) n (by omega)]
    have eO : smO (fallA (fallN t w n) w n) (nAc t) = smO (fallN t w n) (nAc t) := smO_c (fun k hk => by unfold fallA; exact upd_ne (by omega))
    show smO (fallB (fallA (fallN t w n) w n) n) (nAc t) = _
    unfold fallB
    rw [e65, smO_u (by rw [← eA]; exact k1), eO, ih, sm_succ]
    ac_rfl
theorem smB_fallN {t : kV} {w : Nat} (hw : w < 8) : smB (fallN t w 4) (w + 1) = smB t (w + 1) + sm t 65 4 := by
  have e1 : smB (fallN t w 4) w = smB t w := smB_c (fun b κ hb hκ => by
    rw [fallN_bin hw (by omega) hκ 4 (Nat.le_refl 4), if_neg (by omega)])
  have e2 : bMass (fallN t w 4) w = bMass t w + sm t 65 4 := sm_plus (fun k hk => by
    rw [fallN_bin hw hw hk 4 (Nat.le_refl 4), if_pos ⟨rfl, hk⟩])
  show smB (fallN t w 4) w + bMass (fallN t w 4) w = smB t w + bMass t w + sm t 65 4
  rw [e1, e2]; ac_rfl
theorem Zt_fall {s : kV} (hS : SX s) : Zt (shiftS (fallF s)) = Zt s ∧ smO (shiftS (fallF s)) (nAc s) = smO s (nAc s) + (if nB s = 0 then 0 else sm s 65 4) ∧ smB (shiftS (fallF s)) (nB s) = smB s (nB s) + (if nB s = 0 then 0 else sm s 65 4) := by
  have hB := (SX_B hS).1
  have hA := (SX_A hS).2.1
  have hL := (SX_L hS).1
  have a8 := hA
  have e65 : sm (fallF s) 65 4 = sm s 65 4 := sm_cong (fun k hk => fallF_lo hS (by omega) (by omega) (by omega) (by omega))
  have e21 : sm (fallF s) 21 48 = sm s 21 48 := sm_cong (fun k hk => fallF_lo hS (by omega) (by omega) (by omega) (by omega))
  have eL : smL (shiftS (fallF s)) (nLo s) = smL s (nLo s) := smL_c (fun k hk => by rw [shift_k1 (by omega), fallF_lo hS (by omega) (by omega) (by omega) (by omega)])
  have nl : nLo (shiftS (fallF s)) = nLo s := by rw [nLo, shift_k1 (by omega), fallF_lo hS (by omega) (by omega) (by omega) (by omega), nLo]
  have nb : nB (shiftS (fallF s)) = nB s := by rw [nB, shift_k1 (by omega), fallF_lo hS (by omega) (by omega) (by omega) (by omega), nB]
  have sB : smB (shiftS (fallF s)) (nB s) = smB (fallF s) (nB s) := smB_c (fun b κ hb hκ => shift_k1 (by omega))
  have sO : smO (shiftS (fallF s)) (nAc s) = smO (fallF s) (nAc s) := smO_c (fun k hk => shift_k1 (by omega))
  have hs := sm_shift (s := fallF s)
  rw [e65, e21] at hs
  by_cases h0 : nB s = 0
  · have f10 : shiftS (fallF s) 10 = s 10 + sm s 65 4 := by
      rw [shift_k1 (by omega), fallF, if_pos h0, falls1, upd_ne (by omega), upd_s, if_pos h0]
    have fO : smO (fallF s) (nAc s) = smO s (nAc s) := smO_c (fun k hk => by rw [fallF, if_pos h0, falls1_lo (by omega) (by omega) (by omega)])
    refine ⟨?_, by rw [sO, fO, if_pos h0, Int32.add_zero], by rw [h0, if_pos rfl]; rfl⟩
    unfold Zt
    rw [nl, nb, eL, h0, f10, ← hs]
    show _ + _ + (0 : Int32) + _ = _ + _ + (0 : Int32) + _
    ac_rfl
  · obtain ⟨b, hb⟩ : ∃ b, nB s = b + 1 := ⟨nB s - 1, by omega⟩
    have eF : fallF s = fallN (falls1 s) b 4 := by rw [fallF, if_neg h0, hb]; rfl
    have f10 : shiftS (fallF s) 10 = s 10 := by
      rw [shift_k1 (by omega), eF, fallN_lo (by omega) (Or.inl (by omega)) 4 (Nat.le_refl 4), falls1, upd_ne (by omega), upd_s, if_neg h0, Int32.add_zero]
    have g65 : sm (falls1 s) 65 4 = sm s 65 4 := sm_cong (fun k hk => falls1_lo (by omega) (by omega) (by omega))
    have fB : smB (fallF s) (nB s) = smB s (nB s) + sm s 65 4 := by
      rw [eF, hb, smB_fallN (by omega), g65, smB_c (s := s) (fun b κ hb hκ => falls1_lo (by omega) (by omega) (by omega))]
    have fO : smO (fallF s) (nAc s) = smO s (nAc s) + sm s 65 4 := by
      have q := smO_fallN (SX_falls1 hS) (w := b) (by omega) 4 (Nat.le_refl 4)
      have e14 : nAc (falls1 s) = nAc s := by rw [nAc, falls1_lo (by omega) (by omega) (by omega), nAc]
      rw [e14, g65, smO_c (s := s) (fun k hk => falls1_lo (by omega) (by omega) (by omega))] at q
      rw [eF]; exact q
    refine ⟨?_, by rw [sO, fO, if_neg h0], by rw [sB, fB, if_neg h0]⟩
    unfold Zt
    rw [nl, nb, eL, sB, fB, f10, ← hs]
    ac_rfl
theorem smL_u70 {s : kV} {x : Int32} : ∀ {n : Nat}, 0 < n → smL (upd s 70 (s 70 - x)) n + x = smL s n
  | 0, h => absurd h (Nat.not_lt_zero _)
  | n + 1, _ => by
    show smL (upd s 70 (s 70 - x)) n + upd s 70 (s 70 - x) (70 + 2 * n) + x = smL s n + s (70 + 2 * n)
    by_cases h : n = 0
    · subst h
      show (0 : Int32) + upd s 70 (s 70 - x) 70 + x = 0 + s 70
      rw [upd_s, Int32.add_assoc, Int32.sub_add_cancel]
    · rw [upd_ne (by omega), ← smL_u70 (s := s) (x := x) (n := n) (by omega)]
      ac_rfl
theorem smL_pop {s t : kV} : ∀ {n : Nat}, (∀ k, k < n → t (70 + 2 * k) = s (72 + 2 * k)) → s 70 + smL t n = smL s (n + 1)
  | 0, _ => by
    show s 70 + 0 = 0 + s 70
    rw [Int32.add_zero, Int32.zero_add]
  | n + 1, h => by
    have ih := smL_pop (s := s) (t := t) (n := n) (fun k hk => h k (by omega))
    show s 70 + (smL t n + t (70 + 2 * n)) = smL s (n + 1) + s (70 + 2 * (n + 1))
    rw [← ih, h n (by omega), show 70 + 2 * (n + 1) = 72 + 2 * n by omega]
    ac_rfl
theorem Zt_feed1 {s : kV} (hS : SX s) (hL : 0 < nLo s) (x : Int32) : Zt (feed1 s x) = Zt s := by
  have hB := (SX_B hS).1
  have l6 := (SX_L hS).1
  have f1 := (feed1_k hS hL).1
  have nb : nB (feed1 s x) = nB s := by rw [nB, feed1_o hS hL x (by simp [fdF]), nB]
  have e1 : sm (feed1 s x) 21 48 = sm s 21 48 + x := by
    have q := sm_upd (f := s) (a := 21) (j := tn (s 69)) (d := x) 48 (by omega)
    rw [← q]
    exact sm_cong (fun k hk => by unfold feed1; rw [upd_ne (by omega)])
  have e2 : smL (feed1 s x) (nLo s) + x = smL s (nLo s) := by
    rw [← smL_u70 (s := s) (x := x) hL]
    congr 1
    exact smL_c (fun k hk => by
      unfold feed1
      by_cases h : k = 0
      · subst h; rw [upd_s, upd_s]
      · rw [upd_ne (by omega), upd_ne (by omega), upd_ne (by omega)])
  have e3 : smB (feed1 s x) (nB s) = smB s (nB s) := smB_c (fun b κ hb hκ => feed1_o hS hL x (Or.inr (by omega)))
  unfold Zt
  have e4 : feed1 s x 10 = s 10 := by unfold feed1; rw [upd_ne (by omega), upd_ne (by omega)]
  rw [nb, feed1_nLo hS hL, e1, e3, e4, ← e2]
  ac_rfl
theorem Zt_pop {s : kV} (hS : SX s) (hL : 0 < nLo s) (h0 : s 70 = 0) : Zt (popL s) = Zt s := by
  obtain ⟨l6, -, -⟩ := SX_L hS
  have hB := (SX_B hS).1
  have nb : nB (popL s) = nB s := by rw [nB, popL_o hS (by simp [fdF]), nB]
  have pe : ∀ k, k ≠ 13 → (k < 69 ∨ 81 ≤ k) → popL s k = s k := fun k h1 h2 => by unfold popL; rw [if_neg (by omega), if_neg h1]
  have e1 : sm (popL s) 21 48 = sm s 21 48 := sm_cong (fun k hk => pe _ (by omega) (by omega))
  have e2 : smL (popL s) (nLo s - 1) = smL s (nLo s) := by
    have q := smL_pop (s := s) (t := popL s) (n := nLo s - 1) (fun k hk => by
      unfold popL
      rw [if_pos (by omega)]
      congr 1; omega)
    rw [h0, Int32.zero_add, Nat.sub_add_cancel hL] at q
    exact q
  have e3 : smB (popL s) (nB s) = smB s (nB s) := smB_c (fun b κ hb hκ => pe _ (by omega) (by omega))
  unfold Zt
  rw [nb, popL_nLo hS hL, e1, e2, e3, pe 10 (by omega) (by omega)]
theorem Zt_feedL : ∀ (n : Nat) (l : Int32) {s : kV}, SX s → Zt (feedL n l s) = Zt s
  | 0, _, _, _ => rfl
  | n + 1, l, s, h => by
    unfold feedL
    split
    · rename_i hc
      have hL := (lots_pos h).mp hc.2
      have h1 := SX_feed1 h hL (mn (s 70) l)
      have hL1 : 0 < nLo (feed1 s (mn (s 70) l)) := by rw [feed1_nLo h hL]; exact hL
      split
      · rename_i h70
        rw [Zt_feedL n _ (SX_pop h1 hL1), Zt_pop h1 hL1 h70, Zt_feed1 h hL]
      · rw [Zt_feedL n _ h1, Zt_feed1 h hL]
    · rfl
theorem Zt_spl : ∀ (n : Nat) (m : Int32) {s : kV}, n ≤ 4 → SX s → Zt (spl n m s) = Zt s
  | 0, _, _, _, _ => rfl
  | n + 1, m, s, hn, hS => by
    unfold spl
    split
    · rw [Zt_spl n _ (by omega) (SX_upd (SX_upd hS (by simp only [sxI]; omega)) (by simp [sxI]))]
      obtain ⟨x, hx⟩ : ∃ x, x = mn (s (21 + n)) m := ⟨_, rfl⟩
      rw [← hx]
      have hB := (SX_B hS).1
      have l6 := (SX_L hS).1
      have nl : nLo (upd (upd s (21 + n) (s (21 + n) - x)) 10 (s 10 + x)) = nLo s := by rw [nLo_u (by omega), nLo_u (by omega)]
      have nb : nB (upd (upd s (21 + n) (s (21 + n) - x)) 10 (s 10 + x)) = nB s := by rw [nB, upd_ne (by omega), upd_ne (by omega), nB]
      have e1 : sm (upd (upd s (21 + n) (s (21 + n) - x)) 10 (s 10 + x)) 21 48 = sm s 21 48 - x := by
        rw [sm_uK (by omega)]; exact sm_sub (by omega)
      have e2 : smL (upd (upd s (21 + n) (s (21 + n) - x)) 10 (s 10 + x)) (nLo s) = smL s (nLo s) := smL_c (fun k hk => by rw [upd_ne (by omega), upd_ne (by omega)])
      have e3 : smB (upd (upd s (21 + n) (s (21 + n) - x)) 10 (s 10 + x)) (nB s) = smB s (nB s) := smB_c (fun b κ hb hκ => by rw [upd_ne (by omega), upd_ne (by omega)])
      have e4 : upd (upd s (21 + n) (s (21 + n) - x)) 10 (s 10 + x) 10 = s 10 + x := upd_s
      unfold Zt
      rw [nl, nb, e1, e2, e3, e4]
      have e5 : sm s 21 48 = sm s 21 48 - x + x := (Int32.sub_add_cancel _ _).symm
      obtain ⟨y, hy⟩ : ∃ y, y = sm s 21 48 - x := ⟨_, rfl⟩
      rw [← hy] at e5 ⊢
      rw [e5]
      ac_rfl
    · rfl
theorem Zt_feeds {s : kV} (hS : SX s) : Zt (feeds s) = Zt s := by
  unfold feeds
  rw [Zt_spl 4 _ (Nat.le_refl 4) (SX_feedL 6 _ hS), Zt_feedL 6 _ hS]
theorem CV_tick {s : kV} (hS : SX s) (h : CV s) : CV (tickS s) := by
  have S1 := SX_tk1 hS
  have S2 := SX_tk2 S1
  have C2 : CV (tk2 (tk1 s)) := CV_c hS h (fun k hk => by
    simp only [cvI, zI] at hk
    rw [tk2_k (by omega), tk1_k (by omega) (by omega)])
  by_cases hr : runs2 s
  · rw [tick_go hr]
    obtain ⟨s2, hs2⟩ : ∃ s2, s2 = tk2 (tk1 s) := ⟨_, rfl⟩
    rw [← hs2] at S2 C2 ⊢
    have hA := (SX_A S2).2.1
    have hB := (SX_B S2).1
    have SH := SX_shift (SX_fallF S2)
    obtain ⟨f1, f2, f3⟩ := Zt_fall S2
    have SR := SX_rowA S2
    have e9 : rowA s2 9 = s2 9 := rowA_o S2 (by omega) (by omega) (by omega) (by omega) (by omega)
    have nb := rowA_B S2
    have na : nAc (rowA s2) = nAc s2 := by rw [nAc, rowA_o S2 (by omega) (by omega) (by omega) (by omega) (by omega), nAc]
    have gz : Zt (rowA s2) = Zt s2 := by
      rw [rowA, goesB]
      split
      · exact f1
      · rw [Zt_feeds SH, f1]
    have CR : CV (rowA s2) := by
      refine ⟨by rw [e9, gz]; exact C2.1, ?_⟩
      rw [na, nb]
      have q1 : smO (rowA s2) (nAc s2) = smO (shiftS (fallF s2)) (nAc s2) := smO_c (fun k hk => goesB_o SH (Or.inr (by omega)))
      have q2 : smB (rowA s2) (nB s2) = smB (shiftS (fallF s2)) (nB s2) := smB_c (fun b κ hb hκ => goesB_o SH (Or.inr (by omega)))
      rw [q1, q2, f2, f3, C2.2]
    have CG : CV (goesS s2) := CV_c SR CR (fun k hk => by
      simp only [cvI, zI] at hk
      have er : readS (rowA s2) k = rowA s2 k := by
        unfold readS reads1
        rw [nb]
        split
        · rw [upd_ne (by omega), upd_ne (by omega)]
        · rw [upd_ne (by omega), upd_ne (by omega), upd_ne (by omega)]
      rw [goes_eq S2]
      split
      · rw [upd_ne (by omega), upd_ne (by omega), er]
      · rw [upd_ne (by omega), er])
    unfold tk4
    split
    · exact CV_u (SX_goes S2) CG (by simp [cvI, zI])
    · exact CG
  · rw [tick_still hr]
    exact CV_u S2 C2 (by simp [cvI, zI])
-- the told total
def TB (s : kV) : Prop := (-(28 * ((s 2).toInt * (s 2).toInt) + 30 * (s 2).toInt) ≤ (s 5).toInt ∧ (s 5).toInt ≤ 28 * ((s 2).toInt * (s 2).toInt) + 30 * (s 2).toInt) ∧ (-3 ≤ (s 6).toInt ∧ (s 6).toInt ≤ 3) ∧ (500 ≤ (s 7).toInt ∧ (s 7).toInt ≤ 2000)
theorem TB_c {s t : kV} (h : TB s) (e : ∀ k, k = 2 ∨ k = 5 ∨ k = 6 ∨ k = 7 → t k = s k) : TB t := by
  unfold TB
  rw [e 2 (by omega), e 5 (by omega), e 6 (by omega), e 7 (by omega)]; exact h
theorem TB_tick {s : kV} (hK : KI s) (h : TB s) (ht : (s 2).toInt < 4000) : TB (tickS s) := by
  obtain ⟨hS, -, hN⟩ := hK
  obtain ⟨⟨t1, t2⟩, ⟨r1, r2⟩, f1, f2⟩ := h
  obtain ⟨NT, e2, -⟩ := NI_tick hN hS (by omega)
  have t0 := hN.1.1
  obtain ⟨-, d1, d2⟩ := rdg_bd NT
  rw [e2] at d1 d2
  have e7 : tickS s 7 = s 7 := tick_k hS (by simp [tkF])
  have sq : ((s 2).toInt + 1) * ((s 2).toInt + 1) = (s 2).toInt * (s 2).toInt + 2 * (s 2).toInt + 1 := by
    rw [Int.add_mul, Int.mul_add, Int.mul_one, Int.one_mul]; omega
  have sb : (s 2).toInt * (s 2).toInt ≤ 4000 * (s 2).toInt := Int.mul_le_mul_of_nonneg_right (by omega) t0
  have s0 : 0 ≤ (s 2).toInt * (s 2).toInt := Int.mul_nonneg t0 t0
  obtain ⟨P, hP⟩ : ∃ P, P = (s 2).toInt * (s 2).toInt := ⟨_, rfl⟩
  unfold TB
  rw [e7, e2, sq]
  rw [← hP] at t1 t2 sb s0 ⊢
  rcases tick_56 hS with ⟨h5, h6⟩ | ⟨h5, h6⟩
  · rw [h5, h6]; exact ⟨⟨by omega, by omega⟩, ⟨r1, r2⟩, f1, f2⟩
  · obtain ⟨v, hv⟩ : ∃ v, v = rdg (tickS s) + s 6 := ⟨_, rfl⟩
    have vi : v.toInt = (rdg (tickS s)).toInt + (s 6).toInt := by rw [hv]; exact ti_add (by omega) (by omega)
    rw [← hv] at h5 h6
    have dv : (v / 4).toInt = v.toInt.tdiv 4 := ti_div4
    have d4 := tdiv4 v.toInt
    have m4 : (v / 4 * 4).toInt = v.toInt.tdiv 4 * 4 := by
      rw [Int32.toInt_mul, dv, ti_4]; exact Int.bmod_eq_of_le (by omega) (by omega)
    have a5 : (s 5 + v / 4).toInt = (s 5).toInt + v.toInt.tdiv 4 := by rw [ti_add, dv] <;> rw [dv] <;> omega
    have a6 : (v - v / 4 * 4).toInt = v.toInt - v.toInt.tdiv 4 * 4 := by rw [ti_sub, m4] <;> rw [m4] <;> omega
    rw [h5, h6, a5, a6]
    exact ⟨⟨by omega, by omega⟩, ⟨by omega, by omega⟩, f1, f2⟩
-- all of it
def LI (s : kV) : Prop := KI s ∧ CV s ∧ TB s ∧ (s 15 = 0 ∨ 0 < s 15)
theorem LI_tick {s : kV} (h : LI s) (ht : (s 2).toInt < 4000) : LI (tickS s) ∧ (tickS s 2).toInt = (s 2).toInt + 1 := by
  obtain ⟨hK, hC, hT, h15⟩ := h
  obtain ⟨n1, n2, -⟩ := NI_tick hK.2.2 hK.1 (by omega)
  refine ⟨⟨⟨SX_tick hK.1, SB_tick hK.1 hK.2.1, n1⟩, CV_tick hK.1 hC, TB_tick hK hT ht, ?_⟩, n2⟩
  have S2 := SX_tk2 (SX_tk1 hK.1)
  unfold tickS tk4
  split
  · exact Or.inl upd_s
  · rw [tk3_k S2 (by omega), tk2_k (by omega), tk1_k (by omega) (by omega)]; exact h15
theorem LI_tickN {s : kV} (h : LI s) : ∀ n : Nat, (s 2).toInt + n ≤ 4000 → LI (tickN s n) ∧ (tickN s n 2).toInt = (s 2).toInt + n
  | 0, _ => ⟨h, by simp [tickN]⟩
  | n + 1, hn => by
    obtain ⟨h1, h2⟩ := LI_tickN h n (by omega)
    obtain ⟨k1, k2⟩ := LI_tick h1 (by omega)
    exact ⟨k1, by show (tickS (tickN s n) 2).toInt = _; rw [k2, h2]; omega⟩
theorem LI_c {s t : kV} (h : LI s) (hK : KI t) (e : ∀ k, (cvI k ∨ k = 2 ∨ k = 5 ∨ k = 6 ∨ k = 7 ∨ k = 15) → t k = s k) : LI t := by
  obtain ⟨h1, h2, h3, h4⟩ := h
  refine ⟨hK, CV_c h1.1 h2 (fun k hk => e k (Or.inl hk)), TB_c h3 (fun k hk => e k (Or.inr (by omega))), ?_⟩
  rw [e 15 (by omega)]; exact h4
theorem LI_u {s : kV} (h : LI s) {k : Nat} {x : Int32} (hK : KI (upd s k x)) (hk : ¬ (cvI k ∨ k = 2 ∨ k = 5 ∨ k = 6 ∨ k = 7 ∨ k = 15)) : LI (upd s k x) := LI_c h hK (fun j hj => upd_ne (fun e => hk (e ▸ hj)))
