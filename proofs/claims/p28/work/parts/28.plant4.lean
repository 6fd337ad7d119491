theorem u8c {s : kV} {k : Nat} {x y : Int32} (h : k ≠ 8) : upd (upd s 8 x) k y = upd (upd s k y) 8 x := by
  funext j
  by_cases h1 : j = k
  · subst h1; rw [upd_s, upd_ne h, upd_s]
  · by_cases h2 : j = 8
    · rw [upd_ne h1, h2, upd_s, upd_s]
    · rw [upd_ne h1, upd_ne h2, upd_ne h2, upd_ne h1]
theorem u8B {s : kV} {x : Int32} : nB (upd s 8 x) = nB s ∧ nLo (upd s 8 x) = nLo s := ⟨by rw [nB, upd_ne (by omega), nB], by rw [nLo, upd_ne (by omega), nLo]⟩
theorem u8m {s : kV} {x : Int32} {a n : Nat} (h : 8 < a) : sm (upd s 8 x) a n = sm s a n := sm_cong (fun k hk => upd_ne (by omega))
theorem falls1_u8 {s : kV} {x : Int32} : falls1 (upd s 8 x) = upd (falls1 s) 8 x := by
  unfold falls1
  rw [u8B.1, u8m (by omega), upd_ne (show 11 ≠ 8 by omega), upd_ne (show 10 ≠ 8 by omega), upd_ne (show 17 ≠ 8 by omega), u8c (by omega), u8c (by omega), u8c (by omega)]
theorem fallA_u8 {s : kV} {x : Int32} {b κ : Nat} : fallA (upd s 8 x) b κ = upd (fallA s b κ) 8 x := by
  unfold fallA
  rw [upd_ne (show 81 + 6 * b + κ ≠ 8 by omega), upd_ne (show 65 + κ ≠ 8 by omega), u8c (by omega)]
theorem fallB_u8 {s : kV} {x : Int32} {κ : Nat} : fallB (upd s 8 x) κ = upd (fallB s κ) 8 x := by
  unfold fallB
  rw [upd_ne (show 145 + κ ≠ 8 by omega), upd_ne (show 130 + 2 * tn (s (145 + κ)) ≠ 8 by omega), upd_ne (show 65 + κ ≠ 8 by omega), u8c (by omega)]
theorem fallN_u8 {s : kV} {x : Int32} {b : Nat} : ∀ n, fallN (upd s 8 x) b n = upd (fallN s b n) 8 x
  | 0 => rfl
  | n + 1 => by
    show fallB (fallA (fallN (upd s 8 x) b n) b n) n = upd (fallB (fallA (fallN s b n) b n) n) 8 x
    rw [fallN_u8 n, fallA_u8, fallB_u8]
theorem falls_u8 {s : kV} {x : Int32} : falls (upd s 8 x) = upd (falls s) 8 x := by
  unfold falls
  rw [u8B.1, u8m (by omega), falls1_u8, fallN_u8]
  split
  · rfl
  · split
    · dsimp only
      rw [upd_ne (show 86 + 6 * (nB s - 1) ≠ 8 by omega), u8c (by omega)]
    · rfl
theorem shift_u8 {s : kV} {x : Int32} : shiftS (upd s 8 x) = upd (shiftS s) 8 x := by
  funext k
  by_cases h : k = 8
  · subst h; rw [upd_s]; unfold shiftS; rw [if_neg (by omega), if_neg (by omega), upd_s]
  · rw [upd_ne h]
    unfold shiftS
    split
    · rw [upd_ne (by omega)]
    · split
      · rfl
      · rw [upd_ne h]
theorem popL_u8 {s : kV} {x : Int32} : popL (upd s 8 x) = upd (popL s) 8 x := by
  funext k
  by_cases h : k = 8
  · subst h; rw [upd_s]; unfold popL; rw [if_neg (by omega), if_neg (by omega), upd_s]
  · rw [upd_ne h]
    unfold popL
    rw [u8B.2]
    split
    · rw [upd_ne (by omega)]
    · split
      · rw [upd_ne (by omega)]
      · rw [upd_ne h]
theorem feed1_u8 {s : kV} {x y : Int32} : feed1 (upd s 8 x) y = upd (feed1 s y) 8 x := by
  unfold feed1
  rw [upd_ne (show 69 ≠ 8 by omega), upd_ne (show 70 ≠ 8 by omega), upd_ne (show 21 + tn (s 69) ≠ 8 by omega), u8c (by omega), u8c (by omega)]
theorem feedL_u8 {x : Int32} : ∀ (n : Nat) (l : Int32) (s : kV), feedL n l (upd s 8 x) = upd (feedL n l s) 8 x
  | 0, _, _ => rfl
  | n + 1, l, s => by
    unfold feedL
    rw [upd_ne (show 13 ≠ 8 by omega), upd_ne (show 70 ≠ 8 by omega), feed1_u8, upd_ne (show 70 ≠ 8 by omega), popL_u8, feedL_u8 n, feedL_u8 n]
    split
    · split <;> rfl
    · rfl
theorem spl_u8 {x : Int32} : ∀ (n : Nat) (m : Int32) (s : kV), spl n m (upd s 8 x) = upd (spl n m s) 8 x
  | 0, _, _ => rfl
  | n + 1, m, s => by
    unfold spl
    rw [upd_ne (show 21 + n ≠ 8 by omega), upd_ne (show 10 ≠ 8 by omega), u8c (by omega), u8c (by omega), spl_u8 n]
    split <;> rfl
theorem feeds_u8 {s : kV} {x : Int32} : feeds (upd s 8 x) = upd (feeds s) 8 x := by
  unfold feeds
  rw [upd_ne (show 0 ≠ 8 by omega), feedL_u8, u8m (by omega), upd_ne (show 18 ≠ 8 by omega), spl_u8]
theorem goesA_u8 {s : kV} {x : Int32} : goesA (upd s 8 x) = upd (goesA s) 8 x := by
  unfold goesA
  rw [falls_u8, shift_u8]
theorem goesB_u8 {s : kV} {x : Int32} : goesB (upd s 8 x) = upd (goesB s) 8 x := by
  unfold goesB
  rw [upd_ne (show 15 ≠ 8 by omega), upd_ne (show 16 ≠ 8 by omega), feeds_u8]
  split <;> rfl
theorem reads1_u8 {s : kV} {x v : Int32} : reads1 (upd s 8 x) v = upd (reads1 s v) 8 x := by
  unfold reads1
  rw [upd_ne (show 5 ≠ 8 by omega), u8c (by omega), u8c (by omega)]
theorem rdg_u8 {s : kV} {x : Int32} : rdg (upd s 8 x) = rdg s := by
  unfold rdg
  rw [u8m (by omega), upd_ne (show 3 ≠ 8 by omega), upd_ne (show 4 ≠ 8 by omega)]
theorem readS_u8 {s : kV} {x : Int32} : readS (upd s 8 x) = upd (readS s) 8 x := by
  unfold readS
  rw [u8B.1, rdg_u8, upd_ne (show 6 ≠ 8 by omega), reads1_u8, upd_ne (show 85 + 6 * (nB s - 1) ≠ 8 by omega), u8c (by omega)]
  split <;> rfl
theorem goesS_u8 (s : kV) : readS (goesB (goesA (upd s 8 0))) = goesS s := by
  rw [goesA_u8, goesB_u8, readS_u8]; rfl
-- what goes leaves alone
def hG (k : Nat) : Prop := k = 2 ∨ k = 3 ∨ k = 11 ∨ k = 15 ∨ k = 16
theorem feedL_h {k : Nat} (hk : hG k) : ∀ (n : Nat) (l : Int32) {s : kV}, SX s → feedL n l s k = s k
  | 0, _, _, _ => rfl
  | n + 1, l, s, h => by
    have hk' := hk
    simp only [hG] at hk'
    unfold feedL
    split
    · rename_i hc
      have hL := (lots_pos h).mp hc.2
      have h1 := SX_feed1 h hL (mn (s 70) l)
      have e1 : feed1 s (mn (s 70) l) k = s k := by unfold feed1; rw [upd_ne (by omega), upd_ne (by omega)]
      split
      · rw [feedL_h hk n _ (SX_pop h1 (by rw [feed1_nLo h hL]; exact hL)), popL, if_neg (by omega), if_neg (by omega), e1]
      · rw [feedL_h hk n _ h1, e1]
    · rfl
theorem spl_h {k : Nat} (hk : hG k) : ∀ (n : Nat) (m : Int32) (s : kV), spl n m s k = s k
  | 0, _, _ => rfl
  | n + 1, m, s => by
    have hk' := hk
    simp only [hG] at hk'
    unfold spl
    split
    · rw [spl_h hk n _ _, upd_ne (by omega), upd_ne (by omega)]
    · rfl
theorem goesB_h {k : Nat} (hk : hG k) {s : kV} (h : SX s) : goesB s k = s k := by
  unfold goesB feeds
  split
  · rfl
  · rw [spl_h hk 4 _ _, feedL_h hk 6 _ h]
theorem readS_h {k : Nat} (hk : hG k) {s : kV} : readS s k = s k := by
  simp only [hG] at hk
  unfold readS reads1
  split
  · rw [upd_ne (by omega), upd_ne (by omega)]
  · rw [upd_ne (by omega), upd_ne (by omega), upd_ne (by omega)]
theorem shift_h {k : Nat} (hk : hG k) {s : kV} : shiftS s k = s k := by
  simp only [hG] at hk
  unfold shiftS
  rw [if_neg (by omega), if_neg (by omega)]
theorem falls_11 {s : kV} (h : SX s) : falls s 11 = s 11 + sm s 65 4 := by
  have hB := (SX_B h).1
  have e : falls1 s 11 = s 11 + sm s 65 4 := by unfold falls1; rw [upd_ne (by omega), upd_ne (by omega), upd_s]
  cases hw : nB s with
  | zero => unfold falls; rw [if_pos hw]; exact e
  | succ w => rw [falls_at (by omega) hw, if_neg (by omega), fallN_lo (by omega) (Or.inl (by omega)) 4 (Nat.le_refl 4)]; exact e
theorem goes_h {k : Nat} (hk : hG k) (h11 : k ≠ 11) {s : kV} (h : SX s) : goesS s k = s k := by
  have hk' := hk
  simp only [hG] at hk'
  unfold goesS
  rw [upd_ne (by omega), readS_h hk, goesA, goesB_h hk (SX_shift (SX_falls h)), shift_h hk, falls_lo h (by omega) (by omega) h11 (by omega)]
theorem goes_11 {s : kV} (h : SX s) : goesS s 11 = s 11 + sm s 65 4 := by
  unfold goesS
  rw [upd_ne (by omega), readS_h (by simp [hG]), goesA, goesB_h (by simp [hG]) (SX_shift (SX_falls h)), shift_h (by simp [hG]), falls_11 h]
def SB (s : kV) : Prop := (s 1 = 0 ∨ s 1 = 1) ∧ (s 16 = 0 ∨ s 16 = 1) ∧ (0 < s 15 → nB s ≠ 0)
theorem tk1_k {s : kV} {k : Nat} (h2 : k ≠ 2) (h3 : k ≠ 3) : tk1 s k = s k := by unfold tk1; rw [upd_ne h3, upd_ne h2]
theorem tk2_k {s : kV} {k : Nat} (h : k ≠ 16) : tk2 s k = s k := by
  unfold tk2
  split
  · exact upd_ne h
  · rfl
theorem tk4_k {s : kV} {k : Nat} (h : k ≠ 15) : tk4 s k = s k := by
  unfold tk4
  split
  · exact upd_ne h
  · rfl
theorem tk3_k {s : kV} (hS : SX s) {k : Nat} (hk : k = 15 ∨ k = 16) : tk3 s k = s k := by
  unfold tk3
  split
  · exact goes_h (by simp only [hG]; omega) (by omega) hS
  · exact upd_ne (by omega)
theorem SB_tk2 {s : kV} (h : SB s) : SB (tk2 (tk1 s)) := by
  obtain ⟨h1, h2, h3⟩ := h
  refine ⟨by rw [tk2_k (by omega), tk1_k (by omega) (by omega)]; exact h1, ?_, fun h => ?_⟩
  · unfold tk2
    split
    · exact Or.inr upd_s
    · rw [tk1_k (by omega) (by omega)]; exact h2
  · rw [tk2_k (by omega), tk1_k (by omega) (by omega)] at h
    rw [nB, tk2_k (by omega), tk1_k (by omega) (by omega)]
    exact h3 h
theorem SB_tick {s : kV} (hS : SX s) (h : SB s) : SB (tickS s) := by
  obtain ⟨h1, h2, h3⟩ := SB_tk2 h
  have hS2 : SX (tk2 (tk1 s)) := SX_tk2 (SX_tk1 hS)
  refine ⟨?_, ?_, fun q => ?_⟩
  · rw [tick_k hS (by simp [tkF])]; exact h.1
  · unfold tickS
    rw [tk4_k (by omega), tk3_k hS2 (by omega)]; exact h2
  · have e : nB (tickS s) = nB s := by rw [nB, tick_k hS (by simp [tkF]), nB]
    rw [e]
    refine h.2.2 ?_
    unfold tickS at q
    unfold tk4 at q
    split at q
    · rw [upd_s] at q; exact absurd q (by decide)
    · rw [tk3_k hS2 (by omega), tk2_k (by omega), tk1_k (by omega) (by omega)] at q; exact q
theorem SB_tickN {s : kV} (hS : SX s) (h : SB s) : ∀ n, SB (tickN s n)
  | 0 => h
  | n + 1 => SB_tick (SX_tickN hS n) (SB_tickN hS h n)
theorem tick_11 {s : kV} (hS : SX s) : tickS s 11 - s 11 = if 0 < s 15 ∨ s 1 = 1 then sm (tk2 (tk1 s)) 65 4 else 0 := by
  have hS2 : SX (tk2 (tk1 s)) := SX_tk2 (SX_tk1 hS)
  unfold tickS
  rw [tk4_k (by omega)]
  have e15 : tk2 (tk1 s) 15 = s 15 := by rw [tk2_k (by omega), tk1_k (by omega) (by omega)]
  have e1 : tk2 (tk1 s) 1 = s 1 := by rw [tk2_k (by omega), tk1_k (by omega) (by omega)]
  have e11 : tk2 (tk1 s) 11 = s 11 := by rw [tk2_k (by omega), tk1_k (by omega) (by omega)]
  unfold tk3
  rw [e15, e1]
  split
  · rw [goes_11 hS2, e11, Int32.add_comm, Int32.add_sub_cancel]
  · rw [upd_ne (by omega), e11, Int32.sub_self]
theorem w_nmem {g : kG} {μ : kM} {R : Room} {E : State → Prop} {Q : kP} {n : Nat × Nat} {σ : kS} {I : kI} {pc : Nat} {loc : List (Option Value)} {st : List Value} (kk : ∀ J, J = I → wp g μ R E Q n σ J pc loc st) : wp g μ R E Q n σ I pc loc st := kk I rfl
theorem PR_p1 {J K : kI} {p : Nat} {s t : kV} (hR : PR J p s) (hS : SX s) (eo : ∀ a, a ≠ p → K a = J a) (es : ∀ k, ¬ ip k → t k = s k) (hp : PRp K p t) : frP p J K ∧ PR K p t := ⟨fun b hb => eo b (by omega), PR_only_p hR hS (fun a h => eo a (by omega)) es hp⟩
theorem tk_sum (a b c : Int32) : a - b + (c - a) = c - b := by
  rw [Int32.sub_eq_add_neg, Int32.sub_eq_add_neg, Int32.sub_eq_add_neg, Int32.add_comm c (-a), ← Int32.add_assoc, nx_addc a (-b) (-a), ← Int32.sub_eq_add_neg a a, Int32.sub_self, Int32.zero_add, Int32.add_comm]
set_option maxHeartbeats 4000000 in
set_option maxRecDepth 100000 in
theorem c_Plant_passTick {g : kG} {σ : kS} {I : kI} {p : Nat} {s : kV} (hP : sPlant g σ p) (hR : PR I p s) (hS : SX s) (hQ : SB s)  : ct g mX6_passTick ⟨2, 0, 0, 47⟩ [.ref p] σ I (qEI σ (fun r I1 => r = tickS s 11 - s 11 ∧ frP p I I1 ∧ PR I1 p (tickS s))) := by
  refine ct_of pn6 rfl (Nat.le_of_ble_eq_true rfl) ok_X6_passTick.1 trivial ?_
  show wp _ _ _ _ _ _ _ _ 0 [some (.ref p), none, none] []
  have hRR := hR
  obtain ⟨rh, rb, rn, rs, ra, rt, rp⟩ := hR
  have S1 := SX_tk1 hS
  have S2 := SX_tk2 S1
  have Q2 := SB_tk2 hQ
  obtain ⟨g1, g2, g3, g4, g5, g6, g7, g8, g9, g10⟩ := rp
  have k19 : I (p + 15) 1 = s 19 := rt 1 (by omega)
  have k20 : I (p + 15) 2 = s 20 := rt 2 (by omega)
  have h19 : ¬ s 19 ≤ 0 := fun h => by have := Int32.le_trans hS.2.2.2 h; exact absurd this (by decide)
  have e15 : tk2 (tk1 s) 15 = s 15 := by rw [tk2_k (by omega), tk1_k (by omega) (by omega)]
  have e1 : tk2 (tk1 s) 1 = s 1 := by rw [tk2_k (by omega), tk1_k (by omega) (by omega)]
  have J93 : ∀ (J : kI) (v1 : Option Value), (0 < tk2 (tk1 s) 15 ∨ tk2 (tk1 s) 1 = 1) → frP p I J → PR J p (tk2 (tk1 s)) → wp g mX6_passTick ⟨2, 0, 0, 47⟩ (fun _ => True) (qEI σ (fun r I1 => r = tickS s 11 - s 11 ∧ frP p I I1 ∧ PR I1 p (tickS s))) (0, 0) σ J 93 [some (.ref p), v1, none] [] := by
    intro J v1 hgo hF hT
    refine w_drop 1 ?_
    have hg : tk3 (tk2 (tk1 s)) = goesS (tk2 (tk1 s)) := by unfold tk3; rw [if_pos hgo]
    obtain ⟨F0, R0⟩ : frP p J (kst J p 12 0) ∧ PR (kst J p 12 0) p (upd (tk2 (tk1 s)) 8 0) := PR_p1 hT S2 (fun a h => kst_n h) (fun k h => upd_ne (by simp only [ip] at h; omega)) (by
      obtain ⟨y1, y2, y3, y4, y5, y6, y7, y8, y9, y10⟩ := hT.2.2.2.2.2.2
      simp only [PRp, kst_s, upd]
      exact ⟨y1, y2, y3, y4, y5, y6, y7, rfl, y9, y10⟩)
    have S0 : SX (upd (tk2 (tk1 s)) 8 0) := SX_upd S2 (by simp [sxI])
    have Q0 : 0 < upd (tk2 (tk1 s)) 8 0 15 → nB (upd (tk2 (tk1 s)) 8 0) ≠ 0 := by rw [u8B.1, upd_ne (by omega)]; exact Q2.2.2
    have V0 : sm (upd (tk2 (tk1 s)) 8 0) 65 4 = tickS s 11 - s 11 := by rw [tick_11 hS, u8m (by omega), if_pos (by rw [← e15, ← e1]; exact hgo)]
    have SA : SX (goesA (upd (tk2 (tk1 s)) 8 0)) := SX_shift (SX_falls S0)
    refine w_aload_0 (pc := 93) dX6_passTick_93 ?_
    refine w_iconst (pc := 94) (v := 0) dX6_passTick_94 (by decide) ?_
    refine w_putI (pc := 95) kc6 12 (sP_in0 hP) (sP_s0 hP) rfl t190 rfl (tyX6_ok 12 (by decide)) rfl rfl dX6_passTick_95 ?_
    refine w_aload_0 (pc := 98) dX6_passTick_98 ?_
    refine w_callV_EI (pc := 99) (c_Plant_dropAtEnd hP R0 S0 Q0) ok_X6_dropAtEnd t425 t1 kc6 (sP_in0 hP) (sP_s0 hP) t423 ⟨Nat.le_of_ble_eq_true rfl, Nat.le_of_ble_eq_true rfl⟩ ⟨rfl, rfl⟩ ⟨Nat.le_refl _, Nat.le_refl _⟩ rfl (Nat.le_of_ble_eq_true rfl) dX6_passTick_99 (fun r99 I99 h99 => ?_)
    refine w_istore_2 (pc := 102) dX6_passTick_102 rfl ?_
    obtain ⟨z, hzz⟩ := h99.2.2.2.1
    have RA : PR (kst I99 (p + 4) 1 (nI ((z + 11) % 12))) p (goesA (upd (tk2 (tk1 s)) 8 0)) := goOn_rel (SX_falls S0) h99.2.2 hzz
    have FA : frP p I (kst I99 (p + 4) 1 (nI ((z + 11) % 12))) := frP_t (frP_t (frP_t hF F0) h99.2.1) (frP_kst (by omega))
    have J125 : ∀ (J : kI), frP p I J → PR J p (goesB (goesA (upd (tk2 (tk1 s)) 8 0))) → wp g mX6_passTick ⟨2, 0, 0, 47⟩ (fun _ => True) (qEI σ (fun r I1 => r = tickS s 11 - s 11 ∧ frP p I I1 ∧ PR I1 p (tickS s))) (0, 0) σ J 125 [some (.ref p), none, some (.int r99)] [] := by
      intro J hF hT
      have SG := SX_goesB SA
      have B2 := SX_B SG
      obtain ⟨z5, hz5⟩ := hT.2.1
      refine w_aload_0 (pc := 125) dX6_passTick_125 ?_
      refine w_getR (pc := 126) (b := p + 6) kc6 2 (sP_in0 hP) (sP_s0 hP) rfl (sP_r0_2 hP) t171 dX6_passTick_126 ?_
      refine w_aload_0 (pc := 129) dX6_passTick_129 ?_
      refine w_getR (pc := 130) (b := p + 10) kc6 3 (sP_in0 hP) (sP_s0 hP) rfl (sP_r0_3 hP) t173 dX6_passTick_130 ?_
      refine w_aload_0 (pc := 133) dX6_passTick_133 ?_
      refine w_getR (pc := 134) (b := p + 4) kc6 1 (sP_in0 hP) (sP_s0 hP) rfl (sP_r0_1 hP) t169 dX6_passTick_134 ?_
      refine w_callV_I (pc := 137) (c_Belt_massSeen (sP_Belt hP) hz5.2.1 hz5.1) ok_X1_massSeen t467 t468 kc1 (sP_in hP (k := 4) (by decide)) (sP_s4 hP) t466 ⟨Nat.le_of_ble_eq_true rfl, Nat.le_of_ble_eq_true rfl⟩ ⟨rfl, rfl⟩ ⟨Nat.le_refl _, Nat.le_refl _⟩ rfl (Nat.le_of_ble_eq_true rfl) dX6_passTick_137 ?_
      rw [seen_eq hz5.2.2.1]
      refine w_callV_I (pc := 140) (c_Scale_weigh (sP_Scale hP)) ok_X8_weigh t472 t473 kc8 (sP_in hP (k := 10) (by decide)) (sP_s10 hP) t471 ⟨Nat.le_of_ble_eq_true rfl, Nat.le_of_ble_eq_true rfl⟩ ⟨rfl, rfl⟩ ⟨Nat.le_refl _, Nat.le_refl _⟩ rfl (Nat.le_of_ble_eq_true rfl) dX6_passTick_140 ?_
      obtain ⟨v, hv⟩ : ∃ v, v = sm (goesB (goesA (upd (tk2 (tk1 s)) 8 0))) 37 16 + J (p + 10) 0 - J (p + 10) 1 + J (p + 10) 3 := ⟨_, rfl⟩
      rw [← hv]
      refine w_callV_V (pc := 143) (c_Bins_growPresent (sP_Bins hP) (n0 := nB (goesB (goesA (upd (tk2 (tk1 s)) 8 0)))) (by rw [kst_n (by omega), kst_n (by omega), hT.2.2.1.1]; exact B2.2) B2.1) ok_X2_growPresent t480 t481 kc2 (sP_in hP (k := 6) (by decide)) (sP_s6 hP) t479 ⟨Nat.le_of_ble_eq_true rfl, Nat.le_of_ble_eq_true rfl⟩ ⟨rfl, rfl⟩ ⟨Nat.le_refl _, Nat.le_refl _⟩ rfl (Nat.le_of_ble_eq_true rfl) dX6_passTick_143 ?_
      refine w_nmem (fun K hK => ?_)
      obtain ⟨F2, R2⟩ := readS_rel (K := K) SG hT v (by rw [hv, hT.2.2.2.1.1, hT.2.2.2.1.2.1, hT.2.2.2.1.2.2.2.1]; rfl) (by rw [hK]; split <;> simp [kst, va_up]) (by rw [hK]; split <;> simp [kst, va_up]) (fun a h1 h2 => by rw [hK]; split <;> simp [kst, va_up, h1, h2])
      rw [goesS_u8] at R2
      have F3 := frP_t hF F2
      have ht : tickS s = tk4 (goesS (tk2 (tk1 s))) := by unfold tickS; rw [hg]
      have h16 : goesS (tk2 (tk1 s)) 16 = 0 ∨ goesS (tk2 (tk1 s)) 16 = 1 := by rw [goes_h (by simp [hG]) (by omega) S2]; exact Q2.2.1
      have SX' := SX_goes S2
      have hr := h99.1.trans V0
      obtain ⟨w1, w2, w3, w4, w5, w6, w7, w8, w9, w10⟩ := R2.2.2.2.2.2.2
      obtain ⟨z6, hz6⟩ := R2.2.1
      refine w_aload_0 (pc := 146) dX6_passTick_146 ?_
      refine w_getI (pc := 147) kc6 9 (sP_in0 hP) (sP_s0 hP) rfl t185 dX6_passTick_147 ?_
      refine w_if_eq (pc := 150) (tgt := 167) dX6_passTick_150 (by decide) (fun c150 => ?_) (fun c150 => ?_)
      · refine w_iload_2 (pc := 167) dX6_passTick_167 ?_
        refine w_iret (pc := 168) rfl ⟨Nat.le_refl _, Nat.le_refl _⟩ dX6_passTick_168 ?_
        refine ⟨_, rfl, rfl, hr, F3, ?_⟩
        rw [ht, tk4, if_neg]
        · exact R2
        · rintro ⟨q1, q2, -⟩
          rw [w4 q1, q2] at c150; exact absurd c150 (by decide)
      · refine w_aload_0 (pc := 153) dX6_passTick_153 ?_
        refine w_getR (pc := 154) (b := p + 4) kc6 1 (sP_in0 hP) (sP_s0 hP) rfl (sP_r0_1 hP) t169 dX6_passTick_154 ?_
        refine w_getI (pc := 157) kc1 2 (sP_in hP (k := 4) (by decide)) (sP_s4 hP) rfl t70 dX6_passTick_157 ?_
        refine w_if_ne (pc := 160) (tgt := 167) dX6_passTick_160 (by decide) (fun c160 => ?_) (fun c160 => ?_)
        · refine w_iload_2 (pc := 167) dX6_passTick_167 ?_
          refine w_iret (pc := 168) rfl ⟨Nat.le_refl _, Nat.le_refl _⟩ dX6_passTick_168 ?_
          refine ⟨_, rfl, rfl, hr, F3, ?_⟩
          rw [ht, tk4, if_neg]
          · exact R2
          · rintro ⟨-, -, q3⟩
            exact c160 (by rw [hz6.2.2.2]; exact q3)
        · refine w_aload_0 (pc := 163) dX6_passTick_163 ?_
          refine w_callV_V (pc := 164) (c_Plant_endBatch hP) ok_X6_endBatch t485 t4 kc6 (sP_in0 hP) (sP_s0 hP) t483 ⟨Nat.le_of_ble_eq_true rfl, Nat.le_of_ble_eq_true rfl⟩ ⟨rfl, rfl⟩ ⟨Nat.le_refl _, Nat.le_refl _⟩ rfl (Nat.le_of_ble_eq_true rfl) dX6_passTick_164 ?_
          refine w_iload_2 (pc := 167) dX6_passTick_167 ?_
          refine w_iret (pc := 168) rfl ⟨Nat.le_refl _, Nat.le_refl _⟩ dX6_passTick_168 ?_
          have q15 : 0 < goesS (tk2 (tk1 s)) 15 := Decidable.byContradiction (fun q => c150 (w5 q))
          have q16 : goesS (tk2 (tk1 s)) 16 = 1 := h16.resolve_left (fun q => c150 (by rw [w4 q15, q]))
          obtain ⟨F4, R4⟩ : frP p K (kst (kst K p 8 0) p 9 0) ∧ PR (kst (kst K p 8 0) p 9 0) p (upd (goesS (tk2 (tk1 s))) 15 0) := PR_p1 R2 SX' (fun a h => by rw [kst_n h, kst_n h]) (fun k h => upd_ne (by simp only [ip] at h; omega)) (by
            simp only [PRp, kst_s, upd]
            refine ⟨w1, w2, rfl, fun q => absurd q (by rw [if_pos trivial]; decide), fun _ => rfl, fun q => absurd q (by rw [if_pos trivial]; decide), w7, w8, w9, w10⟩)
          refine ⟨_, rfl, rfl, hr, frP_t F3 F4, ?_⟩
          rw [ht, tk4, if_pos ⟨q15, q16, by rw [← hz6.2.2.2]; exact c160⟩]
          exact R4
    refine w_aload_0 (pc := 103) dX6_passTick_103 ?_
    refine w_getR (pc := 104) (b := p + 4) kc6 1 (sP_in0 hP) (sP_s0 hP) rfl (sP_r0_1 hP) t169 dX6_passTick_104 ?_
    refine w_callV_V (pc := 107) (c_Belt_goOn (sP_Belt hP) hzz.2.1 hzz.1) ok_X1_goOn t445 t446 kc1 (sP_in hP (k := 4) (by decide)) (sP_s4 hP) t444 ⟨Nat.le_of_ble_eq_true rfl, Nat.le_of_ble_eq_true rfl⟩ ⟨rfl, rfl⟩ ⟨Nat.le_refl _, Nat.le_refl _⟩ rfl (Nat.le_of_ble_eq_true rfl) dX6_passTick_107 ?_
    refine w_aload_0 (pc := 110) dX6_passTick_110 ?_
    refine w_getI (pc := 111) kc6 9 (sP_in0 hP) (sP_s0 hP) rfl t185 dX6_passTick_111 ?_
    refine w_if_ne (pc := 114) (tgt := 125) dX6_passTick_114 (by decide) (fun c114 => ?_) (fun c114 => ?_)
    · refine J125 _ FA ?_
      rw [goesB, if_pos]
      · exact RA
      · obtain ⟨y1, y2, y3, y4, y5, y6, y7, y8, y9, y10⟩ := RA.2.2.2.2.2.2
        by_cases q : 0 < goesA (upd (tk2 (tk1 s)) 8 0) 15
        · exact ⟨q, fun e => c114 (by rw [y4 q, e])⟩
        · exact absurd (y5 q) c114
    · refine w_aload_0 (pc := 117) dX6_passTick_117 ?_
      refine w_callV_EV (pc := 118) (c_Plant_feed hP RA SA) ok_X6_feed t450 t2 kc6 (sP_in0 hP) (sP_s0 hP) t448 ⟨Nat.le_of_ble_eq_true rfl, Nat.le_of_ble_eq_true rfl⟩ ⟨rfl, rfl⟩ ⟨Nat.le_refl _, Nat.le_refl _⟩ rfl (Nat.le_of_ble_eq_true rfl) dX6_passTick_118 (fun I118 h118 => ?_)
      refine w_aload_0 (pc := 121) dX6_passTick_121 ?_
      refine w_callV_EV (pc := 122) (c_Plant_spillTooMuch hP h118.2 (SX_feedL 6 _ SA)) ok_X6_spillTooMuch t463 t3 kc6 (sP_in0 hP) (sP_s0 hP) t461 ⟨Nat.le_of_ble_eq_true rfl, Nat.le_of_ble_eq_true rfl⟩ ⟨rfl, rfl⟩ ⟨Nat.le_refl _, Nat.le_refl _⟩ rfl (Nat.le_of_ble_eq_true rfl) dX6_passTick_122 (fun I122 h122 => ?_)
      refine J125 _ (frP_t (frP_t FA h118.1) h122.1) ?_
      rw [goesB, if_neg]
      · exact h122.2
      · rintro ⟨q1, q2⟩
        obtain ⟨y1, y2, y3, y4, y5, y6, y7, y8, y9, y10⟩ := RA.2.2.2.2.2.2
        exact q2 (by rw [← y4 q1]; exact c114)
  have J67 : ∀ (J : kI) (v1 : Option Value), frP p I J → PR J p (tk2 (tk1 s)) → wp g mX6_passTick ⟨2, 0, 0, 47⟩ (fun _ => True) (qEI σ (fun r I1 => r = tickS s 11 - s 11 ∧ frP p I I1 ∧ PR I1 p (tickS s))) (0, 0) σ J 67 [some (.ref p), v1, none] [] := by
    intro J v1 hF hT
    refine w_drop 1 ?_
    refine w_aload_0 (pc := 67) dX6_passTick_67 ?_
    refine w_callV_I (pc := 68) (c_Plant_hasBatch hP) ok_X6_hasBatch t341 t342 kc6 (sP_in0 hP) (sP_s0 hP) t418 ⟨Nat.le_of_ble_eq_true rfl, Nat.le_of_ble_eq_true rfl⟩ ⟨rfl, rfl⟩ ⟨Nat.le_refl _, Nat.le_refl _⟩ rfl (Nat.le_of_ble_eq_true rfl) dX6_passTick_68 ?_
    refine w_if_ne (pc := 71) (tgt := 93) dX6_passTick_71 (by decide) (fun c71 => ?_) (fun c71 => ?_)
    · have b15 : 0 < tk2 (tk1 s) 15 := by rw [← hT.2.2.2.2.2.2.2.2.1]; exact b1 c71
      exact J93 _ _ (Or.inl b15) hF hT
    · have b15 : ¬ 0 < tk2 (tk1 s) 15 := by rw [← hT.2.2.2.2.2.2.2.2.1]; exact b0 c71
      refine w_aload_0 (pc := 74) dX6_passTick_74 ?_
      refine w_getI (pc := 75) kc6 7 (sP_in0 hP) (sP_s0 hP) rfl t181 dX6_passTick_75 ?_
      refine w_if_ne (pc := 78) (tgt := 93) dX6_passTick_78 (by decide) (fun c78 => ?_) (fun c78 => ?_)
      · exact J93 _ _ (Or.inr (by rw [← hT.2.2.2.2.2.2.2.1]; exact (by rw [hT.2.2.2.2.2.2.2.1] at c78 ⊢; exact Q2.1.resolve_left c78))) hF hT
      · refine w_aload_0 (pc := 81) dX6_passTick_81 ?_
        refine w_dup_a (pc := 82) dX6_passTick_82 ?_
        refine w_getI (pc := 83) kc6 12 (sP_in0 hP) (sP_s0 hP) rfl t190 dX6_passTick_83 ?_
        refine w_iconst (pc := 86) (v := 1) dX6_passTick_86 (by decide) ?_
        refine w_iadd (pc := 87) dX6_passTick_87 ?_
        refine w_putI (pc := 88) kc6 12 (sP_in0 hP) (sP_s0 hP) rfl t190 rfl (tyX6_ok 12 (by decide)) rfl rfl dX6_passTick_88 ?_
        refine w_iconst (pc := 91) (v := 0) dX6_passTick_91 (by decide) ?_
        refine w_iret (pc := 92) rfl ⟨Nat.le_refl _, Nat.le_refl _⟩ dX6_passTick_92 ?_
        have ht : tickS s = upd (tk2 (tk1 s)) 8 (tk2 (tk1 s) 8 + 1) := by
          have hn : ¬ (0 < tk2 (tk1 s) 15 ∨ tk2 (tk1 s) 1 = 1) := fun h => h.elim b15 (fun q => by rw [hT.2.2.2.2.2.2.2.1, q] at c78; exact absurd c78 (by decide))
          unfold tickS tk3
          rw [if_neg hn]
          unfold tk4
          rw [if_neg (fun h => b15 (by rw [upd_ne (by omega)] at h; exact h.1))]
        obtain ⟨F1, R1⟩ : frP p J (kst J p 12 (J p 12 + 1)) ∧ PR (kst J p 12 (J p 12 + 1)) p (upd (tk2 (tk1 s)) 8 (tk2 (tk1 s) 8 + 1)) := PR_p1 hT S2 (fun a h => kst_n h) (fun k h => upd_ne (by simp only [ip] at h; omega)) (by
          obtain ⟨y1, y2, y3, y4, y5, y6, y7, y8, y9, y10⟩ := hT.2.2.2.2.2.2
          simp only [PRp, kst_s, upd]
          exact ⟨y1, y2, y3, y4, y5, y6, y7, by simp [y8], y9, y10⟩)
        refine ⟨_, rfl, rfl, ?_, frP_t hF F1, by rw [ht]; exact R1⟩
        rw [ht, upd_ne (by omega), tk2_k (by omega), tk1_k (by omega) (by omega), Int32.sub_self]
  have J48 : ∀ (J : kI) (v1 : Option Value), frP p I J → PR J p (tk1 s) → wp g mX6_passTick ⟨2, 0, 0, 47⟩ (fun _ => True) (qEI σ (fun r I1 => r = tickS s 11 - s 11 ∧ frP p I I1 ∧ PR I1 p (tickS s))) (0, 0) σ J 48 [some (.ref p), v1, none] [] := by
    intro J v1 hF hT
    refine w_drop 1 ?_
    refine w_aload_0 (pc := 48) dX6_passTick_48 ?_
    refine w_callV_I (pc := 49) (c_Plant_hasBatch hP) ok_X6_hasBatch t341 t342 kc6 (sP_in0 hP) (sP_s0 hP) t418 ⟨Nat.le_of_ble_eq_true rfl, Nat.le_of_ble_eq_true rfl⟩ ⟨rfl, rfl⟩ ⟨Nat.le_refl _, Nat.le_refl _⟩ rfl (Nat.le_of_ble_eq_true rfl) dX6_passTick_49 ?_
    refine w_if_eq (pc := 52) (tgt := 67) dX6_passTick_52 (by decide) (fun c52 => ?_) (fun c52 => ?_)
    · have b15 : ¬ 0 < tk1 s 15 := by rw [← hT.2.2.2.2.2.2.2.2.1]; exact b0 c52
      exact J67 _ _ hF (by rw [tk2, if_neg (fun h => b15 h.1)]; exact hT)
    · have b15 : 0 < tk1 s 15 := by rw [← hT.2.2.2.2.2.2.2.2.1]; exact b1 c52
      refine w_aload_0 (pc := 55) dX6_passTick_55 ?_
      refine w_callV_I (pc := 56) (c_Plant_wantsMore hP hT S1) ok_X6_wantsMore t421 t0 kc6 (sP_in0 hP) (sP_s0 hP) t419 ⟨Nat.le_of_ble_eq_true rfl, Nat.le_of_ble_eq_true rfl⟩ ⟨rfl, rfl⟩ ⟨Nat.le_refl _, Nat.le_refl _⟩ rfl (Nat.le_of_ble_eq_true rfl) dX6_passTick_56 ?_
      refine w_if_ne (pc := 59) (tgt := 67) dX6_passTick_59 (by decide) (fun c59 => ?_) (fun c59 => ?_)
      · exact J67 _ _ hF (by rw [tk2, if_neg]; exact hT; exact fun h => h.2.elim (fun q => absurd (b1 c59).1 (Int32.not_lt.mpr (by rw [hT.2.2.2.2.2.2.2.2.2.2.2.1 b15]; exact q))) (fun q => absurd (b1 c59).2 (by rw [q]; decide)))
      · refine w_aload_0 (pc := 62) dX6_passTick_62 ?_
        refine w_iconst (pc := 63) (v := 1) dX6_passTick_63 (by decide) ?_
        refine w_putI (pc := 64) kc6 9 (sP_in0 hP) (sP_s0 hP) rfl t185 rfl (tyX6_ok 9 (by decide)) (by decide) (by decide) dX6_passTick_64 ?_
        obtain ⟨F1, R1⟩ : frP p J (kst J p 9 1) ∧ PR (kst J p 9 1) p (tk2 (tk1 s)) := PR_p1 hT S1 (fun a h => kst_n h) (fun k h => tk2_k (by simp only [ip] at h; omega)) (by
          have e : tk2 (tk1 s) = upd (tk1 s) 16 1 := by
            rw [tk2, if_pos]
            refine ⟨b15, ?_⟩
            have q := b0 c59
            rw [hT.2.2.2.2.2.2.2.2.2.2.2.1 b15] at q
            by_cases h13 : tk1 s 13 = 0
            · exact Or.inr h13
            · refine Or.inl (Int32.not_lt.mp (fun r => q ⟨r, ?_⟩))
              obtain ⟨l1, l2, l3⟩ := SX_L S1
              rw [l2] at h13 ⊢
              refine Int32.not_le.mp (nI_pos3 (Nat.pos_of_ne_zero (fun z0 => h13 (by rw [z0]; rfl))) (by omega))
          obtain ⟨y1, y2, y3, y4, y5, y6, y7, y8, y9, y10⟩ := hT.2.2.2.2.2.2
          rw [e]
          simp only [PRp, kst_s, upd]
          exact ⟨y1, y2, y3, fun _ => rfl, fun h => absurd b15 h, y6, y7, y8, y9, y10⟩)
        exact J67 _ _ (frP_t hF F1) R1
  refine w_aload_0 (pc := 0) dX6_passTick_0 ?_
  refine w_dup_a (pc := 1) dX6_passTick_1 ?_
  refine w_getI (pc := 2) kc6 11 (sP_in0 hP) (sP_s0 hP) rfl t188 dX6_passTick_2 ?_
  refine w_iconst (pc := 5) (v := 1) dX6_passTick_5 (by decide) ?_
  refine w_iadd (pc := 6) dX6_passTick_6 ?_
  refine w_putI (pc := 7) kc6 11 (sP_in0 hP) (sP_s0 hP) rfl t188 rfl (tyX6_ok 11 (by decide)) rfl rfl dX6_passTick_7 ?_
  refine w_aload_0 (pc := 10) dX6_passTick_10 ?_
  refine w_getR (pc := 11) (b := p + 15) kc6 5 (sP_in0 hP) (sP_s0 hP) rfl (sP_r0_5 hP) t177 dX6_passTick_11 ?_
  refine w_iconst (pc := 14) (v := 1) dX6_passTick_14 (by decide) ?_
  refine w_iald (pc := 15) (j := 1) (sP_in hP (k := 15) (by decide)) (sP_s15 hP) rfl (by decide) (by decide) dX6_passTick_15 ?_
  refine w_istore_1 (pc := 16) dX6_passTick_16 rfl ?_
  refine w_iload_1 (pc := 17) dX6_passTick_17 ?_
  refine w_if_le (pc := 18) (tgt := 48) dX6_passTick_18 (by decide) (fun c18 => ?_) (fun c18 => ?_)
  · rw [kst_n (by omega), k19] at c18; exact absurd c18 h19
  · refine w_aload_0 (pc := 21) dX6_passTick_21 ?_
    refine w_getI (pc := 22) kc6 11 (sP_in0 hP) (sP_s0 hP) rfl t188 dX6_passTick_22 ?_
    refine w_iload_1 (pc := 25) dX6_passTick_25 ?_
    refine w_irem (pc := 26) dX6_passTick_26 (by rw [kst_n (by omega), k19]; exact fun h => h19 (by rw [h]; decide)) ?_
    refine w_if_ne (pc := 27) (tgt := 48) dX6_passTick_27 (by decide) (fun c27 => ?_) (fun c27 => ?_)
    · have cc : ¬ s 2 + 1 - (s 2 + 1) / s 19 * s 19 = 0 := by
        simp only [kst_s, upd_s, g7] at c27
        rw [kst_n (by omega), k19] at c27
        exact c27
      obtain ⟨F1, R1⟩ : frP p I (kst I p 11 (I p 11 + 1)) ∧ PR (kst I p 11 (I p 11 + 1)) p (upd s 2 (s 2 + 1)) := PR_p1 hRR hS (fun a h => kst_n h) (fun k h => upd_ne (by simp only [ip] at h; omega)) (by
        simp only [PRp, kst_s, upd]
        exact ⟨g1, g2, g3, g4, g5, g6, by simp [g7], g8, g9, g10⟩)
      refine J48 _ _ F1 ?_
      have e : tk1 s = upd s 2 (s 2 + 1) := by
        unfold tk1
        rw [if_neg cc, Int32.add_zero]
        funext k
        by_cases hk : k = 3
        · rw [hk, upd_s, upd_ne (by omega)]
        · rw [upd_ne hk]
      rw [e]; exact R1
    · refine w_aload_0 (pc := 30) dX6_passTick_30 ?_
      refine w_getR (pc := 31) (b := p + 10) kc6 3 (sP_in0 hP) (sP_s0 hP) rfl (sP_r0_3 hP) t173 dX6_passTick_31 ?_
      refine w_dup_a (pc := 34) dX6_passTick_34 ?_
      refine w_getI (pc := 35) kc8 0 (sP_in hP (k := 10) (by decide)) (sP_s10 hP) rfl t111 dX6_passTick_35 ?_
      refine w_aload_0 (pc := 38) dX6_passTick_38 ?_
      refine w_getR (pc := 39) (b := p + 15) kc6 5 (sP_in0 hP) (sP_s0 hP) rfl (sP_r0_5 hP) t177 dX6_passTick_39 ?_
      refine w_iconst (pc := 42) (v := 2) dX6_passTick_42 (by decide) ?_
      refine w_iald (pc := 43) (j := 2) (sP_in hP (k := 15) (by decide)) (sP_s15 hP) rfl (by decide) (by decide) dX6_passTick_43 ?_
      refine w_iadd (pc := 44) dX6_passTick_44 ?_
      refine w_putI (pc := 45) kc8 0 (sP_in hP (k := 10) (by decide)) (sP_s10 hP) rfl t111 rfl (tyX8_ok 0 (by decide)) rfl rfl dX6_passTick_45 ?_
      have cc : s 2 + 1 - (s 2 + 1) / s 19 * s 19 = 0 := by
        simp only [kst_s, upd_s, g7] at c27
        rw [kst_n (by omega), k19] at c27
        exact c27
      obtain ⟨F1, R1⟩ : frP p I (kst I p 11 (I p 11 + 1)) ∧ PR (kst I p 11 (I p 11 + 1)) p (upd s 2 (s 2 + 1)) := PR_p1 hRR hS (fun a h => kst_n h) (fun k h => upd_ne (by simp only [ip] at h; omega)) (by
        simp only [PRp, kst_s, upd]
        exact ⟨g1, g2, g3, g4, g5, g6, by simp [g7], g8, g9, g10⟩)
      have e : tk1 s = upd (upd s 2 (s 2 + 1)) 3 (s 3 + s 20) := by
        unfold tk1
        rw [if_pos cc]
      refine J48 _ _ (frP_t F1 (frP_kst (by omega))) ?_
      rw [e]
      refine PR_only_s R1 (SX_upd hS (by simp [sxI])) (fun a h => kst_n (by omega)) (fun k h => upd_ne (by simp only [is_] at h; omega)) ?_
      obtain ⟨y1, y2, y3, y4, y5⟩ := rs
      simp [PRs, kst_s, kst_n, upd, y1, y2, y3, y4, y5, k20]
set_option maxHeartbeats 4000000 in
set_option maxRecDepth 100000 in
theorem c_Plant_passTicks {g : kG} {σ : kS} {I : kI} {p : Nat} {s : kV} (hP : sPlant g σ p) (hR : PR I p s) (hS : SX s) (hQ : SB s) {x : Int32} : ct g mX6_passTicks ⟨3, 0, 0, 69⟩ [.ref p, .int x] σ I (qEI σ (fun r I1 => r = (oTick s x).1 ∧ opP p I (oTick s x) I1)) := by
  refine ct_of pn6 rfl (Nat.le_of_ble_eq_true rfl) ok_X6_passTicks.1 trivial ?_
  show wp _ _ _ _ _ _ _ _ 0 [some (.ref p), some (.int x), none, none] []
  have hRR := hR
  obtain ⟨rh, rb, rn, rs, ra, rt, rp⟩ := hR
  refine w_iload_1 (pc := 0) dX6_passTicks_0 ?_
  refine w_iconst (pc := 1) (v := 1) dX6_passTicks_1 (by decide) ?_
  refine w_icmp_lt (pc := 2) (tgt := 12) dX6_passTicks_2 (by decide) (fun c2 => ?_) (fun c2 => ?_)
  · refine w_ldc (pc := 12) (v := -1000001) t412 dX6_passTicks_12 ?_
    refine w_iret (pc := 14) rfl ⟨Nat.le_refl _, Nat.le_refl _⟩ dX6_passTicks_14 ?_
    have ho : oTick s x = (-1000001, none) := by unfold oTick; rw [if_pos (fun h => absurd h.1 (Int32.not_le.mpr c2))]
    exact ⟨_, rfl, rfl, by rw [ho], by rw [ho]; rfl⟩
  · refine w_iload_1 (pc := 5) dX6_passTicks_5 ?_
    refine w_sipush (pc := 6) (v := 200) dX6_passTicks_6 (by decide) ?_
    refine w_icmp_le (pc := 9) (tgt := 15) dX6_passTicks_9 (by decide) (fun c9 => ?_) (fun c9 => ?_)
    · refine w_aload_0 (pc := 15) dX6_passTicks_15 ?_
      refine w_getI (pc := 16) kc6 11 (sP_in0 hP) (sP_s0 hP) rfl t188 dX6_passTicks_16 ?_
      refine w_iload_1 (pc := 19) dX6_passTicks_19 ?_
      refine w_iadd (pc := 20) dX6_passTicks_20 ?_
      refine w_sipush (pc := 21) (v := 9000) dX6_passTicks_21 (by decide) ?_
      refine w_icmp_le (pc := 24) (tgt := 30) dX6_passTicks_24 (by decide) (fun c24 => ?_) (fun c24 => ?_)
      · obtain ⟨k0, hk0l, hk0⟩ := nx_rg (m := 200) (by omega) ⟨Int32.le_trans (by decide) (Int32.not_lt.mp c2), c9⟩
        have htk : tn x = k0 := tn_of hk0 (by omega)
        refine w_iconst (pc := 30) (v := 0) dX6_passTicks_30 (by decide) ?_
        refine w_istore_2 (pc := 31) dX6_passTicks_31 rfl ?_
        refine w_iconst (pc := 32) (v := 0) dX6_passTicks_32 (by decide) ?_
        refine w_istore_3 (pc := 33) dX6_passTicks_33 rfl ?_
        have L0 : ∀ (n i : Nat) (y z : Int32) (J : kI), i ≤ k0 → k0 + 1 ≤ i + n → y = tickN s i 11 - s 11 → z = nI i → frP p I J → PR J p (tickN s i) → wp g mX6_passTicks ⟨3, 0, 0, 69⟩ (fun _ => True) (qEI σ (fun r I1 => r = (oTick s x).1 ∧ opP p I (oTick s x) I1)) (0, 0) σ J 34 [some (.ref p), some (.int x), some (.int y), some (.int z)] [] := by
          intro n
          induction n with
          | zero => intro i y z J h1 h2; exact absurd h2 (by omega)
          | succ n ih =>
            intro i y z J h1 h2 hy hz hF hT
            refine w_iload_3 (pc := 34) dX6_passTicks_34 ?_
            refine w_iload_1 (pc := 35) dX6_passTicks_35 ?_
            refine w_icmp_ge (pc := 36) (tgt := 52) dX6_passTicks_36 (by decide) (fun c36 => ?_) (fun c36 => ?_)
            · have hi : k0 ≤ i := (nx_cmp hk0 (by omega) hz (by omega)).1.mp c36
              obtain rfl : i = k0 := by omega
              refine w_iload_2 (pc := 52) dX6_passTicks_52 ?_
              refine w_iret (pc := 53) rfl ⟨Nat.le_refl _, Nat.le_refl _⟩ dX6_passTicks_53 ?_
              have ho : oTick s x = (tickN s i 11 - s 11, some (tickN s i)) := by unfold oTick; rw [if_neg (fun h => h ⟨Int32.not_lt.mp c2, c9⟩), if_neg (by rw [← rp.2.2.2.2.2.2.1]; exact Int32.not_lt.mpr c24), htk]
              exact ⟨_, rfl, rfl, by rw [ho]; exact hy, by rw [ho]; exact ⟨hF, hT⟩⟩
            · have hi : i < k0 := nx_nle c36 hk0 (by omega) hz (by omega)
              have SN := SX_tickN hS i
              have QN := SB_tickN hS hQ i
              refine w_iload_2 (pc := 39) dX6_passTicks_39 ?_
              refine w_aload_0 (pc := 40) dX6_passTicks_40 ?_
              refine w_callV_EI (pc := 41) (c_Plant_passTick hP hT SN QN) ok_X6_passTick t415 t416 kc6 (sP_in0 hP) (sP_s0 hP) t414 ⟨Nat.le_of_ble_eq_true rfl, Nat.le_of_ble_eq_true rfl⟩ ⟨rfl, rfl⟩ ⟨Nat.le_refl _, Nat.le_refl _⟩ rfl (Nat.le_of_ble_eq_true rfl) dX6_passTicks_41 (fun r41 I41 h41 => ?_)
              refine w_iadd (pc := 44) dX6_passTicks_44 ?_
              refine w_istore_2 (pc := 45) dX6_passTicks_45 rfl ?_
              refine w_iinc_3 (pc := 46) dX6_passTicks_46 rfl rfl ?_
              refine w_goto (pc := 49) (tgt := 34) dX6_passTicks_49 (by decide) ?_
              exact ih (i + 1) _ _ _ (by omega) (by omega) (by rw [hy, h41.1, tk_sum]; rfl) (by rw [hz]; exact nI_1 i) (frP_t hF h41.2.1) h41.2.2
        exact L0 (k0 + 1) 0 _ _ _ (by omega) (by omega) (Int32.sub_self _).symm rfl frP_r hRR
      · refine w_ldc (pc := 27) (v := -1000003) t413 dX6_passTicks_27 ?_
        refine w_iret (pc := 29) rfl ⟨Nat.le_refl _, Nat.le_refl _⟩ dX6_passTicks_29 ?_
        have ho : oTick s x = (-1000003, none) := by unfold oTick; rw [if_neg (fun h => h ⟨Int32.not_lt.mp c2, c9⟩), if_pos (by rw [← rp.2.2.2.2.2.2.1]; exact Int32.not_le.mp c24)]
        exact ⟨_, rfl, rfl, by rw [ho], by rw [ho]; rfl⟩
    · refine w_ldc (pc := 12) (v := -1000001) t412 dX6_passTicks_12 ?_
      refine w_iret (pc := 14) rfl ⟨Nat.le_refl _, Nat.le_refl _⟩ dX6_passTicks_14 ?_
      have ho : oTick s x = (-1000001, none) := by unfold oTick; rw [if_pos (fun h => absurd h.2 c9)]
      exact ⟨_, rfl, rfl, by rw [ho], by rw [ho]; rfl⟩

