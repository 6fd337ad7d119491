theorem chM_o {q a b z : Nat} {I : kI} (h1 : z ≠ b) (h2 : z ≠ q) : chM q a b I z = I z := by
  unfold chM
  split
  · rfl
  · split
    · rw [va_up_ne _ _ h1]
    · rw [kst_n h2, va_up_ne _ _ h1]
theorem chM_q {q a b k : Nat} {I : kI} (h1 : q ≠ b) (h2 : k ≠ 4) : chM q a b I q k = I q k := by
  unfold chM
  split
  · rfl
  · split
    · rw [va_up_ne _ _ h1]
    · rw [kst_s, upd_ne h2, va_up_ne _ _ h1]
theorem chM_4 {q a b n1 : Nat} {I : kI} (hp : I q 4 = nI n1) (hp2 : n1 ≤ 4) (h1 : q ≠ b) : ∃ n2, n2 ≤ 4 ∧ chM q a b I q 4 = nI n2 := by
  unfold chM
  split
  · exact ⟨n1, hp2, hp⟩
  · split
    · rw [va_up_ne _ _ h1]; exact ⟨n1, hp2, hp⟩
    · rename_i h9
      rw [kst_s, upd_s, hp, nI_1]
      refine ⟨n1 + 1, ?_, rfl⟩
      have := nx_ne (y := 4) (b := 4) h9 hp (by omega) rfl (by omega)
      omega
theorem pl_pos {tx : kV} {n : Nat} : ∀ (f p : Nat) (s : kV) (c : Nat) {p1 : Nat} {c1 : Int32} {t : kV} {c2 : Nat}, pl tx n f p s c = (some (p1, c1), t, c2) → p1 < n
  | 0, p, s, c, p1, c1, t, c2, h => by simp [pl] at h
  | f + 1, p, s, c, p1, c1, t, c2, h => by
    unfold pl at h
    split at h
    · rename_i hp
      split at h
      · cases h; exact hp
      · split at h
        · cases h; exact hp
        · exact pl_pos f _ _ _ h
    · cases h
def qFault (z : kF3) (w : Int32) : Int32 := if ¬ (0 ≤ w ∧ w ≤ 2) then -1000001 else match z.1 with
  | none => -1000004
  | some (p, c) => if w = 0 then nI p else if w = 1 then (if c = 0 then 1 else 2) else if c = 0 then -1000004 else c
def qPlay (z : kF3) : Int32 := match z.1 with
  | none => nI z.2.2
  | some _ => -1000002
def plR (q a b c f : Nat) (I : kI) (z : kF3) (I1 : kI) : Prop := match z with
  | (some _, _, _) => (∀ z, z ≠ q → z ≠ c → z ≠ f → I1 z = I z) ∧ (∀ k, k = 4 ∨ k = 7 → I1 q k = I q k) ∧ I1 q 5 = 0
  | (none, s2, _) => (∀ z, z ≠ q → z ≠ a → z ≠ b → z ≠ c → z ≠ f → I1 z = I z) ∧ I1 q 7 = I q 7 ∧ I1 q 5 = 0 ∧ I1 a = s2 ∧ ∃ J : kI, J a = I a ∧ J b = I b ∧ J q 4 = I q 4 ∧ J q 5 = 0 ∧ I1 b = chM q a b J b ∧ I1 q 4 = chM q a b J q 4
set_option maxHeartbeats 4000000 in
set_option maxRecDepth 100000 in
theorem c_Mod_fault {g : kG} {σ : kS} {I : kI} {q a b c d e f : Nat} (hO : sMod g σ q a b c d e f) {n1 : Nat} (hp : I q 4 = nI n1) (hp2 : n1 ≤ 4) {n0 : Nat} (hn : I q 7 = nI n0) (hn2 : n0 ≤ 60) {K : kV → Prop} (kc : kClosed K) (hK : K (I a)) (h5 : I q 5 = 0) {x : Int32} : ct g mX11_fault ⟨8, 0, 0, 172⟩ [.ref q, .int x] σ I (qEI σ (fun r I1 => r = qFault (pl (I e) n0 61 0 (I a) 0) x ∧ (∀ z, z ≠ q → z ≠ c → z ≠ f → I1 z = I z) ∧ (∀ k, k = 4 ∨ k = 7 → I1 q k = I q k) ∧ I1 q 5 = 0)) := by
  refine ct_of pn11 rfl (Nat.le_of_ble_eq_true rfl) ok_X11_fault.1 trivial ?_
  show wp _ _ _ _ _ _ _ _ 0 [some (.ref q), some (.int x), none] []
  have o0 := hO.2.2.2.2.2.2.2.2.2.2.2.2.2.2.2.2.2.2.2.2.1
  have o1 := hO.2.2.2.2.2.2.2.2.2.2.2.2.2.2.2.2.2.2.2.2.2.1
  have o2 := hO.2.2.2.2.2.2.2.2.2.2.2.2.2.2.2.2.2.2.2.2.2.2.1
  have o3 := hO.2.2.2.2.2.2.2.2.2.2.2.2.2.2.2.2.2.2.2.2.2.2.2.1
  have o4 := hO.2.2.2.2.2.2.2.2.2.2.2.2.2.2.2.2.2.2.2.2.2.2.2.2.1
  have o5 := hO.2.2.2.2.2.2.2.2.2.2.2.2.2.2.2.2.2.2.2.2.2.2.2.2.2
  refine w_iload_1 (pc := 0) dX11_fault_0 ?_
  refine w_iconst (pc := 1) (v := 0) dX11_fault_1 (by decide) ?_
  refine w_iconst (pc := 2) (v := 2) dX11_fault_2 (by decide) ?_
  refine w_callS_I (pc := 3) (c_Mod_in) ok_X11_in t811 t810 ⟨Nat.le_of_ble_eq_true rfl, Nat.le_of_ble_eq_true rfl⟩ ⟨rfl, rfl⟩ ⟨Nat.le_refl _, Nat.le_refl _⟩ rfl (Nat.le_of_ble_eq_true rfl) dX11_fault_3 ?_
  refine w_if_ne (pc := 6) (tgt := 12) dX11_fault_6 (by decide) (fun c6 => ?_) (fun c6 => ?_)
  · have ma : (va_up I c (va_cpy (I a) (I c) 0 0 149)) a = I a := va_up_ne _ _ (by omega)
    have me : (va_up I c (va_cpy (I a) (I c) 0 0 149)) e = I e := va_up_ne _ _ (by omega)
    have mq : (va_up I c (va_cpy (I a) (I c) 0 0 149)) q = I q := va_up_ne _ _ (by omega)
    have mz : ∀ z, z ≠ c → (va_up I c (va_cpy (I a) (I c) 0 0 149)) z = I z := fun z hz => va_up_ne _ _ hz
    have m7 : (va_up I c (va_cpy (I a) (I c) 0 0 149)) q 7 = nI n0 := by rw [mq]; exact hn
    have m4 : (va_up I c (va_cpy (I a) (I c) 0 0 149)) q 4 = nI n1 := by rw [mq]; exact hp
    have mK : K ((va_up I c (va_cpy (I a) (I c) 0 0 149)) a) := by rw [ma]; exact hK
    refine w_aload_0 (pc := 12) dX11_fault_12 ?_
    refine w_getR (pc := 13) (b := a) kc11 0 hO.1 hO.2.1 rfl hO.2.2.2.2.2.2.2.2.2.2.2.2.2.2.1 t763 dX11_fault_13 ?_
    refine w_aload_0 (pc := 16) dX11_fault_16 ?_
    refine w_getR (pc := 17) (b := c) kc11 2 hO.1 hO.2.1 rfl hO.2.2.2.2.2.2.2.2.2.2.2.2.2.2.2.2.1 t765 dX11_fault_17 ?_
    refine w_callS_V (pc := 20) (c_Mod_copies hO.2.2.1 hO.2.2.2.1 hO.2.2.2.2.2.2.1 hO.2.2.2.2.2.2.2.1 (by omega)) ok_X11_copies t966 t965 ⟨Nat.le_of_ble_eq_true rfl, Nat.le_of_ble_eq_true rfl⟩ ⟨rfl, rfl⟩ ⟨Nat.le_refl _, Nat.le_refl _⟩ rfl (Nat.le_of_ble_eq_true rfl) dX11_fault_20 ?_
    refine w_aload_0 (pc := 23) dX11_fault_23 ?_
    refine w_callV_EI (pc := 24) (c_Mod_plays hO m4 hp2 m7 hn2 kc mK) ok_X11_plays t994 t28 kc11 hO.1 hO.2.1 t992 ⟨Nat.le_of_ble_eq_true rfl, Nat.le_of_ble_eq_true rfl⟩ ⟨rfl, rfl⟩ ⟨Nat.le_refl _, Nat.le_refl _⟩ rfl (Nat.le_of_ble_eq_true rfl) dX11_fault_24 (fun r24 I24 h24 => ?_)
    obtain ⟨g1, g2, g5, g3, gp⟩ := h24
    rw [ma, me] at gp
    have kc9 : I24 c = va_cpy (I a) (I c) 0 0 149 := (g1 c (by omega) (by omega) (by omega)).trans (va_up_self _ _ _)
    have back : va_cpy (I24 c) (I24 a) 0 0 149 = I a := by
      funext k
      by_cases hk : k < 149
      · rw [cpy_in hk, kc9, cpy_in hk]
      · simp only [va_cpy]
        rw [if_neg (by omega), g3 k (by omega), ma]
    refine w_istore_2 (pc := 27) dX11_fault_27 rfl ?_
    refine w_aload_0 (pc := 28) dX11_fault_28 ?_
    refine w_getR (pc := 29) (b := c) kc11 2 hO.1 hO.2.1 rfl hO.2.2.2.2.2.2.2.2.2.2.2.2.2.2.2.2.1 t765 dX11_fault_29 ?_
    refine w_aload_0 (pc := 32) dX11_fault_32 ?_
    refine w_getR (pc := 33) (b := a) kc11 0 hO.1 hO.2.1 rfl hO.2.2.2.2.2.2.2.2.2.2.2.2.2.2.1 t763 dX11_fault_33 ?_
    refine w_callS_V (pc := 36) (c_Mod_copies hO.2.2.2.2.2.2.1 hO.2.2.2.2.2.2.2.1 hO.2.2.1 hO.2.2.2.1 (by omega)) ok_X11_copies t966 t965 ⟨Nat.le_of_ble_eq_true rfl, Nat.le_of_ble_eq_true rfl⟩ ⟨rfl, rfl⟩ ⟨Nat.le_refl _, Nat.le_refl _⟩ rfl (Nat.le_of_ble_eq_true rfl) dX11_fault_36 ?_
    have fr1 : ∀ z, z ≠ q → z ≠ c → z ≠ f → va_up I24 a (va_cpy (I24 c) (I24 a) 0 0 149) z = I z := fun z h1 h2 h3 => by
      rw [back]
      by_cases ha : z = a
      · subst ha; rw [va_up_self]
      · rw [va_up_ne _ _ ha, g1 z h1 ha h3, mz z h2]
    have fr2 : ∀ k, k = 4 ∨ k = 7 → va_up I24 a (va_cpy (I24 c) (I24 a) 0 0 149) q k = I q k := fun k hk => by rw [va_up_ne _ _ (show q ≠ a by omega), g2 k (by omega), mq]
    have fr5 : va_up I24 a (va_cpy (I24 c) (I24 a) 0 0 149) q 5 = 0 := by rw [va_up_ne _ _ (show q ≠ a by omega)]; exact g5
    have frc : va_up I24 a (va_cpy (I24 c) (I24 a) 0 0 149) q 10 = I24 q 10 := by rw [va_up_ne _ _ (show q ≠ a by omega)]
    have nnf : ∀ p : Nat, p < 2 ^ 31 → ¬ nI p = -1000004 := fun p hp h => absurd (h ▸ nI_pos' hp : (0 : Int32) ≤ -1000004) (by decide)
    have plf : ∀ p c s n, (pl (I e) n0 61 0 (I a) 0) = (some (p, c), s, n) → p < n0 := fun p c s n h => pl_pos 61 0 (I a) 0 h
    obtain ⟨⟨fo, s2, c2⟩, hPL⟩ : ∃ z, z = (pl (I e) n0 61 0 (I a) 0) := ⟨_, rfl⟩
    rw [← hPL] at gp
    refine w_iload_2 (pc := 39) dX11_fault_39 ?_
    refine w_ldc (pc := 40) (v := -1000004) t762 dX11_fault_40 ?_
    refine w_icmp_eq (pc := 42) (tgt := 49) dX11_fault_42 (by decide) (fun c42 => ?_) (fun c42 => ?_)
    · have hfo : fo = none := by
        cases fo with
        | none => rfl
        | some z => obtain ⟨p, cs⟩ := z; exact absurd (gp.1.symm.trans c42) (nnf p (by have := plf p cs s2 c2 hPL.symm; omega))
      subst hfo
      refine w_iload_2 (pc := 49) dX11_fault_49 ?_
      refine w_goto (pc := 50) (tgt := 89) dX11_fault_50 (by decide) ?_
      refine w_iret (pc := 89) rfl ⟨Nat.le_refl _, Nat.le_refl _⟩ dX11_fault_89 ?_
      exact ⟨_, rfl, rfl, by rw [← hPL, qFault, if_neg (fun h => h (b1 c6))]; exact gp.1, fr1, fr2, fr5⟩
    · obtain ⟨p, cs, hfo⟩ : ∃ p cs, fo = some (p, cs) := by
        cases fo with
        | none => exact absurd gp.1 c42
        | some z => exact ⟨z.1, z.2, rfl⟩
      subst hfo
      obtain ⟨gr, -, -, g10⟩ := gp
      refine w_iload_1 (pc := 45) dX11_fault_45 ?_
      refine w_if_ne (pc := 46) (tgt := 53) dX11_fault_46 (by decide) (fun c46 => ?_) (fun c46 => ?_)
      · refine w_iload_1 (pc := 53) dX11_fault_53 ?_
        refine w_iconst (pc := 54) (v := 1) dX11_fault_54 (by decide) ?_
        refine w_icmp_ne (pc := 55) (tgt := 73) dX11_fault_55 (by decide) (fun c55 => ?_) (fun c55 => ?_)
        · refine w_aload_0 (pc := 73) dX11_fault_73 ?_
          refine w_getI (pc := 74) kc11 10 hO.1 hO.2.1 rfl t773 dX11_fault_74 ?_
          refine w_if_ne (pc := 77) (tgt := 85) dX11_fault_77 (by decide) (fun c77 => ?_) (fun c77 => ?_)
          · refine w_aload_0 (pc := 85) dX11_fault_85 ?_
            refine w_getI (pc := 86) kc11 10 hO.1 hO.2.1 rfl t773 dX11_fault_86 ?_
            refine w_iret (pc := 89) rfl ⟨Nat.le_refl _, Nat.le_refl _⟩ dX11_fault_89 ?_
            rw [frc, g10] at c77
            rw [frc, g10]
            exact ⟨_, rfl, rfl, by rw [← hPL, qFault, if_neg (fun h => h (b1 c6))]; show _ = (if x = 0 then nI p else if x = 1 then _ else if cs = 0 then -1000004 else cs); rw [if_neg c46, if_neg c55, if_neg c77], fr1, fr2, fr5⟩
          · refine w_ldc (pc := 80) (v := -1000004) t762 dX11_fault_80 ?_
            refine w_goto (pc := 82) (tgt := 89) dX11_fault_82 (by decide) ?_
            refine w_iret (pc := 89) rfl ⟨Nat.le_refl _, Nat.le_refl _⟩ dX11_fault_89 ?_
            rw [frc, g10] at c77
            exact ⟨_, rfl, rfl, by rw [← hPL, qFault, if_neg (fun h => h (b1 c6))]; show _ = (if x = 0 then nI p else if x = 1 then _ else if cs = 0 then -1000004 else cs); rw [if_neg c46, if_neg c55, if_pos c77], fr1, fr2, fr5⟩
        · refine w_aload_0 (pc := 58) dX11_fault_58 ?_
          refine w_getI (pc := 59) kc11 10 hO.1 hO.2.1 rfl t773 dX11_fault_59 ?_
          refine w_if_ne (pc := 62) (tgt := 69) dX11_fault_62 (by decide) (fun c62 => ?_) (fun c62 => ?_)
          · refine w_iconst (pc := 69) (v := 2) dX11_fault_69 (by decide) ?_
            refine w_goto (pc := 70) (tgt := 89) dX11_fault_70 (by decide) ?_
            refine w_iret (pc := 89) rfl ⟨Nat.le_refl _, Nat.le_refl _⟩ dX11_fault_89 ?_
            rw [frc, g10] at c62
            exact ⟨_, rfl, rfl, by rw [← hPL, qFault, if_neg (fun h => h (b1 c6))]; show _ = (if x = 0 then nI p else if x = 1 then (if cs = 0 then 1 else 2) else _); rw [if_neg c46, if_pos c55, if_neg c62], fr1, fr2, fr5⟩
          · refine w_iconst (pc := 65) (v := 1) dX11_fault_65 (by decide) ?_
            refine w_goto (pc := 66) (tgt := 89) dX11_fault_66 (by decide) ?_
            refine w_iret (pc := 89) rfl ⟨Nat.le_refl _, Nat.le_refl _⟩ dX11_fault_89 ?_
            rw [frc, g10] at c62
            exact ⟨_, rfl, rfl, by rw [← hPL, qFault, if_neg (fun h => h (b1 c6))]; show _ = (if x = 0 then nI p else if x = 1 then (if cs = 0 then 1 else 2) else _); rw [if_neg c46, if_pos c55, if_pos c62], fr1, fr2, fr5⟩
      · refine w_iload_2 (pc := 49) dX11_fault_49 ?_
        refine w_goto (pc := 50) (tgt := 89) dX11_fault_50 (by decide) ?_
        refine w_iret (pc := 89) rfl ⟨Nat.le_refl _, Nat.le_refl _⟩ dX11_fault_89 ?_
        exact ⟨_, rfl, rfl, by rw [← hPL, qFault, if_neg (fun h => h (b1 c6))]; show _ = (if x = 0 then nI p else _); rw [if_pos c46]; exact gr, fr1, fr2, fr5⟩
  · refine w_ldc (pc := 9) (v := -1000001) t813 dX11_fault_9 ?_
    refine w_iret (pc := 11) rfl ⟨Nat.le_refl _, Nat.le_refl _⟩ dX11_fault_11 ?_
    exact ⟨_, rfl, rfl, by rw [qFault, if_pos (b0 c6)], fun _ _ _ _ => rfl, fun _ _ => rfl, h5⟩
set_option maxHeartbeats 4000000 in
set_option maxRecDepth 100000 in
theorem c_Mod_play {g : kG} {σ : kS} {I : kI} {q a b c d e f : Nat} (hO : sMod g σ q a b c d e f) {n1 : Nat} (hp : I q 4 = nI n1) (hp2 : n1 ≤ 4) {n0 : Nat} (hn : I q 7 = nI n0) (hn2 : n0 ≤ 60) {K : kV → Prop} (kc : kClosed K) (hK : K (I a)) (h5 : I q 5 = 0) : ct g mX11_play ⟨8, 0, 0, 172⟩ [.ref q] σ I (qEI σ (fun r I1 => r = qPlay (pl (I e) n0 61 0 (I a) 0) ∧ plR q a b c f I (pl (I e) n0 61 0 (I a) 0) I1)) := by
  refine ct_of pn11 rfl (Nat.le_of_ble_eq_true rfl) ok_X11_play.1 trivial ?_
  show wp _ _ _ _ _ _ _ _ 0 [some (.ref q), none] []
  have o0 := hO.2.2.2.2.2.2.2.2.2.2.2.2.2.2.2.2.2.2.2.2.1
  have o1 := hO.2.2.2.2.2.2.2.2.2.2.2.2.2.2.2.2.2.2.2.2.2.1
  have o2 := hO.2.2.2.2.2.2.2.2.2.2.2.2.2.2.2.2.2.2.2.2.2.2.1
  have o3 := hO.2.2.2.2.2.2.2.2.2.2.2.2.2.2.2.2.2.2.2.2.2.2.2.1
  have o4 := hO.2.2.2.2.2.2.2.2.2.2.2.2.2.2.2.2.2.2.2.2.2.2.2.2.1
  have o5 := hO.2.2.2.2.2.2.2.2.2.2.2.2.2.2.2.2.2.2.2.2.2.2.2.2.2
  have ma : (va_up I c (va_cpy (I a) (I c) 0 0 149)) a = I a := va_up_ne _ _ (by omega)
  have me : (va_up I c (va_cpy (I a) (I c) 0 0 149)) e = I e := va_up_ne _ _ (by omega)
  have mq : (va_up I c (va_cpy (I a) (I c) 0 0 149)) q = I q := va_up_ne _ _ (by omega)
  have mz : ∀ z, z ≠ c → (va_up I c (va_cpy (I a) (I c) 0 0 149)) z = I z := fun z hz => va_up_ne _ _ hz
  have m7 : (va_up I c (va_cpy (I a) (I c) 0 0 149)) q 7 = nI n0 := by rw [mq]; exact hn
  have m4 : (va_up I c (va_cpy (I a) (I c) 0 0 149)) q 4 = nI n1 := by rw [mq]; exact hp
  have mK : K ((va_up I c (va_cpy (I a) (I c) 0 0 149)) a) := by rw [ma]; exact hK
  refine w_aload_0 (pc := 0) dX11_play_0 ?_
  refine w_getR (pc := 1) (b := a) kc11 0 hO.1 hO.2.1 rfl hO.2.2.2.2.2.2.2.2.2.2.2.2.2.2.1 t763 dX11_play_1 ?_
  refine w_aload_0 (pc := 4) dX11_play_4 ?_
  refine w_getR (pc := 5) (b := c) kc11 2 hO.1 hO.2.1 rfl hO.2.2.2.2.2.2.2.2.2.2.2.2.2.2.2.2.1 t765 dX11_play_5 ?_
  refine w_callS_V (pc := 8) (c_Mod_copies hO.2.2.1 hO.2.2.2.1 hO.2.2.2.2.2.2.1 hO.2.2.2.2.2.2.2.1 (by omega)) ok_X11_copies t966 t965 ⟨Nat.le_of_ble_eq_true rfl, Nat.le_of_ble_eq_true rfl⟩ ⟨rfl, rfl⟩ ⟨Nat.le_refl _, Nat.le_refl _⟩ rfl (Nat.le_of_ble_eq_true rfl) dX11_play_8 ?_
  refine w_aload_0 (pc := 11) dX11_play_11 ?_
  refine w_callV_EI (pc := 12) (c_Mod_plays hO m4 hp2 m7 hn2 kc mK) ok_X11_plays t994 t28 kc11 hO.1 hO.2.1 t992 ⟨Nat.le_of_ble_eq_true rfl, Nat.le_of_ble_eq_true rfl⟩ ⟨rfl, rfl⟩ ⟨Nat.le_refl _, Nat.le_refl _⟩ rfl (Nat.le_of_ble_eq_true rfl) dX11_play_12 (fun r12 I12 h12 => ?_)
  obtain ⟨g1, g2, g5, g3, gp⟩ := h12
  rw [ma, me] at gp
  have kc9 : I12 c = va_cpy (I a) (I c) 0 0 149 := (g1 c (by omega) (by omega) (by omega)).trans (va_up_self _ _ _)
  have back : va_cpy (I12 c) (I12 a) 0 0 149 = I a := by
    funext k
    by_cases hk : k < 149
    · rw [cpy_in hk, kc9, cpy_in hk]
    · simp only [va_cpy]
      rw [if_neg (by omega), g3 k (by omega), ma]
  refine w_istore_1 (pc := 15) dX11_play_15 rfl ?_
  refine w_aload_0 (pc := 16) dX11_play_16 ?_
  refine w_getR (pc := 17) (b := c) kc11 2 hO.1 hO.2.1 rfl hO.2.2.2.2.2.2.2.2.2.2.2.2.2.2.2.2.1 t765 dX11_play_17 ?_
  refine w_aload_0 (pc := 20) dX11_play_20 ?_
  refine w_getR (pc := 21) (b := a) kc11 0 hO.1 hO.2.1 rfl hO.2.2.2.2.2.2.2.2.2.2.2.2.2.2.1 t763 dX11_play_21 ?_
  refine w_callS_V (pc := 24) (c_Mod_copies hO.2.2.2.2.2.2.1 hO.2.2.2.2.2.2.2.1 hO.2.2.1 hO.2.2.2.1 (by omega)) ok_X11_copies t966 t965 ⟨Nat.le_of_ble_eq_true rfl, Nat.le_of_ble_eq_true rfl⟩ ⟨rfl, rfl⟩ ⟨Nat.le_refl _, Nat.le_refl _⟩ rfl (Nat.le_of_ble_eq_true rfl) dX11_play_24 ?_
  have fr1 : ∀ z, z ≠ q → z ≠ c → z ≠ f → va_up I12 a (va_cpy (I12 c) (I12 a) 0 0 149) z = I z := fun z h1 h2 h3 => by
    rw [back]
    by_cases ha : z = a
    · subst ha; rw [va_up_self]
    · rw [va_up_ne _ _ ha, g1 z h1 ha h3, mz z h2]
  have fr2 : ∀ k, k = 4 ∨ k = 7 → va_up I12 a (va_cpy (I12 c) (I12 a) 0 0 149) q k = I q k := fun k hk => by rw [va_up_ne _ _ (show q ≠ a by omega), g2 k (by omega), mq]
  have fr5 : va_up I12 a (va_cpy (I12 c) (I12 a) 0 0 149) q 5 = 0 := by rw [va_up_ne _ _ (show q ≠ a by omega)]; exact g5
  have frc : va_up I12 a (va_cpy (I12 c) (I12 a) 0 0 149) q 10 = I12 q 10 := by rw [va_up_ne _ _ (show q ≠ a by omega)]
  have nnf : ∀ p : Nat, p < 2 ^ 31 → ¬ nI p = -1000004 := fun p hp h => absurd (h ▸ nI_pos' hp : (0 : Int32) ≤ -1000004) (by decide)
  have plf : ∀ p c s n, (pl (I e) n0 61 0 (I a) 0) = (some (p, c), s, n) → p < n0 := fun p c s n h => pl_pos 61 0 (I a) 0 h
  obtain ⟨⟨fo, s2, c2⟩, hPL⟩ : ∃ z, z = (pl (I e) n0 61 0 (I a) 0) := ⟨_, rfl⟩
  rw [← hPL] at gp
  rw [← hPL]
  refine w_iload_1 (pc := 27) dX11_play_27 ?_
  refine w_ldc (pc := 28) (v := -1000004) t762 dX11_play_28 ?_
  refine w_icmp_eq (pc := 30) (tgt := 36) dX11_play_30 (by decide) (fun c30 => ?_) (fun c30 => ?_)
  · have hfo : fo = none := by
      cases fo with
      | none => rfl
      | some z => obtain ⟨p, cs⟩ := z; exact absurd (gp.1.symm.trans c30) (nnf p (by have := plf p cs s2 c2 hPL.symm; omega))
    subst hfo
    obtain ⟨J, hJ⟩ : ∃ J, J = va_up I12 a (va_cpy (I12 c) (I12 a) 0 0 149) := ⟨_, rfl⟩
    rw [← hJ] at fr1 fr2 fr5 ⊢
    have ja : J a = I a := fr1 a (by omega) (by omega) (by omega)
    have jb : J b = I b := fr1 b (by omega) (by omega) (by omega)
    have je : J e = I e := fr1 e (by omega) (by omega) (by omega)
    have j4 : J q 4 = nI n1 := by rw [fr2 4 (by omega)]; exact hp
    have hcA : chM q a b J a = I a := (chM_a (by omega) (by omega)).trans ja
    have hcE : chM q a b J e = I e := (chM_o (by omega) (by omega)).trans je
    have hcQ : ∀ k, k ≠ 4 → chM q a b J q k = J q k := fun k hk => chM_q (by omega) hk
    have hc4 : ∃ n2, n2 ≤ 4 ∧ chM q a b J q 4 = nI n2 := chM_4 j4 hp2 (by omega)
    obtain ⟨n2, hn2l, hc4⟩ := hc4
    have hc7 : chM q a b J q 7 = nI n0 := by rw [hcQ 7 (by omega), fr2 7 (by omega)]; exact hn
    have hcK : K (chM q a b J a) := by rw [hcA]; exact hK
    refine w_aload_0 (pc := 36) dX11_play_36 ?_
    refine w_callV_V (pc := 37) (c_Mod_changes hO j4 hp2) ok_X11_changes t817 t9 kc11 hO.1 hO.2.1 t815 ⟨Nat.le_of_ble_eq_true rfl, Nat.le_of_ble_eq_true rfl⟩ ⟨rfl, rfl⟩ ⟨Nat.le_refl _, Nat.le_refl _⟩ rfl (Nat.le_of_ble_eq_true rfl) dX11_play_37 ?_
    refine w_aload_0 (pc := 40) dX11_play_40 ?_
    refine w_callV_EI (pc := 41) (c_Mod_plays hO hc4 hn2l hc7 hn2 kc hcK) ok_X11_plays t994 t28 kc11 hO.1 hO.2.1 t992 ⟨Nat.le_of_ble_eq_true rfl, Nat.le_of_ble_eq_true rfl⟩ ⟨rfl, rfl⟩ ⟨Nat.le_refl _, Nat.le_refl _⟩ rfl (Nat.le_of_ble_eq_true rfl) dX11_play_41 (fun r41 I41 h41 => ?_)
    obtain ⟨k1, k2, k5, k3, ki⟩ := h41
    rw [hcA, hcE, ← hPL] at ki
    refine w_ldc (pc := 44) (v := -1000004) t762 dX11_play_44 ?_
    refine w_icmp_ne (pc := 46) (tgt := 56) dX11_play_46 (by decide) (fun c46 => ?_) (fun c46 => ?_)
    · exact absurd ki.1 c46
    · refine w_aload_0 (pc := 49) dX11_play_49 ?_
      refine w_getI (pc := 50) kc11 11 hO.1 hO.2.1 rfl t774 dX11_play_50 ?_
      refine w_goto (pc := 53) (tgt := 58) dX11_play_53 (by decide) ?_
      refine w_iret (pc := 58) rfl ⟨Nat.le_refl _, Nat.le_refl _⟩ dX11_play_58 ?_
      refine ⟨_, rfl, rfl, ki.2.2, fun z h1 h2 h3 h4 h5 => ?_, ?_, k5, ki.2.1, J, ja, jb, fr2 4 (by omega), fr5, ?_, ?_⟩
      · rw [k1 z h1 h2 h5, chM_o h3 h1]; exact fr1 z h1 h4 h5
      · rw [k2 7 (by omega), hcQ 7 (by omega), fr2 7 (by omega)]
      · exact k1 b (by omega) (by omega) (by omega)
      · exact k2 4 (by omega)
  · obtain ⟨p, cs, hfo⟩ : ∃ p cs, fo = some (p, cs) := by
      cases fo with
      | none => exact absurd gp.1 c30
      | some z => exact ⟨z.1, z.2, rfl⟩
    subst hfo
    refine w_ldc (pc := 33) (v := -1000002) t831 dX11_play_33 ?_
    refine w_iret (pc := 35) rfl ⟨Nat.le_refl _, Nat.le_refl _⟩ dX11_play_35 ?_
    exact ⟨_, rfl, rfl, rfl, fr1, fr2, fr5⟩
