def kv0 : kV := upd (upd (upd (upd (upd (upd (upd kZ 0 50) 7 1000) 14 1) 129 (-1000004)) 18 120) 19 20) 20 1
theorem kv0_z {k : Nat} (h : k ≠ 0 ∧ k ≠ 7 ∧ k ≠ 14 ∧ k ≠ 129 ∧ k ≠ 18 ∧ k ≠ 19 ∧ k ≠ 20) : kv0 k = 0 := by
  obtain ⟨h1, h2, h3, h4, h5, h6, h7⟩ := h
  simp [kv0, upd, h1, h2, h3, h4, h5, h6, h7]
theorem kv0_L : nLo kv0 = 0 := by decide
theorem kv0_B : nB kv0 = 0 := by decide
theorem kv0_A : nAc kv0 = 1 := by decide
theorem SX_0 : SX kv0 := by
  refine ⟨⟨0, by omega, by decide, fun k hk => absurd hk (by omega)⟩, ⟨0, by omega, by decide⟩, ⟨1, by omega, by omega, by decide, fun a h1 h2 => absurd h2 (by omega), fun κ hκ => ⟨0, by omega, ?_⟩⟩, by decide⟩
  rw [kv0_z (by omega)]; rfl
theorem KI_0 : KI kv0 := by
  refine ⟨SX_0, ⟨Or.inl (by decide), Or.inl (by decide), fun h => absurd h (by decide)⟩, by decide, by decide, ⟨fun k hk => ?_, by decide, by decide +kernel, fun k hk => ?_, fun b hb => ?_⟩, by decide, by decide, by decide, by decide, by decide⟩
  · rw [kv0_z (by omega), ti_0]; omega
  · rw [kv0_L] at hk; exact absurd hk (by omega)
  · rw [kv0_B] at hb; exact absurd hb (by omega)
theorem PR_0 {J : kI} {p : Nat} (h0 : J p = upd kZ 6 50) (h1 : J (p + 1) = kZ) (h4 : J (p + 4) = kZ) (h5 : J (p + 5) = kZ) (h6 : J (p + 6) = kZ) (h7 : J (p + 7) = kZ) (h8 : J (p + 8) = kZ) (h9 : J (p + 9) = kZ) (h10 : J (p + 10) = upd kZ 4 1000) (h11 : J (p + 11) = upd kZ 3 1) (h13 : J (p + 13) = kZ) (h14 : J (p + 14) = kZ) (h15 : ∀ k, k < 3 → J (p + 15) k = kSv 0 k) : PR J p kv0 := by
  refine ⟨⟨by rw [h1]; decide, by rw [h1]; decide, fun k hk => ?_⟩, ⟨0, by omega, by rw [h4]; rfl, fun π κ hπ hκ => ?_, by rw [h4]; decide +kernel⟩, ⟨by rw [h6]; decide, fun b κ hb hκ => ?_, fun b hb => ?_, fun b hb => ?_⟩, ⟨by rw [h10]; decide, by rw [h10]; decide, by rw [h10]; decide, by rw [h10]; decide, by rw [h10]; decide⟩, ⟨by rw [h11]; decide, fun a x1 x2 => ?_, fun a ha => ?_, fun κ hκ => ?_⟩, fun k hk => ?_, ?_⟩
  · rw [kv0_L] at hk; exact absurd hk (by omega)
  · rw [h5, kv0_z (by omega)]
  · rw [h7, kv0_B, if_neg (by omega)]
  · rw [h8, kv0_B, if_neg (by omega)]
  · rw [h9, kv0_B, if_neg (by omega)]
  · rw [kv0_A] at x2; exact absurd x2 (by omega)
  · rw [h13, kv0_z (by omega)]; simp
  · rw [h14, kv0_z (by omega)]
  · rw [h15 k hk]
    rcases (show k = 0 ∨ k = 1 ∨ k = 2 by omega) with rfl | rfl | rfl <;> decide
  · rw [PRp, h0]
    exact ⟨by decide, by decide, by decide, fun h => absurd h (by decide), fun _ => by decide, fun h => absurd h (by decide), by decide, by decide, by decide, by decide⟩
theorem sP_ext {g : kG} {σ σ' : kS} {p : Nat} (h : sPlant g σ p) (h1 : σ.1 ≤ σ'.1) (e : ∀ a, p ≤ a → a < p + 16 → σ'.2.1 a = σ.2.1 a ∧ σ'.2.2 a = σ.2.2 a) : sPlant g σ' p := by
  have hh := h
  have s0 := (e p (by omega) (by omega)).1
  have s1 := (e (p + 1) (by omega) (by omega)).1
  have s2 := (e (p + 2) (by omega) (by omega)).1
  have s3 := (e (p + 3) (by omega) (by omega)).1
  have s4 := (e (p + 4) (by omega) (by omega)).1
  have s5 := (e (p + 5) (by omega) (by omega)).1
  have s6 := (e (p + 6) (by omega) (by omega)).1
  have s7 := (e (p + 7) (by omega) (by omega)).1
  have s8 := (e (p + 8) (by omega) (by omega)).1
  have s9 := (e (p + 9) (by omega) (by omega)).1
  have s10 := (e (p + 10) (by omega) (by omega)).1
  have s11 := (e (p + 11) (by omega) (by omega)).1
  have s12 := (e (p + 12) (by omega) (by omega)).1
  have s13 := (e (p + 13) (by omega) (by omega)).1
  have s14 := (e (p + 14) (by omega) (by omega)).1
  have s15 := (e (p + 15) (by omega) (by omega)).1
  have g0 := (e p (by omega) (by omega)).2
  have g1 := (e (p + 1) (by omega) (by omega)).2
  have g4 := (e (p + 4) (by omega) (by omega)).2
  have g6 := (e (p + 6) (by omega) (by omega)).2
  have g11 := (e (p + 11) (by omega) (by omega)).2
  unfold sPlant at h ⊢
  simp only [s0, s1, s2, s3, s4, s5, s6, s7, s8, s9, s10, s11, s12, s13, s14, s15, g0, g1, g4, g6, g11]
  exact ⟨⟨h.1.1, Nat.le_trans h.1.2 h1⟩, h.2⟩
set_option maxHeartbeats 4000000 in
set_option maxRecDepth 100000 in
theorem c_Plant_init {g : kG} {p : Nat} {sh : Nat → Nat × Nat} {G : Nat → Nat → Option Nat} {I : kI} (hb : kB g ≤ p) (hs : sh p = (6, 0)) (hz : I p = kZ) : ct g mX6_init ⟨2, 15, 151, 47⟩ [.ref p] (p + 1, sh, G) I (qC (fun σ1 I1 => σ1.1 = p + 16 ∧ sPlant g σ1 p ∧ PR I1 p kv0 ∧ (∀ a, a < p → σ1.2.1 a = sh a ∧ σ1.2.2 a = G a ∧ I1 a = I a))) := by
  refine ct_of pn6 rfl (Nat.le_of_ble_eq_true rfl) ok_X6_init.1 trivial ?_
  show wp _ _ _ _ _ _ _ _ 0 [some (.ref p)] []
  refine w_aload_0 (pc := 0) dX6_init_0 ?_
  refine w_objInit (pc := 1) t33 t26 t27 ⟨Nat.le_of_ble_eq_true rfl, Nat.le_of_ble_eq_true rfl⟩ dX6_init_1 ?_
  refine w_aload_0 (pc := 4) dX6_init_4 ?_
  refine w_new (pc := 5) (N := (p + 1)) kc5 rfl t34 t35 t9 ⟨Nat.le_of_ble_eq_true rfl, Nat.le_of_ble_eq_true rfl⟩ dX6_init_5 ?_
  refine w_dup_a (pc := 8) dX6_init_8 ?_
  refine w_callIN_C (pc := 9) (as := []) (c_Hop_init (b := (p + 1)) (N := (p + 2)) (by have := hb; (try dsimp only); omega) (by simp [va_up, Nat.add_assoc])) rfl ok_X5_init rfl t37 n36 ⟨⟨Nat.le_of_ble_eq_true rfl, Nat.le_of_ble_eq_true rfl⟩, Nat.le_of_ble_eq_true rfl, Nat.le_of_ble_eq_true rfl⟩ rfl (Nat.le_of_ble_eq_true rfl) dX6_init_9 (fun N9 S9 G9 I9 h9 => ?_)
  obtain ⟨q9, rfl⟩ := h9
  cases q9
  refine w_putFR (pc := 12) (x := some ((p + 1))) kc6 0 (by have := hb; (try dsimp only); omega) (by first | exact hs | (dsimp only; (repeat rw [va_up_ne _ _ (by omega)]); exact hs)) rfl t167 rfl rfl rfl (tyX6_ok 0 (by decide)) rfl rfl dX6_init_12 ?_
  refine w_aload_0 (pc := 15) dX6_init_15 ?_
  refine w_new (pc := 16) (N := (p + 4)) kc1 rfl t61 t62 t10 ⟨Nat.le_of_ble_eq_true rfl, Nat.le_of_ble_eq_true rfl⟩ dX6_init_16 ?_
  refine w_dup_a (pc := 19) dX6_init_19 ?_
  refine w_callIN_C (pc := 20) (as := []) (c_Belt_init (b := (p + 4)) (N := (p + 5)) (by have := hb; (try dsimp only); omega) (by simp [va_up, Nat.add_assoc])) rfl ok_X1_init rfl t64 n63 ⟨⟨Nat.le_of_ble_eq_true rfl, Nat.le_of_ble_eq_true rfl⟩, Nat.le_of_ble_eq_true rfl, Nat.le_of_ble_eq_true rfl⟩ rfl (Nat.le_of_ble_eq_true rfl) dX6_init_20 (fun N20 S20 G20 I20 h20 => ?_)
  obtain ⟨q20, rfl⟩ := h20
  cases q20
  refine w_putFR (pc := 23) (x := some ((p + 4))) kc6 1 (by have := hb; (try dsimp only); omega) (by first | exact hs | (dsimp only; (repeat rw [va_up_ne _ _ (by omega)]); exact hs)) rfl t169 rfl rfl rfl (tyX6_ok 1 (by decide)) rfl rfl dX6_init_23 ?_
  refine w_aload_0 (pc := 26) dX6_init_26 ?_
  refine w_new (pc := 27) (N := (p + 6)) kc2 rfl t79 t80 t11 ⟨Nat.le_of_ble_eq_true rfl, Nat.le_of_ble_eq_true rfl⟩ dX6_init_27 ?_
  refine w_dup_a (pc := 30) dX6_init_30 ?_
  refine w_callIN_C (pc := 31) (as := []) (c_Bins_init (b := (p + 6)) (N := (p + 7)) (by have := hb; (try dsimp only); omega) (by simp [va_up, Nat.add_assoc])) rfl ok_X2_init rfl t82 n81 ⟨⟨Nat.le_of_ble_eq_true rfl, Nat.le_of_ble_eq_true rfl⟩, Nat.le_of_ble_eq_true rfl, Nat.le_of_ble_eq_true rfl⟩ rfl (Nat.le_of_ble_eq_true rfl) dX6_init_31 (fun N31 S31 G31 I31 h31 => ?_)
  obtain ⟨q31, rfl⟩ := h31
  cases q31
  refine w_putFR (pc := 34) (x := some ((p + 6))) kc6 2 (by have := hb; (try dsimp only); omega) (by first | exact hs | (dsimp only; (repeat rw [va_up_ne _ _ (by omega)]); exact hs)) rfl t171 rfl rfl rfl (tyX6_ok 2 (by decide)) rfl rfl dX6_init_34 ?_
  refine w_aload_0 (pc := 37) dX6_init_37 ?_
  refine w_new (pc := 38) (N := (p + 10)) kc8 rfl t104 t105 t12 ⟨Nat.le_of_ble_eq_true rfl, Nat.le_of_ble_eq_true rfl⟩ dX6_init_38 ?_
  refine w_dup_a (pc := 41) dX6_init_41 ?_
  refine w_callIN_C (pc := 42) (as := []) (c_Scale_init (b := (p + 10)) (N := (p + 11)) (by have := hb; (try dsimp only); omega) (by simp [va_up, Nat.add_assoc])) rfl ok_X8_init rfl t107 n106 ⟨⟨Nat.le_of_ble_eq_true rfl, Nat.le_of_ble_eq_true rfl⟩, Nat.le_of_ble_eq_true rfl, Nat.le_of_ble_eq_true rfl⟩ rfl (Nat.le_of_ble_eq_true rfl) dX6_init_42 (fun N42 S42 G42 I42 h42 => ?_)
  obtain ⟨q42, rfl⟩ := h42
  cases q42
  refine w_putFR (pc := 45) (x := some ((p + 10))) kc6 3 (by have := hb; (try dsimp only); omega) (by first | exact hs | (dsimp only; (repeat rw [va_up_ne _ _ (by omega)]); exact hs)) rfl t173 rfl rfl rfl (tyX6_ok 3 (by decide)) rfl rfl dX6_init_45 ?_
  refine w_aload_0 (pc := 48) dX6_init_48 ?_
  refine w_new (pc := 49) (N := (p + 11)) kc0 rfl t133 t134 t13 ⟨Nat.le_of_ble_eq_true rfl, Nat.le_of_ble_eq_true rfl⟩ dX6_init_49 ?_
  refine w_dup_a (pc := 52) dX6_init_52 ?_
  refine w_callIN_C (pc := 53) (as := []) (c_Acc_init (b := (p + 11)) (N := (p + 12)) (by have := hb; (try dsimp only); omega) (by simp [va_up, Nat.add_assoc])) rfl ok_X0_init rfl t136 n135 ⟨⟨Nat.le_of_ble_eq_true rfl, Nat.le_of_ble_eq_true rfl⟩, Nat.le_of_ble_eq_true rfl, Nat.le_of_ble_eq_true rfl⟩ rfl (Nat.le_of_ble_eq_true rfl) dX6_init_53 (fun N53 S53 G53 I53 h53 => ?_)
  obtain ⟨q53, rfl⟩ := h53
  cases q53
  refine w_putFR (pc := 56) (x := some ((p + 11))) kc6 4 (by have := hb; (try dsimp only); omega) (by first | exact hs | (dsimp only; (repeat rw [va_up_ne _ _ (by omega)]); exact hs)) rfl t175 rfl rfl rfl (tyX6_ok 4 (by decide)) rfl rfl dX6_init_56 ?_
  refine w_aload_0 (pc := 59) dX6_init_59 ?_
  refine w_iconst (pc := 60) (v := 3) dX6_init_60 (by decide) ?_
  refine w_newai (pc := 61) (N := (p + 15)) (k := 3) rfl (by decide) t60 ⟨Nat.le_of_ble_eq_true rfl, Nat.le_of_ble_eq_true rfl⟩ dX6_init_61 ?_
  refine w_putFR (pc := 63) (x := some ((p + 15))) kc6 5 (by have := hb; (try dsimp only); omega) (by first | exact hs | (dsimp only; (repeat rw [va_up_ne _ _ (by omega)]); exact hs)) rfl t177 rfl rfl rfl (tyX6_ok 5 (by decide)) rfl rfl dX6_init_63 ?_
  refine w_aload_0 (pc := 66) dX6_init_66 ?_
  refine w_bipush (pc := 67) (v := 50) dX6_init_67 (by decide) ?_
  refine w_putI (pc := 69) kc6 6 (by have := hb; (try dsimp only); omega) (by first | exact hs | (dsimp only; (repeat rw [va_up_ne _ _ (by omega)]); exact hs)) rfl t179 rfl (tyX6_ok 6 (by decide)) rfl rfl dX6_init_69 ?_
  refine w_aload_0 (pc := 72) dX6_init_72 ?_
  refine w_getR (pc := 73) (b := (p + 15)) kc6 5 (by have := hb; (try dsimp only); omega) (by first | exact hs | (dsimp only; (repeat rw [va_up_ne _ _ (by omega)]); exact hs)) rfl (by simp [kgst, va_up]) t177 dX6_init_73 ?_
  refine w_getstatic (pc := 76) (j := 0) (by decide) n156 dX6_init_76 ?_
  refine w_callN_V (pc := 79) (c_copyIntoS (j := 0) (by decide) (by have := hb; (try dsimp only); omega) (by simp [va_up, Nat.add_assoc])) ok_X10_copyInto t159 n158 ⟨Nat.le_of_ble_eq_true rfl, Nat.le_of_ble_eq_true rfl⟩ ⟨rfl, rfl⟩ ⟨Nat.le_refl _, Nat.le_refl _⟩ rfl (Nat.le_of_ble_eq_true rfl) dX6_init_79 ?_
  refine w_vret (pc := 82) rfl ⟨Nat.le_refl _, Nat.le_refl _⟩ dX6_init_82 ?_
  refine ⟨rfl, rfl, ?_, ?_, ?_⟩
  · unfold sPlant
    refine ⟨⟨hb, by dsimp only; omega⟩, ?_, ?_, ?_, ?_, ?_, ?_, ?_, ?_, ?_, ?_, ?_, ?_, ?_, ?_, ?_, ?_, ?_, ?_, ?_, ?_, ?_, ?_, ?_, ?_, ?_, ?_, ?_, ?_, ?_, ?_, ?_⟩
    all_goals simp [kgst, va_up, hs, Nat.add_assoc]
  · refine PR_0 ?_ ?_ ?_ ?_ ?_ ?_ ?_ ?_ ?_ ?_ ?_ ?_ (fun k hk => ?_)
    all_goals simp [kst, va_up, hz, va_cpy, Nat.add_assoc, *]
  · intro a ha
    have m0 : ¬ a = p := by omega
    have m1 : ¬ a = p + 1 := by omega
    have m2 : ¬ a = p + 2 := by omega
    have m3 : ¬ a = p + 3 := by omega
    have m4 : ¬ a = p + 4 := by omega
    have m5 : ¬ a = p + 5 := by omega
    have m6 : ¬ a = p + 6 := by omega
    have m7 : ¬ a = p + 7 := by omega
    have m8 : ¬ a = p + 8 := by omega
    have m9 : ¬ a = p + 9 := by omega
    have m10 : ¬ a = p + 10 := by omega
    have m11 : ¬ a = p + 11 := by omega
    have m12 : ¬ a = p + 12 := by omega
    have m13 : ¬ a = p + 13 := by omega
    have m14 : ¬ a = p + 14 := by omega
    have m15 : ¬ a = p + 15 := by omega
    refine ⟨?_, ?_, ?_⟩
    all_goals simp [kgst, kst, va_up, Nat.add_assoc, m0, m1, m2, m3, m4, m5, m6, m7, m8, m9, m10, m11, m12, m13, m14, m15]

