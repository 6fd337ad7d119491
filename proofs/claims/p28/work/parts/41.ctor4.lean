set_option maxHeartbeats 4000000 in
set_option maxRecDepth 100000 in
theorem c_BS_init {g : kG} {r : Nat} {sh : Nat → Nat × Nat} {G : Nat → Nat → Option Nat} {I : kI} (hb : kB g ≤ r) (hs : sh r = (10, 0)) : ct g mX10_init ⟨4, 101, 1072, 87⟩ [.ref r] (r + 1, sh, G) I (qC (fun σ1 I1 => σ1.1 = r + 102 ∧ sW g σ1 r (fun i => r + 33 + 1 + 16 * i) ∧ CR I1 r (fun i => r + 33 + 1 + 16 * i) (kv0, 0, fun _ => kv0) 0 kZ ∧ (∀ a, a < r → σ1.2.1 a = sh a ∧ σ1.2.2 a = G a ∧ I1 a = I a))) := by
  refine ct_of pn10 rfl (Nat.le_of_ble_eq_true rfl) ok_X10_init.1 trivial ?_
  show wp _ _ _ _ _ _ _ _ 0 [some (.ref r)] []
  refine w_aload_0 (pc := 0) dX10_init_0 ?_
  refine w_objInit (pc := 1) t25 t26 t27 ⟨Nat.le_of_ble_eq_true rfl, Nat.le_of_ble_eq_true rfl⟩ dX10_init_1 ?_
  refine w_aload_0 (pc := 4) dX10_init_4 ?_
  refine w_new (pc := 5) (N := (r + 1)) kc6 rfl t28 t29 t8 ⟨Nat.le_of_ble_eq_true rfl, Nat.le_of_ble_eq_true rfl⟩ dX10_init_5 ?_
  refine w_dup_a (pc := 8) dX10_init_8 ?_
  refine w_callI_C (pc := 9) (as := []) (c_Plant_init (p := r + 1) (by omega) (by simp [va_up]) (by simp [va_up])) rfl ok_X6_init rfl t31 t30 ⟨⟨Nat.le_of_ble_eq_true rfl, Nat.le_of_ble_eq_true rfl⟩, Nat.le_of_ble_eq_true rfl, Nat.le_of_ble_eq_true rfl⟩ rfl (Nat.le_of_ble_eq_true rfl) dX10_init_9 (fun N9 S9 G9 I9 h9 => ?_)
  obtain ⟨e9, P0, R0, F9⟩ := h9
  obtain rfl : N9 = r + 17 := e9
  have E9 : ∀ a, a < r + 1 → S9 a = sh a ∧ (a ≠ r → G9 a = G a) ∧ I9 a = I a := by
    intro a ha
    have m : ¬ a = r + 1 := by omega
    refine ⟨(F9 a ha).1.trans (va_up_ne _ _ m), fun hne => (F9 a ha).2.1.trans ?_, (F9 a ha).2.2.trans (va_up_ne _ _ m)⟩
    simp [kgst, va_up, m, hne]
  have hs : S9 r = (10, 0) := (E9 r (by omega)).1.trans hs
  refine w_putFR (pc := 12) (x := some ((r + 1))) kc10 0 (by have := hb; (try dsimp only); omega) (by first | exact hs | (dsimp only; (repeat rw [va_up_ne _ _ (by omega)]); exact hs)) rfl t299 rfl rfl rfl (tyX10_ok 0 (by decide)) rfl rfl dX10_init_12 ?_
  refine w_aload_0 (pc := 15) dX10_init_15 ?_
  refine w_new (pc := 16) (N := (r + 17)) kc6 rfl t28 t29 t8 ⟨Nat.le_of_ble_eq_true rfl, Nat.le_of_ble_eq_true rfl⟩ dX10_init_16 ?_
  refine w_dup_a (pc := 19) dX10_init_19 ?_
  refine w_callI_C (pc := 20) (as := []) (c_Plant_init (p := r + 17) (by omega) (by simp [va_up]) (by simp [va_up])) rfl ok_X6_init rfl t31 t30 ⟨⟨Nat.le_of_ble_eq_true rfl, Nat.le_of_ble_eq_true rfl⟩, Nat.le_of_ble_eq_true rfl, Nat.le_of_ble_eq_true rfl⟩ rfl (Nat.le_of_ble_eq_true rfl) dX10_init_20 (fun N20 S20 G20 I20 h20 => ?_)
  obtain ⟨e20, P1, R1, F20⟩ := h20
  obtain rfl : N20 = r + 33 := e20
  have E20 : ∀ a, a < r + 17 → S20 a = S9 a ∧ (a ≠ r → G20 a = G9 a) ∧ I20 a = I9 a := by
    intro a ha
    have m : ¬ a = r + 17 := by omega
    refine ⟨(F20 a ha).1.trans (va_up_ne _ _ m), fun hne => (F20 a ha).2.1.trans ?_, (F20 a ha).2.2.trans (va_up_ne _ _ m)⟩
    simp [kgst, va_up, m, hne]
  have g0 : G20 r 0 = some (r + 1) := (congrFun (F20 r (by omega)).2.1 0).trans (by simp [kgst, va_up])
  have hs : S20 r = (10, 0) := (E20 r (by omega)).1.trans hs
  refine w_putFR (pc := 23) (x := some ((r + 17))) kc10 1 (by have := hb; (try dsimp only); omega) (by first | exact hs | (dsimp only; (repeat rw [va_up_ne _ _ (by omega)]); exact hs)) rfl t300 rfl rfl rfl (tyX10_ok 1 (by decide)) rfl rfl dX10_init_23 ?_
  refine w_aload_0 (pc := 26) dX10_init_26 ?_
  refine w_new (pc := 27) (N := (r + 33)) kc4 rfl t227 t228 t16 ⟨Nat.le_of_ble_eq_true rfl, Nat.le_of_ble_eq_true rfl⟩ dX10_init_27 ?_
  refine w_dup_a (pc := 30) dX10_init_30 ?_
  refine w_callIN_C (pc := 31) (as := []) (c_His_init (h := r + 33) (by omega) (by simp [va_up]) (by simp [va_up])) rfl ok_X4_init rfl t230 n229 ⟨⟨Nat.le_of_ble_eq_true rfl, Nat.le_of_ble_eq_true rfl⟩, Nat.le_of_ble_eq_true rfl, Nat.le_of_ble_eq_true rfl⟩ rfl (Nat.le_of_ble_eq_true rfl) dX10_init_31 (fun N31 S31 G31 I31 h31 => ?_)
  obtain ⟨e31, H2, Q2, F31, Z2⟩ := h31
  obtain rfl : N31 = r + 98 := e31
  have E31 : ∀ a, a < r + 33 → S31 a = S20 a ∧ (a ≠ r → G31 a = G20 a) ∧ I31 a = I20 a := by
    intro a ha
    have m : ¬ a = r + 33 := by omega
    refine ⟨(F31 a ha).1.trans (va_up_ne _ _ m), fun hne => (F31 a ha).2.1.trans ?_, (F31 a ha).2.2.trans (va_up_ne _ _ m)⟩
    simp [kgst, va_up, m, hne]
  have g0 : G31 r 0 = some (r + 1) := (congrFun (F31 r (by omega)).2.1 0).trans (by simp [kgst, va_up, g0])
  have g1 : G31 r 1 = some (r + 17) := (congrFun (F31 r (by omega)).2.1 1).trans (by simp [kgst, va_up])
  have hs : S31 r = (10, 0) := (E31 r (by omega)).1.trans hs
  refine w_putFR (pc := 34) (x := some ((r + 33))) kc10 2 (by have := hb; (try dsimp only); omega) (by first | exact hs | (dsimp only; (repeat rw [va_up_ne _ _ (by omega)]); exact hs)) rfl t301 rfl rfl rfl (tyX10_ok 2 (by decide)) rfl rfl dX10_init_34 ?_
  refine w_aload_0 (pc := 37) dX10_init_37 ?_
  refine w_new (pc := 38) (N := (r + 98)) kc9 rfl t252 t253 t17 ⟨Nat.le_of_ble_eq_true rfl, Nat.le_of_ble_eq_true rfl⟩ dX10_init_38 ?_
  refine w_dup_a (pc := 41) dX10_init_41 ?_
  refine w_callIN_C (pc := 42) (as := []) (c_Text_init (b := r + 98) (N := r + 99) (by have := hb; (try dsimp only); omega) (by simp [va_up])) rfl ok_X9_init rfl t255 n254 ⟨⟨Nat.le_of_ble_eq_true rfl, Nat.le_of_ble_eq_true rfl⟩, Nat.le_of_ble_eq_true rfl, Nat.le_of_ble_eq_true rfl⟩ rfl (Nat.le_of_ble_eq_true rfl) dX10_init_42 (fun N42 S42 G42 I42 h42 => ?_)
  obtain ⟨q42, hI42⟩ := h42
  simp only [Prod.mk.injEq] at q42
  obtain ⟨e42, hS42, hG42⟩ := q42
  obtain rfl : N42 = r + 100 := e42
  have E42 : ∀ a, a < r + 98 → S42 a = S31 a ∧ (a ≠ r → G42 a = G31 a) ∧ I42 a = I31 a := by
    intro a ha
    have m : ¬ a = r + 98 := by omega
    have m2 : ¬ a = r + 99 := by omega
    refine ⟨by rw [hS42]; simp [va_up, m, m2], fun hne => by rw [hG42]; simp [kgst, va_up, m, m2, hne], by rw [hI42]; simp [va_up, m, m2]⟩
  have g0 : G42 r 0 = some (r + 1) := by rw [hG42]; simp [kgst, va_up, g0, g1]
  have g1 : G42 r 1 = some (r + 17) := by rw [hG42]; simp [kgst, va_up, g0, g1]
  have g2 : G42 r 2 = some (r + 33) := by rw [hG42]; simp [kgst, va_up]
  have hs : S42 r = (10, 0) := (E42 r (by omega)).1.trans hs
  refine w_putFR (pc := 45) (x := some ((r + 98))) kc10 3 (by have := hb; (try dsimp only); omega) (by first | exact hs | (dsimp only; (repeat rw [va_up_ne _ _ (by omega)]); exact hs)) rfl t302 rfl rfl rfl (tyX10_ok 3 (by decide)) rfl rfl dX10_init_45 ?_
  refine w_aload_0 (pc := 48) dX10_init_48 ?_
  refine w_new (pc := 49) (N := (r + 100)) kc7 rfl t266 t267 t18 ⟨Nat.le_of_ble_eq_true rfl, Nat.le_of_ble_eq_true rfl⟩ dX10_init_49 ?_
  refine w_dup_a (pc := 52) dX10_init_52 ?_
  refine w_callIN_C (pc := 53) (as := []) (c_Reh_init (b := r + 100) (N := r + 101) (by have := hb; (try dsimp only); omega) (by simp [va_up])) rfl ok_X7_init rfl t269 n268 ⟨⟨Nat.le_of_ble_eq_true rfl, Nat.le_of_ble_eq_true rfl⟩, Nat.le_of_ble_eq_true rfl, Nat.le_of_ble_eq_true rfl⟩ rfl (Nat.le_of_ble_eq_true rfl) dX10_init_53 (fun N53 S53 G53 I53 h53 => ?_)
  obtain ⟨q53, hI53⟩ := h53
  simp only [Prod.mk.injEq] at q53
  obtain ⟨e53, hS53, hG53⟩ := q53
  obtain rfl : N53 = r + 102 := e53
  have E53 : ∀ a, a < r + 100 → S53 a = S42 a ∧ (a ≠ r → G53 a = G42 a) ∧ I53 a = I42 a := by
    intro a ha
    have m : ¬ a = r + 100 := by omega
    have m2 : ¬ a = r + 101 := by omega
    refine ⟨by rw [hS53]; simp [va_up, m, m2], fun hne => by rw [hG53]; simp [kgst, va_up, m, m2, hne], by rw [hI53]; simp [va_up, m, m2]⟩
  have g0 : G53 r 0 = some (r + 1) := by rw [hG53]; simp [kgst, va_up, g0, g1, g2]
  have g1 : G53 r 1 = some (r + 17) := by rw [hG53]; simp [kgst, va_up, g0, g1, g2]
  have g2 : G53 r 2 = some (r + 33) := by rw [hG53]; simp [kgst, va_up, g0, g1, g2]
  have g3 : G53 r 3 = some (r + 98) := by rw [hG53]; simp [kgst, va_up]
  have hs : S53 r = (10, 0) := (E53 r (by omega)).1.trans hs
  refine w_putFR (pc := 56) (x := some ((r + 100))) kc10 4 (by have := hb; (try dsimp only); omega) (by first | exact hs | (dsimp only; (repeat rw [va_up_ne _ _ (by omega)]); exact hs)) rfl t303 rfl rfl rfl (tyX10_ok 4 (by decide)) rfl rfl dX10_init_56 ?_
  refine w_vret (pc := 59) rfl ⟨Nat.le_refl _, Nat.le_refl _⟩ dX10_init_59 ?_
  obtain ⟨Gf, hGf⟩ : ∃ Gf, Gf = kgst G53 r 4 (some (r + 100)) := ⟨_, rfl⟩
  have hn : ∀ a, a ≠ r → Gf a = G53 a := fun a ha => by rw [hGf]; simp [kgst, va_up, ha]
  have Z42 : ∀ a, r < a → a < r + 100 → S53 a = S42 a ∧ Gf a = G42 a ∧ I53 a = I42 a := fun a h1 h2 => ⟨(E53 a h2).1, (hn a (by omega)).trans ((E53 a h2).2.1 (by omega)), (E53 a h2).2.2⟩
  have Z31 : ∀ a, r < a → a < r + 98 → S53 a = S31 a ∧ Gf a = G31 a ∧ I53 a = I31 a := fun a h1 h2 => by
    obtain ⟨x1, x2, x3⟩ := Z42 a h1 (by omega)
    obtain ⟨y1, y2, y3⟩ := E42 a h2
    exact ⟨x1.trans y1, x2.trans (y2 (by omega)), x3.trans y3⟩
  have Z20 : ∀ a, r < a → a < r + 33 → S53 a = S20 a ∧ Gf a = G20 a ∧ I53 a = I20 a := fun a h1 h2 => by
    obtain ⟨x1, x2, x3⟩ := Z31 a h1 (by omega)
    obtain ⟨y1, y2, y3⟩ := E31 a h2
    exact ⟨x1.trans y1, x2.trans (y2 (by omega)), x3.trans y3⟩
  have Z9 : ∀ a, r < a → a < r + 17 → S53 a = S9 a ∧ Gf a = G9 a ∧ I53 a = I9 a := fun a h1 h2 => by
    obtain ⟨x1, x2, x3⟩ := Z20 a h1 (by omega)
    obtain ⟨y1, y2, y3⟩ := E20 a h2
    exact ⟨x1.trans y1, x2.trans (y2 (by omega)), x3.trans y3⟩
  have Zr : ∀ a, a < r → S53 a = sh a ∧ Gf a = G a ∧ I53 a = I a := fun a ha => by
    obtain ⟨a1, a2, a3⟩ := E53 a (by omega)
    obtain ⟨b1, b2, b3⟩ := E42 a (by omega)
    obtain ⟨c1, c2, c3⟩ := E31 a (by omega)
    obtain ⟨d1, d2, d3⟩ := E20 a (by omega)
    obtain ⟨f1, f2, f3⟩ := E9 a (by omega)
    have nr : a ≠ r := by omega
    exact ⟨a1.trans (b1.trans (c1.trans (d1.trans f1))), (hn a nr).trans ((a2 nr).trans ((b2 nr).trans ((c2 nr).trans ((d2 nr).trans (f2 nr))))), a3.trans (b3.trans (c3.trans (d3.trans f3)))⟩
  have W0 : sPlant g (r + 102, S53, Gf) (r + 1) := sP_ext P0 (by dsimp only; omega) (fun a x1 x2 => ⟨(Z9 a (by omega) (by omega)).1, (Z9 a (by omega) (by omega)).2.1⟩)
  have W1 : sPlant g (r + 102, S53, Gf) (r + 17) := sP_ext P1 (by dsimp only; omega) (fun a x1 x2 => ⟨(Z20 a (by omega) (by omega)).1, (Z20 a (by omega) (by omega)).2.1⟩)
  have W2 : ∀ j, j < 4 → sPlant g (r + 102, S53, Gf) (r + 33 + 1 + 16 * j) := fun j hj => sP_ext (Q2 j hj) (by dsimp only; omega) (fun a x1 x2 => ⟨(Z31 a (by omega) (by omega)).1, (Z31 a (by omega) (by omega)).2.1⟩)
  have WW : sW g (r + 102, S53, Gf) r (fun i => r + 33 + 1 + 16 * i) := by
    refine ⟨⟨⟨hb, Nat.le_refl _⟩, hs, ?_, ?_, ?_, ?_, ?_⟩, W0, W1, ⟨⟨by omega, by dsimp only; omega⟩, ?_, ?_, ?_, ?_, ?_⟩, ⟨fun i hi => ⟨i, hi, by show r + 33 + 1 + 16 * i = _; omega⟩, fun i j hi hj q => by dsimp only at q; omega⟩, fun j hj => by rw [show r + 34 + 16 * j = r + 33 + 1 + 16 * j by omega]; exact W2 j hj, ⟨⟨by omega, by dsimp only; omega⟩, ?_, ⟨by omega, by dsimp only; omega⟩, ?_, ?_, by omega⟩, ⟨⟨by omega, by dsimp only; omega⟩, ?_, ⟨by omega, by dsimp only; omega⟩, ?_, ?_, by omega⟩⟩
    · show Gf r 0 = _; rw [hGf]; simp [kgst, va_up, g0]
    · show Gf r 1 = _; rw [hGf]; simp [kgst, va_up, g1]
    · show Gf r 2 = _; rw [hGf]; simp [kgst, va_up, g2]
    · show Gf r 3 = _; rw [hGf]; simp [kgst, va_up, g3]
    · show Gf r 4 = _; rw [hGf]; simp [kgst, va_up]
    · show S53 (r + 33) = _; rw [(Z31 _ (by omega) (by omega)).1]; exact H2.2.1
    · show Gf (r + 33) 0 = _; rw [(Z31 _ (by omega) (by omega)).2.1]; exact H2.2.2.1
    · show Gf (r + 33) 1 = _; rw [(Z31 _ (by omega) (by omega)).2.1]; exact H2.2.2.2.1
    · show Gf (r + 33) 2 = _; rw [(Z31 _ (by omega) (by omega)).2.1]; exact H2.2.2.2.2.1
    · show Gf (r + 33) 3 = _; rw [(Z31 _ (by omega) (by omega)).2.1]; exact H2.2.2.2.2.2
    · show S53 (r + 98) = _; rw [(Z42 _ (by omega) (by omega)).1, hS42]; simp [va_up]
    · show S53 (r + 99) = _; rw [(Z42 _ (by omega) (by omega)).1, hS42]; simp [va_up]
    · show Gf (r + 98) 0 = _; rw [(Z42 _ (by omega) (by omega)).2.1, hG42]; simp [kgst, va_up]
    · show S53 (r + 100) = _; rw [hS53]; simp [va_up]
    · show S53 (r + 101) = _; rw [hS53]; simp [va_up]
    · show Gf (r + 100) 0 = _; rw [hn _ (by omega), hG53]; simp [kgst, va_up]
  rw [← hGf]
  refine ⟨rfl, rfl, WW, ⟨PR_e R0 SX_0 (fun a x1 x2 => (Z9 a (by omega) (by omega)).2.2), KI_0, ⟨?_, Nat.zero_le _, fun i hi => absurd hi (Nat.not_lt_zero i)⟩, ?_, Nat.zero_le _, fun k hk => absurd hk (Nat.not_lt_zero k), fun k hk => absurd hk (Nat.not_lt_zero k)⟩, Zr⟩
  · rw [(Z31 _ (by omega) (by omega)).2.2, Z2]; rfl
  · rw [(Z42 _ (by omega) (by omega)).2.2, hI42]; simp [va_up]; rfl

