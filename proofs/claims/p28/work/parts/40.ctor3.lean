set_option maxHeartbeats 4000000 in
set_option maxRecDepth 100000 in
theorem c_Reh_init {g : kG} {N b : Nat} {sh : Nat → Nat × Nat} {G : Nat → Nat → Option Nat} {I : kI} (hb : kB g ≤ b ∧ b < N) (hs : sh b = (7, 0)) : ct g mX7_init ⟨2, 1, 4, 40⟩ [.ref b] (N, sh, G) I (qC (fun σ1 I1 => σ1 = (N + 1, va_up sh N (3, 0), kgst (va_up G N kNo) b 0 (some N)) ∧ I1 = va_up I N kZ)) := by
  refine ct_of pn7 rfl (Nat.le_of_ble_eq_true rfl) ok_X7_init.1 trivial ?_
  show wp _ _ _ _ _ _ _ _ 0 [some (.ref b)] []
  refine w_aload_0 (pc := 0) dX7_init_0 ?_
  refine w_objInit (pc := 1) t271 t26 t27 ⟨Nat.le_of_ble_eq_true rfl, Nat.le_of_ble_eq_true rfl⟩ dX7_init_1 ?_
  refine w_aload_0 (pc := 4) dX7_init_4 ?_
  refine w_new (pc := 5) (N := N) kc3 rfl t272 t273 t19 ⟨Nat.le_of_ble_eq_true rfl, Nat.le_of_ble_eq_true rfl⟩ dX7_init_5 ?_
  refine w_dup_a (pc := 8) dX7_init_8 ?_
  refine w_callIN_C (pc := 9) (as := []) (c_Cmd_init (b := N) (N := (N + 1)) (by have := hb; (try dsimp only); omega) (by simp [va_up])) rfl ok_X3_init rfl t275 n274 ⟨⟨Nat.le_of_ble_eq_true rfl, Nat.le_of_ble_eq_true rfl⟩, Nat.le_of_ble_eq_true rfl, Nat.le_of_ble_eq_true rfl⟩ rfl (Nat.le_of_ble_eq_true rfl) dX7_init_9 (fun N9 S9 G9 I9 h9 => ?_)
  obtain ⟨q9, rfl⟩ := h9
  cases q9
  refine w_putFR (pc := 12) (x := some N) kc7 0 (by have := hb; (try dsimp only); omega) (by first | exact hs | (dsimp only; (repeat rw [va_up_ne _ _ (by omega)]); exact hs)) rfl t287 rfl rfl rfl (tyX7_ok 0 (by decide)) rfl rfl dX7_init_12 ?_
  refine w_vret (pc := 15) rfl ⟨Nat.le_refl _, Nat.le_refl _⟩ dX7_init_15 ?_
  exact ⟨rfl, rfl, rfl⟩
set_option maxHeartbeats 4000000 in
set_option maxRecDepth 100000 in
theorem c_His_init {g : kG} {h : Nat} {sh : Nat → Nat × Nat} {G : Nat → Nat → Option Nat} {I : kI} (hb : kB g ≤ h) (hs : sh h = (4, 0)) (hz : I h = kZ) : ct g mX4_init ⟨3, 64, 664, 67⟩ [.ref h] (h + 1, sh, G) I (qC (fun σ1 I1 => σ1.1 = h + 65 ∧ sHis g σ1 h (fun i => h + 1 + 16 * i) ∧ (∀ j, j < 4 → sPlant g σ1 (h + 1 + 16 * j)) ∧ (∀ a, a < h → σ1.2.1 a = sh a ∧ σ1.2.2 a = G a ∧ I1 a = I a) ∧ I1 h = kZ)) := by
  refine ct_of pn4 rfl (Nat.le_of_ble_eq_true rfl) ok_X4_init.1 trivial ?_
  show wp _ _ _ _ _ _ _ _ 0 [some (.ref h)] []
  refine w_aload_0 (pc := 0) dX4_init_0 ?_
  refine w_objInit (pc := 1) t232 t26 t27 ⟨Nat.le_of_ble_eq_true rfl, Nat.le_of_ble_eq_true rfl⟩ dX4_init_1 ?_
  refine w_aload_0 (pc := 4) dX4_init_4 ?_
  refine w_new (pc := 5) (N := (h + 1)) kc6 rfl t233 t29 t8 ⟨Nat.le_of_ble_eq_true rfl, Nat.le_of_ble_eq_true rfl⟩ dX4_init_5 ?_
  refine w_dup_a (pc := 8) dX4_init_8 ?_
  refine w_callI_C (pc := 9) (as := []) (c_Plant_init (p := h + 1) (by omega) (by simp [va_up]) (by simp [va_up])) rfl ok_X6_init rfl t31 t234 ⟨⟨Nat.le_of_ble_eq_true rfl, Nat.le_of_ble_eq_true rfl⟩, Nat.le_of_ble_eq_true rfl, Nat.le_of_ble_eq_true rfl⟩ rfl (Nat.le_of_ble_eq_true rfl) dX4_init_9 (fun N9 S9 G9 I9 h9 => ?_)
  obtain ⟨e9, P0, -, F9⟩ := h9
  obtain rfl : N9 = h + 17 := e9
  have E9 : ∀ a, a < h + 1 → S9 a = sh a ∧ (a ≠ h → G9 a = G a) ∧ I9 a = I a := by
    intro a ha
    have m : ¬ a = h + 1 := by omega
    refine ⟨(F9 a ha).1.trans (va_up_ne _ _ m), fun hne => (F9 a ha).2.1.trans ?_, (F9 a ha).2.2.trans (va_up_ne _ _ m)⟩
    simp [kgst, va_up, m, hne]
  have hs : S9 h = (4, 0) := (E9 h (by omega)).1.trans hs
  have hz : I9 h = kZ := (E9 h (by omega)).2.2.trans hz
  have Fr : ∀ a, a < h → S9 a = sh a ∧ G9 a = G a ∧ I9 a = I a := fun a ha => ⟨(E9 a (by omega)).1, ((E9 a (by omega)).2.1 (by omega)), (E9 a (by omega)).2.2⟩
  refine w_putR (pc := 12) (x := some ((h + 1))) kc4 0 (by have := hb; (try dsimp only); omega) (by first | exact hs | (dsimp only; (repeat rw [va_up_ne _ _ (by omega)]); exact hs)) rfl t235 rfl (tyX4_ok 0 (by decide)) rfl rfl dX4_init_12 ?_
  refine w_aload_0 (pc := 15) dX4_init_15 ?_
  refine w_new (pc := 16) (N := (h + 17)) kc6 rfl t233 t29 t8 ⟨Nat.le_of_ble_eq_true rfl, Nat.le_of_ble_eq_true rfl⟩ dX4_init_16 ?_
  refine w_dup_a (pc := 19) dX4_init_19 ?_
  refine w_callI_C (pc := 20) (as := []) (c_Plant_init (p := h + 17) (by omega) (by simp [va_up]) (by simp [va_up])) rfl ok_X6_init rfl t31 t234 ⟨⟨Nat.le_of_ble_eq_true rfl, Nat.le_of_ble_eq_true rfl⟩, Nat.le_of_ble_eq_true rfl, Nat.le_of_ble_eq_true rfl⟩ rfl (Nat.le_of_ble_eq_true rfl) dX4_init_20 (fun N20 S20 G20 I20 h20 => ?_)
  obtain ⟨e20, P1, -, F20⟩ := h20
  obtain rfl : N20 = h + 33 := e20
  have E20 : ∀ a, a < h + 17 → S20 a = S9 a ∧ (a ≠ h → G20 a = G9 a) ∧ I20 a = I9 a := by
    intro a ha
    have m : ¬ a = h + 17 := by omega
    refine ⟨(F20 a ha).1.trans (va_up_ne _ _ m), fun hne => (F20 a ha).2.1.trans ?_, (F20 a ha).2.2.trans (va_up_ne _ _ m)⟩
    simp [kgst, va_up, m, hne]
  have P0 := sP_ext (σ' := (h + 33, S20, G20)) P0 (by dsimp only; omega) (fun a x1 x2 => ⟨(E20 a (by omega)).1, (E20 a (by omega)).2.1 (by omega)⟩)
  have g0 : G20 h 0 = some (h + 1) := (congrFun (F20 h (by omega)).2.1 0).trans (by simp [kgst, va_up])
  have hs : S20 h = (4, 0) := (E20 h (by omega)).1.trans hs
  have hz : I20 h = kZ := (E20 h (by omega)).2.2.trans hz
  have Fr : ∀ a, a < h → S20 a = sh a ∧ G20 a = G a ∧ I20 a = I a := fun a ha => ⟨(E20 a (by omega)).1.trans (Fr a ha).1, ((E20 a (by omega)).2.1 (by omega)).trans (Fr a ha).2.1, (E20 a (by omega)).2.2.trans (Fr a ha).2.2⟩
  refine w_putR (pc := 23) (x := some ((h + 17))) kc4 1 (by have := hb; (try dsimp only); omega) (by first | exact hs | (dsimp only; (repeat rw [va_up_ne _ _ (by omega)]); exact hs)) rfl t236 rfl (tyX4_ok 1 (by decide)) rfl rfl dX4_init_23 ?_
  refine w_aload_0 (pc := 26) dX4_init_26 ?_
  refine w_new (pc := 27) (N := (h + 33)) kc6 rfl t233 t29 t8 ⟨Nat.le_of_ble_eq_true rfl, Nat.le_of_ble_eq_true rfl⟩ dX4_init_27 ?_
  refine w_dup_a (pc := 30) dX4_init_30 ?_
  refine w_callI_C (pc := 31) (as := []) (c_Plant_init (p := h + 33) (by omega) (by simp [va_up]) (by simp [va_up])) rfl ok_X6_init rfl t31 t234 ⟨⟨Nat.le_of_ble_eq_true rfl, Nat.le_of_ble_eq_true rfl⟩, Nat.le_of_ble_eq_true rfl, Nat.le_of_ble_eq_true rfl⟩ rfl (Nat.le_of_ble_eq_true rfl) dX4_init_31 (fun N31 S31 G31 I31 h31 => ?_)
  obtain ⟨e31, P2, -, F31⟩ := h31
  obtain rfl : N31 = h + 49 := e31
  have E31 : ∀ a, a < h + 33 → S31 a = S20 a ∧ (a ≠ h → G31 a = G20 a) ∧ I31 a = I20 a := by
    intro a ha
    have m : ¬ a = h + 33 := by omega
    refine ⟨(F31 a ha).1.trans (va_up_ne _ _ m), fun hne => (F31 a ha).2.1.trans ?_, (F31 a ha).2.2.trans (va_up_ne _ _ m)⟩
    simp [kgst, va_up, m, hne]
  have P0 := sP_ext (σ' := (h + 49, S31, G31)) P0 (by dsimp only; omega) (fun a x1 x2 => ⟨(E31 a (by omega)).1, (E31 a (by omega)).2.1 (by omega)⟩)
  have P1 := sP_ext (σ' := (h + 49, S31, G31)) P1 (by dsimp only; omega) (fun a x1 x2 => ⟨(E31 a (by omega)).1, (E31 a (by omega)).2.1 (by omega)⟩)
  have g0 : G31 h 0 = some (h + 1) := (congrFun (F31 h (by omega)).2.1 0).trans (by simp [kgst, va_up, g0])
  have g1 : G31 h 1 = some (h + 17) := (congrFun (F31 h (by omega)).2.1 1).trans (by simp [kgst, va_up])
  have hs : S31 h = (4, 0) := (E31 h (by omega)).1.trans hs
  have hz : I31 h = kZ := (E31 h (by omega)).2.2.trans hz
  have Fr : ∀ a, a < h → S31 a = sh a ∧ G31 a = G a ∧ I31 a = I a := fun a ha => ⟨(E31 a (by omega)).1.trans (Fr a ha).1, ((E31 a (by omega)).2.1 (by omega)).trans (Fr a ha).2.1, (E31 a (by omega)).2.2.trans (Fr a ha).2.2⟩
  refine w_putR (pc := 34) (x := some ((h + 33))) kc4 2 (by have := hb; (try dsimp only); omega) (by first | exact hs | (dsimp only; (repeat rw [va_up_ne _ _ (by omega)]); exact hs)) rfl t237 rfl (tyX4_ok 2 (by decide)) rfl rfl dX4_init_34 ?_
  refine w_aload_0 (pc := 37) dX4_init_37 ?_
  refine w_new (pc := 38) (N := (h + 49)) kc6 rfl t233 t29 t8 ⟨Nat.le_of_ble_eq_true rfl, Nat.le_of_ble_eq_true rfl⟩ dX4_init_38 ?_
  refine w_dup_a (pc := 41) dX4_init_41 ?_
  refine w_callI_C (pc := 42) (as := []) (c_Plant_init (p := h + 49) (by omega) (by simp [va_up]) (by simp [va_up])) rfl ok_X6_init rfl t31 t234 ⟨⟨Nat.le_of_ble_eq_true rfl, Nat.le_of_ble_eq_true rfl⟩, Nat.le_of_ble_eq_true rfl, Nat.le_of_ble_eq_true rfl⟩ rfl (Nat.le_of_ble_eq_true rfl) dX4_init_42 (fun N42 S42 G42 I42 h42 => ?_)
  obtain ⟨e42, P3, -, F42⟩ := h42
  obtain rfl : N42 = h + 65 := e42
  have E42 : ∀ a, a < h + 49 → S42 a = S31 a ∧ (a ≠ h → G42 a = G31 a) ∧ I42 a = I31 a := by
    intro a ha
    have m : ¬ a = h + 49 := by omega
    refine ⟨(F42 a ha).1.trans (va_up_ne _ _ m), fun hne => (F42 a ha).2.1.trans ?_, (F42 a ha).2.2.trans (va_up_ne _ _ m)⟩
    simp [kgst, va_up, m, hne]
  have P0 := sP_ext (σ' := (h + 65, S42, G42)) P0 (by dsimp only; omega) (fun a x1 x2 => ⟨(E42 a (by omega)).1, (E42 a (by omega)).2.1 (by omega)⟩)
  have P1 := sP_ext (σ' := (h + 65, S42, G42)) P1 (by dsimp only; omega) (fun a x1 x2 => ⟨(E42 a (by omega)).1, (E42 a (by omega)).2.1 (by omega)⟩)
  have P2 := sP_ext (σ' := (h + 65, S42, G42)) P2 (by dsimp only; omega) (fun a x1 x2 => ⟨(E42 a (by omega)).1, (E42 a (by omega)).2.1 (by omega)⟩)
  have g0 : G42 h 0 = some (h + 1) := (congrFun (F42 h (by omega)).2.1 0).trans (by simp [kgst, va_up, g0, g1])
  have g1 : G42 h 1 = some (h + 17) := (congrFun (F42 h (by omega)).2.1 1).trans (by simp [kgst, va_up, g0, g1])
  have g2 : G42 h 2 = some (h + 33) := (congrFun (F42 h (by omega)).2.1 2).trans (by simp [kgst, va_up])
  have hs : S42 h = (4, 0) := (E42 h (by omega)).1.trans hs
  have hz : I42 h = kZ := (E42 h (by omega)).2.2.trans hz
  have Fr : ∀ a, a < h → S42 a = sh a ∧ G42 a = G a ∧ I42 a = I a := fun a ha => ⟨(E42 a (by omega)).1.trans (Fr a ha).1, ((E42 a (by omega)).2.1 (by omega)).trans (Fr a ha).2.1, (E42 a (by omega)).2.2.trans (Fr a ha).2.2⟩
  refine w_putR (pc := 45) (x := some ((h + 49))) kc4 3 (by have := hb; (try dsimp only); omega) (by first | exact hs | (dsimp only; (repeat rw [va_up_ne _ _ (by omega)]); exact hs)) rfl t238 rfl (tyX4_ok 3 (by decide)) rfl rfl dX4_init_45 ?_
  refine w_vret (pc := 48) rfl ⟨Nat.le_refl _, Nat.le_refl _⟩ dX4_init_48 ?_
  have Q : ∀ p, sPlant g (h + 65, S42, G42) p → h < p → sPlant g (h + 65, S42, kgst G42 h 3 (some (h + 49))) p := fun p hp hlt => sP_ext hp (Nat.le_refl _) (fun a x1 x2 => ⟨rfl, by simp [kgst, va_up, show ¬ a = h by omega]⟩)
  refine ⟨rfl, rfl, ⟨⟨hb, by dsimp only; omega⟩, hs, ?_, ?_, ?_, ?_⟩, fun j hj => ?_, fun a ha => ⟨(Fr a ha).1, ?_, (Fr a ha).2.2⟩, hz⟩
  · simp [kgst, va_up, g0]
  · simp [kgst, va_up, g1, Nat.add_assoc]
  · simp [kgst, va_up, g2, Nat.add_assoc]
  · simp [kgst, va_up, Nat.add_assoc]
  · rcases (show j = 0 ∨ j = 1 ∨ j = 2 ∨ j = 3 by omega) with rfl | rfl | rfl | rfl
    · exact Q _ P0 (by omega)
    · exact Q _ P1 (by omega)
    · exact Q _ P2 (by omega)
    · exact Q _ P3 (by omega)
  · have m : ¬ a = h := by omega
    simp only [kgst, va_up, if_neg m]
    exact (Fr a ha).2.1

