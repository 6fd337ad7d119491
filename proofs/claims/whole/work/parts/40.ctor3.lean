set_option maxHeartbeats 4000000 in
set_option maxRecDepth 100000 in
theorem c_Mod_init {g : kG} {q : Nat} {sh : Nat → Nat × Nat} {G : Nat → Nat → Option Nat} {I : kI} (hb : kB g ≤ q) (hs : sh q = (11, 0)) (hz : I q = kZ) : ct g mX11_init ⟨1, 6, 1105, 20⟩ [.ref q] (q + 1, sh, G) I (qC (fun σ1 I1 => σ1.1 = q + 7 ∧ sMod g σ1 q (q + 1) (q + 2) (q + 3) (q + 4) (q + 5) (q + 6) ∧ (∀ a, a < q → σ1.2.1 a = sh a ∧ σ1.2.2 a = G a ∧ I1 a = I a) ∧ I1 q = kZ ∧ I1 (q + 1) = kv0 ∧ I1 (q + 5) = kZ)) := by
  refine ct_of pn11 rfl (Nat.le_of_ble_eq_true rfl) ok_X11_init.1 trivial ?_
  show wp _ _ _ _ _ _ _ _ 0 [some (.ref q)] []
  refine w_aload_0 (pc := 0) dX11_init_0 ?_
  refine w_objInit (pc := 1) t761 t55 t56 ⟨Nat.le_of_ble_eq_true rfl, Nat.le_of_ble_eq_true rfl⟩ dX11_init_1 ?_
  refine w_aload_0 (pc := 4) dX11_init_4 ?_
  refine w_sipush (pc := 5) (v := 149) dX11_init_5 (by decide) ?_
  refine w_newai (pc := 8) (N := (q + 1)) (k := 149) rfl (by decide) t89 ⟨Nat.le_of_ble_eq_true rfl, Nat.le_of_ble_eq_true rfl⟩ dX11_init_8 ?_
  refine w_putFR (pc := 10) (x := some ((q + 1))) kc11 0 (by have := hb; (try dsimp only); omega) (by first | exact hs | (dsimp only; (repeat rw [va_up_ne _ _ (by omega)]); exact hs)) rfl t763 rfl rfl rfl (tyX11_ok 0 (by decide)) rfl rfl dX11_init_10 ?_
  refine w_aload_0 (pc := 13) dX11_init_13 ?_
  refine w_sipush (pc := 14) (v := 596) dX11_init_14 (by decide) ?_
  refine w_newai (pc := 17) (N := (q + 2)) (k := 596) rfl (by decide) t89 ⟨Nat.le_of_ble_eq_true rfl, Nat.le_of_ble_eq_true rfl⟩ dX11_init_17 ?_
  refine w_putFR (pc := 19) (x := some ((q + 2))) kc11 1 (by have := hb; (try dsimp only); omega) (by first | exact hs | (dsimp only; (repeat rw [va_up_ne _ _ (by omega)]); exact hs)) rfl t764 rfl rfl rfl (tyX11_ok 1 (by decide)) rfl rfl dX11_init_19 ?_
  refine w_aload_0 (pc := 22) dX11_init_22 ?_
  refine w_sipush (pc := 23) (v := 149) dX11_init_23 (by decide) ?_
  refine w_newai (pc := 26) (N := (q + 3)) (k := 149) rfl (by decide) t89 ⟨Nat.le_of_ble_eq_true rfl, Nat.le_of_ble_eq_true rfl⟩ dX11_init_26 ?_
  refine w_putFR (pc := 28) (x := some ((q + 3))) kc11 2 (by have := hb; (try dsimp only); omega) (by first | exact hs | (dsimp only; (repeat rw [va_up_ne _ _ (by omega)]); exact hs)) rfl t765 rfl rfl rfl (tyX11_ok 2 (by decide)) rfl rfl dX11_init_28 ?_
  refine w_aload_0 (pc := 31) dX11_init_31 ?_
  refine w_sipush (pc := 32) (v := 149) dX11_init_32 (by decide) ?_
  refine w_newai (pc := 35) (N := (q + 4)) (k := 149) rfl (by decide) t89 ⟨Nat.le_of_ble_eq_true rfl, Nat.le_of_ble_eq_true rfl⟩ dX11_init_35 ?_
  refine w_putFR (pc := 37) (x := some ((q + 4))) kc11 3 (by have := hb; (try dsimp only); omega) (by first | exact hs | (dsimp only; (repeat rw [va_up_ne _ _ (by omega)]); exact hs)) rfl t766 rfl rfl rfl (tyX11_ok 3 (by decide)) rfl rfl dX11_init_37 ?_
  refine w_aload_0 (pc := 40) dX11_init_40 ?_
  refine w_bipush (pc := 41) (v := 60) dX11_init_41 (by decide) ?_
  refine w_newai (pc := 43) (N := (q + 5)) (k := 60) rfl (by decide) t89 ⟨Nat.le_of_ble_eq_true rfl, Nat.le_of_ble_eq_true rfl⟩ dX11_init_43 ?_
  refine w_putFR (pc := 45) (x := some ((q + 5))) kc11 6 (by have := hb; (try dsimp only); omega) (by first | exact hs | (dsimp only; (repeat rw [va_up_ne _ _ (by omega)]); exact hs)) rfl t769 rfl rfl rfl (tyX11_ok 6 (by decide)) rfl rfl dX11_init_45 ?_
  refine w_aload_0 (pc := 48) dX11_init_48 ?_
  refine w_iconst (pc := 49) (v := 2) dX11_init_49 (by decide) ?_
  refine w_newai (pc := 50) (N := (q + 6)) (k := 2) rfl (by decide) t89 ⟨Nat.le_of_ble_eq_true rfl, Nat.le_of_ble_eq_true rfl⟩ dX11_init_50 ?_
  refine w_putFR (pc := 52) (x := some ((q + 6))) kc11 13 (by have := hb; (try dsimp only); omega) (by first | exact hs | (dsimp only; (repeat rw [va_up_ne _ _ (by omega)]); exact hs)) rfl t776 rfl rfl rfl (tyX11_ok 13 (by decide)) rfl rfl dX11_init_52 ?_
  refine w_aload_0 (pc := 55) dX11_init_55 ?_
  refine w_getR (pc := 56) (b := (q + 1)) kc11 0 (by have := hb; (try dsimp only); omega) (by first | exact hs | (dsimp only; (repeat rw [va_up_ne _ _ (by omega)]); exact hs)) rfl (by simp [kgst, va_up]) t763 dX11_init_56 ?_
  refine w_iconst (pc := 59) (v := 0) dX11_init_59 (by decide) ?_
  refine w_bipush (pc := 60) (v := 50) dX11_init_60 (by decide) ?_
  refine w_iast (pc := 62) (j := 0) (by have := hb; (try dsimp only); omega) (show _ = (100, 149) from by simp [va_up]) rfl (by decide) (by decide) dX11_init_62 ?_
  refine w_aload_0 (pc := 63) dX11_init_63 ?_
  refine w_getR (pc := 64) (b := (q + 1)) kc11 0 (by have := hb; (try dsimp only); omega) (by first | exact hs | (dsimp only; (repeat rw [va_up_ne _ _ (by omega)]); exact hs)) rfl (by simp [kgst, va_up]) t763 dX11_init_64 ?_
  refine w_bipush (pc := 67) (v := 7) dX11_init_67 (by decide) ?_
  refine w_sipush (pc := 69) (v := 1000) dX11_init_69 (by decide) ?_
  refine w_iast (pc := 72) (j := 7) (by have := hb; (try dsimp only); omega) (show _ = (100, 149) from by simp [va_up]) rfl (by decide) (by decide) dX11_init_72 ?_
  refine w_aload_0 (pc := 73) dX11_init_73 ?_
  refine w_getR (pc := 74) (b := (q + 1)) kc11 0 (by have := hb; (try dsimp only); omega) (by first | exact hs | (dsimp only; (repeat rw [va_up_ne _ _ (by omega)]); exact hs)) rfl (by simp [kgst, va_up]) t763 dX11_init_74 ?_
  refine w_bipush (pc := 77) (v := 14) dX11_init_77 (by decide) ?_
  refine w_iconst (pc := 79) (v := 1) dX11_init_79 (by decide) ?_
  refine w_iast (pc := 80) (j := 14) (by have := hb; (try dsimp only); omega) (show _ = (100, 149) from by simp [va_up]) rfl (by decide) (by decide) dX11_init_80 ?_
  refine w_aload_0 (pc := 81) dX11_init_81 ?_
  refine w_getR (pc := 82) (b := (q + 1)) kc11 0 (by have := hb; (try dsimp only); omega) (by first | exact hs | (dsimp only; (repeat rw [va_up_ne _ _ (by omega)]); exact hs)) rfl (by simp [kgst, va_up]) t763 dX11_init_82 ?_
  refine w_sipush (pc := 85) (v := 129) dX11_init_85 (by decide) ?_
  refine w_ldc (pc := 88) (v := -1000004) t762 dX11_init_88 ?_
  refine w_iast (pc := 90) (j := 129) (by have := hb; (try dsimp only); omega) (show _ = (100, 149) from by simp [va_up]) rfl (by decide) (by decide) dX11_init_90 ?_
  refine w_aload_0 (pc := 91) dX11_init_91 ?_
  refine w_getR (pc := 92) (b := (q + 1)) kc11 0 (by have := hb; (try dsimp only); omega) (by first | exact hs | (dsimp only; (repeat rw [va_up_ne _ _ (by omega)]); exact hs)) rfl (by simp [kgst, va_up]) t763 dX11_init_92 ?_
  refine w_bipush (pc := 95) (v := 18) dX11_init_95 (by decide) ?_
  refine w_bipush (pc := 97) (v := 120) dX11_init_97 (by decide) ?_
  refine w_iast (pc := 99) (j := 18) (by have := hb; (try dsimp only); omega) (show _ = (100, 149) from by simp [va_up]) rfl (by decide) (by decide) dX11_init_99 ?_
  refine w_aload_0 (pc := 100) dX11_init_100 ?_
  refine w_getR (pc := 101) (b := (q + 1)) kc11 0 (by have := hb; (try dsimp only); omega) (by first | exact hs | (dsimp only; (repeat rw [va_up_ne _ _ (by omega)]); exact hs)) rfl (by simp [kgst, va_up]) t763 dX11_init_101 ?_
  refine w_bipush (pc := 104) (v := 19) dX11_init_104 (by decide) ?_
  refine w_bipush (pc := 106) (v := 20) dX11_init_106 (by decide) ?_
  refine w_iast (pc := 108) (j := 19) (by have := hb; (try dsimp only); omega) (show _ = (100, 149) from by simp [va_up]) rfl (by decide) (by decide) dX11_init_108 ?_
  refine w_aload_0 (pc := 109) dX11_init_109 ?_
  refine w_getR (pc := 110) (b := (q + 1)) kc11 0 (by have := hb; (try dsimp only); omega) (by first | exact hs | (dsimp only; (repeat rw [va_up_ne _ _ (by omega)]); exact hs)) rfl (by simp [kgst, va_up]) t763 dX11_init_110 ?_
  refine w_bipush (pc := 113) (v := 20) dX11_init_113 (by decide) ?_
  refine w_iconst (pc := 115) (v := 1) dX11_init_115 (by decide) ?_
  refine w_iast (pc := 116) (j := 20) (by have := hb; (try dsimp only); omega) (show _ = (100, 149) from by simp [va_up]) rfl (by decide) (by decide) dX11_init_116 ?_
  refine w_vret (pc := 117) rfl ⟨Nat.le_refl _, Nat.le_refl _⟩ dX11_init_117 ?_
  refine ⟨rfl, rfl, ?_, fun a ha => ?_, ?_, ?_, ?_⟩
  · unfold sMod
    refine ⟨⟨hb, by dsimp only; omega⟩, ?_, ⟨by omega, by dsimp only; omega⟩, ?_, ⟨by omega, by dsimp only; omega⟩, ?_, ⟨by omega, by dsimp only; omega⟩, ?_, ⟨by omega, by dsimp only; omega⟩, ?_, ⟨by omega, by dsimp only; omega⟩, ?_, ⟨by omega, by dsimp only; omega⟩, ?_, ?_, ?_, ?_, ?_, ?_, ?_, by omega, by omega, by omega, by omega, by omega, by omega⟩
    all_goals simp [kgst, va_up, hs]
  · have m0 : ¬ a = q := by omega
    have m1 : ¬ a = q + 1 := by omega
    have m2 : ¬ a = q + 2 := by omega
    have m3 : ¬ a = q + 3 := by omega
    have m4 : ¬ a = q + 4 := by omega
    have m5 : ¬ a = q + 5 := by omega
    have m6 : ¬ a = q + 6 := by omega
    refine ⟨?_, ?_, ?_⟩
    all_goals simp [kgst, kst, va_up, m0, m1, m2, m3, m4, m5, m6]
  · simp [kst, va_up, hz]
  · simp [kst, va_up]; rfl
  · simp [kst, va_up]
set_option maxHeartbeats 4000000 in
set_option maxRecDepth 100000 in
theorem c_Reh_init {g : kG} {N b : Nat} {sh : Nat → Nat × Nat} {G : Nat → Nat → Option Nat} {I : kI} (hb : kB g ≤ b ∧ b < N) (hs : sh b = (7, 0)) : ct g mX7_init ⟨2, 1, 4, 40⟩ [.ref b] (N, sh, G) I (qC (fun σ1 I1 => σ1 = (N + 1, va_up sh N (3, 0), kgst (va_up G N kNo) b 0 (some N)) ∧ I1 = va_up I N kZ)) := by
  refine ct_of pn7 rfl (Nat.le_of_ble_eq_true rfl) ok_X7_init.1 trivial ?_
  show wp _ _ _ _ _ _ _ _ 0 [some (.ref b)] []
  refine w_aload_0 (pc := 0) dX7_init_0 ?_
  refine w_objInit (pc := 1) t302 t55 t56 ⟨Nat.le_of_ble_eq_true rfl, Nat.le_of_ble_eq_true rfl⟩ dX7_init_1 ?_
  refine w_aload_0 (pc := 4) dX7_init_4 ?_
  refine w_new (pc := 5) (N := N) kc3 rfl t303 t304 t47 ⟨Nat.le_of_ble_eq_true rfl, Nat.le_of_ble_eq_true rfl⟩ dX7_init_5 ?_
  refine w_dup_a (pc := 8) dX7_init_8 ?_
  refine w_callIN_C (pc := 9) (as := []) (c_Cmd_init (b := N) (N := (N + 1)) (by have := hb; (try dsimp only); omega) (by simp [va_up])) rfl ok_X3_init rfl t306 n305 ⟨⟨Nat.le_of_ble_eq_true rfl, Nat.le_of_ble_eq_true rfl⟩, Nat.le_of_ble_eq_true rfl, Nat.le_of_ble_eq_true rfl⟩ rfl (Nat.le_of_ble_eq_true rfl) dX7_init_9 (fun N9 S9 G9 I9 h9 => ?_)
  obtain ⟨q9, rfl⟩ := h9
  cases q9
  refine w_putFR (pc := 12) (x := some N) kc7 0 (by have := hb; (try dsimp only); omega) (by first | exact hs | (dsimp only; (repeat rw [va_up_ne _ _ (by omega)]); exact hs)) rfl t323 rfl rfl rfl (tyX7_ok 0 (by decide)) rfl rfl dX7_init_12 ?_
  refine w_vret (pc := 15) rfl ⟨Nat.le_refl _, Nat.le_refl _⟩ dX7_init_15 ?_
  exact ⟨rfl, rfl, rfl⟩
set_option maxHeartbeats 4000000 in
set_option maxRecDepth 100000 in
theorem c_His_init {g : kG} {h : Nat} {sh : Nat → Nat × Nat} {G : Nat → Nat → Option Nat} {I : kI} (hb : kB g ≤ h) (hs : sh h = (4, 0)) (hz : I h = kZ) : ct g mX4_init ⟨3, 64, 664, 67⟩ [.ref h] (h + 1, sh, G) I (qC (fun σ1 I1 => σ1.1 = h + 65 ∧ sHis g σ1 h (fun i => h + 1 + 16 * i) ∧ (∀ j, j < 4 → sPlant g σ1 (h + 1 + 16 * j)) ∧ (∀ a, a < h → σ1.2.1 a = sh a ∧ σ1.2.2 a = G a ∧ I1 a = I a) ∧ I1 h = kZ)) := by
  refine ct_of pn4 rfl (Nat.le_of_ble_eq_true rfl) ok_X4_init.1 trivial ?_
  show wp _ _ _ _ _ _ _ _ 0 [some (.ref h)] []
  refine w_aload_0 (pc := 0) dX4_init_0 ?_
  refine w_objInit (pc := 1) t261 t55 t56 ⟨Nat.le_of_ble_eq_true rfl, Nat.le_of_ble_eq_true rfl⟩ dX4_init_1 ?_
  refine w_aload_0 (pc := 4) dX4_init_4 ?_
  refine w_new (pc := 5) (N := (h + 1)) kc6 rfl t262 t58 t36 ⟨Nat.le_of_ble_eq_true rfl, Nat.le_of_ble_eq_true rfl⟩ dX4_init_5 ?_
  refine w_dup_a (pc := 8) dX4_init_8 ?_
  refine w_callI_C (pc := 9) (as := []) (c_Plant_init (p := h + 1) (by omega) (by simp [va_up]) (by simp [va_up])) rfl ok_X6_init rfl t60 t263 ⟨⟨Nat.le_of_ble_eq_true rfl, Nat.le_of_ble_eq_true rfl⟩, Nat.le_of_ble_eq_true rfl, Nat.le_of_ble_eq_true rfl⟩ rfl (Nat.le_of_ble_eq_true rfl) dX4_init_9 (fun N9 S9 G9 I9 h9 => ?_)
  obtain ⟨e9, P0, -, F9⟩ := h9
  obtain rfl : N9 = h + 17 := e9
  have E9 : ∀ a, a < h + 1 → S9 a = sh a ∧ (a ≠ h → G9 a = G a) ∧ I9 a = I a := by
    intro a ha
    have m : ¬ a = h + 1 := by omega
    refine ⟨(F9 a ha).1.trans (va_up_ne _ _ m), fun hne => (F9 a ha).2.1.trans ?_, (F9 a ha).2.2.trans (va_up_ne _ _ m)⟩
    simp [kgst, va_up, m, hne]
  have hs : S9 h = (4, 0) := (E9 h (by omega)).1.trans hs
  have hz : I9 h = kZ := (E9 h (by omega)).2.2.trans hz
  have Fr : ∀ a, a < h → S9 a = sh a ∧ G9 a = G a ∧ I9 a = I a := fun a ha => ⟨(E9 a (by omega)).1, ((E9 a (by omega)).2.1 (by omega)), (E9 a (by omega)).2.2⟩
  refine w_putR (pc := 12) (x := some ((h + 1))) kc4 0 (by have := hb; (try dsimp only); omega) (by first | exact hs | (dsimp only; (repeat rw [va_up_ne _ _ (by omega)]); exact hs)) rfl t264 rfl (tyX4_ok 0 (by decide)) rfl rfl dX4_init_12 ?_
  refine w_aload_0 (pc := 15) dX4_init_15 ?_
  refine w_new (pc := 16) (N := (h + 17)) kc6 rfl t262 t58 t36 ⟨Nat.le_of_ble_eq_true rfl, Nat.le_of_ble_eq_true rfl⟩ dX4_init_16 ?_
  refine w_dup_a (pc := 19) dX4_init_19 ?_
  refine w_callI_C (pc := 20) (as := []) (c_Plant_init (p := h + 17) (by omega) (by simp [va_up]) (by simp [va_up])) rfl ok_X6_init rfl t60 t263 ⟨⟨Nat.le_of_ble_eq_true rfl, Nat.le_of_ble_eq_true rfl⟩, Nat.le_of_ble_eq_true rfl, Nat.le_of_ble_eq_true rfl⟩ rfl (Nat.le_of_ble_eq_true rfl) dX4_init_20 (fun N20 S20 G20 I20 h20 => ?_)
  obtain ⟨e20, P1, -, F20⟩ := h20
  obtain rfl : N20 = h + 33 := e20
  have E20 : ∀ a, a < h + 17 → S20 a = S9 a ∧ (a ≠ h → G20 a = G9 a) ∧ I20 a = I9 a := by
    intro a ha
    have m : ¬ a = h + 17 := by omega
    refine ⟨(F20 a ha).1.trans (va_up_ne _ _ m), fun hne => (F20 a ha).2.1.trans ?_, (F20 a ha).2.2.trans (va_up_ne _ _ m)⟩
    simp [kgst, va_up, m, hne]
  have P0 := sP_ext (σ' := (h + 33, S20, G20)) P0 (by dsimp only; omega) (fun a x1 x2 => ⟨(E20 a (by omega)).1, (E20 a (by omega)).2.1 (by omega)⟩)
  have g0 : G20 h 0 = some (h + 1) := (congrFun (F20 h (by omega)).2.1 0).trans (by simp [kgst, va_up])
  have hs : S20 h = (4, 0) := (E20 h (by omega)).1.trans hs
  have hz : I20 h = kZ := (E20 h (by omega)).2.2.trans hz
  have Fr : ∀ a, a < h → S20 a = sh a ∧ G20 a = G a ∧ I20 a = I a := fun a ha => ⟨(E20 a (by omega)).1.trans (Fr a ha).1, ((E20 a (by omega)).2.1 (by omega)).trans (Fr a ha).2.1, (E20 a (by omega)).2.2.trans (Fr a ha).2.2⟩
  refine w_putR (pc := 23) (x := some ((h + 17))) kc4 1 (by have := hb; (try dsimp only); omega) (by first | exact hs | (dsimp only; (repeat rw [va_up_ne _ _ (by omega)]); exact hs)) rfl t265 rfl (tyX4_ok 1 (by decide)) rfl rfl dX4_init_23 ?_
  refine w_aload_0 (pc := 26) dX4_init_26 ?_
  refine w_new (pc := 27) (N := (h + 33)) kc6 rfl t262 t58 t36 ⟨Nat.le_of_ble_eq_true rfl, Nat.le_of_ble_eq_true rfl⟩ dX4_init_27 ?_
  refine w_dup_a (pc := 30) dX4_init_30 ?_
  refine w_callI_C (pc := 31) (as := []) (c_Plant_init (p := h + 33) (by omega) (by simp [va_up]) (by simp [va_up])) rfl ok_X6_init rfl t60 t263 ⟨⟨Nat.le_of_ble_eq_true rfl, Nat.le_of_ble_eq_true rfl⟩, Nat.le_of_ble_eq_true rfl, Nat.le_of_ble_eq_true rfl⟩ rfl (Nat.le_of_ble_eq_true rfl) dX4_init_31 (fun N31 S31 G31 I31 h31 => ?_)
  obtain ⟨e31, P2, -, F31⟩ := h31
  obtain rfl : N31 = h + 49 := e31
  have E31 : ∀ a, a < h + 33 → S31 a = S20 a ∧ (a ≠ h → G31 a = G20 a) ∧ I31 a = I20 a := by
    intro a ha
    have m : ¬ a = h + 33 := by omega
    refine ⟨(F31 a ha).1.trans (va_up_ne _ _ m), fun hne => (F31 a ha).2.1.trans ?_, (F31 a ha).2.2.trans (va_up_ne _ _ m)⟩
    simp [kgst, va_up, m, hne]
  have P0 := sP_ext (σ' := (h + 49, S31, G31)) P0 (by dsimp only; omega) (fun a x1 x2 => ⟨(E31 a (by omega)).1, (E31 a (by omega)).2.1 (by omega)⟩)
  have P1 := sP_ext (σ' := (h + 49, S31, G31)) P1 (by dsimp only; omega) (fun a x1 x2 => ⟨(E31 a (by omega)).1, (E31 a (by omega)).2.1 (by omega)⟩)
  have g0 : G31 h 0 = some (h + 1) := (congrFun (F31 h (by omega)).2.1 0).trans (by simp [kgst, va_up, g0])
  have g1 : G31 h 1 = some (h + 17) := (congrFun (F31 h (by omega)).2.1 1).trans (by simp [kgst, va_up])
  have hs : S31 h = (4, 0) := (E31 h (by omega)).1.trans hs
  have hz : I31 h = kZ := (E31 h (by omega)).2.2.trans hz
  have Fr : ∀ a, a < h → S31 a = sh a ∧ G31 a = G a ∧ I31 a = I a := fun a ha => ⟨(E31 a (by omega)).1.trans (Fr a ha).1, ((E31 a (by omega)).2.1 (by omega)).trans (Fr a ha).2.1, (E31 a (by omega)).2.2.trans (Fr a ha).2.2⟩
  refine w_putR (pc := 34) (x := some ((h + 33))) kc4 2 (by have := hb; (try dsimp only); omega) (by first | exact hs | (dsimp only; (repeat rw [va_up_ne _ _ (by omega)]); exact hs)) rfl t266 rfl (tyX4_ok 2 (by decide)) rfl rfl dX4_init_34 ?_
  refine w_aload_0 (pc := 37) dX4_init_37 ?_
  refine w_new (pc := 38) (N := (h + 49)) kc6 rfl t262 t58 t36 ⟨Nat.le_of_ble_eq_true rfl, Nat.le_of_ble_eq_true rfl⟩ dX4_init_38 ?_
  refine w_dup_a (pc := 41) dX4_init_41 ?_
  refine w_callI_C (pc := 42) (as := []) (c_Plant_init (p := h + 49) (by omega) (by simp [va_up]) (by simp [va_up])) rfl ok_X6_init rfl t60 t263 ⟨⟨Nat.le_of_ble_eq_true rfl, Nat.le_of_ble_eq_true rfl⟩, Nat.le_of_ble_eq_true rfl, Nat.le_of_ble_eq_true rfl⟩ rfl (Nat.le_of_ble_eq_true rfl) dX4_init_42 (fun N42 S42 G42 I42 h42 => ?_)
  obtain ⟨e42, P3, -, F42⟩ := h42
  obtain rfl : N42 = h + 65 := e42
  have E42 : ∀ a, a < h + 49 → S42 a = S31 a ∧ (a ≠ h → G42 a = G31 a) ∧ I42 a = I31 a := by
    intro a ha
    have m : ¬ a = h + 49 := by omega
    refine ⟨(F42 a ha).1.trans (va_up_ne _ _ m), fun hne => (F42 a ha).2.1.trans ?_, (F42 a ha).2.2.trans (va_up_ne _ _ m)⟩
    simp [kgst, va_up, m, hne]
  have P0 := sP_ext (σ' := (h + 65, S42, G42)) P0 (by dsimp only; omega) (fun a x1 x2 => ⟨(E42 a (by omega)).1, (E42 a (by omega)).2.1 (by omega)⟩)
  have P1 := sP_ext (σ' := (h + 65, S42, G42)) P1 (by dsimp only; omega) (fun a x1 x2 => ⟨(E42 a (by omega)).1, (E42 a (by omega)).2.1 (by omega)⟩)
  have P2 := sP_ext (σ' := (h + 65, S42, G42)) P2 (by dsimp only; omega) (fun a x1 x2 => ⟨(E42 a (by omega)).1, (E42 a (by omega)).2.1 (by omega)⟩)
  have g0 : G42 h 0 = some (h + 1) := (congrFun (F42 h (by omega)).2.1 0).trans (by simp [kgst, va_up, g0, g1])
  have g1 : G42 h 1 = some (h + 17) := (congrFun (F42 h (by omega)).2.1 1).trans (by simp [kgst, va_up, g0, g1])
  have g2 : G42 h 2 = some (h + 33) := (congrFun (F42 h (by omega)).2.1 2).trans (by simp [kgst, va_up])
  have hs : S42 h = (4, 0) := (E42 h (by omega)).1.trans hs
  have hz : I42 h = kZ := (E42 h (by omega)).2.2.trans hz
  have Fr : ∀ a, a < h → S42 a = sh a ∧ G42 a = G a ∧ I42 a = I a := fun a ha => ⟨(E42 a (by omega)).1.trans (Fr a ha).1, ((E42 a (by omega)).2.1 (by omega)).trans (Fr a ha).2.1, (E42 a (by omega)).2.2.trans (Fr a ha).2.2⟩
  refine w_putR (pc := 45) (x := some ((h + 49))) kc4 3 (by have := hb; (try dsimp only); omega) (by first | exact hs | (dsimp only; (repeat rw [va_up_ne _ _ (by omega)]); exact hs)) rfl t267 rfl (tyX4_ok 3 (by decide)) rfl rfl dX4_init_45 ?_
  refine w_vret (pc := 48) rfl ⟨Nat.le_refl _, Nat.le_refl _⟩ dX4_init_48 ?_
  have Q : ∀ p, sPlant g (h + 65, S42, G42) p → h < p → sPlant g (h + 65, S42, kgst G42 h 3 (some (h + 49))) p := fun p hp hlt => sP_ext hp (Nat.le_refl _) (fun a x1 x2 => ⟨rfl, by simp [kgst, va_up, show ¬ a = h by omega]⟩)
  refine ⟨rfl, rfl, ⟨⟨hb, by dsimp only; omega⟩, hs, ?_, ?_, ?_, ?_⟩, fun j hj => ?_, fun a ha => ⟨(Fr a ha).1, ?_, (Fr a ha).2.2⟩, hz⟩
  · simp [kgst, va_up, g0]
  · simp [kgst, va_up, g1, Nat.add_assoc]
  · simp [kgst, va_up, g2, Nat.add_assoc]
  · simp [kgst, va_up, Nat.add_assoc]
  · rcases (show j = 0 ∨ j = 1 ∨ j = 2 ∨ j = 3 by omega) with rfl | rfl | rfl | rfl
    · exact Q _ P0 (by omega)
    · exact Q _ P1 (by omega)
    · exact Q _ P2 (by omega)
    · exact Q _ P3 (by omega)
  · have m : ¬ a = h := by omega
    simp only [kgst, va_up, if_neg m]
    exact (Fr a ha).2.1
