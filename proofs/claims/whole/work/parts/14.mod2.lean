theorem fa0 {x : Int32} (h : x.toInt64 = 0) : x = 0 := by
  have h2 : x.toInt64.toInt = (0 : Int64).toInt := by rw [h]
  rw [Int32.toInt_toInt64] at h2
  exact Int32.toInt_inj.mp h2
theorem lc_lt {x y : Int64} (h : lg_cmp x y < 0) : x < y := (lg_cmp_lt x y).mp h
theorem lc_gt {x y : Int64} (h : ¬ lg_cmp x y ≤ 0) : y < x := Int64.not_le.mp (fun q => h ((lg_cmp_le x y).mpr q))
theorem lc_nlt {x y : Int64} (h : ¬ lg_cmp x y < 0) : ¬ x < y := fun q => h ((lg_cmp_lt x y).mpr q)
theorem lc_ngt {x y : Int64} (h : lg_cmp x y ≤ 0) : ¬ y < x := Int64.not_lt.mpr ((lg_cmp_le x y).mp h)
set_option maxHeartbeats 4000000 in
set_option maxRecDepth 100000 in
theorem c_Mod_lot {g : kG} {σ : kS} {I : kI} {q a b c d e f : Nat} (hO : sMod g σ q a b c d e f) {n0 : Nat} (hp : I q 4 = nI n0) (hp2 : n0 ≤ 4) (hS : SX (I a)) {x y : Int32} : ct g mX11_lot ⟨1, 0, 0, 22⟩ [.ref q, .int x, .int y] σ I (qI (oLot (I a) x y).1 σ (opM q a b I (oLot (I a) x y))) := by
  refine ct_of pn11 rfl (Nat.le_of_ble_eq_true rfl) ok_X11_lot.1 trivial ?_
  show wp _ _ _ _ _ _ _ _ 0 [some (.ref q), some (.int x), some (.int y)] []
  have o0 := hO.2.2.2.2.2.2.2.2.2.2.2.2.2.2.2.2.2.2.2.2.1
  have o1 := hO.2.2.2.2.2.2.2.2.2.2.2.2.2.2.2.2.2.2.2.2.2.1
  have o2 := hO.2.2.2.2.2.2.2.2.2.2.2.2.2.2.2.2.2.2.2.2.2.2.1
  have o3 := hO.2.2.2.2.2.2.2.2.2.2.2.2.2.2.2.2.2.2.2.2.2.2.2.1
  have o4 := hO.2.2.2.2.2.2.2.2.2.2.2.2.2.2.2.2.2.2.2.2.2.2.2.2.1
  have o5 := hO.2.2.2.2.2.2.2.2.2.2.2.2.2.2.2.2.2.2.2.2.2.2.2.2.2
  refine w_iload_1 (pc := 0) dX11_lot_0 ?_
  refine w_iconst (pc := 1) (v := 0) dX11_lot_1 (by decide) ?_
  refine w_iconst (pc := 2) (v := 3) dX11_lot_2 (by decide) ?_
  refine w_callS_I (pc := 3) (c_Mod_in) ok_X11_in t811 t810 ⟨Nat.le_of_ble_eq_true rfl, Nat.le_of_ble_eq_true rfl⟩ ⟨rfl, rfl⟩ ⟨Nat.le_refl _, Nat.le_refl _⟩ rfl (Nat.le_of_ble_eq_true rfl) dX11_lot_3 ?_
  refine w_if_eq (pc := 6) (tgt := 20) dX11_lot_6 (by decide) (fun c6 => ?_) (fun c6 => ?_)
  · refine w_ldc (pc := 20) (v := -1000001) t813 dX11_lot_20 ?_
    refine w_iret (pc := 22) rfl ⟨Nat.le_refl _, Nat.le_refl _⟩ dX11_lot_22 ?_
    have ho : oLot (I a) x y = (-1000001, none) := by unfold oLot; rw [if_pos (fun h => b0 c6 h.1)]
    exact ⟨by rw [ho], rfl, by rw [ho]; rfl⟩
  · refine w_iload_2 (pc := 9) dX11_lot_9 ?_
    refine w_iconst (pc := 10) (v := 1) dX11_lot_10 (by decide) ?_
    refine w_sipush (pc := 11) (v := 9999) dX11_lot_11 (by decide) ?_
    refine w_callS_I (pc := 14) (c_Mod_in) ok_X11_in t811 t810 ⟨Nat.le_of_ble_eq_true rfl, Nat.le_of_ble_eq_true rfl⟩ ⟨rfl, rfl⟩ ⟨Nat.le_refl _, Nat.le_refl _⟩ rfl (Nat.le_of_ble_eq_true rfl) dX11_lot_14 ?_
    refine w_if_ne (pc := 17) (tgt := 23) dX11_lot_17 (by decide) (fun c17 => ?_) (fun c17 => ?_)
    · refine w_aload_0 (pc := 23) dX11_lot_23 ?_
      refine w_getR (pc := 24) (b := a) kc11 0 hO.1 hO.2.1 rfl hO.2.2.2.2.2.2.2.2.2.2.2.2.2.2.1 t763 dX11_lot_24 ?_
      refine w_bipush (pc := 27) (v := 13) dX11_lot_27 (by decide) ?_
      refine w_iald (pc := 29) (j := 13) hO.2.2.1 hO.2.2.2.1 rfl (by decide) (by decide) dX11_lot_29 ?_
      refine w_bipush (pc := 30) (v := 6) dX11_lot_30 (by decide) ?_
      refine w_icmp_ne (pc := 32) (tgt := 38) dX11_lot_32 (by decide) (fun c32 => ?_) (fun c32 => ?_)
      · obtain ⟨l1, l2, l3⟩ := SX_L hS
        have l4 : nLo (I a) < 6 := by have := nx_ne c32 l2 (by omega) (b := 6) rfl (by omega); omega
        refine w_aload_0 (pc := 38) dX11_lot_38 ?_
        refine w_callV_V (pc := 39) (c_Mod_changes hO hp hp2) ok_X11_changes t817 t9 kc11 hO.1 hO.2.1 t815 ⟨Nat.le_of_ble_eq_true rfl, Nat.le_of_ble_eq_true rfl⟩ ⟨rfl, rfl⟩ ⟨Nat.le_refl _, Nat.le_refl _⟩ rfl (Nat.le_of_ble_eq_true rfl) dX11_lot_39 ?_
        have hJ : chM q a b I a = I a := chM_a (by omega) (by omega)
        generalize hJe : chM q a b I = J at hJ ⊢
        refine w_aload_0 (pc := 42) dX11_lot_42 ?_
        refine w_getR (pc := 43) (b := a) kc11 0 hO.1 hO.2.1 rfl hO.2.2.2.2.2.2.2.2.2.2.2.2.2.2.1 t763 dX11_lot_43 ?_
        refine w_bipush (pc := 46) (v := 69) dX11_lot_46 (by decide) ?_
        refine w_iconst (pc := 48) (v := 2) dX11_lot_48 (by decide) ?_
        refine w_aload_0 (pc := 49) dX11_lot_49 ?_
        refine w_getR (pc := 50) (b := a) kc11 0 hO.1 hO.2.1 rfl hO.2.2.2.2.2.2.2.2.2.2.2.2.2.2.1 t763 dX11_lot_50 ?_
        refine w_bipush (pc := 53) (v := 13) dX11_lot_53 (by decide) ?_
        refine w_iald (pc := 55) (j := 13) hO.2.2.1 hO.2.2.2.1 rfl (by decide) (by decide) dX11_lot_55 ?_
        refine w_imul (pc := 56) dX11_lot_56 ?_
        refine w_iadd (pc := 57) dX11_lot_57 ?_
        refine w_iload_1 (pc := 58) dX11_lot_58 ?_
        refine w_iast (pc := 59) (j := 69 + 2 * nLo (I a)) hO.2.2.1 hO.2.2.2.1 (nx_2 (by rw [hJ]; exact l2) rfl) (by omega) (by decide) dX11_lot_59 ?_
        refine w_aload_0 (pc := 60) dX11_lot_60 ?_
        refine w_getR (pc := 61) (b := a) kc11 0 hO.1 hO.2.1 rfl hO.2.2.2.2.2.2.2.2.2.2.2.2.2.2.1 t763 dX11_lot_61 ?_
        refine w_bipush (pc := 64) (v := 69) dX11_lot_64 (by decide) ?_
        refine w_iconst (pc := 66) (v := 2) dX11_lot_66 (by decide) ?_
        refine w_aload_0 (pc := 67) dX11_lot_67 ?_
        refine w_getR (pc := 68) (b := a) kc11 0 hO.1 hO.2.1 rfl hO.2.2.2.2.2.2.2.2.2.2.2.2.2.2.1 t763 dX11_lot_68 ?_
        refine w_bipush (pc := 71) (v := 13) dX11_lot_71 (by decide) ?_
        refine w_iald (pc := 73) (j := 13) hO.2.2.1 hO.2.2.2.1 rfl (by decide) (by decide) dX11_lot_73 ?_
        refine w_imul (pc := 74) dX11_lot_74 ?_
        refine w_iadd (pc := 75) dX11_lot_75 ?_
        refine w_iconst (pc := 76) (v := 1) dX11_lot_76 (by decide) ?_
        refine w_iadd (pc := 77) dX11_lot_77 ?_
        refine w_iload_2 (pc := 78) dX11_lot_78 ?_
        refine w_iast (pc := 79) (j := 70 + 2 * nLo (I a)) hO.2.2.1 hO.2.2.2.1 (by rw [nx_2 (z := 69) (c := 69) (k := nLo (I a)) (by rw [kst_s, upd_ne (by omega), hJ]; exact l2) rfl, nI_1]; congr 1; omega) (by omega) (by decide) dX11_lot_79 ?_
        refine w_aload_0 (pc := 80) dX11_lot_80 ?_
        refine w_getR (pc := 81) (b := a) kc11 0 hO.1 hO.2.1 rfl hO.2.2.2.2.2.2.2.2.2.2.2.2.2.2.1 t763 dX11_lot_81 ?_
        refine w_bipush (pc := 84) (v := 13) dX11_lot_84 (by decide) ?_
        refine w_dup2 (pc := 86) dX11_lot_86 ?_
        refine w_iald (pc := 87) (j := 13) hO.2.2.1 hO.2.2.2.1 rfl (by decide) (by decide) dX11_lot_87 ?_
        refine w_iconst (pc := 88) (v := 1) dX11_lot_88 (by decide) ?_
        refine w_iadd (pc := 89) dX11_lot_89 ?_
        refine w_iast (pc := 90) (j := 13) hO.2.2.1 hO.2.2.2.1 rfl (by decide) (by decide) dX11_lot_90 ?_
        refine w_aload_0 (pc := 91) dX11_lot_91 ?_
        refine w_getR (pc := 92) (b := a) kc11 0 hO.1 hO.2.1 rfl hO.2.2.2.2.2.2.2.2.2.2.2.2.2.2.1 t763 dX11_lot_92 ?_
        refine w_bipush (pc := 95) (v := 9) dX11_lot_95 (by decide) ?_
        refine w_dup2 (pc := 97) dX11_lot_97 ?_
        refine w_iald (pc := 98) (j := 9) hO.2.2.1 hO.2.2.2.1 rfl (by decide) (by decide) dX11_lot_98 ?_
        refine w_iload_2 (pc := 99) dX11_lot_99 ?_
        refine w_iadd (pc := 100) dX11_lot_100 ?_
        refine w_iast (pc := 101) (j := 9) hO.2.2.1 hO.2.2.2.1 rfl (by decide) (by decide) dX11_lot_101 ?_
        refine w_aload_0 (pc := 102) dX11_lot_102 ?_
        refine w_getR (pc := 103) (b := a) kc11 0 hO.1 hO.2.1 rfl hO.2.2.2.2.2.2.2.2.2.2.2.2.2.2.1 t763 dX11_lot_103 ?_
        refine w_bipush (pc := 106) (v := 13) dX11_lot_106 (by decide) ?_
        refine w_iald (pc := 108) (j := 13) hO.2.2.1 hO.2.2.2.1 rfl (by decide) (by decide) dX11_lot_108 ?_
        refine w_iret (pc := 109) rfl ⟨Nat.le_refl _, Nat.le_refl _⟩ dX11_lot_109 ?_
        have ho : oLot (I a) x y = (I a 13 + 1, some (upd (upd (upd (upd (I a) (69 + 2 * nLo (I a)) x) (70 + 2 * nLo (I a)) y) 13 (I a 13 + 1)) 9 (I a 9 + y))) := by unfold oLot; rw [if_neg (fun h => h ⟨b1 c6, b1 c17⟩), if_neg c32]
        refine ⟨?_, rfl, ?_⟩
        · rw [ho]
          simp [kst, va_up_self, upd, hJ, show ¬ 13 = 69 + 2 * nLo (I a) by omega, show ¬ 13 = 70 + 2 * nLo (I a) by omega]
        · rw [ho]
          show _ = va_up (chM q a b I) a _
          rw [hJe]
          simp [kst, va_up_self, va_uu, hJ, upd_ne, show ¬ 9 = 69 + 2 * nLo (I a) by omega, show ¬ 9 = 70 + 2 * nLo (I a) by omega, show ¬ 13 = 69 + 2 * nLo (I a) by omega, show ¬ 13 = 70 + 2 * nLo (I a) by omega]
      · refine w_ldc (pc := 35) (v := -1000003) t814 dX11_lot_35 ?_
        refine w_iret (pc := 37) rfl ⟨Nat.le_refl _, Nat.le_refl _⟩ dX11_lot_37 ?_
        have ho : oLot (I a) x y = (-1000003, none) := by unfold oLot; rw [if_neg (fun h => h ⟨b1 c6, b1 c17⟩), if_pos c32]
        exact ⟨by rw [ho], rfl, by rw [ho]; rfl⟩
    · refine w_ldc (pc := 20) (v := -1000001) t813 dX11_lot_20 ?_
      refine w_iret (pc := 22) rfl ⟨Nat.le_refl _, Nat.le_refl _⟩ dX11_lot_22 ?_
      have ho : oLot (I a) x y = (-1000001, none) := by unfold oLot; rw [if_pos (fun h => b0 c17 h.2)]
      exact ⟨by rw [ho], rfl, by rw [ho]; rfl⟩
set_option maxHeartbeats 4000000 in
set_option maxRecDepth 100000 in
theorem c_Mod_gate {g : kG} {σ : kS} {I : kI} {q a b c d e f : Nat} (hO : sMod g σ q a b c d e f) {n0 : Nat} (hp : I q 4 = nI n0) (hp2 : n0 ≤ 4) {x : Int32} : ct g mX11_gate ⟨1, 0, 0, 22⟩ [.ref q, .int x] σ I (qI (oGate (I a) x).1 σ (opM q a b I (oGate (I a) x))) := by
  refine ct_of pn11 rfl (Nat.le_of_ble_eq_true rfl) ok_X11_gate.1 trivial ?_
  show wp _ _ _ _ _ _ _ _ 0 [some (.ref q), some (.int x), none] []
  have o0 := hO.2.2.2.2.2.2.2.2.2.2.2.2.2.2.2.2.2.2.2.2.1
  have o1 := hO.2.2.2.2.2.2.2.2.2.2.2.2.2.2.2.2.2.2.2.2.2.1
  have o2 := hO.2.2.2.2.2.2.2.2.2.2.2.2.2.2.2.2.2.2.2.2.2.2.1
  have o3 := hO.2.2.2.2.2.2.2.2.2.2.2.2.2.2.2.2.2.2.2.2.2.2.2.1
  have o4 := hO.2.2.2.2.2.2.2.2.2.2.2.2.2.2.2.2.2.2.2.2.2.2.2.2.1
  have o5 := hO.2.2.2.2.2.2.2.2.2.2.2.2.2.2.2.2.2.2.2.2.2.2.2.2.2
  refine w_iload_1 (pc := 0) dX11_gate_0 ?_
  refine w_iconst (pc := 1) (v := 0) dX11_gate_1 (by decide) ?_
  refine w_sipush (pc := 2) (v := 200) dX11_gate_2 (by decide) ?_
  refine w_callS_I (pc := 5) (c_Mod_in) ok_X11_in t811 t810 ⟨Nat.le_of_ble_eq_true rfl, Nat.le_of_ble_eq_true rfl⟩ ⟨rfl, rfl⟩ ⟨Nat.le_refl _, Nat.le_refl _⟩ rfl (Nat.le_of_ble_eq_true rfl) dX11_gate_5 ?_
  refine w_if_ne (pc := 8) (tgt := 14) dX11_gate_8 (by decide) (fun c8 => ?_) (fun c8 => ?_)
  · refine w_aload_0 (pc := 14) dX11_gate_14 ?_
    refine w_callV_V (pc := 15) (c_Mod_changes hO hp hp2) ok_X11_changes t817 t9 kc11 hO.1 hO.2.1 t815 ⟨Nat.le_of_ble_eq_true rfl, Nat.le_of_ble_eq_true rfl⟩ ⟨rfl, rfl⟩ ⟨Nat.le_refl _, Nat.le_refl _⟩ rfl (Nat.le_of_ble_eq_true rfl) dX11_gate_15 ?_
    have hJ : chM q a b I a = I a := chM_a (by omega) (by omega)
    generalize hJe : chM q a b I = J at hJ ⊢
    refine w_aload_0 (pc := 18) dX11_gate_18 ?_
    refine w_getR (pc := 19) (b := a) kc11 0 hO.1 hO.2.1 rfl hO.2.2.2.2.2.2.2.2.2.2.2.2.2.2.1 t763 dX11_gate_19 ?_
    refine w_iconst (pc := 22) (v := 0) dX11_gate_22 (by decide) ?_
    refine w_iald (pc := 23) (j := 0) hO.2.2.1 hO.2.2.2.1 rfl (by decide) (by decide) dX11_gate_23 ?_
    refine w_istore_2 (pc := 24) dX11_gate_24 rfl ?_
    refine w_aload_0 (pc := 25) dX11_gate_25 ?_
    refine w_getR (pc := 26) (b := a) kc11 0 hO.1 hO.2.1 rfl hO.2.2.2.2.2.2.2.2.2.2.2.2.2.2.1 t763 dX11_gate_26 ?_
    refine w_iconst (pc := 29) (v := 0) dX11_gate_29 (by decide) ?_
    refine w_iload_1 (pc := 30) dX11_gate_30 ?_
    refine w_iast (pc := 31) (j := 0) hO.2.2.1 hO.2.2.2.1 rfl (by decide) (by decide) dX11_gate_31 ?_
    refine w_iload_2 (pc := 32) dX11_gate_32 ?_
    refine w_iret (pc := 33) rfl ⟨Nat.le_refl _, Nat.le_refl _⟩ dX11_gate_33 ?_
    have ho : oGate (I a) x = (I a 0, some (upd (I a) 0 x)) := by unfold oGate; rw [if_neg (fun h => h (b1 c8))]
    refine ⟨?_, rfl, ?_⟩
    · rw [ho]
      rw [hJ]
    · rw [ho]
      show _ = va_up (chM q a b I) a _
      rw [hJe]
      simp only [kst, va_up_self, va_uu, hJ]
  · refine w_ldc (pc := 11) (v := -1000001) t813 dX11_gate_11 ?_
    refine w_iret (pc := 13) rfl ⟨Nat.le_refl _, Nat.le_refl _⟩ dX11_gate_13 ?_
    have ho : oGate (I a) x = (-1000001, none) := by unfold oGate; rw [if_pos (b0 c8)]
    exact ⟨by rw [ho], rfl, by rw [ho]; rfl⟩
set_option maxHeartbeats 4000000 in
set_option maxRecDepth 100000 in
theorem c_Mod_run {g : kG} {σ : kS} {I : kI} {q a b c d e f : Nat} (hO : sMod g σ q a b c d e f) {n0 : Nat} (hp : I q 4 = nI n0) (hp2 : n0 ≤ 4) {x : Int32} : ct g mX11_run ⟨1, 0, 0, 22⟩ [.ref q, .int x] σ I (qI (oRun (I a) x).1 σ (opM q a b I (oRun (I a) x))) := by
  refine ct_of pn11 rfl (Nat.le_of_ble_eq_true rfl) ok_X11_run.1 trivial ?_
  show wp _ _ _ _ _ _ _ _ 0 [some (.ref q), some (.int x), none] []
  have o0 := hO.2.2.2.2.2.2.2.2.2.2.2.2.2.2.2.2.2.2.2.2.1
  have o1 := hO.2.2.2.2.2.2.2.2.2.2.2.2.2.2.2.2.2.2.2.2.2.1
  have o2 := hO.2.2.2.2.2.2.2.2.2.2.2.2.2.2.2.2.2.2.2.2.2.2.1
  have o3 := hO.2.2.2.2.2.2.2.2.2.2.2.2.2.2.2.2.2.2.2.2.2.2.2.1
  have o4 := hO.2.2.2.2.2.2.2.2.2.2.2.2.2.2.2.2.2.2.2.2.2.2.2.2.1
  have o5 := hO.2.2.2.2.2.2.2.2.2.2.2.2.2.2.2.2.2.2.2.2.2.2.2.2.2
  refine w_iload_1 (pc := 0) dX11_run_0 ?_
  refine w_iconst (pc := 1) (v := 0) dX11_run_1 (by decide) ?_
  refine w_iconst (pc := 2) (v := 1) dX11_run_2 (by decide) ?_
  refine w_callS_I (pc := 3) (c_Mod_in) ok_X11_in t811 t810 ⟨Nat.le_of_ble_eq_true rfl, Nat.le_of_ble_eq_true rfl⟩ ⟨rfl, rfl⟩ ⟨Nat.le_refl _, Nat.le_refl _⟩ rfl (Nat.le_of_ble_eq_true rfl) dX11_run_3 ?_
  refine w_if_ne (pc := 6) (tgt := 12) dX11_run_6 (by decide) (fun c6 => ?_) (fun c6 => ?_)
  · refine w_aload_0 (pc := 12) dX11_run_12 ?_
    refine w_callV_I (pc := 13) (c_Mod_hasBatch hO) ok_X11_hasBatch t829 t10 kc11 hO.1 hO.2.1 t827 ⟨Nat.le_of_ble_eq_true rfl, Nat.le_of_ble_eq_true rfl⟩ ⟨rfl, rfl⟩ ⟨Nat.le_refl _, Nat.le_refl _⟩ rfl (Nat.le_of_ble_eq_true rfl) dX11_run_13 ?_
    refine w_if_eq (pc := 16) (tgt := 22) dX11_run_16 (by decide) (fun c16 => ?_) (fun c16 => ?_)
    · refine w_aload_0 (pc := 22) dX11_run_22 ?_
      refine w_callV_V (pc := 23) (c_Mod_changes hO hp hp2) ok_X11_changes t817 t9 kc11 hO.1 hO.2.1 t815 ⟨Nat.le_of_ble_eq_true rfl, Nat.le_of_ble_eq_true rfl⟩ ⟨rfl, rfl⟩ ⟨Nat.le_refl _, Nat.le_refl _⟩ rfl (Nat.le_of_ble_eq_true rfl) dX11_run_23 ?_
      have hJ : chM q a b I a = I a := chM_a (by omega) (by omega)
      generalize hJe : chM q a b I = J at hJ ⊢
      refine w_aload_0 (pc := 26) dX11_run_26 ?_
      refine w_getR (pc := 27) (b := a) kc11 0 hO.1 hO.2.1 rfl hO.2.2.2.2.2.2.2.2.2.2.2.2.2.2.1 t763 dX11_run_27 ?_
      refine w_iconst (pc := 30) (v := 1) dX11_run_30 (by decide) ?_
      refine w_iald (pc := 31) (j := 1) hO.2.2.1 hO.2.2.2.1 rfl (by decide) (by decide) dX11_run_31 ?_
      refine w_istore_2 (pc := 32) dX11_run_32 rfl ?_
      refine w_aload_0 (pc := 33) dX11_run_33 ?_
      refine w_getR (pc := 34) (b := a) kc11 0 hO.1 hO.2.1 rfl hO.2.2.2.2.2.2.2.2.2.2.2.2.2.2.1 t763 dX11_run_34 ?_
      refine w_iconst (pc := 37) (v := 1) dX11_run_37 (by decide) ?_
      refine w_iload_1 (pc := 38) dX11_run_38 ?_
      refine w_iast (pc := 39) (j := 1) hO.2.2.1 hO.2.2.2.1 rfl (by decide) (by decide) dX11_run_39 ?_
      refine w_iload_2 (pc := 40) dX11_run_40 ?_
      refine w_iret (pc := 41) rfl ⟨Nat.le_refl _, Nat.le_refl _⟩ dX11_run_41 ?_
      have ho : oRun (I a) x = (I a 1, some (upd (I a) 1 x)) := by unfold oRun; rw [if_neg (fun h => h (b1 c6)), if_neg (b0 c16)]
      refine ⟨?_, rfl, ?_⟩
      · rw [ho]
        rw [hJ]
      · rw [ho]
        show _ = va_up (chM q a b I) a _
        rw [hJe]
        simp only [kst, va_up_self, va_uu, hJ]
    · refine w_ldc (pc := 19) (v := -1000002) t831 dX11_run_19 ?_
      refine w_iret (pc := 21) rfl ⟨Nat.le_refl _, Nat.le_refl _⟩ dX11_run_21 ?_
      have ho : oRun (I a) x = (-1000002, none) := by unfold oRun; rw [if_neg (fun h => h (b1 c6)), if_pos (b1 c16)]
      exact ⟨by rw [ho], rfl, by rw [ho]; rfl⟩
  · refine w_ldc (pc := 9) (v := -1000001) t813 dX11_run_9 ?_
    refine w_iret (pc := 11) rfl ⟨Nat.le_refl _, Nat.le_refl _⟩ dX11_run_11 ?_
    have ho : oRun (I a) x = (-1000001, none) := by unfold oRun; rw [if_pos (b0 c6)]
    exact ⟨by rw [ho], rfl, by rw [ho]; rfl⟩
set_option maxHeartbeats 4000000 in
set_option maxRecDepth 100000 in
theorem c_Mod_bin {g : kG} {σ : kS} {I : kI} {q a b c d e f : Nat} (hO : sMod g σ q a b c d e f) {n0 : Nat} (hp : I q 4 = nI n0) (hp2 : n0 ≤ 4) (hS : SX (I a))  : ct g mX11_bin ⟨1, 0, 0, 21⟩ [.ref q] σ I (qI (oBin (I a)).1 σ (opM q a b I (oBin (I a)))) := by
  refine ct_of pn11 rfl (Nat.le_of_ble_eq_true rfl) ok_X11_bin.1 trivial ?_
  show wp _ _ _ _ _ _ _ _ 0 [some (.ref q), none, none] []
  have o0 := hO.2.2.2.2.2.2.2.2.2.2.2.2.2.2.2.2.2.2.2.2.1
  have o1 := hO.2.2.2.2.2.2.2.2.2.2.2.2.2.2.2.2.2.2.2.2.2.1
  have o2 := hO.2.2.2.2.2.2.2.2.2.2.2.2.2.2.2.2.2.2.2.2.2.2.1
  have o3 := hO.2.2.2.2.2.2.2.2.2.2.2.2.2.2.2.2.2.2.2.2.2.2.2.1
  have o4 := hO.2.2.2.2.2.2.2.2.2.2.2.2.2.2.2.2.2.2.2.2.2.2.2.2.1
  have o5 := hO.2.2.2.2.2.2.2.2.2.2.2.2.2.2.2.2.2.2.2.2.2.2.2.2.2
  refine w_aload_0 (pc := 0) dX11_bin_0 ?_
  refine w_callV_I (pc := 1) (c_Mod_hasBatch hO) ok_X11_hasBatch t829 t10 kc11 hO.1 hO.2.1 t827 ⟨Nat.le_of_ble_eq_true rfl, Nat.le_of_ble_eq_true rfl⟩ ⟨rfl, rfl⟩ ⟨Nat.le_refl _, Nat.le_refl _⟩ rfl (Nat.le_of_ble_eq_true rfl) dX11_bin_1 ?_
  refine w_if_eq (pc := 4) (tgt := 10) dX11_bin_4 (by decide) (fun c4 => ?_) (fun c4 => ?_)
  · refine w_aload_0 (pc := 10) dX11_bin_10 ?_
    refine w_getR (pc := 11) (b := a) kc11 0 hO.1 hO.2.1 rfl hO.2.2.2.2.2.2.2.2.2.2.2.2.2.2.1 t763 dX11_bin_11 ?_
    refine w_bipush (pc := 14) (v := 12) dX11_bin_14 (by decide) ?_
    refine w_iald (pc := 16) (j := 12) hO.2.2.1 hO.2.2.2.1 rfl (by decide) (by decide) dX11_bin_16 ?_
    refine w_istore_1 (pc := 17) dX11_bin_17 rfl ?_
    refine w_iload_1 (pc := 18) dX11_bin_18 ?_
    refine w_bipush (pc := 19) (v := 8) dX11_bin_19 (by decide) ?_
    refine w_icmp_ne (pc := 21) (tgt := 27) dX11_bin_21 (by decide) (fun c21 => ?_) (fun c21 => ?_)
    · obtain ⟨b2l, b2⟩ := SX_B hS
      have b3 : nB (I a) < 8 := by have := nx_ne c21 b2 (by omega) (b := 8) rfl (by omega); omega
      refine w_aload_0 (pc := 27) dX11_bin_27 ?_
      refine w_callV_V (pc := 28) (c_Mod_changes hO hp hp2) ok_X11_changes t817 t9 kc11 hO.1 hO.2.1 t815 ⟨Nat.le_of_ble_eq_true rfl, Nat.le_of_ble_eq_true rfl⟩ ⟨rfl, rfl⟩ ⟨Nat.le_refl _, Nat.le_refl _⟩ rfl (Nat.le_of_ble_eq_true rfl) dX11_bin_28 ?_
      have hJ : chM q a b I a = I a := chM_a (by omega) (by omega)
      generalize hJe : chM q a b I = J at hJ ⊢
      refine w_iconst (pc := 31) (v := 0) dX11_bin_31 (by decide) ?_
      refine w_istore_2 (pc := 32) dX11_bin_32 rfl ?_
      refine w_iload_2 (pc := 33) dX11_bin_33 ?_
      refine w_bipush (pc := 34) (v := 6) dX11_bin_34 (by decide) ?_
      refine w_icmp_ge (pc := 36) (tgt := 60) dX11_bin_36 (by decide) (fun c9 => absurd c9 (by decide)) (fun _ => ?_)
      refine w_aload_0 (pc := 39) dX11_bin_39 ?_
      refine w_getR (pc := 40) (b := a) kc11 0 hO.1 hO.2.1 rfl hO.2.2.2.2.2.2.2.2.2.2.2.2.2.2.1 t763 dX11_bin_40 ?_
      refine w_bipush (pc := 43) (v := 81) dX11_bin_43 (by decide) ?_
      refine w_bipush (pc := 45) (v := 6) dX11_bin_45 (by decide) ?_
      refine w_iload_1 (pc := 47) dX11_bin_47 ?_
      refine w_imul (pc := 48) dX11_bin_48 ?_
      refine w_iadd (pc := 49) dX11_bin_49 ?_
      refine w_iload_2 (pc := 50) dX11_bin_50 ?_
      refine w_iadd (pc := 51) dX11_bin_51 ?_
      refine w_iconst (pc := 52) (v := 0) dX11_bin_52 (by decide) ?_
      refine w_iast (pc := 53) (j := 81 + 6 * nB (I a) + 0) hO.2.2.1 hO.2.2.2.1 (nx_add (nx_6 b2 (z := 81) (c := 81) rfl) rfl) (by omega) (by decide) dX11_bin_53 ?_
      refine w_iinc_2 (pc := 54) (v := 1) dX11_bin_54 (by decide) rfl ?_
      refine w_goto (pc := 57) (tgt := 33) dX11_bin_57 (by decide) ?_
      refine w_iload_2 (pc := 33) dX11_bin_33 ?_
      refine w_bipush (pc := 34) (v := 6) dX11_bin_34 (by decide) ?_
      refine w_icmp_ge (pc := 36) (tgt := 60) dX11_bin_36 (by decide) (fun c9 => absurd c9 (by decide)) (fun _ => ?_)
      refine w_aload_0 (pc := 39) dX11_bin_39 ?_
      refine w_getR (pc := 40) (b := a) kc11 0 hO.1 hO.2.1 rfl hO.2.2.2.2.2.2.2.2.2.2.2.2.2.2.1 t763 dX11_bin_40 ?_
      refine w_bipush (pc := 43) (v := 81) dX11_bin_43 (by decide) ?_
      refine w_bipush (pc := 45) (v := 6) dX11_bin_45 (by decide) ?_
      refine w_iload_1 (pc := 47) dX11_bin_47 ?_
      refine w_imul (pc := 48) dX11_bin_48 ?_
      refine w_iadd (pc := 49) dX11_bin_49 ?_
      refine w_iload_2 (pc := 50) dX11_bin_50 ?_
      refine w_iadd (pc := 51) dX11_bin_51 ?_
      refine w_iconst (pc := 52) (v := 0) dX11_bin_52 (by decide) ?_
      refine w_iast (pc := 53) (j := 81 + 6 * nB (I a) + 1) hO.2.2.1 hO.2.2.2.1 (nx_add (nx_6 b2 (z := 81) (c := 81) rfl) rfl) (by omega) (by decide) dX11_bin_53 ?_
      refine w_iinc_2 (pc := 54) (v := 2) dX11_bin_54 (by decide) rfl ?_
      refine w_goto (pc := 57) (tgt := 33) dX11_bin_57 (by decide) ?_
      refine w_iload_2 (pc := 33) dX11_bin_33 ?_
      refine w_bipush (pc := 34) (v := 6) dX11_bin_34 (by decide) ?_
      refine w_icmp_ge (pc := 36) (tgt := 60) dX11_bin_36 (by decide) (fun c9 => absurd c9 (by decide)) (fun _ => ?_)
      refine w_aload_0 (pc := 39) dX11_bin_39 ?_
      refine w_getR (pc := 40) (b := a) kc11 0 hO.1 hO.2.1 rfl hO.2.2.2.2.2.2.2.2.2.2.2.2.2.2.1 t763 dX11_bin_40 ?_
      refine w_bipush (pc := 43) (v := 81) dX11_bin_43 (by decide) ?_
      refine w_bipush (pc := 45) (v := 6) dX11_bin_45 (by decide) ?_
      refine w_iload_1 (pc := 47) dX11_bin_47 ?_
      refine w_imul (pc := 48) dX11_bin_48 ?_
      refine w_iadd (pc := 49) dX11_bin_49 ?_
      refine w_iload_2 (pc := 50) dX11_bin_50 ?_
      refine w_iadd (pc := 51) dX11_bin_51 ?_
      refine w_iconst (pc := 52) (v := 0) dX11_bin_52 (by decide) ?_
      refine w_iast (pc := 53) (j := 81 + 6 * nB (I a) + 2) hO.2.2.1 hO.2.2.2.1 (nx_add (nx_6 b2 (z := 81) (c := 81) rfl) rfl) (by omega) (by decide) dX11_bin_53 ?_
      refine w_iinc_2 (pc := 54) (v := 3) dX11_bin_54 (by decide) rfl ?_
      refine w_goto (pc := 57) (tgt := 33) dX11_bin_57 (by decide) ?_
      refine w_iload_2 (pc := 33) dX11_bin_33 ?_
      refine w_bipush (pc := 34) (v := 6) dX11_bin_34 (by decide) ?_
      refine w_icmp_ge (pc := 36) (tgt := 60) dX11_bin_36 (by decide) (fun c9 => absurd c9 (by decide)) (fun _ => ?_)
      refine w_aload_0 (pc := 39) dX11_bin_39 ?_
      refine w_getR (pc := 40) (b := a) kc11 0 hO.1 hO.2.1 rfl hO.2.2.2.2.2.2.2.2.2.2.2.2.2.2.1 t763 dX11_bin_40 ?_
      refine w_bipush (pc := 43) (v := 81) dX11_bin_43 (by decide) ?_
      refine w_bipush (pc := 45) (v := 6) dX11_bin_45 (by decide) ?_
      refine w_iload_1 (pc := 47) dX11_bin_47 ?_
      refine w_imul (pc := 48) dX11_bin_48 ?_
      refine w_iadd (pc := 49) dX11_bin_49 ?_
      refine w_iload_2 (pc := 50) dX11_bin_50 ?_
      refine w_iadd (pc := 51) dX11_bin_51 ?_
      refine w_iconst (pc := 52) (v := 0) dX11_bin_52 (by decide) ?_
      refine w_iast (pc := 53) (j := 81 + 6 * nB (I a) + 3) hO.2.2.1 hO.2.2.2.1 (nx_add (nx_6 b2 (z := 81) (c := 81) rfl) rfl) (by omega) (by decide) dX11_bin_53 ?_
      refine w_iinc_2 (pc := 54) (v := 4) dX11_bin_54 (by decide) rfl ?_
      refine w_goto (pc := 57) (tgt := 33) dX11_bin_57 (by decide) ?_
      refine w_iload_2 (pc := 33) dX11_bin_33 ?_
      refine w_bipush (pc := 34) (v := 6) dX11_bin_34 (by decide) ?_
      refine w_icmp_ge (pc := 36) (tgt := 60) dX11_bin_36 (by decide) (fun c9 => absurd c9 (by decide)) (fun _ => ?_)
      refine w_aload_0 (pc := 39) dX11_bin_39 ?_
      refine w_getR (pc := 40) (b := a) kc11 0 hO.1 hO.2.1 rfl hO.2.2.2.2.2.2.2.2.2.2.2.2.2.2.1 t763 dX11_bin_40 ?_
      refine w_bipush (pc := 43) (v := 81) dX11_bin_43 (by decide) ?_
      refine w_bipush (pc := 45) (v := 6) dX11_bin_45 (by decide) ?_
      refine w_iload_1 (pc := 47) dX11_bin_47 ?_
      refine w_imul (pc := 48) dX11_bin_48 ?_
      refine w_iadd (pc := 49) dX11_bin_49 ?_
      refine w_iload_2 (pc := 50) dX11_bin_50 ?_
      refine w_iadd (pc := 51) dX11_bin_51 ?_
      refine w_iconst (pc := 52) (v := 0) dX11_bin_52 (by decide) ?_
      refine w_iast (pc := 53) (j := 81 + 6 * nB (I a) + 4) hO.2.2.1 hO.2.2.2.1 (nx_add (nx_6 b2 (z := 81) (c := 81) rfl) rfl) (by omega) (by decide) dX11_bin_53 ?_
      refine w_iinc_2 (pc := 54) (v := 5) dX11_bin_54 (by decide) rfl ?_
      refine w_goto (pc := 57) (tgt := 33) dX11_bin_57 (by decide) ?_
      refine w_iload_2 (pc := 33) dX11_bin_33 ?_
      refine w_bipush (pc := 34) (v := 6) dX11_bin_34 (by decide) ?_
      refine w_icmp_ge (pc := 36) (tgt := 60) dX11_bin_36 (by decide) (fun c9 => absurd c9 (by decide)) (fun _ => ?_)
      refine w_aload_0 (pc := 39) dX11_bin_39 ?_
      refine w_getR (pc := 40) (b := a) kc11 0 hO.1 hO.2.1 rfl hO.2.2.2.2.2.2.2.2.2.2.2.2.2.2.1 t763 dX11_bin_40 ?_
      refine w_bipush (pc := 43) (v := 81) dX11_bin_43 (by decide) ?_
      refine w_bipush (pc := 45) (v := 6) dX11_bin_45 (by decide) ?_
      refine w_iload_1 (pc := 47) dX11_bin_47 ?_
      refine w_imul (pc := 48) dX11_bin_48 ?_
      refine w_iadd (pc := 49) dX11_bin_49 ?_
      refine w_iload_2 (pc := 50) dX11_bin_50 ?_
      refine w_iadd (pc := 51) dX11_bin_51 ?_
      refine w_iconst (pc := 52) (v := 0) dX11_bin_52 (by decide) ?_
      refine w_iast (pc := 53) (j := 81 + 6 * nB (I a) + 5) hO.2.2.1 hO.2.2.2.1 (nx_add (nx_6 b2 (z := 81) (c := 81) rfl) rfl) (by omega) (by decide) dX11_bin_53 ?_
      refine w_iinc_2 (pc := 54) (v := 6) dX11_bin_54 (by decide) rfl ?_
      refine w_goto (pc := 57) (tgt := 33) dX11_bin_57 (by decide) ?_
      refine w_iload_2 (pc := 33) dX11_bin_33 ?_
      refine w_bipush (pc := 34) (v := 6) dX11_bin_34 (by decide) ?_
      refine w_icmp_ge (pc := 36) (tgt := 60) dX11_bin_36 (by decide) (fun _ => ?_) (fun c9 => absurd (by decide) c9)
      refine w_aload_0 (pc := 60) dX11_bin_60 ?_
      refine w_getR (pc := 61) (b := a) kc11 0 hO.1 hO.2.1 rfl hO.2.2.2.2.2.2.2.2.2.2.2.2.2.2.1 t763 dX11_bin_61 ?_
      refine w_bipush (pc := 64) (v := 12) dX11_bin_64 (by decide) ?_
      refine w_dup2 (pc := 66) dX11_bin_66 ?_
      refine w_iald (pc := 67) (j := 12) hO.2.2.1 hO.2.2.2.1 rfl (by decide) (by decide) dX11_bin_67 ?_
      refine w_iconst (pc := 68) (v := 1) dX11_bin_68 (by decide) ?_
      refine w_iadd (pc := 69) dX11_bin_69 ?_
      refine w_iast (pc := 70) (j := 12) hO.2.2.1 hO.2.2.2.1 rfl (by decide) (by decide) dX11_bin_70 ?_
      refine w_iload_1 (pc := 71) dX11_bin_71 ?_
      refine w_iret (pc := 72) rfl ⟨Nat.le_refl _, Nat.le_refl _⟩ dX11_bin_72 ?_
      have ho : oBin (I a) = (I a 12, some (upd (binZ (I a) (nB (I a))) 12 (I a 12 + 1))) := by unfold oBin; rw [if_neg (b0 c4), if_neg c21]
      refine ⟨?_, rfl, ?_⟩
      · rw [ho]
      · rw [ho]
        show _ = va_up (chM q a b I) a _
        rw [hJe]
        have h12 : kst (kst (kst (kst (kst (kst J a (81 + 6 * nB (I a) + 0) 0) a (81 + 6 * nB (I a) + 1) 0) a (81 + 6 * nB (I a) + 2) 0) a (81 + 6 * nB (I a) + 3) 0) a (81 + 6 * nB (I a) + 4) 0) a (81 + 6 * nB (I a) + 5) 0 = va_up J a (binZ (I a) (nB (I a))) := by
          simp only [kst, va_up_self, va_uu, hJ]
          congr 1
          funext k
          by_cases hk : 81 + 6 * nB (I a) ≤ k ∧ k < 87 + 6 * nB (I a)
          · rw [binZ, if_pos hk]
            rcases (show k = 81 + 6 * nB (I a) + 0 ∨ k = 81 + 6 * nB (I a) + 1 ∨ k = 81 + 6 * nB (I a) + 2 ∨ k = 81 + 6 * nB (I a) + 3 ∨ k = 81 + 6 * nB (I a) + 4 ∨ k = 81 + 6 * nB (I a) + 5 by omega) with rfl | rfl | rfl | rfl | rfl | rfl <;> simp [upd]
          · rw [binZ, if_neg hk, upd_ne (by omega), upd_ne (by omega), upd_ne (by omega), upd_ne (by omega), upd_ne (by omega), upd_ne (by omega)]
        rw [h12]
        simp only [kst, va_up_self, va_uu]
        congr 2
        rw [binZ, if_neg (by omega)]
    · refine w_ldc (pc := 24) (v := -1000003) t814 dX11_bin_24 ?_
      refine w_iret (pc := 26) rfl ⟨Nat.le_refl _, Nat.le_refl _⟩ dX11_bin_26 ?_
      have ho : oBin (I a) = (-1000003, none) := by unfold oBin; rw [if_neg (b0 c4), if_pos c21]
      exact ⟨by rw [ho], rfl, by rw [ho]; rfl⟩
  · refine w_ldc (pc := 7) (v := -1000002) t831 dX11_bin_7 ?_
    refine w_iret (pc := 9) rfl ⟨Nat.le_refl _, Nat.le_refl _⟩ dX11_bin_9 ?_
    have ho : oBin (I a) = (-1000002, none) := by unfold oBin; rw [if_pos (b1 c4)]
    exact ⟨by rw [ho], rfl, by rw [ho]; rfl⟩
set_option maxHeartbeats 4000000 in
set_option maxRecDepth 100000 in
theorem c_Mod_batch {g : kG} {σ : kS} {I : kI} {q a b c d e f : Nat} (hO : sMod g σ q a b c d e f) {n0 : Nat} (hp : I q 4 = nI n0) (hp2 : n0 ≤ 4) {x : Int32} : ct g mX11_batch ⟨1, 0, 0, 24⟩ [.ref q, .int x] σ I (qI (oBatch (I a) x).1 σ (opM q a b I (oBatch (I a) x))) := by
  refine ct_of pn11 rfl (Nat.le_of_ble_eq_true rfl) ok_X11_batch.1 trivial ?_
  show wp _ _ _ _ _ _ _ _ 0 [some (.ref q), some (.int x)] []
  have o0 := hO.2.2.2.2.2.2.2.2.2.2.2.2.2.2.2.2.2.2.2.2.1
  have o1 := hO.2.2.2.2.2.2.2.2.2.2.2.2.2.2.2.2.2.2.2.2.2.1
  have o2 := hO.2.2.2.2.2.2.2.2.2.2.2.2.2.2.2.2.2.2.2.2.2.2.1
  have o3 := hO.2.2.2.2.2.2.2.2.2.2.2.2.2.2.2.2.2.2.2.2.2.2.2.1
  have o4 := hO.2.2.2.2.2.2.2.2.2.2.2.2.2.2.2.2.2.2.2.2.2.2.2.2.1
  have o5 := hO.2.2.2.2.2.2.2.2.2.2.2.2.2.2.2.2.2.2.2.2.2.2.2.2.2
  refine w_iload_1 (pc := 0) dX11_batch_0 ?_
  refine w_iconst (pc := 1) (v := 1) dX11_batch_1 (by decide) ?_
  refine w_sipush (pc := 2) (v := 9999) dX11_batch_2 (by decide) ?_
  refine w_callS_I (pc := 5) (c_Mod_in) ok_X11_in t811 t810 ⟨Nat.le_of_ble_eq_true rfl, Nat.le_of_ble_eq_true rfl⟩ ⟨rfl, rfl⟩ ⟨Nat.le_refl _, Nat.le_refl _⟩ rfl (Nat.le_of_ble_eq_true rfl) dX11_batch_5 ?_
  refine w_if_ne (pc := 8) (tgt := 14) dX11_batch_8 (by decide) (fun c8 => ?_) (fun c8 => ?_)
  · refine w_aload_0 (pc := 14) dX11_batch_14 ?_
    refine w_callV_I (pc := 15) (c_Mod_hasBatch hO) ok_X11_hasBatch t829 t10 kc11 hO.1 hO.2.1 t827 ⟨Nat.le_of_ble_eq_true rfl, Nat.le_of_ble_eq_true rfl⟩ ⟨rfl, rfl⟩ ⟨Nat.le_refl _, Nat.le_refl _⟩ rfl (Nat.le_of_ble_eq_true rfl) dX11_batch_15 ?_
    refine w_if_ne (pc := 18) (tgt := 31) dX11_batch_18 (by decide) (fun c18 => ?_) (fun c18 => ?_)
    · refine w_ldc (pc := 31) (v := -1000002) t831 dX11_batch_31 ?_
      refine w_iret (pc := 33) rfl ⟨Nat.le_refl _, Nat.le_refl _⟩ dX11_batch_33 ?_
      have ho : oBatch (I a) x = (-1000002, none) := by unfold oBatch; rw [if_neg (fun h => h (b1 c8)), if_pos (Or.inl (b1 c18))]
      exact ⟨by rw [ho], rfl, by rw [ho]; rfl⟩
    · refine w_aload_0 (pc := 21) dX11_batch_21 ?_
      refine w_getR (pc := 22) (b := a) kc11 0 hO.1 hO.2.1 rfl hO.2.2.2.2.2.2.2.2.2.2.2.2.2.2.1 t763 dX11_batch_22 ?_
      refine w_bipush (pc := 25) (v := 12) dX11_batch_25 (by decide) ?_
      refine w_iald (pc := 27) (j := 12) hO.2.2.1 hO.2.2.2.1 rfl (by decide) (by decide) dX11_batch_27 ?_
      refine w_if_ne (pc := 28) (tgt := 34) dX11_batch_28 (by decide) (fun c28 => ?_) (fun c28 => ?_)
      · refine w_aload_0 (pc := 34) dX11_batch_34 ?_
        refine w_callV_V (pc := 35) (c_Mod_changes hO hp hp2) ok_X11_changes t817 t9 kc11 hO.1 hO.2.1 t815 ⟨Nat.le_of_ble_eq_true rfl, Nat.le_of_ble_eq_true rfl⟩ ⟨rfl, rfl⟩ ⟨Nat.le_refl _, Nat.le_refl _⟩ rfl (Nat.le_of_ble_eq_true rfl) dX11_batch_35 ?_
        have hJ : chM q a b I a = I a := chM_a (by omega) (by omega)
        generalize hJe : chM q a b I = J at hJ ⊢
        refine w_aload_0 (pc := 38) dX11_batch_38 ?_
        refine w_getR (pc := 39) (b := a) kc11 0 hO.1 hO.2.1 rfl hO.2.2.2.2.2.2.2.2.2.2.2.2.2.2.1 t763 dX11_batch_39 ?_
        refine w_bipush (pc := 42) (v := 15) dX11_batch_42 (by decide) ?_
        refine w_iload_1 (pc := 44) dX11_batch_44 ?_
        refine w_iast (pc := 45) (j := 15) hO.2.2.1 hO.2.2.2.1 rfl (by decide) (by decide) dX11_batch_45 ?_
        refine w_aload_0 (pc := 46) dX11_batch_46 ?_
        refine w_getR (pc := 47) (b := a) kc11 0 hO.1 hO.2.1 rfl hO.2.2.2.2.2.2.2.2.2.2.2.2.2.2.1 t763 dX11_batch_47 ?_
        refine w_bipush (pc := 50) (v := 16) dX11_batch_50 (by decide) ?_
        refine w_iconst (pc := 52) (v := 0) dX11_batch_52 (by decide) ?_
        refine w_iast (pc := 53) (j := 16) hO.2.2.1 hO.2.2.2.1 rfl (by decide) (by decide) dX11_batch_53 ?_
        refine w_aload_0 (pc := 54) dX11_batch_54 ?_
        refine w_getR (pc := 55) (b := a) kc11 0 hO.1 hO.2.1 rfl hO.2.2.2.2.2.2.2.2.2.2.2.2.2.2.1 t763 dX11_batch_55 ?_
        refine w_bipush (pc := 58) (v := 17) dX11_batch_58 (by decide) ?_
        refine w_iconst (pc := 60) (v := 0) dX11_batch_60 (by decide) ?_
        refine w_iast (pc := 61) (j := 17) hO.2.2.1 hO.2.2.2.1 rfl (by decide) (by decide) dX11_batch_61 ?_
        refine w_aload_0 (pc := 62) dX11_batch_62 ?_
        refine w_getR (pc := 63) (b := a) kc11 0 hO.1 hO.2.1 rfl hO.2.2.2.2.2.2.2.2.2.2.2.2.2.2.1 t763 dX11_batch_63 ?_
        refine w_iconst (pc := 66) (v := 1) dX11_batch_66 (by decide) ?_
        refine w_iconst (pc := 67) (v := 0) dX11_batch_67 (by decide) ?_
        refine w_iast (pc := 68) (j := 1) hO.2.2.1 hO.2.2.2.1 rfl (by decide) (by decide) dX11_batch_68 ?_
        refine w_aload_0 (pc := 69) dX11_batch_69 ?_
        refine w_iconst (pc := 70) (v := 0) dX11_batch_70 (by decide) ?_
        refine w_bipush (pc := 71) (v := 11) dX11_batch_71 (by decide) ?_
        refine w_callV_I (pc := 73) (c_Mod_mass hO (u := 0) (v := 11) rfl rfl (by decide)) ok_X11_mass t842 t11 kc11 hO.1 hO.2.1 t840 ⟨Nat.le_of_ble_eq_true rfl, Nat.le_of_ble_eq_true rfl⟩ ⟨rfl, rfl⟩ ⟨Nat.le_refl _, Nat.le_refl _⟩ rfl (Nat.le_of_ble_eq_true rfl) dX11_batch_73 ?_
        refine w_iret (pc := 76) rfl ⟨Nat.le_refl _, Nat.le_refl _⟩ dX11_batch_76 ?_
        have ho : oBatch (I a) x = (sm (I a) 21 48, some (upd (upd (upd (upd (I a) 15 x) 16 0) 17 0) 1 0)) := by unfold oBatch; rw [if_neg (fun h => h (b1 c8)), if_neg (fun h => h.elim (b0 c18) c28)]
        refine ⟨?_, rfl, ?_⟩
        · rw [ho]
          exact congrArg (fun z => some (Value.int z)) (sm_cong (fun k hk => by simp [kst, va_up_self, hJ, upd, show ¬ 21 + k = 15 by omega, show ¬ 21 + k = 16 by omega, show ¬ 21 + k = 17 by omega, show ¬ 21 + k = 1 by omega]))
        · rw [ho]
          show _ = va_up (chM q a b I) a _
          rw [hJe]
          simp only [kst, va_up_self, va_uu, hJ]
      · refine w_ldc (pc := 31) (v := -1000002) t831 dX11_batch_31 ?_
        refine w_iret (pc := 33) rfl ⟨Nat.le_refl _, Nat.le_refl _⟩ dX11_batch_33 ?_
        have ho : oBatch (I a) x = (-1000002, none) := by unfold oBatch; rw [if_neg (fun h => h (b1 c8)), if_pos (Or.inr c28)]
        exact ⟨by rw [ho], rfl, by rw [ho]; rfl⟩
  · refine w_ldc (pc := 11) (v := -1000001) t813 dX11_batch_11 ?_
    refine w_iret (pc := 13) rfl ⟨Nat.le_refl _, Nat.le_refl _⟩ dX11_batch_13 ?_
    have ho : oBatch (I a) x = (-1000001, none) := by unfold oBatch; rw [if_pos (b0 c8)]
    exact ⟨by rw [ho], rfl, by rw [ho]; rfl⟩
set_option maxHeartbeats 4000000 in
set_option maxRecDepth 100000 in
theorem c_Mod_zero {g : kG} {σ : kS} {I : kI} {q a b c d e f : Nat} (hO : sMod g σ q a b c d e f) {n0 : Nat} (hp : I q 4 = nI n0) (hp2 : n0 ≤ 4)  : ct g mX11_zero ⟨1, 0, 0, 24⟩ [.ref q] σ I (qI (oZero (I a)).1 σ (opM q a b I (oZero (I a)))) := by
  refine ct_of pn11 rfl (Nat.le_of_ble_eq_true rfl) ok_X11_zero.1 trivial ?_
  show wp _ _ _ _ _ _ _ _ 0 [some (.ref q), none] []
  have o0 := hO.2.2.2.2.2.2.2.2.2.2.2.2.2.2.2.2.2.2.2.2.1
  have o1 := hO.2.2.2.2.2.2.2.2.2.2.2.2.2.2.2.2.2.2.2.2.2.1
  have o2 := hO.2.2.2.2.2.2.2.2.2.2.2.2.2.2.2.2.2.2.2.2.2.2.1
  have o3 := hO.2.2.2.2.2.2.2.2.2.2.2.2.2.2.2.2.2.2.2.2.2.2.2.1
  have o4 := hO.2.2.2.2.2.2.2.2.2.2.2.2.2.2.2.2.2.2.2.2.2.2.2.2.1
  have o5 := hO.2.2.2.2.2.2.2.2.2.2.2.2.2.2.2.2.2.2.2.2.2.2.2.2.2
  refine w_aload_0 (pc := 0) dX11_zero_0 ?_
  refine w_getR (pc := 1) (b := a) kc11 0 hO.1 hO.2.1 rfl hO.2.2.2.2.2.2.2.2.2.2.2.2.2.2.1 t763 dX11_zero_1 ?_
  refine w_bipush (pc := 4) (v := 8) dX11_zero_4 (by decide) ?_
  refine w_iald (pc := 6) (j := 8) hO.2.2.1 hO.2.2.2.1 rfl (by decide) (by decide) dX11_zero_6 ?_
  refine w_iconst (pc := 7) (v := 4) dX11_zero_7 (by decide) ?_
  refine w_icmp_ge (pc := 8) (tgt := 24) dX11_zero_8 (by decide) (fun c8 => ?_) (fun c8 => ?_)
  · refine w_aload_0 (pc := 24) dX11_zero_24 ?_
    refine w_callV_V (pc := 25) (c_Mod_changes hO hp hp2) ok_X11_changes t817 t9 kc11 hO.1 hO.2.1 t815 ⟨Nat.le_of_ble_eq_true rfl, Nat.le_of_ble_eq_true rfl⟩ ⟨rfl, rfl⟩ ⟨Nat.le_refl _, Nat.le_refl _⟩ rfl (Nat.le_of_ble_eq_true rfl) dX11_zero_25 ?_
    have hJ : chM q a b I a = I a := chM_a (by omega) (by omega)
    generalize hJe : chM q a b I = J at hJ ⊢
    refine w_aload_0 (pc := 28) dX11_zero_28 ?_
    refine w_getR (pc := 29) (b := a) kc11 0 hO.1 hO.2.1 rfl hO.2.2.2.2.2.2.2.2.2.2.2.2.2.2.1 t763 dX11_zero_29 ?_
    refine w_iconst (pc := 32) (v := 4) dX11_zero_32 (by decide) ?_
    refine w_iald (pc := 33) (j := 4) hO.2.2.1 hO.2.2.2.1 rfl (by decide) (by decide) dX11_zero_33 ?_
    refine w_istore_1 (pc := 34) dX11_zero_34 rfl ?_
    refine w_aload_0 (pc := 35) dX11_zero_35 ?_
    refine w_getR (pc := 36) (b := a) kc11 0 hO.1 hO.2.1 rfl hO.2.2.2.2.2.2.2.2.2.2.2.2.2.2.1 t763 dX11_zero_36 ?_
    refine w_iconst (pc := 39) (v := 4) dX11_zero_39 (by decide) ?_
    refine w_aload_0 (pc := 40) dX11_zero_40 ?_
    refine w_iconst (pc := 41) (v := 4) dX11_zero_41 (by decide) ?_
    refine w_bipush (pc := 42) (v := 7) dX11_zero_42 (by decide) ?_
    refine w_callV_I (pc := 44) (c_Mod_mass hO (u := 4) (v := 3) rfl rfl (by decide)) ok_X11_mass t842 t11 kc11 hO.1 hO.2.1 t840 ⟨Nat.le_of_ble_eq_true rfl, Nat.le_of_ble_eq_true rfl⟩ ⟨rfl, rfl⟩ ⟨Nat.le_refl _, Nat.le_refl _⟩ rfl (Nat.le_of_ble_eq_true rfl) dX11_zero_44 ?_
    refine w_aload_0 (pc := 47) dX11_zero_47 ?_
    refine w_getR (pc := 48) (b := a) kc11 0 hO.1 hO.2.1 rfl hO.2.2.2.2.2.2.2.2.2.2.2.2.2.2.1 t763 dX11_zero_48 ?_
    refine w_iconst (pc := 51) (v := 3) dX11_zero_51 (by decide) ?_
    refine w_iald (pc := 52) (j := 3) hO.2.2.1 hO.2.2.2.1 rfl (by decide) (by decide) dX11_zero_52 ?_
    refine w_iadd (pc := 53) dX11_zero_53 ?_
    refine w_iast (pc := 54) (j := 4) hO.2.2.1 hO.2.2.2.1 rfl (by decide) (by decide) dX11_zero_54 ?_
    refine w_iload_1 (pc := 55) dX11_zero_55 ?_
    refine w_ldc (pc := 56) (v := 1000000) t876 dX11_zero_56 ?_
    refine w_iadd (pc := 58) dX11_zero_58 ?_
    refine w_iret (pc := 59) rfl ⟨Nat.le_refl _, Nat.le_refl _⟩ dX11_zero_59 ?_
    have ho : oZero (I a) = (I a 4 + 1000000, some (upd (I a) 4 (sm (I a) 37 16 + I a 3))) := by unfold oZero; rw [if_neg (fun h => absurd c8 (Int32.not_le.mpr h.1))]
    refine ⟨?_, rfl, ?_⟩
    · rw [ho]
      rw [hJ]
    · rw [ho]
      show _ = va_up (chM q a b I) a _
      rw [hJe]
      simp only [kst, va_up_self, va_uu, hJ]
  · refine w_aload_0 (pc := 11) dX11_zero_11 ?_
    refine w_iconst (pc := 12) (v := 4) dX11_zero_12 (by decide) ?_
    refine w_bipush (pc := 13) (v := 7) dX11_zero_13 (by decide) ?_
    refine w_callV_I (pc := 15) (c_Mod_mass hO (u := 4) (v := 3) rfl rfl (by decide)) ok_X11_mass t842 t11 kc11 hO.1 hO.2.1 t840 ⟨Nat.le_of_ble_eq_true rfl, Nat.le_of_ble_eq_true rfl⟩ ⟨rfl, rfl⟩ ⟨Nat.le_refl _, Nat.le_refl _⟩ rfl (Nat.le_of_ble_eq_true rfl) dX11_zero_15 ?_
    refine w_if_le (pc := 18) (tgt := 24) dX11_zero_18 (by decide) (fun c18 => ?_) (fun c18 => ?_)
    · refine w_aload_0 (pc := 24) dX11_zero_24 ?_
      refine w_callV_V (pc := 25) (c_Mod_changes hO hp hp2) ok_X11_changes t817 t9 kc11 hO.1 hO.2.1 t815 ⟨Nat.le_of_ble_eq_true rfl, Nat.le_of_ble_eq_true rfl⟩ ⟨rfl, rfl⟩ ⟨Nat.le_refl _, Nat.le_refl _⟩ rfl (Nat.le_of_ble_eq_true rfl) dX11_zero_25 ?_
      have hJ : chM q a b I a = I a := chM_a (by omega) (by omega)
      generalize hJe : chM q a b I = J at hJ ⊢
      refine w_aload_0 (pc := 28) dX11_zero_28 ?_
      refine w_getR (pc := 29) (b := a) kc11 0 hO.1 hO.2.1 rfl hO.2.2.2.2.2.2.2.2.2.2.2.2.2.2.1 t763 dX11_zero_29 ?_
      refine w_iconst (pc := 32) (v := 4) dX11_zero_32 (by decide) ?_
      refine w_iald (pc := 33) (j := 4) hO.2.2.1 hO.2.2.2.1 rfl (by decide) (by decide) dX11_zero_33 ?_
      refine w_istore_1 (pc := 34) dX11_zero_34 rfl ?_
      refine w_aload_0 (pc := 35) dX11_zero_35 ?_
      refine w_getR (pc := 36) (b := a) kc11 0 hO.1 hO.2.1 rfl hO.2.2.2.2.2.2.2.2.2.2.2.2.2.2.1 t763 dX11_zero_36 ?_
      refine w_iconst (pc := 39) (v := 4) dX11_zero_39 (by decide) ?_
      refine w_aload_0 (pc := 40) dX11_zero_40 ?_
      refine w_iconst (pc := 41) (v := 4) dX11_zero_41 (by decide) ?_
      refine w_bipush (pc := 42) (v := 7) dX11_zero_42 (by decide) ?_
      refine w_callV_I (pc := 44) (c_Mod_mass hO (u := 4) (v := 3) rfl rfl (by decide)) ok_X11_mass t842 t11 kc11 hO.1 hO.2.1 t840 ⟨Nat.le_of_ble_eq_true rfl, Nat.le_of_ble_eq_true rfl⟩ ⟨rfl, rfl⟩ ⟨Nat.le_refl _, Nat.le_refl _⟩ rfl (Nat.le_of_ble_eq_true rfl) dX11_zero_44 ?_
      refine w_aload_0 (pc := 47) dX11_zero_47 ?_
      refine w_getR (pc := 48) (b := a) kc11 0 hO.1 hO.2.1 rfl hO.2.2.2.2.2.2.2.2.2.2.2.2.2.2.1 t763 dX11_zero_48 ?_
      refine w_iconst (pc := 51) (v := 3) dX11_zero_51 (by decide) ?_
      refine w_iald (pc := 52) (j := 3) hO.2.2.1 hO.2.2.2.1 rfl (by decide) (by decide) dX11_zero_52 ?_
      refine w_iadd (pc := 53) dX11_zero_53 ?_
      refine w_iast (pc := 54) (j := 4) hO.2.2.1 hO.2.2.2.1 rfl (by decide) (by decide) dX11_zero_54 ?_
      refine w_iload_1 (pc := 55) dX11_zero_55 ?_
      refine w_ldc (pc := 56) (v := 1000000) t876 dX11_zero_56 ?_
      refine w_iadd (pc := 58) dX11_zero_58 ?_
      refine w_iret (pc := 59) rfl ⟨Nat.le_refl _, Nat.le_refl _⟩ dX11_zero_59 ?_
      have ho : oZero (I a) = (I a 4 + 1000000, some (upd (I a) 4 (sm (I a) 37 16 + I a 3))) := by unfold oZero; rw [if_neg (fun h => absurd c18 (Int32.not_le.mpr h.2))]
      refine ⟨?_, rfl, ?_⟩
      · rw [ho]
        rw [hJ]
      · rw [ho]
        show _ = va_up (chM q a b I) a _
        rw [hJe]
        simp only [kst, va_up_self, va_uu, hJ]
    · refine w_ldc (pc := 21) (v := -1000002) t831 dX11_zero_21 ?_
      refine w_iret (pc := 23) rfl ⟨Nat.le_refl _, Nat.le_refl _⟩ dX11_zero_23 ?_
      have ho : oZero (I a) = (-1000002, none) := by unfold oZero; rw [if_pos ⟨Int32.not_le.mp c8, Int32.not_le.mp c18⟩]
      exact ⟨by rw [ho], rfl, by rw [ho]; rfl⟩
set_option maxHeartbeats 4000000 in
set_option maxRecDepth 100000 in
theorem c_Mod_isBin {g : kG} {σ : kS} {I : kI} {q a b c d e f : Nat} (hO : sMod g σ q a b c d e f) {x : Int32} : ct g mX11_isBin ⟨0, 0, 0, 0⟩ [.ref q, .int x] σ I (qI (if 0 ≤ x ∧ x < I a 12 then 1 else 0) σ I) := by
  refine ct_of pn11 rfl (Nat.le_of_ble_eq_true rfl) ok_X11_isBin.1 trivial ?_
  show wp _ _ _ _ _ _ _ _ 0 [some (.ref q), some (.int x)] []
  refine w_iload_1 (pc := 0) dX11_isBin_0 ?_
  refine w_if_lt (pc := 1) (tgt := 19) dX11_isBin_1 (by decide) (fun c1 => ?_) (fun c1 => ?_)
  · refine w_iconst (pc := 19) (v := 0) dX11_isBin_19 (by decide) ?_
    refine w_zret (pc := 20) rfl (by decide) ⟨Nat.le_refl _, Nat.le_refl _⟩ dX11_isBin_20 ?_
    refine ⟨?_, rfl, rfl⟩
    rw [if_neg (fun h => absurd h.1 (Int32.not_le.mpr c1))]
  · refine w_iload_1 (pc := 4) dX11_isBin_4 ?_
    refine w_aload_0 (pc := 5) dX11_isBin_5 ?_
    refine w_getR (pc := 6) (b := a) kc11 0 hO.1 hO.2.1 rfl hO.2.2.2.2.2.2.2.2.2.2.2.2.2.2.1 t763 dX11_isBin_6 ?_
    refine w_bipush (pc := 9) (v := 12) dX11_isBin_9 (by decide) ?_
    refine w_iald (pc := 11) (j := 12) hO.2.2.1 hO.2.2.2.1 rfl (by decide) (by decide) dX11_isBin_11 ?_
    refine w_icmp_ge (pc := 12) (tgt := 19) dX11_isBin_12 (by decide) (fun c12 => ?_) (fun c12 => ?_)
    · refine w_iconst (pc := 19) (v := 0) dX11_isBin_19 (by decide) ?_
      refine w_zret (pc := 20) rfl (by decide) ⟨Nat.le_refl _, Nat.le_refl _⟩ dX11_isBin_20 ?_
      refine ⟨?_, rfl, rfl⟩
      rw [if_neg (fun h => absurd c12 (Int32.not_le.mpr h.2))]
    · refine w_iconst (pc := 15) (v := 1) dX11_isBin_15 (by decide) ?_
      refine w_goto (pc := 16) (tgt := 20) dX11_isBin_16 (by decide) ?_
      refine w_zret (pc := 20) rfl (by decide) ⟨Nat.le_refl _, Nat.le_refl _⟩ dX11_isBin_20 ?_
      refine ⟨?_, rfl, rfl⟩
      rw [if_pos ⟨Int32.not_lt.mp c1, Int32.not_le.mp c12⟩]
set_option maxHeartbeats 4000000 in
set_option maxRecDepth 100000 in
theorem c_Mod_isAccount {g : kG} {σ : kS} {I : kI} {q a b c d e f : Nat} (hO : sMod g σ q a b c d e f) {x : Int32} : ct g mX11_isAccount ⟨0, 0, 0, 0⟩ [.ref q, .int x] σ I (qI (if 0 ≤ x ∧ x < I a 14 then 1 else 0) σ I) := by
  refine ct_of pn11 rfl (Nat.le_of_ble_eq_true rfl) ok_X11_isAccount.1 trivial ?_
  show wp _ _ _ _ _ _ _ _ 0 [some (.ref q), some (.int x)] []
  refine w_iload_1 (pc := 0) dX11_isAccount_0 ?_
  refine w_if_lt (pc := 1) (tgt := 19) dX11_isAccount_1 (by decide) (fun c1 => ?_) (fun c1 => ?_)
  · refine w_iconst (pc := 19) (v := 0) dX11_isAccount_19 (by decide) ?_
    refine w_zret (pc := 20) rfl (by decide) ⟨Nat.le_refl _, Nat.le_refl _⟩ dX11_isAccount_20 ?_
    refine ⟨?_, rfl, rfl⟩
    rw [if_neg (fun h => absurd h.1 (Int32.not_le.mpr c1))]
  · refine w_iload_1 (pc := 4) dX11_isAccount_4 ?_
    refine w_aload_0 (pc := 5) dX11_isAccount_5 ?_
    refine w_getR (pc := 6) (b := a) kc11 0 hO.1 hO.2.1 rfl hO.2.2.2.2.2.2.2.2.2.2.2.2.2.2.1 t763 dX11_isAccount_6 ?_
    refine w_bipush (pc := 9) (v := 14) dX11_isAccount_9 (by decide) ?_
    refine w_iald (pc := 11) (j := 14) hO.2.2.1 hO.2.2.2.1 rfl (by decide) (by decide) dX11_isAccount_11 ?_
    refine w_icmp_ge (pc := 12) (tgt := 19) dX11_isAccount_12 (by decide) (fun c12 => ?_) (fun c12 => ?_)
    · refine w_iconst (pc := 19) (v := 0) dX11_isAccount_19 (by decide) ?_
      refine w_zret (pc := 20) rfl (by decide) ⟨Nat.le_refl _, Nat.le_refl _⟩ dX11_isAccount_20 ?_
      refine ⟨?_, rfl, rfl⟩
      rw [if_neg (fun h => absurd c12 (Int32.not_le.mpr h.2))]
    · refine w_iconst (pc := 15) (v := 1) dX11_isAccount_15 (by decide) ?_
      refine w_goto (pc := 16) (tgt := 20) dX11_isAccount_16 (by decide) ?_
      refine w_zret (pc := 20) rfl (by decide) ⟨Nat.le_refl _, Nat.le_refl _⟩ dX11_isAccount_20 ?_
      refine ⟨?_, rfl, rfl⟩
      rw [if_pos ⟨Int32.not_lt.mp c1, Int32.not_le.mp c12⟩]
set_option maxHeartbeats 4000000 in
set_option maxRecDepth 100000 in
theorem c_Mod_binMass {g : kG} {σ : kS} {I : kI} {q a b c d e f : Nat} (hO : sMod g σ q a b c d e f) {x : Int32} {k0 : Nat} (hx : x = nI k0) (hx2 : k0 < 8) : ct g mX11_binMass ⟨0, 0, 0, 0⟩ [.ref q, .int x] σ I (qI (bMass (I a) k0) σ I) := by
  refine ct_of pn11 rfl (Nat.le_of_ble_eq_true rfl) ok_X11_binMass.1 trivial ?_
  show wp _ _ _ _ _ _ _ _ 0 [some (.ref q), some (.int x), none] []
  have e0 : (81 : Int32) + 6 * x = nI (81 + 6 * k0) := nx_6 hx rfl
  refine w_bipush (pc := 0) (v := 81) dX11_binMass_0 (by decide) ?_
  refine w_bipush (pc := 2) (v := 6) dX11_binMass_2 (by decide) ?_
  refine w_iload_1 (pc := 4) dX11_binMass_4 ?_
  refine w_imul (pc := 5) dX11_binMass_5 ?_
  refine w_iadd (pc := 6) dX11_binMass_6 ?_
  refine w_istore_2 (pc := 7) dX11_binMass_7 rfl ?_
  refine w_aload_0 (pc := 8) dX11_binMass_8 ?_
  refine w_getR (pc := 9) (b := a) kc11 0 hO.1 hO.2.1 rfl hO.2.2.2.2.2.2.2.2.2.2.2.2.2.2.1 t763 dX11_binMass_9 ?_
  refine w_iload_2 (pc := 12) dX11_binMass_12 ?_
  refine w_iald (pc := 13) (j := 81 + 6 * k0) hO.2.2.1 hO.2.2.2.1 e0 (by omega) (by decide) dX11_binMass_13 ?_
  refine w_aload_0 (pc := 14) dX11_binMass_14 ?_
  refine w_getR (pc := 15) (b := a) kc11 0 hO.1 hO.2.1 rfl hO.2.2.2.2.2.2.2.2.2.2.2.2.2.2.1 t763 dX11_binMass_15 ?_
  refine w_iload_2 (pc := 18) dX11_binMass_18 ?_
  refine w_iconst (pc := 19) (v := 1) dX11_binMass_19 (by decide) ?_
  refine w_iadd (pc := 20) dX11_binMass_20 ?_
  refine w_iald (pc := 21) (j := 81 + 6 * k0 + 1) hO.2.2.1 hO.2.2.2.1 (nx_add e0 rfl) (by omega) (by decide) dX11_binMass_21 ?_
  refine w_iadd (pc := 22) dX11_binMass_22 ?_
  refine w_aload_0 (pc := 23) dX11_binMass_23 ?_
  refine w_getR (pc := 24) (b := a) kc11 0 hO.1 hO.2.1 rfl hO.2.2.2.2.2.2.2.2.2.2.2.2.2.2.1 t763 dX11_binMass_24 ?_
  refine w_iload_2 (pc := 27) dX11_binMass_27 ?_
  refine w_iconst (pc := 28) (v := 2) dX11_binMass_28 (by decide) ?_
  refine w_iadd (pc := 29) dX11_binMass_29 ?_
  refine w_iald (pc := 30) (j := 81 + 6 * k0 + 2) hO.2.2.1 hO.2.2.2.1 (nx_add e0 rfl) (by omega) (by decide) dX11_binMass_30 ?_
  refine w_iadd (pc := 31) dX11_binMass_31 ?_
  refine w_aload_0 (pc := 32) dX11_binMass_32 ?_
  refine w_getR (pc := 33) (b := a) kc11 0 hO.1 hO.2.1 rfl hO.2.2.2.2.2.2.2.2.2.2.2.2.2.2.1 t763 dX11_binMass_33 ?_
  refine w_iload_2 (pc := 36) dX11_binMass_36 ?_
  refine w_iconst (pc := 37) (v := 3) dX11_binMass_37 (by decide) ?_
  refine w_iadd (pc := 38) dX11_binMass_38 ?_
  refine w_iald (pc := 39) (j := 81 + 6 * k0 + 3) hO.2.2.1 hO.2.2.2.1 (nx_add e0 rfl) (by omega) (by decide) dX11_binMass_39 ?_
  refine w_iadd (pc := 40) dX11_binMass_40 ?_
  refine w_iret (pc := 41) rfl ⟨Nat.le_refl _, Nat.le_refl _⟩ dX11_binMass_41 ?_
  refine ⟨?_, rfl, rfl⟩
  simp only [bMass, sm, Nat.add_zero, Int32.zero_add]
set_option maxHeartbeats 4000000 in
set_option maxRecDepth 100000 in
theorem c_Mod_correct {g : kG} {σ : kS} {I : kI} {q a b c d e f : Nat} (hO : sMod g σ q a b c d e f) {n0 : Nat} (hp : I q 4 = nI n0) (hp2 : n0 ≤ 4) (hS : SX (I a)) {x : Int32} : ct g mX11_correct ⟨1, 0, 0, 22⟩ [.ref q, .int x] σ I (qI (oCorrect (I a) x).1 σ (opM q a b I (oCorrect (I a) x))) := by
  refine ct_of pn11 rfl (Nat.le_of_ble_eq_true rfl) ok_X11_correct.1 trivial ?_
  show wp _ _ _ _ _ _ _ _ 0 [some (.ref q), some (.int x), none, none, none] []
  have o0 := hO.2.2.2.2.2.2.2.2.2.2.2.2.2.2.2.2.2.2.2.2.1
  have o1 := hO.2.2.2.2.2.2.2.2.2.2.2.2.2.2.2.2.2.2.2.2.2.1
  have o2 := hO.2.2.2.2.2.2.2.2.2.2.2.2.2.2.2.2.2.2.2.2.2.2.1
  have o3 := hO.2.2.2.2.2.2.2.2.2.2.2.2.2.2.2.2.2.2.2.2.2.2.2.1
  have o4 := hO.2.2.2.2.2.2.2.2.2.2.2.2.2.2.2.2.2.2.2.2.2.2.2.2.1
  have o5 := hO.2.2.2.2.2.2.2.2.2.2.2.2.2.2.2.2.2.2.2.2.2.2.2.2.2
  refine w_aload_0 (pc := 0) dX11_correct_0 ?_
  refine w_iload_1 (pc := 1) dX11_correct_1 ?_
  refine w_callV_I (pc := 2) (c_Mod_isBin hO) ok_X11_isBin t883 t18 kc11 hO.1 hO.2.1 t881 ⟨Nat.le_of_ble_eq_true rfl, Nat.le_of_ble_eq_true rfl⟩ ⟨rfl, rfl⟩ ⟨Nat.le_refl _, Nat.le_refl _⟩ rfl (Nat.le_of_ble_eq_true rfl) dX11_correct_2 ?_
  refine w_if_ne (pc := 5) (tgt := 11) dX11_correct_5 (by decide) (fun c5 => ?_) (fun c5 => ?_)
  · obtain ⟨b2l, b2⟩ := SX_B hS
    obtain ⟨k0, hk0l, hk0⟩ := nx_rl (by omega) b2 (b1 c5)
    have htk : tn x = k0 := tn_of hk0 (by omega)
    refine w_aload_0 (pc := 11) dX11_correct_11 ?_
    refine w_getR (pc := 12) (b := a) kc11 0 hO.1 hO.2.1 rfl hO.2.2.2.2.2.2.2.2.2.2.2.2.2.2.1 t763 dX11_correct_12 ?_
    refine w_bipush (pc := 15) (v := 81) dX11_correct_15 (by decide) ?_
    refine w_bipush (pc := 17) (v := 6) dX11_correct_17 (by decide) ?_
    refine w_iload_1 (pc := 19) dX11_correct_19 ?_
    refine w_imul (pc := 20) dX11_correct_20 ?_
    refine w_iadd (pc := 21) dX11_correct_21 ?_
    refine w_iconst (pc := 22) (v := 4) dX11_correct_22 (by decide) ?_
    refine w_iadd (pc := 23) dX11_correct_23 ?_
    refine w_iald (pc := 24) (j := 85 + 6 * k0) hO.2.2.1 hO.2.2.2.1 (by rw [nx_6 hk0 (z := 81) (c := 81) rfl]; rw [show (4 : Int32) = nI 4 from rfl, nI_add]; congr 1; omega) (by omega) (by decide) dX11_correct_24 ?_
    refine w_istore_2 (pc := 25) dX11_correct_25 rfl ?_
    have J47 : ∀ (z : Int64), z = facS (I a) (tn x) → wp g mX11_correct ⟨1, 0, 0, 22⟩ (fun _ => True) (qI (oCorrect (I a) x).1 σ (opM q a b I (oCorrect (I a) x))) (0, 0) σ I 47 [some (.ref q), some (.int x), some (.int (I a (85 + 6 * k0))), none, none] [.long z] := by
      intro z hz
      refine w_lstore_3 (pc := 47) dX11_correct_47 rfl ?_
      refine w_lload_3 (pc := 48) dX11_correct_48 ?_
      refine w_ldc2 (pc := 49) (v := 500) t890 dX11_correct_49 ?_
      refine w_lcmp (pc := 52) dX11_correct_52 ?_
      refine w_if_lt (pc := 53) (tgt := 64) dX11_correct_53 (by decide) (fun c53 => ?_) (fun c53 => ?_)
      · refine w_ldc (pc := 64) (v := -1000002) t831 dX11_correct_64 ?_
        refine w_iret (pc := 66) rfl ⟨Nat.le_refl _, Nat.le_refl _⟩ dX11_correct_66 ?_
        have ho : oCorrect (I a) x = (-1000002, none) := by unfold oCorrect; rw [if_neg (fun h => h (b1 c5)), if_pos (Or.inl (by rw [← hz]; exact lc_lt c53))]
        exact ⟨by rw [ho], rfl, by rw [ho]; rfl⟩
      · refine w_lload_3 (pc := 56) dX11_correct_56 ?_
        refine w_ldc2 (pc := 57) (v := 2000) t891 dX11_correct_57 ?_
        refine w_lcmp (pc := 60) dX11_correct_60 ?_
        refine w_if_le (pc := 61) (tgt := 67) dX11_correct_61 (by decide) (fun c61 => ?_) (fun c61 => ?_)
        · refine w_aload_0 (pc := 67) dX11_correct_67 ?_
          refine w_callV_V (pc := 68) (c_Mod_changes hO hp hp2) ok_X11_changes t817 t9 kc11 hO.1 hO.2.1 t815 ⟨Nat.le_of_ble_eq_true rfl, Nat.le_of_ble_eq_true rfl⟩ ⟨rfl, rfl⟩ ⟨Nat.le_refl _, Nat.le_refl _⟩ rfl (Nat.le_of_ble_eq_true rfl) dX11_correct_68 ?_
          have hJ : chM q a b I a = I a := chM_a (by omega) (by omega)
          generalize hJe : chM q a b I = J at hJ ⊢
          refine w_aload_0 (pc := 71) dX11_correct_71 ?_
          refine w_getR (pc := 72) (b := a) kc11 0 hO.1 hO.2.1 rfl hO.2.2.2.2.2.2.2.2.2.2.2.2.2.2.1 t763 dX11_correct_72 ?_
          refine w_bipush (pc := 75) (v := 7) dX11_correct_75 (by decide) ?_
          refine w_lload_3 (pc := 77) dX11_correct_77 ?_
          refine w_l2i (pc := 78) dX11_correct_78 ?_
          refine w_iast (pc := 79) (j := 7) hO.2.2.1 hO.2.2.2.1 rfl (by decide) (by decide) dX11_correct_79 ?_
          refine w_aload_0 (pc := 80) dX11_correct_80 ?_
          refine w_getR (pc := 81) (b := a) kc11 0 hO.1 hO.2.1 rfl hO.2.2.2.2.2.2.2.2.2.2.2.2.2.2.1 t763 dX11_correct_81 ?_
          refine w_bipush (pc := 84) (v := 7) dX11_correct_84 (by decide) ?_
          refine w_iald (pc := 86) (j := 7) hO.2.2.1 hO.2.2.2.1 rfl (by decide) (by decide) dX11_correct_86 ?_
          refine w_iret (pc := 87) rfl ⟨Nat.le_refl _, Nat.le_refl _⟩ dX11_correct_87 ?_
          have ho : oCorrect (I a) x = (z.toInt32, some (upd (I a) 7 z.toInt32)) := by unfold oCorrect; rw [if_neg (fun h => h (b1 c5)), if_neg (fun h => h.elim (fun h => lc_nlt c53 (by rw [hz]; exact h)) (fun h => lc_ngt c61 (by rw [hz]; exact h))), ← hz]
          refine ⟨?_, rfl, ?_⟩
          · rw [ho]
            simp [kst, va_up_self, upd]
          · rw [ho]
            show _ = va_up (chM q a b I) a _
            rw [hJe]
            simp only [kst, va_up_self, va_uu, hJ]
        · refine w_ldc (pc := 64) (v := -1000002) t831 dX11_correct_64 ?_
          refine w_iret (pc := 66) rfl ⟨Nat.le_refl _, Nat.le_refl _⟩ dX11_correct_66 ?_
          have ho : oCorrect (I a) x = (-1000002, none) := by unfold oCorrect; rw [if_neg (fun h => h (b1 c5)), if_pos (Or.inr (by rw [← hz]; exact lc_gt c61))]
          exact ⟨by rw [ho], rfl, by rw [ho]; rfl⟩
    refine w_iload_2 (pc := 26) dX11_correct_26 ?_
    refine w_if_le (pc := 27) (tgt := 46) dX11_correct_27 (by decide) (fun c27 => ?_) (fun c27 => ?_)
    · refine w_lconst (pc := 46) (v := 0) dX11_correct_46 rfl ?_
      refine J47 _ ?_
      rw [htk, facS, if_neg (Int32.not_lt.mpr c27)]
    · refine w_ldc2 (pc := 30) (v := 1000) t885 dX11_correct_30 ?_
      refine w_aload_0 (pc := 33) dX11_correct_33 ?_
      refine w_iload_1 (pc := 34) dX11_correct_34 ?_
      refine w_callV_I (pc := 35) (c_Mod_binMass hO hk0 (by omega)) ok_X11_binMass t888 t19 kc11 hO.1 hO.2.1 t886 ⟨Nat.le_of_ble_eq_true rfl, Nat.le_of_ble_eq_true rfl⟩ ⟨rfl, rfl⟩ ⟨Nat.le_refl _, Nat.le_refl _⟩ rfl (Nat.le_of_ble_eq_true rfl) dX11_correct_35 ?_
      refine w_i2l (pc := 38) dX11_correct_38 ?_
      refine w_lmul (pc := 39) dX11_correct_39 ?_
      refine w_iload_2 (pc := 40) dX11_correct_40 ?_
      refine w_i2l (pc := 41) dX11_correct_41 ?_
      refine w_ldiv (pc := 42) dX11_correct_42 (by intro h9; have := Int32.not_le.mp c27; rw [fa0 h9] at this; exact absurd this (by decide)) ?_
      refine w_goto (pc := 43) (tgt := 47) dX11_correct_43 (by decide) ?_
      refine J47 _ ?_
      rw [htk, facS, if_pos (Int32.not_le.mp c27)]
  · refine w_ldc (pc := 8) (v := -1000001) t813 dX11_correct_8 ?_
    refine w_iret (pc := 10) rfl ⟨Nat.le_refl _, Nat.le_refl _⟩ dX11_correct_10 ?_
    have ho : oCorrect (I a) x = (-1000001, none) := by unfold oCorrect; rw [if_pos (b0 c5)]
    exact ⟨by rw [ho], rfl, by rw [ho]; rfl⟩
set_option maxHeartbeats 4000000 in
set_option maxRecDepth 100000 in
theorem c_Mod_set {g : kG} {σ : kS} {I : kI} {q a b c d e f : Nat} (hO : sMod g σ q a b c d e f) {n0 : Nat} (hp : I q 4 = nI n0) (hp2 : n0 ≤ 4) {x y : Int32} : ct g mX11_set ⟨1, 0, 0, 22⟩ [.ref q, .int x, .int y] σ I (qI (oSet (I a) x y).1 σ (opM q a b I (oSet (I a) x y))) := by
  refine ct_of pn11 rfl (Nat.le_of_ble_eq_true rfl) ok_X11_set.1 trivial ?_
  show wp _ _ _ _ _ _ _ _ 0 [some (.ref q), some (.int x), some (.int y), none] []
  have o0 := hO.2.2.2.2.2.2.2.2.2.2.2.2.2.2.2.2.2.2.2.2.1
  have o1 := hO.2.2.2.2.2.2.2.2.2.2.2.2.2.2.2.2.2.2.2.2.2.1
  have o2 := hO.2.2.2.2.2.2.2.2.2.2.2.2.2.2.2.2.2.2.2.2.2.2.1
  have o3 := hO.2.2.2.2.2.2.2.2.2.2.2.2.2.2.2.2.2.2.2.2.2.2.2.1
  have o4 := hO.2.2.2.2.2.2.2.2.2.2.2.2.2.2.2.2.2.2.2.2.2.2.2.2.1
  have o5 := hO.2.2.2.2.2.2.2.2.2.2.2.2.2.2.2.2.2.2.2.2.2.2.2.2.2
  refine w_iload_1 (pc := 0) dX11_set_0 ?_
  refine w_iconst (pc := 1) (v := 0) dX11_set_1 (by decide) ?_
  refine w_iconst (pc := 2) (v := 2) dX11_set_2 (by decide) ?_
  refine w_callS_I (pc := 3) (c_Mod_in) ok_X11_in t811 t810 ⟨Nat.le_of_ble_eq_true rfl, Nat.le_of_ble_eq_true rfl⟩ ⟨rfl, rfl⟩ ⟨Nat.le_refl _, Nat.le_refl _⟩ rfl (Nat.le_of_ble_eq_true rfl) dX11_set_3 ?_
  refine w_if_eq (pc := 6) (tgt := 49) dX11_set_6 (by decide) (fun c6 => ?_) (fun c6 => ?_)
  · refine w_ldc (pc := 49) (v := -1000001) t813 dX11_set_49 ?_
    refine w_iret (pc := 51) rfl ⟨Nat.le_refl _, Nat.le_refl _⟩ dX11_set_51 ?_
    have ho : oSet (I a) x y = (-1000001, none) := by unfold oSet; rw [if_pos (fun h => b0 c6 h.1)]
    exact ⟨by rw [ho], rfl, by rw [ho]; rfl⟩
  · have J43 : ∀ (z w : Int32), z = (if x = 2 then -9 else 1) → w = (if x = 0 then 500 else if x = 1 then 99 else 9) → wp g mX11_set ⟨1, 0, 0, 22⟩ (fun _ => True) (qI (oSet (I a) x y).1 σ (opM q a b I (oSet (I a) x y))) (0, 0) σ I 43 [some (.ref q), some (.int x), some (.int y), none] [.int w, .int z, .int y] := by
      intro z w hz hw
      refine w_callS_I (pc := 43) (c_Mod_in) ok_X11_in t811 t810 ⟨Nat.le_of_ble_eq_true rfl, Nat.le_of_ble_eq_true rfl⟩ ⟨rfl, rfl⟩ ⟨Nat.le_refl _, Nat.le_refl _⟩ rfl (Nat.le_of_ble_eq_true rfl) dX11_set_43 ?_
      refine w_if_ne (pc := 46) (tgt := 52) dX11_set_46 (by decide) (fun c46 => ?_) (fun c46 => ?_)
      · obtain ⟨k0, hk0l, hk0⟩ := nx_rg (m := 2) (by omega) (b1 c6)
        have htk : tn x = k0 := tn_of hk0 (by omega)
        refine w_aload_0 (pc := 52) dX11_set_52 ?_
        refine w_callV_V (pc := 53) (c_Mod_changes hO hp hp2) ok_X11_changes t817 t9 kc11 hO.1 hO.2.1 t815 ⟨Nat.le_of_ble_eq_true rfl, Nat.le_of_ble_eq_true rfl⟩ ⟨rfl, rfl⟩ ⟨Nat.le_refl _, Nat.le_refl _⟩ rfl (Nat.le_of_ble_eq_true rfl) dX11_set_53 ?_
        have hJ : chM q a b I a = I a := chM_a (by omega) (by omega)
        generalize hJe : chM q a b I = J at hJ ⊢
        refine w_aload_0 (pc := 56) dX11_set_56 ?_
        refine w_getR (pc := 57) (b := a) kc11 0 hO.1 hO.2.1 rfl hO.2.2.2.2.2.2.2.2.2.2.2.2.2.2.1 t763 dX11_set_57 ?_
        refine w_bipush (pc := 60) (v := 18) dX11_set_60 (by decide) ?_
        refine w_iload_1 (pc := 62) dX11_set_62 ?_
        refine w_iadd (pc := 63) dX11_set_63 ?_
        refine w_iald (pc := 64) (j := 18 + k0) hO.2.2.1 hO.2.2.2.1 (nx_add rfl hk0) (by omega) (by decide) dX11_set_64 ?_
        refine w_istore_3 (pc := 65) dX11_set_65 rfl ?_
        refine w_aload_0 (pc := 66) dX11_set_66 ?_
        refine w_getR (pc := 67) (b := a) kc11 0 hO.1 hO.2.1 rfl hO.2.2.2.2.2.2.2.2.2.2.2.2.2.2.1 t763 dX11_set_67 ?_
        refine w_bipush (pc := 70) (v := 18) dX11_set_70 (by decide) ?_
        refine w_iload_1 (pc := 72) dX11_set_72 ?_
        refine w_iadd (pc := 73) dX11_set_73 ?_
        refine w_iload_2 (pc := 74) dX11_set_74 ?_
        refine w_iast (pc := 75) (j := 18 + k0) hO.2.2.1 hO.2.2.2.1 (nx_add rfl hk0) (by omega) (by decide) dX11_set_75 ?_
        refine w_iload_3 (pc := 76) dX11_set_76 ?_
        refine w_iret (pc := 77) rfl ⟨Nat.le_refl _, Nat.le_refl _⟩ dX11_set_77 ?_
        have ho : oSet (I a) x y = (I a (18 + k0), some (upd (I a) (18 + k0) y)) := by unfold oSet; rw [if_neg (fun h => h ⟨b1 c6, by have := b1 c46; rw [hz, hw] at this; exact this⟩), htk]
        refine ⟨?_, rfl, ?_⟩
        · rw [ho]
          rw [hJ]
        · rw [ho]
          show _ = va_up (chM q a b I) a _
          rw [hJe]
          simp only [kst, va_up_self, va_uu, hJ]
      · refine w_ldc (pc := 49) (v := -1000001) t813 dX11_set_49 ?_
        refine w_iret (pc := 51) rfl ⟨Nat.le_refl _, Nat.le_refl _⟩ dX11_set_51 ?_
        have ho : oSet (I a) x y = (-1000001, none) := by unfold oSet; rw [if_pos (fun h => b0 c46 (by rw [hz, hw]; exact h.2))]
        exact ⟨by rw [ho], rfl, by rw [ho]; rfl⟩
    have J21 : ∀ (z : Int32), z = (if x = 2 then -9 else 1) → wp g mX11_set ⟨1, 0, 0, 22⟩ (fun _ => True) (qI (oSet (I a) x y).1 σ (opM q a b I (oSet (I a) x y))) (0, 0) σ I 21 [some (.ref q), some (.int x), some (.int y), none] [.int z, .int y] := by
      intro z hz
      refine w_iload_1 (pc := 21) dX11_set_21 ?_
      refine w_if_ne (pc := 22) (tgt := 31) dX11_set_22 (by decide) (fun c22 => ?_) (fun c22 => ?_)
      · refine w_iload_1 (pc := 31) dX11_set_31 ?_
        refine w_iconst (pc := 32) (v := 1) dX11_set_32 (by decide) ?_
        refine w_icmp_ne (pc := 33) (tgt := 41) dX11_set_33 (by decide) (fun c33 => ?_) (fun c33 => ?_)
        · refine w_bipush (pc := 41) (v := 9) dX11_set_41 (by decide) ?_
          exact J43 _ _ hz (by rw [if_neg c22, if_neg c33])
        · refine w_bipush (pc := 36) (v := 99) dX11_set_36 (by decide) ?_
          refine w_goto (pc := 38) (tgt := 43) dX11_set_38 (by decide) ?_
          exact J43 _ _ hz (by rw [if_neg c22, if_pos c33])
      · refine w_sipush (pc := 25) (v := 500) dX11_set_25 (by decide) ?_
        refine w_goto (pc := 28) (tgt := 43) dX11_set_28 (by decide) ?_
        exact J43 _ _ hz (by rw [if_pos c22])
    refine w_iload_2 (pc := 9) dX11_set_9 ?_
    refine w_iload_1 (pc := 10) dX11_set_10 ?_
    refine w_iconst (pc := 11) (v := 2) dX11_set_11 (by decide) ?_
    refine w_icmp_ne (pc := 12) (tgt := 20) dX11_set_12 (by decide) (fun c12 => ?_) (fun c12 => ?_)
    · refine w_iconst (pc := 20) (v := 1) dX11_set_20 (by decide) ?_
      exact J21 _ (by rw [if_neg c12])
    · refine w_bipush (pc := 15) (v := -9) dX11_set_15 (by decide) ?_
      refine w_goto (pc := 17) (tgt := 21) dX11_set_17 (by decide) ?_
      exact J21 _ (by rw [if_pos c12])
set_option maxHeartbeats 4000000 in
set_option maxRecDepth 100000 in
theorem c_Mod_account {g : kG} {σ : kS} {I : kI} {q a b c d e f : Nat} (hO : sMod g σ q a b c d e f) {n0 : Nat} (hp : I q 4 = nI n0) (hp2 : n0 ≤ 4) (hS : SX (I a)) {x : Int32} : ct g mX11_account ⟨1, 0, 0, 21⟩ [.ref q, .int x] σ I (qI (oAccount (I a) x).1 σ (opM q a b I (oAccount (I a) x))) := by
  refine ct_of pn11 rfl (Nat.le_of_ble_eq_true rfl) ok_X11_account.1 trivial ?_
  show wp _ _ _ _ _ _ _ _ 0 [some (.ref q), some (.int x), none] []
  have o0 := hO.2.2.2.2.2.2.2.2.2.2.2.2.2.2.2.2.2.2.2.2.1
  have o1 := hO.2.2.2.2.2.2.2.2.2.2.2.2.2.2.2.2.2.2.2.2.2.1
  have o2 := hO.2.2.2.2.2.2.2.2.2.2.2.2.2.2.2.2.2.2.2.2.2.2.1
  have o3 := hO.2.2.2.2.2.2.2.2.2.2.2.2.2.2.2.2.2.2.2.2.2.2.2.1
  have o4 := hO.2.2.2.2.2.2.2.2.2.2.2.2.2.2.2.2.2.2.2.2.2.2.2.2.1
  have o5 := hO.2.2.2.2.2.2.2.2.2.2.2.2.2.2.2.2.2.2.2.2.2.2.2.2.2
  refine w_aload_0 (pc := 0) dX11_account_0 ?_
  refine w_iload_1 (pc := 1) dX11_account_1 ?_
  refine w_callV_I (pc := 2) (c_Mod_isAccount hO) ok_X11_isAccount t902 t20 kc11 hO.1 hO.2.1 t900 ⟨Nat.le_of_ble_eq_true rfl, Nat.le_of_ble_eq_true rfl⟩ ⟨rfl, rfl⟩ ⟨Nat.le_refl _, Nat.le_refl _⟩ rfl (Nat.le_of_ble_eq_true rfl) dX11_account_2 ?_
  refine w_if_ne (pc := 5) (tgt := 11) dX11_account_5 (by decide) (fun c5 => ?_) (fun c5 => ?_)
  · refine w_aload_0 (pc := 11) dX11_account_11 ?_
    refine w_getR (pc := 12) (b := a) kc11 0 hO.1 hO.2.1 rfl hO.2.2.2.2.2.2.2.2.2.2.2.2.2.2.1 t763 dX11_account_12 ?_
    refine w_bipush (pc := 15) (v := 14) dX11_account_15 (by decide) ?_
    refine w_iald (pc := 17) (j := 14) hO.2.2.1 hO.2.2.2.1 rfl (by decide) (by decide) dX11_account_17 ?_
    refine w_istore_2 (pc := 18) dX11_account_18 rfl ?_
    refine w_iload_2 (pc := 19) dX11_account_19 ?_
    refine w_bipush (pc := 20) (v := 8) dX11_account_20 (by decide) ?_
    refine w_icmp_ne (pc := 22) (tgt := 28) dX11_account_22 (by decide) (fun c22 => ?_) (fun c22 => ?_)
    · obtain ⟨a1, a2, a3, -, -⟩ := SX_A hS
      have a4 : nAc (I a) < 8 := by have := nx_ne c22 a3 (by omega) (b := 8) rfl (by omega); omega
      have e0 : (129 : Int32) + 2 * I a 14 = nI (129 + 2 * nAc (I a)) := nx_2 a3 rfl
      refine w_aload_0 (pc := 28) dX11_account_28 ?_
      refine w_callV_V (pc := 29) (c_Mod_changes hO hp hp2) ok_X11_changes t817 t9 kc11 hO.1 hO.2.1 t815 ⟨Nat.le_of_ble_eq_true rfl, Nat.le_of_ble_eq_true rfl⟩ ⟨rfl, rfl⟩ ⟨Nat.le_refl _, Nat.le_refl _⟩ rfl (Nat.le_of_ble_eq_true rfl) dX11_account_29 ?_
      have hJ : chM q a b I a = I a := chM_a (by omega) (by omega)
      generalize hJe : chM q a b I = J at hJ ⊢
      refine w_aload_0 (pc := 32) dX11_account_32 ?_
      refine w_getR (pc := 33) (b := a) kc11 0 hO.1 hO.2.1 rfl hO.2.2.2.2.2.2.2.2.2.2.2.2.2.2.1 t763 dX11_account_33 ?_
      refine w_sipush (pc := 36) (v := 129) dX11_account_36 (by decide) ?_
      refine w_iconst (pc := 39) (v := 2) dX11_account_39 (by decide) ?_
      refine w_iload_2 (pc := 40) dX11_account_40 ?_
      refine w_imul (pc := 41) dX11_account_41 ?_
      refine w_iadd (pc := 42) dX11_account_42 ?_
      refine w_iload_1 (pc := 43) dX11_account_43 ?_
      refine w_iast (pc := 44) (j := 129 + 2 * nAc (I a)) hO.2.2.1 hO.2.2.2.1 e0 (by omega) (by decide) dX11_account_44 ?_
      refine w_aload_0 (pc := 45) dX11_account_45 ?_
      refine w_getR (pc := 46) (b := a) kc11 0 hO.1 hO.2.1 rfl hO.2.2.2.2.2.2.2.2.2.2.2.2.2.2.1 t763 dX11_account_46 ?_
      refine w_sipush (pc := 49) (v := 129) dX11_account_49 (by decide) ?_
      refine w_iconst (pc := 52) (v := 2) dX11_account_52 (by decide) ?_
      refine w_iload_2 (pc := 53) dX11_account_53 ?_
      refine w_imul (pc := 54) dX11_account_54 ?_
      refine w_iadd (pc := 55) dX11_account_55 ?_
      refine w_iconst (pc := 56) (v := 1) dX11_account_56 (by decide) ?_
      refine w_iadd (pc := 57) dX11_account_57 ?_
      refine w_iconst (pc := 58) (v := 0) dX11_account_58 (by decide) ?_
      refine w_iast (pc := 59) (j := 130 + 2 * nAc (I a)) hO.2.2.1 hO.2.2.2.1 (by rw [e0, nI_1]; congr 1; omega) (by omega) (by decide) dX11_account_59 ?_
      refine w_aload_0 (pc := 60) dX11_account_60 ?_
      refine w_getR (pc := 61) (b := a) kc11 0 hO.1 hO.2.1 rfl hO.2.2.2.2.2.2.2.2.2.2.2.2.2.2.1 t763 dX11_account_61 ?_
      refine w_bipush (pc := 64) (v := 14) dX11_account_64 (by decide) ?_
      refine w_dup2 (pc := 66) dX11_account_66 ?_
      refine w_iald (pc := 67) (j := 14) hO.2.2.1 hO.2.2.2.1 rfl (by decide) (by decide) dX11_account_67 ?_
      refine w_iconst (pc := 68) (v := 1) dX11_account_68 (by decide) ?_
      refine w_iadd (pc := 69) dX11_account_69 ?_
      refine w_iast (pc := 70) (j := 14) hO.2.2.1 hO.2.2.2.1 rfl (by decide) (by decide) dX11_account_70 ?_
      refine w_iload_2 (pc := 71) dX11_account_71 ?_
      refine w_iret (pc := 72) rfl ⟨Nat.le_refl _, Nat.le_refl _⟩ dX11_account_72 ?_
      have ho : oAccount (I a) x = (I a 14, some (upd (upd (upd (I a) (129 + 2 * nAc (I a)) x) (130 + 2 * nAc (I a)) 0) 14 (I a 14 + 1))) := by unfold oAccount; rw [if_neg (fun h => h (b1 c5)), if_neg c22]
      refine ⟨?_, rfl, ?_⟩
      · rw [ho]
      · rw [ho]
        show _ = va_up (chM q a b I) a _
        rw [hJe]
        simp [kst, va_up_self, va_uu, hJ, upd_ne, show ¬ 14 = 129 + 2 * nAc (I a) by omega, show ¬ 14 = 130 + 2 * nAc (I a) by omega]
    · refine w_ldc (pc := 25) (v := -1000003) t814 dX11_account_25 ?_
      refine w_iret (pc := 27) rfl ⟨Nat.le_refl _, Nat.le_refl _⟩ dX11_account_27 ?_
      have ho : oAccount (I a) x = (-1000003, none) := by unfold oAccount; rw [if_neg (fun h => h (b1 c5)), if_pos c22]
      exact ⟨by rw [ho], rfl, by rw [ho]; rfl⟩
  · refine w_ldc (pc := 8) (v := -1000001) t813 dX11_account_8 ?_
    refine w_iret (pc := 10) rfl ⟨Nat.le_refl _, Nat.le_refl _⟩ dX11_account_10 ?_
    have ho : oAccount (I a) x = (-1000001, none) := by unfold oAccount; rw [if_pos (b0 c5)]
    exact ⟨by rw [ho], rfl, by rw [ho]; rfl⟩
set_option maxHeartbeats 4000000 in
set_option maxRecDepth 100000 in
theorem c_Mod_book {g : kG} {σ : kS} {I : kI} {q a b c d e f : Nat} (hO : sMod g σ q a b c d e f) {n0 : Nat} (hp : I q 4 = nI n0) (hp2 : n0 ≤ 4) {x y : Int32} : ct g mX11_book ⟨1, 0, 0, 22⟩ [.ref q, .int x, .int y] σ I (qI (oBook (I a) x y).1 σ (opM q a b I (oBook (I a) x y))) := by
  refine ct_of pn11 rfl (Nat.le_of_ble_eq_true rfl) ok_X11_book.1 trivial ?_
  show wp _ _ _ _ _ _ _ _ 0 [some (.ref q), some (.int x), some (.int y), none] []
  have o0 := hO.2.2.2.2.2.2.2.2.2.2.2.2.2.2.2.2.2.2.2.2.1
  have o1 := hO.2.2.2.2.2.2.2.2.2.2.2.2.2.2.2.2.2.2.2.2.2.1
  have o2 := hO.2.2.2.2.2.2.2.2.2.2.2.2.2.2.2.2.2.2.2.2.2.2.1
  have o3 := hO.2.2.2.2.2.2.2.2.2.2.2.2.2.2.2.2.2.2.2.2.2.2.2.1
  have o4 := hO.2.2.2.2.2.2.2.2.2.2.2.2.2.2.2.2.2.2.2.2.2.2.2.2.1
  have o5 := hO.2.2.2.2.2.2.2.2.2.2.2.2.2.2.2.2.2.2.2.2.2.2.2.2.2
  refine w_iload_1 (pc := 0) dX11_book_0 ?_
  refine w_iconst (pc := 1) (v := 0) dX11_book_1 (by decide) ?_
  refine w_iconst (pc := 2) (v := 3) dX11_book_2 (by decide) ?_
  refine w_callS_I (pc := 3) (c_Mod_in) ok_X11_in t811 t810 ⟨Nat.le_of_ble_eq_true rfl, Nat.le_of_ble_eq_true rfl⟩ ⟨rfl, rfl⟩ ⟨Nat.le_refl _, Nat.le_refl _⟩ rfl (Nat.le_of_ble_eq_true rfl) dX11_book_3 ?_
  refine w_if_eq (pc := 6) (tgt := 17) dX11_book_6 (by decide) (fun c6 => ?_) (fun c6 => ?_)
  · refine w_ldc (pc := 17) (v := -1000001) t813 dX11_book_17 ?_
    refine w_iret (pc := 19) rfl ⟨Nat.le_refl _, Nat.le_refl _⟩ dX11_book_19 ?_
    have ho : oBook (I a) x y = (-1000001, none) := by unfold oBook; rw [if_pos (fun h => b0 c6 h.1)]
    exact ⟨by rw [ho], rfl, by rw [ho]; rfl⟩
  · refine w_aload_0 (pc := 9) dX11_book_9 ?_
    refine w_iload_2 (pc := 10) dX11_book_10 ?_
    refine w_callV_I (pc := 11) (c_Mod_isAccount hO) ok_X11_isAccount t902 t20 kc11 hO.1 hO.2.1 t900 ⟨Nat.le_of_ble_eq_true rfl, Nat.le_of_ble_eq_true rfl⟩ ⟨rfl, rfl⟩ ⟨Nat.le_refl _, Nat.le_refl _⟩ rfl (Nat.le_of_ble_eq_true rfl) dX11_book_11 ?_
    refine w_if_ne (pc := 14) (tgt := 20) dX11_book_14 (by decide) (fun c14 => ?_) (fun c14 => ?_)
    · obtain ⟨k0, hk0l, hk0⟩ := nx_rg (m := 3) (by omega) (b1 c6)
      have htk : tn x = k0 := tn_of hk0 (by omega)
      refine w_aload_0 (pc := 20) dX11_book_20 ?_
      refine w_callV_V (pc := 21) (c_Mod_changes hO hp hp2) ok_X11_changes t817 t9 kc11 hO.1 hO.2.1 t815 ⟨Nat.le_of_ble_eq_true rfl, Nat.le_of_ble_eq_true rfl⟩ ⟨rfl, rfl⟩ ⟨Nat.le_refl _, Nat.le_refl _⟩ rfl (Nat.le_of_ble_eq_true rfl) dX11_book_21 ?_
      have hJ : chM q a b I a = I a := chM_a (by omega) (by omega)
      generalize hJe : chM q a b I = J at hJ ⊢
      refine w_aload_0 (pc := 24) dX11_book_24 ?_
      refine w_getR (pc := 25) (b := a) kc11 0 hO.1 hO.2.1 rfl hO.2.2.2.2.2.2.2.2.2.2.2.2.2.2.1 t763 dX11_book_25 ?_
      refine w_sipush (pc := 28) (v := 145) dX11_book_28 (by decide) ?_
      refine w_iload_1 (pc := 31) dX11_book_31 ?_
      refine w_iadd (pc := 32) dX11_book_32 ?_
      refine w_iald (pc := 33) (j := 145 + k0) hO.2.2.1 hO.2.2.2.1 (nx_add rfl hk0) (by omega) (by decide) dX11_book_33 ?_
      refine w_istore_3 (pc := 34) dX11_book_34 rfl ?_
      refine w_aload_0 (pc := 35) dX11_book_35 ?_
      refine w_getR (pc := 36) (b := a) kc11 0 hO.1 hO.2.1 rfl hO.2.2.2.2.2.2.2.2.2.2.2.2.2.2.1 t763 dX11_book_36 ?_
      refine w_sipush (pc := 39) (v := 145) dX11_book_39 (by decide) ?_
      refine w_iload_1 (pc := 42) dX11_book_42 ?_
      refine w_iadd (pc := 43) dX11_book_43 ?_
      refine w_iload_2 (pc := 44) dX11_book_44 ?_
      refine w_iast (pc := 45) (j := 145 + k0) hO.2.2.1 hO.2.2.2.1 (nx_add rfl hk0) (by omega) (by decide) dX11_book_45 ?_
      refine w_iload_3 (pc := 46) dX11_book_46 ?_
      refine w_iret (pc := 47) rfl ⟨Nat.le_refl _, Nat.le_refl _⟩ dX11_book_47 ?_
      have ho : oBook (I a) x y = (I a (145 + k0), some (upd (I a) (145 + k0) y)) := by unfold oBook; rw [if_neg (fun h => h ⟨b1 c6, b1 c14⟩), htk]
      refine ⟨?_, rfl, ?_⟩
      · rw [ho]
        rw [hJ]
      · rw [ho]
        show _ = va_up (chM q a b I) a _
        rw [hJe]
        simp only [kst, va_up_self, va_uu, hJ]
    · refine w_ldc (pc := 17) (v := -1000001) t813 dX11_book_17 ?_
      refine w_iret (pc := 19) rfl ⟨Nat.le_refl _, Nat.le_refl _⟩ dX11_book_19 ?_
      have ho : oBook (I a) x y = (-1000001, none) := by unfold oBook; rw [if_pos (fun h => b0 c14 h.2)]
      exact ⟨by rw [ho], rfl, by rw [ho]; rfl⟩
