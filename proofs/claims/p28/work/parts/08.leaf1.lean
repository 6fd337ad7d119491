set_option maxHeartbeats 4000000 in
set_option maxRecDepth 100000 in
theorem c_Belt_mass {g : kG} {σ : kS} {I : kI} {b m : Nat} (hO : sBelt g σ b m) {s0 : Nat} (hs : I b 1 = nI s0) (hs2 : s0 < 12) {x y : Int32} {π κ : Nat} (hx : x = nI π) (hx2 : π < 12) (hy : y = nI κ) (hy2 : κ < 4) : ct g mX1_mass ⟨0, 0, 0, 0⟩ [.ref b, .int x, .int y] σ I (qI (I m ((s0 + π) % 12 * 4 + κ)) σ I) := by
  refine ct_of pn1 rfl (Nat.le_of_ble_eq_true rfl) ok_X1_mass.1 trivial ?_
  show wp _ _ _ _ _ _ _ _ 0 [some (.ref b), some (.int x), some (.int y)] []
  refine w_aload_0 (pc := 0) dX1_mass_0 ?_
  refine w_getR (pc := 1) (b := m) kc1 0 hO.1 hO.2.1 rfl hO.2.2.2.2.1 t67 dX1_mass_1 ?_
  refine w_aload_0 (pc := 4) dX1_mass_4 ?_
  refine w_getI (pc := 5) kc1 1 hO.1 hO.2.1 rfl t68 dX1_mass_5 ?_
  refine w_iload_1 (pc := 8) dX1_mass_8 ?_
  refine w_iadd (pc := 9) dX1_mass_9 ?_
  refine w_bipush (pc := 10) (v := 12) dX1_mass_10 (by decide) ?_
  refine w_irem (pc := 12) dX1_mass_12 (by decide) ?_
  refine w_iconst (pc := 13) (v := 4) dX1_mass_13 (by decide) ?_
  refine w_imul (pc := 14) dX1_mass_14 ?_
  refine w_iload_2 (pc := 15) dX1_mass_15 ?_
  refine w_iadd (pc := 16) dX1_mass_16 ?_
  refine w_iald (pc := 17) (j := (s0 + π) % 12 * 4 + κ) hO.2.2.1 hO.2.2.2.1 (nx_rowk hs hs2 hx hx2 hy) (nx_lt hy2) (by decide) dX1_mass_17 ?_
  refine w_iret (pc := 18) rfl ⟨Nat.le_refl _, Nat.le_refl _⟩ dX1_mass_18 ?_
  exact ⟨rfl, rfl, rfl⟩
set_option maxHeartbeats 4000000 in
set_option maxRecDepth 100000 in
theorem c_Belt_take {g : kG} {σ : kS} {I : kI} {b m : Nat} (hO : sBelt g σ b m) {s0 : Nat} (hs : I b 1 = nI s0) (hs2 : s0 < 12) {x y z : Int32} {π κ : Nat} (hx : x = nI π) (hx2 : π < 12) (hy : y = nI κ) (hy2 : κ < 4) : ct g mX1_take ⟨0, 0, 0, 0⟩ [.ref b, .int x, .int y, .int z] σ I (qV σ (kst (kst I m ((s0 + π) % 12 * 4 + κ) (I m ((s0 + π) % 12 * 4 + κ) - z)) b 2 (I b 2 - z))) := by
  refine ct_of pn1 rfl (Nat.le_of_ble_eq_true rfl) ok_X1_take.1 trivial ?_
  show wp _ _ _ _ _ _ _ _ 0 [some (.ref b), some (.int x), some (.int y), some (.int z)] []
  refine w_aload_0 (pc := 0) dX1_take_0 ?_
  refine w_getR (pc := 1) (b := m) kc1 0 hO.1 hO.2.1 rfl hO.2.2.2.2.1 t67 dX1_take_1 ?_
  refine w_aload_0 (pc := 4) dX1_take_4 ?_
  refine w_getI (pc := 5) kc1 1 hO.1 hO.2.1 rfl t68 dX1_take_5 ?_
  refine w_iload_1 (pc := 8) dX1_take_8 ?_
  refine w_iadd (pc := 9) dX1_take_9 ?_
  refine w_bipush (pc := 10) (v := 12) dX1_take_10 (by decide) ?_
  refine w_irem (pc := 12) dX1_take_12 (by decide) ?_
  refine w_iconst (pc := 13) (v := 4) dX1_take_13 (by decide) ?_
  refine w_imul (pc := 14) dX1_take_14 ?_
  refine w_iload_2 (pc := 15) dX1_take_15 ?_
  refine w_iadd (pc := 16) dX1_take_16 ?_
  refine w_dup2 (pc := 17) dX1_take_17 ?_
  refine w_iald (pc := 18) (j := (s0 + π) % 12 * 4 + κ) hO.2.2.1 hO.2.2.2.1 (nx_rowk hs hs2 hx hx2 hy) (nx_lt hy2) (by decide) dX1_take_18 ?_
  refine w_iload_3 (pc := 19) dX1_take_19 ?_
  refine w_isub (pc := 20) dX1_take_20 ?_
  refine w_iast (pc := 21) (j := (s0 + π) % 12 * 4 + κ) hO.2.2.1 hO.2.2.2.1 (nx_rowk hs hs2 hx hx2 hy) (nx_lt hy2) (by decide) dX1_take_21 ?_
  refine w_aload_0 (pc := 22) dX1_take_22 ?_
  refine w_dup_a (pc := 23) dX1_take_23 ?_
  refine w_getI (pc := 24) kc1 2 hO.1 hO.2.1 rfl t69 dX1_take_24 ?_
  refine w_iload_3 (pc := 27) dX1_take_27 ?_
  refine w_isub (pc := 28) dX1_take_28 ?_
  refine w_putI (pc := 29) kc1 2 hO.1 hO.2.1 rfl t69 rfl (tyX1_ok 2 (by decide)) rfl rfl dX1_take_29 ?_
  refine w_vret (pc := 32) rfl ⟨Nat.le_refl _, Nat.le_refl _⟩ dX1_take_32 ?_
  refine ⟨rfl, rfl, ?_⟩
  rw [kst_n (I := I) (a := m) (b := b) (by have := hO.2.2.2.2.2; omega)]
set_option maxHeartbeats 4000000 in
set_option maxRecDepth 100000 in
theorem c_Belt_putAtStart {g : kG} {σ : kS} {I : kI} {b m : Nat} (hO : sBelt g σ b m) {s0 : Nat} (hs : I b 1 = nI s0) (hs2 : s0 < 12) {y z : Int32} {κ : Nat} (hy : y = nI κ) (hy2 : κ < 4) : ct g mX1_putAtStart ⟨0, 0, 0, 0⟩ [.ref b, .int y, .int z] σ I (qV σ (kst (kst I m (s0 * 4 + κ) (I m (s0 * 4 + κ) + z)) b 2 (I b 2 + z))) := by
  refine ct_of pn1 rfl (Nat.le_of_ble_eq_true rfl) ok_X1_putAtStart.1 trivial ?_
  show wp _ _ _ _ _ _ _ _ 0 [some (.ref b), some (.int y), some (.int z)] []
  refine w_aload_0 (pc := 0) dX1_putAtStart_0 ?_
  refine w_getR (pc := 1) (b := m) kc1 0 hO.1 hO.2.1 rfl hO.2.2.2.2.1 t67 dX1_putAtStart_1 ?_
  refine w_aload_0 (pc := 4) dX1_putAtStart_4 ?_
  refine w_getI (pc := 5) kc1 1 hO.1 hO.2.1 rfl t68 dX1_putAtStart_5 ?_
  refine w_iconst (pc := 8) (v := 4) dX1_putAtStart_8 (by decide) ?_
  refine w_imul (pc := 9) dX1_putAtStart_9 ?_
  refine w_iload_1 (pc := 10) dX1_putAtStart_10 ?_
  refine w_iadd (pc := 11) dX1_putAtStart_11 ?_
  refine w_dup2 (pc := 12) dX1_putAtStart_12 ?_
  refine w_iald (pc := 13) (j := s0 * 4 + κ) hO.2.2.1 hO.2.2.2.1 (nx_4 hs hy) (by omega) (by decide) dX1_putAtStart_13 ?_
  refine w_iload_2 (pc := 14) dX1_putAtStart_14 ?_
  refine w_iadd (pc := 15) dX1_putAtStart_15 ?_
  refine w_iast (pc := 16) (j := s0 * 4 + κ) hO.2.2.1 hO.2.2.2.1 (nx_4 hs hy) (by omega) (by decide) dX1_putAtStart_16 ?_
  refine w_aload_0 (pc := 17) dX1_putAtStart_17 ?_
  refine w_dup_a (pc := 18) dX1_putAtStart_18 ?_
  refine w_getI (pc := 19) kc1 2 hO.1 hO.2.1 rfl t69 dX1_putAtStart_19 ?_
  refine w_iload_2 (pc := 22) dX1_putAtStart_22 ?_
  refine w_iadd (pc := 23) dX1_putAtStart_23 ?_
  refine w_putI (pc := 24) kc1 2 hO.1 hO.2.1 rfl t69 rfl (tyX1_ok 2 (by decide)) rfl rfl dX1_putAtStart_24 ?_
  refine w_vret (pc := 27) rfl ⟨Nat.le_refl _, Nat.le_refl _⟩ dX1_putAtStart_27 ?_
  refine ⟨rfl, rfl, ?_⟩
  rw [kst_n (I := I) (a := m) (b := b) (by have := hO.2.2.2.2.2; omega)]
set_option maxHeartbeats 4000000 in
set_option maxRecDepth 100000 in
theorem c_Belt_goOn {g : kG} {σ : kS} {I : kI} {b m : Nat} (hO : sBelt g σ b m) {s0 : Nat} (hs : I b 1 = nI s0) (hs2 : s0 < 12)  : ct g mX1_goOn ⟨0, 0, 0, 0⟩ [.ref b] σ I (qV σ (kst I b 1 (nI ((s0 + 11) % 12)))) := by
  refine ct_of pn1 rfl (Nat.le_of_ble_eq_true rfl) ok_X1_goOn.1 trivial ?_
  show wp _ _ _ _ _ _ _ _ 0 [some (.ref b)] []
  refine w_aload_0 (pc := 0) dX1_goOn_0 ?_
  refine w_aload_0 (pc := 1) dX1_goOn_1 ?_
  refine w_getI (pc := 2) kc1 1 hO.1 hO.2.1 rfl t68 dX1_goOn_2 ?_
  refine w_bipush (pc := 5) (v := 12) dX1_goOn_5 (by decide) ?_
  refine w_iadd (pc := 7) dX1_goOn_7 ?_
  refine w_iconst (pc := 8) (v := 1) dX1_goOn_8 (by decide) ?_
  refine w_isub (pc := 9) dX1_goOn_9 ?_
  refine w_bipush (pc := 10) (v := 12) dX1_goOn_10 (by decide) ?_
  refine w_irem (pc := 12) dX1_goOn_12 (by decide) ?_
  refine w_putI (pc := 13) kc1 1 hO.1 hO.2.1 rfl t68 rfl (tyX1_ok 1 (by decide)) rfl rfl dX1_goOn_13 ?_
  refine w_vret (pc := 16) rfl ⟨Nat.le_refl _, Nat.le_refl _⟩ dX1_goOn_16 ?_
  refine ⟨rfl, rfl, ?_⟩
  rw [hs, show nI s0 + 12 - 1 = nI (s0 + 11) from by rw [show (12 : Int32) = nI 12 from rfl, nI_add]; exact nI_pred _, show (12 : Int32) = nI 12 from rfl, pk_rem (by omega) (by omega) (by omega)]
set_option maxHeartbeats 4000000 in
set_option maxRecDepth 100000 in
theorem c_Belt_massOfPlace {g : kG} {σ : kS} {I : kI} {b m : Nat} (hO : sBelt g σ b m) {s0 : Nat} (hs : I b 1 = nI s0) (hs2 : s0 < 12) {x : Int32} {π : Nat} (hx : x = nI π) (hx2 : π < 12) : ct g mX1_massOfPlace ⟨0, 0, 0, 0⟩ [.ref b, .int x] σ I (qI (sm (I m) ((s0 + π) % 12 * 4) 4) σ I) := by
  refine ct_of pn1 rfl (Nat.le_of_ble_eq_true rfl) ok_X1_massOfPlace.1 trivial ?_
  show wp _ _ _ _ _ _ _ _ 0 [some (.ref b), some (.int x), none, none, none] []
  refine w_aload_0 (pc := 0) dX1_massOfPlace_0 ?_
  refine w_getI (pc := 1) kc1 1 hO.1 hO.2.1 rfl t68 dX1_massOfPlace_1 ?_
  refine w_iload_1 (pc := 4) dX1_massOfPlace_4 ?_
  refine w_iadd (pc := 5) dX1_massOfPlace_5 ?_
  refine w_bipush (pc := 6) (v := 12) dX1_massOfPlace_6 (by decide) ?_
  refine w_irem (pc := 8) dX1_massOfPlace_8 (by decide) ?_
  refine w_iconst (pc := 9) (v := 4) dX1_massOfPlace_9 (by decide) ?_
  refine w_imul (pc := 10) dX1_massOfPlace_10 ?_
  refine w_istore_2 (pc := 11) dX1_massOfPlace_11 rfl ?_
  refine w_iconst (pc := 12) (v := 0) dX1_massOfPlace_12 (by decide) ?_
  refine w_istore_3 (pc := 13) dX1_massOfPlace_13 rfl ?_
  refine w_iconst (pc := 14) (v := 0) dX1_massOfPlace_14 (by decide) ?_
  refine w_istore_4 (pc := 15) dX1_massOfPlace_15 rfl ?_
  refine w_iload_4 (pc := 17) dX1_massOfPlace_17 ?_
  refine w_iconst (pc := 19) (v := 4) dX1_massOfPlace_19 (by decide) ?_
  refine w_icmp_ge (pc := 20) (tgt := 41) dX1_massOfPlace_20 (by decide) (fun c9 => absurd c9 (by decide)) (fun _ => ?_)
  refine w_iload_3 (pc := 23) dX1_massOfPlace_23 ?_
  refine w_aload_0 (pc := 24) dX1_massOfPlace_24 ?_
  refine w_getR (pc := 25) (b := m) kc1 0 hO.1 hO.2.1 rfl hO.2.2.2.2.1 t67 dX1_massOfPlace_25 ?_
  refine w_iload_2 (pc := 28) dX1_massOfPlace_28 ?_
  refine w_iload_4 (pc := 29) dX1_massOfPlace_29 ?_
  refine w_iadd (pc := 31) dX1_massOfPlace_31 ?_
  refine w_iald (pc := 32) (j := (s0 + π) % 12 * 4 + 0) hO.2.2.1 hO.2.2.2.1 (nx_add (nx_row hs hs2 hx hx2) rfl) (nx_lt (by decide)) (by decide) dX1_massOfPlace_32 ?_
  refine w_iadd (pc := 33) dX1_massOfPlace_33 ?_
  refine w_istore_3 (pc := 34) dX1_massOfPlace_34 rfl ?_
  refine w_iinc_4 (pc := 35) (v := 1) dX1_massOfPlace_35 (by decide) rfl ?_
  refine w_goto (pc := 38) (tgt := 17) dX1_massOfPlace_38 (by decide) ?_
  refine w_iload_4 (pc := 17) dX1_massOfPlace_17 ?_
  refine w_iconst (pc := 19) (v := 4) dX1_massOfPlace_19 (by decide) ?_
  refine w_icmp_ge (pc := 20) (tgt := 41) dX1_massOfPlace_20 (by decide) (fun c9 => absurd c9 (by decide)) (fun _ => ?_)
  refine w_iload_3 (pc := 23) dX1_massOfPlace_23 ?_
  refine w_aload_0 (pc := 24) dX1_massOfPlace_24 ?_
  refine w_getR (pc := 25) (b := m) kc1 0 hO.1 hO.2.1 rfl hO.2.2.2.2.1 t67 dX1_massOfPlace_25 ?_
  refine w_iload_2 (pc := 28) dX1_massOfPlace_28 ?_
  refine w_iload_4 (pc := 29) dX1_massOfPlace_29 ?_
  refine w_iadd (pc := 31) dX1_massOfPlace_31 ?_
  refine w_iald (pc := 32) (j := (s0 + π) % 12 * 4 + 1) hO.2.2.1 hO.2.2.2.1 (nx_add (nx_row hs hs2 hx hx2) rfl) (nx_lt (by decide)) (by decide) dX1_massOfPlace_32 ?_
  refine w_iadd (pc := 33) dX1_massOfPlace_33 ?_
  refine w_istore_3 (pc := 34) dX1_massOfPlace_34 rfl ?_
  refine w_iinc_4 (pc := 35) (v := 2) dX1_massOfPlace_35 (by decide) rfl ?_
  refine w_goto (pc := 38) (tgt := 17) dX1_massOfPlace_38 (by decide) ?_
  refine w_iload_4 (pc := 17) dX1_massOfPlace_17 ?_
  refine w_iconst (pc := 19) (v := 4) dX1_massOfPlace_19 (by decide) ?_
  refine w_icmp_ge (pc := 20) (tgt := 41) dX1_massOfPlace_20 (by decide) (fun c9 => absurd c9 (by decide)) (fun _ => ?_)
  refine w_iload_3 (pc := 23) dX1_massOfPlace_23 ?_
  refine w_aload_0 (pc := 24) dX1_massOfPlace_24 ?_
  refine w_getR (pc := 25) (b := m) kc1 0 hO.1 hO.2.1 rfl hO.2.2.2.2.1 t67 dX1_massOfPlace_25 ?_
  refine w_iload_2 (pc := 28) dX1_massOfPlace_28 ?_
  refine w_iload_4 (pc := 29) dX1_massOfPlace_29 ?_
  refine w_iadd (pc := 31) dX1_massOfPlace_31 ?_
  refine w_iald (pc := 32) (j := (s0 + π) % 12 * 4 + 2) hO.2.2.1 hO.2.2.2.1 (nx_add (nx_row hs hs2 hx hx2) rfl) (nx_lt (by decide)) (by decide) dX1_massOfPlace_32 ?_
  refine w_iadd (pc := 33) dX1_massOfPlace_33 ?_
  refine w_istore_3 (pc := 34) dX1_massOfPlace_34 rfl ?_
  refine w_iinc_4 (pc := 35) (v := 3) dX1_massOfPlace_35 (by decide) rfl ?_
  refine w_goto (pc := 38) (tgt := 17) dX1_massOfPlace_38 (by decide) ?_
  refine w_iload_4 (pc := 17) dX1_massOfPlace_17 ?_
  refine w_iconst (pc := 19) (v := 4) dX1_massOfPlace_19 (by decide) ?_
  refine w_icmp_ge (pc := 20) (tgt := 41) dX1_massOfPlace_20 (by decide) (fun c9 => absurd c9 (by decide)) (fun _ => ?_)
  refine w_iload_3 (pc := 23) dX1_massOfPlace_23 ?_
  refine w_aload_0 (pc := 24) dX1_massOfPlace_24 ?_
  refine w_getR (pc := 25) (b := m) kc1 0 hO.1 hO.2.1 rfl hO.2.2.2.2.1 t67 dX1_massOfPlace_25 ?_
  refine w_iload_2 (pc := 28) dX1_massOfPlace_28 ?_
  refine w_iload_4 (pc := 29) dX1_massOfPlace_29 ?_
  refine w_iadd (pc := 31) dX1_massOfPlace_31 ?_
  refine w_iald (pc := 32) (j := (s0 + π) % 12 * 4 + 3) hO.2.2.1 hO.2.2.2.1 (nx_add (nx_row hs hs2 hx hx2) rfl) (nx_lt (by decide)) (by decide) dX1_massOfPlace_32 ?_
  refine w_iadd (pc := 33) dX1_massOfPlace_33 ?_
  refine w_istore_3 (pc := 34) dX1_massOfPlace_34 rfl ?_
  refine w_iinc_4 (pc := 35) (v := 4) dX1_massOfPlace_35 (by decide) rfl ?_
  refine w_goto (pc := 38) (tgt := 17) dX1_massOfPlace_38 (by decide) ?_
  refine w_iload_4 (pc := 17) dX1_massOfPlace_17 ?_
  refine w_iconst (pc := 19) (v := 4) dX1_massOfPlace_19 (by decide) ?_
  refine w_icmp_ge (pc := 20) (tgt := 41) dX1_massOfPlace_20 (by decide) (fun _ => ?_) (fun c9 => absurd (by decide) c9)
  refine w_iload_3 (pc := 41) dX1_massOfPlace_41 ?_
  refine w_iret (pc := 42) rfl ⟨Nat.le_refl _, Nat.le_refl _⟩ dX1_massOfPlace_42 ?_
  refine ⟨?_, rfl, rfl⟩
  simp only [sm, Nat.add_zero]
set_option maxHeartbeats 4000000 in
set_option maxRecDepth 100000 in
theorem c_Belt_massSeen {g : kG} {σ : kS} {I : kI} {b m : Nat} (hO : sBelt g σ b m) {s0 : Nat} (hs : I b 1 = nI s0) (hs2 : s0 < 12)  : ct g mX1_massSeen ⟨1, 0, 0, 24⟩ [.ref b] σ I (qI (0 + sm (I m) ((s0 + 4) % 12 * 4) 4 + sm (I m) ((s0 + 5) % 12 * 4) 4 + sm (I m) ((s0 + 6) % 12 * 4) 4 + sm (I m) ((s0 + 7) % 12 * 4) 4) σ I) := by
  refine ct_of pn1 rfl (Nat.le_of_ble_eq_true rfl) ok_X1_massSeen.1 trivial ?_
  show wp _ _ _ _ _ _ _ _ 0 [some (.ref b), none, none] []
  refine w_iconst (pc := 0) (v := 0) dX1_massSeen_0 (by decide) ?_
  refine w_istore_1 (pc := 1) dX1_massSeen_1 rfl ?_
  refine w_iconst (pc := 2) (v := 0) dX1_massSeen_2 (by decide) ?_
  refine w_istore_2 (pc := 3) dX1_massSeen_3 rfl ?_
  refine w_iload_2 (pc := 4) dX1_massSeen_4 ?_
  refine w_iconst (pc := 5) (v := 4) dX1_massSeen_5 (by decide) ?_
  refine w_icmp_ge (pc := 6) (tgt := 25) dX1_massSeen_6 (by decide) (fun c9 => absurd c9 (by decide)) (fun _ => ?_)
  refine w_iload_1 (pc := 9) dX1_massSeen_9 ?_
  refine w_aload_0 (pc := 10) dX1_massSeen_10 ?_
  refine w_iconst (pc := 11) (v := 4) dX1_massSeen_11 (by decide) ?_
  refine w_iload_2 (pc := 12) dX1_massSeen_12 ?_
  refine w_iadd (pc := 13) dX1_massSeen_13 ?_
  refine w_callV_I (pc := 14) (c_Belt_massOfPlace hO hs hs2 (π := 4) (x := 4 + 0) rfl (by decide)) ok_X1_massOfPlace t321 t322 kc1 hO.1 hO.2.1 t470 ⟨Nat.le_of_ble_eq_true rfl, Nat.le_of_ble_eq_true rfl⟩ ⟨rfl, rfl⟩ ⟨Nat.le_refl _, Nat.le_refl _⟩ rfl (Nat.le_of_ble_eq_true rfl) dX1_massSeen_14 ?_
  refine w_iadd (pc := 17) dX1_massSeen_17 ?_
  refine w_istore_1 (pc := 18) dX1_massSeen_18 rfl ?_
  refine w_iinc_2 (pc := 19) (v := 1) dX1_massSeen_19 (by decide) rfl ?_
  refine w_goto (pc := 22) (tgt := 4) dX1_massSeen_22 (by decide) ?_
  refine w_iload_2 (pc := 4) dX1_massSeen_4 ?_
  refine w_iconst (pc := 5) (v := 4) dX1_massSeen_5 (by decide) ?_
  refine w_icmp_ge (pc := 6) (tgt := 25) dX1_massSeen_6 (by decide) (fun c9 => absurd c9 (by decide)) (fun _ => ?_)
  refine w_iload_1 (pc := 9) dX1_massSeen_9 ?_
  refine w_aload_0 (pc := 10) dX1_massSeen_10 ?_
  refine w_iconst (pc := 11) (v := 4) dX1_massSeen_11 (by decide) ?_
  refine w_iload_2 (pc := 12) dX1_massSeen_12 ?_
  refine w_iadd (pc := 13) dX1_massSeen_13 ?_
  refine w_callV_I (pc := 14) (c_Belt_massOfPlace hO hs hs2 (π := 5) (x := 4 + 1) rfl (by decide)) ok_X1_massOfPlace t321 t322 kc1 hO.1 hO.2.1 t470 ⟨Nat.le_of_ble_eq_true rfl, Nat.le_of_ble_eq_true rfl⟩ ⟨rfl, rfl⟩ ⟨Nat.le_refl _, Nat.le_refl _⟩ rfl (Nat.le_of_ble_eq_true rfl) dX1_massSeen_14 ?_
  refine w_iadd (pc := 17) dX1_massSeen_17 ?_
  refine w_istore_1 (pc := 18) dX1_massSeen_18 rfl ?_
  refine w_iinc_2 (pc := 19) (v := 2) dX1_massSeen_19 (by decide) rfl ?_
  refine w_goto (pc := 22) (tgt := 4) dX1_massSeen_22 (by decide) ?_
  refine w_iload_2 (pc := 4) dX1_massSeen_4 ?_
  refine w_iconst (pc := 5) (v := 4) dX1_massSeen_5 (by decide) ?_
  refine w_icmp_ge (pc := 6) (tgt := 25) dX1_massSeen_6 (by decide) (fun c9 => absurd c9 (by decide)) (fun _ => ?_)
  refine w_iload_1 (pc := 9) dX1_massSeen_9 ?_
  refine w_aload_0 (pc := 10) dX1_massSeen_10 ?_
  refine w_iconst (pc := 11) (v := 4) dX1_massSeen_11 (by decide) ?_
  refine w_iload_2 (pc := 12) dX1_massSeen_12 ?_
  refine w_iadd (pc := 13) dX1_massSeen_13 ?_
  refine w_callV_I (pc := 14) (c_Belt_massOfPlace hO hs hs2 (π := 6) (x := 4 + 2) rfl (by decide)) ok_X1_massOfPlace t321 t322 kc1 hO.1 hO.2.1 t470 ⟨Nat.le_of_ble_eq_true rfl, Nat.le_of_ble_eq_true rfl⟩ ⟨rfl, rfl⟩ ⟨Nat.le_refl _, Nat.le_refl _⟩ rfl (Nat.le_of_ble_eq_true rfl) dX1_massSeen_14 ?_
  refine w_iadd (pc := 17) dX1_massSeen_17 ?_
  refine w_istore_1 (pc := 18) dX1_massSeen_18 rfl ?_
  refine w_iinc_2 (pc := 19) (v := 3) dX1_massSeen_19 (by decide) rfl ?_
  refine w_goto (pc := 22) (tgt := 4) dX1_massSeen_22 (by decide) ?_
  refine w_iload_2 (pc := 4) dX1_massSeen_4 ?_
  refine w_iconst (pc := 5) (v := 4) dX1_massSeen_5 (by decide) ?_
  refine w_icmp_ge (pc := 6) (tgt := 25) dX1_massSeen_6 (by decide) (fun c9 => absurd c9 (by decide)) (fun _ => ?_)
  refine w_iload_1 (pc := 9) dX1_massSeen_9 ?_
  refine w_aload_0 (pc := 10) dX1_massSeen_10 ?_
  refine w_iconst (pc := 11) (v := 4) dX1_massSeen_11 (by decide) ?_
  refine w_iload_2 (pc := 12) dX1_massSeen_12 ?_
  refine w_iadd (pc := 13) dX1_massSeen_13 ?_
  refine w_callV_I (pc := 14) (c_Belt_massOfPlace hO hs hs2 (π := 7) (x := 4 + 3) rfl (by decide)) ok_X1_massOfPlace t321 t322 kc1 hO.1 hO.2.1 t470 ⟨Nat.le_of_ble_eq_true rfl, Nat.le_of_ble_eq_true rfl⟩ ⟨rfl, rfl⟩ ⟨Nat.le_refl _, Nat.le_refl _⟩ rfl (Nat.le_of_ble_eq_true rfl) dX1_massSeen_14 ?_
  refine w_iadd (pc := 17) dX1_massSeen_17 ?_
  refine w_istore_1 (pc := 18) dX1_massSeen_18 rfl ?_
  refine w_iinc_2 (pc := 19) (v := 4) dX1_massSeen_19 (by decide) rfl ?_
  refine w_goto (pc := 22) (tgt := 4) dX1_massSeen_22 (by decide) ?_
  refine w_iload_2 (pc := 4) dX1_massSeen_4 ?_
  refine w_iconst (pc := 5) (v := 4) dX1_massSeen_5 (by decide) ?_
  refine w_icmp_ge (pc := 6) (tgt := 25) dX1_massSeen_6 (by decide) (fun _ => ?_) (fun c9 => absurd (by decide) c9)
  refine w_iload_1 (pc := 25) dX1_massSeen_25 ?_
  refine w_iret (pc := 26) rfl ⟨Nat.le_refl _, Nat.le_refl _⟩ dX1_massSeen_26 ?_
  exact ⟨rfl, rfl, rfl⟩
set_option maxHeartbeats 4000000 in
set_option maxRecDepth 100000 in
theorem c_Bins_has {g : kG} {σ : kS} {I : kI} {b m w t : Nat} (hO : sBins g σ b m w t) {x : Int32} : ct g mX2_has ⟨0, 0, 0, 0⟩ [.ref b, .int x] σ I (qI (if 0 ≤ x ∧ x < I b 3 then 1 else 0) σ I) := by
  refine ct_of pn2 rfl (Nat.le_of_ble_eq_true rfl) ok_X2_has.1 trivial ?_
  show wp _ _ _ _ _ _ _ _ 0 [some (.ref b), some (.int x)] []
  refine w_iload_1 (pc := 0) dX2_has_0 ?_
  refine w_if_lt (pc := 1) (tgt := 16) dX2_has_1 (by decide) (fun c1 => ?_) (fun c1 => ?_)
  · refine w_iconst (pc := 16) (v := 0) dX2_has_16 (by decide) ?_
    refine w_zret (pc := 17) rfl (by decide) ⟨Nat.le_refl _, Nat.le_refl _⟩ dX2_has_17 ?_
    refine ⟨?_, rfl, rfl⟩
    rw [if_neg (fun h => absurd h.1 (Int32.not_le.mpr c1))]
  · refine w_iload_1 (pc := 4) dX2_has_4 ?_
    refine w_aload_0 (pc := 5) dX2_has_5 ?_
    refine w_getI (pc := 6) kc2 3 hO.1 hO.2.1 rfl t92 dX2_has_6 ?_
    refine w_icmp_ge (pc := 9) (tgt := 16) dX2_has_9 (by decide) (fun c9 => ?_) (fun c9 => ?_)
    · refine w_iconst (pc := 16) (v := 0) dX2_has_16 (by decide) ?_
      refine w_zret (pc := 17) rfl (by decide) ⟨Nat.le_refl _, Nat.le_refl _⟩ dX2_has_17 ?_
      refine ⟨?_, rfl, rfl⟩
      rw [if_neg (fun h => absurd c9 (Int32.not_le.mpr h.2))]
    · refine w_iconst (pc := 12) (v := 1) dX2_has_12 (by decide) ?_
      refine w_goto (pc := 13) (tgt := 17) dX2_has_13 (by decide) ?_
      refine w_zret (pc := 17) rfl (by decide) ⟨Nat.le_refl _, Nat.le_refl _⟩ dX2_has_17 ?_
      refine ⟨?_, rfl, rfl⟩
      rw [if_pos ⟨Int32.not_lt.mp c1, Int32.not_le.mp c9⟩]
set_option maxHeartbeats 4000000 in
set_option maxRecDepth 100000 in
theorem c_Bins_addToPresent {g : kG} {σ : kS} {I : kI} {b m w t : Nat} (hO : sBins g σ b m w t) {n0 : Nat} (hm : I b 3 = nI n0) (hm2 : n0 ≤ 8) {y z : Int32} {κ : Nat} (hy : y = nI κ) (hy2 : κ < 4) : ct g mX2_addToPresent ⟨0, 0, 0, 0⟩ [.ref b, .int y, .int z] σ I (qV σ (if n0 = 0 then I else kst I m ((n0 - 1) * 4 + κ) (I m ((n0 - 1) * 4 + κ) + z))) := by
  refine ct_of pn2 rfl (Nat.le_of_ble_eq_true rfl) ok_X2_addToPresent.1 trivial ?_
  show wp _ _ _ _ _ _ _ _ 0 [some (.ref b), some (.int y), some (.int z)] []
  refine w_aload_0 (pc := 0) dX2_addToPresent_0 ?_
  refine w_getI (pc := 1) kc2 3 hO.1 hO.2.1 rfl t92 dX2_addToPresent_1 ?_
  refine w_if_le (pc := 4) (tgt := 26) dX2_addToPresent_4 (by decide) (fun c4 => ?_) (fun c4 => ?_)
  · refine w_vret (pc := 26) rfl ⟨Nat.le_refl _, Nat.le_refl _⟩ dX2_addToPresent_26 ?_
    refine ⟨rfl, rfl, ?_⟩
    rw [if_pos]
    rw [hm] at c4
    exact Nat.le_zero.mp ((nI_leI (by omega) (by omega)).mp c4)
  · obtain ⟨k0, rfl⟩ := nx_pos c4 hm (by omega)
    refine w_aload_0 (pc := 7) dX2_addToPresent_7 ?_
    refine w_getR (pc := 8) (b := m) kc2 0 hO.1 hO.2.1 rfl hO.2.2.2.2.2.2.2.2.1 t85 dX2_addToPresent_8 ?_
    refine w_aload_0 (pc := 11) dX2_addToPresent_11 ?_
    refine w_getI (pc := 12) kc2 3 hO.1 hO.2.1 rfl t92 dX2_addToPresent_12 ?_
    refine w_iconst (pc := 15) (v := 1) dX2_addToPresent_15 (by decide) ?_
    refine w_isub (pc := 16) dX2_addToPresent_16 ?_
    refine w_iconst (pc := 17) (v := 4) dX2_addToPresent_17 (by decide) ?_
    refine w_imul (pc := 18) dX2_addToPresent_18 ?_
    refine w_iload_1 (pc := 19) dX2_addToPresent_19 ?_
    refine w_iadd (pc := 20) dX2_addToPresent_20 ?_
    refine w_dup2 (pc := 21) dX2_addToPresent_21 ?_
    refine w_iald (pc := 22) (j := k0 * 4 + κ) hO.2.2.1 hO.2.2.2.1 (nx_4 (nx_m1 hm) hy) (by omega) (by decide) dX2_addToPresent_22 ?_
    refine w_iload_2 (pc := 23) dX2_addToPresent_23 ?_
    refine w_iadd (pc := 24) dX2_addToPresent_24 ?_
    refine w_iast (pc := 25) (j := k0 * 4 + κ) hO.2.2.1 hO.2.2.2.1 (nx_4 (nx_m1 hm) hy) (by omega) (by decide) dX2_addToPresent_25 ?_
    refine w_vret (pc := 26) rfl ⟨Nat.le_refl _, Nat.le_refl _⟩ dX2_addToPresent_26 ?_
    exact ⟨rfl, rfl, rfl⟩
set_option maxHeartbeats 4000000 in
set_option maxRecDepth 100000 in
theorem c_Bins_growPresent {g : kG} {σ : kS} {I : kI} {b m w t : Nat} (hO : sBins g σ b m w t) {n0 : Nat} (hm : I b 3 = nI n0) (hm2 : n0 ≤ 8) {z : Int32} : ct g mX2_growPresent ⟨0, 0, 0, 0⟩ [.ref b, .int z] σ I (qV σ (if n0 = 0 then I else kst I w (n0 - 1) (I w (n0 - 1) + z))) := by
  refine ct_of pn2 rfl (Nat.le_of_ble_eq_true rfl) ok_X2_growPresent.1 trivial ?_
  show wp _ _ _ _ _ _ _ _ 0 [some (.ref b), some (.int z)] []
  refine w_aload_0 (pc := 0) dX2_growPresent_0 ?_
  refine w_getI (pc := 1) kc2 3 hO.1 hO.2.1 rfl t92 dX2_growPresent_1 ?_
  refine w_if_le (pc := 4) (tgt := 22) dX2_growPresent_4 (by decide) (fun c4 => ?_) (fun c4 => ?_)
  · refine w_vret (pc := 22) rfl ⟨Nat.le_refl _, Nat.le_refl _⟩ dX2_growPresent_22 ?_
    refine ⟨rfl, rfl, ?_⟩
    rw [if_pos]
    rw [hm] at c4
    exact Nat.le_zero.mp ((nI_leI (by omega) (by omega)).mp c4)
  · obtain ⟨k0, rfl⟩ := nx_pos c4 hm (by omega)
    refine w_aload_0 (pc := 7) dX2_growPresent_7 ?_
    refine w_getR (pc := 8) (b := w) kc2 1 hO.1 hO.2.1 rfl hO.2.2.2.2.2.2.2.2.2.1 t87 dX2_growPresent_8 ?_
    refine w_aload_0 (pc := 11) dX2_growPresent_11 ?_
    refine w_getI (pc := 12) kc2 3 hO.1 hO.2.1 rfl t92 dX2_growPresent_12 ?_
    refine w_iconst (pc := 15) (v := 1) dX2_growPresent_15 (by decide) ?_
    refine w_isub (pc := 16) dX2_growPresent_16 ?_
    refine w_dup2 (pc := 17) dX2_growPresent_17 ?_
    refine w_iald (pc := 18) (j := k0) hO.2.2.2.2.1 hO.2.2.2.2.2.1 (nx_m1 hm) (by omega) (by decide) dX2_growPresent_18 ?_
    refine w_iload_1 (pc := 19) dX2_growPresent_19 ?_
    refine w_iadd (pc := 20) dX2_growPresent_20 ?_
    refine w_iast (pc := 21) (j := k0) hO.2.2.2.2.1 hO.2.2.2.2.2.1 (nx_m1 hm) (by omega) (by decide) dX2_growPresent_21 ?_
    refine w_vret (pc := 22) rfl ⟨Nat.le_refl _, Nat.le_refl _⟩ dX2_growPresent_22 ?_
    exact ⟨rfl, rfl, rfl⟩
set_option maxHeartbeats 4000000 in
set_option maxRecDepth 100000 in
theorem c_Bins_countFilledTick {g : kG} {σ : kS} {I : kI} {b m w t : Nat} (hO : sBins g σ b m w t) {n0 : Nat} (hm : I b 3 = nI n0) (hm2 : n0 ≤ 8)  : ct g mX2_countFilledTick ⟨0, 0, 0, 0⟩ [.ref b] σ I (qV σ (if n0 = 0 then I else kst I t (n0 - 1) (I t (n0 - 1) + 1))) := by
  refine ct_of pn2 rfl (Nat.le_of_ble_eq_true rfl) ok_X2_countFilledTick.1 trivial ?_
  show wp _ _ _ _ _ _ _ _ 0 [some (.ref b)] []
  refine w_aload_0 (pc := 0) dX2_countFilledTick_0 ?_
  refine w_getI (pc := 1) kc2 3 hO.1 hO.2.1 rfl t92 dX2_countFilledTick_1 ?_
  refine w_if_le (pc := 4) (tgt := 22) dX2_countFilledTick_4 (by decide) (fun c4 => ?_) (fun c4 => ?_)
  · refine w_vret (pc := 22) rfl ⟨Nat.le_refl _, Nat.le_refl _⟩ dX2_countFilledTick_22 ?_
    refine ⟨rfl, rfl, ?_⟩
    rw [if_pos]
    rw [hm] at c4
    exact Nat.le_zero.mp ((nI_leI (by omega) (by omega)).mp c4)
  · obtain ⟨k0, rfl⟩ := nx_pos c4 hm (by omega)
    refine w_aload_0 (pc := 7) dX2_countFilledTick_7 ?_
    refine w_getR (pc := 8) (b := t) kc2 2 hO.1 hO.2.1 rfl hO.2.2.2.2.2.2.2.2.2.2.1 t90 dX2_countFilledTick_8 ?_
    refine w_aload_0 (pc := 11) dX2_countFilledTick_11 ?_
    refine w_getI (pc := 12) kc2 3 hO.1 hO.2.1 rfl t92 dX2_countFilledTick_12 ?_
    refine w_iconst (pc := 15) (v := 1) dX2_countFilledTick_15 (by decide) ?_
    refine w_isub (pc := 16) dX2_countFilledTick_16 ?_
    refine w_dup2 (pc := 17) dX2_countFilledTick_17 ?_
    refine w_iald (pc := 18) (j := k0) hO.2.2.2.2.2.2.1 hO.2.2.2.2.2.2.2.1 (nx_m1 hm) (by omega) (by decide) dX2_countFilledTick_18 ?_
    refine w_iconst (pc := 19) (v := 1) dX2_countFilledTick_19 (by decide) ?_
    refine w_iadd (pc := 20) dX2_countFilledTick_20 ?_
    refine w_iast (pc := 21) (j := k0) hO.2.2.2.2.2.2.1 hO.2.2.2.2.2.2.2.1 (nx_m1 hm) (by omega) (by decide) dX2_countFilledTick_21 ?_
    refine w_vret (pc := 22) rfl ⟨Nat.le_refl _, Nat.le_refl _⟩ dX2_countFilledTick_22 ?_
    exact ⟨rfl, rfl, rfl⟩
set_option maxHeartbeats 4000000 in
set_option maxRecDepth 100000 in
theorem c_Bins_massOf {g : kG} {σ : kS} {I : kI} {b m w t : Nat} (hO : sBins g σ b m w t) {x : Int32} {k0 : Nat} (hx : x = nI k0) (hx2 : k0 < 8) : ct g mX2_massOf ⟨0, 0, 0, 0⟩ [.ref b, .int x] σ I (qI (sm (I m) (k0 * 4) 4) σ I) := by
  refine ct_of pn2 rfl (Nat.le_of_ble_eq_true rfl) ok_X2_massOf.1 trivial ?_
  show wp _ _ _ _ _ _ _ _ 0 [some (.ref b), some (.int x), none, none] []
  refine w_iconst (pc := 0) (v := 0) dX2_massOf_0 (by decide) ?_
  refine w_istore_2 (pc := 1) dX2_massOf_1 rfl ?_
  refine w_iconst (pc := 2) (v := 0) dX2_massOf_2 (by decide) ?_
  refine w_istore_3 (pc := 3) dX2_massOf_3 rfl ?_
  refine w_iload_3 (pc := 4) dX2_massOf_4 ?_
  refine w_iconst (pc := 5) (v := 4) dX2_massOf_5 (by decide) ?_
  refine w_icmp_ge (pc := 6) (tgt := 28) dX2_massOf_6 (by decide) (fun c9 => absurd c9 (by decide)) (fun _ => ?_)
  refine w_iload_2 (pc := 9) dX2_massOf_9 ?_
  refine w_aload_0 (pc := 10) dX2_massOf_10 ?_
  refine w_getR (pc := 11) (b := m) kc2 0 hO.1 hO.2.1 rfl hO.2.2.2.2.2.2.2.2.1 t85 dX2_massOf_11 ?_
  refine w_iload_1 (pc := 14) dX2_massOf_14 ?_
  refine w_iconst (pc := 15) (v := 4) dX2_massOf_15 (by decide) ?_
  refine w_imul (pc := 16) dX2_massOf_16 ?_
  refine w_iload_3 (pc := 17) dX2_massOf_17 ?_
  refine w_iadd (pc := 18) dX2_massOf_18 ?_
  refine w_iald (pc := 19) (j := k0 * 4 + 0) hO.2.2.1 hO.2.2.2.1 (nx_4 hx rfl) (by omega) (by decide) dX2_massOf_19 ?_
  refine w_iadd (pc := 20) dX2_massOf_20 ?_
  refine w_istore_2 (pc := 21) dX2_massOf_21 rfl ?_
  refine w_iinc_3 (pc := 22) (v := 1) dX2_massOf_22 (by decide) rfl ?_
  refine w_goto (pc := 25) (tgt := 4) dX2_massOf_25 (by decide) ?_
  refine w_iload_3 (pc := 4) dX2_massOf_4 ?_
  refine w_iconst (pc := 5) (v := 4) dX2_massOf_5 (by decide) ?_
  refine w_icmp_ge (pc := 6) (tgt := 28) dX2_massOf_6 (by decide) (fun c9 => absurd c9 (by decide)) (fun _ => ?_)
  refine w_iload_2 (pc := 9) dX2_massOf_9 ?_
  refine w_aload_0 (pc := 10) dX2_massOf_10 ?_
  refine w_getR (pc := 11) (b := m) kc2 0 hO.1 hO.2.1 rfl hO.2.2.2.2.2.2.2.2.1 t85 dX2_massOf_11 ?_
  refine w_iload_1 (pc := 14) dX2_massOf_14 ?_
  refine w_iconst (pc := 15) (v := 4) dX2_massOf_15 (by decide) ?_
  refine w_imul (pc := 16) dX2_massOf_16 ?_
  refine w_iload_3 (pc := 17) dX2_massOf_17 ?_
  refine w_iadd (pc := 18) dX2_massOf_18 ?_
  refine w_iald (pc := 19) (j := k0 * 4 + 1) hO.2.2.1 hO.2.2.2.1 (nx_4 hx rfl) (by omega) (by decide) dX2_massOf_19 ?_
  refine w_iadd (pc := 20) dX2_massOf_20 ?_
  refine w_istore_2 (pc := 21) dX2_massOf_21 rfl ?_
  refine w_iinc_3 (pc := 22) (v := 2) dX2_massOf_22 (by decide) rfl ?_
  refine w_goto (pc := 25) (tgt := 4) dX2_massOf_25 (by decide) ?_
  refine w_iload_3 (pc := 4) dX2_massOf_4 ?_
  refine w_iconst (pc := 5) (v := 4) dX2_massOf_5 (by decide) ?_
  refine w_icmp_ge (pc := 6) (tgt := 28) dX2_massOf_6 (by decide) (fun c9 => absurd c9 (by decide)) (fun _ => ?_)
  refine w_iload_2 (pc := 9) dX2_massOf_9 ?_
  refine w_aload_0 (pc := 10) dX2_massOf_10 ?_
  refine w_getR (pc := 11) (b := m) kc2 0 hO.1 hO.2.1 rfl hO.2.2.2.2.2.2.2.2.1 t85 dX2_massOf_11 ?_
  refine w_iload_1 (pc := 14) dX2_massOf_14 ?_
  refine w_iconst (pc := 15) (v := 4) dX2_massOf_15 (by decide) ?_
  refine w_imul (pc := 16) dX2_massOf_16 ?_
  refine w_iload_3 (pc := 17) dX2_massOf_17 ?_
  refine w_iadd (pc := 18) dX2_massOf_18 ?_
  refine w_iald (pc := 19) (j := k0 * 4 + 2) hO.2.2.1 hO.2.2.2.1 (nx_4 hx rfl) (by omega) (by decide) dX2_massOf_19 ?_
  refine w_iadd (pc := 20) dX2_massOf_20 ?_
  refine w_istore_2 (pc := 21) dX2_massOf_21 rfl ?_
  refine w_iinc_3 (pc := 22) (v := 3) dX2_massOf_22 (by decide) rfl ?_
  refine w_goto (pc := 25) (tgt := 4) dX2_massOf_25 (by decide) ?_
  refine w_iload_3 (pc := 4) dX2_massOf_4 ?_
  refine w_iconst (pc := 5) (v := 4) dX2_massOf_5 (by decide) ?_
  refine w_icmp_ge (pc := 6) (tgt := 28) dX2_massOf_6 (by decide) (fun c9 => absurd c9 (by decide)) (fun _ => ?_)
  refine w_iload_2 (pc := 9) dX2_massOf_9 ?_
  refine w_aload_0 (pc := 10) dX2_massOf_10 ?_
  refine w_getR (pc := 11) (b := m) kc2 0 hO.1 hO.2.1 rfl hO.2.2.2.2.2.2.2.2.1 t85 dX2_massOf_11 ?_
  refine w_iload_1 (pc := 14) dX2_massOf_14 ?_
  refine w_iconst (pc := 15) (v := 4) dX2_massOf_15 (by decide) ?_
  refine w_imul (pc := 16) dX2_massOf_16 ?_
  refine w_iload_3 (pc := 17) dX2_massOf_17 ?_
  refine w_iadd (pc := 18) dX2_massOf_18 ?_
  refine w_iald (pc := 19) (j := k0 * 4 + 3) hO.2.2.1 hO.2.2.2.1 (nx_4 hx rfl) (by omega) (by decide) dX2_massOf_19 ?_
  refine w_iadd (pc := 20) dX2_massOf_20 ?_
  refine w_istore_2 (pc := 21) dX2_massOf_21 rfl ?_
  refine w_iinc_3 (pc := 22) (v := 4) dX2_massOf_22 (by decide) rfl ?_
  refine w_goto (pc := 25) (tgt := 4) dX2_massOf_25 (by decide) ?_
  refine w_iload_3 (pc := 4) dX2_massOf_4 ?_
  refine w_iconst (pc := 5) (v := 4) dX2_massOf_5 (by decide) ?_
  refine w_icmp_ge (pc := 6) (tgt := 28) dX2_massOf_6 (by decide) (fun _ => ?_) (fun c9 => absurd (by decide) c9)
  refine w_iload_2 (pc := 28) dX2_massOf_28 ?_
  refine w_iret (pc := 29) rfl ⟨Nat.le_refl _, Nat.le_refl _⟩ dX2_massOf_29 ?_
  refine ⟨?_, rfl, rfl⟩
  simp only [sm, Nat.add_zero]


