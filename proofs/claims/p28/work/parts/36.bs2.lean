theorem n12 {x : Int32} (h : ¬ 12 ≤ x) : x ≤ 11 := by
  rw [ti_le, show (12 : Int32).toInt = 12 by decide] at h
  rw [ti_le, show (11 : Int32).toInt = 11 by decide]; omega
theorem n23 {x : Int32} (h : ¬ 23 ≤ x) : x ≤ 22 := by
  rw [ti_le, show (23 : Int32).toInt = 23 by decide] at h
  rw [ti_le, show (22 : Int32).toInt = 22 by decide]; omega
theorem qCount_st {s : kV} {np nt w : Int32} (h : 20 ≤ w ∧ w ≤ 22) : qCount s np nt w = s (18 + (tn w - 20)) + (if w = 22 then 10 else 0) := by
  have n : ∀ k : Int32, k < 20 → ¬ w = k := fun k hk e => absurd (e ▸ h.1) (Int32.not_le.mpr hk)
  rw [qCount, if_neg (n 0 (by decide)), if_neg (n 1 (by decide)), if_neg (n 2 (by decide)), if_neg (n 3 (by decide)), if_neg (n 4 (by decide)), if_neg (n 5 (by decide)), if_neg (n 6 (by decide)), if_neg (n 7 (by decide)), if_neg (n 8 (by decide)), if_neg (n 9 (by decide)), if_neg (n 10 (by decide)), if_neg (n 11 (by decide)), if_neg (n 12 (by decide)), if_neg (n 13 (by decide)), if_neg (n 14 (by decide)), if_neg (n 15 (by decide)), if_pos h]
theorem qCount_bk {s : kV} {np nt w : Int32} (h : 30 ≤ w ∧ w ≤ 33) : qCount s np nt w = s (145 + (tn w - 30)) := by
  have n : ∀ k : Int32, k < 30 → ¬ w = k := fun k hk e => absurd (e ▸ h.1) (Int32.not_le.mpr hk)
  rw [qCount, if_neg (n 0 (by decide)), if_neg (n 1 (by decide)), if_neg (n 2 (by decide)), if_neg (n 3 (by decide)), if_neg (n 4 (by decide)), if_neg (n 5 (by decide)), if_neg (n 6 (by decide)), if_neg (n 7 (by decide)), if_neg (n 8 (by decide)), if_neg (n 9 (by decide)), if_neg (n 10 (by decide)), if_neg (n 11 (by decide)), if_neg (n 12 (by decide)), if_neg (n 13 (by decide)), if_neg (n 14 (by decide)), if_neg (n 15 (by decide)), if_neg (fun q => absurd (Int32.le_trans h.1 q.2) (by decide)), if_pos h]
set_option maxHeartbeats 4000000 in
set_option maxRecDepth 100000 in
theorem c_BS_error {g : kG} {σ : kS} {I : kI} {r : Nat} {x : Nat → Nat} (hW : sW g σ r x) {c : kCS} {n0 : Nat} {f : kV} (hC : CR I r x c n0 f)  : ct g mX10_error ⟨1, 0, 0, 20⟩ [.ref r] σ I (qI (qError c.1) σ I) := by
  refine ct_of pn10 rfl (Nat.le_of_ble_eq_true rfl) ok_X10_error.1 trivial ?_
  show wp _ _ _ _ _ _ _ _ 0 [some (.ref r)] []
  have hCC := hC
  obtain ⟨⟨rh, rb, rn, rs, ra, rt, rp⟩, hK, hH, hT⟩ := hC
  have hS := hK.1
  refine w_aload_0 (pc := 0) dX10_error_0 ?_
  refine w_getR (pc := 1) (b := (r + 1)) kc10 0 (sBS_in hW.1) hW.1.2.1 rfl hW.1.2.2.1 t299 dX10_error_1 ?_
  refine w_getR (pc := 4) (b := (r + 1) + 10) kc6 3 (sP_in0 hW.2.1) (sP_s0 hW.2.1) rfl (sP_r0_3 hW.2.1) t174 dX10_error_4 ?_
  refine w_callV_I (pc := 7) (c_Scale_toldTotal (sP_Scale hW.2.1)) ok_X8_toldTotal t658 t659 kc8 (sP_in hW.2.1 (k := 10) (by decide)) (sP_s10 hW.2.1) t657 ⟨Nat.le_of_ble_eq_true rfl, Nat.le_of_ble_eq_true rfl⟩ ⟨rfl, rfl⟩ ⟨Nat.le_refl _, Nat.le_refl _⟩ rfl (Nat.le_of_ble_eq_true rfl) dX10_error_7 ?_
  refine w_aload_0 (pc := 10) dX10_error_10 ?_
  refine w_getR (pc := 11) (b := (r + 1)) kc10 0 (sBS_in hW.1) hW.1.2.1 rfl hW.1.2.2.1 t299 dX10_error_11 ?_
  refine w_getI (pc := 14) kc6 14 (sP_in0 hW.2.1) (sP_s0 hW.2.1) rfl t195 dX10_error_14 ?_
  refine w_isub (pc := 17) dX10_error_17 ?_
  refine w_ldc (pc := 18) (v := 1000000000) t626 dX10_error_18 ?_
  refine w_iadd (pc := 20) dX10_error_20 ?_
  refine w_iret (pc := 21) rfl ⟨Nat.le_refl _, Nat.le_refl _⟩ dX10_error_21 ?_
  refine ⟨?_, rfl, rfl⟩
  rw [rs.2.2.1, rs.2.2.2.2, rp.2.2.2.2.2.2.2.2.2]; rfl
set_option maxHeartbeats 4000000 in
set_option maxRecDepth 100000 in
theorem c_BS_accountOf {g : kG} {σ : kS} {I : kI} {r : Nat} {x : Nat → Nat} (hW : sW g σ r x) {c : kCS} {n0 : Nat} {f : kV} (hC : CR I r x c n0 f) {x1 x2 : Int32} : ct g mX10_accountOf ⟨2, 0, 0, 47⟩ [.ref r, .int x1, .int x2] σ I (qI (qAccountOf c.1 x1 x2) σ I) := by
  refine ct_of pn10 rfl (Nat.le_of_ble_eq_true rfl) ok_X10_accountOf.1 trivial ?_
  show wp _ _ _ _ _ _ _ _ 0 [some (.ref r), some (.int x1), some (.int x2), none] []
  have hCC := hC
  obtain ⟨⟨rh, rb, rn, rs, ra, rt, rp⟩, hK, hH, hT⟩ := hC
  have hS := hK.1
  obtain ⟨A1, A2, A3, hT8, -⟩ := SX_A hS
  have hA3 : I (r + 1 + 11) 3 = nI (nAc c.1) := ra.1.trans A3
  have hTr : kTree (I (r + 1 + 12)) (nAc c.1) := fun a h1 h2 => by obtain ⟨v, hv, hw⟩ := hT8 a h1 h2; exact ⟨v, hv, (ra.2.1 a h1 h2).trans hw⟩
  have hww : ∀ a, 1 ≤ a → a < nAc c.1 → I (r + 1 + 12) a = fW c.1 a := ra.2.1
  have hoo : ∀ a, a < nAc c.1 → I (r + 1 + 13) a = fO c.1 a := fun a ha => by rw [ra.2.2.1 a (by omega), if_pos ha]; rfl
  refine w_aload_0 (pc := 0) dX10_accountOf_0 ?_
  refine w_getR (pc := 1) (b := (r + 1)) kc10 0 (sBS_in hW.1) hW.1.2.1 rfl hW.1.2.2.1 t299 dX10_accountOf_1 ?_
  refine w_getR (pc := 4) (b := (r + 1) + 11) kc6 4 (sP_in0 hW.2.1) (sP_s0 hW.2.1) rfl (sP_r0_4 hW.2.1) t176 dX10_accountOf_4 ?_
  refine w_astore_3 (pc := 7) dX10_accountOf_7 rfl ?_
  refine w_aload_3 (pc := 8) dX10_accountOf_8 ?_
  refine w_iload_1 (pc := 9) dX10_accountOf_9 ?_
  refine w_callV_I (pc := 10) (c_Acc_has (sP_Acc hW.2.1)) ok_X0_has t588 t589 kc0 (sP_in hW.2.1 (k := 11) (by decide)) (sP_s11 hW.2.1) t633 ⟨Nat.le_of_ble_eq_true rfl, Nat.le_of_ble_eq_true rfl⟩ ⟨rfl, rfl⟩ ⟨Nat.le_refl _, Nat.le_refl _⟩ rfl (Nat.le_of_ble_eq_true rfl) dX10_accountOf_10 ?_
  refine w_if_ne (pc := 13) (tgt := 19) dX10_accountOf_13 (by decide) (fun c13 => ?_) (fun c13 => ?_)
  · have h14 : 0 ≤ x1 ∧ x1 < c.1 14 := by rw [← ra.1]; exact b1 c13
    obtain ⟨u, hu, hx⟩ := nx_rl (by omega) A3 h14
    have tu : tn x1 = u := tn_of hx (by omega)
    have hq : ∀ w : Int32, 0 ≤ w ∧ w ≤ 4 → ¬ ¬ ((0 ≤ x1 ∧ x1 < c.1 14) ∧ (0 ≤ w ∧ w ≤ 4)) := fun w hw h => h ⟨h14, hw⟩
    refine w_iload_2 (pc := 19) dX10_accountOf_19 ?_
    refine w_name (fun y20 e20 => ?_)
    by_cases s20_0 : y20 = 0
    · subst s20_0
      refine w_tableIn (pc := 20) (tgt := 56) (off := 36) dX10_accountOf_20 (by decide) (by decide) (by decide) (by decide) ?_
      refine w_iload_1 (pc := 56) dX10_accountOf_56 ?_
      refine w_if_ne (pc := 57) (tgt := 65) dX10_accountOf_57 (by decide) (fun c57 => ?_) (fun c57 => ?_)
      · refine w_aload_3 (pc := 65) dX10_accountOf_65 ?_
        refine w_getR (pc := 66) (b := (r + 1) + 12) kc0 0 (sP_in hW.2.1 (k := 11) (by decide)) (sP_s11 hW.2.1) rfl (sP_r11_0 hW.2.1) t140 dX10_accountOf_66 ?_
        refine w_iload_1 (pc := 69) dX10_accountOf_69 ?_
        refine w_iald (pc := 70) (j := u) (sP_in hW.2.1 (k := 12) (by decide)) (sP_s12 hW.2.1) hx (by omega) (by decide) dX10_accountOf_70 ?_
        refine w_iret (pc := 71) rfl ⟨Nat.le_refl _, Nat.le_refl _⟩ dX10_accountOf_71 ?_
        have hu1 : 1 ≤ u := by
          rcases Nat.eq_zero_or_pos u with h | h
          · exact absurd (by rw [hx, h]; rfl) c57
          · exact h
        refine ⟨?_, rfl, rfl⟩
        rw [← e20, qAccountOf, if_neg (hq 0 (by decide)), if_pos (by decide), tu, hww u hu1 hu]; rfl
      · refine w_ldc (pc := 60) (v := -1000004) t332 dX10_accountOf_60 ?_
        refine w_goto (pc := 62) (tgt := 71) dX10_accountOf_62 (by decide) ?_
        refine w_iret (pc := 71) rfl ⟨Nat.le_refl _, Nat.le_refl _⟩ dX10_accountOf_71 ?_
        refine ⟨?_, rfl, rfl⟩
        rw [← e20, qAccountOf, if_neg (hq 0 (by decide)), if_pos (by decide), c57]
        exact congrArg (fun z => some (Value.int z)) hK.2.2.2.2.2.2.2.2.2.symm
    by_cases s20_1 : y20 = 1
    · subst s20_1
      refine w_tableIn (pc := 20) (tgt := 72) (off := 52) dX10_accountOf_20 (by decide) (by decide) (by decide) (by decide) ?_
      refine w_aload_3 (pc := 72) dX10_accountOf_72 ?_
      refine w_getR (pc := 73) (b := (r + 1) + 13) kc0 1 (sP_in hW.2.1 (k := 11) (by decide)) (sP_s11 hW.2.1) rfl (sP_r11_1 hW.2.1) t142 dX10_accountOf_73 ?_
      refine w_iload_1 (pc := 76) dX10_accountOf_76 ?_
      refine w_iald (pc := 77) (j := u) (sP_in hW.2.1 (k := 13) (by decide)) (sP_s13 hW.2.1) hx (by omega) (by decide) dX10_accountOf_77 ?_
      refine w_iret (pc := 78) rfl ⟨Nat.le_refl _, Nat.le_refl _⟩ dX10_accountOf_78 ?_
      refine ⟨?_, rfl, rfl⟩
      rw [← e20, qAccountOf, if_neg (hq 1 (by decide)), if_pos (by decide), tu, hoo u hu, show 129 + 2 * u + tn 1 = 130 + 2 * u from by show 129 + 2 * u + 1 = _; omega]; rfl
    by_cases s20_2 : y20 = 2
    · subst s20_2
      refine w_tableIn (pc := 20) (tgt := 79) (off := 59) dX10_accountOf_20 (by decide) (by decide) (by decide) (by decide) ?_
      refine w_aload_3 (pc := 79) dX10_accountOf_79 ?_
      refine w_iload_1 (pc := 80) dX10_accountOf_80 ?_
      refine w_callV_I (pc := 81) (c_Acc_massWithAllUnder (sP_Acc hW.2.1) hA3 A2 hTr hx hu) ok_X0_massWithAllUnder t635 t636 kc0 (sP_in hW.2.1 (k := 11) (by decide)) (sP_s11 hW.2.1) t634 ⟨Nat.le_of_ble_eq_true rfl, Nat.le_of_ble_eq_true rfl⟩ ⟨rfl, rfl⟩ ⟨Nat.le_refl _, Nat.le_refl _⟩ rfl (Nat.le_of_ble_eq_true rfl) dX10_accountOf_81 ?_
      refine w_iret (pc := 84) rfl ⟨Nat.le_refl _, Nat.le_refl _⟩ dX10_accountOf_84 ?_
      refine ⟨?_, rfl, rfl⟩
      rw [← e20, qAccountOf, if_neg (hq 2 (by decide)), if_neg (by decide), if_pos rfl, tu, aS_cong A2 hTr hww hoo _ (by omega)]
    by_cases s20_3 : y20 = 3
    · subst s20_3
      refine w_tableIn (pc := 20) (tgt := 85) (off := 65) dX10_accountOf_20 (by decide) (by decide) (by decide) (by decide) ?_
      refine w_aload_3 (pc := 85) dX10_accountOf_85 ?_
      refine w_iload_1 (pc := 86) dX10_accountOf_86 ?_
      refine w_callV_I (pc := 87) (c_Acc_countUnder (sP_Acc hW.2.1) hA3 A2 hTr hx hu) ok_X0_countUnder t643 t644 kc0 (sP_in hW.2.1 (k := 11) (by decide)) (sP_s11 hW.2.1) t642 ⟨Nat.le_of_ble_eq_true rfl, Nat.le_of_ble_eq_true rfl⟩ ⟨rfl, rfl⟩ ⟨Nat.le_refl _, Nat.le_refl _⟩ rfl (Nat.le_of_ble_eq_true rfl) dX10_accountOf_87 ?_
      refine w_iret (pc := 90) rfl ⟨Nat.le_refl _, Nat.le_refl _⟩ dX10_accountOf_90 ?_
      refine ⟨?_, rfl, rfl⟩
      rw [← e20, qAccountOf, if_neg (hq 3 (by decide)), if_neg (by decide), if_neg (by decide), if_pos rfl, tu, aS_cong A2 hTr hww (fun _ _ => rfl) _ (by omega)]
    by_cases s20_4 : y20 = 4
    · subst s20_4
      refine w_tableIn (pc := 20) (tgt := 91) (off := 71) dX10_accountOf_20 (by decide) (by decide) (by decide) (by decide) ?_
      refine w_aload_3 (pc := 91) dX10_accountOf_91 ?_
      refine w_iload_1 (pc := 92) dX10_accountOf_92 ?_
      refine w_callV_I (pc := 93) (c_Acc_depth (sP_Acc hW.2.1) hA3 A2 hTr hx hu) ok_X0_depth t647 t648 kc0 (sP_in hW.2.1 (k := 11) (by decide)) (sP_s11 hW.2.1) t646 ⟨Nat.le_of_ble_eq_true rfl, Nat.le_of_ble_eq_true rfl⟩ ⟨rfl, rfl⟩ ⟨Nat.le_refl _, Nat.le_refl _⟩ rfl (Nat.le_of_ble_eq_true rfl) dX10_accountOf_93 ?_
      refine w_iret (pc := 96) rfl ⟨Nat.le_refl _, Nat.le_refl _⟩ dX10_accountOf_96 ?_
      refine ⟨?_, rfl, rfl⟩
      rw [← e20, qAccountOf, if_neg (hq 4 (by decide)), if_neg (by decide), if_neg (by decide), if_neg (by decide), tu, kDp_cong A2 hTr hww 8 u hu]
    have q20_0 := lv_neT (a := 0) s20_0 (by decide)
    have q20_1 := lv_neT (a := 1) s20_1 (by decide)
    have q20_2 := lv_neT (a := 2) s20_2 (by decide)
    have q20_3 := lv_neT (a := 3) s20_3 (by decide)
    have q20_4 := lv_neT (a := 4) s20_4 (by decide)
    refine w_tableOut (pc := 20) (tgt := 97) dX10_accountOf_20 (by omega) (by decide) ?_
    refine w_ldc (pc := 97) (v := -1000001) t319 dX10_accountOf_97 ?_
    refine w_iret (pc := 99) rfl ⟨Nat.le_refl _, Nat.le_refl _⟩ dX10_accountOf_99 ?_
    refine ⟨?_, rfl, rfl⟩
    rw [← e20, qAccountOf, if_pos]
    rintro ⟨-, z1, z2⟩
    obtain ⟨j, hj, hy⟩ := nx_rg (m := 4) (by omega) ⟨z1, z2⟩
    rcases (show j = 0 ∨ j = 1 ∨ j = 2 ∨ j = 3 ∨ j = 4 by omega) with rfl | rfl | rfl | rfl | rfl
    · exact s20_0 hy
    · exact s20_1 hy
    · exact s20_2 hy
    · exact s20_3 hy
    · exact s20_4 hy
  · refine w_ldc (pc := 16) (v := -1000001) t319 dX10_accountOf_16 ?_
    refine w_iret (pc := 18) rfl ⟨Nat.le_refl _, Nat.le_refl _⟩ dX10_accountOf_18 ?_
    refine ⟨?_, rfl, rfl⟩
    rw [qAccountOf, if_pos (fun h => b0 c13 (by rw [ra.1]; exact h.1))]
set_option maxHeartbeats 4000000 in
set_option maxRecDepth 100000 in
theorem c_BS_massAt {g : kG} {σ : kS} {I : kI} {r : Nat} {x : Nat → Nat} (hW : sW g σ r x) {c : kCS} {n0 : Nat} {f : kV} (hC : CR I r x c n0 f) {x1 x2 : Int32} : ct g mX10_massAt ⟨1, 0, 0, 24⟩ [.ref r, .int x1, .int x2] σ I (qI (qMassAt c.1 x1 x2) σ I) := by
  refine ct_of pn10 rfl (Nat.le_of_ble_eq_true rfl) ok_X10_massAt.1 trivial ?_
  show wp _ _ _ _ _ _ _ _ 0 [some (.ref r), some (.int x1), some (.int x2)] []
  have hCC := hC
  obtain ⟨⟨rh, rb, rn, rs, ra, rt, rp⟩, hK, hH, hT⟩ := hC
  have hS := hK.1
  obtain ⟨z, z1, z2, z3, z4⟩ := rb
  refine w_iload_1 (pc := 0) dX10_massAt_0 ?_
  refine w_if_lt (pc := 1) (tgt := 20) dX10_massAt_1 (by decide) (fun c1 => ?_) (fun c1 => ?_)
  · refine w_ldc (pc := 20) (v := -1000001) t319 dX10_massAt_20 ?_
    refine w_iret (pc := 22) rfl ⟨Nat.le_refl _, Nat.le_refl _⟩ dX10_massAt_22 ?_
    refine ⟨?_, rfl, rfl⟩
    rw [qMassAt, if_pos (fun h => absurd h.1.1 (Int32.not_le.mpr c1))]
  · refine w_iload_1 (pc := 4) dX10_massAt_4 ?_
    refine w_bipush (pc := 5) (v := 12) dX10_massAt_5 (by decide) ?_
    refine w_icmp_ge (pc := 7) (tgt := 20) dX10_massAt_7 (by decide) (fun c7 => ?_) (fun c7 => ?_)
    · refine w_ldc (pc := 20) (v := -1000001) t319 dX10_massAt_20 ?_
      refine w_iret (pc := 22) rfl ⟨Nat.le_refl _, Nat.le_refl _⟩ dX10_massAt_22 ?_
      refine ⟨?_, rfl, rfl⟩
      rw [qMassAt, if_pos (fun h => absurd (Int32.le_trans c7 h.1.2) (by decide))]
    · refine w_iload_2 (pc := 10) dX10_massAt_10 ?_
      refine w_iconst (pc := 11) (v := -1) dX10_massAt_11 (by decide) ?_
      refine w_icmp_lt (pc := 12) (tgt := 20) dX10_massAt_12 (by decide) (fun c12 => ?_) (fun c12 => ?_)
      · refine w_ldc (pc := 20) (v := -1000001) t319 dX10_massAt_20 ?_
        refine w_iret (pc := 22) rfl ⟨Nat.le_refl _, Nat.le_refl _⟩ dX10_massAt_22 ?_
        refine ⟨?_, rfl, rfl⟩
        rw [qMassAt, if_pos (fun h => absurd h.2.1 (Int32.not_le.mpr c12))]
      · refine w_iload_2 (pc := 15) dX10_massAt_15 ?_
        refine w_iconst (pc := 16) (v := 4) dX10_massAt_16 (by decide) ?_
        refine w_icmp_lt (pc := 17) (tgt := 23) dX10_massAt_17 (by decide) (fun c17 => ?_) (fun c17 => ?_)
        · obtain ⟨u, hu, hx⟩ := nx_rg (m := 11) (by omega) ⟨Int32.not_lt.mp c1, n12 c7⟩
          have tu : tn x1 = u := tn_of hx (by omega)
          have h3 : x2 ≤ 3 := (show x2 ≤ 3 from by rw [ti_lt, show (4 : Int32).toInt = 4 by decide] at c17; rw [ti_le, show (3 : Int32).toInt = 3 by decide]; omega)
          have hq : ¬ ¬ ((0 ≤ x1 ∧ x1 ≤ 11) ∧ (-1 ≤ x2 ∧ x2 ≤ 3)) := fun h => h ⟨⟨Int32.not_lt.mp c1, n12 c7⟩, Int32.not_lt.mp c12, h3⟩
          refine w_iload_2 (pc := 23) dX10_massAt_23 ?_
          refine w_if_ge (pc := 24) (tgt := 41) dX10_massAt_24 (by decide) (fun c24 => ?_) (fun c24 => ?_)
          · obtain ⟨w, hw, hy⟩ := nx_rg (m := 3) (by omega) ⟨c24, h3⟩
            have tw : tn x2 = w := tn_of hy (by omega)
            refine w_aload_0 (pc := 41) dX10_massAt_41 ?_
            refine w_getR (pc := 42) (b := (r + 1)) kc10 0 (sBS_in hW.1) hW.1.2.1 rfl hW.1.2.2.1 t299 dX10_massAt_42 ?_
            refine w_getR (pc := 45) (b := (r + 1) + 4) kc6 1 (sP_in0 hW.2.1) (sP_s0 hW.2.1) rfl (sP_r0_1 hW.2.1) t170 dX10_massAt_45 ?_
            refine w_iload_1 (pc := 48) dX10_massAt_48 ?_
            refine w_iload_2 (pc := 49) dX10_massAt_49 ?_
            refine w_callV_I (pc := 50) (c_Belt_mass (sP_Belt hW.2.1) z2 z1 hx (by omega) hy (by omega)) ok_X1_mass t325 t326 kc1 (sP_in hW.2.1 (k := 4) (by decide)) (sP_s4 hW.2.1) t324 ⟨Nat.le_of_ble_eq_true rfl, Nat.le_of_ble_eq_true rfl⟩ ⟨rfl, rfl⟩ ⟨Nat.le_refl _, Nat.le_refl _⟩ rfl (Nat.le_of_ble_eq_true rfl) dX10_massAt_50 ?_
            refine w_iret (pc := 53) rfl ⟨Nat.le_refl _, Nat.le_refl _⟩ dX10_massAt_53 ?_
            refine ⟨?_, rfl, rfl⟩
            rw [qMassAt, if_neg hq, if_neg (Int32.not_lt.mpr c24), tu, tw, z3 u w (by omega) (by omega)]
          · refine w_aload_0 (pc := 27) dX10_massAt_27 ?_
            refine w_getR (pc := 28) (b := (r + 1)) kc10 0 (sBS_in hW.1) hW.1.2.1 rfl hW.1.2.2.1 t299 dX10_massAt_28 ?_
            refine w_getR (pc := 31) (b := (r + 1) + 4) kc6 1 (sP_in0 hW.2.1) (sP_s0 hW.2.1) rfl (sP_r0_1 hW.2.1) t170 dX10_massAt_31 ?_
            refine w_iload_1 (pc := 34) dX10_massAt_34 ?_
            refine w_callV_I (pc := 35) (c_Belt_massOfPlace (sP_Belt hW.2.1) z2 z1 hx (by omega)) ok_X1_massOfPlace t321 t322 kc1 (sP_in hW.2.1 (k := 4) (by decide)) (sP_s4 hW.2.1) t320 ⟨Nat.le_of_ble_eq_true rfl, Nat.le_of_ble_eq_true rfl⟩ ⟨rfl, rfl⟩ ⟨Nat.le_refl _, Nat.le_refl _⟩ rfl (Nat.le_of_ble_eq_true rfl) dX10_massAt_35 ?_
            refine w_goto (pc := 38) (tgt := 53) dX10_massAt_38 (by decide) ?_
            refine w_iret (pc := 53) rfl ⟨Nat.le_refl _, Nat.le_refl _⟩ dX10_massAt_53 ?_
            refine ⟨?_, rfl, rfl⟩
            rw [qMassAt, if_neg hq, if_pos (Int32.not_le.mp c24), tu, place_eq z3 (by omega)]
        · refine w_ldc (pc := 20) (v := -1000001) t319 dX10_massAt_20 ?_
          refine w_iret (pc := 22) rfl ⟨Nat.le_refl _, Nat.le_refl _⟩ dX10_massAt_22 ?_
          refine ⟨?_, rfl, rfl⟩
          rw [qMassAt, if_pos (fun h => c17 (Int32.lt_of_le_of_lt h.2.2 (by decide)))]
set_option maxHeartbeats 4000000 in
set_option maxRecDepth 100000 in
theorem c_BS_lotOf {g : kG} {σ : kS} {I : kI} {r : Nat} {x : Nat → Nat} (hW : sW g σ r x) {c : kCS} {n0 : Nat} {f : kV} (hC : CR I r x c n0 f) {x1 x2 : Int32} : ct g mX10_lotOf ⟨0, 0, 0, 0⟩ [.ref r, .int x1, .int x2] σ I (qI (qLotOf c.1 x1 x2) σ I) := by
  refine ct_of pn10 rfl (Nat.le_of_ble_eq_true rfl) ok_X10_lotOf.1 trivial ?_
  show wp _ _ _ _ _ _ _ _ 0 [some (.ref r), some (.int x1), some (.int x2)] []
  have hCC := hC
  obtain ⟨⟨rh, rb, rn, rs, ra, rt, rp⟩, hK, hH, hT⟩ := hC
  have hS := hK.1
  obtain ⟨L1, L2, -⟩ := SX_L hS
  refine w_iload_1 (pc := 0) dX10_lotOf_0 ?_
  refine w_if_lt (pc := 1) (tgt := 13) dX10_lotOf_1 (by decide) (fun c1 => ?_) (fun c1 => ?_)
  · refine w_ldc (pc := 13) (v := -1000001) t319 dX10_lotOf_13 ?_
    refine w_iret (pc := 15) rfl ⟨Nat.le_refl _, Nat.le_refl _⟩ dX10_lotOf_15 ?_
    refine ⟨?_, rfl, rfl⟩
    rw [qLotOf, if_pos (Or.inl c1)]
  · refine w_iload_2 (pc := 4) dX10_lotOf_4 ?_
    refine w_if_lt (pc := 5) (tgt := 13) dX10_lotOf_5 (by decide) (fun c5 => ?_) (fun c5 => ?_)
    · refine w_ldc (pc := 13) (v := -1000001) t319 dX10_lotOf_13 ?_
      refine w_iret (pc := 15) rfl ⟨Nat.le_refl _, Nat.le_refl _⟩ dX10_lotOf_15 ?_
      refine ⟨?_, rfl, rfl⟩
      rw [qLotOf, if_pos (Or.inr (fun h => absurd h.1 (Int32.not_le.mpr c5)))]
    · refine w_iload_2 (pc := 8) dX10_lotOf_8 ?_
      refine w_iconst (pc := 9) (v := 1) dX10_lotOf_9 (by decide) ?_
      refine w_icmp_le (pc := 10) (tgt := 16) dX10_lotOf_10 (by decide) (fun c10 => ?_) (fun c10 => ?_)
      · refine w_iload_1 (pc := 16) dX10_lotOf_16 ?_
        refine w_aload_0 (pc := 17) dX10_lotOf_17 ?_
        refine w_getR (pc := 18) (b := (r + 1)) kc10 0 (sBS_in hW.1) hW.1.2.1 rfl hW.1.2.2.1 t299 dX10_lotOf_18 ?_
        refine w_getR (pc := 21) (b := (r + 1) + 1) kc6 0 (sP_in0 hW.2.1) (sP_s0 hW.2.1) rfl (sP_r0_0 hW.2.1) t168 dX10_lotOf_21 ?_
        refine w_getI (pc := 24) kc5 2 (sP_in hW.2.1 (k := 1) (by decide)) (sP_s1 hW.2.1) rfl t48 dX10_lotOf_24 ?_
        refine w_icmp_lt (pc := 27) (tgt := 33) dX10_lotOf_27 (by decide) (fun c27 => ?_) (fun c27 => ?_)
        · obtain ⟨u, hu, hx⟩ := nx_rl (by omega) L2 ⟨Int32.not_lt.mp c1, by rw [← rh.1]; exact c27⟩
          have tu : tn x1 = u := tn_of hx (by omega)
          have h13 : ¬ c.1 13 ≤ x1 := Int32.not_le.mpr (by rw [← rh.1]; exact c27)
          refine w_iload_2 (pc := 33) dX10_lotOf_33 ?_
          refine w_if_ne (pc := 34) (tgt := 52) dX10_lotOf_34 (by decide) (fun c34 => ?_) (fun c34 => ?_)
          · refine w_aload_0 (pc := 52) dX10_lotOf_52 ?_
            refine w_getR (pc := 53) (b := (r + 1)) kc10 0 (sBS_in hW.1) hW.1.2.1 rfl hW.1.2.2.1 t299 dX10_lotOf_53 ?_
            refine w_getR (pc := 56) (b := (r + 1) + 1) kc6 0 (sP_in0 hW.2.1) (sP_s0 hW.2.1) rfl (sP_r0_0 hW.2.1) t168 dX10_lotOf_56 ?_
            refine w_getR (pc := 59) (b := (r + 1) + 3) kc5 1 (sP_in hW.2.1 (k := 1) (by decide)) (sP_s1 hW.2.1) rfl (sP_r1_1 hW.2.1) t45 dX10_lotOf_59 ?_
            refine w_iload_1 (pc := 62) dX10_lotOf_62 ?_
            refine w_iald (pc := 63) (j := u) (sP_in hW.2.1 (k := 3) (by decide)) (sP_s3 hW.2.1) hx (by omega) (by decide) dX10_lotOf_63 ?_
            refine w_iret (pc := 64) rfl ⟨Nat.le_refl _, Nat.le_refl _⟩ dX10_lotOf_64 ?_
            obtain ⟨w, hw, hy⟩ := nx_rg (m := 1) (by omega) ⟨Int32.not_lt.mp c5, c10⟩
            have tw : tn x2 = w := tn_of hy (by omega)
            rcases (show w = 0 ∨ w = 1 by omega) with rfl | rfl
            · exact absurd hy c34
            · refine ⟨?_, rfl, rfl⟩
              rw [qLotOf, if_neg (fun h => h.elim c1 (fun h => h ⟨Int32.not_lt.mp c5, c10⟩)), if_neg h13, tu, tw, (rh.2.2 u hu).2, show 69 + 2 * u + 1 = 70 + 2 * u by omega]
          · refine w_aload_0 (pc := 37) dX10_lotOf_37 ?_
            refine w_getR (pc := 38) (b := (r + 1)) kc10 0 (sBS_in hW.1) hW.1.2.1 rfl hW.1.2.2.1 t299 dX10_lotOf_38 ?_
            refine w_getR (pc := 41) (b := (r + 1) + 1) kc6 0 (sP_in0 hW.2.1) (sP_s0 hW.2.1) rfl (sP_r0_0 hW.2.1) t168 dX10_lotOf_41 ?_
            refine w_getR (pc := 44) (b := (r + 1) + 2) kc5 0 (sP_in hW.2.1 (k := 1) (by decide)) (sP_s1 hW.2.1) rfl (sP_r1_0 hW.2.1) t42 dX10_lotOf_44 ?_
            refine w_iload_1 (pc := 47) dX10_lotOf_47 ?_
            refine w_iald (pc := 48) (j := u) (sP_in hW.2.1 (k := 2) (by decide)) (sP_s2 hW.2.1) hx (by omega) (by decide) dX10_lotOf_48 ?_
            refine w_goto (pc := 49) (tgt := 64) dX10_lotOf_49 (by decide) ?_
            refine w_iret (pc := 64) rfl ⟨Nat.le_refl _, Nat.le_refl _⟩ dX10_lotOf_64 ?_
            refine ⟨?_, rfl, rfl⟩
            rw [qLotOf, if_neg (fun h => h.elim c1 (fun h => h ⟨Int32.not_lt.mp c5, c10⟩)), if_neg h13, tu, c34, (rh.2.2 u hu).1]; rfl
        · refine w_ldc (pc := 30) (v := -1000004) t332 dX10_lotOf_30 ?_
          refine w_iret (pc := 32) rfl ⟨Nat.le_refl _, Nat.le_refl _⟩ dX10_lotOf_32 ?_
          refine ⟨?_, rfl, rfl⟩
          rw [qLotOf, if_neg (fun h => h.elim c1 (fun h => h ⟨Int32.not_lt.mp c5, c10⟩)), if_pos (by rw [← rh.1]; exact Int32.not_lt.mp c27)]
      · refine w_ldc (pc := 13) (v := -1000001) t319 dX10_lotOf_13 ?_
        refine w_iret (pc := 15) rfl ⟨Nat.le_refl _, Nat.le_refl _⟩ dX10_lotOf_15 ?_
        refine ⟨?_, rfl, rfl⟩
        rw [qLotOf, if_pos (Or.inr (fun h => c10 h.2))]
set_option maxHeartbeats 4000000 in
set_option maxRecDepth 100000 in
theorem c_BS_binOf {g : kG} {σ : kS} {I : kI} {r : Nat} {x : Nat → Nat} (hW : sW g σ r x) {c : kCS} {n0 : Nat} {f : kV} (hC : CR I r x c n0 f) {x1 x2 : Int32} : ct g mX10_binOf ⟨1, 0, 0, 23⟩ [.ref r, .int x1, .int x2] σ I (qI (qBinOf c.1 x1 x2) σ I) := by
  refine ct_of pn10 rfl (Nat.le_of_ble_eq_true rfl) ok_X10_binOf.1 trivial ?_
  show wp _ _ _ _ _ _ _ _ 0 [some (.ref r), some (.int x1), some (.int x2), none] []
  have hCC := hC
  obtain ⟨⟨rh, rb, rn, rs, ra, rt, rp⟩, hK, hH, hT⟩ := hC
  have hS := hK.1
  obtain ⟨B1, B2⟩ := SX_B hS
  refine w_aload_0 (pc := 0) dX10_binOf_0 ?_
  refine w_getR (pc := 1) (b := (r + 1)) kc10 0 (sBS_in hW.1) hW.1.2.1 rfl hW.1.2.2.1 t299 dX10_binOf_1 ?_
  refine w_getR (pc := 4) (b := (r + 1) + 6) kc6 2 (sP_in0 hW.2.1) (sP_s0 hW.2.1) rfl (sP_r0_2 hW.2.1) t172 dX10_binOf_4 ?_
  refine w_astore_3 (pc := 7) dX10_binOf_7 rfl ?_
  refine w_aload_3 (pc := 8) dX10_binOf_8 ?_
  refine w_iload_1 (pc := 9) dX10_binOf_9 ?_
  refine w_callV_I (pc := 10) (c_Bins_has (sP_Bins hW.2.1)) ok_X2_has t567 t568 kc2 (sP_in hW.2.1 (k := 6) (by decide)) (sP_s6 hW.2.1) t624 ⟨Nat.le_of_ble_eq_true rfl, Nat.le_of_ble_eq_true rfl⟩ ⟨rfl, rfl⟩ ⟨Nat.le_refl _, Nat.le_refl _⟩ rfl (Nat.le_of_ble_eq_true rfl) dX10_binOf_10 ?_
  refine w_if_ne (pc := 13) (tgt := 19) dX10_binOf_13 (by decide) (fun c13 => ?_) (fun c13 => ?_)
  · have h12 : 0 ≤ x1 ∧ x1 < c.1 12 := by rw [← rn.1]; exact b1 c13
    obtain ⟨u, hu, hx⟩ := nx_rl (by omega) B2 h12
    have tu : tn x1 = u := tn_of hx (by omega)
    have hbm : sm (I (r + 1 + 7)) (u * 4) 4 = bMass c.1 u := sm_cong (fun k hk => by rw [rn.2.1 u k (by omega) hk, if_pos hu])
    have hq : ∀ w : Int32, 0 ≤ w ∧ w ≤ 6 → ¬ ¬ ((0 ≤ x1 ∧ x1 < c.1 12) ∧ (0 ≤ w ∧ w ≤ 6)) := fun w hw h => h ⟨h12, hw⟩
    refine w_iload_2 (pc := 19) dX10_binOf_19 ?_
    refine w_callS_I (pc := 20) (c_isKind) ok_X10_isKind t338 t337 ⟨Nat.le_of_ble_eq_true rfl, Nat.le_of_ble_eq_true rfl⟩ ⟨rfl, rfl⟩ ⟨Nat.le_refl _, Nat.le_refl _⟩ rfl (Nat.le_of_ble_eq_true rfl) dX10_binOf_20 ?_
    refine w_if_eq (pc := 23) (tgt := 37) dX10_binOf_23 (by decide) (fun c23 => ?_) (fun c23 => ?_)
    · refine w_iload_2 (pc := 37) dX10_binOf_37 ?_
      refine w_name (fun y38 e38 => ?_)
      by_cases s38_4 : y38 = 4
      · subst s38_4
        refine w_tableIn (pc := 38) (tgt := 64) (off := 26) dX10_binOf_38 (by decide) (by decide) (by decide) (by decide) ?_
        refine w_aload_3 (pc := 64) dX10_binOf_64 ?_
        refine w_iload_1 (pc := 65) dX10_binOf_65 ?_
        refine w_callV_I (pc := 66) (c_Bins_massOf (sP_Bins hW.2.1) hx (by omega)) ok_X2_massOf t571 t572 kc2 (sP_in hW.2.1 (k := 6) (by decide)) (sP_s6 hW.2.1) t625 ⟨Nat.le_of_ble_eq_true rfl, Nat.le_of_ble_eq_true rfl⟩ ⟨rfl, rfl⟩ ⟨Nat.le_refl _, Nat.le_refl _⟩ rfl (Nat.le_of_ble_eq_true rfl) dX10_binOf_66 ?_
        refine w_iret (pc := 69) rfl ⟨Nat.le_refl _, Nat.le_refl _⟩ dX10_binOf_69 ?_
        refine ⟨?_, rfl, rfl⟩
        rw [← e38, qBinOf, if_neg (hq 4 (by decide)), if_neg (by decide), if_pos rfl, tu, hbm]
      by_cases s38_5 : y38 = 5
      · subst s38_5
        refine w_tableIn (pc := 38) (tgt := 70) (off := 32) dX10_binOf_38 (by decide) (by decide) (by decide) (by decide) ?_
        refine w_aload_3 (pc := 70) dX10_binOf_70 ?_
        refine w_getR (pc := 71) (b := (r + 1) + 8) kc2 1 (sP_in hW.2.1 (k := 6) (by decide)) (sP_s6 hW.2.1) rfl (sP_r6_1 hW.2.1) t88 dX10_binOf_71 ?_
        refine w_iload_1 (pc := 74) dX10_binOf_74 ?_
        refine w_iald (pc := 75) (j := u) (sP_in hW.2.1 (k := 8) (by decide)) (sP_s8 hW.2.1) hx (by omega) (by decide) dX10_binOf_75 ?_
        refine w_ldc (pc := 76) (v := 1000000000) t626 dX10_binOf_76 ?_
        refine w_iadd (pc := 78) dX10_binOf_78 ?_
        refine w_iret (pc := 79) rfl ⟨Nat.le_refl _, Nat.le_refl _⟩ dX10_binOf_79 ?_
        refine ⟨?_, rfl, rfl⟩
        rw [← e38, qBinOf, if_neg (hq 5 (by decide)), if_neg (by decide), if_neg (by decide), if_pos rfl, tu, rn.2.2.1 u (by omega), if_pos hu]
      by_cases s38_6 : y38 = 6
      · subst s38_6
        refine w_tableIn (pc := 38) (tgt := 80) (off := 42) dX10_binOf_38 (by decide) (by decide) (by decide) (by decide) ?_
        refine w_aload_3 (pc := 80) dX10_binOf_80 ?_
        refine w_getR (pc := 81) (b := (r + 1) + 9) kc2 2 (sP_in hW.2.1 (k := 6) (by decide)) (sP_s6 hW.2.1) rfl (sP_r6_2 hW.2.1) t91 dX10_binOf_81 ?_
        refine w_iload_1 (pc := 84) dX10_binOf_84 ?_
        refine w_iald (pc := 85) (j := u) (sP_in hW.2.1 (k := 9) (by decide)) (sP_s9 hW.2.1) hx (by omega) (by decide) dX10_binOf_85 ?_
        refine w_iret (pc := 86) rfl ⟨Nat.le_refl _, Nat.le_refl _⟩ dX10_binOf_86 ?_
        refine ⟨?_, rfl, rfl⟩
        rw [← e38, qBinOf, if_neg (hq 6 (by decide)), if_neg (by decide), if_neg (by decide), if_neg (by decide), tu, rn.2.2.2 u (by omega), if_pos hu]
      have q38_4 := lv_neT (a := 4) s38_4 (by decide)
      have q38_5 := lv_neT (a := 5) s38_5 (by decide)
      have q38_6 := lv_neT (a := 6) s38_6 (by decide)
      refine w_tableOut (pc := 38) (tgt := 87) dX10_binOf_38 (by omega) (by decide) ?_
      refine w_ldc (pc := 87) (v := -1000001) t319 dX10_binOf_87 ?_
      refine w_iret (pc := 89) rfl ⟨Nat.le_refl _, Nat.le_refl _⟩ dX10_binOf_89 ?_
      refine ⟨?_, rfl, rfl⟩
      rw [qBinOf, if_pos]
      rintro ⟨-, z1, z2⟩
      obtain ⟨j, hj, hy⟩ := nx_rg (m := 6) (by omega) ⟨z1, z2⟩
      rcases (show j < 4 ∨ j = 4 ∨ j = 5 ∨ j = 6 by omega) with h | rfl | rfl | rfl
      · exact b0 c23 ⟨z1, by rw [hy]; exact (nI_ltI (b := 4) (by omega) (by omega)).mpr h⟩
      · exact s38_4 (e38.trans hy)
      · exact s38_5 (e38.trans hy)
      · exact s38_6 (e38.trans hy)
    · obtain ⟨w, hw, hy⟩ := nx_rg (m := 3) (by omega) (kdl (b1 c23))
      have tw : tn x2 = w := tn_of hy (by omega)
      refine w_aload_3 (pc := 26) dX10_binOf_26 ?_
      refine w_getR (pc := 27) (b := (r + 1) + 7) kc2 0 (sP_in hW.2.1 (k := 6) (by decide)) (sP_s6 hW.2.1) rfl (sP_r6_0 hW.2.1) t86 dX10_binOf_27 ?_
      refine w_iload_1 (pc := 30) dX10_binOf_30 ?_
      refine w_iconst (pc := 31) (v := 4) dX10_binOf_31 (by decide) ?_
      refine w_imul (pc := 32) dX10_binOf_32 ?_
      refine w_iload_2 (pc := 33) dX10_binOf_33 ?_
      refine w_iadd (pc := 34) dX10_binOf_34 ?_
      refine w_iald (pc := 35) (j := u * 4 + w) (sP_in hW.2.1 (k := 7) (by decide)) (sP_s7 hW.2.1) (nx_4 hx hy) (by omega) (by decide) dX10_binOf_35 ?_
      refine w_iret (pc := 36) rfl ⟨Nat.le_refl _, Nat.le_refl _⟩ dX10_binOf_36 ?_
      refine ⟨?_, rfl, rfl⟩
      rw [qBinOf, if_neg (hq x2 ⟨(b1 c23).1, Int32.le_trans (kdl (b1 c23)).2 (by decide)⟩), if_pos (b1 c23).2, tu, tw, rn.2.1 u w (by omega) (by omega), if_pos hu]
  · refine w_ldc (pc := 16) (v := -1000001) t319 dX10_binOf_16 ?_
    refine w_iret (pc := 18) rfl ⟨Nat.le_refl _, Nat.le_refl _⟩ dX10_binOf_18 ?_
    refine ⟨?_, rfl, rfl⟩
    rw [qBinOf, if_pos (fun h => b0 c13 (by rw [rn.1]; exact h.1))]
set_option maxHeartbeats 4000000 in
set_option maxRecDepth 100000 in
theorem c_BS_scale {g : kG} {σ : kS} {I : kI} {r : Nat} {x : Nat → Nat} (hW : sW g σ r x) {c : kCS} {n0 : Nat} {f : kV} (hC : CR I r x c n0 f) {x1 : Int32} : ct g mX10_scale ⟨2, 0, 0, 46⟩ [.ref r, .int x1] σ I (qI (qScale c.1 x1) σ I) := by
  refine ct_of pn10 rfl (Nat.le_of_ble_eq_true rfl) ok_X10_scale.1 trivial ?_
  show wp _ _ _ _ _ _ _ _ 0 [some (.ref r), some (.int x1), none] []
  have hCC := hC
  obtain ⟨⟨rh, rb, rn, rs, ra, rt, rp⟩, hK, hH, hT⟩ := hC
  have hS := hK.1
  obtain ⟨z, z1, z2, z3, z4⟩ := rb
  refine w_aload_0 (pc := 0) dX10_scale_0 ?_
  refine w_getR (pc := 1) (b := (r + 1)) kc10 0 (sBS_in hW.1) hW.1.2.1 rfl hW.1.2.2.1 t299 dX10_scale_1 ?_
  refine w_getR (pc := 4) (b := (r + 1) + 10) kc6 3 (sP_in0 hW.2.1) (sP_s0 hW.2.1) rfl (sP_r0_3 hW.2.1) t174 dX10_scale_4 ?_
  refine w_astore_2 (pc := 7) dX10_scale_7 rfl ?_
  refine w_iload_1 (pc := 8) dX10_scale_8 ?_
  refine w_name (fun y9 e9 => ?_)
  by_cases s9_0 : y9 = 0
  · subst s9_0
    refine w_tableIn (pc := 9) (tgt := 52) (off := 43) dX10_scale_9 (by decide) (by decide) (by decide) (by decide) ?_
    refine w_aload_2 (pc := 52) dX10_scale_52 ?_
    refine w_aload_0 (pc := 53) dX10_scale_53 ?_
    refine w_getR (pc := 54) (b := (r + 1)) kc10 0 (sBS_in hW.1) hW.1.2.1 rfl hW.1.2.2.1 t299 dX10_scale_54 ?_
    refine w_getR (pc := 57) (b := (r + 1) + 4) kc6 1 (sP_in0 hW.2.1) (sP_s0 hW.2.1) rfl (sP_r0_1 hW.2.1) t170 dX10_scale_57 ?_
    refine w_callV_I (pc := 60) (c_Belt_massSeen (sP_Belt hW.2.1) z2 z1) ok_X1_massSeen t467 t468 kc1 (sP_in hW.2.1 (k := 4) (by decide)) (sP_s4 hW.2.1) t654 ⟨Nat.le_of_ble_eq_true rfl, Nat.le_of_ble_eq_true rfl⟩ ⟨rfl, rfl⟩ ⟨Nat.le_refl _, Nat.le_refl _⟩ rfl (Nat.le_of_ble_eq_true rfl) dX10_scale_60 ?_
    rw [seen_eq z3]
    refine w_callV_I (pc := 63) (c_Scale_reading (sP_Scale hW.2.1)) ok_X8_reading t476 t477 kc8 (sP_in hW.2.1 (k := 10) (by decide)) (sP_s10 hW.2.1) t655 ⟨Nat.le_of_ble_eq_true rfl, Nat.le_of_ble_eq_true rfl⟩ ⟨rfl, rfl⟩ ⟨Nat.le_refl _, Nat.le_refl _⟩ rfl (Nat.le_of_ble_eq_true rfl) dX10_scale_63 ?_
    refine w_ldc (pc := 66) (v := 1000000) t656 dX10_scale_66 ?_
    refine w_iadd (pc := 68) dX10_scale_68 ?_
    refine w_iret (pc := 69) rfl ⟨Nat.le_refl _, Nat.le_refl _⟩ dX10_scale_69 ?_
    refine ⟨?_, rfl, rfl⟩
    rw [← e9, rs.1, rs.2.1]; rfl
  by_cases s9_1 : y9 = 1
  · subst s9_1
    refine w_tableIn (pc := 9) (tgt := 70) (off := 61) dX10_scale_9 (by decide) (by decide) (by decide) (by decide) ?_
    refine w_aload_2 (pc := 70) dX10_scale_70 ?_
    refine w_getI (pc := 71) kc8 0 (sP_in hW.2.1 (k := 10) (by decide)) (sP_s10 hW.2.1) rfl t112 dX10_scale_71 ?_
    refine w_ldc (pc := 74) (v := 1000000) t656 dX10_scale_74 ?_
    refine w_iadd (pc := 76) dX10_scale_76 ?_
    refine w_iret (pc := 77) rfl ⟨Nat.le_refl _, Nat.le_refl _⟩ dX10_scale_77 ?_
    refine ⟨?_, rfl, rfl⟩
    rw [← e9, rs.1]; rfl
  by_cases s9_2 : y9 = 2
  · subst s9_2
    refine w_tableIn (pc := 9) (tgt := 78) (off := 69) dX10_scale_9 (by decide) (by decide) (by decide) (by decide) ?_
    refine w_aload_2 (pc := 78) dX10_scale_78 ?_
    refine w_getI (pc := 79) kc8 1 (sP_in hW.2.1 (k := 10) (by decide)) (sP_s10 hW.2.1) rfl t115 dX10_scale_79 ?_
    refine w_ldc (pc := 82) (v := 1000000) t656 dX10_scale_82 ?_
    refine w_iadd (pc := 84) dX10_scale_84 ?_
    refine w_iret (pc := 85) rfl ⟨Nat.le_refl _, Nat.le_refl _⟩ dX10_scale_85 ?_
    refine ⟨?_, rfl, rfl⟩
    rw [← e9, rs.2.1]; rfl
  by_cases s9_3 : y9 = 3
  · subst s9_3
    refine w_tableIn (pc := 9) (tgt := 86) (off := 77) dX10_scale_9 (by decide) (by decide) (by decide) (by decide) ?_
    refine w_aload_2 (pc := 86) dX10_scale_86 ?_
    refine w_getI (pc := 87) kc8 2 (sP_in hW.2.1 (k := 10) (by decide)) (sP_s10 hW.2.1) rfl t117 dX10_scale_87 ?_
    refine w_ldc (pc := 90) (v := 1000000000) t626 dX10_scale_90 ?_
    refine w_iadd (pc := 92) dX10_scale_92 ?_
    refine w_iret (pc := 93) rfl ⟨Nat.le_refl _, Nat.le_refl _⟩ dX10_scale_93 ?_
    refine ⟨?_, rfl, rfl⟩
    rw [← e9, rs.2.2.1]; rfl
  by_cases s9_4 : y9 = 4
  · subst s9_4
    refine w_tableIn (pc := 9) (tgt := 94) (off := 85) dX10_scale_9 (by decide) (by decide) (by decide) (by decide) ?_
    refine w_aload_2 (pc := 94) dX10_scale_94 ?_
    refine w_callV_I (pc := 95) (c_Scale_toldTotal (sP_Scale hW.2.1)) ok_X8_toldTotal t658 t659 kc8 (sP_in hW.2.1 (k := 10) (by decide)) (sP_s10 hW.2.1) t657 ⟨Nat.le_of_ble_eq_true rfl, Nat.le_of_ble_eq_true rfl⟩ ⟨rfl, rfl⟩ ⟨Nat.le_refl _, Nat.le_refl _⟩ rfl (Nat.le_of_ble_eq_true rfl) dX10_scale_95 ?_
    refine w_ldc (pc := 98) (v := 1000000000) t626 dX10_scale_98 ?_
    refine w_iadd (pc := 100) dX10_scale_100 ?_
    refine w_iret (pc := 101) rfl ⟨Nat.le_refl _, Nat.le_refl _⟩ dX10_scale_101 ?_
    refine ⟨?_, rfl, rfl⟩
    rw [← e9, rs.2.2.1, rs.2.2.2.2]; rfl
  by_cases s9_5 : y9 = 5
  · subst s9_5
    refine w_tableIn (pc := 9) (tgt := 102) (off := 93) dX10_scale_9 (by decide) (by decide) (by decide) (by decide) ?_
    refine w_aload_2 (pc := 102) dX10_scale_102 ?_
    refine w_getI (pc := 103) kc8 4 (sP_in hW.2.1 (k := 10) (by decide)) (sP_s10 hW.2.1) rfl t121 dX10_scale_103 ?_
    refine w_iret (pc := 106) rfl ⟨Nat.le_refl _, Nat.le_refl _⟩ dX10_scale_106 ?_
    refine ⟨?_, rfl, rfl⟩
    rw [← e9, rs.2.2.2.2]; rfl
  by_cases s9_6 : y9 = 6
  · subst s9_6
    refine w_tableIn (pc := 9) (tgt := 107) (off := 98) dX10_scale_9 (by decide) (by decide) (by decide) (by decide) ?_
    refine w_aload_0 (pc := 107) dX10_scale_107 ?_
    refine w_getR (pc := 108) (b := (r + 1)) kc10 0 (sBS_in hW.1) hW.1.2.1 rfl hW.1.2.2.1 t299 dX10_scale_108 ?_
    refine w_getI (pc := 111) kc6 12 (sP_in0 hW.2.1) (sP_s0 hW.2.1) rfl t191 dX10_scale_111 ?_
    refine w_iret (pc := 114) rfl ⟨Nat.le_refl _, Nat.le_refl _⟩ dX10_scale_114 ?_
    refine ⟨?_, rfl, rfl⟩
    rw [← e9, rp.2.2.2.2.2.2.2.1]; rfl
  have q9_0 := lv_neT (a := 0) s9_0 (by decide)
  have q9_1 := lv_neT (a := 1) s9_1 (by decide)
  have q9_2 := lv_neT (a := 2) s9_2 (by decide)
  have q9_3 := lv_neT (a := 3) s9_3 (by decide)
  have q9_4 := lv_neT (a := 4) s9_4 (by decide)
  have q9_5 := lv_neT (a := 5) s9_5 (by decide)
  have q9_6 := lv_neT (a := 6) s9_6 (by decide)
  refine w_tableOut (pc := 9) (tgt := 115) dX10_scale_9 (by omega) (by decide) ?_
  refine w_ldc (pc := 115) (v := -1000001) t319 dX10_scale_115 ?_
  refine w_iret (pc := 117) rfl ⟨Nat.le_refl _, Nat.le_refl _⟩ dX10_scale_117 ?_
  refine ⟨?_, rfl, rfl⟩
  rw [← e9, qScale, if_neg s9_0, if_neg s9_1, if_neg s9_2, if_neg s9_3, if_neg s9_4, if_neg s9_5, if_neg s9_6]
set_option maxHeartbeats 4000000 in
set_option maxRecDepth 100000 in
theorem c_BS_count {g : kG} {σ : kS} {I : kI} {r : Nat} {x : Nat → Nat} (hW : sW g σ r x) {c : kCS} {n0 : Nat} {f : kV} (hC : CR I r x c n0 f) {x1 : Int32} : ct g mX10_count ⟨1, 0, 0, 22⟩ [.ref r, .int x1] σ I (qI (qCount c.1 (nI c.2.1) (nI n0) x1) σ I) := by
  refine ct_of pn10 rfl (Nat.le_of_ble_eq_true rfl) ok_X10_count.1 trivial ?_
  show wp _ _ _ _ _ _ _ _ 0 [some (.ref r), some (.int x1), none] []
  have hCC := hC
  obtain ⟨⟨rh, rb, rn, rs, ra, rt, rp⟩, hK, hH, hT⟩ := hC
  have hS := hK.1
  obtain ⟨z, z1, z2, z3, z4⟩ := rb
  obtain ⟨L1, L2, -⟩ := SX_L hS
  have hL : I (r + 1 + 1) 2 = nI (nLo c.1) := rh.1.trans L2
  have J39 : ¬ (20 ≤ x1 ∧ x1 ≤ 22) → wp g mX10_count ⟨1, 0, 0, 22⟩ (fun _ => True) (qI (qCount c.1 (nI c.2.1) (nI n0) x1) σ I) (0, 0) σ I 39 [some (.ref r), some (.int x1), none] [] := by
    intro hn20
    refine w_iload_1 (pc := 39) dX10_count_39 ?_
    refine w_bipush (pc := 40) (v := 30) dX10_count_40 (by decide) ?_
    refine w_isub (pc := 42) dX10_count_42 ?_
    refine w_callS_I (pc := 43) (c_isKind) ok_X10_isKind t338 t337 ⟨Nat.le_of_ble_eq_true rfl, Nat.le_of_ble_eq_true rfl⟩ ⟨rfl, rfl⟩ ⟨Nat.le_refl _, Nat.le_refl _⟩ rfl (Nat.le_of_ble_eq_true rfl) dX10_count_43 ?_
    refine w_if_eq (pc := 46) (tgt := 65) dX10_count_46 (by decide) (fun c46 => ?_) (fun c46 => ?_)
    · have hn30 : ¬ (30 ≤ x1 ∧ x1 ≤ 33) := fun h => by
        obtain ⟨k0, hk0, hy⟩ := nx_rb (l := 30) (m := 33) (by decide) h
        refine b0 c46 ?_
        rw [hy, show (30 : Int32) = nI 30 from rfl, pk_sub (by omega)]
        exact ⟨nI_pos' (by omega), (nI_ltI (b := 4) (by omega) (by omega)).mpr (by omega)⟩
      refine w_iload_1 (pc := 65) dX10_count_65 ?_
      refine w_name (fun y66 e66 => ?_)
      by_cases s66_0 : y66 = 0
      · subst s66_0
        refine w_tableIn (pc := 66) (tgt := 144) (off := 78) dX10_count_66 (by decide) (by decide) (by decide) (by decide) ?_
        refine w_aload_0 (pc := 144) dX10_count_144 ?_
        refine w_getR (pc := 145) (b := (r + 1)) kc10 0 (sBS_in hW.1) hW.1.2.1 rfl hW.1.2.2.1 t299 dX10_count_145 ?_
        refine w_getR (pc := 148) (b := (r + 1) + 1) kc6 0 (sP_in0 hW.2.1) (sP_s0 hW.2.1) rfl (sP_r0_0 hW.2.1) t168 dX10_count_148 ?_
        refine w_getI (pc := 151) kc5 2 (sP_in hW.2.1 (k := 1) (by decide)) (sP_s1 hW.2.1) rfl t48 dX10_count_151 ?_
        refine w_iret (pc := 154) rfl ⟨Nat.le_refl _, Nat.le_refl _⟩ dX10_count_154 ?_
        refine ⟨?_, rfl, rfl⟩
        rw [← e66, rh.1]; rfl
      by_cases s66_1 : y66 = 1
      · subst s66_1
        refine w_tableIn (pc := 66) (tgt := 155) (off := 89) dX10_count_66 (by decide) (by decide) (by decide) (by decide) ?_
        refine w_aload_0 (pc := 155) dX10_count_155 ?_
        refine w_getR (pc := 156) (b := (r + 1)) kc10 0 (sBS_in hW.1) hW.1.2.1 rfl hW.1.2.2.1 t299 dX10_count_156 ?_
        refine w_getI (pc := 159) kc6 6 (sP_in0 hW.2.1) (sP_s0 hW.2.1) rfl t180 dX10_count_159 ?_
        refine w_iret (pc := 162) rfl ⟨Nat.le_refl _, Nat.le_refl _⟩ dX10_count_162 ?_
        refine ⟨?_, rfl, rfl⟩
        rw [← e66, rp.1]; rfl
      by_cases s66_2 : y66 = 2
      · subst s66_2
        refine w_tableIn (pc := 66) (tgt := 163) (off := 97) dX10_count_66 (by decide) (by decide) (by decide) (by decide) ?_
        refine w_aload_0 (pc := 163) dX10_count_163 ?_
        refine w_getR (pc := 164) (b := (r + 1)) kc10 0 (sBS_in hW.1) hW.1.2.1 rfl hW.1.2.2.1 t299 dX10_count_164 ?_
        refine w_getI (pc := 167) kc6 7 (sP_in0 hW.2.1) (sP_s0 hW.2.1) rfl t182 dX10_count_167 ?_
        refine w_iret (pc := 170) rfl ⟨Nat.le_refl _, Nat.le_refl _⟩ dX10_count_170 ?_
        refine ⟨?_, rfl, rfl⟩
        rw [← e66, rp.2.1]; rfl
      by_cases s66_3 : y66 = 3
      · subst s66_3
        refine w_tableIn (pc := 66) (tgt := 171) (off := 105) dX10_count_66 (by decide) (by decide) (by decide) (by decide) ?_
        refine w_aload_0 (pc := 171) dX10_count_171 ?_
        refine w_getR (pc := 172) (b := (r + 1)) kc10 0 (sBS_in hW.1) hW.1.2.1 rfl hW.1.2.2.1 t299 dX10_count_172 ?_
        refine w_getR (pc := 175) (b := (r + 1) + 6) kc6 2 (sP_in0 hW.2.1) (sP_s0 hW.2.1) rfl (sP_r0_2 hW.2.1) t172 dX10_count_175 ?_
        refine w_getI (pc := 178) kc2 3 (sP_in hW.2.1 (k := 6) (by decide)) (sP_s6 hW.2.1) rfl t94 dX10_count_178 ?_
        refine w_iret (pc := 181) rfl ⟨Nat.le_refl _, Nat.le_refl _⟩ dX10_count_181 ?_
        refine ⟨?_, rfl, rfl⟩
        rw [← e66, rn.1]; rfl
      by_cases s66_4 : y66 = 4
      · subst s66_4
        refine w_tableIn (pc := 66) (tgt := 182) (off := 116) dX10_count_66 (by decide) (by decide) (by decide) (by decide) ?_
        refine w_aload_0 (pc := 182) dX10_count_182 ?_
        refine w_getR (pc := 183) (b := (r + 1)) kc10 0 (sBS_in hW.1) hW.1.2.1 rfl hW.1.2.2.1 t299 dX10_count_183 ?_
        refine w_getR (pc := 186) (b := (r + 1) + 6) kc6 2 (sP_in0 hW.2.1) (sP_s0 hW.2.1) rfl (sP_r0_2 hW.2.1) t172 dX10_count_186 ?_
        refine w_getI (pc := 189) kc2 3 (sP_in hW.2.1 (k := 6) (by decide)) (sP_s6 hW.2.1) rfl t94 dX10_count_189 ?_
        refine w_if_ne (pc := 192) (tgt := 200) dX10_count_192 (by decide) (fun c192 => ?_) (fun c192 => ?_)
        · refine w_aload_0 (pc := 200) dX10_count_200 ?_
          refine w_getR (pc := 201) (b := (r + 1)) kc10 0 (sBS_in hW.1) hW.1.2.1 rfl hW.1.2.2.1 t299 dX10_count_201 ?_
          refine w_getR (pc := 204) (b := (r + 1) + 6) kc6 2 (sP_in0 hW.2.1) (sP_s0 hW.2.1) rfl (sP_r0_2 hW.2.1) t172 dX10_count_204 ?_
          refine w_getI (pc := 207) kc2 3 (sP_in hW.2.1 (k := 6) (by decide)) (sP_s6 hW.2.1) rfl t94 dX10_count_207 ?_
          refine w_iconst (pc := 210) (v := 1) dX10_count_210 (by decide) ?_
          refine w_isub (pc := 211) dX10_count_211 ?_
          refine w_iret (pc := 212) rfl ⟨Nat.le_refl _, Nat.le_refl _⟩ dX10_count_212 ?_
          refine ⟨?_, rfl, rfl⟩
          rw [← e66, rn.1]
          show _ = some (Value.int (if c.1 12 = 0 then -1000004 else c.1 12 - 1))
          rw [if_neg (by rw [← rn.1]; exact c192)]
        · refine w_ldc (pc := 195) (v := -1000004) t332 dX10_count_195 ?_
          refine w_goto (pc := 197) (tgt := 212) dX10_count_197 (by decide) ?_
          refine w_iret (pc := 212) rfl ⟨Nat.le_refl _, Nat.le_refl _⟩ dX10_count_212 ?_
          refine ⟨?_, rfl, rfl⟩
          rw [← e66]
          show _ = some (Value.int (if c.1 12 = 0 then -1000004 else c.1 12 - 1))
          rw [if_pos (by rw [← rn.1]; exact c192)]
      by_cases s66_5 : y66 = 5
      · subst s66_5
        refine w_tableIn (pc := 66) (tgt := 213) (off := 147) dX10_count_66 (by decide) (by decide) (by decide) (by decide) ?_
        refine w_aload_0 (pc := 213) dX10_count_213 ?_
        refine w_getR (pc := 214) (b := (r + 1)) kc10 0 (sBS_in hW.1) hW.1.2.1 rfl hW.1.2.2.1 t299 dX10_count_214 ?_
        refine w_callV_I (pc := 217) (c_Plant_hasBatch hW.2.1) ok_X6_hasBatch t341 t342 kc6 (sP_in0 hW.2.1) (sP_s0 hW.2.1) t340 ⟨Nat.le_of_ble_eq_true rfl, Nat.le_of_ble_eq_true rfl⟩ ⟨rfl, rfl⟩ ⟨Nat.le_refl _, Nat.le_refl _⟩ rfl (Nat.le_of_ble_eq_true rfl) dX10_count_217 ?_
        refine w_if_eq (pc := 220) (tgt := 233) dX10_count_220 (by decide) (fun c220 => ?_) (fun c220 => ?_)
        · refine w_ldc (pc := 233) (v := -1000004) t332 dX10_count_233 ?_
          refine w_iret (pc := 235) rfl ⟨Nat.le_refl _, Nat.le_refl _⟩ dX10_count_235 ?_
          refine ⟨?_, rfl, rfl⟩
          rw [← e66]
          show _ = some (Value.int (qTold c.1 5))
          rw [qTold, if_pos (fun h => b0 c220 (by rw [rp.2.2.1]; exact h))]
        · refine w_aload_0 (pc := 223) dX10_count_223 ?_
          refine w_getR (pc := 224) (b := (r + 1)) kc10 0 (sBS_in hW.1) hW.1.2.1 rfl hW.1.2.2.1 t299 dX10_count_224 ?_
          refine w_getI (pc := 227) kc6 8 (sP_in0 hW.2.1) (sP_s0 hW.2.1) rfl t184 dX10_count_227 ?_
          refine w_goto (pc := 230) (tgt := 235) dX10_count_230 (by decide) ?_
          refine w_iret (pc := 235) rfl ⟨Nat.le_refl _, Nat.le_refl _⟩ dX10_count_235 ?_
          refine ⟨?_, rfl, rfl⟩
          rw [← e66]
          show _ = some (Value.int (qTold c.1 5))
          rw [qTold, if_neg (fun h => h (by rw [← rp.2.2.1]; exact b1 c220)), if_pos rfl, rp.2.2.1]
      by_cases s66_6 : y66 = 6
      · subst s66_6
        refine w_tableIn (pc := 66) (tgt := 236) (off := 170) dX10_count_66 (by decide) (by decide) (by decide) (by decide) ?_
        refine w_aload_0 (pc := 236) dX10_count_236 ?_
        refine w_getR (pc := 237) (b := (r + 1)) kc10 0 (sBS_in hW.1) hW.1.2.1 rfl hW.1.2.2.1 t299 dX10_count_237 ?_
        refine w_callV_I (pc := 240) (c_Plant_hasBatch hW.2.1) ok_X6_hasBatch t341 t342 kc6 (sP_in0 hW.2.1) (sP_s0 hW.2.1) t340 ⟨Nat.le_of_ble_eq_true rfl, Nat.le_of_ble_eq_true rfl⟩ ⟨rfl, rfl⟩ ⟨Nat.le_refl _, Nat.le_refl _⟩ rfl (Nat.le_of_ble_eq_true rfl) dX10_count_240 ?_
        refine w_if_eq (pc := 243) (tgt := 264) dX10_count_243 (by decide) (fun c243 => ?_) (fun c243 => ?_)
        · refine w_ldc (pc := 264) (v := -1000004) t332 dX10_count_264 ?_
          refine w_iret (pc := 266) rfl ⟨Nat.le_refl _, Nat.le_refl _⟩ dX10_count_266 ?_
          refine ⟨?_, rfl, rfl⟩
          rw [← e66]
          show _ = some (Value.int (qTold c.1 6))
          rw [qTold, if_pos (fun h => b0 c243 (by rw [rp.2.2.1]; exact h))]
        · refine w_aload_0 (pc := 246) dX10_count_246 ?_
          refine w_getR (pc := 247) (b := (r + 1)) kc10 0 (sBS_in hW.1) hW.1.2.1 rfl hW.1.2.2.1 t299 dX10_count_247 ?_
          refine w_getI (pc := 250) kc6 9 (sP_in0 hW.2.1) (sP_s0 hW.2.1) rfl t186 dX10_count_250 ?_
          refine w_if_eq (pc := 253) (tgt := 260) dX10_count_253 (by decide) (fun c253 => ?_) (fun c253 => ?_)
          · refine w_iconst (pc := 260) (v := 0) dX10_count_260 (by decide) ?_
            refine w_goto (pc := 261) (tgt := 266) dX10_count_261 (by decide) ?_
            refine w_iret (pc := 266) rfl ⟨Nat.le_refl _, Nat.le_refl _⟩ dX10_count_266 ?_
            have hb : 0 < c.1 15 := by rw [← rp.2.2.1]; exact b1 c243
            refine ⟨?_, rfl, rfl⟩
            rw [← e66]
            show _ = some (Value.int (qTold c.1 6))
            rw [qTold, if_neg (fun h => h hb), if_neg (by decide), ← rp.2.2.2.1 hb, c253]
          · refine w_iconst (pc := 256) (v := 1) dX10_count_256 (by decide) ?_
            refine w_goto (pc := 257) (tgt := 266) dX10_count_257 (by decide) ?_
            refine w_iret (pc := 266) rfl ⟨Nat.le_refl _, Nat.le_refl _⟩ dX10_count_266 ?_
            have hb : 0 < c.1 15 := by rw [← rp.2.2.1]; exact b1 c243
            have h16 : c.1 16 = 1 := hK.2.1.2.1.elim (fun q => absurd ((rp.2.2.2.1 hb).trans q) c253) (fun q => q)
            refine ⟨?_, rfl, rfl⟩
            rw [← e66]
            show _ = some (Value.int (qTold c.1 6))
            rw [qTold, if_neg (fun h => h hb), if_neg (by decide), h16]
      by_cases s66_7 : y66 = 7
      · subst s66_7
        refine w_tableIn (pc := 66) (tgt := 267) (off := 201) dX10_count_66 (by decide) (by decide) (by decide) (by decide) ?_
        refine w_aload_0 (pc := 267) dX10_count_267 ?_
        refine w_getR (pc := 268) (b := (r + 1)) kc10 0 (sBS_in hW.1) hW.1.2.1 rfl hW.1.2.2.1 t299 dX10_count_268 ?_
        refine w_getI (pc := 271) kc6 11 (sP_in0 hW.2.1) (sP_s0 hW.2.1) rfl t189 dX10_count_271 ?_
        refine w_iret (pc := 274) rfl ⟨Nat.le_refl _, Nat.le_refl _⟩ dX10_count_274 ?_
        refine ⟨?_, rfl, rfl⟩
        rw [← e66, rp.2.2.2.2.2.2.1]; rfl
      by_cases s66_8 : y66 = 8
      · subst s66_8
        refine w_tableIn (pc := 66) (tgt := 275) (off := 209) dX10_count_66 (by decide) (by decide) (by decide) (by decide) ?_
        refine w_aload_0 (pc := 275) dX10_count_275 ?_
        refine w_getR (pc := 276) (b := (r + 1)) kc10 0 (sBS_in hW.1) hW.1.2.1 rfl hW.1.2.2.1 t299 dX10_count_276 ?_
        refine w_getR (pc := 279) (b := (r + 1) + 4) kc6 1 (sP_in0 hW.2.1) (sP_s0 hW.2.1) rfl (sP_r0_1 hW.2.1) t170 dX10_count_279 ?_
        refine w_getI (pc := 282) kc1 2 (sP_in hW.2.1 (k := 4) (by decide)) (sP_s4 hW.2.1) rfl t71 dX10_count_282 ?_
        refine w_iret (pc := 285) rfl ⟨Nat.le_refl _, Nat.le_refl _⟩ dX10_count_285 ?_
        refine ⟨?_, rfl, rfl⟩
        rw [← e66, z4]; rfl
      by_cases s66_9 : y66 = 9
      · subst s66_9
        refine w_tableIn (pc := 66) (tgt := 286) (off := 220) dX10_count_66 (by decide) (by decide) (by decide) (by decide) ?_
        refine w_aload_0 (pc := 286) dX10_count_286 ?_
        refine w_getR (pc := 287) (b := (r + 1)) kc10 0 (sBS_in hW.1) hW.1.2.1 rfl hW.1.2.2.1 t299 dX10_count_287 ?_
        refine w_getR (pc := 290) (b := (r + 1) + 1) kc6 0 (sP_in0 hW.2.1) (sP_s0 hW.2.1) rfl (sP_r0_0 hW.2.1) t168 dX10_count_290 ?_
        refine w_callV_I (pc := 293) (c_Hop_massInside (sP_Hop hW.2.1) hL L1) ok_X5_massInside t345 t346 kc5 (sP_in hW.2.1 (k := 1) (by decide)) (sP_s1 hW.2.1) t344 ⟨Nat.le_of_ble_eq_true rfl, Nat.le_of_ble_eq_true rfl⟩ ⟨rfl, rfl⟩ ⟨Nat.le_refl _, Nat.le_refl _⟩ rfl (Nat.le_of_ble_eq_true rfl) dX10_count_293 ?_
        refine w_iret (pc := 296) rfl ⟨Nat.le_refl _, Nat.le_refl _⟩ dX10_count_296 ?_
        refine ⟨?_, rfl, rfl⟩
        rw [← e66, lots_eq rh _ (Nat.le_refl _)]; rfl
      by_cases s66_10 : y66 = 10
      · subst s66_10
        refine w_tableIn (pc := 66) (tgt := 297) (off := 231) dX10_count_66 (by decide) (by decide) (by decide) (by decide) ?_
        refine w_aload_0 (pc := 297) dX10_count_297 ?_
        refine w_getR (pc := 298) (b := (r + 1)) kc10 0 (sBS_in hW.1) hW.1.2.1 rfl hW.1.2.2.1 t299 dX10_count_298 ?_
        refine w_getR (pc := 301) (b := (r + 1) + 1) kc6 0 (sP_in0 hW.2.1) (sP_s0 hW.2.1) rfl (sP_r0_0 hW.2.1) t168 dX10_count_301 ?_
        refine w_getI (pc := 304) kc5 3 (sP_in hW.2.1 (k := 1) (by decide)) (sP_s1 hW.2.1) rfl t50 dX10_count_304 ?_
        refine w_iret (pc := 307) rfl ⟨Nat.le_refl _, Nat.le_refl _⟩ dX10_count_307 ?_
        refine ⟨?_, rfl, rfl⟩
        rw [← e66, rh.2.1]; rfl
      by_cases s66_11 : y66 = 11
      · subst s66_11
        refine w_tableIn (pc := 66) (tgt := 308) (off := 242) dX10_count_66 (by decide) (by decide) (by decide) (by decide) ?_
        refine w_aload_0 (pc := 308) dX10_count_308 ?_
        refine w_getR (pc := 309) (b := (r + 1)) kc10 0 (sBS_in hW.1) hW.1.2.1 rfl hW.1.2.2.1 t299 dX10_count_309 ?_
        refine w_getR (pc := 312) (b := (r + 1) + 6) kc6 2 (sP_in0 hW.2.1) (sP_s0 hW.2.1) rfl (sP_r0_2 hW.2.1) t172 dX10_count_312 ?_
        refine w_callV_I (pc := 315) (c_Plant_massOfAll hW.2.1 hCC.1 hS) ok_X2_massOfAll t349 t350 kc2 (sP_in hW.2.1 (k := 6) (by decide)) (sP_s6 hW.2.1) t348 ⟨Nat.le_of_ble_eq_true rfl, Nat.le_of_ble_eq_true rfl⟩ ⟨rfl, rfl⟩ ⟨Nat.le_refl _, Nat.le_refl _⟩ rfl (Nat.le_of_ble_eq_true rfl) dX10_count_315 ?_
        refine w_iret (pc := 318) rfl ⟨Nat.le_refl _, Nat.le_refl _⟩ dX10_count_318 ?_
        refine ⟨?_, rfl, rfl⟩
        rw [← e66]; rfl
      by_cases s66_12 : y66 = 12
      · subst s66_12
        refine w_tableIn (pc := 66) (tgt := 319) (off := 253) dX10_count_66 (by decide) (by decide) (by decide) (by decide) ?_
        refine w_aload_0 (pc := 319) dX10_count_319 ?_
        refine w_getR (pc := 320) (b := (r + 1)) kc10 0 (sBS_in hW.1) hW.1.2.1 rfl hW.1.2.2.1 t299 dX10_count_320 ?_
        refine w_getI (pc := 323) kc6 13 (sP_in0 hW.2.1) (sP_s0 hW.2.1) rfl t193 dX10_count_323 ?_
        refine w_iret (pc := 326) rfl ⟨Nat.le_refl _, Nat.le_refl _⟩ dX10_count_326 ?_
        refine ⟨?_, rfl, rfl⟩
        rw [← e66, rp.2.2.2.2.2.2.2.2.1]; rfl
      by_cases s66_13 : y66 = 13
      · subst s66_13
        refine w_tableIn (pc := 66) (tgt := 327) (off := 261) dX10_count_66 (by decide) (by decide) (by decide) (by decide) ?_
        refine w_aload_0 (pc := 327) dX10_count_327 ?_
        refine w_getR (pc := 328) (b := (r + 1)) kc10 0 (sBS_in hW.1) hW.1.2.1 rfl hW.1.2.2.1 t299 dX10_count_328 ?_
        refine w_getR (pc := 331) (b := (r + 1) + 11) kc6 4 (sP_in0 hW.2.1) (sP_s0 hW.2.1) rfl (sP_r0_4 hW.2.1) t176 dX10_count_331 ?_
        refine w_getI (pc := 334) kc0 3 (sP_in hW.2.1 (k := 11) (by decide)) (sP_s11 hW.2.1) rfl t146 dX10_count_334 ?_
        refine w_iret (pc := 337) rfl ⟨Nat.le_refl _, Nat.le_refl _⟩ dX10_count_337 ?_
        refine ⟨?_, rfl, rfl⟩
        rw [← e66, ra.1]; rfl
      by_cases s66_14 : y66 = 14
      · subst s66_14
        refine w_tableIn (pc := 66) (tgt := 338) (off := 272) dX10_count_66 (by decide) (by decide) (by decide) (by decide) ?_
        refine w_aload_0 (pc := 338) dX10_count_338 ?_
        refine w_getR (pc := 339) (b := (r + 33)) kc10 2 (sBS_in hW.1) hW.1.2.1 rfl hW.1.2.2.2.2.1 t301 dX10_count_339 ?_
        refine w_getI (pc := 342) kc4 4 hW.2.2.2.1.1 hW.2.2.2.1.2.1 rfl t240 dX10_count_342 ?_
        refine w_iret (pc := 345) rfl ⟨Nat.le_refl _, Nat.le_refl _⟩ dX10_count_345 ?_
        refine ⟨?_, rfl, rfl⟩
        rw [← e66, hH.1]; rfl
      by_cases s66_15 : y66 = 15
      · subst s66_15
        refine w_tableIn (pc := 66) (tgt := 346) (off := 280) dX10_count_66 (by decide) (by decide) (by decide) (by decide) ?_
        refine w_aload_0 (pc := 346) dX10_count_346 ?_
        refine w_getR (pc := 347) (b := (r + 98)) kc10 3 (sBS_in hW.1) hW.1.2.1 rfl hW.1.2.2.2.2.2.1 t302 dX10_count_347 ?_
        refine w_getI (pc := 350) kc9 1 hW.2.2.2.2.2.2.1.1 hW.2.2.2.2.2.2.1.2.1 rfl t259 dX10_count_350 ?_
        refine w_iret (pc := 353) rfl ⟨Nat.le_refl _, Nat.le_refl _⟩ dX10_count_353 ?_
        refine ⟨?_, rfl, rfl⟩
        rw [← e66, hT.1]; rfl
      have q66_0 := lv_neT (a := 0) s66_0 (by decide)
      have q66_1 := lv_neT (a := 1) s66_1 (by decide)
      have q66_2 := lv_neT (a := 2) s66_2 (by decide)
      have q66_3 := lv_neT (a := 3) s66_3 (by decide)
      have q66_4 := lv_neT (a := 4) s66_4 (by decide)
      have q66_5 := lv_neT (a := 5) s66_5 (by decide)
      have q66_6 := lv_neT (a := 6) s66_6 (by decide)
      have q66_7 := lv_neT (a := 7) s66_7 (by decide)
      have q66_8 := lv_neT (a := 8) s66_8 (by decide)
      have q66_9 := lv_neT (a := 9) s66_9 (by decide)
      have q66_10 := lv_neT (a := 10) s66_10 (by decide)
      have q66_11 := lv_neT (a := 11) s66_11 (by decide)
      have q66_12 := lv_neT (a := 12) s66_12 (by decide)
      have q66_13 := lv_neT (a := 13) s66_13 (by decide)
      have q66_14 := lv_neT (a := 14) s66_14 (by decide)
      have q66_15 := lv_neT (a := 15) s66_15 (by decide)
      refine w_tableOut (pc := 66) (tgt := 354) dX10_count_66 (by omega) (by decide) ?_
      refine w_ldc (pc := 354) (v := -1000001) t319 dX10_count_354 ?_
      refine w_iret (pc := 356) rfl ⟨Nat.le_refl _, Nat.le_refl _⟩ dX10_count_356 ?_
      refine ⟨?_, rfl, rfl⟩
      rw [qCount, if_neg (show ¬ x1 = 0 from by rw [← e66]; exact s66_0), if_neg (show ¬ x1 = 1 from by rw [← e66]; exact s66_1), if_neg (show ¬ x1 = 2 from by rw [← e66]; exact s66_2), if_neg (show ¬ x1 = 3 from by rw [← e66]; exact s66_3), if_neg (show ¬ x1 = 4 from by rw [← e66]; exact s66_4), if_neg (show ¬ x1 = 5 from by rw [← e66]; exact s66_5), if_neg (show ¬ x1 = 6 from by rw [← e66]; exact s66_6), if_neg (show ¬ x1 = 7 from by rw [← e66]; exact s66_7), if_neg (show ¬ x1 = 8 from by rw [← e66]; exact s66_8), if_neg (show ¬ x1 = 9 from by rw [← e66]; exact s66_9), if_neg (show ¬ x1 = 10 from by rw [← e66]; exact s66_10), if_neg (show ¬ x1 = 11 from by rw [← e66]; exact s66_11), if_neg (show ¬ x1 = 12 from by rw [← e66]; exact s66_12), if_neg (show ¬ x1 = 13 from by rw [← e66]; exact s66_13), if_neg (show ¬ x1 = 14 from by rw [← e66]; exact s66_14), if_neg (show ¬ x1 = 15 from by rw [← e66]; exact s66_15), if_neg hn20, if_neg hn30]
    · obtain ⟨k0, hk0, hz⟩ := nx_rg (m := 3) (by omega) (kdl (b1 c46))
      have hy : x1 = nI (30 + k0) := by rw [← Int32.sub_add_cancel x1 30, hz, show (30 : Int32) = nI 30 from rfl, nI_add, Nat.add_comm]
      have tk : tn x1 = 30 + k0 := tn_of hy (by omega)
      have hr : 30 ≤ x1 ∧ x1 ≤ 33 := by
        rw [hy]
        exact ⟨(nI_leI (a := 30) (by omega) (by omega)).mpr (by omega), (nI_leI (b := 33) (by omega) (by omega)).mpr (by omega)⟩
      refine w_aload_0 (pc := 49) dX10_count_49 ?_
      refine w_getR (pc := 50) (b := (r + 1)) kc10 0 (sBS_in hW.1) hW.1.2.1 rfl hW.1.2.2.1 t299 dX10_count_50 ?_
      refine w_getR (pc := 53) (b := (r + 1) + 11) kc6 4 (sP_in0 hW.2.1) (sP_s0 hW.2.1) rfl (sP_r0_4 hW.2.1) t176 dX10_count_53 ?_
      refine w_getR (pc := 56) (b := (r + 1) + 14) kc0 2 (sP_in hW.2.1 (k := 11) (by decide)) (sP_s11 hW.2.1) rfl (sP_r11_2 hW.2.1) t144 dX10_count_56 ?_
      refine w_iload_1 (pc := 59) dX10_count_59 ?_
      refine w_bipush (pc := 60) (v := 30) dX10_count_60 (by decide) ?_
      refine w_isub (pc := 62) dX10_count_62 ?_
      refine w_iald (pc := 63) (j := k0) (sP_in hW.2.1 (k := 14) (by decide)) (sP_s14 hW.2.1) hz (by omega) (by decide) dX10_count_63 ?_
      refine w_iret (pc := 64) rfl ⟨Nat.le_refl _, Nat.le_refl _⟩ dX10_count_64 ?_
      refine ⟨?_, rfl, rfl⟩
      rw [qCount_bk hr, tk, show 30 + k0 - 30 = k0 by omega, ra.2.2.2 k0 (by omega)]
  refine w_iload_1 (pc := 0) dX10_count_0 ?_
  refine w_bipush (pc := 1) (v := 20) dX10_count_1 (by decide) ?_
  refine w_icmp_lt (pc := 3) (tgt := 39) dX10_count_3 (by decide) (fun c3 => ?_) (fun c3 => ?_)
  · exact J39 (fun h => absurd h.1 (Int32.not_le.mpr c3))
  · refine w_iload_1 (pc := 6) dX10_count_6 ?_
    refine w_bipush (pc := 7) (v := 23) dX10_count_7 (by decide) ?_
    refine w_icmp_ge (pc := 9) (tgt := 39) dX10_count_9 (by decide) (fun c9 => ?_) (fun c9 => ?_)
    · exact J39 (fun h => absurd (Int32.le_trans c9 h.2) (by decide))
    · have hr : 20 ≤ x1 ∧ x1 ≤ 22 := ⟨Int32.not_lt.mp c3, n23 c9⟩
      obtain ⟨k0, hk0, hy⟩ := nx_rb (l := 20) (m := 22) (by decide) hr
      have tk : tn x1 = 20 + k0 := tn_of hy (by omega)
      have hz : x1 - 20 = nI k0 := by rw [hy, show (20 : Int32) = nI 20 from rfl, pk_sub (by omega)]; congr 1; omega
      refine w_iload_1 (pc := 12) dX10_count_12 ?_
      refine w_bipush (pc := 13) (v := 20) dX10_count_13 (by decide) ?_
      refine w_isub (pc := 15) dX10_count_15 ?_
      refine w_istore_2 (pc := 16) dX10_count_16 rfl ?_
      refine w_aload_0 (pc := 17) dX10_count_17 ?_
      refine w_getR (pc := 18) (b := (r + 1)) kc10 0 (sBS_in hW.1) hW.1.2.1 rfl hW.1.2.2.1 t299 dX10_count_18 ?_
      refine w_getR (pc := 21) (b := (r + 1) + 15) kc6 5 (sP_in0 hW.2.1) (sP_s0 hW.2.1) rfl (sP_r0_5 hW.2.1) t178 dX10_count_21 ?_
      refine w_iload_2 (pc := 24) dX10_count_24 ?_
      refine w_iald (pc := 25) (j := k0) (sP_in hW.2.1 (k := 15) (by decide)) (sP_s15 hW.2.1) hz (by omega) (by decide) dX10_count_25 ?_
      refine w_iload_2 (pc := 26) dX10_count_26 ?_
      refine w_iconst (pc := 27) (v := 2) dX10_count_27 (by decide) ?_
      refine w_icmp_ne (pc := 28) (tgt := 36) dX10_count_28 (by decide) (fun c28 => ?_) (fun c28 => ?_)
      · refine w_iconst (pc := 36) (v := 0) dX10_count_36 (by decide) ?_
        refine w_iadd (pc := 37) dX10_count_37 ?_
        refine w_iret (pc := 38) rfl ⟨Nat.le_refl _, Nat.le_refl _⟩ dX10_count_38 ?_
        have h22 : ¬ x1 = 22 := fun e => c28 (by rw [e]; decide)
        refine ⟨?_, rfl, rfl⟩
        rw [qCount_st hr, if_neg h22, tk, show 20 + k0 - 20 = k0 by omega, rt k0 (by omega)]
      · refine w_bipush (pc := 31) (v := 10) dX10_count_31 (by decide) ?_
        refine w_goto (pc := 33) (tgt := 37) dX10_count_33 (by decide) ?_
        refine w_iadd (pc := 37) dX10_count_37 ?_
        refine w_iret (pc := 38) rfl ⟨Nat.le_refl _, Nat.le_refl _⟩ dX10_count_38 ?_
        have k2 : k0 = 2 := (nI_eq (by omega) (by omega)).mp (hz.symm.trans c28)
        have h22 : x1 = 22 := by rw [hy, k2]; rfl
        refine ⟨?_, rfl, rfl⟩
        rw [qCount_st hr, if_pos h22, tk, show 20 + k0 - 20 = k0 by omega, rt k0 (by omega)]

