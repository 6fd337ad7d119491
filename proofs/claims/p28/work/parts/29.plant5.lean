theorem fac_i {m gr : Int32} (h0 : 0 ≤ m) (h1 : m ≤ 2000000) (hg : 0 < gr) : (1000 * m.toInt64 / gr.toInt64).toInt = (1000 * m / gr).toInt ∧ 0 ≤ (1000 * m / gr).toInt ∧ (1000 * m / gr).toInt < 2 ^ 31 := by
  have a0 := Int32.le_iff_toInt_le.mp h0
  have a1 := Int32.le_iff_toInt_le.mp h1
  have a2 := Int32.lt_iff_toInt_lt.mp hg
  rw [show (0 : Int32).toInt = 0 by decide] at a0 a2
  rw [show (2000000 : Int32).toInt = 2000000 by decide] at a1
  have a3 := Int32.toInt_lt gr
  have e1 : (1000 * m).toInt = 1000 * m.toInt := by
    rw [Int32.toInt_mul, show (1000 : Int32).toInt = 1000 by decide]
    exact Int.bmod_eq_of_le (by omega) (by omega)
  have e2 : (1000 * m.toInt64).toInt = 1000 * m.toInt := by
    rw [Int64.toInt_mul, Int32.toInt_toInt64, show (1000 : Int64).toInt = 1000 by decide]
    exact Int.bmod_eq_of_le (by omega) (by omega)
  have b0 : 0 ≤ (1000 * m.toInt).tdiv gr.toInt := Int.tdiv_nonneg (by omega) (by omega)
  have b1 : (1000 * m.toInt).tdiv gr.toInt ≤ 1000 * m.toInt := by
    rw [Int.tdiv_eq_ediv_of_nonneg (by omega)]
    exact Int.ediv_le_self _ (by omega)
  have f1 : (1000 * m / gr).toInt = (1000 * m.toInt).tdiv gr.toInt := by
    rw [Int32.toInt_div, e1]
    exact Int.bmod_eq_of_le (by omega) (by omega)
  have f2 : (1000 * m.toInt64 / gr.toInt64).toInt = (1000 * m.toInt).tdiv gr.toInt := by
    rw [Int64.toInt_div, e2, Int32.toInt_toInt64]
    exact Int.bmod_eq_of_le (by omega) (by omega)
  exact ⟨f2.trans f1.symm, by rw [f1]; exact b0, by rw [f1]; omega⟩
theorem fac_eq {m gr : Int32} (h0 : 0 ≤ m) (h1 : m ≤ 2000000) (hg : 0 < gr) : (1000 * m.toInt64 / gr.toInt64).toInt32 = 1000 * m / gr ∧ (1000 * m.toInt64 / gr.toInt64 < 500 ↔ 1000 * m / gr < 500) ∧ (2000 < 1000 * m.toInt64 / gr.toInt64 ↔ 2000 < 1000 * m / gr) := by
  obtain ⟨h, l, u⟩ := fac_i h0 h1 hg
  refine ⟨Int32.toInt_inj.mp ?_, ?_, ?_⟩
  · rw [Int64.toInt_toInt32, h]
    exact Int.bmod_eq_of_le (by omega) (by omega)
  · rw [Int64.lt_iff_toInt_lt, Int32.lt_iff_toInt_lt, h]; exact Iff.rfl
  · rw [Int64.lt_iff_toInt_lt, Int32.lt_iff_toInt_lt, h]; exact Iff.rfl
theorem set_rg {x : Int32} (h : 0 ≤ x ∧ x < 3) : 0 ≤ x ∧ x ≤ 2 := ⟨h.1, by
  have := Int32.lt_iff_toInt_lt.mp h.2
  have h4 : (3 : Int32).toInt = 3 := by decide
  rw [Int32.le_iff_toInt_le, show (2 : Int32).toInt = 2 by decide]; omega⟩
theorem set_ng {x : Int32} (h : ¬ x < 3) (h2 : x ≤ 2) : False := h (Int32.lt_of_le_of_lt h2 (by decide))
theorem all_eq {I : kI} {p : Nat} {s : kV} (h : PRn I p s) (hB : nB s ≤ 8) : ∀ b, b ≤ 8 → sm (I (p + 7)) 0 (4 * b) = smB s (min b (nB s))
  | 0, _ => by rw [Nat.zero_min]; rfl
  | b + 1, hb => by
    rw [show 4 * (b + 1) = 4 * b + 4 by omega, sm_add, all_eq h hB b (by omega), Nat.zero_add]
    by_cases hq : b < nB s
    · rw [show min (b + 1) (nB s) = min b (nB s) + 1 by omega]
      show _ = smB s (min b (nB s)) + bMass s (min b (nB s))
      rw [show min b (nB s) = b by omega]
      congr 1
      exact sm_cong (fun k hk => by rw [show 4 * b + k = b * 4 + k by omega, h.2.1 b k (by omega) hk, if_pos hq])
    · rw [show min (b + 1) (nB s) = min b (nB s) by omega]
      have e : sm (I (p + 7)) (4 * b) 4 = 0 := by
        have e1 : ∀ k, k < 4 → I (p + 7) (4 * b + k) = 0 := fun k hk => by rw [show 4 * b + k = b * 4 + k by omega, h.2.1 b k (by omega) hk, if_neg hq]
        simp only [sm]
        rw [e1 0 (by omega), e1 1 (by omega), e1 2 (by omega), e1 3 (by omega)]; decide
      rw [e, Int32.add_zero]
theorem lots_eq {I : kI} {p : Nat} {s : kV} (h : PRh I p s) : ∀ n, n ≤ nLo s → sm (I (p + 3)) 0 n = smL s n
  | 0, _ => rfl
  | n + 1, hn => by
    rw [sm_succ, lots_eq h n (by omega), Nat.zero_add, (h.2.2 n (by omega)).2]; rfl
set_option maxHeartbeats 4000000 in
set_option maxRecDepth 100000 in
theorem c_Plant_correctBy {g : kG} {σ : kS} {I : kI} {p : Nat} {s : kV} (hP : sPlant g σ p) (hR : PR I p s) (hS : SX s) (hM : ∀ b, b < nB s → 0 ≤ bMass s b ∧ bMass s b ≤ 2000000) {x : Int32} : ct g mX6_correctBy ⟨1, 0, 0, 23⟩ [.ref p, .int x] σ I (qEI σ (fun r I1 => r = (oCorrect s x).1 ∧ opP p I (oCorrect s x) I1)) := by
  refine ct_of pn6 rfl (Nat.le_of_ble_eq_true rfl) ok_X6_correctBy.1 trivial ?_
  show wp _ _ _ _ _ _ _ _ 0 [some (.ref p), some (.int x), none, none] []
  have hRR := hR
  obtain ⟨rh, rb, rn, rs, ra, rt, rp⟩ := hR
  refine w_aload_0 (pc := 0) dX6_correctBy_0 ?_
  refine w_getR (pc := 1) (b := p + 6) kc6 2 (sP_in0 hP) (sP_s0 hP) rfl (sP_r0_2 hP) t171 dX6_correctBy_1 ?_
  refine w_iload_1 (pc := 4) dX6_correctBy_4 ?_
  refine w_callV_I (pc := 5) (c_Bins_has (sP_Bins hP)) ok_X2_has t567 t568 kc2 (sP_in hP (k := 6) (by decide)) (sP_s6 hP) t566 ⟨Nat.le_of_ble_eq_true rfl, Nat.le_of_ble_eq_true rfl⟩ ⟨rfl, rfl⟩ ⟨Nat.le_refl _, Nat.le_refl _⟩ rfl (Nat.le_of_ble_eq_true rfl) dX6_correctBy_5 ?_
  refine w_if_ne (pc := 8) (tgt := 14) dX6_correctBy_8 (by decide) (fun c8 => ?_) (fun c8 => ?_)
  · obtain ⟨b2l, b2⟩ := SX_B hS
    have h12 : ¬ ¬ (0 ≤ x ∧ x < s 12) := fun h => h (by rw [← rn.1]; exact b1 c8)
    obtain ⟨k0, hk0l, hk0⟩ := nx_rl (by omega) b2 (Decidable.not_not.mp h12)
    have htk : tn x = k0 := tn_of hk0 (by omega)
    have hgr : I (p + 8) k0 = s (85 + 6 * k0) := by rw [rn.2.2.1 k0 (by omega), if_pos hk0l]
    have hbm : sm (I (p + 7)) (k0 * 4) 4 = bMass s k0 := sm_cong (fun k hk => by rw [rn.2.1 k0 k (by omega) hk, if_pos hk0l])
    refine w_aload_0 (pc := 14) dX6_correctBy_14 ?_
    refine w_getR (pc := 15) (b := p + 6) kc6 2 (sP_in0 hP) (sP_s0 hP) rfl (sP_r0_2 hP) t171 dX6_correctBy_15 ?_
    refine w_getR (pc := 18) (b := p + 8) kc2 1 (sP_in hP (k := 6) (by decide)) (sP_s6 hP) rfl (sP_r6_1 hP) t89 dX6_correctBy_18 ?_
    refine w_iload_1 (pc := 21) dX6_correctBy_21 ?_
    refine w_iald (pc := 22) (j := k0) (sP_in hP (k := 8) (by decide)) (sP_s8 hP) hk0 (by omega) (by decide) dX6_correctBy_22 ?_
    refine w_istore_2 (pc := 23) dX6_correctBy_23 rfl ?_
    refine w_iload_2 (pc := 24) dX6_correctBy_24 ?_
    refine w_if_gt (pc := 25) (tgt := 31) dX6_correctBy_25 (by decide) (fun c25 => ?_) (fun c25 => ?_)
    · have g0 : 0 < s (85 + 6 * k0) := by rw [← hgr]; exact c25
      have hfs : facS s (tn x) = 1000 * (bMass s k0).toInt64 / (s (85 + 6 * k0)).toInt64 := by rw [htk, facS, if_pos g0]
      obtain ⟨f1, f2, f3⟩ := fac_eq (hM k0 hk0l).1 (hM k0 hk0l).2 g0
      refine w_sipush (pc := 31) (v := 1000) dX6_correctBy_31 (by decide) ?_
      refine w_aload_0 (pc := 34) dX6_correctBy_34 ?_
      refine w_getR (pc := 35) (b := p + 6) kc6 2 (sP_in0 hP) (sP_s0 hP) rfl (sP_r0_2 hP) t171 dX6_correctBy_35 ?_
      refine w_iload_1 (pc := 38) dX6_correctBy_38 ?_
      refine w_callV_I (pc := 39) (c_Bins_massOf (sP_Bins hP) hk0 (by omega)) ok_X2_massOf t571 t572 kc2 (sP_in hP (k := 6) (by decide)) (sP_s6 hP) t570 ⟨Nat.le_of_ble_eq_true rfl, Nat.le_of_ble_eq_true rfl⟩ ⟨rfl, rfl⟩ ⟨Nat.le_refl _, Nat.le_refl _⟩ rfl (Nat.le_of_ble_eq_true rfl) dX6_correctBy_39 ?_
      refine w_imul (pc := 42) dX6_correctBy_42 ?_
      refine w_iload_2 (pc := 43) dX6_correctBy_43 ?_
      refine w_idiv (pc := 44) dX6_correctBy_44 (by intro h9; rw [h9] at c25; exact absurd c25 (by decide)) ?_
      refine w_name (fun v hv => ?_)
      rw [hbm, hgr] at hv
      rw [← hv] at f1 f2 f3
      refine w_istore_3 (pc := 45) dX6_correctBy_45 rfl ?_
      refine w_iload_3 (pc := 46) dX6_correctBy_46 ?_
      refine w_sipush (pc := 47) (v := 500) dX6_correctBy_47 (by decide) ?_
      refine w_icmp_lt (pc := 50) (tgt := 60) dX6_correctBy_50 (by decide) (fun c50 => ?_) (fun c50 => ?_)
      · refine w_ldc (pc := 60) (v := -1000002) t508 dX6_correctBy_60 ?_
        refine w_iret (pc := 62) rfl ⟨Nat.le_refl _, Nat.le_refl _⟩ dX6_correctBy_62 ?_
        have ho : oCorrect s x = (-1000002, none) := by unfold oCorrect; rw [if_neg h12, if_pos (Or.inl (by rw [hfs]; exact f2.mpr c50))]
        exact ⟨_, rfl, rfl, by rw [ho], by rw [ho]; rfl⟩
      · refine w_iload_3 (pc := 53) dX6_correctBy_53 ?_
        refine w_sipush (pc := 54) (v := 2000) dX6_correctBy_54 (by decide) ?_
        refine w_icmp_le (pc := 57) (tgt := 63) dX6_correctBy_57 (by decide) (fun c57 => ?_) (fun c57 => ?_)
        · refine w_aload_0 (pc := 63) dX6_correctBy_63 ?_
          refine w_getR (pc := 64) (b := p + 10) kc6 3 (sP_in0 hP) (sP_s0 hP) rfl (sP_r0_3 hP) t173 dX6_correctBy_64 ?_
          refine w_iload_3 (pc := 67) dX6_correctBy_67 ?_
          refine w_putI (pc := 68) kc8 4 (sP_in hP (k := 10) (by decide)) (sP_s10 hP) rfl t120 rfl (tyX8_ok 4 (by decide)) rfl rfl dX6_correctBy_68 ?_
          refine w_iload_3 (pc := 71) dX6_correctBy_71 ?_
          refine w_iret (pc := 72) rfl ⟨Nat.le_refl _, Nat.le_refl _⟩ dX6_correctBy_72 ?_
          have ho : oCorrect s x = (v, some (upd s 7 v)) := by unfold oCorrect; rw [if_neg h12, if_neg (fun h => h.elim (fun h => c50 (f2.mp (by rw [← hfs]; exact h))) (fun h => absurd c57 (Int32.not_le.mpr (f3.mp (by rw [← hfs]; exact h))))), hfs, f1]
          refine ⟨_, rfl, rfl, ?_, ?_⟩
          · rw [ho]
            skip
          · rw [ho]
            refine ⟨frP_kst (by omega), ?_⟩
            refine PR_only_s hRR hS (fun a h => kst_n (by omega)) (fun k h => upd_ne (by simp only [is_] at h; omega)) ?_
            obtain ⟨h1, h2, h3, h4, h5⟩ := rs
            simp [PRs, kst_s, upd, *]
        · refine w_ldc (pc := 60) (v := -1000002) t508 dX6_correctBy_60 ?_
          refine w_iret (pc := 62) rfl ⟨Nat.le_refl _, Nat.le_refl _⟩ dX6_correctBy_62 ?_
          have ho : oCorrect s x = (-1000002, none) := by unfold oCorrect; rw [if_neg h12, if_pos (Or.inr (by rw [hfs]; exact f3.mpr (Int32.not_le.mp c57)))]
          exact ⟨_, rfl, rfl, by rw [ho], by rw [ho]; rfl⟩
    · refine w_ldc (pc := 28) (v := -1000002) t508 dX6_correctBy_28 ?_
      refine w_iret (pc := 30) rfl ⟨Nat.le_refl _, Nat.le_refl _⟩ dX6_correctBy_30 ?_
      have ho : oCorrect s x = (-1000002, none) := by unfold oCorrect; rw [if_neg h12, if_pos (Or.inl (by rw [htk, facS, if_neg (by rw [← hgr]; exact c25)]; decide))]
      exact ⟨_, rfl, rfl, by rw [ho], by rw [ho]; rfl⟩
  · refine w_ldc (pc := 11) (v := -1000001) t412 dX6_correctBy_11 ?_
    refine w_iret (pc := 13) rfl ⟨Nat.le_refl _, Nat.le_refl _⟩ dX6_correctBy_13 ?_
    have ho : oCorrect s x = (-1000001, none) := by unfold oCorrect; rw [if_pos (fun h => b0 c8 (by rw [rn.1]; exact h))]
    exact ⟨_, rfl, rfl, by rw [ho], by rw [ho]; rfl⟩
set_option maxHeartbeats 4000000 in
set_option maxRecDepth 100000 in
theorem c_Plant_changeSetting {g : kG} {σ : kS} {I : kI} {p : Nat} {s : kV} (hP : sPlant g σ p) (hR : PR I p s) (hS : SX s) {x y : Int32} : ct g mX6_changeSetting ⟨0, 0, 0, 0⟩ [.ref p, .int x, .int y] σ I (qEI σ (fun r I1 => r = (oSet s x y).1 ∧ opP p I (oSet s x y) I1)) := by
  refine ct_of pn6 rfl (Nat.le_of_ble_eq_true rfl) ok_X6_changeSetting.1 trivial ?_
  show wp _ _ _ _ _ _ _ _ 0 [some (.ref p), some (.int x), some (.int y), none] []
  have hRR := hR
  obtain ⟨rh, rb, rn, rs, ra, rt, rp⟩ := hR
  refine w_iload_1 (pc := 0) dX6_changeSetting_0 ?_
  refine w_if_lt (pc := 1) (tgt := 9) dX6_changeSetting_1 (by decide) (fun c1 => ?_) (fun c1 => ?_)
  · refine w_ldc (pc := 9) (v := -1000001) t412 dX6_changeSetting_9 ?_
    refine w_iret (pc := 11) rfl ⟨Nat.le_refl _, Nat.le_refl _⟩ dX6_changeSetting_11 ?_
    have ho : oSet s x y = (-1000001, none) := by unfold oSet; rw [if_pos (fun h => absurd h.1.1 (Int32.not_le.mpr c1))]
    exact ⟨_, rfl, rfl, by rw [ho], by rw [ho]; rfl⟩
  · refine w_iload_1 (pc := 4) dX6_changeSetting_4 ?_
    refine w_iconst (pc := 5) (v := 3) dX6_changeSetting_5 (by decide) ?_
    refine w_icmp_lt (pc := 6) (tgt := 12) dX6_changeSetting_6 (by decide) (fun c6 => ?_) (fun c6 => ?_)
    · have h02 : 0 ≤ x ∧ x ≤ 2 := set_rg ⟨Int32.not_lt.mp c1, c6⟩
      obtain ⟨k0, hk0l, hk0⟩ := nx_rg (m := 2) (by omega) h02
      have htk : tn x = k0 := tn_of hk0 (by omega)
      have hlo : (if x = 2 then (-9 : Int32) else 1) = kSv 1 k0 := by
        subst hk0; rcases (show k0 = 0 ∨ k0 = 1 ∨ k0 = 2 by omega) with rfl | rfl | rfl <;> decide
      have hhi : (if x = 0 then (500 : Int32) else if x = 1 then 99 else 9) = kSv 2 k0 := by
        subst hk0; rcases (show k0 = 0 ∨ k0 = 1 ∨ k0 = 2 by omega) with rfl | rfl | rfl <;> decide
      refine w_iload_2 (pc := 12) dX6_changeSetting_12 ?_
      refine w_getstatic (pc := 13) (j := 1) (by decide) n610 dX6_changeSetting_13 ?_
      refine w_iload_1 (pc := 16) dX6_changeSetting_16 ?_
      refine w_siald (pc := 17) (j := 1) (k := k0) (by decide) hk0 (by omega) dX6_changeSetting_17 ?_
      refine w_icmp_lt (pc := 18) (tgt := 30) dX6_changeSetting_18 (by decide) (fun c18 => ?_) (fun c18 => ?_)
      · refine w_ldc (pc := 30) (v := -1000001) t412 dX6_changeSetting_30 ?_
        refine w_iret (pc := 32) rfl ⟨Nat.le_refl _, Nat.le_refl _⟩ dX6_changeSetting_32 ?_
        have ho : oSet s x y = (-1000001, none) := by unfold oSet; rw [if_pos (fun h => absurd h.2.1 (by rw [hlo]; exact Int32.not_le.mpr c18))]
        exact ⟨_, rfl, rfl, by rw [ho], by rw [ho]; rfl⟩
      · refine w_iload_2 (pc := 21) dX6_changeSetting_21 ?_
        refine w_getstatic (pc := 22) (j := 2) (by decide) n612 dX6_changeSetting_22 ?_
        refine w_iload_1 (pc := 25) dX6_changeSetting_25 ?_
        refine w_siald (pc := 26) (j := 2) (k := k0) (by decide) hk0 (by omega) dX6_changeSetting_26 ?_
        refine w_icmp_le (pc := 27) (tgt := 33) dX6_changeSetting_27 (by decide) (fun c27 => ?_) (fun c27 => ?_)
        · refine w_aload_0 (pc := 33) dX6_changeSetting_33 ?_
          refine w_getR (pc := 34) (b := p + 15) kc6 5 (sP_in0 hP) (sP_s0 hP) rfl (sP_r0_5 hP) t177 dX6_changeSetting_34 ?_
          refine w_iload_1 (pc := 37) dX6_changeSetting_37 ?_
          refine w_iald (pc := 38) (j := k0) (sP_in hP (k := 15) (by decide)) (sP_s15 hP) hk0 (by omega) (by decide) dX6_changeSetting_38 ?_
          refine w_istore_3 (pc := 39) dX6_changeSetting_39 rfl ?_
          refine w_aload_0 (pc := 40) dX6_changeSetting_40 ?_
          refine w_getR (pc := 41) (b := p + 15) kc6 5 (sP_in0 hP) (sP_s0 hP) rfl (sP_r0_5 hP) t177 dX6_changeSetting_41 ?_
          refine w_iload_1 (pc := 44) dX6_changeSetting_44 ?_
          refine w_iload_2 (pc := 45) dX6_changeSetting_45 ?_
          refine w_iast (pc := 46) (j := k0) (sP_in hP (k := 15) (by decide)) (sP_s15 hP) hk0 (by omega) (by decide) dX6_changeSetting_46 ?_
          refine w_iload_3 (pc := 47) dX6_changeSetting_47 ?_
          refine w_iret (pc := 48) rfl ⟨Nat.le_refl _, Nat.le_refl _⟩ dX6_changeSetting_48 ?_
          have ho : oSet s x y = (s (18 + k0), some (upd s (18 + k0) y)) := by unfold oSet; rw [if_neg (fun h => h ⟨h02, by rw [hlo]; exact Int32.not_lt.mp c18, by rw [hhi]; exact c27⟩), htk]
          refine ⟨_, rfl, rfl, ?_, ?_⟩
          · rw [ho]
            exact rt k0 (by omega)
          · rw [ho]
            refine ⟨frP_kst (by omega), ?_⟩
            refine PR_only_t hRR hS (fun a h => kst_n (by omega)) (fun k h => upd_ne (by simp only [it_] at h; omega)) (fun k hk => ?_)
            rw [kst_s]
            by_cases h : k = k0
            · rw [h, upd_s, upd_s]
            · rw [upd_ne h, upd_ne (by omega), rt k hk]
        · refine w_ldc (pc := 30) (v := -1000001) t412 dX6_changeSetting_30 ?_
          refine w_iret (pc := 32) rfl ⟨Nat.le_refl _, Nat.le_refl _⟩ dX6_changeSetting_32 ?_
          have ho : oSet s x y = (-1000001, none) := by unfold oSet; rw [if_pos (fun h => absurd h.2.2 (by rw [hhi]; exact c27))]
          exact ⟨_, rfl, rfl, by rw [ho], by rw [ho]; rfl⟩
    · refine w_ldc (pc := 9) (v := -1000001) t412 dX6_changeSetting_9 ?_
      refine w_iret (pc := 11) rfl ⟨Nat.le_refl _, Nat.le_refl _⟩ dX6_changeSetting_11 ?_
      have ho : oSet s x y = (-1000001, none) := by unfold oSet; rw [if_pos (fun h => set_ng c6 h.1.2)]
      exact ⟨_, rfl, rfl, by rw [ho], by rw [ho]; rfl⟩
set_option maxHeartbeats 4000000 in
set_option maxRecDepth 100000 in
theorem c_Plant_accAdd {g : kG} {σ : kS} {I : kI} {p : Nat} {s : kV} (hP : sPlant g σ p) (hR : PR I p s) (hS : SX s) {x : Int32} : ct g mX0_add ⟨1, 0, 0, 21⟩ [.ref (p + 11), .int x] σ I (qEI σ (fun r I1 => r = (oAccount s x).1 ∧ opP p I (oAccount s x) I1)) := by
  refine ct_of pn0 rfl (Nat.le_of_ble_eq_true rfl) ok_X0_add.1 trivial ?_
  show wp _ _ _ _ _ _ _ _ 0 [some (.ref (p + 11)), some (.int x)] []
  have hRR := hR
  obtain ⟨rh, rb, rn, rs, ra, rt, rp⟩ := hR
  refine w_aload_0 (pc := 0) dX0_add_0 ?_
  refine w_iload_1 (pc := 1) dX0_add_1 ?_
  refine w_callV_I (pc := 2) (c_Acc_has (sP_Acc hP)) ok_X0_has t588 t589 kc0 (sP_in hP (k := 11) (by decide)) (sP_s11 hP) t587 ⟨Nat.le_of_ble_eq_true rfl, Nat.le_of_ble_eq_true rfl⟩ ⟨rfl, rfl⟩ ⟨Nat.le_refl _, Nat.le_refl _⟩ rfl (Nat.le_of_ble_eq_true rfl) dX0_add_2 ?_
  refine w_if_ne (pc := 5) (tgt := 11) dX0_add_5 (by decide) (fun c5 => ?_) (fun c5 => ?_)
  · obtain ⟨a1, a2, a3, -, -⟩ := SX_A hS
    have hA : I (p + 11) 3 = nI (nAc s) := ra.1.trans a3
    have h14 : ¬ ¬ (0 ≤ x ∧ x < s 14) := fun h => h (by rw [← ra.1]; exact b1 c5)
    refine w_aload_0 (pc := 11) dX0_add_11 ?_
    refine w_getI (pc := 12) kc0 3 (sP_in hP (k := 11) (by decide)) (sP_s11 hP) rfl t145 dX0_add_12 ?_
    refine w_bipush (pc := 15) (v := 8) dX0_add_15 (by decide) ?_
    refine w_icmp_lt (pc := 17) (tgt := 23) dX0_add_17 (by decide) (fun c17 => ?_) (fun c17 => ?_)
    · have a4 : nAc s < 8 := (nx_cmp hA (by omega) (y := 8) (b := 8) rfl (by omega)).2.1.mp c17
      refine w_aload_0 (pc := 23) dX0_add_23 ?_
      refine w_getR (pc := 24) (b := p + 12) kc0 0 (sP_in hP (k := 11) (by decide)) (sP_s11 hP) rfl (sP_r11_0 hP) t139 dX0_add_24 ?_
      refine w_aload_0 (pc := 27) dX0_add_27 ?_
      refine w_getI (pc := 28) kc0 3 (sP_in hP (k := 11) (by decide)) (sP_s11 hP) rfl t145 dX0_add_28 ?_
      refine w_iload_1 (pc := 31) dX0_add_31 ?_
      refine w_iast (pc := 32) (j := nAc s) (sP_in hP (k := 12) (by decide)) (sP_s12 hP) hA a4 (by decide) dX0_add_32 ?_
      refine w_aload_0 (pc := 33) dX0_add_33 ?_
      refine w_dup_a (pc := 34) dX0_add_34 ?_
      refine w_getI (pc := 35) kc0 3 (sP_in hP (k := 11) (by decide)) (sP_s11 hP) rfl t145 dX0_add_35 ?_
      refine w_iconst (pc := 38) (v := 1) dX0_add_38 (by decide) ?_
      refine w_iadd (pc := 39) dX0_add_39 ?_
      refine w_putI (pc := 40) kc0 3 (sP_in hP (k := 11) (by decide)) (sP_s11 hP) rfl t145 rfl (tyX0_ok 3 (by decide)) rfl rfl dX0_add_40 ?_
      refine w_aload_0 (pc := 43) dX0_add_43 ?_
      refine w_getI (pc := 44) kc0 3 (sP_in hP (k := 11) (by decide)) (sP_s11 hP) rfl t145 dX0_add_44 ?_
      refine w_iconst (pc := 47) (v := 1) dX0_add_47 (by decide) ?_
      refine w_isub (pc := 48) dX0_add_48 ?_
      refine w_iret (pc := 49) rfl ⟨Nat.le_refl _, Nat.le_refl _⟩ dX0_add_49 ?_
      have ho : oAccount s x = (s 14, some (upd (upd (upd s (129 + 2 * nAc s) x) (130 + 2 * nAc s) 0) 14 (s 14 + 1))) := by unfold oAccount; rw [if_neg h14, if_neg (fun h => by rw [a3] at h; have := (nx_cmp (y := 8) (b := 8) rfl (by omega) rfl (by omega) (a := nAc s)).2.2.mp h; omega)]
      refine ⟨_, rfl, rfl, ?_, ?_⟩
      · rw [ho]
        simp only [kst_s, upd_s]
        rw [kst_n (by omega), ra.1, Int32.add_sub_cancel]
      · rw [ho]
        refine ⟨frP_t (frP_kst (by omega)) (frP_kst (by omega)), ?_⟩
        have na : nAc (upd (upd (upd s (129 + 2 * nAc s) x) (130 + 2 * nAc s) 0) 14 (s 14 + 1)) = nAc s + 1 := by
          rw [nAc, upd_s]; exact tn_of (by rw [a3, nI_1]) (by omega)
        refine PR_only_a hRR hS (fun a h => by rw [kst_n (by omega), kst_n (by omega)]) (fun k h => by simp only [ia_] at h; rw [upd_ne (by omega), upd_ne (by omega), upd_ne (by omega)]) ?_
        obtain ⟨n1, n2, n3, n4⟩ := ra
        have E1 : ∀ v, kst (kst I (p + 12) (nAc s) x) (p + 11) 3 v (p + 12) = upd (I (p + 12)) (nAc s) x := fun v => by simp [kst, va_up]
        refine ⟨by rw [kst_s, upd_s, upd_s, kst_n (by omega), n1], fun a h1 h2 => ?_, fun a ha => ?_, fun κ hκ => ?_⟩
        · rw [E1, upd_ne (show 129 + 2 * a ≠ 14 by omega)]
          by_cases h : a = nAc s
          · rw [h, upd_s, upd_ne (by omega), upd_s]
          · rw [na] at h2
            rw [upd_ne h, upd_ne (by omega), upd_ne (by omega)]; exact n2 a h1 (by omega)
        · rw [kst_n (by omega), kst_n (by omega), n3 a ha, na]
          by_cases h : a < nAc s
          · rw [if_pos h, if_pos (by omega), upd_ne (by omega), upd_ne (by omega), upd_ne (by omega)]
          · rw [if_neg h]
            by_cases h2 : a < nAc s + 1
            · rw [if_pos h2, show a = nAc s by omega, upd_ne (by omega), upd_s]
            · rw [if_neg h2]
        · rw [kst_n (by omega), kst_n (by omega), n4 κ hκ, upd_ne (by omega), upd_ne (by omega), upd_ne (by omega)]
    · have c17 : s 14 = 8 := by
        have := nx_nlt c17 hA (by omega) (b := 8) rfl (by omega)
        rw [a3, show nAc s = 8 by omega]; rfl
      refine w_ldc (pc := 20) (v := -1000003) t592 dX0_add_20 ?_
      refine w_iret (pc := 22) rfl ⟨Nat.le_refl _, Nat.le_refl _⟩ dX0_add_22 ?_
      have ho : oAccount s x = (-1000003, none) := by unfold oAccount; rw [if_neg h14, if_pos c17]
      exact ⟨_, rfl, rfl, by rw [ho], by rw [ho]; rfl⟩
  · refine w_ldc (pc := 8) (v := -1000001) t591 dX0_add_8 ?_
    refine w_iret (pc := 10) rfl ⟨Nat.le_refl _, Nat.le_refl _⟩ dX0_add_10 ?_
    have ho : oAccount s x = (-1000001, none) := by unfold oAccount; rw [if_pos (fun h => b0 c5 (by rw [ra.1]; exact h))]
    exact ⟨_, rfl, rfl, by rw [ho], by rw [ho]; rfl⟩
set_option maxHeartbeats 4000000 in
set_option maxRecDepth 100000 in
theorem c_Plant_accAssign {g : kG} {σ : kS} {I : kI} {p : Nat} {s : kV} (hP : sPlant g σ p) (hR : PR I p s) (hS : SX s) {x y : Int32} : ct g mX0_assign ⟨1, 0, 0, 21⟩ [.ref (p + 11), .int x, .int y] σ I (qEI σ (fun r I1 => r = (oBook s x y).1 ∧ opP p I (oBook s x y) I1)) := by
  refine ct_of pn0 rfl (Nat.le_of_ble_eq_true rfl) ok_X0_assign.1 trivial ?_
  show wp _ _ _ _ _ _ _ _ 0 [some (.ref (p + 11)), some (.int x), some (.int y), none] []
  have hRR := hR
  obtain ⟨rh, rb, rn, rs, ra, rt, rp⟩ := hR
  refine w_iload_1 (pc := 0) dX0_assign_0 ?_
  refine w_callN_I (pc := 1) (c_isKind) ok_X10_isKind t338 n601 ⟨Nat.le_of_ble_eq_true rfl, Nat.le_of_ble_eq_true rfl⟩ ⟨rfl, rfl⟩ ⟨Nat.le_refl _, Nat.le_refl _⟩ rfl (Nat.le_of_ble_eq_true rfl) dX0_assign_1 ?_
  refine w_if_eq (pc := 4) (tgt := 15) dX0_assign_4 (by decide) (fun c4 => ?_) (fun c4 => ?_)
  · refine w_ldc (pc := 15) (v := -1000001) t591 dX0_assign_15 ?_
    refine w_iret (pc := 17) rfl ⟨Nat.le_refl _, Nat.le_refl _⟩ dX0_assign_17 ?_
    have ho : oBook s x y = (-1000001, none) := by unfold oBook; rw [if_pos (fun h => b0 c4 (kdr h.1))]
    exact ⟨_, rfl, rfl, by rw [ho], by rw [ho]; rfl⟩
  · obtain ⟨k0, hk0l, hk0⟩ := nx_rg (m := 3) (by omega) (kdl (b1 c4))
    have htk : tn x = k0 := tn_of hk0 (by omega)
    refine w_aload_0 (pc := 7) dX0_assign_7 ?_
    refine w_iload_2 (pc := 8) dX0_assign_8 ?_
    refine w_callV_I (pc := 9) (c_Acc_has (sP_Acc hP)) ok_X0_has t588 t589 kc0 (sP_in hP (k := 11) (by decide)) (sP_s11 hP) t587 ⟨Nat.le_of_ble_eq_true rfl, Nat.le_of_ble_eq_true rfl⟩ ⟨rfl, rfl⟩ ⟨Nat.le_refl _, Nat.le_refl _⟩ rfl (Nat.le_of_ble_eq_true rfl) dX0_assign_9 ?_
    refine w_if_ne (pc := 12) (tgt := 18) dX0_assign_12 (by decide) (fun c12 => ?_) (fun c12 => ?_)
    · refine w_aload_0 (pc := 18) dX0_assign_18 ?_
      refine w_getR (pc := 19) (b := p + 14) kc0 2 (sP_in hP (k := 11) (by decide)) (sP_s11 hP) rfl (sP_r11_2 hP) t143 dX0_assign_19 ?_
      refine w_iload_1 (pc := 22) dX0_assign_22 ?_
      refine w_iald (pc := 23) (j := k0) (sP_in hP (k := 14) (by decide)) (sP_s14 hP) hk0 (by omega) (by decide) dX0_assign_23 ?_
      refine w_istore_3 (pc := 24) dX0_assign_24 rfl ?_
      refine w_aload_0 (pc := 25) dX0_assign_25 ?_
      refine w_getR (pc := 26) (b := p + 14) kc0 2 (sP_in hP (k := 11) (by decide)) (sP_s11 hP) rfl (sP_r11_2 hP) t143 dX0_assign_26 ?_
      refine w_iload_1 (pc := 29) dX0_assign_29 ?_
      refine w_iload_2 (pc := 30) dX0_assign_30 ?_
      refine w_iast (pc := 31) (j := k0) (sP_in hP (k := 14) (by decide)) (sP_s14 hP) hk0 (by omega) (by decide) dX0_assign_31 ?_
      refine w_iload_3 (pc := 32) dX0_assign_32 ?_
      refine w_iret (pc := 33) rfl ⟨Nat.le_refl _, Nat.le_refl _⟩ dX0_assign_33 ?_
      have ho : oBook s x y = (s (145 + k0), some (upd s (145 + k0) y)) := by unfold oBook; rw [if_neg (fun h => h ⟨kdl (b1 c4), by rw [← ra.1]; exact b1 c12⟩), htk]
      refine ⟨_, rfl, rfl, ?_, ?_⟩
      · rw [ho]
        exact ra.2.2.2 k0 (by omega)
      · rw [ho]
        refine ⟨frP_kst (by omega), ?_⟩
        refine PR_only_a hRR hS (fun a h => kst_n (by omega)) (fun k h => upd_ne (by simp only [ia_] at h; omega)) ?_
        obtain ⟨n1, n2, n3, n4⟩ := ra
        have na : nAc (upd s (145 + k0) y) = nAc s := by rw [nAc, upd_ne (by omega), nAc]
        refine ⟨by rw [kst_n (by omega), n1, upd_ne (by omega)], fun a h1 h2 => ?_, fun a ha => ?_, fun κ hκ => ?_⟩
        · rw [na] at h2
          have := (SX_A hS).2.1
          rw [kst_n (by omega), upd_ne (by omega)]; exact n2 a h1 h2
        · rw [kst_n (by omega), n3 a ha, na, upd_ne (by omega)]
        · rw [kst_s]
          by_cases h : κ = k0
          · rw [h, upd_s, upd_s]
          · rw [upd_ne h, upd_ne (by omega)]; exact n4 κ hκ
    · refine w_ldc (pc := 15) (v := -1000001) t591 dX0_assign_15 ?_
      refine w_iret (pc := 17) rfl ⟨Nat.le_refl _, Nat.le_refl _⟩ dX0_assign_17 ?_
      have ho : oBook s x y = (-1000001, none) := by unfold oBook; rw [if_pos (fun h => b0 c12 (by rw [ra.1]; exact h.2))]
      exact ⟨_, rfl, rfl, by rw [ho], by rw [ho]; rfl⟩
set_option maxHeartbeats 4000000 in
set_option maxRecDepth 100000 in
theorem c_Plant_massOfAll {g : kG} {σ : kS} {I : kI} {p : Nat} {s : kV} (hP : sPlant g σ p) (hR : PR I p s) (hS : SX s)  : ct g mX2_massOfAll ⟨0, 0, 0, 0⟩ [.ref (p + 6)] σ I (qI (smB s (nB s)) σ I) := by
  refine ct_of pn2 rfl (Nat.le_of_ble_eq_true rfl) ok_X2_massOfAll.1 trivial ?_
  show wp _ _ _ _ _ _ _ _ 0 [some (.ref (p + 6)), none, none] []
  have hRR := hR
  obtain ⟨rh, rb, rn, rs, ra, rt, rp⟩ := hR
  refine w_iconst (pc := 0) (v := 0) dX2_massOfAll_0 (by decide) ?_
  refine w_istore_1 (pc := 1) dX2_massOfAll_1 rfl ?_
  refine w_iconst (pc := 2) (v := 0) dX2_massOfAll_2 (by decide) ?_
  refine w_istore_2 (pc := 3) dX2_massOfAll_3 rfl ?_
  have L0 : ∀ (n i : Nat) (y z : Int32), i ≤ 32 → 33 ≤ i + n → y = sm (I (p + 7)) 0 i → z = nI i → wp g mX2_massOfAll ⟨0, 0, 0, 0⟩ (fun _ => True) (qI (smB s (nB s)) σ I) (0, 0) σ I 4 [some (.ref (p + 6)), some (.int y), some (.int z)] [] := by
    intro n
    induction n with
    | zero => intro i y z h1 h2; exact absurd h2 (by omega)
    | succ n ih =>
      intro i y z h1 h2 hy hz
      refine w_iload_2 (pc := 4) dX2_massOfAll_4 ?_
      refine w_aload_0 (pc := 5) dX2_massOfAll_5 ?_
      refine w_getR (pc := 6) (b := p + 7) kc2 0 (sP_in hP (k := 6) (by decide)) (sP_s6 hP) rfl (sP_r6_0 hP) t85 dX2_massOfAll_6 ?_
      refine w_alen (pc := 9) (sP_in hP (k := 7) (by decide)) (sP_s7 hP) rfl dX2_massOfAll_9 ?_
      refine w_icmp_ge (pc := 10) (tgt := 28) dX2_massOfAll_10 (by decide) (fun c10 => ?_) (fun c10 => ?_)
      · have hi : 32 ≤ i := (nx_cmp (x := 32) (a := 32) rfl (by omega) hz (by omega)).1.mp c10
        refine w_iload_1 (pc := 28) dX2_massOfAll_28 ?_
        refine w_iret (pc := 29) rfl ⟨Nat.le_refl _, Nat.le_refl _⟩ dX2_massOfAll_29 ?_
        refine ⟨?_, rfl, rfl⟩
        rw [hy, show i = 4 * 8 by omega, all_eq rn (SX_B hS).1 8 (Nat.le_refl 8), Nat.min_eq_right (SX_B hS).1]
      · have hi : i < 32 := (nx_cmp hz (by omega) (y := 32) (b := 32) rfl (by omega)).2.1.mp (Int32.not_le.mp c10)
        refine w_iload_1 (pc := 13) dX2_massOfAll_13 ?_
        refine w_aload_0 (pc := 14) dX2_massOfAll_14 ?_
        refine w_getR (pc := 15) (b := p + 7) kc2 0 (sP_in hP (k := 6) (by decide)) (sP_s6 hP) rfl (sP_r6_0 hP) t85 dX2_massOfAll_15 ?_
        refine w_iload_2 (pc := 18) dX2_massOfAll_18 ?_
        refine w_iald (pc := 19) (j := i) (sP_in hP (k := 7) (by decide)) (sP_s7 hP) hz hi (by decide) dX2_massOfAll_19 ?_
        refine w_iadd (pc := 20) dX2_massOfAll_20 ?_
        refine w_istore_1 (pc := 21) dX2_massOfAll_21 rfl ?_
        refine w_iinc_2 (pc := 22) dX2_massOfAll_22 rfl rfl ?_
        refine w_goto (pc := 25) (tgt := 4) dX2_massOfAll_25 (by decide) ?_
        exact ih (i + 1) _ _ (by omega) (by omega) (by rw [sm_succ, Nat.zero_add, hy]) (by rw [hz]; exact nI_1 i)
  exact L0 33 0 _ _ (by omega) (by omega) rfl rfl

