set_option maxHeartbeats 4000000 in
set_option maxRecDepth 100000 in
theorem c_isKind {g : kG} {σ : kS} {I : kI} {x : Int32} : ct g mX10_isKind ⟨0, 0, 0, 0⟩ [.int x] σ I (qI (if 0 ≤ x ∧ x < 4 then 1 else 0) σ I) := by
  refine ct_of pn10 rfl (Nat.le_of_ble_eq_true rfl) ok_X10_isKind.1 trivial ?_
  show wp _ _ _ _ _ _ _ _ 0 [some (.int x)] []
  refine w_iload_0 (pc := 0) dX10_isKind_0 ?_
  refine w_if_lt (pc := 1) (tgt := 13) dX10_isKind_1 (by decide) (fun c1 => ?_) (fun c1 => ?_)
  · refine w_iconst (pc := 13) (v := 0) dX10_isKind_13 (by decide) ?_
    refine w_zret (pc := 14) rfl (by decide) ⟨Nat.le_refl _, Nat.le_refl _⟩ dX10_isKind_14 ?_
    refine ⟨?_, rfl, rfl⟩
    rw [if_neg (fun h => absurd h.1 (Int32.not_le.mpr c1))]
  · refine w_iload_0 (pc := 4) dX10_isKind_4 ?_
    refine w_iconst (pc := 5) (v := 4) dX10_isKind_5 (by decide) ?_
    refine w_icmp_ge (pc := 6) (tgt := 13) dX10_isKind_6 (by decide) (fun c6 => ?_) (fun c6 => ?_)
    · refine w_iconst (pc := 13) (v := 0) dX10_isKind_13 (by decide) ?_
      refine w_zret (pc := 14) rfl (by decide) ⟨Nat.le_refl _, Nat.le_refl _⟩ dX10_isKind_14 ?_
      refine ⟨?_, rfl, rfl⟩
      rw [if_neg (fun h => absurd c6 (Int32.not_le.mpr h.2))]
    · refine w_iconst (pc := 9) (v := 1) dX10_isKind_9 (by decide) ?_
      refine w_goto (pc := 10) (tgt := 14) dX10_isKind_10 (by decide) ?_
      refine w_zret (pc := 14) rfl (by decide) ⟨Nat.le_refl _, Nat.le_refl _⟩ dX10_isKind_14 ?_
      refine ⟨?_, rfl, rfl⟩
      rw [if_pos ⟨Int32.not_lt.mp c1, Int32.not_le.mp c6⟩]
set_option maxHeartbeats 4000000 in
set_option maxRecDepth 100000 in
theorem c_isError {g : kG} {σ : kS} {I : kI} {x : Int32} : ct g mX10_isError ⟨0, 0, 0, 0⟩ [.int x] σ I (qI (if -1000004 ≤ x ∧ x ≤ -1000001 then 1 else 0) σ I) := by
  refine ct_of pn10 rfl (Nat.le_of_ble_eq_true rfl) ok_X10_isError.1 trivial ?_
  show wp _ _ _ _ _ _ _ _ 0 [some (.int x)] []
  refine w_iload_0 (pc := 0) dX10_isError_0 ?_
  refine w_ldc (pc := 1) (v := -1000004) t332 dX10_isError_1 ?_
  refine w_icmp_lt (pc := 3) (tgt := 16) dX10_isError_3 (by decide) (fun c3 => ?_) (fun c3 => ?_)
  · refine w_iconst (pc := 16) (v := 0) dX10_isError_16 (by decide) ?_
    refine w_zret (pc := 17) rfl (by decide) ⟨Nat.le_refl _, Nat.le_refl _⟩ dX10_isError_17 ?_
    refine ⟨?_, rfl, rfl⟩
    rw [if_neg (fun h => absurd h.1 (Int32.not_le.mpr c3))]
  · refine w_iload_0 (pc := 6) dX10_isError_6 ?_
    refine w_ldc (pc := 7) (v := -1000001) t319 dX10_isError_7 ?_
    refine w_icmp_gt (pc := 9) (tgt := 16) dX10_isError_9 (by decide) (fun c9 => ?_) (fun c9 => ?_)
    · refine w_iconst (pc := 16) (v := 0) dX10_isError_16 (by decide) ?_
      refine w_zret (pc := 17) rfl (by decide) ⟨Nat.le_refl _, Nat.le_refl _⟩ dX10_isError_17 ?_
      refine ⟨?_, rfl, rfl⟩
      rw [if_neg (fun h => absurd h.2 (Int32.not_le.mpr c9))]
    · refine w_iconst (pc := 12) (v := 1) dX10_isError_12 (by decide) ?_
      refine w_goto (pc := 13) (tgt := 17) dX10_isError_13 (by decide) ?_
      refine w_zret (pc := 17) rfl (by decide) ⟨Nat.le_refl _, Nat.le_refl _⟩ dX10_isError_17 ?_
      refine ⟨?_, rfl, rfl⟩
      rw [if_pos ⟨Int32.not_lt.mp c3, Int32.not_lt.mp c9⟩]
set_option maxHeartbeats 4000000 in
set_option maxRecDepth 100000 in
theorem c_copyInto {g : kG} {σ : kS} {I : kI} {a b N : Nat} (ha : kB g ≤ a ∧ a < σ.1) (hs : σ.2.1 a = (100, N)) (hb : kB g ≤ b ∧ b < σ.1) (hs2 : σ.2.1 b = (100, N)) (hN : N < 2 ^ 31) : ct g mX10_copyInto ⟨1, 0, 0, 26⟩ [.ref a, .ref b] σ I (qV σ (va_up I a (va_cpy (I b) (I a) 0 0 N))) := by
  refine ct_of pn10 rfl (Nat.le_of_ble_eq_true rfl) ok_X10_copyInto.1 trivial ?_
  show wp _ _ _ _ _ _ _ _ 0 [some (.ref a), some (.ref b)] []
  refine w_aload_1 (pc := 0) dX10_copyInto_0 ?_
  refine w_iconst (pc := 1) (v := 0) dX10_copyInto_1 (by decide) ?_
  refine w_aload_0 (pc := 2) dX10_copyInto_2 ?_
  refine w_iconst (pc := 3) (v := 0) dX10_copyInto_3 (by decide) ?_
  refine w_aload_1 (pc := 4) dX10_copyInto_4 ?_
  refine w_alen (pc := 5) (v := nI N) hb hs2 rfl dX10_copyInto_5 ?_
  refine w_aload_0 (pc := 6) dX10_copyInto_6 ?_
  refine w_alen (pc := 7) (v := nI N) ha hs rfl dX10_copyInto_7 ?_
  refine w_mmin (pc := 8) t161 t162 t14 t163 ⟨⟨Nat.le_of_ble_eq_true rfl, Nat.le_of_ble_eq_true rfl⟩, Nat.le_refl _, Nat.le_refl _⟩ dX10_copyInto_8 ?_
  refine w_copy (pc := 11) (k := N) hb hs2 (Nat.le_refl N) hN ha hs (Nat.le_refl N) hN (by simp) t164 t166 t165 t15 ⟨Nat.le_of_ble_eq_true rfl, Nat.le_of_ble_eq_true rfl⟩ dX10_copyInto_11 ?_
  refine w_vret (pc := 14) rfl ⟨Nat.le_refl _, Nat.le_refl _⟩ dX10_copyInto_14 ?_
  exact ⟨rfl, rfl, rfl⟩
set_option maxHeartbeats 4000000 in
set_option maxRecDepth 100000 in
theorem c_copyIntoS {g : kG} {σ : kS} {I : kI} {a j : Nat} (hj : j < 3) (ha : kB g ≤ a ∧ a < σ.1) (hs : σ.2.1 a = (100, 3)) : ct g mX10_copyInto ⟨1, 0, 0, 26⟩ [.ref a, .ref (g.2.2.2.2.2 j)] σ I (qV σ (va_up I a (va_cpy (fun z => kSv j z) (I a) 0 0 3))) := by
  refine ct_of pn10 rfl (Nat.le_of_ble_eq_true rfl) ok_X10_copyInto.1 trivial ?_
  show wp _ _ _ _ _ _ _ _ 0 [some (.ref a), some (.ref (g.2.2.2.2.2 j))] []
  refine w_aload_1 (pc := 0) dX10_copyInto_0 ?_
  refine w_iconst (pc := 1) (v := 0) dX10_copyInto_1 (by decide) ?_
  refine w_aload_0 (pc := 2) dX10_copyInto_2 ?_
  refine w_iconst (pc := 3) (v := 0) dX10_copyInto_3 (by decide) ?_
  refine w_aload_1 (pc := 4) dX10_copyInto_4 ?_
  refine w_salen (pc := 5) (j := j) (v := 3) hj rfl dX10_copyInto_5 ?_
  refine w_aload_0 (pc := 6) dX10_copyInto_6 ?_
  refine w_alen (pc := 7) (v := nI 3) ha hs rfl dX10_copyInto_7 ?_
  refine w_mmin (pc := 8) t161 t162 t14 t163 ⟨⟨Nat.le_of_ble_eq_true rfl, Nat.le_of_ble_eq_true rfl⟩, Nat.le_refl _, Nat.le_refl _⟩ dX10_copyInto_8 ?_
  refine w_copyS (pc := 11) (k := 3) hj (Nat.le_refl 3) ha hs (Nat.le_refl 3) (by decide) (by decide) t164 t166 t165 t15 ⟨Nat.le_of_ble_eq_true rfl, Nat.le_of_ble_eq_true rfl⟩ dX10_copyInto_11 ?_
  refine w_vret (pc := 14) rfl ⟨Nat.le_refl _, Nat.le_refl _⟩ dX10_copyInto_14 ?_
  exact ⟨rfl, rfl, rfl⟩
set_option maxHeartbeats 4000000 in
set_option maxRecDepth 100000 in
theorem c_Hop_append {g : kG} {σ : kS} {I : kI} {h k m : Nat} (hO : sHop g σ h k m) {L : Nat} (hL : I h 2 = nI L) (hL2 : L < 6) {x y : Int32} : ct g mX5_append ⟨0, 0, 0, 0⟩ [.ref h, .int x, .int y] σ I (qV σ (kst (kst (kst (kst I k L x) m L y) h 2 (nI (L + 1))) h 3 (I h 3 + y))) := by
  refine ct_of pn5 rfl (Nat.le_of_ble_eq_true rfl) ok_X5_append.1 trivial ?_
  show wp _ _ _ _ _ _ _ _ 0 [some (.ref h), some (.int x), some (.int y)] []
  refine w_aload_0 (pc := 0) dX5_append_0 ?_
  refine w_getI (pc := 1) kc5 2 hO.1 hO.2.1 rfl t46 dX5_append_1 ?_
  refine w_bipush (pc := 4) (v := 6) dX5_append_4 (by decide) ?_
  refine w_icmp_ge (pc := 6) (tgt := 49) dX5_append_6 (by decide) (fun c6 => ?_) (fun c6 => ?_)
  · exact absurd ((nx_cmp (a := 6) (b := L) rfl (by decide) hL (by omega)).1.mp c6) (by omega)
  · have o1 := hO.2.2.2.2.2.2.2.2.1
    have o2 := hO.2.2.2.2.2.2.2.2.2
    refine w_aload_0 (pc := 9) dX5_append_9 ?_
    refine w_getR (pc := 10) (b := k) kc5 0 hO.1 hO.2.1 rfl hO.2.2.2.2.2.2.1 t40 dX5_append_10 ?_
    refine w_aload_0 (pc := 13) dX5_append_13 ?_
    refine w_getI (pc := 14) kc5 2 hO.1 hO.2.1 rfl t46 dX5_append_14 ?_
    refine w_iload_1 (pc := 17) dX5_append_17 ?_
    refine w_iast (pc := 18) (j := L) hO.2.2.1 hO.2.2.2.1 hL hL2 (by decide) dX5_append_18 ?_
    refine w_aload_0 (pc := 19) dX5_append_19 ?_
    refine w_getR (pc := 20) (b := m) kc5 1 hO.1 hO.2.1 rfl hO.2.2.2.2.2.2.2.1 t43 dX5_append_20 ?_
    refine w_aload_0 (pc := 23) dX5_append_23 ?_
    refine w_getI (pc := 24) kc5 2 hO.1 hO.2.1 rfl t46 dX5_append_24 ?_
    refine w_iload_2 (pc := 27) dX5_append_27 ?_
    refine w_iast (pc := 28) (j := L) hO.2.2.2.2.1 hO.2.2.2.2.2.1 (by rw [kst_n (by omega)]; exact hL) hL2 (by decide) dX5_append_28 ?_
    refine w_aload_0 (pc := 29) dX5_append_29 ?_
    refine w_dup_a (pc := 30) dX5_append_30 ?_
    refine w_getI (pc := 31) kc5 2 hO.1 hO.2.1 rfl t46 dX5_append_31 ?_
    refine w_iconst (pc := 34) (v := 1) dX5_append_34 (by decide) ?_
    refine w_iadd (pc := 35) dX5_append_35 ?_
    refine w_putI (pc := 36) kc5 2 hO.1 hO.2.1 rfl t46 rfl (tyX5_ok 2 (by decide)) rfl rfl dX5_append_36 ?_
    refine w_aload_0 (pc := 39) dX5_append_39 ?_
    refine w_dup_a (pc := 40) dX5_append_40 ?_
    refine w_getI (pc := 41) kc5 3 hO.1 hO.2.1 rfl t49 dX5_append_41 ?_
    refine w_iload_2 (pc := 44) dX5_append_44 ?_
    refine w_iadd (pc := 45) dX5_append_45 ?_
    refine w_putI (pc := 46) kc5 3 hO.1 hO.2.1 rfl t49 rfl (tyX5_ok 3 (by decide)) rfl rfl dX5_append_46 ?_
    refine w_vret (pc := 49) rfl ⟨Nat.le_refl _, Nat.le_refl _⟩ dX5_append_49 ?_
    refine ⟨rfl, rfl, ?_⟩
    rw [kst_n (I := kst I k L x) (a := m) (b := h) (by omega), kst_n (I := I) (a := k) (b := h) (by omega), hL, nI_1]
    congr 1
    rw [kst_s, kst_n (I := kst I k L x) (a := m) (b := h) (by omega), kst_n (I := I) (a := k) (b := h) (by omega)]
    rfl
set_option maxHeartbeats 4000000 in
set_option maxRecDepth 100000 in
theorem c_Hop_takeFromFirst {g : kG} {σ : kS} {I : kI} {h k m : Nat} (hO : sHop g σ h k m) {x : Int32} : ct g mX5_takeFromFirst ⟨0, 0, 0, 0⟩ [.ref h, .int x] σ I (qEV σ (fun I1 => (∀ b, b ≠ h → b ≠ k → b ≠ m → I1 b = I b) ∧ (¬ I m 0 - x = 0 → I1 = kst I m 0 (I m 0 - x)) ∧ (I m 0 - x = 0 → I1 h = upd (I h) 2 (I h 2 - 1) ∧ (∀ j, j < 5 → I1 k j = I k (j + 1)) ∧ (∀ j, j < 5 → I1 m j = I m (j + 1))))) := by
  refine ct_of pn5 rfl (Nat.le_of_ble_eq_true rfl) ok_X5_takeFromFirst.1 trivial ?_
  show wp _ _ _ _ _ _ _ _ 0 [some (.ref h), some (.int x), none] []
  refine w_aload_0 (pc := 0) dX5_takeFromFirst_0 ?_
  refine w_getR (pc := 1) (b := m) kc5 1 hO.1 hO.2.1 rfl hO.2.2.2.2.2.2.2.1 t43 dX5_takeFromFirst_1 ?_
  have o1 := hO.2.2.2.2.2.2.2.2.1
  have o2 := hO.2.2.2.2.2.2.2.2.2
  refine w_iconst (pc := 4) (v := 0) dX5_takeFromFirst_4 (by decide) ?_
  refine w_dup2 (pc := 5) dX5_takeFromFirst_5 ?_
  refine w_iald (pc := 6) (j := 0) hO.2.2.2.2.1 hO.2.2.2.2.2.1 rfl (by decide) (by decide) dX5_takeFromFirst_6 ?_
  refine w_iload_1 (pc := 7) dX5_takeFromFirst_7 ?_
  refine w_isub (pc := 8) dX5_takeFromFirst_8 ?_
  refine w_iast (pc := 9) (j := 0) hO.2.2.2.2.1 hO.2.2.2.2.2.1 rfl (by decide) (by decide) dX5_takeFromFirst_9 ?_
  refine w_aload_0 (pc := 10) dX5_takeFromFirst_10 ?_
  refine w_getR (pc := 11) (b := m) kc5 1 hO.1 hO.2.1 rfl hO.2.2.2.2.2.2.2.1 t43 dX5_takeFromFirst_11 ?_
  refine w_iconst (pc := 14) (v := 0) dX5_takeFromFirst_14 (by decide) ?_
  refine w_iald (pc := 15) (j := 0) hO.2.2.2.2.1 hO.2.2.2.2.2.1 rfl (by decide) (by decide) dX5_takeFromFirst_15 ?_
  refine w_if_ne (pc := 16) (tgt := 71) dX5_takeFromFirst_16 (by decide) (fun c16 => ?_) (fun c16 => ?_)
  · refine w_vret (pc := 71) rfl ⟨Nat.le_refl _, Nat.le_refl _⟩ dX5_takeFromFirst_71 ?_
    have c16 : ¬ I m 0 - x = 0 := by simpa [kst_s, upd] using c16
    exact ⟨rfl, rfl, fun b _ _ h3 => kst_n h3, fun _ => rfl, fun h => absurd h c16⟩
  · refine w_iconst (pc := 19) (v := 1) dX5_takeFromFirst_19 (by decide) ?_
    refine w_istore_2 (pc := 20) dX5_takeFromFirst_20 rfl ?_
    refine w_iload_2 (pc := 21) dX5_takeFromFirst_21 ?_
    refine w_bipush (pc := 22) (v := 6) dX5_takeFromFirst_22 (by decide) ?_
    refine w_icmp_ge (pc := 24) (tgt := 61) dX5_takeFromFirst_24 (by decide) (fun c9 => absurd c9 (by decide)) (fun _ => ?_)
    refine w_aload_0 (pc := 27) dX5_takeFromFirst_27 ?_
    refine w_getR (pc := 28) (b := k) kc5 0 hO.1 hO.2.1 rfl hO.2.2.2.2.2.2.1 t40 dX5_takeFromFirst_28 ?_
    refine w_iload_2 (pc := 31) dX5_takeFromFirst_31 ?_
    refine w_iconst (pc := 32) (v := 1) dX5_takeFromFirst_32 (by decide) ?_
    refine w_isub (pc := 33) dX5_takeFromFirst_33 ?_
    refine w_aload_0 (pc := 34) dX5_takeFromFirst_34 ?_
    refine w_getR (pc := 35) (b := k) kc5 0 hO.1 hO.2.1 rfl hO.2.2.2.2.2.2.1 t40 dX5_takeFromFirst_35 ?_
    refine w_iload_2 (pc := 38) dX5_takeFromFirst_38 ?_
    refine w_iald (pc := 39) (j := 1) hO.2.2.1 hO.2.2.2.1 rfl (by decide) (by decide) dX5_takeFromFirst_39 ?_
    refine w_iast (pc := 40) (j := 0) hO.2.2.1 hO.2.2.2.1 (by decide) (by decide) (by decide) dX5_takeFromFirst_40 ?_
    refine w_aload_0 (pc := 41) dX5_takeFromFirst_41 ?_
    refine w_getR (pc := 42) (b := m) kc5 1 hO.1 hO.2.1 rfl hO.2.2.2.2.2.2.2.1 t43 dX5_takeFromFirst_42 ?_
    refine w_iload_2 (pc := 45) dX5_takeFromFirst_45 ?_
    refine w_iconst (pc := 46) (v := 1) dX5_takeFromFirst_46 (by decide) ?_
    refine w_isub (pc := 47) dX5_takeFromFirst_47 ?_
    refine w_aload_0 (pc := 48) dX5_takeFromFirst_48 ?_
    refine w_getR (pc := 49) (b := m) kc5 1 hO.1 hO.2.1 rfl hO.2.2.2.2.2.2.2.1 t43 dX5_takeFromFirst_49 ?_
    refine w_iload_2 (pc := 52) dX5_takeFromFirst_52 ?_
    refine w_iald (pc := 53) (j := 1) hO.2.2.2.2.1 hO.2.2.2.2.2.1 rfl (by decide) (by decide) dX5_takeFromFirst_53 ?_
    refine w_iast (pc := 54) (j := 0) hO.2.2.2.2.1 hO.2.2.2.2.2.1 (by decide) (by decide) (by decide) dX5_takeFromFirst_54 ?_
    refine w_iinc_2 (pc := 55) (v := 2) dX5_takeFromFirst_55 (by decide) rfl ?_
    refine w_goto (pc := 58) (tgt := 21) dX5_takeFromFirst_58 (by decide) ?_
    refine w_iload_2 (pc := 21) dX5_takeFromFirst_21 ?_
    refine w_bipush (pc := 22) (v := 6) dX5_takeFromFirst_22 (by decide) ?_
    refine w_icmp_ge (pc := 24) (tgt := 61) dX5_takeFromFirst_24 (by decide) (fun c9 => absurd c9 (by decide)) (fun _ => ?_)
    refine w_aload_0 (pc := 27) dX5_takeFromFirst_27 ?_
    refine w_getR (pc := 28) (b := k) kc5 0 hO.1 hO.2.1 rfl hO.2.2.2.2.2.2.1 t40 dX5_takeFromFirst_28 ?_
    refine w_iload_2 (pc := 31) dX5_takeFromFirst_31 ?_
    refine w_iconst (pc := 32) (v := 1) dX5_takeFromFirst_32 (by decide) ?_
    refine w_isub (pc := 33) dX5_takeFromFirst_33 ?_
    refine w_aload_0 (pc := 34) dX5_takeFromFirst_34 ?_
    refine w_getR (pc := 35) (b := k) kc5 0 hO.1 hO.2.1 rfl hO.2.2.2.2.2.2.1 t40 dX5_takeFromFirst_35 ?_
    refine w_iload_2 (pc := 38) dX5_takeFromFirst_38 ?_
    refine w_iald (pc := 39) (j := 2) hO.2.2.1 hO.2.2.2.1 rfl (by decide) (by decide) dX5_takeFromFirst_39 ?_
    refine w_iast (pc := 40) (j := 1) hO.2.2.1 hO.2.2.2.1 (by decide) (by decide) (by decide) dX5_takeFromFirst_40 ?_
    refine w_aload_0 (pc := 41) dX5_takeFromFirst_41 ?_
    refine w_getR (pc := 42) (b := m) kc5 1 hO.1 hO.2.1 rfl hO.2.2.2.2.2.2.2.1 t43 dX5_takeFromFirst_42 ?_
    refine w_iload_2 (pc := 45) dX5_takeFromFirst_45 ?_
    refine w_iconst (pc := 46) (v := 1) dX5_takeFromFirst_46 (by decide) ?_
    refine w_isub (pc := 47) dX5_takeFromFirst_47 ?_
    refine w_aload_0 (pc := 48) dX5_takeFromFirst_48 ?_
    refine w_getR (pc := 49) (b := m) kc5 1 hO.1 hO.2.1 rfl hO.2.2.2.2.2.2.2.1 t43 dX5_takeFromFirst_49 ?_
    refine w_iload_2 (pc := 52) dX5_takeFromFirst_52 ?_
    refine w_iald (pc := 53) (j := 2) hO.2.2.2.2.1 hO.2.2.2.2.2.1 rfl (by decide) (by decide) dX5_takeFromFirst_53 ?_
    refine w_iast (pc := 54) (j := 1) hO.2.2.2.2.1 hO.2.2.2.2.2.1 (by decide) (by decide) (by decide) dX5_takeFromFirst_54 ?_
    refine w_iinc_2 (pc := 55) (v := 3) dX5_takeFromFirst_55 (by decide) rfl ?_
    refine w_goto (pc := 58) (tgt := 21) dX5_takeFromFirst_58 (by decide) ?_
    refine w_iload_2 (pc := 21) dX5_takeFromFirst_21 ?_
    refine w_bipush (pc := 22) (v := 6) dX5_takeFromFirst_22 (by decide) ?_
    refine w_icmp_ge (pc := 24) (tgt := 61) dX5_takeFromFirst_24 (by decide) (fun c9 => absurd c9 (by decide)) (fun _ => ?_)
    refine w_aload_0 (pc := 27) dX5_takeFromFirst_27 ?_
    refine w_getR (pc := 28) (b := k) kc5 0 hO.1 hO.2.1 rfl hO.2.2.2.2.2.2.1 t40 dX5_takeFromFirst_28 ?_
    refine w_iload_2 (pc := 31) dX5_takeFromFirst_31 ?_
    refine w_iconst (pc := 32) (v := 1) dX5_takeFromFirst_32 (by decide) ?_
    refine w_isub (pc := 33) dX5_takeFromFirst_33 ?_
    refine w_aload_0 (pc := 34) dX5_takeFromFirst_34 ?_
    refine w_getR (pc := 35) (b := k) kc5 0 hO.1 hO.2.1 rfl hO.2.2.2.2.2.2.1 t40 dX5_takeFromFirst_35 ?_
    refine w_iload_2 (pc := 38) dX5_takeFromFirst_38 ?_
    refine w_iald (pc := 39) (j := 3) hO.2.2.1 hO.2.2.2.1 rfl (by decide) (by decide) dX5_takeFromFirst_39 ?_
    refine w_iast (pc := 40) (j := 2) hO.2.2.1 hO.2.2.2.1 (by decide) (by decide) (by decide) dX5_takeFromFirst_40 ?_
    refine w_aload_0 (pc := 41) dX5_takeFromFirst_41 ?_
    refine w_getR (pc := 42) (b := m) kc5 1 hO.1 hO.2.1 rfl hO.2.2.2.2.2.2.2.1 t43 dX5_takeFromFirst_42 ?_
    refine w_iload_2 (pc := 45) dX5_takeFromFirst_45 ?_
    refine w_iconst (pc := 46) (v := 1) dX5_takeFromFirst_46 (by decide) ?_
    refine w_isub (pc := 47) dX5_takeFromFirst_47 ?_
    refine w_aload_0 (pc := 48) dX5_takeFromFirst_48 ?_
    refine w_getR (pc := 49) (b := m) kc5 1 hO.1 hO.2.1 rfl hO.2.2.2.2.2.2.2.1 t43 dX5_takeFromFirst_49 ?_
    refine w_iload_2 (pc := 52) dX5_takeFromFirst_52 ?_
    refine w_iald (pc := 53) (j := 3) hO.2.2.2.2.1 hO.2.2.2.2.2.1 rfl (by decide) (by decide) dX5_takeFromFirst_53 ?_
    refine w_iast (pc := 54) (j := 2) hO.2.2.2.2.1 hO.2.2.2.2.2.1 (by decide) (by decide) (by decide) dX5_takeFromFirst_54 ?_
    refine w_iinc_2 (pc := 55) (v := 4) dX5_takeFromFirst_55 (by decide) rfl ?_
    refine w_goto (pc := 58) (tgt := 21) dX5_takeFromFirst_58 (by decide) ?_
    refine w_iload_2 (pc := 21) dX5_takeFromFirst_21 ?_
    refine w_bipush (pc := 22) (v := 6) dX5_takeFromFirst_22 (by decide) ?_
    refine w_icmp_ge (pc := 24) (tgt := 61) dX5_takeFromFirst_24 (by decide) (fun c9 => absurd c9 (by decide)) (fun _ => ?_)
    refine w_aload_0 (pc := 27) dX5_takeFromFirst_27 ?_
    refine w_getR (pc := 28) (b := k) kc5 0 hO.1 hO.2.1 rfl hO.2.2.2.2.2.2.1 t40 dX5_takeFromFirst_28 ?_
    refine w_iload_2 (pc := 31) dX5_takeFromFirst_31 ?_
    refine w_iconst (pc := 32) (v := 1) dX5_takeFromFirst_32 (by decide) ?_
    refine w_isub (pc := 33) dX5_takeFromFirst_33 ?_
    refine w_aload_0 (pc := 34) dX5_takeFromFirst_34 ?_
    refine w_getR (pc := 35) (b := k) kc5 0 hO.1 hO.2.1 rfl hO.2.2.2.2.2.2.1 t40 dX5_takeFromFirst_35 ?_
    refine w_iload_2 (pc := 38) dX5_takeFromFirst_38 ?_
    refine w_iald (pc := 39) (j := 4) hO.2.2.1 hO.2.2.2.1 rfl (by decide) (by decide) dX5_takeFromFirst_39 ?_
    refine w_iast (pc := 40) (j := 3) hO.2.2.1 hO.2.2.2.1 (by decide) (by decide) (by decide) dX5_takeFromFirst_40 ?_
    refine w_aload_0 (pc := 41) dX5_takeFromFirst_41 ?_
    refine w_getR (pc := 42) (b := m) kc5 1 hO.1 hO.2.1 rfl hO.2.2.2.2.2.2.2.1 t43 dX5_takeFromFirst_42 ?_
    refine w_iload_2 (pc := 45) dX5_takeFromFirst_45 ?_
    refine w_iconst (pc := 46) (v := 1) dX5_takeFromFirst_46 (by decide) ?_
    refine w_isub (pc := 47) dX5_takeFromFirst_47 ?_
    refine w_aload_0 (pc := 48) dX5_takeFromFirst_48 ?_
    refine w_getR (pc := 49) (b := m) kc5 1 hO.1 hO.2.1 rfl hO.2.2.2.2.2.2.2.1 t43 dX5_takeFromFirst_49 ?_
    refine w_iload_2 (pc := 52) dX5_takeFromFirst_52 ?_
    refine w_iald (pc := 53) (j := 4) hO.2.2.2.2.1 hO.2.2.2.2.2.1 rfl (by decide) (by decide) dX5_takeFromFirst_53 ?_
    refine w_iast (pc := 54) (j := 3) hO.2.2.2.2.1 hO.2.2.2.2.2.1 (by decide) (by decide) (by decide) dX5_takeFromFirst_54 ?_
    refine w_iinc_2 (pc := 55) (v := 5) dX5_takeFromFirst_55 (by decide) rfl ?_
    refine w_goto (pc := 58) (tgt := 21) dX5_takeFromFirst_58 (by decide) ?_
    refine w_iload_2 (pc := 21) dX5_takeFromFirst_21 ?_
    refine w_bipush (pc := 22) (v := 6) dX5_takeFromFirst_22 (by decide) ?_
    refine w_icmp_ge (pc := 24) (tgt := 61) dX5_takeFromFirst_24 (by decide) (fun c9 => absurd c9 (by decide)) (fun _ => ?_)
    refine w_aload_0 (pc := 27) dX5_takeFromFirst_27 ?_
    refine w_getR (pc := 28) (b := k) kc5 0 hO.1 hO.2.1 rfl hO.2.2.2.2.2.2.1 t40 dX5_takeFromFirst_28 ?_
    refine w_iload_2 (pc := 31) dX5_takeFromFirst_31 ?_
    refine w_iconst (pc := 32) (v := 1) dX5_takeFromFirst_32 (by decide) ?_
    refine w_isub (pc := 33) dX5_takeFromFirst_33 ?_
    refine w_aload_0 (pc := 34) dX5_takeFromFirst_34 ?_
    refine w_getR (pc := 35) (b := k) kc5 0 hO.1 hO.2.1 rfl hO.2.2.2.2.2.2.1 t40 dX5_takeFromFirst_35 ?_
    refine w_iload_2 (pc := 38) dX5_takeFromFirst_38 ?_
    refine w_iald (pc := 39) (j := 5) hO.2.2.1 hO.2.2.2.1 rfl (by decide) (by decide) dX5_takeFromFirst_39 ?_
    refine w_iast (pc := 40) (j := 4) hO.2.2.1 hO.2.2.2.1 (by decide) (by decide) (by decide) dX5_takeFromFirst_40 ?_
    refine w_aload_0 (pc := 41) dX5_takeFromFirst_41 ?_
    refine w_getR (pc := 42) (b := m) kc5 1 hO.1 hO.2.1 rfl hO.2.2.2.2.2.2.2.1 t43 dX5_takeFromFirst_42 ?_
    refine w_iload_2 (pc := 45) dX5_takeFromFirst_45 ?_
    refine w_iconst (pc := 46) (v := 1) dX5_takeFromFirst_46 (by decide) ?_
    refine w_isub (pc := 47) dX5_takeFromFirst_47 ?_
    refine w_aload_0 (pc := 48) dX5_takeFromFirst_48 ?_
    refine w_getR (pc := 49) (b := m) kc5 1 hO.1 hO.2.1 rfl hO.2.2.2.2.2.2.2.1 t43 dX5_takeFromFirst_49 ?_
    refine w_iload_2 (pc := 52) dX5_takeFromFirst_52 ?_
    refine w_iald (pc := 53) (j := 5) hO.2.2.2.2.1 hO.2.2.2.2.2.1 rfl (by decide) (by decide) dX5_takeFromFirst_53 ?_
    refine w_iast (pc := 54) (j := 4) hO.2.2.2.2.1 hO.2.2.2.2.2.1 (by decide) (by decide) (by decide) dX5_takeFromFirst_54 ?_
    refine w_iinc_2 (pc := 55) (v := 6) dX5_takeFromFirst_55 (by decide) rfl ?_
    refine w_goto (pc := 58) (tgt := 21) dX5_takeFromFirst_58 (by decide) ?_
    refine w_iload_2 (pc := 21) dX5_takeFromFirst_21 ?_
    refine w_bipush (pc := 22) (v := 6) dX5_takeFromFirst_22 (by decide) ?_
    refine w_icmp_ge (pc := 24) (tgt := 61) dX5_takeFromFirst_24 (by decide) (fun _ => ?_) (fun c9 => absurd (by decide) c9)
    refine w_aload_0 (pc := 61) dX5_takeFromFirst_61 ?_
    refine w_dup_a (pc := 62) dX5_takeFromFirst_62 ?_
    refine w_getI (pc := 63) kc5 2 hO.1 hO.2.1 rfl t46 dX5_takeFromFirst_63 ?_
    refine w_iconst (pc := 66) (v := 1) dX5_takeFromFirst_66 (by decide) ?_
    refine w_isub (pc := 67) dX5_takeFromFirst_67 ?_
    refine w_putI (pc := 68) kc5 2 hO.1 hO.2.1 rfl t46 rfl (tyX5_ok 2 (by decide)) rfl rfl dX5_takeFromFirst_68 ?_
    refine w_vret (pc := 71) rfl ⟨Nat.le_refl _, Nat.le_refl _⟩ dX5_takeFromFirst_71 ?_
    have c16 : I m 0 - x = 0 := by simpa [kst_s, upd] using c16
    have e1 : h ≠ k := by omega
    have e2 : h ≠ m := by omega
    have e3 : k ≠ m := by omega
    refine ⟨rfl, rfl, fun b h1 h2 h3 => ?_, fun h => absurd c16 h, fun _ => ⟨?_, fun j hj => ?_, fun j hj => ?_⟩⟩
    · simp [kst, va_up, h1, h2, h3]
    · simp [kst, va_up, e1, e2, upd]
    · rcases (show j = 0 ∨ j = 1 ∨ j = 2 ∨ j = 3 ∨ j = 4 by omega) with rfl | rfl | rfl | rfl | rfl <;> simp [kst, va_up, e1.symm, e3, e3.symm, upd]
    · rcases (show j = 0 ∨ j = 1 ∨ j = 2 ∨ j = 3 ∨ j = 4 by omega) with rfl | rfl | rfl | rfl | rfl <;> simp [kst, va_up, e2.symm, e3.symm, e3, upd]
set_option maxHeartbeats 4000000 in
set_option maxRecDepth 100000 in
theorem c_Hop_massInside {g : kG} {σ : kS} {I : kI} {h k m : Nat} (hO : sHop g σ h k m) {L : Nat} (hL : I h 2 = nI L) (hL2 : L ≤ 6) : ct g mX5_massInside ⟨0, 0, 0, 0⟩ [.ref h] σ I (qI (sm (I m) 0 L) σ I) := by
  refine ct_of pn5 rfl (Nat.le_of_ble_eq_true rfl) ok_X5_massInside.1 trivial ?_
  show wp _ _ _ _ _ _ _ _ 0 [some (.ref h), none, none] []
  refine w_iconst (pc := 0) (v := 0) dX5_massInside_0 (by decide) ?_
  refine w_istore_1 (pc := 1) dX5_massInside_1 rfl ?_
  refine w_iconst (pc := 2) (v := 0) dX5_massInside_2 (by decide) ?_
  refine w_istore_2 (pc := 3) dX5_massInside_3 rfl ?_
  have L0 : ∀ (n i : Nat) (x y : Int32), i ≤ L → L + 1 ≤ i + n → x = sm (I m) 0 i → y = nI i → wp g mX5_massInside ⟨0, 0, 0, 0⟩ (fun _ => True) (qI (sm (I m) 0 L) σ I) (0, 0) σ I 4 [some (.ref h), some (.int x), some (.int y)] [] := by
    intro n
    induction n with
    | zero => intro i x y h1 h2; exact absurd h2 (by omega)
    | succ n ih =>
      intro i x y h1 h2 hx hy
      refine w_iload_2 (pc := 4) dX5_massInside_4 ?_
      refine w_aload_0 (pc := 5) dX5_massInside_5 ?_
      refine w_getI (pc := 6) kc5 2 hO.1 hO.2.1 rfl t46 dX5_massInside_6 ?_
      refine w_icmp_ge (pc := 9) (tgt := 33) dX5_massInside_9 (by decide) (fun c9 => ?_) (fun c9 => ?_)
      · refine w_iload_1 (pc := 33) dX5_massInside_33 ?_
        refine w_iret (pc := 34) rfl ⟨Nat.le_refl _, Nat.le_refl _⟩ dX5_massInside_34 ?_
        have : L ≤ i := (nx_cmp hL (by omega) hy (by omega)).1.mp c9
        rw [show i = L by omega] at hx
        exact ⟨by rw [hx], rfl, rfl⟩
      · have hi : i < L := nx_nle c9 hL (by omega) hy (by omega)
        refine w_iload_2 (pc := 12) dX5_massInside_12 ?_
        refine w_bipush (pc := 13) (v := 6) dX5_massInside_13 (by decide) ?_
        refine w_icmp_ge (pc := 15) (tgt := 33) dX5_massInside_15 (by decide) (fun c15 => ?_) (fun c15 => ?_)
        · exact absurd ((nx_cmp (a := 6) rfl (by decide) hy (by omega)).1.mp c15) (by omega)
        · refine w_iload_1 (pc := 18) dX5_massInside_18 ?_
          refine w_aload_0 (pc := 19) dX5_massInside_19 ?_
          refine w_getR (pc := 20) (b := m) kc5 1 hO.1 hO.2.1 rfl hO.2.2.2.2.2.2.2.1 t43 dX5_massInside_20 ?_
          refine w_iload_2 (pc := 23) dX5_massInside_23 ?_
          refine w_iald (pc := 24) (j := i) hO.2.2.2.2.1 hO.2.2.2.2.2.1 hy (by omega) (by decide) dX5_massInside_24 ?_
          refine w_iadd (pc := 25) dX5_massInside_25 ?_
          refine w_istore_1 (pc := 26) dX5_massInside_26 rfl ?_
          refine w_iinc_2 (pc := 27) dX5_massInside_27 rfl rfl ?_
          refine w_goto (pc := 30) (tgt := 4) dX5_massInside_30 (by decide) ?_
          exact ih (i + 1) _ _ (by omega) (by omega) (by rw [sm_succ, Nat.zero_add, hx]) (by rw [hy]; exact nI_1 i)
  exact L0 (L + 1) 0 _ _ (Nat.zero_le _) (by omega) rfl rfl
set_option maxHeartbeats 4000000 in
set_option maxRecDepth 100000 in
theorem c_Scale_reading {g : kG} {σ : kS} {I : kI} {s : Nat} (hO : sScale g σ s) {x : Int32} : ct g mX8_reading ⟨0, 0, 0, 0⟩ [.ref s, .int x] σ I (qI (x + I s 0 - I s 1) σ I) := by
  refine ct_of pn8 rfl (Nat.le_of_ble_eq_true rfl) ok_X8_reading.1 trivial ?_
  show wp _ _ _ _ _ _ _ _ 0 [some (.ref s), some (.int x)] []
  refine w_iload_1 (pc := 0) dX8_reading_0 ?_
  refine w_aload_0 (pc := 1) dX8_reading_1 ?_
  refine w_getI (pc := 2) kc8 0 hO.1 hO.2 rfl t110 dX8_reading_2 ?_
  refine w_iadd (pc := 5) dX8_reading_5 ?_
  refine w_aload_0 (pc := 6) dX8_reading_6 ?_
  refine w_getI (pc := 7) kc8 1 hO.1 hO.2 rfl t113 dX8_reading_7 ?_
  refine w_isub (pc := 10) dX8_reading_10 ?_
  refine w_iret (pc := 11) rfl ⟨Nat.le_refl _, Nat.le_refl _⟩ dX8_reading_11 ?_
  exact ⟨rfl, rfl, rfl⟩
set_option maxHeartbeats 4000000 in
set_option maxRecDepth 100000 in
theorem c_Scale_weigh {g : kG} {σ : kS} {I : kI} {s : Nat} (hO : sScale g σ s) {x : Int32} : ct g mX8_weigh ⟨1, 0, 0, 21⟩ [.ref s, .int x] σ I (qI ((x + I s 0 - I s 1 + I s 3) / 4) σ (kst (kst I s 3 (x + I s 0 - I s 1 + I s 3 - (x + I s 0 - I s 1 + I s 3) / 4 * 4)) s 2 (I s 2 + (x + I s 0 - I s 1 + I s 3) / 4))) := by
  refine ct_of pn8 rfl (Nat.le_of_ble_eq_true rfl) ok_X8_weigh.1 trivial ?_
  show wp _ _ _ _ _ _ _ _ 0 [some (.ref s), some (.int x), none, none] []
  refine w_aload_0 (pc := 0) dX8_weigh_0 ?_
  refine w_iload_1 (pc := 1) dX8_weigh_1 ?_
  refine w_callV_I (pc := 2) (c_Scale_reading hO) ok_X8_reading t476 t477 kc8 hO.1 hO.2 t475 ⟨Nat.le_of_ble_eq_true rfl, Nat.le_of_ble_eq_true rfl⟩ ⟨rfl, rfl⟩ ⟨Nat.le_refl _, Nat.le_refl _⟩ rfl (Nat.le_of_ble_eq_true rfl) dX8_weigh_2 ?_
  refine w_aload_0 (pc := 5) dX8_weigh_5 ?_
  refine w_getI (pc := 6) kc8 3 hO.1 hO.2 rfl t118 dX8_weigh_6 ?_
  refine w_iadd (pc := 9) dX8_weigh_9 ?_
  refine w_istore_2 (pc := 10) dX8_weigh_10 rfl ?_
  refine w_iload_2 (pc := 11) dX8_weigh_11 ?_
  refine w_iconst (pc := 12) (v := 4) dX8_weigh_12 (by decide) ?_
  refine w_idiv (pc := 13) dX8_weigh_13 (by decide) ?_
  refine w_istore_3 (pc := 14) dX8_weigh_14 rfl ?_
  refine w_aload_0 (pc := 15) dX8_weigh_15 ?_
  refine w_iload_2 (pc := 16) dX8_weigh_16 ?_
  refine w_iconst (pc := 17) (v := 4) dX8_weigh_17 (by decide) ?_
  refine w_irem (pc := 18) dX8_weigh_18 (by decide) ?_
  refine w_putI (pc := 19) kc8 3 hO.1 hO.2 rfl t118 rfl (tyX8_ok 3 (by decide)) rfl rfl dX8_weigh_19 ?_
  refine w_aload_0 (pc := 22) dX8_weigh_22 ?_
  refine w_dup_a (pc := 23) dX8_weigh_23 ?_
  refine w_getI (pc := 24) kc8 2 hO.1 hO.2 rfl t116 dX8_weigh_24 ?_
  refine w_iload_3 (pc := 27) dX8_weigh_27 ?_
  refine w_iadd (pc := 28) dX8_weigh_28 ?_
  refine w_putI (pc := 29) kc8 2 hO.1 hO.2 rfl t116 rfl (tyX8_ok 2 (by decide)) rfl rfl dX8_weigh_29 ?_
  refine w_iload_3 (pc := 32) dX8_weigh_32 ?_
  refine w_iret (pc := 33) rfl ⟨Nat.le_refl _, Nat.le_refl _⟩ dX8_weigh_33 ?_
  exact ⟨rfl, rfl, by simp only [kst_s, upd]; rfl⟩
set_option maxHeartbeats 4000000 in
set_option maxRecDepth 100000 in
theorem c_Scale_toldTotal {g : kG} {σ : kS} {I : kI} {s : Nat} (hO : sScale g σ s)  : ct g mX8_toldTotal ⟨0, 0, 0, 0⟩ [.ref s] σ I (qI ((((I s 2).toInt64 * (I s 4).toInt64) / 1000).toInt32) σ I) := by
  refine ct_of pn8 rfl (Nat.le_of_ble_eq_true rfl) ok_X8_toldTotal.1 trivial ?_
  show wp _ _ _ _ _ _ _ _ 0 [some (.ref s)] []
  refine w_aload_0 (pc := 0) dX8_toldTotal_0 ?_
  refine w_getI (pc := 1) kc8 2 hO.1 hO.2 rfl t116 dX8_toldTotal_1 ?_
  refine w_i2l (pc := 4) dX8_toldTotal_4 ?_
  refine w_aload_0 (pc := 5) dX8_toldTotal_5 ?_
  refine w_getI (pc := 6) kc8 4 hO.1 hO.2 rfl t119 dX8_toldTotal_6 ?_
  refine w_i2l (pc := 9) dX8_toldTotal_9 ?_
  refine w_lmul (pc := 10) dX8_toldTotal_10 ?_
  refine w_ldc2 (pc := 11) (v := 1000) t661 dX8_toldTotal_11 ?_
  refine w_ldiv (pc := 14) dX8_toldTotal_14 (by decide) ?_
  refine w_l2i (pc := 15) dX8_toldTotal_15 ?_
  refine w_iret (pc := 16) rfl ⟨Nat.le_refl _, Nat.le_refl _⟩ dX8_toldTotal_16 ?_
  exact ⟨rfl, rfl, rfl⟩
set_option maxHeartbeats 4000000 in
set_option maxRecDepth 100000 in
theorem c_Acc_has {g : kG} {σ : kS} {I : kI} {a w o s : Nat} (hO : sAcc g σ a w o s) {x : Int32} : ct g mX0_has ⟨0, 0, 0, 0⟩ [.ref a, .int x] σ I (qI (if 0 ≤ x ∧ x < I a 3 then 1 else 0) σ I) := by
  refine ct_of pn0 rfl (Nat.le_of_ble_eq_true rfl) ok_X0_has.1 trivial ?_
  show wp _ _ _ _ _ _ _ _ 0 [some (.ref a), some (.int x)] []
  refine w_iload_1 (pc := 0) dX0_has_0 ?_
  refine w_if_lt (pc := 1) (tgt := 16) dX0_has_1 (by decide) (fun c1 => ?_) (fun c1 => ?_)
  · refine w_iconst (pc := 16) (v := 0) dX0_has_16 (by decide) ?_
    refine w_zret (pc := 17) rfl (by decide) ⟨Nat.le_refl _, Nat.le_refl _⟩ dX0_has_17 ?_
    refine ⟨?_, rfl, rfl⟩
    rw [if_neg (fun h => absurd h.1 (Int32.not_le.mpr c1))]
  · refine w_iload_1 (pc := 4) dX0_has_4 ?_
    refine w_aload_0 (pc := 5) dX0_has_5 ?_
    refine w_getI (pc := 6) kc0 3 hO.1 hO.2.1 rfl t145 dX0_has_6 ?_
    refine w_icmp_ge (pc := 9) (tgt := 16) dX0_has_9 (by decide) (fun c9 => ?_) (fun c9 => ?_)
    · refine w_iconst (pc := 16) (v := 0) dX0_has_16 (by decide) ?_
      refine w_zret (pc := 17) rfl (by decide) ⟨Nat.le_refl _, Nat.le_refl _⟩ dX0_has_17 ?_
      refine ⟨?_, rfl, rfl⟩
      rw [if_neg (fun h => absurd c9 (Int32.not_le.mpr h.2))]
    · refine w_iconst (pc := 12) (v := 1) dX0_has_12 (by decide) ?_
      refine w_goto (pc := 13) (tgt := 17) dX0_has_13 (by decide) ?_
      refine w_zret (pc := 17) rfl (by decide) ⟨Nat.le_refl _, Nat.le_refl _⟩ dX0_has_17 ?_
      refine ⟨?_, rfl, rfl⟩
      rw [if_pos ⟨Int32.not_lt.mp c1, Int32.not_le.mp c9⟩]
set_option maxHeartbeats 4000000 in
set_option maxRecDepth 100000 in
theorem c_Acc_enter {g : kG} {σ : kS} {I : kI} {a w o s : Nat} (hO : sAcc g σ a w o s) {x y : Int32} {κ v : Nat} (hx : x = nI κ) (hx2 : κ < 4) (hv : I s κ = nI v) (hv2 : v < 8) : ct g mX0_enter ⟨0, 0, 0, 0⟩ [.ref a, .int x, .int y] σ I (qV σ (kst I o v (I o v + y))) := by
  refine ct_of pn0 rfl (Nat.le_of_ble_eq_true rfl) ok_X0_enter.1 trivial ?_
  show wp _ _ _ _ _ _ _ _ 0 [some (.ref a), some (.int x), some (.int y)] []
  refine w_aload_0 (pc := 0) dX0_enter_0 ?_
  refine w_getR (pc := 1) (b := o) kc0 1 hO.1 hO.2.1 rfl hO.2.2.2.2.2.2.2.2.2.1 t141 dX0_enter_1 ?_
  refine w_aload_0 (pc := 4) dX0_enter_4 ?_
  refine w_getR (pc := 5) (b := s) kc0 2 hO.1 hO.2.1 rfl hO.2.2.2.2.2.2.2.2.2.2.1 t143 dX0_enter_5 ?_
  refine w_iload_1 (pc := 8) dX0_enter_8 ?_
  refine w_iald (pc := 9) (j := κ) hO.2.2.2.2.2.2.1 hO.2.2.2.2.2.2.2.1 hx hx2 (by decide) dX0_enter_9 ?_
  refine w_dup2 (pc := 10) dX0_enter_10 ?_
  refine w_iald (pc := 11) (j := v) hO.2.2.2.2.1 hO.2.2.2.2.2.1 hv hv2 (by decide) dX0_enter_11 ?_
  refine w_iload_2 (pc := 12) dX0_enter_12 ?_
  refine w_iadd (pc := 13) dX0_enter_13 ?_
  refine w_iast (pc := 14) (j := v) hO.2.2.2.2.1 hO.2.2.2.2.2.1 hv hv2 (by decide) dX0_enter_14 ?_
  refine w_vret (pc := 15) rfl ⟨Nat.le_refl _, Nat.le_refl _⟩ dX0_enter_15 ?_
  exact ⟨rfl, rfl, rfl⟩
set_option maxHeartbeats 4000000 in
set_option maxRecDepth 100000 in
theorem c_Acc_isUnder {g : kG} {σ : kS} {I : kI} {a w o s : Nat} (hO : sAcc g σ a w o s) {M : Nat} (hM : I a 3 = nI M) (hM2 : M ≤ 8) (hT : kTree (I w) M) {x y : Int32} {t u : Nat} (hx : x = nI t) (ht : t < M) (hy : y = nI u) (hu : u < M) : ct g mX0_isUnder ⟨0, 0, 0, 0⟩ [.ref a, .int x, .int y] σ I (qI (if kUp (I w) u 8 t = u ∧ t ≠ u then 1 else 0) σ I) := by
  refine ct_of pn0 rfl (Nat.le_of_ble_eq_true rfl) ok_X0_isUnder.1 trivial ?_
  show wp _ _ _ _ _ _ _ _ 0 [some (.ref a), some (.int x), some (.int y), none, none] []
  refine w_iload_1 (pc := 0) dX0_isUnder_0 ?_
  refine w_istore_3 (pc := 1) dX0_isUnder_1 rfl ?_
  refine w_iconst (pc := 2) (v := 0) dX0_isUnder_2 (by decide) ?_
  refine w_istore_4 (pc := 3) dX0_isUnder_3 rfl ?_
  have L0 : ∀ (n i t' : Nat) (z i' : Int32), i + n = 9 → t' + i ≤ t → z = nI t' → i' = nI i → kUp (I w) u (8 - i) t' = kUp (I w) u 8 t → wp g mX0_isUnder ⟨0, 0, 0, 0⟩ (fun _ => True) (qI (if kUp (I w) u 8 t = u ∧ t ≠ u then 1 else 0) σ I) (0, 0) σ I 5 [some (.ref a), some (.int x), some (.int y), some (.int z), some (.int i')] [] := by
    intro n
    induction n with
    | zero => intro i t' z i' h1 h2; exact absurd h2 (by omega)
    | succ n ih =>
      intro i t' z i' h1 h2 hz hi hk
      refine w_iload_4 (pc := 5) dX0_isUnder_5 ?_
      refine w_bipush (pc := 7) (v := 8) dX0_isUnder_7 (by decide) ?_
      refine w_icmp_ge (pc := 9) (tgt := 30) dX0_isUnder_9 (by decide) (fun c9 => ?_) (fun c9 => ?_)
      · exact absurd ((nx_cmp (a := 8) rfl (by decide) hi (by omega)).1.mp c9) (by omega)
      · refine w_iload_3 (pc := 12) dX0_isUnder_12 ?_
        refine w_iload_2 (pc := 13) dX0_isUnder_13 ?_
        refine w_icmp_le (pc := 14) (tgt := 30) dX0_isUnder_14 (by decide) (fun c14 => ?_) (fun c14 => ?_)
        · have htu : t' ≤ u := (nx_cmp hz (by omega) hy (by omega)).1.mp c14
          rw [kUp_le _ _ htu] at hk
          refine w_iload_3 (pc := 30) dX0_isUnder_30 ?_
          refine w_iload_2 (pc := 31) dX0_isUnder_31 ?_
          refine w_icmp_ne (pc := 32) (tgt := 44) dX0_isUnder_32 (by decide) (fun c32 => ?_) (fun c32 => ?_)
          · refine w_iconst (pc := 44) (v := 0) dX0_isUnder_44 (by decide) ?_
            refine w_zret (pc := 45) rfl (by decide) ⟨Nat.le_refl _, Nat.le_refl _⟩ dX0_isUnder_45 ?_
            refine ⟨?_, rfl, rfl⟩
            rw [if_neg]
            rintro ⟨e1, -⟩
            exact c32 ((nx_cmp hz (by omega) hy (by omega)).2.2.mpr (hk.trans e1))
          · refine w_iload_1 (pc := 35) dX0_isUnder_35 ?_
            refine w_iload_2 (pc := 36) dX0_isUnder_36 ?_
            refine w_icmp_eq (pc := 37) (tgt := 44) dX0_isUnder_37 (by decide) (fun c37 => ?_) (fun c37 => ?_)
            · refine w_iconst (pc := 44) (v := 0) dX0_isUnder_44 (by decide) ?_
              refine w_zret (pc := 45) rfl (by decide) ⟨Nat.le_refl _, Nat.le_refl _⟩ dX0_isUnder_45 ?_
              refine ⟨?_, rfl, rfl⟩
              rw [if_neg]
              rintro ⟨-, e1⟩
              exact e1 ((nx_cmp hx (by omega) hy (by omega)).2.2.mp c37)
            · refine w_iconst (pc := 40) (v := 1) dX0_isUnder_40 (by decide) ?_
              refine w_goto (pc := 41) (tgt := 45) dX0_isUnder_41 (by decide) ?_
              refine w_zret (pc := 45) rfl (by decide) ⟨Nat.le_refl _, Nat.le_refl _⟩ dX0_isUnder_45 ?_
              refine ⟨?_, rfl, rfl⟩
              rw [if_pos]
              exact ⟨hk.symm.trans ((nx_cmp hz (by omega) hy (by omega)).2.2.mp c32), fun e => c37 ((nx_cmp hx (by omega) hy (by omega)).2.2.mpr e)⟩
        · have htu : ¬ t' ≤ u := fun h => c14 ((nx_cmp hz (by omega) hy (by omega)).1.mpr h)
          obtain ⟨v, hv, hv1⟩ := hT t' (by omega) (by omega)
          refine w_aload_0 (pc := 17) dX0_isUnder_17 ?_
          refine w_getR (pc := 18) (b := w) kc0 0 hO.1 hO.2.1 rfl hO.2.2.2.2.2.2.2.2.1 t139 dX0_isUnder_18 ?_
          refine w_iload_3 (pc := 21) dX0_isUnder_21 ?_
          refine w_iald (pc := 22) (j := t') hO.2.2.1 hO.2.2.2.1 hz (by omega) (by decide) dX0_isUnder_22 ?_
          refine w_istore_3 (pc := 23) dX0_isUnder_23 rfl ?_
          refine w_iinc_4 (pc := 24) dX0_isUnder_24 rfl rfl ?_
          refine w_goto (pc := 27) (tgt := 5) dX0_isUnder_27 (by decide) ?_
          exact ih (i + 1) v _ _ (by omega) (by omega) hv1 (by rw [hi]; exact nI_1 i) (by rw [← hk, show 8 - i = (8 - (i + 1)) + 1 by omega, kUp_step htu hv1 (by omega)])
  exact L0 9 0 t _ _ rfl (Nat.le_refl _) hx rfl rfl
set_option maxHeartbeats 4000000 in
set_option maxRecDepth 100000 in
theorem c_Acc_massWithAllUnder {g : kG} {σ : kS} {I : kI} {a w o s : Nat} (hO : sAcc g σ a w o s) {M : Nat} (hM : I a 3 = nI M) (hM2 : M ≤ 8) (hT : kTree (I w) M) {x : Int32} {u : Nat} (hx : x = nI u) (hu : u < M) : ct g mX0_massWithAllUnder ⟨1, 0, 0, 24⟩ [.ref a, .int x] σ I (qI (aS (I w) (I o) u (M - u)) σ I) := by
  refine ct_of pn0 rfl (Nat.le_of_ble_eq_true rfl) ok_X0_massWithAllUnder.1 trivial ?_
  show wp _ _ _ _ _ _ _ _ 0 [some (.ref a), some (.int x), none, none] []
  refine w_aload_0 (pc := 0) dX0_massWithAllUnder_0 ?_
  refine w_getR (pc := 1) (b := o) kc0 1 hO.1 hO.2.1 rfl hO.2.2.2.2.2.2.2.2.2.1 t141 dX0_massWithAllUnder_1 ?_
  refine w_iload_1 (pc := 4) dX0_massWithAllUnder_4 ?_
  refine w_iald (pc := 5) (j := u) hO.2.2.2.2.1 hO.2.2.2.2.2.1 hx (by omega) (by decide) dX0_massWithAllUnder_5 ?_
  refine w_istore_2 (pc := 6) dX0_massWithAllUnder_6 rfl ?_
  refine w_iload_1 (pc := 7) dX0_massWithAllUnder_7 ?_
  refine w_iconst (pc := 8) (v := 1) dX0_massWithAllUnder_8 (by decide) ?_
  refine w_iadd (pc := 9) dX0_massWithAllUnder_9 ?_
  refine w_istore_3 (pc := 10) dX0_massWithAllUnder_10 rfl ?_
  have L0 : ∀ (n i : Nat) (y z : Int32), 1 ≤ i → u + i ≤ M → M + 1 ≤ u + i + n → y = aS (I w) (I o) u i → z = nI (u + i) → wp g mX0_massWithAllUnder ⟨1, 0, 0, 24⟩ (fun _ => True) (qI (aS (I w) (I o) u (M - u)) σ I) (0, 0) σ I 11 [some (.ref a), some (.int x), some (.int y), some (.int z)] [] := by
    intro n
    induction n with
    | zero => intro i y z h0 h1 h2; exact absurd h2 (by omega)
    | succ n ih =>
      intro i y z h0 h1 h2 hy hz
      refine w_iload_3 (pc := 11) dX0_massWithAllUnder_11 ?_
      refine w_aload_0 (pc := 12) dX0_massWithAllUnder_12 ?_
      refine w_getI (pc := 13) kc0 3 hO.1 hO.2.1 rfl t145 dX0_massWithAllUnder_13 ?_
      refine w_icmp_ge (pc := 16) (tgt := 43) dX0_massWithAllUnder_16 (by decide) (fun c16 => ?_) (fun c16 => ?_)
      · refine w_iload_2 (pc := 43) dX0_massWithAllUnder_43 ?_
        refine w_iret (pc := 44) rfl ⟨Nat.le_refl _, Nat.le_refl _⟩ dX0_massWithAllUnder_44 ?_
        have : M ≤ u + i := (nx_cmp hM (by omega) hz (by omega)).1.mp c16
        rw [show i = M - u by omega] at hy
        exact ⟨by rw [hy], rfl, rfl⟩
      · have hi : u + i < M := nx_nle c16 hM (by omega) hz (by omega)
        refine w_aload_0 (pc := 19) dX0_massWithAllUnder_19 ?_
        refine w_iload_3 (pc := 20) dX0_massWithAllUnder_20 ?_
        refine w_iload_1 (pc := 21) dX0_massWithAllUnder_21 ?_
        refine w_callV_I (pc := 22) (c_Acc_isUnder hO hM hM2 hT hz hi hx hu) ok_X0_isUnder t639 t640 kc0 hO.1 hO.2.1 t638 ⟨Nat.le_of_ble_eq_true rfl, Nat.le_of_ble_eq_true rfl⟩ ⟨rfl, rfl⟩ ⟨Nat.le_refl _, Nat.le_refl _⟩ rfl (Nat.le_of_ble_eq_true rfl) dX0_massWithAllUnder_22 ?_
        refine w_if_eq (pc := 25) (tgt := 37) dX0_massWithAllUnder_25 (by decide) (fun c25 => ?_) (fun c25 => ?_)
        · have hnu : ¬ kUp (I w) u 8 (u + i) = u := fun e => by rw [if_pos ⟨e, by omega⟩] at c25; exact absurd c25 (by decide)
          refine w_iinc_3 (pc := 37) dX0_massWithAllUnder_37 rfl rfl ?_
          refine w_goto (pc := 40) (tgt := 11) dX0_massWithAllUnder_40 (by decide) ?_
          exact ih (i + 1) _ _ (by omega) (by omega) (by omega) (by rw [aS_succ, if_neg hnu, hy]; simp) (by rw [hz]; exact nI_1 _)
        · have hyu : kUp (I w) u 8 (u + i) = u := Decidable.byContradiction (fun e => c25 (by rw [if_neg (fun q => e q.1)]))
          refine w_iload_2 (pc := 28) dX0_massWithAllUnder_28 ?_
          refine w_aload_0 (pc := 29) dX0_massWithAllUnder_29 ?_
          refine w_getR (pc := 30) (b := o) kc0 1 hO.1 hO.2.1 rfl hO.2.2.2.2.2.2.2.2.2.1 t141 dX0_massWithAllUnder_30 ?_
          refine w_iload_3 (pc := 33) dX0_massWithAllUnder_33 ?_
          refine w_iald (pc := 34) (j := u + i) hO.2.2.2.2.1 hO.2.2.2.2.2.1 hz (by omega) (by decide) dX0_massWithAllUnder_34 ?_
          refine w_iadd (pc := 35) dX0_massWithAllUnder_35 ?_
          refine w_istore_2 (pc := 36) dX0_massWithAllUnder_36 rfl ?_
          refine w_iinc_3 (pc := 37) dX0_massWithAllUnder_37 rfl rfl ?_
          refine w_goto (pc := 40) (tgt := 11) dX0_massWithAllUnder_40 (by decide) ?_
          exact ih (i + 1) _ _ (by omega) (by omega) (by omega) (by rw [aS_succ, if_pos hyu, hy]) (by rw [hz]; exact nI_1 _)
  exact L0 (M + 1) 1 _ _ (Nat.le_refl _) (by omega) (by omega) (aS_one _ _ _).symm (by rw [hx]; exact nI_1 u)
set_option maxHeartbeats 4000000 in
set_option maxRecDepth 100000 in
theorem c_Acc_countUnder {g : kG} {σ : kS} {I : kI} {a w o s : Nat} (hO : sAcc g σ a w o s) {M : Nat} (hM : I a 3 = nI M) (hM2 : M ≤ 8) (hT : kTree (I w) M) {x : Int32} {u : Nat} (hx : x = nI u) (hu : u < M) : ct g mX0_countUnder ⟨1, 0, 0, 24⟩ [.ref a, .int x] σ I (qI (aS (I w) (fun _ => 1) u (M - u) - 1) σ I) := by
  refine ct_of pn0 rfl (Nat.le_of_ble_eq_true rfl) ok_X0_countUnder.1 trivial ?_
  show wp _ _ _ _ _ _ _ _ 0 [some (.ref a), some (.int x), none, none] []
  refine w_iconst (pc := 0) (v := 0) dX0_countUnder_0 (by decide) ?_
  refine w_istore_2 (pc := 1) dX0_countUnder_1 rfl ?_
  refine w_iload_1 (pc := 2) dX0_countUnder_2 ?_
  refine w_iconst (pc := 3) (v := 1) dX0_countUnder_3 (by decide) ?_
  refine w_iadd (pc := 4) dX0_countUnder_4 ?_
  refine w_istore_3 (pc := 5) dX0_countUnder_5 rfl ?_
  have L0 : ∀ (n i : Nat) (y z : Int32), 1 ≤ i → u + i ≤ M → M + 1 ≤ u + i + n → y = aS (I w) (fun _ => 1) u i - 1 → z = nI (u + i) → wp g mX0_countUnder ⟨1, 0, 0, 24⟩ (fun _ => True) (qI (aS (I w) (fun _ => 1) u (M - u) - 1) σ I) (0, 0) σ I 6 [some (.ref a), some (.int x), some (.int y), some (.int z)] [] := by
    intro n
    induction n with
    | zero => intro i y z h0 h1 h2; exact absurd h2 (by omega)
    | succ n ih =>
      intro i y z h0 h1 h2 hy hz
      refine w_iload_3 (pc := 6) dX0_countUnder_6 ?_
      refine w_aload_0 (pc := 7) dX0_countUnder_7 ?_
      refine w_getI (pc := 8) kc0 3 hO.1 hO.2.1 rfl t145 dX0_countUnder_8 ?_
      refine w_icmp_ge (pc := 11) (tgt := 32) dX0_countUnder_11 (by decide) (fun c11 => ?_) (fun c11 => ?_)
      · refine w_iload_2 (pc := 32) dX0_countUnder_32 ?_
        refine w_iret (pc := 33) rfl ⟨Nat.le_refl _, Nat.le_refl _⟩ dX0_countUnder_33 ?_
        have : M ≤ u + i := (nx_cmp hM (by omega) hz (by omega)).1.mp c11
        rw [show i = M - u by omega] at hy
        exact ⟨by rw [hy], rfl, rfl⟩
      · have hi : u + i < M := nx_nle c11 hM (by omega) hz (by omega)
        refine w_aload_0 (pc := 14) dX0_countUnder_14 ?_
        refine w_iload_3 (pc := 15) dX0_countUnder_15 ?_
        refine w_iload_1 (pc := 16) dX0_countUnder_16 ?_
        refine w_callV_I (pc := 17) (c_Acc_isUnder hO hM hM2 hT hz hi hx hu) ok_X0_isUnder t639 t640 kc0 hO.1 hO.2.1 t638 ⟨Nat.le_of_ble_eq_true rfl, Nat.le_of_ble_eq_true rfl⟩ ⟨rfl, rfl⟩ ⟨Nat.le_refl _, Nat.le_refl _⟩ rfl (Nat.le_of_ble_eq_true rfl) dX0_countUnder_17 ?_
        refine w_if_eq (pc := 20) (tgt := 26) dX0_countUnder_20 (by decide) (fun c20 => ?_) (fun c20 => ?_)
        · have hnu : ¬ kUp (I w) u 8 (u + i) = u := fun e => by rw [if_pos ⟨e, by omega⟩] at c20; exact absurd c20 (by decide)
          refine w_iinc_3 (pc := 26) dX0_countUnder_26 rfl rfl ?_
          refine w_goto (pc := 29) (tgt := 6) dX0_countUnder_29 (by decide) ?_
          exact ih (i + 1) _ _ (by omega) (by omega) (by omega) (by rw [aS_succ, if_neg hnu, hy]; simp) (by rw [hz]; exact nI_1 _)
        · have hyu : kUp (I w) u 8 (u + i) = u := Decidable.byContradiction (fun e => c20 (by rw [if_neg (fun q => e q.1)]))
          refine w_iinc_2 (pc := 23) dX0_countUnder_23 rfl rfl ?_
          refine w_iinc_3 (pc := 26) dX0_countUnder_26 rfl rfl ?_
          refine w_goto (pc := 29) (tgt := 6) dX0_countUnder_29 (by decide) ?_
          exact ih (i + 1) _ _ (by omega) (by omega) (by omega) (by rw [aS_succ, if_pos hyu, hy]; show _ - 1 + 1 = _ + 1 - 1; rw [Int32.sub_add_cancel, Int32.add_sub_cancel]) (by rw [hz]; exact nI_1 _)
  exact L0 (M + 1) 1 _ _ (Nat.le_refl _) (by omega) (by omega) (by rw [aS_one]; rfl) (by rw [hx]; exact nI_1 u)
set_option maxHeartbeats 4000000 in
set_option maxRecDepth 100000 in
theorem c_Acc_depth {g : kG} {σ : kS} {I : kI} {a w o s : Nat} (hO : sAcc g σ a w o s) {M : Nat} (hM : I a 3 = nI M) (hM2 : M ≤ 8) (hT : kTree (I w) M) {x : Int32} {t : Nat} (hx : x = nI t) (ht : t < M) : ct g mX0_depth ⟨0, 0, 0, 0⟩ [.ref a, .int x] σ I (qI (nI (kDp (I w) 8 t)) σ I) := by
  refine ct_of pn0 rfl (Nat.le_of_ble_eq_true rfl) ok_X0_depth.1 trivial ?_
  show wp _ _ _ _ _ _ _ _ 0 [some (.ref a), some (.int x), none, none, none] []
  refine w_iconst (pc := 0) (v := 0) dX0_depth_0 (by decide) ?_
  refine w_istore_2 (pc := 1) dX0_depth_1 rfl ?_
  refine w_iload_1 (pc := 2) dX0_depth_2 ?_
  refine w_istore_3 (pc := 3) dX0_depth_3 rfl ?_
  refine w_iconst (pc := 4) (v := 0) dX0_depth_4 (by decide) ?_
  refine w_istore_4 (pc := 5) dX0_depth_5 rfl ?_
  have L0 : ∀ (n i t' : Nat) (y z i' : Int32), i + n = 9 → t' + i ≤ t → z = nI t' → i' = nI i → y = nI i → kDp (I w) (8 - i) t' + i = kDp (I w) 8 t → wp g mX0_depth ⟨0, 0, 0, 0⟩ (fun _ => True) (qI (nI (kDp (I w) 8 t)) σ I) (0, 0) σ I 7 [some (.ref a), some (.int x), some (.int y), some (.int z), some (.int i')] [] := by
    intro n
    induction n with
    | zero => intro i t' y z i' h1 h2; exact absurd h2 (by omega)
    | succ n ih =>
      intro i t' y z i' h1 h2 hz hi hy hk
      refine w_iload_4 (pc := 7) dX0_depth_7 ?_
      refine w_bipush (pc := 9) (v := 8) dX0_depth_9 (by decide) ?_
      refine w_icmp_ge (pc := 11) (tgt := 34) dX0_depth_11 (by decide) (fun c11 => ?_) (fun c11 => ?_)
      · exact absurd ((nx_cmp (a := 8) rfl (by decide) hi (by omega)).1.mp c11) (by omega)
      · refine w_iload_3 (pc := 14) dX0_depth_14 ?_
        refine w_if_le (pc := 15) (tgt := 34) dX0_depth_15 (by decide) (fun c15 => ?_) (fun c15 => ?_)
        · have htu : t' = 0 := by
            have := (nx_cmp hz (by omega) (y := 0) (b := 0) rfl (by decide)).1.mp c15
            omega
          rw [htu, kDp_z, Nat.zero_add] at hk
          refine w_iload_2 (pc := 34) dX0_depth_34 ?_
          refine w_iret (pc := 35) rfl ⟨Nat.le_refl _, Nat.le_refl _⟩ dX0_depth_35 ?_
          refine ⟨?_, rfl, rfl⟩
          rw [hy, hk]
        · have htu : ¬ t' = 0 := fun h => c15 (by rw [hz, h]; decide)
          obtain ⟨v, hv, hv1⟩ := hT t' (by omega) (by omega)
          refine w_aload_0 (pc := 18) dX0_depth_18 ?_
          refine w_getR (pc := 19) (b := w) kc0 0 hO.1 hO.2.1 rfl hO.2.2.2.2.2.2.2.2.1 t139 dX0_depth_19 ?_
          refine w_iload_3 (pc := 22) dX0_depth_22 ?_
          refine w_iald (pc := 23) (j := t') hO.2.2.1 hO.2.2.2.1 hz (by omega) (by decide) dX0_depth_23 ?_
          refine w_istore_3 (pc := 24) dX0_depth_24 rfl ?_
          refine w_iinc_2 (pc := 25) dX0_depth_25 rfl rfl ?_
          refine w_iinc_4 (pc := 28) dX0_depth_28 rfl rfl ?_
          refine w_goto (pc := 31) (tgt := 7) dX0_depth_31 (by decide) ?_
          exact ih (i + 1) v _ _ _ (by omega) (by omega) hv1 (by rw [hi]; exact nI_1 i) (by rw [hy]; exact nI_1 i) (by rw [← hk, show 8 - i = (8 - (i + 1)) + 1 by omega, kDp_step htu hv1 (by omega)]; omega)
  exact L0 9 0 t _ _ _ rfl (Nat.le_refl _) hx rfl rfl rfl



