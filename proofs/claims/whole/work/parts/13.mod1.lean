set_option maxHeartbeats 4000000 in
set_option maxRecDepth 100000 in
theorem c_Mod_in {g : kG} {σ : kS} {I : kI} {x y z : Int32} : ct g mX11_in ⟨0, 0, 0, 0⟩ [.int x, .int y, .int z] σ I (qI (if y ≤ x ∧ x ≤ z then 1 else 0) σ I) := by
  refine ct_of pn11 rfl (Nat.le_of_ble_eq_true rfl) ok_X11_in.1 trivial ?_
  show wp _ _ _ _ _ _ _ _ 0 [some (.int x), some (.int y), some (.int z)] []
  refine w_iload_0 (pc := 0) dX11_in_0 ?_
  refine w_iload_1 (pc := 1) dX11_in_1 ?_
  refine w_icmp_lt (pc := 2) (tgt := 14) dX11_in_2 (by decide) (fun c2 => ?_) (fun c2 => ?_)
  · refine w_iconst (pc := 14) (v := 0) dX11_in_14 (by decide) ?_
    refine w_zret (pc := 15) rfl (by decide) ⟨Nat.le_refl _, Nat.le_refl _⟩ dX11_in_15 ?_
    refine ⟨?_, rfl, rfl⟩
    rw [if_neg (fun h => absurd h.1 (Int32.not_le.mpr c2))]
  · refine w_iload_0 (pc := 5) dX11_in_5 ?_
    refine w_iload_2 (pc := 6) dX11_in_6 ?_
    refine w_icmp_gt (pc := 7) (tgt := 14) dX11_in_7 (by decide) (fun c7 => ?_) (fun c7 => ?_)
    · refine w_iconst (pc := 14) (v := 0) dX11_in_14 (by decide) ?_
      refine w_zret (pc := 15) rfl (by decide) ⟨Nat.le_refl _, Nat.le_refl _⟩ dX11_in_15 ?_
      refine ⟨?_, rfl, rfl⟩
      rw [if_neg (fun h => absurd h.2 (Int32.not_le.mpr c7))]
    · refine w_iconst (pc := 10) (v := 1) dX11_in_10 (by decide) ?_
      refine w_goto (pc := 11) (tgt := 15) dX11_in_11 (by decide) ?_
      refine w_zret (pc := 15) rfl (by decide) ⟨Nat.le_refl _, Nat.le_refl _⟩ dX11_in_15 ?_
      refine ⟨?_, rfl, rfl⟩
      rw [if_pos ⟨Int32.not_lt.mp c2, Int32.not_lt.mp c7⟩]
set_option maxHeartbeats 4000000 in
set_option maxRecDepth 100000 in
theorem c_Mod_copies {g : kG} {σ : kS} {I : kI} {x y : Nat} (hx : kB g ≤ x ∧ x < σ.1) (hx2 : σ.2.1 x = (100, 149)) (hy : kB g ≤ y ∧ y < σ.1) (hy2 : σ.2.1 y = (100, 149)) (hxy : x ≠ y) : ct g mX11_copies ⟨0, 0, 0, 0⟩ [.ref x, .ref y] σ I (qV σ (va_up I y (va_cpy (I x) (I y) 0 0 149))) := by
  refine ct_of pn11 rfl (Nat.le_of_ble_eq_true rfl) ok_X11_copies.1 trivial ?_
  show wp _ _ _ _ _ _ _ _ 0 [some (.ref x), some (.ref y), none] []
  refine w_iconst (pc := 0) (v := 0) dX11_copies_0 (by decide) ?_
  refine w_istore_2 (pc := 1) dX11_copies_1 rfl ?_
  have L0 : ∀ (n i : Nat) (z : Int32), i ≤ 149 → 150 ≤ i + n → z = nI i → wp g mX11_copies ⟨0, 0, 0, 0⟩ (fun _ => True) (qV σ (va_up I y (va_cpy (I x) (I y) 0 0 149))) (0, 0) σ (va_up I y (va_cpy (I x) (I y) 0 0 i)) 2 [some (.ref x), some (.ref y), some (.int z)] [] := by
    intro n
    induction n with
    | zero => intro i z h1 h2; exact absurd h2 (by omega)
    | succ n ih =>
      intro i z h1 h2 hz
      refine w_iload_2 (pc := 2) dX11_copies_2 ?_
      refine w_sipush (pc := 3) (v := 149) dX11_copies_3 (by decide) ?_
      refine w_icmp_ge (pc := 6) (tgt := 21) dX11_copies_6 (by decide) (fun c6 => ?_) (fun c6 => ?_)
      · refine w_vret (pc := 21) rfl ⟨Nat.le_refl _, Nat.le_refl _⟩ dX11_copies_21 ?_
        have : 149 ≤ i := (nx_cmp (a := 149) rfl (by omega) hz (by omega)).1.mp c6
        rw [show i = 149 by omega]
        exact ⟨rfl, rfl, rfl⟩
      · have hi : i < 149 := nx_nle (a := 149) c6 rfl (by omega) hz (by omega)
        refine w_aload_1 (pc := 9) dX11_copies_9 ?_
        refine w_iload_2 (pc := 10) dX11_copies_10 ?_
        refine w_aload_0 (pc := 11) dX11_copies_11 ?_
        refine w_iload_2 (pc := 12) dX11_copies_12 ?_
        refine w_iald (pc := 13) (j := i) hx hx2 hz hi (by decide) dX11_copies_13 ?_
        refine w_iast (pc := 14) (j := i) hy hy2 hz hi (by decide) dX11_copies_14 ?_
        refine w_iinc_2 (pc := 15) dX11_copies_15 rfl rfl ?_
        refine w_goto (pc := 18) (tgt := 2) dX11_copies_18 (by decide) ?_
        rw [cp_step hxy]
        exact ih (i + 1) _ (by omega) (by omega) (by rw [hz]; exact nI_1 i)
  refine w_mem cp_0.symm (L0 150 0 _ (by omega) (by omega) rfl)
set_option maxHeartbeats 4000000 in
set_option maxRecDepth 100000 in
theorem c_Mod_hasBatch {g : kG} {σ : kS} {I : kI} {q a b c d e f : Nat} (hO : sMod g σ q a b c d e f)  : ct g mX11_hasBatch ⟨0, 0, 0, 0⟩ [.ref q] σ I (qI (if 0 < I a 15 then 1 else 0) σ I) := by
  refine ct_of pn11 rfl (Nat.le_of_ble_eq_true rfl) ok_X11_hasBatch.1 trivial ?_
  show wp _ _ _ _ _ _ _ _ 0 [some (.ref q)] []
  refine w_aload_0 (pc := 0) dX11_hasBatch_0 ?_
  refine w_getR (pc := 1) (b := a) kc11 0 hO.1 hO.2.1 rfl hO.2.2.2.2.2.2.2.2.2.2.2.2.2.2.1 t763 dX11_hasBatch_1 ?_
  refine w_bipush (pc := 4) (v := 15) dX11_hasBatch_4 (by decide) ?_
  refine w_iald (pc := 6) (j := 15) hO.2.2.1 hO.2.2.2.1 rfl (by decide) (by decide) dX11_hasBatch_6 ?_
  refine w_if_le (pc := 7) (tgt := 14) dX11_hasBatch_7 (by decide) (fun c7 => ?_) (fun c7 => ?_)
  · refine w_iconst (pc := 14) (v := 0) dX11_hasBatch_14 (by decide) ?_
    refine w_zret (pc := 15) rfl (by decide) ⟨Nat.le_refl _, Nat.le_refl _⟩ dX11_hasBatch_15 ?_
    refine ⟨?_, rfl, rfl⟩
    rw [if_neg (Int32.not_lt.mpr c7)]
  · refine w_iconst (pc := 10) (v := 1) dX11_hasBatch_10 (by decide) ?_
    refine w_goto (pc := 11) (tgt := 15) dX11_hasBatch_11 (by decide) ?_
    refine w_zret (pc := 15) rfl (by decide) ⟨Nat.le_refl _, Nat.le_refl _⟩ dX11_hasBatch_15 ?_
    refine ⟨?_, rfl, rfl⟩
    rw [if_pos (Int32.not_le.mp c7)]
set_option maxHeartbeats 4000000 in
set_option maxRecDepth 100000 in
theorem c_Mod_mass {g : kG} {σ : kS} {I : kI} {q a b c d e f : Nat} (hO : sMod g σ q a b c d e f) {x y : Int32} {u v : Nat} (hx : x = nI u) (hy : y = nI (u + v)) (huv : u + v ≤ 11) : ct g mX11_mass ⟨0, 0, 0, 0⟩ [.ref q, .int x, .int y] σ I (qI (sm (I a) (21 + 4 * u) (4 * v + 4)) σ I) := by
  refine ct_of pn11 rfl (Nat.le_of_ble_eq_true rfl) ok_X11_mass.1 trivial ?_
  show wp _ _ _ _ _ _ _ _ 0 [some (.ref q), some (.int x), some (.int y), none, none] []
  refine w_iconst (pc := 0) (v := 0) dX11_mass_0 (by decide) ?_
  refine w_istore_3 (pc := 1) dX11_mass_1 rfl ?_
  refine w_bipush (pc := 2) (v := 21) dX11_mass_2 (by decide) ?_
  refine w_iconst (pc := 4) (v := 4) dX11_mass_4 (by decide) ?_
  refine w_iload_1 (pc := 5) dX11_mass_5 ?_
  refine w_imul (pc := 6) dX11_mass_6 ?_
  refine w_iadd (pc := 7) dX11_mass_7 ?_
  refine w_istore_4 (pc := 8) dX11_mass_8 rfl ?_
  have e0 : (21 : Int32) + 4 * x = nI (21 + 4 * u) := by rw [hx, show (4 : Int32) = nI 4 from rfl, show (21 : Int32) = nI 21 from rfl, pk_mul, nI_add]
  have e1 : (21 : Int32) + 4 * y + 4 = nI (21 + 4 * u + (4 * v + 4)) := by rw [hy, show (4 : Int32) = nI 4 from rfl, show (21 : Int32) = nI 21 from rfl, pk_mul, nI_add, nI_add]; congr 1; omega
  have L0 : ∀ (n i : Nat) (z w : Int32), i ≤ 4 * v + 4 → 4 * v + 5 ≤ i + n → z = sm (I a) (21 + 4 * u) i → w = nI (21 + 4 * u + i) → wp g mX11_mass ⟨0, 0, 0, 0⟩ (fun _ => True) (qI (sm (I a) (21 + 4 * u) (4 * v + 4)) σ I) (0, 0) σ I 10 [some (.ref q), some (.int x), some (.int y), some (.int z), some (.int w)] [] := by
    intro n
    induction n with
    | zero => intro i z w h1 h2; exact absurd h2 (by omega)
    | succ n ih =>
      intro i z w h1 h2 hz hw
      refine w_iload_4 (pc := 10) dX11_mass_10 ?_
      refine w_bipush (pc := 12) (v := 21) dX11_mass_12 (by decide) ?_
      refine w_iconst (pc := 14) (v := 4) dX11_mass_14 (by decide) ?_
      refine w_iload_2 (pc := 15) dX11_mass_15 ?_
      refine w_imul (pc := 16) dX11_mass_16 ?_
      refine w_iadd (pc := 17) dX11_mass_17 ?_
      refine w_iconst (pc := 18) (v := 4) dX11_mass_18 (by decide) ?_
      refine w_iadd (pc := 19) dX11_mass_19 ?_
      refine w_icmp_ge (pc := 20) (tgt := 39) dX11_mass_20 (by decide) (fun c20 => ?_) (fun c20 => ?_)
      · refine w_iload_3 (pc := 39) dX11_mass_39 ?_
        refine w_iret (pc := 40) rfl ⟨Nat.le_refl _, Nat.le_refl _⟩ dX11_mass_40 ?_
        have h9 := (nx_cmp e1 (by omega) hw (by omega)).1.mp c20
        rw [show i = 4 * v + 4 by omega] at hz
        exact ⟨by rw [hz], rfl, rfl⟩
      · have hi : i < 4 * v + 4 := by have := nx_nle c20 e1 (by omega) hw (by omega); omega
        refine w_iload_3 (pc := 23) dX11_mass_23 ?_
        refine w_aload_0 (pc := 24) dX11_mass_24 ?_
        refine w_getR (pc := 25) (b := a) kc11 0 hO.1 hO.2.1 rfl hO.2.2.2.2.2.2.2.2.2.2.2.2.2.2.1 t763 dX11_mass_25 ?_
        refine w_iload_4 (pc := 28) dX11_mass_28 ?_
        refine w_iald (pc := 30) (j := 21 + 4 * u + i) hO.2.2.1 hO.2.2.2.1 hw (by omega) (by decide) dX11_mass_30 ?_
        refine w_iadd (pc := 31) dX11_mass_31 ?_
        refine w_istore_3 (pc := 32) dX11_mass_32 rfl ?_
        refine w_iinc_4 (pc := 33) dX11_mass_33 rfl rfl ?_
        refine w_goto (pc := 36) (tgt := 10) dX11_mass_36 (by decide) ?_
        exact ih (i + 1) _ _ (by omega) (by omega) (by rw [sm_succ, hz]) (by rw [hw]; exact nI_1 _)
  exact L0 (4 * v + 5) 0 _ _ (by omega) (by omega) rfl e0
set_option maxHeartbeats 4000000 in
set_option maxRecDepth 100000 in
theorem c_Mod_changes {g : kG} {σ : kS} {I : kI} {q a b c d e f : Nat} (hO : sMod g σ q a b c d e f) {n0 : Nat} (hp : I q 4 = nI n0) (hp2 : n0 ≤ 4) : ct g mX11_changes ⟨0, 0, 0, 0⟩ [.ref q] σ I (qV σ (chM q a b I)) := by
  refine ct_of pn11 rfl (Nat.le_of_ble_eq_true rfl) ok_X11_changes.1 trivial ?_
  show wp _ _ _ _ _ _ _ _ 0 [some (.ref q), none] []
  have o0 := hO.2.2.2.2.2.2.2.2.2.2.2.2.2.2.2.2.2.2.2.2.1
  have o1 := hO.2.2.2.2.2.2.2.2.2.2.2.2.2.2.2.2.2.2.2.2.2.1
  have o2 := hO.2.2.2.2.2.2.2.2.2.2.2.2.2.2.2.2.2.2.2.2.2.2.1
  have o3 := hO.2.2.2.2.2.2.2.2.2.2.2.2.2.2.2.2.2.2.2.2.2.2.2.1
  have o4 := hO.2.2.2.2.2.2.2.2.2.2.2.2.2.2.2.2.2.2.2.2.2.2.2.2.1
  have o5 := hO.2.2.2.2.2.2.2.2.2.2.2.2.2.2.2.2.2.2.2.2.2.2.2.2.2
  refine w_aload_0 (pc := 0) dX11_changes_0 ?_
  refine w_getI (pc := 1) kc11 5 hO.1 hO.2.1 rfl t768 dX11_changes_1 ?_
  refine w_if_eq (pc := 4) (tgt := 8) dX11_changes_4 (by decide) (fun c4 => ?_) (fun c4 => ?_)
  · have J57 : ∀ (J : kI) (n1 : Nat), J q 4 = nI n1 → n1 ≤ 3 → (kst (va_up J b (pushP (J b) (J a) n1)) q 4 (nI (n1 + 1)) = chM q a b I) → wp g mX11_changes ⟨0, 0, 0, 0⟩ (fun _ => True) (qV σ (chM q a b I)) (0, 0) σ J 57 [some (.ref q), none] [] := by
      intro J n1 hn1 hn2 hfin
      refine w_iconst (pc := 57) (v := 0) dX11_changes_57 (by decide) ?_
      refine w_istore_1 (pc := 58) dX11_changes_58 rfl ?_
      have L1 : ∀ (n i : Nat) (z : Int32), i ≤ 149 → 150 ≤ i + n → z = nI i → wp g mX11_changes ⟨0, 0, 0, 0⟩ (fun _ => True) (qV σ (chM q a b I)) (0, 0) σ (va_up J b (fun k => if 149 * n1 ≤ k ∧ k < 149 * n1 + i then J a (k - 149 * n1) else J b k)) 59 [some (.ref q), some (.int z)] [] := by
        intro n
        induction n with
        | zero => intro i z h1 h2; exact absurd h2 (by omega)
        | succ n ih =>
          intro i z h1 h2 hz
          refine w_iload_1 (pc := 59) dX11_changes_59 ?_
          refine w_sipush (pc := 60) (v := 149) dX11_changes_60 (by decide) ?_
          refine w_icmp_ge (pc := 63) (tgt := 93) dX11_changes_63 (by decide) (fun c63 => ?_) (fun c63 => ?_)
          · refine w_aload_0 (pc := 93) dX11_changes_93 ?_
            refine w_dup_a (pc := 94) dX11_changes_94 ?_
            refine w_getI (pc := 95) kc11 4 hO.1 hO.2.1 rfl t767 dX11_changes_95 ?_
            refine w_iconst (pc := 98) (v := 1) dX11_changes_98 (by decide) ?_
            refine w_iadd (pc := 99) dX11_changes_99 ?_
            refine w_putI (pc := 100) kc11 4 hO.1 hO.2.1 rfl t767 rfl (tyX11_ok 4 (by decide)) rfl rfl dX11_changes_100 ?_
            refine w_vret (pc := 103) rfl ⟨Nat.le_refl _, Nat.le_refl _⟩ dX11_changes_103 ?_
            have : 149 ≤ i := (nx_cmp (a := 149) rfl (by omega) hz (by omega)).1.mp c63
            refine ⟨rfl, rfl, ?_⟩
            rw [← hfin, show i = 149 by omega, va_up_ne _ _ (show q ≠ b by omega), hn1, nI_1]
            rfl
          · have hi : i < 149 := nx_nle (a := 149) c63 rfl (by omega) hz (by omega)
            refine w_aload_0 (pc := 66) dX11_changes_66 ?_
            refine w_getR (pc := 67) (b := b) kc11 1 hO.1 hO.2.1 rfl hO.2.2.2.2.2.2.2.2.2.2.2.2.2.2.2.1 t764 dX11_changes_67 ?_
            refine w_sipush (pc := 70) (v := 149) dX11_changes_70 (by decide) ?_
            refine w_aload_0 (pc := 73) dX11_changes_73 ?_
            refine w_getI (pc := 74) kc11 4 hO.1 hO.2.1 rfl t767 dX11_changes_74 ?_
            refine w_imul (pc := 77) dX11_changes_77 ?_
            refine w_iload_1 (pc := 78) dX11_changes_78 ?_
            refine w_iadd (pc := 79) dX11_changes_79 ?_
            refine w_aload_0 (pc := 80) dX11_changes_80 ?_
            refine w_getR (pc := 81) (b := a) kc11 0 hO.1 hO.2.1 rfl hO.2.2.2.2.2.2.2.2.2.2.2.2.2.2.1 t763 dX11_changes_81 ?_
            refine w_iload_1 (pc := 84) dX11_changes_84 ?_
            refine w_iald (pc := 85) (j := i) hO.2.2.1 hO.2.2.2.1 hz (by omega) (by decide) dX11_changes_85 ?_
            refine w_iast (pc := 86) (j := 149 * n1 + i) hO.2.2.2.2.1 hO.2.2.2.2.2.1 (by rw [hz, va_up_ne _ _ (show q ≠ b by omega), hn1, show (149 : Int32) = nI 149 from rfl, pk_mul, nI_add]) (by omega) (by decide) dX11_changes_86 ?_
            refine w_iinc_1 (pc := 87) dX11_changes_87 rfl rfl ?_
            refine w_goto (pc := 90) (tgt := 59) dX11_changes_90 (by decide) ?_
            rw [pu_step (show a ≠ b by omega)]
            exact ih (i + 1) _ (by omega) (by omega) (by rw [hz]; exact nI_1 i)
      refine w_mem (pu_0 (a := a) (n := n1)).symm (L1 150 0 _ (by omega) (by omega) rfl)
    refine w_aload_0 (pc := 8) dX11_changes_8 ?_
    refine w_getI (pc := 9) kc11 4 hO.1 hO.2.1 rfl t767 dX11_changes_9 ?_
    refine w_iconst (pc := 12) (v := 4) dX11_changes_12 (by decide) ?_
    refine w_icmp_ne (pc := 13) (tgt := 57) dX11_changes_13 (by decide) (fun c13 => ?_) (fun c13 => ?_)
    · have n3 : ¬ n0 = 4 := nx_ne c13 hp (by omega) (b := 4) rfl (by omega)
      have hch3 : kst (va_up I b (pushP (I b) (I a) n0)) q 4 (nI (n0 + 1)) = chM q a b I := by
        rw [chM, if_neg (fun h => h c4), if_neg c13, tn_of hp (by omega), hp, nI_1]
      exact J57 I n0 hp (by omega) hch3
    · have n4 : n0 = 4 := (nx_cmp hp (by omega) (y := 4) (b := 4) rfl (by omega)).2.2.mp c13
      refine w_iconst (pc := 16) (v := 0) dX11_changes_16 (by decide) ?_
      refine w_istore_1 (pc := 17) dX11_changes_17 rfl ?_
      have L0 : ∀ (n i : Nat) (z : Int32), i ≤ 447 → 448 ≤ i + n → z = nI i → wp g mX11_changes ⟨0, 0, 0, 0⟩ (fun _ => True) (qV σ (chM q a b I)) (0, 0) σ (va_up I b (fun k => if k < i then I b (k + 149) else I b k)) 18 [some (.ref q), some (.int z)] [] := by
        intro n
        induction n with
        | zero => intro i z h1 h2; exact absurd h2 (by omega)
        | succ n ih =>
          intro i z h1 h2 hz
          refine w_iload_1 (pc := 18) dX11_changes_18 ?_
          refine w_sipush (pc := 19) (v := 447) dX11_changes_19 (by decide) ?_
          refine w_icmp_ge (pc := 22) (tgt := 47) dX11_changes_22 (by decide) (fun c22 => ?_) (fun c22 => ?_)
          · have i4 : 447 ≤ i := (nx_cmp (a := 447) rfl (by omega) hz (by omega)).1.mp c22
            have hch4 : kst (va_up (kst (va_up I b (fun k => if k < i then I b (k + 149) else I b k)) q 4 (va_up I b (fun k => if k < i then I b (k + 149) else I b k) q 4 - 1)) b (pushP (kst (va_up I b (fun k => if k < i then I b (k + 149) else I b k)) q 4 (va_up I b (fun k => if k < i then I b (k + 149) else I b k) q 4 - 1) b) (kst (va_up I b (fun k => if k < i then I b (k + 149) else I b k)) q 4 (va_up I b (fun k => if k < i then I b (k + 149) else I b k) q 4 - 1) a) 3)) q 4 (nI (3 + 1)) = chM q a b I := by
              have i5 : i = 447 := by omega
              subst i5
              have hbq : b ≠ q := by omega
              have haq : a ≠ q := by omega
              have hab : a ≠ b := by omega
              rw [chM, if_neg (fun h => h c4), if_pos (by rw [hp, n4]; rfl), kst_n hbq, kst_n haq, va_up_self, va_up_ne _ _ hab]
              show kst (va_up (kst (va_up I b (shiftP (I b))) q 4 _) b (pushP (shiftP (I b)) (I a) 3)) q 4 _ = _
              funext r
              by_cases hr : r = q
              · subst hr
                rw [kst_s, va_up_ne _ _ hbq.symm, kst_s, va_up_ne _ _ hbq.symm, va_up_ne _ _ hbq.symm]
                funext k
                by_cases hk : k = 4
                · subst hk; rw [upd_s, va_up_ne _ _ hbq.symm, hp, n4]
                · rw [upd_ne hk, upd_ne hk, va_up_ne _ _ hbq.symm]
              · rw [kst_n hr]
                by_cases hr2 : r = b
                · subst hr2; rw [va_up_self, va_up_self]
                · rw [va_up_ne _ _ hr2, kst_n hr, va_up_ne _ _ hr2, va_up_ne _ _ hr2]
            refine w_aload_0 (pc := 47) dX11_changes_47 ?_
            refine w_dup_a (pc := 48) dX11_changes_48 ?_
            refine w_getI (pc := 49) kc11 4 hO.1 hO.2.1 rfl t767 dX11_changes_49 ?_
            refine w_iconst (pc := 52) (v := 1) dX11_changes_52 (by decide) ?_
            refine w_isub (pc := 53) dX11_changes_53 ?_
            refine w_putI (pc := 54) kc11 4 hO.1 hO.2.1 rfl t767 rfl (tyX11_ok 4 (by decide)) rfl rfl dX11_changes_54 ?_
            refine w_drop 1 ?_
            refine J57 _ 3 ?_ (by omega) ?_
            · simp only [kst, va_up_self, upd_s]
              rw [va_up_ne _ _ (show q ≠ b by omega), hp, show n0 = 4 by omega]; rfl
            · exact hch4
          · have hi : i < 447 := nx_nle (a := 447) c22 rfl (by omega) hz (by omega)
            refine w_aload_0 (pc := 25) dX11_changes_25 ?_
            refine w_getR (pc := 26) (b := b) kc11 1 hO.1 hO.2.1 rfl hO.2.2.2.2.2.2.2.2.2.2.2.2.2.2.2.1 t764 dX11_changes_26 ?_
            refine w_iload_1 (pc := 29) dX11_changes_29 ?_
            refine w_aload_0 (pc := 30) dX11_changes_30 ?_
            refine w_getR (pc := 31) (b := b) kc11 1 hO.1 hO.2.1 rfl hO.2.2.2.2.2.2.2.2.2.2.2.2.2.2.2.1 t764 dX11_changes_31 ?_
            refine w_iload_1 (pc := 34) dX11_changes_34 ?_
            refine w_sipush (pc := 35) (v := 149) dX11_changes_35 (by decide) ?_
            refine w_iadd (pc := 38) dX11_changes_38 ?_
            refine w_iald (pc := 39) (j := i + 149) hO.2.2.2.2.1 hO.2.2.2.2.2.1 (by rw [hz, show (149 : Int32) = nI 149 from rfl, nI_add]) (by omega) (by decide) dX11_changes_39 ?_
            refine w_iast (pc := 40) (j := i) hO.2.2.2.2.1 hO.2.2.2.2.2.1 hz (by omega) (by decide) dX11_changes_40 ?_
            refine w_iinc_1 (pc := 41) dX11_changes_41 rfl rfl ?_
            refine w_goto (pc := 44) (tgt := 18) dX11_changes_44 (by decide) ?_
            rw [sh_step]
            exact ih (i + 1) _ (by omega) (by omega) (by rw [hz]; exact nI_1 i)
      refine w_mem sh_0.symm (L0 448 0 _ (by omega) (by omega) rfl)
  · refine w_vret (pc := 7) rfl ⟨Nat.le_refl _, Nat.le_refl _⟩ dX11_changes_7 ?_
    refine ⟨rfl, rfl, ?_⟩
    rw [chM, if_pos c4]
