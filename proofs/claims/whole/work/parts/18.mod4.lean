theorem nx_c4 {x : Int32} {c k : Nat} (hx : x = nI k) {z : Int32} (hz : z = nI c) : z + 4 * x = nI (c + 4 * k) := by
  rw [hx, hz, show (4 : Int32) = nI 4 from rfl, pk_mul, nI_add]
theorem nx_rb {y : Int32} {l m : Nat} (hm : l ≤ m ∧ m < 2 ^ 31) (h : nI l ≤ y ∧ y ≤ nI m) : ∃ j, j ≤ m - l ∧ y = nI (l + j) := by
  have h0 : 0 ≤ y := Int32.le_trans (nI_pos' (by omega)) h.1
  obtain ⟨j, hj, rfl⟩ := nx_ge0 h0
  have h1 := (nI_leI (by omega) hj).mp h.1
  have h2 := (nI_leI hj (by omega)).mp h.2
  exact ⟨j - l, by omega, by congr 1; omega⟩
set_option maxHeartbeats 4000000 in
set_option maxRecDepth 100000 in
theorem c_Mod_isUnder {g : kG} {σ : kS} {I : kI} {q a b c d e f : Nat} (hO : sMod g σ q a b c d e f) (hS : SX (I a)) {x y : Int32} {t u : Nat} (hx : x = nI t) (ht : t < nAc (I a)) (hy : y = nI u) (hu : u < nAc (I a)) : ct g mX11_isUnder ⟨0, 0, 0, 0⟩ [.ref q, .int x, .int y] σ I (qI (if kUp (fW (I a)) u 8 t = u then 1 else 0) σ I) := by
  refine ct_of pn11 rfl (Nat.le_of_ble_eq_true rfl) ok_X11_isUnder.1 trivial ?_
  show wp _ _ _ _ _ _ _ _ 0 [some (.ref q), some (.int x), some (.int y), none] []
  have o0 := hO.2.2.2.2.2.2.2.2.2.2.2.2.2.2.2.2.2.2.2.2.1
  have o1 := hO.2.2.2.2.2.2.2.2.2.2.2.2.2.2.2.2.2.2.2.2.2.1
  have o2 := hO.2.2.2.2.2.2.2.2.2.2.2.2.2.2.2.2.2.2.2.2.2.2.1
  have o3 := hO.2.2.2.2.2.2.2.2.2.2.2.2.2.2.2.2.2.2.2.2.2.2.2.1
  have o4 := hO.2.2.2.2.2.2.2.2.2.2.2.2.2.2.2.2.2.2.2.2.2.2.2.2.1
  have o5 := hO.2.2.2.2.2.2.2.2.2.2.2.2.2.2.2.2.2.2.2.2.2.2.2.2.2
  obtain ⟨A1, A2, A3, hT, -⟩ := SX_A hS
  refine w_iload_1 (pc := 0) dX11_isUnder_0 ?_
  refine w_istore_3 (pc := 1) dX11_isUnder_1 rfl ?_
  have L0 : ∀ (n i t' : Nat) (z : Int32), i + n = 9 → t' + i ≤ t → z = nI t' → kUp (fW (I a)) u (8 - i) t' = kUp (fW (I a)) u 8 t → wp g mX11_isUnder ⟨0, 0, 0, 0⟩ (fun _ => True) (qI (if kUp (fW (I a)) u 8 t = u then 1 else 0) σ I) (0, 0) σ I 2 [some (.ref q), some (.int x), some (.int y), some (.int z)] [] := by
    intro n
    induction n with
    | zero => intro i t' z h1 h2; exact absurd h2 (by omega)
    | succ n ih =>
      intro i t' z h1 h2 hz hk
      refine w_iload_3 (pc := 2) dX11_isUnder_2 ?_
      refine w_iload_2 (pc := 3) dX11_isUnder_3 ?_
      refine w_icmp_le (pc := 4) (tgt := 23) dX11_isUnder_4 (by decide) (fun c4 => ?_) (fun c4 => ?_)
      · have htu : t' ≤ u := (nx_cmp hz (by omega) hy (by omega)).1.mp c4
        rw [kUp_le _ _ htu] at hk
        refine w_iload_3 (pc := 23) dX11_isUnder_23 ?_
        refine w_iload_2 (pc := 24) dX11_isUnder_24 ?_
        refine w_icmp_ne (pc := 25) (tgt := 32) dX11_isUnder_25 (by decide) (fun c25 => ?_) (fun c25 => ?_)
        · refine w_iconst (pc := 32) (v := 0) dX11_isUnder_32 (by decide) ?_
          refine w_zret (pc := 33) rfl (by decide) ⟨Nat.le_refl _, Nat.le_refl _⟩ dX11_isUnder_33 ?_
          refine ⟨?_, rfl, rfl⟩
          rw [if_neg]
          intro e1
          exact c25 ((nx_cmp hz (by omega) hy (by omega)).2.2.mpr (hk.trans e1))
        · refine w_iconst (pc := 28) (v := 1) dX11_isUnder_28 (by decide) ?_
          refine w_goto (pc := 29) (tgt := 33) dX11_isUnder_29 (by decide) ?_
          refine w_zret (pc := 33) rfl (by decide) ⟨Nat.le_refl _, Nat.le_refl _⟩ dX11_isUnder_33 ?_
          refine ⟨?_, rfl, rfl⟩
          rw [if_pos]
          exact hk.symm.trans ((nx_cmp hz (by omega) hy (by omega)).2.2.mp c25)
      · have htu : ¬ t' ≤ u := fun h => c4 ((nx_cmp hz (by omega) hy (by omega)).1.mpr h)
        obtain ⟨v, hv, hv1⟩ := hT t' (by omega) (by omega)
        have hv1 : I a (129 + 2 * t') = nI v := hv1
        refine w_aload_0 (pc := 7) dX11_isUnder_7 ?_
        refine w_getR (pc := 8) (b := a) kc11 0 hO.1 hO.2.1 rfl hO.2.2.2.2.2.2.2.2.2.2.2.2.2.2.1 t763 dX11_isUnder_8 ?_
        refine w_sipush (pc := 11) (v := 129) dX11_isUnder_11 (by decide) ?_
        refine w_iconst (pc := 14) (v := 2) dX11_isUnder_14 (by decide) ?_
        refine w_iload_3 (pc := 15) dX11_isUnder_15 ?_
        refine w_imul (pc := 16) dX11_isUnder_16 ?_
        refine w_iadd (pc := 17) dX11_isUnder_17 ?_
        refine w_iald (pc := 18) (j := 129 + 2 * t') hO.2.2.1 hO.2.2.2.1 (nx_2 hz rfl) (by omega) (by decide) dX11_isUnder_18 ?_
        refine w_istore_3 (pc := 19) dX11_isUnder_19 rfl ?_
        refine w_goto (pc := 20) (tgt := 2) dX11_isUnder_20 (by decide) ?_
        exact ih (i + 1) v _ (by omega) (by omega) hv1 (by rw [← hk, show 8 - i = (8 - (i + 1)) + 1 by omega, kUp_step htu (show fW (I a) t' = nI v from hv1) (by omega)])
  exact L0 9 0 t _ rfl (Nat.le_refl _) hx rfl
set_option maxHeartbeats 4000000 in
set_option maxRecDepth 100000 in
theorem c_Mod_depth {g : kG} {σ : kS} {I : kI} {q a b c d e f : Nat} (hO : sMod g σ q a b c d e f) (hS : SX (I a)) {x : Int32} {t : Nat} (hx : x = nI t) (ht : t < nAc (I a)) : ct g mX11_depth ⟨0, 0, 0, 0⟩ [.ref q, .int x] σ I (qI (nI (kDp (fW (I a)) 8 t)) σ I) := by
  refine ct_of pn11 rfl (Nat.le_of_ble_eq_true rfl) ok_X11_depth.1 trivial ?_
  show wp _ _ _ _ _ _ _ _ 0 [some (.ref q), some (.int x), none, none] []
  have o0 := hO.2.2.2.2.2.2.2.2.2.2.2.2.2.2.2.2.2.2.2.2.1
  have o1 := hO.2.2.2.2.2.2.2.2.2.2.2.2.2.2.2.2.2.2.2.2.2.1
  have o2 := hO.2.2.2.2.2.2.2.2.2.2.2.2.2.2.2.2.2.2.2.2.2.2.1
  have o3 := hO.2.2.2.2.2.2.2.2.2.2.2.2.2.2.2.2.2.2.2.2.2.2.2.1
  have o4 := hO.2.2.2.2.2.2.2.2.2.2.2.2.2.2.2.2.2.2.2.2.2.2.2.2.1
  have o5 := hO.2.2.2.2.2.2.2.2.2.2.2.2.2.2.2.2.2.2.2.2.2.2.2.2.2
  obtain ⟨A1, A2, A3, hT, -⟩ := SX_A hS
  refine w_iconst (pc := 0) (v := 0) dX11_depth_0 (by decide) ?_
  refine w_istore_2 (pc := 1) dX11_depth_1 rfl ?_
  refine w_iload_1 (pc := 2) dX11_depth_2 ?_
  refine w_istore_3 (pc := 3) dX11_depth_3 rfl ?_
  have L0 : ∀ (n i t' : Nat) (y z : Int32), i + n = 9 → t' + i ≤ t → z = nI t' → y = nI i → kDp (fW (I a)) (8 - i) t' + i = kDp (fW (I a)) 8 t → wp g mX11_depth ⟨0, 0, 0, 0⟩ (fun _ => True) (qI (nI (kDp (fW (I a)) 8 t)) σ I) (0, 0) σ I 4 [some (.ref q), some (.int x), some (.int y), some (.int z)] [] := by
    intro n
    induction n with
    | zero => intro i t' y z h1 h2; exact absurd h2 (by omega)
    | succ n ih =>
      intro i t' y z h1 h2 hz hy hk
      refine w_iload_3 (pc := 4) dX11_depth_4 ?_
      refine w_if_le (pc := 5) (tgt := 27) dX11_depth_5 (by decide) (fun c5 => ?_) (fun c5 => ?_)
      · have htu : t' = 0 := by
          have := (nx_cmp hz (by omega) (y := 0) (b := 0) rfl (by decide)).1.mp c5
          omega
        rw [htu, kDp_z, Nat.zero_add] at hk
        refine w_iload_2 (pc := 27) dX11_depth_27 ?_
        refine w_iret (pc := 28) rfl ⟨Nat.le_refl _, Nat.le_refl _⟩ dX11_depth_28 ?_
        refine ⟨?_, rfl, rfl⟩
        rw [hy, hk]
      · have htu : ¬ t' = 0 := fun h => c5 (by rw [hz, h]; decide)
        obtain ⟨v, hv, hv1⟩ := hT t' (by omega) (by omega)
        have hv1 : I a (129 + 2 * t') = nI v := hv1
        refine w_iinc_2 (pc := 8) dX11_depth_8 rfl rfl ?_
        refine w_aload_0 (pc := 11) dX11_depth_11 ?_
        refine w_getR (pc := 12) (b := a) kc11 0 hO.1 hO.2.1 rfl hO.2.2.2.2.2.2.2.2.2.2.2.2.2.2.1 t763 dX11_depth_12 ?_
        refine w_sipush (pc := 15) (v := 129) dX11_depth_15 (by decide) ?_
        refine w_iconst (pc := 18) (v := 2) dX11_depth_18 (by decide) ?_
        refine w_iload_3 (pc := 19) dX11_depth_19 ?_
        refine w_imul (pc := 20) dX11_depth_20 ?_
        refine w_iadd (pc := 21) dX11_depth_21 ?_
        refine w_iald (pc := 22) (j := 129 + 2 * t') hO.2.2.1 hO.2.2.2.1 (nx_2 hz rfl) (by omega) (by decide) dX11_depth_22 ?_
        refine w_istore_3 (pc := 23) dX11_depth_23 rfl ?_
        refine w_goto (pc := 24) (tgt := 4) dX11_depth_24 (by decide) ?_
        exact ih (i + 1) v _ _ (by omega) (by omega) hv1 (by rw [hy]; exact nI_1 i) (by rw [← hk, show 8 - i = (8 - (i + 1)) + 1 by omega, kDp_step htu (show fW (I a) t' = nI v from hv1) (by omega)]; omega)
  exact L0 9 0 t _ _ rfl (Nat.le_refl _) hx rfl rfl
set_option maxHeartbeats 4000000 in
set_option maxRecDepth 100000 in
theorem c_Mod_accountOf {g : kG} {σ : kS} {I : kI} {q a b c d e f : Nat} (hO : sMod g σ q a b c d e f) (hS : SX (I a)) {x y : Int32} : ct g mX11_accountOf ⟨1, 0, 0, 23⟩ [.ref q, .int x, .int y] σ I (qI (qAccountOf (I a) x y) σ I) := by
  refine ct_of pn11 rfl (Nat.le_of_ble_eq_true rfl) ok_X11_accountOf.1 trivial ?_
  show wp _ _ _ _ _ _ _ _ 0 [some (.ref q), some (.int x), some (.int y), none, none, none, none] []
  have o0 := hO.2.2.2.2.2.2.2.2.2.2.2.2.2.2.2.2.2.2.2.2.1
  have o1 := hO.2.2.2.2.2.2.2.2.2.2.2.2.2.2.2.2.2.2.2.2.2.1
  have o2 := hO.2.2.2.2.2.2.2.2.2.2.2.2.2.2.2.2.2.2.2.2.2.2.1
  have o3 := hO.2.2.2.2.2.2.2.2.2.2.2.2.2.2.2.2.2.2.2.2.2.2.2.1
  have o4 := hO.2.2.2.2.2.2.2.2.2.2.2.2.2.2.2.2.2.2.2.2.2.2.2.2.1
  have o5 := hO.2.2.2.2.2.2.2.2.2.2.2.2.2.2.2.2.2.2.2.2.2.2.2.2.2
  obtain ⟨A1, A2, A3, hT, -⟩ := SX_A hS
  refine w_aload_0 (pc := 0) dX11_accountOf_0 ?_
  refine w_iload_1 (pc := 1) dX11_accountOf_1 ?_
  refine w_callV_I (pc := 2) (c_Mod_isAccount hO) ok_X11_isAccount t902 t20 kc11 hO.1 hO.2.1 t900 ⟨Nat.le_of_ble_eq_true rfl, Nat.le_of_ble_eq_true rfl⟩ ⟨rfl, rfl⟩ ⟨Nat.le_refl _, Nat.le_refl _⟩ rfl (Nat.le_of_ble_eq_true rfl) dX11_accountOf_2 ?_
  refine w_if_eq (pc := 5) (tgt := 17) dX11_accountOf_5 (by decide) (fun c5 => ?_) (fun c5 => ?_)
  · refine w_ldc (pc := 17) (v := -1000001) t813 dX11_accountOf_17 ?_
    refine w_iret (pc := 19) rfl ⟨Nat.le_refl _, Nat.le_refl _⟩ dX11_accountOf_19 ?_
    refine ⟨?_, rfl, rfl⟩
    rw [qAccountOf, if_pos (fun h => b0 c5 h.1)]
  · refine w_iload_2 (pc := 8) dX11_accountOf_8 ?_
    refine w_iconst (pc := 9) (v := 0) dX11_accountOf_9 (by decide) ?_
    refine w_iconst (pc := 10) (v := 4) dX11_accountOf_10 (by decide) ?_
    refine w_callS_I (pc := 11) (c_Mod_in) ok_X11_in t811 t810 ⟨Nat.le_of_ble_eq_true rfl, Nat.le_of_ble_eq_true rfl⟩ ⟨rfl, rfl⟩ ⟨Nat.le_refl _, Nat.le_refl _⟩ rfl (Nat.le_of_ble_eq_true rfl) dX11_accountOf_11 ?_
    refine w_if_ne (pc := 14) (tgt := 20) dX11_accountOf_14 (by decide) (fun c14 => ?_) (fun c14 => ?_)
    · obtain ⟨u, hu, hx⟩ := nx_rl (by omega) A3 (b1 c5)
      obtain ⟨w, hw, hy⟩ := nx_rg (m := 4) (by omega) (b1 c14)
      have tu : tn x = u := tn_of hx (by omega)
      have tw : tn y = w := tn_of hy (by omega)
      refine w_iconst (pc := 20) (v := 0) dX11_accountOf_20 (by decide) ?_
      refine w_istore_3 (pc := 21) dX11_accountOf_21 rfl ?_
      refine w_iconst (pc := 22) (v := 0) dX11_accountOf_22 (by decide) ?_
      refine w_istore_4 (pc := 23) dX11_accountOf_23 rfl ?_
      refine w_iload_1 (pc := 25) dX11_accountOf_25 ?_
      refine w_istore_5 (pc := 26) dX11_accountOf_26 rfl ?_
      have L0 : ∀ (n i : Nat) (s1 s2 z : Int32), u + i ≤ nAc (I a) → nAc (I a) + 1 ≤ u + i + n → s1 = aS (fW (I a)) (fO (I a)) u i → s2 = aS (fW (I a)) (fun _ => 1) u i → z = nI (u + i) → wp g mX11_accountOf ⟨1, 0, 0, 23⟩ (fun _ => True) (qI (qAccountOf (I a) x y) σ I) (0, 0) σ I 28 [some (.ref q), some (.int x), some (.int y), some (.int s1), some (.int s2), some (.int z), none] [] := by
        intro n
        induction n with
        | zero => intro i s1 s2 z h1 h2; exact absurd h2 (by omega)
        | succ n ih =>
          intro i s1 s2 z h1 h2 hs1 hs2 hz
          refine w_iload_5 (pc := 28) dX11_accountOf_28 ?_
          refine w_aload_0 (pc := 30) dX11_accountOf_30 ?_
          refine w_getR (pc := 31) (b := a) kc11 0 hO.1 hO.2.1 rfl hO.2.2.2.2.2.2.2.2.2.2.2.2.2.2.1 t763 dX11_accountOf_31 ?_
          refine w_bipush (pc := 34) (v := 14) dX11_accountOf_34 (by decide) ?_
          refine w_iald (pc := 36) (j := 14) hO.2.2.1 hO.2.2.2.1 rfl (by decide) (by decide) dX11_accountOf_36 ?_
          refine w_icmp_ge (pc := 37) (tgt := 97) dX11_accountOf_37 (by decide) (fun c37 => ?_) (fun c37 => ?_)
          · have hi : u + i = nAc (I a) := by have := (nx_cmp A3 (by omega) hz (by omega)).1.mp c37; omega
            have hi2 : i = nAc (I a) - u := by omega
            subst hi2
            refine w_iload_2 (pc := 97) dX11_accountOf_97 ?_
            refine w_iconst (pc := 98) (v := 2) dX11_accountOf_98 (by decide) ?_
            refine w_icmp_ge (pc := 99) (tgt := 119) dX11_accountOf_99 (by decide) (fun c99 => ?_) (fun c99 => ?_)
            · refine w_iload_2 (pc := 119) dX11_accountOf_119 ?_
              refine w_iconst (pc := 120) (v := 2) dX11_accountOf_120 (by decide) ?_
              refine w_icmp_ne (pc := 121) (tgt := 128) dX11_accountOf_121 (by decide) (fun c121 => ?_) (fun c121 => ?_)
              · refine w_iload_2 (pc := 128) dX11_accountOf_128 ?_
                refine w_iconst (pc := 129) (v := 3) dX11_accountOf_129 (by decide) ?_
                refine w_icmp_ne (pc := 130) (tgt := 140) dX11_accountOf_130 (by decide) (fun c130 => ?_) (fun c130 => ?_)
                · refine w_aload_0 (pc := 140) dX11_accountOf_140 ?_
                  refine w_iload_1 (pc := 141) dX11_accountOf_141 ?_
                  refine w_callV_I (pc := 142) (c_Mod_depth hO hS hx hu) ok_X11_depth t918 t22 kc11 hO.1 hO.2.1 t916 ⟨Nat.le_of_ble_eq_true rfl, Nat.le_of_ble_eq_true rfl⟩ ⟨rfl, rfl⟩ ⟨Nat.le_refl _, Nat.le_refl _⟩ rfl (Nat.le_of_ble_eq_true rfl) dX11_accountOf_142 ?_
                  refine w_iret (pc := 145) rfl ⟨Nat.le_refl _, Nat.le_refl _⟩ dX11_accountOf_145 ?_
                  refine ⟨?_, rfl, rfl⟩
                  rw [qAccountOf, if_neg (fun h => h ⟨b1 c5, b1 c14⟩), if_neg (Int32.not_lt.mpr c99), if_neg c121, if_neg c130, tu]
                · refine w_iload_4 (pc := 133) dX11_accountOf_133 ?_
                  refine w_iconst (pc := 135) (v := 1) dX11_accountOf_135 (by decide) ?_
                  refine w_isub (pc := 136) dX11_accountOf_136 ?_
                  refine w_goto (pc := 137) (tgt := 145) dX11_accountOf_137 (by decide) ?_
                  refine w_iret (pc := 145) rfl ⟨Nat.le_refl _, Nat.le_refl _⟩ dX11_accountOf_145 ?_
                  refine ⟨?_, rfl, rfl⟩
                  rw [qAccountOf, if_neg (fun h => h ⟨b1 c5, b1 c14⟩), if_neg (Int32.not_lt.mpr c99), if_neg c121, if_pos c130, tu, hs2]
              · refine w_iload_3 (pc := 124) dX11_accountOf_124 ?_
                refine w_goto (pc := 125) (tgt := 145) dX11_accountOf_125 (by decide) ?_
                refine w_iret (pc := 145) rfl ⟨Nat.le_refl _, Nat.le_refl _⟩ dX11_accountOf_145 ?_
                refine ⟨?_, rfl, rfl⟩
                rw [qAccountOf, if_neg (fun h => h ⟨b1 c5, b1 c14⟩), if_neg (Int32.not_lt.mpr c99), if_pos c121, tu, hs1]
            · refine w_aload_0 (pc := 102) dX11_accountOf_102 ?_
              refine w_getR (pc := 103) (b := a) kc11 0 hO.1 hO.2.1 rfl hO.2.2.2.2.2.2.2.2.2.2.2.2.2.2.1 t763 dX11_accountOf_103 ?_
              refine w_sipush (pc := 106) (v := 129) dX11_accountOf_106 (by decide) ?_
              refine w_iconst (pc := 109) (v := 2) dX11_accountOf_109 (by decide) ?_
              refine w_iload_1 (pc := 110) dX11_accountOf_110 ?_
              refine w_imul (pc := 111) dX11_accountOf_111 ?_
              refine w_iadd (pc := 112) dX11_accountOf_112 ?_
              refine w_iload_2 (pc := 113) dX11_accountOf_113 ?_
              refine w_iadd (pc := 114) dX11_accountOf_114 ?_
              refine w_iald (pc := 115) (j := 129 + 2 * u + w) hO.2.2.1 hO.2.2.2.1 (nx_add (nx_2 hx rfl) hy) (by have := nx_nle (x := 2) (a := 2) c99 rfl (by omega) hy (by omega); omega) (by decide) dX11_accountOf_115 ?_
              refine w_goto (pc := 116) (tgt := 145) dX11_accountOf_116 (by decide) ?_
              refine w_iret (pc := 145) rfl ⟨Nat.le_refl _, Nat.le_refl _⟩ dX11_accountOf_145 ?_
              refine ⟨?_, rfl, rfl⟩
              rw [qAccountOf, if_neg (fun h => h ⟨b1 c5, b1 c14⟩), if_pos (Int32.not_le.mp c99), tu, tw]
          · have hi : u + i < nAc (I a) := nx_nle c37 A3 (by omega) hz (by omega)
            refine w_aload_0 (pc := 40) dX11_accountOf_40 ?_
            refine w_iload_5 (pc := 41) dX11_accountOf_41 ?_
            refine w_iload_1 (pc := 43) dX11_accountOf_43 ?_
            refine w_callV_I (pc := 44) (c_Mod_isUnder hO hS hz hi hx hu) ok_X11_isUnder t914 t21 kc11 hO.1 hO.2.1 t912 ⟨Nat.le_of_ble_eq_true rfl, Nat.le_of_ble_eq_true rfl⟩ ⟨rfl, rfl⟩ ⟨Nat.le_refl _, Nat.le_refl _⟩ rfl (Nat.le_of_ble_eq_true rfl) dX11_accountOf_44 ?_
            refine w_istore_6 (pc := 47) dX11_accountOf_47 rfl ?_
            refine w_iload_3 (pc := 49) dX11_accountOf_49 ?_
            refine w_iload_6 (pc := 50) dX11_accountOf_50 ?_
            refine w_if_eq (pc := 52) (tgt := 73) dX11_accountOf_52 (by decide) (fun c52 => ?_) (fun c52 => ?_)
            · refine w_iconst (pc := 73) (v := 0) dX11_accountOf_73 (by decide) ?_
              refine w_iadd (pc := 74) dX11_accountOf_74 ?_
              refine w_istore_3 (pc := 75) dX11_accountOf_75 rfl ?_
              refine w_iload_4 (pc := 76) dX11_accountOf_76 ?_
              refine w_iload_6 (pc := 78) dX11_accountOf_78 ?_
              refine w_if_eq (pc := 80) (tgt := 87) dX11_accountOf_80 (by decide) (fun c80 => ?_) (fun c80 => ?_)
              · refine w_iconst (pc := 87) (v := 0) dX11_accountOf_87 (by decide) ?_
                refine w_iadd (pc := 88) dX11_accountOf_88 ?_
                refine w_istore_4 (pc := 89) dX11_accountOf_89 rfl ?_
                refine w_iinc_5 (pc := 91) dX11_accountOf_91 rfl rfl ?_
                refine w_goto (pc := 94) (tgt := 28) dX11_accountOf_94 (by decide) ?_
                refine w_drop 6 ?_
                exact ih (i + 1) _ _ _ (by omega) (by omega) (by rw [aS_succ, hs1, if_neg (b0 c52)]) (by rw [aS_succ, hs2, if_neg (b0 c52)]) (by rw [hz]; exact nI_1 _)
              · exact absurd c52 c80
            · refine w_aload_0 (pc := 55) dX11_accountOf_55 ?_
              refine w_getR (pc := 56) (b := a) kc11 0 hO.1 hO.2.1 rfl hO.2.2.2.2.2.2.2.2.2.2.2.2.2.2.1 t763 dX11_accountOf_56 ?_
              refine w_sipush (pc := 59) (v := 129) dX11_accountOf_59 (by decide) ?_
              refine w_iconst (pc := 62) (v := 2) dX11_accountOf_62 (by decide) ?_
              refine w_iload_5 (pc := 63) dX11_accountOf_63 ?_
              refine w_imul (pc := 65) dX11_accountOf_65 ?_
              refine w_iadd (pc := 66) dX11_accountOf_66 ?_
              refine w_iconst (pc := 67) (v := 1) dX11_accountOf_67 (by decide) ?_
              refine w_iadd (pc := 68) dX11_accountOf_68 ?_
              refine w_iald (pc := 69) (j := 130 + 2 * (u + i)) hO.2.2.1 hO.2.2.2.1 (by rw [nx_2 (z := 129) (c := 129) hz rfl, nI_1]; congr 1; omega) (by omega) (by decide) dX11_accountOf_69 ?_
              refine w_goto (pc := 70) (tgt := 74) dX11_accountOf_70 (by decide) ?_
              refine w_iadd (pc := 74) dX11_accountOf_74 ?_
              refine w_istore_3 (pc := 75) dX11_accountOf_75 rfl ?_
              refine w_iload_4 (pc := 76) dX11_accountOf_76 ?_
              refine w_iload_6 (pc := 78) dX11_accountOf_78 ?_
              refine w_if_eq (pc := 80) (tgt := 87) dX11_accountOf_80 (by decide) (fun c80 => ?_) (fun c80 => ?_)
              · exact absurd c80 c52
              · refine w_iconst (pc := 83) (v := 1) dX11_accountOf_83 (by decide) ?_
                refine w_goto (pc := 84) (tgt := 88) dX11_accountOf_84 (by decide) ?_
                refine w_iadd (pc := 88) dX11_accountOf_88 ?_
                refine w_istore_4 (pc := 89) dX11_accountOf_89 rfl ?_
                refine w_iinc_5 (pc := 91) dX11_accountOf_91 rfl rfl ?_
                refine w_goto (pc := 94) (tgt := 28) dX11_accountOf_94 (by decide) ?_
                refine w_drop 6 ?_
                exact ih (i + 1) _ _ _ (by omega) (by omega) (by rw [aS_succ, hs1, if_pos (b1 c52)]; rfl) (by rw [aS_succ, hs2, if_pos (b1 c52)]) (by rw [hz]; exact nI_1 _)
      exact L0 (nAc (I a) + 1) 0 _ _ _ (by omega) (by omega) rfl rfl hx
    · refine w_ldc (pc := 17) (v := -1000001) t813 dX11_accountOf_17 ?_
      refine w_iret (pc := 19) rfl ⟨Nat.le_refl _, Nat.le_refl _⟩ dX11_accountOf_19 ?_
      refine ⟨?_, rfl, rfl⟩
      rw [qAccountOf, if_pos (fun h => b0 c14 h.2)]
set_option maxHeartbeats 4000000 in
set_option maxRecDepth 100000 in
theorem c_Mod_massAt {g : kG} {σ : kS} {I : kI} {q a b c d e f : Nat} (hO : sMod g σ q a b c d e f) {x y : Int32} : ct g mX11_massAt ⟨1, 0, 0, 24⟩ [.ref q, .int x, .int y] σ I (qI (qMassAt (I a) x y) σ I) := by
  refine ct_of pn11 rfl (Nat.le_of_ble_eq_true rfl) ok_X11_massAt.1 trivial ?_
  show wp _ _ _ _ _ _ _ _ 0 [some (.ref q), some (.int x), some (.int y)] []
  have o0 := hO.2.2.2.2.2.2.2.2.2.2.2.2.2.2.2.2.2.2.2.2.1
  have o1 := hO.2.2.2.2.2.2.2.2.2.2.2.2.2.2.2.2.2.2.2.2.2.1
  have o2 := hO.2.2.2.2.2.2.2.2.2.2.2.2.2.2.2.2.2.2.2.2.2.2.1
  have o3 := hO.2.2.2.2.2.2.2.2.2.2.2.2.2.2.2.2.2.2.2.2.2.2.2.1
  have o4 := hO.2.2.2.2.2.2.2.2.2.2.2.2.2.2.2.2.2.2.2.2.2.2.2.2.1
  have o5 := hO.2.2.2.2.2.2.2.2.2.2.2.2.2.2.2.2.2.2.2.2.2.2.2.2.2
  refine w_iload_1 (pc := 0) dX11_massAt_0 ?_
  refine w_iconst (pc := 1) (v := 0) dX11_massAt_1 (by decide) ?_
  refine w_bipush (pc := 2) (v := 11) dX11_massAt_2 (by decide) ?_
  refine w_callS_I (pc := 4) (c_Mod_in) ok_X11_in t811 t810 ⟨Nat.le_of_ble_eq_true rfl, Nat.le_of_ble_eq_true rfl⟩ ⟨rfl, rfl⟩ ⟨Nat.le_refl _, Nat.le_refl _⟩ rfl (Nat.le_of_ble_eq_true rfl) dX11_massAt_4 ?_
  refine w_if_eq (pc := 7) (tgt := 19) dX11_massAt_7 (by decide) (fun c7 => ?_) (fun c7 => ?_)
  · refine w_ldc (pc := 19) (v := -1000001) t813 dX11_massAt_19 ?_
    refine w_iret (pc := 21) rfl ⟨Nat.le_refl _, Nat.le_refl _⟩ dX11_massAt_21 ?_
    refine ⟨?_, rfl, rfl⟩
    rw [qMassAt, if_pos (fun h => b0 c7 h.1)]
  · refine w_iload_2 (pc := 10) dX11_massAt_10 ?_
    refine w_iconst (pc := 11) (v := -1) dX11_massAt_11 (by decide) ?_
    refine w_iconst (pc := 12) (v := 3) dX11_massAt_12 (by decide) ?_
    refine w_callS_I (pc := 13) (c_Mod_in) ok_X11_in t811 t810 ⟨Nat.le_of_ble_eq_true rfl, Nat.le_of_ble_eq_true rfl⟩ ⟨rfl, rfl⟩ ⟨Nat.le_refl _, Nat.le_refl _⟩ rfl (Nat.le_of_ble_eq_true rfl) dX11_massAt_13 ?_
    refine w_if_ne (pc := 16) (tgt := 22) dX11_massAt_16 (by decide) (fun c16 => ?_) (fun c16 => ?_)
    · obtain ⟨u, hu, hx⟩ := nx_rg (m := 11) (by omega) (b1 c7)
      have tu : tn x = u := tn_of hx (by omega)
      refine w_iload_2 (pc := 22) dX11_massAt_22 ?_
      refine w_if_ge (pc := 23) (tgt := 35) dX11_massAt_23 (by decide) (fun c23 => ?_) (fun c23 => ?_)
      · obtain ⟨w, hw, hy⟩ := nx_rg (m := 3) (by omega) ⟨c23, (b1 c16).2⟩
        have tw : tn y = w := tn_of hy (by omega)
        refine w_aload_0 (pc := 35) dX11_massAt_35 ?_
        refine w_getR (pc := 36) (b := a) kc11 0 hO.1 hO.2.1 rfl hO.2.2.2.2.2.2.2.2.2.2.2.2.2.2.1 t763 dX11_massAt_36 ?_
        refine w_bipush (pc := 39) (v := 21) dX11_massAt_39 (by decide) ?_
        refine w_iconst (pc := 41) (v := 4) dX11_massAt_41 (by decide) ?_
        refine w_iload_1 (pc := 42) dX11_massAt_42 ?_
        refine w_imul (pc := 43) dX11_massAt_43 ?_
        refine w_iadd (pc := 44) dX11_massAt_44 ?_
        refine w_iload_2 (pc := 45) dX11_massAt_45 ?_
        refine w_iadd (pc := 46) dX11_massAt_46 ?_
        refine w_iald (pc := 47) (j := 21 + 4 * u + w) hO.2.2.1 hO.2.2.2.1 (nx_add (nx_c4 hx rfl) hy) (by omega) (by decide) dX11_massAt_47 ?_
        refine w_iret (pc := 48) rfl ⟨Nat.le_refl _, Nat.le_refl _⟩ dX11_massAt_48 ?_
        refine ⟨?_, rfl, rfl⟩
        rw [qMassAt, if_neg (fun h => h ⟨b1 c7, b1 c16⟩), if_neg (Int32.not_lt.mpr c23), tu, tw]
      · refine w_aload_0 (pc := 26) dX11_massAt_26 ?_
        refine w_iload_1 (pc := 27) dX11_massAt_27 ?_
        refine w_iload_1 (pc := 28) dX11_massAt_28 ?_
        refine w_callV_I (pc := 29) (c_Mod_mass hO (u := u) (v := 0) hx hx (by omega)) ok_X11_mass t842 t11 kc11 hO.1 hO.2.1 t840 ⟨Nat.le_of_ble_eq_true rfl, Nat.le_of_ble_eq_true rfl⟩ ⟨rfl, rfl⟩ ⟨Nat.le_refl _, Nat.le_refl _⟩ rfl (Nat.le_of_ble_eq_true rfl) dX11_massAt_29 ?_
        refine w_goto (pc := 32) (tgt := 48) dX11_massAt_32 (by decide) ?_
        refine w_iret (pc := 48) rfl ⟨Nat.le_refl _, Nat.le_refl _⟩ dX11_massAt_48 ?_
        refine ⟨?_, rfl, rfl⟩
        rw [qMassAt, if_neg (fun h => h ⟨b1 c7, b1 c16⟩), if_pos (Int32.not_le.mp c23), tu]
    · refine w_ldc (pc := 19) (v := -1000001) t813 dX11_massAt_19 ?_
      refine w_iret (pc := 21) rfl ⟨Nat.le_refl _, Nat.le_refl _⟩ dX11_massAt_21 ?_
      refine ⟨?_, rfl, rfl⟩
      rw [qMassAt, if_pos (fun h => b0 c16 h.2)]
set_option maxHeartbeats 4000000 in
set_option maxRecDepth 100000 in
theorem c_Mod_lotOf {g : kG} {σ : kS} {I : kI} {q a b c d e f : Nat} (hO : sMod g σ q a b c d e f) (hS : SX (I a)) {x y : Int32} : ct g mX11_lotOf ⟨1, 0, 0, 22⟩ [.ref q, .int x, .int y] σ I (qI (qLotOf (I a) x y) σ I) := by
  refine ct_of pn11 rfl (Nat.le_of_ble_eq_true rfl) ok_X11_lotOf.1 trivial ?_
  show wp _ _ _ _ _ _ _ _ 0 [some (.ref q), some (.int x), some (.int y)] []
  have o0 := hO.2.2.2.2.2.2.2.2.2.2.2.2.2.2.2.2.2.2.2.2.1
  have o1 := hO.2.2.2.2.2.2.2.2.2.2.2.2.2.2.2.2.2.2.2.2.2.1
  have o2 := hO.2.2.2.2.2.2.2.2.2.2.2.2.2.2.2.2.2.2.2.2.2.2.1
  have o3 := hO.2.2.2.2.2.2.2.2.2.2.2.2.2.2.2.2.2.2.2.2.2.2.2.1
  have o4 := hO.2.2.2.2.2.2.2.2.2.2.2.2.2.2.2.2.2.2.2.2.2.2.2.2.1
  have o5 := hO.2.2.2.2.2.2.2.2.2.2.2.2.2.2.2.2.2.2.2.2.2.2.2.2.2
  obtain ⟨l1, l2, -⟩ := SX_L hS
  refine w_iload_1 (pc := 0) dX11_lotOf_0 ?_
  refine w_if_lt (pc := 1) (tgt := 13) dX11_lotOf_1 (by decide) (fun c1 => ?_) (fun c1 => ?_)
  · refine w_ldc (pc := 13) (v := -1000001) t813 dX11_lotOf_13 ?_
    refine w_iret (pc := 15) rfl ⟨Nat.le_refl _, Nat.le_refl _⟩ dX11_lotOf_15 ?_
    refine ⟨?_, rfl, rfl⟩
    rw [qLotOf, if_pos (Or.inl c1)]
  · refine w_iload_2 (pc := 4) dX11_lotOf_4 ?_
    refine w_iconst (pc := 5) (v := 0) dX11_lotOf_5 (by decide) ?_
    refine w_iconst (pc := 6) (v := 1) dX11_lotOf_6 (by decide) ?_
    refine w_callS_I (pc := 7) (c_Mod_in) ok_X11_in t811 t810 ⟨Nat.le_of_ble_eq_true rfl, Nat.le_of_ble_eq_true rfl⟩ ⟨rfl, rfl⟩ ⟨Nat.le_refl _, Nat.le_refl _⟩ rfl (Nat.le_of_ble_eq_true rfl) dX11_lotOf_7 ?_
    refine w_if_ne (pc := 10) (tgt := 16) dX11_lotOf_10 (by decide) (fun c10 => ?_) (fun c10 => ?_)
    · refine w_iload_1 (pc := 16) dX11_lotOf_16 ?_
      refine w_aload_0 (pc := 17) dX11_lotOf_17 ?_
      refine w_getR (pc := 18) (b := a) kc11 0 hO.1 hO.2.1 rfl hO.2.2.2.2.2.2.2.2.2.2.2.2.2.2.1 t763 dX11_lotOf_18 ?_
      refine w_bipush (pc := 21) (v := 13) dX11_lotOf_21 (by decide) ?_
      refine w_iald (pc := 23) (j := 13) hO.2.2.1 hO.2.2.2.1 rfl (by decide) (by decide) dX11_lotOf_23 ?_
      refine w_icmp_lt (pc := 24) (tgt := 32) dX11_lotOf_24 (by decide) (fun c24 => ?_) (fun c24 => ?_)
      · obtain ⟨u, hu, hx⟩ := nx_rl (by omega) l2 ⟨Int32.not_lt.mp c1, c24⟩
        obtain ⟨w, hw, hy⟩ := nx_rg (m := 1) (by omega) (b1 c10)
        have tu : tn x = u := tn_of hx (by omega)
        have tw : tn y = w := tn_of hy (by omega)
        refine w_aload_0 (pc := 32) dX11_lotOf_32 ?_
        refine w_getR (pc := 33) (b := a) kc11 0 hO.1 hO.2.1 rfl hO.2.2.2.2.2.2.2.2.2.2.2.2.2.2.1 t763 dX11_lotOf_33 ?_
        refine w_bipush (pc := 36) (v := 69) dX11_lotOf_36 (by decide) ?_
        refine w_iconst (pc := 38) (v := 2) dX11_lotOf_38 (by decide) ?_
        refine w_iload_1 (pc := 39) dX11_lotOf_39 ?_
        refine w_imul (pc := 40) dX11_lotOf_40 ?_
        refine w_iadd (pc := 41) dX11_lotOf_41 ?_
        refine w_iload_2 (pc := 42) dX11_lotOf_42 ?_
        refine w_iadd (pc := 43) dX11_lotOf_43 ?_
        refine w_iald (pc := 44) (j := 69 + 2 * u + w) hO.2.2.1 hO.2.2.2.1 (nx_add (nx_2 hx rfl) hy) (by omega) (by decide) dX11_lotOf_44 ?_
        refine w_iret (pc := 45) rfl ⟨Nat.le_refl _, Nat.le_refl _⟩ dX11_lotOf_45 ?_
        refine ⟨?_, rfl, rfl⟩
        rw [qLotOf, if_neg (fun h => h.elim c1 (fun h => h (b1 c10))), if_neg (Int32.not_le.mpr c24), tu, tw]
      · refine w_ldc (pc := 27) (v := -1000004) t762 dX11_lotOf_27 ?_
        refine w_goto (pc := 29) (tgt := 45) dX11_lotOf_29 (by decide) ?_
        refine w_iret (pc := 45) rfl ⟨Nat.le_refl _, Nat.le_refl _⟩ dX11_lotOf_45 ?_
        refine ⟨?_, rfl, rfl⟩
        rw [qLotOf, if_neg (fun h => h.elim c1 (fun h => h (b1 c10))), if_pos (Int32.not_lt.mp c24)]
    · refine w_ldc (pc := 13) (v := -1000001) t813 dX11_lotOf_13 ?_
      refine w_iret (pc := 15) rfl ⟨Nat.le_refl _, Nat.le_refl _⟩ dX11_lotOf_15 ?_
      refine ⟨?_, rfl, rfl⟩
      rw [qLotOf, if_pos (Or.inr (b0 c10))]
set_option maxHeartbeats 4000000 in
set_option maxRecDepth 100000 in
theorem c_Mod_binOf {g : kG} {σ : kS} {I : kI} {q a b c d e f : Nat} (hO : sMod g σ q a b c d e f) (hS : SX (I a)) {x y : Int32} : ct g mX11_binOf ⟨1, 0, 0, 22⟩ [.ref q, .int x, .int y] σ I (qI (qBinOf (I a) x y) σ I) := by
  refine ct_of pn11 rfl (Nat.le_of_ble_eq_true rfl) ok_X11_binOf.1 trivial ?_
  show wp _ _ _ _ _ _ _ _ 0 [some (.ref q), some (.int x), some (.int y)] []
  have o0 := hO.2.2.2.2.2.2.2.2.2.2.2.2.2.2.2.2.2.2.2.2.1
  have o1 := hO.2.2.2.2.2.2.2.2.2.2.2.2.2.2.2.2.2.2.2.2.2.1
  have o2 := hO.2.2.2.2.2.2.2.2.2.2.2.2.2.2.2.2.2.2.2.2.2.2.1
  have o3 := hO.2.2.2.2.2.2.2.2.2.2.2.2.2.2.2.2.2.2.2.2.2.2.2.1
  have o4 := hO.2.2.2.2.2.2.2.2.2.2.2.2.2.2.2.2.2.2.2.2.2.2.2.2.1
  have o5 := hO.2.2.2.2.2.2.2.2.2.2.2.2.2.2.2.2.2.2.2.2.2.2.2.2.2
  obtain ⟨B1, B2⟩ := SX_B hS
  refine w_aload_0 (pc := 0) dX11_binOf_0 ?_
  refine w_iload_1 (pc := 1) dX11_binOf_1 ?_
  refine w_callV_I (pc := 2) (c_Mod_isBin hO) ok_X11_isBin t883 t18 kc11 hO.1 hO.2.1 t881 ⟨Nat.le_of_ble_eq_true rfl, Nat.le_of_ble_eq_true rfl⟩ ⟨rfl, rfl⟩ ⟨Nat.le_refl _, Nat.le_refl _⟩ rfl (Nat.le_of_ble_eq_true rfl) dX11_binOf_2 ?_
  refine w_if_eq (pc := 5) (tgt := 18) dX11_binOf_5 (by decide) (fun c5 => ?_) (fun c5 => ?_)
  · refine w_ldc (pc := 18) (v := -1000001) t813 dX11_binOf_18 ?_
    refine w_iret (pc := 20) rfl ⟨Nat.le_refl _, Nat.le_refl _⟩ dX11_binOf_20 ?_
    refine ⟨?_, rfl, rfl⟩
    rw [qBinOf, if_pos (fun h => b0 c5 h.1)]
  · refine w_iload_2 (pc := 8) dX11_binOf_8 ?_
    refine w_iconst (pc := 9) (v := 0) dX11_binOf_9 (by decide) ?_
    refine w_bipush (pc := 10) (v := 6) dX11_binOf_10 (by decide) ?_
    refine w_callS_I (pc := 12) (c_Mod_in) ok_X11_in t811 t810 ⟨Nat.le_of_ble_eq_true rfl, Nat.le_of_ble_eq_true rfl⟩ ⟨rfl, rfl⟩ ⟨Nat.le_refl _, Nat.le_refl _⟩ rfl (Nat.le_of_ble_eq_true rfl) dX11_binOf_12 ?_
    refine w_if_ne (pc := 15) (tgt := 21) dX11_binOf_15 (by decide) (fun c15 => ?_) (fun c15 => ?_)
    · obtain ⟨u, hu, hx⟩ := nx_rl (by omega) B2 (b1 c5)
      obtain ⟨w, hw, hy⟩ := nx_rg (m := 6) (by omega) (b1 c15)
      have tu : tn x = u := tn_of hx (by omega)
      have tw : tn y = w := tn_of hy (by omega)
      refine w_iload_2 (pc := 21) dX11_binOf_21 ?_
      refine w_iconst (pc := 22) (v := 4) dX11_binOf_22 (by decide) ?_
      refine w_icmp_ge (pc := 23) (tgt := 43) dX11_binOf_23 (by decide) (fun c23 => ?_) (fun c23 => ?_)
      · refine w_iload_2 (pc := 43) dX11_binOf_43 ?_
        refine w_iconst (pc := 44) (v := 4) dX11_binOf_44 (by decide) ?_
        refine w_icmp_ne (pc := 45) (tgt := 56) dX11_binOf_45 (by decide) (fun c45 => ?_) (fun c45 => ?_)
        · refine w_iload_2 (pc := 56) dX11_binOf_56 ?_
          refine w_iconst (pc := 57) (v := 5) dX11_binOf_57 (by decide) ?_
          refine w_icmp_ne (pc := 58) (tgt := 81) dX11_binOf_58 (by decide) (fun c58 => ?_) (fun c58 => ?_)
          · refine w_aload_0 (pc := 81) dX11_binOf_81 ?_
            refine w_getR (pc := 82) (b := a) kc11 0 hO.1 hO.2.1 rfl hO.2.2.2.2.2.2.2.2.2.2.2.2.2.2.1 t763 dX11_binOf_82 ?_
            refine w_bipush (pc := 85) (v := 81) dX11_binOf_85 (by decide) ?_
            refine w_bipush (pc := 87) (v := 6) dX11_binOf_87 (by decide) ?_
            refine w_iload_1 (pc := 89) dX11_binOf_89 ?_
            refine w_imul (pc := 90) dX11_binOf_90 ?_
            refine w_iadd (pc := 91) dX11_binOf_91 ?_
            refine w_iconst (pc := 92) (v := 5) dX11_binOf_92 (by decide) ?_
            refine w_iadd (pc := 93) dX11_binOf_93 ?_
            refine w_iald (pc := 94) (j := 86 + 6 * u) hO.2.2.1 hO.2.2.2.1 (by rw [nx_6 hx (z := 81) (c := 81) rfl, show (5 : Int32) = nI 5 from rfl, nI_add]; congr 1; omega) (by omega) (by decide) dX11_binOf_94 ?_
            refine w_iret (pc := 95) rfl ⟨Nat.le_refl _, Nat.le_refl _⟩ dX11_binOf_95 ?_
            refine ⟨?_, rfl, rfl⟩
            rw [qBinOf, if_neg (fun h => h ⟨b1 c5, b1 c15⟩), if_neg (Int32.not_lt.mpr c23), if_neg c45, if_neg c58, tu]
          · refine w_aload_0 (pc := 61) dX11_binOf_61 ?_
            refine w_getR (pc := 62) (b := a) kc11 0 hO.1 hO.2.1 rfl hO.2.2.2.2.2.2.2.2.2.2.2.2.2.2.1 t763 dX11_binOf_62 ?_
            refine w_bipush (pc := 65) (v := 81) dX11_binOf_65 (by decide) ?_
            refine w_bipush (pc := 67) (v := 6) dX11_binOf_67 (by decide) ?_
            refine w_iload_1 (pc := 69) dX11_binOf_69 ?_
            refine w_imul (pc := 70) dX11_binOf_70 ?_
            refine w_iadd (pc := 71) dX11_binOf_71 ?_
            refine w_iconst (pc := 72) (v := 4) dX11_binOf_72 (by decide) ?_
            refine w_iadd (pc := 73) dX11_binOf_73 ?_
            refine w_iald (pc := 74) (j := 85 + 6 * u) hO.2.2.1 hO.2.2.2.1 (by rw [nx_6 hx (z := 81) (c := 81) rfl, show (4 : Int32) = nI 4 from rfl, nI_add]; congr 1; omega) (by omega) (by decide) dX11_binOf_74 ?_
            refine w_ldc (pc := 75) (v := 1000000000) t932 dX11_binOf_75 ?_
            refine w_iadd (pc := 77) dX11_binOf_77 ?_
            refine w_goto (pc := 78) (tgt := 95) dX11_binOf_78 (by decide) ?_
            refine w_iret (pc := 95) rfl ⟨Nat.le_refl _, Nat.le_refl _⟩ dX11_binOf_95 ?_
            refine ⟨?_, rfl, rfl⟩
            rw [qBinOf, if_neg (fun h => h ⟨b1 c5, b1 c15⟩), if_neg (Int32.not_lt.mpr c23), if_neg c45, if_pos c58, tu]
        · refine w_aload_0 (pc := 48) dX11_binOf_48 ?_
          refine w_iload_1 (pc := 49) dX11_binOf_49 ?_
          refine w_callV_I (pc := 50) (c_Mod_binMass hO hx (by omega)) ok_X11_binMass t888 t19 kc11 hO.1 hO.2.1 t886 ⟨Nat.le_of_ble_eq_true rfl, Nat.le_of_ble_eq_true rfl⟩ ⟨rfl, rfl⟩ ⟨Nat.le_refl _, Nat.le_refl _⟩ rfl (Nat.le_of_ble_eq_true rfl) dX11_binOf_50 ?_
          refine w_goto (pc := 53) (tgt := 95) dX11_binOf_53 (by decide) ?_
          refine w_iret (pc := 95) rfl ⟨Nat.le_refl _, Nat.le_refl _⟩ dX11_binOf_95 ?_
          refine ⟨?_, rfl, rfl⟩
          rw [qBinOf, if_neg (fun h => h ⟨b1 c5, b1 c15⟩), if_neg (Int32.not_lt.mpr c23), if_pos c45, tu]
      · refine w_aload_0 (pc := 26) dX11_binOf_26 ?_
        refine w_getR (pc := 27) (b := a) kc11 0 hO.1 hO.2.1 rfl hO.2.2.2.2.2.2.2.2.2.2.2.2.2.2.1 t763 dX11_binOf_27 ?_
        refine w_bipush (pc := 30) (v := 81) dX11_binOf_30 (by decide) ?_
        refine w_bipush (pc := 32) (v := 6) dX11_binOf_32 (by decide) ?_
        refine w_iload_1 (pc := 34) dX11_binOf_34 ?_
        refine w_imul (pc := 35) dX11_binOf_35 ?_
        refine w_iadd (pc := 36) dX11_binOf_36 ?_
        refine w_iload_2 (pc := 37) dX11_binOf_37 ?_
        refine w_iadd (pc := 38) dX11_binOf_38 ?_
        refine w_iald (pc := 39) (j := 81 + 6 * u + w) hO.2.2.1 hO.2.2.2.1 (nx_add (nx_6 hx rfl) hy) (by have := nx_nle (x := 4) (a := 4) c23 rfl (by omega) hy (by omega); omega) (by decide) dX11_binOf_39 ?_
        refine w_goto (pc := 40) (tgt := 95) dX11_binOf_40 (by decide) ?_
        refine w_iret (pc := 95) rfl ⟨Nat.le_refl _, Nat.le_refl _⟩ dX11_binOf_95 ?_
        refine ⟨?_, rfl, rfl⟩
        rw [qBinOf, if_neg (fun h => h ⟨b1 c5, b1 c15⟩), if_pos (Int32.not_le.mp c23), tu, tw]
    · refine w_ldc (pc := 18) (v := -1000001) t813 dX11_binOf_18 ?_
      refine w_iret (pc := 20) rfl ⟨Nat.le_refl _, Nat.le_refl _⟩ dX11_binOf_20 ?_
      refine ⟨?_, rfl, rfl⟩
      rw [qBinOf, if_pos (fun h => b0 c15 h.2)]
set_option maxHeartbeats 4000000 in
set_option maxRecDepth 100000 in
theorem c_Mod_total {g : kG} {σ : kS} {I : kI} {q a b c d e f : Nat} (hO : sMod g σ q a b c d e f)  : ct g mX11_total ⟨0, 0, 0, 0⟩ [.ref q] σ I (qI (qTotal (I a)) σ I) := by
  refine ct_of pn11 rfl (Nat.le_of_ble_eq_true rfl) ok_X11_total.1 trivial ?_
  show wp _ _ _ _ _ _ _ _ 0 [some (.ref q)] []
  have o0 := hO.2.2.2.2.2.2.2.2.2.2.2.2.2.2.2.2.2.2.2.2.1
  have o1 := hO.2.2.2.2.2.2.2.2.2.2.2.2.2.2.2.2.2.2.2.2.2.1
  have o2 := hO.2.2.2.2.2.2.2.2.2.2.2.2.2.2.2.2.2.2.2.2.2.2.1
  have o3 := hO.2.2.2.2.2.2.2.2.2.2.2.2.2.2.2.2.2.2.2.2.2.2.2.1
  have o4 := hO.2.2.2.2.2.2.2.2.2.2.2.2.2.2.2.2.2.2.2.2.2.2.2.2.1
  have o5 := hO.2.2.2.2.2.2.2.2.2.2.2.2.2.2.2.2.2.2.2.2.2.2.2.2.2
  refine w_aload_0 (pc := 0) dX11_total_0 ?_
  refine w_getR (pc := 1) (b := a) kc11 0 hO.1 hO.2.1 rfl hO.2.2.2.2.2.2.2.2.2.2.2.2.2.2.1 t763 dX11_total_1 ?_
  refine w_iconst (pc := 4) (v := 5) dX11_total_4 (by decide) ?_
  refine w_iald (pc := 5) (j := 5) hO.2.2.1 hO.2.2.2.1 rfl (by decide) (by decide) dX11_total_5 ?_
  refine w_i2l (pc := 6) dX11_total_6 ?_
  refine w_aload_0 (pc := 7) dX11_total_7 ?_
  refine w_getR (pc := 8) (b := a) kc11 0 hO.1 hO.2.1 rfl hO.2.2.2.2.2.2.2.2.2.2.2.2.2.2.1 t763 dX11_total_8 ?_
  refine w_bipush (pc := 11) (v := 7) dX11_total_11 (by decide) ?_
  refine w_iald (pc := 13) (j := 7) hO.2.2.1 hO.2.2.2.1 rfl (by decide) (by decide) dX11_total_13 ?_
  refine w_i2l (pc := 14) dX11_total_14 ?_
  refine w_lmul (pc := 15) dX11_total_15 ?_
  refine w_ldc2 (pc := 16) (v := 1000) t885 dX11_total_16 ?_
  refine w_ldiv (pc := 19) dX11_total_19 (by decide) ?_
  refine w_l2i (pc := 20) dX11_total_20 ?_
  refine w_iret (pc := 21) rfl ⟨Nat.le_refl _, Nat.le_refl _⟩ dX11_total_21 ?_
  exact ⟨rfl, rfl, rfl⟩
set_option maxHeartbeats 4000000 in
set_option maxRecDepth 100000 in
theorem c_Mod_scale {g : kG} {σ : kS} {I : kI} {q a b c d e f : Nat} (hO : sMod g σ q a b c d e f) {x : Int32} : ct g mX11_scale ⟨2, 0, 0, 44⟩ [.ref q, .int x] σ I (qI (qScale (I a) x) σ I) := by
  refine ct_of pn11 rfl (Nat.le_of_ble_eq_true rfl) ok_X11_scale.1 trivial ?_
  show wp _ _ _ _ _ _ _ _ 0 [some (.ref q), some (.int x)] []
  have o0 := hO.2.2.2.2.2.2.2.2.2.2.2.2.2.2.2.2.2.2.2.2.1
  have o1 := hO.2.2.2.2.2.2.2.2.2.2.2.2.2.2.2.2.2.2.2.2.2.1
  have o2 := hO.2.2.2.2.2.2.2.2.2.2.2.2.2.2.2.2.2.2.2.2.2.2.1
  have o3 := hO.2.2.2.2.2.2.2.2.2.2.2.2.2.2.2.2.2.2.2.2.2.2.2.1
  have o4 := hO.2.2.2.2.2.2.2.2.2.2.2.2.2.2.2.2.2.2.2.2.2.2.2.2.1
  have o5 := hO.2.2.2.2.2.2.2.2.2.2.2.2.2.2.2.2.2.2.2.2.2.2.2.2.2
  refine w_iload_1 (pc := 0) dX11_scale_0 ?_
  refine w_name (fun y1 e1 => ?_)
  by_cases s1_0 : y1 = 0
  · subst s1_0
    refine w_tableIn (pc := 1) (tgt := 44) (off := 43) dX11_scale_1 (by decide) (by decide) (by decide) (by decide) ?_
    refine w_aload_0 (pc := 44) dX11_scale_44 ?_
    refine w_callV_I (pc := 45) (c_Mod_reading hO) ok_X11_reading t870 t17 kc11 hO.1 hO.2.1 t868 ⟨Nat.le_of_ble_eq_true rfl, Nat.le_of_ble_eq_true rfl⟩ ⟨rfl, rfl⟩ ⟨Nat.le_refl _, Nat.le_refl _⟩ rfl (Nat.le_of_ble_eq_true rfl) dX11_scale_45 ?_
    refine w_ldc (pc := 48) (v := 1000000) t876 dX11_scale_48 ?_
    refine w_iadd (pc := 50) dX11_scale_50 ?_
    refine w_iret (pc := 51) rfl ⟨Nat.le_refl _, Nat.le_refl _⟩ dX11_scale_51 ?_
    refine ⟨?_, rfl, rfl⟩
    rw [← e1]; rfl
  by_cases s1_1 : y1 = 1
  · subst s1_1
    refine w_tableIn (pc := 1) (tgt := 52) (off := 51) dX11_scale_1 (by decide) (by decide) (by decide) (by decide) ?_
    refine w_aload_0 (pc := 52) dX11_scale_52 ?_
    refine w_getR (pc := 53) (b := a) kc11 0 hO.1 hO.2.1 rfl hO.2.2.2.2.2.2.2.2.2.2.2.2.2.2.1 t763 dX11_scale_53 ?_
    refine w_iconst (pc := 56) (v := 3) dX11_scale_56 (by decide) ?_
    refine w_iald (pc := 57) (j := 3) hO.2.2.1 hO.2.2.2.1 rfl (by decide) (by decide) dX11_scale_57 ?_
    refine w_ldc (pc := 58) (v := 1000000) t876 dX11_scale_58 ?_
    refine w_iadd (pc := 60) dX11_scale_60 ?_
    refine w_iret (pc := 61) rfl ⟨Nat.le_refl _, Nat.le_refl _⟩ dX11_scale_61 ?_
    refine ⟨?_, rfl, rfl⟩
    rw [← e1]; rfl
  by_cases s1_2 : y1 = 2
  · subst s1_2
    refine w_tableIn (pc := 1) (tgt := 62) (off := 61) dX11_scale_1 (by decide) (by decide) (by decide) (by decide) ?_
    refine w_aload_0 (pc := 62) dX11_scale_62 ?_
    refine w_getR (pc := 63) (b := a) kc11 0 hO.1 hO.2.1 rfl hO.2.2.2.2.2.2.2.2.2.2.2.2.2.2.1 t763 dX11_scale_63 ?_
    refine w_iconst (pc := 66) (v := 4) dX11_scale_66 (by decide) ?_
    refine w_iald (pc := 67) (j := 4) hO.2.2.1 hO.2.2.2.1 rfl (by decide) (by decide) dX11_scale_67 ?_
    refine w_ldc (pc := 68) (v := 1000000) t876 dX11_scale_68 ?_
    refine w_iadd (pc := 70) dX11_scale_70 ?_
    refine w_iret (pc := 71) rfl ⟨Nat.le_refl _, Nat.le_refl _⟩ dX11_scale_71 ?_
    refine ⟨?_, rfl, rfl⟩
    rw [← e1]; rfl
  by_cases s1_3 : y1 = 3
  · subst s1_3
    refine w_tableIn (pc := 1) (tgt := 72) (off := 71) dX11_scale_1 (by decide) (by decide) (by decide) (by decide) ?_
    refine w_aload_0 (pc := 72) dX11_scale_72 ?_
    refine w_getR (pc := 73) (b := a) kc11 0 hO.1 hO.2.1 rfl hO.2.2.2.2.2.2.2.2.2.2.2.2.2.2.1 t763 dX11_scale_73 ?_
    refine w_iconst (pc := 76) (v := 5) dX11_scale_76 (by decide) ?_
    refine w_iald (pc := 77) (j := 5) hO.2.2.1 hO.2.2.2.1 rfl (by decide) (by decide) dX11_scale_77 ?_
    refine w_ldc (pc := 78) (v := 1000000000) t932 dX11_scale_78 ?_
    refine w_iadd (pc := 80) dX11_scale_80 ?_
    refine w_iret (pc := 81) rfl ⟨Nat.le_refl _, Nat.le_refl _⟩ dX11_scale_81 ?_
    refine ⟨?_, rfl, rfl⟩
    rw [← e1]; rfl
  by_cases s1_4 : y1 = 4
  · subst s1_4
    refine w_tableIn (pc := 1) (tgt := 82) (off := 81) dX11_scale_1 (by decide) (by decide) (by decide) (by decide) ?_
    refine w_aload_0 (pc := 82) dX11_scale_82 ?_
    refine w_callV_I (pc := 83) (c_Mod_total hO) ok_X11_total t939 t23 kc11 hO.1 hO.2.1 t937 ⟨Nat.le_of_ble_eq_true rfl, Nat.le_of_ble_eq_true rfl⟩ ⟨rfl, rfl⟩ ⟨Nat.le_refl _, Nat.le_refl _⟩ rfl (Nat.le_of_ble_eq_true rfl) dX11_scale_83 ?_
    refine w_ldc (pc := 86) (v := 1000000000) t932 dX11_scale_86 ?_
    refine w_iadd (pc := 88) dX11_scale_88 ?_
    refine w_iret (pc := 89) rfl ⟨Nat.le_refl _, Nat.le_refl _⟩ dX11_scale_89 ?_
    refine ⟨?_, rfl, rfl⟩
    rw [← e1]; rfl
  by_cases s1_5 : y1 = 5
  · subst s1_5
    refine w_tableIn (pc := 1) (tgt := 90) (off := 89) dX11_scale_1 (by decide) (by decide) (by decide) (by decide) ?_
    refine w_aload_0 (pc := 90) dX11_scale_90 ?_
    refine w_getR (pc := 91) (b := a) kc11 0 hO.1 hO.2.1 rfl hO.2.2.2.2.2.2.2.2.2.2.2.2.2.2.1 t763 dX11_scale_91 ?_
    refine w_bipush (pc := 94) (v := 7) dX11_scale_94 (by decide) ?_
    refine w_iald (pc := 96) (j := 7) hO.2.2.1 hO.2.2.2.1 rfl (by decide) (by decide) dX11_scale_96 ?_
    refine w_iret (pc := 97) rfl ⟨Nat.le_refl _, Nat.le_refl _⟩ dX11_scale_97 ?_
    refine ⟨?_, rfl, rfl⟩
    rw [← e1]; rfl
  by_cases s1_6 : y1 = 6
  · subst s1_6
    refine w_tableIn (pc := 1) (tgt := 98) (off := 97) dX11_scale_1 (by decide) (by decide) (by decide) (by decide) ?_
    refine w_aload_0 (pc := 98) dX11_scale_98 ?_
    refine w_getR (pc := 99) (b := a) kc11 0 hO.1 hO.2.1 rfl hO.2.2.2.2.2.2.2.2.2.2.2.2.2.2.1 t763 dX11_scale_99 ?_
    refine w_bipush (pc := 102) (v := 8) dX11_scale_102 (by decide) ?_
    refine w_iald (pc := 104) (j := 8) hO.2.2.1 hO.2.2.2.1 rfl (by decide) (by decide) dX11_scale_104 ?_
    refine w_iret (pc := 105) rfl ⟨Nat.le_refl _, Nat.le_refl _⟩ dX11_scale_105 ?_
    refine ⟨?_, rfl, rfl⟩
    rw [← e1]; rfl
  have q1_0 := lv_neT (a := 0) s1_0 (by decide)
  have q1_1 := lv_neT (a := 1) s1_1 (by decide)
  have q1_2 := lv_neT (a := 2) s1_2 (by decide)
  have q1_3 := lv_neT (a := 3) s1_3 (by decide)
  have q1_4 := lv_neT (a := 4) s1_4 (by decide)
  have q1_5 := lv_neT (a := 5) s1_5 (by decide)
  have q1_6 := lv_neT (a := 6) s1_6 (by decide)
  refine w_tableOut (pc := 1) (tgt := 106) dX11_scale_1 (by omega) (by decide) ?_
  refine w_ldc (pc := 106) (v := -1000001) t813 dX11_scale_106 ?_
  refine w_iret (pc := 108) rfl ⟨Nat.le_refl _, Nat.le_refl _⟩ dX11_scale_108 ?_
  refine ⟨?_, rfl, rfl⟩
  rw [← e1, qScale, if_neg s1_0, if_neg s1_1, if_neg s1_2, if_neg s1_3, if_neg s1_4, if_neg s1_5, if_neg s1_6]
set_option maxHeartbeats 4000000 in
set_option maxRecDepth 100000 in
theorem c_Mod_hopper {g : kG} {σ : kS} {I : kI} {q a b c d e f : Nat} (hO : sMod g σ q a b c d e f) (hS : SX (I a))  : ct g mX11_hopper ⟨0, 0, 0, 0⟩ [.ref q] σ I (qI (smL (I a) (nLo (I a))) σ I) := by
  refine ct_of pn11 rfl (Nat.le_of_ble_eq_true rfl) ok_X11_hopper.1 trivial ?_
  show wp _ _ _ _ _ _ _ _ 0 [some (.ref q), none, none] []
  have o0 := hO.2.2.2.2.2.2.2.2.2.2.2.2.2.2.2.2.2.2.2.2.1
  have o1 := hO.2.2.2.2.2.2.2.2.2.2.2.2.2.2.2.2.2.2.2.2.2.1
  have o2 := hO.2.2.2.2.2.2.2.2.2.2.2.2.2.2.2.2.2.2.2.2.2.2.1
  have o3 := hO.2.2.2.2.2.2.2.2.2.2.2.2.2.2.2.2.2.2.2.2.2.2.2.1
  have o4 := hO.2.2.2.2.2.2.2.2.2.2.2.2.2.2.2.2.2.2.2.2.2.2.2.2.1
  have o5 := hO.2.2.2.2.2.2.2.2.2.2.2.2.2.2.2.2.2.2.2.2.2.2.2.2.2
  obtain ⟨l1, l2, -⟩ := SX_L hS
  refine w_iconst (pc := 0) (v := 0) dX11_hopper_0 (by decide) ?_
  refine w_istore_1 (pc := 1) dX11_hopper_1 rfl ?_
  refine w_iconst (pc := 2) (v := 0) dX11_hopper_2 (by decide) ?_
  refine w_istore_2 (pc := 3) dX11_hopper_3 rfl ?_
  have L0 : ∀ (n i : Nat) (x y : Int32), i ≤ nLo (I a) → nLo (I a) + 1 ≤ i + n → x = smL (I a) i → y = nI i → wp g mX11_hopper ⟨0, 0, 0, 0⟩ (fun _ => True) (qI (smL (I a) (nLo (I a))) σ I) (0, 0) σ I 4 [some (.ref q), some (.int x), some (.int y)] [] := by
    intro n
    induction n with
    | zero => intro i x y h1 h2; exact absurd h2 (by omega)
    | succ n ih =>
      intro i x y h1 h2 hx hy
      refine w_iload_2 (pc := 4) dX11_hopper_4 ?_
      refine w_aload_0 (pc := 5) dX11_hopper_5 ?_
      refine w_getR (pc := 6) (b := a) kc11 0 hO.1 hO.2.1 rfl hO.2.2.2.2.2.2.2.2.2.2.2.2.2.2.1 t763 dX11_hopper_6 ?_
      refine w_bipush (pc := 9) (v := 13) dX11_hopper_9 (by decide) ?_
      refine w_iald (pc := 11) (j := 13) hO.2.2.1 hO.2.2.2.1 rfl (by decide) (by decide) dX11_hopper_11 ?_
      refine w_icmp_ge (pc := 12) (tgt := 37) dX11_hopper_12 (by decide) (fun c12 => ?_) (fun c12 => ?_)
      · refine w_iload_1 (pc := 37) dX11_hopper_37 ?_
        refine w_iret (pc := 38) rfl ⟨Nat.le_refl _, Nat.le_refl _⟩ dX11_hopper_38 ?_
        have := (nx_cmp l2 (by omega) hy (by omega)).1.mp c12
        rw [show i = nLo (I a) by omega] at hx
        exact ⟨by rw [hx], rfl, rfl⟩
      · have hi : i < nLo (I a) := nx_nle c12 l2 (by omega) hy (by omega)
        refine w_iload_1 (pc := 15) dX11_hopper_15 ?_
        refine w_aload_0 (pc := 16) dX11_hopper_16 ?_
        refine w_getR (pc := 17) (b := a) kc11 0 hO.1 hO.2.1 rfl hO.2.2.2.2.2.2.2.2.2.2.2.2.2.2.1 t763 dX11_hopper_17 ?_
        refine w_bipush (pc := 20) (v := 69) dX11_hopper_20 (by decide) ?_
        refine w_iconst (pc := 22) (v := 2) dX11_hopper_22 (by decide) ?_
        refine w_iload_2 (pc := 23) dX11_hopper_23 ?_
        refine w_imul (pc := 24) dX11_hopper_24 ?_
        refine w_iadd (pc := 25) dX11_hopper_25 ?_
        refine w_iconst (pc := 26) (v := 1) dX11_hopper_26 (by decide) ?_
        refine w_iadd (pc := 27) dX11_hopper_27 ?_
        refine w_iald (pc := 28) (j := 70 + 2 * i) hO.2.2.1 hO.2.2.2.1 (by rw [nx_2 (z := 69) (c := 69) hy rfl, nI_1]; congr 1; omega) (by omega) (by decide) dX11_hopper_28 ?_
        refine w_iadd (pc := 29) dX11_hopper_29 ?_
        refine w_istore_1 (pc := 30) dX11_hopper_30 rfl ?_
        refine w_iinc_2 (pc := 31) dX11_hopper_31 rfl rfl ?_
        refine w_goto (pc := 34) (tgt := 4) dX11_hopper_34 (by decide) ?_
        exact ih (i + 1) _ _ (by omega) (by omega) (by rw [smL, hx]) (by rw [hy]; exact nI_1 i)
  exact L0 (nLo (I a) + 1) 0 _ _ (Nat.zero_le _) (by omega) rfl rfl
set_option maxHeartbeats 4000000 in
set_option maxRecDepth 100000 in
theorem c_Mod_inBins {g : kG} {σ : kS} {I : kI} {q a b c d e f : Nat} (hO : sMod g σ q a b c d e f) (hS : SX (I a))  : ct g mX11_inBins ⟨1, 0, 0, 22⟩ [.ref q] σ I (qI (smB (I a) (nB (I a))) σ I) := by
  refine ct_of pn11 rfl (Nat.le_of_ble_eq_true rfl) ok_X11_inBins.1 trivial ?_
  show wp _ _ _ _ _ _ _ _ 0 [some (.ref q), none, none] []
  have o0 := hO.2.2.2.2.2.2.2.2.2.2.2.2.2.2.2.2.2.2.2.2.1
  have o1 := hO.2.2.2.2.2.2.2.2.2.2.2.2.2.2.2.2.2.2.2.2.2.1
  have o2 := hO.2.2.2.2.2.2.2.2.2.2.2.2.2.2.2.2.2.2.2.2.2.2.1
  have o3 := hO.2.2.2.2.2.2.2.2.2.2.2.2.2.2.2.2.2.2.2.2.2.2.2.1
  have o4 := hO.2.2.2.2.2.2.2.2.2.2.2.2.2.2.2.2.2.2.2.2.2.2.2.2.1
  have o5 := hO.2.2.2.2.2.2.2.2.2.2.2.2.2.2.2.2.2.2.2.2.2.2.2.2.2
  obtain ⟨l1, l2⟩ := SX_B hS
  refine w_iconst (pc := 0) (v := 0) dX11_inBins_0 (by decide) ?_
  refine w_istore_1 (pc := 1) dX11_inBins_1 rfl ?_
  refine w_iconst (pc := 2) (v := 0) dX11_inBins_2 (by decide) ?_
  refine w_istore_2 (pc := 3) dX11_inBins_3 rfl ?_
  have L0 : ∀ (n i : Nat) (x y : Int32), i ≤ nB (I a) → nB (I a) + 1 ≤ i + n → x = smB (I a) i → y = nI i → wp g mX11_inBins ⟨1, 0, 0, 22⟩ (fun _ => True) (qI (smB (I a) (nB (I a))) σ I) (0, 0) σ I 4 [some (.ref q), some (.int x), some (.int y)] [] := by
    intro n
    induction n with
    | zero => intro i x y h1 h2; exact absurd h2 (by omega)
    | succ n ih =>
      intro i x y h1 h2 hx hy
      refine w_iload_2 (pc := 4) dX11_inBins_4 ?_
      refine w_aload_0 (pc := 5) dX11_inBins_5 ?_
      refine w_getR (pc := 6) (b := a) kc11 0 hO.1 hO.2.1 rfl hO.2.2.2.2.2.2.2.2.2.2.2.2.2.2.1 t763 dX11_inBins_6 ?_
      refine w_bipush (pc := 9) (v := 12) dX11_inBins_9 (by decide) ?_
      refine w_iald (pc := 11) (j := 12) hO.2.2.1 hO.2.2.2.1 rfl (by decide) (by decide) dX11_inBins_11 ?_
      refine w_icmp_ge (pc := 12) (tgt := 29) dX11_inBins_12 (by decide) (fun c12 => ?_) (fun c12 => ?_)
      · refine w_iload_1 (pc := 29) dX11_inBins_29 ?_
        refine w_iret (pc := 30) rfl ⟨Nat.le_refl _, Nat.le_refl _⟩ dX11_inBins_30 ?_
        have := (nx_cmp l2 (by omega) hy (by omega)).1.mp c12
        rw [show i = nB (I a) by omega] at hx
        exact ⟨by rw [hx], rfl, rfl⟩
      · have hi : i < nB (I a) := nx_nle c12 l2 (by omega) hy (by omega)
        refine w_iload_1 (pc := 15) dX11_inBins_15 ?_
        refine w_aload_0 (pc := 16) dX11_inBins_16 ?_
        refine w_iload_2 (pc := 17) dX11_inBins_17 ?_
        refine w_callV_I (pc := 18) (c_Mod_binMass hO hy (by omega)) ok_X11_binMass t888 t19 kc11 hO.1 hO.2.1 t886 ⟨Nat.le_of_ble_eq_true rfl, Nat.le_of_ble_eq_true rfl⟩ ⟨rfl, rfl⟩ ⟨Nat.le_refl _, Nat.le_refl _⟩ rfl (Nat.le_of_ble_eq_true rfl) dX11_inBins_18 ?_
        refine w_iadd (pc := 21) dX11_inBins_21 ?_
        refine w_istore_1 (pc := 22) dX11_inBins_22 rfl ?_
        refine w_iinc_2 (pc := 23) dX11_inBins_23 rfl rfl ?_
        refine w_goto (pc := 26) (tgt := 4) dX11_inBins_26 (by decide) ?_
        exact ih (i + 1) _ _ (by omega) (by omega) (by rw [smB, hx]) (by rw [hy]; exact nI_1 i)
  exact L0 (nB (I a) + 1) 0 _ _ (Nat.zero_le _) (by omega) rfl rfl
set_option maxHeartbeats 4000000 in
set_option maxRecDepth 100000 in
theorem c_Mod_batchTold {g : kG} {σ : kS} {I : kI} {q a b c d e f : Nat} (hO : sMod g σ q a b c d e f) {x : Int32} : ct g mX11_batchTold ⟨1, 0, 0, 20⟩ [.ref q, .int x] σ I (qI (qTold (I a) x) σ I) := by
  refine ct_of pn11 rfl (Nat.le_of_ble_eq_true rfl) ok_X11_batchTold.1 trivial ?_
  show wp _ _ _ _ _ _ _ _ 0 [some (.ref q), some (.int x)] []
  have o0 := hO.2.2.2.2.2.2.2.2.2.2.2.2.2.2.2.2.2.2.2.2.1
  have o1 := hO.2.2.2.2.2.2.2.2.2.2.2.2.2.2.2.2.2.2.2.2.2.1
  have o2 := hO.2.2.2.2.2.2.2.2.2.2.2.2.2.2.2.2.2.2.2.2.2.2.1
  have o3 := hO.2.2.2.2.2.2.2.2.2.2.2.2.2.2.2.2.2.2.2.2.2.2.2.1
  have o4 := hO.2.2.2.2.2.2.2.2.2.2.2.2.2.2.2.2.2.2.2.2.2.2.2.2.1
  have o5 := hO.2.2.2.2.2.2.2.2.2.2.2.2.2.2.2.2.2.2.2.2.2.2.2.2.2
  refine w_aload_0 (pc := 0) dX11_batchTold_0 ?_
  refine w_callV_I (pc := 1) (c_Mod_hasBatch hO) ok_X11_hasBatch t829 t10 kc11 hO.1 hO.2.1 t827 ⟨Nat.le_of_ble_eq_true rfl, Nat.le_of_ble_eq_true rfl⟩ ⟨rfl, rfl⟩ ⟨Nat.le_refl _, Nat.le_refl _⟩ rfl (Nat.le_of_ble_eq_true rfl) dX11_batchTold_1 ?_
  refine w_if_ne (pc := 4) (tgt := 12) dX11_batchTold_4 (by decide) (fun c4 => ?_) (fun c4 => ?_)
  · refine w_iload_1 (pc := 12) dX11_batchTold_12 ?_
    refine w_iconst (pc := 13) (v := 5) dX11_batchTold_13 (by decide) ?_
    refine w_icmp_ne (pc := 14) (tgt := 27) dX11_batchTold_14 (by decide) (fun c14 => ?_) (fun c14 => ?_)
    · refine w_aload_0 (pc := 27) dX11_batchTold_27 ?_
      refine w_getR (pc := 28) (b := a) kc11 0 hO.1 hO.2.1 rfl hO.2.2.2.2.2.2.2.2.2.2.2.2.2.2.1 t763 dX11_batchTold_28 ?_
      refine w_bipush (pc := 31) (v := 16) dX11_batchTold_31 (by decide) ?_
      refine w_iald (pc := 33) (j := 16) hO.2.2.1 hO.2.2.2.1 rfl (by decide) (by decide) dX11_batchTold_33 ?_
      refine w_iret (pc := 34) rfl ⟨Nat.le_refl _, Nat.le_refl _⟩ dX11_batchTold_34 ?_
      refine ⟨?_, rfl, rfl⟩
      rw [qTold, if_neg (fun h => h (b1 c4)), if_neg c14]
    · refine w_aload_0 (pc := 17) dX11_batchTold_17 ?_
      refine w_getR (pc := 18) (b := a) kc11 0 hO.1 hO.2.1 rfl hO.2.2.2.2.2.2.2.2.2.2.2.2.2.2.1 t763 dX11_batchTold_18 ?_
      refine w_bipush (pc := 21) (v := 15) dX11_batchTold_21 (by decide) ?_
      refine w_iald (pc := 23) (j := 15) hO.2.2.1 hO.2.2.2.1 rfl (by decide) (by decide) dX11_batchTold_23 ?_
      refine w_goto (pc := 24) (tgt := 34) dX11_batchTold_24 (by decide) ?_
      refine w_iret (pc := 34) rfl ⟨Nat.le_refl _, Nat.le_refl _⟩ dX11_batchTold_34 ?_
      refine ⟨?_, rfl, rfl⟩
      rw [qTold, if_neg (fun h => h (b1 c4)), if_pos c14]
  · refine w_ldc (pc := 7) (v := -1000004) t762 dX11_batchTold_7 ?_
    refine w_goto (pc := 9) (tgt := 34) dX11_batchTold_9 (by decide) ?_
    refine w_iret (pc := 34) rfl ⟨Nat.le_refl _, Nat.le_refl _⟩ dX11_batchTold_34 ?_
    refine ⟨?_, rfl, rfl⟩
    rw [qTold, if_pos (b0 c4)]
set_option maxHeartbeats 4000000 in
set_option maxRecDepth 100000 in
theorem c_Mod_count {g : kG} {σ : kS} {I : kI} {q a b c d e f : Nat} (hO : sMod g σ q a b c d e f) (hS : SX (I a)) {x : Int32} : ct g mX11_count ⟨2, 0, 0, 44⟩ [.ref q, .int x] σ I (qI (qCount (I a) (I q 4) (I q 7) x) σ I) := by
  refine ct_of pn11 rfl (Nat.le_of_ble_eq_true rfl) ok_X11_count.1 trivial ?_
  show wp _ _ _ _ _ _ _ _ 0 [some (.ref q), some (.int x)] []
  have o0 := hO.2.2.2.2.2.2.2.2.2.2.2.2.2.2.2.2.2.2.2.2.1
  have o1 := hO.2.2.2.2.2.2.2.2.2.2.2.2.2.2.2.2.2.2.2.2.2.1
  have o2 := hO.2.2.2.2.2.2.2.2.2.2.2.2.2.2.2.2.2.2.2.2.2.2.1
  have o3 := hO.2.2.2.2.2.2.2.2.2.2.2.2.2.2.2.2.2.2.2.2.2.2.2.1
  have o4 := hO.2.2.2.2.2.2.2.2.2.2.2.2.2.2.2.2.2.2.2.2.2.2.2.2.1
  have o5 := hO.2.2.2.2.2.2.2.2.2.2.2.2.2.2.2.2.2.2.2.2.2.2.2.2.2
  refine w_iload_1 (pc := 0) dX11_count_0 ?_
  refine w_name (fun y1 e1 => ?_)
  by_cases s1_0 : y1 = 0
  · subst s1_0
    refine w_tableIn (pc := 1) (tgt := 80) (off := 79) dX11_count_1 (by decide) (by decide) (by decide) (by decide) ?_
    refine w_aload_0 (pc := 80) dX11_count_80 ?_
    refine w_getR (pc := 81) (b := a) kc11 0 hO.1 hO.2.1 rfl hO.2.2.2.2.2.2.2.2.2.2.2.2.2.2.1 t763 dX11_count_81 ?_
    refine w_bipush (pc := 84) (v := 13) dX11_count_84 (by decide) ?_
    refine w_iald (pc := 86) (j := 13) hO.2.2.1 hO.2.2.2.1 rfl (by decide) (by decide) dX11_count_86 ?_
    refine w_iret (pc := 87) rfl ⟨Nat.le_refl _, Nat.le_refl _⟩ dX11_count_87 ?_
    refine ⟨?_, rfl, rfl⟩
    rw [← e1]; rfl
  by_cases s1_1 : y1 = 1
  · subst s1_1
    refine w_tableIn (pc := 1) (tgt := 88) (off := 87) dX11_count_1 (by decide) (by decide) (by decide) (by decide) ?_
    refine w_aload_0 (pc := 88) dX11_count_88 ?_
    refine w_getR (pc := 89) (b := a) kc11 0 hO.1 hO.2.1 rfl hO.2.2.2.2.2.2.2.2.2.2.2.2.2.2.1 t763 dX11_count_89 ?_
    refine w_iconst (pc := 92) (v := 0) dX11_count_92 (by decide) ?_
    refine w_iald (pc := 93) (j := 0) hO.2.2.1 hO.2.2.2.1 rfl (by decide) (by decide) dX11_count_93 ?_
    refine w_iret (pc := 94) rfl ⟨Nat.le_refl _, Nat.le_refl _⟩ dX11_count_94 ?_
    refine ⟨?_, rfl, rfl⟩
    rw [← e1]; rfl
  by_cases s1_2 : y1 = 2
  · subst s1_2
    refine w_tableIn (pc := 1) (tgt := 95) (off := 94) dX11_count_1 (by decide) (by decide) (by decide) (by decide) ?_
    refine w_aload_0 (pc := 95) dX11_count_95 ?_
    refine w_getR (pc := 96) (b := a) kc11 0 hO.1 hO.2.1 rfl hO.2.2.2.2.2.2.2.2.2.2.2.2.2.2.1 t763 dX11_count_96 ?_
    refine w_iconst (pc := 99) (v := 1) dX11_count_99 (by decide) ?_
    refine w_iald (pc := 100) (j := 1) hO.2.2.1 hO.2.2.2.1 rfl (by decide) (by decide) dX11_count_100 ?_
    refine w_iret (pc := 101) rfl ⟨Nat.le_refl _, Nat.le_refl _⟩ dX11_count_101 ?_
    refine ⟨?_, rfl, rfl⟩
    rw [← e1]; rfl
  by_cases s1_3 : y1 = 3
  · subst s1_3
    refine w_tableIn (pc := 1) (tgt := 102) (off := 101) dX11_count_1 (by decide) (by decide) (by decide) (by decide) ?_
    refine w_aload_0 (pc := 102) dX11_count_102 ?_
    refine w_getR (pc := 103) (b := a) kc11 0 hO.1 hO.2.1 rfl hO.2.2.2.2.2.2.2.2.2.2.2.2.2.2.1 t763 dX11_count_103 ?_
    refine w_bipush (pc := 106) (v := 12) dX11_count_106 (by decide) ?_
    refine w_iald (pc := 108) (j := 12) hO.2.2.1 hO.2.2.2.1 rfl (by decide) (by decide) dX11_count_108 ?_
    refine w_iret (pc := 109) rfl ⟨Nat.le_refl _, Nat.le_refl _⟩ dX11_count_109 ?_
    refine ⟨?_, rfl, rfl⟩
    rw [← e1]; rfl
  by_cases s1_4 : y1 = 4
  · subst s1_4
    refine w_tableIn (pc := 1) (tgt := 110) (off := 109) dX11_count_1 (by decide) (by decide) (by decide) (by decide) ?_
    refine w_aload_0 (pc := 110) dX11_count_110 ?_
    refine w_getR (pc := 111) (b := a) kc11 0 hO.1 hO.2.1 rfl hO.2.2.2.2.2.2.2.2.2.2.2.2.2.2.1 t763 dX11_count_111 ?_
    refine w_bipush (pc := 114) (v := 12) dX11_count_114 (by decide) ?_
    refine w_iald (pc := 116) (j := 12) hO.2.2.1 hO.2.2.2.1 rfl (by decide) (by decide) dX11_count_116 ?_
    refine w_if_ne (pc := 117) (tgt := 125) dX11_count_117 (by decide) (fun c117 => ?_) (fun c117 => ?_)
    · refine w_aload_0 (pc := 125) dX11_count_125 ?_
      refine w_getR (pc := 126) (b := a) kc11 0 hO.1 hO.2.1 rfl hO.2.2.2.2.2.2.2.2.2.2.2.2.2.2.1 t763 dX11_count_126 ?_
      refine w_bipush (pc := 129) (v := 12) dX11_count_129 (by decide) ?_
      refine w_iald (pc := 131) (j := 12) hO.2.2.1 hO.2.2.2.1 rfl (by decide) (by decide) dX11_count_131 ?_
      refine w_iconst (pc := 132) (v := 1) dX11_count_132 (by decide) ?_
      refine w_isub (pc := 133) dX11_count_133 ?_
      refine w_iret (pc := 134) rfl ⟨Nat.le_refl _, Nat.le_refl _⟩ dX11_count_134 ?_
      refine ⟨?_, rfl, rfl⟩
      rw [← e1]
      show _ = some (Value.int (if I a 12 = 0 then -1000004 else I a 12 - 1))
      rw [if_neg c117]
    · refine w_ldc (pc := 120) (v := -1000004) t762 dX11_count_120 ?_
      refine w_goto (pc := 122) (tgt := 134) dX11_count_122 (by decide) ?_
      refine w_iret (pc := 134) rfl ⟨Nat.le_refl _, Nat.le_refl _⟩ dX11_count_134 ?_
      refine ⟨?_, rfl, rfl⟩
      rw [← e1]
      show _ = some (Value.int (if I a 12 = 0 then -1000004 else I a 12 - 1))
      rw [if_pos c117]
  by_cases s1_5 : y1 = 5
  · subst s1_5
    refine w_tableIn (pc := 1) (tgt := 135) (off := 134) dX11_count_1 (by decide) (by decide) (by decide) (by decide) ?_
    refine w_aload_0 (pc := 135) dX11_count_135 ?_
    refine w_iload_1 (pc := 136) dX11_count_136 ?_
    refine w_callV_I (pc := 137) (c_Mod_batchTold hO) ok_X11_batchTold t947 t24 kc11 hO.1 hO.2.1 t945 ⟨Nat.le_of_ble_eq_true rfl, Nat.le_of_ble_eq_true rfl⟩ ⟨rfl, rfl⟩ ⟨Nat.le_refl _, Nat.le_refl _⟩ rfl (Nat.le_of_ble_eq_true rfl) dX11_count_137 ?_
    refine w_iret (pc := 140) rfl ⟨Nat.le_refl _, Nat.le_refl _⟩ dX11_count_140 ?_
    refine ⟨?_, rfl, rfl⟩
    rw [← e1]; rfl
  by_cases s1_6 : y1 = 6
  · subst s1_6
    refine w_tableIn (pc := 1) (tgt := 135) (off := 134) dX11_count_1 (by decide) (by decide) (by decide) (by decide) ?_
    refine w_aload_0 (pc := 135) dX11_count_135 ?_
    refine w_iload_1 (pc := 136) dX11_count_136 ?_
    refine w_callV_I (pc := 137) (c_Mod_batchTold hO) ok_X11_batchTold t947 t24 kc11 hO.1 hO.2.1 t945 ⟨Nat.le_of_ble_eq_true rfl, Nat.le_of_ble_eq_true rfl⟩ ⟨rfl, rfl⟩ ⟨Nat.le_refl _, Nat.le_refl _⟩ rfl (Nat.le_of_ble_eq_true rfl) dX11_count_137 ?_
    refine w_iret (pc := 140) rfl ⟨Nat.le_refl _, Nat.le_refl _⟩ dX11_count_140 ?_
    refine ⟨?_, rfl, rfl⟩
    rw [← e1]; rfl
  by_cases s1_7 : y1 = 7
  · subst s1_7
    refine w_tableIn (pc := 1) (tgt := 141) (off := 140) dX11_count_1 (by decide) (by decide) (by decide) (by decide) ?_
    refine w_aload_0 (pc := 141) dX11_count_141 ?_
    refine w_getR (pc := 142) (b := a) kc11 0 hO.1 hO.2.1 rfl hO.2.2.2.2.2.2.2.2.2.2.2.2.2.2.1 t763 dX11_count_142 ?_
    refine w_iconst (pc := 145) (v := 2) dX11_count_145 (by decide) ?_
    refine w_iald (pc := 146) (j := 2) hO.2.2.1 hO.2.2.2.1 rfl (by decide) (by decide) dX11_count_146 ?_
    refine w_iret (pc := 147) rfl ⟨Nat.le_refl _, Nat.le_refl _⟩ dX11_count_147 ?_
    refine ⟨?_, rfl, rfl⟩
    rw [← e1]; rfl
  by_cases s1_8 : y1 = 8
  · subst s1_8
    refine w_tableIn (pc := 1) (tgt := 148) (off := 147) dX11_count_1 (by decide) (by decide) (by decide) (by decide) ?_
    refine w_aload_0 (pc := 148) dX11_count_148 ?_
    refine w_iconst (pc := 149) (v := 0) dX11_count_149 (by decide) ?_
    refine w_bipush (pc := 150) (v := 11) dX11_count_150 (by decide) ?_
    refine w_callV_I (pc := 152) (c_Mod_mass hO (u := 0) (v := 11) rfl rfl (by decide)) ok_X11_mass t842 t11 kc11 hO.1 hO.2.1 t840 ⟨Nat.le_of_ble_eq_true rfl, Nat.le_of_ble_eq_true rfl⟩ ⟨rfl, rfl⟩ ⟨Nat.le_refl _, Nat.le_refl _⟩ rfl (Nat.le_of_ble_eq_true rfl) dX11_count_152 ?_
    refine w_iret (pc := 155) rfl ⟨Nat.le_refl _, Nat.le_refl _⟩ dX11_count_155 ?_
    refine ⟨?_, rfl, rfl⟩
    rw [← e1]; rfl
  by_cases s1_9 : y1 = 9
  · subst s1_9
    refine w_tableIn (pc := 1) (tgt := 156) (off := 155) dX11_count_1 (by decide) (by decide) (by decide) (by decide) ?_
    refine w_aload_0 (pc := 156) dX11_count_156 ?_
    refine w_callV_I (pc := 157) (c_Mod_hopper hO hS) ok_X11_hopper t951 t25 kc11 hO.1 hO.2.1 t949 ⟨Nat.le_of_ble_eq_true rfl, Nat.le_of_ble_eq_true rfl⟩ ⟨rfl, rfl⟩ ⟨Nat.le_refl _, Nat.le_refl _⟩ rfl (Nat.le_of_ble_eq_true rfl) dX11_count_157 ?_
    refine w_iret (pc := 160) rfl ⟨Nat.le_refl _, Nat.le_refl _⟩ dX11_count_160 ?_
    refine ⟨?_, rfl, rfl⟩
    rw [← e1]; rfl
  by_cases s1_10 : y1 = 10
  · subst s1_10
    refine w_tableIn (pc := 1) (tgt := 161) (off := 160) dX11_count_1 (by decide) (by decide) (by decide) (by decide) ?_
    refine w_aload_0 (pc := 161) dX11_count_161 ?_
    refine w_getR (pc := 162) (b := a) kc11 0 hO.1 hO.2.1 rfl hO.2.2.2.2.2.2.2.2.2.2.2.2.2.2.1 t763 dX11_count_162 ?_
    refine w_bipush (pc := 165) (v := 9) dX11_count_165 (by decide) ?_
    refine w_iald (pc := 167) (j := 9) hO.2.2.1 hO.2.2.2.1 rfl (by decide) (by decide) dX11_count_167 ?_
    refine w_iret (pc := 168) rfl ⟨Nat.le_refl _, Nat.le_refl _⟩ dX11_count_168 ?_
    refine ⟨?_, rfl, rfl⟩
    rw [← e1]; rfl
  by_cases s1_11 : y1 = 11
  · subst s1_11
    refine w_tableIn (pc := 1) (tgt := 169) (off := 168) dX11_count_1 (by decide) (by decide) (by decide) (by decide) ?_
    refine w_aload_0 (pc := 169) dX11_count_169 ?_
    refine w_callV_I (pc := 170) (c_Mod_inBins hO hS) ok_X11_inBins t955 t26 kc11 hO.1 hO.2.1 t953 ⟨Nat.le_of_ble_eq_true rfl, Nat.le_of_ble_eq_true rfl⟩ ⟨rfl, rfl⟩ ⟨Nat.le_refl _, Nat.le_refl _⟩ rfl (Nat.le_of_ble_eq_true rfl) dX11_count_170 ?_
    refine w_iret (pc := 173) rfl ⟨Nat.le_refl _, Nat.le_refl _⟩ dX11_count_173 ?_
    refine ⟨?_, rfl, rfl⟩
    rw [← e1]; rfl
  by_cases s1_12 : y1 = 12
  · subst s1_12
    refine w_tableIn (pc := 1) (tgt := 174) (off := 173) dX11_count_1 (by decide) (by decide) (by decide) (by decide) ?_
    refine w_aload_0 (pc := 174) dX11_count_174 ?_
    refine w_getR (pc := 175) (b := a) kc11 0 hO.1 hO.2.1 rfl hO.2.2.2.2.2.2.2.2.2.2.2.2.2.2.1 t763 dX11_count_175 ?_
    refine w_bipush (pc := 178) (v := 10) dX11_count_178 (by decide) ?_
    refine w_iald (pc := 180) (j := 10) hO.2.2.1 hO.2.2.2.1 rfl (by decide) (by decide) dX11_count_180 ?_
    refine w_iret (pc := 181) rfl ⟨Nat.le_refl _, Nat.le_refl _⟩ dX11_count_181 ?_
    refine ⟨?_, rfl, rfl⟩
    rw [← e1]; rfl
  by_cases s1_13 : y1 = 13
  · subst s1_13
    refine w_tableIn (pc := 1) (tgt := 182) (off := 181) dX11_count_1 (by decide) (by decide) (by decide) (by decide) ?_
    refine w_aload_0 (pc := 182) dX11_count_182 ?_
    refine w_getR (pc := 183) (b := a) kc11 0 hO.1 hO.2.1 rfl hO.2.2.2.2.2.2.2.2.2.2.2.2.2.2.1 t763 dX11_count_183 ?_
    refine w_bipush (pc := 186) (v := 14) dX11_count_186 (by decide) ?_
    refine w_iald (pc := 188) (j := 14) hO.2.2.1 hO.2.2.2.1 rfl (by decide) (by decide) dX11_count_188 ?_
    refine w_iret (pc := 189) rfl ⟨Nat.le_refl _, Nat.le_refl _⟩ dX11_count_189 ?_
    refine ⟨?_, rfl, rfl⟩
    rw [← e1]; rfl
  by_cases s1_14 : y1 = 14
  · subst s1_14
    refine w_tableIn (pc := 1) (tgt := 190) (off := 189) dX11_count_1 (by decide) (by decide) (by decide) (by decide) ?_
    refine w_aload_0 (pc := 190) dX11_count_190 ?_
    refine w_getI (pc := 191) kc11 4 hO.1 hO.2.1 rfl t767 dX11_count_191 ?_
    refine w_iret (pc := 194) rfl ⟨Nat.le_refl _, Nat.le_refl _⟩ dX11_count_194 ?_
    refine ⟨?_, rfl, rfl⟩
    rw [← e1]; rfl
  by_cases s1_15 : y1 = 15
  · subst s1_15
    refine w_tableIn (pc := 1) (tgt := 195) (off := 194) dX11_count_1 (by decide) (by decide) (by decide) (by decide) ?_
    refine w_aload_0 (pc := 195) dX11_count_195 ?_
    refine w_getI (pc := 196) kc11 7 hO.1 hO.2.1 rfl t770 dX11_count_196 ?_
    refine w_iret (pc := 199) rfl ⟨Nat.le_refl _, Nat.le_refl _⟩ dX11_count_199 ?_
    refine ⟨?_, rfl, rfl⟩
    rw [← e1]; rfl
  have q1_0 := lv_neT (a := 0) s1_0 (by decide)
  have q1_1 := lv_neT (a := 1) s1_1 (by decide)
  have q1_2 := lv_neT (a := 2) s1_2 (by decide)
  have q1_3 := lv_neT (a := 3) s1_3 (by decide)
  have q1_4 := lv_neT (a := 4) s1_4 (by decide)
  have q1_5 := lv_neT (a := 5) s1_5 (by decide)
  have q1_6 := lv_neT (a := 6) s1_6 (by decide)
  have q1_7 := lv_neT (a := 7) s1_7 (by decide)
  have q1_8 := lv_neT (a := 8) s1_8 (by decide)
  have q1_9 := lv_neT (a := 9) s1_9 (by decide)
  have q1_10 := lv_neT (a := 10) s1_10 (by decide)
  have q1_11 := lv_neT (a := 11) s1_11 (by decide)
  have q1_12 := lv_neT (a := 12) s1_12 (by decide)
  have q1_13 := lv_neT (a := 13) s1_13 (by decide)
  have q1_14 := lv_neT (a := 14) s1_14 (by decide)
  have q1_15 := lv_neT (a := 15) s1_15 (by decide)
  refine w_tableOut (pc := 1) (tgt := 200) dX11_count_1 (by omega) (by decide) ?_
  rw [← e1]
  refine w_iload_1 (pc := 200) dX11_count_200 ?_
  refine w_bipush (pc := 201) (v := 20) dX11_count_201 (by decide) ?_
  refine w_bipush (pc := 203) (v := 22) dX11_count_203 (by decide) ?_
  refine w_callS_I (pc := 205) (c_Mod_in) ok_X11_in t811 t810 ⟨Nat.le_of_ble_eq_true rfl, Nat.le_of_ble_eq_true rfl⟩ ⟨rfl, rfl⟩ ⟨Nat.le_refl _, Nat.le_refl _⟩ rfl (Nat.le_of_ble_eq_true rfl) dX11_count_205 ?_
  refine w_if_eq (pc := 208) (tgt := 239) dX11_count_208 (by decide) (fun c208 => ?_) (fun c208 => ?_)
  · refine w_iload_1 (pc := 239) dX11_count_239 ?_
    refine w_bipush (pc := 240) (v := 30) dX11_count_240 (by decide) ?_
    refine w_bipush (pc := 242) (v := 33) dX11_count_242 (by decide) ?_
    refine w_callS_I (pc := 244) (c_Mod_in) ok_X11_in t811 t810 ⟨Nat.le_of_ble_eq_true rfl, Nat.le_of_ble_eq_true rfl⟩ ⟨rfl, rfl⟩ ⟨Nat.le_refl _, Nat.le_refl _⟩ rfl (Nat.le_of_ble_eq_true rfl) dX11_count_244 ?_
    refine w_if_eq (pc := 247) (tgt := 266) dX11_count_247 (by decide) (fun c247 => ?_) (fun c247 => ?_)
    · refine w_ldc (pc := 266) (v := -1000001) t813 dX11_count_266 ?_
      refine w_iret (pc := 268) rfl ⟨Nat.le_refl _, Nat.le_refl _⟩ dX11_count_268 ?_
      refine ⟨?_, rfl, rfl⟩
      rw [qCount, if_neg s1_0, if_neg s1_1, if_neg s1_2, if_neg s1_3, if_neg s1_4, if_neg s1_5, if_neg s1_6, if_neg s1_7, if_neg s1_8, if_neg s1_9, if_neg s1_10, if_neg s1_11, if_neg s1_12, if_neg s1_13, if_neg s1_14, if_neg s1_15, if_neg (b0 c208), if_neg (b0 c247)]
    · obtain ⟨k0, hk0, hy⟩ := nx_rb (l := 30) (m := 33) (by decide) (b1 c247)
      have tk : tn y1 = 30 + k0 := tn_of hy (by omega)
      refine w_aload_0 (pc := 250) dX11_count_250 ?_
      refine w_getR (pc := 251) (b := a) kc11 0 hO.1 hO.2.1 rfl hO.2.2.2.2.2.2.2.2.2.2.2.2.2.2.1 t763 dX11_count_251 ?_
      refine w_sipush (pc := 254) (v := 145) dX11_count_254 (by decide) ?_
      refine w_iload_1 (pc := 257) dX11_count_257 ?_
      refine w_iadd (pc := 258) dX11_count_258 ?_
      refine w_bipush (pc := 259) (v := 30) dX11_count_259 (by decide) ?_
      refine w_isub (pc := 261) dX11_count_261 ?_
      refine w_iald (pc := 262) (j := 145 + k0) hO.2.2.1 hO.2.2.2.1 (by rw [hy, show (145 : Int32) = nI 145 from rfl, show (30 : Int32) = nI 30 from rfl, nI_add, pk_sub (by omega)]; congr 1; omega) (by omega) (by decide) dX11_count_262 ?_
      refine w_goto (pc := 263) (tgt := 268) dX11_count_263 (by decide) ?_
      refine w_iret (pc := 268) rfl ⟨Nat.le_refl _, Nat.le_refl _⟩ dX11_count_268 ?_
      refine ⟨?_, rfl, rfl⟩
      rw [qCount, if_neg s1_0, if_neg s1_1, if_neg s1_2, if_neg s1_3, if_neg s1_4, if_neg s1_5, if_neg s1_6, if_neg s1_7, if_neg s1_8, if_neg s1_9, if_neg s1_10, if_neg s1_11, if_neg s1_12, if_neg s1_13, if_neg s1_14, if_neg s1_15, if_neg (b0 c208), if_pos (b1 c247), tk, show 30 + k0 - 30 = k0 by omega]
  · obtain ⟨k0, hk0, hy⟩ := nx_rb (l := 20) (m := 22) (by decide) (b1 c208)
    have tk : tn y1 = 20 + k0 := tn_of hy (by omega)
    refine w_aload_0 (pc := 211) dX11_count_211 ?_
    refine w_getR (pc := 212) (b := a) kc11 0 hO.1 hO.2.1 rfl hO.2.2.2.2.2.2.2.2.2.2.2.2.2.2.1 t763 dX11_count_212 ?_
    refine w_bipush (pc := 215) (v := 18) dX11_count_215 (by decide) ?_
    refine w_iload_1 (pc := 217) dX11_count_217 ?_
    refine w_iadd (pc := 218) dX11_count_218 ?_
    refine w_bipush (pc := 219) (v := 20) dX11_count_219 (by decide) ?_
    refine w_isub (pc := 221) dX11_count_221 ?_
    refine w_iald (pc := 222) (j := 18 + k0) hO.2.2.1 hO.2.2.2.1 (by rw [hy, show (18 : Int32) = nI 18 from rfl, show (20 : Int32) = nI 20 from rfl, nI_add, pk_sub (by omega)]; congr 1; omega) (by omega) (by decide) dX11_count_222 ?_
    refine w_iload_1 (pc := 223) dX11_count_223 ?_
    refine w_bipush (pc := 224) (v := 22) dX11_count_224 (by decide) ?_
    refine w_icmp_ne (pc := 226) (tgt := 234) dX11_count_226 (by decide) (fun c226 => ?_) (fun c226 => ?_)
    · refine w_iconst (pc := 234) (v := 0) dX11_count_234 (by decide) ?_
      refine w_iadd (pc := 235) dX11_count_235 ?_
      refine w_goto (pc := 236) (tgt := 268) dX11_count_236 (by decide) ?_
      refine w_iret (pc := 268) rfl ⟨Nat.le_refl _, Nat.le_refl _⟩ dX11_count_268 ?_
      refine ⟨?_, rfl, rfl⟩
      rw [qCount, if_neg s1_0, if_neg s1_1, if_neg s1_2, if_neg s1_3, if_neg s1_4, if_neg s1_5, if_neg s1_6, if_neg s1_7, if_neg s1_8, if_neg s1_9, if_neg s1_10, if_neg s1_11, if_neg s1_12, if_neg s1_13, if_neg s1_14, if_neg s1_15, if_pos (b1 c208), if_neg c226, tk, show 20 + k0 - 20 = k0 by omega]
    · refine w_bipush (pc := 229) (v := 10) dX11_count_229 (by decide) ?_
      refine w_goto (pc := 231) (tgt := 235) dX11_count_231 (by decide) ?_
      refine w_iadd (pc := 235) dX11_count_235 ?_
      refine w_goto (pc := 236) (tgt := 268) dX11_count_236 (by decide) ?_
      refine w_iret (pc := 268) rfl ⟨Nat.le_refl _, Nat.le_refl _⟩ dX11_count_268 ?_
      refine ⟨?_, rfl, rfl⟩
      rw [qCount, if_neg s1_0, if_neg s1_1, if_neg s1_2, if_neg s1_3, if_neg s1_4, if_neg s1_5, if_neg s1_6, if_neg s1_7, if_neg s1_8, if_neg s1_9, if_neg s1_10, if_neg s1_11, if_neg s1_12, if_neg s1_13, if_neg s1_14, if_neg s1_15, if_pos (b1 c208), if_pos c226, tk, show 20 + k0 - 20 = k0 by omega]
set_option maxHeartbeats 4000000 in
set_option maxRecDepth 100000 in
theorem c_Mod_error {g : kG} {σ : kS} {I : kI} {q a b c d e f : Nat} (hO : sMod g σ q a b c d e f)  : ct g mX11_error ⟨1, 0, 0, 20⟩ [.ref q] σ I (qI (qError (I a)) σ I) := by
  refine ct_of pn11 rfl (Nat.le_of_ble_eq_true rfl) ok_X11_error.1 trivial ?_
  show wp _ _ _ _ _ _ _ _ 0 [some (.ref q)] []
  have o0 := hO.2.2.2.2.2.2.2.2.2.2.2.2.2.2.2.2.2.2.2.2.1
  have o1 := hO.2.2.2.2.2.2.2.2.2.2.2.2.2.2.2.2.2.2.2.2.2.1
  have o2 := hO.2.2.2.2.2.2.2.2.2.2.2.2.2.2.2.2.2.2.2.2.2.2.1
  have o3 := hO.2.2.2.2.2.2.2.2.2.2.2.2.2.2.2.2.2.2.2.2.2.2.2.1
  have o4 := hO.2.2.2.2.2.2.2.2.2.2.2.2.2.2.2.2.2.2.2.2.2.2.2.2.1
  have o5 := hO.2.2.2.2.2.2.2.2.2.2.2.2.2.2.2.2.2.2.2.2.2.2.2.2.2
  refine w_aload_0 (pc := 0) dX11_error_0 ?_
  refine w_callV_I (pc := 1) (c_Mod_total hO) ok_X11_total t939 t23 kc11 hO.1 hO.2.1 t937 ⟨Nat.le_of_ble_eq_true rfl, Nat.le_of_ble_eq_true rfl⟩ ⟨rfl, rfl⟩ ⟨Nat.le_refl _, Nat.le_refl _⟩ rfl (Nat.le_of_ble_eq_true rfl) dX11_error_1 ?_
  refine w_aload_0 (pc := 4) dX11_error_4 ?_
  refine w_getR (pc := 5) (b := a) kc11 0 hO.1 hO.2.1 rfl hO.2.2.2.2.2.2.2.2.2.2.2.2.2.2.1 t763 dX11_error_5 ?_
  refine w_bipush (pc := 8) (v := 11) dX11_error_8 (by decide) ?_
  refine w_iald (pc := 10) (j := 11) hO.2.2.1 hO.2.2.2.1 rfl (by decide) (by decide) dX11_error_10 ?_
  refine w_isub (pc := 11) dX11_error_11 ?_
  refine w_ldc (pc := 12) (v := 1000000000) t932 dX11_error_12 ?_
  refine w_iadd (pc := 14) dX11_error_14 ?_
  refine w_iret (pc := 15) rfl ⟨Nat.le_refl _, Nat.le_refl _⟩ dX11_error_15 ?_
  exact ⟨rfl, rfl, rfl⟩
