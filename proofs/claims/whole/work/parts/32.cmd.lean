def TC (f : kV) (n : Nat) : Prop := ∀ k, k < n → ∃ m, 32 ≤ m ∧ m ≤ 126 ∧ f k = nI m
theorem kst_self {I : kI} {a k : Nat} : kst I a k (I a k) = I := by
  funext b
  by_cases h : b = a
  · subst h; rw [kst_s]; funext j; by_cases hj : j = k
    · rw [hj, upd_s]
    · rw [upd_ne hj]
  · rw [kst_n h]
theorem kst_kst {I : kI} {a k : Nat} {x y : Int32} : kst (kst I a k x) a k y = kst I a k y := by
  funext b
  by_cases h : b = a
  · subst h; rw [kst_s, kst_s, kst_s]; funext j; by_cases hj : j = k
    · rw [hj, upd_s, upd_s]
    · rw [upd_ne hj, upd_ne hj, upd_ne hj]
  · rw [kst_n h, kst_n h, kst_n h]
theorem nI48 {m : Nat} (h : m ≤ 126) : (nI m - 48).toInt = (m : Int) - 48 := by
  rw [ti_sub (by rw [ti_nI (by omega), show (48 : Int32).toInt = 48 by decide]; omega) (by rw [ti_nI (by omega), show (48 : Int32).toInt = 48 by decide]; omega), ti_nI (by omega)]; rfl
theorem rn_no1 {f : kV} {n p : Nat} {d : Int32} (hT : TC f n) (hd : d = (if p < n then f p else 0) - 48) (h : d < 0) : ¬ (p < n ∧ 48 ≤ f p ∧ f p ≤ 57) := by
  rintro ⟨h1, h2, h3⟩
  obtain ⟨m, m1, m2, m3⟩ := hT p h1
  rw [if_pos h1, m3] at hd
  rw [m3, ti_le, ti_nI (by omega), show (48 : Int32).toInt = 48 by decide] at h2
  rw [hd, ti_lt, nI48 m2, ti_0] at h
  omega
theorem rn_no2 {f : kV} {n p : Nat} {d : Int32} (hT : TC f n) (hd : d = (if p < n then f p else 0) - 48) (h : ¬ d ≤ 9) : ¬ (p < n ∧ 48 ≤ f p ∧ f p ≤ 57) := by
  rintro ⟨h1, h2, h3⟩
  obtain ⟨m, m1, m2, m3⟩ := hT p h1
  rw [if_pos h1, m3] at hd
  rw [m3, ti_le, ti_nI (by omega), show (57 : Int32).toInt = 57 by decide] at h3
  refine h ?_
  rw [hd, ti_le, nI48 m2, show (9 : Int32).toInt = 9 by decide]
  omega
theorem rn_yes {f : kV} {n p : Nat} {d : Int32} (hT : TC f n) (hd : d = (if p < n then f p else 0) - 48) (h : ¬ d < 0) (h2 : d ≤ 9) : (p < n ∧ 48 ≤ f p ∧ f p ≤ 57) ∧ ∃ m, m < 10 ∧ d = nI m := by
  by_cases h1 : p < n
  · obtain ⟨m, m1, m2, m3⟩ := hT p h1
    rw [if_pos h1, m3] at hd
    rw [hd, ti_lt, nI48 m2, ti_0] at h
    rw [hd, ti_le, nI48 m2, show (9 : Int32).toInt = 9 by decide] at h2
    refine ⟨⟨h1, ?_, ?_⟩, m - 48, by omega, ?_⟩
    · rw [m3, ti_le, ti_nI (by omega), show (48 : Int32).toInt = 48 by decide]; omega
    · rw [m3, ti_le, ti_nI (by omega), show (57 : Int32).toInt = 57 by decide]; omega
    · rw [hd]
      refine Int32.toInt_inj.mp ?_
      rw [nI48 m2, ti_nI (by omega)]; omega
  · rw [if_neg h1] at hd
    rw [hd] at h
    exact absurd (by decide) h
theorem rn_v {f : kV} {n p : Nat} {d v : Int32} (hd : d = (if p < n then f p else 0) - 48) (h1 : p < n) : 10 * v + f p - 48 = v * 10 + d := by
  rw [hd, if_pos h1, Int32.mul_comm, Int32.sub_eq_add_neg, Int32.sub_eq_add_neg, Int32.add_assoc]
theorem rn_step {i b m : Nat} {y v d : Int32} (hi : i < 4) (hv : v = nI b) (hb : b < 10 ^ i) (hy0 : i = 0 → y = -1) (hy1 : i ≠ 0 → y = v) (hm : m < 10) (hd : d = nI m) : v * 10 + d = nI (b * 10 + m) ∧ (if y < 0 then 0 else y) * 10 + d = v * 10 + d := by
  have hb4 : b < 10000 := Nat.lt_of_lt_of_le hb (by
    rcases (show i = 0 ∨ i = 1 ∨ i = 2 ∨ i = 3 by omega) with rfl | rfl | rfl | rfl <;> omega)
  refine ⟨by rw [hv, hd, show (10 : Int32) = nI 10 from rfl, pk_mul, nI_add], ?_⟩
  congr 2
  by_cases h0 : i = 0
  · have hb0 : b = 0 := by subst h0; simpa using hb
    rw [hy0 h0, hv, hb0]; decide
  · rw [hy1 h0, hv]
    have h9 : (0 : Int32) ≤ nI b := nI_pos' (by omega)
    rw [if_neg (Int32.not_lt.mpr h9)]
set_option maxHeartbeats 4000000 in
set_option maxRecDepth 100000 in
theorem c_Cmd_passes {g : kG} {σ : kS} {I : kI} {c t u : Nat} (hC : sCmd g σ c) (hO : sText g σ t u) (ct1 : c ≠ t) (ct2 : c ≠ u) {n0 : Nat} (hn : I t 1 = nI n0) (hn2 : n0 ≤ 60) {p : Nat} (he : I c 3 = nI p) (hp : p ≤ 60) {x : Int32} (hx : ¬ x = 0) : ct g mX3_passes ⟨1, 0, 0, 21⟩ [.ref c, .ref t, .int x] σ I (qI (if p < n0 ∧ I u p = x then 1 else 0) σ (if p < n0 ∧ I u p = x then kst I c 3 (nI (p + 1)) else I)) := by
  refine ct_of pn3 rfl (Nat.le_of_ble_eq_true rfl) ok_X3_passes.1 trivial ?_
  show wp _ _ _ _ _ _ _ _ 0 [some (.ref c), some (.ref t), some (.int x)] []
  refine w_aload_1 (pc := 0) dX3_passes_0 ?_
  refine w_aload_0 (pc := 1) dX3_passes_1 ?_
  refine w_getI (pc := 2) kc3 3 hC.1 hC.2 rfl t312 dX3_passes_2 ?_
  refine w_callV_I (pc := 5) (c_Text_at hO hn hn2 he (by omega)) ok_X9_at t724 t725 kc9 hO.1 hO.2.1 t723 ⟨Nat.le_of_ble_eq_true rfl, Nat.le_of_ble_eq_true rfl⟩ ⟨rfl, rfl⟩ ⟨Nat.le_refl _, Nat.le_refl _⟩ rfl (Nat.le_of_ble_eq_true rfl) dX3_passes_5 ?_
  refine w_iload_2 (pc := 8) dX3_passes_8 ?_
  refine w_icmp_eq (pc := 9) (tgt := 14) dX3_passes_9 (by decide) (fun c9 => ?_) (fun c9 => ?_)
  · have hc : p < n0 ∧ I u p = x := by
      by_cases h : p < n0
      · rw [if_pos h] at c9; exact ⟨h, c9⟩
      · rw [if_neg h] at c9; exact absurd c9.symm hx
    refine w_aload_0 (pc := 14) dX3_passes_14 ?_
    refine w_dup_a (pc := 15) dX3_passes_15 ?_
    refine w_getI (pc := 16) kc3 3 hC.1 hC.2 rfl t312 dX3_passes_16 ?_
    refine w_iconst (pc := 19) (v := 1) dX3_passes_19 (by decide) ?_
    refine w_iadd (pc := 20) dX3_passes_20 ?_
    refine w_putI (pc := 21) kc3 3 hC.1 hC.2 rfl t312 rfl (tyX3_ok 3 (by decide)) rfl rfl dX3_passes_21 ?_
    refine w_iconst (pc := 24) (v := 1) dX3_passes_24 (by decide) ?_
    refine w_zret (pc := 25) rfl (by decide) ⟨Nat.le_refl _, Nat.le_refl _⟩ dX3_passes_25 ?_
    refine ⟨by rw [if_pos hc], rfl, by rw [if_pos hc, he, nI_1]⟩
  · have hc : ¬ (p < n0 ∧ I u p = x) := fun h => c9 (by rw [if_pos h.1]; exact h.2)
    refine w_iconst (pc := 12) (v := 0) dX3_passes_12 (by decide) ?_
    refine w_zret (pc := 13) rfl (by decide) ⟨Nat.le_refl _, Nat.le_refl _⟩ dX3_passes_13 ?_
    refine ⟨by rw [if_neg hc], rfl, by rw [if_neg hc]⟩
set_option maxHeartbeats 4000000 in
set_option maxRecDepth 100000 in
theorem c_Cmd_readNumber {g : kG} {σ : kS} {I : kI} {c t u : Nat} (hC : sCmd g σ c) (hO : sText g σ t u) (ct1 : c ≠ t) (ct2 : c ≠ u) {n0 : Nat} (hn : I t 1 = nI n0) (hn2 : n0 ≤ 60) (hT : TC (I u) n0) {p : Nat} (he : I c 3 = nI p) (hp : p ≤ n0) : ct g mX3_readNumber ⟨1, 0, 0, 21⟩ [.ref c, .ref t] σ I (qI (if p < nmP (I u) n0 4 p then nmV (I u) n0 4 p 0 else -1) σ (kst I c 3 (nI (nmP (I u) n0 4 p)))) := by
  refine ct_of pn3 rfl (Nat.le_of_ble_eq_true rfl) ok_X3_readNumber.1 trivial ?_
  show wp _ _ _ _ _ _ _ _ 0 [some (.ref c), some (.ref t), none, none, none] []
  have N0 := nmP_le (I u) n0 4 p
  refine w_iconst (pc := 0) (v := -1) dX3_readNumber_0 (by decide) ?_
  refine w_istore_2 (pc := 1) dX3_readNumber_1 rfl ?_
  refine w_iconst (pc := 2) (v := 0) dX3_readNumber_2 (by decide) ?_
  refine w_istore_3 (pc := 3) dX3_readNumber_3 rfl ?_
  have L0 : ∀ (n i b : Nat) (y z v : Int32), i ≤ 4 → 5 ≤ i + n → p + i ≤ n0 → z = nI i → v = nI b → b < 10 ^ i → (i = 0 → y = -1) → (i ≠ 0 → y = v) → nmP (I u) n0 (4 - i) (p + i) = nmP (I u) n0 4 p → nmV (I u) n0 (4 - i) (p + i) v = nmV (I u) n0 4 p 0 → wp g mX3_readNumber ⟨1, 0, 0, 21⟩ (fun _ => True) (qI (if p < nmP (I u) n0 4 p then nmV (I u) n0 4 p 0 else -1) σ (kst I c 3 (nI (nmP (I u) n0 4 p)))) (0, 0) σ (kst I c 3 (nI (p + i))) 4 [some (.ref c), some (.ref t), some (.int y), some (.int z), none] [] := by
    intro n
    induction n with
    | zero => intro i b y z v h1 h2; exact absurd h2 (by omega)
    | succ n ih =>
      intro i b y z v h1 h2 h3 hz hv hb hy0 hy1 hP hV
      refine w_iload_3 (pc := 4) dX3_readNumber_4 ?_
      refine w_iconst (pc := 5) (v := 4) dX3_readNumber_5 (by decide) ?_
      refine w_icmp_ge (pc := 6) (tgt := 64) dX3_readNumber_6 (by decide) (fun c6 => ?_) (fun c6 => ?_)
      · have hi : 4 ≤ i := (nx_cmp (x := 4) (a := 4) rfl (by omega) hz (by omega)).1.mp c6
        obtain rfl : i = 4 := by omega
        have e1 : nmP (I u) n0 4 p = p + 4 := by rw [← hP]; rfl
        have e2 : nmV (I u) n0 4 p 0 = v := by rw [← hV]; rfl
        refine w_iload_2 (pc := 64) dX3_readNumber_64 ?_
        refine w_iret (pc := 65) rfl ⟨Nat.le_refl _, Nat.le_refl _⟩ dX3_readNumber_65 ?_
        refine ⟨?_, rfl, by rw [e1]⟩
        rw [e1, e2, if_pos (by omega), hy1 (by omega)]
      · have hi : i < 4 := nx_nle (a := 4) c6 rfl (by omega) hz (by omega)
        obtain ⟨k, hk⟩ : ∃ k, 4 - i = k + 1 := ⟨3 - i, by omega⟩
        have j3 : kst I c 3 (nI (p + i)) c 3 = nI (p + i) := by rw [kst_s, upd_s]
        have jn : kst I c 3 (nI (p + i)) t 1 = nI n0 := by rw [kst_n ct1.symm]; exact hn
        refine w_aload_1 (pc := 9) dX3_readNumber_9 ?_
        refine w_aload_0 (pc := 10) dX3_readNumber_10 ?_
        refine w_getI (pc := 11) kc3 3 hC.1 hC.2 rfl t312 dX3_readNumber_11 ?_
        refine w_callV_I (pc := 14) (c_Text_at hO jn hn2 j3 (by omega)) ok_X9_at t724 t725 kc9 hO.1 hO.2.1 t723 ⟨Nat.le_of_ble_eq_true rfl, Nat.le_of_ble_eq_true rfl⟩ ⟨rfl, rfl⟩ ⟨Nat.le_refl _, Nat.le_refl _⟩ rfl (Nat.le_of_ble_eq_true rfl) dX3_readNumber_14 ?_
        refine w_bipush (pc := 17) (v := 48) dX3_readNumber_17 (by decide) ?_
        refine w_isub (pc := 19) dX3_readNumber_19 ?_
        rw [kst_n ct2.symm]
        refine w_name (fun d hd => ?_)
        refine w_istore_4 (pc := 20) dX3_readNumber_20 rfl ?_
        refine w_iload_4 (pc := 22) dX3_readNumber_22 ?_
        refine w_if_lt (pc := 24) (tgt := 34) dX3_readNumber_24 (by decide) (fun c24 => ?_) (fun c24 => ?_)
        · have hnd := rn_no1 hT hd c24
          have e1 : nmP (I u) n0 4 p = p + i := by rw [← hP, hk, nmP, if_neg hnd]
          have e2 : nmV (I u) n0 4 p 0 = v := by rw [← hV, hk, nmV, if_neg hnd]
          refine w_iload_2 (pc := 34) dX3_readNumber_34 ?_
          refine w_iret (pc := 35) rfl ⟨Nat.le_refl _, Nat.le_refl _⟩ dX3_readNumber_35 ?_
          refine ⟨?_, rfl, by rw [e1]⟩
          rw [e1, e2]
          by_cases h0 : i = 0
          · rw [if_neg (by omega), hy0 h0]
          · rw [if_pos (by omega), hy1 h0]
        · refine w_iload_4 (pc := 27) dX3_readNumber_27 ?_
          refine w_bipush (pc := 29) (v := 9) dX3_readNumber_29 (by decide) ?_
          refine w_icmp_le (pc := 31) (tgt := 36) dX3_readNumber_31 (by decide) (fun c31 => ?_) (fun c31 => ?_)
          · obtain ⟨hyd, m, hm, hdm⟩ := rn_yes hT hd c24 c31
            refine w_iload_2 (pc := 36) dX3_readNumber_36 ?_
            refine w_iconst (pc := 37) (v := 0) dX3_readNumber_37 (by decide) ?_
            refine w_mmax (pc := 38) t735 t736 t42 t737 ⟨⟨Nat.le_of_ble_eq_true rfl, Nat.le_of_ble_eq_true rfl⟩, Nat.le_refl _, Nat.le_refl _⟩ dX3_readNumber_38 ?_
            refine w_bipush (pc := 41) (v := 10) dX3_readNumber_41 (by decide) ?_
            refine w_imul (pc := 43) dX3_readNumber_43 ?_
            refine w_iload_4 (pc := 44) dX3_readNumber_44 ?_
            refine w_iadd (pc := 46) dX3_readNumber_46 ?_
            refine w_istore_2 (pc := 47) dX3_readNumber_47 rfl ?_
            refine w_aload_0 (pc := 48) dX3_readNumber_48 ?_
            refine w_dup_a (pc := 49) dX3_readNumber_49 ?_
            refine w_getI (pc := 50) kc3 3 hC.1 hC.2 rfl t312 dX3_readNumber_50 ?_
            refine w_iconst (pc := 53) (v := 1) dX3_readNumber_53 (by decide) ?_
            refine w_iadd (pc := 54) dX3_readNumber_54 ?_
            refine w_putI (pc := 55) kc3 3 hC.1 hC.2 rfl t312 rfl (tyX3_ok 3 (by decide)) rfl rfl dX3_readNumber_55 ?_
            refine w_iinc_3 (pc := 58) dX3_readNumber_58 rfl rfl ?_
            refine w_goto (pc := 61) (tgt := 4) dX3_readNumber_61 (by decide) ?_
            refine w_drop 4 ?_
            obtain ⟨q1, q2⟩ := rn_step (y := y) hi hv hb hy0 hy1 hm hdm
            have hpn : p + i < n0 := hyd.1
            refine w_mem ?_ (ih (i + 1) (b * 10 + m) _ _ (10 * v + I u (p + i) - 48) (by omega) (by omega) (by omega) (by rw [hz]; exact nI_1 i) ?_ (by rw [Nat.pow_succ]; omega) (fun h => absurd h (by omega)) (fun _ => ?_) ?_ ?_)
            · rw [kst_kst, kst_s, upd_s, nI_1]; rfl
            · rw [rn_v hd hyd.1]; exact q1
            · rw [rn_v hd hyd.1]; exact q2
            · rw [← hP, hk, nmP, if_pos hyd, show 4 - (i + 1) = k by omega]; rfl
            · rw [← hV, hk, nmV, if_pos hyd, show 4 - (i + 1) = k by omega]; rfl
          · have hnd := rn_no2 hT hd c31
            have e1 : nmP (I u) n0 4 p = p + i := by rw [← hP, hk, nmP, if_neg hnd]
            have e2 : nmV (I u) n0 4 p 0 = v := by rw [← hV, hk, nmV, if_neg hnd]
            refine w_iload_2 (pc := 34) dX3_readNumber_34 ?_
            refine w_iret (pc := 35) rfl ⟨Nat.le_refl _, Nat.le_refl _⟩ dX3_readNumber_35 ?_
            refine ⟨?_, rfl, by rw [e1]⟩
            rw [e1, e2]
            by_cases h0 : i = 0
            · rw [if_neg (by omega), hy0 h0]
            · rw [if_pos (by omega), hy1 h0]
  refine w_mem ?_ (L0 5 0 0 _ _ 0 (by omega) (by omega) (by omega) rfl rfl (by omega) (fun _ => rfl) (fun h => absurd rfl h) rfl rfl)
  rw [Nat.add_zero, ← he, kst_self]
