def ip (k : Nat) : Prop := k = 0 ∨ k = 1 ∨ k = 2 ∨ k = 8 ∨ k = 10 ∨ k = 11 ∨ k = 15 ∨ k = 16 ∨ k = 17
def ih_ (k : Nat) : Prop := k = 9 ∨ k = 13 ∨ (69 ≤ k ∧ k < 81)
def ib_ (k : Nat) : Prop := 21 ≤ k ∧ k < 69
def in_ (k : Nat) : Prop := k = 12 ∨ (81 ≤ k ∧ k < 129)
def is_ (k : Nat) : Prop := 3 ≤ k ∧ k < 8
def ia_ (k : Nat) : Prop := k = 14 ∨ 129 ≤ k
def it_ (k : Nat) : Prop := 18 ≤ k ∧ k < 21
theorem PR_only_h {I J : kI} {p : Nat} {s t : kV} (h : PR I p s) (hS : SX s) (eJ : ∀ a, (a < p + 1 ∨ p + 3 < a) → J a = I a) (es : ∀ k, ¬ ih_ k → t k = s k) (hx : PRh J p t) : PR J p t := by
  obtain ⟨h0, h1, h2, h3, h4, h5, h6⟩ := h
  exact ⟨hx, (PRb_c h1 (eJ (p + 4) (by omega)) (eJ (p + 5) (by omega)) (fun k h1 h2 => es k (by simp only [ih_]; omega))), (PRn_c h2 (eJ (p + 6) (by omega)) (eJ (p + 7) (by omega)) (eJ (p + 8) (by omega)) (eJ (p + 9) (by omega)) (fun k hk => es k (by simp only [ih_]; omega))), (PRs_c h3 (eJ (p + 10) (by omega)) (fun k h1 h2 => es k (by simp only [ih_]; omega))), (PRa_c h4 (eJ (p + 11) (by omega)) (eJ (p + 12) (by omega)) (eJ (p + 13) (by omega)) (eJ (p + 14) (by omega)) (fun k hk => es k (by simp only [ih_]; omega))), (PRt_c h5 (eJ (p + 15) (by omega)) (fun k h1 h2 => es k (by simp only [ih_]; omega))), (PRp_c h6 (eJ p (by omega)) (fun k hk => es k (by simp only [ih_]; omega)))⟩
theorem PR_only_b {I J : kI} {p : Nat} {s t : kV} (h : PR I p s) (hS : SX s) (eJ : ∀ a, (a < p + 4 ∨ p + 5 < a) → J a = I a) (es : ∀ k, ¬ ib_ k → t k = s k) (hx : PRb J p t) : PR J p t := by
  obtain ⟨h0, h1, h2, h3, h4, h5, h6⟩ := h
  exact ⟨(PRh_c h0 (eJ (p + 1) (by omega)) (eJ (p + 2) (by omega)) (eJ (p + 3) (by omega)) (fun k hk => es k (by simp only [ib_]; omega)) (SX_L hS).1), hx, (PRn_c h2 (eJ (p + 6) (by omega)) (eJ (p + 7) (by omega)) (eJ (p + 8) (by omega)) (eJ (p + 9) (by omega)) (fun k hk => es k (by simp only [ib_]; omega))), (PRs_c h3 (eJ (p + 10) (by omega)) (fun k h1 h2 => es k (by simp only [ib_]; omega))), (PRa_c h4 (eJ (p + 11) (by omega)) (eJ (p + 12) (by omega)) (eJ (p + 13) (by omega)) (eJ (p + 14) (by omega)) (fun k hk => es k (by simp only [ib_]; omega))), (PRt_c h5 (eJ (p + 15) (by omega)) (fun k h1 h2 => es k (by simp only [ib_]; omega))), (PRp_c h6 (eJ p (by omega)) (fun k hk => es k (by simp only [ib_]; omega)))⟩
theorem PR_only_n {I J : kI} {p : Nat} {s t : kV} (h : PR I p s) (hS : SX s) (eJ : ∀ a, (a < p + 6 ∨ p + 9 < a) → J a = I a) (es : ∀ k, ¬ in_ k → t k = s k) (hx : PRn J p t) : PR J p t := by
  obtain ⟨h0, h1, h2, h3, h4, h5, h6⟩ := h
  exact ⟨(PRh_c h0 (eJ (p + 1) (by omega)) (eJ (p + 2) (by omega)) (eJ (p + 3) (by omega)) (fun k hk => es k (by simp only [in_]; omega)) (SX_L hS).1), (PRb_c h1 (eJ (p + 4) (by omega)) (eJ (p + 5) (by omega)) (fun k h1 h2 => es k (by simp only [in_]; omega))), hx, (PRs_c h3 (eJ (p + 10) (by omega)) (fun k h1 h2 => es k (by simp only [in_]; omega))), (PRa_c h4 (eJ (p + 11) (by omega)) (eJ (p + 12) (by omega)) (eJ (p + 13) (by omega)) (eJ (p + 14) (by omega)) (fun k hk => es k (by simp only [in_]; omega))), (PRt_c h5 (eJ (p + 15) (by omega)) (fun k h1 h2 => es k (by simp only [in_]; omega))), (PRp_c h6 (eJ p (by omega)) (fun k hk => es k (by simp only [in_]; omega)))⟩
theorem PR_only_s {I J : kI} {p : Nat} {s t : kV} (h : PR I p s) (hS : SX s) (eJ : ∀ a, (a < p + 10 ∨ p + 10 < a) → J a = I a) (es : ∀ k, ¬ is_ k → t k = s k) (hx : PRs J p t) : PR J p t := by
  obtain ⟨h0, h1, h2, h3, h4, h5, h6⟩ := h
  exact ⟨(PRh_c h0 (eJ (p + 1) (by omega)) (eJ (p + 2) (by omega)) (eJ (p + 3) (by omega)) (fun k hk => es k (by simp only [is_]; omega)) (SX_L hS).1), (PRb_c h1 (eJ (p + 4) (by omega)) (eJ (p + 5) (by omega)) (fun k h1 h2 => es k (by simp only [is_]; omega))), (PRn_c h2 (eJ (p + 6) (by omega)) (eJ (p + 7) (by omega)) (eJ (p + 8) (by omega)) (eJ (p + 9) (by omega)) (fun k hk => es k (by simp only [is_]; omega))), hx, (PRa_c h4 (eJ (p + 11) (by omega)) (eJ (p + 12) (by omega)) (eJ (p + 13) (by omega)) (eJ (p + 14) (by omega)) (fun k hk => es k (by simp only [is_]; omega))), (PRt_c h5 (eJ (p + 15) (by omega)) (fun k h1 h2 => es k (by simp only [is_]; omega))), (PRp_c h6 (eJ p (by omega)) (fun k hk => es k (by simp only [is_]; omega)))⟩
theorem PR_only_a {I J : kI} {p : Nat} {s t : kV} (h : PR I p s) (hS : SX s) (eJ : ∀ a, (a < p + 11 ∨ p + 14 < a) → J a = I a) (es : ∀ k, ¬ ia_ k → t k = s k) (hx : PRa J p t) : PR J p t := by
  obtain ⟨h0, h1, h2, h3, h4, h5, h6⟩ := h
  exact ⟨(PRh_c h0 (eJ (p + 1) (by omega)) (eJ (p + 2) (by omega)) (eJ (p + 3) (by omega)) (fun k hk => es k (by simp only [ia_]; omega)) (SX_L hS).1), (PRb_c h1 (eJ (p + 4) (by omega)) (eJ (p + 5) (by omega)) (fun k h1 h2 => es k (by simp only [ia_]; omega))), (PRn_c h2 (eJ (p + 6) (by omega)) (eJ (p + 7) (by omega)) (eJ (p + 8) (by omega)) (eJ (p + 9) (by omega)) (fun k hk => es k (by simp only [ia_]; omega))), (PRs_c h3 (eJ (p + 10) (by omega)) (fun k h1 h2 => es k (by simp only [ia_]; omega))), hx, (PRt_c h5 (eJ (p + 15) (by omega)) (fun k h1 h2 => es k (by simp only [ia_]; omega))), (PRp_c h6 (eJ p (by omega)) (fun k hk => es k (by simp only [ia_]; omega)))⟩
theorem PR_only_t {I J : kI} {p : Nat} {s t : kV} (h : PR I p s) (hS : SX s) (eJ : ∀ a, (a < p + 15 ∨ p + 15 < a) → J a = I a) (es : ∀ k, ¬ it_ k → t k = s k) (hx : PRt J p t) : PR J p t := by
  obtain ⟨h0, h1, h2, h3, h4, h5, h6⟩ := h
  exact ⟨(PRh_c h0 (eJ (p + 1) (by omega)) (eJ (p + 2) (by omega)) (eJ (p + 3) (by omega)) (fun k hk => es k (by simp only [it_]; omega)) (SX_L hS).1), (PRb_c h1 (eJ (p + 4) (by omega)) (eJ (p + 5) (by omega)) (fun k h1 h2 => es k (by simp only [it_]; omega))), (PRn_c h2 (eJ (p + 6) (by omega)) (eJ (p + 7) (by omega)) (eJ (p + 8) (by omega)) (eJ (p + 9) (by omega)) (fun k hk => es k (by simp only [it_]; omega))), (PRs_c h3 (eJ (p + 10) (by omega)) (fun k h1 h2 => es k (by simp only [it_]; omega))), (PRa_c h4 (eJ (p + 11) (by omega)) (eJ (p + 12) (by omega)) (eJ (p + 13) (by omega)) (eJ (p + 14) (by omega)) (fun k hk => es k (by simp only [it_]; omega))), hx, (PRp_c h6 (eJ p (by omega)) (fun k hk => es k (by simp only [it_]; omega)))⟩
theorem PR_only_p {I J : kI} {p : Nat} {s t : kV} (h : PR I p s) (hS : SX s) (eJ : ∀ a, (a < p + 0 ∨ p + 0 < a) → J a = I a) (es : ∀ k, ¬ ip k → t k = s k) (hx : PRp J p t) : PR J p t := by
  obtain ⟨h0, h1, h2, h3, h4, h5, h6⟩ := h
  exact ⟨(PRh_c h0 (eJ (p + 1) (by omega)) (eJ (p + 2) (by omega)) (eJ (p + 3) (by omega)) (fun k hk => es k (by simp only [ip]; omega)) (SX_L hS).1), (PRb_c h1 (eJ (p + 4) (by omega)) (eJ (p + 5) (by omega)) (fun k h1 h2 => es k (by simp only [ip]; omega))), (PRn_c h2 (eJ (p + 6) (by omega)) (eJ (p + 7) (by omega)) (eJ (p + 8) (by omega)) (eJ (p + 9) (by omega)) (fun k hk => es k (by simp only [ip]; omega))), (PRs_c h3 (eJ (p + 10) (by omega)) (fun k h1 h2 => es k (by simp only [ip]; omega))), (PRa_c h4 (eJ (p + 11) (by omega)) (eJ (p + 12) (by omega)) (eJ (p + 13) (by omega)) (eJ (p + 14) (by omega)) (fun k hk => es k (by simp only [ip]; omega))), (PRt_c h5 (eJ (p + 15) (by omega)) (fun k h1 h2 => es k (by simp only [ip]; omega))), hx⟩
theorem kdr {x : Int32} (h : 0 ≤ x ∧ x ≤ 3) : 0 ≤ x ∧ x < 4 := ⟨h.1, Int32.lt_of_le_of_lt h.2 (by decide)⟩
theorem kdl {x : Int32} (h : 0 ≤ x ∧ x < 4) : 0 ≤ x ∧ x ≤ 3 := ⟨h.1, by
  have := Int32.lt_iff_toInt_lt.mp h.2
  have h4 : (4 : Int32).toInt = 4 := by decide
  rw [Int32.le_iff_toInt_le, show (3 : Int32).toInt = 3 by decide]; omega⟩
theorem place_eq {m : kV} {s : kV} {z : Nat} (z3 : ∀ π κ, π < 12 → κ < 4 → m ((z + π) % 12 * 4 + κ) = s (21 + 4 * π + κ)) {π : Nat} (hπ : π < 12) : sm m ((z + π) % 12 * 4) 4 = sm s (21 + 4 * π) 4 := sm_cong (fun k hk => z3 π k hπ hk)
theorem sm_add (s : kV) (a m : Nat) : ∀ n, sm s a (m + n) = sm s a m + sm s (a + m) n
  | 0 => (Int32.add_zero _).symm
  | n + 1 => by
    rw [← Nat.add_assoc, sm_succ, sm_add s a m n, sm_succ, Int32.add_assoc, Nat.add_assoc]
theorem seen_eq {m : kV} {s : kV} {z : Nat} (z3 : ∀ π κ, π < 12 → κ < 4 → m ((z + π) % 12 * 4 + κ) = s (21 + 4 * π + κ)) : 0 + sm m ((z + 4) % 12 * 4) 4 + sm m ((z + 5) % 12 * 4) 4 + sm m ((z + 6) % 12 * 4) 4 + sm m ((z + 7) % 12 * 4) 4 = sm s 37 16 := by
  rw [place_eq z3 (by omega), place_eq z3 (by omega), place_eq z3 (by omega), place_eq z3 (by omega), show (16 : Nat) = 4 + 4 + 4 + 4 from rfl, sm_add, sm_add, sm_add, Int32.zero_add]
set_option maxHeartbeats 4000000 in
set_option maxRecDepth 100000 in
theorem c_Plant_hasBatch {g : kG} {σ : kS} {I : kI} {p : Nat} (hP : sPlant g σ p)  : ct g mX6_hasBatch ⟨0, 0, 0, 0⟩ [.ref p] σ I (qI (if 0 < I p 8 then 1 else 0) σ I) := by
  refine ct_of pn6 rfl (Nat.le_of_ble_eq_true rfl) ok_X6_hasBatch.1 trivial ?_
  show wp _ _ _ _ _ _ _ _ 0 [some (.ref p)] []
  refine w_aload_0 (pc := 0) dX6_hasBatch_0 ?_
  refine w_getI (pc := 1) kc6 8 (sP_in0 hP) (sP_s0 hP) rfl t183 dX6_hasBatch_1 ?_
  refine w_if_le (pc := 4) (tgt := 11) dX6_hasBatch_4 (by decide) (fun c4 => ?_) (fun c4 => ?_)
  · refine w_iconst (pc := 11) (v := 0) dX6_hasBatch_11 (by decide) ?_
    refine w_zret (pc := 12) rfl (by decide) ⟨Nat.le_refl _, Nat.le_refl _⟩ dX6_hasBatch_12 ?_
    refine ⟨?_, rfl, rfl⟩
    rw [if_neg (Int32.not_lt.mpr c4)]
  · refine w_iconst (pc := 7) (v := 1) dX6_hasBatch_7 (by decide) ?_
    refine w_goto (pc := 8) (tgt := 12) dX6_hasBatch_8 (by decide) ?_
    refine w_zret (pc := 12) rfl (by decide) ⟨Nat.le_refl _, Nat.le_refl _⟩ dX6_hasBatch_12 ?_
    refine ⟨?_, rfl, rfl⟩
    rw [if_pos (Int32.not_le.mp c4)]
set_option maxHeartbeats 4000000 in
set_option maxRecDepth 100000 in
theorem c_Plant_setGate {g : kG} {σ : kS} {I : kI} {p : Nat} {s : kV} (hP : sPlant g σ p) (hR : PR I p s) (hS : SX s) {x : Int32} : ct g mX6_setGate ⟨0, 0, 0, 0⟩ [.ref p, .int x] σ I (qEI σ (fun r I1 => r = (oGate s x).1 ∧ opP p I (oGate s x) I1)) := by
  refine ct_of pn6 rfl (Nat.le_of_ble_eq_true rfl) ok_X6_setGate.1 trivial ?_
  show wp _ _ _ _ _ _ _ _ 0 [some (.ref p), some (.int x), none] []
  obtain ⟨rh, rb, rn, rs, ra, rt, rp⟩ := hR
  refine w_iload_1 (pc := 0) dX6_setGate_0 ?_
  refine w_if_lt (pc := 1) (tgt := 11) dX6_setGate_1 (by decide) (fun c1 => ?_) (fun c1 => ?_)
  · refine w_ldc (pc := 11) (v := -1000001) t412 dX6_setGate_11 ?_
    refine w_iret (pc := 13) rfl ⟨Nat.le_refl _, Nat.le_refl _⟩ dX6_setGate_13 ?_
    have ho : oGate s x = (-1000001, none) := by unfold oGate; rw [if_pos (fun h => absurd h.1 (Int32.not_le.mpr c1))]
    exact ⟨_, rfl, rfl, by rw [ho], by rw [ho]; rfl⟩
  · refine w_iload_1 (pc := 4) dX6_setGate_4 ?_
    refine w_sipush (pc := 5) (v := 200) dX6_setGate_5 (by decide) ?_
    refine w_icmp_le (pc := 8) (tgt := 14) dX6_setGate_8 (by decide) (fun c8 => ?_) (fun c8 => ?_)
    · refine w_aload_0 (pc := 14) dX6_setGate_14 ?_
      refine w_getI (pc := 15) kc6 6 (sP_in0 hP) (sP_s0 hP) rfl t179 dX6_setGate_15 ?_
      refine w_istore_2 (pc := 18) dX6_setGate_18 rfl ?_
      refine w_aload_0 (pc := 19) dX6_setGate_19 ?_
      refine w_iload_1 (pc := 20) dX6_setGate_20 ?_
      refine w_putI (pc := 21) kc6 6 (sP_in0 hP) (sP_s0 hP) rfl t179 rfl (tyX6_ok 6 (by decide)) rfl rfl dX6_setGate_21 ?_
      refine w_iload_2 (pc := 24) dX6_setGate_24 ?_
      refine w_iret (pc := 25) rfl ⟨Nat.le_refl _, Nat.le_refl _⟩ dX6_setGate_25 ?_
      have ho : oGate s x = (s 0, some (upd s 0 x)) := by unfold oGate; rw [if_neg (fun h => h ⟨Int32.not_lt.mp c1, c8⟩)]
      refine ⟨_, rfl, rfl, ?_, ?_⟩
      · rw [ho]
        exact rp.1
      · rw [ho]
        refine ⟨frP_kst (by omega), ?_⟩
        refine PR_only_p ⟨rh, rb, rn, rs, ra, rt, rp⟩ hS (fun a h => kst_n (by omega)) (fun k h => upd_ne (by simp only [ip] at h; omega)) ?_
        obtain ⟨h1, h2, h3, h4, h5, h6, h7, h8, h9, h10⟩ := rp
        simp [PRp, kst_s, upd, *]
        exact ⟨h4, fun q => h5 (Int32.not_lt.mpr q), h6⟩
    · refine w_ldc (pc := 11) (v := -1000001) t412 dX6_setGate_11 ?_
      refine w_iret (pc := 13) rfl ⟨Nat.le_refl _, Nat.le_refl _⟩ dX6_setGate_13 ?_
      have ho : oGate s x = (-1000001, none) := by unfold oGate; rw [if_pos (fun h => absurd h.2 c8)]
      exact ⟨_, rfl, rfl, by rw [ho], by rw [ho]; rfl⟩
set_option maxHeartbeats 4000000 in
set_option maxRecDepth 100000 in
theorem c_Plant_switchBelt {g : kG} {σ : kS} {I : kI} {p : Nat} {s : kV} (hP : sPlant g σ p) (hR : PR I p s) (hS : SX s) {x : Int32} : ct g mX6_switchBelt ⟨1, 0, 0, 20⟩ [.ref p, .int x] σ I (qEI σ (fun r I1 => r = (oRun s x).1 ∧ opP p I (oRun s x) I1)) := by
  refine ct_of pn6 rfl (Nat.le_of_ble_eq_true rfl) ok_X6_switchBelt.1 trivial ?_
  show wp _ _ _ _ _ _ _ _ 0 [some (.ref p), some (.int x), none] []
  obtain ⟨rh, rb, rn, rs, ra, rt, rp⟩ := hR
  refine w_iload_1 (pc := 0) dX6_switchBelt_0 ?_
  refine w_if_lt (pc := 1) (tgt := 9) dX6_switchBelt_1 (by decide) (fun c1 => ?_) (fun c1 => ?_)
  · refine w_ldc (pc := 9) (v := -1000001) t412 dX6_switchBelt_9 ?_
    refine w_iret (pc := 11) rfl ⟨Nat.le_refl _, Nat.le_refl _⟩ dX6_switchBelt_11 ?_
    have ho : oRun s x = (-1000001, none) := by unfold oRun; rw [if_pos (fun h => absurd h.1 (Int32.not_le.mpr c1))]
    exact ⟨_, rfl, rfl, by rw [ho], by rw [ho]; rfl⟩
  · refine w_iload_1 (pc := 4) dX6_switchBelt_4 ?_
    refine w_iconst (pc := 5) (v := 1) dX6_switchBelt_5 (by decide) ?_
    refine w_icmp_le (pc := 6) (tgt := 12) dX6_switchBelt_6 (by decide) (fun c6 => ?_) (fun c6 => ?_)
    · refine w_aload_0 (pc := 12) dX6_switchBelt_12 ?_
      refine w_callV_I (pc := 13) (c_Plant_hasBatch hP) ok_X6_hasBatch t341 t342 kc6 (sP_in0 hP) (sP_s0 hP) t418 ⟨Nat.le_of_ble_eq_true rfl, Nat.le_of_ble_eq_true rfl⟩ ⟨rfl, rfl⟩ ⟨Nat.le_refl _, Nat.le_refl _⟩ rfl (Nat.le_of_ble_eq_true rfl) dX6_switchBelt_13 ?_
      refine w_if_eq (pc := 16) (tgt := 22) dX6_switchBelt_16 (by decide) (fun c16 => ?_) (fun c16 => ?_)
      · refine w_aload_0 (pc := 22) dX6_switchBelt_22 ?_
        refine w_getI (pc := 23) kc6 7 (sP_in0 hP) (sP_s0 hP) rfl t181 dX6_switchBelt_23 ?_
        refine w_istore_2 (pc := 26) dX6_switchBelt_26 rfl ?_
        refine w_aload_0 (pc := 27) dX6_switchBelt_27 ?_
        refine w_iload_1 (pc := 28) dX6_switchBelt_28 ?_
        refine w_putI (pc := 29) kc6 7 (sP_in0 hP) (sP_s0 hP) rfl t181 rfl (tyX6_ok 7 (by decide)) rfl rfl dX6_switchBelt_29 ?_
        refine w_iload_2 (pc := 32) dX6_switchBelt_32 ?_
        refine w_iret (pc := 33) rfl ⟨Nat.le_refl _, Nat.le_refl _⟩ dX6_switchBelt_33 ?_
        have ho : oRun s x = (s 1, some (upd s 1 x)) := by unfold oRun; rw [if_neg (fun h => h ⟨Int32.not_lt.mp c1, c6⟩), if_neg (by rw [← rp.2.2.1]; exact b0 c16)]
        refine ⟨_, rfl, rfl, ?_, ?_⟩
        · rw [ho]
          exact rp.2.1
        · rw [ho]
          refine ⟨frP_kst (by omega), ?_⟩
          refine PR_only_p ⟨rh, rb, rn, rs, ra, rt, rp⟩ hS (fun a h => kst_n (by omega)) (fun k h => upd_ne (by simp only [ip] at h; omega)) ?_
          obtain ⟨h1, h2, h3, h4, h5, h6, h7, h8, h9, h10⟩ := rp
          simp [PRp, kst_s, upd, *]
          exact ⟨h4, fun q => h5 (Int32.not_lt.mpr q), h6⟩
      · refine w_ldc (pc := 19) (v := -1000002) t508 dX6_switchBelt_19 ?_
        refine w_iret (pc := 21) rfl ⟨Nat.le_refl _, Nat.le_refl _⟩ dX6_switchBelt_21 ?_
        have ho : oRun s x = (-1000002, none) := by unfold oRun; rw [if_neg (fun h => h ⟨Int32.not_lt.mp c1, c6⟩), if_pos (by rw [← rp.2.2.1]; exact b1 c16)]
        exact ⟨_, rfl, rfl, by rw [ho], by rw [ho]; rfl⟩
    · refine w_ldc (pc := 9) (v := -1000001) t412 dX6_switchBelt_9 ?_
      refine w_iret (pc := 11) rfl ⟨Nat.le_refl _, Nat.le_refl _⟩ dX6_switchBelt_11 ?_
      have ho : oRun s x = (-1000001, none) := by unfold oRun; rw [if_pos (fun h => absurd h.2 c6)]
      exact ⟨_, rfl, rfl, by rw [ho], by rw [ho]; rfl⟩
set_option maxHeartbeats 4000000 in
set_option maxRecDepth 100000 in
theorem c_Plant_beginBatch {g : kG} {σ : kS} {I : kI} {p : Nat} {s : kV} (hP : sPlant g σ p) (hR : PR I p s) (hS : SX s) {x : Int32} : ct g mX6_beginBatch ⟨1, 0, 0, 20⟩ [.ref p, .int x] σ I (qEI σ (fun r I1 => r = (oBatch s x).1 ∧ opP p I (oBatch s x) I1)) := by
  refine ct_of pn6 rfl (Nat.le_of_ble_eq_true rfl) ok_X6_beginBatch.1 trivial ?_
  show wp _ _ _ _ _ _ _ _ 0 [some (.ref p), some (.int x)] []
  obtain ⟨rh, rb, rn, rs, ra, rt, rp⟩ := hR
  refine w_iload_1 (pc := 0) dX6_beginBatch_0 ?_
  refine w_iconst (pc := 1) (v := 1) dX6_beginBatch_1 (by decide) ?_
  refine w_icmp_lt (pc := 2) (tgt := 12) dX6_beginBatch_2 (by decide) (fun c2 => ?_) (fun c2 => ?_)
  · refine w_ldc (pc := 12) (v := -1000001) t412 dX6_beginBatch_12 ?_
    refine w_iret (pc := 14) rfl ⟨Nat.le_refl _, Nat.le_refl _⟩ dX6_beginBatch_14 ?_
    have ho : oBatch s x = (-1000001, none) := by unfold oBatch; rw [if_pos (fun h => absurd h.1 (Int32.not_le.mpr c2))]
    exact ⟨_, rfl, rfl, by rw [ho], by rw [ho]; rfl⟩
  · refine w_iload_1 (pc := 5) dX6_beginBatch_5 ?_
    refine w_sipush (pc := 6) (v := 9999) dX6_beginBatch_6 (by decide) ?_
    refine w_icmp_le (pc := 9) (tgt := 15) dX6_beginBatch_9 (by decide) (fun c9 => ?_) (fun c9 => ?_)
    · refine w_aload_0 (pc := 15) dX6_beginBatch_15 ?_
      refine w_callV_I (pc := 16) (c_Plant_hasBatch hP) ok_X6_hasBatch t341 t342 kc6 (sP_in0 hP) (sP_s0 hP) t418 ⟨Nat.le_of_ble_eq_true rfl, Nat.le_of_ble_eq_true rfl⟩ ⟨rfl, rfl⟩ ⟨Nat.le_refl _, Nat.le_refl _⟩ rfl (Nat.le_of_ble_eq_true rfl) dX6_beginBatch_16 ?_
      refine w_if_ne (pc := 19) (tgt := 32) dX6_beginBatch_19 (by decide) (fun c19 => ?_) (fun c19 => ?_)
      · refine w_ldc (pc := 32) (v := -1000002) t508 dX6_beginBatch_32 ?_
        refine w_iret (pc := 34) rfl ⟨Nat.le_refl _, Nat.le_refl _⟩ dX6_beginBatch_34 ?_
        have ho : oBatch s x = (-1000002, none) := by unfold oBatch; rw [if_neg (fun h => h ⟨Int32.not_lt.mp c2, c9⟩), if_pos (Or.inl (by rw [← rp.2.2.1]; exact b1 c19))]
        exact ⟨_, rfl, rfl, by rw [ho], by rw [ho]; rfl⟩
      · refine w_aload_0 (pc := 22) dX6_beginBatch_22 ?_
        refine w_getR (pc := 23) (b := p + 6) kc6 2 (sP_in0 hP) (sP_s0 hP) rfl (sP_r0_2 hP) t171 dX6_beginBatch_23 ?_
        refine w_getI (pc := 26) kc2 3 (sP_in hP (k := 6) (by decide)) (sP_s6 hP) rfl t93 dX6_beginBatch_26 ?_
        refine w_if_ne (pc := 29) (tgt := 35) dX6_beginBatch_29 (by decide) (fun c29 => ?_) (fun c29 => ?_)
        · refine w_aload_0 (pc := 35) dX6_beginBatch_35 ?_
          refine w_iconst (pc := 36) (v := 0) dX6_beginBatch_36 (by decide) ?_
          refine w_putI (pc := 37) kc6 7 (sP_in0 hP) (sP_s0 hP) rfl t181 rfl (tyX6_ok 7 (by decide)) rfl rfl dX6_beginBatch_37 ?_
          refine w_aload_0 (pc := 40) dX6_beginBatch_40 ?_
          refine w_iload_1 (pc := 41) dX6_beginBatch_41 ?_
          refine w_putI (pc := 42) kc6 8 (sP_in0 hP) (sP_s0 hP) rfl t183 rfl (tyX6_ok 8 (by decide)) rfl rfl dX6_beginBatch_42 ?_
          refine w_aload_0 (pc := 45) dX6_beginBatch_45 ?_
          refine w_iconst (pc := 46) (v := 0) dX6_beginBatch_46 (by decide) ?_
          refine w_putI (pc := 47) kc6 9 (sP_in0 hP) (sP_s0 hP) rfl t185 rfl (tyX6_ok 9 (by decide)) (by decide) (by decide) dX6_beginBatch_47 ?_
          refine w_aload_0 (pc := 50) dX6_beginBatch_50 ?_
          refine w_iconst (pc := 51) (v := 0) dX6_beginBatch_51 (by decide) ?_
          refine w_putI (pc := 52) kc6 10 (sP_in0 hP) (sP_s0 hP) rfl t187 rfl (tyX6_ok 10 (by decide)) rfl rfl dX6_beginBatch_52 ?_
          refine w_aload_0 (pc := 55) dX6_beginBatch_55 ?_
          refine w_getR (pc := 56) (b := p + 4) kc6 1 (sP_in0 hP) (sP_s0 hP) rfl (sP_r0_1 hP) t169 dX6_beginBatch_56 ?_
          refine w_getI (pc := 59) kc1 2 (sP_in hP (k := 4) (by decide)) (sP_s4 hP) rfl t70 dX6_beginBatch_59 ?_
          refine w_iret (pc := 62) rfl ⟨Nat.le_refl _, Nat.le_refl _⟩ dX6_beginBatch_62 ?_
          have ho : oBatch s x = (sm s 21 48, some (upd (upd (upd (upd s 15 x) 16 0) 17 0) 1 0)) := by unfold oBatch; rw [if_neg (fun h => h ⟨Int32.not_lt.mp c2, c9⟩), if_neg (fun h => h.elim (by rw [← rp.2.2.1]; exact b0 c19) (by rw [← rn.1]; exact c29))]
          refine ⟨_, rfl, rfl, ?_, ?_⟩
          · rw [ho]
            obtain ⟨z, -, -, -, hz⟩ := rb
            rw [← hz]
            simp [kst, va_up]
          · rw [ho]
            refine ⟨frP_t (frP_t (frP_t (frP_kst (by omega)) (frP_kst (by omega))) (frP_kst (by omega))) (frP_kst (by omega)), ?_⟩
            have hx : 0 < x := Int32.lt_of_lt_of_le (by decide) (Int32.not_lt.mp c2)
            refine PR_only_p ⟨rh, rb, rn, rs, ra, rt, rp⟩ hS (fun a h => by rw [kst_n (by omega), kst_n (by omega), kst_n (by omega), kst_n (by omega)]) (fun k h => by simp only [ip] at h; rw [upd_ne (by omega), upd_ne (by omega), upd_ne (by omega), upd_ne (by omega)]) ?_
            obtain ⟨h1, h2, h3, h4, h5, h6, h7, h8, h9, h10⟩ := rp
            simp [PRp, kst_s, upd, *]
        · refine w_ldc (pc := 32) (v := -1000002) t508 dX6_beginBatch_32 ?_
          refine w_iret (pc := 34) rfl ⟨Nat.le_refl _, Nat.le_refl _⟩ dX6_beginBatch_34 ?_
          have ho : oBatch s x = (-1000002, none) := by unfold oBatch; rw [if_neg (fun h => h ⟨Int32.not_lt.mp c2, c9⟩), if_pos (Or.inr (by rw [← rn.1]; exact c29))]
          exact ⟨_, rfl, rfl, by rw [ho], by rw [ho]; rfl⟩
    · refine w_ldc (pc := 12) (v := -1000001) t412 dX6_beginBatch_12 ?_
      refine w_iret (pc := 14) rfl ⟨Nat.le_refl _, Nat.le_refl _⟩ dX6_beginBatch_14 ?_
      have ho : oBatch s x = (-1000001, none) := by unfold oBatch; rw [if_pos (fun h => absurd h.2 c9)]
      exact ⟨_, rfl, rfl, by rw [ho], by rw [ho]; rfl⟩
set_option maxHeartbeats 4000000 in
set_option maxRecDepth 100000 in
theorem c_Plant_putBin {g : kG} {σ : kS} {I : kI} {p : Nat} {s : kV} (hP : sPlant g σ p) (hR : PR I p s) (hS : SX s)  : ct g mX6_putBin ⟨1, 0, 0, 20⟩ [.ref p] σ I (qEI σ (fun r I1 => r = (oBin s).1 ∧ opP p I (oBin s) I1)) := by
  refine ct_of pn6 rfl (Nat.le_of_ble_eq_true rfl) ok_X6_putBin.1 trivial ?_
  show wp _ _ _ _ _ _ _ _ 0 [some (.ref p)] []
  obtain ⟨rh, rb, rn, rs, ra, rt, rp⟩ := hR
  refine w_aload_0 (pc := 0) dX6_putBin_0 ?_
  refine w_callV_I (pc := 1) (c_Plant_hasBatch hP) ok_X6_hasBatch t341 t342 kc6 (sP_in0 hP) (sP_s0 hP) t418 ⟨Nat.le_of_ble_eq_true rfl, Nat.le_of_ble_eq_true rfl⟩ ⟨rfl, rfl⟩ ⟨Nat.le_refl _, Nat.le_refl _⟩ rfl (Nat.le_of_ble_eq_true rfl) dX6_putBin_1 ?_
  refine w_if_eq (pc := 4) (tgt := 10) dX6_putBin_4 (by decide) (fun c4 => ?_) (fun c4 => ?_)
  · refine w_aload_0 (pc := 10) dX6_putBin_10 ?_
    refine w_getR (pc := 11) (b := p + 6) kc6 2 (sP_in0 hP) (sP_s0 hP) rfl (sP_r0_2 hP) t171 dX6_putBin_11 ?_
    refine w_getI (pc := 14) kc2 3 (sP_in hP (k := 6) (by decide)) (sP_s6 hP) rfl t93 dX6_putBin_14 ?_
    refine w_bipush (pc := 17) (v := 8) dX6_putBin_17 (by decide) ?_
    refine w_icmp_lt (pc := 19) (tgt := 25) dX6_putBin_19 (by decide) (fun c19 => ?_) (fun c19 => ?_)
    · obtain ⟨B1, B2⟩ := SX_B hS
      have h6 : I (p + 6) 3 = nI (nB s) := rn.1.trans B2
      have B3 : nB s < 8 := (nx_cmp h6 (by omega) (y := 8) (b := 8) rfl (by omega)).2.1.mp c19
      refine w_aload_0 (pc := 25) dX6_putBin_25 ?_
      refine w_getR (pc := 26) (b := p + 6) kc6 2 (sP_in0 hP) (sP_s0 hP) rfl (sP_r0_2 hP) t171 dX6_putBin_26 ?_
      refine w_dup_a (pc := 29) dX6_putBin_29 ?_
      refine w_getI (pc := 30) kc2 3 (sP_in hP (k := 6) (by decide)) (sP_s6 hP) rfl t93 dX6_putBin_30 ?_
      refine w_iconst (pc := 33) (v := 1) dX6_putBin_33 (by decide) ?_
      refine w_iadd (pc := 34) dX6_putBin_34 ?_
      refine w_putI (pc := 35) kc2 3 (sP_in hP (k := 6) (by decide)) (sP_s6 hP) rfl t93 rfl (tyX2_ok 3 (by decide)) rfl rfl dX6_putBin_35 ?_
      refine w_aload_0 (pc := 38) dX6_putBin_38 ?_
      refine w_getR (pc := 39) (b := p + 6) kc6 2 (sP_in0 hP) (sP_s0 hP) rfl (sP_r0_2 hP) t171 dX6_putBin_39 ?_
      refine w_getI (pc := 42) kc2 3 (sP_in hP (k := 6) (by decide)) (sP_s6 hP) rfl t93 dX6_putBin_42 ?_
      refine w_iconst (pc := 45) (v := 1) dX6_putBin_45 (by decide) ?_
      refine w_isub (pc := 46) dX6_putBin_46 ?_
      refine w_iret (pc := 47) rfl ⟨Nat.le_refl _, Nat.le_refl _⟩ dX6_putBin_47 ?_
      have ho : oBin s = (s 12, some (upd (binZ s (nB s)) 12 (s 12 + 1))) := by unfold oBin; rw [if_neg (by rw [← rp.2.2.1]; exact b0 c4), if_neg (fun h => by rw [B2] at h; have := (nx_cmp (y := 8) (b := 8) rfl (by omega) rfl (by omega) (a := nB s)).2.2.mp h; omega)]
      refine ⟨_, rfl, rfl, ?_, ?_⟩
      · rw [ho]
        rw [kst_s, upd_s, rn.1, Int32.add_sub_cancel]
      · rw [ho]
        refine ⟨frP_kst (by omega), ?_⟩
        have nb : nB (upd (binZ s (nB s)) 12 (s 12 + 1)) = nB s + 1 := by
          rw [nB, upd_s]; exact tn_of (by rw [B2, nI_1]) (by omega)
        refine PR_only_n ⟨rh, rb, rn, rs, ra, rt, rp⟩ hS (fun a h => kst_n (by omega)) (fun k h => by simp only [in_] at h; rw [upd_ne (by omega), binZ, if_neg (by omega)]) ?_
        obtain ⟨n1, n2, n3, n4⟩ := rn
        refine ⟨by rw [kst_s, upd_s, upd_s, n1], fun b κ hb hκ => ?_, fun b hb => ?_, fun b hb => ?_⟩
        · rw [kst_n (by omega), n2 b κ hb hκ, nb, upd_ne (by omega)]
          unfold binZ
          by_cases h : b < nB s
          · rw [if_pos h, if_pos (by omega), if_neg (by omega)]
          · rw [if_neg h]
            by_cases h2 : b < nB s + 1
            · rw [if_pos h2, if_pos (by omega)]
            · rw [if_neg h2]
        · rw [kst_n (by omega), n3 b hb, nb, upd_ne (by omega)]
          unfold binZ
          by_cases h : b < nB s
          · rw [if_pos h, if_pos (by omega), if_neg (by omega)]
          · rw [if_neg h]
            by_cases h2 : b < nB s + 1
            · rw [if_pos h2, if_pos (by omega)]
            · rw [if_neg h2]
        · rw [kst_n (by omega), n4 b hb, nb, upd_ne (by omega)]
          unfold binZ
          by_cases h : b < nB s
          · rw [if_pos h, if_pos (by omega), if_neg (by omega)]
          · rw [if_neg h]
            by_cases h2 : b < nB s + 1
            · rw [if_pos h2, if_pos (by omega)]
            · rw [if_neg h2]
    · have c19 : s 12 = 8 := by
        obtain ⟨B1, B2⟩ := SX_B hS
        have h6 : I (p + 6) 3 = nI (nB s) := rn.1.trans B2
        have := nx_nlt c19 h6 (by omega) (b := 8) rfl (by omega)
        rw [B2, show nB s = 8 by omega]; rfl
      refine w_ldc (pc := 22) (v := -1000003) t413 dX6_putBin_22 ?_
      refine w_iret (pc := 24) rfl ⟨Nat.le_refl _, Nat.le_refl _⟩ dX6_putBin_24 ?_
      have ho : oBin s = (-1000003, none) := by unfold oBin; rw [if_neg (by rw [← rp.2.2.1]; exact b0 c4), if_pos c19]
      exact ⟨_, rfl, rfl, by rw [ho], by rw [ho]; rfl⟩
  · refine w_ldc (pc := 7) (v := -1000002) t508 dX6_putBin_7 ?_
    refine w_iret (pc := 9) rfl ⟨Nat.le_refl _, Nat.le_refl _⟩ dX6_putBin_9 ?_
    have ho : oBin s = (-1000002, none) := by unfold oBin; rw [if_pos (by rw [← rp.2.2.1]; exact b1 c4)]
    exact ⟨_, rfl, rfl, by rw [ho], by rw [ho]; rfl⟩
set_option maxHeartbeats 4000000 in
set_option maxRecDepth 100000 in
theorem c_Plant_putLot {g : kG} {σ : kS} {I : kI} {p : Nat} {s : kV} (hP : sPlant g σ p) (hR : PR I p s) (hS : SX s) {x y : Int32} : ct g mX6_putLot ⟨1, 0, 0, 22⟩ [.ref p, .int x, .int y] σ I (qEI σ (fun r I1 => r = (oLot s x y).1 ∧ opP p I (oLot s x y) I1)) := by
  refine ct_of pn6 rfl (Nat.le_of_ble_eq_true rfl) ok_X6_putLot.1 trivial ?_
  show wp _ _ _ _ _ _ _ _ 0 [some (.ref p), some (.int x), some (.int y)] []
  obtain ⟨rh, rb, rn, rs, ra, rt, rp⟩ := hR
  refine w_iload_1 (pc := 0) dX6_putLot_0 ?_
  refine w_callN_I (pc := 1) (c_isKind) ok_X10_isKind t338 n535 ⟨Nat.le_of_ble_eq_true rfl, Nat.le_of_ble_eq_true rfl⟩ ⟨rfl, rfl⟩ ⟨Nat.le_refl _, Nat.le_refl _⟩ rfl (Nat.le_of_ble_eq_true rfl) dX6_putLot_1 ?_
  refine w_if_eq (pc := 4) (tgt := 19) dX6_putLot_4 (by decide) (fun c4 => ?_) (fun c4 => ?_)
  · refine w_ldc (pc := 19) (v := -1000001) t412 dX6_putLot_19 ?_
    refine w_iret (pc := 21) rfl ⟨Nat.le_refl _, Nat.le_refl _⟩ dX6_putLot_21 ?_
    have ho : oLot s x y = (-1000001, none) := by unfold oLot; rw [if_pos (fun h => absurd (kdr h.1) (b0 c4))]
    exact ⟨_, rfl, rfl, by rw [ho], by rw [ho]; rfl⟩
  · refine w_iload_2 (pc := 7) dX6_putLot_7 ?_
    refine w_iconst (pc := 8) (v := 1) dX6_putLot_8 (by decide) ?_
    refine w_icmp_lt (pc := 9) (tgt := 19) dX6_putLot_9 (by decide) (fun c9 => ?_) (fun c9 => ?_)
    · refine w_ldc (pc := 19) (v := -1000001) t412 dX6_putLot_19 ?_
      refine w_iret (pc := 21) rfl ⟨Nat.le_refl _, Nat.le_refl _⟩ dX6_putLot_21 ?_
      have ho : oLot s x y = (-1000001, none) := by unfold oLot; rw [if_pos (fun h => absurd h.2.1 (Int32.not_le.mpr c9))]
      exact ⟨_, rfl, rfl, by rw [ho], by rw [ho]; rfl⟩
    · refine w_iload_2 (pc := 12) dX6_putLot_12 ?_
      refine w_sipush (pc := 13) (v := 9999) dX6_putLot_13 (by decide) ?_
      refine w_icmp_le (pc := 16) (tgt := 22) dX6_putLot_16 (by decide) (fun c16 => ?_) (fun c16 => ?_)
      · refine w_aload_0 (pc := 22) dX6_putLot_22 ?_
        refine w_getR (pc := 23) (b := p + 1) kc6 0 (sP_in0 hP) (sP_s0 hP) rfl (sP_r0_0 hP) t167 dX6_putLot_23 ?_
        refine w_getI (pc := 26) kc5 2 (sP_in hP (k := 1) (by decide)) (sP_s1 hP) rfl t47 dX6_putLot_26 ?_
        refine w_bipush (pc := 29) (v := 6) dX6_putLot_29 (by decide) ?_
        refine w_icmp_lt (pc := 31) (tgt := 37) dX6_putLot_31 (by decide) (fun c31 => ?_) (fun c31 => ?_)
        · obtain ⟨L1, L2, L3⟩ := SX_L hS
          have hL : I (p + 1) 2 = nI (nLo s) := rh.1.trans L2
          have h4 : nLo s < 6 := (nx_cmp hL (by omega) (y := 6) (b := 6) rfl (by omega)).2.1.mp c31
          refine w_aload_0 (pc := 37) dX6_putLot_37 ?_
          refine w_getR (pc := 38) (b := p + 1) kc6 0 (sP_in0 hP) (sP_s0 hP) rfl (sP_r0_0 hP) t167 dX6_putLot_38 ?_
          refine w_iload_1 (pc := 41) dX6_putLot_41 ?_
          refine w_iload_2 (pc := 42) dX6_putLot_42 ?_
          refine w_callV_V (pc := 43) (c_Hop_append (sP_Hop hP) hL h4) ok_X5_append t537 t538 kc5 (sP_in hP (k := 1) (by decide)) (sP_s1 hP) t536 ⟨Nat.le_of_ble_eq_true rfl, Nat.le_of_ble_eq_true rfl⟩ ⟨rfl, rfl⟩ ⟨Nat.le_refl _, Nat.le_refl _⟩ rfl (Nat.le_of_ble_eq_true rfl) dX6_putLot_43 ?_
          refine w_aload_0 (pc := 46) dX6_putLot_46 ?_
          refine w_getR (pc := 47) (b := p + 1) kc6 0 (sP_in0 hP) (sP_s0 hP) rfl (sP_r0_0 hP) t167 dX6_putLot_47 ?_
          refine w_getI (pc := 50) kc5 2 (sP_in hP (k := 1) (by decide)) (sP_s1 hP) rfl t47 dX6_putLot_50 ?_
          refine w_iret (pc := 53) rfl ⟨Nat.le_refl _, Nat.le_refl _⟩ dX6_putLot_53 ?_
          have ho : oLot s x y = (s 13 + 1, some (upd (upd (upd (upd s (69 + 2 * nLo s) x) (70 + 2 * nLo s) y) 13 (s 13 + 1)) 9 (s 9 + y))) := by unfold oLot; rw [if_neg (fun h => h ⟨kdl (b1 c4), Int32.not_lt.mp c9, c16⟩), if_neg (fun h => by rw [L2] at h; have := (nx_cmp (y := 6) (b := 6) rfl (by omega) rfl (by omega) (a := nLo s)).2.2.mp h; omega)]
          refine ⟨_, rfl, rfl, ?_, ?_⟩
          · rw [ho]
            simp [kst, va_up, upd, L2, nI_1]
          · rw [ho]
            refine ⟨frP_t (frP_t (frP_t (frP_kst (by omega)) (frP_kst (by omega))) (frP_kst (by omega))) (frP_kst (by omega)), ?_⟩
            have nl : nLo (upd (upd (upd (upd s (69 + 2 * nLo s) x) (70 + 2 * nLo s) y) 13 (s 13 + 1)) 9 (s 9 + y)) = nLo s + 1 := by
              rw [nLo, upd_ne (by omega), upd_s]; exact tn_of (by rw [L2, nI_1]) (by omega)
            refine PR_only_h ⟨rh, rb, rn, rs, ra, rt, rp⟩ hS (fun a h => by rw [kst_n (by omega), kst_n (by omega), kst_n (by omega), kst_n (by omega)]) (fun k h => by simp only [ih_] at h; rw [upd_ne (by omega), upd_ne (by omega), upd_ne (by omega), upd_ne (by omega)]) ?_
            obtain ⟨n1, n2, n3⟩ := rh
            refine ⟨by simp [kst, va_up, upd, L2, nI_1], by simp [kst, va_up, upd, n2], fun k hk => ?_⟩
            rw [nl] at hk
            have E2 : ∀ (u v : Int32), kst (kst (kst (kst I (p + 2) (nLo s) x) (p + 3) (nLo s) y) (p + 1) 2 u) (p + 1) 3 v (p + 2) = upd (I (p + 2)) (nLo s) x := fun u v => by simp [kst, va_up]
            have E3 : ∀ (u v : Int32), kst (kst (kst (kst I (p + 2) (nLo s) x) (p + 3) (nLo s) y) (p + 1) 2 u) (p + 1) 3 v (p + 3) = upd (I (p + 3)) (nLo s) y := fun u v => by simp [kst, va_up]
            rw [E2, E3]
            by_cases h : k = nLo s
            · subst h
              exact ⟨by rw [upd_s, upd_ne (by omega), upd_ne (by omega), upd_ne (by omega), upd_s], by rw [upd_s, upd_ne (by omega), upd_ne (by omega), upd_s]⟩
            · obtain ⟨m1, m2⟩ := n3 k (by omega)
              exact ⟨by rw [upd_ne h, upd_ne (by omega), upd_ne (by omega), upd_ne (by omega), upd_ne (by omega)]; exact m1, by rw [upd_ne h, upd_ne (by omega), upd_ne (by omega), upd_ne (by omega), upd_ne (by omega)]; exact m2⟩
        · have c31 : s 13 = 6 := by
            obtain ⟨L1, L2, L3⟩ := SX_L hS
            have hL : I (p + 1) 2 = nI (nLo s) := rh.1.trans L2
            have := nx_nlt c31 hL (by omega) (b := 6) rfl (by omega)
            rw [L2, show nLo s = 6 by omega]; rfl
          refine w_ldc (pc := 34) (v := -1000003) t413 dX6_putLot_34 ?_
          refine w_iret (pc := 36) rfl ⟨Nat.le_refl _, Nat.le_refl _⟩ dX6_putLot_36 ?_
          have ho : oLot s x y = (-1000003, none) := by unfold oLot; rw [if_neg (fun h => h ⟨kdl (b1 c4), Int32.not_lt.mp c9, c16⟩), if_pos c31]
          exact ⟨_, rfl, rfl, by rw [ho], by rw [ho]; rfl⟩
      · refine w_ldc (pc := 19) (v := -1000001) t412 dX6_putLot_19 ?_
        refine w_iret (pc := 21) rfl ⟨Nat.le_refl _, Nat.le_refl _⟩ dX6_putLot_21 ?_
        have ho : oLot s x y = (-1000001, none) := by unfold oLot; rw [if_pos (fun h => absurd h.2.2 c16)]
        exact ⟨_, rfl, rfl, by rw [ho], by rw [ho]; rfl⟩
set_option maxHeartbeats 4000000 in
set_option maxRecDepth 100000 in
theorem c_Plant_setZero {g : kG} {σ : kS} {I : kI} {p : Nat} {s : kV} (hP : sPlant g σ p) (hR : PR I p s) (hS : SX s)  : ct g mX6_setZero ⟨2, 0, 0, 46⟩ [.ref p] σ I (qEI σ (fun r I1 => r = (oZero s).1 ∧ opP p I (oZero s) I1)) := by
  refine ct_of pn6 rfl (Nat.le_of_ble_eq_true rfl) ok_X6_setZero.1 trivial ?_
  show wp _ _ _ _ _ _ _ _ 0 [some (.ref p), none, none] []
  obtain ⟨rh, rb, rn, rs, ra, rt, rp⟩ := hR
  obtain ⟨z, z1, z2, z3, z4⟩ := rb
  refine w_aload_0 (pc := 0) dX6_setZero_0 ?_
  refine w_getR (pc := 1) (b := p + 4) kc6 1 (sP_in0 hP) (sP_s0 hP) rfl (sP_r0_1 hP) t169 dX6_setZero_1 ?_
  refine w_callV_I (pc := 4) (c_Belt_massSeen (sP_Belt hP) z2 z1) ok_X1_massSeen t467 t468 kc1 (sP_in hP (k := 4) (by decide)) (sP_s4 hP) t466 ⟨Nat.le_of_ble_eq_true rfl, Nat.le_of_ble_eq_true rfl⟩ ⟨rfl, rfl⟩ ⟨Nat.le_refl _, Nat.le_refl _⟩ rfl (Nat.le_of_ble_eq_true rfl) dX6_setZero_4 ?_
  rw [seen_eq z3]
  refine w_istore_1 (pc := 7) dX6_setZero_7 rfl ?_
  refine w_aload_0 (pc := 8) dX6_setZero_8 ?_
  refine w_getI (pc := 9) kc6 12 (sP_in0 hP) (sP_s0 hP) rfl t190 dX6_setZero_9 ?_
  refine w_iconst (pc := 12) (v := 4) dX6_setZero_12 (by decide) ?_
  refine w_icmp_ge (pc := 13) (tgt := 23) dX6_setZero_13 (by decide) (fun c13 => ?_) (fun c13 => ?_)
  · refine w_aload_0 (pc := 23) dX6_setZero_23 ?_
    refine w_getR (pc := 24) (b := p + 10) kc6 3 (sP_in0 hP) (sP_s0 hP) rfl (sP_r0_3 hP) t173 dX6_setZero_24 ?_
    refine w_getI (pc := 27) kc8 1 (sP_in hP (k := 10) (by decide)) (sP_s10 hP) rfl t114 dX6_setZero_27 ?_
    refine w_istore_2 (pc := 30) dX6_setZero_30 rfl ?_
    refine w_aload_0 (pc := 31) dX6_setZero_31 ?_
    refine w_getR (pc := 32) (b := p + 10) kc6 3 (sP_in0 hP) (sP_s0 hP) rfl (sP_r0_3 hP) t173 dX6_setZero_32 ?_
    refine w_iload_1 (pc := 35) dX6_setZero_35 ?_
    refine w_aload_0 (pc := 36) dX6_setZero_36 ?_
    refine w_getR (pc := 37) (b := p + 10) kc6 3 (sP_in0 hP) (sP_s0 hP) rfl (sP_r0_3 hP) t173 dX6_setZero_37 ?_
    refine w_getI (pc := 40) kc8 0 (sP_in hP (k := 10) (by decide)) (sP_s10 hP) rfl t111 dX6_setZero_40 ?_
    refine w_iadd (pc := 43) dX6_setZero_43 ?_
    refine w_putI (pc := 44) kc8 1 (sP_in hP (k := 10) (by decide)) (sP_s10 hP) rfl t114 rfl (tyX8_ok 1 (by decide)) rfl rfl dX6_setZero_44 ?_
    refine w_iload_2 (pc := 47) dX6_setZero_47 ?_
    refine w_ldc (pc := 48) (v := 1000000) t556 dX6_setZero_48 ?_
    refine w_iadd (pc := 50) dX6_setZero_50 ?_
    refine w_iret (pc := 51) rfl ⟨Nat.le_refl _, Nat.le_refl _⟩ dX6_setZero_51 ?_
    have ho : oZero s = (s 4 + 1000000, some (upd s 4 (sm s 37 16 + s 3))) := by unfold oZero; rw [if_neg (fun h => absurd h.1 (by rw [← rp.2.2.2.2.2.2.2.1]; exact Int32.not_lt.mpr c13))]
    refine ⟨_, rfl, rfl, ?_, ?_⟩
    · rw [ho]
      rw [rs.2.1]
    · rw [ho]
      refine ⟨frP_kst (by omega), ?_⟩
      refine PR_only_s ⟨rh, ⟨z, z1, z2, z3, z4⟩, rn, rs, ra, rt, rp⟩ hS (fun a h => kst_n (by omega)) (fun k h => upd_ne (by simp only [is_] at h; omega)) ?_
      obtain ⟨h1, h2, h3, h4, h5⟩ := rs
      simp [PRs, kst_s, upd, *]
  · refine w_iload_1 (pc := 16) dX6_setZero_16 ?_
    refine w_if_le (pc := 17) (tgt := 23) dX6_setZero_17 (by decide) (fun c17 => ?_) (fun c17 => ?_)
    · refine w_aload_0 (pc := 23) dX6_setZero_23 ?_
      refine w_getR (pc := 24) (b := p + 10) kc6 3 (sP_in0 hP) (sP_s0 hP) rfl (sP_r0_3 hP) t173 dX6_setZero_24 ?_
      refine w_getI (pc := 27) kc8 1 (sP_in hP (k := 10) (by decide)) (sP_s10 hP) rfl t114 dX6_setZero_27 ?_
      refine w_istore_2 (pc := 30) dX6_setZero_30 rfl ?_
      refine w_aload_0 (pc := 31) dX6_setZero_31 ?_
      refine w_getR (pc := 32) (b := p + 10) kc6 3 (sP_in0 hP) (sP_s0 hP) rfl (sP_r0_3 hP) t173 dX6_setZero_32 ?_
      refine w_iload_1 (pc := 35) dX6_setZero_35 ?_
      refine w_aload_0 (pc := 36) dX6_setZero_36 ?_
      refine w_getR (pc := 37) (b := p + 10) kc6 3 (sP_in0 hP) (sP_s0 hP) rfl (sP_r0_3 hP) t173 dX6_setZero_37 ?_
      refine w_getI (pc := 40) kc8 0 (sP_in hP (k := 10) (by decide)) (sP_s10 hP) rfl t111 dX6_setZero_40 ?_
      refine w_iadd (pc := 43) dX6_setZero_43 ?_
      refine w_putI (pc := 44) kc8 1 (sP_in hP (k := 10) (by decide)) (sP_s10 hP) rfl t114 rfl (tyX8_ok 1 (by decide)) rfl rfl dX6_setZero_44 ?_
      refine w_iload_2 (pc := 47) dX6_setZero_47 ?_
      refine w_ldc (pc := 48) (v := 1000000) t556 dX6_setZero_48 ?_
      refine w_iadd (pc := 50) dX6_setZero_50 ?_
      refine w_iret (pc := 51) rfl ⟨Nat.le_refl _, Nat.le_refl _⟩ dX6_setZero_51 ?_
      have ho : oZero s = (s 4 + 1000000, some (upd s 4 (sm s 37 16 + s 3))) := by unfold oZero; rw [if_neg (fun h => absurd h.2 (Int32.not_lt.mpr c17))]
      refine ⟨_, rfl, rfl, ?_, ?_⟩
      · rw [ho]
        rw [rs.2.1]
      · rw [ho]
        refine ⟨frP_kst (by omega), ?_⟩
        refine PR_only_s ⟨rh, ⟨z, z1, z2, z3, z4⟩, rn, rs, ra, rt, rp⟩ hS (fun a h => kst_n (by omega)) (fun k h => upd_ne (by simp only [is_] at h; omega)) ?_
        obtain ⟨h1, h2, h3, h4, h5⟩ := rs
        simp [PRs, kst_s, upd, *]
    · refine w_ldc (pc := 20) (v := -1000002) t508 dX6_setZero_20 ?_
      refine w_iret (pc := 22) rfl ⟨Nat.le_refl _, Nat.le_refl _⟩ dX6_setZero_22 ?_
      have ho : oZero s = (-1000002, none) := by unfold oZero; rw [if_pos ⟨by rw [← rp.2.2.2.2.2.2.2.1]; exact Int32.not_le.mp c13, Int32.not_le.mp c17⟩]
      exact ⟨_, rfl, rfl, by rw [ho], by rw [ho]; rfl⟩

