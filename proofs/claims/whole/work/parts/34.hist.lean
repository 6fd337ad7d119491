def erE (r : Int32) : Prop := -1000004 ≤ r ∧ r ≤ -1000001
theorem ge1 {c : Prop} [Decidable c] {e : Int32} {y : kO} (he : erE e) (hy : y.2 = none → erE y.1) (h : (if c then (e, none) else y).2 = none) : erE (if c then (e, none) else y).1 := by
  by_cases q : c
  · rw [if_pos q]; exact he
  · rw [if_neg q] at h ⊢; exact hy h
theorem ge2 {c : Prop} [Decidable c] {x y : kO} (hx : x.2 = none → erE x.1) (hy : y.2 = none → erE y.1) (h : (if c then x else y).2 = none) : erE (if c then x else y).1 := by
  by_cases q : c
  · rw [if_pos q] at h ⊢; exact hx h
  · rw [if_neg q] at h ⊢; exact hy h
theorem ges {r : Int32} {t : kV} (h : ((r, some t) : kO).2 = none) : erE ((r, some t) : kO).1 := absurd h (by simp)
theorem er1 : erE (-1000001) := ⟨by decide, by decide⟩
theorem er2 : erE (-1000002) := ⟨by decide, by decide⟩
theorem er3 : erE (-1000003) := ⟨by decide, by decide⟩
theorem oLot_er {s : kV} {v w : Int32} (h : (oLot s v w).2 = none) : erE (oLot s v w).1 := by unfold oLot at h ⊢; exact ge1 er1 (ge1 er3 ges) h
theorem oGate_er {s : kV} {v : Int32} (h : (oGate s v).2 = none) : erE (oGate s v).1 := by unfold oGate at h ⊢; exact ge1 er1 ges h
theorem oRun_er {s : kV} {v : Int32} (h : (oRun s v).2 = none) : erE (oRun s v).1 := by unfold oRun at h ⊢; exact ge1 er1 (ge1 er2 ges) h
theorem oBin_er {s : kV} (h : (oBin s ).2 = none) : erE (oBin s ).1 := by unfold oBin at h ⊢; exact ge1 er2 (ge1 er3 ges) h
theorem oBatch_er {s : kV} {v : Int32} (h : (oBatch s v).2 = none) : erE (oBatch s v).1 := by unfold oBatch at h ⊢; exact ge1 er1 (ge1 er2 ges) h
theorem oTick_er {s : kV} {v : Int32} (h : (oTick s v).2 = none) : erE (oTick s v).1 := by unfold oTick at h ⊢; exact ge1 er1 (ge1 er3 ges) h
theorem oZero_er {s : kV} (h : (oZero s ).2 = none) : erE (oZero s ).1 := by unfold oZero at h ⊢; exact ge1 er2 ges h
theorem oCorrect_er {s : kV} {v : Int32} (h : (oCorrect s v).2 = none) : erE (oCorrect s v).1 := by unfold oCorrect at h ⊢; exact ge1 er1 (ge1 er2 ges) h
theorem oSet_er {s : kV} {v w : Int32} (h : (oSet s v w).2 = none) : erE (oSet s v w).1 := by unfold oSet at h ⊢; exact ge1 er1 ges h
theorem oAccount_er {s : kV} {v : Int32} (h : (oAccount s v).2 = none) : erE (oAccount s v).1 := by unfold oAccount at h ⊢; exact ge1 er1 (ge1 er3 ges) h
theorem oBook_er {s : kV} {v w : Int32} (h : (oBook s v w).2 = none) : erE (oBook s v w).1 := by unfold oBook at h ⊢; exact ge1 er1 ges h
theorem cmO_er {s : kV} {l v w : Int32} (h : (cmO s l v w).2 = none) : erE (cmO s l v w).1 := by
  unfold cmO at h ⊢
  exact ge2 oBin_er (ge2 oRun_er (ge2 oRun_er (ge2 oZero_er (ge2 oLot_er (ge2 oGate_er (ge2 oBatch_er (ge2 oCorrect_er oTick_er))))))) h
theorem ps_let {tx : kV} {n p : Nat} {z : kC} (h : ps tx n p = some z) : (z.1 = 98 ∨ z.1 = 115 ∨ z.1 = 120 ∨ z.1 = 122) ∨ z.1 = 108 ∨ z.1 = 103 ∨ z.1 = 109 ∨ z.1 = 99 ∨ z.1 = 116 := by
  unfold ps at h
  split at h
  · rename_i c0
    unfold ps0 at h
    split at h
    · cases h; exact Or.inl c0
    · cases h
  · split at h
    · rename_i c0
      unfold ps2 at h
      split at h
      · split at h
        · cases h; exact Or.inr (Or.inl c0)
        · cases h
      · cases h
    · split at h
      · rename_i c0
        unfold ps1 at h
        split at h
        · cases h; exact Or.inr (Or.inr c0)
        · cases h
      · cases h
def plC (z : kF3) (I1 : kI) (r q : Nat) : Prop := match z with
  | (none, s2, n) => I1 r 2 = 0 ∧ I1 r 4 = nI n ∧ PR I1 q s2 ∧ KI s2
  | (some (pz, c), _, _) => I1 r 1 = nI pz ∧ (if c = 0 then I1 r 2 = 1 else I1 r 2 = 2 ∧ I1 r 3 = c)
theorem PR_e {I J : kI} {p : Nat} {s : kV} (h : PR I p s) (hS : SX s) (e : ∀ a, p ≤ a → a < p + 16 → J a = I a) : PR J p s :=
  ⟨PRh_c h.1 (e _ (by omega) (by omega)) (e _ (by omega) (by omega)) (e _ (by omega) (by omega)) (fun _ _ => rfl) (SX_L hS).1, PRb_c h.2.1 (e _ (by omega) (by omega)) (e _ (by omega) (by omega)) (fun _ _ _ => rfl), PRn_c h.2.2.1 (e _ (by omega) (by omega)) (e _ (by omega) (by omega)) (e _ (by omega) (by omega)) (e _ (by omega) (by omega)) (fun _ _ => rfl), PRs_c h.2.2.2.1 (e _ (by omega) (by omega)) (fun _ _ _ => rfl), PRa_c h.2.2.2.2.1 (e _ (by omega) (by omega)) (e _ (by omega) (by omega)) (e _ (by omega) (by omega)) (e _ (by omega) (by omega)) (fun _ _ => rfl), PRt_c h.2.2.2.2.2.1 (e _ (by omega) (by omega)) (fun _ _ _ => rfl), PRp_c h.2.2.2.2.2.2 (e _ (by omega) (by omega)) (fun _ _ => rfl)⟩
def sHis (g : kG) (σ : kS) (h : Nat) (x : Nat → Nat) : Prop := (kB g ≤ h ∧ h < σ.1) ∧ σ.2.1 h = (4, 0) ∧ σ.2.2 h 0 = some (x 0) ∧ σ.2.2 h 1 = some (x 1) ∧ σ.2.2 h 2 = some (x 2) ∧ σ.2.2 h 3 = some (x 3)
theorem sP_G {g : kG} {σ : kS} {p : Nat} {F : Nat → Nat → Option Nat} (h : sPlant g σ p) (e : ∀ a, p ≤ a → a < p + 16 → F a = σ.2.2 a) : sPlant g (σ.1, σ.2.1, F) p := by
  have e0 := e p (by omega) (by omega)
  have e1 := e (p + 1) (by omega) (by omega)
  have e4 := e (p + 4) (by omega) (by omega)
  have e6 := e (p + 6) (by omega) (by omega)
  have e11 := e (p + 11) (by omega) (by omega)
  unfold sPlant at h ⊢
  simp only [e0, e1, e4, e6, e11]
  exact h
theorem w_sig {g : kG} {μ : kM} {R : Room} {E : State → Prop} {Q : kP} {n : Nat × Nat} {σ σ' : kS} {I : kI} {pc : Nat} {loc : List (Option Value)} {st : List Value} (e : σ = σ') (kk : wp g μ R E Q n σ' I pc loc st) : wp g μ R E Q n σ I pc loc st := by
  subst e; exact kk
theorem pSl_j {j k : Nat} (h : pSl j k) : j < 16 := by
  apply Decidable.byContradiction
  intro q
  obtain ⟨m, rfl⟩ : ∃ m, j = m + 16 := ⟨j - 16, by omega⟩
  simp [pSl] at h
set_option maxHeartbeats 4000000 in
set_option maxRecDepth 100000 in
theorem c_Reh_perform {g : kG} {σ : kS} {I : kI} {b : Nat} {s : kV} (hH : sReh g σ (b + 100) (b + 101)) (hO : sText g σ (b + 98) (b + 99)) (hP : sPlant g σ (b + 1)) (hQ : sPlant g σ (b + 17)) (hR : PR I (b + 1) s) (hK : KI s) {n0 : Nat} (hn : I (b + 98) 1 = nI n0) (hn2 : n0 ≤ 60) (hT : TC (I (b + 99)) n0)  : ct g mX7_perform ⟨5, 0, 0, 113⟩ [.ref (b + 100), .ref (b + 98), .ref (b + 1), .ref (b + 17)] σ I (qEV σ (fun I1 => (∀ z, z ≠ b + 100 → z ≠ b + 101 → (z < b + 17 ∨ b + 33 ≤ z) → I1 z = I z) ∧ plC (pl (I (b + 99)) n0 61 0 s 0) I1 (b + 100) (b + 17))) := by
  refine ct_of pn7 rfl (Nat.le_of_ble_eq_true rfl) ok_X7_perform.1 trivial ?_
  show wp _ _ _ _ _ _ _ _ 0 [some (.ref (b + 100)), some (.ref (b + 98)), some (.ref (b + 1)), some (.ref (b + 17)), none, none] []
  have hC : sCmd g σ (b + 101) := ⟨hH.2.2.1, hH.2.2.2.1⟩
  refine w_aload_3 (pc := 0) dX7_perform_0 ?_
  refine w_aload_2 (pc := 1) dX7_perform_1 ?_
  refine w_callV_EV (pc := 2) (c_Plant_copyFrom hQ hP (by omega) (PR_bool hR.2.2.2.2.2.2 hK.2.1.2.1)) ok_X6_copyFrom t364 t365 kc6 (sP_in0 hQ) (sP_s0 hQ) t718 ⟨Nat.le_of_ble_eq_true rfl, Nat.le_of_ble_eq_true rfl⟩ ⟨rfl, rfl⟩ ⟨Nat.le_refl _, Nat.le_refl _⟩ rfl (Nat.le_of_ble_eq_true rfl) dX7_perform_2 (fun I2 h2 => ?_)
  obtain ⟨f2, s2⟩ := h2
  have R2 : PR I2 (b + 17) s := PR_same hR s2 hK.1
  refine w_aload_0 (pc := 5) dX7_perform_5 ?_
  refine w_iconst (pc := 6) (v := 0) dX7_perform_6 (by decide) ?_
  refine w_putI (pc := 7) kc7 1 hH.1 hH.2.1 rfl t324 rfl (tyX7_ok 1 (by decide)) rfl rfl dX7_perform_7 ?_
  refine w_aload_0 (pc := 10) dX7_perform_10 ?_
  refine w_iconst (pc := 11) (v := 0) dX7_perform_11 (by decide) ?_
  refine w_putI (pc := 12) kc7 2 hH.1 hH.2.1 rfl t326 rfl (tyX7_ok 2 (by decide)) rfl rfl dX7_perform_12 ?_
  refine w_aload_0 (pc := 15) dX7_perform_15 ?_
  refine w_iconst (pc := 16) (v := 0) dX7_perform_16 (by decide) ?_
  refine w_putI (pc := 17) kc7 3 hH.1 hH.2.1 rfl t328 rfl (tyX7_ok 3 (by decide)) rfl rfl dX7_perform_17 ?_
  refine w_aload_0 (pc := 20) dX7_perform_20 ?_
  refine w_iconst (pc := 21) (v := 0) dX7_perform_21 (by decide) ?_
  refine w_putI (pc := 22) kc7 4 hH.1 hH.2.1 rfl t330 rfl (tyX7_ok 4 (by decide)) rfl rfl dX7_perform_22 ?_
  refine w_iconst (pc := 25) (v := 0) dX7_perform_25 (by decide) ?_
  refine w_istore_4 (pc := 26) dX7_perform_26 rfl ?_
  have L0 : ∀ (m pos i cnt : Nat) (zi : Int32) (t : kV) (J : kI), pos ≤ n0 → 61 ≤ pos + m → i ≤ pos → zi = nI i → (∀ z, z ≠ b + 100 → z ≠ b + 101 → (z < b + 17 ∨ b + 33 ≤ z) → J z = I z) → J (b + 100) 1 = nI pos → J (b + 100) 2 = 0 → J (b + 100) 4 = nI cnt → PR J (b + 17) t → KI t → pl (I (b + 99)) n0 m pos t cnt = pl (I (b + 99)) n0 61 0 s 0 → wp g mX7_perform ⟨5, 0, 0, 113⟩ (fun _ => True) (qEV σ (fun I1 => (∀ z, z ≠ b + 100 → z ≠ b + 101 → (z < b + 17 ∨ b + 33 ≤ z) → I1 z = I z) ∧ plC (pl (I (b + 99)) n0 61 0 s 0) I1 (b + 100) (b + 17))) (0, 0) σ J 28 [some (.ref (b + 100)), some (.ref (b + 98)), some (.ref (b + 1)), some (.ref (b + 17)), some (.int zi), none] [] := by
    intro m
    induction m with
    | zero => intro pos i cnt zi t J h1 h2; exact absurd h2 (by omega)
    | succ m ih =>
      intro pos i cnt zi t J h1 h2 hip hz hF j1 j2 j4 hJR hKt hpl
      have jn : J (b + 98) 1 = nI n0 := by rw [hF _ (by omega) (by omega) (by omega)]; exact hn
      have ju : J (b + 99) = I (b + 99) := hF _ (by omega) (by omega) (by omega)
      refine w_iload_4 (pc := 28) dX7_perform_28 ?_
      refine w_bipush (pc := 30) (v := 60) dX7_perform_30 (by decide) ?_
      refine w_icmp_ge (pc := 32) (tgt := 124) dX7_perform_32 (by decide) (fun c32 => ?_) (fun c32 => ?_)
      · have h60 : 60 ≤ i := (nx_cmp (x := 60) (a := 60) rfl (by omega) hz (by omega)).1.mp c32
        have hpn : ¬ pos < n0 := by omega
        refine w_vret (pc := 124) rfl ⟨Nat.le_refl _, Nat.le_refl _⟩ dX7_perform_124 ?_
        refine ⟨rfl, rfl, hF, ?_⟩
        rw [← hpl, pl, if_neg hpn]
        exact ⟨j2, j4, hJR, hKt⟩
      · refine w_aload_0 (pc := 35) dX7_perform_35 ?_
        refine w_getI (pc := 36) kc7 1 hH.1 hH.2.1 rfl t324 dX7_perform_36 ?_
        refine w_aload_1 (pc := 39) dX7_perform_39 ?_
        refine w_getI (pc := 40) kc9 1 hO.1 hO.2.1 rfl t289 dX7_perform_40 ?_
        refine w_icmp_ge (pc := 43) (tgt := 124) dX7_perform_43 (by decide) (fun c43 => ?_) (fun c43 => ?_)
        · rw [j1, jn] at c43
          have hpn : ¬ pos < n0 := Nat.not_lt.mpr ((nx_cmp jn (by omega) (rfl : nI pos = nI pos) (by omega)).1.mp (by rw [jn]; exact c43))
          refine w_vret (pc := 124) rfl ⟨Nat.le_refl _, Nat.le_refl _⟩ dX7_perform_124 ?_
          refine ⟨rfl, rfl, hF, ?_⟩
          rw [← hpl, pl, if_neg hpn]
          exact ⟨j2, j4, hJR, hKt⟩
        · rw [j1, jn] at c43
          have hpn : pos < n0 := nx_nle c43 (rfl : nI n0 = nI n0) (by omega) (rfl : nI pos = nI pos) (by omega)
          refine w_aload_0 (pc := 46) dX7_perform_46 ?_
          refine w_getR (pc := 47) (b := b + 101) kc7 0 hH.1 hH.2.1 rfl hH.2.2.2.2.1 t323 dX7_perform_47 ?_
          refine w_aload_1 (pc := 50) dX7_perform_50 ?_
          refine w_aload_0 (pc := 51) dX7_perform_51 ?_
          refine w_getI (pc := 52) kc7 1 hH.1 hH.2.1 rfl t324 dX7_perform_52 ?_
          rw [j1]
          refine w_callV_EI (pc := 55) (c_Cmd_read hC hO (by omega) (by omega) jn hn2 (by rw [ju]; exact hT) hpn) ok_X3_read t720 t721 kc3 hH.2.2.1 hH.2.2.2.1 t719 ⟨Nat.le_of_ble_eq_true rfl, Nat.le_of_ble_eq_true rfl⟩ ⟨rfl, rfl⟩ ⟨Nat.le_refl _, Nat.le_refl _⟩ rfl (Nat.le_of_ble_eq_true rfl) dX7_perform_55 (fun r55 I55 h55 => ?_)
          obtain ⟨g1, g3⟩ := h55
          rw [ju] at g3
          refine w_if_ne (pc := 58) (tgt := 67) dX7_perform_58 (by decide) (fun c58 => ?_) (fun c58 => ?_)
          · obtain ⟨z, hz2⟩ : ∃ z, ps (I (b + 99)) n0 pos = some z := by
              cases hz2 : ps (I (b + 99)) n0 pos with
              | none => rw [hz2] at g3; exact absurd g3 c58
              | some z => exact ⟨z, rfl⟩
            rw [hz2] at g3
            obtain ⟨-, y0, y3, yv, yw⟩ := g3
            have zb := ps_end hz2 hpn hn2
            have kR : PR I55 (b + 17) t := PR_e hJR hKt.1 (fun a h1 h2 => g1 a (by omega))
            refine w_aload_0 (pc := 67) dX7_perform_67 ?_
            refine w_getR (pc := 68) (b := b + 101) kc7 0 hH.1 hH.2.1 rfl hH.2.2.2.2.1 t323 dX7_perform_68 ?_
            refine w_aload_3 (pc := 71) dX7_perform_71 ?_
            refine w_callV_EI (pc := 72) (c_Cmd_carryOut hC hQ kR hKt y0 yv yw (ps_let hz2)) ok_X3_carryOut t739 t740 kc3 hH.2.2.1 hH.2.2.2.1 t738 ⟨Nat.le_of_ble_eq_true rfl, Nat.le_of_ble_eq_true rfl⟩ ⟨rfl, rfl⟩ ⟨Nat.le_refl _, Nat.le_refl _⟩ rfl (Nat.le_of_ble_eq_true rfl) dX7_perform_72 (fun r72 I72 h72 => ?_)
            refine w_istore_5 (pc := 75) dX7_perform_75 rfl ?_
            refine w_iload_5 (pc := 77) dX7_perform_77 ?_
            refine w_callN_I (pc := 79) (c_isError) ok_X10_isError t409 n751 ⟨Nat.le_of_ble_eq_true rfl, Nat.le_of_ble_eq_true rfl⟩ ⟨rfl, rfl⟩ ⟨Nat.le_refl _, Nat.le_refl _⟩ rfl (Nat.le_of_ble_eq_true rfl) dX7_perform_79 ?_
            refine w_if_eq (pc := 82) (tgt := 97) dX7_perform_82 (by decide) (fun c82 => ?_) (fun c82 => ?_)
            · obtain ⟨w1, hw1⟩ : ∃ w1, (cmO t z.1 z.2.1 z.2.2.1).2 = some w1 := by
                cases ho : (cmO t z.1 z.2.1 z.2.2.1).2 with
                | none => exact absurd (by rw [h72.1]; exact cmO_er ho) (b0 c82)
                | some w1 => exact ⟨w1, rfl⟩
              have hcm : cmO t z.1 z.2.1 z.2.2.1 = ((cmO t z.1 z.2.1 z.2.2.1).1, some w1) := by rw [← hw1]
              obtain ⟨-, hKw, -⟩ := g_cmO hKt z.1 z.2.1 z.2.2.1 _ _ hcm
              have ho := h72.2
              unfold opP at ho
              rw [hw1] at ho
              obtain ⟨fo, ro⟩ := ho
              refine w_aload_0 (pc := 97) dX7_perform_97 ?_
              refine w_aload_0 (pc := 98) dX7_perform_98 ?_
              refine w_getR (pc := 99) (b := b + 101) kc7 0 hH.1 hH.2.1 rfl hH.2.2.2.2.1 t323 dX7_perform_99 ?_
              refine w_getI (pc := 102) kc3 3 hH.2.2.1 hH.2.2.2.1 rfl t313 dX7_perform_102 ?_
              refine w_putI (pc := 105) kc7 1 hH.1 hH.2.1 rfl t324 rfl (tyX7_ok 1 (by decide)) rfl rfl dX7_perform_105 ?_
              refine w_aload_0 (pc := 108) dX7_perform_108 ?_
              refine w_dup_a (pc := 109) dX7_perform_109 ?_
              refine w_getI (pc := 110) kc7 4 hH.1 hH.2.1 rfl t330 dX7_perform_110 ?_
              refine w_iconst (pc := 113) (v := 1) dX7_perform_113 (by decide) ?_
              refine w_iadd (pc := 114) dX7_perform_114 ?_
              refine w_putI (pc := 115) kc7 4 hH.1 hH.2.1 rfl t330 rfl (tyX7_ok 4 (by decide)) rfl rfl dX7_perform_115 ?_
              refine w_iinc_4 (pc := 118) dX7_perform_118 rfl rfl ?_
              refine w_goto (pc := 121) (tgt := 28) dX7_perform_121 (by decide) ?_
              refine w_drop 5 ?_
              have k1 : ∀ y, y ≠ b + 101 → (y < b + 17 ∨ b + 33 ≤ y) → I72 y = J y := fun y h1 h2 => (fo y (by omega)).trans (g1 y h1)
              refine ih z.2.2.2 (i + 1) (cnt + 1) _ w1 _ (by omega) (by omega) (by omega) (by rw [hz]; exact nI_1 i) (fun y h1 h2 h3 => by rw [kst_n h1, kst_n h1, k1 y h2 h3]; exact hF y h1 h2 h3) ?_ ?_ ?_ ?_ hKw ?_
              · rw [kst_s, upd_ne (by omega), kst_s, upd_s, fo _ (by omega)]; exact y3
              · rw [kst_s, upd_ne (by omega), kst_s, upd_ne (by omega), k1 _ (by omega) (by omega)]; exact j2
              · rw [kst_s, upd_s, kst_s, upd_ne (by omega), k1 _ (by omega) (by omega), j4, nI_1]
              · exact PR_e ro hKw.1 (fun a h1 h2 => by rw [kst_n (by omega), kst_n (by omega)])
              · rw [← hpl]
                conv => rhs; rw [pl]
                rw [if_pos hpn, hz2]
                simp only
                rw [hcm]
            · have hno : (cmO t z.1 z.2.1 z.2.2.1).2 = none := by
                cases ho : (cmO t z.1 z.2.1 z.2.2.1).2 with
                | none => rfl
                | some w1 => exact absurd (b1 c82) (noE_of (Int.le_trans (by omega) (g_cmO hKt z.1 z.2.1 z.2.2.1 r72 w1 (by rw [h72.1, ← ho])).1))
              have e72 : I72 = I55 := by
                have ho := h72.2
                unfold opP at ho
                rw [hno] at ho; exact ho
              subst e72
              refine w_aload_0 (pc := 85) dX7_perform_85 ?_
              refine w_iconst (pc := 86) (v := 2) dX7_perform_86 (by decide) ?_
              refine w_putI (pc := 87) kc7 2 hH.1 hH.2.1 rfl t326 rfl (tyX7_ok 2 (by decide)) rfl rfl dX7_perform_87 ?_
              refine w_aload_0 (pc := 90) dX7_perform_90 ?_
              refine w_iload_5 (pc := 91) dX7_perform_91 ?_
              refine w_putI (pc := 93) kc7 3 hH.1 hH.2.1 rfl t328 rfl (tyX7_ok 3 (by decide)) rfl rfl dX7_perform_93 ?_
              refine w_vret (pc := 96) rfl ⟨Nat.le_refl _, Nat.le_refl _⟩ dX7_perform_96 ?_
              refine ⟨rfl, rfl, fun y h1 h2 h3 => by rw [kst_n h1, kst_n h1, g1 y h2]; exact hF y h1 h2 h3, ?_⟩
              rw [← hpl, pl, if_pos hpn, hz2]
              simp only
              rw [show cmO t z.1 z.2.1 z.2.2.1 = ((cmO t z.1 z.2.1 z.2.2.1).1, none) by rw [← hno]]
              refine ⟨?_, ?_⟩
              · rw [kst_s, upd_ne (by omega), kst_s, upd_ne (by omega), g1 _ (by omega)]; exact j1
              · have hne : ¬ (cmO t z.1 z.2.1 z.2.2.1).1 = 0 := fun q => by have := cmO_neg hno; rw [q] at this; exact absurd this (by decide)
                rw [if_neg hne, kst_s, upd_ne (by omega), kst_s, upd_s, upd_s]
                exact ⟨rfl, h72.1⟩
          · have hps : ps (I (b + 99)) n0 pos = none := by
              cases hz2 : ps (I (b + 99)) n0 pos with
              | none => rfl
              | some z => rw [hz2] at g3; have := g3.1; rw [c58] at this; exact absurd this (by decide)
            refine w_aload_0 (pc := 61) dX7_perform_61 ?_
            refine w_iconst (pc := 62) (v := 1) dX7_perform_62 (by decide) ?_
            refine w_putI (pc := 63) kc7 2 hH.1 hH.2.1 rfl t326 rfl (tyX7_ok 2 (by decide)) rfl rfl dX7_perform_63 ?_
            refine w_vret (pc := 66) rfl ⟨Nat.le_refl _, Nat.le_refl _⟩ dX7_perform_66 ?_
            refine ⟨rfl, rfl, fun y h1 h2 h3 => by rw [kst_n h1, g1 y h2]; exact hF y h1 h2 h3, ?_⟩
            rw [← hpl, pl, if_pos hpn, hps]
            refine ⟨?_, ?_⟩
            · rw [kst_s, upd_ne (by omega), g1 _ (by omega)]; exact j1
            · rw [if_pos rfl, kst_s, upd_s]
  refine L0 61 0 0 0 _ s _ (Nat.zero_le _) (by omega) (Nat.le_refl _) rfl (fun y h1 h2 h3 => by rw [kst_n h1, kst_n h1, kst_n h1, kst_n h1]; exact f2 y (by omega)) ?_ ?_ ?_ ?_ hK rfl
  · rw [kst_s, upd_ne (by omega), kst_s, upd_ne (by omega), kst_s, upd_ne (by omega), kst_s, upd_s]; rfl
  · rw [kst_s, upd_ne (by omega), kst_s, upd_ne (by omega), kst_s, upd_s]
  · rw [kst_s, upd_s]; rfl
  · exact PR_e R2 hK.1 (fun a h1 h2 => by rw [kst_n (by omega), kst_n (by omega), kst_n (by omega), kst_n (by omega)])
set_option maxHeartbeats 4000000 in
set_option maxRecDepth 100000 in
theorem c_His_push {g : kG} {σ : kS} {I : kI} {h p : Nat} {x : Nat → Nat} (hH : sHis g σ h x) (hX0 : sPlant g σ (x 0)) (hX3 : sPlant g σ (x 3)) (hP : sPlant g σ p) (hh : h < p ∨ p + 16 ≤ h) (hd : x 3 + 16 ≤ p ∨ p + 16 ≤ x 3) (hh3 : h < x 3 ∨ x 3 + 16 ≤ h) (hz : I p 9 = 0 ∨ I p 9 = 1)  : ct g mX4_push ⟨4, 0, 0, 89⟩ [.ref h, .ref p] σ I (qRV σ (fun F I1 => (∀ a, a ≠ h → F a = σ.2.2 a) ∧ F h 0 = some (x 3) ∧ F h 1 = some (x 0) ∧ F h 2 = some (x 1) ∧ F h 3 = some (x 2) ∧ (∀ b, b ≠ h → (b < x 3 ∨ x 3 + 16 ≤ b) → I1 b = I b) ∧ (∀ k, k ≠ 4 → I1 h k = I h k) ∧ I1 h 4 = (if 4 < I h 4 + 1 then 4 else I h 4 + 1) ∧ sameP I1 (x 3) I p)) := by
  refine ct_of pn4 rfl (Nat.le_of_ble_eq_true rfl) ok_X4_push.1 trivial ?_
  show wp _ _ _ _ _ _ _ _ 0 [some (.ref h), some (.ref p), none] []
  obtain ⟨r0, r1, r2, r3⟩ := hH.2.2
  refine w_aload_0 (pc := 0) dX4_push_0 ?_
  refine w_getR (pc := 1) (b := (x 3)) kc4 3 hH.1 hH.2.1 rfl hH.2.2.2.2.2 t267 dX4_push_1 ?_
  refine w_astore_2 (pc := 4) dX4_push_4 rfl ?_
  refine w_aload_0 (pc := 5) dX4_push_5 ?_
  refine w_aload_0 (pc := 6) dX4_push_6 ?_
  refine w_getR (pc := 7) (b := (x 2)) kc4 2 hH.1 hH.2.1 rfl hH.2.2.2.2.1 t266 dX4_push_7 ?_
  refine w_putR (pc := 10) (x := some ((x 2))) kc4 3 hH.1 hH.2.1 rfl t267 rfl (tyX4_ok 3 (by decide)) rfl rfl dX4_push_10 ?_
  refine w_aload_0 (pc := 13) dX4_push_13 ?_
  refine w_aload_0 (pc := 14) dX4_push_14 ?_
  refine w_getR (pc := 15) (b := (x 1)) kc4 1 hH.1 hH.2.1 rfl (by simp [kgst, va_up, r0, r1, r2, r3]) t265 dX4_push_15 ?_
  refine w_putR (pc := 18) (x := some ((x 1))) kc4 2 hH.1 hH.2.1 rfl t266 rfl (tyX4_ok 2 (by decide)) rfl rfl dX4_push_18 ?_
  refine w_aload_0 (pc := 21) dX4_push_21 ?_
  refine w_aload_0 (pc := 22) dX4_push_22 ?_
  refine w_getR (pc := 23) (b := (x 0)) kc4 0 hH.1 hH.2.1 rfl (by simp [kgst, va_up, r0, r1, r2, r3]) t264 dX4_push_23 ?_
  refine w_putR (pc := 26) (x := some ((x 0))) kc4 1 hH.1 hH.2.1 rfl t265 rfl (tyX4_ok 1 (by decide)) rfl rfl dX4_push_26 ?_
  refine w_aload_0 (pc := 29) dX4_push_29 ?_
  refine w_aload_2 (pc := 30) dX4_push_30 ?_
  refine w_putR (pc := 31) (x := some ((x 3))) kc4 0 hH.1 hH.2.1 rfl t264 rfl (tyX4_ok 0 (by decide)) rfl rfl dX4_push_31 ?_
  obtain ⟨F, hF⟩ : ∃ F, F = kgst (kgst (kgst (kgst σ.2.2 h 3 (some (x 2))) h 2 (some (x 1))) h 1 (some (x 0))) h 0 (some (x 3)) := ⟨_, rfl⟩
  refine w_sig (σ' := (σ.1, σ.2.1, F)) (by rw [hF]) ?_
  have hFa : ∀ a, a ≠ h → F a = σ.2.2 a := fun a ha => by rw [hF]; simp [kgst, va_up, ha]
  have r0 : F h 0 = some (x 3) := by rw [hF]; simp [kgst, va_up]
  have r1 : F h 1 = some (x 0) := by rw [hF]; simp [kgst, va_up]
  have r2 : F h 2 = some (x 1) := by rw [hF]; simp [kgst, va_up]
  have r3 : F h 3 = some (x 2) := by rw [hF]; simp [kgst, va_up]
  have hX3 : sPlant g (σ.1, σ.2.1, F) (x 3) := sP_G hX3 (fun a h1 h2 => hFa a (by omega))
  have hP : sPlant g (σ.1, σ.2.1, F) p := sP_G hP (fun a h1 h2 => hFa a (by omega))
  refine w_aload_0 (pc := 34) dX4_push_34 ?_
  refine w_getR (pc := 35) (b := (x 3)) kc4 0 hH.1 hH.2.1 rfl (by simp [kgst, va_up, r0, r1, r2, r3]) t264 dX4_push_35 ?_
  refine w_aload_1 (pc := 38) dX4_push_38 ?_
  refine w_callV_EV (pc := 39) (c_Plant_copyFrom hX3 hP hd hz) ok_X6_copyFrom t364 t365 kc6 (sP_in0 hX3) (sP_s0 hX3) t417 ⟨Nat.le_of_ble_eq_true rfl, Nat.le_of_ble_eq_true rfl⟩ ⟨rfl, rfl⟩ ⟨Nat.le_refl _, Nat.le_refl _⟩ rfl (Nat.le_of_ble_eq_true rfl) dX4_push_39 (fun I39 h39 => ?_)
  obtain ⟨f1, s1⟩ := h39
  refine w_aload_0 (pc := 42) dX4_push_42 ?_
  refine w_aload_0 (pc := 43) dX4_push_43 ?_
  refine w_getI (pc := 44) kc4 4 hH.1 hH.2.1 rfl t268 dX4_push_44 ?_
  refine w_iconst (pc := 47) (v := 1) dX4_push_47 (by decide) ?_
  refine w_iadd (pc := 48) dX4_push_48 ?_
  refine w_iconst (pc := 49) (v := 4) dX4_push_49 (by decide) ?_
  refine w_mmin (pc := 50) t418 t191 t42 t192 ⟨⟨Nat.le_of_ble_eq_true rfl, Nat.le_of_ble_eq_true rfl⟩, Nat.le_refl _, Nat.le_refl _⟩ dX4_push_50 ?_
  refine w_putI (pc := 53) kc4 4 hH.1 hH.2.1 rfl t268 rfl (tyX4_ok 4 (by decide)) rfl rfl dX4_push_53 ?_
  refine w_vret (pc := 56) rfl ⟨Nat.le_refl _, Nat.le_refl _⟩ dX4_push_56 ?_
  refine ⟨rfl, rfl, rfl, fun a ha => ?_, ?_, ?_, ?_, ?_, fun b hb hb2 => ?_, fun k hk => ?_, ?_, ?_⟩
  · exact hFa a ha
  · exact r0
  · exact r1
  · exact r2
  · exact r3
  · rw [kst_n hb]; exact f1 b hb2
  · rw [kst_s, upd_ne hk, f1 h hh3]
  · rw [kst_s, upd_s, f1 h hh3]
  · intro j k hjk
    have := pSl_j hjk
    rw [kst_n (by omega)]; exact s1 j k hjk
set_option maxHeartbeats 4000000 in
set_option maxRecDepth 100000 in
theorem c_His_pullInto {g : kG} {σ : kS} {I : kI} {h p : Nat} {x : Nat → Nat} (hH : sHis g σ h x) (hX0 : sPlant g σ (x 0)) (hX3 : sPlant g σ (x 3)) (hP : sPlant g σ p) (hh : h < p ∨ p + 16 ≤ h) (hd : p + 16 ≤ x 0 ∨ x 0 + 16 ≤ p) (hz : I (x 0) 9 = 0 ∨ I (x 0) 9 = 1)  : ct g mX4_pullInto ⟨4, 0, 0, 89⟩ [.ref h, .ref p] σ I (qRV σ (fun F I1 => (∀ a, a ≠ h → F a = σ.2.2 a) ∧ F h 0 = some (x 1) ∧ F h 1 = some (x 2) ∧ F h 2 = some (x 3) ∧ F h 3 = some (x 0) ∧ (∀ b, b ≠ h → (b < p ∨ p + 16 ≤ b) → I1 b = I b) ∧ (∀ k, k ≠ 4 → I1 h k = I h k) ∧ I1 h 4 = I h 4 - 1 ∧ sameP I1 p I (x 0))) := by
  refine ct_of pn4 rfl (Nat.le_of_ble_eq_true rfl) ok_X4_pullInto.1 trivial ?_
  show wp _ _ _ _ _ _ _ _ 0 [some (.ref h), some (.ref p), none] []
  obtain ⟨r0, r1, r2, r3⟩ := hH.2.2
  refine w_aload_0 (pc := 0) dX4_pullInto_0 ?_
  refine w_getR (pc := 1) (b := (x 0)) kc4 0 hH.1 hH.2.1 rfl hH.2.2.1 t264 dX4_pullInto_1 ?_
  refine w_astore_2 (pc := 4) dX4_pullInto_4 rfl ?_
  refine w_aload_1 (pc := 5) dX4_pullInto_5 ?_
  refine w_aload_2 (pc := 6) dX4_pullInto_6 ?_
  refine w_callV_EV (pc := 7) (c_Plant_copyFrom hP hX0 hd hz) ok_X6_copyFrom t364 t365 kc6 (sP_in0 hP) (sP_s0 hP) t417 ⟨Nat.le_of_ble_eq_true rfl, Nat.le_of_ble_eq_true rfl⟩ ⟨rfl, rfl⟩ ⟨Nat.le_refl _, Nat.le_refl _⟩ rfl (Nat.le_of_ble_eq_true rfl) dX4_pullInto_7 (fun I7 h7 => ?_)
  obtain ⟨f1, s1⟩ := h7
  refine w_aload_0 (pc := 10) dX4_pullInto_10 ?_
  refine w_aload_0 (pc := 11) dX4_pullInto_11 ?_
  refine w_getR (pc := 12) (b := (x 1)) kc4 1 hH.1 hH.2.1 rfl hH.2.2.2.1 t265 dX4_pullInto_12 ?_
  refine w_putR (pc := 15) (x := some ((x 1))) kc4 0 hH.1 hH.2.1 rfl t264 rfl (tyX4_ok 0 (by decide)) rfl rfl dX4_pullInto_15 ?_
  refine w_aload_0 (pc := 18) dX4_pullInto_18 ?_
  refine w_aload_0 (pc := 19) dX4_pullInto_19 ?_
  refine w_getR (pc := 20) (b := (x 2)) kc4 2 hH.1 hH.2.1 rfl (by simp [kgst, va_up, r0, r1, r2, r3]) t266 dX4_pullInto_20 ?_
  refine w_putR (pc := 23) (x := some ((x 2))) kc4 1 hH.1 hH.2.1 rfl t265 rfl (tyX4_ok 1 (by decide)) rfl rfl dX4_pullInto_23 ?_
  refine w_aload_0 (pc := 26) dX4_pullInto_26 ?_
  refine w_aload_0 (pc := 27) dX4_pullInto_27 ?_
  refine w_getR (pc := 28) (b := (x 3)) kc4 3 hH.1 hH.2.1 rfl (by simp [kgst, va_up, r0, r1, r2, r3]) t267 dX4_pullInto_28 ?_
  refine w_putR (pc := 31) (x := some ((x 3))) kc4 2 hH.1 hH.2.1 rfl t266 rfl (tyX4_ok 2 (by decide)) rfl rfl dX4_pullInto_31 ?_
  refine w_aload_0 (pc := 34) dX4_pullInto_34 ?_
  refine w_aload_2 (pc := 35) dX4_pullInto_35 ?_
  refine w_putR (pc := 36) (x := some ((x 0))) kc4 3 hH.1 hH.2.1 rfl t267 rfl (tyX4_ok 3 (by decide)) rfl rfl dX4_pullInto_36 ?_
  refine w_aload_0 (pc := 39) dX4_pullInto_39 ?_
  refine w_dup_a (pc := 40) dX4_pullInto_40 ?_
  refine w_getI (pc := 41) kc4 4 hH.1 hH.2.1 rfl t268 dX4_pullInto_41 ?_
  refine w_iconst (pc := 44) (v := 1) dX4_pullInto_44 (by decide) ?_
  refine w_isub (pc := 45) dX4_pullInto_45 ?_
  refine w_putI (pc := 46) kc4 4 hH.1 hH.2.1 rfl t268 rfl (tyX4_ok 4 (by decide)) rfl rfl dX4_pullInto_46 ?_
  refine w_vret (pc := 49) rfl ⟨Nat.le_refl _, Nat.le_refl _⟩ dX4_pullInto_49 ?_
  refine ⟨rfl, rfl, rfl, fun a ha => ?_, ?_, ?_, ?_, ?_, fun b hb hb2 => ?_, fun k hk => ?_, ?_, ?_⟩
  · simp [kgst, va_up, ha]
  · simp [kgst, va_up, r1]
  · simp [kgst, va_up, r2]
  · simp [kgst, va_up, r3]
  · simp [kgst, va_up]
  · rw [kst_n hb]; exact f1 b hb2
  · rw [kst_s, upd_ne hk, f1 h (by omega)]
  · rw [kst_s, upd_s, f1 h (by omega)]
  · intro j k hjk
    have := pSl_j hjk
    rw [kst_n (by omega)]; exact s1 j k hjk
