def erE (r : Int32) : Prop := -1000004 ≤ r ∧ r ≤ -1000001
theorem ge1 {c : Prop} [Decidable c] {e : Int32} {y : kO} (he : erE e) (hy : y.2 = none → erE y.1) (h : (if c then (e, none) else y).2 = none) : erE (if c then (e, none) else y).1 := by
  by_cases q : c
  · rw [if_pos q]; exact he
  · rw [if_neg q] at h ⊢; exact hy h
theorem ge2 {c : Prop} [Decidable c] {x y : kO} (hx : x.2 = none → erE x.1) (hy : y.2 = none → erE y.1) (h : (if c then x else y).2 = none) : erE (if c then x else y).1 := by
  by_cases q : c
  · rw [if_pos q] at h ⊢; exact hx h
  · rw [if_neg q] at h ⊢; exact hy h
theorem ges {r : Int32} {t : kV} (h : ((r, some t) : kO).2 = none) : erE ((r, some t) : kO).1 := absurd h (by simp)
theorem er1 : erE (-1000001) := ⟨by decide, by decide⟩
theorem er2 : erE (-1000002) := ⟨by decide, by decide⟩
theorem er3 : erE (-1000003) := ⟨by decide, by decide⟩
theorem oLot_er {s : kV} {v w : Int32} (h : (oLot s v w).2 = none) : erE (oLot s v w).1 := by unfold oLot at h ⊢; exact ge1 er1 (ge1 er3 ges) h
theorem oGate_er {s : kV} {v : Int32} (h : (oGate s v).2 = none) : erE (oGate s v).1 := by unfold oGate at h ⊢; exact ge1 er1 ges h
theorem oRun_er {s : kV} {v : Int32} (h : (oRun s v).2 = none) : erE (oRun s v).1 := by unfold oRun at h ⊢; exact ge1 er1 (ge1 er2 ges) h
theorem oBin_er {s : kV} (h : (oBin s ).2 = none) : erE (oBin s ).1 := by unfold oBin at h ⊢; exact ge1 er2 (ge1 er3 ges) h
theorem oBatch_er {s : kV} {v : Int32} (h : (oBatch s v).2 = none) : erE (oBatch s v).1 := by unfold oBatch at h ⊢; exact ge1 er1 (ge1 er2 ges) h
theorem oTick_er {s : kV} {v : Int32} (h : (oTick s v).2 = none) : erE (oTick s v).1 := by unfold oTick at h ⊢; exact ge1 er1 (ge1 er3 ges) h
theorem oZero_er {s : kV} (h : (oZero s ).2 = none) : erE (oZero s ).1 := by unfold oZero at h ⊢; exact ge1 er2 ges h
theorem oCorrect_er {s : kV} {v : Int32} (h : (oCorrect s v).2 = none) : erE (oCorrect s v).1 := by unfold oCorrect at h ⊢; exact ge1 er1 (ge1 er2 ges) h
theorem oSet_er {s : kV} {v w : Int32} (h : (oSet s v w).2 = none) : erE (oSet s v w).1 := by unfold oSet at h ⊢; exact ge1 er1 ges h
theorem oAccount_er {s : kV} {v : Int32} (h : (oAccount s v).2 = none) : erE (oAccount s v).1 := by unfold oAccount at h ⊢; exact ge1 er1 (ge1 er3 ges) h
theorem oBook_er {s : kV} {v w : Int32} (h : (oBook s v w).2 = none) : erE (oBook s v w).1 := by unfold oBook at h ⊢; exact ge1 er1 ges h
theorem cmO_er {s : kV} {l v w : Int32} (h : (cmO s l v w).2 = none) : erE (cmO s l v w).1 := by
  unfold cmO at h ⊢
  exact ge2 oBin_er (ge2 oRun_er (ge2 oRun_er (ge2 oZero_er (ge2 oLot_er (ge2 oGate_er (ge2 oBatch_er (ge2 oCorrect_er oTick_er))))))) h
theorem ps_let {tx : kV} {n p : Nat} {z : kC} (h : ps tx n p = some z) : (z.1 = 98 ∨ z.1 = 115 ∨ z.1 = 120 ∨ z.1 = 122) ∨ z.1 = 108 ∨ z.1 = 103 ∨ z.1 = 109 ∨ z.1 = 99 ∨ z.1 = 116 := by
  unfold ps at h
  split at h
  · rename_i c0
    unfold ps0 at h
    split at h
    · cases h; exact Or.inl c0
    · cases h
  · split at h
    · rename_i c0
      unfold ps2 at h
      split at h
      · split at h
        · cases h; exact Or.inr (Or.inl c0)
        · cases h
      · cases h
    · split at h
      · rename_i c0
        unfold ps1 at h
        split at h
        · cases h; exact Or.inr (Or.inr c0)
        · cases h
      · cases h
def plC (z : kF3) (I1 : kI) (r q : Nat) : Prop := match z with
  | (none, s2, n) => I1 r 2 = 0 ∧ I1 r 4 = nI n ∧ PR I1 q s2 ∧ KI s2
  | (some (pz, c), _, _) => I1 r 1 = nI pz ∧ (if c = 0 then I1 r 2 = 1 else I1 r 2 = 2 ∧ I1 r 3 = c)
theorem PR_e {I J : kI} {p : Nat} {s : kV} (h : PR I p s) (hS : SX s) (e : ∀ a, p ≤ a → a < p + 16 → J a = I a) : PR J p s :=
  ⟨PRh_c h.1 (e _ (by omega) (by omega)) (e _ (by omega) (by omega)) (e _ (by omega) (by omega)) (fun _ _ => rfl) (SX_L hS).1, PRb_c h.2.1 (e _ (by omega) (by omega)) (e _ (by omega) (by omega)) (fun _ _ _ => rfl), PRn_c h.2.2.1 (e _ (by omega) (by omega)) (e _ (by omega) (by omega)) (e _ (by omega) (by omega)) (e _ (by omega) (by omega)) (fun _ _ => rfl), PRs_c h.2.2.2.1 (e _ (by omega) (by omega)) (fun _ _ _ => rfl), PRa_c h.2.2.2.2.1 (e _ (by omega) (by omega)) (e _ (by omega) (by omega)) (e _ (by omega) (by omega)) (e _ (by omega) (by omega)) (fun _ _ => rfl), PRt_c h.2.2.2.2.2.1 (e _ (by omega) (by omega)) (fun _ _ _ => rfl), PRp_c h.2.2.2.2.2.2 (e _ (by omega) (by omega)) (fun _ _ => rfl)⟩
def sHis (g : kG) (σ : kS) (h : Nat) (x : Nat → Nat) : Prop := (kB g ≤ h ∧ h < σ.1) ∧ σ.2.1 h = (4, 0) ∧ σ.2.2 h 0 = some (x 0) ∧ σ.2.2 h 1 = some (x 1) ∧ σ.2.2 h 2 = some (x 2) ∧ σ.2.2 h 3 = some (x 3)
theorem sP_G {g : kG} {σ : kS} {p : Nat} {F : Nat → Nat → Option Nat} (h : sPlant g σ p) (e : ∀ a, p ≤ a → a < p + 16 → F a = σ.2.2 a) : sPlant g (σ.1, σ.2.1, F) p := by
  have e0 := e p (by omega) (by omega)
  have e1 := e (p + 1) (by omega) (by omega)
  have e4 := e (p + 4) (by omega) (by omega)
  have e6 := e (p + 6) (by omega) (by omega)
  have e11 := e (p + 11) (by omega) (by omega)
  unfold sPlant at h ⊢
  simp only [e0, e1, e4, e6, e11]
  exact h
theorem w_sig {g : kG} {μ : kM} {R : Room} {E : State → Prop} {Q : kP} {n : Nat × Nat} {σ σ' : kS} {I : kI} {pc : Nat} {loc : List (Option Value)} {st : List Value} (e : σ = σ') (kk : wp g μ R E Q n σ' I pc loc st) : wp g μ R E Q n σ I pc loc st := by
  subst e; exact kk
theorem pSl_j {j k : Nat} (h : pSl j k) : j < 16 := by
  apply Decidable.byContradiction
  intro q
  obtain ⟨m, rfl⟩ : ∃ m, j = m + 16 := ⟨j - 16, by omega⟩
  simp [pSl] at h

set_option maxHeartbeats 4000000 in
set_option maxRecDepth 100000 in
theorem c_His_push {g : kG} {σ : kS} {I : kI} {h p : Nat} {x : Nat → Nat} (hH : sHis g σ h x) (hX0 : sPlant g σ (x 0)) (hX3 : sPlant g σ (x 3)) (hP : sPlant g σ p) (hh : h < p ∨ p + 16 ≤ h) (hd : x 3 + 16 ≤ p ∨ p + 16 ≤ x 3) (hh3 : h < x 3 ∨ x 3 + 16 ≤ h) (hz : I p 9 = 0 ∨ I p 9 = 1)  : ct g mX4_push ⟨4, 0, 0, 89⟩ [.ref h, .ref p] σ I (qRV σ (fun F I1 => (∀ a, a ≠ h → F a = σ.2.2 a) ∧ F h 0 = some (x 3) ∧ F h 1 = some (x 0) ∧ F h 2 = some (x 1) ∧ F h 3 = some (x 2) ∧ (∀ b, b ≠ h → (b < x 3 ∨ x 3 + 16 ≤ b) → I1 b = I b) ∧ (∀ k, k ≠ 4 → I1 h k = I h k) ∧ I1 h 4 = (if 4 < I h 4 + 1 then 4 else I h 4 + 1) ∧ sameP I1 (x 3) I p)) := by
  refine ct_of pn4 rfl (Nat.le_of_ble_eq_true rfl) ok_X4_push.1 trivial ?_
  show wp _ _ _ _ _ _ _ _ 0 [some (.ref h), some (.ref p), none] []
  obtain ⟨r0, r1, r2, r3⟩ := hH.2.2
  refine w_aload_0 (pc := 0) dX4_push_0 ?_
  refine w_getR (pc := 1) (b := (x 3)) kc4 3 hH.1 hH.2.1 rfl hH.2.2.2.2.2 t238 dX4_push_1 ?_
  refine w_astore_2 (pc := 4) dX4_push_4 rfl ?_
  refine w_aload_0 (pc := 5) dX4_push_5 ?_
  refine w_aload_0 (pc := 6) dX4_push_6 ?_
  refine w_getR (pc := 7) (b := (x 2)) kc4 2 hH.1 hH.2.1 rfl hH.2.2.2.2.1 t237 dX4_push_7 ?_
  refine w_putR (pc := 10) (x := some ((x 2))) kc4 3 hH.1 hH.2.1 rfl t238 rfl (tyX4_ok 3 (by decide)) rfl rfl dX4_push_10 ?_
  refine w_aload_0 (pc := 13) dX4_push_13 ?_
  refine w_aload_0 (pc := 14) dX4_push_14 ?_
  refine w_getR (pc := 15) (b := (x 1)) kc4 1 hH.1 hH.2.1 rfl (by simp [kgst, va_up, r0, r1, r2, r3]) t236 dX4_push_15 ?_
  refine w_putR (pc := 18) (x := some ((x 1))) kc4 2 hH.1 hH.2.1 rfl t237 rfl (tyX4_ok 2 (by decide)) rfl rfl dX4_push_18 ?_
  refine w_aload_0 (pc := 21) dX4_push_21 ?_
  refine w_aload_0 (pc := 22) dX4_push_22 ?_
  refine w_getR (pc := 23) (b := (x 0)) kc4 0 hH.1 hH.2.1 rfl (by simp [kgst, va_up, r0, r1, r2, r3]) t235 dX4_push_23 ?_
  refine w_putR (pc := 26) (x := some ((x 0))) kc4 1 hH.1 hH.2.1 rfl t236 rfl (tyX4_ok 1 (by decide)) rfl rfl dX4_push_26 ?_
  refine w_aload_0 (pc := 29) dX4_push_29 ?_
  refine w_aload_2 (pc := 30) dX4_push_30 ?_
  refine w_putR (pc := 31) (x := some ((x 3))) kc4 0 hH.1 hH.2.1 rfl t235 rfl (tyX4_ok 0 (by decide)) rfl rfl dX4_push_31 ?_
  obtain ⟨F, hF⟩ : ∃ F, F = kgst (kgst (kgst (kgst σ.2.2 h 3 (some (x 2))) h 2 (some (x 1))) h 1 (some (x 0))) h 0 (some (x 3)) := ⟨_, rfl⟩
  refine w_sig (σ' := (σ.1, σ.2.1, F)) (by rw [hF]) ?_
  have hFa : ∀ a, a ≠ h → F a = σ.2.2 a := fun a ha => by rw [hF]; simp [kgst, va_up, ha]
  have r0 : F h 0 = some (x 3) := by rw [hF]; simp [kgst, va_up]
  have r1 : F h 1 = some (x 0) := by rw [hF]; simp [kgst, va_up]
  have r2 : F h 2 = some (x 1) := by rw [hF]; simp [kgst, va_up]
  have r3 : F h 3 = some (x 2) := by rw [hF]; simp [kgst, va_up]
  have hX3 : sPlant g (σ.1, σ.2.1, F) (x 3) := sP_G hX3 (fun a h1 h2 => hFa a (by omega))
  have hP : sPlant g (σ.1, σ.2.1, F) p := sP_G hP (fun a h1 h2 => hFa a (by omega))
  refine w_aload_0 (pc := 34) dX4_push_34 ?_
  refine w_getR (pc := 35) (b := (x 3)) kc4 0 hH.1 hH.2.1 rfl (by simp [kgst, va_up, r0, r1, r2, r3]) t235 dX4_push_35 ?_
  refine w_aload_1 (pc := 38) dX4_push_38 ?_
  refine w_callV_EV (pc := 39) (c_Plant_copyFrom hX3 hP hd hz) ok_X6_copyFrom t381 t382 kc6 (sP_in0 hX3) (sP_s0 hX3) t498 ⟨Nat.le_of_ble_eq_true rfl, Nat.le_of_ble_eq_true rfl⟩ ⟨rfl, rfl⟩ ⟨Nat.le_refl _, Nat.le_refl _⟩ rfl (Nat.le_of_ble_eq_true rfl) dX4_push_39 (fun I39 h39 => ?_)
  obtain ⟨f1, s1⟩ := h39
  refine w_aload_0 (pc := 42) dX4_push_42 ?_
  refine w_aload_0 (pc := 43) dX4_push_43 ?_
  refine w_getI (pc := 44) kc4 4 hH.1 hH.2.1 rfl t239 dX4_push_44 ?_
  refine w_iconst (pc := 47) (v := 1) dX4_push_47 (by decide) ?_
  refine w_iadd (pc := 48) dX4_push_48 ?_
  refine w_iconst (pc := 49) (v := 4) dX4_push_49 (by decide) ?_
  refine w_mmin (pc := 50) t499 t162 t14 t163 ⟨⟨Nat.le_of_ble_eq_true rfl, Nat.le_of_ble_eq_true rfl⟩, Nat.le_refl _, Nat.le_refl _⟩ dX4_push_50 ?_
  refine w_putI (pc := 53) kc4 4 hH.1 hH.2.1 rfl t239 rfl (tyX4_ok 4 (by decide)) rfl rfl dX4_push_53 ?_
  refine w_vret (pc := 56) rfl ⟨Nat.le_refl _, Nat.le_refl _⟩ dX4_push_56 ?_
  refine ⟨rfl, rfl, rfl, fun a ha => ?_, ?_, ?_, ?_, ?_, fun b hb hb2 => ?_, fun k hk => ?_, ?_, ?_⟩
  · exact hFa a ha
  · exact r0
  · exact r1
  · exact r2
  · exact r3
  · rw [kst_n hb]; exact f1 b hb2
  · rw [kst_s, upd_ne hk, f1 h hh3]
  · rw [kst_s, upd_s, f1 h hh3]
  · intro j k hjk
    have := pSl_j hjk
    rw [kst_n (by omega)]; exact s1 j k hjk


