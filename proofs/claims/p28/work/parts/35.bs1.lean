abbrev kCS : Type := kV × Nat × (Nat → kV)
def sBS (g : kG) (σ : kS) (r : Nat) : Prop := (kB g ≤ r ∧ r + 102 ≤ σ.1) ∧ σ.2.1 r = (10, 0) ∧ σ.2.2 r 0 = some (r + 1) ∧ σ.2.2 r 1 = some (r + 17) ∧ σ.2.2 r 2 = some (r + 33) ∧ σ.2.2 r 3 = some (r + 98) ∧ σ.2.2 r 4 = some (r + 100)
def HX (r : Nat) (x : Nat → Nat) : Prop := (∀ i, i < 4 → ∃ j, j < 4 ∧ x i = r + 34 + 16 * j) ∧ (∀ i j, i < 4 → j < 4 → x i = x j → i = j)
def sW (g : kG) (σ : kS) (r : Nat) (x : Nat → Nat) : Prop := sBS g σ r ∧ sPlant g σ (r + 1) ∧ sPlant g σ (r + 17) ∧ sHis g σ (r + 33) x ∧ HX r x ∧ (∀ j, j < 4 → sPlant g σ (r + 34 + 16 * j)) ∧ sText g σ (r + 98) (r + 99) ∧ sReh g σ (r + 100) (r + 101)
theorem sBS_in {g : kG} {σ : kS} {r : Nat} (h : sBS g σ r) : kB g ≤ r ∧ r < σ.1 := by have := h.1; omega
theorem sW_x {g : kG} {σ : kS} {r : Nat} {x : Nat → Nat} (h : sW g σ r x) {i : Nat} (hi : i < 4) : sPlant g σ (x i) ∧ r + 34 ≤ x i ∧ x i + 16 ≤ r + 98 := by
  obtain ⟨j, hj, e⟩ := h.2.2.2.2.1.1 i hi
  exact ⟨by rw [e]; exact h.2.2.2.2.2.1 j hj, by omega, by omega⟩
theorem HX_d {r : Nat} {x : Nat → Nat} (h : HX r x) {i j : Nat} (hi : i < 4) (hj : j < 4) (hij : i ≠ j) : x i + 16 ≤ x j ∨ x j + 16 ≤ x i := by
  obtain ⟨a, ha, ea⟩ := h.1 i hi
  obtain ⟨b, hb, eb⟩ := h.1 j hj
  have : a ≠ b := fun q => hij (h.2 i j hi hj (by rw [ea, eb, q]))
  omega
theorem sW_G {g : kG} {σ : kS} {r : Nat} {x x' : Nat → Nat} {F : Nat → Nat → Option Nat} (h : sW g σ r x) (hF : ∀ a, a ≠ r + 33 → F a = σ.2.2 a) (f0 : F (r + 33) 0 = some (x' 0)) (f1 : F (r + 33) 1 = some (x' 1)) (f2 : F (r + 33) 2 = some (x' 2)) (f3 : F (r + 33) 3 = some (x' 3)) (hx : HX r x') : sW g (σ.1, σ.2.1, F) r x' := by
  obtain ⟨⟨a1, a2, a3⟩, b, c, ⟨d1, d2, -⟩, -, e, ⟨t1, t2, t3, t4, t5, t6⟩, ⟨u1, u2, u3, u4, u5, u6⟩⟩ := h
  refine ⟨⟨a1, a2, ?_⟩, sP_G b (fun a x y => hF a (by omega)), sP_G c (fun a x y => hF a (by omega)), ⟨d1, d2, f0, f1, f2, f3⟩, hx, fun j hj => sP_G (e j hj) (fun a x y => hF a (by omega)), ⟨t1, t2, t3, t4, ?_, t6⟩, ⟨u1, u2, u3, u4, ?_, u6⟩⟩
  · show F r 0 = _ ∧ F r 1 = _ ∧ F r 2 = _ ∧ F r 3 = _ ∧ F r 4 = _
    rw [hF r (by omega)]; exact a3
  · show F (r + 98) 0 = _
    rw [hF _ (by omega)]; exact t5
  · show F (r + 100) 0 = _
    rw [hF _ (by omega)]; exact u5
def HC (I : kI) (r : Nat) (x : Nat → Nat) (n1 : Nat) (H : Nat → kV) : Prop := I (r + 33) 4 = nI n1 ∧ n1 ≤ 4 ∧ ∀ i, i < n1 → PR I (x i) (H i) ∧ KI (H i)
def TXR (I : kI) (r n0 : Nat) (f : kV) : Prop := I (r + 98) 1 = nI n0 ∧ n0 ≤ 60 ∧ TC f n0 ∧ ∀ k, k < n0 → I (r + 99) k = f k
def CR (I : kI) (r : Nat) (x : Nat → Nat) (c : kCS) (n0 : Nat) (f : kV) : Prop := PR I (r + 1) c.1 ∧ KI c.1 ∧ HC I r x c.2.1 c.2.2 ∧ TXR I r n0 f
def csH (s : kV) (H : Nat → kV) : Nat → kV := fun i => match i with
  | 0 => s
  | i + 1 => H i
def stC (c : kCS) (o : kO) : kCS := match o.2 with
  | none => c
  | some t => (t, min (c.2.1 + 1) 4, csH c.1 c.2.2)
def PW (g : kG) (σ : kS) (r : Nat) (I : kI) (c : kCS) (n0 : Nat) (f : kV) (F : Nat → Nat → Option Nat) (I1 : kI) : Prop := ∃ x, sW g (σ.1, σ.2.1, F) r x ∧ CR I1 r x c n0 f ∧ (∀ a, a ≠ r + 33 → F a = σ.2.2 a) ∧ (∀ b, (b < r ∨ r + 102 ≤ b) → I1 b = I b)
theorem HC_e {I J : kI} {r n1 : Nat} {x : Nat → Nat} {H : Nat → kV} {g : kG} {σ : kS} (hW : sW g σ r x) (h : HC I r x n1 H) (e : ∀ b, r + 33 ≤ b → b < r + 98 → J b = I b) : HC J r x n1 H := by
  obtain ⟨h1, h2, h3⟩ := h
  refine ⟨by rw [e _ (by omega) (by omega)]; exact h1, h2, fun i hi => ⟨?_, (h3 i hi).2⟩⟩
  obtain ⟨-, q1, q2⟩ := sW_x hW (show i < 4 by omega)
  exact PR_e (h3 i hi).1 (h3 i hi).2.1 (fun a x1 x2 => e a (by omega) (by omega))
theorem TXR_e {I J : kI} {r n0 : Nat} {f : kV} (h : TXR I r n0 f) (e1 : J (r + 98) = I (r + 98)) (e2 : J (r + 99) = I (r + 99)) : TXR J r n0 f := by
  obtain ⟨h1, h2, h3, h4⟩ := h
  exact ⟨by rw [e1]; exact h1, h2, h3, fun k hk => by rw [e2]; exact h4 k hk⟩
-- pushing
def rotX (x : Nat → Nat) : Nat → Nat := fun i => match i with
  | 0 => x 3
  | i + 1 => x i
theorem HX_rot {r : Nat} {x : Nat → Nat} (h : HX r x) : HX r (rotX x) := by
  refine ⟨fun i hi => ?_, fun i j hi hj e => ?_⟩
  · cases i with
    | zero => exact h.1 3 (by omega)
    | succ i => exact h.1 i (by omega)
  · cases i with
    | zero => cases j with
      | zero => rfl
      | succ j => exact absurd (h.2 3 j (by omega) (by omega) e) (by omega)
    | succ i => cases j with
      | zero => exact absurd (h.2 i 3 (by omega) (by omega) e) (by omega)
      | succ j => rw [h.2 i j (by omega) (by omega) e]
def pushed (g : kG) (σ : kS) (r : Nat) (x : Nat → Nat) (I : kI) (n1 : Nat) (H : Nat → kV) (s : kV) (F : Nat → Nat → Option Nat) (I1 : kI) : Prop := sW g (σ.1, σ.2.1, F) r (rotX x) ∧ HC I1 r (rotX x) (min (n1 + 1) 4) (csH s H) ∧ (∀ a, a ≠ r + 33 → F a = σ.2.2 a) ∧ (∀ b, (b < r + 33 ∨ r + 98 ≤ b) → I1 b = I b)
theorem push_mk {g : kG} {σ : kS} {r q n1 : Nat} {x : Nat → Nat} {I I1 : kI} {H : Nat → kV} {s : kV} {F : Nat → Nat → Option Nat} (hW : sW g σ r x) (hH : HC I r x n1 H) (hs : PR I q s) (hK : KI s)
    (h : (∀ a, a ≠ r + 33 → F a = σ.2.2 a) ∧ F (r + 33) 0 = some (x 3) ∧ F (r + 33) 1 = some (x 0) ∧ F (r + 33) 2 = some (x 1) ∧ F (r + 33) 3 = some (x 2) ∧ (∀ b, b ≠ r + 33 → (b < x 3 ∨ x 3 + 16 ≤ b) → I1 b = I b) ∧ (∀ k, k ≠ 4 → I1 (r + 33) k = I (r + 33) k) ∧ I1 (r + 33) 4 = (if 4 < I (r + 33) 4 + 1 then 4 else I (r + 33) 4 + 1) ∧ sameP I1 (x 3) I q) : pushed g σ r x I n1 H s F I1 := by
  obtain ⟨a1, a2, a3, a4, a5, a6, a7, a8, a9⟩ := h
  obtain ⟨h1, h2, h3⟩ := hH
  obtain ⟨-, p1, p2⟩ := sW_x hW (show 3 < 4 by omega)
  refine ⟨sW_G hW a1 a2 a3 a4 a5 (HX_rot hW.2.2.2.2.1), ⟨?_, by omega, fun i hi => ?_⟩, a1, fun b hb => a6 b (by omega) (by omega)⟩
  · rw [a8, h1, nI_1]
    by_cases c : n1 + 1 ≤ 4
    · rw [if_neg, show min (n1 + 1) 4 = n1 + 1 by omega]
      exact fun q => by have := (nx_cmp (x := 4) (a := 4) rfl (by omega) (rfl : nI (n1 + 1) = nI (n1 + 1)) (by omega)).2.1.mp q; omega
    · rw [if_pos, show min (n1 + 1) 4 = 4 by omega]
      · rfl
      · exact (nx_cmp (x := 4) (a := 4) rfl (by omega) (rfl : nI (n1 + 1) = nI (n1 + 1)) (by omega)).2.1.mpr (by omega)
  · cases i with
    | zero => exact ⟨PR_same hs a9 hK.1, hK⟩
    | succ i =>
      obtain ⟨q1, q2⟩ := h3 i (by omega)
      obtain ⟨-, q3, q4⟩ := sW_x hW (show i < 4 by omega)
      have d := HX_d hW.2.2.2.2.1 (show i < 4 by omega) (show 3 < 4 by omega) (by omega)
      show PR I1 (x i) (H i) ∧ KI (H i)
      exact ⟨PR_e q1 q2.1 (fun a y1 y2 => a6 a (by omega) (by omega)), q2⟩
set_option maxHeartbeats 4000000 in
set_option maxRecDepth 100000 in
theorem c_BS_recorded {g : kG} {σ : kS} {I : kI} {r : Nat} {x : Nat → Nat} (hW : sW g σ r x) {n1 : Nat} {H : Nat → kV} {s : kV} (hH : HC I r x n1 H) (hs : PR I (r + 17) s) (hK : KI s) {y : Int32} : ct g mX10_recorded ⟨5, 0, 0, 111⟩ [.ref r, .int y] σ I (qRI σ (fun v F I1 => v = y ∧ (erE y → F = σ.2.2 ∧ I1 = I) ∧ (¬ erE y → pushed g σ r x I n1 H s F I1))) := by
  refine ct_of pn10 rfl (Nat.le_of_ble_eq_true rfl) ok_X10_recorded.1 trivial ?_
  show wp _ _ _ _ _ _ _ _ 0 [some (.ref r), some (.int y)] []
  refine w_iload_1 (pc := 0) dX10_recorded_0 ?_
  refine w_callS_I (pc := 1) (c_isError) ok_X10_isError t492 t491 ⟨Nat.le_of_ble_eq_true rfl, Nat.le_of_ble_eq_true rfl⟩ ⟨rfl, rfl⟩ ⟨Nat.le_refl _, Nat.le_refl _⟩ rfl (Nat.le_of_ble_eq_true rfl) dX10_recorded_1 ?_
  refine w_if_ne (pc := 4) (tgt := 18) dX10_recorded_4 (by decide) (fun c4 => ?_) (fun c4 => ?_)
  · refine w_iload_1 (pc := 18) dX10_recorded_18 ?_
    refine w_iret (pc := 19) rfl ⟨Nat.le_refl _, Nat.le_refl _⟩ dX10_recorded_19 ?_
    exact ⟨_, rfl, rfl, rfl, rfl, fun _ => ⟨rfl, rfl⟩, fun q => absurd (b1 c4) q⟩
  · refine w_aload_0 (pc := 7) dX10_recorded_7 ?_
    refine w_getR (pc := 8) (b := (r + 33)) kc10 2 (sBS_in hW.1) hW.1.2.1 rfl hW.1.2.2.2.2.1 t301 dX10_recorded_8 ?_
    refine w_aload_0 (pc := 11) dX10_recorded_11 ?_
    refine w_getR (pc := 12) (b := (r + 17)) kc10 1 (sBS_in hW.1) hW.1.2.1 rfl hW.1.2.2.2.1 t300 dX10_recorded_12 ?_
    refine w_callV_RV (pc := 15) (c_His_push hW.2.2.2.1 (sW_x hW (show 0 < 4 by omega)).1 (sW_x hW (show 3 < 4 by omega)).1 hW.2.2.1 (by omega) (by have := sW_x hW (show 3 < 4 by omega); omega) (by have := sW_x hW (show 3 < 4 by omega); omega) (PR_bool hs.2.2.2.2.2.2 hK.2.1.2.1)) ok_X4_push t495 t496 kc4 hW.2.2.2.1.1 hW.2.2.2.1.2.1 t494 ⟨Nat.le_of_ble_eq_true rfl, Nat.le_of_ble_eq_true rfl⟩ ⟨rfl, rfl⟩ ⟨Nat.le_refl _, Nat.le_refl _⟩ rfl (Nat.le_of_ble_eq_true rfl) dX10_recorded_15 (fun G15 I15 h15 => ?_)
    refine w_iload_1 (pc := 18) dX10_recorded_18 ?_
    refine w_iret (pc := 19) rfl ⟨Nat.le_refl _, Nat.le_refl _⟩ dX10_recorded_19 ?_
    exact ⟨_, rfl, rfl, rfl, rfl, fun q => absurd q (b0 (c := -1000004 ≤ y ∧ y ≤ -1000001) c4), fun _ => push_mk hW hH hs hK h15⟩
theorem bs_8 {g : kG} {σ : kS} {r n0 : Nat} {x : Nat → Nat} {I J : kI} {c : kCS} {f : kV} (hW : sW g σ r x) (hC : CR I r x c n0 f) (h : (∀ b, (b < r + 17 ∨ r + 17 + 16 ≤ b) → J b = I b) ∧ sameP J (r + 17) I (r + 1)) : CR J r x c n0 f ∧ PR J (r + 17) c.1 ∧ (∀ b, (b < r ∨ r + 102 ≤ b) → J b = I b) := by
  obtain ⟨h1, h2⟩ := h
  obtain ⟨c1, c2, c3, c4⟩ := hC
  exact ⟨⟨PR_e c1 c2.1 (fun a x1 x2 => h1 a (by omega)), c2, HC_e hW c3 (fun b x1 x2 => h1 b (by omega)), TXR_e c4 (h1 _ (by omega)) (h1 _ (by omega))⟩, PR_same c1 h2 c2.1, fun b hb => h1 b (by omega)⟩
theorem bs_op {g : kG} {σ : kS} {r n0 : Nat} {x : Nat → Nat} {I J : kI} {c : kCS} {f : kV} {o : kO} (hW : sW g σ r x) (hC : CR I r x c n0 f) (hs : PR I (r + 17) c.1) (h : opP (r + 1) I o J) : HC J r x c.2.1 c.2.2 ∧ PR J (r + 17) c.1 ∧ TXR J r n0 f ∧ (∀ b, (b < r ∨ r + 102 ≤ b) → J b = I b) := by
  obtain ⟨c1, c2, c3, c4⟩ := hC
  unfold opP at h
  cases ho : o.2 with
  | none => rw [ho] at h; subst h; exact ⟨c3, hs, c4, fun _ _ => rfl⟩
  | some t =>
    rw [ho] at h
    have f1 := h.1
    exact ⟨HC_e hW c3 (fun b x1 x2 => f1 b (by omega)), PR_e hs c2.1 (fun a x1 x2 => f1 a (by omega)), TXR_e c4 (f1 _ (by omega)) (f1 _ (by omega)), fun b hb => f1 b (by omega)⟩
theorem bs_fin {g : kG} {σ : kS} {r n0 : Nat} {x : Nat → Nat} {I0 I J I1 : kI} {c : kCS} {f : kV} {o : kO} {y v : Int32} {F : Nat → Nat → Option Nat} (hW : sW g σ r x) (hC : CR I r x c n0 f) (hs : PR I (r + 17) c.1) (fr : ∀ b, (b < r ∨ r + 102 ≤ b) → I b = I0 b) (hy : y = o.1) (h : opP (r + 1) I o J) (her : o.2 = none → erE o.1) (hok : opG (-9) c.1 o)
    (hrec : v = y ∧ (erE y → F = σ.2.2 ∧ I1 = J) ∧ (¬ erE y → pushed g σ r x J c.2.1 c.2.2 c.1 F I1)) : v = o.1 ∧ PW g σ r I0 (stC c o) n0 f F I1 := by
  obtain ⟨hv, he, hp⟩ := hrec
  obtain ⟨b1, b2, b3, b4⟩ := bs_op hW hC hs h
  refine ⟨hv.trans hy, ?_⟩
  unfold opP at h
  cases ho : o.2 with
  | none =>
    rw [ho] at h
    obtain ⟨e1, e2⟩ := he (by rw [hy]; exact her ho)
    subst e1 e2 h
    refine ⟨x, hW, ?_, fun _ _ => rfl, fr⟩
    unfold stC; rw [ho]; exact hC
  | some t =>
    rw [ho] at h
    obtain ⟨g1, g2, g3⟩ := hok o.1 t (by rw [← ho])
    obtain ⟨p1, p2, p3, p4⟩ := hp (by rw [hy]; exact noE_of g1)
    refine ⟨rotX x, p1, ?_, p3, fun b hb => (p4 b (by omega)).trans ((b4 b hb).trans (fr b hb))⟩
    unfold stC; rw [ho]
    exact ⟨PR_e h.2 g2.1 (fun a x1 x2 => p4 a (by omega)), g2, p2, TXR_e b3 (p4 _ (by omega)) (p4 _ (by omega))⟩

set_option maxHeartbeats 4000000 in
set_option maxRecDepth 100000 in
theorem c_BS_lot {g : kG} {σ : kS} {I : kI} {r : Nat} {x : Nat → Nat} (hW : sW g σ r x) {c : kCS} {n0 : Nat} {f : kV} (hC : CR I r x c n0 f) {x1 x2 : Int32} : ct g mX10_lot ⟨6, 0, 0, 132⟩ [.ref r, .int x1, .int x2] σ I (qRI σ (fun v F I1 => v = (oLot c.1 x1 x2).1 ∧ PW g σ r I (stC c (oLot c.1 x1 x2)) n0 f F I1)) := by
  refine ct_of pn10 rfl (Nat.le_of_ble_eq_true rfl) ok_X10_lot.1 trivial ?_
  show wp _ _ _ _ _ _ _ _ 0 [some (.ref r), some (.int x1), some (.int x2)] []
  refine w_aload_0 (pc := 0) dX10_lot_0 ?_
  refine w_getR (pc := 1) (b := (r + 17)) kc10 1 (sBS_in hW.1) hW.1.2.1 rfl hW.1.2.2.2.1 t300 dX10_lot_1 ?_
  refine w_aload_0 (pc := 4) dX10_lot_4 ?_
  refine w_getR (pc := 5) (b := (r + 1)) kc10 0 (sBS_in hW.1) hW.1.2.1 rfl hW.1.2.2.1 t299 dX10_lot_5 ?_
  refine w_callV_EV (pc := 8) (c_Plant_copyFrom hW.2.2.1 hW.2.1 (by omega) (PR_bool hC.1.2.2.2.2.2.2 hC.2.1.2.1.2.1)) ok_X6_copyFrom t381 t382 kc6 (sP_in0 hW.2.2.1) (sP_s0 hW.2.2.1) t380 ⟨Nat.le_of_ble_eq_true rfl, Nat.le_of_ble_eq_true rfl⟩ ⟨rfl, rfl⟩ ⟨Nat.le_refl _, Nat.le_refl _⟩ rfl (Nat.le_of_ble_eq_true rfl) dX10_lot_8 (fun I8 h8 => ?_)
  obtain ⟨C8, S8, f8⟩ := bs_8 hW hC h8
  refine w_aload_0 (pc := 11) dX10_lot_11 ?_
  refine w_aload_0 (pc := 12) dX10_lot_12 ?_
  refine w_getR (pc := 13) (b := (r + 1)) kc10 0 (sBS_in hW.1) hW.1.2.1 rfl hW.1.2.2.1 t299 dX10_lot_13 ?_
  refine w_iload_1 (pc := 16) dX10_lot_16 ?_
  refine w_iload_2 (pc := 17) dX10_lot_17 ?_
  refine w_callV_EI (pc := 18) (c_Plant_putLot hW.2.1 C8.1 hC.2.1.1) ok_X6_putLot t532 t533 kc6 (sP_in0 hW.2.1) (sP_s0 hW.2.1) t531 ⟨Nat.le_of_ble_eq_true rfl, Nat.le_of_ble_eq_true rfl⟩ ⟨rfl, rfl⟩ ⟨Nat.le_refl _, Nat.le_refl _⟩ rfl (Nat.le_of_ble_eq_true rfl) dX10_lot_18 (fun r18 I18 h18 => ?_)
  obtain ⟨q1, q2, q3, q4⟩ := bs_op hW C8 S8 h18.2
  refine w_callV_RI (pc := 21) (c_BS_recorded hW q1 q2 hC.2.1) ok_X10_recorded t489 t5 kc10 (sBS_in hW.1) hW.1.2.1 t487 ⟨Nat.le_of_ble_eq_true rfl, Nat.le_of_ble_eq_true rfl⟩ ⟨rfl, rfl⟩ ⟨Nat.le_refl _, Nat.le_refl _⟩ rfl (Nat.le_of_ble_eq_true rfl) dX10_lot_21 (fun r21 G21 I21 h21 => ?_)
  refine w_iret (pc := 24) rfl ⟨Nat.le_refl _, Nat.le_refl _⟩ dX10_lot_24 ?_
  exact ⟨_, rfl, rfl, rfl, bs_fin hW C8 S8 f8 h18.1 h18.2 oLot_er (opG_mono (g_Lot hC.2.1 x1 x2) (by omega)) h21⟩
set_option maxHeartbeats 4000000 in
set_option maxRecDepth 100000 in
theorem c_BS_gate {g : kG} {σ : kS} {I : kI} {r : Nat} {x : Nat → Nat} (hW : sW g σ r x) {c : kCS} {n0 : Nat} {f : kV} (hC : CR I r x c n0 f) {x1 : Int32} : ct g mX10_gate ⟨6, 0, 0, 132⟩ [.ref r, .int x1] σ I (qRI σ (fun v F I1 => v = (oGate c.1 x1).1 ∧ PW g σ r I (stC c (oGate c.1 x1)) n0 f F I1)) := by
  refine ct_of pn10 rfl (Nat.le_of_ble_eq_true rfl) ok_X10_gate.1 trivial ?_
  show wp _ _ _ _ _ _ _ _ 0 [some (.ref r), some (.int x1)] []
  refine w_aload_0 (pc := 0) dX10_gate_0 ?_
  refine w_getR (pc := 1) (b := (r + 17)) kc10 1 (sBS_in hW.1) hW.1.2.1 rfl hW.1.2.2.2.1 t300 dX10_gate_1 ?_
  refine w_aload_0 (pc := 4) dX10_gate_4 ?_
  refine w_getR (pc := 5) (b := (r + 1)) kc10 0 (sBS_in hW.1) hW.1.2.1 rfl hW.1.2.2.1 t299 dX10_gate_5 ?_
  refine w_callV_EV (pc := 8) (c_Plant_copyFrom hW.2.2.1 hW.2.1 (by omega) (PR_bool hC.1.2.2.2.2.2.2 hC.2.1.2.1.2.1)) ok_X6_copyFrom t381 t382 kc6 (sP_in0 hW.2.2.1) (sP_s0 hW.2.2.1) t380 ⟨Nat.le_of_ble_eq_true rfl, Nat.le_of_ble_eq_true rfl⟩ ⟨rfl, rfl⟩ ⟨Nat.le_refl _, Nat.le_refl _⟩ rfl (Nat.le_of_ble_eq_true rfl) dX10_gate_8 (fun I8 h8 => ?_)
  obtain ⟨C8, S8, f8⟩ := bs_8 hW hC h8
  refine w_aload_0 (pc := 11) dX10_gate_11 ?_
  refine w_aload_0 (pc := 12) dX10_gate_12 ?_
  refine w_getR (pc := 13) (b := (r + 1)) kc10 0 (sBS_in hW.1) hW.1.2.1 rfl hW.1.2.2.1 t299 dX10_gate_13 ?_
  refine w_iload_1 (pc := 16) dX10_gate_16 ?_
  refine w_callV_EI (pc := 17) (c_Plant_setGate hW.2.1 C8.1 hC.2.1.1) ok_X6_setGate t545 t546 kc6 (sP_in0 hW.2.1) (sP_s0 hW.2.1) t544 ⟨Nat.le_of_ble_eq_true rfl, Nat.le_of_ble_eq_true rfl⟩ ⟨rfl, rfl⟩ ⟨Nat.le_refl _, Nat.le_refl _⟩ rfl (Nat.le_of_ble_eq_true rfl) dX10_gate_17 (fun r17 I17 h17 => ?_)
  obtain ⟨q1, q2, q3, q4⟩ := bs_op hW C8 S8 h17.2
  refine w_callV_RI (pc := 20) (c_BS_recorded hW q1 q2 hC.2.1) ok_X10_recorded t489 t5 kc10 (sBS_in hW.1) hW.1.2.1 t487 ⟨Nat.le_of_ble_eq_true rfl, Nat.le_of_ble_eq_true rfl⟩ ⟨rfl, rfl⟩ ⟨Nat.le_refl _, Nat.le_refl _⟩ rfl (Nat.le_of_ble_eq_true rfl) dX10_gate_20 (fun r20 G20 I20 h20 => ?_)
  refine w_iret (pc := 23) rfl ⟨Nat.le_refl _, Nat.le_refl _⟩ dX10_gate_23 ?_
  exact ⟨_, rfl, rfl, rfl, bs_fin hW C8 S8 f8 h17.1 h17.2 oGate_er (opG_mono (g_Gate hC.2.1 x1) (by omega)) h20⟩
set_option maxHeartbeats 4000000 in
set_option maxRecDepth 100000 in
theorem c_BS_run {g : kG} {σ : kS} {I : kI} {r : Nat} {x : Nat → Nat} (hW : sW g σ r x) {c : kCS} {n0 : Nat} {f : kV} (hC : CR I r x c n0 f) {x1 : Int32} : ct g mX10_run ⟨6, 0, 0, 132⟩ [.ref r, .int x1] σ I (qRI σ (fun v F I1 => v = (oRun c.1 x1).1 ∧ PW g σ r I (stC c (oRun c.1 x1)) n0 f F I1)) := by
  refine ct_of pn10 rfl (Nat.le_of_ble_eq_true rfl) ok_X10_run.1 trivial ?_
  show wp _ _ _ _ _ _ _ _ 0 [some (.ref r), some (.int x1)] []
  refine w_aload_0 (pc := 0) dX10_run_0 ?_
  refine w_getR (pc := 1) (b := (r + 17)) kc10 1 (sBS_in hW.1) hW.1.2.1 rfl hW.1.2.2.2.1 t300 dX10_run_1 ?_
  refine w_aload_0 (pc := 4) dX10_run_4 ?_
  refine w_getR (pc := 5) (b := (r + 1)) kc10 0 (sBS_in hW.1) hW.1.2.1 rfl hW.1.2.2.1 t299 dX10_run_5 ?_
  refine w_callV_EV (pc := 8) (c_Plant_copyFrom hW.2.2.1 hW.2.1 (by omega) (PR_bool hC.1.2.2.2.2.2.2 hC.2.1.2.1.2.1)) ok_X6_copyFrom t381 t382 kc6 (sP_in0 hW.2.2.1) (sP_s0 hW.2.2.1) t380 ⟨Nat.le_of_ble_eq_true rfl, Nat.le_of_ble_eq_true rfl⟩ ⟨rfl, rfl⟩ ⟨Nat.le_refl _, Nat.le_refl _⟩ rfl (Nat.le_of_ble_eq_true rfl) dX10_run_8 (fun I8 h8 => ?_)
  obtain ⟨C8, S8, f8⟩ := bs_8 hW hC h8
  refine w_aload_0 (pc := 11) dX10_run_11 ?_
  refine w_aload_0 (pc := 12) dX10_run_12 ?_
  refine w_getR (pc := 13) (b := (r + 1)) kc10 0 (sBS_in hW.1) hW.1.2.1 rfl hW.1.2.2.1 t299 dX10_run_13 ?_
  refine w_iload_1 (pc := 16) dX10_run_16 ?_
  refine w_callV_EI (pc := 17) (c_Plant_switchBelt hW.2.1 C8.1 hC.2.1.1) ok_X6_switchBelt t505 t506 kc6 (sP_in0 hW.2.1) (sP_s0 hW.2.1) t504 ⟨Nat.le_of_ble_eq_true rfl, Nat.le_of_ble_eq_true rfl⟩ ⟨rfl, rfl⟩ ⟨Nat.le_refl _, Nat.le_refl _⟩ rfl (Nat.le_of_ble_eq_true rfl) dX10_run_17 (fun r17 I17 h17 => ?_)
  obtain ⟨q1, q2, q3, q4⟩ := bs_op hW C8 S8 h17.2
  refine w_callV_RI (pc := 20) (c_BS_recorded hW q1 q2 hC.2.1) ok_X10_recorded t489 t5 kc10 (sBS_in hW.1) hW.1.2.1 t487 ⟨Nat.le_of_ble_eq_true rfl, Nat.le_of_ble_eq_true rfl⟩ ⟨rfl, rfl⟩ ⟨Nat.le_refl _, Nat.le_refl _⟩ rfl (Nat.le_of_ble_eq_true rfl) dX10_run_20 (fun r20 G20 I20 h20 => ?_)
  refine w_iret (pc := 23) rfl ⟨Nat.le_refl _, Nat.le_refl _⟩ dX10_run_23 ?_
  exact ⟨_, rfl, rfl, rfl, bs_fin hW C8 S8 f8 h17.1 h17.2 oRun_er (opG_mono (g_Run hC.2.1 x1) (by omega)) h20⟩
set_option maxHeartbeats 4000000 in
set_option maxRecDepth 100000 in
theorem c_BS_bin {g : kG} {σ : kS} {I : kI} {r : Nat} {x : Nat → Nat} (hW : sW g σ r x) {c : kCS} {n0 : Nat} {f : kV} (hC : CR I r x c n0 f)  : ct g mX10_bin ⟨6, 0, 0, 132⟩ [.ref r] σ I (qRI σ (fun v F I1 => v = (oBin c.1).1 ∧ PW g σ r I (stC c (oBin c.1)) n0 f F I1)) := by
  refine ct_of pn10 rfl (Nat.le_of_ble_eq_true rfl) ok_X10_bin.1 trivial ?_
  show wp _ _ _ _ _ _ _ _ 0 [some (.ref r)] []
  refine w_aload_0 (pc := 0) dX10_bin_0 ?_
  refine w_getR (pc := 1) (b := (r + 17)) kc10 1 (sBS_in hW.1) hW.1.2.1 rfl hW.1.2.2.2.1 t300 dX10_bin_1 ?_
  refine w_aload_0 (pc := 4) dX10_bin_4 ?_
  refine w_getR (pc := 5) (b := (r + 1)) kc10 0 (sBS_in hW.1) hW.1.2.1 rfl hW.1.2.2.1 t299 dX10_bin_5 ?_
  refine w_callV_EV (pc := 8) (c_Plant_copyFrom hW.2.2.1 hW.2.1 (by omega) (PR_bool hC.1.2.2.2.2.2.2 hC.2.1.2.1.2.1)) ok_X6_copyFrom t381 t382 kc6 (sP_in0 hW.2.2.1) (sP_s0 hW.2.2.1) t380 ⟨Nat.le_of_ble_eq_true rfl, Nat.le_of_ble_eq_true rfl⟩ ⟨rfl, rfl⟩ ⟨Nat.le_refl _, Nat.le_refl _⟩ rfl (Nat.le_of_ble_eq_true rfl) dX10_bin_8 (fun I8 h8 => ?_)
  obtain ⟨C8, S8, f8⟩ := bs_8 hW hC h8
  refine w_aload_0 (pc := 11) dX10_bin_11 ?_
  refine w_aload_0 (pc := 12) dX10_bin_12 ?_
  refine w_getR (pc := 13) (b := (r + 1)) kc10 0 (sBS_in hW.1) hW.1.2.1 rfl hW.1.2.2.1 t299 dX10_bin_13 ?_
  refine w_callV_EI (pc := 16) (c_Plant_putBin hW.2.1 C8.1 hC.2.1.1) ok_X6_putBin t515 t516 kc6 (sP_in0 hW.2.1) (sP_s0 hW.2.1) t514 ⟨Nat.le_of_ble_eq_true rfl, Nat.le_of_ble_eq_true rfl⟩ ⟨rfl, rfl⟩ ⟨Nat.le_refl _, Nat.le_refl _⟩ rfl (Nat.le_of_ble_eq_true rfl) dX10_bin_16 (fun r16 I16 h16 => ?_)
  obtain ⟨q1, q2, q3, q4⟩ := bs_op hW C8 S8 h16.2
  refine w_callV_RI (pc := 19) (c_BS_recorded hW q1 q2 hC.2.1) ok_X10_recorded t489 t5 kc10 (sBS_in hW.1) hW.1.2.1 t487 ⟨Nat.le_of_ble_eq_true rfl, Nat.le_of_ble_eq_true rfl⟩ ⟨rfl, rfl⟩ ⟨Nat.le_refl _, Nat.le_refl _⟩ rfl (Nat.le_of_ble_eq_true rfl) dX10_bin_19 (fun r19 G19 I19 h19 => ?_)
  refine w_iret (pc := 22) rfl ⟨Nat.le_refl _, Nat.le_refl _⟩ dX10_bin_22 ?_
  exact ⟨_, rfl, rfl, rfl, bs_fin hW C8 S8 f8 h16.1 h16.2 oBin_er (opG_mono (g_Bin hC.2.1) (by omega)) h19⟩
set_option maxHeartbeats 4000000 in
set_option maxRecDepth 100000 in
theorem c_BS_batch {g : kG} {σ : kS} {I : kI} {r : Nat} {x : Nat → Nat} (hW : sW g σ r x) {c : kCS} {n0 : Nat} {f : kV} (hC : CR I r x c n0 f) {x1 : Int32} : ct g mX10_batch ⟨6, 0, 0, 132⟩ [.ref r, .int x1] σ I (qRI σ (fun v F I1 => v = (oBatch c.1 x1).1 ∧ PW g σ r I (stC c (oBatch c.1 x1)) n0 f F I1)) := by
  refine ct_of pn10 rfl (Nat.le_of_ble_eq_true rfl) ok_X10_batch.1 trivial ?_
  show wp _ _ _ _ _ _ _ _ 0 [some (.ref r), some (.int x1)] []
  refine w_aload_0 (pc := 0) dX10_batch_0 ?_
  refine w_getR (pc := 1) (b := (r + 17)) kc10 1 (sBS_in hW.1) hW.1.2.1 rfl hW.1.2.2.2.1 t300 dX10_batch_1 ?_
  refine w_aload_0 (pc := 4) dX10_batch_4 ?_
  refine w_getR (pc := 5) (b := (r + 1)) kc10 0 (sBS_in hW.1) hW.1.2.1 rfl hW.1.2.2.1 t299 dX10_batch_5 ?_
  refine w_callV_EV (pc := 8) (c_Plant_copyFrom hW.2.2.1 hW.2.1 (by omega) (PR_bool hC.1.2.2.2.2.2.2 hC.2.1.2.1.2.1)) ok_X6_copyFrom t381 t382 kc6 (sP_in0 hW.2.2.1) (sP_s0 hW.2.2.1) t380 ⟨Nat.le_of_ble_eq_true rfl, Nat.le_of_ble_eq_true rfl⟩ ⟨rfl, rfl⟩ ⟨Nat.le_refl _, Nat.le_refl _⟩ rfl (Nat.le_of_ble_eq_true rfl) dX10_batch_8 (fun I8 h8 => ?_)
  obtain ⟨C8, S8, f8⟩ := bs_8 hW hC h8
  refine w_aload_0 (pc := 11) dX10_batch_11 ?_
  refine w_aload_0 (pc := 12) dX10_batch_12 ?_
  refine w_getR (pc := 13) (b := (r + 1)) kc10 0 (sBS_in hW.1) hW.1.2.1 rfl hW.1.2.2.1 t299 dX10_batch_13 ?_
  refine w_iload_1 (pc := 16) dX10_batch_16 ?_
  refine w_callV_EI (pc := 17) (c_Plant_beginBatch hW.2.1 C8.1 hC.2.1.1) ok_X6_beginBatch t524 t525 kc6 (sP_in0 hW.2.1) (sP_s0 hW.2.1) t523 ⟨Nat.le_of_ble_eq_true rfl, Nat.le_of_ble_eq_true rfl⟩ ⟨rfl, rfl⟩ ⟨Nat.le_refl _, Nat.le_refl _⟩ rfl (Nat.le_of_ble_eq_true rfl) dX10_batch_17 (fun r17 I17 h17 => ?_)
  obtain ⟨q1, q2, q3, q4⟩ := bs_op hW C8 S8 h17.2
  refine w_callV_RI (pc := 20) (c_BS_recorded hW q1 q2 hC.2.1) ok_X10_recorded t489 t5 kc10 (sBS_in hW.1) hW.1.2.1 t487 ⟨Nat.le_of_ble_eq_true rfl, Nat.le_of_ble_eq_true rfl⟩ ⟨rfl, rfl⟩ ⟨Nat.le_refl _, Nat.le_refl _⟩ rfl (Nat.le_of_ble_eq_true rfl) dX10_batch_20 (fun r20 G20 I20 h20 => ?_)
  refine w_iret (pc := 23) rfl ⟨Nat.le_refl _, Nat.le_refl _⟩ dX10_batch_23 ?_
  exact ⟨_, rfl, rfl, rfl, bs_fin hW C8 S8 f8 h17.1 h17.2 oBatch_er (opG_mono (g_Batch hC.2.1 x1) (by omega)) h20⟩
set_option maxHeartbeats 4000000 in
set_option maxRecDepth 100000 in
theorem c_BS_tick {g : kG} {σ : kS} {I : kI} {r : Nat} {x : Nat → Nat} (hW : sW g σ r x) {c : kCS} {n0 : Nat} {f : kV} (hC : CR I r x c n0 f) {x1 : Int32} : ct g mX10_tick ⟨6, 0, 0, 132⟩ [.ref r, .int x1] σ I (qRI σ (fun v F I1 => v = (oTick c.1 x1).1 ∧ PW g σ r I (stC c (oTick c.1 x1)) n0 f F I1)) := by
  refine ct_of pn10 rfl (Nat.le_of_ble_eq_true rfl) ok_X10_tick.1 trivial ?_
  show wp _ _ _ _ _ _ _ _ 0 [some (.ref r), some (.int x1)] []
  refine w_aload_0 (pc := 0) dX10_tick_0 ?_
  refine w_getR (pc := 1) (b := (r + 17)) kc10 1 (sBS_in hW.1) hW.1.2.1 rfl hW.1.2.2.2.1 t300 dX10_tick_1 ?_
  refine w_aload_0 (pc := 4) dX10_tick_4 ?_
  refine w_getR (pc := 5) (b := (r + 1)) kc10 0 (sBS_in hW.1) hW.1.2.1 rfl hW.1.2.2.1 t299 dX10_tick_5 ?_
  refine w_callV_EV (pc := 8) (c_Plant_copyFrom hW.2.2.1 hW.2.1 (by omega) (PR_bool hC.1.2.2.2.2.2.2 hC.2.1.2.1.2.1)) ok_X6_copyFrom t381 t382 kc6 (sP_in0 hW.2.2.1) (sP_s0 hW.2.2.1) t380 ⟨Nat.le_of_ble_eq_true rfl, Nat.le_of_ble_eq_true rfl⟩ ⟨rfl, rfl⟩ ⟨Nat.le_refl _, Nat.le_refl _⟩ rfl (Nat.le_of_ble_eq_true rfl) dX10_tick_8 (fun I8 h8 => ?_)
  obtain ⟨C8, S8, f8⟩ := bs_8 hW hC h8
  refine w_aload_0 (pc := 11) dX10_tick_11 ?_
  refine w_aload_0 (pc := 12) dX10_tick_12 ?_
  refine w_getR (pc := 13) (b := (r + 1)) kc10 0 (sBS_in hW.1) hW.1.2.1 rfl hW.1.2.2.1 t299 dX10_tick_13 ?_
  refine w_iload_1 (pc := 16) dX10_tick_16 ?_
  refine w_callV_EI (pc := 17) (c_Plant_passTicks hW.2.1 C8.1 hC.2.1.1 hC.2.1.2.1) ok_X6_passTicks t409 t410 kc6 (sP_in0 hW.2.1) (sP_s0 hW.2.1) t408 ⟨Nat.le_of_ble_eq_true rfl, Nat.le_of_ble_eq_true rfl⟩ ⟨rfl, rfl⟩ ⟨Nat.le_refl _, Nat.le_refl _⟩ rfl (Nat.le_of_ble_eq_true rfl) dX10_tick_17 (fun r17 I17 h17 => ?_)
  obtain ⟨q1, q2, q3, q4⟩ := bs_op hW C8 S8 h17.2
  refine w_callV_RI (pc := 20) (c_BS_recorded hW q1 q2 hC.2.1) ok_X10_recorded t489 t5 kc10 (sBS_in hW.1) hW.1.2.1 t487 ⟨Nat.le_of_ble_eq_true rfl, Nat.le_of_ble_eq_true rfl⟩ ⟨rfl, rfl⟩ ⟨Nat.le_refl _, Nat.le_refl _⟩ rfl (Nat.le_of_ble_eq_true rfl) dX10_tick_20 (fun r20 G20 I20 h20 => ?_)
  refine w_iret (pc := 23) rfl ⟨Nat.le_refl _, Nat.le_refl _⟩ dX10_tick_23 ?_
  exact ⟨_, rfl, rfl, rfl, bs_fin hW C8 S8 f8 h17.1 h17.2 oTick_er (opG_mono (g_Tick hC.2.1 x1) (by omega)) h20⟩
set_option maxHeartbeats 4000000 in
set_option maxRecDepth 100000 in
theorem c_BS_zero {g : kG} {σ : kS} {I : kI} {r : Nat} {x : Nat → Nat} (hW : sW g σ r x) {c : kCS} {n0 : Nat} {f : kV} (hC : CR I r x c n0 f)  : ct g mX10_zero ⟨6, 0, 0, 132⟩ [.ref r] σ I (qRI σ (fun v F I1 => v = (oZero c.1).1 ∧ PW g σ r I (stC c (oZero c.1)) n0 f F I1)) := by
  refine ct_of pn10 rfl (Nat.le_of_ble_eq_true rfl) ok_X10_zero.1 trivial ?_
  show wp _ _ _ _ _ _ _ _ 0 [some (.ref r)] []
  refine w_aload_0 (pc := 0) dX10_zero_0 ?_
  refine w_getR (pc := 1) (b := (r + 17)) kc10 1 (sBS_in hW.1) hW.1.2.1 rfl hW.1.2.2.2.1 t300 dX10_zero_1 ?_
  refine w_aload_0 (pc := 4) dX10_zero_4 ?_
  refine w_getR (pc := 5) (b := (r + 1)) kc10 0 (sBS_in hW.1) hW.1.2.1 rfl hW.1.2.2.1 t299 dX10_zero_5 ?_
  refine w_callV_EV (pc := 8) (c_Plant_copyFrom hW.2.2.1 hW.2.1 (by omega) (PR_bool hC.1.2.2.2.2.2.2 hC.2.1.2.1.2.1)) ok_X6_copyFrom t381 t382 kc6 (sP_in0 hW.2.2.1) (sP_s0 hW.2.2.1) t380 ⟨Nat.le_of_ble_eq_true rfl, Nat.le_of_ble_eq_true rfl⟩ ⟨rfl, rfl⟩ ⟨Nat.le_refl _, Nat.le_refl _⟩ rfl (Nat.le_of_ble_eq_true rfl) dX10_zero_8 (fun I8 h8 => ?_)
  obtain ⟨C8, S8, f8⟩ := bs_8 hW hC h8
  refine w_aload_0 (pc := 11) dX10_zero_11 ?_
  refine w_aload_0 (pc := 12) dX10_zero_12 ?_
  refine w_getR (pc := 13) (b := (r + 1)) kc10 0 (sBS_in hW.1) hW.1.2.1 rfl hW.1.2.2.1 t299 dX10_zero_13 ?_
  refine w_callV_EI (pc := 16) (c_Plant_setZero hW.2.1 C8.1 hC.2.1.1) ok_X6_setZero t553 t554 kc6 (sP_in0 hW.2.1) (sP_s0 hW.2.1) t552 ⟨Nat.le_of_ble_eq_true rfl, Nat.le_of_ble_eq_true rfl⟩ ⟨rfl, rfl⟩ ⟨Nat.le_refl _, Nat.le_refl _⟩ rfl (Nat.le_of_ble_eq_true rfl) dX10_zero_16 (fun r16 I16 h16 => ?_)
  obtain ⟨q1, q2, q3, q4⟩ := bs_op hW C8 S8 h16.2
  refine w_callV_RI (pc := 19) (c_BS_recorded hW q1 q2 hC.2.1) ok_X10_recorded t489 t5 kc10 (sBS_in hW.1) hW.1.2.1 t487 ⟨Nat.le_of_ble_eq_true rfl, Nat.le_of_ble_eq_true rfl⟩ ⟨rfl, rfl⟩ ⟨Nat.le_refl _, Nat.le_refl _⟩ rfl (Nat.le_of_ble_eq_true rfl) dX10_zero_19 (fun r19 G19 I19 h19 => ?_)
  refine w_iret (pc := 22) rfl ⟨Nat.le_refl _, Nat.le_refl _⟩ dX10_zero_22 ?_
  exact ⟨_, rfl, rfl, rfl, bs_fin hW C8 S8 f8 h16.1 h16.2 oZero_er (opG_mono (g_Zero hC.2.1) (by omega)) h19⟩
set_option maxHeartbeats 4000000 in
set_option maxRecDepth 100000 in
theorem c_BS_correct {g : kG} {σ : kS} {I : kI} {r : Nat} {x : Nat → Nat} (hW : sW g σ r x) {c : kCS} {n0 : Nat} {f : kV} (hC : CR I r x c n0 f) {x1 : Int32} : ct g mX10_correct ⟨6, 0, 0, 132⟩ [.ref r, .int x1] σ I (qRI σ (fun v F I1 => v = (oCorrect c.1 x1).1 ∧ PW g σ r I (stC c (oCorrect c.1 x1)) n0 f F I1)) := by
  refine ct_of pn10 rfl (Nat.le_of_ble_eq_true rfl) ok_X10_correct.1 trivial ?_
  show wp _ _ _ _ _ _ _ _ 0 [some (.ref r), some (.int x1)] []
  refine w_aload_0 (pc := 0) dX10_correct_0 ?_
  refine w_getR (pc := 1) (b := (r + 17)) kc10 1 (sBS_in hW.1) hW.1.2.1 rfl hW.1.2.2.2.1 t300 dX10_correct_1 ?_
  refine w_aload_0 (pc := 4) dX10_correct_4 ?_
  refine w_getR (pc := 5) (b := (r + 1)) kc10 0 (sBS_in hW.1) hW.1.2.1 rfl hW.1.2.2.1 t299 dX10_correct_5 ?_
  refine w_callV_EV (pc := 8) (c_Plant_copyFrom hW.2.2.1 hW.2.1 (by omega) (PR_bool hC.1.2.2.2.2.2.2 hC.2.1.2.1.2.1)) ok_X6_copyFrom t381 t382 kc6 (sP_in0 hW.2.2.1) (sP_s0 hW.2.2.1) t380 ⟨Nat.le_of_ble_eq_true rfl, Nat.le_of_ble_eq_true rfl⟩ ⟨rfl, rfl⟩ ⟨Nat.le_refl _, Nat.le_refl _⟩ rfl (Nat.le_of_ble_eq_true rfl) dX10_correct_8 (fun I8 h8 => ?_)
  obtain ⟨C8, S8, f8⟩ := bs_8 hW hC h8
  refine w_aload_0 (pc := 11) dX10_correct_11 ?_
  refine w_aload_0 (pc := 12) dX10_correct_12 ?_
  refine w_getR (pc := 13) (b := (r + 1)) kc10 0 (sBS_in hW.1) hW.1.2.1 rfl hW.1.2.2.1 t299 dX10_correct_13 ?_
  refine w_iload_1 (pc := 16) dX10_correct_16 ?_
  refine w_callV_EI (pc := 17) (c_Plant_correctBy hW.2.1 C8.1 hC.2.1.1 (KI_bm hC.2.1)) ok_X6_correctBy t563 t564 kc6 (sP_in0 hW.2.1) (sP_s0 hW.2.1) t562 ⟨Nat.le_of_ble_eq_true rfl, Nat.le_of_ble_eq_true rfl⟩ ⟨rfl, rfl⟩ ⟨Nat.le_refl _, Nat.le_refl _⟩ rfl (Nat.le_of_ble_eq_true rfl) dX10_correct_17 (fun r17 I17 h17 => ?_)
  obtain ⟨q1, q2, q3, q4⟩ := bs_op hW C8 S8 h17.2
  refine w_callV_RI (pc := 20) (c_BS_recorded hW q1 q2 hC.2.1) ok_X10_recorded t489 t5 kc10 (sBS_in hW.1) hW.1.2.1 t487 ⟨Nat.le_of_ble_eq_true rfl, Nat.le_of_ble_eq_true rfl⟩ ⟨rfl, rfl⟩ ⟨Nat.le_refl _, Nat.le_refl _⟩ rfl (Nat.le_of_ble_eq_true rfl) dX10_correct_20 (fun r20 G20 I20 h20 => ?_)
  refine w_iret (pc := 23) rfl ⟨Nat.le_refl _, Nat.le_refl _⟩ dX10_correct_23 ?_
  exact ⟨_, rfl, rfl, rfl, bs_fin hW C8 S8 f8 h17.1 h17.2 oCorrect_er (opG_mono (g_Correct hC.2.1 x1) (by omega)) h20⟩
set_option maxHeartbeats 4000000 in
set_option maxRecDepth 100000 in
theorem c_BS_set {g : kG} {σ : kS} {I : kI} {r : Nat} {x : Nat → Nat} (hW : sW g σ r x) {c : kCS} {n0 : Nat} {f : kV} (hC : CR I r x c n0 f) {x1 x2 : Int32} : ct g mX10_set ⟨6, 0, 0, 132⟩ [.ref r, .int x1, .int x2] σ I (qRI σ (fun v F I1 => v = (oSet c.1 x1 x2).1 ∧ PW g σ r I (stC c (oSet c.1 x1 x2)) n0 f F I1)) := by
  refine ct_of pn10 rfl (Nat.le_of_ble_eq_true rfl) ok_X10_set.1 trivial ?_
  show wp _ _ _ _ _ _ _ _ 0 [some (.ref r), some (.int x1), some (.int x2)] []
  refine w_aload_0 (pc := 0) dX10_set_0 ?_
  refine w_getR (pc := 1) (b := (r + 17)) kc10 1 (sBS_in hW.1) hW.1.2.1 rfl hW.1.2.2.2.1 t300 dX10_set_1 ?_
  refine w_aload_0 (pc := 4) dX10_set_4 ?_
  refine w_getR (pc := 5) (b := (r + 1)) kc10 0 (sBS_in hW.1) hW.1.2.1 rfl hW.1.2.2.1 t299 dX10_set_5 ?_
  refine w_callV_EV (pc := 8) (c_Plant_copyFrom hW.2.2.1 hW.2.1 (by omega) (PR_bool hC.1.2.2.2.2.2.2 hC.2.1.2.1.2.1)) ok_X6_copyFrom t381 t382 kc6 (sP_in0 hW.2.2.1) (sP_s0 hW.2.2.1) t380 ⟨Nat.le_of_ble_eq_true rfl, Nat.le_of_ble_eq_true rfl⟩ ⟨rfl, rfl⟩ ⟨Nat.le_refl _, Nat.le_refl _⟩ rfl (Nat.le_of_ble_eq_true rfl) dX10_set_8 (fun I8 h8 => ?_)
  obtain ⟨C8, S8, f8⟩ := bs_8 hW hC h8
  refine w_aload_0 (pc := 11) dX10_set_11 ?_
  refine w_aload_0 (pc := 12) dX10_set_12 ?_
  refine w_getR (pc := 13) (b := (r + 1)) kc10 0 (sBS_in hW.1) hW.1.2.1 rfl hW.1.2.2.1 t299 dX10_set_13 ?_
  refine w_iload_1 (pc := 16) dX10_set_16 ?_
  refine w_iload_2 (pc := 17) dX10_set_17 ?_
  refine w_callV_EI (pc := 18) (c_Plant_changeSetting hW.2.1 C8.1 hC.2.1.1) ok_X6_changeSetting t607 t608 kc6 (sP_in0 hW.2.1) (sP_s0 hW.2.1) t606 ⟨Nat.le_of_ble_eq_true rfl, Nat.le_of_ble_eq_true rfl⟩ ⟨rfl, rfl⟩ ⟨Nat.le_refl _, Nat.le_refl _⟩ rfl (Nat.le_of_ble_eq_true rfl) dX10_set_18 (fun r18 I18 h18 => ?_)
  obtain ⟨q1, q2, q3, q4⟩ := bs_op hW C8 S8 h18.2
  refine w_callV_RI (pc := 21) (c_BS_recorded hW q1 q2 hC.2.1) ok_X10_recorded t489 t5 kc10 (sBS_in hW.1) hW.1.2.1 t487 ⟨Nat.le_of_ble_eq_true rfl, Nat.le_of_ble_eq_true rfl⟩ ⟨rfl, rfl⟩ ⟨Nat.le_refl _, Nat.le_refl _⟩ rfl (Nat.le_of_ble_eq_true rfl) dX10_set_21 (fun r21 G21 I21 h21 => ?_)
  refine w_iret (pc := 24) rfl ⟨Nat.le_refl _, Nat.le_refl _⟩ dX10_set_24 ?_
  exact ⟨_, rfl, rfl, rfl, bs_fin hW C8 S8 f8 h18.1 h18.2 oSet_er (g_Set hC.2.1 x1 x2) h21⟩
set_option maxHeartbeats 4000000 in
set_option maxRecDepth 100000 in
theorem c_BS_account {g : kG} {σ : kS} {I : kI} {r : Nat} {x : Nat → Nat} (hW : sW g σ r x) {c : kCS} {n0 : Nat} {f : kV} (hC : CR I r x c n0 f) {x1 : Int32} : ct g mX10_account ⟨6, 0, 0, 132⟩ [.ref r, .int x1] σ I (qRI σ (fun v F I1 => v = (oAccount c.1 x1).1 ∧ PW g σ r I (stC c (oAccount c.1 x1)) n0 f F I1)) := by
  refine ct_of pn10 rfl (Nat.le_of_ble_eq_true rfl) ok_X10_account.1 trivial ?_
  show wp _ _ _ _ _ _ _ _ 0 [some (.ref r), some (.int x1)] []
  refine w_aload_0 (pc := 0) dX10_account_0 ?_
  refine w_getR (pc := 1) (b := (r + 17)) kc10 1 (sBS_in hW.1) hW.1.2.1 rfl hW.1.2.2.2.1 t300 dX10_account_1 ?_
  refine w_aload_0 (pc := 4) dX10_account_4 ?_
  refine w_getR (pc := 5) (b := (r + 1)) kc10 0 (sBS_in hW.1) hW.1.2.1 rfl hW.1.2.2.1 t299 dX10_account_5 ?_
  refine w_callV_EV (pc := 8) (c_Plant_copyFrom hW.2.2.1 hW.2.1 (by omega) (PR_bool hC.1.2.2.2.2.2.2 hC.2.1.2.1.2.1)) ok_X6_copyFrom t381 t382 kc6 (sP_in0 hW.2.2.1) (sP_s0 hW.2.2.1) t380 ⟨Nat.le_of_ble_eq_true rfl, Nat.le_of_ble_eq_true rfl⟩ ⟨rfl, rfl⟩ ⟨Nat.le_refl _, Nat.le_refl _⟩ rfl (Nat.le_of_ble_eq_true rfl) dX10_account_8 (fun I8 h8 => ?_)
  obtain ⟨C8, S8, f8⟩ := bs_8 hW hC h8
  refine w_aload_0 (pc := 11) dX10_account_11 ?_
  refine w_aload_0 (pc := 12) dX10_account_12 ?_
  refine w_getR (pc := 13) (b := (r + 1)) kc10 0 (sBS_in hW.1) hW.1.2.1 rfl hW.1.2.2.1 t299 dX10_account_13 ?_
  refine w_getR (pc := 16) (b := (r + 1) + 11) kc6 4 (sP_in0 hW.2.1) (sP_s0 hW.2.1) rfl (sP_r0_4 hW.2.1) t176 dX10_account_16 ?_
  refine w_iload_1 (pc := 19) dX10_account_19 ?_
  refine w_callV_EI (pc := 20) (c_Plant_accAdd hW.2.1 C8.1 hC.2.1.1) ok_X0_add t584 t585 kc0 (sP_in hW.2.1 (k := 11) (by decide)) (sP_s11 hW.2.1) t583 ⟨Nat.le_of_ble_eq_true rfl, Nat.le_of_ble_eq_true rfl⟩ ⟨rfl, rfl⟩ ⟨Nat.le_refl _, Nat.le_refl _⟩ rfl (Nat.le_of_ble_eq_true rfl) dX10_account_20 (fun r20 I20 h20 => ?_)
  obtain ⟨q1, q2, q3, q4⟩ := bs_op hW C8 S8 h20.2
  refine w_callV_RI (pc := 23) (c_BS_recorded hW q1 q2 hC.2.1) ok_X10_recorded t489 t5 kc10 (sBS_in hW.1) hW.1.2.1 t487 ⟨Nat.le_of_ble_eq_true rfl, Nat.le_of_ble_eq_true rfl⟩ ⟨rfl, rfl⟩ ⟨Nat.le_refl _, Nat.le_refl _⟩ rfl (Nat.le_of_ble_eq_true rfl) dX10_account_23 (fun r23 G23 I23 h23 => ?_)
  refine w_iret (pc := 26) rfl ⟨Nat.le_refl _, Nat.le_refl _⟩ dX10_account_26 ?_
  exact ⟨_, rfl, rfl, rfl, bs_fin hW C8 S8 f8 h20.1 h20.2 oAccount_er (opG_mono (g_Account hC.2.1 x1) (by omega)) h23⟩
set_option maxHeartbeats 4000000 in
set_option maxRecDepth 100000 in
theorem c_BS_book {g : kG} {σ : kS} {I : kI} {r : Nat} {x : Nat → Nat} (hW : sW g σ r x) {c : kCS} {n0 : Nat} {f : kV} (hC : CR I r x c n0 f) {x1 x2 : Int32} : ct g mX10_book ⟨6, 0, 0, 132⟩ [.ref r, .int x1, .int x2] σ I (qRI σ (fun v F I1 => v = (oBook c.1 x1 x2).1 ∧ PW g σ r I (stC c (oBook c.1 x1 x2)) n0 f F I1)) := by
  refine ct_of pn10 rfl (Nat.le_of_ble_eq_true rfl) ok_X10_book.1 trivial ?_
  show wp _ _ _ _ _ _ _ _ 0 [some (.ref r), some (.int x1), some (.int x2)] []
  refine w_aload_0 (pc := 0) dX10_book_0 ?_
  refine w_getR (pc := 1) (b := (r + 17)) kc10 1 (sBS_in hW.1) hW.1.2.1 rfl hW.1.2.2.2.1 t300 dX10_book_1 ?_
  refine w_aload_0 (pc := 4) dX10_book_4 ?_
  refine w_getR (pc := 5) (b := (r + 1)) kc10 0 (sBS_in hW.1) hW.1.2.1 rfl hW.1.2.2.1 t299 dX10_book_5 ?_
  refine w_callV_EV (pc := 8) (c_Plant_copyFrom hW.2.2.1 hW.2.1 (by omega) (PR_bool hC.1.2.2.2.2.2.2 hC.2.1.2.1.2.1)) ok_X6_copyFrom t381 t382 kc6 (sP_in0 hW.2.2.1) (sP_s0 hW.2.2.1) t380 ⟨Nat.le_of_ble_eq_true rfl, Nat.le_of_ble_eq_true rfl⟩ ⟨rfl, rfl⟩ ⟨Nat.le_refl _, Nat.le_refl _⟩ rfl (Nat.le_of_ble_eq_true rfl) dX10_book_8 (fun I8 h8 => ?_)
  obtain ⟨C8, S8, f8⟩ := bs_8 hW hC h8
  refine w_aload_0 (pc := 11) dX10_book_11 ?_
  refine w_aload_0 (pc := 12) dX10_book_12 ?_
  refine w_getR (pc := 13) (b := (r + 1)) kc10 0 (sBS_in hW.1) hW.1.2.1 rfl hW.1.2.2.1 t299 dX10_book_13 ?_
  refine w_getR (pc := 16) (b := (r + 1) + 11) kc6 4 (sP_in0 hW.2.1) (sP_s0 hW.2.1) rfl (sP_r0_4 hW.2.1) t176 dX10_book_16 ?_
  refine w_iload_1 (pc := 19) dX10_book_19 ?_
  refine w_iload_2 (pc := 20) dX10_book_20 ?_
  refine w_callV_EI (pc := 21) (c_Plant_accAssign hW.2.1 C8.1 hC.2.1.1) ok_X0_assign t598 t599 kc0 (sP_in hW.2.1 (k := 11) (by decide)) (sP_s11 hW.2.1) t597 ⟨Nat.le_of_ble_eq_true rfl, Nat.le_of_ble_eq_true rfl⟩ ⟨rfl, rfl⟩ ⟨Nat.le_refl _, Nat.le_refl _⟩ rfl (Nat.le_of_ble_eq_true rfl) dX10_book_21 (fun r21 I21 h21 => ?_)
  obtain ⟨q1, q2, q3, q4⟩ := bs_op hW C8 S8 h21.2
  refine w_callV_RI (pc := 24) (c_BS_recorded hW q1 q2 hC.2.1) ok_X10_recorded t489 t5 kc10 (sBS_in hW.1) hW.1.2.1 t487 ⟨Nat.le_of_ble_eq_true rfl, Nat.le_of_ble_eq_true rfl⟩ ⟨rfl, rfl⟩ ⟨Nat.le_refl _, Nat.le_refl _⟩ rfl (Nat.le_of_ble_eq_true rfl) dX10_book_24 (fun r24 G24 I24 h24 => ?_)
  refine w_iret (pc := 27) rfl ⟨Nat.le_refl _, Nat.le_refl _⟩ dX10_book_27 ?_
  exact ⟨_, rfl, rfl, rfl, bs_fin hW C8 S8 f8 h21.1 h21.2 oBook_er (opG_mono (g_Book hC.2.1 x1 x2) (by omega)) h24⟩

