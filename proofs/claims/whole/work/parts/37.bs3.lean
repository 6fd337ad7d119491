theorem CR_sp {g : kG} {σ : kS} {r n0 : Nat} {x : Nat → Nat} {I J : kI} {c : kCS} {f : kV} (hW : sW g σ r x) (hC : CR I r x c n0 f) (h : ∀ b, b ≠ r + 100 → b ≠ r + 101 → (b < r + 17 ∨ r + 33 ≤ b) → J b = I b) : CR J r x c n0 f := by
  obtain ⟨c1, c2, c3, c4⟩ := hC
  exact ⟨PR_e c1 c2.1 (fun a x1 x2 => h a (by omega) (by omega) (by omega)), c2, HC_e hW c3 (fun b x1 x2 => h b (by omega) (by omega) (by omega)), TXR_e c4 (h _ (by omega) (by omega) (by omega)) (h _ (by omega) (by omega) (by omega))⟩
theorem lastN_le : ∀ (m : Nat) (s : kV), lastN m s ≤ m
  | 0, _ => Nat.le_refl _
  | m + 1, s => by
    unfold lastN
    split
    · have := lastN_le m (tickS s); omega
    · omega
theorem qLasts_neg {s : kV} : qLasts s < 0 ↔ qLasts s = -1000004 := by
  unfold qLasts
  split
  · exact ⟨fun _ => rfl, fun _ => by decide⟩
  · have h := lastN_le 2000 s
    exact ⟨fun q => absurd q (nI_pos (by omega)), fun q => absurd (q ▸ nI_pos' (by omega) : (0 : Int32) ≤ -1000004) (by decide)⟩
-- undoing
def rotY (x : Nat → Nat) : Nat → Nat := fun i => if i = 3 then x 0 else x (i + 1)
theorem HX_rotY {r : Nat} {x : Nat → Nat} (h : HX r x) : HX r (rotY x) := by
  have e : ∀ i, i < 4 → ∃ k, k < 4 ∧ rotY x i = x k ∧ (i = 3 ∧ k = 0 ∨ i < 3 ∧ k = i + 1) := fun i hi => by
    by_cases q : i = 3
    · exact ⟨0, by omega, by rw [rotY, if_pos q], Or.inl ⟨q, rfl⟩⟩
    · exact ⟨i + 1, by omega, by rw [rotY, if_neg q], Or.inr ⟨by omega, rfl⟩⟩
  refine ⟨fun i hi => ?_, fun i j hi hj q => ?_⟩
  · obtain ⟨k, k1, k2, -⟩ := e i hi
    rw [k2]; exact h.1 k k1
  · obtain ⟨k, k1, k2, k3⟩ := e i hi
    obtain ⟨l, l1, l2, l3⟩ := e j hj
    rw [k2, l2] at q
    have := h.2 k l k1 l1 q
    omega
def unC (c : kCS) : kCS := if c.2.1 = 0 then c else (c.2.2 0, c.2.1 - 1, fun i => c.2.2 (i + 1))
def unV (c : kCS) : Int32 := if c.2.1 = 0 then -1000002 else nI (c.2.1 - 1)
theorem undo_mk {g : kG} {σ : kS} {r n0 : Nat} {x : Nat → Nat} {I I1 : kI} {c : kCS} {f : kV} {F : Nat → Nat → Option Nat} (hW : sW g σ r x) (hC : CR I r x c n0 f) (h1 : c.2.1 ≠ 0)
    (h : (∀ a, a ≠ r + 33 → F a = σ.2.2 a) ∧ F (r + 33) 0 = some (x 1) ∧ F (r + 33) 1 = some (x 2) ∧ F (r + 33) 2 = some (x 3) ∧ F (r + 33) 3 = some (x 0) ∧ (∀ b, b ≠ r + 33 → (b < r + 1 ∨ r + 1 + 16 ≤ b) → I1 b = I b) ∧ (∀ k, k ≠ 4 → I1 (r + 33) k = I (r + 33) k) ∧ I1 (r + 33) 4 = I (r + 33) 4 - 1 ∧ sameP I1 (r + 1) I (x 0)) : sW g (σ.1, σ.2.1, F) r (rotY x) ∧ CR I1 r (rotY x) (unC c) n0 f ∧ (∀ a, a ≠ r + 33 → F a = σ.2.2 a) ∧ (∀ b, (b < r ∨ r + 102 ≤ b) → I1 b = I b) ∧ I1 (r + 33) 4 = nI (c.2.1 - 1) := by
  obtain ⟨a1, a2, a3, a4, a5, a6, a7, a8, a9⟩ := h
  obtain ⟨c1, c2, ⟨d1, d2, d3⟩, c4⟩ := hC
  have e4 : I1 (r + 33) 4 = nI (c.2.1 - 1) := by
    rw [a8, d1]
    exact nx_m1 (by rw [show c.2.1 - 1 + 1 = c.2.1 by omega])
  obtain ⟨p0, k0⟩ := d3 0 (by omega)
  refine ⟨sW_G hW a1 a2 a3 a4 a5 (HX_rotY hW.2.2.2.2.1), ?_, a1, fun b hb => a6 b (by omega) (by omega), e4⟩
  rw [unC, if_neg h1]
  refine ⟨PR_same p0 a9 k0.1, k0, ⟨e4, by show c.2.1 - 1 ≤ 4; omega, fun i hi => ?_⟩, TXR_e c4 (a6 _ (by omega) (by omega)) (a6 _ (by omega) (by omega))⟩
  have hi' : i + 1 < c.2.1 := by have : i < c.2.1 - 1 := hi; omega
  obtain ⟨q1, q2⟩ := d3 (i + 1) hi'
  obtain ⟨-, q3, q4⟩ := sW_x hW (show i + 1 < 4 by omega)
  refine ⟨?_, q2⟩
  show PR I1 (rotY x i) (c.2.2 (i + 1))
  rw [rotY, if_neg (by omega)]
  exact PR_e q1 q2.1 (fun a y1 y2 => a6 a (by omega) (by omega))
-- typing
theorem chr_eq {x : Int32} (h : 32 ≤ x ∧ x ≤ 126) : vp_nar .char ((x.toUInt32 % 65536).toInt32) = x := by
  obtain ⟨j, hj, hy⟩ := nx_rb (l := 32) (m := 126) (by decide) h
  have key : ∀ m, m < 127 → vp_nar .char (((nI m).toUInt32 % 65536).toInt32) = nI m := by decide +kernel
  rw [hy]; exact key _ (by omega)
def tyV (n0 : Nat) (x : Int32) : Int32 := if ¬ (32 ≤ x ∧ x ≤ 126) then -1000001 else if n0 = 60 then -1000003 else nI (n0 + 1)
def tyN (n0 : Nat) (x : Int32) : Nat := if 32 ≤ x ∧ x ≤ 126 ∧ ¬ n0 = 60 then n0 + 1 else n0
def tyF (n0 : Nat) (f : kV) (x : Int32) : kV := if 32 ≤ x ∧ x ≤ 126 ∧ ¬ n0 = 60 then upd f n0 x else f
theorem CR_tx {g : kG} {σ : kS} {r n0 n2 : Nat} {x : Nat → Nat} {I J : kI} {c : kCS} {f f2 : kV} (hW : sW g σ r x) (hC : CR I r x c n0 f) (h : ∀ b, b ≠ r + 98 → b ≠ r + 99 → J b = I b) (ht : TXR J r n2 f2) : CR J r x c n2 f2 := by
  obtain ⟨c1, c2, c3, -⟩ := hC
  exact ⟨PR_e c1 c2.1 (fun a x1 x2 => h a (by omega) (by omega)), c2, HC_e hW c3 (fun b x1 x2 => h b (by omega) (by omega)), ht⟩
-- texts agree as far as they are typed
theorem nmP_cong {tx ty : kV} {n : Nat} (h : ∀ k, k < n → tx k = ty k) : ∀ f p, nmP tx n f p = nmP ty n f p
  | 0, _ => rfl
  | f + 1, p => by
    by_cases hp : p < n
    · rw [nmP, nmP, h p hp, nmP_cong h f (p + 1)]
    · rw [nmP, nmP, if_neg (fun q => hp q.1), if_neg (fun q => hp q.1)]
theorem nmV_cong {tx ty : kV} {n : Nat} (h : ∀ k, k < n → tx k = ty k) : ∀ f p v, nmV tx n f p v = nmV ty n f p v
  | 0, _, _ => rfl
  | f + 1, p, v => by
    by_cases hp : p < n
    · rw [nmV, nmV, h p hp, nmV_cong h f (p + 1)]
    · rw [nmV, nmV, if_neg (fun q => hp q.1), if_neg (fun q => hp q.1)]
theorem at1_cong {tx ty : kV} {n : Nat} (h : ∀ k, k < n → tx k = ty k) (p : Nat) (z : Int32) : at1 tx n p z ↔ at1 ty n p z :=
  ⟨fun q => ⟨q.1, by rw [← h p q.1]; exact q.2⟩, fun q => ⟨q.1, by rw [h p q.1]; exact q.2⟩⟩
theorem ite_cg {α : Type} {c d : Prop} [Decidable c] [Decidable d] (h : c ↔ d) {x y u v : α} (h1 : x = u) (h2 : y = v) : (if c then x else y) = (if d then u else v) := by
  subst h1 h2
  by_cases q : c
  · rw [if_pos q, if_pos (h.mp q)]
  · rw [if_neg q, if_neg (fun w => q (h.mpr w))]
theorem ps_cong {tx ty : kV} {n : Nat} (h : ∀ k, k < n → tx k = ty k) {p : Nat} (hp : p < n) : ps tx n p = ps ty n p := by
  have e0 : ps0 tx n p = ps0 ty n p := by
    unfold ps0
    exact ite_cg (at1_cong h _ _) (by rw [h p hp]) rfl
  have e1 : ps1 tx n p = ps1 ty n p := by
    unfold ps1
    rw [nmP_cong h, nmV_cong h, h p hp]
    exact ite_cg (and_congr Iff.rfl (at1_cong h _ _)) rfl rfl
  have e2 : ps2 tx n p = ps2 ty n p := by
    unfold ps2
    rw [nmP_cong h 4 (p + 1), nmP_cong h, nmV_cong h, nmV_cong h, h p hp]
    exact ite_cg (and_congr Iff.rfl (at1_cong h _ _)) (ite_cg (and_congr Iff.rfl (at1_cong h _ _)) rfl rfl) rfl
  unfold ps
  rw [e0, e1, e2, h p hp]
theorem pl_cong {tx ty : kV} {n : Nat} (h : ∀ k, k < n → tx k = ty k) : ∀ f p s c, pl tx n f p s c = pl ty n f p s c
  | 0, _, _, _ => rfl
  | f + 1, p, s, c => by
    by_cases hp : p < n
    · rw [pl, pl, if_pos hp, if_pos hp, ps_cong h hp]
      cases ps ty n p with
      | none => rfl
      | some q =>
        simp only
        cases hq : cmO s q.1 q.2.1 q.2.2.1 with
        | mk y t =>
          cases t with
          | none => rfl
          | some t => exact pl_cong h f _ _ _
    · rw [pl, pl, if_neg hp, if_neg hp]
def plS (c : kCS) (z : kF3) : kCS := match z with
  | (none, s2, _) => (s2, min (c.2.1 + 1) 4, csH c.1 c.2.2)
  | (some _, _, _) => c
set_option maxHeartbeats 4000000 in
set_option maxRecDepth 100000 in
theorem c_BS_foretell {g : kG} {σ : kS} {I : kI} {r : Nat} {x : Nat → Nat} (hW : sW g σ r x) {c : kCS} {n0 : Nat} {f : kV} (hC : CR I r x c n0 f) (hb0 : 0 < c.1 15) : ct g mX10_foretell ⟨4, 0, 0, 89⟩ [.ref r] σ I (qEI σ (fun v J => v = qLasts c.1 ∧ CR J r x c n0 f ∧ PR J (r + 17) (lastS 2000 c.1) ∧ (∀ b, (b < r ∨ r + 102 ≤ b) → J b = I b))) := by
  refine ct_of pn10 rfl (Nat.le_of_ble_eq_true rfl) ok_X10_foretell.1 trivial ?_
  show wp _ _ _ _ _ _ _ _ 0 [some (.ref r), none] []
  have hCC := hC
  obtain ⟨hR0, hK, hH, hT⟩ := hC
  have hS := hK.1
  refine w_aload_0 (pc := 0) dX10_foretell_0 ?_
  refine w_getR (pc := 1) (b := (r + 17)) kc10 1 (sBS_in hW.1) hW.1.2.1 rfl hW.1.2.2.2.1 t344 dX10_foretell_1 ?_
  refine w_aload_0 (pc := 4) dX10_foretell_4 ?_
  refine w_getR (pc := 5) (b := (r + 1)) kc10 0 (sBS_in hW.1) hW.1.2.1 rfl hW.1.2.2.1 t343 dX10_foretell_5 ?_
  refine w_callV_EV (pc := 8) (c_Plant_copyFrom hW.2.2.1 hW.2.1 (by omega) (PR_bool hR0.2.2.2.2.2.2 hK.2.1.2.1)) ok_X6_copyFrom t364 t365 kc6 (sP_in0 hW.2.2.1) (sP_s0 hW.2.2.1) t363 ⟨Nat.le_of_ble_eq_true rfl, Nat.le_of_ble_eq_true rfl⟩ ⟨rfl, rfl⟩ ⟨Nat.le_refl _, Nat.le_refl _⟩ rfl (Nat.le_of_ble_eq_true rfl) dX10_foretell_8 (fun I8 h8 => ?_)
  obtain ⟨f8, s8⟩ := h8
  have R8 : PR I8 (r + 17) c.1 := PR_same hR0 s8 hS
  refine w_iconst (pc := 11) (v := 1) dX10_foretell_11 (by decide) ?_
  refine w_istore_1 (pc := 12) dX10_foretell_12 rfl ?_
  have L0 : ∀ (n i : Nat) (z : Int32) (t : kV) (J : kI), 1 ≤ i → i ≤ 2001 → 2002 ≤ i + n → z = nI i → PR J (r + 17) t → SX t → SB t → 0 < t 15 → (∀ b, (b < r + 17 ∨ r + 33 ≤ b) → J b = I b) → lastS (2001 - i) t = lastS 2000 c.1 → lastN (2001 - i) t + (i - 1) = lastN 2000 c.1 → wp g mX10_foretell ⟨4, 0, 0, 89⟩ (fun _ => True) (qEI σ (fun v J => v = qLasts c.1 ∧ CR J r x c n0 f ∧ PR J (r + 17) (lastS 2000 c.1) ∧ (∀ b, (b < r ∨ r + 102 ≤ b) → J b = I b))) (0, 0) σ J 13 [some (.ref r), some (.int z)] [] := by
    intro n
    induction n with
    | zero => intro i z t J h0 h1 h2; exact absurd h2 (by omega)
    | succ n ih =>
      intro i z t J h0 h1 h2 hz hR hSt hQ hb hF hls hln
      refine w_iload_1 (pc := 13) dX10_foretell_13 ?_
      refine w_sipush (pc := 14) (v := 2000) dX10_foretell_14 (by decide) ?_
      refine w_icmp_gt (pc := 17) (tgt := 46) dX10_foretell_17 (by decide) (fun c17 => ?_) (fun c17 => ?_)
      · have hi : 2000 < i := (nx_cmp (x := 2000) (a := 2000) rfl (by omega) hz (by omega)).2.1.mp c17
        obtain rfl : i = 2001 := by omega
        refine w_ldc (pc := 46) (v := -1000004) t411 dX10_foretell_46 ?_
        refine w_iret (pc := 48) rfl ⟨Nat.le_refl _, Nat.le_refl _⟩ dX10_foretell_48 ?_
        have e1 : lastS 2000 c.1 = t := hls.symm
        exact ⟨_, rfl, rfl, by rw [qLasts, e1, if_pos hb], CR_sp hW hCC (fun b _ _ hb => hF b hb), by rw [e1]; exact hR, fun b hb => hF b (by omega)⟩
      · have hi : i ≤ 2000 := nx_nlt (a := 2000) c17 rfl (by omega) hz (by omega)
        obtain ⟨k, hk⟩ : ∃ k, 2001 - i = k + 1 := ⟨2000 - i, by omega⟩
        have hk2 : 2001 - (i + 1) = k := by omega
        refine w_aload_0 (pc := 20) dX10_foretell_20 ?_
        refine w_getR (pc := 21) (b := (r + 17)) kc10 1 (sBS_in hW.1) hW.1.2.1 rfl hW.1.2.2.2.1 t344 dX10_foretell_21 ?_
        refine w_callV_EI (pc := 24) (c_Plant_passTick hW.2.2.1 hR hSt hQ) ok_X6_passTick t465 t466 kc6 (sP_in0 hW.2.2.1) (sP_s0 hW.2.2.1) t674 ⟨Nat.le_of_ble_eq_true rfl, Nat.le_of_ble_eq_true rfl⟩ ⟨rfl, rfl⟩ ⟨Nat.le_refl _, Nat.le_refl _⟩ rfl (Nat.le_of_ble_eq_true rfl) dX10_foretell_24 (fun r24 I24 h24 => ?_)
        obtain ⟨-, f24, R24⟩ := h24
        refine w_pop_i (pc := 27) dX10_foretell_27 ?_
        refine w_aload_0 (pc := 28) dX10_foretell_28 ?_
        refine w_getR (pc := 29) (b := (r + 17)) kc10 1 (sBS_in hW.1) hW.1.2.1 rfl hW.1.2.2.2.1 t344 dX10_foretell_29 ?_
        refine w_callV_I (pc := 32) (c_Plant_hasBatch hW.2.2.1) ok_X6_hasBatch t436 t437 kc6 (sP_in0 hW.2.2.1) (sP_s0 hW.2.2.1) t657 ⟨Nat.le_of_ble_eq_true rfl, Nat.le_of_ble_eq_true rfl⟩ ⟨rfl, rfl⟩ ⟨Nat.le_refl _, Nat.le_refl _⟩ rfl (Nat.le_of_ble_eq_true rfl) dX10_foretell_32 ?_
        refine w_if_ne (pc := 35) (tgt := 40) dX10_foretell_35 (by decide) (fun c35 => ?_) (fun c35 => ?_)
        · refine w_iinc_1 (pc := 40) dX10_foretell_40 rfl rfl ?_
          refine w_goto (pc := 43) (tgt := 13) dX10_foretell_43 (by decide) ?_
          have hb2 : 0 < tickS t 15 := by rw [← R24.2.2.2.2.2.2.2.2.1]; exact b1 c35
          exact ih (i + 1) _ (tickS t) I24 (by omega) (by omega) (by omega) (by rw [hz]; exact nI_1 i) R24 (SX_tick hSt) (SB_tick hSt hQ) hb2 (fun b hb => (f24 b (by omega)).trans (hF b hb)) (by rw [← hls, hk, hk2, lastS, if_pos hb]) (by rw [← hln, hk, hk2, lastN, if_pos hb]; omega)
        · refine w_iload_1 (pc := 38) dX10_foretell_38 ?_
          refine w_iret (pc := 39) rfl ⟨Nat.le_refl _, Nat.le_refl _⟩ dX10_foretell_39 ?_
          have hnb : ¬ 0 < tickS t 15 := by rw [← R24.2.2.2.2.2.2.2.2.1]; exact b0 c35
          have e1 : lastS 2000 c.1 = tickS t := by
            rw [← hls, hk, lastS, if_pos hb]
            cases k with
            | zero => rfl
            | succ m => rw [lastS, if_neg hnb]
          have e2 : lastN 2000 c.1 = i := by
            rw [← hln, hk, lastN, if_pos hb]
            cases k with
            | zero => show 0 + 1 + (i - 1) = i; omega
            | succ m => rw [lastN, if_neg hnb]; omega
          refine ⟨_, rfl, rfl, by rw [qLasts, e1, if_neg hnb, e2, hz], CR_sp hW hCC (fun b _ _ hb => (f24 b (by omega)).trans (hF b hb)), by rw [e1]; exact R24, fun b hb => (f24 b (by omega)).trans (hF b (by omega))⟩
  exact L0 2001 1 _ c.1 I8 (Nat.le_refl _) (by omega) (by omega) rfl R8 hS hK.2.1 hb0 (fun b hb => f8 b (by omega)) rfl rfl
set_option maxHeartbeats 4000000 in
set_option maxRecDepth 100000 in
theorem c_BS_batchIn {g : kG} {σ : kS} {I : kI} {r : Nat} {x : Nat → Nat} (hW : sW g σ r x) {c : kCS} {n0 : Nat} {f : kV} (hC : CR I r x c n0 f)  : ct g mX10_batchIn ⟨5, 0, 0, 110⟩ [.ref r] σ I (qEI σ (fun v J => v = qBatchIn c.1 ∧ CR J r x c n0 f ∧ (∀ b, (b < r ∨ r + 102 ≤ b) → J b = I b))) := by
  refine ct_of pn10 rfl (Nat.le_of_ble_eq_true rfl) ok_X10_batchIn.1 trivial ?_
  show wp _ _ _ _ _ _ _ _ 0 [some (.ref r)] []
  have hCC := hC
  obtain ⟨hR0, hK, hH, hT⟩ := hC
  have hS := hK.1
  refine w_aload_0 (pc := 0) dX10_batchIn_0 ?_
  refine w_getR (pc := 1) (b := (r + 1)) kc10 0 (sBS_in hW.1) hW.1.2.1 rfl hW.1.2.2.1 t343 dX10_batchIn_1 ?_
  refine w_callV_I (pc := 4) (c_Plant_hasBatch hW.2.1) ok_X6_hasBatch t436 t437 kc6 (sP_in0 hW.2.1) (sP_s0 hW.2.1) t657 ⟨Nat.le_of_ble_eq_true rfl, Nat.le_of_ble_eq_true rfl⟩ ⟨rfl, rfl⟩ ⟨Nat.le_refl _, Nat.le_refl _⟩ rfl (Nat.le_of_ble_eq_true rfl) dX10_batchIn_4 ?_
  refine w_if_eq (pc := 7) (tgt := 17) dX10_batchIn_7 (by decide) (fun c7 => ?_) (fun c7 => ?_)
  · have hb : ¬ 0 < c.1 15 := by rw [← hR0.2.2.2.2.2.2.2.2.1]; exact b0 c7
    refine w_ldc (pc := 17) (v := -1000002) t675 dX10_batchIn_17 ?_
    refine w_iret (pc := 19) rfl ⟨Nat.le_refl _, Nat.le_refl _⟩ dX10_batchIn_19 ?_
    exact ⟨_, rfl, rfl, by rw [qBatchIn, if_neg hb], hCC, fun _ _ => rfl⟩
  · have hb : 0 < c.1 15 := by rw [← hR0.2.2.2.2.2.2.2.2.1]; exact b1 c7
    refine w_aload_0 (pc := 10) dX10_batchIn_10 ?_
    refine w_callV_EI (pc := 11) (c_BS_foretell hW hCC hb) ok_X10_foretell t672 t6 kc10 (sBS_in hW.1) hW.1.2.1 t670 ⟨Nat.le_of_ble_eq_true rfl, Nat.le_of_ble_eq_true rfl⟩ ⟨rfl, rfl⟩ ⟨Nat.le_refl _, Nat.le_refl _⟩ rfl (Nat.le_of_ble_eq_true rfl) dX10_batchIn_11 (fun r11 I11 h11 => ?_)
    refine w_goto (pc := 14) (tgt := 19) dX10_batchIn_14 (by decide) ?_
    refine w_iret (pc := 19) rfl ⟨Nat.le_refl _, Nat.le_refl _⟩ dX10_batchIn_19 ?_
    exact ⟨_, rfl, rfl, by rw [qBatchIn, if_pos hb]; exact h11.1, h11.2.1, h11.2.2.2⟩
set_option maxHeartbeats 4000000 in
set_option maxRecDepth 100000 in
theorem c_BS_batchOut {g : kG} {σ : kS} {I : kI} {r : Nat} {x : Nat → Nat} (hW : sW g σ r x) {c : kCS} {n0 : Nat} {f : kV} (hC : CR I r x c n0 f)  : ct g mX10_batchOut ⟨5, 0, 0, 110⟩ [.ref r] σ I (qEI σ (fun v J => v = qBatchOut c.1 ∧ CR J r x c n0 f ∧ (∀ b, (b < r ∨ r + 102 ≤ b) → J b = I b))) := by
  refine ct_of pn10 rfl (Nat.le_of_ble_eq_true rfl) ok_X10_batchOut.1 trivial ?_
  show wp _ _ _ _ _ _ _ _ 0 [some (.ref r)] []
  have hCC := hC
  obtain ⟨hR0, hK, hH, hT⟩ := hC
  have hS := hK.1
  refine w_aload_0 (pc := 0) dX10_batchOut_0 ?_
  refine w_getR (pc := 1) (b := (r + 1)) kc10 0 (sBS_in hW.1) hW.1.2.1 rfl hW.1.2.2.1 t343 dX10_batchOut_1 ?_
  refine w_callV_I (pc := 4) (c_Plant_hasBatch hW.2.1) ok_X6_hasBatch t436 t437 kc6 (sP_in0 hW.2.1) (sP_s0 hW.2.1) t657 ⟨Nat.le_of_ble_eq_true rfl, Nat.le_of_ble_eq_true rfl⟩ ⟨rfl, rfl⟩ ⟨Nat.le_refl _, Nat.le_refl _⟩ rfl (Nat.le_of_ble_eq_true rfl) dX10_batchOut_4 ?_
  refine w_if_ne (pc := 7) (tgt := 13) dX10_batchOut_7 (by decide) (fun c7 => ?_) (fun c7 => ?_)
  · have hb : 0 < c.1 15 := by rw [← hR0.2.2.2.2.2.2.2.2.1]; exact b1 c7
    refine w_aload_0 (pc := 13) dX10_batchOut_13 ?_
    refine w_callV_EI (pc := 14) (c_BS_foretell hW hCC hb) ok_X10_foretell t672 t6 kc10 (sBS_in hW.1) hW.1.2.1 t670 ⟨Nat.le_of_ble_eq_true rfl, Nat.le_of_ble_eq_true rfl⟩ ⟨rfl, rfl⟩ ⟨Nat.le_refl _, Nat.le_refl _⟩ rfl (Nat.le_of_ble_eq_true rfl) dX10_batchOut_14 (fun r14 I14 h14 => ?_)
    refine w_ldc (pc := 17) (v := -1000004) t411 dX10_batchOut_17 ?_
    refine w_icmp_ne (pc := 19) (tgt := 27) dX10_batchOut_19 (by decide) (fun c19 => ?_) (fun c19 => ?_)
    · obtain ⟨v14, C14, R14, f14⟩ := h14
      have SL : SX (lastS 2000 c.1) := SX_lastS 2000 hS
      have eB : nB (lastS 2000 c.1) = nB c.1 := by rw [nB, lastS_k (by simp [tkF]) 2000 hS, nB]
      obtain ⟨B1, B2⟩ := SX_B SL
      have hB0 : nB (lastS 2000 c.1) ≠ 0 := by rw [eB]; exact hK.2.1.2.2 hb
      have hm : I14 (r + 17 + 6) 3 = nI (nB (lastS 2000 c.1)) := R14.2.2.1.1.trans B2
      refine w_aload_0 (pc := 27) dX10_batchOut_27 ?_
      refine w_getR (pc := 28) (b := (r + 17)) kc10 1 (sBS_in hW.1) hW.1.2.1 rfl hW.1.2.2.2.1 t344 dX10_batchOut_28 ?_
      refine w_getR (pc := 31) (b := (r + 17) + 6) kc6 2 (sP_in0 hW.2.2.1) (sP_s0 hW.2.2.1) rfl (sP_r0_2 hW.2.2.1) t201 dX10_batchOut_31 ?_
      refine w_callV_I (pc := 34) (c_Bins_massOfPresent (sP_Bins hW.2.2.1) hm B1) ok_X2_massOfPresent t681 t682 kc2 (sP_in hW.2.2.1 (k := 6) (by decide)) (sP_s6 hW.2.2.1) t680 ⟨Nat.le_of_ble_eq_true rfl, Nat.le_of_ble_eq_true rfl⟩ ⟨rfl, rfl⟩ ⟨Nat.le_refl _, Nat.le_refl _⟩ rfl (Nat.le_of_ble_eq_true rfl) dX10_batchOut_34 ?_
      refine w_iret (pc := 37) rfl ⟨Nat.le_refl _, Nat.le_refl _⟩ dX10_batchOut_37 ?_
      have hn : ¬ qLasts c.1 < 0 := fun q => c19 (v14.trans (qLasts_neg.mp q))
      refine ⟨_, rfl, rfl, ?_, C14, f14⟩
      rw [if_neg hB0, qBatchOut, if_neg (fun h : ¬ 0 < c.1 15 => h hb), if_neg hn, qThen, bMass]
      exact sm_cong (fun k hk => by rw [R14.2.2.1.2.1 (nB (lastS 2000 c.1) - 1) k (by omega) hk, if_pos (by omega)])
    · refine w_ldc (pc := 22) (v := -1000004) t411 dX10_batchOut_22 ?_
      refine w_goto (pc := 24) (tgt := 37) dX10_batchOut_24 (by decide) ?_
      refine w_iret (pc := 37) rfl ⟨Nat.le_refl _, Nat.le_refl _⟩ dX10_batchOut_37 ?_
      exact ⟨_, rfl, rfl, by rw [qBatchOut, if_neg (fun h => h hb), if_pos (qLasts_neg.mpr (h14.1.symm.trans c19))], h14.2.1, h14.2.2.2⟩
  · have hb : ¬ 0 < c.1 15 := by rw [← hR0.2.2.2.2.2.2.2.2.1]; exact b0 c7
    refine w_ldc (pc := 10) (v := -1000002) t675 dX10_batchOut_10 ?_
    refine w_iret (pc := 12) rfl ⟨Nat.le_refl _, Nat.le_refl _⟩ dX10_batchOut_12 ?_
    exact ⟨_, rfl, rfl, by rw [qBatchOut, if_pos hb], hCC, fun _ _ => rfl⟩
set_option maxHeartbeats 4000000 in
set_option maxRecDepth 100000 in
theorem c_BS_undo {g : kG} {σ : kS} {I : kI} {r : Nat} {x : Nat → Nat} (hW : sW g σ r x) {c : kCS} {n0 : Nat} {f : kV} (hC : CR I r x c n0 f)  : ct g mX10_undo ⟨5, 0, 0, 111⟩ [.ref r] σ I (qRI σ (fun v F I1 => v = unV c ∧ PW g σ r I (unC c) n0 f F I1)) := by
  refine ct_of pn10 rfl (Nat.le_of_ble_eq_true rfl) ok_X10_undo.1 trivial ?_
  show wp _ _ _ _ _ _ _ _ 0 [some (.ref r)] []
  have hCC := hC
  obtain ⟨hR0, hK, hH, hT⟩ := hC
  have hS := hK.1
  refine w_aload_0 (pc := 0) dX10_undo_0 ?_
  refine w_getR (pc := 1) (b := (r + 33)) kc10 2 (sBS_in hW.1) hW.1.2.1 rfl hW.1.2.2.2.2.1 t345 dX10_undo_1 ?_
  refine w_getI (pc := 4) kc4 4 hW.2.2.2.1.1 hW.2.2.2.1.2.1 rfl t269 dX10_undo_4 ?_
  refine w_if_ne (pc := 7) (tgt := 13) dX10_undo_7 (by decide) (fun c7 => ?_) (fun c7 => ?_)
  · have h1 : c.2.1 ≠ 0 := fun q => c7 (by rw [hH.1, q]; rfl)
    obtain ⟨p0, k0⟩ := hH.2.2 0 (by omega)
    refine w_aload_0 (pc := 13) dX10_undo_13 ?_
    refine w_getR (pc := 14) (b := (r + 33)) kc10 2 (sBS_in hW.1) hW.1.2.1 rfl hW.1.2.2.2.2.1 t345 dX10_undo_14 ?_
    refine w_aload_0 (pc := 17) dX10_undo_17 ?_
    refine w_getR (pc := 18) (b := (r + 1)) kc10 0 (sBS_in hW.1) hW.1.2.1 rfl hW.1.2.2.1 t343 dX10_undo_18 ?_
    refine w_callV_RV (pc := 21) (c_His_pullInto hW.2.2.2.1 (sW_x hW (show 0 < 4 by omega)).1 (sW_x hW (show 3 < 4 by omega)).1 hW.2.1 (by omega) (by have := (sW_x hW (show 0 < 4 by omega)); omega) (PR_bool p0.2.2.2.2.2.2 k0.2.1.2.1)) ok_X4_pullInto t694 t695 kc4 hW.2.2.2.1.1 hW.2.2.2.1.2.1 t693 ⟨Nat.le_of_ble_eq_true rfl, Nat.le_of_ble_eq_true rfl⟩ ⟨rfl, rfl⟩ ⟨Nat.le_refl _, Nat.le_refl _⟩ rfl (Nat.le_of_ble_eq_true rfl) dX10_undo_21 (fun G21 I21 h21 => ?_)
    obtain ⟨u1, u2, u3, u4, u5⟩ := undo_mk hW hCC h1 h21
    have hWo := hW
    have hW := u1
    refine w_aload_0 (pc := 24) dX10_undo_24 ?_
    refine w_getR (pc := 25) (b := (r + 33)) kc10 2 (sBS_in hW.1) hW.1.2.1 rfl hW.1.2.2.2.2.1 t345 dX10_undo_25 ?_
    refine w_getI (pc := 28) kc4 4 hW.2.2.2.1.1 hW.2.2.2.1.2.1 rfl t269 dX10_undo_28 ?_
    refine w_iret (pc := 31) rfl ⟨Nat.le_refl _, Nat.le_refl _⟩ dX10_undo_31 ?_
    exact ⟨_, rfl, rfl, rfl, by rw [unV, if_neg h1]; exact u5, rotY x, hW, u2, u3, u4⟩
  · have h1 : c.2.1 = 0 := (nI_eq (by have := hH.2.1; omega) (by omega)).mp (hH.1.symm.trans c7)
    refine w_ldc (pc := 10) (v := -1000002) t675 dX10_undo_10 ?_
    refine w_iret (pc := 12) rfl ⟨Nat.le_refl _, Nat.le_refl _⟩ dX10_undo_12 ?_
    exact ⟨_, rfl, rfl, rfl, by rw [unV, if_pos h1], x, hW, by rw [unC, if_pos h1]; exact hCC, fun _ _ => rfl, fun _ _ => rfl⟩
set_option maxHeartbeats 4000000 in
set_option maxRecDepth 100000 in
theorem c_BS_type {g : kG} {σ : kS} {I : kI} {r : Nat} {x : Nat → Nat} (hW : sW g σ r x) {c : kCS} {n0 : Nat} {f : kV} (hC : CR I r x c n0 f) {x1 : Int32} : ct g mX10_type ⟨1, 0, 0, 21⟩ [.ref r, .int x1] σ I (qEI σ (fun v J => v = tyV n0 x1 ∧ CR J r x c (tyN n0 x1) (tyF n0 f x1) ∧ (∀ b, (b < r ∨ r + 102 ≤ b) → J b = I b))) := by
  refine ct_of pn10 rfl (Nat.le_of_ble_eq_true rfl) ok_X10_type.1 trivial ?_
  show wp _ _ _ _ _ _ _ _ 0 [some (.ref r), some (.int x1)] []
  have hCC := hC
  obtain ⟨hR0, hK, hH, hT⟩ := hC
  have hS := hK.1
  refine w_iload_1 (pc := 0) dX10_type_0 ?_
  refine w_bipush (pc := 1) (v := 32) dX10_type_1 (by decide) ?_
  refine w_icmp_lt (pc := 3) (tgt := 12) dX10_type_3 (by decide) (fun c3 => ?_) (fun c3 => ?_)
  · refine w_ldc (pc := 12) (v := -1000001) t412 dX10_type_12 ?_
    refine w_iret (pc := 14) rfl ⟨Nat.le_refl _, Nat.le_refl _⟩ dX10_type_14 ?_
    have hr : ¬ (32 ≤ x1 ∧ x1 ≤ 126) := fun h => absurd h.1 (Int32.not_le.mpr c3)
    exact ⟨_, rfl, rfl, by rw [tyV, if_pos hr], by rw [tyN, tyF, if_neg (fun h => hr ⟨h.1, h.2.1⟩), if_neg (fun h => hr ⟨h.1, h.2.1⟩)]; exact hCC, fun _ _ => rfl⟩
  · refine w_iload_1 (pc := 6) dX10_type_6 ?_
    refine w_bipush (pc := 7) (v := 126) dX10_type_7 (by decide) ?_
    refine w_icmp_le (pc := 9) (tgt := 15) dX10_type_9 (by decide) (fun c9 => ?_) (fun c9 => ?_)
    · have hr : 32 ≤ x1 ∧ x1 ≤ 126 := ⟨Int32.not_lt.mp c3, c9⟩
      refine w_aload_0 (pc := 15) dX10_type_15 ?_
      refine w_getR (pc := 16) (b := (r + 98)) kc10 3 (sBS_in hW.1) hW.1.2.1 rfl hW.1.2.2.2.2.2.1 t346 dX10_type_16 ?_
      refine w_getI (pc := 19) kc9 1 hW.2.2.2.2.2.2.1.1 hW.2.2.2.2.2.2.1.2.1 rfl t290 dX10_type_19 ?_
      refine w_bipush (pc := 22) (v := 60) dX10_type_22 (by decide) ?_
      refine w_icmp_lt (pc := 24) (tgt := 30) dX10_type_24 (by decide) (fun c24 => ?_) (fun c24 => ?_)
      · have hn3 : n0 < 60 := (nx_cmp hT.1 (by have := hT.2.1; omega) (y := 60) (b := 60) rfl (by omega)).2.1.mp c24
        refine w_aload_0 (pc := 30) dX10_type_30 ?_
        refine w_getR (pc := 31) (b := (r + 98)) kc10 3 (sBS_in hW.1) hW.1.2.1 rfl hW.1.2.2.2.2.2.1 t346 dX10_type_31 ?_
        refine w_iload_1 (pc := 34) dX10_type_34 ?_
        refine w_i2c (pc := 35) dX10_type_35 ?_
        refine w_callV_V (pc := 36) (c_Text_append hW.2.2.2.2.2.2.1 hT.1 hT.2.1 hn3) ok_X9_append t703 t704 kc9 hW.2.2.2.2.2.2.1.1 hW.2.2.2.2.2.2.1.2.1 t702 ⟨Nat.le_of_ble_eq_true rfl, Nat.le_of_ble_eq_true rfl⟩ ⟨rfl, rfl⟩ ⟨Nat.le_refl _, Nat.le_refl _⟩ rfl (Nat.le_of_ble_eq_true rfl) dX10_type_36 ?_
        rw [chr_eq hr]
        refine w_aload_0 (pc := 39) dX10_type_39 ?_
        refine w_getR (pc := 40) (b := (r + 98)) kc10 3 (sBS_in hW.1) hW.1.2.1 rfl hW.1.2.2.2.2.2.1 t346 dX10_type_40 ?_
        refine w_getI (pc := 43) kc9 1 hW.2.2.2.2.2.2.1.1 hW.2.2.2.2.2.2.1.2.1 rfl t290 dX10_type_43 ?_
        refine w_iret (pc := 46) rfl ⟨Nat.le_refl _, Nat.le_refl _⟩ dX10_type_46 ?_
        have hn4 : ¬ n0 = 60 := by omega
        refine ⟨_, rfl, rfl, by rw [tyV, if_neg (fun h => h hr), if_neg hn4, kst_s, upd_s], ?_, fun b hb => by rw [kst_n (by omega), kst_n (by omega)]⟩
        rw [tyN, tyF, if_pos ⟨hr.1, hr.2, hn4⟩, if_pos ⟨hr.1, hr.2, hn4⟩]
        refine CR_tx hW hCC (fun b q1 q2 => by rw [kst_n q1, kst_n q2]) ⟨by rw [kst_s, upd_s], by omega, fun k hk => ?_, fun k hk => ?_⟩
        · by_cases q : k = n0
          · obtain ⟨j, hj, hy⟩ := nx_rb (l := 32) (m := 126) (by decide) hr
            exact ⟨32 + j, by omega, by omega, by rw [q, upd_s]; exact hy⟩
          · rw [upd_ne q]; exact hT.2.2.1 k (by omega)
        · rw [kst_n (by omega), kst_s]
          by_cases q : k = n0
          · rw [q, upd_s, upd_s]
          · rw [upd_ne q, upd_ne q]; exact hT.2.2.2 k (by omega)
      · have hn3 : n0 = 60 := by have := nx_nlt (b := 60) c24 hT.1 (by have := hT.2.1; omega) rfl (by omega); have := hT.2.1; omega
        refine w_ldc (pc := 27) (v := -1000003) t701 dX10_type_27 ?_
        refine w_iret (pc := 29) rfl ⟨Nat.le_refl _, Nat.le_refl _⟩ dX10_type_29 ?_
        exact ⟨_, rfl, rfl, by rw [tyV, if_neg (fun h => h hr), if_pos hn3], by rw [tyN, tyF, if_neg (fun h => h.2.2 hn3), if_neg (fun h => h.2.2 hn3)]; exact hCC, fun _ _ => rfl⟩
    · refine w_ldc (pc := 12) (v := -1000001) t412 dX10_type_12 ?_
      refine w_iret (pc := 14) rfl ⟨Nat.le_refl _, Nat.le_refl _⟩ dX10_type_14 ?_
      have hr : ¬ (32 ≤ x1 ∧ x1 ≤ 126) := fun h => c9 h.2
      exact ⟨_, rfl, rfl, by rw [tyV, if_pos hr], by rw [tyN, tyF, if_neg (fun h => hr ⟨h.1, h.2.1⟩), if_neg (fun h => hr ⟨h.1, h.2.1⟩)]; exact hCC, fun _ _ => rfl⟩
set_option maxHeartbeats 4000000 in
set_option maxRecDepth 100000 in
theorem c_BS_clearText {g : kG} {σ : kS} {I : kI} {r : Nat} {x : Nat → Nat} (hW : sW g σ r x) {c : kCS} {n0 : Nat} {f : kV} (hC : CR I r x c n0 f)  : ct g mX10_clearText ⟨0, 0, 0, 0⟩ [.ref r] σ I (qEI σ (fun v J => v = nI n0 ∧ CR J r x c 0 f ∧ (∀ b, (b < r ∨ r + 102 ≤ b) → J b = I b))) := by
  refine ct_of pn10 rfl (Nat.le_of_ble_eq_true rfl) ok_X10_clearText.1 trivial ?_
  show wp _ _ _ _ _ _ _ _ 0 [some (.ref r), none] []
  have hCC := hC
  obtain ⟨hR0, hK, hH, hT⟩ := hC
  have hS := hK.1
  refine w_aload_0 (pc := 0) dX10_clearText_0 ?_
  refine w_getR (pc := 1) (b := (r + 98)) kc10 3 (sBS_in hW.1) hW.1.2.1 rfl hW.1.2.2.2.2.2.1 t346 dX10_clearText_1 ?_
  refine w_getI (pc := 4) kc9 1 hW.2.2.2.2.2.2.1.1 hW.2.2.2.2.2.2.1.2.1 rfl t290 dX10_clearText_4 ?_
  refine w_istore_1 (pc := 7) dX10_clearText_7 rfl ?_
  refine w_aload_0 (pc := 8) dX10_clearText_8 ?_
  refine w_getR (pc := 9) (b := (r + 98)) kc10 3 (sBS_in hW.1) hW.1.2.1 rfl hW.1.2.2.2.2.2.1 t346 dX10_clearText_9 ?_
  refine w_iconst (pc := 12) (v := 0) dX10_clearText_12 (by decide) ?_
  refine w_putI (pc := 13) kc9 1 hW.2.2.2.2.2.2.1.1 hW.2.2.2.2.2.2.1.2.1 rfl t290 rfl (tyX9_ok 1 (by decide)) rfl rfl dX10_clearText_13 ?_
  refine w_iload_1 (pc := 16) dX10_clearText_16 ?_
  refine w_iret (pc := 17) rfl ⟨Nat.le_refl _, Nat.le_refl _⟩ dX10_clearText_17 ?_
  refine ⟨_, rfl, rfl, hT.1, CR_tx hW hCC (fun b q1 q2 => kst_n q1) ⟨by rw [kst_s, upd_s]; rfl, by omega, fun k hk => absurd hk (by omega), fun k hk => absurd hk (by omega)⟩, fun b hb => kst_n (by omega)⟩
set_option maxHeartbeats 4000000 in
set_option maxRecDepth 100000 in
theorem c_BS_fault {g : kG} {σ : kS} {I : kI} {r : Nat} {x : Nat → Nat} (hW : sW g σ r x) {c : kCS} {n0 : Nat} {f : kV} (hC : CR I r x c n0 f) {x1 : Int32} : ct g mX10_fault ⟨6, 0, 0, 138⟩ [.ref r, .int x1] σ I (qEI σ (fun v J => v = qFault (pl f n0 61 0 c.1 0) x1 ∧ CR J r x c n0 f ∧ (∀ b, (b < r ∨ r + 102 ≤ b) → J b = I b))) := by
  refine ct_of pn10 rfl (Nat.le_of_ble_eq_true rfl) ok_X10_fault.1 trivial ?_
  show wp _ _ _ _ _ _ _ _ 0 [some (.ref r), some (.int x1)] []
  have hCC := hC
  obtain ⟨hR0, hK, hH, hT⟩ := hC
  have hS := hK.1
  refine w_iload_1 (pc := 0) dX10_fault_0 ?_
  refine w_if_lt (pc := 1) (tgt := 9) dX10_fault_1 (by decide) (fun c1 => ?_) (fun c1 => ?_)
  · refine w_ldc (pc := 9) (v := -1000001) t412 dX10_fault_9 ?_
    refine w_iret (pc := 11) rfl ⟨Nat.le_refl _, Nat.le_refl _⟩ dX10_fault_11 ?_
    exact ⟨_, rfl, rfl, by rw [qFault, if_pos (fun h => absurd h.1 (Int32.not_le.mpr c1))], hCC, fun _ _ => rfl⟩
  · refine w_iload_1 (pc := 4) dX10_fault_4 ?_
    refine w_iconst (pc := 5) (v := 2) dX10_fault_5 (by decide) ?_
    refine w_icmp_le (pc := 6) (tgt := 12) dX10_fault_6 (by decide) (fun c6 => ?_) (fun c6 => ?_)
    · have hr : 0 ≤ x1 ∧ x1 ≤ 2 := ⟨Int32.not_lt.mp c1, c6⟩
      refine w_aload_0 (pc := 12) dX10_fault_12 ?_
      refine w_getR (pc := 13) (b := (r + 100)) kc10 4 (sBS_in hW.1) hW.1.2.1 rfl hW.1.2.2.2.2.2.2 t347 dX10_fault_13 ?_
      refine w_aload_0 (pc := 16) dX10_fault_16 ?_
      refine w_getR (pc := 17) (b := (r + 98)) kc10 3 (sBS_in hW.1) hW.1.2.1 rfl hW.1.2.2.2.2.2.1 t346 dX10_fault_17 ?_
      refine w_aload_0 (pc := 20) dX10_fault_20 ?_
      refine w_getR (pc := 21) (b := (r + 1)) kc10 0 (sBS_in hW.1) hW.1.2.1 rfl hW.1.2.2.1 t343 dX10_fault_21 ?_
      refine w_aload_0 (pc := 24) dX10_fault_24 ?_
      refine w_getR (pc := 25) (b := (r + 17)) kc10 1 (sBS_in hW.1) hW.1.2.1 rfl hW.1.2.2.2.1 t344 dX10_fault_25 ?_
      refine w_callV_EV (pc := 28) (c_Reh_perform (b := r) hW.2.2.2.2.2.2.2 hW.2.2.2.2.2.2.1 hW.2.1 hW.2.2.1 hR0 hK hT.1 hT.2.1 (fun k hk => by obtain ⟨m, m1, m2, m3⟩ := hT.2.2.1 k hk; exact ⟨m, m1, m2, (hT.2.2.2 k hk).trans m3⟩)) ok_X7_perform t715 t716 kc7 hW.2.2.2.2.2.2.2.1 hW.2.2.2.2.2.2.2.2.1 t714 ⟨Nat.le_of_ble_eq_true rfl, Nat.le_of_ble_eq_true rfl⟩ ⟨rfl, rfl⟩ ⟨Nat.le_refl _, Nat.le_refl _⟩ rfl (Nat.le_of_ble_eq_true rfl) dX10_fault_28 (fun I28 h28 => ?_)
      obtain ⟨gA, gB⟩ := h28
      rw [pl_cong (ty := f) hT.2.2.2] at gB
      have CA : CR I28 r x c n0 f := CR_sp hW hCC gA
      have FA : ∀ b, (b < r ∨ r + 102 ≤ b) → I28 b = I b := fun b hb => gA b (by omega) (by omega) (by omega)
      obtain ⟨⟨fo, s2, nn⟩, hpl⟩ : ∃ z, z = pl f n0 61 0 c.1 0 := ⟨_, rfl⟩
      rw [← hpl] at gB ⊢
      refine w_aload_0 (pc := 31) dX10_fault_31 ?_
      refine w_getR (pc := 32) (b := (r + 100)) kc10 4 (sBS_in hW.1) hW.1.2.1 rfl hW.1.2.2.2.2.2.2 t347 dX10_fault_32 ?_
      refine w_getI (pc := 35) kc7 2 hW.2.2.2.2.2.2.2.1 hW.2.2.2.2.2.2.2.2.1 rfl t327 dX10_fault_35 ?_
      refine w_if_ne (pc := 38) (tgt := 44) dX10_fault_38 (by decide) (fun c38 => ?_) (fun c38 => ?_)
      · obtain ⟨p, cs, hfo⟩ : ∃ p cs, fo = some (p, cs) := by
          cases fo with
          | none => exact absurd gB.1 c38
          | some z => exact ⟨z.1, z.2, rfl⟩
        subst hfo
        obtain ⟨gp, gc⟩ := gB
        refine w_iload_1 (pc := 44) dX10_fault_44 ?_
        refine w_if_ne (pc := 45) (tgt := 56) dX10_fault_45 (by decide) (fun c45 => ?_) (fun c45 => ?_)
        · refine w_iload_1 (pc := 56) dX10_fault_56 ?_
          refine w_iconst (pc := 57) (v := 1) dX10_fault_57 (by decide) ?_
          refine w_icmp_ne (pc := 58) (tgt := 69) dX10_fault_58 (by decide) (fun c58 => ?_) (fun c58 => ?_)
          · refine w_aload_0 (pc := 69) dX10_fault_69 ?_
            refine w_getR (pc := 70) (b := (r + 100)) kc10 4 (sBS_in hW.1) hW.1.2.1 rfl hW.1.2.2.2.2.2.2 t347 dX10_fault_70 ?_
            refine w_getI (pc := 73) kc7 2 hW.2.2.2.2.2.2.2.1 hW.2.2.2.2.2.2.2.2.1 rfl t327 dX10_fault_73 ?_
            refine w_iconst (pc := 76) (v := 2) dX10_fault_76 (by decide) ?_
            refine w_icmp_ne (pc := 77) (tgt := 90) dX10_fault_77 (by decide) (fun c77 => ?_) (fun c77 => ?_)
            · refine w_ldc (pc := 90) (v := -1000004) t411 dX10_fault_90 ?_
              refine w_iret (pc := 92) rfl ⟨Nat.le_refl _, Nat.le_refl _⟩ dX10_fault_92 ?_
              refine ⟨_, rfl, rfl, ?_, CA, FA⟩
              rw [qFault, if_neg (fun h => h hr)]
              show _ = (if x1 = 0 then nI p else if x1 = 1 then _ else if cs = 0 then -1000004 else cs)
              rw [if_neg c45, if_neg c58]
              by_cases q : cs = 0
              · rw [if_pos q]
              · rw [if_neg q] at gc; exact absurd gc.1 c77
            · refine w_aload_0 (pc := 80) dX10_fault_80 ?_
              refine w_getR (pc := 81) (b := (r + 100)) kc10 4 (sBS_in hW.1) hW.1.2.1 rfl hW.1.2.2.2.2.2.2 t347 dX10_fault_81 ?_
              refine w_getI (pc := 84) kc7 3 hW.2.2.2.2.2.2.2.1 hW.2.2.2.2.2.2.2.2.1 rfl t329 dX10_fault_84 ?_
              refine w_goto (pc := 87) (tgt := 92) dX10_fault_87 (by decide) ?_
              refine w_iret (pc := 92) rfl ⟨Nat.le_refl _, Nat.le_refl _⟩ dX10_fault_92 ?_
              refine ⟨_, rfl, rfl, ?_, CA, FA⟩
              rw [qFault, if_neg (fun h => h hr)]
              show _ = (if x1 = 0 then nI p else if x1 = 1 then _ else if cs = 0 then -1000004 else cs)
              rw [if_neg c45, if_neg c58]
              by_cases q : cs = 0
              · rw [if_pos q] at gc; rw [gc] at c77; exact absurd c77 (by decide)
              · rw [if_neg q] at gc ⊢; exact gc.2
          · refine w_aload_0 (pc := 61) dX10_fault_61 ?_
            refine w_getR (pc := 62) (b := (r + 100)) kc10 4 (sBS_in hW.1) hW.1.2.1 rfl hW.1.2.2.2.2.2.2 t347 dX10_fault_62 ?_
            refine w_getI (pc := 65) kc7 2 hW.2.2.2.2.2.2.2.1 hW.2.2.2.2.2.2.2.2.1 rfl t327 dX10_fault_65 ?_
            refine w_iret (pc := 68) rfl ⟨Nat.le_refl _, Nat.le_refl _⟩ dX10_fault_68 ?_
            refine ⟨_, rfl, rfl, ?_, CA, FA⟩
            rw [qFault, if_neg (fun h => h hr)]
            show _ = (if x1 = 0 then nI p else if x1 = 1 then (if cs = 0 then 1 else 2) else _)
            rw [if_neg c45, if_pos c58]
            by_cases q : cs = 0
            · rw [if_pos q] at gc ⊢; exact gc
            · rw [if_neg q] at gc ⊢; exact gc.1
        · refine w_aload_0 (pc := 48) dX10_fault_48 ?_
          refine w_getR (pc := 49) (b := (r + 100)) kc10 4 (sBS_in hW.1) hW.1.2.1 rfl hW.1.2.2.2.2.2.2 t347 dX10_fault_49 ?_
          refine w_getI (pc := 52) kc7 1 hW.2.2.2.2.2.2.2.1 hW.2.2.2.2.2.2.2.2.1 rfl t325 dX10_fault_52 ?_
          refine w_iret (pc := 55) rfl ⟨Nat.le_refl _, Nat.le_refl _⟩ dX10_fault_55 ?_
          refine ⟨_, rfl, rfl, ?_, CA, FA⟩
          rw [qFault, if_neg (fun h => h hr)]
          show _ = (if x1 = 0 then nI p else _)
          rw [if_pos c45]; exact gp
      · have hfo : fo = none := by
          cases fo with
          | none => rfl
          | some z =>
            obtain ⟨p, cs⟩ := z
            obtain ⟨-, gc⟩ := gB
            by_cases q : cs = 0
            · rw [if_pos q] at gc; rw [gc] at c38; exact absurd c38 (by decide)
            · rw [if_neg q] at gc; rw [gc.1] at c38; exact absurd c38 (by decide)
        subst hfo
        refine w_ldc (pc := 41) (v := -1000004) t411 dX10_fault_41 ?_
        refine w_iret (pc := 43) rfl ⟨Nat.le_refl _, Nat.le_refl _⟩ dX10_fault_43 ?_
        refine ⟨_, rfl, rfl, ?_, CA, FA⟩
        rw [qFault, if_neg (fun h => h hr)]
    · refine w_ldc (pc := 9) (v := -1000001) t412 dX10_fault_9 ?_
      refine w_iret (pc := 11) rfl ⟨Nat.le_refl _, Nat.le_refl _⟩ dX10_fault_11 ?_
      exact ⟨_, rfl, rfl, by rw [qFault, if_pos (fun h => c6 h.2)], hCC, fun _ _ => rfl⟩
set_option maxHeartbeats 4000000 in
set_option maxRecDepth 100000 in
theorem c_BS_play {g : kG} {σ : kS} {I : kI} {r : Nat} {x : Nat → Nat} (hW : sW g σ r x) {c : kCS} {n0 : Nat} {f : kV} (hC : CR I r x c n0 f)  : ct g mX10_play ⟨6, 0, 0, 138⟩ [.ref r] σ I (qRI σ (fun v F I1 => v = qPlay (pl f n0 61 0 c.1 0) ∧ PW g σ r I (plS c (pl f n0 61 0 c.1 0)) n0 f F I1)) := by
  refine ct_of pn10 rfl (Nat.le_of_ble_eq_true rfl) ok_X10_play.1 trivial ?_
  show wp _ _ _ _ _ _ _ _ 0 [some (.ref r)] []
  have hCC := hC
  obtain ⟨hR0, hK, hH, hT⟩ := hC
  have hS := hK.1
  refine w_aload_0 (pc := 0) dX10_play_0 ?_
  refine w_getR (pc := 1) (b := (r + 100)) kc10 4 (sBS_in hW.1) hW.1.2.1 rfl hW.1.2.2.2.2.2.2 t347 dX10_play_1 ?_
  refine w_aload_0 (pc := 4) dX10_play_4 ?_
  refine w_getR (pc := 5) (b := (r + 98)) kc10 3 (sBS_in hW.1) hW.1.2.1 rfl hW.1.2.2.2.2.2.1 t346 dX10_play_5 ?_
  refine w_aload_0 (pc := 8) dX10_play_8 ?_
  refine w_getR (pc := 9) (b := (r + 1)) kc10 0 (sBS_in hW.1) hW.1.2.1 rfl hW.1.2.2.1 t343 dX10_play_9 ?_
  refine w_aload_0 (pc := 12) dX10_play_12 ?_
  refine w_getR (pc := 13) (b := (r + 17)) kc10 1 (sBS_in hW.1) hW.1.2.1 rfl hW.1.2.2.2.1 t344 dX10_play_13 ?_
  refine w_callV_EV (pc := 16) (c_Reh_perform (b := r) hW.2.2.2.2.2.2.2 hW.2.2.2.2.2.2.1 hW.2.1 hW.2.2.1 hR0 hK hT.1 hT.2.1 (fun k hk => by obtain ⟨m, m1, m2, m3⟩ := hT.2.2.1 k hk; exact ⟨m, m1, m2, (hT.2.2.2 k hk).trans m3⟩)) ok_X7_perform t715 t716 kc7 hW.2.2.2.2.2.2.2.1 hW.2.2.2.2.2.2.2.2.1 t714 ⟨Nat.le_of_ble_eq_true rfl, Nat.le_of_ble_eq_true rfl⟩ ⟨rfl, rfl⟩ ⟨Nat.le_refl _, Nat.le_refl _⟩ rfl (Nat.le_of_ble_eq_true rfl) dX10_play_16 (fun I16 h16 => ?_)
  obtain ⟨gA, gB⟩ := h16
  rw [pl_cong (ty := f) hT.2.2.2] at gB
  have CA : CR I16 r x c n0 f := CR_sp hW hCC gA
  have FA : ∀ b, (b < r ∨ r + 102 ≤ b) → I16 b = I b := fun b hb => gA b (by omega) (by omega) (by omega)
  obtain ⟨⟨fo, s2, nn⟩, hpl⟩ : ∃ z, z = pl f n0 61 0 c.1 0 := ⟨_, rfl⟩
  rw [← hpl] at gB ⊢
  refine w_aload_0 (pc := 19) dX10_play_19 ?_
  refine w_getR (pc := 20) (b := (r + 100)) kc10 4 (sBS_in hW.1) hW.1.2.1 rfl hW.1.2.2.2.2.2.2 t347 dX10_play_20 ?_
  refine w_getI (pc := 23) kc7 2 hW.2.2.2.2.2.2.2.1 hW.2.2.2.2.2.2.2.2.1 rfl t327 dX10_play_23 ?_
  refine w_if_eq (pc := 26) (tgt := 32) dX10_play_26 (by decide) (fun c26 => ?_) (fun c26 => ?_)
  · have hfo : fo = none := by
      cases fo with
      | none => rfl
      | some z =>
        obtain ⟨p, cs⟩ := z
        obtain ⟨-, gc⟩ := gB
        by_cases q : cs = 0
        · rw [if_pos q] at gc; rw [gc] at c26; exact absurd c26 (by decide)
        · rw [if_neg q] at gc; rw [gc.1] at c26; exact absurd c26 (by decide)
    subst hfo
    obtain ⟨-, g4, gR, gK⟩ := gB
    refine w_aload_0 (pc := 32) dX10_play_32 ?_
    refine w_getR (pc := 33) (b := (r + 33)) kc10 2 (sBS_in hW.1) hW.1.2.1 rfl hW.1.2.2.2.2.1 t345 dX10_play_33 ?_
    refine w_aload_0 (pc := 36) dX10_play_36 ?_
    refine w_getR (pc := 37) (b := (r + 1)) kc10 0 (sBS_in hW.1) hW.1.2.1 rfl hW.1.2.2.1 t343 dX10_play_37 ?_
    refine w_callV_RV (pc := 40) (c_His_push hW.2.2.2.1 (sW_x hW (show 0 < 4 by omega)).1 (sW_x hW (show 3 < 4 by omega)).1 hW.2.1 (by omega) (by have := (sW_x hW (show 3 < 4 by omega)); omega) (by have := (sW_x hW (show 3 < 4 by omega)); omega) (PR_bool CA.1.2.2.2.2.2.2 hK.2.1.2.1)) ok_X4_push t414 t415 kc4 hW.2.2.2.1.1 hW.2.2.2.1.2.1 t413 ⟨Nat.le_of_ble_eq_true rfl, Nat.le_of_ble_eq_true rfl⟩ ⟨rfl, rfl⟩ ⟨Nat.le_refl _, Nat.le_refl _⟩ rfl (Nat.le_of_ble_eq_true rfl) dX10_play_40 (fun G40 I40 h40 => ?_)
    obtain ⟨u1, u2, u3, u4⟩ := push_mk hW CA.2.2.1 CA.1 hK h40
    have hWo := hW
    have hW := u1
    have gR2 : PR I40 (r + 17) s2 := PR_e gR gK.1 (fun a y1 y2 => u4 a (by omega))
    refine w_aload_0 (pc := 43) dX10_play_43 ?_
    refine w_getR (pc := 44) (b := (r + 1)) kc10 0 (sBS_in hW.1) hW.1.2.1 rfl hW.1.2.2.1 t343 dX10_play_44 ?_
    refine w_aload_0 (pc := 47) dX10_play_47 ?_
    refine w_getR (pc := 48) (b := (r + 17)) kc10 1 (sBS_in hW.1) hW.1.2.1 rfl hW.1.2.2.2.1 t344 dX10_play_48 ?_
    refine w_callV_EV (pc := 51) (c_Plant_copyFrom hW.2.1 hW.2.2.1 (by omega) (PR_bool gR2.2.2.2.2.2.2 gK.2.1.2.1)) ok_X6_copyFrom t364 t365 kc6 (sP_in0 hW.2.1) (sP_s0 hW.2.1) t363 ⟨Nat.le_of_ble_eq_true rfl, Nat.le_of_ble_eq_true rfl⟩ ⟨rfl, rfl⟩ ⟨Nat.le_refl _, Nat.le_refl _⟩ rfl (Nat.le_of_ble_eq_true rfl) dX10_play_51 (fun I51 h51 => ?_)
    obtain ⟨f51, s51⟩ := h51
    refine w_aload_0 (pc := 54) dX10_play_54 ?_
    refine w_getR (pc := 55) (b := (r + 100)) kc10 4 (sBS_in hW.1) hW.1.2.1 rfl hW.1.2.2.2.2.2.2 t347 dX10_play_55 ?_
    refine w_getI (pc := 58) kc7 4 hW.2.2.2.2.2.2.2.1 hW.2.2.2.2.2.2.2.2.1 rfl t331 dX10_play_58 ?_
    refine w_iret (pc := 61) rfl ⟨Nat.le_refl _, Nat.le_refl _⟩ dX10_play_61 ?_
    refine ⟨_, rfl, rfl, rfl, ?_, rotX x, hW, ⟨PR_same gR2 s51 gK.1, gK, HC_e hW u2 (fun b y1 y2 => f51 b (by omega)), TXR_e CA.2.2.2 ((f51 _ (by omega)).trans (u4 _ (by omega))) ((f51 _ (by omega)).trans (u4 _ (by omega)))⟩, u3, fun b hb => (f51 b (by omega)).trans ((u4 b (by omega)).trans (FA b hb))⟩
    rw [f51 _ (by omega), u4 _ (by omega), g4]; rfl
  · obtain ⟨p, cs, hfo⟩ : ∃ p cs, fo = some (p, cs) := by
      cases fo with
      | none => exact absurd gB.1 c26
      | some z => exact ⟨z.1, z.2, rfl⟩
    subst hfo
    obtain ⟨gp, gc⟩ := gB
    refine w_ldc (pc := 29) (v := -1000002) t675 dX10_play_29 ?_
    refine w_iret (pc := 31) rfl ⟨Nat.le_refl _, Nat.le_refl _⟩ dX10_play_31 ?_
    exact ⟨_, rfl, rfl, rfl, rfl, x, hW, CA, fun _ _ => rfl, FA⟩
