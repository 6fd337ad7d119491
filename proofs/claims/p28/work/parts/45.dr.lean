-- the law's own belt: five arrays at q, and the row they tell
def sL (g : kG) (σ : kS) (q : Nat) : Prop := (kB g ≤ q ∧ q + 5 ≤ σ.1) ∧ σ.2.1 q = (100, 21) ∧ σ.2.1 (q + 1) = (100, 48) ∧ σ.2.1 (q + 2) = (100, 12) ∧ σ.2.1 (q + 3) = (100, 48) ∧ σ.2.1 (q + 4) = (100, 20)
theorem sL_in {g : kG} {σ : kS} {q k : Nat} (h : sL g σ q) (hk : k < 5) : kB g ≤ q + k ∧ q + k < σ.1 := by have := h.1; omega
theorem sL_in0 {g : kG} {σ : kS} {q : Nat} (h : sL g σ q) : kB g ≤ q ∧ q < σ.1 := by have := h.1; omega
def DRm (I : kI) (q : Nat) (s : kV) (M : Nat) : Prop := (∀ k, k < 21 → I q k = s k) ∧ (∀ k, k < 48 → I (q + 1) k = s (21 + k)) ∧ (∀ k, k < M → I (q + 2) k = s (69 + k)) ∧ (∀ k, k < 48 → I (q + 3) k = s (81 + k)) ∧ ∀ k, k < 20 → I (q + 4) k = s (129 + k)
abbrev DRo (I : kI) (q : Nat) (s : kV) : Prop := DRm I q s (2 * nLo s)
def frL (q : Nat) (I J : kI) : Prop := ∀ b, (b < q ∨ q + 5 ≤ b) → J b = I b
theorem frL_r {q : Nat} {I : kI} : frL q I I := fun _ _ => rfl
theorem frL_t {q : Nat} {I J K : kI} (h1 : frL q I J) (h2 : frL q J K) : frL q I K := fun b hb => (h2 b hb).trans (h1 b hb)
theorem frL_k {q a k : Nat} {I J : kI} {x : Int32} (h : frL q I J) (ha : q ≤ a ∧ a < q + 5) : frL q I (kst J a k x) := fun b hb => (kst_n (by omega)).trans (h b hb)
theorem kst_at {I : kI} {a k j : Nat} {x : Int32} : kst I a k x a j = if j = k then x else I a j := by
  rw [kst_s]; by_cases h : j = k
  · rw [h, upd_s, if_pos rfl]
  · rw [upd_ne h, if_neg h]
theorem upd_at {s : kV} {k j : Nat} {x : Int32} : upd s k x j = if j = k then x else s j := by
  by_cases h : j = k
  · rw [h, upd_s, if_pos rfl]
  · rw [upd_ne h, if_neg h]
theorem DRm_g {I : kI} {q M k : Nat} {s : kV} {x : Int32} (h : DRm I q s M) (hk : k < 21) : DRm (kst I q k x) q (upd s k x) M := by
  obtain ⟨d1, d2, d3, d4, d5⟩ := h
  refine ⟨fun j hj => ?_, fun j hj => ?_, fun j hj => ?_, fun j hj => ?_, fun j hj => ?_⟩
  · rw [kst_at, upd_at, d1 j hj]
  · rw [kst_n (by omega), upd_ne (by omega)]; exact d2 j hj
  · rw [kst_n (by omega), upd_ne (by omega)]; exact d3 j hj
  · rw [kst_n (by omega), upd_ne (by omega)]; exact d4 j hj
  · rw [kst_n (by omega), upd_ne (by omega)]; exact d5 j hj
theorem DRm_b {I : kI} {q M k : Nat} {s : kV} {x : Int32} (h : DRm I q s M) (hk : k < 48) : DRm (kst I (q + 1) k x) q (upd s (21 + k) x) M := by
  obtain ⟨d1, d2, d3, d4, d5⟩ := h
  refine ⟨fun j hj => ?_, fun j hj => ?_, fun j hj => ?_, fun j hj => ?_, fun j hj => ?_⟩
  · rw [kst_n (by omega), upd_ne (by omega)]; exact d1 j hj
  · rw [kst_at, upd_at, d2 j hj]
    by_cases e : j = k
    · rw [if_pos e, if_pos (by omega)]
    · rw [if_neg e, if_neg (by omega)]
  · rw [kst_n (by omega), upd_ne (by omega)]; exact d3 j hj
  · rw [kst_n (by omega), upd_ne (by omega)]; exact d4 j hj
  · rw [kst_n (by omega), upd_ne (by omega)]; exact d5 j hj
theorem DRm_h {I : kI} {q M k : Nat} {s : kV} {x : Int32} (h : DRm I q s M) (hM : M ≤ 12) (hk : k < 12) : DRm (kst I (q + 2) k x) q (upd s (69 + k) x) M := by
  obtain ⟨d1, d2, d3, d4, d5⟩ := h
  refine ⟨fun j hj => ?_, fun j hj => ?_, fun j hj => ?_, fun j hj => ?_, fun j hj => ?_⟩
  · rw [kst_n (by omega), upd_ne (by omega)]; exact d1 j hj
  · rw [kst_n (by omega), upd_ne (by omega)]; exact d2 j hj
  · rw [kst_at, upd_at, d3 j hj]
    by_cases e : j = k
    · rw [if_pos e, if_pos (by omega)]
    · rw [if_neg e, if_neg (by omega)]
  · rw [kst_n (by omega), upd_ne (by omega)]; exact d4 j hj
  · rw [kst_n (by omega), upd_ne (by omega)]; exact d5 j hj
theorem DRm_n {I : kI} {q M k : Nat} {s : kV} {x : Int32} (h : DRm I q s M) (hM : M ≤ 12) (hk : k < 48) : DRm (kst I (q + 3) k x) q (upd s (81 + k) x) M := by
  obtain ⟨d1, d2, d3, d4, d5⟩ := h
  refine ⟨fun j hj => ?_, fun j hj => ?_, fun j hj => ?_, fun j hj => ?_, fun j hj => ?_⟩
  · rw [kst_n (by omega), upd_ne (by omega)]; exact d1 j hj
  · rw [kst_n (by omega), upd_ne (by omega)]; exact d2 j hj
  · rw [kst_n (by omega), upd_ne (by omega)]; exact d3 j hj
  · rw [kst_at, upd_at, d4 j hj]
    by_cases e : j = k
    · rw [if_pos e, if_pos (by omega)]
    · rw [if_neg e, if_neg (by omega)]
  · rw [kst_n (by omega), upd_ne (by omega)]; exact d5 j hj
theorem DRm_a {I : kI} {q M k : Nat} {s : kV} {x : Int32} (h : DRm I q s M) (hM : M ≤ 12) (hk : k < 20) : DRm (kst I (q + 4) k x) q (upd s (129 + k) x) M := by
  obtain ⟨d1, d2, d3, d4, d5⟩ := h
  refine ⟨fun j hj => ?_, fun j hj => ?_, fun j hj => ?_, fun j hj => ?_, fun j hj => ?_⟩
  · rw [kst_n (by omega), upd_ne (by omega)]; exact d1 j hj
  · rw [kst_n (by omega), upd_ne (by omega)]; exact d2 j hj
  · rw [kst_n (by omega), upd_ne (by omega)]; exact d3 j hj
  · rw [kst_n (by omega), upd_ne (by omega)]; exact d4 j hj
  · rw [kst_at, upd_at, d5 j hj]
    by_cases e : j = k
    · rw [if_pos e, if_pos (by omega)]
    · rw [if_neg e, if_neg (by omega)]
theorem nLo_u {s : kV} {k : Nat} {x : Int32} (h : k ≠ 13) : nLo (upd s k x) = nLo s := by rw [nLo, upd_ne (Ne.symm h), nLo]
theorem DR_g {I : kI} {q k : Nat} {s : kV} {x : Int32} (h : DRo I q s) (hk : k < 21) (h13 : k ≠ 13) : DRo (kst I q k x) q (upd s k x) := by
  rw [DRo, nLo_u h13]; exact DRm_g h hk
theorem DR_b {I : kI} {q k : Nat} {s : kV} {x : Int32} (h : DRo I q s) (hk : k < 48) : DRo (kst I (q + 1) k x) q (upd s (21 + k) x) := by
  rw [DRo, nLo_u (by omega)]; exact DRm_b h hk
theorem DR_n {I : kI} {q k : Nat} {s : kV} {x : Int32} (h : DRo I q s) (hS : nLo s ≤ 6) (hk : k < 48) : DRo (kst I (q + 3) k x) q (upd s (81 + k) x) := by
  rw [DRo, nLo_u (by omega)]; exact DRm_n h (by omega) hk
theorem DR_a {I : kI} {q k : Nat} {s : kV} {x : Int32} (h : DRo I q s) (hS : nLo s ≤ 6) (hk : k < 20) : DRo (kst I (q + 4) k x) q (upd s (129 + k) x) := by
  rw [DRo, nLo_u (by omega)]; exact DRm_a h (by omega) hk
theorem DR_c {I : kI} {q : Nat} {s t : kV} (h : DRo I q s) (hS : nLo s ≤ 6) (e : ∀ k, k < 149 → t k = s k) : DRo I q t := by
  obtain ⟨d1, d2, d3, d4, d5⟩ := h
  have e13 : nLo t = nLo s := by rw [nLo, e 13 (by omega), nLo]
  refine ⟨fun j hj => ?_, fun j hj => ?_, fun j hj => ?_, fun j hj => ?_, fun j hj => ?_⟩
  · rw [e _ (by omega)]; exact d1 j hj
  · rw [e _ (by omega)]; exact d2 j hj
  · rw [e13] at hj
    rw [e _ (by omega)]; exact d3 j hj
  · rw [e _ (by omega)]; exact d4 j hj
  · rw [e _ (by omega)]; exact d5 j hj
theorem upd_self (s : kV) (k : Nat) : upd s k (s k) = s := by
  funext j; by_cases h : j = k
  · rw [h, upd_s]
  · rw [upd_ne h]
theorem uc {s : kV} {j k : Nat} {x y : Int32} (h : k ≠ j) : upd (upd s j x) k y = upd (upd s k y) j x := by
  funext i
  by_cases h1 : i = k
  · subst h1; rw [upd_s, upd_ne h, upd_s]
  · by_cases h2 : i = j
    · rw [upd_ne h1, h2, upd_s, upd_s]
    · rw [upd_ne h1, upd_ne h2, upd_ne h2, upd_ne h1]
-- masses over places
theorem ms_all {J : kI} {q M : Nat} {s : kV} (h : DRm J q s M) : sm (J (q + 1)) (4 * 0) (4 * (11 + 1 - 0)) = sm s 21 48 := sm_cong (fun k hk => by rw [show 4 * 0 + k = k by omega]; exact h.2.1 k (by omega))
theorem ms_0 {J : kI} {q M : Nat} {s : kV} (h : DRm J q s M) : sm (J (q + 1)) (4 * 0) (4 * (0 + 1 - 0)) = sm s 21 4 := sm_cong (fun k hk => by rw [show 4 * 0 + k = k by omega]; exact h.2.1 k (by omega))
theorem ms_sc {J : kI} {q M : Nat} {s : kV} (h : DRm J q s M) : sm (J (q + 1)) (4 * 4) (4 * (7 + 1 - 4)) = sm s 37 16 := sm_cong (fun k hk => by rw [h.2.1 _ (by omega), ← Nat.add_assoc])
theorem ms_end {J : kI} {q M : Nat} {s : kV} (h : DRm J q s M) : sm (J (q + 1)) (4 * 11) (4 * (11 + 1 - 11)) = sm s 65 4 := sm_cong (fun k hk => by rw [h.2.1 _ (by omega), ← Nat.add_assoc])
theorem ms_pl {J : kI} {q M p : Nat} {s : kV} (h : DRm J q s M) (hp : p < 12) : sm (J (q + 1)) (4 * p) (4 * (p + 1 - p)) = sm s (21 + 4 * p) 4 := by
  rw [show 4 * (p + 1 - p) = 4 by omega]
  exact sm_cong (fun k hk => by rw [h.2.1 _ (by omega)]; congr 1; omega)
-- a method that reads the law's script
def ctX (g : kG) (μ : kM) (R : Room) (as : List Value) (σ : kS) (I : kI) (Q : kP) (b L : Nat) (xs : Nat → Int32) : Prop :=
  Met g.1 μ.1 (.code μ.1 μ.2.1 μ.2.2.1 μ.2.2.2 :: tblG) R (va_Pc as (fun U => (kHold g σ I U U.heap ∧ kST g U) ∧ kX b L xs (kB g) U)) (kQ g Q) R.cells R.slots (kA g)
theorem ctX_of {g : kG} {μ : kM} {R : Room} {Q : kP} {σ : kS} {I : kI} {b L : Nat} {xs : Nat → Int32} {as : List Value} (hy : plainName μ.1.cls = true) (hcat : as.all (fun v => kcat (some v)) = true) (hle : as.length ≤ μ.2.2.1)
    (kk : wp g μ R (kX b L xs (kB g)) Q (0, 0) σ I 0 (as.map some ++ List.replicate (μ.2.2.1 - as.length) none) []) : ctX g μ R as σ I Q b L xs := by
  refine Met.ofW (cc := μ.2.1) (maxL := μ.2.2.1) (ret := μ.2.2.2) hy rfl ?_
  intro p e s m args below meth c s₁ B hml hv
  obtain ⟨rfl, ⟨hH, hST⟩, hX⟩ := hv
  have hts := atoms_spec (ws := Cond.code μ.1 μ.2.1 μ.2.2.1 μ.2.2.2 :: tblG) B.pre
  have hcat' : ∀ v ∈ as, v.category = 1 := fun v hv => kcat1 (List.all_eq_true.mp hcat v hv)
  rw [lg_entry_eq]
  exact kk p e s m _ below meth c s.heap [] _ ⟨⟨B.exec, B.bytes, hml, findClass_of_methodNamed B.named, fun w hw => hts w (List.mem_cons_of_mem _ hw), B.notSynchronized, B.returns, fun h => (name_of_methodNamed B.named B.method).1.trans h, hST⟩, hX, hH, va_S.rf, kLh_entry hcat' hle⟩
theorem kX_moved {g : kG} {b L : Nat} {xs : Nat → Int32} {s U : State} {H : Heap} {locs : List Loc} (hS : va_S (kA g) s.heap H locs) (h : kX b L xs (kB g) s) (hU : U.heap = H) (hW : s.WarmedH U.vm) : kX b L xs (kB g) U := by
  obtain ⟨h1, h2, h3⟩ := h
  have hb : ¬ kA g b := by simp [kA]; exact h3
  refine ⟨va_X.moved hW.alike (by rw [hU]; exact h1.kept (hS.2.1 b h2 hb)), by rw [hU]; exact Nat.lt_of_lt_of_le h2 hS.1, h3⟩
theorem kBlindX {g : kG} {as : List Value} {σ : kS} {I : kI} {b L : Nat} {xs : Nat → Int32} : FrameBlind (va_Pc as (fun U => (kHold g σ I U U.heap ∧ kST g U) ∧ kX b L xs (kB g) U)) := by
  intro a U f mk hh
  obtain ⟨h1, h2, h3, h4, h5⟩ := hh
  obtain ⟨k1, k2⟩ := kBlind (g := g) (as := as) (σ := σ) (I := I) a U f mk ⟨h1, h2⟩
  exact ⟨k1, k2, va_X.moved (u := U) (U := U.calling f mk a) (Vm.Alike.refl U.vm) h3, h4, h5⟩
theorem w_callSX {g : kG} {μ : kM} {R : Room} {E : State → Prop} {Q : kP} {n : Nat × Nat} {σ : kS} {I : kI} {pc : Nat} {loc : List (Option Value)} {st : List Value} {b L : Nat} {xs : Nat → Int32} {μ' : kM} {R' : Room} {as stk : List Value} {i : Nat} {P : Int32 → kI → Prop} (hE : ∀ s, E s → kX b L xs (kB g) s) (hct : ctX g μ' R' as σ I (qEI σ P) b L xs) (hok : kOK μ' as.length) (hin : Cond.static μ'.1 ∈ tblG) (hl : Cond.methodLink μ.1.cls i μ'.1 ∈ tblG) (hR : R'.frames + 1 ≤ R.frames ∧ 8 + (μ'.2.2.1 + 11) + R'.locals ≤ R.locals) (hz : R'.cells = 0 ∧ R'.slots = 0) (hnn : n.1 ≤ R.cells ∧ n.2 ≤ R.slots) (hstk : stk = as.reverse ++ st) (hW : (st.map fun v => v.category).sum ≤ 8) (hd : decode μ.2.1 pc = .ok (.invokestatic i, 3)) (kk : ∀ r I0, P r I0 → wp g μ R E Q n σ I0 (pc + 3) loc (.int r :: st)) : wp g μ R E Q n σ I pc loc stk := by
  intro p e s m args below meth c H locs ls h
  have S : CallFix p m c μ.2.1 μ.2.2.1 s args tblG μ.1.cls := ⟨h.1.1, h.1.2.1, h.1.2.2.1, h.1.2.2.2.1, h.1.2.2.2.2.1⟩
  have hp : PreS s H (va_Pc as (fun U => (kHold g σ I U U.heap ∧ kST g U) ∧ kX b L xs (kB g) U)) as := ⟨kBlindX, fun U hU hW => ⟨rfl, ((kPre (μ' := μ') (as := as) h).2 U hU hW).2, kX_moved h.2.2.2.1 (hE s h.2.1) hU hW⟩⟩
  refine kCall (Q' := qEI σ P) (σ' := σ) (I' := I) (μ' := μ') (R' := R') (as := as) (W' := fun _ => True) h (va_runS S hct ⟨kCB h.1 hok hl hR, h.1.2.2.2.2.1 _ hin⟩ hp rfl rfl h.2.2.2.2.1 hstk (by show 2 * 0 + _ ≤ 8; omega) hd ⟨by rw [hz.1]; exact hnn.1, by rw [hz.2]; exact hnn.2⟩) (fun v σ' I' hq => ?_)
  obtain ⟨r, rfl, rfl, hpp⟩ := hq
  rw [hz.1, hz.2, Nat.add_zero, Nat.add_zero]
  exact kk r _ hpp
set_option maxHeartbeats 4000000 in
set_option maxRecDepth 100000 in
theorem c_L_cell {g : kG} {σ : kS} {I : kI} {b L k : Nat} {xs : Nat → Int32} {z : Int32} (hL : L < 2 ^ 20) (hz : z = nI k) (hk2 : k < 2 ^ 20) : ctX g mL_cell ⟨0, 0, 0, 0⟩ [.ref b, .int z] σ I (qEI σ (fun _ J => J = I)) b L xs := by
  refine ctX_of pnL rfl (Nat.le_of_ble_eq_true rfl) ?_
  show wp _ _ _ _ _ _ _ _ 0 [some (.ref b), some (.int z)] []
  refine w_iload_1 (pc := 0) dL_cell_0 ?_
  refine w_aload_0 (pc := 1) dL_cell_1 ?_
  refine w_slen (pc := 2) (b := b) (L := L) (xs := xs) (fun _ h => h) dL_cell_2 ?_
  refine w_icmp_ge (pc := 3) (tgt := 12) dL_cell_3 (by decide) (fun c3 => ?_) (fun c3 => ?_)
  · refine w_ldc (pc := 12) (v := 40503) t355 dL_cell_12 ?_
    refine w_iload_1 (pc := 14) dL_cell_14 ?_
    refine w_iconst (pc := 15) (v := 3) dL_cell_15 (by decide) ?_
    refine w_iadd (pc := 16) dL_cell_16 ?_
    refine w_imul (pc := 17) dL_cell_17 ?_
    refine w_iret (pc := 18) rfl ⟨Nat.le_refl _, Nat.le_refl _⟩ dL_cell_18 ?_
    exact ⟨_, rfl, rfl, rfl⟩
  · have hk : k < L := nx_nle c3 (rfl : nI L = nI L) (by omega) hz (by omega)
    refine w_aload_0 (pc := 6) dL_cell_6 ?_
    refine w_iload_1 (pc := 7) dL_cell_7 ?_
    refine w_sld (pc := 8) (b := b) (L := L) (xs := xs) (j := k) (fun _ h => h) hz hk (by omega) dL_cell_8 ?_
    refine w_goto (pc := 9) (tgt := 18) dL_cell_9 (by decide) ?_
    refine w_iret (pc := 18) rfl ⟨Nat.le_refl _, Nat.le_refl _⟩ dL_cell_18 ?_
    exact ⟨_, rfl, rfl, rfl⟩
set_option maxHeartbeats 4000000 in
set_option maxRecDepth 100000 in
theorem c_L_low {g : kG} {σ : kS} {I : kI} {v x : Int32} {m : Nat} (hx : x = nI m) (h0 : 0 < m) (hm : m < 2 ^ 31) : ct g mL_low ⟨0, 0, 0, 0⟩ [.int v, .int x] σ I (qEI σ (fun r J => J = I ∧ ∃ j, j < m ∧ r = nI j)) := by
  refine ct_of pnL rfl (Nat.le_of_ble_eq_true rfl) ok_L_low.1 trivial ?_
  show wp _ _ _ _ _ _ _ _ 0 [some (.int v), some (.int x)] []
  refine w_iload_0 (pc := 0) dL_low_0 ?_
  refine w_ldc (pc := 1) (v := 2147483647) t359 dL_low_1 ?_
  refine w_iand (pc := 3) dL_low_3 ?_
  refine w_iload_1 (pc := 4) dL_low_4 ?_
  refine w_irem (pc := 5) dL_low_5 (by rw [hx]; exact fun e => absurd ((nI_eq hm (b := 0) (by omega)).mp e) (by omega)) ?_
  refine w_iret (pc := 6) rfl ⟨Nat.le_refl _, Nat.le_refl _⟩ dL_low_6 ?_
  refine ⟨_, rfl, rfl, rfl, ?_⟩
  rw [pk_and v 31 rfl, hx, pk_rem (Nat.mod_lt _ (by decide)) h0 hm]
  exact ⟨_, Nat.mod_lt _ h0, rfl⟩
set_option maxHeartbeats 4000000 in
set_option maxRecDepth 100000 in
theorem c_L_mass {g : kG} {σ : kS} {I : kI} {a f t : Nat} {x y : Int32} (ha : kB g ≤ a ∧ a < σ.1) (hs : σ.2.1 a = (100, 48)) (hx : x = nI f) (hy : y = nI t) (hf : f ≤ t) (ht : t ≤ 11) : ct g mL_mass ⟨0, 0, 0, 0⟩ [.ref a, .int x, .int y] σ I (qI (sm (I a) (4 * f) (4 * (t + 1 - f))) σ I) := by
  refine ct_of pnL rfl (Nat.le_of_ble_eq_true rfl) ok_L_mass.1 trivial ?_
  show wp _ _ _ _ _ _ _ _ 0 [some (.ref a), some (.int x), some (.int y), none, none] []
  have h43 : 4 * y + 3 = nI (4 * t + 3) := by rw [hy, show (4 : Int32) = nI 4 from rfl, pk_mul]; exact nI_add (4 * t) 3
  refine w_iconst (pc := 0) (v := 0) dL_mass_0 (by decide) ?_
  refine w_istore_3 (pc := 1) dL_mass_1 rfl ?_
  refine w_iconst (pc := 2) (v := 4) dL_mass_2 (by decide) ?_
  refine w_iload_1 (pc := 3) dL_mass_3 ?_
  refine w_imul (pc := 4) dL_mass_4 ?_
  refine w_istore_4 (pc := 5) dL_mass_5 rfl ?_
  have L0 : ∀ (n i : Nat) (v z : Int32), 4 * f ≤ i → i ≤ 4 * t + 4 → 4 * t + 5 ≤ i + n → z = nI i → v = sm (I a) (4 * f) (i - 4 * f) → wp g mL_mass ⟨0, 0, 0, 0⟩ (fun _ => True) (qI (sm (I a) (4 * f) (4 * (t + 1 - f))) σ I) (0, 0) σ I 7 [some (.ref a), some (.int x), some (.int y), some (.int v), some (.int z)] [] := by
    intro n
    induction n with
    | zero => intro i v z h1 h2 h3; exact absurd h3 (by omega)
    | succ n ih =>
      intro i v z h1 h2 h3 hz hv
      refine w_iload_4 (pc := 7) dL_mass_7 ?_
      refine w_iconst (pc := 9) (v := 4) dL_mass_9 (by decide) ?_
      refine w_iload_2 (pc := 10) dL_mass_10 ?_
      refine w_imul (pc := 11) dL_mass_11 ?_
      refine w_iconst (pc := 12) (v := 3) dL_mass_12 (by decide) ?_
      refine w_iadd (pc := 13) dL_mass_13 ?_
      refine w_icmp_gt (pc := 14) (tgt := 30) dL_mass_14 (by decide) (fun c14 => ?_) (fun c14 => ?_)
      · have hi : 4 * t + 3 < i := (nx_cmp h43 (by omega) hz (by omega)).2.1.mp c14
        obtain rfl : i = 4 * t + 4 := by omega
        refine w_iload_3 (pc := 30) dL_mass_30 ?_
        refine w_iret (pc := 31) rfl ⟨Nat.le_refl _, Nat.le_refl _⟩ dL_mass_31 ?_
        refine ⟨?_, rfl, rfl⟩
        rw [hv, show 4 * t + 4 - 4 * f = 4 * (t + 1 - f) by omega]
      · have hi : i ≤ 4 * t + 3 := nx_nlt c14 h43 (by omega) hz (by omega)
        refine w_iload_3 (pc := 17) dL_mass_17 ?_
        refine w_aload_0 (pc := 18) dL_mass_18 ?_
        refine w_iload_4 (pc := 19) dL_mass_19 ?_
        refine w_iald (pc := 21) (j := i) ha hs hz (by omega) (by decide) dL_mass_21 ?_
        refine w_iadd (pc := 22) dL_mass_22 ?_
        refine w_istore_3 (pc := 23) dL_mass_23 rfl ?_
        refine w_iinc_4 (pc := 24) dL_mass_24 rfl rfl ?_
        refine w_goto (pc := 27) (tgt := 7) dL_mass_27 (by decide) ?_
        exact ih (i + 1) _ _ (by omega) (by omega) (by omega) (by rw [hz]; exact nI_1 i) (by rw [hv, show i + 1 - 4 * f = (i - 4 * f) + 1 by omega, sm_succ, show 4 * f + (i - 4 * f) = i by omega])
  exact L0 (4 * t + 5) (4 * f) _ _ (by omega) (by omega) (by omega) (by rw [hx, show (4 : Int32) = nI 4 from rfl, pk_mul]) (by rw [Nat.sub_self]; rfl)
