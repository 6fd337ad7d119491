theorem CR_ext {g : kG} {σ : kS} {I J : kI} {r n0 : Nat} {x : Nat → Nat} {c : kCS} {f : kV} (hW : sW g σ r x) (hC : CR I r x c n0 f) (e : ∀ a, r ≤ a → a < r + 102 → J a = I a) : CR J r x c n0 f := by
  obtain ⟨c1, c2, c3, c4⟩ := hC
  exact ⟨PR_e c1 c2.1 (fun a x1 x2 => e a (by omega) (by omega)), c2, HC_e hW c3 (fun b x1 x2 => e b (by omega) (by omega)), TXR_e c4 (e _ (by omega) (by omega)) (e _ (by omega) (by omega))⟩
theorem DR_out {I J : kI} {q : Nat} {s : kV} (h : DRo I q s) (e : ∀ b, q ≤ b → J b = I b) : DRo J q s := by
  obtain ⟨d1, d2, d3, d4, d5⟩ := h
  refine ⟨?_, ?_, ?_, ?_, ?_⟩
  · rw [e q (by omega)]; exact d1
  · rw [e _ (by omega)]; exact d2
  · rw [e _ (by omega)]; exact d3
  · rw [e _ (by omega)]; exact d4
  · rw [e _ (by omega)]; exact d5
-- the class and the law's own belt side by side, before and behind a call of the law's own
def LSd (g : kG) (σ : kS) (r q : Nat) (I : kI) (T : Int) : Prop := ∃ (x : Nat → Nat) (c : kCS) (f : kV), sW g σ r x ∧ CR I r x c 0 f ∧ LI c.1 ∧ sL g σ q ∧ DRo I q c.1 ∧ (c.1 2).toInt ≤ T
theorem LSd_n {g : kG} {σ : kS} {r q : Nat} {J I1 : kI} {T : Int} {c : kCS} {f : kV} {o : kO} {F : Nat → Nat → Option Nat} (hq : q = r + 102) (hP : PW g σ r J (stC c o) 0 f F I1) (hL : sL g σ q) (hD : DRo J q c.1) (hI : LI c.1) (hT : (c.1 2).toInt ≤ T) (ho : o.2 = none) : LSd g (σ.1, σ.2.1, F) r q I1 T := by
  obtain ⟨x, w, cr, -, fr⟩ := hP
  have e : stC c o = c := by unfold stC; rw [ho]
  rw [e] at cr
  exact ⟨x, c, f, w, cr, hI, hL, DR_out hD (fun b hb => fr b (by omega)), hT⟩
theorem LSd_s {g : kG} {σ : kS} {r q : Nat} {J I1 : kI} {T : Int} {c : kCS} {f : kV} {o : kO} {t : kV} {F : Nat → Nat → Option Nat} (hq : q = r + 102) (hP : PW g σ r J (stC c o) 0 f F I1) (hL : sL g σ q) (hD : DRo J q t) (hI : LI t) (hT : (t 2).toInt ≤ T) (ho : o.2 = some t) : LSd g (σ.1, σ.2.1, F) r q I1 T := by
  obtain ⟨x, w, cr, -, fr⟩ := hP
  have e : (stC c o).1 = t := by unfold stC; rw [ho]
  exact ⟨x, stC c o, f, w, cr, by rw [e]; exact hI, hL, by rw [e]; exact DR_out hD (fun b hb => fr b (by omega)), by rw [e]; exact hT⟩
theorem nI_rg {a b n : Nat} (h1 : a ≤ n) (h2 : n ≤ b) (hb : b < 2 ^ 31) : nI a ≤ nI n ∧ nI n ≤ nI b := ⟨(nI_leI (by omega) (by omega)).mpr h1, (nI_leI (by omega) hb).mpr h2⟩
theorem op_run {s : kV} (hI : LI s) {z : Int32} (hz : z = 0 ∨ z = 1) : (0 < s 15 → oRun s z = (-1000002, none)) ∧ (¬ 0 < s 15 → oRun s z = (s 1, some (upd s 1 z)) ∧ LI (upd s 1 z)) := by
  have c : ¬ ¬ (0 ≤ z ∧ z ≤ 1) := by rcases hz with rfl | rfl <;> decide
  refine ⟨fun h => by unfold oRun; rw [if_neg c, if_pos h], fun h => ?_⟩
  have e : oRun s z = (s 1, some (upd s 1 z)) := by unfold oRun; rw [if_neg c, if_neg h]
  exact ⟨e, LI_u hI (g_Run hI.1 z _ _ e).2.1 (by simp [cvI, zI])⟩
theorem op_gate {s : kV} (hI : LI s) {z : Int32} {n : Nat} (hz : z = nI n) (hn : n ≤ 200) : oGate s z = (s 0, some (upd s 0 z)) ∧ LI (upd s 0 z) := by
  have c : ¬ ¬ (0 ≤ z ∧ z ≤ 200) := fun h => h (by rw [hz]; exact nI_rg (a := 0) (b := 200) (by omega) hn (by omega))
  have e : oGate s z = (s 0, some (upd s 0 z)) := by unfold oGate; rw [if_neg c]
  exact ⟨e, LI_u hI (g_Gate hI.1 z _ _ e).2.1 (by simp [cvI, zI])⟩
theorem op_batch {s : kV} (hI : LI s) {m : Int32} {n : Nat} (hm : m = nI n) (h1 : 1 ≤ n) (h2 : n ≤ 9999) : ((0 < s 15 ∨ s 12 = 0) → oBatch s m = (-1000002, none)) ∧ (¬ (0 < s 15 ∨ s 12 = 0) → oBatch s m = (sm s 21 48, some (upd (upd (upd (upd s 15 m) 16 0) 17 0) 1 0)) ∧ LI (upd (upd (upd (upd s 15 m) 16 0) 17 0) 1 0)) := by
  have c : ¬ ¬ (1 ≤ m ∧ m ≤ 9999) := fun h => h (by rw [hm]; exact nI_rg (a := 1) (b := 9999) h1 h2 (by omega))
  refine ⟨fun h => by unfold oBatch; rw [if_neg c, if_pos h], fun h => ?_⟩
  have e : oBatch s m = (sm s 21 48, some (upd (upd (upd (upd s 15 m) 16 0) 17 0) 1 0)) := by unfold oBatch; rw [if_neg c, if_neg h]
  have hK := (g_Batch hI.1 m _ _ e).2.1
  have ek : ∀ k, k ≠ 15 → k ≠ 16 → k ≠ 17 → k ≠ 1 → upd (upd (upd (upd s 15 m) 16 0) 17 0) 1 0 k = s k := fun k h1 h2 h3 h4 => by rw [upd_ne h4, upd_ne h3, upd_ne h2, upd_ne h1]
  obtain ⟨i1, i2, i3, i4⟩ := hI
  refine ⟨e, hK, CV_c i1.1 i2 (fun k hk => ?_), TB_c i3 (fun k hk => ek k (by omega) (by omega) (by omega) (by omega)), Or.inr ?_⟩
  · simp only [cvI, zI] at hk; exact ek k (by omega) (by omega) (by omega) (by omega)
  · rw [upd_ne (by omega), upd_ne (by omega), upd_ne (by omega), upd_s, hm]
    exact Int32.not_le.mp (nI_pos3 h1 (by omega))
theorem op_zero {s : kV} (hI : LI s) : ((s 8 < 4 ∧ 0 < sm s 37 16) → oZero s = (-1000002, none)) ∧ (¬ (s 8 < 4 ∧ 0 < sm s 37 16) → oZero s = (s 4 + 1000000, some (upd s 4 (sm s 37 16 + s 3))) ∧ LI (upd s 4 (sm s 37 16 + s 3))) := by
  refine ⟨fun h => by unfold oZero; rw [if_pos h], fun h => ?_⟩
  have e : oZero s = (s 4 + 1000000, some (upd s 4 (sm s 37 16 + s 3))) := by unfold oZero; rw [if_neg h]
  exact ⟨e, LI_u hI (g_Zero hI.1 _ _ e).2.1 (by simp [cvI, zI])⟩
theorem op_set {s : kV} (hI : LI s) {w v : Int32} {k : Nat} (hw : w = nI k) (hk : k < 3) (hv : (if w = 2 then (-9 : Int32) else 1) ≤ v ∧ v ≤ (if w = 0 then (500 : Int32) else if w = 1 then 99 else 9)) : oSet s w v = (s (18 + k), some (upd s (18 + k) v)) ∧ LI (upd s (18 + k) v) := by
  have c : ¬ ¬ ((0 ≤ w ∧ w ≤ 2) ∧ ((if w = 2 then (-9 : Int32) else 1) ≤ v ∧ v ≤ (if w = 0 then (500 : Int32) else if w = 1 then 99 else 9))) := fun h => h ⟨by rw [hw]; exact nI_rg (a := 0) (b := 2) (by omega) (by omega) (by omega), hv⟩
  have e : oSet s w v = (s (18 + k), some (upd s (18 + k) v)) := by unfold oSet; rw [if_neg c, tn_of hw (by omega)]
  exact ⟨e, LI_u hI (g_Set hI.1 w v _ _ e).2.1 (by simp only [cvI, zI]; omega)⟩
theorem op_book {s : kV} (hI : LI s) {κ a : Int32} {k n : Nat} (hκ : κ = nI k) (hk : k < 4) (ha : a = nI n) (hn : n < nAc s) : oBook s κ a = (s (145 + k), some (upd s (145 + k) a)) ∧ LI (upd s (145 + k) a) := by
  obtain ⟨a1, a2, a3, -⟩ := SX_A hI.1.1
  have c : ¬ ¬ ((0 ≤ κ ∧ κ ≤ 3) ∧ (0 ≤ a ∧ a < s 14)) := fun h => h ⟨by rw [hκ]; exact nI_rg (a := 0) (b := 3) (by omega) (by omega) (by omega), by rw [ha]; exact nI_pos' (by omega), by rw [ha, a3]; exact (nI_ltI (by omega) (by omega)).mpr hn⟩
  have e : oBook s κ a = (s (145 + k), some (upd s (145 + k) a)) := by unfold oBook; rw [if_neg c, tn_of hκ (by omega)]
  exact ⟨e, LI_u hI (g_Book hI.1 κ a _ _ e).2.1 (by simp only [cvI, zI]; omega)⟩
theorem op_tick {s : kV} (hI : LI s) {m : Int32} {n : Nat} (hm : m = nI n) (h1 : 1 ≤ n) (h2 : n ≤ 60) (ht : (s 2).toInt ≤ 3900) : oTick s m = (tickN s n 11 - s 11, some (tickN s n)) ∧ LI (tickN s n) ∧ (tickN s n 2).toInt = (s 2).toInt + n := by
  have t0 := hI.1.2.2.1.1
  have mi : m.toInt = n := nx_ti hm (by omega)
  have c : ¬ ¬ (1 ≤ m ∧ m ≤ 200) := fun h => h (by rw [hm]; exact nI_rg (a := 1) (b := 200) h1 (by omega) (by omega))
  have c2 : ¬ 9000 < s 2 + m := by
    rw [ti_lt, ti_add (by omega) (by omega), show (9000 : Int32).toInt = 9000 by decide]; omega
  have e : oTick s m = (tickN s n 11 - s 11, some (tickN s n)) := by unfold oTick; rw [if_neg c, if_neg c2, tn_of hm (by omega)]
  obtain ⟨k1, k2⟩ := LI_tickN hI n (by omega)
  exact ⟨e, k1, k2⟩
theorem sm_z {f : kV} {a : Nat} : ∀ {n : Nat}, (∀ k, k < n → f (a + k) = 0) → sm f a n = 0
  | 0, _ => rfl
  | n + 1, h => by rw [sm_succ, sm_z (fun k hk => h k (by omega)), h n (by omega)]; rfl
theorem op_bin {s : kV} (hI : LI s) : (0 < s 15 → oBin s = (-1000002, none)) ∧ (¬ 0 < s 15 → s 12 = 8 → oBin s = (-1000003, none)) ∧ (¬ 0 < s 15 → ¬ s 12 = 8 → nB s < 8 ∧ oBin s = (s 12, some (upd (binZ s (nB s)) 12 (s 12 + 1))) ∧ LI (upd (binZ s (nB s)) 12 (s 12 + 1))) := by
  refine ⟨fun h => by unfold oBin; rw [if_pos h], fun h h2 => by unfold oBin; rw [if_neg h, if_pos h2], fun h h2 => ?_⟩
  obtain ⟨i1, i2, i3, i4⟩ := hI
  obtain ⟨l1, l2⟩ := SX_B i1.1
  have l4 : nB s < 8 := by have := nx_ne h2 l2 (by omega) (b := 8) rfl (by omega); omega
  have e : oBin s = (s 12, some (upd (binZ s (nB s)) 12 (s 12 + 1))) := by unfold oBin; rw [if_neg h, if_neg h2]
  have hK := (g_Bin i1 _ _ e).2.1
  have ek : ∀ k, (k < 81 + 6 * nB s ∨ 87 + 6 * nB s ≤ k) → k ≠ 12 → upd (binZ s (nB s)) 12 (s 12 + 1) k = s k := fun k h1 h2 => by rw [upd_ne h2]; unfold binZ; rw [if_neg (by omega)]
  have ez : ∀ k, 81 + 6 * nB s ≤ k → k < 87 + 6 * nB s → upd (binZ s (nB s)) 12 (s 12 + 1) k = 0 := fun k h1 h2 => by rw [upd_ne (by omega)]; unfold binZ; rw [if_pos ⟨h1, h2⟩]
  have eB : nB (upd (binZ s (nB s)) 12 (s 12 + 1)) = nB s + 1 := tn_of (by rw [upd_s, l2, nI_1]) (by omega)
  have eL : nLo (upd (binZ s (nB s)) 12 (s 12 + 1)) = nLo s := by rw [nLo, ek _ (by omega) (by omega), nLo]
  have eA : nAc (upd (binZ s (nB s)) 12 (s 12 + 1)) = nAc s := by rw [nAc, ek _ (by omega) (by omega), nAc]
  have a8 := (SX_A i1.1).2.1
  have l6 := (SX_L i1.1).1
  have sB : smB (upd (binZ s (nB s)) 12 (s 12 + 1)) (nB s + 1) = smB s (nB s) := by
    show smB (upd (binZ s (nB s)) 12 (s 12 + 1)) (nB s) + bMass (upd (binZ s (nB s)) 12 (s 12 + 1)) (nB s) = _
    rw [smB_c (s := s) (fun b κ hb hκ => ek _ (by omega) (by omega)), bMass, sm_z (fun k hk => ez _ (by omega) (by omega)), Int32.add_zero]
  refine ⟨l4, e, hK, ⟨?_, ?_⟩, TB_c i3 (fun k hk => ek k (by omega) (by omega)), by rw [ek 15 (by omega) (by omega)]; exact i4⟩
  · rw [ek 9 (by omega) (by omega), i2.1]
    unfold Zt
    rw [eB, eL, sB, ek 10 (by omega) (by omega), sm_cong (f := upd (binZ s (nB s)) 12 (s 12 + 1)) (g := s) (b := 21) (fun k hk => ek _ (by omega) (by omega)), smL_c (s := s) (fun k hk => ek _ (by omega) (by omega))]
  · rw [eA, eB, sB, smO_c (s := s) (fun k hk => ek _ (by omega) (by omega))]; exact i2.2
theorem op_lot {s : kV} (hI : LI s) {z m : Int32} {k n : Nat} (hz : z = nI k) (hk : k < 4) (hm : m = nI n) (h1 : 1 ≤ n) (h2 : n ≤ 9999) : (s 13 = 6 → oLot s z m = (-1000003, none)) ∧ (¬ s 13 = 6 → nLo s < 6 ∧ oLot s z m = (s 13 + 1, some (upd (upd (upd (upd s (69 + 2 * nLo s) z) (70 + 2 * nLo s) m) 13 (s 13 + 1)) 9 (s 9 + m))) ∧ LI (upd (upd (upd (upd s (69 + 2 * nLo s) z) (70 + 2 * nLo s) m) 13 (s 13 + 1)) 9 (s 9 + m))) := by
  have c : ¬ ¬ ((0 ≤ z ∧ z ≤ 3) ∧ (1 ≤ m ∧ m ≤ 9999)) := fun h => h ⟨by rw [hz]; exact nI_rg (a := 0) (b := 3) (by omega) (by omega) (by omega), by rw [hm]; exact nI_rg (a := 1) (b := 9999) h1 h2 (by omega)⟩
  refine ⟨fun h => by unfold oLot; rw [if_neg c, if_pos h], fun h => ?_⟩
  obtain ⟨i1, i2, i3, i4⟩ := hI
  obtain ⟨l1, l2, l3⟩ := SX_L i1.1
  have l4 : nLo s < 6 := by have := nx_ne h l2 (by omega) (b := 6) rfl (by omega); omega
  have b8 := (SX_B i1.1).1
  have a8 := (SX_A i1.1).2.1
  have e : oLot s z m = (s 13 + 1, some (upd (upd (upd (upd s (69 + 2 * nLo s) z) (70 + 2 * nLo s) m) 13 (s 13 + 1)) 9 (s 9 + m))) := by unfold oLot; rw [if_neg c, if_neg h]
  have hK := (g_Lot i1 z m _ _ e).2.1
  obtain ⟨t, ht⟩ : ∃ t, t = upd (upd (upd (upd s (69 + 2 * nLo s) z) (70 + 2 * nLo s) m) 13 (s 13 + 1)) 9 (s 9 + m) := ⟨_, rfl⟩
  have ek : ∀ k, k ≠ 69 + 2 * nLo s → k ≠ 70 + 2 * nLo s → k ≠ 13 → k ≠ 9 → t k = s k := fun k h1 h2 h3 h4 => by rw [ht, upd_ne h4, upd_ne h3, upd_ne h2, upd_ne h1]
  have e9 : t 9 = s 9 + m := by rw [ht, upd_s]
  have em : t (70 + 2 * nLo s) = m := by rw [ht, upd_ne (by omega), upd_ne (by omega), upd_s]
  have eL : nLo t = nLo s + 1 := tn_of (by rw [ht, upd_ne (by omega), upd_s, l2, nI_1]) (by omega)
  have eB : nB t = nB s := by rw [nB, ek _ (by omega) (by omega) (by omega) (by omega), nB]
  have eA : nAc t = nAc s := by rw [nAc, ek _ (by omega) (by omega) (by omega) (by omega), nAc]
  have sl : smL t (nLo s + 1) = smL s (nLo s) + m := by
    show smL t (nLo s) + t (70 + 2 * nLo s) = _
    rw [em, smL_c (s := s) (fun k hk => ek _ (by omega) (by omega) (by omega) (by omega))]
  have sB : smB t (nB s) = smB s (nB s) := smB_c (fun b κ hb hκ => ek _ (by omega) (by omega) (by omega) (by omega))
  rw [← ht] at e hK ⊢
  refine ⟨l4, e, hK, ⟨?_, ?_⟩, TB_c i3 (fun k hk => ek k (by omega) (by omega) (by omega) (by omega)), by rw [ek 15 (by omega) (by omega) (by omega) (by omega)]; exact i4⟩
  · rw [e9, i2.1]
    unfold Zt
    rw [eL, eB, sl, sB, ek 10 (by omega) (by omega) (by omega) (by omega), sm_cong (f := t) (g := s) (b := 21) (fun k hk => ek _ (by omega) (by omega) (by omega) (by omega))]
    ac_rfl
  · rw [eA, eB, sB, smO_c (s := s) (fun k hk => ek _ (by omega) (by omega) (by omega) (by omega))]; exact i2.2
theorem op_account {s : kV} (hI : LI s) {w : Int32} {n : Nat} (hw : w = nI n) (hn : n < nAc s) : (s 14 = 8 → oAccount s w = (-1000003, none)) ∧ (¬ s 14 = 8 → nAc s < 8 ∧ oAccount s w = (s 14, some (upd (upd (upd s (129 + 2 * nAc s) w) (130 + 2 * nAc s) 0) 14 (s 14 + 1))) ∧ LI (upd (upd (upd s (129 + 2 * nAc s) w) (130 + 2 * nAc s) 0) 14 (s 14 + 1))) := by
  obtain ⟨a1, a2, a3, -⟩ := SX_A hI.1.1
  have c : ¬ ¬ (0 ≤ w ∧ w < s 14) := fun h => h ⟨by rw [hw]; exact nI_pos' (by omega), by rw [hw, a3]; exact (nI_ltI (by omega) (by omega)).mpr hn⟩
  refine ⟨fun h => by unfold oAccount; rw [if_neg c, if_pos h], fun h => ?_⟩
  obtain ⟨i1, i2, i3, i4⟩ := hI
  have a6 : nAc s < 8 := by have := nx_ne h a3 (by omega) (b := 8) rfl (by omega); omega
  have e : oAccount s w = (s 14, some (upd (upd (upd s (129 + 2 * nAc s) w) (130 + 2 * nAc s) 0) 14 (s 14 + 1))) := by unfold oAccount; rw [if_neg c, if_neg h]
  have hK := (g_Account i1 w _ _ e).2.1
  obtain ⟨t, ht⟩ : ∃ t, t = upd (upd (upd s (129 + 2 * nAc s) w) (130 + 2 * nAc s) 0) 14 (s 14 + 1) := ⟨_, rfl⟩
  have ek : ∀ k, k ≠ 129 + 2 * nAc s → k ≠ 130 + 2 * nAc s → k ≠ 14 → t k = s k := fun k h1 h2 h3 => by rw [ht, upd_ne h3, upd_ne h2, upd_ne h1]
  have e0 : t (130 + 2 * nAc s) = 0 := by rw [ht, upd_ne (by omega), upd_s]
  have eA : nAc t = nAc s + 1 := tn_of (by rw [ht, upd_s, a3, nI_1]) (by omega)
  have b8 := (SX_B i1.1).1
  have l6 := (SX_L i1.1).1
  rw [← ht] at e hK ⊢
  obtain ⟨z1, z2, -⟩ := Zt_c i1.1 (t := t) (fun k hk => by simp only [zI] at hk; exact ek k (by omega) (by omega) (by omega))
  refine ⟨a6, e, hK, ⟨by rw [z1, ek 9 (by omega) (by omega) (by omega)]; exact i2.1, ?_⟩, TB_c i3 (fun k hk => ek k (by omega) (by omega) (by omega)), by rw [ek 15 (by omega) (by omega) (by omega)]; exact i4⟩
  rw [eA, z2, smB_c (s := s) (fun b κ hb hκ => ek _ (by omega) (by omega) (by omega)), ← i2.2]
  show smO t (nAc s) + t (130 + 2 * nAc s) = _
  rw [e0, Int32.add_zero, smO_c (s := s) (fun k hk => ek _ (by omega) (by omega) (by omega))]
def facL (s : kV) (b : Nat) : Int64 := if 0 < s (85 + 6 * b) then 1000 * (bMass s b).toInt64 / (s (85 + 6 * b)).toInt64 else -1
theorem op_correct {s : kV} (hI : LI s) {b : Int32} {n : Nat} (hb : b = nI n) (hn : n < nB s) : ((facL s n < 500 ∨ 2000 < facL s n) → oCorrect s b = (-1000002, none)) ∧ (¬ (facL s n < 500 ∨ 2000 < facL s n) → oCorrect s b = ((facL s n).toInt32, some (upd s 7 (facL s n).toInt32)) ∧ LI (upd s 7 (facL s n).toInt32)) := by
  obtain ⟨i1, i2, i3, i4⟩ := hI
  obtain ⟨l1, l2⟩ := SX_B i1.1
  have c : ¬ ¬ (0 ≤ b ∧ b < s 12) := fun h => h ⟨by rw [hb]; exact nI_pos' (by omega), by rw [hb, l2]; exact (nI_ltI (by omega) (by omega)).mpr hn⟩
  have tb : tn b = n := tn_of hb (by omega)
  by_cases hg : 0 < s (85 + 6 * n)
  · have ef : facS s n = facL s n := by unfold facS facL; rw [if_pos hg, if_pos hg]
    refine ⟨fun h => by unfold oCorrect; rw [if_neg c, tb, ef, if_pos h], fun h => ?_⟩
    have e : oCorrect s b = ((facL s n).toInt32, some (upd s 7 (facL s n).toInt32)) := by unfold oCorrect; rw [if_neg c, tb, ef, if_neg h]
    have hK := (g_Correct i1 b _ _ e).2.1
    refine ⟨e, hK, CV_u i1.1 i2 (by simp [cvI, zI]), ?_, by rw [upd_ne (by omega)]; exact i4⟩
    have l := Int64.not_lt.mp (fun q => h (Or.inl q))
    have u := Int64.not_lt.mp (fun q => h (Or.inr q))
    rw [Int64.le_iff_toInt_le] at l u
    rw [show (500 : Int64).toInt = 500 by decide] at l
    rw [show (2000 : Int64).toInt = 2000 by decide] at u
    unfold TB
    rw [upd_ne (show 2 ≠ 7 by omega), upd_ne (show 5 ≠ 7 by omega), upd_ne (show 6 ≠ 7 by omega), upd_s, Int64.toInt_toInt32, Int.bmod_eq_of_le (by omega) (by omega)]
    exact ⟨i3.1, i3.2.1, l, u⟩
  · have e1 : facL s n = -1 := by unfold facL; rw [if_neg hg]
    have e2 : facS s n = 0 := by unfold facS; rw [if_neg hg]
    refine ⟨fun _ => by unfold oCorrect; rw [if_neg c, tb, e2, if_pos (Or.inl (by decide))], fun h => absurd (Or.inl (by rw [e1]; decide)) h⟩
theorem op_corr0 {s : kV} (h : s 12 = 0) : oCorrect s 0 = (-1000001, none) := by
  unfold oCorrect
  rw [if_pos (fun q => absurd q.2 (by rw [h]; decide))]
theorem DRm_ext {I : kI} {q M : Nat} {s : kV} (h : DRm I q s M) (e : I (q + 2) M = s (69 + M)) : DRm I q s (M + 1) := by
  refine ⟨h.1, h.2.1, fun k hk => ?_, h.2.2.2⟩
  by_cases c : k = M
  · rw [c]; exact e
  · exact h.2.2.1 k (by omega)
theorem DR_lot {J : kI} {q : Nat} {s : kV} {z m : Int32} (hS : SX s) (hL : nLo s < 6) (hD : DRo J q s) : DRo (kst (kst (kst (kst J (q + 2) (2 * nLo s) z) (q + 2) (2 * nLo s + 1) m) q 13 (s 13 + 1)) q 9 (s 9 + m)) q (upd (upd (upd (upd s (69 + 2 * nLo s) z) (70 + 2 * nLo s) m) 13 (s 13 + 1)) 9 (s 9 + m)) := by
  have l2 := (SX_L hS).2.1
  have a1 : DRm (kst J (q + 2) (2 * nLo s) z) q (upd s (69 + 2 * nLo s) z) (2 * nLo s + 1) := DRm_ext (DRm_h hD (by omega) (by omega)) (by rw [kst_s, upd_s, upd_s])
  have a2 : DRm (kst (kst J (q + 2) (2 * nLo s) z) (q + 2) (2 * nLo s + 1) m) q (upd (upd s (69 + 2 * nLo s) z) (70 + 2 * nLo s) m) (2 * nLo s + 1 + 1) := by
    have b := DRm_h (k := 2 * nLo s + 1) (x := m) a1 (by omega) (by omega)
    rw [show 69 + (2 * nLo s + 1) = 70 + 2 * nLo s by omega] at b
    exact DRm_ext b (by rw [kst_s, upd_s, show 69 + (2 * nLo s + 1) = 70 + 2 * nLo s by omega, upd_s])
  have e : nLo (upd (upd (upd (upd s (69 + 2 * nLo s) z) (70 + 2 * nLo s) m) 13 (s 13 + 1)) 9 (s 9 + m)) = nLo s + 1 := tn_of (by rw [upd_ne (by omega), upd_s, l2, nI_1]) (by omega)
  rw [DRo, e]
  exact DRm_g (DRm_g a2 (by omega)) (by omega)
