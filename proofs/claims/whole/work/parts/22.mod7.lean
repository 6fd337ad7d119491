def plOK (z : kF3) (r : Int32) (I1 : kI) (q a : Nat) : Prop := match z with
  | (none, s, n) => r = -1000004 ∧ I1 a = s ∧ I1 q 11 = nI n
  | (some (p, c), s, n) => r = nI p ∧ I1 a = s ∧ I1 q 11 = nI n ∧ I1 q 10 = c
def kClosed (K : kV → Prop) : Prop := ∀ s, K s → SX s ∧ ∀ l v w r t, cmO s l v w = (r, some t) → 0 ≤ r ∧ K t ∧ ∀ k, 149 ≤ k → t k = s k
theorem ng1 {c : Prop} [Decidable c] {e : Int32} {y : kO} (he : e < 0) (hy : y.2 = none → y.1 < 0) (h : (if c then (e, none) else y).2 = none) : (if c then (e, none) else y).1 < 0 := by
  by_cases q : c
  · rw [if_pos q]; exact he
  · rw [if_neg q] at h ⊢; exact hy h
theorem ng2 {c : Prop} [Decidable c] {x y : kO} (hx : x.2 = none → x.1 < 0) (hy : y.2 = none → y.1 < 0) (h : (if c then x else y).2 = none) : (if c then x else y).1 < 0 := by
  by_cases q : c
  · rw [if_pos q] at h ⊢; exact hx h
  · rw [if_neg q] at h ⊢; exact hy h
theorem ngs {r : Int32} {t : kV} (h : ((r, some t) : kO).2 = none) : ((r, some t) : kO).1 < 0 := absurd h (by simp)
theorem oLot_neg {s : kV} {v w : Int32} (h : (oLot s v w).2 = none) : (oLot s v w).1 < 0 := by unfold oLot at h ⊢; exact ng1 (by decide) (ng1 (by decide) ngs) h
theorem oGate_neg {s : kV} {v : Int32} (h : (oGate s v).2 = none) : (oGate s v).1 < 0 := by unfold oGate at h ⊢; exact ng1 (by decide) ngs h
theorem oRun_neg {s : kV} {v : Int32} (h : (oRun s v).2 = none) : (oRun s v).1 < 0 := by unfold oRun at h ⊢; exact ng1 (by decide) (ng1 (by decide) ngs) h
theorem oBin_neg {s : kV} (h : (oBin s ).2 = none) : (oBin s ).1 < 0 := by unfold oBin at h ⊢; exact ng1 (by decide) (ng1 (by decide) ngs) h
theorem oBatch_neg {s : kV} {v : Int32} (h : (oBatch s v).2 = none) : (oBatch s v).1 < 0 := by unfold oBatch at h ⊢; exact ng1 (by decide) (ng1 (by decide) ngs) h
theorem oTick_neg {s : kV} {v : Int32} (h : (oTick s v).2 = none) : (oTick s v).1 < 0 := by unfold oTick at h ⊢; exact ng1 (by decide) (ng1 (by decide) ngs) h
theorem oZero_neg {s : kV} (h : (oZero s ).2 = none) : (oZero s ).1 < 0 := by unfold oZero at h ⊢; exact ng1 (by decide) ngs h
theorem oCorrect_neg {s : kV} {v : Int32} (h : (oCorrect s v).2 = none) : (oCorrect s v).1 < 0 := by unfold oCorrect at h ⊢; exact ng1 (by decide) (ng1 (by decide) ngs) h
theorem oSet_neg {s : kV} {v w : Int32} (h : (oSet s v w).2 = none) : (oSet s v w).1 < 0 := by unfold oSet at h ⊢; exact ng1 (by decide) ngs h
theorem oAccount_neg {s : kV} {v : Int32} (h : (oAccount s v).2 = none) : (oAccount s v).1 < 0 := by unfold oAccount at h ⊢; exact ng1 (by decide) (ng1 (by decide) ngs) h
theorem oBook_neg {s : kV} {v w : Int32} (h : (oBook s v w).2 = none) : (oBook s v w).1 < 0 := by unfold oBook at h ⊢; exact ng1 (by decide) ngs h
theorem cmO_neg {s : kV} {l v w : Int32} (h : (cmO s l v w).2 = none) : (cmO s l v w).1 < 0 := by
  unfold cmO at h ⊢
  exact ng2 oBin_neg (ng2 oRun_neg (ng2 oRun_neg (ng2 oZero_neg (ng2 oLot_neg (ng2 oGate_neg (ng2 oBatch_neg (ng2 oCorrect_neg oTick_neg))))))) h
theorem ps_end {tx : kV} {n p : Nat} {z : kC} (h : ps tx n p = some z) (hp : p < n) (hn : n ≤ 60) : p < z.2.2.2 ∧ z.2.2.2 ≤ n := by
  have P1 := nmP_le tx n 4 (p + 1)
  have P2 := nmP_le tx n 4 (nmP tx n 4 (p + 1) + 1)
  unfold ps at h
  split at h
  · unfold ps0 at h
    split at h
    · rename_i c; cases h; have := c.1; exact ⟨by show p < p + 2; omega, by show p + 2 ≤ n; omega⟩
    · cases h
  · split at h
    · unfold ps2 at h
      split at h
      · rename_i c
        split at h
        · rename_i c2; cases h
          have := c2.2.1
          exact ⟨by show p < _ + 1; omega, by show _ + 1 ≤ n; omega⟩
        · cases h
      · cases h
    · split at h
      · unfold ps1 at h
        split at h
        · rename_i c; cases h
          have := c.2.1
          exact ⟨by show p < _ + 1; omega, by show _ + 1 ≤ n; omega⟩
        · cases h
      · cases h
set_option maxHeartbeats 4000000 in
set_option maxRecDepth 100000 in
theorem c_Mod_calls {g : kG} {σ : kS} {I : kI} {q a b c d e f : Nat} (hO : sMod g σ q a b c d e f) {n1 : Nat} (hp : I q 4 = nI n1) (hp2 : n1 ≤ 4) (hS : SX (I a)) {l v w : Int32} (hl : I q 12 = l) (h1 : ¬ (l = 98 ∨ l = 115 ∨ l = 120 ∨ l = 122) → I f 0 = v) (h2 : l = 108 → I f 1 = w)  : ct g mX11_calls ⟨6, 0, 0, 129⟩ [.ref q] σ I (qI (cmO (I a) l v w).1 σ (opM q a b I (cmO (I a) l v w))) := by
  refine ct_of pn11 rfl (Nat.le_of_ble_eq_true rfl) ok_X11_calls.1 trivial ?_
  show wp _ _ _ _ _ _ _ _ 0 [some (.ref q)] []
  have o0 := hO.2.2.2.2.2.2.2.2.2.2.2.2.2.2.2.2.2.2.2.2.1
  have o1 := hO.2.2.2.2.2.2.2.2.2.2.2.2.2.2.2.2.2.2.2.2.2.1
  have o2 := hO.2.2.2.2.2.2.2.2.2.2.2.2.2.2.2.2.2.2.2.2.2.2.1
  have o3 := hO.2.2.2.2.2.2.2.2.2.2.2.2.2.2.2.2.2.2.2.2.2.2.2.1
  have o4 := hO.2.2.2.2.2.2.2.2.2.2.2.2.2.2.2.2.2.2.2.2.2.2.2.2.1
  have o5 := hO.2.2.2.2.2.2.2.2.2.2.2.2.2.2.2.2.2.2.2.2.2.2.2.2.2
  refine w_aload_0 (pc := 0) dX11_calls_0 ?_
  refine w_getI (pc := 1) kc11 12 hO.1 hO.2.1 rfl t775 dX11_calls_1 ?_
  refine w_name (fun y4 e4 => ?_)
  by_cases s4_98 : y4 = 98
  · subst s4_98
    refine w_tableIn (pc := 4) (tgt := 120) (off := 116) dX11_calls_4 (by decide) (by decide) (by decide) (by decide) ?_
    refine w_aload_0 (pc := 120) dX11_calls_120 ?_
    refine w_callV_I (pc := 121) (c_Mod_bin hO hp hp2 hS) ok_X11_bin t833 t834 kc11 hO.1 hO.2.1 t1016 ⟨Nat.le_of_ble_eq_true rfl, Nat.le_of_ble_eq_true rfl⟩ ⟨rfl, rfl⟩ ⟨Nat.le_refl _, Nat.le_refl _⟩ rfl (Nat.le_of_ble_eq_true rfl) dX11_calls_121 ?_
    refine w_iret (pc := 124) rfl ⟨Nat.le_refl _, Nat.le_refl _⟩ dX11_calls_124 ?_
    have hcm : cmO (I a) l v w = oBin (I a) := by rw [← hl, ← e4]; unfold cmO; rw [if_pos rfl]
    exact ⟨by rw [hcm], rfl, by rw [hcm]⟩
  by_cases s4_99 : y4 = 99
  · subst s4_99
    refine w_tableIn (pc := 4) (tgt := 181) (off := 177) dX11_calls_4 (by decide) (by decide) (by decide) (by decide) ?_
    refine w_aload_0 (pc := 181) dX11_calls_181 ?_
    refine w_aload_0 (pc := 182) dX11_calls_182 ?_
    refine w_getR (pc := 183) (b := f) kc11 13 hO.1 hO.2.1 rfl hO.2.2.2.2.2.2.2.2.2.2.2.2.2.2.2.2.2.2.2.1 t776 dX11_calls_183 ?_
    refine w_iconst (pc := 186) (v := 0) dX11_calls_186 (by decide) ?_
    refine w_iald (pc := 187) (j := 0) hO.2.2.2.2.2.2.2.2.2.2.2.2.1 hO.2.2.2.2.2.2.2.2.2.2.2.2.2.1 rfl (by decide) (by decide) dX11_calls_187 ?_
    refine w_callV_I (pc := 188) (c_Mod_correct hO hp hp2 hS) ok_X11_correct t878 t879 kc11 hO.1 hO.2.1 t1022 ⟨Nat.le_of_ble_eq_true rfl, Nat.le_of_ble_eq_true rfl⟩ ⟨rfl, rfl⟩ ⟨Nat.le_refl _, Nat.le_refl _⟩ rfl (Nat.le_of_ble_eq_true rfl) dX11_calls_188 ?_
    refine w_iret (pc := 191) rfl ⟨Nat.le_refl _, Nat.le_refl _⟩ dX11_calls_191 ?_
    have hv : I f 0 = v := h1 (by rw [← hl, ← e4]; decide)
    rw [hv]
    have hcm : cmO (I a) l v w = oCorrect (I a) v := by rw [← hl, ← e4]; unfold cmO; rw [if_neg (by decide), if_neg (by decide), if_neg (by decide), if_neg (by decide), if_neg (by decide), if_neg (by decide), if_neg (by decide), if_pos rfl]
    exact ⟨by rw [hcm], rfl, by rw [hcm]⟩
  by_cases s4_100 : y4 = 100
  · subst s4_100
    refine w_tableIn (pc := 4) (tgt := 192) (off := 188) dX11_calls_4 (by decide) (by decide) (by decide) (by decide) ?_
    refine w_aload_0 (pc := 192) dX11_calls_192 ?_
    refine w_aload_0 (pc := 193) dX11_calls_193 ?_
    refine w_getR (pc := 194) (b := f) kc11 13 hO.1 hO.2.1 rfl hO.2.2.2.2.2.2.2.2.2.2.2.2.2.2.2.2.2.2.2.1 t776 dX11_calls_194 ?_
    refine w_iconst (pc := 197) (v := 0) dX11_calls_197 (by decide) ?_
    refine w_iald (pc := 198) (j := 0) hO.2.2.2.2.2.2.2.2.2.2.2.2.1 hO.2.2.2.2.2.2.2.2.2.2.2.2.2.1 rfl (by decide) (by decide) dX11_calls_198 ?_
    refine w_callV_I (pc := 199) (c_Mod_tick hO hp hp2 hS) ok_X11_tick t845 t846 kc11 hO.1 hO.2.1 t1023 ⟨Nat.le_of_ble_eq_true rfl, Nat.le_of_ble_eq_true rfl⟩ ⟨rfl, rfl⟩ ⟨Nat.le_refl _, Nat.le_refl _⟩ rfl (Nat.le_of_ble_eq_true rfl) dX11_calls_199 ?_
    refine w_iret (pc := 202) rfl ⟨Nat.le_refl _, Nat.le_refl _⟩ dX11_calls_202 ?_
    have hnn : ¬ l = 98 ∧ ¬ l = 115 ∧ ¬ l = 120 ∧ ¬ l = 122 ∧ ¬ l = 108 ∧ ¬ l = 103 ∧ ¬ l = 109 ∧ ¬ l = 99 := by rw [← hl, ← e4]; decide
    obtain ⟨x1, x2, x3, x4, x5, x6, x7, x8⟩ := hnn
    have hv : I f 0 = v := h1 (fun h => h.elim x1 (fun h => h.elim x2 (fun h => h.elim x3 x4)))
    rw [hv]
    have hcm : cmO (I a) l v w = oTick (I a) v := by unfold cmO; rw [if_neg x1, if_neg x2, if_neg x3, if_neg x4, if_neg x5, if_neg x6, if_neg x7, if_neg x8]
    exact ⟨by rw [hcm], rfl, by rw [hcm]⟩
  by_cases s4_101 : y4 = 101
  · subst s4_101
    refine w_tableIn (pc := 4) (tgt := 192) (off := 188) dX11_calls_4 (by decide) (by decide) (by decide) (by decide) ?_
    refine w_aload_0 (pc := 192) dX11_calls_192 ?_
    refine w_aload_0 (pc := 193) dX11_calls_193 ?_
    refine w_getR (pc := 194) (b := f) kc11 13 hO.1 hO.2.1 rfl hO.2.2.2.2.2.2.2.2.2.2.2.2.2.2.2.2.2.2.2.1 t776 dX11_calls_194 ?_
    refine w_iconst (pc := 197) (v := 0) dX11_calls_197 (by decide) ?_
    refine w_iald (pc := 198) (j := 0) hO.2.2.2.2.2.2.2.2.2.2.2.2.1 hO.2.2.2.2.2.2.2.2.2.2.2.2.2.1 rfl (by decide) (by decide) dX11_calls_198 ?_
    refine w_callV_I (pc := 199) (c_Mod_tick hO hp hp2 hS) ok_X11_tick t845 t846 kc11 hO.1 hO.2.1 t1023 ⟨Nat.le_of_ble_eq_true rfl, Nat.le_of_ble_eq_true rfl⟩ ⟨rfl, rfl⟩ ⟨Nat.le_refl _, Nat.le_refl _⟩ rfl (Nat.le_of_ble_eq_true rfl) dX11_calls_199 ?_
    refine w_iret (pc := 202) rfl ⟨Nat.le_refl _, Nat.le_refl _⟩ dX11_calls_202 ?_
    have hnn : ¬ l = 98 ∧ ¬ l = 115 ∧ ¬ l = 120 ∧ ¬ l = 122 ∧ ¬ l = 108 ∧ ¬ l = 103 ∧ ¬ l = 109 ∧ ¬ l = 99 := by rw [← hl, ← e4]; decide
    obtain ⟨x1, x2, x3, x4, x5, x6, x7, x8⟩ := hnn
    have hv : I f 0 = v := h1 (fun h => h.elim x1 (fun h => h.elim x2 (fun h => h.elim x3 x4)))
    rw [hv]
    have hcm : cmO (I a) l v w = oTick (I a) v := by unfold cmO; rw [if_neg x1, if_neg x2, if_neg x3, if_neg x4, if_neg x5, if_neg x6, if_neg x7, if_neg x8]
    exact ⟨by rw [hcm], rfl, by rw [hcm]⟩
  by_cases s4_102 : y4 = 102
  · subst s4_102
    refine w_tableIn (pc := 4) (tgt := 192) (off := 188) dX11_calls_4 (by decide) (by decide) (by decide) (by decide) ?_
    refine w_aload_0 (pc := 192) dX11_calls_192 ?_
    refine w_aload_0 (pc := 193) dX11_calls_193 ?_
    refine w_getR (pc := 194) (b := f) kc11 13 hO.1 hO.2.1 rfl hO.2.2.2.2.2.2.2.2.2.2.2.2.2.2.2.2.2.2.2.1 t776 dX11_calls_194 ?_
    refine w_iconst (pc := 197) (v := 0) dX11_calls_197 (by decide) ?_
    refine w_iald (pc := 198) (j := 0) hO.2.2.2.2.2.2.2.2.2.2.2.2.1 hO.2.2.2.2.2.2.2.2.2.2.2.2.2.1 rfl (by decide) (by decide) dX11_calls_198 ?_
    refine w_callV_I (pc := 199) (c_Mod_tick hO hp hp2 hS) ok_X11_tick t845 t846 kc11 hO.1 hO.2.1 t1023 ⟨Nat.le_of_ble_eq_true rfl, Nat.le_of_ble_eq_true rfl⟩ ⟨rfl, rfl⟩ ⟨Nat.le_refl _, Nat.le_refl _⟩ rfl (Nat.le_of_ble_eq_true rfl) dX11_calls_199 ?_
    refine w_iret (pc := 202) rfl ⟨Nat.le_refl _, Nat.le_refl _⟩ dX11_calls_202 ?_
    have hnn : ¬ l = 98 ∧ ¬ l = 115 ∧ ¬ l = 120 ∧ ¬ l = 122 ∧ ¬ l = 108 ∧ ¬ l = 103 ∧ ¬ l = 109 ∧ ¬ l = 99 := by rw [← hl, ← e4]; decide
    obtain ⟨x1, x2, x3, x4, x5, x6, x7, x8⟩ := hnn
    have hv : I f 0 = v := h1 (fun h => h.elim x1 (fun h => h.elim x2 (fun h => h.elim x3 x4)))
    rw [hv]
    have hcm : cmO (I a) l v w = oTick (I a) v := by unfold cmO; rw [if_neg x1, if_neg x2, if_neg x3, if_neg x4, if_neg x5, if_neg x6, if_neg x7, if_neg x8]
    exact ⟨by rw [hcm], rfl, by rw [hcm]⟩
  by_cases s4_103 : y4 = 103
  · subst s4_103
    refine w_tableIn (pc := 4) (tgt := 159) (off := 155) dX11_calls_4 (by decide) (by decide) (by decide) (by decide) ?_
    refine w_aload_0 (pc := 159) dX11_calls_159 ?_
    refine w_aload_0 (pc := 160) dX11_calls_160 ?_
    refine w_getR (pc := 161) (b := f) kc11 13 hO.1 hO.2.1 rfl hO.2.2.2.2.2.2.2.2.2.2.2.2.2.2.2.2.2.2.2.1 t776 dX11_calls_161 ?_
    refine w_iconst (pc := 164) (v := 0) dX11_calls_164 (by decide) ?_
    refine w_iald (pc := 165) (j := 0) hO.2.2.2.2.2.2.2.2.2.2.2.2.1 hO.2.2.2.2.2.2.2.2.2.2.2.2.2.1 rfl (by decide) (by decide) dX11_calls_165 ?_
    refine w_callV_I (pc := 166) (c_Mod_gate hO hp hp2) ok_X11_gate t820 t821 kc11 hO.1 hO.2.1 t1020 ⟨Nat.le_of_ble_eq_true rfl, Nat.le_of_ble_eq_true rfl⟩ ⟨rfl, rfl⟩ ⟨Nat.le_refl _, Nat.le_refl _⟩ rfl (Nat.le_of_ble_eq_true rfl) dX11_calls_166 ?_
    refine w_iret (pc := 169) rfl ⟨Nat.le_refl _, Nat.le_refl _⟩ dX11_calls_169 ?_
    have hv : I f 0 = v := h1 (by rw [← hl, ← e4]; decide)
    rw [hv]
    have hcm : cmO (I a) l v w = oGate (I a) v := by rw [← hl, ← e4]; unfold cmO; rw [if_neg (by decide), if_neg (by decide), if_neg (by decide), if_neg (by decide), if_neg (by decide), if_pos rfl]
    exact ⟨by rw [hcm], rfl, by rw [hcm]⟩
  by_cases s4_104 : y4 = 104
  · subst s4_104
    refine w_tableIn (pc := 4) (tgt := 192) (off := 188) dX11_calls_4 (by decide) (by decide) (by decide) (by decide) ?_
    refine w_aload_0 (pc := 192) dX11_calls_192 ?_
    refine w_aload_0 (pc := 193) dX11_calls_193 ?_
    refine w_getR (pc := 194) (b := f) kc11 13 hO.1 hO.2.1 rfl hO.2.2.2.2.2.2.2.2.2.2.2.2.2.2.2.2.2.2.2.1 t776 dX11_calls_194 ?_
    refine w_iconst (pc := 197) (v := 0) dX11_calls_197 (by decide) ?_
    refine w_iald (pc := 198) (j := 0) hO.2.2.2.2.2.2.2.2.2.2.2.2.1 hO.2.2.2.2.2.2.2.2.2.2.2.2.2.1 rfl (by decide) (by decide) dX11_calls_198 ?_
    refine w_callV_I (pc := 199) (c_Mod_tick hO hp hp2 hS) ok_X11_tick t845 t846 kc11 hO.1 hO.2.1 t1023 ⟨Nat.le_of_ble_eq_true rfl, Nat.le_of_ble_eq_true rfl⟩ ⟨rfl, rfl⟩ ⟨Nat.le_refl _, Nat.le_refl _⟩ rfl (Nat.le_of_ble_eq_true rfl) dX11_calls_199 ?_
    refine w_iret (pc := 202) rfl ⟨Nat.le_refl _, Nat.le_refl _⟩ dX11_calls_202 ?_
    have hnn : ¬ l = 98 ∧ ¬ l = 115 ∧ ¬ l = 120 ∧ ¬ l = 122 ∧ ¬ l = 108 ∧ ¬ l = 103 ∧ ¬ l = 109 ∧ ¬ l = 99 := by rw [← hl, ← e4]; decide
    obtain ⟨x1, x2, x3, x4, x5, x6, x7, x8⟩ := hnn
    have hv : I f 0 = v := h1 (fun h => h.elim x1 (fun h => h.elim x2 (fun h => h.elim x3 x4)))
    rw [hv]
    have hcm : cmO (I a) l v w = oTick (I a) v := by unfold cmO; rw [if_neg x1, if_neg x2, if_neg x3, if_neg x4, if_neg x5, if_neg x6, if_neg x7, if_neg x8]
    exact ⟨by rw [hcm], rfl, by rw [hcm]⟩
  by_cases s4_105 : y4 = 105
  · subst s4_105
    refine w_tableIn (pc := 4) (tgt := 192) (off := 188) dX11_calls_4 (by decide) (by decide) (by decide) (by decide) ?_
    refine w_aload_0 (pc := 192) dX11_calls_192 ?_
    refine w_aload_0 (pc := 193) dX11_calls_193 ?_
    refine w_getR (pc := 194) (b := f) kc11 13 hO.1 hO.2.1 rfl hO.2.2.2.2.2.2.2.2.2.2.2.2.2.2.2.2.2.2.2.1 t776 dX11_calls_194 ?_
    refine w_iconst (pc := 197) (v := 0) dX11_calls_197 (by decide) ?_
    refine w_iald (pc := 198) (j := 0) hO.2.2.2.2.2.2.2.2.2.2.2.2.1 hO.2.2.2.2.2.2.2.2.2.2.2.2.2.1 rfl (by decide) (by decide) dX11_calls_198 ?_
    refine w_callV_I (pc := 199) (c_Mod_tick hO hp hp2 hS) ok_X11_tick t845 t846 kc11 hO.1 hO.2.1 t1023 ⟨Nat.le_of_ble_eq_true rfl, Nat.le_of_ble_eq_true rfl⟩ ⟨rfl, rfl⟩ ⟨Nat.le_refl _, Nat.le_refl _⟩ rfl (Nat.le_of_ble_eq_true rfl) dX11_calls_199 ?_
    refine w_iret (pc := 202) rfl ⟨Nat.le_refl _, Nat.le_refl _⟩ dX11_calls_202 ?_
    have hnn : ¬ l = 98 ∧ ¬ l = 115 ∧ ¬ l = 120 ∧ ¬ l = 122 ∧ ¬ l = 108 ∧ ¬ l = 103 ∧ ¬ l = 109 ∧ ¬ l = 99 := by rw [← hl, ← e4]; decide
    obtain ⟨x1, x2, x3, x4, x5, x6, x7, x8⟩ := hnn
    have hv : I f 0 = v := h1 (fun h => h.elim x1 (fun h => h.elim x2 (fun h => h.elim x3 x4)))
    rw [hv]
    have hcm : cmO (I a) l v w = oTick (I a) v := by unfold cmO; rw [if_neg x1, if_neg x2, if_neg x3, if_neg x4, if_neg x5, if_neg x6, if_neg x7, if_neg x8]
    exact ⟨by rw [hcm], rfl, by rw [hcm]⟩
  by_cases s4_106 : y4 = 106
  · subst s4_106
    refine w_tableIn (pc := 4) (tgt := 192) (off := 188) dX11_calls_4 (by decide) (by decide) (by decide) (by decide) ?_
    refine w_aload_0 (pc := 192) dX11_calls_192 ?_
    refine w_aload_0 (pc := 193) dX11_calls_193 ?_
    refine w_getR (pc := 194) (b := f) kc11 13 hO.1 hO.2.1 rfl hO.2.2.2.2.2.2.2.2.2.2.2.2.2.2.2.2.2.2.2.1 t776 dX11_calls_194 ?_
    refine w_iconst (pc := 197) (v := 0) dX11_calls_197 (by decide) ?_
    refine w_iald (pc := 198) (j := 0) hO.2.2.2.2.2.2.2.2.2.2.2.2.1 hO.2.2.2.2.2.2.2.2.2.2.2.2.2.1 rfl (by decide) (by decide) dX11_calls_198 ?_
    refine w_callV_I (pc := 199) (c_Mod_tick hO hp hp2 hS) ok_X11_tick t845 t846 kc11 hO.1 hO.2.1 t1023 ⟨Nat.le_of_ble_eq_true rfl, Nat.le_of_ble_eq_true rfl⟩ ⟨rfl, rfl⟩ ⟨Nat.le_refl _, Nat.le_refl _⟩ rfl (Nat.le_of_ble_eq_true rfl) dX11_calls_199 ?_
    refine w_iret (pc := 202) rfl ⟨Nat.le_refl _, Nat.le_refl _⟩ dX11_calls_202 ?_
    have hnn : ¬ l = 98 ∧ ¬ l = 115 ∧ ¬ l = 120 ∧ ¬ l = 122 ∧ ¬ l = 108 ∧ ¬ l = 103 ∧ ¬ l = 109 ∧ ¬ l = 99 := by rw [← hl, ← e4]; decide
    obtain ⟨x1, x2, x3, x4, x5, x6, x7, x8⟩ := hnn
    have hv : I f 0 = v := h1 (fun h => h.elim x1 (fun h => h.elim x2 (fun h => h.elim x3 x4)))
    rw [hv]
    have hcm : cmO (I a) l v w = oTick (I a) v := by unfold cmO; rw [if_neg x1, if_neg x2, if_neg x3, if_neg x4, if_neg x5, if_neg x6, if_neg x7, if_neg x8]
    exact ⟨by rw [hcm], rfl, by rw [hcm]⟩
  by_cases s4_107 : y4 = 107
  · subst s4_107
    refine w_tableIn (pc := 4) (tgt := 192) (off := 188) dX11_calls_4 (by decide) (by decide) (by decide) (by decide) ?_
    refine w_aload_0 (pc := 192) dX11_calls_192 ?_
    refine w_aload_0 (pc := 193) dX11_calls_193 ?_
    refine w_getR (pc := 194) (b := f) kc11 13 hO.1 hO.2.1 rfl hO.2.2.2.2.2.2.2.2.2.2.2.2.2.2.2.2.2.2.2.1 t776 dX11_calls_194 ?_
    refine w_iconst (pc := 197) (v := 0) dX11_calls_197 (by decide) ?_
    refine w_iald (pc := 198) (j := 0) hO.2.2.2.2.2.2.2.2.2.2.2.2.1 hO.2.2.2.2.2.2.2.2.2.2.2.2.2.1 rfl (by decide) (by decide) dX11_calls_198 ?_
    refine w_callV_I (pc := 199) (c_Mod_tick hO hp hp2 hS) ok_X11_tick t845 t846 kc11 hO.1 hO.2.1 t1023 ⟨Nat.le_of_ble_eq_true rfl, Nat.le_of_ble_eq_true rfl⟩ ⟨rfl, rfl⟩ ⟨Nat.le_refl _, Nat.le_refl _⟩ rfl (Nat.le_of_ble_eq_true rfl) dX11_calls_199 ?_
    refine w_iret (pc := 202) rfl ⟨Nat.le_refl _, Nat.le_refl _⟩ dX11_calls_202 ?_
    have hnn : ¬ l = 98 ∧ ¬ l = 115 ∧ ¬ l = 120 ∧ ¬ l = 122 ∧ ¬ l = 108 ∧ ¬ l = 103 ∧ ¬ l = 109 ∧ ¬ l = 99 := by rw [← hl, ← e4]; decide
    obtain ⟨x1, x2, x3, x4, x5, x6, x7, x8⟩ := hnn
    have hv : I f 0 = v := h1 (fun h => h.elim x1 (fun h => h.elim x2 (fun h => h.elim x3 x4)))
    rw [hv]
    have hcm : cmO (I a) l v w = oTick (I a) v := by unfold cmO; rw [if_neg x1, if_neg x2, if_neg x3, if_neg x4, if_neg x5, if_neg x6, if_neg x7, if_neg x8]
    exact ⟨by rw [hcm], rfl, by rw [hcm]⟩
  by_cases s4_108 : y4 = 108
  · subst s4_108
    refine w_tableIn (pc := 4) (tgt := 142) (off := 138) dX11_calls_4 (by decide) (by decide) (by decide) (by decide) ?_
    refine w_aload_0 (pc := 142) dX11_calls_142 ?_
    refine w_aload_0 (pc := 143) dX11_calls_143 ?_
    refine w_getR (pc := 144) (b := f) kc11 13 hO.1 hO.2.1 rfl hO.2.2.2.2.2.2.2.2.2.2.2.2.2.2.2.2.2.2.2.1 t776 dX11_calls_144 ?_
    refine w_iconst (pc := 147) (v := 0) dX11_calls_147 (by decide) ?_
    refine w_iald (pc := 148) (j := 0) hO.2.2.2.2.2.2.2.2.2.2.2.2.1 hO.2.2.2.2.2.2.2.2.2.2.2.2.2.1 rfl (by decide) (by decide) dX11_calls_148 ?_
    refine w_aload_0 (pc := 149) dX11_calls_149 ?_
    refine w_getR (pc := 150) (b := f) kc11 13 hO.1 hO.2.1 rfl hO.2.2.2.2.2.2.2.2.2.2.2.2.2.2.2.2.2.2.2.1 t776 dX11_calls_150 ?_
    refine w_iconst (pc := 153) (v := 1) dX11_calls_153 (by decide) ?_
    refine w_iald (pc := 154) (j := 1) hO.2.2.2.2.2.2.2.2.2.2.2.2.1 hO.2.2.2.2.2.2.2.2.2.2.2.2.2.1 rfl (by decide) (by decide) dX11_calls_154 ?_
    refine w_callV_I (pc := 155) (c_Mod_lot hO hp hp2 hS) ok_X11_lot t807 t808 kc11 hO.1 hO.2.1 t1019 ⟨Nat.le_of_ble_eq_true rfl, Nat.le_of_ble_eq_true rfl⟩ ⟨rfl, rfl⟩ ⟨Nat.le_refl _, Nat.le_refl _⟩ rfl (Nat.le_of_ble_eq_true rfl) dX11_calls_155 ?_
    refine w_iret (pc := 158) rfl ⟨Nat.le_refl _, Nat.le_refl _⟩ dX11_calls_158 ?_
    have hv : I f 0 = v := h1 (by rw [← hl, ← e4]; decide)
    have hw : I f 1 = w := h2 (by rw [← hl, ← e4])
    rw [hv, hw]
    have hcm : cmO (I a) l v w = oLot (I a) v w := by rw [← hl, ← e4]; unfold cmO; rw [if_neg (by decide), if_neg (by decide), if_neg (by decide), if_neg (by decide), if_pos rfl]
    exact ⟨by rw [hcm], rfl, by rw [hcm]⟩
  by_cases s4_109 : y4 = 109
  · subst s4_109
    refine w_tableIn (pc := 4) (tgt := 170) (off := 166) dX11_calls_4 (by decide) (by decide) (by decide) (by decide) ?_
    refine w_aload_0 (pc := 170) dX11_calls_170 ?_
    refine w_aload_0 (pc := 171) dX11_calls_171 ?_
    refine w_getR (pc := 172) (b := f) kc11 13 hO.1 hO.2.1 rfl hO.2.2.2.2.2.2.2.2.2.2.2.2.2.2.2.2.2.2.2.1 t776 dX11_calls_172 ?_
    refine w_iconst (pc := 175) (v := 0) dX11_calls_175 (by decide) ?_
    refine w_iald (pc := 176) (j := 0) hO.2.2.2.2.2.2.2.2.2.2.2.2.1 hO.2.2.2.2.2.2.2.2.2.2.2.2.2.1 rfl (by decide) (by decide) dX11_calls_176 ?_
    refine w_callV_I (pc := 177) (c_Mod_batch hO hp hp2) ok_X11_batch t837 t838 kc11 hO.1 hO.2.1 t1021 ⟨Nat.le_of_ble_eq_true rfl, Nat.le_of_ble_eq_true rfl⟩ ⟨rfl, rfl⟩ ⟨Nat.le_refl _, Nat.le_refl _⟩ rfl (Nat.le_of_ble_eq_true rfl) dX11_calls_177 ?_
    refine w_iret (pc := 180) rfl ⟨Nat.le_refl _, Nat.le_refl _⟩ dX11_calls_180 ?_
    have hv : I f 0 = v := h1 (by rw [← hl, ← e4]; decide)
    rw [hv]
    have hcm : cmO (I a) l v w = oBatch (I a) v := by rw [← hl, ← e4]; unfold cmO; rw [if_neg (by decide), if_neg (by decide), if_neg (by decide), if_neg (by decide), if_neg (by decide), if_neg (by decide), if_pos rfl]
    exact ⟨by rw [hcm], rfl, by rw [hcm]⟩
  by_cases s4_110 : y4 = 110
  · subst s4_110
    refine w_tableIn (pc := 4) (tgt := 192) (off := 188) dX11_calls_4 (by decide) (by decide) (by decide) (by decide) ?_
    refine w_aload_0 (pc := 192) dX11_calls_192 ?_
    refine w_aload_0 (pc := 193) dX11_calls_193 ?_
    refine w_getR (pc := 194) (b := f) kc11 13 hO.1 hO.2.1 rfl hO.2.2.2.2.2.2.2.2.2.2.2.2.2.2.2.2.2.2.2.1 t776 dX11_calls_194 ?_
    refine w_iconst (pc := 197) (v := 0) dX11_calls_197 (by decide) ?_
    refine w_iald (pc := 198) (j := 0) hO.2.2.2.2.2.2.2.2.2.2.2.2.1 hO.2.2.2.2.2.2.2.2.2.2.2.2.2.1 rfl (by decide) (by decide) dX11_calls_198 ?_
    refine w_callV_I (pc := 199) (c_Mod_tick hO hp hp2 hS) ok_X11_tick t845 t846 kc11 hO.1 hO.2.1 t1023 ⟨Nat.le_of_ble_eq_true rfl, Nat.le_of_ble_eq_true rfl⟩ ⟨rfl, rfl⟩ ⟨Nat.le_refl _, Nat.le_refl _⟩ rfl (Nat.le_of_ble_eq_true rfl) dX11_calls_199 ?_
    refine w_iret (pc := 202) rfl ⟨Nat.le_refl _, Nat.le_refl _⟩ dX11_calls_202 ?_
    have hnn : ¬ l = 98 ∧ ¬ l = 115 ∧ ¬ l = 120 ∧ ¬ l = 122 ∧ ¬ l = 108 ∧ ¬ l = 103 ∧ ¬ l = 109 ∧ ¬ l = 99 := by rw [← hl, ← e4]; decide
    obtain ⟨x1, x2, x3, x4, x5, x6, x7, x8⟩ := hnn
    have hv : I f 0 = v := h1 (fun h => h.elim x1 (fun h => h.elim x2 (fun h => h.elim x3 x4)))
    rw [hv]
    have hcm : cmO (I a) l v w = oTick (I a) v := by unfold cmO; rw [if_neg x1, if_neg x2, if_neg x3, if_neg x4, if_neg x5, if_neg x6, if_neg x7, if_neg x8]
    exact ⟨by rw [hcm], rfl, by rw [hcm]⟩
  by_cases s4_111 : y4 = 111
  · subst s4_111
    refine w_tableIn (pc := 4) (tgt := 192) (off := 188) dX11_calls_4 (by decide) (by decide) (by decide) (by decide) ?_
    refine w_aload_0 (pc := 192) dX11_calls_192 ?_
    refine w_aload_0 (pc := 193) dX11_calls_193 ?_
    refine w_getR (pc := 194) (b := f) kc11 13 hO.1 hO.2.1 rfl hO.2.2.2.2.2.2.2.2.2.2.2.2.2.2.2.2.2.2.2.1 t776 dX11_calls_194 ?_
    refine w_iconst (pc := 197) (v := 0) dX11_calls_197 (by decide) ?_
    refine w_iald (pc := 198) (j := 0) hO.2.2.2.2.2.2.2.2.2.2.2.2.1 hO.2.2.2.2.2.2.2.2.2.2.2.2.2.1 rfl (by decide) (by decide) dX11_calls_198 ?_
    refine w_callV_I (pc := 199) (c_Mod_tick hO hp hp2 hS) ok_X11_tick t845 t846 kc11 hO.1 hO.2.1 t1023 ⟨Nat.le_of_ble_eq_true rfl, Nat.le_of_ble_eq_true rfl⟩ ⟨rfl, rfl⟩ ⟨Nat.le_refl _, Nat.le_refl _⟩ rfl (Nat.le_of_ble_eq_true rfl) dX11_calls_199 ?_
    refine w_iret (pc := 202) rfl ⟨Nat.le_refl _, Nat.le_refl _⟩ dX11_calls_202 ?_
    have hnn : ¬ l = 98 ∧ ¬ l = 115 ∧ ¬ l = 120 ∧ ¬ l = 122 ∧ ¬ l = 108 ∧ ¬ l = 103 ∧ ¬ l = 109 ∧ ¬ l = 99 := by rw [← hl, ← e4]; decide
    obtain ⟨x1, x2, x3, x4, x5, x6, x7, x8⟩ := hnn
    have hv : I f 0 = v := h1 (fun h => h.elim x1 (fun h => h.elim x2 (fun h => h.elim x3 x4)))
    rw [hv]
    have hcm : cmO (I a) l v w = oTick (I a) v := by unfold cmO; rw [if_neg x1, if_neg x2, if_neg x3, if_neg x4, if_neg x5, if_neg x6, if_neg x7, if_neg x8]
    exact ⟨by rw [hcm], rfl, by rw [hcm]⟩
  by_cases s4_112 : y4 = 112
  · subst s4_112
    refine w_tableIn (pc := 4) (tgt := 192) (off := 188) dX11_calls_4 (by decide) (by decide) (by decide) (by decide) ?_
    refine w_aload_0 (pc := 192) dX11_calls_192 ?_
    refine w_aload_0 (pc := 193) dX11_calls_193 ?_
    refine w_getR (pc := 194) (b := f) kc11 13 hO.1 hO.2.1 rfl hO.2.2.2.2.2.2.2.2.2.2.2.2.2.2.2.2.2.2.2.1 t776 dX11_calls_194 ?_
    refine w_iconst (pc := 197) (v := 0) dX11_calls_197 (by decide) ?_
    refine w_iald (pc := 198) (j := 0) hO.2.2.2.2.2.2.2.2.2.2.2.2.1 hO.2.2.2.2.2.2.2.2.2.2.2.2.2.1 rfl (by decide) (by decide) dX11_calls_198 ?_
    refine w_callV_I (pc := 199) (c_Mod_tick hO hp hp2 hS) ok_X11_tick t845 t846 kc11 hO.1 hO.2.1 t1023 ⟨Nat.le_of_ble_eq_true rfl, Nat.le_of_ble_eq_true rfl⟩ ⟨rfl, rfl⟩ ⟨Nat.le_refl _, Nat.le_refl _⟩ rfl (Nat.le_of_ble_eq_true rfl) dX11_calls_199 ?_
    refine w_iret (pc := 202) rfl ⟨Nat.le_refl _, Nat.le_refl _⟩ dX11_calls_202 ?_
    have hnn : ¬ l = 98 ∧ ¬ l = 115 ∧ ¬ l = 120 ∧ ¬ l = 122 ∧ ¬ l = 108 ∧ ¬ l = 103 ∧ ¬ l = 109 ∧ ¬ l = 99 := by rw [← hl, ← e4]; decide
    obtain ⟨x1, x2, x3, x4, x5, x6, x7, x8⟩ := hnn
    have hv : I f 0 = v := h1 (fun h => h.elim x1 (fun h => h.elim x2 (fun h => h.elim x3 x4)))
    rw [hv]
    have hcm : cmO (I a) l v w = oTick (I a) v := by unfold cmO; rw [if_neg x1, if_neg x2, if_neg x3, if_neg x4, if_neg x5, if_neg x6, if_neg x7, if_neg x8]
    exact ⟨by rw [hcm], rfl, by rw [hcm]⟩
  by_cases s4_113 : y4 = 113
  · subst s4_113
    refine w_tableIn (pc := 4) (tgt := 192) (off := 188) dX11_calls_4 (by decide) (by decide) (by decide) (by decide) ?_
    refine w_aload_0 (pc := 192) dX11_calls_192 ?_
    refine w_aload_0 (pc := 193) dX11_calls_193 ?_
    refine w_getR (pc := 194) (b := f) kc11 13 hO.1 hO.2.1 rfl hO.2.2.2.2.2.2.2.2.2.2.2.2.2.2.2.2.2.2.2.1 t776 dX11_calls_194 ?_
    refine w_iconst (pc := 197) (v := 0) dX11_calls_197 (by decide) ?_
    refine w_iald (pc := 198) (j := 0) hO.2.2.2.2.2.2.2.2.2.2.2.2.1 hO.2.2.2.2.2.2.2.2.2.2.2.2.2.1 rfl (by decide) (by decide) dX11_calls_198 ?_
    refine w_callV_I (pc := 199) (c_Mod_tick hO hp hp2 hS) ok_X11_tick t845 t846 kc11 hO.1 hO.2.1 t1023 ⟨Nat.le_of_ble_eq_true rfl, Nat.le_of_ble_eq_true rfl⟩ ⟨rfl, rfl⟩ ⟨Nat.le_refl _, Nat.le_refl _⟩ rfl (Nat.le_of_ble_eq_true rfl) dX11_calls_199 ?_
    refine w_iret (pc := 202) rfl ⟨Nat.le_refl _, Nat.le_refl _⟩ dX11_calls_202 ?_
    have hnn : ¬ l = 98 ∧ ¬ l = 115 ∧ ¬ l = 120 ∧ ¬ l = 122 ∧ ¬ l = 108 ∧ ¬ l = 103 ∧ ¬ l = 109 ∧ ¬ l = 99 := by rw [← hl, ← e4]; decide
    obtain ⟨x1, x2, x3, x4, x5, x6, x7, x8⟩ := hnn
    have hv : I f 0 = v := h1 (fun h => h.elim x1 (fun h => h.elim x2 (fun h => h.elim x3 x4)))
    rw [hv]
    have hcm : cmO (I a) l v w = oTick (I a) v := by unfold cmO; rw [if_neg x1, if_neg x2, if_neg x3, if_neg x4, if_neg x5, if_neg x6, if_neg x7, if_neg x8]
    exact ⟨by rw [hcm], rfl, by rw [hcm]⟩
  by_cases s4_114 : y4 = 114
  · subst s4_114
    refine w_tableIn (pc := 4) (tgt := 192) (off := 188) dX11_calls_4 (by decide) (by decide) (by decide) (by decide) ?_
    refine w_aload_0 (pc := 192) dX11_calls_192 ?_
    refine w_aload_0 (pc := 193) dX11_calls_193 ?_
    refine w_getR (pc := 194) (b := f) kc11 13 hO.1 hO.2.1 rfl hO.2.2.2.2.2.2.2.2.2.2.2.2.2.2.2.2.2.2.2.1 t776 dX11_calls_194 ?_
    refine w_iconst (pc := 197) (v := 0) dX11_calls_197 (by decide) ?_
    refine w_iald (pc := 198) (j := 0) hO.2.2.2.2.2.2.2.2.2.2.2.2.1 hO.2.2.2.2.2.2.2.2.2.2.2.2.2.1 rfl (by decide) (by decide) dX11_calls_198 ?_
    refine w_callV_I (pc := 199) (c_Mod_tick hO hp hp2 hS) ok_X11_tick t845 t846 kc11 hO.1 hO.2.1 t1023 ⟨Nat.le_of_ble_eq_true rfl, Nat.le_of_ble_eq_true rfl⟩ ⟨rfl, rfl⟩ ⟨Nat.le_refl _, Nat.le_refl _⟩ rfl (Nat.le_of_ble_eq_true rfl) dX11_calls_199 ?_
    refine w_iret (pc := 202) rfl ⟨Nat.le_refl _, Nat.le_refl _⟩ dX11_calls_202 ?_
    have hnn : ¬ l = 98 ∧ ¬ l = 115 ∧ ¬ l = 120 ∧ ¬ l = 122 ∧ ¬ l = 108 ∧ ¬ l = 103 ∧ ¬ l = 109 ∧ ¬ l = 99 := by rw [← hl, ← e4]; decide
    obtain ⟨x1, x2, x3, x4, x5, x6, x7, x8⟩ := hnn
    have hv : I f 0 = v := h1 (fun h => h.elim x1 (fun h => h.elim x2 (fun h => h.elim x3 x4)))
    rw [hv]
    have hcm : cmO (I a) l v w = oTick (I a) v := by unfold cmO; rw [if_neg x1, if_neg x2, if_neg x3, if_neg x4, if_neg x5, if_neg x6, if_neg x7, if_neg x8]
    exact ⟨by rw [hcm], rfl, by rw [hcm]⟩
  by_cases s4_115 : y4 = 115
  · subst s4_115
    refine w_tableIn (pc := 4) (tgt := 125) (off := 121) dX11_calls_4 (by decide) (by decide) (by decide) (by decide) ?_
    refine w_aload_0 (pc := 125) dX11_calls_125 ?_
    refine w_iconst (pc := 126) (v := 1) dX11_calls_126 (by decide) ?_
    refine w_callV_I (pc := 127) (c_Mod_run hO hp hp2) ok_X11_run t824 t825 kc11 hO.1 hO.2.1 t1017 ⟨Nat.le_of_ble_eq_true rfl, Nat.le_of_ble_eq_true rfl⟩ ⟨rfl, rfl⟩ ⟨Nat.le_refl _, Nat.le_refl _⟩ rfl (Nat.le_of_ble_eq_true rfl) dX11_calls_127 ?_
    refine w_iret (pc := 130) rfl ⟨Nat.le_refl _, Nat.le_refl _⟩ dX11_calls_130 ?_
    have hcm : cmO (I a) l v w = oRun (I a) 1 := by rw [← hl, ← e4]; unfold cmO; rw [if_neg (by decide), if_pos rfl]
    exact ⟨by rw [hcm], rfl, by rw [hcm]⟩
  by_cases s4_116 : y4 = 116
  · subst s4_116
    refine w_tableIn (pc := 4) (tgt := 192) (off := 188) dX11_calls_4 (by decide) (by decide) (by decide) (by decide) ?_
    refine w_aload_0 (pc := 192) dX11_calls_192 ?_
    refine w_aload_0 (pc := 193) dX11_calls_193 ?_
    refine w_getR (pc := 194) (b := f) kc11 13 hO.1 hO.2.1 rfl hO.2.2.2.2.2.2.2.2.2.2.2.2.2.2.2.2.2.2.2.1 t776 dX11_calls_194 ?_
    refine w_iconst (pc := 197) (v := 0) dX11_calls_197 (by decide) ?_
    refine w_iald (pc := 198) (j := 0) hO.2.2.2.2.2.2.2.2.2.2.2.2.1 hO.2.2.2.2.2.2.2.2.2.2.2.2.2.1 rfl (by decide) (by decide) dX11_calls_198 ?_
    refine w_callV_I (pc := 199) (c_Mod_tick hO hp hp2 hS) ok_X11_tick t845 t846 kc11 hO.1 hO.2.1 t1023 ⟨Nat.le_of_ble_eq_true rfl, Nat.le_of_ble_eq_true rfl⟩ ⟨rfl, rfl⟩ ⟨Nat.le_refl _, Nat.le_refl _⟩ rfl (Nat.le_of_ble_eq_true rfl) dX11_calls_199 ?_
    refine w_iret (pc := 202) rfl ⟨Nat.le_refl _, Nat.le_refl _⟩ dX11_calls_202 ?_
    have hnn : ¬ l = 98 ∧ ¬ l = 115 ∧ ¬ l = 120 ∧ ¬ l = 122 ∧ ¬ l = 108 ∧ ¬ l = 103 ∧ ¬ l = 109 ∧ ¬ l = 99 := by rw [← hl, ← e4]; decide
    obtain ⟨x1, x2, x3, x4, x5, x6, x7, x8⟩ := hnn
    have hv : I f 0 = v := h1 (fun h => h.elim x1 (fun h => h.elim x2 (fun h => h.elim x3 x4)))
    rw [hv]
    have hcm : cmO (I a) l v w = oTick (I a) v := by unfold cmO; rw [if_neg x1, if_neg x2, if_neg x3, if_neg x4, if_neg x5, if_neg x6, if_neg x7, if_neg x8]
    exact ⟨by rw [hcm], rfl, by rw [hcm]⟩
  by_cases s4_117 : y4 = 117
  · subst s4_117
    refine w_tableIn (pc := 4) (tgt := 192) (off := 188) dX11_calls_4 (by decide) (by decide) (by decide) (by decide) ?_
    refine w_aload_0 (pc := 192) dX11_calls_192 ?_
    refine w_aload_0 (pc := 193) dX11_calls_193 ?_
    refine w_getR (pc := 194) (b := f) kc11 13 hO.1 hO.2.1 rfl hO.2.2.2.2.2.2.2.2.2.2.2.2.2.2.2.2.2.2.2.1 t776 dX11_calls_194 ?_
    refine w_iconst (pc := 197) (v := 0) dX11_calls_197 (by decide) ?_
    refine w_iald (pc := 198) (j := 0) hO.2.2.2.2.2.2.2.2.2.2.2.2.1 hO.2.2.2.2.2.2.2.2.2.2.2.2.2.1 rfl (by decide) (by decide) dX11_calls_198 ?_
    refine w_callV_I (pc := 199) (c_Mod_tick hO hp hp2 hS) ok_X11_tick t845 t846 kc11 hO.1 hO.2.1 t1023 ⟨Nat.le_of_ble_eq_true rfl, Nat.le_of_ble_eq_true rfl⟩ ⟨rfl, rfl⟩ ⟨Nat.le_refl _, Nat.le_refl _⟩ rfl (Nat.le_of_ble_eq_true rfl) dX11_calls_199 ?_
    refine w_iret (pc := 202) rfl ⟨Nat.le_refl _, Nat.le_refl _⟩ dX11_calls_202 ?_
    have hnn : ¬ l = 98 ∧ ¬ l = 115 ∧ ¬ l = 120 ∧ ¬ l = 122 ∧ ¬ l = 108 ∧ ¬ l = 103 ∧ ¬ l = 109 ∧ ¬ l = 99 := by rw [← hl, ← e4]; decide
    obtain ⟨x1, x2, x3, x4, x5, x6, x7, x8⟩ := hnn
    have hv : I f 0 = v := h1 (fun h => h.elim x1 (fun h => h.elim x2 (fun h => h.elim x3 x4)))
    rw [hv]
    have hcm : cmO (I a) l v w = oTick (I a) v := by unfold cmO; rw [if_neg x1, if_neg x2, if_neg x3, if_neg x4, if_neg x5, if_neg x6, if_neg x7, if_neg x8]
    exact ⟨by rw [hcm], rfl, by rw [hcm]⟩
  by_cases s4_118 : y4 = 118
  · subst s4_118
    refine w_tableIn (pc := 4) (tgt := 192) (off := 188) dX11_calls_4 (by decide) (by decide) (by decide) (by decide) ?_
    refine w_aload_0 (pc := 192) dX11_calls_192 ?_
    refine w_aload_0 (pc := 193) dX11_calls_193 ?_
    refine w_getR (pc := 194) (b := f) kc11 13 hO.1 hO.2.1 rfl hO.2.2.2.2.2.2.2.2.2.2.2.2.2.2.2.2.2.2.2.1 t776 dX11_calls_194 ?_
    refine w_iconst (pc := 197) (v := 0) dX11_calls_197 (by decide) ?_
    refine w_iald (pc := 198) (j := 0) hO.2.2.2.2.2.2.2.2.2.2.2.2.1 hO.2.2.2.2.2.2.2.2.2.2.2.2.2.1 rfl (by decide) (by decide) dX11_calls_198 ?_
    refine w_callV_I (pc := 199) (c_Mod_tick hO hp hp2 hS) ok_X11_tick t845 t846 kc11 hO.1 hO.2.1 t1023 ⟨Nat.le_of_ble_eq_true rfl, Nat.le_of_ble_eq_true rfl⟩ ⟨rfl, rfl⟩ ⟨Nat.le_refl _, Nat.le_refl _⟩ rfl (Nat.le_of_ble_eq_true rfl) dX11_calls_199 ?_
    refine w_iret (pc := 202) rfl ⟨Nat.le_refl _, Nat.le_refl _⟩ dX11_calls_202 ?_
    have hnn : ¬ l = 98 ∧ ¬ l = 115 ∧ ¬ l = 120 ∧ ¬ l = 122 ∧ ¬ l = 108 ∧ ¬ l = 103 ∧ ¬ l = 109 ∧ ¬ l = 99 := by rw [← hl, ← e4]; decide
    obtain ⟨x1, x2, x3, x4, x5, x6, x7, x8⟩ := hnn
    have hv : I f 0 = v := h1 (fun h => h.elim x1 (fun h => h.elim x2 (fun h => h.elim x3 x4)))
    rw [hv]
    have hcm : cmO (I a) l v w = oTick (I a) v := by unfold cmO; rw [if_neg x1, if_neg x2, if_neg x3, if_neg x4, if_neg x5, if_neg x6, if_neg x7, if_neg x8]
    exact ⟨by rw [hcm], rfl, by rw [hcm]⟩
  by_cases s4_119 : y4 = 119
  · subst s4_119
    refine w_tableIn (pc := 4) (tgt := 192) (off := 188) dX11_calls_4 (by decide) (by decide) (by decide) (by decide) ?_
    refine w_aload_0 (pc := 192) dX11_calls_192 ?_
    refine w_aload_0 (pc := 193) dX11_calls_193 ?_
    refine w_getR (pc := 194) (b := f) kc11 13 hO.1 hO.2.1 rfl hO.2.2.2.2.2.2.2.2.2.2.2.2.2.2.2.2.2.2.2.1 t776 dX11_calls_194 ?_
    refine w_iconst (pc := 197) (v := 0) dX11_calls_197 (by decide) ?_
    refine w_iald (pc := 198) (j := 0) hO.2.2.2.2.2.2.2.2.2.2.2.2.1 hO.2.2.2.2.2.2.2.2.2.2.2.2.2.1 rfl (by decide) (by decide) dX11_calls_198 ?_
    refine w_callV_I (pc := 199) (c_Mod_tick hO hp hp2 hS) ok_X11_tick t845 t846 kc11 hO.1 hO.2.1 t1023 ⟨Nat.le_of_ble_eq_true rfl, Nat.le_of_ble_eq_true rfl⟩ ⟨rfl, rfl⟩ ⟨Nat.le_refl _, Nat.le_refl _⟩ rfl (Nat.le_of_ble_eq_true rfl) dX11_calls_199 ?_
    refine w_iret (pc := 202) rfl ⟨Nat.le_refl _, Nat.le_refl _⟩ dX11_calls_202 ?_
    have hnn : ¬ l = 98 ∧ ¬ l = 115 ∧ ¬ l = 120 ∧ ¬ l = 122 ∧ ¬ l = 108 ∧ ¬ l = 103 ∧ ¬ l = 109 ∧ ¬ l = 99 := by rw [← hl, ← e4]; decide
    obtain ⟨x1, x2, x3, x4, x5, x6, x7, x8⟩ := hnn
    have hv : I f 0 = v := h1 (fun h => h.elim x1 (fun h => h.elim x2 (fun h => h.elim x3 x4)))
    rw [hv]
    have hcm : cmO (I a) l v w = oTick (I a) v := by unfold cmO; rw [if_neg x1, if_neg x2, if_neg x3, if_neg x4, if_neg x5, if_neg x6, if_neg x7, if_neg x8]
    exact ⟨by rw [hcm], rfl, by rw [hcm]⟩
  by_cases s4_120 : y4 = 120
  · subst s4_120
    refine w_tableIn (pc := 4) (tgt := 131) (off := 127) dX11_calls_4 (by decide) (by decide) (by decide) (by decide) ?_
    refine w_aload_0 (pc := 131) dX11_calls_131 ?_
    refine w_iconst (pc := 132) (v := 0) dX11_calls_132 (by decide) ?_
    refine w_callV_I (pc := 133) (c_Mod_run hO hp hp2) ok_X11_run t824 t825 kc11 hO.1 hO.2.1 t1017 ⟨Nat.le_of_ble_eq_true rfl, Nat.le_of_ble_eq_true rfl⟩ ⟨rfl, rfl⟩ ⟨Nat.le_refl _, Nat.le_refl _⟩ rfl (Nat.le_of_ble_eq_true rfl) dX11_calls_133 ?_
    refine w_iret (pc := 136) rfl ⟨Nat.le_refl _, Nat.le_refl _⟩ dX11_calls_136 ?_
    have hcm : cmO (I a) l v w = oRun (I a) 0 := by rw [← hl, ← e4]; unfold cmO; rw [if_neg (by decide), if_neg (by decide), if_pos rfl]
    exact ⟨by rw [hcm], rfl, by rw [hcm]⟩
  by_cases s4_121 : y4 = 121
  · subst s4_121
    refine w_tableIn (pc := 4) (tgt := 192) (off := 188) dX11_calls_4 (by decide) (by decide) (by decide) (by decide) ?_
    refine w_aload_0 (pc := 192) dX11_calls_192 ?_
    refine w_aload_0 (pc := 193) dX11_calls_193 ?_
    refine w_getR (pc := 194) (b := f) kc11 13 hO.1 hO.2.1 rfl hO.2.2.2.2.2.2.2.2.2.2.2.2.2.2.2.2.2.2.2.1 t776 dX11_calls_194 ?_
    refine w_iconst (pc := 197) (v := 0) dX11_calls_197 (by decide) ?_
    refine w_iald (pc := 198) (j := 0) hO.2.2.2.2.2.2.2.2.2.2.2.2.1 hO.2.2.2.2.2.2.2.2.2.2.2.2.2.1 rfl (by decide) (by decide) dX11_calls_198 ?_
    refine w_callV_I (pc := 199) (c_Mod_tick hO hp hp2 hS) ok_X11_tick t845 t846 kc11 hO.1 hO.2.1 t1023 ⟨Nat.le_of_ble_eq_true rfl, Nat.le_of_ble_eq_true rfl⟩ ⟨rfl, rfl⟩ ⟨Nat.le_refl _, Nat.le_refl _⟩ rfl (Nat.le_of_ble_eq_true rfl) dX11_calls_199 ?_
    refine w_iret (pc := 202) rfl ⟨Nat.le_refl _, Nat.le_refl _⟩ dX11_calls_202 ?_
    have hnn : ¬ l = 98 ∧ ¬ l = 115 ∧ ¬ l = 120 ∧ ¬ l = 122 ∧ ¬ l = 108 ∧ ¬ l = 103 ∧ ¬ l = 109 ∧ ¬ l = 99 := by rw [← hl, ← e4]; decide
    obtain ⟨x1, x2, x3, x4, x5, x6, x7, x8⟩ := hnn
    have hv : I f 0 = v := h1 (fun h => h.elim x1 (fun h => h.elim x2 (fun h => h.elim x3 x4)))
    rw [hv]
    have hcm : cmO (I a) l v w = oTick (I a) v := by unfold cmO; rw [if_neg x1, if_neg x2, if_neg x3, if_neg x4, if_neg x5, if_neg x6, if_neg x7, if_neg x8]
    exact ⟨by rw [hcm], rfl, by rw [hcm]⟩
  by_cases s4_122 : y4 = 122
  · subst s4_122
    refine w_tableIn (pc := 4) (tgt := 137) (off := 133) dX11_calls_4 (by decide) (by decide) (by decide) (by decide) ?_
    refine w_aload_0 (pc := 137) dX11_calls_137 ?_
    refine w_callV_I (pc := 138) (c_Mod_zero hO hp hp2) ok_X11_zero t873 t874 kc11 hO.1 hO.2.1 t1018 ⟨Nat.le_of_ble_eq_true rfl, Nat.le_of_ble_eq_true rfl⟩ ⟨rfl, rfl⟩ ⟨Nat.le_refl _, Nat.le_refl _⟩ rfl (Nat.le_of_ble_eq_true rfl) dX11_calls_138 ?_
    refine w_iret (pc := 141) rfl ⟨Nat.le_refl _, Nat.le_refl _⟩ dX11_calls_141 ?_
    have hcm : cmO (I a) l v w = oZero (I a) := by rw [← hl, ← e4]; unfold cmO; rw [if_neg (by decide), if_neg (by decide), if_neg (by decide), if_pos rfl]
    exact ⟨by rw [hcm], rfl, by rw [hcm]⟩
  have q4_98 := lv_neT (a := 98) s4_98 (by decide)
  have q4_99 := lv_neT (a := 99) s4_99 (by decide)
  have q4_100 := lv_neT (a := 100) s4_100 (by decide)
  have q4_101 := lv_neT (a := 101) s4_101 (by decide)
  have q4_102 := lv_neT (a := 102) s4_102 (by decide)
  have q4_103 := lv_neT (a := 103) s4_103 (by decide)
  have q4_104 := lv_neT (a := 104) s4_104 (by decide)
  have q4_105 := lv_neT (a := 105) s4_105 (by decide)
  have q4_106 := lv_neT (a := 106) s4_106 (by decide)
  have q4_107 := lv_neT (a := 107) s4_107 (by decide)
  have q4_108 := lv_neT (a := 108) s4_108 (by decide)
  have q4_109 := lv_neT (a := 109) s4_109 (by decide)
  have q4_110 := lv_neT (a := 110) s4_110 (by decide)
  have q4_111 := lv_neT (a := 111) s4_111 (by decide)
  have q4_112 := lv_neT (a := 112) s4_112 (by decide)
  have q4_113 := lv_neT (a := 113) s4_113 (by decide)
  have q4_114 := lv_neT (a := 114) s4_114 (by decide)
  have q4_115 := lv_neT (a := 115) s4_115 (by decide)
  have q4_116 := lv_neT (a := 116) s4_116 (by decide)
  have q4_117 := lv_neT (a := 117) s4_117 (by decide)
  have q4_118 := lv_neT (a := 118) s4_118 (by decide)
  have q4_119 := lv_neT (a := 119) s4_119 (by decide)
  have q4_120 := lv_neT (a := 120) s4_120 (by decide)
  have q4_121 := lv_neT (a := 121) s4_121 (by decide)
  have q4_122 := lv_neT (a := 122) s4_122 (by decide)
  refine w_tableOut (pc := 4) (tgt := 192) dX11_calls_4 (by omega) (by decide) ?_
  refine w_aload_0 (pc := 192) dX11_calls_192 ?_
  refine w_aload_0 (pc := 193) dX11_calls_193 ?_
  refine w_getR (pc := 194) (b := f) kc11 13 hO.1 hO.2.1 rfl hO.2.2.2.2.2.2.2.2.2.2.2.2.2.2.2.2.2.2.2.1 t776 dX11_calls_194 ?_
  refine w_iconst (pc := 197) (v := 0) dX11_calls_197 (by decide) ?_
  refine w_iald (pc := 198) (j := 0) hO.2.2.2.2.2.2.2.2.2.2.2.2.1 hO.2.2.2.2.2.2.2.2.2.2.2.2.2.1 rfl (by decide) (by decide) dX11_calls_198 ?_
  refine w_callV_I (pc := 199) (c_Mod_tick hO hp hp2 hS) ok_X11_tick t845 t846 kc11 hO.1 hO.2.1 t1023 ⟨Nat.le_of_ble_eq_true rfl, Nat.le_of_ble_eq_true rfl⟩ ⟨rfl, rfl⟩ ⟨Nat.le_refl _, Nat.le_refl _⟩ rfl (Nat.le_of_ble_eq_true rfl) dX11_calls_199 ?_
  refine w_iret (pc := 202) rfl ⟨Nat.le_refl _, Nat.le_refl _⟩ dX11_calls_202 ?_
  have hnn : ¬ l = 98 ∧ ¬ l = 115 ∧ ¬ l = 120 ∧ ¬ l = 122 ∧ ¬ l = 108 ∧ ¬ l = 103 ∧ ¬ l = 109 ∧ ¬ l = 99 := by rw [← hl, ← e4]; exact ⟨s4_98, s4_115, s4_120, s4_122, s4_108, s4_103, s4_109, s4_99⟩
  obtain ⟨x1, x2, x3, x4, x5, x6, x7, x8⟩ := hnn
  have hv : I f 0 = v := h1 (fun h => h.elim x1 (fun h => h.elim x2 (fun h => h.elim x3 x4)))
  rw [hv]
  have hcm : cmO (I a) l v w = oTick (I a) v := by unfold cmO; rw [if_neg x1, if_neg x2, if_neg x3, if_neg x4, if_neg x5, if_neg x6, if_neg x7, if_neg x8]
  exact ⟨by rw [hcm], rfl, by rw [hcm]⟩
set_option maxHeartbeats 4000000 in
set_option maxRecDepth 100000 in
theorem c_Mod_plays {g : kG} {σ : kS} {I : kI} {q a b c d e f : Nat} (hO : sMod g σ q a b c d e f) {n1 : Nat} (hp : I q 4 = nI n1) (hp2 : n1 ≤ 4) {n0 : Nat} (hn : I q 7 = nI n0) (hn2 : n0 ≤ 60) {K : kV → Prop} (kc : kClosed K) (hK : K (I a)) : ct g mX11_plays ⟨7, 0, 0, 149⟩ [.ref q] σ I (qEI σ (fun r I1 => (∀ z, z ≠ q → z ≠ a → z ≠ f → I1 z = I z) ∧ (∀ k, k = 4 ∨ k = 7 ∨ k = 8 → I1 q k = I q k) ∧ I1 q 5 = 0 ∧ (∀ k, 149 ≤ k → I1 a k = I a k) ∧ plOK (pl (I e) n0 61 0 (I a) 0) r I1 q a)) := by
  refine ct_of pn11 rfl (Nat.le_of_ble_eq_true rfl) ok_X11_plays.1 trivial ?_
  show wp _ _ _ _ _ _ _ _ 0 [some (.ref q), none, none, none] []
  have o0 := hO.2.2.2.2.2.2.2.2.2.2.2.2.2.2.2.2.2.2.2.2.1
  have o1 := hO.2.2.2.2.2.2.2.2.2.2.2.2.2.2.2.2.2.2.2.2.2.1
  have o2 := hO.2.2.2.2.2.2.2.2.2.2.2.2.2.2.2.2.2.2.2.2.2.2.1
  have o3 := hO.2.2.2.2.2.2.2.2.2.2.2.2.2.2.2.2.2.2.2.2.2.2.2.1
  have o4 := hO.2.2.2.2.2.2.2.2.2.2.2.2.2.2.2.2.2.2.2.2.2.2.2.2.1
  have o5 := hO.2.2.2.2.2.2.2.2.2.2.2.2.2.2.2.2.2.2.2.2.2.2.2.2.2
  have aq : a ≠ q := by omega
  have fq : f ≠ q := by omega
  have af : a ≠ f := by omega
  have J90t : ∀ (J : kI) (cc : Nat), (∀ z, z ≠ q → z ≠ a → z ≠ f → J z = I z) → (∀ k, k = 4 ∨ k = 7 ∨ k = 8 → J q k = I q k) → (∀ k, 149 ≤ k → J a k = I a k) → pl (I e) n0 61 0 (I a) 0 = (none, J a, cc) → J q 11 = nI cc → wp g mX11_plays ⟨7, 0, 0, 149⟩ (fun _ => True) (qEI σ (fun r I1 => (∀ z, z ≠ q → z ≠ a → z ≠ f → I1 z = I z) ∧ (∀ k, k = 4 ∨ k = 7 ∨ k = 8 → I1 q k = I q k) ∧ I1 q 5 = 0 ∧ (∀ k, 149 ≤ k → I1 a k = I a k) ∧ plOK (pl (I e) n0 61 0 (I a) 0) r I1 q a)) (0, 0) σ J 90 [some (.ref q), none, some (.int 1), none] [] := by
    intro J cc f1 f2 f3 hpl hc
    refine w_aload_0 (pc := 90) dX11_plays_90 ?_
    refine w_iconst (pc := 91) (v := 0) dX11_plays_91 (by decide) ?_
    refine w_putI (pc := 92) kc11 5 hO.1 hO.2.1 rfl t768 rfl (tyX11_ok 5 (by decide)) (by decide) (by decide) dX11_plays_92 ?_
    refine w_iload_2 (pc := 95) dX11_plays_95 ?_
    refine w_if_eq (pc := 96) (tgt := 104) dX11_plays_96 (by decide) (fun c9 => absurd c9 (by decide)) (fun _ => ?_)
    refine w_ldc (pc := 99) (v := -1000004) t762 dX11_plays_99 ?_
    refine w_goto (pc := 101) (tgt := 105) dX11_plays_101 (by decide) ?_
    refine w_iret (pc := 105) rfl ⟨Nat.le_refl _, Nat.le_refl _⟩ dX11_plays_105 ?_
    refine ⟨_, rfl, rfl, fun z h1 h2 h3 => by rw [kst_n h1]; exact f1 z h1 h2 h3, fun k hk => by rw [kst_s, upd_ne (by omega)]; exact f2 k hk, by rw [kst_s, upd_s], fun k hk => by rw [kst_n (by omega)]; exact f3 k hk, ?_⟩
    rw [hpl]
    exact ⟨rfl, by rw [kst_n (by omega)], by rw [kst_s, upd_ne (by omega)]; exact hc⟩
  have J90f : ∀ (J : kI) (pz cc : Nat) (cs : Int32), (∀ z, z ≠ q → z ≠ a → z ≠ f → J z = I z) → (∀ k, k = 4 ∨ k = 7 ∨ k = 8 → J q k = I q k) → (∀ k, 149 ≤ k → J a k = I a k) → pl (I e) n0 61 0 (I a) 0 = (some (pz, cs), J a, cc) → J q 11 = nI cc → J q 10 = cs → wp g mX11_plays ⟨7, 0, 0, 149⟩ (fun _ => True) (qEI σ (fun r I1 => (∀ z, z ≠ q → z ≠ a → z ≠ f → I1 z = I z) ∧ (∀ k, k = 4 ∨ k = 7 ∨ k = 8 → I1 q k = I q k) ∧ I1 q 5 = 0 ∧ (∀ k, 149 ≤ k → I1 a k = I a k) ∧ plOK (pl (I e) n0 61 0 (I a) 0) r I1 q a)) (0, 0) σ J 90 [some (.ref q), some (.int (nI pz)), some (.int 0), none] [] := by
    intro J pz cc cs f1 f2 f3 hpl hc hcs
    refine w_aload_0 (pc := 90) dX11_plays_90 ?_
    refine w_iconst (pc := 91) (v := 0) dX11_plays_91 (by decide) ?_
    refine w_putI (pc := 92) kc11 5 hO.1 hO.2.1 rfl t768 rfl (tyX11_ok 5 (by decide)) (by decide) (by decide) dX11_plays_92 ?_
    refine w_iload_2 (pc := 95) dX11_plays_95 ?_
    refine w_if_eq (pc := 96) (tgt := 104) dX11_plays_96 (by decide) (fun _ => ?_) (fun c9 => absurd (by decide) c9)
    refine w_iload_1 (pc := 104) dX11_plays_104 ?_
    refine w_iret (pc := 105) rfl ⟨Nat.le_refl _, Nat.le_refl _⟩ dX11_plays_105 ?_
    refine ⟨_, rfl, rfl, fun z h1 h2 h3 => by rw [kst_n h1]; exact f1 z h1 h2 h3, fun k hk => by rw [kst_s, upd_ne (by omega)]; exact f2 k hk, by rw [kst_s, upd_s], fun k hk => by rw [kst_n (by omega)]; exact f3 k hk, ?_⟩
    rw [hpl]
    exact ⟨rfl, by rw [kst_n (by omega)], by rw [kst_s, upd_ne (by omega)]; exact hc, by rw [kst_s, upd_ne (by omega)]; exact hcs⟩
  have J19f : ∀ (J : kI) (pz cc : Nat) (cs : Int32), (∀ z, z ≠ q → z ≠ a → z ≠ f → J z = I z) → (∀ k, k = 4 ∨ k = 7 ∨ k = 8 → J q k = I q k) → (∀ k, 149 ≤ k → J a k = I a k) → pl (I e) n0 61 0 (I a) 0 = (some (pz, cs), J a, cc) → J q 11 = nI cc → J q 10 = cs → wp g mX11_plays ⟨7, 0, 0, 149⟩ (fun _ => True) (qEI σ (fun r I1 => (∀ z, z ≠ q → z ≠ a → z ≠ f → I1 z = I z) ∧ (∀ k, k = 4 ∨ k = 7 ∨ k = 8 → I1 q k = I q k) ∧ I1 q 5 = 0 ∧ (∀ k, 149 ≤ k → I1 a k = I a k) ∧ plOK (pl (I e) n0 61 0 (I a) 0) r I1 q a)) (0, 0) σ J 19 [some (.ref q), some (.int (nI pz)), some (.int 0), none] [] := by
    intro J pz cc cs f1 f2 f3 hpl hc hcs
    refine w_aload_0 (pc := 19) dX11_plays_19 ?_
    refine w_getI (pc := 20) kc11 9 hO.1 hO.2.1 rfl t772 dX11_plays_20 ?_
    refine w_aload_0 (pc := 23) dX11_plays_23 ?_
    refine w_getI (pc := 24) kc11 7 hO.1 hO.2.1 rfl t770 dX11_plays_24 ?_
    refine w_icmp_ge (pc := 27) (tgt := 90) dX11_plays_27 (by decide) (fun c27 => ?_) (fun c27 => ?_)
    · exact J90f J pz cc cs f1 f2 f3 hpl hc hcs
    · refine w_iload_2 (pc := 30) dX11_plays_30 ?_
      refine w_if_eq (pc := 31) (tgt := 90) dX11_plays_31 (by decide) (fun _ => ?_) (fun c9 => absurd (by decide) c9)
      exact J90f J pz cc cs f1 f2 f3 hpl hc hcs
  refine w_aload_0 (pc := 0) dX11_plays_0 ?_
  refine w_iconst (pc := 1) (v := 1) dX11_plays_1 (by decide) ?_
  refine w_putI (pc := 2) kc11 5 hO.1 hO.2.1 rfl t768 rfl (tyX11_ok 5 (by decide)) (by decide) (by decide) dX11_plays_2 ?_
  refine w_aload_0 (pc := 5) dX11_plays_5 ?_
  refine w_iconst (pc := 6) (v := 0) dX11_plays_6 (by decide) ?_
  refine w_putI (pc := 7) kc11 9 hO.1 hO.2.1 rfl t772 rfl (tyX11_ok 9 (by decide)) rfl rfl dX11_plays_7 ?_
  refine w_aload_0 (pc := 10) dX11_plays_10 ?_
  refine w_iconst (pc := 11) (v := 0) dX11_plays_11 (by decide) ?_
  refine w_putI (pc := 12) kc11 11 hO.1 hO.2.1 rfl t774 rfl (tyX11_ok 11 (by decide)) rfl rfl dX11_plays_12 ?_
  refine w_iconst (pc := 15) (v := 0) dX11_plays_15 (by decide) ?_
  refine w_istore_1 (pc := 16) dX11_plays_16 rfl ?_
  refine w_iconst (pc := 17) (v := 1) dX11_plays_17 (by decide) ?_
  refine w_istore_2 (pc := 18) dX11_plays_18 rfl ?_
  have L0 : ∀ (m p cc : Nat) (J : kI), p ≤ n0 → 61 ≤ p + m → (∀ z, z ≠ q → z ≠ a → z ≠ f → J z = I z) → (∀ k, k = 4 ∨ k = 7 ∨ k = 8 → J q k = I q k) → (∀ k, 149 ≤ k → J a k = I a k) → J q 5 = 1 → J q 9 = nI p → J q 11 = nI cc → K (J a) → pl (I e) n0 m p (J a) cc = pl (I e) n0 61 0 (I a) 0 → wp g mX11_plays ⟨7, 0, 0, 149⟩ (fun _ => True) (qEI σ (fun r I1 => (∀ z, z ≠ q → z ≠ a → z ≠ f → I1 z = I z) ∧ (∀ k, k = 4 ∨ k = 7 ∨ k = 8 → I1 q k = I q k) ∧ I1 q 5 = 0 ∧ (∀ k, 149 ≤ k → I1 a k = I a k) ∧ plOK (pl (I e) n0 61 0 (I a) 0) r I1 q a)) (0, 0) σ J 19 [some (.ref q), none, some (.int 1), none] [] := by
    intro m
    induction m with
    | zero =>
      intro p cc J hpn hpm f1 f2 f3 h5 h9 h11 hK hpl
      exact absurd hpm (by omega)
    | succ m ih =>
      intro p cc J hpn hpm f1 f2 f3 h5 h9 h11 hK hpl
      have je : J e = I e := f1 e (by omega) (by omega) (by omega)
      have j7 : J q 7 = nI n0 := by rw [f2 7 (by omega)]; exact hn
      have j4 : J q 4 = nI n1 := by rw [f2 4 (by omega)]; exact hp
      refine w_aload_0 (pc := 19) dX11_plays_19 ?_
      refine w_getI (pc := 20) kc11 9 hO.1 hO.2.1 rfl t772 dX11_plays_20 ?_
      refine w_aload_0 (pc := 23) dX11_plays_23 ?_
      refine w_getI (pc := 24) kc11 7 hO.1 hO.2.1 rfl t770 dX11_plays_24 ?_
      refine w_icmp_ge (pc := 27) (tgt := 90) dX11_plays_27 (by decide) (fun c27 => ?_) (fun c27 => ?_)
      · refine J90t J cc f1 f2 f3 ?_ h11
        rw [← hpl, pl, if_neg (Nat.not_lt.mpr ((nx_cmp j7 (by omega) h9 (by omega)).1.mp c27))]
      · have hpn1 : p < n0 := nx_nle c27 j7 (by omega) h9 (by omega)
        refine w_iload_2 (pc := 30) dX11_plays_30 ?_
        refine w_if_eq (pc := 31) (tgt := 90) dX11_plays_31 (by decide) (fun c9 => absurd c9 (by decide)) (fun _ => ?_)
        refine w_aload_0 (pc := 34) dX11_plays_34 ?_
        refine w_getI (pc := 35) kc11 9 hO.1 hO.2.1 rfl t772 dX11_plays_35 ?_
        refine w_istore_1 (pc := 38) dX11_plays_38 rfl ?_
        refine w_aload_0 (pc := 39) dX11_plays_39 ?_
        refine w_callV_EI (pc := 40) (c_Mod_parses hO j7 hn2 h9 hpn1) ok_X11_parses t998 t29 kc11 hO.1 hO.2.1 t996 ⟨Nat.le_of_ble_eq_true rfl, Nat.le_of_ble_eq_true rfl⟩ ⟨rfl, rfl⟩ ⟨Nat.le_refl _, Nat.le_refl _⟩ rfl (Nat.le_of_ble_eq_true rfl) dX11_plays_40 (fun r40 I40 h40 => ?_)
        obtain ⟨g1, g2, g3⟩ := h40
        have k5 : I40 q 5 = 1 := by rw [g2 5 (by omega) (by omega)]; exact h5
        have ka : I40 a = J a := g1 a (by omega) (by omega)
        have k4 : I40 q 4 = nI n1 := by rw [g2 4 (by omega) (by omega)]; exact j4
        have k11 : I40 q 11 = nI cc := by rw [g2 11 (by omega) (by omega)]; exact h11
        have kS : SX (I40 a) := by rw [ka]; exact (kc _ hK).1
        rw [je] at g3
        refine w_istore_3 (pc := 43) dX11_plays_43 rfl ?_
        refine w_aload_0 (pc := 44) dX11_plays_44 ?_
        refine w_iload_3 (pc := 45) dX11_plays_45 ?_
        refine w_if_eq (pc := 46) (tgt := 56) dX11_plays_46 (by decide) (fun c46 => ?_) (fun c46 => ?_)
        · have hz : ps (I e) n0 p = none := by
            cases hz : ps (I e) n0 p with
            | none => rfl
            | some z => rw [hz] at g3; have := g3.1; rw [c46] at this; exact absurd this (by decide)
          refine w_iconst (pc := 56) (v := 0) dX11_plays_56 (by decide) ?_
          refine w_putI (pc := 57) kc11 10 hO.1 hO.2.1 rfl t773 rfl (tyX11_ok 10 (by decide)) rfl rfl dX11_plays_57 ?_
          refine w_iload_3 (pc := 60) dX11_plays_60 ?_
          refine w_if_eq (pc := 61) (tgt := 75) dX11_plays_61 (by decide) (fun c61 => ?_) (fun c61 => ?_)
          · refine w_iconst (pc := 75) (v := 0) dX11_plays_75 (by decide) ?_
            refine w_istore_2 (pc := 76) dX11_plays_76 rfl ?_
            refine w_aload_0 (pc := 77) dX11_plays_77 ?_
            refine w_dup_a (pc := 78) dX11_plays_78 ?_
            refine w_getI (pc := 79) kc11 11 hO.1 hO.2.1 rfl t774 dX11_plays_79 ?_
            refine w_iconst (pc := 82) (v := 1) dX11_plays_82 (by decide) ?_
            refine w_iadd (pc := 83) dX11_plays_83 ?_
            refine w_putI (pc := 84) kc11 11 hO.1 hO.2.1 rfl t774 rfl (tyX11_ok 11 (by decide)) rfl rfl dX11_plays_84 ?_
            refine w_goto (pc := 87) (tgt := 19) dX11_plays_87 (by decide) ?_
            rw [h9]
            refine w_drop 3 (J19f _ p (cc + 1) 0 (fun z h1 h2 h3 => by rw [kst_n h1, kst_n h1, g1 z h1 h3]; exact f1 z h1 h2 h3) (fun k hk => by rw [kst_s, upd_ne (by omega), kst_s, upd_ne (by omega), g2 k (by omega) (by omega)]; exact f2 k hk) (fun k hk => by rw [kst_n aq, kst_n aq, ka]; exact f3 k hk) ?_ ?_ ?_)
            · rw [← hpl, pl, if_pos hpn1, hz, kst_n aq, kst_n aq, ka]
            · rw [kst_s, upd_s, kst_s, upd_ne (by omega), k11, nI_1]
            · rw [kst_s, upd_ne (by omega), kst_s, upd_s]
          · exact absurd c46 c61
        · obtain ⟨z, hz⟩ : ∃ z, ps (I e) n0 p = some z := by
            cases hz : ps (I e) n0 p with
            | none => rw [hz] at g3; exact absurd g3 c46
            | some z => exact ⟨z, rfl⟩
          rw [hz] at g3
          obtain ⟨-, y12, y9, yv, yw⟩ := g3
          have zb := ps_end hz hpn1 hn2
          refine w_aload_0 (pc := 49) dX11_plays_49 ?_
          refine w_callV_I (pc := 50) (c_Mod_calls hO k4 hp2 kS y12 yv yw) ok_X11_calls t1014 t33 kc11 hO.1 hO.2.1 t1012 ⟨Nat.le_of_ble_eq_true rfl, Nat.le_of_ble_eq_true rfl⟩ ⟨rfl, rfl⟩ ⟨Nat.le_refl _, Nat.le_refl _⟩ rfl (Nat.le_of_ble_eq_true rfl) dX11_plays_50 ?_
          have hop : opM q a b I40 (cmO (I40 a) z.1 z.2.1 z.2.2.1) = (match (cmO (J a) z.1 z.2.1 z.2.2.1).2 with | none => I40 | some s' => va_up I40 a s') := by
            rw [ka]
            unfold opM
            cases (cmO (J a) z.1 z.2.1 z.2.2.1).2 with
            | none => rfl
            | some s' => show va_up (chM q a b I40) a s' = _; rw [chM, if_pos (by rw [k5]; decide)]
          rw [hop, ka]
          refine w_goto (pc := 53) (tgt := 57) dX11_plays_53 (by decide) ?_
          refine w_putI (pc := 57) kc11 10 hO.1 hO.2.1 rfl t773 rfl (tyX11_ok 10 (by decide)) rfl rfl dX11_plays_57 ?_
          refine w_iload_3 (pc := 60) dX11_plays_60 ?_
          refine w_if_eq (pc := 61) (tgt := 75) dX11_plays_61 (by decide) (fun c61 => ?_) (fun c61 => ?_)
          · exact absurd c61 c46
          · refine w_aload_0 (pc := 64) dX11_plays_64 ?_
            refine w_getI (pc := 65) kc11 10 hO.1 hO.2.1 rfl t773 dX11_plays_65 ?_
            refine w_if_lt (pc := 68) (tgt := 75) dX11_plays_68 (by decide) (fun c68 => ?_) (fun c68 => ?_)
            · have hcr : (cmO (J a) z.1 z.2.1 z.2.2.1).1 < 0 := by rw [kst_s, upd_s] at c68; exact c68
              have hno : (cmO (J a) z.1 z.2.1 z.2.2.1).2 = none := by
                cases ho : (cmO (J a) z.1 z.2.1 z.2.2.1).2 with
                | none => rfl
                | some t => exact absurd hcr (Int32.not_lt.mpr ((kc _ hK).2 z.1 z.2.1 z.2.2.1 _ _ (show cmO (J a) z.1 z.2.1 z.2.2.1 = ((cmO (J a) z.1 z.2.1 z.2.2.1).1, some t) by rw [← ho])).1)
              simp only [hno]
              refine w_iconst (pc := 75) (v := 0) dX11_plays_75 (by decide) ?_
              refine w_istore_2 (pc := 76) dX11_plays_76 rfl ?_
              refine w_aload_0 (pc := 77) dX11_plays_77 ?_
              refine w_dup_a (pc := 78) dX11_plays_78 ?_
              refine w_getI (pc := 79) kc11 11 hO.1 hO.2.1 rfl t774 dX11_plays_79 ?_
              refine w_iconst (pc := 82) (v := 1) dX11_plays_82 (by decide) ?_
              refine w_iadd (pc := 83) dX11_plays_83 ?_
              refine w_putI (pc := 84) kc11 11 hO.1 hO.2.1 rfl t774 rfl (tyX11_ok 11 (by decide)) rfl rfl dX11_plays_84 ?_
              refine w_goto (pc := 87) (tgt := 19) dX11_plays_87 (by decide) ?_
              rw [h9]
              refine w_drop 3 (J19f _ p (cc + 1) (cmO (J a) z.1 z.2.1 z.2.2.1).1 (fun y h1 h2 h3 => by rw [kst_n h1, kst_n h1, g1 y h1 h3]; exact f1 y h1 h2 h3) (fun k hk => by rw [kst_s, upd_ne (by omega), kst_s, upd_ne (by omega), g2 k (by omega) (by omega)]; exact f2 k hk) (fun k hk => by rw [kst_n aq, kst_n aq, ka]; exact f3 k hk) ?_ ?_ ?_)
              · rw [← hpl, pl, if_pos hpn1, hz, kst_n aq, kst_n aq, ka]
                simp only
                rw [show cmO (J a) z.1 z.2.1 z.2.2.1 = ((cmO (J a) z.1 z.2.1 z.2.2.1).1, none) by rw [← hno]]
              · rw [kst_s, upd_s, kst_s, upd_ne (by omega), k11, nI_1]
              · rw [kst_s, upd_ne (by omega), kst_s, upd_s]
            · have hcr : ¬ (cmO (J a) z.1 z.2.1 z.2.2.1).1 < 0 := by rw [kst_s, upd_s] at c68; exact c68
              obtain ⟨t, hno⟩ : ∃ t, (cmO (J a) z.1 z.2.1 z.2.2.1).2 = some t := by
                cases ho : (cmO (J a) z.1 z.2.1 z.2.2.1).2 with
                | none => exact absurd (cmO_neg ho) hcr
                | some t => exact ⟨t, rfl⟩
              have hcm : cmO (J a) z.1 z.2.1 z.2.2.1 = ((cmO (J a) z.1 z.2.1 z.2.2.1).1, some t) := by rw [← hno]
              obtain ⟨-, hKt, htk⟩ := (kc _ hK).2 z.1 z.2.1 z.2.2.1 _ _ hcm
              simp only [hno]
              refine w_iconst (pc := 71) (v := 1) dX11_plays_71 (by decide) ?_
              refine w_goto (pc := 72) (tgt := 76) dX11_plays_72 (by decide) ?_
              refine w_istore_2 (pc := 76) dX11_plays_76 rfl ?_
              refine w_aload_0 (pc := 77) dX11_plays_77 ?_
              refine w_dup_a (pc := 78) dX11_plays_78 ?_
              refine w_getI (pc := 79) kc11 11 hO.1 hO.2.1 rfl t774 dX11_plays_79 ?_
              refine w_iconst (pc := 82) (v := 1) dX11_plays_82 (by decide) ?_
              refine w_iadd (pc := 83) dX11_plays_83 ?_
              refine w_putI (pc := 84) kc11 11 hO.1 hO.2.1 rfl t774 rfl (tyX11_ok 11 (by decide)) rfl rfl dX11_plays_84 ?_
              refine w_goto (pc := 87) (tgt := 19) dX11_plays_87 (by decide) ?_
              refine w_drop 1 (w_drop 3 (ih z.2.2.2 (cc + 1) _ (by omega) (by omega) (fun y h1 h2 h3 => by rw [kst_n h1, kst_n h1, va_up_ne _ _ h2, g1 y h1 h3]; exact f1 y h1 h2 h3) (fun k hk => by rw [kst_s, upd_ne (by omega), kst_s, upd_ne (by omega), va_up_ne _ _ aq.symm, g2 k (by omega) (by omega)]; exact f2 k hk) (fun k hk => by rw [kst_n aq, kst_n aq, va_up_self, htk k hk]; exact f3 k hk) ?_ ?_ ?_ ?_ ?_))
              · rw [kst_s, upd_ne (by omega), kst_s, upd_ne (by omega), va_up_ne _ _ aq.symm]; exact k5
              · rw [kst_s, upd_ne (by omega), kst_s, upd_ne (by omega), va_up_ne _ _ aq.symm]; exact y9
              · rw [kst_s, upd_s, kst_s, upd_ne (by omega), va_up_ne _ _ aq.symm, k11, nI_1]
              · rw [kst_n aq, kst_n aq, va_up_self]; exact hKt
              · rw [← hpl, kst_n aq, kst_n aq, va_up_self]
                conv => rhs; rw [pl]
                rw [if_pos hpn1, hz]
                simp only
                rw [hcm]
  refine w_drop 1 (L0 61 0 0 _ (Nat.zero_le _) (by omega) (fun z h1 h2 h3 => by rw [kst_n h1, kst_n h1, kst_n h1]) (fun k hk => by rw [kst_s, upd_ne (by omega), kst_s, upd_ne (by omega), kst_s, upd_ne (by omega)]) (fun k hk => by rw [kst_n aq, kst_n aq, kst_n aq]) ?_ ?_ ?_ ?_ ?_)
  · rw [kst_s, upd_ne (by omega), kst_s, upd_ne (by omega), kst_s, upd_s]
  · rw [kst_s, upd_ne (by omega), kst_s, upd_s]; rfl
  · rw [kst_s, upd_s]; rfl
  · rw [kst_n aq, kst_n aq, kst_n aq]; exact hK
  · rw [kst_n aq, kst_n aq, kst_n aq]
