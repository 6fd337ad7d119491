def MFc (I J : kI) (c u p e : Nat) : Prop := (∀ z, z ≠ c → J z = I z) ∧ J c 0 = I u p ∧ J c 3 = nI e
theorem MFc_put {I J : kI} {c u p e k : Nat} {x : Int32} (h : MFc I J c u p e) (h0 : k ≠ 0) (h3 : k ≠ 3) : MFc I (kst J c k x) c u p e :=
  ⟨fun z hz => by rw [kst_n hz]; exact h.1 z hz, by rw [kst_s, upd_ne (Ne.symm h0)]; exact h.2.1, by rw [kst_s, upd_ne (Ne.symm h3)]; exact h.2.2⟩
theorem MFc_end {I J : kI} {c u p e f : Nat} (h : MFc I J c u p e) : MFc I (kst J c 3 (nI f)) c u p f :=
  ⟨fun z hz => by rw [kst_n hz]; exact h.1 z hz, by rw [kst_s, upd_ne (by omega)]; exact h.2.1, by rw [kst_s, upd_s]⟩
theorem MFc_mk {I : kI} {c u p : Nat} : MFc I (kst (kst (kst (kst I c 0 (I u p)) c 1 0) c 2 0) c 3 (nI (p + 1))) c u p (p + 1) :=
  ⟨fun z hz => by rw [kst_n hz, kst_n hz, kst_n hz, kst_n hz], by rw [kst_s, upd_ne (by omega), kst_s, upd_ne (by omega), kst_s, upd_ne (by omega), kst_s, upd_s], by rw [kst_s, upd_s]⟩
def psC (z : Option kC) (r : Int32) (I1 : kI) (c : Nat) : Prop := match z with
  | none => r = 0
  | some z => r = 1 ∧ I1 c 0 = z.1 ∧ I1 c 3 = nI z.2.2.2 ∧ (¬ (z.1 = 98 ∨ z.1 = 115 ∨ z.1 = 120 ∨ z.1 = 122) → I1 c 1 = z.2.1) ∧ (z.1 = 108 → I1 c 2 = z.2.2.1)
theorem nmV_b {f : kV} {n : Nat} (hT : TC f n) : ∀ (k p b j : Nat) (v : Int32), v = nI b → b < 10 ^ j → j + k ≤ 8 → ∃ b', b' < 10 ^ (j + k) ∧ nmV f n k p v = nI b'
  | 0, p, b, j, v, h1, h2, _ => ⟨b, h2, h1⟩
  | k + 1, p, b, j, v, h1, h2, h3 => by
    unfold nmV
    split
    · rename_i hc
      obtain ⟨m, m1, m2, m3⟩ := hT p hc.1
      have a1 := hc.2.1
      have a2 := hc.2.2
      rw [m3, ti_le, ti_nI (by omega), show (48 : Int32).toInt = 48 by decide] at a1
      rw [m3, ti_le, ti_nI (by omega), show (57 : Int32).toInt = 57 by decide] at a2
      have e : 10 * v + f p - 48 = nI (b * 10 + (m - 48)) := by
        rw [h1, m3, show (10 : Int32) = nI 10 from rfl, pk_mul, nI_add, show (48 : Int32) = nI 48 from rfl, pk_sub (by omega)]
        congr 1; omega
      obtain ⟨b', h4, h5⟩ := nmV_b hT k (p + 1) (b * 10 + (m - 48)) (j + 1) _ e (by rw [Nat.pow_succ]; omega) (by omega)
      exact ⟨b', by rw [show j + (k + 1) = j + 1 + k by omega]; exact h4, h5⟩
    · exact ⟨b, Nat.lt_of_lt_of_le h2 (Nat.pow_le_pow_right (by omega) (by omega)), h1⟩
theorem rd_neg {f : kV} {n p : Nat} {V : Int32} (hT : TC f n) (hV : V = if p < nmP f n 4 p then nmV f n 4 p 0 else -1) : (V < 0 → ¬ p < nmP f n 4 p) ∧ (¬ V < 0 → p < nmP f n 4 p ∧ V = nmV f n 4 p 0) := by
  obtain ⟨b, h1, h2⟩ := nmV_b hT 4 p 0 0 0 rfl (by omega) (by omega)
  have h1' : b < 10000 := h1
  by_cases h : p < nmP f n 4 p
  · rw [if_pos h] at hV
    exact ⟨fun q => absurd q (by rw [hV, h2]; exact nI_pos (by omega)), fun _ => ⟨h, hV⟩⟩
  · rw [if_neg h] at hV
    exact ⟨fun _ => h, fun q => absurd (by rw [hV]; decide) q⟩
set_option maxHeartbeats 4000000 in
set_option maxRecDepth 100000 in
theorem c_Cmd_read {g : kG} {σ : kS} {I : kI} {c t u : Nat} (hC : sCmd g σ c) (hO : sText g σ t u) (ct1 : c ≠ t) (ct2 : c ≠ u) {n0 : Nat} (hn : I t 1 = nI n0) (hn2 : n0 ≤ 60) (hT : TC (I u) n0) {p : Nat} (hpn : p < n0) : ct g mX3_read ⟨2, 0, 0, 45⟩ [.ref c, .ref t, .int (nI p)] σ I (qEI σ (fun r I1 => (∀ z, z ≠ c → I1 z = I z) ∧ psC (ps (I u) n0 p) r I1 c)) := by
  refine ct_of pn3 rfl (Nat.le_of_ble_eq_true rfl) ok_X3_read.1 trivial ?_
  show wp _ _ _ _ _ _ _ _ 0 [some (.ref c), some (.ref t), some (.int (nI p))] []
  have hJ144 : ∀ J, MFc I J c u p (p + 1) → (I u p = 98 ∨ I u p = 115 ∨ I u p = 120 ∨ I u p = 122) → wp g mX3_read ⟨2, 0, 0, 45⟩ (fun _ => True) (qEI σ (fun r I1 => (∀ z, z ≠ c → I1 z = I z) ∧ psC (ps (I u) n0 p) r I1 c)) (0, 0) σ J 144 [some (.ref c), some (.ref t), some (.int (nI p))] [] := by
      intro J mf hl
      have jn : J t 1 = nI n0 := by rw [mf.1 t ct1.symm]; exact hn
      have ju : J u = I u := mf.1 u ct2.symm
      refine w_aload_0 (pc := 144) dX3_read_144 ?_
      refine w_aload_1 (pc := 145) dX3_read_145 ?_
      refine w_bipush (pc := 146) (v := 59) dX3_read_146 (by decide) ?_
      refine w_callV_I (pc := 148) (c_Cmd_passes hC hO ct1 ct2 jn hn2 mf.2.2 (by omega) (by decide)) ok_X3_passes t729 t7 kc3 hC.1 hC.2 t727 ⟨Nat.le_of_ble_eq_true rfl, Nat.le_of_ble_eq_true rfl⟩ ⟨rfl, rfl⟩ ⟨Nat.le_refl _, Nat.le_refl _⟩ rfl (Nat.le_of_ble_eq_true rfl) dX3_read_148 ?_
      refine w_zret (pc := 151) rfl (by split <;> decide) ⟨Nat.le_refl _, Nat.le_refl _⟩ dX3_read_151 ?_
      have hps : ps (I u) n0 p = ps0 (I u) n0 p := by rw [ps, if_pos hl]
      by_cases hc : p + 1 < n0 ∧ J u (p + 1) = 59
      · rw [if_pos hc, if_pos hc]
        refine ⟨_, rfl, rfl, (MFc_end mf).1, ?_⟩
        rw [hps, ps0, if_pos (show at1 (I u) n0 (p + 1) 59 from ⟨hc.1, by rw [← ju]; exact hc.2⟩)]
        refine ⟨rfl, (MFc_end mf).2.1, (MFc_end mf).2.2, fun h => absurd hl h, fun h => ?_⟩
        exfalso
        have h3 : I u p = 108 := h
        rcases hl with h2 | h2 | h2 | h2 <;> rw [h3] at h2 <;> exact absurd h2 (by decide)
      · rw [if_neg hc, if_neg hc]
        refine ⟨_, rfl, rfl, mf.1, ?_⟩
        rw [hps, ps0, if_neg (fun h : at1 (I u) n0 (p + 1) 59 => hc ⟨h.1, by rw [ju]; exact h.2⟩)]
        rfl
  have hJ152 : ∀ J, MFc I J c u p (p + 1) → ¬ (I u p = 98 ∨ I u p = 115 ∨ I u p = 120 ∨ I u p = 122) → ¬ I u p = 108 → (I u p = 103 ∨ I u p = 109 ∨ I u p = 99 ∨ I u p = 116) → wp g mX3_read ⟨2, 0, 0, 45⟩ (fun _ => True) (qEI σ (fun r I1 => (∀ z, z ≠ c → I1 z = I z) ∧ psC (ps (I u) n0 p) r I1 c)) (0, 0) σ J 152 [some (.ref c), some (.ref t), some (.int (nI p))] [] := by
      intro J mf hl1 hl2 hl
      have jn : J t 1 = nI n0 := by rw [mf.1 t ct1.symm]; exact hn
      have ju : J u = I u := mf.1 u ct2.symm
      refine w_aload_0 (pc := 152) dX3_read_152 ?_
      refine w_aload_0 (pc := 153) dX3_read_153 ?_
      refine w_aload_1 (pc := 154) dX3_read_154 ?_
      refine w_callV_I (pc := 155) (c_Cmd_readNumber hC hO ct1 ct2 jn hn2 (by rw [ju]; exact hT) mf.2.2 (by omega)) ok_X3_readNumber t733 t8 kc3 hC.1 hC.2 t731 ⟨Nat.le_of_ble_eq_true rfl, Nat.le_of_ble_eq_true rfl⟩ ⟨rfl, rfl⟩ ⟨Nat.le_refl _, Nat.le_refl _⟩ rfl (Nat.le_of_ble_eq_true rfl) dX3_read_155 ?_
      rw [ju]
      refine w_nmem (fun K hK => ?_)
      refine w_name (fun V hV => ?_)
      have kf : MFc I K c u p (nmP (I u) n0 4 (p + 1)) := by rw [hK]; exact MFc_end mf
      have P1 := nmP_le (I u) n0 4 (p + 1)
      obtain ⟨V1, V2⟩ := rd_neg hT hV
      refine w_putI (pc := 158) kc3 1 hC.1 hC.2 rfl t310 rfl (tyX3_ok 1 (by decide)) rfl rfl dX3_read_158 ?_
      refine w_nmem (fun K2 hK2 => ?_)
      have kf2 : MFc I K2 c u p (nmP (I u) n0 4 (p + 1)) := by rw [hK2]; exact MFc_put kf (by omega) (by omega)
      have k21 : K2 c 1 = V := by rw [hK2, kst_s, upd_s]
      have k2n : K2 t 1 = nI n0 := by rw [kf2.1 t ct1.symm]; exact hn
      have k2u : K2 u = I u := kf2.1 u ct2.symm
      refine w_aload_0 (pc := 161) dX3_read_161 ?_
      refine w_getI (pc := 162) kc3 1 hC.1 hC.2 rfl t310 dX3_read_162 ?_
      refine w_if_lt (pc := 165) (tgt := 182) dX3_read_165 (by decide) (fun c165 => ?_) (fun c165 => ?_)
      · rw [k21] at c165
        refine w_iconst (pc := 182) (v := 0) dX3_read_182 (by decide) ?_
        refine w_zret (pc := 183) rfl (by decide) ⟨Nat.le_refl _, Nat.le_refl _⟩ dX3_read_183 ?_
        have hps : ps (I u) n0 p = ps1 (I u) n0 p := by rw [ps, if_neg hl1, if_neg hl2, if_pos hl]
        refine ⟨_, rfl, rfl, kf2.1, ?_⟩
        rw [hps, ps1, if_neg (fun h => V1 c165 h.1)]
        rfl
      · rw [k21] at c165
        refine w_aload_0 (pc := 168) dX3_read_168 ?_
        refine w_aload_1 (pc := 169) dX3_read_169 ?_
        refine w_bipush (pc := 170) (v := 59) dX3_read_170 (by decide) ?_
        refine w_callV_I (pc := 172) (c_Cmd_passes hC hO ct1 ct2 k2n hn2 kf2.2.2 (by omega) (by decide)) ok_X3_passes t729 t7 kc3 hC.1 hC.2 t727 ⟨Nat.le_of_ble_eq_true rfl, Nat.le_of_ble_eq_true rfl⟩ ⟨rfl, rfl⟩ ⟨Nat.le_refl _, Nat.le_refl _⟩ rfl (Nat.le_of_ble_eq_true rfl) dX3_read_172 ?_
        refine w_if_eq (pc := 175) (tgt := 182) dX3_read_175 (by decide) (fun c175 => ?_) (fun c175 => ?_)
        · refine w_iconst (pc := 182) (v := 0) dX3_read_182 (by decide) ?_
          refine w_zret (pc := 183) rfl (by decide) ⟨Nat.le_refl _, Nat.le_refl _⟩ dX3_read_183 ?_
          have hps : ps (I u) n0 p = ps1 (I u) n0 p := by rw [ps, if_neg hl1, if_neg hl2, if_pos hl]
          have hc := b0 c175
          rw [if_neg hc]
          refine ⟨_, rfl, rfl, kf2.1, ?_⟩
          rw [hps, ps1, if_neg (fun h => hc ⟨h.2.1, by rw [k2u]; exact h.2.2⟩)]
          rfl
        · refine w_iconst (pc := 178) (v := 1) dX3_read_178 (by decide) ?_
          refine w_goto (pc := 179) (tgt := 183) dX3_read_179 (by decide) ?_
          refine w_zret (pc := 183) rfl (by decide) ⟨Nat.le_refl _, Nat.le_refl _⟩ dX3_read_183 ?_
          have hps : ps (I u) n0 p = ps1 (I u) n0 p := by rw [ps, if_neg hl1, if_neg hl2, if_pos hl]
          have hc := b1 c175
          rw [if_pos hc]
          refine ⟨_, rfl, rfl, (MFc_end kf2).1, ?_⟩
          rw [hps, ps1, if_pos ⟨(V2 c165).1, show at1 (I u) n0 _ 59 from ⟨hc.1, by have h9 := hc.2; rw [k2u] at h9; exact h9⟩⟩]
          refine ⟨rfl, (MFc_end kf2).2.1, (MFc_end kf2).2.2, fun _ => ?_, fun h => absurd h hl2⟩
          rw [kst_s, upd_ne (by omega), k21]; exact (V2 c165).2
  have hJ184 : ∀ J, MFc I J c u p (p + 1) → ¬ (I u p = 98 ∨ I u p = 115 ∨ I u p = 120 ∨ I u p = 122) → I u p = 108 → wp g mX3_read ⟨2, 0, 0, 45⟩ (fun _ => True) (qEI σ (fun r I1 => (∀ z, z ≠ c → I1 z = I z) ∧ psC (ps (I u) n0 p) r I1 c)) (0, 0) σ J 184 [some (.ref c), some (.ref t), some (.int (nI p))] [] := by
      intro J mf hl1 hl
      have jn : J t 1 = nI n0 := by rw [mf.1 t ct1.symm]; exact hn
      have ju : J u = I u := mf.1 u ct2.symm
      refine w_aload_0 (pc := 184) dX3_read_184 ?_
      refine w_aload_0 (pc := 185) dX3_read_185 ?_
      refine w_aload_1 (pc := 186) dX3_read_186 ?_
      refine w_callV_I (pc := 187) (c_Cmd_readNumber hC hO ct1 ct2 jn hn2 (by rw [ju]; exact hT) mf.2.2 (by omega)) ok_X3_readNumber t733 t8 kc3 hC.1 hC.2 t731 ⟨Nat.le_of_ble_eq_true rfl, Nat.le_of_ble_eq_true rfl⟩ ⟨rfl, rfl⟩ ⟨Nat.le_refl _, Nat.le_refl _⟩ rfl (Nat.le_of_ble_eq_true rfl) dX3_read_187 ?_
      rw [ju]
      refine w_nmem (fun K hK => ?_)
      refine w_name (fun V hV => ?_)
      have kf : MFc I K c u p (nmP (I u) n0 4 (p + 1)) := by rw [hK]; exact MFc_end mf
      have P1 := nmP_le (I u) n0 4 (p + 1)
      obtain ⟨V1, V2⟩ := rd_neg hT hV
      refine w_putI (pc := 190) kc3 1 hC.1 hC.2 rfl t310 rfl (tyX3_ok 1 (by decide)) rfl rfl dX3_read_190 ?_
      refine w_nmem (fun K2 hK2 => ?_)
      have kf2 : MFc I K2 c u p (nmP (I u) n0 4 (p + 1)) := by rw [hK2]; exact MFc_put kf (by omega) (by omega)
      have k21 : K2 c 1 = V := by rw [hK2, kst_s, upd_s]
      have k2n : K2 t 1 = nI n0 := by rw [kf2.1 t ct1.symm]; exact hn
      have k2u : K2 u = I u := kf2.1 u ct2.symm
      refine w_aload_0 (pc := 193) dX3_read_193 ?_
      refine w_getI (pc := 194) kc3 1 hC.1 hC.2 rfl t310 dX3_read_194 ?_
      refine w_if_lt (pc := 197) (tgt := 210) dX3_read_197 (by decide) (fun c197 => ?_) (fun c197 => ?_)
      · rw [k21] at c197
        refine w_iconst (pc := 210) (v := 0) dX3_read_210 (by decide) ?_
        refine w_zret (pc := 211) rfl (by decide) ⟨Nat.le_refl _, Nat.le_refl _⟩ dX3_read_211 ?_
        have hps : ps (I u) n0 p = ps2 (I u) n0 p := by rw [ps, if_neg hl1, if_pos hl]
        refine ⟨_, rfl, rfl, kf2.1, ?_⟩
        rw [hps, ps2, if_neg (fun h => V1 c197 h.1)]
        rfl
      · rw [k21] at c197
        refine w_aload_0 (pc := 200) dX3_read_200 ?_
        refine w_aload_1 (pc := 201) dX3_read_201 ?_
        refine w_bipush (pc := 202) (v := 44) dX3_read_202 (by decide) ?_
        refine w_callV_I (pc := 204) (c_Cmd_passes hC hO ct1 ct2 k2n hn2 kf2.2.2 (by omega) (by decide)) ok_X3_passes t729 t7 kc3 hC.1 hC.2 t727 ⟨Nat.le_of_ble_eq_true rfl, Nat.le_of_ble_eq_true rfl⟩ ⟨rfl, rfl⟩ ⟨Nat.le_refl _, Nat.le_refl _⟩ rfl (Nat.le_of_ble_eq_true rfl) dX3_read_204 ?_
        refine w_if_ne (pc := 207) (tgt := 212) dX3_read_207 (by decide) (fun c207 => ?_) (fun c207 => ?_)
        · rw [if_pos (b1 c207)]
          refine w_nmem (fun K3 hK3 => ?_)
          have kf3 : MFc I K3 c u p (nmP (I u) n0 4 (p + 1) + 1) := by rw [hK3]; exact MFc_end kf2
          have k31 : K3 c 1 = V := by rw [hK3, kst_s, upd_ne (by omega), k21]
          have k3n : K3 t 1 = nI n0 := by rw [kf3.1 t ct1.symm]; exact hn
          have k3u : K3 u = I u := kf3.1 u ct2.symm
          have hcc : p + 1 < nmP (I u) n0 4 (p + 1) ∧ at1 (I u) n0 (nmP (I u) n0 4 (p + 1)) 44 := ⟨(V2 c197).1, ⟨(b1 c207).1, by have h9 := (b1 c207).2; rw [k2u] at h9; exact h9⟩⟩
          refine w_aload_0 (pc := 212) dX3_read_212 ?_
          refine w_aload_0 (pc := 213) dX3_read_213 ?_
          refine w_aload_1 (pc := 214) dX3_read_214 ?_
          refine w_callV_I (pc := 215) (c_Cmd_readNumber hC hO ct1 ct2 k3n hn2 (by rw [k3u]; exact hT) kf3.2.2 (by have := hcc.2.1; omega)) ok_X3_readNumber t733 t8 kc3 hC.1 hC.2 t731 ⟨Nat.le_of_ble_eq_true rfl, Nat.le_of_ble_eq_true rfl⟩ ⟨rfl, rfl⟩ ⟨Nat.le_refl _, Nat.le_refl _⟩ rfl (Nat.le_of_ble_eq_true rfl) dX3_read_215 ?_
          rw [k3u]
          refine w_nmem (fun K4 hK4 => ?_)
          refine w_name (fun W hW => ?_)
          have kf4 : MFc I K4 c u p (nmP (I u) n0 4 (nmP (I u) n0 4 (p + 1) + 1)) := by rw [hK4]; exact MFc_end kf3
          have k41 : K4 c 1 = V := by rw [hK4, kst_s, upd_ne (by omega), k31]
          have P2 := nmP_le (I u) n0 4 (nmP (I u) n0 4 (p + 1) + 1)
          obtain ⟨W1, W2⟩ := rd_neg hT hW
          refine w_putI (pc := 218) kc3 2 hC.1 hC.2 rfl t311 rfl (tyX3_ok 2 (by decide)) rfl rfl dX3_read_218 ?_
          refine w_nmem (fun K5 hK5 => ?_)
          have kf5 : MFc I K5 c u p (nmP (I u) n0 4 (nmP (I u) n0 4 (p + 1) + 1)) := by rw [hK5]; exact MFc_put kf4 (by omega) (by omega)
          have k51 : K5 c 1 = V := by rw [hK5, kst_s, upd_ne (by omega), k41]
          have k52 : K5 c 2 = W := by rw [hK5, kst_s, upd_s]
          have k5n : K5 t 1 = nI n0 := by rw [kf5.1 t ct1.symm]; exact hn
          have k5u : K5 u = I u := kf5.1 u ct2.symm
          refine w_aload_0 (pc := 221) dX3_read_221 ?_
          refine w_getI (pc := 222) kc3 2 hC.1 hC.2 rfl t311 dX3_read_222 ?_
          refine w_if_lt (pc := 225) (tgt := 242) dX3_read_225 (by decide) (fun c225 => ?_) (fun c225 => ?_)
          · rw [k52] at c225
            refine w_iconst (pc := 242) (v := 0) dX3_read_242 (by decide) ?_
            refine w_zret (pc := 243) rfl (by decide) ⟨Nat.le_refl _, Nat.le_refl _⟩ dX3_read_243 ?_
            have hps : ps (I u) n0 p = ps2 (I u) n0 p := by rw [ps, if_neg hl1, if_pos hl]
            refine ⟨_, rfl, rfl, kf5.1, ?_⟩
            rw [hps, ps2, if_pos hcc, if_neg (fun h => W1 c225 h.1)]
            rfl
          · rw [k52] at c225
            refine w_aload_0 (pc := 228) dX3_read_228 ?_
            refine w_aload_1 (pc := 229) dX3_read_229 ?_
            refine w_bipush (pc := 230) (v := 59) dX3_read_230 (by decide) ?_
            refine w_callV_I (pc := 232) (c_Cmd_passes hC hO ct1 ct2 k5n hn2 kf5.2.2 (by have := hcc.2.1; omega) (by decide)) ok_X3_passes t729 t7 kc3 hC.1 hC.2 t727 ⟨Nat.le_of_ble_eq_true rfl, Nat.le_of_ble_eq_true rfl⟩ ⟨rfl, rfl⟩ ⟨Nat.le_refl _, Nat.le_refl _⟩ rfl (Nat.le_of_ble_eq_true rfl) dX3_read_232 ?_
            refine w_if_eq (pc := 235) (tgt := 242) dX3_read_235 (by decide) (fun c235 => ?_) (fun c235 => ?_)
            · refine w_iconst (pc := 242) (v := 0) dX3_read_242 (by decide) ?_
              refine w_zret (pc := 243) rfl (by decide) ⟨Nat.le_refl _, Nat.le_refl _⟩ dX3_read_243 ?_
              have hps : ps (I u) n0 p = ps2 (I u) n0 p := by rw [ps, if_neg hl1, if_pos hl]
              have hc := b0 c235
              rw [if_neg hc]
              refine ⟨_, rfl, rfl, kf5.1, ?_⟩
              rw [hps, ps2, if_pos hcc, if_neg (fun h => hc ⟨h.2.1, by rw [k5u]; exact h.2.2⟩)]
              rfl
            · refine w_iconst (pc := 238) (v := 1) dX3_read_238 (by decide) ?_
              refine w_goto (pc := 239) (tgt := 243) dX3_read_239 (by decide) ?_
              refine w_zret (pc := 243) rfl (by decide) ⟨Nat.le_refl _, Nat.le_refl _⟩ dX3_read_243 ?_
              have hps : ps (I u) n0 p = ps2 (I u) n0 p := by rw [ps, if_neg hl1, if_pos hl]
              have hc := b1 c235
              rw [if_pos hc]
              refine ⟨_, rfl, rfl, (MFc_end kf5).1, ?_⟩
              rw [hps, ps2, if_pos hcc, if_pos ⟨(W2 c225).1, show at1 (I u) n0 _ 59 from ⟨hc.1, by have h9 := hc.2; rw [k5u] at h9; exact h9⟩⟩]
              refine ⟨rfl, (MFc_end kf5).2.1, (MFc_end kf5).2.2, fun _ => ?_, fun _ => ?_⟩
              · rw [kst_s, upd_ne (by omega), k51]; exact (V2 c197).2
              · rw [kst_s, upd_ne (by omega), k52]; exact (W2 c225).2
        · refine w_iconst (pc := 210) (v := 0) dX3_read_210 (by decide) ?_
          refine w_zret (pc := 211) rfl (by decide) ⟨Nat.le_refl _, Nat.le_refl _⟩ dX3_read_211 ?_
          have hps : ps (I u) n0 p = ps2 (I u) n0 p := by rw [ps, if_neg hl1, if_pos hl]
          have hc := b0 c207
          rw [if_neg hc]
          refine ⟨_, rfl, rfl, kf2.1, ?_⟩
          rw [hps, ps2, if_neg (fun h => hc ⟨h.2.1, by rw [k2u]; exact h.2.2⟩)]
          rfl
  refine w_aload_0 (pc := 0) dX3_read_0 ?_
  refine w_aload_1 (pc := 1) dX3_read_1 ?_
  refine w_iload_2 (pc := 2) dX3_read_2 ?_
  refine w_callV_I (pc := 3) (c_Text_at hO hn hn2 rfl (by omega)) ok_X9_at t724 t725 kc9 hO.1 hO.2.1 t723 ⟨Nat.le_of_ble_eq_true rfl, Nat.le_of_ble_eq_true rfl⟩ ⟨rfl, rfl⟩ ⟨Nat.le_refl _, Nat.le_refl _⟩ rfl (Nat.le_of_ble_eq_true rfl) dX3_read_3 ?_
  rw [if_pos hpn]
  refine w_putI (pc := 6) kc3 0 hC.1 hC.2 rfl t309 rfl (tyX3_ok 0 (by decide)) rfl rfl dX3_read_6 ?_
  refine w_aload_0 (pc := 9) dX3_read_9 ?_
  refine w_iconst (pc := 10) (v := 0) dX3_read_10 (by decide) ?_
  refine w_putI (pc := 11) kc3 1 hC.1 hC.2 rfl t310 rfl (tyX3_ok 1 (by decide)) rfl rfl dX3_read_11 ?_
  refine w_aload_0 (pc := 14) dX3_read_14 ?_
  refine w_iconst (pc := 15) (v := 0) dX3_read_15 (by decide) ?_
  refine w_putI (pc := 16) kc3 2 hC.1 hC.2 rfl t311 rfl (tyX3_ok 2 (by decide)) rfl rfl dX3_read_16 ?_
  refine w_aload_0 (pc := 19) dX3_read_19 ?_
  refine w_iload_2 (pc := 20) dX3_read_20 ?_
  refine w_iconst (pc := 21) (v := 1) dX3_read_21 (by decide) ?_
  refine w_iadd (pc := 22) dX3_read_22 ?_
  rw [nI_1]
  refine w_putI (pc := 23) kc3 3 hC.1 hC.2 rfl t312 rfl (tyX3_ok 3 (by decide)) rfl rfl dX3_read_23 ?_
  refine w_aload_0 (pc := 26) dX3_read_26 ?_
  refine w_getI (pc := 27) kc3 0 hC.1 hC.2 rfl t309 dX3_read_27 ?_
  refine w_name (fun y30 e30 => ?_)
  by_cases s30_98 : y30 = 98
  · subst s30_98
    refine w_tableIn (pc := 30) (tgt := 144) (off := 114) dX3_read_30 (by decide) (by decide) (by decide) (by decide) ?_
    have hl : I u p = 98 := (e30.trans MFc_mk.2.1).symm
    exact hJ144 _ MFc_mk (by rw [hl]; decide)
  by_cases s30_99 : y30 = 99
  · subst s30_99
    refine w_tableIn (pc := 30) (tgt := 152) (off := 122) dX3_read_30 (by decide) (by decide) (by decide) (by decide) ?_
    have hl : I u p = 99 := (e30.trans MFc_mk.2.1).symm
    exact hJ152 _ MFc_mk (by rw [hl]; decide) (by rw [hl]; decide) (by rw [hl]; decide)
  by_cases s30_100 : y30 = 100
  · subst s30_100
    refine w_tableIn (pc := 30) (tgt := 244) (off := 214) dX3_read_30 (by decide) (by decide) (by decide) (by decide) ?_
    refine w_iconst (pc := 244) (v := 0) dX3_read_244 (by decide) ?_
    refine w_zret (pc := 245) rfl (by decide) ⟨Nat.le_refl _, Nat.le_refl _⟩ dX3_read_245 ?_
    have hl : I u p = 100 := (e30.trans MFc_mk.2.1).symm
    have hps : ps (I u) n0 p = none := by rw [ps, if_neg (by rw [hl]; decide), if_neg (by rw [hl]; decide), if_neg (by rw [hl]; decide)]
    refine ⟨_, rfl, rfl, MFc_mk.1, ?_⟩
    rw [hps]
    rfl
  by_cases s30_101 : y30 = 101
  · subst s30_101
    refine w_tableIn (pc := 30) (tgt := 244) (off := 214) dX3_read_30 (by decide) (by decide) (by decide) (by decide) ?_
    refine w_iconst (pc := 244) (v := 0) dX3_read_244 (by decide) ?_
    refine w_zret (pc := 245) rfl (by decide) ⟨Nat.le_refl _, Nat.le_refl _⟩ dX3_read_245 ?_
    have hl : I u p = 101 := (e30.trans MFc_mk.2.1).symm
    have hps : ps (I u) n0 p = none := by rw [ps, if_neg (by rw [hl]; decide), if_neg (by rw [hl]; decide), if_neg (by rw [hl]; decide)]
    refine ⟨_, rfl, rfl, MFc_mk.1, ?_⟩
    rw [hps]
    rfl
  by_cases s30_102 : y30 = 102
  · subst s30_102
    refine w_tableIn (pc := 30) (tgt := 244) (off := 214) dX3_read_30 (by decide) (by decide) (by decide) (by decide) ?_
    refine w_iconst (pc := 244) (v := 0) dX3_read_244 (by decide) ?_
    refine w_zret (pc := 245) rfl (by decide) ⟨Nat.le_refl _, Nat.le_refl _⟩ dX3_read_245 ?_
    have hl : I u p = 102 := (e30.trans MFc_mk.2.1).symm
    have hps : ps (I u) n0 p = none := by rw [ps, if_neg (by rw [hl]; decide), if_neg (by rw [hl]; decide), if_neg (by rw [hl]; decide)]
    refine ⟨_, rfl, rfl, MFc_mk.1, ?_⟩
    rw [hps]
    rfl
  by_cases s30_103 : y30 = 103
  · subst s30_103
    refine w_tableIn (pc := 30) (tgt := 152) (off := 122) dX3_read_30 (by decide) (by decide) (by decide) (by decide) ?_
    have hl : I u p = 103 := (e30.trans MFc_mk.2.1).symm
    exact hJ152 _ MFc_mk (by rw [hl]; decide) (by rw [hl]; decide) (by rw [hl]; decide)
  by_cases s30_104 : y30 = 104
  · subst s30_104
    refine w_tableIn (pc := 30) (tgt := 244) (off := 214) dX3_read_30 (by decide) (by decide) (by decide) (by decide) ?_
    refine w_iconst (pc := 244) (v := 0) dX3_read_244 (by decide) ?_
    refine w_zret (pc := 245) rfl (by decide) ⟨Nat.le_refl _, Nat.le_refl _⟩ dX3_read_245 ?_
    have hl : I u p = 104 := (e30.trans MFc_mk.2.1).symm
    have hps : ps (I u) n0 p = none := by rw [ps, if_neg (by rw [hl]; decide), if_neg (by rw [hl]; decide), if_neg (by rw [hl]; decide)]
    refine ⟨_, rfl, rfl, MFc_mk.1, ?_⟩
    rw [hps]
    rfl
  by_cases s30_105 : y30 = 105
  · subst s30_105
    refine w_tableIn (pc := 30) (tgt := 244) (off := 214) dX3_read_30 (by decide) (by decide) (by decide) (by decide) ?_
    refine w_iconst (pc := 244) (v := 0) dX3_read_244 (by decide) ?_
    refine w_zret (pc := 245) rfl (by decide) ⟨Nat.le_refl _, Nat.le_refl _⟩ dX3_read_245 ?_
    have hl : I u p = 105 := (e30.trans MFc_mk.2.1).symm
    have hps : ps (I u) n0 p = none := by rw [ps, if_neg (by rw [hl]; decide), if_neg (by rw [hl]; decide), if_neg (by rw [hl]; decide)]
    refine ⟨_, rfl, rfl, MFc_mk.1, ?_⟩
    rw [hps]
    rfl
  by_cases s30_106 : y30 = 106
  · subst s30_106
    refine w_tableIn (pc := 30) (tgt := 244) (off := 214) dX3_read_30 (by decide) (by decide) (by decide) (by decide) ?_
    refine w_iconst (pc := 244) (v := 0) dX3_read_244 (by decide) ?_
    refine w_zret (pc := 245) rfl (by decide) ⟨Nat.le_refl _, Nat.le_refl _⟩ dX3_read_245 ?_
    have hl : I u p = 106 := (e30.trans MFc_mk.2.1).symm
    have hps : ps (I u) n0 p = none := by rw [ps, if_neg (by rw [hl]; decide), if_neg (by rw [hl]; decide), if_neg (by rw [hl]; decide)]
    refine ⟨_, rfl, rfl, MFc_mk.1, ?_⟩
    rw [hps]
    rfl
  by_cases s30_107 : y30 = 107
  · subst s30_107
    refine w_tableIn (pc := 30) (tgt := 244) (off := 214) dX3_read_30 (by decide) (by decide) (by decide) (by decide) ?_
    refine w_iconst (pc := 244) (v := 0) dX3_read_244 (by decide) ?_
    refine w_zret (pc := 245) rfl (by decide) ⟨Nat.le_refl _, Nat.le_refl _⟩ dX3_read_245 ?_
    have hl : I u p = 107 := (e30.trans MFc_mk.2.1).symm
    have hps : ps (I u) n0 p = none := by rw [ps, if_neg (by rw [hl]; decide), if_neg (by rw [hl]; decide), if_neg (by rw [hl]; decide)]
    refine ⟨_, rfl, rfl, MFc_mk.1, ?_⟩
    rw [hps]
    rfl
  by_cases s30_108 : y30 = 108
  · subst s30_108
    refine w_tableIn (pc := 30) (tgt := 184) (off := 154) dX3_read_30 (by decide) (by decide) (by decide) (by decide) ?_
    have hl : I u p = 108 := (e30.trans MFc_mk.2.1).symm
    exact hJ184 _ MFc_mk (by rw [hl]; decide) hl
  by_cases s30_109 : y30 = 109
  · subst s30_109
    refine w_tableIn (pc := 30) (tgt := 152) (off := 122) dX3_read_30 (by decide) (by decide) (by decide) (by decide) ?_
    have hl : I u p = 109 := (e30.trans MFc_mk.2.1).symm
    exact hJ152 _ MFc_mk (by rw [hl]; decide) (by rw [hl]; decide) (by rw [hl]; decide)
  by_cases s30_110 : y30 = 110
  · subst s30_110
    refine w_tableIn (pc := 30) (tgt := 244) (off := 214) dX3_read_30 (by decide) (by decide) (by decide) (by decide) ?_
    refine w_iconst (pc := 244) (v := 0) dX3_read_244 (by decide) ?_
    refine w_zret (pc := 245) rfl (by decide) ⟨Nat.le_refl _, Nat.le_refl _⟩ dX3_read_245 ?_
    have hl : I u p = 110 := (e30.trans MFc_mk.2.1).symm
    have hps : ps (I u) n0 p = none := by rw [ps, if_neg (by rw [hl]; decide), if_neg (by rw [hl]; decide), if_neg (by rw [hl]; decide)]
    refine ⟨_, rfl, rfl, MFc_mk.1, ?_⟩
    rw [hps]
    rfl
  by_cases s30_111 : y30 = 111
  · subst s30_111
    refine w_tableIn (pc := 30) (tgt := 244) (off := 214) dX3_read_30 (by decide) (by decide) (by decide) (by decide) ?_
    refine w_iconst (pc := 244) (v := 0) dX3_read_244 (by decide) ?_
    refine w_zret (pc := 245) rfl (by decide) ⟨Nat.le_refl _, Nat.le_refl _⟩ dX3_read_245 ?_
    have hl : I u p = 111 := (e30.trans MFc_mk.2.1).symm
    have hps : ps (I u) n0 p = none := by rw [ps, if_neg (by rw [hl]; decide), if_neg (by rw [hl]; decide), if_neg (by rw [hl]; decide)]
    refine ⟨_, rfl, rfl, MFc_mk.1, ?_⟩
    rw [hps]
    rfl
  by_cases s30_112 : y30 = 112
  · subst s30_112
    refine w_tableIn (pc := 30) (tgt := 244) (off := 214) dX3_read_30 (by decide) (by decide) (by decide) (by decide) ?_
    refine w_iconst (pc := 244) (v := 0) dX3_read_244 (by decide) ?_
    refine w_zret (pc := 245) rfl (by decide) ⟨Nat.le_refl _, Nat.le_refl _⟩ dX3_read_245 ?_
    have hl : I u p = 112 := (e30.trans MFc_mk.2.1).symm
    have hps : ps (I u) n0 p = none := by rw [ps, if_neg (by rw [hl]; decide), if_neg (by rw [hl]; decide), if_neg (by rw [hl]; decide)]
    refine ⟨_, rfl, rfl, MFc_mk.1, ?_⟩
    rw [hps]
    rfl
  by_cases s30_113 : y30 = 113
  · subst s30_113
    refine w_tableIn (pc := 30) (tgt := 244) (off := 214) dX3_read_30 (by decide) (by decide) (by decide) (by decide) ?_
    refine w_iconst (pc := 244) (v := 0) dX3_read_244 (by decide) ?_
    refine w_zret (pc := 245) rfl (by decide) ⟨Nat.le_refl _, Nat.le_refl _⟩ dX3_read_245 ?_
    have hl : I u p = 113 := (e30.trans MFc_mk.2.1).symm
    have hps : ps (I u) n0 p = none := by rw [ps, if_neg (by rw [hl]; decide), if_neg (by rw [hl]; decide), if_neg (by rw [hl]; decide)]
    refine ⟨_, rfl, rfl, MFc_mk.1, ?_⟩
    rw [hps]
    rfl
  by_cases s30_114 : y30 = 114
  · subst s30_114
    refine w_tableIn (pc := 30) (tgt := 244) (off := 214) dX3_read_30 (by decide) (by decide) (by decide) (by decide) ?_
    refine w_iconst (pc := 244) (v := 0) dX3_read_244 (by decide) ?_
    refine w_zret (pc := 245) rfl (by decide) ⟨Nat.le_refl _, Nat.le_refl _⟩ dX3_read_245 ?_
    have hl : I u p = 114 := (e30.trans MFc_mk.2.1).symm
    have hps : ps (I u) n0 p = none := by rw [ps, if_neg (by rw [hl]; decide), if_neg (by rw [hl]; decide), if_neg (by rw [hl]; decide)]
    refine ⟨_, rfl, rfl, MFc_mk.1, ?_⟩
    rw [hps]
    rfl
  by_cases s30_115 : y30 = 115
  · subst s30_115
    refine w_tableIn (pc := 30) (tgt := 144) (off := 114) dX3_read_30 (by decide) (by decide) (by decide) (by decide) ?_
    have hl : I u p = 115 := (e30.trans MFc_mk.2.1).symm
    exact hJ144 _ MFc_mk (by rw [hl]; decide)
  by_cases s30_116 : y30 = 116
  · subst s30_116
    refine w_tableIn (pc := 30) (tgt := 152) (off := 122) dX3_read_30 (by decide) (by decide) (by decide) (by decide) ?_
    have hl : I u p = 116 := (e30.trans MFc_mk.2.1).symm
    exact hJ152 _ MFc_mk (by rw [hl]; decide) (by rw [hl]; decide) (by rw [hl]; decide)
  by_cases s30_117 : y30 = 117
  · subst s30_117
    refine w_tableIn (pc := 30) (tgt := 244) (off := 214) dX3_read_30 (by decide) (by decide) (by decide) (by decide) ?_
    refine w_iconst (pc := 244) (v := 0) dX3_read_244 (by decide) ?_
    refine w_zret (pc := 245) rfl (by decide) ⟨Nat.le_refl _, Nat.le_refl _⟩ dX3_read_245 ?_
    have hl : I u p = 117 := (e30.trans MFc_mk.2.1).symm
    have hps : ps (I u) n0 p = none := by rw [ps, if_neg (by rw [hl]; decide), if_neg (by rw [hl]; decide), if_neg (by rw [hl]; decide)]
    refine ⟨_, rfl, rfl, MFc_mk.1, ?_⟩
    rw [hps]
    rfl
  by_cases s30_118 : y30 = 118
  · subst s30_118
    refine w_tableIn (pc := 30) (tgt := 244) (off := 214) dX3_read_30 (by decide) (by decide) (by decide) (by decide) ?_
    refine w_iconst (pc := 244) (v := 0) dX3_read_244 (by decide) ?_
    refine w_zret (pc := 245) rfl (by decide) ⟨Nat.le_refl _, Nat.le_refl _⟩ dX3_read_245 ?_
    have hl : I u p = 118 := (e30.trans MFc_mk.2.1).symm
    have hps : ps (I u) n0 p = none := by rw [ps, if_neg (by rw [hl]; decide), if_neg (by rw [hl]; decide), if_neg (by rw [hl]; decide)]
    refine ⟨_, rfl, rfl, MFc_mk.1, ?_⟩
    rw [hps]
    rfl
  by_cases s30_119 : y30 = 119
  · subst s30_119
    refine w_tableIn (pc := 30) (tgt := 244) (off := 214) dX3_read_30 (by decide) (by decide) (by decide) (by decide) ?_
    refine w_iconst (pc := 244) (v := 0) dX3_read_244 (by decide) ?_
    refine w_zret (pc := 245) rfl (by decide) ⟨Nat.le_refl _, Nat.le_refl _⟩ dX3_read_245 ?_
    have hl : I u p = 119 := (e30.trans MFc_mk.2.1).symm
    have hps : ps (I u) n0 p = none := by rw [ps, if_neg (by rw [hl]; decide), if_neg (by rw [hl]; decide), if_neg (by rw [hl]; decide)]
    refine ⟨_, rfl, rfl, MFc_mk.1, ?_⟩
    rw [hps]
    rfl
  by_cases s30_120 : y30 = 120
  · subst s30_120
    refine w_tableIn (pc := 30) (tgt := 144) (off := 114) dX3_read_30 (by decide) (by decide) (by decide) (by decide) ?_
    have hl : I u p = 120 := (e30.trans MFc_mk.2.1).symm
    exact hJ144 _ MFc_mk (by rw [hl]; decide)
  by_cases s30_121 : y30 = 121
  · subst s30_121
    refine w_tableIn (pc := 30) (tgt := 244) (off := 214) dX3_read_30 (by decide) (by decide) (by decide) (by decide) ?_
    refine w_iconst (pc := 244) (v := 0) dX3_read_244 (by decide) ?_
    refine w_zret (pc := 245) rfl (by decide) ⟨Nat.le_refl _, Nat.le_refl _⟩ dX3_read_245 ?_
    have hl : I u p = 121 := (e30.trans MFc_mk.2.1).symm
    have hps : ps (I u) n0 p = none := by rw [ps, if_neg (by rw [hl]; decide), if_neg (by rw [hl]; decide), if_neg (by rw [hl]; decide)]
    refine ⟨_, rfl, rfl, MFc_mk.1, ?_⟩
    rw [hps]
    rfl
  by_cases s30_122 : y30 = 122
  · subst s30_122
    refine w_tableIn (pc := 30) (tgt := 144) (off := 114) dX3_read_30 (by decide) (by decide) (by decide) (by decide) ?_
    have hl : I u p = 122 := (e30.trans MFc_mk.2.1).symm
    exact hJ144 _ MFc_mk (by rw [hl]; decide)
  have q30_98 := lv_neT (a := 98) s30_98 (by decide)
  have q30_99 := lv_neT (a := 99) s30_99 (by decide)
  have q30_100 := lv_neT (a := 100) s30_100 (by decide)
  have q30_101 := lv_neT (a := 101) s30_101 (by decide)
  have q30_102 := lv_neT (a := 102) s30_102 (by decide)
  have q30_103 := lv_neT (a := 103) s30_103 (by decide)
  have q30_104 := lv_neT (a := 104) s30_104 (by decide)
  have q30_105 := lv_neT (a := 105) s30_105 (by decide)
  have q30_106 := lv_neT (a := 106) s30_106 (by decide)
  have q30_107 := lv_neT (a := 107) s30_107 (by decide)
  have q30_108 := lv_neT (a := 108) s30_108 (by decide)
  have q30_109 := lv_neT (a := 109) s30_109 (by decide)
  have q30_110 := lv_neT (a := 110) s30_110 (by decide)
  have q30_111 := lv_neT (a := 111) s30_111 (by decide)
  have q30_112 := lv_neT (a := 112) s30_112 (by decide)
  have q30_113 := lv_neT (a := 113) s30_113 (by decide)
  have q30_114 := lv_neT (a := 114) s30_114 (by decide)
  have q30_115 := lv_neT (a := 115) s30_115 (by decide)
  have q30_116 := lv_neT (a := 116) s30_116 (by decide)
  have q30_117 := lv_neT (a := 117) s30_117 (by decide)
  have q30_118 := lv_neT (a := 118) s30_118 (by decide)
  have q30_119 := lv_neT (a := 119) s30_119 (by decide)
  have q30_120 := lv_neT (a := 120) s30_120 (by decide)
  have q30_121 := lv_neT (a := 121) s30_121 (by decide)
  have q30_122 := lv_neT (a := 122) s30_122 (by decide)
  refine w_tableOut (pc := 30) (tgt := 244) dX3_read_30 (by omega) (by decide) ?_
  refine w_iconst (pc := 244) (v := 0) dX3_read_244 (by decide) ?_
  refine w_zret (pc := 245) rfl (by decide) ⟨Nat.le_refl _, Nat.le_refl _⟩ dX3_read_245 ?_
  have e31 : y30 = I u p := e30.trans MFc_mk.2.1
  rw [e31] at s30_98 s30_99 s30_103 s30_108 s30_109 s30_115 s30_116 s30_120 s30_122
  have hps : ps (I u) n0 p = none := by rw [ps, if_neg (fun h => h.elim s30_98 (fun h => h.elim s30_115 (fun h => h.elim s30_120 s30_122))), if_neg s30_108, if_neg (fun h => h.elim s30_103 (fun h => h.elim s30_109 (fun h => h.elim s30_99 s30_116)))]
  refine ⟨_, rfl, rfl, MFc_mk.1, ?_⟩
  rw [hps]
  rfl
set_option maxHeartbeats 4000000 in
set_option maxRecDepth 100000 in
theorem c_Cmd_carryOut {g : kG} {σ : kS} {I : kI} {c p : Nat} {s : kV} (hC : sCmd g σ c) (hP : sPlant g σ p) (hR : PR I p s) (hK : KI s) {l v w : Int32} (hl : I c 0 = l) (h1 : ¬ (l = 98 ∨ l = 115 ∨ l = 120 ∨ l = 122) → I c 1 = v) (h2 : l = 108 → I c 2 = w) (hlet : (l = 98 ∨ l = 115 ∨ l = 120 ∨ l = 122) ∨ l = 108 ∨ l = 103 ∨ l = 109 ∨ l = 99 ∨ l = 116) : ct g mX3_carryOut ⟨4, 0, 0, 92⟩ [.ref c, .ref p] σ I (qEI σ (fun r I1 => r = (cmO s l v w).1 ∧ opP p I (cmO s l v w) I1)) := by
  refine ct_of pn3 rfl (Nat.le_of_ble_eq_true rfl) ok_X3_carryOut.1 trivial ?_
  show wp _ _ _ _ _ _ _ _ 0 [some (.ref c), some (.ref p)] []
  refine w_aload_0 (pc := 0) dX3_carryOut_0 ?_
  refine w_getI (pc := 1) kc3 0 hC.1 hC.2 rfl t309 dX3_carryOut_1 ?_
  refine w_name (fun y4 e4 => ?_)
  by_cases s4_98 : y4 = 98
  · subst s4_98
    refine w_tableIn (pc := 4) (tgt := 142) (off := 138) dX3_carryOut_4 (by decide) (by decide) (by decide) (by decide) ?_
    refine w_aload_1 (pc := 142) dX3_carryOut_142 ?_
    refine w_callV_EI (pc := 143) (c_Plant_putBin hP hR hK.1) ok_X6_putBin t445 t446 kc6 (sP_in0 hP) (sP_s0 hP) t744 ⟨Nat.le_of_ble_eq_true rfl, Nat.le_of_ble_eq_true rfl⟩ ⟨rfl, rfl⟩ ⟨Nat.le_refl _, Nat.le_refl _⟩ rfl (Nat.le_of_ble_eq_true rfl) dX3_carryOut_143 (fun r143 I143 h143 => ?_)
    refine w_iret (pc := 146) rfl ⟨Nat.le_refl _, Nat.le_refl _⟩ dX3_carryOut_146 ?_
    have hl4 : l = 98 := by rw [← hl]; exact e4.symm
    subst hl4
    have hcm : cmO s 98 v w = oBin s := by unfold cmO; rw [if_pos rfl]
    rw [hcm]
    exact ⟨_, rfl, rfl, h143⟩
  by_cases s4_99 : y4 = 99
  · subst s4_99
    refine w_tableIn (pc := 4) (tgt := 173) (off := 169) dX3_carryOut_4 (by decide) (by decide) (by decide) (by decide) ?_
    refine w_aload_1 (pc := 173) dX3_carryOut_173 ?_
    refine w_aload_0 (pc := 174) dX3_carryOut_174 ?_
    refine w_getI (pc := 175) kc3 1 hC.1 hC.2 rfl t310 dX3_carryOut_175 ?_
    refine w_callV_EI (pc := 178) (c_Plant_correctBy hP hR hK.1 (KI_bm hK)) ok_X6_correctBy t556 t557 kc6 (sP_in0 hP) (sP_s0 hP) t748 ⟨Nat.le_of_ble_eq_true rfl, Nat.le_of_ble_eq_true rfl⟩ ⟨rfl, rfl⟩ ⟨Nat.le_refl _, Nat.le_refl _⟩ rfl (Nat.le_of_ble_eq_true rfl) dX3_carryOut_178 (fun r178 I178 h178 => ?_)
    refine w_iret (pc := 181) rfl ⟨Nat.le_refl _, Nat.le_refl _⟩ dX3_carryOut_181 ?_
    have hl4 : l = 99 := by rw [← hl]; exact e4.symm
    subst hl4
    have hv : I c 1 = v := h1 (by decide)
    have hcm : cmO s 99 v w = oCorrect s v := by unfold cmO; rw [if_neg (by decide), if_neg (by decide), if_neg (by decide), if_neg (by decide), if_neg (by decide), if_neg (by decide), if_neg (by decide), if_pos rfl]
    rw [hcm]
    rw [hv] at h178
    exact ⟨_, rfl, rfl, h178⟩
  by_cases s4_100 : y4 = 100
  · subst s4_100
    refine w_tableIn (pc := 4) (tgt := 191) (off := 187) dX3_carryOut_4 (by decide) (by decide) (by decide) (by decide) ?_
    exfalso; rw [← hl, ← e4] at hlet; exact absurd hlet (by decide)
  by_cases s4_101 : y4 = 101
  · subst s4_101
    refine w_tableIn (pc := 4) (tgt := 191) (off := 187) dX3_carryOut_4 (by decide) (by decide) (by decide) (by decide) ?_
    exfalso; rw [← hl, ← e4] at hlet; exact absurd hlet (by decide)
  by_cases s4_102 : y4 = 102
  · subst s4_102
    refine w_tableIn (pc := 4) (tgt := 191) (off := 187) dX3_carryOut_4 (by decide) (by decide) (by decide) (by decide) ?_
    exfalso; rw [← hl, ← e4] at hlet; exact absurd hlet (by decide)
  by_cases s4_103 : y4 = 103
  · subst s4_103
    refine w_tableIn (pc := 4) (tgt := 133) (off := 129) dX3_carryOut_4 (by decide) (by decide) (by decide) (by decide) ?_
    refine w_aload_1 (pc := 133) dX3_carryOut_133 ?_
    refine w_aload_0 (pc := 134) dX3_carryOut_134 ?_
    refine w_getI (pc := 135) kc3 1 hC.1 hC.2 rfl t310 dX3_carryOut_135 ?_
    refine w_callV_EI (pc := 138) (c_Plant_setGate hP hR hK.1) ok_X6_setGate t424 t425 kc6 (sP_in0 hP) (sP_s0 hP) t743 ⟨Nat.le_of_ble_eq_true rfl, Nat.le_of_ble_eq_true rfl⟩ ⟨rfl, rfl⟩ ⟨Nat.le_refl _, Nat.le_refl _⟩ rfl (Nat.le_of_ble_eq_true rfl) dX3_carryOut_138 (fun r138 I138 h138 => ?_)
    refine w_iret (pc := 141) rfl ⟨Nat.le_refl _, Nat.le_refl _⟩ dX3_carryOut_141 ?_
    have hl4 : l = 103 := by rw [← hl]; exact e4.symm
    subst hl4
    have hv : I c 1 = v := h1 (by decide)
    have hcm : cmO s 103 v w = oGate s v := by unfold cmO; rw [if_neg (by decide), if_neg (by decide), if_neg (by decide), if_neg (by decide), if_neg (by decide), if_pos rfl]
    rw [hcm]
    rw [hv] at h138
    exact ⟨_, rfl, rfl, h138⟩
  by_cases s4_104 : y4 = 104
  · subst s4_104
    refine w_tableIn (pc := 4) (tgt := 191) (off := 187) dX3_carryOut_4 (by decide) (by decide) (by decide) (by decide) ?_
    exfalso; rw [← hl, ← e4] at hlet; exact absurd hlet (by decide)
  by_cases s4_105 : y4 = 105
  · subst s4_105
    refine w_tableIn (pc := 4) (tgt := 191) (off := 187) dX3_carryOut_4 (by decide) (by decide) (by decide) (by decide) ?_
    exfalso; rw [← hl, ← e4] at hlet; exact absurd hlet (by decide)
  by_cases s4_106 : y4 = 106
  · subst s4_106
    refine w_tableIn (pc := 4) (tgt := 191) (off := 187) dX3_carryOut_4 (by decide) (by decide) (by decide) (by decide) ?_
    exfalso; rw [← hl, ← e4] at hlet; exact absurd hlet (by decide)
  by_cases s4_107 : y4 = 107
  · subst s4_107
    refine w_tableIn (pc := 4) (tgt := 191) (off := 187) dX3_carryOut_4 (by decide) (by decide) (by decide) (by decide) ?_
    exfalso; rw [← hl, ← e4] at hlet; exact absurd hlet (by decide)
  by_cases s4_108 : y4 = 108
  · subst s4_108
    refine w_tableIn (pc := 4) (tgt := 120) (off := 116) dX3_carryOut_4 (by decide) (by decide) (by decide) (by decide) ?_
    refine w_aload_1 (pc := 120) dX3_carryOut_120 ?_
    refine w_aload_0 (pc := 121) dX3_carryOut_121 ?_
    refine w_getI (pc := 122) kc3 1 hC.1 hC.2 rfl t310 dX3_carryOut_122 ?_
    refine w_aload_0 (pc := 125) dX3_carryOut_125 ?_
    refine w_getI (pc := 126) kc3 2 hC.1 hC.2 rfl t311 dX3_carryOut_126 ?_
    refine w_callV_EI (pc := 129) (c_Plant_putLot hP hR hK.1) ok_X6_putLot t392 t393 kc6 (sP_in0 hP) (sP_s0 hP) t742 ⟨Nat.le_of_ble_eq_true rfl, Nat.le_of_ble_eq_true rfl⟩ ⟨rfl, rfl⟩ ⟨Nat.le_refl _, Nat.le_refl _⟩ rfl (Nat.le_of_ble_eq_true rfl) dX3_carryOut_129 (fun r129 I129 h129 => ?_)
    refine w_iret (pc := 132) rfl ⟨Nat.le_refl _, Nat.le_refl _⟩ dX3_carryOut_132 ?_
    have hl4 : l = 108 := by rw [← hl]; exact e4.symm
    subst hl4
    have hv : I c 1 = v := h1 (by decide)
    have hw : I c 2 = w := h2 rfl
    have hcm : cmO s 108 v w = oLot s v w := by unfold cmO; rw [if_neg (by decide), if_neg (by decide), if_neg (by decide), if_neg (by decide), if_pos rfl]
    rw [hcm]
    rw [hv] at h129
    rw [hw] at h129
    exact ⟨_, rfl, rfl, h129⟩
  by_cases s4_109 : y4 = 109
  · subst s4_109
    refine w_tableIn (pc := 4) (tgt := 159) (off := 155) dX3_carryOut_4 (by decide) (by decide) (by decide) (by decide) ?_
    refine w_aload_1 (pc := 159) dX3_carryOut_159 ?_
    refine w_aload_0 (pc := 160) dX3_carryOut_160 ?_
    refine w_getI (pc := 161) kc3 1 hC.1 hC.2 rfl t310 dX3_carryOut_161 ?_
    refine w_callV_EI (pc := 164) (c_Plant_beginBatch hP hR hK.1) ok_X6_beginBatch t453 t454 kc6 (sP_in0 hP) (sP_s0 hP) t746 ⟨Nat.le_of_ble_eq_true rfl, Nat.le_of_ble_eq_true rfl⟩ ⟨rfl, rfl⟩ ⟨Nat.le_refl _, Nat.le_refl _⟩ rfl (Nat.le_of_ble_eq_true rfl) dX3_carryOut_164 (fun r164 I164 h164 => ?_)
    refine w_iret (pc := 167) rfl ⟨Nat.le_refl _, Nat.le_refl _⟩ dX3_carryOut_167 ?_
    have hl4 : l = 109 := by rw [← hl]; exact e4.symm
    subst hl4
    have hv : I c 1 = v := h1 (by decide)
    have hcm : cmO s 109 v w = oBatch s v := by unfold cmO; rw [if_neg (by decide), if_neg (by decide), if_neg (by decide), if_neg (by decide), if_neg (by decide), if_neg (by decide), if_pos rfl]
    rw [hcm]
    rw [hv] at h164
    exact ⟨_, rfl, rfl, h164⟩
  by_cases s4_110 : y4 = 110
  · subst s4_110
    refine w_tableIn (pc := 4) (tgt := 191) (off := 187) dX3_carryOut_4 (by decide) (by decide) (by decide) (by decide) ?_
    exfalso; rw [← hl, ← e4] at hlet; exact absurd hlet (by decide)
  by_cases s4_111 : y4 = 111
  · subst s4_111
    refine w_tableIn (pc := 4) (tgt := 191) (off := 187) dX3_carryOut_4 (by decide) (by decide) (by decide) (by decide) ?_
    exfalso; rw [← hl, ← e4] at hlet; exact absurd hlet (by decide)
  by_cases s4_112 : y4 = 112
  · subst s4_112
    refine w_tableIn (pc := 4) (tgt := 191) (off := 187) dX3_carryOut_4 (by decide) (by decide) (by decide) (by decide) ?_
    exfalso; rw [← hl, ← e4] at hlet; exact absurd hlet (by decide)
  by_cases s4_113 : y4 = 113
  · subst s4_113
    refine w_tableIn (pc := 4) (tgt := 191) (off := 187) dX3_carryOut_4 (by decide) (by decide) (by decide) (by decide) ?_
    exfalso; rw [← hl, ← e4] at hlet; exact absurd hlet (by decide)
  by_cases s4_114 : y4 = 114
  · subst s4_114
    refine w_tableIn (pc := 4) (tgt := 191) (off := 187) dX3_carryOut_4 (by decide) (by decide) (by decide) (by decide) ?_
    exfalso; rw [← hl, ← e4] at hlet; exact absurd hlet (by decide)
  by_cases s4_115 : y4 = 115
  · subst s4_115
    refine w_tableIn (pc := 4) (tgt := 147) (off := 143) dX3_carryOut_4 (by decide) (by decide) (by decide) (by decide) ?_
    refine w_aload_1 (pc := 147) dX3_carryOut_147 ?_
    refine w_iconst (pc := 148) (v := 1) dX3_carryOut_148 (by decide) ?_
    refine w_callV_EI (pc := 149) (c_Plant_switchBelt hP hR hK.1) ok_X6_switchBelt t432 t433 kc6 (sP_in0 hP) (sP_s0 hP) t745 ⟨Nat.le_of_ble_eq_true rfl, Nat.le_of_ble_eq_true rfl⟩ ⟨rfl, rfl⟩ ⟨Nat.le_refl _, Nat.le_refl _⟩ rfl (Nat.le_of_ble_eq_true rfl) dX3_carryOut_149 (fun r149 I149 h149 => ?_)
    refine w_iret (pc := 152) rfl ⟨Nat.le_refl _, Nat.le_refl _⟩ dX3_carryOut_152 ?_
    have hl4 : l = 115 := by rw [← hl]; exact e4.symm
    subst hl4
    have hcm : cmO s 115 v w = oRun s 1 := by unfold cmO; rw [if_neg (by decide), if_pos rfl]
    rw [hcm]
    exact ⟨_, rfl, rfl, h149⟩
  by_cases s4_116 : y4 = 116
  · subst s4_116
    refine w_tableIn (pc := 4) (tgt := 182) (off := 178) dX3_carryOut_4 (by decide) (by decide) (by decide) (by decide) ?_
    refine w_aload_1 (pc := 182) dX3_carryOut_182 ?_
    refine w_aload_0 (pc := 183) dX3_carryOut_183 ?_
    refine w_getI (pc := 184) kc3 1 hC.1 hC.2 rfl t310 dX3_carryOut_184 ?_
    refine w_callV_EI (pc := 187) (c_Plant_passTicks hP hR hK.1 hK.2.1) ok_X6_passTicks t461 t462 kc6 (sP_in0 hP) (sP_s0 hP) t749 ⟨Nat.le_of_ble_eq_true rfl, Nat.le_of_ble_eq_true rfl⟩ ⟨rfl, rfl⟩ ⟨Nat.le_refl _, Nat.le_refl _⟩ rfl (Nat.le_of_ble_eq_true rfl) dX3_carryOut_187 (fun r187 I187 h187 => ?_)
    refine w_iret (pc := 190) rfl ⟨Nat.le_refl _, Nat.le_refl _⟩ dX3_carryOut_190 ?_
    have hl4 : l = 116 := by rw [← hl]; exact e4.symm
    subst hl4
    have hv : I c 1 = v := h1 (by decide)
    have hcm : cmO s 116 v w = oTick s v := by unfold cmO; rw [if_neg (by decide), if_neg (by decide), if_neg (by decide), if_neg (by decide), if_neg (by decide), if_neg (by decide), if_neg (by decide), if_neg (by decide)]
    rw [hcm]
    rw [hv] at h187
    exact ⟨_, rfl, rfl, h187⟩
  by_cases s4_117 : y4 = 117
  · subst s4_117
    refine w_tableIn (pc := 4) (tgt := 191) (off := 187) dX3_carryOut_4 (by decide) (by decide) (by decide) (by decide) ?_
    exfalso; rw [← hl, ← e4] at hlet; exact absurd hlet (by decide)
  by_cases s4_118 : y4 = 118
  · subst s4_118
    refine w_tableIn (pc := 4) (tgt := 191) (off := 187) dX3_carryOut_4 (by decide) (by decide) (by decide) (by decide) ?_
    exfalso; rw [← hl, ← e4] at hlet; exact absurd hlet (by decide)
  by_cases s4_119 : y4 = 119
  · subst s4_119
    refine w_tableIn (pc := 4) (tgt := 191) (off := 187) dX3_carryOut_4 (by decide) (by decide) (by decide) (by decide) ?_
    exfalso; rw [← hl, ← e4] at hlet; exact absurd hlet (by decide)
  by_cases s4_120 : y4 = 120
  · subst s4_120
    refine w_tableIn (pc := 4) (tgt := 153) (off := 149) dX3_carryOut_4 (by decide) (by decide) (by decide) (by decide) ?_
    refine w_aload_1 (pc := 153) dX3_carryOut_153 ?_
    refine w_iconst (pc := 154) (v := 0) dX3_carryOut_154 (by decide) ?_
    refine w_callV_EI (pc := 155) (c_Plant_switchBelt hP hR hK.1) ok_X6_switchBelt t432 t433 kc6 (sP_in0 hP) (sP_s0 hP) t745 ⟨Nat.le_of_ble_eq_true rfl, Nat.le_of_ble_eq_true rfl⟩ ⟨rfl, rfl⟩ ⟨Nat.le_refl _, Nat.le_refl _⟩ rfl (Nat.le_of_ble_eq_true rfl) dX3_carryOut_155 (fun r155 I155 h155 => ?_)
    refine w_iret (pc := 158) rfl ⟨Nat.le_refl _, Nat.le_refl _⟩ dX3_carryOut_158 ?_
    have hl4 : l = 120 := by rw [← hl]; exact e4.symm
    subst hl4
    have hcm : cmO s 120 v w = oRun s 0 := by unfold cmO; rw [if_neg (by decide), if_neg (by decide), if_pos rfl]
    rw [hcm]
    exact ⟨_, rfl, rfl, h155⟩
  by_cases s4_121 : y4 = 121
  · subst s4_121
    refine w_tableIn (pc := 4) (tgt := 191) (off := 187) dX3_carryOut_4 (by decide) (by decide) (by decide) (by decide) ?_
    exfalso; rw [← hl, ← e4] at hlet; exact absurd hlet (by decide)
  by_cases s4_122 : y4 = 122
  · subst s4_122
    refine w_tableIn (pc := 4) (tgt := 168) (off := 164) dX3_carryOut_4 (by decide) (by decide) (by decide) (by decide) ?_
    refine w_aload_1 (pc := 168) dX3_carryOut_168 ?_
    refine w_callV_EI (pc := 169) (c_Plant_setZero hP hR hK.1) ok_X6_setZero t547 t548 kc6 (sP_in0 hP) (sP_s0 hP) t747 ⟨Nat.le_of_ble_eq_true rfl, Nat.le_of_ble_eq_true rfl⟩ ⟨rfl, rfl⟩ ⟨Nat.le_refl _, Nat.le_refl _⟩ rfl (Nat.le_of_ble_eq_true rfl) dX3_carryOut_169 (fun r169 I169 h169 => ?_)
    refine w_iret (pc := 172) rfl ⟨Nat.le_refl _, Nat.le_refl _⟩ dX3_carryOut_172 ?_
    have hl4 : l = 122 := by rw [← hl]; exact e4.symm
    subst hl4
    have hcm : cmO s 122 v w = oZero s := by unfold cmO; rw [if_neg (by decide), if_neg (by decide), if_neg (by decide), if_pos rfl]
    rw [hcm]
    exact ⟨_, rfl, rfl, h169⟩
  have q4_98 := lv_neT (a := 98) s4_98 (by decide)
  have q4_99 := lv_neT (a := 99) s4_99 (by decide)
  have q4_100 := lv_neT (a := 100) s4_100 (by decide)
  have q4_101 := lv_neT (a := 101) s4_101 (by decide)
  have q4_102 := lv_neT (a := 102) s4_102 (by decide)
  have q4_103 := lv_neT (a := 103) s4_103 (by decide)
  have q4_104 := lv_neT (a := 104) s4_104 (by decide)
  have q4_105 := lv_neT (a := 105) s4_105 (by decide)
  have q4_106 := lv_neT (a := 106) s4_106 (by decide)
  have q4_107 := lv_neT (a := 107) s4_107 (by decide)
  have q4_108 := lv_neT (a := 108) s4_108 (by decide)
  have q4_109 := lv_neT (a := 109) s4_109 (by decide)
  have q4_110 := lv_neT (a := 110) s4_110 (by decide)
  have q4_111 := lv_neT (a := 111) s4_111 (by decide)
  have q4_112 := lv_neT (a := 112) s4_112 (by decide)
  have q4_113 := lv_neT (a := 113) s4_113 (by decide)
  have q4_114 := lv_neT (a := 114) s4_114 (by decide)
  have q4_115 := lv_neT (a := 115) s4_115 (by decide)
  have q4_116 := lv_neT (a := 116) s4_116 (by decide)
  have q4_117 := lv_neT (a := 117) s4_117 (by decide)
  have q4_118 := lv_neT (a := 118) s4_118 (by decide)
  have q4_119 := lv_neT (a := 119) s4_119 (by decide)
  have q4_120 := lv_neT (a := 120) s4_120 (by decide)
  have q4_121 := lv_neT (a := 121) s4_121 (by decide)
  have q4_122 := lv_neT (a := 122) s4_122 (by decide)
  refine w_tableOut (pc := 4) (tgt := 191) dX3_carryOut_4 (by omega) (by decide) ?_
  exfalso
  rw [← hl, ← e4] at hlet
  exact hlet.elim (fun h => h.elim s4_98 (fun h => h.elim s4_115 (fun h => h.elim s4_120 s4_122))) (fun h => h.elim s4_108 (fun h => h.elim s4_103 (fun h => h.elim s4_109 (fun h => h.elim s4_99 s4_116))))
  
