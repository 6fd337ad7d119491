abbrev mL_law : kM := (yL_law, cL_law, 10, some .boolean)
def kLq : kP := fun v _ _ => v = some (.int 1)
theorem sW_ext {g : kG} {σ σ' : kS} {r : Nat} {x : Nat → Nat} (h : sW g σ r x) (h1 : σ.1 ≤ σ'.1) (e : ∀ a, r ≤ a → a < r + 102 → σ'.2.1 a = σ.2.1 a ∧ σ'.2.2 a = σ.2.2 a) : sW g σ' r x := by
  obtain ⟨⟨a1, a2, a3⟩, b, c, ⟨d1, d2, d3⟩, hx, f, ⟨t1, t2, t3, t4, t5, t6⟩, ⟨u1, u2, u3, u4, u5, u6⟩⟩ := h
  have e0 := e r (by omega) (by omega)
  have eh := e (r + 33) (by omega) (by omega)
  have et := e (r + 98) (by omega) (by omega)
  have ec := e (r + 99) (by omega) (by omega)
  have er := e (r + 100) (by omega) (by omega)
  have em := e (r + 101) (by omega) (by omega)
  refine ⟨⟨⟨a1.1, Nat.le_trans a1.2 h1⟩, e0.1.trans a2, ?_⟩, sP_ext b h1 (fun a x1 x2 => e a (by omega) (by omega)), sP_ext c h1 (fun a x1 x2 => e a (by omega) (by omega)), ⟨⟨d1.1, Nat.lt_of_lt_of_le d1.2 h1⟩, eh.1.trans d2, ?_⟩, hx, fun j hj => sP_ext (f j hj) h1 (fun a x1 x2 => e a (by omega) (by omega)), ⟨⟨t1.1, Nat.lt_of_lt_of_le t1.2 h1⟩, et.1.trans t2, ⟨t3.1, Nat.lt_of_lt_of_le t3.2 h1⟩, ec.1.trans t4, ?_, t6⟩, ⟨⟨u1.1, Nat.lt_of_lt_of_le u1.2 h1⟩, er.1.trans u2, ⟨u3.1, Nat.lt_of_lt_of_le u3.2 h1⟩, em.1.trans u4, ?_, u6⟩⟩
  · rw [e0.2]; exact a3
  · rw [eh.2]; exact d3
  · rw [et.2]; exact t5
  · rw [er.2]; exact u5
theorem LSd_m {g : kG} {σ : kS} {r q : Nat} {I : kI} {T U : Int} (h : LSd g σ r q I T) (hT : T ≤ U) : LSd g σ r q I U := by
  obtain ⟨x, c, f, h1, h2, h3, h4, h5, h6⟩ := h
  exact ⟨x, c, f, h1, h2, h3, h4, h5, Int.le_trans h6 hT⟩
theorem DR_start {J : kI} {q : Nat} (h0 : J q = kZ) (h1 : J (q + 1) = kZ) (h3 : J (q + 3) = kZ) (h4 : J (q + 4) = kZ) : DRo (kst (kst (kst (kst (kst (kst (kst J q 0 50) q 7 1000) q 14 1) q 18 120) q 19 20) q 20 1) (q + 4) 0 (-1000004)) q kv0 := by
  have n0 : nLo kZ = 0 := rfl
  have D : DRo J q kZ := ⟨fun k _ => by rw [h0], fun k _ => by rw [h1], fun k hk => absurd hk (by rw [n0]; omega), fun k _ => by rw [h3], fun k _ => by rw [h4]⟩
  have l6 : nLo (upd (upd (upd (upd (upd (upd kZ 0 50) 7 1000) 14 1) 18 120) 19 20) 20 1) ≤ 6 := by
    rw [nLo_u (by omega), nLo_u (by omega), nLo_u (by omega), nLo_u (by omega), nLo_u (by omega), nLo_u (by omega), n0]; omega
  have E := DR_a (k := 0) (x := -1000004) (DR_g (k := 20) (x := 1) (DR_g (k := 19) (x := 20) (DR_g (k := 18) (x := 120) (DR_g (k := 14) (x := 1) (DR_g (k := 7) (x := 1000) (DR_g (k := 0) (x := 50) D (by omega) (by omega)) (by omega) (by omega)) (by omega) (by omega)) (by omega) (by omega)) (by omega) (by omega)) (by omega) (by omega)) l6 (by omega)
  rw [show 129 + 0 = 129 from rfl, uc (j := 20) (k := 129) (by omega), uc (j := 19) (k := 129) (by omega), uc (j := 18) (k := 129) (by omega)] at E
  exact E
theorem LI_0 (hK : KI kv0) : LI kv0 ∧ (kv0 2).toInt ≤ 0 := by
  have z : ∀ k, (k ≠ 0 ∧ k ≠ 7 ∧ k ≠ 14 ∧ k ≠ 129 ∧ k ≠ 18 ∧ k ≠ 19 ∧ k ≠ 20) → kv0 k = 0 := fun k h => kv0_z h
  have z2 := z 2 (by omega)
  have z5 := z 5 (by omega)
  have z6 := z 6 (by omega)
  have z7 : kv0 7 = 1000 := by decide
  have i7 : (1000 : Int32).toInt = 1000 := by decide
  have zA : nAc kv0 = 1 := by decide
  refine ⟨⟨hK, ⟨?_, ?_⟩, ?_, Or.inl (z 15 (by omega))⟩, by rw [z2, ti_0]; omega⟩
  · unfold Zt
    rw [kv0_L, kv0_B, z 9 (by omega), z 10 (by omega), sm_z (fun k hk => z _ (by omega))]; rfl
  · rw [zA, kv0_B]
    show (0 : Int32) + kv0 130 = 0
    rw [z 130 (by omega)]; rfl
  · unfold TB
    rw [z2, z5, z6, z7, ti_0, i7]; omega
set_option maxHeartbeats 40000000 in
set_option maxRecDepth 100000 in
theorem law_76 {g : kG} {b L r q : Nat} {xs : Nat → Int32} (hL : L ≤ 260) (hq : q = r + 102) {σ : kS} {I : kI} (h0 : LSd g σ r q I 0) : wp g mL_law room_1 (kX b L xs (kB g)) kLq (107, 1226) σ I 76 [some (.ref b), some (.ref r), some (.ref q), some (.ref (q + 1)), some (.ref (q + 2)), some (.ref (q + 3)), some (.ref (q + 4)), none, none, none] [] := by
  refine w_aload_1 (pc := 76) dL_law_76 ?_
  refine w_aload_2 (pc := 77) dL_law_77 ?_
  refine w_aload_3 (pc := 78) dL_law_78 ?_
  refine w_aload_4 (pc := 79) dL_law_79 ?_
  refine w_aload_5 (pc := 81) dL_law_81 ?_
  refine w_aload_6 (pc := 83) dL_law_83 ?_
  refine w_callS_I (pc := 85) (c_L_isSo h0 (by omega)) ok_L_isSo t615 t614 ⟨Nat.le_of_ble_eq_true rfl, Nat.le_of_ble_eq_true rfl⟩ ⟨rfl, rfl⟩ ⟨Nat.le_refl _, Nat.le_refl _⟩ rfl (Nat.le_of_ble_eq_true rfl) dL_law_85 ?_
  refine w_istore_7 (pc := 88) dL_law_88 rfl ?_
  refine w_iconst (pc := 90) (v := 0) dL_law_90 (by decide) ?_
  refine w_istore_8 (pc := 91) dL_law_91 rfl ?_
  have L0 : ∀ (n i : Nat) (z : Int32) (F : Nat → Nat → Option Nat) (J : kI), i ≤ 3 → 4 ≤ i + n → z = nI i → LSd g (σ.1, σ.2.1, F) r q J (60 * (i : Int)) → wp g mL_law room_1 (kX b L xs (kB g)) kLq (107, 1226) (σ.1, σ.2.1, F) J 93 [some (.ref b), some (.ref r), some (.ref q), some (.ref (q + 1)), some (.ref (q + 2)), some (.ref (q + 3)), some (.ref (q + 4)), some (.int 1), some (.int z), none] [] := by
    intro n
    induction n with
    | zero => intro i z F J h1 h2; exact absurd h2 (by omega)
    | succ n ih =>
      intro i z F J h1 h2 hz hLS
      refine w_iload_8 (pc := 93) dL_law_93 ?_
      refine w_iconst (pc := 95) (v := 3) dL_law_95 (by decide) ?_
      refine w_icmp_ge (pc := 96) (tgt := 157) dL_law_96 (by decide) (fun c96 => ?_) (fun c96 => ?_)
      · have hi : i = 3 := by
          have := (nx_cmp (x := 3) (a := 3) rfl (by omega) hz (by omega)).1.mp c96
          omega
        subst hi
        refine w_bipush (pc := 157) (v := 12) dL_law_157 (by decide) ?_
        refine w_aload_0 (pc := 159) dL_law_159 ?_
        refine w_iconst (pc := 160) (v := 0) dL_law_160 (by decide) ?_
        refine w_callSX (pc := 161) (b := b) (L := L) (xs := xs) (fun _ h => h) (c_L_cell (k := 0) (by omega) rfl (by omega)) ok_L_cell t353 t352 ⟨Nat.le_of_ble_eq_true rfl, Nat.le_of_ble_eq_true rfl⟩ ⟨rfl, rfl⟩ ⟨Nat.le_of_ble_eq_true rfl, Nat.le_of_ble_eq_true rfl⟩ rfl (Nat.le_of_ble_eq_true rfl) dL_law_161 (fun r161 I161 h161 => ?_)
        rw [h161]
        refine w_bipush (pc := 164) (v := 50) dL_law_164 (by decide) ?_
        refine w_callS_EI (pc := 166) (c_L_low (m := 50) rfl (by omega) (by omega)) ok_L_low t357 t356 ⟨Nat.le_of_ble_eq_true rfl, Nat.le_of_ble_eq_true rfl⟩ ⟨rfl, rfl⟩ ⟨Nat.le_refl _, Nat.le_refl _⟩ rfl (Nat.le_of_ble_eq_true rfl) dL_law_166 (fun r166 I166 h166 => ?_)
        obtain ⟨e166, j, hj, hr⟩ := h166
        rw [e166]
        refine w_iadd (pc := 169) dL_law_169 ?_
        refine w_name (fun t ht => ?_)
        have htn : t = nI (12 + j) := by rw [ht, hr]; exact nI_add 12 j
        refine w_istore_8 (pc := 170) dL_law_170 rfl ?_
        refine w_iconst (pc := 172) (v := 0) dL_law_172 (by decide) ?_
        refine w_istore_9 (pc := 173) dL_law_173 rfl ?_
        have L1 : ∀ (n i : Nat) (z : Int32) (F : Nat → Nat → Option Nat) (J : kI), i ≤ 12 + j → 13 + j ≤ i + n → z = nI i → LSd g (σ.1, σ.2.1, F) r q J (180 + 60 * (i : Int)) → wp g mL_law room_1 (kX b L xs (kB g)) kLq (107, 1226) (σ.1, σ.2.1, F) J 175 [some (.ref b), some (.ref r), some (.ref q), some (.ref (q + 1)), some (.ref (q + 2)), some (.ref (q + 3)), some (.ref (q + 4)), some (.int 1), some (.int t), some (.int z)] [] := by
          intro n
          induction n with
          | zero => intro i z F J h1 h2; exact absurd h2 (by omega)
          | succ n ih =>
            intro i z F J h1 h2 hz hLS
            refine w_iload_9 (pc := 175) dL_law_175 ?_
            refine w_iload_8 (pc := 177) dL_law_177 ?_
            refine w_icmp_ge (pc := 179) (tgt := 245) dL_law_179 (by decide) (fun c179 => ?_) (fun c179 => ?_)
            · have hi : i = 12 + j := by
                have := (nx_cmp htn (by omega) hz (by omega)).1.mp c179
                omega
              subst hi
              obtain ⟨x, c, f, hW, hC, -⟩ := hLS
              refine w_iload_7 (pc := 245) dL_law_245 ?_
              refine w_if_eq (pc := 247) (tgt := 299) dL_law_247 (by decide) (fun c9 => absurd c9 (by decide)) (fun _ => ?_)
              refine w_aload_1 (pc := 250) dL_law_250 ?_
              refine w_bipush (pc := 251) (v := 16) dL_law_251 (by decide) ?_
              refine w_callV_I (pc := 253) (c_BS_count hW hC) ok_X10_count t334 t335 kc10 (sBS_in hW.1) hW.1.2.1 t333 ⟨Nat.le_of_ble_eq_true rfl, Nat.le_of_ble_eq_true rfl⟩ ⟨rfl, rfl⟩ ⟨Nat.le_refl _, Nat.le_refl _⟩ rfl (Nat.le_of_ble_eq_true rfl) dL_law_253 ?_
              rw [qc_16]
              refine w_ldc (pc := 256) (v := -1000001) t574 dL_law_256 ?_
              refine w_icmp_ne (pc := 258) (tgt := 299) dL_law_258 (by decide) (fun c258 => ?_) (fun c258 => ?_)
              · exact (c258 rfl).elim
              · refine w_aload_1 (pc := 261) dL_law_261 ?_
                refine w_bipush (pc := 262) (v := 34) dL_law_262 (by decide) ?_
                refine w_callV_I (pc := 264) (c_BS_count hW hC) ok_X10_count t334 t335 kc10 (sBS_in hW.1) hW.1.2.1 t333 ⟨Nat.le_of_ble_eq_true rfl, Nat.le_of_ble_eq_true rfl⟩ ⟨rfl, rfl⟩ ⟨Nat.le_refl _, Nat.le_refl _⟩ rfl (Nat.le_of_ble_eq_true rfl) dL_law_264 ?_
                rw [qc_34]
                refine w_ldc (pc := 267) (v := -1000001) t574 dL_law_267 ?_
                refine w_icmp_ne (pc := 269) (tgt := 299) dL_law_269 (by decide) (fun c269 => ?_) (fun c269 => ?_)
                · exact (c269 rfl).elim
                · refine w_aload_1 (pc := 272) dL_law_272 ?_
                  refine w_bipush (pc := 273) (v := 12) dL_law_273 (by decide) ?_
                  refine w_iconst (pc := 275) (v := 0) dL_law_275 (by decide) ?_
                  refine w_callV_I (pc := 276) (c_BS_massAt hW hC) ok_X10_massAt t316 t317 kc10 (sBS_in hW.1) hW.1.2.1 t315 ⟨Nat.le_of_ble_eq_true rfl, Nat.le_of_ble_eq_true rfl⟩ ⟨rfl, rfl⟩ ⟨Nat.le_refl _, Nat.le_refl _⟩ rfl (Nat.le_of_ble_eq_true rfl) dL_law_276 ?_
                  rw [qm_o]
                  refine w_ldc (pc := 279) (v := -1000001) t574 dL_law_279 ?_
                  refine w_icmp_ne (pc := 281) (tgt := 299) dL_law_281 (by decide) (fun c281 => ?_) (fun c281 => ?_)
                  · exact (c281 rfl).elim
                  · refine w_aload_1 (pc := 284) dL_law_284 ?_
                    refine w_iconst (pc := 285) (v := 0) dL_law_285 (by decide) ?_
                    refine w_iconst (pc := 286) (v := 2) dL_law_286 (by decide) ?_
                    refine w_callV_I (pc := 287) (c_BS_lotOf hW hC) ok_X10_lotOf t329 t330 kc10 (sBS_in hW.1) hW.1.2.1 t328 ⟨Nat.le_of_ble_eq_true rfl, Nat.le_of_ble_eq_true rfl⟩ ⟨rfl, rfl⟩ ⟨Nat.le_refl _, Nat.le_refl _⟩ rfl (Nat.le_of_ble_eq_true rfl) dL_law_287 ?_
                    rw [ql_o]
                    refine w_ldc (pc := 290) (v := -1000001) t574 dL_law_290 ?_
                    refine w_icmp_ne (pc := 292) (tgt := 299) dL_law_292 (by decide) (fun c292 => ?_) (fun c292 => ?_)
                    · exact (c292 rfl).elim
                    · refine w_iconst (pc := 295) (v := 1) dL_law_295 (by decide) ?_
                      refine w_goto (pc := 296) (tgt := 300) dL_law_296 (by decide) ?_
                      refine w_zret (pc := 300) rfl (by decide) ⟨Nat.le_of_ble_eq_true rfl, Nat.le_of_ble_eq_true rfl⟩ dL_law_300 ?_
                      exact rfl
            · have hi : i < 12 + j := nx_nle c179 htn (by omega) hz (by omega)
              refine w_iload_7 (pc := 182) dL_law_182 ?_
              refine w_if_eq (pc := 184) (tgt := 245) dL_law_184 (by decide) (fun c9 => absurd c9 (by decide)) (fun _ => ?_)
              refine w_aload_1 (pc := 187) dL_law_187 ?_
              refine w_aload_2 (pc := 188) dL_law_188 ?_
              refine w_aload_3 (pc := 189) dL_law_189 ?_
              refine w_aload_4 (pc := 190) dL_law_190 ?_
              refine w_aload_5 (pc := 192) dL_law_192 ?_
              refine w_aload_6 (pc := 194) dL_law_194 ?_
              refine w_aload_0 (pc := 196) dL_law_196 ?_
              refine w_iconst (pc := 197) (v := 4) dL_law_197 (by decide) ?_
              refine w_iload_9 (pc := 198) dL_law_198 ?_
              refine w_iadd (pc := 200) dL_law_200 ?_
              refine w_callSX (pc := 201) (b := b) (L := L) (xs := xs) (fun _ h => h) (c_L_cell (k := 4 + i) (by omega) (by rw [hz]; exact nI_add 4 i) (by omega)) ok_L_cell t353 t352 ⟨Nat.le_of_ble_eq_true rfl, Nat.le_of_ble_eq_true rfl⟩ ⟨rfl, rfl⟩ ⟨Nat.le_of_ble_eq_true rfl, Nat.le_of_ble_eq_true rfl⟩ rfl (Nat.le_of_ble_eq_true rfl) dL_law_201 (fun r201 I201 h201 => ?_)
              rw [h201]
              refine w_sipush (pc := 204) (v := 7919) dL_law_204 (by decide) ?_
              refine w_iload_9 (pc := 207) dL_law_207 ?_
              refine w_imul (pc := 209) dL_law_209 ?_
              refine w_ixor (pc := 210) dL_law_210 ?_
              refine w_callS_RI (pc := 211) (c_L_acts hq hLS (by omega)) ok_L_acts t361 t360 ⟨Nat.le_of_ble_eq_true rfl, Nat.le_of_ble_eq_true rfl⟩ ⟨rfl, rfl⟩ ⟨Nat.le_refl _, Nat.le_refl _⟩ rfl (Nat.le_of_ble_eq_true rfl) dL_law_211 (fun r211 G211 I211 h211 => ?_)
              obtain ⟨v211, LS2⟩ := h211
              rw [v211]
              refine w_if_eq (pc := 214) (tgt := 236) dL_law_214 (by decide) (fun c9 => absurd c9 (by decide)) (fun _ => ?_)
              refine w_aload_1 (pc := 217) dL_law_217 ?_
              refine w_aload_2 (pc := 218) dL_law_218 ?_
              refine w_aload_3 (pc := 219) dL_law_219 ?_
              refine w_aload_4 (pc := 220) dL_law_220 ?_
              refine w_aload_5 (pc := 222) dL_law_222 ?_
              refine w_aload_6 (pc := 224) dL_law_224 ?_
              refine w_callS_I (pc := 226) (c_L_isSo LS2 (by omega)) ok_L_isSo t615 t614 ⟨Nat.le_of_ble_eq_true rfl, Nat.le_of_ble_eq_true rfl⟩ ⟨rfl, rfl⟩ ⟨Nat.le_refl _, Nat.le_refl _⟩ rfl (Nat.le_of_ble_eq_true rfl) dL_law_226 ?_
              refine w_if_eq (pc := 229) (tgt := 236) dL_law_229 (by decide) (fun c9 => absurd c9 (by decide)) (fun _ => ?_)
              refine w_iconst (pc := 232) (v := 1) dL_law_232 (by decide) ?_
              refine w_goto (pc := 233) (tgt := 237) dL_law_233 (by decide) ?_
              refine w_istore_7 (pc := 237) dL_law_237 rfl ?_
              refine w_iinc_9 (pc := 239) dL_law_239 rfl rfl ?_
              refine w_goto (pc := 242) (tgt := 175) dL_law_242 (by decide) ?_
              exact ih (i + 1) _ _ _ (by omega) (by omega) (by rw [hz]; exact nI_1 i) (LSd_m LS2 (by omega))
        exact L1 (13 + j) 0 _ _ _ (by omega) (by omega) rfl (LSd_m hLS (by omega))
      · have hi : i < 3 := nx_nle (x := 3) (a := 3) c96 rfl (by omega) hz (by omega)
        refine w_iload_7 (pc := 99) dL_law_99 ?_
        refine w_if_eq (pc := 101) (tgt := 157) dL_law_101 (by decide) (fun c9 => absurd c9 (by decide)) (fun _ => ?_)
        refine w_aload_1 (pc := 104) dL_law_104 ?_
        refine w_aload_2 (pc := 105) dL_law_105 ?_
        refine w_aload_3 (pc := 106) dL_law_106 ?_
        refine w_aload_4 (pc := 107) dL_law_107 ?_
        refine w_aload_5 (pc := 109) dL_law_109 ?_
        refine w_aload_6 (pc := 111) dL_law_111 ?_
        refine w_aload_0 (pc := 113) dL_law_113 ?_
        refine w_iconst (pc := 114) (v := 1) dL_law_114 (by decide) ?_
        refine w_iload_8 (pc := 115) dL_law_115 ?_
        refine w_iadd (pc := 117) dL_law_117 ?_
        refine w_callSX (pc := 118) (b := b) (L := L) (xs := xs) (fun _ h => h) (c_L_cell (k := 1 + i) (by omega) (by rw [hz]; exact nI_add 1 i) (by omega)) ok_L_cell t353 t352 ⟨Nat.le_of_ble_eq_true rfl, Nat.le_of_ble_eq_true rfl⟩ ⟨rfl, rfl⟩ ⟨Nat.le_of_ble_eq_true rfl, Nat.le_of_ble_eq_true rfl⟩ rfl (Nat.le_of_ble_eq_true rfl) dL_law_118 (fun r118 I118 h118 => ?_)
        rw [h118]
        refine w_ldc (pc := 121) (v := 2147483647) t359 dL_law_121 ?_
        refine w_iand (pc := 123) dL_law_123 ?_
        refine w_sipush (pc := 124) (v := 832) dL_law_124 (by decide) ?_
        refine w_idiv (pc := 127) dL_law_127 (by decide) ?_
        refine w_sipush (pc := 128) (v := 832) dL_law_128 (by decide) ?_
        refine w_imul (pc := 131) dL_law_131 ?_
        refine w_iload_8 (pc := 132) dL_law_132 ?_
        refine w_iconst (pc := 134) (v := 1) dL_law_134 (by decide) ?_
        refine w_icmp_ne (pc := 135) (tgt := 143) dL_law_135 (by decide) (fun c135 => ?_) (fun c135 => ?_)
        · refine w_bipush (pc := 143) (v := 14) dL_law_143 (by decide) ?_
          refine w_iadd (pc := 145) dL_law_145 ?_
          refine w_callS_RI (pc := 146) (c_L_acts hq hLS (by omega)) ok_L_acts t361 t360 ⟨Nat.le_of_ble_eq_true rfl, Nat.le_of_ble_eq_true rfl⟩ ⟨rfl, rfl⟩ ⟨Nat.le_refl _, Nat.le_refl _⟩ rfl (Nat.le_of_ble_eq_true rfl) dL_law_146 (fun r146 G146 I146 h146 => ?_)
          obtain ⟨v146, LS2⟩ := h146
          rw [v146]
          refine w_istore_7 (pc := 149) dL_law_149 rfl ?_
          refine w_iinc_8 (pc := 151) dL_law_151 rfl rfl ?_
          refine w_goto (pc := 154) (tgt := 93) dL_law_154 (by decide) ?_
          exact ih (i + 1) _ _ _ (by omega) (by omega) (by rw [hz]; exact nI_1 i) (LSd_m LS2 (by omega))
        · refine w_bipush (pc := 138) (v := 10) dL_law_138 (by decide) ?_
          refine w_goto (pc := 140) (tgt := 145) dL_law_140 (by decide) ?_
          refine w_iadd (pc := 145) dL_law_145 ?_
          refine w_callS_RI (pc := 146) (c_L_acts hq hLS (by omega)) ok_L_acts t361 t360 ⟨Nat.le_of_ble_eq_true rfl, Nat.le_of_ble_eq_true rfl⟩ ⟨rfl, rfl⟩ ⟨Nat.le_refl _, Nat.le_refl _⟩ rfl (Nat.le_of_ble_eq_true rfl) dL_law_146 (fun r146 G146 I146 h146 => ?_)
          obtain ⟨v146, LS2⟩ := h146
          rw [v146]
          refine w_istore_7 (pc := 149) dL_law_149 rfl ?_
          refine w_iinc_8 (pc := 151) dL_law_151 rfl rfl ?_
          refine w_goto (pc := 154) (tgt := 93) dL_law_154 (by decide) ?_
          exact ih (i + 1) _ _ _ (by omega) (by omega) (by rw [hz]; exact nI_1 i) (LSd_m LS2 (by omega))
  exact L0 4 0 _ σ.2.2 I (by omega) (by omega) rfl (LSd_m h0 (by omega))
set_option maxHeartbeats 40000000 in
set_option maxRecDepth 100000 in
theorem law_wp {g : kG} {b L r : Nat} {xs : Nat → Int32} (hL : L ≤ 260) (hb : kB g ≤ r) {sh : Nat → Nat × Nat} {G : Nat → Nat → Option Nat} {I : kI} : wp g mL_law room_1 (kX b L xs (kB g)) kLq (0, 0) (r, sh, G) I 0 [some (.ref b), none, none, none, none, none, none, none, none, none] [] := by
  refine w_new (pc := 0) (N := r) kc10 rfl t20 t21 t7 ⟨Nat.le_of_ble_eq_true rfl, Nat.le_of_ble_eq_true rfl⟩ dL_law_0 ?_
  refine w_dup_a (pc := 3) dL_law_3 ?_
  refine w_callI_C (pc := 4) (as := []) (c_BS_init hb (by simp [va_up])) rfl ok_X10_init rfl t23 t22 ⟨⟨Nat.le_of_ble_eq_true rfl, Nat.le_of_ble_eq_true rfl⟩, Nat.le_of_ble_eq_true rfl, Nat.le_of_ble_eq_true rfl⟩ rfl (Nat.le_of_ble_eq_true rfl) dL_law_4 (fun N4 S4 G4 I4 h4 => ?_)
  obtain ⟨e4, W0, C0, F4⟩ := h4
  obtain rfl : N4 = r + 102 := e4
  refine w_astore_1 (pc := 7) dL_law_7 rfl ?_
  refine w_bipush (pc := 8) (v := 21) dL_law_8 (by decide) ?_
  refine w_newai (pc := 10) (N := (r + 102)) (k := 21) rfl (by decide) t60 ⟨Nat.le_of_ble_eq_true rfl, Nat.le_of_ble_eq_true rfl⟩ dL_law_10 ?_
  refine w_astore_2 (pc := 12) dL_law_12 rfl ?_
  refine w_bipush (pc := 13) (v := 48) dL_law_13 (by decide) ?_
  refine w_newai (pc := 15) (N := (r + 103)) (k := 48) rfl (by decide) t60 ⟨Nat.le_of_ble_eq_true rfl, Nat.le_of_ble_eq_true rfl⟩ dL_law_15 ?_
  refine w_astore_3 (pc := 17) dL_law_17 rfl ?_
  refine w_bipush (pc := 18) (v := 12) dL_law_18 (by decide) ?_
  refine w_newai (pc := 20) (N := (r + 104)) (k := 12) rfl (by decide) t60 ⟨Nat.le_of_ble_eq_true rfl, Nat.le_of_ble_eq_true rfl⟩ dL_law_20 ?_
  refine w_astore_4 (pc := 22) dL_law_22 rfl ?_
  refine w_bipush (pc := 24) (v := 48) dL_law_24 (by decide) ?_
  refine w_newai (pc := 26) (N := (r + 105)) (k := 48) rfl (by decide) t60 ⟨Nat.le_of_ble_eq_true rfl, Nat.le_of_ble_eq_true rfl⟩ dL_law_26 ?_
  refine w_astore_5 (pc := 28) dL_law_28 rfl ?_
  refine w_bipush (pc := 30) (v := 20) dL_law_30 (by decide) ?_
  refine w_newai (pc := 32) (N := (r + 106)) (k := 20) rfl (by decide) t60 ⟨Nat.le_of_ble_eq_true rfl, Nat.le_of_ble_eq_true rfl⟩ dL_law_32 ?_
  refine w_astore_6 (pc := 34) dL_law_34 rfl ?_
  refine w_aload_2 (pc := 36) dL_law_36 ?_
  refine w_iconst (pc := 37) (v := 0) dL_law_37 (by decide) ?_
  refine w_bipush (pc := 38) (v := 50) dL_law_38 (by decide) ?_
  refine w_iast (pc := 40) (j := 0) (by have := hb; (try dsimp only); omega) (show _ = (100, 21) from by simp [va_up]) rfl (by decide) (by decide) dL_law_40 ?_
  refine w_aload_2 (pc := 41) dL_law_41 ?_
  refine w_bipush (pc := 42) (v := 7) dL_law_42 (by decide) ?_
  refine w_sipush (pc := 44) (v := 1000) dL_law_44 (by decide) ?_
  refine w_iast (pc := 47) (j := 7) (by have := hb; (try dsimp only); omega) (show _ = (100, 21) from by simp [va_up]) rfl (by decide) (by decide) dL_law_47 ?_
  refine w_aload_2 (pc := 48) dL_law_48 ?_
  refine w_bipush (pc := 49) (v := 14) dL_law_49 (by decide) ?_
  refine w_iconst (pc := 51) (v := 1) dL_law_51 (by decide) ?_
  refine w_iast (pc := 52) (j := 14) (by have := hb; (try dsimp only); omega) (show _ = (100, 21) from by simp [va_up]) rfl (by decide) (by decide) dL_law_52 ?_
  refine w_aload_2 (pc := 53) dL_law_53 ?_
  refine w_bipush (pc := 54) (v := 18) dL_law_54 (by decide) ?_
  refine w_bipush (pc := 56) (v := 120) dL_law_56 (by decide) ?_
  refine w_iast (pc := 58) (j := 18) (by have := hb; (try dsimp only); omega) (show _ = (100, 21) from by simp [va_up]) rfl (by decide) (by decide) dL_law_58 ?_
  refine w_aload_2 (pc := 59) dL_law_59 ?_
  refine w_bipush (pc := 60) (v := 19) dL_law_60 (by decide) ?_
  refine w_bipush (pc := 62) (v := 20) dL_law_62 (by decide) ?_
  refine w_iast (pc := 64) (j := 19) (by have := hb; (try dsimp only); omega) (show _ = (100, 21) from by simp [va_up]) rfl (by decide) (by decide) dL_law_64 ?_
  refine w_aload_2 (pc := 65) dL_law_65 ?_
  refine w_bipush (pc := 66) (v := 20) dL_law_66 (by decide) ?_
  refine w_iconst (pc := 68) (v := 1) dL_law_68 (by decide) ?_
  refine w_iast (pc := 69) (j := 20) (by have := hb; (try dsimp only); omega) (show _ = (100, 21) from by simp [va_up]) rfl (by decide) (by decide) dL_law_69 ?_
  refine w_aload_6 (pc := 70) dL_law_70 ?_
  refine w_iconst (pc := 72) (v := 0) dL_law_72 (by decide) ?_
  refine w_ldc (pc := 73) (v := -1000004) t628 dL_law_73 ?_
  refine w_iast (pc := 75) (j := 0) (by have := hb; (try dsimp only); omega) (show _ = (100, 20) from by simp [va_up]) rfl (by decide) (by decide) dL_law_75 ?_
  obtain ⟨i0, t0⟩ := LI_0 C0.2.1
  refine law_76 (q := r + 102) hL rfl ⟨(fun i => r + 33 + 1 + 16 * i), (kv0, 0, fun _ => kv0), kZ, ?_, ?_, i0, ?_, ?_, t0⟩
  · refine sW_ext W0 (by dsimp only; omega) (fun a h1 h2 => ⟨?_, ?_⟩)
    · dsimp only
      rw [va_up_ne _ _ (by omega), va_up_ne _ _ (by omega), va_up_ne _ _ (by omega), va_up_ne _ _ (by omega), va_up_ne _ _ (by omega)]
    · dsimp only
      rw [va_up_ne _ _ (by omega), va_up_ne _ _ (by omega), va_up_ne _ _ (by omega), va_up_ne _ _ (by omega), va_up_ne _ _ (by omega)]
  · refine CR_ext W0 C0 (fun a h1 h2 => ?_)
    rw [kst_n (by omega), kst_n (by omega), kst_n (by omega), kst_n (by omega), kst_n (by omega), kst_n (by omega), kst_n (by omega), va_up_ne _ _ (by omega), va_up_ne _ _ (by omega), va_up_ne _ _ (by omega), va_up_ne _ _ (by omega), va_up_ne _ _ (by omega)]
  · exact ⟨⟨by omega, by dsimp only; omega⟩, by simp [va_up], by simp [va_up], by simp [va_up], by simp [va_up], by simp [va_up]⟩
  · exact DR_start (by simp [va_up]) (by simp [va_up]) (by simp [va_up]) (by simp [va_up])
