abbrev mL_law : kM := (yL_law, cL_law, 4, some .boolean)
def kLq : kP := fun v _ _ => v = some (.int 1)
theorem law_le {L i : Nat} (hL : L ≤ 1536) (hi : i ≤ L) {z : Int32} (hz : z = nI i) (h : ¬ nI L - 3 < z) : i + 3 ≤ L := by
  have e3 : (3 : Int32).toInt = 3 := by decide
  have e1 : (nI L).toInt = L := ti_nI (by omega)
  have e2 : (nI i).toInt = i := ti_nI (by omega)
  rw [ti_lt, hz, ti_sub (by omega) (by omega), e1, e2, e3] at h
  omega
theorem sW_ext {g : kG} {σ σ' : kS} {r : Nat} {x : Nat → Nat} (h : sW g σ r x) (h1 : σ.1 ≤ σ'.1) (e : ∀ a, r ≤ a → a < r + 102 → σ'.2.1 a = σ.2.1 a ∧ σ'.2.2 a = σ.2.2 a) : sW g σ' r x := by
  obtain ⟨⟨a1, a2, a3⟩, b, c, ⟨d1, d2, d3⟩, hx, f, ⟨t1, t2, t3, t4, t5, t6⟩, ⟨u1, u2, u3, u4, u5, u6⟩⟩ := h
  have e0 := e r (by omega) (by omega)
  have eh := e (r + 33) (by omega) (by omega)
  have et := e (r + 98) (by omega) (by omega)
  have ec := e (r + 99) (by omega) (by omega)
  have er := e (r + 100) (by omega) (by omega)
  have em := e (r + 101) (by omega) (by omega)
  refine ⟨⟨⟨a1.1, Nat.le_trans a1.2 h1⟩, e0.1.trans a2, ?_⟩, sP_ext b h1 (fun a x1 x2 => e a (by omega) (by omega)), sP_ext c h1 (fun a x1 x2 => e a (by omega) (by omega)), ⟨⟨d1.1, Nat.lt_of_lt_of_le d1.2 h1⟩, eh.1.trans d2, ?_⟩, hx, fun j hj => sP_ext (f j hj) h1 (fun a x1 x2 => e a (by omega) (by omega)), ⟨⟨t1.1, Nat.lt_of_lt_of_le t1.2 h1⟩, et.1.trans t2, ⟨t3.1, Nat.lt_of_lt_of_le t3.2 h1⟩, ec.1.trans t4, ?_, t6⟩, ⟨⟨u1.1, Nat.lt_of_lt_of_le u1.2 h1⟩, er.1.trans u2, ⟨u3.1, Nat.lt_of_lt_of_le u3.2 h1⟩, em.1.trans u4, ?_, u6⟩⟩
  · rw [e0.2]; exact a3
  · rw [eh.2]; exact d3
  · rw [et.2]; exact t5
  · rw [er.2]; exact u5
set_option maxHeartbeats 40000000 in
set_option maxRecDepth 100000 in
theorem law_wp {g : kG} {b L r : Nat} {xs : Nat → Int32} (hL : L ≤ 1536) (hb : kB g ≤ r) {sh : Nat → Nat × Nat} {G : Nat → Nat → Option Nat} {I : kI} : wp g mL_law room_1 (kX b L xs (kB g)) kLq (0, 0) (r, sh, G) I 0 [some (.ref b), none, none, none] [] := by
  refine w_new (pc := 0) (N := r) kc10 rfl t49 t50 t35 ⟨Nat.le_of_ble_eq_true rfl, Nat.le_of_ble_eq_true rfl⟩ dL_law_0 ?_
  refine w_dup_a (pc := 3) dL_law_3 ?_
  refine w_callI_C (pc := 4) (as := []) (c_BS_init hb (by simp [va_up])) rfl ok_X10_init rfl t52 t51 ⟨⟨Nat.le_of_ble_eq_true rfl, Nat.le_of_ble_eq_true rfl⟩, Nat.le_of_ble_eq_true rfl, Nat.le_of_ble_eq_true rfl⟩ rfl (Nat.le_of_ble_eq_true rfl) dL_law_4 (fun N4 S4 G4 I4 h4 => ?_)
  obtain ⟨e4, W0, C0, F4⟩ := h4
  obtain rfl : N4 = r + 102 := e4
  refine w_astore_1 (pc := 7) dL_law_7 rfl ?_
  refine w_new (pc := 8) (N := (r + 102)) kc11 rfl t756 t757 t48 ⟨Nat.le_of_ble_eq_true rfl, Nat.le_of_ble_eq_true rfl⟩ dL_law_8 ?_
  refine w_dup_a (pc := 11) dL_law_11 ?_
  refine w_callI_C (pc := 12) (as := []) (c_Mod_init (q := r + 102) (by omega) (by simp [va_up]) (by simp [va_up])) rfl ok_X11_init rfl t759 t758 ⟨⟨Nat.le_of_ble_eq_true rfl, Nat.le_of_ble_eq_true rfl⟩, Nat.le_of_ble_eq_true rfl, Nat.le_of_ble_eq_true rfl⟩ rfl (Nat.le_of_ble_eq_true rfl) dL_law_12 (fun N12 S12 G12 I12 h12 => ?_)
  obtain ⟨e12, O0, F12, z1, z2, z3⟩ := h12
  obtain rfl : N12 = r + 109 := e12
  have hW0 : sW g (r + 109, S12, G12) r (fun i => r + 33 + 1 + 16 * i) := sW_ext W0 (by dsimp only; omega) (fun a h1 h2 => ⟨(F12 a h2).1.trans (va_up_ne _ _ (by omega)), (F12 a h2).2.1.trans (va_up_ne _ _ (by omega))⟩)
  have hC0 : CR I12 r (fun i => r + 33 + 1 + 16 * i) (kv0, 0, fun _ => kv0) 0 kZ := CR_ext W0 C0 (fun a h1 h2 => (F12 a h2).2.2.trans (va_up_ne _ _ (by omega)))
  have hLR0 : LR g (r + 109, S12, G12) I12 r := ⟨_, _, _, _, hW0, hC0, O0, ⟨z2, by rw [z1]; rfl, by rw [z1], fun i hi => absurd hi (Nat.not_lt_zero i)⟩, by rw [z1]; rfl, fun k hk => absurd hk (Nat.not_lt_zero k)⟩
  refine w_astore_2 (pc := 15) dL_law_15 rfl ?_
  refine w_iconst (pc := 16) (v := 0) dL_law_16 (by decide) ?_
  refine w_istore_3 (pc := 17) dL_law_17 rfl ?_
  have L0 : ∀ (n i : Nat) (z : Int32) (G0 : Nat → Nat → Option Nat) (J : kI), i ≤ L → L + 1 ≤ i + n → z = nI i → LR g (r + 109, S12, G0) J r → wp g mL_law room_1 (kX b L xs (kB g)) kLq (109, 2196) (r + 109, S12, G0) J 18 [some (.ref b), some (.ref r), some (.ref (r + 102)), some (.int z)] [] := by
    intro n
    induction n with
    | zero => intro i z G0 J h1 h2; exact absurd h2 (by omega)
    | succ n ih =>
      intro i z G0 J h1 h2 hz hLR
      obtain ⟨x, c, n0, f, hW, hC, hO, hM, hT⟩ := hLR
      refine w_iload_3 (pc := 18) dL_law_18 ?_
      have J713 : ∀ (F : Nat → Nat → Option Nat) (K : kI), i + 3 ≤ L → LR g (r + 109, S12, F) K r → wp g mL_law room_1 (kX b L xs (kB g)) kLq (109, 2196) (r + 109, S12, F) K 713 [some (.ref b), some (.ref r), some (.ref (r + 102)), some (.int z)] [] := by
        intro F K h3 hLR
        refine w_iinc_3 (pc := 713) dL_law_713 rfl rfl ?_
        refine w_goto (pc := 716) (tgt := 18) dL_law_716 (by decide) ?_
        exact ih (i + 3) _ F K (by omega) (by omega) (by rw [hz]; exact nI_add i 3) hLR
      refine w_aload_0 (pc := 19) dL_law_19 ?_
      refine w_slen (pc := 20) (b := b) (L := L) (xs := xs) (fun _ h => h) dL_law_20 ?_
      refine w_iconst (pc := 21) (v := 3) dL_law_21 (by decide) ?_
      refine w_isub (pc := 22) dL_law_22 ?_
      refine w_icmp_gt (pc := 23) (tgt := 719) dL_law_23 (by decide) (fun c23 => ?_) (fun c23 => ?_)
      · refine w_iconst (pc := 719) (v := 1) dL_law_719 (by decide) ?_
        refine w_zret (pc := 720) rfl (by decide) ⟨Nat.le_of_ble_eq_true rfl, Nat.le_of_ble_eq_true rfl⟩ dL_law_720 ?_
        exact rfl
      · have h3 : i + 3 ≤ L := law_le hL h1 hz c23
        refine w_aload_0 (pc := 26) dL_law_26 ?_
        refine w_iload_3 (pc := 27) dL_law_27 ?_
        refine w_sld (pc := 28) (b := b) (L := L) (xs := xs) (j := i) (fun _ h => h) hz (by omega) (by omega) dL_law_28 ?_
        refine w_bipush (pc := 29) (v := 31) dL_law_29 (by decide) ?_
        refine w_iand (pc := 31) dL_law_31 ?_
        refine w_name (fun y32 e32 => ?_)
        by_cases s32_0 : y32 = 0
        · subst s32_0
          refine w_tableIn (pc := 32) (tgt := 148) (off := 116) dL_law_32 (by decide) (by decide) (by decide) (by decide) ?_
          refine w_aload_1 (pc := 148) dL_law_148 ?_
          refine w_aload_0 (pc := 149) dL_law_149 ?_
          refine w_iload_3 (pc := 150) dL_law_150 ?_
          refine w_iconst (pc := 151) (v := 1) dL_law_151 (by decide) ?_
          refine w_iadd (pc := 152) dL_law_152 ?_
          refine w_sld (pc := 153) (b := b) (L := L) (xs := xs) (j := i + 1) (fun _ h => h) (by rw [hz]; exact nI_add i 1) (by omega) (by omega) dL_law_153 ?_
          refine w_aload_0 (pc := 154) dL_law_154 ?_
          refine w_iload_3 (pc := 155) dL_law_155 ?_
          refine w_iconst (pc := 156) (v := 2) dL_law_156 (by decide) ?_
          refine w_iadd (pc := 157) dL_law_157 ?_
          refine w_sld (pc := 158) (b := b) (L := L) (xs := xs) (j := i + 2) (fun _ h => h) (by rw [hz]; exact nI_add i 2) (by omega) (by omega) dL_law_158 ?_
          refine w_callV_RI (pc := 159) (c_BS_lot hW hC) ok_X10_lot t360 t361 kc10 (sBS_in hW.1) hW.1.2.1 t359 ⟨Nat.le_of_ble_eq_true rfl, Nat.le_of_ble_eq_true rfl⟩ ⟨rfl, rfl⟩ ⟨Nat.le_refl _, Nat.le_refl _⟩ rfl (Nat.le_of_ble_eq_true rfl) dL_law_159 (fun r159 G159 I159 h159 => ?_)
          obtain ⟨v159, P159⟩ := h159
          obtain ⟨hO, hM, hT⟩ := L_a hO hM hT P159
          refine w_aload_2 (pc := 162) dL_law_162 ?_
          refine w_aload_0 (pc := 163) dL_law_163 ?_
          refine w_iload_3 (pc := 164) dL_law_164 ?_
          refine w_iconst (pc := 165) (v := 1) dL_law_165 (by decide) ?_
          refine w_iadd (pc := 166) dL_law_166 ?_
          refine w_sld (pc := 167) (b := b) (L := L) (xs := xs) (j := i + 1) (fun _ h => h) (by rw [hz]; exact nI_add i 1) (by omega) (by omega) dL_law_167 ?_
          refine w_aload_0 (pc := 168) dL_law_168 ?_
          refine w_iload_3 (pc := 169) dL_law_169 ?_
          refine w_iconst (pc := 170) (v := 2) dL_law_170 (by decide) ?_
          refine w_iadd (pc := 171) dL_law_171 ?_
          refine w_sld (pc := 172) (b := b) (L := L) (xs := xs) (j := i + 2) (fun _ h => h) (by rw [hz]; exact nI_add i 2) (by omega) (by omega) dL_law_172 ?_
          refine w_callV_I (pc := 173) (c_Mod_lot hO hM.2.1 hC.2.2.1.2.1 (by rw [hM.1]; exact hC.2.1.1)) ok_X11_lot t807 t808 kc11 hO.1 hO.2.1 t806 ⟨Nat.le_of_ble_eq_true rfl, Nat.le_of_ble_eq_true rfl⟩ ⟨rfl, rfl⟩ ⟨Nat.le_refl _, Nat.le_refl _⟩ rfl (Nat.le_of_ble_eq_true rfl) dL_law_173 ?_
          rw [hM.1]
          refine w_icmp_eq (pc := 176) (tgt := 713) dL_law_176 (by decide) (fun c176 => ?_) (fun c176 => ?_)
          · exact J713 _ _ h3 (L_b hC hO hM hT (g_Lot hC.2.1 _ _) P159)
          · exact absurd v159 c176
        by_cases s32_1 : y32 = 1
        · subst s32_1
          refine w_tableIn (pc := 32) (tgt := 181) (off := 149) dL_law_32 (by decide) (by decide) (by decide) (by decide) ?_
          refine w_aload_1 (pc := 181) dL_law_181 ?_
          refine w_aload_0 (pc := 182) dL_law_182 ?_
          refine w_iload_3 (pc := 183) dL_law_183 ?_
          refine w_iconst (pc := 184) (v := 1) dL_law_184 (by decide) ?_
          refine w_iadd (pc := 185) dL_law_185 ?_
          refine w_sld (pc := 186) (b := b) (L := L) (xs := xs) (j := i + 1) (fun _ h => h) (by rw [hz]; exact nI_add i 1) (by omega) (by omega) dL_law_186 ?_
          refine w_callV_RI (pc := 187) (c_BS_gate hW hC) ok_X10_gate t420 t421 kc10 (sBS_in hW.1) hW.1.2.1 t419 ⟨Nat.le_of_ble_eq_true rfl, Nat.le_of_ble_eq_true rfl⟩ ⟨rfl, rfl⟩ ⟨Nat.le_refl _, Nat.le_refl _⟩ rfl (Nat.le_of_ble_eq_true rfl) dL_law_187 (fun r187 G187 I187 h187 => ?_)
          obtain ⟨v187, P187⟩ := h187
          obtain ⟨hO, hM, hT⟩ := L_a hO hM hT P187
          refine w_aload_2 (pc := 190) dL_law_190 ?_
          refine w_aload_0 (pc := 191) dL_law_191 ?_
          refine w_iload_3 (pc := 192) dL_law_192 ?_
          refine w_iconst (pc := 193) (v := 1) dL_law_193 (by decide) ?_
          refine w_iadd (pc := 194) dL_law_194 ?_
          refine w_sld (pc := 195) (b := b) (L := L) (xs := xs) (j := i + 1) (fun _ h => h) (by rw [hz]; exact nI_add i 1) (by omega) (by omega) dL_law_195 ?_
          refine w_callV_I (pc := 196) (c_Mod_gate hO hM.2.1 hC.2.2.1.2.1) ok_X11_gate t820 t821 kc11 hO.1 hO.2.1 t819 ⟨Nat.le_of_ble_eq_true rfl, Nat.le_of_ble_eq_true rfl⟩ ⟨rfl, rfl⟩ ⟨Nat.le_refl _, Nat.le_refl _⟩ rfl (Nat.le_of_ble_eq_true rfl) dL_law_196 ?_
          rw [hM.1]
          refine w_icmp_eq (pc := 199) (tgt := 713) dL_law_199 (by decide) (fun c199 => ?_) (fun c199 => ?_)
          · exact J713 _ _ h3 (L_b hC hO hM hT (g_Gate hC.2.1 _) P187)
          · exact absurd v187 c199
        by_cases s32_2 : y32 = 2
        · subst s32_2
          refine w_tableIn (pc := 32) (tgt := 204) (off := 172) dL_law_32 (by decide) (by decide) (by decide) (by decide) ?_
          refine w_aload_1 (pc := 204) dL_law_204 ?_
          refine w_aload_0 (pc := 205) dL_law_205 ?_
          refine w_iload_3 (pc := 206) dL_law_206 ?_
          refine w_iconst (pc := 207) (v := 1) dL_law_207 (by decide) ?_
          refine w_iadd (pc := 208) dL_law_208 ?_
          refine w_sld (pc := 209) (b := b) (L := L) (xs := xs) (j := i + 1) (fun _ h => h) (by rw [hz]; exact nI_add i 1) (by omega) (by omega) dL_law_209 ?_
          refine w_callV_RI (pc := 210) (c_BS_run hW hC) ok_X10_run t428 t429 kc10 (sBS_in hW.1) hW.1.2.1 t427 ⟨Nat.le_of_ble_eq_true rfl, Nat.le_of_ble_eq_true rfl⟩ ⟨rfl, rfl⟩ ⟨Nat.le_refl _, Nat.le_refl _⟩ rfl (Nat.le_of_ble_eq_true rfl) dL_law_210 (fun r210 G210 I210 h210 => ?_)
          obtain ⟨v210, P210⟩ := h210
          obtain ⟨hO, hM, hT⟩ := L_a hO hM hT P210
          refine w_aload_2 (pc := 213) dL_law_213 ?_
          refine w_aload_0 (pc := 214) dL_law_214 ?_
          refine w_iload_3 (pc := 215) dL_law_215 ?_
          refine w_iconst (pc := 216) (v := 1) dL_law_216 (by decide) ?_
          refine w_iadd (pc := 217) dL_law_217 ?_
          refine w_sld (pc := 218) (b := b) (L := L) (xs := xs) (j := i + 1) (fun _ h => h) (by rw [hz]; exact nI_add i 1) (by omega) (by omega) dL_law_218 ?_
          refine w_callV_I (pc := 219) (c_Mod_run hO hM.2.1 hC.2.2.1.2.1) ok_X11_run t824 t825 kc11 hO.1 hO.2.1 t823 ⟨Nat.le_of_ble_eq_true rfl, Nat.le_of_ble_eq_true rfl⟩ ⟨rfl, rfl⟩ ⟨Nat.le_refl _, Nat.le_refl _⟩ rfl (Nat.le_of_ble_eq_true rfl) dL_law_219 ?_
          rw [hM.1]
          refine w_icmp_eq (pc := 222) (tgt := 713) dL_law_222 (by decide) (fun c222 => ?_) (fun c222 => ?_)
          · exact J713 _ _ h3 (L_b hC hO hM hT (g_Run hC.2.1 _) P210)
          · exact absurd v210 c222
        by_cases s32_3 : y32 = 3
        · subst s32_3
          refine w_tableIn (pc := 32) (tgt := 227) (off := 195) dL_law_32 (by decide) (by decide) (by decide) (by decide) ?_
          refine w_aload_1 (pc := 227) dL_law_227 ?_
          refine w_callV_RI (pc := 228) (c_BS_bin hW hC) ok_X10_bin t441 t442 kc10 (sBS_in hW.1) hW.1.2.1 t440 ⟨Nat.le_of_ble_eq_true rfl, Nat.le_of_ble_eq_true rfl⟩ ⟨rfl, rfl⟩ ⟨Nat.le_refl _, Nat.le_refl _⟩ rfl (Nat.le_of_ble_eq_true rfl) dL_law_228 (fun r228 G228 I228 h228 => ?_)
          obtain ⟨v228, P228⟩ := h228
          obtain ⟨hO, hM, hT⟩ := L_a hO hM hT P228
          refine w_aload_2 (pc := 231) dL_law_231 ?_
          refine w_callV_I (pc := 232) (c_Mod_bin hO hM.2.1 hC.2.2.1.2.1 (by rw [hM.1]; exact hC.2.1.1)) ok_X11_bin t833 t834 kc11 hO.1 hO.2.1 t832 ⟨Nat.le_of_ble_eq_true rfl, Nat.le_of_ble_eq_true rfl⟩ ⟨rfl, rfl⟩ ⟨Nat.le_refl _, Nat.le_refl _⟩ rfl (Nat.le_of_ble_eq_true rfl) dL_law_232 ?_
          rw [hM.1]
          refine w_icmp_eq (pc := 235) (tgt := 713) dL_law_235 (by decide) (fun c235 => ?_) (fun c235 => ?_)
          · exact J713 _ _ h3 (L_b hC hO hM hT (g_Bin hC.2.1) P228)
          · exact absurd v228 c235
        by_cases s32_4 : y32 = 4
        · subst s32_4
          refine w_tableIn (pc := 32) (tgt := 240) (off := 208) dL_law_32 (by decide) (by decide) (by decide) (by decide) ?_
          refine w_aload_1 (pc := 240) dL_law_240 ?_
          refine w_aload_0 (pc := 241) dL_law_241 ?_
          refine w_iload_3 (pc := 242) dL_law_242 ?_
          refine w_iconst (pc := 243) (v := 1) dL_law_243 (by decide) ?_
          refine w_iadd (pc := 244) dL_law_244 ?_
          refine w_sld (pc := 245) (b := b) (L := L) (xs := xs) (j := i + 1) (fun _ h => h) (by rw [hz]; exact nI_add i 1) (by omega) (by omega) dL_law_245 ?_
          refine w_callV_RI (pc := 246) (c_BS_batch hW hC) ok_X10_batch t449 t450 kc10 (sBS_in hW.1) hW.1.2.1 t448 ⟨Nat.le_of_ble_eq_true rfl, Nat.le_of_ble_eq_true rfl⟩ ⟨rfl, rfl⟩ ⟨Nat.le_refl _, Nat.le_refl _⟩ rfl (Nat.le_of_ble_eq_true rfl) dL_law_246 (fun r246 G246 I246 h246 => ?_)
          obtain ⟨v246, P246⟩ := h246
          obtain ⟨hO, hM, hT⟩ := L_a hO hM hT P246
          refine w_aload_2 (pc := 249) dL_law_249 ?_
          refine w_aload_0 (pc := 250) dL_law_250 ?_
          refine w_iload_3 (pc := 251) dL_law_251 ?_
          refine w_iconst (pc := 252) (v := 1) dL_law_252 (by decide) ?_
          refine w_iadd (pc := 253) dL_law_253 ?_
          refine w_sld (pc := 254) (b := b) (L := L) (xs := xs) (j := i + 1) (fun _ h => h) (by rw [hz]; exact nI_add i 1) (by omega) (by omega) dL_law_254 ?_
          refine w_callV_I (pc := 255) (c_Mod_batch hO hM.2.1 hC.2.2.1.2.1) ok_X11_batch t837 t838 kc11 hO.1 hO.2.1 t836 ⟨Nat.le_of_ble_eq_true rfl, Nat.le_of_ble_eq_true rfl⟩ ⟨rfl, rfl⟩ ⟨Nat.le_refl _, Nat.le_refl _⟩ rfl (Nat.le_of_ble_eq_true rfl) dL_law_255 ?_
          rw [hM.1]
          refine w_icmp_eq (pc := 258) (tgt := 713) dL_law_258 (by decide) (fun c258 => ?_) (fun c258 => ?_)
          · exact J713 _ _ h3 (L_b hC hO hM hT (g_Batch hC.2.1 _) P246)
          · exact absurd v246 c258
        by_cases s32_5 : y32 = 5
        · subst s32_5
          refine w_tableIn (pc := 32) (tgt := 263) (off := 231) dL_law_32 (by decide) (by decide) (by decide) (by decide) ?_
          refine w_aload_1 (pc := 263) dL_law_263 ?_
          refine w_aload_0 (pc := 264) dL_law_264 ?_
          refine w_iload_3 (pc := 265) dL_law_265 ?_
          refine w_iconst (pc := 266) (v := 1) dL_law_266 (by decide) ?_
          refine w_iadd (pc := 267) dL_law_267 ?_
          refine w_sld (pc := 268) (b := b) (L := L) (xs := xs) (j := i + 1) (fun _ h => h) (by rw [hz]; exact nI_add i 1) (by omega) (by omega) dL_law_268 ?_
          refine w_callV_RI (pc := 269) (c_BS_tick hW hC) ok_X10_tick t457 t458 kc10 (sBS_in hW.1) hW.1.2.1 t456 ⟨Nat.le_of_ble_eq_true rfl, Nat.le_of_ble_eq_true rfl⟩ ⟨rfl, rfl⟩ ⟨Nat.le_refl _, Nat.le_refl _⟩ rfl (Nat.le_of_ble_eq_true rfl) dL_law_269 (fun r269 G269 I269 h269 => ?_)
          obtain ⟨v269, P269⟩ := h269
          obtain ⟨hO, hM, hT⟩ := L_a hO hM hT P269
          refine w_aload_2 (pc := 272) dL_law_272 ?_
          refine w_aload_0 (pc := 273) dL_law_273 ?_
          refine w_iload_3 (pc := 274) dL_law_274 ?_
          refine w_iconst (pc := 275) (v := 1) dL_law_275 (by decide) ?_
          refine w_iadd (pc := 276) dL_law_276 ?_
          refine w_sld (pc := 277) (b := b) (L := L) (xs := xs) (j := i + 1) (fun _ h => h) (by rw [hz]; exact nI_add i 1) (by omega) (by omega) dL_law_277 ?_
          refine w_callV_I (pc := 278) (c_Mod_tick hO hM.2.1 hC.2.2.1.2.1 (by rw [hM.1]; exact hC.2.1.1)) ok_X11_tick t845 t846 kc11 hO.1 hO.2.1 t844 ⟨Nat.le_of_ble_eq_true rfl, Nat.le_of_ble_eq_true rfl⟩ ⟨rfl, rfl⟩ ⟨Nat.le_refl _, Nat.le_refl _⟩ rfl (Nat.le_of_ble_eq_true rfl) dL_law_278 ?_
          rw [hM.1]
          refine w_icmp_eq (pc := 281) (tgt := 713) dL_law_281 (by decide) (fun c281 => ?_) (fun c281 => ?_)
          · exact J713 _ _ h3 (L_b hC hO hM hT (g_Tick hC.2.1 _) P269)
          · exact absurd v269 c281
        by_cases s32_6 : y32 = 6
        · subst s32_6
          refine w_tableIn (pc := 32) (tgt := 286) (off := 254) dL_law_32 (by decide) (by decide) (by decide) (by decide) ?_
          refine w_aload_1 (pc := 286) dL_law_286 ?_
          refine w_callV_RI (pc := 287) (c_BS_zero hW hC) ok_X10_zero t543 t544 kc10 (sBS_in hW.1) hW.1.2.1 t542 ⟨Nat.le_of_ble_eq_true rfl, Nat.le_of_ble_eq_true rfl⟩ ⟨rfl, rfl⟩ ⟨Nat.le_refl _, Nat.le_refl _⟩ rfl (Nat.le_of_ble_eq_true rfl) dL_law_287 (fun r287 G287 I287 h287 => ?_)
          obtain ⟨v287, P287⟩ := h287
          obtain ⟨hO, hM, hT⟩ := L_a hO hM hT P287
          refine w_aload_2 (pc := 290) dL_law_290 ?_
          refine w_callV_I (pc := 291) (c_Mod_zero hO hM.2.1 hC.2.2.1.2.1) ok_X11_zero t873 t874 kc11 hO.1 hO.2.1 t872 ⟨Nat.le_of_ble_eq_true rfl, Nat.le_of_ble_eq_true rfl⟩ ⟨rfl, rfl⟩ ⟨Nat.le_refl _, Nat.le_refl _⟩ rfl (Nat.le_of_ble_eq_true rfl) dL_law_291 ?_
          rw [hM.1]
          refine w_icmp_eq (pc := 294) (tgt := 713) dL_law_294 (by decide) (fun c294 => ?_) (fun c294 => ?_)
          · exact J713 _ _ h3 (L_b hC hO hM hT (g_Zero hC.2.1) P287)
          · exact absurd v287 c294
        by_cases s32_7 : y32 = 7
        · subst s32_7
          refine w_tableIn (pc := 32) (tgt := 299) (off := 267) dL_law_32 (by decide) (by decide) (by decide) (by decide) ?_
          refine w_aload_1 (pc := 299) dL_law_299 ?_
          refine w_aload_0 (pc := 300) dL_law_300 ?_
          refine w_iload_3 (pc := 301) dL_law_301 ?_
          refine w_iconst (pc := 302) (v := 1) dL_law_302 (by decide) ?_
          refine w_iadd (pc := 303) dL_law_303 ?_
          refine w_sld (pc := 304) (b := b) (L := L) (xs := xs) (j := i + 1) (fun _ h => h) (by rw [hz]; exact nI_add i 1) (by omega) (by omega) dL_law_304 ?_
          refine w_callV_RI (pc := 305) (c_BS_correct hW hC) ok_X10_correct t552 t553 kc10 (sBS_in hW.1) hW.1.2.1 t551 ⟨Nat.le_of_ble_eq_true rfl, Nat.le_of_ble_eq_true rfl⟩ ⟨rfl, rfl⟩ ⟨Nat.le_refl _, Nat.le_refl _⟩ rfl (Nat.le_of_ble_eq_true rfl) dL_law_305 (fun r305 G305 I305 h305 => ?_)
          obtain ⟨v305, P305⟩ := h305
          obtain ⟨hO, hM, hT⟩ := L_a hO hM hT P305
          refine w_aload_2 (pc := 308) dL_law_308 ?_
          refine w_aload_0 (pc := 309) dL_law_309 ?_
          refine w_iload_3 (pc := 310) dL_law_310 ?_
          refine w_iconst (pc := 311) (v := 1) dL_law_311 (by decide) ?_
          refine w_iadd (pc := 312) dL_law_312 ?_
          refine w_sld (pc := 313) (b := b) (L := L) (xs := xs) (j := i + 1) (fun _ h => h) (by rw [hz]; exact nI_add i 1) (by omega) (by omega) dL_law_313 ?_
          refine w_callV_I (pc := 314) (c_Mod_correct hO hM.2.1 hC.2.2.1.2.1 (by rw [hM.1]; exact hC.2.1.1)) ok_X11_correct t878 t879 kc11 hO.1 hO.2.1 t877 ⟨Nat.le_of_ble_eq_true rfl, Nat.le_of_ble_eq_true rfl⟩ ⟨rfl, rfl⟩ ⟨Nat.le_refl _, Nat.le_refl _⟩ rfl (Nat.le_of_ble_eq_true rfl) dL_law_314 ?_
          rw [hM.1]
          refine w_icmp_eq (pc := 317) (tgt := 713) dL_law_317 (by decide) (fun c317 => ?_) (fun c317 => ?_)
          · exact J713 _ _ h3 (L_b hC hO hM hT (g_Correct hC.2.1 _) P305)
          · exact absurd v305 c317
        by_cases s32_8 : y32 = 8
        · subst s32_8
          refine w_tableIn (pc := 32) (tgt := 322) (off := 290) dL_law_32 (by decide) (by decide) (by decide) (by decide) ?_
          refine w_aload_1 (pc := 322) dL_law_322 ?_
          refine w_aload_0 (pc := 323) dL_law_323 ?_
          refine w_iload_3 (pc := 324) dL_law_324 ?_
          refine w_iconst (pc := 325) (v := 1) dL_law_325 (by decide) ?_
          refine w_iadd (pc := 326) dL_law_326 ?_
          refine w_sld (pc := 327) (b := b) (L := L) (xs := xs) (j := i + 1) (fun _ h => h) (by rw [hz]; exact nI_add i 1) (by omega) (by omega) dL_law_327 ?_
          refine w_aload_0 (pc := 328) dL_law_328 ?_
          refine w_iload_3 (pc := 329) dL_law_329 ?_
          refine w_iconst (pc := 330) (v := 2) dL_law_330 (by decide) ?_
          refine w_iadd (pc := 331) dL_law_331 ?_
          refine w_sld (pc := 332) (b := b) (L := L) (xs := xs) (j := i + 2) (fun _ h => h) (by rw [hz]; exact nI_add i 2) (by omega) (by omega) dL_law_332 ?_
          refine w_callV_RI (pc := 333) (c_BS_set hW hC) ok_X10_set t568 t569 kc10 (sBS_in hW.1) hW.1.2.1 t567 ⟨Nat.le_of_ble_eq_true rfl, Nat.le_of_ble_eq_true rfl⟩ ⟨rfl, rfl⟩ ⟨Nat.le_refl _, Nat.le_refl _⟩ rfl (Nat.le_of_ble_eq_true rfl) dL_law_333 (fun r333 G333 I333 h333 => ?_)
          obtain ⟨v333, P333⟩ := h333
          obtain ⟨hO, hM, hT⟩ := L_a hO hM hT P333
          refine w_aload_2 (pc := 336) dL_law_336 ?_
          refine w_aload_0 (pc := 337) dL_law_337 ?_
          refine w_iload_3 (pc := 338) dL_law_338 ?_
          refine w_iconst (pc := 339) (v := 1) dL_law_339 (by decide) ?_
          refine w_iadd (pc := 340) dL_law_340 ?_
          refine w_sld (pc := 341) (b := b) (L := L) (xs := xs) (j := i + 1) (fun _ h => h) (by rw [hz]; exact nI_add i 1) (by omega) (by omega) dL_law_341 ?_
          refine w_aload_0 (pc := 342) dL_law_342 ?_
          refine w_iload_3 (pc := 343) dL_law_343 ?_
          refine w_iconst (pc := 344) (v := 2) dL_law_344 (by decide) ?_
          refine w_iadd (pc := 345) dL_law_345 ?_
          refine w_sld (pc := 346) (b := b) (L := L) (xs := xs) (j := i + 2) (fun _ h => h) (by rw [hz]; exact nI_add i 2) (by omega) (by omega) dL_law_346 ?_
          refine w_callV_I (pc := 347) (c_Mod_set hO hM.2.1 hC.2.2.1.2.1) ok_X11_set t893 t894 kc11 hO.1 hO.2.1 t892 ⟨Nat.le_of_ble_eq_true rfl, Nat.le_of_ble_eq_true rfl⟩ ⟨rfl, rfl⟩ ⟨Nat.le_refl _, Nat.le_refl _⟩ rfl (Nat.le_of_ble_eq_true rfl) dL_law_347 ?_
          rw [hM.1]
          refine w_icmp_eq (pc := 350) (tgt := 713) dL_law_350 (by decide) (fun c350 => ?_) (fun c350 => ?_)
          · exact J713 _ _ h3 (L_b hC hO hM hT (g_Set hC.2.1 _ _) P333)
          · exact absurd v333 c350
        by_cases s32_9 : y32 = 9
        · subst s32_9
          refine w_tableIn (pc := 32) (tgt := 355) (off := 323) dL_law_32 (by decide) (by decide) (by decide) (by decide) ?_
          refine w_aload_1 (pc := 355) dL_law_355 ?_
          refine w_aload_0 (pc := 356) dL_law_356 ?_
          refine w_iload_3 (pc := 357) dL_law_357 ?_
          refine w_iconst (pc := 358) (v := 1) dL_law_358 (by decide) ?_
          refine w_iadd (pc := 359) dL_law_359 ?_
          refine w_sld (pc := 360) (b := b) (L := L) (xs := xs) (j := i + 1) (fun _ h => h) (by rw [hz]; exact nI_add i 1) (by omega) (by omega) dL_law_360 ?_
          refine w_callV_RI (pc := 361) (c_BS_account hW hC) ok_X10_account t580 t581 kc10 (sBS_in hW.1) hW.1.2.1 t579 ⟨Nat.le_of_ble_eq_true rfl, Nat.le_of_ble_eq_true rfl⟩ ⟨rfl, rfl⟩ ⟨Nat.le_refl _, Nat.le_refl _⟩ rfl (Nat.le_of_ble_eq_true rfl) dL_law_361 (fun r361 G361 I361 h361 => ?_)
          obtain ⟨v361, P361⟩ := h361
          obtain ⟨hO, hM, hT⟩ := L_a hO hM hT P361
          refine w_aload_2 (pc := 364) dL_law_364 ?_
          refine w_aload_0 (pc := 365) dL_law_365 ?_
          refine w_iload_3 (pc := 366) dL_law_366 ?_
          refine w_iconst (pc := 367) (v := 1) dL_law_367 (by decide) ?_
          refine w_iadd (pc := 368) dL_law_368 ?_
          refine w_sld (pc := 369) (b := b) (L := L) (xs := xs) (j := i + 1) (fun _ h => h) (by rw [hz]; exact nI_add i 1) (by omega) (by omega) dL_law_369 ?_
          refine w_callV_I (pc := 370) (c_Mod_account hO hM.2.1 hC.2.2.1.2.1 (by rw [hM.1]; exact hC.2.1.1)) ok_X11_account t897 t898 kc11 hO.1 hO.2.1 t896 ⟨Nat.le_of_ble_eq_true rfl, Nat.le_of_ble_eq_true rfl⟩ ⟨rfl, rfl⟩ ⟨Nat.le_refl _, Nat.le_refl _⟩ rfl (Nat.le_of_ble_eq_true rfl) dL_law_370 ?_
          rw [hM.1]
          refine w_icmp_eq (pc := 373) (tgt := 713) dL_law_373 (by decide) (fun c373 => ?_) (fun c373 => ?_)
          · exact J713 _ _ h3 (L_b hC hO hM hT (g_Account hC.2.1 _) P361)
          · exact absurd v361 c373
        by_cases s32_10 : y32 = 10
        · subst s32_10
          refine w_tableIn (pc := 32) (tgt := 378) (off := 346) dL_law_32 (by decide) (by decide) (by decide) (by decide) ?_
          refine w_aload_1 (pc := 378) dL_law_378 ?_
          refine w_aload_0 (pc := 379) dL_law_379 ?_
          refine w_iload_3 (pc := 380) dL_law_380 ?_
          refine w_iconst (pc := 381) (v := 1) dL_law_381 (by decide) ?_
          refine w_iadd (pc := 382) dL_law_382 ?_
          refine w_sld (pc := 383) (b := b) (L := L) (xs := xs) (j := i + 1) (fun _ h => h) (by rw [hz]; exact nI_add i 1) (by omega) (by omega) dL_law_383 ?_
          refine w_aload_0 (pc := 384) dL_law_384 ?_
          refine w_iload_3 (pc := 385) dL_law_385 ?_
          refine w_iconst (pc := 386) (v := 2) dL_law_386 (by decide) ?_
          refine w_iadd (pc := 387) dL_law_387 ?_
          refine w_sld (pc := 388) (b := b) (L := L) (xs := xs) (j := i + 2) (fun _ h => h) (by rw [hz]; exact nI_add i 2) (by omega) (by omega) dL_law_388 ?_
          refine w_callV_RI (pc := 389) (c_BS_book hW hC) ok_X10_book t594 t595 kc10 (sBS_in hW.1) hW.1.2.1 t593 ⟨Nat.le_of_ble_eq_true rfl, Nat.le_of_ble_eq_true rfl⟩ ⟨rfl, rfl⟩ ⟨Nat.le_refl _, Nat.le_refl _⟩ rfl (Nat.le_of_ble_eq_true rfl) dL_law_389 (fun r389 G389 I389 h389 => ?_)
          obtain ⟨v389, P389⟩ := h389
          obtain ⟨hO, hM, hT⟩ := L_a hO hM hT P389
          refine w_aload_2 (pc := 392) dL_law_392 ?_
          refine w_aload_0 (pc := 393) dL_law_393 ?_
          refine w_iload_3 (pc := 394) dL_law_394 ?_
          refine w_iconst (pc := 395) (v := 1) dL_law_395 (by decide) ?_
          refine w_iadd (pc := 396) dL_law_396 ?_
          refine w_sld (pc := 397) (b := b) (L := L) (xs := xs) (j := i + 1) (fun _ h => h) (by rw [hz]; exact nI_add i 1) (by omega) (by omega) dL_law_397 ?_
          refine w_aload_0 (pc := 398) dL_law_398 ?_
          refine w_iload_3 (pc := 399) dL_law_399 ?_
          refine w_iconst (pc := 400) (v := 2) dL_law_400 (by decide) ?_
          refine w_iadd (pc := 401) dL_law_401 ?_
          refine w_sld (pc := 402) (b := b) (L := L) (xs := xs) (j := i + 2) (fun _ h => h) (by rw [hz]; exact nI_add i 2) (by omega) (by omega) dL_law_402 ?_
          refine w_callV_I (pc := 403) (c_Mod_book hO hM.2.1 hC.2.2.1.2.1) ok_X11_book t905 t906 kc11 hO.1 hO.2.1 t904 ⟨Nat.le_of_ble_eq_true rfl, Nat.le_of_ble_eq_true rfl⟩ ⟨rfl, rfl⟩ ⟨Nat.le_refl _, Nat.le_refl _⟩ rfl (Nat.le_of_ble_eq_true rfl) dL_law_403 ?_
          rw [hM.1]
          refine w_icmp_eq (pc := 406) (tgt := 713) dL_law_406 (by decide) (fun c406 => ?_) (fun c406 => ?_)
          · exact J713 _ _ h3 (L_b hC hO hM hT (g_Book hC.2.1 _ _) P389)
          · exact absurd v389 c406
        by_cases s32_11 : y32 = 11
        · subst s32_11
          refine w_tableIn (pc := 32) (tgt := 411) (off := 379) dL_law_32 (by decide) (by decide) (by decide) (by decide) ?_
          refine w_aload_1 (pc := 411) dL_law_411 ?_
          refine w_aload_0 (pc := 412) dL_law_412 ?_
          refine w_iload_3 (pc := 413) dL_law_413 ?_
          refine w_iconst (pc := 414) (v := 1) dL_law_414 (by decide) ?_
          refine w_iadd (pc := 415) dL_law_415 ?_
          refine w_sld (pc := 416) (b := b) (L := L) (xs := xs) (j := i + 1) (fun _ h => h) (by rw [hz]; exact nI_add i 1) (by omega) (by omega) dL_law_416 ?_
          refine w_aload_0 (pc := 417) dL_law_417 ?_
          refine w_iload_3 (pc := 418) dL_law_418 ?_
          refine w_iconst (pc := 419) (v := 2) dL_law_419 (by decide) ?_
          refine w_iadd (pc := 420) dL_law_420 ?_
          refine w_sld (pc := 421) (b := b) (L := L) (xs := xs) (j := i + 2) (fun _ h => h) (by rw [hz]; exact nI_add i 2) (by omega) (by omega) dL_law_421 ?_
          refine w_callV_I (pc := 422) (c_BS_accountOf hW hC) ok_X10_accountOf t603 t604 kc10 (sBS_in hW.1) hW.1.2.1 t602 ⟨Nat.le_of_ble_eq_true rfl, Nat.le_of_ble_eq_true rfl⟩ ⟨rfl, rfl⟩ ⟨Nat.le_refl _, Nat.le_refl _⟩ rfl (Nat.le_of_ble_eq_true rfl) dL_law_422 ?_
          refine w_aload_2 (pc := 425) dL_law_425 ?_
          refine w_aload_0 (pc := 426) dL_law_426 ?_
          refine w_iload_3 (pc := 427) dL_law_427 ?_
          refine w_iconst (pc := 428) (v := 1) dL_law_428 (by decide) ?_
          refine w_iadd (pc := 429) dL_law_429 ?_
          refine w_sld (pc := 430) (b := b) (L := L) (xs := xs) (j := i + 1) (fun _ h => h) (by rw [hz]; exact nI_add i 1) (by omega) (by omega) dL_law_430 ?_
          refine w_aload_0 (pc := 431) dL_law_431 ?_
          refine w_iload_3 (pc := 432) dL_law_432 ?_
          refine w_iconst (pc := 433) (v := 2) dL_law_433 (by decide) ?_
          refine w_iadd (pc := 434) dL_law_434 ?_
          refine w_sld (pc := 435) (b := b) (L := L) (xs := xs) (j := i + 2) (fun _ h => h) (by rw [hz]; exact nI_add i 2) (by omega) (by omega) dL_law_435 ?_
          refine w_callV_I (pc := 436) (c_Mod_accountOf hO (by rw [hM.1]; exact hC.2.1.1)) ok_X11_accountOf t909 t910 kc11 hO.1 hO.2.1 t908 ⟨Nat.le_of_ble_eq_true rfl, Nat.le_of_ble_eq_true rfl⟩ ⟨rfl, rfl⟩ ⟨Nat.le_refl _, Nat.le_refl _⟩ rfl (Nat.le_of_ble_eq_true rfl) dL_law_436 ?_
          rw [hM.1]
          refine w_icmp_eq (pc := 439) (tgt := 713) dL_law_439 (by decide) (fun c439 => ?_) (fun c439 => ?_)
          · exact J713 _ _ h3 ⟨x, c, n0, f, hW, hC, hO, hM, hT⟩
          · exact absurd rfl c439
        by_cases s32_12 : y32 = 12
        · subst s32_12
          refine w_tableIn (pc := 32) (tgt := 444) (off := 412) dL_law_32 (by decide) (by decide) (by decide) (by decide) ?_
          refine w_aload_1 (pc := 444) dL_law_444 ?_
          refine w_aload_0 (pc := 445) dL_law_445 ?_
          refine w_iload_3 (pc := 446) dL_law_446 ?_
          refine w_iconst (pc := 447) (v := 1) dL_law_447 (by decide) ?_
          refine w_iadd (pc := 448) dL_law_448 ?_
          refine w_sld (pc := 449) (b := b) (L := L) (xs := xs) (j := i + 1) (fun _ h => h) (by rw [hz]; exact nI_add i 1) (by omega) (by omega) dL_law_449 ?_
          refine w_aload_0 (pc := 450) dL_law_450 ?_
          refine w_iload_3 (pc := 451) dL_law_451 ?_
          refine w_iconst (pc := 452) (v := 2) dL_law_452 (by decide) ?_
          refine w_iadd (pc := 453) dL_law_453 ?_
          refine w_sld (pc := 454) (b := b) (L := L) (xs := xs) (j := i + 2) (fun _ h => h) (by rw [hz]; exact nI_add i 2) (by omega) (by omega) dL_law_454 ?_
          refine w_callV_I (pc := 455) (c_BS_massAt hW hC) ok_X10_massAt t624 t625 kc10 (sBS_in hW.1) hW.1.2.1 t623 ⟨Nat.le_of_ble_eq_true rfl, Nat.le_of_ble_eq_true rfl⟩ ⟨rfl, rfl⟩ ⟨Nat.le_refl _, Nat.le_refl _⟩ rfl (Nat.le_of_ble_eq_true rfl) dL_law_455 ?_
          refine w_aload_2 (pc := 458) dL_law_458 ?_
          refine w_aload_0 (pc := 459) dL_law_459 ?_
          refine w_iload_3 (pc := 460) dL_law_460 ?_
          refine w_iconst (pc := 461) (v := 1) dL_law_461 (by decide) ?_
          refine w_iadd (pc := 462) dL_law_462 ?_
          refine w_sld (pc := 463) (b := b) (L := L) (xs := xs) (j := i + 1) (fun _ h => h) (by rw [hz]; exact nI_add i 1) (by omega) (by omega) dL_law_463 ?_
          refine w_aload_0 (pc := 464) dL_law_464 ?_
          refine w_iload_3 (pc := 465) dL_law_465 ?_
          refine w_iconst (pc := 466) (v := 2) dL_law_466 (by decide) ?_
          refine w_iadd (pc := 467) dL_law_467 ?_
          refine w_sld (pc := 468) (b := b) (L := L) (xs := xs) (j := i + 2) (fun _ h => h) (by rw [hz]; exact nI_add i 2) (by omega) (by omega) dL_law_468 ?_
          refine w_callV_I (pc := 469) (c_Mod_massAt hO ) ok_X11_massAt t921 t922 kc11 hO.1 hO.2.1 t920 ⟨Nat.le_of_ble_eq_true rfl, Nat.le_of_ble_eq_true rfl⟩ ⟨rfl, rfl⟩ ⟨Nat.le_refl _, Nat.le_refl _⟩ rfl (Nat.le_of_ble_eq_true rfl) dL_law_469 ?_
          rw [hM.1]
          refine w_icmp_eq (pc := 472) (tgt := 713) dL_law_472 (by decide) (fun c472 => ?_) (fun c472 => ?_)
          · exact J713 _ _ h3 ⟨x, c, n0, f, hW, hC, hO, hM, hT⟩
          · exact absurd rfl c472
        by_cases s32_13 : y32 = 13
        · subst s32_13
          refine w_tableIn (pc := 32) (tgt := 477) (off := 445) dL_law_32 (by decide) (by decide) (by decide) (by decide) ?_
          refine w_aload_1 (pc := 477) dL_law_477 ?_
          refine w_aload_0 (pc := 478) dL_law_478 ?_
          refine w_iload_3 (pc := 479) dL_law_479 ?_
          refine w_iconst (pc := 480) (v := 1) dL_law_480 (by decide) ?_
          refine w_iadd (pc := 481) dL_law_481 ?_
          refine w_sld (pc := 482) (b := b) (L := L) (xs := xs) (j := i + 1) (fun _ h => h) (by rw [hz]; exact nI_add i 1) (by omega) (by omega) dL_law_482 ?_
          refine w_aload_0 (pc := 483) dL_law_483 ?_
          refine w_iload_3 (pc := 484) dL_law_484 ?_
          refine w_iconst (pc := 485) (v := 2) dL_law_485 (by decide) ?_
          refine w_iadd (pc := 486) dL_law_486 ?_
          refine w_sld (pc := 487) (b := b) (L := L) (xs := xs) (j := i + 2) (fun _ h => h) (by rw [hz]; exact nI_add i 2) (by omega) (by omega) dL_law_487 ?_
          refine w_callV_I (pc := 488) (c_BS_lotOf hW hC) ok_X10_lotOf t630 t631 kc10 (sBS_in hW.1) hW.1.2.1 t629 ⟨Nat.le_of_ble_eq_true rfl, Nat.le_of_ble_eq_true rfl⟩ ⟨rfl, rfl⟩ ⟨Nat.le_refl _, Nat.le_refl _⟩ rfl (Nat.le_of_ble_eq_true rfl) dL_law_488 ?_
          refine w_aload_2 (pc := 491) dL_law_491 ?_
          refine w_aload_0 (pc := 492) dL_law_492 ?_
          refine w_iload_3 (pc := 493) dL_law_493 ?_
          refine w_iconst (pc := 494) (v := 1) dL_law_494 (by decide) ?_
          refine w_iadd (pc := 495) dL_law_495 ?_
          refine w_sld (pc := 496) (b := b) (L := L) (xs := xs) (j := i + 1) (fun _ h => h) (by rw [hz]; exact nI_add i 1) (by omega) (by omega) dL_law_496 ?_
          refine w_aload_0 (pc := 497) dL_law_497 ?_
          refine w_iload_3 (pc := 498) dL_law_498 ?_
          refine w_iconst (pc := 499) (v := 2) dL_law_499 (by decide) ?_
          refine w_iadd (pc := 500) dL_law_500 ?_
          refine w_sld (pc := 501) (b := b) (L := L) (xs := xs) (j := i + 2) (fun _ h => h) (by rw [hz]; exact nI_add i 2) (by omega) (by omega) dL_law_501 ?_
          refine w_callV_I (pc := 502) (c_Mod_lotOf hO (by rw [hM.1]; exact hC.2.1.1)) ok_X11_lotOf t925 t926 kc11 hO.1 hO.2.1 t924 ⟨Nat.le_of_ble_eq_true rfl, Nat.le_of_ble_eq_true rfl⟩ ⟨rfl, rfl⟩ ⟨Nat.le_refl _, Nat.le_refl _⟩ rfl (Nat.le_of_ble_eq_true rfl) dL_law_502 ?_
          rw [hM.1]
          refine w_icmp_eq (pc := 505) (tgt := 713) dL_law_505 (by decide) (fun c505 => ?_) (fun c505 => ?_)
          · exact J713 _ _ h3 ⟨x, c, n0, f, hW, hC, hO, hM, hT⟩
          · exact absurd rfl c505
        by_cases s32_14 : y32 = 14
        · subst s32_14
          refine w_tableIn (pc := 32) (tgt := 510) (off := 478) dL_law_32 (by decide) (by decide) (by decide) (by decide) ?_
          refine w_aload_1 (pc := 510) dL_law_510 ?_
          refine w_aload_0 (pc := 511) dL_law_511 ?_
          refine w_iload_3 (pc := 512) dL_law_512 ?_
          refine w_iconst (pc := 513) (v := 1) dL_law_513 (by decide) ?_
          refine w_iadd (pc := 514) dL_law_514 ?_
          refine w_sld (pc := 515) (b := b) (L := L) (xs := xs) (j := i + 1) (fun _ h => h) (by rw [hz]; exact nI_add i 1) (by omega) (by omega) dL_law_515 ?_
          refine w_aload_0 (pc := 516) dL_law_516 ?_
          refine w_iload_3 (pc := 517) dL_law_517 ?_
          refine w_iconst (pc := 518) (v := 2) dL_law_518 (by decide) ?_
          refine w_iadd (pc := 519) dL_law_519 ?_
          refine w_sld (pc := 520) (b := b) (L := L) (xs := xs) (j := i + 2) (fun _ h => h) (by rw [hz]; exact nI_add i 2) (by omega) (by omega) dL_law_520 ?_
          refine w_callV_I (pc := 521) (c_BS_binOf hW hC) ok_X10_binOf t634 t635 kc10 (sBS_in hW.1) hW.1.2.1 t633 ⟨Nat.le_of_ble_eq_true rfl, Nat.le_of_ble_eq_true rfl⟩ ⟨rfl, rfl⟩ ⟨Nat.le_refl _, Nat.le_refl _⟩ rfl (Nat.le_of_ble_eq_true rfl) dL_law_521 ?_
          refine w_aload_2 (pc := 524) dL_law_524 ?_
          refine w_aload_0 (pc := 525) dL_law_525 ?_
          refine w_iload_3 (pc := 526) dL_law_526 ?_
          refine w_iconst (pc := 527) (v := 1) dL_law_527 (by decide) ?_
          refine w_iadd (pc := 528) dL_law_528 ?_
          refine w_sld (pc := 529) (b := b) (L := L) (xs := xs) (j := i + 1) (fun _ h => h) (by rw [hz]; exact nI_add i 1) (by omega) (by omega) dL_law_529 ?_
          refine w_aload_0 (pc := 530) dL_law_530 ?_
          refine w_iload_3 (pc := 531) dL_law_531 ?_
          refine w_iconst (pc := 532) (v := 2) dL_law_532 (by decide) ?_
          refine w_iadd (pc := 533) dL_law_533 ?_
          refine w_sld (pc := 534) (b := b) (L := L) (xs := xs) (j := i + 2) (fun _ h => h) (by rw [hz]; exact nI_add i 2) (by omega) (by omega) dL_law_534 ?_
          refine w_callV_I (pc := 535) (c_Mod_binOf hO (by rw [hM.1]; exact hC.2.1.1)) ok_X11_binOf t929 t930 kc11 hO.1 hO.2.1 t928 ⟨Nat.le_of_ble_eq_true rfl, Nat.le_of_ble_eq_true rfl⟩ ⟨rfl, rfl⟩ ⟨Nat.le_refl _, Nat.le_refl _⟩ rfl (Nat.le_of_ble_eq_true rfl) dL_law_535 ?_
          rw [hM.1]
          refine w_icmp_eq (pc := 538) (tgt := 713) dL_law_538 (by decide) (fun c538 => ?_) (fun c538 => ?_)
          · exact J713 _ _ h3 ⟨x, c, n0, f, hW, hC, hO, hM, hT⟩
          · exact absurd rfl c538
        by_cases s32_15 : y32 = 15
        · subst s32_15
          refine w_tableIn (pc := 32) (tgt := 543) (off := 511) dL_law_32 (by decide) (by decide) (by decide) (by decide) ?_
          refine w_aload_1 (pc := 543) dL_law_543 ?_
          refine w_aload_0 (pc := 544) dL_law_544 ?_
          refine w_iload_3 (pc := 545) dL_law_545 ?_
          refine w_iconst (pc := 546) (v := 1) dL_law_546 (by decide) ?_
          refine w_iadd (pc := 547) dL_law_547 ?_
          refine w_sld (pc := 548) (b := b) (L := L) (xs := xs) (j := i + 1) (fun _ h => h) (by rw [hz]; exact nI_add i 1) (by omega) (by omega) dL_law_548 ?_
          refine w_callV_I (pc := 549) (c_BS_scale hW hC) ok_X10_scale t642 t643 kc10 (sBS_in hW.1) hW.1.2.1 t641 ⟨Nat.le_of_ble_eq_true rfl, Nat.le_of_ble_eq_true rfl⟩ ⟨rfl, rfl⟩ ⟨Nat.le_refl _, Nat.le_refl _⟩ rfl (Nat.le_of_ble_eq_true rfl) dL_law_549 ?_
          refine w_aload_2 (pc := 552) dL_law_552 ?_
          refine w_aload_0 (pc := 553) dL_law_553 ?_
          refine w_iload_3 (pc := 554) dL_law_554 ?_
          refine w_iconst (pc := 555) (v := 1) dL_law_555 (by decide) ?_
          refine w_iadd (pc := 556) dL_law_556 ?_
          refine w_sld (pc := 557) (b := b) (L := L) (xs := xs) (j := i + 1) (fun _ h => h) (by rw [hz]; exact nI_add i 1) (by omega) (by omega) dL_law_557 ?_
          refine w_callV_I (pc := 558) (c_Mod_scale hO ) ok_X11_scale t934 t935 kc11 hO.1 hO.2.1 t933 ⟨Nat.le_of_ble_eq_true rfl, Nat.le_of_ble_eq_true rfl⟩ ⟨rfl, rfl⟩ ⟨Nat.le_refl _, Nat.le_refl _⟩ rfl (Nat.le_of_ble_eq_true rfl) dL_law_558 ?_
          rw [hM.1]
          refine w_icmp_eq (pc := 561) (tgt := 713) dL_law_561 (by decide) (fun c561 => ?_) (fun c561 => ?_)
          · exact J713 _ _ h3 ⟨x, c, n0, f, hW, hC, hO, hM, hT⟩
          · exact absurd rfl c561
        by_cases s32_16 : y32 = 16
        · subst s32_16
          refine w_tableIn (pc := 32) (tgt := 566) (off := 534) dL_law_32 (by decide) (by decide) (by decide) (by decide) ?_
          refine w_aload_1 (pc := 566) dL_law_566 ?_
          refine w_aload_0 (pc := 567) dL_law_567 ?_
          refine w_iload_3 (pc := 568) dL_law_568 ?_
          refine w_iconst (pc := 569) (v := 1) dL_law_569 (by decide) ?_
          refine w_iadd (pc := 570) dL_law_570 ?_
          refine w_sld (pc := 571) (b := b) (L := L) (xs := xs) (j := i + 1) (fun _ h => h) (by rw [hz]; exact nI_add i 1) (by omega) (by omega) dL_law_571 ?_
          refine w_callV_I (pc := 572) (c_BS_count hW hC) ok_X10_count t654 t655 kc10 (sBS_in hW.1) hW.1.2.1 t653 ⟨Nat.le_of_ble_eq_true rfl, Nat.le_of_ble_eq_true rfl⟩ ⟨rfl, rfl⟩ ⟨Nat.le_refl _, Nat.le_refl _⟩ rfl (Nat.le_of_ble_eq_true rfl) dL_law_572 ?_
          refine w_aload_2 (pc := 575) dL_law_575 ?_
          refine w_aload_0 (pc := 576) dL_law_576 ?_
          refine w_iload_3 (pc := 577) dL_law_577 ?_
          refine w_iconst (pc := 578) (v := 1) dL_law_578 (by decide) ?_
          refine w_iadd (pc := 579) dL_law_579 ?_
          refine w_sld (pc := 580) (b := b) (L := L) (xs := xs) (j := i + 1) (fun _ h => h) (by rw [hz]; exact nI_add i 1) (by omega) (by omega) dL_law_580 ?_
          refine w_callV_I (pc := 581) (c_Mod_count hO (by rw [hM.1]; exact hC.2.1.1)) ok_X11_count t942 t943 kc11 hO.1 hO.2.1 t941 ⟨Nat.le_of_ble_eq_true rfl, Nat.le_of_ble_eq_true rfl⟩ ⟨rfl, rfl⟩ ⟨Nat.le_refl _, Nat.le_refl _⟩ rfl (Nat.le_of_ble_eq_true rfl) dL_law_581 ?_
          rw [hM.1]
          rw [hM.2.1, hT.1]
          refine w_icmp_eq (pc := 584) (tgt := 713) dL_law_584 (by decide) (fun c584 => ?_) (fun c584 => ?_)
          · exact J713 _ _ h3 ⟨x, c, n0, f, hW, hC, hO, hM, hT⟩
          · exact absurd rfl c584
        by_cases s32_17 : y32 = 17
        · subst s32_17
          refine w_tableIn (pc := 32) (tgt := 589) (off := 557) dL_law_32 (by decide) (by decide) (by decide) (by decide) ?_
          refine w_aload_1 (pc := 589) dL_law_589 ?_
          refine w_callV_EI (pc := 590) (c_BS_batchIn hW hC) ok_X10_batchIn t667 t668 kc10 (sBS_in hW.1) hW.1.2.1 t666 ⟨Nat.le_of_ble_eq_true rfl, Nat.le_of_ble_eq_true rfl⟩ ⟨rfl, rfl⟩ ⟨Nat.le_refl _, Nat.le_refl _⟩ rfl (Nat.le_of_ble_eq_true rfl) dL_law_590 (fun r590 I590 h590 => ?_)
          obtain ⟨v590, hC, fr590⟩ := h590
          obtain ⟨hM, hT⟩ := L_f hM hT fr590
          refine w_aload_2 (pc := 593) dL_law_593 ?_
          refine w_callV_I (pc := 594) (c_Mod_batchIn hO (by rw [hM.1]; exact hC.2.1.1) (by rw [hM.1]; exact fun h => Nat.pos_of_ne_zero (hC.2.1.2.1.2.2 h))) ok_X11_batchIn t958 t959 kc11 hO.1 hO.2.1 t957 ⟨Nat.le_of_ble_eq_true rfl, Nat.le_of_ble_eq_true rfl⟩ ⟨rfl, rfl⟩ ⟨Nat.le_refl _, Nat.le_refl _⟩ rfl (Nat.le_of_ble_eq_true rfl) dL_law_594 ?_
          rw [hM.1]
          refine w_icmp_eq (pc := 597) (tgt := 713) dL_law_597 (by decide) (fun c597 => ?_) (fun c597 => ?_)
          · exact J713 _ _ h3 (L_ls hW hC hO hM hT)
          · exact absurd v590 c597
        by_cases s32_18 : y32 = 18
        · subst s32_18
          refine w_tableIn (pc := 32) (tgt := 602) (off := 570) dL_law_32 (by decide) (by decide) (by decide) (by decide) ?_
          refine w_aload_1 (pc := 602) dL_law_602 ?_
          refine w_callV_EI (pc := 603) (c_BS_batchOut hW hC) ok_X10_batchOut t677 t678 kc10 (sBS_in hW.1) hW.1.2.1 t676 ⟨Nat.le_of_ble_eq_true rfl, Nat.le_of_ble_eq_true rfl⟩ ⟨rfl, rfl⟩ ⟨Nat.le_refl _, Nat.le_refl _⟩ rfl (Nat.le_of_ble_eq_true rfl) dL_law_603 (fun r603 I603 h603 => ?_)
          obtain ⟨v603, hC, fr603⟩ := h603
          obtain ⟨hM, hT⟩ := L_f hM hT fr603
          refine w_aload_2 (pc := 606) dL_law_606 ?_
          refine w_callV_I (pc := 607) (c_Mod_batchOut hO (by rw [hM.1]; exact hC.2.1.1) (by rw [hM.1]; exact fun h => Nat.pos_of_ne_zero (hC.2.1.2.1.2.2 h))) ok_X11_batchOut t969 t970 kc11 hO.1 hO.2.1 t968 ⟨Nat.le_of_ble_eq_true rfl, Nat.le_of_ble_eq_true rfl⟩ ⟨rfl, rfl⟩ ⟨Nat.le_refl _, Nat.le_refl _⟩ rfl (Nat.le_of_ble_eq_true rfl) dL_law_607 ?_
          rw [hM.1]
          refine w_icmp_eq (pc := 610) (tgt := 713) dL_law_610 (by decide) (fun c610 => ?_) (fun c610 => ?_)
          · exact J713 _ _ h3 (L_ls hW hC hO hM hT)
          · exact absurd v603 c610
        by_cases s32_19 : y32 = 19
        · subst s32_19
          refine w_tableIn (pc := 32) (tgt := 615) (off := 583) dL_law_32 (by decide) (by decide) (by decide) (by decide) ?_
          refine w_aload_1 (pc := 615) dL_law_615 ?_
          refine w_callV_I (pc := 616) (c_BS_error hW hC) ok_X10_error t686 t687 kc10 (sBS_in hW.1) hW.1.2.1 t685 ⟨Nat.le_of_ble_eq_true rfl, Nat.le_of_ble_eq_true rfl⟩ ⟨rfl, rfl⟩ ⟨Nat.le_refl _, Nat.le_refl _⟩ rfl (Nat.le_of_ble_eq_true rfl) dL_law_616 ?_
          refine w_aload_2 (pc := 619) dL_law_619 ?_
          refine w_callV_I (pc := 620) (c_Mod_error hO ) ok_X11_error t973 t974 kc11 hO.1 hO.2.1 t972 ⟨Nat.le_of_ble_eq_true rfl, Nat.le_of_ble_eq_true rfl⟩ ⟨rfl, rfl⟩ ⟨Nat.le_refl _, Nat.le_refl _⟩ rfl (Nat.le_of_ble_eq_true rfl) dL_law_620 ?_
          rw [hM.1]
          refine w_icmp_eq (pc := 623) (tgt := 713) dL_law_623 (by decide) (fun c623 => ?_) (fun c623 => ?_)
          · exact J713 _ _ h3 ⟨x, c, n0, f, hW, hC, hO, hM, hT⟩
          · exact absurd rfl c623
        by_cases s32_20 : y32 = 20
        · subst s32_20
          refine w_tableIn (pc := 32) (tgt := 628) (off := 596) dL_law_32 (by decide) (by decide) (by decide) (by decide) ?_
          refine w_aload_1 (pc := 628) dL_law_628 ?_
          refine w_callV_RI (pc := 629) (c_BS_undo hW hC) ok_X10_undo t690 t691 kc10 (sBS_in hW.1) hW.1.2.1 t689 ⟨Nat.le_of_ble_eq_true rfl, Nat.le_of_ble_eq_true rfl⟩ ⟨rfl, rfl⟩ ⟨Nat.le_refl _, Nat.le_refl _⟩ rfl (Nat.le_of_ble_eq_true rfl) dL_law_629 (fun r629 G629 I629 h629 => ?_)
          obtain ⟨v629, P629⟩ := h629
          obtain ⟨hO, hM, hT⟩ := L_a hO hM hT P629
          refine w_aload_2 (pc := 632) dL_law_632 ?_
          refine w_callV_I (pc := 633) (c_Mod_undo hO hM.2.1 hC.2.2.1.2.1) ok_X11_undo t977 t978 kc11 hO.1 hO.2.1 t976 ⟨Nat.le_of_ble_eq_true rfl, Nat.le_of_ble_eq_true rfl⟩ ⟨rfl, rfl⟩ ⟨Nat.le_refl _, Nat.le_refl _⟩ rfl (Nat.le_of_ble_eq_true rfl) dL_law_633 ?_
          refine w_icmp_eq (pc := 636) (tgt := 713) dL_law_636 (by decide) (fun c636 => ?_) (fun c636 => ?_)
          · exact J713 _ _ h3 (L_un hO hM hT P629)
          · exact absurd v629 c636
        by_cases s32_21 : y32 = 21
        · subst s32_21
          refine w_tableIn (pc := 32) (tgt := 641) (off := 609) dL_law_32 (by decide) (by decide) (by decide) (by decide) ?_
          refine w_aload_1 (pc := 641) dL_law_641 ?_
          refine w_aload_0 (pc := 642) dL_law_642 ?_
          refine w_iload_3 (pc := 643) dL_law_643 ?_
          refine w_iconst (pc := 644) (v := 1) dL_law_644 (by decide) ?_
          refine w_iadd (pc := 645) dL_law_645 ?_
          refine w_sld (pc := 646) (b := b) (L := L) (xs := xs) (j := i + 1) (fun _ h => h) (by rw [hz]; exact nI_add i 1) (by omega) (by omega) dL_law_646 ?_
          refine w_callV_EI (pc := 647) (c_BS_type hW hC) ok_X10_type t698 t699 kc10 (sBS_in hW.1) hW.1.2.1 t697 ⟨Nat.le_of_ble_eq_true rfl, Nat.le_of_ble_eq_true rfl⟩ ⟨rfl, rfl⟩ ⟨Nat.le_refl _, Nat.le_refl _⟩ rfl (Nat.le_of_ble_eq_true rfl) dL_law_647 (fun r647 I647 h647 => ?_)
          have n60 : n0 ≤ 60 := hC.2.2.2.2.1
          obtain ⟨v647, hC, fr647⟩ := h647
          obtain ⟨hM, hT⟩ := L_f hM hT fr647
          refine w_aload_2 (pc := 650) dL_law_650 ?_
          refine w_aload_0 (pc := 651) dL_law_651 ?_
          refine w_iload_3 (pc := 652) dL_law_652 ?_
          refine w_iconst (pc := 653) (v := 1) dL_law_653 (by decide) ?_
          refine w_iadd (pc := 654) dL_law_654 ?_
          refine w_sld (pc := 655) (b := b) (L := L) (xs := xs) (j := i + 1) (fun _ h => h) (by rw [hz]; exact nI_add i 1) (by omega) (by omega) dL_law_655 ?_
          refine w_callV_I (pc := 656) (c_Mod_type hO hT.1 n60) ok_X11_type t981 t982 kc11 hO.1 hO.2.1 t980 ⟨Nat.le_of_ble_eq_true rfl, Nat.le_of_ble_eq_true rfl⟩ ⟨rfl, rfl⟩ ⟨Nat.le_refl _, Nat.le_refl _⟩ rfl (Nat.le_of_ble_eq_true rfl) dL_law_656 ?_
          refine w_icmp_eq (pc := 659) (tgt := 713) dL_law_659 (by decide) (fun c659 => ?_) (fun c659 => ?_)
          · exact J713 _ _ h3 (L_ty hW hC hO hM hT)
          · exact absurd v647 c659
        by_cases s32_22 : y32 = 22
        · subst s32_22
          refine w_tableIn (pc := 32) (tgt := 664) (off := 632) dL_law_32 (by decide) (by decide) (by decide) (by decide) ?_
          refine w_aload_1 (pc := 664) dL_law_664 ?_
          refine w_callV_EI (pc := 665) (c_BS_clearText hW hC) ok_X10_clearText t707 t708 kc10 (sBS_in hW.1) hW.1.2.1 t706 ⟨Nat.le_of_ble_eq_true rfl, Nat.le_of_ble_eq_true rfl⟩ ⟨rfl, rfl⟩ ⟨Nat.le_refl _, Nat.le_refl _⟩ rfl (Nat.le_of_ble_eq_true rfl) dL_law_665 (fun r665 I665 h665 => ?_)
          obtain ⟨v665, hC, fr665⟩ := h665
          obtain ⟨hM, hT⟩ := L_f hM hT fr665
          refine w_aload_2 (pc := 668) dL_law_668 ?_
          refine w_callV_I (pc := 669) (c_Mod_clearText hO) ok_X11_clearText t985 t986 kc11 hO.1 hO.2.1 t984 ⟨Nat.le_of_ble_eq_true rfl, Nat.le_of_ble_eq_true rfl⟩ ⟨rfl, rfl⟩ ⟨Nat.le_refl _, Nat.le_refl _⟩ rfl (Nat.le_of_ble_eq_true rfl) dL_law_669 ?_
          rw [hT.1]
          refine w_icmp_eq (pc := 672) (tgt := 713) dL_law_672 (by decide) (fun c672 => ?_) (fun c672 => ?_)
          · exact J713 _ _ h3 (L_cl (n0 := n0) hW hC hO hM)
          · exact absurd v665 c672
        by_cases s32_23 : y32 = 23
        · subst s32_23
          refine w_tableIn (pc := 32) (tgt := 677) (off := 645) dL_law_32 (by decide) (by decide) (by decide) (by decide) ?_
          refine w_aload_1 (pc := 677) dL_law_677 ?_
          refine w_aload_0 (pc := 678) dL_law_678 ?_
          refine w_iload_3 (pc := 679) dL_law_679 ?_
          refine w_iconst (pc := 680) (v := 1) dL_law_680 (by decide) ?_
          refine w_iadd (pc := 681) dL_law_681 ?_
          refine w_sld (pc := 682) (b := b) (L := L) (xs := xs) (j := i + 1) (fun _ h => h) (by rw [hz]; exact nI_add i 1) (by omega) (by omega) dL_law_682 ?_
          refine w_callV_EI (pc := 683) (c_BS_fault hW hC) ok_X10_fault t711 t712 kc10 (sBS_in hW.1) hW.1.2.1 t710 ⟨Nat.le_of_ble_eq_true rfl, Nat.le_of_ble_eq_true rfl⟩ ⟨rfl, rfl⟩ ⟨Nat.le_refl _, Nat.le_refl _⟩ rfl (Nat.le_of_ble_eq_true rfl) dL_law_683 (fun r683 I683 h683 => ?_)
          obtain ⟨v683, hC, fr683⟩ := h683
          obtain ⟨hM, hT⟩ := L_f hM hT fr683
          refine w_aload_2 (pc := 686) dL_law_686 ?_
          refine w_aload_0 (pc := 687) dL_law_687 ?_
          refine w_iload_3 (pc := 688) dL_law_688 ?_
          refine w_iconst (pc := 689) (v := 1) dL_law_689 (by decide) ?_
          refine w_iadd (pc := 690) dL_law_690 ?_
          refine w_sld (pc := 691) (b := b) (L := L) (xs := xs) (j := i + 1) (fun _ h => h) (by rw [hz]; exact nI_add i 1) (by omega) (by omega) dL_law_691 ?_
          refine w_callV_EI (pc := 692) (c_Mod_fault hO hM.2.1 hC.2.2.1.2.1 hT.1 hC.2.2.2.2.1 KI_closed (by rw [hM.1]; exact hC.2.1) hM.2.2.1) ok_X11_fault t989 t990 kc11 hO.1 hO.2.1 t988 ⟨Nat.le_of_ble_eq_true rfl, Nat.le_of_ble_eq_true rfl⟩ ⟨rfl, rfl⟩ ⟨Nat.le_refl _, Nat.le_refl _⟩ rfl (Nat.le_of_ble_eq_true rfl) dL_law_692 (fun r692 I692 h692 => ?_)
          obtain ⟨w692, fa, fb, fc⟩ := h692
          rw [pl_cong hT.2, hM.1] at w692
          refine w_icmp_eq (pc := 695) (tgt := 713) dL_law_695 (by decide) (fun c695 => ?_) (fun c695 => ?_)
          · exact J713 _ _ h3 (L_fa hW hC hO hM hT fa fb fc)
          · exact absurd (v683.trans w692.symm) c695
        by_cases s32_24 : y32 = 24
        · subst s32_24
          refine w_tableIn (pc := 32) (tgt := 700) (off := 668) dL_law_32 (by decide) (by decide) (by decide) (by decide) ?_
          refine w_aload_1 (pc := 700) dL_law_700 ?_
          refine w_callV_RI (pc := 701) (c_BS_play hW hC) ok_X10_play t753 t754 kc10 (sBS_in hW.1) hW.1.2.1 t752 ⟨Nat.le_of_ble_eq_true rfl, Nat.le_of_ble_eq_true rfl⟩ ⟨rfl, rfl⟩ ⟨Nat.le_refl _, Nat.le_refl _⟩ rfl (Nat.le_of_ble_eq_true rfl) dL_law_701 (fun r701 G701 I701 h701 => ?_)
          have n60 : n0 ≤ 60 := hC.2.2.2.2.1
          obtain ⟨v701, P701⟩ := h701
          obtain ⟨hO, hM, hT⟩ := L_a hO hM hT P701
          refine w_aload_2 (pc := 704) dL_law_704 ?_
          refine w_callV_EI (pc := 705) (c_Mod_play hO hM.2.1 hC.2.2.1.2.1 hT.1 n60 KI_closed (by rw [hM.1]; exact hC.2.1) hM.2.2.1) ok_X11_play t1025 t1026 kc11 hO.1 hO.2.1 t1024 ⟨Nat.le_of_ble_eq_true rfl, Nat.le_of_ble_eq_true rfl⟩ ⟨rfl, rfl⟩ ⟨Nat.le_refl _, Nat.le_refl _⟩ rfl (Nat.le_of_ble_eq_true rfl) dL_law_705 (fun r705 I705 h705 => ?_)
          obtain ⟨w705, wR⟩ := h705
          rw [pl_cong hT.2, hM.1] at w705 wR
          refine w_icmp_eq (pc := 708) (tgt := 713) dL_law_708 (by decide) (fun c708 => ?_) (fun c708 => ?_)
          · exact J713 _ _ h3 (L_pl hC hO hM hT P701 wR)
          · exact absurd (v701.trans w705.symm) c708
        have q32_0 := lv_neT (a := 0) s32_0 (by decide)
        have q32_1 := lv_neT (a := 1) s32_1 (by decide)
        have q32_2 := lv_neT (a := 2) s32_2 (by decide)
        have q32_3 := lv_neT (a := 3) s32_3 (by decide)
        have q32_4 := lv_neT (a := 4) s32_4 (by decide)
        have q32_5 := lv_neT (a := 5) s32_5 (by decide)
        have q32_6 := lv_neT (a := 6) s32_6 (by decide)
        have q32_7 := lv_neT (a := 7) s32_7 (by decide)
        have q32_8 := lv_neT (a := 8) s32_8 (by decide)
        have q32_9 := lv_neT (a := 9) s32_9 (by decide)
        have q32_10 := lv_neT (a := 10) s32_10 (by decide)
        have q32_11 := lv_neT (a := 11) s32_11 (by decide)
        have q32_12 := lv_neT (a := 12) s32_12 (by decide)
        have q32_13 := lv_neT (a := 13) s32_13 (by decide)
        have q32_14 := lv_neT (a := 14) s32_14 (by decide)
        have q32_15 := lv_neT (a := 15) s32_15 (by decide)
        have q32_16 := lv_neT (a := 16) s32_16 (by decide)
        have q32_17 := lv_neT (a := 17) s32_17 (by decide)
        have q32_18 := lv_neT (a := 18) s32_18 (by decide)
        have q32_19 := lv_neT (a := 19) s32_19 (by decide)
        have q32_20 := lv_neT (a := 20) s32_20 (by decide)
        have q32_21 := lv_neT (a := 21) s32_21 (by decide)
        have q32_22 := lv_neT (a := 22) s32_22 (by decide)
        have q32_23 := lv_neT (a := 23) s32_23 (by decide)
        have q32_24 := lv_neT (a := 24) s32_24 (by decide)
        refine w_tableOut (pc := 32) (tgt := 713) dL_law_32 (by omega) (by decide) ?_
        exact J713 _ _ h3 ⟨x, c, n0, f, hW, hC, hO, hM, hT⟩
  exact L0 (L + 1) 0 _ _ _ (Nat.zero_le _) (by omega) rfl hLR0
