theorem CR_fr {g : kG} {σ : kS} {I J : kI} {r q n0 : Nat} {x : Nat → Nat} {c : kCS} {f : kV} (hq : q = r + 102) (hW : sW g σ r x) (hC : CR I r x c n0 f) (hF : frL q I J) : CR J r x c n0 f := CR_ext hW hC (fun a h1 h2 => hF a (Or.inl (by omega)))
theorem PW_out {g : kG} {σ : kS} {r q n0 : Nat} {I I1 : kI} {c : kCS} {f : kV} {F : Nat → Nat → Option Nat} (hq : q = r + 102) (h : PW g σ r I c n0 f F I1) : ∀ b, q ≤ b → I1 b = I b := by
  obtain ⟨x, -, -, -, fr⟩ := h
  exact fun b hb => fr b (by omega)
theorem rem_i {y d : Int32} {Y D : Nat} (hy : y = nI Y) (hY : Y < 10000000) (hd : d = nI D) (h0 : 0 < D) (hD : D < 10000000) : y - y / d * d = nI (Y % D) := by
  rw [hy, hd]; exact pk_rem (by omega) h0 (by omega)
theorem div_i {y d : Int32} {Y D : Nat} (hy : y = nI Y) (hY : Y < 10000000) (hd : d = nI D) (h0 : 0 < D) (hD : D < 10000000) : y / d = nI (Y / D) := by
  rw [hy, hd]; exact pk_div (by omega) h0 (by omega)
theorem nI_bit {u : Int32} {n : Nat} (h : u = nI (n % 2)) : u = 0 ∨ u = 1 := by
  rcases Nat.mod_two_eq_zero_or_one n with e | e
  · rw [e] at h; exact Or.inl h
  · rw [e] at h; exact Or.inr h
def zr6 (f : kV) (a i : Nat) : kV := fun k => if a ≤ k ∧ k < a + i then 0 else f k
theorem zr6_0 {J : kI} {b a : Nat} : va_up J b (zr6 (J b) a 0) = J := by
  have e : zr6 (J b) a 0 = J b := by funext k; unfold zr6; rw [if_neg (by omega)]
  rw [e, va_self]
theorem zr6_step {J : kI} {b a i : Nat} : kst (va_up J b (zr6 (J b) a i)) b (a + i) 0 = va_up J b (zr6 (J b) a (i + 1)) := by
  rw [kst_va]
  congr 1
  funext k
  by_cases h : k = a + i
  · subst h; rw [upd_s, zr6, if_pos (by omega)]
  · rw [upd_ne h]
    unfold zr6
    by_cases h2 : a ≤ k ∧ k < a + i
    · rw [if_pos h2, if_pos (by omega)]
    · rw [if_neg h2, if_neg (by omega)]
theorem DR_bin {J : kI} {q : Nat} {s : kV} (hS : SX s) (hD : DRo J q s) (hB : nB s < 8) : DRo (va_up J (q + 3) (zr6 (J (q + 3)) (6 * nB s) 6)) q (binZ s (nB s)) := by
  obtain ⟨d1, d2, d3, d4, d5⟩ := hD
  have e : ∀ k, (k < 81 + 6 * nB s ∨ 87 + 6 * nB s ≤ k) → binZ s (nB s) k = s k := fun k h => by unfold binZ; rw [if_neg (by omega)]
  have e13 : nLo (binZ s (nB s)) = nLo s := by rw [nLo, e 13 (by omega), nLo]
  refine ⟨fun k hk => ?_, fun k hk => ?_, fun k hk => ?_, fun k hk => ?_, fun k hk => ?_⟩
  · rw [va_up_ne _ _ (by omega), e _ (by omega)]; exact d1 k hk
  · rw [va_up_ne _ _ (by omega), e _ (by omega)]; exact d2 k hk
  · rw [e13] at hk
    rw [va_up_ne _ _ (by omega)]
    have l6 := (SX_L hS).1
    rw [e _ (by omega)]; exact d3 k hk
  · rw [va_up_self]
    unfold zr6 binZ
    by_cases h : 6 * nB s ≤ k ∧ k < 6 * nB s + 6
    · rw [if_pos h, if_pos (by omega)]
    · rw [if_neg h, if_neg (by omega)]; exact d4 k hk
  · rw [va_up_ne _ _ (by omega), e _ (by omega)]; exact d5 k hk
set_option maxHeartbeats 4000000 in
set_option maxRecDepth 100000 in
theorem c_L_runs {g : kG} {σ : kS} {I : kI} {r q : Nat} {T : Int} (hq : q = r + 102) (h : LSd g σ r q I T) (hTT : T ≤ 3900) {Y : Nat} {w y : Int32} (hy : y = nI Y) (hY : Y < 10000000) : ct g mL_runs ⟨7, 0, 0, 153⟩ [.ref r, .ref q, .ref (q + 1), .ref (q + 2), .ref (q + 3), .ref (q + 4), .int w, .int y] σ I (qRI σ (fun v F J => v = 1 ∧ LSd g (σ.1, σ.2.1, F) r q J (T + 60))) := by
  refine ct_of pnL rfl (Nat.le_of_ble_eq_true rfl) ok_L_runs.1 trivial ?_
  show wp _ _ _ _ _ _ _ _ 0 [some (.ref r), some (.ref q), some (.ref (q + 1)), some (.ref (q + 2)), some (.ref (q + 3)), some (.ref (q + 4)), some (.int w), some (.int y), none, none, none] []
  obtain ⟨x, c, f, hW, hC, hI, hL, hD, hTm⟩ := h
  have eB12 := (SX_B hI.1.1).2
  refine w_iload_6 (pc := 0) dL_runs_0 ?_
  refine w_if_ne (pc := 2) (tgt := 80) dL_runs_2 (by decide) (fun c2 => ?_) (fun c2 => ?_)
  · refine w_iload_6 (pc := 80) dL_runs_80 ?_
    refine w_iconst (pc := 82) (v := 1) dL_runs_82 (by decide) ?_
    refine w_icmp_ne (pc := 83) (tgt := 150) dL_runs_83 (by decide) (fun c83 => ?_) (fun c83 => ?_)
    · refine w_iload_6 (pc := 150) dL_runs_150 ?_
      refine w_iconst (pc := 152) (v := 2) dL_runs_152 (by decide) ?_
      refine w_icmp_ne (pc := 153) (tgt := 256) dL_runs_153 (by decide) (fun c153 => ?_) (fun c153 => ?_)
      · refine w_iconst (pc := 256) (v := 1) dL_runs_256 (by decide) ?_
        refine w_iload_7 (pc := 257) dL_runs_257 ?_
        have J275 : ∀ (d : Int32), (d = nI 9999 ∨ d = nI 700) → wp g mL_runs ⟨7, 0, 0, 153⟩ (fun _ => True) (qRI σ (fun v F J => v = 1 ∧ LSd g (σ.1, σ.2.1, F) r q J (T + 60))) (0, 0) σ I 275 [some (.ref r), some (.ref q), some (.ref (q + 1)), some (.ref (q + 2)), some (.ref (q + 3)), some (.ref (q + 4)), some (.int w), some (.int y), none, none, none] [.int d, .int y, .int 1] := by
          intro d hd
          refine w_irem (pc := 275) dL_runs_275 (by rcases hd with e | e <;> rw [e] <;> decide) ?_
          refine w_iadd (pc := 276) dL_runs_276 ?_
          refine w_name (fun m hm => ?_)
          obtain ⟨M, hM1, hM2, hMm⟩ : ∃ M, 1 ≤ M ∧ M ≤ 9999 ∧ m = nI M := by
            rcases hd with e | e
            · exact ⟨1 + Y % 9999, by omega, by omega, by rw [hm, rem_i hy hY e (by omega) (by omega)]; exact nI_add 1 _⟩
            · exact ⟨1 + Y % 700, by omega, by omega, by rw [hm, rem_i hy hY e (by omega) (by omega)]; exact nI_add 1 _⟩
          refine w_istore_8 (pc := 277) dL_runs_277 rfl ?_
          have J293 : (0 < c.1 15 ∨ c.1 12 = 0) → wp g mL_runs ⟨7, 0, 0, 153⟩ (fun _ => True) (qRI σ (fun v F J => v = 1 ∧ LSd g (σ.1, σ.2.1, F) r q J (T + 60))) (0, 0) σ I 293 [some (.ref r), some (.ref q), some (.ref (q + 1)), some (.ref (q + 2)), some (.ref (q + 3)), some (.ref (q + 4)), some (.int w), some (.int y), some (.int m), none, none] [] := by
            intro pb
            refine w_aload_0 (pc := 293) dL_runs_293 ?_
            refine w_iload_8 (pc := 294) dL_runs_294 ?_
            refine w_callV_RI (pc := 296) (c_BS_batch hW hC) ok_X10_batch t520 t521 kc10 (sBS_in hW.1) hW.1.2.1 t519 ⟨Nat.le_of_ble_eq_true rfl, Nat.le_of_ble_eq_true rfl⟩ ⟨rfl, rfl⟩ ⟨Nat.le_refl _, Nat.le_refl _⟩ rfl (Nat.le_of_ble_eq_true rfl) dL_runs_296 (fun r296 G296 I296 h296 => ?_)
            obtain ⟨v296, P296⟩ := h296
            have o1 := (op_batch hI hMm hM1 hM2).1 pb
            refine w_ldc (pc := 299) (v := -1000002) t509 dL_runs_299 ?_
            refine w_icmp_ne (pc := 301) (tgt := 308) dL_runs_301 (by decide) (fun c301 => ?_) (fun c301 => ?_)
            · exact (c301 (by rw [v296, o1])).elim
            · refine w_iconst (pc := 304) (v := 1) dL_runs_304 (by decide) ?_
              refine w_goto (pc := 305) (tgt := 309) dL_runs_305 (by decide) ?_
              refine w_zret (pc := 309) rfl (by decide) ⟨Nat.le_refl _, Nat.le_refl _⟩ dL_runs_309 ?_
              exact ⟨_, rfl, rfl, rfl, rfl, LSd_n hq P296 hL hD hI (by omega) (by rw [o1])⟩
          refine w_aload_1 (pc := 279) dL_runs_279 ?_
          refine w_bipush (pc := 280) (v := 15) dL_runs_280 (by decide) ?_
          refine w_iald (pc := 282) (j := 15) (sL_in0 hL) hL.2.1 rfl (by decide) (by decide) dL_runs_282 ?_
          refine w_if_gt (pc := 283) (tgt := 293) dL_runs_283 (by decide) (fun c283 => ?_) (fun c283 => ?_)
          · have pb : 0 < c.1 15 ∨ c.1 12 = 0 := Or.inl (by rw [← hD.1 15 (by omega)]; exact c283)
            exact J293 pb
          · refine w_aload_1 (pc := 286) dL_runs_286 ?_
            refine w_bipush (pc := 287) (v := 12) dL_runs_287 (by decide) ?_
            refine w_iald (pc := 289) (j := 12) (sL_in0 hL) hL.2.1 rfl (by decide) (by decide) dL_runs_289 ?_
            refine w_if_ne (pc := 290) (tgt := 310) dL_runs_290 (by decide) (fun c290 => ?_) (fun c290 => ?_)
            · have nb : ¬ (0 < c.1 15 ∨ c.1 12 = 0) := fun h => h.elim (fun h => c283 (by rw [hD.1 15 (by omega)]; exact h)) (fun h => c290 (by rw [hD.1 12 (by omega)]; exact h))
              obtain ⟨o1, o2⟩ := (op_batch hI hMm hM1 hM2).2 nb
              have hF2 : frL q I (kst (kst (kst (kst I q 15 m) q 16 0) q 17 0) q 1 0) := frL_k (frL_k (frL_k (frL_k frL_r (by omega)) (by omega)) (by omega)) (by omega)
              have D2 : DRo (kst (kst (kst (kst I q 15 m) q 16 0) q 17 0) q 1 0) q (upd (upd (upd (upd c.1 15 m) 16 0) 17 0) 1 0) := DR_g (DR_g (DR_g (DR_g hD (by omega) (by omega)) (by omega) (by omega)) (by omega) (by omega)) (by omega) (by omega)
              have e48 : sm (upd (upd (upd (upd c.1 15 m) 16 0) 17 0) 1 0) 21 48 = sm c.1 21 48 := sm_cong (fun k hk => by rw [upd_ne (by omega), upd_ne (by omega), upd_ne (by omega), upd_ne (by omega)])
              refine w_aload_1 (pc := 310) dL_runs_310 ?_
              refine w_bipush (pc := 311) (v := 15) dL_runs_311 (by decide) ?_
              refine w_iload_8 (pc := 313) dL_runs_313 ?_
              refine w_iast (pc := 315) (j := 15) (sL_in0 hL) hL.2.1 rfl (by decide) (by decide) dL_runs_315 ?_
              refine w_aload_1 (pc := 316) dL_runs_316 ?_
              refine w_bipush (pc := 317) (v := 16) dL_runs_317 (by decide) ?_
              refine w_iconst (pc := 319) (v := 0) dL_runs_319 (by decide) ?_
              refine w_iast (pc := 320) (j := 16) (sL_in0 hL) hL.2.1 rfl (by decide) (by decide) dL_runs_320 ?_
              refine w_aload_1 (pc := 321) dL_runs_321 ?_
              refine w_bipush (pc := 322) (v := 17) dL_runs_322 (by decide) ?_
              refine w_iconst (pc := 324) (v := 0) dL_runs_324 (by decide) ?_
              refine w_iast (pc := 325) (j := 17) (sL_in0 hL) hL.2.1 rfl (by decide) (by decide) dL_runs_325 ?_
              refine w_aload_1 (pc := 326) dL_runs_326 ?_
              refine w_iconst (pc := 327) (v := 1) dL_runs_327 (by decide) ?_
              refine w_iconst (pc := 328) (v := 0) dL_runs_328 (by decide) ?_
              refine w_iast (pc := 329) (j := 1) (sL_in0 hL) hL.2.1 rfl (by decide) (by decide) dL_runs_329 ?_
              refine w_aload_0 (pc := 330) dL_runs_330 ?_
              refine w_iload_8 (pc := 331) dL_runs_331 ?_
              refine w_callV_RI (pc := 333) (c_BS_batch hW (CR_fr hq hW hC hF2)) ok_X10_batch t520 t521 kc10 (sBS_in hW.1) hW.1.2.1 t519 ⟨Nat.le_of_ble_eq_true rfl, Nat.le_of_ble_eq_true rfl⟩ ⟨rfl, rfl⟩ ⟨Nat.le_refl _, Nat.le_refl _⟩ rfl (Nat.le_of_ble_eq_true rfl) dL_runs_333 (fun r333 G333 I333 h333 => ?_)
              obtain ⟨v333, P333⟩ := h333
              have D333 := DR_out D2 (PW_out hq P333)
              refine w_aload_2 (pc := 336) dL_runs_336 ?_
              refine w_iconst (pc := 337) (v := 0) dL_runs_337 (by decide) ?_
              refine w_bipush (pc := 338) (v := 11) dL_runs_338 (by decide) ?_
              refine w_callS_I (pc := 340) (c_L_mass (f := 0) (t := 11) (sL_in hL (k := 1) (by decide)) hL.2.2.1 rfl rfl (by omega) (by omega)) ok_L_mass t371 t370 ⟨Nat.le_of_ble_eq_true rfl, Nat.le_of_ble_eq_true rfl⟩ ⟨rfl, rfl⟩ ⟨Nat.le_refl _, Nat.le_refl _⟩ rfl (Nat.le_of_ble_eq_true rfl) dL_runs_340 ?_
              rw [ms_all D333]
              refine w_icmp_ne (pc := 343) (tgt := 350) dL_runs_343 (by decide) (fun c343 => ?_) (fun c343 => ?_)
              · exact (c343 (by rw [v333, o1, e48])).elim
              · refine w_iconst (pc := 346) (v := 1) dL_runs_346 (by decide) ?_
                refine w_goto (pc := 347) (tgt := 351) dL_runs_347 (by decide) ?_
                refine w_zret (pc := 351) rfl (by decide) ⟨Nat.le_refl _, Nat.le_refl _⟩ dL_runs_351 ?_
                exact ⟨_, rfl, rfl, rfl, rfl, LSd_s hq P333 hL (D2) o2 (by rw [upd_ne (by omega), upd_ne (by omega), upd_ne (by omega), upd_ne (by omega)]; omega) (by rw [o1])⟩
            · have pb : 0 < c.1 15 ∨ c.1 12 = 0 := Or.inr (by rw [← hD.1 12 (by omega)]; exact c290)
              exact J293 pb
        refine w_iload_7 (pc := 259) dL_runs_259 ?_
        refine w_iconst (pc := 261) (v := 4) dL_runs_261 (by decide) ?_
        refine w_irem (pc := 262) dL_runs_262 (by decide) ?_
        refine w_if_ne (pc := 263) (tgt := 272) dL_runs_263 (by decide) (fun c263 => ?_) (fun c263 => ?_)
        · refine w_sipush (pc := 272) (v := 700) dL_runs_272 (by decide) ?_
          exact J275 _ (Or.inr rfl)
        · refine w_sipush (pc := 266) (v := 9999) dL_runs_266 (by decide) ?_
          refine w_goto (pc := 269) (tgt := 275) dL_runs_269 (by decide) ?_
          exact J275 _ (Or.inl rfl)
      · have J172 : (oBin c.1 = (if 0 < c.1 15 then -1000002 else -1000003, none)) → wp g mL_runs ⟨7, 0, 0, 153⟩ (fun _ => True) (qRI σ (fun v F J => v = 1 ∧ LSd g (σ.1, σ.2.1, F) r q J (T + 60))) (0, 0) σ I 172 [some (.ref r), some (.ref q), some (.ref (q + 1)), some (.ref (q + 2)), some (.ref (q + 3)), some (.ref (q + 4)), some (.int w), some (.int y), none, none, none] [] := by
          intro ho
          refine w_aload_0 (pc := 172) dL_runs_172 ?_
          refine w_callV_RI (pc := 173) (c_BS_bin hW hC) ok_X10_bin t511 t512 kc10 (sBS_in hW.1) hW.1.2.1 t510 ⟨Nat.le_of_ble_eq_true rfl, Nat.le_of_ble_eq_true rfl⟩ ⟨rfl, rfl⟩ ⟨Nat.le_refl _, Nat.le_refl _⟩ rfl (Nat.le_of_ble_eq_true rfl) dL_runs_173 (fun r173 G173 I173 h173 => ?_)
          obtain ⟨v173, P173⟩ := h173
          have D173 := DR_out hD (PW_out hq P173)
          refine w_aload_1 (pc := 176) dL_runs_176 ?_
          refine w_bipush (pc := 177) (v := 15) dL_runs_177 (by decide) ?_
          refine w_iald (pc := 179) (j := 15) (sL_in0 hL) hL.2.1 rfl (by decide) (by decide) dL_runs_179 ?_
          refine w_if_le (pc := 180) (tgt := 188) dL_runs_180 (by decide) (fun c180 => ?_) (fun c180 => ?_)
          · refine w_ldc (pc := 188) (v := -1000003) t518 dL_runs_188 ?_
            refine w_icmp_ne (pc := 190) (tgt := 197) dL_runs_190 (by decide) (fun c190 => ?_) (fun c190 => ?_)
            · exact (c190 (by rw [v173, ho, if_neg (by rw [← D173.1 15 (by omega)]; exact Int32.not_lt.mpr c180)])).elim
            · refine w_iconst (pc := 193) (v := 1) dL_runs_193 (by decide) ?_
              refine w_goto (pc := 194) (tgt := 198) dL_runs_194 (by decide) ?_
              refine w_zret (pc := 198) rfl (by decide) ⟨Nat.le_refl _, Nat.le_refl _⟩ dL_runs_198 ?_
              exact ⟨_, rfl, rfl, rfl, rfl, LSd_n hq P173 hL hD hI (by omega) (by rw [ho])⟩
          · refine w_ldc (pc := 183) (v := -1000002) t509 dL_runs_183 ?_
            refine w_goto (pc := 185) (tgt := 190) dL_runs_185 (by decide) ?_
            refine w_icmp_ne (pc := 190) (tgt := 197) dL_runs_190 (by decide) (fun c190 => ?_) (fun c190 => ?_)
            · exact (c190 (by rw [v173, ho, if_pos (by rw [← D173.1 15 (by omega)]; exact Int32.not_le.mp c180)])).elim
            · refine w_iconst (pc := 193) (v := 1) dL_runs_193 (by decide) ?_
              refine w_goto (pc := 194) (tgt := 198) dL_runs_194 (by decide) ?_
              refine w_zret (pc := 198) rfl (by decide) ⟨Nat.le_refl _, Nat.le_refl _⟩ dL_runs_198 ?_
              exact ⟨_, rfl, rfl, rfl, rfl, LSd_n hq P173 hL hD hI (by omega) (by rw [ho])⟩
        refine w_aload_1 (pc := 156) dL_runs_156 ?_
        refine w_bipush (pc := 157) (v := 15) dL_runs_157 (by decide) ?_
        refine w_iald (pc := 159) (j := 15) (sL_in0 hL) hL.2.1 rfl (by decide) (by decide) dL_runs_159 ?_
        refine w_if_gt (pc := 160) (tgt := 172) dL_runs_160 (by decide) (fun c160 => ?_) (fun c160 => ?_)
        · have p15 : 0 < c.1 15 := by rw [← hD.1 15 (by omega)]; exact c160
          exact J172 (by rw [if_pos p15]; exact (op_bin hI).1 p15)
        · have n15 : ¬ 0 < c.1 15 := by rw [← hD.1 15 (by omega)]; exact c160
          refine w_aload_1 (pc := 163) dL_runs_163 ?_
          refine w_bipush (pc := 164) (v := 12) dL_runs_164 (by decide) ?_
          refine w_iald (pc := 166) (j := 12) (sL_in0 hL) hL.2.1 rfl (by decide) (by decide) dL_runs_166 ?_
          refine w_bipush (pc := 167) (v := 8) dL_runs_167 (by decide) ?_
          refine w_icmp_ne (pc := 169) (tgt := 199) dL_runs_169 (by decide) (fun c169 => ?_) (fun c169 => ?_)
          · have n8 : ¬ c.1 12 = 8 := by rw [← hD.1 12 (by omega)]; exact c169
            obtain ⟨b8, o1, o2⟩ := (op_bin hI).2.2 n15 n8
            refine w_iconst (pc := 199) (v := 0) dL_runs_199 (by decide) ?_
            refine w_istore_8 (pc := 200) dL_runs_200 rfl ?_
            have L2 : ∀ (n i : Nat) (z : Int32), i ≤ 6 → 7 ≤ i + n → z = nI i → wp g mL_runs ⟨7, 0, 0, 153⟩ (fun _ => True) (qRI σ (fun v F J => v = 1 ∧ LSd g (σ.1, σ.2.1, F) r q J (T + 60))) (0, 0) σ (va_up I (q + 3) (zr6 (I (q + 3)) (6 * nB c.1) i)) 202 [some (.ref r), some (.ref q), some (.ref (q + 1)), some (.ref (q + 2)), some (.ref (q + 3)), some (.ref (q + 4)), some (.int w), some (.int y), some (.int z), none, none] [] := by
              intro n
              induction n with
              | zero => intro i z h1 h2; exact absurd h2 (by omega)
              | succ n ih =>
                intro i z h1 h2 hz
                refine w_iload_8 (pc := 202) dL_runs_202 ?_
                refine w_bipush (pc := 204) (v := 6) dL_runs_204 (by decide) ?_
                refine w_icmp_ge (pc := 206) (tgt := 229) dL_runs_206 (by decide) (fun c206 => ?_) (fun c206 => ?_)
                · have hi : i = 6 := by
                    have := (nx_cmp (x := 6) (a := 6) rfl (by omega) hz (by omega)).1.mp c206
                    omega
                  subst hi
                  have hF2 : frL q I (kst (va_up I (q + 3) (zr6 (I (q + 3)) (6 * nB c.1) 6)) q 12 (c.1 12 + 1)) := frL_k (fun b hb => va_up_ne _ _ (by omega)) (by omega)
                  have D2 : DRo (kst (va_up I (q + 3) (zr6 (I (q + 3)) (6 * nB c.1) 6)) q 12 (c.1 12 + 1)) q (upd (binZ c.1 (nB c.1)) 12 (c.1 12 + 1)) := DR_g (DR_bin hI.1.1 hD b8) (by omega) (by omega)
                  refine w_aload_1 (pc := 229) dL_runs_229 ?_
                  refine w_bipush (pc := 230) (v := 12) dL_runs_230 (by decide) ?_
                  refine w_dup2 (pc := 232) dL_runs_232 ?_
                  refine w_iald (pc := 233) (j := 12) (sL_in0 hL) hL.2.1 rfl (by decide) (by decide) dL_runs_233 ?_
                  refine w_iconst (pc := 234) (v := 1) dL_runs_234 (by decide) ?_
                  refine w_iadd (pc := 235) dL_runs_235 ?_
                  rw [va_up_ne _ _ (by omega), hD.1 12 (by omega)]
                  refine w_iast (pc := 236) (j := 12) (sL_in0 hL) hL.2.1 rfl (by decide) (by decide) dL_runs_236 ?_
                  refine w_aload_0 (pc := 237) dL_runs_237 ?_
                  refine w_callV_RI (pc := 238) (c_BS_bin hW (CR_fr hq hW hC hF2)) ok_X10_bin t511 t512 kc10 (sBS_in hW.1) hW.1.2.1 t510 ⟨Nat.le_of_ble_eq_true rfl, Nat.le_of_ble_eq_true rfl⟩ ⟨rfl, rfl⟩ ⟨Nat.le_refl _, Nat.le_refl _⟩ rfl (Nat.le_of_ble_eq_true rfl) dL_runs_238 (fun r238 G238 I238 h238 => ?_)
                  obtain ⟨v238, P238⟩ := h238
                  have D238 := DR_out D2 (PW_out hq P238)
                  refine w_aload_1 (pc := 241) dL_runs_241 ?_
                  refine w_bipush (pc := 242) (v := 12) dL_runs_242 (by decide) ?_
                  refine w_iald (pc := 244) (j := 12) (sL_in0 hL) hL.2.1 rfl (by decide) (by decide) dL_runs_244 ?_
                  refine w_iconst (pc := 245) (v := 1) dL_runs_245 (by decide) ?_
                  refine w_isub (pc := 246) dL_runs_246 ?_
                  refine w_icmp_ne (pc := 247) (tgt := 254) dL_runs_247 (by decide) (fun c247 => ?_) (fun c247 => ?_)
                  · exact (c247 (by rw [v238, o1, D238.1 12 (by omega), upd_s, Int32.add_sub_cancel])).elim
                  · refine w_iconst (pc := 250) (v := 1) dL_runs_250 (by decide) ?_
                    refine w_goto (pc := 251) (tgt := 255) dL_runs_251 (by decide) ?_
                    refine w_zret (pc := 255) rfl (by decide) ⟨Nat.le_refl _, Nat.le_refl _⟩ dL_runs_255 ?_
                    exact ⟨_, rfl, rfl, rfl, rfl, LSd_s hq P238 hL (D2) o2 (by rw [upd_ne (by omega), binZ, if_neg (by omega)]; omega) (by rw [o1])⟩
                · have hi : i < 6 := nx_nle (x := 6) (a := 6) c206 rfl (by omega) hz (by omega)
                  refine w_aload_4 (pc := 209) dL_runs_209 ?_
                  refine w_bipush (pc := 211) (v := 6) dL_runs_211 (by decide) ?_
                  refine w_aload_1 (pc := 213) dL_runs_213 ?_
                  refine w_bipush (pc := 214) (v := 12) dL_runs_214 (by decide) ?_
                  refine w_iald (pc := 216) (j := 12) (sL_in0 hL) hL.2.1 rfl (by decide) (by decide) dL_runs_216 ?_
                  rw [va_up_ne _ _ (by omega), hD.1 12 (by omega), eB12]
                  refine w_imul (pc := 217) dL_runs_217 ?_
                  refine w_iload_8 (pc := 218) dL_runs_218 ?_
                  refine w_iadd (pc := 220) dL_runs_220 ?_
                  refine w_iconst (pc := 221) (v := 0) dL_runs_221 (by decide) ?_
                  refine w_iast (pc := 222) (j := 6 * nB c.1 + i) (sL_in hL (k := 3) (by decide)) hL.2.2.2.2.1 (by rw [hz, show (6 : Int32) = nI 6 from rfl, pk_mul, nI_add]) (by omega) (by decide) dL_runs_222 ?_
                  refine w_iinc_8 (pc := 223) dL_runs_223 rfl rfl ?_
                  refine w_goto (pc := 226) (tgt := 202) dL_runs_226 (by decide) ?_
                  rw [zr6_step]
                  exact ih (i + 1) _ (by omega) (by omega) (by rw [hz]; exact nI_1 i)
            have L2e := L2 7 0 _ (by omega) (by omega) rfl
            rw [zr6_0] at L2e
            exact L2e
          · have e8 : c.1 12 = 8 := by rw [← hD.1 12 (by omega)]; exact c169
            exact J172 (by rw [if_neg n15]; exact (op_bin hI).2.1 n15 e8)
    · refine w_aload_1 (pc := 86) dL_runs_86 ?_
      refine w_bipush (pc := 87) (v := 15) dL_runs_87 (by decide) ?_
      refine w_iald (pc := 89) (j := 15) (sL_in0 hL) hL.2.1 rfl (by decide) (by decide) dL_runs_89 ?_
      refine w_if_le (pc := 90) (tgt := 112) dL_runs_90 (by decide) (fun c90 => ?_) (fun c90 => ?_)
      · have n15 : ¬ 0 < c.1 15 := by rw [← hD.1 15 (by omega)]; exact Int32.not_lt.mpr c90
        refine w_aload_1 (pc := 112) dL_runs_112 ?_
        refine w_iconst (pc := 113) (v := 1) dL_runs_113 (by decide) ?_
        refine w_iald (pc := 114) (j := 1) (sL_in0 hL) hL.2.1 rfl (by decide) (by decide) dL_runs_114 ?_
        refine w_istore_8 (pc := 115) dL_runs_115 rfl ?_
        refine w_aload_1 (pc := 117) dL_runs_117 ?_
        refine w_iconst (pc := 118) (v := 1) dL_runs_118 (by decide) ?_
        have J131 : ∀ (u : Int32), (u = 0 ∨ u = 1) → wp g mL_runs ⟨7, 0, 0, 153⟩ (fun _ => True) (qRI σ (fun v F J => v = 1 ∧ LSd g (σ.1, σ.2.1, F) r q J (T + 60))) (0, 0) σ I 131 [some (.ref r), some (.ref q), some (.ref (q + 1)), some (.ref (q + 2)), some (.ref (q + 3)), some (.ref (q + 4)), some (.int w), some (.int y), some (.int (I q 1)), none, none] [.int u, .int 1, .ref q] := by
          intro u hu
          refine w_iast (pc := 131) (j := 1) (sL_in0 hL) hL.2.1 rfl (by decide) (by decide) dL_runs_131 ?_
          refine w_aload_0 (pc := 132) dL_runs_132 ?_
          refine w_aload_1 (pc := 133) dL_runs_133 ?_
          refine w_iconst (pc := 134) (v := 1) dL_runs_134 (by decide) ?_
          refine w_iald (pc := 135) (j := 1) (sL_in0 hL) hL.2.1 rfl (by decide) (by decide) dL_runs_135 ?_
          rw [kst_at, if_pos rfl]
          refine w_callV_RI (pc := 136) (c_BS_run hW (CR_fr hq hW hC (frL_k frL_r (by omega)))) ok_X10_run t501 t502 kc10 (sBS_in hW.1) hW.1.2.1 t500 ⟨Nat.le_of_ble_eq_true rfl, Nat.le_of_ble_eq_true rfl⟩ ⟨rfl, rfl⟩ ⟨Nat.le_refl _, Nat.le_refl _⟩ rfl (Nat.le_of_ble_eq_true rfl) dL_runs_136 (fun r136 G136 I136 h136 => ?_)
          obtain ⟨v136, P136⟩ := h136
          obtain ⟨o1, o2⟩ := (op_run hI hu).2 n15
          refine w_iload_8 (pc := 139) dL_runs_139 ?_
          refine w_icmp_ne (pc := 141) (tgt := 148) dL_runs_141 (by decide) (fun c141 => ?_) (fun c141 => ?_)
          · exact (c141 (by rw [v136, o1, hD.1 1 (by omega)])).elim
          · refine w_iconst (pc := 144) (v := 1) dL_runs_144 (by decide) ?_
            refine w_goto (pc := 145) (tgt := 149) dL_runs_145 (by decide) ?_
            refine w_zret (pc := 149) rfl (by decide) ⟨Nat.le_refl _, Nat.le_refl _⟩ dL_runs_149 ?_
            exact ⟨_, rfl, rfl, rfl, rfl, LSd_s hq P136 hL (DR_g hD (by omega) (by omega)) o2 (by rw [upd_ne (by omega)]; omega) (by rw [o1])⟩
        refine w_iload_7 (pc := 119) dL_runs_119 ?_
        refine w_iconst (pc := 121) (v := 3) dL_runs_121 (by decide) ?_
        refine w_irem (pc := 122) dL_runs_122 (by decide) ?_
        refine w_if_le (pc := 123) (tgt := 130) dL_runs_123 (by decide) (fun c123 => ?_) (fun c123 => ?_)
        · refine w_iconst (pc := 130) (v := 0) dL_runs_130 (by decide) ?_
          exact J131 _ (Or.inl rfl)
        · refine w_iconst (pc := 126) (v := 1) dL_runs_126 (by decide) ?_
          refine w_goto (pc := 127) (tgt := 131) dL_runs_127 (by decide) ?_
          exact J131 _ (Or.inr rfl)
      · have p15 : 0 < c.1 15 := by rw [← hD.1 15 (by omega)]; exact Int32.not_le.mp c90
        refine w_aload_0 (pc := 93) dL_runs_93 ?_
        refine w_iload_7 (pc := 94) dL_runs_94 ?_
        refine w_iconst (pc := 96) (v := 2) dL_runs_96 (by decide) ?_
        refine w_irem (pc := 97) dL_runs_97 (by decide) ?_
        refine w_name (fun u eu => ?_)
        have hu : u = 0 ∨ u = 1 := nI_bit (n := Y) (by rw [eu]; exact rem_i hy hY (d := 2) (D := 2) rfl (by omega) (by omega))
        refine w_callV_RI (pc := 98) (c_BS_run hW hC) ok_X10_run t501 t502 kc10 (sBS_in hW.1) hW.1.2.1 t500 ⟨Nat.le_of_ble_eq_true rfl, Nat.le_of_ble_eq_true rfl⟩ ⟨rfl, rfl⟩ ⟨Nat.le_refl _, Nat.le_refl _⟩ rfl (Nat.le_of_ble_eq_true rfl) dL_runs_98 (fun r98 G98 I98 h98 => ?_)
        obtain ⟨v98, P98⟩ := h98
        have o1 := (op_run hI hu).1 p15
        refine w_ldc (pc := 101) (v := -1000002) t509 dL_runs_101 ?_
        refine w_icmp_ne (pc := 103) (tgt := 110) dL_runs_103 (by decide) (fun c103 => ?_) (fun c103 => ?_)
        · exact (c103 (by rw [v98, o1])).elim
        · refine w_iconst (pc := 106) (v := 1) dL_runs_106 (by decide) ?_
          refine w_goto (pc := 107) (tgt := 111) dL_runs_107 (by decide) ?_
          refine w_zret (pc := 111) rfl (by decide) ⟨Nat.le_refl _, Nat.le_refl _⟩ dL_runs_111 ?_
          exact ⟨_, rfl, rfl, rfl, rfl, LSd_n hq P98 hL hD hI (by omega) (by rw [o1])⟩
  · refine w_iconst (pc := 5) (v := 1) dL_runs_5 (by decide) ?_
    refine w_iload_7 (pc := 6) dL_runs_6 ?_
    have J22 : ∀ (d : Int32), (d = nI 60 ∨ d = nI 9) → wp g mL_runs ⟨7, 0, 0, 153⟩ (fun _ => True) (qRI σ (fun v F J => v = 1 ∧ LSd g (σ.1, σ.2.1, F) r q J (T + 60))) (0, 0) σ I 22 [some (.ref r), some (.ref q), some (.ref (q + 1)), some (.ref (q + 2)), some (.ref (q + 3)), some (.ref (q + 4)), some (.int w), some (.int y), none, none, none] [.int d, .int y, .int 1] := by
      intro d hd
      refine w_irem (pc := 22) dL_runs_22 (by rcases hd with e | e <;> rw [e] <;> decide) ?_
      refine w_iadd (pc := 23) dL_runs_23 ?_
      refine w_name (fun m hm => ?_)
      obtain ⟨M, hM1, hM2, hMm⟩ : ∃ M, 1 ≤ M ∧ M ≤ 60 ∧ m = nI M := by
        rcases hd with e | e
        · exact ⟨1 + Y % 60, by omega, by omega, by rw [hm, rem_i hy hY e (by omega) (by omega)]; exact nI_add 1 _⟩
        · exact ⟨1 + Y % 9, by omega, by omega, by rw [hm, rem_i hy hY e (by omega) (by omega)]; exact nI_add 1 _⟩
      refine w_istore_8 (pc := 24) dL_runs_24 rfl ?_
      refine w_aload_1 (pc := 26) dL_runs_26 ?_
      refine w_bipush (pc := 27) (v := 11) dL_runs_27 (by decide) ?_
      refine w_iald (pc := 29) (j := 11) (sL_in0 hL) hL.2.1 rfl (by decide) (by decide) dL_runs_29 ?_
      refine w_istore_9 (pc := 30) dL_runs_30 rfl ?_
      refine w_iconst (pc := 32) (v := 0) dL_runs_32 (by decide) ?_
      refine w_istore_10 (pc := 33) dL_runs_33 rfl ?_
      have L0 : ∀ (n i : Nat) (z : Int32) (J : kI), i ≤ M → M + 1 ≤ i + n → z = nI i → frL q I J → DRo J q (tickN c.1 i) → wp g mL_runs ⟨7, 0, 0, 153⟩ (fun _ => True) (qRI σ (fun v F J => v = 1 ∧ LSd g (σ.1, σ.2.1, F) r q J (T + 60))) (0, 0) σ J 35 [some (.ref r), some (.ref q), some (.ref (q + 1)), some (.ref (q + 2)), some (.ref (q + 3)), some (.ref (q + 4)), some (.int w), some (.int y), some (.int m), some (.int (I q 11)), some (.int z)] [] := by
        intro n
        induction n with
        | zero => intro i z J h1 h2; exact absurd h2 (by omega)
        | succ n ih =>
          intro i z J h1 h2 hz hF hT
          refine w_iload_10 (pc := 35) dL_runs_35 ?_
          refine w_iload_8 (pc := 37) dL_runs_37 ?_
          refine w_icmp_ge (pc := 39) (tgt := 58) dL_runs_39 (by decide) (fun c39 => ?_) (fun c39 => ?_)
          · have hi : M ≤ i := (nx_cmp hMm (by omega) hz (by omega)).1.mp c39
            obtain rfl : i = M := by omega
            refine w_aload_0 (pc := 58) dL_runs_58 ?_
            refine w_iload_8 (pc := 59) dL_runs_59 ?_
            refine w_callV_RI (pc := 61) (c_BS_tick hW (CR_fr hq hW hC hF)) ok_X10_tick t377 t378 kc10 (sBS_in hW.1) hW.1.2.1 t376 ⟨Nat.le_of_ble_eq_true rfl, Nat.le_of_ble_eq_true rfl⟩ ⟨rfl, rfl⟩ ⟨Nat.le_refl _, Nat.le_refl _⟩ rfl (Nat.le_of_ble_eq_true rfl) dL_runs_61 (fun r61 G61 I61 h61 => ?_)
            obtain ⟨v61, P61⟩ := h61
            obtain ⟨o1, o2, o3⟩ := op_tick hI hMm hM1 hM2 (by omega)
            have D61 := DR_out hT (PW_out hq P61)
            refine w_aload_1 (pc := 64) dL_runs_64 ?_
            refine w_bipush (pc := 65) (v := 11) dL_runs_65 (by decide) ?_
            refine w_iald (pc := 67) (j := 11) (sL_in0 hL) hL.2.1 rfl (by decide) (by decide) dL_runs_67 ?_
            refine w_iload_9 (pc := 68) dL_runs_68 ?_
            refine w_isub (pc := 70) dL_runs_70 ?_
            refine w_icmp_ne (pc := 71) (tgt := 78) dL_runs_71 (by decide) (fun c71 => ?_) (fun c71 => ?_)
            · exact (c71 (by rw [v61, o1, D61.1 11 (by omega), hD.1 11 (by omega)])).elim
            · refine w_iconst (pc := 74) (v := 1) dL_runs_74 (by decide) ?_
              refine w_goto (pc := 75) (tgt := 79) dL_runs_75 (by decide) ?_
              refine w_zret (pc := 79) rfl (by decide) ⟨Nat.le_refl _, Nat.le_refl _⟩ dL_runs_79 ?_
              exact ⟨_, rfl, rfl, rfl, rfl, LSd_s hq P61 hL (hT) o2 (by omega) (by rw [o1])⟩
          · have hi : i < M := nx_nle c39 hMm (by omega) hz (by omega)
            have hLI := LI_tickN hI i (by omega)
            have hLt := hLI.2
            refine w_aload_1 (pc := 42) dL_runs_42 ?_
            refine w_aload_2 (pc := 43) dL_runs_43 ?_
            refine w_aload_3 (pc := 44) dL_runs_44 ?_
            refine w_aload_4 (pc := 45) dL_runs_45 ?_
            refine w_aload_5 (pc := 47) dL_runs_47 ?_
            refine w_callS_EV (pc := 49) (c_L_tick hL hT hLI.1.1 hLI.1.2.2.2 hLI.1.2.2.1.2.1 (by omega)) ok_L_tick t368 t367 ⟨Nat.le_of_ble_eq_true rfl, Nat.le_of_ble_eq_true rfl⟩ ⟨rfl, rfl⟩ ⟨Nat.le_refl _, Nat.le_refl _⟩ rfl (Nat.le_of_ble_eq_true rfl) dL_runs_49 (fun I49 h49 => ?_)
            refine w_iinc_10 (pc := 52) dL_runs_52 rfl rfl ?_
            refine w_goto (pc := 55) (tgt := 35) dL_runs_55 (by decide) ?_
            exact ih (i + 1) _ _ (by omega) (by omega) (by rw [hz]; exact nI_1 i) (frL_t hF h49.1) h49.2
      exact L0 (M + 1) 0 _ _ (by omega) (by omega) rfl frL_r hD
    refine w_iload_7 (pc := 8) dL_runs_8 ?_
    refine w_iconst (pc := 10) (v := 5) dL_runs_10 (by decide) ?_
    refine w_irem (pc := 11) dL_runs_11 (by decide) ?_
    refine w_if_ne (pc := 12) (tgt := 20) dL_runs_12 (by decide) (fun c12 => ?_) (fun c12 => ?_)
    · refine w_bipush (pc := 20) (v := 9) dL_runs_20 (by decide) ?_
      exact J22 _ (Or.inr rfl)
    · refine w_bipush (pc := 15) (v := 60) dL_runs_15 (by decide) ?_
      refine w_goto (pc := 17) (tgt := 22) dL_runs_17 (by decide) ?_
      exact J22 _ (Or.inl rfl)
