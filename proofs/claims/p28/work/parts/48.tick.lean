def sh4 (f : kV) (k : Nat) : kV := fun j => if k ≤ j ∧ j < 48 then (if j < 4 then 0 else f (j - 4)) else f j
theorem shift_k1 {s : kV} {k : Nat} (h : k < 21 ∨ 69 ≤ k) : shiftS s k = s k := by
  unfold shiftS
  rw [if_neg (by omega), if_neg (by omega)]
theorem sh4_48 {J : kI} {b : Nat} : va_up J b (sh4 (J b) 48) = J := by
  have e : sh4 (J b) 48 = J b := by funext j; unfold sh4; rw [if_neg (by omega)]
  rw [e, va_self]
theorem sh4_step {J : kI} {b k : Nat} {w : Int32} (hk : k < 48) (hw : w = if k < 4 then 0 else J b (k - 4)) : kst (va_up J b (sh4 (J b) (k + 1))) b k w = va_up J b (sh4 (J b) k) := by
  rw [kst_va]
  congr 1
  funext j
  by_cases h : j = k
  · subst h; rw [upd_s, sh4, if_pos ⟨Nat.le_refl _, hk⟩, hw]
  · rw [upd_ne h]
    unfold sh4
    by_cases h2 : k ≤ j ∧ j < 48
    · rw [if_pos h2, if_pos ⟨by omega, h2.2⟩]
    · rw [if_neg h2, if_neg (by omega)]
theorem sh4_rel {J : kI} {q : Nat} {s : kV} (hD : DRo J q s) : DRo (va_up J (q + 1) (sh4 (J (q + 1)) 0)) q (shiftS s) := by
  obtain ⟨d1, d2, d3, d4, d5⟩ := hD
  have e13 : nLo (shiftS s) = nLo s := by rw [nLo, shift_k1 (by omega), nLo]
  refine ⟨fun k hk => ?_, fun k hk => ?_, fun k hk => ?_, fun k hk => ?_, fun k hk => ?_⟩
  · rw [va_up_ne _ _ (by omega), shift_k1 (by omega)]; exact d1 k hk
  · rw [va_up_self, sh4, if_pos ⟨Nat.zero_le _, hk⟩]
    unfold shiftS
    by_cases h : k < 4
    · rw [if_pos h, if_neg (by omega), if_pos (by omega)]
    · rw [if_neg h, if_pos (by omega), d2 _ (by omega)]; congr 1; omega
  · rw [e13] at hk
    rw [va_up_ne _ _ (by omega), shift_k1 (by omega)]; exact d3 k hk
  · rw [va_up_ne _ _ (by omega), shift_k1 (by omega)]; exact d4 k hk
  · rw [va_up_ne _ _ (by omega), shift_k1 (by omega)]; exact d5 k hk
theorem tk1_rel {I : kI} {q : Nat} {s : kV} {x y : Int32} (hD : DRo I q s) (hx : x = s 2 + 1) (hy : y = s 3 + (if s 2 + 1 - (s 2 + 1) / s 19 * s 19 = 0 then s 20 else 0)) : DRo (kst (kst I q 2 x) q 3 y) q (tk1 s) := by
  subst hx
  subst hy
  exact DR_g (DR_g hD (by omega) (by omega)) (by omega) (by omega)
theorem last_sum {s : kV} {w v : Int32} {J : kI} {q : Nat} (hS : SX s) (hD : DRo J q (rowA s)) (hv : v = rdg (rowA s) + rowA s 6) (hw : w = v / 4) :
    DRo (kst (kst (kst J q 5 (rowA s 5 + w)) q 6 (v - 4 * w)) q 8 0) q (upd (upd (upd (rowA s) 5 (rowA s 5 + w)) 6 (v - 4 * w)) 8 0) :=
  DR_g (DR_g (DR_g hD (by omega) (by omega)) (by omega) (by omega)) (by omega) (by omega)
theorem row_end0 {s : kV} {v w : Int32} (hS : SX s) (hB : nB s = 0) (hv : v = rdg (rowA s) + rowA s 6) (hw : w = v / 4) : upd (upd (upd (rowA s) 5 (rowA s 5 + w)) 6 (v - 4 * w)) 8 0 = goesS s := by
  rw [goes_eq hS, if_neg (fun h => h.1 hB), readS, if_pos ((rowA_B hS).trans hB), reads1, ← hv, ← hw, Int32.mul_comm]
theorem row_end1 {s : kV} {v w u : Int32} {b : Nat} (hS : SX s) (hB : nB s = b + 1) (hv : v = rdg (rowA s) + rowA s 6) (hw : w = v / 4) (hu : u = if 0 < sm s 65 4 then 1 else 0) : upd (upd (upd (upd (upd (rowA s) 5 (rowA s 5 + w)) 6 (v - 4 * w)) 8 0) (81 + (6 * b + 4)) (rowA s (81 + (6 * b + 4)) + w)) (81 + (6 * b + 5)) (rowA s (81 + (6 * b + 5)) + u) = goesS s := by
  have hb : nB (rowA s) - 1 = b := by rw [rowA_B hS, hB]; rfl
  have hb2 : nB s - 1 = b := by rw [hB]; rfl
  have er : readS (rowA s) = upd (upd (upd (rowA s) 5 (rowA s 5 + w)) 6 (v - 4 * w)) (81 + (6 * b + 4)) (rowA s (81 + (6 * b + 4)) + w) := by
    rw [readS, if_neg (by rw [rowA_B hS, hB]; omega), hb, reads1, ← hv, ← hw, Int32.mul_comm, show 85 + 6 * b = 81 + (6 * b + 4) by omega]
  rw [uc (j := 8) (by omega), uc (j := 8) (by omega), ← er, goes_eq hS, hb2, show 86 + 6 * b = 81 + (6 * b + 5) by omega]
  by_cases c : 0 < sm s 65 4
  · rw [if_pos ⟨by omega, c⟩, hu, if_pos c]
  · rw [if_neg (fun h => c h.2), hu, if_neg c, Int32.add_zero]
    have e : rowA s (81 + (6 * b + 5)) = readS (rowA s) (81 + (6 * b + 5)) := by
      rw [er, upd_ne (by omega), upd_ne (by omega), upd_ne (by omega)]
    rw [e, upd_self]
theorem fallR_end {s : kV} {z e w : Int32} {i : Nat} (hl : (nB s = 0 ∧ z < 0) ∨ ∃ b, nB s = b + 1 ∧ b < 8 ∧ z = nI (6 * b)) (he : e = sm s 65 4) (hw : w = if nB s = 0 then e else 0) (h0 : nB s = 0 → i = 0) (h4 : i = 4 ∨ z < 0) : fallR s e w i = fallF s := by
  subst he
  by_cases hB : nB s = 0
  · rw [h0 hB]; exact fallR_z hB (by rw [hw, if_pos hB])
  · obtain ⟨b, h1, h2, h3⟩ := hl.resolve_left (fun h => hB h.1)
    have hi : i = 4 := h4.resolve_right (by rw [h3]; exact nI_pos (by omega))
    rw [hi, hw, if_neg hB]; exact fallR_4 hB
theorem nI_m4 {k : Nat} (h : 4 ≤ k) : nI k - 4 = nI (k - 4) := by
  have e : nI k = nI (k - 4) + 4 := by rw [show (4 : Int32) = nI 4 from rfl, nI_add, Nat.sub_add_cancel h]
  rw [e, Int32.add_sub_cancel]
theorem nI_pos2 {n : Nat} (h : n < 2 ^ 31) : 0 ≤ nI n := Int32.not_lt.mp (nI_pos h)
theorem NB_tk2 {T : Int} {s : kV} (hN : NB T s) (hS : SX s) : NB T (tk2 (tk1 s)) := by
  have S1 := SX_tk1 hS
  have N1 : NB T (tk1 s) := NB_upd (NB_upd hN hS (by simp [nbI])) (SX_upd hS (by simp [sxI])) (by simp [nbI])
  unfold tk2
  split
  · exact NB_upd N1 S1 (by simp [nbI])
  · exact N1
theorem NB_fallF {T : Int} {s : kV} (h : NB T s) (hS : SX s) (hT : T ≤ 2147483647) : NB T (shiftS (fallF s)) := by
  have hA := NB_goesA h hS hT
  unfold goesA at hA
  rw [falls_F] at hA
  by_cases c : nB s ≠ 0 ∧ 0 < sm s 65 4
  · rw [if_pos c, shift_uK (by omega)] at hA
    have SH := SX_shift (SX_fallF hS)
    have hB8 := (SX_B hS).1
    refine NB_congr hA (SX_upd SH (by simp only [sxI]; omega)) (fun k hk => (upd_ne ?_).symm)
    simp only [nbI] at hk; omega
  · rw [if_neg c] at hA; exact hA
set_option maxHeartbeats 4000000 in
set_option maxRecDepth 100000 in
theorem c_L_tick {g : kG} {σ : kS} {I : kI} {q : Nat} {s : kV} (hL : sL g σ q) (hD : DRo I q s) (hK : KI s) (h15 : s 15 = 0 ∨ 0 < s 15) (h6 : -3 ≤ (s 6).toInt ∧ (s 6).toInt ≤ 3) (ht : (s 2).toInt < 9000) : ct g mL_tick ⟨2, 0, 0, 50⟩ [.ref q, .ref (q + 1), .ref (q + 2), .ref (q + 3), .ref (q + 4)] σ I (qEV σ (fun J => frL q I J ∧ DRo J q (tickS s))) := by
  refine ct_of pnL rfl (Nat.le_of_ble_eq_true rfl) ok_L_tick.1 trivial ?_
  show wp _ _ _ _ _ _ _ _ 0 [some (.ref q), some (.ref (q + 1)), some (.ref (q + 2)), some (.ref (q + 3)), some (.ref (q + 4)), none, none, none, none] []
  have S1 := SX_tk1 hK.1
  have S2 := SX_tk2 S1
  have N2 : NB (200 * (s 2).toInt) (tk2 (tk1 s)) := NB_tk2 hK.2.2.2.2.1 hK.1
  have t0 := hK.2.2.1
  have z0 := hK.2.2.2.1
  have J385 : ∀ (J : kI), runs2 s → frL q I J → DRo J q (goesS (tk2 (tk1 s))) → wp g mL_tick ⟨2, 0, 0, 50⟩ (fun _ => True) (qEV σ (fun J => frL q I J ∧ DRo J q (tickS s))) (0, 0) σ J 385 [some (.ref q), some (.ref (q + 1)), some (.ref (q + 2)), some (.ref (q + 3)), some (.ref (q + 4)), none, none, none, none] [] := by
    intro J hgo hF hT
    have hX := tick_go hgo
    have SG := SX_goes S2
    have e15 := hT.1 15 (by omega)
    have e16 := hT.1 16 (by omega)
    refine w_aload_0 (pc := 385) dL_tick_385 ?_
    refine w_bipush (pc := 386) (v := 15) dL_tick_386 (by decide) ?_
    refine w_iald (pc := 388) (j := 15) (sL_in0 hL) hL.2.1 rfl (by decide) (by decide) dL_tick_388 ?_
    refine w_if_le (pc := 389) (tgt := 415) dL_tick_389 (by decide) (fun c389 => ?_) (fun c389 => ?_)
    · refine w_vret (pc := 415) rfl ⟨Nat.le_refl _, Nat.le_refl _⟩ dL_tick_415 ?_
      refine ⟨rfl, rfl, hF, ?_⟩
      rw [hX, tk4, if_neg (fun h => Int32.not_lt.mpr c389 (by rw [e15]; exact h.1))]; exact hT
    · refine w_aload_0 (pc := 392) dL_tick_392 ?_
      refine w_bipush (pc := 393) (v := 16) dL_tick_393 (by decide) ?_
      refine w_iald (pc := 395) (j := 16) (sL_in0 hL) hL.2.1 rfl (by decide) (by decide) dL_tick_395 ?_
      refine w_iconst (pc := 396) (v := 1) dL_tick_396 (by decide) ?_
      refine w_icmp_ne (pc := 397) (tgt := 415) dL_tick_397 (by decide) (fun c397 => ?_) (fun c397 => ?_)
      · refine w_vret (pc := 415) rfl ⟨Nat.le_refl _, Nat.le_refl _⟩ dL_tick_415 ?_
        refine ⟨rfl, rfl, hF, ?_⟩
        rw [hX, tk4, if_neg (fun h => c397 (by rw [e16]; exact h.2.1))]; exact hT
      · refine w_aload_1 (pc := 400) dL_tick_400 ?_
        refine w_iconst (pc := 401) (v := 0) dL_tick_401 (by decide) ?_
        refine w_bipush (pc := 402) (v := 11) dL_tick_402 (by decide) ?_
        refine w_callS_I (pc := 404) (c_L_mass (f := 0) (t := 11) (sL_in hL (k := 1) (by decide)) hL.2.2.1 rfl rfl (by omega) (by omega)) ok_L_mass t371 t370 ⟨Nat.le_of_ble_eq_true rfl, Nat.le_of_ble_eq_true rfl⟩ ⟨rfl, rfl⟩ ⟨Nat.le_refl _, Nat.le_refl _⟩ rfl (Nat.le_of_ble_eq_true rfl) dL_tick_404 ?_
        rw [ms_all hT]
        refine w_if_ne (pc := 407) (tgt := 415) dL_tick_407 (by decide) (fun c407 => ?_) (fun c407 => ?_)
        · refine w_vret (pc := 415) rfl ⟨Nat.le_refl _, Nat.le_refl _⟩ dL_tick_415 ?_
          refine ⟨rfl, rfl, hF, ?_⟩
          rw [hX, tk4, if_neg (fun h => c407 h.2.2)]; exact hT
        · refine w_aload_0 (pc := 410) dL_tick_410 ?_
          refine w_bipush (pc := 411) (v := 15) dL_tick_411 (by decide) ?_
          refine w_iconst (pc := 413) (v := 0) dL_tick_413 (by decide) ?_
          refine w_iast (pc := 414) (j := 15) (sL_in0 hL) hL.2.1 rfl (by decide) (by decide) dL_tick_414 ?_
          refine w_vret (pc := 415) rfl ⟨Nat.le_refl _, Nat.le_refl _⟩ dL_tick_415 ?_
          refine ⟨rfl, rfl, frL_k hF (by omega), ?_⟩
          rw [hX, tk4, if_pos ⟨by rw [← e15]; exact Int32.not_le.mp c389, by rw [← e16]; exact c397, c407⟩]
          exact DR_g hT (by omega) (by omega)
  have J272 : ∀ (J : kI) (z5 e : Int32), runs2 s → ((nB (tk2 (tk1 s)) = 0 ∧ z5 < 0) ∨ ∃ b, nB (tk2 (tk1 s)) = b + 1 ∧ b < 8 ∧ z5 = nI (6 * b)) → e = sm (tk2 (tk1 s)) 65 4 → frL q I J → DRo J q (rowA (tk2 (tk1 s))) → wp g mL_tick ⟨2, 0, 0, 50⟩ (fun _ => True) (qEV σ (fun J => frL q I J ∧ DRo J q (tickS s))) (0, 0) σ J 272 [some (.ref q), some (.ref (q + 1)), some (.ref (q + 2)), some (.ref (q + 3)), some (.ref (q + 4)), some (.int z5), some (.int e), none, none] [] := by
    intro J z5 e hgo hl he hF hT
    have SA := SX_rowA S2
    have NT := (NI_tick hK.2.2 hK.1 ht).1
    have rb := (rdg_bd NT).2
    have r9 := NT.1.2
    have rr := tick_rdg hK.1 hgo
    have e6 : rowA (tk2 (tk1 s)) 6 = s 6 := by rw [rowA_o S2 (by omega) (by omega) (by omega) (by omega) (by omega), tk2_k (by omega), tk1_k (by omega) (by omega)]
    refine w_aload_1 (pc := 272) dL_tick_272 ?_
    refine w_iconst (pc := 273) (v := 4) dL_tick_273 (by decide) ?_
    refine w_bipush (pc := 274) (v := 7) dL_tick_274 (by decide) ?_
    refine w_callS_I (pc := 276) (c_L_mass (f := 4) (t := 7) (sL_in hL (k := 1) (by decide)) hL.2.2.1 rfl rfl (by omega) (by omega)) ok_L_mass t371 t370 ⟨Nat.le_of_ble_eq_true rfl, Nat.le_of_ble_eq_true rfl⟩ ⟨rfl, rfl⟩ ⟨Nat.le_refl _, Nat.le_refl _⟩ rfl (Nat.le_of_ble_eq_true rfl) dL_tick_276 ?_
    rw [ms_sc hT]
    refine w_aload_0 (pc := 279) dL_tick_279 ?_
    refine w_iconst (pc := 280) (v := 3) dL_tick_280 (by decide) ?_
    refine w_iald (pc := 281) (j := 3) (sL_in0 hL) hL.2.1 rfl (by decide) (by decide) dL_tick_281 ?_
    refine w_iadd (pc := 282) dL_tick_282 ?_
    refine w_aload_0 (pc := 283) dL_tick_283 ?_
    refine w_iconst (pc := 284) (v := 4) dL_tick_284 (by decide) ?_
    refine w_iald (pc := 285) (j := 4) (sL_in0 hL) hL.2.1 rfl (by decide) (by decide) dL_tick_285 ?_
    refine w_isub (pc := 286) dL_tick_286 ?_
    refine w_aload_0 (pc := 287) dL_tick_287 ?_
    refine w_bipush (pc := 288) (v := 6) dL_tick_288 (by decide) ?_
    refine w_iald (pc := 290) (j := 6) (sL_in0 hL) hL.2.1 rfl (by decide) (by decide) dL_tick_290 ?_
    refine w_iadd (pc := 291) dL_tick_291 ?_
    rw [hT.1 3 (by omega), hT.1 4 (by omega), hT.1 6 (by omega)]
    refine w_name (fun v hv => ?_)
    have hvb : -2147483647 ≤ v.toInt := by
      rw [hv, show sm (rowA (tk2 (tk1 s))) 37 16 + rowA (tk2 (tk1 s)) 3 - rowA (tk2 (tk1 s)) 4 = rdg (rowA (tk2 (tk1 s))) from rfl, e6, rr, ti_add (by omega) (by omega)]; omega
    refine w_istore_7 (pc := 292) dL_tick_292 rfl ?_
    have J307 : ∀ (u : Int32), u = (if v < 0 then -v else v) → wp g mL_tick ⟨2, 0, 0, 50⟩ (fun _ => True) (qEV σ (fun J => frL q I J ∧ DRo J q (tickS s))) (0, 0) σ J 307 [some (.ref q), some (.ref (q + 1)), some (.ref (q + 2)), some (.ref (q + 3)), some (.ref (q + 4)), some (.int z5), some (.int e), some (.int v), none] [.int u] := by
      intro u hu
      refine w_iconst (pc := 307) (v := 4) dL_tick_307 (by decide) ?_
      refine w_idiv (pc := 308) dL_tick_308 (by decide) ?_
      refine w_istore_8 (pc := 309) dL_tick_309 rfl ?_
      have J324 : ∀ (w : Int32), w = v / 4 → wp g mL_tick ⟨2, 0, 0, 50⟩ (fun _ => True) (qEV σ (fun J => frL q I J ∧ DRo J q (tickS s))) (0, 0) σ J 324 [some (.ref q), some (.ref (q + 1)), some (.ref (q + 2)), some (.ref (q + 3)), some (.ref (q + 4)), some (.int z5), some (.int e), some (.int v), some (.int (u / 4))] [.int w] := by
        intro w hw
        refine w_istore_8 (pc := 324) dL_tick_324 rfl ?_
        refine w_aload_0 (pc := 326) dL_tick_326 ?_
        refine w_iconst (pc := 327) (v := 5) dL_tick_327 (by decide) ?_
        refine w_dup2 (pc := 328) dL_tick_328 ?_
        refine w_iald (pc := 329) (j := 5) (sL_in0 hL) hL.2.1 rfl (by decide) (by decide) dL_tick_329 ?_
        refine w_iload_8 (pc := 330) dL_tick_330 ?_
        refine w_iadd (pc := 332) dL_tick_332 ?_
        rw [hT.1 5 (by omega)]
        refine w_iast (pc := 333) (j := 5) (sL_in0 hL) hL.2.1 rfl (by decide) (by decide) dL_tick_333 ?_
        refine w_aload_0 (pc := 334) dL_tick_334 ?_
        refine w_bipush (pc := 335) (v := 6) dL_tick_335 (by decide) ?_
        refine w_iload_7 (pc := 337) dL_tick_337 ?_
        refine w_iconst (pc := 339) (v := 4) dL_tick_339 (by decide) ?_
        refine w_iload_8 (pc := 340) dL_tick_340 ?_
        refine w_imul (pc := 342) dL_tick_342 ?_
        refine w_isub (pc := 343) dL_tick_343 ?_
        refine w_iast (pc := 344) (j := 6) (sL_in0 hL) hL.2.1 rfl (by decide) (by decide) dL_tick_344 ?_
        refine w_aload_0 (pc := 345) dL_tick_345 ?_
        refine w_bipush (pc := 346) (v := 8) dL_tick_346 (by decide) ?_
        refine w_iconst (pc := 348) (v := 0) dL_tick_348 (by decide) ?_
        refine w_iast (pc := 349) (j := 8) (sL_in0 hL) hL.2.1 rfl (by decide) (by decide) dL_tick_349 ?_
        refine w_iload_5 (pc := 350) dL_tick_350 ?_
        refine w_if_lt (pc := 352) (tgt := 385) dL_tick_352 (by decide) (fun c352 => ?_) (fun c352 => ?_)
        · rcases hl with ⟨hB, -⟩ | ⟨b, hB, hb, hz⟩
          · refine w_drop 5 ?_
            refine w_drop 6 ?_
            refine w_drop 7 ?_
            refine w_drop 8 ?_
            refine J385 _ hgo (frL_k (frL_k (frL_k hF (by omega)) (by omega)) (by omega)) ?_
            rw [← row_end0 S2 hB hv hw]
            exact last_sum S2 hT hv hw
          · exact absurd c352 (by rw [hz]; exact nI_pos (by omega))
        · obtain ⟨b, hB, hb, hz5⟩ := hl.resolve_left (fun h => absurd h.2 c352)
          have x85 : kst (kst (kst J q 5 (rowA (tk2 (tk1 s)) 5 + w)) q 6 (v - 4 * w)) q 8 0 (q + 3) (6 * b + 4) = rowA (tk2 (tk1 s)) (81 + (6 * b + 4)) := by rw [kst_n (by omega), kst_n (by omega), kst_n (by omega)]; exact hT.2.2.2.1 _ (by omega)
          have x86 : kst (kst (kst (kst J q 5 (rowA (tk2 (tk1 s)) 5 + w)) q 6 (v - 4 * w)) q 8 0) (q + 3) (6 * b + 4) (rowA (tk2 (tk1 s)) (81 + (6 * b + 4)) + w) (q + 3) (6 * b + 5) = rowA (tk2 (tk1 s)) (81 + (6 * b + 5)) := by rw [kst_at, if_neg (by omega), kst_n (by omega), kst_n (by omega), kst_n (by omega)]; exact hT.2.2.2.1 _ (by omega)
          refine w_aload_3 (pc := 355) dL_tick_355 ?_
          refine w_iload_5 (pc := 356) dL_tick_356 ?_
          refine w_iconst (pc := 358) (v := 4) dL_tick_358 (by decide) ?_
          refine w_iadd (pc := 359) dL_tick_359 ?_
          refine w_dup2 (pc := 360) dL_tick_360 ?_
          refine w_iald (pc := 361) (j := 6 * b + 4) (sL_in hL (k := 3) (by decide)) hL.2.2.2.2.1 (by rw [hz5]; exact nI_add (6 * b) 4) (by omega) (by decide) dL_tick_361 ?_
          refine w_iload_8 (pc := 362) dL_tick_362 ?_
          refine w_iadd (pc := 364) dL_tick_364 ?_
          refine w_iast (pc := 365) (j := 6 * b + 4) (sL_in hL (k := 3) (by decide)) hL.2.2.2.2.1 (by rw [hz5]; exact nI_add (6 * b) 4) (by omega) (by decide) dL_tick_365 ?_
          refine w_aload_3 (pc := 366) dL_tick_366 ?_
          refine w_iload_5 (pc := 367) dL_tick_367 ?_
          refine w_iconst (pc := 369) (v := 5) dL_tick_369 (by decide) ?_
          refine w_iadd (pc := 370) dL_tick_370 ?_
          refine w_dup2 (pc := 371) dL_tick_371 ?_
          refine w_iald (pc := 372) (j := 6 * b + 5) (sL_in hL (k := 3) (by decide)) hL.2.2.2.2.1 (by rw [hz5]; exact nI_add (6 * b) 5) (by omega) (by decide) dL_tick_372 ?_
          have J383 : ∀ (u2 : Int32), u2 = (if 0 < sm (tk2 (tk1 s)) 65 4 then 1 else 0) → wp g mL_tick ⟨2, 0, 0, 50⟩ (fun _ => True) (qEV σ (fun J => frL q I J ∧ DRo J q (tickS s))) (0, 0) σ (kst (kst (kst (kst J q 5 (rowA (tk2 (tk1 s)) 5 + w)) q 6 (v - 4 * w)) q 8 0) (q + 3) (6 * b + 4) (kst (kst (kst J q 5 (rowA (tk2 (tk1 s)) 5 + w)) q 6 (v - 4 * w)) q 8 0 (q + 3) (6 * b + 4) + w)) 383 [some (.ref q), some (.ref (q + 1)), some (.ref (q + 2)), some (.ref (q + 3)), some (.ref (q + 4)), some (.int z5), some (.int e), some (.int v), some (.int w)] [.int u2, .int (kst (kst (kst (kst J q 5 (rowA (tk2 (tk1 s)) 5 + w)) q 6 (v - 4 * w)) q 8 0) (q + 3) (6 * b + 4) (kst (kst (kst J q 5 (rowA (tk2 (tk1 s)) 5 + w)) q 6 (v - 4 * w)) q 8 0 (q + 3) (6 * b + 4) + w) (q + 3) (6 * b + 5)), .int (z5 + 5), .ref (q + 3)] := by
            intro u2 hu
            refine w_iadd (pc := 383) dL_tick_383 ?_
            refine w_iast (pc := 384) (j := 6 * b + 5) (sL_in hL (k := 3) (by decide)) hL.2.2.2.2.1 (by rw [hz5]; exact nI_add (6 * b) 5) (by omega) (by decide) dL_tick_384 ?_
            refine w_drop 5 ?_
            refine w_drop 6 ?_
            refine w_drop 7 ?_
            refine w_drop 8 ?_
            refine J385 _ hgo (frL_k (frL_k (frL_k (frL_k (frL_k hF (by omega)) (by omega)) (by omega)) (by omega)) (by omega)) ?_
            rw [← row_end1 S2 hB hv hw hu, x85, x86]
            have D3 := last_sum S2 hT hv hw
            have n6 : nLo (upd (upd (upd (rowA (tk2 (tk1 s))) 5 (rowA (tk2 (tk1 s)) 5 + w)) 6 (v - 4 * w)) 8 0) ≤ 6 := by
              rw [nLo_u (by omega), nLo_u (by omega), nLo_u (by omega)]; exact (SX_L SA).1
            exact DR_n (DR_n D3 n6 (by omega)) (by rw [nLo_u (by omega)]; exact n6) (by omega)
          refine w_iload_6 (pc := 373) dL_tick_373 ?_
          refine w_if_le (pc := 375) (tgt := 382) dL_tick_375 (by decide) (fun c375 => ?_) (fun c375 => ?_)
          · refine w_iconst (pc := 382) (v := 0) dL_tick_382 (by decide) ?_
            exact J383 _ (by rw [if_neg (by rw [← he]; exact Int32.not_lt.mpr c375)])
          · refine w_iconst (pc := 378) (v := 1) dL_tick_378 (by decide) ?_
            refine w_goto (pc := 379) (tgt := 383) dL_tick_379 (by decide) ?_
            exact J383 _ (by rw [if_pos (by rw [← he]; exact Int32.not_le.mp c375)])
      refine w_iload_7 (pc := 311) dL_tick_311 ?_
      refine w_if_ge (pc := 313) (tgt := 322) dL_tick_313 (by decide) (fun c313 => ?_) (fun c313 => ?_)
      · refine w_iload_8 (pc := 322) dL_tick_322 ?_
        exact J324 _ (by rw [hu, if_neg (Int32.not_lt.mpr c313)])
      · refine w_iload_8 (pc := 316) dL_tick_316 ?_
        refine w_ineg (pc := 318) dL_tick_318 ?_
        refine w_goto (pc := 319) (tgt := 324) dL_tick_319 (by decide) ?_
        exact J324 _ (by rw [hu, if_pos (Int32.not_le.mp c313)]; exact neg_div4 hvb (Int32.not_le.mp c313))
    refine w_iload_7 (pc := 294) dL_tick_294 ?_
    refine w_if_ge (pc := 296) (tgt := 305) dL_tick_296 (by decide) (fun c296 => ?_) (fun c296 => ?_)
    · refine w_iload_7 (pc := 305) dL_tick_305 ?_
      exact J307 _ (by rw [if_neg (Int32.not_lt.mpr c296)])
    · refine w_iload_7 (pc := 299) dL_tick_299 ?_
      refine w_ineg (pc := 301) dL_tick_301 ?_
      refine w_goto (pc := 302) (tgt := 307) dL_tick_302 (by decide) ?_
      exact J307 _ (by rw [if_pos (Int32.not_le.mp c296)])
  have J217 : ∀ (J : kI) (z5 e : Int32), runs2 s → ((nB (tk2 (tk1 s)) = 0 ∧ z5 < 0) ∨ ∃ b, nB (tk2 (tk1 s)) = b + 1 ∧ b < 8 ∧ z5 = nI (6 * b)) → e = sm (tk2 (tk1 s)) 65 4 → frL q I J → DRo J q (fallF (tk2 (tk1 s))) → wp g mL_tick ⟨2, 0, 0, 50⟩ (fun _ => True) (qEV σ (fun J => frL q I J ∧ DRo J q (tickS s))) (0, 0) σ J 217 [some (.ref q), some (.ref (q + 1)), some (.ref (q + 2)), some (.ref (q + 3)), some (.ref (q + 4)), some (.int z5), some (.int e), none, none] [] := by
    intro J z5 e hgo hl he hF hT
    have SF := SX_fallF S2
    have SH := SX_shift SF
    have D0 : DRo (va_up J (q + 1) (sh4 (J (q + 1)) 0)) q (shiftS (fallF (tk2 (tk1 s)))) := sh4_rel hT
    have hF3 : frL q I (va_up J (q + 1) (sh4 (J (q + 1)) 0)) := fun b hb => by rw [va_up_ne _ _ (by omega)]; exact hF b hb
    have s15 : va_up J (q + 1) (sh4 (J (q + 1)) 0) q 15 = shiftS (fallF (tk2 (tk1 s))) 15 := D0.1 15 (by omega)
    have s16 : va_up J (q + 1) (sh4 (J (q + 1)) 0) q 16 = shiftS (fallF (tk2 (tk1 s))) 16 := D0.1 16 (by omega)
    have s0 : shiftS (fallF (tk2 (tk1 s))) 0 = s 0 := by rw [shift_k1 (by omega), fallF_lo S2 (by omega) (by omega) (by omega) (by omega), tk2_k (by omega), tk1_k (by omega) (by omega)]
    have h15p : ¬ shiftS (fallF (tk2 (tk1 s))) 15 = 0 → 0 < shiftS (fallF (tk2 (tk1 s))) 15 := by
      rw [shift_k1 (by omega), fallF_lo S2 (by omega) (by omega) (by omega) (by omega), tk2_k (by omega), tk1_k (by omega) (by omega)]
      exact fun h => h15.resolve_left h
    have NF : NB (200 * (s 2).toInt) (shiftS (fallF (tk2 (tk1 s)))) := NB_fallF N2 S2 (by omega)
    refine w_bipush (pc := 217) (v := 47) dL_tick_217 (by decide) ?_
    refine w_istore_7 (pc := 219) dL_tick_219 rfl ?_
    have L3 : ∀ (m k : Nat) (z7 : Int32), k + 1 ≤ m → k ≤ 48 → z7 = nI k - 1 → wp g mL_tick ⟨2, 0, 0, 50⟩ (fun _ => True) (qEV σ (fun J => frL q I J ∧ DRo J q (tickS s))) (0, 0) σ (va_up J (q + 1) (sh4 (J (q + 1)) k)) 221 [some (.ref q), some (.ref (q + 1)), some (.ref (q + 2)), some (.ref (q + 3)), some (.ref (q + 4)), some (.int z5), some (.int e), some (.int z7), none] [] := by
      intro m
      induction m with
      | zero => intro k z7 h1; exact absurd h1 (by omega)
      | succ m ih =>
        intro k z7 h1 h2 hz
        refine w_iload_7 (pc := 221) dL_tick_221 ?_
        refine w_if_lt (pc := 223) (tgt := 252) dL_tick_223 (by decide) (fun c223 => ?_) (fun c223 => ?_)
        · have hk0 : k = 0 := by
            rcases Nat.eq_zero_or_pos k with h | h
            · exact h
            · rw [hz, show k = (k - 1) + 1 by omega, nI_pred] at c223; exact absurd c223 (nI_pos (by omega))
          subst hk0
          refine w_aload_0 (pc := 252) dL_tick_252 ?_
          refine w_bipush (pc := 253) (v := 16) dL_tick_253 (by decide) ?_
          refine w_iald (pc := 255) (j := 16) (sL_in0 hL) hL.2.1 rfl (by decide) (by decide) dL_tick_255 ?_
          refine w_if_eq (pc := 256) (tgt := 266) dL_tick_256 (by decide) (fun c256 => ?_) (fun c256 => ?_)
          · refine w_aload_0 (pc := 266) dL_tick_266 ?_
            refine w_aload_1 (pc := 267) dL_tick_267 ?_
            refine w_aload_2 (pc := 268) dL_tick_268 ?_
            refine w_callS_EV (pc := 269) (c_L_feed hL D0 SH NF (by omega) (by rw [s0]; exact z0.1) (by rw [s0]; exact z0.2)) ok_L_feed t374 t373 ⟨Nat.le_of_ble_eq_true rfl, Nat.le_of_ble_eq_true rfl⟩ ⟨rfl, rfl⟩ ⟨Nat.le_refl _, Nat.le_refl _⟩ rfl (Nat.le_of_ble_eq_true rfl) dL_tick_269 (fun I269 h269 => ?_)
            refine w_drop 7 ?_
            exact J272 _ _ _ hgo hl he (frL_t hF3 h269.1) (by rw [rowA, goesB, if_neg (fun h => h.2 (by rw [← s16]; exact c256))]; exact h269.2)
          · refine w_aload_0 (pc := 259) dL_tick_259 ?_
            refine w_bipush (pc := 260) (v := 15) dL_tick_260 (by decide) ?_
            refine w_iald (pc := 262) (j := 15) (sL_in0 hL) hL.2.1 rfl (by decide) (by decide) dL_tick_262 ?_
            refine w_if_ne (pc := 263) (tgt := 272) dL_tick_263 (by decide) (fun c263 => ?_) (fun c263 => ?_)
            · refine w_drop 7 ?_
              exact J272 _ _ _ hgo hl he hF3 (by rw [rowA, goesB, if_pos ⟨h15p (by rw [← s15]; exact c263), fun h => c256 (by rw [s16]; exact h)⟩]; exact D0)
            · refine w_aload_0 (pc := 266) dL_tick_266 ?_
              refine w_aload_1 (pc := 267) dL_tick_267 ?_
              refine w_aload_2 (pc := 268) dL_tick_268 ?_
              refine w_callS_EV (pc := 269) (c_L_feed hL D0 SH NF (by omega) (by rw [s0]; exact z0.1) (by rw [s0]; exact z0.2)) ok_L_feed t374 t373 ⟨Nat.le_of_ble_eq_true rfl, Nat.le_of_ble_eq_true rfl⟩ ⟨rfl, rfl⟩ ⟨Nat.le_refl _, Nat.le_refl _⟩ rfl (Nat.le_of_ble_eq_true rfl) dL_tick_269 (fun I269 h269 => ?_)
              refine w_drop 7 ?_
              exact J272 _ _ _ hgo hl he (frL_t hF3 h269.1) (by rw [rowA, goesB, if_neg (fun h => absurd h.1 (by rw [← s15, c263]; decide))]; exact h269.2)
        · obtain ⟨k, rfl⟩ := kd_pos hz c223
          rw [nI_pred] at hz
          refine w_aload_1 (pc := 226) dL_tick_226 ?_
          refine w_iload_7 (pc := 227) dL_tick_227 ?_
          have J245 : ∀ (u : Int32), u = (if k < 4 then 0 else J (q + 1) (k - 4)) → wp g mL_tick ⟨2, 0, 0, 50⟩ (fun _ => True) (qEV σ (fun J => frL q I J ∧ DRo J q (tickS s))) (0, 0) σ (va_up J (q + 1) (sh4 (J (q + 1)) (k + 1))) 245 [some (.ref q), some (.ref (q + 1)), some (.ref (q + 2)), some (.ref (q + 3)), some (.ref (q + 4)), some (.int z5), some (.int e), some (.int z7), none] [.int u, .int z7, .ref (q + 1)] := by
            intro u hu
            refine w_iast (pc := 245) (j := k) (sL_in hL (k := 1) (by decide)) hL.2.2.1 hz (by omega) (by decide) dL_tick_245 ?_
            refine w_iinc_7 (pc := 246) dL_tick_246 rfl rfl ?_
            refine w_goto (pc := 249) (tgt := 221) dL_tick_249 (by decide) ?_
            rw [sh4_step (by omega) hu]
            exact ih k _ (by omega) (by omega) (by rw [hz]; exact x_m1 _)
          refine w_iload_7 (pc := 229) dL_tick_229 ?_
          refine w_iconst (pc := 231) (v := 3) dL_tick_231 (by decide) ?_
          refine w_icmp_le (pc := 232) (tgt := 244) dL_tick_232 (by decide) (fun c232 => ?_) (fun c232 => ?_)
          · have hk4 : k < 4 := by
              have := (nx_cmp hz (by omega) (y := 3) (b := 3) rfl (by omega)).1.mp c232
              omega
            refine w_iconst (pc := 244) (v := 0) dL_tick_244 (by decide) ?_
            exact J245 _ (by rw [if_pos hk4])
          · have hk4 : 4 ≤ k := by
              have := nx_nle (b := 3) c232 hz (by omega) rfl (by omega)
              omega
            refine w_aload_1 (pc := 235) dL_tick_235 ?_
            refine w_iload_7 (pc := 236) dL_tick_236 ?_
            refine w_iconst (pc := 238) (v := 4) dL_tick_238 (by decide) ?_
            refine w_isub (pc := 239) dL_tick_239 ?_
            refine w_iald (pc := 240) (j := k - 4) (sL_in hL (k := 1) (by decide)) hL.2.2.1 (by rw [hz]; exact nI_m4 hk4) (by omega) (by decide) dL_tick_240 ?_
            refine w_goto (pc := 241) (tgt := 245) dL_tick_241 (by decide) ?_
            exact J245 _ (by rw [if_neg (by omega), va_up_self, sh4, if_neg (by omega)])
    have L3e := L3 49 48 47 (by omega) (by omega) (by decide)
    rw [sh4_48] at L3e
    exact L3e
  have J92 : ∀ (J : kI), runs2 s → frL q I J → DRo J q (tk2 (tk1 s)) → wp g mL_tick ⟨2, 0, 0, 50⟩ (fun _ => True) (qEV σ (fun J => frL q I J ∧ DRo J q (tickS s))) (0, 0) σ J 92 [some (.ref q), some (.ref (q + 1)), some (.ref (q + 2)), some (.ref (q + 3)), some (.ref (q + 4)), none, none, none, none] [] := by
    intro J hgo hF hT
    refine w_bipush (pc := 92) (v := 6) dL_tick_92 (by decide) ?_
    refine w_aload_0 (pc := 94) dL_tick_94 ?_
    refine w_bipush (pc := 95) (v := 12) dL_tick_95 (by decide) ?_
    refine w_iald (pc := 97) (j := 12) (sL_in0 hL) hL.2.1 rfl (by decide) (by decide) dL_tick_97 ?_
    refine w_imul (pc := 98) dL_tick_98 ?_
    refine w_bipush (pc := 99) (v := 6) dL_tick_99 (by decide) ?_
    refine w_isub (pc := 101) dL_tick_101 ?_
    rw [hT.1 12 (by omega)]
    refine w_name (fun z5 hz5 => ?_)
    have hl := last_P S2 hz5
    refine w_istore_5 (pc := 102) dL_tick_102 rfl ?_
    refine w_aload_1 (pc := 104) dL_tick_104 ?_
    refine w_bipush (pc := 105) (v := 11) dL_tick_105 (by decide) ?_
    refine w_bipush (pc := 107) (v := 11) dL_tick_107 (by decide) ?_
    refine w_callS_I (pc := 109) (c_L_mass (f := 11) (t := 11) (sL_in hL (k := 1) (by decide)) hL.2.2.1 rfl rfl (by omega) (by omega)) ok_L_mass t371 t370 ⟨Nat.le_of_ble_eq_true rfl, Nat.le_of_ble_eq_true rfl⟩ ⟨rfl, rfl⟩ ⟨Nat.le_refl _, Nat.le_refl _⟩ rfl (Nat.le_of_ble_eq_true rfl) dL_tick_109 ?_
    rw [ms_end hT]
    refine w_name (fun e he => ?_)
    refine w_istore_6 (pc := 112) dL_tick_112 rfl ?_
    refine w_aload_0 (pc := 114) dL_tick_114 ?_
    refine w_bipush (pc := 115) (v := 11) dL_tick_115 (by decide) ?_
    refine w_dup2 (pc := 117) dL_tick_117 ?_
    refine w_iald (pc := 118) (j := 11) (sL_in0 hL) hL.2.1 rfl (by decide) (by decide) dL_tick_118 ?_
    refine w_iload_6 (pc := 119) dL_tick_119 ?_
    refine w_iadd (pc := 121) dL_tick_121 ?_
    refine w_iast (pc := 122) (j := 11) (sL_in0 hL) hL.2.1 rfl (by decide) (by decide) dL_tick_122 ?_
    refine w_aload_0 (pc := 123) dL_tick_123 ?_
    refine w_bipush (pc := 124) (v := 10) dL_tick_124 (by decide) ?_
    refine w_dup2 (pc := 126) dL_tick_126 ?_
    refine w_iald (pc := 127) (j := 10) (sL_in0 hL) hL.2.1 rfl (by decide) (by decide) dL_tick_127 ?_
    have J139 : ∀ (w : Int32), w = (if nB (tk2 (tk1 s)) = 0 then e else 0) → wp g mL_tick ⟨2, 0, 0, 50⟩ (fun _ => True) (qEV σ (fun J => frL q I J ∧ DRo J q (tickS s))) (0, 0) σ (kst J q 11 (J q 11 + e)) 139 [some (.ref q), some (.ref (q + 1)), some (.ref (q + 2)), some (.ref (q + 3)), some (.ref (q + 4)), some (.int z5), some (.int e), none, none] [.int w, .int (kst J q 11 (J q 11 + e) q 10), .int 10, .ref q] := by
      intro w hw
      refine w_iadd (pc := 139) dL_tick_139 ?_
      refine w_iast (pc := 140) (j := 10) (sL_in0 hL) hL.2.1 rfl (by decide) (by decide) dL_tick_140 ?_
      refine w_iconst (pc := 141) (v := 0) dL_tick_141 (by decide) ?_
      refine w_istore_7 (pc := 142) dL_tick_142 rfl ?_
      have eK : kst J q 11 (J q 11 + e) q 10 = (tk2 (tk1 s)) 10 := by rw [kst_at, if_neg (by omega)]; exact hT.1 10 (by omega)
      rw [eK, hT.1 11 (by omega)]
      have L1 : ∀ (m i : Nat) (z7 : Int32) (J2 : kI), i ≤ 4 → 5 ≤ i + m → z7 = nI i → frL q I J2 → DRo J2 q (fallR (tk2 (tk1 s)) e w i) → (nB (tk2 (tk1 s)) = 0 → i = 0) → wp g mL_tick ⟨2, 0, 0, 50⟩ (fun _ => True) (qEV σ (fun J => frL q I J ∧ DRo J q (tickS s))) (0, 0) σ J2 144 [some (.ref q), some (.ref (q + 1)), some (.ref (q + 2)), some (.ref (q + 3)), some (.ref (q + 4)), some (.int z5), some (.int e), some (.int z7), none] [] := by
        intro m
        induction m with
        | zero => intro i z7 J2 h1 h2; exact absurd h2 (by omega)
        | succ m ih =>
          intro i z7 J2 h1 h2 hz hF2 hT2 h0i
          refine w_iload_7 (pc := 144) dL_tick_144 ?_
          refine w_iconst (pc := 146) (v := 4) dL_tick_146 (by decide) ?_
          refine w_icmp_ge (pc := 147) (tgt := 217) dL_tick_147 (by decide) (fun c147 => ?_) (fun c147 => ?_)
          · have hi : i = 4 := by
              have := (nx_cmp (x := 4) (a := 4) rfl (by omega) hz (by omega)).1.mp c147
              omega
            refine w_drop 7 ?_
            exact J217 _ _ _ hgo hl he hF2 (by rw [← fallR_end hl he hw h0i (Or.inl hi)]; exact hT2)
          · have hi : i < 4 := nx_nle c147 (rfl : (4 : Int32) = nI 4) (by omega) hz (by omega)
            refine w_iload_5 (pc := 150) dL_tick_150 ?_
            refine w_if_lt (pc := 152) (tgt := 217) dL_tick_152 (by decide) (fun c152 => ?_) (fun c152 => ?_)
            · refine w_drop 7 ?_
              exact J217 _ _ _ hgo hl he hF2 (by rw [← fallR_end hl he hw h0i (Or.inr c152)]; exact hT2)
            · obtain ⟨b, hB, hb, hz5⟩ := hl.resolve_left (fun h => absurd h.2 c152)
              obtain ⟨c, hc8, hc⟩ : ∃ c, c < 8 ∧ (tk2 (tk1 s)) (145 + i) = nI c := by
                obtain ⟨h1, h2⟩ := SX_bk S2 (κ := i) (by omega)
                exact ⟨_, Nat.lt_of_lt_of_le h1 (SX_A S2).2.1, h2⟩
              obtain ⟨X, hX⟩ : ∃ X, X = fallN (upd (upd (tk2 (tk1 s)) 11 ((tk2 (tk1 s)) 11 + e)) 10 ((tk2 (tk1 s)) 10 + w)) b i := ⟨_, rfl⟩
              have eR : fallR (tk2 (tk1 s)) e w i = upd X 17 ((tk2 (tk1 s)) 17 + sm (tk2 (tk1 s)) 65 i) := by rw [fallR, hX, show nB (tk2 (tk1 s)) - 1 = b by omega]
              have w1 : J2 (q + 3) (6 * b + i) = X (81 + (6 * b + i)) := by rw [hT2.2.2.2.1 _ (by omega), eR, upd_ne (by omega)]
              have x65 : X (65 + i) = (tk2 (tk1 s)) (65 + i) := by
                have q1 := fallR_k (s := (tk2 (tk1 s))) (e := e) (w := w) (k := 65 + i) hB hb (by omega : i ≤ 4) (Or.inl (by omega))
                rw [eR, upd_ne (by omega)] at q1; exact q1
              have w2 : J2 (q + 1) (44 + i) = X (65 + i) := by
                rw [hT2.2.1 _ (by omega), eR, upd_ne (by omega), show 21 + (44 + i) = 65 + i by omega]
              have w3 : J2 q 17 = (tk2 (tk1 s)) 17 + sm (tk2 (tk1 s)) 65 i := by rw [hT2.1 17 (by omega), eR, upd_s]
              have w4 : J2 (q + 4) (16 + i) = nI c := by
                rw [hT2.2.2.2.2 _ (by omega), eR, upd_ne (by omega), show 129 + (16 + i) = 145 + i by omega, hX, fallN_bk S2 hb (by omega) (by simp only [tkF]; omega) (by omega) (by omega), hc]
              have w5 : J2 (q + 4) (2 * c + 1) = X (129 + (2 * c + 1)) := by rw [hT2.2.2.2.2 _ (by omega), eR, upd_ne (by omega)]
              refine w_aload_3 (pc := 155) dL_tick_155 ?_
              refine w_iload_5 (pc := 156) dL_tick_156 ?_
              refine w_iload_7 (pc := 158) dL_tick_158 ?_
              refine w_iadd (pc := 160) dL_tick_160 ?_
              refine w_dup2 (pc := 161) dL_tick_161 ?_
              refine w_iald (pc := 162) (j := 6 * b + i) (sL_in hL (k := 3) (by decide)) hL.2.2.2.2.1 (by rw [hz5, hz, nI_add]) (by omega) (by decide) dL_tick_162 ?_
              refine w_aload_1 (pc := 163) dL_tick_163 ?_
              refine w_bipush (pc := 164) (v := 44) dL_tick_164 (by decide) ?_
              refine w_iload_7 (pc := 166) dL_tick_166 ?_
              refine w_iadd (pc := 168) dL_tick_168 ?_
              refine w_iald (pc := 169) (j := 44 + i) (sL_in hL (k := 1) (by decide)) hL.2.2.1 (by rw [hz]; exact nI_add 44 i) (by omega) (by decide) dL_tick_169 ?_
              refine w_iadd (pc := 170) dL_tick_170 ?_
              rw [w1, w2]
              refine w_iast (pc := 171) (j := 6 * b + i) (sL_in hL (k := 3) (by decide)) hL.2.2.2.2.1 (by rw [hz5, hz, nI_add]) (by omega) (by decide) dL_tick_171 ?_
              refine w_aload_0 (pc := 172) dL_tick_172 ?_
              refine w_bipush (pc := 173) (v := 17) dL_tick_173 (by decide) ?_
              refine w_dup2 (pc := 175) dL_tick_175 ?_
              refine w_iald (pc := 176) (j := 17) (sL_in0 hL) hL.2.1 rfl (by decide) (by decide) dL_tick_176 ?_
              refine w_aload_1 (pc := 177) dL_tick_177 ?_
              refine w_bipush (pc := 178) (v := 44) dL_tick_178 (by decide) ?_
              refine w_iload_7 (pc := 180) dL_tick_180 ?_
              refine w_iadd (pc := 182) dL_tick_182 ?_
              refine w_iald (pc := 183) (j := 44 + i) (sL_in hL (k := 1) (by decide)) hL.2.2.1 (by rw [hz]; exact nI_add 44 i) (by omega) (by decide) dL_tick_183 ?_
              refine w_iadd (pc := 184) dL_tick_184 ?_
              rw [kst_n (by omega), kst_n (by omega), w3, w2]
              refine w_iast (pc := 185) (j := 17) (sL_in0 hL) hL.2.1 rfl (by decide) (by decide) dL_tick_185 ?_
              refine w_aload_4 (pc := 186) dL_tick_186 ?_
              refine w_iconst (pc := 188) (v := 2) dL_tick_188 (by decide) ?_
              refine w_aload_4 (pc := 189) dL_tick_189 ?_
              refine w_bipush (pc := 191) (v := 16) dL_tick_191 (by decide) ?_
              refine w_iload_7 (pc := 193) dL_tick_193 ?_
              refine w_iadd (pc := 195) dL_tick_195 ?_
              refine w_iald (pc := 196) (j := 16 + i) (sL_in hL (k := 4) (by decide)) hL.2.2.2.2.2 (by rw [hz]; exact nI_add 16 i) (by omega) (by decide) dL_tick_196 ?_
              rw [kst_n (by omega), kst_n (by omega), w4]
              refine w_imul (pc := 197) dL_tick_197 ?_
              refine w_iconst (pc := 198) (v := 1) dL_tick_198 (by decide) ?_
              refine w_iadd (pc := 199) dL_tick_199 ?_
              refine w_dup2 (pc := 200) dL_tick_200 ?_
              refine w_iald (pc := 201) (j := 2 * c + 1) (sL_in hL (k := 4) (by decide)) hL.2.2.2.2.2 (by rw [show (2 : Int32) = nI 2 from rfl, pk_mul]; exact nI_add (2 * c) 1) (by omega) (by decide) dL_tick_201 ?_
              refine w_aload_1 (pc := 202) dL_tick_202 ?_
              refine w_bipush (pc := 203) (v := 44) dL_tick_203 (by decide) ?_
              refine w_iload_7 (pc := 205) dL_tick_205 ?_
              refine w_iadd (pc := 207) dL_tick_207 ?_
              refine w_iald (pc := 208) (j := 44 + i) (sL_in hL (k := 1) (by decide)) hL.2.2.1 (by rw [hz]; exact nI_add 44 i) (by omega) (by decide) dL_tick_208 ?_
              refine w_iadd (pc := 209) dL_tick_209 ?_
              rw [kst_n (by omega), kst_n (by omega), kst_n (by omega), kst_n (by omega), w5, w2]
              refine w_iast (pc := 210) (j := 2 * c + 1) (sL_in hL (k := 4) (by decide)) hL.2.2.2.2.2 (by rw [show (2 : Int32) = nI 2 from rfl, pk_mul]; exact nI_add (2 * c) 1) (by omega) (by decide) dL_tick_210 ?_
              refine w_iinc_7 (pc := 211) dL_tick_211 rfl rfl ?_
              refine w_goto (pc := 214) (tgt := 144) dL_tick_214 (by decide) ?_
              refine ih (i + 1) _ _ (by omega) (by omega) (by rw [hz]; exact nI_1 i) (frL_k (frL_k (frL_k hF2 (by omega)) (by omega)) (by omega)) ?_ (fun h => absurd h (by omega))
              rw [← fallR_succ S2 hB hb hi hc hc8 X hX, ← x65]
              have n6 : nLo (fallR (tk2 (tk1 s)) e w i) ≤ 6 := by
                rw [nLo, fallR_k hB hb (by omega) (Or.inl (by omega))]; exact (SX_L S2).1
              exact DR_a (DR_g (DR_n hT2 n6 (by omega)) (by omega) (by omega)) (by rw [nLo_u (by omega), nLo_u (by omega)]; exact n6) (by omega)
      exact L1 5 0 _ _ (by omega) (by omega) rfl (frL_k (frL_k hF (by omega)) (by omega)) (by rw [fallR_0]; exact DR_g (DR_g hT (by omega) (by omega)) (by omega) (by omega)) (fun _ => rfl)
    refine w_iload_5 (pc := 128) dL_tick_128 ?_
    refine w_if_ge (pc := 130) (tgt := 138) dL_tick_130 (by decide) (fun c130 => ?_) (fun c130 => ?_)
    · have hB : nB (tk2 (tk1 s)) ≠ 0 := fun h => by
        obtain ⟨-, h2⟩ | ⟨b, h1, -, -⟩ := hl
        · exact absurd c130 (Int32.not_le.mpr h2)
        · omega
      refine w_iconst (pc := 138) (v := 0) dL_tick_138 (by decide) ?_
      exact J139 _ (by rw [if_neg hB])
    · have hB : nB (tk2 (tk1 s)) = 0 := by
        obtain ⟨h1, -⟩ | ⟨b, -, h2, h3⟩ := hl
        · exact h1
        · exact absurd (show 0 ≤ z5 by rw [h3]; exact nI_pos2 (by omega)) c130
      refine w_iload_6 (pc := 133) dL_tick_133 ?_
      refine w_goto (pc := 135) (tgt := 139) dL_tick_135 (by decide) ?_
      exact J139 _ (by rw [if_pos hB])
  have J70 : ∀ (J : kI), frL q I J → DRo J q (tk2 (tk1 s)) → wp g mL_tick ⟨2, 0, 0, 50⟩ (fun _ => True) (qEV σ (fun J => frL q I J ∧ DRo J q (tickS s))) (0, 0) σ J 70 [some (.ref q), some (.ref (q + 1)), some (.ref (q + 2)), some (.ref (q + 3)), some (.ref (q + 4)), none, none, none, none] [] := by
    intro J hF hT
    have g15 : ¬ J q 15 = 0 → 0 < (tk2 (tk1 s)) 15 := by
      rw [hT.1 15 (by omega), tk2_k (by omega), tk1_k (by omega) (by omega)]
      exact fun h => h15.resolve_left h
    have g1 : ¬ J q 1 = 0 → (tk2 (tk1 s)) 1 = 1 := by
      rw [hT.1 1 (by omega), tk2_k (by omega), tk1_k (by omega) (by omega)]
      exact fun h => hK.2.1.1.resolve_left h
    refine w_aload_0 (pc := 70) dL_tick_70 ?_
    refine w_bipush (pc := 71) (v := 15) dL_tick_71 (by decide) ?_
    refine w_iald (pc := 73) (j := 15) (sL_in0 hL) hL.2.1 rfl (by decide) (by decide) dL_tick_73 ?_
    refine w_if_ne (pc := 74) (tgt := 92) dL_tick_74 (by decide) (fun c74 => ?_) (fun c74 => ?_)
    · exact J92 _ (Or.inl (g15 c74)) hF hT
    · refine w_aload_0 (pc := 77) dL_tick_77 ?_
      refine w_iconst (pc := 78) (v := 1) dL_tick_78 (by decide) ?_
      refine w_iald (pc := 79) (j := 1) (sL_in0 hL) hL.2.1 rfl (by decide) (by decide) dL_tick_79 ?_
      refine w_if_ne (pc := 80) (tgt := 92) dL_tick_80 (by decide) (fun c80 => ?_) (fun c80 => ?_)
      · exact J92 _ (Or.inr (g1 c80)) hF hT
      · refine w_aload_0 (pc := 83) dL_tick_83 ?_
        refine w_bipush (pc := 84) (v := 8) dL_tick_84 (by decide) ?_
        refine w_dup2 (pc := 86) dL_tick_86 ?_
        refine w_iald (pc := 87) (j := 8) (sL_in0 hL) hL.2.1 rfl (by decide) (by decide) dL_tick_87 ?_
        refine w_iconst (pc := 88) (v := 1) dL_tick_88 (by decide) ?_
        refine w_iadd (pc := 89) dL_tick_89 ?_
        refine w_iast (pc := 90) (j := 8) (sL_in0 hL) hL.2.1 rfl (by decide) (by decide) dL_tick_90 ?_
        refine w_vret (pc := 91) rfl ⟨Nat.le_refl _, Nat.le_refl _⟩ dL_tick_91 ?_
        have hn : ¬ runs2 s := fun h => h.elim (fun h => absurd h (by rw [← hT.1 15 (by omega), c74]; decide)) (fun h => by rw [← hT.1 1 (by omega), c80] at h; exact absurd h (by decide))
        refine ⟨rfl, rfl, frL_k hF (by omega), ?_⟩
        rw [tick_still hn, hT.1 8 (by omega)]
        exact DR_g hT (by omega) (by omega)
  have J32 : ∀ (J : kI), frL q I J → DRo J q (tk1 s) → wp g mL_tick ⟨2, 0, 0, 50⟩ (fun _ => True) (qEV σ (fun J => frL q I J ∧ DRo J q (tickS s))) (0, 0) σ J 32 [some (.ref q), some (.ref (q + 1)), some (.ref (q + 2)), some (.ref (q + 3)), some (.ref (q + 4)), none, none, none, none] [] := by
    intro J hF hT
    have e15 := hT.1 15 (by omega)
    have e17 := hT.1 17 (by omega)
    have e13 := hT.1 13 (by omega)
    refine w_aload_0 (pc := 32) dL_tick_32 ?_
    refine w_bipush (pc := 33) (v := 15) dL_tick_33 (by decide) ?_
    refine w_iald (pc := 35) (j := 15) (sL_in0 hL) hL.2.1 rfl (by decide) (by decide) dL_tick_35 ?_
    refine w_if_le (pc := 36) (tgt := 70) dL_tick_36 (by decide) (fun c36 => ?_) (fun c36 => ?_)
    · exact J70 _ hF (by rw [tk2, if_neg (fun h => Int32.not_lt.mpr c36 (by rw [e15]; exact h.1))]; exact hT)
    · refine w_aload_1 (pc := 39) dL_tick_39 ?_
      refine w_iconst (pc := 40) (v := 0) dL_tick_40 (by decide) ?_
      refine w_bipush (pc := 41) (v := 11) dL_tick_41 (by decide) ?_
      refine w_callS_I (pc := 43) (c_L_mass (f := 0) (t := 11) (sL_in hL (k := 1) (by decide)) hL.2.2.1 rfl rfl (by omega) (by omega)) ok_L_mass t371 t370 ⟨Nat.le_of_ble_eq_true rfl, Nat.le_of_ble_eq_true rfl⟩ ⟨rfl, rfl⟩ ⟨Nat.le_refl _, Nat.le_refl _⟩ rfl (Nat.le_of_ble_eq_true rfl) dL_tick_43 ?_
      rw [ms_all hT]
      refine w_aload_0 (pc := 46) dL_tick_46 ?_
      refine w_bipush (pc := 47) (v := 17) dL_tick_47 (by decide) ?_
      refine w_iald (pc := 49) (j := 17) (sL_in0 hL) hL.2.1 rfl (by decide) (by decide) dL_tick_49 ?_
      refine w_iadd (pc := 50) dL_tick_50 ?_
      refine w_aload_0 (pc := 51) dL_tick_51 ?_
      refine w_bipush (pc := 52) (v := 15) dL_tick_52 (by decide) ?_
      refine w_iald (pc := 54) (j := 15) (sL_in0 hL) hL.2.1 rfl (by decide) (by decide) dL_tick_54 ?_
      refine w_icmp_ge (pc := 55) (tgt := 65) dL_tick_55 (by decide) (fun c55 => ?_) (fun c55 => ?_)
      · refine w_aload_0 (pc := 65) dL_tick_65 ?_
        refine w_bipush (pc := 66) (v := 16) dL_tick_66 (by decide) ?_
        refine w_iconst (pc := 68) (v := 1) dL_tick_68 (by decide) ?_
        refine w_iast (pc := 69) (j := 16) (sL_in0 hL) hL.2.1 rfl (by decide) (by decide) dL_tick_69 ?_
        exact J70 _ (frL_k hF (by omega)) (by rw [tk2, if_pos ⟨by rw [← e15]; exact Int32.not_le.mp c36, Or.inl (by rw [← e15, ← e17]; exact c55)⟩]; exact DR_g hT (by omega) (by omega))
      · refine w_aload_0 (pc := 58) dL_tick_58 ?_
        refine w_bipush (pc := 59) (v := 13) dL_tick_59 (by decide) ?_
        refine w_iald (pc := 61) (j := 13) (sL_in0 hL) hL.2.1 rfl (by decide) (by decide) dL_tick_61 ?_
        refine w_if_gt (pc := 62) (tgt := 70) dL_tick_62 (by decide) (fun c62 => ?_) (fun c62 => ?_)
        · exact J70 _ hF (by rw [tk2, if_neg (fun h => h.2.elim (fun h2 => c55 (by rw [e15, e17]; exact h2)) (fun h2 => absurd c62 (by rw [e13, h2]; decide)))]; exact hT)
        · refine w_aload_0 (pc := 65) dL_tick_65 ?_
          refine w_bipush (pc := 66) (v := 16) dL_tick_66 (by decide) ?_
          refine w_iconst (pc := 68) (v := 1) dL_tick_68 (by decide) ?_
          refine w_iast (pc := 69) (j := 16) (sL_in0 hL) hL.2.1 rfl (by decide) (by decide) dL_tick_69 ?_
          have z13 : tk1 s 13 = 0 := by
            obtain ⟨l1, l2, l3⟩ := SX_L S1
            rw [e13, l2] at c62
            rcases Nat.eq_zero_or_pos (nLo (tk1 s)) with h | h
            · exact l2.trans (congrArg nI h)
            · exact absurd (Int32.not_le.mp (nI_pos3 h (by omega))) c62
          exact J70 _ (frL_k hF (by omega)) (by rw [tk2, if_pos ⟨by rw [← e15]; exact Int32.not_le.mp c36, Or.inr z13⟩]; exact DR_g hT (by omega) (by omega))
  refine w_aload_0 (pc := 0) dL_tick_0 ?_
  refine w_iconst (pc := 1) (v := 2) dL_tick_1 (by decide) ?_
  refine w_dup2 (pc := 2) dL_tick_2 ?_
  refine w_iald (pc := 3) (j := 2) (sL_in0 hL) hL.2.1 rfl (by decide) (by decide) dL_tick_3 ?_
  refine w_iconst (pc := 4) (v := 1) dL_tick_4 (by decide) ?_
  refine w_iadd (pc := 5) dL_tick_5 ?_
  refine w_iast (pc := 6) (j := 2) (sL_in0 hL) hL.2.1 rfl (by decide) (by decide) dL_tick_6 ?_
  refine w_aload_0 (pc := 7) dL_tick_7 ?_
  refine w_iconst (pc := 8) (v := 3) dL_tick_8 (by decide) ?_
  refine w_dup2 (pc := 9) dL_tick_9 ?_
  refine w_iald (pc := 10) (j := 3) (sL_in0 hL) hL.2.1 rfl (by decide) (by decide) dL_tick_10 ?_
  have J30 : ∀ (u : Int32), u = (if s 2 + 1 - (s 2 + 1) / s 19 * s 19 = 0 then s 20 else 0) → wp g mL_tick ⟨2, 0, 0, 50⟩ (fun _ => True) (qEV σ (fun J => frL q I J ∧ DRo J q (tickS s))) (0, 0) σ (kst I q 2 (I q 2 + 1)) 30 [some (.ref q), some (.ref (q + 1)), some (.ref (q + 2)), some (.ref (q + 3)), some (.ref (q + 4)), none, none, none, none] [.int u, .int (kst I q 2 (I q 2 + 1) q 3), .int 3, .ref q] := by
    intro u hu
    refine w_iadd (pc := 30) dL_tick_30 ?_
    refine w_iast (pc := 31) (j := 3) (sL_in0 hL) hL.2.1 rfl (by decide) (by decide) dL_tick_31 ?_
    exact J32 _ (frL_k (frL_k frL_r (by omega)) (by omega)) (tk1_rel hD (by rw [hD.1 2 (by omega)]) (by rw [kst_at, if_neg (by omega), hD.1 3 (by omega), hu]))
  refine w_aload_0 (pc := 11) dL_tick_11 ?_
  refine w_iconst (pc := 12) (v := 2) dL_tick_12 (by decide) ?_
  refine w_iald (pc := 13) (j := 2) (sL_in0 hL) hL.2.1 rfl (by decide) (by decide) dL_tick_13 ?_
  refine w_aload_0 (pc := 14) dL_tick_14 ?_
  refine w_bipush (pc := 15) (v := 19) dL_tick_15 (by decide) ?_
  refine w_iald (pc := 17) (j := 19) (sL_in0 hL) hL.2.1 rfl (by decide) (by decide) dL_tick_17 ?_
  refine w_irem (pc := 18) dL_tick_18 (fun h => by rw [kst_at, if_neg (by omega), hD.1 19 (by omega)] at h; have := hK.1.2.2.2; rw [h] at this; exact absurd this (by decide)) ?_
  refine w_if_ne (pc := 19) (tgt := 29) dL_tick_19 (by decide) (fun c19 => ?_) (fun c19 => ?_)
  · have cc : ¬ s 2 + 1 - (s 2 + 1) / s 19 * s 19 = 0 := by
      have e2 : I q 2 + 1 = s 2 + 1 := by rw [hD.1 2 (by omega)]
      rw [kst_at, if_pos rfl, kst_at, if_neg (by omega), hD.1 19 (by omega), e2] at c19; exact c19
    refine w_iconst (pc := 29) (v := 0) dL_tick_29 (by decide) ?_
    exact J30 _ (by rw [if_neg cc])
  · have cc : s 2 + 1 - (s 2 + 1) / s 19 * s 19 = 0 := by
      have e2 : I q 2 + 1 = s 2 + 1 := by rw [hD.1 2 (by omega)]
      rw [kst_at, if_pos rfl, kst_at, if_neg (by omega), hD.1 19 (by omega), e2] at c19; exact c19
    refine w_aload_0 (pc := 22) dL_tick_22 ?_
    refine w_bipush (pc := 23) (v := 20) dL_tick_23 (by decide) ?_
    refine w_iald (pc := 25) (j := 20) (sL_in0 hL) hL.2.1 rfl (by decide) (by decide) dL_tick_25 ?_
    refine w_goto (pc := 26) (tgt := 30) dL_tick_26 (by decide) ?_
    exact J30 _ (by rw [if_pos cc, kst_at, if_neg (by omega)]; exact hD.1 20 (by omega))
