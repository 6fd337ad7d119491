set_option maxHeartbeats 4000000 in
set_option maxRecDepth 100000 in
theorem c_L_isSo {g : kG} {σ : kS} {I : kI} {r q : Nat} {T : Int} (h : LSd g σ r q I T) (hTT : T ≤ 4000)  : ct g mL_isSo ⟨3, 0, 0, 72⟩ [.ref r, .ref q, .ref (q + 1), .ref (q + 2), .ref (q + 3), .ref (q + 4)] σ I (qI 1 σ I) := by
  refine ct_of pnL rfl (Nat.le_of_ble_eq_true rfl) ok_L_isSo.1 trivial ?_
  show wp _ _ _ _ _ _ _ _ 0 [some (.ref r), some (.ref q), some (.ref (q + 1)), some (.ref (q + 2)), some (.ref (q + 3)), some (.ref (q + 4)), none, none, none, none, none, none] []
  have h0 := h
  obtain ⟨x, c, f, hW, hC, hI, hL, hD, hTm⟩ := h
  have hS := hI.1.1
  obtain ⟨b1, b2⟩ := SX_B hS
  have e12 : I q 12 = nI (nB c.1) := (hD.1 12 (by omega)).trans b2
  obtain ⟨a1, a2, a3, -⟩ := SX_A hS
  obtain ⟨l1, l2, l3⟩ := SX_L hS
  have e13 : I q 13 = nI (nLo c.1) := (hD.1 13 (by omega)).trans l2
  have e14 : I q 14 = nI (nAc c.1) := (hD.1 14 (by omega)).trans a3
  have cv := hI.2.1
  have ht4 : (c.1 2).toInt ≤ 4000 := by omega
  have p15 : ¬ c.1 15 = 0 → 0 < c.1 15 := fun h => hI.2.2.2.resolve_left h
  refine w_aload_0 (pc := 0) dL_isSo_0 ?_
  refine w_aload_1 (pc := 1) dL_isSo_1 ?_
  refine w_aload_4 (pc := 2) dL_isSo_2 ?_
  refine w_callS_I (pc := 4) (c_L_areBins h0 hTT) ok_L_areBins t618 t617 ⟨Nat.le_of_ble_eq_true rfl, Nat.le_of_ble_eq_true rfl⟩ ⟨rfl, rfl⟩ ⟨Nat.le_refl _, Nat.le_refl _⟩ rfl (Nat.le_of_ble_eq_true rfl) dL_isSo_4 ?_
  refine w_istore_6 (pc := 7) dL_isSo_7 rfl ?_
  refine w_iconst (pc := 9) (v := 0) dL_isSo_9 (by decide) ?_
  refine w_istore_7 (pc := 10) dL_isSo_10 rfl ?_
  refine w_iconst (pc := 12) (v := 0) dL_isSo_12 (by decide) ?_
  refine w_istore_8 (pc := 13) dL_isSo_13 rfl ?_
  refine w_iconst (pc := 15) (v := 0) dL_isSo_15 (by decide) ?_
  refine w_istore_9 (pc := 16) dL_isSo_16 rfl ?_
  refine w_iconst (pc := 18) (v := 0) dL_isSo_18 (by decide) ?_
  refine w_istore_10 (pc := 19) dL_isSo_19 rfl ?_
  have LA : ∀ (n i : Nat) (b z : Int32), i ≤ 48 → 48 + 1 ≤ i + n → z = nI i → b = smF c.1 i → wp g mL_isSo ⟨3, 0, 0, 72⟩ (fun _ => True) (qI 1 σ I) (0, 0) σ I 21 [some (.ref r), some (.ref q), some (.ref (q + 1)), some (.ref (q + 2)), some (.ref (q + 3)), some (.ref (q + 4)), some (.int 1), some (.int 0), some (.int b), some (.int 0), some (.int z), none] [] := by
    intro n
    induction n with
    | zero => intro i b z h1 h2; exact absurd h2 (by omega)
    | succ n ih =>
      intro i b z h1 h2 hz hb
      refine w_iload_10 (pc := 21) dL_isSo_21 ?_
      refine w_bipush (pc := 23) (v := 48) dL_isSo_23 (by decide) ?_
      refine w_icmp_ge (pc := 25) (tgt := 124) dL_isSo_25 (by decide) (fun c25 => ?_) (fun c25 => ?_)
      · have hi : i = 48 := by
          have := (nx_cmp (x := 48) (a := 48) rfl (by omega) hz (by omega)).1.mp c25
          omega
        subst hi
        rw [smF_48 hS] at hb
        refine w_iconst (pc := 124) (v := 0) dL_isSo_124 (by decide) ?_
        refine w_istore_10 (pc := 125) dL_isSo_125 rfl ?_
        have LB : ∀ (n i : Nat) (h z : Int32), i ≤ 12 → 12 + 1 ≤ i + n → z = nI i → h = smH c.1 i → wp g mL_isSo ⟨3, 0, 0, 72⟩ (fun _ => True) (qI 1 σ I) (0, 0) σ I 127 [some (.ref r), some (.ref q), some (.ref (q + 1)), some (.ref (q + 2)), some (.ref (q + 3)), some (.ref (q + 4)), some (.int 1), some (.int h), some (.int b), some (.int 0), some (.int z), none] [] := by
          intro n
          induction n with
          | zero => intro i h z h1 h2; exact absurd h2 (by omega)
          | succ n ih =>
            intro i h z h1 h2 hz hh
            refine w_iload_10 (pc := 127) dL_isSo_127 ?_
            refine w_bipush (pc := 129) (v := 12) dL_isSo_129 (by decide) ?_
            refine w_icmp_ge (pc := 131) (tgt := 219) dL_isSo_131 (by decide) (fun c131 => ?_) (fun c131 => ?_)
            · have hi : i = 12 := by
                have := (nx_cmp (x := 12) (a := 12) rfl (by omega) hz (by omega)).1.mp c131
                omega
              subst hi
              rw [smH_12 hS] at hh
              refine w_iconst (pc := 219) (v := 0) dL_isSo_219 (by decide) ?_
              refine w_istore_10 (pc := 220) dL_isSo_220 rfl ?_
              have LC : ∀ (n i : Nat) (k z : Int32), i ≤ nAc c.1 → nAc c.1 + 1 ≤ i + n → z = nI i → k = smO c.1 i → wp g mL_isSo ⟨3, 0, 0, 72⟩ (fun _ => True) (qI 1 σ I) (0, 0) σ I 222 [some (.ref r), some (.ref q), some (.ref (q + 1)), some (.ref (q + 2)), some (.ref (q + 3)), some (.ref (q + 4)), some (.int 1), some (.int h), some (.int b), some (.int k), some (.int z), none] [] := by
                intro n
                induction n with
                | zero => intro i k z h1 h2; exact absurd h2 (by omega)
                | succ n ih =>
                  intro i k z h1 h2 hz hbk
                  refine w_iload_10 (pc := 222) dL_isSo_222 ?_
                  refine w_aload_1 (pc := 224) dL_isSo_224 ?_
                  refine w_bipush (pc := 225) (v := 14) dL_isSo_225 (by decide) ?_
                  refine w_iald (pc := 227) (j := 14) (sL_in0 hL) hL.2.1 rfl (by decide) (by decide) dL_isSo_227 ?_
                  refine w_icmp_ge (pc := 228) (tgt := 311) dL_isSo_228 (by decide) (fun c228 => ?_) (fun c228 => ?_)
                  · have hi : i = nAc c.1 := by
                      have := (nx_cmp e14 (by omega) hz (by omega)).1.mp c228
                      omega
                    subst hi
                    refine w_iconst (pc := 311) (v := 0) dL_isSo_311 (by decide) ?_
                    refine w_istore_10 (pc := 312) dL_isSo_312 rfl ?_
                    have LD : ∀ (n i : Nat) (z : Int32), i ≤ 3 → 3 + 1 ≤ i + n → z = nI i → wp g mL_isSo ⟨3, 0, 0, 72⟩ (fun _ => True) (qI 1 σ I) (0, 0) σ I 314 [some (.ref r), some (.ref q), some (.ref (q + 1)), some (.ref (q + 2)), some (.ref (q + 3)), some (.ref (q + 4)), some (.int 1), some (.int h), some (.int b), some (.int k), some (.int z), none] [] := by
                      intro n
                      induction n with
                      | zero => intro i z h1 h2; exact absurd h2 (by omega)
                      | succ n ih =>
                        intro i z h1 h2 hz
                        refine w_iload_10 (pc := 314) dL_isSo_314 ?_
                        refine w_iconst (pc := 316) (v := 3) dL_isSo_316 (by decide) ?_
                        refine w_icmp_ge (pc := 317) (tgt := 370) dL_isSo_317 (by decide) (fun c317 => ?_) (fun c317 => ?_)
                        · have hi : i = 3 := by
                            have := (nx_cmp (x := 3) (a := 3) rfl (by omega) hz (by omega)).1.mp c317
                            omega
                          subst hi
                          refine w_iconst (pc := 370) (v := 0) dL_isSo_370 (by decide) ?_
                          refine w_istore_10 (pc := 371) dL_isSo_371 rfl ?_
                          have LE : ∀ (n i : Nat) (z : Int32), i ≤ 4 → 4 + 1 ≤ i + n → z = nI i → wp g mL_isSo ⟨3, 0, 0, 72⟩ (fun _ => True) (qI 1 σ I) (0, 0) σ I 373 [some (.ref r), some (.ref q), some (.ref (q + 1)), some (.ref (q + 2)), some (.ref (q + 3)), some (.ref (q + 4)), some (.int 1), some (.int h), some (.int b), some (.int k), some (.int z), none] [] := by
                            intro n
                            induction n with
                            | zero => intro i z h1 h2; exact absurd h2 (by omega)
                            | succ n ih =>
                              intro i z h1 h2 hz
                              refine w_iload_10 (pc := 373) dL_isSo_373 ?_
                              refine w_iconst (pc := 375) (v := 4) dL_isSo_375 (by decide) ?_
                              refine w_icmp_ge (pc := 376) (tgt := 417) dL_isSo_376 (by decide) (fun c376 => ?_) (fun c376 => ?_)
                              · have hi : i = 4 := by
                                  have := (nx_cmp (x := 4) (a := 4) rfl (by omega) hz (by omega)).1.mp c376
                                  omega
                                subst hi
                                refine w_iload_6 (pc := 417) dL_isSo_417 ?_
                                refine w_if_eq (pc := 419) (tgt := 636) dL_isSo_419 (by decide) (fun c9 => absurd c9 (by decide)) (fun _ => ?_)
                                refine w_aload_0 (pc := 422) dL_isSo_422 ?_
                                refine w_iconst (pc := 423) (v := 0) dL_isSo_423 (by decide) ?_
                                refine w_callV_I (pc := 424) (c_BS_count hW hC) ok_X10_count t334 t335 kc10 (sBS_in hW.1) hW.1.2.1 t333 ⟨Nat.le_of_ble_eq_true rfl, Nat.le_of_ble_eq_true rfl⟩ ⟨rfl, rfl⟩ ⟨Nat.le_refl _, Nat.le_refl _⟩ rfl (Nat.le_of_ble_eq_true rfl) dL_isSo_424 ?_
                                rw [qc_0]
                                refine w_aload_1 (pc := 427) dL_isSo_427 ?_
                                refine w_bipush (pc := 428) (v := 13) dL_isSo_428 (by decide) ?_
                                refine w_iald (pc := 430) (j := 13) (sL_in0 hL) hL.2.1 rfl (by decide) (by decide) dL_isSo_430 ?_
                                refine w_icmp_ne (pc := 431) (tgt := 636) dL_isSo_431 (by decide) (fun c431 => ?_) (fun c431 => ?_)
                                · exact (c431 (hD.1 13 (by omega)).symm).elim
                                · refine w_aload_0 (pc := 434) dL_isSo_434 ?_
                                  refine w_iconst (pc := 435) (v := 1) dL_isSo_435 (by decide) ?_
                                  refine w_callV_I (pc := 436) (c_BS_count hW hC) ok_X10_count t334 t335 kc10 (sBS_in hW.1) hW.1.2.1 t333 ⟨Nat.le_of_ble_eq_true rfl, Nat.le_of_ble_eq_true rfl⟩ ⟨rfl, rfl⟩ ⟨Nat.le_refl _, Nat.le_refl _⟩ rfl (Nat.le_of_ble_eq_true rfl) dL_isSo_436 ?_
                                  rw [qc_1]
                                  refine w_aload_1 (pc := 439) dL_isSo_439 ?_
                                  refine w_iconst (pc := 440) (v := 0) dL_isSo_440 (by decide) ?_
                                  refine w_iald (pc := 441) (j := 0) (sL_in0 hL) hL.2.1 rfl (by decide) (by decide) dL_isSo_441 ?_
                                  refine w_icmp_ne (pc := 442) (tgt := 636) dL_isSo_442 (by decide) (fun c442 => ?_) (fun c442 => ?_)
                                  · exact (c442 (hD.1 0 (by omega)).symm).elim
                                  · refine w_aload_0 (pc := 445) dL_isSo_445 ?_
                                    refine w_iconst (pc := 446) (v := 2) dL_isSo_446 (by decide) ?_
                                    refine w_callV_I (pc := 447) (c_BS_count hW hC) ok_X10_count t334 t335 kc10 (sBS_in hW.1) hW.1.2.1 t333 ⟨Nat.le_of_ble_eq_true rfl, Nat.le_of_ble_eq_true rfl⟩ ⟨rfl, rfl⟩ ⟨Nat.le_refl _, Nat.le_refl _⟩ rfl (Nat.le_of_ble_eq_true rfl) dL_isSo_447 ?_
                                    rw [qc_2]
                                    refine w_aload_1 (pc := 450) dL_isSo_450 ?_
                                    refine w_iconst (pc := 451) (v := 1) dL_isSo_451 (by decide) ?_
                                    refine w_iald (pc := 452) (j := 1) (sL_in0 hL) hL.2.1 rfl (by decide) (by decide) dL_isSo_452 ?_
                                    refine w_icmp_ne (pc := 453) (tgt := 636) dL_isSo_453 (by decide) (fun c453 => ?_) (fun c453 => ?_)
                                    · exact (c453 (hD.1 1 (by omega)).symm).elim
                                    · refine w_aload_0 (pc := 456) dL_isSo_456 ?_
                                      refine w_iconst (pc := 457) (v := 3) dL_isSo_457 (by decide) ?_
                                      refine w_callV_I (pc := 458) (c_BS_count hW hC) ok_X10_count t334 t335 kc10 (sBS_in hW.1) hW.1.2.1 t333 ⟨Nat.le_of_ble_eq_true rfl, Nat.le_of_ble_eq_true rfl⟩ ⟨rfl, rfl⟩ ⟨Nat.le_refl _, Nat.le_refl _⟩ rfl (Nat.le_of_ble_eq_true rfl) dL_isSo_458 ?_
                                      rw [qc_3]
                                      refine w_aload_1 (pc := 461) dL_isSo_461 ?_
                                      refine w_bipush (pc := 462) (v := 12) dL_isSo_462 (by decide) ?_
                                      refine w_iald (pc := 464) (j := 12) (sL_in0 hL) hL.2.1 rfl (by decide) (by decide) dL_isSo_464 ?_
                                      refine w_icmp_ne (pc := 465) (tgt := 636) dL_isSo_465 (by decide) (fun c465 => ?_) (fun c465 => ?_)
                                      · exact (c465 (hD.1 12 (by omega)).symm).elim
                                      · refine w_aload_0 (pc := 468) dL_isSo_468 ?_
                                        refine w_iconst (pc := 469) (v := 4) dL_isSo_469 (by decide) ?_
                                        refine w_callV_I (pc := 470) (c_BS_count hW hC) ok_X10_count t334 t335 kc10 (sBS_in hW.1) hW.1.2.1 t333 ⟨Nat.le_of_ble_eq_true rfl, Nat.le_of_ble_eq_true rfl⟩ ⟨rfl, rfl⟩ ⟨Nat.le_refl _, Nat.le_refl _⟩ rfl (Nat.le_of_ble_eq_true rfl) dL_isSo_470 ?_
                                        rw [qc_4]
                                        have J491 : ∀ (u : Int32), u = (if c.1 12 = 0 then -1000004 else c.1 12 - 1) → wp g mL_isSo ⟨3, 0, 0, 72⟩ (fun _ => True) (qI 1 σ I) (0, 0) σ I 491 [some (.ref r), some (.ref q), some (.ref (q + 1)), some (.ref (q + 2)), some (.ref (q + 3)), some (.ref (q + 4)), some (.int 1), some (.int h), some (.int b), some (.int k), some (.int z), none] [.int u, .int (if c.1 12 = 0 then -1000004 else c.1 12 - 1)] := by
                                          intro u hu
                                          refine w_icmp_ne (pc := 491) (tgt := 636) dL_isSo_491 (by decide) (fun c491 => ?_) (fun c491 => ?_)
                                          · exact (c491 hu.symm).elim
                                          · refine w_aload_0 (pc := 494) dL_isSo_494 ?_
                                            refine w_iconst (pc := 495) (v := 5) dL_isSo_495 (by decide) ?_
                                            refine w_callV_I (pc := 496) (c_BS_count hW hC) ok_X10_count t334 t335 kc10 (sBS_in hW.1) hW.1.2.1 t333 ⟨Nat.le_of_ble_eq_true rfl, Nat.le_of_ble_eq_true rfl⟩ ⟨rfl, rfl⟩ ⟨Nat.le_refl _, Nat.le_refl _⟩ rfl (Nat.le_of_ble_eq_true rfl) dL_isSo_496 ?_
                                            rw [qc_5]
                                            have J515 : ∀ (u : Int32), u = qTold c.1 5 → wp g mL_isSo ⟨3, 0, 0, 72⟩ (fun _ => True) (qI 1 σ I) (0, 0) σ I 515 [some (.ref r), some (.ref q), some (.ref (q + 1)), some (.ref (q + 2)), some (.ref (q + 3)), some (.ref (q + 4)), some (.int 1), some (.int h), some (.int b), some (.int k), some (.int z), none] [.int u, .int (qTold c.1 5)] := by
                                              intro u hu
                                              refine w_icmp_ne (pc := 515) (tgt := 636) dL_isSo_515 (by decide) (fun c515 => ?_) (fun c515 => ?_)
                                              · exact (c515 hu.symm).elim
                                              · refine w_aload_0 (pc := 518) dL_isSo_518 ?_
                                                refine w_bipush (pc := 519) (v := 6) dL_isSo_519 (by decide) ?_
                                                refine w_callV_I (pc := 521) (c_BS_count hW hC) ok_X10_count t334 t335 kc10 (sBS_in hW.1) hW.1.2.1 t333 ⟨Nat.le_of_ble_eq_true rfl, Nat.le_of_ble_eq_true rfl⟩ ⟨rfl, rfl⟩ ⟨Nat.le_refl _, Nat.le_refl _⟩ rfl (Nat.le_of_ble_eq_true rfl) dL_isSo_521 ?_
                                                rw [qc_6]
                                                have J540 : ∀ (u : Int32), u = qTold c.1 6 → wp g mL_isSo ⟨3, 0, 0, 72⟩ (fun _ => True) (qI 1 σ I) (0, 0) σ I 540 [some (.ref r), some (.ref q), some (.ref (q + 1)), some (.ref (q + 2)), some (.ref (q + 3)), some (.ref (q + 4)), some (.int 1), some (.int h), some (.int b), some (.int k), some (.int z), none] [.int u, .int (qTold c.1 6)] := by
                                                  intro u hu
                                                  refine w_icmp_ne (pc := 540) (tgt := 636) dL_isSo_540 (by decide) (fun c540 => ?_) (fun c540 => ?_)
                                                  · exact (c540 hu.symm).elim
                                                  · refine w_aload_0 (pc := 543) dL_isSo_543 ?_
                                                    refine w_bipush (pc := 544) (v := 7) dL_isSo_544 (by decide) ?_
                                                    refine w_callV_I (pc := 546) (c_BS_count hW hC) ok_X10_count t334 t335 kc10 (sBS_in hW.1) hW.1.2.1 t333 ⟨Nat.le_of_ble_eq_true rfl, Nat.le_of_ble_eq_true rfl⟩ ⟨rfl, rfl⟩ ⟨Nat.le_refl _, Nat.le_refl _⟩ rfl (Nat.le_of_ble_eq_true rfl) dL_isSo_546 ?_
                                                    rw [qc_7]
                                                    refine w_aload_1 (pc := 549) dL_isSo_549 ?_
                                                    refine w_iconst (pc := 550) (v := 2) dL_isSo_550 (by decide) ?_
                                                    refine w_iald (pc := 551) (j := 2) (sL_in0 hL) hL.2.1 rfl (by decide) (by decide) dL_isSo_551 ?_
                                                    refine w_icmp_ne (pc := 552) (tgt := 636) dL_isSo_552 (by decide) (fun c552 => ?_) (fun c552 => ?_)
                                                    · exact (c552 (hD.1 2 (by omega)).symm).elim
                                                    · refine w_aload_0 (pc := 555) dL_isSo_555 ?_
                                                      refine w_bipush (pc := 556) (v := 8) dL_isSo_556 (by decide) ?_
                                                      refine w_callV_I (pc := 558) (c_BS_count hW hC) ok_X10_count t334 t335 kc10 (sBS_in hW.1) hW.1.2.1 t333 ⟨Nat.le_of_ble_eq_true rfl, Nat.le_of_ble_eq_true rfl⟩ ⟨rfl, rfl⟩ ⟨Nat.le_refl _, Nat.le_refl _⟩ rfl (Nat.le_of_ble_eq_true rfl) dL_isSo_558 ?_
                                                      rw [qc_8]
                                                      refine w_aload_2 (pc := 561) dL_isSo_561 ?_
                                                      refine w_iconst (pc := 562) (v := 0) dL_isSo_562 (by decide) ?_
                                                      refine w_bipush (pc := 563) (v := 11) dL_isSo_563 (by decide) ?_
                                                      refine w_callS_I (pc := 565) (c_L_mass (f := 0) (t := 11) (sL_in hL (k := 1) (by decide)) hL.2.2.1 rfl rfl (by omega) (by omega)) ok_L_mass t371 t370 ⟨Nat.le_of_ble_eq_true rfl, Nat.le_of_ble_eq_true rfl⟩ ⟨rfl, rfl⟩ ⟨Nat.le_refl _, Nat.le_refl _⟩ rfl (Nat.le_of_ble_eq_true rfl) dL_isSo_565 ?_
                                                      rw [ms_all hD]
                                                      refine w_icmp_ne (pc := 568) (tgt := 636) dL_isSo_568 (by decide) (fun c568 => ?_) (fun c568 => ?_)
                                                      · exact (c568 rfl).elim
                                                      · refine w_aload_0 (pc := 571) dL_isSo_571 ?_
                                                        refine w_bipush (pc := 572) (v := 9) dL_isSo_572 (by decide) ?_
                                                        refine w_callV_I (pc := 574) (c_BS_count hW hC) ok_X10_count t334 t335 kc10 (sBS_in hW.1) hW.1.2.1 t333 ⟨Nat.le_of_ble_eq_true rfl, Nat.le_of_ble_eq_true rfl⟩ ⟨rfl, rfl⟩ ⟨Nat.le_refl _, Nat.le_refl _⟩ rfl (Nat.le_of_ble_eq_true rfl) dL_isSo_574 ?_
                                                        rw [qc_9]
                                                        refine w_iload_7 (pc := 577) dL_isSo_577 ?_
                                                        refine w_icmp_ne (pc := 579) (tgt := 636) dL_isSo_579 (by decide) (fun c579 => ?_) (fun c579 => ?_)
                                                        · exact (c579 hh.symm).elim
                                                        · refine w_aload_0 (pc := 582) dL_isSo_582 ?_
                                                          refine w_bipush (pc := 583) (v := 10) dL_isSo_583 (by decide) ?_
                                                          refine w_callV_I (pc := 585) (c_BS_count hW hC) ok_X10_count t334 t335 kc10 (sBS_in hW.1) hW.1.2.1 t333 ⟨Nat.le_of_ble_eq_true rfl, Nat.le_of_ble_eq_true rfl⟩ ⟨rfl, rfl⟩ ⟨Nat.le_refl _, Nat.le_refl _⟩ rfl (Nat.le_of_ble_eq_true rfl) dL_isSo_585 ?_
                                                          rw [qc_10]
                                                          refine w_aload_1 (pc := 588) dL_isSo_588 ?_
                                                          refine w_bipush (pc := 589) (v := 9) dL_isSo_589 (by decide) ?_
                                                          refine w_iald (pc := 591) (j := 9) (sL_in0 hL) hL.2.1 rfl (by decide) (by decide) dL_isSo_591 ?_
                                                          refine w_icmp_ne (pc := 592) (tgt := 636) dL_isSo_592 (by decide) (fun c592 => ?_) (fun c592 => ?_)
                                                          · exact (c592 (hD.1 9 (by omega)).symm).elim
                                                          · refine w_aload_0 (pc := 595) dL_isSo_595 ?_
                                                            refine w_bipush (pc := 596) (v := 11) dL_isSo_596 (by decide) ?_
                                                            refine w_callV_I (pc := 598) (c_BS_count hW hC) ok_X10_count t334 t335 kc10 (sBS_in hW.1) hW.1.2.1 t333 ⟨Nat.le_of_ble_eq_true rfl, Nat.le_of_ble_eq_true rfl⟩ ⟨rfl, rfl⟩ ⟨Nat.le_refl _, Nat.le_refl _⟩ rfl (Nat.le_of_ble_eq_true rfl) dL_isSo_598 ?_
                                                            rw [qc_11]
                                                            refine w_iload_8 (pc := 601) dL_isSo_601 ?_
                                                            refine w_icmp_ne (pc := 603) (tgt := 636) dL_isSo_603 (by decide) (fun c603 => ?_) (fun c603 => ?_)
                                                            · exact (c603 hb.symm).elim
                                                            · refine w_aload_0 (pc := 606) dL_isSo_606 ?_
                                                              refine w_bipush (pc := 607) (v := 12) dL_isSo_607 (by decide) ?_
                                                              refine w_callV_I (pc := 609) (c_BS_count hW hC) ok_X10_count t334 t335 kc10 (sBS_in hW.1) hW.1.2.1 t333 ⟨Nat.le_of_ble_eq_true rfl, Nat.le_of_ble_eq_true rfl⟩ ⟨rfl, rfl⟩ ⟨Nat.le_refl _, Nat.le_refl _⟩ rfl (Nat.le_of_ble_eq_true rfl) dL_isSo_609 ?_
                                                              rw [qc_12]
                                                              refine w_aload_1 (pc := 612) dL_isSo_612 ?_
                                                              refine w_bipush (pc := 613) (v := 10) dL_isSo_613 (by decide) ?_
                                                              refine w_iald (pc := 615) (j := 10) (sL_in0 hL) hL.2.1 rfl (by decide) (by decide) dL_isSo_615 ?_
                                                              refine w_icmp_ne (pc := 616) (tgt := 636) dL_isSo_616 (by decide) (fun c616 => ?_) (fun c616 => ?_)
                                                              · exact (c616 (hD.1 10 (by omega)).symm).elim
                                                              · refine w_aload_0 (pc := 619) dL_isSo_619 ?_
                                                                refine w_bipush (pc := 620) (v := 13) dL_isSo_620 (by decide) ?_
                                                                refine w_callV_I (pc := 622) (c_BS_count hW hC) ok_X10_count t334 t335 kc10 (sBS_in hW.1) hW.1.2.1 t333 ⟨Nat.le_of_ble_eq_true rfl, Nat.le_of_ble_eq_true rfl⟩ ⟨rfl, rfl⟩ ⟨Nat.le_refl _, Nat.le_refl _⟩ rfl (Nat.le_of_ble_eq_true rfl) dL_isSo_622 ?_
                                                                rw [qc_13]
                                                                refine w_aload_1 (pc := 625) dL_isSo_625 ?_
                                                                refine w_bipush (pc := 626) (v := 14) dL_isSo_626 (by decide) ?_
                                                                refine w_iald (pc := 628) (j := 14) (sL_in0 hL) hL.2.1 rfl (by decide) (by decide) dL_isSo_628 ?_
                                                                refine w_icmp_ne (pc := 629) (tgt := 636) dL_isSo_629 (by decide) (fun c629 => ?_) (fun c629 => ?_)
                                                                · exact (c629 (hD.1 14 (by omega)).symm).elim
                                                                · refine w_iconst (pc := 632) (v := 1) dL_isSo_632 (by decide) ?_
                                                                  refine w_goto (pc := 633) (tgt := 637) dL_isSo_633 (by decide) ?_
                                                                  refine w_istore_6 (pc := 637) dL_isSo_637 rfl ?_
                                                                  refine w_iload_6 (pc := 639) dL_isSo_639 ?_
                                                                  refine w_if_eq (pc := 641) (tgt := 691) dL_isSo_641 (by decide) (fun c9 => absurd c9 (by decide)) (fun _ => ?_)
                                                                  refine w_aload_0 (pc := 644) dL_isSo_644 ?_
                                                                  refine w_bipush (pc := 645) (v := 10) dL_isSo_645 (by decide) ?_
                                                                  refine w_callV_I (pc := 647) (c_BS_count hW hC) ok_X10_count t334 t335 kc10 (sBS_in hW.1) hW.1.2.1 t333 ⟨Nat.le_of_ble_eq_true rfl, Nat.le_of_ble_eq_true rfl⟩ ⟨rfl, rfl⟩ ⟨Nat.le_refl _, Nat.le_refl _⟩ rfl (Nat.le_of_ble_eq_true rfl) dL_isSo_647 ?_
                                                                  rw [qc_10]
                                                                  refine w_aload_0 (pc := 650) dL_isSo_650 ?_
                                                                  refine w_bipush (pc := 651) (v := 8) dL_isSo_651 (by decide) ?_
                                                                  refine w_callV_I (pc := 653) (c_BS_count hW hC) ok_X10_count t334 t335 kc10 (sBS_in hW.1) hW.1.2.1 t333 ⟨Nat.le_of_ble_eq_true rfl, Nat.le_of_ble_eq_true rfl⟩ ⟨rfl, rfl⟩ ⟨Nat.le_refl _, Nat.le_refl _⟩ rfl (Nat.le_of_ble_eq_true rfl) dL_isSo_653 ?_
                                                                  rw [qc_8]
                                                                  refine w_aload_0 (pc := 656) dL_isSo_656 ?_
                                                                  refine w_bipush (pc := 657) (v := 9) dL_isSo_657 (by decide) ?_
                                                                  refine w_callV_I (pc := 659) (c_BS_count hW hC) ok_X10_count t334 t335 kc10 (sBS_in hW.1) hW.1.2.1 t333 ⟨Nat.le_of_ble_eq_true rfl, Nat.le_of_ble_eq_true rfl⟩ ⟨rfl, rfl⟩ ⟨Nat.le_refl _, Nat.le_refl _⟩ rfl (Nat.le_of_ble_eq_true rfl) dL_isSo_659 ?_
                                                                  rw [qc_9]
                                                                  refine w_iadd (pc := 662) dL_isSo_662 ?_
                                                                  refine w_aload_0 (pc := 663) dL_isSo_663 ?_
                                                                  refine w_bipush (pc := 664) (v := 11) dL_isSo_664 (by decide) ?_
                                                                  refine w_callV_I (pc := 666) (c_BS_count hW hC) ok_X10_count t334 t335 kc10 (sBS_in hW.1) hW.1.2.1 t333 ⟨Nat.le_of_ble_eq_true rfl, Nat.le_of_ble_eq_true rfl⟩ ⟨rfl, rfl⟩ ⟨Nat.le_refl _, Nat.le_refl _⟩ rfl (Nat.le_of_ble_eq_true rfl) dL_isSo_666 ?_
                                                                  rw [qc_11]
                                                                  refine w_iadd (pc := 669) dL_isSo_669 ?_
                                                                  refine w_aload_0 (pc := 670) dL_isSo_670 ?_
                                                                  refine w_bipush (pc := 671) (v := 12) dL_isSo_671 (by decide) ?_
                                                                  refine w_callV_I (pc := 673) (c_BS_count hW hC) ok_X10_count t334 t335 kc10 (sBS_in hW.1) hW.1.2.1 t333 ⟨Nat.le_of_ble_eq_true rfl, Nat.le_of_ble_eq_true rfl⟩ ⟨rfl, rfl⟩ ⟨Nat.le_refl _, Nat.le_refl _⟩ rfl (Nat.le_of_ble_eq_true rfl) dL_isSo_673 ?_
                                                                  rw [qc_12]
                                                                  refine w_iadd (pc := 676) dL_isSo_676 ?_
                                                                  refine w_icmp_ne (pc := 677) (tgt := 691) dL_isSo_677 (by decide) (fun c677 => ?_) (fun c677 => ?_)
                                                                  · exact (c677 cv.1).elim
                                                                  · refine w_iload_9 (pc := 680) dL_isSo_680 ?_
                                                                    refine w_iload_8 (pc := 682) dL_isSo_682 ?_
                                                                    refine w_icmp_ne (pc := 684) (tgt := 691) dL_isSo_684 (by decide) (fun c684 => ?_) (fun c684 => ?_)
                                                                    · exact (c684 (by rw [hb, hbk]; exact cv.2)).elim
                                                                    · refine w_iconst (pc := 687) (v := 1) dL_isSo_687 (by decide) ?_
                                                                      refine w_goto (pc := 688) (tgt := 692) dL_isSo_688 (by decide) ?_
                                                                      refine w_istore_6 (pc := 692) dL_isSo_692 rfl ?_
                                                                      refine w_aload_1 (pc := 694) dL_isSo_694 ?_
                                                                      refine w_iconst (pc := 695) (v := 5) dL_isSo_695 (by decide) ?_
                                                                      refine w_iald (pc := 696) (j := 5) (sL_in0 hL) hL.2.1 rfl (by decide) (by decide) dL_isSo_696 ?_
                                                                      refine w_i2l (pc := 697) dL_isSo_697 ?_
                                                                      refine w_aload_1 (pc := 698) dL_isSo_698 ?_
                                                                      refine w_bipush (pc := 699) (v := 7) dL_isSo_699 (by decide) ?_
                                                                      refine w_iald (pc := 701) (j := 7) (sL_in0 hL) hL.2.1 rfl (by decide) (by decide) dL_isSo_701 ?_
                                                                      refine w_i2l (pc := 702) dL_isSo_702 ?_
                                                                      refine w_lmul (pc := 703) dL_isSo_703 ?_
                                                                      refine w_ldc2 (pc := 704) (v := 1000) t575 dL_isSo_704 ?_
                                                                      refine w_ldiv (pc := 707) dL_isSo_707 (by decide) ?_
                                                                      rw [hD.1 5 (by omega), hD.1 7 (by omega)]
                                                                      refine w_lstore_10 (pc := 708) dL_isSo_708 rfl ?_
                                                                      refine w_iload_6 (pc := 710) dL_isSo_710 ?_
                                                                      refine w_if_eq (pc := 712) (tgt := 849) dL_isSo_712 (by decide) (fun c9 => absurd c9 (by decide)) (fun _ => ?_)
                                                                      refine w_aload_0 (pc := 715) dL_isSo_715 ?_
                                                                      refine w_iconst (pc := 716) (v := 0) dL_isSo_716 (by decide) ?_
                                                                      refine w_callV_I (pc := 717) (c_BS_scale hW hC) ok_X10_scale t651 t652 kc10 (sBS_in hW.1) hW.1.2.1 t650 ⟨Nat.le_of_ble_eq_true rfl, Nat.le_of_ble_eq_true rfl⟩ ⟨rfl, rfl⟩ ⟨Nat.le_refl _, Nat.le_refl _⟩ rfl (Nat.le_of_ble_eq_true rfl) dL_isSo_717 ?_
                                                                      rw [qs_0]
                                                                      refine w_aload_2 (pc := 720) dL_isSo_720 ?_
                                                                      refine w_iconst (pc := 721) (v := 4) dL_isSo_721 (by decide) ?_
                                                                      refine w_bipush (pc := 722) (v := 7) dL_isSo_722 (by decide) ?_
                                                                      refine w_callS_I (pc := 724) (c_L_mass (f := 4) (t := 7) (sL_in hL (k := 1) (by decide)) hL.2.2.1 rfl rfl (by omega) (by omega)) ok_L_mass t371 t370 ⟨Nat.le_of_ble_eq_true rfl, Nat.le_of_ble_eq_true rfl⟩ ⟨rfl, rfl⟩ ⟨Nat.le_refl _, Nat.le_refl _⟩ rfl (Nat.le_of_ble_eq_true rfl) dL_isSo_724 ?_
                                                                      rw [ms_sc hD]
                                                                      refine w_aload_1 (pc := 727) dL_isSo_727 ?_
                                                                      refine w_iconst (pc := 728) (v := 3) dL_isSo_728 (by decide) ?_
                                                                      refine w_iald (pc := 729) (j := 3) (sL_in0 hL) hL.2.1 rfl (by decide) (by decide) dL_isSo_729 ?_
                                                                      refine w_iadd (pc := 730) dL_isSo_730 ?_
                                                                      refine w_aload_1 (pc := 731) dL_isSo_731 ?_
                                                                      refine w_iconst (pc := 732) (v := 4) dL_isSo_732 (by decide) ?_
                                                                      refine w_iald (pc := 733) (j := 4) (sL_in0 hL) hL.2.1 rfl (by decide) (by decide) dL_isSo_733 ?_
                                                                      refine w_isub (pc := 734) dL_isSo_734 ?_
                                                                      refine w_ldc (pc := 735) (v := 1000000) t557 dL_isSo_735 ?_
                                                                      refine w_iadd (pc := 737) dL_isSo_737 ?_
                                                                      refine w_icmp_ne (pc := 738) (tgt := 849) dL_isSo_738 (by decide) (fun c738 => ?_) (fun c738 => ?_)
                                                                      · exact (c738 (by rw [hD.1 3 (by omega), hD.1 4 (by omega)]; rfl)).elim
                                                                      · refine w_aload_0 (pc := 741) dL_isSo_741 ?_
                                                                        refine w_iconst (pc := 742) (v := 1) dL_isSo_742 (by decide) ?_
                                                                        refine w_callV_I (pc := 743) (c_BS_scale hW hC) ok_X10_scale t651 t652 kc10 (sBS_in hW.1) hW.1.2.1 t650 ⟨Nat.le_of_ble_eq_true rfl, Nat.le_of_ble_eq_true rfl⟩ ⟨rfl, rfl⟩ ⟨Nat.le_refl _, Nat.le_refl _⟩ rfl (Nat.le_of_ble_eq_true rfl) dL_isSo_743 ?_
                                                                        rw [qs_1]
                                                                        refine w_aload_1 (pc := 746) dL_isSo_746 ?_
                                                                        refine w_iconst (pc := 747) (v := 3) dL_isSo_747 (by decide) ?_
                                                                        refine w_iald (pc := 748) (j := 3) (sL_in0 hL) hL.2.1 rfl (by decide) (by decide) dL_isSo_748 ?_
                                                                        refine w_ldc (pc := 749) (v := 1000000) t557 dL_isSo_749 ?_
                                                                        refine w_iadd (pc := 751) dL_isSo_751 ?_
                                                                        refine w_icmp_ne (pc := 752) (tgt := 849) dL_isSo_752 (by decide) (fun c752 => ?_) (fun c752 => ?_)
                                                                        · exact (c752 (by rw [hD.1 3 (by omega)])).elim
                                                                        · refine w_aload_0 (pc := 755) dL_isSo_755 ?_
                                                                          refine w_iconst (pc := 756) (v := 2) dL_isSo_756 (by decide) ?_
                                                                          refine w_callV_I (pc := 757) (c_BS_scale hW hC) ok_X10_scale t651 t652 kc10 (sBS_in hW.1) hW.1.2.1 t650 ⟨Nat.le_of_ble_eq_true rfl, Nat.le_of_ble_eq_true rfl⟩ ⟨rfl, rfl⟩ ⟨Nat.le_refl _, Nat.le_refl _⟩ rfl (Nat.le_of_ble_eq_true rfl) dL_isSo_757 ?_
                                                                          rw [qs_2]
                                                                          refine w_aload_1 (pc := 760) dL_isSo_760 ?_
                                                                          refine w_iconst (pc := 761) (v := 4) dL_isSo_761 (by decide) ?_
                                                                          refine w_iald (pc := 762) (j := 4) (sL_in0 hL) hL.2.1 rfl (by decide) (by decide) dL_isSo_762 ?_
                                                                          refine w_ldc (pc := 763) (v := 1000000) t557 dL_isSo_763 ?_
                                                                          refine w_iadd (pc := 765) dL_isSo_765 ?_
                                                                          refine w_icmp_ne (pc := 766) (tgt := 849) dL_isSo_766 (by decide) (fun c766 => ?_) (fun c766 => ?_)
                                                                          · exact (c766 (by rw [hD.1 4 (by omega)])).elim
                                                                          · refine w_aload_0 (pc := 769) dL_isSo_769 ?_
                                                                            refine w_iconst (pc := 770) (v := 3) dL_isSo_770 (by decide) ?_
                                                                            refine w_callV_I (pc := 771) (c_BS_scale hW hC) ok_X10_scale t651 t652 kc10 (sBS_in hW.1) hW.1.2.1 t650 ⟨Nat.le_of_ble_eq_true rfl, Nat.le_of_ble_eq_true rfl⟩ ⟨rfl, rfl⟩ ⟨Nat.le_refl _, Nat.le_refl _⟩ rfl (Nat.le_of_ble_eq_true rfl) dL_isSo_771 ?_
                                                                            rw [qs_3]
                                                                            refine w_aload_1 (pc := 774) dL_isSo_774 ?_
                                                                            refine w_iconst (pc := 775) (v := 5) dL_isSo_775 (by decide) ?_
                                                                            refine w_iald (pc := 776) (j := 5) (sL_in0 hL) hL.2.1 rfl (by decide) (by decide) dL_isSo_776 ?_
                                                                            refine w_ldc (pc := 777) (v := 1000000000) t627 dL_isSo_777 ?_
                                                                            refine w_iadd (pc := 779) dL_isSo_779 ?_
                                                                            refine w_icmp_ne (pc := 780) (tgt := 849) dL_isSo_780 (by decide) (fun c780 => ?_) (fun c780 => ?_)
                                                                            · exact (c780 (by rw [hD.1 5 (by omega)])).elim
                                                                            · refine w_aload_0 (pc := 783) dL_isSo_783 ?_
                                                                              refine w_iconst (pc := 784) (v := 4) dL_isSo_784 (by decide) ?_
                                                                              refine w_callV_I (pc := 785) (c_BS_scale hW hC) ok_X10_scale t651 t652 kc10 (sBS_in hW.1) hW.1.2.1 t650 ⟨Nat.le_of_ble_eq_true rfl, Nat.le_of_ble_eq_true rfl⟩ ⟨rfl, rfl⟩ ⟨Nat.le_refl _, Nat.le_refl _⟩ rfl (Nat.le_of_ble_eq_true rfl) dL_isSo_785 ?_
                                                                              rw [qs_4]
                                                                              refine w_i2l (pc := 788) dL_isSo_788 ?_
                                                                              refine w_lload_10 (pc := 789) dL_isSo_789 ?_
                                                                              refine w_ldc2 (pc := 791) (v := 1000000000) t662 dL_isSo_791 ?_
                                                                              refine w_ladd (pc := 794) dL_isSo_794 ?_
                                                                              refine w_lcmp (pc := 795) dL_isSo_795 ?_
                                                                              refine w_if_ne (pc := 796) (tgt := 849) dL_isSo_796 (by decide) (fun c796 => ?_) (fun c796 => ?_)
                                                                              · exact (c796 (by rw [told_4 hI ht4]; exact lg_self _)).elim
                                                                              · refine w_aload_0 (pc := 799) dL_isSo_799 ?_
                                                                                refine w_iconst (pc := 800) (v := 5) dL_isSo_800 (by decide) ?_
                                                                                refine w_callV_I (pc := 801) (c_BS_scale hW hC) ok_X10_scale t651 t652 kc10 (sBS_in hW.1) hW.1.2.1 t650 ⟨Nat.le_of_ble_eq_true rfl, Nat.le_of_ble_eq_true rfl⟩ ⟨rfl, rfl⟩ ⟨Nat.le_refl _, Nat.le_refl _⟩ rfl (Nat.le_of_ble_eq_true rfl) dL_isSo_801 ?_
                                                                                rw [qs_5]
                                                                                refine w_aload_1 (pc := 804) dL_isSo_804 ?_
                                                                                refine w_bipush (pc := 805) (v := 7) dL_isSo_805 (by decide) ?_
                                                                                refine w_iald (pc := 807) (j := 7) (sL_in0 hL) hL.2.1 rfl (by decide) (by decide) dL_isSo_807 ?_
                                                                                refine w_icmp_ne (pc := 808) (tgt := 849) dL_isSo_808 (by decide) (fun c808 => ?_) (fun c808 => ?_)
                                                                                · exact (c808 (hD.1 7 (by omega)).symm).elim
                                                                                · refine w_aload_0 (pc := 811) dL_isSo_811 ?_
                                                                                  refine w_bipush (pc := 812) (v := 6) dL_isSo_812 (by decide) ?_
                                                                                  refine w_callV_I (pc := 814) (c_BS_scale hW hC) ok_X10_scale t651 t652 kc10 (sBS_in hW.1) hW.1.2.1 t650 ⟨Nat.le_of_ble_eq_true rfl, Nat.le_of_ble_eq_true rfl⟩ ⟨rfl, rfl⟩ ⟨Nat.le_refl _, Nat.le_refl _⟩ rfl (Nat.le_of_ble_eq_true rfl) dL_isSo_814 ?_
                                                                                  rw [qs_6]
                                                                                  refine w_aload_1 (pc := 817) dL_isSo_817 ?_
                                                                                  refine w_bipush (pc := 818) (v := 8) dL_isSo_818 (by decide) ?_
                                                                                  refine w_iald (pc := 820) (j := 8) (sL_in0 hL) hL.2.1 rfl (by decide) (by decide) dL_isSo_820 ?_
                                                                                  refine w_icmp_ne (pc := 821) (tgt := 849) dL_isSo_821 (by decide) (fun c821 => ?_) (fun c821 => ?_)
                                                                                  · exact (c821 (hD.1 8 (by omega)).symm).elim
                                                                                  · refine w_aload_0 (pc := 824) dL_isSo_824 ?_
                                                                                    refine w_callV_I (pc := 825) (c_BS_error hW hC) ok_X10_error t664 t665 kc10 (sBS_in hW.1) hW.1.2.1 t663 ⟨Nat.le_of_ble_eq_true rfl, Nat.le_of_ble_eq_true rfl⟩ ⟨rfl, rfl⟩ ⟨Nat.le_refl _, Nat.le_refl _⟩ rfl (Nat.le_of_ble_eq_true rfl) dL_isSo_825 ?_
                                                                                    refine w_i2l (pc := 828) dL_isSo_828 ?_
                                                                                    refine w_lload_10 (pc := 829) dL_isSo_829 ?_
                                                                                    refine w_aload_1 (pc := 831) dL_isSo_831 ?_
                                                                                    refine w_bipush (pc := 832) (v := 11) dL_isSo_832 (by decide) ?_
                                                                                    refine w_iald (pc := 834) (j := 11) (sL_in0 hL) hL.2.1 rfl (by decide) (by decide) dL_isSo_834 ?_
                                                                                    refine w_i2l (pc := 835) dL_isSo_835 ?_
                                                                                    refine w_lsub (pc := 836) dL_isSo_836 ?_
                                                                                    refine w_ldc2 (pc := 837) (v := 1000000000) t662 dL_isSo_837 ?_
                                                                                    refine w_ladd (pc := 840) dL_isSo_840 ?_
                                                                                    refine w_lcmp (pc := 841) dL_isSo_841 ?_
                                                                                    refine w_if_ne (pc := 842) (tgt := 849) dL_isSo_842 (by decide) (fun c842 => ?_) (fun c842 => ?_)
                                                                                    · exact (c842 (by rw [told_e hI ht4, hD.1 11 (by omega)]; exact lg_self _)).elim
                                                                                    · refine w_iconst (pc := 845) (v := 1) dL_isSo_845 (by decide) ?_
                                                                                      refine w_goto (pc := 846) (tgt := 850) dL_isSo_846 (by decide) ?_
                                                                                      refine w_drop 10 ?_
                                                                                      refine w_istore_6 (pc := 850) dL_isSo_850 rfl ?_
                                                                                      refine w_iload_6 (pc := 852) dL_isSo_852 ?_
                                                                                      refine w_if_eq (pc := 854) (tgt := 895) dL_isSo_854 (by decide) (fun c9 => absurd c9 (by decide)) (fun _ => ?_)
                                                                                      refine w_aload_0 (pc := 857) dL_isSo_857 ?_
                                                                                      refine w_bipush (pc := 858) (v := 15) dL_isSo_858 (by decide) ?_
                                                                                      refine w_callV_I (pc := 860) (c_BS_count hW hC) ok_X10_count t334 t335 kc10 (sBS_in hW.1) hW.1.2.1 t333 ⟨Nat.le_of_ble_eq_true rfl, Nat.le_of_ble_eq_true rfl⟩ ⟨rfl, rfl⟩ ⟨Nat.le_refl _, Nat.le_refl _⟩ rfl (Nat.le_of_ble_eq_true rfl) dL_isSo_860 ?_
                                                                                      rw [qc_15]
                                                                                      refine w_if_ne (pc := 863) (tgt := 895) dL_isSo_863 (by decide) (fun c863 => ?_) (fun c863 => ?_)
                                                                                      · exact (c863 rfl).elim
                                                                                      · refine w_aload_0 (pc := 866) dL_isSo_866 ?_
                                                                                        refine w_bipush (pc := 867) (v := 7) dL_isSo_867 (by decide) ?_
                                                                                        refine w_callV_I (pc := 869) (c_BS_scale hW hC) ok_X10_scale t651 t652 kc10 (sBS_in hW.1) hW.1.2.1 t650 ⟨Nat.le_of_ble_eq_true rfl, Nat.le_of_ble_eq_true rfl⟩ ⟨rfl, rfl⟩ ⟨Nat.le_refl _, Nat.le_refl _⟩ rfl (Nat.le_of_ble_eq_true rfl) dL_isSo_869 ?_
                                                                                        rw [qs_7]
                                                                                        refine w_ldc (pc := 872) (v := -1000001) t574 dL_isSo_872 ?_
                                                                                        refine w_icmp_ne (pc := 874) (tgt := 895) dL_isSo_874 (by decide) (fun c874 => ?_) (fun c874 => ?_)
                                                                                        · exact (c874 rfl).elim
                                                                                        · refine w_aload_0 (pc := 877) dL_isSo_877 ?_
                                                                                          refine w_aload_1 (pc := 878) dL_isSo_878 ?_
                                                                                          refine w_bipush (pc := 879) (v := 14) dL_isSo_879 (by decide) ?_
                                                                                          refine w_iald (pc := 881) (j := 14) (sL_in0 hL) hL.2.1 rfl (by decide) (by decide) dL_isSo_881 ?_
                                                                                          refine w_iconst (pc := 882) (v := 0) dL_isSo_882 (by decide) ?_
                                                                                          rw [hD.1 14 (by omega)]
                                                                                          refine w_callV_I (pc := 883) (c_BS_accountOf hW hC) ok_X10_accountOf t630 t631 kc10 (sBS_in hW.1) hW.1.2.1 t629 ⟨Nat.le_of_ble_eq_true rfl, Nat.le_of_ble_eq_true rfl⟩ ⟨rfl, rfl⟩ ⟨Nat.le_refl _, Nat.le_refl _⟩ rfl (Nat.le_of_ble_eq_true rfl) dL_isSo_883 ?_
                                                                                          rw [qa_o]
                                                                                          refine w_ldc (pc := 886) (v := -1000001) t574 dL_isSo_886 ?_
                                                                                          refine w_icmp_ne (pc := 888) (tgt := 895) dL_isSo_888 (by decide) (fun c888 => ?_) (fun c888 => ?_)
                                                                                          · exact (c888 rfl).elim
                                                                                          · refine w_iconst (pc := 891) (v := 1) dL_isSo_891 (by decide) ?_
                                                                                            refine w_goto (pc := 892) (tgt := 896) dL_isSo_892 (by decide) ?_
                                                                                            refine w_zret (pc := 896) rfl (by decide) ⟨Nat.le_refl _, Nat.le_refl _⟩ dL_isSo_896 ?_
                                                                                            exact ⟨rfl, rfl, rfl⟩
                                                refine w_aload_1 (pc := 524) dL_isSo_524 ?_
                                                refine w_bipush (pc := 525) (v := 15) dL_isSo_525 (by decide) ?_
                                                refine w_iald (pc := 527) (j := 15) (sL_in0 hL) hL.2.1 rfl (by decide) (by decide) dL_isSo_527 ?_
                                                refine w_if_ne (pc := 528) (tgt := 536) dL_isSo_528 (by decide) (fun c528 => ?_) (fun c528 => ?_)
                                                · refine w_aload_1 (pc := 536) dL_isSo_536 ?_
                                                  refine w_bipush (pc := 537) (v := 16) dL_isSo_537 (by decide) ?_
                                                  refine w_iald (pc := 539) (j := 16) (sL_in0 hL) hL.2.1 rfl (by decide) (by decide) dL_isSo_539 ?_
                                                  exact J540 _ (by rw [qTold, if_neg (fun h => h (p15 (by rw [← hD.1 15 (by omega)]; exact c528))), if_neg (by decide), hD.1 16 (by omega)])
                                                · refine w_ldc (pc := 531) (v := -1000004) t628 dL_isSo_531 ?_
                                                  refine w_goto (pc := 533) (tgt := 540) dL_isSo_533 (by decide) ?_
                                                  exact J540 _ (by rw [qTold, if_pos (fun h => absurd h (by rw [← hD.1 15 (by omega), c528]; decide))])
                                            refine w_aload_1 (pc := 499) dL_isSo_499 ?_
                                            refine w_bipush (pc := 500) (v := 15) dL_isSo_500 (by decide) ?_
                                            refine w_iald (pc := 502) (j := 15) (sL_in0 hL) hL.2.1 rfl (by decide) (by decide) dL_isSo_502 ?_
                                            refine w_if_ne (pc := 503) (tgt := 511) dL_isSo_503 (by decide) (fun c503 => ?_) (fun c503 => ?_)
                                            · refine w_aload_1 (pc := 511) dL_isSo_511 ?_
                                              refine w_bipush (pc := 512) (v := 15) dL_isSo_512 (by decide) ?_
                                              refine w_iald (pc := 514) (j := 15) (sL_in0 hL) hL.2.1 rfl (by decide) (by decide) dL_isSo_514 ?_
                                              exact J515 _ (by rw [qTold, if_neg (fun h => h (p15 (by rw [← hD.1 15 (by omega)]; exact c503))), if_pos rfl, hD.1 15 (by omega)])
                                            · refine w_ldc (pc := 506) (v := -1000004) t628 dL_isSo_506 ?_
                                              refine w_goto (pc := 508) (tgt := 515) dL_isSo_508 (by decide) ?_
                                              exact J515 _ (by rw [qTold, if_pos (fun h => absurd h (by rw [← hD.1 15 (by omega), c503]; decide))])
                                        refine w_aload_1 (pc := 473) dL_isSo_473 ?_
                                        refine w_bipush (pc := 474) (v := 12) dL_isSo_474 (by decide) ?_
                                        refine w_iald (pc := 476) (j := 12) (sL_in0 hL) hL.2.1 rfl (by decide) (by decide) dL_isSo_476 ?_
                                        refine w_if_ne (pc := 477) (tgt := 485) dL_isSo_477 (by decide) (fun c477 => ?_) (fun c477 => ?_)
                                        · refine w_aload_1 (pc := 485) dL_isSo_485 ?_
                                          refine w_bipush (pc := 486) (v := 12) dL_isSo_486 (by decide) ?_
                                          refine w_iald (pc := 488) (j := 12) (sL_in0 hL) hL.2.1 rfl (by decide) (by decide) dL_isSo_488 ?_
                                          refine w_iconst (pc := 489) (v := 1) dL_isSo_489 (by decide) ?_
                                          refine w_isub (pc := 490) dL_isSo_490 ?_
                                          exact J491 _ (by rw [if_neg (by rw [← hD.1 12 (by omega)]; exact c477), hD.1 12 (by omega)])
                                        · refine w_ldc (pc := 480) (v := -1000004) t628 dL_isSo_480 ?_
                                          refine w_goto (pc := 482) (tgt := 491) dL_isSo_482 (by decide) ?_
                                          exact J491 _ (by rw [if_pos (by rw [← hD.1 12 (by omega)]; exact c477)])
                              · have hi : i < 4 := nx_nle (x := 4) (a := 4) c376 rfl (by omega) hz (by omega)
                                refine w_iload_6 (pc := 379) dL_isSo_379 ?_
                                refine w_if_eq (pc := 381) (tgt := 417) dL_isSo_381 (by decide) (fun c9 => absurd c9 (by decide)) (fun _ => ?_)
                                refine w_aload_0 (pc := 384) dL_isSo_384 ?_
                                refine w_bipush (pc := 385) (v := 30) dL_isSo_385 (by decide) ?_
                                refine w_iload_10 (pc := 387) dL_isSo_387 ?_
                                refine w_iadd (pc := 389) dL_isSo_389 ?_
                                refine w_callV_I (pc := 390) (c_BS_count hW hC) ok_X10_count t334 t335 kc10 (sBS_in hW.1) hW.1.2.1 t333 ⟨Nat.le_of_ble_eq_true rfl, Nat.le_of_ble_eq_true rfl⟩ ⟨rfl, rfl⟩ ⟨Nat.le_refl _, Nat.le_refl _⟩ rfl (Nat.le_of_ble_eq_true rfl) dL_isSo_390 ?_
                                rw [hz, show (30 : Int32) = nI 30 from rfl, nI_add, qc_bk hi, ← hz]
                                refine w_aload_5 (pc := 393) dL_isSo_393 ?_
                                refine w_bipush (pc := 395) (v := 16) dL_isSo_395 (by decide) ?_
                                refine w_iload_10 (pc := 397) dL_isSo_397 ?_
                                refine w_iadd (pc := 399) dL_isSo_399 ?_
                                refine w_iald (pc := 400) (j := 16 + i) (sL_in hL (k := 4) (by decide)) hL.2.2.2.2.2 (by rw [hz]; exact nI_add 16 i) (by omega) (by decide) dL_isSo_400 ?_
                                refine w_icmp_ne (pc := 401) (tgt := 408) dL_isSo_401 (by decide) (fun c401 => ?_) (fun c401 => ?_)
                                · exact (c401 (by rw [hD.2.2.2.2 _ (by omega), show 129 + (16 + i) = 145 + i by omega])).elim
                                · refine w_iconst (pc := 404) (v := 1) dL_isSo_404 (by decide) ?_
                                  refine w_goto (pc := 405) (tgt := 409) dL_isSo_405 (by decide) ?_
                                  refine w_istore_6 (pc := 409) dL_isSo_409 rfl ?_
                                  refine w_iinc_10 (pc := 411) dL_isSo_411 rfl rfl ?_
                                  refine w_goto (pc := 414) (tgt := 373) dL_isSo_414 (by decide) ?_
                                  exact ih (i + 1) _ (by omega) (by omega) (by rw [hz]; exact nI_1 i)
                          exact LE 5 0 _ (by omega) (by omega) rfl
                        · have hi : i < 3 := nx_nle (x := 3) (a := 3) c317 rfl (by omega) hz (by omega)
                          refine w_iload_6 (pc := 320) dL_isSo_320 ?_
                          refine w_if_eq (pc := 322) (tgt := 370) dL_isSo_322 (by decide) (fun c9 => absurd c9 (by decide)) (fun _ => ?_)
                          refine w_aload_0 (pc := 325) dL_isSo_325 ?_
                          refine w_bipush (pc := 326) (v := 20) dL_isSo_326 (by decide) ?_
                          refine w_iload_10 (pc := 328) dL_isSo_328 ?_
                          refine w_iadd (pc := 330) dL_isSo_330 ?_
                          refine w_callV_I (pc := 331) (c_BS_count hW hC) ok_X10_count t334 t335 kc10 (sBS_in hW.1) hW.1.2.1 t333 ⟨Nat.le_of_ble_eq_true rfl, Nat.le_of_ble_eq_true rfl⟩ ⟨rfl, rfl⟩ ⟨Nat.le_refl _, Nat.le_refl _⟩ rfl (Nat.le_of_ble_eq_true rfl) dL_isSo_331 ?_
                          rw [hz, show (20 : Int32) = nI 20 from rfl, nI_add, qc_st hi, ← hz]
                          refine w_aload_1 (pc := 334) dL_isSo_334 ?_
                          refine w_bipush (pc := 335) (v := 18) dL_isSo_335 (by decide) ?_
                          refine w_iload_10 (pc := 337) dL_isSo_337 ?_
                          refine w_iadd (pc := 339) dL_isSo_339 ?_
                          refine w_iald (pc := 340) (j := 18 + i) (sL_in0 hL) hL.2.1 (by rw [hz]; exact nI_add 18 i) (by omega) (by decide) dL_isSo_340 ?_
                          have J353 : ∀ (u : Int32), u = (if i = 2 then 10 else 0) → wp g mL_isSo ⟨3, 0, 0, 72⟩ (fun _ => True) (qI 1 σ I) (0, 0) σ I 353 [some (.ref r), some (.ref q), some (.ref (q + 1)), some (.ref (q + 2)), some (.ref (q + 3)), some (.ref (q + 4)), some (.int 1), some (.int h), some (.int b), some (.int k), some (.int z), none] [.int u, .int (I q (18 + i)), .int (c.1 (18 + i) + (if i = 2 then 10 else 0))] := by
                            intro u hu
                            refine w_iadd (pc := 353) dL_isSo_353 ?_
                            refine w_icmp_ne (pc := 354) (tgt := 361) dL_isSo_354 (by decide) (fun c354 => ?_) (fun c354 => ?_)
                            · exact (c354 (by rw [hu, hD.1 _ (by omega)])).elim
                            · refine w_iconst (pc := 357) (v := 1) dL_isSo_357 (by decide) ?_
                              refine w_goto (pc := 358) (tgt := 362) dL_isSo_358 (by decide) ?_
                              refine w_istore_6 (pc := 362) dL_isSo_362 rfl ?_
                              refine w_iinc_10 (pc := 364) dL_isSo_364 rfl rfl ?_
                              refine w_goto (pc := 367) (tgt := 314) dL_isSo_367 (by decide) ?_
                              exact ih (i + 1) _ (by omega) (by omega) (by rw [hz]; exact nI_1 i)
                          refine w_iload_10 (pc := 341) dL_isSo_341 ?_
                          refine w_iconst (pc := 343) (v := 2) dL_isSo_343 (by decide) ?_
                          refine w_icmp_ne (pc := 344) (tgt := 352) dL_isSo_344 (by decide) (fun c344 => ?_) (fun c344 => ?_)
                          · have n2 : ¬ i = 2 := fun h => c344 (by rw [hz, h]; rfl)
                            refine w_iconst (pc := 352) (v := 0) dL_isSo_352 (by decide) ?_
                            exact J353 _ (by rw [if_neg n2])
                          · have n2 : i = 2 := by
                              rw [hz] at c344
                              exact (nI_eq (a := i) (b := 2) (by omega) (by omega)).mp c344
                            refine w_bipush (pc := 347) (v := 10) dL_isSo_347 (by decide) ?_
                            refine w_goto (pc := 349) (tgt := 353) dL_isSo_349 (by decide) ?_
                            exact J353 _ (by rw [if_pos n2])
                    exact LD 4 0 _ (by omega) (by omega) rfl
                  · have hi : i < nAc c.1 := nx_nle c228 e14 (by omega) hz (by omega)
                    refine w_iload_6 (pc := 231) dL_isSo_231 ?_
                    refine w_if_eq (pc := 233) (tgt := 311) dL_isSo_233 (by decide) (fun c9 => absurd c9 (by decide)) (fun _ => ?_)
                    refine w_iload_9 (pc := 236) dL_isSo_236 ?_
                    refine w_aload_5 (pc := 238) dL_isSo_238 ?_
                    refine w_iconst (pc := 240) (v := 2) dL_isSo_240 (by decide) ?_
                    refine w_iload_10 (pc := 241) dL_isSo_241 ?_
                    refine w_imul (pc := 243) dL_isSo_243 ?_
                    refine w_iconst (pc := 244) (v := 1) dL_isSo_244 (by decide) ?_
                    refine w_iadd (pc := 245) dL_isSo_245 ?_
                    refine w_iald (pc := 246) (j := 2 * i + 1) (sL_in hL (k := 4) (by decide)) hL.2.2.2.2.2 (by rw [hz, show (2 : Int32) = nI 2 from rfl, pk_mul]; exact nI_add (2 * i) 1) (by omega) (by decide) dL_isSo_246 ?_
                    refine w_iadd (pc := 247) dL_isSo_247 ?_
                    refine w_istore_9 (pc := 248) dL_isSo_248 rfl ?_
                    refine w_aload_0 (pc := 250) dL_isSo_250 ?_
                    refine w_iload_10 (pc := 251) dL_isSo_251 ?_
                    refine w_iconst (pc := 253) (v := 0) dL_isSo_253 (by decide) ?_
                    refine w_callV_I (pc := 254) (c_BS_accountOf hW hC) ok_X10_accountOf t630 t631 kc10 (sBS_in hW.1) hW.1.2.1 t629 ⟨Nat.le_of_ble_eq_true rfl, Nat.le_of_ble_eq_true rfl⟩ ⟨rfl, rfl⟩ ⟨Nat.le_refl _, Nat.le_refl _⟩ rfl (Nat.le_of_ble_eq_true rfl) dL_isSo_254 ?_
                    rw [hz, qa_0 hS hi, ← hz]
                    refine w_aload_5 (pc := 257) dL_isSo_257 ?_
                    refine w_iconst (pc := 259) (v := 2) dL_isSo_259 (by decide) ?_
                    refine w_iload_10 (pc := 260) dL_isSo_260 ?_
                    refine w_imul (pc := 262) dL_isSo_262 ?_
                    refine w_iald (pc := 263) (j := 2 * i) (sL_in hL (k := 4) (by decide)) hL.2.2.2.2.2 (by rw [hz, show (2 : Int32) = nI 2 from rfl, pk_mul]) (by omega) (by decide) dL_isSo_263 ?_
                    refine w_icmp_ne (pc := 264) (tgt := 302) dL_isSo_264 (by decide) (fun c264 => ?_) (fun c264 => ?_)
                    · exact (c264 (hD.2.2.2.2 _ (by omega)).symm).elim
                    · refine w_aload_0 (pc := 267) dL_isSo_267 ?_
                      refine w_iload_10 (pc := 268) dL_isSo_268 ?_
                      refine w_iconst (pc := 270) (v := 1) dL_isSo_270 (by decide) ?_
                      refine w_callV_I (pc := 271) (c_BS_accountOf hW hC) ok_X10_accountOf t630 t631 kc10 (sBS_in hW.1) hW.1.2.1 t629 ⟨Nat.le_of_ble_eq_true rfl, Nat.le_of_ble_eq_true rfl⟩ ⟨rfl, rfl⟩ ⟨Nat.le_refl _, Nat.le_refl _⟩ rfl (Nat.le_of_ble_eq_true rfl) dL_isSo_271 ?_
                      rw [hz, qa_1 hS hi, ← hz]
                      refine w_aload_5 (pc := 274) dL_isSo_274 ?_
                      refine w_iconst (pc := 276) (v := 2) dL_isSo_276 (by decide) ?_
                      refine w_iload_10 (pc := 277) dL_isSo_277 ?_
                      refine w_imul (pc := 279) dL_isSo_279 ?_
                      refine w_iconst (pc := 280) (v := 1) dL_isSo_280 (by decide) ?_
                      refine w_iadd (pc := 281) dL_isSo_281 ?_
                      refine w_iald (pc := 282) (j := 2 * i + 1) (sL_in hL (k := 4) (by decide)) hL.2.2.2.2.2 (by rw [hz, show (2 : Int32) = nI 2 from rfl, pk_mul]; exact nI_add (2 * i) 1) (by omega) (by decide) dL_isSo_282 ?_
                      refine w_icmp_ne (pc := 283) (tgt := 302) dL_isSo_283 (by decide) (fun c283 => ?_) (fun c283 => ?_)
                      · exact (c283 (hD.2.2.2.2 _ (by omega)).symm).elim
                      · refine w_aload_0 (pc := 286) dL_isSo_286 ?_
                        refine w_iload_10 (pc := 287) dL_isSo_287 ?_
                        refine w_iconst (pc := 289) (v := 5) dL_isSo_289 (by decide) ?_
                        refine w_callV_I (pc := 290) (c_BS_accountOf hW hC) ok_X10_accountOf t630 t631 kc10 (sBS_in hW.1) hW.1.2.1 t629 ⟨Nat.le_of_ble_eq_true rfl, Nat.le_of_ble_eq_true rfl⟩ ⟨rfl, rfl⟩ ⟨Nat.le_refl _, Nat.le_refl _⟩ rfl (Nat.le_of_ble_eq_true rfl) dL_isSo_290 ?_
                        rw [qa_5]
                        refine w_ldc (pc := 293) (v := -1000001) t574 dL_isSo_293 ?_
                        refine w_icmp_ne (pc := 295) (tgt := 302) dL_isSo_295 (by decide) (fun c295 => ?_) (fun c295 => ?_)
                        · exact (c295 rfl).elim
                        · refine w_iconst (pc := 298) (v := 1) dL_isSo_298 (by decide) ?_
                          refine w_goto (pc := 299) (tgt := 303) dL_isSo_299 (by decide) ?_
                          refine w_istore_6 (pc := 303) dL_isSo_303 rfl ?_
                          refine w_iinc_10 (pc := 305) dL_isSo_305 rfl rfl ?_
                          refine w_goto (pc := 308) (tgt := 222) dL_isSo_308 (by decide) ?_
                          exact ih (i + 1) _ _ (by omega) (by omega) (by rw [hz]; exact nI_1 i) (by rw [hbk, hD.2.2.2.2 _ (by omega), show 129 + (2 * i + 1) = 130 + 2 * i by omega]; rfl)
              exact LC (nAc c.1 + 1) 0 _ _ (by omega) (by omega) rfl rfl
            · have hi : i < 12 := nx_nle (x := 12) (a := 12) c131 rfl (by omega) hz (by omega)
              have d2 : z / 2 = nI (i / 2) := div_i hz (by omega) (d := 2) (D := 2) rfl (by omega) (by omega)
              have m2 : z - z / 2 * 2 = nI (i % 2) := rem_i hz (by omega) (d := 2) (D := 2) rfl (by omega) (by omega)
              refine w_iload_6 (pc := 134) dL_isSo_134 ?_
              refine w_if_eq (pc := 136) (tgt := 219) dL_isSo_136 (by decide) (fun c9 => absurd c9 (by decide)) (fun _ => ?_)
              refine w_iload_7 (pc := 139) dL_isSo_139 ?_
              have J168 : ∀ (u : Int32), u = (if i % 2 = 1 ∧ i / 2 < nLo c.1 then c.1 (69 + i) else 0) → wp g mL_isSo ⟨3, 0, 0, 72⟩ (fun _ => True) (qI 1 σ I) (0, 0) σ I 168 [some (.ref r), some (.ref q), some (.ref (q + 1)), some (.ref (q + 2)), some (.ref (q + 3)), some (.ref (q + 4)), some (.int 1), some (.int h), some (.int b), some (.int 0), some (.int z), none] [.int u, .int h] := by
                intro u hu
                refine w_iadd (pc := 168) dL_isSo_168 ?_
                refine w_istore_7 (pc := 169) dL_isSo_169 rfl ?_
                refine w_aload_0 (pc := 171) dL_isSo_171 ?_
                refine w_iload_10 (pc := 172) dL_isSo_172 ?_
                refine w_iconst (pc := 174) (v := 2) dL_isSo_174 (by decide) ?_
                refine w_idiv (pc := 175) dL_isSo_175 (by decide) ?_
                refine w_iload_10 (pc := 176) dL_isSo_176 ?_
                refine w_iconst (pc := 178) (v := 2) dL_isSo_178 (by decide) ?_
                refine w_irem (pc := 179) dL_isSo_179 (by decide) ?_
                refine w_callV_I (pc := 180) (c_BS_lotOf hW hC) ok_X10_lotOf t329 t330 kc10 (sBS_in hW.1) hW.1.2.1 t328 ⟨Nat.le_of_ble_eq_true rfl, Nat.le_of_ble_eq_true rfl⟩ ⟨rfl, rfl⟩ ⟨Nat.le_refl _, Nat.le_refl _⟩ rfl (Nat.le_of_ble_eq_true rfl) dL_isSo_180 ?_
                rw [m2, d2]
                refine w_iload_10 (pc := 183) dL_isSo_183 ?_
                refine w_iconst (pc := 185) (v := 2) dL_isSo_185 (by decide) ?_
                refine w_idiv (pc := 186) dL_isSo_186 (by decide) ?_
                refine w_aload_1 (pc := 187) dL_isSo_187 ?_
                refine w_bipush (pc := 188) (v := 13) dL_isSo_188 (by decide) ?_
                refine w_iald (pc := 190) (j := 13) (sL_in0 hL) hL.2.1 rfl (by decide) (by decide) dL_isSo_190 ?_
                refine w_icmp_ge (pc := 191) (tgt := 201) dL_isSo_191 (by decide) (fun c191 => ?_) (fun c191 => ?_)
                · have hq2 : ¬ i / 2 < nLo c.1 := by
                    have := (nx_cmp e13 (by omega) d2 (by omega)).1.mp c191
                    omega
                  refine w_ldc (pc := 201) (v := -1000004) t628 dL_isSo_201 ?_
                  refine w_icmp_ne (pc := 203) (tgt := 210) dL_isSo_203 (by decide) (fun c203 => ?_) (fun c203 => ?_)
                  · exact (c203 (ql_out hS hi hq2)).elim
                  · refine w_iconst (pc := 206) (v := 1) dL_isSo_206 (by decide) ?_
                    refine w_goto (pc := 207) (tgt := 211) dL_isSo_207 (by decide) ?_
                    refine w_istore_6 (pc := 211) dL_isSo_211 rfl ?_
                    refine w_iinc_10 (pc := 213) dL_isSo_213 rfl rfl ?_
                    refine w_goto (pc := 216) (tgt := 127) dL_isSo_216 (by decide) ?_
                    exact ih (i + 1) _ _ (by omega) (by omega) (by rw [hz]; exact nI_1 i) (by rw [hh, hu]; rfl)
                · have hq2 : i / 2 < nLo c.1 := nx_nle c191 e13 (by omega) d2 (by omega)
                  refine w_aload_3 (pc := 194) dL_isSo_194 ?_
                  refine w_iload_10 (pc := 195) dL_isSo_195 ?_
                  refine w_iald (pc := 197) (j := i) (sL_in hL (k := 2) (by decide)) hL.2.2.2.1 hz (by omega) (by decide) dL_isSo_197 ?_
                  refine w_goto (pc := 198) (tgt := 203) dL_isSo_198 (by decide) ?_
                  refine w_icmp_ne (pc := 203) (tgt := 210) dL_isSo_203 (by decide) (fun c203 => ?_) (fun c203 => ?_)
                  · exact (c203 ((ql_in hS hq2).trans (hD.2.2.1 _ (by omega)).symm)).elim
                  · refine w_iconst (pc := 206) (v := 1) dL_isSo_206 (by decide) ?_
                    refine w_goto (pc := 207) (tgt := 211) dL_isSo_207 (by decide) ?_
                    refine w_istore_6 (pc := 211) dL_isSo_211 rfl ?_
                    refine w_iinc_10 (pc := 213) dL_isSo_213 rfl rfl ?_
                    refine w_goto (pc := 216) (tgt := 127) dL_isSo_216 (by decide) ?_
                    exact ih (i + 1) _ _ (by omega) (by omega) (by rw [hz]; exact nI_1 i) (by rw [hh, hu]; rfl)
              refine w_iload_10 (pc := 141) dL_isSo_141 ?_
              refine w_iconst (pc := 143) (v := 2) dL_isSo_143 (by decide) ?_
              refine w_irem (pc := 144) dL_isSo_144 (by decide) ?_
              refine w_iconst (pc := 145) (v := 1) dL_isSo_145 (by decide) ?_
              refine w_icmp_ne (pc := 146) (tgt := 167) dL_isSo_146 (by decide) (fun c146 => ?_) (fun c146 => ?_)
              · have hn : ¬ (i % 2 = 1 ∧ i / 2 < nLo c.1) := fun h => c146 (by rw [m2, h.1]; rfl)
                refine w_iconst (pc := 167) (v := 0) dL_isSo_167 (by decide) ?_
                exact J168 _ (by rw [if_neg hn])
              · have h2 : i % 2 = 1 := by
                  rw [m2] at c146
                  exact (nI_eq (a := i % 2) (b := 1) (by omega) (by omega)).mp c146
                refine w_iload_10 (pc := 149) dL_isSo_149 ?_
                refine w_iconst (pc := 151) (v := 2) dL_isSo_151 (by decide) ?_
                refine w_idiv (pc := 152) dL_isSo_152 (by decide) ?_
                refine w_aload_1 (pc := 153) dL_isSo_153 ?_
                refine w_bipush (pc := 154) (v := 13) dL_isSo_154 (by decide) ?_
                refine w_iald (pc := 156) (j := 13) (sL_in0 hL) hL.2.1 rfl (by decide) (by decide) dL_isSo_156 ?_
                refine w_icmp_ge (pc := 157) (tgt := 167) dL_isSo_157 (by decide) (fun c157 => ?_) (fun c157 => ?_)
                · have hn : ¬ (i % 2 = 1 ∧ i / 2 < nLo c.1) := fun h => by
                    have := (nx_cmp e13 (by omega) d2 (by omega)).1.mp c157
                    omega
                  refine w_iconst (pc := 167) (v := 0) dL_isSo_167 (by decide) ?_
                  exact J168 _ (by rw [if_neg hn])
                · have hp : i % 2 = 1 ∧ i / 2 < nLo c.1 := ⟨h2, nx_nle c157 e13 (by omega) d2 (by omega)⟩
                  refine w_aload_3 (pc := 160) dL_isSo_160 ?_
                  refine w_iload_10 (pc := 161) dL_isSo_161 ?_
                  refine w_iald (pc := 163) (j := i) (sL_in hL (k := 2) (by decide)) hL.2.2.2.1 hz (by omega) (by decide) dL_isSo_163 ?_
                  refine w_goto (pc := 164) (tgt := 168) dL_isSo_164 (by decide) ?_
                  exact J168 _ (by rw [if_pos hp]; exact hD.2.2.1 _ (by omega))
        exact LB 13 0 _ _ (by omega) (by omega) rfl rfl
      · have hi : i < 48 := nx_nle (x := 48) (a := 48) c25 rfl (by omega) hz (by omega)
        have d6 : z / 6 = nI (i / 6) := div_i hz (by omega) (d := 6) (D := 6) rfl (by omega) (by omega)
        have m6 : z - z / 6 * 6 = nI (i % 6) := rem_i hz (by omega) (d := 6) (D := 6) rfl (by omega) (by omega)
        have d4 : z / 4 = nI (i / 4) := div_i hz (by omega) (d := 4) (D := 4) rfl (by omega) (by omega)
        have m4 : z - z / 4 * 4 = nI (i % 4) := rem_i hz (by omega) (d := 4) (D := 4) rfl (by omega) (by omega)
        refine w_iload_6 (pc := 28) dL_isSo_28 ?_
        refine w_if_eq (pc := 30) (tgt := 124) dL_isSo_30 (by decide) (fun c9 => absurd c9 (by decide)) (fun _ => ?_)
        refine w_iload_8 (pc := 33) dL_isSo_33 ?_
        have J65 : ∀ (u : Int32), u = (if i % 6 < 4 ∧ i / 6 < nB c.1 then c.1 (81 + i) else 0) → wp g mL_isSo ⟨3, 0, 0, 72⟩ (fun _ => True) (qI 1 σ I) (0, 0) σ I 65 [some (.ref r), some (.ref q), some (.ref (q + 1)), some (.ref (q + 2)), some (.ref (q + 3)), some (.ref (q + 4)), some (.int 1), some (.int 0), some (.int b), some (.int 0), some (.int z), none] [.int u, .int b] := by
          intro u hu
          refine w_iadd (pc := 65) dL_isSo_65 ?_
          refine w_istore_8 (pc := 66) dL_isSo_66 rfl ?_
          refine w_aload_0 (pc := 68) dL_isSo_68 ?_
          refine w_iload_10 (pc := 69) dL_isSo_69 ?_
          refine w_iconst (pc := 71) (v := 4) dL_isSo_71 (by decide) ?_
          refine w_idiv (pc := 72) dL_isSo_72 (by decide) ?_
          refine w_iload_10 (pc := 73) dL_isSo_73 ?_
          refine w_iconst (pc := 75) (v := 4) dL_isSo_75 (by decide) ?_
          refine w_irem (pc := 76) dL_isSo_76 (by decide) ?_
          refine w_callV_I (pc := 77) (c_BS_massAt hW hC) ok_X10_massAt t316 t317 kc10 (sBS_in hW.1) hW.1.2.1 t315 ⟨Nat.le_of_ble_eq_true rfl, Nat.le_of_ble_eq_true rfl⟩ ⟨rfl, rfl⟩ ⟨Nat.le_refl _, Nat.le_refl _⟩ rfl (Nat.le_of_ble_eq_true rfl) dL_isSo_77 ?_
          rw [m4, d4, qm_k hi]
          refine w_aload_2 (pc := 80) dL_isSo_80 ?_
          refine w_iload_10 (pc := 81) dL_isSo_81 ?_
          refine w_iald (pc := 83) (j := i) (sL_in hL (k := 1) (by decide)) hL.2.2.1 hz (by omega) (by decide) dL_isSo_83 ?_
          refine w_icmp_ne (pc := 84) (tgt := 115) dL_isSo_84 (by decide) (fun c84 => ?_) (fun c84 => ?_)
          · exact (c84 (hD.2.1 _ (by omega)).symm).elim
          · refine w_aload_0 (pc := 87) dL_isSo_87 ?_
            refine w_iload_10 (pc := 88) dL_isSo_88 ?_
            refine w_iconst (pc := 90) (v := 4) dL_isSo_90 (by decide) ?_
            refine w_idiv (pc := 91) dL_isSo_91 (by decide) ?_
            refine w_iconst (pc := 92) (v := -1) dL_isSo_92 (by decide) ?_
            refine w_callV_I (pc := 93) (c_BS_massAt hW hC) ok_X10_massAt t316 t317 kc10 (sBS_in hW.1) hW.1.2.1 t315 ⟨Nat.le_of_ble_eq_true rfl, Nat.le_of_ble_eq_true rfl⟩ ⟨rfl, rfl⟩ ⟨Nat.le_refl _, Nat.le_refl _⟩ rfl (Nat.le_of_ble_eq_true rfl) dL_isSo_93 ?_
            rw [d4, qm_m (by omega)]
            refine w_aload_2 (pc := 96) dL_isSo_96 ?_
            refine w_iload_10 (pc := 97) dL_isSo_97 ?_
            refine w_iconst (pc := 99) (v := 4) dL_isSo_99 (by decide) ?_
            refine w_idiv (pc := 100) dL_isSo_100 (by decide) ?_
            refine w_iload_10 (pc := 101) dL_isSo_101 ?_
            refine w_iconst (pc := 103) (v := 4) dL_isSo_103 (by decide) ?_
            refine w_idiv (pc := 104) dL_isSo_104 (by decide) ?_
            refine w_callS_I (pc := 105) (c_L_mass (f := i / 4) (t := i / 4) (sL_in hL (k := 1) (by decide)) hL.2.2.1 d4 d4 (by omega) (by omega)) ok_L_mass t371 t370 ⟨Nat.le_of_ble_eq_true rfl, Nat.le_of_ble_eq_true rfl⟩ ⟨rfl, rfl⟩ ⟨Nat.le_refl _, Nat.le_refl _⟩ rfl (Nat.le_of_ble_eq_true rfl) dL_isSo_105 ?_
            rw [ms_pl hD (by omega)]
            refine w_icmp_ne (pc := 108) (tgt := 115) dL_isSo_108 (by decide) (fun c108 => ?_) (fun c108 => ?_)
            · exact (c108 rfl).elim
            · refine w_iconst (pc := 111) (v := 1) dL_isSo_111 (by decide) ?_
              refine w_goto (pc := 112) (tgt := 116) dL_isSo_112 (by decide) ?_
              refine w_istore_6 (pc := 116) dL_isSo_116 rfl ?_
              refine w_iinc_10 (pc := 118) dL_isSo_118 rfl rfl ?_
              refine w_goto (pc := 121) (tgt := 21) dL_isSo_121 (by decide) ?_
              exact ih (i + 1) _ _ (by omega) (by omega) (by rw [hz]; exact nI_1 i) (by rw [hb, hu]; rfl)
        refine w_iload_10 (pc := 35) dL_isSo_35 ?_
        refine w_bipush (pc := 37) (v := 6) dL_isSo_37 (by decide) ?_
        refine w_irem (pc := 39) dL_isSo_39 (by decide) ?_
        refine w_iconst (pc := 40) (v := 4) dL_isSo_40 (by decide) ?_
        refine w_icmp_ge (pc := 41) (tgt := 64) dL_isSo_41 (by decide) (fun c41 => ?_) (fun c41 => ?_)
        · have hn : ¬ (i % 6 < 4 ∧ i / 6 < nB c.1) := fun h => by
            rw [m6] at c41
            have := (nx_cmp (x := 4) (a := 4) rfl (by omega) (rfl : nI (i % 6) = nI (i % 6)) (by omega)).1.mp c41
            omega
          refine w_iconst (pc := 64) (v := 0) dL_isSo_64 (by decide) ?_
          exact J65 _ (by rw [if_neg hn])
        · have h6 : i % 6 < 4 := by
            rw [m6] at c41
            exact nx_nle (x := 4) (a := 4) c41 rfl (by omega) (rfl : nI (i % 6) = nI (i % 6)) (by omega)
          refine w_iload_10 (pc := 44) dL_isSo_44 ?_
          refine w_bipush (pc := 46) (v := 6) dL_isSo_46 (by decide) ?_
          refine w_idiv (pc := 48) dL_isSo_48 (by decide) ?_
          refine w_aload_1 (pc := 49) dL_isSo_49 ?_
          refine w_bipush (pc := 50) (v := 12) dL_isSo_50 (by decide) ?_
          refine w_iald (pc := 52) (j := 12) (sL_in0 hL) hL.2.1 rfl (by decide) (by decide) dL_isSo_52 ?_
          refine w_icmp_ge (pc := 53) (tgt := 64) dL_isSo_53 (by decide) (fun c53 => ?_) (fun c53 => ?_)
          · have hn : ¬ (i % 6 < 4 ∧ i / 6 < nB c.1) := fun h => by
              have := (nx_cmp e12 (by omega) d6 (by omega)).1.mp c53
              omega
            refine w_iconst (pc := 64) (v := 0) dL_isSo_64 (by decide) ?_
            exact J65 _ (by rw [if_neg hn])
          · have hp : i % 6 < 4 ∧ i / 6 < nB c.1 := ⟨h6, nx_nle c53 e12 (by omega) d6 (by omega)⟩
            refine w_aload_4 (pc := 56) dL_isSo_56 ?_
            refine w_iload_10 (pc := 58) dL_isSo_58 ?_
            refine w_iald (pc := 60) (j := i) (sL_in hL (k := 3) (by decide)) hL.2.2.2.2.1 hz (by omega) (by decide) dL_isSo_60 ?_
            refine w_goto (pc := 61) (tgt := 65) dL_isSo_61 (by decide) ?_
            exact J65 _ (by rw [if_pos hp]; exact hD.2.2.2.1 _ (by omega))
  exact LA 49 0 _ _ (by omega) (by omega) rfl rfl
