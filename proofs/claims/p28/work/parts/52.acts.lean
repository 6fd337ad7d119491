theorem lg_lt0 {x y : Int64} : lg_cmp x y < 0 ↔ x < y := by
  rw [← Int32.not_le, ← Int64.not_le]
  exact not_congr (lg_cmp_ge x y)
theorem l64_ne {x : Int32} (h : 0 < x) : ¬ x.toInt64 = 0 := by
  intro e
  have e2 := congrArg Int64.toInt e
  rw [Int32.toInt_toInt64, show (0 : Int64).toInt = 0 by decide] at e2
  rw [ti_lt, ti_0] at h
  omega
theorem set_b2 {a : Nat} (ha : a < 19) : (-9 : Int32) ≤ nI a - 9 ∧ nI a - 9 ≤ 9 := by
  have e : (nI a - 9).toInt = (a : Int) - 9 := by
    have e9 : (9 : Int32).toInt = 9 := by decide
    rw [ti_sub, ti_nI (by omega), e9] <;> rw [ti_nI (by omega), e9] <;> omega
  rw [ti_le, ti_le, e, show (-9 : Int32).toInt = -9 by decide, show (9 : Int32).toInt = 9 by decide]
  omega
theorem bm4 {s : kV} {B : Nat} : s (81 + 6 * B) + s (81 + (6 * B + 1)) + s (81 + (6 * B + 2)) + s (81 + (6 * B + 3)) = bMass s B := by
  have e : bMass s B = 0 + s (81 + 6 * B + 0) + s (81 + 6 * B + 1) + s (81 + 6 * B + 2) + s (81 + 6 * B + 3) := rfl
  rw [e, Int32.zero_add, Nat.add_assoc 81 (6 * B) 1, Nat.add_assoc 81 (6 * B) 2, Nat.add_assoc 81 (6 * B) 3]
  first
    | done
    | rfl
theorem DR_acc {J : kI} {q : Nat} {s : kV} {w : Int32} (hS : SX s) (hA : nAc s < 8) (hD : DRo J q s) : DRo (kst (kst (kst J (q + 4) (2 * nAc s) w) (q + 4) (2 * nAc s + 1) 0) q 14 (s 14 + 1)) q (upd (upd (upd s (129 + 2 * nAc s) w) (130 + 2 * nAc s) 0) 14 (s 14 + 1)) := by
  have l6 := (SX_L hS).1
  have b := DR_a (k := 2 * nAc s + 1) (x := 0) (DR_a (k := 2 * nAc s) (x := w) hD l6 (by omega)) (by rw [nLo_u (by omega)]; exact l6) (by omega)
  rw [show 129 + (2 * nAc s + 1) = 130 + 2 * nAc s by omega] at b
  exact DR_g b (by omega) (by omega)
set_option maxHeartbeats 4000000 in
set_option maxRecDepth 100000 in
theorem c_L_acts {g : kG} {σ : kS} {I : kI} {r q : Nat} {T : Int} (hq : q = r + 102) (h : LSd g σ r q I T) (hTT : T ≤ 3900) {z : Int32} : ct g mL_acts ⟨8, 0, 0, 183⟩ [.ref r, .ref q, .ref (q + 1), .ref (q + 2), .ref (q + 3), .ref (q + 4), .int z] σ I (qRI σ (fun v F J => v = 1 ∧ LSd g (σ.1, σ.2.1, F) r q J (T + 60))) := by
  refine ct_of pnL rfl (Nat.le_of_ble_eq_true rfl) ok_L_acts.1 trivial ?_
  show wp _ _ _ _ _ _ _ _ 0 [some (.ref r), some (.ref q), some (.ref (q + 1)), some (.ref (q + 2)), some (.ref (q + 3)), some (.ref (q + 4)), some (.int z), none, none, none, none, none, none, none] []
  have h0 := h
  obtain ⟨x, c, f, hW, hC, hI, hL, hD, hTm⟩ := h
  have eB12 := (SX_B hI.1.1).2
  obtain ⟨a1, a2, a3, -⟩ := SX_A hI.1.1
  obtain ⟨l1, l2, -⟩ := SX_L hI.1.1
  have hA14 : I q 14 = nI (nAc c.1) := (hD.1 14 (by omega)).trans a3
  have nA14 : ¬ I q 14 = 0 := by rw [hA14]; exact fun e => absurd ((nI_eq (b := 0) (by omega) (by omega)).mp e) (by omega)
  refine w_iload_6 (pc := 0) dL_acts_0 ?_
  refine w_iconst (pc := 2) (v := 5) dL_acts_2 (by decide) ?_
  refine w_ishr (pc := 3) dL_acts_3 ?_
  refine w_ldc (pc := 4) (v := 10000000) t363 dL_acts_4 ?_
  refine w_callS_EI (pc := 6) (c_L_low (m := 10000000) rfl (by omega) (by omega)) ok_L_low t357 t356 ⟨Nat.le_of_ble_eq_true rfl, Nat.le_of_ble_eq_true rfl⟩ ⟨rfl, rfl⟩ ⟨Nat.le_refl _, Nat.le_refl _⟩ rfl (Nat.le_of_ble_eq_true rfl) dL_acts_6 (fun r6 I6 h6 => ?_)
  obtain ⟨e6, Y, hY, hy0⟩ := h6
  rw [e6]
  refine w_name (fun y ey => ?_)
  have hy : y = nI Y := ey.trans hy0
  refine w_istore_7 (pc := 9) dL_acts_9 rfl ?_
  refine w_iload_6 (pc := 11) dL_acts_11 ?_
  refine w_bipush (pc := 13) (v := 26) dL_acts_13 (by decide) ?_
  refine w_callS_EI (pc := 15) (c_L_low (m := 26) rfl (by omega) (by omega)) ok_L_low t357 t356 ⟨Nat.le_of_ble_eq_true rfl, Nat.le_of_ble_eq_true rfl⟩ ⟨rfl, rfl⟩ ⟨Nat.le_refl _, Nat.le_refl _⟩ rfl (Nat.le_of_ble_eq_true rfl) dL_acts_15 (fun r15 I15 h15 => ?_)
  obtain ⟨e15, W, hW26, hw0⟩ := h15
  rw [e15]
  refine w_name (fun way eway => ?_)
  refine w_istore_8 (pc := 18) dL_acts_18 rfl ?_
  refine w_iload_8 (pc := 20) dL_acts_20 ?_
  refine w_bipush (pc := 22) (v := 14) dL_acts_22 (by decide) ?_
  refine w_icmp_ge (pc := 24) (tgt := 86) dL_acts_24 (by decide) (fun c24 => ?_) (fun c24 => ?_)
  · refine w_iload_8 (pc := 86) dL_acts_86 ?_
    refine w_bipush (pc := 88) (v := 18) dL_acts_88 (by decide) ?_
    refine w_icmp_ge (pc := 90) (tgt := 212) dL_acts_90 (by decide) (fun c90 => ?_) (fun c90 => ?_)
    · refine w_iload_8 (pc := 212) dL_acts_212 ?_
      refine w_bipush (pc := 214) (v := 18) dL_acts_214 (by decide) ?_
      refine w_icmp_ne (pc := 216) (tgt := 251) dL_acts_216 (by decide) (fun c216 => ?_) (fun c216 => ?_)
      · refine w_iload_8 (pc := 251) dL_acts_251 ?_
        refine w_bipush (pc := 253) (v := 21) dL_acts_253 (by decide) ?_
        refine w_icmp_ge (pc := 255) (tgt := 328) dL_acts_255 (by decide) (fun c255 => ?_) (fun c255 => ?_)
        · refine w_iload_8 (pc := 328) dL_acts_328 ?_
          refine w_bipush (pc := 330) (v := 21) dL_acts_330 (by decide) ?_
          refine w_icmp_ne (pc := 332) (tgt := 518) dL_acts_332 (by decide) (fun c332 => ?_) (fun c332 => ?_)
          · refine w_iload_8 (pc := 518) dL_acts_518 ?_
            refine w_bipush (pc := 520) (v := 22) dL_acts_520 (by decide) ?_
            refine w_icmp_ne (pc := 522) (tgt := 612) dL_acts_522 (by decide) (fun c522 => ?_) (fun c522 => ?_)
            · refine w_iload_8 (pc := 612) dL_acts_612 ?_
              refine w_bipush (pc := 614) (v := 23) dL_acts_614 (by decide) ?_
              refine w_icmp_ne (pc := 616) (tgt := 678) dL_acts_616 (by decide) (fun c616 => ?_) (fun c616 => ?_)
              · refine w_iload_7 (pc := 678) dL_acts_678 ?_
                refine w_iconst (pc := 680) (v := 3) dL_acts_680 (by decide) ?_
                refine w_irem (pc := 681) dL_acts_681 (by decide) ?_
                refine w_name (fun κ eκ => ?_)
                have hκ : κ = nI (Y % 3) := eκ.trans (rem_i hy hY (d := 3) (D := 3) rfl (by omega) (by omega))
                have hy3 : y / 3 = nI (Y / 3) := div_i hy hY (d := 3) (D := 3) rfl (by omega) (by omega)
                refine w_istore_9 (pc := 682) dL_acts_682 rfl ?_
                refine w_aload_1 (pc := 684) dL_acts_684 ?_
                refine w_bipush (pc := 685) (v := 18) dL_acts_685 (by decide) ?_
                refine w_iload_9 (pc := 687) dL_acts_687 ?_
                refine w_iadd (pc := 689) dL_acts_689 ?_
                refine w_iald (pc := 690) (j := 18 + Y % 3) (sL_in0 hL) hL.2.1 (by rw [hκ]; exact nI_add 18 _) (by omega) (by decide) dL_acts_690 ?_
                refine w_istore_10 (pc := 691) dL_acts_691 rfl ?_
                refine w_aload_1 (pc := 693) dL_acts_693 ?_
                refine w_bipush (pc := 694) (v := 18) dL_acts_694 (by decide) ?_
                refine w_iload_9 (pc := 696) dL_acts_696 ?_
                refine w_iadd (pc := 698) dL_acts_698 ?_
                have J745 : ∀ (v : Int32), ((if κ = 2 then (-9 : Int32) else 1) ≤ v ∧ v ≤ (if κ = 0 then (500 : Int32) else if κ = 1 then 99 else 9)) → wp g mL_acts ⟨8, 0, 0, 183⟩ (fun _ => True) (qRI σ (fun v F J => v = 1 ∧ LSd g (σ.1, σ.2.1, F) r q J (T + 60))) (0, 0) σ I 745 [some (.ref r), some (.ref q), some (.ref (q + 1)), some (.ref (q + 2)), some (.ref (q + 3)), some (.ref (q + 4)), some (.int z), some (.int y), some (.int way), some (.int κ), some (.int (I q (18 + Y % 3))), none, none, none] [.int v, .int (18 + κ), .ref q] := by
                  intro v hv
                  refine w_iast (pc := 745) (j := 18 + Y % 3) (sL_in0 hL) hL.2.1 (by rw [hκ]; exact nI_add 18 _) (by omega) (by decide) dL_acts_745 ?_
                  refine w_aload_0 (pc := 746) dL_acts_746 ?_
                  refine w_iload_9 (pc := 747) dL_acts_747 ?_
                  refine w_aload_1 (pc := 749) dL_acts_749 ?_
                  refine w_bipush (pc := 750) (v := 18) dL_acts_750 (by decide) ?_
                  refine w_iload_9 (pc := 752) dL_acts_752 ?_
                  refine w_iadd (pc := 754) dL_acts_754 ?_
                  refine w_iald (pc := 755) (j := 18 + Y % 3) (sL_in0 hL) hL.2.1 (by rw [hκ]; exact nI_add 18 _) (by omega) (by decide) dL_acts_755 ?_
                  rw [kst_at, if_pos rfl]
                  refine w_callV_RI (pc := 756) (c_BS_set hW (CR_fr hq hW hC (frL_k frL_r (by omega)))) ok_X10_set t603 t604 kc10 (sBS_in hW.1) hW.1.2.1 t602 ⟨Nat.le_of_ble_eq_true rfl, Nat.le_of_ble_eq_true rfl⟩ ⟨rfl, rfl⟩ ⟨Nat.le_refl _, Nat.le_refl _⟩ rfl (Nat.le_of_ble_eq_true rfl) dL_acts_756 (fun r756 G756 I756 h756 => ?_)
                  obtain ⟨v756, P756⟩ := h756
                  obtain ⟨o1, o2⟩ := op_set hI hκ (by omega) hv
                  refine w_iload_10 (pc := 759) dL_acts_759 ?_
                  refine w_icmp_ne (pc := 761) (tgt := 768) dL_acts_761 (by decide) (fun c761 => ?_) (fun c761 => ?_)
                  · exact (c761 (by rw [v756, o1, hD.1 _ (by omega)])).elim
                  · refine w_iconst (pc := 764) (v := 1) dL_acts_764 (by decide) ?_
                    refine w_goto (pc := 765) (tgt := 769) dL_acts_765 (by decide) ?_
                    refine w_zret (pc := 769) rfl (by decide) ⟨Nat.le_refl _, Nat.le_refl _⟩ dL_acts_769 ?_
                    exact ⟨_, rfl, rfl, rfl, rfl, LSd_s hq P756 hL (DR_g hD (by omega) (by omega)) o2 (by rw [upd_ne (by omega)]; omega) (by rw [o1])⟩
                refine w_iload_9 (pc := 699) dL_acts_699 ?_
                refine w_if_ne (pc := 701) (tgt := 717) dL_acts_701 (by decide) (fun c701 => ?_) (fun c701 => ?_)
                · refine w_iload_9 (pc := 717) dL_acts_717 ?_
                  refine w_iconst (pc := 719) (v := 1) dL_acts_719 (by decide) ?_
                  refine w_icmp_ne (pc := 720) (tgt := 735) dL_acts_720 (by decide) (fun c720 => ?_) (fun c720 => ?_)
                  · refine w_iload_7 (pc := 735) dL_acts_735 ?_
                    refine w_iconst (pc := 737) (v := 3) dL_acts_737 (by decide) ?_
                    refine w_idiv (pc := 738) dL_acts_738 (by decide) ?_
                    refine w_bipush (pc := 739) (v := 19) dL_acts_739 (by decide) ?_
                    refine w_irem (pc := 741) dL_acts_741 (by decide) ?_
                    refine w_bipush (pc := 742) (v := 9) dL_acts_742 (by decide) ?_
                    refine w_isub (pc := 744) dL_acts_744 ?_
                    exact J745 _ (by
                      have k2 : Y % 3 = 2 := by
                        have n0 : ¬ Y % 3 = 0 := fun e => c701 (by rw [hκ, e]; rfl)
                        have n1 : ¬ Y % 3 = 1 := fun e => c720 (by rw [hκ, e]; rfl)
                        omega
                      have e2 : κ = 2 := by rw [hκ, k2]; rfl
                      rw [if_pos e2, if_neg c701, if_neg c720, rem_i hy3 (by omega) (d := 19) (D := 19) rfl (by omega) (by omega)]
                      exact set_b2 (Nat.mod_lt _ (by omega)))
                  · refine w_iconst (pc := 723) (v := 1) dL_acts_723 (by decide) ?_
                    refine w_iload_7 (pc := 724) dL_acts_724 ?_
                    refine w_iconst (pc := 726) (v := 3) dL_acts_726 (by decide) ?_
                    refine w_idiv (pc := 727) dL_acts_727 (by decide) ?_
                    refine w_bipush (pc := 728) (v := 40) dL_acts_728 (by decide) ?_
                    refine w_irem (pc := 730) dL_acts_730 (by decide) ?_
                    refine w_iadd (pc := 731) dL_acts_731 ?_
                    refine w_goto (pc := 732) (tgt := 745) dL_acts_732 (by decide) ?_
                    exact J745 _ (by
                      have e : 1 + (y / 3 - y / 3 / 40 * 40) = nI (1 + Y / 3 % 40) := by rw [rem_i hy3 (by omega) (d := 40) (D := 40) rfl (by omega) (by omega)]; exact nI_add 1 _
                      rw [e, if_neg (by rw [c720]; decide), if_neg c701, if_pos c720]
                      exact nI_rg (a := 1) (b := 99) (by omega) (by omega) (by omega))
                · refine w_iconst (pc := 704) (v := 1) dL_acts_704 (by decide) ?_
                  refine w_iload_7 (pc := 705) dL_acts_705 ?_
                  refine w_iconst (pc := 707) (v := 3) dL_acts_707 (by decide) ?_
                  refine w_idiv (pc := 708) dL_acts_708 (by decide) ?_
                  refine w_sipush (pc := 709) (v := 300) dL_acts_709 (by decide) ?_
                  refine w_irem (pc := 712) dL_acts_712 (by decide) ?_
                  refine w_iadd (pc := 713) dL_acts_713 ?_
                  refine w_goto (pc := 714) (tgt := 745) dL_acts_714 (by decide) ?_
                  exact J745 _ (by
                    have e : 1 + (y / 3 - y / 3 / 300 * 300) = nI (1 + Y / 3 % 300) := by rw [rem_i hy3 (by omega) (d := 300) (D := 300) rfl (by omega) (by omega)]; exact nI_add 1 _
                    rw [e, if_neg (by rw [c701]; decide), if_pos c701]
                    exact nI_rg (a := 1) (b := 500) (by omega) (by omega) (by omega))
              · have h4 : y - y / 4 * 4 = nI (Y % 4) := rem_i hy hY (d := 4) (D := 4) rfl (by omega) (by omega)
                have hy4 : y / 4 = nI (Y / 4) := div_i hy hY (d := 4) (D := 4) rfl (by omega) (by omega)
                have hb : y / 4 - y / 4 / I q 14 * I q 14 = nI (Y / 4 % nAc c.1) := rem_i hy4 (by omega) hA14 (by omega) (by omega)
                have hbA : Y / 4 % nAc c.1 < nAc c.1 := Nat.mod_lt _ (by omega)
                obtain ⟨o1, o2⟩ := op_book hI (κ := nI (Y % 4)) (a := nI (Y / 4 % nAc c.1)) rfl (by omega) rfl hbA
                have D2 : DRo (kst I (q + 4) (16 + Y % 4) (nI (Y / 4 % nAc c.1))) q (upd c.1 (145 + Y % 4) (nI (Y / 4 % nAc c.1))) := by
                  have b := DR_a (k := 16 + Y % 4) (x := nI (Y / 4 % nAc c.1)) hD l1 (by omega)
                  rw [show 129 + (16 + Y % 4) = 145 + Y % 4 by omega] at b
                  exact b
                refine w_aload_5 (pc := 619) dL_acts_619 ?_
                refine w_bipush (pc := 621) (v := 16) dL_acts_621 (by decide) ?_
                refine w_iload_7 (pc := 623) dL_acts_623 ?_
                refine w_iconst (pc := 625) (v := 4) dL_acts_625 (by decide) ?_
                refine w_irem (pc := 626) dL_acts_626 (by decide) ?_
                rw [h4]
                refine w_iadd (pc := 627) dL_acts_627 ?_
                refine w_iald (pc := 628) (j := 16 + Y % 4) (sL_in hL (k := 4) (by decide)) hL.2.2.2.2.2 (nI_add 16 _) (by omega) (by decide) dL_acts_628 ?_
                refine w_istore_9 (pc := 629) dL_acts_629 rfl ?_
                refine w_aload_5 (pc := 631) dL_acts_631 ?_
                refine w_bipush (pc := 633) (v := 16) dL_acts_633 (by decide) ?_
                refine w_iload_7 (pc := 635) dL_acts_635 ?_
                refine w_iconst (pc := 637) (v := 4) dL_acts_637 (by decide) ?_
                refine w_irem (pc := 638) dL_acts_638 (by decide) ?_
                rw [h4]
                refine w_iadd (pc := 639) dL_acts_639 ?_
                refine w_iload_7 (pc := 640) dL_acts_640 ?_
                refine w_iconst (pc := 642) (v := 4) dL_acts_642 (by decide) ?_
                refine w_idiv (pc := 643) dL_acts_643 (by decide) ?_
                refine w_aload_1 (pc := 644) dL_acts_644 ?_
                refine w_bipush (pc := 645) (v := 14) dL_acts_645 (by decide) ?_
                refine w_iald (pc := 647) (j := 14) (sL_in0 hL) hL.2.1 rfl (by decide) (by decide) dL_acts_647 ?_
                refine w_irem (pc := 648) dL_acts_648 nA14 ?_
                rw [hb]
                refine w_iast (pc := 649) (j := 16 + Y % 4) (sL_in hL (k := 4) (by decide)) hL.2.2.2.2.2 (nI_add 16 _) (by omega) (by decide) dL_acts_649 ?_
                refine w_aload_0 (pc := 650) dL_acts_650 ?_
                refine w_iload_7 (pc := 651) dL_acts_651 ?_
                refine w_iconst (pc := 653) (v := 4) dL_acts_653 (by decide) ?_
                refine w_irem (pc := 654) dL_acts_654 (by decide) ?_
                refine w_iload_7 (pc := 655) dL_acts_655 ?_
                refine w_iconst (pc := 657) (v := 4) dL_acts_657 (by decide) ?_
                refine w_idiv (pc := 658) dL_acts_658 (by decide) ?_
                refine w_aload_1 (pc := 659) dL_acts_659 ?_
                refine w_bipush (pc := 660) (v := 14) dL_acts_660 (by decide) ?_
                refine w_iald (pc := 662) (j := 14) (sL_in0 hL) hL.2.1 rfl (by decide) (by decide) dL_acts_662 ?_
                rw [kst_n (by omega)]
                refine w_irem (pc := 663) dL_acts_663 nA14 ?_
                rw [hb, h4]
                refine w_callV_RI (pc := 664) (c_BS_book hW (CR_fr hq hW hC (frL_k frL_r (by omega)))) ok_X10_book t594 t595 kc10 (sBS_in hW.1) hW.1.2.1 t593 ⟨Nat.le_of_ble_eq_true rfl, Nat.le_of_ble_eq_true rfl⟩ ⟨rfl, rfl⟩ ⟨Nat.le_refl _, Nat.le_refl _⟩ rfl (Nat.le_of_ble_eq_true rfl) dL_acts_664 (fun r664 G664 I664 h664 => ?_)
                obtain ⟨v664, P664⟩ := h664
                refine w_iload_9 (pc := 667) dL_acts_667 ?_
                refine w_icmp_ne (pc := 669) (tgt := 676) dL_acts_669 (by decide) (fun c669 => ?_) (fun c669 => ?_)
                · exact (c669 (by rw [v664, o1, hD.2.2.2.2 _ (by omega), show 129 + (16 + Y % 4) = 145 + Y % 4 by omega])).elim
                · refine w_iconst (pc := 672) (v := 1) dL_acts_672 (by decide) ?_
                  refine w_goto (pc := 673) (tgt := 677) dL_acts_673 (by decide) ?_
                  refine w_zret (pc := 677) rfl (by decide) ⟨Nat.le_refl _, Nat.le_refl _⟩ dL_acts_677 ?_
                  exact ⟨_, rfl, rfl, rfl, rfl, LSd_s hq P664 hL (D2) o2 (by rw [upd_ne (by omega)]; omega) (by rw [o1])⟩
            · refine w_iload_7 (pc := 525) dL_acts_525 ?_
              refine w_aload_1 (pc := 527) dL_acts_527 ?_
              refine w_bipush (pc := 528) (v := 14) dL_acts_528 (by decide) ?_
              refine w_iald (pc := 530) (j := 14) (sL_in0 hL) hL.2.1 rfl (by decide) (by decide) dL_acts_530 ?_
              refine w_irem (pc := 531) dL_acts_531 nA14 ?_
              refine w_name (fun u eu => ?_)
              have hu : u = nI (Y % nAc c.1) := eu.trans (rem_i hy hY hA14 (by omega) (by omega))
              have huA : Y % nAc c.1 < nAc c.1 := Nat.mod_lt _ (by omega)
              refine w_istore_9 (pc := 532) dL_acts_532 rfl ?_
              refine w_aload_1 (pc := 534) dL_acts_534 ?_
              refine w_bipush (pc := 535) (v := 14) dL_acts_535 (by decide) ?_
              refine w_iald (pc := 537) (j := 14) (sL_in0 hL) hL.2.1 rfl (by decide) (by decide) dL_acts_537 ?_
              refine w_bipush (pc := 538) (v := 8) dL_acts_538 (by decide) ?_
              refine w_icmp_ne (pc := 540) (tgt := 560) dL_acts_540 (by decide) (fun c540 => ?_) (fun c540 => ?_)
              · have n14 : ¬ c.1 14 = 8 := by rw [← hD.1 14 (by omega)]; exact c540
                obtain ⟨b8, o1, o2⟩ := (op_account hI hu huA).2 n14
                have D2 := DR_acc (w := u) hI.1.1 b8 hD
                have hF2 : frL q I (kst (kst (kst I (q + 4) (2 * nAc c.1) u) (q + 4) (2 * nAc c.1 + 1) 0) q 14 (c.1 14 + 1)) := frL_k (frL_k (frL_k frL_r (by omega)) (by omega)) (by omega)
                refine w_aload_5 (pc := 560) dL_acts_560 ?_
                refine w_iconst (pc := 562) (v := 2) dL_acts_562 (by decide) ?_
                refine w_aload_1 (pc := 563) dL_acts_563 ?_
                refine w_bipush (pc := 564) (v := 14) dL_acts_564 (by decide) ?_
                refine w_iald (pc := 566) (j := 14) (sL_in0 hL) hL.2.1 rfl (by decide) (by decide) dL_acts_566 ?_
                rw [hD.1 14 (by omega), a3]
                refine w_imul (pc := 567) dL_acts_567 ?_
                refine w_iload_9 (pc := 568) dL_acts_568 ?_
                refine w_iast (pc := 570) (j := 2 * nAc c.1) (sL_in hL (k := 4) (by decide)) hL.2.2.2.2.2 (by rw [show (2 : Int32) = nI 2 from rfl, pk_mul]) (by omega) (by decide) dL_acts_570 ?_
                refine w_aload_5 (pc := 571) dL_acts_571 ?_
                refine w_iconst (pc := 573) (v := 2) dL_acts_573 (by decide) ?_
                refine w_aload_1 (pc := 574) dL_acts_574 ?_
                refine w_bipush (pc := 575) (v := 14) dL_acts_575 (by decide) ?_
                refine w_iald (pc := 577) (j := 14) (sL_in0 hL) hL.2.1 rfl (by decide) (by decide) dL_acts_577 ?_
                rw [kst_n (by omega), hD.1 14 (by omega), a3]
                refine w_imul (pc := 578) dL_acts_578 ?_
                refine w_iconst (pc := 579) (v := 1) dL_acts_579 (by decide) ?_
                refine w_iadd (pc := 580) dL_acts_580 ?_
                refine w_iconst (pc := 581) (v := 0) dL_acts_581 (by decide) ?_
                refine w_iast (pc := 582) (j := 2 * nAc c.1 + 1) (sL_in hL (k := 4) (by decide)) hL.2.2.2.2.2 (by rw [show (2 : Int32) = nI 2 from rfl, pk_mul]; exact nI_add (2 * nAc c.1) 1) (by omega) (by decide) dL_acts_582 ?_
                refine w_aload_1 (pc := 583) dL_acts_583 ?_
                refine w_bipush (pc := 584) (v := 14) dL_acts_584 (by decide) ?_
                refine w_dup2 (pc := 586) dL_acts_586 ?_
                refine w_iald (pc := 587) (j := 14) (sL_in0 hL) hL.2.1 rfl (by decide) (by decide) dL_acts_587 ?_
                refine w_iconst (pc := 588) (v := 1) dL_acts_588 (by decide) ?_
                refine w_iadd (pc := 589) dL_acts_589 ?_
                rw [kst_n (by omega), kst_n (by omega), hD.1 14 (by omega)]
                refine w_iast (pc := 590) (j := 14) (sL_in0 hL) hL.2.1 rfl (by decide) (by decide) dL_acts_590 ?_
                refine w_aload_0 (pc := 591) dL_acts_591 ?_
                refine w_iload_9 (pc := 592) dL_acts_592 ?_
                refine w_callV_RI (pc := 594) (c_BS_account hW (CR_fr hq hW hC hF2)) ok_X10_account t580 t581 kc10 (sBS_in hW.1) hW.1.2.1 t579 ⟨Nat.le_of_ble_eq_true rfl, Nat.le_of_ble_eq_true rfl⟩ ⟨rfl, rfl⟩ ⟨Nat.le_refl _, Nat.le_refl _⟩ rfl (Nat.le_of_ble_eq_true rfl) dL_acts_594 (fun r594 G594 I594 h594 => ?_)
                obtain ⟨v594, P594⟩ := h594
                have D594 := DR_out D2 (PW_out hq P594)
                refine w_aload_1 (pc := 597) dL_acts_597 ?_
                refine w_bipush (pc := 598) (v := 14) dL_acts_598 (by decide) ?_
                refine w_iald (pc := 600) (j := 14) (sL_in0 hL) hL.2.1 rfl (by decide) (by decide) dL_acts_600 ?_
                refine w_iconst (pc := 601) (v := 1) dL_acts_601 (by decide) ?_
                refine w_isub (pc := 602) dL_acts_602 ?_
                refine w_icmp_ne (pc := 603) (tgt := 610) dL_acts_603 (by decide) (fun c603 => ?_) (fun c603 => ?_)
                · exact (c603 (by rw [v594, o1, D594.1 14 (by omega), upd_s, Int32.add_sub_cancel])).elim
                · refine w_iconst (pc := 606) (v := 1) dL_acts_606 (by decide) ?_
                  refine w_goto (pc := 607) (tgt := 611) dL_acts_607 (by decide) ?_
                  refine w_zret (pc := 611) rfl (by decide) ⟨Nat.le_refl _, Nat.le_refl _⟩ dL_acts_611 ?_
                  exact ⟨_, rfl, rfl, rfl, rfl, LSd_s hq P594 hL (D2) o2 (by rw [upd_ne (by omega), upd_ne (by omega), upd_ne (by omega)]; omega) (by rw [o1])⟩
              · have p14 : c.1 14 = 8 := by rw [← hD.1 14 (by omega)]; exact c540
                refine w_aload_0 (pc := 543) dL_acts_543 ?_
                refine w_iload_9 (pc := 544) dL_acts_544 ?_
                refine w_callV_RI (pc := 546) (c_BS_account hW hC) ok_X10_account t580 t581 kc10 (sBS_in hW.1) hW.1.2.1 t579 ⟨Nat.le_of_ble_eq_true rfl, Nat.le_of_ble_eq_true rfl⟩ ⟨rfl, rfl⟩ ⟨Nat.le_refl _, Nat.le_refl _⟩ rfl (Nat.le_of_ble_eq_true rfl) dL_acts_546 (fun r546 G546 I546 h546 => ?_)
                obtain ⟨v546, P546⟩ := h546
                have o1 := (op_account hI hu huA).1 p14
                refine w_ldc (pc := 549) (v := -1000003) t518 dL_acts_549 ?_
                refine w_icmp_ne (pc := 551) (tgt := 558) dL_acts_551 (by decide) (fun c551 => ?_) (fun c551 => ?_)
                · exact (c551 (by rw [v546, o1])).elim
                · refine w_iconst (pc := 554) (v := 1) dL_acts_554 (by decide) ?_
                  refine w_goto (pc := 555) (tgt := 559) dL_acts_555 (by decide) ?_
                  refine w_zret (pc := 559) rfl (by decide) ⟨Nat.le_refl _, Nat.le_refl _⟩ dL_acts_559 ?_
                  exact ⟨_, rfl, rfl, rfl, rfl, LSd_n hq P546 hL hD hI (by omega) (by rw [o1])⟩
          · have J353 : ∀ (bv : Int32), ((c.1 12 = 0 ∧ bv = 0) ∨ ∃ B, B < nB c.1 ∧ bv = nI B) → wp g mL_acts ⟨8, 0, 0, 183⟩ (fun _ => True) (qRI σ (fun v F J => v = 1 ∧ LSd g (σ.1, σ.2.1, F) r q J (T + 60))) (0, 0) σ I 353 [some (.ref r), some (.ref q), some (.ref (q + 1)), some (.ref (q + 2)), some (.ref (q + 3)), some (.ref (q + 4)), some (.int z), some (.int y), some (.int way), none, none, none, none, none] [.int bv] := by
              intro bv hbv
              refine w_istore_9 (pc := 353) dL_acts_353 rfl ?_
              refine w_aload_1 (pc := 355) dL_acts_355 ?_
              refine w_bipush (pc := 356) (v := 12) dL_acts_356 (by decide) ?_
              refine w_iald (pc := 358) (j := 12) (sL_in0 hL) hL.2.1 rfl (by decide) (by decide) dL_acts_358 ?_
              refine w_if_ne (pc := 359) (tgt := 378) dL_acts_359 (by decide) (fun c359 => ?_) (fun c359 => ?_)
              · obtain ⟨B, hB, hbB⟩ := hbv.resolve_left (fun h => c359 (by rw [hD.1 12 (by omega)]; exact h.1))
                have b8 := (SX_B hI.1.1).1
                have e85 : c.1 (81 + (6 * B + 4)) = c.1 (85 + 6 * B) := by rw [show 81 + (6 * B + 4) = 85 + 6 * B by omega]
                refine w_aload_4 (pc := 378) dL_acts_378 ?_
                refine w_bipush (pc := 380) (v := 6) dL_acts_380 (by decide) ?_
                refine w_iload_9 (pc := 382) dL_acts_382 ?_
                refine w_imul (pc := 384) dL_acts_384 ?_
                refine w_iconst (pc := 385) (v := 4) dL_acts_385 (by decide) ?_
                refine w_iadd (pc := 386) dL_acts_386 ?_
                refine w_iald (pc := 387) (j := 6 * B + 4) (sL_in hL (k := 3) (by decide)) hL.2.2.2.2.1 (by rw [hbB, show (6 : Int32) = nI 6 from rfl, pk_mul]; exact nI_add (6 * B) 4) (by omega) (by decide) dL_acts_387 ?_
                rw [hD.2.2.2.1 _ (by omega)]
                refine w_name (fun gr hgr => ?_)
                refine w_istore_10 (pc := 388) dL_acts_388 rfl ?_
                refine w_aload_4 (pc := 390) dL_acts_390 ?_
                refine w_bipush (pc := 392) (v := 6) dL_acts_392 (by decide) ?_
                refine w_iload_9 (pc := 394) dL_acts_394 ?_
                refine w_imul (pc := 396) dL_acts_396 ?_
                refine w_iald (pc := 397) (j := 6 * B) (sL_in hL (k := 3) (by decide)) hL.2.2.2.2.1 (by rw [hbB, show (6 : Int32) = nI 6 from rfl, pk_mul]) (by omega) (by decide) dL_acts_397 ?_
                refine w_aload_4 (pc := 398) dL_acts_398 ?_
                refine w_bipush (pc := 400) (v := 6) dL_acts_400 (by decide) ?_
                refine w_iload_9 (pc := 402) dL_acts_402 ?_
                refine w_imul (pc := 404) dL_acts_404 ?_
                refine w_iconst (pc := 405) (v := 1) dL_acts_405 (by decide) ?_
                refine w_iadd (pc := 406) dL_acts_406 ?_
                refine w_iald (pc := 407) (j := 6 * B + 1) (sL_in hL (k := 3) (by decide)) hL.2.2.2.2.1 (by rw [hbB, show (6 : Int32) = nI 6 from rfl, pk_mul]; exact nI_add (6 * B) 1) (by omega) (by decide) dL_acts_407 ?_
                refine w_iadd (pc := 408) dL_acts_408 ?_
                refine w_aload_4 (pc := 409) dL_acts_409 ?_
                refine w_bipush (pc := 411) (v := 6) dL_acts_411 (by decide) ?_
                refine w_iload_9 (pc := 413) dL_acts_413 ?_
                refine w_imul (pc := 415) dL_acts_415 ?_
                refine w_iconst (pc := 416) (v := 2) dL_acts_416 (by decide) ?_
                refine w_iadd (pc := 417) dL_acts_417 ?_
                refine w_iald (pc := 418) (j := 6 * B + 2) (sL_in hL (k := 3) (by decide)) hL.2.2.2.2.1 (by rw [hbB, show (6 : Int32) = nI 6 from rfl, pk_mul]; exact nI_add (6 * B) 2) (by omega) (by decide) dL_acts_418 ?_
                refine w_iadd (pc := 419) dL_acts_419 ?_
                refine w_aload_4 (pc := 420) dL_acts_420 ?_
                refine w_bipush (pc := 422) (v := 6) dL_acts_422 (by decide) ?_
                refine w_iload_9 (pc := 424) dL_acts_424 ?_
                refine w_imul (pc := 426) dL_acts_426 ?_
                refine w_iconst (pc := 427) (v := 3) dL_acts_427 (by decide) ?_
                refine w_iadd (pc := 428) dL_acts_428 ?_
                refine w_iald (pc := 429) (j := 6 * B + 3) (sL_in hL (k := 3) (by decide)) hL.2.2.2.2.1 (by rw [hbB, show (6 : Int32) = nI 6 from rfl, pk_mul]; exact nI_add (6 * B) 3) (by omega) (by decide) dL_acts_429 ?_
                refine w_iadd (pc := 430) dL_acts_430 ?_
                rw [hD.2.2.2.1 _ (by omega), hD.2.2.2.1 _ (by omega), hD.2.2.2.1 _ (by omega), hD.2.2.2.1 _ (by omega), bm4]
                refine w_istore_11 (pc := 431) dL_acts_431 rfl ?_
                have J455 : ∀ (fl : Int64), fl = facL c.1 B → wp g mL_acts ⟨8, 0, 0, 183⟩ (fun _ => True) (qRI σ (fun v F J => v = 1 ∧ LSd g (σ.1, σ.2.1, F) r q J (T + 60))) (0, 0) σ I 455 [some (.ref r), some (.ref q), some (.ref (q + 1)), some (.ref (q + 2)), some (.ref (q + 3)), some (.ref (q + 4)), some (.int z), some (.int y), some (.int way), some (.int bv), some (.int gr), some (.int (bMass c.1 B)), none, none] [.long fl] := by
                  intro fl hfl
                  refine w_lstore_12 (pc := 455) dL_acts_455 rfl ?_
                  have J475 : (facL c.1 B < 500 ∨ 2000 < facL c.1 B) → wp g mL_acts ⟨8, 0, 0, 183⟩ (fun _ => True) (qRI σ (fun v F J => v = 1 ∧ LSd g (σ.1, σ.2.1, F) r q J (T + 60))) (0, 0) σ I 475 [some (.ref r), some (.ref q), some (.ref (q + 1)), some (.ref (q + 2)), some (.ref (q + 3)), some (.ref (q + 4)), some (.int z), some (.int y), some (.int way), some (.int bv), some (.int gr), some (.int (bMass c.1 B)), some (.long fl), none] [] := by
                    intro hf
                    refine w_aload_0 (pc := 475) dL_acts_475 ?_
                    refine w_iload_9 (pc := 476) dL_acts_476 ?_
                    refine w_callV_RI (pc := 478) (c_BS_correct hW hC) ok_X10_correct t559 t560 kc10 (sBS_in hW.1) hW.1.2.1 t558 ⟨Nat.le_of_ble_eq_true rfl, Nat.le_of_ble_eq_true rfl⟩ ⟨rfl, rfl⟩ ⟨Nat.le_refl _, Nat.le_refl _⟩ rfl (Nat.le_of_ble_eq_true rfl) dL_acts_478 (fun r478 G478 I478 h478 => ?_)
                    obtain ⟨v478, P478⟩ := h478
                    have o1 := (op_correct hI hbB hB).1 hf
                    refine w_ldc (pc := 481) (v := -1000002) t509 dL_acts_481 ?_
                    refine w_icmp_ne (pc := 483) (tgt := 490) dL_acts_483 (by decide) (fun c483 => ?_) (fun c483 => ?_)
                    · exact (c483 (by rw [v478, o1])).elim
                    · refine w_iconst (pc := 486) (v := 1) dL_acts_486 (by decide) ?_
                      refine w_goto (pc := 487) (tgt := 491) dL_acts_487 (by decide) ?_
                      refine w_zret (pc := 491) rfl (by decide) ⟨Nat.le_refl _, Nat.le_refl _⟩ dL_acts_491 ?_
                      exact ⟨_, rfl, rfl, rfl, rfl, LSd_n hq P478 hL hD hI (by omega) (by rw [o1])⟩
                  refine w_lload_12 (pc := 457) dL_acts_457 ?_
                  refine w_ldc2 (pc := 459) (v := 500) t577 dL_acts_459 ?_
                  refine w_lcmp (pc := 462) dL_acts_462 ?_
                  refine w_if_lt (pc := 463) (tgt := 475) dL_acts_463 (by decide) (fun c463 => ?_) (fun c463 => ?_)
                  · have hf : facL c.1 B < 500 ∨ 2000 < facL c.1 B := Or.inl (by rw [← hfl]; exact lg_lt0.mp c463)
                    exact J475 hf
                  · refine w_lload_12 (pc := 466) dL_acts_466 ?_
                    refine w_ldc2 (pc := 468) (v := 2000) t578 dL_acts_468 ?_
                    refine w_lcmp (pc := 471) dL_acts_471 ?_
                    refine w_if_le (pc := 472) (tgt := 492) dL_acts_472 (by decide) (fun c472 => ?_) (fun c472 => ?_)
                    · have hf : ¬ (facL c.1 B < 500 ∨ 2000 < facL c.1 B) := fun h => h.elim (fun h => c463 (lg_lt0.mpr (by rw [hfl]; exact h))) (fun h => absurd h (Int64.not_lt.mpr (by rw [← hfl]; exact (lg_cmp_le fl 2000).mp c472)))
                      obtain ⟨o1, o2⟩ := (op_correct hI hbB hB).2 hf
                      refine w_aload_1 (pc := 492) dL_acts_492 ?_
                      refine w_bipush (pc := 493) (v := 7) dL_acts_493 (by decide) ?_
                      refine w_lload_12 (pc := 495) dL_acts_495 ?_
                      refine w_l2i (pc := 497) dL_acts_497 ?_
                      rw [hfl]
                      refine w_iast (pc := 498) (j := 7) (sL_in0 hL) hL.2.1 rfl (by decide) (by decide) dL_acts_498 ?_
                      refine w_aload_0 (pc := 499) dL_acts_499 ?_
                      refine w_iload_9 (pc := 500) dL_acts_500 ?_
                      refine w_callV_RI (pc := 502) (c_BS_correct hW (CR_fr hq hW hC (frL_k frL_r (by omega)))) ok_X10_correct t559 t560 kc10 (sBS_in hW.1) hW.1.2.1 t558 ⟨Nat.le_of_ble_eq_true rfl, Nat.le_of_ble_eq_true rfl⟩ ⟨rfl, rfl⟩ ⟨Nat.le_refl _, Nat.le_refl _⟩ rfl (Nat.le_of_ble_eq_true rfl) dL_acts_502 (fun r502 G502 I502 h502 => ?_)
                      obtain ⟨v502, P502⟩ := h502
                      have D2 : DRo (kst I q 7 (facL c.1 B).toInt32) q (upd c.1 7 (facL c.1 B).toInt32) := DR_g hD (by omega) (by omega)
                      have D502 := DR_out D2 (PW_out hq P502)
                      refine w_aload_1 (pc := 505) dL_acts_505 ?_
                      refine w_bipush (pc := 506) (v := 7) dL_acts_506 (by decide) ?_
                      refine w_iald (pc := 508) (j := 7) (sL_in0 hL) hL.2.1 rfl (by decide) (by decide) dL_acts_508 ?_
                      refine w_icmp_ne (pc := 509) (tgt := 516) dL_acts_509 (by decide) (fun c509 => ?_) (fun c509 => ?_)
                      · exact (c509 (by rw [v502, o1, D502.1 7 (by omega), upd_s])).elim
                      · refine w_iconst (pc := 512) (v := 1) dL_acts_512 (by decide) ?_
                        refine w_goto (pc := 513) (tgt := 517) dL_acts_513 (by decide) ?_
                        refine w_zret (pc := 517) rfl (by decide) ⟨Nat.le_refl _, Nat.le_refl _⟩ dL_acts_517 ?_
                        exact ⟨_, rfl, rfl, rfl, rfl, LSd_s hq P502 hL (D2) o2 (by rw [upd_ne (by omega)]; omega) (by rw [o1])⟩
                    · exact J475 (Or.inr (by rw [← hfl]; exact Int64.not_le.mp (fun h => c472 ((lg_cmp_le fl 2000).mpr h))))
                refine w_iload_10 (pc := 433) dL_acts_433 ?_
                refine w_if_le (pc := 435) (tgt := 452) dL_acts_435 (by decide) (fun c435 => ?_) (fun c435 => ?_)
                · refine w_ldc2 (pc := 452) (v := -1) t576 dL_acts_452 ?_
                  exact J455 _ (by rw [facL, if_neg (by rw [← e85, ← hgr]; exact Int32.not_lt.mpr c435)])
                · refine w_ldc2 (pc := 438) (v := 1000) t575 dL_acts_438 ?_
                  refine w_iload_11 (pc := 441) dL_acts_441 ?_
                  refine w_i2l (pc := 443) dL_acts_443 ?_
                  refine w_lmul (pc := 444) dL_acts_444 ?_
                  refine w_iload_10 (pc := 445) dL_acts_445 ?_
                  refine w_i2l (pc := 447) dL_acts_447 ?_
                  refine w_ldiv (pc := 448) dL_acts_448 (l64_ne (Int32.not_le.mp c435)) ?_
                  refine w_goto (pc := 449) (tgt := 455) dL_acts_449 (by decide) ?_
                  exact J455 _ (by rw [facL, if_pos (by rw [← e85, ← hgr]; exact Int32.not_le.mp c435), ← e85, ← hgr])
              · have z12 : c.1 12 = 0 := by rw [← hD.1 12 (by omega)]; exact c359
                refine w_aload_0 (pc := 362) dL_acts_362 ?_
                refine w_iconst (pc := 363) (v := 0) dL_acts_363 (by decide) ?_
                refine w_callV_RI (pc := 364) (c_BS_correct hW hC) ok_X10_correct t559 t560 kc10 (sBS_in hW.1) hW.1.2.1 t558 ⟨Nat.le_of_ble_eq_true rfl, Nat.le_of_ble_eq_true rfl⟩ ⟨rfl, rfl⟩ ⟨Nat.le_refl _, Nat.le_refl _⟩ rfl (Nat.le_of_ble_eq_true rfl) dL_acts_364 (fun r364 G364 I364 h364 => ?_)
                obtain ⟨v364, P364⟩ := h364
                refine w_ldc (pc := 367) (v := -1000001) t574 dL_acts_367 ?_
                refine w_icmp_ne (pc := 369) (tgt := 376) dL_acts_369 (by decide) (fun c369 => ?_) (fun c369 => ?_)
                · exact (c369 (by rw [v364, op_corr0 z12])).elim
                · refine w_iconst (pc := 372) (v := 1) dL_acts_372 (by decide) ?_
                  refine w_goto (pc := 373) (tgt := 377) dL_acts_373 (by decide) ?_
                  refine w_zret (pc := 377) rfl (by decide) ⟨Nat.le_refl _, Nat.le_refl _⟩ dL_acts_377 ?_
                  exact ⟨_, rfl, rfl, rfl, rfl, LSd_n hq P364 hL hD hI (by omega) (by rw [op_corr0 z12])⟩
            refine w_aload_1 (pc := 335) dL_acts_335 ?_
            refine w_bipush (pc := 336) (v := 12) dL_acts_336 (by decide) ?_
            refine w_iald (pc := 338) (j := 12) (sL_in0 hL) hL.2.1 rfl (by decide) (by decide) dL_acts_338 ?_
            refine w_if_ne (pc := 339) (tgt := 346) dL_acts_339 (by decide) (fun c339 => ?_) (fun c339 => ?_)
            · refine w_iload_7 (pc := 346) dL_acts_346 ?_
              refine w_aload_1 (pc := 348) dL_acts_348 ?_
              refine w_bipush (pc := 349) (v := 12) dL_acts_349 (by decide) ?_
              refine w_iald (pc := 351) (j := 12) (sL_in0 hL) hL.2.1 rfl (by decide) (by decide) dL_acts_351 ?_
              refine w_irem (pc := 352) dL_acts_352 (by exact c339) ?_
              exact J353 _ (Or.inr (by
                have b8 := (SX_B hI.1.1).1
                have e12 : I q 12 = nI (nB c.1) := (hD.1 12 (by omega)).trans eB12
                have p12 : 0 < nB c.1 := Nat.pos_of_ne_zero (fun e => c339 (by rw [e12, e]; rfl))
                exact ⟨Y % nB c.1, Nat.mod_lt _ p12, rem_i hy hY e12 p12 (by omega)⟩))
            · refine w_iconst (pc := 342) (v := 0) dL_acts_342 (by decide) ?_
              refine w_goto (pc := 343) (tgt := 353) dL_acts_343 (by decide) ?_
              exact J353 _ (Or.inl ⟨by rw [← hD.1 12 (by omega)]; exact c339, rfl⟩)
        · have J291 : ¬ (c.1 8 < 4 ∧ 0 < sm c.1 37 16) → wp g mL_acts ⟨8, 0, 0, 183⟩ (fun _ => True) (qRI σ (fun v F J => v = 1 ∧ LSd g (σ.1, σ.2.1, F) r q J (T + 60))) (0, 0) σ I 291 [some (.ref r), some (.ref q), some (.ref (q + 1)), some (.ref (q + 2)), some (.ref (q + 3)), some (.ref (q + 4)), some (.int z), some (.int y), some (.int way), none, none, none, none, none] [] := by
            intro hn
            refine w_aload_1 (pc := 291) dL_acts_291 ?_
            refine w_iconst (pc := 292) (v := 4) dL_acts_292 (by decide) ?_
            refine w_iald (pc := 293) (j := 4) (sL_in0 hL) hL.2.1 rfl (by decide) (by decide) dL_acts_293 ?_
            refine w_istore_9 (pc := 294) dL_acts_294 rfl ?_
            refine w_aload_1 (pc := 296) dL_acts_296 ?_
            refine w_iconst (pc := 297) (v := 4) dL_acts_297 (by decide) ?_
            refine w_aload_2 (pc := 298) dL_acts_298 ?_
            refine w_iconst (pc := 299) (v := 4) dL_acts_299 (by decide) ?_
            refine w_bipush (pc := 300) (v := 7) dL_acts_300 (by decide) ?_
            refine w_callS_I (pc := 302) (c_L_mass (f := 4) (t := 7) (sL_in hL (k := 1) (by decide)) hL.2.2.1 rfl rfl (by omega) (by omega)) ok_L_mass t371 t370 ⟨Nat.le_of_ble_eq_true rfl, Nat.le_of_ble_eq_true rfl⟩ ⟨rfl, rfl⟩ ⟨Nat.le_refl _, Nat.le_refl _⟩ rfl (Nat.le_of_ble_eq_true rfl) dL_acts_302 ?_
            rw [ms_sc hD]
            refine w_aload_1 (pc := 305) dL_acts_305 ?_
            refine w_iconst (pc := 306) (v := 3) dL_acts_306 (by decide) ?_
            refine w_iald (pc := 307) (j := 3) (sL_in0 hL) hL.2.1 rfl (by decide) (by decide) dL_acts_307 ?_
            refine w_iadd (pc := 308) dL_acts_308 ?_
            rw [hD.1 3 (by omega)]
            refine w_iast (pc := 309) (j := 4) (sL_in0 hL) hL.2.1 rfl (by decide) (by decide) dL_acts_309 ?_
            refine w_aload_0 (pc := 310) dL_acts_310 ?_
            refine w_callV_RI (pc := 311) (c_BS_zero hW (CR_fr hq hW hC (frL_k frL_r (by omega)))) ok_X10_zero t549 t550 kc10 (sBS_in hW.1) hW.1.2.1 t548 ⟨Nat.le_of_ble_eq_true rfl, Nat.le_of_ble_eq_true rfl⟩ ⟨rfl, rfl⟩ ⟨Nat.le_refl _, Nat.le_refl _⟩ rfl (Nat.le_of_ble_eq_true rfl) dL_acts_311 (fun r311 G311 I311 h311 => ?_)
            obtain ⟨v311, P311⟩ := h311
            obtain ⟨o1, o2⟩ := (op_zero hI).2 hn
            refine w_iload_9 (pc := 314) dL_acts_314 ?_
            refine w_ldc (pc := 316) (v := 1000000) t557 dL_acts_316 ?_
            refine w_iadd (pc := 318) dL_acts_318 ?_
            refine w_icmp_ne (pc := 319) (tgt := 326) dL_acts_319 (by decide) (fun c319 => ?_) (fun c319 => ?_)
            · exact (c319 (by rw [v311, o1, hD.1 4 (by omega)])).elim
            · refine w_iconst (pc := 322) (v := 1) dL_acts_322 (by decide) ?_
              refine w_goto (pc := 323) (tgt := 327) dL_acts_323 (by decide) ?_
              refine w_zret (pc := 327) rfl (by decide) ⟨Nat.le_refl _, Nat.le_refl _⟩ dL_acts_327 ?_
              exact ⟨_, rfl, rfl, rfl, rfl, LSd_s hq P311 hL (DR_g hD (by omega) (by omega)) o2 (by rw [upd_ne (by omega)]; omega) (by rw [o1])⟩
          refine w_aload_1 (pc := 258) dL_acts_258 ?_
          refine w_bipush (pc := 259) (v := 8) dL_acts_259 (by decide) ?_
          refine w_iald (pc := 261) (j := 8) (sL_in0 hL) hL.2.1 rfl (by decide) (by decide) dL_acts_261 ?_
          refine w_iconst (pc := 262) (v := 4) dL_acts_262 (by decide) ?_
          refine w_icmp_ge (pc := 263) (tgt := 291) dL_acts_263 (by decide) (fun c263 => ?_) (fun c263 => ?_)
          · have hn : ¬ (c.1 8 < 4 ∧ 0 < sm c.1 37 16) := fun h => absurd h.1 (Int32.not_lt.mpr (by rw [← hD.1 8 (by omega)]; exact c263))
            exact J291 hn
          · refine w_aload_2 (pc := 266) dL_acts_266 ?_
            refine w_iconst (pc := 267) (v := 4) dL_acts_267 (by decide) ?_
            refine w_bipush (pc := 268) (v := 7) dL_acts_268 (by decide) ?_
            refine w_callS_I (pc := 270) (c_L_mass (f := 4) (t := 7) (sL_in hL (k := 1) (by decide)) hL.2.2.1 rfl rfl (by omega) (by omega)) ok_L_mass t371 t370 ⟨Nat.le_of_ble_eq_true rfl, Nat.le_of_ble_eq_true rfl⟩ ⟨rfl, rfl⟩ ⟨Nat.le_refl _, Nat.le_refl _⟩ rfl (Nat.le_of_ble_eq_true rfl) dL_acts_270 ?_
            rw [ms_sc hD]
            refine w_if_le (pc := 273) (tgt := 291) dL_acts_273 (by decide) (fun c273 => ?_) (fun c273 => ?_)
            · have hn : ¬ (c.1 8 < 4 ∧ 0 < sm c.1 37 16) := fun h => absurd h.2 (Int32.not_lt.mpr c273)
              exact J291 hn
            · have hp : c.1 8 < 4 ∧ 0 < sm c.1 37 16 := ⟨by rw [← hD.1 8 (by omega)]; exact Int32.not_le.mp c263, Int32.not_le.mp c273⟩
              refine w_aload_0 (pc := 276) dL_acts_276 ?_
              refine w_callV_RI (pc := 277) (c_BS_zero hW hC) ok_X10_zero t549 t550 kc10 (sBS_in hW.1) hW.1.2.1 t548 ⟨Nat.le_of_ble_eq_true rfl, Nat.le_of_ble_eq_true rfl⟩ ⟨rfl, rfl⟩ ⟨Nat.le_refl _, Nat.le_refl _⟩ rfl (Nat.le_of_ble_eq_true rfl) dL_acts_277 (fun r277 G277 I277 h277 => ?_)
              obtain ⟨v277, P277⟩ := h277
              have o1 := (op_zero hI).1 hp
              refine w_ldc (pc := 280) (v := -1000002) t509 dL_acts_280 ?_
              refine w_icmp_ne (pc := 282) (tgt := 289) dL_acts_282 (by decide) (fun c282 => ?_) (fun c282 => ?_)
              · exact (c282 (by rw [v277, o1])).elim
              · refine w_iconst (pc := 285) (v := 1) dL_acts_285 (by decide) ?_
                refine w_goto (pc := 286) (tgt := 290) dL_acts_286 (by decide) ?_
                refine w_zret (pc := 290) rfl (by decide) ⟨Nat.le_refl _, Nat.le_refl _⟩ dL_acts_290 ?_
                exact ⟨_, rfl, rfl, rfl, rfl, LSd_n hq P277 hL hD hI (by omega) (by rw [o1])⟩
      · refine w_aload_1 (pc := 219) dL_acts_219 ?_
        refine w_iconst (pc := 220) (v := 0) dL_acts_220 (by decide) ?_
        refine w_iald (pc := 221) (j := 0) (sL_in0 hL) hL.2.1 rfl (by decide) (by decide) dL_acts_221 ?_
        refine w_istore_9 (pc := 222) dL_acts_222 rfl ?_
        refine w_aload_1 (pc := 224) dL_acts_224 ?_
        refine w_iconst (pc := 225) (v := 0) dL_acts_225 (by decide) ?_
        refine w_iload_7 (pc := 226) dL_acts_226 ?_
        refine w_sipush (pc := 228) (v := 201) dL_acts_228 (by decide) ?_
        refine w_irem (pc := 231) dL_acts_231 (by decide) ?_
        refine w_name (fun u eu => ?_)
        have hu : u = nI (Y % 201) := eu.trans (rem_i hy hY (d := 201) (D := 201) rfl (by omega) (by omega))
        refine w_iast (pc := 232) (j := 0) (sL_in0 hL) hL.2.1 rfl (by decide) (by decide) dL_acts_232 ?_
        refine w_aload_0 (pc := 233) dL_acts_233 ?_
        refine w_aload_1 (pc := 234) dL_acts_234 ?_
        refine w_iconst (pc := 235) (v := 0) dL_acts_235 (by decide) ?_
        refine w_iald (pc := 236) (j := 0) (sL_in0 hL) hL.2.1 rfl (by decide) (by decide) dL_acts_236 ?_
        rw [kst_at, if_pos rfl]
        refine w_callV_RI (pc := 237) (c_BS_gate hW (CR_fr hq hW hC (frL_k frL_r (by omega)))) ok_X10_gate t541 t542 kc10 (sBS_in hW.1) hW.1.2.1 t540 ⟨Nat.le_of_ble_eq_true rfl, Nat.le_of_ble_eq_true rfl⟩ ⟨rfl, rfl⟩ ⟨Nat.le_refl _, Nat.le_refl _⟩ rfl (Nat.le_of_ble_eq_true rfl) dL_acts_237 (fun r237 G237 I237 h237 => ?_)
        obtain ⟨v237, P237⟩ := h237
        obtain ⟨o1, o2⟩ := op_gate hI hu (by omega)
        refine w_iload_9 (pc := 240) dL_acts_240 ?_
        refine w_icmp_ne (pc := 242) (tgt := 249) dL_acts_242 (by decide) (fun c242 => ?_) (fun c242 => ?_)
        · exact (c242 (by rw [v237, o1, hD.1 0 (by omega)])).elim
        · refine w_iconst (pc := 245) (v := 1) dL_acts_245 (by decide) ?_
          refine w_goto (pc := 246) (tgt := 250) dL_acts_246 (by decide) ?_
          refine w_zret (pc := 250) rfl (by decide) ⟨Nat.le_refl _, Nat.le_refl _⟩ dL_acts_250 ?_
          exact ⟨_, rfl, rfl, rfl, rfl, LSd_s hq P237 hL (DR_g hD (by omega) (by omega)) o2 (by rw [upd_ne (by omega)]; omega) (by rw [o1])⟩
    · refine w_iload_7 (pc := 93) dL_acts_93 ?_
      refine w_iconst (pc := 95) (v := 4) dL_acts_95 (by decide) ?_
      refine w_irem (pc := 96) dL_acts_96 (by decide) ?_
      refine w_name (fun κ eκ => ?_)
      have hκ : κ = nI (Y % 4) := eκ.trans (rem_i hy hY (d := 4) (D := 4) rfl (by omega) (by omega))
      refine w_istore_9 (pc := 97) dL_acts_97 rfl ?_
      refine w_iconst (pc := 99) (v := 1) dL_acts_99 (by decide) ?_
      refine w_iload_7 (pc := 100) dL_acts_100 ?_
      refine w_iconst (pc := 102) (v := 4) dL_acts_102 (by decide) ?_
      refine w_idiv (pc := 103) dL_acts_103 (by decide) ?_
      have J120 : ∀ (d : Int32), (d = nI 9999 ∨ d = nI 400) → wp g mL_acts ⟨8, 0, 0, 183⟩ (fun _ => True) (qRI σ (fun v F J => v = 1 ∧ LSd g (σ.1, σ.2.1, F) r q J (T + 60))) (0, 0) σ I 120 [some (.ref r), some (.ref q), some (.ref (q + 1)), some (.ref (q + 2)), some (.ref (q + 3)), some (.ref (q + 4)), some (.int z), some (.int y), some (.int way), some (.int κ), none, none, none, none] [.int d, .int (y / 4), .int 1] := by
        intro d hd
        refine w_irem (pc := 120) dL_acts_120 (by rcases hd with e | e <;> rw [e] <;> decide) ?_
        refine w_iadd (pc := 121) dL_acts_121 ?_
        refine w_name (fun m hm => ?_)
        have hy4 : y / 4 = nI (Y / 4) := div_i hy hY (d := 4) (D := 4) rfl (by omega) (by omega)
        obtain ⟨M, hM1, hM2, hMm⟩ : ∃ M, 1 ≤ M ∧ M ≤ 9999 ∧ m = nI M := by
          rcases hd with e | e
          · exact ⟨1 + Y / 4 % 9999, by omega, by omega, by rw [hm, rem_i hy4 (by omega) e (by omega) (by omega)]; exact nI_add 1 _⟩
          · exact ⟨1 + Y / 4 % 400, by omega, by omega, by rw [hm, rem_i hy4 (by omega) e (by omega) (by omega)]; exact nI_add 1 _⟩
        refine w_istore_10 (pc := 122) dL_acts_122 rfl ?_
        refine w_aload_1 (pc := 124) dL_acts_124 ?_
        refine w_bipush (pc := 125) (v := 13) dL_acts_125 (by decide) ?_
        refine w_iald (pc := 127) (j := 13) (sL_in0 hL) hL.2.1 rfl (by decide) (by decide) dL_acts_127 ?_
        refine w_bipush (pc := 128) (v := 6) dL_acts_128 (by decide) ?_
        refine w_icmp_ne (pc := 130) (tgt := 152) dL_acts_130 (by decide) (fun c130 => ?_) (fun c130 => ?_)
        · have n13 : ¬ c.1 13 = 6 := by rw [← hD.1 13 (by omega)]; exact c130
          obtain ⟨b6, o1, o2⟩ := (op_lot hI hκ (by omega) hMm hM1 hM2).2 n13
          have D2 := DR_lot (z := κ) (m := m) hI.1.1 b6 hD
          have hF2 : frL q I (kst (kst (kst (kst I (q + 2) (2 * nLo c.1) κ) (q + 2) (2 * nLo c.1 + 1) m) q 13 (c.1 13 + 1)) q 9 (c.1 9 + m)) := frL_k (frL_k (frL_k (frL_k frL_r (by omega)) (by omega)) (by omega)) (by omega)
          refine w_aload_3 (pc := 152) dL_acts_152 ?_
          refine w_iconst (pc := 153) (v := 2) dL_acts_153 (by decide) ?_
          refine w_aload_1 (pc := 154) dL_acts_154 ?_
          refine w_bipush (pc := 155) (v := 13) dL_acts_155 (by decide) ?_
          refine w_iald (pc := 157) (j := 13) (sL_in0 hL) hL.2.1 rfl (by decide) (by decide) dL_acts_157 ?_
          rw [hD.1 13 (by omega), l2]
          refine w_imul (pc := 158) dL_acts_158 ?_
          refine w_iload_9 (pc := 159) dL_acts_159 ?_
          refine w_iast (pc := 161) (j := 2 * nLo c.1) (sL_in hL (k := 2) (by decide)) hL.2.2.2.1 (by rw [show (2 : Int32) = nI 2 from rfl, pk_mul]) (by omega) (by decide) dL_acts_161 ?_
          refine w_aload_3 (pc := 162) dL_acts_162 ?_
          refine w_iconst (pc := 163) (v := 2) dL_acts_163 (by decide) ?_
          refine w_aload_1 (pc := 164) dL_acts_164 ?_
          refine w_bipush (pc := 165) (v := 13) dL_acts_165 (by decide) ?_
          refine w_iald (pc := 167) (j := 13) (sL_in0 hL) hL.2.1 rfl (by decide) (by decide) dL_acts_167 ?_
          rw [kst_n (by omega), hD.1 13 (by omega), l2]
          refine w_imul (pc := 168) dL_acts_168 ?_
          refine w_iconst (pc := 169) (v := 1) dL_acts_169 (by decide) ?_
          refine w_iadd (pc := 170) dL_acts_170 ?_
          refine w_iload_10 (pc := 171) dL_acts_171 ?_
          refine w_iast (pc := 173) (j := 2 * nLo c.1 + 1) (sL_in hL (k := 2) (by decide)) hL.2.2.2.1 (by rw [show (2 : Int32) = nI 2 from rfl, pk_mul]; exact nI_add (2 * nLo c.1) 1) (by omega) (by decide) dL_acts_173 ?_
          refine w_aload_1 (pc := 174) dL_acts_174 ?_
          refine w_bipush (pc := 175) (v := 13) dL_acts_175 (by decide) ?_
          refine w_dup2 (pc := 177) dL_acts_177 ?_
          refine w_iald (pc := 178) (j := 13) (sL_in0 hL) hL.2.1 rfl (by decide) (by decide) dL_acts_178 ?_
          refine w_iconst (pc := 179) (v := 1) dL_acts_179 (by decide) ?_
          refine w_iadd (pc := 180) dL_acts_180 ?_
          rw [kst_n (by omega), kst_n (by omega), hD.1 13 (by omega)]
          refine w_iast (pc := 181) (j := 13) (sL_in0 hL) hL.2.1 rfl (by decide) (by decide) dL_acts_181 ?_
          refine w_aload_1 (pc := 182) dL_acts_182 ?_
          refine w_bipush (pc := 183) (v := 9) dL_acts_183 (by decide) ?_
          refine w_dup2 (pc := 185) dL_acts_185 ?_
          refine w_iald (pc := 186) (j := 9) (sL_in0 hL) hL.2.1 rfl (by decide) (by decide) dL_acts_186 ?_
          refine w_iload_10 (pc := 187) dL_acts_187 ?_
          refine w_iadd (pc := 189) dL_acts_189 ?_
          rw [kst_at, if_neg (by omega), kst_n (by omega), kst_n (by omega), hD.1 9 (by omega)]
          refine w_iast (pc := 190) (j := 9) (sL_in0 hL) hL.2.1 rfl (by decide) (by decide) dL_acts_190 ?_
          refine w_aload_0 (pc := 191) dL_acts_191 ?_
          refine w_iload_9 (pc := 192) dL_acts_192 ?_
          refine w_iload_10 (pc := 194) dL_acts_194 ?_
          refine w_callV_RI (pc := 196) (c_BS_lot hW (CR_fr hq hW hC hF2)) ok_X10_lot t528 t529 kc10 (sBS_in hW.1) hW.1.2.1 t527 ⟨Nat.le_of_ble_eq_true rfl, Nat.le_of_ble_eq_true rfl⟩ ⟨rfl, rfl⟩ ⟨Nat.le_refl _, Nat.le_refl _⟩ rfl (Nat.le_of_ble_eq_true rfl) dL_acts_196 (fun r196 G196 I196 h196 => ?_)
          obtain ⟨v196, P196⟩ := h196
          have D196 := DR_out D2 (PW_out hq P196)
          refine w_aload_1 (pc := 199) dL_acts_199 ?_
          refine w_bipush (pc := 200) (v := 13) dL_acts_200 (by decide) ?_
          refine w_iald (pc := 202) (j := 13) (sL_in0 hL) hL.2.1 rfl (by decide) (by decide) dL_acts_202 ?_
          refine w_icmp_ne (pc := 203) (tgt := 210) dL_acts_203 (by decide) (fun c203 => ?_) (fun c203 => ?_)
          · exact (c203 (by rw [v196, o1, D196.1 13 (by omega), upd_ne (by omega), upd_s])).elim
          · refine w_iconst (pc := 206) (v := 1) dL_acts_206 (by decide) ?_
            refine w_goto (pc := 207) (tgt := 211) dL_acts_207 (by decide) ?_
            refine w_zret (pc := 211) rfl (by decide) ⟨Nat.le_refl _, Nat.le_refl _⟩ dL_acts_211 ?_
            exact ⟨_, rfl, rfl, rfl, rfl, LSd_s hq P196 hL (D2) o2 (by rw [upd_ne (by omega), upd_ne (by omega), upd_ne (by omega), upd_ne (by omega)]; omega) (by rw [o1])⟩
        · have p13 : c.1 13 = 6 := by rw [← hD.1 13 (by omega)]; exact c130
          refine w_aload_0 (pc := 133) dL_acts_133 ?_
          refine w_iload_9 (pc := 134) dL_acts_134 ?_
          refine w_iload_10 (pc := 136) dL_acts_136 ?_
          refine w_callV_RI (pc := 138) (c_BS_lot hW hC) ok_X10_lot t528 t529 kc10 (sBS_in hW.1) hW.1.2.1 t527 ⟨Nat.le_of_ble_eq_true rfl, Nat.le_of_ble_eq_true rfl⟩ ⟨rfl, rfl⟩ ⟨Nat.le_refl _, Nat.le_refl _⟩ rfl (Nat.le_of_ble_eq_true rfl) dL_acts_138 (fun r138 G138 I138 h138 => ?_)
          obtain ⟨v138, P138⟩ := h138
          have o1 := (op_lot hI hκ (by omega) hMm hM1 hM2).1 p13
          refine w_ldc (pc := 141) (v := -1000003) t518 dL_acts_141 ?_
          refine w_icmp_ne (pc := 143) (tgt := 150) dL_acts_143 (by decide) (fun c143 => ?_) (fun c143 => ?_)
          · exact (c143 (by rw [v138, o1])).elim
          · refine w_iconst (pc := 146) (v := 1) dL_acts_146 (by decide) ?_
            refine w_goto (pc := 147) (tgt := 151) dL_acts_147 (by decide) ?_
            refine w_zret (pc := 151) rfl (by decide) ⟨Nat.le_refl _, Nat.le_refl _⟩ dL_acts_151 ?_
            exact ⟨_, rfl, rfl, rfl, rfl, LSd_n hq P138 hL hD hI (by omega) (by rw [o1])⟩
      refine w_iload_7 (pc := 104) dL_acts_104 ?_
      refine w_iconst (pc := 106) (v := 5) dL_acts_106 (by decide) ?_
      refine w_irem (pc := 107) dL_acts_107 (by decide) ?_
      refine w_if_ne (pc := 108) (tgt := 117) dL_acts_108 (by decide) (fun c108 => ?_) (fun c108 => ?_)
      · refine w_sipush (pc := 117) (v := 400) dL_acts_117 (by decide) ?_
        exact J120 _ (Or.inr rfl)
      · refine w_sipush (pc := 111) (v := 9999) dL_acts_111 (by decide) ?_
        refine w_goto (pc := 114) (tgt := 120) dL_acts_114 (by decide) ?_
        exact J120 _ (Or.inl rfl)
  · refine w_aload_0 (pc := 27) dL_acts_27 ?_
    refine w_aload_1 (pc := 28) dL_acts_28 ?_
    refine w_aload_2 (pc := 29) dL_acts_29 ?_
    refine w_aload_3 (pc := 30) dL_acts_30 ?_
    refine w_aload_4 (pc := 31) dL_acts_31 ?_
    refine w_aload_5 (pc := 33) dL_acts_33 ?_
    have J80 : ∀ (wv : Int32), wp g mL_acts ⟨8, 0, 0, 183⟩ (fun _ => True) (qRI σ (fun v F J => v = 1 ∧ LSd g (σ.1, σ.2.1, F) r q J (T + 60))) (0, 0) σ I 80 [some (.ref r), some (.ref q), some (.ref (q + 1)), some (.ref (q + 2)), some (.ref (q + 3)), some (.ref (q + 4)), some (.int z), some (.int y), some (.int way), none, none, none, none, none] [.int wv, .ref (q + 4), .ref (q + 3), .ref (q + 2), .ref (q + 1), .ref q, .ref r] := by
      intro wv
      refine w_iload_7 (pc := 80) dL_acts_80 ?_
      refine w_callS_RI (pc := 82) (c_L_runs hq h0 hTT hy hY) ok_L_runs t365 t364 ⟨Nat.le_of_ble_eq_true rfl, Nat.le_of_ble_eq_true rfl⟩ ⟨rfl, rfl⟩ ⟨Nat.le_refl _, Nat.le_refl _⟩ rfl (Nat.le_of_ble_eq_true rfl) dL_acts_82 (fun r82 G82 I82 h82 => ?_)
      refine w_zret (pc := 85) rfl (by rw [h82.1]; decide) ⟨Nat.le_refl _, Nat.le_refl _⟩ dL_acts_85 ?_
      exact ⟨_, rfl, rfl, rfl, h82.1, h82.2⟩
    refine w_iload_8 (pc := 35) dL_acts_35 ?_
    refine w_bipush (pc := 37) (v := 8) dL_acts_37 (by decide) ?_
    refine w_icmp_ge (pc := 39) (tgt := 46) dL_acts_39 (by decide) (fun c39 => ?_) (fun c39 => ?_)
    · refine w_iload_8 (pc := 46) dL_acts_46 ?_
      refine w_bipush (pc := 48) (v := 10) dL_acts_48 (by decide) ?_
      refine w_icmp_ge (pc := 50) (tgt := 57) dL_acts_50 (by decide) (fun c50 => ?_) (fun c50 => ?_)
      · refine w_iload_8 (pc := 57) dL_acts_57 ?_
        refine w_bipush (pc := 59) (v := 10) dL_acts_59 (by decide) ?_
        refine w_icmp_ne (pc := 61) (tgt := 68) dL_acts_61 (by decide) (fun c61 => ?_) (fun c61 => ?_)
        · refine w_iload_8 (pc := 68) dL_acts_68 ?_
          refine w_bipush (pc := 70) (v := 14) dL_acts_70 (by decide) ?_
          refine w_icmp_ge (pc := 72) (tgt := 79) dL_acts_72 (by decide) (fun c72 => ?_) (fun c72 => ?_)
          · refine w_iconst (pc := 79) (v := 0) dL_acts_79 (by decide) ?_
            exact J80 _
          · refine w_iconst (pc := 75) (v := 3) dL_acts_75 (by decide) ?_
            refine w_goto (pc := 76) (tgt := 80) dL_acts_76 (by decide) ?_
            exact J80 _
        · refine w_iconst (pc := 64) (v := 2) dL_acts_64 (by decide) ?_
          refine w_goto (pc := 65) (tgt := 80) dL_acts_65 (by decide) ?_
          exact J80 _
      · refine w_iconst (pc := 53) (v := 1) dL_acts_53 (by decide) ?_
        refine w_goto (pc := 54) (tgt := 80) dL_acts_54 (by decide) ?_
        exact J80 _
    · refine w_iconst (pc := 42) (v := 0) dL_acts_42 (by decide) ?_
      refine w_goto (pc := 43) (tgt := 80) dL_acts_43 (by decide) ?_
      exact J80 _
