theorem x_m1 (x : Int32) : x + Int32.ofInt (-1) = x - 1 := by rw [Int32.sub_eq_add_neg]; rfl
theorem kd_pos {z : Int32} {k : Nat} (hz : z = nI k - 1) (h : ¬ z < 0) : ∃ j, k = j + 1 := by
  cases k with
  | zero => subst hz; exact absurd (by decide) h
  | succ j => exact ⟨j, rfl⟩
set_option maxHeartbeats 4000000 in
set_option maxRecDepth 100000 in
theorem c_Mod_falls0 {g : kG} {σ : kS} {I : kI} {q a b c d e f : Nat} (hO : sMod g σ q a b c d e f) (hS : SX (I a)) (hB : nB (I a) = 0)  : ct g mX11_falls ⟨1, 0, 0, 24⟩ [.ref q] σ I (qV σ (va_up I a (falls (I a)))) := by
  refine ct_of pn11 rfl (Nat.le_of_ble_eq_true rfl) ok_X11_falls.1 trivial ?_
  show wp _ _ _ _ _ _ _ _ 0 [some (.ref q), none, none, none, none] []
  have o0 := hO.2.2.2.2.2.2.2.2.2.2.2.2.2.2.2.2.2.2.2.2.1
  have o1 := hO.2.2.2.2.2.2.2.2.2.2.2.2.2.2.2.2.2.2.2.2.2.1
  have o2 := hO.2.2.2.2.2.2.2.2.2.2.2.2.2.2.2.2.2.2.2.2.2.2.1
  have o3 := hO.2.2.2.2.2.2.2.2.2.2.2.2.2.2.2.2.2.2.2.2.2.2.2.1
  have o4 := hO.2.2.2.2.2.2.2.2.2.2.2.2.2.2.2.2.2.2.2.2.2.2.2.2.1
  have o5 := hO.2.2.2.2.2.2.2.2.2.2.2.2.2.2.2.2.2.2.2.2.2.2.2.2.2
  have b0 : I a 12 - 1 = -1 := by rw [(SX_B hS).2, hB]; decide
  refine w_aload_0 (pc := 0) dX11_falls_0 ?_
  refine w_bipush (pc := 1) (v := 11) dX11_falls_1 (by decide) ?_
  refine w_bipush (pc := 3) (v := 11) dX11_falls_3 (by decide) ?_
  refine w_callV_I (pc := 5) (c_Mod_mass hO (u := 11) (v := 0) rfl rfl (by decide)) ok_X11_mass t842 t11 kc11 hO.1 hO.2.1 t840 ⟨Nat.le_of_ble_eq_true rfl, Nat.le_of_ble_eq_true rfl⟩ ⟨rfl, rfl⟩ ⟨Nat.le_refl _, Nat.le_refl _⟩ rfl (Nat.le_of_ble_eq_true rfl) dX11_falls_5 ?_
  refine w_istore_1 (pc := 8) dX11_falls_8 rfl ?_
  refine w_aload_0 (pc := 9) dX11_falls_9 ?_
  refine w_getR (pc := 10) (b := a) kc11 0 hO.1 hO.2.1 rfl hO.2.2.2.2.2.2.2.2.2.2.2.2.2.2.1 t763 dX11_falls_10 ?_
  refine w_bipush (pc := 13) (v := 12) dX11_falls_13 (by decide) ?_
  refine w_iald (pc := 15) (j := 12) hO.2.2.1 hO.2.2.2.1 rfl (by decide) (by decide) dX11_falls_15 ?_
  refine w_iconst (pc := 16) (v := 1) dX11_falls_16 (by decide) ?_
  refine w_isub (pc := 17) dX11_falls_17 ?_
  refine w_istore_2 (pc := 18) dX11_falls_18 rfl ?_
  refine w_aload_0 (pc := 19) dX11_falls_19 ?_
  refine w_getR (pc := 20) (b := a) kc11 0 hO.1 hO.2.1 rfl hO.2.2.2.2.2.2.2.2.2.2.2.2.2.2.1 t763 dX11_falls_20 ?_
  refine w_bipush (pc := 23) (v := 11) dX11_falls_23 (by decide) ?_
  refine w_dup2 (pc := 25) dX11_falls_25 ?_
  refine w_iald (pc := 26) (j := 11) hO.2.2.1 hO.2.2.2.1 rfl (by decide) (by decide) dX11_falls_26 ?_
  refine w_iload_1 (pc := 27) dX11_falls_27 ?_
  refine w_iadd (pc := 28) dX11_falls_28 ?_
  refine w_iast (pc := 29) (j := 11) hO.2.2.1 hO.2.2.2.1 rfl (by decide) (by decide) dX11_falls_29 ?_
  refine w_aload_0 (pc := 30) dX11_falls_30 ?_
  refine w_getR (pc := 31) (b := a) kc11 0 hO.1 hO.2.1 rfl hO.2.2.2.2.2.2.2.2.2.2.2.2.2.2.1 t763 dX11_falls_31 ?_
  refine w_bipush (pc := 34) (v := 10) dX11_falls_34 (by decide) ?_
  refine w_dup2 (pc := 36) dX11_falls_36 ?_
  refine w_iald (pc := 37) (j := 10) hO.2.2.1 hO.2.2.2.1 rfl (by decide) (by decide) dX11_falls_37 ?_
  refine w_iload_2 (pc := 38) dX11_falls_38 ?_
  refine w_if_ge (pc := 39) (tgt := 46) dX11_falls_39 (by decide) (fun c39 => ?_) (fun c39 => ?_)
  · rw [b0] at c39; exact absurd c39 (by decide)
  · refine w_iload_1 (pc := 42) dX11_falls_42 ?_
    refine w_goto (pc := 43) (tgt := 47) dX11_falls_43 (by decide) ?_
    refine w_iadd (pc := 47) dX11_falls_47 ?_
    refine w_iast (pc := 48) (j := 10) hO.2.2.1 hO.2.2.2.1 rfl (by decide) (by decide) dX11_falls_48 ?_
    refine w_aload_0 (pc := 49) dX11_falls_49 ?_
    refine w_getR (pc := 50) (b := a) kc11 0 hO.1 hO.2.1 rfl hO.2.2.2.2.2.2.2.2.2.2.2.2.2.2.1 t763 dX11_falls_50 ?_
    refine w_bipush (pc := 53) (v := 17) dX11_falls_53 (by decide) ?_
    refine w_dup2 (pc := 55) dX11_falls_55 ?_
    refine w_iald (pc := 56) (j := 17) hO.2.2.1 hO.2.2.2.1 rfl (by decide) (by decide) dX11_falls_56 ?_
    refine w_iload_2 (pc := 57) dX11_falls_57 ?_
    refine w_if_ge (pc := 58) (tgt := 65) dX11_falls_58 (by decide) (fun c58 => ?_) (fun c58 => ?_)
    · rw [b0] at c58; exact absurd c58 (by decide)
    · refine w_iconst (pc := 61) (v := 0) dX11_falls_61 (by decide) ?_
      refine w_goto (pc := 62) (tgt := 66) dX11_falls_62 (by decide) ?_
      refine w_iadd (pc := 66) dX11_falls_66 ?_
      refine w_iast (pc := 67) (j := 17) hO.2.2.1 hO.2.2.2.1 rfl (by decide) (by decide) dX11_falls_67 ?_
      refine w_iconst (pc := 68) (v := 0) dX11_falls_68 (by decide) ?_
      refine w_istore_3 (pc := 69) dX11_falls_69 rfl ?_
      refine w_iload_3 (pc := 70) dX11_falls_70 ?_
      refine w_iconst (pc := 71) (v := 4) dX11_falls_71 (by decide) ?_
      refine w_icmp_ge (pc := 72) (tgt := 143) dX11_falls_72 (by decide) (fun c9 => absurd c9 (by decide)) (fun _ => ?_)
      refine w_iload_2 (pc := 75) dX11_falls_75 ?_
      refine w_if_lt (pc := 76) (tgt := 143) dX11_falls_76 (by decide) (fun c76 => ?_) (fun c76 => ?_)
      · refine w_iload_2 (pc := 143) dX11_falls_143 ?_
        refine w_if_lt (pc := 144) (tgt := 169) dX11_falls_144 (by decide) (fun c144 => ?_) (fun c144 => ?_)
        · refine w_vret (pc := 169) rfl ⟨Nat.le_refl _, Nat.le_refl _⟩ dX11_falls_169 ?_
          refine ⟨rfl, rfl, ?_⟩
          simp [kst, va_up_self, va_uu, falls, hB, falls1, upd_ne]
        · exact absurd (by rw [b0]; decide) c144
      · exact absurd (by rw [b0]; decide) c76
set_option maxHeartbeats 4000000 in
set_option maxRecDepth 100000 in
theorem c_Mod_falls1 {g : kG} {σ : kS} {I : kI} {q a b c d e f : Nat} (hO : sMod g σ q a b c d e f) (hS : SX (I a)) {w : Nat} (hB : nB (I a) = w + 1)  : ct g mX11_falls ⟨1, 0, 0, 24⟩ [.ref q] σ I (qV σ (va_up I a (falls (I a)))) := by
  refine ct_of pn11 rfl (Nat.le_of_ble_eq_true rfl) ok_X11_falls.1 trivial ?_
  show wp _ _ _ _ _ _ _ _ 0 [some (.ref q), none, none, none, none] []
  have o0 := hO.2.2.2.2.2.2.2.2.2.2.2.2.2.2.2.2.2.2.2.2.1
  have o1 := hO.2.2.2.2.2.2.2.2.2.2.2.2.2.2.2.2.2.2.2.2.2.1
  have o2 := hO.2.2.2.2.2.2.2.2.2.2.2.2.2.2.2.2.2.2.2.2.2.2.1
  have o3 := hO.2.2.2.2.2.2.2.2.2.2.2.2.2.2.2.2.2.2.2.2.2.2.2.1
  have o4 := hO.2.2.2.2.2.2.2.2.2.2.2.2.2.2.2.2.2.2.2.2.2.2.2.2.1
  have o5 := hO.2.2.2.2.2.2.2.2.2.2.2.2.2.2.2.2.2.2.2.2.2.2.2.2.2
  have hB8 := (SX_B hS).1
  have hb : I a 12 - 1 = nI w := nx_m1 (by rw [← hB]; exact (SX_B hS).2)
  have nb : ¬ I a 12 - 1 < 0 := by rw [hb]; exact nI_pos (by omega)
  have pb : 0 ≤ I a 12 - 1 := Int32.not_lt.mp nb
  have S1 := SX_falls1 hS
  refine w_aload_0 (pc := 0) dX11_falls_0 ?_
  refine w_bipush (pc := 1) (v := 11) dX11_falls_1 (by decide) ?_
  refine w_bipush (pc := 3) (v := 11) dX11_falls_3 (by decide) ?_
  refine w_callV_I (pc := 5) (c_Mod_mass hO (u := 11) (v := 0) rfl rfl (by decide)) ok_X11_mass t842 t11 kc11 hO.1 hO.2.1 t840 ⟨Nat.le_of_ble_eq_true rfl, Nat.le_of_ble_eq_true rfl⟩ ⟨rfl, rfl⟩ ⟨Nat.le_refl _, Nat.le_refl _⟩ rfl (Nat.le_of_ble_eq_true rfl) dX11_falls_5 ?_
  refine w_istore_1 (pc := 8) dX11_falls_8 rfl ?_
  refine w_aload_0 (pc := 9) dX11_falls_9 ?_
  refine w_getR (pc := 10) (b := a) kc11 0 hO.1 hO.2.1 rfl hO.2.2.2.2.2.2.2.2.2.2.2.2.2.2.1 t763 dX11_falls_10 ?_
  refine w_bipush (pc := 13) (v := 12) dX11_falls_13 (by decide) ?_
  refine w_iald (pc := 15) (j := 12) hO.2.2.1 hO.2.2.2.1 rfl (by decide) (by decide) dX11_falls_15 ?_
  refine w_iconst (pc := 16) (v := 1) dX11_falls_16 (by decide) ?_
  refine w_isub (pc := 17) dX11_falls_17 ?_
  refine w_istore_2 (pc := 18) dX11_falls_18 rfl ?_
  refine w_aload_0 (pc := 19) dX11_falls_19 ?_
  refine w_getR (pc := 20) (b := a) kc11 0 hO.1 hO.2.1 rfl hO.2.2.2.2.2.2.2.2.2.2.2.2.2.2.1 t763 dX11_falls_20 ?_
  refine w_bipush (pc := 23) (v := 11) dX11_falls_23 (by decide) ?_
  refine w_dup2 (pc := 25) dX11_falls_25 ?_
  refine w_iald (pc := 26) (j := 11) hO.2.2.1 hO.2.2.2.1 rfl (by decide) (by decide) dX11_falls_26 ?_
  refine w_iload_1 (pc := 27) dX11_falls_27 ?_
  refine w_iadd (pc := 28) dX11_falls_28 ?_
  refine w_iast (pc := 29) (j := 11) hO.2.2.1 hO.2.2.2.1 rfl (by decide) (by decide) dX11_falls_29 ?_
  refine w_aload_0 (pc := 30) dX11_falls_30 ?_
  refine w_getR (pc := 31) (b := a) kc11 0 hO.1 hO.2.1 rfl hO.2.2.2.2.2.2.2.2.2.2.2.2.2.2.1 t763 dX11_falls_31 ?_
  refine w_bipush (pc := 34) (v := 10) dX11_falls_34 (by decide) ?_
  refine w_dup2 (pc := 36) dX11_falls_36 ?_
  refine w_iald (pc := 37) (j := 10) hO.2.2.1 hO.2.2.2.1 rfl (by decide) (by decide) dX11_falls_37 ?_
  refine w_iload_2 (pc := 38) dX11_falls_38 ?_
  refine w_if_ge (pc := 39) (tgt := 46) dX11_falls_39 (by decide) (fun c39 => ?_) (fun c39 => ?_)
  · refine w_iconst (pc := 46) (v := 0) dX11_falls_46 (by decide) ?_
    refine w_iadd (pc := 47) dX11_falls_47 ?_
    refine w_iast (pc := 48) (j := 10) hO.2.2.1 hO.2.2.2.1 rfl (by decide) (by decide) dX11_falls_48 ?_
    refine w_aload_0 (pc := 49) dX11_falls_49 ?_
    refine w_getR (pc := 50) (b := a) kc11 0 hO.1 hO.2.1 rfl hO.2.2.2.2.2.2.2.2.2.2.2.2.2.2.1 t763 dX11_falls_50 ?_
    refine w_bipush (pc := 53) (v := 17) dX11_falls_53 (by decide) ?_
    refine w_dup2 (pc := 55) dX11_falls_55 ?_
    refine w_iald (pc := 56) (j := 17) hO.2.2.1 hO.2.2.2.1 rfl (by decide) (by decide) dX11_falls_56 ?_
    refine w_iload_2 (pc := 57) dX11_falls_57 ?_
    refine w_if_ge (pc := 58) (tgt := 65) dX11_falls_58 (by decide) (fun c58 => ?_) (fun c58 => ?_)
    · refine w_iload_1 (pc := 65) dX11_falls_65 ?_
      refine w_iadd (pc := 66) dX11_falls_66 ?_
      refine w_iast (pc := 67) (j := 17) hO.2.2.1 hO.2.2.2.1 rfl (by decide) (by decide) dX11_falls_67 ?_
      refine w_iconst (pc := 68) (v := 0) dX11_falls_68 (by decide) ?_
      refine w_istore_3 (pc := 69) dX11_falls_69 rfl ?_
      have L0 : ∀ (n k : Nat) (z : Int32), k ≤ 4 → 5 ≤ k + n → z = nI k → wp g mX11_falls ⟨1, 0, 0, 24⟩ (fun _ => True) (qV σ (va_up I a (falls (I a)))) (0, 0) σ (va_up I a (fallN (falls1 (I a)) w k)) 70 [some (.ref q), some (.int (sm (I a) 65 4)), some (.int (I a 12 - 1)), some (.int z), none] [] := by
        intro n
        induction n with
        | zero => intro k z h1 h2; exact absurd h2 (by omega)
        | succ n ih =>
          intro k z h1 h2 hz
          refine w_iload_3 (pc := 70) dX11_falls_70 ?_
          refine w_iconst (pc := 71) (v := 4) dX11_falls_71 (by decide) ?_
          refine w_icmp_ge (pc := 72) (tgt := 143) dX11_falls_72 (by decide) (fun c72 => ?_) (fun c72 => ?_)
          · have hk4 : 4 ≤ k := (nx_cmp (a := 4) rfl (by omega) hz (by omega)).1.mp c72
            obtain rfl : k = 4 := by omega
            refine w_iload_2 (pc := 143) dX11_falls_143 ?_
            refine w_if_lt (pc := 144) (tgt := 169) dX11_falls_144 (by decide) (fun c144 => ?_) (fun c144 => ?_)
            · exact absurd c144 nb
            · refine w_iload_1 (pc := 147) dX11_falls_147 ?_
              refine w_if_le (pc := 148) (tgt := 169) dX11_falls_148 (by decide) (fun c148 => ?_) (fun c148 => ?_)
              · refine w_vret (pc := 169) rfl ⟨Nat.le_refl _, Nat.le_refl _⟩ dX11_falls_169 ?_
                refine ⟨rfl, rfl, ?_⟩
                rw [falls, if_neg (by omega), if_neg (Int32.not_lt.mpr c148), hB]; rfl
              · refine w_aload_0 (pc := 151) dX11_falls_151 ?_
                refine w_getR (pc := 152) (b := a) kc11 0 hO.1 hO.2.1 rfl hO.2.2.2.2.2.2.2.2.2.2.2.2.2.2.1 t763 dX11_falls_152 ?_
                refine w_bipush (pc := 155) (v := 81) dX11_falls_155 (by decide) ?_
                refine w_bipush (pc := 157) (v := 6) dX11_falls_157 (by decide) ?_
                refine w_iload_2 (pc := 159) dX11_falls_159 ?_
                refine w_imul (pc := 160) dX11_falls_160 ?_
                refine w_iadd (pc := 161) dX11_falls_161 ?_
                refine w_iconst (pc := 162) (v := 5) dX11_falls_162 (by decide) ?_
                refine w_iadd (pc := 163) dX11_falls_163 ?_
                refine w_dup2 (pc := 164) dX11_falls_164 ?_
                refine w_iald (pc := 165) (j := 86 + 6 * w) hO.2.2.1 hO.2.2.2.1 (by rw [nx_6 hb (z := 81) (c := 81) rfl, show (5 : Int32) = nI 5 from rfl, nI_add]; congr 1; omega) (by omega) (by decide) dX11_falls_165 ?_
                refine w_iconst (pc := 166) (v := 1) dX11_falls_166 (by decide) ?_
                refine w_iadd (pc := 167) dX11_falls_167 ?_
                refine w_iast (pc := 168) (j := 86 + 6 * w) hO.2.2.1 hO.2.2.2.1 (by rw [nx_6 hb (z := 81) (c := 81) rfl, show (5 : Int32) = nI 5 from rfl, nI_add]; congr 1; omega) (by omega) (by decide) dX11_falls_168 ?_
                refine w_vret (pc := 169) rfl ⟨Nat.le_refl _, Nat.le_refl _⟩ dX11_falls_169 ?_
                refine ⟨rfl, rfl, ?_⟩
                rw [falls, if_neg (by omega), if_pos (Int32.not_le.mp c148), hB]
                simp only [kst, va_up_self, va_uu]
                rfl
          · have hk : k < 4 := nx_nle (a := 4) c72 rfl (by omega) hz (by omega)
            have SK := SX_fallN S1 (b := w) (by omega) k (by omega)
            obtain ⟨bk1, bk2⟩ := SX_bk (SX_fallA SK (b := w) (by omega) hk) hk
            have bk3 := (SX_A (SX_fallA SK (b := w) (by omega) hk)).2.1
            refine w_iload_2 (pc := 75) dX11_falls_75 ?_
            refine w_if_lt (pc := 76) (tgt := 143) dX11_falls_76 (by decide) (fun c76 => ?_) (fun c76 => ?_)
            · exact absurd c76 nb
            · refine w_aload_0 (pc := 79) dX11_falls_79 ?_
              refine w_getR (pc := 80) (b := a) kc11 0 hO.1 hO.2.1 rfl hO.2.2.2.2.2.2.2.2.2.2.2.2.2.2.1 t763 dX11_falls_80 ?_
              refine w_bipush (pc := 83) (v := 65) dX11_falls_83 (by decide) ?_
              refine w_iload_3 (pc := 85) dX11_falls_85 ?_
              refine w_iadd (pc := 86) dX11_falls_86 ?_
              refine w_iald (pc := 87) (j := 65 + k) hO.2.2.1 hO.2.2.2.1 (nx_add rfl hz) (by omega) (by decide) dX11_falls_87 ?_
              refine w_istore_4 (pc := 88) dX11_falls_88 rfl ?_
              refine w_aload_0 (pc := 90) dX11_falls_90 ?_
              refine w_getR (pc := 91) (b := a) kc11 0 hO.1 hO.2.1 rfl hO.2.2.2.2.2.2.2.2.2.2.2.2.2.2.1 t763 dX11_falls_91 ?_
              refine w_bipush (pc := 94) (v := 81) dX11_falls_94 (by decide) ?_
              refine w_bipush (pc := 96) (v := 6) dX11_falls_96 (by decide) ?_
              refine w_iload_2 (pc := 98) dX11_falls_98 ?_
              refine w_imul (pc := 99) dX11_falls_99 ?_
              refine w_iadd (pc := 100) dX11_falls_100 ?_
              refine w_iload_3 (pc := 101) dX11_falls_101 ?_
              refine w_iadd (pc := 102) dX11_falls_102 ?_
              refine w_dup2 (pc := 103) dX11_falls_103 ?_
              refine w_iald (pc := 104) (j := 81 + 6 * w + k) hO.2.2.1 hO.2.2.2.1 (nx_add (nx_6 hb (z := 81) (c := 81) rfl) hz) (by omega) (by decide) dX11_falls_104 ?_
              refine w_iload_4 (pc := 105) dX11_falls_105 ?_
              refine w_iadd (pc := 107) dX11_falls_107 ?_
              refine w_iast (pc := 108) (j := 81 + 6 * w + k) hO.2.2.1 hO.2.2.2.1 (nx_add (nx_6 hb (z := 81) (c := 81) rfl) hz) (by omega) (by decide) dX11_falls_108 ?_
              refine w_aload_0 (pc := 109) dX11_falls_109 ?_
              refine w_getR (pc := 110) (b := a) kc11 0 hO.1 hO.2.1 rfl hO.2.2.2.2.2.2.2.2.2.2.2.2.2.2.1 t763 dX11_falls_110 ?_
              refine w_sipush (pc := 113) (v := 129) dX11_falls_113 (by decide) ?_
              refine w_iconst (pc := 116) (v := 2) dX11_falls_116 (by decide) ?_
              refine w_aload_0 (pc := 117) dX11_falls_117 ?_
              refine w_getR (pc := 118) (b := a) kc11 0 hO.1 hO.2.1 rfl hO.2.2.2.2.2.2.2.2.2.2.2.2.2.2.1 t763 dX11_falls_118 ?_
              refine w_sipush (pc := 121) (v := 145) dX11_falls_121 (by decide) ?_
              refine w_iload_3 (pc := 124) dX11_falls_124 ?_
              refine w_iadd (pc := 125) dX11_falls_125 ?_
              refine w_iald (pc := 126) (j := 145 + k) hO.2.2.1 hO.2.2.2.1 (nx_add rfl hz) (by omega) (by decide) dX11_falls_126 ?_
              refine w_imul (pc := 127) dX11_falls_127 ?_
              refine w_iadd (pc := 128) dX11_falls_128 ?_
              refine w_iconst (pc := 129) (v := 1) dX11_falls_129 (by decide) ?_
              refine w_iadd (pc := 130) dX11_falls_130 ?_
              refine w_dup2 (pc := 131) dX11_falls_131 ?_
              refine w_iald (pc := 132) (j := 130 + 2 * tn (fallA (fallN (falls1 (I a)) w k) w k (145 + k))) hO.2.2.1 hO.2.2.2.1 (by rw [nx_2 (z := 129) (c := 129) (k := tn (fallA (fallN (falls1 (I a)) w k) w k (145 + k))) (by simp only [kst, va_up_self]; exact bk2) rfl, nI_1]; congr 1; omega) (by omega) (by decide) dX11_falls_132 ?_
              refine w_iload_4 (pc := 133) dX11_falls_133 ?_
              refine w_iadd (pc := 135) dX11_falls_135 ?_
              refine w_iast (pc := 136) (j := 130 + 2 * tn (fallA (fallN (falls1 (I a)) w k) w k (145 + k))) hO.2.2.1 hO.2.2.2.1 (by rw [nx_2 (z := 129) (c := 129) (k := tn (fallA (fallN (falls1 (I a)) w k) w k (145 + k))) (by simp only [kst, va_up_self]; exact bk2) rfl, nI_1]; congr 1; omega) (by omega) (by decide) dX11_falls_136 ?_
              refine w_iinc_3 (pc := 137) dX11_falls_137 rfl rfl ?_
              refine w_goto (pc := 140) (tgt := 70) dX11_falls_140 (by decide) ?_
              refine w_drop 4 ?_
              refine w_mem ?_ (ih (k + 1) _ (by omega) (by omega) (by rw [hz]; exact nI_1 k))
              simp only [kst, va_up_self, va_uu]
              congr 1
              show _ = fallK (fallN (falls1 (I a)) w k) w k
              unfold fallK fallB fallA
              rw [upd_ne (show 65 + k ≠ 81 + 6 * w + k by omega)]
      refine w_mem ?_ (L0 5 0 _ (by omega) (by omega) rfl)
      simp [kst, va_up_self, va_uu, fallN, falls1, hB, upd_ne]
    · exact absurd pb c58
  · exact absurd pb c39
theorem c_Mod_falls {g : kG} {σ : kS} {I : kI} {q a b c d e f : Nat} (hO : sMod g σ q a b c d e f) (hS : SX (I a)) : ct g mX11_falls ⟨1, 0, 0, 24⟩ [.ref q] σ I (qV σ (va_up I a (falls (I a)))) := by
  cases hB : nB (I a) with
  | zero => exact c_Mod_falls0 hO hS hB
  | succ w => exact c_Mod_falls1 hO hS hB
set_option maxHeartbeats 4000000 in
set_option maxRecDepth 100000 in
theorem c_Mod_feeds {g : kG} {σ : kS} {I : kI} {q a b c d e f : Nat} (hO : sMod g σ q a b c d e f) (hS : SX (I a))  : ct g mX11_feeds ⟨1, 0, 0, 24⟩ [.ref q] σ I (qV σ (va_up I a (feeds (I a)))) := by
  refine ct_of pn11 rfl (Nat.le_of_ble_eq_true rfl) ok_X11_feeds.1 trivial ?_
  show wp _ _ _ _ _ _ _ _ 0 [some (.ref q), none, none, none, none] []
  have o0 := hO.2.2.2.2.2.2.2.2.2.2.2.2.2.2.2.2.2.2.2.2.1
  have o1 := hO.2.2.2.2.2.2.2.2.2.2.2.2.2.2.2.2.2.2.2.2.2.1
  have o2 := hO.2.2.2.2.2.2.2.2.2.2.2.2.2.2.2.2.2.2.2.2.2.2.1
  have o3 := hO.2.2.2.2.2.2.2.2.2.2.2.2.2.2.2.2.2.2.2.2.2.2.2.1
  have o4 := hO.2.2.2.2.2.2.2.2.2.2.2.2.2.2.2.2.2.2.2.2.2.2.2.2.1
  have o5 := hO.2.2.2.2.2.2.2.2.2.2.2.2.2.2.2.2.2.2.2.2.2.2.2.2.2
  refine w_aload_0 (pc := 0) dX11_feeds_0 ?_
  refine w_getR (pc := 1) (b := a) kc11 0 hO.1 hO.2.1 rfl hO.2.2.2.2.2.2.2.2.2.2.2.2.2.2.1 t763 dX11_feeds_1 ?_
  refine w_iconst (pc := 4) (v := 0) dX11_feeds_4 (by decide) ?_
  refine w_iald (pc := 5) (j := 0) hO.2.2.1 hO.2.2.2.1 rfl (by decide) (by decide) dX11_feeds_5 ?_
  refine w_istore_1 (pc := 6) dX11_feeds_6 rfl ?_
  have J143 : wp g mX11_feeds ⟨1, 0, 0, 24⟩ (fun _ => True) (qV σ (va_up I a (feeds (I a)))) (0, 0) σ (va_up I a (feedL 6 (I a 0) (I a))) 143 [some (.ref q), none, none, none, none] [] := by
    have hTT : SX (feedL 6 (I a 0) (I a)) := SX_feedL 6 _ hS
    refine w_aload_0 (pc := 143) dX11_feeds_143 ?_
    refine w_iconst (pc := 144) (v := 0) dX11_feeds_144 (by decide) ?_
    refine w_iconst (pc := 145) (v := 0) dX11_feeds_145 (by decide) ?_
    refine w_callV_I (pc := 146) (c_Mod_mass hO (u := 0) (v := 0) rfl rfl (by decide)) ok_X11_mass t842 t11 kc11 hO.1 hO.2.1 t840 ⟨Nat.le_of_ble_eq_true rfl, Nat.le_of_ble_eq_true rfl⟩ ⟨rfl, rfl⟩ ⟨Nat.le_refl _, Nat.le_refl _⟩ rfl (Nat.le_of_ble_eq_true rfl) dX11_feeds_146 ?_
    refine w_aload_0 (pc := 149) dX11_feeds_149 ?_
    refine w_getR (pc := 150) (b := a) kc11 0 hO.1 hO.2.1 rfl hO.2.2.2.2.2.2.2.2.2.2.2.2.2.2.1 t763 dX11_feeds_150 ?_
    refine w_bipush (pc := 153) (v := 18) dX11_feeds_153 (by decide) ?_
    refine w_iald (pc := 155) (j := 18) hO.2.2.1 hO.2.2.2.1 rfl (by decide) (by decide) dX11_feeds_155 ?_
    refine w_isub (pc := 156) dX11_feeds_156 ?_
    refine w_istore_2 (pc := 157) dX11_feeds_157 rfl ?_
    refine w_iconst (pc := 158) (v := 3) dX11_feeds_158 (by decide) ?_
    refine w_istore_3 (pc := 159) dX11_feeds_159 rfl ?_
    have L2 : ∀ (j k : Nat) (m z : Int32) (t : kV), k + 1 ≤ j → k ≤ 4 → z = nI k - 1 → spl k m t = feeds (I a) → wp g mX11_feeds ⟨1, 0, 0, 24⟩ (fun _ => True) (qV σ (va_up I a (feeds (I a)))) (0, 0) σ (va_up I a t) 160 [some (.ref q), none, some (.int m), some (.int z), none] [] := by
      intro j
      induction j with
      | zero => intro k m z t h1; exact absurd h1 (by omega)
      | succ j ih =>
        intro k m z t h1 h2 hz hsp
        refine w_iload_3 (pc := 160) dX11_feeds_160 ?_
        refine w_if_lt (pc := 161) (tgt := 233) dX11_feeds_161 (by decide) (fun c161 => ?_) (fun c161 => ?_)
        · have hk0 : k = 0 := by
            rcases Nat.eq_zero_or_pos k with h | h
            · exact h
            · rw [hz, show k = (k - 1) + 1 by omega, nI_pred] at c161; exact absurd c161 (nI_pos (by omega))
          refine w_vret (pc := 233) rfl ⟨Nat.le_refl _, Nat.le_refl _⟩ dX11_feeds_233 ?_
          refine ⟨rfl, rfl, ?_⟩
          subst hk0
          rw [← hsp]; rfl
        · obtain ⟨k, rfl⟩ := kd_pos hz c161
          rw [nI_pred] at hz
          refine w_iload_2 (pc := 164) dX11_feeds_164 ?_
          refine w_if_le (pc := 165) (tgt := 233) dX11_feeds_165 (by decide) (fun c165 => ?_) (fun c165 => ?_)
          · refine w_vret (pc := 233) rfl ⟨Nat.le_refl _, Nat.le_refl _⟩ dX11_feeds_233 ?_
            refine ⟨rfl, rfl, ?_⟩
            rw [← hsp, spl, if_neg (Int32.not_lt.mpr c165)]
          · have J194 : ∀ (x : Int32), x = mn (t (21 + k)) m → wp g mX11_feeds ⟨1, 0, 0, 24⟩ (fun _ => True) (qV σ (va_up I a (feeds (I a)))) (0, 0) σ (va_up I a t) 194 [some (.ref q), none, some (.int m), some (.int z), none] [.int x] := by
              intro x hx
              refine w_istore_4 (pc := 194) dX11_feeds_194 rfl ?_
              refine w_aload_0 (pc := 196) dX11_feeds_196 ?_
              refine w_getR (pc := 197) (b := a) kc11 0 hO.1 hO.2.1 rfl hO.2.2.2.2.2.2.2.2.2.2.2.2.2.2.1 t763 dX11_feeds_197 ?_
              refine w_bipush (pc := 200) (v := 21) dX11_feeds_200 (by decide) ?_
              refine w_iload_3 (pc := 202) dX11_feeds_202 ?_
              refine w_iadd (pc := 203) dX11_feeds_203 ?_
              refine w_dup2 (pc := 204) dX11_feeds_204 ?_
              refine w_iald (pc := 205) (j := 21 + k) hO.2.2.1 hO.2.2.2.1 (nx_add rfl hz) (by omega) (by decide) dX11_feeds_205 ?_
              refine w_iload_4 (pc := 206) dX11_feeds_206 ?_
              refine w_isub (pc := 208) dX11_feeds_208 ?_
              refine w_iast (pc := 209) (j := 21 + k) hO.2.2.1 hO.2.2.2.1 (nx_add rfl hz) (by omega) (by decide) dX11_feeds_209 ?_
              refine w_aload_0 (pc := 210) dX11_feeds_210 ?_
              refine w_getR (pc := 211) (b := a) kc11 0 hO.1 hO.2.1 rfl hO.2.2.2.2.2.2.2.2.2.2.2.2.2.2.1 t763 dX11_feeds_211 ?_
              refine w_bipush (pc := 214) (v := 10) dX11_feeds_214 (by decide) ?_
              refine w_dup2 (pc := 216) dX11_feeds_216 ?_
              refine w_iald (pc := 217) (j := 10) hO.2.2.1 hO.2.2.2.1 rfl (by decide) (by decide) dX11_feeds_217 ?_
              refine w_iload_4 (pc := 218) dX11_feeds_218 ?_
              refine w_iadd (pc := 220) dX11_feeds_220 ?_
              refine w_iast (pc := 221) (j := 10) hO.2.2.1 hO.2.2.2.1 rfl (by decide) (by decide) dX11_feeds_221 ?_
              refine w_iload_2 (pc := 222) dX11_feeds_222 ?_
              refine w_iload_4 (pc := 223) dX11_feeds_223 ?_
              refine w_isub (pc := 225) dX11_feeds_225 ?_
              refine w_istore_2 (pc := 226) dX11_feeds_226 rfl ?_
              refine w_iinc_3 (pc := 227) dX11_feeds_227 rfl rfl ?_
              refine w_goto (pc := 230) (tgt := 160) dX11_feeds_230 (by decide) ?_
              refine w_drop 4 ?_
              rw [spl, if_pos (Int32.not_le.mp c165), ← hx] at hsp
              refine w_mem ?_ (ih k _ _ _ (by omega) (by omega) (by rw [hz]; exact x_m1 _) hsp)
              simp [kst, va_up_self, va_uu, upd_ne, show ¬ 10 = 21 + k by omega]
            refine w_aload_0 (pc := 168) dX11_feeds_168 ?_
            refine w_getR (pc := 169) (b := a) kc11 0 hO.1 hO.2.1 rfl hO.2.2.2.2.2.2.2.2.2.2.2.2.2.2.1 t763 dX11_feeds_169 ?_
            refine w_bipush (pc := 172) (v := 21) dX11_feeds_172 (by decide) ?_
            refine w_iload_3 (pc := 174) dX11_feeds_174 ?_
            refine w_iadd (pc := 175) dX11_feeds_175 ?_
            refine w_iald (pc := 176) (j := 21 + k) hO.2.2.1 hO.2.2.2.1 (nx_add rfl hz) (by omega) (by decide) dX11_feeds_176 ?_
            refine w_iload_2 (pc := 177) dX11_feeds_177 ?_
            refine w_icmp_ge (pc := 178) (tgt := 193) dX11_feeds_178 (by decide) (fun c178 => ?_) (fun c178 => ?_)
            · refine w_iload_2 (pc := 193) dX11_feeds_193 ?_
              exact J194 _ (by rw [mn, if_neg (Int32.not_lt.mpr (by simpa [va_up_self] using c178))])
            · refine w_aload_0 (pc := 181) dX11_feeds_181 ?_
              refine w_getR (pc := 182) (b := a) kc11 0 hO.1 hO.2.1 rfl hO.2.2.2.2.2.2.2.2.2.2.2.2.2.2.1 t763 dX11_feeds_182 ?_
              refine w_bipush (pc := 185) (v := 21) dX11_feeds_185 (by decide) ?_
              refine w_iload_3 (pc := 187) dX11_feeds_187 ?_
              refine w_iadd (pc := 188) dX11_feeds_188 ?_
              refine w_iald (pc := 189) (j := 21 + k) hO.2.2.1 hO.2.2.2.1 (nx_add rfl hz) (by omega) (by decide) dX11_feeds_189 ?_
              refine w_goto (pc := 190) (tgt := 194) dX11_feeds_190 (by decide) ?_
              exact J194 _ (by rw [mn, if_pos (Int32.not_le.mp (by simpa [va_up_self] using c178)), va_up_self])
    refine L2 5 4 _ _ _ (by omega) (by omega) (by decide) ?_
    rw [va_up_self]
    rfl
  have L0 : ∀ (m n : Nat) (l : Int32) (t : kV), n + 2 ≤ m + 1 → SX t → (nLo t ≤ n ∨ ¬ 0 < l) → feedL n l t = (feedL 6 (I a 0) (I a)) → wp g mX11_feeds ⟨1, 0, 0, 24⟩ (fun _ => True) (qV σ (va_up I a (feeds (I a)))) (0, 0) σ (va_up I a t) 7 [some (.ref q), some (.int l), none, none, none] [] := by
    intro m
    induction m with
    | zero => intro n l t h1; exact absurd h1 (by omega)
    | succ m ih =>
      intro n l t h1 hT hn hfe
      refine w_iload_1 (pc := 7) dX11_feeds_7 ?_
      refine w_if_le (pc := 8) (tgt := 143) dX11_feeds_8 (by decide) (fun c8 => ?_) (fun c8 => ?_)
      · have hft : t = (feedL 6 (I a 0) (I a)) := by rw [← hfe]; cases n with | zero => rfl | succ n => rw [feedL, if_neg (fun h => absurd h.1 (Int32.not_lt.mpr c8))]
        rw [hft]
        refine w_drop 1 ?_
        exact J143
      · have h0l : 0 < l := Int32.not_le.mp c8
        refine w_aload_0 (pc := 11) dX11_feeds_11 ?_
        refine w_getR (pc := 12) (b := a) kc11 0 hO.1 hO.2.1 rfl hO.2.2.2.2.2.2.2.2.2.2.2.2.2.2.1 t763 dX11_feeds_12 ?_
        refine w_bipush (pc := 15) (v := 13) dX11_feeds_15 (by decide) ?_
        refine w_iald (pc := 17) (j := 13) hO.2.2.1 hO.2.2.2.1 rfl (by decide) (by decide) dX11_feeds_17 ?_
        refine w_if_le (pc := 18) (tgt := 143) dX11_feeds_18 (by decide) (fun c18 => ?_) (fun c18 => ?_)
        · rw [va_up_self] at c18
          have hft : t = (feedL 6 (I a 0) (I a)) := by rw [← hfe]; cases n with | zero => rfl | succ n => rw [feedL, if_neg (fun h => absurd h.2 (Int32.not_lt.mpr c18))]
          rw [hft]
          refine w_drop 1 ?_
          exact J143
        · rw [va_up_self] at c18
          have h0t : 0 < t 13 := Int32.not_le.mp c18
          have hL := (lots_pos hT).mp h0t
          obtain ⟨f1, f2⟩ := feed1_k hT hL
          obtain ⟨n, rfl⟩ : ∃ j, n = j + 1 := ⟨n - 1, by rcases hn with h | h <;> first | omega | exact absurd h0l h⟩
          obtain ⟨l1, l2, l3⟩ := SX_L hT
          have J43 : ∀ (x : Int32), x = mn (t 70) l → wp g mX11_feeds ⟨1, 0, 0, 24⟩ (fun _ => True) (qV σ (va_up I a (feeds (I a)))) (0, 0) σ (va_up I a t) 43 [some (.ref q), some (.int l), none, none, none] [.int x] := by
            intro x hx
            refine w_istore_2 (pc := 43) dX11_feeds_43 rfl ?_
            refine w_aload_0 (pc := 44) dX11_feeds_44 ?_
            refine w_getR (pc := 45) (b := a) kc11 0 hO.1 hO.2.1 rfl hO.2.2.2.2.2.2.2.2.2.2.2.2.2.2.1 t763 dX11_feeds_45 ?_
            refine w_bipush (pc := 48) (v := 21) dX11_feeds_48 (by decide) ?_
            refine w_aload_0 (pc := 50) dX11_feeds_50 ?_
            refine w_getR (pc := 51) (b := a) kc11 0 hO.1 hO.2.1 rfl hO.2.2.2.2.2.2.2.2.2.2.2.2.2.2.1 t763 dX11_feeds_51 ?_
            refine w_bipush (pc := 54) (v := 69) dX11_feeds_54 (by decide) ?_
            refine w_iald (pc := 56) (j := 69) hO.2.2.1 hO.2.2.2.1 rfl (by decide) (by decide) dX11_feeds_56 ?_
            refine w_iadd (pc := 57) dX11_feeds_57 ?_
            refine w_dup2 (pc := 58) dX11_feeds_58 ?_
            refine w_iald (pc := 59) (j := 21 + tn (t 69)) hO.2.2.1 hO.2.2.2.1 (by rw [va_up_self]; exact nx_add rfl f2) (by omega) (by decide) dX11_feeds_59 ?_
            refine w_iload_2 (pc := 60) dX11_feeds_60 ?_
            refine w_iadd (pc := 61) dX11_feeds_61 ?_
            refine w_iast (pc := 62) (j := 21 + tn (t 69)) hO.2.2.1 hO.2.2.2.1 (by rw [va_up_self]; exact nx_add rfl f2) (by omega) (by decide) dX11_feeds_62 ?_
            refine w_aload_0 (pc := 63) dX11_feeds_63 ?_
            refine w_getR (pc := 64) (b := a) kc11 0 hO.1 hO.2.1 rfl hO.2.2.2.2.2.2.2.2.2.2.2.2.2.2.1 t763 dX11_feeds_64 ?_
            refine w_bipush (pc := 67) (v := 70) dX11_feeds_67 (by decide) ?_
            refine w_dup2 (pc := 69) dX11_feeds_69 ?_
            refine w_iald (pc := 70) (j := 70) hO.2.2.1 hO.2.2.2.1 rfl (by decide) (by decide) dX11_feeds_70 ?_
            refine w_iload_2 (pc := 71) dX11_feeds_71 ?_
            refine w_isub (pc := 72) dX11_feeds_72 ?_
            refine w_iast (pc := 73) (j := 70) hO.2.2.1 hO.2.2.2.1 rfl (by decide) (by decide) dX11_feeds_73 ?_
            refine w_iload_1 (pc := 74) dX11_feeds_74 ?_
            refine w_iload_2 (pc := 75) dX11_feeds_75 ?_
            refine w_isub (pc := 76) dX11_feeds_76 ?_
            refine w_istore_1 (pc := 77) dX11_feeds_77 rfl ?_
            refine w_aload_0 (pc := 78) dX11_feeds_78 ?_
            refine w_getR (pc := 79) (b := a) kc11 0 hO.1 hO.2.1 rfl hO.2.2.2.2.2.2.2.2.2.2.2.2.2.2.1 t763 dX11_feeds_79 ?_
            refine w_bipush (pc := 82) (v := 70) dX11_feeds_82 (by decide) ?_
            refine w_iald (pc := 84) (j := 70) hO.2.2.1 hO.2.2.2.1 rfl (by decide) (by decide) dX11_feeds_84 ?_
            refine w_if_ne (pc := 85) (tgt := 140) dX11_feeds_85 (by decide) (fun c85 => ?_) (fun c85 => ?_)
            · have hm : feed1 t x = upd (upd t (21 + tn (t 69)) (t (21 + tn (t 69)) + x)) 70 (t 70 - x) := rfl
              have hc : ¬ feed1 t x 70 = 0 := by simpa [kst, va_up_self, upd_s, feed1, upd_ne, show ¬ 70 = 21 + tn (t 69) by omega] using c85
              refine w_goto (pc := 140) (tgt := 7) dX11_feeds_140 (by decide) ?_
              refine w_drop 2 ?_
              have hxl : x = l := by
                rw [hx, mn]
                by_cases hq : t 70 < l
                · exfalso
                  apply hc
                  rw [feed1, upd_s, hx, mn, if_pos hq, Int32.sub_self]
                · rw [if_neg hq]
              rw [feedL, if_pos ⟨h0l, h0t⟩, ← hx, if_neg hc] at hfe
              refine w_mem ?_ (ih n _ (feed1 t x) (by omega) (SX_feed1 hT hL x) (Or.inr (by rw [hxl, Int32.sub_self]; decide)) hfe)
              simp [kst, va_up_self, va_uu, feed1, upd_ne, show ¬ 70 = 21 + tn (t 69) by omega]
            · have hc : feed1 t x 70 = 0 := by simpa [kst, va_up_self, upd_s, feed1, upd_ne, show ¬ 70 = 21 + tn (t 69) by omega] using c85
              have S1 := SX_feed1 hT hL x
              have n1 := feed1_nLo hT hL x
              have e13 := feed1_13 hT hL x
              refine w_aload_0 (pc := 88) dX11_feeds_88 ?_
              refine w_getR (pc := 89) (b := a) kc11 0 hO.1 hO.2.1 rfl hO.2.2.2.2.2.2.2.2.2.2.2.2.2.2.1 t763 dX11_feeds_89 ?_
              refine w_bipush (pc := 92) (v := 13) dX11_feeds_92 (by decide) ?_
              refine w_dup2 (pc := 94) dX11_feeds_94 ?_
              refine w_iald (pc := 95) (j := 13) hO.2.2.1 hO.2.2.2.1 rfl (by decide) (by decide) dX11_feeds_95 ?_
              refine w_iconst (pc := 96) (v := 1) dX11_feeds_96 (by decide) ?_
              refine w_isub (pc := 97) dX11_feeds_97 ?_
              refine w_iast (pc := 98) (j := 13) hO.2.2.1 hO.2.2.2.1 rfl (by decide) (by decide) dX11_feeds_98 ?_
              refine w_iconst (pc := 99) (v := 0) dX11_feeds_99 (by decide) ?_
              refine w_istore_3 (pc := 100) dX11_feeds_100 rfl ?_
              obtain ⟨U, hU⟩ : ∃ U, U = upd (feed1 t x) 13 (feed1 t x 13 - 1) := ⟨_, rfl⟩
              have hU13 : (if 69 ≤ 13 ∧ 13 < 69 then U (13 + 2) else U 13) = nI (nLo t - 1) := by
                rw [if_neg (by omega), hU, upd_s, e13, l2, show nLo t = (nLo t - 1) + 1 by omega, nI_pred]; congr 1
              have L1 : ∀ (j i : Nat) (z : Int32), i ≤ 2 * (nLo t - 1) → 2 * (nLo t - 1) + 1 ≤ i + j → z = nI i → wp g mX11_feeds ⟨1, 0, 0, 24⟩ (fun _ => True) (qV σ (va_up I a (feeds (I a)))) (0, 0) σ (va_up I a (fun k => if 69 ≤ k ∧ k < 69 + i then U (k + 2) else U k)) 101 [some (.ref q), some (.int (l - x)), some (.int x), some (.int z), none] [] := by
                intro j
                induction j with
                | zero => intro i z h1 h2; exact absurd h2 (by omega)
                | succ j ih2 =>
                  intro i z h1 h2 hz
                  have hU13 : va_up I a (fun k => if 69 ≤ k ∧ k < 69 + i then U (k + 2) else U k) a 13 = nI (nLo t - 1) := by
                    rw [va_up_self]
                    show (if 69 ≤ 13 ∧ 13 < 69 + i then _ else _) = _
                    rw [if_neg (by omega)]
                    rw [if_neg (by omega)] at hU13
                    exact hU13
                  refine w_iload_3 (pc := 101) dX11_feeds_101 ?_
                  refine w_iconst (pc := 102) (v := 2) dX11_feeds_102 (by decide) ?_
                  refine w_aload_0 (pc := 103) dX11_feeds_103 ?_
                  refine w_getR (pc := 104) (b := a) kc11 0 hO.1 hO.2.1 rfl hO.2.2.2.2.2.2.2.2.2.2.2.2.2.2.1 t763 dX11_feeds_104 ?_
                  refine w_bipush (pc := 107) (v := 13) dX11_feeds_107 (by decide) ?_
                  refine w_iald (pc := 109) (j := 13) hO.2.2.1 hO.2.2.2.1 rfl (by decide) (by decide) dX11_feeds_109 ?_
                  refine w_imul (pc := 110) dX11_feeds_110 ?_
                  refine w_icmp_ge (pc := 111) (tgt := 140) dX11_feeds_111 (by decide) (fun c111 => ?_) (fun c111 => ?_)
                  · have hi : 2 * (nLo t - 1) ≤ i := by
                      rw [hU13] at c111
                      exact (nx_cmp (show (2 : Int32) * nI (nLo t - 1) = nI (2 * (nLo t - 1)) by rw [show (2 : Int32) = nI 2 from rfl, pk_mul]) (by omega) hz (by omega)).1.mp c111
                    refine w_goto (pc := 140) (tgt := 7) dX11_feeds_140 (by decide) ?_
                    refine w_drop 3 (w_drop 2 ?_)
                    rw [feedL, if_pos ⟨h0l, h0t⟩, ← hx, if_pos hc] at hfe
                    refine w_mem ?_ (ih n _ (popL (feed1 t x)) (by omega) (SX_pop S1 (by omega)) (Or.inl (by rw [popL_nLo S1 (by omega), n1]; exact hn.elim (fun h => by omega) (fun h => absurd h0l h))) hfe)
                    congr 1
                    funext k
                    simp only [popL, n1]
                    rw [show i = 2 * (nLo t - 1) by omega]
                    by_cases hk : 69 ≤ k ∧ k < 69 + 2 * (nLo t - 1)
                    · rw [if_pos hk, if_pos hk, hU, upd_ne (by omega)]
                    · rw [if_neg hk, if_neg hk, hU]
                      simp [upd]
                  · have hi : i < 2 * (nLo t - 1) := by
                      rw [hU13] at c111
                      have := nx_nle c111 (show (2 : Int32) * nI (nLo t - 1) = nI (2 * (nLo t - 1)) by rw [show (2 : Int32) = nI 2 from rfl, pk_mul]) (by omega) hz (by omega)
                      omega
                    refine w_aload_0 (pc := 114) dX11_feeds_114 ?_
                    refine w_getR (pc := 115) (b := a) kc11 0 hO.1 hO.2.1 rfl hO.2.2.2.2.2.2.2.2.2.2.2.2.2.2.1 t763 dX11_feeds_115 ?_
                    refine w_bipush (pc := 118) (v := 69) dX11_feeds_118 (by decide) ?_
                    refine w_iload_3 (pc := 120) dX11_feeds_120 ?_
                    refine w_iadd (pc := 121) dX11_feeds_121 ?_
                    refine w_aload_0 (pc := 122) dX11_feeds_122 ?_
                    refine w_getR (pc := 123) (b := a) kc11 0 hO.1 hO.2.1 rfl hO.2.2.2.2.2.2.2.2.2.2.2.2.2.2.1 t763 dX11_feeds_123 ?_
                    refine w_bipush (pc := 126) (v := 69) dX11_feeds_126 (by decide) ?_
                    refine w_iload_3 (pc := 128) dX11_feeds_128 ?_
                    refine w_iadd (pc := 129) dX11_feeds_129 ?_
                    refine w_iconst (pc := 130) (v := 2) dX11_feeds_130 (by decide) ?_
                    refine w_iadd (pc := 131) dX11_feeds_131 ?_
                    refine w_iald (pc := 132) (j := 69 + i + 2) hO.2.2.1 hO.2.2.2.1 (nx_add (nx_add rfl hz) rfl) (by omega) (by decide) dX11_feeds_132 ?_
                    refine w_iast (pc := 133) (j := 69 + i) hO.2.2.1 hO.2.2.2.1 (nx_add rfl hz) (by omega) (by decide) dX11_feeds_133 ?_
                    refine w_iinc_3 (pc := 134) dX11_feeds_134 rfl rfl ?_
                    refine w_goto (pc := 137) (tgt := 101) dX11_feeds_137 (by decide) ?_
                    refine w_mem ?_ (ih2 (i + 1) _ (by omega) (by omega) (by rw [hz]; exact nI_1 i))
                    simp only [kst, va_up_self, va_uu]
                    congr 1
                    funext k
                    by_cases hk : k = 69 + i
                    · subst hk
                      rw [upd_s, if_neg (by omega), if_pos (by omega)]
                    · rw [upd_ne hk]
                      by_cases h2 : 69 ≤ k ∧ k < 69 + i
                      · rw [if_pos h2, if_pos (by omega)]
                      · rw [if_neg h2, if_neg (by omega)]
              refine w_mem ?_ (L1 (2 * (nLo t - 1) + 1) 0 _ (by omega) (by omega) rfl)
              have e : (fun k => if 69 ≤ k ∧ k < 69 + 0 then U (k + 2) else U k) = U := by funext k; rw [if_neg (by omega)]
              rw [e, hU]
              simp [kst, va_up_self, va_uu, feed1, upd_ne, show ¬ 70 = 21 + tn (t 69) by omega]
          refine w_aload_0 (pc := 21) dX11_feeds_21 ?_
          refine w_getR (pc := 22) (b := a) kc11 0 hO.1 hO.2.1 rfl hO.2.2.2.2.2.2.2.2.2.2.2.2.2.2.1 t763 dX11_feeds_22 ?_
          refine w_bipush (pc := 25) (v := 70) dX11_feeds_25 (by decide) ?_
          refine w_iald (pc := 27) (j := 70) hO.2.2.1 hO.2.2.2.1 rfl (by decide) (by decide) dX11_feeds_27 ?_
          refine w_iload_1 (pc := 28) dX11_feeds_28 ?_
          refine w_icmp_ge (pc := 29) (tgt := 42) dX11_feeds_29 (by decide) (fun c29 => ?_) (fun c29 => ?_)
          · refine w_iload_1 (pc := 42) dX11_feeds_42 ?_
            exact J43 _ (by rw [mn, if_neg (Int32.not_lt.mpr (by simpa [va_up_self] using c29))])
          · refine w_aload_0 (pc := 32) dX11_feeds_32 ?_
            refine w_getR (pc := 33) (b := a) kc11 0 hO.1 hO.2.1 rfl hO.2.2.2.2.2.2.2.2.2.2.2.2.2.2.1 t763 dX11_feeds_33 ?_
            refine w_bipush (pc := 36) (v := 70) dX11_feeds_36 (by decide) ?_
            refine w_iald (pc := 38) (j := 70) hO.2.2.1 hO.2.2.2.1 rfl (by decide) (by decide) dX11_feeds_38 ?_
            refine w_goto (pc := 39) (tgt := 43) dX11_feeds_39 (by decide) ?_
            exact J43 _ (by rw [mn, if_pos (Int32.not_le.mp (by simpa [va_up_self] using c29)), va_up_self])
  refine w_mem (va_self I a).symm ?_
  exact L0 8 6 _ (I a) (by omega) hS (Or.inl (SX_L hS).1) rfl
set_option maxHeartbeats 4000000 in
set_option maxRecDepth 100000 in
theorem c_Mod_reading {g : kG} {σ : kS} {I : kI} {q a b c d e f : Nat} (hO : sMod g σ q a b c d e f)  : ct g mX11_reading ⟨1, 0, 0, 24⟩ [.ref q] σ I (qI (rdg (I a)) σ I) := by
  refine ct_of pn11 rfl (Nat.le_of_ble_eq_true rfl) ok_X11_reading.1 trivial ?_
  show wp _ _ _ _ _ _ _ _ 0 [some (.ref q)] []
  refine w_aload_0 (pc := 0) dX11_reading_0 ?_
  refine w_iconst (pc := 1) (v := 4) dX11_reading_1 (by decide) ?_
  refine w_bipush (pc := 2) (v := 7) dX11_reading_2 (by decide) ?_
  refine w_callV_I (pc := 4) (c_Mod_mass hO (u := 4) (v := 3) rfl rfl (by decide)) ok_X11_mass t842 t11 kc11 hO.1 hO.2.1 t840 ⟨Nat.le_of_ble_eq_true rfl, Nat.le_of_ble_eq_true rfl⟩ ⟨rfl, rfl⟩ ⟨Nat.le_refl _, Nat.le_refl _⟩ rfl (Nat.le_of_ble_eq_true rfl) dX11_reading_4 ?_
  refine w_aload_0 (pc := 7) dX11_reading_7 ?_
  refine w_getR (pc := 8) (b := a) kc11 0 hO.1 hO.2.1 rfl hO.2.2.2.2.2.2.2.2.2.2.2.2.2.2.1 t763 dX11_reading_8 ?_
  refine w_iconst (pc := 11) (v := 3) dX11_reading_11 (by decide) ?_
  refine w_iald (pc := 12) (j := 3) hO.2.2.1 hO.2.2.2.1 rfl (by decide) (by decide) dX11_reading_12 ?_
  refine w_iadd (pc := 13) dX11_reading_13 ?_
  refine w_aload_0 (pc := 14) dX11_reading_14 ?_
  refine w_getR (pc := 15) (b := a) kc11 0 hO.1 hO.2.1 rfl hO.2.2.2.2.2.2.2.2.2.2.2.2.2.2.1 t763 dX11_reading_15 ?_
  refine w_iconst (pc := 18) (v := 4) dX11_reading_18 (by decide) ?_
  refine w_iald (pc := 19) (j := 4) hO.2.2.1 hO.2.2.2.1 rfl (by decide) (by decide) dX11_reading_19 ?_
  refine w_isub (pc := 20) dX11_reading_20 ?_
  refine w_iret (pc := 21) rfl ⟨Nat.le_refl _, Nat.le_refl _⟩ dX11_reading_21 ?_
  exact ⟨rfl, rfl, rfl⟩
set_option maxHeartbeats 4000000 in
set_option maxRecDepth 100000 in
theorem c_Mod_reads {g : kG} {σ : kS} {I : kI} {q a b c d e f : Nat} (hO : sMod g σ q a b c d e f) (hS : SX (I a))  : ct g mX11_reads ⟨2, 0, 0, 44⟩ [.ref q] σ I (qV σ (va_up I a (readS (I a)))) := by
  refine ct_of pn11 rfl (Nat.le_of_ble_eq_true rfl) ok_X11_reads.1 trivial ?_
  show wp _ _ _ _ _ _ _ _ 0 [some (.ref q), none] []
  have o0 := hO.2.2.2.2.2.2.2.2.2.2.2.2.2.2.2.2.2.2.2.2.1
  have o1 := hO.2.2.2.2.2.2.2.2.2.2.2.2.2.2.2.2.2.2.2.2.2.1
  have o2 := hO.2.2.2.2.2.2.2.2.2.2.2.2.2.2.2.2.2.2.2.2.2.2.1
  have o3 := hO.2.2.2.2.2.2.2.2.2.2.2.2.2.2.2.2.2.2.2.2.2.2.2.1
  have o4 := hO.2.2.2.2.2.2.2.2.2.2.2.2.2.2.2.2.2.2.2.2.2.2.2.2.1
  have o5 := hO.2.2.2.2.2.2.2.2.2.2.2.2.2.2.2.2.2.2.2.2.2.2.2.2.2
  obtain ⟨b1, b2⟩ := SX_B hS
  refine w_aload_0 (pc := 0) dX11_reads_0 ?_
  refine w_callV_I (pc := 1) (c_Mod_reading hO) ok_X11_reading t870 t17 kc11 hO.1 hO.2.1 t868 ⟨Nat.le_of_ble_eq_true rfl, Nat.le_of_ble_eq_true rfl⟩ ⟨rfl, rfl⟩ ⟨Nat.le_refl _, Nat.le_refl _⟩ rfl (Nat.le_of_ble_eq_true rfl) dX11_reads_1 ?_
  refine w_aload_0 (pc := 4) dX11_reads_4 ?_
  refine w_getR (pc := 5) (b := a) kc11 0 hO.1 hO.2.1 rfl hO.2.2.2.2.2.2.2.2.2.2.2.2.2.2.1 t763 dX11_reads_5 ?_
  refine w_bipush (pc := 8) (v := 6) dX11_reads_8 (by decide) ?_
  refine w_iald (pc := 10) (j := 6) hO.2.2.1 hO.2.2.2.1 rfl (by decide) (by decide) dX11_reads_10 ?_
  refine w_iadd (pc := 11) dX11_reads_11 ?_
  refine w_istore_1 (pc := 12) dX11_reads_12 rfl ?_
  refine w_aload_0 (pc := 13) dX11_reads_13 ?_
  refine w_getR (pc := 14) (b := a) kc11 0 hO.1 hO.2.1 rfl hO.2.2.2.2.2.2.2.2.2.2.2.2.2.2.1 t763 dX11_reads_14 ?_
  refine w_iconst (pc := 17) (v := 5) dX11_reads_17 (by decide) ?_
  refine w_dup2 (pc := 18) dX11_reads_18 ?_
  refine w_iald (pc := 19) (j := 5) hO.2.2.1 hO.2.2.2.1 rfl (by decide) (by decide) dX11_reads_19 ?_
  refine w_iload_1 (pc := 20) dX11_reads_20 ?_
  refine w_iconst (pc := 21) (v := 4) dX11_reads_21 (by decide) ?_
  refine w_idiv (pc := 22) dX11_reads_22 (by decide) ?_
  refine w_iadd (pc := 23) dX11_reads_23 ?_
  refine w_iast (pc := 24) (j := 5) hO.2.2.1 hO.2.2.2.1 rfl (by decide) (by decide) dX11_reads_24 ?_
  refine w_aload_0 (pc := 25) dX11_reads_25 ?_
  refine w_getR (pc := 26) (b := a) kc11 0 hO.1 hO.2.1 rfl hO.2.2.2.2.2.2.2.2.2.2.2.2.2.2.1 t763 dX11_reads_26 ?_
  refine w_bipush (pc := 29) (v := 6) dX11_reads_29 (by decide) ?_
  refine w_iload_1 (pc := 31) dX11_reads_31 ?_
  refine w_iconst (pc := 32) (v := 4) dX11_reads_32 (by decide) ?_
  refine w_irem (pc := 33) dX11_reads_33 (by decide) ?_
  refine w_iast (pc := 34) (j := 6) hO.2.2.1 hO.2.2.2.1 rfl (by decide) (by decide) dX11_reads_34 ?_
  refine w_aload_0 (pc := 35) dX11_reads_35 ?_
  refine w_getR (pc := 36) (b := a) kc11 0 hO.1 hO.2.1 rfl hO.2.2.2.2.2.2.2.2.2.2.2.2.2.2.1 t763 dX11_reads_36 ?_
  refine w_bipush (pc := 39) (v := 12) dX11_reads_39 (by decide) ?_
  refine w_iald (pc := 41) (j := 12) hO.2.2.1 hO.2.2.2.1 rfl (by decide) (by decide) dX11_reads_41 ?_
  refine w_if_le (pc := 42) (tgt := 73) dX11_reads_42 (by decide) (fun c42 => ?_) (fun c42 => ?_)
  · refine w_vret (pc := 73) rfl ⟨Nat.le_refl _, Nat.le_refl _⟩ dX11_reads_73 ?_
    refine ⟨rfl, rfl, ?_⟩
    have hz : nB (I a) = 0 := by
      have : kst (kst I a 5 (I a 5 + (rdg (I a) + I a 6) / 4)) a 6 (rdg (I a) + I a 6 - (rdg (I a) + I a 6) / 4 * 4) a 12 = nI (nB (I a)) := by simp only [kst, va_up_self]; rw [upd_ne (by omega), upd_ne (by omega)]; exact b2
      have := (nx_cmp this (by omega) (y := 0) (b := 0) rfl (by omega)).1.mp c42
      omega
    rw [readS, if_pos hz]
    simp only [kst, va_up_self, va_uu]
    rfl
  · have hb12 : kst (kst I a 5 (I a 5 + (rdg (I a) + I a 6) / 4)) a 6 (rdg (I a) + I a 6 - (rdg (I a) + I a 6) / 4 * 4) a 12 = nI (nB (I a)) := by simp only [kst, va_up_self]; rw [upd_ne (by omega), upd_ne (by omega)]; exact b2
    obtain ⟨w, hw⟩ := nx_pos c42 hb12 (by omega)
    have hi : kst (kst I a 5 (I a 5 + (rdg (I a) + I a 6) / 4)) a 6 (rdg (I a) + I a 6 - (rdg (I a) + I a 6) / 4 * 4) a 12 - 1 = nI w := nx_m1 (by rw [← hw]; exact hb12)
    refine w_aload_0 (pc := 45) dX11_reads_45 ?_
    refine w_getR (pc := 46) (b := a) kc11 0 hO.1 hO.2.1 rfl hO.2.2.2.2.2.2.2.2.2.2.2.2.2.2.1 t763 dX11_reads_46 ?_
    refine w_bipush (pc := 49) (v := 81) dX11_reads_49 (by decide) ?_
    refine w_bipush (pc := 51) (v := 6) dX11_reads_51 (by decide) ?_
    refine w_aload_0 (pc := 53) dX11_reads_53 ?_
    refine w_getR (pc := 54) (b := a) kc11 0 hO.1 hO.2.1 rfl hO.2.2.2.2.2.2.2.2.2.2.2.2.2.2.1 t763 dX11_reads_54 ?_
    refine w_bipush (pc := 57) (v := 12) dX11_reads_57 (by decide) ?_
    refine w_iald (pc := 59) (j := 12) hO.2.2.1 hO.2.2.2.1 rfl (by decide) (by decide) dX11_reads_59 ?_
    refine w_iconst (pc := 60) (v := 1) dX11_reads_60 (by decide) ?_
    refine w_isub (pc := 61) dX11_reads_61 ?_
    refine w_imul (pc := 62) dX11_reads_62 ?_
    refine w_iadd (pc := 63) dX11_reads_63 ?_
    refine w_iconst (pc := 64) (v := 4) dX11_reads_64 (by decide) ?_
    refine w_iadd (pc := 65) dX11_reads_65 ?_
    refine w_dup2 (pc := 66) dX11_reads_66 ?_
    refine w_iald (pc := 67) (j := 85 + 6 * w) hO.2.2.1 hO.2.2.2.1 (by rw [nx_6 hi (z := 81) (c := 81) rfl, show (4 : Int32) = nI 4 from rfl, nI_add]; congr 1; omega) (by omega) (by decide) dX11_reads_67 ?_
    refine w_iload_1 (pc := 68) dX11_reads_68 ?_
    refine w_iconst (pc := 69) (v := 4) dX11_reads_69 (by decide) ?_
    refine w_idiv (pc := 70) dX11_reads_70 (by decide) ?_
    refine w_iadd (pc := 71) dX11_reads_71 ?_
    refine w_iast (pc := 72) (j := 85 + 6 * w) hO.2.2.1 hO.2.2.2.1 (by rw [nx_6 hi (z := 81) (c := 81) rfl, show (4 : Int32) = nI 4 from rfl, nI_add]; congr 1; omega) (by omega) (by decide) dX11_reads_72 ?_
    refine w_vret (pc := 73) rfl ⟨Nat.le_refl _, Nat.le_refl _⟩ dX11_reads_73 ?_
    refine ⟨rfl, rfl, ?_⟩
    rw [readS, if_neg (by omega), hw]
    simp [kst, va_up_self, va_uu, reads1, upd_ne, show ¬ 85 + 6 * w = 5 by omega, show ¬ 85 + 6 * w = 6 by omega]
set_option maxHeartbeats 4000000 in
set_option maxRecDepth 100000 in
theorem c_Mod_goes {g : kG} {σ : kS} {I : kI} {q a b c d e f : Nat} (hO : sMod g σ q a b c d e f) (hS : SX (I a))  : ct g mX11_goes ⟨3, 0, 0, 65⟩ [.ref q] σ I (qV σ (va_up I a (goesS (I a)))) := by
  refine ct_of pn11 rfl (Nat.le_of_ble_eq_true rfl) ok_X11_goes.1 trivial ?_
  show wp _ _ _ _ _ _ _ _ 0 [some (.ref q), none] []
  have o0 := hO.2.2.2.2.2.2.2.2.2.2.2.2.2.2.2.2.2.2.2.2.1
  have o1 := hO.2.2.2.2.2.2.2.2.2.2.2.2.2.2.2.2.2.2.2.2.2.1
  have o2 := hO.2.2.2.2.2.2.2.2.2.2.2.2.2.2.2.2.2.2.2.2.2.2.1
  have o3 := hO.2.2.2.2.2.2.2.2.2.2.2.2.2.2.2.2.2.2.2.2.2.2.2.1
  have o4 := hO.2.2.2.2.2.2.2.2.2.2.2.2.2.2.2.2.2.2.2.2.2.2.2.2.1
  have o5 := hO.2.2.2.2.2.2.2.2.2.2.2.2.2.2.2.2.2.2.2.2.2.2.2.2.2
  have S1 := SX_falls hS
  refine w_aload_0 (pc := 0) dX11_goes_0 ?_
  refine w_callV_V (pc := 1) (c_Mod_falls hO hS) ok_X11_falls t858 t14 kc11 hO.1 hO.2.1 t856 ⟨Nat.le_of_ble_eq_true rfl, Nat.le_of_ble_eq_true rfl⟩ ⟨rfl, rfl⟩ ⟨Nat.le_refl _, Nat.le_refl _⟩ rfl (Nat.le_of_ble_eq_true rfl) dX11_goes_1 ?_
  refine w_bipush (pc := 4) (v := 68) dX11_goes_4 (by decide) ?_
  refine w_istore_1 (pc := 6) dX11_goes_6 rfl ?_
  have L0 : ∀ (n i : Nat) (z : Int32), 24 ≤ i → i ≤ 68 → i ≤ 23 + n → z = nI i → wp g mX11_goes ⟨3, 0, 0, 65⟩ (fun _ => True) (qV σ (va_up I a (goesS (I a)))) (0, 0) σ (va_up I a (fun k => if i < k ∧ k < 69 then falls (I a) (k - 4) else falls (I a) k)) 7 [some (.ref q), some (.int z)] [] := by
    intro n
    induction n with
    | zero => intro i z h1 h2 h3; exact absurd h3 (by omega)
    | succ n ih =>
      intro i z h1 h2 h3 hz
      refine w_iload_1 (pc := 7) dX11_goes_7 ?_
      refine w_bipush (pc := 8) (v := 25) dX11_goes_8 (by decide) ?_
      refine w_icmp_lt (pc := 10) (tgt := 33) dX11_goes_10 (by decide) (fun c10 => ?_) (fun c10 => ?_)
      · have hi : i < 25 := (nx_cmp (y := 25) (b := 25) hz (by omega) rfl (by omega)).2.1.mp c10
        refine w_iconst (pc := 33) (v := 0) dX11_goes_33 (by decide) ?_
        refine w_istore_1 (pc := 34) dX11_goes_34 rfl ?_
        refine w_iload_1 (pc := 35) dX11_goes_35 ?_
        refine w_iconst (pc := 36) (v := 4) dX11_goes_36 (by decide) ?_
        refine w_icmp_ge (pc := 37) (tgt := 56) dX11_goes_37 (by decide) (fun c9 => absurd c9 (by decide)) (fun _ => ?_)
        refine w_aload_0 (pc := 40) dX11_goes_40 ?_
        refine w_getR (pc := 41) (b := a) kc11 0 hO.1 hO.2.1 rfl hO.2.2.2.2.2.2.2.2.2.2.2.2.2.2.1 t763 dX11_goes_41 ?_
        refine w_bipush (pc := 44) (v := 21) dX11_goes_44 (by decide) ?_
        refine w_iload_1 (pc := 46) dX11_goes_46 ?_
        refine w_iadd (pc := 47) dX11_goes_47 ?_
        refine w_iconst (pc := 48) (v := 0) dX11_goes_48 (by decide) ?_
        refine w_iast (pc := 49) (j := 21 + 0) hO.2.2.1 hO.2.2.2.1 (nx_add rfl rfl) (by decide) (by decide) dX11_goes_49 ?_
        refine w_iinc_1 (pc := 50) (v := 1) dX11_goes_50 (by decide) rfl ?_
        refine w_goto (pc := 53) (tgt := 35) dX11_goes_53 (by decide) ?_
        refine w_iload_1 (pc := 35) dX11_goes_35 ?_
        refine w_iconst (pc := 36) (v := 4) dX11_goes_36 (by decide) ?_
        refine w_icmp_ge (pc := 37) (tgt := 56) dX11_goes_37 (by decide) (fun c9 => absurd c9 (by decide)) (fun _ => ?_)
        refine w_aload_0 (pc := 40) dX11_goes_40 ?_
        refine w_getR (pc := 41) (b := a) kc11 0 hO.1 hO.2.1 rfl hO.2.2.2.2.2.2.2.2.2.2.2.2.2.2.1 t763 dX11_goes_41 ?_
        refine w_bipush (pc := 44) (v := 21) dX11_goes_44 (by decide) ?_
        refine w_iload_1 (pc := 46) dX11_goes_46 ?_
        refine w_iadd (pc := 47) dX11_goes_47 ?_
        refine w_iconst (pc := 48) (v := 0) dX11_goes_48 (by decide) ?_
        refine w_iast (pc := 49) (j := 21 + 1) hO.2.2.1 hO.2.2.2.1 (nx_add rfl rfl) (by decide) (by decide) dX11_goes_49 ?_
        refine w_iinc_1 (pc := 50) (v := 2) dX11_goes_50 (by decide) rfl ?_
        refine w_goto (pc := 53) (tgt := 35) dX11_goes_53 (by decide) ?_
        refine w_iload_1 (pc := 35) dX11_goes_35 ?_
        refine w_iconst (pc := 36) (v := 4) dX11_goes_36 (by decide) ?_
        refine w_icmp_ge (pc := 37) (tgt := 56) dX11_goes_37 (by decide) (fun c9 => absurd c9 (by decide)) (fun _ => ?_)
        refine w_aload_0 (pc := 40) dX11_goes_40 ?_
        refine w_getR (pc := 41) (b := a) kc11 0 hO.1 hO.2.1 rfl hO.2.2.2.2.2.2.2.2.2.2.2.2.2.2.1 t763 dX11_goes_41 ?_
        refine w_bipush (pc := 44) (v := 21) dX11_goes_44 (by decide) ?_
        refine w_iload_1 (pc := 46) dX11_goes_46 ?_
        refine w_iadd (pc := 47) dX11_goes_47 ?_
        refine w_iconst (pc := 48) (v := 0) dX11_goes_48 (by decide) ?_
        refine w_iast (pc := 49) (j := 21 + 2) hO.2.2.1 hO.2.2.2.1 (nx_add rfl rfl) (by decide) (by decide) dX11_goes_49 ?_
        refine w_iinc_1 (pc := 50) (v := 3) dX11_goes_50 (by decide) rfl ?_
        refine w_goto (pc := 53) (tgt := 35) dX11_goes_53 (by decide) ?_
        refine w_iload_1 (pc := 35) dX11_goes_35 ?_
        refine w_iconst (pc := 36) (v := 4) dX11_goes_36 (by decide) ?_
        refine w_icmp_ge (pc := 37) (tgt := 56) dX11_goes_37 (by decide) (fun c9 => absurd c9 (by decide)) (fun _ => ?_)
        refine w_aload_0 (pc := 40) dX11_goes_40 ?_
        refine w_getR (pc := 41) (b := a) kc11 0 hO.1 hO.2.1 rfl hO.2.2.2.2.2.2.2.2.2.2.2.2.2.2.1 t763 dX11_goes_41 ?_
        refine w_bipush (pc := 44) (v := 21) dX11_goes_44 (by decide) ?_
        refine w_iload_1 (pc := 46) dX11_goes_46 ?_
        refine w_iadd (pc := 47) dX11_goes_47 ?_
        refine w_iconst (pc := 48) (v := 0) dX11_goes_48 (by decide) ?_
        refine w_iast (pc := 49) (j := 21 + 3) hO.2.2.1 hO.2.2.2.1 (nx_add rfl rfl) (by decide) (by decide) dX11_goes_49 ?_
        refine w_iinc_1 (pc := 50) (v := 4) dX11_goes_50 (by decide) rfl ?_
        refine w_goto (pc := 53) (tgt := 35) dX11_goes_53 (by decide) ?_
        refine w_iload_1 (pc := 35) dX11_goes_35 ?_
        refine w_iconst (pc := 36) (v := 4) dX11_goes_36 (by decide) ?_
        refine w_icmp_ge (pc := 37) (tgt := 56) dX11_goes_37 (by decide) (fun _ => ?_) (fun c9 => absurd (by decide) c9)
        have e56 : kst (kst (kst (kst (va_up I a (fun k => if i < k ∧ k < 69 then falls (I a) (k - 4) else falls (I a) k)) a (21 + 0) 0) a (21 + 1) 0) a (21 + 2) 0) a (21 + 3) 0 = va_up I a (goesA (I a)) := by
          simp only [kst, va_up_self, va_uu]
          congr 1
          funext k
          have i24 : i = 24 := by omega
          subst i24
          unfold goesA shiftS
          by_cases hk : 25 ≤ k ∧ k < 69
          · rw [upd_ne (by omega), upd_ne (by omega), upd_ne (by omega), upd_ne (by omega), if_pos (by omega), if_pos hk]
          · rw [if_neg hk]
            by_cases hk2 : 21 ≤ k ∧ k < 25
            · rw [if_pos hk2]
              rcases (show k = 21 + 0 ∨ k = 21 + 1 ∨ k = 21 + 2 ∨ k = 21 + 3 by omega) with rfl | rfl | rfl | rfl <;> simp [upd]
            · rw [if_neg hk2, upd_ne (by omega), upd_ne (by omega), upd_ne (by omega), upd_ne (by omega), if_neg (by omega)]
        rw [e56]
        have S2 : SX (goesA (I a)) := SX_shift S1
        have S2' : SX (va_up I a (goesA (I a)) a) := by rw [va_up_self]; exact S2
        have J77 : ∀ (t : kV), t = goesB (goesA (I a)) → wp g mX11_goes ⟨3, 0, 0, 65⟩ (fun _ => True) (qV σ (va_up I a (goesS (I a)))) (0, 0) σ (va_up I a t) 77 [some (.ref q), none] [] := by
          intro t ht
          have S3 : SX (va_up I a t a) := by rw [va_up_self, ht]; exact SX_goesB S2
          refine w_aload_0 (pc := 77) dX11_goes_77 ?_
          refine w_callV_V (pc := 78) (c_Mod_reads hO S3) ok_X11_reads t866 t16 kc11 hO.1 hO.2.1 t864 ⟨Nat.le_of_ble_eq_true rfl, Nat.le_of_ble_eq_true rfl⟩ ⟨rfl, rfl⟩ ⟨Nat.le_refl _, Nat.le_refl _⟩ rfl (Nat.le_of_ble_eq_true rfl) dX11_goes_78 ?_
          refine w_aload_0 (pc := 81) dX11_goes_81 ?_
          refine w_getR (pc := 82) (b := a) kc11 0 hO.1 hO.2.1 rfl hO.2.2.2.2.2.2.2.2.2.2.2.2.2.2.1 t763 dX11_goes_82 ?_
          refine w_bipush (pc := 85) (v := 8) dX11_goes_85 (by decide) ?_
          refine w_iconst (pc := 87) (v := 0) dX11_goes_87 (by decide) ?_
          refine w_iast (pc := 88) (j := 8) hO.2.2.1 hO.2.2.2.1 rfl (by decide) (by decide) dX11_goes_88 ?_
          refine w_vret (pc := 89) rfl ⟨Nat.le_refl _, Nat.le_refl _⟩ dX11_goes_89 ?_
          refine ⟨rfl, rfl, ?_⟩
          simp only [kst, va_up_self, va_uu]
          rw [ht]
          rfl
        refine w_aload_0 (pc := 56) dX11_goes_56 ?_
        refine w_callV_I (pc := 57) (c_Mod_hasBatch hO) ok_X11_hasBatch t829 t10 kc11 hO.1 hO.2.1 t827 ⟨Nat.le_of_ble_eq_true rfl, Nat.le_of_ble_eq_true rfl⟩ ⟨rfl, rfl⟩ ⟨Nat.le_refl _, Nat.le_refl _⟩ rfl (Nat.le_of_ble_eq_true rfl) dX11_goes_57 ?_
        refine w_if_eq (pc := 60) (tgt := 73) dX11_goes_60 (by decide) (fun c60 => ?_) (fun c60 => ?_)
        · refine w_aload_0 (pc := 73) dX11_goes_73 ?_
          refine w_callV_V (pc := 74) (c_Mod_feeds hO S2') ok_X11_feeds t862 t15 kc11 hO.1 hO.2.1 t860 ⟨Nat.le_of_ble_eq_true rfl, Nat.le_of_ble_eq_true rfl⟩ ⟨rfl, rfl⟩ ⟨Nat.le_refl _, Nat.le_refl _⟩ rfl (Nat.le_of_ble_eq_true rfl) dX11_goes_74 ?_
          refine w_drop 1 ?_
          rw [va_up_self, va_uu]
          exact J77 _ (by rw [goesB, if_neg (fun h => (by rw [va_up_self] at c60; exact b0 c60 h.1))])
        · refine w_aload_0 (pc := 63) dX11_goes_63 ?_
          refine w_getR (pc := 64) (b := a) kc11 0 hO.1 hO.2.1 rfl hO.2.2.2.2.2.2.2.2.2.2.2.2.2.2.1 t763 dX11_goes_64 ?_
          refine w_bipush (pc := 67) (v := 16) dX11_goes_67 (by decide) ?_
          refine w_iald (pc := 69) (j := 16) hO.2.2.1 hO.2.2.2.1 rfl (by decide) (by decide) dX11_goes_69 ?_
          refine w_if_ne (pc := 70) (tgt := 77) dX11_goes_70 (by decide) (fun c70 => ?_) (fun c70 => ?_)
          · refine w_drop 1 ?_
            exact J77 _ (by rw [goesB, if_pos]; rw [va_up_self] at c60 c70; exact ⟨b1 c60, c70⟩)
          · refine w_aload_0 (pc := 73) dX11_goes_73 ?_
            refine w_callV_V (pc := 74) (c_Mod_feeds hO S2') ok_X11_feeds t862 t15 kc11 hO.1 hO.2.1 t860 ⟨Nat.le_of_ble_eq_true rfl, Nat.le_of_ble_eq_true rfl⟩ ⟨rfl, rfl⟩ ⟨Nat.le_refl _, Nat.le_refl _⟩ rfl (Nat.le_of_ble_eq_true rfl) dX11_goes_74 ?_
            refine w_drop 1 ?_
            rw [va_up_self, va_uu]
            exact J77 _ (by rw [goesB, if_neg]; rw [va_up_self] at c70; exact fun h => h.2 c70)
      · have hi : 25 ≤ i := (nx_cmp (x := 25) (a := 25) rfl (by omega) hz (by omega)).1.mp (Int32.not_lt.mp c10)
        refine w_aload_0 (pc := 13) dX11_goes_13 ?_
        refine w_getR (pc := 14) (b := a) kc11 0 hO.1 hO.2.1 rfl hO.2.2.2.2.2.2.2.2.2.2.2.2.2.2.1 t763 dX11_goes_14 ?_
        refine w_iload_1 (pc := 17) dX11_goes_17 ?_
        refine w_aload_0 (pc := 18) dX11_goes_18 ?_
        refine w_getR (pc := 19) (b := a) kc11 0 hO.1 hO.2.1 rfl hO.2.2.2.2.2.2.2.2.2.2.2.2.2.2.1 t763 dX11_goes_19 ?_
        refine w_iload_1 (pc := 22) dX11_goes_22 ?_
        refine w_iconst (pc := 23) (v := 4) dX11_goes_23 (by decide) ?_
        refine w_isub (pc := 24) dX11_goes_24 ?_
        refine w_iald (pc := 25) (j := i - 4) hO.2.2.1 hO.2.2.2.1 (by rw [hz, show (4 : Int32) = nI 4 from rfl]; exact pk_sub (by omega)) (by omega) (by decide) dX11_goes_25 ?_
        refine w_iast (pc := 26) (j := i) hO.2.2.1 hO.2.2.2.1 hz (by omega) (by decide) dX11_goes_26 ?_
        refine w_iinc_1 (pc := 27) dX11_goes_27 rfl rfl ?_
        refine w_goto (pc := 30) (tgt := 7) dX11_goes_30 (by decide) ?_
        refine w_mem ?_ (ih (i - 1) _ (by omega) (by omega) (by omega) (by rw [hz, show i = (i - 1) + 1 by omega]; exact pk_m1 _))
        simp only [kst, va_up_self, va_uu]
        congr 1
        funext k
        by_cases hk : k = i
        · subst hk
          rw [upd_s, if_neg (by omega), if_pos (by omega)]
        · rw [upd_ne hk]
          by_cases h2 : i < k ∧ k < 69
          · rw [if_pos h2, if_pos (by omega)]
          · rw [if_neg h2, if_neg (by omega)]
  refine w_mem ?_ (L0 45 68 _ (by omega) (by omega) (by omega) rfl)
  congr 1
  funext k
  rw [if_neg (by omega)]
set_option maxHeartbeats 4000000 in
set_option maxRecDepth 100000 in
theorem c_Mod_ticks {g : kG} {σ : kS} {I : kI} {q a b c d e f : Nat} (hO : sMod g σ q a b c d e f) (hS : SX (I a))  : ct g mX11_ticks ⟨4, 0, 0, 86⟩ [.ref q] σ I (qV σ (va_up I a (tickS (I a)))) := by
  refine ct_of pn11 rfl (Nat.le_of_ble_eq_true rfl) ok_X11_ticks.1 trivial ?_
  show wp _ _ _ _ _ _ _ _ 0 [some (.ref q)] []
  have o0 := hO.2.2.2.2.2.2.2.2.2.2.2.2.2.2.2.2.2.2.2.2.1
  have o1 := hO.2.2.2.2.2.2.2.2.2.2.2.2.2.2.2.2.2.2.2.2.2.1
  have o2 := hO.2.2.2.2.2.2.2.2.2.2.2.2.2.2.2.2.2.2.2.2.2.2.1
  have o3 := hO.2.2.2.2.2.2.2.2.2.2.2.2.2.2.2.2.2.2.2.2.2.2.2.1
  have o4 := hO.2.2.2.2.2.2.2.2.2.2.2.2.2.2.2.2.2.2.2.2.2.2.2.2.1
  have o5 := hO.2.2.2.2.2.2.2.2.2.2.2.2.2.2.2.2.2.2.2.2.2.2.2.2.2
  have S1 := SX_tk1 hS
  have h19 : ¬ I a 19 = 0 := fun h => by have := hS.2.2.2; rw [h] at this; exact absurd this (by decide)
  refine w_aload_0 (pc := 0) dX11_ticks_0 ?_
  refine w_getR (pc := 1) (b := a) kc11 0 hO.1 hO.2.1 rfl hO.2.2.2.2.2.2.2.2.2.2.2.2.2.2.1 t763 dX11_ticks_1 ?_
  refine w_iconst (pc := 4) (v := 2) dX11_ticks_4 (by decide) ?_
  refine w_dup2 (pc := 5) dX11_ticks_5 ?_
  refine w_iald (pc := 6) (j := 2) hO.2.2.1 hO.2.2.2.1 rfl (by decide) (by decide) dX11_ticks_6 ?_
  refine w_iconst (pc := 7) (v := 1) dX11_ticks_7 (by decide) ?_
  refine w_iadd (pc := 8) dX11_ticks_8 ?_
  refine w_iast (pc := 9) (j := 2) hO.2.2.1 hO.2.2.2.1 rfl (by decide) (by decide) dX11_ticks_9 ?_
  refine w_aload_0 (pc := 10) dX11_ticks_10 ?_
  refine w_getR (pc := 11) (b := a) kc11 0 hO.1 hO.2.1 rfl hO.2.2.2.2.2.2.2.2.2.2.2.2.2.2.1 t763 dX11_ticks_11 ?_
  refine w_iconst (pc := 14) (v := 3) dX11_ticks_14 (by decide) ?_
  refine w_dup2 (pc := 15) dX11_ticks_15 ?_
  refine w_iald (pc := 16) (j := 3) hO.2.2.1 hO.2.2.2.1 rfl (by decide) (by decide) dX11_ticks_16 ?_
  have J45 : ∀ (z : Int32), z = (if I a 2 + 1 - (I a 2 + 1) / I a 19 * I a 19 = 0 then I a 20 else 0) → wp g mX11_ticks ⟨4, 0, 0, 86⟩ (fun _ => True) (qV σ (va_up I a (tickS (I a)))) (0, 0) σ (kst I a 2 (I a 2 + 1)) 45 [some (.ref q)] [.int z, .int (kst I a 2 (I a 2 + 1) a 3), .int 3, .ref a] := by
    intro z hz
    refine w_iadd (pc := 45) dX11_ticks_45 ?_
    refine w_iast (pc := 46) (j := 3) hO.2.2.1 hO.2.2.2.1 rfl (by decide) (by decide) dX11_ticks_46 ?_
    have e47 : kst (kst I a 2 (I a 2 + 1)) a 3 (kst I a 2 (I a 2 + 1) a 3 + z) = va_up I a (tk1 (I a)) := by
      simp only [kst, va_up_self, va_uu]
      rw [upd_ne (by omega), hz]
      rfl
    rw [e47]
    have J132 : ∀ (t : kV), t = tk3 (tk2 (tk1 (I a))) → wp g mX11_ticks ⟨4, 0, 0, 86⟩ (fun _ => True) (qV σ (va_up I a (tickS (I a)))) (0, 0) σ (va_up I a t) 132 [some (.ref q)] [] := by
      intro t ht
      refine w_aload_0 (pc := 132) dX11_ticks_132 ?_
      refine w_callV_I (pc := 133) (c_Mod_hasBatch hO) ok_X11_hasBatch t829 t10 kc11 hO.1 hO.2.1 t827 ⟨Nat.le_of_ble_eq_true rfl, Nat.le_of_ble_eq_true rfl⟩ ⟨rfl, rfl⟩ ⟨Nat.le_refl _, Nat.le_refl _⟩ rfl (Nat.le_of_ble_eq_true rfl) dX11_ticks_133 ?_
      refine w_if_eq (pc := 136) (tgt := 168) dX11_ticks_136 (by decide) (fun c136 => ?_) (fun c136 => ?_)
      · refine w_vret (pc := 168) rfl ⟨Nat.le_refl _, Nat.le_refl _⟩ dX11_ticks_168 ?_
        refine ⟨rfl, rfl, ?_⟩
        rw [va_up_self, ht] at c136
        rw [ht, tickS, tk4, if_neg (fun h => b0 c136 h.1)]
      · refine w_aload_0 (pc := 139) dX11_ticks_139 ?_
        refine w_getR (pc := 140) (b := a) kc11 0 hO.1 hO.2.1 rfl hO.2.2.2.2.2.2.2.2.2.2.2.2.2.2.1 t763 dX11_ticks_140 ?_
        refine w_bipush (pc := 143) (v := 16) dX11_ticks_143 (by decide) ?_
        refine w_iald (pc := 145) (j := 16) hO.2.2.1 hO.2.2.2.1 rfl (by decide) (by decide) dX11_ticks_145 ?_
        refine w_iconst (pc := 146) (v := 1) dX11_ticks_146 (by decide) ?_
        refine w_icmp_ne (pc := 147) (tgt := 168) dX11_ticks_147 (by decide) (fun c147 => ?_) (fun c147 => ?_)
        · refine w_vret (pc := 168) rfl ⟨Nat.le_refl _, Nat.le_refl _⟩ dX11_ticks_168 ?_
          refine ⟨rfl, rfl, ?_⟩
          rw [va_up_self, ht] at c147
          rw [ht, tickS, tk4, if_neg (fun h => c147 h.2.1)]
        · refine w_aload_0 (pc := 150) dX11_ticks_150 ?_
          refine w_iconst (pc := 151) (v := 0) dX11_ticks_151 (by decide) ?_
          refine w_bipush (pc := 152) (v := 11) dX11_ticks_152 (by decide) ?_
          refine w_callV_I (pc := 154) (c_Mod_mass hO (u := 0) (v := 11) rfl rfl (by decide)) ok_X11_mass t842 t11 kc11 hO.1 hO.2.1 t840 ⟨Nat.le_of_ble_eq_true rfl, Nat.le_of_ble_eq_true rfl⟩ ⟨rfl, rfl⟩ ⟨Nat.le_refl _, Nat.le_refl _⟩ rfl (Nat.le_of_ble_eq_true rfl) dX11_ticks_154 ?_
          refine w_if_ne (pc := 157) (tgt := 168) dX11_ticks_157 (by decide) (fun c157 => ?_) (fun c157 => ?_)
          · refine w_vret (pc := 168) rfl ⟨Nat.le_refl _, Nat.le_refl _⟩ dX11_ticks_168 ?_
            refine ⟨rfl, rfl, ?_⟩
            rw [va_up_self, ht] at c157
            rw [ht, tickS, tk4, if_neg (fun h => c157 h.2.2)]
          · refine w_aload_0 (pc := 160) dX11_ticks_160 ?_
            refine w_getR (pc := 161) (b := a) kc11 0 hO.1 hO.2.1 rfl hO.2.2.2.2.2.2.2.2.2.2.2.2.2.2.1 t763 dX11_ticks_161 ?_
            refine w_bipush (pc := 164) (v := 15) dX11_ticks_164 (by decide) ?_
            refine w_iconst (pc := 166) (v := 0) dX11_ticks_166 (by decide) ?_
            refine w_iast (pc := 167) (j := 15) hO.2.2.1 hO.2.2.2.1 rfl (by decide) (by decide) dX11_ticks_167 ?_
            refine w_vret (pc := 168) rfl ⟨Nat.le_refl _, Nat.le_refl _⟩ dX11_ticks_168 ?_
            refine ⟨rfl, rfl, ?_⟩
            rw [va_up_self, ht] at c136 c147 c157
            simp only [kst, va_up_self, va_uu]
            rw [ht, tickS, tk4, if_pos ⟨b1 c136, c147, c157⟩]
    have J97 : ∀ (t : kV), t = tk2 (tk1 (I a)) → wp g mX11_ticks ⟨4, 0, 0, 86⟩ (fun _ => True) (qV σ (va_up I a (tickS (I a)))) (0, 0) σ (va_up I a t) 97 [some (.ref q)] [] := by
      intro t ht
      have S2 : SX (va_up I a t a) := by rw [va_up_self, ht]; exact SX_tk2 S1
      refine w_aload_0 (pc := 97) dX11_ticks_97 ?_
      refine w_callV_I (pc := 98) (c_Mod_hasBatch hO) ok_X11_hasBatch t829 t10 kc11 hO.1 hO.2.1 t827 ⟨Nat.le_of_ble_eq_true rfl, Nat.le_of_ble_eq_true rfl⟩ ⟨rfl, rfl⟩ ⟨Nat.le_refl _, Nat.le_refl _⟩ rfl (Nat.le_of_ble_eq_true rfl) dX11_ticks_98 ?_
      refine w_if_ne (pc := 101) (tgt := 114) dX11_ticks_101 (by decide) (fun c101 => ?_) (fun c101 => ?_)
      · refine w_aload_0 (pc := 114) dX11_ticks_114 ?_
        refine w_callV_V (pc := 115) (c_Mod_goes hO S2) ok_X11_goes t854 t13 kc11 hO.1 hO.2.1 t852 ⟨Nat.le_of_ble_eq_true rfl, Nat.le_of_ble_eq_true rfl⟩ ⟨rfl, rfl⟩ ⟨Nat.le_refl _, Nat.le_refl _⟩ rfl (Nat.le_of_ble_eq_true rfl) dX11_ticks_115 ?_
        refine w_goto (pc := 118) (tgt := 132) dX11_ticks_118 (by decide) ?_
        rw [va_up_self, va_uu]
        exact J132 _ (by rw [ht, tk3, if_pos]; rw [va_up_self, ht] at c101; exact Or.inl (b1 c101))
      · refine w_aload_0 (pc := 104) dX11_ticks_104 ?_
        refine w_getR (pc := 105) (b := a) kc11 0 hO.1 hO.2.1 rfl hO.2.2.2.2.2.2.2.2.2.2.2.2.2.2.1 t763 dX11_ticks_105 ?_
        refine w_iconst (pc := 108) (v := 1) dX11_ticks_108 (by decide) ?_
        refine w_iald (pc := 109) (j := 1) hO.2.2.1 hO.2.2.2.1 rfl (by decide) (by decide) dX11_ticks_109 ?_
        refine w_iconst (pc := 110) (v := 1) dX11_ticks_110 (by decide) ?_
        refine w_icmp_ne (pc := 111) (tgt := 121) dX11_ticks_111 (by decide) (fun c111 => ?_) (fun c111 => ?_)
        · refine w_aload_0 (pc := 121) dX11_ticks_121 ?_
          refine w_getR (pc := 122) (b := a) kc11 0 hO.1 hO.2.1 rfl hO.2.2.2.2.2.2.2.2.2.2.2.2.2.2.1 t763 dX11_ticks_122 ?_
          refine w_bipush (pc := 125) (v := 8) dX11_ticks_125 (by decide) ?_
          refine w_dup2 (pc := 127) dX11_ticks_127 ?_
          refine w_iald (pc := 128) (j := 8) hO.2.2.1 hO.2.2.2.1 rfl (by decide) (by decide) dX11_ticks_128 ?_
          refine w_iconst (pc := 129) (v := 1) dX11_ticks_129 (by decide) ?_
          refine w_iadd (pc := 130) dX11_ticks_130 ?_
          refine w_iast (pc := 131) (j := 8) hO.2.2.1 hO.2.2.2.1 rfl (by decide) (by decide) dX11_ticks_131 ?_
          refine w_mem ?_ (J132 _ rfl)
          rw [va_up_self] at c101 c111 ⊢
          simp only [kst, va_up_self, va_uu]
          rw [← ht, tk3, if_neg]
          exact fun h => h.elim (b0 c101) c111
        · refine w_aload_0 (pc := 114) dX11_ticks_114 ?_
          refine w_callV_V (pc := 115) (c_Mod_goes hO S2) ok_X11_goes t854 t13 kc11 hO.1 hO.2.1 t852 ⟨Nat.le_of_ble_eq_true rfl, Nat.le_of_ble_eq_true rfl⟩ ⟨rfl, rfl⟩ ⟨Nat.le_refl _, Nat.le_refl _⟩ rfl (Nat.le_of_ble_eq_true rfl) dX11_ticks_115 ?_
          refine w_goto (pc := 118) (tgt := 132) dX11_ticks_118 (by decide) ?_
          rw [va_up_self, va_uu]
          exact J132 _ (by rw [ht, tk3, if_pos]; rw [va_up_self, ht] at c111; exact Or.inr c111)
    refine w_aload_0 (pc := 47) dX11_ticks_47 ?_
    refine w_callV_I (pc := 48) (c_Mod_hasBatch hO) ok_X11_hasBatch t829 t10 kc11 hO.1 hO.2.1 t827 ⟨Nat.le_of_ble_eq_true rfl, Nat.le_of_ble_eq_true rfl⟩ ⟨rfl, rfl⟩ ⟨Nat.le_refl _, Nat.le_refl _⟩ rfl (Nat.le_of_ble_eq_true rfl) dX11_ticks_48 ?_
    refine w_if_eq (pc := 51) (tgt := 97) dX11_ticks_51 (by decide) (fun c51 => ?_) (fun c51 => ?_)
    · exact J97 _ (by rw [tk2, if_neg]; rw [va_up_self] at c51; exact fun h => b0 c51 h.1)
    · refine w_aload_0 (pc := 54) dX11_ticks_54 ?_
      refine w_iconst (pc := 55) (v := 0) dX11_ticks_55 (by decide) ?_
      refine w_bipush (pc := 56) (v := 11) dX11_ticks_56 (by decide) ?_
      refine w_callV_I (pc := 58) (c_Mod_mass hO (u := 0) (v := 11) rfl rfl (by decide)) ok_X11_mass t842 t11 kc11 hO.1 hO.2.1 t840 ⟨Nat.le_of_ble_eq_true rfl, Nat.le_of_ble_eq_true rfl⟩ ⟨rfl, rfl⟩ ⟨Nat.le_refl _, Nat.le_refl _⟩ rfl (Nat.le_of_ble_eq_true rfl) dX11_ticks_58 ?_
      refine w_aload_0 (pc := 61) dX11_ticks_61 ?_
      refine w_getR (pc := 62) (b := a) kc11 0 hO.1 hO.2.1 rfl hO.2.2.2.2.2.2.2.2.2.2.2.2.2.2.1 t763 dX11_ticks_62 ?_
      refine w_bipush (pc := 65) (v := 17) dX11_ticks_65 (by decide) ?_
      refine w_iald (pc := 67) (j := 17) hO.2.2.1 hO.2.2.2.1 rfl (by decide) (by decide) dX11_ticks_67 ?_
      refine w_iadd (pc := 68) dX11_ticks_68 ?_
      refine w_aload_0 (pc := 69) dX11_ticks_69 ?_
      refine w_getR (pc := 70) (b := a) kc11 0 hO.1 hO.2.1 rfl hO.2.2.2.2.2.2.2.2.2.2.2.2.2.2.1 t763 dX11_ticks_70 ?_
      refine w_bipush (pc := 73) (v := 15) dX11_ticks_73 (by decide) ?_
      refine w_iald (pc := 75) (j := 15) hO.2.2.1 hO.2.2.2.1 rfl (by decide) (by decide) dX11_ticks_75 ?_
      refine w_icmp_ge (pc := 76) (tgt := 89) dX11_ticks_76 (by decide) (fun c76 => ?_) (fun c76 => ?_)
      · refine w_aload_0 (pc := 89) dX11_ticks_89 ?_
        refine w_getR (pc := 90) (b := a) kc11 0 hO.1 hO.2.1 rfl hO.2.2.2.2.2.2.2.2.2.2.2.2.2.2.1 t763 dX11_ticks_90 ?_
        refine w_bipush (pc := 93) (v := 16) dX11_ticks_93 (by decide) ?_
        refine w_iconst (pc := 95) (v := 1) dX11_ticks_95 (by decide) ?_
        refine w_iast (pc := 96) (j := 16) hO.2.2.1 hO.2.2.2.1 rfl (by decide) (by decide) dX11_ticks_96 ?_
        refine w_mem ?_ (J97 _ rfl)
        rw [va_up_self] at c51 c76
        simp only [kst, va_up_self, va_uu]
        rw [tk2, if_pos ⟨b1 c51, Or.inl c76⟩]
      · refine w_aload_0 (pc := 79) dX11_ticks_79 ?_
        refine w_getR (pc := 80) (b := a) kc11 0 hO.1 hO.2.1 rfl hO.2.2.2.2.2.2.2.2.2.2.2.2.2.2.1 t763 dX11_ticks_80 ?_
        refine w_bipush (pc := 83) (v := 13) dX11_ticks_83 (by decide) ?_
        refine w_iald (pc := 85) (j := 13) hO.2.2.1 hO.2.2.2.1 rfl (by decide) (by decide) dX11_ticks_85 ?_
        refine w_if_ne (pc := 86) (tgt := 97) dX11_ticks_86 (by decide) (fun c86 => ?_) (fun c86 => ?_)
        · exact J97 _ (by rw [tk2, if_neg]; rw [va_up_self] at c76 c86; exact fun h => h.2.elim c76 c86)
        · refine w_aload_0 (pc := 89) dX11_ticks_89 ?_
          refine w_getR (pc := 90) (b := a) kc11 0 hO.1 hO.2.1 rfl hO.2.2.2.2.2.2.2.2.2.2.2.2.2.2.1 t763 dX11_ticks_90 ?_
          refine w_bipush (pc := 93) (v := 16) dX11_ticks_93 (by decide) ?_
          refine w_iconst (pc := 95) (v := 1) dX11_ticks_95 (by decide) ?_
          refine w_iast (pc := 96) (j := 16) hO.2.2.1 hO.2.2.2.1 rfl (by decide) (by decide) dX11_ticks_96 ?_
          refine w_mem ?_ (J97 _ rfl)
          rw [va_up_self] at c51 c86
          simp only [kst, va_up_self, va_uu]
          rw [tk2, if_pos ⟨b1 c51, Or.inr c86⟩]
  refine w_aload_0 (pc := 17) dX11_ticks_17 ?_
  refine w_getR (pc := 18) (b := a) kc11 0 hO.1 hO.2.1 rfl hO.2.2.2.2.2.2.2.2.2.2.2.2.2.2.1 t763 dX11_ticks_18 ?_
  refine w_iconst (pc := 21) (v := 2) dX11_ticks_21 (by decide) ?_
  refine w_iald (pc := 22) (j := 2) hO.2.2.1 hO.2.2.2.1 rfl (by decide) (by decide) dX11_ticks_22 ?_
  refine w_aload_0 (pc := 23) dX11_ticks_23 ?_
  refine w_getR (pc := 24) (b := a) kc11 0 hO.1 hO.2.1 rfl hO.2.2.2.2.2.2.2.2.2.2.2.2.2.2.1 t763 dX11_ticks_24 ?_
  refine w_bipush (pc := 27) (v := 19) dX11_ticks_27 (by decide) ?_
  refine w_iald (pc := 29) (j := 19) hO.2.2.1 hO.2.2.2.1 rfl (by decide) (by decide) dX11_ticks_29 ?_
  refine w_irem (pc := 30) dX11_ticks_30 (by rw [kst_s, upd_ne (by omega)]; exact h19) ?_
  refine w_if_ne (pc := 31) (tgt := 44) dX11_ticks_31 (by decide) (fun c31 => ?_) (fun c31 => ?_)
  · refine w_iconst (pc := 44) (v := 0) dX11_ticks_44 (by decide) ?_
    exact J45 _ (by rw [if_neg]; intro h; apply c31; rw [kst_s, upd_s, upd_ne (by omega)]; exact h)
  · refine w_aload_0 (pc := 34) dX11_ticks_34 ?_
    refine w_getR (pc := 35) (b := a) kc11 0 hO.1 hO.2.1 rfl hO.2.2.2.2.2.2.2.2.2.2.2.2.2.2.1 t763 dX11_ticks_35 ?_
    refine w_bipush (pc := 38) (v := 20) dX11_ticks_38 (by decide) ?_
    refine w_iald (pc := 40) (j := 20) hO.2.2.1 hO.2.2.2.1 rfl (by decide) (by decide) dX11_ticks_40 ?_
    refine w_goto (pc := 41) (tgt := 45) dX11_ticks_41 (by decide) ?_
    refine J45 _ ?_
    rw [if_pos, kst_s, upd_ne (by omega)]
    rw [kst_s, upd_s, upd_ne (by omega)] at c31; exact c31
set_option maxHeartbeats 4000000 in
set_option maxRecDepth 100000 in
theorem c_Mod_tick {g : kG} {σ : kS} {I : kI} {q a b c d e f : Nat} (hO : sMod g σ q a b c d e f) {n0 : Nat} (hp : I q 4 = nI n0) (hp2 : n0 ≤ 4) (hS : SX (I a)) {x : Int32} : ct g mX11_tick ⟨5, 0, 0, 106⟩ [.ref q, .int x] σ I (qI (oTick (I a) x).1 σ (opM q a b I (oTick (I a) x))) := by
  refine ct_of pn11 rfl (Nat.le_of_ble_eq_true rfl) ok_X11_tick.1 trivial ?_
  show wp _ _ _ _ _ _ _ _ 0 [some (.ref q), some (.int x), none, none] []
  have o0 := hO.2.2.2.2.2.2.2.2.2.2.2.2.2.2.2.2.2.2.2.2.1
  have o1 := hO.2.2.2.2.2.2.2.2.2.2.2.2.2.2.2.2.2.2.2.2.2.1
  have o2 := hO.2.2.2.2.2.2.2.2.2.2.2.2.2.2.2.2.2.2.2.2.2.2.1
  have o3 := hO.2.2.2.2.2.2.2.2.2.2.2.2.2.2.2.2.2.2.2.2.2.2.2.1
  have o4 := hO.2.2.2.2.2.2.2.2.2.2.2.2.2.2.2.2.2.2.2.2.2.2.2.2.1
  have o5 := hO.2.2.2.2.2.2.2.2.2.2.2.2.2.2.2.2.2.2.2.2.2.2.2.2.2
  refine w_iload_1 (pc := 0) dX11_tick_0 ?_
  refine w_iconst (pc := 1) (v := 1) dX11_tick_1 (by decide) ?_
  refine w_sipush (pc := 2) (v := 200) dX11_tick_2 (by decide) ?_
  refine w_callS_I (pc := 5) (c_Mod_in) ok_X11_in t811 t810 ⟨Nat.le_of_ble_eq_true rfl, Nat.le_of_ble_eq_true rfl⟩ ⟨rfl, rfl⟩ ⟨Nat.le_refl _, Nat.le_refl _⟩ rfl (Nat.le_of_ble_eq_true rfl) dX11_tick_5 ?_
  refine w_if_ne (pc := 8) (tgt := 14) dX11_tick_8 (by decide) (fun c8 => ?_) (fun c8 => ?_)
  · obtain ⟨k0, hk0l, hk0⟩ := nx_rg (m := 200) (by omega) ⟨Int32.le_trans (by decide) (b1 c8).1, (b1 c8).2⟩
    have htk : tn x = k0 := tn_of hk0 (by omega)
    refine w_aload_0 (pc := 14) dX11_tick_14 ?_
    refine w_getR (pc := 15) (b := a) kc11 0 hO.1 hO.2.1 rfl hO.2.2.2.2.2.2.2.2.2.2.2.2.2.2.1 t763 dX11_tick_15 ?_
    refine w_iconst (pc := 18) (v := 2) dX11_tick_18 (by decide) ?_
    refine w_iald (pc := 19) (j := 2) hO.2.2.1 hO.2.2.2.1 rfl (by decide) (by decide) dX11_tick_19 ?_
    refine w_iload_1 (pc := 20) dX11_tick_20 ?_
    refine w_iadd (pc := 21) dX11_tick_21 ?_
    refine w_sipush (pc := 22) (v := 9000) dX11_tick_22 (by decide) ?_
    refine w_icmp_le (pc := 25) (tgt := 31) dX11_tick_25 (by decide) (fun c25 => ?_) (fun c25 => ?_)
    · refine w_aload_0 (pc := 31) dX11_tick_31 ?_
      refine w_callV_V (pc := 32) (c_Mod_changes hO hp hp2) ok_X11_changes t817 t9 kc11 hO.1 hO.2.1 t815 ⟨Nat.le_of_ble_eq_true rfl, Nat.le_of_ble_eq_true rfl⟩ ⟨rfl, rfl⟩ ⟨Nat.le_refl _, Nat.le_refl _⟩ rfl (Nat.le_of_ble_eq_true rfl) dX11_tick_32 ?_
      have hJ : chM q a b I a = I a := chM_a (by omega) (by omega)
      generalize hJe : chM q a b I = J at hJ ⊢
      refine w_aload_0 (pc := 35) dX11_tick_35 ?_
      refine w_getR (pc := 36) (b := a) kc11 0 hO.1 hO.2.1 rfl hO.2.2.2.2.2.2.2.2.2.2.2.2.2.2.1 t763 dX11_tick_36 ?_
      refine w_bipush (pc := 39) (v := 11) dX11_tick_39 (by decide) ?_
      refine w_iald (pc := 41) (j := 11) hO.2.2.1 hO.2.2.2.1 rfl (by decide) (by decide) dX11_tick_41 ?_
      refine w_istore_2 (pc := 42) dX11_tick_42 rfl ?_
      refine w_iconst (pc := 43) (v := 0) dX11_tick_43 (by decide) ?_
      refine w_istore_3 (pc := 44) dX11_tick_44 rfl ?_
      have L0 : ∀ (n i : Nat) (z : Int32), i ≤ k0 → k0 + 1 ≤ i + n → z = nI i → wp g mX11_tick ⟨5, 0, 0, 106⟩ (fun _ => True) (qI (oTick (I a) x).1 σ (opM q a b I (oTick (I a) x))) (0, 0) σ (va_up J a (tickN (I a) i)) 45 [some (.ref q), some (.int x), some (.int (J a 11)), some (.int z)] [] := by
        intro n
        induction n with
        | zero => intro i z h1 h2; exact absurd h2 (by omega)
        | succ n ih =>
          intro i z h1 h2 hz
          refine w_iload_3 (pc := 45) dX11_tick_45 ?_
          refine w_iload_1 (pc := 46) dX11_tick_46 ?_
          refine w_icmp_ge (pc := 47) (tgt := 60) dX11_tick_47 (by decide) (fun c47 => ?_) (fun c47 => ?_)
          · have hi : k0 ≤ i := (nx_cmp hk0 (by omega) hz (by omega)).1.mp c47
            obtain rfl : i = k0 := by omega
            refine w_aload_0 (pc := 60) dX11_tick_60 ?_
            refine w_getR (pc := 61) (b := a) kc11 0 hO.1 hO.2.1 rfl hO.2.2.2.2.2.2.2.2.2.2.2.2.2.2.1 t763 dX11_tick_61 ?_
            refine w_bipush (pc := 64) (v := 11) dX11_tick_64 (by decide) ?_
            refine w_iald (pc := 66) (j := 11) hO.2.2.1 hO.2.2.2.1 rfl (by decide) (by decide) dX11_tick_66 ?_
            refine w_iload_2 (pc := 67) dX11_tick_67 ?_
            refine w_isub (pc := 68) dX11_tick_68 ?_
            refine w_iret (pc := 69) rfl ⟨Nat.le_refl _, Nat.le_refl _⟩ dX11_tick_69 ?_
            have ho : oTick (I a) x = (tickN (I a) i 11 - I a 11, some (tickN (I a) i)) := by unfold oTick; rw [if_neg (fun h => h (b1 c8)), if_neg (Int32.not_lt.mpr c25), htk]
            refine ⟨?_, rfl, ?_⟩
            · rw [ho, va_up_self, hJ]
            · rw [ho]
              show _ = va_up (chM q a b I) a _
              rw [hJe]
          · have hi : i < k0 := nx_nle c47 hk0 (by omega) hz (by omega)
            have SN : SX (va_up J a (tickN (I a) i) a) := by rw [va_up_self]; exact SX_tickN hS i
            refine w_aload_0 (pc := 50) dX11_tick_50 ?_
            refine w_callV_V (pc := 51) (c_Mod_ticks hO SN) ok_X11_ticks t850 t12 kc11 hO.1 hO.2.1 t848 ⟨Nat.le_of_ble_eq_true rfl, Nat.le_of_ble_eq_true rfl⟩ ⟨rfl, rfl⟩ ⟨Nat.le_refl _, Nat.le_refl _⟩ rfl (Nat.le_of_ble_eq_true rfl) dX11_tick_51 ?_
            refine w_iinc_3 (pc := 54) dX11_tick_54 rfl rfl ?_
            refine w_goto (pc := 57) (tgt := 45) dX11_tick_57 (by decide) ?_
            rw [va_up_self, va_uu]
            exact ih (i + 1) _ (by omega) (by omega) (by rw [hz]; exact nI_1 i)
      refine w_mem ?_ (L0 (k0 + 1) 0 _ (by omega) (by omega) rfl)
      show J = va_up J a (I a)
      rw [← hJ, va_self]
    · refine w_ldc (pc := 28) (v := -1000003) t814 dX11_tick_28 ?_
      refine w_iret (pc := 30) rfl ⟨Nat.le_refl _, Nat.le_refl _⟩ dX11_tick_30 ?_
      have ho : oTick (I a) x = (-1000003, none) := by unfold oTick; rw [if_neg (fun h => h (b1 c8)), if_pos (Int32.not_le.mp c25)]
      exact ⟨by rw [ho], rfl, by rw [ho]; rfl⟩
  · refine w_ldc (pc := 11) (v := -1000001) t813 dX11_tick_11 ?_
    refine w_iret (pc := 13) rfl ⟨Nat.le_refl _, Nat.le_refl _⟩ dX11_tick_13 ?_
    have ho : oTick (I a) x = (-1000001, none) := by unfold oTick; rw [if_pos (b0 c8)]
    exact ⟨by rw [ho], rfl, by rw [ho]; rfl⟩
