def psOK (z : Option kC) (r : Int32) (I1 : kI) (q f : Nat) : Prop := match z with
  | none => r = 0
  | some z => r = 1 ∧ I1 q 12 = z.1 ∧ I1 q 9 = nI z.2.2.2 ∧ (¬ (z.1 = 98 ∨ z.1 = 115 ∨ z.1 = 120 ∨ z.1 = 122) → I1 f 0 = z.2.1) ∧ (z.1 = 108 → I1 f 1 = z.2.2.1)
set_option maxHeartbeats 4000000 in
set_option maxRecDepth 100000 in
theorem c_Mod_parses {g : kG} {σ : kS} {I : kI} {q a b c d e f : Nat} (hO : sMod g σ q a b c d e f) {n0 : Nat} (hn : I q 7 = nI n0) (hn2 : n0 ≤ 60) {p : Nat} (hs : I q 9 = nI p) (hpn : p < n0) : ct g mX11_parses ⟨3, 0, 0, 66⟩ [.ref q] σ I (qEI σ (fun r I1 => (∀ z, z ≠ q → z ≠ f → I1 z = I z) ∧ (∀ k, k ≠ 9 → k ≠ 12 → I1 q k = I q k) ∧ psOK (ps (I e) n0 p) r I1 q f)) := by
  refine ct_of pn11 rfl (Nat.le_of_ble_eq_true rfl) ok_X11_parses.1 trivial ?_
  show wp _ _ _ _ _ _ _ _ 0 [some (.ref q)] []
  have o0 := hO.2.2.2.2.2.2.2.2.2.2.2.2.2.2.2.2.2.2.2.2.1
  have o1 := hO.2.2.2.2.2.2.2.2.2.2.2.2.2.2.2.2.2.2.2.2.2.1
  have o2 := hO.2.2.2.2.2.2.2.2.2.2.2.2.2.2.2.2.2.2.2.2.2.2.1
  have o3 := hO.2.2.2.2.2.2.2.2.2.2.2.2.2.2.2.2.2.2.2.2.2.2.2.1
  have o4 := hO.2.2.2.2.2.2.2.2.2.2.2.2.2.2.2.2.2.2.2.2.2.2.2.2.1
  have o5 := hO.2.2.2.2.2.2.2.2.2.2.2.2.2.2.2.2.2.2.2.2.2.2.2.2.2
  have n1 : q ≠ f := by omega
  have n2 : e ≠ q := by omega
  have n3 : e ≠ f := by omega
  obtain ⟨T, hT⟩ : ∃ T, T = I e := ⟨_, rfl⟩
  have i9 : (kst (kst I q 12 (I e p)) q 9 (nI (p + 1))) q 9 = nI (p + 1) := by rw [kst_s, upd_s]
  have i7 : (kst (kst I q 12 (I e p)) q 9 (nI (p + 1))) q 7 = nI n0 := by rw [kst_s, upd_ne (by omega), kst_s, upd_ne (by omega)]; exact hn
  have i12 : (kst (kst I q 12 (I e p)) q 9 (nI (p + 1))) q 12 = I e p := by rw [kst_s, upd_ne (by omega), kst_s, upd_s]
  have ie : (kst (kst I q 12 (I e p)) q 9 (nI (p + 1))) e = I e := by rw [kst_n n2, kst_n n2]
  have iz : ∀ z, z ≠ q → (kst (kst I q 12 (I e p)) q 9 (nI (p + 1))) z = I z := fun z hz => by rw [kst_n hz, kst_n hz]
  have ik : ∀ k, k ≠ 9 → k ≠ 12 → (kst (kst I q 12 (I e p)) q 9 (nI (p + 1))) q k = I q k := fun k h1 h2 => by rw [kst_s, upd_ne h1, kst_s, upd_ne h2]
  have hJ59 : (I e p = 98 ∨ I e p = 115 ∨ I e p = 120 ∨ I e p = 122) → wp g mX11_parses ⟨3, 0, 0, 66⟩ (fun _ => True) (qEI σ (fun r I1 => (∀ z, z ≠ q → z ≠ f → I1 z = I z) ∧ (∀ k, k ≠ 9 → k ≠ 12 → I1 q k = I q k) ∧ psOK (ps (I e) n0 p) r I1 q f)) (0, 0) σ (kst (kst I q 12 (I e p)) q 9 (nI (p + 1))) 59 [some (.ref q)] [] := by
    intro hl
    refine w_aload_0 (pc := 59) dX11_parses_59 ?_
    refine w_bipush (pc := 60) (v := 59) dX11_parses_60 (by decide) ?_
    refine w_callV_I (pc := 62) (c_Mod_passes hO i7 hn2 i9 (by omega)) ok_X11_passes t1002 t30 kc11 hO.1 hO.2.1 t1000 ⟨Nat.le_of_ble_eq_true rfl, Nat.le_of_ble_eq_true rfl⟩ ⟨rfl, rfl⟩ ⟨Nat.le_refl _, Nat.le_refl _⟩ rfl (Nat.le_of_ble_eq_true rfl) dX11_parses_62 ?_
    refine w_zret (pc := 65) rfl (by split <;> decide) ⟨Nat.le_refl _, Nat.le_refl _⟩ dX11_parses_65 ?_
    have hps : ps (I e) n0 p = ps0 (I e) n0 p := by rw [ps, if_pos hl]
    by_cases hc : p + 1 < n0 ∧ (kst (kst I q 12 (I e p)) q 9 (nI (p + 1))) e (p + 1) = 59
    · rw [if_pos hc]
      refine ⟨_, rfl, rfl, fun z h1 h2 => by rw [if_pos hc, kst_n h1]; exact iz z h1, fun k h1 h2 => by rw [if_pos hc, kst_s, upd_ne h1]; exact ik k h1 h2, ?_⟩
      rw [hps, ps0, if_pos (show at1 (I e) n0 (p + 1) 59 from ⟨hc.1, by rw [← ie]; exact hc.2⟩), if_pos hc]
      refine ⟨rfl, ?_, ?_, fun h => absurd hl h, fun h => ?_⟩
      · rw [kst_s, upd_ne (by omega)]; exact i12
      · rw [kst_s, upd_s]
      · exfalso
        have h3 : I e p = 108 := h
        rcases hl with h2 | h2 | h2 | h2 <;> rw [h3] at h2 <;> exact absurd h2 (by decide)
    · rw [if_neg hc]
      refine ⟨_, rfl, rfl, fun z h1 h2 => by rw [if_neg hc]; exact iz z h1, fun k h1 h2 => by rw [if_neg hc]; exact ik k h1 h2, ?_⟩
      rw [hps, ps0, if_neg (fun h : at1 (I e) n0 (p + 1) 59 => hc ⟨h.1, by rw [ie]; exact h.2⟩)]
      rfl
  have hJ66 : ¬ (I e p = 98 ∨ I e p = 115 ∨ I e p = 120 ∨ I e p = 122) → wp g mX11_parses ⟨3, 0, 0, 66⟩ (fun _ => True) (qEI σ (fun r I1 => (∀ z, z ≠ q → z ≠ f → I1 z = I z) ∧ (∀ k, k ≠ 9 → k ≠ 12 → I1 q k = I q k) ∧ psOK (ps (I e) n0 p) r I1 q f)) (0, 0) σ (kst (kst I q 12 (I e p)) q 9 (nI (p + 1))) 66 [some (.ref q)] [] := by
    intro hl
    have hJ151 : ¬ I e p = 108 → (I e p = 103 ∨ I e p = 109 ∨ I e p = 99 ∨ I e p = 116) → wp g mX11_parses ⟨3, 0, 0, 66⟩ (fun _ => True) (qEI σ (fun r I1 => (∀ z, z ≠ q → z ≠ f → I1 z = I z) ∧ (∀ k, k ≠ 9 → k ≠ 12 → I1 q k = I q k) ∧ psOK (ps (I e) n0 p) r I1 q f)) (0, 0) σ (kst (kst I q 12 (I e p)) q 9 (nI (p + 1))) 151 [some (.ref q)] [] := by
      intro hl2 hl3
      refine w_aload_0 (pc := 151) dX11_parses_151 ?_
      refine w_iconst (pc := 152) (v := 0) dX11_parses_152 (by decide) ?_
      refine w_callV_I (pc := 153) (c_Mod_number hO i7 hn2 i9 (by omega) (by omega) (x := 0) (w := 0) rfl (by omega)) ok_X11_number t1010 t32 kc11 hO.1 hO.2.1 t1008 ⟨Nat.le_of_ble_eq_true rfl, Nat.le_of_ble_eq_true rfl⟩ ⟨rfl, rfl⟩ ⟨Nat.le_refl _, Nat.le_refl _⟩ rfl (Nat.le_of_ble_eq_true rfl) dX11_parses_153 ?_
      have P1 := nmP_le (I e) n0 4 (p + 1)
      have m9 : (kst (kst (kst (kst I q 12 (I e p)) q 9 (nI (p + 1))) f 0 (nmV ((kst (kst I q 12 (I e p)) q 9 (nI (p + 1))) e) n0 4 (p + 1) 0)) q 9 (nI (nmP ((kst (kst I q 12 (I e p)) q 9 (nI (p + 1))) e) n0 4 (p + 1)))) q 9 = nI (nmP ((kst (kst I q 12 (I e p)) q 9 (nI (p + 1))) e) n0 4 (p + 1)) := by rw [kst_s, upd_s]
      have m7 : (kst (kst (kst (kst I q 12 (I e p)) q 9 (nI (p + 1))) f 0 (nmV ((kst (kst I q 12 (I e p)) q 9 (nI (p + 1))) e) n0 4 (p + 1) 0)) q 9 (nI (nmP ((kst (kst I q 12 (I e p)) q 9 (nI (p + 1))) e) n0 4 (p + 1)))) q 7 = nI n0 := by rw [kst_s, upd_ne (by omega), kst_n n1]; exact i7
      have m12 : (kst (kst (kst (kst I q 12 (I e p)) q 9 (nI (p + 1))) f 0 (nmV ((kst (kst I q 12 (I e p)) q 9 (nI (p + 1))) e) n0 4 (p + 1) 0)) q 9 (nI (nmP ((kst (kst I q 12 (I e p)) q 9 (nI (p + 1))) e) n0 4 (p + 1)))) q 12 = I e p := by rw [kst_s, upd_ne (by omega), kst_n n1]; exact i12
      have me : (kst (kst (kst (kst I q 12 (I e p)) q 9 (nI (p + 1))) f 0 (nmV ((kst (kst I q 12 (I e p)) q 9 (nI (p + 1))) e) n0 4 (p + 1) 0)) q 9 (nI (nmP ((kst (kst I q 12 (I e p)) q 9 (nI (p + 1))) e) n0 4 (p + 1)))) e = I e := by rw [kst_n n2, kst_n n3]; exact ie
      have mz : ∀ z, z ≠ q → z ≠ f → (kst (kst (kst (kst I q 12 (I e p)) q 9 (nI (p + 1))) f 0 (nmV ((kst (kst I q 12 (I e p)) q 9 (nI (p + 1))) e) n0 4 (p + 1) 0)) q 9 (nI (nmP ((kst (kst I q 12 (I e p)) q 9 (nI (p + 1))) e) n0 4 (p + 1)))) z = I z := fun z h1 h2 => by rw [kst_n h1, kst_n h2]; exact iz z h1
      have mk : ∀ k, k ≠ 9 → k ≠ 12 → (kst (kst (kst (kst I q 12 (I e p)) q 9 (nI (p + 1))) f 0 (nmV ((kst (kst I q 12 (I e p)) q 9 (nI (p + 1))) e) n0 4 (p + 1) 0)) q 9 (nI (nmP ((kst (kst I q 12 (I e p)) q 9 (nI (p + 1))) e) n0 4 (p + 1)))) q k = I q k := fun k h1 h2 => by rw [kst_s, upd_ne h1, kst_n n1]; exact ik k h1 h2
      have mf : (kst (kst (kst (kst I q 12 (I e p)) q 9 (nI (p + 1))) f 0 (nmV ((kst (kst I q 12 (I e p)) q 9 (nI (p + 1))) e) n0 4 (p + 1) 0)) q 9 (nI (nmP ((kst (kst I q 12 (I e p)) q 9 (nI (p + 1))) e) n0 4 (p + 1)))) f 0 = nmV (I e) n0 4 (p + 1) 0 := by rw [kst_n n1.symm, kst_s, upd_s, ie]
      refine w_if_eq (pc := 156) (tgt := 172) dX11_parses_156 (by decide) (fun c156 => ?_) (fun c156 => ?_)
      · refine w_iconst (pc := 172) (v := 0) dX11_parses_172 (by decide) ?_
        refine w_zret (pc := 173) rfl (by decide) ⟨Nat.le_refl _, Nat.le_refl _⟩ dX11_parses_173 ?_
        have hps : ps (I e) n0 p = ps1 (I e) n0 p := by rw [ps, if_neg hl, if_neg hl2, if_pos hl3]
        refine ⟨_, rfl, rfl, mz, mk, ?_⟩
        rw [hps, ps1, if_neg (fun h => b0 c156 (by rw [ie]; exact h.1))]
        rfl
      · refine w_aload_0 (pc := 159) dX11_parses_159 ?_
        refine w_bipush (pc := 160) (v := 59) dX11_parses_160 (by decide) ?_
        refine w_callV_I (pc := 162) (c_Mod_passes hO m7 hn2 m9 (by rw [ie]; omega)) ok_X11_passes t1002 t30 kc11 hO.1 hO.2.1 t1000 ⟨Nat.le_of_ble_eq_true rfl, Nat.le_of_ble_eq_true rfl⟩ ⟨rfl, rfl⟩ ⟨Nat.le_refl _, Nat.le_refl _⟩ rfl (Nat.le_of_ble_eq_true rfl) dX11_parses_162 ?_
        refine w_if_eq (pc := 165) (tgt := 172) dX11_parses_165 (by decide) (fun c165 => ?_) (fun c165 => ?_)
        · refine w_iconst (pc := 172) (v := 0) dX11_parses_172 (by decide) ?_
          refine w_zret (pc := 173) rfl (by decide) ⟨Nat.le_refl _, Nat.le_refl _⟩ dX11_parses_173 ?_
          have hps : ps (I e) n0 p = ps1 (I e) n0 p := by rw [ps, if_neg hl, if_neg hl2, if_pos hl3]
          have hc := b0 c165
          rw [if_neg hc]
          refine ⟨_, rfl, rfl, mz, mk, ?_⟩
          rw [hps, ps1, if_neg (fun h => hc ⟨by rw [ie]; exact h.2.1, by rw [me, ie]; exact h.2.2⟩)]
          rfl
        · refine w_iconst (pc := 168) (v := 1) dX11_parses_168 (by decide) ?_
          refine w_goto (pc := 169) (tgt := 173) dX11_parses_169 (by decide) ?_
          refine w_zret (pc := 173) rfl (by decide) ⟨Nat.le_refl _, Nat.le_refl _⟩ dX11_parses_173 ?_
          have hps : ps (I e) n0 p = ps1 (I e) n0 p := by rw [ps, if_neg hl, if_neg hl2, if_pos hl3]
          have hc := b1 c165
          rw [if_pos hc]
          refine ⟨_, rfl, rfl, fun z h1 h2 => by rw [kst_n h1]; exact mz z h1 h2, fun k h1 h2 => by rw [kst_s, upd_ne h1]; exact mk k h1 h2, ?_⟩
          rw [hps, ps1, if_pos ⟨by rw [← ie]; exact b1 c156, show at1 (I e) n0 _ 59 from ⟨by rw [← ie]; exact hc.1, by have h9 := hc.2; rw [me, ie] at h9; exact h9⟩⟩]
          refine ⟨rfl, ?_, ?_, fun _ => ?_, fun h => absurd h hl2⟩
          · rw [kst_s, upd_ne (by omega)]; exact m12
          · rw [kst_s, upd_s, ie]
          · rw [kst_n n1.symm]; exact mf
    refine w_aload_0 (pc := 66) dX11_parses_66 ?_
    refine w_getI (pc := 67) kc11 12 hO.1 hO.2.1 rfl t775 dX11_parses_67 ?_
    refine w_bipush (pc := 70) (v := 108) dX11_parses_70 (by decide) ?_
    refine w_icmp_ne (pc := 72) (tgt := 115) dX11_parses_72 (by decide) (fun c72 => ?_) (fun c72 => ?_)
    · rw [i12] at c72
      refine w_aload_0 (pc := 115) dX11_parses_115 ?_
      refine w_getI (pc := 116) kc11 12 hO.1 hO.2.1 rfl t775 dX11_parses_116 ?_
      refine w_bipush (pc := 119) (v := 103) dX11_parses_119 (by decide) ?_
      refine w_icmp_eq (pc := 121) (tgt := 151) dX11_parses_121 (by decide) (fun c121 => ?_) (fun c121 => ?_)
      · rw [i12] at c121
        exact hJ151 c72 (Or.inl c121)
      · rw [i12] at c121
        refine w_aload_0 (pc := 124) dX11_parses_124 ?_
        refine w_getI (pc := 125) kc11 12 hO.1 hO.2.1 rfl t775 dX11_parses_125 ?_
        refine w_bipush (pc := 128) (v := 109) dX11_parses_128 (by decide) ?_
        refine w_icmp_eq (pc := 130) (tgt := 151) dX11_parses_130 (by decide) (fun c130 => ?_) (fun c130 => ?_)
        · rw [i12] at c130
          exact hJ151 c72 (Or.inr (Or.inl c130))
        · rw [i12] at c130
          refine w_aload_0 (pc := 133) dX11_parses_133 ?_
          refine w_getI (pc := 134) kc11 12 hO.1 hO.2.1 rfl t775 dX11_parses_134 ?_
          refine w_bipush (pc := 137) (v := 99) dX11_parses_137 (by decide) ?_
          refine w_icmp_eq (pc := 139) (tgt := 151) dX11_parses_139 (by decide) (fun c139 => ?_) (fun c139 => ?_)
          · rw [i12] at c139
            exact hJ151 c72 (Or.inr (Or.inr (Or.inl c139)))
          · rw [i12] at c139
            refine w_aload_0 (pc := 142) dX11_parses_142 ?_
            refine w_getI (pc := 143) kc11 12 hO.1 hO.2.1 rfl t775 dX11_parses_143 ?_
            refine w_bipush (pc := 146) (v := 116) dX11_parses_146 (by decide) ?_
            refine w_icmp_ne (pc := 148) (tgt := 172) dX11_parses_148 (by decide) (fun c148 => ?_) (fun c148 => ?_)
            · rw [i12] at c148
              refine w_iconst (pc := 172) (v := 0) dX11_parses_172 (by decide) ?_
              refine w_zret (pc := 173) rfl (by decide) ⟨Nat.le_refl _, Nat.le_refl _⟩ dX11_parses_173 ?_
              have hps : ps (I e) n0 p = none := by rw [ps, if_neg hl, if_neg c72, if_neg (fun h => h.elim c121 (fun h => h.elim c130 (fun h => h.elim c139 c148)))]
              refine ⟨_, rfl, rfl, fun z h1 h2 => iz z h1, ik, ?_⟩
              rw [hps]
              rfl
            · rw [i12] at c148
              exact hJ151 c72 (Or.inr (Or.inr (Or.inr c148)))
    · rw [i12] at c72
      refine w_aload_0 (pc := 75) dX11_parses_75 ?_
      refine w_iconst (pc := 76) (v := 0) dX11_parses_76 (by decide) ?_
      refine w_callV_I (pc := 77) (c_Mod_number hO i7 hn2 i9 (by omega) (by omega) (x := 0) (w := 0) rfl (by omega)) ok_X11_number t1010 t32 kc11 hO.1 hO.2.1 t1008 ⟨Nat.le_of_ble_eq_true rfl, Nat.le_of_ble_eq_true rfl⟩ ⟨rfl, rfl⟩ ⟨Nat.le_refl _, Nat.le_refl _⟩ rfl (Nat.le_of_ble_eq_true rfl) dX11_parses_77 ?_
      have P1 := nmP_le (I e) n0 4 (p + 1)
      have m9 : (kst (kst (kst (kst I q 12 (I e p)) q 9 (nI (p + 1))) f 0 (nmV ((kst (kst I q 12 (I e p)) q 9 (nI (p + 1))) e) n0 4 (p + 1) 0)) q 9 (nI (nmP ((kst (kst I q 12 (I e p)) q 9 (nI (p + 1))) e) n0 4 (p + 1)))) q 9 = nI (nmP ((kst (kst I q 12 (I e p)) q 9 (nI (p + 1))) e) n0 4 (p + 1)) := by rw [kst_s, upd_s]
      have m7 : (kst (kst (kst (kst I q 12 (I e p)) q 9 (nI (p + 1))) f 0 (nmV ((kst (kst I q 12 (I e p)) q 9 (nI (p + 1))) e) n0 4 (p + 1) 0)) q 9 (nI (nmP ((kst (kst I q 12 (I e p)) q 9 (nI (p + 1))) e) n0 4 (p + 1)))) q 7 = nI n0 := by rw [kst_s, upd_ne (by omega), kst_n n1]; exact i7
      have m12 : (kst (kst (kst (kst I q 12 (I e p)) q 9 (nI (p + 1))) f 0 (nmV ((kst (kst I q 12 (I e p)) q 9 (nI (p + 1))) e) n0 4 (p + 1) 0)) q 9 (nI (nmP ((kst (kst I q 12 (I e p)) q 9 (nI (p + 1))) e) n0 4 (p + 1)))) q 12 = I e p := by rw [kst_s, upd_ne (by omega), kst_n n1]; exact i12
      have me : (kst (kst (kst (kst I q 12 (I e p)) q 9 (nI (p + 1))) f 0 (nmV ((kst (kst I q 12 (I e p)) q 9 (nI (p + 1))) e) n0 4 (p + 1) 0)) q 9 (nI (nmP ((kst (kst I q 12 (I e p)) q 9 (nI (p + 1))) e) n0 4 (p + 1)))) e = I e := by rw [kst_n n2, kst_n n3]; exact ie
      have mz : ∀ z, z ≠ q → z ≠ f → (kst (kst (kst (kst I q 12 (I e p)) q 9 (nI (p + 1))) f 0 (nmV ((kst (kst I q 12 (I e p)) q 9 (nI (p + 1))) e) n0 4 (p + 1) 0)) q 9 (nI (nmP ((kst (kst I q 12 (I e p)) q 9 (nI (p + 1))) e) n0 4 (p + 1)))) z = I z := fun z h1 h2 => by rw [kst_n h1, kst_n h2]; exact iz z h1
      have mk : ∀ k, k ≠ 9 → k ≠ 12 → (kst (kst (kst (kst I q 12 (I e p)) q 9 (nI (p + 1))) f 0 (nmV ((kst (kst I q 12 (I e p)) q 9 (nI (p + 1))) e) n0 4 (p + 1) 0)) q 9 (nI (nmP ((kst (kst I q 12 (I e p)) q 9 (nI (p + 1))) e) n0 4 (p + 1)))) q k = I q k := fun k h1 h2 => by rw [kst_s, upd_ne h1, kst_n n1]; exact ik k h1 h2
      have mf : (kst (kst (kst (kst I q 12 (I e p)) q 9 (nI (p + 1))) f 0 (nmV ((kst (kst I q 12 (I e p)) q 9 (nI (p + 1))) e) n0 4 (p + 1) 0)) q 9 (nI (nmP ((kst (kst I q 12 (I e p)) q 9 (nI (p + 1))) e) n0 4 (p + 1)))) f 0 = nmV (I e) n0 4 (p + 1) 0 := by rw [kst_n n1.symm, kst_s, upd_s, ie]
      refine w_if_eq (pc := 80) (tgt := 113) dX11_parses_80 (by decide) (fun c80 => ?_) (fun c80 => ?_)
      · refine w_iconst (pc := 113) (v := 0) dX11_parses_113 (by decide) ?_
        refine w_zret (pc := 114) rfl (by decide) ⟨Nat.le_refl _, Nat.le_refl _⟩ dX11_parses_114 ?_
        have hps : ps (I e) n0 p = ps2 (I e) n0 p := by rw [ps, if_neg hl, if_pos c72]
        refine ⟨_, rfl, rfl, mz, mk, ?_⟩
        rw [hps, ps2, if_neg (fun h => b0 c80 (by rw [ie]; exact h.1))]
        rfl
      · refine w_aload_0 (pc := 83) dX11_parses_83 ?_
        refine w_bipush (pc := 84) (v := 44) dX11_parses_84 (by decide) ?_
        refine w_callV_I (pc := 86) (c_Mod_passes hO m7 hn2 m9 (by rw [ie]; omega)) ok_X11_passes t1002 t30 kc11 hO.1 hO.2.1 t1000 ⟨Nat.le_of_ble_eq_true rfl, Nat.le_of_ble_eq_true rfl⟩ ⟨rfl, rfl⟩ ⟨Nat.le_refl _, Nat.le_refl _⟩ rfl (Nat.le_of_ble_eq_true rfl) dX11_parses_86 ?_
        refine w_if_eq (pc := 89) (tgt := 113) dX11_parses_89 (by decide) (fun c89 => ?_) (fun c89 => ?_)
        · refine w_iconst (pc := 113) (v := 0) dX11_parses_113 (by decide) ?_
          refine w_zret (pc := 114) rfl (by decide) ⟨Nat.le_refl _, Nat.le_refl _⟩ dX11_parses_114 ?_
          have hps : ps (I e) n0 p = ps2 (I e) n0 p := by rw [ps, if_neg hl, if_pos c72]
          have hc := b0 c89
          rw [if_neg hc]
          refine ⟨_, rfl, rfl, mz, mk, ?_⟩
          rw [hps, ps2, if_neg (fun h => hc ⟨by rw [ie]; exact h.2.1, by rw [me, ie]; exact h.2.2⟩)]
          rfl
        · have hcc : p + 1 < nmP (I e) n0 4 (p + 1) ∧ at1 (I e) n0 (nmP (I e) n0 4 (p + 1)) 44 := ⟨by rw [← ie]; exact b1 c80, ⟨by rw [← ie]; exact (b1 c89).1, by have h9 := (b1 c89).2; rw [me, ie] at h9; exact h9⟩⟩
          rw [if_pos (b1 c89)]
          have oe : (kst (kst (kst (kst (kst I q 12 (I e p)) q 9 (nI (p + 1))) f 0 (nmV ((kst (kst I q 12 (I e p)) q 9 (nI (p + 1))) e) n0 4 (p + 1) 0)) q 9 (nI (nmP ((kst (kst I q 12 (I e p)) q 9 (nI (p + 1))) e) n0 4 (p + 1)))) q 9 (nI ((nmP ((kst (kst I q 12 (I e p)) q 9 (nI (p + 1))) e) n0 4 (p + 1)) + 1))) e = I e := by rw [kst_n n2]; exact me
          have o9 : (kst (kst (kst (kst (kst I q 12 (I e p)) q 9 (nI (p + 1))) f 0 (nmV ((kst (kst I q 12 (I e p)) q 9 (nI (p + 1))) e) n0 4 (p + 1) 0)) q 9 (nI (nmP ((kst (kst I q 12 (I e p)) q 9 (nI (p + 1))) e) n0 4 (p + 1)))) q 9 (nI ((nmP ((kst (kst I q 12 (I e p)) q 9 (nI (p + 1))) e) n0 4 (p + 1)) + 1))) q 9 = nI ((nmP ((kst (kst I q 12 (I e p)) q 9 (nI (p + 1))) e) n0 4 (p + 1)) + 1) := by rw [kst_s, upd_s]
          have o7 : (kst (kst (kst (kst (kst I q 12 (I e p)) q 9 (nI (p + 1))) f 0 (nmV ((kst (kst I q 12 (I e p)) q 9 (nI (p + 1))) e) n0 4 (p + 1) 0)) q 9 (nI (nmP ((kst (kst I q 12 (I e p)) q 9 (nI (p + 1))) e) n0 4 (p + 1)))) q 9 (nI ((nmP ((kst (kst I q 12 (I e p)) q 9 (nI (p + 1))) e) n0 4 (p + 1)) + 1))) q 7 = nI n0 := by rw [kst_s, upd_ne (by omega)]; exact m7
          refine w_aload_0 (pc := 92) dX11_parses_92 ?_
          refine w_iconst (pc := 93) (v := 1) dX11_parses_93 (by decide) ?_
          refine w_callV_I (pc := 94) (c_Mod_number hO o7 hn2 o9 (by rw [ie]; omega) (by rw [ie]; have := hcc.2.1; omega) (x := 1) (w := 1) rfl (by omega)) ok_X11_number t1010 t32 kc11 hO.1 hO.2.1 t1008 ⟨Nat.le_of_ble_eq_true rfl, Nat.le_of_ble_eq_true rfl⟩ ⟨rfl, rfl⟩ ⟨Nat.le_refl _, Nat.le_refl _⟩ rfl (Nat.le_of_ble_eq_true rfl) dX11_parses_94 ?_
          have P2 := nmP_le (I e) n0 4 ((nmP ((kst (kst I q 12 (I e p)) q 9 (nI (p + 1))) e) n0 4 (p + 1)) + 1)
          have w9 : (kst (kst (kst (kst (kst (kst (kst I q 12 (I e p)) q 9 (nI (p + 1))) f 0 (nmV ((kst (kst I q 12 (I e p)) q 9 (nI (p + 1))) e) n0 4 (p + 1) 0)) q 9 (nI (nmP ((kst (kst I q 12 (I e p)) q 9 (nI (p + 1))) e) n0 4 (p + 1)))) q 9 (nI ((nmP ((kst (kst I q 12 (I e p)) q 9 (nI (p + 1))) e) n0 4 (p + 1)) + 1))) f 1 (nmV ((kst (kst (kst (kst (kst I q 12 (I e p)) q 9 (nI (p + 1))) f 0 (nmV ((kst (kst I q 12 (I e p)) q 9 (nI (p + 1))) e) n0 4 (p + 1) 0)) q 9 (nI (nmP ((kst (kst I q 12 (I e p)) q 9 (nI (p + 1))) e) n0 4 (p + 1)))) q 9 (nI ((nmP ((kst (kst I q 12 (I e p)) q 9 (nI (p + 1))) e) n0 4 (p + 1)) + 1))) e) n0 4 ((nmP ((kst (kst I q 12 (I e p)) q 9 (nI (p + 1))) e) n0 4 (p + 1)) + 1) 0)) q 9 (nI (nmP ((kst (kst (kst (kst (kst I q 12 (I e p)) q 9 (nI (p + 1))) f 0 (nmV ((kst (kst I q 12 (I e p)) q 9 (nI (p + 1))) e) n0 4 (p + 1) 0)) q 9 (nI (nmP ((kst (kst I q 12 (I e p)) q 9 (nI (p + 1))) e) n0 4 (p + 1)))) q 9 (nI ((nmP ((kst (kst I q 12 (I e p)) q 9 (nI (p + 1))) e) n0 4 (p + 1)) + 1))) e) n0 4 ((nmP ((kst (kst I q 12 (I e p)) q 9 (nI (p + 1))) e) n0 4 (p + 1)) + 1)))) q 9 = nI (nmP ((kst (kst (kst (kst (kst I q 12 (I e p)) q 9 (nI (p + 1))) f 0 (nmV ((kst (kst I q 12 (I e p)) q 9 (nI (p + 1))) e) n0 4 (p + 1) 0)) q 9 (nI (nmP ((kst (kst I q 12 (I e p)) q 9 (nI (p + 1))) e) n0 4 (p + 1)))) q 9 (nI ((nmP ((kst (kst I q 12 (I e p)) q 9 (nI (p + 1))) e) n0 4 (p + 1)) + 1))) e) n0 4 ((nmP ((kst (kst I q 12 (I e p)) q 9 (nI (p + 1))) e) n0 4 (p + 1)) + 1)) := by rw [kst_s, upd_s]
          have w7 : (kst (kst (kst (kst (kst (kst (kst I q 12 (I e p)) q 9 (nI (p + 1))) f 0 (nmV ((kst (kst I q 12 (I e p)) q 9 (nI (p + 1))) e) n0 4 (p + 1) 0)) q 9 (nI (nmP ((kst (kst I q 12 (I e p)) q 9 (nI (p + 1))) e) n0 4 (p + 1)))) q 9 (nI ((nmP ((kst (kst I q 12 (I e p)) q 9 (nI (p + 1))) e) n0 4 (p + 1)) + 1))) f 1 (nmV ((kst (kst (kst (kst (kst I q 12 (I e p)) q 9 (nI (p + 1))) f 0 (nmV ((kst (kst I q 12 (I e p)) q 9 (nI (p + 1))) e) n0 4 (p + 1) 0)) q 9 (nI (nmP ((kst (kst I q 12 (I e p)) q 9 (nI (p + 1))) e) n0 4 (p + 1)))) q 9 (nI ((nmP ((kst (kst I q 12 (I e p)) q 9 (nI (p + 1))) e) n0 4 (p + 1)) + 1))) e) n0 4 ((nmP ((kst (kst I q 12 (I e p)) q 9 (nI (p + 1))) e) n0 4 (p + 1)) + 1) 0)) q 9 (nI (nmP ((kst (kst (kst (kst (kst I q 12 (I e p)) q 9 (nI (p + 1))) f 0 (nmV ((kst (kst I q 12 (I e p)) q 9 (nI (p + 1))) e) n0 4 (p + 1) 0)) q 9 (nI (nmP ((kst (kst I q 12 (I e p)) q 9 (nI (p + 1))) e) n0 4 (p + 1)))) q 9 (nI ((nmP ((kst (kst I q 12 (I e p)) q 9 (nI (p + 1))) e) n0 4 (p + 1)) + 1))) e) n0 4 ((nmP ((kst (kst I q 12 (I e p)) q 9 (nI (p + 1))) e) n0 4 (p + 1)) + 1)))) q 7 = nI n0 := by rw [kst_s, upd_ne (by omega), kst_n n1]; exact o7
          have w12 : (kst (kst (kst (kst (kst (kst (kst I q 12 (I e p)) q 9 (nI (p + 1))) f 0 (nmV ((kst (kst I q 12 (I e p)) q 9 (nI (p + 1))) e) n0 4 (p + 1) 0)) q 9 (nI (nmP ((kst (kst I q 12 (I e p)) q 9 (nI (p + 1))) e) n0 4 (p + 1)))) q 9 (nI ((nmP ((kst (kst I q 12 (I e p)) q 9 (nI (p + 1))) e) n0 4 (p + 1)) + 1))) f 1 (nmV ((kst (kst (kst (kst (kst I q 12 (I e p)) q 9 (nI (p + 1))) f 0 (nmV ((kst (kst I q 12 (I e p)) q 9 (nI (p + 1))) e) n0 4 (p + 1) 0)) q 9 (nI (nmP ((kst (kst I q 12 (I e p)) q 9 (nI (p + 1))) e) n0 4 (p + 1)))) q 9 (nI ((nmP ((kst (kst I q 12 (I e p)) q 9 (nI (p + 1))) e) n0 4 (p + 1)) + 1))) e) n0 4 ((nmP ((kst (kst I q 12 (I e p)) q 9 (nI (p + 1))) e) n0 4 (p + 1)) + 1) 0)) q 9 (nI (nmP ((kst (kst (kst (kst (kst I q 12 (I e p)) q 9 (nI (p + 1))) f 0 (nmV ((kst (kst I q 12 (I e p)) q 9 (nI (p + 1))) e) n0 4 (p + 1) 0)) q 9 (nI (nmP ((kst (kst I q 12 (I e p)) q 9 (nI (p + 1))) e) n0 4 (p + 1)))) q 9 (nI ((nmP ((kst (kst I q 12 (I e p)) q 9 (nI (p + 1))) e) n0 4 (p + 1)) + 1))) e) n0 4 ((nmP ((kst (kst I q 12 (I e p)) q 9 (nI (p + 1))) e) n0 4 (p + 1)) + 1)))) q 12 = I e p := by rw [kst_s, upd_ne (by omega), kst_n n1, kst_s, upd_ne (by omega)]; exact m12
          have we : (kst (kst (kst (kst (kst (kst (kst I q 12 (I e p)) q 9 (nI (p + 1))) f 0 (nmV ((kst (kst I q 12 (I e p)) q 9 (nI (p + 1))) e) n0 4 (p + 1) 0)) q 9 (nI (nmP ((kst (kst I q 12 (I e p)) q 9 (nI (p + 1))) e) n0 4 (p + 1)))) q 9 (nI ((nmP ((kst (kst I q 12 (I e p)) q 9 (nI (p + 1))) e) n0 4 (p + 1)) + 1))) f 1 (nmV ((kst (kst (kst (kst (kst I q 12 (I e p)) q 9 (nI (p + 1))) f 0 (nmV ((kst (kst I q 12 (I e p)) q 9 (nI (p + 1))) e) n0 4 (p + 1) 0)) q 9 (nI (nmP ((kst (kst I q 12 (I e p)) q 9 (nI (p + 1))) e) n0 4 (p + 1)))) q 9 (nI ((nmP ((kst (kst I q 12 (I e p)) q 9 (nI (p + 1))) e) n0 4 (p + 1)) + 1))) e) n0 4 ((nmP ((kst (kst I q 12 (I e p)) q 9 (nI (p + 1))) e) n0 4 (p + 1)) + 1) 0)) q 9 (nI (nmP ((kst (kst (kst (kst (kst I q 12 (I e p)) q 9 (nI (p + 1))) f 0 (nmV ((kst (kst I q 12 (I e p)) q 9 (nI (p + 1))) e) n0 4 (p + 1) 0)) q 9 (nI (nmP ((kst (kst I q 12 (I e p)) q 9 (nI (p + 1))) e) n0 4 (p + 1)))) q 9 (nI ((nmP ((kst (kst I q 12 (I e p)) q 9 (nI (p + 1))) e) n0 4 (p + 1)) + 1))) e) n0 4 ((nmP ((kst (kst I q 12 (I e p)) q 9 (nI (p + 1))) e) n0 4 (p + 1)) + 1)))) e = I e := by rw [kst_n n2, kst_n n3]; exact oe
          have wz : ∀ z, z ≠ q → z ≠ f → (kst (kst (kst (kst (kst (kst (kst I q 12 (I e p)) q 9 (nI (p + 1))) f 0 (nmV ((kst (kst I q 12 (I e p)) q 9 (nI (p + 1))) e) n0 4 (p + 1) 0)) q 9 (nI (nmP ((kst (kst I q 12 (I e p)) q 9 (nI (p + 1))) e) n0 4 (p + 1)))) q 9 (nI ((nmP ((kst (kst I q 12 (I e p)) q 9 (nI (p + 1))) e) n0 4 (p + 1)) + 1))) f 1 (nmV ((kst (kst (kst (kst (kst I q 12 (I e p)) q 9 (nI (p + 1))) f 0 (nmV ((kst (kst I q 12 (I e p)) q 9 (nI (p + 1))) e) n0 4 (p + 1) 0)) q 9 (nI (nmP ((kst (kst I q 12 (I e p)) q 9 (nI (p + 1))) e) n0 4 (p + 1)))) q 9 (nI ((nmP ((kst (kst I q 12 (I e p)) q 9 (nI (p + 1))) e) n0 4 (p + 1)) + 1))) e) n0 4 ((nmP ((kst (kst I q 12 (I e p)) q 9 (nI (p + 1))) e) n0 4 (p + 1)) + 1) 0)) q 9 (nI (nmP ((kst (kst (kst (kst (kst I q 12 (I e p)) q 9 (nI (p + 1))) f 0 (nmV ((kst (kst I q 12 (I e p)) q 9 (nI (p + 1))) e) n0 4 (p + 1) 0)) q 9 (nI (nmP ((kst (kst I q 12 (I e p)) q 9 (nI (p + 1))) e) n0 4 (p + 1)))) q 9 (nI ((nmP ((kst (kst I q 12 (I e p)) q 9 (nI (p + 1))) e) n0 4 (p + 1)) + 1))) e) n0 4 ((nmP ((kst (kst I q 12 (I e p)) q 9 (nI (p + 1))) e) n0 4 (p + 1)) + 1)))) z = I z := fun z h1 h2 => by rw [kst_n h1, kst_n h2, kst_n h1]; exact mz z h1 h2
          have wk : ∀ k, k ≠ 9 → k ≠ 12 → (kst (kst (kst (kst (kst (kst (kst I q 12 (I e p)) q 9 (nI (p + 1))) f 0 (nmV ((kst (kst I q 12 (I e p)) q 9 (nI (p + 1))) e) n0 4 (p + 1) 0)) q 9 (nI (nmP ((kst (kst I q 12 (I e p)) q 9 (nI (p + 1))) e) n0 4 (p + 1)))) q 9 (nI ((nmP ((kst (kst I q 12 (I e p)) q 9 (nI (p + 1))) e) n0 4 (p + 1)) + 1))) f 1 (nmV ((kst (kst (kst (kst (kst I q 12 (I e p)) q 9 (nI (p + 1))) f 0 (nmV ((kst (kst I q 12 (I e p)) q 9 (nI (p + 1))) e) n0 4 (p + 1) 0)) q 9 (nI (nmP ((kst (kst I q 12 (I e p)) q 9 (nI (p + 1))) e) n0 4 (p + 1)))) q 9 (nI ((nmP ((kst (kst I q 12 (I e p)) q 9 (nI (p + 1))) e) n0 4 (p + 1)) + 1))) e) n0 4 ((nmP ((kst (kst I q 12 (I e p)) q 9 (nI (p + 1))) e) n0 4 (p + 1)) + 1) 0)) q 9 (nI (nmP ((kst (kst (kst (kst (kst I q 12 (I e p)) q 9 (nI (p + 1))) f 0 (nmV ((kst (kst I q 12 (I e p)) q 9 (nI (p + 1))) e) n0 4 (p + 1) 0)) q 9 (nI (nmP ((kst (kst I q 12 (I e p)) q 9 (nI (p + 1))) e) n0 4 (p + 1)))) q 9 (nI ((nmP ((kst (kst I q 12 (I e p)) q 9 (nI (p + 1))) e) n0 4 (p + 1)) + 1))) e) n0 4 ((nmP ((kst (kst I q 12 (I e p)) q 9 (nI (p + 1))) e) n0 4 (p + 1)) + 1)))) q k = I q k := fun k h1 h2 => by rw [kst_s, upd_ne h1, kst_n n1, kst_s, upd_ne h1]; exact mk k h1 h2
          have wf : (kst (kst (kst (kst (kst (kst (kst I q 12 (I e p)) q 9 (nI (p + 1))) f 0 (nmV ((kst (kst I q 12 (I e p)) q 9 (nI (p + 1))) e) n0 4 (p + 1) 0)) q 9 (nI (nmP ((kst (kst I q 12 (I e p)) q 9 (nI (p + 1))) e) n0 4 (p + 1)))) q 9 (nI ((nmP ((kst (kst I q 12 (I e p)) q 9 (nI (p + 1))) e) n0 4 (p + 1)) + 1))) f 1 (nmV ((kst (kst (kst (kst (kst I q 12 (I e p)) q 9 (nI (p + 1))) f 0 (nmV ((kst (kst I q 12 (I e p)) q 9 (nI (p + 1))) e) n0 4 (p + 1) 0)) q 9 (nI (nmP ((kst (kst I q 12 (I e p)) q 9 (nI (p + 1))) e) n0 4 (p + 1)))) q 9 (nI ((nmP ((kst (kst I q 12 (I e p)) q 9 (nI (p + 1))) e) n0 4 (p + 1)) + 1))) e) n0 4 ((nmP ((kst (kst I q 12 (I e p)) q 9 (nI (p + 1))) e) n0 4 (p + 1)) + 1) 0)) q 9 (nI (nmP ((kst (kst (kst (kst (kst I q 12 (I e p)) q 9 (nI (p + 1))) f 0 (nmV ((kst (kst I q 12 (I e p)) q 9 (nI (p + 1))) e) n0 4 (p + 1) 0)) q 9 (nI (nmP ((kst (kst I q 12 (I e p)) q 9 (nI (p + 1))) e) n0 4 (p + 1)))) q 9 (nI ((nmP ((kst (kst I q 12 (I e p)) q 9 (nI (p + 1))) e) n0 4 (p + 1)) + 1))) e) n0 4 ((nmP ((kst (kst I q 12 (I e p)) q 9 (nI (p + 1))) e) n0 4 (p + 1)) + 1)))) f 0 = nmV (I e) n0 4 (p + 1) 0 := by rw [kst_n n1.symm, kst_s, upd_ne (by omega), kst_n n1.symm]; exact mf
          have wg : (kst (kst (kst (kst (kst (kst (kst I q 12 (I e p)) q 9 (nI (p + 1))) f 0 (nmV ((kst (kst I q 12 (I e p)) q 9 (nI (p + 1))) e) n0 4 (p + 1) 0)) q 9 (nI (nmP ((kst (kst I q 12 (I e p)) q 9 (nI (p + 1))) e) n0 4 (p + 1)))) q 9 (nI ((nmP ((kst (kst I q 12 (I e p)) q 9 (nI (p + 1))) e) n0 4 (p + 1)) + 1))) f 1 (nmV ((kst (kst (kst (kst (kst I q 12 (I e p)) q 9 (nI (p + 1))) f 0 (nmV ((kst (kst I q 12 (I e p)) q 9 (nI (p + 1))) e) n0 4 (p + 1) 0)) q 9 (nI (nmP ((kst (kst I q 12 (I e p)) q 9 (nI (p + 1))) e) n0 4 (p + 1)))) q 9 (nI ((nmP ((kst (kst I q 12 (I e p)) q 9 (nI (p + 1))) e) n0 4 (p + 1)) + 1))) e) n0 4 ((nmP ((kst (kst I q 12 (I e p)) q 9 (nI (p + 1))) e) n0 4 (p + 1)) + 1) 0)) q 9 (nI (nmP ((kst (kst (kst (kst (kst I q 12 (I e p)) q 9 (nI (p + 1))) f 0 (nmV ((kst (kst I q 12 (I e p)) q 9 (nI (p + 1))) e) n0 4 (p + 1) 0)) q 9 (nI (nmP ((kst (kst I q 12 (I e p)) q 9 (nI (p + 1))) e) n0 4 (p + 1)))) q 9 (nI ((nmP ((kst (kst I q 12 (I e p)) q 9 (nI (p + 1))) e) n0 4 (p + 1)) + 1))) e) n0 4 ((nmP ((kst (kst I q 12 (I e p)) q 9 (nI (p + 1))) e) n0 4 (p + 1)) + 1)))) f 1 = nmV (I e) n0 4 ((nmP ((kst (kst I q 12 (I e p)) q 9 (nI (p + 1))) e) n0 4 (p + 1)) + 1) 0 := by rw [kst_n n1.symm, kst_s, upd_s, oe]
          refine w_if_eq (pc := 97) (tgt := 113) dX11_parses_97 (by decide) (fun c97 => ?_) (fun c97 => ?_)
          · refine w_iconst (pc := 113) (v := 0) dX11_parses_113 (by decide) ?_
            refine w_zret (pc := 114) rfl (by decide) ⟨Nat.le_refl _, Nat.le_refl _⟩ dX11_parses_114 ?_
            have hps : ps (I e) n0 p = ps2 (I e) n0 p := by rw [ps, if_neg hl, if_pos c72]
            refine ⟨_, rfl, rfl, wz, wk, ?_⟩
            rw [hps, ps2, if_pos hcc, if_neg (fun h => b0 c97 (by rw [oe, ie]; exact h.1))]
            rfl
          · refine w_aload_0 (pc := 100) dX11_parses_100 ?_
            refine w_bipush (pc := 101) (v := 59) dX11_parses_101 (by decide) ?_
            refine w_callV_I (pc := 103) (c_Mod_passes hO w7 hn2 w9 (by rw [oe, ie]; rw [ie] at P2; omega)) ok_X11_passes t1002 t30 kc11 hO.1 hO.2.1 t1000 ⟨Nat.le_of_ble_eq_true rfl, Nat.le_of_ble_eq_true rfl⟩ ⟨rfl, rfl⟩ ⟨Nat.le_refl _, Nat.le_refl _⟩ rfl (Nat.le_of_ble_eq_true rfl) dX11_parses_103 ?_
            refine w_if_eq (pc := 106) (tgt := 113) dX11_parses_106 (by decide) (fun c106 => ?_) (fun c106 => ?_)
            · refine w_iconst (pc := 113) (v := 0) dX11_parses_113 (by decide) ?_
              refine w_zret (pc := 114) rfl (by decide) ⟨Nat.le_refl _, Nat.le_refl _⟩ dX11_parses_114 ?_
              have hps : ps (I e) n0 p = ps2 (I e) n0 p := by rw [ps, if_neg hl, if_pos c72]
              have hc := b0 c106
              rw [if_neg hc]
              refine ⟨_, rfl, rfl, wz, wk, ?_⟩
              rw [hps, ps2, if_pos hcc, if_neg (fun h => hc ⟨by rw [oe, ie]; exact h.2.1, by rw [we, oe, ie]; exact h.2.2⟩)]
              rfl
            · refine w_iconst (pc := 109) (v := 1) dX11_parses_109 (by decide) ?_
              refine w_goto (pc := 110) (tgt := 114) dX11_parses_110 (by decide) ?_
              refine w_zret (pc := 114) rfl (by decide) ⟨Nat.le_refl _, Nat.le_refl _⟩ dX11_parses_114 ?_
              have hps : ps (I e) n0 p = ps2 (I e) n0 p := by rw [ps, if_neg hl, if_pos c72]
              have hc := b1 c106
              rw [if_pos hc]
              refine ⟨_, rfl, rfl, fun z h1 h2 => by rw [kst_n h1]; exact wz z h1 h2, fun k h1 h2 => by rw [kst_s, upd_ne h1]; exact wk k h1 h2, ?_⟩
              rw [hps, ps2, if_pos hcc, if_pos ⟨by have := b1 c97; rw [oe, ie] at this; exact this, show at1 (I e) n0 _ 59 from ⟨by have := hc.1; rw [oe, ie] at this; exact this, by have := hc.2; rw [we, oe, ie] at this; exact this⟩⟩]
              refine ⟨rfl, ?_, ?_, fun _ => ?_, fun _ => ?_⟩
              · rw [kst_s, upd_ne (by omega)]; exact w12
              · rw [kst_s, upd_s, oe, ie]
              · rw [kst_n n1.symm]; exact wf
              · rw [kst_n n1.symm, wg, ie]
  refine w_aload_0 (pc := 0) dX11_parses_0 ?_
  refine w_aload_0 (pc := 1) dX11_parses_1 ?_
  refine w_getR (pc := 2) (b := e) kc11 6 hO.1 hO.2.1 rfl hO.2.2.2.2.2.2.2.2.2.2.2.2.2.2.2.2.2.2.1 t769 dX11_parses_2 ?_
  refine w_aload_0 (pc := 5) dX11_parses_5 ?_
  refine w_getI (pc := 6) kc11 9 hO.1 hO.2.1 rfl t772 dX11_parses_6 ?_
  refine w_iald (pc := 9) (j := p) hO.2.2.2.2.2.2.2.2.2.2.1 hO.2.2.2.2.2.2.2.2.2.2.2.1 hs (by omega) (by decide) dX11_parses_9 ?_
  refine w_putI (pc := 10) kc11 12 hO.1 hO.2.1 rfl t775 rfl (tyX11_ok 12 (by decide)) rfl rfl dX11_parses_10 ?_
  refine w_aload_0 (pc := 13) dX11_parses_13 ?_
  refine w_dup_a (pc := 14) dX11_parses_14 ?_
  refine w_getI (pc := 15) kc11 9 hO.1 hO.2.1 rfl t772 dX11_parses_15 ?_
  refine w_iconst (pc := 18) (v := 1) dX11_parses_18 (by decide) ?_
  refine w_iadd (pc := 19) dX11_parses_19 ?_
  refine w_putI (pc := 20) kc11 9 hO.1 hO.2.1 rfl t772 rfl (tyX11_ok 9 (by decide)) rfl rfl dX11_parses_20 ?_
  rw [show kst I q 12 (I e p) q 9 + 1 = nI (p + 1) from by rw [kst_s, upd_ne (by omega), hs, nI_1]]
  refine w_aload_0 (pc := 23) dX11_parses_23 ?_
  refine w_getI (pc := 24) kc11 12 hO.1 hO.2.1 rfl t775 dX11_parses_24 ?_
  refine w_bipush (pc := 27) (v := 98) dX11_parses_27 (by decide) ?_
  refine w_icmp_eq (pc := 29) (tgt := 59) dX11_parses_29 (by decide) (fun c29 => ?_) (fun c29 => ?_)
  · rw [i12] at c29
    exact hJ59 (Or.inl c29)
  · rw [i12] at c29
    refine w_aload_0 (pc := 32) dX11_parses_32 ?_
    refine w_getI (pc := 33) kc11 12 hO.1 hO.2.1 rfl t775 dX11_parses_33 ?_
    refine w_bipush (pc := 36) (v := 115) dX11_parses_36 (by decide) ?_
    refine w_icmp_eq (pc := 38) (tgt := 59) dX11_parses_38 (by decide) (fun c38 => ?_) (fun c38 => ?_)
    · rw [i12] at c38
      exact hJ59 (Or.inr (Or.inl c38))
    · rw [i12] at c38
      refine w_aload_0 (pc := 41) dX11_parses_41 ?_
      refine w_getI (pc := 42) kc11 12 hO.1 hO.2.1 rfl t775 dX11_parses_42 ?_
      refine w_bipush (pc := 45) (v := 120) dX11_parses_45 (by decide) ?_
      refine w_icmp_eq (pc := 47) (tgt := 59) dX11_parses_47 (by decide) (fun c47 => ?_) (fun c47 => ?_)
      · rw [i12] at c47
        exact hJ59 (Or.inr (Or.inr (Or.inl c47)))
      · rw [i12] at c47
        refine w_aload_0 (pc := 50) dX11_parses_50 ?_
        refine w_getI (pc := 51) kc11 12 hO.1 hO.2.1 rfl t775 dX11_parses_51 ?_
        refine w_bipush (pc := 54) (v := 122) dX11_parses_54 (by decide) ?_
        refine w_icmp_ne (pc := 56) (tgt := 66) dX11_parses_56 (by decide) (fun c56 => ?_) (fun c56 => ?_)
        · rw [i12] at c56
          exact hJ66 (fun h => h.elim c29 (fun h => h.elim c38 (fun h => h.elim c47 c56)))
        · rw [i12] at c56
          exact hJ59 (Or.inr (Or.inr (Or.inr c56)))
