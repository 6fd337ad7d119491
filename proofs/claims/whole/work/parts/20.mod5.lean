theorem va_self2 {α : Type} {f : Nat → α} {k : Nat} {v : α} (h : f k = v) : va_up f k v = f := by subst h; exact va_self f k
def lsM (q a d : Nat) (I : kI) : kI := kst (va_up I d (va_cpy (I a) (I d) 0 0 149)) q 8 (qThen (I a))
set_option maxHeartbeats 4000000 in
set_option maxRecDepth 100000 in
theorem c_Mod_lasts {g : kG} {σ : kS} {I : kI} {q a b c d e f : Nat} (hO : sMod g σ q a b c d e f) (hS : SX (I a)) (hB : 0 < nB (I a)) : ct g mX11_lasts ⟨5, 0, 0, 106⟩ [.ref q] σ I (qI (qLasts (I a)) σ (lsM q a d I)) := by
  refine ct_of pn11 rfl (Nat.le_of_ble_eq_true rfl) ok_X11_lasts.1 trivial ?_
  show wp _ _ _ _ _ _ _ _ 0 [some (.ref q), none, none] []
  have o0 := hO.2.2.2.2.2.2.2.2.2.2.2.2.2.2.2.2.2.2.2.2.1
  have o1 := hO.2.2.2.2.2.2.2.2.2.2.2.2.2.2.2.2.2.2.2.2.2.1
  have o2 := hO.2.2.2.2.2.2.2.2.2.2.2.2.2.2.2.2.2.2.2.2.2.2.1
  have o3 := hO.2.2.2.2.2.2.2.2.2.2.2.2.2.2.2.2.2.2.2.2.2.2.2.1
  have o4 := hO.2.2.2.2.2.2.2.2.2.2.2.2.2.2.2.2.2.2.2.2.2.2.2.2.1
  have o5 := hO.2.2.2.2.2.2.2.2.2.2.2.2.2.2.2.2.2.2.2.2.2.2.2.2.2
  refine w_aload_0 (pc := 0) dX11_lasts_0 ?_
  refine w_getR (pc := 1) (b := a) kc11 0 hO.1 hO.2.1 rfl hO.2.2.2.2.2.2.2.2.2.2.2.2.2.2.1 t763 dX11_lasts_1 ?_
  refine w_aload_0 (pc := 4) dX11_lasts_4 ?_
  refine w_getR (pc := 5) (b := d) kc11 3 hO.1 hO.2.1 rfl hO.2.2.2.2.2.2.2.2.2.2.2.2.2.2.2.2.2.1 t766 dX11_lasts_5 ?_
  refine w_callS_V (pc := 8) (c_Mod_copies hO.2.2.1 hO.2.2.2.1 hO.2.2.2.2.2.2.2.2.1 hO.2.2.2.2.2.2.2.2.2.1 (by omega)) ok_X11_copies t966 t965 ⟨Nat.le_of_ble_eq_true rfl, Nat.le_of_ble_eq_true rfl⟩ ⟨rfl, rfl⟩ ⟨Nat.le_refl _, Nat.le_refl _⟩ rfl (Nat.le_of_ble_eq_true rfl) dX11_lasts_8 ?_
  refine w_iconst (pc := 11) (v := 0) dX11_lasts_11 (by decide) ?_
  refine w_istore_1 (pc := 12) dX11_lasts_12 rfl ?_
  have L0 : ∀ (n i : Nat) (z : Int32) (t : kV), i ≤ 2000 → 2001 ≤ i + n → z = nI i → SX t → t 12 = I a 12 → (∀ k, 149 ≤ k → t k = I a k) → lastS (2000 - i) t = lastS 2000 (I a) → lastN (2000 - i) t + i = lastN 2000 (I a) → wp g mX11_lasts ⟨5, 0, 0, 106⟩ (fun _ => True) (qI (qLasts (I a)) σ (lsM q a d I)) (0, 0) σ (va_up (va_up I d (va_cpy (I a) (I d) 0 0 149)) a t) 13 [some (.ref q), some (.int z), none] [] := by
    intro n
    induction n with
    | zero => intro i z t h1 h2; exact absurd h2 (by omega)
    | succ n ih =>
      intro i z t h1 h2 hz hT h12 hbe hls hln
      refine w_aload_0 (pc := 13) dX11_lasts_13 ?_
      have key : ∀ X, va_up (kst (va_up (va_up I d (va_cpy (I a) (I d) 0 0 149)) a t) q 8 X) a (va_cpy (kst (va_up (va_up I d (va_cpy (I a) (I d) 0 0 149)) a t) q 8 X d) (kst (va_up (va_up I d (va_cpy (I a) (I d) 0 0 149)) a t) q 8 X a) 0 0 149) = kst (va_up I d (va_cpy (I a) (I d) 0 0 149)) q 8 X := by
        intro X
        have e1 : va_cpy (kst (va_up (va_up I d (va_cpy (I a) (I d) 0 0 149)) a t) q 8 X d) (kst (va_up (va_up I d (va_cpy (I a) (I d) 0 0 149)) a t) q 8 X a) 0 0 149 = I a := by
          rw [kst_n (show d ≠ q by omega), kst_n (show a ≠ q by omega), va_up_self, va_up_ne _ _ (show d ≠ a by omega), va_up_self]
          funext k
          by_cases hk : k < 149
          · rw [cpy_in hk, cpy_in hk]
          · simp only [va_cpy]
            rw [if_neg (by omega)]
            exact hbe k (by omega)
        rw [e1]
        funext r
        have n1 : q ≠ a := by omega
        have n2 : d ≠ a := by omega
        have n3 : q ≠ d := by omega
        by_cases h1 : r = a
        · subst h1; simp [kst, va_up, n1.symm, n2.symm]
        · by_cases h2 : r = q
          · subst h2; simp [kst, va_up, n1, n3]
          · simp [kst, va_up, h1, h2]
      have J37 : lastS 2000 (I a) = t → lastN 2000 (I a) = i → wp g mX11_lasts ⟨5, 0, 0, 106⟩ (fun _ => True) (qI (qLasts (I a)) σ (lsM q a d I)) (0, 0) σ (va_up (va_up I d (va_cpy (I a) (I d) 0 0 149)) a t) 37 [some (.ref q), some (.int z), none] [] := by
        intro hfs hfn
        have hnB : nB t = nB (I a) := by rw [nB, h12, nB]
        have B8 := (SX_B hT).1
        have hb : va_up (va_up I d (va_cpy (I a) (I d) 0 0 149)) a t a 12 - 1 = nI (nB t - 1) := nx_m1 (by rw [va_up_self, (SX_B hT).2]; congr 1; omega)
        refine w_aload_0 (pc := 37) dX11_lasts_37 ?_
        refine w_callV_I (pc := 38) (c_Mod_hasBatch hO) ok_X11_hasBatch t829 t10 kc11 hO.1 hO.2.1 t827 ⟨Nat.le_of_ble_eq_true rfl, Nat.le_of_ble_eq_true rfl⟩ ⟨rfl, rfl⟩ ⟨Nat.le_refl _, Nat.le_refl _⟩ rfl (Nat.le_of_ble_eq_true rfl) dX11_lasts_38 ?_
        refine w_if_ne (pc := 41) (tgt := 48) dX11_lasts_41 (by decide) (fun c41 => ?_) (fun c41 => ?_)
        · refine w_iconst (pc := 48) (v := 0) dX11_lasts_48 (by decide) ?_
          refine w_istore_2 (pc := 49) dX11_lasts_49 rfl ?_
          refine w_aload_0 (pc := 50) dX11_lasts_50 ?_
          refine w_aload_0 (pc := 51) dX11_lasts_51 ?_
          refine w_aload_0 (pc := 52) dX11_lasts_52 ?_
          refine w_getR (pc := 53) (b := a) kc11 0 hO.1 hO.2.1 rfl hO.2.2.2.2.2.2.2.2.2.2.2.2.2.2.1 t763 dX11_lasts_53 ?_
          refine w_bipush (pc := 56) (v := 12) dX11_lasts_56 (by decide) ?_
          refine w_iald (pc := 58) (j := 12) hO.2.2.1 hO.2.2.2.1 rfl (by decide) (by decide) dX11_lasts_58 ?_
          refine w_iconst (pc := 59) (v := 1) dX11_lasts_59 (by decide) ?_
          refine w_isub (pc := 60) dX11_lasts_60 ?_
          refine w_callV_I (pc := 61) (c_Mod_binMass hO hb (by omega)) ok_X11_binMass t888 t19 kc11 hO.1 hO.2.1 t886 ⟨Nat.le_of_ble_eq_true rfl, Nat.le_of_ble_eq_true rfl⟩ ⟨rfl, rfl⟩ ⟨Nat.le_refl _, Nat.le_refl _⟩ rfl (Nat.le_of_ble_eq_true rfl) dX11_lasts_61 ?_
          refine w_putI (pc := 64) kc11 8 hO.1 hO.2.1 rfl t771 rfl (tyX11_ok 8 (by decide)) rfl rfl dX11_lasts_64 ?_
          refine w_aload_0 (pc := 67) dX11_lasts_67 ?_
          refine w_getR (pc := 68) (b := d) kc11 3 hO.1 hO.2.1 rfl hO.2.2.2.2.2.2.2.2.2.2.2.2.2.2.2.2.2.1 t766 dX11_lasts_68 ?_
          refine w_aload_0 (pc := 71) dX11_lasts_71 ?_
          refine w_getR (pc := 72) (b := a) kc11 0 hO.1 hO.2.1 rfl hO.2.2.2.2.2.2.2.2.2.2.2.2.2.2.1 t763 dX11_lasts_72 ?_
          refine w_callS_V (pc := 75) (c_Mod_copies hO.2.2.2.2.2.2.2.2.1 hO.2.2.2.2.2.2.2.2.2.1 hO.2.2.1 hO.2.2.2.1 (by omega)) ok_X11_copies t966 t965 ⟨Nat.le_of_ble_eq_true rfl, Nat.le_of_ble_eq_true rfl⟩ ⟨rfl, rfl⟩ ⟨Nat.le_refl _, Nat.le_refl _⟩ rfl (Nat.le_of_ble_eq_true rfl) dX11_lasts_75 ?_
          refine w_iload_2 (pc := 78) dX11_lasts_78 ?_
          refine w_if_eq (pc := 79) (tgt := 86) dX11_lasts_79 (by decide) (fun _ => ?_) (fun c9 => absurd (by decide) c9)
          refine w_ldc (pc := 86) (v := -1000004) t762 dX11_lasts_86 ?_
          refine w_iret (pc := 88) rfl ⟨Nat.le_refl _, Nat.le_refl _⟩ dX11_lasts_88 ?_
          refine ⟨?_, rfl, ?_⟩
          · rw [va_up_self] at c41
            rw [qLasts, hfs, if_pos (b1 c41)]
          · rw [key, lsM, qThen, hfs, va_up_self]
        · refine w_iconst (pc := 44) (v := 1) dX11_lasts_44 (by decide) ?_
          refine w_goto (pc := 45) (tgt := 49) dX11_lasts_45 (by decide) ?_
          refine w_istore_2 (pc := 49) dX11_lasts_49 rfl ?_
          refine w_aload_0 (pc := 50) dX11_lasts_50 ?_
          refine w_aload_0 (pc := 51) dX11_lasts_51 ?_
          refine w_aload_0 (pc := 52) dX11_lasts_52 ?_
          refine w_getR (pc := 53) (b := a) kc11 0 hO.1 hO.2.1 rfl hO.2.2.2.2.2.2.2.2.2.2.2.2.2.2.1 t763 dX11_lasts_53 ?_
          refine w_bipush (pc := 56) (v := 12) dX11_lasts_56 (by decide) ?_
          refine w_iald (pc := 58) (j := 12) hO.2.2.1 hO.2.2.2.1 rfl (by decide) (by decide) dX11_lasts_58 ?_
          refine w_iconst (pc := 59) (v := 1) dX11_lasts_59 (by decide) ?_
          refine w_isub (pc := 60) dX11_lasts_60 ?_
          refine w_callV_I (pc := 61) (c_Mod_binMass hO hb (by omega)) ok_X11_binMass t888 t19 kc11 hO.1 hO.2.1 t886 ⟨Nat.le_of_ble_eq_true rfl, Nat.le_of_ble_eq_true rfl⟩ ⟨rfl, rfl⟩ ⟨Nat.le_refl _, Nat.le_refl _⟩ rfl (Nat.le_of_ble_eq_true rfl) dX11_lasts_61 ?_
          refine w_putI (pc := 64) kc11 8 hO.1 hO.2.1 rfl t771 rfl (tyX11_ok 8 (by decide)) rfl rfl dX11_lasts_64 ?_
          refine w_aload_0 (pc := 67) dX11_lasts_67 ?_
          refine w_getR (pc := 68) (b := d) kc11 3 hO.1 hO.2.1 rfl hO.2.2.2.2.2.2.2.2.2.2.2.2.2.2.2.2.2.1 t766 dX11_lasts_68 ?_
          refine w_aload_0 (pc := 71) dX11_lasts_71 ?_
          refine w_getR (pc := 72) (b := a) kc11 0 hO.1 hO.2.1 rfl hO.2.2.2.2.2.2.2.2.2.2.2.2.2.2.1 t763 dX11_lasts_72 ?_
          refine w_callS_V (pc := 75) (c_Mod_copies hO.2.2.2.2.2.2.2.2.1 hO.2.2.2.2.2.2.2.2.2.1 hO.2.2.1 hO.2.2.2.1 (by omega)) ok_X11_copies t966 t965 ⟨Nat.le_of_ble_eq_true rfl, Nat.le_of_ble_eq_true rfl⟩ ⟨rfl, rfl⟩ ⟨Nat.le_refl _, Nat.le_refl _⟩ rfl (Nat.le_of_ble_eq_true rfl) dX11_lasts_75 ?_
          refine w_iload_2 (pc := 78) dX11_lasts_78 ?_
          refine w_if_eq (pc := 79) (tgt := 86) dX11_lasts_79 (by decide) (fun c9 => absurd c9 (by decide)) (fun _ => ?_)
          refine w_iload_1 (pc := 82) dX11_lasts_82 ?_
          refine w_goto (pc := 83) (tgt := 88) dX11_lasts_83 (by decide) ?_
          refine w_iret (pc := 88) rfl ⟨Nat.le_refl _, Nat.le_refl _⟩ dX11_lasts_88 ?_
          refine ⟨?_, rfl, ?_⟩
          · rw [va_up_self] at c41
            rw [qLasts, hfs, if_neg (b0 c41), hfn, hz]
          · rw [key, lsM, qThen, hfs, va_up_self]
      refine w_callV_I (pc := 14) (c_Mod_hasBatch hO) ok_X11_hasBatch t829 t10 kc11 hO.1 hO.2.1 t827 ⟨Nat.le_of_ble_eq_true rfl, Nat.le_of_ble_eq_true rfl⟩ ⟨rfl, rfl⟩ ⟨Nat.le_refl _, Nat.le_refl _⟩ rfl (Nat.le_of_ble_eq_true rfl) dX11_lasts_14 ?_
      refine w_if_eq (pc := 17) (tgt := 37) dX11_lasts_17 (by decide) (fun c17 => ?_) (fun c17 => ?_)
      · rw [va_up_self] at c17
        have hfs : lastS 2000 (I a) = t := by rw [← hls]; cases 2000 - i with | zero => rfl | succ m => rw [lastS, if_neg (b0 c17)]
        have hfn : lastN 2000 (I a) = i := by rw [← hln]; cases 2000 - i with | zero => exact Nat.zero_add i | succ m => rw [lastN, if_neg (b0 c17), Nat.zero_add]
        exact J37 hfs hfn
      · rw [va_up_self] at c17
        have c17 := b1 c17
        refine w_iload_1 (pc := 20) dX11_lasts_20 ?_
        refine w_sipush (pc := 21) (v := 2000) dX11_lasts_21 (by decide) ?_
        refine w_icmp_ge (pc := 24) (tgt := 37) dX11_lasts_24 (by decide) (fun c24 => ?_) (fun c24 => ?_)
        · have hi : 2000 ≤ i := (nx_cmp (a := 2000) rfl (by omega) hz (by omega)).1.mp c24
          obtain rfl : i = 2000 := by omega
          have hfs : lastS 2000 (I a) = t := by rw [← hls]; rfl
          have hfn : lastN 2000 (I a) = 2000 := by rw [← hln]; rfl
          exact J37 hfs hfn
        · have hi : i < 2000 := nx_nle (a := 2000) c24 rfl (by omega) hz (by omega)
          have ST : SX (va_up (va_up I d (va_cpy (I a) (I d) 0 0 149)) a t a) := by rw [va_up_self]; exact hT
          refine w_aload_0 (pc := 27) dX11_lasts_27 ?_
          refine w_callV_V (pc := 28) (c_Mod_ticks hO ST) ok_X11_ticks t850 t12 kc11 hO.1 hO.2.1 t848 ⟨Nat.le_of_ble_eq_true rfl, Nat.le_of_ble_eq_true rfl⟩ ⟨rfl, rfl⟩ ⟨Nat.le_refl _, Nat.le_refl _⟩ rfl (Nat.le_of_ble_eq_true rfl) dX11_lasts_28 ?_
          refine w_iinc_1 (pc := 31) dX11_lasts_31 rfl rfl ?_
          refine w_goto (pc := 34) (tgt := 13) dX11_lasts_34 (by decide) ?_
          rw [va_up_self, va_uu]
          exact ih (i + 1) _ _ (by omega) (by omega) (by rw [hz]; exact nI_1 i) (SX_tick hT) (by rw [tick_k hT (by simp [tkF])]; exact h12) (fun k hk => by rw [tick_k hT (by simp only [tkF]; omega)]; exact hbe k hk) (by rw [← hls, show 2000 - i = (2000 - (i + 1)) + 1 by omega, lastS, if_pos c17]) (by rw [← hln, show 2000 - i = (2000 - (i + 1)) + 1 by omega, lastN, if_pos c17]; omega)
  refine w_mem ?_ (L0 2001 0 _ (I a) (by omega) (by omega) rfl hS rfl (fun _ _ => rfl) rfl rfl)
  exact (va_self2 (va_up_ne _ _ (by omega))).symm
set_option maxHeartbeats 4000000 in
set_option maxRecDepth 100000 in
theorem c_Mod_batchIn {g : kG} {σ : kS} {I : kI} {q a b c d e f : Nat} (hO : sMod g σ q a b c d e f) (hS : SX (I a)) (hB : 0 < I a 15 → 0 < nB (I a)) : ct g mX11_batchIn ⟨6, 0, 0, 128⟩ [.ref q] σ I (qI (qBatchIn (I a)) σ (if 0 < I a 15 then lsM q a d I else I)) := by
  refine ct_of pn11 rfl (Nat.le_of_ble_eq_true rfl) ok_X11_batchIn.1 trivial ?_
  show wp _ _ _ _ _ _ _ _ 0 [some (.ref q)] []
  have o0 := hO.2.2.2.2.2.2.2.2.2.2.2.2.2.2.2.2.2.2.2.2.1
  have o1 := hO.2.2.2.2.2.2.2.2.2.2.2.2.2.2.2.2.2.2.2.2.2.1
  have o2 := hO.2.2.2.2.2.2.2.2.2.2.2.2.2.2.2.2.2.2.2.2.2.2.1
  have o3 := hO.2.2.2.2.2.2.2.2.2.2.2.2.2.2.2.2.2.2.2.2.2.2.2.1
  have o4 := hO.2.2.2.2.2.2.2.2.2.2.2.2.2.2.2.2.2.2.2.2.2.2.2.2.1
  have o5 := hO.2.2.2.2.2.2.2.2.2.2.2.2.2.2.2.2.2.2.2.2.2.2.2.2.2
  refine w_aload_0 (pc := 0) dX11_batchIn_0 ?_
  refine w_callV_I (pc := 1) (c_Mod_hasBatch hO) ok_X11_hasBatch t829 t10 kc11 hO.1 hO.2.1 t827 ⟨Nat.le_of_ble_eq_true rfl, Nat.le_of_ble_eq_true rfl⟩ ⟨rfl, rfl⟩ ⟨Nat.le_refl _, Nat.le_refl _⟩ rfl (Nat.le_of_ble_eq_true rfl) dX11_batchIn_1 ?_
  refine w_if_eq (pc := 4) (tgt := 14) dX11_batchIn_4 (by decide) (fun c4 => ?_) (fun c4 => ?_)
  · refine w_ldc (pc := 14) (v := -1000002) t831 dX11_batchIn_14 ?_
    refine w_iret (pc := 16) rfl ⟨Nat.le_refl _, Nat.le_refl _⟩ dX11_batchIn_16 ?_
    refine ⟨?_, rfl, ?_⟩
    · rw [qBatchIn, if_neg (b0 c4)]
    · rw [if_neg (b0 c4)]
  · refine w_aload_0 (pc := 7) dX11_batchIn_7 ?_
    refine w_callV_I (pc := 8) (c_Mod_lasts hO hS (hB (b1 c4))) ok_X11_lasts t963 t27 kc11 hO.1 hO.2.1 t961 ⟨Nat.le_of_ble_eq_true rfl, Nat.le_of_ble_eq_true rfl⟩ ⟨rfl, rfl⟩ ⟨Nat.le_refl _, Nat.le_refl _⟩ rfl (Nat.le_of_ble_eq_true rfl) dX11_batchIn_8 ?_
    refine w_goto (pc := 11) (tgt := 16) dX11_batchIn_11 (by decide) ?_
    refine w_iret (pc := 16) rfl ⟨Nat.le_refl _, Nat.le_refl _⟩ dX11_batchIn_16 ?_
    refine ⟨?_, rfl, ?_⟩
    · rw [qBatchIn, if_pos (b1 c4)]
    · rw [if_pos (b1 c4)]
set_option maxHeartbeats 4000000 in
set_option maxRecDepth 100000 in
theorem c_Mod_batchOut {g : kG} {σ : kS} {I : kI} {q a b c d e f : Nat} (hO : sMod g σ q a b c d e f) (hS : SX (I a)) (hB : 0 < I a 15 → 0 < nB (I a)) : ct g mX11_batchOut ⟨6, 0, 0, 128⟩ [.ref q] σ I (qI (qBatchOut (I a)) σ (if 0 < I a 15 then lsM q a d I else I)) := by
  refine ct_of pn11 rfl (Nat.le_of_ble_eq_true rfl) ok_X11_batchOut.1 trivial ?_
  show wp _ _ _ _ _ _ _ _ 0 [some (.ref q)] []
  have o0 := hO.2.2.2.2.2.2.2.2.2.2.2.2.2.2.2.2.2.2.2.2.1
  have o1 := hO.2.2.2.2.2.2.2.2.2.2.2.2.2.2.2.2.2.2.2.2.2.1
  have o2 := hO.2.2.2.2.2.2.2.2.2.2.2.2.2.2.2.2.2.2.2.2.2.2.1
  have o3 := hO.2.2.2.2.2.2.2.2.2.2.2.2.2.2.2.2.2.2.2.2.2.2.2.1
  have o4 := hO.2.2.2.2.2.2.2.2.2.2.2.2.2.2.2.2.2.2.2.2.2.2.2.2.1
  have o5 := hO.2.2.2.2.2.2.2.2.2.2.2.2.2.2.2.2.2.2.2.2.2.2.2.2.2
  refine w_aload_0 (pc := 0) dX11_batchOut_0 ?_
  refine w_callV_I (pc := 1) (c_Mod_hasBatch hO) ok_X11_hasBatch t829 t10 kc11 hO.1 hO.2.1 t827 ⟨Nat.le_of_ble_eq_true rfl, Nat.le_of_ble_eq_true rfl⟩ ⟨rfl, rfl⟩ ⟨Nat.le_refl _, Nat.le_refl _⟩ rfl (Nat.le_of_ble_eq_true rfl) dX11_batchOut_1 ?_
  refine w_if_ne (pc := 4) (tgt := 10) dX11_batchOut_4 (by decide) (fun c4 => ?_) (fun c4 => ?_)
  · refine w_aload_0 (pc := 10) dX11_batchOut_10 ?_
    refine w_callV_I (pc := 11) (c_Mod_lasts hO hS (hB (b1 c4))) ok_X11_lasts t963 t27 kc11 hO.1 hO.2.1 t961 ⟨Nat.le_of_ble_eq_true rfl, Nat.le_of_ble_eq_true rfl⟩ ⟨rfl, rfl⟩ ⟨Nat.le_refl _, Nat.le_refl _⟩ rfl (Nat.le_of_ble_eq_true rfl) dX11_batchOut_11 ?_
    refine w_if_ge (pc := 14) (tgt := 22) dX11_batchOut_14 (by decide) (fun c14 => ?_) (fun c14 => ?_)
    · refine w_aload_0 (pc := 22) dX11_batchOut_22 ?_
      refine w_getI (pc := 23) kc11 8 hO.1 hO.2.1 rfl t771 dX11_batchOut_23 ?_
      refine w_iret (pc := 26) rfl ⟨Nat.le_refl _, Nat.le_refl _⟩ dX11_batchOut_26 ?_
      refine ⟨?_, rfl, ?_⟩
      · rw [qBatchOut, if_neg (fun h => h (b1 c4)), if_neg (Int32.not_lt.mpr c14), lsM, kst_s, upd_s]
      · rw [if_pos (b1 c4)]
    · refine w_ldc (pc := 17) (v := -1000004) t762 dX11_batchOut_17 ?_
      refine w_goto (pc := 19) (tgt := 26) dX11_batchOut_19 (by decide) ?_
      refine w_iret (pc := 26) rfl ⟨Nat.le_refl _, Nat.le_refl _⟩ dX11_batchOut_26 ?_
      refine ⟨?_, rfl, ?_⟩
      · rw [qBatchOut, if_neg (fun h => h (b1 c4)), if_pos (Int32.not_le.mp c14)]
      · rw [if_pos (b1 c4)]
  · refine w_ldc (pc := 7) (v := -1000002) t831 dX11_batchOut_7 ?_
    refine w_iret (pc := 9) rfl ⟨Nat.le_refl _, Nat.le_refl _⟩ dX11_batchOut_9 ?_
    refine ⟨?_, rfl, ?_⟩
    · rw [qBatchOut, if_pos (b0 c4)]
    · rw [if_neg (b0 c4)]
set_option maxHeartbeats 4000000 in
set_option maxRecDepth 100000 in
theorem c_Mod_undo {g : kG} {σ : kS} {I : kI} {q a b c d e f : Nat} (hO : sMod g σ q a b c d e f) {n0 : Nat} (hp : I q 4 = nI n0) (hp2 : n0 ≤ 4) : ct g mX11_undo ⟨0, 0, 0, 0⟩ [.ref q] σ I (qI (if n0 = 0 then -1000002 else nI (n0 - 1)) σ (if n0 = 0 then I else va_up (kst I q 4 (nI (n0 - 1))) a (fun k => if k < 149 then I b (149 * (n0 - 1) + k) else I a k))) := by
  refine ct_of pn11 rfl (Nat.le_of_ble_eq_true rfl) ok_X11_undo.1 trivial ?_
  show wp _ _ _ _ _ _ _ _ 0 [some (.ref q), none] []
  have o0 := hO.2.2.2.2.2.2.2.2.2.2.2.2.2.2.2.2.2.2.2.2.1
  have o1 := hO.2.2.2.2.2.2.2.2.2.2.2.2.2.2.2.2.2.2.2.2.2.1
  have o2 := hO.2.2.2.2.2.2.2.2.2.2.2.2.2.2.2.2.2.2.2.2.2.2.1
  have o3 := hO.2.2.2.2.2.2.2.2.2.2.2.2.2.2.2.2.2.2.2.2.2.2.2.1
  have o4 := hO.2.2.2.2.2.2.2.2.2.2.2.2.2.2.2.2.2.2.2.2.2.2.2.2.1
  have o5 := hO.2.2.2.2.2.2.2.2.2.2.2.2.2.2.2.2.2.2.2.2.2.2.2.2.2
  refine w_aload_0 (pc := 0) dX11_undo_0 ?_
  refine w_getI (pc := 1) kc11 4 hO.1 hO.2.1 rfl t767 dX11_undo_1 ?_
  refine w_if_ne (pc := 4) (tgt := 10) dX11_undo_4 (by decide) (fun c4 => ?_) (fun c4 => ?_)
  · obtain ⟨m, hm⟩ : ∃ m, n0 = m + 1 := ⟨n0 - 1, by have := nx_ne (y := 0) (b := 0) c4 hp (by omega) rfl (by omega); omega⟩
    have hp1 : I q 4 - 1 = nI m := nx_m1 (by rw [← hm]; exact hp)
    have hm1 : n0 - 1 = m := by omega
    refine w_aload_0 (pc := 10) dX11_undo_10 ?_
    refine w_dup_a (pc := 11) dX11_undo_11 ?_
    refine w_getI (pc := 12) kc11 4 hO.1 hO.2.1 rfl t767 dX11_undo_12 ?_
    refine w_iconst (pc := 15) (v := 1) dX11_undo_15 (by decide) ?_
    refine w_isub (pc := 16) dX11_undo_16 ?_
    refine w_putI (pc := 17) kc11 4 hO.1 hO.2.1 rfl t767 rfl (tyX11_ok 4 (by decide)) rfl rfl dX11_undo_17 ?_
    refine w_iconst (pc := 20) (v := 0) dX11_undo_20 (by decide) ?_
    refine w_istore_1 (pc := 21) dX11_undo_21 rfl ?_
    have L0 : ∀ (n i : Nat) (z : Int32), i ≤ 149 → 150 ≤ i + n → z = nI i → wp g mX11_undo ⟨0, 0, 0, 0⟩ (fun _ => True) (qI (if n0 = 0 then -1000002 else nI (n0 - 1)) σ (if n0 = 0 then I else va_up (kst I q 4 (nI (n0 - 1))) a (fun k => if k < 149 then I b (149 * (n0 - 1) + k) else I a k))) (0, 0) σ (va_up (kst I q 4 (nI m)) a (fun k => if k < i then I b (149 * m + k) else I a k)) 22 [some (.ref q), some (.int z)] [] := by
      intro n
      induction n with
      | zero => intro i z h1 h2; exact absurd h2 (by omega)
      | succ n ih =>
        intro i z h1 h2 hz
        have e4 : va_up (kst I q 4 (nI m)) a (fun k => if k < i then I b (149 * m + k) else I a k) q 4 = nI m := by rw [va_up_ne _ _ (show q ≠ a by omega), kst_s, upd_s]
        refine w_iload_1 (pc := 22) dX11_undo_22 ?_
        refine w_sipush (pc := 23) (v := 149) dX11_undo_23 (by decide) ?_
        refine w_icmp_ge (pc := 26) (tgt := 56) dX11_undo_26 (by decide) (fun c26 => ?_) (fun c26 => ?_)
        · refine w_aload_0 (pc := 56) dX11_undo_56 ?_
          refine w_getI (pc := 57) kc11 4 hO.1 hO.2.1 rfl t767 dX11_undo_57 ?_
          refine w_iret (pc := 60) rfl ⟨Nat.le_refl _, Nat.le_refl _⟩ dX11_undo_60 ?_
          have hi : 149 ≤ i := (nx_cmp (a := 149) rfl (by omega) hz (by omega)).1.mp c26
          obtain rfl : i = 149 := by omega
          refine ⟨?_, rfl, ?_⟩
          · rw [if_neg (by omega), va_up_ne _ _ (show q ≠ a by omega), kst_s, upd_s, hm1]
          · rw [if_neg (by omega), hm1]
        · have hi : i < 149 := nx_nle (a := 149) c26 rfl (by omega) hz (by omega)
          refine w_aload_0 (pc := 29) dX11_undo_29 ?_
          refine w_getR (pc := 30) (b := a) kc11 0 hO.1 hO.2.1 rfl hO.2.2.2.2.2.2.2.2.2.2.2.2.2.2.1 t763 dX11_undo_30 ?_
          refine w_iload_1 (pc := 33) dX11_undo_33 ?_
          refine w_aload_0 (pc := 34) dX11_undo_34 ?_
          refine w_getR (pc := 35) (b := b) kc11 1 hO.1 hO.2.1 rfl hO.2.2.2.2.2.2.2.2.2.2.2.2.2.2.2.1 t764 dX11_undo_35 ?_
          refine w_sipush (pc := 38) (v := 149) dX11_undo_38 (by decide) ?_
          refine w_aload_0 (pc := 41) dX11_undo_41 ?_
          refine w_getI (pc := 42) kc11 4 hO.1 hO.2.1 rfl t767 dX11_undo_42 ?_
          refine w_imul (pc := 45) dX11_undo_45 ?_
          refine w_iload_1 (pc := 46) dX11_undo_46 ?_
          refine w_iadd (pc := 47) dX11_undo_47 ?_
          refine w_iald (pc := 48) (j := 149 * m + i) hO.2.2.2.2.1 hO.2.2.2.2.2.1 (by rw [e4, hz, show (149 : Int32) = nI 149 from rfl, pk_mul, nI_add]) (by omega) (by decide) dX11_undo_48 ?_
          refine w_iast (pc := 49) (j := i) hO.2.2.1 hO.2.2.2.1 hz hi (by decide) dX11_undo_49 ?_
          refine w_iinc_1 (pc := 50) dX11_undo_50 rfl rfl ?_
          refine w_goto (pc := 53) (tgt := 22) dX11_undo_53 (by decide) ?_
          refine w_mem ?_ (ih (i + 1) _ (by omega) (by omega) (by rw [hz]; exact nI_1 i))
          rw [kst_va, va_up_ne _ _ (show b ≠ a by omega), kst_n (show b ≠ q by omega)]
          congr 1
          funext k
          by_cases hk : k = i
          · subst hk; simp [upd]
          · simp only [upd, if_neg hk]
            by_cases h2 : k < i
            · simp [h2, show k < i + 1 by omega]
            · simp [h2, show ¬ k < i + 1 by omega]
    refine w_mem ?_ (L0 150 0 _ (by omega) (by omega) rfl)
    rw [hp1]
    have : (fun k => if k < 0 then I b (149 * m + k) else I a k) = I a := by funext k; simp
    rw [this, show I a = kst I q 4 (nI m) a from (kst_n (by omega)).symm, va_self]
  · refine w_ldc (pc := 7) (v := -1000002) t831 dX11_undo_7 ?_
    refine w_iret (pc := 9) rfl ⟨Nat.le_refl _, Nat.le_refl _⟩ dX11_undo_9 ?_
    have : n0 = 0 := (nx_cmp hp (by omega) (y := 0) (b := 0) rfl (by omega)).2.2.mp c4
    rw [if_pos this, if_pos this]
    exact ⟨rfl, rfl, rfl⟩
set_option maxHeartbeats 4000000 in
set_option maxRecDepth 100000 in
theorem c_Mod_type {g : kG} {σ : kS} {I : kI} {q a b c d e f : Nat} (hO : sMod g σ q a b c d e f) {n0 : Nat} (hn : I q 7 = nI n0) (hn2 : n0 ≤ 60) {x : Int32} : ct g mX11_type ⟨1, 0, 0, 22⟩ [.ref q, .int x] σ I (qI (if ¬ (32 ≤ x ∧ x ≤ 126) then -1000001 else if n0 = 60 then -1000003 else nI (n0 + 1)) σ (if 32 ≤ x ∧ x ≤ 126 ∧ ¬ n0 = 60 then kst (kst I e n0 x) q 7 (nI (n0 + 1)) else I)) := by
  refine ct_of pn11 rfl (Nat.le_of_ble_eq_true rfl) ok_X11_type.1 trivial ?_
  show wp _ _ _ _ _ _ _ _ 0 [some (.ref q), some (.int x)] []
  have o0 := hO.2.2.2.2.2.2.2.2.2.2.2.2.2.2.2.2.2.2.2.2.1
  have o1 := hO.2.2.2.2.2.2.2.2.2.2.2.2.2.2.2.2.2.2.2.2.2.1
  have o2 := hO.2.2.2.2.2.2.2.2.2.2.2.2.2.2.2.2.2.2.2.2.2.2.1
  have o3 := hO.2.2.2.2.2.2.2.2.2.2.2.2.2.2.2.2.2.2.2.2.2.2.2.1
  have o4 := hO.2.2.2.2.2.2.2.2.2.2.2.2.2.2.2.2.2.2.2.2.2.2.2.2.1
  have o5 := hO.2.2.2.2.2.2.2.2.2.2.2.2.2.2.2.2.2.2.2.2.2.2.2.2.2
  refine w_iload_1 (pc := 0) dX11_type_0 ?_
  refine w_bipush (pc := 1) (v := 32) dX11_type_1 (by decide) ?_
  refine w_bipush (pc := 3) (v := 126) dX11_type_3 (by decide) ?_
  refine w_callS_I (pc := 5) (c_Mod_in) ok_X11_in t811 t810 ⟨Nat.le_of_ble_eq_true rfl, Nat.le_of_ble_eq_true rfl⟩ ⟨rfl, rfl⟩ ⟨Nat.le_refl _, Nat.le_refl _⟩ rfl (Nat.le_of_ble_eq_true rfl) dX11_type_5 ?_
  refine w_if_ne (pc := 8) (tgt := 14) dX11_type_8 (by decide) (fun c8 => ?_) (fun c8 => ?_)
  · refine w_aload_0 (pc := 14) dX11_type_14 ?_
    refine w_getI (pc := 15) kc11 7 hO.1 hO.2.1 rfl t770 dX11_type_15 ?_
    refine w_bipush (pc := 18) (v := 60) dX11_type_18 (by decide) ?_
    refine w_icmp_ne (pc := 20) (tgt := 26) dX11_type_20 (by decide) (fun c20 => ?_) (fun c20 => ?_)
    · have hn3 : ¬ n0 = 60 := nx_ne (y := 60) (b := 60) c20 hn (by omega) rfl (by omega)
      refine w_aload_0 (pc := 26) dX11_type_26 ?_
      refine w_getR (pc := 27) (b := e) kc11 6 hO.1 hO.2.1 rfl hO.2.2.2.2.2.2.2.2.2.2.2.2.2.2.2.2.2.2.1 t769 dX11_type_27 ?_
      refine w_aload_0 (pc := 30) dX11_type_30 ?_
      refine w_getI (pc := 31) kc11 7 hO.1 hO.2.1 rfl t770 dX11_type_31 ?_
      refine w_iload_1 (pc := 34) dX11_type_34 ?_
      refine w_iast (pc := 35) (j := n0) hO.2.2.2.2.2.2.2.2.2.2.1 hO.2.2.2.2.2.2.2.2.2.2.2.1 hn (by omega) (by decide) dX11_type_35 ?_
      refine w_aload_0 (pc := 36) dX11_type_36 ?_
      refine w_dup_a (pc := 37) dX11_type_37 ?_
      refine w_getI (pc := 38) kc11 7 hO.1 hO.2.1 rfl t770 dX11_type_38 ?_
      refine w_iconst (pc := 41) (v := 1) dX11_type_41 (by decide) ?_
      refine w_iadd (pc := 42) dX11_type_42 ?_
      refine w_putI (pc := 43) kc11 7 hO.1 hO.2.1 rfl t770 rfl (tyX11_ok 7 (by decide)) rfl rfl dX11_type_43 ?_
      refine w_aload_0 (pc := 46) dX11_type_46 ?_
      refine w_getI (pc := 47) kc11 7 hO.1 hO.2.1 rfl t770 dX11_type_47 ?_
      refine w_iret (pc := 50) rfl ⟨Nat.le_refl _, Nat.le_refl _⟩ dX11_type_50 ?_
      have e7 : kst I e n0 x q 7 = nI n0 := by rw [kst_n (show q ≠ e by omega)]; exact hn
      refine ⟨?_, rfl, ?_⟩
      · rw [if_neg (fun h => h (b1 c8)), if_neg hn3, kst_s, upd_s, e7, nI_1]
      · rw [if_pos ⟨(b1 c8).1, (b1 c8).2, hn3⟩, e7, nI_1]
    · refine w_ldc (pc := 23) (v := -1000003) t814 dX11_type_23 ?_
      refine w_iret (pc := 25) rfl ⟨Nat.le_refl _, Nat.le_refl _⟩ dX11_type_25 ?_
      have hn3 : n0 = 60 := (nx_cmp (y := 60) (b := 60) hn (by omega) rfl (by omega)).2.2.mp c20
      refine ⟨?_, rfl, ?_⟩
      · rw [if_neg (fun h => h (b1 c8)), if_pos hn3]
      · rw [if_neg (fun h => h.2.2 hn3)]
  · refine w_ldc (pc := 11) (v := -1000001) t813 dX11_type_11 ?_
    refine w_iret (pc := 13) rfl ⟨Nat.le_refl _, Nat.le_refl _⟩ dX11_type_13 ?_
    refine ⟨?_, rfl, ?_⟩
    · rw [if_pos (b0 c8)]
    · rw [if_neg (fun h => b0 c8 ⟨h.1, h.2.1⟩)]
set_option maxHeartbeats 4000000 in
set_option maxRecDepth 100000 in
theorem c_Mod_clearText {g : kG} {σ : kS} {I : kI} {q a b c d e f : Nat} (hO : sMod g σ q a b c d e f)  : ct g mX11_clearText ⟨0, 0, 0, 0⟩ [.ref q] σ I (qI (I q 7) σ (kst I q 7 0)) := by
  refine ct_of pn11 rfl (Nat.le_of_ble_eq_true rfl) ok_X11_clearText.1 trivial ?_
  show wp _ _ _ _ _ _ _ _ 0 [some (.ref q), none] []
  have o0 := hO.2.2.2.2.2.2.2.2.2.2.2.2.2.2.2.2.2.2.2.2.1
  have o1 := hO.2.2.2.2.2.2.2.2.2.2.2.2.2.2.2.2.2.2.2.2.2.1
  have o2 := hO.2.2.2.2.2.2.2.2.2.2.2.2.2.2.2.2.2.2.2.2.2.2.1
  have o3 := hO.2.2.2.2.2.2.2.2.2.2.2.2.2.2.2.2.2.2.2.2.2.2.2.1
  have o4 := hO.2.2.2.2.2.2.2.2.2.2.2.2.2.2.2.2.2.2.2.2.2.2.2.2.1
  have o5 := hO.2.2.2.2.2.2.2.2.2.2.2.2.2.2.2.2.2.2.2.2.2.2.2.2.2
  refine w_aload_0 (pc := 0) dX11_clearText_0 ?_
  refine w_getI (pc := 1) kc11 7 hO.1 hO.2.1 rfl t770 dX11_clearText_1 ?_
  refine w_istore_1 (pc := 4) dX11_clearText_4 rfl ?_
  refine w_aload_0 (pc := 5) dX11_clearText_5 ?_
  refine w_iconst (pc := 6) (v := 0) dX11_clearText_6 (by decide) ?_
  refine w_putI (pc := 7) kc11 7 hO.1 hO.2.1 rfl t770 rfl (tyX11_ok 7 (by decide)) rfl rfl dX11_clearText_7 ?_
  refine w_iload_1 (pc := 10) dX11_clearText_10 ?_
  refine w_iret (pc := 11) rfl ⟨Nat.le_refl _, Nat.le_refl _⟩ dX11_clearText_11 ?_
  exact ⟨rfl, rfl, rfl⟩
set_option maxHeartbeats 4000000 in
set_option maxRecDepth 100000 in
theorem c_Mod_isAt {g : kG} {σ : kS} {I : kI} {q a b c d e f : Nat} (hO : sMod g σ q a b c d e f) {n0 : Nat} (hn : I q 7 = nI n0) (hn2 : n0 ≤ 60) {p : Nat} (hs : I q 9 = nI p) (hs2 : p ≤ 64) {x y : Int32} : ct g mX11_isAt ⟨1, 0, 0, 22⟩ [.ref q, .int x, .int y] σ I (qI (if p < n0 ∧ x ≤ I e p ∧ I e p ≤ y then 1 else 0) σ I) := by
  refine ct_of pn11 rfl (Nat.le_of_ble_eq_true rfl) ok_X11_isAt.1 trivial ?_
  show wp _ _ _ _ _ _ _ _ 0 [some (.ref q), some (.int x), some (.int y)] []
  have o0 := hO.2.2.2.2.2.2.2.2.2.2.2.2.2.2.2.2.2.2.2.2.1
  have o1 := hO.2.2.2.2.2.2.2.2.2.2.2.2.2.2.2.2.2.2.2.2.2.1
  have o2 := hO.2.2.2.2.2.2.2.2.2.2.2.2.2.2.2.2.2.2.2.2.2.2.1
  have o3 := hO.2.2.2.2.2.2.2.2.2.2.2.2.2.2.2.2.2.2.2.2.2.2.2.1
  have o4 := hO.2.2.2.2.2.2.2.2.2.2.2.2.2.2.2.2.2.2.2.2.2.2.2.2.1
  have o5 := hO.2.2.2.2.2.2.2.2.2.2.2.2.2.2.2.2.2.2.2.2.2.2.2.2.2
  refine w_aload_0 (pc := 0) dX11_isAt_0 ?_
  refine w_getI (pc := 1) kc11 9 hO.1 hO.2.1 rfl t772 dX11_isAt_1 ?_
  refine w_aload_0 (pc := 4) dX11_isAt_4 ?_
  refine w_getI (pc := 5) kc11 7 hO.1 hO.2.1 rfl t770 dX11_isAt_5 ?_
  refine w_icmp_ge (pc := 8) (tgt := 32) dX11_isAt_8 (by decide) (fun c8 => ?_) (fun c8 => ?_)
  · have hpn : n0 ≤ p := (nx_cmp hn (by omega) hs (by omega)).1.mp c8
    refine w_iconst (pc := 32) (v := 0) dX11_isAt_32 (by decide) ?_
    refine w_zret (pc := 33) rfl (by decide) ⟨Nat.le_refl _, Nat.le_refl _⟩ dX11_isAt_33 ?_
    refine ⟨?_, rfl, rfl⟩
    rw [if_neg (fun h => absurd h.1 (by omega))]
  · have hpn : p < n0 := nx_nle c8 hn (by omega) hs (by omega)
    refine w_aload_0 (pc := 11) dX11_isAt_11 ?_
    refine w_getR (pc := 12) (b := e) kc11 6 hO.1 hO.2.1 rfl hO.2.2.2.2.2.2.2.2.2.2.2.2.2.2.2.2.2.2.1 t769 dX11_isAt_12 ?_
    refine w_aload_0 (pc := 15) dX11_isAt_15 ?_
    refine w_getI (pc := 16) kc11 9 hO.1 hO.2.1 rfl t772 dX11_isAt_16 ?_
    refine w_iald (pc := 19) (j := p) hO.2.2.2.2.2.2.2.2.2.2.1 hO.2.2.2.2.2.2.2.2.2.2.2.1 hs (by omega) (by decide) dX11_isAt_19 ?_
    refine w_iload_1 (pc := 20) dX11_isAt_20 ?_
    refine w_iload_2 (pc := 21) dX11_isAt_21 ?_
    refine w_callS_I (pc := 22) (c_Mod_in) ok_X11_in t811 t810 ⟨Nat.le_of_ble_eq_true rfl, Nat.le_of_ble_eq_true rfl⟩ ⟨rfl, rfl⟩ ⟨Nat.le_refl _, Nat.le_refl _⟩ rfl (Nat.le_of_ble_eq_true rfl) dX11_isAt_22 ?_
    refine w_if_eq (pc := 25) (tgt := 32) dX11_isAt_25 (by decide) (fun c25 => ?_) (fun c25 => ?_)
    · refine w_iconst (pc := 32) (v := 0) dX11_isAt_32 (by decide) ?_
      refine w_zret (pc := 33) rfl (by decide) ⟨Nat.le_refl _, Nat.le_refl _⟩ dX11_isAt_33 ?_
      refine ⟨?_, rfl, rfl⟩
      rw [if_neg (fun h => b0 c25 h.2)]
    · refine w_iconst (pc := 28) (v := 1) dX11_isAt_28 (by decide) ?_
      refine w_goto (pc := 29) (tgt := 33) dX11_isAt_29 (by decide) ?_
      refine w_zret (pc := 33) rfl (by decide) ⟨Nat.le_refl _, Nat.le_refl _⟩ dX11_isAt_33 ?_
      refine ⟨?_, rfl, rfl⟩
      rw [if_pos ⟨hpn, b1 c25⟩]
set_option maxHeartbeats 4000000 in
set_option maxRecDepth 100000 in
theorem c_Mod_passes {g : kG} {σ : kS} {I : kI} {q a b c d e f : Nat} (hO : sMod g σ q a b c d e f) {n0 : Nat} (hn : I q 7 = nI n0) (hn2 : n0 ≤ 60) {p : Nat} (hs : I q 9 = nI p) (hs2 : p ≤ 64) {x : Int32} : ct g mX11_passes ⟨2, 0, 0, 44⟩ [.ref q, .int x] σ I (qI (if p < n0 ∧ I e p = x then 1 else 0) σ (if p < n0 ∧ I e p = x then kst I q 9 (nI (p + 1)) else I)) := by
  refine ct_of pn11 rfl (Nat.le_of_ble_eq_true rfl) ok_X11_passes.1 trivial ?_
  show wp _ _ _ _ _ _ _ _ 0 [some (.ref q), some (.int x), none] []
  have o0 := hO.2.2.2.2.2.2.2.2.2.2.2.2.2.2.2.2.2.2.2.2.1
  have o1 := hO.2.2.2.2.2.2.2.2.2.2.2.2.2.2.2.2.2.2.2.2.2.1
  have o2 := hO.2.2.2.2.2.2.2.2.2.2.2.2.2.2.2.2.2.2.2.2.2.2.1
  have o3 := hO.2.2.2.2.2.2.2.2.2.2.2.2.2.2.2.2.2.2.2.2.2.2.2.1
  have o4 := hO.2.2.2.2.2.2.2.2.2.2.2.2.2.2.2.2.2.2.2.2.2.2.2.2.1
  have o5 := hO.2.2.2.2.2.2.2.2.2.2.2.2.2.2.2.2.2.2.2.2.2.2.2.2.2
  refine w_aload_0 (pc := 0) dX11_passes_0 ?_
  refine w_iload_1 (pc := 1) dX11_passes_1 ?_
  refine w_iload_1 (pc := 2) dX11_passes_2 ?_
  refine w_callV_I (pc := 3) (c_Mod_isAt hO hn hn2 hs hs2) ok_X11_isAt t1006 t31 kc11 hO.1 hO.2.1 t1004 ⟨Nat.le_of_ble_eq_true rfl, Nat.le_of_ble_eq_true rfl⟩ ⟨rfl, rfl⟩ ⟨Nat.le_refl _, Nat.le_refl _⟩ rfl (Nat.le_of_ble_eq_true rfl) dX11_passes_3 ?_
  refine w_istore_2 (pc := 6) dX11_passes_6 rfl ?_
  refine w_aload_0 (pc := 7) dX11_passes_7 ?_
  refine w_dup_a (pc := 8) dX11_passes_8 ?_
  refine w_getI (pc := 9) kc11 9 hO.1 hO.2.1 rfl t772 dX11_passes_9 ?_
  refine w_iload_2 (pc := 12) dX11_passes_12 ?_
  refine w_if_eq (pc := 13) (tgt := 20) dX11_passes_13 (by decide) (fun c13 => ?_) (fun c13 => ?_)
  · refine w_iconst (pc := 20) (v := 0) dX11_passes_20 (by decide) ?_
    refine w_iadd (pc := 21) dX11_passes_21 ?_
    refine w_putI (pc := 22) kc11 9 hO.1 hO.2.1 rfl t772 rfl (tyX11_ok 9 (by decide)) rfl rfl dX11_passes_22 ?_
    refine w_iload_2 (pc := 25) dX11_passes_25 ?_
    refine w_zret (pc := 26) rfl (by rw [if_neg (b0 c13)]; decide) ⟨Nat.le_refl _, Nat.le_refl _⟩ dX11_passes_26 ?_
    have hc : ¬ (p < n0 ∧ I e p = x) := fun h => b0 c13 ⟨h.1, by rw [h.2]; exact Int32.le_refl _, by rw [h.2]; exact Int32.le_refl _⟩
    refine ⟨?_, rfl, ?_⟩
    · rw [if_neg hc, if_neg (b0 c13)]
    · rw [if_neg hc]
      funext r
      by_cases hr : r = q
      · subst hr; rw [kst_s]; funext k; by_cases hk : k = 9
        · subst hk; rw [upd_s]; simp
        · rw [upd_ne hk]
      · rw [kst_n hr]
  · refine w_iconst (pc := 16) (v := 1) dX11_passes_16 (by decide) ?_
    refine w_goto (pc := 17) (tgt := 21) dX11_passes_17 (by decide) ?_
    refine w_iadd (pc := 21) dX11_passes_21 ?_
    refine w_putI (pc := 22) kc11 9 hO.1 hO.2.1 rfl t772 rfl (tyX11_ok 9 (by decide)) rfl rfl dX11_passes_22 ?_
    refine w_iload_2 (pc := 25) dX11_passes_25 ?_
    refine w_zret (pc := 26) rfl (by rw [if_pos (b1 c13)]; decide) ⟨Nat.le_refl _, Nat.le_refl _⟩ dX11_passes_26 ?_
    have hc : p < n0 ∧ I e p = x := ⟨(b1 c13).1, Int32.le_antisymm (b1 c13).2.2 (b1 c13).2.1⟩
    refine ⟨?_, rfl, ?_⟩
    · rw [if_pos hc, if_pos (b1 c13)]
    · rw [if_pos hc, hs, nI_1]
set_option maxHeartbeats 4000000 in
set_option maxRecDepth 100000 in
theorem c_Mod_number {g : kG} {σ : kS} {I : kI} {q a b c d e f : Nat} (hO : sMod g σ q a b c d e f) {n0 : Nat} (hn : I q 7 = nI n0) (hn2 : n0 ≤ 60) {p : Nat} (hs : I q 9 = nI p) (hs2 : p ≤ 64) (hpn : p ≤ n0) {x : Int32} {w : Nat} (hx : x = nI w) (hw : w < 2) : ct g mX11_number ⟨2, 0, 0, 44⟩ [.ref q, .int x] σ I (qI (if p < nmP (I e) n0 4 p then 1 else 0) σ (kst (kst I f w (nmV (I e) n0 4 p 0)) q 9 (nI (nmP (I e) n0 4 p)))) := by
  refine ct_of pn11 rfl (Nat.le_of_ble_eq_true rfl) ok_X11_number.1 trivial ?_
  show wp _ _ _ _ _ _ _ _ 0 [some (.ref q), some (.int x), none] []
  have o0 := hO.2.2.2.2.2.2.2.2.2.2.2.2.2.2.2.2.2.2.2.2.1
  have o1 := hO.2.2.2.2.2.2.2.2.2.2.2.2.2.2.2.2.2.2.2.2.2.1
  have o2 := hO.2.2.2.2.2.2.2.2.2.2.2.2.2.2.2.2.2.2.2.2.2.2.1
  have o3 := hO.2.2.2.2.2.2.2.2.2.2.2.2.2.2.2.2.2.2.2.2.2.2.2.1
  have o4 := hO.2.2.2.2.2.2.2.2.2.2.2.2.2.2.2.2.2.2.2.2.2.2.2.2.1
  have o5 := hO.2.2.2.2.2.2.2.2.2.2.2.2.2.2.2.2.2.2.2.2.2.2.2.2.2
  have p4 := nmP_le (I e) n0 4 p
  refine w_aload_0 (pc := 0) dX11_number_0 ?_
  refine w_getI (pc := 1) kc11 9 hO.1 hO.2.1 rfl t772 dX11_number_1 ?_
  refine w_istore_2 (pc := 4) dX11_number_4 rfl ?_
  refine w_aload_0 (pc := 5) dX11_number_5 ?_
  refine w_getR (pc := 6) (b := f) kc11 13 hO.1 hO.2.1 rfl hO.2.2.2.2.2.2.2.2.2.2.2.2.2.2.2.2.2.2.2.1 t776 dX11_number_6 ?_
  refine w_iload_1 (pc := 9) dX11_number_9 ?_
  refine w_iconst (pc := 10) (v := 0) dX11_number_10 (by decide) ?_
  refine w_iast (pc := 11) (j := w) hO.2.2.2.2.2.2.2.2.2.2.2.2.1 hO.2.2.2.2.2.2.2.2.2.2.2.2.2.1 hx hw (by decide) dX11_number_11 ?_
  have L0 : ∀ (m i p1 : Nat) (v : Int32), i ≤ 4 → 5 ≤ i + m → p1 = p + i → p1 ≤ n0 → nmP (I e) n0 (4 - i) p1 = nmP (I e) n0 4 p → nmV (I e) n0 (4 - i) p1 v = nmV (I e) n0 4 p 0 → wp g mX11_number ⟨2, 0, 0, 44⟩ (fun _ => True) (qI (if p < nmP (I e) n0 4 p then 1 else 0) σ (kst (kst I f w (nmV (I e) n0 4 p 0)) q 9 (nI (nmP (I e) n0 4 p)))) (0, 0) σ (kst (kst I f w v) q 9 (nI p1)) 12 [some (.ref q), some (.int x), some (.int (I q 9))] [] := by
    intro m
    induction m with
    | zero => intro i p1 v h1 h2; exact absurd h2 (by omega)
    | succ m ih =>
      intro i p1 v h1 h2 hp1 hpn1 hpp hvv
      have e9 : kst (kst I f w v) q 9 (nI p1) q 9 = nI p1 := by rw [kst_s, upd_s]
      have e7 : kst (kst I f w v) q 9 (nI p1) q 7 = nI n0 := by rw [kst_s, upd_ne (by omega), kst_n (show q ≠ f by omega)]; exact hn
      have hJe : kst (kst I f w v) q 9 (nI p1) e = I e := by rw [kst_n (show e ≠ q by omega), kst_n (show e ≠ f by omega)]
      refine w_aload_0 (pc := 12) dX11_number_12 ?_
      refine w_bipush (pc := 13) (v := 48) dX11_number_13 (by decide) ?_
      refine w_bipush (pc := 15) (v := 57) dX11_number_15 (by decide) ?_
      refine w_callV_I (pc := 17) (c_Mod_isAt hO e7 hn2 e9 (by omega)) ok_X11_isAt t1006 t31 kc11 hO.1 hO.2.1 t1004 ⟨Nat.le_of_ble_eq_true rfl, Nat.le_of_ble_eq_true rfl⟩ ⟨rfl, rfl⟩ ⟨Nat.le_refl _, Nat.le_refl _⟩ rfl (Nat.le_of_ble_eq_true rfl) dX11_number_17 ?_
      refine w_if_eq (pc := 20) (tgt := 74) dX11_number_20 (by decide) (fun c20 => ?_) (fun c20 => ?_)
      · rw [hJe] at c20
        have hP : nmP (I e) n0 4 p = p1 := by rw [← hpp]; cases 4 - i with | zero => rfl | succ m => rw [nmP, if_neg (b0 c20)]
        have hV : nmV (I e) n0 4 p 0 = v := by rw [← hvv]; cases 4 - i with | zero => rfl | succ m => rw [nmV, if_neg (b0 c20)]
        refine w_aload_0 (pc := 74) dX11_number_74 ?_
        refine w_getI (pc := 75) kc11 9 hO.1 hO.2.1 rfl t772 dX11_number_75 ?_
        refine w_iload_2 (pc := 78) dX11_number_78 ?_
        refine w_icmp_le (pc := 79) (tgt := 86) dX11_number_79 (by decide) (fun c79 => ?_) (fun c79 => ?_)
        · refine w_iconst (pc := 86) (v := 0) dX11_number_86 (by decide) ?_
          refine w_zret (pc := 87) rfl (by decide) ⟨Nat.le_refl _, Nat.le_refl _⟩ dX11_number_87 ?_
          refine ⟨?_, rfl, ?_⟩
          · rw [hP, if_neg]
            rw [e9, hs] at c79
            have := (nI_leI (by omega) (by omega)).mp c79
            omega
          · rw [hP, hV]
        · refine w_iconst (pc := 82) (v := 1) dX11_number_82 (by decide) ?_
          refine w_goto (pc := 83) (tgt := 87) dX11_number_83 (by decide) ?_
          refine w_zret (pc := 87) rfl (by decide) ⟨Nat.le_refl _, Nat.le_refl _⟩ dX11_number_87 ?_
          refine ⟨?_, rfl, ?_⟩
          · rw [hP, if_pos]
            rw [e9, hs] at c79
            exact Nat.lt_of_not_le (fun h => c79 ((nI_leI (by omega) (by omega)).mpr h))
          · rw [hP, hV]
      · rw [hJe] at c20
        have c20 := b1 c20
        refine w_aload_0 (pc := 23) dX11_number_23 ?_
        refine w_getI (pc := 24) kc11 9 hO.1 hO.2.1 rfl t772 dX11_number_24 ?_
        refine w_iload_2 (pc := 27) dX11_number_27 ?_
        refine w_isub (pc := 28) dX11_number_28 ?_
        refine w_iconst (pc := 29) (v := 4) dX11_number_29 (by decide) ?_
        refine w_icmp_ge (pc := 30) (tgt := 74) dX11_number_30 (by decide) (fun c30 => ?_) (fun c30 => ?_)
        · have hi : 4 ≤ i := (nx_cmp (x := 4) (a := 4) rfl (by omega) (show kst (kst I f w v) q 9 (nI p1) q 9 - I q 9 = nI i by rw [kst_s, upd_s, hs, pk_sub (by omega)]; congr 1; omega) (by omega)).1.mp c30
          obtain rfl : i = 4 := by omega
          have hP : nmP (I e) n0 4 p = p1 := by rw [← hpp]; rfl
          have hV : nmV (I e) n0 4 p 0 = v := by rw [← hvv]; rfl
          refine w_aload_0 (pc := 74) dX11_number_74 ?_
          refine w_getI (pc := 75) kc11 9 hO.1 hO.2.1 rfl t772 dX11_number_75 ?_
          refine w_iload_2 (pc := 78) dX11_number_78 ?_
          refine w_icmp_le (pc := 79) (tgt := 86) dX11_number_79 (by decide) (fun c79 => ?_) (fun c79 => ?_)
          · refine w_iconst (pc := 86) (v := 0) dX11_number_86 (by decide) ?_
            refine w_zret (pc := 87) rfl (by decide) ⟨Nat.le_refl _, Nat.le_refl _⟩ dX11_number_87 ?_
            refine ⟨?_, rfl, ?_⟩
            · rw [hP, if_neg]
              rw [e9, hs] at c79
              have := (nI_leI (by omega) (by omega)).mp c79
              omega
            · rw [hP, hV]
          · refine w_iconst (pc := 82) (v := 1) dX11_number_82 (by decide) ?_
            refine w_goto (pc := 83) (tgt := 87) dX11_number_83 (by decide) ?_
            refine w_zret (pc := 87) rfl (by decide) ⟨Nat.le_refl _, Nat.le_refl _⟩ dX11_number_87 ?_
            refine ⟨?_, rfl, ?_⟩
            · rw [hP, if_pos]
              rw [e9, hs] at c79
              exact Nat.lt_of_not_le (fun h => c79 ((nI_leI (by omega) (by omega)).mpr h))
            · rw [hP, hV]
        · have hi : i < 4 := by
            have := nx_nle (x := 4) (a := 4) c30 rfl (by omega) (show kst (kst I f w v) q 9 (nI p1) q 9 - I q 9 = nI i by rw [kst_s, upd_s, hs, pk_sub (by omega)]; congr 1; omega) (by omega)
            omega
          refine w_aload_0 (pc := 33) dX11_number_33 ?_
          refine w_getR (pc := 34) (b := f) kc11 13 hO.1 hO.2.1 rfl hO.2.2.2.2.2.2.2.2.2.2.2.2.2.2.2.2.2.2.2.1 t776 dX11_number_34 ?_
          refine w_iload_1 (pc := 37) dX11_number_37 ?_
          refine w_bipush (pc := 38) (v := 10) dX11_number_38 (by decide) ?_
          refine w_aload_0 (pc := 40) dX11_number_40 ?_
          refine w_getR (pc := 41) (b := f) kc11 13 hO.1 hO.2.1 rfl hO.2.2.2.2.2.2.2.2.2.2.2.2.2.2.2.2.2.2.2.1 t776 dX11_number_41 ?_
          refine w_iload_1 (pc := 44) dX11_number_44 ?_
          refine w_iald (pc := 45) (j := w) hO.2.2.2.2.2.2.2.2.2.2.2.2.1 hO.2.2.2.2.2.2.2.2.2.2.2.2.2.1 hx hw (by decide) dX11_number_45 ?_
          refine w_imul (pc := 46) dX11_number_46 ?_
          refine w_aload_0 (pc := 47) dX11_number_47 ?_
          refine w_getR (pc := 48) (b := e) kc11 6 hO.1 hO.2.1 rfl hO.2.2.2.2.2.2.2.2.2.2.2.2.2.2.2.2.2.2.1 t769 dX11_number_48 ?_
          refine w_aload_0 (pc := 51) dX11_number_51 ?_
          refine w_getI (pc := 52) kc11 9 hO.1 hO.2.1 rfl t772 dX11_number_52 ?_
          refine w_iald (pc := 55) (j := p1) hO.2.2.2.2.2.2.2.2.2.2.1 hO.2.2.2.2.2.2.2.2.2.2.2.1 e9 (by omega) (by decide) dX11_number_55 ?_
          refine w_iadd (pc := 56) dX11_number_56 ?_
          refine w_bipush (pc := 57) (v := 48) dX11_number_57 (by decide) ?_
          refine w_isub (pc := 59) dX11_number_59 ?_
          refine w_iast (pc := 60) (j := w) hO.2.2.2.2.2.2.2.2.2.2.2.2.1 hO.2.2.2.2.2.2.2.2.2.2.2.2.2.1 hx hw (by decide) dX11_number_60 ?_
          refine w_aload_0 (pc := 61) dX11_number_61 ?_
          refine w_dup_a (pc := 62) dX11_number_62 ?_
          refine w_getI (pc := 63) kc11 9 hO.1 hO.2.1 rfl t772 dX11_number_63 ?_
          refine w_iconst (pc := 66) (v := 1) dX11_number_66 (by decide) ?_
          refine w_iadd (pc := 67) dX11_number_67 ?_
          refine w_putI (pc := 68) kc11 9 hO.1 hO.2.1 rfl t772 rfl (tyX11_ok 9 (by decide)) rfl rfl dX11_number_68 ?_
          refine w_goto (pc := 71) (tgt := 12) dX11_number_71 (by decide) ?_
          refine w_mem ?_ (ih (i + 1) (p1 + 1) (10 * v + I e p1 - 48) (by omega) (by omega) (by omega) (by omega) (by rw [← hpp, show 4 - i = (4 - (i + 1)) + 1 by omega, nmP, if_pos c20]) (by rw [← hvv, show 4 - i = (4 - (i + 1)) + 1 by omega, nmV, if_pos c20]))
          rw [hJe, kst_n (show f ≠ q by omega), kst_s (I := I), upd_s]
          funext r
          have n1 : q ≠ f := by omega
          by_cases h1 : r = q
          · subst h1; simp [kst, va_up, n1, ← nI_1]; funext k; by_cases hk : k = 9 <;> simp [upd, hk]
          · by_cases h2 : r = f
            · subst h2; simp [kst, va_up, h1]; funext k; by_cases hk : k = w <;> simp [upd, hk]
            · simp [kst, va_up, h1, h2]
  refine w_mem ?_ (L0 5 0 p 0 (by omega) (by omega) rfl hpn rfl rfl)
  funext r
  by_cases h1 : r = q
  · subst h1; rw [kst_s]; funext k; by_cases hk : k = 9
    · subst hk; rw [upd_s, kst_n (by omega)]; exact hs
    · rw [upd_ne hk]
  · rw [kst_n h1]
