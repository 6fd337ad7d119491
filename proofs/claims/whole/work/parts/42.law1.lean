-- the class and the reference side by side
def MC (I : kI) (q : Nat) (c : kCS) : Prop := I (q + 1) = c.1 ∧ I q 4 = nI c.2.1 ∧ I q 5 = 0 ∧ ∀ i, i < c.2.1 → (∀ k, k < 149 → I (q + 2) (149 * (c.2.1 - 1 - i) + k) = c.2.2 i k) ∧ ∀ k, 149 ≤ k → c.2.2 i k = c.1 k
def MT (I : kI) (q n0 : Nat) (f : kV) : Prop := I q 7 = nI n0 ∧ ∀ k, k < n0 → I (q + 5) k = f k
abbrev sMq (g : kG) (σ : kS) (q : Nat) : Prop := sMod g σ q (q + 1) (q + 2) (q + 3) (q + 4) (q + 5) (q + 6)
def LR (g : kG) (σ : kS) (I : kI) (r : Nat) : Prop := ∃ (x : Nat → Nat) (c : kCS) (n0 : Nat) (f : kV), sW g σ r x ∧ CR I r x c n0 f ∧ sMq g σ (r + 102) ∧ MC I (r + 102) c ∧ MT I (r + 102) n0 f
theorem MC_e {I J : kI} {q : Nat} {c : kCS} (h : MC I q c) (e1 : J (q + 1) = I (q + 1)) (e2 : J (q + 2) = I (q + 2)) (e4 : J q 4 = I q 4) (e5 : J q 5 = I q 5) : MC J q c := by
  obtain ⟨h1, h2, h3, h4⟩ := h
  refine ⟨e1.trans h1, e4.trans h2, e5.trans h3, fun i hi => ?_⟩
  rw [e2]; exact h4 i hi
theorem MT_e {I J : kI} {q n0 : Nat} {f : kV} (h : MT I q n0 f) (e7 : J q 7 = I q 7) (e5 : J (q + 5) = I (q + 5)) : MT J q n0 f := ⟨e7.trans h.1, fun k hk => by rw [e5]; exact h.2 k hk⟩
theorem CR_ext {g : kG} {σ : kS} {I J : kI} {r n0 : Nat} {x : Nat → Nat} {c : kCS} {f : kV} (hW : sW g σ r x) (hC : CR I r x c n0 f) (e : ∀ a, r ≤ a → a < r + 102 → J a = I a) : CR J r x c n0 f := by
  obtain ⟨c1, c2, c3, c4⟩ := hC
  exact ⟨PR_e c1 c2.1 (fun a x1 x2 => e a (by omega) (by omega)), c2, HC_e hW c3 (fun b x1 x2 => e b (by omega) (by omega)), TXR_e c4 (e _ (by omega) (by omega)) (e _ (by omega) (by omega))⟩
theorem sMq_G {g : kG} {σ : kS} {q : Nat} {F : Nat → Nat → Option Nat} (h : sMq g σ q) (e : F q = σ.2.2 q) : sMq g (σ.1, σ.2.1, F) q := by
  unfold sMq sMod at h ⊢
  simp only [e]
  exact h
theorem L_f {I J : kI} {r n0 : Nat} {c : kCS} {f : kV} (hM : MC I (r + 102) c) (hT : MT I (r + 102) n0 f) (fr : ∀ b, (b < r ∨ r + 102 ≤ b) → J b = I b) : MC J (r + 102) c ∧ MT J (r + 102) n0 f :=
  ⟨MC_e hM (fr _ (by omega)) (fr _ (by omega)) (by rw [fr _ (by omega)]) (by rw [fr _ (by omega)]), MT_e hT (by rw [fr _ (by omega)]) (fr _ (by omega))⟩
theorem L_a {g : kG} {σ : kS} {I I1 : kI} {r n0 n2 : Nat} {c c2 : kCS} {f f2 : kV} {F : Nat → Nat → Option Nat} (hO : sMq g σ (r + 102)) (hM : MC I (r + 102) c) (hT : MT I (r + 102) n0 f) (hP : PW g σ r I c2 n2 f2 F I1) : sMq g (σ.1, σ.2.1, F) (r + 102) ∧ MC I1 (r + 102) c ∧ MT I1 (r + 102) n0 f := by
  obtain ⟨x, -, -, hF, fr⟩ := hP
  exact ⟨sMq_G hO (hF _ (by omega)), L_f hM hT fr⟩
theorem opM_o {q z : Nat} {I : kI} {o : kO} (h0 : z ≠ q) (h1 : z ≠ q + 1) (h2 : z ≠ q + 2) : opM q (q + 1) (q + 2) I o z = I z := by
  unfold opM
  cases o.2 with
  | none => rfl
  | some t =>
    show va_up (chM q (q + 1) (q + 2) I) (q + 1) t z = I z
    rw [va_up_ne _ _ h1]; exact chM_o h2 h0
theorem opM_q {q k : Nat} {I : kI} {o : kO} (hk : k ≠ 4) : opM q (q + 1) (q + 2) I o q k = I q k := by
  unfold opM
  cases o.2 with
  | none => rfl
  | some t =>
    show va_up (chM q (q + 1) (q + 2) I) (q + 1) t q k = I q k
    rw [va_up_ne _ _ (by omega)]; exact chM_q (by omega) hk
theorem M_op {I : kI} {q : Nat} {c : kCS} {o : kO} (h : MC I q c) (hn : c.2.1 ≤ 4) (hok : ∀ t, o.2 = some t → ∀ k, 149 ≤ k → t k = c.1 k) : MC (opM q (q + 1) (q + 2) I o) q (stC c o) := by
  obtain ⟨s, n, H⟩ := c
  obtain ⟨h1, h2, h3, h4⟩ := h
  dsimp only at h1 h2 h4 hn hok
  cases ho : o.2 with
  | none =>
    unfold opM stC
    simp only [ho]
    exact ⟨h1, h2, h3, h4⟩
  | some t =>
    have hk := hok t ho
    unfold opM stC
    simp only [ho]
    by_cases h44 : n = 4
    · subst h44
      rw [chM, if_neg (fun x => x h3), if_pos (show I q 4 = 4 from h2)]
      refine ⟨va_up_self _ _ _, ?_, ?_, fun i hi => ⟨fun k hk' => ?_, fun k hk' => ?_⟩⟩
      · rw [va_up_ne _ _ (by omega), va_up_ne _ _ (by omega)]; exact h2
      · rw [va_up_ne _ _ (by omega), va_up_ne _ _ (by omega)]; exact h3
      · have hi : i < 4 := hi
        rw [va_up_ne _ _ (by omega), va_up_self]
        show pushP (shiftP (I (q + 2))) (I (q + 1)) 3 (149 * (3 - i) + k) = csH s H i k
        unfold pushP
        cases i with
        | zero =>
          rw [if_pos (by omega), h1]
          show s (149 * 3 + k - 149 * 3) = s k
          rw [show 149 * 3 + k - 149 * 3 = k by omega]
        | succ j =>
          rw [if_neg (by omega)]
          unfold shiftP
          rw [if_pos (by omega), show 149 * (3 - (j + 1)) + k + 149 = 149 * (4 - 1 - j) + k by omega]
          exact (h4 j (by omega)).1 k hk'
      · have hi : i < 4 := hi
        show csH s H i k = t k
        rw [hk k hk']
        cases i with
        | zero => rfl
        | succ j => exact (h4 j (by omega)).2 k hk'
    · have hn4 : ¬ I q 4 = 4 := fun e => h44 ((nI_eq (b := 4) (by omega) (by omega)).mp (h2.symm.trans e))
      have hm : min (n + 1) 4 = n + 1 := by omega
      rw [chM, if_neg (fun x => x h3), if_neg hn4, h2, tn_nI (by omega), hm]
      refine ⟨va_up_self _ _ _, ?_, ?_, fun i hi => ⟨fun k hk' => ?_, fun k hk' => ?_⟩⟩
      · rw [va_up_ne _ _ (by omega), kst_s, upd_s, nI_1]
      · rw [va_up_ne _ _ (by omega), kst_s, upd_ne (by omega), va_up_ne _ _ (by omega)]; exact h3
      · have hi : i < n + 1 := hi
        rw [va_up_ne _ _ (by omega), kst_n (by omega), va_up_self]
        show pushP (I (q + 2)) (I (q + 1)) n (149 * (n + 1 - 1 - i) + k) = csH s H i k
        unfold pushP
        cases i with
        | zero =>
          rw [if_pos (by omega), h1]
          show s (149 * (n + 1 - 1 - 0) + k - 149 * n) = s k
          rw [show 149 * (n + 1 - 1 - 0) + k - 149 * n = k by omega]
        | succ j =>
          rw [if_neg (by omega), show 149 * (n + 1 - 1 - (j + 1)) + k = 149 * (n - 1 - j) + k by omega]
          exact (h4 j (by omega)).1 k hk'
      · have hi : i < n + 1 := hi
        show csH s H i k = t k
        rw [hk k hk']
        cases i with
        | zero => rfl
        | succ j => exact (h4 j (by omega)).2 k hk'
theorem L_b {g : kG} {σ : kS} {I I1 : kI} {r n0 : Nat} {x : Nat → Nat} {c : kCS} {f : kV} {o : kO} {m : Int} {F : Nat → Nat → Option Nat} (hC : CR I r x c n0 f) (hO : sMq g (σ.1, σ.2.1, F) (r + 102)) (hM : MC I1 (r + 102) c) (hT : MT I1 (r + 102) n0 f) (hok : opG m c.1 o) (hP : PW g σ r I (stC c o) n0 f F I1) : LR g (σ.1, σ.2.1, F) (opM (r + 102) (r + 102 + 1) (r + 102 + 2) I1 o) r := by
  obtain ⟨x', w, cr, -, -⟩ := hP
  refine ⟨x', stC c o, n0, f, w, CR_ext w cr (fun a h1 h2 => opM_o (by omega) (by omega) (by omega)), hO, M_op hM hC.2.2.1.2.1 (fun t ht => (hok o.1 t (by rw [← ht])).2.2), MT_e hT (opM_q (by omega)) (opM_o (by omega) (by omega) (by omega))⟩
theorem L_ls {g : kG} {σ : kS} {I : kI} {r n0 : Nat} {x : Nat → Nat} {c : kCS} {f : kV} {p : Prop} [Decidable p] (hW : sW g σ r x) (hC : CR I r x c n0 f) (hO : sMq g σ (r + 102)) (hM : MC I (r + 102) c) (hT : MT I (r + 102) n0 f) : LR g σ (if p then lsM (r + 102) (r + 102 + 1) (r + 102 + 4) I else I) r := by
  by_cases hp : p
  · rw [if_pos hp]
    unfold lsM
    refine ⟨x, c, n0, f, hW, CR_ext hW hC (fun a h1 h2 => ?_), hO, MC_e hM ?_ ?_ ?_ ?_, MT_e hT ?_ ?_⟩
    · rw [kst_n (by omega), va_up_ne _ _ (by omega)]
    · rw [kst_n (by omega), va_up_ne _ _ (by omega)]
    · rw [kst_n (by omega), va_up_ne _ _ (by omega)]
    · rw [kst_s, upd_ne (by omega), va_up_ne _ _ (by omega)]
    · rw [kst_s, upd_ne (by omega), va_up_ne _ _ (by omega)]
    · rw [kst_s, upd_ne (by omega), va_up_ne _ _ (by omega)]
    · rw [kst_n (by omega), va_up_ne _ _ (by omega)]
  · rw [if_neg hp]
    exact ⟨x, c, n0, f, hW, hC, hO, hM, hT⟩
theorem M_undo {I : kI} {q : Nat} {c : kCS} (h : MC I q c) (hn : c.2.1 ≠ 0) : MC (va_up (kst I q 4 (nI (c.2.1 - 1))) (q + 1) (fun k => if k < 149 then I (q + 2) (149 * (c.2.1 - 1) + k) else I (q + 1) k)) q (unC c) := by
  rw [unC, if_neg hn]
  obtain ⟨s, n, H⟩ := c
  obtain ⟨h1, h2, h3, h4⟩ := h
  dsimp only at h1 h2 h4 hn ⊢
  obtain ⟨p1, p2⟩ := h4 0 (by omega)
  refine ⟨?_, ?_, ?_, fun i hi => ⟨fun k hk' => ?_, fun k hk' => ?_⟩⟩
  · rw [va_up_self]
    funext k
    by_cases hk : k < 149
    · rw [if_pos hk]; exact p1 k hk
    · rw [if_neg hk, h1]; exact (p2 k (by omega)).symm
  · rw [va_up_ne _ _ (by omega), kst_s, upd_s]
  · rw [va_up_ne _ _ (by omega), kst_s, upd_ne (by omega)]; exact h3
  · have hi : i < n - 1 := hi
    rw [va_up_ne _ _ (by omega), kst_n (by omega)]
    show I (q + 2) (149 * (n - 1 - 1 - i) + k) = H (i + 1) k
    rw [show n - 1 - 1 - i = n - 1 - (i + 1) by omega]
    exact (h4 (i + 1) (by omega)).1 k hk'
  · have hi : i < n - 1 := hi
    show H (i + 1) k = H 0 k
    rw [(h4 (i + 1) (by omega)).2 k hk', p2 k hk']
theorem L_un {g : kG} {σ : kS} {I I1 : kI} {r n0 : Nat} {c : kCS} {f : kV} {F : Nat → Nat → Option Nat} (hO : sMq g (σ.1, σ.2.1, F) (r + 102)) (hM : MC I1 (r + 102) c) (hT : MT I1 (r + 102) n0 f) (hP : PW g σ r I (unC c) n0 f F I1) : LR g (σ.1, σ.2.1, F) (if c.2.1 = 0 then I1 else va_up (kst I1 (r + 102) 4 (nI (c.2.1 - 1))) (r + 102 + 1) (fun k => if k < 149 then I1 (r + 102 + 2) (149 * (c.2.1 - 1) + k) else I1 (r + 102 + 1) k)) r := by
  obtain ⟨x', w, cr, -, -⟩ := hP
  by_cases hn : c.2.1 = 0
  · rw [if_pos hn]
    rw [unC, if_pos hn] at cr
    exact ⟨x', c, n0, f, w, cr, hO, hM, hT⟩
  · rw [if_neg hn]
    refine ⟨x', unC c, n0, f, w, CR_ext w cr (fun a h1 h2 => ?_), hO, M_undo hM hn, MT_e hT ?_ ?_⟩
    · rw [va_up_ne _ _ (by omega), kst_n (by omega)]
    · rw [va_up_ne _ _ (by omega), kst_s, upd_ne (by omega)]
    · rw [va_up_ne _ _ (by omega), kst_n (by omega)]
theorem L_ty {g : kG} {σ : kS} {J : kI} {r n0 : Nat} {x : Nat → Nat} {c : kCS} {f : kV} {y : Int32} (hW : sW g σ r x) (hC : CR J r x c (tyN n0 y) (tyF n0 f y)) (hO : sMq g σ (r + 102)) (hM : MC J (r + 102) c) (hT : MT J (r + 102) n0 f) : LR g σ (if 32 ≤ y ∧ y ≤ 126 ∧ ¬ n0 = 60 then kst (kst J (r + 102 + 5) n0 y) (r + 102) 7 (nI (n0 + 1)) else J) r := by
  refine ⟨x, c, tyN n0 y, tyF n0 f y, hW, ?_⟩
  unfold tyN tyF at hC ⊢
  by_cases hp : 32 ≤ y ∧ y ≤ 126 ∧ ¬ n0 = 60
  · rw [if_pos hp, if_pos hp] at hC
    rw [if_pos hp, if_pos hp, if_pos hp]
    refine ⟨CR_ext hW hC (fun a h1 h2 => ?_), hO, MC_e hM ?_ ?_ ?_ ?_, ?_, fun k hk => ?_⟩
    · rw [kst_n (by omega), kst_n (by omega)]
    · rw [kst_n (by omega), kst_n (by omega)]
    · rw [kst_n (by omega), kst_n (by omega)]
    · rw [kst_s, upd_ne (by omega), kst_n (by omega)]
    · rw [kst_s, upd_ne (by omega), kst_n (by omega)]
    · rw [kst_s, upd_s]
    · rw [kst_n (by omega), kst_s]
      by_cases e : k = n0
      · rw [e, upd_s, upd_s]
      · rw [upd_ne e, upd_ne e]; exact hT.2 k (by omega)
  · rw [if_neg hp, if_neg hp] at hC
    rw [if_neg hp, if_neg hp, if_neg hp]
    exact ⟨hC, hO, hM, hT⟩
theorem L_cl {g : kG} {σ : kS} {J : kI} {r n0 : Nat} {x : Nat → Nat} {c : kCS} {f : kV} (hW : sW g σ r x) (hC : CR J r x c 0 f) (hO : sMq g σ (r + 102)) (hM : MC J (r + 102) c) : LR g σ (kst J (r + 102) 7 0) r := by
  refine ⟨x, c, 0, f, hW, CR_ext hW hC (fun a h1 h2 => kst_n (by omega)), hO, MC_e hM (kst_n (by omega)) (kst_n (by omega)) ?_ ?_, ?_, fun k hk => absurd hk (by omega)⟩
  · rw [kst_s, upd_ne (by omega)]
  · rw [kst_s, upd_ne (by omega)]
  · rw [kst_s, upd_s]; rfl
theorem L_fa {g : kG} {σ : kS} {I J : kI} {r n0 : Nat} {x : Nat → Nat} {c : kCS} {f : kV} (hW : sW g σ r x) (hC : CR I r x c n0 f) (hO : sMq g σ (r + 102)) (hM : MC I (r + 102) c) (hT : MT I (r + 102) n0 f) (fa : ∀ z, z ≠ r + 102 → z ≠ r + 102 + 3 → z ≠ r + 102 + 6 → J z = I z) (fb : ∀ k, k = 4 ∨ k = 7 → J (r + 102) k = I (r + 102) k) (fc : J (r + 102) 5 = 0) : LR g σ J r :=
  ⟨x, c, n0, f, hW, CR_ext hW hC (fun a h1 h2 => fa a (by omega) (by omega) (by omega)), hO, MC_e hM (fa _ (by omega) (by omega) (by omega)) (fa _ (by omega) (by omega) (by omega)) (fb 4 (by omega)) (fc.trans hM.2.2.1.symm), MT_e hT (fb 7 (by omega)) (fa _ (by omega) (by omega) (by omega))⟩
theorem pl_k {tx : kV} {n : Nat} : ∀ (f p : Nat) (s : kV) (c : Nat) {t : kV} {m : Nat}, KI s → pl tx n f p s c = (none, t, m) → ∀ k, 149 ≤ k → t k = s k
  | 0, p, s, c, t, m, _, h => by
    rw [pl] at h
    cases h
    exact fun _ _ => rfl
  | f + 1, p, s, c, t, m, hK, h => by
    by_cases hp : p < n
    · rw [pl, if_pos hp] at h
      cases hz : ps tx n p with
      | none => rw [hz] at h; cases h
      | some z =>
        rw [hz] at h
        simp only at h
        cases hq : cmO s z.1 z.2.1 z.2.2.1 with
        | mk y w =>
          rw [hq] at h
          cases w with
          | none => cases h
          | some w =>
            obtain ⟨-, k1, k2⟩ := (KI_closed s hK).2 _ _ _ _ _ hq
            exact fun k hk => (pl_k f _ _ _ k1 h k hk).trans (k2 k hk)
    · rw [pl, if_neg hp] at h
      cases h
      exact fun _ _ => rfl
theorem L_pl {g : kG} {σ : kS} {I I1 J : kI} {r n0 : Nat} {x : Nat → Nat} {c : kCS} {f : kV} {F : Nat → Nat → Option Nat} (hC : CR I r x c n0 f) (hO : sMq g (σ.1, σ.2.1, F) (r + 102)) (hM : MC I1 (r + 102) c) (hT : MT I1 (r + 102) n0 f) (hP : PW g σ r I (plS c (pl f n0 61 0 c.1 0)) n0 f F I1) (hR : plR (r + 102) (r + 102 + 1) (r + 102 + 2) (r + 102 + 3) (r + 102 + 6) I1 (pl f n0 61 0 c.1 0) J) : LR g (σ.1, σ.2.1, F) J r := by
  obtain ⟨x', w, cr, -, -⟩ := hP
  obtain ⟨⟨fo, s2, nn⟩, hz⟩ : ∃ z, z = pl f n0 61 0 c.1 0 := ⟨_, rfl⟩
  rw [← hz] at cr hR
  cases fo with
  | some p =>
    obtain ⟨fa, fb, fc⟩ := hR
    exact L_fa w cr hO hM hT fa fb fc
  | none =>
    obtain ⟨fa, f7, f5, ja, K, k1, k2, k4, k5, j1, j4⟩ := hR
    have hMK : MC K (r + 102) c := MC_e hM k1 k2 k4 (k5.trans hM.2.2.1.symm)
    have hs := pl_k 61 0 c.1 0 hC.2.1 hz.symm
    obtain ⟨m1, m2, m3, m4⟩ := M_op (o := ((0 : Int32), some s2)) hMK hC.2.2.1.2.1 (fun t ht => by cases ht; exact hs)
    have e2 : opM (r + 102) (r + 102 + 1) (r + 102 + 2) K ((0 : Int32), some s2) (r + 102 + 2) = J (r + 102 + 2) := by
      show va_up (chM (r + 102) (r + 102 + 1) (r + 102 + 2) K) (r + 102 + 1) s2 (r + 102 + 2) = _
      rw [va_up_ne _ _ (by omega)]; exact j1.symm
    have e4 : opM (r + 102) (r + 102 + 1) (r + 102 + 2) K ((0 : Int32), some s2) (r + 102) 4 = J (r + 102) 4 := by
      show va_up (chM (r + 102) (r + 102 + 1) (r + 102 + 2) K) (r + 102 + 1) s2 (r + 102) 4 = _
      rw [va_up_ne _ _ (by omega)]; exact j4.symm
    rw [e2] at m4
    rw [e4] at m2
    exact ⟨x', plS c (none, s2, nn), n0, f, w, CR_ext w cr (fun a h1 h2 => fa a (by omega) (by omega) (by omega) (by omega) (by omega)), hO, ⟨ja, m2, f5, m4⟩, MT_e hT f7 (fa _ (by omega) (by omega) (by omega) (by omega) (by omega))⟩
