def fdN (t : kV) (x : Int32) : kV := if feed1 t x 70 = 0 then popL (feed1 t x) else feed1 t x
theorem SX_fdN {t : kV} (hS : SX t) (hL : 0 < nLo t) (x : Int32) : SX (fdN t x) := by
  unfold fdN
  split
  · exact SX_pop (SX_feed1 hS hL x) (by rw [feed1_nLo hS hL]; exact hL)
  · exact SX_feed1 hS hL x
theorem fdN_0 {t : kV} (hS : SX t) (hL : 0 < nLo t) (x : Int32) : fdN t x 0 = t 0 := by
  unfold fdN
  split
  · rw [popL_f (SX_feed1 hS hL x) (by simp [tkF]), feed1_f hS hL x (by simp [tkF])]
  · rw [feed1_f hS hL x (by simp [tkF])]
theorem feedL_step {t : kV} {n : Nat} {l : Int32} (h0 : 0 < l) (h1 : 0 < t 13) : feedL (n + 1) l t = feedL n (l - mn (t 70) l) (fdN t (mn (t 70) l)) := by
  rw [feedL, if_pos ⟨h0, h1⟩]
  unfold fdN
  split <;> rfl
theorem feed_step {J K K2 : kI} {p z : Nat} {t : kV} {x : Int32} (hS : SX t) (hL : 0 < nLo t) (hR : PR J p t) (hz : PRz J p t z) (eK : K = kst (kst J (p + 5) (z * 4 + tn (t 69)) (J (p + 5) (z * 4 + tn (t 69)) + x)) (p + 4) 2 (J (p + 4) 2 + x))
    (hK : (∀ b, b ≠ p + 1 → b ≠ p + 2 → b ≠ p + 3 → K2 b = K b) ∧ (¬ K (p + 3) 0 - x = 0 → K2 = kst K (p + 3) 0 (K (p + 3) 0 - x)) ∧ (K (p + 3) 0 - x = 0 → K2 (p + 1) = upd (K (p + 1)) 2 (K (p + 1) 2 - 1) ∧ (∀ j, j < 5 → K2 (p + 2) j = K (p + 2) (j + 1)) ∧ ∀ j, j < 5 → K2 (p + 3) j = K (p + 3) (j + 1))) : frP p J K2 ∧ PR K2 p (fdN t x) := by
  obtain ⟨f1, f2⟩ := feed1_k hS hL
  obtain ⟨l1, l2, l3⟩ := SX_L hS
  obtain ⟨k1, k2, k3⟩ := hK
  have e4 : K (p + 4) = upd (J (p + 4)) 2 (J (p + 4) 2 + x) := by rw [eK, kst_s, kst_n (by omega)]
  have e5 : K (p + 5) = upd (J (p + 5)) ((z + 0) % 12 * 4 + tn (t 69)) (J (p + 5) ((z + 0) % 12 * 4 + tn (t 69)) + x) := by
    have z12 := hz.1
    rw [eK, kst_n (by omega), kst_s, show (z + 0) % 12 = z by omega]
  have eo : ∀ a, a ≠ p + 4 → a ≠ p + 5 → K a = J a := fun a h1 h2 => by rw [eK, kst_n h1, kst_n h2]
  have hz1 := PRz_add hz (by omega) f1 e4 e5
  have hR1 : PR K p (upd t (21 + 4 * 0 + tn (t 69)) (t (21 + 4 * 0 + tn (t 69)) + x)) := PR_only_b hR hS (fun a h => eo a (by omega) (by omega)) (fun k h => upd_ne (by simp only [ib_] at h; omega)) ⟨z, hz1⟩
  have hS1 : SX (upd t (21 + 4 * 0 + tn (t 69)) (t (21 + 4 * 0 + tn (t 69)) + x)) := SX_upd hS (by simp only [sxI]; omega)
  have q3 : K (p + 3) 0 = t 70 := by
    rw [eo _ (by omega) (by omega)]; exact (hR.1.2.2 0 hL).2
  have q70 : feed1 t x 70 = t 70 - x := by unfold feed1; rw [upd_s]
  have ef : feed1 t x = upd (upd t (21 + 4 * 0 + tn (t 69)) (t (21 + 4 * 0 + tn (t 69)) + x)) 70 (t 70 - x) := rfl
  have n1 := feed1_nLo hS hL x
  have ee : ∀ k, k = 9 ∨ k = 13 ∨ (69 ≤ k ∧ k ≠ 70) → feed1 t x k = t k := fun k hk => by rw [ef, upd_ne (by omega), upd_ne (by omega)]
  refine ⟨fun b hb => (k1 b (by omega) (by omega) (by omega)).trans (eo b (by omega) (by omega)), ?_⟩
  refine PR_only_h hR1 hS1 (fun a h => k1 a (by omega) (by omega) (by omega)) (fun k h => ?_) ?_
  · simp only [ih_] at h
    unfold fdN
    split
    · unfold popL
      rw [n1, if_neg (by omega), if_neg (by omega), ef, upd_ne (by omega)]
    · rw [ef, upd_ne (by omega)]
  · obtain ⟨h1, h2, h3⟩ := hR.1
    by_cases c : t 70 - x = 0
    · obtain ⟨m1, m2, m3⟩ := k3 (by rw [q3]; exact c)
      have ed : fdN t x = popL (feed1 t x) := by unfold fdN; rw [if_pos (by rw [q70]; exact c)]
      rw [ed]
      refine ⟨?_, ?_, fun k hk => ?_⟩
      · rw [m1, upd_s, eo _ (by omega) (by omega), h1, popL_13, ee 13 (by omega)]
      · rw [m1, upd_ne (by omega), eo _ (by omega) (by omega), h2, popL, if_neg (by omega), if_neg (by omega), ee 9 (by omega)]
      · rw [popL_nLo (SX_feed1 hS hL x) (by omega), n1] at hk
        obtain ⟨g1, g2⟩ := h3 (k + 1) (by omega)
        refine ⟨?_, ?_⟩
        · rw [m2 k (by omega), eo _ (by omega) (by omega), g1, popL, n1, if_pos (by omega), ee _ (by omega)]; rfl
        · rw [m3 k (by omega), eo _ (by omega) (by omega), g2, popL, n1, if_pos (by omega), ee _ (by omega)]; rfl
    · have m := k2 (by rw [q3]; exact c)
      have ed : fdN t x = feed1 t x := by unfold fdN; rw [if_neg (by rw [q70]; exact c)]
      rw [ed]
      refine ⟨?_, ?_, fun k hk => ?_⟩
      · rw [m, kst_n (by omega), eo _ (by omega) (by omega), h1, ee 13 (by omega)]
      · rw [m, kst_n (by omega), eo _ (by omega) (by omega), h2, ee 9 (by omega)]
      · rw [n1] at hk
        obtain ⟨g1, g2⟩ := h3 k hk
        refine ⟨?_, ?_⟩
        · rw [m, kst_n (by omega), eo _ (by omega) (by omega), g1, ee _ (by omega)]
        · by_cases hk0 : k = 0
          · rw [m, kst_s, hk0, upd_s, q3]; exact q70.symm
          · rw [m, kst_s, upd_ne hk0, eo _ (by omega) (by omega), g2, ee _ (by omega)]
theorem spill_step {J K : kI} {p z k : Nat} {t : kV} {x : Int32} (hS : SX t) (hk : k < 4) (hR : PR J p t) (hz : PRz J p t z) (e4 : K (p + 4) = upd (J (p + 4)) 2 (J (p + 4) 2 - x)) (e5 : K (p + 5) = upd (J (p + 5)) ((z + 0) % 12 * 4 + k) (J (p + 5) ((z + 0) % 12 * 4 + k) - x)) (e0 : K p = upd (J p) 13 (J p 13 + x)) (eo : ∀ a, a ≠ p → a ≠ p + 4 → a ≠ p + 5 → K a = J a) : frP p J K ∧ PR K p (upd (upd t (21 + k) (t (21 + k) - x)) 10 (t 10 + x)) := by
  obtain ⟨rh, rb, rn, rs, ra, rt, rp⟩ := hR
  have hz1 : PRz K p (upd t (21 + k) (t (21 + k) - x)) z := by
    have h := PRz_add (J' := K) (d := -x) hz (show 0 < 12 by omega) hk (by rw [e4, Int32.sub_eq_add_neg]) (by rw [e5, Int32.sub_eq_add_neg])
    rw [Int32.sub_eq_add_neg]; exact h
  have el : ∀ k', ¬ ib_ k' → ¬ k' = 10 → upd (upd t (21 + k) (t (21 + k) - x)) 10 (t 10 + x) k' = t k' := fun k' h1 h2 => by simp only [ib_] at h1; rw [upd_ne h2, upd_ne (by omega)]
  refine ⟨fun b hb => eo b (by omega) (by omega) (by omega), ?_, ⟨z, PRz_c hz1 rfl rfl (fun k' x1 x2 => upd_ne (by omega))⟩, ?_, ?_, ?_, ?_, ?_⟩
  · exact PRh_c rh (eo _ (by omega) (by omega) (by omega)) (eo _ (by omega) (by omega) (by omega)) (eo _ (by omega) (by omega) (by omega)) (fun k' hk' => el k' (by simp only [ib_]; omega) (by omega)) (SX_L hS).1
  · exact PRn_c rn (eo _ (by omega) (by omega) (by omega)) (eo _ (by omega) (by omega) (by omega)) (eo _ (by omega) (by omega) (by omega)) (eo _ (by omega) (by omega) (by omega)) (fun k' hk' => el k' (by simp only [ib_]; omega) (by omega))
  · exact PRs_c rs (eo _ (by omega) (by omega) (by omega)) (fun k' x1 x2 => el k' (by simp only [ib_]; omega) (by omega))
  · exact PRa_c ra (eo _ (by omega) (by omega) (by omega)) (eo _ (by omega) (by omega) (by omega)) (eo _ (by omega) (by omega) (by omega)) (eo _ (by omega) (by omega) (by omega)) (fun k' hk' => el k' (by simp only [ib_]; omega) (by omega))
  · exact PRt_c rt (eo _ (by omega) (by omega) (by omega)) (fun k' x1 x2 => el k' (by simp only [ib_]; omega) (by omega))
  · obtain ⟨g1, g2, g3, g4, g5, g6, g7, g8, g9, g10⟩ := rp
    have e' : ∀ k', k' < 21 → ¬ k' = 10 → upd (upd t (21 + k) (t (21 + k) - x)) 10 (t 10 + x) k' = t k' := fun k' h1 h2 => el k' (by simp only [ib_]; omega) h2
    rw [PRp, e0, e' 0 (by omega) (by omega), e' 1 (by omega) (by omega), e' 2 (by omega) (by omega), e' 8 (by omega) (by omega), e' 11 (by omega) (by omega), e' 15 (by omega) (by omega), e' 16 (by omega) (by omega), e' 17 (by omega) (by omega), upd_s]
    simp only [upd]
    exact ⟨g1, g2, g3, g4, g5, g6, g7, g8, by simp [g9], g10⟩
theorem goOn_rel {J : kI} {p z : Nat} {t : kV} (hS : SX t) (hR : PR J p (zr 4 t)) (hz : PRz J p (zr 4 t) z) : PR (kst J (p + 4) 1 (nI ((z + 11) % 12))) p (shiftS t) := by
  have hS' : SX (zr 4 t) := SX_congr hS (fun k hk => zr_k (by simp only [sxI] at hk; omega))
  refine PR_only_b hR hS' (fun a h => kst_n (by omega)) (fun k h => ?_) ⟨(z + 11) % 12, by omega, by rw [kst_s, upd_s], fun π κ hπ hκ => ?_, ?_⟩
  · simp only [ib_] at h
    unfold shiftS
    rw [if_neg (by omega), if_neg (by omega), zr_k (by omega)]
  · obtain ⟨z1, z2, z3, z4⟩ := hz
    rw [kst_n (by omega)]
    by_cases h0 : π = 0
    · subst h0
      rw [show ((z + 11) % 12 + 0) % 12 = (z + 11) % 12 by omega, z3 11 κ (by omega) hκ]
      show zr 4 t (65 + κ) = _
      unfold zr shiftS
      rw [if_pos (by omega), if_neg (by omega), if_pos (by omega)]
    · rw [show ((z + 11) % 12 + π) % 12 = (z + (π - 1)) % 12 by omega, z3 (π - 1) κ (by omega) hκ, zr_k (by omega)]
      unfold shiftS
      rw [if_pos (by omega)]
      congr 1; omega
  · obtain ⟨z1, z2, z3, z4⟩ := hz
    rw [kst_s, upd_ne (by omega), z4, show (48 : Nat) = 44 + 4 from rfl, sm_add]
    have e1 : sm (zr 4 t) (21 + 44) 4 = 0 := by simp [sm, zr]
    have e2 : sm (shiftS t) 21 (44 + 4) = sm (shiftS t) 21 4 + sm (shiftS t) 25 44 := sm_add _ _ 4 44
    have e3 : sm (shiftS t) 21 4 = 0 := by simp [sm, shiftS]
    rw [e1, e2, e3, Int32.add_zero, Int32.zero_add]
    exact sm_cong (fun k hk => by
      rw [zr_k (by omega)]; unfold shiftS
      rw [if_pos (by omega)]; congr 1; omega)
theorem readS_rel {J K : kI} {p : Nat} {t : kV} (hS : SX t) (hR : PR J p t) (v : Int32) (hv : v = rdg t + t 6) (e10 : K (p + 10) = upd (upd (J (p + 10)) 3 (v - v / 4 * 4)) 2 (J (p + 10) 2 + v / 4)) (e8 : K (p + 8) = if nB t = 0 then J (p + 8) else upd (J (p + 8)) (nB t - 1) (J (p + 8) (nB t - 1) + v / 4)) (eo : ∀ a, a ≠ p + 8 → a ≠ p + 10 → K a = J a) : frP p J K ∧ PR K p (readS t) := by
  obtain ⟨rh, rb, rn, rs, ra, rt, rp⟩ := hR
  obtain ⟨b1, b2⟩ := SX_B hS
  have el : ∀ k, ¬ is_ k → ¬ in_ k → readS t k = t k := fun k h1 h2 => by
    simp only [is_, in_] at h1 h2
    unfold readS reads1
    split
    · rw [upd_ne (by omega), upd_ne (by omega)]
    · rw [upd_ne (by omega), upd_ne (by omega), upd_ne (by omega)]
  have e12 : readS t 12 = t 12 := readS_k hS (by simp [tkF])
  have eB : nB (readS t) = nB t := by rw [nB, e12, nB]
  have ei : ∀ k, k < 81 → k ≠ 5 → k ≠ 6 → readS t k = t k := fun k h1 h2 h3 => by
    unfold readS reads1
    split
    · rw [upd_ne h3, upd_ne h2]
    · rw [upd_ne (by omega), upd_ne h3, upd_ne h2]
  have er : readS t 5 = t 5 + v / 4 ∧ readS t 6 = v - v / 4 * 4 := by
    unfold readS reads1
    rw [← hv]
    split
    · exact ⟨by rw [upd_ne (by omega), upd_s], by rw [upd_s]⟩
    · exact ⟨by rw [upd_ne (by omega), upd_ne (by omega), upd_s], by rw [upd_ne (by omega), upd_s]⟩
  have eg : ∀ k, 81 ≤ k → readS t k = if k = 85 + 6 * (nB t - 1) ∧ nB t ≠ 0 then t k + v / 4 else t k := fun k hk => by
    unfold readS reads1
    rw [← hv]
    by_cases h0 : nB t = 0
    · rw [if_pos h0, upd_ne (by omega), upd_ne (by omega), if_neg (fun q => q.2 h0)]
    · rw [if_neg h0]
      by_cases hk2 : k = 85 + 6 * (nB t - 1)
      · rw [if_pos ⟨hk2, h0⟩, hk2, upd_s]
      · rw [if_neg (fun q => hk2 q.1), upd_ne hk2, upd_ne (by omega), upd_ne (by omega)]
  refine ⟨fun b hb => eo b (by omega) (by omega), ?_, ?_, ?_, ?_, ?_, ?_, ?_⟩
  · exact PRh_c rh (eo _ (by omega) (by omega)) (eo _ (by omega) (by omega)) (eo _ (by omega) (by omega)) (fun k hk => el k (by simp only [is_]; omega) (by simp only [in_]; omega)) (SX_L hS).1
  · exact PRb_c rb (eo _ (by omega) (by omega)) (eo _ (by omega) (by omega)) (fun k h1 h2 => el k (by simp only [is_]; omega) (by simp only [in_]; omega))
  · obtain ⟨n1, n2, n3, n4⟩ := rn
    refine ⟨by rw [eo _ (by omega) (by omega), n1, e12], fun b κ' hb hκ' => ?_, fun b hb => ?_, fun b hb => ?_⟩
    · rw [eo _ (by omega) (by omega), n2 b κ' hb hκ', eB, eg _ (by omega), if_neg (show ¬ (81 + 6 * b + κ' = 85 + 6 * (nB t - 1) ∧ nB t ≠ 0) by omega)]
    · rw [e8, eB, eg _ (by omega)]
      by_cases h0 : nB t = 0
      · rw [if_pos h0, n3 b hb, if_neg (by omega), if_neg (by omega)]
      · rw [if_neg h0]
        by_cases hb2 : b = nB t - 1
        · rw [hb2, upd_s, if_pos (show nB t - 1 < nB t by omega), if_pos ⟨rfl, h0⟩, n3 _ (by omega), if_pos (by omega)]
        · rw [upd_ne hb2, n3 b hb, if_neg (show ¬ (85 + 6 * b = 85 + 6 * (nB t - 1) ∧ nB t ≠ 0) by omega)]
    · rw [eo _ (by omega) (by omega), n4 b hb, eB, eg _ (by omega), if_neg (show ¬ (86 + 6 * b = 85 + 6 * (nB t - 1) ∧ nB t ≠ 0) by omega)]
  · obtain ⟨h1, h2, h3, h4, h5⟩ := rs
    rw [PRs, e10, ei 3 (by omega) (by omega) (by omega), ei 4 (by omega) (by omega) (by omega), ei 7 (by omega) (by omega) (by omega), er.1, er.2]
    simp [upd, h1, h2, h3, h5]
  · exact PRa_c ra (eo _ (by omega) (by omega)) (eo _ (by omega) (by omega)) (eo _ (by omega) (by omega)) (eo _ (by omega) (by omega)) (fun k hk => el k (by simp only [is_]; omega) (by simp only [in_]; omega))
  · exact PRt_c rt (eo _ (by omega) (by omega)) (fun k h1 h2 => el k (by simp only [is_]; omega) (by simp only [in_]; omega))
  · exact PRp_c rp (eo _ (by omega) (by omega)) (fun k hk => ei k (by omega) (by omega) (by omega))
set_option maxHeartbeats 4000000 in
set_option maxRecDepth 100000 in
theorem c_Plant_feed {g : kG} {σ : kS} {I : kI} {p : Nat} {s : kV} (hP : sPlant g σ p) (hR : PR I p s) (hS : SX s)  : ct g mX6_feed ⟨1, 0, 0, 22⟩ [.ref p] σ I (qEV σ (fun I1 => frP p I I1 ∧ PR I1 p (feedL 6 (s 0) s))) := by
  refine ct_of pn6 rfl (Nat.le_of_ble_eq_true rfl) ok_X6_feed.1 trivial ?_
  show wp _ _ _ _ _ _ _ _ 0 [some (.ref p), none, none, none] []
  have hRR := hR
  obtain ⟨rh, rb, rn, rs, ra, rt, rp⟩ := hR
  refine w_aload_0 (pc := 0) dX6_feed_0 ?_
  refine w_getI (pc := 1) kc6 6 (sP_in0 hP) (sP_s0 hP) rfl t179 dX6_feed_1 ?_
  refine w_istore_1 (pc := 4) dX6_feed_4 rfl ?_
  refine w_iconst (pc := 5) (v := 0) dX6_feed_5 (by decide) ?_
  refine w_istore_2 (pc := 6) dX6_feed_6 rfl ?_
  have L0 : ∀ (m i : Nat) (l zi : Int32) (t : kV) (J : kI), i ≤ 6 → 7 ≤ i + m → zi = nI i → SX t → frP p I J → PR J p t → feedL (6 - i) l t = (feedL 6 (s 0) s) → wp g mX6_feed ⟨1, 0, 0, 22⟩ (fun _ => True) (qEV σ (fun I1 => frP p I I1 ∧ PR I1 p (feedL 6 (s 0) s))) (0, 0) σ J 7 [some (.ref p), some (.int l), some (.int zi), none] [] := by
    intro m
    induction m with
    | zero => intro i l zi t J h1 h2; exact absurd h2 (by omega)
    | succ m ih =>
      intro i l zi t J h1 h2 hz hST hF hT hfe
      refine w_iload_2 (pc := 7) dX6_feed_7 ?_
      refine w_bipush (pc := 8) (v := 6) dX6_feed_8 (by decide) ?_
      refine w_icmp_ge (pc := 10) (tgt := 76) dX6_feed_10 (by decide) (fun c10 => ?_) (fun c10 => ?_)
      · have hi : 6 ≤ i := (nx_cmp (x := 6) (a := 6) rfl (by omega) hz (by omega)).1.mp c10
        have hft : t = (feedL 6 (s 0) s) := by rw [← hfe, show 6 - i = 0 by omega]; rfl
        refine w_vret (pc := 76) rfl ⟨Nat.le_refl _, Nat.le_refl _⟩ dX6_feed_76 ?_
        refine ⟨rfl, rfl, hF, ?_⟩
        rw [← hft]; exact hT
      · have hi : i < 6 := (nx_cmp hz (by omega) (y := 6) (b := 6) rfl (by omega)).2.1.mp (Int32.not_le.mp c10)
        obtain ⟨n, hn⟩ : ∃ n, 6 - i = n + 1 := ⟨5 - i, by omega⟩
        refine w_iload_1 (pc := 13) dX6_feed_13 ?_
        refine w_if_le (pc := 14) (tgt := 76) dX6_feed_14 (by decide) (fun c14 => ?_) (fun c14 => ?_)
        · have hft : t = (feedL 6 (s 0) s) := by rw [← hfe, hn, feedL, if_neg (fun h => absurd h.1 (Int32.not_lt.mpr c14))]
          refine w_vret (pc := 76) rfl ⟨Nat.le_refl _, Nat.le_refl _⟩ dX6_feed_76 ?_
          refine ⟨rfl, rfl, hF, ?_⟩
          rw [← hft]; exact hT
        · refine w_aload_0 (pc := 17) dX6_feed_17 ?_
          refine w_getR (pc := 18) (b := p + 1) kc6 0 (sP_in0 hP) (sP_s0 hP) rfl (sP_r0_0 hP) t167 dX6_feed_18 ?_
          refine w_getI (pc := 21) kc5 2 (sP_in hP (k := 1) (by decide)) (sP_s1 hP) rfl t47 dX6_feed_21 ?_
          refine w_if_le (pc := 24) (tgt := 76) dX6_feed_24 (by decide) (fun c24 => ?_) (fun c24 => ?_)
          · have hft : t = (feedL 6 (s 0) s) := by rw [← hfe, hn, feedL, if_neg (fun h => absurd h.2 (Int32.not_lt.mpr (by rw [← hT.1.1]; exact c24)))]
            refine w_vret (pc := 76) rfl ⟨Nat.le_refl _, Nat.le_refl _⟩ dX6_feed_76 ?_
            refine ⟨rfl, rfl, hF, ?_⟩
            rw [← hft]; exact hT
          · have h0l : 0 < l := Int32.not_le.mp c14
            have h0t : 0 < t 13 := by rw [← hT.1.1]; exact Int32.not_le.mp c24
            have hL := (lots_pos hST).mp h0t
            obtain ⟨f1, f2⟩ := feed1_k hST hL
            obtain ⟨l1, l2, l3⟩ := SX_L hST
            obtain ⟨y1, y2⟩ := hT.1.2.2 0 hL
            obtain ⟨z, hzz⟩ := hT.2.1
            refine w_iload_1 (pc := 27) dX6_feed_27 ?_
            refine w_aload_0 (pc := 28) dX6_feed_28 ?_
            refine w_getR (pc := 29) (b := p + 1) kc6 0 (sP_in0 hP) (sP_s0 hP) rfl (sP_r0_0 hP) t167 dX6_feed_29 ?_
            refine w_getR (pc := 32) (b := p + 3) kc5 1 (sP_in hP (k := 1) (by decide)) (sP_s1 hP) rfl (sP_r1_1 hP) t44 dX6_feed_32 ?_
            refine w_iconst (pc := 35) (v := 0) dX6_feed_35 (by decide) ?_
            refine w_iald (pc := 36) (j := 0) (sP_in hP (k := 3) (by decide)) (sP_s3 hP) rfl (by decide) (by decide) dX6_feed_36 ?_
            refine w_mmin (pc := 37) t452 t162 t14 t163 ⟨⟨Nat.le_of_ble_eq_true rfl, Nat.le_of_ble_eq_true rfl⟩, Nat.le_refl _, Nat.le_refl _⟩ dX6_feed_37 ?_
            refine w_name (fun x ex => ?_)
            have hx : x = mn (t 70) l := by rw [ex, y2]; rfl
            refine w_istore_3 (pc := 40) dX6_feed_40 rfl ?_
            refine w_aload_0 (pc := 41) dX6_feed_41 ?_
            refine w_getR (pc := 42) (b := p + 4) kc6 1 (sP_in0 hP) (sP_s0 hP) rfl (sP_r0_1 hP) t169 dX6_feed_42 ?_
            refine w_aload_0 (pc := 45) dX6_feed_45 ?_
            refine w_getR (pc := 46) (b := p + 1) kc6 0 (sP_in0 hP) (sP_s0 hP) rfl (sP_r0_0 hP) t167 dX6_feed_46 ?_
            refine w_getR (pc := 49) (b := p + 2) kc5 0 (sP_in hP (k := 1) (by decide)) (sP_s1 hP) rfl (sP_r1_0 hP) t41 dX6_feed_49 ?_
            refine w_iconst (pc := 52) (v := 0) dX6_feed_52 (by decide) ?_
            refine w_iald (pc := 53) (j := 0) (sP_in hP (k := 2) (by decide)) (sP_s2 hP) rfl (by decide) (by decide) dX6_feed_53 ?_
            refine w_iload_3 (pc := 54) dX6_feed_54 ?_
            refine w_callV_V (pc := 55) (c_Belt_putAtStart (sP_Belt hP) hzz.2.1 hzz.1 (κ := tn (t 69)) (y1.trans f2) f1) ok_X1_putAtStart t454 t455 kc1 (sP_in hP (k := 4) (by decide)) (sP_s4 hP) t453 ⟨Nat.le_of_ble_eq_true rfl, Nat.le_of_ble_eq_true rfl⟩ ⟨rfl, rfl⟩ ⟨Nat.le_refl _, Nat.le_refl _⟩ rfl (Nat.le_of_ble_eq_true rfl) dX6_feed_55 ?_
            refine w_aload_0 (pc := 58) dX6_feed_58 ?_
            refine w_getR (pc := 59) (b := p + 1) kc6 0 (sP_in0 hP) (sP_s0 hP) rfl (sP_r0_0 hP) t167 dX6_feed_59 ?_
            refine w_iload_3 (pc := 62) dX6_feed_62 ?_
            refine w_callV_EV (pc := 63) (c_Hop_takeFromFirst (sP_Hop hP)) ok_X5_takeFromFirst t458 t459 kc5 (sP_in hP (k := 1) (by decide)) (sP_s1 hP) t457 ⟨Nat.le_of_ble_eq_true rfl, Nat.le_of_ble_eq_true rfl⟩ ⟨rfl, rfl⟩ ⟨Nat.le_refl _, Nat.le_refl _⟩ rfl (Nat.le_of_ble_eq_true rfl) dX6_feed_63 (fun I63 h63 => ?_)
            refine w_iload_1 (pc := 66) dX6_feed_66 ?_
            refine w_iload_3 (pc := 67) dX6_feed_67 ?_
            refine w_isub (pc := 68) dX6_feed_68 ?_
            refine w_istore_1 (pc := 69) dX6_feed_69 rfl ?_
            refine w_iinc_2 (pc := 70) dX6_feed_70 rfl rfl ?_
            refine w_goto (pc := 73) (tgt := 7) dX6_feed_73 (by decide) ?_
            obtain ⟨r1, r2⟩ := feed_step hST hL hT hzz rfl h63
            refine w_drop 3 ?_
            rw [hn, feedL_step h0l h0t, ← hx] at hfe
            exact ih (i + 1) _ _ _ _ (by omega) (by omega) (by rw [hz]; exact nI_1 i) (SX_fdN hST hL x) (frP_t hF r1) r2 (by rw [show 6 - (i + 1) = n by omega]; exact hfe)
  exact L0 7 0 _ _ s I (by omega) (by omega) rfl hS frP_r hRR (by rw [rp.1])
set_option maxHeartbeats 4000000 in
set_option maxRecDepth 100000 in
theorem c_Plant_spillTooMuch {g : kG} {σ : kS} {I : kI} {p : Nat} {s : kV} (hP : sPlant g σ p) (hR : PR I p s) (hS : SX s)  : ct g mX6_spillTooMuch ⟨1, 0, 0, 24⟩ [.ref p] σ I (qEV σ (fun I1 => frP p I I1 ∧ PR I1 p (spl 4 (sm s 21 4 - s 18) s))) := by
  refine ct_of pn6 rfl (Nat.le_of_ble_eq_true rfl) ok_X6_spillTooMuch.1 trivial ?_
  show wp _ _ _ _ _ _ _ _ 0 [some (.ref p), none, none, none] []
  have hRR := hR
  obtain ⟨rh, rb, rn, rs, ra, rt, rp⟩ := hR
  obtain ⟨z0, hz0⟩ := rb
  refine w_aload_0 (pc := 0) dX6_spillTooMuch_0 ?_
  refine w_getR (pc := 1) (b := p + 4) kc6 1 (sP_in0 hP) (sP_s0 hP) rfl (sP_r0_1 hP) t169 dX6_spillTooMuch_1 ?_
  refine w_iconst (pc := 4) (v := 0) dX6_spillTooMuch_4 (by decide) ?_
  refine w_callV_I (pc := 5) (c_Belt_massOfPlace (sP_Belt hP) hz0.2.1 hz0.1 (π := 0) rfl (by omega)) ok_X1_massOfPlace t321 t322 kc1 (sP_in hP (k := 4) (by decide)) (sP_s4 hP) t465 ⟨Nat.le_of_ble_eq_true rfl, Nat.le_of_ble_eq_true rfl⟩ ⟨rfl, rfl⟩ ⟨Nat.le_refl _, Nat.le_refl _⟩ rfl (Nat.le_of_ble_eq_true rfl) dX6_spillTooMuch_5 ?_
  refine w_aload_0 (pc := 8) dX6_spillTooMuch_8 ?_
  refine w_getR (pc := 9) (b := p + 15) kc6 5 (sP_in0 hP) (sP_s0 hP) rfl (sP_r0_5 hP) t177 dX6_spillTooMuch_9 ?_
  refine w_iconst (pc := 12) (v := 0) dX6_spillTooMuch_12 (by decide) ?_
  refine w_iald (pc := 13) (j := 0) (sP_in hP (k := 15) (by decide)) (sP_s15 hP) rfl (by decide) (by decide) dX6_spillTooMuch_13 ?_
  refine w_isub (pc := 14) dX6_spillTooMuch_14 ?_
  refine w_istore_1 (pc := 15) dX6_spillTooMuch_15 rfl ?_
  refine w_iconst (pc := 16) (v := 3) dX6_spillTooMuch_16 (by decide) ?_
  refine w_istore_2 (pc := 17) dX6_spillTooMuch_17 rfl ?_
  have L0 : ∀ (j k : Nat) (m zk : Int32) (t : kV) (J : kI), k + 1 ≤ j → k ≤ 4 → zk = nI k - 1 → SX t → frP p I J → PR J p t → spl k m t = (spl 4 (sm s 21 4 - s 18) s) → wp g mX6_spillTooMuch ⟨1, 0, 0, 24⟩ (fun _ => True) (qEV σ (fun I1 => frP p I I1 ∧ PR I1 p (spl 4 (sm s 21 4 - s 18) s))) (0, 0) σ J 18 [some (.ref p), some (.int m), some (.int zk), none] [] := by
    intro j
    induction j with
    | zero => intro k m zk t J h1; exact absurd h1 (by omega)
    | succ j ih =>
      intro k m zk t J h1 h2 hz hST hF hT hsp
      refine w_iload_2 (pc := 18) dX6_spillTooMuch_18 ?_
      refine w_if_lt (pc := 19) (tgt := 70) dX6_spillTooMuch_19 (by decide) (fun c19 => ?_) (fun c19 => ?_)
      · have hk0 : k = 0 := by
          rcases Nat.eq_zero_or_pos k with h | h
          · exact h
          · rw [hz, show k = (k - 1) + 1 by omega, nI_pred] at c19; exact absurd c19 (nI_pos (by omega))
        have hft : t = (spl 4 (sm s 21 4 - s 18) s) := by rw [← hsp, hk0]; rfl
        refine w_vret (pc := 70) rfl ⟨Nat.le_refl _, Nat.le_refl _⟩ dX6_spillTooMuch_70 ?_
        refine ⟨rfl, rfl, hF, ?_⟩
        rw [← hft]; exact hT
      · obtain ⟨k, rfl⟩ := kd_pos hz c19
        rw [nI_pred] at hz
        obtain ⟨z, hzz⟩ := hT.2.1
        refine w_iload_1 (pc := 22) dX6_spillTooMuch_22 ?_
        refine w_if_le (pc := 23) (tgt := 70) dX6_spillTooMuch_23 (by decide) (fun c23 => ?_) (fun c23 => ?_)
        · have hft : t = (spl 4 (sm s 21 4 - s 18) s) := by rw [← hsp, spl, if_neg (Int32.not_lt.mpr c23)]
          refine w_vret (pc := 70) rfl ⟨Nat.le_refl _, Nat.le_refl _⟩ dX6_spillTooMuch_70 ?_
          refine ⟨rfl, rfl, hF, ?_⟩
          rw [← hft]; exact hT
        · refine w_iload_1 (pc := 26) dX6_spillTooMuch_26 ?_
          refine w_aload_0 (pc := 27) dX6_spillTooMuch_27 ?_
          refine w_getR (pc := 28) (b := p + 4) kc6 1 (sP_in0 hP) (sP_s0 hP) rfl (sP_r0_1 hP) t169 dX6_spillTooMuch_28 ?_
          refine w_iconst (pc := 31) (v := 0) dX6_spillTooMuch_31 (by decide) ?_
          refine w_iload_2 (pc := 32) dX6_spillTooMuch_32 ?_
          refine w_callV_I (pc := 33) (c_Belt_mass (sP_Belt hP) hzz.2.1 hzz.1 (π := 0) rfl (by omega) hz (by omega)) ok_X1_mass t325 t326 kc1 (sP_in hP (k := 4) (by decide)) (sP_s4 hP) t427 ⟨Nat.le_of_ble_eq_true rfl, Nat.le_of_ble_eq_true rfl⟩ ⟨rfl, rfl⟩ ⟨Nat.le_refl _, Nat.le_refl _⟩ rfl (Nat.le_of_ble_eq_true rfl) dX6_spillTooMuch_33 ?_
          refine w_mmin (pc := 36) t452 t162 t14 t163 ⟨⟨Nat.le_of_ble_eq_true rfl, Nat.le_of_ble_eq_true rfl⟩, Nat.le_refl _, Nat.le_refl _⟩ dX6_spillTooMuch_36 ?_
          rw [hzz.2.2.1 0 k (by omega) (by omega)]
          refine w_name (fun x ex => ?_)
          have hx : x = mn (t (21 + k)) m := ex
          refine w_istore_3 (pc := 39) dX6_spillTooMuch_39 rfl ?_
          refine w_aload_0 (pc := 40) dX6_spillTooMuch_40 ?_
          refine w_getR (pc := 41) (b := p + 4) kc6 1 (sP_in0 hP) (sP_s0 hP) rfl (sP_r0_1 hP) t169 dX6_spillTooMuch_41 ?_
          refine w_iconst (pc := 44) (v := 0) dX6_spillTooMuch_44 (by decide) ?_
          refine w_iload_2 (pc := 45) dX6_spillTooMuch_45 ?_
          refine w_iload_3 (pc := 46) dX6_spillTooMuch_46 ?_
          refine w_callV_V (pc := 47) (c_Belt_take (sP_Belt hP) hzz.2.1 hzz.1 (π := 0) rfl (by omega) hz (by omega)) ok_X1_take t429 t430 kc1 (sP_in hP (k := 4) (by decide)) (sP_s4 hP) t428 ⟨Nat.le_of_ble_eq_true rfl, Nat.le_of_ble_eq_true rfl⟩ ⟨rfl, rfl⟩ ⟨Nat.le_refl _, Nat.le_refl _⟩ rfl (Nat.le_of_ble_eq_true rfl) dX6_spillTooMuch_47 ?_
          refine w_aload_0 (pc := 50) dX6_spillTooMuch_50 ?_
          refine w_dup_a (pc := 51) dX6_spillTooMuch_51 ?_
          refine w_getI (pc := 52) kc6 13 (sP_in0 hP) (sP_s0 hP) rfl t192 dX6_spillTooMuch_52 ?_
          refine w_iload_3 (pc := 55) dX6_spillTooMuch_55 ?_
          refine w_iadd (pc := 56) dX6_spillTooMuch_56 ?_
          refine w_putI (pc := 57) kc6 13 (sP_in0 hP) (sP_s0 hP) rfl t192 rfl (tyX6_ok 13 (by decide)) rfl rfl dX6_spillTooMuch_57 ?_
          refine w_iload_1 (pc := 60) dX6_spillTooMuch_60 ?_
          refine w_iload_3 (pc := 61) dX6_spillTooMuch_61 ?_
          refine w_isub (pc := 62) dX6_spillTooMuch_62 ?_
          refine w_istore_1 (pc := 63) dX6_spillTooMuch_63 rfl ?_
          refine w_iinc_2 (pc := 64) dX6_spillTooMuch_64 rfl rfl ?_
          refine w_goto (pc := 67) (tgt := 18) dX6_spillTooMuch_67 (by decide) ?_
          obtain ⟨r1, r2⟩ := spill_step (k := k) (z := z) (K := kst (kst (kst J (p + 5) ((z + 0) % 12 * 4 + k) (J (p + 5) ((z + 0) % 12 * 4 + k) - x)) (p + 4) 2 (J (p + 4) 2 - x)) p 13 (kst (kst J (p + 5) ((z + 0) % 12 * 4 + k) (J (p + 5) ((z + 0) % 12 * 4 + k) - x)) (p + 4) 2 (J (p + 4) 2 - x) p 13 + x)) hST (by omega) hT hzz (x := x) (by simp [kst, va_up]) (by simp [kst, va_up]) (by simp [kst, va_up]) (fun a x0 x1 x2 => by simp [kst, va_up, x0, x1, x2])
          refine w_drop 3 ?_
          rw [spl, if_pos (Int32.not_le.mp c23), ← hx] at hsp
          exact ih k _ _ _ _ (by omega) (by omega) (by rw [hz]; exact x_m1 _) (SX_upd (SX_upd hST (by simp only [sxI]; omega)) (by simp [sxI])) (frP_t hF r1) r2 hsp
  refine L0 5 4 _ _ s I (by omega) (by omega) (by decide) hS frP_r hRR ?_
  rw [place_eq hz0.2.2.1 (by omega), rt 0 (by omega)]
set_option maxHeartbeats 4000000 in
set_option maxRecDepth 100000 in
theorem c_Plant_wantsMore {g : kG} {σ : kS} {I : kI} {p : Nat} {s : kV} (hP : sPlant g σ p) (hR : PR I p s) (hS : SX s)  : ct g mX6_wantsMore ⟨0, 0, 0, 0⟩ [.ref p] σ I (qI (if sm s 21 48 + I p 10 < s 15 ∧ 0 < s 13 then 1 else 0) σ I) := by
  refine ct_of pn6 rfl (Nat.le_of_ble_eq_true rfl) ok_X6_wantsMore.1 trivial ?_
  show wp _ _ _ _ _ _ _ _ 0 [some (.ref p)] []
  obtain ⟨rh, ⟨z, hz⟩, rn, rs, ra, rt, rp⟩ := hR
  refine w_aload_0 (pc := 0) dX6_wantsMore_0 ?_
  refine w_getR (pc := 1) (b := p + 4) kc6 1 (sP_in0 hP) (sP_s0 hP) rfl (sP_r0_1 hP) t169 dX6_wantsMore_1 ?_
  refine w_getI (pc := 4) kc1 2 (sP_in hP (k := 4) (by decide)) (sP_s4 hP) rfl t70 dX6_wantsMore_4 ?_
  refine w_aload_0 (pc := 7) dX6_wantsMore_7 ?_
  refine w_getI (pc := 8) kc6 10 (sP_in0 hP) (sP_s0 hP) rfl t187 dX6_wantsMore_8 ?_
  refine w_iadd (pc := 11) dX6_wantsMore_11 ?_
  refine w_aload_0 (pc := 12) dX6_wantsMore_12 ?_
  refine w_getI (pc := 13) kc6 8 (sP_in0 hP) (sP_s0 hP) rfl t183 dX6_wantsMore_13 ?_
  refine w_icmp_ge (pc := 16) (tgt := 33) dX6_wantsMore_16 (by decide) (fun c16 => ?_) (fun c16 => ?_)
  · refine w_iconst (pc := 33) (v := 0) dX6_wantsMore_33 (by decide) ?_
    refine w_zret (pc := 34) rfl (by decide) ⟨Nat.le_refl _, Nat.le_refl _⟩ dX6_wantsMore_34 ?_
    refine ⟨?_, rfl, rfl⟩
    rw [if_neg (fun h => absurd h.1 (Int32.not_lt.mpr (by rw [← hz.2.2.2, ← rp.2.2.1]; exact c16)))]
  · refine w_aload_0 (pc := 19) dX6_wantsMore_19 ?_
    refine w_getR (pc := 20) (b := p + 1) kc6 0 (sP_in0 hP) (sP_s0 hP) rfl (sP_r0_0 hP) t167 dX6_wantsMore_20 ?_
    refine w_getI (pc := 23) kc5 2 (sP_in hP (k := 1) (by decide)) (sP_s1 hP) rfl t47 dX6_wantsMore_23 ?_
    refine w_if_le (pc := 26) (tgt := 33) dX6_wantsMore_26 (by decide) (fun c26 => ?_) (fun c26 => ?_)
    · refine w_iconst (pc := 33) (v := 0) dX6_wantsMore_33 (by decide) ?_
      refine w_zret (pc := 34) rfl (by decide) ⟨Nat.le_refl _, Nat.le_refl _⟩ dX6_wantsMore_34 ?_
      refine ⟨?_, rfl, rfl⟩
      rw [if_neg (fun h => absurd h.2 (Int32.not_lt.mpr (by rw [← rh.1]; exact c26)))]
    · refine w_iconst (pc := 29) (v := 1) dX6_wantsMore_29 (by decide) ?_
      refine w_goto (pc := 30) (tgt := 34) dX6_wantsMore_30 (by decide) ?_
      refine w_zret (pc := 34) rfl (by decide) ⟨Nat.le_refl _, Nat.le_refl _⟩ dX6_wantsMore_34 ?_
      refine ⟨?_, rfl, rfl⟩
      rw [if_pos ⟨by rw [← hz.2.2.2, ← rp.2.2.1]; exact Int32.not_le.mp c16, by rw [← rh.1]; exact Int32.not_le.mp c26⟩]
set_option maxHeartbeats 4000000 in
set_option maxRecDepth 100000 in
theorem c_Plant_endBatch {g : kG} {σ : kS} {I : kI} {p : Nat} (hP : sPlant g σ p)  : ct g mX6_endBatch ⟨0, 0, 0, 0⟩ [.ref p] σ I (qV σ (kst (kst I p 8 0) p 9 0)) := by
  refine ct_of pn6 rfl (Nat.le_of_ble_eq_true rfl) ok_X6_endBatch.1 trivial ?_
  show wp _ _ _ _ _ _ _ _ 0 [some (.ref p)] []
  refine w_aload_0 (pc := 0) dX6_endBatch_0 ?_
  refine w_iconst (pc := 1) (v := 0) dX6_endBatch_1 (by decide) ?_
  refine w_putI (pc := 2) kc6 8 (sP_in0 hP) (sP_s0 hP) rfl t183 rfl (tyX6_ok 8 (by decide)) rfl rfl dX6_endBatch_2 ?_
  refine w_aload_0 (pc := 5) dX6_endBatch_5 ?_
  refine w_iconst (pc := 6) (v := 0) dX6_endBatch_6 (by decide) ?_
  refine w_putI (pc := 7) kc6 9 (sP_in0 hP) (sP_s0 hP) rfl t185 rfl (tyX6_ok 9 (by decide)) (by decide) (by decide) dX6_endBatch_7 ?_
  refine w_vret (pc := 10) rfl ⟨Nat.le_refl _, Nat.le_refl _⟩ dX6_endBatch_10 ?_
  exact ⟨rfl, rfl, rfl⟩

