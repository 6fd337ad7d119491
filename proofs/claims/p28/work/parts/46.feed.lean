theorem feedL_stop {n : Nat} {l : Int32} {t : kV} (h : ¬ (0 < l ∧ 0 < t 13)) : feedL n l t = t := by
  cases n with
  | zero => rfl
  | succ n => rw [feedL, if_neg h]
theorem mn_hi {x l : Int32} (h : ¬ l < x) : mn x l = x := by
  unfold mn
  by_cases c : x < l
  · rw [if_pos c]
  · rw [if_neg c]; exact Int32.le_antisymm (Int32.not_lt.mp c) (Int32.not_lt.mp h)
theorem mn_lo {x l : Int32} (h : l < x) : mn x l = l := by
  unfold mn
  rw [if_neg (Int32.not_lt.mpr (Int32.le_of_lt h))]
theorem fdN_pop {t : kV} : fdN t (t 70) = popL (feed1 t (t 70)) := by
  unfold fdN
  rw [if_pos (by unfold feed1; rw [upd_s, Int32.sub_self])]
theorem fdN_part {t : kV} {l : Int32} (h : l < t 70) : fdN t l = feed1 t l := by
  unfold fdN
  rw [if_neg (by
    unfold feed1; rw [upd_s]
    intro e
    have : t 70 = l := by
      have h2 : t 70 - l + l = 0 + l := by rw [e]
      rw [Int32.sub_add_cancel, Int32.zero_add] at h2; exact h2
    rw [this] at h; exact Int32.lt_irrefl h)]
theorem feed1_e {t : kV} {x : Int32} {k : Nat} (h1 : k ≠ 70) (h2 : k ≠ 21 + tn (t 69)) : feed1 t x k = t k := by
  unfold feed1; rw [upd_ne h1, upd_ne h2]
theorem feedpop_rel {J K : kI} {q : Nat} {t : kV} (hD : DRo J q t) (hS : SX t) (hL : 0 < nLo t) (e0 : K q = upd (J q) 13 (J q 13 - 1)) (e1 : K (q + 1) = upd (J (q + 1)) (tn (t 69)) (J (q + 1) (tn (t 69)) + t 70)) (e2 : ∀ k, k < 10 → K (q + 2) k = J (q + 2) (k + 2)) (e3 : K (q + 3) = J (q + 3)) (e4 : K (q + 4) = J (q + 4)) : DRo K q (fdN t (t 70)) := by
  rw [fdN_pop]
  obtain ⟨d1, d2, d3, d4, d5⟩ := hD
  obtain ⟨f1, f2⟩ := feed1_k hS hL
  obtain ⟨l1, l2, l3⟩ := SX_L hS
  have S1 := SX_feed1 hS hL (t 70)
  have n1 := feed1_nLo hS hL (t 70)
  have hl : nLo (popL (feed1 t (t 70))) = nLo t - 1 := by rw [popL_nLo S1 (by omega), n1]
  have pe : ∀ k, k ≠ 13 → (k < 69 ∨ 81 ≤ k) → popL (feed1 t (t 70)) k = feed1 t (t 70) k := fun k h1 h2 => by
    unfold popL; rw [n1, if_neg (by omega), if_neg h1]
  refine ⟨fun k hk => ?_, fun k hk => ?_, fun k hk => ?_, fun k hk => ?_, fun k hk => ?_⟩
  · rw [e0, upd_at]
    by_cases h : k = 13
    · subst h; rw [if_pos rfl, popL_13, feed1_e (by omega) (by omega), d1 13 (by omega)]
    · rw [if_neg h, pe k h (by omega), feed1_e (by omega) (by omega)]; exact d1 k hk
  · rw [e1, upd_at, pe _ (by omega) (by omega)]
    by_cases h : k = tn (t 69)
    · subst h; rw [if_pos rfl, feed1, upd_ne (by omega), upd_s, d2 _ hk]
    · rw [if_neg h, feed1_e (by omega) (by omega)]; exact d2 k hk
  · rw [hl] at hk
    rw [e2 k (by omega), d3 (k + 2) (by omega), popL, n1, if_pos (by omega), feed1_e (by omega) (by omega)]
    congr 1
  · rw [e3, pe _ (by omega) (by omega), feed1_e (by omega) (by omega)]; exact d4 k hk
  · rw [e4, pe _ (by omega) (by omega), feed1_e (by omega) (by omega)]; exact d5 k hk
theorem feedpart_rel {J : kI} {q : Nat} {t : kV} {l : Int32} (hD : DRo J q t) (hS : SX t) (hL : 0 < nLo t) (hl : l < t 70) : DRo (kst (kst J (q + 1) (tn (t 69)) (J (q + 1) (tn (t 69)) + l)) (q + 2) 1 (J (q + 2) 1 - l)) q (fdN t l) := by
  rw [fdN_part hl]
  obtain ⟨f1, f2⟩ := feed1_k hS hL
  obtain ⟨l1, l2, l3⟩ := SX_L hS
  have h1 : J (q + 1) (tn (t 69)) = t (21 + tn (t 69)) := hD.2.1 _ (by omega)
  have h2 : J (q + 2) 1 = t 70 := hD.2.2.1 1 (by omega)
  have a := DR_b (x := J (q + 1) (tn (t 69)) + l) hD (k := tn (t 69)) (by omega)
  have b : DRm _ q _ _ := DRm_h (x := J (q + 2) 1 - l) a (by rw [nLo_u (by omega)]; omega) (k := 1) (by omega)
  rw [h1, h2] at b
  rw [DRo, feed1_nLo hS hL]
  rw [nLo_u (by omega)] at b
  rw [h1, h2]
  exact b
theorem sh2_0 {I : kI} {b : Nat} : va_up I b (fun k => if k < 0 then I b (k + 2) else I b k) = I := by
  funext a
  by_cases h : a = b
  · subst h; rw [va_up_self]; funext k; rw [if_neg (Nat.not_lt_zero k)]
  · rw [va_up_ne _ _ h]
theorem sh2_step {I : kI} {b i : Nat} : kst (va_up I b (fun k => if k < i then I b (k + 2) else I b k)) b i (va_up I b (fun k => if k < i then I b (k + 2) else I b k) b (i + 2)) = va_up I b (fun k => if k < i + 1 then I b (k + 2) else I b k) := by
  rw [kst_va]
  congr 1
  funext k
  rw [va_up_self]
  by_cases h : k = i
  · subst h; rw [upd_s, if_neg (by omega), if_pos (by omega)]
  · rw [upd_ne h]
    by_cases h2 : k < i
    · rw [if_pos h2, if_pos (by omega)]
    · rw [if_neg h2, if_neg (by omega)]
theorem i32_a (a b x : Int32) : a - x + b = a + b - x := by
  rw [Int32.sub_eq_add_neg, Int32.sub_eq_add_neg, nx_addc]
theorem sm_sub {s : kV} {a j : Nat} {x : Int32} : ∀ {n : Nat}, j < n → sm (upd s (a + j) (s (a + j) - x)) a n = sm s a n - x
  | 0, h => absurd h (by omega)
  | n + 1, h => by
    rw [sm_succ, sm_succ]
    by_cases e : j = n
    · subst e
      rw [upd_s, sm_cong (f := upd s (a + j) (s (a + j) - x)) (g := s) (b := a) (fun k hk => upd_ne (by omega)), Int32.sub_eq_add_neg, Int32.sub_eq_add_neg, Int32.add_assoc]
    · rw [sm_sub (by omega : j < n), upd_ne (by omega), i32_a]
theorem spl_stop {n : Nat} {m : Int32} {s : kV} (h : ¬ 0 < m) : spl n m s = s := by
  cases n with
  | zero => rfl
  | succ n => rw [spl, if_neg h]
theorem spill_law {k : Nat} {t : kV} {m v w : Int32} (hm : m = sm t 21 4 - t 18) (hk : k < 4) (hv : v = if m < t (21 + k) then m else t (21 + k)) (hw : w = if 0 < v then v else 0) (hn : 0 ≤ t (21 + k)) : spl (k + 1) m t = spl k (sm (upd (upd t (21 + k) (t (21 + k) - w)) 10 (t 10 + w)) 21 4 - upd (upd t (21 + k) (t (21 + k) - w)) 10 (t 10 + w) 18) (upd (upd t (21 + k) (t (21 + k) - w)) 10 (t 10 + w)) := by
  have e18 : upd (upd t (21 + k) (t (21 + k) - w)) 10 (t 10 + w) 18 = t 18 := by rw [upd_ne (by omega), upd_ne (by omega)]
  have esm : sm (upd (upd t (21 + k) (t (21 + k) - w)) 10 (t 10 + w)) 21 4 = sm t 21 4 - w := by
    rw [sm_cong (f := upd (upd t (21 + k) (t (21 + k) - w)) 10 (t 10 + w)) (g := upd t (21 + k) (t (21 + k) - w)) (b := 21) (fun j hj => upd_ne (by omega))]
    exact sm_sub hk
  rw [e18, esm]
  by_cases c : 0 < m
  · have e : mn (t (21 + k)) m = w := by
      by_cases c2 : m < t (21 + k)
      · rw [if_pos c2] at hv
        rw [mn_lo c2, hw, hv, if_pos c]
      · rw [if_neg c2] at hv
        rw [mn_hi c2, hw, hv]
        by_cases c3 : 0 < t (21 + k)
        · rw [if_pos c3]
        · rw [if_neg c3]; exact Int32.le_antisymm (Int32.not_lt.mp c3) hn
    rw [spl, if_pos c, e, hm]
    congr 1
    rw [Int32.sub_eq_add_neg, Int32.sub_eq_add_neg, Int32.sub_eq_add_neg, Int32.sub_eq_add_neg, nx_addc]
  · have e : w = 0 := by
      rw [hw, if_neg]
      intro h
      by_cases c2 : m < t (21 + k)
      · rw [if_pos c2] at hv; rw [hv] at h; exact c h
      · rw [if_neg c2] at hv; rw [hv] at h; exact c (Int32.lt_of_lt_of_le h (Int32.not_lt.mp c2))
    rw [spl_stop c, e, Int32.sub_zero, Int32.sub_zero, Int32.add_zero, upd_self, upd_self, ← hm, spl_stop c]
set_option maxHeartbeats 4000000 in
set_option maxRecDepth 100000 in
theorem c_L_feed {g : kG} {σ : kS} {I : kI} {q : Nat} {s : kV} {T : Int} (hL : sL g σ q) (hD : DRo I q s) (hS : SX s) (hN : NB T s) (hT0 : T ≤ 2000000000) (h0 : 0 ≤ (s 0).toInt) (h1 : (s 0).toInt ≤ 200) : ct g mL_feed ⟨1, 0, 0, 24⟩ [.ref q, .ref (q + 1), .ref (q + 2)] σ I (qEV σ (fun J => frL q I J ∧ DRo J q (feeds s))) := by
  refine ct_of pnL rfl (Nat.le_of_ble_eq_true rfl) ok_L_feed.1 trivial ?_
  show wp _ _ _ _ _ _ _ _ 0 [some (.ref q), some (.ref (q + 1)), some (.ref (q + 2)), none, none, none, none] []
  have SF := SX_feedL 6 (s 0) hS
  have NF := NB_feedL 6 (l := s 0) hN hS h0 (by omega)
  have J97 : ∀ (J : kI), frL q I J → DRo J q (feedL 6 (s 0) s) → wp g mL_feed ⟨1, 0, 0, 24⟩ (fun _ => True) (qEV σ (fun J => frL q I J ∧ DRo J q (feeds s))) (0, 0) σ J 97 [some (.ref q), some (.ref (q + 1)), some (.ref (q + 2)), none, none, none, none] [] := by
    intro J hF hT
    refine w_iconst (pc := 97) (v := 3) dL_feed_97 (by decide) ?_
    refine w_istore_4 (pc := 98) dL_feed_98 rfl ?_
    have L2 : ∀ (j k : Nat) (zk : Int32) (t : kV) (J : kI), k + 1 ≤ j → k ≤ 4 → zk = nI k - 1 → frL q I J → DRo J q t → (∀ i, i < k → 0 ≤ t (21 + i)) → spl k (sm t 21 4 - t 18) t = feeds s → wp g mL_feed ⟨1, 0, 0, 24⟩ (fun _ => True) (qEV σ (fun J => frL q I J ∧ DRo J q (feeds s))) (0, 0) σ J 100 [some (.ref q), some (.ref (q + 1)), some (.ref (q + 2)), none, some (.int zk), none, none] [] := by
      intro j
      induction j with
      | zero => intro k zk t J h1; exact absurd h1 (by omega)
      | succ j ih =>
        intro k zk t J h1 h2 hz hF hT hn hsp
        refine w_iload_4 (pc := 100) dL_feed_100 ?_
        refine w_if_lt (pc := 102) (tgt := 180) dL_feed_102 (by decide) (fun c102 => ?_) (fun c102 => ?_)
        · have hk0 : k = 0 := by
            rcases Nat.eq_zero_or_pos k with h | h
            · exact h
            · rw [hz, show k = (k - 1) + 1 by omega, nI_pred] at c102; exact absurd c102 (nI_pos (by omega))
          have hft : t = feeds s := by rw [← hsp, hk0]; rfl
          refine w_vret (pc := 180) rfl ⟨Nat.le_refl _, Nat.le_refl _⟩ dL_feed_180 ?_
          refine ⟨rfl, rfl, hF, ?_⟩
          rw [← hft]; exact hT
        · obtain ⟨k, rfl⟩ := kd_pos hz c102
          rw [nI_pred] at hz
          refine w_aload_1 (pc := 105) dL_feed_105 ?_
          refine w_iconst (pc := 106) (v := 0) dL_feed_106 (by decide) ?_
          refine w_iconst (pc := 107) (v := 0) dL_feed_107 (by decide) ?_
          refine w_callS_I (pc := 108) (c_L_mass (f := 0) (t := 0) (sL_in hL (k := 1) (by decide)) hL.2.2.1 rfl rfl (by omega) (by omega)) ok_L_mass t371 t370 ⟨Nat.le_of_ble_eq_true rfl, Nat.le_of_ble_eq_true rfl⟩ ⟨rfl, rfl⟩ ⟨Nat.le_refl _, Nat.le_refl _⟩ rfl (Nat.le_of_ble_eq_true rfl) dL_feed_108 ?_
          rw [ms_0 hT]
          refine w_aload_0 (pc := 111) dL_feed_111 ?_
          refine w_bipush (pc := 112) (v := 18) dL_feed_112 (by decide) ?_
          refine w_iald (pc := 114) (j := 18) (sL_in0 hL) hL.2.1 rfl (by decide) (by decide) dL_feed_114 ?_
          refine w_isub (pc := 115) dL_feed_115 ?_
          rw [hT.1 18 (by omega)]
          refine w_name (fun m hm => ?_)
          refine w_istore_5 (pc := 116) dL_feed_116 rfl ?_
          have hmt : m = sm t 21 4 - t 18 := hm
          have hb : J (q + 1) k = t (21 + k) := hT.2.1 k (by omega)
          have J136 : ∀ (v : Int32), v = (if m < t (21 + k) then m else t (21 + k)) → wp g mL_feed ⟨1, 0, 0, 24⟩ (fun _ => True) (qEV σ (fun J => frL q I J ∧ DRo J q (feeds s))) (0, 0) σ J 136 [some (.ref q), some (.ref (q + 1)), some (.ref (q + 2)), none, some (.int zk), some (.int m), none] [.int v] := by
            intro v hv
            refine w_istore_6 (pc := 136) dL_feed_136 rfl ?_
            refine w_aload_1 (pc := 138) dL_feed_138 ?_
            refine w_iload_4 (pc := 139) dL_feed_139 ?_
            refine w_dup2 (pc := 141) dL_feed_141 ?_
            refine w_iald (pc := 142) (j := k) (sL_in hL (k := 1) (by decide)) hL.2.2.1 hz (by omega) (by decide) dL_feed_142 ?_
            have J154 : ∀ (w : Int32), w = (if 0 < v then v else 0) → wp g mL_feed ⟨1, 0, 0, 24⟩ (fun _ => True) (qEV σ (fun J => frL q I J ∧ DRo J q (feeds s))) (0, 0) σ J 154 [some (.ref q), some (.ref (q + 1)), some (.ref (q + 2)), none, some (.int zk), some (.int m), some (.int v)] [.int w, .int (J (q + 1) k), .int zk, .ref (q + 1)] := by
              intro w hw
              refine w_isub (pc := 154) dL_feed_154 ?_
              refine w_iast (pc := 155) (j := k) (sL_in hL (k := 1) (by decide)) hL.2.2.1 hz (by omega) (by decide) dL_feed_155 ?_
              refine w_aload_0 (pc := 156) dL_feed_156 ?_
              refine w_bipush (pc := 157) (v := 10) dL_feed_157 (by decide) ?_
              refine w_dup2 (pc := 159) dL_feed_159 ?_
              refine w_iald (pc := 160) (j := 10) (sL_in0 hL) hL.2.1 rfl (by decide) (by decide) dL_feed_160 ?_
              have J172 : ∀ (u : Int32), u = w → wp g mL_feed ⟨1, 0, 0, 24⟩ (fun _ => True) (qEV σ (fun J => frL q I J ∧ DRo J q (feeds s))) (0, 0) σ (kst J (q + 1) k (J (q + 1) k - w)) 172 [some (.ref q), some (.ref (q + 1)), some (.ref (q + 2)), none, some (.int zk), some (.int m), some (.int v)] [.int u, .int (kst J (q + 1) k (J (q + 1) k - w) q 10), .int 10, .ref q] := by
                intro u hu
                subst hu
                refine w_iadd (pc := 172) dL_feed_172 ?_
                refine w_iast (pc := 173) (j := 10) (sL_in0 hL) hL.2.1 rfl (by decide) (by decide) dL_feed_173 ?_
                refine w_iinc_4 (pc := 174) dL_feed_174 rfl rfl ?_
                refine w_goto (pc := 177) (tgt := 100) dL_feed_177 (by decide) ?_
                rw [← hmt, spill_law hmt (by omega) hv hw (hn k (by omega))] at hsp
                refine w_drop 5 ?_
                refine w_drop 6 ?_
                refine ih k _ _ _ (by omega) (by omega) (by rw [hz]; exact x_m1 _) (frL_k (frL_k hF (by omega)) (by omega)) ?_ (fun i hi => by rw [upd_ne (by omega), upd_ne (by omega)]; exact hn i (by omega)) hsp
                have e10 : kst J (q + 1) k (J (q + 1) k - u) q 10 = t 10 := by rw [kst_n (by omega)]; exact hT.1 10 (by omega)
                rw [e10, hb]
                exact DR_g (DR_b hT (by omega)) (by omega) (by omega)
              refine w_iload_6 (pc := 161) dL_feed_161 ?_
              refine w_if_le (pc := 163) (tgt := 171) dL_feed_163 (by decide) (fun c163 => ?_) (fun c163 => ?_)
              · refine w_iconst (pc := 171) (v := 0) dL_feed_171 (by decide) ?_
                exact J172 _ (by rw [hw, if_neg (Int32.not_lt.mpr c163)])
              · refine w_iload_6 (pc := 166) dL_feed_166 ?_
                refine w_goto (pc := 168) (tgt := 172) dL_feed_168 (by decide) ?_
                exact J172 _ (by rw [hw, if_pos (Int32.not_le.mp c163)])
            refine w_iload_6 (pc := 143) dL_feed_143 ?_
            refine w_if_le (pc := 145) (tgt := 153) dL_feed_145 (by decide) (fun c145 => ?_) (fun c145 => ?_)
            · refine w_iconst (pc := 153) (v := 0) dL_feed_153 (by decide) ?_
              exact J154 _ (by rw [if_neg (Int32.not_lt.mpr c145)])
            · refine w_iload_6 (pc := 148) dL_feed_148 ?_
              refine w_goto (pc := 150) (tgt := 154) dL_feed_150 (by decide) ?_
              exact J154 _ (by rw [if_pos (Int32.not_le.mp c145)])
          refine w_iload_5 (pc := 118) dL_feed_118 ?_
          refine w_aload_1 (pc := 120) dL_feed_120 ?_
          refine w_iload_4 (pc := 121) dL_feed_121 ?_
          refine w_iald (pc := 123) (j := k) (sL_in hL (k := 1) (by decide)) hL.2.2.1 hz (by omega) (by decide) dL_feed_123 ?_
          refine w_icmp_ge (pc := 124) (tgt := 132) dL_feed_124 (by decide) (fun c124 => ?_) (fun c124 => ?_)
          · refine w_aload_1 (pc := 132) dL_feed_132 ?_
            refine w_iload_4 (pc := 133) dL_feed_133 ?_
            refine w_iald (pc := 135) (j := k) (sL_in hL (k := 1) (by decide)) hL.2.2.1 hz (by omega) (by decide) dL_feed_135 ?_
            exact J136 _ (by rw [if_neg (by rw [← hb]; exact Int32.not_lt.mpr c124)]; exact hb)
          · refine w_iload_5 (pc := 127) dL_feed_127 ?_
            refine w_goto (pc := 129) (tgt := 136) dL_feed_129 (by decide) ?_
            exact J136 _ (by rw [if_pos (by rw [← hb]; exact Int32.not_le.mp c124)])
    refine L2 5 4 _ _ _ (by omega) (by omega) (by decide) hF hT (fun i hi => ?_) rfl
    rw [ti_le, ti_0]
    exact NF.1 i (by omega)
  refine w_aload_0 (pc := 0) dL_feed_0 ?_
  refine w_iconst (pc := 1) (v := 0) dL_feed_1 (by decide) ?_
  refine w_iald (pc := 2) (j := 0) (sL_in0 hL) hL.2.1 rfl (by decide) (by decide) dL_feed_2 ?_
  refine w_istore_3 (pc := 3) dL_feed_3 rfl ?_
  have L0 : ∀ (m n : Nat) (l : Int32) (t : kV) (J : kI), n + 1 ≤ m → SX t → frL q I J → DRo J q t → feedL n l t = (feedL 6 (s 0) s) → (nLo t ≤ n ∨ ¬ 0 < l) → wp g mL_feed ⟨1, 0, 0, 24⟩ (fun _ => True) (qEV σ (fun J => frL q I J ∧ DRo J q (feeds s))) (0, 0) σ J 4 [some (.ref q), some (.ref (q + 1)), some (.ref (q + 2)), some (.int l), none, none, none] [] := by
    intro m
    induction m with
    | zero => intro n l t J h1; exact absurd h1 (by omega)
    | succ m ih =>
      intro n l t J h1 hST hF hT hfe hfu
      refine w_iload_3 (pc := 4) dL_feed_4 ?_
      refine w_if_le (pc := 5) (tgt := 97) dL_feed_5 (by decide) (fun c5 => ?_) (fun c5 => ?_)
      · have hft : t = (feedL 6 (s 0) s) := by rw [← hfe, feedL_stop (fun h => absurd h.1 (Int32.not_lt.mpr c5))]
        refine w_drop 3 ?_
        refine w_drop 4 ?_
        exact J97 _ hF (by rw [← hft]; exact hT)
      · refine w_aload_0 (pc := 8) dL_feed_8 ?_
        refine w_bipush (pc := 9) (v := 13) dL_feed_9 (by decide) ?_
        refine w_iald (pc := 11) (j := 13) (sL_in0 hL) hL.2.1 rfl (by decide) (by decide) dL_feed_11 ?_
        refine w_if_le (pc := 12) (tgt := 97) dL_feed_12 (by decide) (fun c12 => ?_) (fun c12 => ?_)
        · have hft : t = (feedL 6 (s 0) s) := by rw [← hfe, feedL_stop (fun h => absurd h.2 (Int32.not_lt.mpr (by rw [← hT.1 13 (by omega)]; exact c12)))]
          refine w_drop 3 ?_
          refine w_drop 4 ?_
          exact J97 _ hF (by rw [← hft]; exact hT)
        · have h0l : 0 < l := Int32.not_le.mp c5
          have h0t : 0 < t 13 := by rw [← hT.1 13 (by omega)]; exact Int32.not_le.mp c12
          have hLp := (lots_pos hST).mp h0t
          obtain ⟨f1, f2⟩ := feed1_k hST hLp
          obtain ⟨l1, l2, l3⟩ := SX_L hST
          have y1 : J (q + 2) 0 = t 69 := hT.2.2.1 0 (by omega)
          have y2 : J (q + 2) 1 = t 70 := hT.2.2.1 1 (by omega)
          refine w_aload_2 (pc := 15) dL_feed_15 ?_
          refine w_iconst (pc := 16) (v := 1) dL_feed_16 (by decide) ?_
          refine w_iald (pc := 17) (j := 1) (sL_in hL (k := 2) (by decide)) hL.2.2.2.1 rfl (by decide) (by decide) dL_feed_17 ?_
          refine w_iload_3 (pc := 18) dL_feed_18 ?_
          refine w_icmp_gt (pc := 19) (tgt := 76) dL_feed_19 (by decide) (fun c19 => ?_) (fun c19 => ?_)
          · refine w_aload_1 (pc := 76) dL_feed_76 ?_
            refine w_aload_2 (pc := 77) dL_feed_77 ?_
            refine w_iconst (pc := 78) (v := 0) dL_feed_78 (by decide) ?_
            refine w_iald (pc := 79) (j := 0) (sL_in hL (k := 2) (by decide)) hL.2.2.2.1 rfl (by decide) (by decide) dL_feed_79 ?_
            refine w_dup2 (pc := 80) dL_feed_80 ?_
            refine w_iald (pc := 81) (j := tn (t 69)) (sL_in hL (k := 1) (by decide)) hL.2.2.1 (y1.trans f2) (by omega) (by decide) dL_feed_81 ?_
            refine w_iload_3 (pc := 82) dL_feed_82 ?_
            refine w_iadd (pc := 83) dL_feed_83 ?_
            refine w_iast (pc := 84) (j := tn (t 69)) (sL_in hL (k := 1) (by decide)) hL.2.2.1 (y1.trans f2) (by omega) (by decide) dL_feed_84 ?_
            refine w_aload_2 (pc := 85) dL_feed_85 ?_
            refine w_iconst (pc := 86) (v := 1) dL_feed_86 (by decide) ?_
            refine w_dup2 (pc := 87) dL_feed_87 ?_
            refine w_iald (pc := 88) (j := 1) (sL_in hL (k := 2) (by decide)) hL.2.2.2.1 rfl (by decide) (by decide) dL_feed_88 ?_
            refine w_iload_3 (pc := 89) dL_feed_89 ?_
            refine w_isub (pc := 90) dL_feed_90 ?_
            refine w_iast (pc := 91) (j := 1) (sL_in hL (k := 2) (by decide)) hL.2.2.2.1 rfl (by decide) (by decide) dL_feed_91 ?_
            refine w_iconst (pc := 92) (v := 0) dL_feed_92 (by decide) ?_
            refine w_istore_3 (pc := 93) dL_feed_93 rfl ?_
            refine w_goto (pc := 94) (tgt := 4) dL_feed_94 (by decide) ?_
            obtain ⟨n', rfl⟩ : ∃ n', n = n' + 1 := ⟨n - 1, by have := hfu.resolve_right (fun h => h h0l); omega⟩
            rw [feedL_step h0l h0t, mn_lo (by rw [← y2]; exact c19), Int32.sub_self] at hfe
            exact ih n' _ _ _ (by omega) (SX_fdN hST hLp l) (frL_k (frL_k hF (by omega)) (by omega)) (by have := feedpart_rel hT hST hLp (l := l) (by rw [← y2]; exact c19); rw [kst_n (by omega)]; exact this) hfe (Or.inr (by decide))
          · refine w_aload_1 (pc := 22) dL_feed_22 ?_
            refine w_aload_2 (pc := 23) dL_feed_23 ?_
            refine w_iconst (pc := 24) (v := 0) dL_feed_24 (by decide) ?_
            refine w_iald (pc := 25) (j := 0) (sL_in hL (k := 2) (by decide)) hL.2.2.2.1 rfl (by decide) (by decide) dL_feed_25 ?_
            refine w_dup2 (pc := 26) dL_feed_26 ?_
            refine w_iald (pc := 27) (j := tn (t 69)) (sL_in hL (k := 1) (by decide)) hL.2.2.1 (y1.trans f2) (by omega) (by decide) dL_feed_27 ?_
            refine w_aload_2 (pc := 28) dL_feed_28 ?_
            refine w_iconst (pc := 29) (v := 1) dL_feed_29 (by decide) ?_
            refine w_iald (pc := 30) (j := 1) (sL_in hL (k := 2) (by decide)) hL.2.2.2.1 rfl (by decide) (by decide) dL_feed_30 ?_
            refine w_iadd (pc := 31) dL_feed_31 ?_
            refine w_iast (pc := 32) (j := tn (t 69)) (sL_in hL (k := 1) (by decide)) hL.2.2.1 (y1.trans f2) (by omega) (by decide) dL_feed_32 ?_
            refine w_iload_3 (pc := 33) dL_feed_33 ?_
            refine w_aload_2 (pc := 34) dL_feed_34 ?_
            refine w_iconst (pc := 35) (v := 1) dL_feed_35 (by decide) ?_
            refine w_iald (pc := 36) (j := 1) (sL_in hL (k := 2) (by decide)) hL.2.2.2.1 rfl (by decide) (by decide) dL_feed_36 ?_
            refine w_isub (pc := 37) dL_feed_37 ?_
            refine w_name (fun l2 hl2 => ?_)
            refine w_istore_3 (pc := 38) dL_feed_38 rfl ?_
            refine w_iconst (pc := 39) (v := 0) dL_feed_39 (by decide) ?_
            refine w_istore_4 (pc := 40) dL_feed_40 rfl ?_
            refine w_nmem (fun K1 hK1 => ?_)
            have L1 : ∀ (m i : Nat) (z : Int32), i ≤ 10 → 11 ≤ i + m → z = nI i → wp g mL_feed ⟨1, 0, 0, 24⟩ (fun _ => True) (qEV σ (fun J => frL q I J ∧ DRo J q (feeds s))) (0, 0) σ (va_up K1 (q + 2) (fun k => if k < i then K1 (q + 2) (k + 2) else K1 (q + 2) k)) 42 [some (.ref q), some (.ref (q + 1)), some (.ref (q + 2)), some (.int l2), some (.int z), none, none] [] := by
              intro m
              induction m with
              | zero => intro i z h1 h2; exact absurd h2 (by omega)
              | succ m ih1 =>
                intro i z h1 h2 hz
                refine w_iload_4 (pc := 42) dL_feed_42 ?_
                refine w_bipush (pc := 44) (v := 10) dL_feed_44 (by decide) ?_
                refine w_icmp_ge (pc := 46) (tgt := 65) dL_feed_46 (by decide) (fun c46 => ?_) (fun c46 => ?_)
                · have hi : 10 ≤ i := (nx_cmp (x := 10) (a := 10) rfl (by omega) hz (by omega)).1.mp c46
                  obtain rfl : i = 10 := by omega
                  refine w_aload_0 (pc := 65) dL_feed_65 ?_
                  refine w_bipush (pc := 66) (v := 13) dL_feed_66 (by decide) ?_
                  refine w_dup2 (pc := 68) dL_feed_68 ?_
                  refine w_iald (pc := 69) (j := 13) (sL_in0 hL) hL.2.1 rfl (by decide) (by decide) dL_feed_69 ?_
                  refine w_iconst (pc := 70) (v := 1) dL_feed_70 (by decide) ?_
                  refine w_isub (pc := 71) dL_feed_71 ?_
                  refine w_iast (pc := 72) (j := 13) (sL_in0 hL) hL.2.1 rfl (by decide) (by decide) dL_feed_72 ?_
                  refine w_goto (pc := 73) (tgt := 4) dL_feed_73 (by decide) ?_
                  obtain ⟨n', rfl⟩ : ∃ n', n = n' + 1 := ⟨n - 1, by have := hfu.resolve_right (fun h => h h0l); omega⟩
                  rw [feedL_step h0l h0t, mn_hi (by rw [← y2]; exact c19)] at hfe
                  refine w_drop 4 ?_
                  refine ih n' _ _ _ (by omega) (SX_fdN hST hLp (t 70)) ?_ ?_ (by rw [hl2, kst_n (by omega), y2]; exact hfe) ?_
                  · refine frL_k (fun b hb => ?_) (by omega)
                    rw [va_up_ne _ _ (by omega), hK1, kst_n (by omega)]; exact hF b hb
                  · refine feedpop_rel hT hST hLp ?_ ?_ ?_ ?_ ?_
                    · rw [kst_s, va_up_ne _ _ (by omega), hK1, kst_n (by omega)]
                    · rw [kst_n (by omega), va_up_ne _ _ (by omega), hK1, kst_s, y2]
                    · intro k hk
                      rw [kst_n (by omega), va_up_self, if_pos (by omega), hK1, kst_n (by omega)]
                    · rw [kst_n (by omega), va_up_ne _ _ (by omega), hK1, kst_n (by omega)]
                    · rw [kst_n (by omega), va_up_ne _ _ (by omega), hK1, kst_n (by omega)]
                  · refine Or.inl ?_
                    have := hfu.resolve_right (fun h => h h0l)
                    have e := fdN_pop (t := t)
                    rw [e, popL_nLo (SX_feed1 hST hLp _) (by rw [feed1_nLo hST hLp]; omega), feed1_nLo hST hLp]
                    omega
                · have hi : i < 10 := nx_nle c46 (rfl : (10 : Int32) = nI 10) (by omega) hz (by omega)
                  refine w_aload_2 (pc := 49) dL_feed_49 ?_
                  refine w_iload_4 (pc := 50) dL_feed_50 ?_
                  refine w_aload_2 (pc := 52) dL_feed_52 ?_
                  refine w_iload_4 (pc := 53) dL_feed_53 ?_
                  refine w_iconst (pc := 55) (v := 2) dL_feed_55 (by decide) ?_
                  refine w_iadd (pc := 56) dL_feed_56 ?_
                  refine w_iald (pc := 57) (j := i + 2) (sL_in hL (k := 2) (by decide)) hL.2.2.2.1 (by rw [hz]; exact nI_add i 2) (by omega) (by decide) dL_feed_57 ?_
                  refine w_iast (pc := 58) (j := i) (sL_in hL (k := 2) (by decide)) hL.2.2.2.1 hz (by omega) (by decide) dL_feed_58 ?_
                  refine w_iinc_4 (pc := 59) dL_feed_59 rfl rfl ?_
                  refine w_goto (pc := 62) (tgt := 42) dL_feed_62 (by decide) ?_
                  rw [sh2_step]
                  exact ih1 (i + 1) _ (by omega) (by omega) (by rw [hz]; exact nI_1 i)
            have L1e := L1 11 0 _ (by omega) (by omega) rfl
            rw [sh2_0] at L1e
            exact L1e
  exact L0 7 6 _ _ _ (by omega) hS frL_r hD (by rw [hD.1 0 (by omega)]) (Or.inl (SX_L hS).1)
