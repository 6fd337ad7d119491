/-! THE CLAIM OUT OF ONE WALK OF THE LAW'S BODY. Your part is whole_start (and what it stands on); all else here is the same for every law, but numbers. -/
def R_law : String := "BeltSumsLaw"
def lw_P (b : Addr) (xs : List Int32) (args : Array Value) (s : State) : Prop := args = #[.ref b] ∧ s.IntsAt b xs ∧ xs.length ≤ 260 ∧ (Jvm.Cond.and given_1 narrow_1).before args s = true
def lw_Q (_ : Array Value) (s : State) (o : Outcome) (t : State) : Prop := o = .returned (some (.int 1)) ∧ Framed s o t [] 107 1226
def lw_Z (below : List Frame) (a : Array Value) (s : State) : State → Prop := fun t => ∃ o, t.status = .running ∧ Ended t below o ∧ lw_Q a s o t
/-- the law's own end, with 1 on the stack, nothing written that was there before, its room as the claim has it -/
theorem lw_ret {p : Program} {l : Launch} {e : Env} {s : State} {m : MethodId} {below : List Frame} {meth : Method} {c : Code} {b : Nat} (hx : p.tables.exec = Jvm.exec) (hb : c.code = code) (hr : meth.sig.returnType = ret) (hlocks : meth.locks = false) {pc : Nat} {H : Heap} {ls : Array Slot} (hdg : decode code pc = .ok (.ireturn, 1)) : W p l e room_1 s m #[Value.ref b] below meth c H [] 107 1226 (lw_Z below #[Value.ref b] s) (F0 m pc ls [.int 1]) := by
  intro T hT X
  obtain ⟨fs, hret, hrun, hended, hW, hframe⟩ := X.leave (v := some (.int 1)) (hlocks := hlocks) (fun h => by rw [hr] at h; cases h)
  have hmeth' : T.vm.method? m = some meth := X.method'
  refine ⟨T.setFrames fs, ?_, .returned (some (.int 1)), hrun, hended, rfl, ⟨_, rfl⟩, hW, hframe⟩
  jvm_step X.here [X.here.top, hx, hb, hdg, hmeth', hr, ret, narrow_b1]
  (try refine ⟨rfl, ?_⟩); (try refine ⟨rfl, ?_⟩)
  first | (intro acts; rw [hret _ acts rfl rfl rfl]) | rw [hret _ _ rfl rfl rfl]
  exact Steps.refl _
/-- what holds at the law's entry: the machine, the code, the tables' words (any of lw_tbl by 'hts w (by decide +kernel)'), the script of L ints xs at the cell b, what the Statement gives of the start (any of its parts by flat_of_before) -/
def lw_At (p : Program) (s : State) (m : MethodId) (meth : Method) (c : Code) (b L : Nat) (xs : Nat → Int32) : Prop :=
  p.tables.exec = Jvm.exec ∧ c.code = code ∧ meth.sig.returnType = ret ∧ c.maxLocals = 10 ∧ s.vm.findClass R_law = some m.cls ∧ (∀ w ∈ lw_tbl, w.before #[Value.ref b] s = true) ∧ va_X b L xs s s.heap ∧ b < s.heap.size ∧ meth.locks = false ∧ (Jvm.Cond.and given_1 narrow_1).before #[Value.ref b] s = true
-- ===== YOUR PART BEGINS =====
set_option maxHeartbeats 4000000 in
set_option maxRecDepth 100000 in
theorem whole_start {p : Program} {e : Env} {s : State} {m : MethodId} {below : List Frame} {meth : Method} {c : Code} (l : Launch) (hflags : l.flags = flags0) {b L : Nat} {xs : Nat → Int32} (hL : L ≤ 260) (C0 : lw_At p s m meth c b L xs) : W p l e room_1 s m #[Value.ref b] below meth c s.heap [] 0 0 (lw_Z below #[Value.ref b] s) (entryFrame m ([Value.ref b] : List Value).toArray 10) := by
  obtain ⟨hx, hb, hr, hml, hown, hts, hX, hbl, hlocks, hgv⟩ := C0
  have hts2 : ∀ w ∈ tblG, w.before #[Value.ref b] s = true := fun w hw => hts w (List.mem_filter.mp hw).1
  have hs := flat_of_before _ hgv
  obtain ⟨c0, s0, k0⟩ := u_known (C := RX0) (T := TX0) (N := 4) (n := 4) hts2 inW0 (hts2 _ t134)
  obtain ⟨c1, s1, k1⟩ := u_known (C := RX1) (T := TX1) (N := 3) (n := 3) hts2 inW1 (hts2 _ t62)
  obtain ⟨c2, s2, k2⟩ := u_known (C := RX2) (T := TX2) (N := 4) (n := 4) hts2 inW2 (hts2 _ t80)
  obtain ⟨c3, s3, k3⟩ := u_known (C := RX3) (T := TX3) (N := 4) (n := 4) hts2 inW3 (hts2 _ t273)
  obtain ⟨c4, s4, k4⟩ := u_known (C := RX4) (T := TX4) (N := 5) (n := 5) hts2 inW4 (hts2 _ t228)
  obtain ⟨c5, s5, k5⟩ := u_known (C := RX5) (T := TX5) (N := 4) (n := 4) hts2 inW5 (hts2 _ t35)
  obtain ⟨c6, s6, k6⟩ := u_known (C := RX6) (T := TX6) (N := 15) (n := 15) hts2 inW6 (hts2 _ t29)
  obtain ⟨c7, s7, k7⟩ := u_known (C := RX7) (T := TX7) (N := 5) (n := 5) hts2 inW7 (hts2 _ t267)
  obtain ⟨c8, s8, k8⟩ := u_known (C := RX8) (T := TX8) (N := 5) (n := 5) hts2 inW8 (hts2 _ t105)
  obtain ⟨c9, s9, k9⟩ := u_known (C := RX9) (T := TX9) (N := 2) (n := 2) hts2 inW9 (hts2 _ t253)
  obtain ⟨c10, s10, k10⟩ := u_known (C := RX10) (T := TX10) (N := 5) (n := 5) hts2 inW10 (hts2 _ t21)
  obtain ⟨dC, dI, hKc⟩ : ∃ (dC : Nat → ClassId) (dI : Nat → Nat → Nat), ∀ (k : Nat) (q : vw_C), vwCl[k]? = some q → u_Kn s q.1 q.2.1 q.2.2 (dC k) (dI k) := by
    refine ⟨fun k => match k with | 0 => c0 | 1 => c1 | 2 => c2 | 3 => c3 | 4 => c4 | 5 => c5 | 6 => c6 | 7 => c7 | 8 => c8 | 9 => c9 | _ => c10, fun k => match k with | 0 => s0 | 1 => s1 | 2 => s2 | 3 => s3 | 4 => s4 | 5 => s5 | 6 => s6 | 7 => s7 | 8 => s8 | 9 => s9 | _ => s10, ?_⟩
    intro k q hq
    match k, hq with
    | 0, hq => cases hq; exact k0
    | 1, hq => cases hq; exact k1
    | 2, hq => cases hq; exact k2
    | 3, hq => cases hq; exact k3
    | 4, hq => cases hq; exact k4
    | 5, hq => cases hq; exact k5
    | 6, hq => cases hq; exact k6
    | 7, hq => cases hq; exact k7
    | 8, hq => cases hq; exact k8
    | 9, hq => cases hq; exact k9
    | 10, hq => cases hq; exact k10
    | k + 11, hq => simp [vwCl] at hq
  obtain ⟨cI, kI1, comI, i1, i2, i3⟩ := Cond.arrayClass_spec (hts2 _ t60)
  obtain ⟨cC, kC1, comC, j1, j2, j3⟩ := Cond.arrayClass_spec (hts2 _ t265)
  have qa0 : (Cond.arrayOf (Term.static "BeltSums" "FIRST_SETTINGS" "[I") .int).before #[Value.ref b] s = true := hs _ (by decide +kernel)
  have ql0 : (Cond.eq (.length (Term.static "BeltSums" "FIRST_SETTINGS" "[I")) (.int 3)).before #[Value.ref b] s = true := hs _ (by decide +kernel)
  have qe00 : (Cond.eq (.elem (Term.static "BeltSums" "FIRST_SETTINGS" "[I") (.int 0)) (.int 120)).before #[Value.ref b] s = true := hs _ (by decide +kernel)
  have qe01 : (Cond.eq (.elem (Term.static "BeltSums" "FIRST_SETTINGS" "[I") (.int 1)) (.int 20)).before #[Value.ref b] s = true := hs _ (by decide +kernel)
  have qe02 : (Cond.eq (.elem (Term.static "BeltSums" "FIRST_SETTINGS" "[I") (.int 2)) (.int 1)).before #[Value.ref b] s = true := hs _ (by decide +kernel)
  obtain ⟨a0, f0, g0⟩ := va_Tof (tm := (Term.static "BeltSums" "FIRST_SETTINGS" "[I")) (ty := .int) (N := 3) (f := fun j => .int (kSv 0 j)) (A := fun q => s.heap.size ≤ q) (by decide) qa0 (va_eqt ql0) (fun j hj => by
    rcases (show j = 0 ∨ j = 1 ∨ j = 2 by omega) with rfl | rfl | rfl
    · exact va_eqt qe00
    · exact va_eqt qe01
    · exact va_eqt qe02
    ) (fun a h => Nat.not_le.mpr h)
  have l0 : (Cond.laysStatic "BeltSums" "FIRST_SETTINGS" "[I").before #[Value.ref b] s = true := hts _ (List.mem_of_getElem? (i := 157) (by decide +kernel))
  have z0 := va_Zref (A := fun q => s.heap.size ≤ q) l0 (hts2 _ t7) f0 (fun a h => Nat.not_le.mpr h)
  have qa1 : (Cond.arrayOf (Term.static "BeltSums" "LEAST_SETTINGS" "[I") .int).before #[Value.ref b] s = true := hs _ (by decide +kernel)
  have ql1 : (Cond.eq (.length (Term.static "BeltSums" "LEAST_SETTINGS" "[I")) (.int 3)).before #[Value.ref b] s = true := hs _ (by decide +kernel)
  have qe10 : (Cond.eq (.elem (Term.static "BeltSums" "LEAST_SETTINGS" "[I") (.int 0)) (.int 1)).before #[Value.ref b] s = true := hs _ (by decide +kernel)
  have qe11 : (Cond.eq (.elem (Term.static "BeltSums" "LEAST_SETTINGS" "[I") (.int 1)) (.int 1)).before #[Value.ref b] s = true := hs _ (by decide +kernel)
  have qe12 : (Cond.eq (.elem (Term.static "BeltSums" "LEAST_SETTINGS" "[I") (.int 2)) (.int (-9))).before #[Value.ref b] s = true := hs _ (by decide +kernel)
  obtain ⟨a1, f1, g1⟩ := va_Tof (tm := (Term.static "BeltSums" "LEAST_SETTINGS" "[I")) (ty := .int) (N := 3) (f := fun j => .int (kSv 1 j)) (A := fun q => s.heap.size ≤ q) (by decide) qa1 (va_eqt ql1) (fun j hj => by
    rcases (show j = 0 ∨ j = 1 ∨ j = 2 by omega) with rfl | rfl | rfl
    · exact va_eqt qe10
    · exact va_eqt qe11
    · exact va_eqt qe12
    ) (fun a h => Nat.not_le.mpr h)
  have l1 : (Cond.laysStatic "BeltSums" "LEAST_SETTINGS" "[I").before #[Value.ref b] s = true := hts _ (List.mem_of_getElem? (i := 611) (by decide +kernel))
  have z1 := va_Zref (A := fun q => s.heap.size ≤ q) l1 (hts2 _ t7) f1 (fun a h => Nat.not_le.mpr h)
  have qa2 : (Cond.arrayOf (Term.static "BeltSums" "MOST_SETTINGS" "[I") .int).before #[Value.ref b] s = true := hs _ (by decide +kernel)
  have ql2 : (Cond.eq (.length (Term.static "BeltSums" "MOST_SETTINGS" "[I")) (.int 3)).before #[Value.ref b] s = true := hs _ (by decide +kernel)
  have qe20 : (Cond.eq (.elem (Term.static "BeltSums" "MOST_SETTINGS" "[I") (.int 0)) (.int 500)).before #[Value.ref b] s = true := hs _ (by decide +kernel)
  have qe21 : (Cond.eq (.elem (Term.static "BeltSums" "MOST_SETTINGS" "[I") (.int 1)) (.int 99)).before #[Value.ref b] s = true := hs _ (by decide +kernel)
  have qe22 : (Cond.eq (.elem (Term.static "BeltSums" "MOST_SETTINGS" "[I") (.int 2)) (.int 9)).before #[Value.ref b] s = true := hs _ (by decide +kernel)
  obtain ⟨a2, f2, g2⟩ := va_Tof (tm := (Term.static "BeltSums" "MOST_SETTINGS" "[I")) (ty := .int) (N := 3) (f := fun j => .int (kSv 2 j)) (A := fun q => s.heap.size ≤ q) (by decide) qa2 (va_eqt ql2) (fun j hj => by
    rcases (show j = 0 ∨ j = 1 ∨ j = 2 by omega) with rfl | rfl | rfl
    · exact va_eqt qe20
    · exact va_eqt qe21
    · exact va_eqt qe22
    ) (fun a h => Nat.not_le.mpr h)
  have l2 : (Cond.laysStatic "BeltSums" "MOST_SETTINGS" "[I").before #[Value.ref b] s = true := hts _ (List.mem_of_getElem? (i := 613) (by decide +kernel))
  have z2 := va_Zref (A := fun q => s.heap.size ≤ q) l2 (hts2 _ t7) f2 (fun a h => Nat.not_le.mpr h)
  obtain ⟨g, hg⟩ : ∃ g : kG, g = (l, (dC, dI), cI, cC, s.heap.size, fun i => match i with | 0 => a0 | 1 => a1 | _ => a2) := ⟨_, rfl⟩
  have hST : kST g s := by
    rw [hg]
    refine ⟨fun i hi => ?_, fun w hw => ?_⟩
    · rcases (show i = 0 ∨ i = 1 ∨ i = 2 by omega) with rfl | rfl | rfl
      · exact ⟨z0, g0⟩
      · exact ⟨z1, g1⟩
      · exact ⟨z2, g2⟩
    · simp only [nestWs, List.mem_cons, List.not_mem_nil, or_false] at hw
      rcases hw with rfl | rfl | rfl | rfl | rfl | rfl | rfl | rfl | rfl | rfl | rfl | rfl | rfl | rfl | rfl | rfl | rfl | rfl | rfl
      · exact va_Nw.of rfl (hts _ nt36)
      · exact va_Nw.of rfl (hts _ nt63)
      · exact va_Nw.of rfl (hts _ nt81)
      · exact va_Nw.of rfl (hts _ nt106)
      · exact va_Nw.of rfl (hts _ nt135)
      · exact va_Nw.of rfl (hts _ nt156)
      · exact va_Nw.of rfl (hts _ nt158)
      · exact va_Nw.of rfl (hts _ nt229)
      · exact va_Nw.of rfl (hts _ nt254)
      · exact va_Nw.of rfl (hts _ nt268)
      · exact va_Nw.of rfl (hts _ nt274)
      · exact va_Nw.of rfl (hts _ nt388)
      · exact va_Nw.of rfl (hts _ nt393)
      · exact va_Nw.of rfl (hts _ nt398)
      · exact va_Nw.of rfl (hts _ nt407)
      · exact va_Nw.of rfl (hts _ nt535)
      · exact va_Nw.of rfl (hts _ nt601)
      · exact va_Nw.of rfl (hts _ nt610)
      · exact va_Nw.of rfl (hts _ nt612)
  have hK : va_K (dC, dI) vwCl [(cI, .int), (cC, .char)] s := by
    refine ⟨hKc, fun k q hq => ?_⟩
    match k, hq with
    | 0, hq => cases hq; exact ⟨fun n z => ⟨fun k h => (by cases h), kI1, i2, comI, i3⟩, i1⟩
    | 1, hq => cases hq; exact ⟨fun n z => ⟨fun k h => (by cases h), kC1, j2, comC, j3⟩, j1⟩
    | k + 2, hq => simp at hq
  have hH : kHold g (s.heap.size, fun _ => (0, 0), fun _ => kNo) (fun _ => kZ) s s.heap := by
    rw [hg]
    exact ⟨rfl, Nat.le_refl _, fun k x hx => by simp [kW, va_pl, kL] at hx, hK⟩
  have hB : kB g = s.heap.size := by rw [hg]
  have hl1 : g.1 = l := by rw [hg]
  have hC : kCx g mL_law p s m #[Value.ref b] meth c := ⟨hx, hb, hml, hown, hts2, hlocks, hr, fun h => absurd h (by decide), hST⟩
  have hE : kX b L xs (kB g) s := ⟨hX, hbl, by rw [hB]; exact hbl⟩
  have hall := law_wp (g := g) (b := b) (xs := xs) (r := s.heap.size) (sh := fun _ => (0, 0)) (G := fun _ => kNo) (I := fun _ => kZ) hL (Nat.le_of_eq hB) p e s m #[Value.ref b] below meth c s.heap [] _ ⟨hC, hE, hH, va_S.rf, kLh_entry (as := [.ref b]) (nL := 10) (fun v hv => by simp at hv; rw [hv]; rfl) (Nat.le_of_ble_eq_true rfl)⟩
  rw [lg_entry_eq]
  rw [hl1] at hall
  intro T hT X
  obtain ⟨t, st, o, h1, h2, ⟨v, σ1, I1, ho, hq, -, -⟩, Lc, hF, hfree⟩ := hall T hT X
  have hq : v = some (.int 1) := hq
  refine ⟨t, st, o, h1, h2, by rw [ho, hq], hF.1, hF.2.1, State.sameButNew.drop_fresh (L := []) (J := Lc) hF.2.2 (fun q hq => ?_)⟩
  have := hfree q hq
  rw [← hB]; exact this
-- ===== YOUR PART ENDS =====
set_option maxHeartbeats 4000000 in
theorem lw_walk (l : Launch) (hflags : l.flags = flags0) (b : Addr) (xs : List Int32) : MetFree l x (headSpec (Jvm.Cond.code x code maxLocals ret :: tables_1) room_1) (lw_P b xs) (fun _ _ _ _ _ => True) lw_Q := by
  refine MetFree.of_bodyS (code := code) (maxLocals := maxLocals) (ret := ret) (by decide) ?_ ?_
  · intro args s m h hn
    obtain ⟨meth, c, h1, h2, h3, h4, h5, h6, -, -⟩ := Cond.code_spec hn (atoms_spec (ws := Jvm.Cond.code x code maxLocals ret :: tables_1) h _ List.mem_cons_self)
    exact ⟨meth, c, h1, h2, h3, h4, h5, h6⟩
  · intro p e s m args below meth c s₁ B hml0 hP _
    obtain ⟨rfl, hx, hbd, hgv⟩ := hP
    obtain ⟨scr, harrAt, hlist, hof, hsmall⟩ := hx
    obtain ⟨hcb, hkn, -, -⟩ := State.arrayAt?_spec harrAt
    have hown : s.vm.findClass R_law = some m.cls := findClass_of_methodNamed B.named
    have hts0 : ∀ c ∈ (Jvm.Cond.code x code maxLocals ret :: tables_1), c.before #[Value.ref b] s = true := atoms_spec (ws := Jvm.Cond.code x code maxLocals ret :: tables_1) B.pre
    have hts : ∀ w ∈ lw_tbl, w.before #[Value.ref b] s = true := k2_hts_sels lw_privs (fun w hw => hts0 w (List.mem_cons_of_mem _ hw)) lw_privs_ok
    have hml : c.maxLocals = 10 := B.maxLocals_eq (hts0 _ List.mem_cons_self)
    have X₀ : Stand p l e room_1 s m #[Value.ref b] below meth c s₁ [] 0 0 := Stand.of_body B
    have hh0 : s₁.heap = s.heap := by rw [B.state]; rfl
    have hsz : scr.slots.size = xs.length := by rw [← Array.length_toList, hlist, List.length_map]
    have hval : ∀ j : Nat, j < xs.length → scr.slots[j]? = some (.int (xs.getD j 0)) := fun j hj => by
      rw [← Array.getElem?_toList, hlist]
      simp [hj]
    have hbl : b < s.heap.size := (Array.getElem?_eq_some_iff.mp hcb).1
    have hX : va_X b xs.length (fun j => xs.getD j 0) s s.heap := ⟨scr, hcb, hof, hkn, hsz, hval⟩
    have K : W p l e room_1 s m #[Value.ref b] below meth c s₁.heap [] 0 0 (lw_Z below #[Value.ref b] s) (entryFrame m ([Value.ref b] : List Value).toArray 10) := by
      rw [hh0]
      exact whole_start l hflags hbd ⟨B.exec, B.bytes, B.returns, hml, hown, hts, hX, hbl, B.notSynchronized, hgv⟩
    obtain ⟨t, a1, o, b1, b2, b3⟩ := K s₁ rfl X₀
    exact ⟨t, o, a1, b1, b2, b3⟩
theorem lw_pre_spec {args : Array Value} {s : State} (h : (Jvm.Cond.and given_1 narrow_1).before args s = true) (hr : rest_1_c.before args s = true) : ∃ (b : Addr) (xs : List Int32), lw_P b xs args s := by
  have hs := flat_of_before _ h
  have hq := flat_of_before _ hr
  have hc : (Cond.count 1).before args s = true := hs _ (by decide +kernel)
  have harr : (Cond.arrayOf (.arg 0) .int).before args s = true := hs _ (by decide +kernel)
  have hle : (Cond.le (.length (.arg 0)) (.int 260)).before args s = true := hs _ (by decide +kernel)
  have hlen : (Cond.isInt (.length (.arg 0))).before args s = true := hq _ (by decide +kernel)
  have hall : (Cond.all (.arg 0) (.isInt (.elem (.arg 0) (.index 0)))).before args s = true := hq _ (by decide +kernel)
  obtain ⟨b, xs, hb, hx⟩ := State.ints_of_pre rfl harr hlen hall
  have hsm : xs.length < 2 ^ 31 := hx.choose_spec.2.2.2
  have hev : (Term.length (.arg 0)).eval args s none [] s = some (.int xs.length.toInt32) := hx.length_eval hb
  have hv := Cond.le_ints hev (show (Term.int 260).eval args s none [] s = some (.int 260) from rfl)
  have hd : xs.length.toInt32 ≤ 260 := by
    simpa [Cond.before, Cond.holds, hv] using hle
  have hN : xs.length ≤ 260 := (Int32.ofNat_le_ofNat hsm (by decide)).mp (show Int32.ofNat xs.length ≤ Int32.ofNat 260 from hd)
  exact ⟨b, xs, Cond.one_arg hc (show args[0]? = some (.ref b) from hb), hx, hN, h⟩
theorem lw_comes (l : Launch) (hflags : l.flags = flags0) : Comes l x (Jvm.Cond.code x code maxLocals ret :: tables_1) room_1 (fun tb e args s => Calls_1 tb e args s ∧ rest_1 tb e args s ∧ Pre_1 tb e args s)
    (fun _ _ args s o t => lw_Q args s o t) := by
  intro p e ha hc hk s m args below hf hfit hheap happ hpre
  obtain ⟨b, xs, hP⟩ := lw_pre_spec hpre.2.2 hpre.2.1
  obtain ⟨k, o, h1, h2, h3, hQ⟩ := lw_walk l hflags b xs p e ha hc hk s m args below hf ((Spec.applies_iff_loose hf).mp happ).1 hP trivial
  exact ⟨k, o, h1, h2, h3, hQ⟩
theorem lw_frame {s t : State} {o : Outcome} {args : Array Value} (h : Framed s o t [] 107 1226) :
    Framed s o t (fieldLocs frame_1_writes args s ++ arrayLocs frame_1_arrays args s ++ staticLocs frame_1_statics s) 107 1226 := h
theorem lw_limb (L : Cond) (hL : ∀ (args : Array Value) (s t : State), L.after args s (.returned (some (.int 1))) t = true) :
    ArmFor flags0 classFile x code maxLocals ret World_1 tables_1 room_1 Calls_1 rest_1 Pre_1
      (fun tb e a s o t => postC L tb e a s o t ∧ Framed s o t (fieldLocs frame_1_writes a s ++ arrayLocs frame_1_arrays a s ++ staticLocs frame_1_statics s) 107 1226) := by
  intro l hflags _ _ p e ha hc hk s m args below hf hfit hheap happ hpre
  obtain ⟨k, o, h1, h2, h3, rfl, hF⟩ := lw_comes l hflags p e ha hc hk s m args below hf hfit hheap happ hpre
  exact ⟨k, _, h1, h2, h3, hL args s _, lw_frame hF⟩
theorem i_vc : Claimed_1_1 ∧ Claimed_1_2 := ⟨lw_limb limb_1_1 (fun args s t => by simp [limb_1_1, Cond.after, Cond.holds, Cond.value]), lw_limb limb_1_2 (fun args s t => Cond.after_iff.mpr (by
  first | (rw [show limb_1_2 = Cond.eq .result (.int 1) from rfl, Cond.eq_ints (x := 1) (y := 1) rfl rfl]; simp; done) | (simp [limb_1_2, Cond.value, Term.eval]; done)))⟩

