section KWQ
variable {g : kG} {μ : kM} {R : Room} {E : State → Prop} {Q : kP} {n : Nat × Nat} {σ : kS} {I : kI} {pc : Nat} {loc : List (Option Value)} {st : List Value}
theorem w_mmin {i : Nat} {x y : Int32} (hl : Cond.methodLink μ.1.cls i Lib.Math.min.name ∈ tblG) (hs : Cond.static Lib.Math.min.name ∈ tblG) (hi : Cond.initialized "java/lang/Math" ∈ tblG) (hc : Cond.code Lib.Math.min.name Lib.Math.min.code 2 (some .int) ∈ tblG) (hR : (1 ≤ R.frames ∧ (st.map fun v => v.category).sum + 13 ≤ R.locals) ∧ n.1 ≤ R.cells ∧ n.2 ≤ R.slots) (hd : decode μ.2.1 pc = .ok (.invokestatic i, 3)) (kk : wp g μ R E Q n σ I (pc + 3) loc (.int (if y < x then y else x) :: st)) : wp g μ R E Q n σ I pc loc (.int y :: .int x :: st) := fun p e s m args below meth c H locs ls h => va_mmin h.1.1 h.1.2.1 (h.1.2.2.1.trans h.2.2.2.2.1.symm) h.1.2.2.2.1 (h.1.2.2.2.2.1 _ hl) (h.1.2.2.2.2.1 _ hs) (h.1.2.2.2.2.1 _ hi) (h.1.2.2.2.2.1 _ hc) hR.1.1 hR.1.2 hR.2.1 hR.2.2 hd (kk p e s m args below meth c H locs ls h)
theorem w_mmax {i : Nat} {x y : Int32} (hl : Cond.methodLink μ.1.cls i Lib.Math.max.name ∈ tblG) (hs : Cond.static Lib.Math.max.name ∈ tblG) (hi : Cond.initialized "java/lang/Math" ∈ tblG) (hc : Cond.code Lib.Math.max.name Lib.Math.max.code 2 (some .int) ∈ tblG) (hR : (1 ≤ R.frames ∧ (st.map fun v => v.category).sum + 13 ≤ R.locals) ∧ n.1 ≤ R.cells ∧ n.2 ≤ R.slots) (hd : decode μ.2.1 pc = .ok (.invokestatic i, 3)) (kk : wp g μ R E Q n σ I (pc + 3) loc (.int (if x < y then y else x) :: st)) : wp g μ R E Q n σ I pc loc (.int y :: .int x :: st) := fun p e s m args below meth c H locs ls h => va_mmax h.1.1 h.1.2.1 (h.1.2.2.1.trans h.2.2.2.2.1.symm) h.1.2.2.2.1 (h.1.2.2.2.2.1 _ hl) (h.1.2.2.2.2.1 _ hs) (h.1.2.2.2.2.1 _ hi) (h.1.2.2.2.2.1 _ hc) hR.1.1 hR.1.2 hR.2.1 hR.2.2 hd (kk p e s m args below meth c H locs ls h)
theorem w_objInit {i a : Nat} (hl : Cond.methodLink μ.1.cls i Lib.objectInit ∈ tblG) (hin : Cond.instanceMethod Lib.objectInit ∈ tblG) (hc : Cond.code Lib.objectInit ⟨#[0xb1]⟩ 1 none ∈ tblG) (hR : 1 ≤ R.frames ∧ (st.map fun v => v.category).sum + 12 ≤ R.locals) (hd : decode μ.2.1 pc = .ok (.invokespecial i, 3)) (kk : wp g μ R E Q n σ I (pc + 3) loc st) : wp g μ R E Q n σ I pc loc (.ref a :: st) := by
  intro p e s m args below meth c H locs ls h
  exact W.objInit h.1.1 h.1.2.1 h.1.2.2.2.1 (h.1.2.2.2.2.1 _ hl) (h.1.2.2.2.2.1 _ hin) (h.1.2.2.2.2.1 _ hc) rfl (by rw [h.1.2.2.1]; exact h.2.2.2.2.1) rfl hd hR.1 (by show 2 * 0 + _ + 12 ≤ _; omega) (kk p e s m args below meth c H locs ls h)
theorem w_getstatic {i j : Nat} (hj : j < 3) (hl : Cond.fieldLinkNest μ.1.cls i "BeltSums" (kSa j) "[I" "BeltSums" ∈ nestWs) (hd : decode μ.2.1 pc = .ok (.getstatic i, 3)) (kk : wp g μ R E Q n σ I (pc + 3) loc (.ref (g.2.2.2.2.2 j) :: st)) : wp g μ R E Q n σ I pc loc st := by
  intro p e s m args below meth c H locs ls h
  have hst := h.1.2.2.2.2.2.2.2.2
  exact va_getsN h.1.1 h.1.2.1 (hst.1 j hj).1 h.2.2.2.1 h.1.2.2.2.1 (va_Nw.use rfl (hst.2 _ hl)) (fun _ h9 => h9) hd (kk p e s m args below meth c H locs ls h)
theorem w_siald {j k : Nat} {x : Int32} (hj : j < 3) (hx : x = nI k) (hk : k < 3) (hd : decode μ.2.1 pc = .ok (.iaload, 1)) (kk : wp g μ R E Q n σ I (pc + 1) loc (.int (kSv j k) :: st)) : wp g μ R E Q n σ I pc loc (.int x :: .ref (g.2.2.2.2.2 j) :: st) := by
  intro p e s m args below meth c H locs ls h
  have hst := h.1.2.2.2.2.2.2.2.2
  subst hx
  exact va_ti h.1.1 h.1.2.1 (hst.1 j hj).2 h.2.2.2.1 (vp_in_nI hk (by decide)) (by rw [nI_clamp (by omega)]) hd (kk p e s m args below meth c H locs ls h)
theorem w_salen {j : Nat} {v : Int32} (hj : j < 3) (hv : Int32.ofNat 3 = v) (hd : decode μ.2.1 pc = .ok (.arraylength, 1)) (kk : wp g μ R E Q n σ I (pc + 1) loc (.int v :: st)) : wp g μ R E Q n σ I pc loc (.ref (g.2.2.2.2.2 j) :: st) := by
  intro p e s m args below meth c H locs ls h
  have hst := h.1.2.2.2.2.2.2.2.2
  exact va_tlen h.1.1 h.1.2.1 (hst.1 j hj).2 h.2.2.2.1 hv hd (kk p e s m args below meth c H locs ls h)
theorem kArrCopyHeap {g : kG} {σ : kS} {I : kI} {a : Nat} {f : Nat → Int32} {q : Nat} (h : kB g ≤ a ∧ a < σ.1) (hq : (kW g σ I)[q]? = some (a, kF g σ I a)) : (kW g σ I).set q (a, kE g.2.2.1 g.2.2.2.1 (σ.2.1 a) (σ.2.2 a) f) = kW g σ (va_up I a f) := by
  have hD : va_D (kA g) ([] ++ va_pl (kL g σ) (kF g σ I)) := kD
  have := va_pl_set (X := []) (a := a) (k := q) (e := kE g.2.2.1 g.2.2.2.1 (σ.2.1 a) (σ.2.2 a) f) hD (by simp only [kL, List.mem_range'_1]; omega) hq
  simp only [List.nil_append] at this
  rw [show kW g σ I = va_pl (kL g σ) (kF g σ I) from rfl, this]
  show va_pl _ _ = va_pl _ _
  congr 1
  funext b
  by_cases h : b = a
  · subst h; simp [va_up, kF]
  · simp [va_up, kF, h]
theorem w_copy {i : Nat} {x : Int32} {a a0 N0 N1 : Nat} {k : Nat} (ha0 : kB g ≤ a0 ∧ a0 < σ.1) (hs0 : σ.2.1 a0 = (100, N0)) (hk0 : k ≤ N0) (hN0 : N0 < 2 ^ 31) (ha : kB g ≤ a ∧ a < σ.1) (hs : σ.2.1 a = (100, N1)) (hk1 : k ≤ N1) (hN1 : N1 < 2 ^ 31) (hx : x = nI k) (hl : Cond.methodLink μ.1.cls i arraycopyName ∈ tblG) (hnat : Cond.native arraycopyName ∈ tblG) (hstat : Cond.static arraycopyName ∈ tblG) (hini : Cond.initialized "java/lang/System" ∈ tblG) (hR : 1 ≤ R.frames ∧ (st.map fun v => v.category).sum + (nativeFrameWords "java/lang/System" "arraycopy" 5 + 11) ≤ R.locals) (hd : decode μ.2.1 pc = .ok (.invokestatic i, 3)) (kk : wp g μ R E Q n σ (va_up I a (va_cpy (I a0) (I a) 0 0 k)) (pc + 3) loc st) : wp g μ R E Q n σ I pc loc (.int x :: .int 0 :: .ref a :: .int 0 :: .ref a0 :: st) := by
  intro p e s m args below meth c H locs ls h
  obtain ⟨q1, hq1⟩ := kIn (I := I) ha
  have hq0 := hq1
  rw [kEi hs] at hq1
  subst hx
  have hP := h.2.2.1.2.2.1
  have hK := h.2.2.1.2.2.2
  have hS := h.2.2.2.1
  have hcl : (nI k).toNatClampNeg = k := nI_clamp (by omega)
  have hcl0 : (0 : Int32).toNatClampNeg = 0 := rfl
  have hti : (nI k).toInt = (k : Int) := nI_toInt (by omega)
  have nk : ¬ nI k < 0 := nI_pos (by omega)
  have z0 : (0 : Int32).toInt = 0 := rfl
  obtain ⟨q2, hq2⟩ := kIn (I := I) ha0
  rw [kEi hs0] at hq2
  have hc0 : H[a0]? = some (vp_cell g.2.2.1 (N0, .inl (I a0))) := hP q2 _ hq2
  have hc1 : H[a]? = some (vp_cell g.2.2.1 (N1, .inl (I a))) := hP q1 _ hq1
  obtain ⟨-, kc0, hkc0, cm0, hkk0⟩ := (hK.2 0 _ rfl).1 N0 (fun j => .int (I a0 j))
  obtain ⟨-, kc1, hkc1, cm1, hkk1⟩ := (hK.2 0 _ rfl).1 N1 (fun j => .int (I a j))
  intro T hT X
  have hb := h.1.2.1
  obtain ⟨vm', X', step⟩ := X.arraycopy h.1.1 h.1.2.2.2.1 (h.1.2.2.2.2.1 _ hl) (h.1.2.2.2.2.1 _ hnat) (h.1.2.2.2.2.1 _ hstat) (h.1.2.2.2.2.1 _ hini) (src := a0) (dst := a) (cs := vp_cell g.2.2.1 (N0, .inl (I a0))) (cd := vp_cell g.2.2.1 (N1, .inl (I a))) (srcPos := 0) (destPos := 0) (n := nI k) (by rw [hT]; exact hc0) (by rw [hT]; exact hc1)
    (fun _ h => by cases h) (fun _ h => by cases h) (fun h => by cases h) (fun h => by cases h) hkc0 hkc1 hkk0 hkk1 (by simp [refKind]) (by decide) (by decide) nk
    (by rw [hti, z0]; show ¬ _ > ((arrV g.2.2.1 N0 (fun j => .int (I a0 j))).slots.size : Int); rw [arrV_size]; omega)
    (by rw [hti, z0]; show ¬ _ > ((arrV g.2.2.1 N1 (fun j => .int (I a j))).slots.size : Int); rw [arrV_size]; omega)
    (fun vm₁ _ i hi => by
      rw [hcl] at hi
      have e : (vp_cell g.2.2.1 (N0, .inl (I a0))).slots.getD ((0 : Int32).toNatClampNeg + i) .null = .int (I a0 i) := by
        show (arrV g.2.2.1 N0 (fun j => .int (I a0 j))).slots.getD _ _ = _
        rw [hcl0, Nat.zero_add, Array.getD_eq_getD_getElem?, arrV_read _ _ (by omega)]
        rfl
      refine ⟨?_, ?_⟩
      · rw [e]; rfl
      · rw [e]; exact trivial)
    (g := F0 m pc ls (.int (nI k) :: .int 0 :: .ref a :: .int 0 :: .ref a0 :: st)) rfl (h.2.2.2.2.1.trans h.1.2.2.1.symm) (rest := st) rfl (by rw [hb]; exact hd) hR.1 (by show 2 * 0 + _ + _ ≤ _; omega)
  have e1 : copied (vp_cell g.2.2.1 (N0, .inl (I a0))) (vp_cell g.2.2.1 (N1, .inl (I a))) 0 0 (nI k) = vp_cell g.2.2.1 (N1, .inl (va_cpy (I a0) (I a) 0 0 k)) := by
    have := va_copied (fun z => .int z) g.2.2.1 g.2.2.1 (I a0) (I a) (n0 := N0) (n1 := N1) (sp := 0) (dp := 0) (n := k) (by omega)
    show (vp_cell g.2.2.1 (N1, .inl (I a))).storeRun (0 : Int32).toNatClampNeg ((vp_cell g.2.2.1 (N0, .inl (I a0))).stretch (0 : Int32).toNatClampNeg (nI k).toNatClampNeg) = _
    rw [hcl0, hcl]
    exact this
  rw [e1] at X' step
  have hlt : a < H.size := (Array.getElem?_eq_some_iff.mp hc1).1
  have hheap : ((T.setVm vm').setCell a (vp_cell g.2.2.1 (N1, .inl (va_cpy (I a0) (I a) 0 0 k)))).heap = H.setIfInBounds a (vp_cell g.2.2.1 (N1, .inl (va_cpy (I a0) (I a) 0 0 k))) := by rw [← hT]; rfl
  have oq : ∀ q : Nat, q ≠ a → (H.setIfInBounds a (vp_cell g.2.2.1 (N1, .inl (va_cpy (I a0) (I a) 0 0 k))))[q]? = H[q]? := fun q hq => by simp [Array.getElem?_setIfInBounds, Ne.symm hq]
  have hP1 : va_P g.2.1 vwCl ((kW g σ I).set q1 (a, kE g.2.2.1 g.2.2.2.1 (σ.2.1 a) (σ.2.2 a) (va_cpy (I a0) (I a) 0 0 k))) (H.setIfInBounds a (vp_cell g.2.2.1 (N1, .inl (va_cpy (I a0) (I a) 0 0 k)))) := by
    have e4 : kE g.2.2.1 g.2.2.2.1 (σ.2.1 a) (σ.2.2 a) (va_cpy (I a0) (I a) 0 0 k) = .inl (g.2.2.1, N1, .inl (va_cpy (I a0) (I a) 0 0 k)) := by simp only [kE, hs]; rfl
    rw [e4]
    exact hP.set kD hq1 (show (H.setIfInBounds a _)[a]? = some _ by simp [Array.getElem?_setIfInBounds, hlt]) oq
  rw [kArrCopyHeap ha hq0] at hP1
  obtain ⟨t, a1, b1⟩ := kk p e s m args below meth c _ _ ls ⟨h.1, h.2.1, ⟨by simpa using h.2.2.1.1, h.2.2.1.2.1, hP1, hK⟩, ⟨by simp; exact hS.1, fun q g1 g2 => by
      rw [oq q (fun e => g2 (by rw [e]; exact ha.1))]
      exact hS.2.1 q g1 g2, fun q hq => by
      rcases List.mem_append.mp hq with h3 | h3
      · exact hS.2.2 q h3
      · obtain ⟨z, -, hz⟩ := List.mem_map.mp h3
        rw [← hz]
        exact ha.1⟩, h.2.2.2.2⟩ _ hheap X'
  exact ⟨t, step t a1, b1⟩
theorem w_copyS {i : Nat} {x : Int32} {a j N1 : Nat} {k : Nat} (hj : j < 3) (hk0 : k ≤ 3) (ha : kB g ≤ a ∧ a < σ.1) (hs : σ.2.1 a = (100, N1)) (hk1 : k ≤ N1) (hN1 : N1 < 2 ^ 31) (hx : x = nI k) (hl : Cond.methodLink μ.1.cls i arraycopyName ∈ tblG) (hnat : Cond.native arraycopyName ∈ tblG) (hstat : Cond.static arraycopyName ∈ tblG) (hini : Cond.initialized "java/lang/System" ∈ tblG) (hR : 1 ≤ R.frames ∧ (st.map fun v => v.category).sum + (nativeFrameWords "java/lang/System" "arraycopy" 5 + 11) ≤ R.locals) (hd : decode μ.2.1 pc = .ok (.invokestatic i, 3)) (kk : wp g μ R E Q n σ (va_up I a (va_cpy (fun z => kSv j z) (I a) 0 0 k)) (pc + 3) loc st) : wp g μ R E Q n σ I pc loc (.int x :: .int 0 :: .ref a :: .int 0 :: .ref (g.2.2.2.2.2 j) :: st) := by
  intro p e s m args below meth c H locs ls h
  obtain ⟨q1, hq1⟩ := kIn (I := I) ha
  have hq0 := hq1
  rw [kEi hs] at hq1
  subst hx
  have hP := h.2.2.1.2.2.1
  have hK := h.2.2.1.2.2.2
  have hS := h.2.2.2.1
  have hcl : (nI k).toNatClampNeg = k := nI_clamp (by omega)
  have hcl0 : (0 : Int32).toNatClampNeg = 0 := rfl
  have hti : (nI k).toInt = (k : Int) := nI_toInt (by omega)
  have nk : ¬ nI k < 0 := nI_pos (by omega)
  have z0 : (0 : Int32).toInt = 0 := rfl
  obtain ⟨cell, t1, t2, t3, t4, t5, t6, t7⟩ := (h.1.2.2.2.2.2.2.2.2.1 j hj).2
  have hc0 : H[g.2.2.2.2.2 j]? = some cell := by rw [hS.2.1 _ (Array.getElem?_eq_some_iff.mp t1).1 t7]; exact t1
  obtain ⟨hk0', kc0, hkc0, cm0, hkk0⟩ := t2
  have hc1 : H[a]? = some (vp_cell g.2.2.1 (N1, .inl (I a))) := hP q1 _ hq1
  obtain ⟨-, kc1, hkc1, cm1, hkk1⟩ := (hK.2 0 _ rfl).1 N1 (fun j => .int (I a j))
  intro T hT X
  have hb := h.1.2.1
  obtain ⟨vm', X', step⟩ := X.arraycopy h.1.1 h.1.2.2.2.1 (h.1.2.2.2.2.1 _ hl) (h.1.2.2.2.2.1 _ hnat) (h.1.2.2.2.2.1 _ hstat) (h.1.2.2.2.2.1 _ hini) (src := g.2.2.2.2.2 j) (dst := a) (cs := cell) (cd := vp_cell g.2.2.1 (N1, .inl (I a))) (srcPos := 0) (destPos := 0) (n := nI k) (by rw [hT]; exact hc0) (by rw [hT]; exact hc1)
    hk0' (fun _ h => by cases h) t3 (fun h => by cases h) hkc0 hkc1 hkk0 hkk1 (by simp [refKind]) (by decide) (by decide) nk
    (by rw [hti, z0]; omega)
    (by rw [hti, z0]; show ¬ _ > ((arrV g.2.2.1 N1 (fun j => .int (I a j))).slots.size : Int); rw [arrV_size]; omega)
    (fun vm₁ _ i hi => by
      rw [hcl] at hi
      have e : cell.slots.getD ((0 : Int32).toNatClampNeg + i) .null = .int (kSv j i) := by
        rw [hcl0, Nat.zero_add, Array.getD_eq_getD_getElem?, t6 i (by omega)]
        rfl
      refine ⟨?_, ?_⟩
      · rw [e]; rfl
      · rw [e]; exact trivial)
    (g := F0 m pc ls (.int (nI k) :: .int 0 :: .ref a :: .int 0 :: .ref (g.2.2.2.2.2 j) :: st)) rfl (h.2.2.2.2.1.trans h.1.2.2.1.symm) (rest := st) rfl (by rw [hb]; exact hd) hR.1 (by show 2 * 0 + _ + _ ≤ _; omega)
  have e1 : copied cell (vp_cell g.2.2.1 (N1, .inl (I a))) 0 0 (nI k) = vp_cell g.2.2.1 (N1, .inl (va_cpy (fun z => kSv j z) (I a) 0 0 k)) := by
    have e0 : copied cell (vp_cell g.2.2.1 (N1, .inl (I a))) 0 0 (nI k) = copied (vp_cell g.2.2.1 (3, .inl (fun z => kSv j z))) (vp_cell g.2.2.1 (N1, .inl (I a))) 0 0 (nI k) := by
      show (vp_cell g.2.2.1 (N1, .inl (I a))).storeRun (0 : Int32).toNatClampNeg (cell.stretch (0 : Int32).toNatClampNeg (nI k).toNatClampNeg) = (vp_cell g.2.2.1 (N1, .inl (I a))).storeRun (0 : Int32).toNatClampNeg ((vp_cell g.2.2.1 (3, .inl (fun z => kSv j z))).stretch (0 : Int32).toNatClampNeg (nI k).toNatClampNeg)
      congr 1
      rw [hcl0, hcl]
      unfold Cell.stretch
      apply List.map_congr_left
      intro i hi
      have hi' : i < k := List.mem_range.mp hi
      rw [Nat.zero_add, Array.getD_eq_getD_getElem?, t6 i (by omega), Array.getD_eq_getD_getElem?]
      show _ = ((arrV g.2.2.1 3 (fun z => .int (kSv j z))).slots[i]?).getD .null
      rw [arrV_read _ _ (by omega)]
    rw [e0]
    have := va_copied (fun z => .int z) g.2.2.1 g.2.2.1 (fun z => kSv j z) (I a) (n0 := 3) (n1 := N1) (sp := 0) (dp := 0) (n := k) (by omega)
    show (vp_cell g.2.2.1 (N1, .inl (I a))).storeRun (0 : Int32).toNatClampNeg ((vp_cell g.2.2.1 (3, .inl (fun z => kSv j z))).stretch (0 : Int32).toNatClampNeg (nI k).toNatClampNeg) = _
    rw [hcl0, hcl]
    exact this
  rw [e1] at X' step
  have hlt : a < H.size := (Array.getElem?_eq_some_iff.mp hc1).1
  have hheap : ((T.setVm vm').setCell a (vp_cell g.2.2.1 (N1, .inl (va_cpy (fun z => kSv j z) (I a) 0 0 k)))).heap = H.setIfInBounds a (vp_cell g.2.2.1 (N1, .inl (va_cpy (fun z => kSv j z) (I a) 0 0 k))) := by rw [← hT]; rfl
  have oq : ∀ q : Nat, q ≠ a → (H.setIfInBounds a (vp_cell g.2.2.1 (N1, .inl (va_cpy (fun z => kSv j z) (I a) 0 0 k))))[q]? = H[q]? := fun q hq => by simp [Array.getElem?_setIfInBounds, Ne.symm hq]
  have hP1 : va_P g.2.1 vwCl ((kW g σ I).set q1 (a, kE g.2.2.1 g.2.2.2.1 (σ.2.1 a) (σ.2.2 a) (va_cpy (fun z => kSv j z) (I a) 0 0 k))) (H.setIfInBounds a (vp_cell g.2.2.1 (N1, .inl (va_cpy (fun z => kSv j z) (I a) 0 0 k)))) := by
    have e4 : kE g.2.2.1 g.2.2.2.1 (σ.2.1 a) (σ.2.2 a) (va_cpy (fun z => kSv j z) (I a) 0 0 k) = .inl (g.2.2.1, N1, .inl (va_cpy (fun z => kSv j z) (I a) 0 0 k)) := by simp only [kE, hs]; rfl
    rw [e4]
    exact hP.set kD hq1 (show (H.setIfInBounds a _)[a]? = some _ by simp [Array.getElem?_setIfInBounds, hlt]) oq
  rw [kArrCopyHeap ha hq0] at hP1
  obtain ⟨t, a1, b1⟩ := kk p e s m args below meth c _ _ ls ⟨h.1, h.2.1, ⟨by simpa using h.2.2.1.1, h.2.2.1.2.1, hP1, hK⟩, ⟨by simp; exact hS.1, fun q g1 g2 => by
      rw [oq q (fun e => g2 (by rw [e]; exact ha.1))]
      exact hS.2.1 q g1 g2, fun q hq => by
      rcases List.mem_append.mp hq with h3 | h3
      · exact hS.2.2 q h3
      · obtain ⟨z, -, hz⟩ := List.mem_map.mp h3
        rw [← hz]
        exact ha.1⟩, h.2.2.2.2⟩ _ hheap X'
  exact ⟨t, step t a1, b1⟩
theorem kW_push {g : kG} {N : Nat} {sh : Nat → Nat × Nat} {G : Nat → Nat → Option Nat} {I : kI} {h9 : Nat × Nat} {r : Nat → Option Nat} {i : Nat → Int32} (hN : kB g ≤ N) : kW g (N, sh, G) I ++ [(N, kE g.2.2.1 g.2.2.2.1 h9 r i)] = kW g (N + 1, va_up sh N h9, va_up G N r) (va_up I N i) := by
  have hno : N ∉ kL g (N, sh, G) := by simp only [kL, List.mem_range'_1]; omega
  simp only [kW]
  rw [va_pl_push hno]
  have hL : kL g (N, sh, G) ++ [N] = kL g (N + 1, va_up sh N h9, va_up G N r) := by
    simp only [kL]
    rw [show N + 1 - kB g = (N - kB g) + 1 by omega, List.range'_1_concat, show kB g + (N - kB g) = N by omega]
  rw [hL]
  congr 1
  funext b
  by_cases h : b = N
  · subst h; simp [va_up, kF]
  · simp [va_up, kF, h]
theorem w_new {ci i k : Nat} {sh : Nat → Nat × Nat} {G : Nat → Nat → Option Nat} {N : Nat} {C : String} {T : u_T} {ty : Nat → FieldType} (hci : kCI ci C T ty k) (hz : kfv (fun _ => none) (fun _ => 0) (kft ci) 0 = (List.range k).map (fun j => defaultValue (ty j))) (hcl : Cond.classLink μ.1.cls i C ∈ tblG) (hins : Cond.instantiable C k ∈ tblG) (hini : Cond.initialized C ∈ tblG) (hn : n.1 + 1 ≤ R.cells ∧ n.2 + k ≤ R.slots) (hd : decode μ.2.1 pc = .ok (.new i, 3)) (kk : wp g μ R E Q (n.1 + 1, n.2 + k) (N + 1, va_up sh N (ci, 0), va_up G N (fun _ => none)) (va_up I N (fun _ => 0)) (pc + 3) loc (.ref N :: st)) : wp g μ R E Q n (N, sh, G) I pc loc st := by
  intro p e s m args below meth c H locs ls h
  have hK := h.2.2.1.2.2.2
  have hP := h.2.2.1.2.2.1
  have hts := h.1.2.2.2.2.1
  have hS := h.2.2.2.1
  have hKn := hK.1 ci _ hci.1
  have hsz : H.size = N := h.2.2.1.1
  have hBN : kB g ≤ N := h.2.2.1.2.1
  refine W.newcK h.1.1 h.1.2.1 h.1.2.2.2.1 (hts _ hcl) (hts _ hins) (hts _ hini) rfl hd hn.1 hn.2 hKn.2.1 rfl fun H1 kC hkC e1 z1 o1 => ?_
  rw [hsz] at e1 z1 o1 ⊢
  have hk : ∀ (k : Nat) (x : Nat × va_E), (kW g (N, sh, G) I)[k]? = some x → H1[x.1]? = H[x.1]? := fun k x hx => o1 x.1 (hsz ▸ (hP k x hx).lt)
  have hP1 : va_P g.2.1 vwCl (kW g (N, sh, G) I ++ [(N, kE g.2.2.1 g.2.2.2.1 (ci, 0) (fun _ => none) (fun _ => 0))]) H1 := (hP.kept hk).app (fun k' x hx => by
    have hz2 : k' < 1 := (List.getElem?_eq_some_iff.mp hx).1
    rw [show k' = 0 by omega] at hx
    cases hx
    have e4 : kE g.2.2.1 g.2.2.2.1 (ci, 0) (fun _ => none) (fun _ => 0) = .inr (ci, kfv (fun _ => none) (fun _ => 0) (kft ci) 0) := by simp only [kE, if_neg hci.2.2.2.2.2.1, if_neg hci.2.2.2.2.2.2]
    rw [e4]
    refine ⟨_, hci.1, (u_born ty hts hci.2.1 hKn hkC e1 hci.2.2.1).to (fun j hj => ?_)⟩
    show defaultValue (ty j) = vp_V _ j
    unfold vp_V
    rw [hz]
    have hj' : j < k := hj
    simp [hj'])
  rw [kW_push hBN] at hP1
  exact kk p e s m args below meth c H1 locs ls ⟨h.1, h.2.1, ⟨z1, Nat.le_succ_of_le hBN, hP1, hK⟩, ⟨Nat.le_trans hS.1 (by omega), fun x h1 h2 => (o1 x (by have := hS.1; omega)).trans (hS.2.1 x h1 h2), hS.2.2⟩, h.2.2.2.2⟩
theorem w_newai {k : Nat} {x : Int32} {sh : Nat → Nat × Nat} {G : Nat → Nat → Option Nat} {N : Nat} (hx : x = nI k) (hk : k < 2 ^ 20) (ha : Cond.arrayClass .int ∈ tblG) (hn : n.1 + 1 ≤ R.cells ∧ n.2 + k ≤ R.slots) (hd : decode μ.2.1 pc = .ok (.newarray .int, 2)) (kk : wp g μ R E Q (n.1 + 1, n.2 + k) (N + 1, va_up sh N (100, k), va_up G N (fun _ => none)) (va_up I N (fun _ => 0)) (pc + 2) loc (.ref N :: st)) : wp g μ R E Q n (N, sh, G) I pc loc (.int x :: st) := by
  intro p e s m args below meth c H locs ls h
  have hK := h.2.2.1.2.2.2
  have hP := h.2.2.1.2.2.1
  have hts := h.1.2.2.2.2.1
  have hS := h.2.2.2.1
  have hsz : H.size = N := h.2.2.1.1
  have hBN : kB g ≤ N := h.2.2.1.2.1
  subst hx
  have hcl : (nI k).toNatClampNeg = k := nI_clamp (by omega)
  have hbt : k * componentBytes (newarray.typeOf .int) ≤ 536870912 := by
    have h4 : componentBytes (newarray.typeOf .int) ≤ 4 := by decide
    have := Nat.mul_le_mul_left k h4
    omega
  refine va_newaK (atype := .int) h.1.1 h.1.2.1 (hts _ ha) rfl hd rfl (nI_pos (by omega)) hcl hbt hn.1 hn.2 rfl fun H1 cA e1 z1 o1 hAr hNm => ?_
  rw [hsz] at e1 z1 o1 ⊢
  have hcA : cA = g.2.2.1 := by
    have h2 := (hK.2 0 _ rfl).2
    have h3 : s.vm.findClass ("[" ++ (newarray.typeOf .int).toString) = some g.2.2.1 := h2
    exact Option.some.inj (hNm.symm.trans h3)
  subst hcA
  have hk : ∀ (k : Nat) (x : Nat × va_E), (kW g (N, sh, G) I)[k]? = some x → H1[x.1]? = H[x.1]? := fun k x hx => o1 x.1 (hsz ▸ (hP k x hx).lt)
  have hP1 : va_P g.2.1 vwCl (kW g (N, sh, G) I ++ [(N, kE g.2.2.1 g.2.2.2.1 (100, k) (fun _ => none) (fun _ => 0))]) H1 := (hP.kept hk).app (fun k' x hx => by
    have hz : k' < 1 := (List.getElem?_eq_some_iff.mp hx).1
    rw [show k' = 0 by omega] at hx
    cases hx
    show H1[N]? = some (vp_cell _ _)
    exact e1)
  rw [kW_push hBN] at hP1
  exact kk p e s m args below meth c H1 locs ls ⟨h.1, h.2.1, ⟨z1, Nat.le_succ_of_le hBN, hP1, hK⟩, ⟨Nat.le_trans hS.1 (by omega), fun x h1 h2 => (o1 x (by have := hS.1; omega)).trans (hS.2.1 x h1 h2), hS.2.2⟩, h.2.2.2.2⟩
theorem w_newac {k : Nat} {x : Int32} {sh : Nat → Nat × Nat} {G : Nat → Nat → Option Nat} {N : Nat} (hx : x = nI k) (hk : k < 2 ^ 20) (ha : Cond.arrayClass .char ∈ tblG) (hn : n.1 + 1 ≤ R.cells ∧ n.2 + k ≤ R.slots) (hd : decode μ.2.1 pc = .ok (.newarray .char, 2)) (kk : wp g μ R E Q (n.1 + 1, n.2 + k) (N + 1, va_up sh N (101, k), va_up G N (fun _ => none)) (va_up I N (fun _ => 0)) (pc + 2) loc (.ref N :: st)) : wp g μ R E Q n (N, sh, G) I pc loc (.int x :: st) := by
  intro p e s m args below meth c H locs ls h
  have hK := h.2.2.1.2.2.2
  have hP := h.2.2.1.2.2.1
  have hts := h.1.2.2.2.2.1
  have hS := h.2.2.2.1
  have hsz : H.size = N := h.2.2.1.1
  have hBN : kB g ≤ N := h.2.2.1.2.1
  subst hx
  have hcl : (nI k).toNatClampNeg = k := nI_clamp (by omega)
  have hbt : k * componentBytes (newarray.typeOf .char) ≤ 536870912 := by
    have h4 : componentBytes (newarray.typeOf .char) ≤ 4 := by decide
    have := Nat.mul_le_mul_left k h4
    omega
  refine va_newaK (atype := .char) h.1.1 h.1.2.1 (hts _ ha) rfl hd rfl (nI_pos (by omega)) hcl hbt hn.1 hn.2 rfl fun H1 cA e1 z1 o1 hAr hNm => ?_
  rw [hsz] at e1 z1 o1 ⊢
  have hcA : cA = g.2.2.2.1 := by
    have h2 := (hK.2 1 _ rfl).2
    have h3 : s.vm.findClass ("[" ++ (newarray.typeOf .char).toString) = some g.2.2.2.1 := h2
    exact Option.some.inj (hNm.symm.trans h3)
  subst hcA
  have hk : ∀ (k : Nat) (x : Nat × va_E), (kW g (N, sh, G) I)[k]? = some x → H1[x.1]? = H[x.1]? := fun k x hx => o1 x.1 (hsz ▸ (hP k x hx).lt)
  have hP1 : va_P g.2.1 vwCl (kW g (N, sh, G) I ++ [(N, kE g.2.2.1 g.2.2.2.1 (101, k) (fun _ => none) (fun _ => 0))]) H1 := (hP.kept hk).app (fun k' x hx => by
    have hz : k' < 1 := (List.getElem?_eq_some_iff.mp hx).1
    rw [show k' = 0 by omega] at hx
    cases hx
    show H1[N]? = some (vp_cell _ _)
    exact e1)
  rw [kW_push hBN] at hP1
  exact kk p e s m args below meth c H1 locs ls ⟨h.1, h.2.1, ⟨z1, Nat.le_succ_of_le hBN, hP1, hK⟩, ⟨Nat.le_trans hS.1 (by omega), fun x h1 h2 => (o1 x (by have := hS.1; omega)).trans (hS.2.1 x h1 h2), hS.2.2⟩, h.2.2.2.2⟩
def kX (b L : Nat) (xs : Nat → Int32) (B : Nat) (s : State) : Prop := va_X b L xs s s.heap ∧ b < s.heap.size ∧ b < B
theorem w_sld {b L j : Nat} {xs : Nat → Int32} {x : Int32} (hE : ∀ s, E s → kX b L xs (kB g) s) (hx : x = nI j) (hj : j < L) (hL : L < 2 ^ 31) (hd : decode μ.2.1 pc = .ok (.iaload, 1)) (kk : wp g μ R E Q n σ I (pc + 1) loc (.int (xs j) :: st)) : wp g μ R E Q n σ I pc loc (.int x :: .ref b :: st) := by
  intro p e s m args below meth c H locs ls h
  obtain ⟨h1, h2, h3⟩ := hE s h.2.1
  subst hx
  have k2 := kk p e s m args below meth c H locs ls h
  rw [show xs j = xs (nI j).toNatClampNeg by rw [nI_clamp (by omega)]] at k2
  exact va_sld h.1.1 h.1.2.1 h1 h2 (by simp [kA]; exact h3) h.2.2.2.1 (vp_in_nI hj hL) hd k2
theorem w_slen {b L : Nat} {xs : Nat → Int32} (hE : ∀ s, E s → kX b L xs (kB g) s) (hd : decode μ.2.1 pc = .ok (.arraylength, 1)) (kk : wp g μ R E Q n σ I (pc + 1) loc (.int (nI L) :: st)) : wp g μ R E Q n σ I pc loc (.ref b :: st) := by
  intro p e s m args below meth c H locs ls h
  obtain ⟨h1, h2, h3⟩ := hE s h.2.1
  exact va_slen h.1.1 h.1.2.1 h1 h2 (by simp [kA]; exact h3) h.2.2.2.1 hd (kk p e s m args below meth c H locs ls h)
end KWQ
