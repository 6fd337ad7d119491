section KWR
variable {g : kG} {μ : kM} {R : Room} {E : State → Prop} {Q : kP} {n : Nat × Nat} {σ : kS} {I : kI} {pc : Nat} {loc : List (Option Value)} {st : List Value}
def qI (r : Int32) (σ0 : kS) (I0 : kI) : kP := fun v σ I => v = some (.int r) ∧ σ = σ0 ∧ I = I0
def qV (σ0 : kS) (I0 : kI) : kP := fun v σ I => v = none ∧ σ = σ0 ∧ I = I0
def qEI (σ0 : kS) (P : Int32 → kI → Prop) : kP := fun v σ I => ∃ r, v = some (.int r) ∧ σ = σ0 ∧ P r I
def qEV (σ0 : kS) (P : kI → Prop) : kP := fun v σ I => v = none ∧ σ = σ0 ∧ P I
def qRI (σ0 : kS) (P : Int32 → (Nat → Nat → Option Nat) → kI → Prop) : kP := fun v σ I => ∃ r, v = some (.int r) ∧ σ.1 = σ0.1 ∧ σ.2.1 = σ0.2.1 ∧ P r σ.2.2 I
def qRV (σ0 : kS) (P : (Nat → Nat → Option Nat) → kI → Prop) : kP := fun v σ I => v = none ∧ σ.1 = σ0.1 ∧ σ.2.1 = σ0.2.1 ∧ P σ.2.2 I
theorem ctMono {as : List Value} {Q' : kP} (h : ∀ v σ I, Q v σ I → Q' v σ I) (c : ct g μ R as σ I Q) : ct g μ R as σ I Q' := by
  intro p e h1 h2 h3 s m args below hf happ hP hK
  obtain ⟨k, o, r1, r2, r3, ⟨⟨v, σ', I', c1, c2, c3⟩, r4⟩⟩ := c p e h1 h2 h3 s m args below hf happ hP hK
  exact ⟨k, o, r1, r2, r3, ⟨⟨v, σ', I', c1, h _ _ _ c2, c3⟩, r4⟩⟩
theorem w_callV_I {μ' : kM} {R' : Room} {as stk : List Value} {i : Nat} {b ci : Nat} {T : u_T} {ty : Nat → FieldType} {N : Nat} {r : Int32} {I0 : kI} (hct : ct g μ' R' (.ref b :: as) σ I (qI r σ I0)) (hok : kOK μ' as.length) (hin : Cond.instanceMethod μ'.1 ∈ tblG) (hse : Cond.selects μ'.1.cls μ'.1 μ'.1 ∈ tblG) (hci : kCI ci μ'.1.cls T ty N) (hb : kB g ≤ b ∧ b < σ.1) (hs : σ.2.1 b = (ci, 0)) (hl : Cond.methodLink μ.1.cls i μ'.1 ∈ tblG) (hR : R'.frames + 1 ≤ R.frames ∧ 8 + (μ'.2.2.1 + 11) + R'.locals ≤ R.locals) (hz : R'.cells = 0 ∧ R'.slots = 0) (hnn : n.1 ≤ R.cells ∧ n.2 ≤ R.slots) (hstk : stk = as.reverse ++ .ref b :: st) (hW : (st.map fun v => v.category).sum ≤ 8) (hd : decode μ.2.1 pc = .ok (.invokevirtual i, 3)) (kk : wp g μ R E Q n σ I0 (pc + 3) loc (.int r :: st)) : wp g μ R E Q n σ I pc loc stk := by
  refine w_callV hct hok hin hse hci hb hs hl ⟨hR, by rw [hz.1]; exact hnn.1, by rw [hz.2]; exact hnn.2⟩ hstk hW hd (fun v σ' I' hq => ?_)
  obtain ⟨rfl, rfl, rfl⟩ := hq
  rw [hz.1, hz.2, Nat.add_zero, Nat.add_zero]
  exact kk
theorem w_callV_V {μ' : kM} {R' : Room} {as stk : List Value} {i : Nat} {b ci : Nat} {T : u_T} {ty : Nat → FieldType} {N : Nat} {I0 : kI} (hct : ct g μ' R' (.ref b :: as) σ I (qV σ I0)) (hok : kOK μ' as.length) (hin : Cond.instanceMethod μ'.1 ∈ tblG) (hse : Cond.selects μ'.1.cls μ'.1 μ'.1 ∈ tblG) (hci : kCI ci μ'.1.cls T ty N) (hb : kB g ≤ b ∧ b < σ.1) (hs : σ.2.1 b = (ci, 0)) (hl : Cond.methodLink μ.1.cls i μ'.1 ∈ tblG) (hR : R'.frames + 1 ≤ R.frames ∧ 8 + (μ'.2.2.1 + 11) + R'.locals ≤ R.locals) (hz : R'.cells = 0 ∧ R'.slots = 0) (hnn : n.1 ≤ R.cells ∧ n.2 ≤ R.slots) (hstk : stk = as.reverse ++ .ref b :: st) (hW : (st.map fun v => v.category).sum ≤ 8) (hd : decode μ.2.1 pc = .ok (.invokevirtual i, 3)) (kk : wp g μ R E Q n σ I0 (pc + 3) loc st) : wp g μ R E Q n σ I pc loc stk := by
  refine w_callV hct hok hin hse hci hb hs hl ⟨hR, by rw [hz.1]; exact hnn.1, by rw [hz.2]; exact hnn.2⟩ hstk hW hd (fun v σ' I' hq => ?_)
  obtain ⟨rfl, rfl, rfl⟩ := hq
  rw [hz.1, hz.2, Nat.add_zero, Nat.add_zero]
  exact kk
theorem w_callV_EI {μ' : kM} {R' : Room} {as stk : List Value} {i : Nat} {b ci : Nat} {T : u_T} {ty : Nat → FieldType} {N : Nat} {P : Int32 → kI → Prop} (hct : ct g μ' R' (.ref b :: as) σ I (qEI σ P)) (hok : kOK μ' as.length) (hin : Cond.instanceMethod μ'.1 ∈ tblG) (hse : Cond.selects μ'.1.cls μ'.1 μ'.1 ∈ tblG) (hci : kCI ci μ'.1.cls T ty N) (hb : kB g ≤ b ∧ b < σ.1) (hs : σ.2.1 b = (ci, 0)) (hl : Cond.methodLink μ.1.cls i μ'.1 ∈ tblG) (hR : R'.frames + 1 ≤ R.frames ∧ 8 + (μ'.2.2.1 + 11) + R'.locals ≤ R.locals) (hz : R'.cells = 0 ∧ R'.slots = 0) (hnn : n.1 ≤ R.cells ∧ n.2 ≤ R.slots) (hstk : stk = as.reverse ++ .ref b :: st) (hW : (st.map fun v => v.category).sum ≤ 8) (hd : decode μ.2.1 pc = .ok (.invokevirtual i, 3)) (kk : ∀ r I0, P r I0 → wp g μ R E Q n σ I0 (pc + 3) loc (.int r :: st)) : wp g μ R E Q n σ I pc loc stk := by
  refine w_callV hct hok hin hse hci hb hs hl ⟨hR, by rw [hz.1]; exact hnn.1, by rw [hz.2]; exact hnn.2⟩ hstk hW hd (fun v σ' I' hq => ?_)
  obtain ⟨r, rfl, rfl, hp⟩ := hq
  rw [hz.1, hz.2, Nat.add_zero, Nat.add_zero]
  exact kk r _ hp
theorem w_callV_EV {μ' : kM} {R' : Room} {as stk : List Value} {i : Nat} {b ci : Nat} {T : u_T} {ty : Nat → FieldType} {N : Nat} {P : kI → Prop} (hct : ct g μ' R' (.ref b :: as) σ I (qEV σ P)) (hok : kOK μ' as.length) (hin : Cond.instanceMethod μ'.1 ∈ tblG) (hse : Cond.selects μ'.1.cls μ'.1 μ'.1 ∈ tblG) (hci : kCI ci μ'.1.cls T ty N) (hb : kB g ≤ b ∧ b < σ.1) (hs : σ.2.1 b = (ci, 0)) (hl : Cond.methodLink μ.1.cls i μ'.1 ∈ tblG) (hR : R'.frames + 1 ≤ R.frames ∧ 8 + (μ'.2.2.1 + 11) + R'.locals ≤ R.locals) (hz : R'.cells = 0 ∧ R'.slots = 0) (hnn : n.1 ≤ R.cells ∧ n.2 ≤ R.slots) (hstk : stk = as.reverse ++ .ref b :: st) (hW : (st.map fun v => v.category).sum ≤ 8) (hd : decode μ.2.1 pc = .ok (.invokevirtual i, 3)) (kk : ∀ I0, P I0 → wp g μ R E Q n σ I0 (pc + 3) loc st) : wp g μ R E Q n σ I pc loc stk := by
  refine w_callV hct hok hin hse hci hb hs hl ⟨hR, by rw [hz.1]; exact hnn.1, by rw [hz.2]; exact hnn.2⟩ hstk hW hd (fun v σ' I' hq => ?_)
  obtain ⟨rfl, rfl, hp⟩ := hq
  rw [hz.1, hz.2, Nat.add_zero, Nat.add_zero]
  exact kk _ hp
theorem w_callV_RI {μ' : kM} {R' : Room} {as stk : List Value} {i : Nat} {b ci : Nat} {T : u_T} {ty : Nat → FieldType} {N : Nat} {P : Int32 → (Nat → Nat → Option Nat) → kI → Prop} (hct : ct g μ' R' (.ref b :: as) σ I (qRI σ P)) (hok : kOK μ' as.length) (hin : Cond.instanceMethod μ'.1 ∈ tblG) (hse : Cond.selects μ'.1.cls μ'.1 μ'.1 ∈ tblG) (hci : kCI ci μ'.1.cls T ty N) (hb : kB g ≤ b ∧ b < σ.1) (hs : σ.2.1 b = (ci, 0)) (hl : Cond.methodLink μ.1.cls i μ'.1 ∈ tblG) (hR : R'.frames + 1 ≤ R.frames ∧ 8 + (μ'.2.2.1 + 11) + R'.locals ≤ R.locals) (hz : R'.cells = 0 ∧ R'.slots = 0) (hnn : n.1 ≤ R.cells ∧ n.2 ≤ R.slots) (hstk : stk = as.reverse ++ .ref b :: st) (hW : (st.map fun v => v.category).sum ≤ 8) (hd : decode μ.2.1 pc = .ok (.invokevirtual i, 3)) (kk : ∀ r G0 I0, P r G0 I0 → wp g μ R E Q n (σ.1, σ.2.1, G0) I0 (pc + 3) loc (.int r :: st)) : wp g μ R E Q n σ I pc loc stk := by
  refine w_callV hct hok hin hse hci hb hs hl ⟨hR, by rw [hz.1]; exact hnn.1, by rw [hz.2]; exact hnn.2⟩ hstk hW hd (fun v σ' I' hq => ?_)
  obtain ⟨r, rfl, h1, h2, hp⟩ := hq
  rw [hz.1, hz.2, Nat.add_zero, Nat.add_zero]
  have := kk r _ _ hp
  rw [← h1, ← h2] at this
  exact this
theorem w_callV_RV {μ' : kM} {R' : Room} {as stk : List Value} {i : Nat} {b ci : Nat} {T : u_T} {ty : Nat → FieldType} {N : Nat} {P : (Nat → Nat → Option Nat) → kI → Prop} (hct : ct g μ' R' (.ref b :: as) σ I (qRV σ P)) (hok : kOK μ' as.length) (hin : Cond.instanceMethod μ'.1 ∈ tblG) (hse : Cond.selects μ'.1.cls μ'.1 μ'.1 ∈ tblG) (hci : kCI ci μ'.1.cls T ty N) (hb : kB g ≤ b ∧ b < σ.1) (hs : σ.2.1 b = (ci, 0)) (hl : Cond.methodLink μ.1.cls i μ'.1 ∈ tblG) (hR : R'.frames + 1 ≤ R.frames ∧ 8 + (μ'.2.2.1 + 11) + R'.locals ≤ R.locals) (hz : R'.cells = 0 ∧ R'.slots = 0) (hnn : n.1 ≤ R.cells ∧ n.2 ≤ R.slots) (hstk : stk = as.reverse ++ .ref b :: st) (hW : (st.map fun v => v.category).sum ≤ 8) (hd : decode μ.2.1 pc = .ok (.invokevirtual i, 3)) (kk : ∀ G0 I0, P G0 I0 → wp g μ R E Q n (σ.1, σ.2.1, G0) I0 (pc + 3) loc st) : wp g μ R E Q n σ I pc loc stk := by
  refine w_callV hct hok hin hse hci hb hs hl ⟨hR, by rw [hz.1]; exact hnn.1, by rw [hz.2]; exact hnn.2⟩ hstk hW hd (fun v σ' I' hq => ?_)
  obtain ⟨rfl, h1, h2, hp⟩ := hq
  rw [hz.1, hz.2, Nat.add_zero, Nat.add_zero]
  have := kk _ _ hp
  rw [← h1, ← h2] at this
  exact this
theorem w_callS_I {μ' : kM} {R' : Room} {as stk : List Value} {i : Nat} {r : Int32} {I0 : kI} (hct : ct g μ' R' as σ I (qI r σ I0)) (hok : kOK μ' as.length) (hin : Cond.static μ'.1 ∈ tblG) (hl : Cond.methodLink μ.1.cls i μ'.1 ∈ tblG) (hR : R'.frames + 1 ≤ R.frames ∧ 8 + (μ'.2.2.1 + 11) + R'.locals ≤ R.locals) (hz : R'.cells = 0 ∧ R'.slots = 0) (hnn : n.1 ≤ R.cells ∧ n.2 ≤ R.slots) (hstk : stk = as.reverse ++ st) (hW : (st.map fun v => v.category).sum ≤ 8) (hd : decode μ.2.1 pc = .ok (.invokestatic i, 3)) (kk : wp g μ R E Q n σ I0 (pc + 3) loc (.int r :: st)) : wp g μ R E Q n σ I pc loc stk := by
  refine w_callS hct hok hin hl ⟨hR, by rw [hz.1]; exact hnn.1, by rw [hz.2]; exact hnn.2⟩ hstk hW hd (fun v σ' I' hq => ?_)
  obtain ⟨rfl, rfl, rfl⟩ := hq
  rw [hz.1, hz.2, Nat.add_zero, Nat.add_zero]
  exact kk
theorem w_callS_V {μ' : kM} {R' : Room} {as stk : List Value} {i : Nat} {I0 : kI} (hct : ct g μ' R' as σ I (qV σ I0)) (hok : kOK μ' as.length) (hin : Cond.static μ'.1 ∈ tblG) (hl : Cond.methodLink μ.1.cls i μ'.1 ∈ tblG) (hR : R'.frames + 1 ≤ R.frames ∧ 8 + (μ'.2.2.1 + 11) + R'.locals ≤ R.locals) (hz : R'.cells = 0 ∧ R'.slots = 0) (hnn : n.1 ≤ R.cells ∧ n.2 ≤ R.slots) (hstk : stk = as.reverse ++ st) (hW : (st.map fun v => v.category).sum ≤ 8) (hd : decode μ.2.1 pc = .ok (.invokestatic i, 3)) (kk : wp g μ R E Q n σ I0 (pc + 3) loc st) : wp g μ R E Q n σ I pc loc stk := by
  refine w_callS hct hok hin hl ⟨hR, by rw [hz.1]; exact hnn.1, by rw [hz.2]; exact hnn.2⟩ hstk hW hd (fun v σ' I' hq => ?_)
  obtain ⟨rfl, rfl, rfl⟩ := hq
  rw [hz.1, hz.2, Nat.add_zero, Nat.add_zero]
  exact kk
theorem w_callS_EI {μ' : kM} {R' : Room} {as stk : List Value} {i : Nat} {P : Int32 → kI → Prop} (hct : ct g μ' R' as σ I (qEI σ P)) (hok : kOK μ' as.length) (hin : Cond.static μ'.1 ∈ tblG) (hl : Cond.methodLink μ.1.cls i μ'.1 ∈ tblG) (hR : R'.frames + 1 ≤ R.frames ∧ 8 + (μ'.2.2.1 + 11) + R'.locals ≤ R.locals) (hz : R'.cells = 0 ∧ R'.slots = 0) (hnn : n.1 ≤ R.cells ∧ n.2 ≤ R.slots) (hstk : stk = as.reverse ++ st) (hW : (st.map fun v => v.category).sum ≤ 8) (hd : decode μ.2.1 pc = .ok (.invokestatic i, 3)) (kk : ∀ r I0, P r I0 → wp g μ R E Q n σ I0 (pc + 3) loc (.int r :: st)) : wp g μ R E Q n σ I pc loc stk := by
  refine w_callS hct hok hin hl ⟨hR, by rw [hz.1]; exact hnn.1, by rw [hz.2]; exact hnn.2⟩ hstk hW hd (fun v σ' I' hq => ?_)
  obtain ⟨r, rfl, rfl, hp⟩ := hq
  rw [hz.1, hz.2, Nat.add_zero, Nat.add_zero]
  exact kk r _ hp
theorem w_callS_EV {μ' : kM} {R' : Room} {as stk : List Value} {i : Nat} {P : kI → Prop} (hct : ct g μ' R' as σ I (qEV σ P)) (hok : kOK μ' as.length) (hin : Cond.static μ'.1 ∈ tblG) (hl : Cond.methodLink μ.1.cls i μ'.1 ∈ tblG) (hR : R'.frames + 1 ≤ R.frames ∧ 8 + (μ'.2.2.1 + 11) + R'.locals ≤ R.locals) (hz : R'.cells = 0 ∧ R'.slots = 0) (hnn : n.1 ≤ R.cells ∧ n.2 ≤ R.slots) (hstk : stk = as.reverse ++ st) (hW : (st.map fun v => v.category).sum ≤ 8) (hd : decode μ.2.1 pc = .ok (.invokestatic i, 3)) (kk : ∀ I0, P I0 → wp g μ R E Q n σ I0 (pc + 3) loc st) : wp g μ R E Q n σ I pc loc stk := by
  refine w_callS hct hok hin hl ⟨hR, by rw [hz.1]; exact hnn.1, by rw [hz.2]; exact hnn.2⟩ hstk hW hd (fun v σ' I' hq => ?_)
  obtain ⟨rfl, rfl, hp⟩ := hq
  rw [hz.1, hz.2, Nat.add_zero, Nat.add_zero]
  exact kk _ hp
theorem w_callS_RI {μ' : kM} {R' : Room} {as stk : List Value} {i : Nat} {P : Int32 → (Nat → Nat → Option Nat) → kI → Prop} (hct : ct g μ' R' as σ I (qRI σ P)) (hok : kOK μ' as.length) (hin : Cond.static μ'.1 ∈ tblG) (hl : Cond.methodLink μ.1.cls i μ'.1 ∈ tblG) (hR : R'.frames + 1 ≤ R.frames ∧ 8 + (μ'.2.2.1 + 11) + R'.locals ≤ R.locals) (hz : R'.cells = 0 ∧ R'.slots = 0) (hnn : n.1 ≤ R.cells ∧ n.2 ≤ R.slots) (hstk : stk = as.reverse ++ st) (hW : (st.map fun v => v.category).sum ≤ 8) (hd : decode μ.2.1 pc = .ok (.invokestatic i, 3)) (kk : ∀ r G0 I0, P r G0 I0 → wp g μ R E Q n (σ.1, σ.2.1, G0) I0 (pc + 3) loc (.int r :: st)) : wp g μ R E Q n σ I pc loc stk := by
  refine w_callS hct hok hin hl ⟨hR, by rw [hz.1]; exact hnn.1, by rw [hz.2]; exact hnn.2⟩ hstk hW hd (fun v σ' I' hq => ?_)
  obtain ⟨r, rfl, h1, h2, hp⟩ := hq
  rw [hz.1, hz.2, Nat.add_zero, Nat.add_zero]
  have := kk r _ _ hp
  rw [← h1, ← h2] at this
  exact this
theorem w_callS_RV {μ' : kM} {R' : Room} {as stk : List Value} {i : Nat} {P : (Nat → Nat → Option Nat) → kI → Prop} (hct : ct g μ' R' as σ I (qRV σ P)) (hok : kOK μ' as.length) (hin : Cond.static μ'.1 ∈ tblG) (hl : Cond.methodLink μ.1.cls i μ'.1 ∈ tblG) (hR : R'.frames + 1 ≤ R.frames ∧ 8 + (μ'.2.2.1 + 11) + R'.locals ≤ R.locals) (hz : R'.cells = 0 ∧ R'.slots = 0) (hnn : n.1 ≤ R.cells ∧ n.2 ≤ R.slots) (hstk : stk = as.reverse ++ st) (hW : (st.map fun v => v.category).sum ≤ 8) (hd : decode μ.2.1 pc = .ok (.invokestatic i, 3)) (kk : ∀ G0 I0, P G0 I0 → wp g μ R E Q n (σ.1, σ.2.1, G0) I0 (pc + 3) loc st) : wp g μ R E Q n σ I pc loc stk := by
  refine w_callS hct hok hin hl ⟨hR, by rw [hz.1]; exact hnn.1, by rw [hz.2]; exact hnn.2⟩ hstk hW hd (fun v σ' I' hq => ?_)
  obtain ⟨rfl, h1, h2, hp⟩ := hq
  rw [hz.1, hz.2, Nat.add_zero, Nat.add_zero]
  have := kk _ _ hp
  rw [← h1, ← h2] at this
  exact this
theorem w_callN_I {μ' : kM} {R' : Room} {as stk : List Value} {i : Nat} {host : String} {r : Int32} {I0 : kI} (hct : ct g μ' R' as σ I (qI r σ I0)) (hok : kOK μ' as.length) (hin : Cond.static μ'.1 ∈ tblG) (hl : Cond.methodLinkNest μ.1.cls i μ'.1 host ∈ nestWs) (hR : R'.frames + 1 ≤ R.frames ∧ 8 + (μ'.2.2.1 + 11) + R'.locals ≤ R.locals) (hz : R'.cells = 0 ∧ R'.slots = 0) (hnn : n.1 ≤ R.cells ∧ n.2 ≤ R.slots) (hstk : stk = as.reverse ++ st) (hW : (st.map fun v => v.category).sum ≤ 8) (hd : decode μ.2.1 pc = .ok (.invokestatic i, 3)) (kk : wp g μ R E Q n σ I0 (pc + 3) loc (.int r :: st)) : wp g μ R E Q n σ I pc loc stk := by
  refine w_callSN hct hok hin hl ⟨hR, by rw [hz.1]; exact hnn.1, by rw [hz.2]; exact hnn.2⟩ hstk hW hd (fun v σ' I' hq => ?_)
  obtain ⟨rfl, rfl, rfl⟩ := hq
  rw [hz.1, hz.2, Nat.add_zero, Nat.add_zero]
  exact kk
theorem w_callN_V {μ' : kM} {R' : Room} {as stk : List Value} {i : Nat} {host : String} {I0 : kI} (hct : ct g μ' R' as σ I (qV σ I0)) (hok : kOK μ' as.length) (hin : Cond.static μ'.1 ∈ tblG) (hl : Cond.methodLinkNest μ.1.cls i μ'.1 host ∈ nestWs) (hR : R'.frames + 1 ≤ R.frames ∧ 8 + (μ'.2.2.1 + 11) + R'.locals ≤ R.locals) (hz : R'.cells = 0 ∧ R'.slots = 0) (hnn : n.1 ≤ R.cells ∧ n.2 ≤ R.slots) (hstk : stk = as.reverse ++ st) (hW : (st.map fun v => v.category).sum ≤ 8) (hd : decode μ.2.1 pc = .ok (.invokestatic i, 3)) (kk : wp g μ R E Q n σ I0 (pc + 3) loc st) : wp g μ R E Q n σ I pc loc stk := by
  refine w_callSN hct hok hin hl ⟨hR, by rw [hz.1]; exact hnn.1, by rw [hz.2]; exact hnn.2⟩ hstk hW hd (fun v σ' I' hq => ?_)
  obtain ⟨rfl, rfl, rfl⟩ := hq
  rw [hz.1, hz.2, Nat.add_zero, Nat.add_zero]
  exact kk
theorem w_callN_EI {μ' : kM} {R' : Room} {as stk : List Value} {i : Nat} {host : String} {P : Int32 → kI → Prop} (hct : ct g μ' R' as σ I (qEI σ P)) (hok : kOK μ' as.length) (hin : Cond.static μ'.1 ∈ tblG) (hl : Cond.methodLinkNest μ.1.cls i μ'.1 host ∈ nestWs) (hR : R'.frames + 1 ≤ R.frames ∧ 8 + (μ'.2.2.1 + 11) + R'.locals ≤ R.locals) (hz : R'.cells = 0 ∧ R'.slots = 0) (hnn : n.1 ≤ R.cells ∧ n.2 ≤ R.slots) (hstk : stk = as.reverse ++ st) (hW : (st.map fun v => v.category).sum ≤ 8) (hd : decode μ.2.1 pc = .ok (.invokestatic i, 3)) (kk : ∀ r I0, P r I0 → wp g μ R E Q n σ I0 (pc + 3) loc (.int r :: st)) : wp g μ R E Q n σ I pc loc stk := by
  refine w_callSN hct hok hin hl ⟨hR, by rw [hz.1]; exact hnn.1, by rw [hz.2]; exact hnn.2⟩ hstk hW hd (fun v σ' I' hq => ?_)
  obtain ⟨r, rfl, rfl, hp⟩ := hq
  rw [hz.1, hz.2, Nat.add_zero, Nat.add_zero]
  exact kk r _ hp
theorem w_callN_EV {μ' : kM} {R' : Room} {as stk : List Value} {i : Nat} {host : String} {P : kI → Prop} (hct : ct g μ' R' as σ I (qEV σ P)) (hok : kOK μ' as.length) (hin : Cond.static μ'.1 ∈ tblG) (hl : Cond.methodLinkNest μ.1.cls i μ'.1 host ∈ nestWs) (hR : R'.frames + 1 ≤ R.frames ∧ 8 + (μ'.2.2.1 + 11) + R'.locals ≤ R.locals) (hz : R'.cells = 0 ∧ R'.slots = 0) (hnn : n.1 ≤ R.cells ∧ n.2 ≤ R.slots) (hstk : stk = as.reverse ++ st) (hW : (st.map fun v => v.category).sum ≤ 8) (hd : decode μ.2.1 pc = .ok (.invokestatic i, 3)) (kk : ∀ I0, P I0 → wp g μ R E Q n σ I0 (pc + 3) loc st) : wp g μ R E Q n σ I pc loc stk := by
  refine w_callSN hct hok hin hl ⟨hR, by rw [hz.1]; exact hnn.1, by rw [hz.2]; exact hnn.2⟩ hstk hW hd (fun v σ' I' hq => ?_)
  obtain ⟨rfl, rfl, hp⟩ := hq
  rw [hz.1, hz.2, Nat.add_zero, Nat.add_zero]
  exact kk _ hp
theorem w_callN_RI {μ' : kM} {R' : Room} {as stk : List Value} {i : Nat} {host : String} {P : Int32 → (Nat → Nat → Option Nat) → kI → Prop} (hct : ct g μ' R' as σ I (qRI σ P)) (hok : kOK μ' as.length) (hin : Cond.static μ'.1 ∈ tblG) (hl : Cond.methodLinkNest μ.1.cls i μ'.1 host ∈ nestWs) (hR : R'.frames + 1 ≤ R.frames ∧ 8 + (μ'.2.2.1 + 11) + R'.locals ≤ R.locals) (hz : R'.cells = 0 ∧ R'.slots = 0) (hnn : n.1 ≤ R.cells ∧ n.2 ≤ R.slots) (hstk : stk = as.reverse ++ st) (hW : (st.map fun v => v.category).sum ≤ 8) (hd : decode μ.2.1 pc = .ok (.invokestatic i, 3)) (kk : ∀ r G0 I0, P r G0 I0 → wp g μ R E Q n (σ.1, σ.2.1, G0) I0 (pc + 3) loc (.int r :: st)) : wp g μ R E Q n σ I pc loc stk := by
  refine w_callSN hct hok hin hl ⟨hR, by rw [hz.1]; exact hnn.1, by rw [hz.2]; exact hnn.2⟩ hstk hW hd (fun v σ' I' hq => ?_)
  obtain ⟨r, rfl, h1, h2, hp⟩ := hq
  rw [hz.1, hz.2, Nat.add_zero, Nat.add_zero]
  have := kk r _ _ hp
  rw [← h1, ← h2] at this
  exact this
theorem w_callN_RV {μ' : kM} {R' : Room} {as stk : List Value} {i : Nat} {host : String} {P : (Nat → Nat → Option Nat) → kI → Prop} (hct : ct g μ' R' as σ I (qRV σ P)) (hok : kOK μ' as.length) (hin : Cond.static μ'.1 ∈ tblG) (hl : Cond.methodLinkNest μ.1.cls i μ'.1 host ∈ nestWs) (hR : R'.frames + 1 ≤ R.frames ∧ 8 + (μ'.2.2.1 + 11) + R'.locals ≤ R.locals) (hz : R'.cells = 0 ∧ R'.slots = 0) (hnn : n.1 ≤ R.cells ∧ n.2 ≤ R.slots) (hstk : stk = as.reverse ++ st) (hW : (st.map fun v => v.category).sum ≤ 8) (hd : decode μ.2.1 pc = .ok (.invokestatic i, 3)) (kk : ∀ G0 I0, P G0 I0 → wp g μ R E Q n (σ.1, σ.2.1, G0) I0 (pc + 3) loc st) : wp g μ R E Q n σ I pc loc stk := by
  refine w_callSN hct hok hin hl ⟨hR, by rw [hz.1]; exact hnn.1, by rw [hz.2]; exact hnn.2⟩ hstk hW hd (fun v σ' I' hq => ?_)
  obtain ⟨rfl, h1, h2, hp⟩ := hq
  rw [hz.1, hz.2, Nat.add_zero, Nat.add_zero]
  have := kk _ _ hp
  rw [← h1, ← h2] at this
  exact this
end KWR
abbrev mX0_init : kM := (yX0_init, cX0_init, 1, none)
theorem ok_X0_init : kOK mX0_init 0 := ⟨t137, t13, ⟨by decide, by decide⟩, by decide +kernel⟩
abbrev mX0_copyFrom : kM := (yX0_copyFrom, cX0_copyFrom, 2, none)
theorem ok_X0_copyFrom : kOK mX0_copyFrom 1 := ⟨t406, t13, ⟨by decide, by decide⟩, by decide +kernel⟩
abbrev mX0_has : kM := (yX0_has, cX0_has, 2, (some .boolean))
theorem ok_X0_has : kOK mX0_has 1 := ⟨t590, t13, ⟨by decide, by decide⟩, by decide +kernel⟩
abbrev mX0_add : kM := (yX0_add, cX0_add, 2, (some .int))
theorem ok_X0_add : kOK mX0_add 1 := ⟨t586, t13, ⟨by decide, by decide⟩, by decide +kernel⟩
abbrev mX0_assign : kM := (yX0_assign, cX0_assign, 4, (some .int))
theorem ok_X0_assign : kOK mX0_assign 2 := ⟨t600, t13, ⟨by decide, by decide⟩, by decide +kernel⟩
abbrev mX0_enter : kM := (yX0_enter, cX0_enter, 3, none)
theorem ok_X0_enter : kOK mX0_enter 2 := ⟨t439, t13, ⟨by decide, by decide⟩, by decide +kernel⟩
abbrev mX0_isUnder : kM := (yX0_isUnder, cX0_isUnder, 5, (some .boolean))
theorem ok_X0_isUnder : kOK mX0_isUnder 2 := ⟨t641, t13, ⟨by decide, by decide⟩, by decide +kernel⟩
abbrev mX0_massWithAllUnder : kM := (yX0_massWithAllUnder, cX0_massWithAllUnder, 4, (some .int))
theorem ok_X0_massWithAllUnder : kOK mX0_massWithAllUnder 1 := ⟨t637, t13, ⟨by decide, by decide⟩, by decide +kernel⟩
abbrev mX0_countUnder : kM := (yX0_countUnder, cX0_countUnder, 4, (some .int))
theorem ok_X0_countUnder : kOK mX0_countUnder 1 := ⟨t645, t13, ⟨by decide, by decide⟩, by decide +kernel⟩
abbrev mX0_depth : kM := (yX0_depth, cX0_depth, 5, (some .int))
theorem ok_X0_depth : kOK mX0_depth 1 := ⟨t649, t13, ⟨by decide, by decide⟩, by decide +kernel⟩
abbrev mX1_init : kM := (yX1_init, cX1_init, 1, none)
theorem ok_X1_init : kOK mX1_init 0 := ⟨t65, t10, ⟨by decide, by decide⟩, by decide +kernel⟩
abbrev mX1_copyFrom : kM := (yX1_copyFrom, cX1_copyFrom, 2, none)
theorem ok_X1_copyFrom : kOK mX1_copyFrom 1 := ⟨t392, t10, ⟨by decide, by decide⟩, by decide +kernel⟩
abbrev mX1_mass : kM := (yX1_mass, cX1_mass, 3, (some .int))
theorem ok_X1_mass : kOK mX1_mass 2 := ⟨t327, t10, ⟨by decide, by decide⟩, by decide +kernel⟩
abbrev mX1_take : kM := (yX1_take, cX1_take, 4, none)
theorem ok_X1_take : kOK mX1_take 3 := ⟨t431, t10, ⟨by decide, by decide⟩, by decide +kernel⟩
abbrev mX1_putAtStart : kM := (yX1_putAtStart, cX1_putAtStart, 3, none)
theorem ok_X1_putAtStart : kOK mX1_putAtStart 2 := ⟨t456, t10, ⟨by decide, by decide⟩, by decide +kernel⟩
abbrev mX1_goOn : kM := (yX1_goOn, cX1_goOn, 1, none)
theorem ok_X1_goOn : kOK mX1_goOn 0 := ⟨t447, t10, ⟨by decide, by decide⟩, by decide +kernel⟩
abbrev mX1_massOfPlace : kM := (yX1_massOfPlace, cX1_massOfPlace, 5, (some .int))
theorem ok_X1_massOfPlace : kOK mX1_massOfPlace 1 := ⟨t323, t10, ⟨by decide, by decide⟩, by decide +kernel⟩
abbrev mX1_massSeen : kM := (yX1_massSeen, cX1_massSeen, 3, (some .int))
theorem ok_X1_massSeen : kOK mX1_massSeen 0 := ⟨t469, t10, ⟨by decide, by decide⟩, by decide +kernel⟩
abbrev mX2_init : kM := (yX2_init, cX2_init, 1, none)
theorem ok_X2_init : kOK mX2_init 0 := ⟨t83, t11, ⟨by decide, by decide⟩, by decide +kernel⟩
abbrev mX2_copyFrom : kM := (yX2_copyFrom, cX2_copyFrom, 2, none)
theorem ok_X2_copyFrom : kOK mX2_copyFrom 1 := ⟨t397, t11, ⟨by decide, by decide⟩, by decide +kernel⟩
abbrev mX2_has : kM := (yX2_has, cX2_has, 2, (some .boolean))
theorem ok_X2_has : kOK mX2_has 1 := ⟨t569, t11, ⟨by decide, by decide⟩, by decide +kernel⟩
abbrev mX2_addToPresent : kM := (yX2_addToPresent, cX2_addToPresent, 3, none)
theorem ok_X2_addToPresent : kOK mX2_addToPresent 2 := ⟨t435, t11, ⟨by decide, by decide⟩, by decide +kernel⟩
abbrev mX2_growPresent : kM := (yX2_growPresent, cX2_growPresent, 2, none)
theorem ok_X2_growPresent : kOK mX2_growPresent 1 := ⟨t482, t11, ⟨by decide, by decide⟩, by decide +kernel⟩
abbrev mX2_countFilledTick : kM := (yX2_countFilledTick, cX2_countFilledTick, 1, none)
theorem ok_X2_countFilledTick : kOK mX2_countFilledTick 0 := ⟨t443, t11, ⟨by decide, by decide⟩, by decide +kernel⟩
abbrev mX2_massOf : kM := (yX2_massOf, cX2_massOf, 4, (some .int))
theorem ok_X2_massOf : kOK mX2_massOf 1 := ⟨t573, t11, ⟨by decide, by decide⟩, by decide +kernel⟩
abbrev mX2_massOfAll : kM := (yX2_massOfAll, cX2_massOfAll, 3, (some .int))
theorem ok_X2_massOfAll : kOK mX2_massOfAll 0 := ⟨t351, t11, ⟨by decide, by decide⟩, by decide +kernel⟩
abbrev mX3_init : kM := (yX3_init, cX3_init, 1, none)
theorem ok_X3_init : kOK mX3_init 0 := ⟨t276, t19, ⟨by decide, by decide⟩, by decide +kernel⟩
abbrev mX4_init : kM := (yX4_init, cX4_init, 1, none)
theorem ok_X4_init : kOK mX4_init 0 := ⟨t231, t16, ⟨by decide, by decide⟩, by decide +kernel⟩
abbrev mX4_push : kM := (yX4_push, cX4_push, 3, none)
theorem ok_X4_push : kOK mX4_push 1 := ⟨t497, t16, ⟨by decide, by decide⟩, by decide +kernel⟩
abbrev mX5_init : kM := (yX5_init, cX5_init, 1, none)
theorem ok_X5_init : kOK mX5_init 0 := ⟨t38, t9, ⟨by decide, by decide⟩, by decide +kernel⟩
abbrev mX5_copyFrom : kM := (yX5_copyFrom, cX5_copyFrom, 2, none)
theorem ok_X5_copyFrom : kOK mX5_copyFrom 1 := ⟨t387, t9, ⟨by decide, by decide⟩, by decide +kernel⟩
abbrev mX5_append : kM := (yX5_append, cX5_append, 3, none)
theorem ok_X5_append : kOK mX5_append 2 := ⟨t539, t9, ⟨by decide, by decide⟩, by decide +kernel⟩
abbrev mX5_takeFromFirst : kM := (yX5_takeFromFirst, cX5_takeFromFirst, 3, none)
theorem ok_X5_takeFromFirst : kOK mX5_takeFromFirst 1 := ⟨t460, t9, ⟨by decide, by decide⟩, by decide +kernel⟩
abbrev mX5_massInside : kM := (yX5_massInside, cX5_massInside, 3, (some .int))
theorem ok_X5_massInside : kOK mX5_massInside 0 := ⟨t347, t9, ⟨by decide, by decide⟩, by decide +kernel⟩
abbrev mX6_init : kM := (yX6_init, cX6_init, 1, none)
theorem ok_X6_init : kOK mX6_init 0 := ⟨t32, t8, ⟨by decide, by decide⟩, by decide +kernel⟩
abbrev mX6_copyFrom : kM := (yX6_copyFrom, cX6_copyFrom, 2, none)
theorem ok_X6_copyFrom : kOK mX6_copyFrom 1 := ⟨t383, t8, ⟨by decide, by decide⟩, by decide +kernel⟩
abbrev mX6_hasBatch : kM := (yX6_hasBatch, cX6_hasBatch, 1, (some .boolean))
theorem ok_X6_hasBatch : kOK mX6_hasBatch 0 := ⟨t343, t8, ⟨by decide, by decide⟩, by decide +kernel⟩
abbrev mX6_putLot : kM := (yX6_putLot, cX6_putLot, 3, (some .int))
theorem ok_X6_putLot : kOK mX6_putLot 2 := ⟨t534, t8, ⟨by decide, by decide⟩, by decide +kernel⟩
abbrev mX6_setGate : kM := (yX6_setGate, cX6_setGate, 3, (some .int))
theorem ok_X6_setGate : kOK mX6_setGate 1 := ⟨t547, t8, ⟨by decide, by decide⟩, by decide +kernel⟩
abbrev mX6_switchBelt : kM := (yX6_switchBelt, cX6_switchBelt, 3, (some .int))
theorem ok_X6_switchBelt : kOK mX6_switchBelt 1 := ⟨t507, t8, ⟨by decide, by decide⟩, by decide +kernel⟩
abbrev mX6_putBin : kM := (yX6_putBin, cX6_putBin, 1, (some .int))
theorem ok_X6_putBin : kOK mX6_putBin 0 := ⟨t517, t8, ⟨by decide, by decide⟩, by decide +kernel⟩
abbrev mX6_beginBatch : kM := (yX6_beginBatch, cX6_beginBatch, 2, (some .int))
theorem ok_X6_beginBatch : kOK mX6_beginBatch 1 := ⟨t526, t8, ⟨by decide, by decide⟩, by decide +kernel⟩
abbrev mX6_passTicks : kM := (yX6_passTicks, cX6_passTicks, 4, (some .int))
theorem ok_X6_passTicks : kOK mX6_passTicks 1 := ⟨t411, t8, ⟨by decide, by decide⟩, by decide +kernel⟩
abbrev mX6_passTick : kM := (yX6_passTick, cX6_passTick, 3, (some .int))
theorem ok_X6_passTick : kOK mX6_passTick 0 := ⟨t417, t8, ⟨by decide, by decide⟩, by decide +kernel⟩
abbrev mX6_wantsMore : kM := (yX6_wantsMore, cX6_wantsMore, 1, (some .boolean))
theorem ok_X6_wantsMore : kOK mX6_wantsMore 0 := ⟨t422, t8, ⟨by decide, by decide⟩, by decide +kernel⟩
abbrev mX6_dropAtEnd : kM := (yX6_dropAtEnd, cX6_dropAtEnd, 4, (some .int))
theorem ok_X6_dropAtEnd : kOK mX6_dropAtEnd 0 := ⟨t426, t8, ⟨by decide, by decide⟩, by decide +kernel⟩
abbrev mX6_feed : kM := (yX6_feed, cX6_feed, 4, none)
theorem ok_X6_feed : kOK mX6_feed 0 := ⟨t451, t8, ⟨by decide, by decide⟩, by decide +kernel⟩
abbrev mX6_spillTooMuch : kM := (yX6_spillTooMuch, cX6_spillTooMuch, 4, none)
theorem ok_X6_spillTooMuch : kOK mX6_spillTooMuch 0 := ⟨t464, t8, ⟨by decide, by decide⟩, by decide +kernel⟩
abbrev mX6_endBatch : kM := (yX6_endBatch, cX6_endBatch, 1, none)
theorem ok_X6_endBatch : kOK mX6_endBatch 0 := ⟨t486, t8, ⟨by decide, by decide⟩, by decide +kernel⟩
abbrev mX6_setZero : kM := (yX6_setZero, cX6_setZero, 3, (some .int))
theorem ok_X6_setZero : kOK mX6_setZero 0 := ⟨t555, t8, ⟨by decide, by decide⟩, by decide +kernel⟩
abbrev mX6_correctBy : kM := (yX6_correctBy, cX6_correctBy, 4, (some .int))
theorem ok_X6_correctBy : kOK mX6_correctBy 1 := ⟨t565, t8, ⟨by decide, by decide⟩, by decide +kernel⟩
abbrev mX6_changeSetting : kM := (yX6_changeSetting, cX6_changeSetting, 4, (some .int))
theorem ok_X6_changeSetting : kOK mX6_changeSetting 2 := ⟨t609, t8, ⟨by decide, by decide⟩, by decide +kernel⟩
abbrev mX7_init : kM := (yX7_init, cX7_init, 1, none)
theorem ok_X7_init : kOK mX7_init 0 := ⟨t270, t18, ⟨by decide, by decide⟩, by decide +kernel⟩
abbrev mX8_init : kM := (yX8_init, cX8_init, 1, none)
theorem ok_X8_init : kOK mX8_init 0 := ⟨t108, t12, ⟨by decide, by decide⟩, by decide +kernel⟩
abbrev mX8_copyFrom : kM := (yX8_copyFrom, cX8_copyFrom, 2, none)
theorem ok_X8_copyFrom : kOK mX8_copyFrom 1 := ⟨t402, t12, ⟨by decide, by decide⟩, by decide +kernel⟩
abbrev mX8_reading : kM := (yX8_reading, cX8_reading, 2, (some .int))
theorem ok_X8_reading : kOK mX8_reading 1 := ⟨t478, t12, ⟨by decide, by decide⟩, by decide +kernel⟩
abbrev mX8_weigh : kM := (yX8_weigh, cX8_weigh, 4, (some .int))
theorem ok_X8_weigh : kOK mX8_weigh 1 := ⟨t474, t12, ⟨by decide, by decide⟩, by decide +kernel⟩
abbrev mX8_toldTotal : kM := (yX8_toldTotal, cX8_toldTotal, 1, (some .int))
theorem ok_X8_toldTotal : kOK mX8_toldTotal 0 := ⟨t660, t12, ⟨by decide, by decide⟩, by decide +kernel⟩
abbrev mX9_init : kM := (yX9_init, cX9_init, 1, none)
theorem ok_X9_init : kOK mX9_init 0 := ⟨t256, t17, ⟨by decide, by decide⟩, by decide +kernel⟩
abbrev mX10_init : kM := (yX10_init, cX10_init, 1, none)
theorem ok_X10_init : kOK mX10_init 0 := ⟨t24, t7, ⟨by decide, by decide⟩, by decide +kernel⟩
abbrev mX10_lot : kM := (yX10_lot, cX10_lot, 3, (some .int))
theorem ok_X10_lot : kOK mX10_lot 2 := ⟨t530, t7, ⟨by decide, by decide⟩, by decide +kernel⟩
abbrev mX10_gate : kM := (yX10_gate, cX10_gate, 2, (some .int))
theorem ok_X10_gate : kOK mX10_gate 1 := ⟨t543, t7, ⟨by decide, by decide⟩, by decide +kernel⟩
abbrev mX10_run : kM := (yX10_run, cX10_run, 2, (some .int))
theorem ok_X10_run : kOK mX10_run 1 := ⟨t503, t7, ⟨by decide, by decide⟩, by decide +kernel⟩
abbrev mX10_bin : kM := (yX10_bin, cX10_bin, 1, (some .int))
theorem ok_X10_bin : kOK mX10_bin 0 := ⟨t513, t7, ⟨by decide, by decide⟩, by decide +kernel⟩
abbrev mX10_batch : kM := (yX10_batch, cX10_batch, 2, (some .int))
theorem ok_X10_batch : kOK mX10_batch 1 := ⟨t522, t7, ⟨by decide, by decide⟩, by decide +kernel⟩
abbrev mX10_tick : kM := (yX10_tick, cX10_tick, 2, (some .int))
theorem ok_X10_tick : kOK mX10_tick 1 := ⟨t379, t7, ⟨by decide, by decide⟩, by decide +kernel⟩
abbrev mX10_zero : kM := (yX10_zero, cX10_zero, 1, (some .int))
theorem ok_X10_zero : kOK mX10_zero 0 := ⟨t551, t7, ⟨by decide, by decide⟩, by decide +kernel⟩
abbrev mX10_correct : kM := (yX10_correct, cX10_correct, 2, (some .int))
theorem ok_X10_correct : kOK mX10_correct 1 := ⟨t561, t7, ⟨by decide, by decide⟩, by decide +kernel⟩
abbrev mX10_set : kM := (yX10_set, cX10_set, 3, (some .int))
theorem ok_X10_set : kOK mX10_set 2 := ⟨t605, t7, ⟨by decide, by decide⟩, by decide +kernel⟩
abbrev mX10_account : kM := (yX10_account, cX10_account, 2, (some .int))
theorem ok_X10_account : kOK mX10_account 1 := ⟨t582, t7, ⟨by decide, by decide⟩, by decide +kernel⟩
abbrev mX10_book : kM := (yX10_book, cX10_book, 3, (some .int))
theorem ok_X10_book : kOK mX10_book 2 := ⟨t596, t7, ⟨by decide, by decide⟩, by decide +kernel⟩
abbrev mX10_accountOf : kM := (yX10_accountOf, cX10_accountOf, 4, (some .int))
theorem ok_X10_accountOf : kOK mX10_accountOf 2 := ⟨t632, t7, ⟨by decide, by decide⟩, by decide +kernel⟩
abbrev mX10_massAt : kM := (yX10_massAt, cX10_massAt, 3, (some .int))
theorem ok_X10_massAt : kOK mX10_massAt 2 := ⟨t318, t7, ⟨by decide, by decide⟩, by decide +kernel⟩
abbrev mX10_lotOf : kM := (yX10_lotOf, cX10_lotOf, 3, (some .int))
theorem ok_X10_lotOf : kOK mX10_lotOf 2 := ⟨t331, t7, ⟨by decide, by decide⟩, by decide +kernel⟩
abbrev mX10_binOf : kM := (yX10_binOf, cX10_binOf, 4, (some .int))
theorem ok_X10_binOf : kOK mX10_binOf 2 := ⟨t623, t7, ⟨by decide, by decide⟩, by decide +kernel⟩
abbrev mX10_scale : kM := (yX10_scale, cX10_scale, 3, (some .int))
theorem ok_X10_scale : kOK mX10_scale 1 := ⟨t653, t7, ⟨by decide, by decide⟩, by decide +kernel⟩
abbrev mX10_count : kM := (yX10_count, cX10_count, 3, (some .int))
theorem ok_X10_count : kOK mX10_count 1 := ⟨t336, t7, ⟨by decide, by decide⟩, by decide +kernel⟩
abbrev mX10_error : kM := (yX10_error, cX10_error, 1, (some .int))
theorem ok_X10_error : kOK mX10_error 0 := ⟨t666, t7, ⟨by decide, by decide⟩, by decide +kernel⟩
abbrev mX10_recorded : kM := (yX10_recorded, cX10_recorded, 2, (some .int))
theorem ok_X10_recorded : kOK mX10_recorded 1 := ⟨t490, t7, ⟨by decide, by decide⟩, by decide +kernel⟩
abbrev mX10_isError : kM := (yX10_isError, cX10_isError, 1, (some .boolean))
theorem ok_X10_isError : kOK mX10_isError 1 := ⟨t493, t7, ⟨by decide, by decide⟩, by decide +kernel⟩
abbrev mX10_isKind : kM := (yX10_isKind, cX10_isKind, 1, (some .boolean))
theorem ok_X10_isKind : kOK mX10_isKind 1 := ⟨t339, t7, ⟨by decide, by decide⟩, by decide +kernel⟩
abbrev mX10_copyInto : kM := (yX10_copyInto, cX10_copyInto, 2, none)
theorem ok_X10_copyInto : kOK mX10_copyInto 2 := ⟨t160, t7, ⟨by decide, by decide⟩, by decide +kernel⟩
abbrev mL_cell : kM := (yL_cell, cL_cell, 2, (some .int))
theorem ok_L_cell : kOK mL_cell 2 := ⟨t354, t6, ⟨by decide, by decide⟩, by decide +kernel⟩
abbrev mL_low : kM := (yL_low, cL_low, 2, (some .int))
theorem ok_L_low : kOK mL_low 2 := ⟨t358, t6, ⟨by decide, by decide⟩, by decide +kernel⟩
abbrev mL_mass : kM := (yL_mass, cL_mass, 5, (some .int))
theorem ok_L_mass : kOK mL_mass 3 := ⟨t372, t6, ⟨by decide, by decide⟩, by decide +kernel⟩
abbrev mL_feed : kM := (yL_feed, cL_feed, 7, none)
theorem ok_L_feed : kOK mL_feed 3 := ⟨t375, t6, ⟨by decide, by decide⟩, by decide +kernel⟩
abbrev mL_tick : kM := (yL_tick, cL_tick, 9, none)
theorem ok_L_tick : kOK mL_tick 5 := ⟨t369, t6, ⟨by decide, by decide⟩, by decide +kernel⟩
abbrev mL_runs : kM := (yL_runs, cL_runs, 11, (some .boolean))
theorem ok_L_runs : kOK mL_runs 8 := ⟨t366, t6, ⟨by decide, by decide⟩, by decide +kernel⟩
abbrev mL_acts : kM := (yL_acts, cL_acts, 14, (some .boolean))
theorem ok_L_acts : kOK mL_acts 7 := ⟨t362, t6, ⟨by decide, by decide⟩, by decide +kernel⟩
abbrev mL_areBins : kM := (yL_areBins, cL_areBins, 7, (some .boolean))
theorem ok_L_areBins : kOK mL_areBins 3 := ⟨t619, t6, ⟨by decide, by decide⟩, by decide +kernel⟩
abbrev mL_isSo : kM := (yL_isSo, cL_isSo, 12, (some .boolean))
theorem ok_L_isSo : kOK mL_isSo 6 := ⟨t616, t6, ⟨by decide, by decide⟩, by decide +kernel⟩
theorem pn0 : plainName RX0 = true := by decide +kernel
theorem pn1 : plainName RX1 = true := by decide +kernel
theorem pn2 : plainName RX2 = true := by decide +kernel
theorem pn3 : plainName RX3 = true := by decide +kernel
theorem pn4 : plainName RX4 = true := by decide +kernel
theorem pn5 : plainName RX5 = true := by decide +kernel
theorem pn6 : plainName RX6 = true := by decide +kernel
theorem pn7 : plainName RX7 = true := by decide +kernel
theorem pn8 : plainName RX8 = true := by decide +kernel
theorem pn9 : plainName RX9 = true := by decide +kernel
theorem pn10 : plainName RX10 = true := by decide +kernel
theorem pn11 : plainName RX11 = true := by decide +kernel
theorem pnL : plainName "BeltSumsLaw" = true := by decide +kernel
def sAcc (g : kG) (σ : kS) (a w o s : Nat) : Prop := (kB g ≤ a ∧ a < σ.1) ∧ σ.2.1 a = (0, 0) ∧ (kB g ≤ w ∧ w < σ.1) ∧ σ.2.1 w = (100, 8) ∧ (kB g ≤ o ∧ o < σ.1) ∧ σ.2.1 o = (100, 8) ∧ (kB g ≤ s ∧ s < σ.1) ∧ σ.2.1 s = (100, 4) ∧ σ.2.2 a 0 = some w ∧ σ.2.2 a 1 = some o ∧ σ.2.2 a 2 = some s ∧ a < w ∧ w < o ∧ o < s
def sBelt (g : kG) (σ : kS) (b m : Nat) : Prop := (kB g ≤ b ∧ b < σ.1) ∧ σ.2.1 b = (1, 0) ∧ (kB g ≤ m ∧ m < σ.1) ∧ σ.2.1 m = (100, 48) ∧ σ.2.2 b 0 = some m ∧ b < m
def sBins (g : kG) (σ : kS) (b m w t : Nat) : Prop := (kB g ≤ b ∧ b < σ.1) ∧ σ.2.1 b = (2, 0) ∧ (kB g ≤ m ∧ m < σ.1) ∧ σ.2.1 m = (100, 32) ∧ (kB g ≤ w ∧ w < σ.1) ∧ σ.2.1 w = (100, 8) ∧ (kB g ≤ t ∧ t < σ.1) ∧ σ.2.1 t = (100, 8) ∧ σ.2.2 b 0 = some m ∧ σ.2.2 b 1 = some w ∧ σ.2.2 b 2 = some t ∧ b < m ∧ m < w ∧ w < t
def sCmd (g : kG) (σ : kS) (c : Nat) : Prop := (kB g ≤ c ∧ c < σ.1) ∧ σ.2.1 c = (3, 0)
def sHop (g : kG) (σ : kS) (h k m : Nat) : Prop := (kB g ≤ h ∧ h < σ.1) ∧ σ.2.1 h = (5, 0) ∧ (kB g ≤ k ∧ k < σ.1) ∧ σ.2.1 k = (100, 6) ∧ (kB g ≤ m ∧ m < σ.1) ∧ σ.2.1 m = (100, 6) ∧ σ.2.2 h 0 = some k ∧ σ.2.2 h 1 = some m ∧ h < k ∧ k < m
def sScale (g : kG) (σ : kS) (s : Nat) : Prop := (kB g ≤ s ∧ s < σ.1) ∧ σ.2.1 s = (8, 0)
def sText (g : kG) (σ : kS) (t c : Nat) : Prop := (kB g ≤ t ∧ t < σ.1) ∧ σ.2.1 t = (9, 0) ∧ (kB g ≤ c ∧ c < σ.1) ∧ σ.2.1 c = (101, 60) ∧ σ.2.2 t 0 = some c ∧ t < c
def sReh (g : kG) (σ : kS) (r c : Nat) : Prop := (kB g ≤ r ∧ r < σ.1) ∧ σ.2.1 r = (7, 0) ∧ (kB g ≤ c ∧ c < σ.1) ∧ σ.2.1 c = (3, 0) ∧ σ.2.2 r 0 = some c ∧ r < c
def sMod (g : kG) (σ : kS) (q a b c d e f : Nat) : Prop := (kB g ≤ q ∧ q < σ.1) ∧ σ.2.1 q = (11, 0) ∧ (kB g ≤ a ∧ a < σ.1) ∧ σ.2.1 a = (100, 149) ∧ (kB g ≤ b ∧ b < σ.1) ∧ σ.2.1 b = (100, 596) ∧ (kB g ≤ c ∧ c < σ.1) ∧ σ.2.1 c = (100, 149) ∧ (kB g ≤ d ∧ d < σ.1) ∧ σ.2.1 d = (100, 149) ∧ (kB g ≤ e ∧ e < σ.1) ∧ σ.2.1 e = (100, 60) ∧ (kB g ≤ f ∧ f < σ.1) ∧ σ.2.1 f = (100, 2) ∧ σ.2.2 q 0 = some a ∧ σ.2.2 q 1 = some b ∧ σ.2.2 q 2 = some c ∧ σ.2.2 q 3 = some d ∧ σ.2.2 q 6 = some e ∧ σ.2.2 q 13 = some f ∧ q < a ∧ a < b ∧ b < c ∧ c < d ∧ d < e ∧ e < f
def sPlant (g : kG) (σ : kS) (p : Nat) : Prop := (kB g ≤ p ∧ p + 16 ≤ σ.1) ∧ σ.2.1 p = (6, 0) ∧ σ.2.1 (p + 1) = (5, 0) ∧ σ.2.1 (p + 2) = (100, 6) ∧ σ.2.1 (p + 3) = (100, 6) ∧ σ.2.1 (p + 4) = (1, 0) ∧ σ.2.1 (p + 5) = (100, 48) ∧ σ.2.1 (p + 6) = (2, 0) ∧ σ.2.1 (p + 7) = (100, 32) ∧ σ.2.1 (p + 8) = (100, 8) ∧ σ.2.1 (p + 9) = (100, 8) ∧ σ.2.1 (p + 10) = (8, 0) ∧ σ.2.1 (p + 11) = (0, 0) ∧ σ.2.1 (p + 12) = (100, 8) ∧ σ.2.1 (p + 13) = (100, 8) ∧ σ.2.1 (p + 14) = (100, 4) ∧ σ.2.1 (p + 15) = (100, 3) ∧ σ.2.2 p 0 = some (p + 1) ∧ σ.2.2 p 1 = some (p + 4) ∧ σ.2.2 p 2 = some (p + 6) ∧ σ.2.2 p 3 = some (p + 10) ∧ σ.2.2 p 4 = some (p + 11) ∧ σ.2.2 p 5 = some (p + 15) ∧ σ.2.2 (p + 1) 0 = some (p + 2) ∧ σ.2.2 (p + 1) 1 = some (p + 3) ∧ σ.2.2 (p + 4) 0 = some (p + 5) ∧ σ.2.2 (p + 6) 0 = some (p + 7) ∧ σ.2.2 (p + 6) 1 = some (p + 8) ∧ σ.2.2 (p + 6) 2 = some (p + 9) ∧ σ.2.2 (p + 11) 0 = some (p + 12) ∧ σ.2.2 (p + 11) 1 = some (p + 13) ∧ σ.2.2 (p + 11) 2 = some (p + 14)
theorem sP_in {g : kG} {σ : kS} {p k : Nat} (h : sPlant g σ p) (hk : k < 16) : kB g ≤ p + k ∧ p + k < σ.1 := by have := h.1; omega
theorem sP_in0 {g : kG} {σ : kS} {p : Nat} (h : sPlant g σ p) : kB g ≤ p ∧ p < σ.1 := by have := h.1; omega
theorem sP_s0 {g : kG} {σ : kS} {p : Nat} (h : sPlant g σ p) : σ.2.1 p = (6, 0) := h.2.1
theorem sP_s1 {g : kG} {σ : kS} {p : Nat} (h : sPlant g σ p) : σ.2.1 (p + 1) = (5, 0) := h.2.2.1
theorem sP_s2 {g : kG} {σ : kS} {p : Nat} (h : sPlant g σ p) : σ.2.1 (p + 2) = (100, 6) := h.2.2.2.1
theorem sP_s3 {g : kG} {σ : kS} {p : Nat} (h : sPlant g σ p) : σ.2.1 (p + 3) = (100, 6) := h.2.2.2.2.1
theorem sP_s4 {g : kG} {σ : kS} {p : Nat} (h : sPlant g σ p) : σ.2.1 (p + 4) = (1, 0) := h.2.2.2.2.2.1
theorem sP_s5 {g : kG} {σ : kS} {p : Nat} (h : sPlant g σ p) : σ.2.1 (p + 5) = (100, 48) := h.2.2.2.2.2.2.1
theorem sP_s6 {g : kG} {σ : kS} {p : Nat} (h : sPlant g σ p) : σ.2.1 (p + 6) = (2, 0) := h.2.2.2.2.2.2.2.1
theorem sP_s7 {g : kG} {σ : kS} {p : Nat} (h : sPlant g σ p) : σ.2.1 (p + 7) = (100, 32) := h.2.2.2.2.2.2.2.2.1
theorem sP_s8 {g : kG} {σ : kS} {p : Nat} (h : sPlant g σ p) : σ.2.1 (p + 8) = (100, 8) := h.2.2.2.2.2.2.2.2.2.1
theorem sP_s9 {g : kG} {σ : kS} {p : Nat} (h : sPlant g σ p) : σ.2.1 (p + 9) = (100, 8) := h.2.2.2.2.2.2.2.2.2.2.1
theorem sP_s10 {g : kG} {σ : kS} {p : Nat} (h : sPlant g σ p) : σ.2.1 (p + 10) = (8, 0) := h.2.2.2.2.2.2.2.2.2.2.2.1
theorem sP_s11 {g : kG} {σ : kS} {p : Nat} (h : sPlant g σ p) : σ.2.1 (p + 11) = (0, 0) := h.2.2.2.2.2.2.2.2.2.2.2.2.1
theorem sP_s12 {g : kG} {σ : kS} {p : Nat} (h : sPlant g σ p) : σ.2.1 (p + 12) = (100, 8) := h.2.2.2.2.2.2.2.2.2.2.2.2.2.1
theorem sP_s13 {g : kG} {σ : kS} {p : Nat} (h : sPlant g σ p) : σ.2.1 (p + 13) = (100, 8) := h.2.2.2.2.2.2.2.2.2.2.2.2.2.2.1
theorem sP_s14 {g : kG} {σ : kS} {p : Nat} (h : sPlant g σ p) : σ.2.1 (p + 14) = (100, 4) := h.2.2.2.2.2.2.2.2.2.2.2.2.2.2.2.1
theorem sP_s15 {g : kG} {σ : kS} {p : Nat} (h : sPlant g σ p) : σ.2.1 (p + 15) = (100, 3) := h.2.2.2.2.2.2.2.2.2.2.2.2.2.2.2.2.1
theorem sP_r0_0 {g : kG} {σ : kS} {p : Nat} (h : sPlant g σ p) : σ.2.2 p 0 = some (p + 1) := h.2.2.2.2.2.2.2.2.2.2.2.2.2.2.2.2.2.1
theorem sP_r0_1 {g : kG} {σ : kS} {p : Nat} (h : sPlant g σ p) : σ.2.2 p 1 = some (p + 4) := h.2.2.2.2.2.2.2.2.2.2.2.2.2.2.2.2.2.2.1
theorem sP_r0_2 {g : kG} {σ : kS} {p : Nat} (h : sPlant g σ p) : σ.2.2 p 2 = some (p + 6) := h.2.2.2.2.2.2.2.2.2.2.2.2.2.2.2.2.2.2.2.1
theorem sP_r0_3 {g : kG} {σ : kS} {p : Nat} (h : sPlant g σ p) : σ.2.2 p 3 = some (p + 10) := h.2.2.2.2.2.2.2.2.2.2.2.2.2.2.2.2.2.2.2.2.1
theorem sP_r0_4 {g : kG} {σ : kS} {p : Nat} (h : sPlant g σ p) : σ.2.2 p 4 = some (p + 11) := h.2.2.2.2.2.2.2.2.2.2.2.2.2.2.2.2.2.2.2.2.2.1
theorem sP_r0_5 {g : kG} {σ : kS} {p : Nat} (h : sPlant g σ p) : σ.2.2 p 5 = some (p + 15) := h.2.2.2.2.2.2.2.2.2.2.2.2.2.2.2.2.2.2.2.2.2.2.1
theorem sP_r1_0 {g : kG} {σ : kS} {p : Nat} (h : sPlant g σ p) : σ.2.2 (p + 1) 0 = some (p + 2) := h.2.2.2.2.2.2.2.2.2.2.2.2.2.2.2.2.2.2.2.2.2.2.2.1
theorem sP_r1_1 {g : kG} {σ : kS} {p : Nat} (h : sPlant g σ p) : σ.2.2 (p + 1) 1 = some (p + 3) := h.2.2.2.2.2.2.2.2.2.2.2.2.2.2.2.2.2.2.2.2.2.2.2.2.1
theorem sP_r4_0 {g : kG} {σ : kS} {p : Nat} (h : sPlant g σ p) : σ.2.2 (p + 4) 0 = some (p + 5) := h.2.2.2.2.2.2.2.2.2.2.2.2.2.2.2.2.2.2.2.2.2.2.2.2.2.1
theorem sP_r6_0 {g : kG} {σ : kS} {p : Nat} (h : sPlant g σ p) : σ.2.2 (p + 6) 0 = some (p + 7) := h.2.2.2.2.2.2.2.2.2.2.2.2.2.2.2.2.2.2.2.2.2.2.2.2.2.2.1
theorem sP_r6_1 {g : kG} {σ : kS} {p : Nat} (h : sPlant g σ p) : σ.2.2 (p + 6) 1 = some (p + 8) := h.2.2.2.2.2.2.2.2.2.2.2.2.2.2.2.2.2.2.2.2.2.2.2.2.2.2.2.1
theorem sP_r6_2 {g : kG} {σ : kS} {p : Nat} (h : sPlant g σ p) : σ.2.2 (p + 6) 2 = some (p + 9) := h.2.2.2.2.2.2.2.2.2.2.2.2.2.2.2.2.2.2.2.2.2.2.2.2.2.2.2.2.1
theorem sP_r11_0 {g : kG} {σ : kS} {p : Nat} (h : sPlant g σ p) : σ.2.2 (p + 11) 0 = some (p + 12) := h.2.2.2.2.2.2.2.2.2.2.2.2.2.2.2.2.2.2.2.2.2.2.2.2.2.2.2.2.2.1
theorem sP_r11_1 {g : kG} {σ : kS} {p : Nat} (h : sPlant g σ p) : σ.2.2 (p + 11) 1 = some (p + 13) := h.2.2.2.2.2.2.2.2.2.2.2.2.2.2.2.2.2.2.2.2.2.2.2.2.2.2.2.2.2.2.1
theorem sP_r11_2 {g : kG} {σ : kS} {p : Nat} (h : sPlant g σ p) : σ.2.2 (p + 11) 2 = some (p + 14) := h.2.2.2.2.2.2.2.2.2.2.2.2.2.2.2.2.2.2.2.2.2.2.2.2.2.2.2.2.2.2.2
theorem sP_Hop {g : kG} {σ : kS} {p : Nat} (h : sPlant g σ p) : sHop g σ (p + 1) (p + 2) (p + 3) := ⟨sP_in h (by decide), sP_s1 h, sP_in h (by decide), sP_s2 h, sP_in h (by decide), sP_s3 h, sP_r1_0 h, sP_r1_1 h, (by omega), (by omega)⟩
theorem sP_Belt {g : kG} {σ : kS} {p : Nat} (h : sPlant g σ p) : sBelt g σ (p + 4) (p + 5) := ⟨sP_in h (by decide), sP_s4 h, sP_in h (by decide), sP_s5 h, sP_r4_0 h, (by omega)⟩
theorem sP_Bins {g : kG} {σ : kS} {p : Nat} (h : sPlant g σ p) : sBins g σ (p + 6) (p + 7) (p + 8) (p + 9) := ⟨sP_in h (by decide), sP_s6 h, sP_in h (by decide), sP_s7 h, sP_in h (by decide), sP_s8 h, sP_in h (by decide), sP_s9 h, sP_r6_0 h, sP_r6_1 h, sP_r6_2 h, (by omega), (by omega), (by omega)⟩
theorem sP_Scale {g : kG} {σ : kS} {p : Nat} (h : sPlant g σ p) : sScale g σ (p + 10) := ⟨sP_in h (by decide), sP_s10 h⟩
theorem sP_Acc {g : kG} {σ : kS} {p : Nat} (h : sPlant g σ p) : sAcc g σ (p + 11) (p + 12) (p + 13) (p + 14) := ⟨sP_in h (by decide), sP_s11 h, sP_in h (by decide), sP_s12 h, sP_in h (by decide), sP_s13 h, sP_in h (by decide), sP_s14 h, sP_r11_0 h, sP_r11_1 h, sP_r11_2 h, (by omega), (by omega), (by omega)⟩

