section KWR
variable {g : kG} {μ : kM} {R : Room} {E : State → Prop} {Q : kP} {n : Nat × Nat} {σ : kS} {I : kI} {pc : Nat} {loc : List (Option Value)} {st : List Value}
def qI (r : Int32) (σ0 : kS) (I0 : kI) : kP := fun v σ I => v = some (.int r) ∧ σ = σ0 ∧ I = I0
def qV (σ0 : kS) (I0 : kI) : kP := fun v σ I => v = none ∧ σ = σ0 ∧ I = I0
def qEI (σ0 : kS) (P : Int32 → kI → Prop) : kP := fun v σ I => ∃ r, v = some (.int r) ∧ σ = σ0 ∧ P r I
def qEV (σ0 : kS) (P : kI → Prop) : kP := fun v σ I => v = none ∧ σ = σ0 ∧ P I
def qRI (σ0 : kS) (P : Int32 → (Nat → Nat → Option Nat) → kI → Prop) : kP := fun v σ I => ∃ r, v = some (.int r) ∧ σ.1 = σ0.1 ∧ σ.2.1 = σ0.2.1 ∧ P r σ.2.2 I
def qRV (σ0 : kS) (P : (Nat → Nat → Option Nat) → kI → Prop) : kP := fun v σ I => v = none ∧ σ.1 = σ0.1 ∧ σ.2.1 = σ0.2.1 ∧ P σ.2.2 I
theorem ctMono {as : List Value} {Q' : kP} (h : ∀ v σ I, Q v σ I → Q' v σ I) (c : ct g μ R as σ I Q) : ct g μ R as σ I Q' := by
  intro p e h1 h2 h3 s m args below hf happ hP hK
  obtain ⟨k, o, r1, r2, r3, ⟨⟨v, σ', I', c1, c2, c3⟩, r4⟩⟩ := c p e h1 h2 h3 s m args below hf happ hP hK
  exact ⟨k, o, r1, r2, r3, ⟨⟨v, σ', I', c1, h _ _ _ c2, c3⟩, r4⟩⟩
theorem w_callV_I {μ' : kM} {R' : Room} {as stk : List Value} {i : Nat} {b ci : Nat} {T : u_T} {ty : Nat → FieldType} {N : Nat} {r : Int32} {I0 : kI} (hct : ct g μ' R' (.ref b :: as) σ I (qI r σ I0)) (hok : kOK μ' as.length) (hin : Cond.instanceMethod μ'.1 ∈ tblG) (hse : Cond.selects μ'.1.cls μ'.1 μ'.1 ∈ tblG) (hci : kCI ci μ'.1.cls T ty N) (hb : kB g ≤ b ∧ b < σ.1) (hs : σ.2.1 b = (ci, 0)) (hl : Cond.methodLink μ.1.cls i μ'.1 ∈ tblG) (hR : R'.frames + 1 ≤ R.frames ∧ 8 + (μ'.2.2.1 + 11) + R'.locals ≤ R.locals) (hz : R'.cells = 0 ∧ R'.slots = 0) (hnn : n.1 ≤ R.cells ∧ n.2 ≤ R.slots) (hstk : stk = as.reverse ++ .ref b :: st) (hW : (st.map fun v => v.category).sum ≤ 8) (hd : decode μ.2.1 pc = .ok (.invokevirtual i, 3)) (kk : wp g μ R E Q n σ I0 (pc + 3) loc (.int r :: st)) : wp g μ R E Q n σ I pc loc stk := by
  refine w_callV hct hok hin hse hci hb hs hl ⟨hR, by rw [hz.1]; exact hnn.1, by rw [hz.2]; exact hnn.2⟩ hstk hW hd (fun v σ' I' hq => ?_)
  obtain ⟨rfl, rfl, rfl⟩ := hq
  rw [hz.1, hz.2, Nat.add_zero, Nat.add_zero]
  exact kk
theorem w_callV_V {μ' : kM} {R' : Room} {as stk : List Value} {i : Nat} {b ci : Nat} {T : u_T} {ty : Nat → FieldType} {N : Nat} {I0 : kI} (hct : ct g μ' R' (.ref b :: as) σ I (qV σ I0)) (hok : kOK μ' as.length) (hin : Cond.instanceMethod μ'.1 ∈ tblG) (hse : Cond.selects μ'.1.cls μ'.1 μ'.1 ∈ tblG) (hci : kCI ci μ'.1.cls T ty N) (hb : kB g ≤ b ∧ b < σ.1) (hs : σ.2.1 b = (ci, 0)) (hl : Cond.methodLink μ.1.cls i μ'.1 ∈ tblG) (hR : R'.frames + 1 ≤ R.frames ∧ 8 + (μ'.2.2.1 + 11) + R'.locals ≤ R.locals) (hz : R'.cells = 0 ∧ R'.slots = 0) (hnn : n.1 ≤ R.cells ∧ n.2 ≤ R.slots) (hstk : stk = as.reverse ++ .ref b :: st) (hW : (st.map fun v => v.category).sum ≤ 8) (hd : decode μ.2.1 pc = .ok (.invokevirtual i, 3)) (kk : wp g μ R E Q n σ I0 (pc + 3) loc st) : wp g μ R E Q n σ I pc loc stk := by
  refine w_callV hct hok hin hse hci hb hs hl ⟨hR, by rw [hz.1]; exact hnn.1, by rw [hz.2]; exact hnn.2⟩ hstk hW hd (fun v σ' I' hq => ?_)
  obtain ⟨rfl, rfl, rfl⟩ := hq
  rw [hz.1, hz.2, Nat.add_zero, Nat.add_zero]
  exact kk
theorem w_callV_EI {μ' : kM} {R' : Room} {as stk : List Value} {i : Nat} {b ci : Nat} {T : u_T} {ty : Nat → FieldType} {N : Nat} {P : Int32 → kI → Prop} (hct : ct g μ' R' (.ref b :: as) σ I (qEI σ P)) (hok : kOK μ' as.length) (hin : Cond.instanceMethod μ'.1 ∈ tblG) (hse : Cond.selects μ'.1.cls μ'.1 μ'.1 ∈ tblG) (hci : kCI ci μ'.1.cls T ty N) (hb : kB g ≤ b ∧ b < σ.1) (hs : σ.2.1 b = (ci, 0)) (hl : Cond.methodLink μ.1.cls i μ'.1 ∈ tblG) (hR : R'.frames + 1 ≤ R.frames ∧ 8 + (μ'.2.2.1 + 11) + R'.locals ≤ R.locals) (hz : R'.cells = 0 ∧ R'.slots = 0) (hnn : n.1 ≤ R.cells ∧ n.2 ≤ R.slots) (hstk : stk = as.reverse ++ .ref b :: st) (hW : (st.map fun v => v.category).sum ≤ 8) (hd : decode μ.2.1 pc = .ok (.invokevirtual i, 3)) (kk : ∀ r I0, P r I0 → wp g μ R E Q n σ I0 (pc + 3) loc (.int r :: st)) : wp g μ R E Q n σ I pc loc stk := by
  refine w_callV hct hok hin hse hci hb hs hl ⟨hR, by rw [hz.1]; exact hnn.1, by rw [hz.2]; exact hnn.2⟩ hstk hW hd (fun v σ' I' hq => ?_)
  obtain ⟨r, rfl, rfl, hp⟩ := hq
  rw [hz.1, hz.2, Nat.add_zero, Nat.add_zero]
  exact kk r _ hp
theorem w_callV_EV {μ' : kM} {R' : Room} {as stk : List Value} {i : Nat} {b ci : Nat} {T : u_T} {ty : Nat → FieldType} {N : Nat} {P : kI → Prop} (hct : ct g μ' R' (.ref b :: as) σ I (qEV σ P)) (hok : kOK μ' as.length) (hin : Cond.instanceMethod μ'.1 ∈ tblG) (hse : Cond.selects μ'.1.cls μ'.1 μ'.1 ∈ tblG) (hci : kCI ci μ'.1.cls T ty N) (hb : kB g ≤ b ∧ b < σ.1) (hs : σ.2.1 b = (ci, 0)) (hl : Cond.methodLink μ.1.cls i μ'.1 ∈ tblG) (hR : R'.frames + 1 ≤ R.frames ∧ 8 + (μ'.2.2.1 + 11) + R'.locals ≤ R.locals) (hz : R'.cells = 0 ∧ R'.slots = 0) (hnn : n.1 ≤ R.cells ∧ n.2 ≤ R.slots) (hstk : stk = as.reverse ++ .ref b :: st) (hW : (st.map fun v => v.category).sum ≤ 8) (hd : decode μ.2.1 pc = .ok (.invokevirtual i, 3)) (kk : ∀ I0, P I0 → wp g μ R E Q n σ I0 (pc + 3) loc st) : wp g μ R E Q n σ I pc loc stk := by
  refine w_callV hct hok hin hse hci hb hs hl ⟨hR, by rw [hz.1]; exact hnn.1, by rw [hz.2]; exact hnn.2⟩ hstk hW hd (fun v σ' I' hq => ?_)
  obtain ⟨rfl, rfl, hp⟩ := hq
  rw [hz.1, hz.2, Nat.add_zero, Nat.add_zero]
  exact kk _ hp
theorem w_callV_RI {μ' : kM} {R' : Room} {as stk : List Value} {i : Nat} {b ci : Nat} {T : u_T} {ty : Nat → FieldType} {N : Nat} {P : Int32 → (Nat → Nat → Option Nat) → kI → Prop} (hct : ct g μ' R' (.ref b :: as) σ I (qRI σ P)) (hok : kOK μ' as.length) (hin : Cond.instanceMethod μ'.1 ∈ tblG) (hse : Cond.selects μ'.1.cls μ'.1 μ'.1 ∈ tblG) (hci : kCI ci μ'.1.cls T ty N) (hb : kB g ≤ b ∧ b < σ.1) (hs : σ.2.1 b = (ci, 0)) (hl : Cond.methodLink μ.1.cls i μ'.1 ∈ tblG) (hR : R'.frames + 1 ≤ R.frames ∧ 8 + (μ'.2.2.1 + 11) + R'.locals ≤ R.locals) (hz : R'.cells = 0 ∧ R'.slots = 0) (hnn : n.1 ≤ R.cells ∧ n.2 ≤ R.slots) (hstk : stk = as.reverse ++ .ref b :: st) (hW : (st.map fun v => v.category).sum ≤ 8) (hd : decode μ.2.1 pc = .ok (.invokevirtual i, 3)) (kk : ∀ r G0 I0, P r G0 I0 → wp g μ R E Q n (σ.1, σ.2.1, G0) I0 (pc + 3) loc (.int r :: st)) : wp g μ R E Q n σ I pc loc stk := by
  refine w_callV hct hok hin hse hci hb hs hl ⟨hR, by rw [hz.1]; exact hnn.1, by rw [hz.2]; exact hnn.2⟩ hstk hW hd (fun v σ' I' hq => ?_)
  obtain ⟨r, rfl, h1, h2, hp⟩ := hq
  rw [hz.1, hz.2, Nat.add_zero, Nat.add_zero]
  have := kk r _ _ hp
  rw [← h1, ← h2] at this
  exact this
theorem w_callV_RV {μ' : kM} {R' : Room} {as stk : List Value} {i : Nat} {b ci : Nat} {T : u_T} {ty : Nat → FieldType} {N : Nat} {P : (Nat → Nat → Option Nat) → kI → Prop} (hct : ct g μ' R' (.ref b :: as) σ I (qRV σ P)) (hok : kOK μ' as.length) (hin : Cond.instanceMethod μ'.1 ∈ tblG) (hse : Cond.selects μ'.1.cls μ'.1 μ'.1 ∈ tblG) (hci : kCI ci μ'.1.cls T ty N) (hb : kB g ≤ b ∧ b < σ.1) (hs : σ.2.1 b = (ci, 0)) (hl : Cond.methodLink μ.1.cls i μ'.1 ∈ tblG) (hR : R'.frames + 1 ≤ R.frames ∧ 8 + (μ'.2.2.1 + 11) + R'.locals ≤ R.locals) (hz : R'.cells = 0 ∧ R'.slots = 0) (hnn : n.1 ≤ R.cells ∧ n.2 ≤ R.slots) (hstk : stk = as.reverse ++ .ref b :: st) (hW : (st.map fun v => v.category).sum ≤ 8) (hd : decode μ.2.1 pc = .ok (.invokevirtual i, 3)) (kk : ∀ G0 I0, P G0 I0 → wp g μ R E Q n (σ.1, σ.2.1, G0) I0 (pc + 3) loc st) : wp g μ R E Q n σ I pc loc stk := by
  refine w_callV hct hok hin hse hci hb hs hl ⟨hR, by rw [hz.1]; exact hnn.1, by rw [hz.2]; exact hnn.2⟩ hstk hW hd (fun v σ' I' hq => ?_)
  obtain ⟨rfl, h1, h2, hp⟩ := hq
  rw [hz.1, hz.2, Nat.add_zero, Nat.add_zero]
  have := kk _ _ hp
  rw [← h1, ← h2] at this
  exact this
theorem w_callS_I {μ' : kM} {R' : Room} {as stk : List Value} {i : Nat} {r : Int32} {I0 : kI} (hct : ct g μ' R' as σ I (qI r σ I0)) (hok : kOK μ' as.length) (hin : Cond.static μ'.1 ∈ tblG) (hl : Cond.methodLink μ.1.cls i μ'.1 ∈ tblG) (hR : R'.frames + 1 ≤ R.frames ∧ 8 + (μ'.2.2.1 + 11) + R'.locals ≤ R.locals) (hz : R'.cells = 0 ∧ R'.slots = 0) (hnn : n.1 ≤ R.cells ∧ n.2 ≤ R.slots) (hstk : stk = as.reverse ++ st) (hW : (st.map fun v => v.category).sum ≤ 8) (hd : decode μ.2.1 pc = .ok (.invokestatic i, 3)) (kk : wp g μ R E Q n σ I0 (pc + 3) loc (.int r :: st)) : wp g μ R E Q n σ I pc loc stk := by
  refine w_callS hct hok hin hl ⟨hR, by rw [hz.1]; exact hnn.1, by rw [hz.2]; exact hnn.2⟩ hstk hW hd (fun v σ' I' hq => ?_)
  obtain ⟨rfl, rfl, rfl⟩ := hq
  rw [hz.1, hz.2, Nat.add_zero, Nat.add_zero]
  exact kk
theorem w_callS_V {μ' : kM} {R' : Room} {as stk : List Value} {i : Nat} {I0 : kI} (hct : ct g μ' R' as σ I (qV σ I0)) (hok : kOK μ' as.length) (hin : Cond.static μ'.1 ∈ tblG) (hl : Cond.methodLink μ.1.cls i μ'.1 ∈ tblG) (hR : R'.frames + 1 ≤ R.frames ∧ 8 + (μ'.2.2.1 + 11) + R'.locals ≤ R.locals) (hz : R'.cells = 0 ∧ R'.slots = 0) (hnn : n.1 ≤ R.cells ∧ n.2 ≤ R.slots) (hstk : stk = as.reverse ++ st) (hW : (st.map fun v => v.category).sum ≤ 8) (hd : decode μ.2.1 pc = .ok (.invokestatic i, 3)) (kk : wp g μ R E Q n σ I0 (pc + 3) loc st) : wp g μ R E Q n σ I pc loc stk := by
  refine w_callS hct hok hin hl ⟨hR, by rw [hz.1]; exact hnn.1, by rw [hz.2]; exact hnn.2⟩ hstk hW hd (fun v σ' I' hq => ?_)
  obtain ⟨rfl, rfl, rfl⟩ := hq
  rw [hz.1, hz.2, Nat.add_zero, Nat.add_zero]
  exact kk
theorem w_callS_EI {μ' : kM} {R' : Room} {as stk : List Value} {i : Nat} {P : Int32 → kI → Prop} (hct : ct g μ' R' as σ I (qEI σ P)) (hok : kOK μ' as.length) (hin : Cond.static μ'.1 ∈ tblG) (hl : Cond.methodLink μ.1.cls i μ'.1 ∈ tblG) (hR : R'.frames + 1 ≤ R.frames ∧ 8 + (μ'.2.2.1 + 11) + R'.locals ≤ R.locals) (hz : R'.cells = 0 ∧ R'.slots = 0) (hnn : n.1 ≤ R.cells ∧ n.2 ≤ R.slots) (hstk : stk = as.reverse ++ st) (hW : (st.map fun v => v.category).sum ≤ 8) (hd : decode μ.2.1 pc = .ok (.invokestatic i, 3)) (kk : ∀ r I0, P r I0 → wp g μ R E Q n σ I0 (pc + 3) loc (.int r :: st)) : wp g μ R E Q n σ I pc loc stk := by
  refine w_callS hct hok hin hl ⟨hR, by rw [hz.1]; exact hnn.1, by rw [hz.2]; exact hnn.2⟩ hstk hW hd (fun v σ' I' hq => ?_)
  obtain ⟨r, rfl, rfl, hp⟩ := hq
  rw [hz.1, hz.2, Nat.add_zero, Nat.add_zero]
  exact kk r _ hp
theorem w_callS_EV {μ' : kM} {R' : Room} {as stk : List Value} {i : Nat} {P : kI → Prop} (hct : ct g μ' R' as σ I (qEV σ P)) (hok : kOK μ' as.length) (hin : Cond.static μ'.1 ∈ tblG) (hl : Cond.methodLink μ.1.cls i μ'.1 ∈ tblG) (hR : R'.frames + 1 ≤ R.frames ∧ 8 + (μ'.2.2.1 + 11) + R'.locals ≤ R.locals) (hz : R'.cells = 0 ∧ R'.slots = 0) (hnn : n.1 ≤ R.cells ∧ n.2 ≤ R.slots) (hstk : stk = as.reverse ++ st) (hW : (st.map fun v => v.category).sum ≤ 8) (hd : decode μ.2.1 pc = .ok (.invokestatic i, 3)) (kk : ∀ I0, P I0 → wp g μ R E Q n σ I0 (pc + 3) loc st) : wp g μ R E Q n σ I pc loc stk := by
  refine w_callS hct hok hin hl ⟨hR, by rw [hz.1]; exact hnn.1, by rw [hz.2]; exact hnn.2⟩ hstk hW hd (fun v σ' I' hq => ?_)
  obtain ⟨rfl, rfl, hp⟩ := hq
  rw [hz.1, hz.2, Nat.add_zero, Nat.add_zero]
  exact kk _ hp
theorem w_callS_RI {μ' : kM} {R' : Room} {as stk : List Value} {i : Nat} {P : Int32 → (Nat → Nat → Option Nat) → kI → Prop} (hct : ct g μ' R' as σ I (qRI σ P)) (hok : kOK μ' as.length) (hin : Cond.static μ'.1 ∈ tblG) (hl : Cond.methodLink μ.1.cls i μ'.1 ∈ tblG) (hR : R'.frames + 1 ≤ R.frames ∧ 8 + (μ'.2.2.1 + 11) + R'.locals ≤ R.locals) (hz : R'.cells = 0 ∧ R'.slots = 0) (hnn : n.1 ≤ R.cells ∧ n.2 ≤ R.slots) (hstk : stk = as.reverse ++ st) (hW : (st.map fun v => v.category).sum ≤ 8) (hd : decode μ.2.1 pc = .ok (.invokestatic i, 3)) (kk : ∀ r G0 I0, P r G0 I0 → wp g μ R E Q n (σ.1, σ.2.1, G0) I0 (pc + 3) loc (.int r :: st)) : wp g μ R E Q n σ I pc loc stk := by
  refine w_callS hct hok hin hl ⟨hR, by rw [hz.1]; exact hnn.1, by rw [hz.2]; exact hnn.2⟩ hstk hW hd (fun v σ' I' hq => ?_)
  obtain ⟨r, rfl, h1, h2, hp⟩ := hq
  rw [hz.1, hz.2, Nat.add_zero, Nat.add_zero]
  have := kk r _ _ hp
  rw [← h1, ← h2] at this
  exact this
theorem w_callS_RV {μ' : kM} {R' : Room} {as stk : List Value} {i : Nat} {P : (Nat → Nat → Option Nat) → kI → Prop} (hct : ct g μ' R' as σ I (qRV σ P)) (hok : kOK μ' as.length) (hin : Cond.static μ'.1 ∈ tblG) (hl : Cond.methodLink μ.1.cls i μ'.1 ∈ tblG) (hR : R'.frames + 1 ≤ R.frames ∧ 8 + (μ'.2.2.1 + 11) + R'.locals ≤ R.locals) (hz : R'.cells = 0 ∧ R'.slots = 0) (hnn : n.1 ≤ R.cells ∧ n.2 ≤ R.slots) (hstk : stk = as.reverse ++ st) (hW : (st.map fun v => v.category).sum ≤ 8) (hd : decode μ.2.1 pc = .ok (.invokestatic i, 3)) (kk : ∀ G0 I0, P G0 I0 → wp g μ R E Q n (σ.1, σ.2.1, G0) I0 (pc + 3) loc st) : wp g μ R E Q n σ I pc loc stk := by
  refine w_callS hct hok hin hl ⟨hR, by rw [hz.1]; exact hnn.1, by rw [hz.2]; exact hnn.2⟩ hstk hW hd (fun v σ' I' hq => ?_)
  obtain ⟨rfl, h1, h2, hp⟩ := hq
  rw [hz.1, hz.2, Nat.add_zero, Nat.add_zero]
  have := kk _ _ hp
  rw [← h1, ← h2] at this
  exact this
theorem w_callN_I {μ' : kM} {R' : Room} {as stk : List Value} {i : Nat} {host : String} {r : Int32} {I0 : kI} (hct : ct g μ' R' as σ I (qI r σ I0)) (hok : kOK μ' as.length) (hin : Cond.static μ'.1 ∈ tblG) (hl : Cond.methodLinkNest μ.1.cls i μ'.1 host ∈ nestWs) (hR : R'.frames + 1 ≤ R.frames ∧ 8 + (μ'.2.2.1 + 11) + R'.locals ≤ R.locals) (hz : R'.cells = 0 ∧ R'.slots = 0) (hnn : n.1 ≤ R.cells ∧ n.2 ≤ R.slots) (hstk : stk = as.reverse ++ st) (hW : (st.map fun v => v.category).sum ≤ 8) (hd : decode μ.2.1 pc = .ok (.invokestatic i, 3)) (kk : wp g μ R E Q n σ I0 (pc + 3) loc (.int r :: st)) : wp g μ R E Q n σ I pc loc stk := by
  refine w_callSN hct hok hin hl ⟨hR, by rw [hz.1]; exact hnn.1, by rw [hz.2]; exact hnn.2⟩ hstk hW hd (fun v σ' I' hq => ?_)
  obtain ⟨rfl, rfl, rfl⟩ := hq
  rw [hz.1, hz.2, Nat.add_zero, Nat.add_zero]
  exact kk
theorem w_callN_V {μ' : kM} {R' : Room} {as stk : List Value} {i : Nat} {host : String} {I0 : kI} (hct : ct g μ' R' as σ I (qV σ I0)) (hok : kOK μ' as.length) (hin : Cond.static μ'.1 ∈ tblG) (hl : Cond.methodLinkNest μ.1.cls i μ'.1 host ∈ nestWs) (hR : R'.frames + 1 ≤ R.frames ∧ 8 + (μ'.2.2.1 + 11) + R'.locals ≤ R.locals) (hz : R'.cells = 0 ∧ R'.slots = 0) (hnn : n.1 ≤ R.cells ∧ n.2 ≤ R.slots) (hstk : stk = as.reverse ++ st) (hW : (st.map fun v => v.category).sum ≤ 8) (hd : decode μ.2.1 pc = .ok (.invokestatic i, 3)) (kk : wp g μ R E Q n σ I0 (pc + 3) loc st) : wp g μ R E Q n σ I pc loc stk := by
  refine w_callSN hct hok hin hl ⟨hR, by rw [hz.1]; exact hnn.1, by rw [hz.2]; exact hnn.2⟩ hstk hW hd (fun v σ' I' hq => ?_)
  obtain ⟨rfl, rfl, rfl⟩ := hq
  rw [hz.1, hz.2, Nat.add_zero, Nat.add_zero]
  exact kk
theorem w_callN_EI {μ' : kM} {R' : Room} {as stk : List Value} {i : Nat} {host : String} {P : Int32 → kI → Prop} (hct : ct g μ' R' as σ I (qEI σ P)) (hok : kOK μ' as.length) (hin : Cond.static μ'.1 ∈ tblG) (hl : Cond.methodLinkNest μ.1.cls i μ'.1 host ∈ nestWs) (hR : R'.frames + 1 ≤ R.frames ∧ 8 + (μ'.2.2.1 + 11) + R'.locals ≤ R.locals) (hz : R'.cells = 0 ∧ R'.slots = 0) (hnn : n.1 ≤ R.cells ∧ n.2 ≤ R.slots) (hstk : stk = as.reverse ++ st) (hW : (st.map fun v => v.category).sum ≤ 8) (hd : decode μ.2.1 pc = .ok (.invokestatic i, 3)) (kk : ∀ r I0, P r I0 → wp g μ R E Q n σ I0 (pc + 3) loc (.int r :: st)) : wp g μ R E Q n σ I pc loc stk := by
  refine w_callSN hct hok hin hl ⟨hR, by rw [hz.1]; exact hnn.1, by rw [hz.2]; exact hnn.2⟩ hstk hW hd (fun v σ' I' hq => ?_)
  obtain ⟨r, rfl, rfl, hp⟩ := hq
  rw [hz.1, hz.2, Nat.add_zero, Nat.add_zero]
  exact kk r _ hp
theorem w_callN_EV {μ' : kM} {R' : Room} {as stk : List Value} {i : Nat} {host : String} {P : kI → Prop} (hct : ct g μ' R' as σ I (qEV σ P)) (hok : kOK μ' as.length) (hin : Cond.static μ'.1 ∈ tblG) (hl : Cond.methodLinkNest μ.1.cls i μ'.1 host ∈ nestWs) (hR : R'.frames + 1 ≤ R.frames ∧ 8 + (μ'.2.2.1 + 11) + R'.locals ≤ R.locals) (hz : R'.cells = 0 ∧ R'.slots = 0) (hnn : n.1 ≤ R.cells ∧ n.2 ≤ R.slots) (hstk : stk = as.reverse ++ st) (hW : (st.map fun v => v.category).sum ≤ 8) (hd : decode μ.2.1 pc = .ok (.invokestatic i, 3)) (kk : ∀ I0, P I0 → wp g μ R E Q n σ I0 (pc + 3) loc st) : wp g μ R E Q n σ I pc loc stk := by
  refine w_callSN hct hok hin hl ⟨hR, by rw [hz.1]; exact hnn.1, by rw [hz.2]; exact hnn.2⟩ hstk hW hd (fun v σ' I' hq => ?_)
  obtain ⟨rfl, rfl, hp⟩ := hq
  rw [hz.1, hz.2, Nat.add_zero, Nat.add_zero]
  exact kk _ hp
theorem w_callN_RI {μ' : kM} {R' : Room} {as stk : List Value} {i : Nat} {host : String} {P : Int32 → (Nat → Nat → Option Nat) → kI → Prop} (hct : ct g μ' R' as σ I (qRI σ P)) (hok : kOK μ' as.length) (hin : Cond.static μ'.1 ∈ tblG) (hl : Cond.methodLinkNest μ.1.cls i μ'.1 host ∈ nestWs) (hR : R'.frames + 1 ≤ R.frames ∧ 8 + (μ'.2.2.1 + 11) + R'.locals ≤ R.locals) (hz : R'.cells = 0 ∧ R'.slots = 0) (hnn : n.1 ≤ R.cells ∧ n.2 ≤ R.slots) (hstk : stk = as.reverse ++ st) (hW : (st.map fun v => v.category).sum ≤ 8) (hd : decode μ.2.1 pc = .ok (.invokestatic i, 3)) (kk : ∀ r G0 I0, P r G0 I0 → wp g μ R E Q n (σ.1, σ.2.1, G0) I0 (pc + 3) loc (.int r :: st)) : wp g μ R E Q n σ I pc loc stk := by
  refine w_callSN hct hok hin hl ⟨hR, by rw [hz.1]; exact hnn.1, by rw [hz.2]; exact hnn.2⟩ hstk hW hd (fun v σ' I' hq => ?_)
  obtain ⟨r, rfl, h1, h2, hp⟩ := hq
  rw [hz.1, hz.2, Nat.add_zero, Nat.add_zero]
  have := kk r _ _ hp
  rw [← h1, ← h2] at this
  exact this
theorem w_callN_RV {μ' : kM} {R' : Room} {as stk : List Value} {i : Nat} {host : String} {P : (Nat → Nat → Option Nat) → kI → Prop} (hct : ct g μ' R' as σ I (qRV σ P)) (hok : kOK μ' as.length) (hin : Cond.static μ'.1 ∈ tblG) (hl : Cond.methodLinkNest μ.1.cls i μ'.1 host ∈ nestWs) (hR : R'.frames + 1 ≤ R.frames ∧ 8 + (μ'.2.2.1 + 11) + R'.locals ≤ R.locals) (hz : R'.cells = 0 ∧ R'.slots = 0) (hnn : n.1 ≤ R.cells ∧ n.2 ≤ R.slots) (hstk : stk = as.reverse ++ st) (hW : (st.map fun v => v.category).sum ≤ 8) (hd : decode μ.2.1 pc = .ok (.invokestatic i, 3)) (kk : ∀ G0 I0, P G0 I0 → wp g μ R E Q n (σ.1, σ.2.1, G0) I0 (pc + 3) loc st) : wp g μ R E Q n σ I pc loc stk := by
  refine w_callSN hct hok hin hl ⟨hR, by rw [hz.1]; exact hnn.1, by rw [hz.2]; exact hnn.2⟩ hstk hW hd (fun v σ' I' hq => ?_)
  obtain ⟨rfl, h1, h2, hp⟩ := hq
  rw [hz.1, hz.2, Nat.add_zero, Nat.add_zero]
  have := kk _ _ hp
  rw [← h1, ← h2] at this
  exact this
end KWR
abbrev mX0_init : kM := (yX0_init, cX0_init, 1, none)
theorem ok_X0_init : kOK mX0_init 0 := ⟨t166, t41, ⟨by decide, by decide⟩, by decide +kernel⟩
abbrev mX0_copyFrom : kM := (yX0_copyFrom, cX0_copyFrom, 2, none)
theorem ok_X0_copyFrom : kOK mX0_copyFrom 1 := ⟨t389, t41, ⟨by decide, by decide⟩, by decide +kernel⟩
abbrev mX0_has : kM := (yX0_has, cX0_has, 2, (some .boolean))
theorem ok_X0_has : kOK mX0_has 1 := ⟨t590, t41, ⟨by decide, by decide⟩, by decide +kernel⟩
abbrev mX0_add : kM := (yX0_add, cX0_add, 2, (some .int))
theorem ok_X0_add : kOK mX0_add 1 := ⟨t586, t41, ⟨by decide, by decide⟩, by decide +kernel⟩
abbrev mX0_assign : kM := (yX0_assign, cX0_assign, 4, (some .int))
theorem ok_X0_assign : kOK mX0_assign 2 := ⟨t600, t41, ⟨by decide, by decide⟩, by decide +kernel⟩
abbrev mX0_enter : kM := (yX0_enter, cX0_enter, 3, none)
theorem ok_X0_enter : kOK mX0_enter 2 := ⟨t491, t41, ⟨by decide, by decide⟩, by decide +kernel⟩
abbrev mX0_isUnder : kM := (yX0_isUnder, cX0_isUnder, 5, (some .boolean))
theorem ok_X0_isUnder : kOK mX0_isUnder 2 := ⟨t614, t41, ⟨by decide, by decide⟩, by decide +kernel⟩
abbrev mX0_massWithAllUnder : kM := (yX0_massWithAllUnder, cX0_massWithAllUnder, 4, (some .int))
theorem ok_X0_massWithAllUnder : kOK mX0_massWithAllUnder 1 := ⟨t610, t41, ⟨by decide, by decide⟩, by decide +kernel⟩
abbrev mX0_countUnder : kM := (yX0_countUnder, cX0_countUnder, 4, (some .int))
theorem ok_X0_countUnder : kOK mX0_countUnder 1 := ⟨t618, t41, ⟨by decide, by decide⟩, by decide +kernel⟩
abbrev mX0_depth : kM := (yX0_depth, cX0_depth, 5, (some .int))
theorem ok_X0_depth : kOK mX0_depth 1 := ⟨t622, t41, ⟨by decide, by decide⟩, by decide +kernel⟩
abbrev mX1_init : kM := (yX1_init, cX1_init, 1, none)
theorem ok_X1_init : kOK mX1_init 0 := ⟨t94, t38, ⟨by decide, by decide⟩, by decide +kernel⟩
abbrev mX1_copyFrom : kM := (yX1_copyFrom, cX1_copyFrom, 2, none)
theorem ok_X1_copyFrom : kOK mX1_copyFrom 1 := ⟨t375, t38, ⟨by decide, by decide⟩, by decide +kernel⟩
abbrev mX1_mass : kM := (yX1_mass, cX1_mass, 3, (some .int))
theorem ok_X1_mass : kOK mX1_mass 2 := ⟨t479, t38, ⟨by decide, by decide⟩, by decide +kernel⟩
abbrev mX1_take : kM := (yX1_take, cX1_take, 4, none)
theorem ok_X1_take : kOK mX1_take 3 := ⟨t483, t38, ⟨by decide, by decide⟩, by decide +kernel⟩
abbrev mX1_putAtStart : kM := (yX1_putAtStart, cX1_putAtStart, 3, none)
theorem ok_X1_putAtStart : kOK mX1_putAtStart 2 := ⟨t508, t38, ⟨by decide, by decide⟩, by decide +kernel⟩
abbrev mX1_goOn : kM := (yX1_goOn, cX1_goOn, 1, none)
theorem ok_X1_goOn : kOK mX1_goOn 0 := ⟨t499, t38, ⟨by decide, by decide⟩, by decide +kernel⟩
abbrev mX1_massOfPlace : kM := (yX1_massOfPlace, cX1_massOfPlace, 5, (some .int))
theorem ok_X1_massOfPlace : kOK mX1_massOfPlace 1 := ⟨t520, t38, ⟨by decide, by decide⟩, by decide +kernel⟩
abbrev mX1_massSeen : kM := (yX1_massSeen, cX1_massSeen, 3, (some .int))
theorem ok_X1_massSeen : kOK mX1_massSeen 0 := ⟨t524, t38, ⟨by decide, by decide⟩, by decide +kernel⟩
abbrev mX2_init : kM := (yX2_init, cX2_init, 1, none)
theorem ok_X2_init : kOK mX2_init 0 := ⟨t112, t39, ⟨by decide, by decide⟩, by decide +kernel⟩
abbrev mX2_copyFrom : kM := (yX2_copyFrom, cX2_copyFrom, 2, none)
theorem ok_X2_copyFrom : kOK mX2_copyFrom 1 := ⟨t380, t39, ⟨by decide, by decide⟩, by decide +kernel⟩
abbrev mX2_has : kM := (yX2_has, cX2_has, 2, (some .boolean))
theorem ok_X2_has : kOK mX2_has 1 := ⟨t562, t39, ⟨by decide, by decide⟩, by decide +kernel⟩
abbrev mX2_addToPresent : kM := (yX2_addToPresent, cX2_addToPresent, 3, none)
theorem ok_X2_addToPresent : kOK mX2_addToPresent 2 := ⟨t487, t39, ⟨by decide, by decide⟩, by decide +kernel⟩
abbrev mX2_growPresent : kM := (yX2_growPresent, cX2_growPresent, 2, none)
theorem ok_X2_growPresent : kOK mX2_growPresent 1 := ⟨t537, t39, ⟨by decide, by decide⟩, by decide +kernel⟩
abbrev mX2_countFilledTick : kM := (yX2_countFilledTick, cX2_countFilledTick, 1, none)
theorem ok_X2_countFilledTick : kOK mX2_countFilledTick 0 := ⟨t495, t39, ⟨by decide, by decide⟩, by decide +kernel⟩
abbrev mX2_massOf : kM := (yX2_massOf, cX2_massOf, 4, (some .int))
theorem ok_X2_massOf : kOK mX2_massOf 1 := ⟨t566, t39, ⟨by decide, by decide⟩, by decide +kernel⟩
abbrev mX2_massOfPresent : kM := (yX2_massOfPresent, cX2_massOfPresent, 1, (some .int))
theorem ok_X2_massOfPresent : kOK mX2_massOfPresent 0 := ⟨t683, t39, ⟨by decide, by decide⟩, by decide +kernel⟩
abbrev mX2_massOfAll : kM := (yX2_massOfAll, cX2_massOfAll, 3, (some .int))
theorem ok_X2_massOfAll : kOK mX2_massOfAll 0 := ⟨t665, t39, ⟨by decide, by decide⟩, by decide +kernel⟩
abbrev mX3_init : kM := (yX3_init, cX3_init, 1, none)
theorem ok_X3_init : kOK mX3_init 0 := ⟨t307, t47, ⟨by decide, by decide⟩, by decide +kernel⟩
abbrev mX3_read : kM := (yX3_read, cX3_read, 3, (some .boolean))
theorem ok_X3_read : kOK mX3_read 2 := ⟨t722, t47, ⟨by decide, by decide⟩, by decide +kernel⟩
abbrev mX3_passes : kM := (yX3_passes, cX3_passes, 3, (some .boolean))
theorem ok_X3_passes : kOK mX3_passes 2 := ⟨t730, t47, ⟨by decide, by decide⟩, by decide +kernel⟩
abbrev mX3_readNumber : kM := (yX3_readNumber, cX3_readNumber, 5, (some .int))
theorem ok_X3_readNumber : kOK mX3_readNumber 1 := ⟨t734, t47, ⟨by decide, by decide⟩, by decide +kernel⟩
abbrev mX3_carryOut : kM := (yX3_carryOut, cX3_carryOut, 2, (some .int))
theorem ok_X3_carryOut : kOK mX3_carryOut 1 := ⟨t741, t47, ⟨by decide, by decide⟩, by decide +kernel⟩
abbrev mX4_init : kM := (yX4_init, cX4_init, 1, none)
theorem ok_X4_init : kOK mX4_init 0 := ⟨t260, t44, ⟨by decide, by decide⟩, by decide +kernel⟩
abbrev mX4_push : kM := (yX4_push, cX4_push, 3, none)
theorem ok_X4_push : kOK mX4_push 1 := ⟨t416, t44, ⟨by decide, by decide⟩, by decide +kernel⟩
abbrev mX4_pullInto : kM := (yX4_pullInto, cX4_pullInto, 3, none)
theorem ok_X4_pullInto : kOK mX4_pullInto 1 := ⟨t696, t44, ⟨by decide, by decide⟩, by decide +kernel⟩
abbrev mX5_init : kM := (yX5_init, cX5_init, 1, none)
theorem ok_X5_init : kOK mX5_init 0 := ⟨t67, t37, ⟨by decide, by decide⟩, by decide +kernel⟩
abbrev mX5_copyFrom : kM := (yX5_copyFrom, cX5_copyFrom, 2, none)
theorem ok_X5_copyFrom : kOK mX5_copyFrom 1 := ⟨t370, t37, ⟨by decide, by decide⟩, by decide +kernel⟩
abbrev mX5_append : kM := (yX5_append, cX5_append, 3, none)
theorem ok_X5_append : kOK mX5_append 2 := ⟨t403, t37, ⟨by decide, by decide⟩, by decide +kernel⟩
abbrev mX5_takeFromFirst : kM := (yX5_takeFromFirst, cX5_takeFromFirst, 3, none)
theorem ok_X5_takeFromFirst : kOK mX5_takeFromFirst 1 := ⟨t512, t37, ⟨by decide, by decide⟩, by decide +kernel⟩
abbrev mX5_massInside : kM := (yX5_massInside, cX5_massInside, 3, (some .int))
theorem ok_X5_massInside : kOK mX5_massInside 0 := ⟨t661, t37, ⟨by decide, by decide⟩, by decide +kernel⟩
abbrev mX6_init : kM := (yX6_init, cX6_init, 1, none)
theorem ok_X6_init : kOK mX6_init 0 := ⟨t61, t36, ⟨by decide, by decide⟩, by decide +kernel⟩
abbrev mX6_copyFrom : kM := (yX6_copyFrom, cX6_copyFrom, 2, none)
theorem ok_X6_copyFrom : kOK mX6_copyFrom 1 := ⟨t366, t36, ⟨by decide, by decide⟩, by decide +kernel⟩
abbrev mX6_hasBatch : kM := (yX6_hasBatch, cX6_hasBatch, 1, (some .boolean))
theorem ok_X6_hasBatch : kOK mX6_hasBatch 0 := ⟨t438, t36, ⟨by decide, by decide⟩, by decide +kernel⟩
abbrev mX6_putLot : kM := (yX6_putLot, cX6_putLot, 3, (some .int))
theorem ok_X6_putLot : kOK mX6_putLot 2 := ⟨t394, t36, ⟨by decide, by decide⟩, by decide +kernel⟩
abbrev mX6_setGate : kM := (yX6_setGate, cX6_setGate, 3, (some .int))
theorem ok_X6_setGate : kOK mX6_setGate 1 := ⟨t426, t36, ⟨by decide, by decide⟩, by decide +kernel⟩
abbrev mX6_switchBelt : kM := (yX6_switchBelt, cX6_switchBelt, 3, (some .int))
theorem ok_X6_switchBelt : kOK mX6_switchBelt 1 := ⟨t434, t36, ⟨by decide, by decide⟩, by decide +kernel⟩
abbrev mX6_putBin : kM := (yX6_putBin, cX6_putBin, 1, (some .int))
theorem ok_X6_putBin : kOK mX6_putBin 0 := ⟨t447, t36, ⟨by decide, by decide⟩, by decide +kernel⟩
abbrev mX6_beginBatch : kM := (yX6_beginBatch, cX6_beginBatch, 2, (some .int))
theorem ok_X6_beginBatch : kOK mX6_beginBatch 1 := ⟨t455, t36, ⟨by decide, by decide⟩, by decide +kernel⟩
abbrev mX6_passTicks : kM := (yX6_passTicks, cX6_passTicks, 4, (some .int))
theorem ok_X6_passTicks : kOK mX6_passTicks 1 := ⟨t463, t36, ⟨by decide, by decide⟩, by decide +kernel⟩
abbrev mX6_passTick : kM := (yX6_passTick, cX6_passTick, 3, (some .int))
theorem ok_X6_passTick : kOK mX6_passTick 0 := ⟨t467, t36, ⟨by decide, by decide⟩, by decide +kernel⟩
abbrev mX6_wantsMore : kM := (yX6_wantsMore, cX6_wantsMore, 1, (some .boolean))
theorem ok_X6_wantsMore : kOK mX6_wantsMore 0 := ⟨t471, t36, ⟨by decide, by decide⟩, by decide +kernel⟩
abbrev mX6_dropAtEnd : kM := (yX6_dropAtEnd, cX6_dropAtEnd, 4, (some .int))
theorem ok_X6_dropAtEnd : kOK mX6_dropAtEnd 0 := ⟨t475, t36, ⟨by decide, by decide⟩, by decide +kernel⟩
abbrev mX6_feed : kM := (yX6_feed, cX6_feed, 4, none)
theorem ok_X6_feed : kOK mX6_feed 0 := ⟨t503, t36, ⟨by decide, by decide⟩, by decide +kernel⟩
abbrev mX6_spillTooMuch : kM := (yX6_spillTooMuch, cX6_spillTooMuch, 4, none)
theorem ok_X6_spillTooMuch : kOK mX6_spillTooMuch 0 := ⟨t516, t36, ⟨by decide, by decide⟩, by decide +kernel⟩
abbrev mX6_endBatch : kM := (yX6_endBatch, cX6_endBatch, 1, none)
theorem ok_X6_endBatch : kOK mX6_endBatch 0 := ⟨t541, t36, ⟨by decide, by decide⟩, by decide +kernel⟩
abbrev mX6_setZero : kM := (yX6_setZero, cX6_setZero, 3, (some .int))
theorem ok_X6_setZero : kOK mX6_setZero 0 := ⟨t549, t36, ⟨by decide, by decide⟩, by decide +kernel⟩
abbrev mX6_correctBy : kM := (yX6_correctBy, cX6_correctBy, 4, (some .int))
theorem ok_X6_correctBy : kOK mX6_correctBy 1 := ⟨t558, t36, ⟨by decide, by decide⟩, by decide +kernel⟩
abbrev mX6_changeSetting : kM := (yX6_changeSetting, cX6_changeSetting, 4, (some .int))
theorem ok_X6_changeSetting : kOK mX6_changeSetting 2 := ⟨t574, t36, ⟨by decide, by decide⟩, by decide +kernel⟩
abbrev mX7_init : kM := (yX7_init, cX7_init, 1, none)
theorem ok_X7_init : kOK mX7_init 0 := ⟨t301, t46, ⟨by decide, by decide⟩, by decide +kernel⟩
abbrev mX7_perform : kM := (yX7_perform, cX7_perform, 6, none)
theorem ok_X7_perform : kOK mX7_perform 3 := ⟨t717, t46, ⟨by decide, by decide⟩, by decide +kernel⟩
abbrev mX8_init : kM := (yX8_init, cX8_init, 1, none)
theorem ok_X8_init : kOK mX8_init 0 := ⟨t137, t40, ⟨by decide, by decide⟩, by decide +kernel⟩
abbrev mX8_copyFrom : kM := (yX8_copyFrom, cX8_copyFrom, 2, none)
theorem ok_X8_copyFrom : kOK mX8_copyFrom 1 := ⟨t385, t40, ⟨by decide, by decide⟩, by decide +kernel⟩
abbrev mX8_reading : kM := (yX8_reading, cX8_reading, 2, (some .int))
theorem ok_X8_reading : kOK mX8_reading 1 := ⟨t533, t40, ⟨by decide, by decide⟩, by decide +kernel⟩
abbrev mX8_weigh : kM := (yX8_weigh, cX8_weigh, 4, (some .int))
theorem ok_X8_weigh : kOK mX8_weigh 1 := ⟨t529, t40, ⟨by decide, by decide⟩, by decide +kernel⟩
abbrev mX8_toldTotal : kM := (yX8_toldTotal, cX8_toldTotal, 1, (some .int))
theorem ok_X8_toldTotal : kOK mX8_toldTotal 0 := ⟨t651, t40, ⟨by decide, by decide⟩, by decide +kernel⟩
abbrev mX9_init : kM := (yX9_init, cX9_init, 1, none)
theorem ok_X9_init : kOK mX9_init 0 := ⟨t285, t45, ⟨by decide, by decide⟩, by decide +kernel⟩
abbrev mX9_append : kM := (yX9_append, cX9_append, 2, none)
theorem ok_X9_append : kOK mX9_append 1 := ⟨t705, t45, ⟨by decide, by decide⟩, by decide +kernel⟩
abbrev mX9_at : kM := (yX9_at, cX9_at, 2, (some .int))
theorem ok_X9_at : kOK mX9_at 1 := ⟨t726, t45, ⟨by decide, by decide⟩, by decide +kernel⟩
abbrev mX10_init : kM := (yX10_init, cX10_init, 1, none)
theorem ok_X10_init : kOK mX10_init 0 := ⟨t53, t35, ⟨by decide, by decide⟩, by decide +kernel⟩
abbrev mX10_lot : kM := (yX10_lot, cX10_lot, 3, (some .int))
theorem ok_X10_lot : kOK mX10_lot 2 := ⟨t362, t35, ⟨by decide, by decide⟩, by decide +kernel⟩
abbrev mX10_gate : kM := (yX10_gate, cX10_gate, 2, (some .int))
theorem ok_X10_gate : kOK mX10_gate 1 := ⟨t422, t35, ⟨by decide, by decide⟩, by decide +kernel⟩
abbrev mX10_run : kM := (yX10_run, cX10_run, 2, (some .int))
theorem ok_X10_run : kOK mX10_run 1 := ⟨t430, t35, ⟨by decide, by decide⟩, by decide +kernel⟩
abbrev mX10_bin : kM := (yX10_bin, cX10_bin, 1, (some .int))
theorem ok_X10_bin : kOK mX10_bin 0 := ⟨t443, t35, ⟨by decide, by decide⟩, by decide +kernel⟩
abbrev mX10_batch : kM := (yX10_batch, cX10_batch, 2, (some .int))
theorem ok_X10_batch : kOK mX10_batch 1 := ⟨t451, t35, ⟨by decide, by decide⟩, by decide +kernel⟩
abbrev mX10_tick : kM := (yX10_tick, cX10_tick, 2, (some .int))
theorem ok_X10_tick : kOK mX10_tick 1 := ⟨t459, t35, ⟨by decide, by decide⟩, by decide +kernel⟩
abbrev mX10_zero : kM := (yX10_zero, cX10_zero, 1, (some .int))
theorem ok_X10_zero : kOK mX10_zero 0 := ⟨t545, t35, ⟨by decide, by decide⟩, by decide +kernel⟩
abbrev mX10_correct : kM := (yX10_correct, cX10_correct, 2, (some .int))
theorem ok_X10_correct : kOK mX10_correct 1 := ⟨t554, t35, ⟨by decide, by decide⟩, by decide +kernel⟩
abbrev mX10_set : kM := (yX10_set, cX10_set, 3, (some .int))
theorem ok_X10_set : kOK mX10_set 2 := ⟨t570, t35, ⟨by decide, by decide⟩, by decide +kernel⟩
abbrev mX10_account : kM := (yX10_account, cX10_account, 2, (some .int))
theorem ok_X10_account : kOK mX10_account 1 := ⟨t582, t35, ⟨by decide, by decide⟩, by decide +kernel⟩
abbrev mX10_book : kM := (yX10_book, cX10_book, 3, (some .int))
theorem ok_X10_book : kOK mX10_book 2 := ⟨t596, t35, ⟨by decide, by decide⟩, by decide +kernel⟩
abbrev mX10_accountOf : kM := (yX10_accountOf, cX10_accountOf, 4, (some .int))
theorem ok_X10_accountOf : kOK mX10_accountOf 2 := ⟨t605, t35, ⟨by decide, by decide⟩, by decide +kernel⟩
abbrev mX10_massAt : kM := (yX10_massAt, cX10_massAt, 3, (some .int))
theorem ok_X10_massAt : kOK mX10_massAt 2 := ⟨t626, t35, ⟨by decide, by decide⟩, by decide +kernel⟩
abbrev mX10_lotOf : kM := (yX10_lotOf, cX10_lotOf, 3, (some .int))
theorem ok_X10_lotOf : kOK mX10_lotOf 2 := ⟨t632, t35, ⟨by decide, by decide⟩, by decide +kernel⟩
abbrev mX10_binOf : kM := (yX10_binOf, cX10_binOf, 4, (some .int))
theorem ok_X10_binOf : kOK mX10_binOf 2 := ⟨t636, t35, ⟨by decide, by decide⟩, by decide +kernel⟩
abbrev mX10_scale : kM := (yX10_scale, cX10_scale, 3, (some .int))
theorem ok_X10_scale : kOK mX10_scale 1 := ⟨t644, t35, ⟨by decide, by decide⟩, by decide +kernel⟩
abbrev mX10_count : kM := (yX10_count, cX10_count, 3, (some .int))
theorem ok_X10_count : kOK mX10_count 1 := ⟨t656, t35, ⟨by decide, by decide⟩, by decide +kernel⟩
abbrev mX10_batchIn : kM := (yX10_batchIn, cX10_batchIn, 1, (some .int))
theorem ok_X10_batchIn : kOK mX10_batchIn 0 := ⟨t669, t35, ⟨by decide, by decide⟩, by decide +kernel⟩
abbrev mX10_batchOut : kM := (yX10_batchOut, cX10_batchOut, 1, (some .int))
theorem ok_X10_batchOut : kOK mX10_batchOut 0 := ⟨t679, t35, ⟨by decide, by decide⟩, by decide +kernel⟩
abbrev mX10_error : kM := (yX10_error, cX10_error, 1, (some .int))
theorem ok_X10_error : kOK mX10_error 0 := ⟨t688, t35, ⟨by decide, by decide⟩, by decide +kernel⟩
abbrev mX10_undo : kM := (yX10_undo, cX10_undo, 1, (some .int))
theorem ok_X10_undo : kOK mX10_undo 0 := ⟨t692, t35, ⟨by decide, by decide⟩, by decide +kernel⟩
abbrev mX10_type : kM := (yX10_type, cX10_type, 2, (some .int))
theorem ok_X10_type : kOK mX10_type 1 := ⟨t700, t35, ⟨by decide, by decide⟩, by decide +kernel⟩
abbrev mX10_clearText : kM := (yX10_clearText, cX10_clearText, 2, (some .int))
theorem ok_X10_clearText : kOK mX10_clearText 0 := ⟨t709, t35, ⟨by decide, by decide⟩, by decide +kernel⟩
abbrev mX10_fault : kM := (yX10_fault, cX10_fault, 2, (some .int))
theorem ok_X10_fault : kOK mX10_fault 1 := ⟨t713, t35, ⟨by decide, by decide⟩, by decide +kernel⟩
abbrev mX10_play : kM := (yX10_play, cX10_play, 1, (some .int))
theorem ok_X10_play : kOK mX10_play 0 := ⟨t755, t35, ⟨by decide, by decide⟩, by decide +kernel⟩
abbrev mX10_recorded : kM := (yX10_recorded, cX10_recorded, 2, (some .int))
theorem ok_X10_recorded : kOK mX10_recorded 1 := ⟨t407, t35, ⟨by decide, by decide⟩, by decide +kernel⟩
abbrev mX10_foretell : kM := (yX10_foretell, cX10_foretell, 2, (some .int))
theorem ok_X10_foretell : kOK mX10_foretell 0 := ⟨t673, t35, ⟨by decide, by decide⟩, by decide +kernel⟩
abbrev mX10_isError : kM := (yX10_isError, cX10_isError, 1, (some .boolean))
theorem ok_X10_isError : kOK mX10_isError 1 := ⟨t410, t35, ⟨by decide, by decide⟩, by decide +kernel⟩
abbrev mX10_isKind : kM := (yX10_isKind, cX10_isKind, 1, (some .boolean))
theorem ok_X10_isKind : kOK mX10_isKind 1 := ⟨t397, t35, ⟨by decide, by decide⟩, by decide +kernel⟩
abbrev mX10_copyInto : kM := (yX10_copyInto, cX10_copyInto, 2, none)
theorem ok_X10_copyInto : kOK mX10_copyInto 2 := ⟨t189, t35, ⟨by decide, by decide⟩, by decide +kernel⟩
abbrev mX11_init : kM := (yX11_init, cX11_init, 1, none)
theorem ok_X11_init : kOK mX11_init 0 := ⟨t760, t48, ⟨by decide, by decide⟩, by decide +kernel⟩
abbrev mX11_in : kM := (yX11_in, cX11_in, 3, (some .boolean))
theorem ok_X11_in : kOK mX11_in 3 := ⟨t812, t48, ⟨by decide, by decide⟩, by decide +kernel⟩
abbrev mX11_copies : kM := (yX11_copies, cX11_copies, 3, none)
theorem ok_X11_copies : kOK mX11_copies 2 := ⟨t967, t48, ⟨by decide, by decide⟩, by decide +kernel⟩
abbrev mX11_changes : kM := (yX11_changes, cX11_changes, 2, none)
theorem ok_X11_changes : kOK mX11_changes 0 := ⟨t818, t48, ⟨by decide, by decide⟩, by decide +kernel⟩
abbrev mX11_hasBatch : kM := (yX11_hasBatch, cX11_hasBatch, 1, (some .boolean))
theorem ok_X11_hasBatch : kOK mX11_hasBatch 0 := ⟨t830, t48, ⟨by decide, by decide⟩, by decide +kernel⟩
abbrev mX11_lot : kM := (yX11_lot, cX11_lot, 3, (some .int))
theorem ok_X11_lot : kOK mX11_lot 2 := ⟨t809, t48, ⟨by decide, by decide⟩, by decide +kernel⟩
abbrev mX11_gate : kM := (yX11_gate, cX11_gate, 3, (some .int))
theorem ok_X11_gate : kOK mX11_gate 1 := ⟨t822, t48, ⟨by decide, by decide⟩, by decide +kernel⟩
abbrev mX11_run : kM := (yX11_run, cX11_run, 3, (some .int))
theorem ok_X11_run : kOK mX11_run 1 := ⟨t826, t48, ⟨by decide, by decide⟩, by decide +kernel⟩
abbrev mX11_bin : kM := (yX11_bin, cX11_bin, 3, (some .int))
theorem ok_X11_bin : kOK mX11_bin 0 := ⟨t835, t48, ⟨by decide, by decide⟩, by decide +kernel⟩
abbrev mX11_mass : kM := (yX11_mass, cX11_mass, 5, (some .int))
theorem ok_X11_mass : kOK mX11_mass 2 := ⟨t843, t48, ⟨by decide, by decide⟩, by decide +kernel⟩
abbrev mX11_batch : kM := (yX11_batch, cX11_batch, 2, (some .int))
theorem ok_X11_batch : kOK mX11_batch 1 := ⟨t839, t48, ⟨by decide, by decide⟩, by decide +kernel⟩
abbrev mX11_falls : kM := (yX11_falls, cX11_falls, 5, none)
theorem ok_X11_falls : kOK mX11_falls 0 := ⟨t859, t48, ⟨by decide, by decide⟩, by decide +kernel⟩
abbrev mX11_feeds : kM := (yX11_feeds, cX11_feeds, 5, none)
theorem ok_X11_feeds : kOK mX11_feeds 0 := ⟨t863, t48, ⟨by decide, by decide⟩, by decide +kernel⟩
abbrev mX11_reading : kM := (yX11_reading, cX11_reading, 1, (some .int))
theorem ok_X11_reading : kOK mX11_reading 0 := ⟨t871, t48, ⟨by decide, by decide⟩, by decide +kernel⟩
abbrev mX11_reads : kM := (yX11_reads, cX11_reads, 2, none)
theorem ok_X11_reads : kOK mX11_reads 0 := ⟨t867, t48, ⟨by decide, by decide⟩, by decide +kernel⟩
abbrev mX11_goes : kM := (yX11_goes, cX11_goes, 2, none)
theorem ok_X11_goes : kOK mX11_goes 0 := ⟨t855, t48, ⟨by decide, by decide⟩, by decide +kernel⟩
abbrev mX11_ticks : kM := (yX11_ticks, cX11_ticks, 1, none)
theorem ok_X11_ticks : kOK mX11_ticks 0 := ⟨t851, t48, ⟨by decide, by decide⟩, by decide +kernel⟩
abbrev mX11_tick : kM := (yX11_tick, cX11_tick, 4, (some .int))
theorem ok_X11_tick : kOK mX11_tick 1 := ⟨t847, t48, ⟨by decide, by decide⟩, by decide +kernel⟩
abbrev mX11_zero : kM := (yX11_zero, cX11_zero, 2, (some .int))
theorem ok_X11_zero : kOK mX11_zero 0 := ⟨t875, t48, ⟨by decide, by decide⟩, by decide +kernel⟩
abbrev mX11_isBin : kM := (yX11_isBin, cX11_isBin, 2, (some .boolean))
theorem ok_X11_isBin : kOK mX11_isBin 1 := ⟨t884, t48, ⟨by decide, by decide⟩, by decide +kernel⟩
abbrev mX11_binMass : kM := (yX11_binMass, cX11_binMass, 3, (some .int))
theorem ok_X11_binMass : kOK mX11_binMass 1 := ⟨t889, t48, ⟨by decide, by decide⟩, by decide +kernel⟩
abbrev mX11_correct : kM := (yX11_correct, cX11_correct, 5, (some .int))
theorem ok_X11_correct : kOK mX11_correct 1 := ⟨t880, t48, ⟨by decide, by decide⟩, by decide +kernel⟩
abbrev mX11_set : kM := (yX11_set, cX11_set, 4, (some .int))
theorem ok_X11_set : kOK mX11_set 2 := ⟨t895, t48, ⟨by decide, by decide⟩, by decide +kernel⟩
abbrev mX11_isAccount : kM := (yX11_isAccount, cX11_isAccount, 2, (some .boolean))
theorem ok_X11_isAccount : kOK mX11_isAccount 1 := ⟨t903, t48, ⟨by decide, by decide⟩, by decide +kernel⟩
abbrev mX11_account : kM := (yX11_account, cX11_account, 3, (some .int))
theorem ok_X11_account : kOK mX11_account 1 := ⟨t899, t48, ⟨by decide, by decide⟩, by decide +kernel⟩
abbrev mX11_book : kM := (yX11_book, cX11_book, 4, (some .int))
theorem ok_X11_book : kOK mX11_book 2 := ⟨t907, t48, ⟨by decide, by decide⟩, by decide +kernel⟩
abbrev mX11_isUnder : kM := (yX11_isUnder, cX11_isUnder, 4, (some .boolean))
theorem ok_X11_isUnder : kOK mX11_isUnder 2 := ⟨t915, t48, ⟨by decide, by decide⟩, by decide +kernel⟩
abbrev mX11_depth : kM := (yX11_depth, cX11_depth, 4, (some .int))
theorem ok_X11_depth : kOK mX11_depth 1 := ⟨t919, t48, ⟨by decide, by decide⟩, by decide +kernel⟩
abbrev mX11_accountOf : kM := (yX11_accountOf, cX11_accountOf, 7, (some .int))
theorem ok_X11_accountOf : kOK mX11_accountOf 2 := ⟨t911, t48, ⟨by decide, by decide⟩, by decide +kernel⟩
abbrev mX11_massAt : kM := (yX11_massAt, cX11_massAt, 3, (some .int))
theorem ok_X11_massAt : kOK mX11_massAt 2 := ⟨t923, t48, ⟨by decide, by decide⟩, by decide +kernel⟩
abbrev mX11_lotOf : kM := (yX11_lotOf, cX11_lotOf, 3, (some .int))
theorem ok_X11_lotOf : kOK mX11_lotOf 2 := ⟨t927, t48, ⟨by decide, by decide⟩, by decide +kernel⟩
abbrev mX11_binOf : kM := (yX11_binOf, cX11_binOf, 3, (some .int))
theorem ok_X11_binOf : kOK mX11_binOf 2 := ⟨t931, t48, ⟨by decide, by decide⟩, by decide +kernel⟩
abbrev mX11_total : kM := (yX11_total, cX11_total, 1, (some .int))
theorem ok_X11_total : kOK mX11_total 0 := ⟨t940, t48, ⟨by decide, by decide⟩, by decide +kernel⟩
abbrev mX11_scale : kM := (yX11_scale, cX11_scale, 2, (some .int))
theorem ok_X11_scale : kOK mX11_scale 1 := ⟨t936, t48, ⟨by decide, by decide⟩, by decide +kernel⟩
abbrev mX11_hopper : kM := (yX11_hopper, cX11_hopper, 3, (some .int))
theorem ok_X11_hopper : kOK mX11_hopper 0 := ⟨t952, t48, ⟨by decide, by decide⟩, by decide +kernel⟩
abbrev mX11_inBins : kM := (yX11_inBins, cX11_inBins, 3, (some .int))
theorem ok_X11_inBins : kOK mX11_inBins 0 := ⟨t956, t48, ⟨by decide, by decide⟩, by decide +kernel⟩
abbrev mX11_batchTold : kM := (yX11_batchTold, cX11_batchTold, 2, (some .int))
theorem ok_X11_batchTold : kOK mX11_batchTold 1 := ⟨t948, t48, ⟨by decide, by decide⟩, by decide +kernel⟩
abbrev mX11_count : kM := (yX11_count, cX11_count, 2, (some .int))
theorem ok_X11_count : kOK mX11_count 1 := ⟨t944, t48, ⟨by decide, by decide⟩, by decide +kernel⟩
abbrev mX11_lasts : kM := (yX11_lasts, cX11_lasts, 3, (some .int))
theorem ok_X11_lasts : kOK mX11_lasts 0 := ⟨t964, t48, ⟨by decide, by decide⟩, by decide +kernel⟩
abbrev mX11_batchIn : kM := (yX11_batchIn, cX11_batchIn, 1, (some .int))
theorem ok_X11_batchIn : kOK mX11_batchIn 0 := ⟨t960, t48, ⟨by decide, by decide⟩, by decide +kernel⟩
abbrev mX11_batchOut : kM := (yX11_batchOut, cX11_batchOut, 1, (some .int))
theorem ok_X11_batchOut : kOK mX11_batchOut 0 := ⟨t971, t48, ⟨by decide, by decide⟩, by decide +kernel⟩
abbrev mX11_error : kM := (yX11_error, cX11_error, 1, (some .int))
theorem ok_X11_error : kOK mX11_error 0 := ⟨t975, t48, ⟨by decide, by decide⟩, by decide +kernel⟩
abbrev mX11_undo : kM := (yX11_undo, cX11_undo, 2, (some .int))
theorem ok_X11_undo : kOK mX11_undo 0 := ⟨t979, t48, ⟨by decide, by decide⟩, by decide +kernel⟩
abbrev mX11_type : kM := (yX11_type, cX11_type, 2, (some .int))
theorem ok_X11_type : kOK mX11_type 1 := ⟨t983, t48, ⟨by decide, by decide⟩, by decide +kernel⟩
abbrev mX11_clearText : kM := (yX11_clearText, cX11_clearText, 2, (some .int))
theorem ok_X11_clearText : kOK mX11_clearText 0 := ⟨t987, t48, ⟨by decide, by decide⟩, by decide +kernel⟩
abbrev mX11_isAt : kM := (yX11_isAt, cX11_isAt, 3, (some .boolean))
theorem ok_X11_isAt : kOK mX11_isAt 2 := ⟨t1007, t48, ⟨by decide, by decide⟩, by decide +kernel⟩
abbrev mX11_passes : kM := (yX11_passes, cX11_passes, 3, (some .boolean))
theorem ok_X11_passes : kOK mX11_passes 1 := ⟨t1003, t48, ⟨by decide, by decide⟩, by decide +kernel⟩
abbrev mX11_number : kM := (yX11_number, cX11_number, 3, (some .boolean))
theorem ok_X11_number : kOK mX11_number 1 := ⟨t1011, t48, ⟨by decide, by decide⟩, by decide +kernel⟩
abbrev mX11_parses : kM := (yX11_parses, cX11_parses, 1, (some .boolean))
theorem ok_X11_parses : kOK mX11_parses 0 := ⟨t999, t48, ⟨by decide, by decide⟩, by decide +kernel⟩
abbrev mX11_calls : kM := (yX11_calls, cX11_calls, 1, (some .int))
theorem ok_X11_calls : kOK mX11_calls 0 := ⟨t1015, t48, ⟨by decide, by decide⟩, by decide +kernel⟩
abbrev mX11_plays : kM := (yX11_plays, cX11_plays, 4, (some .int))
theorem ok_X11_plays : kOK mX11_plays 0 := ⟨t995, t48, ⟨by decide, by decide⟩, by decide +kernel⟩
abbrev mX11_fault : kM := (yX11_fault, cX11_fault, 3, (some .int))
theorem ok_X11_fault : kOK mX11_fault 1 := ⟨t991, t48, ⟨by decide, by decide⟩, by decide +kernel⟩
abbrev mX11_play : kM := (yX11_play, cX11_play, 2, (some .int))
theorem ok_X11_play : kOK mX11_play 0 := ⟨t1027, t48, ⟨by decide, by decide⟩, by decide +kernel⟩
theorem pn0 : plainName RX0 = true := by decide +kernel
theorem pn1 : plainName RX1 = true := by decide +kernel
theorem pn2 : plainName RX2 = true := by decide +kernel
theorem pn3 : plainName RX3 = true := by decide +kernel
theorem pn4 : plainName RX4 = true := by decide +kernel
theorem pn5 : plainName RX5 = true := by decide +kernel
theorem pn6 : plainName RX6 = true := by decide +kernel
theorem pn7 : plainName RX7 = true := by decide +kernel
theorem pn8 : plainName RX8 = true := by decide +kernel
theorem pn9 : plainName RX9 = true := by decide +kernel
theorem pn10 : plainName RX10 = true := by decide +kernel
theorem pn11 : plainName RX11 = true := by decide +kernel
theorem pnL : plainName "BeltSumsLaw" = true := by decide +kernel
def sAcc (g : kG) (σ : kS) (a w o s : Nat) : Prop := (kB g ≤ a ∧ a < σ.1) ∧ σ.2.1 a = (0, 0) ∧ (kB g ≤ w ∧ w < σ.1) ∧ σ.2.1 w = (100, 8) ∧ (kB g ≤ o ∧ o < σ.1) ∧ σ.2.1 o = (100, 8) ∧ (kB g ≤ s ∧ s < σ.1) ∧ σ.2.1 s = (100, 4) ∧ σ.2.2 a 0 = some w ∧ σ.2.2 a 1 = some o ∧ σ.2.2 a 2 = some s ∧ a < w ∧ w < o ∧ o < s
def sBelt (g : kG) (σ : kS) (b m : Nat) : Prop := (kB g ≤ b ∧ b < σ.1) ∧ σ.2.1 b = (1, 0) ∧ (kB g ≤ m ∧ m < σ.1) ∧ σ.2.1 m = (100, 48) ∧ σ.2.2 b 0 = some m ∧ b < m
def sBins (g : kG) (σ : kS) (b m w t : Nat) : Prop := (kB g ≤ b ∧ b < σ.1) ∧ σ.2.1 b = (2, 0) ∧ (kB g ≤ m ∧ m < σ.1) ∧ σ.2.1 m = (100, 32) ∧ (kB g ≤ w ∧ w < σ.1) ∧ σ.2.1 w = (100, 8) ∧ (kB g ≤ t ∧ t < σ.1) ∧ σ.2.1 t = (100, 8) ∧ σ.2.2 b 0 = some m ∧ σ.2.2 b 1 = some w ∧ σ.2.2 b 2 = some t ∧ b < m ∧ m < w ∧ w < t
def sCmd (g : kG) (σ : kS) (c : Nat) : Prop := (kB g ≤ c ∧ c < σ.1) ∧ σ.2.1 c = (3, 0)
def sHop (g : kG) (σ : kS) (h k m : Nat) : Prop := (kB g ≤ h ∧ h < σ.1) ∧ σ.2.1 h = (5, 0) ∧ (kB g ≤ k ∧ k < σ.1) ∧ σ.2.1 k = (100, 6) ∧ (kB g ≤ m ∧ m < σ.1) ∧ σ.2.1 m = (100, 6) ∧ σ.2.2 h 0 = some k ∧ σ.2.2 h 1 = some m ∧ h < k ∧ k < m
def sScale (g : kG) (σ : kS) (s : Nat) : Prop := (kB g ≤ s ∧ s < σ.1) ∧ σ.2.1 s = (8, 0)
def sText (g : kG) (σ : kS) (t c : Nat) : Prop := (kB g ≤ t ∧ t < σ.1) ∧ σ.2.1 t = (9, 0) ∧ (kB g ≤ c ∧ c < σ.1) ∧ σ.2.1 c = (101, 60) ∧ σ.2.2 t 0 = some c ∧ t < c
def sReh (g : kG) (σ : kS) (r c : Nat) : Prop := (kB g ≤ r ∧ r < σ.1) ∧ σ.2.1 r = (7, 0) ∧ (kB g ≤ c ∧ c < σ.1) ∧ σ.2.1 c = (3, 0) ∧ σ.2.2 r 0 = some c ∧ r < c
def sMod (g : kG) (σ : kS) (q a b c d e f : Nat) : Prop := (kB g ≤ q ∧ q < σ.1) ∧ σ.2.1 q = (11, 0) ∧ (kB g ≤ a ∧ a < σ.1) ∧ σ.2.1 a = (100, 149) ∧ (kB g ≤ b ∧ b < σ.1) ∧ σ.2.1 b = (100, 596) ∧ (kB g ≤ c ∧ c < σ.1) ∧ σ.2.1 c = (100, 149) ∧ (kB g ≤ d ∧ d < σ.1) ∧ σ.2.1 d = (100, 149) ∧ (kB g ≤ e ∧ e < σ.1) ∧ σ.2.1 e = (100, 60) ∧ (kB g ≤ f ∧ f < σ.1) ∧ σ.2.1 f = (100, 2) ∧ σ.2.2 q 0 = some a ∧ σ.2.2 q 1 = some b ∧ σ.2.2 q 2 = some c ∧ σ.2.2 q 3 = some d ∧ σ.2.2 q 6 = some e ∧ σ.2.2 q 13 = some f ∧ q < a ∧ a < b ∧ b < c ∧ c < d ∧ d < e ∧ e < f
def sPlant (g : kG) (σ : kS) (p : Nat) : Prop := (kB g ≤ p ∧ p + 16 ≤ σ.1) ∧ σ.2.1 p = (6, 0) ∧ σ.2.1 (p + 1) = (5, 0) ∧ σ.2.1 (p + 2) = (100, 6) ∧ σ.2.1 (p + 3) = (100, 6) ∧ σ.2.1 (p + 4) = (1, 0) ∧ σ.2.1 (p + 5) = (100, 48) ∧ σ.2.1 (p + 6) = (2, 0) ∧ σ.2.1 (p + 7) = (100, 32) ∧ σ.2.1 (p + 8) = (100, 8) ∧ σ.2.1 (p + 9) = (100, 8) ∧ σ.2.1 (p + 10) = (8, 0) ∧ σ.2.1 (p + 11) = (0, 0) ∧ σ.2.1 (p + 12) = (100, 8) ∧ σ.2.1 (p + 13) = (100, 8) ∧ σ.2.1 (p + 14) = (100, 4) ∧ σ.2.1 (p + 15) = (100, 3) ∧ σ.2.2 p 0 = some (p + 1) ∧ σ.2.2 p 1 = some (p + 4) ∧ σ.2.2 p 2 = some (p + 6) ∧ σ.2.2 p 3 = some (p + 10) ∧ σ.2.2 p 4 = some (p + 11) ∧ σ.2.2 p 5 = some (p + 15) ∧ σ.2.2 (p + 1) 0 = some (p + 2) ∧ σ.2.2 (p + 1) 1 = some (p + 3) ∧ σ.2.2 (p + 4) 0 = some (p + 5) ∧ σ.2.2 (p + 6) 0 = some (p + 7) ∧ σ.2.2 (p + 6) 1 = some (p + 8) ∧ σ.2.2 (p + 6) 2 = some (p + 9) ∧ σ.2.2 (p + 11) 0 = some (p + 12) ∧ σ.2.2 (p + 11) 1 = some (p + 13) ∧ σ.2.2 (p + 11) 2 = some (p + 14)
theorem sP_in {g : kG} {σ : kS} {p k : Nat} (h : sPlant g σ p) (hk : k < 16) : kB g ≤ p + k ∧ p + k < σ.1 := by have := h.1; omega
theorem sP_in0 {g : kG} {σ : kS} {p : Nat} (h : sPlant g σ p) : kB g ≤ p ∧ p < σ.1 := by have := h.1; omega
theorem sP_s0 {g : kG} {σ : kS} {p : Nat} (h : sPlant g σ p) : σ.2.1 p = (6, 0) := h.2.1
theorem sP_s1 {g : kG} {σ : kS} {p : Nat} (h : sPlant g σ p) : σ.2.1 (p + 1) = (5, 0) := h.2.2.1
theorem sP_s2 {g : kG} {σ : kS} {p : Nat} (h : sPlant g σ p) : σ.2.1 (p + 2) = (100, 6) := h.2.2.2.1
theorem sP_s3 {g : kG} {σ : kS} {p : Nat} (h : sPlant g σ p) : σ.2.1 (p + 3) = (100, 6) := h.2.2.2.2.1
theorem sP_s4 {g : kG} {σ : kS} {p : Nat} (h : sPlant g σ p) : σ.2.1 (p + 4) = (1, 0) := h.2.2.2.2.2.1
theorem sP_s5 {g : kG} {σ : kS} {p : Nat} (h : sPlant g σ p) : σ.2.1 (p + 5) = (100, 48) := h.2.2.2.2.2.2.1
theorem sP_s6 {g : kG} {σ : kS} {p : Nat} (h : sPlant g σ p) : σ.2.1 (p + 6) = (2, 0) := h.2.2.2.2.2.2.2.1
theorem sP_s7 {g : kG} {σ : kS} {p : Nat} (h : sPlant g σ p) : σ.2.1 (p + 7) = (100, 32) := h.2.2.2.2.2.2.2.2.1
theorem sP_s8 {g : kG} {σ : kS} {p : Nat} (h : sPlant g σ p) : σ.2.1 (p + 8) = (100, 8) := h.2.2.2.2.2.2.2.2.2.1
theorem sP_s9 {g : kG} {σ : kS} {p : Nat} (h : sPlant g σ p) : σ.2.1 (p + 9) = (100, 8) := h.2.2.2.2.2.2.2.2.2.2.1
theorem sP_s10 {g : kG} {σ : kS} {p : Nat} (h : sPlant g σ p) : σ.2.1 (p + 10) = (8, 0) := h.2.2.2.2.2.2.2.2.2.2.2.1
theorem sP_s11 {g : kG} {σ : kS} {p : Nat} (h : sPlant g σ p) : σ.2.1 (p + 11) = (0, 0) := h.2.2.2.2.2.2.2.2.2.2.2.2.1
theorem sP_s12 {g : kG} {σ : kS} {p : Nat} (h : sPlant g σ p) : σ.2.1 (p + 12) = (100, 8) := h.2.2.2.2.2.2.2.2.2.2.2.2.2.1
theorem sP_s13 {g : kG} {σ : kS} {p : Nat} (h : sPlant g σ p) : σ.2.1 (p + 13) = (100, 8) := h.2.2.2.2.2.2.2.2.2.2.2.2.2.2.1
theorem sP_s14 {g : kG} {σ : kS} {p : Nat} (h : sPlant g σ p) : σ.2.1 (p + 14) = (100, 4) := h.2.2.2.2.2.2.2.2.2.2.2.2.2.2.2.1
theorem sP_s15 {g : kG} {σ : kS} {p : Nat} (h : sPlant g σ p) : σ.2.1 (p + 15) = (100, 3) := h.2.2.2.2.2.2.2.2.2.2.2.2.2.2.2.2.1
theorem sP_r0_0 {g : kG} {σ : kS} {p : Nat} (h : sPlant g σ p) : σ.2.2 p 0 = some (p + 1) := h.2.2.2.2.2.2.2.2.2.2.2.2.2.2.2.2.2.1
theorem sP_r0_1 {g : kG} {σ : kS} {p : Nat} (h : sPlant g σ p) : σ.2.2 p 1 = some (p + 4) := h.2.2.2.2.2.2.2.2.2.2.2.2.2.2.2.2.2.2.1
theorem sP_r0_2 {g : kG} {σ : kS} {p : Nat} (h : sPlant g σ p) : σ.2.2 p 2 = some (p + 6) := h.2.2.2.2.2.2.2.2.2.2.2.2.2.2.2.2.2.2.2.1
theorem sP_r0_3 {g : kG} {σ : kS} {p : Nat} (h : sPlant g σ p) : σ.2.2 p 3 = some (p + 10) := h.2.2.2.2.2.2.2.2.2.2.2.2.2.2.2.2.2.2.2.2.1
theorem sP_r0_4 {g : kG} {σ : kS} {p : Nat} (h : sPlant g σ p) : σ.2.2 p 4 = some (p + 11) := h.2.2.2.2.2.2.2.2.2.2.2.2.2.2.2.2.2.2.2.2.2.1
theorem sP_r0_5 {g : kG} {σ : kS} {p : Nat} (h : sPlant g σ p) : σ.2.2 p 5 = some (p + 15) := h.2.2.2.2.2.2.2.2.2.2.2.2.2.2.2.2.2.2.2.2.2.2.1
theorem sP_r1_0 {g : kG} {σ : kS} {p : Nat} (h : sPlant g σ p) : σ.2.2 (p + 1) 0 = some (p + 2) := h.2.2.2.2.2.2.2.2.2.2.2.2.2.2.2.2.2.2.2.2.2.2.2.1
theorem sP_r1_1 {g : kG} {σ : kS} {p : Nat} (h : sPlant g σ p) : σ.2.2 (p + 1) 1 = some (p + 3) := h.2.2.2.2.2.2.2.2.2.2.2.2.2.2.2.2.2.2.2.2.2.2.2.2.1
theorem sP_r4_0 {g : kG} {σ : kS} {p : Nat} (h : sPlant g σ p) : σ.2.2 (p + 4) 0 = some (p + 5) := h.2.2.2.2.2.2.2.2.2.2.2.2.2.2.2.2.2.2.2.2.2.2.2.2.2.1
theorem sP_r6_0 {g : kG} {σ : kS} {p : Nat} (h : sPlant g σ p) : σ.2.2 (p + 6) 0 = some (p + 7) := h.2.2.2.2.2.2.2.2.2.2.2.2.2.2.2.2.2.2.2.2.2.2.2.2.2.2.1
theorem sP_r6_1 {g : kG} {σ : kS} {p : Nat} (h : sPlant g σ p) : σ.2.2 (p + 6) 1 = some (p + 8) := h.2.2.2.2.2.2.2.2.2.2.2.2.2.2.2.2.2.2.2.2.2.2.2.2.2.2.2.1
theorem sP_r6_2 {g : kG} {σ : kS} {p : Nat} (h : sPlant g σ p) : σ.2.2 (p + 6) 2 = some (p + 9) := h.2.2.2.2.2.2.2.2.2.2.2.2.2.2.2.2.2.2.2.2.2.2.2.2.2.2.2.2.1
theorem sP_r11_0 {g : kG} {σ : kS} {p : Nat} (h : sPlant g σ p) : σ.2.2 (p + 11) 0 = some (p + 12) := h.2.2.2.2.2.2.2.2.2.2.2.2.2.2.2.2.2.2.2.2.2.2.2.2.2.2.2.2.2.1
theorem sP_r11_1 {g : kG} {σ : kS} {p : Nat} (h : sPlant g σ p) : σ.2.2 (p + 11) 1 = some (p + 13) := h.2.2.2.2.2.2.2.2.2.2.2.2.2.2.2.2.2.2.2.2.2.2.2.2.2.2.2.2.2.2.1
theorem sP_r11_2 {g : kG} {σ : kS} {p : Nat} (h : sPlant g σ p) : σ.2.2 (p + 11) 2 = some (p + 14) := h.2.2.2.2.2.2.2.2.2.2.2.2.2.2.2.2.2.2.2.2.2.2.2.2.2.2.2.2.2.2.2
theorem sP_Hop {g : kG} {σ : kS} {p : Nat} (h : sPlant g σ p) : sHop g σ (p + 1) (p + 2) (p + 3) := ⟨sP_in h (by decide), sP_s1 h, sP_in h (by decide), sP_s2 h, sP_in h (by decide), sP_s3 h, sP_r1_0 h, sP_r1_1 h, (by omega), (by omega)⟩
theorem sP_Belt {g : kG} {σ : kS} {p : Nat} (h : sPlant g σ p) : sBelt g σ (p + 4) (p + 5) := ⟨sP_in h (by decide), sP_s4 h, sP_in h (by decide), sP_s5 h, sP_r4_0 h, (by omega)⟩
theorem sP_Bins {g : kG} {σ : kS} {p : Nat} (h : sPlant g σ p) : sBins g σ (p + 6) (p + 7) (p + 8) (p + 9) := ⟨sP_in h (by decide), sP_s6 h, sP_in h (by decide), sP_s7 h, sP_in h (by decide), sP_s8 h, sP_in h (by decide), sP_s9 h, sP_r6_0 h, sP_r6_1 h, sP_r6_2 h, (by omega), (by omega), (by omega)⟩
theorem sP_Scale {g : kG} {σ : kS} {p : Nat} (h : sPlant g σ p) : sScale g σ (p + 10) := ⟨sP_in h (by decide), sP_s10 h⟩
theorem sP_Acc {g : kG} {σ : kS} {p : Nat} (h : sPlant g σ p) : sAcc g σ (p + 11) (p + 12) (p + 13) (p + 14) := ⟨sP_in h (by decide), sP_s11 h, sP_in h (by decide), sP_s12 h, sP_in h (by decide), sP_s13 h, sP_in h (by decide), sP_s14 h, sP_r11_0 h, sP_r11_1 h, sP_r11_2 h, (by omega), (by omega), (by omega)⟩
