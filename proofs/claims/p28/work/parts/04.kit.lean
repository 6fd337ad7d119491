abbrev kG : Type := Launch × va_G × ClassId × ClassId × Nat × (Nat → Nat)
abbrev kS : Type := Nat × (Nat → Nat × Nat) × (Nat → Nat → Option Nat)
abbrev kI : Type := Nat → Nat → Int32
abbrev kP : Type := Option Value → kS → kI → Prop
abbrev kM : Type := MethodName × ByteArray × Nat × Option FieldType
abbrev kB (g : kG) : Nat := g.2.2.2.2.1
def kA (g : kG) : Nat → Prop := fun q => kB g ≤ q
-- the fields of a class by its number: a reference (true) or an int
def kft (ci : Nat) : List Bool := match ci with
  | 0 => [true, true, true, false]
  | 1 => [true, false, false]
  | 2 => [true, true, true, false]
  | 3 => [false, false, false, false]
  | 4 => [true, true, true, true, false]
  | 5 => [true, true, false, false]
  | 6 => [true, true, true, true, true, true, false, false, false, false, false, false, false, false, false]
  | 7 => [true, false, false, false, false]
  | 8 => [false, false, false, false, false]
  | 9 => [true, false]
  | 10 => [true, true, true, true, true]
  | 11 => [true, true, true, true, false, false, true, false, false, false, false, false, false, true]
  | _ => []
def kfv (f : Nat → Option Nat) (i : Nat → Int32) : List Bool → Nat → List Value
  | [], _ => []
  | b :: r, k => (if b then va_rf (f k) else .int (i k)) :: kfv f i r (k + 1)
theorem kfv_get {f : Nat → Option Nat} {i : Nat → Int32} : ∀ (ts : List Bool) (k j : Nat) (b : Bool), ts[j]? = some b → (kfv f i ts k)[j]? = some (if b then va_rf (f (k + j)) else .int (i (k + j)))
  | [], k, j, b, h => by simp at h
  | t :: r, k, 0, b, h => by simp at h; subst h; simp [kfv]
  | t :: r, k, j + 1, b, h => by
    have h' : r[j]? = some b := by simpa using h
    have ih := kfv_get (f := f) (i := i) r (k + 1) j b h'
    simp only [kfv, List.getElem?_cons_succ]
    rw [ih, show k + 1 + j = k + (j + 1) by omega]
theorem kfv_len {f : Nat → Option Nat} {i : Nat → Int32} : ∀ (ts : List Bool) (k : Nat), (kfv f i ts k).length = ts.length
  | [], k => rfl
  | t :: r, k => by simp [kfv, kfv_len r (k + 1)]
theorem kfv_same {f f' : Nat → Option Nat} {i i' : Nat → Int32} : ∀ (ts : List Bool) (k : Nat), (∀ j, k ≤ j → f j = f' j) → (∀ j, k ≤ j → i j = i' j) → kfv f i ts k = kfv f' i' ts k
  | [], k, _, _ => rfl
  | t :: r, k, h1, h2 => by
    simp only [kfv]
    rw [h1 k (Nat.le_refl k), h2 k (Nat.le_refl k), kfv_same r (k + 1) (fun j hj => h1 j (by omega)) (fun j hj => h2 j (by omega))]
theorem kfv_setI {f : Nat → Option Nat} {i : Nat → Int32} {x : Int32} : ∀ (ts : List Bool) (k j : Nat), ts[j]? = some false → (kfv f i ts k).set j (.int x) = kfv f (upd i (k + j) x) ts k
  | [], k, j, h => by simp at h
  | t :: r, k, 0, h => by
    simp at h; subst h
    simp only [kfv, List.set_cons_zero, Nat.add_zero]
    rw [kfv_same (f' := f) (i' := upd i k x) r (k + 1) (fun _ _ => rfl) (fun j hj => by simp [upd, show j ≠ k by omega])]
    simp [upd]
  | t :: r, k, j + 1, h => by
    have h' : r[j]? = some false := by simpa using h
    have ih := kfv_setI (f := f) (i := i) (x := x) r (k + 1) j h'
    simp only [kfv, List.set_cons_succ]
    rw [ih, show k + 1 + j = k + (j + 1) by omega]
    simp [upd, show k ≠ k + (j + 1) by omega]
theorem kfv_setR {f : Nat → Option Nat} {i : Nat → Int32} {x : Option Nat} : ∀ (ts : List Bool) (k j : Nat), ts[j]? = some true → (kfv f i ts k).set j (va_rf x) = kfv (va_up f (k + j) x) i ts k
  | [], k, j, h => by simp at h
  | t :: r, k, 0, h => by
    simp at h; subst h
    simp only [kfv, List.set_cons_zero, Nat.add_zero]
    rw [kfv_same (f' := va_up f k x) (i' := i) r (k + 1) (fun j hj => by simp [va_up, show j ≠ k by omega]) (fun _ _ => rfl)]
    simp [va_up]
  | t :: r, k, j + 1, h => by
    have h' : r[j]? = some true := by simpa using h
    have ih := kfv_setR (f := f) (i := i) (x := x) r (k + 1) j h'
    simp only [kfv, List.set_cons_succ]
    rw [ih, show k + 1 + j = k + (j + 1) by omega]
    simp [va_up, show k ≠ k + (j + 1) by omega]
-- a cell by its shape: (class, 0), or (100, n) an int array, (101, n) a char array
def kE (cI cC : ClassId) (h : Nat × Nat) (f : Nat → Option Nat) (i : Nat → Int32) : va_E := if h.1 = 100 then .inl (cI, h.2, .inl i) else if h.1 = 101 then .inl (cC, h.2, .inl i) else .inr (h.1, kfv f i (kft h.1) 0)
def kF (g : kG) (σ : kS) (I : kI) : Nat → va_E := fun a => kE g.2.2.1 g.2.2.2.1 (σ.2.1 a) (σ.2.2 a) (I a)
def kL (g : kG) (σ : kS) : List Nat := List.range' (kB g) (σ.1 - kB g)
def kW (g : kG) (σ : kS) (I : kI) : va_W := va_pl (kL g σ) (kF g σ I)
abbrev kTy (g : kG) : List (ClassId × FieldType) := [(g.2.2.1, .int), (g.2.2.2.1, .char)]
def kHold (g : kG) (σ : kS) (I : kI) (s : State) (H : Heap) : Prop := H.size = σ.1 ∧ kB g ≤ σ.1 ∧ va_P g.2.1 vwCl (kW g σ I) H ∧ va_K g.2.1 vwCl (kTy g) s
def kLh (ls : Array Slot) (nL : Nat) (loc : List (Option Value)) : Prop := ls.size = nL ∧ lv_wf ls ∧ loc.length = nL ∧ ∀ (i : Nat) (v : Value), loc[i]? = some (some v) → ls[i]? = some (.val v)
def kSa (i : Nat) : String := match i with
  | 0 => "FIRST_SETTINGS"
  | 1 => "LEAST_SETTINGS"
  | _ => "MOST_SETTINGS"
def kSv (i j : Nat) : Int32 := match i, j with
  | 0, 0 => 120
  | 0, 1 => 20
  | 0, _ => 1
  | 1, 0 => 1
  | 1, 1 => 1
  | 1, _ => -9
  | _, 0 => 500
  | _, 1 => 99
  | _, _ => 9
-- what every method may take as given of the start: the three tables of the class, the links between nest mates
def kST (g : kG) (s : State) : Prop := (∀ i, i < 3 → va_Z "BeltSums" (kSa i) "[I" (.ref (g.2.2.2.2.2 i)) (kA g) s s.heap ∧ va_T .int (g.2.2.2.2.2 i) 3 (fun j => .int (kSv i j)) (kA g) s s.heap) ∧ ∀ w ∈ nestWs, va_Nw w s
def kCx (g : kG) (μ : kM) (p : Program) (s : State) (m : MethodId) (args : Array Value) (meth : Method) (c : Code) : Prop :=
  p.tables.exec = Jvm.exec ∧ c.code = μ.2.1 ∧ c.maxLocals = μ.2.2.1 ∧ s.vm.findClass μ.1.cls = some m.cls ∧ (∀ w ∈ tblG, w.before args s = true) ∧ meth.locks = false ∧ meth.sig.returnType = μ.2.2.2 ∧ (μ.1.name = "<init>" → meth.name = "<init>") ∧ kST g s
def kAll (g : kG) (μ : kM) (E : State → Prop) (σ : kS) (I : kI) (loc : List (Option Value)) (p : Program) (s : State) (m : MethodId) (args : Array Value) (meth : Method) (c : Code) (H : Heap) (locs : List Loc) (ls : Array Slot) : Prop :=
  kCx g μ p s m args meth c ∧ E s ∧ kHold g σ I s H ∧ va_S (kA g) s.heap H locs ∧ kLh ls μ.2.2.1 loc
def kQ (g : kG) (Q : kP) : Array Value → State → Outcome → State → Prop := fun _ st oc t => ∃ (v : Option Value) (σ : kS) (I : kI), oc = .returned v ∧ Q v σ I ∧ kHold g σ I t t.heap ∧ va_F (kA g) st t
def wp (g : kG) (μ : kM) (R : Room) (E : State → Prop) (Q : kP) (n : Nat × Nat) (σ : kS) (I : kI) (pc : Nat) (loc : List (Option Value)) (st : List Value) : Prop :=
  ∀ (p : Program) (e : Env) (s : State) (m : MethodId) (args : Array Value) (below : List Frame) (meth : Method) (c : Code) (H : Heap) (locs : List Loc) (ls : Array Slot),
    kAll g μ E σ I loc p s m args meth c H locs ls → W p g.1 e R s m args below meth c H locs n.1 n.2 (MQ below (kQ g Q) args s R.cells R.slots (kA g)) (F0 m pc ls st)
/-- a contract -/
def ct (g : kG) (μ : kM) (R : Room) (as : List Value) (σ : kS) (I : kI) (Q : kP) : Prop :=
  Met g.1 μ.1 (.code μ.1 μ.2.1 μ.2.2.1 μ.2.2.2 :: tblG) R (va_Pc as (fun U => kHold g σ I U U.heap ∧ kST g U)) (kQ g Q) R.cells R.slots (kA g)
def kcat (v : Option Value) : Bool := match v with
  | some (.long _) => false
  | some (.double _) => false
  | _ => true
theorem kcat1 {v : Value} (h : kcat (some v) = true) : v.category = 1 := by cases v <;> simp_all [kcat, Value.category]
theorem kMono {g : kG} {μ : kM} {R : Room} {E : State → Prop} {Q Q' : kP} {n : Nat × Nat} {σ : kS} {I : kI} {pc : Nat} {loc : List (Option Value)} {st : List Value} (h : ∀ v σ I, Q v σ I → Q' v σ I) (w : wp g μ R E Q n σ I pc loc st) : wp g μ R E Q' n σ I pc loc st := by
  intro p e s m args below meth c H locs ls hh T hT X
  obtain ⟨t, a, o, b1, b2, ⟨v, σ', I', c1, c2, c3⟩, b4⟩ := w p e s m args below meth c H locs ls hh T hT X
  exact ⟨t, a, o, b1, b2, ⟨v, σ', I', c1, h _ _ _ c2, c3⟩, b4⟩
theorem kD {g : kG} {σ : kS} {I : kI} : va_D (kA g) (kW g σ I) := by
  refine ⟨fun i j p q hi hj hpq => ?_, fun k q hk => ?_⟩
  · simp only [kW, va_pl, List.getElem?_map, Option.map_eq_some_iff] at hi hj
    obtain ⟨a, ha, rfl⟩ := hi
    obtain ⟨b, hb, rfl⟩ := hj
    simp only at hpq
    subst hpq
    simp only [kL] at ha hb
    have h1 := List.getElem?_eq_some_iff.mp ha
    have h2 := List.getElem?_eq_some_iff.mp hb
    obtain ⟨h1a, h1b⟩ := h1
    obtain ⟨h2a, h2b⟩ := h2
    simp at h1b h2b
    omega
  · simp only [kW, va_pl, List.getElem?_map, Option.map_eq_some_iff] at hk
    obtain ⟨a, ha, rfl⟩ := hk
    have := List.mem_of_getElem? ha
    simp only [kL, List.mem_range'_1] at this
    exact this.1
theorem kIn {g : kG} {σ : kS} {I : kI} {a : Nat} (h : kB g ≤ a ∧ a < σ.1) : ∃ k : Nat, (kW g σ I)[k]? = some (a, kF g σ I a) := by
  have := va_pl_get (X := []) (L := kL g σ) (f := kF g σ I) (a := a) (by simp only [kL, List.mem_range'_1]; omega)
  simpa [kW] using this
def kst (I : kI) (a k : Nat) (x : Int32) : kI := va_up I a (upd (I a) k x)
theorem kst_s {I : kI} {a k : Nat} {x : Int32} : kst I a k x a = upd (I a) k x := by simp [kst, va_up]
theorem kst_n {I : kI} {a b k : Nat} {x : Int32} (h : b ≠ a) : kst I a k x b = I b := by simp [kst, va_up, h]
theorem kF_st {g : kG} {σ : kS} {I : kI} {a k : Nat} {x : Int32} : va_up (kF g σ I) a (kE g.2.2.1 g.2.2.2.1 (σ.2.1 a) (σ.2.2 a) (upd (I a) k x)) = kF g σ (kst I a k x) := by
  funext b
  by_cases h : b = a
  · subst h; simp [va_up, kF, kst_s]
  · simp [va_up, kF, h, kst_n h]
theorem kSet {g : kG} {σ : kS} {I : kI} {a k q : Nat} {x : Int32} (h : kB g ≤ a ∧ a < σ.1) (hq : (kW g σ I)[q]? = some (a, kF g σ I a)) : (kW g σ I).set q (a, kE g.2.2.1 g.2.2.2.1 (σ.2.1 a) (σ.2.2 a) (upd (I a) k x)) = kW g σ (kst I a k x) := by
  have hD : va_D (kA g) ([] ++ va_pl (kL g σ) (kF g σ I)) := kD
  have := va_pl_set (X := []) (a := a) (k := q) (e := kE g.2.2.1 g.2.2.2.1 (σ.2.1 a) (σ.2.2 a) (upd (I a) k x)) hD (by simp only [kL, List.mem_range'_1]; omega) hq
  simp only [List.nil_append] at this
  rw [show kW g σ I = va_pl (kL g σ) (kF g σ I) from rfl, this, kF_st]
  rfl
def kgst (G : Nat → Nat → Option Nat) (a k : Nat) (x : Option Nat) : Nat → Nat → Option Nat := va_up G a (va_up (G a) k x)
theorem kSetR {g : kG} {σ : kS} {I : kI} {a k q : Nat} {x : Option Nat} (h : kB g ≤ a ∧ a < σ.1) (hq : (kW g σ I)[q]? = some (a, kF g σ I a)) : (kW g σ I).set q (a, kE g.2.2.1 g.2.2.2.1 (σ.2.1 a) (va_up (σ.2.2 a) k x) (I a)) = kW g (σ.1, σ.2.1, kgst σ.2.2 a k x) I := by
  have hD : va_D (kA g) ([] ++ va_pl (kL g σ) (kF g σ I)) := kD
  have := va_pl_set (X := []) (a := a) (k := q) (e := kE g.2.2.1 g.2.2.2.1 (σ.2.1 a) (va_up (σ.2.2 a) k x) (I a)) hD (by simp only [kL, List.mem_range'_1]; omega) hq
  simp only [List.nil_append] at this
  rw [show kW g σ I = va_pl (kL g σ) (kF g σ I) from rfl, this]
  show va_pl _ _ = va_pl _ _
  congr 1
  funext b
  by_cases h : b = a
  · subst h; simp [va_up, kF, kgst]
  · simp [va_up, kF, kgst, h]
def kCI (ci : Nat) (C : String) (T : u_T) (ty : Nat → FieldType) (N : Nat) : Prop := vwCl[ci]? = some (C, T, N) ∧ (∀ w ∈ u_ws C T N, w ∈ tblG) ∧ (∀ k, k < N → parseFieldDescriptor (T k).2.2.1 = some (ty k)) ∧ (∀ a, a < N → ∀ b, b < N → a ≠ b → (T a).2.1 ≠ (T b).2.1) ∧ (kft ci).length = N ∧ ci ≠ 100 ∧ ci ≠ 101
theorem kc0 : kCI 0 RX0 TX0 tyX0 4 := ⟨rfl, inW0, tyX0_ok, nmX0, rfl, by decide, by decide⟩
theorem kc1 : kCI 1 RX1 TX1 tyX1 3 := ⟨rfl, inW1, tyX1_ok, nmX1, rfl, by decide, by decide⟩
theorem kc2 : kCI 2 RX2 TX2 tyX2 4 := ⟨rfl, inW2, tyX2_ok, nmX2, rfl, by decide, by decide⟩
theorem kc3 : kCI 3 RX3 TX3 tyX3 4 := ⟨rfl, inW3, tyX3_ok, nmX3, rfl, by decide, by decide⟩
theorem kc4 : kCI 4 RX4 TX4 tyX4 5 := ⟨rfl, inW4, tyX4_ok, nmX4, rfl, by decide, by decide⟩
theorem kc5 : kCI 5 RX5 TX5 tyX5 4 := ⟨rfl, inW5, tyX5_ok, nmX5, rfl, by decide, by decide⟩
theorem kc6 : kCI 6 RX6 TX6 tyX6 15 := ⟨rfl, inW6, tyX6_ok, nmX6, rfl, by decide, by decide⟩
theorem kc7 : kCI 7 RX7 TX7 tyX7 5 := ⟨rfl, inW7, tyX7_ok, nmX7, rfl, by decide, by decide⟩
theorem kc8 : kCI 8 RX8 TX8 tyX8 5 := ⟨rfl, inW8, tyX8_ok, nmX8, rfl, by decide, by decide⟩
theorem kc9 : kCI 9 RX9 TX9 tyX9 2 := ⟨rfl, inW9, tyX9_ok, nmX9, rfl, by decide, by decide⟩
theorem kc10 : kCI 10 RX10 TX10 tyX10 5 := ⟨rfl, inW10, tyX10_ok, nmX10, rfl, by decide, by decide⟩
section KWP
variable {g : kG} {μ : kM} {R : Room} {E : State → Prop} {Q : kP} {n : Nat × Nat} {σ : kS} {I : kI} {pc : Nat} {loc : List (Option Value)} {st : List Value}
theorem w_iconst {k : Int} {v : Int32} (hd : decode μ.2.1 pc = .ok (.iconst k, 1)) (hv : Int32.ofInt k = v) (kk : wp g μ R E Q n σ I (pc + 1) loc (.int v :: st)) : wp g μ R E Q n σ I pc loc (st) := fun p e s m args below meth c H locs ls h => lv_iconst h.1.1 h.1.2.1 hd hv (kk p e s m args below meth c H locs ls h)
theorem w_bipush {k : Int} {v : Int32} (hd : decode μ.2.1 pc = .ok (.bipush k, 2)) (hv : (Int8.ofInt k).toInt32 = v) (kk : wp g μ R E Q n σ I (pc + 2) loc (.int v :: st)) : wp g μ R E Q n σ I pc loc (st) := fun p e s m args below meth c H locs ls h => lv_bipush h.1.1 h.1.2.1 hd hv (kk p e s m args below meth c H locs ls h)
theorem w_sipush {k : Int} {v : Int32} (hd : decode μ.2.1 pc = .ok (.sipush k, 3)) (hv : (Int16.ofInt k).toInt32 = v) (kk : wp g μ R E Q n σ I (pc + 3) loc (.int v :: st)) : wp g μ R E Q n σ I pc loc (st) := fun p e s m args below meth c H locs ls h => lv_sipush h.1.1 h.1.2.1 hd hv (kk p e s m args below meth c H locs ls h)
theorem w_lconst {k : Fin 2} {v : Int64} (hd : decode μ.2.1 pc = .ok (.lconst k, 1)) (hv : Int64.ofNat (k : Nat) = v) (kk : wp g μ R E Q n σ I (pc + 1) loc (.long v :: st)) : wp g μ R E Q n σ I pc loc (st) := fun p e s m args below meth c H locs ls h => lv_lconst h.1.1 h.1.2.1 hd hv (kk p e s m args below meth c H locs ls h)
theorem w_iadd {x y : Int32} (hd : decode μ.2.1 pc = .ok (.iadd, 1)) (kk : wp g μ R E Q n σ I (pc + 1) loc (.int (x + y) :: st)) : wp g μ R E Q n σ I pc loc (.int y :: .int x :: st) := fun p e s m args below meth c H locs ls h => lv_iadd h.1.1 h.1.2.1 hd (kk p e s m args below meth c H locs ls h)
theorem w_isub {x y : Int32} (hd : decode μ.2.1 pc = .ok (.isub, 1)) (kk : wp g μ R E Q n σ I (pc + 1) loc (.int (x - y) :: st)) : wp g μ R E Q n σ I pc loc (.int y :: .int x :: st) := fun p e s m args below meth c H locs ls h => lv_isub h.1.1 h.1.2.1 hd (kk p e s m args below meth c H locs ls h)
theorem w_imul {x y : Int32} (hd : decode μ.2.1 pc = .ok (.imul, 1)) (kk : wp g μ R E Q n σ I (pc + 1) loc (.int (x * y) :: st)) : wp g μ R E Q n σ I pc loc (.int y :: .int x :: st) := fun p e s m args below meth c H locs ls h => lv_imul h.1.1 h.1.2.1 hd (kk p e s m args below meth c H locs ls h)
theorem w_iand {x y : Int32} (hd : decode μ.2.1 pc = .ok (.iand, 1)) (kk : wp g μ R E Q n σ I (pc + 1) loc (.int (x &&& y) :: st)) : wp g μ R E Q n σ I pc loc (.int y :: .int x :: st) := fun p e s m args below meth c H locs ls h => lv_iand h.1.1 h.1.2.1 hd (kk p e s m args below meth c H locs ls h)
theorem w_lmul {x y : Int64} (hd : decode μ.2.1 pc = .ok (.lmul, 1)) (kk : wp g μ R E Q n σ I (pc + 1) loc (.long (x * y) :: st)) : wp g μ R E Q n σ I pc loc (.long y :: .long x :: st) := fun p e s m args below meth c H locs ls h => lv_lmul h.1.1 h.1.2.1 hd (kk p e s m args below meth c H locs ls h)
theorem w_ldiv {x y : Int64} (hd : decode μ.2.1 pc = .ok (.ldiv, 1)) (hne : ¬ y = 0) (kk : wp g μ R E Q n σ I (pc + 1) loc (.long (x / y) :: st)) : wp g μ R E Q n σ I pc loc (.long y :: .long x :: st) := fun p e s m args below meth c H locs ls h => lv_ldiv h.1.1 h.1.2.1 hd hne (kk p e s m args below meth c H locs ls h)
theorem w_idiv {x y : Int32} (hd : decode μ.2.1 pc = .ok (.idiv, 1)) (hne : ¬ y = 0) (kk : wp g μ R E Q n σ I (pc + 1) loc (.int (x / y) :: st)) : wp g μ R E Q n σ I pc loc (.int y :: .int x :: st) := fun p e s m args below meth c H locs ls h => lv_idiv h.1.1 h.1.2.1 hd hne (kk p e s m args below meth c H locs ls h)
theorem w_irem {x y : Int32} (hd : decode μ.2.1 pc = .ok (.irem, 1)) (hne : ¬ y = 0) (kk : wp g μ R E Q n σ I (pc + 1) loc (.int (x - x / y * y) :: st)) : wp g μ R E Q n σ I pc loc (.int y :: .int x :: st) := fun p e s m args below meth c H locs ls h => lv_irem h.1.1 h.1.2.1 hd hne (kk p e s m args below meth c H locs ls h)
theorem w_i2l {x : Int32} (hd : decode μ.2.1 pc = .ok (.i2l, 1)) (kk : wp g μ R E Q n σ I (pc + 1) loc (.long (x.toInt64) :: st)) : wp g μ R E Q n σ I pc loc (.int x :: st) := fun p e s m args below meth c H locs ls h => lv_i2l h.1.1 h.1.2.1 hd rfl (kk p e s m args below meth c H locs ls h)
theorem w_l2i {x : Int64} (hd : decode μ.2.1 pc = .ok (.l2i, 1)) (kk : wp g μ R E Q n σ I (pc + 1) loc (.int (x.toInt32) :: st)) : wp g μ R E Q n σ I pc loc (.long x :: st) := fun p e s m args below meth c H locs ls h => lv_l2i h.1.1 h.1.2.1 hd rfl (kk p e s m args below meth c H locs ls h)
theorem w_i2c {x : Int32} (hd : decode μ.2.1 pc = .ok (.i2c, 1)) (kk : wp g μ R E Q n σ I (pc + 1) loc (.int ((x.toUInt32 % 65536).toInt32) :: st)) : wp g μ R E Q n σ I pc loc (.int x :: st) := fun p e s m args below meth c H locs ls h => lv_i2c h.1.1 h.1.2.1 hd rfl (kk p e s m args below meth c H locs ls h)
theorem w_lcmp {x y : Int64} (hd : decode μ.2.1 pc = .ok (.lcmp, 1)) (kk : wp g μ R E Q n σ I (pc + 1) loc (.int (lg_cmp x y) :: st)) : wp g μ R E Q n σ I pc loc (.long y :: .long x :: st) := fun p e s m args below meth c H locs ls h => W.lcmp h.1.1 h.1.2.1 hd (kk p e s m args below meth c H locs ls h)
theorem w_dup_i {x : Int32} (hd : decode μ.2.1 pc = .ok (.dup, 1)) (kk : wp g μ R E Q n σ I (pc + 1) loc (.int x :: .int x :: st)) : wp g μ R E Q n σ I pc loc (.int x :: st) := fun p e s m args below meth c H locs ls h => lv_dup h.1.1 h.1.2.1 hd rfl (kk p e s m args below meth c H locs ls h)
theorem w_pop_i {x : Int32} (hd : decode μ.2.1 pc = .ok (.pop, 1)) (kk : wp g μ R E Q n σ I (pc + 1) loc (st)) : wp g μ R E Q n σ I pc loc (.int x :: st) := fun p e s m args below meth c H locs ls h => lv_pop h.1.1 h.1.2.1 hd rfl (kk p e s m args below meth c H locs ls h)
theorem w_dup_a {x : Nat} (hd : decode μ.2.1 pc = .ok (.dup, 1)) (kk : wp g μ R E Q n σ I (pc + 1) loc (.ref x :: .ref x :: st)) : wp g μ R E Q n σ I pc loc (.ref x :: st) := fun p e s m args below meth c H locs ls h => lv_dup h.1.1 h.1.2.1 hd rfl (kk p e s m args below meth c H locs ls h)
theorem w_pop_a {x : Nat} (hd : decode μ.2.1 pc = .ok (.pop, 1)) (kk : wp g μ R E Q n σ I (pc + 1) loc (st)) : wp g μ R E Q n σ I pc loc (.ref x :: st) := fun p e s m args below meth c H locs ls h => lv_pop h.1.1 h.1.2.1 hd rfl (kk p e s m args below meth c H locs ls h)
theorem w_dup2 {x : Nat} {y : Int32} (hd : decode μ.2.1 pc = .ok (.dup2, 1)) (kk : wp g μ R E Q n σ I (pc + 1) loc (.int y :: .ref x :: .int y :: .ref x :: st)) : wp g μ R E Q n σ I pc loc (.int y :: .ref x :: st) := fun p e s m args below meth c H locs ls h => lv_dup2_11 h.1.1 h.1.2.1 hd rfl rfl (kk p e s m args below meth c H locs ls h)
theorem w_ldc {i : Nat} {v : Int32} (hw : Cond.constant μ.1.cls i v ∈ tblG) (hd : decode μ.2.1 pc = .ok (.ldc i, 2)) (kk : wp g μ R E Q n σ I (pc + 2) loc (.int v :: st)) : wp g μ R E Q n σ I pc loc st := fun p e s m args below meth c H locs ls h => lv_ldc h.1.1 h.1.2.1 h.1.2.2.2.1 (h.1.2.2.2.2.1 _ hw) hd (kk p e s m args below meth c H locs ls h)
theorem w_ldc2 {i : Nat} {v : Int64} (hw : Cond.constantLong μ.1.cls i v ∈ tblG) (hd : decode μ.2.1 pc = .ok (.ldc2_w i, 3)) (kk : wp g μ R E Q n σ I (pc + 3) loc (.long v :: st)) : wp g μ R E Q n σ I pc loc st := fun p e s m args below meth c H locs ls h => lv_ldc2 h.1.1 h.1.2.1 h.1.2.2.2.1 (h.1.2.2.2.2.1 _ hw) hd (kk p e s m args below meth c H locs ls h)
theorem w_goto {off : Int} {tgt : Nat} (hd : decode μ.2.1 pc = .ok (.goto off, 3)) (ht : (pc : Int) + off = (tgt : Int)) (kk : wp g μ R E Q n σ I tgt loc st) : wp g μ R E Q n σ I pc loc st := fun p e s m args below meth c H locs ls h => lv_goto h.1.1 h.1.2.1 hd ht (kk p e s m args below meth c H locs ls h)
theorem w_if_eq {x : Int32} {off : Int} {tgt : Nat} (hd : decode μ.2.1 pc = .ok (.ifCond .eq off, 3)) (ht : (pc : Int) + off = (tgt : Int)) (kt : x = 0 → wp g μ R E Q n σ I tgt loc st) (kf : ¬ x = 0 → wp g μ R E Q n σ I (pc + 3) loc st) : wp g μ R E Q n σ I pc loc (.int x :: st) := fun p e s m args below meth c H locs ls h => lv_if_eq h.1.1 h.1.2.1 hd ht (fun z => kt z p e s m args below meth c H locs ls h) (fun z => kf z p e s m args below meth c H locs ls h)
theorem w_icmp_eq {x y : Int32} {off : Int} {tgt : Nat} (hd : decode μ.2.1 pc = .ok (.if_icmp .eq off, 3)) (ht : (pc : Int) + off = (tgt : Int)) (kt : x = y → wp g μ R E Q n σ I tgt loc st) (kf : ¬ x = y → wp g μ R E Q n σ I (pc + 3) loc st) : wp g μ R E Q n σ I pc loc (.int y :: .int x :: st) := fun p e s m args below meth c H locs ls h => lv_icmp_eq h.1.1 h.1.2.1 hd ht (fun z => kt z p e s m args below meth c H locs ls h) (fun z => kf z p e s m args below meth c H locs ls h)
theorem w_if_ne {x : Int32} {off : Int} {tgt : Nat} (hd : decode μ.2.1 pc = .ok (.ifCond .ne off, 3)) (ht : (pc : Int) + off = (tgt : Int)) (kt : ¬ x = 0 → wp g μ R E Q n σ I tgt loc st) (kf : x = 0 → wp g μ R E Q n σ I (pc + 3) loc st) : wp g μ R E Q n σ I pc loc (.int x :: st) := fun p e s m args below meth c H locs ls h => lv_if_ne h.1.1 h.1.2.1 hd ht (fun z => kt z p e s m args below meth c H locs ls h) (fun z => kf z p e s m args below meth c H locs ls h)
theorem w_icmp_ne {x y : Int32} {off : Int} {tgt : Nat} (hd : decode μ.2.1 pc = .ok (.if_icmp .ne off, 3)) (ht : (pc : Int) + off = (tgt : Int)) (kt : ¬ x = y → wp g μ R E Q n σ I tgt loc st) (kf : x = y → wp g μ R E Q n σ I (pc + 3) loc st) : wp g μ R E Q n σ I pc loc (.int y :: .int x :: st) := fun p e s m args below meth c H locs ls h => lv_icmp_ne h.1.1 h.1.2.1 hd ht (fun z => kt z p e s m args below meth c H locs ls h) (fun z => kf z p e s m args below meth c H locs ls h)
theorem w_if_lt {x : Int32} {off : Int} {tgt : Nat} (hd : decode μ.2.1 pc = .ok (.ifCond .lt off, 3)) (ht : (pc : Int) + off = (tgt : Int)) (kt : x < 0 → wp g μ R E Q n σ I tgt loc st) (kf : ¬ x < 0 → wp g μ R E Q n σ I (pc + 3) loc st) : wp g μ R E Q n σ I pc loc (.int x :: st) := fun p e s m args below meth c H locs ls h => lv_if_lt h.1.1 h.1.2.1 hd ht (fun z => kt z p e s m args below meth c H locs ls h) (fun z => kf z p e s m args below meth c H locs ls h)
theorem w_icmp_lt {x y : Int32} {off : Int} {tgt : Nat} (hd : decode μ.2.1 pc = .ok (.if_icmp .lt off, 3)) (ht : (pc : Int) + off = (tgt : Int)) (kt : x < y → wp g μ R E Q n σ I tgt loc st) (kf : ¬ x < y → wp g μ R E Q n σ I (pc + 3) loc st) : wp g μ R E Q n σ I pc loc (.int y :: .int x :: st) := fun p e s m args below meth c H locs ls h => lv_icmp_lt h.1.1 h.1.2.1 hd ht (fun z => kt z p e s m args below meth c H locs ls h) (fun z => kf z p e s m args below meth c H locs ls h)
theorem w_if_ge {x : Int32} {off : Int} {tgt : Nat} (hd : decode μ.2.1 pc = .ok (.ifCond .ge off, 3)) (ht : (pc : Int) + off = (tgt : Int)) (kt : 0 ≤ x → wp g μ R E Q n σ I tgt loc st) (kf : ¬ 0 ≤ x → wp g μ R E Q n σ I (pc + 3) loc st) : wp g μ R E Q n σ I pc loc (.int x :: st) := fun p e s m args below meth c H locs ls h => lv_if_ge h.1.1 h.1.2.1 hd ht (fun z => kt z p e s m args below meth c H locs ls h) (fun z => kf z p e s m args below meth c H locs ls h)
theorem w_icmp_ge {x y : Int32} {off : Int} {tgt : Nat} (hd : decode μ.2.1 pc = .ok (.if_icmp .ge off, 3)) (ht : (pc : Int) + off = (tgt : Int)) (kt : y ≤ x → wp g μ R E Q n σ I tgt loc st) (kf : ¬ y ≤ x → wp g μ R E Q n σ I (pc + 3) loc st) : wp g μ R E Q n σ I pc loc (.int y :: .int x :: st) := fun p e s m args below meth c H locs ls h => lv_icmp_ge h.1.1 h.1.2.1 hd ht (fun z => kt z p e s m args below meth c H locs ls h) (fun z => kf z p e s m args below meth c H locs ls h)
theorem w_if_gt {x : Int32} {off : Int} {tgt : Nat} (hd : decode μ.2.1 pc = .ok (.ifCond .gt off, 3)) (ht : (pc : Int) + off = (tgt : Int)) (kt : 0 < x → wp g μ R E Q n σ I tgt loc st) (kf : ¬ 0 < x → wp g μ R E Q n σ I (pc + 3) loc st) : wp g μ R E Q n σ I pc loc (.int x :: st) := fun p e s m args below meth c H locs ls h => lv_if_gt h.1.1 h.1.2.1 hd ht (fun z => kt z p e s m args below meth c H locs ls h) (fun z => kf z p e s m args below meth c H locs ls h)
theorem w_icmp_gt {x y : Int32} {off : Int} {tgt : Nat} (hd : decode μ.2.1 pc = .ok (.if_icmp .gt off, 3)) (ht : (pc : Int) + off = (tgt : Int)) (kt : y < x → wp g μ R E Q n σ I tgt loc st) (kf : ¬ y < x → wp g μ R E Q n σ I (pc + 3) loc st) : wp g μ R E Q n σ I pc loc (.int y :: .int x :: st) := fun p e s m args below meth c H locs ls h => lv_icmp_gt h.1.1 h.1.2.1 hd ht (fun z => kt z p e s m args below meth c H locs ls h) (fun z => kf z p e s m args below meth c H locs ls h)
theorem w_if_le {x : Int32} {off : Int} {tgt : Nat} (hd : decode μ.2.1 pc = .ok (.ifCond .le off, 3)) (ht : (pc : Int) + off = (tgt : Int)) (kt : x ≤ 0 → wp g μ R E Q n σ I tgt loc st) (kf : ¬ x ≤ 0 → wp g μ R E Q n σ I (pc + 3) loc st) : wp g μ R E Q n σ I pc loc (.int x :: st) := fun p e s m args below meth c H locs ls h => lv_if_le h.1.1 h.1.2.1 hd ht (fun z => kt z p e s m args below meth c H locs ls h) (fun z => kf z p e s m args below meth c H locs ls h)
theorem w_icmp_le {x y : Int32} {off : Int} {tgt : Nat} (hd : decode μ.2.1 pc = .ok (.if_icmp .le off, 3)) (ht : (pc : Int) + off = (tgt : Int)) (kt : x ≤ y → wp g μ R E Q n σ I tgt loc st) (kf : ¬ x ≤ y → wp g μ R E Q n σ I (pc + 3) loc st) : wp g μ R E Q n σ I pc loc (.int y :: .int x :: st) := fun p e s m args below meth c H locs ls h => lv_icmp_le h.1.1 h.1.2.1 hd ht (fun z => kt z p e s m args below meth c H locs ls h) (fun z => kf z p e s m args below meth c H locs ls h)
theorem w_tableOut {dflt lo hi : Int} {offs : Array Int} {len : Nat} {x : Int32} {tgt : Nat} (hd : decode μ.2.1 pc = .ok (.tableswitch dflt lo hi offs, len)) (h9 : x.toInt < lo ∨ hi < x.toInt) (ht : (pc : Int) + dflt = (tgt : Int)) (kk : wp g μ R E Q n σ I tgt loc st) : wp g μ R E Q n σ I pc loc (.int x :: st) := fun p e s m args below meth c H locs ls h => lv_tableOut h.1.1 h.1.2.1 hd h9 ht (kk p e s m args below meth c H locs ls h)
theorem w_tableIn {dflt lo hi : Int} {offs : Array Int} {len : Nat} {x : Int32} {off : Int} {tgt : Nat} (hd : decode μ.2.1 pc = .ok (.tableswitch dflt lo hi offs, len)) (h1 : ¬ x.toInt < lo) (h2 : ¬ hi < x.toInt) (ho : offs[(x.toInt - lo).toNat]? = some off) (ht : (pc : Int) + off = (tgt : Int)) (kk : wp g μ R E Q n σ I tgt loc st) : wp g μ R E Q n σ I pc loc (.int x :: st) := fun p e s m args below meth c H locs ls h => lv_tableIn h.1.1 h.1.2.1 hd h1 h2 ho ht (kk p e s m args below meth c H locs ls h)
theorem w_lookup {dflt : Int} {ps : Array (Int × Int)} {len : Nat} {x : Int32} {off : Int} {tgt : Nat} (hd : decode μ.2.1 pc = .ok (.lookupswitch dflt ps, len)) (hp : (ps.toList.zip (ps.toList.drop 1)).all (fun (a, next) => a.1 < next.1) = true) (ho : Op.lookupswitch.offset ps.toList dflt x.toInt = off) (ht : (pc : Int) + off = (tgt : Int)) (kk : wp g μ R E Q n σ I tgt loc st) : wp g μ R E Q n σ I pc loc (.int x :: st) := fun p e s m args below meth c H locs ls h => lv_lookup h.1.1 h.1.2.1 hd hp ho ht (kk p e s m args below meth c H locs ls h)
theorem w_iload_n {k : Fin 4} {x : Int32} (hd : decode μ.2.1 pc = .ok (.iload_n k, 1)) (hl : loc[(k : Nat)]? = some (some (.int x))) (kk : wp g μ R E Q n σ I (pc + 1) loc (.int x :: st)) : wp g μ R E Q n σ I pc loc st := fun p e s m args below meth c H locs ls h => lv_iload_n h.1.1 h.1.2.1 hd rfl (h.2.2.2.2.2.2.2 _ _ hl) (kk p e s m args below meth c H locs ls h)
theorem w_iload {k : Nat} {x : Int32} (hd : decode μ.2.1 pc = .ok (.iload k, 2)) (hl : loc[k]? = some (some (.int x))) (kk : wp g μ R E Q n σ I (pc + 2) loc (.int x :: st)) : wp g μ R E Q n σ I pc loc st := fun p e s m args below meth c H locs ls h => lv_iload h.1.1 h.1.2.1 hd (h.2.2.2.2.2.2.2 _ _ hl) (kk p e s m args below meth c H locs ls h)
theorem w_iload_0 {l : List (Option Value)} {x : Int32} (hd : decode μ.2.1 pc = .ok (.iload_n 0, 1)) (kk : wp g μ R E Q n σ I (pc + 1) (some (.int x) :: l) (.int x :: st)) : wp g μ R E Q n σ I pc (some (.int x) :: l) st := w_iload_n hd rfl kk
theorem w_iload_1 {a0 : Option Value} {l : List (Option Value)} {x : Int32} (hd : decode μ.2.1 pc = .ok (.iload_n 1, 1)) (kk : wp g μ R E Q n σ I (pc + 1) (a0 :: some (.int x) :: l) (.int x :: st)) : wp g μ R E Q n σ I pc (a0 :: some (.int x) :: l) st := w_iload_n hd rfl kk
theorem w_iload_2 {a0 a1 : Option Value} {l : List (Option Value)} {x : Int32} (hd : decode μ.2.1 pc = .ok (.iload_n 2, 1)) (kk : wp g μ R E Q n σ I (pc + 1) (a0 :: a1 :: some (.int x) :: l) (.int x :: st)) : wp g μ R E Q n σ I pc (a0 :: a1 :: some (.int x) :: l) st := w_iload_n hd rfl kk
theorem w_iload_3 {a0 a1 a2 : Option Value} {l : List (Option Value)} {x : Int32} (hd : decode μ.2.1 pc = .ok (.iload_n 3, 1)) (kk : wp g μ R E Q n σ I (pc + 1) (a0 :: a1 :: a2 :: some (.int x) :: l) (.int x :: st)) : wp g μ R E Q n σ I pc (a0 :: a1 :: a2 :: some (.int x) :: l) st := w_iload_n hd rfl kk
theorem w_iload_4 {a0 a1 a2 a3 : Option Value} {l : List (Option Value)} {x : Int32} (hd : decode μ.2.1 pc = .ok (.iload 4, 2)) (kk : wp g μ R E Q n σ I (pc + 2) (a0 :: a1 :: a2 :: a3 :: some (.int x) :: l) (.int x :: st)) : wp g μ R E Q n σ I pc (a0 :: a1 :: a2 :: a3 :: some (.int x) :: l) st := w_iload hd rfl kk
theorem w_iload_5 {a0 a1 a2 a3 a4 : Option Value} {l : List (Option Value)} {x : Int32} (hd : decode μ.2.1 pc = .ok (.iload 5, 2)) (kk : wp g μ R E Q n σ I (pc + 2) (a0 :: a1 :: a2 :: a3 :: a4 :: some (.int x) :: l) (.int x :: st)) : wp g μ R E Q n σ I pc (a0 :: a1 :: a2 :: a3 :: a4 :: some (.int x) :: l) st := w_iload hd rfl kk
theorem w_iload_6 {a0 a1 a2 a3 a4 a5 : Option Value} {l : List (Option Value)} {x : Int32} (hd : decode μ.2.1 pc = .ok (.iload 6, 2)) (kk : wp g μ R E Q n σ I (pc + 2) (a0 :: a1 :: a2 :: a3 :: a4 :: a5 :: some (.int x) :: l) (.int x :: st)) : wp g μ R E Q n σ I pc (a0 :: a1 :: a2 :: a3 :: a4 :: a5 :: some (.int x) :: l) st := w_iload hd rfl kk
theorem w_iload_7 {a0 a1 a2 a3 a4 a5 a6 : Option Value} {l : List (Option Value)} {x : Int32} (hd : decode μ.2.1 pc = .ok (.iload 7, 2)) (kk : wp g μ R E Q n σ I (pc + 2) (a0 :: a1 :: a2 :: a3 :: a4 :: a5 :: a6 :: some (.int x) :: l) (.int x :: st)) : wp g μ R E Q n σ I pc (a0 :: a1 :: a2 :: a3 :: a4 :: a5 :: a6 :: some (.int x) :: l) st := w_iload hd rfl kk
theorem w_aload_n {k : Fin 4} {x : Nat} (hd : decode μ.2.1 pc = .ok (.aload_n k, 1)) (hl : loc[(k : Nat)]? = some (some (.ref x))) (kk : wp g μ R E Q n σ I (pc + 1) loc (.ref x :: st)) : wp g μ R E Q n σ I pc loc st := fun p e s m args below meth c H locs ls h => lv_aload_n h.1.1 h.1.2.1 hd rfl (h.2.2.2.2.2.2.2 _ _ hl) (kk p e s m args below meth c H locs ls h)
theorem w_aload {k : Nat} {x : Nat} (hd : decode μ.2.1 pc = .ok (.aload k, 2)) (hl : loc[k]? = some (some (.ref x))) (kk : wp g μ R E Q n σ I (pc + 2) loc (.ref x :: st)) : wp g μ R E Q n σ I pc loc st := fun p e s m args below meth c H locs ls h => lv_aload h.1.1 h.1.2.1 hd (h.2.2.2.2.2.2.2 _ _ hl) (kk p e s m args below meth c H locs ls h)
theorem w_aload_0 {l : List (Option Value)} {x : Nat} (hd : decode μ.2.1 pc = .ok (.aload_n 0, 1)) (kk : wp g μ R E Q n σ I (pc + 1) (some (.ref x) :: l) (.ref x :: st)) : wp g μ R E Q n σ I pc (some (.ref x) :: l) st := w_aload_n hd rfl kk
theorem w_aload_1 {a0 : Option Value} {l : List (Option Value)} {x : Nat} (hd : decode μ.2.1 pc = .ok (.aload_n 1, 1)) (kk : wp g μ R E Q n σ I (pc + 1) (a0 :: some (.ref x) :: l) (.ref x :: st)) : wp g μ R E Q n σ I pc (a0 :: some (.ref x) :: l) st := w_aload_n hd rfl kk
theorem w_aload_2 {a0 a1 : Option Value} {l : List (Option Value)} {x : Nat} (hd : decode μ.2.1 pc = .ok (.aload_n 2, 1)) (kk : wp g μ R E Q n σ I (pc + 1) (a0 :: a1 :: some (.ref x) :: l) (.ref x :: st)) : wp g μ R E Q n σ I pc (a0 :: a1 :: some (.ref x) :: l) st := w_aload_n hd rfl kk
theorem w_aload_3 {a0 a1 a2 : Option Value} {l : List (Option Value)} {x : Nat} (hd : decode μ.2.1 pc = .ok (.aload_n 3, 1)) (kk : wp g μ R E Q n σ I (pc + 1) (a0 :: a1 :: a2 :: some (.ref x) :: l) (.ref x :: st)) : wp g μ R E Q n σ I pc (a0 :: a1 :: a2 :: some (.ref x) :: l) st := w_aload_n hd rfl kk
theorem w_aload_4 {a0 a1 a2 a3 : Option Value} {l : List (Option Value)} {x : Nat} (hd : decode μ.2.1 pc = .ok (.aload 4, 2)) (kk : wp g μ R E Q n σ I (pc + 2) (a0 :: a1 :: a2 :: a3 :: some (.ref x) :: l) (.ref x :: st)) : wp g μ R E Q n σ I pc (a0 :: a1 :: a2 :: a3 :: some (.ref x) :: l) st := w_aload hd rfl kk
theorem w_aload_5 {a0 a1 a2 a3 a4 : Option Value} {l : List (Option Value)} {x : Nat} (hd : decode μ.2.1 pc = .ok (.aload 5, 2)) (kk : wp g μ R E Q n σ I (pc + 2) (a0 :: a1 :: a2 :: a3 :: a4 :: some (.ref x) :: l) (.ref x :: st)) : wp g μ R E Q n σ I pc (a0 :: a1 :: a2 :: a3 :: a4 :: some (.ref x) :: l) st := w_aload hd rfl kk
theorem w_aload_6 {a0 a1 a2 a3 a4 a5 : Option Value} {l : List (Option Value)} {x : Nat} (hd : decode μ.2.1 pc = .ok (.aload 6, 2)) (kk : wp g μ R E Q n σ I (pc + 2) (a0 :: a1 :: a2 :: a3 :: a4 :: a5 :: some (.ref x) :: l) (.ref x :: st)) : wp g μ R E Q n σ I pc (a0 :: a1 :: a2 :: a3 :: a4 :: a5 :: some (.ref x) :: l) st := w_aload hd rfl kk
theorem w_aload_7 {a0 a1 a2 a3 a4 a5 a6 : Option Value} {l : List (Option Value)} {x : Nat} (hd : decode μ.2.1 pc = .ok (.aload 7, 2)) (kk : wp g μ R E Q n σ I (pc + 2) (a0 :: a1 :: a2 :: a3 :: a4 :: a5 :: a6 :: some (.ref x) :: l) (.ref x :: st)) : wp g μ R E Q n σ I pc (a0 :: a1 :: a2 :: a3 :: a4 :: a5 :: a6 :: some (.ref x) :: l) st := w_aload hd rfl kk
theorem w_lload_n {k : Fin 4} {x : Int64} (hd : decode μ.2.1 pc = .ok (.lload_n k, 1)) (hl : loc[(k : Nat)]? = some (some (.long x))) (kk : wp g μ R E Q n σ I (pc + 1) loc (.long x :: st)) : wp g μ R E Q n σ I pc loc st := fun p e s m args below meth c H locs ls h => lv_lload_n h.1.1 h.1.2.1 hd rfl (h.2.2.2.2.2.2.2 _ _ hl) (kk p e s m args below meth c H locs ls h)
theorem w_lload {k : Nat} {x : Int64} (hd : decode μ.2.1 pc = .ok (.lload k, 2)) (hl : loc[k]? = some (some (.long x))) (kk : wp g μ R E Q n σ I (pc + 2) loc (.long x :: st)) : wp g μ R E Q n σ I pc loc st := fun p e s m args below meth c H locs ls h => lv_lload h.1.1 h.1.2.1 hd (h.2.2.2.2.2.2.2 _ _ hl) (kk p e s m args below meth c H locs ls h)
theorem w_lload_3 {a0 a1 a2 : Option Value} {l : List (Option Value)} {x : Int64} (hd : decode μ.2.1 pc = .ok (.lload_n 3, 1)) (kk : wp g μ R E Q n σ I (pc + 1) (a0 :: a1 :: a2 :: some (.long x) :: l) (.long x :: st)) : wp g μ R E Q n σ I pc (a0 :: a1 :: a2 :: some (.long x) :: l) st := w_lload_n hd rfl kk
def ktoA (loc : List (Option Value)) : List (Nat × Value) := (loc.zipIdx).filterMap (fun q => q.1.map (fun v => (q.2, v)))
theorem ktoA_mem {loc : List (Option Value)} {i : Nat} {v : Value} : (i, v) ∈ ktoA loc ↔ loc[i]? = some (some v) := by
  simp only [ktoA, List.mem_filterMap, Option.map_eq_some_iff]
  constructor
  · rintro ⟨⟨o, k⟩, h1, w, h2, h3⟩
    simp only [Prod.mk.injEq] at h3
    obtain ⟨rfl, rfl⟩ := h3
    have := List.mem_zipIdx_iff_getElem?.mp h1
    simp only at this h2
    rw [this, h2]
  · intro h
    exact ⟨(some v, i), List.mem_zipIdx_iff_getElem?.mpr h, v, rfl, rfl⟩
theorem kLh_has {ls : Array Slot} {nL : Nat} {loc : List (Option Value)} (h : kLh ls nL loc) : lv_has ls nL (ktoA loc) := ⟨h.1, h.2.1, fun q hq => h.2.2.2 q.1 q.2 (ktoA_mem.mp hq)⟩
theorem kLh_set {ls' : Array Slot} {nL i : Nat} {v : Value} {loc : List (Option Value)} (hlen : loc.length = nL) (hi : i < nL) (hcat : loc.all kcat = true) (h : lv_has ls' nL ((i, v) :: (ktoA loc).filter (fun q => !(q.1 == i) && !(q.1 + 1 == i && q.2.category == 2)))) : kLh ls' nL (loc.set i (some v)) := by
  refine ⟨h.1, h.2.1, by rw [List.length_set]; exact hlen, fun j w hj => ?_⟩
  by_cases hji : j = i
  · subst hji
    rw [List.getElem?_set_self (by omega)] at hj
    cases hj
    exact h.2.2 (j, v) List.mem_cons_self
  · rw [List.getElem?_set_ne (Ne.symm hji)] at hj
    have hc : kcat (some w) = true := List.all_eq_true.mp hcat _ (List.mem_of_getElem? hj)
    have hc1 := kcat1 hc
    refine h.2.2 (j, w) (List.mem_cons_of_mem _ (List.mem_filter.mpr ⟨ktoA_mem.mpr hj, ?_⟩))
    simp [hji, hc1]
theorem w_istore_n {k : Fin 4} {x : Int32} (hd : decode μ.2.1 pc = .ok (.istore_n k, 1)) (hcat : loc.all kcat = true) (hk : (k : Nat) < loc.length) (kk : wp g μ R E Q n σ I (pc + 1) (loc.set (k : Nat) (some (.int x))) st) : wp g μ R E Q n σ I pc loc (.int x :: st) := by
  intro p e s m args below meth c H locs ls h
  have hL := h.2.2.2.2
  have hk' : (k : Nat) < μ.2.2.1 := by rw [← hL.2.2.1]; exact hk
  exact lv_istore_n h.1.1 h.1.2.1 hd rfl (kLh_has hL) hk' rfl (fun ls' h' => kk p e s m args below meth c H locs ls' ⟨h.1, h.2.1, h.2.2.1, h.2.2.2.1, kLh_set hL.2.2.1 hk' hcat h'⟩)
theorem w_istore {k : Nat} {x : Int32} (hd : decode μ.2.1 pc = .ok (.istore k, 2)) (hcat : loc.all kcat = true) (hk : k < loc.length) (kk : wp g μ R E Q n σ I (pc + 2) (loc.set k (some (.int x))) st) : wp g μ R E Q n σ I pc loc (.int x :: st) := by
  intro p e s m args below meth c H locs ls h
  have hL := h.2.2.2.2
  have hk' : k < μ.2.2.1 := by rw [← hL.2.2.1]; exact hk
  exact lv_istore h.1.1 h.1.2.1 hd (kLh_has hL) hk' rfl (fun ls' h' => kk p e s m args below meth c H locs ls' ⟨h.1, h.2.1, h.2.2.1, h.2.2.2.1, kLh_set hL.2.2.1 hk' hcat h'⟩)
theorem w_istore_0 {a0 : Option Value} {l : List (Option Value)} {x : Int32} (hd : decode μ.2.1 pc = .ok (.istore_n 0, 1)) (hcat : (a0 :: l).all kcat = true) (kk : wp g μ R E Q n σ I (pc + 1) (some (.int x) :: l) st) : wp g μ R E Q n σ I pc (a0 :: l) (.int x :: st) := w_istore_n hd hcat (by simp only [List.length_cons]; first | omega | (show 0 < _; omega)) kk
theorem w_istore_1 {a0 a1 : Option Value} {l : List (Option Value)} {x : Int32} (hd : decode μ.2.1 pc = .ok (.istore_n 1, 1)) (hcat : (a0 :: a1 :: l).all kcat = true) (kk : wp g μ R E Q n σ I (pc + 1) (a0 :: some (.int x) :: l) st) : wp g μ R E Q n σ I pc (a0 :: a1 :: l) (.int x :: st) := w_istore_n hd hcat (by simp only [List.length_cons]; first | omega | (show 1 < _; omega)) kk
theorem w_istore_2 {a0 a1 a2 : Option Value} {l : List (Option Value)} {x : Int32} (hd : decode μ.2.1 pc = .ok (.istore_n 2, 1)) (hcat : (a0 :: a1 :: a2 :: l).all kcat = true) (kk : wp g μ R E Q n σ I (pc + 1) (a0 :: a1 :: some (.int x) :: l) st) : wp g μ R E Q n σ I pc (a0 :: a1 :: a2 :: l) (.int x :: st) := w_istore_n hd hcat (by simp only [List.length_cons]; first | omega | (show 2 < _; omega)) kk
theorem w_istore_3 {a0 a1 a2 a3 : Option Value} {l : List (Option Value)} {x : Int32} (hd : decode μ.2.1 pc = .ok (.istore_n 3, 1)) (hcat : (a0 :: a1 :: a2 :: a3 :: l).all kcat = true) (kk : wp g μ R E Q n σ I (pc + 1) (a0 :: a1 :: a2 :: some (.int x) :: l) st) : wp g μ R E Q n σ I pc (a0 :: a1 :: a2 :: a3 :: l) (.int x :: st) := w_istore_n hd hcat (by simp only [List.length_cons]; first | omega | (show 3 < _; omega)) kk
theorem w_istore_4 {a0 a1 a2 a3 a4 : Option Value} {l : List (Option Value)} {x : Int32} (hd : decode μ.2.1 pc = .ok (.istore 4, 2)) (hcat : (a0 :: a1 :: a2 :: a3 :: a4 :: l).all kcat = true) (kk : wp g μ R E Q n σ I (pc + 2) (a0 :: a1 :: a2 :: a3 :: some (.int x) :: l) st) : wp g μ R E Q n σ I pc (a0 :: a1 :: a2 :: a3 :: a4 :: l) (.int x :: st) := w_istore hd hcat (by simp only [List.length_cons]; first | omega | (show 4 < _; omega)) kk
theorem w_istore_5 {a0 a1 a2 a3 a4 a5 : Option Value} {l : List (Option Value)} {x : Int32} (hd : decode μ.2.1 pc = .ok (.istore 5, 2)) (hcat : (a0 :: a1 :: a2 :: a3 :: a4 :: a5 :: l).all kcat = true) (kk : wp g μ R E Q n σ I (pc + 2) (a0 :: a1 :: a2 :: a3 :: a4 :: some (.int x) :: l) st) : wp g μ R E Q n σ I pc (a0 :: a1 :: a2 :: a3 :: a4 :: a5 :: l) (.int x :: st) := w_istore hd hcat (by simp only [List.length_cons]; first | omega | (show 5 < _; omega)) kk
theorem w_istore_6 {a0 a1 a2 a3 a4 a5 a6 : Option Value} {l : List (Option Value)} {x : Int32} (hd : decode μ.2.1 pc = .ok (.istore 6, 2)) (hcat : (a0 :: a1 :: a2 :: a3 :: a4 :: a5 :: a6 :: l).all kcat = true) (kk : wp g μ R E Q n σ I (pc + 2) (a0 :: a1 :: a2 :: a3 :: a4 :: a5 :: some (.int x) :: l) st) : wp g μ R E Q n σ I pc (a0 :: a1 :: a2 :: a3 :: a4 :: a5 :: a6 :: l) (.int x :: st) := w_istore hd hcat (by simp only [List.length_cons]; first | omega | (show 6 < _; omega)) kk
theorem w_istore_7 {a0 a1 a2 a3 a4 a5 a6 a7 : Option Value} {l : List (Option Value)} {x : Int32} (hd : decode μ.2.1 pc = .ok (.istore 7, 2)) (hcat : (a0 :: a1 :: a2 :: a3 :: a4 :: a5 :: a6 :: a7 :: l).all kcat = true) (kk : wp g μ R E Q n σ I (pc + 2) (a0 :: a1 :: a2 :: a3 :: a4 :: a5 :: a6 :: some (.int x) :: l) st) : wp g μ R E Q n σ I pc (a0 :: a1 :: a2 :: a3 :: a4 :: a5 :: a6 :: a7 :: l) (.int x :: st) := w_istore hd hcat (by simp only [List.length_cons]; first | omega | (show 7 < _; omega)) kk
theorem w_astore_n {k : Fin 4} {x : Nat} (hd : decode μ.2.1 pc = .ok (.astore_n k, 1)) (hcat : loc.all kcat = true) (hk : (k : Nat) < loc.length) (kk : wp g μ R E Q n σ I (pc + 1) (loc.set (k : Nat) (some (.ref x))) st) : wp g μ R E Q n σ I pc loc (.ref x :: st) := by
  intro p e s m args below meth c H locs ls h
  have hL := h.2.2.2.2
  have hk' : (k : Nat) < μ.2.2.1 := by rw [← hL.2.2.1]; exact hk
  exact lv_astore_n h.1.1 h.1.2.1 hd rfl (kLh_has hL) hk' rfl (fun ls' h' => kk p e s m args below meth c H locs ls' ⟨h.1, h.2.1, h.2.2.1, h.2.2.2.1, kLh_set hL.2.2.1 hk' hcat h'⟩)
theorem w_astore {k : Nat} {x : Nat} (hd : decode μ.2.1 pc = .ok (.astore k, 2)) (hcat : loc.all kcat = true) (hk : k < loc.length) (kk : wp g μ R E Q n σ I (pc + 2) (loc.set k (some (.ref x))) st) : wp g μ R E Q n σ I pc loc (.ref x :: st) := by
  intro p e s m args below meth c H locs ls h
  have hL := h.2.2.2.2
  have hk' : k < μ.2.2.1 := by rw [← hL.2.2.1]; exact hk
  exact lv_astore h.1.1 h.1.2.1 hd (kLh_has hL) hk' rfl (fun ls' h' => kk p e s m args below meth c H locs ls' ⟨h.1, h.2.1, h.2.2.1, h.2.2.2.1, kLh_set hL.2.2.1 hk' hcat h'⟩)
theorem w_astore_0 {a0 : Option Value} {l : List (Option Value)} {x : Nat} (hd : decode μ.2.1 pc = .ok (.astore_n 0, 1)) (hcat : (a0 :: l).all kcat = true) (kk : wp g μ R E Q n σ I (pc + 1) (some (.ref x) :: l) st) : wp g μ R E Q n σ I pc (a0 :: l) (.ref x :: st) := w_astore_n hd hcat (by simp only [List.length_cons]; first | omega | (show 0 < _; omega)) kk
theorem w_astore_1 {a0 a1 : Option Value} {l : List (Option Value)} {x : Nat} (hd : decode μ.2.1 pc = .ok (.astore_n 1, 1)) (hcat : (a0 :: a1 :: l).all kcat = true) (kk : wp g μ R E Q n σ I (pc + 1) (a0 :: some (.ref x) :: l) st) : wp g μ R E Q n σ I pc (a0 :: a1 :: l) (.ref x :: st) := w_astore_n hd hcat (by simp only [List.length_cons]; first | omega | (show 1 < _; omega)) kk
theorem w_astore_2 {a0 a1 a2 : Option Value} {l : List (Option Value)} {x : Nat} (hd : decode μ.2.1 pc = .ok (.astore_n 2, 1)) (hcat : (a0 :: a1 :: a2 :: l).all kcat = true) (kk : wp g μ R E Q n σ I (pc + 1) (a0 :: a1 :: some (.ref x) :: l) st) : wp g μ R E Q n σ I pc (a0 :: a1 :: a2 :: l) (.ref x :: st) := w_astore_n hd hcat (by simp only [List.length_cons]; first | omega | (show 2 < _; omega)) kk
theorem w_astore_3 {a0 a1 a2 a3 : Option Value} {l : List (Option Value)} {x : Nat} (hd : decode μ.2.1 pc = .ok (.astore_n 3, 1)) (hcat : (a0 :: a1 :: a2 :: a3 :: l).all kcat = true) (kk : wp g μ R E Q n σ I (pc + 1) (a0 :: a1 :: a2 :: some (.ref x) :: l) st) : wp g μ R E Q n σ I pc (a0 :: a1 :: a2 :: a3 :: l) (.ref x :: st) := w_astore_n hd hcat (by simp only [List.length_cons]; first | omega | (show 3 < _; omega)) kk
theorem w_astore_4 {a0 a1 a2 a3 a4 : Option Value} {l : List (Option Value)} {x : Nat} (hd : decode μ.2.1 pc = .ok (.astore 4, 2)) (hcat : (a0 :: a1 :: a2 :: a3 :: a4 :: l).all kcat = true) (kk : wp g μ R E Q n σ I (pc + 2) (a0 :: a1 :: a2 :: a3 :: some (.ref x) :: l) st) : wp g μ R E Q n σ I pc (a0 :: a1 :: a2 :: a3 :: a4 :: l) (.ref x :: st) := w_astore hd hcat (by simp only [List.length_cons]; first | omega | (show 4 < _; omega)) kk
theorem w_astore_5 {a0 a1 a2 a3 a4 a5 : Option Value} {l : List (Option Value)} {x : Nat} (hd : decode μ.2.1 pc = .ok (.astore 5, 2)) (hcat : (a0 :: a1 :: a2 :: a3 :: a4 :: a5 :: l).all kcat = true) (kk : wp g μ R E Q n σ I (pc + 2) (a0 :: a1 :: a2 :: a3 :: a4 :: some (.ref x) :: l) st) : wp g μ R E Q n σ I pc (a0 :: a1 :: a2 :: a3 :: a4 :: a5 :: l) (.ref x :: st) := w_astore hd hcat (by simp only [List.length_cons]; first | omega | (show 5 < _; omega)) kk
theorem w_astore_6 {a0 a1 a2 a3 a4 a5 a6 : Option Value} {l : List (Option Value)} {x : Nat} (hd : decode μ.2.1 pc = .ok (.astore 6, 2)) (hcat : (a0 :: a1 :: a2 :: a3 :: a4 :: a5 :: a6 :: l).all kcat = true) (kk : wp g μ R E Q n σ I (pc + 2) (a0 :: a1 :: a2 :: a3 :: a4 :: a5 :: some (.ref x) :: l) st) : wp g μ R E Q n σ I pc (a0 :: a1 :: a2 :: a3 :: a4 :: a5 :: a6 :: l) (.ref x :: st) := w_astore hd hcat (by simp only [List.length_cons]; first | omega | (show 6 < _; omega)) kk
theorem w_astore_7 {a0 a1 a2 a3 a4 a5 a6 a7 : Option Value} {l : List (Option Value)} {x : Nat} (hd : decode μ.2.1 pc = .ok (.astore 7, 2)) (hcat : (a0 :: a1 :: a2 :: a3 :: a4 :: a5 :: a6 :: a7 :: l).all kcat = true) (kk : wp g μ R E Q n σ I (pc + 2) (a0 :: a1 :: a2 :: a3 :: a4 :: a5 :: a6 :: some (.ref x) :: l) st) : wp g μ R E Q n σ I pc (a0 :: a1 :: a2 :: a3 :: a4 :: a5 :: a6 :: a7 :: l) (.ref x :: st) := w_astore hd hcat (by simp only [List.length_cons]; first | omega | (show 7 < _; omega)) kk
theorem w_iinc {k : Nat} {d : Int} {x v : Int32} (hd : decode μ.2.1 pc = .ok (.iinc k d, 3)) (hv : x + Int32.ofInt d = v) (hcat : loc.all kcat = true) (hl : loc[k]? = some (some (.int x))) (kk : wp g μ R E Q n σ I (pc + 3) (loc.set k (some (.int v))) st) : wp g μ R E Q n σ I pc loc st := by
  intro p e s m args below meth c H locs ls h
  have hL := h.2.2.2.2
  have hk : k < loc.length := (List.getElem?_eq_some_iff.mp hl).1
  have hk' : k < μ.2.2.1 := by rw [← hL.2.2.1]; exact hk
  obtain ⟨q, hq⟩ := List.getElem?_of_mem (ktoA_mem.mpr hl)
  exact lv_iinc h.1.1 h.1.2.1 hd (kLh_has hL) hq hv hk' rfl (fun ls' h' => kk p e s m args below meth c H locs ls' ⟨h.1, h.2.1, h.2.2.1, h.2.2.2.1, kLh_set hL.2.2.1 hk' hcat h'⟩)
theorem w_iinc_0 {l : List (Option Value)} {d : Int} {x v : Int32} (hd : decode μ.2.1 pc = .ok (.iinc 0 d, 3)) (hv : x + Int32.ofInt d = v) (hcat : (some (.int x) :: l).all kcat = true) (kk : wp g μ R E Q n σ I (pc + 3) (some (.int v) :: l) st) : wp g μ R E Q n σ I pc (some (.int x) :: l) st := w_iinc hd hv hcat rfl kk
theorem w_iinc_1 {a0 : Option Value} {l : List (Option Value)} {d : Int} {x v : Int32} (hd : decode μ.2.1 pc = .ok (.iinc 1 d, 3)) (hv : x + Int32.ofInt d = v) (hcat : (a0 :: some (.int x) :: l).all kcat = true) (kk : wp g μ R E Q n σ I (pc + 3) (a0 :: some (.int v) :: l) st) : wp g μ R E Q n σ I pc (a0 :: some (.int x) :: l) st := w_iinc hd hv hcat rfl kk
theorem w_iinc_2 {a0 a1 : Option Value} {l : List (Option Value)} {d : Int} {x v : Int32} (hd : decode μ.2.1 pc = .ok (.iinc 2 d, 3)) (hv : x + Int32.ofInt d = v) (hcat : (a0 :: a1 :: some (.int x) :: l).all kcat = true) (kk : wp g μ R E Q n σ I (pc + 3) (a0 :: a1 :: some (.int v) :: l) st) : wp g μ R E Q n σ I pc (a0 :: a1 :: some (.int x) :: l) st := w_iinc hd hv hcat rfl kk
theorem w_iinc_3 {a0 a1 a2 : Option Value} {l : List (Option Value)} {d : Int} {x v : Int32} (hd : decode μ.2.1 pc = .ok (.iinc 3 d, 3)) (hv : x + Int32.ofInt d = v) (hcat : (a0 :: a1 :: a2 :: some (.int x) :: l).all kcat = true) (kk : wp g μ R E Q n σ I (pc + 3) (a0 :: a1 :: a2 :: some (.int v) :: l) st) : wp g μ R E Q n σ I pc (a0 :: a1 :: a2 :: some (.int x) :: l) st := w_iinc hd hv hcat rfl kk
theorem w_iinc_4 {a0 a1 a2 a3 : Option Value} {l : List (Option Value)} {d : Int} {x v : Int32} (hd : decode μ.2.1 pc = .ok (.iinc 4 d, 3)) (hv : x + Int32.ofInt d = v) (hcat : (a0 :: a1 :: a2 :: a3 :: some (.int x) :: l).all kcat = true) (kk : wp g μ R E Q n σ I (pc + 3) (a0 :: a1 :: a2 :: a3 :: some (.int v) :: l) st) : wp g μ R E Q n σ I pc (a0 :: a1 :: a2 :: a3 :: some (.int x) :: l) st := w_iinc hd hv hcat rfl kk
theorem w_iinc_5 {a0 a1 a2 a3 a4 : Option Value} {l : List (Option Value)} {d : Int} {x v : Int32} (hd : decode μ.2.1 pc = .ok (.iinc 5 d, 3)) (hv : x + Int32.ofInt d = v) (hcat : (a0 :: a1 :: a2 :: a3 :: a4 :: some (.int x) :: l).all kcat = true) (kk : wp g μ R E Q n σ I (pc + 3) (a0 :: a1 :: a2 :: a3 :: a4 :: some (.int v) :: l) st) : wp g μ R E Q n σ I pc (a0 :: a1 :: a2 :: a3 :: a4 :: some (.int x) :: l) st := w_iinc hd hv hcat rfl kk
theorem w_iinc_6 {a0 a1 a2 a3 a4 a5 : Option Value} {l : List (Option Value)} {d : Int} {x v : Int32} (hd : decode μ.2.1 pc = .ok (.iinc 6 d, 3)) (hv : x + Int32.ofInt d = v) (hcat : (a0 :: a1 :: a2 :: a3 :: a4 :: a5 :: some (.int x) :: l).all kcat = true) (kk : wp g μ R E Q n σ I (pc + 3) (a0 :: a1 :: a2 :: a3 :: a4 :: a5 :: some (.int v) :: l) st) : wp g μ R E Q n σ I pc (a0 :: a1 :: a2 :: a3 :: a4 :: a5 :: some (.int x) :: l) st := w_iinc hd hv hcat rfl kk
theorem w_iinc_7 {a0 a1 a2 a3 a4 a5 a6 : Option Value} {l : List (Option Value)} {d : Int} {x v : Int32} (hd : decode μ.2.1 pc = .ok (.iinc 7 d, 3)) (hv : x + Int32.ofInt d = v) (hcat : (a0 :: a1 :: a2 :: a3 :: a4 :: a5 :: a6 :: some (.int x) :: l).all kcat = true) (kk : wp g μ R E Q n σ I (pc + 3) (a0 :: a1 :: a2 :: a3 :: a4 :: a5 :: a6 :: some (.int v) :: l) st) : wp g μ R E Q n σ I pc (a0 :: a1 :: a2 :: a3 :: a4 :: a5 :: a6 :: some (.int x) :: l) st := w_iinc hd hv hcat rfl kk
theorem w_lstore_3 {a0 a1 a2 a3 a4 : Option Value} {x : Int64} (hd : decode μ.2.1 pc = .ok (.lstore_n 3, 1)) (hcat : [a0, a1, a2, a3, a4].all kcat = true) (kk : wp g μ R E Q n σ I (pc + 1) [a0, a1, a2, some (.long x), none] st) : wp g μ R E Q n σ I pc [a0, a1, a2, a3, a4] (.long x :: st) := by
  intro p e s m args below meth c H locs ls h
  have hL := h.2.2.2.2
  have hk' : 3 + 1 < μ.2.2.1 := by rw [← hL.2.2.1]; exact Nat.le_of_ble_eq_true rfl
  refine lv_lstore_n h.1.1 h.1.2.1 hd rfl (kLh_has hL) hk' rfl (fun ls' h' => kk p e s m args below meth c H locs ls' ⟨h.1, h.2.1, h.2.2.1, h.2.2.2.1, h'.1, h'.2.1, by rw [← hL.2.2.1]; rfl, fun j w hj => ?_⟩)
  have hj5 : j < 5 := (List.getElem?_eq_some_iff.mp hj).1
  by_cases h3 : j = 3
  · subst h3
    cases hj
    exact h'.2.2 (3, .long x) List.mem_cons_self
  · by_cases h4 : j = 4
    · subst h4; simp at hj
    · have hj' : [a0, a1, a2, a3, a4][j]? = some (some w) := by
        rcases (show j = 0 ∨ j = 1 ∨ j = 2 by omega) with rfl | rfl | rfl <;> simpa using hj
      have hc : kcat (some w) = true := List.all_eq_true.mp hcat _ (List.mem_of_getElem? hj')
      have hc1 := kcat1 hc
      refine h'.2.2 (j, w) (List.mem_cons_of_mem _ (List.mem_filter.mpr ⟨ktoA_mem.mpr hj', ?_⟩))
      have e3 : ((3 : Fin 4) : Nat) = 3 := rfl
      simp [e3, h3, h4, hc1]
theorem w_getI {ci i a : Nat} {C : String} {T : u_T} {ty : Nat → FieldType} {N : Nat} (hci : kCI ci C T ty N) (k : Nat) (ha : kB g ≤ a ∧ a < σ.1) (hs : σ.2.1 a = (ci, 0)) (hk : (kft ci)[k]? = some false) (hw : Cond.fieldLink μ.1.cls i (T k).1 (T k).2.1 (T k).2.2.1 ∈ tblG) (hd : decode μ.2.1 pc = .ok (.getfield i, 3)) (kk : wp g μ R E Q n σ I (pc + 3) loc (.int (I a k) :: st)) : wp g μ R E Q n σ I pc loc (.ref a :: st) := by
  intro p e s m args below meth c H locs ls h
  obtain ⟨q, hq⟩ := kIn (I := I) ha
  have he : kF g σ I a = .inr (ci, kfv (σ.2.2 a) (I a) (kft ci) 0) := by simp only [kF, kE, hs, if_neg hci.2.2.2.2.2.1, if_neg hci.2.2.2.2.2.2]
  rw [he] at hq
  have hv := kfv_get (f := σ.2.2 a) (i := I a) (kft ci) 0 k false hk
  rw [Nat.zero_add] at hv
  have hk2 : k < N := by rw [← hci.2.2.2.2.1]; exact (List.getElem?_eq_some_iff.mp hk).1
  exact va_get (D := g.2.1) (ci := ci) (v := .int (I a k)) (C := C) (T := T) (N := N) h.1.1 h.1.2.1 h.1.2.2.2.2.1 hci.2.1 h.1.2.2.2.1 h.2.2.1.2.2.2 h.2.2.1.2.2.1 q hq hci.1 k hk2 (h.1.2.2.2.2.1 _ hw) (fun _ h9 => h9) hv hd (kk p e s m args below meth c H locs ls h)
theorem w_getR {ci i a b : Nat} {C : String} {T : u_T} {ty : Nat → FieldType} {N : Nat} (hci : kCI ci C T ty N) (k : Nat) (ha : kB g ≤ a ∧ a < σ.1) (hs : σ.2.1 a = (ci, 0)) (hk : (kft ci)[k]? = some true) (hb : σ.2.2 a k = some b) (hw : Cond.fieldLink μ.1.cls i (T k).1 (T k).2.1 (T k).2.2.1 ∈ tblG) (hd : decode μ.2.1 pc = .ok (.getfield i, 3)) (kk : wp g μ R E Q n σ I (pc + 3) loc (.ref b :: st)) : wp g μ R E Q n σ I pc loc (.ref a :: st) := by
  intro p e s m args below meth c H locs ls h
  obtain ⟨q, hq⟩ := kIn (I := I) ha
  have he : kF g σ I a = .inr (ci, kfv (σ.2.2 a) (I a) (kft ci) 0) := by simp only [kF, kE, hs, if_neg hci.2.2.2.2.2.1, if_neg hci.2.2.2.2.2.2]
  rw [he] at hq
  have hv := kfv_get (f := σ.2.2 a) (i := I a) (kft ci) 0 k true hk
  rw [Nat.zero_add, hb] at hv
  have hk2 : k < N := by rw [← hci.2.2.2.2.1]; exact (List.getElem?_eq_some_iff.mp hk).1
  exact va_get (D := g.2.1) (ci := ci) (v := .ref b) (C := C) (T := T) (N := N) h.1.1 h.1.2.1 h.1.2.2.2.2.1 hci.2.1 h.1.2.2.2.1 h.2.2.1.2.2.2 h.2.2.1.2.2.1 q hq hci.1 k hk2 (h.1.2.2.2.2.1 _ hw) (fun _ h9 => h9) hv hd (kk p e s m args below meth c H locs ls h)

theorem w_putI {ci i a : Nat} {x : Int32} {C : String} {T : u_T} {ty : Nat → FieldType} {N : Nat} (hci : kCI ci C T ty N) (k : Nat) (ha : kB g ≤ a ∧ a < σ.1) (hs : σ.2.1 a = (ci, 0)) (hk : (kft ci)[k]? = some false) (hw : Cond.fieldLink μ.1.cls i (T k).1 (T k).2.1 (T k).2.2.1 ∈ tblG) (hfin : (T k).2.2.2 = false) {fty : FieldType} (hp : parseFieldDescriptor (T k).2.2.1 = some fty) (hn : narrow fty (.int x) = .int x) (hf : fits fty (.int x) = true) (hd : decode μ.2.1 pc = .ok (.putfield i, 3)) (kk : wp g μ R E Q n σ (kst I a k x) (pc + 3) loc st) : wp g μ R E Q n σ I pc loc (.int x :: .ref a :: st) := by
  intro p e s m args below meth c H locs ls h
  obtain ⟨q, hq⟩ := kIn (I := I) ha
  have hq0 := hq
  have he0 : kF g σ I a = .inr (ci, kfv (σ.2.2 a) (I a) (kft ci) 0) := by simp only [kF, kE, hs, if_neg hci.2.2.2.2.2.1, if_neg hci.2.2.2.2.2.2]
  rw [he0] at hq
  have hk1 := (List.getElem?_eq_some_iff.mp hk).1
  have hk2 : k < N := by rw [← hci.2.2.2.2.1]; exact hk1
  have hK := h.2.2.1.2.2.2
  have hP := h.2.2.1.2.2.1
  have hts := h.1.2.2.2.2.1
  have hown := h.1.2.2.2.1
  have hc := hci.1
  have hap := va_apart (own := C) hts hci.2.1 ty hci.2.2.1 hci.2.2.2.1 hK hc
  obtain ⟨r, h1, cell, q1, q2, q3, q4⟩ := hP q _ hq
  have hr : r = (C, T, N) := Option.some.inj (h1.symm.trans hc)
  subst hr
  obtain ⟨hS, hfc, kC, hkC, hkind⟩ := hK.1 ci _ hc
  obtain ⟨cf, kf, fi, f, hi, hsl⟩ := hS k hk2
  have hlay := hts _ (hci.2.1 _ (u_in_lay hk2))
  unfold u_lay at hlay
  rw [if_neg (by rw [hfin]; decide)] at hlay
  have hst := (u_facts hfc hkC (u_lays hts hci.2.1 hk2) hi).1
  have h6 := u_store hfc hkC hkind hlay hi hp hn hf
  refine W.putK h.1.1 h.1.2.1 (f := f) ⟨hown, h.1.2.2.2.2.1 _ hw, ⟨_, _, _, hi⟩, hst⟩ (by rw [q2]; exact h6) q1 q3 (by rw [hsl]; exact k2_hasslot (q4 k hk2)) rfl rfl hd fun H' e1 e2 e3 => ?_
  rw [hsl] at e1 ⊢
  have hl : k < (kfv (σ.2.2 a) (I a) (kft ci) 0).length := by rw [kfv_len]; exact hk1
  have hP1 : va_P g.2.1 vwCl ((kW g σ I).set q (a, .inr (ci, (kfv (σ.2.2 a) (I a) (kft ci) 0).set k (.int x)))) H' := hP.set kD hq ⟨_, hc, t_OB.to (V := updV (vp_V (kfv (σ.2.2 a) (I a) (kft ci) 0)) k (.int x)) ⟨_, e1, q2, q3, t_set q4 hap hk2 _⟩ (fun j _ => vp_updV_set hl _ j)⟩ e3
  have e5 : (kfv (σ.2.2 a) (I a) (kft ci) 0).set k (.int x) = kfv (σ.2.2 a) (upd (I a) k x) (kft ci) 0 := by
    rw [kfv_setI (kft ci) 0 k hk, Nat.zero_add]
  have e4 : kE g.2.2.1 g.2.2.2.1 (σ.2.1 a) (σ.2.2 a) (upd (I a) k x) = .inr (ci, kfv (σ.2.2 a) (upd (I a) k x) (kft ci) 0) := by simp only [kE, hs, if_neg hci.2.2.2.2.2.1, if_neg hci.2.2.2.2.2.2]
  rw [e5, ← e4, kSet ha hq0] at hP1
  exact kk p e s m args below meth c H' _ ls ⟨h.1, h.2.1, ⟨e2.trans h.2.2.1.1, h.2.2.1.2.1, hP1, hK⟩, h.2.2.2.1.put e2 e3 (show kA g a from ha.1), h.2.2.2.2⟩
theorem w_putR {ci i a : Nat} {x : Option Nat} {C : String} {T : u_T} {ty : Nat → FieldType} {N : Nat} (hci : kCI ci C T ty N) (k : Nat) (ha : kB g ≤ a ∧ a < σ.1) (hs : σ.2.1 a = (ci, 0)) (hk : (kft ci)[k]? = some true) (hw : Cond.fieldLink μ.1.cls i (T k).1 (T k).2.1 (T k).2.2.1 ∈ tblG) (hfin : (T k).2.2.2 = false) {fty : FieldType} (hp : parseFieldDescriptor (T k).2.2.1 = some fty) (hn : narrow fty (va_rf x) = va_rf x) (hf : fits fty (va_rf x) = true) (hd : decode μ.2.1 pc = .ok (.putfield i, 3)) (kk : wp g μ R E Q n (σ.1, σ.2.1, kgst σ.2.2 a k x) I (pc + 3) loc st) : wp g μ R E Q n σ I pc loc (va_rf x :: .ref a :: st) := by
  intro p e s m args below meth c H locs ls h
  obtain ⟨q, hq⟩ := kIn (I := I) ha
  have hq0 := hq
  have he0 : kF g σ I a = .inr (ci, kfv (σ.2.2 a) (I a) (kft ci) 0) := by simp only [kF, kE, hs, if_neg hci.2.2.2.2.2.1, if_neg hci.2.2.2.2.2.2]
  rw [he0] at hq
  have hk1 := (List.getElem?_eq_some_iff.mp hk).1
  have hk2 : k < N := by rw [← hci.2.2.2.2.1]; exact hk1
  have hK := h.2.2.1.2.2.2
  have hP := h.2.2.1.2.2.1
  have hts := h.1.2.2.2.2.1
  have hown := h.1.2.2.2.1
  have hc := hci.1
  have hap := va_apart (own := C) hts hci.2.1 ty hci.2.2.1 hci.2.2.2.1 hK hc
  obtain ⟨r, h1, cell, q1, q2, q3, q4⟩ := hP q _ hq
  have hr : r = (C, T, N) := Option.some.inj (h1.symm.trans hc)
  subst hr
  obtain ⟨hS, hfc, kC, hkC, hkind⟩ := hK.1 ci _ hc
  obtain ⟨cf, kf, fi, f, hi, hsl⟩ := hS k hk2
  have hlay := hts _ (hci.2.1 _ (u_in_lay hk2))
  unfold u_lay at hlay
  rw [if_neg (by rw [hfin]; decide)] at hlay
  have hst := (u_facts hfc hkC (u_lays hts hci.2.1 hk2) hi).1
  have h6 := u_store hfc hkC hkind hlay hi hp hn hf
  refine W.putK h.1.1 h.1.2.1 (f := f) ⟨hown, h.1.2.2.2.2.1 _ hw, ⟨_, _, _, hi⟩, hst⟩ (by rw [q2]; exact h6) q1 q3 (by rw [hsl]; exact k2_hasslot (q4 k hk2)) rfl rfl hd fun H' e1 e2 e3 => ?_
  rw [hsl] at e1 ⊢
  have hl : k < (kfv (σ.2.2 a) (I a) (kft ci) 0).length := by rw [kfv_len]; exact hk1
  have hP1 : va_P g.2.1 vwCl ((kW g σ I).set q (a, .inr (ci, (kfv (σ.2.2 a) (I a) (kft ci) 0).set k (va_rf x)))) H' := hP.set kD hq ⟨_, hc, t_OB.to (V := updV (vp_V (kfv (σ.2.2 a) (I a) (kft ci) 0)) k (va_rf x)) ⟨_, e1, q2, q3, t_set q4 hap hk2 _⟩ (fun j _ => vp_updV_set hl _ j)⟩ e3
  have e5 : (kfv (σ.2.2 a) (I a) (kft ci) 0).set k (va_rf x) = kfv (va_up (σ.2.2 a) k x) (I a) (kft ci) 0 := by
    rw [kfv_setR (kft ci) 0 k hk, Nat.zero_add]
  have e4 : kE g.2.2.1 g.2.2.2.1 (σ.2.1 a) (va_up (σ.2.2 a) k x) (I a) = .inr (ci, kfv (va_up (σ.2.2 a) k x) (I a) (kft ci) 0) := by simp only [kE, hs, if_neg hci.2.2.2.2.2.1, if_neg hci.2.2.2.2.2.2]
  rw [e5, ← e4, kSetR ha hq0] at hP1
  exact kk p e s m args below meth c H' _ ls ⟨h.1, h.2.1, ⟨e2.trans h.2.2.1.1, h.2.2.1.2.1, hP1, hK⟩, h.2.2.2.1.put e2 e3 (show kA g a from ha.1), h.2.2.2.2⟩
theorem w_putFR {ci i a : Nat} {x : Option Nat} {C : String} {T : u_T} {ty : Nat → FieldType} {N : Nat} (hci : kCI ci C T ty N) (k : Nat) (ha : kB g ≤ a ∧ a < σ.1) (hs : σ.2.1 a = (ci, 0)) (hk : (kft ci)[k]? = some true) (hw : Cond.fieldLink μ.1.cls i (T k).1 (T k).2.1 (T k).2.2.1 ∈ tblG) (hfin : (T k).2.2.2 = true) (hnm9 : μ.1.name = "<init>") (hdecl : (T k).1 = μ.1.cls) {fty : FieldType} (hp : parseFieldDescriptor (T k).2.2.1 = some fty) (hn : narrow fty (va_rf x) = va_rf x) (hf : fits fty (va_rf x) = true) (hd : decode μ.2.1 pc = .ok (.putfield i, 3)) (kk : wp g μ R E Q n (σ.1, σ.2.1, kgst σ.2.2 a k x) I (pc + 3) loc st) : wp g μ R E Q n σ I pc loc (va_rf x :: .ref a :: st) := by
  intro p e s m args below meth c H locs ls h
  obtain ⟨q, hq⟩ := kIn (I := I) ha
  have hq0 := hq
  have he0 : kF g σ I a = .inr (ci, kfv (σ.2.2 a) (I a) (kft ci) 0) := by simp only [kF, kE, hs, if_neg hci.2.2.2.2.2.1, if_neg hci.2.2.2.2.2.2]
  rw [he0] at hq
  have hk1 := (List.getElem?_eq_some_iff.mp hk).1
  have hk2 : k < N := by rw [← hci.2.2.2.2.1]; exact hk1
  have hK := h.2.2.1.2.2.2
  have hP := h.2.2.1.2.2.1
  have hts := h.1.2.2.2.2.1
  have hown := h.1.2.2.2.1
  have hc := hci.1
  have hap := va_apart (own := C) hts hci.2.1 ty hci.2.2.1 hci.2.2.2.1 hK hc
  obtain ⟨r, h1, cell, q1, q2, q3, q4⟩ := hP q _ hq
  have hr : r = (C, T, N) := Option.some.inj (h1.symm.trans hc)
  subst hr
  obtain ⟨hS, hfc, kC, hkC, hkind⟩ := hK.1 ci _ hc
  obtain ⟨cf, kf, fi, f, hi, hsl⟩ := hS k hk2
  have hlay := hts _ (hci.2.1 _ (u_in_lay hk2))
  unfold u_lay at hlay
  rw [if_pos hfin] at hlay
  have hst := (u_facts hfc hkC (u_lays hts hci.2.1 hk2) hi).1
  have hcf : m.cls = cf := by
    obtain ⟨_, _, c', _, _, _, -, -, hf', -, -, -, hown2, -⟩ := Cond.laysFinal_spec hlay
    have e1 : c' = cf := by have := hi.symm.trans hf'; simp at this; exact this.1.symm
    rw [hdecl] at hown2
    rw [← e1]; exact Option.some.inj (hown.symm.trans hown2)
  have h6 := u_fits hfc hkC hkind (Or.inr hlay) hi hp hn hf
  refine W.putFinK h.1.1 h.1.2.1 hown (h.1.2.2.2.2.1 _ hw) hi hst hcf (h.1.2.2.2.2.2.2.2.1 hnm9) (by rw [q2]; exact h6) q1 q3 (by rw [hsl]; exact k2_hasslot (q4 k hk2)) rfl rfl hd fun H' e1 e2 e3 => ?_
  rw [hsl] at e1 ⊢
  have hl : k < (kfv (σ.2.2 a) (I a) (kft ci) 0).length := by rw [kfv_len]; exact hk1
  have hP1 : va_P g.2.1 vwCl ((kW g σ I).set q (a, .inr (ci, (kfv (σ.2.2 a) (I a) (kft ci) 0).set k (va_rf x)))) H' := hP.set kD hq ⟨_, hc, t_OB.to (V := updV (vp_V (kfv (σ.2.2 a) (I a) (kft ci) 0)) k (va_rf x)) ⟨_, e1, q2, q3, t_set q4 hap hk2 _⟩ (fun j _ => vp_updV_set hl _ j)⟩ e3
  have e5 : (kfv (σ.2.2 a) (I a) (kft ci) 0).set k (va_rf x) = kfv (va_up (σ.2.2 a) k x) (I a) (kft ci) 0 := by
    rw [kfv_setR (kft ci) 0 k hk, Nat.zero_add]
  have e4 : kE g.2.2.1 g.2.2.2.1 (σ.2.1 a) (va_up (σ.2.2 a) k x) (I a) = .inr (ci, kfv (va_up (σ.2.2 a) k x) (I a) (kft ci) 0) := by simp only [kE, hs, if_neg hci.2.2.2.2.2.1, if_neg hci.2.2.2.2.2.2]
  rw [e5, ← e4, kSetR ha hq0] at hP1
  exact kk p e s m args below meth c H' _ ls ⟨h.1, h.2.1, ⟨e2.trans h.2.2.1.1, h.2.2.1.2.1, hP1, hK⟩, h.2.2.2.1.put e2 e3 (show kA g a from ha.1), h.2.2.2.2⟩
theorem kEi {g : kG} {σ : kS} {I : kI} {a N : Nat} (hs : σ.2.1 a = (100, N)) : kF g σ I a = .inl (g.2.2.1, N, .inl (I a)) := by simp only [kF, kE, hs, if_true]
theorem kEc {g : kG} {σ : kS} {I : kI} {a N : Nat} (hs : σ.2.1 a = (101, N)) : kF g σ I a = .inl (g.2.2.2.1, N, .inl (I a)) := by simp only [kF, kE, hs]; rfl
theorem w_iald {a N j : Nat} {x : Int32} (ha : kB g ≤ a ∧ a < σ.1) (hs : σ.2.1 a = (100, N)) (hx : x = nI j) (hj : j < N) (hN : N < 2 ^ 31) (hd : decode μ.2.1 pc = .ok (.iaload, 1)) (kk : wp g μ R E Q n σ I (pc + 1) loc (.int (I a j) :: st)) : wp g μ R E Q n σ I pc loc (.int x :: .ref a :: st) := by
  intro p e s m args below meth c H locs ls h
  obtain ⟨q, hq⟩ := kIn (I := I) ha
  rw [kEi hs] at hq
  subst hx
  have k2 := kk p e s m args below meth c H locs ls h
  rw [show I a j = I a (nI j).toNatClampNeg by rw [nI_clamp (by omega)]] at k2
  exact va_iald h.1.1 h.1.2.1 h.2.2.1.2.2.2 h.2.2.1.2.2.1 q 0 hq rfl (vp_in_nI hj hN) hd k2
theorem w_cald {a N j : Nat} {x : Int32} (ha : kB g ≤ a ∧ a < σ.1) (hs : σ.2.1 a = (101, N)) (hx : x = nI j) (hj : j < N) (hN : N < 2 ^ 31) (hd : decode μ.2.1 pc = .ok (.caload, 1)) (kk : wp g μ R E Q n σ I (pc + 1) loc (.int (I a j) :: st)) : wp g μ R E Q n σ I pc loc (.int x :: .ref a :: st) := by
  intro p e s m args below meth c H locs ls h
  obtain ⟨q, hq⟩ := kIn (I := I) ha
  rw [kEc hs] at hq
  subst hx
  have k2 := kk p e s m args below meth c H locs ls h
  rw [show I a j = I a (nI j).toNatClampNeg by rw [nI_clamp (by omega)]] at k2
  exact va_cald h.1.1 h.1.2.1 h.2.2.1.2.2.2 h.2.2.1.2.2.1 q 1 hq rfl (vp_in_nI hj hN) hd k2
theorem w_alen {a N : Nat} {v : Int32} (ha : kB g ≤ a ∧ a < σ.1) (hs : σ.2.1 a = (100, N)) (hv : Int32.ofNat N = v) (hd : decode μ.2.1 pc = .ok (.arraylength, 1)) (kk : wp g μ R E Q n σ I (pc + 1) loc (.int v :: st)) : wp g μ R E Q n σ I pc loc (.ref a :: st) := by
  intro p e s m args below meth c H locs ls h
  obtain ⟨q, hq⟩ := kIn (I := I) ha
  rw [kEi hs] at hq
  exact va_alen h.1.1 h.1.2.1 h.2.2.1.2.2.2 h.2.2.1.2.2.1 q 0 hq rfl hv hd (kk p e s m args below meth c H locs ls h)
theorem w_iast {a N j : Nat} {x y : Int32} (ha : kB g ≤ a ∧ a < σ.1) (hs : σ.2.1 a = (100, N)) (hy : y = nI j) (hj : j < N) (hN : N < 2 ^ 31) (hd : decode μ.2.1 pc = .ok (.iastore, 1)) (kk : wp g μ R E Q n σ (kst I a j (x)) (pc + 1) loc st) : wp g μ R E Q n σ I pc loc (.int x :: .int y :: .ref a :: st) := by
  intro p e s m args below meth c H locs ls h
  obtain ⟨q, hq⟩ := kIn (I := I) ha
  have hq0 := hq
  rw [kEi hs] at hq
  subst hy
  have hP := h.2.2.1.2.2.1
  have hK := h.2.2.1.2.2.2
  have hcl : (nI j).toNatClampNeg = j := nI_clamp (by omega)
  refine W.iast h.1.1 h.1.2.1 (hP q _ hq) ((hK.2 0 _ rfl).1 N (fun j => .int (I a j))) (fun q => by cases q) (by show ¬ (_ < 0 ∨ (arrV _ _ _).slots.size ≤ _); rw [arrV_size]; exact vp_in_nI hj hN) rfl rfl hd fun H1 e1 z oq => ?_
  have hP1 : va_P g.2.1 vwCl ((kW g σ I).set q (a, kE g.2.2.1 g.2.2.2.1 (σ.2.1 a) (σ.2.2 a) (upd (I a) j (x)))) H1 := by
    have e4 : kE g.2.2.1 g.2.2.2.1 (σ.2.1 a) (σ.2.2 a) (upd (I a) j (x)) = .inl (g.2.2.1, N, .inl (upd (I a) j (x))) := by
      simp only [kE, hs]; rfl
    rw [e4]
    refine hP.set kD hq ?_ oq
    show H1[a]? = some (vp_cell _ _)
    rw [e1]
    rw [vp_cell_i, vp_cell_i, arrV_store]
    congr 2
    funext q
    by_cases hq : q = j
    · subst hq
      simp [updV, upd, hcl]
      try rfl
    · simp [updV, upd, hq, hcl]
  rw [kSet ha hq0] at hP1
  exact kk p e s m args below meth c H1 _ ls ⟨h.1, h.2.1, ⟨z.trans h.2.2.1.1, h.2.2.1.2.1, hP1, hK⟩, h.2.2.2.1.put z oq (show kA g a from ha.1), h.2.2.2.2⟩
theorem w_cast {a N j : Nat} {x y : Int32} (ha : kB g ≤ a ∧ a < σ.1) (hs : σ.2.1 a = (101, N)) (hy : y = nI j) (hj : j < N) (hN : N < 2 ^ 31) (hd : decode μ.2.1 pc = .ok (.castore, 1)) (kk : wp g μ R E Q n σ (kst I a j (vp_nar .char x)) (pc + 1) loc st) : wp g μ R E Q n σ I pc loc (.int x :: .int y :: .ref a :: st) := by
  intro p e s m args below meth c H locs ls h
  obtain ⟨q, hq⟩ := kIn (I := I) ha
  have hq0 := hq
  rw [kEc hs] at hq
  subst hy
  have hP := h.2.2.1.2.2.1
  have hK := h.2.2.1.2.2.2
  have hcl : (nI j).toNatClampNeg = j := nI_clamp (by omega)
  refine W.cast h.1.1 h.1.2.1 (hP q _ hq) ((hK.2 1 _ rfl).1 N (fun j => .int (I a j))) (fun q => by cases q) (by show ¬ (_ < 0 ∨ (arrV _ _ _).slots.size ≤ _); rw [arrV_size]; exact vp_in_nI hj hN) rfl rfl hd fun H1 e1 z oq => ?_
  have hP1 : va_P g.2.1 vwCl ((kW g σ I).set q (a, kE g.2.2.1 g.2.2.2.1 (σ.2.1 a) (σ.2.2 a) (upd (I a) j (vp_nar .char x)))) H1 := by
    have e4 : kE g.2.2.1 g.2.2.2.1 (σ.2.1 a) (σ.2.2 a) (upd (I a) j (vp_nar .char x)) = .inl (g.2.2.2.1, N, .inl (upd (I a) j (vp_nar .char x))) := by
      simp only [kE, hs]; rfl
    rw [e4]
    refine hP.set kD hq ?_ oq
    show H1[a]? = some (vp_cell _ _)
    rw [e1]
    rw [vp_cell_i, vp_cell_i, arrV_store]
    congr 2
    funext q
    by_cases hq : q = j
    · subst hq
      simp [updV, upd, hcl]
      try rfl
    · simp [updV, upd, hq, hcl]
  rw [kSet ha hq0] at hP1
  exact kk p e s m args below meth c H1 _ ls ⟨h.1, h.2.1, ⟨z.trans h.2.2.1.1, h.2.2.1.2.1, hP1, hK⟩, h.2.2.2.1.put z oq (show kA g a from ha.1), h.2.2.2.2⟩
theorem w_iret {x : Int32} (hr : μ.2.2.2 = some .int) (hn1 : n.1 ≤ R.cells ∧ n.2 ≤ R.slots) (hd : decode μ.2.1 pc = .ok (.ireturn, 1)) (hq : Q (some (.int x)) σ I) : wp g μ R E Q n σ I pc loc [.int x] := by
  intro p e s m args below meth c H locs ls h
  refine W.widen hn1.1 hn1.2 ?_
  refine W.iret h.1.1 h.1.2.1 (h.1.2.2.2.2.2.2.1.trans hr) (fun t ht hW => ⟨_, σ, I, rfl, hq, ⟨by rw [ht]; exact h.2.2.1.1, h.2.2.1.2.1, by rw [ht]; exact h.2.2.1.2.2.1, va_K.moved hW.alike h.2.2.1.2.2.2⟩, h.2.2.2.1.F ht⟩) (fun q hq => h.2.2.2.1.2.2 q hq) hd h.1.2.2.2.2.2.1
theorem w_zret {x : Int32} (hr : μ.2.2.2 = some .boolean) (hn : narrow .boolean (.int x) = .int x) (hn1 : n.1 ≤ R.cells ∧ n.2 ≤ R.slots) (hd : decode μ.2.1 pc = .ok (.ireturn, 1)) (hq : Q (some (.int x)) σ I) : wp g μ R E Q n σ I pc loc [.int x] := by
  intro p e s m args below meth c H locs ls h
  refine W.widen hn1.1 hn1.2 ?_
  refine W.zret h.1.1 h.1.2.1 (h.1.2.2.2.2.2.2.1.trans hr) hn (fun t ht hW => ⟨_, σ, I, rfl, hq, ⟨by rw [ht]; exact h.2.2.1.1, h.2.2.1.2.1, by rw [ht]; exact h.2.2.1.2.2.1, va_K.moved hW.alike h.2.2.1.2.2.2⟩, h.2.2.2.1.F ht⟩) (fun q hq => h.2.2.2.1.2.2 q hq) hd h.1.2.2.2.2.2.1
theorem w_vret (hr : μ.2.2.2 = none) (hn1 : n.1 ≤ R.cells ∧ n.2 ≤ R.slots) (hd : decode μ.2.1 pc = .ok (.return_, 1)) (hq : Q (none) σ I) : wp g μ R E Q n σ I pc loc [] := by
  intro p e s m args below meth c H locs ls h
  refine W.widen hn1.1 hn1.2 ?_
  refine W.vret h.1.1 h.1.2.1 (h.1.2.2.2.2.2.2.1.trans hr) (fun t ht hW => ⟨_, σ, I, rfl, hq, ⟨by rw [ht]; exact h.2.2.1.1, h.2.2.1.2.1, by rw [ht]; exact h.2.2.1.2.2.1, va_K.moved hW.alike h.2.2.1.2.2.2⟩, h.2.2.2.1.F ht⟩) (fun q hq => h.2.2.2.1.2.2 q hq) hd h.1.2.2.2.2.2.1
theorem kLh_entry {as : List Value} {nL : Nat} (hcat : ∀ v ∈ as, v.category = 1) (hle : as.length ≤ nL) : kLh ((lg_sl as ++ List.replicate (nL - (lg_sl as).length) Slot.unset).toArray) nL (as.map some ++ List.replicate (nL - as.length) none) := by
  have hsl : (lg_sl as).length = as.length := by
    clear hle
    induction as with
    | nil => rfl
    | cons v r ih =>
      have h1 : v.category = 1 := hcat v List.mem_cons_self
      have h2 := ih (fun w hw => hcat w (List.mem_cons_of_mem _ hw))
      simp only [lg_sl, List.flatMap_cons, List.length_append, List.length_cons] at h2 ⊢
      rw [h2, if_neg (by omega)]
      simp; omega
  have h0 := lv_entry as (n := nL) (by omega)
  refine ⟨h0.1, h0.2.1, by simp; omega, fun i v hi => ?_⟩
  have hlt : i < as.length := by
    rcases Nat.lt_or_ge i as.length with h | h
    · exact h
    · rw [List.getElem?_append_right (by simpa using h)] at hi
      simp [List.getElem?_replicate] at hi
  rw [List.getElem?_append_left (by simpa using hlt), List.getElem?_map] at hi
  have hv : as[i]? = some v := by
    cases hz : as[i]? with
    | none => rw [hz] at hi; cases hi
    | some w => rw [hz] at hi; simp at hi; rw [hi]
  have key : ∀ (vs : List Value) (k j : Nat), (∀ v ∈ vs, v.category = 1) → vs[j]? = some v → (k + j, v) ∈ lv_args k vs := by
    intro vs
    induction vs with
    | nil => intro k j _ h; simp at h
    | cons w r ih =>
      intro k j hc h
      have hw : w.category = 1 := hc w List.mem_cons_self
      simp only [lv_args, if_neg (show ¬ w.category = 2 by omega)]
      cases j with
      | zero => simp at h; subst h; exact List.mem_cons_self
      | succ j =>
        have h' : r[j]? = some v := by simpa using h
        have := ih (k + 1) j (fun z hz => hc z (List.mem_cons_of_mem _ hz)) h'
        rw [show k + (j + 1) = k + 1 + j by omega]
        exact List.mem_cons_of_mem _ this
  have := key as 0 i hcat hv
  rw [Nat.zero_add] at this
  exact h0.2.2 _ this
theorem ct_of {as : List Value} (hy : plainName μ.1.cls = true) (hcat : as.all (fun v => kcat (some v)) = true) (hle : as.length ≤ μ.2.2.1) (hcode : Cond.code μ.1 μ.2.1 μ.2.2.1 μ.2.2.2 ∈ tblG) (hB : True)
    (kk : wp g μ R (fun _ => True) Q (0, 0) σ I 0 (as.map some ++ List.replicate (μ.2.2.1 - as.length) none) []) : ct g μ R as σ I Q := by
  refine Met.ofW (cc := μ.2.1) (maxL := μ.2.2.1) (ret := μ.2.2.2) hy rfl ?_
  intro p e s m args below meth c s₁ B hml hv
  obtain ⟨rfl, hH, hST⟩ := hv
  have hts := atoms_spec (ws := Cond.code μ.1 μ.2.1 μ.2.2.1 μ.2.2.2 :: tblG) B.pre
  have hcat' : ∀ v ∈ as, v.category = 1 := fun v hv => kcat1 (List.all_eq_true.mp hcat v hv)
  rw [lg_entry_eq]
  exact kk p e s m _ below meth c s.heap [] _ ⟨⟨B.exec, B.bytes, hml, findClass_of_methodNamed B.named, fun w hw => hts w (List.mem_cons_of_mem _ hw), B.notSynchronized, B.returns, fun h => (name_of_methodNamed B.named B.method).1.trans h, hST⟩, trivial, hH, va_S.rf, kLh_entry hcat' hle⟩
theorem kST_moved {s U : State} {H : Heap} {locs : List Loc} (hS : va_S (kA g) s.heap H locs) (h : kST g s) (hU : U.heap = H) (hW : s.WarmedH U.vm) : kST g U := by
  refine ⟨fun i hi => ?_, fun w hw => ?_⟩
  · obtain ⟨h1, h2⟩ := h.1 i hi
    refine ⟨va_Z.moved hW.alike (by rw [hU]; exact h1.kept hS.2.1), va_T.moved hW.alike (by rw [hU]; exact h2.kept hS.2.1)⟩
  · have hz := h.2 w hw
    revert hz
    simp only [nestWs, List.mem_cons, List.not_mem_nil, or_false] at hw
    rcases hw with rfl | rfl | rfl | rfl | rfl | rfl | rfl | rfl | rfl | rfl | rfl | rfl | rfl | rfl | rfl | rfl | rfl | rfl | rfl | rfl <;> intro hz <;> first | exact va_Nw.warmM hW hz | exact va_Nw.warmF hW hz
theorem kST_blind {s : State} {f : JFrame} {mk : MethodId} {a : Array Value} (h : kST g s) : kST g (s.calling f mk a) := by
  refine ⟨fun i hi => ?_, fun w hw => ?_⟩
  · obtain ⟨h1, h2⟩ := h.1 i hi
    exact ⟨va_Z.moved (u := s) (U := s.calling f mk a) (Vm.Alike.refl s.vm) h1, va_T.moved (u := s) (U := s.calling f mk a) (Vm.Alike.refl s.vm) h2⟩
  · have hz := h.2 w hw
    revert hz
    simp only [nestWs, List.mem_cons, List.not_mem_nil, or_false] at hw
    rcases hw with rfl | rfl | rfl | rfl | rfl | rfl | rfl | rfl | rfl | rfl | rfl | rfl | rfl | rfl | rfl | rfl | rfl | rfl | rfl | rfl <;> intro hz <;> exact va_Nw.same (u := s) (U := s.calling f mk a) rfl rfl hz
theorem kBlind {as : List Value} {σ : kS} {I : kI} : FrameBlind (va_Pc as (fun U => kHold g σ I U U.heap ∧ kST g U)) := by
  intro a U f mk hh
  obtain ⟨h1, ⟨h2, h3, h4, h5⟩, h6⟩ := hh
  exact ⟨h1, ⟨h2, h3, h4, va_K.moved (u := U) (U := U.calling f mk a) (Vm.Alike.refl U.vm) h5⟩, kST_blind h6⟩
-- behind a call
theorem kCall {σ' : kS} {I' : kI} {μ' : kM} {R' : Room} {as st0 : List Value} {a : Array Value} {Q' : kP} {p : Program} {e : Env} {s : State} {m : MethodId} {args : Array Value} {below : List Frame} {meth : Method} {c : Code} {H : Heap} {locs : List Loc} {ls : Array Slot} {mc ms : Nat} {W' : State → Prop} (h : kAll g μ E σ I loc p s m args meth c H locs ls)
    (hr : va_Run p g.1 e R s m args below meth c H locs n.1 n.2 mc ms (F0 m pc ls st0) st (kQ g Q' a) (kA g))
    (kk : ∀ v σ' I', Q' v σ' I' → wp g μ R E Q (n.1 + mc, n.2 + ms) σ' I' (pc + 3) loc (v.toList ++ st)) : W p g.1 e R s m args below meth c H locs n.1 n.2 (MQ below (kQ g Q) args s R.cells R.slots (kA g)) (F0 m pc ls st0) := by
  intro T hT X
  obtain ⟨v, st₀, t, T', L, h0, X', hL, e1, e2, ⟨v', σ', I', hv, hq, hH, hz, hf⟩, stp⟩ := hr T hT X
  cases hv
  rw [h0] at hz hf
  have hS := h.2.2.2.1
  have hal : t.vm = T'.vm := e2.symm
  obtain ⟨t2, a1, b1⟩ := kk v σ' I' hq p e s m args below meth c t.heap (locs ++ L) ls ⟨h.1, h.2.1, ⟨hH.1, hH.2.1, hH.2.2.1, by
      have := X'.warmed
      rw [e2] at this
      exact ⟨h.2.2.1.2.2.2.1, h.2.2.1.2.2.2.2⟩⟩, ⟨Nat.le_trans hS.1 hz, fun q h1 h2 => by rw [hf q (Nat.lt_of_lt_of_le h1 hS.1) h2]; exact hS.2.1 q h1 h2, fun q hq => by
      rcases List.mem_append.mp hq with h3 | h3
      · exact hS.2.2 q h3
      · exact hL q h3⟩, h.2.2.2.2⟩ T' e1 X'
  exact ⟨t2, stp t2 a1, b1⟩
-- what is known of a method, once: its code row, its class initialised, its count of arguments
def kOK (μ : kM) (k : Nat) : Prop := Cond.code μ.1 μ.2.1 μ.2.2.1 μ.2.2.2 ∈ tblG ∧ Cond.initialized μ.1.cls ∈ tblG ∧ (μ.1.cls ≠ "java/lang/invoke/MethodHandle" ∧ μ.1.cls ≠ "java/lang/invoke/VarHandle") ∧ (parseMethodDescriptor μ.1.desc).map (fun d => d.parameters.length) = some k
theorem kGood {y : Cond} (h : y ∈ tblG) : GoodIn tblG (y :: tblG) := fun w hw => by
  have hm : w ∈ tblG := by
    rcases List.mem_cons.mp hw with rfl | h2
    · exact h
    · exact h2
  exact ⟨hm, good_of_word (List.mem_filter.mp hm).2⟩
theorem kCB {μ' : kM} {R' : Room} {i k : Nat} {p : Program} {s : State} {m : MethodId} {args : Array Value} {meth : Method} {c : Code} (h : kCx g μ p s m args meth c) (hok : kOK μ' k) (hl : Cond.methodLink μ.1.cls i μ'.1 ∈ tblG) (hR : R'.frames + 1 ≤ R.frames ∧ 8 + (μ'.2.2.1 + 11) + R'.locals ≤ R.locals) :
    CallB R s args μ.1.cls i μ'.1 μ'.2.1 μ'.2.2.1 μ'.2.2.2 (Cond.code μ'.1 μ'.2.1 μ'.2.2.1 μ'.2.2.2 :: tblG) R' R'.cells R'.slots k :=
  callB_of k h.2.2.2.2.1 (kGood hok.1) rfl rfl rfl (h.2.2.2.2.1 _ hok.2.1) (h.2.2.2.2.1 _ hl) ⟨hok.2.2.1.1, hok.2.2.1.2, hok.2.2.2⟩ hR
theorem kCBN {μ' : kM} {R' : Room} {i k : Nat} {host : String} {p : Program} {s : State} {m : MethodId} {args : Array Value} {meth : Method} {c : Code} (h : kCx g μ p s m args meth c) (hok : kOK μ' k) (hl : Cond.methodLinkNest μ.1.cls i μ'.1 host ∈ nestWs) (hR : R'.frames + 1 ≤ R.frames ∧ 8 + (μ'.2.2.1 + 11) + R'.locals ≤ R.locals) :
    va_CN R s args μ.1.cls i μ'.1 host μ'.2.1 μ'.2.2.1 μ'.2.2.2 (Cond.code μ'.1 μ'.2.1 μ'.2.2.1 μ'.2.2.2 :: tblG) R' R'.cells R'.slots k :=
  va_cnB k h.2.2.2.2.1 (kGood hok.1) rfl rfl rfl (h.2.2.2.2.2.2.2.2.2 _ hl) (h.2.2.2.2.1 _ hok.2.1) ⟨hok.2.2.1.1, hok.2.2.1.2, hok.2.2.2⟩ hR
theorem kPre {μ' : kM} {as : List Value} {p : Program} {s : State} {m : MethodId} {args : Array Value} {meth : Method} {c : Code} {H : Heap} {locs : List Loc} {ls : Array Slot} (h : kAll g μ E σ I loc p s m args meth c H locs ls) : PreS s H (va_Pc as (fun U => kHold g σ I U U.heap ∧ kST g U)) as :=
  ⟨kBlind, fun U hU hW => ⟨rfl, ⟨by rw [hU]; exact h.2.2.1.1, h.2.2.1.2.1, by rw [hU]; exact h.2.2.1.2.2.1, va_K.moved hW.alike h.2.2.1.2.2.2⟩, kST_moved h.2.2.2.1 h.1.2.2.2.2.2.2.2.2 hU hW⟩⟩
theorem kRecv {b ci : Nat} {C : String} {T : u_T} {ty : Nat → FieldType} {N : Nat} {s : State} {H : Heap} (hci : kCI ci C T ty N) (hb : kB g ≤ b ∧ b < σ.1) (hs : σ.2.1 b = (ci, 0)) (h : kHold g σ I s H) : ∃ cell : Cell, H[b]? = some cell ∧ cell.vm.isStatics = false ∧ s.vm.findClass C = some cell.cls := by
  obtain ⟨q, hq⟩ := kIn (I := I) hb
  have he : kF g σ I b = .inr (ci, kfv (σ.2.2 b) (I b) (kft ci) 0) := by simp only [kF, kE, hs, if_neg hci.2.2.2.2.2.1, if_neg hci.2.2.2.2.2.2]
  rw [he] at hq
  exact va_recv h.2.2.2 h.2.2.1 hci.1 hq
theorem w_callV {μ' : kM} {R' : Room} {as stk : List Value} {b i ci : Nat} {T : u_T} {ty : Nat → FieldType} {N : Nat} {Q' : kP} (hct : ct g μ' R' (.ref b :: as) σ I Q') (hok : kOK μ' as.length) (hin : Cond.instanceMethod μ'.1 ∈ tblG) (hse : Cond.selects μ'.1.cls μ'.1 μ'.1 ∈ tblG) (hci : kCI ci μ'.1.cls T ty N) (hb : kB g ≤ b ∧ b < σ.1) (hs : σ.2.1 b = (ci, 0)) (hl : Cond.methodLink μ.1.cls i μ'.1 ∈ tblG) (hR : (R'.frames + 1 ≤ R.frames ∧ 8 + (μ'.2.2.1 + 11) + R'.locals ≤ R.locals) ∧ n.1 + R'.cells ≤ R.cells ∧ n.2 + R'.slots ≤ R.slots) (hstk : stk = as.reverse ++ .ref b :: st) (hW : (st.map fun v => v.category).sum ≤ 8) (hd : decode μ.2.1 pc = .ok (.invokevirtual i, 3))
    (kk : ∀ v σ' I', Q' v σ' I' → wp g μ R E Q (n.1 + R'.cells, n.2 + R'.slots) σ' I' (pc + 3) loc (v.toList ++ st)) : wp g μ R E Q n σ I pc loc stk := by
  intro p e s m args below meth c H locs ls h
  have S : CallFix p m c μ.2.1 μ.2.2.1 s args tblG μ.1.cls := ⟨h.1.1, h.1.2.1, h.1.2.2.1, h.1.2.2.2.1, h.1.2.2.2.2.1⟩
  have hp := kPre (μ' := μ') (as := .ref b :: as) h
  exact kCall (Q' := Q') (σ' := σ) (I' := I) (μ' := μ') (R' := R') (as := as) (W' := fun _ => True) h (va_runV S hct ⟨kCB h.1 hok hl hR.1, h.1.2.2.2.2.1 _ hin, h.1.2.2.2.2.1 _ hse⟩ ⟨hp.1, kRecv hci hb hs h.2.2.1, hp.2⟩ rfl rfl h.2.2.2.2.1 hstk (by show 2 * 0 + _ ≤ 8; omega) hd hR.2) kk
theorem w_callS {μ' : kM} {R' : Room} {as stk : List Value} {i : Nat} {Q' : kP} (hct : ct g μ' R' as σ I Q') (hok : kOK μ' as.length) (hin : Cond.static μ'.1 ∈ tblG) (hl : Cond.methodLink μ.1.cls i μ'.1 ∈ tblG) (hR : (R'.frames + 1 ≤ R.frames ∧ 8 + (μ'.2.2.1 + 11) + R'.locals ≤ R.locals) ∧ n.1 + R'.cells ≤ R.cells ∧ n.2 + R'.slots ≤ R.slots) (hstk : stk = as.reverse ++ st) (hW : (st.map fun v => v.category).sum ≤ 8) (hd : decode μ.2.1 pc = .ok (.invokestatic i, 3))
    (kk : ∀ v σ' I', Q' v σ' I' → wp g μ R E Q (n.1 + R'.cells, n.2 + R'.slots) σ' I' (pc + 3) loc (v.toList ++ st)) : wp g μ R E Q n σ I pc loc stk := by
  intro p e s m args below meth c H locs ls h
  have S : CallFix p m c μ.2.1 μ.2.2.1 s args tblG μ.1.cls := ⟨h.1.1, h.1.2.1, h.1.2.2.1, h.1.2.2.2.1, h.1.2.2.2.2.1⟩
  exact kCall (Q' := Q') (σ' := σ) (I' := I) (μ' := μ') (R' := R') (as := as) (W' := fun _ => True) h (va_runS S hct ⟨kCB h.1 hok hl hR.1, h.1.2.2.2.2.1 _ hin⟩ (kPre (μ' := μ') h) rfl rfl h.2.2.2.2.1 hstk (by show 2 * 0 + _ ≤ 8; omega) hd hR.2) kk
theorem w_callSN {μ' : kM} {R' : Room} {as stk : List Value} {i : Nat} {host : String} {Q' : kP} (hct : ct g μ' R' as σ I Q') (hok : kOK μ' as.length) (hin : Cond.static μ'.1 ∈ tblG) (hl : Cond.methodLinkNest μ.1.cls i μ'.1 host ∈ nestWs) (hR : (R'.frames + 1 ≤ R.frames ∧ 8 + (μ'.2.2.1 + 11) + R'.locals ≤ R.locals) ∧ n.1 + R'.cells ≤ R.cells ∧ n.2 + R'.slots ≤ R.slots) (hstk : stk = as.reverse ++ st) (hW : (st.map fun v => v.category).sum ≤ 8) (hd : decode μ.2.1 pc = .ok (.invokestatic i, 3))
    (kk : ∀ v σ' I', Q' v σ' I' → wp g μ R E Q (n.1 + R'.cells, n.2 + R'.slots) σ' I' (pc + 3) loc (v.toList ++ st)) : wp g μ R E Q n σ I pc loc stk := by
  intro p e s m args below meth c H locs ls h
  have S : CallFix p m c μ.2.1 μ.2.2.1 s args tblG μ.1.cls := ⟨h.1.1, h.1.2.1, h.1.2.2.1, h.1.2.2.2.1, h.1.2.2.2.2.1⟩
  exact kCall (Q' := Q') (σ' := σ) (I' := I) (μ' := μ') (R' := R') (as := as) (W' := fun _ => True) h (va_runSN S hct ⟨kCBN h.1 hok hl hR.1, h.1.2.2.2.2.1 _ hin, trivial⟩ (kPre (μ' := μ') h) rfl rfl h.2.2.2.2.1 hstk (by show 2 * 0 + _ ≤ 8; omega) hd hR.2) kk
theorem w_callI {μ' : kM} {R' : Room} {as stk : List Value} {b i : Nat} {Q' : kP} (hct : ct g μ' R' (.ref b :: as) σ I Q') (hr : μ'.2.2.2 = none) (hok : kOK μ' as.length) (hnm : μ'.1.name = "<init>") (hin : Cond.instanceMethod μ'.1 ∈ tblG) (hl : Cond.methodLink μ.1.cls i μ'.1 ∈ tblG) (hR : (R'.frames + 1 ≤ R.frames ∧ 8 + (μ'.2.2.1 + 11) + R'.locals ≤ R.locals) ∧ n.1 + R'.cells ≤ R.cells ∧ n.2 + R'.slots ≤ R.slots) (hstk : stk = as.reverse ++ .ref b :: st) (hW : (st.map fun v => v.category).sum ≤ 8) (hd : decode μ.2.1 pc = .ok (.invokespecial i, 3))
    (kk : ∀ v σ' I', Q' v σ' I' → wp g μ R E Q (n.1 + R'.cells, n.2 + R'.slots) σ' I' (pc + 3) loc (v.toList ++ st)) : wp g μ R E Q n σ I pc loc stk := by
  intro p e s m args below meth c H locs ls h
  have S : CallFix p m c μ.2.1 μ.2.2.1 s args tblG μ.1.cls := ⟨h.1.1, h.1.2.1, h.1.2.2.1, h.1.2.2.2.1, h.1.2.2.2.2.1⟩
  have cb := kCB h.1 hok hl hR.1
  rw [hr] at cb
  have hct' := hct
  exact kCall (Q' := Q') (σ' := σ) (I' := I) (μ' := μ') (R' := R') (as := as) (W' := fun _ => True) h (va_runI (ws := Cond.code μ'.1 μ'.2.1 μ'.2.2.1 μ'.2.2.2 :: tblG) S hct ⟨by rw [hr]; exact cb, hnm, h.1.2.2.2.2.1 _ hin⟩ (kPre (μ' := μ') h) rfl rfl h.2.2.2.2.1 hstk (by show 2 * 0 + _ ≤ 8; omega) hd hR.2) kk
theorem w_callIN {μ' : kM} {R' : Room} {as stk : List Value} {b i : Nat} {host : String} {Q' : kP} (hct : ct g μ' R' (.ref b :: as) σ I Q') (hr : μ'.2.2.2 = none) (hok : kOK μ' as.length) (hnm : μ'.1.name = "<init>") (hin : Cond.instanceMethod μ'.1 ∈ tblG) (hl : Cond.methodLinkNest μ.1.cls i μ'.1 host ∈ nestWs) (hR : (R'.frames + 1 ≤ R.frames ∧ 8 + (μ'.2.2.1 + 11) + R'.locals ≤ R.locals) ∧ n.1 + R'.cells ≤ R.cells ∧ n.2 + R'.slots ≤ R.slots) (hstk : stk = as.reverse ++ .ref b :: st) (hW : (st.map fun v => v.category).sum ≤ 8) (hd : decode μ.2.1 pc = .ok (.invokespecial i, 3))
    (kk : ∀ v σ' I', Q' v σ' I' → wp g μ R E Q (n.1 + R'.cells, n.2 + R'.slots) σ' I' (pc + 3) loc (v.toList ++ st)) : wp g μ R E Q n σ I pc loc stk := by
  intro p e s m args below meth c H locs ls h
  have S : CallFix p m c μ.2.1 μ.2.2.1 s args tblG μ.1.cls := ⟨h.1.1, h.1.2.1, h.1.2.2.1, h.1.2.2.2.1, h.1.2.2.2.2.1⟩
  have cb := kCBN h.1 hok hl hR.1
  rw [hr] at cb
  exact kCall (Q' := Q') (σ' := σ) (I' := I) (μ' := μ') (R' := R') (as := as) (W' := fun _ => True) h (va_runIN (ws := Cond.code μ'.1 μ'.2.1 μ'.2.2.1 μ'.2.2.2 :: tblG) S hct ⟨by rw [hr]; exact cb, hnm, h.1.2.2.2.2.1 _ hin⟩ (kPre (μ' := μ') h) rfl rfl h.2.2.2.2.1 hstk (by show 2 * 0 + _ ≤ 8; omega) hd hR.2) kk
end KWP
