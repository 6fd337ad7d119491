theorem w_drop {g : kG} {μ : kM} {R : Room} {E : State → Prop} {Q : kP} {n : Nat × Nat} {σ : kS} {I : kI} {pc : Nat} {loc : List (Option Value)} {st : List Value} (k : Nat) (kk : wp g μ R E Q n σ I pc (loc.set k none) st) : wp g μ R E Q n σ I pc loc st := by
  intro p e s m args below meth c H locs ls h
  have hL := h.2.2.2.2
  refine kk p e s m args below meth c H locs ls ⟨h.1, h.2.1, h.2.2.1, h.2.2.2.1, hL.1, hL.2.1, by rw [List.length_set]; exact hL.2.2.1, fun i v hi => hL.2.2.2 i v ?_⟩
  by_cases e : i = k
  · subst e
    rw [List.getElem?_set] at hi
    simp at hi
  · rw [List.getElem?_set_ne (Ne.symm e)] at hi
    exact hi
theorem w_mem {g : kG} {μ : kM} {R : Room} {E : State → Prop} {Q : kP} {n : Nat × Nat} {σ : kS} {I J : kI} {pc : Nat} {loc : List (Option Value)} {st : List Value} (e : I = J) (kk : wp g μ R E Q n σ J pc loc st) : wp g μ R E Q n σ I pc loc st := by
  subst e; exact kk
theorem va_uu {α : Type} (f : Nat → α) (k : Nat) (v w : α) : va_up (va_up f k v) k w = va_up f k w := by
  funext j
  by_cases h : j = k <;> simp [va_up, h]
theorem va_self {α : Type} (f : Nat → α) (k : Nat) : va_up f k (f k) = f := by
  funext j
  by_cases h : j = k
  · subst h; simp [va_up]
  · simp [va_up, h]
theorem kst_va {I : kI} {a k : Nat} {x : Int32} {f : Nat → Int32} : kst (va_up I a f) a k x = va_up I a (upd f k x) := by
  simp only [kst, va_up_self, va_uu]
theorem va_sw {α : Type} (f : Nat → α) {j k : Nat} (h : j ≠ k) (v w : α) : va_up (va_up f k v) j w = va_up (va_up f j w) k v := by
  funext i
  by_cases h1 : i = j
  · subst h1; simp [va_up, h]
  · by_cases h2 : i = k
    · subst h2; simp [va_up, h1]
    · simp [va_up, h1, h2]
theorem cp_0 {I : kI} {x y : Nat} : va_up I y (va_cpy (I x) (I y) 0 0 0) = I := by
  have : va_cpy (I x) (I y) 0 0 0 = I y := by funext k; simp [va_cpy]
  rw [this, va_self]
theorem cp_step {I : kI} {x y i : Nat} (h : x ≠ y) : kst (va_up I y (va_cpy (I x) (I y) 0 0 i)) y i (va_up I y (va_cpy (I x) (I y) 0 0 i) x i) = va_up I y (va_cpy (I x) (I y) 0 0 (i + 1)) := by
  rw [kst_va, va_up_ne _ _ h]
  congr 1
  funext k
  by_cases hk : k = i
  · subst hk; simp [upd, va_cpy]
  · simp only [upd, if_neg hk, va_cpy]
    by_cases h2 : k < i
    · simp [h2, show k < i + 1 by omega]
    · simp [h2, show ¬ k < i + 1 by omega]
-- the reference's history
def pushP (f s : Nat → Int32) (n : Nat) : Nat → Int32 := fun k => if 149 * n ≤ k ∧ k < 149 * n + 149 then s (k - 149 * n) else f k
def shiftP (f : Nat → Int32) : Nat → Int32 := fun k => if k < 447 then f (k + 149) else f k
def chM (q a b : Nat) (I : kI) : kI := if ¬ I q 5 = 0 then I else if I q 4 = 4 then va_up I b (pushP (shiftP (I b)) (I a) 3) else kst (va_up I b (pushP (I b) (I a) (tn (I q 4)))) q 4 (I q 4 + 1)
theorem sh_0 {I : kI} {b : Nat} : va_up I b (fun k => if k < 0 then I b (k + 149) else I b k) = I := by
  have : (fun k => if k < 0 then I b (k + 149) else I b k) = I b := by funext k; simp
  rw [this, va_self]
theorem sh_step {I : kI} {b i : Nat} : kst (va_up I b (fun k => if k < i then I b (k + 149) else I b k)) b i (va_up I b (fun k => if k < i then I b (k + 149) else I b k) b (i + 149)) = va_up I b (fun k => if k < i + 1 then I b (k + 149) else I b k) := by
  rw [kst_va, va_up_self]
  congr 1
  funext k
  by_cases hk : k = i
  · subst hk; simp [upd, show ¬ k + 149 < k by omega]
  · simp only [upd, if_neg hk]
    by_cases h2 : k < i
    · simp [h2, show k < i + 1 by omega]
    · simp [h2, show ¬ k < i + 1 by omega]
theorem pu_0 {J : kI} {a b n : Nat} : va_up J b (fun k => if 149 * n ≤ k ∧ k < 149 * n + 0 then J a (k - 149 * n) else J b k) = J := by
  have : (fun k => if 149 * n ≤ k ∧ k < 149 * n + 0 then J a (k - 149 * n) else J b k) = J b := by funext k; rw [if_neg (by omega)]
  rw [this, va_self]
theorem pu_step {J : kI} {a b n i : Nat} (h : a ≠ b) : kst (va_up J b (fun k => if 149 * n ≤ k ∧ k < 149 * n + i then J a (k - 149 * n) else J b k)) b (149 * n + i) (va_up J b (fun k => if 149 * n ≤ k ∧ k < 149 * n + i then J a (k - 149 * n) else J b k) a i) = va_up J b (fun k => if 149 * n ≤ k ∧ k < 149 * n + (i + 1) then J a (k - 149 * n) else J b k) := by
  rw [kst_va, va_up_ne _ _ h]
  congr 1
  funext k
  by_cases hk : k = 149 * n + i
  · subst hk
    rw [upd_s, if_pos (by omega), show 149 * n + i - 149 * n = i by omega]
  · rw [upd_ne hk]
    by_cases h2 : 149 * n ≤ k ∧ k < 149 * n + i
    · rw [if_pos h2, if_pos (by omega)]
    · rw [if_neg h2, if_neg (by omega)]
theorem b0 {c : Prop} [Decidable c] (h : (if c then (1 : Int32) else 0) = 0) : ¬ c := by
  by_cases q : c
  · rw [if_pos q] at h; exact absurd h (by decide)
  · exact q
theorem b1 {c : Prop} [Decidable c] (h : ¬ (if c then (1 : Int32) else 0) = 0) : c := by
  by_cases q : c
  · exact q
  · rw [if_neg q] at h; exact absurd rfl h
theorem chM_a {q a b : Nat} {I : kI} (h1 : a ≠ q) (h2 : a ≠ b) : chM q a b I a = I a := by
  unfold chM
  split
  · rfl
  · split
    · rw [va_up_ne _ _ h2]
    · rw [kst_n h1, va_up_ne _ _ h2]
def opM (q a b : Nat) (I : kI) (o : kO) : kI := match o.2 with
  | none => I
  | some s => va_up (chM q a b I) a s
theorem nx_rg {y : Int32} {m : Nat} (hm : m < 2 ^ 31) (h : 0 ≤ y ∧ y ≤ nI m) : ∃ j, j ≤ m ∧ y = nI j := by
  obtain ⟨j, hj, rfl⟩ := nx_ge0 h.1
  exact ⟨j, (nI_leI hj hm).mp h.2, rfl⟩
theorem nx_rl {y x : Int32} {m : Nat} (hm : m < 2 ^ 31) (hx : x = nI m) (h : 0 ≤ y ∧ y < x) : ∃ j, j < m ∧ y = nI j := by
  subst hx
  obtain ⟨j, hj, rfl⟩ := nx_ge0 h.1
  exact ⟨j, (nI_ltI hj hm).mp h.2, rfl⟩
theorem nx_2 {x : Int32} {c k : Nat} (hx : x = nI k) {z : Int32} (hz : z = nI c) : z + 2 * x = nI (c + 2 * k) := by
  rw [hx, hz, show (2 : Int32) = nI 2 from rfl, pk_mul, nI_add]
theorem nx_6 {x : Int32} {c k : Nat} (hx : x = nI k) {z : Int32} (hz : z = nI c) : z + 6 * x = nI (c + 6 * k) := by
  rw [hx, hz, show (6 : Int32) = nI 6 from rfl, pk_mul, nI_add]
theorem w_name {g : kG} {μ : kM} {R : Room} {E : State → Prop} {Q : kP} {n : Nat × Nat} {σ : kS} {I : kI} {pc : Nat} {loc : List (Option Value)} {st : List Value} {x : Int32} (kk : ∀ y, y = x → wp g μ R E Q n σ I pc loc (.int y :: st)) : wp g μ R E Q n σ I pc loc (.int x :: st) := kk x rfl

