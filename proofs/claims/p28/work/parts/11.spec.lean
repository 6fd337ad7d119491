-- THE PROMISES AS FUNCTIONS of the reference's row of 149 numbers
abbrev kV : Type := Nat → Int32
abbrev kO : Type := Int32 × Option kV
def tn (x : Int32) : Nat := x.toNatClampNeg
theorem tn_nI {n : Nat} (h : n < 2 ^ 31) : tn (nI n) = n := nI_clamp h
theorem tn_of {x : Int32} {n : Nat} (h : x = nI n) (hn : n < 2 ^ 31) : tn x = n := by rw [h]; exact nI_clamp hn
def nB (s : kV) : Nat := tn (s 12)
def nLo (s : kV) : Nat := tn (s 13)
def nAc (s : kV) : Nat := tn (s 14)
def falls1 (s : kV) : kV := upd (upd (upd s 11 (s 11 + sm s 65 4)) 10 (s 10 + (if nB s = 0 then sm s 65 4 else 0))) 17 (s 17 + (if nB s = 0 then 0 else sm s 65 4))
def fallA (s : kV) (b κ : Nat) : kV := upd s (81 + 6 * b + κ) (s (81 + 6 * b + κ) + s (65 + κ))
def fallB (s : kV) (κ : Nat) : kV := upd s (130 + 2 * tn (s (145 + κ))) (s (130 + 2 * tn (s (145 + κ))) + s (65 + κ))
def fallK (s : kV) (b κ : Nat) : kV := fallB (fallA s b κ) κ
def fallN (s : kV) (b : Nat) : Nat → kV
  | 0 => s
  | n + 1 => fallK (fallN s b n) b n
def falls (s : kV) : kV := if nB s = 0 then falls1 s else if 0 < sm s 65 4 then (let t := fallN (falls1 s) (nB s - 1) 4; upd t (86 + 6 * (nB s - 1)) (t (86 + 6 * (nB s - 1)) + 1)) else fallN (falls1 s) (nB s - 1) 4
def shiftS (s : kV) : kV := fun k => if 25 ≤ k ∧ k < 69 then s (k - 4) else if 21 ≤ k ∧ k < 25 then 0 else s k
def popL (s : kV) : kV := fun k => if 69 ≤ k ∧ k < 69 + 2 * (nLo s - 1) then s (k + 2) else if k = 13 then s 13 - 1 else s k
def feed1 (s : kV) (x : Int32) : kV := upd (upd s (21 + tn (s 69)) (s (21 + tn (s 69)) + x)) 70 (s 70 - x)
def mn (x y : Int32) : Int32 := if x < y then x else y
def feedL : Nat → Int32 → kV → kV
  | 0, _, s => s
  | n + 1, l, s => if 0 < l ∧ 0 < s 13 then (if (feed1 s (mn (s 70) l)) 70 = 0 then feedL n (l - (mn (s 70) l)) (popL (feed1 s (mn (s 70) l))) else feedL n (l - (mn (s 70) l)) (feed1 s (mn (s 70) l))) else s
def spl : Nat → Int32 → kV → kV
  | 0, _, s => s
  | n + 1, m, s => if 0 < m then spl n (m - (mn (s (21 + n)) m)) (upd (upd s (21 + n) (s (21 + n) - (mn (s (21 + n)) m))) 10 (s 10 + (mn (s (21 + n)) m))) else s
def feeds (s : kV) : kV := spl 4 (sm (feedL 6 (s 0) s) 21 4 - feedL 6 (s 0) s 18) (feedL 6 (s 0) s)
def rdg (s : kV) : Int32 := sm s 37 16 + s 3 - s 4
def reads1 (s : kV) (v : Int32) : kV := upd (upd s 5 (s 5 + v / 4)) 6 (v - v / 4 * 4)
def readS (s : kV) : kV := if nB s = 0 then reads1 s (rdg s + s 6) else upd (reads1 s (rdg s + s 6)) (85 + 6 * (nB s - 1)) (s (85 + 6 * (nB s - 1)) + (rdg s + s 6) / 4)
def goesA (s : kV) : kV := shiftS (falls s)
def goesB (s : kV) : kV := if 0 < s 15 ∧ ¬ s 16 = 0 then s else feeds s
def goesS (s : kV) : kV := upd (readS (goesB (goesA s))) 8 0
def tk1 (s : kV) : kV := upd (upd s 2 (s 2 + 1)) 3 (s 3 + (if s 2 + 1 - (s 2 + 1) / s 19 * s 19 = 0 then s 20 else 0))
def tk2 (s : kV) : kV := if 0 < s 15 ∧ (s 15 ≤ sm s 21 48 + s 17 ∨ s 13 = 0) then upd s 16 1 else s
def tk3 (s : kV) : kV := if 0 < s 15 ∨ s 1 = 1 then goesS s else upd s 8 (s 8 + 1)
def tk4 (s : kV) : kV := if 0 < s 15 ∧ s 16 = 1 ∧ sm s 21 48 = 0 then upd s 15 0 else s
def tickS (s : kV) : kV := tk4 (tk3 (tk2 (tk1 s)))
def tickN (s : kV) : Nat → kV
  | 0 => s
  | n + 1 => tickS (tickN s n)
def inI (x a b : Int32) : Prop := a ≤ x ∧ x ≤ b
def oLot (s : kV) (k m : Int32) : kO := if ¬ ((0 ≤ k ∧ k ≤ 3) ∧ (1 ≤ m ∧ m ≤ 9999)) then (-1000001, none) else if s 13 = 6 then (-1000003, none) else (s 13 + 1, some (upd (upd (upd (upd s (69 + 2 * nLo s) k) (70 + 2 * nLo s) m) 13 (s 13 + 1)) 9 (s 9 + m)))
def oGate (s : kV) (w : Int32) : kO := if ¬ (0 ≤ w ∧ w ≤ 200) then (-1000001, none) else (s 0, some (upd s 0 w))
def oRun (s : kV) (z : Int32) : kO := if ¬ (0 ≤ z ∧ z ≤ 1) then (-1000001, none) else if 0 < s 15 then (-1000002, none) else (s 1, some (upd s 1 z))
def binZ (s : kV) (b : Nat) : kV := fun k => if 81 + 6 * b ≤ k ∧ k < 87 + 6 * b then 0 else s k
def oBin (s : kV) : kO := if 0 < s 15 then (-1000002, none) else if s 12 = 8 then (-1000003, none) else (s 12, some (upd (binZ s (nB s)) 12 (s 12 + 1)))
def oBatch (s : kV) (m : Int32) : kO := if ¬ (1 ≤ m ∧ m ≤ 9999) then (-1000001, none) else if 0 < s 15 ∨ s 12 = 0 then (-1000002, none) else (sm s 21 48, some (upd (upd (upd (upd s 15 m) 16 0) 17 0) 1 0))
def oTick (s : kV) (m : Int32) : kO := if ¬ (1 ≤ m ∧ m ≤ 200) then (-1000001, none) else if 9000 < s 2 + m then (-1000003, none) else (tickN s (tn m) 11 - s 11, some (tickN s (tn m)))
def oZero (s : kV) : kO := if s 8 < 4 ∧ 0 < sm s 37 16 then (-1000002, none) else (s 4 + 1000000, some (upd s 4 (sm s 37 16 + s 3)))
def bMass (s : kV) (b : Nat) : Int32 := sm s (81 + 6 * b) 4
def isBinS (s : kV) (b : Int32) : Prop := 0 ≤ b ∧ b < s 12
def facS (s : kV) (b : Nat) : Int64 := if 0 < s (85 + 6 * b) then 1000 * (bMass s b).toInt64 / (s (85 + 6 * b)).toInt64 else 0
def oCorrect (s : kV) (b : Int32) : kO := if ¬ (0 ≤ b ∧ b < s 12) then (-1000001, none) else if facS s (tn b) < 500 ∨ 2000 < facS s (tn b) then (-1000002, none) else ((facS s (tn b)).toInt32, some (upd s 7 (facS s (tn b)).toInt32))
def oSet (s : kV) (w v : Int32) : kO := if ¬ ((0 ≤ w ∧ w ≤ 2) ∧ ((if w = 2 then -9 else 1) ≤ v ∧ v ≤ (if w = 0 then 500 else if w = 1 then 99 else 9))) then (-1000001, none) else (s (18 + tn w), some (upd s (18 + tn w) v))
def oAccount (s : kV) (w : Int32) : kO := if ¬ (0 ≤ w ∧ w < s 14) then (-1000001, none) else if s 14 = 8 then (-1000003, none) else (s 14, some (upd (upd (upd s (129 + 2 * nAc s) w) (130 + 2 * nAc s) 0) 14 (s 14 + 1)))
def oBook (s : kV) (k a : Int32) : kO := if ¬ ((0 ≤ k ∧ k ≤ 3) ∧ (0 ≤ a ∧ a < s 14)) then (-1000001, none) else (s (145 + tn k), some (upd s (145 + tn k) a))
-- the structure that indices rest on
def SX (s : kV) : Prop := (∃ L, L ≤ 6 ∧ s 13 = nI L ∧ ∀ k, k < L → ∃ κ, κ < 4 ∧ s (69 + 2 * k) = nI κ) ∧ (∃ B, B ≤ 8 ∧ s 12 = nI B) ∧ (∃ A, 1 ≤ A ∧ A ≤ 8 ∧ s 14 = nI A ∧ kTree (fun a => s (129 + 2 * a)) A ∧ ∀ κ, κ < 4 → ∃ c, c < A ∧ s (145 + κ) = nI c) ∧ 1 ≤ s 19
def sxI (k : Nat) : Prop := k = 12 ∨ k = 13 ∨ k = 14 ∨ k = 19 ∨ (69 ≤ k ∧ k < 81 ∧ k % 2 = 1) ∨ (129 ≤ k ∧ k < 145 ∧ k % 2 = 1) ∨ (145 ≤ k ∧ k < 149)
theorem SX_congr {s t : kV} (h : SX s) (e : ∀ k, sxI k → t k = s k) : SX t := by
  obtain ⟨⟨L, h1, h2, h3⟩, ⟨B, h4, h5⟩, ⟨A, h6, h7, h8, h9, h10⟩, h11⟩ := h
  refine ⟨⟨L, h1, by rw [e 13 (by simp [sxI])]; exact h2, fun k hk => ?_⟩, ⟨B, h4, by rw [e 12 (by simp [sxI])]; exact h5⟩, ⟨A, h6, h7, by rw [e 14 (by simp [sxI])]; exact h8, fun a ha1 ha2 => ?_, fun κ hκ => ?_⟩, by rw [e 19 (by simp [sxI])]; exact h11⟩
  · rw [e (69 + 2 * k) (by simp only [sxI]; omega)]; exact h3 k hk
  · obtain ⟨v, hv, hw⟩ := h9 a ha1 ha2
    exact ⟨v, hv, by show t (129 + 2 * a) = _; rw [e (129 + 2 * a) (by simp only [sxI]; omega)]; exact hw⟩
  · rw [e (145 + κ) (by simp only [sxI]; omega)]; exact h10 κ hκ
theorem upd_ne {s : kV} {k j : Nat} {x : Int32} (h : j ≠ k) : upd s k x j = s j := by simp [upd, h]
theorem upd_s {s : kV} {k : Nat} {x : Int32} : upd s k x k = x := by simp [upd]
theorem SX_upd {s : kV} (h : SX s) {k : Nat} {x : Int32} (hk : ¬ sxI k) : SX (upd s k x) := SX_congr h (fun j hj => upd_ne (fun e => hk (e ▸ hj)))
theorem SX_B {s : kV} (h : SX s) : nB s ≤ 8 ∧ s 12 = nI (nB s) := by
  obtain ⟨-, ⟨B, h4, h5⟩, -⟩ := h
  rw [nB, tn_of h5 (by omega)]; exact ⟨h4, h5⟩
theorem SX_L {s : kV} (h : SX s) : nLo s ≤ 6 ∧ s 13 = nI (nLo s) ∧ ∀ k, k < nLo s → ∃ κ, κ < 4 ∧ s (69 + 2 * k) = nI κ := by
  obtain ⟨⟨L, h1, h2, h3⟩, -⟩ := h
  rw [nLo, tn_of h2 (by omega)]; exact ⟨h1, h2, h3⟩
theorem SX_A {s : kV} (h : SX s) : 1 ≤ nAc s ∧ nAc s ≤ 8 ∧ s 14 = nI (nAc s) ∧ kTree (fun a => s (129 + 2 * a)) (nAc s) ∧ ∀ κ, κ < 4 → ∃ c, c < nAc s ∧ s (145 + κ) = nI c := by
  obtain ⟨-, -, ⟨A, h6, h7, h8, h9, h10⟩, -⟩ := h
  rw [nAc, tn_of h8 (by omega)]; exact ⟨h6, h7, h8, h9, h10⟩
theorem SX_bk {s : kV} (h : SX s) {κ : Nat} (hκ : κ < 4) : tn (s (145 + κ)) < nAc s ∧ s (145 + κ) = nI (tn (s (145 + κ))) := by
  obtain ⟨a, b, c, d, e⟩ := SX_A h
  obtain ⟨v, hv, hw⟩ := e κ hκ
  rw [tn_of hw (by omega)]; exact ⟨hv, hw⟩

