-- the answers that change nothing
def fW (s : kV) : kV := fun a => s (129 + 2 * a)
def fO (s : kV) : kV := fun a => s (130 + 2 * a)
def qAccountOf (s : kV) (x w : Int32) : Int32 := if ¬ ((0 ≤ x ∧ x < s 14) ∧ (0 ≤ w ∧ w ≤ 4)) then -1000001 else if w < 2 then s (129 + 2 * tn x + tn w) else if w = 2 then aS (fW s) (fO s) (tn x) (nAc s - tn x) else if w = 3 then aS (fW s) (fun _ => 1) (tn x) (nAc s - tn x) - 1 else nI (kDp (fW s) 8 (tn x))
def qMassAt (s : kV) (p k : Int32) : Int32 := if ¬ ((0 ≤ p ∧ p ≤ 11) ∧ (-1 ≤ k ∧ k ≤ 3)) then -1000001 else if k < 0 then sm s (21 + 4 * tn p) 4 else s (21 + 4 * tn p + tn k)
def qLotOf (s : kV) (i w : Int32) : Int32 := if i < 0 ∨ ¬ (0 ≤ w ∧ w ≤ 1) then -1000001 else if s 13 ≤ i then -1000004 else s (69 + 2 * tn i + tn w)
def qBinOf (s : kV) (b w : Int32) : Int32 := if ¬ ((0 ≤ b ∧ b < s 12) ∧ (0 ≤ w ∧ w ≤ 6)) then -1000001 else if w < 4 then s (81 + 6 * tn b + tn w) else if w = 4 then bMass s (tn b) else if w = 5 then s (85 + 6 * tn b) + 1000000000 else s (86 + 6 * tn b)
def qTotal (s : kV) : Int32 := (((s 5).toInt64 * (s 7).toInt64) / 1000).toInt32
def qScale (s : kV) (w : Int32) : Int32 := if w = 0 then rdg s + 1000000 else if w = 1 then s 3 + 1000000 else if w = 2 then s 4 + 1000000 else if w = 3 then s 5 + 1000000000 else if w = 4 then qTotal s + 1000000000 else if w = 5 then s 7 else if w = 6 then s 8 else -1000001
def smL (s : kV) : Nat → Int32
  | 0 => 0
  | n + 1 => smL s n + s (70 + 2 * n)
def smB (s : kV) : Nat → Int32
  | 0 => 0
  | n + 1 => smB s n + bMass s n
def qTold (s : kV) (w : Int32) : Int32 := if ¬ 0 < s 15 then -1000004 else if w = 5 then s 15 else s 16
def qCount (s : kV) (np nt w : Int32) : Int32 := if w = 0 then s 13 else if w = 1 then s 0 else if w = 2 then s 1 else if w = 3 then s 12 else if w = 4 then (if s 12 = 0 then -1000004 else s 12 - 1) else if w = 5 then qTold s 5 else if w = 6 then qTold s 6 else if w = 7 then s 2 else if w = 8 then sm s 21 48 else if w = 9 then smL s (nLo s) else if w = 10 then s 9 else if w = 11 then smB s (nB s) else if w = 12 then s 10 else if w = 13 then s 14 else if w = 14 then np else if w = 15 then nt else if 20 ≤ w ∧ w ≤ 22 then s (18 + (tn w - 20)) + (if w = 22 then 10 else 0) else if 30 ≤ w ∧ w ≤ 33 then s (145 + (tn w - 30)) else -1000001
-- ticks until the batch is done, at most m more of them: how many, and the state then
def lastN : Nat → kV → Nat
  | 0, _ => 0
  | m + 1, s => if 0 < s 15 then lastN m (tickS s) + 1 else 0
def lastS : Nat → kV → kV
  | 0, s => s
  | m + 1, s => if 0 < s 15 then lastS m (tickS s) else s
def qLasts (s : kV) : Int32 := if 0 < lastS 2000 s 15 then -1000004 else nI (lastN 2000 s)
def qThen (s : kV) : Int32 := bMass (lastS 2000 s) (nB (lastS 2000 s) - 1)
def qBatchIn (s : kV) : Int32 := if 0 < s 15 then qLasts s else -1000002
def qBatchOut (s : kV) : Int32 := if ¬ 0 < s 15 then -1000002 else if qLasts s < 0 then -1000004 else qThen s
def qError (s : kV) : Int32 := qTotal s - s 11 + 1000000000
theorem SX_lastS : ∀ (m : Nat) {s : kV}, SX s → SX (lastS m s)
  | 0, _, h => h
  | m + 1, s, h => by
    unfold lastS
    split
    · exact SX_lastS m (SX_tick h)
    · exact h

