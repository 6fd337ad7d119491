-- what a tick leaves alone
def tkF (k : Nat) : Prop := k = 0 ∨ k = 1 ∨ k = 4 ∨ k = 7 ∨ k = 9 ∨ k = 12 ∨ k = 14 ∨ k = 18 ∨ k = 19 ∨ k = 20 ∨ (129 ≤ k ∧ k < 145 ∧ k % 2 = 1) ∨ 145 ≤ k
theorem fallA_k {s : kV} {b κ : Nat} (hb : b < 8) (hκ : κ < 4) {k : Nat} (hk : tkF k) : fallA s b κ k = s k := by
  simp only [tkF] at hk
  unfold fallA
  exact upd_ne (by omega)
theorem fallB_k {s : kV} (h : SX s) {κ : Nat} (hκ : κ < 4) {k : Nat} (hk : tkF k) : fallB s κ k = s k := by
  have h1 := (SX_bk h hκ).1
  have h2 := (SX_A h).2.1
  simp only [tkF] at hk
  unfold fallB
  exact upd_ne (by omega)
theorem fallN_k {s : kV} (h : SX s) {b : Nat} (hb : b < 8) {k : Nat} (hk : tkF k) : ∀ n, n ≤ 4 → fallN s b n k = s k
  | 0, _ => rfl
  | n + 1, hn => by
    have hn' := SX_fallN h hb n (by omega)
    show fallB (fallA (fallN s b n) b n) n k = s k
    rw [fallB_k (SX_fallA hn' hb (by omega)) (by omega) hk, fallA_k hb (by omega) hk, fallN_k h hb hk n (by omega)]
theorem falls1_k {s : kV} {k : Nat} (hk : tkF k) : falls1 s k = s k := by
  simp only [tkF] at hk
  unfold falls1
  rw [upd_ne (by omega), upd_ne (by omega), upd_ne (by omega)]
theorem falls_k {s : kV} (h : SX s) {k : Nat} (hk : tkF k) : falls s k = s k := by
  have hB := (SX_B h).1
  unfold falls
  split
  · exact falls1_k hk
  · have h4 := (fallN_k (SX_falls1 h) (b := nB s - 1) (by omega) hk 4 (Nat.le_refl 4)).trans (falls1_k hk)
    split
    · simp only [tkF] at hk
      show upd (fallN (falls1 s) (nB s - 1) 4) (86 + 6 * (nB s - 1)) _ k = s k
      rw [upd_ne (by omega)]; exact h4
    · exact h4
theorem shift_k {s : kV} {k : Nat} (hk : tkF k) : shiftS s k = s k := by
  simp only [tkF] at hk
  unfold shiftS
  rw [if_neg (by omega), if_neg (by omega)]
theorem feed1_f {s : kV} (h : SX s) (hL : 0 < nLo s) (x : Int32) {k : Nat} (hk : tkF k) : feed1 s x k = s k := by
  have := (feed1_k h hL).1
  simp only [tkF] at hk
  unfold feed1
  rw [upd_ne (by omega), upd_ne (by omega)]
theorem popL_f {s : kV} (h : SX s) {k : Nat} (hk : tkF k) : popL s k = s k := by
  have := (SX_L h).1
  simp only [tkF] at hk
  unfold popL
  rw [if_neg (by omega), if_neg (by omega)]
theorem feedL_k {k : Nat} (hk : tkF k) : ∀ (n : Nat) (l : Int32) {s : kV}, SX s → feedL n l s k = s k
  | 0, _, _, _ => rfl
  | n + 1, l, s, h => by
    unfold feedL
    split
    · rename_i hc
      have hL := (lots_pos h).mp hc.2
      have h1 := SX_feed1 h hL (mn (s 70) l)
      split
      · rw [feedL_k hk n _ (SX_pop h1 (by rw [feed1_nLo h hL]; exact hL)), popL_f h1 hk, feed1_f h hL _ hk]
      · rw [feedL_k hk n _ h1, feed1_f h hL _ hk]
    · rfl
theorem spl_k {k : Nat} (hk : tkF k) : ∀ (n : Nat) (m : Int32) (s : kV), n ≤ 4 → spl n m s k = s k
  | 0, _, _, _ => rfl
  | n + 1, m, s, hn => by
    have hk' := hk
    simp only [tkF] at hk'
    unfold spl
    split
    · rw [spl_k hk n _ _ (by omega), upd_ne (by omega), upd_ne (by omega)]
    · rfl
theorem feeds_k {s : kV} (h : SX s) {k : Nat} (hk : tkF k) : feeds s k = s k := by
  unfold feeds
  rw [spl_k hk 4 _ _ (Nat.le_refl 4), feedL_k hk 6 _ h]
theorem readS_k {s : kV} (h : SX s) {k : Nat} (hk : tkF k) : readS s k = s k := by
  have hB := (SX_B h).1
  simp only [tkF] at hk
  unfold readS reads1
  split
  · rw [upd_ne (by omega), upd_ne (by omega)]
  · rw [upd_ne (by omega), upd_ne (by omega), upd_ne (by omega)]
theorem goes_k {s : kV} (h : SX s) {k : Nat} (hk : tkF k) : goesS s k = s k := by
  have h1 : SX (goesA s) := SX_shift (SX_falls h)
  have hk' := hk
  simp only [tkF] at hk'
  unfold goesS
  rw [upd_ne (by omega), readS_k (SX_goesB h1) hk]
  have e : goesB (goesA s) k = goesA s k := by
    unfold goesB
    split
    · rfl
    · exact feeds_k h1 hk
  rw [e]
  unfold goesA
  rw [shift_k hk, falls_k h hk]
theorem tick_k {s : kV} (h : SX s) {k : Nat} (hk : tkF k) : tickS s k = s k := by
  have h1 := SX_tk1 h
  have h2 := SX_tk2 h1
  have hk' := hk
  simp only [tkF] at hk'
  have e1 : tk1 s k = s k := by unfold tk1; rw [upd_ne (by omega), upd_ne (by omega)]
  have e2 : tk2 (tk1 s) k = tk1 s k := by
    unfold tk2
    split
    · rw [upd_ne (by omega)]
    · rfl
  have e3 : tk3 (tk2 (tk1 s)) k = tk2 (tk1 s) k := by
    unfold tk3
    split
    · exact goes_k h2 hk
    · rw [upd_ne (by omega)]
  unfold tickS
  have e4 : tk4 (tk3 (tk2 (tk1 s))) k = tk3 (tk2 (tk1 s)) k := by
    unfold tk4
    split
    · rw [upd_ne (by omega)]
    · rfl
  rw [e4, e3, e2, e1]
theorem lastS_k {k : Nat} (hk : tkF k) : ∀ (m : Nat) {s : kV}, SX s → lastS m s k = s k
  | 0, _, _ => rfl
  | m + 1, s, h => by
    unfold lastS
    split
    · rw [lastS_k hk m (SX_tick h), tick_k h hk]
    · rfl
theorem tickN_k {s : kV} (h : SX s) {k : Nat} (hk : tkF k) : ∀ n, tickN s n k = s k
  | 0 => rfl
  | n + 1 => (tick_k (SX_tickN h n) hk).trans (tickN_k h hk n)
-- texts
def nmP (tx : kV) (n : Nat) : Nat → Nat → Nat
  | 0, p => p
  | f + 1, p => if p < n ∧ 48 ≤ tx p ∧ tx p ≤ 57 then nmP tx n f (p + 1) else p
def nmV (tx : kV) (n : Nat) : Nat → Nat → Int32 → Int32
  | 0, _, v => v
  | f + 1, p, v => if p < n ∧ 48 ≤ tx p ∧ tx p ≤ 57 then nmV tx n f (p + 1) (10 * v + tx p - 48) else v
theorem nmP_le (tx : kV) (n : Nat) : ∀ f p, p ≤ nmP tx n f p ∧ nmP tx n f p ≤ p + f ∧ (p ≤ n → nmP tx n f p ≤ n)
  | 0, p => ⟨Nat.le_refl _, Nat.le_refl _, fun h => h⟩
  | f + 1, p => by
    unfold nmP
    split
    · obtain ⟨h1, h2, h3⟩ := nmP_le tx n f (p + 1)
      exact ⟨by omega, by omega, fun _ => h3 (by omega)⟩
    · exact ⟨by omega, by omega, fun h => h⟩
abbrev kC : Type := Int32 × Int32 × Int32 × Nat
def l4 (l : Int32) : Prop := l = 98 ∨ l = 115 ∨ l = 120 ∨ l = 122
def l1 (l : Int32) : Prop := l = 103 ∨ l = 109 ∨ l = 99 ∨ l = 116
abbrev at1 (tx : kV) (n p : Nat) (z : Int32) : Prop := p < n ∧ tx p = z
def ps1 (tx : kV) (n p : Nat) : Option kC := if p + 1 < nmP tx n 4 (p + 1) ∧ at1 tx n (nmP tx n 4 (p + 1)) 59 then some (tx p, nmV tx n 4 (p + 1) 0, 0, nmP tx n 4 (p + 1) + 1) else none
def ps0 (tx : kV) (n p : Nat) : Option kC := if at1 tx n (p + 1) 59 then some (tx p, 0, 0, p + 2) else none
def ps2 (tx : kV) (n p : Nat) : Option kC := if p + 1 < nmP tx n 4 (p + 1) ∧ at1 tx n (nmP tx n 4 (p + 1)) 44 then (if nmP tx n 4 (p + 1) + 1 < nmP tx n 4 (nmP tx n 4 (p + 1) + 1) ∧ at1 tx n (nmP tx n 4 (nmP tx n 4 (p + 1) + 1)) 59 then some (tx p, nmV tx n 4 (p + 1) 0, nmV tx n 4 (nmP tx n 4 (p + 1) + 1) 0, nmP tx n 4 (nmP tx n 4 (p + 1) + 1) + 1) else none) else none
def ps (tx : kV) (n p : Nat) : Option kC := if tx p = 98 ∨ tx p = 115 ∨ tx p = 120 ∨ tx p = 122 then ps0 tx n p else if tx p = 108 then ps2 tx n p else if tx p = 103 ∨ tx p = 109 ∨ tx p = 99 ∨ tx p = 116 then ps1 tx n p else none
def cmO (s : kV) (l v w : Int32) : kO := if l = 98 then oBin s else if l = 115 then oRun s 1 else if l = 120 then oRun s 0 else if l = 122 then oZero s else if l = 108 then oLot s v w else if l = 103 then oGate s v else if l = 109 then oBatch s v else if l = 99 then oCorrect s v else oTick s v
-- the text's commands one by one, on a state: the fault (its position; 0 or the error) if there is one, the state then, how many
abbrev kF3 : Type := Option (Nat × Int32) × kV × Nat
def pl (tx : kV) (n : Nat) : Nat → Nat → kV → Nat → kF3
  | 0, _, s, c => (none, s, c)
  | f + 1, p, s, c => if p < n then (match ps tx n p with
    | none => (some (p, 0), s, c + 1)
    | some q => match cmO s q.1 q.2.1 q.2.2.1 with
      | (r, none) => (some (p, r), s, c + 1)
      | (_, some t) => pl tx n f q.2.2.2 t (c + 1)) else (none, s, c)

