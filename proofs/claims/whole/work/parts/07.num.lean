theorem nx_row {x y : Int32} {a b : Nat} (hx : x = nI a) (ha : a < 12) (hy : y = nI b) (hb : b < 12) : (x + y - (x + y) / 12 * 12) * 4 = nI ((a + b) % 12 * 4) := by
  subst hx; subst hy
  rw [show (12 : Int32) = nI 12 from rfl, show (4 : Int32) = nI 4 from rfl, nI_add, pk_rem (by omega) (by omega) (by omega), pk_mul]
theorem nx_rowk {x y z : Int32} {a b c : Nat} (hx : x = nI a) (ha : a < 12) (hy : y = nI b) (hb : b < 12) (hz : z = nI c) : (x + y - (x + y) / 12 * 12) * 4 + z = nI ((a + b) % 12 * 4 + c) := by
  rw [nx_row hx ha hy hb, hz, nI_add]
theorem nx_lt {a b c : Nat} (hc : c < 4) : (a + b) % 12 * 4 + c < 48 := by omega
theorem nx_m1 {x : Int32} {a : Nat} (hx : x = nI (a + 1)) : x - 1 = nI a := by rw [hx]; exact nI_pred a
theorem nx_4 {x z : Int32} {a c : Nat} (hx : x = nI a) (hz : z = nI c) : x * 4 + z = nI (a * 4 + c) := by
  rw [hx, hz, show (4 : Int32) = nI 4 from rfl, pk_mul, nI_add]
theorem nx_add {x z : Int32} {a c : Nat} (hx : x = nI a) (hz : z = nI c) : x + z = nI (a + c) := by rw [hx, hz, nI_add]
theorem nx_pos {x : Int32} (h : ¬ x ≤ 0) {a : Nat} (hx : x = nI a) (ha : a < 2 ^ 31) : ∃ b, a = b + 1 := by
  cases a with
  | zero => subst hx; exact absurd (by decide) h
  | succ b => exact ⟨b, rfl⟩
def sm (f : Nat → Int32) (a : Nat) : Nat → Int32
  | 0 => 0
  | n + 1 => sm f a n + f (a + n)
theorem sm_succ (f : Nat → Int32) (a n : Nat) : sm f a (n + 1) = sm f a n + f (a + n) := rfl
theorem sm_cong {f g : Nat → Int32} {a b : Nat} : ∀ {n : Nat}, (∀ k, k < n → f (a + k) = g (b + k)) → sm f a n = sm g b n
  | 0, _ => rfl
  | n + 1, h => by rw [sm_succ, sm_succ, sm_cong (fun k hk => h k (by omega)), h n (by omega)]
