theorem nx_row {x y : Int32} {a b : Nat} (hx : x = nI a) (ha : a < 12) (hy : y = nI b) (hb : b < 12) : (x + y - (x + y) / 12 * 12) * 4 = nI ((a + b) % 12 * 4) := by
  subst hx; subst hy
  rw [show (12 : Int32) = nI 12 from rfl, show (4 : Int32) = nI 4 from rfl, nI_add, pk_rem (by omega) (by omega) (by omega), pk_mul]
theorem nx_rowk {x y z : Int32} {a b c : Nat} (hx : x = nI a) (ha : a < 12) (hy : y = nI b) (hb : b < 12) (hz : z = nI c) : (x + y - (x + y) / 12 * 12) * 4 + z = nI ((a + b) % 12 * 4 + c) := by
  rw [nx_row hx ha hy hb, hz, nI_add]
theorem nx_lt {a b c : Nat} (hc : c < 4) : (a + b) % 12 * 4 + c < 48 := by omega
theorem nx_m1 {x : Int32} {a : Nat} (hx : x = nI (a + 1)) : x - 1 = nI a := by rw [hx]; exact nI_pred a
theorem nx_4 {x z : Int32} {a c : Nat} (hx : x = nI a) (hz : z = nI c) : x * 4 + z = nI (a * 4 + c) := by
  rw [hx, hz, show (4 : Int32) = nI 4 from rfl, pk_mul, nI_add]
theorem nx_add {x z : Int32} {a c : Nat} (hx : x = nI a) (hz : z = nI c) : x + z = nI (a + c) := by rw [hx, hz, nI_add]
theorem nx_pos {x : Int32} (h : ¬ x ≤ 0) {a : Nat} (hx : x = nI a) (ha : a < 2 ^ 31) : ∃ b, a = b + 1 := by
  cases a with
  | zero => subst hx; exact absurd (by decide) h
  | succ b => exact ⟨b, rfl⟩
def sm (f : Nat → Int32) (a : Nat) : Nat → Int32
  | 0 => 0
  | n + 1 => sm f a n + f (a + n)
theorem sm_succ (f : Nat → Int32) (a n : Nat) : sm f a (n + 1) = sm f a n + f (a + n) := rfl
theorem sm_cong {f g : Nat → Int32} {a b : Nat} : ∀ {n : Nat}, (∀ k, k < n → f (a + k) = g (b + k)) → sm f a n = sm g b n
  | 0, _ => rfl
  | n + 1, h => by rw [sm_succ, sm_succ, sm_cong (fun k hk => h k (by omega)), h n (by omega)]
def kUp (w : Nat → Int32) (o : Nat) : Nat → Nat → Nat
  | 0, t => t
  | n + 1, t => if t ≤ o then t else kUp w o n (w t).toNatClampNeg
def kDp (w : Nat → Int32) : Nat → Nat → Nat
  | 0, _ => 0
  | n + 1, t => if t = 0 then 0 else kDp w n (w t).toNatClampNeg + 1
-- the tree of accounts: each within a lower one
def kTree (w : Nat → Int32) (m : Nat) : Prop := ∀ a, 1 ≤ a → a < m → ∃ v, v < a ∧ w a = nI v
theorem kUp_le {w : Nat → Int32} {o : Nat} : ∀ (n t : Nat), t ≤ o → kUp w o n t = t
  | 0, _, _ => rfl
  | n + 1, t, h => by simp [kUp, h]
theorem kUp_step {w : Nat → Int32} {o n t v : Nat} (h : ¬ t ≤ o) (hv : w t = nI v) (hv2 : v < 2 ^ 31) : kUp w o (n + 1) t = kUp w o n v := by
  simp only [kUp, if_neg h, hv]
  rw [nI_clamp hv2]
theorem kDp_step {w : Nat → Int32} {n t v : Nat} (h : ¬ t = 0) (hv : w t = nI v) (hv2 : v < 2 ^ 31) : kDp w (n + 1) t = kDp w n v + 1 := by
  simp only [kDp, if_neg h, hv]
  rw [nI_clamp hv2]
theorem kUp_cong {w w' : Nat → Int32} {o m : Nat} (hm : m ≤ 8) (ht : kTree w m) (h : ∀ a, 1 ≤ a → a < m → w a = w' a) : ∀ (n t : Nat), t < m → kUp w o n t = kUp w' o n t
  | 0, t, _ => rfl
  | n + 1, t, hlt => by
    by_cases hto : t ≤ o
    · rw [kUp_le _ _ hto, kUp_le _ _ hto]
    · obtain ⟨v, hv, hw⟩ := ht t (by omega) hlt
      rw [kUp_step hto hw (by omega), kUp_step hto ((h t (by omega) hlt).symm.trans hw) (by omega)]
      exact kUp_cong hm ht h n v (by omega)
theorem kDp_cong {w w' : Nat → Int32} {m : Nat} (hm : m ≤ 8) (ht : kTree w m) (h : ∀ a, 1 ≤ a → a < m → w a = w' a) : ∀ (n t : Nat), t < m → kDp w n t = kDp w' n t
  | 0, t, _ => rfl
  | n + 1, t, hlt => by
    by_cases hto : t = 0
    · simp [kDp, hto]
    · obtain ⟨v, hv, hw⟩ := ht t (by omega) hlt
      rw [kDp_step hto hw (by omega), kDp_step hto ((h t (by omega) hlt).symm.trans hw) (by omega), kDp_cong hm ht h n v (by omega)]
def aS (w f : Nat → Int32) (o : Nat) : Nat → Int32
  | 0 => 0
  | n + 1 => aS w f o n + (if kUp w o 8 (o + n) = o then f (o + n) else 0)
theorem aS_succ (w f : Nat → Int32) (o n : Nat) : aS w f o (n + 1) = aS w f o n + (if kUp w o 8 (o + n) = o then f (o + n) else 0) := rfl
theorem aS_one (w f : Nat → Int32) (o : Nat) : aS w f o 1 = f o := by
  rw [aS_succ]
  simp [aS, kUp]
theorem aS_cong {w w' f f' : Nat → Int32} {o m : Nat} (hm : m ≤ 8) (ht : kTree w m) (h : ∀ a, 1 ≤ a → a < m → w a = w' a) (hf : ∀ a, a < m → f a = f' a) : ∀ n, o + n ≤ m → aS w f o n = aS w' f' o n
  | 0, _ => rfl
  | n + 1, hn => by
    rw [aS_succ, aS_succ, aS_cong hm ht h hf n (by omega), kUp_cong hm ht h 8 (o + n) (by omega), hf (o + n) (by omega)]
theorem nx_le {x : Int32} {a b : Nat} (hx : x = nI a) (ha : a < 2 ^ 31) (hb : b < 2 ^ 31) : nI b ≤ x ↔ b ≤ a := by rw [hx]; exact nI_leI hb ha
theorem nx_cmp {x y : Int32} {a b : Nat} (hx : x = nI a) (ha : a < 2 ^ 31) (hy : y = nI b) (hb : b < 2 ^ 31) : (x ≤ y ↔ a ≤ b) ∧ (x < y ↔ a < b) ∧ (x = y ↔ a = b) := by
  subst hx; subst hy
  exact ⟨nI_leI ha hb, nI_ltI ha hb, nI_eq ha hb⟩
theorem nx_nle {x y : Int32} {a b : Nat} (h : ¬ x ≤ y) (hx : x = nI a) (ha : a < 2 ^ 31) (hy : y = nI b) (hb : b < 2 ^ 31) : b < a := Nat.lt_of_not_le (fun q => h ((nx_cmp hx ha hy hb).1.mpr q))
theorem nx_nlt {x y : Int32} {a b : Nat} (h : ¬ x < y) (hx : x = nI a) (ha : a < 2 ^ 31) (hy : y = nI b) (hb : b < 2 ^ 31) : b ≤ a := Nat.le_of_not_lt (fun q => h ((nx_cmp hx ha hy hb).2.1.mpr q))
theorem nx_ne {x y : Int32} {a b : Nat} (h : ¬ x = y) (hx : x = nI a) (ha : a < 2 ^ 31) (hy : y = nI b) (hb : b < 2 ^ 31) : a ≠ b := fun q => h ((nx_cmp hx ha hy hb).2.2.mpr q)
theorem kDp_z (w : Nat → Int32) : ∀ n, kDp w n 0 = 0
  | 0 => rfl
  | n + 1 => by simp [kDp]
theorem nx_ge0 {x : Int32} (h : 0 ≤ x) : ∃ a, a < 2 ^ 31 ∧ x = nI a := nI_of (Int32.not_lt.mpr h)
theorem nx_addc (x y z : Int32) : x + y + z = x + z + y := by rw [Int32.add_assoc, Int32.add_comm y z, ← Int32.add_assoc]

