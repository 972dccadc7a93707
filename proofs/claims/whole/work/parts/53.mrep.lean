/-! The model's cells hold the same rules; its situation mf x tells the analyzer's x. -/
def mR (u : xS) (n : Nat) (B : Nat → Nat → Nat) : Prop := n ≤ 8 ∧ u.1 0 1 = nI n ∧ ∀ i, i < n → u.1 1 i = nI (B i 0) ∧ u.1 2 i = nI (B i 1) ∧ u.1 3 i = nI (B i 2) ∧ u.1 6 i = nI (B i 3) ∧ u.1 4 i = nI (B i 4) ∧ u.1 7 i = nI (B i 5) ∧ ∀ k, k < B i 4 → u.1 5 (4 * i + k) = nI (B i (6 + k))
theorem mR_n {u : xS} {n : Nat} {B : Nat → Nat → Nat} (h : mR u n B) : u.1 0 1 = nI n := h.2.1
def mf (x : Nat) : Nat := 256 * (x % 64) + x / 64
theorem mf_lt {x : Nat} (h : x < 16384) : mf x < 16384 := by
  unfold mf
  omega
theorem mf_div {x : Nat} (h : x < 16384) : mf x / 256 = x % 64 := by
  unfold mf
  omega
theorem mf_mod {x : Nat} (h : x < 16384) : mf x % 256 = x / 64 := by
  unfold mf
  omega
theorem mf_of {f t : Nat} (hf : f < 64) : mf (64 * t + f) = 256 * f + t := by
  unfold mf
  omega
theorem mf_inj {x y : Nat} (hx : x < 16384) (hy : y < 16384) (h : mf x = mf y) : x = y := by
  unfold mf at h
  omega
theorem mf_bit {x j : Nat} (hx : x < 16384) (hj : j < 6) : (mf x).testBit (8 + j) = x.testBit j := by
  rw [Nat.add_comm 8 j, ← Nat.testBit_div_two_pow (n := 8), show (2 : Nat) ^ 8 = 256 from rfl, mf_div hx, show 64 = 2 ^ 6 from rfl, Nat.testBit_mod_two_pow, decide_eq_true hj, Bool.true_and]
