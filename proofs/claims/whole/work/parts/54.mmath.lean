/-! The model's own arithmetic told by B. -/
theorem mR_8 {u : xS} {n : Nat} {B : Nat → Nat → Nat} (h : mR u n B) : n ≤ 8 := h.1
theorem mR_0 {u : xS} {n : Nat} {B : Nat → Nat → Nat} (h : mR u n B) {i : Nat} (hi : i < n) : u.1 1 i = nI (B i 0) := (h.2.2 i hi).1
theorem mR_1 {u : xS} {n : Nat} {B : Nat → Nat → Nat} (h : mR u n B) {i : Nat} (hi : i < n) : u.1 2 i = nI (B i 1) := (h.2.2 i hi).2.1
theorem mR_2 {u : xS} {n : Nat} {B : Nat → Nat → Nat} (h : mR u n B) {i : Nat} (hi : i < n) : u.1 3 i = nI (B i 2) := (h.2.2 i hi).2.2.1
theorem mR_3 {u : xS} {n : Nat} {B : Nat → Nat → Nat} (h : mR u n B) {i : Nat} (hi : i < n) : u.1 6 i = nI (B i 3) := (h.2.2 i hi).2.2.2.1
theorem mR_4 {u : xS} {n : Nat} {B : Nat → Nat → Nat} (h : mR u n B) {i : Nat} (hi : i < n) : u.1 4 i = nI (B i 4) := (h.2.2 i hi).2.2.2.2.1
theorem mR_5 {u : xS} {n : Nat} {B : Nat → Nat → Nat} (h : mR u n B) {i : Nat} (hi : i < n) : u.1 7 i = nI (B i 5) := (h.2.2 i hi).2.2.2.2.2.1
theorem mR_a {u : xS} {n : Nat} {B : Nat → Nat → Nat} (h : mR u n B) {i k : Nat} (hi : i < n) (hk : k < B i 4) : u.1 5 (4 * i + k) = nI (B i (6 + k)) := (h.2.2 i hi).2.2.2.2.2.2 k hk
theorem mR_fr {u w : xS} {n : Nat} {B : Nat → Nat → Nat} (h : mR u n B) (h1 : w.1 0 1 = u.1 0 1) (h2 : ∀ q, 1 ≤ q → q ≤ 7 → w.1 q = u.1 q) : mR w n B := by
  refine ⟨h.1, h1.trans h.2.1, fun i hi => ?_⟩
  rw [h2 1 (by decide) (by decide), h2 2 (by decide) (by decide), h2 3 (by decide) (by decide), h2 4 (by decide) (by decide), h2 5 (by decide) (by decide), h2 6 (by decide) (by decide), h2 7 (by decide) (by decide)]
  exact h.2.2 i hi
theorem mR_s {u : xS} {n : Nat} {B : Nat → Nat → Nat} (h : mR u n B) {q j : Nat} {v : Int32} (hq : (q = 0 ∧ j ≠ 1) ∨ 8 ≤ q) : mR (xs u q j v) n B := by
  refine mR_fr h ?_ fun q' h1 h2 => xs_r (by omega)
  rw [xs_at, if_neg (by omega)]
theorem mR_l {u : xS} {n : Nat} {B : Nat → Nat → Nat} (h : mR u n B) {q j : Nat} {v : Int64} : mR (xl u q j v) n B := mR_fr h (by rw [xl_1]) fun q' _ _ => by rw [xl_1]
def adn (a b : Nat) : Nat := mks (fun j => a.testBit j && !b.testBit j) 8
theorem adn_lt (a b : Nat) : adn a b < 256 := mks_lt _ 8
theorem t8 {t j : Nat} (ht : t < 256) (h : 8 ≤ j) : t.testBit j = false := Nat.testBit_lt_two_pow (Nat.lt_of_lt_of_le ht (Nat.pow_le_pow_right (by decide : 0 < 2) h))
theorem adn_bit {a b j : Nat} (ha : a < 256) : (adn a b).testBit j = (a.testBit j && !b.testBit j) := by
  unfold adn
  rw [mks_bit]
  rcases Nat.lt_or_ge j 8 with h | h
  · rw [decide_eq_true h, Bool.true_and]
  · rw [t8 ha h, decide_eq_false (by omega)]; rfl
theorem zi_adn {a b : Nat} (ha : a < 256) : nI a &&& (nI b ^^^ (-1)) = nI (adn a b) := by
  refine b_ext fun j hj => ?_
  rw [b_and, b_xor, b_m1 j hj, zi_bt hj, zi_bt hj, zi_bt hj, adn_bit ha, Bool.xor_true]
/-- the model's ready rules, behind k of its rounds -/
def mrd (B : Nat → Nat → Nat) (t : Nat) : Nat → Nat
  | 0 => t
  | k + 1 => if t.testBit k = true then adn (mrd B t k) (B k 5) else mrd B t k
theorem mrd_lt {B : Nat → Nat → Nat} {t : Nat} (ht : t < 256) : ∀ k, mrd B t k < 256
  | 0 => ht
  | k + 1 => by
    unfold mrd
    split
    · exact adn_lt _ _
    · exact mrd_lt ht k
theorem mrd_bit {B : Nat → Nat → Nat} {t : Nat} (ht : t < 256) (i : Nat) : ∀ k, (mrd B t k).testBit i = true ↔ t.testBit i = true ∧ ∀ j, j < k → t.testBit j = true → (B j 5).testBit i = false
  | 0 => ⟨fun h => ⟨h, fun j hj => absurd hj (Nat.not_lt_zero j)⟩, fun h => h.1⟩
  | k + 1 => by
    have ih := mrd_bit (B := B) ht i k
    unfold mrd
    split
    · rename_i hk
      rw [adn_bit (mrd_lt ht k), Bool.and_eq_true, ih, Bool.not_eq_true']
      constructor
      · intro h
        refine ⟨h.1.1, fun j hj hb => ?_⟩
        rcases Nat.lt_or_ge j k with q | q
        · exact h.1.2 j q hb
        · rw [show j = k by omega]; exact h.2
      · intro h
        exact ⟨⟨h.1, fun j hj => h.2 j (by omega)⟩, h.2 k (by omega) hk⟩
    · rename_i hk
      rw [ih]
      constructor
      · intro h
        refine ⟨h.1, fun j hj hb => ?_⟩
        rcases Nat.lt_or_ge j k with q | q
        · exact h.2 j q hb
        · rw [show j = k by omega] at hb; exact absurd hb hk
      · intro h
        exact ⟨h.1, fun j hj => h.2 j (by omega)⟩
theorem and0_iff {a b : Nat} : a &&& b = 0 ↔ ∀ j, ¬ (a.testBit j = true ∧ b.testBit j = true) := by
  constructor
  · intro h j hj
    have : (a &&& b).testBit j = true := by rw [Nat.testBit_and, hj.1, hj.2]; rfl
    rw [h, Nat.zero_testBit] at this
    exact absurd this (by decide)
  · intro h
    refine Nat.eq_of_testBit_eq fun j => ?_
    rw [Nat.testBit_and, Nat.zero_testBit]
    cases h1 : a.testBit j
    · rfl
    · cases h2 : b.testBit j
      · rfl
      · exact absurd ⟨h1, h2⟩ (h j)
theorem abv_tb {B : Nat → Nat → Nat} {i j : Nat} : (abv B i).testBit j = (decide (j < 8) && (B j 5).testBit i) := by
  unfold abv
  rw [mks_bit]
theorem rdy_bit {B : Nat → Nat → Nat} {t i : Nat} (ht : t < 256) : (rdy B t).testBit i = true ↔ t.testBit i = true ∧ ∀ j, j < 8 → t.testBit j = true → (B j 5).testBit i = false := by
  unfold rdy rdy1
  rw [mks_bit, Bool.and_eq_true, Bool.and_eq_true, decide_eq_true_eq, decide_eq_true_eq, and0_iff]
  constructor
  · intro h
    refine ⟨h.2.1, fun j hj hb => ?_⟩
    have := h.2.2 j
    rw [abv_tb, decide_eq_true hj, Bool.true_and] at this
    exact Bool.eq_false_iff.mpr fun z => this ⟨hb, z⟩
  · intro h
    refine ⟨?_, h.1, fun j hj => ?_⟩
    · rcases Nat.lt_or_ge i 8 with q | q
      · exact q
      · rw [t8 ht q] at h; exact absurd h.1 (by decide)
    · rw [abv_tb, Bool.and_eq_true, decide_eq_true_eq] at hj
      rw [h.2 j hj.2.1 hj.1] at hj
      exact absurd hj.2.2 (by decide)
theorem p2n {t n : Nat} (hn : n ≤ 8) (ht : t < 2 ^ n) : t < 256 := Nat.lt_of_lt_of_le ht (pn8 hn)
theorem mrd_rdy {n : Nat} {B : Nat → Nat → Nat} (hn : n ≤ 8) {t : Nat} (ht : t < 2 ^ n) : mrd B t n = rdy B t := by
  have h8 := p2n hn ht
  refine Nat.eq_of_testBit_eq fun i => ?_
  have e : (mrd B t n).testBit i = true ↔ (rdy B t).testBit i = true := by
    rw [mrd_bit h8, rdy_bit h8]
    constructor
    · intro h
      refine ⟨h.1, fun j hj hb => ?_⟩
      rcases Nat.lt_or_ge j n with q | q
      · exact h.2 j q hb
      · rw [Nat.testBit_lt_two_pow (Nat.lt_of_lt_of_le ht (Nat.pow_le_pow_right (by decide) q))] at hb
        exact absurd hb (by decide)
    · intro h
      exact ⟨h.1, fun j hj => h.2 j (by omega)⟩
  cases h1 : (mrd B t n).testBit i <;> cases h2 : (rdy B t).testBit i
  · rfl
  · rw [h1, h2] at e; exact absurd (e.mpr rfl) (by decide)
  · rw [h1, h2] at e; exact absurd (e.mp rfl) (by decide)
  · rfl
/-- bits of 256 * a + b -/
theorem b256 {a b : Nat} (hb : b < 256) (i : Nat) : (256 * a + b).testBit i = if i < 8 then b.testBit i else a.testBit (i - 8) := Nat.testBit_two_pow_mul_add a (i := 8) hb i
theorem mf_eq {x : Nat} : mf x = 256 * (x % 64) + x / 64 := rfl
theorem mf_tb {x : Nat} (hx : x < 16384) (i : Nat) : (mf x).testBit i = if i < 8 then (x / 64).testBit i else (x % 64).testBit (i - 8) := b256 (by omega) i
theorem pow_div2 {a : Nat} : 256 * 2 ^ (a / 2) = 2 ^ (8 + a / 2) := by rw [Nat.pow_add]
theorem zi_ebit {a : Nat} (ha : a < 12) : (nI 256) <<< (nI (a / 2) &&& 31) = nI (2 ^ (8 + a / 2)) := by
  have h : 2 ^ (a / 2) < 2 ^ 6 := Nat.pow_lt_pow_right (by decide) (by omega)
  rw [pk_shlN _ (a / 2) (s_l _ (by omega)) (by omega), pow_div2]
theorem zi_dv2 {a : Nat} (ha : a < 12) : nI a / nI 2 = nI (a / 2) := pk_div (by omega) (by decide) (by decide)
theorem zi_rm2 {a : Nat} (ha : a < 12) : nI a - nI a / nI 2 * nI 2 = nI (a % 2) := pk_rem (by omega) (by decide) (by decide)
def bhk (B : Nat → Nat → Nat) (x a k : Nat) : Nat := (mf x ^^^ 2 ^ (8 + a / 2)) ||| mks (fun i => decide (B i 3 = 1) && decide (B i 0 = a)) k
theorem bhk_lt {B : Nat → Nat → Nat} {x a k : Nat} (hx : x < 16384) (ha : a < 12) (hk : k ≤ 8) : bhk B x a k < 16384 := by
  have h1 : mf x < 2 ^ 14 := mf_lt hx
  have h2 : 2 ^ (8 + a / 2) < 2 ^ 14 := Nat.pow_lt_pow_right (by decide) (by omega)
  have h3 : mks (fun i => decide (B i 3 = 1) && decide (B i 0 = a)) k < 2 ^ 14 := Nat.lt_of_lt_of_le (mks_lt _ k) (Nat.pow_le_pow_right (by decide) (by omega))
  exact Nat.or_lt_two_pow (n := 14) (Nat.xor_lt_two_pow (n := 14) h1 h2) h3
theorem bhk_1 {B : Nat → Nat → Nat} {x a k : Nat} (h3 : B k 3 = 1) (h0 : B k 0 = a) : bhk B x a k ||| 2 ^ k = bhk B x a (k + 1) := by
  unfold bhk
  rw [mks, h3, h0, if_pos (by simp), Nat.or_assoc]
theorem bhk_0 {B : Nat → Nat → Nat} {x a k : Nat} (h : ¬ (B k 3 = 1 ∧ B k 0 = a)) : bhk B x a k = bhk B x a (k + 1) := by
  unfold bhk
  rw [mks, if_neg (by simpa using h), Nat.or_zero]
theorem bhk_end {n : Nat} {B : Nat → Nat → Nat} (hB : gB n B) {x a : Nat} (hx : x < 16384) (ha : a < 12) (hc : ¬ x.testBit (a / 2) = decide (a % 2 = 1)) : bhk B x a n = mf (chg B x a) := by
  have e : mks (fun i => decide (B i 3 = 1) && decide (B i 0 = a)) n = lis B a := by
    refine Nat.eq_of_testBit_eq fun i => ?_
    unfold lis
    rw [mks_bit, mks_bit]
    rcases Nat.lt_or_ge i n with q | q
    · have q8 : i < 8 := Nat.lt_of_lt_of_le q hB.1
      rw [decide_eq_true q, decide_eq_true q8]
    · rw [decide_eq_false (by omega), Bool.false_and]
      rcases Nat.lt_or_ge i 8 with q2 | q2
      · rw [(hB.2.2.1 i q q2).1]; simp
      · rw [decide_eq_false (by omega), Bool.false_and]
  have hl := lis_lt B a
  have h1 : x / 64 ||| lis B a < 256 := Nat.or_lt_two_pow (n := 8) (by omega) hl
  have h2 : x % 64 ^^^ 2 ^ (a / 2) < 64 := Nat.xor_lt_two_pow (n := 6) (by omega) (pow_lt6 (by omega))
  unfold bhk chg
  rw [e, if_neg hc, mf_of h2]
  refine Nat.eq_of_testBit_eq fun i => ?_
  rw [b256 h1, Nat.testBit_or, Nat.testBit_xor, mf_tb hx, Nat.testBit_or, Nat.testBit_xor, Nat.testBit_two_pow, Nat.testBit_two_pow]
  rcases Nat.lt_or_ge i 8 with q | q
  · rw [if_pos q, if_pos q, decide_eq_false (by omega), Bool.xor_false]
  · rw [if_neg (by omega), if_neg (by omega), t8 hl q, Bool.or_false]
    congr 1
    exact decide_eq_decide.mpr (by omega)
theorem bhk_same {B : Nat → Nat → Nat} {x a : Nat} (hc : x.testBit (a / 2) = decide (a % 2 = 1)) : mf x = mf (chg B x a) := by
  unfold chg
  rw [if_pos hc]
/-- playing: the rule's own bit -/
theorem mf_clr {x i : Nat} (hx : x < 16384) (hi : i < 8) : nI (mf x) &&& (nI (2 ^ i) ^^^ (-1)) = nI (mf (64 * clr (x / 64) i + x % 64)) := by
  have hc := clr_lt (x / 64) i
  rw [mf_of (Nat.mod_lt _ (by decide))]
  refine b_ext fun j hj => ?_
  rw [b_and, b_xor, b_m1 j hj, zi_bt hj, zi_bt hj, zi_bt hj, b256 hc, mf_tb hx, Nat.testBit_two_pow, Bool.xor_true]
  rcases Nat.lt_or_ge j 8 with h | h
  · rw [if_pos h, if_pos h]
    unfold clr
    rw [mks_bit, decide_eq_true h, Bool.true_and]
    by_cases h2 : i = j
    · subst h2; simp
    · have h3 : j ≠ i := fun e => h2 e.symm
      simp [h2, h3]
  · rw [if_neg (by omega), if_neg (by omega), decide_eq_false (by omega)]
    simp
theorem hol_iff {B : Nat → Nat → Nat} {i f : Nat} (h1 : B i 1 < 256) : hol B i f = true ↔ adn (B i 1) f = 0 ∧ B i 2 &&& f = 0 := by
  unfold hol
  rw [Bool.and_eq_true, decide_eq_true_eq, decide_eq_true_eq, Nat.and_comm f (B i 2)]
  have e : f &&& B i 1 = B i 1 ↔ adn (B i 1) f = 0 := by
    constructor
    · intro h
      refine Nat.eq_of_testBit_eq fun j => ?_
      rw [adn_bit h1, Nat.zero_testBit, ← h, Nat.testBit_and]
      cases f.testBit j <;> cases (B i 1).testBit j <;> rfl
    · intro h
      refine Nat.eq_of_testBit_eq fun j => ?_
      have h2 : (adn (B i 1) f).testBit j = false := by rw [h, Nat.zero_testBit]
      rw [adn_bit h1] at h2
      rw [Nat.testBit_and]
      cases h3 : (B i 1).testBit j
      · rw [Bool.and_false]
      · rw [h3] at h2
        cases h4 : f.testBit j
        · rw [h4] at h2; exact absurd h2 (by decide)
        · rfl
  rw [e]
