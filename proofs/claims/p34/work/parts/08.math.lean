/-! The rules as numbers: B i 0 the event, B i 1 must, B i 2 mustNot, B i 3 on, B i 4 the number of actions, B i 5 the rules below, B i (6 + k) action k. A situation of the analyzer: 64 * triggered + facts. -/
def mks (p : Nat → Bool) : Nat → Nat
  | 0 => 0
  | k + 1 => mks p k ||| (if p k then 2 ^ k else 0)
theorem mks_bit (p : Nat → Bool) : ∀ k i, (mks p k).testBit i = (decide (i < k) && p i)
  | 0, i => by simp [mks]
  | k + 1, i => by
    unfold mks
    rw [Nat.testBit_or, mks_bit p k i]
    by_cases h : p k
    · rw [if_pos h, Nat.testBit_two_pow]
      by_cases h2 : k = i
      · subst h2; simp [h]
      · have e : decide (i < k + 1) = decide (i < k) := by
          by_cases h3 : i < k
          · rw [decide_eq_true h3, decide_eq_true (by omega)]
          · rw [decide_eq_false h3, decide_eq_false (by omega)]
        rw [e, decide_eq_false h2, Bool.or_false]
    · rw [if_neg h, Nat.zero_testBit, Bool.or_false]
      by_cases h2 : i = k
      · subst h2; simp [h]
      · have e : decide (i < k + 1) = decide (i < k) := by
          by_cases h3 : i < k
          · rw [decide_eq_true h3, decide_eq_true (by omega)]
          · rw [decide_eq_false h3, decide_eq_false (by omega)]
        rw [e]
theorem mks_lt (p : Nat → Bool) (k : Nat) : mks p k < 2 ^ k := by
  refine Nat.lt_pow_two_of_testBit _ (fun i hi => ?_)
  rw [mks_bit, decide_eq_false (by omega), Bool.false_and]
theorem mks_cong {p q : Nat → Bool} : ∀ {k : Nat}, (∀ i, i < k → p i = q i) → mks p k = mks q k
  | 0, _ => rfl
  | k + 1, h => by unfold mks; rw [mks_cong (fun i hi => h i (by omega)), h k (by omega)]
def orf (g : Nat → Nat) : Nat → Nat
  | 0 => 0
  | k + 1 => orf g k ||| g k
def clr (t i : Nat) : Nat := mks (fun j => t.testBit j && decide (j ≠ i)) 8
def lis (B : Nat → Nat → Nat) (e : Nat) : Nat := mks (fun i => decide (B i 3 = 1) && decide (B i 0 = e)) 8
def abv (B : Nat → Nat → Nat) (i : Nat) : Nat := mks (fun j => (B j 5).testBit i) 8
def sfm (B : Nat → Nat → Nat) (i : Nat) : Nat := orf (fun k => if B i (6 + k) % 2 = 1 then 2 ^ (B i (6 + k) / 2) else 0) (B i 4)
def ufm (B : Nat → Nat → Nat) (i : Nat) : Nat := orf (fun k => if B i (6 + k) % 2 = 1 then 0 else 2 ^ (B i (6 + k) / 2)) (B i 4)
def hol (B : Nat → Nat → Nat) (i f : Nat) : Bool := decide (f &&& B i 1 = B i 1) && decide (f &&& B i 2 = 0)
def chg (B : Nat → Nat → Nat) (x a : Nat) : Nat := if x.testBit (a / 2) = decide (a % 2 = 1) then x else 64 * (x / 64 ||| lis B a) + (x % 64 ^^^ 2 ^ (a / 2))
def plys (B : Nat → Nat → Nat) (i y : Nat) : Nat → Nat
  | 0 => y
  | k + 1 => chg B (plys B i y k) (B i (6 + k))
def ply (B : Nat → Nat → Nat) (i x : Nat) : Nat := if hol B i (x % 64) then plys B i (64 * clr (x / 64) i + x % 64) (B i 4) else 64 * clr (x / 64) i + x % 64
def rdy1 (B : Nat → Nat → Nat) (i t : Nat) : Bool := t.testBit i && decide (t &&& abv B i = 0)
def rdy (B : Nat → Nat → Nat) (t : Nat) : Nat := mks (fun i => rdy1 B i t) 8
def gB (n : Nat) (B : Nat → Nat → Nat) : Prop := n ≤ 8 ∧ (∀ i, i < 8 → B i 0 < 12 ∧ B i 1 < 64 ∧ B i 2 < 64 ∧ B i 3 ≤ 1 ∧ B i 4 ≤ 4 ∧ B i 5 < 256 ∧ ∀ k, k < 4 → B i (6 + k) < 12) ∧ (∀ i, n ≤ i → i < 8 → B i 3 = 0 ∧ B i 4 = 0 ∧ B i 5 = 0 ∧ ∀ j, j < 8 → (B j 5).testBit i = false) ∧ (∀ i, i < 8 → (B i 5).testBit i = false) ∧ ∀ i j k, i < 8 → j < 8 → k < 8 → (B i 5).testBit j = true → (B j 5).testBit k = true → (B i 5).testBit k = true
def xR (u : xS) (n : Nat) (B : Nat → Nat → Nat) : Prop :=
  gB n B ∧ u.1 16 2 = nI n ∧ (∀ i, i < 8 → u.1 i 2 = nI (B i 0) ∧ u.1 i 3 = nI (B i 1) ∧ u.1 i 4 = nI (B i 2) ∧ u.1 i 5 = nI (B i 3) ∧ u.1 i 6 = nI (B i 4) ∧ u.1 i 7 = nI (sfm B i) ∧ u.1 i 8 = nI (ufm B i) ∧ u.1 i 9 = nI (B i 5) ∧ u.1 i 10 = nI (abv B i) ∧ ∀ k, k < B i 4 → u.1 (8 + i) k = nI (B i (6 + k))) ∧ ∀ e, e < 12 → u.1 18 e = nI (lis B e)
/-- Int32 of small numbers -/
theorem zi_0 {n : Nat} (h : n < 2 ^ 31) : nI n = 0 ↔ n = 0 := nI_eq h (by decide)
theorem zi_bv (n : Nat) : (nI n).toBitVec = BitVec.ofNat 32 n := rfl
theorem zi_bt {n i : Nat} (h : i < 32) : bt (nI n) i = n.testBit i := by
  unfold bt
  rw [zi_bv, BitVec.getLsbD_ofNat]
  simp [h]
theorem zi_shl1 {k : Nat} (hk : k < 31) : (1 : Int32) <<< (nI k &&& 31) = nI (2 ^ k) := by
  refine b_ext fun i hi => ?_
  rw [b_shl k (by omega) 1 hi, zi_bt hi, Nat.testBit_two_pow]
  rcases Nat.lt_or_ge i k with h | h
  · rw [decide_eq_false (by omega), Bool.false_and, decide_eq_false (by omega)]
  · rw [decide_eq_true h, Bool.true_and, show (1 : Int32) = nI (2 ^ 0) from rfl, zi_bt (by omega), Nat.testBit_two_pow]
    by_cases h2 : k = i
    · rw [decide_eq_true h2, decide_eq_true (by omega)]
    · rw [decide_eq_false h2, decide_eq_false (by omega)]
theorem zi_facts (x : Nat) : nI x &&& 63 = nI (x % 64) := fa_mask x 6
theorem zi_trig {x : Nat} (h : x < 2 ^ 31) : nI x >>> ((6 : Int32) &&& 31) = nI (x / 64) := pk_shrN h _ 6 (by decide)
theorem zi_half {x : Nat} (h : x < 2 ^ 31) : nI x >>> ((1 : Int32) &&& 31) = nI (x / 2) := pk_shrN h _ 1 (by decide)
theorem zi_sit {t f : Nat} (hf : f < 64) (ht : t < 65536) : nI t <<< ((6 : Int32) &&& 31) ||| nI f = nI (64 * t + f) := by
  rw [pk_shlN _ 6 (by decide) (by omega), Nat.mul_comm t]
  exact fa_or_sum (k := 6) t hf
theorem zi_clr {t i : Nat} (ht : t < 256) (hi : i < 8) : nI t &&& (nI (2 ^ i) ^^^ (-1)) = nI (clr t i) := by
  refine b_ext fun j hj => ?_
  rw [b_and, b_xor, b_m1 j hj, zi_bt hj, zi_bt hj, zi_bt hj, clr, mks_bit, Nat.testBit_two_pow]
  rcases Nat.lt_or_ge j 8 with h | h
  · rw [decide_eq_true h, Bool.true_and]
    by_cases h2 : i = j
    · subst h2; simp
    · have h3 : j ≠ i := fun e => h2 e.symm
      simp [h2, h3]
  · have e : t.testBit j = false := Nat.testBit_lt_two_pow (Nat.lt_of_lt_of_le ht (Nat.pow_le_pow_right (by decide : 0 < 2) (by omega : 8 ≤ j)))
    rw [e]; simp
theorem zi_b01 (b : Prop) [Decidable b] : vp_nar .boolean (if b then 1 else 0) = if b then 1 else 0 := by
  by_cases h : b <;> simp [h] <;> rfl
theorem clr_lt (t i : Nat) : clr t i < 256 := mks_lt _ 8
theorem lis_lt (B : Nat → Nat → Nat) (e : Nat) : lis B e < 256 := mks_lt _ 8
theorem abv_lt (B : Nat → Nat → Nat) (i : Nat) : abv B i < 256 := mks_lt _ 8
theorem rdy_lt (B : Nat → Nat → Nat) (t : Nat) : rdy B t < 256 := mks_lt _ 8
theorem xR_n {u : xS} {n : Nat} {B : Nat → Nat → Nat} (h : xR u n B) : u.1 16 2 = nI n := h.2.1
theorem xR_2 {u : xS} {n : Nat} {B : Nat → Nat → Nat} (h : xR u n B) {i : Nat} (hi : i < 8) : u.1 i 2 = nI (B i 0) := (h.2.2.1 i hi).1
theorem xR_3 {u : xS} {n : Nat} {B : Nat → Nat → Nat} (h : xR u n B) {i : Nat} (hi : i < 8) : u.1 i 3 = nI (B i 1) := (h.2.2.1 i hi).2.1
theorem xR_4 {u : xS} {n : Nat} {B : Nat → Nat → Nat} (h : xR u n B) {i : Nat} (hi : i < 8) : u.1 i 4 = nI (B i 2) := (h.2.2.1 i hi).2.2.1
theorem xR_5 {u : xS} {n : Nat} {B : Nat → Nat → Nat} (h : xR u n B) {i : Nat} (hi : i < 8) : u.1 i 5 = nI (B i 3) := (h.2.2.1 i hi).2.2.2.1
theorem xR_6 {u : xS} {n : Nat} {B : Nat → Nat → Nat} (h : xR u n B) {i : Nat} (hi : i < 8) : u.1 i 6 = nI (B i 4) := (h.2.2.1 i hi).2.2.2.2.1
theorem xR_7 {u : xS} {n : Nat} {B : Nat → Nat → Nat} (h : xR u n B) {i : Nat} (hi : i < 8) : u.1 i 7 = nI (sfm B i) := (h.2.2.1 i hi).2.2.2.2.2.1
theorem xR_8 {u : xS} {n : Nat} {B : Nat → Nat → Nat} (h : xR u n B) {i : Nat} (hi : i < 8) : u.1 i 8 = nI (ufm B i) := (h.2.2.1 i hi).2.2.2.2.2.2.1
theorem xR_9 {u : xS} {n : Nat} {B : Nat → Nat → Nat} (h : xR u n B) {i : Nat} (hi : i < 8) : u.1 i 9 = nI (B i 5) := (h.2.2.1 i hi).2.2.2.2.2.2.2.1
theorem xR_10 {u : xS} {n : Nat} {B : Nat → Nat → Nat} (h : xR u n B) {i : Nat} (hi : i < 8) : u.1 i 10 = nI (abv B i) := (h.2.2.1 i hi).2.2.2.2.2.2.2.2.1
theorem xR_a {u : xS} {n : Nat} {B : Nat → Nat → Nat} (h : xR u n B) {i k : Nat} (hi : i < 8) (hk : k < B i 4) : u.1 (8 + i) k = nI (B i (6 + k)) := (h.2.2.1 i hi).2.2.2.2.2.2.2.2.2 k hk
theorem xR_l {u : xS} {n : Nat} {B : Nat → Nat → Nat} (h : xR u n B) {e : Nat} (he : e < 12) : u.1 18 e = nI (lis B e) := h.2.2.2 e he
theorem gB_8 {n : Nat} {B : Nat → Nat → Nat} (h : gB n B) : n ≤ 8 := h.1
theorem gB_0 {n : Nat} {B : Nat → Nat → Nat} (h : gB n B) {i : Nat} (hi : i < 8) : B i 0 < 12 := (h.2.1 i hi).1
theorem gB_1 {n : Nat} {B : Nat → Nat → Nat} (h : gB n B) {i : Nat} (hi : i < 8) : B i 1 < 64 := (h.2.1 i hi).2.1
theorem gB_2 {n : Nat} {B : Nat → Nat → Nat} (h : gB n B) {i : Nat} (hi : i < 8) : B i 2 < 64 := (h.2.1 i hi).2.2.1
theorem gB_3 {n : Nat} {B : Nat → Nat → Nat} (h : gB n B) {i : Nat} (hi : i < 8) : B i 3 ≤ 1 := (h.2.1 i hi).2.2.2.1
theorem gB_4 {n : Nat} {B : Nat → Nat → Nat} (h : gB n B) {i : Nat} (hi : i < 8) : B i 4 ≤ 4 := (h.2.1 i hi).2.2.2.2.1
theorem gB_5 {n : Nat} {B : Nat → Nat → Nat} (h : gB n B) {i : Nat} (hi : i < 8) : B i 5 < 256 := (h.2.1 i hi).2.2.2.2.2.1
theorem gB_6 {n : Nat} {B : Nat → Nat → Nat} (h : gB n B) {i k : Nat} (hi : i < 8) (hk : k < 4) : B i (6 + k) < 12 := (h.2.1 i hi).2.2.2.2.2.2 k hk
theorem z1f {P : Prop} [Decidable P] (c : (if P then (1 : Int32) else 0) = 0) : ¬ P := fun h => by rw [if_pos h] at c; exact absurd c (by decide)
theorem z1t {P : Prop} [Decidable P] (c : ¬ (if P then (1 : Int32) else 0) = 0) : P := by
  by_cases h : P
  · exact h
  · rw [if_neg h] at c; exact absurd rfl c
theorem zi_bitT {n j : Nat} (hj : j < 31) (c : ¬ nI (n &&& 2 ^ j) = 0) : n.testBit j = true := by
  rw [← fa_and] at c
  cases h : n.testBit j with
  | true => rfl
  | false => exact absurd ((fa_bit hj).mpr h) c
theorem zi_bitF {n j : Nat} (hj : j < 31) (c : nI (n &&& 2 ^ j) = 0) : n.testBit j = false := by
  rw [← fa_and] at c
  exact (fa_bit hj).mp c
theorem and_lt {a b m : Nat} (h : b < m) : a &&& b < m := Nat.lt_of_le_of_lt Nat.and_le_right h
theorem sfm_lt {n : Nat} {B : Nat → Nat → Nat} (h : gB n B) {i : Nat} (hi : i < 8) : sfm B i < 64 ∧ ufm B i < 64 := by
  have key : ∀ (g : Nat → Nat) (k : Nat), (∀ j, j < k → g j < 64) → orf g k < 64 := by
    intro g k
    induction k with
    | zero => intro _; exact (by decide : 0 < 64)
    | succ k ih => intro hg; exact Nat.or_lt_two_pow (n := 6) (ih fun j hj => hg j (by omega)) (hg k (by omega))
  have p6 : ∀ k, k < B i 4 → 2 ^ (B i (6 + k) / 2) < 64 := fun k hk => by
    have h1 : B i (6 + k) < 12 := gB_6 h hi (by have := gB_4 h hi; omega)
    exact Nat.pow_lt_pow_right (m := B i (6 + k) / 2) (n := 6) (by decide) (by omega)
  refine ⟨key _ _ fun j hj => ?_, key _ _ fun j hj => ?_⟩
  · show (if _ then _ else _) < 64
    split
    · exact p6 j hj
    · decide
  · show (if _ then _ else _) < 64
    split
    · decide
    · exact p6 j hj
theorem zge_t {a b : Nat} (ha : a < 2 ^ 31) (hb : b < 2 ^ 31) (c : nI b ≤ nI a) : b ≤ a := (nI_leI hb ha).mp c
theorem zge_f {a b : Nat} (ha : a < 2 ^ 31) (hb : b < 2 ^ 31) (c : ¬ nI b ≤ nI a) : a < b := Nat.lt_of_not_le (fun h => c ((nI_leI hb ha).mpr h))
theorem zlt_t {a b : Nat} (ha : a < 2 ^ 31) (hb : b < 2 ^ 31) (c : nI a < nI b) : a < b := (nI_ltI ha hb).mp c
theorem zlt_f {a b : Nat} (ha : a < 2 ^ 31) (hb : b < 2 ^ 31) (c : ¬ nI a < nI b) : b ≤ a := Nat.le_of_not_lt (fun h => c ((nI_ltI ha hb).mpr h))
theorem zeq_t {a b : Nat} (ha : a < 2 ^ 31) (hb : b < 2 ^ 31) (c : nI a = nI b) : a = b := (nI_eq ha hb).mp c
theorem zeq_f {a b : Nat} (c : ¬ nI a = nI b) : a ≠ b := fun h => c (by rw [h])
theorem z0_t {a : Nat} (ha : a < 2 ^ 31) (c : nI a = 0) : a = 0 := (zi_0 ha).mp c
theorem z0_f {a : Nat} (c : ¬ nI a = 0) : a ≠ 0 := fun h => c (by rw [h]; rfl)
theorem zneg {a : Nat} (ha : a < 2 ^ 31) (c : nI a < 0) : False := nI_pos ha c
theorem znonneg {a : Nat} (ha : a < 2 ^ 31) (c : ¬ 0 ≤ nI a) : False := c (nI_pos' ha)
theorem zpos_t {a : Nat} (ha : a < 2 ^ 31) (c : 0 < nI a) : 0 < a := zlt_t (a := 0) (by decide) ha c
theorem zpos_f {a : Nat} (ha : a < 2 ^ 31) (c : ¬ 0 < nI a) : a = 0 := by have := zlt_f (a := 0) (by decide) ha c; omega
theorem zle0_t {a : Nat} (ha : a < 2 ^ 31) (c : nI a ≤ 0) : a = 0 := by have := zge_t (b := a) (a := 0) (by decide) ha c; omega
theorem zle0_f {a : Nat} (ha : a < 2 ^ 31) (c : ¬ nI a ≤ 0) : 0 < a := zge_f (b := a) (a := 0) (by decide) ha c
/-- the checksum's part of one rule, and of all -/
def dact (B : Nat → Nat → Nat) (i : Nat) (d : Int64) : Nat → Int64
  | 0 => d
  | k + 1 => dact B i d k * 31 + (nI (B i (6 + k))).toInt64
def drul (B : Nat → Nat → Nat) (i : Nat) (s : Int64) : Int64 := (dact B i ((((s * 31 + (nI (B i 0)).toInt64) * 31 + (nI (B i 1)).toInt64) * 31 + (nI (B i 2)).toInt64) * 31 + (nI (B i 4)).toInt64) (B i 4) * 31 + (nI (B i 3)).toInt64) * 31 + (nI (B i 5)).toInt64
def dbok (B : Nat → Nat → Nat) (s : Int64) : Nat → Int64
  | 0 => s
  | k + 1 => drul B k (dbok B s k)
/-- the rules that a rule's first k actions are events of -/
def trgs (B : Nat → Nat → Nat) (i : Nat) : Nat → Nat
  | 0 => 0
  | k + 1 => trgs B i k ||| lis B (B i (6 + k))
def trg (B : Nat → Nat → Nat) (i : Nat) : Nat := if B i 3 = 0 then 0 else trgs B i (B i 4)
theorem trgs_lt (B : Nat → Nat → Nat) (i : Nat) : ∀ k, trgs B i k < 256
  | 0 => (by decide : 0 < 256)
  | k + 1 => Nat.or_lt_two_pow (n := 8) (trgs_lt B i k) (lis_lt _ _)
theorem trg_lt (B : Nat → Nat → Nat) (i : Nat) : trg B i < 256 := by
  unfold trg
  split
  · decide
  · exact trgs_lt B i _
theorem pow_lt8 {i : Nat} (hi : i < 8) : 2 ^ i < 256 := Nat.pow_lt_pow_right (m := i) (n := 8) (by decide) hi
theorem pow_lt6 {i : Nat} (hi : i < 6) : 2 ^ i < 64 := Nat.pow_lt_pow_right (m := i) (n := 6) (by decide) hi
theorem chg_lt {B : Nat → Nat → Nat} {x a : Nat} (hx : x < 16384) (ha : a < 12) : chg B x a < 16384 := by
  unfold chg
  split
  · exact hx
  · have h1 : x / 64 ||| lis B a < 256 := Nat.or_lt_two_pow (n := 8) (by omega) (lis_lt B a)
    have h2 : x % 64 ^^^ 2 ^ (a / 2) < 64 := Nat.xor_lt_two_pow (n := 6) (by omega) (pow_lt6 (by omega))
    omega
theorem plys_lt {n : Nat} {B : Nat → Nat → Nat} (h : gB n B) {i y : Nat} (hi : i < 8) (hy : y < 16384) : ∀ k, k ≤ B i 4 → plys B i y k < 16384
  | 0, _ => hy
  | k + 1, hk => chg_lt (plys_lt h hi hy k (by omega)) (gB_6 h hi (by have := gB_4 h hi; omega))
theorem ply_lt {n : Nat} {B : Nat → Nat → Nat} (h : gB n B) {i x : Nat} (hi : i < 8) (hx : x < 16384) : ply B i x < 16384 := by
  have h0 : 64 * clr (x / 64) i + x % 64 < 16384 := by have := clr_lt (x / 64) i; omega
  unfold ply
  split
  · exact plys_lt h hi h0 _ (Nat.le_refl _)
  · exact h0
def ord1 (v : xS) (up lo k : Nat) : xS := if up.testBit k = true then xs v k 9 (v.1 k 9 ||| nI lo) else v
def ord2 (v : xS) (up lo k : Nat) : xS := if lo.testBit k = true then xs v k 10 (v.1 k 10 ||| nI up) else v
def ordS (u : xS) (up lo : Nat) : Nat → xS
  | 0 => u
  | k + 1 => ord2 (ord1 (ordS u up lo k) up lo k) up lo k
theorem lis_bits {n : Nat} {B : Nat → Nat → Nat} (h : gB n B) (e : Nat) : lis B e < 2 ^ n := by
  refine Nat.lt_pow_two_of_testBit _ (fun i hi => ?_)
  unfold lis
  rw [mks_bit]
  rcases Nat.lt_or_ge i 8 with q | q
  · have := (h.2.2.1 i hi q).1
    rw [decide_eq_true q, this]; rfl
  · rw [decide_eq_false (by omega), Bool.false_and]
theorem clr_bits {t i n : Nat} (ht : t < 2 ^ n) : clr t i < 2 ^ n := by
  refine Nat.lt_pow_two_of_testBit _ (fun j hj => ?_)
  unfold clr
  rw [mks_bit, Nat.testBit_lt_two_pow (Nat.lt_of_lt_of_le ht (Nat.pow_le_pow_right (by decide) hj)), Bool.false_and, Bool.and_false]
theorem chg_bits {n : Nat} {B : Nat → Nat → Nat} (h : gB n B) {x a : Nat} (hx : x < 64 * 2 ^ n) (ha : a < 12) : chg B x a < 64 * 2 ^ n := by
  unfold chg
  split
  · exact hx
  · have h0 : x / 64 < 2 ^ n := by omega
    have h1 : x / 64 ||| lis B a < 2 ^ n := Nat.or_lt_two_pow h0 (lis_bits h a)
    have h2 : x % 64 ^^^ 2 ^ (a / 2) < 64 := Nat.xor_lt_two_pow (n := 6) (by omega) (pow_lt6 (by omega))
    omega
theorem plys_bits {n : Nat} {B : Nat → Nat → Nat} (h : gB n B) {i y : Nat} (hi : i < 8) (hy : y < 64 * 2 ^ n) : ∀ k, k ≤ B i 4 → plys B i y k < 64 * 2 ^ n
  | 0, _ => hy
  | k + 1, hk => chg_bits h (plys_bits h hi hy k (by omega)) (gB_6 h hi (by have := gB_4 h hi; omega))
theorem ply_bits {n : Nat} {B : Nat → Nat → Nat} (h : gB n B) {i x : Nat} (hi : i < 8) (hx : x < 64 * 2 ^ n) : ply B i x < 64 * 2 ^ n := by
  have hc : clr (x / 64) i < 2 ^ n := clr_bits (by omega)
  have h0 : 64 * clr (x / 64) i + x % 64 < 64 * 2 ^ n := by omega
  unfold ply
  split
  · exact plys_bits h hi h0 _ (Nat.le_refl _)
  · exact h0
