/-! Judging, from the rules alone. -/
def war (B : Nat → Nat → Nat) : Nat → Nat → Nat
  | 0, i => trg B i
  | k + 1, i => if (war B k i).testBit k = true then war B k i ||| war B k k else war B k i
theorem war_kk (B : Nat → Nat → Nat) (k : Nat) : war B (k + 1) k = war B k k := by
  show (if (war B k k).testBit k = true then war B k k ||| war B k k else war B k k) = war B k k
  split
  · exact Nat.or_self _
  · rfl
theorem war_lt (B : Nat → Nat → Nat) : ∀ k i, war B k i < 256
  | 0, i => trg_lt B i
  | k + 1, i => by
    show (if (war B k i).testBit k = true then war B k i ||| war B k k else war B k i) < 256
    split
    · exact Nat.or_lt_two_pow (n := 8) (war_lt B k i) (war_lt B k k)
    · exact war_lt B k i
def cirs (B : Nat → Nat → Nat) : Nat → Nat
  | 0 => 0
  | i + 1 => cirs B i ||| (war B 8 i &&& 2 ^ i)
theorem trg_off {n : Nat} {B : Nat → Nat → Nat} (h : gB n B) {i : Nat} (hi : i < 8) (hn : n ≤ i) : trg B i = 0 := if_pos (h.2.2.1 i hn hi).1
def jFr (u w : xS) : Prop := (∀ q, q ≠ 20 → w.1 q = u.1 q) ∧ w.2 = u.2
theorem jFr_rf (u : xS) : jFr u u := ⟨fun _ _ => rfl, rfl⟩
theorem jFr_s {u w : xS} (h : jFr u w) {j : Nat} {v : Int32} : jFr u (xs w 20 j v) := ⟨fun q hq => by rw [xs_r hq]; exact h.1 q hq, by rw [xs_2]; exact h.2⟩
theorem xR_jFr {u w : xS} {n : Nat} {B : Nat → Nat → Nat} (h : xR u n B) (hf : jFr u w) : xR w n B := by
  obtain ⟨h1, h2, h3, h4⟩ := h
  refine ⟨h1, by rw [hf.1 16 (by decide)]; exact h2, fun i hi => ?_, fun e he => by rw [hf.1 18 (by decide)]; exact h4 e he⟩
  rw [hf.1 i (by omega), hf.1 (8 + i) (by omega)]
  exact h3 i hi
def com (B : Nat → Nat → Nat) (i j : Nat) : Bool := decide (B i 3 = 0) || decide (B j 3 = 0) || (decide ((trg B i ||| trg B j) &&& (2 ^ i ||| 2 ^ j) = 0) && decide ((sfm B i ||| ufm B i) &&& (B j 1 ||| B j 2) = 0) && decide ((sfm B j ||| ufm B j) &&& (B i 1 ||| B i 2) = 0) && decide (sfm B i &&& ufm B j = 0) && decide (ufm B i &&& sfm B j = 0))
def cnf (B : Nat → Nat → Nat) (i j : Nat) : Bool := !(B i 5).testBit j && !(B j 5).testBit i && !com B i j
theorem cnf_off1 {n : Nat} {B : Nat → Nat → Nat} (h : gB n B) {i j : Nat} (hi : i < 8) (hn : n ≤ i) : cnf B i j = false := by
  unfold cnf com
  rw [decide_eq_true (h.2.2.1 i hn hi).1]; simp
theorem cnf_off2 {n : Nat} {B : Nat → Nat → Nat} (h : gB n B) {i j : Nat} (hj : j < 8) (hn : n ≤ j) : cnf B i j = false := by
  unfold cnf com
  rw [decide_eq_true (h.2.2.1 j hn hj).1]; simp
def cin (B : Nat → Nat → Nat) (a b : Nat) : Nat := fb_ct (fun b' => decide (a < b') && cnf B a b') b
def cou (B : Nat → Nat → Nat) (a : Nat) : Nat := fb_sm (fun a' => cin B a' 8) a
theorem cin_0 (B : Nat → Nat → Nat) (a : Nat) : cin B a (a + 1) = 0 := fb_ct_zero.mpr fun k hk => by rw [decide_eq_false (by omega)]; rfl
theorem cin_s {B : Nat → Nat → Nat} {a b : Nat} (h : a < b) : cin B a (b + 1) = cin B a b + (if cnf B a b = true then 1 else 0) := by
  unfold cin
  rw [fb_ct_succ, decide_eq_true h, Bool.true_and]
theorem cin_le (B : Nat → Nat → Nat) (a b : Nat) : cin B a b ≤ b := fb_ct_le _ b
theorem cou_le (B : Nat → Nat → Nat) : ∀ a, cou B a ≤ 8 * a
  | 0 => Nat.le_refl 0
  | a + 1 => by
    have h1 := cou_le B a
    have h2 := cin_le B a 8
    show fb_sm (fun a' => cin B a' 8) a + cin B a 8 ≤ 8 * (a + 1)
    have h3 : fb_sm (fun a' => cin B a' 8) a ≤ 8 * a := h1
    omega
theorem cou_s (B : Nat → Nat → Nat) (a : Nat) : cou B (a + 1) = cou B a + cin B a 8 := rfl
theorem war_y {B : Nat → Nat → Nat} {k i : Nat} (h : (war B k i).testBit k = true) : war B (k + 1) i = war B k i ||| war B k k := if_pos h
theorem war_n {B : Nat → Nat → Nat} {k i : Nat} (h : (war B k i).testBit k = false) : war B (k + 1) i = war B k i := if_neg (by rw [h]; decide)
theorem war_if (B : Nat → Nat → Nat) (k i : Nat) : (if k < i then war B (k + 1) k else war B k k) = war B k k := by
  rw [war_kk]; split <;> rfl
