/-! A rank. -/
theorem ord1_at (w : xS) (up lo k q j : Nat) : (ord1 w up lo k).1 q j = if q = k ∧ j = 9 ∧ up.testBit k = true then w.1 k 9 ||| nI lo else w.1 q j := by
  unfold ord1
  by_cases h : up.testBit k = true
  · rw [if_pos h, xs_at]
    by_cases z : q = k ∧ j = 9
    · rw [if_pos z, if_pos ⟨z.1, z.2, h⟩]
    · rw [if_neg z, if_neg (fun y => z ⟨y.1, y.2.1⟩)]
  · rw [if_neg h, if_neg (fun y => h y.2.2)]
theorem ord2_at (w : xS) (up lo k q j : Nat) : (ord2 w up lo k).1 q j = if q = k ∧ j = 10 ∧ lo.testBit k = true then w.1 k 10 ||| nI up else w.1 q j := by
  unfold ord2
  by_cases h : lo.testBit k = true
  · rw [if_pos h, xs_at]
    by_cases z : q = k ∧ j = 10
    · rw [if_pos z, if_pos ⟨z.1, z.2, h⟩]
    · rw [if_neg z, if_neg (fun y => z ⟨y.1, y.2.1⟩)]
  · rw [if_neg h, if_neg (fun y => h y.2.2)]
theorem ordS_at (u : xS) (up lo q j : Nat) : ∀ m, (ordS u up lo m).1 q j = if q < m ∧ j = 9 ∧ up.testBit q = true then u.1 q 9 ||| nI lo else if q < m ∧ j = 10 ∧ lo.testBit q = true then u.1 q 10 ||| nI up else u.1 q j
  | 0 => by rw [if_neg (fun z => absurd z.1 (Nat.not_lt_zero q)), if_neg (fun z => absurd z.1 (Nat.not_lt_zero q))]; rfl
  | m + 1 => by
    show (ord2 (ord1 (ordS u up lo m) up lo m) up lo m).1 q j = _
    rw [ord2_at]
    by_cases z : q = m
    · subst z
      by_cases h10 : j = 10
      · subst h10
        rw [if_neg (show ¬ (q < q + 1 ∧ 10 = 9 ∧ up.testBit q = true) from fun y => absurd y.2.1 (by decide))]
        have hb : (ord1 (ordS u up lo q) up lo q).1 q 10 = u.1 q 10 := by
          rw [ord1_at, if_neg (fun y => absurd y.2.1 (by decide)), ordS_at u up lo q 10 q, if_neg (fun y => absurd y.1 (Nat.lt_irrefl q)), if_neg (fun y => absurd y.1 (Nat.lt_irrefl q))]
        by_cases hl : lo.testBit q = true
        · rw [if_pos ⟨rfl, rfl, hl⟩, if_pos ⟨Nat.lt_succ_self q, rfl, hl⟩, hb]
        · rw [if_neg (fun y => hl y.2.2), if_neg (fun y => hl y.2.2), hb]
      · rw [if_neg (fun y => h10 y.2.1), ord1_at, if_neg (show ¬ (q < q + 1 ∧ j = 10 ∧ lo.testBit q = true) from fun y => h10 y.2.1)]
        have hb : ∀ k, (ordS u up lo q).1 q k = u.1 q k := fun k => by
          rw [ordS_at u up lo q k q, if_neg (fun y => absurd y.1 (Nat.lt_irrefl q)), if_neg (fun y => absurd y.1 (Nat.lt_irrefl q))]
        rw [hb, hb]
        by_cases h9 : j = 9 ∧ up.testBit q = true
        · rw [if_pos ⟨rfl, h9⟩, if_pos ⟨Nat.lt_succ_self q, h9⟩]
        · rw [if_neg (fun y => h9 y.2), if_neg (fun y => h9 y.2)]
    · rw [if_neg (fun y => z y.1), ord1_at, if_neg (fun y => z y.1), ordS_at u up lo q j m]
      have e : (q < m + 1) ↔ (q < m) := by omega
      simp only [e]
def rkB (B : Nat → Nat → Nat) (up lo : Nat) (i j : Nat) : Nat := if j = 5 then B i 5 ||| (if up.testBit i = true then lo else 0) else B i j
theorem rkB_j {B : Nat → Nat → Nat} {up lo i j : Nat} (h : j ≠ 5) : rkB B up lo i j = B i j := if_neg h
theorem rkB_5 (B : Nat → Nat → Nat) (up lo i : Nat) : rkB B up lo i 5 = B i 5 ||| (if up.testBit i = true then lo else 0) := if_pos rfl
theorem rkB_bit (B : Nat → Nat → Nat) (up lo i j : Nat) : (rkB B up lo i 5).testBit j = ((B i 5).testBit j || (up.testBit i && lo.testBit j)) := by
  rw [rkB_5, Nat.testBit_or]
  by_cases h : up.testBit i = true
  · rw [if_pos h, h, Bool.true_and]
  · rw [if_neg h, Bool.eq_false_iff.mpr h, Nat.zero_testBit, Bool.false_and]
theorem abv_bit (B : Nat → Nat → Nat) (a i : Nat) : (abv B a ||| 2 ^ a).testBit i = ((decide (i < 8) && (B i 5).testBit a) || decide (a = i)) := by
  rw [Nat.testBit_or, Nat.testBit_two_pow]
  unfold abv
  rw [mks_bit]
theorem rk_U {B : Nat → Nat → Nat} {a i : Nat} (hi : i < 8) : (abv B a ||| 2 ^ a).testBit i = true ↔ (i = a ∨ (B i 5).testBit a = true) := by
  rw [abv_bit, decide_eq_true hi, Bool.true_and, Bool.or_eq_true, decide_eq_true_iff]
  constructor
  · intro h
    exact h.elim Or.inr (fun z => Or.inl z.symm)
  · intro h
    exact h.elim (fun z => Or.inr z.symm) Or.inl
theorem rk_L {B : Nat → Nat → Nat} {b j : Nat} : (B b 5 ||| 2 ^ b).testBit j = true ↔ (j = b ∨ (B b 5).testBit j = true) := by
  rw [Nat.testBit_or, Nat.testBit_two_pow, Bool.or_eq_true, decide_eq_true_iff]
  constructor
  · intro h
    exact h.elim Or.inr (fun z => Or.inl z.symm)
  · intro h
    exact h.elim (fun z => Or.inr z.symm) Or.inl
theorem rkB_R {B : Nat → Nat → Nat} {a b i j : Nat} (hi : i < 8) : (rkB B (abv B a ||| 2 ^ a) (B b 5 ||| 2 ^ b) i 5).testBit j = true ↔ ((B i 5).testBit j = true ∨ ((i = a ∨ (B i 5).testBit a = true) ∧ (j = b ∨ (B b 5).testBit j = true))) := by
  rw [rkB_bit, Bool.or_eq_true, Bool.and_eq_true, rk_U hi, rk_L]
theorem rkB_gB {n : Nat} {B : Nat → Nat → Nat} (h : gB n B) {a b : Nat} (ha : a < n) (hb : b < n) (hab : ¬ a = b) (hno : (B b 5).testBit a = false) : gB n (rkB B (abv B a ||| 2 ^ a) (B b 5 ||| 2 ^ b)) := by
  obtain ⟨k0, k1, k2, k3, k4⟩ := h
  have ha8 : a < 8 := Nat.lt_of_lt_of_le ha k0
  have hb8 : b < 8 := Nat.lt_of_lt_of_le hb k0
  have hl : B b 5 ||| 2 ^ b < 256 := Nat.or_lt_two_pow (n := 8) (k1 b hb8).2.2.2.2.2.1 (pow_lt8 hb8)
  refine ⟨k0, fun i hi => ?_, fun i hi hi8 => ?_, fun i hi => ?_, fun i j k hi hj hk h1 h2 => ?_⟩
  · obtain ⟨m0, m1, m2, m3, m4, m5, m6⟩ := k1 i hi
    rw [rkB_j (j := 0) (by decide), rkB_j (j := 1) (by decide), rkB_j (j := 2) (by decide), rkB_j (j := 3) (by decide), rkB_j (j := 4) (by decide), rkB_5]
    refine ⟨m0, m1, m2, m3, m4, Nat.or_lt_two_pow (n := 8) m5 ?_, fun k hk => by rw [rkB_j (by omega)]; exact m6 k hk⟩
    split
    · exact hl
    · decide
  · obtain ⟨m3, m4, m5, m6⟩ := k2 i hi hi8
    rw [rkB_j (j := 3) (by decide), rkB_j (j := 4) (by decide)]
    refine ⟨m3, m4, ?_, fun j hj => ?_⟩
    · rw [rkB_5, if_neg, m5]
      · rfl
      · intro z
        rcases (rk_U hi8).mp z with y | y
        · omega
        · rw [m5, Nat.zero_testBit] at y
          exact absurd y (by decide)
    · refine Bool.eq_false_iff.mpr (fun z => ?_)
      rcases (rkB_R hj).mp z with y | ⟨-, y | y⟩
      · rw [m6 j hj] at y
        exact absurd y (by decide)
      · omega
      · rw [m6 b hb8] at y
        exact absurd y (by decide)
  · refine Bool.eq_false_iff.mpr (fun z => ?_)
    have hn2 : ¬ (B b 5).testBit a = true := by rw [hno]; decide
    rcases (rkB_R hi).mp z with y | ⟨y | y, w | w⟩
    · rw [k3 i hi] at y
      exact absurd y (by decide)
    · omega
    · rw [y] at w
      exact hn2 w
    · rw [w] at y
      exact hn2 y
    · exact hn2 (k4 b i a hb8 hi ha8 w y)
  · refine (rkB_R hi).mpr ?_
    rcases (rkB_R hi).mp h1 with y | ⟨y, w⟩
    · rcases (rkB_R hj).mp h2 with y2 | ⟨y2, w2⟩
      · exact Or.inl (k4 i j k hi hj hk y y2)
      · refine Or.inr ⟨Or.inr ?_, w2⟩
        rcases y2 with y3 | y3
        · rw [y3] at y
          exact y
        · exact k4 i j a hi hj ha8 y y3
    · rcases (rkB_R hj).mp h2 with y2 | ⟨y2, w2⟩
      · refine Or.inr ⟨y, Or.inr ?_⟩
        rcases w with w3 | w3
        · rw [w3] at y2
          exact y2
        · exact k4 b j k hb8 hj hk w3 y2
      · exact Or.inr ⟨y, w2⟩
theorem rkB_f (B : Nat → Nat → Nat) (up lo i : Nat) : sfm (rkB B up lo) i = sfm B i ∧ ufm (rkB B up lo) i = ufm B i := by
  have hk : ∀ k, rkB B up lo i (6 + k) = B i (6 + k) := fun k => rkB_j (by omega)
  have h4 : rkB B up lo i 4 = B i 4 := rkB_j (by decide)
  exact ⟨by simp only [sfm, hk, h4], by simp only [ufm, hk, h4]⟩
theorem rkB_lis (B : Nat → Nat → Nat) (up lo e : Nat) : lis (rkB B up lo) e = lis B e := by
  unfold lis
  exact mks_cong (fun i _ => by rw [rkB_j (by decide), rkB_j (by decide)])
theorem rkB_abv (B : Nat → Nat → Nat) {up : Nat} (hu : up < 256) (lo i : Nat) : abv (rkB B up lo) i = abv B i ||| (if lo.testBit i = true then up else 0) := by
  refine Nat.eq_of_testBit_eq (fun j => ?_)
  rw [Nat.testBit_or]
  unfold abv
  rw [mks_bit, mks_bit, rkB_bit]
  have hj : 8 ≤ j → up.testBit j = false := fun h => Nat.testBit_lt_two_pow (Nat.lt_of_lt_of_le hu (Nat.pow_le_pow_right (n := 2) (by decide) h))
  by_cases h : lo.testBit i = true
  · rw [if_pos h, h, Bool.and_true]
    by_cases h8 : j < 8
    · rw [decide_eq_true h8, Bool.true_and, Bool.true_and]
    · rw [decide_eq_false h8, Bool.false_and, Bool.false_and, hj (by omega)]
      rfl
  · rw [if_neg h, Bool.eq_false_iff.mpr h, Bool.and_false, Bool.or_false, Nat.zero_testBit, Bool.or_false]
theorem xR_rk {u : xS} {n : Nat} {B : Nat → Nat → Nat} (h : xR u n B) {a b : Nat} (ha : a < n) (hb : b < n) (hab : ¬ a = b) (hno : (B b 5).testBit a = false) : xR (ordS u (abv B a ||| 2 ^ a) (B b 5 ||| 2 ^ b) 8) n (rkB B (abv B a ||| 2 ^ a) (B b 5 ||| 2 ^ b)) := by
  have ha8 : a < 8 := Nat.lt_of_lt_of_le ha h.1.1
  have hu : abv B a ||| 2 ^ a < 256 := Nat.or_lt_two_pow (n := 8) (abv_lt B a) (pow_lt8 ha8)
  generalize hup : abv B a ||| 2 ^ a = up at hu ⊢
  generalize hlo : B b 5 ||| 2 ^ b = lo
  have hG : gB n (rkB B up lo) := by rw [← hup, ← hlo]; exact rkB_gB h.1 ha hb hab hno
  have hr : ∀ q j, j ≠ 9 → j ≠ 10 → (ordS u up lo 8).1 q j = u.1 q j := fun q j h9 h10 => by
    rw [ordS_at, if_neg (fun y => h9 y.2.1), if_neg (fun y => h10 y.2.1)]
  have hq : ∀ q j, 8 ≤ q → (ordS u up lo 8).1 q j = u.1 q j := fun q j h8 => by
    rw [ordS_at, if_neg (fun y => absurd y.1 (by omega)), if_neg (fun y => absurd y.1 (by omega))]
  refine ⟨hG, by rw [hq 16 2 (by decide)]; exact xR_n h, fun i hi => ?_, fun e he => by rw [hq 18 e (by decide), rkB_lis]; exact xR_l h he⟩
  rw [hr i 2 (by decide) (by decide), hr i 3 (by decide) (by decide), hr i 4 (by decide) (by decide), hr i 5 (by decide) (by decide), hr i 6 (by decide) (by decide), hr i 7 (by decide) (by decide), hr i 8 (by decide) (by decide),
    (rkB_f B up lo i).1, (rkB_f B up lo i).2, rkB_j (j := 0) (by decide), rkB_j (j := 1) (by decide), rkB_j (j := 2) (by decide), rkB_j (j := 3) (by decide), rkB_j (j := 4) (by decide), rkB_5, rkB_abv B hu]
  refine ⟨xR_2 h hi, xR_3 h hi, xR_4 h hi, xR_5 h hi, xR_6 h hi, xR_7 h hi, xR_8 h hi, ?_, ?_, fun k hk => by rw [hq (8 + i) k (by omega), rkB_j (by omega)]; exact xR_a h hi hk⟩
  · rw [ordS_at]
    by_cases z : up.testBit i = true
    · rw [if_pos ⟨hi, rfl, z⟩, if_pos z, xR_9 h hi, fa_or]
    · rw [if_neg (fun y => z y.2.2), if_neg (fun y => absurd y.2.1 (by decide)), if_neg z, Nat.or_zero]
      exact xR_9 h hi
  · rw [ordS_at, if_neg (fun y => absurd y.2.1 (by decide))]
    by_cases z : lo.testBit i = true
    · rw [if_pos ⟨hi, rfl, z⟩, if_pos z, xR_10 h hi, fa_or]
    · rw [if_neg (fun y => z y.2.2), if_neg z, Nat.or_zero]
      exact xR_10 h hi
