/-! Numbers: what the model side of whole has found of rules and ranks. -/
theorem t8 {t j : Nat} (ht : t < 256) (h : 8 ≤ j) : t.testBit j = false := Nat.testBit_lt_two_pow (Nat.lt_of_lt_of_le ht (Nat.pow_le_pow_right (by decide : 0 < 2) h))
theorem and0_iff {a b : Nat} : a &&& b = 0 ↔ ∀ j, ¬ (a.testBit j = true ∧ b.testBit j = true) := by
  constructor
  · intro h j hj
    have : (a &&& b).testBit j = true := by rw [Nat.testBit_and, hj.1, hj.2]; rfl
    rw [h, Nat.zero_testBit] at this
    exact absurd this (by decide)
  · intro h
    refine Nat.eq_of_testBit_eq fun j => ?_
    rw [Nat.testBit_and, Nat.zero_testBit]
    cases h1 : a.testBit j
    · rfl
    · cases h2 : b.testBit j
      · rfl
      · exact absurd ⟨h1, h2⟩ (h j)
theorem abv_tb {B : Nat → Nat → Nat} {i j : Nat} : (abv B i).testBit j = (decide (j < 8) && (B j 5).testBit i) := by
  unfold abv
  rw [mks_bit]
theorem rdy_bit {B : Nat → Nat → Nat} {t i : Nat} (ht : t < 256) : (rdy B t).testBit i = true ↔ t.testBit i = true ∧ ∀ j, j < 8 → t.testBit j = true → (B j 5).testBit i = false := by
  unfold rdy rdy1
  rw [mks_bit, Bool.and_eq_true, Bool.and_eq_true, decide_eq_true_eq, decide_eq_true_eq, and0_iff]
  constructor
  · intro h
    refine ⟨h.2.1, fun j hj hb => ?_⟩
    have := h.2.2 j
    rw [abv_tb, decide_eq_true hj, Bool.true_and] at this
    exact Bool.eq_false_iff.mpr fun z => this ⟨hb, z⟩
  · intro h
    refine ⟨?_, h.1, fun j hj => ?_⟩
    · rcases Nat.lt_or_ge i 8 with q | q
      · exact q
      · rw [t8 ht q] at h; exact absurd h.1 (by decide)
    · rw [abv_tb, Bool.and_eq_true, decide_eq_true_eq] at hj
      rw [h.2 j hj.2.1 hj.1] at hj
      exact absurd hj.2.2 (by decide)
theorem zi_dv2 {a : Nat} (ha : a < 12) : nI a / nI 2 = nI (a / 2) := pk_div (by omega) (by decide) (by decide)
theorem zi_rm2 {a : Nat} (ha : a < 12) : nI a - nI a / nI 2 * nI 2 = nI (a % 2) := pk_rem (by omega) (by decide) (by decide)
theorem rdy_1 {B : Nat → Nat → Nat} {t i : Nat} (hi : i < 8) : (rdy B t).testBit i = rdy1 B i t := by
  unfold rdy
  rw [mks_bit, decide_eq_true hi, Bool.true_and]
theorem ct_less {p q : Nat → Bool} {n j : Nat} (h : ∀ k, k < n → p k = true → q k = true) (hj : j < n) (h1 : p j = false) (h2 : q j = true) : fb_ct p n < fb_ct q n := by
  have a := fb_ct_upd p true hj
  rw [h1] at a
  have b : fb_ct (fun k => if k = j then true else p k) n ≤ fb_ct q n := fb_ct_sub fun k hk hp => by
    by_cases z : k = j
    · rw [z]; exact h2
    · rw [if_neg z] at hp; exact h k hk hp
  rw [if_neg (by decide), if_pos rfl, Nat.add_zero] at a
  omega
theorem rdy_some {n : Nat} {B : Nat → Nat → Nat} (hB : gB n B) {t : Nat} (ht : t < 256) : ∀ c i, i < 8 → t.testBit i = true → fb_ct (fun j => (B j 5).testBit i) 8 ≤ c → ∃ r, r < 8 ∧ (rdy B t).testBit r = true := by
  intro c
  induction c with
  | zero =>
    intro i hi hb hc
    exact ⟨i, hi, (rdy_bit ht).mpr ⟨hb, fun j hj _ => fb_ct_zero.mp (Nat.le_zero.mp hc) j hj⟩⟩
  | succ c ih =>
    intro i hi hb hc
    by_cases z : ∃ j, j < 8 ∧ t.testBit j = true ∧ (B j 5).testBit i = true
    · obtain ⟨j, hj, h1, h2⟩ := z
      refine ih j hj h1 ?_
      have : fb_ct (fun k => (B k 5).testBit j) 8 < fb_ct (fun k => (B k 5).testBit i) 8 := ct_less (fun k hk h => hB.2.2.2.2 k j i hk hj hi h h2) hj (hB.2.2.2.1 j hj) h2
      omega
    · exact ⟨i, hi, (rdy_bit ht).mpr ⟨hb, fun j hj h => Bool.eq_false_iff.mpr fun y => z ⟨j, hj, h, y⟩⟩⟩
theorem bit_some {t : Nat} (ht : t < 256) (h0 : t ≠ 0) : ∃ i, i < 8 ∧ t.testBit i = true := by
  by_cases z : ∃ i, i < 8 ∧ t.testBit i = true
  · exact z
  · refine absurd (Nat.eq_of_testBit_eq fun i => ?_) h0
    rw [Nat.zero_testBit]
    rcases Nat.lt_or_ge i 8 with q | q
    · exact Bool.eq_false_iff.mpr fun y => z ⟨i, q, y⟩
    · exact t8 ht q
theorem rdy_ne {n : Nat} {B : Nat → Nat → Nat} (hB : gB n B) {t : Nat} (ht : t < 256) (h0 : t ≠ 0) : ∃ r, r < 8 ∧ (rdy B t).testBit r = true := by
  obtain ⟨i, hi, hb⟩ := bit_some ht h0
  exact rdy_some hB ht _ i hi hb (Nat.le_refl _)
theorem rdy_z (B : Nat → Nat → Nat) : rdy B 0 = 0 := by
  refine Nat.eq_of_testBit_eq fun i => ?_
  rw [Nat.zero_testBit]
  refine Bool.eq_false_iff.mpr fun y => ?_
  have := ((rdy_bit (by decide)).mp y).1
  rw [Nat.zero_testBit] at this
  exact absurd this (by decide)
theorem frs_lt {n : Nat} {B : Nat → Nat → Nat} (hB : gB n B) {t : Nat} (ht : t < 256) (h0 : t ≠ 0) : frs B t < 8 := by
  obtain ⟨r, hr, hb⟩ := rdy_ne hB ht h0
  rw [rdy_1 hr] at hb
  unfold frs
  rcases Nat.lt_or_ge (fa_first (fun k => rdy1 B k t) 8) 8 with q | q
  · exact q
  · exact absurd hb (by rw [fa_first_no (fun k => rdy1 B k t) 8 r (by omega)]; decide)
theorem frs_0 (B : Nat → Nat → Nat) : frs B 0 = 8 := frs_no fun j hj => by
  rw [← rdy_1 hj, rdy_z, Nat.zero_testBit]
def ntz (m : Nat) : Nat := fa_first (fun k => m.testBit k) 8
theorem ntz_rdy (B : Nat → Nat → Nat) (t : Nat) : ntz (rdy B t) = frs B t := fir_cong fun j hj => rdy_1 hj
theorem frs_n {n : Nat} {B : Nat → Nat → Nat} {t : Nat} (ht : t < 2 ^ n) (h : frs B t < 8) : frs B t < n := by
  have h1 : rdy1 B (frs B t) t = true := fa_first_yes (fun k => rdy1 B k t) 8 h
  unfold rdy1 at h1
  rw [Bool.and_eq_true] at h1
  rcases Nat.lt_or_ge (frs B t) n with q | q
  · exact q
  · rw [Nat.testBit_lt_two_pow (Nat.lt_of_lt_of_le ht (Nat.pow_le_pow_right (by decide) q))] at h1
    exact absurd h1.1 (by decide)
theorem runX_bits {n : Nat} {B : Nat → Nat → Nat} (h : gB n B) {x : Nat} (hx : x < 64 * 2 ^ n) : ∀ k, (∀ j, j < k → frs B (runX B x j / 64) < 8) → runX B x k < 64 * 2 ^ n
  | 0, _ => hx
  | k + 1, hg => ply_bits h (hg k (Nat.lt_succ_self k)) (runX_bits h hx k (fun j hj => hg j (Nat.lt_succ_of_lt hj)))
theorem rdy_n0 {n : Nat} {B : Nat → Nat → Nat} (hB : gB n B) {t : Nat} (ht : t < 256) (h0 : t ≠ 0) : rdy B t ≠ 0 := fun z => by
  obtain ⟨r, _, h⟩ := rdy_ne hB ht h0
  rw [z, Nat.zero_testBit] at h
  exact absurd h (by decide)
/-- one number of plays alone -/
theorem runX_one {B : Nat → Nat → Nat} {x m i j : Nat} (hi : i ≤ m) (hj : j ≤ m) (gi : ∀ k, k < i → frs B (runX B x k / 64) < 8) (gj : ∀ k, k < j → frs B (runX B x k / 64) < 8) (ei : i = m ∨ frs B (runX B x i / 64) = 8) (ej : j = m ∨ frs B (runX B x j / 64) = 8) : i = j := by
  rcases Nat.lt_trichotomy i j with q | q | q
  · have := gj i q; rcases ei with e | e <;> omega
  · exact q
  · have := gi j q; rcases ej with e | e <;> omega
theorem rdy_lt_n {n : Nat} {B : Nat → Nat → Nat} {t r : Nat} (ht : t < 2 ^ n) (h : (rdy B t).testBit r = true) : r < n := by
  rcases Nat.lt_or_ge r n with q | q
  · exact q
  · exact absurd h (rdy_ge ht q)
theorem isE_s {S : Nat → Nat} {j : Nat} : isE S j = true ↔ S j / 64 = 0 := by
  unfold isE
  rw [decide_eq_true_eq]
theorem nx_s (k : Nat) : nI k = nxI (k + 1) := by
  unfold nxI
  rw [if_neg (Nat.succ_ne_zero k)]
  rfl
theorem mx_le {f : Nat → Nat} {b : Nat} : ∀ n, (∀ i, i < n → f i ≤ b) → mx f n ≤ b
  | 0, _ => Nat.zero_le b
  | n + 1, h => Nat.max_le.mpr ⟨mx_le n fun i hi => h i (by omega), h n (by omega)⟩
theorem nx_dec (k : Nat) : nI k + Int32.ofInt (-1) = nxI k := by
  cases k with
  | zero => rfl
  | succ k => exact (pk_m1 k).trans (nx_s k)
theorem nx_pre {c : Nat} (h : 1 ≤ c) : nI c - nI 1 = nxI c := (pk_sub h).trans (nx_v (by omega)).symm
theorem trgs_bit {B : Nat → Nat → Nat} {i r : Nat} : ∀ k, (trgs B i k).testBit r = true ↔ r < 8 ∧ B r 3 = 1 ∧ ∃ q, q < k ∧ B i (6 + q) = B r 0
  | 0 => by
    unfold trgs
    rw [Nat.zero_testBit]
    constructor
    · intro h; exact absurd h (by decide)
    · rintro ⟨-, -, q, hq, -⟩; omega
  | k + 1 => by
    unfold trgs
    rw [Nat.testBit_or, Bool.or_eq_true, trgs_bit k]
    unfold lis
    rw [mks_bit, Bool.and_eq_true, Bool.and_eq_true, decide_eq_true_eq, decide_eq_true_eq, decide_eq_true_eq]
    constructor
    · rintro (⟨a, b, q, hq, c⟩ | ⟨a, b, c⟩)
      · exact ⟨a, b, q, by omega, c⟩
      · exact ⟨a, b, k, by omega, c.symm⟩
    · rintro ⟨a, b, q, hq, c⟩
      by_cases z : q = k
      · rw [z] at c; exact Or.inr ⟨a, b, c.symm⟩
      · exact Or.inl ⟨a, b, q, by omega, c⟩
theorem bool_iff {a b : Bool} (h : a = true ↔ b = true) : a = b := by
  cases a <;> cases b
  · rfl
  · exact absurd (h.mpr rfl) (by decide)
  · exact absurd (h.mp rfl) (by decide)
  · rfl
theorem war_bit {B : Nat → Nat → Nat} {k i j : Nat} : (war B (k + 1) i).testBit j = true ↔ (war B k i).testBit j = true ∨ ((war B k i).testBit k = true ∧ (war B k k).testBit j = true) := by
  show (if (war B k i).testBit k = true then war B k i ||| war B k k else war B k i).testBit j = true ↔ _
  by_cases z : (war B k i).testBit k = true
  · rw [if_pos z, Nat.testBit_or, Bool.or_eq_true]
    exact ⟨fun h => h.elim Or.inl fun a => Or.inr ⟨z, a⟩, fun h => h.elim Or.inl fun a => Or.inr a.2⟩
  · rw [if_neg z]
    exact ⟨Or.inl, fun h => h.elim id fun a => absurd a.1 z⟩
theorem war_up {B : Nat → Nat → Nat} {i j : Nat} (h : (trg B i).testBit j = true) : ∀ k, (war B k i).testBit j = true
  | 0 => h
  | k + 1 => war_bit.mpr (Or.inl (war_up h k))
theorem war_tr {B : Nat → Nat → Nat} : ∀ k i m j, m < k → (war B k i).testBit m = true → (war B k m).testBit j = true → (war B k i).testBit j = true
  | 0, _, _, _, hm, _, _ => absurd hm (Nat.not_lt_zero _)
  | k + 1, i, m, j, hm, h1, h2 => by
    rw [war_bit] at h1 h2 ⊢
    by_cases z : m = k
    · subst z
      have a : (war B m i).testBit m = true := h1.elim id fun q => q.1
      have b : (war B m m).testBit j = true := h2.elim id fun q => q.2
      exact Or.inr ⟨a, b⟩
    · have hm' : m < k := by omega
      rcases h1 with a | ⟨a, a'⟩
      · rcases h2 with b | ⟨b, b'⟩
        · exact Or.inl (war_tr k i m j hm' a b)
        · exact Or.inr ⟨war_tr k i m k hm' a b, b'⟩
      · rcases h2 with b | ⟨b, b'⟩
        · exact Or.inr ⟨a, war_tr k k m j hm' a' b⟩
        · exact Or.inr ⟨a, b'⟩
theorem cirs_bit {B : Nat → Nat → Nat} {j : Nat} : ∀ k, (cirs B k).testBit j = (decide (j < k) && (war B 8 j).testBit j)
  | 0 => by unfold cirs; rw [Nat.zero_testBit]; simp
  | k + 1 => by
    unfold cirs
    rw [Nat.testBit_or, cirs_bit k, Nat.testBit_and, Nat.testBit_two_pow]
    by_cases z : k = j
    · subst z; simp
    · rw [decide_eq_false z, Bool.and_false, Bool.or_false]
      congr 1
      exact decide_eq_decide.mpr (by omega)
theorem orf_bit {g : Nat → Nat} {f : Nat} : ∀ k, (orf g k).testBit f = true ↔ ∃ j, j < k ∧ (g j).testBit f = true
  | 0 => by
    unfold orf
    rw [Nat.zero_testBit]
    constructor
    · intro h; exact absurd h (by decide)
    · rintro ⟨j, hj, -⟩; omega
  | k + 1 => by
    unfold orf
    rw [Nat.testBit_or, Bool.or_eq_true, orf_bit k]
    constructor
    · rintro (⟨j, hj, h⟩ | h)
      · exact ⟨j, by omega, h⟩
      · exact ⟨k, by omega, h⟩
    · rintro ⟨j, hj, h⟩
      by_cases z : j = k
      · rw [z] at h; exact Or.inr h
      · exact Or.inl ⟨j, by omega, h⟩
theorem ends_le {n m : Nat} {E : eS} (hE : eOk n E m) : fb_ct (isE E.1) E.2.2.2.1 ≤ 64 := by
  rcases Nat.eq_zero_or_pos (fb_ct (isE E.1) E.2.2.2.1) with z | z
  · omega
  · obtain ⟨i, hi, hp, he⟩ := fb_ct_kth (p := isE E.1) (k := fb_ct (isE E.1) E.2.2.2.1 - 1) (n := E.2.2.2.1) (by omega)
    have := ends_lt hE hi (isE_s.mp hp)
    omega
