/-! The model's judging, told by the same words. -/
def hasA (B : Nat → Nat → Nat) (i e k : Nat) : Bool := decide (fb_ct (fun q => decide (B i (6 + q) = e)) k ≠ 0)
def tgp (B : Nat → Nat → Nat) (i k r : Nat) : Bool := decide (B i 3 = 1) && (decide (B r 3 = 1) && hasA B i (B r 0) k)
def tgc (B : Nat → Nat → Nat) (i r k : Nat) : Nat := mks (tgp B i (B i 4)) r ||| (if tgp B i k r = true then 2 ^ r else 0)
theorem hasA_iff {B : Nat → Nat → Nat} {i e k : Nat} : hasA B i e k = true ↔ ∃ q, q < k ∧ B i (6 + q) = e := by
  unfold hasA
  rw [decide_eq_true_eq]
  constructor
  · intro h
    obtain ⟨q, hq, hp⟩ := fb_ct_pos.mp (Nat.pos_of_ne_zero h)
    exact ⟨q, hq, of_decide_eq_true hp⟩
  · rintro ⟨q, hq, hp⟩
    exact Nat.ne_of_gt (fb_ct_pos.mpr ⟨q, hq, decide_eq_true hp⟩)
theorem tgp_iff {B : Nat → Nat → Nat} {i k r : Nat} : tgp B i k r = true ↔ B i 3 = 1 ∧ B r 3 = 1 ∧ ∃ q, q < k ∧ B i (6 + q) = B r 0 := by
  unfold tgp
  rw [Bool.and_eq_true, Bool.and_eq_true, decide_eq_true_eq, decide_eq_true_eq, hasA_iff]
theorem tgc_0 (B : Nat → Nat → Nat) (i r : Nat) : mks (tgp B i (B i 4)) r = tgc B i r 0 := by
  unfold tgc
  rw [if_neg (fun h => by obtain ⟨-, -, q, hq, -⟩ := tgp_iff.mp h; omega), Nat.or_zero]
theorem tgc_end (B : Nat → Nat → Nat) (i r : Nat) : tgc B i r (B i 4) = mks (tgp B i (B i 4)) (r + 1) := rfl
theorem tgc_y {B : Nat → Nat → Nat} {i r k : Nat} (h1 : B i 3 = 1) (h2 : B r 3 = 1) (h : B i (6 + k) = B r 0) : tgc B i r k ||| 2 ^ r = tgc B i r (k + 1) := by
  unfold tgc
  rw [if_pos (show tgp B i (k + 1) r = true from tgp_iff.mpr ⟨h1, h2, k, by omega, h⟩)]
  by_cases z : tgp B i k r = true
  · rw [if_pos z, Nat.or_assoc, Nat.or_self]
  · rw [if_neg z, Nat.or_zero]
theorem tgc_n {B : Nat → Nat → Nat} {i r k : Nat} (h : ¬ (B i 3 = 1 ∧ B r 3 = 1 ∧ B i (6 + k) = B r 0)) : tgc B i r k = tgc B i r (k + 1) := by
  unfold tgc
  have e : tgp B i k r = true ↔ tgp B i (k + 1) r = true := by
    rw [tgp_iff, tgp_iff]
    constructor
    · rintro ⟨a, b, q, hq, c⟩
      exact ⟨a, b, q, by omega, c⟩
    · rintro ⟨a, b, q, hq, c⟩
      by_cases z : q = k
      · rw [z] at c; exact absurd ⟨a, b, c⟩ h
      · exact ⟨a, b, q, by omega, c⟩
  by_cases z : tgp B i k r = true
  · rw [if_pos z, if_pos (e.mp z)]
  · rw [if_neg z, if_neg (fun y => z (e.mpr y))]
theorem trgs_bit {B : Nat → Nat → Nat} {i r : Nat} : ∀ k, (trgs B i k).testBit r = true ↔ r < 8 ∧ B r 3 = 1 ∧ ∃ q, q < k ∧ B i (6 + q) = B r 0
  | 0 => by
    unfold trgs
    rw [Nat.zero_testBit]
    constructor
    · intro h; exact absurd h (by decide)
    · rintro ⟨-, -, q, hq, -⟩; omega
  | k + 1 => by
    unfold trgs
    rw [Nat.testBit_or, Bool.or_eq_true, trgs_bit k]
    unfold lis
    rw [mks_bit, Bool.and_eq_true, Bool.and_eq_true, decide_eq_true_eq, decide_eq_true_eq, decide_eq_true_eq]
    constructor
    · rintro (⟨a, b, q, hq, c⟩ | ⟨a, b, c⟩)
      · exact ⟨a, b, q, by omega, c⟩
      · exact ⟨a, b, k, by omega, c.symm⟩
    · rintro ⟨a, b, q, hq, c⟩
      by_cases z : q = k
      · rw [z] at c; exact Or.inr ⟨a, b, c.symm⟩
      · exact Or.inl ⟨a, b, q, by omega, c⟩
theorem trg_bit {n : Nat} {B : Nat → Nat → Nat} (hB : gB n B) {i r : Nat} (hi : i < 8) : (trg B i).testBit r = true ↔ r < 8 ∧ tgp B i (B i 4) r = true := by
  have g3 : B i 3 ≤ 1 := gB_3 hB hi
  unfold trg
  by_cases z : B i 3 = 0
  · rw [if_pos z, Nat.zero_testBit, tgp_iff]
    constructor
    · intro h; exact absurd h (by decide)
    · rintro ⟨-, a, -⟩; omega
  · rw [if_neg z, trgs_bit, tgp_iff]
    constructor
    · rintro ⟨a, b⟩; exact ⟨a, by omega, b⟩
    · rintro ⟨a, -, b⟩; exact ⟨a, b⟩
theorem bool_iff {a b : Bool} (h : a = true ↔ b = true) : a = b := by
  cases a <;> cases b
  · rfl
  · exact absurd (h.mpr rfl) (by decide)
  · exact absurd (h.mp rfl) (by decide)
  · rfl
theorem mks_trg {n : Nat} {B : Nat → Nat → Nat} (hB : gB n B) {i : Nat} (hi : i < 8) : mks (tgp B i (B i 4)) n = trg B i := by
  refine Nat.eq_of_testBit_eq fun r => bool_iff ?_
  rw [mks_bit, trg_bit hB hi, Bool.and_eq_true, decide_eq_true_eq]
  constructor
  · rintro ⟨a, b⟩; exact ⟨Nat.lt_of_lt_of_le a hB.1, b⟩
  · rintro ⟨a, b⟩
    refine ⟨?_, b⟩
    rcases Nat.lt_or_ge r n with q | q
    · exact q
    · have := (tgp_iff.mp b).2.1
      rw [(hB.2.2.1 r q a).1] at this
      omega
theorem trg_n {n : Nat} {B : Nat → Nat → Nat} (hB : gB n B) {i : Nat} (hi : i < 8) : trg B i < 2 ^ n := by
  rw [← mks_trg hB hi]
  exact mks_lt _ n
/-! circles -/
def crd (B : Nat → Nat → Nat) (w : Nat) : Nat → Nat
  | 0 => w
  | k + 1 => if (crd B w k).testBit k = true then crd B w k ||| trg B k else crd B w k
def crr (B : Nat → Nat → Nat) (n w : Nat) : Nat → Nat
  | 0 => w
  | t + 1 => crd B (crr B n w t) n
def clo (B : Nat → Nat → Nat) (X : Nat → Prop) : Prop := ∀ r, X r → ∀ j, (trg B r).testBit j = true → X j
theorem crd_sub {B : Nat → Nat → Nat} {w j : Nat} (h : w.testBit j = true) : ∀ k, (crd B w k).testBit j = true
  | 0 => h
  | k + 1 => by
    unfold crd
    split
    · rw [Nat.testBit_or, crd_sub h k, Bool.true_or]
    · exact crd_sub h k
theorem crd_in {B : Nat → Nat → Nat} {X : Nat → Prop} (hX : clo B X) {w : Nat} (h : ∀ j, w.testBit j = true → X j) : ∀ k j, (crd B w k).testBit j = true → X j
  | 0, j, hj => h j hj
  | k + 1, j, hj => by
    unfold crd at hj
    split at hj
    · rename_i hk
      rw [Nat.testBit_or, Bool.or_eq_true] at hj
      rcases hj with hj | hj
      · exact crd_in hX h k j hj
      · exact hX k (crd_in hX h k k hk) j hj
    · exact crd_in hX h k j hj
theorem crr_in {B : Nat → Nat → Nat} {X : Nat → Prop} (hX : clo B X) {n w : Nat} (h : ∀ j, w.testBit j = true → X j) : ∀ t j, (crr B n w t).testBit j = true → X j
  | 0 => h
  | t + 1 => crd_in hX (crr_in hX h t) n
theorem crr_sub {B : Nat → Nat → Nat} {n w j : Nat} (h : w.testBit j = true) : ∀ t, (crr B n w t).testBit j = true
  | 0 => h
  | t + 1 => crd_sub (crr_sub h t) n
theorem crd_lt {n : Nat} {B : Nat → Nat → Nat} (hB : gB n B) {w : Nat} (hw : w < 2 ^ n) : ∀ k, k ≤ n → crd B w k < 2 ^ n
  | 0, _ => hw
  | k + 1, hk => by
    unfold crd
    split
    · exact Nat.or_lt_two_pow (crd_lt hB hw k (by omega)) (trg_n hB (by have := hB.1; omega))
    · exact crd_lt hB hw k (by omega)
theorem crr_lt {n : Nat} {B : Nat → Nat → Nat} (hB : gB n B) {w : Nat} (hw : w < 2 ^ n) : ∀ t, crr B n w t < 2 ^ n
  | 0 => hw
  | t + 1 => crd_lt hB (crr_lt hB hw t) n (Nat.le_refl n)
def cln (B : Nat → Nat → Nat) (n w : Nat) : Prop := ∀ r, r < n → w.testBit r = true → ∀ j, (trg B r).testBit j = true → w.testBit j = true
theorem or_same {a b : Nat} (h : ∀ j, b.testBit j = true → a.testBit j = true) : a ||| b = a := by
  refine Nat.eq_of_testBit_eq fun j => bool_iff ?_
  rw [Nat.testBit_or, Bool.or_eq_true]
  exact ⟨fun z => z.elim id (h j), Or.inl⟩
theorem crd_cln {n : Nat} {B : Nat → Nat → Nat} {w : Nat} (h : cln B n w) : ∀ k, k ≤ n → crd B w k = w
  | 0, _ => rfl
  | k + 1, hk => by
    unfold crd
    rw [crd_cln h k (by omega)]
    split
    · rename_i hb
      exact or_same (h k (by omega) hb)
    · rfl
theorem crd_eq {B : Nat → Nat → Nat} {n w : Nat} (h : crd B w n = w) : cln B n w := by
  have step : ∀ d k, k + d = n → ∀ j, (crd B w k).testBit j = true → w.testBit j = true := by
    intro d
    induction d with
    | zero => intro k hk j hj; rw [show k = n by omega, h] at hj; exact hj
    | succ d ih =>
      intro k hk j hj
      refine ih (k + 1) (by omega) j ?_
      show (if (crd B w k).testBit k = true then crd B w k ||| trg B k else crd B w k).testBit j = true
      split
      · rw [Nat.testBit_or, hj, Bool.true_or]
      · exact hj
  intro r hr hb j hj
  refine step (n - (r + 1)) (r + 1) (by omega) j ?_
  show (if (crd B w r).testBit r = true then crd B w r ||| trg B r else crd B w r).testBit j = true
  rw [if_pos (crd_sub hb r), Nat.testBit_or, hj, Bool.or_true]
theorem crr_go {n : Nat} {B : Nat → Nat → Nat} (hB : gB n B) {w : Nat} (hw : w < 2 ^ n) : ∀ t, cln B n (crr B n w t) ∨ t + 1 ≤ fb_ct (fun j => (crr B n w t).testBit j) n
  | 0 => by
    by_cases z : ∃ j, j < n ∧ w.testBit j = true
    · obtain ⟨j, hj, hb⟩ := z
      exact Or.inr (fb_ct_pos.mpr ⟨j, hj, hb⟩)
    · exact Or.inl fun r hr hb => absurd ⟨r, hr, hb⟩ z
  | t + 1 => by
    rcases crr_go hB hw t with h | h
    · left
      show cln B n (crd B (crr B n w t) n)
      rw [crd_cln h n (Nat.le_refl n)]
      exact h
    · by_cases z : crd B (crr B n w t) n = crr B n w t
      · left
        show cln B n (crd B (crr B n w t) n)
        rw [z]
        exact crd_eq z
      · right
        show t + 1 + 1 ≤ fb_ct (fun j => (crd B (crr B n w t) n).testBit j) n
        by_cases y : ∃ j, j < n ∧ (crr B n w t).testBit j = false ∧ (crd B (crr B n w t) n).testBit j = true
        · obtain ⟨j, hj, h1, h2⟩ := y
          have := ct_less (p := fun j => (crr B n w t).testBit j) (q := fun j => (crd B (crr B n w t) n).testBit j) (fun k _ hk => crd_sub hk n) hj h1 h2
          omega
        · refine absurd (Nat.eq_of_testBit_eq fun j => bool_iff ⟨fun hj => ?_, fun hj => crd_sub hj n⟩) z
          rcases Nat.lt_or_ge j n with q | q
          · cases h1 : (crr B n w t).testBit j
            · exact absurd ⟨j, q, h1, hj⟩ y
            · rfl
          · rw [Nat.testBit_lt_two_pow (Nat.lt_of_lt_of_le (crd_lt hB (crr_lt hB hw t) n (Nat.le_refl n)) (Nat.pow_le_pow_right (by decide) q))] at hj
            exact absurd hj (by decide)
theorem crr_clo {n : Nat} {B : Nat → Nat → Nat} (hB : gB n B) {w : Nat} (hw : w < 2 ^ n) : clo B (fun j => (crr B n w n).testBit j = true) := by
  intro r hr j hj
  have h1 : cln B n (crr B n w n) := by
    rcases crr_go hB hw n with h | h
    · exact h
    · have := fb_ct_le (fun j => (crr B n w n).testBit j) n
      omega
  rcases Nat.lt_or_ge r n with q | q
  · exact h1 r q hr j hj
  · have hr : (crr B n w n).testBit r = true := hr
    rw [Nat.testBit_lt_two_pow (Nat.lt_of_lt_of_le (crr_lt hB hw n) (Nat.pow_le_pow_right (by decide) q))] at hr
    exact absurd hr (by decide)
theorem war_bit {B : Nat → Nat → Nat} {k i j : Nat} : (war B (k + 1) i).testBit j = true ↔ (war B k i).testBit j = true ∨ ((war B k i).testBit k = true ∧ (war B k k).testBit j = true) := by
  show (if (war B k i).testBit k = true then war B k i ||| war B k k else war B k i).testBit j = true ↔ _
  by_cases z : (war B k i).testBit k = true
  · rw [if_pos z, Nat.testBit_or, Bool.or_eq_true]
    exact ⟨fun h => h.elim Or.inl fun a => Or.inr ⟨z, a⟩, fun h => h.elim Or.inl fun a => Or.inr a.2⟩
  · rw [if_neg z]
    exact ⟨Or.inl, fun h => h.elim id fun a => absurd a.1 z⟩
theorem war_up {B : Nat → Nat → Nat} {i j : Nat} (h : (trg B i).testBit j = true) : ∀ k, (war B k i).testBit j = true
  | 0 => h
  | k + 1 => war_bit.mpr (Or.inl (war_up h k))
theorem war_sound {B : Nat → Nat → Nat} : ∀ k i j, (war B k i).testBit j = true → ∀ X : Nat → Prop, clo B X → (∀ q, (trg B i).testBit q = true → X q) → X j
  | 0, _, j, h, _, _, hi => hi j h
  | k + 1, i, j, h, X, hX, hi => by
    rcases war_bit.mp h with a | ⟨a, b⟩
    · exact war_sound k i j a X hX hi
    · exact war_sound k k j b X hX (hX k (war_sound k i k a X hX hi))
theorem war_tr {B : Nat → Nat → Nat} : ∀ k i m j, m < k → (war B k i).testBit m = true → (war B k m).testBit j = true → (war B k i).testBit j = true
  | 0, _, _, _, hm, _, _ => absurd hm (Nat.not_lt_zero _)
  | k + 1, i, m, j, hm, h1, h2 => by
    rw [war_bit] at h1 h2 ⊢
    by_cases z : m = k
    · subst z
      have a : (war B m i).testBit m = true := h1.elim id fun q => q.1
      have b : (war B m m).testBit j = true := h2.elim id fun q => q.2
      exact Or.inr ⟨a, b⟩
    · have hm' : m < k := by omega
      rcases h1 with a | ⟨a, a'⟩
      · rcases h2 with b | ⟨b, b'⟩
        · exact Or.inl (war_tr k i m j hm' a b)
        · exact Or.inr ⟨war_tr k i m k hm' a b, b'⟩
      · rcases h2 with b | ⟨b, b'⟩
        · exact Or.inr ⟨a, war_tr k k m j hm' a' b⟩
        · exact Or.inr ⟨a, b'⟩
theorem war_crr {n : Nat} {B : Nat → Nat → Nat} (hB : gB n B) {i j : Nat} (hi : i < 8) : (crr B n (trg B i) n).testBit j = (war B 8 i).testBit j := by
  refine bool_iff ⟨fun h => ?_, fun h => ?_⟩
  · refine crr_in (X := fun j => (war B 8 i).testBit j = true) (fun r hr q hq => ?_) (fun q hq => war_up hq 8) n j h
    rcases Nat.lt_or_ge r 8 with z | z
    · exact war_tr 8 i r q z hr (war_up hq 8)
    · have hr : (war B 8 i).testBit r = true := hr
      rw [t8 (war_lt B 8 i) z] at hr
      exact absurd hr (by decide)
  · exact war_sound 8 i j h _ (crr_clo hB (trg_n hB hi)) fun q hq => crr_sub hq n
theorem war_off {B : Nat → Nat → Nat} {i : Nat} (h : trg B i = 0) : ∀ k, war B k i = 0
  | 0 => h
  | k + 1 => by
    show (if (war B k i).testBit k = true then war B k i ||| war B k k else war B k i) = 0
    rw [war_off h k, Nat.zero_testBit, if_neg (by decide)]
theorem cirs_bit {B : Nat → Nat → Nat} {j : Nat} : ∀ k, (cirs B k).testBit j = (decide (j < k) && (war B 8 j).testBit j)
  | 0 => by unfold cirs; rw [Nat.zero_testBit]; simp
  | k + 1 => by
    unfold cirs
    rw [Nat.testBit_or, cirs_bit k, Nat.testBit_and, Nat.testBit_two_pow]
    by_cases z : k = j
    · subst z; simp
    · rw [decide_eq_false z, Bool.and_false, Bool.or_false]
      congr 1
      exact decide_eq_decide.mpr (by omega)
theorem cirs_mks {n : Nat} {B : Nat → Nat → Nat} (hB : gB n B) : mks (fun i => (crr B n (trg B i) n).testBit i) n = cirs B 8 := by
  refine Nat.eq_of_testBit_eq fun j => ?_
  rw [mks_bit, cirs_bit]
  rcases Nat.lt_or_ge j n with q | q
  · have q8 : j < 8 := Nat.lt_of_lt_of_le q hB.1
    rw [decide_eq_true q, decide_eq_true q8, war_crr hB q8]
  · rw [decide_eq_false (Nat.not_lt.mpr q), Bool.false_and]
    rcases Nat.lt_or_ge j 8 with z | z
    · rw [war_off (trg_off hB z q), Nat.zero_testBit, Bool.and_false]
    · rw [decide_eq_false (Nat.not_lt.mpr z), Bool.false_and]
