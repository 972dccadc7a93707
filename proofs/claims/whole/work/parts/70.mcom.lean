/-! disturbing and commuting, conflicts -/
def eqp (B : Nat → Nat → Nat) (a b k q : Nat) : Bool := decide (B b (6 + q) = B a (6 + k) ^^^ 1)
def dsp (B : Nat → Nat → Nat) (a b k : Nat) : Bool := (B b 1 ||| B b 2).testBit (B a (6 + k) / 2) || decide (fb_ct (eqp B a b k) (B b 4) ≠ 0)
def dsq (B : Nat → Nat → Nat) (a b k q : Nat) : Nat := if plb (dsp B a b) k = 0 ∧ (B b 1 ||| B b 2).testBit (B a (6 + k) / 2) = false ∧ fb_ct (eqp B a b k) q = 0 then 0 else 1
theorem dsq_le (B : Nat → Nat → Nat) (a b k q : Nat) : dsq B a b k q ≤ 1 := by unfold dsq; split <;> omega
theorem plb_01 {p : Nat → Bool} {k : Nat} : plb p k = 0 ↔ fb_ct p k = 0 := by
  unfold plb
  split <;> omega
theorem dsq_0 {B : Nat → Nat → Nat} {a b k : Nat} (h1 : plb (dsp B a b) k = 0) (h2 : (B b 1 ||| B b 2).testBit (B a (6 + k) / 2) = false) : 0 = dsq B a b k 0 := by
  unfold dsq
  rw [if_pos ⟨h1, h2, rfl⟩]
theorem dsq_1 {B : Nat → Nat → Nat} {a b k : Nat} (q : Nat) (h : plb (dsp B a b) k ≠ 0 ∨ (B b 1 ||| B b 2).testBit (B a (6 + k) / 2) = true) : 1 = dsq B a b k q := by
  unfold dsq
  rw [if_neg]
  rintro ⟨h1, h2, -⟩
  rcases h with h | h
  · exact h h1
  · rw [h2] at h; exact absurd h (by decide)
theorem dsq_s {B : Nat → Nat → Nat} {a b k q : Nat} (h : dsq B a b k q ≠ 0) : 1 = dsq B a b k (q + 1) := by
  unfold dsq at h ⊢
  split at h
  · exact absurd rfl h
  · rename_i z
    rw [if_neg]
    rintro ⟨h1, h2, h3⟩
    rw [fb_ct_succ] at h3
    exact z ⟨h1, h2, by omega⟩
theorem dsq_n {B : Nat → Nat → Nat} {a b k q : Nat} (h : dsq B a b k q = 0) (he : B b (6 + q) ≠ B a (6 + k) ^^^ 1) : 0 = dsq B a b k (q + 1) := by
  unfold dsq at h ⊢
  split at h
  · rename_i z
    rw [if_pos]
    refine ⟨z.1, z.2.1, ?_⟩
    rw [fb_ct_succ, z.2.2, show eqp B a b k q = false from decide_eq_false he]
    rfl
  · exact absurd h (by decide)
theorem dsq_y {B : Nat → Nat → Nat} {a b k q : Nat} (he : B b (6 + q) = B a (6 + k) ^^^ 1) : 1 = dsq B a b k (q + 1) := by
  unfold dsq
  rw [if_neg]
  rintro ⟨-, -, h3⟩
  rw [fb_ct_succ, show eqp B a b k q = true from decide_eq_true he, if_pos rfl] at h3
  omega
theorem dsq_end (B : Nat → Nat → Nat) (a b k : Nat) : dsq B a b k (B b 4) = plb (dsp B a b) (k + 1) := by
  unfold dsq
  by_cases z : plb (dsp B a b) k = 0
  · by_cases y : dsp B a b k = true
    · rw [← plb_t y, if_neg]
      rintro ⟨-, h2, h3⟩
      unfold dsp at y
      rw [h2, h3] at y
      exact absurd y (by decide)
    · have y := Bool.eq_false_iff.mpr y
      rw [← plb_f y, z, if_pos]
      unfold dsp at y
      rw [Bool.or_eq_false_iff, decide_eq_false_iff_not] at y
      exact ⟨rfl, y.1, Decidable.of_not_not y.2⟩
  · rw [← plb_s z, if_neg (fun h => z h.1)]
theorem xor1 : ∀ a, a < 12 → a ^^^ 1 < 12 ∧ ∀ x, x < 12 → (x = a ^^^ 1 ↔ x / 2 = a / 2 ∧ x % 2 ≠ a % 2) := by decide
theorem orf_bit {g : Nat → Nat} {f : Nat} : ∀ k, (orf g k).testBit f = true ↔ ∃ j, j < k ∧ (g j).testBit f = true
  | 0 => by
    unfold orf
    rw [Nat.zero_testBit]
    constructor
    · intro h; exact absurd h (by decide)
    · rintro ⟨j, hj, -⟩; omega
  | k + 1 => by
    unfold orf
    rw [Nat.testBit_or, Bool.or_eq_true, orf_bit k]
    constructor
    · rintro (⟨j, hj, h⟩ | h)
      · exact ⟨j, by omega, h⟩
      · exact ⟨k, by omega, h⟩
    · rintro ⟨j, hj, h⟩
      by_cases z : j = k
      · rw [z] at h; exact Or.inr h
      · exact Or.inl ⟨j, by omega, h⟩
theorem sfm_bit {B : Nat → Nat → Nat} {i f : Nat} : (sfm B i).testBit f = true ↔ ∃ k, k < B i 4 ∧ B i (6 + k) % 2 = 1 ∧ B i (6 + k) / 2 = f := by
  unfold sfm
  rw [orf_bit]
  constructor
  · rintro ⟨k, hk, h⟩
    by_cases z : B i (6 + k) % 2 = 1
    · rw [if_pos z, Nat.testBit_two_pow, decide_eq_true_eq] at h
      exact ⟨k, hk, z, h⟩
    · rw [if_neg z, Nat.zero_testBit] at h; exact absurd h (by decide)
  · rintro ⟨k, hk, z, h⟩
    exact ⟨k, hk, by rw [if_pos z, Nat.testBit_two_pow, decide_eq_true_eq]; exact h⟩
theorem ufm_bit {B : Nat → Nat → Nat} {i f : Nat} : (ufm B i).testBit f = true ↔ ∃ k, k < B i 4 ∧ B i (6 + k) % 2 ≠ 1 ∧ B i (6 + k) / 2 = f := by
  unfold ufm
  rw [orf_bit]
  constructor
  · rintro ⟨k, hk, h⟩
    by_cases z : B i (6 + k) % 2 = 1
    · rw [if_pos z, Nat.zero_testBit] at h; exact absurd h (by decide)
    · rw [if_neg z, Nat.testBit_two_pow, decide_eq_true_eq] at h
      exact ⟨k, hk, z, h⟩
  · rintro ⟨k, hk, z, h⟩
    exact ⟨k, hk, by rw [if_neg z, Nat.testBit_two_pow, decide_eq_true_eq]; exact h⟩
theorem dst_iff {B : Nat → Nat → Nat} {a b : Nat} : plb (dsp B a b) (B a 4) = 0 ↔ ∀ k, k < B a 4 → (B b 1 ||| B b 2).testBit (B a (6 + k) / 2) = false ∧ ∀ q, q < B b 4 → B b (6 + q) ≠ B a (6 + k) ^^^ 1 := by
  rw [plb_01, fb_ct_zero]
  constructor
  · intro h k hk
    have := h k hk
    unfold dsp at this
    rw [Bool.or_eq_false_iff, decide_eq_false_iff_not] at this
    refine ⟨this.1, fun q hq => ?_⟩
    exact of_decide_eq_false (fb_ct_zero.mp (Decidable.of_not_not this.2) q hq)
  · intro h k hk
    unfold dsp
    rw [(h k hk).1, Bool.false_or, decide_eq_false_iff_not, Decidable.not_not]
    exact fb_ct_zero.mpr fun q hq => decide_eq_false ((h k hk).2 q hq)
theorem com_iff {n : Nat} {B : Nat → Nat → Nat} (hB : gB n B) {i j : Nat} (hi : i < 8) (hj : j < 8) : ((decide ((sfm B i ||| ufm B i) &&& (B j 1 ||| B j 2) = 0) && decide ((sfm B j ||| ufm B j) &&& (B i 1 ||| B i 2) = 0) && decide (sfm B i &&& ufm B j = 0) && decide (ufm B i &&& sfm B j = 0)) = true) ↔ plb (dsp B i j) (B i 4) = 0 ∧ plb (dsp B j i) (B j 4) = 0 := by
  have g4 : ∀ a, a < 8 → B a 4 ≤ 4 := fun a ha => gB_4 hB ha
  have g6 : ∀ a k, a < 8 → k < B a 4 → B a (6 + k) < 12 := fun a k ha hk => gB_6 hB ha (by have := g4 a ha; omega)
  have ch : ∀ a f, (sfm B a ||| ufm B a).testBit f = true ↔ ∃ k, k < B a 4 ∧ B a (6 + k) / 2 = f := fun a f => by
    rw [Nat.testBit_or, Bool.or_eq_true, sfm_bit, ufm_bit]
    constructor
    · rintro (⟨k, hk, -, h⟩ | ⟨k, hk, -, h⟩) <;> exact ⟨k, hk, h⟩
    · rintro ⟨k, hk, h⟩
      by_cases z : B a (6 + k) % 2 = 1
      · exact Or.inl ⟨k, hk, z, h⟩
      · exact Or.inr ⟨k, hk, z, h⟩
  rw [Bool.and_eq_true, Bool.and_eq_true, Bool.and_eq_true, decide_eq_true_eq, decide_eq_true_eq, decide_eq_true_eq, decide_eq_true_eq, and0_iff, and0_iff, and0_iff, and0_iff, dst_iff, dst_iff]
  constructor
  · rintro ⟨⟨⟨h1, h2⟩, h3⟩, h4⟩
    refine ⟨fun k hk => ⟨Bool.eq_false_iff.mpr fun z => h1 _ ⟨(ch i _).mpr ⟨k, hk, rfl⟩, z⟩, fun q hq e => ?_⟩, fun k hk => ⟨Bool.eq_false_iff.mpr fun z => h2 _ ⟨(ch j _).mpr ⟨k, hk, rfl⟩, z⟩, fun q hq e => ?_⟩⟩
    · obtain ⟨e1, e2⟩ := ((xor1 _ (g6 i k hi hk)).2 _ (g6 j q hj hq)).mp e
      by_cases z : B i (6 + k) % 2 = 1
      · exact h3 (B i (6 + k) / 2) ⟨sfm_bit.mpr ⟨k, hk, z, rfl⟩, ufm_bit.mpr ⟨q, hq, by omega, e1⟩⟩
      · exact h4 (B i (6 + k) / 2) ⟨ufm_bit.mpr ⟨k, hk, z, rfl⟩, sfm_bit.mpr ⟨q, hq, by omega, e1⟩⟩
    · obtain ⟨e1, e2⟩ := ((xor1 _ (g6 j k hj hk)).2 _ (g6 i q hi hq)).mp e
      by_cases z : B j (6 + k) % 2 = 1
      · exact h4 (B j (6 + k) / 2) ⟨ufm_bit.mpr ⟨q, hq, by omega, e1⟩, sfm_bit.mpr ⟨k, hk, z, rfl⟩⟩
      · exact h3 (B j (6 + k) / 2) ⟨sfm_bit.mpr ⟨q, hq, by omega, e1⟩, ufm_bit.mpr ⟨k, hk, z, rfl⟩⟩
  · rintro ⟨h1, h2⟩
    refine ⟨⟨⟨fun f => ?_, fun f => ?_⟩, fun f => ?_⟩, fun f => ?_⟩
    · rintro ⟨a, b⟩
      obtain ⟨k, hk, e⟩ := (ch i f).mp a
      rw [← e, (h1 k hk).1] at b
      exact absurd b (by decide)
    · rintro ⟨a, b⟩
      obtain ⟨k, hk, e⟩ := (ch j f).mp a
      rw [← e, (h2 k hk).1] at b
      exact absurd b (by decide)
    · rintro ⟨a, b⟩
      obtain ⟨k, hk, z, e⟩ := sfm_bit.mp a
      obtain ⟨q, hq, z2, e2⟩ := ufm_bit.mp b
      exact (h1 k hk).2 q hq (((xor1 _ (g6 i k hi hk)).2 _ (g6 j q hj hq)).mpr ⟨by omega, by omega⟩)
    · rintro ⟨a, b⟩
      obtain ⟨k, hk, z, e⟩ := ufm_bit.mp a
      obtain ⟨q, hq, z2, e2⟩ := sfm_bit.mp b
      exact (h1 k hk).2 q hq (((xor1 _ (g6 i k hi hk)).2 _ (g6 j q hj hq)).mpr ⟨by omega, by omega⟩)
theorem com_on {n : Nat} {B : Nat → Nat → Nat} (hB : gB n B) {i j : Nat} (hi : i < 8) (hj : j < 8) (h1 : B i 3 ≠ 0) (h2 : B j 3 ≠ 0) : com B i j = true ↔ (trg B i ||| trg B j) &&& (2 ^ i ||| 2 ^ j) = 0 ∧ plb (dsp B i j) (B i 4) = 0 ∧ plb (dsp B j i) (B j 4) = 0 := by
  have := com_iff hB hi hj
  unfold com
  rw [decide_eq_false h1, decide_eq_false h2, Bool.false_or, Bool.false_or, ← this]
  simp only [Bool.and_assoc, Bool.and_eq_true, decide_eq_true_eq]
theorem com_off {B : Nat → Nat → Nat} {i j : Nat} (h : B i 3 = 0 ∨ B j 3 = 0) : com B i j = true := by
  unfold com
  rcases h with h | h
  · rw [decide_eq_true h]; rfl
  · rw [decide_eq_true h, Bool.or_true]; rfl
/-! conflicts below n -/
theorem cin_n {n : Nat} {B : Nat → Nat → Nat} (hB : gB n B) (a : Nat) : cin B a 8 = cin B a n := by
  have step : ∀ d, n + d ≤ 8 → cin B a (n + d) = cin B a n := by
    intro d
    induction d with
    | zero => intro _; rfl
    | succ d ih =>
      intro hd
      rw [← ih (by omega)]
      show fb_ct _ (n + d + 1) = _
      rw [fb_ct_succ, if_neg (by rw [cnf_off2 hB (by omega) (by omega), Bool.and_false]; decide)]
      rfl
  have := step (8 - n) (by have := hB.1; omega)
  rw [show n + (8 - n) = 8 by have := hB.1; omega] at this
  exact this
theorem cou_n {n : Nat} {B : Nat → Nat → Nat} (hB : gB n B) : cou B 8 = cou B n := by
  have step : ∀ d, n + d ≤ 8 → cou B (n + d) = cou B n := by
    intro d
    induction d with
    | zero => intro _; rfl
    | succ d ih =>
      intro hd
      rw [← ih (by omega)]
      show cou B (n + d + 1) = _
      rw [cou_s, show cin B (n + d) 8 = 0 from fb_ct_zero.mpr fun k _ => by rw [cnf_off1 hB (by omega) (by omega), Bool.and_false], Nat.add_zero]
  have := step (8 - n) (by have := hB.1; omega)
  rw [show n + (8 - n) = 8 by have := hB.1; omega] at this
  exact this
theorem cou_mono (B : Nat → Nat → Nat) {a b : Nat} (h : a ≤ b) : cou B a ≤ cou B b := by
  have := fb_sm_mono (fun a' => cin B a' 8) a (b - a)
  rw [show a + (b - a) = b by omega] at this
  exact this
theorem cin_mono (B : Nat → Nat → Nat) (a : Nat) {b c : Nat} (h : b ≤ c) : cin B a b ≤ cin B a c := fb_ct_mono _ h
/-- a conflict's index stands below their number, and is its own -/
theorem cou_below {B : Nat → Nat → Nat} {a b : Nat} (hab : a < b) (hb : b < 8) (h : cnf B a b = true) : cou B a + cin B a b < cou B 8 := by
  have h1 := cin_s (B := B) hab
  rw [if_pos h] at h1
  have h2 := cin_mono B a (show b + 1 ≤ 8 by omega)
  have h3 := cou_s B a
  have h4 := cou_mono B (show a + 1 ≤ 8 by omega)
  omega
theorem cou_one {B : Nat → Nat → Nat} {a b a' b' : Nat} (hab : a < b) (hb : b < 8) (h : cnf B a b = true) (hab' : a' < b') (hb' : b' < 8) (h' : cnf B a' b' = true) (e : cou B a + cin B a b = cou B a' + cin B a' b') : a = a' ∧ b = b' := by
  have key : ∀ a b a' b', a < b → b < 8 → cnf B a b = true → cou B a + cin B a b = cou B a' + cin B a' b' → ¬ a < a' := by
    intro a b a' b' hab hb h e hlt
    have h1 := cin_s (B := B) hab
    rw [if_pos h] at h1
    have h2 := cin_mono B a (show b + 1 ≤ 8 by omega)
    have h3 := cou_s B a
    have h4 := cou_mono B (show a + 1 ≤ a' by omega)
    omega
  have ea : a = a' := by
    have k1 := key a b a' b' hab hb h e
    have k2 := key a' b' a b hab' hb' h' e.symm
    omega
  subst ea
  have key2 : ∀ b b', a < b → cnf B a b = true → cin B a b = cin B a b' → ¬ b < b' := by
    intro b b' hab h e hlt
    have h1 := cin_s (B := B) hab
    rw [if_pos h] at h1
    have h2 := cin_mono B a (show b + 1 ≤ b' by omega)
    omega
  have k1 := key2 b b' hab h (by omega)
  have k2 := key2 b' b hab' h' (by omega)
  exact ⟨rfl, by omega⟩
theorem cou_find {B : Nat → Nat → Nat} {i : Nat} : ∀ k, k ≤ 8 → i < cou B k → ∃ a b, a < b ∧ b < 8 ∧ cnf B a b = true ∧ i = cou B a + cin B a b
  | 0, _, h => absurd h (Nat.not_lt_zero i)
  | k + 1, hk, h => by
    rcases Nat.lt_or_ge i (cou B k) with q | q
    · exact cou_find k (by omega) q
    · rw [cou_s] at h
      obtain ⟨b, hb, hp, he⟩ := fb_ct_kth (p := fun b' => decide (k < b') && cnf B k b') (k := i - cou B k) (n := 8) (by have : fb_ct (fun b' => decide (k < b') && cnf B k b') 8 = cin B k 8 := rfl; omega)
      rw [Bool.and_eq_true, decide_eq_true_eq] at hp
      exact ⟨k, b, hp.1, hb, hp.2, by have : fb_ct (fun b' => decide (k < b') && cnf B k b') b = cin B k b := rfl; omega⟩
