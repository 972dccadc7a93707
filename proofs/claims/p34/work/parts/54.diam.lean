/-! No rule above another one, no conflicts: plays commute, and all ways to an end are as long. -/
theorem xor_tb {f p j : Nat} : (f ^^^ 2 ^ p).testBit j = (f.testBit j ^^ decide (j = p)) := fb_bit_flip f p j
theorem chg_com {B : Nat → Nat → Nat} {x a b : Nat} (ha : a < 12) (hb : b < 12) (h : a / 2 = b / 2 → a = b) : chg B (chg B x a) b = chg B (chg B x b) a := by
  by_cases e : a = b
  · rw [e]
  · have hd : a / 2 ≠ b / 2 := fun z => e (h z)
    have k1 : (chg B x a % 64).testBit (b / 2) = (x % 64).testBit (b / 2) := by
      rw [chg_f ha]
      split
      · rfl
      · rw [xor_tb, decide_eq_false (fun z => hd z.symm), Bool.xor_false]
    have k2 : (chg B x b % 64).testBit (a / 2) = (x % 64).testBit (a / 2) := by
      rw [chg_f hb]
      split
      · rfl
      · rw [xor_tb, decide_eq_false hd, Bool.xor_false]
    refine x64_eq ?_ ?_
    · rw [chg_t (x := chg B x a) hb, chg_t (x := chg B x b) ha, k1, k2, chg_t (x := x) ha, chg_t (x := x) hb]
      by_cases c1 : (x % 64).testBit (a / 2) = decide (a % 2 = 1)
      · rw [if_pos c1, if_pos c1]
      · rw [if_neg c1, if_neg c1]
        by_cases c2 : (x % 64).testBit (b / 2) = decide (b % 2 = 1)
        · rw [if_pos c2, if_pos c2]
        · rw [if_neg c2, if_neg c2, Nat.or_assoc, Nat.or_assoc, Nat.or_comm (lis B a)]
    · rw [chg_f (x := chg B x a) hb, chg_f (x := chg B x b) ha, k1, k2, chg_f (x := x) ha, chg_f (x := x) hb]
      by_cases c1 : (x % 64).testBit (a / 2) = decide (a % 2 = 1)
      · rw [if_pos c1, if_pos c1]
      · rw [if_neg c1, if_neg c1]
        by_cases c2 : (x % 64).testBit (b / 2) = decide (b % 2 = 1)
        · rw [if_pos c2, if_pos c2]
        · rw [if_neg c2, if_neg c2, Nat.xor_assoc, Nat.xor_assoc, Nat.xor_comm (2 ^ (a / 2))]
theorem clr_or {t u i : Nat} (ht : t < 256) (hu : u < 256) (h : u.testBit i = false) : clr (t ||| u) i = clr t i ||| u := by
  refine Nat.eq_of_testBit_eq fun j => ?_
  rw [clr_tb, Nat.testBit_or, Nat.testBit_or, clr_tb]
  rcases Nat.lt_or_ge j 8 with q | q
  · rw [decide_eq_true q, Bool.true_and, Bool.true_and]
    by_cases e : j = i
    · rw [e, h, decide_eq_false (fun z => z rfl)]
      simp
    · rw [decide_eq_true e, Bool.and_true, Bool.and_true]
  · rw [decide_eq_false (by omega), Bool.false_and, Bool.false_and, t8 hu q]
    rfl
theorem chg_cl {B : Nat → Nat → Nat} {x a i : Nat} (hx : x < 16384) (ha : a < 12) (h : (lis B a).testBit i = false) : chg B (cl i x) a = cl i (chg B x a) := by
  refine x64_eq ?_ ?_
  · rw [chg_t ha, cl_f, cl_t, cl_t, chg_t ha]
    split
    · rfl
    · exact (clr_or (by omega) (lis_lt B a) h).symm
  · rw [chg_f ha, cl_f, cl_f, chg_f ha]
theorem clr_clr (t i j : Nat) : clr (clr t i) j = clr (clr t j) i := by
  refine Nat.eq_of_testBit_eq fun k => ?_
  rw [clr_tb, clr_tb, clr_tb, clr_tb]
  cases decide (k < 8) <;> cases t.testBit k <;> cases decide (k ≠ i) <;> cases decide (k ≠ j) <;> rfl
theorem cl_cl (i j x : Nat) : cl i (cl j x) = cl j (cl i x) := by
  refine x64_eq ?_ ?_
  · rw [cl_t, cl_t, cl_t, cl_t]; exact clr_clr _ _ _
  · rw [cl_f, cl_f, cl_f, cl_f]
theorem cl_lt {i x : Nat} (hx : x < 16384) : cl i x < 16384 := by
  have := clr_lt (x / 64) i
  unfold cl
  omega
theorem lis_no {B : Nat → Nat → Nat} {i k j : Nat} (h : (trgs B i (k + 1)).testBit j = false) : (trgs B i k).testBit j = false ∧ (lis B (B i (6 + k))).testBit j = false := by
  have h : (trgs B i k ||| lis B (B i (6 + k))).testBit j = false := h
  rw [Nat.testBit_or] at h
  exact (Bool.or_eq_false_iff).mp h
theorem plys_cl {n : Nat} {B : Nat → Nat → Nat} (hB : gB n B) {i j y : Nat} (hj : j < 8) (hy : y < 16384) : ∀ k, k ≤ B j 4 → (trgs B j k).testBit i = false → plys B j (cl i y) k = cl i (plys B j y k)
  | 0, _, _ => rfl
  | k + 1, hk, h => by
    have h4 := gB_4 hB hj
    obtain ⟨h1, h2⟩ := lis_no h
    show chg B (plys B j (cl i y) k) (B j (6 + k)) = cl i (chg B (plys B j y k) (B j (6 + k)))
    rw [plys_cl hB hj hy k (by omega) h1]
    exact chg_cl (plys_lt hB hj hy k (by omega)) (gB_6 hB hj (by omega)) h2
theorem plys_chg {n : Nat} {B : Nat → Nat → Nat} (hB : gB n B) {i a y : Nat} (hi : i < 8) (ha : a < 12) : ∀ k, k ≤ B i 4 → (∀ q, q < k → B i (6 + q) / 2 = a / 2 → B i (6 + q) = a) → chg B (plys B i y k) a = plys B i (chg B y a) k
  | 0, _, _ => rfl
  | k + 1, hk, h => by
    have h4 := gB_4 hB hi
    show chg B (chg B (plys B i y k) (B i (6 + k))) a = chg B (plys B i (chg B y a) k) (B i (6 + k))
    rw [chg_com (gB_6 hB hi (by omega)) ha (h k (by omega)), plys_chg hB hi ha k (by omega) (fun q hq => h q (by omega))]
theorem plys_plys {n : Nat} {B : Nat → Nat → Nat} (hB : gB n B) {i j y : Nat} (hi : i < 8) (hj : j < 8) (h : ∀ q m, q < B i 4 → m < B j 4 → B i (6 + q) / 2 = B j (6 + m) / 2 → B i (6 + q) = B j (6 + m)) : ∀ k, k ≤ B j 4 → plys B j (plys B i y (B i 4)) k = plys B i (plys B j y k) (B i 4)
  | 0, _ => rfl
  | k + 1, hk => by
    have h4 := gB_4 hB hj
    show chg B (plys B j (plys B i y (B i 4)) k) (B j (6 + k)) = plys B i (chg B (plys B j y k) (B j (6 + k))) (B i 4)
    rw [plys_plys hB hi hj h k (by omega)]
    exact plys_chg hB hi (gB_6 hB hj (by omega)) _ (Nat.le_refl _) fun q hq => h q k hq (by omega)
theorem and_flip {f p m : Nat} (h : m.testBit p = false) : (f ^^^ 2 ^ p) &&& m = f &&& m := by
  refine Nat.eq_of_testBit_eq fun j => ?_
  rw [Nat.testBit_and, Nat.testBit_and, xor_tb]
  by_cases e : j = p
  · rw [e, h, Bool.and_false, Bool.and_false]
  · rw [decide_eq_false e, Bool.xor_false]
theorem hol_chg {B : Nat → Nat → Nat} {i x a : Nat} (ha : a < 12) (h : (B i 1 ||| B i 2).testBit (a / 2) = false) : hol B i (chg B x a % 64) = hol B i (x % 64) := by
  rw [Nat.testBit_or] at h
  obtain ⟨h1, h2⟩ := (Bool.or_eq_false_iff).mp h
  rw [chg_f ha]
  split
  · rfl
  · unfold hol
    rw [and_flip h1, and_flip h2]
theorem hol_plys {n : Nat} {B : Nat → Nat → Nat} (hB : gB n B) {i j y : Nat} (hj : j < 8) : ∀ k, k ≤ B j 4 → (∀ q, q < k → (B i 1 ||| B i 2).testBit (B j (6 + q) / 2) = false) → hol B i (plys B j y k % 64) = hol B i (y % 64)
  | 0, _, _ => rfl
  | k + 1, hk, h => by
    have h4 := gB_4 hB hj
    show hol B i (chg B (plys B j y k) (B j (6 + k)) % 64) = _
    rw [hol_chg (gB_6 hB hj (by omega)) (h k (by omega))]
    exact hol_plys hB hj k (by omega) fun q hq => h q (by omega)
theorem hol_ply {n : Nat} {B : Nat → Nat → Nat} (hB : gB n B) {i j x : Nat} (hj : j < 8) (h : ∀ q, q < B j 4 → (B i 1 ||| B i 2).testBit (B j (6 + q) / 2) = false) : hol B i (ply B j x % 64) = hol B i (x % 64) := by
  rw [ply_e]
  split
  · rw [hol_plys hB hj _ (Nat.le_refl _) h, cl_f]
  · rw [cl_f]
/-- two rules that don't touch each other -/
def apt (B : Nat → Nat → Nat) (i j : Nat) : Prop := (trgs B i (B i 4)).testBit j = false ∧ (trgs B j (B j 4)).testBit i = false ∧ (∀ q, q < B j 4 → (B i 1 ||| B i 2).testBit (B j (6 + q) / 2) = false) ∧ (∀ q, q < B i 4 → (B j 1 ||| B j 2).testBit (B i (6 + q) / 2) = false) ∧ ∀ q m, q < B i 4 → m < B j 4 → B i (6 + q) / 2 = B j (6 + m) / 2 → B i (6 + q) = B j (6 + m)
theorem ply_ply {n : Nat} {B : Nat → Nat → Nat} (hB : gB n B) {i j x : Nat} (hi : i < 8) (hj : j < 8) (hx : x < 16384) (h : apt B i j) : ply B i (ply B j x) = ply B j (ply B i x) := by
  obtain ⟨h1, h2, h3, h4, h5⟩ := h
  rw [ply_e B i (ply B j x), ply_e B j (ply B i x), hol_ply hB hj h3, hol_ply hB hi h4, ply_e B j x, ply_e B i x]
  by_cases c1 : hol B i (x % 64) = true
  · rw [if_pos c1, if_pos c1]
    by_cases c2 : hol B j (x % 64) = true
    · rw [if_pos c2, if_pos c2, ← plys_cl hB hj (cl_lt hx) _ (Nat.le_refl _) h2, ← plys_cl hB hi (cl_lt hx) _ (Nat.le_refl _) h1, cl_cl i j]
      exact (plys_plys hB hi hj h5 _ (Nat.le_refl _)).symm
    · rw [if_neg c2, if_neg c2, ← plys_cl hB hi (cl_lt hx) _ (Nat.le_refl _) h1, cl_cl i j]
  · rw [if_neg c1, if_neg c1]
    by_cases c2 : hol B j (x % 64) = true
    · rw [if_pos c2, if_pos c2, ← plys_cl hB hj (cl_lt hx) _ (Nat.le_refl _) h2, cl_cl i j]
    · rw [if_neg c2, if_neg c2, cl_cl i j]
/-! what 'commute' says -/
theorem sfm_bit {B : Nat → Nat → Nat} {i q : Nat} (hq : q < B i 4) (h : B i (6 + q) % 2 = 1) : (sfm B i).testBit (B i (6 + q) / 2) = true := by
  refine (orf_bit _).mpr ⟨q, hq, ?_⟩
  show (if B i (6 + q) % 2 = 1 then 2 ^ (B i (6 + q) / 2) else 0).testBit _ = true
  rw [if_pos h, Nat.testBit_two_pow_self]
theorem ufm_bit {B : Nat → Nat → Nat} {i q : Nat} (hq : q < B i 4) (h : ¬ B i (6 + q) % 2 = 1) : (ufm B i).testBit (B i (6 + q) / 2) = true := by
  refine (orf_bit _).mpr ⟨q, hq, ?_⟩
  show (if B i (6 + q) % 2 = 1 then 0 else 2 ^ (B i (6 + q) / 2)).testBit _ = true
  rw [if_neg h, Nat.testBit_two_pow_self]
theorem sufm_bit {B : Nat → Nat → Nat} {i q : Nat} (hq : q < B i 4) : (sfm B i ||| ufm B i).testBit (B i (6 + q) / 2) = true := by
  rw [Nat.testBit_or]
  by_cases h : B i (6 + q) % 2 = 1
  · rw [sfm_bit hq h, Bool.true_or]
  · rw [ufm_bit hq h, Bool.or_true]
theorem and0_f {a b j : Nat} (h : a &&& b = 0) (ha : a.testBit j = true) : b.testBit j = false := by
  cases hb : b.testBit j with
  | false => rfl
  | true => exact absurd ⟨ha, hb⟩ (and0_iff.mp h j)
theorem apt_com {B : Nat → Nat → Nat} {i j : Nat} (hi : B i 3 = 1) (hj : B j 3 = 1) (h : com B i j = true) : apt B i j ∧ (trgs B i (B i 4)).testBit i = false ∧ (trgs B j (B j 4)).testBit j = false := by
  unfold com at h
  rw [decide_eq_false (show ¬ B i 3 = 0 by omega), decide_eq_false (show ¬ B j 3 = 0 by omega), Bool.false_or, Bool.false_or] at h
  obtain ⟨h, h5⟩ := (Bool.and_eq_true _ _).mp h
  obtain ⟨h, h4⟩ := (Bool.and_eq_true _ _).mp h
  obtain ⟨h, h3⟩ := (Bool.and_eq_true _ _).mp h
  obtain ⟨h1, h2⟩ := (Bool.and_eq_true _ _).mp h
  have h1 := of_decide_eq_true h1
  have h2 := of_decide_eq_true h2
  have h3 := of_decide_eq_true h3
  have h4 := of_decide_eq_true h4
  have h5 := of_decide_eq_true h5
  rw [show trg B i = trgs B i (B i 4) from if_neg (by omega), show trg B j = trgs B j (B j 4) from if_neg (by omega), Nat.and_comm] at h1
  have bi : (2 ^ i ||| 2 ^ j).testBit i = true := by rw [Nat.testBit_or, Nat.testBit_two_pow_self, Bool.true_or]
  have bj : (2 ^ i ||| 2 ^ j).testBit j = true := by rw [Nat.testBit_or, Nat.testBit_two_pow_self (n := j), Bool.or_true]
  have ti := and0_f h1 bi
  have tj := and0_f h1 bj
  rw [Nat.testBit_or] at ti tj
  obtain ⟨ti1, ti2⟩ := (Bool.or_eq_false_iff).mp ti
  obtain ⟨tj1, tj2⟩ := (Bool.or_eq_false_iff).mp tj
  refine ⟨⟨tj1, ti2, fun q hq => and0_f h3 (sufm_bit hq), fun q hq => and0_f h2 (sufm_bit hq), fun q m hq hm e => ?_⟩, ti1, tj2⟩
  by_cases z1 : B i (6 + q) % 2 = 1
  · by_cases z2 : B j (6 + m) % 2 = 1
    · omega
    · have a1 := and0_f h4 (sfm_bit hq z1)
      rw [e, ufm_bit hm z2] at a1
      exact absurd a1 (by decide)
  · by_cases z2 : B j (6 + m) % 2 = 1
    · have a1 := and0_f h5 (ufm_bit hq z1)
      rw [e, sfm_bit hm z2] at a1
      exact absurd a1 (by decide)
    · omega
theorem apt_sym {B : Nat → Nat → Nat} {i j : Nat} (h : apt B i j) : apt B j i := ⟨h.2.1, h.1, h.2.2.2.1, h.2.2.1, fun q m hq hm e => (h.2.2.2.2 m q hm hq e.symm).symm⟩
/-- no order -/
def fre (B : Nat → Nat → Nat) : Prop := ∀ i, i < 8 → B i 5 = 0
theorem cou_0 {B : Nat → Nat → Nat} (h : cou B 8 = 0) {i j : Nat} (hi : i < j) (hj : j < 8) : cnf B i j = false := by
  have h1 : cin B i 8 = 0 := fb_sm_zero h i (by omega)
  have h2 := fb_ct_zero.mp h1 j hj
  rw [decide_eq_true hi, Bool.true_and] at h2
  exact h2
theorem fre_com {B : Nat → Nat → Nat} (hf : fre B) (h : cou B 8 = 0) {i j : Nat} (hi : i < j) (hj : j < 8) : com B i j = true := by
  have h1 := cou_0 h hi hj
  unfold cnf at h1
  rw [hf i (by omega), hf j hj, Nat.zero_testBit, Nat.zero_testBit] at h1
  cases hh : com B i j with
  | true => rfl
  | false => rw [hh] at h1; exact absurd h1 (by decide)
theorem fre_apt {B : Nat → Nat → Nat} (hf : fre B) (h : cou B 8 = 0) {i j : Nat} (hi : i < 8) (hj : j < 8) (hij : i ≠ j) (h1 : B i 3 = 1) (h2 : B j 3 = 1) : apt B i j := by
  rcases Nat.lt_or_ge i j with z | z
  · exact (apt_com h1 h2 (fre_com hf h z hj)).1
  · exact apt_sym (apt_com h2 h1 (fre_com hf h (show j < i by omega) hi)).1
theorem fre_rdy {B : Nat → Nat → Nat} (hf : fre B) {t i : Nat} (ht : t < 256) : (rdy B t).testBit i = true ↔ t.testBit i = true := by
  rw [rdy_bit ht]
  exact ⟨fun h => h.1, fun h => ⟨h, fun j hj _ => by rw [hf j hj, Nat.zero_testBit]⟩⟩
/-! the diamond -/
theorem dia {n : Nat} {B : Nat → Nat → Nat} (hB : gB n B) (hf : fre B) (h0 : cou B 8 = 0) : ∀ m x e, onx B x → x < 64 * 2 ^ n → pth B m x e → e / 64 = 0 → ∀ r, r < 8 → (rdy B (x / 64)).testBit r = true → ∃ k, m = k + 1 ∧ pth B k (ply B r x) e
  | 0, x, e, _, _, h, he, r, _, hb => by
    have h : x = e := h
    rw [h, he, rdy_z, Nat.zero_testBit] at hb
    exact absurd hb (by decide)
  | m + 1, x, e, ho, hx, h, he, r, hr, hb => by
    obtain ⟨r1, hr1, hb1, hp⟩ := h
    refine ⟨m, rfl, ?_⟩
    by_cases e1 : r = r1
    · rw [e1]; exact hp
    · have ht := eAll_t hB hx
      have t1 := rdy_trg hb hr
      have t2 := rdy_trg hb1 hr1
      have hx1 := ply_bits hB hr1 hx
      have hx2 := ply_bits hB hr hx
      have g1 : (rdy B (ply B r1 x / 64)).testBit r = true := (fre_rdy hf (eAll_t hB hx1)).mpr (ply_up hB hr1 hr e1 t1)
      have g2 : (rdy B (ply B r x / 64)).testBit r1 = true := (fre_rdy hf (eAll_t hB hx2)).mpr (ply_up hB hr hr1 (fun z => e1 z.symm) t2)
      obtain ⟨k, hk, hp2⟩ := dia hB hf h0 m _ e (onx_ply hB hr1 ho) hx1 hp he r hr g1
      have h2n := pn8 hB.1
      rw [ply_ply hB hr hr1 (show x < 16384 by omega) (fre_apt hf h0 hr hr1 e1 (ho _ t1) (ho _ t2))] at hp2
      rw [hk]
      exact ⟨r1, hr1, g2, hp2⟩
theorem dia_all {n : Nat} {B : Nat → Nat → Nat} (hB : gB n B) (hf : fre B) (h0 : cou B 8 = 0) {e : Nat} (he : e / 64 = 0) : ∀ k m x y, onx B x → x < 64 * 2 ^ n → pth B m x e → pth B k x y → ∃ d, m = k + d ∧ pth B d y e
  | 0, m, x, y, _, _, h, h2 => by
    have h2 : x = y := h2
    subst h2
    exact ⟨m, by omega, h⟩
  | k + 1, m, x, y, ho, hx, h, h2 => by
    obtain ⟨r, hr, hb, hp⟩ := h2
    obtain ⟨m1, hm, h3⟩ := dia hB hf h0 m x e ho hx h he r hr hb
    obtain ⟨d, hd, h4⟩ := dia_all hB hf h0 he k m1 _ y (onx_ply hB hr ho) (ply_bits hB hr hx) h3 hp
    exact ⟨d, by omega, h4⟩
theorem pth_0 {B : Nat → Nat → Nat} {k y e : Nat} (hy : y / 64 = 0) (h : pth B k y e) : k = 0 ∧ y = e := by
  cases k with
  | zero => exact ⟨rfl, h⟩
  | succ k =>
    obtain ⟨r, -, hb, -⟩ := h
    rw [hy, rdy_z, Nat.zero_testBit] at hb
    exact absurd hb (by decide)
/-- with an end j0: all ways are as long, one end, no circle -/
theorem dia_e {n : Nat} {B : Nat → Nat → Nat} (hB : gB n B) (hf : fre B) (h0 : cou B 8 = 0) {x0 c : Nat} {S D N : Nat → Nat} (hx : x0 < 64 * 2 ^ n) (ho : onx B x0) (h : eAll n B x0 c S D N) {j0 : Nat} (hj0 : j0 < c) (he : S j0 / 64 = 0) :
    (∀ j, j < c → S j / 64 = 0 → j = j0) ∧ (∀ j, j < c → D j ≤ D j0 ∧ pth B (D j0 - D j) (S j) (S j0)) ∧ eqL c N (fun j => D j0 - D j) ∧ acy c N := by
  have hA := h
  obtain ⟨h1, h2, h3, h4, h5, h6, h7, h8⟩ := h
  have hp0 := (h7 j0 hj0).1
  have hall : ∀ j, j < c → D j ≤ D j0 ∧ pth B (D j0 - D j) (S j) (S j0) := fun j hj => by
    obtain ⟨d, hd, hp⟩ := dia_all hB hf h0 he (D j) (D j0) x0 (S j) ho hx hp0 (h7 j hj).1
    exact ⟨by omega, by rw [show D j0 - D j = d by omega]; exact hp⟩
  have hone : ∀ j, j < c → S j / 64 = 0 → j = j0 := fun j hj hz => h3 j j0 hj hj0 (pth_0 hz (hall j hj).2).2
  have hedge : ∀ j r, j < c → r < 8 → N (8 * j + r) ≠ 0 → N (8 * j + r) - 1 < c ∧ D j0 - D (N (8 * j + r) - 1) + 1 = D j0 - D j := by
    intro j r hj hr hz
    obtain ⟨k1, k2⟩ := (h8 j r hj hr).2 hz
    have hi : N (8 * j + r) - 1 < c := by omega
    refine ⟨hi, ?_⟩
    have hb : (rdy B (S j / 64)).testBit r = true := by
      cases hh : (rdy B (S j / 64)).testBit r with
      | true => rfl
      | false => exact absurd ((h8 j r hj hr).1.mpr hh) hz
    have hoj := pth_on hB _ _ _ ho hx (h7 j hj).1
    obtain ⟨k, hk, hp⟩ := dia hB hf h0 _ _ _ hoj.1 hoj.2 (hall j hj).2 he r hr hb
    rw [← k2] at hp
    have hoi := pth_on hB _ _ _ ho hx (h7 _ hi).1
    obtain ⟨d, hd, hp2⟩ := dia_all hB hf h0 he _ _ _ _ hoi.1 hoi.2 hp (hall _ hi).2
    have := (pth_0 he hp2).1
    omega
  refine ⟨hone, hall, fun j hj => ?_, fun j => D j0 - D j, fun e he2 hN => ?_⟩
  · show D j0 - D j = mx (eL N (fun j => D j0 - D j) j) 8
    have hle : mx (eL N (fun j => D j0 - D j) j) 8 ≤ D j0 - D j := mx_le 8 fun r hr => by
      unfold eL
      by_cases z : N (8 * j + r) = 0
      · rw [if_pos z]; exact Nat.zero_le _
      · rw [if_neg z]
        exact Nat.le_of_eq (hedge j r hj hr z).2
    refine Nat.le_antisymm ?_ hle
    cases hn : noE N j with
    | true =>
      have := hone j hj ((eAll_end hB hA hj).mp hn)
      rw [this, Nat.sub_self]
      exact Nat.zero_le _
    | false =>
      obtain ⟨r, hr, hz⟩ := noE_f hn
      have h9 := mx_ge (eL N (fun j => D j0 - D j) j) 8 r hr
      have e9 : eL N (fun j => D j0 - D j) j r = D j0 - D (N (8 * j + r) - 1) + 1 := if_neg hz
      have := (hedge j r hj hr hz).2
      omega
  · have h9 := (hedge (e / 8) (e % 8) (by omega) (by omega) (by rw [show 8 * (e / 8) + e % 8 = e by omega]; exact hN)).2
    rw [show 8 * (e / 8) + e % 8 = e by omega] at h9
    show D j0 - D (N e - 1) < D j0 - D (e / 8)
    omega
theorem one_ct {p : Nat → Bool} {c j0 : Nat} (hj : j0 < c) (h0 : p j0 = true) (h : ∀ j, j < c → p j = true → j = j0) : fb_ct p c = 1 := by
  have h1 := fb_ct_pos.mpr ⟨j0, hj, h0⟩
  refine Decidable.byContradiction fun z => ?_
  obtain ⟨i, hi, hp, e1⟩ := fb_ct_kth (p := p) (k := 0) (n := c) (by omega)
  obtain ⟨i2, hi2, hp2, e2⟩ := fb_ct_kth (p := p) (k := 1) (n := c) (by omega)
  rw [h i hi hp] at e1
  rw [h i2 hi2 hp2] at e2
  omega
