/-! Playing as steps; what the exploration's edges say. -/
theorem xm64 {t f : Nat} (hf : f < 64) : (64 * t + f) / 64 = t ∧ (64 * t + f) % 64 = f := by omega
theorem x64_eq {x y : Nat} (h1 : x / 64 = y / 64) (h2 : x % 64 = y % 64) : x = y := by omega
theorem tb64 {x j : Nat} (hj : j < 6) : (x % 64).testBit j = x.testBit j := by
  rw [show (64 : Nat) = 2 ^ 6 from rfl, Nat.testBit_mod_two_pow, decide_eq_true hj, Bool.true_and]
theorem chg_fl {x a : Nat} (ha : a < 12) : x % 64 ^^^ 2 ^ (a / 2) < 64 := Nat.xor_lt_two_pow (n := 6) (by omega) (pow_lt6 (by omega))
theorem chg_t {B : Nat → Nat → Nat} {x a : Nat} (ha : a < 12) : chg B x a / 64 = if (x % 64).testBit (a / 2) = decide (a % 2 = 1) then x / 64 else x / 64 ||| lis B a := by
  unfold chg
  rw [tb64 (x := x) (j := a / 2) (by omega)]
  split
  · rfl
  · exact (xm64 (chg_fl ha)).1
theorem chg_f {B : Nat → Nat → Nat} {x a : Nat} (ha : a < 12) : chg B x a % 64 = if (x % 64).testBit (a / 2) = decide (a % 2 = 1) then x % 64 else x % 64 ^^^ 2 ^ (a / 2) := by
  unfold chg
  rw [tb64 (x := x) (j := a / 2) (by omega)]
  split
  · rfl
  · exact (xm64 (chg_fl ha)).2
theorem chg_in {B : Nat → Nat → Nat} {x a j : Nat} (ha : a < 12) (h : (chg B x a / 64).testBit j = true) : (x / 64).testBit j = true ∨ (lis B a).testBit j = true := by
  rw [chg_t ha] at h
  split at h
  · exact Or.inl h
  · rw [Nat.testBit_or] at h
    exact (Bool.or_eq_true _ _).mp h
theorem chg_up {B : Nat → Nat → Nat} {x a j : Nat} (ha : a < 12) (h : (x / 64).testBit j = true) : (chg B x a / 64).testBit j = true := by
  rw [chg_t ha]
  split
  · exact h
  · rw [Nat.testBit_or, h, Bool.true_or]
theorem plys_in {n : Nat} {B : Nat → Nat → Nat} (hB : gB n B) {i y j : Nat} (hi : i < 8) : ∀ k, k ≤ B i 4 → (plys B i y k / 64).testBit j = true → (y / 64).testBit j = true ∨ (trgs B i k).testBit j = true
  | 0, _, h => Or.inl h
  | k + 1, hk, h => by
    have h4 := gB_4 hB hi
    show _ ∨ (trgs B i k ||| lis B (B i (6 + k))).testBit j = true
    rw [Nat.testBit_or]
    rcases chg_in (gB_6 hB hi (by omega)) h with z | z
    · rcases plys_in hB hi k (by omega) z with y1 | y1
      · exact Or.inl y1
      · exact Or.inr (by rw [y1, Bool.true_or])
    · exact Or.inr (by rw [z, Bool.or_true])
theorem plys_up {n : Nat} {B : Nat → Nat → Nat} (hB : gB n B) {i y j : Nat} (hi : i < 8) (h : (y / 64).testBit j = true) : ∀ k, k ≤ B i 4 → (plys B i y k / 64).testBit j = true
  | 0, _ => h
  | k + 1, hk => by
    have h4 := gB_4 hB hi
    exact chg_up (gB_6 hB hi (by omega)) (plys_up hB hi h k (by omega))
/-- a rule isn't triggered any more -/
def cl (i x : Nat) : Nat := 64 * clr (x / 64) i + x % 64
theorem cl_t (i x : Nat) : cl i x / 64 = clr (x / 64) i := (xm64 (by omega)).1
theorem cl_f (i x : Nat) : cl i x % 64 = x % 64 := (xm64 (by omega)).2
theorem clr_tb {t i j : Nat} : (clr t i).testBit j = (decide (j < 8) && (t.testBit j && decide (j ≠ i))) := by
  unfold clr
  rw [mks_bit]
theorem ply_e (B : Nat → Nat → Nat) (i x : Nat) : ply B i x = if hol B i (x % 64) then plys B i (cl i x) (B i 4) else cl i x := rfl
theorem ply_in {n : Nat} {B : Nat → Nat → Nat} (hB : gB n B) {i x j : Nat} (hi : i < 8) (h : (ply B i x / 64).testBit j = true) : ((x / 64).testBit j = true ∧ j ≠ i) ∨ (trgs B i (B i 4)).testBit j = true := by
  have key : (cl i x / 64).testBit j = true → (x / 64).testBit j = true ∧ j ≠ i := fun z => by
    rw [cl_t, clr_tb] at z
    have z2 := ((Bool.and_eq_true _ _).mp z).2
    exact ⟨((Bool.and_eq_true _ _).mp z2).1, of_decide_eq_true ((Bool.and_eq_true _ _).mp z2).2⟩
  rw [ply_e] at h
  split at h
  · rcases plys_in hB hi _ (Nat.le_refl _) h with z | z
    · exact Or.inl (key z)
    · exact Or.inr z
  · exact Or.inl (key h)
theorem ply_up {n : Nat} {B : Nat → Nat → Nat} (hB : gB n B) {i x j : Nat} (hi : i < 8) (hj : j < 8) (hji : j ≠ i) (h : (x / 64).testBit j = true) : (ply B i x / 64).testBit j = true := by
  have key : (cl i x / 64).testBit j = true := by
    rw [cl_t, clr_tb, decide_eq_true hj, h, decide_eq_true hji]
    rfl
  rw [ply_e]
  split
  · exact plys_up hB hi key _ (Nat.le_refl _)
  · exact key
/-- all triggered rules are on -/
def onx (B : Nat → Nat → Nat) (x : Nat) : Prop := ∀ i, (x / 64).testBit i = true → B i 3 = 1
theorem lis_on {B : Nat → Nat → Nat} {e j : Nat} (h : (lis B e).testBit j = true) : B j 3 = 1 := by
  unfold lis at h
  rw [mks_bit] at h
  have h2 := ((Bool.and_eq_true _ _).mp h).2
  exact of_decide_eq_true ((Bool.and_eq_true _ _).mp h2).1
theorem onx_chg {B : Nat → Nat → Nat} {x a : Nat} (ha : a < 12) (h : onx B x) : onx B (chg B x a) := fun i hi => by
  rcases chg_in ha hi with z | z
  · exact h i z
  · exact lis_on z
theorem onx_ply {n : Nat} {B : Nat → Nat → Nat} (hB : gB n B) {x i : Nat} (hi : i < 8) (h : onx B x) : onx B (ply B i x) := fun j hj => by
  rcases ply_in hB hi hj with ⟨z, -⟩ | z
  · exact h j z
  · exact ((trgs_bit _).mp z).2.1
theorem onx_lt {B : Nat → Nat → Nat} {f : Nat} (hf : f < 64) : onx B f := fun i hi => by
  rw [show f / 64 = 0 by omega, Nat.zero_testBit] at hi
  exact absurd hi (by decide)
/-- k plays lead from x to y -/
def pth (B : Nat → Nat → Nat) : Nat → Nat → Nat → Prop
  | 0, x, y => x = y
  | k + 1, x, y => ∃ r, r < 8 ∧ (rdy B (x / 64)).testBit r = true ∧ pth B k (ply B r x) y
theorem pth_snoc {B : Nat → Nat → Nat} : ∀ k x y r, r < 8 → (rdy B (y / 64)).testBit r = true → pth B k x y → pth B (k + 1) x (ply B r y)
  | 0, x, y, r, hr, hb, h => by
    have h : x = y := h
    subst h
    exact ⟨r, hr, hb, rfl⟩
  | k + 1, x, y, r, hr, hb, h => by
    obtain ⟨r1, h1, h2, h3⟩ := h
    exact ⟨r1, h1, h2, pth_snoc k _ _ r hr hb h3⟩
theorem rdy_trg {B : Nat → Nat → Nat} {t r : Nat} (h : (rdy B t).testBit r = true) (hr : r < 8) : t.testBit r = true := by
  rw [rdy_1 hr] at h
  exact ((Bool.and_eq_true _ _).mp h).1
theorem pth_on {n : Nat} {B : Nat → Nat → Nat} (hB : gB n B) : ∀ k x y, onx B x → x < 64 * 2 ^ n → pth B k x y → onx B y ∧ y < 64 * 2 ^ n
  | 0, x, y, ho, hx, h => by
    have h : x = y := h
    subst h
    exact ⟨ho, hx⟩
  | k + 1, x, y, ho, hx, h => by
    obtain ⟨r, hr, hb, h⟩ := h
    exact pth_on hB k _ y (onx_ply hB hr ho) (ply_bits hB hr hx) h
/-- what the edges written so far say -/
def eV (B : Nat → Nat → Nat) (x0 : Nat) (E : eS) (m : Nat) : Prop := (∀ j, j < E.2.2.2.1 → pth B (E.2.1 j) x0 (E.1 j)) ∧ (E.2.2.2.2 = false → ∀ e, e < m → (E.2.2.1 e = 0 ↔ (rdy B (E.1 (e / 8) / 64)).testBit (e % 8) = false) ∧ (E.2.2.1 e ≠ 0 → E.1 (E.2.2.1 e - 1) = ply B (e % 8) (E.1 (e / 8))))
theorem bst_V {n : Nat} {B : Nat → Nat → Nat} {x0 : Nat} {E : eS} {k r : Nat} (hE : eOk n E (8 * k + r)) (hk : k < E.2.2.2.1) (hr : r < 8) (h : eV B x0 E (8 * k + r)) : eV B x0 (bst B k r E) (8 * k + r + 1) := by
  obtain ⟨S, D, N, c, too⟩ := E
  obtain ⟨-, -, -, -, h5, -⟩ := hE
  obtain ⟨h1, h2⟩ := h
  dsimp only at h1 h2 h5 hk
  have q1 : (8 * k + r) / 8 = k := by omega
  have q2 : (8 * k + r) % 8 = r := by omega
  have old : ∀ (v : Nat) e, e < 8 * k + r → va_up N (8 * k + r) v e = N e := fun v e he => vu_n (by omega)
  unfold bst
  dsimp only
  split
  · rename_i hb
    split
    · rename_i hf
      refine ⟨h1, fun ht e he => ?_⟩
      dsimp only at ht ⊢
      by_cases z : e = 8 * k + r
      · subst z
        rw [vu_s, q1, q2]
        refine ⟨⟨fun y => absurd y (Nat.succ_ne_zero _), fun y => absurd (hb.symm.trans y) (by decide)⟩, fun _ => ?_⟩
        rw [Nat.add_sub_cancel]
        exact fnd_yes hf
      · rw [old _ e (by omega)]
        exact h2 ht e (by omega)
    · rename_i hf
      split
      · exact ⟨h1, fun ht => absurd (show true = false from ht) (by decide)⟩
      · refine ⟨fun j hj => ?_, fun ht e he => ?_⟩
        · dsimp only at hj ⊢
          by_cases z : j = c
          · subst z
            rw [vu_s, vu_s]
            exact pth_snoc _ _ _ _ hr hb (h1 k hk)
          · rw [vu_n z, vu_n z]
            exact h1 j (by omega)
        · dsimp only at ht ⊢
          by_cases z : e = 8 * k + r
          · subst z
            rw [vu_s, q1, q2, vu_n (show k ≠ c by omega)]
            refine ⟨⟨fun y => absurd y (Nat.succ_ne_zero _), fun y => absurd (hb.symm.trans y) (by decide)⟩, fun _ => ?_⟩
            rw [Nat.add_sub_cancel, vu_s]
          · have he2 : e < 8 * k + r := by omega
            have hN := h5 e he2
            rw [old _ e he2, vu_n (show e / 8 ≠ c by omega)]
            refine ⟨(h2 ht e he2).1, fun y => ?_⟩
            rw [vu_n (show N e - 1 ≠ c by omega)]
            exact (h2 ht e he2).2 y
  · rename_i hb
    refine ⟨h1, fun ht e he => ?_⟩
    dsimp only at ht ⊢
    by_cases z : e = 8 * k + r
    · subst z
      rw [vu_s, q1, q2]
      refine ⟨⟨fun _ => ?_, fun _ => rfl⟩, fun y => absurd rfl y⟩
      cases hh : (rdy B (S k / 64)).testBit r with
      | false => rfl
      | true => exact absurd hh hb
    · rw [old _ e (by omega)]
      exact h2 ht e (by omega)
theorem bex_V {n : Nat} {B : Nat → Nat → Nat} (hB : gB n B) {x0 : Nat} {E : eS} {k : Nat} (hE : eOk n E (8 * k)) (hk : k < E.2.2.2.1) (h : eV B x0 E (8 * k)) : ∀ r, r ≤ 8 → eV B x0 (bex B k E r) (8 * k + r)
  | 0, _ => h
  | r + 1, hr => by
    obtain ⟨a, b⟩ := bex_ok hB hE hk r (by omega)
    exact bst_V a (Nat.lt_of_lt_of_le hk b.1) (by omega) (bex_V hB hE hk h r (by omega))
theorem bfs_V {n : Nat} {B : Nat → Nat → Nat} (hB : gB n B) {x0 : Nat} (hx : x0 < 64 * 2 ^ n) : ∀ k, bRun B x0 k → eV B x0 (bfs B x0 k) (8 * k)
  | 0, _ => ⟨fun j _ => rfl, fun _ e he => absurd he (Nat.not_lt_zero e)⟩
  | k + 1, h => bex_V hB (bfs_ok hB hx k (fun j hj => h j (by omega))) (h k (by omega)).1 (bfs_V hB hx k (fun j hj => h j (by omega))) 8 (by omega)
/-- the whole exploration, all situations expanded: c of them -/
def eAll (n : Nat) (B : Nat → Nat → Nat) (x0 c : Nat) (S D N : Nat → Nat) : Prop := 1 ≤ c ∧ c ≤ 1000 ∧ eInj S c ∧ gOk c N ∧ S 0 = x0 ∧ D 0 = 0 ∧ (∀ j, j < c → pth B (D j) x0 (S j) ∧ S j < 64 * 2 ^ n) ∧ ∀ j r, j < c → r < 8 → (N (8 * j + r) = 0 ↔ (rdy B (S j / 64)).testBit r = false) ∧ (N (8 * j + r) ≠ 0 → N (8 * j + r) ≤ c ∧ S (N (8 * j + r) - 1) = ply B r (S j))
theorem bfs_all {n : Nat} {B : Nat → Nat → Nat} (hB : gB n B) {x0 : Nat} (hx : x0 < 64 * 2 ^ n) {k : Nat} (h : bEnd B x0 k) (ht : (bfs B x0 k).2.2.2.2 = false) : eAll n B x0 (bfs B x0 k).2.2.2.1 (bfs B x0 k).1 (bfs B x0 k).2.1 (bfs B x0 k).2.2.1 := by
  have hc := bEnd_c hB hx h ht
  have hok := bfs_ok hB hx k h.1
  have hV := bfs_V hB hx k h.1
  have hg0 := bfs_go hB hx (i := 0) k (Nat.zero_le k) h.1
  have h0 := hg0.2.1 0 Nat.one_pos
  refine ⟨hok.1, hok.2.1, hok.2.2.2.1, bfs_gOk hB hx h ht, h0.1, h0.2, fun j hj => ⟨hV.1 j hj, hok.2.2.1 j hj⟩, fun j r hj hr => ?_⟩
  have he : 8 * j + r < 8 * k := by omega
  have hv := hV.2 ht (8 * j + r) he
  rw [show (8 * j + r) / 8 = j by omega, show (8 * j + r) % 8 = r by omega] at hv
  exact ⟨hv.1, fun z => ⟨hok.2.2.2.2.1 _ he, hv.2 z⟩⟩
theorem eAll_t {n : Nat} {B : Nat → Nat → Nat} (hB : gB n B) {x : Nat} (h : x < 64 * 2 ^ n) : x / 64 < 256 := by
  have := pn8 hB.1
  omega
/-- no way on just where no rule is triggered -/
theorem eAll_end {n : Nat} {B : Nat → Nat → Nat} (hB : gB n B) {x0 c : Nat} {S D N : Nat → Nat} (h : eAll n B x0 c S D N) {j : Nat} (hj : j < c) : noE N j = true ↔ S j / 64 = 0 := by
  obtain ⟨-, -, -, -, -, -, h7, h8⟩ := h
  constructor
  · intro hn
    refine Decidable.byContradiction fun z => ?_
    obtain ⟨r, hr, hb⟩ := rdy_ne hB (eAll_t hB (h7 j hj).2) z
    have := (h8 j r hj hr).1.mp (noE_t hn hr)
    rw [hb] at this
    exact absurd this (by decide)
  · intro z
    refine noE_of fun r hr => (h8 j r hj hr).1.mpr ?_
    rw [z, rdy_z, Nat.zero_testBit]
