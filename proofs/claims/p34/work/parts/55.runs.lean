/-! Running along the situations; what the answers of the exploration must be. -/
theorem L_all {c : Nat} {N L : Nat → Nat} (hN : ∀ e, e < 8 * c → N e ≤ c) (hL : eqL c N L) : ∀ d j v, j < c → v + d = L j → ∃ i, i < c ∧ L i = v
  | 0, j, v, hj, h => ⟨j, hj, by omega⟩
  | d + 1, j, v, hj, h => by
    have h1 := hL j hj
    rcases mx_at (eL N L j) 8 with z | ⟨r, hr, z⟩
    · omega
    · rw [← h1] at z
      by_cases hz : N (8 * j + r) = 0
      · have e0 : eL N L j r = 0 := if_pos hz
        omega
      · have e0 : eL N L j r = L (N (8 * j + r) - 1) + 1 := if_neg hz
        have he := hN (8 * j + r) (by omega)
        exact L_all hN hL d (N (8 * j + r) - 1) v (by omega) (by omega)
theorem L_lt {c : Nat} {N L : Nat → Nat} (hN : ∀ e, e < 8 * c → N e ≤ c) (hL : eqL c N L) {j : Nat} (hj : j < c) : L j < c := by
  have h : ∀ v, ∃ i, v < L j + 1 → i < c ∧ L i = v := fun v => by
    by_cases z : v < L j + 1
    · obtain ⟨i, hi⟩ := L_all hN hL (L j - v) j v hj (by omega)
      exact ⟨i, fun _ => hi⟩
    · exact ⟨0, fun y => absurd y z⟩
  refine fb_holes c (L j + 1) (fun v => Classical.choose (h v)) (fun i hi => (Classical.choose_spec (h i) hi).1) (fun a b hab hb e => ?_)
  have h1 := (Classical.choose_spec (h a) (by omega)).2
  have h2 := (Classical.choose_spec (h b) hb).2
  have e : Classical.choose (h a) = Classical.choose (h b) := e
  rw [e, h2] at h1
  omega
/-- the situation behind the smallest of the rules r .. r + d - 1 that is ready there, 0 if none is -/
def aD (N : Nat → Nat) (k : Nat) : Nat → Nat → Nat
  | _, 0 => 0
  | r, d + 1 => if N (8 * k + r) = 0 then aD N k (r + 1) d else N (8 * k + r)
theorem aD_z {N : Nat → Nat} {k : Nat} : ∀ d r, (∀ s, r ≤ s → s < r + d → N (8 * k + s) = 0) → aD N k r d = 0
  | 0, _, _ => rfl
  | d + 1, r, h => by
    unfold aD
    rw [if_pos (h r (Nat.le_refl r) (by omega))]
    exact aD_z d (r + 1) fun s h1 h2 => h s (by omega) (by omega)
theorem aD_f {N : Nat → Nat} {k f : Nat} (hf : N (8 * k + f) ≠ 0) : ∀ d r, r ≤ f → f < r + d → (∀ s, r ≤ s → s < f → N (8 * k + s) = 0) → aD N k r d = N (8 * k + f)
  | 0, r, h1, h2, _ => absurd h2 (by omega)
  | d + 1, r, h1, h2, h => by
    unfold aD
    by_cases z : r = f
    · rw [z, if_neg hf]
    · rw [if_pos (h r (Nat.le_refl r) (by omega))]
      exact aD_f hf d (r + 1) (by omega) (by omega) fun s h3 h4 => h s (by omega) h4
theorem frs_in {B : Nat → Nat → Nat} {t : Nat} (h : frs B t < 8) : (rdy B t).testBit (frs B t) = true ∧ ∀ j, j < frs B t → (rdy B t).testBit j = false := by
  refine ⟨?_, fun j hj => ?_⟩
  · rw [rdy_1 h]
    exact fa_first_yes (fun k => rdy1 B k t) 8 h
  · rw [rdy_1 (by omega)]
    exact fa_first_no (fun k => rdy1 B k t) 8 j hj
theorem aft_0 {n : Nat} {B : Nat → Nat → Nat} {x0 c : Nat} {S D N : Nat → Nat} (hn : n ≤ 8) (h : eAll n B x0 c S D N) {k : Nat} (hk : k < c) (hz : S k / 64 = 0) : aD N k 0 n = 0 ∧ frs B (S k / 64) = 8 := by
  obtain ⟨-, -, -, -, -, -, -, h8⟩ := h
  refine ⟨aD_z n 0 fun s _ hs => (h8 k s hk (by omega)).1.mpr ?_, ?_⟩
  · rw [hz, rdy_z, Nat.zero_testBit]
  · rw [hz]; exact frs_0 B
theorem aft_1 {n : Nat} {B : Nat → Nat → Nat} (hB : gB n B) {x0 c : Nat} {S D N : Nat → Nat} (h : eAll n B x0 c S D N) {k : Nat} (hk : k < c) (hz : S k / 64 ≠ 0) : frs B (S k / 64) < 8 ∧ aD N k 0 n = N (8 * k + frs B (S k / 64)) ∧ N (8 * k + frs B (S k / 64)) ≠ 0 ∧ aD N k 0 n ≤ c ∧ S (aD N k 0 n - 1) = ply B (frs B (S k / 64)) (S k) := by
  obtain ⟨-, -, -, -, -, -, h7, h8⟩ := h
  have hS := (h7 k hk).2
  have hf := frs_lt hB (eAll_t hB hS) hz
  obtain ⟨g1, g2⟩ := frs_in hf
  have hfn := frs_n (n := n) (show S k / 64 < 2 ^ n by omega) hf
  have a1 := h8 k _ hk hf
  have hne : N (8 * k + frs B (S k / 64)) ≠ 0 := fun z => by
    have := a1.1.mp z
    rw [g1] at this
    exact absurd this (by decide)
  have e := aD_f hne n 0 (Nat.zero_le _) (by omega) fun s _ hs => (h8 k s hk (by omega)).1.mpr (g2 s hs)
  exact ⟨hf, e, hne, by rw [e]; exact (a1.2 hne).1, by rw [e]; exact (a1.2 hne).2⟩
/-- p plays along the smallest ready rules -/
def rI (B : Nat → Nat → Nat) (x0 c : Nat) (S N : Nat → Nat) (p a : Nat) : Prop := a < c ∧ S a = runX B x0 p ∧ (∀ j, j < p → frs B (runX B x0 j / 64) < 8) ∧ ∀ L, eqL c N L → L a + p ≤ L 0
theorem rI_0 {n : Nat} {B : Nat → Nat → Nat} {x0 c : Nat} {S D N : Nat → Nat} (h : eAll n B x0 c S D N) : rI B x0 c S N 0 0 := ⟨h.1, h.2.2.2.2.1, fun _ h => absurd h (Nat.not_lt_zero _), fun _ _ => Nat.le_refl _⟩
theorem rI_s {n : Nat} {B : Nat → Nat → Nat} (hB : gB n B) {x0 c : Nat} {S D N : Nat → Nat} (h : eAll n B x0 c S D N) {p a : Nat} (hr : rI B x0 c S N p a) (hz : aD N a 0 n ≠ 0) : rI B x0 c S N (p + 1) (aD N a 0 n - 1) := by
  obtain ⟨r1, r2, r3, r4⟩ := hr
  have hS : S a / 64 ≠ 0 := fun z => hz (aft_0 hB.1 h r1 z).1
  obtain ⟨k1, k2, k3, k4, k5⟩ := aft_1 hB h r1 hS
  refine ⟨by omega, ?_, fun j hj => ?_, fun L hL => ?_⟩
  · rw [k5, r2]
    rfl
  · by_cases z : j = p
    · rw [z, ← r2]; exact k1
    · exact r3 j (by omega)
  · have h1 := hL a r1
    have h2 := mx_ge (eL N L a) 8 _ k1
    have e0 : eL N L a (frs B (S a / 64)) = L (N (8 * a + frs B (S a / 64)) - 1) + 1 := if_neg k3
    have h3 := r4 L hL
    rw [k2]
    omega
/-- what the cells tell of a finished exploration that isn't too large -/
def xFin (u : xS) (n : Nat) (B : Nat → Nat → Nat) (x c : Nat) (S D N : Nat → Nat) : Prop := eAll n B x c S D N ∧ u.1 21 7 = nI c ∧ (∀ j, j < c → u.1 22 j = nI (S j)) ∧ (∀ i, i < 8 * c → u.1 24 i = nxI (N i)) ∧ u.1 26 1 = nI (fb_ct (isE S) c) ∧ fb_ct (isE S) c ≤ 64 ∧ u.1 26 2 = (if fb_ct (isE S) c = 0 then -1 else nI (D (fa_first (isE S) c))) ∧ kRes u c N
theorem xFin_of {n : Nat} {B : Nat → Nat → Nat} (hB : gB n B) {u : xS} {x k : Nat} (hx : x < 64 * 2 ^ n) (h : xDn u B x k) (h9 : u.1 21 9 = 0) : ∃ c S D N, xFin u n B x c S D N := by
  obtain ⟨h1, h2, ⟨-, -, h3⟩, h4⟩ := h
  have ht : (bfs B x k).2.2.2.2 = false := by
    cases hh : (bfs B x k).2.2.2.2 with
    | false => rfl
    | true =>
      have := h2.2.1
      rw [hh, if_pos rfl, h9] at this
      exact absurd this (by decide)
  have hc := bEnd_c hB hx h1 ht
  have hA := bfs_all hB hx h1 ht
  have hok := bfs_ok hB hx k h1.1
  obtain ⟨e1, e2, e3⟩ := h3
  refine ⟨_, _, _, _, hA, h2.1, fun j hj => (h2.2.2.1 j hj).1, fun i hi => h2.2.2.2.1 i (by omega), ?_, ends_le hok, ?_, h4 ht⟩
  · rw [e1, hc]
  · rw [e3, hc]
theorem xFin_fr {u w : xS} {n : Nat} {B : Nat → Nat → Nat} {x c : Nat} {S D N : Nat → Nat} (h : xFin u n B x c S D N) (h1 : ∀ q, 21 ≤ q → q < 33 → w.1 q = u.1 q) (h2 : w.2 = u.2) : xFin w n B x c S D N := by
  obtain ⟨a1, a2, a3, a4, a5, a6, a7, a8⟩ := h
  refine ⟨a1, by rw [h1 21 (by decide) (by decide)]; exact a2, fun j hj => by rw [h1 22 (by decide) (by decide)]; exact a3 j hj, fun i hi => by rw [h1 24 (by decide) (by decide)]; exact a4 i hi, by rw [h1 26 (by decide) (by decide)]; exact a5, a6, by rw [h1 26 (by decide) (by decide)]; exact a7, ?_⟩
  unfold kRes
  rw [h1 28 (by decide) (by decide), h2]
  exact a8
theorem kRes_01 {u : xS} {c : Nat} {N : Nat → Nat} (h : kRes u c N) : u.1 28 5 = 0 ∨ u.1 28 5 = 1 := by
  rcases h with h | h
  · exact Or.inr h.1
  · exact Or.inl h.1
theorem kRes_n {u : xS} {c : Nat} {N : Nat → Nat} (h : kRes u c N) (h1 : acy c N) : u.1 28 5 = 1 := by
  rcases h with h | h
  · exact h.1
  · exact absurd h1 h.2
theorem kRes_y {u : xS} {c : Nat} {N : Nat → Nat} (h : kRes u c N) (h1 : ¬ u.1 28 5 = 0) : acy c N ∧ (∀ L, eqL c N L → u.1 28 6 = nI (L 0)) ∧ ∀ W, eqW c N W → u.2 28 7 = W 0 := by
  rcases h with h | h
  · exact h.2
  · exact absurd h.1 h1
/-- no circle: it ends -/
theorem v_circ {u : xS} {n : Nat} {B : Nat → Nat → Nat} (hB : gB n B) {x c : Nat} {S D N : Nat → Nat} (hx : x < 64 * 2 ^ n) (ho : onx B x) (h : xFin u n B x c S D N) (h0 : cirs B 8 = 0) : u.1 28 5 = 1 := kRes_n h.2.2.2.2.2.2.2 (acy_circ hB hx ho h.1 h0)
/-- it ends: there is an end -/
theorem v_end {u : xS} {n : Nat} {B : Nat → Nat → Nat} (hB : gB n B) {x c : Nat} {S D N : Nat → Nat} (h : xFin u n B x c S D N) (h1 : ¬ u.1 28 5 = 0) : 1 ≤ fb_ct (isE S) c := by
  have ha := (kRes_y h.2.2.2.2.2.2.2 h1).1
  obtain ⟨j, hj, hn⟩ := acy_end h.1.1 h.1.2.2.2.1.1 ha
  exact fb_ct_pos.mpr ⟨j, hj, isE_s.mpr ((eAll_end hB h.1 hj).mp hn)⟩
/-- .. and ways, where the longest one is short -/
theorem v_ways {u : xS} {n : Nat} {B : Nat → Nat → Nat} {x c : Nat} {S D N : Nat → Nat} (h : xFin u n B x c S D N) (h1 : ¬ u.1 28 5 = 0) : ∃ l w, u.1 28 6 = nI l ∧ l < 1000 ∧ u.2 28 7 = lN w ∧ (l < 20 → 1 ≤ w ∧ w < 2 ^ 62) := by
  obtain ⟨ha, hL, hW⟩ := kRes_y h.2.2.2.2.2.2.2 h1
  obtain ⟨L, W, k1, k2, k3, k4⟩ := acy_W h.1.1 h.1.2.2.2.1.1 ha
  have hc := h.1.2.1
  have hl := L_lt h.1.2.2.2.1.1 k1 (j := 0) (by have := h.1.1; omega)
  refine ⟨L 0, W 0, hL L k1, by omega, hW _ k2, fun z => ⟨k3, Nat.lt_of_le_of_lt k4 ?_⟩⟩
  exact Nat.lt_of_le_of_lt (Nat.pow_le_pow_right (by decide) (show L 0 ≤ 19 by omega)) (by decide)
/-- free of order and conflicts, and an end -/
theorem v_free {u : xS} {n : Nat} {B : Nat → Nat → Nat} (hB : gB n B) {x c : Nat} {S D N : Nat → Nat} (hx : x < 64 * 2 ^ n) (ho : onx B x) (h : xFin u n B x c S D N) (hf : fre B) (h0 : cou B 8 = 0) (he : 0 < fb_ct (isE S) c) : u.1 28 5 = 1 ∧ fb_ct (isE S) c = 1 ∧ u.1 26 2 = u.1 28 6 := by
  obtain ⟨j0, hj0, hp⟩ := fb_ct_pos.mp he
  obtain ⟨d1, d2, d3, d4⟩ := dia_e hB hf h0 hx ho h.1 hj0 (isE_s.mp hp)
  have hct := one_ct (p := isE S) hj0 hp fun j hj hpj => d1 j hj (isE_s.mp hpj)
  have h5 := kRes_n h.2.2.2.2.2.2.2 d4
  refine ⟨h5, hct, ?_⟩
  have hfl : fa_first (isE S) c < c := fir_lt (by omega)
  have hfj := d1 _ hfl (isE_s.mp (fa_first_yes (isE S) c hfl))
  obtain ⟨-, hL, -⟩ := kRes_y h.2.2.2.2.2.2.2 (by rw [h5]; decide)
  rw [h.2.2.2.2.2.2.1, if_neg (by omega), hfj, hL _ d3]
  show nI (D j0) = nI (D j0 - D 0)
  rw [h.1.2.2.2.2.2.1, Nat.sub_zero]
/-- the run's end is where the law has come to -/
theorem v_run {n : Nat} {B : Nat → Nat → Nat} (hB : gB n B) {x c : Nat} {S D N : Nat → Nat} (h : eAll n B x c S D N) {p a m k : Nat} (hr : rI B x c S N p a) (hp : p ≤ m) (he : p = m ∨ aD N a 0 n = 0) (hk : k ≤ m) (hk1 : ∀ j, j < k → frs B (runX B x j / 64) < 8) (hk2 : k = m ∨ frs B (runX B x k / 64) = 8) : k = p ∧ runX B x k = S a := by
  obtain ⟨r1, r2, r3, -⟩ := hr
  have e : k = p := runX_one hk hp hk1 r3 hk2 (by
    rcases he with z | z
    · exact Or.inl z
    · right
      rw [← r2]
      by_cases y : S a / 64 = 0
      · rw [y]; exact frs_0 B
      · obtain ⟨-, q2, q3, -⟩ := aft_1 hB h r1 y
        exact absurd (q2.symm.trans z) q3)
  exact ⟨e, by rw [e, r2]⟩
theorem v_long {u : xS} {n : Nat} {B : Nat → Nat → Nat} {x c : Nat} {S D N : Nat → Nat} (h : xFin u n B x c S D N) (h1 : ¬ u.1 28 5 = 0) {p a : Nat} (hr : rI B x c S N p a) : ∃ l, u.1 28 6 = nI l ∧ l < 1000 ∧ p ≤ l := by
  obtain ⟨ha, hL, -⟩ := kRes_y h.2.2.2.2.2.2.2 h1
  obtain ⟨L, W, k1, -⟩ := acy_W h.1.1 h.1.2.2.2.1.1 ha
  have hc := h.1.2.1
  have hl := L_lt h.1.2.2.2.1.1 k1 (j := 0) (by have := h.1.1; omega)
  have := hr.2.2.2 L k1
  exact ⟨L 0, hL L k1, by omega, by omega⟩
