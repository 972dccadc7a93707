/-! The exploration from its beginning to its end. -/
theorem clr_step {u w : xS} {S : Nat → Nat} {k : Nat} (h : ∀ y, y < 16384 → w.1 25 y = if fnd S k y < k then nI 0 else u.1 25 y) : ∀ y, y < 16384 → (xs w 25 (S k) (nI 0)).1 25 y = if fnd S (k + 1) y < k + 1 then nI 0 else u.1 25 y := by
  intro y hy
  by_cases z : y = S k
  · rw [z, xs_s, if_pos (fnd_lt (Nat.lt_succ_self k) rfl)]
  · rw [xs_j z, h y hy]
    have e : (fnd S (k + 1) y < k + 1) = (fnd S k y < k) := propext (by
      rw [fnd_succ]
      by_cases z2 : fnd S k y < k
      · rw [if_pos z2]; exact ⟨fun _ => z2, fun _ => by omega⟩
      · rw [if_neg z2, decide_eq_false (fun e => z e.symm)]
        exact ⟨fun z3 => absurd z3 (Nat.lt_irrefl _), fun z3 => absurd z3 z2⟩)
    simp only [e]
theorem clr_end {u w : xS} {S : Nat → Nat} {k : Nat} (h : ∀ y, y < 16384 → w.1 25 y = if fnd S k y < k then nI 0 else u.1 25 y) (hp : ∀ y, y < 16384 → u.1 25 y = nI (plc S k y)) : ∀ y, y < 16384 → w.1 25 y = nI 0 := by
  intro y hy
  rw [h y hy]
  by_cases z : fnd S k y < k
  · rw [if_pos z]
  · rw [if_neg z, hp y hy]
    unfold plc
    rw [if_neg z]
/-- nothing found, the table empty -/
def xClr (u : xS) : Prop := u.1 21 7 = nI 0 ∧ u.1 21 9 = 0 ∧ u.1 21 10 = nI 0 ∧ u.1 21 11 = nI 0 ∧ u.1 26 1 = nI 0 ∧ u.1 26 2 = -1 ∧ ∀ y, y < 16384 → u.1 25 y = nI 0
def p0U (u : xS) (x0 : Nat) : xS := xs (xs (xs (xs u 22 0 (nI x0)) 23 0 (nI 0)) 21 7 (nI (0 + 1))) 25 x0 (nI (0 + 1))
theorem p0U_Er {u : xS} (h : xClr u) {x0 : Nat} (B : Nat → Nat → Nat) : xEr (p0U u x0) (bfs B x0 0) (8 * 0) := by
  obtain ⟨h1, h2, h3, h4, h5, h6, h7⟩ := h
  unfold p0U
  refine ⟨?_, ?_, fun j hj => ?_, fun i hi => absurd hi (by omega), fun y hy => ?_⟩
  · rw [xs_c (by decide), xs_s]; rfl
  · rw [xs_c (by decide), xs_j (by decide), xs_c (by decide), xs_c (by decide), h2]; rfl
  · have hj1 : j < 1 := hj
    rw [show j = 0 by omega]
    refine ⟨?_, ?_⟩
    · rw [xs_c (by decide), xs_c (by decide), xs_c (by decide), xs_s]; rfl
    · rw [xs_c (by decide), xs_c (by decide), xs_s]; rfl
  · show _ = nI (plc (fun _ => x0) 1 y)
    unfold plc
    by_cases z : y = x0
    · rw [z, xs_s, if_pos (fnd_lt (S := fun _ => x0) (c := 1) (k := 0) (by decide) rfl)]
      have : fnd (fun _ => x0) 1 x0 < 1 := fnd_lt (S := fun _ => x0) (c := 1) (k := 0) (by decide) rfl
      rw [show fnd (fun _ => x0) 1 x0 = 0 by omega]
    · rw [xs_j z, if_neg (fun q => z (fnd_yes q).symm), xs_c (by decide), xs_c (by decide), xs_c (by decide)]
      exact h7 y hy
theorem p0U_A {u : xS} (h : xClr u) {x0 : Nat} (B : Nat → Nat → Nat) : xA_r (p0U u x0) B (bfs B x0 0) 0 ∧ xA_c (p0U u x0) B (bfs B x0 0) 0 ∧ xA_e (p0U u x0) (bfs B x0 0) 0 := by
  obtain ⟨h1, h2, h3, h4, h5, h6, h7⟩ := h
  unfold p0U
  refine ⟨?_, ?_, ?_, fun j hj => absurd hj (Nat.not_lt_zero j), ?_⟩
  · show (xs _ 25 _ _).1 21 10 = nI 0
    rw [xs_c (by decide), xs_j (by decide), xs_c (by decide), xs_c (by decide), h3]
  · show (xs _ 25 _ _).1 21 11 = nI 0
    rw [xs_c (by decide), xs_j (by decide), xs_c (by decide), xs_c (by decide), h4]
  · show (xs _ 25 _ _).1 26 1 = nI 0
    rw [xs_c (by decide), xs_c (by decide), xs_c (by decide), xs_c (by decide), h5]
  · show (xs _ 25 _ _).1 26 2 = -1
    rw [xs_c (by decide), xs_c (by decide), xs_c (by decide), xs_c (by decide), h6]
theorem p0U_fr {u w : xS} (h : xFr u w) {x0 : Nat} : xFr u (p0U w x0) := xFr_s (xFr_s (xFr_s (xFr_s h (by decide) (by decide) (by decide)) (by decide) (by decide) (by decide)) (by decide) (by decide) (by decide)) (by decide) (by decide) (by omega)
/-- who was found, was found from an earlier one -/
def eG (E : eS) (m : Nat) : Prop := ∀ i, 1 ≤ i → i < E.2.2.2.1 → ∃ e, e < m ∧ e < 8 * i ∧ E.2.2.1 e = i + 1
theorem bst_g {B : Nat → Nat → Nat} {E : eS} {k r : Nat} (h : eG E (8 * k + r)) (hk : k < E.2.2.2.1) (hr : r < 8) : eG (bst B k r E) (8 * k + r + 1) := by
  obtain ⟨S, D, N, c, too⟩ := E
  dsimp only at hk
  have key : ∀ v, eG (S, D, va_up N (8 * k + r) v, c, too) (8 * k + r + 1) := by
    intro v i h1 h2
    obtain ⟨e, a, b, d⟩ := h i h1 h2
    exact ⟨e, by omega, b, by show va_up N (8 * k + r) v e = i + 1; rw [vu_n (by omega)]; exact d⟩
  unfold bst
  dsimp only
  split
  · split
    · exact key _
    · split
      · exact key _
      · intro i h1 h2
        dsimp only at h2
        by_cases z : i = c
        · exact ⟨8 * k + r, by omega, by omega, by show va_up N (8 * k + r) (c + 1) (8 * k + r) = i + 1; rw [vu_s, z]⟩
        · obtain ⟨e, a, b, d⟩ := h i h1 (by show i < c; omega)
          exact ⟨e, by omega, b, by show va_up N (8 * k + r) (c + 1) e = i + 1; rw [vu_n (by omega)]; exact d⟩
  · exact key _
theorem bex_g {n : Nat} {B : Nat → Nat → Nat} (hB : gB n B) {E : eS} {k : Nat} (hE : eOk n E (8 * k)) (hk : k < E.2.2.2.1) (h : eG E (8 * k)) : ∀ r, r ≤ 8 → eG (bex B k E r) (8 * k + r)
  | 0, _ => h
  | r + 1, hr => bst_g (bex_g hB hE hk h r (by omega)) (Nat.lt_of_lt_of_le hk (bex_ok hB hE hk r (by omega)).2.1) (by omega)
theorem bfs_g {n : Nat} {B : Nat → Nat → Nat} (hB : gB n B) {x0 : Nat} (hx : x0 < 64 * 2 ^ n) : ∀ k, bRun B x0 k → eG (bfs B x0 k) (8 * k)
  | 0, _ => fun i h1 h2 => by have : i < 1 := h2; omega
  | k + 1, h => bex_g hB (bfs_ok hB hx k (fun j hj => h j (by omega))) (h k (by omega)).1 (bfs_g hB hx k (fun j hj => h j (by omega))) 8 (by omega)
theorem bfs_gOk {n : Nat} {B : Nat → Nat → Nat} (hB : gB n B) {x0 : Nat} (hx : x0 < 64 * 2 ^ n) {k : Nat} (h : bEnd B x0 k) (ht : (bfs B x0 k).2.2.2.2 = false) : gOk (bfs B x0 k).2.2.2.1 (bfs B x0 k).2.2.1 := by
  have hc := bEnd_c hB hx h ht
  have ho := bfs_ok hB hx k h.1
  refine ⟨fun e he => ho.2.2.2.2.1 e (by rw [hc] at he; omega), fun i h1 h2 => ?_⟩
  obtain ⟨e, -, b, d⟩ := bfs_g hB hx k h.1 i h1 h2
  exact ⟨e, b, d⟩
def kRes (u : xS) (c : Nat) (N : Nat → Nat) : Prop := (u.1 28 5 = 1 ∧ acy c N ∧ (∀ L, eqL c N L → u.1 28 6 = nI (L 0)) ∧ ∀ W, eqW c N W → u.2 28 7 = W 0) ∨ (u.1 28 5 = 0 ∧ ¬ acy c N)
theorem kRes_of {u : xS} {c : Nat} {N : Nat → Nat} (hc : 1 ≤ c) (hg : gOk c N) {t : Nat} (h1 : kGo N (K0 c N) t) (h2 : (kRun N (K0 c N) t).2.2.2.2.1 ≤ t) (h3 : u.1 28 5 = (if t = c then 1 else 0)) (h4 : u.1 28 6 = nI (kRun N (K0 c N) t).2.2.2.2.2.1) (h5 : u.2 28 7 = (kRun N (K0 c N) t).2.2.2.2.2.2) : kRes u c N := by
  obtain ⟨a, b⟩ := kahn_spec hc hg h1 h2
  by_cases z : t = c
  · rw [if_pos z] at h3
    exact Or.inl ⟨h3, a.mp z, fun L hL => by rw [h4, (b z).1 L hL], fun W hW => by rw [h5, (b z).2 W hW]⟩
  · rw [if_neg z] at h3
    exact Or.inr ⟨h3, fun q => z (a.mpr q)⟩
/-- what stands in the analyzer when it has explored from x0 -/
def xDn (u : xS) (B : Nat → Nat → Nat) (x0 k : Nat) : Prop := bEnd B x0 k ∧ xEr u (bfs B x0 k) (8 * k) ∧ (xA_r u B (bfs B x0 k) k ∧ xA_c u B (bfs B x0 k) k ∧ xA_e u (bfs B x0 k) k) ∧ ((bfs B x0 k).2.2.2.2 = false → kRes u (bfs B x0 k).2.2.2.1 (bfs B x0 k).2.2.1)
theorem xDn_fr {u w : xS} {B : Nat → Nat → Nat} {x0 k : Nat} (h : xDn u B x0 k) (h1 : ∀ q, 22 ≤ q → q < 33 → w.1 q = u.1 q) (h2 : w.2 = u.2) (h3 : ∀ j, j ≠ 8 → w.1 21 j = u.1 21 j) : xDn w B x0 k := by
  obtain ⟨a, b, d, e⟩ := h
  refine ⟨a, xEr_fr b (h3 7 (by decide)) (h3 9 (by decide)) (fun q p1 p2 => h1 q p1 (by omega)), xA_fr d (h3 10 (by decide)) (h3 11 (by decide)) (h1 26 (by decide) (by decide)) (h1 27 (by decide) (by decide)), fun z => ?_⟩
  have := e z
  unfold kRes at this ⊢
  rw [h1 28 (by decide) (by decide), h2]
  exact this
theorem srch_fin1 {u w : xS} {B : Nat → Nat → Nat} {x0 k : Nat} (hE : bEnd B x0 k) (hw : xEr w (bfs B x0 k) (8 * k)) (hA : xA_r w B (bfs B x0 k) k ∧ xA_c w B (bfs B x0 k) k ∧ xA_e w (bfs B x0 k) k) (hF : xFr u w) (ht : (bfs B x0 k).2.2.2.2 = true) : (∃ k, xDn (xs w 21 8 (nI 1)) B x0 k) ∧ (xs w 21 8 (nI 1)).1 21 8 = 1 ∧ ∀ q, q < 21 ∨ 33 ≤ q → (xs w 21 8 (nI 1)).1 q = u.1 q := by
  have h0 : xDn w B x0 k := ⟨hE, hw, hA, fun z => by rw [ht] at z; exact absurd z (by decide)⟩
  refine ⟨⟨k, xDn_fr h0 (fun q p1 p2 => xs_r (by omega)) rfl (fun j hj => xs_j hj)⟩, xs_s _ _ _ _, fun q hq => ?_⟩
  rw [xs_r (by omega)]
  exact hF.1 q (by omega)
theorem srch_fin2 {u w z : xS} {B : Nat → Nat → Nat} {x0 k : Nat} (hE : bEnd B x0 k) (hw : xEr w (bfs B x0 k) (8 * k)) (hA : xA_r w B (bfs B x0 k) k ∧ xA_c w B (bfs B x0 k) k ∧ xA_e w (bfs B x0 k) k) (hF : xFr u w) (hz : kFr w z) (hr : kRes z (bfs B x0 k).2.2.2.1 (bfs B x0 k).2.2.1) : (∃ k, xDn (xs z 21 8 (nI 1)) B x0 k) ∧ (xs z 21 8 (nI 1)).1 21 8 = 1 ∧ ∀ q, q < 21 ∨ 33 ≤ q → (xs z 21 8 (nI 1)).1 q = u.1 q := by
  have h0 : xDn z B x0 k := ⟨hE, xEr_fr hw (by rw [hz 21 (by decide)]) (by rw [hz 21 (by decide)]) (fun q p1 p2 => hz q (by omega)), xA_fr hA (by rw [hz 21 (by decide)]) (by rw [hz 21 (by decide)]) (hz 26 (by decide)) (hz 27 (by decide)), fun _ => hr⟩
  refine ⟨⟨k, xDn_fr h0 (fun q p1 p2 => xs_r (by omega)) rfl (fun j hj => xs_j hj)⟩, xs_s _ _ _ _, fun q hq => ?_⟩
  rw [xs_r (by omega), hz q (by omega)]
  exact hF.1 q (by omega)
