/-! The exploration as a mathematical thing: E = (S, D, N, c, too): situation j is S j, found at depth D j; N (8 * j + r) is 0, or one more than the number to which rule r leads from j. -/
abbrev eS : Type := (Nat → Nat) × (Nat → Nat) × (Nat → Nat) × Nat × Bool
def fnd (S : Nat → Nat) (c y : Nat) : Nat := fa_first (fun j => decide (S j = y)) c
theorem fnd_le (S : Nat → Nat) (c y : Nat) : fnd S c y ≤ c := fa_first_le _ c
theorem fnd_yes {S : Nat → Nat} {c y : Nat} (h : fnd S c y < c) : S (fnd S c y) = y := of_decide_eq_true (fa_first_yes (fun j => decide (S j = y)) c h)
theorem fnd_no {S : Nat → Nat} {c y k : Nat} (h : k < fnd S c y) : S k ≠ y := of_decide_eq_false (fa_first_no (fun j => decide (S j = y)) c k h)
theorem fnd_lt {S : Nat → Nat} {c y k : Nat} (hk : k < c) (h : S k = y) : fnd S c y < c := by
  rcases Nat.lt_or_ge (fnd S c y) c with q | q
  · exact q
  · exact absurd h (fnd_no (S := S) (c := c) (by omega))
def eInj (S : Nat → Nat) (c : Nat) : Prop := ∀ i j, i < c → j < c → S i = S j → i = j
theorem fnd_at {S : Nat → Nat} {c k : Nat} (hi : eInj S c) (hk : k < c) : fnd S c (S k) = k :=
  hi _ _ (fnd_lt hk rfl) hk (fnd_yes (fnd_lt hk rfl))
theorem fnd_cong {S S' : Nat → Nat} {c y : Nat} (h : ∀ j, j < c → S' j = S j) : fnd S' c y = fnd S c y := by
  rcases Nat.lt_trichotomy (fnd S' c y) (fnd S c y) with q | q | q
  · have h1 : fnd S' c y < c := Nat.lt_of_lt_of_le q (fnd_le S c y)
    exact absurd ((h _ h1).symm.trans (fnd_yes h1)) (fnd_no q)
  · exact q
  · have h1 : fnd S c y < c := Nat.lt_of_lt_of_le q (fnd_le S' c y)
    exact absurd ((h _ h1).trans (fnd_yes h1)) (fnd_no q)
def bst (B : Nat → Nat → Nat) (k r : Nat) (E : eS) : eS :=
  if (rdy B (E.1 k / 64)).testBit r = true then
    (if fnd E.1 E.2.2.2.1 (ply B r (E.1 k)) < E.2.2.2.1 then (E.1, E.2.1, va_up E.2.2.1 (8 * k + r) (fnd E.1 E.2.2.2.1 (ply B r (E.1 k)) + 1), E.2.2.2.1, E.2.2.2.2)
    else if E.2.2.2.1 = 1000 then (E.1, E.2.1, va_up E.2.2.1 (8 * k + r) 0, E.2.2.2.1, true)
    else (va_up E.1 E.2.2.2.1 (ply B r (E.1 k)), va_up E.2.1 E.2.2.2.1 (E.2.1 k + 1), va_up E.2.2.1 (8 * k + r) (E.2.2.2.1 + 1), E.2.2.2.1 + 1, E.2.2.2.2))
  else (E.1, E.2.1, va_up E.2.2.1 (8 * k + r) 0, E.2.2.2.1, E.2.2.2.2)
def bex (B : Nat → Nat → Nat) (k : Nat) (E : eS) : Nat → eS
  | 0 => E
  | r + 1 => bst B k r (bex B k E r)
def bfs (B : Nat → Nat → Nat) (x0 : Nat) : Nat → eS
  | 0 => (fun _ => x0, fun _ => 0, fun _ => 0, 1, false)
  | k + 1 => bex B k (bfs B x0 k) 8
/-- what holds of E with the entries below m written, and rule bits below n alone -/
def eOk (n : Nat) (E : eS) (m : Nat) : Prop := 1 ≤ E.2.2.2.1 ∧ E.2.2.2.1 ≤ 1000 ∧ (∀ j, j < E.2.2.2.1 → E.1 j < 64 * 2 ^ n) ∧ eInj E.1 E.2.2.2.1 ∧ (∀ i, i < m → E.2.2.1 i ≤ E.2.2.2.1) ∧ ∀ j, j < E.2.2.2.1 → E.2.1 j ≤ j
/-- from E to E': more situations, entries below m as they were, too many stays -/
def eGo (E E' : eS) (m : Nat) : Prop := E.2.2.2.1 ≤ E'.2.2.2.1 ∧ (∀ j, j < E.2.2.2.1 → E'.1 j = E.1 j ∧ E'.2.1 j = E.2.1 j) ∧ (∀ i, i < m → E'.2.2.1 i = E.2.2.1 i) ∧ (E.2.2.2.2 = true → E'.2.2.2.2 = true)
theorem eGo_rf (E : eS) (m : Nat) : eGo E E m := ⟨Nat.le_refl _, fun _ _ => ⟨rfl, rfl⟩, fun _ _ => rfl, fun h => h⟩
theorem eGo_tr {E E' E'' : eS} {m m' : Nat} (h : eGo E E' m) (h' : eGo E' E'' m') (hm : m ≤ m') : eGo E E'' m := by
  refine ⟨Nat.le_trans h.1 h'.1, fun j hj => ?_, fun i hi => ?_, fun h9 => h'.2.2.2 (h.2.2.2 h9)⟩
  · have a := h.2.1 j hj
    have b := h'.2.1 j (Nat.lt_of_lt_of_le hj h.1)
    exact ⟨b.1.trans a.1, b.2.trans a.2⟩
  · exact (h'.2.2.1 i (by omega)).trans (h.2.2.1 i hi)
theorem vu_s {α : Type} (f : Nat → α) (k : Nat) (v : α) : va_up f k v k = v := by simp [va_up]
theorem vu_n {α : Type} {f : Nat → α} {k j : Nat} {v : α} (h : j ≠ k) : va_up f k v j = f j := by simp [va_up, h]
theorem bst_ok {n : Nat} {B : Nat → Nat → Nat} (hB : gB n B) {E : eS} {k r : Nat} (hE : eOk n E (8 * k + r)) (hk : k < E.2.2.2.1) (hr : r < 8) : eOk n (bst B k r E) (8 * k + r + 1) ∧ eGo E (bst B k r E) (8 * k + r) := by
  obtain ⟨S, D, N, c, too⟩ := E
  obtain ⟨h1, h2, h3, h4, h5, h6⟩ := hE
  dsimp only at h1 h2 h3 h4 h5 h6 hk
  have hN : ∀ (v : Nat) (c' : Nat), v ≤ c' → c ≤ c' → ∀ i, i < 8 * k + r + 1 → va_up N (8 * k + r) v i ≤ c' := by
    intro v c' hv hc i hi
    by_cases e : i = 8 * k + r
    · rw [e, vu_s]; exact hv
    · rw [vu_n e]; exact Nat.le_trans (h5 i (by omega)) hc
  have hG : ∀ (v : Nat) i, i < 8 * k + r → va_up N (8 * k + r) v i = N i := fun v i hi => vu_n (by omega)
  unfold bst
  dsimp only
  split
  · split
    · rename_i hb hf
      exact ⟨⟨h1, h2, h3, h4, hN _ c (by omega) (Nat.le_refl _), h6⟩, Nat.le_refl _, fun _ _ => ⟨rfl, rfl⟩, hG _, fun h => h⟩
    · split
      · exact ⟨⟨h1, h2, h3, h4, hN _ c (by omega) (Nat.le_refl _), h6⟩, Nat.le_refl _, fun _ _ => ⟨rfl, rfl⟩, hG _, fun _ => rfl⟩
      · rename_i hb hf hc
        refine ⟨⟨?_, ?_, ?_, ?_, ?_, ?_⟩, ?_, ?_, hG _, fun h => h⟩
        · show 1 ≤ c + 1; omega
        · show c + 1 ≤ 1000; omega
        · intro j hj
          dsimp only at hj ⊢
          by_cases e : j = c
          · rw [e, vu_s]; exact ply_bits hB hr (h3 k hk)
          · rw [vu_n e]; exact h3 j (by omega)
        · have hfr : ∀ j, j < c → S j ≠ ply B r (S k) := fun j hj e => hf (fnd_lt hj e)
          intro i j hi hj e
          dsimp only at hi hj e
          by_cases e1 : i = c
          · by_cases e2 : j = c
            · omega
            · rw [e1, vu_s, vu_n e2] at e
              exact absurd e.symm (hfr j (by omega))
          · by_cases e2 : j = c
            · rw [e2, vu_s, vu_n e1] at e
              exact absurd e (hfr i (by omega))
            · rw [vu_n e1, vu_n e2] at e
              exact h4 i j (by omega) (by omega) e
        · exact hN _ (c + 1) (Nat.le_refl _) (by omega)
        · intro j hj
          dsimp only at hj ⊢
          by_cases e : j = c
          · rw [e, vu_s]
            have := h6 k hk
            omega
          · rw [vu_n e]; exact h6 j (by omega)
        · show c ≤ c + 1; omega
        · intro j hj
          dsimp only at hj ⊢
          exact ⟨vu_n (by omega), vu_n (by omega)⟩
  · exact ⟨⟨h1, h2, h3, h4, hN _ c (by omega) (Nat.le_refl _), h6⟩, Nat.le_refl _, fun _ _ => ⟨rfl, rfl⟩, hG _, fun h => h⟩
theorem bex_ok {n : Nat} {B : Nat → Nat → Nat} (hB : gB n B) {E : eS} {k : Nat} (hE : eOk n E (8 * k)) (hk : k < E.2.2.2.1) : ∀ r, r ≤ 8 → eOk n (bex B k E r) (8 * k + r) ∧ eGo E (bex B k E r) (8 * k)
  | 0, _ => ⟨hE, eGo_rf _ _⟩
  | r + 1, h => by
    obtain ⟨a, b⟩ := bex_ok hB hE hk r (by omega)
    obtain ⟨a2, b2⟩ := bst_ok hB a (Nat.lt_of_lt_of_le hk b.1) (by omega : r < 8)
    exact ⟨a2, eGo_tr b b2 (by omega)⟩
theorem bfs_0 {n : Nat} {x0 : Nat} (hx : x0 < 64 * 2 ^ n) (B : Nat → Nat → Nat) : eOk n (bfs B x0 0) 0 :=
  ⟨Nat.le_refl 1, by show 1 ≤ 1000; decide, fun _ _ => hx, fun i j hi hj _ => by have : i < 1 := hi; have : j < 1 := hj; omega, fun _ hi => absurd hi (Nat.not_lt_zero _), fun j _ => Nat.zero_le _⟩
/-- while there is one to expand, and not too many -/
def bRun (B : Nat → Nat → Nat) (x0 k : Nat) : Prop := ∀ j, j < k → j < (bfs B x0 j).2.2.2.1 ∧ (bfs B x0 j).2.2.2.2 = false
def bEnd (B : Nat → Nat → Nat) (x0 k : Nat) : Prop := bRun B x0 k ∧ ((bfs B x0 k).2.2.2.1 ≤ k ∨ (bfs B x0 k).2.2.2.2 = true)
theorem bfs_ok {n : Nat} {B : Nat → Nat → Nat} (hB : gB n B) {x0 : Nat} (hx : x0 < 64 * 2 ^ n) : ∀ k, bRun B x0 k → eOk n (bfs B x0 k) (8 * k)
  | 0, _ => bfs_0 hx B
  | k + 1, h => (bex_ok hB (bfs_ok hB hx k (fun j hj => h j (by omega))) (h k (by omega)).1 8 (by omega)).1
theorem bfs_go {n : Nat} {B : Nat → Nat → Nat} (hB : gB n B) {x0 : Nat} (hx : x0 < 64 * 2 ^ n) {i : Nat} : ∀ k, i ≤ k → bRun B x0 k → eGo (bfs B x0 i) (bfs B x0 k) (8 * i)
  | 0, hi, _ => by rw [show i = 0 by omega]; exact eGo_rf _ _
  | k + 1, hi, h => by
    rcases Nat.lt_or_ge i (k + 1) with q | q
    · exact eGo_tr (bfs_go hB hx k (by omega) (fun j hj => h j (by omega))) (bex_ok hB (bfs_ok hB hx k (fun j hj => h j (by omega))) (h k (by omega)).1 8 (by omega)).2 (by omega)
    · rw [show i = k + 1 by omega]; exact eGo_rf _ _
theorem bEnd_one {B : Nat → Nat → Nat} {x0 i j : Nat} (hi : bEnd B x0 i) (hj : bEnd B x0 j) : i = j := by
  have key : ∀ a b, bEnd B x0 a → bEnd B x0 b → ¬ a < b := by
    intro a b ha hb hab
    obtain ⟨h1, h2⟩ := hb.1 a hab
    rcases ha.2 with q | q
    · omega
    · rw [h2] at q; exact absurd q (by decide)
  have h1 := key i j hi hj
  have h2 := key j i hj hi
  omega
theorem bRun_le {n : Nat} {B : Nat → Nat → Nat} (hB : gB n B) {x0 : Nat} (hx : x0 < 64 * 2 ^ n) {k : Nat} (h : bRun B x0 k) : k ≤ 1000 := by
  rcases Nat.lt_or_ge 0 k with q | q
  · have h1 := (h (k - 1) (by omega)).1
    have h2 := (bfs_ok hB hx (k - 1) (fun j hj => h j (by omega))).2.1
    omega
  · omega
/-- at the end with all expanded, there are as many situations as were expanded -/
theorem bEnd_c {n : Nat} {B : Nat → Nat → Nat} (hB : gB n B) {x0 : Nat} (hx : x0 < 64 * 2 ^ n) {k : Nat} (h : bEnd B x0 k) (ht : (bfs B x0 k).2.2.2.2 = false) : (bfs B x0 k).2.2.2.1 = k := by
  have h1 : (bfs B x0 k).2.2.2.1 ≤ k := by
    rcases h.2 with q | q
    · exact q
    · rw [ht] at q; exact absurd q (by decide)
  rcases Nat.lt_or_ge 0 k with q | q
  · have h2 := (h.1 (k - 1) (by omega)).1
    have h3 := (bfs_go hB hx (i := k - 1) k (by omega) h.1).1
    omega
  · have h2 := (bfs_ok hB hx k h.1).1
    omega
