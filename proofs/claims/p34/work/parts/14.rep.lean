/-! How the analyzer's cells hold an exploration. -/
def nxI (v : Nat) : Int32 := if v = 0 then -1 else nI (v - 1)
def plc (S : Nat → Nat) (c y : Nat) : Nat := if fnd S c y < c then fnd S c y + 1 else 0
def xEr (u : xS) (E : eS) (m : Nat) : Prop := u.1 21 7 = nI E.2.2.2.1 ∧ u.1 21 9 = (if E.2.2.2.2 = true then 1 else 0) ∧ (∀ j, j < E.2.2.2.1 → u.1 22 j = nI (E.1 j) ∧ u.1 23 j = nI (E.2.1 j)) ∧ (∀ i, i < m → u.1 24 i = nxI (E.2.2.1 i)) ∧ ∀ y, y < 16384 → u.1 25 y = nI (plc E.1 E.2.2.2.1 y)
theorem plc_new {S : Nat → Nat} {c y0 : Nat} (h : ¬ fnd S c y0 < c) (y : Nat) : plc (va_up S c y0) (c + 1) y = if y = y0 then c + 1 else plc S c y := by
  have e1 : fnd (va_up S c y0) c y = fnd S c y := fnd_cong (fun j hj => vu_n (by omega))
  have e2 : fnd (va_up S c y0) (c + 1) y = if fnd (va_up S c y0) c y < c then fnd (va_up S c y0) c y else if decide ((va_up S c y0) c = y) then c else c + 1 := rfl
  rw [e1, vu_s] at e2
  unfold plc
  by_cases hy : y = y0
  · subst hy
    rw [if_neg h, if_pos (decide_eq_true rfl)] at e2
    rw [e2, if_pos (by omega), if_pos rfl]
  · rw [if_neg hy]
    by_cases hf : fnd S c y < c
    · rw [if_pos hf] at e2
      rw [e2, if_pos (by omega), if_pos hf]
    · rw [if_neg hf, if_neg (by rw [decide_eq_false (fun e => hy e.symm)]; decide)] at e2
      rw [e2, if_neg (by omega), if_neg hf]
theorem xEr_put {u : xS} {E : eS} {m : Nat} (h : xEr u E m) (v : Nat) : xEr (xs u 24 m (nxI v)) (E.1, E.2.1, va_up E.2.2.1 m v, E.2.2.2.1, E.2.2.2.2) (m + 1) := by
  obtain ⟨h1, h2, h3, h4, h5⟩ := h
  refine ⟨?_, ?_, fun j hj => ?_, fun i hi => ?_, fun y hy => ?_⟩
  · rw [xs_c (by decide)]; exact h1
  · rw [xs_c (by decide)]; exact h2
  · rw [xs_c (by decide), xs_c (by decide)]; exact h3 j hj
  · show _ = nxI (va_up E.2.2.1 m v i)
    by_cases e : i = m
    · rw [e, xs_s, vu_s]
    · rw [xs_j e, vu_n e]; exact h4 i (by omega)
  · rw [xs_c (by decide)]; exact h5 y hy
/-- a rule that isn't ready -/
theorem xst_no {u : xS} {B : Nat → Nat → Nat} {E : eS} {k r : Nat} (h : xEr u E (8 * k + r)) (hb : ¬ (rdy B (E.1 k / 64)).testBit r = true) : xEr (xs u 24 (8 * k + r) (-1)) (bst B k r E) (8 * k + r + 1) := by
  unfold bst
  rw [if_neg hb]
  exact xEr_put h 0
theorem plc_f {S : Nat → Nat} {c y j : Nat} (h : plc S c y = j + 1) : fnd S c y = j ∧ fnd S c y < c := by
  unfold plc at h
  by_cases hf : fnd S c y < c
  · rw [if_pos hf] at h; exact ⟨by omega, hf⟩
  · rw [if_neg hf] at h; omega
theorem plc_0 {S : Nat → Nat} {c y : Nat} (h : plc S c y = 0) : ¬ fnd S c y < c := by
  intro hf
  unfold plc at h
  rw [if_pos hf] at h
  omega
/-- a situation that was found before -/
theorem xst_f {u : xS} {B : Nat → Nat → Nat} {E : eS} {k r j : Nat} (h : xEr u E (8 * k + r)) (hb : (rdy B (E.1 k / 64)).testBit r = true) (hp : plc E.1 E.2.2.2.1 (ply B r (E.1 k)) = j + 1) : xEr (xs u 24 (8 * k + r) (nI j)) (bst B k r E) (8 * k + r + 1) := by
  obtain ⟨h1, h2⟩ := plc_f hp
  unfold bst
  rw [if_pos hb, if_pos h2, h1]
  have := xEr_put h (j + 1)
  unfold nxI at this
  rw [if_neg (by omega)] at this
  exact this
/-- one too many -/
theorem xst_m {u : xS} {B : Nat → Nat → Nat} {E : eS} {k r : Nat} (h : xEr u E (8 * k + r)) (hb : (rdy B (E.1 k / 64)).testBit r = true) (hp : plc E.1 E.2.2.2.1 (ply B r (E.1 k)) = 0) (hc : E.2.2.2.1 = 1000) : xEr (xs (xs u 21 9 (nI 1)) 24 (8 * k + r) (-1)) (bst B k r E) (8 * k + r + 1) := by
  unfold bst
  rw [if_pos hb, if_neg (plc_0 hp), if_pos hc]
  have h' : xEr (xs u 21 9 (nI 1)) (E.1, E.2.1, E.2.2.1, E.2.2.2.1, true) (8 * k + r) := by
    obtain ⟨h1, h2, h3, h4, h5⟩ := h
    refine ⟨?_, ?_, fun j hj => ?_, fun i hi => ?_, fun y hy => ?_⟩
    · rw [xs_j (by decide)]; exact h1
    · rw [xs_s]; rfl
    · rw [xs_c (by decide), xs_c (by decide)]; exact h3 j hj
    · rw [xs_c (by decide)]; exact h4 i hi
    · rw [xs_c (by decide)]; exact h5 y hy
  exact xEr_put h' 0
/-- a new one -/
theorem xst_w {u : xS} {B : Nat → Nat → Nat} {E : eS} {k r : Nat} (h : xEr u E (8 * k + r)) (hb : (rdy B (E.1 k / 64)).testBit r = true) (hp : plc E.1 E.2.2.2.1 (ply B r (E.1 k)) = 0) (hc : E.2.2.2.1 < 1000) : xEr (xs (xs (xs (xs (xs u 22 E.2.2.2.1 (nI (ply B r (E.1 k)))) 23 E.2.2.2.1 (nI (E.2.1 k + 1))) 21 7 (nI (E.2.2.2.1 + 1))) 25 (ply B r (E.1 k)) (nI (E.2.2.2.1 + 1))) 24 (8 * k + r) (nI E.2.2.2.1)) (bst B k r E) (8 * k + r + 1) := by
  unfold bst
  rw [if_pos hb, if_neg (plc_0 hp), if_neg (by omega)]
  obtain ⟨h1, h2, h3, h4, h5⟩ := h
  generalize hy0 : ply B r (E.1 k) = y0 at hp ⊢
  have h' : xEr (xs (xs (xs (xs u 22 E.2.2.2.1 (nI y0)) 23 E.2.2.2.1 (nI (E.2.1 k + 1))) 21 7 (nI (E.2.2.2.1 + 1))) 25 y0 (nI (E.2.2.2.1 + 1))) (va_up E.1 E.2.2.2.1 y0, va_up E.2.1 E.2.2.2.1 (E.2.1 k + 1), E.2.2.1, E.2.2.2.1 + 1, E.2.2.2.2) (8 * k + r) := by
    refine ⟨?_, ?_, fun j hj => ?_, fun i hi => ?_, fun y hy => ?_⟩
    · rw [xs_c (by decide), xs_s]
    · rw [xs_c (by decide), xs_j (by decide), xs_c (by decide), xs_c (by decide)]; exact h2
    · have hj' : j < E.2.2.2.1 + 1 := hj
      refine ⟨?_, ?_⟩
      · show _ = nI (va_up E.1 E.2.2.2.1 y0 j)
        rw [xs_c (by decide), xs_c (by decide), xs_c (by decide)]
        by_cases e : j = E.2.2.2.1
        · rw [e, xs_s, vu_s]
        · rw [xs_j e, vu_n e]
          exact (h3 j (by omega)).1
      · show _ = nI (va_up E.2.1 E.2.2.2.1 (E.2.1 k + 1) j)
        rw [xs_c (by decide), xs_c (by decide)]
        by_cases e : j = E.2.2.2.1
        · rw [e, xs_s, vu_s]
        · rw [xs_j e, xs_c (by decide), vu_n e]
          exact (h3 j (by omega)).2
    · rw [xs_c (by decide), xs_c (by decide), xs_c (by decide), xs_c (by decide)]; exact h4 i hi
    · show _ = nI (plc (va_up E.1 E.2.2.2.1 y0) (E.2.2.2.1 + 1) y)
      rw [plc_new (plc_0 hp)]
      by_cases e : y = y0
      · rw [e, xs_s, if_pos rfl]
      · rw [xs_j e, if_neg e, xs_c (by decide), xs_c (by decide), xs_c (by decide)]
        exact h5 y hy
  have := xEr_put h' (E.2.2.2.1 + 1)
  unfold nxI at this
  rw [if_neg (by omega)] at this
  exact this
def bcA (x : Int32) : Int32 := x - ((x.toUInt32 >>> ((nI 1).toUInt32 &&& Int32.toUInt32 31)).toInt32 &&& nI 1431655765)
def bcB (x : Int32) : Int32 := (x &&& nI 858993459) + ((x.toUInt32 >>> ((nI 2).toUInt32 &&& Int32.toUInt32 31)).toInt32 &&& nI 858993459)
def bcC (x : Int32) : Int32 := (x + (x.toUInt32 >>> ((nI 4).toUInt32 &&& Int32.toUInt32 31)).toInt32) &&& nI 252645135
def bcD (x : Int32) : Int32 := x + (x.toUInt32 >>> ((nI 8).toUInt32 &&& Int32.toUInt32 31)).toInt32
def bcE (x : Int32) : Int32 := x + (x.toUInt32 >>> ((nI 16).toUInt32 &&& Int32.toUInt32 31)).toInt32
def bcF (x : Int32) : Int32 := x &&& nI 63
def bcI (x : Int32) : Int32 := bcF (bcE (bcD (bcC (bcB (bcA x)))))
def isE (S : Nat → Nat) (j : Nat) : Bool := decide (S j / 64 = 0)
def two (B : Nat → Nat → Nat) (S : Nat → Nat) (j : Nat) : Bool := decide (¬ bcI (nI (rdy B (S j / 64))) ≤ nI 1)
def evr (B : Nat → Nat → Nat) (S : Nat → Nat) (k : Nat) : Nat := orf (fun j => rdy B (S j / 64)) k
def xA_r (u : xS) (B : Nat → Nat → Nat) (E : eS) (k : Nat) : Prop := u.1 21 10 = nI (evr B E.1 k)
def xA_c (u : xS) (B : Nat → Nat → Nat) (E : eS) (k : Nat) : Prop := u.1 21 11 = nI (fb_ct (two B E.1) k)
def xA_e (u : xS) (E : eS) (k : Nat) : Prop := u.1 26 1 = nI (fb_ct (isE E.1) k) ∧ (∀ j, j < k → isE E.1 j = true → u.1 27 (fb_ct (isE E.1) j) = nI (E.1 j % 64)) ∧ u.1 26 2 = (if fb_ct (isE E.1) k = 0 then -1 else nI (E.2.1 (fa_first (isE E.1) k)))
def xFr (u w : xS) : Prop := (∀ q, q < 21 ∨ 28 ≤ q → w.1 q = u.1 q) ∧ w.2 = u.2 ∧ w.1 21 8 = u.1 21 8
theorem xFr_rf (u : xS) : xFr u u := ⟨fun _ _ => rfl, rfl, rfl⟩
theorem xFr_tr {u w z : xS} (h : xFr u w) (h' : xFr w z) : xFr u z := ⟨fun q hq => (h'.1 q hq).trans (h.1 q hq), h'.2.1.trans h.2.1, h'.2.2.trans h.2.2⟩
theorem xFr_s {u w : xS} (h : xFr u w) {q j : Nat} {v : Int32} (hq : 21 ≤ q) (hq2 : q ≤ 27) (hj : ¬ (q = 21 ∧ j = 8)) : xFr u (xs w q j v) := by
  refine ⟨fun q' hq' => ?_, ?_, ?_⟩
  · rw [xs_r (by omega)]; exact h.1 q' hq'
  · rw [xs_2]; exact h.2.1
  · rw [xs_at, if_neg (fun e => hj ⟨e.1.symm, e.2.symm⟩)]; exact h.2.2
theorem xR_fr {u w : xS} {n : Nat} {B : Nat → Nat → Nat} (h : xR u n B) (hq : ∀ q, q < 21 → w.1 q = u.1 q) : xR w n B := by
  obtain ⟨h1, h2, h3, h4⟩ := h
  refine ⟨h1, by rw [hq 16 (by decide)]; exact h2, fun i hi => ?_, fun e he => by rw [hq 18 (by decide)]; exact h4 e he⟩
  rw [hq i (by omega), hq (8 + i) (by omega)]
  exact h3 i hi
theorem xR_Fr {u w : xS} {n : Nat} {B : Nat → Nat → Nat} (h : xR u n B) (hf : xFr u w) : xR w n B := xR_fr h (fun q hq => hf.1 q (Or.inl hq))
theorem xEr_fr {u w : xS} {E : eS} {m : Nat} (h : xEr u E m) (h1 : w.1 21 7 = u.1 21 7) (h2 : w.1 21 9 = u.1 21 9) (h3 : ∀ q, 22 ≤ q → q ≤ 25 → w.1 q = u.1 q) : xEr w E m := by
  obtain ⟨a1, a2, a3, a4, a5⟩ := h
  refine ⟨h1.trans a1, h2.trans a2, fun j hj => ?_, fun i hi => ?_, fun y hy => ?_⟩
  · rw [h3 22 (by decide) (by decide), h3 23 (by decide) (by decide)]; exact a3 j hj
  · rw [h3 24 (by decide) (by decide)]; exact a4 i hi
  · rw [h3 25 (by decide) (by decide)]; exact a5 y hy
theorem xA_fr {u w : xS} {B : Nat → Nat → Nat} {E : eS} {k : Nat} (h : xA_r u B E k ∧ xA_c u B E k ∧ xA_e u E k) (h1 : w.1 21 10 = u.1 21 10) (h2 : w.1 21 11 = u.1 21 11) (h3 : w.1 26 = u.1 26) (h4 : w.1 27 = u.1 27) : xA_r w B E k ∧ xA_c w B E k ∧ xA_e w E k := by
  obtain ⟨a, b, c1, c2, c3⟩ := h
  refine ⟨h1.trans a, h2.trans b, by rw [h3]; exact c1, fun j hj hz => by rw [h4]; exact c2 j hj hz, by rw [h3]; exact c3⟩
theorem orf_cong {g g' : Nat → Nat} : ∀ {k : Nat}, (∀ j, j < k → g' j = g j) → orf g' k = orf g k
  | 0, _ => rfl
  | k + 1, h => by unfold orf; rw [orf_cong (fun j hj => h j (by omega)), h k (by omega)]
theorem fir_cong {p q : Nat → Bool} : ∀ {n : Nat}, (∀ j, j < n → p j = q j) → fa_first p n = fa_first q n
  | 0, _ => rfl
  | n + 1, h => by
    show (if fa_first p n < n then fa_first p n else if p n then n else n + 1) = (if fa_first q n < n then fa_first q n else if q n then n else n + 1)
    rw [fir_cong (fun j hj => h j (by omega)), h n (by omega)]
theorem fir_lt {p : Nat → Bool} {n : Nat} (h : ¬ fb_ct p n = 0) : fa_first p n < n := by
  obtain ⟨i, hi, hp⟩ := fb_ct_pos.mp (Nat.pos_of_ne_zero h)
  rcases Nat.lt_or_ge (fa_first p n) n with q | q
  · exact q
  · have := fa_first_no p n i (by omega)
    rw [hp] at this
    exact absurd this (by decide)
theorem xA_go {u : xS} {B : Nat → Nat → Nat} {E E' : eS} {k : Nat} (h : xA_r u B E k ∧ xA_c u B E k ∧ xA_e u E k) (hg : ∀ j, j < k → E'.1 j = E.1 j ∧ E'.2.1 j = E.2.1 j) : xA_r u B E' k ∧ xA_c u B E' k ∧ xA_e u E' k := by
  obtain ⟨a, b, c1, c2, c3⟩ := h
  have e1 : ∀ i, i ≤ k → fb_ct (isE E'.1) i = fb_ct (isE E.1) i := fun i hi => fb_ct_cong (fun j hj => by unfold isE; rw [(hg j (by omega)).1])
  refine ⟨?_, ?_, ?_, ?_, ?_⟩
  · show u.1 21 10 = nI (evr B E'.1 k)
    rw [show evr B E'.1 k = evr B E.1 k from orf_cong (fun j hj => by rw [(hg j hj).1])]
    exact a
  · show u.1 21 11 = nI (fb_ct (two B E'.1) k)
    rw [show fb_ct (two B E'.1) k = fb_ct (two B E.1) k from fb_ct_cong (fun j hj => by unfold two; rw [(hg j hj).1])]
    exact b
  · rw [e1 k (Nat.le_refl _)]; exact c1
  · intro j hj hz
    have hz' : isE E.1 j = true := by unfold isE at hz ⊢; rw [← (hg j hj).1]; exact hz
    rw [e1 j (by omega), (hg j hj).1]
    exact c2 j hj hz'
  · rw [e1 k (Nat.le_refl _), show fa_first (isE E'.1) k = fa_first (isE E.1) k from fir_cong (fun j hj => by unfold isE; rw [(hg j hj).1])]
    by_cases hc : fb_ct (isE E.1) k = 0
    · rw [if_pos hc]; rw [if_pos hc] at c3; exact c3
    · rw [if_neg hc]; rw [if_neg hc] at c3
      rw [(hg _ (fir_lt hc)).2]; exact c3
theorem ends_lt {n m : Nat} {E : eS} (hE : eOk n E m) {k : Nat} (hk : k < E.2.2.2.1) (hz : E.1 k / 64 = 0) : fb_ct (isE E.1) k < 64 := by
  rcases Nat.lt_or_ge (fb_ct (isE E.1) k) 64 with q | q
  · exact q
  · exfalso
    have hp : isE E.1 k = true := decide_eq_true hz
    have hc : fb_ct (isE E.1) (k + 1) = fb_ct (isE E.1) k + 1 := by rw [fb_ct_succ, if_pos hp]
    have H : ∀ i, i < 65 → ∃ j, j < k + 1 ∧ isE E.1 j = true ∧ fb_ct (isE E.1) j = i := fun i hi => fb_ct_kth (by omega)
    let g : Nat → Nat := fun i => if h : i < 65 then Classical.choose (H i h) else 0
    have hg : ∀ i, i < 65 → g i < k + 1 ∧ isE E.1 (g i) = true ∧ fb_ct (isE E.1) (g i) = i := by
      intro i hi
      have : g i = Classical.choose (H i hi) := dif_pos hi
      rw [this]
      exact Classical.choose_spec (H i hi)
    have := fb_holes 64 65 (fun i => E.1 (g i)) (fun i hi => by
      have h1 := of_decide_eq_true (hg i hi).2.1
      show E.1 (g i) < 64
      omega) (fun i j hij hj e => by
      have h1 := hg i (by omega)
      have h2 := hg j hj
      have h3 : g i = g j := hE.2.2.2.1 _ _ (by omega) (by omega) e
      rw [h3] at h1
      omega)
    omega
theorem xA_e_no {u : xS} {E : eS} {k : Nat} (h : xA_e u E k) (hz : ¬ E.1 k / 64 = 0) : xA_e u E (k + 1) := by
  have hp : isE E.1 k = false := decide_eq_false hz
  have hc : fb_ct (isE E.1) (k + 1) = fb_ct (isE E.1) k := by rw [fb_ct_succ, hp]; rfl
  obtain ⟨c1, c2, c3⟩ := h
  refine ⟨by rw [hc]; exact c1, fun j hj hj2 => ?_, ?_⟩
  · have : j ≠ k := fun e => by rw [e, hp] at hj2; exact absurd hj2 (by decide)
    exact c2 j (by omega) hj2
  · rw [hc]
    by_cases h0 : fb_ct (isE E.1) k = 0
    · rw [if_pos h0]; rw [if_pos h0] at c3; exact c3
    · rw [if_neg h0]; rw [if_neg h0] at c3
      rw [show fa_first (isE E.1) (k + 1) = fa_first (isE E.1) k from if_pos (fir_lt h0)]
      exact c3
theorem xA_e_yes {u : xS} {E : eS} {k : Nat} (h : xA_e u E k) (hz : E.1 k / 64 = 0) : xA_e (if fb_ct (isE E.1) k = 0 then xs (xs (xs u 26 2 (nI (E.2.1 k))) 27 (fb_ct (isE E.1) k) (nI (E.1 k % 64))) 26 1 (nI (fb_ct (isE E.1) k + 1)) else xs (xs u 27 (fb_ct (isE E.1) k) (nI (E.1 k % 64))) 26 1 (nI (fb_ct (isE E.1) k + 1))) E (k + 1) := by
  have hp : isE E.1 k = true := decide_eq_true hz
  have hc : fb_ct (isE E.1) (k + 1) = fb_ct (isE E.1) k + 1 := by rw [fb_ct_succ, if_pos hp]
  obtain ⟨c1, c2, c3⟩ := h
  have hct : ∀ j, j < k → isE E.1 j = true → fb_ct (isE E.1) j ≠ fb_ct (isE E.1) k := fun j hj hj2 e => by
    have := fb_ct_kth_one hj2 hp e
    omega
  by_cases h0 : fb_ct (isE E.1) k = 0
  · rw [if_pos h0]
    refine ⟨by rw [hc, xs_s], fun j hj hj2 => ?_, ?_⟩
    · rw [xs_c (by decide)]
      by_cases e : j = k
      · rw [e, xs_s]
      · rw [xs_j (hct j (by omega) hj2), xs_c (by decide)]
        exact c2 j (by omega) hj2
    · rw [hc, if_neg (by omega), xs_j (by decide), xs_c (by decide), xs_s]
      have h1 : ¬ fa_first (isE E.1) k < k := fun q => by
        have := fa_first_yes (isE E.1) k q
        exact absurd h0 (Nat.ne_of_gt (fb_ct_pos.mpr ⟨_, q, this⟩))
      rw [show fa_first (isE E.1) (k + 1) = k from by
        show (if fa_first (isE E.1) k < k then fa_first (isE E.1) k else if isE E.1 k then k else k + 1) = k
        rw [if_neg h1, if_pos hp]]
  · rw [if_neg h0]
    refine ⟨by rw [hc, xs_s], fun j hj hj2 => ?_, ?_⟩
    · rw [xs_c (by decide)]
      by_cases e : j = k
      · rw [e, xs_s]
      · rw [xs_j (hct j (by omega) hj2)]
        exact c2 j (by omega) hj2
    · rw [hc, if_neg (by omega), xs_j (by decide), xs_c (by decide)]
      rw [if_neg h0] at c3
      rw [show fa_first (isE E.1) (k + 1) = fa_first (isE E.1) k from if_pos (fir_lt h0)]
      exact c3
theorem xA_e_Fr {u w : xS} {c : Nat} {a b d : Int32} (h : xFr u w) : xFr u (if c = 0 then xs (xs (xs w 26 2 a) 27 c b) 26 1 d else xs (xs w 27 c b) 26 1 d) := by
  by_cases h0 : c = 0
  · rw [if_pos h0]
    exact xFr_s (xFr_s (xFr_s h (by decide) (by decide) (by decide)) (by decide) (by decide) (by omega)) (by decide) (by decide) (by decide)
  · rw [if_neg h0]
    exact xFr_s (xFr_s h (by decide) (by decide) (by omega)) (by decide) (by decide) (by decide)
theorem xA_e_at {w : xS} {c : Nat} {a b d : Int32} {q j : Nat} (hq : q ≠ 26) (hq2 : q ≠ 27) : (if c = 0 then xs (xs (xs w 26 2 a) 27 c b) 26 1 d else xs (xs w 27 c b) 26 1 d).1 q j = w.1 q j := by
  by_cases h0 : c = 0
  · rw [if_pos h0, xs_c hq, xs_c hq2, xs_c hq]
  · rw [if_neg h0, xs_c hq, xs_c hq2]
theorem xA_e_ro {w : xS} {c : Nat} {a b d : Int32} {q : Nat} (hq : q ≠ 26) (hq2 : q ≠ 27) : (if c = 0 then xs (xs (xs w 26 2 a) 27 c b) 26 1 d else xs (xs w 27 c b) 26 1 d).1 q = w.1 q := funext fun _ => xA_e_at hq hq2
theorem p3_cases (P c : Nat) (hc : c ≤ 1000) : (∃ j, P = j + 1) ∨ (P = 0 ∧ c = 1000) ∨ (P = 0 ∧ c < 1000) := by
  rcases Nat.eq_zero_or_pos P with h | h
  · rcases Nat.lt_or_ge c 1000 with q | q
    · exact Or.inr (Or.inr ⟨h, q⟩)
    · exact Or.inr (Or.inl ⟨h, by omega⟩)
  · exact Or.inl ⟨P - 1, by omega⟩
theorem rdy_ge {B : Nat → Nat → Nat} {t n r : Nat} (ht : t < 2 ^ n) (hr : n ≤ r) : ¬ (rdy B t).testBit r = true := by
  unfold rdy rdy1
  rw [mks_bit, Nat.testBit_lt_two_pow (Nat.lt_of_lt_of_le ht (Nat.pow_le_pow_right (by decide) hr)), Bool.false_and, Bool.and_false]
  decide
theorem pn8 {n : Nat} (h : n ≤ 8) : 2 ^ n ≤ 256 := (Nat.pow_le_pow_right (by decide) h : 2 ^ n ≤ 2 ^ 8)
