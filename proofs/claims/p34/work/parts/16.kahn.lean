/-! Kahn's way through a graph of c nodes, eight edges a node: edge e = 8 * j + r goes from j to N e - 1, if N e is not 0. -/
def sl (f : Nat → Int64) : Nat → Int64
  | 0 => 0
  | k + 1 => sl f k + f k
theorem sl_cong {f g : Nat → Int64} : ∀ {k : Nat}, (∀ j, j < k → g j = f j) → sl g k = sl f k
  | 0, _ => rfl
  | k + 1, h => by unfold sl; rw [sl_cong (fun j hj => h j (by omega)), h k (by omega)]
theorem sl_upd (f : Nat → Int64) (i : Nat) (v : Int64) : ∀ n, i < n → sl (va_up f i v) n + f i = sl f n + v
  | 0, h => absurd h (Nat.not_lt_zero i)
  | n + 1, h => by
    show sl (va_up f i v) n + va_up f i v n + f i = sl f n + f n + v
    rcases Nat.lt_or_ge i n with q | q
    · have := sl_upd f i v n q
      rw [vu_n (by omega)]
      grind
    · have e : i = n := by omega
      subst e
      rw [vu_s, sl_cong (fun j hj => vu_n (by omega))]
      grind
def mx (f : Nat → Nat) : Nat → Nat
  | 0 => 0
  | k + 1 => Nat.max (mx f k) (f k)
theorem mx_ge (f : Nat → Nat) : ∀ n i, i < n → f i ≤ mx f n
  | 0, i, h => absurd h (Nat.not_lt_zero i)
  | n + 1, i, h => by
    show f i ≤ Nat.max (mx f n) (f n)
    rcases Nat.lt_or_ge i n with q | q
    · exact Nat.le_trans (mx_ge f n i q) (Nat.le_max_left _ _)
    · rw [show i = n by omega]; exact Nat.le_max_right _ _
theorem mx_at (f : Nat → Nat) : ∀ n, mx f n = 0 ∨ ∃ i, i < n ∧ f i = mx f n
  | 0 => Or.inl rfl
  | n + 1 => by
    show Nat.max (mx f n) (f n) = 0 ∨ ∃ i, i < n + 1 ∧ f i = Nat.max (mx f n) (f n)
    rcases Nat.le_total (mx f n) (f n) with q | q
    · exact Or.inr ⟨n, by omega, (Nat.max_eq_right q).symm⟩
    · rw [show Nat.max (mx f n) (f n) = mx f n from Nat.max_eq_left q]
      rcases mx_at f n with z | ⟨i, hi, e⟩
      · exact Or.inl z
      · exact Or.inr ⟨i, by omega, e⟩
theorem mx_cong {f g : Nat → Nat} : ∀ {k : Nat}, (∀ j, j < k → g j = f j) → mx g k = mx f k
  | 0, _ => rfl
  | k + 1, h => by unfold mx; rw [mx_cong (fun j hj => h j (by omega)), h k (by omega)]
def eL (N L : Nat → Nat) (j r : Nat) : Nat := if N (8 * j + r) = 0 then 0 else L (N (8 * j + r) - 1) + 1
def eW (N : Nat → Nat) (W : Nat → Int64) (j r : Nat) : Int64 := if N (8 * j + r) = 0 then 0 else W (N (8 * j + r) - 1)
def noE (N : Nat → Nat) (j : Nat) : Bool := decide (fb_ct (fun r => decide (N (8 * j + r) ≠ 0)) 8 = 0)
theorem noE_t {N : Nat → Nat} {j : Nat} (h : noE N j = true) {r : Nat} (hr : r < 8) : N (8 * j + r) = 0 := by
  have h1 := fb_ct_zero.mp (of_decide_eq_true h) r hr
  exact Decidable.of_not_not (of_decide_eq_false h1)
theorem noE_f {N : Nat → Nat} {j : Nat} (h : noE N j = false) : ∃ r, r < 8 ∧ N (8 * j + r) ≠ 0 := by
  obtain ⟨r, hr, hp⟩ := fb_ct_pos.mp (Nat.pos_of_ne_zero (of_decide_eq_false h))
  exact ⟨r, hr, of_decide_eq_true hp⟩
theorem noE_of {N : Nat → Nat} {j : Nat} (h : ∀ r, r < 8 → N (8 * j + r) = 0) : noE N j = true := decide_eq_true (fb_ct_zero.mpr fun r hr => decide_eq_false (fun z => z (h r hr)))
theorem noE_no {N : Nat → Nat} {j r : Nat} (hr : r < 8) (h : N (8 * j + r) ≠ 0) : noE N j = false := by
  cases hn : noE N j with
  | false => rfl
  | true => exact absurd (noE_t hn hr) h
def eqL (c : Nat) (N L : Nat → Nat) : Prop := ∀ j, j < c → L j = mx (eL N L j) 8
def eqW (c : Nat) (N : Nat → Nat) (W : Nat → Int64) : Prop := ∀ j, j < c → W j = (if noE N j = true then 1 else 0) + sl (eW N W j) 8
def acy (c : Nat) (N : Nat → Nat) : Prop := ∃ ρ : Nat → Nat, ∀ e, e < 8 * c → N e ≠ 0 → ρ (N e - 1) < ρ (e / 8)
/-- the edges that are done: all of the nodes q 0 .. q (t - 1), and the first r of node q t -/
def pe (q : Nat → Nat) (t r e : Nat) : Bool := decide (fnd q t (e / 8) < t) || (decide (q t = e / 8) && decide (e % 8 < r))
def icn (c : Nat) (N : Nat → Nat) (q : Nat → Nat) (t r i : Nat) : Nat := fb_ct (fun e => decide (N e = i + 1) && !pe q t r e) (8 * c)
def qOk (c : Nat) (q : Nat → Nat) (qn : Nat) : Prop := qn ≤ c ∧ (∀ m, m < qn → q m < c) ∧ eInj q qn
/-- the counts and the queue -/
def kQ (c : Nat) (N inc q : Nat → Nat) (qn t r : Nat) : Prop := qOk c q qn ∧ (∀ i, i < c → inc i = icn c N q t r i) ∧ ∀ i, i < c → (inc i = 0 ↔ fnd q qn i < qn)
theorem pe_next {q : Nat → Nat} {t e : Nat} : pe q t 8 e = pe q (t + 1) 0 e := by
  unfold pe
  have e1 : fnd q (t + 1) (e / 8) = if fnd q t (e / 8) < t then fnd q t (e / 8) else if decide (q t = e / 8) then t else t + 1 := rfl
  have e2 : decide (e % 8 < 8) = true := decide_eq_true (by omega)
  have e3 : decide (e % 8 < 0) = false := decide_eq_false (by omega)
  rw [e2, e3, Bool.and_true, Bool.and_false, Bool.or_false, e1]
  by_cases h : fnd q t (e / 8) < t
  · have h9 : fnd q t (e / 8) < t + 1 := by omega
    rw [if_pos h, decide_eq_true h, decide_eq_true h9, Bool.true_or]
  · rw [if_neg h, decide_eq_false h, Bool.false_or]
    by_cases h2 : q t = e / 8
    · rw [if_pos (decide_eq_true h2), decide_eq_true h2, decide_eq_true (Nat.lt_succ_self t)]
    · rw [decide_eq_false h2, if_neg (by decide), decide_eq_false (Nat.lt_irrefl (t + 1))]
theorem pe_cong {q q' : Nat → Nat} {t r e : Nat} (h : ∀ m, m ≤ t → q' m = q m) : pe q' t r e = pe q t r e := by
  unfold pe
  rw [fnd_cong (fun m hm => h m (by omega)), h t (Nat.le_refl _)]
/-- one edge more: edge r of node x = q t -/
theorem pe_step {q : Nat → Nat} {t r x : Nat} (hx : q t = x) (hr : r < 8) (hn : ¬ fnd q t x < t) (e : Nat) : pe q t (r + 1) e = if e = 8 * x + r then true else pe q t r e := by
  unfold pe
  by_cases h : e = 8 * x + r
  · have h1 : e / 8 = x := by omega
    have h2 : e % 8 = r := by omega
    rw [if_pos h, h1, h2, hx]
    simp
  · rw [if_neg h]
    by_cases h1 : q t = e / 8
    · have h3 : decide (e % 8 < r + 1) = decide (e % 8 < r) := by
        by_cases h4 : e % 8 < r
        · rw [decide_eq_true h4, decide_eq_true (by omega)]
        · rw [decide_eq_false h4, decide_eq_false (by omega)]
      rw [h3]
    · rw [decide_eq_false h1, Bool.false_and, Bool.false_and]
theorem pe_fresh {q : Nat → Nat} {t r x : Nat} (hx : q t = x) (hr : r < 8) (hn : ¬ fnd q t x < t) : pe q t r (8 * x + r) = false := by
  unfold pe
  rw [show (8 * x + r) / 8 = x by omega, show (8 * x + r) % 8 = r by omega, decide_eq_false hn, decide_eq_false (Nat.lt_irrefl r), Bool.and_false]
  rfl
theorem icn_other {c : Nat} {N q : Nat → Nat} {t r x i : Nat} (hx : q t = x) (hr : r < 8) (hn : ¬ fnd q t x < t) (h : N (8 * x + r) ≠ i + 1) : icn c N q t (r + 1) i = icn c N q t r i := by
  refine fb_ct_cong fun e he => ?_
  rw [pe_step hx hr hn]
  by_cases h1 : e = 8 * x + r
  · rw [h1, decide_eq_false h]; rfl
  · rw [if_neg h1]
theorem icn_this {c : Nat} {N q : Nat → Nat} {t r x i : Nat} (hx : q t = x) (hr : r < 8) (hn : ¬ fnd q t x < t) (hc : x < c) (h : N (8 * x + r) = i + 1) : icn c N q t (r + 1) i + 1 = icn c N q t r i := by
  have h1 := fb_ct_upd (fun e => decide (N e = i + 1) && !pe q t r e) false (i := 8 * x + r) (n := 8 * c) (by omega)
  have h2 : fb_ct (fun k => if k = 8 * x + r then false else (decide (N k = i + 1) && !pe q t r k)) (8 * c) = icn c N q t (r + 1) i := by
    refine fb_ct_cong fun e he => ?_
    rw [pe_step hx hr hn]
    by_cases h3 : e = 8 * x + r
    · rw [if_pos h3, if_pos h3]; simp
    · rw [if_neg h3, if_neg h3]
  rw [h2] at h1
  have h4 : (decide (N (8 * x + r) = i + 1) && !pe q t r (8 * x + r)) = true := by rw [decide_eq_true h, pe_fresh hx hr hn]; rfl
  rw [h4] at h1
  simpa [icn] using h1
theorem fnd_in {q : Nat → Nat} {n i : Nat} (h : fnd q n i < n) : ∃ m, m < n ∧ q m = i := ⟨_, h, fnd_yes h⟩
theorem fnd_self {q : Nat → Nat} {qn t : Nat} (hq : eInj q qn) (ht : t < qn) : ¬ fnd q t (q t) < t := fun h => by
  have := hq _ _ (by omega) ht (fnd_yes h)
  omega
/-- an edge that leads nowhere -/
theorem kQ_none {c : Nat} {N inc q : Nat → Nat} {qn t r : Nat} (h : kQ c N inc q qn t r) (ht : t < qn) (hr : r < 8) (h0 : N (8 * q t + r) = 0) : kQ c N inc q qn t (r + 1) := by
  refine ⟨h.1, fun i hi => ?_, h.2.2⟩
  rw [icn_other rfl hr (fnd_self h.1.2.2 ht) (by omega)]
  exact h.2.1 i hi
/-- an edge that leads to i: the count falls; at 0 it is queued -/
theorem kQ_lead {c : Nat} {N inc q : Nat → Nat} {qn t r i : Nat} (h : kQ c N inc q qn t r) (ht : t < qn) (hr : r < 8) (hi : i < c) (h0 : N (8 * q t + r) = i + 1) :
    0 < inc i ∧ (inc i = 1 → qn < c ∧ kQ c N (va_up inc i 0) (va_up q qn i) (qn + 1) t (r + 1)) ∧ (inc i ≠ 1 → kQ c N (va_up inc i (inc i - 1)) q qn t (r + 1)) := by
  obtain ⟨⟨h1, h2, h3⟩, h4, h5⟩ := h
  have hn := fnd_self h3 ht
  have e1 := icn_this (N := N) (c := c) rfl hr hn (h2 t ht) h0
  rw [← h4 i hi] at e1
  refine ⟨by omega, fun hi1 => ?_, fun hi1 => ?_⟩
  · have hnq : ¬ fnd q qn i < qn := fun z => by have := (h5 i hi).mpr z; omega
    have hc : qn < c := by
      rcases Nat.lt_or_ge qn c with z | z
      · exact z
      · exfalso
        have e : qn = c := by omega
        obtain ⟨m, hm, hmi⟩ := fb_onto (n := qn) (f := q) (fun m hm => by have := h2 m hm; omega) (fun a b hab hb z => by have := h3 a b (by omega) hb z; omega) (y := i) (by omega)
        exact hnq (fnd_lt hm hmi)
    refine ⟨hc, ⟨by omega, fun m hm => ?_, fun a b ha hb e => ?_⟩, fun j hj => ?_, fun j hj => ?_⟩
    · by_cases z : m = qn
      · rw [z, vu_s]; exact hi
      · rw [vu_n z]; exact h2 m (by omega)
    · by_cases z : a = qn
      · by_cases z2 : b = qn
        · omega
        · rw [z, vu_s, vu_n z2] at e
          exact absurd (fnd_lt (by omega : b < qn) e.symm) hnq
      · by_cases z2 : b = qn
        · rw [z2, vu_s, vu_n z] at e
          exact absurd (fnd_lt (by omega : a < qn) e) hnq
        · rw [vu_n z, vu_n z2] at e
          exact h3 a b (by omega) (by omega) e
    · have ec : icn c N (va_up q qn i) t (r + 1) j = icn c N q t (r + 1) j := fb_ct_cong fun e9 _ => by rw [pe_cong (fun m hm => vu_n (by omega))]
      rw [ec]
      by_cases z : j = i
      · rw [z, vu_s]; omega
      · rw [vu_n z, icn_other rfl hr hn (by omega)]; exact h4 j hj
    · have ef : fnd (va_up q qn i) (qn + 1) j = if fnd (va_up q qn i) qn j < qn then fnd (va_up q qn i) qn j else if decide ((va_up q qn i) qn = j) then qn else qn + 1 := rfl
      rw [fnd_cong (S' := va_up q qn i) (S := q) (c := qn) (fun m hm => vu_n (by omega)), vu_s] at ef
      by_cases z : j = i
      · rw [z] at ef ⊢
        rw [if_neg hnq, if_pos (decide_eq_true rfl)] at ef
        rw [vu_s, ef]
        exact ⟨fun _ => by omega, fun _ => rfl⟩
      · rw [vu_n z, h5 j hj, ef]
        by_cases z2 : fnd q qn j < qn
        · rw [if_pos z2]; exact ⟨fun _ => by omega, fun _ => z2⟩
        · rw [if_neg z2, if_neg (by rw [decide_eq_false (fun z3 => z z3.symm)]; decide)]
          exact ⟨fun z3 => absurd z3 z2, fun z3 => absurd z3 (by omega)⟩
  · refine ⟨⟨h1, h2, h3⟩, fun j hj => ?_, fun j hj => ?_⟩
    · by_cases z : j = i
      · rw [z, vu_s]; omega
      · rw [vu_n z, icn_other rfl hr hn (by omega)]; exact h4 j hj
    · by_cases z : j = i
      · rw [z, vu_s]
        have hnq : ¬ fnd q qn i < qn := fun z => by have := (h5 i hi).mpr z; omega
        exact ⟨fun z2 => by omega, fun z2 => absurd z2 hnq⟩
      · rw [vu_n z]; exact h5 j hj
theorem kQ_next {c : Nat} {N inc q : Nat → Nat} {qn t : Nat} (h : kQ c N inc q qn t 8) : kQ c N inc q qn (t + 1) 0 := by
  refine ⟨h.1, fun i hi => ?_, h.2.2⟩
  rw [h.2.1 i hi]
  exact fb_ct_cong fun e _ => by rw [pe_next]
