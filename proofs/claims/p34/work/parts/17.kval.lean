/-! Kahn's way: the longest rows and their number -/
abbrev kS : Type := (Nat → Nat) × (Nat → Nat) × (Nat → Int64) × (Nat → Nat) × Nat × Nat × Int64
def kLead (K : kS) (i pu : Nat) (ru : Int64) : kS := (va_up K.1 i (K.1 i - 1), va_up K.2.1 i (Nat.max (K.2.1 i) pu), va_up K.2.2.1 i (K.2.2.1 i + ru), (if K.1 i = 1 then va_up K.2.2.2.1 K.2.2.2.2.1 i else K.2.2.2.1), (if K.1 i = 1 then K.2.2.2.2.1 + 1 else K.2.2.2.2.1), K.2.2.2.2.2.1, K.2.2.2.2.2.2)
def kEdge (N : Nat → Nat) (K : kS) (x r : Nat) : kS := if N (8 * x + r) = 0 then K else kLead K (N (8 * x + r) - 1) (K.2.1 x + 1) (K.2.2.1 x)
def kTake (N : Nat → Nat) (K : kS) (x : Nat) : Nat → kS
  | 0 => K
  | r + 1 => kEdge N (kTake N K x r) x r
def kStep (N : Nat → Nat) (K : kS) (x : Nat) : kS := if noE N x = true then (K.1, K.2.1, K.2.2.1, K.2.2.2.1, K.2.2.2.2.1, Nat.max K.2.2.2.2.2.1 (K.2.1 x), K.2.2.2.2.2.2 + K.2.2.1 x) else kTake N K x 8
def kRun (N : Nat → Nat) (K : kS) : Nat → kS
  | 0 => K
  | t + 1 => kStep N (kRun N K t) ((kRun N K t).2.2.2.1 t)
def gOk (c : Nat) (N : Nat → Nat) : Prop := (∀ e, e < 8 * c → N e ≤ c) ∧ ∀ i, 1 ≤ i → i < c → ∃ e, e < 8 * i ∧ N e = i + 1
def lTop (c : Nat) (L pl : Nat → Nat) : Prop := ∀ i, i < c → pl i + L i ≤ L 0
/-- the longest rows, before the edge r of node q t -/
def kL (c : Nat) (N L : Nat → Nat) (K : kS) (t r : Nat) : Prop := lTop c L K.2.1 ∧ K.2.2.2.2.2.1 ≤ L 0 ∧ (K.2.2.2.2.2.1 = L 0 ∨ (∃ i, i < c ∧ ¬ fnd K.2.2.2.1 (t + 1) i < t + 1 ∧ K.2.1 i + L i = L 0) ∨ ∃ r', r ≤ r' ∧ r' < 8 ∧ N (8 * K.2.2.2.1 t + r') ≠ 0 ∧ K.2.1 (K.2.2.2.1 t) + 1 + L (N (8 * K.2.2.2.1 t + r') - 1) = L 0)
def kL0 (c : Nat) (L : Nat → Nat) (K : kS) (t : Nat) : Prop := lTop c L K.2.1 ∧ K.2.2.2.2.2.1 ≤ L 0 ∧ (K.2.2.2.2.2.1 = L 0 ∨ ∃ i, i < c ∧ ¬ fnd K.2.2.2.1 t i < t ∧ K.2.1 i + L i = L 0)
theorem eL_le {c : Nat} {N L : Nat → Nat} (hL : eqL c N L) {j r : Nat} (hj : j < c) (hr : r < 8) (h : N (8 * j + r) ≠ 0) : L (N (8 * j + r) - 1) + 1 ≤ L j := by
  rw [hL j hj]
  have := mx_ge (eL N L j) 8 r hr
  unfold eL at this
  rw [if_neg h] at this
  exact this
theorem L_top {c : Nat} {N L : Nat → Nat} (hL : eqL c N L) (hg : gOk c N) : ∀ i, i < c → L i ≤ L 0 := by
  intro i
  induction i using Nat.strongRecOn with
  | ind i ih =>
    intro hi
    rcases Nat.lt_or_ge 0 i with h0 | h0
    · obtain ⟨e, he, hN⟩ := hg.2 i h0 hi
      have h1 := eL_le hL (j := e / 8) (r := e % 8) (by omega) (by omega) (by rw [show 8 * (e / 8) + e % 8 = e by omega, hN]; omega)
      rw [show 8 * (e / 8) + e % 8 = e by omega, hN, show i + 1 - 1 = i by omega] at h1
      have h2 := ih (e / 8) (by omega) (by omega)
      omega
    · rw [show i = 0 by omega]; exact Nat.le_refl _
theorem L_end {c : Nat} {N L : Nat → Nat} (hL : eqL c N L) {j : Nat} (hj : j < c) (h : noE N j = true) : L j = 0 := by
  rw [hL j hj]
  rcases mx_at (eL N L j) 8 with z | ⟨r, hr, z⟩
  · exact z
  · rw [← z]; unfold eL; rw [if_pos (noE_t h hr)]
theorem L_go {c : Nat} {N L : Nat → Nat} (hL : eqL c N L) {j : Nat} (hj : j < c) (h : noE N j = false) : ∃ r, r < 8 ∧ N (8 * j + r) ≠ 0 ∧ L j = L (N (8 * j + r) - 1) + 1 := by
  rcases mx_at (eL N L j) 8 with z | ⟨r, hr, z⟩
  · obtain ⟨r, hr, hN⟩ := noE_f h
    have := eL_le hL hj hr hN
    rw [hL j hj, z] at this
    omega
  · by_cases hN : N (8 * j + r) = 0
    · have z2 : eL N L j r = 0 := by unfold eL; rw [if_pos hN]
      obtain ⟨r2, hr2, hN2⟩ := noE_f h
      have := eL_le hL hj hr2 hN2
      rw [hL j hj, ← z, z2] at this
      omega
    · refine ⟨r, hr, hN, ?_⟩
      rw [hL j hj, ← z]
      unfold eL
      rw [if_neg hN]
theorem kTake_q (N : Nat → Nat) (K : kS) (x : Nat) {t : Nat} (ht : t < K.2.2.2.2.1) : ∀ r, K.2.2.2.2.1 ≤ (kTake N K x r).2.2.2.2.1 ∧ ∀ m, m < K.2.2.2.2.1 → (kTake N K x r).2.2.2.1 m = K.2.2.2.1 m
  | 0 => ⟨Nat.le_refl _, fun _ _ => rfl⟩
  | r + 1 => by
    obtain ⟨h1, h2⟩ := kTake_q N K x ht r
    have e : kTake N K x (r + 1) = kEdge N (kTake N K x r) x r := rfl
    rw [e]
    generalize kTake N K x r = K' at h1 h2 ⊢
    unfold kEdge
    by_cases hN : N (8 * x + r) = 0
    · rw [if_pos hN]; exact ⟨h1, h2⟩
    · rw [if_neg hN]
      unfold kLead
      dsimp only
      by_cases hi : K'.1 (N (8 * x + r) - 1) = 1
      · rw [if_pos hi, if_pos hi]
        exact ⟨by omega, fun m hm => by rw [vu_n (by omega)]; exact h2 m hm⟩
      · rw [if_neg hi, if_neg hi]; exact ⟨h1, h2⟩
/-- the whole invariant before the edge r of node q t -/
def kI (c : Nat) (N : Nat → Nat) (K : kS) (t r : Nat) : Prop := kQ c N K.1 K.2.2.2.1 K.2.2.2.2.1 t r ∧ (∀ i, i < c → K.2.1 i ≤ t + 1) ∧ K.2.1 (K.2.2.2.1 t) ≤ t ∧ K.2.2.2.2.2.1 ≤ t
theorem kI_edge {c : Nat} {N : Nat → Nat} (hg : gOk c N) {K : kS} {t r : Nat} (h : kI c N K t r) (ht : t < K.2.2.2.2.1) (hr : r < 8) :
    kI c N (kEdge N K (K.2.2.2.1 t) r) t (r + 1) ∧ (kEdge N K (K.2.2.2.1 t) r).2.2.2.1 t = K.2.2.2.1 t ∧ (N (8 * K.2.2.2.1 t + r) ≠ 0 → N (8 * K.2.2.2.1 t + r) - 1 < c ∧ N (8 * K.2.2.2.1 t + r) - 1 ≠ K.2.2.2.1 t ∧ ¬ fnd K.2.2.2.1 (t + 1) (N (8 * K.2.2.2.1 t + r) - 1) < t + 1 ∧ 0 < K.1 (N (8 * K.2.2.2.1 t + r) - 1) ∧ (K.1 (N (8 * K.2.2.2.1 t + r) - 1) = 1 → K.2.2.2.2.1 < c)) := by
  obtain ⟨inc, pl, rw9, q, qn, lr, er⟩ := K
  obtain ⟨hq, hp1, hp2, hp3⟩ := h
  dsimp only at hq hp1 hp2 hp3 ht ⊢
  unfold kEdge
  by_cases hN : N (8 * q t + r) = 0
  · rw [if_pos hN]
    exact ⟨⟨kQ_none hq ht hr hN, hp1, hp2, hp3⟩, rfl, fun z => absurd hN z⟩
  · rw [if_neg hN]
    have hx : q t < c := hq.1.2.1 t ht
    have hNc := hg.1 (8 * q t + r) (by omega)
    have hic : N (8 * q t + r) - 1 < c := by omega
    obtain ⟨l1, l2, l3⟩ := kQ_lead hq ht hr hic (by omega)
    generalize hi : N (8 * q t + r) - 1 = i at hic l1 l2 l3 ⊢
    have hne : i ≠ q t := fun z => by
      have := (hq.2.2 (q t) hx).mpr (fnd_lt ht rfl)
      rw [← z] at this
      omega
    have hnt : ¬ fnd q (t + 1) i < t + 1 := fun z => by
      have h1 : fnd q qn i < qn := fnd_lt (k := fnd q (t + 1) i) (by omega) (fnd_yes z)
      have := (hq.2.2 i hic).mpr h1
      omega
    have hpl : ∀ j, j < c → va_up pl i (Nat.max (pl i) (pl (q t) + 1)) j ≤ t + 1 := by
      intro j hj
      by_cases z : j = i
      · rw [z, vu_s]; exact Nat.max_le.mpr ⟨hp1 i hic, by omega⟩
      · rw [vu_n z]; exact hp1 j hj
    unfold kLead
    dsimp only
    by_cases h1 : inc i = 1
    · obtain ⟨hqc, hk⟩ := l2 h1
      rw [if_pos h1, if_pos h1]
      have hqt : va_up q qn i t = q t := vu_n (by omega)
      refine ⟨⟨by rw [h1]; exact hk, hpl, ?_, hp3⟩, hqt, fun _ => ⟨hic, hne, hnt, l1, fun _ => hqc⟩⟩
      show va_up pl i (Nat.max (pl i) (pl (q t) + 1)) (va_up q qn i t) ≤ t
      rw [hqt, vu_n (Ne.symm hne)]; exact hp2
    · rw [if_neg h1, if_neg h1]
      refine ⟨⟨l3 h1, hpl, ?_, hp3⟩, rfl, fun _ => ⟨hic, hne, hnt, l1, fun z => absurd z h1⟩⟩
      show va_up pl i (Nat.max (pl i) (pl (q t) + 1)) (q t) ≤ t
      rw [vu_n (Ne.symm hne)]; exact hp2
theorem kI_take {c : Nat} {N : Nat → Nat} (hg : gOk c N) {K : kS} {t : Nat} (h : kI c N K t 0) (ht : t < K.2.2.2.2.1) : ∀ r, r ≤ 8 → kI c N (kTake N K (K.2.2.2.1 t) r) t r ∧ (kTake N K (K.2.2.2.1 t) r).2.2.2.1 t = K.2.2.2.1 t ∧ K.2.2.2.2.1 ≤ (kTake N K (K.2.2.2.1 t) r).2.2.2.2.1
  | 0, _ => ⟨h, rfl, Nat.le_refl _⟩
  | r + 1, hr => by
    obtain ⟨h1, h2, h3⟩ := kI_take hg h ht r (by omega)
    have h4 := kI_edge hg h1 (by omega) (by omega : r < 8)
    rw [h2] at h4
    exact ⟨h4.1, h4.2.1, (kTake_q N K (K.2.2.2.1 t) ht (r + 1)).1⟩
/-- between two nodes -/
def kJ (c : Nat) (N : Nat → Nat) (K : kS) (t : Nat) : Prop := kQ c N K.1 K.2.2.2.1 K.2.2.2.2.1 t 0 ∧ (∀ i, i < c → K.2.1 i ≤ t) ∧ K.2.2.2.2.2.1 ≤ t
theorem kJ_I {c : Nat} {N : Nat → Nat} {K : kS} {t : Nat} (h : kJ c N K t) (ht : t < K.2.2.2.2.1) : kI c N K t 0 := ⟨h.1, fun i hi => by have := h.2.1 i hi; omega, h.2.1 _ (h.1.1.2.1 t ht), h.2.2⟩
theorem kTake_lr (N : Nat → Nat) (K : kS) (x : Nat) : ∀ r, (kTake N K x r).2.2.2.2.2 = K.2.2.2.2.2
  | 0 => rfl
  | r + 1 => by
    show (kEdge N (kTake N K x r) x r).2.2.2.2.2 = _
    unfold kEdge
    split
    · exact kTake_lr N K x r
    · exact kTake_lr N K x r
theorem kTake_no {N : Nat → Nat} {K : kS} {x : Nat} (h : noE N x = true) : ∀ r, r ≤ 8 → kTake N K x r = K
  | 0, _ => rfl
  | r + 1, hr => by
    show kEdge N (kTake N K x r) x r = K
    unfold kEdge
    rw [if_pos (noE_t h (by omega)), kTake_no h r (by omega)]
theorem kJ_step {c : Nat} {N : Nat → Nat} (hg : gOk c N) {K : kS} {t : Nat} (h : kJ c N K t) (ht : t < K.2.2.2.2.1) : kJ c N (kStep N K (K.2.2.2.1 t)) (t + 1) ∧ K.2.2.2.2.1 ≤ (kStep N K (K.2.2.2.1 t)).2.2.2.2.1 ∧ (∀ m, m < K.2.2.2.2.1 → (kStep N K (K.2.2.2.1 t)).2.2.2.1 m = K.2.2.2.1 m) := by
  have h8 := (kI_take hg (kJ_I h ht) ht 8 (Nat.le_refl _)).1
  have hq := kTake_q N K (K.2.2.2.1 t) ht 8
  unfold kStep
  by_cases hn : noE N (K.2.2.2.1 t) = true
  · rw [if_pos hn]
    rw [kTake_no hn 8 (Nat.le_refl _)] at h8
    refine ⟨⟨kQ_next h8.1, h8.2.1, ?_⟩, Nat.le_refl _, fun _ _ => rfl⟩
    have := h.2.1 _ (h.1.1.2.1 t ht)
    have := h.2.2
    exact Nat.max_le.mpr ⟨by omega, by omega⟩
  · rw [if_neg hn]
    exact ⟨⟨kQ_next h8.1, h8.2.1, by have := h8.2.2.2; omega⟩, hq.1, hq.2⟩
/-- the longest rows: one edge -/
theorem kL_edge {c : Nat} {N L : Nat → Nat} (hg : gOk c N) (hL : eqL c N L) {K : kS} {t r : Nat} (hI : kI c N K t r) (ht : t < K.2.2.2.2.1) (hr : r < 8) (h : kL c N L K t r) : kL c N L (kEdge N K (K.2.2.2.1 t) r) t (r + 1) := by
  have hE := kI_edge hg hI ht hr
  obtain ⟨inc, pl, rw9, q, qn, lr, er⟩ := K
  obtain ⟨h1, h2, h3⟩ := h
  dsimp only at hE h1 h2 h3 ht
  have hx : q t < c := hI.1.1.2.1 t ht
  unfold kEdge at hE ⊢
  dsimp only at hE ⊢
  by_cases hN : N (8 * q t + r) = 0
  · rw [if_pos hN]
    refine ⟨h1, h2, ?_⟩
    rcases h3 with z | z | ⟨r', a, b, d, e⟩
    · exact Or.inl z
    · exact Or.inr (Or.inl z)
    · refine Or.inr (Or.inr ⟨r', ?_, b, d, e⟩)
      rcases Nat.lt_or_ge r r' with z | z
      · exact z
      · rw [show r' = r by omega] at d; exact absurd hN d
  · rw [if_neg hN] at hE ⊢
    obtain ⟨-, -, hE3⟩ := hE
    obtain ⟨hic, hne, hnt, -, -⟩ := hE3 hN
    have hLe := eL_le hL hx hr hN
    generalize hi : N (8 * q t + r) - 1 = i at hic hne hnt hLe ⊢
    have htop : ∀ j, j < c → va_up pl i (Nat.max (pl i) (pl (q t) + 1)) j + L j ≤ L 0 := by
      intro j hj
      by_cases z : j = i
      · rw [z, vu_s]
        have a1 := h1 i hic
        have a2 := h1 (q t) hx
        rcases Nat.le_total (pl i) (pl (q t) + 1) with w | w
        · rw [show Nat.max (pl i) (pl (q t) + 1) = pl (q t) + 1 from Nat.max_eq_right w]; omega
        · rw [show Nat.max (pl i) (pl (q t) + 1) = pl i from Nat.max_eq_left w]; exact a1
      · rw [vu_n z]; exact h1 j hj
    have hup : ∀ j, pl j ≤ va_up pl i (Nat.max (pl i) (pl (q t) + 1)) j := by
      intro j
      by_cases z : j = i
      · rw [z, vu_s]; exact Nat.le_max_left _ _
      · rw [vu_n z]; exact Nat.le_refl _
    have hq' : ∀ m, m ≤ t → (kLead (inc, pl, rw9, q, qn, lr, er) i (pl (q t) + 1) (rw9 (q t))).2.2.2.1 m = q m := by
      intro m hm
      unfold kLead
      dsimp only
      split
      · exact vu_n (by omega)
      · rfl
    have hqt := hq' t (Nat.le_refl _)
    have hfn : ∀ j, fnd (kLead (inc, pl, rw9, q, qn, lr, er) i (pl (q t) + 1) (rw9 (q t))).2.2.2.1 (t + 1) j = fnd q (t + 1) j := fun j => fnd_cong (fun m hm => hq' m (by omega))
    refine ⟨htop, h2, ?_⟩
    have hplq : (kLead (inc, pl, rw9, q, qn, lr, er) i (pl (q t) + 1) (rw9 (q t))).2.1 (q t) = pl (q t) := vu_n (Ne.symm hne)
    rcases h3 with z | ⟨j, hj, hjt, e⟩ | ⟨r', a, b, d, e⟩
    · exact Or.inl z
    · refine Or.inr (Or.inl ⟨j, hj, by rw [hfn]; exact hjt, ?_⟩)
      have a1 := htop j hj
      have a2 := hup j
      show va_up pl i (Nat.max (pl i) (pl (q t) + 1)) j + L j = L 0
      omega
    · rcases Nat.lt_or_ge r r' with z | z
      · refine Or.inr (Or.inr ⟨r', z, b, ?_, ?_⟩)
        · rw [hqt]; exact d
        · rw [hqt, hplq]; exact e
      · have e0 : r' = r := by omega
        subst e0
        rw [hi] at e
        refine Or.inr (Or.inl ⟨i, hic, by rw [hfn]; exact hnt, ?_⟩)
        have a1 := htop i hic
        show va_up pl i (Nat.max (pl i) (pl (q t) + 1)) i + L i = L 0
        rw [vu_s] at a1 ⊢
        have : pl (q t) + 1 ≤ Nat.max (pl i) (pl (q t) + 1) := Nat.le_max_right _ _
        omega
theorem fnd_succ (S : Nat → Nat) (c y : Nat) : fnd S (c + 1) y = if fnd S c y < c then fnd S c y else if decide (S c = y) then c else c + 1 := rfl
theorem kL_step {c : Nat} {N L : Nat → Nat} (hg : gOk c N) (hL : eqL c N L) {K : kS} {t : Nat} (hJ : kJ c N K t) (ht : t < K.2.2.2.2.1) (h : kL0 c L K t) : kL0 c L (kStep N K (K.2.2.2.1 t)) (t + 1) := by
  have hI := kJ_I hJ ht
  have hx : K.2.2.2.1 t < c := hJ.1.1.2.1 t ht
  obtain ⟨h1, h2, h3⟩ := h
  by_cases hn : noE N (K.2.2.2.1 t) = true
  · unfold kStep
    rw [if_pos hn]
    have hL0 := L_end hL hx hn
    have a1 := h1 _ hx
    refine ⟨h1, Nat.max_le.mpr ⟨h2, by omega⟩, ?_⟩
    rcases h3 with z | ⟨i, hi, hit, e⟩
    · exact Or.inl (Nat.le_antisymm (Nat.max_le.mpr ⟨h2, by omega⟩) (by show L 0 ≤ Nat.max _ _; rw [← z]; exact Nat.le_max_left _ _))
    · by_cases z : K.2.2.2.1 t = i
      · refine Or.inl (Nat.le_antisymm (Nat.max_le.mpr ⟨h2, by omega⟩) ?_)
        have : K.2.1 (K.2.2.2.1 t) = L 0 := by rw [z] at hL0 ⊢; omega
        show L 0 ≤ Nat.max _ _
        rw [← this]; exact Nat.le_max_right _ _
      · refine Or.inr ⟨i, hi, ?_, e⟩
        show ¬ fnd K.2.2.2.1 (t + 1) i < t + 1
        rw [fnd_succ, if_neg hit, decide_eq_false z]
        exact Nat.lt_irrefl _
  · have hn' : noE N (K.2.2.2.1 t) = false := by simpa using hn
    have k0 : kL c N L K t 0 := by
      refine ⟨h1, h2, ?_⟩
      rcases h3 with z | ⟨i, hi, hit, e⟩
      · exact Or.inl z
      · by_cases z : K.2.2.2.1 t = i
        · obtain ⟨r, hr, hN, hLr⟩ := L_go hL hx hn'
          refine Or.inr (Or.inr ⟨r, Nat.zero_le _, hr, hN, ?_⟩)
          rw [← z] at e
          omega
        · refine Or.inr (Or.inl ⟨i, hi, ?_, e⟩)
          rw [fnd_succ, if_neg hit, decide_eq_false z]
          exact Nat.lt_irrefl _
    have key : ∀ r, r ≤ 8 → kL c N L (kTake N K (K.2.2.2.1 t) r) t r := by
      intro r
      induction r with
      | zero => intro _; exact k0
      | succ r ih =>
        intro hr
        obtain ⟨b1, b2, b3⟩ := kI_take hg hI ht r (by omega)
        have := kL_edge hg hL b1 (by omega) (by omega : r < 8) (ih (by omega))
        rw [b2] at this
        exact this
    obtain ⟨a1, a2, a3⟩ := key 8 (Nat.le_refl _)
    unfold kStep
    rw [if_neg hn]
    refine ⟨a1, a2, ?_⟩
    rcases a3 with z | z | ⟨r', a, b, -⟩
    · exact Or.inl z
    · exact Or.inr z
    · omega
def uW (q : Nat → Nat) (t : Nat) (rw9 W : Nat → Int64) (i : Nat) : Int64 := if fnd q t i < t then 0 else rw9 i * W i
def pW (N : Nat → Nat) (W : Nat → Int64) (x r r' : Nat) : Int64 := if r' < r then 0 else eW N W x r'
def kW0 (c : Nat) (W : Nat → Int64) (K : kS) (t : Nat) : Prop := K.2.2.2.2.2.2 + sl (uW K.2.2.2.1 t K.2.2.1 W) c = W 0
def kW (c : Nat) (N : Nat → Nat) (W : Nat → Int64) (K : kS) (t r : Nat) : Prop := K.2.2.2.2.2.2 + sl (uW K.2.2.2.1 (t + 1) K.2.2.1 W) c + K.2.2.1 (K.2.2.2.1 t) * sl (pW N W (K.2.2.2.1 t) r) 8 = W 0
theorem sl_0 : ∀ n, sl (fun _ => 0) n = 0
  | 0 => rfl
  | n + 1 => by
    show sl (fun _ => 0) n + 0 = 0
    rw [sl_0 n]; rfl
theorem pW_step {N : Nat → Nat} {W : Nat → Int64} {x r : Nat} (hr : r < 8) : sl (pW N W x (r + 1)) 8 + eW N W x r = sl (pW N W x r) 8 := by
  have h := sl_upd (pW N W x r) r 0 8 hr
  have e1 : sl (va_up (pW N W x r) r 0) 8 = sl (pW N W x (r + 1)) 8 := sl_cong fun j hj => by
    by_cases z : j = r
    · rw [z, vu_s]; unfold pW; rw [if_pos (by omega)]
    · rw [vu_n z]; unfold pW
      by_cases z2 : j < r
      · rw [if_pos z2, if_pos (by omega)]
      · rw [if_neg z2, if_neg (by omega)]
  have e2 : pW N W x r r = eW N W x r := by unfold pW; rw [if_neg (by omega)]
  rw [e1, e2] at h
  grind
theorem kW_edge {c : Nat} {N : Nat → Nat} {W : Nat → Int64} (hg : gOk c N) {K : kS} {t r : Nat} (hI : kI c N K t r) (ht : t < K.2.2.2.2.1) (hr : r < 8) (h : kW c N W K t r) : kW c N W (kEdge N K (K.2.2.2.1 t) r) t (r + 1) := by
  have hE := kI_edge hg hI ht hr
  obtain ⟨inc, pl, rw9, q, qn, lr, er⟩ := K
  unfold kW at h ⊢
  dsimp only at hE h ht ⊢
  have hp := pW_step (N := N) (W := W) (x := q t) hr
  unfold kEdge at hE ⊢
  dsimp only at hE ⊢
  by_cases hN : N (8 * q t + r) = 0
  · rw [if_pos hN]
    dsimp only
    have e0 : eW N W (q t) r = 0 := by unfold eW; rw [if_pos hN]
    rw [e0] at hp
    rw [show sl (pW N W (q t) (r + 1)) 8 = sl (pW N W (q t) r) 8 by grind]
    exact h
  · rw [if_neg hN] at hE ⊢
    obtain ⟨-, -, hE3⟩ := hE
    obtain ⟨hic, hne, hnt, -, -⟩ := hE3 hN
    have e0 : eW N W (q t) r = W (N (8 * q t + r) - 1) := by unfold eW; rw [if_neg hN]
    rw [e0] at hp
    generalize hi : N (8 * q t + r) - 1 = i at hic hne hnt hp ⊢
    have hq' : ∀ m, m ≤ t → (kLead (inc, pl, rw9, q, qn, lr, er) i (pl (q t) + 1) (rw9 (q t))).2.2.2.1 m = q m := by
      intro m hm
      unfold kLead
      dsimp only
      split
      · exact vu_n (by have : t < qn := ht; omega)
      · rfl
    have hsum : sl (uW (kLead (inc, pl, rw9, q, qn, lr, er) i (pl (q t) + 1) (rw9 (q t))).2.2.2.1 (t + 1) (va_up rw9 i (rw9 i + rw9 (q t))) W) c + uW q (t + 1) rw9 W i = sl (uW q (t + 1) rw9 W) c + (rw9 i + rw9 (q t)) * W i := by
      rw [← sl_upd (uW q (t + 1) rw9 W) i ((rw9 i + rw9 (q t)) * W i) c hic]
      congr 1
      refine sl_cong fun j hj => ?_
      unfold uW
      rw [fnd_cong (S' := (kLead (inc, pl, rw9, q, qn, lr, er) i (pl (q t) + 1) (rw9 (q t))).2.2.2.1) (S := q) (fun m hm => hq' m (by omega))]
      by_cases z : j = i
      · rw [z, vu_s, vu_s, if_neg hnt]
      · rw [vu_n z, vu_n z]
    have e2 : uW q (t + 1) rw9 W i = rw9 i * W i := if_neg hnt
    rw [e2] at hsum
    have hqt := hq' t (Nat.le_refl _)
    rw [hqt]
    show er + sl (uW (kLead (inc, pl, rw9, q, qn, lr, er) i (pl (q t) + 1) (rw9 (q t))).2.2.2.1 (t + 1) (va_up rw9 i (rw9 i + rw9 (q t))) W) c + va_up rw9 i (rw9 i + rw9 (q t)) (q t) * sl (pW N W (q t) (r + 1)) 8 = W 0
    rw [vu_n (Ne.symm hne)]
    grind
theorem uW_split {c : Nat} {q : Nat → Nat} {t : Nat} {rw9 W : Nat → Int64} (hx : q t < c) (hn : ¬ fnd q t (q t) < t) : sl (uW q t rw9 W) c = sl (uW q (t + 1) rw9 W) c + rw9 (q t) * W (q t) := by
  have h := sl_upd (uW q t rw9 W) (q t) 0 c hx
  have e1 : sl (va_up (uW q t rw9 W) (q t) 0) c = sl (uW q (t + 1) rw9 W) c := sl_cong fun j hj => by
    unfold uW
    by_cases z : j = q t
    · rw [z, vu_s, fnd_succ, if_neg hn, if_pos (decide_eq_true rfl), if_pos (by omega)]
    · rw [vu_n z, fnd_succ]
      by_cases z2 : fnd q t j < t
      · rw [if_pos z2, if_pos z2, if_pos (by omega)]
      · have z3 : (if fnd q t j < t then fnd q t j else if decide (q t = j) then t else t + 1) = t + 1 := by
          rw [if_neg z2, decide_eq_false (fun e => z e.symm)]; rfl
        rw [z3, if_neg z2, if_neg (Nat.lt_irrefl _)]
  have e2 : uW q t rw9 W (q t) = rw9 (q t) * W (q t) := if_neg hn
  rw [e1, e2] at h
  grind
theorem kW_step {c : Nat} {N : Nat → Nat} {W : Nat → Int64} (hg : gOk c N) (hW : eqW c N W) {K : kS} {t : Nat} (hJ : kJ c N K t) (ht : t < K.2.2.2.2.1) (h : kW0 c W K t) : kW0 c W (kStep N K (K.2.2.2.1 t)) (t + 1) := by
  have hI := kJ_I hJ ht
  have hx : K.2.2.2.1 t < c := hJ.1.1.2.1 t ht
  have hs := uW_split (rw9 := K.2.2.1) (W := W) hx (fnd_self hJ.1.1.2.2 ht)
  have hWx := hW _ hx
  unfold kW0 at h
  have e8 : sl (pW N W (K.2.2.2.1 t) 0) 8 = sl (eW N W (K.2.2.2.1 t)) 8 := sl_cong fun j hj => if_neg (Nat.not_lt_zero j)
  by_cases hn : noE N (K.2.2.2.1 t) = true
  · unfold kStep kW0
    rw [if_pos hn]
    dsimp only
    have e9 : sl (eW N W (K.2.2.2.1 t)) 8 = 0 := by
      rw [← sl_0 8]
      exact sl_cong fun j hj => if_pos (noE_t hn hj)
    rw [if_pos hn, e9] at hWx
    grind
  · rw [if_neg hn] at hWx
    have k0 : kW c N W K t 0 := by
      unfold kW
      rw [e8]
      grind
    have key : ∀ r, r ≤ 8 → kW c N W (kTake N K (K.2.2.2.1 t) r) t r := by
      intro r
      induction r with
      | zero => intro _; exact k0
      | succ r ih =>
        intro hr
        obtain ⟨b1, b2, b3⟩ := kI_take hg hI ht r (by omega)
        have := kW_edge hg b1 (by omega) (by omega : r < 8) (ih (by omega))
        rw [b2] at this
        exact this
    have a := key 8 (Nat.le_refl _)
    unfold kW at a
    have e7 : ∀ x, sl (pW N W x 8) 8 = 0 := fun x => by
      rw [← sl_0 8]
      exact sl_cong fun j hj => if_pos hj
    rw [e7] at a
    unfold kStep kW0
    rw [if_neg hn]
    grind
/-- the run as the code goes it -/
def kGo (N : Nat → Nat) (K : kS) (t : Nat) : Prop := ∀ m, m < t → m < (kRun N K m).2.2.2.2.1
theorem kGo_J {c : Nat} {N : Nat → Nat} (hg : gOk c N) {K : kS} (h : kJ c N K 0) : ∀ t, kGo N K t → kJ c N (kRun N K t) t ∧ t ≤ (kRun N K t).2.2.2.2.1
  | 0, _ => ⟨h, Nat.zero_le _⟩
  | t + 1, hgo => by
    obtain ⟨h1, h2⟩ := kGo_J hg h t (fun m hm => hgo m (by omega))
    have h3 := hgo t (by omega)
    obtain ⟨h4, h5, -⟩ := kJ_step hg h1 h3
    exact ⟨h4, by show t + 1 ≤ (kStep N (kRun N K t) ((kRun N K t).2.2.2.1 t)).2.2.2.2.1; omega⟩
theorem kGo_L {c : Nat} {N L : Nat → Nat} (hg : gOk c N) (hL : eqL c N L) {K : kS} (h : kJ c N K 0) (h0 : kL0 c L K 0) : ∀ t, kGo N K t → kL0 c L (kRun N K t) t
  | 0, _ => h0
  | t + 1, hgo => kL_step hg hL (kGo_J hg h t (fun m hm => hgo m (by omega))).1 (hgo t (by omega)) (kGo_L hg hL h h0 t (fun m hm => hgo m (by omega)))
theorem kGo_W {c : Nat} {N : Nat → Nat} {W : Nat → Int64} (hg : gOk c N) (hW : eqW c N W) {K : kS} (h : kJ c N K 0) (h0 : kW0 c W K 0) : ∀ t, kGo N K t → kW0 c W (kRun N K t) t
  | 0, _ => h0
  | t + 1, hgo => kW_step hg hW (kGo_J hg h t (fun m hm => hgo m (by omega))).1 (hgo t (by omega)) (kGo_W hg hW h h0 t (fun m hm => hgo m (by omega)))
/-- the counts at the start -/
def k0i (c : Nat) (N : Nat → Nat) (i : Nat) : Nat := fb_ct (fun e => decide (N e = i + 1)) (8 * c)
def K0 (c : Nat) (N : Nat → Nat) : kS := (k0i c N, fun _ => 0, va_up (fun _ => 0) 0 1, fun _ => 0, (if k0i c N 0 = 0 then 1 else 0), 0, 0)
theorem pe_00 (q : Nat → Nat) (e : Nat) : pe q 0 0 e = false := by
  unfold pe
  rw [decide_eq_false (Nat.not_lt_zero _), decide_eq_false (Nat.not_lt_zero _), Bool.and_false]
  rfl
theorem K0_J {c : Nat} {N : Nat → Nat} (hc : 1 ≤ c) (hg : gOk c N) : kJ c N (K0 c N) 0 := by
  have hi : ∀ i, 1 ≤ i → i < c → k0i c N i ≠ 0 := fun i h1 h2 => by
    obtain ⟨e, he, hN⟩ := hg.2 i h1 h2
    exact Nat.ne_of_gt (fb_ct_pos.mpr ⟨e, by omega, decide_eq_true hN⟩)
  refine ⟨⟨⟨?_, fun m hm => ?_, fun a b ha hb _ => ?_⟩, fun i hi2 => ?_, fun i hi2 => ?_⟩, fun i _ => Nat.le_refl 0, Nat.le_refl 0⟩
  · show (if k0i c N 0 = 0 then 1 else 0) ≤ c
    split <;> omega
  · show 0 < c; omega
  · have h1 : (K0 c N).2.2.2.2.1 ≤ 1 := by show (if k0i c N 0 = 0 then 1 else 0) ≤ 1; split <;> omega
    omega
  · exact fb_ct_cong fun e _ => by rw [pe_00]; simp
  · show k0i c N i = 0 ↔ fnd (fun _ => 0) (if k0i c N 0 = 0 then 1 else 0) i < (if k0i c N 0 = 0 then 1 else 0)
    rcases Nat.lt_or_ge 0 i with z | z
    · constructor
      · intro h; exact absurd h (hi i z hi2)
      · intro h
        have := fnd_yes h
        omega
    · have e : i = 0 := by omega
      subst e
      by_cases h : k0i c N 0 = 0
      · rw [if_pos h]
        exact ⟨fun _ => fnd_lt (S := fun _ => 0) (c := 1) (k := 0) (by decide) rfl, fun _ => h⟩
      · rw [if_neg h]
        exact ⟨fun z => absurd z h, fun z => absurd z (Nat.not_lt_zero _)⟩
theorem K0_L {c : Nat} {N L : Nat → Nat} (hc : 1 ≤ c) (hL : eqL c N L) (hg : gOk c N) : kL0 c L (K0 c N) 0 :=
  ⟨fun i hi => by show 0 + L i ≤ L 0; have := L_top hL hg i hi; omega, Nat.zero_le _, Or.inr ⟨0, by omega, Nat.not_lt_zero _, by show 0 + L 0 = L 0; omega⟩⟩
theorem K0_W {c : Nat} {N : Nat → Nat} {W : Nat → Int64} (hc : 1 ≤ c) : kW0 c W (K0 c N) 0 := by
  show (0 : Int64) + sl (uW (fun _ => 0) 0 (va_up (fun _ => 0) 0 1) W) c = W 0
  have h := sl_upd (fun _ => (0 : Int64)) 0 (W 0) c (by omega)
  have e1 : sl (va_up (fun _ => (0 : Int64)) 0 (W 0)) c = sl (uW (fun _ => 0) 0 (va_up (fun _ => 0) 0 1) W) c := sl_cong fun j hj => by
    unfold uW
    rw [if_neg (Nat.not_lt_zero _)]
    by_cases z : j = 0
    · rw [z, vu_s, vu_s]; grind
    · rw [vu_n z, vu_n z]; grind
  rw [e1, sl_0] at h
  grind
/-- what is queued comes behind all that lead to it -/
def kO (c : Nat) (N : Nat → Nat) (q : Nat → Nat) (qn : Nat) : Prop := ∀ b, b < qn → ∀ e, e < 8 * c → N e = q b + 1 → fnd q b (e / 8) < b
theorem kO_edge {c : Nat} {N : Nat → Nat} (hg : gOk c N) {K : kS} {t r : Nat} (hI : kI c N K t r) (ht : t < K.2.2.2.2.1) (hr : r < 8) (h : kO c N K.2.2.2.1 K.2.2.2.2.1) : kO c N (kEdge N K (K.2.2.2.1 t) r).2.2.2.1 (kEdge N K (K.2.2.2.1 t) r).2.2.2.2.1 := by
  have hE := kI_edge hg hI ht hr
  obtain ⟨inc, pl, rw9, q, qn, lr, er⟩ := K
  dsimp only at hE h ht ⊢
  unfold kEdge at hE ⊢
  dsimp only at hE ⊢
  by_cases hN : N (8 * q t + r) = 0
  · rw [if_pos hN]; exact h
  · rw [if_neg hN] at hE ⊢
    obtain ⟨hI2, -, hE3⟩ := hE
    obtain ⟨hic, hne, hnt, -, -⟩ := hE3 hN
    generalize hi : N (8 * q t + r) - 1 = i at hic hne hnt hI2 ⊢
    have ht' : t < qn := ht
    unfold kLead at hI2 ⊢
    dsimp only at hI2 ⊢
    by_cases h1 : inc i = 1
    · rw [if_pos h1, if_pos h1] at hI2 ⊢
      have hz := hI2.1.2.1 i hic
      dsimp only at hz
      rw [vu_s, h1] at hz
      intro b hb e he hNe
      have hcg : ∀ m, m < b → va_up q qn i m = q m := fun m hm => vu_n (by omega)
      rw [fnd_cong hcg]
      by_cases z : b = qn
      · rw [z, vu_s] at hNe
        have h3 := fb_ct_zero.mp hz.symm e he
        rw [decide_eq_true hNe, Bool.true_and, pe_cong (q := q) (fun m hm => vu_n (by omega))] at h3
        have h4 : pe q t (r + 1) e = true := by simpa using h3
        unfold pe at h4
        rw [z]
        rcases Bool.or_eq_true _ _ |>.mp h4 with h5 | h5
        · have h6 := of_decide_eq_true h5
          exact fnd_lt (k := fnd q t (e / 8)) (by omega) (fnd_yes h6)
        · have h6 := of_decide_eq_true ((Bool.and_eq_true _ _ |>.mp h5).1)
          exact fnd_lt ht' h6
      · rw [vu_n z] at hNe
        exact h b (by omega) e he hNe
    · rw [if_neg h1, if_neg h1]; exact h
theorem kO_step {c : Nat} {N : Nat → Nat} (hg : gOk c N) {K : kS} {t : Nat} (hJ : kJ c N K t) (ht : t < K.2.2.2.2.1) (h : kO c N K.2.2.2.1 K.2.2.2.2.1) : kO c N (kStep N K (K.2.2.2.1 t)).2.2.2.1 (kStep N K (K.2.2.2.1 t)).2.2.2.2.1 := by
  have key : ∀ r, r ≤ 8 → kO c N (kTake N K (K.2.2.2.1 t) r).2.2.2.1 (kTake N K (K.2.2.2.1 t) r).2.2.2.2.1 := by
    intro r
    induction r with
    | zero => intro _; exact h
    | succ r ih =>
      intro hr
      obtain ⟨b1, b2, b3⟩ := kI_take hg (kJ_I hJ ht) ht r (by omega)
      have := kO_edge hg b1 (by omega) (by omega : r < 8) (ih (by omega))
      rw [b2] at this
      exact this
  unfold kStep
  by_cases hn : noE N (K.2.2.2.1 t) = true
  · rw [if_pos hn]; exact h
  · rw [if_neg hn]; exact key 8 (Nat.le_refl _)
theorem kGo_O {c : Nat} {N : Nat → Nat} (hg : gOk c N) {K : kS} (h : kJ c N K 0) (h0 : kO c N K.2.2.2.1 K.2.2.2.2.1) : ∀ t, kGo N K t → kO c N (kRun N K t).2.2.2.1 (kRun N K t).2.2.2.2.1
  | 0, _ => h0
  | t + 1, hgo => kO_step hg (kGo_J hg h t (fun m hm => hgo m (by omega))).1 (hgo t (by omega)) (kGo_O hg h h0 t (fun m hm => hgo m (by omega)))
theorem K0_O (c : Nat) (N : Nat → Nat) : kO c N (K0 c N).2.2.2.1 (K0 c N).2.2.2.2.1 := by
  intro b hb e he hN
  exfalso
  have hb' : b < (if k0i c N 0 = 0 then 1 else 0) := hb
  by_cases h : k0i c N 0 = 0
  · have h2 := fb_ct_zero.mp h e he
    have h3 : N e = 0 + 1 := hN
    rw [decide_eq_true h3] at h2
    exact absurd h2 (by decide)
  · rw [if_neg h] at hb'; omega
/-- what Kahn's way tells: it takes all just where no circle is; and then the longest row and the number of rows -/
theorem kahn_spec {c : Nat} {N : Nat → Nat} (hc : 1 ≤ c) (hg : gOk c N) {t : Nat} (h1 : kGo N (K0 c N) t) (h2 : (kRun N (K0 c N) t).2.2.2.2.1 ≤ t) :
    (t = c ↔ acy c N) ∧ (t = c → (∀ L, eqL c N L → (kRun N (K0 c N) t).2.2.2.2.2.1 = L 0) ∧ ∀ W, eqW c N W → (kRun N (K0 c N) t).2.2.2.2.2.2 = W 0) := by
  obtain ⟨hJ, hle⟩ := kGo_J hg (K0_J hc hg) t h1
  have hO := kGo_O hg (K0_J hc hg) (K0_O c N) t h1
  have hLt := fun L hL => kGo_L (L := L) hg hL (K0_J hc hg) (K0_L hc hL hg) t h1
  have hWt := fun W hW => kGo_W (W := W) hg hW (K0_J hc hg) (K0_W hc) t h1
  generalize kRun N (K0 c N) t = K at h2 hJ hle hLt hWt hO
  have hqn : K.2.2.2.2.1 = t := by omega
  have hall : t = c → ∀ i, i < c → fnd K.2.2.2.1 t i < t := by
    intro e i hi
    obtain ⟨m, hm, hmi⟩ := fb_onto (n := c) (f := K.2.2.2.1) (fun m hm => hJ.1.1.2.1 m (by omega)) (fun a b hab hb z => by have := hJ.1.1.2.2 a b (by omega) (by omega) z; omega) hi
    exact fnd_lt (by omega) hmi
  refine ⟨⟨fun e => ?_, fun ha => ?_⟩, fun e => ⟨fun L hL => ?_, fun W hW => ?_⟩⟩
  · refine ⟨fun i => c - fnd K.2.2.2.1 t i, fun e9 he9 hN => ?_⟩
    have hj := hall e (e9 / 8) (by omega)
    have hNc := hg.1 e9 he9
    have hi := hall e (N e9 - 1) (by omega)
    show c - fnd K.2.2.2.1 t (N e9 - 1) < c - fnd K.2.2.2.1 t (e9 / 8)
    have h5 := hO (fnd K.2.2.2.1 t (N e9 - 1)) (by omega) e9 he9 (by rw [fnd_yes hi]; omega)
    have h6 : fnd K.2.2.2.1 t (e9 / 8) < fnd K.2.2.2.1 t (N e9 - 1) := by
      have h7 := fnd_yes h5
      have h8 : fnd K.2.2.2.1 t (e9 / 8) = fnd K.2.2.2.1 (fnd K.2.2.2.1 t (N e9 - 1)) (e9 / 8) := hJ.1.1.2.2 _ _ (by omega) (by omega) ((fnd_yes hj).trans h7.symm)
      omega
    omega
  · rcases Nat.lt_or_ge t c with hlt | hge
    · exfalso
      obtain ⟨ρ, hρ⟩ := ha
      obtain ⟨i, hi, hmax, -⟩ := fb_best (fun i => if fnd K.2.2.2.1 t i < t then (-1 : Int) else (ρ i : Int)) (n := c) (by omega)
      have hex : ∃ i0, i0 < c ∧ ¬ fnd K.2.2.2.1 t i0 < t := by
        refine Classical.byContradiction fun hno => ?_
        have hal : ∀ i0, i0 < c → fnd K.2.2.2.1 t i0 < t := fun i0 h0 => Classical.byContradiction fun z => hno ⟨i0, h0, z⟩
        have := fb_holes t c (fun i0 => fnd K.2.2.2.1 t i0) hal (fun a b hab hb z => by
          have z1 := fnd_yes (hal a (by omega))
          have z2 := fnd_yes (hal b hb)
          have z3 : fnd K.2.2.2.1 t a = fnd K.2.2.2.1 t b := z
          rw [z3, z2] at z1
          omega)
        omega
      obtain ⟨i0, h0, h0n⟩ := hex
      have hm0 := hmax i0 h0
      rw [if_neg h0n] at hm0
      have hin : ¬ fnd K.2.2.2.1 t i < t := fun z => by
        rw [if_pos z] at hm0
        omega
      have hic : K.1 i ≠ 0 := fun z => hin (by have := (hJ.1.2.2 i hi).mp z; rw [hqn] at this; exact this)
      rw [hJ.1.2.1 i hi] at hic
      obtain ⟨e, he, hp⟩ := fb_ct_pos.mp (Nat.pos_of_ne_zero hic)
      obtain ⟨p1, p2⟩ := (Bool.and_eq_true _ _).mp hp
      have hN : N e = i + 1 := of_decide_eq_true p1
      have hpe : pe K.2.2.2.1 t 0 e = false := by simpa using p2
      unfold pe at hpe
      have hjn : ¬ fnd K.2.2.2.1 t (e / 8) < t := of_decide_eq_false ((Bool.or_eq_false_iff.mp hpe).1)
      have hr := hρ e he (by omega)
      rw [hN, show i + 1 - 1 = i by omega] at hr
      have hm1 := hmax (e / 8) (by omega)
      rw [if_neg hjn, if_neg hin] at hm1
      omega
    · have := hJ.1.1.1
      omega
  · obtain ⟨-, -, z | ⟨i, hi, hn, -⟩⟩ := hLt L hL
    · exact z
    · exact absurd (hall e i hi) hn
  · have hw := hWt W hW
    unfold kW0 at hw
    have e0 : sl (uW K.2.2.2.1 t K.2.2.1 W) c = 0 := by
      rw [← sl_0 c]
      exact sl_cong fun i hi => if_pos (hall e i hi)
    rw [e0] at hw
    grind
