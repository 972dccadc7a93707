/-! What the exploration's N says of the situations; what both sides tell of it. -/
def eV (B : Nat → Nat → Nat) (E : eS) (m : Nat) : Prop := E.2.1 0 = 0 ∧ (∀ e, e < m → e / 8 < E.2.2.2.1) ∧ (∀ e j, e < m → E.2.2.1 e = j + 1 → j ≠ 0 → fb_ct (fun e' => decide (E.2.2.1 e' = j + 1)) e = 0 → E.2.1 j = E.2.1 (e / 8) + 1) ∧ (E.2.2.2.2 = false → ∀ e, e < m → (E.2.2.1 e ≠ 0 ↔ (rdy B (E.1 (e / 8) / 64)).testBit (e % 8) = true))
theorem bst_v {n : Nat} {B : Nat → Nat → Nat} {E : eS} {k r : Nat} (hE : eOk n E (8 * k + r)) (hG : eG E (8 * k + r)) (hk : k < E.2.2.2.1) (hr : r < 8) (h : eV B E (8 * k + r)) : eV B (bst B k r E) (8 * k + r + 1) := by
  obtain ⟨S, D, N, c, too⟩ := E
  obtain ⟨h1, h2, h3, h4⟩ := h
  obtain ⟨o1, o2, o3, o4, o5, o6⟩ := hE
  dsimp only at h1 h2 h3 h4 o1 o2 o3 o4 o5 o6 hk
  have hG : ∀ i, 1 ≤ i → i < c → ∃ e, e < 8 * k + r ∧ e < 8 * i ∧ N e = i + 1 := hG
  have dv : (8 * k + r) / 8 = k := by omega
  have md : (8 * k + r) % 8 = r := by omega
  have cnt : ∀ (v e i : Nat), e < 8 * k + r + 1 → fb_ct (fun e' => decide (va_up N (8 * k + r) v e' = i)) e = fb_ct (fun e' => decide (N e' = i)) e := fun v e i he => fb_ct_cong fun e' he' => by rw [vu_n (by omega)]
  have hdiv : ∀ c', c ≤ c' → ∀ e, e < 8 * k + r + 1 → e / 8 < c' := fun c' hc e he => by
    by_cases z : e = 8 * k + r
    · rw [z, dv]; omega
    · have := h2 e (by omega); omega
  unfold bst
  dsimp only
  split
  · rename_i hb
    split
    · rename_i hf
      refine ⟨h1, hdiv c (Nat.le_refl c), fun e j he hj h0 hc => ?_, fun ht e he => ?_⟩
      · dsimp only at hj hc ⊢
        rw [cnt _ _ _ he] at hc
        by_cases z : e = 8 * k + r
        · rw [z, vu_s] at hj
          rw [z] at hc
          obtain ⟨e', g1, g2, g3⟩ := hG j (by omega) (by omega)
          exact absurd g3 (of_decide_eq_false (fb_ct_zero.mp hc e' g1))
        · rw [vu_n z] at hj
          exact h3 e j (by omega) hj h0 hc
      · dsimp only at ht ⊢
        by_cases z : e = 8 * k + r
        · rw [z, vu_s, dv, md]
          exact ⟨fun _ => hb, fun _ => Nat.succ_ne_zero _⟩
        · rw [vu_n z]; exact h4 ht e (by omega)
    · split
      · rename_i hc9
        refine ⟨h1, hdiv c (Nat.le_refl c), fun e j he hj h0 hc => ?_, fun ht e he => absurd ht (by show ¬ true = false; decide)⟩
        dsimp only at hj hc ⊢
        rw [cnt _ _ _ he] at hc
        by_cases z : e = 8 * k + r
        · rw [z, vu_s] at hj; omega
        · rw [vu_n z] at hj
          exact h3 e j (by omega) hj h0 hc
      · rename_i hf hc9
        refine ⟨by show va_up D c (D k + 1) 0 = 0; rw [vu_n (by omega)]; exact h1, hdiv (c + 1) (by omega), fun e j he hj h0 hc => ?_, fun ht e he => ?_⟩
        · dsimp only at hj hc ⊢
          rw [cnt _ _ _ he] at hc
          have hec := hdiv c (Nat.le_refl c) e he
          by_cases z : e = 8 * k + r
          · rw [z, vu_s] at hj
            rw [show j = c by omega, vu_s, z, dv, vu_n (by omega)]
          · rw [vu_n z] at hj
            have := o5 e (by omega)
            rw [vu_n (by omega), vu_n (by omega)]
            exact h3 e j (by omega) hj h0 hc
        · dsimp only at ht ⊢
          have hec := hdiv c (Nat.le_refl c) e he
          rw [vu_n (show e / 8 ≠ c by omega)]
          by_cases z : e = 8 * k + r
          · rw [z, vu_s, dv, md]
            exact ⟨fun _ => hb, fun _ => Nat.succ_ne_zero _⟩
          · rw [vu_n z]; exact h4 ht e (by omega)
  · rename_i hb
    refine ⟨h1, hdiv c (Nat.le_refl c), fun e j he hj h0 hc => ?_, fun ht e he => ?_⟩
    · dsimp only at hj hc ⊢
      rw [cnt _ _ _ he] at hc
      by_cases z : e = 8 * k + r
      · rw [z, vu_s] at hj; omega
      · rw [vu_n z] at hj
        exact h3 e j (by omega) hj h0 hc
    · dsimp only at ht ⊢
      by_cases z : e = 8 * k + r
      · rw [z, vu_s, dv, md]
        exact ⟨fun q => absurd rfl q, fun q => absurd q hb⟩
      · rw [vu_n z]; exact h4 ht e (by omega)
theorem bex_v {n : Nat} {B : Nat → Nat → Nat} (hB : gB n B) {E : eS} {k : Nat} (hE : eOk n E (8 * k)) (hG : eG E (8 * k)) (hk : k < E.2.2.2.1) (h : eV B E (8 * k)) : ∀ r, r ≤ 8 → eV B (bex B k E r) (8 * k + r)
  | 0, _ => h
  | r + 1, hr => by
    obtain ⟨a, b⟩ := bex_ok hB hE hk r (by omega)
    exact bst_v a (bex_g hB hE hk hG r (by omega)) (Nat.lt_of_lt_of_le hk b.1) (by omega) (bex_v hB hE hG hk h r (by omega))
theorem bfs_v {n : Nat} {B : Nat → Nat → Nat} (hB : gB n B) {x0 : Nat} (hx : x0 < 64 * 2 ^ n) : ∀ k, bRun B x0 k → eV B (bfs B x0 k) (8 * k)
  | 0, _ => ⟨rfl, fun e he => absurd he (Nat.not_lt_zero e), fun e j he => absurd he (Nat.not_lt_zero e), fun _ e he => absurd he (Nat.not_lt_zero e)⟩
  | k + 1, h => bex_v hB (bfs_ok hB hx k (fun j hj => h j (by omega))) (bfs_g hB hx k (fun j hj => h j (by omega))) (h k (by omega)).1 (bfs_v hB hx k (fun j hj => h j (by omega))) 8 (by omega)
/-- the whole of it, where there are not too many -/
theorem bfs_all {n : Nat} {B : Nat → Nat → Nat} (hB : gB n B) {x k : Nat} (hx : x < 64 * 2 ^ n) (hE : bEnd B x k) (ht : (bfs B x k).2.2.2.2 = false) :
    gOk (bfs B x k).2.2.2.1 (bfs B x k).2.2.1 ∧ eDp (bfs B x k).2.2.2.1 (bfs B x k).2.2.1 (bfs B x k).2.1 ∧
    (∀ j, j < (bfs B x k).2.2.2.1 → ∀ r, r < 8 → ((bfs B x k).2.2.1 (8 * j + r) ≠ 0 ↔ (rdy B ((bfs B x k).1 j / 64)).testBit r = true)) ∧
    (∀ j, j < (bfs B x k).2.2.2.1 → ∀ r, n ≤ r → r < 8 → (bfs B x k).2.2.1 (8 * j + r) = 0) ∧
    (∀ j, j < (bfs B x k).2.2.2.1 → ((bfs B x k).1 j / 64 = 0 ↔ noE (bfs B x k).2.2.1 j = true)) := by
  have hc := bEnd_c hB hx hE ht
  have hv := bfs_v hB hx k hE.1
  have ho := bfs_ok hB hx k hE.1
  have hg := bfs_gOk hB hx hE ht
  have p8 := pn8 hB.1
  have key : ∀ j, j < (bfs B x k).2.2.2.1 → ∀ r, r < 8 → ((bfs B x k).2.2.1 (8 * j + r) ≠ 0 ↔ (rdy B ((bfs B x k).1 j / 64)).testBit r = true) := fun j hj r hr => by
    have := hv.2.2.2 ht (8 * j + r) (by omega)
    rw [show (8 * j + r) / 8 = j by omega, show (8 * j + r) % 8 = r by omega] at this
    exact this
  have hS : ∀ j, j < (bfs B x k).2.2.2.1 → (bfs B x k).1 j / 64 < 2 ^ n := fun j hj => by have := ho.2.2.1 j hj; omega
  refine ⟨hg, ⟨hv.1, ho.2.2.2.2.2, fun e j he hj h0 h1 => hv.2.2.1 e j (by omega) hj h0 h1⟩, key, fun j hj r h1 h2 => ?_, fun j hj => ⟨fun h => ?_, fun h => ?_⟩⟩
  · exact Decidable.of_not_not fun z => rdy_ge (hS j hj) h1 ((key j hj r h2).mp z)
  · refine noE_of fun r hr => Decidable.of_not_not fun z => ?_
    have := (key j hj r hr).mp z
    rw [h, rdy_z, Nat.zero_testBit] at this
    exact absurd this (by decide)
  · refine Decidable.of_not_not fun z => ?_
    obtain ⟨r, hr, hb⟩ := rdy_ne hB (by have := hS j hj; omega) z
    exact (key j hj r hr).mpr hb (noE_t h hr)
/-- a rule was played somewhere: both sides' words -/
theorem evr_plb {B : Nat → Nat → Nat} {S N : Nat → Nat} {c i : Nat} (hk : ∀ j, j < c → (N (8 * j + i) ≠ 0 ↔ (rdy B (S j / 64)).testBit i = true)) : (if (evr B S c).testBit i = true then (1 : Int32) else 0) = nI (plb (pyd N i) c) := by
  by_cases z : (evr B S c).testBit i = true
  · rw [if_pos z]
    unfold evr at z
    obtain ⟨j, hj, hb⟩ := (orf_bit c).mp z
    have : fb_ct (pyd N i) c ≠ 0 := Nat.ne_of_gt (fb_ct_pos.mpr ⟨j, hj, decide_eq_true ((hk j hj).mpr hb)⟩)
    unfold plb
    rw [if_neg this]
    rfl
  · rw [if_neg z]
    have : fb_ct (pyd N i) c = 0 := fb_ct_zero.mpr fun j hj => decide_eq_false fun y => z ((orf_bit c).mpr ⟨j, hj, (hk j hj).mp y⟩)
    unfold plb
    rw [if_pos this]
    rfl
