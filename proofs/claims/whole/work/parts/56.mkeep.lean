/-! What stands of the model between two calls; its writes. -/
def mDn (u : xS) (B : Nat → Nat → Nat) (x k : Nat) : Prop := bEnd B x k ∧ (((bfs B x k).2.2.2.2 = true ∧ u.1 0 12 = 1) ∨ ((bfs B x k).2.2.2.2 = false ∧ u.1 0 12 = 0 ∧ u.1 0 13 = nI (bfs B x k).2.2.2.1 ∧ (∀ j, j < (bfs B x k).2.2.2.1 → u.1 8 j = nI (mf ((bfs B x k).1 j))) ∧ ∀ e, e < 8 * (bfs B x k).2.2.2.1 → u.1 9 e = nxI ((bfs B x k).2.2.1 e)))
def mI (u : xS) (n : Nat) (B : Nat → Nat → Nat) (x : Nat) : Prop := mR u n B ∧ u.1 0 9 = nI (x % 64) ∧ u.1 0 10 = nI (x / 64) ∧ (u.1 0 11 = 0 ∨ (u.1 0 11 = 1 ∧ ∃ k, mDn u B x k))
theorem mDn_fr {u w : xS} {B : Nat → Nat → Nat} {x k : Nat} (h : mDn u B x k) (h12 : w.1 0 12 = u.1 0 12) (h13 : w.1 0 13 = u.1 0 13) (h8 : w.1 8 = u.1 8) (h9 : w.1 9 = u.1 9) : mDn w B x k := by
  unfold mDn at h ⊢
  rw [h12, h13, h8, h9]
  exact h
theorem mI_fr {u w : xS} {n : Nat} {B : Nat → Nat → Nat} {x : Nat} (h : mI u n B x) (h0 : ∀ j, j ≠ 0 → w.1 0 j = u.1 0 j) (hq : ∀ q, 1 ≤ q → q ≤ 9 → w.1 q = u.1 q) : mI w n B x := by
  obtain ⟨h1, h2, h3, h4⟩ := h
  refine ⟨mR_fr h1 (h0 1 (by decide)) (fun q a b => hq q a (by omega)), (h0 9 (by decide)).trans h2, (h0 10 (by decide)).trans h3, ?_⟩
  rw [h0 11 (by decide)]
  rcases h4 with h4 | ⟨h4, k, h5⟩
  · exact Or.inl h4
  · exact Or.inr ⟨h4, k, mDn_fr h5 (h0 12 (by decide)) (h0 13 (by decide)) (hq 8 (by decide) (by decide)) (hq 9 (by decide) (by decide))⟩
theorem mI_th {u : xS} {n : Nat} {B : Nat → Nat → Nat} {x : Nat} (h : mI u n B x) (v : Int32) : mI (xs u 0 0 v) n B x := mI_fr h (fun j hj => xs_j hj) (fun q a _ => xs_r (by omega))
theorem mI_of {w : xS} {m : Nat} {B : Nat → Nat → Nat} {y : Nat} (hR : mR w m B) (h9 : w.1 0 9 = nI (y % 64)) (h10 : w.1 0 10 = nI (y / 64)) (h11 : w.1 0 11 = 0) : mI w m B y := ⟨hR, h9, h10, Or.inl h11⟩
/-- with the flag told -/
def mQ (u : xS) (n : Nat) (B : Nat → Nat → Nat) (x : Nat) (f : Int32) : Prop := mI u n B x ∧ u.1 0 11 = f
theorem mQ_fr {u w : xS} {n : Nat} {B : Nat → Nat → Nat} {x : Nat} {f : Int32} (h : mQ u n B x f) (h0 : ∀ j, j ≠ 0 → w.1 0 j = u.1 0 j) (hq : ∀ q, 1 ≤ q → q ≤ 9 → w.1 q = u.1 q) : mQ w n B x f := ⟨mI_fr h.1 h0 hq, (h0 11 (by decide)).trans h.2⟩
theorem mQ_1 {u : xS} {n : Nat} {B : Nat → Nat → Nat} {x : Nat} (h : mI u n B x) (v : Int32) : mQ (xs u 0 0 v) n B x (u.1 0 11) := ⟨mI_th h v, xs_j (by decide)⟩
theorem mQ_2 {u : xS} {n : Nat} {B : Nat → Nat → Nat} {x : Nat} (h : mI u n B x) (v v2 : Int32) : mQ (xs (xs u 0 0 v) 0 0 v2) n B x (u.1 0 11) := ⟨mI_th (mI_th h v) v2, (xs_j (by decide)).trans (xs_j (by decide))⟩
theorem mQ_of {w : xS} {m : Nat} {B : Nat → Nat → Nat} {y : Nat} (hR : mR w m B) (h9 : w.1 0 9 = nI (y % 64)) (h10 : w.1 0 10 = nI (y / 64)) (h11 : w.1 0 11 = 0) : mQ w m B y 0 := ⟨mI_of hR h9 h10 h11, h11⟩
theorem mR_ap {u : xS} {n : Nat} {B : Nat → Nat → Nat} (h : mR u n B) (hB : gB n B) (hn : n < 8) (e a1 a2 : Nat) : mR (xs (xs (xs (xs (xs (xs (xs u 1 n (nI e)) 2 n (nI a1)) 3 n (nI a2)) 4 n (nI 0)) 6 n (nI 1)) 7 n (nI 0)) 0 1 (nI (n + 1))) (n + 1) (apB B n e a1 a2) := by
  obtain ⟨q0, q1, q2, q3⟩ := apB_0 B n e a1 a2
  obtain ⟨m3, m4, m5, m6⟩ := hB.2.2.1 n (Nat.le_refl n) hn
  refine ⟨hn, xs_s _ _ _ _, fun i hi => ?_⟩
  simp only [xs_at]
  by_cases z : i = n
  · subst z
    rw [q0, q1, q2, q3, apB_4, apB_5, m4, m5]
    simp
  · obtain ⟨g0, g1, g2, g3, g4, g5, g6⟩ := h.2.2 i (by omega)
    rw [apB_n z, apB_n z, apB_n z, apB_n z, apB_4, apB_5]
    simp only [z, and_false, and_true, if_false, false_and]
    simp only [show ¬ (1 : Nat) = 0 by decide, show ¬ (1 : Nat) = 2 by decide, show ¬ (1 : Nat) = 3 by decide, show ¬ (2 : Nat) = 0 by decide, show ¬ (3 : Nat) = 0 by decide, show ¬ (4 : Nat) = 0 by decide, show ¬ (5 : Nat) = 0 by decide, show ¬ (6 : Nat) = 0 by decide, show ¬ (7 : Nat) = 0 by decide, show ¬ (5 : Nat) = 1 by decide, show ¬ (5 : Nat) = 2 by decide, show ¬ (5 : Nat) = 3 by decide, show ¬ (5 : Nat) = 4 by decide, show ¬ (5 : Nat) = 6 by decide, show ¬ (5 : Nat) = 7 by decide, false_and, if_false]
    exact ⟨g0, g1, g2, g3, g4, g5, fun k hk => by rw [apB_k]; exact g6 k hk⟩
theorem mR_sw {u : xS} {n : Nat} {B : Nat → Nat → Nat} (h : mR u n B) (i v : Nat) : mR (xs u 6 i (nI v)) n (swB B i v) := by
  refine ⟨h.1, (xs_c (by decide) _).trans h.2.1, fun j hj => ?_⟩
  obtain ⟨g0, g1, g2, g3, g4, g5, g6⟩ := h.2.2 j hj
  obtain ⟨s0, s1, s2⟩ := swB_0 B i v j
  rw [s0, s1, s2, swB_4, swB_5]
  refine ⟨(xs_c (by decide) _).trans g0, (xs_c (by decide) _).trans g1, (xs_c (by decide) _).trans g2, ?_, (xs_c (by decide) _).trans g4, (xs_c (by decide) _).trans g5, fun k hk => ?_⟩
  · by_cases z : j = i
    · subst z
      rw [xs_s, swB_s]
    · rw [xs_j z, swB_i z]; exact g3
  · rw [xs_c (by decide), swB_k]; exact g6 k hk
theorem mR_aa {u : xS} {n : Nat} {B : Nat → Nat → Nat} (h : mR u n B) (hB : gB n B) {i : Nat} (hi : i < n) (h4 : B i 4 < 4) (a : Nat) : mR (xs (xs u 5 (4 * i + B i 4) (nI a)) 4 i (nI (B i 4 + 1))) n (aaB B i a) := by
  refine ⟨h.1, by rw [xs_c (by decide), xs_c (by decide)]; exact h.2.1, fun j hj => ?_⟩
  obtain ⟨g0, g1, g2, g3, g4, g5, g6⟩ := h.2.2 j hj
  have hj4 : B j 4 ≤ 4 := gB_4 hB (Nat.lt_of_lt_of_le hj h.1)
  rw [aaB_j (by decide) (by decide), aaB_j (by decide) (by decide), aaB_j (by decide) (by decide), aaB_j (by decide) (by decide), aaB_5]
  simp only [xs_at, show ¬ (1 : Nat) = 4 by decide, show ¬ (1 : Nat) = 5 by decide, show ¬ (2 : Nat) = 4 by decide, show ¬ (2 : Nat) = 5 by decide, show ¬ (3 : Nat) = 4 by decide, show ¬ (3 : Nat) = 5 by decide, show ¬ (6 : Nat) = 4 by decide, show ¬ (6 : Nat) = 5 by decide, show ¬ (7 : Nat) = 4 by decide, show ¬ (7 : Nat) = 5 by decide, show ¬ (5 : Nat) = 4 by decide, show ¬ (4 : Nat) = 5 by decide, false_and, if_false, true_and]
  refine ⟨g0, g1, g2, g3, ?_, g5, fun k hk => ?_⟩
  · by_cases z : j = i
    · subst z
      rw [if_pos rfl, aaB_4]
    · rw [if_neg z, aaB_i z]; exact g4
  · by_cases z : j = i
    · subst z
      rw [aaB_4] at hk
      by_cases y : k = B j 4
      · subst y
        rw [if_pos rfl, aaB_a]
      · rw [if_neg (by omega), aaB_k y]; exact g6 k (by omega)
    · rw [aaB_i z] at hk
      rw [if_neg (by omega), aaB_i z]; exact g6 k hk
theorem mR_rk {u w : xS} {n : Nat} {B : Nat → Nat → Nat} (h : mR u n B) (up lo : Nat) (h1 : w.1 0 1 = u.1 0 1) (hq : ∀ q, 1 ≤ q → q ≤ 6 → w.1 q = u.1 q) (h7 : ∀ j, j < n → w.1 7 j = nI (rkB B up lo j 5)) : mR w n (rkB B up lo) := by
  refine ⟨h.1, h1.trans h.2.1, fun j hj => ?_⟩
  obtain ⟨g0, g1, g2, g3, g4, g5, g6⟩ := h.2.2 j hj
  rw [rkB_j (by decide), rkB_j (by decide), rkB_j (by decide), rkB_j (by decide), rkB_j (by decide), hq 1 (by decide) (by decide), hq 2 (by decide) (by decide), hq 3 (by decide) (by decide), hq 4 (by decide) (by decide), hq 5 (by decide) (by decide), hq 6 (by decide) (by decide)]
  exact ⟨g0, g1, g2, g3, g4, h7 j hj, fun k hk => by rw [rkB_j (by omega)]; exact g6 k hk⟩
