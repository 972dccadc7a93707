/-! How the analyzer's cells hold the graph and Kahn's state. -/
def gRep (u : xS) (c : Nat) (N : Nat → Nat) : Prop := c ≤ 1000 ∧ u.1 21 7 = nI c ∧ ∀ e, e < 8 * c → u.1 24 e = nxI (N e)
def kRep (u : xS) (c : Nat) (K : kS) : Prop := (∀ i, i < c → u.1 29 i = nI (K.1 i) ∧ u.1 30 i = nI (K.2.1 i) ∧ u.2 31 i = K.2.2.1 i) ∧ (∀ m, m < K.2.2.2.2.1 → u.1 32 m = nI (K.2.2.2.1 m)) ∧ u.1 28 4 = nI K.2.2.2.2.1 ∧ u.1 28 6 = nI K.2.2.2.2.2.1 ∧ u.2 28 7 = K.2.2.2.2.2.2
def kFr (u w : xS) : Prop := ∀ q, q < 28 ∨ 33 ≤ q → w.1 q = u.1 q
theorem kFr_rf (u : xS) : kFr u u := fun _ _ => rfl
theorem kFr_tr {u w z : xS} (h : kFr u w) (h' : kFr w z) : kFr u z := fun q hq => (h' q hq).trans (h q hq)
theorem kFr_s {u w : xS} (h : kFr u w) {q j : Nat} {v : Int32} (h1 : 28 ≤ q) (h2 : q ≤ 32) : kFr u (xs w q j v) := fun q' hq' => by rw [xs_r (by omega)]; exact h q' hq'
theorem kFr_l {u w : xS} (h : kFr u w) {q j : Nat} {v : Int64} : kFr u (xl w q j v) := fun q' hq' => by rw [xl_1]; exact h q' hq'
theorem gRep_fr {u w : xS} {c : Nat} {N : Nat → Nat} (h : gRep u c N) (hf : kFr u w) : gRep w c N := ⟨h.1, by rw [hf 21 (by decide)]; exact h.2.1, fun e he => by rw [hf 24 (by decide)]; exact h.2.2 e he⟩
theorem nx_t {v : Nat} (hv : v < 2 ^ 31) (h : nxI v = -1) : v = 0 := by
  unfold nxI at h
  by_cases z : v = 0
  · exact z
  · rw [if_neg z] at h
    have h2 := nI_pos' (n := v - 1) (by omega)
    rw [h] at h2
    exact absurd h2 (by decide)
theorem nx_f {v : Nat} (h : ¬ nxI v = -1) : v ≠ 0 := fun z => h (by unfold nxI; rw [if_pos z])
theorem nx_v {v : Nat} (h : v ≠ 0) : nxI v = nI (v - 1) := if_neg h
theorem nx_ge {v : Nat} (hv : v < 2 ^ 31) (h : nxI v < 0) : v = 0 := by
  by_cases z : v = 0
  · exact z
  · rw [nx_v z] at h
    exact absurd h (nI_pos (by omega))
theorem nx_nl {v : Nat} (h : ¬ nxI v < 0) : v ≠ 0 := fun z => h (by unfold nxI; rw [if_pos z]; decide)
def ldU (u : xS) (i a b pu qn : Nat) (ru : Int64) : xS := if a = 0 then xs (xs (xs (xl (xs u 30 i (nI (Nat.max b pu))) 31 i (u.2 31 i + ru)) 29 i (nI a)) 32 qn (nI i)) 28 4 (nI (qn + 1)) else xs (xl (xs u 30 i (nI (Nat.max b pu))) 31 i (u.2 31 i + ru)) 29 i (nI a)
theorem ldU_fr {u : xS} {i a b pu qn : Nat} {ru : Int64} : kFr u (ldU u i a b pu qn ru) := by
  unfold ldU
  split
  · exact kFr_s (kFr_s (kFr_s (kFr_l (kFr_s (kFr_rf u) (by decide) (by decide))) (by decide) (by decide)) (by decide) (by decide)) (by decide) (by decide)
  · exact kFr_s (kFr_l (kFr_s (kFr_rf u) (by decide) (by decide))) (by decide) (by decide)
theorem kRep_lead {u : xS} {c : Nat} {K : kS} (h : kRep u c K) {i pu : Nat} {ru : Int64} (hi : i < c) (h0 : 0 < K.1 i) : kRep (ldU u i (K.1 i - 1) (K.2.1 i) pu K.2.2.2.2.1 ru) c (kLead K i pu ru) := by
  obtain ⟨inc, pl, rw9, q, qn, lr, er⟩ := K
  obtain ⟨h1, h2, h3, h4, h5⟩ := h
  dsimp only at h0 h1 h2 h3 h4 h5 ⊢
  have e31 : (xs (xl (xs u 30 i (nI (Nat.max (pl i) pu))) 31 i (u.2 31 i + ru)) 29 i (nI (inc i - 1))).2 31 = vp_updL (u.2 31) i (u.2 31 i + ru) := by rw [xs_2, xl_rs, xs_2]
  have key : ∀ j, j < c → (xs (xl (xs u 30 i (nI (Nat.max (pl i) pu))) 31 i (u.2 31 i + ru)) 29 i (nI (inc i - 1))).1 29 j = nI (va_up inc i (inc i - 1) j) ∧ (xs (xl (xs u 30 i (nI (Nat.max (pl i) pu))) 31 i (u.2 31 i + ru)) 29 i (nI (inc i - 1))).1 30 j = nI (va_up pl i (Nat.max (pl i) pu) j) ∧ (xs (xl (xs u 30 i (nI (Nat.max (pl i) pu))) 31 i (u.2 31 i + ru)) 29 i (nI (inc i - 1))).2 31 j = va_up rw9 i (rw9 i + ru) j := by
    intro j hj
    obtain ⟨a1, a2, a3⟩ := h1 j hj
    by_cases z : j = i
    · refine ⟨by rw [z, xs_s, vu_s], by rw [z, xs_c (by decide), xl_1, xs_s, vu_s], ?_⟩
      rw [z, e31, vu_s, (h1 i hi).2.2]; simp [vp_updL]
    · refine ⟨by rw [xs_j z, vu_n z, xl_1, xs_c (by decide)]; exact a1, by rw [xs_c (by decide), xl_1, xs_j z, vu_n z]; exact a2, ?_⟩
      rw [e31, vu_n z]; simp [vp_updL, z]; exact a3
  unfold ldU kLead
  dsimp only
  by_cases h9 : inc i = 1
  · rw [if_pos (by omega), if_pos h9, if_pos h9]
    refine ⟨fun j hj => ?_, fun m hm => ?_, ?_, ?_, ?_⟩
    · obtain ⟨k1, k2, k3⟩ := key j hj
      refine ⟨?_, ?_, ?_⟩
      · rw [xs_c (by decide), xs_c (by decide)]; exact k1
      · rw [xs_c (by decide), xs_c (by decide)]; exact k2
      · rw [xs_2, xs_2]; exact k3
    · dsimp only at hm ⊢
      rw [xs_c (by decide)]
      by_cases z : m = qn
      · rw [z, xs_s, vu_s]
      · rw [xs_j z, vu_n z, xs_c (by decide), xl_1, xs_c (by decide)]; exact h2 m (by omega)
    · rw [xs_s]
    · rw [xs_j (by decide), xs_c (by decide), xs_c (by decide), xl_1, xs_c (by decide)]; exact h4
    · rw [xs_2, xs_2, xs_2, xl_c (by decide), xs_2]; exact h5
  · rw [if_neg (by omega), if_neg h9, if_neg h9]
    refine ⟨key, fun m hm => ?_, ?_, ?_, ?_⟩
    · rw [xs_c (by decide), xl_1, xs_c (by decide)]; exact h2 m hm
    · rw [xs_c (by decide), xl_1, xs_c (by decide)]; exact h3
    · rw [xs_c (by decide), xl_1, xs_c (by decide)]; exact h4
    · rw [xs_2, xl_c (by decide), xs_2]; exact h5
def nEr (N : Nat → Nat) (x r : Nat) : Nat := fb_ct (fun r => decide (N (8 * x + r) ≠ 0)) r
theorem nEr_0 {N : Nat → Nat} {x r : Nat} (h : N (8 * x + r) = 0) : nEr N x (r + 1) = nEr N x r := by
  unfold nEr
  rw [fb_ct_succ, decide_eq_false (fun z => z h)]; rfl
theorem nEr_1 {N : Nat → Nat} {x r : Nat} (h : N (8 * x + r) ≠ 0) : ¬ nEr N x (r + 1) = 0 := by
  unfold nEr
  rw [fb_ct_succ, if_pos (decide_eq_true h)]; omega
theorem kRep_end {w : xS} {c : Nat} {N : Nat → Nat} {K : kS} {x : Nat} (h : kRep w c K) (hx : x < c) (hn : noE N x = true) : kRep (xl (xs w 28 6 (nI (Nat.max K.2.2.2.2.2.1 (K.2.1 x)))) 28 7 (w.2 28 7 + w.2 31 x)) c (kStep N K x) := by
  unfold kStep
  rw [if_pos hn]
  obtain ⟨h1, h2, h3, h4, h5⟩ := h
  refine ⟨fun i hi => ?_, fun m hm => ?_, ?_, ?_, ?_⟩
  · obtain ⟨a, b, d⟩ := h1 i hi
    refine ⟨?_, ?_, ?_⟩
    · rw [xl_1, xs_c (by decide)]; exact a
    · rw [xl_1, xs_c (by decide)]; exact b
    · rw [xl_c (by decide), xs_2]; exact d
  · rw [xl_1, xs_c (by decide)]; exact h2 m hm
  · rw [xl_1, xs_j (by decide)]; exact h3
  · rw [xl_1, xs_s]
  · rw [xl_s, h5, (h1 x hx).2.2]
def ciZ (w : xS) (k : Nat) : Prop := ∀ i, i < k → w.1 30 i = 0 ∧ w.2 31 i = 0
def ciC (w : xS) (c : Nat) (N : Nat → Nat) (m : Nat) : Prop := ∀ i, i < c → w.1 29 i = nI (fb_ct (fun e => decide (N e = i + 1)) m)
def ci0 (w : xS) (k : Nat) : Prop := ∀ i, i < k → w.1 29 i = 0
theorem ci0_step {w : xS} {k : Nat} (h : ci0 w k) : ci0 (xl (xs (xs w 29 k (nI 0)) 30 k (nI 0)) 31 k 0) (k + 1) := by
  intro i hi
  rw [xl_1, xs_c (by decide)]
  by_cases z : i = k
  · rw [z, xs_s]; rfl
  · rw [xs_j z]; exact h i (by omega)
theorem ciZ_step {w : xS} {k : Nat} (h : ciZ w k) : ciZ (xl (xs (xs w 29 k (nI 0)) 30 k (nI 0)) 31 k 0) (k + 1) := by
  intro i hi
  by_cases z : i = k
  · rw [z]; exact ⟨by rw [xl_1, xs_s]; rfl, by rw [xl_s]⟩
  · exact ⟨by rw [xl_1, xs_j z, xs_c (by decide)]; exact (h i (by omega)).1, by rw [xl_j z, xs_2, xs_2]; exact (h i (by omega)).2⟩
theorem ciC_no {w : xS} {c : Nat} {N : Nat → Nat} {m : Nat} (h : ciC w c N m) (h0 : N m = 0) : ciC w c N (m + 1) := by
  intro i hi
  rw [fb_ct_succ, decide_eq_false (by omega)]
  exact h i hi
theorem ciC_yes {w : xS} {c : Nat} {N : Nat → Nat} {m : Nat} (h : ciC w c N m) (h0 : N m ≠ 0) : ciC (xs w 29 (N m - 1) (nI (fb_ct (fun e => decide (N e = N m - 1 + 1)) m + 1))) c N (m + 1) := by
  intro i hi
  by_cases z : i = N m - 1
  · rw [z, xs_s, fb_ct_succ, if_pos (decide_eq_true (by omega))]
  · rw [xs_j z, fb_ct_succ, decide_eq_false (by omega)]
    exact h i hi
theorem ciZ_29 {w : xS} {c k : Nat} {v : Int32} (h : ciZ w c) : ciZ (xs w 29 k v) c := fun i hi => ⟨by rw [xs_c (by decide)]; exact (h i hi).1, by rw [xs_2]; exact (h i hi).2⟩
def stU (u : xS) : xS := xl (xl (xs (xs u 28 4 (nI 0)) 28 6 (nI 0)) 28 7 0) 31 0 1
theorem stU_r {u : xS} {q : Nat} (h : q ≠ 28) : (stU u).1 q = u.1 q := by unfold stU; rw [xl_1, xl_1, xs_r h, xs_r h]
theorem stU_rep {u : xS} {c : Nat} {N : Nat → Nat} (h1 : ∀ i, i < c → u.1 29 i = nI (k0i c N i)) (h2 : ciZ u c) (i : Nat) (hi : i < c) : (stU u).1 29 i = nI (k0i c N i) ∧ (stU u).1 30 i = nI 0 ∧ (stU u).2 31 i = va_up (fun _ => (0 : Int64)) 0 1 i := by
  rw [stU_r (by decide), stU_r (by decide)]
  refine ⟨h1 i hi, (h2 i hi).1, ?_⟩
  unfold stU
  by_cases z : i = 0
  · rw [z, xl_s, vu_s]
  · rw [xl_j z, xl_c (by decide), xs_2, xs_2, vu_n z]; exact (h2 i hi).2
theorem K0_rep1 {u : xS} {c : Nat} {N : Nat → Nat} (h1 : ∀ i, i < c → u.1 29 i = nI (k0i c N i)) (h2 : ciZ u c) (h0 : k0i c N 0 ≠ 0) : kRep (stU u) c (K0 c N) := by
  unfold K0
  rw [if_neg h0]
  refine ⟨stU_rep h1 h2, fun m hm => absurd hm (Nat.not_lt_zero m), ?_, ?_, ?_⟩
  · unfold stU; rw [xl_1, xl_1, xs_j (by decide), xs_s]
  · unfold stU; rw [xl_1, xl_1, xs_s]
  · unfold stU; rw [xl_c (by decide), xl_s]
theorem K0_rep2 {u : xS} {c : Nat} {N : Nat → Nat} (h1 : ∀ i, i < c → u.1 29 i = nI (k0i c N i)) (h2 : ciZ u c) (h0 : k0i c N 0 = 0) : kRep (xs (xs (stU u) 32 0 (nI 0)) 28 4 (nI 1)) c (K0 c N) := by
  unfold K0
  rw [if_pos h0]
  refine ⟨fun i hi => ?_, fun m hm => ?_, ?_, ?_, ?_⟩
  · rw [xs_c (by decide), xs_c (by decide), xs_c (by decide), xs_c (by decide), xs_2, xs_2]
    exact stU_rep h1 h2 i hi
  · have hm1 : m < 1 := hm
    rw [show m = 0 by omega, xs_c (by decide), xs_s]
  · rw [xs_s]
  · rw [xs_j (by decide), xs_c (by decide)]; unfold stU; rw [xl_1, xl_1, xs_s]
  · rw [xs_2, xs_2]; unfold stU; rw [xl_c (by decide), xl_s]
theorem stU_fr {u : xS} : kFr u (stU u) := kFr_l (kFr_l (kFr_s (kFr_s (kFr_rf u) (by decide) (by decide)) (by decide) (by decide)))
