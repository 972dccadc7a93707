theorem fnd_is {S : Nat → Nat} {c y k : Nat} (hk : k < c) (h : S k = y) (hm : ∀ j, j < k → S j ≠ y) : fnd S c y = k := first_eq hk (decide_eq_true h) (fun j hj => decide_eq_false (hm j hj))
theorem fnd_none {S : Nat → Nat} {c y : Nat} (hm : ∀ j, j < c → S j ≠ y) : ¬ fnd S c y < c := fun h => hm _ h (fnd_yes h)
/-- the model's cells tell E -/
def mEr (u : xS) (E : eS) (m : Nat) : Prop := u.1 0 13 = nI E.2.2.2.1 ∧ (∀ j, j < E.2.2.2.1 → u.1 8 j = nI (mf (E.1 j))) ∧ (∀ i, i < m → u.1 9 i = nxI (E.2.2.1 i)) ∧ E.2.2.2.2 = false
theorem mst_no {w : xS} {B : Nat → Nat → Nat} {E : eS} {k r : Nat} (h : mEr w E (8 * k + r)) (hb : ¬ (rdy B (E.1 k / 64)).testBit r = true) : mEr (xs w 9 (8 * k + r) (-1)) (bst B k r E) (8 * k + r + 1) := by
  obtain ⟨h1, h2, h3, h4⟩ := h
  unfold bst
  rw [if_neg hb]
  refine ⟨(xs_c (by decide) _).trans h1, fun j hj => (xs_c (by decide) _).trans (h2 j hj), fun i hi => ?_, h4⟩
  dsimp only
  by_cases e : i = 8 * k + r
  · subst e; rw [xs_s, vu_s]; rfl
  · rw [xs_j e, vu_n e]; exact h3 i (by omega)
theorem mst_f {w : xS} {B : Nat → Nat → Nat} {E : eS} {k r : Nat} (h : mEr w E (8 * k + r)) (hb : (rdy B (E.1 k / 64)).testBit r = true) (hf : fnd E.1 E.2.2.2.1 (ply B r (E.1 k)) < E.2.2.2.1) : mEr (xs (xs w 9 (8 * k + r) (-1)) 9 (8 * k + r) (nI (fnd E.1 E.2.2.2.1 (ply B r (E.1 k))))) (bst B k r E) (8 * k + r + 1) := by
  obtain ⟨h1, h2, h3, h4⟩ := h
  unfold bst
  rw [if_pos hb, if_pos hf]
  refine ⟨(xs_c (by decide) _).trans ((xs_c (by decide) _).trans h1), fun j hj => (xs_c (by decide) _).trans ((xs_c (by decide) _).trans (h2 j hj)), fun i hi => ?_, h4⟩
  dsimp only
  by_cases e : i = 8 * k + r
  · subst e; rw [xs_s, vu_s]; rfl
  · rw [xs_j e, xs_j e, vu_n e]; exact h3 i (by omega)
theorem mst_w {w : xS} {B : Nat → Nat → Nat} {E : eS} {k r : Nat} (h : mEr w E (8 * k + r)) (hb : (rdy B (E.1 k / 64)).testBit r = true) (hf : ¬ fnd E.1 E.2.2.2.1 (ply B r (E.1 k)) < E.2.2.2.1) (hc : ¬ E.2.2.2.1 = 1000) : mEr (xs (xs (xs (xs w 9 (8 * k + r) (-1)) 8 E.2.2.2.1 (nI (mf (ply B r (E.1 k))))) 0 13 (nI (E.2.2.2.1 + 1))) 9 (8 * k + r) (nI E.2.2.2.1)) (bst B k r E) (8 * k + r + 1) := by
  obtain ⟨h1, h2, h3, h4⟩ := h
  unfold bst
  rw [if_pos hb, if_neg hf, if_neg hc]
  refine ⟨(xs_c (by decide) _).trans (xs_s _ _ _ _), fun j hj => ?_, fun i hi => ?_, h4⟩
  · dsimp only at hj ⊢
    rw [xs_c (by decide), xs_c (by decide)]
    by_cases e : j = E.2.2.2.1
    · rw [e, xs_s, vu_s]
    · rw [xs_j e, xs_c (by decide), vu_n e]; exact h2 j (by omega)
  · dsimp only
    by_cases e : i = 8 * k + r
    · subst e; rw [xs_s, vu_s]; rfl
    · rw [xs_j e, xs_c (by decide), xs_c (by decide), xs_j e, vu_n e]; exact h3 i (by omega)
theorem bst_too {B : Nat → Nat → Nat} {k r : Nat} {E : eS} (h : E.2.2.2.2 = true) : (bst B k r E).2.2.2.2 = true := by
  unfold bst
  split
  · split
    · exact h
    · split
      · rfl
      · exact h
  · exact h
theorem bst_full {B : Nat → Nat → Nat} {E : eS} {k r : Nat} (hb : (rdy B (E.1 k / 64)).testBit r = true) (hf : ¬ fnd E.1 E.2.2.2.1 (ply B r (E.1 k)) < E.2.2.2.1) (hc : E.2.2.2.1 = 1000) : (bst B k r E).2.2.2.2 = true := by
  unfold bst
  rw [if_pos hb, if_neg hf, if_pos hc]
theorem bex_too {B : Nat → Nat → Nat} {k : Nat} {E : eS} {r : Nat} (h : (bex B k E r).2.2.2.2 = true) : ∀ d, (bex B k E (r + d)).2.2.2.2 = true
  | 0 => h
  | d + 1 => bst_too (bex_too h d)
def mX9 (u w : xS) : Prop := w.1 0 0 = u.1 0 0 ∧ w.1 0 9 = u.1 0 9 ∧ w.1 0 10 = u.1 0 10 ∧ w.1 0 11 = nI 1 ∧ w.1 0 12 = nI 0
theorem mX9_s {u w : xS} (h : mX9 u w) {q j : Nat} {v : Int32} (hq : 8 ≤ q ∨ (q = 0 ∧ j = 13)) : mX9 u (xs w q j v) := by
  obtain ⟨h1, h2, h3, h4, h5⟩ := h
  have e : ∀ i, i < 13 → (xs w q j v).1 0 i = w.1 0 i := fun i hi => by rw [xs_at, if_neg (by omega)]
  exact ⟨(e 0 (by decide)).trans h1, (e 9 (by decide)).trans h2, (e 10 (by decide)).trans h3, (e 11 (by decide)).trans h4, (e 12 (by decide)).trans h5⟩
/-- what exploreAll leaves -/
def mEnd (u w : xS) (n : Nat) (B : Nat → Nat → Nat) (x : Nat) : Prop := mR w n B ∧ w.1 0 0 = u.1 0 0 ∧ w.1 0 9 = u.1 0 9 ∧ w.1 0 10 = u.1 0 10 ∧ w.1 0 11 = 1 ∧ ∃ k, mDn w B x k
theorem mEnd_ok {u w : xS} {n : Nat} {B : Nat → Nat → Nat} {x k : Nat} (hR : mR w n B) (h9 : mX9 u w) (hr : bRun B x k) (he : mEr w (bfs B x k) (8 * k)) (hc : (bfs B x k).2.2.2.1 ≤ k) (hB : gB n B) (hx : x < 64 * 2 ^ n) : mEnd u w n B x := by
  obtain ⟨h1, h2, h3, h4, h5⟩ := h9
  have hE : bEnd B x k := ⟨hr, Or.inl hc⟩
  have hck := bEnd_c hB hx hE he.2.2.2
  exact ⟨hR, h1, h2, h3, h4, k, hE, Or.inr ⟨he.2.2.2, h5, he.1, he.2.1, fun e h => he.2.2.1 e (by omega)⟩⟩
theorem mEnd_too {u w : xS} {n : Nat} {B : Nat → Nat → Nat} {x k r : Nat} (hR : mR w n B) (h9 : mX9 u w) (hr : bRun B x k) (hk : k < (bfs B x k).2.2.2.1) (h0 : (bfs B x k).2.2.2.2 = false) (hr8 : r < 8) (ht : (bst B k r (bex B k (bfs B x k) r)).2.2.2.2 = true) : mEnd u (xs w 0 12 (nI 1)) n B x := by
  obtain ⟨h1, h2, h3, h4, h5⟩ := h9
  have e : (bfs B x (k + 1)).2.2.2.2 = true := by
    have := bex_too (B := B) (k := k) (E := bfs B x k) (r := r + 1) ht (8 - (r + 1))
    rw [show r + 1 + (8 - (r + 1)) = 8 by omega] at this
    exact this
  refine ⟨mR_s hR (Or.inl ⟨rfl, by decide⟩), (xs_j (by decide)).trans h1, (xs_j (by decide)).trans h2, (xs_j (by decide)).trans h3, (xs_j (by decide)).trans h4, k + 1, ⟨fun j hj => ?_, Or.inr e⟩, Or.inl ⟨e, xs_s _ _ _ _⟩⟩
  rcases Nat.lt_or_ge j k with q | q
  · exact hr j q
  · rw [show j = k by omega]; exact ⟨hk, h0⟩
theorem ebx {n : Nat} {B : Nat → Nat → Nat} (hB : gB n B) {x : Nat} (hx : x < 64 * 2 ^ n) {k r : Nat} (hr : bRun B x k) (hk : k < (bfs B x k).2.2.2.1) (hr8 : r ≤ 8) : eOk n (bex B k (bfs B x k) r) (8 * k + r) ∧ k < (bex B k (bfs B x k) r).2.2.2.1 := by
  obtain ⟨a, b⟩ := bex_ok hB (bfs_ok hB hx k hr) hk r hr8
  exact ⟨a, Nat.lt_of_lt_of_le hk b.1⟩
theorem rdy_lt_n {n : Nat} {B : Nat → Nat → Nat} {t r : Nat} (ht : t < 2 ^ n) (h : (rdy B t).testBit r = true) : r < n := by
  rcases Nat.lt_or_ge r n with q | q
  · exact q
  · exact absurd h (rdy_ge ht q)

set_option maxHeartbeats 4000000 in
set_option maxRecDepth 100000 in
theorem c_X7_numberOf (l : Launch) (D : va_G) (ad : Nat → Nat) (cI cL cB : ClassId) (hI : gI 12 ad) (u : xS) (S : Nat → Nat) (c : Nat) (hc : c ≤ 1000) (hn : u.1 0 13 = nI c) (hS : ∀ j, j < c → u.1 8 j = nI (mf (S j)) ∧ S j < 16384) (y : Nat) (hy : y < 16384) : ∀ sz, Met l yX7_numberOf wsX7_numberOf ({ frames := 0, cells := 0, slots := 0, locals := 0 }) (MP D ad cI cL cB u [.ref (ad 0), .int (nI (mf y))] sz) (va_Qi (fun r_ u' => r_ = (if fnd S c y < c then nI (fnd S c y) else -1) ∧ u' = u) (MB D ad cI cL cB) (gA 12 ad sz)) 0 0 (gA 12 ad sz) := by
  intro sz
  refine z_met (cc := cX7_numberOf) (maxL := 3) (ret := (some .int)) (by decide) rfl (Nat.le_of_ble_eq_true rfl) ?_
  intro pq lq sq mq aq Qq bq hmq cq C hr hml hown hts hlocks hK hX hsz hQ
  subst hsz
  have hT7 : ∀ w ∈ wsX70, w.before aq sq = true := fun w h => hts w ((by decide +kernel : ∀ w ∈ wsX70, w ∈ wsX7_numberOf) w h)
  refine z_sub (L' := [(0, .ref (ad 0)), (1, .int (nI (mf y)))]) [0, 1] rfl ?_
  have hy9 : mf y < 16384 := mf_lt hy
  refine z_iconst (v := nI 0) C (by decide) dX7_numberOf_0 ?_
  refine z_istore_n (L' := [(2, .int (nI 0)), (0, .ref (ad 0)), (1, .int (nI (mf y)))]) C dX7_numberOf_1 (by decide) rfl ?_
  have loop2 : ∀ (d2 : Nat) (k : Nat), c - k < d2 → (k ≤ c) → (∀ j, j < k → S j ≠ y) → ZZ pq l lq { frames := 0, cells := 0, slots := 0, locals := 0 } sq mq aq bq hmq cq D vwCl 12 ad 3 0 0 Qq (mF ad cI cL cB u) [(0, .ref (ad 0)), (1, .int (nI (mf y))), (2, .int (nI k))] 2 [] := by
    intro d2
    induction d2 with
    | zero => intro k hz; exact absurd hz (Nat.not_lt_zero _)
    | succ d2 ih2 =>
      intro k hz2 hk hno
      refine z_iload_n C dX7_numberOf_2 2 rfl ?_
      refine z_aload_n C dX7_numberOf_3 0 rfl ?_
      refine z_get (q := 0) C (T := TX7) (N := 18) (ci := 7) (own := RX7) (index := 113) (v := .int (u.1 0 13)) hT7 hown hK (by decide) rfl rfl 13 (by decide) (hts (.fieldLink RX7 113 "TriggerAnalyzerModel" "situations" "I") (by decide +kernel)) (fun _ h9 => h9) rfl dX7_numberOf_4 ?_
      refine z_topi (y := nI c) (hn) ?_
      refine z_icmp_ge (tgt := 28) C dX7_numberOf_7 (by decide) (fun zc7 => ?_) (fun zc7 => ?_)
      · skip
        have zn7 := zge_t (a := k) (b := c) (by omega) (by omega) zc7
        refine z_iconst (v := (-1)) C (by decide) dX7_numberOf_28 ?_
        exact z_iret C hr hlocks hQ u (⟨(if_neg (fnd_none fun j hj => hno j (by omega))).symm, rfl⟩) (fun _ _ => rfl) dX7_numberOf_29
      · skip
        have zn7 := zge_f (a := k) (b := c) (by omega) (by omega) zc7
        have hm9 : mf (S k) < 16384 := mf_lt (hS k zn7).2
        refine z_aload_n C dX7_numberOf_10 0 rfl ?_
        refine z_get (q := 0) C (T := TX7) (N := 18) (ci := 7) (own := RX7) (index := 32) (v := .ref (ad 8)) hT7 hown hK (by decide) rfl rfl 14 (by decide) (hts (.fieldLink RX7 32 "TriggerAnalyzerModel" "all" "[I") (by decide +kernel)) (fun _ h9 => h9) rfl dX7_numberOf_11 ?_
        refine z_iload_n C dX7_numberOf_14 2 rfl ?_
        refine z_iald (q := 8) (len := 1000) (k := k) C hK (by decide) rfl 0 rfl (rfl) (by omega) (by decide) dX7_numberOf_15 ?_
        refine z_topi (y := nI (mf (S k))) ((hS k zn7).1) ?_
        refine z_iload_n C dX7_numberOf_16 1 rfl ?_
        refine z_icmp_ne (tgt := 22) C dX7_numberOf_17 (by decide) (fun zc17 => ?_) (fun zc17 => ?_)
        · skip
          have zn17 := zeq_f (a := mf (S k)) (b := mf y) zc17
          refine z_iinc (L' := [(2, .int (nI (k + 1))), (0, .ref (ad 0)), (1, .int (nI (mf y)))]) C dX7_numberOf_22 2 rfl (nI_1 k) (by decide) rfl ?_
          refine z_goto (tgt := 2) C dX7_numberOf_25 (by decide) ?_
          refine z_sub (L' := [(0, .ref (ad 0)), (1, .int (nI (mf y))), (2, .int (nI (k + 1)))]) [1, 2, 0] rfl ?_
          exact ih2 (k + 1) (by omega) (by omega) (fun j hj z => by rcases Nat.lt_or_ge j k with q | q; exact hno j q z; rw [show j = k by omega] at z; exact zn17 (by rw [z]))
        · skip
          have zn17 := zeq_t (a := mf (S k)) (b := mf y) (by omega) (by omega) zc17
          refine z_iload_n C dX7_numberOf_20 2 rfl ?_
          exact z_iret C hr hlocks hQ u (⟨by have e := fnd_is zn7 (mf_inj (hS k zn7).2 hy zn17) hno; rw [e, if_pos zn7], rfl⟩) (fun _ _ => rfl) dX7_numberOf_21
  refine z_sub (L' := [(0, .ref (ad 0)), (1, .int (nI (mf y))), (2, .int (nI 0))]) [1, 2, 0] rfl ?_
  exact loop2 (c + 1) 0 (by omega) (by omega) (fun j hj => absurd hj (Nat.not_lt_zero j))

set_option maxHeartbeats 4000000 in
set_option maxRecDepth 100000 in
theorem c_X7_exploreAll (l : Launch) (D : va_G) (ad : Nat → Nat) (cI cL cB : ClassId) (hI : gI 12 ad) (u : xS) (n : Nat) (B : Nat → Nat → Nat) (hR : mR u n B) (hB : gB n B) (x : Nat) (hx : x < 64 * 2 ^ n) (hf : u.1 0 9 = nI (x % 64)) (ht : u.1 0 10 = nI (x / 64)) : ∀ sz, Met l yX7_exploreAll wsX7_exploreAll ({ frames := 2, cells := 0, slots := 0, locals := 50 }) (MP D ad cI cL cB u [.ref (ad 0)] sz) (va_Qv (fun u' => mEnd u u' n B x) (MB D ad cI cL cB) (gA 12 ad sz)) 0 0 (gA 12 ad sz) := by
  intro sz
  refine z_met (cc := cX7_exploreAll) (maxL := 5) (ret := none) (by decide) rfl (Nat.le_of_ble_eq_true rfl) ?_
  intro pq lq sq mq aq Qq bq hmq cq C hr hml hown hts hlocks hK hX hsz hQ
  subst hsz
  have hT7 : ∀ w ∈ wsX70, w.before aq sq = true := fun w h => hts w ((by decide +kernel : ∀ w ∈ wsX70, w ∈ wsX7_exploreAll) w h)
  refine z_sub (L' := [(0, .ref (ad 0))]) [0] rfl ?_
  have hn8 : n ≤ 8 := hB.1
  have hp2 : 2 ^ n ≤ 256 := pn8 hn8
  have hx8 : x < 16384 := by omega
  refine z_aload_n C dX7_exploreAll_0 0 rfl ?_
  refine z_iconst (v := nI 1) C (by decide) dX7_exploreAll_1 ?_
  refine z_put (q := 0) C hI tyX7 (T := TX7) (N := 18) (ci := 7) (own := RX7) (index := 67) hT7 hown hK (by decide) rfl rfl 11 (by decide) (hts (.fieldLink RX7 67 "TriggerAnalyzerModel" "isExplored" "Z") (by decide +kernel)) (fun _ h9 => h9) tyX7_ok nmX7 rfl rfl rfl (Nat.le_of_ble_eq_true rfl) (f' := mF ad cI cL cB ((xs u 0 11 (nI 1)))) rfl mF_ne dX7_exploreAll_2 ?_
  refine z_aload_n C dX7_exploreAll_5 0 rfl ?_
  refine z_iconst (v := nI 0) C (by decide) dX7_exploreAll_6 ?_
  refine z_put (q := 0) C hI tyX7 (T := TX7) (N := 18) (ci := 7) (own := RX7) (index := 116) hT7 hown hK (by decide) rfl rfl 12 (by decide) (hts (.fieldLink RX7 116 "TriggerAnalyzerModel" "isTooMuch" "Z") (by decide +kernel)) (fun _ h9 => h9) tyX7_ok nmX7 rfl rfl rfl (Nat.le_of_ble_eq_true rfl) (f' := mF ad cI cL cB ((xs ((xs u 0 11 (nI 1))) 0 12 (nI 0)))) rfl mF_ne dX7_exploreAll_7 ?_
  refine z_aload_n C dX7_exploreAll_10 0 rfl ?_
  refine z_get (q := 0) C (T := TX7) (N := 18) (ci := 7) (own := RX7) (index := 32) (v := .ref (ad 8)) hT7 hown hK (by decide) rfl rfl 14 (by decide) (hts (.fieldLink RX7 32 "TriggerAnalyzerModel" "all" "[I") (by decide +kernel)) (fun _ h9 => h9) rfl dX7_exploreAll_11 ?_
  refine z_iconst (v := nI 0) C (by decide) dX7_exploreAll_14 ?_
  refine z_aload_n C dX7_exploreAll_15 0 rfl ?_
  refine z_callVi mX_ok C hml hown hts hK hX (c_X7_now l D ad cI cL cB hI ((xs ((xs u 0 11 (nI 1))) 0 12 (nI 0))) x hx8 ((xs_j (by decide)).trans ((xs_j (by decide)).trans hf)) ((xs_j (by decide)).trans ((xs_j (by decide)).trans ht))) (cwV 0 hts gX7_exploreAll_X7_now rfl rfl rfl (by decide +kernel) ⟨Nat.le_of_ble_eq_true rfl, Nat.le_of_ble_eq_true rfl⟩) (by decide) (ci := 7) rfl rfl rfl (st := [.int (nI 0), .ref (ad 8)]) rfl (Nat.le_of_ble_eq_true rfl) dX7_exploreAll_16 ⟨Nat.le_of_ble_eq_true rfl, Nat.le_of_ble_eq_true rfl⟩ (fun r16 u16 h16 => ?_)
  obtain ⟨zr16, zu16⟩ := h16
  subst r16
  subst u16
  refine z_iast (q := 8) (len := 1000) (k := 0) C hI hK (by decide) rfl 0 rfl (rfl) (by omega) (by decide) (f' := mF ad cI cL cB ((xs ((xs ((xs u 0 11 (nI 1))) 0 12 (nI 0))) 8 0 (nI (mf x))))) rfl mF_ne dX7_exploreAll_19 ?_
  refine z_aload_n C dX7_exploreAll_20 0 rfl ?_
  refine z_iconst (v := nI 1) C (by decide) dX7_exploreAll_21 ?_
  refine z_put (q := 0) C hI tyX7 (T := TX7) (N := 18) (ci := 7) (own := RX7) (index := 113) hT7 hown hK (by decide) rfl rfl 13 (by decide) (hts (.fieldLink RX7 113 "TriggerAnalyzerModel" "situations" "I") (by decide +kernel)) (fun _ h9 => h9) tyX7_ok nmX7 rfl rfl rfl (Nat.le_of_ble_eq_true rfl) (f' := mF ad cI cL cB ((xs ((xs ((xs ((xs u 0 11 (nI 1))) 0 12 (nI 0))) 8 0 (nI (mf x)))) 0 13 (nI 1)))) rfl mF_ne dX7_exploreAll_22 ?_
  refine z_iconst (v := nI 0) C (by decide) dX7_exploreAll_25 ?_
  refine z_istore_n (L' := [(1, .int (nI 0)), (0, .ref (ad 0))]) C dX7_exploreAll_26 (by decide) rfl ?_
  have loop27 : ∀ (d27 : Nat) (k : Nat) (w : xS), 1000 - k < d27 → (bRun B x k) → (mR w n B) → (mX9 u w) → (mEr w (bfs B x k) (8 * k)) → ZZ pq l lq { frames := 2, cells := 0, slots := 0, locals := 50 } sq mq aq bq hmq cq D vwCl 12 ad 5 0 0 Qq (mF ad cI cL cB w) [(0, .ref (ad 0)), (1, .int (nI k))] 27 [] := by
    intro d27
    induction d27 with
    | zero => intro k w hz; exact absurd hz (Nat.not_lt_zero _)
    | succ d27 ih27 =>
      intro k w hz27 hrun hwR hw9 hwE
      have hb9 := bfs_ok hB hx k hrun
      have hb1 := hb9.2.1
      have hk1 := bRun_le hB hx hrun
      refine z_iload_n C dX7_exploreAll_27 1 rfl ?_
      refine z_aload_n C dX7_exploreAll_28 0 rfl ?_
      refine z_get (q := 0) C (T := TX7) (N := 18) (ci := 7) (own := RX7) (index := 113) (v := .int (w.1 0 13)) hT7 hown hK (by decide) rfl rfl 13 (by decide) (hts (.fieldLink RX7 113 "TriggerAnalyzerModel" "situations" "I") (by decide +kernel)) (fun _ h9 => h9) rfl dX7_exploreAll_29 ?_
      refine z_topi (y := nI ((bfs B x k).2.2.2.1)) (hwE.1) ?_
      refine z_icmp_ge (tgt := 173) C dX7_exploreAll_32 (by decide) (fun zc32 => ?_) (fun zc32 => ?_)
      · skip
        have zn32 := zge_t (a := k) (b := (bfs B x k).2.2.2.1) (by omega) (by omega) zc32
        exact z_vret C hr hlocks hQ w (mEnd_ok hwR hw9 hrun hwE zn32 hB hx) (fun _ _ => rfl) dX7_exploreAll_173
      · skip
        have zn32 := zge_f (a := k) (b := (bfs B x k).2.2.2.1) (by omega) (by omega) zc32
        refine z_iconst (v := nI 0) C (by decide) dX7_exploreAll_35 ?_
        refine z_istore_n (L' := [(2, .int (nI 0)), (0, .ref (ad 0)), (1, .int (nI k))]) C dX7_exploreAll_36 (by decide) rfl ?_
        have loop37 : ∀ (d37 : Nat) (r : Nat) (v : xS), 8 - r < d37 → (r ≤ 8) → (mR v n B) → (mX9 u v) → (mEr v (bex B k (bfs B x k) r) (8 * k + r)) → ZZ pq l lq { frames := 2, cells := 0, slots := 0, locals := 50 } sq mq aq bq hmq cq D vwCl 12 ad 5 0 0 Qq (mF ad cI cL cB v) [(0, .ref (ad 0)), (1, .int (nI k)), (2, .int (nI r))] 37 [] := by
          intro d37
          induction d37 with
          | zero => intro r v hz; exact absurd hz (Nat.not_lt_zero _)
          | succ d37 ih37 =>
            intro r v hz37 hr8 hvR hv9 hvE
            have hk9 := ebx hB hx hrun zn32 hr8
            have hS9 := hk9.1.2.2.1 k hk9.2
            have hc9 := hk9.1.2.1
            have hmy : mf ((bex B k (bfs B x k) r).1 k) < 16384 := mf_lt (by omega)
            refine z_iload_n C dX7_exploreAll_37 2 rfl ?_
            refine z_bipush (v := nI 8) C (by decide) dX7_exploreAll_38 ?_
            refine z_icmp_ge (tgt := 167) C dX7_exploreAll_40 (by decide) (fun zc40 => ?_) (fun zc40 => ?_)
            · skip
              have zn40 := zge_t (a := r) (b := 8) (by omega) (by omega) zc40
              refine z_iinc (L' := [(1, .int (nI (k + 1))), (0, .ref (ad 0)), (2, .int (nI r))]) C dX7_exploreAll_167 1 rfl (nI_1 k) (by decide) rfl ?_
              refine z_goto (tgt := 27) C dX7_exploreAll_170 (by decide) ?_
              refine z_sub (L' := [(0, .ref (ad 0)), (1, .int (nI (k + 1)))]) [1, 0] rfl ?_
              exact ih27 (k + 1) v (by omega) (fun j hj => by rcases Nat.lt_or_ge j k with q | q; exact hrun j q; rw [show j = k by omega]; exact ⟨zn32, hwE.2.2.2⟩) hvR hv9 (by rw [show r = 8 by omega] at hvE; exact hvE)
            · skip
              have zn40 := zge_f (a := r) (b := 8) (by omega) (by omega) zc40
              refine z_aload_n C dX7_exploreAll_43 0 rfl ?_
              refine z_get (q := 0) C (T := TX7) (N := 18) (ci := 7) (own := RX7) (index := 35) (v := .ref (ad 9)) hT7 hown hK (by decide) rfl rfl 15 (by decide) (hts (.fieldLink RX7 35 "TriggerAnalyzerModel" "next" "[I") (by decide +kernel)) (fun _ h9 => h9) rfl dX7_exploreAll_44 ?_
              refine z_bipush (v := nI 8) C (by decide) dX7_exploreAll_47 ?_
              refine z_iload_n C dX7_exploreAll_49 1 rfl ?_
              refine z_imul C dX7_exploreAll_50 ?_
              refine z_topi (y := nI (8 * k)) (pk_mul 8 k) ?_
              refine z_iload_n C dX7_exploreAll_51 2 rfl ?_
              refine z_iadd C dX7_exploreAll_52 ?_
              refine z_topi (y := nI ((8 * k) + r)) (nI_add (8 * k) r) ?_
              refine z_iconst (v := (-1)) C (by decide) dX7_exploreAll_53 ?_
              refine z_iast (q := 9) (len := 8000) (k := (8 * k) + r) C hI hK (by decide) rfl 0 rfl (rfl) (by omega) (by decide) (f' := mF ad cI cL cB ((xs v 9 ((8 * k) + r) ((-1))))) rfl mF_ne dX7_exploreAll_54 ?_
              refine z_aload_n C dX7_exploreAll_55 0 rfl ?_
              refine z_aload_n C dX7_exploreAll_56 0 rfl ?_
              refine z_get (q := 0) C (T := TX7) (N := 18) (ci := 7) (own := RX7) (index := 32) (v := .ref (ad 8)) hT7 hown hK (by decide) rfl rfl 14 (by decide) (hts (.fieldLink RX7 32 "TriggerAnalyzerModel" "all" "[I") (by decide +kernel)) (fun _ h9 => h9) rfl dX7_exploreAll_57 ?_
              refine z_iload_n C dX7_exploreAll_60 1 rfl ?_
              refine z_iald (q := 8) (len := 1000) (k := k) C hK (by decide) rfl 0 rfl (rfl) (by omega) (by decide) dX7_exploreAll_61 ?_
              refine z_topi (y := v.1 8 k) (xs_c (by decide) _) ?_
              refine z_topi (y := nI (mf ((bex B k (bfs B x k) r).1 k))) (hvE.2.1 k hk9.2) ?_
              refine z_callVi mX_ok C hml hown hts hK hX (c_X7_readyIn l D ad cI cL cB hI ((xs v 9 ((8 * k) + r) ((-1)))) n B (mR_s hvR (Or.inr (by decide))) hB ((bex B k (bfs B x k) r).1 k) hS9) (cwV 1 hts gX7_exploreAll_X7_readyIn rfl rfl rfl (by decide +kernel) ⟨Nat.le_of_ble_eq_true rfl, Nat.le_of_ble_eq_true rfl⟩) (by decide) (ci := 7) rfl rfl rfl (st := []) rfl (Nat.le_of_ble_eq_true rfl) dX7_exploreAll_62 ⟨Nat.le_of_ble_eq_true rfl, Nat.le_of_ble_eq_true rfl⟩ (fun r62 u62 h62 => ?_)
              obtain ⟨zr62, zu62⟩ := h62
              subst r62
              subst u62
              refine z_iload_n C dX7_exploreAll_65 2 rfl ?_
              refine z_callSi mX_ok C hml hown hts hK hX (c_X7_has l D ad cI cL cB hI ((xs v 9 ((8 * k) + r) ((-1)))) (rdy B ((bex B k (bfs B x k) r).1 k / 64)) (by have := rdy_lt B ((bex B k (bfs B x k) r).1 k / 64); omega) r (by omega)) (va_cwS 2 hts gX7_exploreAll_X7_has rfl rfl rfl (by decide +kernel) ⟨Nat.le_of_ble_eq_true rfl, Nat.le_of_ble_eq_true rfl⟩) rfl (st := []) rfl (Nat.le_of_ble_eq_true rfl) dX7_exploreAll_66 ⟨Nat.le_of_ble_eq_true rfl, Nat.le_of_ble_eq_true rfl⟩ (fun r66 u66 h66 => ?_)
              obtain ⟨zr66, zu66⟩ := h66
              subst r66
              subst u66
              refine z_if_ne (tgt := 75) C dX7_exploreAll_69 (by decide) (fun zc69 => ?_) (fun zc69 => ?_)
              · skip
                have hb := z1t zc69
                refine z_aload_n C dX7_exploreAll_75 0 rfl ?_
                refine z_aload_n C dX7_exploreAll_76 0 rfl ?_
                refine z_get (q := 0) C (T := TX7) (N := 18) (ci := 7) (own := RX7) (index := 32) (v := .ref (ad 8)) hT7 hown hK (by decide) rfl rfl 14 (by decide) (hts (.fieldLink RX7 32 "TriggerAnalyzerModel" "all" "[I") (by decide +kernel)) (fun _ h9 => h9) rfl dX7_exploreAll_77 ?_
                refine z_iload_n C dX7_exploreAll_80 1 rfl ?_
                refine z_iald (q := 8) (len := 1000) (k := k) C hK (by decide) rfl 0 rfl (rfl) (by omega) (by decide) dX7_exploreAll_81 ?_
                refine z_topi (y := v.1 8 k) (xs_c (by decide) _) ?_
                refine z_topi (y := nI (mf ((bex B k (bfs B x k) r).1 k))) (hvE.2.1 k hk9.2) ?_
                refine z_iload_n C dX7_exploreAll_82 2 rfl ?_
                refine z_callVi mX_ok C hml hown hts hK hX (c_X7_playIn l D ad cI cL cB hI ((xs v 9 ((8 * k) + r) ((-1)))) n B (mR_s hvR (Or.inr (by decide))) hB r (rdy_lt_n (by omega) hb) ((bex B k (bfs B x k) r).1 k) (by omega)) (cwV 2 hts gX7_exploreAll_X7_playIn rfl rfl rfl (by decide +kernel) ⟨Nat.le_of_ble_eq_true rfl, Nat.le_of_ble_eq_true rfl⟩) (by decide) (ci := 7) rfl rfl rfl (st := []) rfl (Nat.le_of_ble_eq_true rfl) dX7_exploreAll_83 ⟨Nat.le_of_ble_eq_true rfl, Nat.le_of_ble_eq_true rfl⟩ (fun r83 u83 h83 => ?_)
                obtain ⟨zr83, zu83⟩ := h83
                subst r83
                subst u83
                refine z_istore_n (L' := [(3, .int (nI (mf (ply B r (((bex B k (bfs B x k) r).1 k)))))), (0, .ref (ad 0)), (1, .int (nI k)), (2, .int (nI r))]) C dX7_exploreAll_86 (by decide) rfl ?_
                refine z_aload_n C dX7_exploreAll_87 1 rfl ?_
                refine z_iload_n C dX7_exploreAll_88 0 rfl ?_
                refine z_callVi mX_ok C hml hown hts hK hX (c_X7_numberOf l D ad cI cL cB hI ((xs v 9 ((8 * k) + r) ((-1)))) (bex B k (bfs B x k) r).1 ((bex B k (bfs B x k) r).2.2.2.1) hk9.1.2.1 ((xs_c (by decide) _).trans hvE.1) (fun j hj => ⟨(xs_c (by decide) _).trans (hvE.2.1 j hj), by have := hk9.1.2.2.1 j hj; omega⟩) (ply B r ((bex B k (bfs B x k) r).1 k)) (ply_lt hB (by omega) (by omega))) (cwV 1 hts gX7_exploreAll_X7_numberOf rfl rfl rfl (by decide +kernel) ⟨Nat.le_of_ble_eq_true rfl, Nat.le_of_ble_eq_true rfl⟩) (by decide) (ci := 7) rfl rfl rfl (st := []) rfl (Nat.le_of_ble_eq_true rfl) dX7_exploreAll_89 ⟨Nat.le_of_ble_eq_true rfl, Nat.le_of_ble_eq_true rfl⟩ (fun r89 u89 h89 => ?_)
                obtain ⟨zr89, zu89⟩ := h89
                subst r89
                subst u89
                rcases Nat.lt_or_ge (fnd (bex B k (bfs B x k) r).1 (bex B k (bfs B x k) r).2.2.2.1 (ply B r ((bex B k (bfs B x k) r).1 k))) ((bex B k (bfs B x k) r).2.2.2.1) with hq | hq
                · skip
                  refine z_topi (y := nI (fnd (bex B k (bfs B x k) r).1 (bex B k (bfs B x k) r).2.2.2.1 (ply B r ((bex B k (bfs B x k) r).1 k)))) (if_pos hq) ?_
                  refine z_istore (L' := [(4, .int (nI (fnd (bex B k (bfs B x k) r).1 (bex B k (bfs B x k) r).2.2.2.1 (ply B r ((bex B k (bfs B x k) r).1 k))))), (3, .int (nI (mf (ply B r (((bex B k (bfs B x k) r).1 k)))))), (0, .ref (ad 0)), (1, .int (nI k)), (2, .int (nI r))]) C dX7_exploreAll_92 (by decide) rfl ?_
                  refine z_iload C dX7_exploreAll_94 0 rfl ?_
                  refine z_iconst (v := (-1)) C (by decide) dX7_exploreAll_96 ?_
                  refine z_icmp_ne (tgt := 116) C dX7_exploreAll_97 (by decide) (fun zc97 => ?_) (fun zc97 => ?_)
                  · skip
                    refine z_iload C dX7_exploreAll_116 0 rfl ?_
                    refine z_iconst (v := (-1)) C (by decide) dX7_exploreAll_118 ?_
                    refine z_icmp_ne (tgt := 148) C dX7_exploreAll_119 (by decide) (fun zc119 => ?_) (fun zc119 => ?_)
                    · skip
                      refine z_aload_n C dX7_exploreAll_148 2 rfl ?_
                      refine z_get (q := 0) C (T := TX7) (N := 18) (ci := 7) (own := RX7) (index := 35) (v := .ref (ad 9)) hT7 hown hK (by decide) rfl rfl 15 (by decide) (hts (.fieldLink RX7 35 "TriggerAnalyzerModel" "next" "[I") (by decide +kernel)) (fun _ h9 => h9) rfl dX7_exploreAll_149 ?_
                      refine z_bipush (v := nI 8) C (by decide) dX7_exploreAll_152 ?_
                      refine z_iload_n C dX7_exploreAll_154 3 rfl ?_
                      refine z_imul C dX7_exploreAll_155 ?_
                      refine z_topi (y := nI (8 * k)) (pk_mul 8 k) ?_
                      refine z_iload_n C dX7_exploreAll_156 4 rfl ?_
                      refine z_iadd C dX7_exploreAll_157 ?_
                      refine z_topi (y := nI ((8 * k) + r)) (nI_add (8 * k) r) ?_
                      refine z_iload C dX7_exploreAll_158 0 rfl ?_
                      refine z_iast (q := 9) (len := 8000) (k := (8 * k) + r) C hI hK (by decide) rfl 0 rfl (rfl) (by omega) (by decide) (f' := mF ad cI cL cB ((xs ((xs v 9 ((8 * k) + r) ((-1)))) 9 ((8 * k) + r) (nI (fnd (bex B k (bfs B x k) r).1 (bex B k (bfs B x k) r).2.2.2.1 (ply B r ((bex B k (bfs B x k) r).1 k))))))) rfl mF_ne dX7_exploreAll_160 ?_
                      refine z_iinc (L' := [(2, .int (nI (r + 1))), (4, .int (nI (fnd (bex B k (bfs B x k) r).1 (bex B k (bfs B x k) r).2.2.2.1 (ply B r ((bex B k (bfs B x k) r).1 k))))), (3, .int (nI (mf (ply B r (((bex B k (bfs B x k) r).1 k)))))), (0, .ref (ad 0)), (1, .int (nI k))]) C dX7_exploreAll_161 4 rfl (nI_1 r) (by decide) rfl ?_
                      refine z_goto (tgt := 37) C dX7_exploreAll_164 (by decide) ?_
                      refine z_sub (L' := [(0, .ref (ad 0)), (1, .int (nI k)), (2, .int (nI (r + 1)))]) [3, 4, 0] rfl ?_
                      exact ih37 (r + 1) (xs (xs v 9 (8 * k + r) (-1)) 9 (8 * k + r) (nI (fnd (bex B k (bfs B x k) r).1 (bex B k (bfs B x k) r).2.2.2.1 (ply B r ((bex B k (bfs B x k) r).1 k))))) (by omega) (by omega) (mR_s (mR_s hvR (Or.inr (by decide))) (Or.inr (by decide))) (mX9_s (mX9_s hv9 (Or.inl (by decide))) (Or.inl (by decide))) (mst_f hvE hb hq)
                    · skip
                      exact False.elim (nI_m1 (by omega) zc119)
                  · skip
                    exact False.elim (nI_m1 (by omega) zc97)
                · skip
                  refine z_topi (y := (-1)) (if_neg (by omega)) ?_
                  refine z_istore (L' := [(4, .int ((-1))), (3, .int (nI (mf (ply B r (((bex B k (bfs B x k) r).1 k)))))), (0, .ref (ad 0)), (1, .int (nI k)), (2, .int (nI r))]) C dX7_exploreAll_92 (by decide) rfl ?_
                  refine z_iload C dX7_exploreAll_94 0 rfl ?_
                  refine z_iconst (v := (-1)) C (by decide) dX7_exploreAll_96 ?_
                  refine z_icmp_ne (tgt := 116) C dX7_exploreAll_97 (by decide) (fun zc97 => ?_) (fun zc97 => ?_)
                  · skip
                    exact False.elim (zc97 rfl)
                  · skip
                    refine z_aload_n C dX7_exploreAll_100 2 rfl ?_
                    refine z_get (q := 0) C (T := TX7) (N := 18) (ci := 7) (own := RX7) (index := 113) (v := .int ((xs v 9 ((8 * k) + r) ((-1))).1 0 13)) hT7 hown hK (by decide) rfl rfl 13 (by decide) (hts (.fieldLink RX7 113 "TriggerAnalyzerModel" "situations" "I") (by decide +kernel)) (fun _ h9 => h9) rfl dX7_exploreAll_101 ?_
                    refine z_topi (y := v.1 0 13) (xs_c (by decide) _) ?_
                    refine z_topi (y := nI ((bex B k (bfs B x k) r).2.2.2.1)) (hvE.1) ?_
                    refine z_sipush (v := nI 1000) C (by decide) dX7_exploreAll_104 ?_
                    refine z_icmp_ne (tgt := 116) C dX7_exploreAll_107 (by decide) (fun zc107 => ?_) (fun zc107 => ?_)
                    · skip
                      have zn107 := zeq_f (a := (bex B k (bfs B x k) r).2.2.2.1) (b := 1000) zc107
                      refine z_iload C dX7_exploreAll_116 0 rfl ?_
                      refine z_iconst (v := (-1)) C (by decide) dX7_exploreAll_118 ?_
                      refine z_icmp_ne (tgt := 148) C dX7_exploreAll_119 (by decide) (fun zc119 => ?_) (fun zc119 => ?_)
                      · skip
                        exact False.elim (zc119 rfl)
                      · skip
                        refine z_aload_n C dX7_exploreAll_122 2 rfl ?_
                        refine z_get (q := 0) C (T := TX7) (N := 18) (ci := 7) (own := RX7) (index := 113) (v := .int ((xs v 9 ((8 * k) + r) ((-1))).1 0 13)) hT7 hown hK (by decide) rfl rfl 13 (by decide) (hts (.fieldLink RX7 113 "TriggerAnalyzerModel" "situations" "I") (by decide +kernel)) (fun _ h9 => h9) rfl dX7_exploreAll_123 ?_
                        refine z_topi (y := v.1 0 13) (xs_c (by decide) _) ?_
                        refine z_topi (y := nI ((bex B k (bfs B x k) r).2.2.2.1)) (hvE.1) ?_
                        refine z_istore (L' := [(4, .int (nI ((bex B k (bfs B x k) r).2.2.2.1))), (3, .int (nI (mf (ply B r (((bex B k (bfs B x k) r).1 k)))))), (0, .ref (ad 0)), (1, .int (nI k)), (2, .int (nI r))]) C dX7_exploreAll_126 (by decide) rfl ?_
                        refine z_aload_n C dX7_exploreAll_128 2 rfl ?_
                        refine z_get (q := 0) C (T := TX7) (N := 18) (ci := 7) (own := RX7) (index := 32) (v := .ref (ad 8)) hT7 hown hK (by decide) rfl rfl 14 (by decide) (hts (.fieldLink RX7 32 "TriggerAnalyzerModel" "all" "[I") (by decide +kernel)) (fun _ h9 => h9) rfl dX7_exploreAll_129 ?_
                        refine z_aload_n C dX7_exploreAll_132 2 rfl ?_
                        refine z_get (q := 0) C (T := TX7) (N := 18) (ci := 7) (own := RX7) (index := 113) (v := .int ((xs v 9 ((8 * k) + r) ((-1))).1 0 13)) hT7 hown hK (by decide) rfl rfl 13 (by decide) (hts (.fieldLink RX7 113 "TriggerAnalyzerModel" "situations" "I") (by decide +kernel)) (fun _ h9 => h9) rfl dX7_exploreAll_133 ?_
                        refine z_topi (y := v.1 0 13) (xs_c (by decide) _) ?_
                        refine z_topi (y := nI ((bex B k (bfs B x k) r).2.2.2.1)) (hvE.1) ?_
                        refine z_iload_n C dX7_exploreAll_136 1 rfl ?_
                        refine z_iast (q := 8) (len := 1000) (k := (bex B k (bfs B x k) r).2.2.2.1) C hI hK (by decide) rfl 0 rfl (rfl) (by omega) (by decide) (f' := mF ad cI cL cB ((xs ((xs v 9 ((8 * k) + r) ((-1)))) 8 ((bex B k (bfs B x k) r).2.2.2.1) (nI (mf (ply B r (((bex B k (bfs B x k) r).1 k)))))))) rfl mF_ne dX7_exploreAll_137 ?_
                        refine z_aload_n C dX7_exploreAll_138 2 rfl ?_
                        refine z_dup C rfl dX7_exploreAll_139 ?_
                        refine z_get (q := 0) C (T := TX7) (N := 18) (ci := 7) (own := RX7) (index := 113) (v := .int ((xs ((xs v 9 ((8 * k) + r) ((-1)))) 8 ((bex B k (bfs B x k) r).2.2.2.1) (nI (mf (ply B r (((bex B k (bfs B x k) r).1 k)))))).1 0 13)) hT7 hown hK (by decide) rfl rfl 13 (by decide) (hts (.fieldLink RX7 113 "TriggerAnalyzerModel" "situations" "I") (by decide +kernel)) (fun _ h9 => h9) rfl dX7_exploreAll_140 ?_
                        refine z_topi (y := v.1 0 13) ((xs_c (by decide) _).trans (xs_c (by decide) _)) ?_
                        refine z_topi (y := nI ((bex B k (bfs B x k) r).2.2.2.1)) (hvE.1) ?_
                        refine z_iconst (v := nI 1) C (by decide) dX7_exploreAll_143 ?_
                        refine z_iadd C dX7_exploreAll_144 ?_
                        refine z_topi (y := nI (((bex B k (bfs B x k) r).2.2.2.1) + 1)) (nI_add ((bex B k (bfs B x k) r).2.2.2.1) 1) ?_
                        refine z_put (q := 0) C hI tyX7 (T := TX7) (N := 18) (ci := 7) (own := RX7) (index := 113) hT7 hown hK (by decide) rfl rfl 13 (by decide) (hts (.fieldLink RX7 113 "TriggerAnalyzerModel" "situations" "I") (by decide +kernel)) (fun _ h9 => h9) tyX7_ok nmX7 rfl rfl rfl (Nat.le_of_ble_eq_true rfl) (f' := mF ad cI cL cB ((xs ((xs ((xs v 9 ((8 * k) + r) ((-1)))) 8 ((bex B k (bfs B x k) r).2.2.2.1) (nI (mf (ply B r (((bex B k (bfs B x k) r).1 k))))))) 0 13 (nI (((bex B k (bfs B x k) r).2.2.2.1) + 1))))) rfl mF_ne dX7_exploreAll_145 ?_
                        refine z_aload_n C dX7_exploreAll_148 2 rfl ?_
                        refine z_get (q := 0) C (T := TX7) (N := 18) (ci := 7) (own := RX7) (index := 35) (v := .ref (ad 9)) hT7 hown hK (by decide) rfl rfl 15 (by decide) (hts (.fieldLink RX7 35 "TriggerAnalyzerModel" "next" "[I") (by decide +kernel)) (fun _ h9 => h9) rfl dX7_exploreAll_149 ?_
                        refine z_bipush (v := nI 8) C (by decide) dX7_exploreAll_152 ?_
                        refine z_iload_n C dX7_exploreAll_154 3 rfl ?_
                        refine z_imul C dX7_exploreAll_155 ?_
                        refine z_topi (y := nI (8 * k)) (pk_mul 8 k) ?_
                        refine z_iload_n C dX7_exploreAll_156 4 rfl ?_
                        refine z_iadd C dX7_exploreAll_157 ?_
                        refine z_topi (y := nI ((8 * k) + r)) (nI_add (8 * k) r) ?_
                        refine z_iload C dX7_exploreAll_158 0 rfl ?_
                        refine z_iast (q := 9) (len := 8000) (k := (8 * k) + r) C hI hK (by decide) rfl 0 rfl (rfl) (by omega) (by decide) (f' := mF ad cI cL cB ((xs ((xs ((xs ((xs v 9 ((8 * k) + r) ((-1)))) 8 ((bex B k (bfs B x k) r).2.2.2.1) (nI (mf (ply B r (((bex B k (bfs B x k) r).1 k))))))) 0 13 (nI (((bex B k (bfs B x k) r).2.2.2.1) + 1)))) 9 ((8 * k) + r) (nI ((bex B k (bfs B x k) r).2.2.2.1))))) rfl mF_ne dX7_exploreAll_160 ?_
                        refine z_iinc (L' := [(2, .int (nI (r + 1))), (4, .int (nI ((bex B k (bfs B x k) r).2.2.2.1))), (3, .int (nI (mf (ply B r (((bex B k (bfs B x k) r).1 k)))))), (0, .ref (ad 0)), (1, .int (nI k))]) C dX7_exploreAll_161 4 rfl (nI_1 r) (by decide) rfl ?_
                        refine z_goto (tgt := 37) C dX7_exploreAll_164 (by decide) ?_
                        refine z_sub (L' := [(0, .ref (ad 0)), (1, .int (nI k)), (2, .int (nI (r + 1)))]) [3, 4, 0] rfl ?_
                        exact ih37 (r + 1) (xs (xs (xs (xs v 9 (8 * k + r) (-1)) 8 ((bex B k (bfs B x k) r).2.2.2.1) (nI (mf (ply B r ((bex B k (bfs B x k) r).1 k))))) 0 13 (nI ((bex B k (bfs B x k) r).2.2.2.1 + 1))) 9 (8 * k + r) (nI ((bex B k (bfs B x k) r).2.2.2.1))) (by omega) (by omega) (mR_s (mR_s (mR_s (mR_s hvR (Or.inr (by decide))) (Or.inr (by decide))) (Or.inl ⟨rfl, by decide⟩)) (Or.inr (by decide))) (mX9_s (mX9_s (mX9_s (mX9_s hv9 (Or.inl (by decide))) (Or.inl (by decide))) (Or.inr ⟨rfl, rfl⟩)) (Or.inl (by decide))) (mst_w hvE hb (by omega) (by omega))
                    · skip
                      have zn107 := zeq_t (a := (bex B k (bfs B x k) r).2.2.2.1) (b := 1000) (by omega) (by omega) zc107
                      refine z_aload_n C dX7_exploreAll_110 2 rfl ?_
                      refine z_iconst (v := nI 1) C (by decide) dX7_exploreAll_111 ?_
                      refine z_put (q := 0) C hI tyX7 (T := TX7) (N := 18) (ci := 7) (own := RX7) (index := 116) hT7 hown hK (by decide) rfl rfl 12 (by decide) (hts (.fieldLink RX7 116 "TriggerAnalyzerModel" "isTooMuch" "Z") (by decide +kernel)) (fun _ h9 => h9) tyX7_ok nmX7 rfl rfl rfl (Nat.le_of_ble_eq_true rfl) (f' := mF ad cI cL cB ((xs ((xs v 9 ((8 * k) + r) ((-1)))) 0 12 (nI 1)))) rfl mF_ne dX7_exploreAll_112 ?_
                      exact z_vret C hr hlocks hQ ((xs ((xs v 9 ((8 * k) + r) ((-1)))) 0 12 (nI 1))) (mEnd_too (mR_s hvR (Or.inr (by decide))) (mX9_s hv9 (Or.inl (by decide))) hrun zn32 hwE.2.2.2 zn40 (bst_full hb (by omega) zn107)) (fun _ _ => rfl) dX7_exploreAll_115
              · skip
                have hb := z1f zc69
                refine z_goto (tgt := 161) C dX7_exploreAll_72 (by decide) ?_
                refine z_iinc (L' := [(2, .int (nI (r + 1))), (0, .ref (ad 0)), (1, .int (nI k))]) C dX7_exploreAll_161 2 rfl (nI_1 r) (by decide) rfl ?_
                refine z_goto (tgt := 37) C dX7_exploreAll_164 (by decide) ?_
                refine z_sub (L' := [(0, .ref (ad 0)), (1, .int (nI k)), (2, .int (nI (r + 1)))]) [1, 2, 0] rfl ?_
                exact ih37 (r + 1) (xs v 9 (8 * k + r) (-1)) (by omega) (by omega) (mR_s hvR (Or.inr (by decide))) (mX9_s hv9 (Or.inl (by decide))) (mst_no hvE hb)
        refine z_sub (L' := [(0, .ref (ad 0)), (1, .int (nI k)), (2, .int (nI 0))]) [1, 2, 0] rfl ?_
        exact loop37 9 0 w (by omega) (by omega) hwR hw9 hwE
  refine z_sub (L' := [(0, .ref (ad 0)), (1, .int (nI 0))]) [1, 0] rfl ?_
  exact loop27 1001 0 ((xs ((xs ((xs ((xs u 0 11 (nI 1))) 0 12 (nI 0))) 8 0 (nI (mf x)))) 0 13 (nI 1))) (by omega) (fun j hj => absurd hj (Nat.not_lt_zero j)) (mR_s (mR_s (mR_s (mR_s hR (Or.inl ⟨rfl, by decide⟩)) (Or.inl ⟨rfl, by decide⟩)) (Or.inr (by decide))) (Or.inl ⟨rfl, by decide⟩)) ⟨by simp [xs_at], by simp [xs_at], by simp [xs_at], by simp [xs_at], by simp [xs_at]⟩ ⟨xs_s _ _ _ _, fun j hj => by have hj : j < 1 := hj; rw [show j = 0 by omega, xs_c (by decide), xs_s]; rfl, fun i hi => absurd hi (Nat.not_lt_zero i), rfl⟩
