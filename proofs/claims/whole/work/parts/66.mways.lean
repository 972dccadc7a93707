theorem z0f {P : Prop} [Decidable P] (c : (if P then (0 : Int32) else 1) = 0) : P := by
  by_cases h : P
  · exact h
  · rw [if_neg h] at c; exact absurd c (by decide)
theorem z0t {P : Prop} [Decidable P] (c : ¬ (if P then (0 : Int32) else 1) = 0) : ¬ P := fun h => c (if_pos h)
/-- how it ends: t whether it must; L the longest ways, W the ways -/
def mFin (c : Nat) (N : Nat → Nat) (t : Nat) (L : Nat → Nat) (W : Nat → Int64) : Prop := (t = 1 ∧ acy c N ∧ eqL c N L ∧ eqW c N W) ∨ (t = 0 ∧ ¬ acy c N)
theorem mFin_1 {c : Nat} {N lo : Nat → Nat} {W : Nat → Int64} (hc : 1 ≤ c) (hg : gOk c N) (h : sOk c N lo W) (h0 : lo 0 ≠ 0) : mFin c N 1 (loP lo) W := by
  obtain ⟨-, a, b, d⟩ := sFin_y hc hg h h0
  exact Or.inl ⟨rfl, a, b, d⟩
theorem mFin_0 {c : Nat} {N lo : Nat → Nat} (hc : 1 ≤ c) (hg : gOk c N) (hcl : sCl c N lo 0) (h0 : lo 0 = 0) (L : Nat → Nat) (W : Nat → Int64) : mFin c N 0 L W := Or.inr ⟨rfl, sFin_n hc hg.1 hcl h0⟩
theorem mQ_st {u w : xS} {n c ct : Nat} {B : Nat → Nat → Nat} {x : Nat} {f : Int32} {N lo : Nat → Nat} {W : Nat → Int64} (h : mQ u n B x f) (hs : stI u c N lo W ct w) : mQ w n B x f := mQ_fr h (fun j _ => by rw [hs.2.2.2.2.2 0 (by decide)]) (fun q _ h2 => hs.2.2.2.2.2 q (by omega))
theorem st_th {u w : xS} {c ct : Nat} {N lo : Nat → Nat} {W : Nat → Int64} {v : Int32} (hs : stI (xs u 0 0 v) c N lo W ct w) : w.1 0 0 = v := by
  rw [hs.2.2.2.2.2 0 (by decide)]
  exact xs_s _ _ _ _

set_option maxHeartbeats 4000000 in
set_option maxRecDepth 100000 in
theorem c_X7_terminates (l : Launch) (D : va_G) (ad : Nat → Nat) (cI cL cB : ClassId) (hI : gI 12 ad) (u : xS) (n : Nat) (B : Nat → Nat → Nat) (hB : gB n B) (x : Nat) (hx : x < 64 * 2 ^ n) (hM : mI u n B x) (c : Nat) (S N : Nat → Nat) (hW : mWh u n c S N) (hg : gOk c N) (hE : ∀ j, j < c → (S j / 64 = 0 ↔ noE N j = true)) (hz8 : ∀ j, j < c → ∀ r, n ≤ r → r < 8 → N (8 * j + r) = 0) : ∀ sz, Met l yX7_terminates wsX7_terminates ({ frames := 3, cells := 0, slots := 0, locals := 65 }) (MP D ad cI cL cB u [.ref (ad 0)] sz) (va_Qi (fun r_ u' => (∃ (t : Nat) (L : Nat → Nat) (W : Nat → Int64), mFin c N t L W ∧ r_ = nI t) ∧ u'.1 0 0 = nI 0 ∧ mQ u' n B x (u.1 0 11)) (MB D ad cI cL cB) (gA 12 ad sz)) 0 0 (gA 12 ad sz) := by
  intro sz
  refine z_met (cc := cX7_terminates) (maxL := 1) (ret := (some .boolean)) (by decide) rfl (Nat.le_of_ble_eq_true rfl) ?_
  intro pq lq sq mq aq Qq bq hmq cq C hr hml hown hts hlocks hK hX hsz hQ
  subst hsz
  refine z_sub (L' := [(0, .ref (ad 0))]) [0] rfl ?_
  obtain ⟨hc1, hc2, h11, h12, h13, hS, hNx⟩ := hW
  have hn8 : n ≤ 8 := hB.1
  have hp2 : 2 ^ n ≤ 256 := pn8 hn8
  refine z_aload_n C dX7_terminates_0 0 rfl ?_
  refine z_iconst (v := nI 0) C (by decide) dX7_terminates_1 ?_
  refine z_iconst (v := nI 1) C (by decide) dX7_terminates_2 ?_
  refine z_callVi mX_ok C hml hown hts hK hX (c_X7_asks_vh l D ad cI cL cB hI u h11 h12 1 (by decide) 0 (by decide)) (cwV 2 hts gX7_terminates_X7_asks rfl rfl rfl (by decide +kernel) ⟨Nat.le_of_ble_eq_true rfl, Nat.le_of_ble_eq_true rfl⟩) (by decide) (ci := 7) rfl rfl rfl (st := []) rfl (Nat.le_of_ble_eq_true rfl) dX7_terminates_3 ⟨Nat.le_of_ble_eq_true rfl, Nat.le_of_ble_eq_true rfl⟩ (fun r3 u3 h3 => ?_)
  obtain ⟨zr3, zu3⟩ := h3
  subst r3
  subst u3
  refine z_if_eq (tgt := 20) C dX7_terminates_6 (by decide) (fun zc6 => ?_) (fun zc6 => ?_)
  · skip
    have zn6 := z0_t (by omega) zc6
    exact absurd zn6 (by decide)
  · skip
    have zn6 := z0_f zc6
    refine z_aload_n C dX7_terminates_9 0 rfl ?_
    refine z_callVi mX_ok C hml hown hts hK hX (c_X7_settle l D ad cI cL cB hI (xs u 0 0 (nI 0)) n c S N hn8 ((xs_j (by decide)).trans (mR_n hM.1)) hc1 hc2 ((xs_j (by decide)).trans h13) (fun j hj => ⟨(xs_c (by decide) _).trans (hS j hj).1, by have := (hS j hj).2; omega⟩) (fun e he => ⟨(xs_c (by decide) _).trans (hNx e he).1, (hNx e he).2⟩) hE hz8) (cwV 0 hts gX7_terminates_X7_settle rfl rfl rfl (by decide +kernel) ⟨Nat.le_of_ble_eq_true rfl, Nat.le_of_ble_eq_true rfl⟩) (by decide) (ci := 7) rfl rfl rfl (st := []) rfl (Nat.le_of_ble_eq_true rfl) dX7_terminates_10 ⟨Nat.le_of_ble_eq_true rfl, Nat.le_of_ble_eq_true rfl⟩ (fun r10 u10 h10 => ?_)
    obtain ⟨lo, W, ct, hst, hcl, e10⟩ := h10
    subst e10
    refine z_if_eq (tgt := 20) C dX7_terminates_13 (by decide) (fun zc13 => ?_) (fun zc13 => ?_)
    · skip
      have hl0 := z0f zc13
      refine z_iconst (v := nI 0) C (by decide) dX7_terminates_20 ?_
      exact z_zret C hr hlocks rfl hQ u10 (⟨⟨0, loP lo, W, mFin_0 hc1 hg hcl hl0 _ _, rfl⟩, st_th hst, mQ_st (mQ_1 hM _) hst⟩) (fun _ _ => rfl) dX7_terminates_21
    · skip
      have hl0 := z0t zc13
      refine z_iconst (v := nI 1) C (by decide) dX7_terminates_16 ?_
      refine z_goto (tgt := 21) C dX7_terminates_17 (by decide) ?_
      exact z_zret C hr hlocks rfl hQ u10 (⟨⟨1, loP lo, W, mFin_1 hc1 hg hst.2.1 hl0, rfl⟩, st_th hst, mQ_st (mQ_1 hM _) hst⟩) (fun _ _ => rfl) dX7_terminates_21

set_option maxHeartbeats 4000000 in
set_option maxRecDepth 100000 in
theorem c_X7_longest (l : Launch) (D : va_G) (ad : Nat → Nat) (cI cL cB : ClassId) (hI : gI 12 ad) (u : xS) (n : Nat) (B : Nat → Nat → Nat) (hB : gB n B) (x : Nat) (hx : x < 64 * 2 ^ n) (hM : mI u n B x) (c : Nat) (S N : Nat → Nat) (hW : mWh u n c S N) (hg : gOk c N) (hE : ∀ j, j < c → (S j / 64 = 0 ↔ noE N j = true)) (hz8 : ∀ j, j < c → ∀ r, n ≤ r → r < 8 → N (8 * j + r) = 0) : ∀ sz, Met l yX7_longest wsX7_longest ({ frames := 3, cells := 0, slots := 0, locals := 65 }) (MP D ad cI cL cB u [.ref (ad 0)] sz) (va_Qi (fun r_ u' => (∃ (t : Nat) (L : Nat → Nat) (W : Nat → Int64), mFin c N t L W ∧ r_ = (if t = 0 then -1 else nI (L 0))) ∧ u'.1 0 0 = nI 0 ∧ mQ u' n B x (u.1 0 11)) (MB D ad cI cL cB) (gA 12 ad sz)) 0 0 (gA 12 ad sz) := by
  intro sz
  refine z_met (cc := cX7_longest) (maxL := 1) (ret := (some .int)) (by decide) rfl (Nat.le_of_ble_eq_true rfl) ?_
  intro pq lq sq mq aq Qq bq hmq cq C hr hml hown hts hlocks hK hX hsz hQ
  subst hsz
  have hT7 : ∀ w ∈ wsX70, w.before aq sq = true := fun w h => hts w ((by decide +kernel : ∀ w ∈ wsX70, w ∈ wsX7_longest) w h)
  refine z_sub (L' := [(0, .ref (ad 0))]) [0] rfl ?_
  obtain ⟨hc1, hc2, h11, h12, h13, hS, hNx⟩ := hW
  have hn8 : n ≤ 8 := hB.1
  have hp2 : 2 ^ n ≤ 256 := pn8 hn8
  refine z_aload_n C dX7_longest_0 0 rfl ?_
  refine z_iconst (v := nI 0) C (by decide) dX7_longest_1 ?_
  refine z_iconst (v := nI 1) C (by decide) dX7_longest_2 ?_
  refine z_callVi mX_ok C hml hown hts hK hX (c_X7_asks_vh l D ad cI cL cB hI u h11 h12 1 (by decide) 0 (by decide)) (cwV 2 hts gX7_longest_X7_asks rfl rfl rfl (by decide +kernel) ⟨Nat.le_of_ble_eq_true rfl, Nat.le_of_ble_eq_true rfl⟩) (by decide) (ci := 7) rfl rfl rfl (st := []) rfl (Nat.le_of_ble_eq_true rfl) dX7_longest_3 ⟨Nat.le_of_ble_eq_true rfl, Nat.le_of_ble_eq_true rfl⟩ (fun r3 u3 h3 => ?_)
  obtain ⟨zr3, zu3⟩ := h3
  subst r3
  subst u3
  refine z_if_eq (tgt := 29) C dX7_longest_6 (by decide) (fun zc6 => ?_) (fun zc6 => ?_)
  · skip
    have zn6 := z0_t (by omega) zc6
    exact absurd zn6 (by decide)
  · skip
    have zn6 := z0_f zc6
    refine z_aload_n C dX7_longest_9 0 rfl ?_
    refine z_callVi mX_ok C hml hown hts hK hX (c_X7_settle l D ad cI cL cB hI (xs u 0 0 (nI 0)) n c S N hn8 ((xs_j (by decide)).trans (mR_n hM.1)) hc1 hc2 ((xs_j (by decide)).trans h13) (fun j hj => ⟨(xs_c (by decide) _).trans (hS j hj).1, by have := (hS j hj).2; omega⟩) (fun e he => ⟨(xs_c (by decide) _).trans (hNx e he).1, (hNx e he).2⟩) hE hz8) (cwV 0 hts gX7_longest_X7_settle rfl rfl rfl (by decide +kernel) ⟨Nat.le_of_ble_eq_true rfl, Nat.le_of_ble_eq_true rfl⟩) (by decide) (ci := 7) rfl rfl rfl (st := []) rfl (Nat.le_of_ble_eq_true rfl) dX7_longest_10 ⟨Nat.le_of_ble_eq_true rfl, Nat.le_of_ble_eq_true rfl⟩ (fun r10 u10 h10 => ?_)
    obtain ⟨lo, W, ct, hst, hcl, e10⟩ := h10
    subst e10
    refine z_if_eq (tgt := 25) C dX7_longest_13 (by decide) (fun zc13 => ?_) (fun zc13 => ?_)
    · skip
      have hl0 := z0f zc13
      refine z_iconst (v := (-1)) C (by decide) dX7_longest_25 ?_
      refine z_goto (tgt := 30) C dX7_longest_26 (by decide) ?_
      exact z_iret C hr hlocks hQ u10 (⟨⟨0, loP lo, W, mFin_0 hc1 hg hcl hl0 _ _, rfl⟩, st_th hst, mQ_st (mQ_1 hM _) hst⟩) (fun _ _ => rfl) dX7_longest_30
    · skip
      have hl0 := z0t zc13
      refine z_aload_n C dX7_longest_16 0 rfl ?_
      refine z_get (q := 0) C (T := TX7) (N := 18) (ci := 7) (own := RX7) (index := 38) (v := .ref (ad 10)) hT7 hown hK (by decide) rfl rfl 16 (by decide) (hts (.fieldLink RX7 38 "TriggerAnalyzerModel" "longests" "[I") (by decide +kernel)) (fun _ h9 => h9) rfl dX7_longest_17 ?_
      refine z_iconst (v := nI 0) C (by decide) dX7_longest_20 ?_
      refine z_iald (q := 10) (len := 1000) (k := 0) C hK (by decide) rfl 0 rfl (rfl) (by omega) (by decide) dX7_longest_21 ?_
      refine z_topi (y := nI (loP lo 0)) ((hst.2.2.1 0 (by omega)).trans (nx_v hl0)) ?_
      refine z_goto (tgt := 30) C dX7_longest_22 (by decide) ?_
      exact z_iret C hr hlocks hQ u10 (⟨⟨1, loP lo, W, mFin_1 hc1 hg hst.2.1 hl0, rfl⟩, st_th hst, mQ_st (mQ_1 hM _) hst⟩) (fun _ _ => rfl) dX7_longest_30

set_option maxHeartbeats 4000000 in
set_option maxRecDepth 100000 in
theorem c_X7_ways (l : Launch) (D : va_G) (ad : Nat → Nat) (cI cL cB : ClassId) (hI : gI 12 ad) (u : xS) (n : Nat) (B : Nat → Nat → Nat) (hB : gB n B) (x : Nat) (hx : x < 64 * 2 ^ n) (hM : mI u n B x) (c : Nat) (S N : Nat → Nat) (hW : mWh u n c S N) (hg : gOk c N) (hE : ∀ j, j < c → (S j / 64 = 0 ↔ noE N j = true)) (hz8 : ∀ j, j < c → ∀ r, n ≤ r → r < 8 → N (8 * j + r) = 0) : ∀ sz, Met l yX7_ways wsX7_ways ({ frames := 3, cells := 0, slots := 0, locals := 65 }) (MP D ad cI cL cB u [.ref (ad 0)] sz) (va_Ql (fun r_ u' => (∃ (t : Nat) (L : Nat → Nat) (W : Nat → Int64), mFin c N t L W ∧ r_ = (if t = 0 then -1 else W 0)) ∧ u'.1 0 0 = nI 0 ∧ mQ u' n B x (u.1 0 11)) (MB D ad cI cL cB) (gA 12 ad sz)) 0 0 (gA 12 ad sz) := by
  intro sz
  refine z_met (cc := cX7_ways) (maxL := 1) (ret := (some .long)) (by decide) rfl (Nat.le_of_ble_eq_true rfl) ?_
  intro pq lq sq mq aq Qq bq hmq cq C hr hml hown hts hlocks hK hX hsz hQ
  subst hsz
  have hT7 : ∀ w ∈ wsX70, w.before aq sq = true := fun w h => hts w ((by decide +kernel : ∀ w ∈ wsX70, w ∈ wsX7_ways) w h)
  refine z_sub (L' := [(0, .ref (ad 0))]) [0] rfl ?_
  obtain ⟨hc1, hc2, h11, h12, h13, hS, hNx⟩ := hW
  have hn8 : n ≤ 8 := hB.1
  have hp2 : 2 ^ n ≤ 256 := pn8 hn8
  refine z_aload_n C dX7_ways_0 0 rfl ?_
  refine z_iconst (v := nI 0) C (by decide) dX7_ways_1 ?_
  refine z_iconst (v := nI 1) C (by decide) dX7_ways_2 ?_
  refine z_callVi mX_ok C hml hown hts hK hX (c_X7_asks_vh l D ad cI cL cB hI u h11 h12 1 (by decide) 0 (by decide)) (cwV 2 hts gX7_ways_X7_asks rfl rfl rfl (by decide +kernel) ⟨Nat.le_of_ble_eq_true rfl, Nat.le_of_ble_eq_true rfl⟩) (by decide) (ci := 7) rfl rfl rfl (st := []) rfl (Nat.le_of_ble_eq_true rfl) dX7_ways_3 ⟨Nat.le_of_ble_eq_true rfl, Nat.le_of_ble_eq_true rfl⟩ (fun r3 u3 h3 => ?_)
  obtain ⟨zr3, zu3⟩ := h3
  subst r3
  subst u3
  refine z_if_eq (tgt := 31) C dX7_ways_6 (by decide) (fun zc6 => ?_) (fun zc6 => ?_)
  · skip
    have zn6 := z0_t (by omega) zc6
    exact absurd zn6 (by decide)
  · skip
    have zn6 := z0_f zc6
    refine z_aload_n C dX7_ways_9 0 rfl ?_
    refine z_callVi mX_ok C hml hown hts hK hX (c_X7_settle l D ad cI cL cB hI (xs u 0 0 (nI 0)) n c S N hn8 ((xs_j (by decide)).trans (mR_n hM.1)) hc1 hc2 ((xs_j (by decide)).trans h13) (fun j hj => ⟨(xs_c (by decide) _).trans (hS j hj).1, by have := (hS j hj).2; omega⟩) (fun e he => ⟨(xs_c (by decide) _).trans (hNx e he).1, (hNx e he).2⟩) hE hz8) (cwV 0 hts gX7_ways_X7_settle rfl rfl rfl (by decide +kernel) ⟨Nat.le_of_ble_eq_true rfl, Nat.le_of_ble_eq_true rfl⟩) (by decide) (ci := 7) rfl rfl rfl (st := []) rfl (Nat.le_of_ble_eq_true rfl) dX7_ways_10 ⟨Nat.le_of_ble_eq_true rfl, Nat.le_of_ble_eq_true rfl⟩ (fun r10 u10 h10 => ?_)
    obtain ⟨lo, W, ct, hst, hcl, e10⟩ := h10
    subst e10
    refine z_if_eq (tgt := 25) C dX7_ways_13 (by decide) (fun zc13 => ?_) (fun zc13 => ?_)
    · skip
      have hl0 := z0f zc13
      refine z_ldc2 (v := (-1)) C hown (hts (.constantLong RX7 149 (-1)) (by decide +kernel)) dX7_ways_25 ?_
      refine z_goto (tgt := 32) C dX7_ways_28 (by decide) ?_
      exact z_lret C hr hlocks hQ u10 (⟨⟨0, loP lo, W, mFin_0 hc1 hg hcl hl0 _ _, rfl⟩, st_th hst, mQ_st (mQ_1 hM _) hst⟩) (fun _ _ => rfl) dX7_ways_32
    · skip
      have hl0 := z0t zc13
      refine z_aload_n C dX7_ways_16 0 rfl ?_
      refine z_get (q := 0) C (T := TX7) (N := 18) (ci := 7) (own := RX7) (index := 41) (v := .ref (ad 11)) hT7 hown hK (by decide) rfl rfl 17 (by decide) (hts (.fieldLink RX7 41 "TriggerAnalyzerModel" "counts" "[J") (by decide +kernel)) (fun _ h9 => h9) rfl dX7_ways_17 ?_
      refine z_iconst (v := nI 0) C (by decide) dX7_ways_20 ?_
      refine z_lald (q := 11) (len := 1000) (k := 0) C hK (by decide) rfl 1 rfl (rfl) (by omega) (by decide) dX7_ways_21 ?_
      refine z_topl (y := W 0) (hst.2.2.2.1 0 (by omega) hl0) ?_
      refine z_goto (tgt := 32) C dX7_ways_22 (by decide) ?_
      exact z_lret C hr hlocks hQ u10 (⟨⟨1, loP lo, W, mFin_1 hc1 hg hst.2.1 hl0, rfl⟩, st_th hst, mQ_st (mQ_1 hM _) hst⟩) (fun _ _ => rfl) dX7_ways_32

set_option maxHeartbeats 4000000 in
set_option maxRecDepth 100000 in
theorem c_X7_terminates_x1 (l : Launch) (D : va_G) (ad : Nat → Nat) (cI cL cB : ClassId) (hI : gI 12 ad) (u : xS) (n : Nat) (B : Nat → Nat → Nat) (hB : gB n B) (x : Nat) (hx : x < 64 * 2 ^ n) (hM : mI u n B x) (hN : mNo u) : ∀ sz, Met l yX7_terminates wsX7_terminates ({ frames := 3, cells := 0, slots := 0, locals := 65 }) (MP D ad cI cL cB u [.ref (ad 0)] sz) (va_Qi (fun r_ u' => r_ = nI 0 ∧ u'.1 0 0 = nI 1 ∧ mQ u' n B x (u.1 0 11)) (MB D ad cI cL cB) (gA 12 ad sz)) 0 0 (gA 12 ad sz) := by
  intro sz
  refine z_met (cc := cX7_terminates) (maxL := 1) (ret := (some .boolean)) (by decide) rfl (Nat.le_of_ble_eq_true rfl) ?_
  intro pq lq sq mq aq Qq bq hmq cq C hr hml hown hts hlocks hK hX hsz hQ
  subst hsz
  refine z_sub (L' := [(0, .ref (ad 0))]) [0] rfl ?_
  refine z_aload_n C dX7_terminates_0 0 rfl ?_
  refine z_iconst (v := nI 0) C (by decide) dX7_terminates_1 ?_
  refine z_iconst (v := nI 1) C (by decide) dX7_terminates_2 ?_
  refine z_callVi mX_ok C hml hown hts hK hX (c_X7_asks_w l D ad cI cL cB hI u hN (nI 0) (nI 1)) (cwV 2 hts gX7_terminates_X7_asks rfl rfl rfl (by decide +kernel) ⟨Nat.le_of_ble_eq_true rfl, Nat.le_of_ble_eq_true rfl⟩) (by decide) (ci := 7) rfl rfl rfl (st := []) rfl (Nat.le_of_ble_eq_true rfl) dX7_terminates_3 ⟨Nat.le_of_ble_eq_true rfl, Nat.le_of_ble_eq_true rfl⟩ (fun r3 u3 h3 => ?_)
  obtain ⟨zr3, zu3⟩ := h3
  subst r3
  subst u3
  refine z_if_eq (tgt := 20) C dX7_terminates_6 (by decide) (fun zc6 => ?_) (fun zc6 => ?_)
  · skip
    have zn6 := z0_t (by omega) zc6
    refine z_iconst (v := nI 0) C (by decide) dX7_terminates_20 ?_
    exact z_zret C hr hlocks rfl hQ (xs u 0 0 (nI 1)) (⟨rfl, xs_s _ _ _ _, mQ_1 hM _⟩) (fun _ _ => rfl) dX7_terminates_21
  · skip
    have zn6 := z0_f zc6
    exact absurd zn6 (by decide)

set_option maxHeartbeats 4000000 in
set_option maxRecDepth 100000 in
theorem c_X7_longest_x1 (l : Launch) (D : va_G) (ad : Nat → Nat) (cI cL cB : ClassId) (hI : gI 12 ad) (u : xS) (n : Nat) (B : Nat → Nat → Nat) (hB : gB n B) (x : Nat) (hx : x < 64 * 2 ^ n) (hM : mI u n B x) (hN : mNo u) : ∀ sz, Met l yX7_longest wsX7_longest ({ frames := 3, cells := 0, slots := 0, locals := 65 }) (MP D ad cI cL cB u [.ref (ad 0)] sz) (va_Qi (fun r_ u' => r_ = nI 0 ∧ u'.1 0 0 = nI 1 ∧ mQ u' n B x (u.1 0 11)) (MB D ad cI cL cB) (gA 12 ad sz)) 0 0 (gA 12 ad sz) := by
  intro sz
  refine z_met (cc := cX7_longest) (maxL := 1) (ret := (some .int)) (by decide) rfl (Nat.le_of_ble_eq_true rfl) ?_
  intro pq lq sq mq aq Qq bq hmq cq C hr hml hown hts hlocks hK hX hsz hQ
  subst hsz
  refine z_sub (L' := [(0, .ref (ad 0))]) [0] rfl ?_
  refine z_aload_n C dX7_longest_0 0 rfl ?_
  refine z_iconst (v := nI 0) C (by decide) dX7_longest_1 ?_
  refine z_iconst (v := nI 1) C (by decide) dX7_longest_2 ?_
  refine z_callVi mX_ok C hml hown hts hK hX (c_X7_asks_w l D ad cI cL cB hI u hN (nI 0) (nI 1)) (cwV 2 hts gX7_longest_X7_asks rfl rfl rfl (by decide +kernel) ⟨Nat.le_of_ble_eq_true rfl, Nat.le_of_ble_eq_true rfl⟩) (by decide) (ci := 7) rfl rfl rfl (st := []) rfl (Nat.le_of_ble_eq_true rfl) dX7_longest_3 ⟨Nat.le_of_ble_eq_true rfl, Nat.le_of_ble_eq_true rfl⟩ (fun r3 u3 h3 => ?_)
  obtain ⟨zr3, zu3⟩ := h3
  subst r3
  subst u3
  refine z_if_eq (tgt := 29) C dX7_longest_6 (by decide) (fun zc6 => ?_) (fun zc6 => ?_)
  · skip
    have zn6 := z0_t (by omega) zc6
    refine z_iconst (v := nI 0) C (by decide) dX7_longest_29 ?_
    exact z_iret C hr hlocks hQ (xs u 0 0 (nI 1)) (⟨rfl, xs_s _ _ _ _, mQ_1 hM _⟩) (fun _ _ => rfl) dX7_longest_30
  · skip
    have zn6 := z0_f zc6
    exact absurd zn6 (by decide)

set_option maxHeartbeats 4000000 in
set_option maxRecDepth 100000 in
theorem c_X7_ways_x1 (l : Launch) (D : va_G) (ad : Nat → Nat) (cI cL cB : ClassId) (hI : gI 12 ad) (u : xS) (n : Nat) (B : Nat → Nat → Nat) (hB : gB n B) (x : Nat) (hx : x < 64 * 2 ^ n) (hM : mI u n B x) (hN : mNo u) : ∀ sz, Met l yX7_ways wsX7_ways ({ frames := 3, cells := 0, slots := 0, locals := 65 }) (MP D ad cI cL cB u [.ref (ad 0)] sz) (va_Ql (fun r_ u' => r_ = 0 ∧ u'.1 0 0 = nI 1 ∧ mQ u' n B x (u.1 0 11)) (MB D ad cI cL cB) (gA 12 ad sz)) 0 0 (gA 12 ad sz) := by
  intro sz
  refine z_met (cc := cX7_ways) (maxL := 1) (ret := (some .long)) (by decide) rfl (Nat.le_of_ble_eq_true rfl) ?_
  intro pq lq sq mq aq Qq bq hmq cq C hr hml hown hts hlocks hK hX hsz hQ
  subst hsz
  refine z_sub (L' := [(0, .ref (ad 0))]) [0] rfl ?_
  refine z_aload_n C dX7_ways_0 0 rfl ?_
  refine z_iconst (v := nI 0) C (by decide) dX7_ways_1 ?_
  refine z_iconst (v := nI 1) C (by decide) dX7_ways_2 ?_
  refine z_callVi mX_ok C hml hown hts hK hX (c_X7_asks_w l D ad cI cL cB hI u hN (nI 0) (nI 1)) (cwV 2 hts gX7_ways_X7_asks rfl rfl rfl (by decide +kernel) ⟨Nat.le_of_ble_eq_true rfl, Nat.le_of_ble_eq_true rfl⟩) (by decide) (ci := 7) rfl rfl rfl (st := []) rfl (Nat.le_of_ble_eq_true rfl) dX7_ways_3 ⟨Nat.le_of_ble_eq_true rfl, Nat.le_of_ble_eq_true rfl⟩ (fun r3 u3 h3 => ?_)
  obtain ⟨zr3, zu3⟩ := h3
  subst r3
  subst u3
  refine z_if_eq (tgt := 31) C dX7_ways_6 (by decide) (fun zc6 => ?_) (fun zc6 => ?_)
  · skip
    have zn6 := z0_t (by omega) zc6
    refine z_lconst (v := 0) C (by decide) dX7_ways_31 ?_
    exact z_lret C hr hlocks hQ (xs u 0 0 (nI 1)) (⟨rfl, xs_s _ _ _ _, mQ_1 hM _⟩) (fun _ _ => rfl) dX7_ways_32
  · skip
    have zn6 := z0_f zc6
    exact absurd zn6 (by decide)
