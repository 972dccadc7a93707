theorem mNo_th {u : xS} (h : mNo u) (v : Int32) : mNo (xs u 0 0 v) := by
  unfold mNo
  rw [xs_j (by decide), xs_j (by decide)]
  exact h
/-- whether p holds somewhere below k, as a number -/
def plb (p : Nat → Bool) (k : Nat) : Nat := if fb_ct p k = 0 then 0 else 1
theorem plb_le (p : Nat → Bool) (k : Nat) : plb p k ≤ 1 := by unfold plb; split <;> omega
theorem plb_t {p : Nat → Bool} {k : Nat} (h : p k = true) : 1 = plb p (k + 1) := by
  unfold plb
  rw [fb_ct_succ, if_pos h, if_neg (by omega)]
theorem plb_f {p : Nat → Bool} {k : Nat} (h : p k = false) : plb p k = plb p (k + 1) := by
  have e : fb_ct p (k + 1) = fb_ct p k := by rw [fb_ct_succ, if_neg (show ¬ p k = true by rw [h]; decide)]; rfl
  unfold plb
  rw [e]
theorem plb_s {p : Nat → Bool} {k : Nat} (h : plb p k ≠ 0) : 1 = plb p (k + 1) := by
  unfold plb at h ⊢
  rw [fb_ct_succ]
  split at h
  · exact absurd rfl h
  · rw [if_neg (by omega)]
theorem en_lt {p : Nat → Bool} {c k i : Nat} (hk : k < c) (hi : i < fb_ct p c) (hle : fb_ct p (k + 1) ≤ i) : k + 1 < c := by
  rcases Nat.lt_or_ge (k + 1) c with q | q
  · exact q
  · rw [show c = k + 1 by omega] at hi; omega
def pyd (N : Nat → Nat) (i : Nat) (j : Nat) : Bool := decide (N (8 * j + i) ≠ 0)

set_option maxHeartbeats 4000000 in
set_option maxRecDepth 100000 in
theorem c_X7_endCount_e (l : Launch) (D : va_G) (ad : Nat → Nat) (cI cL cB : ClassId) (hI : gI 12 ad) (u : xS) (n : Nat) (B : Nat → Nat → Nat) (hB : gB n B) (x : Nat) (hx : x < 64 * 2 ^ n) (hM : mI u n B x) (c : Nat) (S N : Nat → Nat) (hW : mWh u n c S N) : ∀ sz, Met l yX7_endCount wsX7_endCount ({ frames := 2, cells := 0, slots := 0, locals := 42 }) (MP D ad cI cL cB u [.ref (ad 0)] sz) (va_Qi (fun r_ u' => r_ = nI (fb_ct (isE S) c) ∧ u' = (xs u 0 0 (nI 0))) (MB D ad cI cL cB) (gA 12 ad sz)) 0 0 (gA 12 ad sz) := by
  intro sz
  refine z_met (cc := cX7_endCount) (maxL := 3) (ret := (some .int)) (by decide) rfl (Nat.le_of_ble_eq_true rfl) ?_
  intro pq lq sq mq aq Qq bq hmq cq C hr hml hown hts hlocks hK hX hsz hQ
  subst hsz
  have hT7 : ∀ w ∈ wsX70, w.before aq sq = true := fun w h => hts w ((by decide +kernel : ∀ w ∈ wsX70, w ∈ wsX7_endCount) w h)
  refine z_sub (L' := [(0, .ref (ad 0))]) [0] rfl ?_
  obtain ⟨hc1, hc2, h11, h12, h13, hS, hNx⟩ := hW
  have hn8 : n ≤ 8 := hB.1
  have hp2 : 2 ^ n ≤ 256 := pn8 hn8
  refine z_aload_n C dX7_endCount_0 0 rfl ?_
  refine z_iconst (v := nI 0) C (by decide) dX7_endCount_1 ?_
  refine z_iconst (v := nI 1) C (by decide) dX7_endCount_2 ?_
  refine z_callVi mX_ok C hml hown hts hK hX (c_X7_asks_vh l D ad cI cL cB hI u h11 h12 1 (by decide) 0 (by decide)) (cwV 2 hts gX7_endCount_X7_asks rfl rfl rfl (by decide +kernel) ⟨Nat.le_of_ble_eq_true rfl, Nat.le_of_ble_eq_true rfl⟩) (by decide) (ci := 7) rfl rfl rfl (st := []) rfl (Nat.le_of_ble_eq_true rfl) dX7_endCount_3 ⟨Nat.le_of_ble_eq_true rfl, Nat.le_of_ble_eq_true rfl⟩ (fun r3 u3 h3 => ?_)
  obtain ⟨zr3, zu3⟩ := h3
  subst r3
  subst u3
  refine z_if_ne (tgt := 11) C dX7_endCount_6 (by decide) (fun zc6 => ?_) (fun zc6 => ?_)
  · skip
    have zn6 := z0_f zc6
    refine z_iconst (v := nI 0) C (by decide) dX7_endCount_11 ?_
    refine z_istore_n (L' := [(1, .int (nI 0)), (0, .ref (ad 0))]) C dX7_endCount_12 (by decide) rfl ?_
    refine z_iconst (v := nI 0) C (by decide) dX7_endCount_13 ?_
    refine z_istore_n (L' := [(2, .int (nI 0)), (1, .int (nI 0)), (0, .ref (ad 0))]) C dX7_endCount_14 (by decide) rfl ?_
    have loop15 : ∀ (d15 : Nat) (k a : Nat), c - k < d15 → (k ≤ c) → (a = fb_ct (isE S) k) → ZZ pq l lq { frames := 2, cells := 0, slots := 0, locals := 42 } sq mq aq bq hmq cq D vwCl 12 ad 3 0 0 Qq (mF ad cI cL cB ((xs u 0 0 (nI 0)))) [(0, .ref (ad 0)), (1, .int (nI a)), (2, .int (nI k))] 15 [] := by
      intro d15
      induction d15 with
      | zero => intro k a hz; exact absurd hz (Nat.not_lt_zero _)
      | succ d15 ih15 =>
        intro k a hz15 hk ha
        refine z_iload_n C dX7_endCount_15 2 rfl ?_
        refine z_aload_n C dX7_endCount_16 0 rfl ?_
        refine z_get (q := 0) C (T := TX7) (N := 18) (ci := 7) (own := RX7) (index := 113) (v := .int ((xs u 0 0 (nI 0)).1 0 13)) hT7 hown hK (by decide) rfl rfl 13 (by decide) (hts (.fieldLink RX7 113 "TriggerAnalyzerModel" "situations" "I") (by decide +kernel)) (fun _ h9 => h9) rfl dX7_endCount_17 ?_
        refine z_topi (y := nI c) (h13) ?_
        refine z_icmp_ge (tgt := 45) C dX7_endCount_20 (by decide) (fun zc20 => ?_) (fun zc20 => ?_)
        · skip
          have zn20 := zge_t (a := k) (b := c) (by omega) (by omega) zc20
          refine z_iload_n C dX7_endCount_45 1 rfl ?_
          exact z_iret C hr hlocks hQ ((xs u 0 0 (nI 0))) (⟨by rw [ha, show k = c by omega], rfl⟩) (fun _ _ => rfl) dX7_endCount_46
        · skip
          have zn20 := zge_f (a := k) (b := c) (by omega) (by omega) zc20
          have hsk := hS k (by omega)
          refine z_iload_n C dX7_endCount_23 1 rfl ?_
          refine z_aload_n C dX7_endCount_24 0 rfl ?_
          refine z_iload_n C dX7_endCount_25 2 rfl ?_
          refine z_callVi mX_ok C hml hown hts hK hX (c_X7_isEnd l D ad cI cL cB hI ((xs u 0 0 (nI 0))) k (by omega) (S k) (by omega) ((xs_c (by decide) _).trans hsk.1)) (cwV 1 hts gX7_endCount_X7_isEnd rfl rfl rfl (by decide +kernel) ⟨Nat.le_of_ble_eq_true rfl, Nat.le_of_ble_eq_true rfl⟩) (by decide) (ci := 7) rfl rfl rfl (st := [.int (nI a)]) rfl (Nat.le_of_ble_eq_true rfl) dX7_endCount_26 ⟨Nat.le_of_ble_eq_true rfl, Nat.le_of_ble_eq_true rfl⟩ (fun r26 u26 h26 => ?_)
          obtain ⟨zr26, zu26⟩ := h26
          subst r26
          subst u26
          refine z_if_eq (tgt := 36) C dX7_endCount_29 (by decide) (fun zc29 => ?_) (fun zc29 => ?_)
          · skip
            have hz := z1f zc29
            refine z_iconst (v := nI 0) C (by decide) dX7_endCount_36 ?_
            refine z_iadd C dX7_endCount_37 ?_
            refine z_topi (y := nI (a + 0)) (nI_add a 0) ?_
            refine z_istore_n (L' := [(1, .int (nI (a + 0))), (0, .ref (ad 0)), (2, .int (nI k))]) C dX7_endCount_38 (by decide) rfl ?_
            refine z_iinc (L' := [(2, .int (nI (k + 1))), (1, .int (nI (a + 0))), (0, .ref (ad 0))]) C dX7_endCount_39 2 rfl (nI_1 k) (by decide) rfl ?_
            refine z_goto (tgt := 15) C dX7_endCount_42 (by decide) ?_
            refine z_sub (L' := [(0, .ref (ad 0)), (1, .int (nI (a + 0))), (2, .int (nI (k + 1)))]) [2, 1, 0] rfl ?_
            exact ih15 (k + 1) (a + 0) (by omega) (by omega) (by rw [ha, fb_ct_succ, if_neg (fun z => hz (isE_s.mp z))])
          · skip
            have hz := z1t zc29
            refine z_iconst (v := nI 1) C (by decide) dX7_endCount_32 ?_
            refine z_goto (tgt := 37) C dX7_endCount_33 (by decide) ?_
            refine z_iadd C dX7_endCount_37 ?_
            refine z_topi (y := nI (a + 1)) (nI_add a 1) ?_
            refine z_istore_n (L' := [(1, .int (nI (a + 1))), (0, .ref (ad 0)), (2, .int (nI k))]) C dX7_endCount_38 (by decide) rfl ?_
            refine z_iinc (L' := [(2, .int (nI (k + 1))), (1, .int (nI (a + 1))), (0, .ref (ad 0))]) C dX7_endCount_39 2 rfl (nI_1 k) (by decide) rfl ?_
            refine z_goto (tgt := 15) C dX7_endCount_42 (by decide) ?_
            refine z_sub (L' := [(0, .ref (ad 0)), (1, .int (nI (a + 1))), (2, .int (nI (k + 1)))]) [2, 1, 0] rfl ?_
            exact ih15 (k + 1) (a + 1) (by omega) (by omega) (by rw [ha, fb_ct_succ, if_pos (isE_s.mpr hz)])
    refine z_sub (L' := [(0, .ref (ad 0)), (1, .int (nI 0)), (2, .int (nI 0))]) [2, 1, 0] rfl ?_
    exact loop15 (c + 1) 0 0 (by omega) (by omega) rfl
  · skip
    have zn6 := z0_t (by omega) zc6
    exact absurd zn6 (by decide)

set_option maxHeartbeats 4000000 in
set_option maxRecDepth 100000 in
theorem c_X7_endCount_en (l : Launch) (D : va_G) (ad : Nat → Nat) (cI cL cB : ClassId) (hI : gI 12 ad) (u : xS) (n : Nat) (B : Nat → Nat → Nat) (hB : gB n B) (x : Nat) (hx : x < 64 * 2 ^ n) (hM : mI u n B x) (hN : mNo u) : ∀ sz, Met l yX7_endCount wsX7_endCount ({ frames := 2, cells := 0, slots := 0, locals := 42 }) (MP D ad cI cL cB u [.ref (ad 0)] sz) (va_Qi (fun r_ u' => r_ = nI 0 ∧ u' = (xs u 0 0 (nI 1))) (MB D ad cI cL cB) (gA 12 ad sz)) 0 0 (gA 12 ad sz) := by
  intro sz
  refine z_met (cc := cX7_endCount) (maxL := 3) (ret := (some .int)) (by decide) rfl (Nat.le_of_ble_eq_true rfl) ?_
  intro pq lq sq mq aq Qq bq hmq cq C hr hml hown hts hlocks hK hX hsz hQ
  subst hsz
  refine z_sub (L' := [(0, .ref (ad 0))]) [0] rfl ?_
  refine z_aload_n C dX7_endCount_0 0 rfl ?_
  refine z_iconst (v := nI 0) C (by decide) dX7_endCount_1 ?_
  refine z_iconst (v := nI 1) C (by decide) dX7_endCount_2 ?_
  refine z_callVi mX_ok C hml hown hts hK hX (c_X7_asks_w l D ad cI cL cB hI u hN (nI 0) (nI 1)) (cwV 2 hts gX7_endCount_X7_asks rfl rfl rfl (by decide +kernel) ⟨Nat.le_of_ble_eq_true rfl, Nat.le_of_ble_eq_true rfl⟩) (by decide) (ci := 7) rfl rfl rfl (st := []) rfl (Nat.le_of_ble_eq_true rfl) dX7_endCount_3 ⟨Nat.le_of_ble_eq_true rfl, Nat.le_of_ble_eq_true rfl⟩ (fun r3 u3 h3 => ?_)
  obtain ⟨zr3, zu3⟩ := h3
  subst r3
  subst u3
  refine z_if_ne (tgt := 11) C dX7_endCount_6 (by decide) (fun zc6 => ?_) (fun zc6 => ?_)
  · skip
    have zn6 := z0_f zc6
    exact absurd zn6 (by decide)
  · skip
    have zn6 := z0_t (by omega) zc6
    refine z_iconst (v := nI 0) C (by decide) dX7_endCount_9 ?_
    exact z_iret C hr hlocks hQ (xs u 0 0 (nI 1)) (⟨rfl, rfl⟩) (fun _ _ => rfl) dX7_endCount_10

set_option maxHeartbeats 4000000 in
set_option maxRecDepth 100000 in
theorem c_X7_end (l : Launch) (D : va_G) (ad : Nat → Nat) (cI cL cB : ClassId) (hI : gI 12 ad) (u : xS) (n : Nat) (B : Nat → Nat → Nat) (hB : gB n B) (x : Nat) (hx : x < 64 * 2 ^ n) (hM : mI u n B x) (c : Nat) (S N : Nat → Nat) (hW : mWh u n c S N) (i : Nat) (hi : i < fb_ct (isE S) c) : ∀ sz, Met l yX7_end wsX7_end ({ frames := 3, cells := 0, slots := 0, locals := 64 }) (MP D ad cI cL cB u [.ref (ad 0), .int (nI i)] sz) (va_Qi (fun r_ u' => (∃ k, k < c ∧ isE S k = true ∧ fb_ct (isE S) k = i ∧ r_ = nI (S k % 64)) ∧ u'.1 0 0 = nI 0 ∧ mQ u' n B x (u.1 0 11)) (MB D ad cI cL cB) (gA 12 ad sz)) 0 0 (gA 12 ad sz) := by
  intro sz
  refine z_met (cc := cX7_end) (maxL := 5) (ret := (some .int)) (by decide) rfl (Nat.le_of_ble_eq_true rfl) ?_
  intro pq lq sq mq aq Qq bq hmq cq C hr hml hown hts hlocks hK hX hsz hQ
  subst hsz
  have hT7 : ∀ w ∈ wsX70, w.before aq sq = true := fun w h => hts w ((by decide +kernel : ∀ w ∈ wsX70, w ∈ wsX7_end) w h)
  refine z_sub (L' := [(0, .ref (ad 0)), (1, .int (nI i))]) [0, 1] rfl ?_
  have hW2 := hW
  obtain ⟨hc1, hc2, h11, h12, h13, hS, hNx⟩ := hW
  have hn8 : n ≤ 8 := hB.1
  have hp2 : 2 ^ n ≤ 256 := pn8 hn8
  have hct := fb_ct_le (isE S) c
  refine z_aload_n C dX7_end_0 0 rfl ?_
  refine z_callVi mX_ok C hml hown hts hK hX (c_X7_endCount_e l D ad cI cL cB hI u n B hB x hx hM c S N hW2) (cwV 0 hts gX7_end_X7_endCount rfl rfl rfl (by decide +kernel) ⟨Nat.le_of_ble_eq_true rfl, Nat.le_of_ble_eq_true rfl⟩) (by decide) (ci := 7) rfl rfl rfl (st := []) rfl (Nat.le_of_ble_eq_true rfl) dX7_end_1 ⟨Nat.le_of_ble_eq_true rfl, Nat.le_of_ble_eq_true rfl⟩ (fun r1 u1 h1 => ?_)
  obtain ⟨zr1, zu1⟩ := h1
  subst r1
  subst u1
  refine z_istore_n (L' := [(2, .int (nI (fb_ct (isE S) c))), (0, .ref (ad 0)), (1, .int (nI i))]) C dX7_end_4 (by decide) rfl ?_
  refine z_aload_n C dX7_end_5 1 rfl ?_
  refine z_iload_n C dX7_end_6 2 rfl ?_
  refine z_iload_n C dX7_end_7 0 rfl ?_
  refine z_callVi mX_ok C hml hown hts hK hX (c_X7_asks_vh l D ad cI cL cB hI ((xs u 0 0 (nI 0))) ((xs_j (by decide)).trans h11) ((xs_j (by decide)).trans h12) (fb_ct (isE S) c) (by omega) i hi) (cwV 2 hts gX7_end_X7_asks rfl rfl rfl (by decide +kernel) ⟨Nat.le_of_ble_eq_true rfl, Nat.le_of_ble_eq_true rfl⟩) (by decide) (ci := 7) rfl rfl rfl (st := []) rfl (Nat.le_of_ble_eq_true rfl) dX7_end_8 ⟨Nat.le_of_ble_eq_true rfl, Nat.le_of_ble_eq_true rfl⟩ (fun r8 u8 h8 => ?_)
  obtain ⟨zr8, zu8⟩ := h8
  subst r8
  subst u8
  refine z_if_ne (tgt := 16) C dX7_end_11 (by decide) (fun zc11 => ?_) (fun zc11 => ?_)
  · skip
    have zn11 := z0_f zc11
    refine z_iload_n C dX7_end_16 2 rfl ?_
    refine z_istore_n (L' := [(3, .int (nI i)), (2, .int (nI (fb_ct (isE S) c))), (0, .ref (ad 0)), (1, .int (nI i))]) C dX7_end_17 (by decide) rfl ?_
    refine z_iconst (v := nI 0) C (by decide) dX7_end_18 ?_
    refine z_istore (L' := [(4, .int (nI 0)), (3, .int (nI i)), (2, .int (nI (fb_ct (isE S) c))), (0, .ref (ad 0)), (1, .int (nI i))]) C dX7_end_19 (by decide) rfl ?_
    have loop21 : ∀ (d21 : Nat) (k : Nat), c - k < d21 → (k < c) → (fb_ct (isE S) k ≤ i) → ZZ pq l lq { frames := 3, cells := 0, slots := 0, locals := 64 } sq mq aq bq hmq cq D vwCl 12 ad 5 0 0 Qq (mF ad cI cL cB ((xs (xs u 0 0 (nI 0)) 0 0 (nI 0)))) [(0, .ref (ad 0)), (1, .int (nI i)), (3, .int (nI (i - fb_ct (isE S) k))), (4, .int (nI k))] 21 [] := by
      intro d21
      induction d21 with
      | zero => intro k hz; exact absurd hz (Nat.not_lt_zero _)
      | succ d21 ih21 =>
        intro k hz21 hk hle
        have hsk := hS k hk
        have hmk : mf (S k) < 16384 := mf_lt (by omega)
        refine z_aload_n C dX7_end_21 0 rfl ?_
        refine z_iload C dX7_end_22 3 rfl ?_
        refine z_callVi mX_ok C hml hown hts hK hX (c_X7_isEnd l D ad cI cL cB hI ((xs (xs u 0 0 (nI 0)) 0 0 (nI 0))) k (by omega) (S k) (by omega) ((xs_c (by decide) _).trans ((xs_c (by decide) _).trans hsk.1))) (cwV 1 hts gX7_end_X7_isEnd rfl rfl rfl (by decide +kernel) ⟨Nat.le_of_ble_eq_true rfl, Nat.le_of_ble_eq_true rfl⟩) (by decide) (ci := 7) rfl rfl rfl (st := []) rfl (Nat.le_of_ble_eq_true rfl) dX7_end_24 ⟨Nat.le_of_ble_eq_true rfl, Nat.le_of_ble_eq_true rfl⟩ (fun r24 u24 h24 => ?_)
        obtain ⟨zr24, zu24⟩ := h24
        subst r24
        subst u24
        refine z_if_eq (tgt := 34) C dX7_end_27 (by decide) (fun zc27 => ?_) (fun zc27 => ?_)
        · skip
          have hz := z1f zc27
          have hs1 : fb_ct (isE S) (k + 1) = fb_ct (isE S) k := by rw [fb_ct_succ, if_neg (fun z => hz (isE_s.mp z))]; rfl
          refine z_iload_n C dX7_end_34 2 rfl ?_
          refine z_aload_n C dX7_end_35 0 rfl ?_
          refine z_iload C dX7_end_36 3 rfl ?_
          refine z_callVi mX_ok C hml hown hts hK hX (c_X7_isEnd l D ad cI cL cB hI ((xs (xs u 0 0 (nI 0)) 0 0 (nI 0))) k (by omega) (S k) (by omega) ((xs_c (by decide) _).trans ((xs_c (by decide) _).trans hsk.1))) (cwV 1 hts gX7_end_X7_isEnd rfl rfl rfl (by decide +kernel) ⟨Nat.le_of_ble_eq_true rfl, Nat.le_of_ble_eq_true rfl⟩) (by decide) (ci := 7) rfl rfl rfl (st := [.int (nI (i - fb_ct (isE S) k))]) rfl (Nat.le_of_ble_eq_true rfl) dX7_end_38 ⟨Nat.le_of_ble_eq_true rfl, Nat.le_of_ble_eq_true rfl⟩ (fun r38 u38 h38 => ?_)
          obtain ⟨zr38, zu38⟩ := h38
          subst r38
          subst u38
          refine z_if_eq (tgt := 48) C dX7_end_41 (by decide) (fun zc41 => ?_) (fun zc41 => ?_)
          · skip
            refine z_iconst (v := nI 0) C (by decide) dX7_end_48 ?_
            refine z_isub C dX7_end_49 ?_
            refine z_topi (y := nI (i - fb_ct (isE S) (k + 1))) ((pk_sub (Nat.zero_le _)).trans (by rw [hs1]; rfl)) ?_
            refine z_istore_n (L' := [(3, .int (nI (i - fb_ct (isE S) (k + 1)))), (0, .ref (ad 0)), (1, .int (nI i)), (4, .int (nI k))]) C dX7_end_50 (by decide) rfl ?_
            refine z_iinc (L' := [(4, .int (nI (k + 1))), (3, .int (nI (i - fb_ct (isE S) (k + 1)))), (0, .ref (ad 0)), (1, .int (nI i))]) C dX7_end_51 3 rfl (nI_1 k) (by decide) rfl ?_
            refine z_goto (tgt := 21) C dX7_end_54 (by decide) ?_
            refine z_sub (L' := [(0, .ref (ad 0)), (1, .int (nI i)), (3, .int (nI (i - fb_ct (isE S) (k + 1)))), (4, .int (nI (k + 1)))]) [2, 3, 1, 0] rfl ?_
            exact ih21 (k + 1) (by omega) (en_lt hk hi (by omega)) (by omega)
          · skip
            exact False.elim (hz (z1t zc41))
        · skip
          have hz := z1t zc27
          have hs1 : fb_ct (isE S) (k + 1) = fb_ct (isE S) k + 1 := by rw [fb_ct_succ, if_pos (isE_s.mpr hz)]
          refine z_iload_n C dX7_end_30 2 rfl ?_
          refine z_if_le (tgt := 57) C dX7_end_31 (by decide) (fun zc31 => ?_) (fun zc31 => ?_)
          · skip
            have zn31 := zle0_t (by omega) zc31
            refine z_aload_n C dX7_end_57 0 rfl ?_
            refine z_get (q := 0) C (T := TX7) (N := 18) (ci := 7) (own := RX7) (index := 32) (v := .ref (ad 8)) hT7 hown hK (by decide) rfl rfl 14 (by decide) (hts (.fieldLink RX7 32 "TriggerAnalyzerModel" "all" "[I") (by decide +kernel)) (fun _ h9 => h9) rfl dX7_end_58 ?_
            refine z_iload C dX7_end_61 3 rfl ?_
            refine z_iald (q := 8) (len := 1000) (k := k) C hK (by decide) rfl 0 rfl (rfl) (by omega) (by decide) dX7_end_63 ?_
            refine z_topi (y := nI (mf (S k))) (((xs_c (by decide) _).trans ((xs_c (by decide) _).trans hsk.1))) ?_
            refine z_bipush (v := nI 8) C (by decide) dX7_end_64 ?_
            refine z_ishr C dX7_end_66 ?_
            refine z_topi (y := nI (S k % 64)) (((zi_shr8 (by omega)).trans (by rw [mf_div (by omega)]))) ?_
            exact z_iret C hr hlocks hQ ((xs (xs u 0 0 (nI 0)) 0 0 (nI 0))) (⟨⟨k, hk, isE_s.mpr hz, by omega, rfl⟩, xs_s _ _ _ _, mQ_2 hM _ _⟩) (fun _ _ => rfl) dX7_end_67
          · skip
            have zn31 := zle0_f (by omega) zc31
            refine z_iload_n C dX7_end_34 2 rfl ?_
            refine z_aload_n C dX7_end_35 0 rfl ?_
            refine z_iload C dX7_end_36 3 rfl ?_
            refine z_callVi mX_ok C hml hown hts hK hX (c_X7_isEnd l D ad cI cL cB hI ((xs (xs u 0 0 (nI 0)) 0 0 (nI 0))) k (by omega) (S k) (by omega) ((xs_c (by decide) _).trans ((xs_c (by decide) _).trans hsk.1))) (cwV 1 hts gX7_end_X7_isEnd rfl rfl rfl (by decide +kernel) ⟨Nat.le_of_ble_eq_true rfl, Nat.le_of_ble_eq_true rfl⟩) (by decide) (ci := 7) rfl rfl rfl (st := [.int (nI (i - fb_ct (isE S) k))]) rfl (Nat.le_of_ble_eq_true rfl) dX7_end_38 ⟨Nat.le_of_ble_eq_true rfl, Nat.le_of_ble_eq_true rfl⟩ (fun r38 u38 h38 => ?_)
            obtain ⟨zr38, zu38⟩ := h38
            subst r38
            subst u38
            refine z_if_eq (tgt := 48) C dX7_end_41 (by decide) (fun zc41 => ?_) (fun zc41 => ?_)
            · skip
              exact False.elim ((z1f zc41) hz)
            · skip
              refine z_iconst (v := nI 1) C (by decide) dX7_end_44 ?_
              refine z_goto (tgt := 49) C dX7_end_45 (by decide) ?_
              refine z_isub C dX7_end_49 ?_
              refine z_topi (y := nI (i - fb_ct (isE S) (k + 1))) ((pk_sub (by omega)).trans (by rw [hs1, Nat.sub_sub])) ?_
              refine z_istore_n (L' := [(3, .int (nI (i - fb_ct (isE S) (k + 1)))), (0, .ref (ad 0)), (1, .int (nI i)), (4, .int (nI k))]) C dX7_end_50 (by decide) rfl ?_
              refine z_iinc (L' := [(4, .int (nI (k + 1))), (3, .int (nI (i - fb_ct (isE S) (k + 1)))), (0, .ref (ad 0)), (1, .int (nI i))]) C dX7_end_51 3 rfl (nI_1 k) (by decide) rfl ?_
              refine z_goto (tgt := 21) C dX7_end_54 (by decide) ?_
              refine z_sub (L' := [(0, .ref (ad 0)), (1, .int (nI i)), (3, .int (nI (i - fb_ct (isE S) (k + 1)))), (4, .int (nI (k + 1)))]) [2, 3, 1, 0] rfl ?_
              exact ih21 (k + 1) (by omega) (en_lt hk hi (by omega)) (by omega)
    refine z_sub (L' := [(0, .ref (ad 0)), (1, .int (nI i)), (3, .int (nI i)), (4, .int (nI 0))]) [3, 4, 1, 0] rfl ?_
    exact loop21 (c + 1) 0 (by omega) (by omega) (Nat.zero_le _)
  · skip
    have zn11 := z0_t (by omega) zc11
    exact absurd zn11 (by decide)

set_option maxHeartbeats 4000000 in
set_option maxRecDepth 100000 in
theorem c_X7_end_x1 (l : Launch) (D : va_G) (ad : Nat → Nat) (cI cL cB : ClassId) (hI : gI 12 ad) (u : xS) (n : Nat) (B : Nat → Nat → Nat) (hB : gB n B) (x : Nat) (hx : x < 64 * 2 ^ n) (hM : mI u n B x) (hN : mNo u) (x1 : Int32) : ∀ sz, Met l yX7_end wsX7_end ({ frames := 3, cells := 0, slots := 0, locals := 64 }) (MP D ad cI cL cB u [.ref (ad 0), .int (x1)] sz) (va_Qi (fun r_ u' => r_ = nI 0 ∧ u'.1 0 0 = nI 1 ∧ mQ u' n B x (u.1 0 11)) (MB D ad cI cL cB) (gA 12 ad sz)) 0 0 (gA 12 ad sz) := by
  intro sz
  refine z_met (cc := cX7_end) (maxL := 5) (ret := (some .int)) (by decide) rfl (Nat.le_of_ble_eq_true rfl) ?_
  intro pq lq sq mq aq Qq bq hmq cq C hr hml hown hts hlocks hK hX hsz hQ
  subst hsz
  refine z_sub (L' := [(0, .ref (ad 0)), (1, .int (x1))]) [0, 1] rfl ?_
  refine z_aload_n C dX7_end_0 0 rfl ?_
  refine z_callVi mX_ok C hml hown hts hK hX (c_X7_endCount_en l D ad cI cL cB hI u n B hB x hx hM hN) (cwV 0 hts gX7_end_X7_endCount rfl rfl rfl (by decide +kernel) ⟨Nat.le_of_ble_eq_true rfl, Nat.le_of_ble_eq_true rfl⟩) (by decide) (ci := 7) rfl rfl rfl (st := []) rfl (Nat.le_of_ble_eq_true rfl) dX7_end_1 ⟨Nat.le_of_ble_eq_true rfl, Nat.le_of_ble_eq_true rfl⟩ (fun r1 u1 h1 => ?_)
  obtain ⟨zr1, zu1⟩ := h1
  subst r1
  subst u1
  refine z_istore_n (L' := [(2, .int (nI 0)), (0, .ref (ad 0)), (1, .int (x1))]) C dX7_end_4 (by decide) rfl ?_
  refine z_aload_n C dX7_end_5 1 rfl ?_
  refine z_iload_n C dX7_end_6 2 rfl ?_
  refine z_iload_n C dX7_end_7 0 rfl ?_
  refine z_callVi mX_ok C hml hown hts hK hX (c_X7_asks_w l D ad cI cL cB hI ((xs u 0 0 (nI 1))) (mNo_th hN _) x1 (nI 0)) (cwV 2 hts gX7_end_X7_asks rfl rfl rfl (by decide +kernel) ⟨Nat.le_of_ble_eq_true rfl, Nat.le_of_ble_eq_true rfl⟩) (by decide) (ci := 7) rfl rfl rfl (st := []) rfl (Nat.le_of_ble_eq_true rfl) dX7_end_8 ⟨Nat.le_of_ble_eq_true rfl, Nat.le_of_ble_eq_true rfl⟩ (fun r8 u8 h8 => ?_)
  obtain ⟨zr8, zu8⟩ := h8
  subst r8
  subst u8
  refine z_if_ne (tgt := 16) C dX7_end_11 (by decide) (fun zc11 => ?_) (fun zc11 => ?_)
  · skip
    have zn11 := z0_f zc11
    exact absurd zn11 (by decide)
  · skip
    have zn11 := z0_t (by omega) zc11
    refine z_iconst (v := nI 0) C (by decide) dX7_end_14 ?_
    exact z_iret C hr hlocks hQ (xs ((xs u 0 0 (nI 1))) 0 0 (nI 1)) (⟨rfl, xs_s _ _ _ _, mQ_2 hM _ _⟩) (fun _ _ => rfl) dX7_end_15

set_option maxHeartbeats 4000000 in
set_option maxRecDepth 100000 in
theorem c_X7_end_x2 (l : Launch) (D : va_G) (ad : Nat → Nat) (cI cL cB : ClassId) (hI : gI 12 ad) (u : xS) (n : Nat) (B : Nat → Nat → Nat) (hB : gB n B) (x : Nat) (hx : x < 64 * 2 ^ n) (hM : mI u n B x) (c : Nat) (S N : Nat → Nat) (hW : mWh u n c S N) (x1 : Int32) (hf : bad (fb_ct (isE S) c) x1) : ∀ sz, Met l yX7_end wsX7_end ({ frames := 3, cells := 0, slots := 0, locals := 64 }) (MP D ad cI cL cB u [.ref (ad 0), .int (x1)] sz) (va_Qi (fun r_ u' => r_ = nI 0 ∧ u'.1 0 0 = nI 2 ∧ mQ u' n B x (u.1 0 11)) (MB D ad cI cL cB) (gA 12 ad sz)) 0 0 (gA 12 ad sz) := by
  intro sz
  refine z_met (cc := cX7_end) (maxL := 5) (ret := (some .int)) (by decide) rfl (Nat.le_of_ble_eq_true rfl) ?_
  intro pq lq sq mq aq Qq bq hmq cq C hr hml hown hts hlocks hK hX hsz hQ
  subst hsz
  refine z_sub (L' := [(0, .ref (ad 0)), (1, .int (x1))]) [0, 1] rfl ?_
  have hW2 := hW
  obtain ⟨hc1, hc2, h11, h12, h13, hS, hNx⟩ := hW
  have hn8 : n ≤ 8 := hB.1
  have hp2 : 2 ^ n ≤ 256 := pn8 hn8
  have hct := fb_ct_le (isE S) c
  refine z_aload_n C dX7_end_0 0 rfl ?_
  refine z_callVi mX_ok C hml hown hts hK hX (c_X7_endCount_e l D ad cI cL cB hI u n B hB x hx hM c S N hW2) (cwV 0 hts gX7_end_X7_endCount rfl rfl rfl (by decide +kernel) ⟨Nat.le_of_ble_eq_true rfl, Nat.le_of_ble_eq_true rfl⟩) (by decide) (ci := 7) rfl rfl rfl (st := []) rfl (Nat.le_of_ble_eq_true rfl) dX7_end_1 ⟨Nat.le_of_ble_eq_true rfl, Nat.le_of_ble_eq_true rfl⟩ (fun r1 u1 h1 => ?_)
  obtain ⟨zr1, zu1⟩ := h1
  subst r1
  subst u1
  refine z_istore_n (L' := [(2, .int (nI (fb_ct (isE S) c))), (0, .ref (ad 0)), (1, .int (x1))]) C dX7_end_4 (by decide) rfl ?_
  refine z_aload_n C dX7_end_5 1 rfl ?_
  refine z_iload_n C dX7_end_6 2 rfl ?_
  refine z_iload_n C dX7_end_7 0 rfl ?_
  refine z_callVi mX_ok C hml hown hts hK hX (c_X7_asks_x l D ad cI cL cB hI ((xs u 0 0 (nI 0))) ((xs_j (by decide)).trans h11) ((xs_j (by decide)).trans h12) (fb_ct (isE S) c) (by omega) x1 hf) (cwV 2 hts gX7_end_X7_asks rfl rfl rfl (by decide +kernel) ⟨Nat.le_of_ble_eq_true rfl, Nat.le_of_ble_eq_true rfl⟩) (by decide) (ci := 7) rfl rfl rfl (st := []) rfl (Nat.le_of_ble_eq_true rfl) dX7_end_8 ⟨Nat.le_of_ble_eq_true rfl, Nat.le_of_ble_eq_true rfl⟩ (fun r8 u8 h8 => ?_)
  obtain ⟨zr8, zu8⟩ := h8
  subst r8
  subst u8
  refine z_if_ne (tgt := 16) C dX7_end_11 (by decide) (fun zc11 => ?_) (fun zc11 => ?_)
  · skip
    have zn11 := z0_f zc11
    exact absurd zn11 (by decide)
  · skip
    have zn11 := z0_t (by omega) zc11
    refine z_iconst (v := nI 0) C (by decide) dX7_end_14 ?_
    exact z_iret C hr hlocks hQ (xs ((xs u 0 0 (nI 0))) 0 0 (nI 2)) (⟨rfl, xs_s _ _ _ _, mQ_2 hM _ _⟩) (fun _ _ => rfl) dX7_end_15

set_option maxHeartbeats 4000000 in
set_option maxRecDepth 100000 in
theorem c_X7_isPlayed (l : Launch) (D : va_G) (ad : Nat → Nat) (cI cL cB : ClassId) (hI : gI 12 ad) (u : xS) (n : Nat) (B : Nat → Nat → Nat) (hB : gB n B) (x : Nat) (hx : x < 64 * 2 ^ n) (hM : mI u n B x) (c : Nat) (S N : Nat → Nat) (hW : mWh u n c S N) (i : Nat) (hi : i < n) : ∀ sz, Met l yX7_isPlayed wsX7_isPlayed ({ frames := 2, cells := 0, slots := 0, locals := 42 }) (MP D ad cI cL cB u [.ref (ad 0), .int (nI i)] sz) (va_Qi (fun r_ u' => r_ = nI (plb (pyd N i) c) ∧ u'.1 0 0 = nI 0 ∧ mQ u' n B x (u.1 0 11)) (MB D ad cI cL cB) (gA 12 ad sz)) 0 0 (gA 12 ad sz) := by
  intro sz
  refine z_met (cc := cX7_isPlayed) (maxL := 4) (ret := (some .boolean)) (by decide) rfl (Nat.le_of_ble_eq_true rfl) ?_
  intro pq lq sq mq aq Qq bq hmq cq C hr hml hown hts hlocks hK hX hsz hQ
  subst hsz
  have hT7 : ∀ w ∈ wsX70, w.before aq sq = true := fun w h => hts w ((by decide +kernel : ∀ w ∈ wsX70, w ∈ wsX7_isPlayed) w h)
  refine z_sub (L' := [(0, .ref (ad 0)), (1, .int (nI i))]) [0, 1] rfl ?_
  obtain ⟨hc1, hc2, h11, h12, h13, hS, hNx⟩ := hW
  have hn8 : n ≤ 8 := hB.1
  have hp2 : 2 ^ n ≤ 256 := pn8 hn8
  refine z_aload_n C dX7_isPlayed_0 0 rfl ?_
  refine z_iload_n C dX7_isPlayed_1 1 rfl ?_
  refine z_aload_n C dX7_isPlayed_2 0 rfl ?_
  refine z_get (q := 0) C (T := TX7) (N := 18) (ci := 7) (own := RX7) (index := 49) (v := .int (u.1 0 1)) hT7 hown hK (by decide) rfl rfl 1 (by decide) (hts (.fieldLink RX7 49 "TriggerAnalyzerModel" "rules" "I") (by decide +kernel)) (fun _ h9 => h9) rfl dX7_isPlayed_3 ?_
  refine z_topi (y := nI n) (mR_n hM.1) ?_
  refine z_callVi mX_ok C hml hown hts hK hX (c_X7_asks_vh l D ad cI cL cB hI u h11 h12 n (by omega) i hi) (cwV 2 hts gX7_isPlayed_X7_asks rfl rfl rfl (by decide +kernel) ⟨Nat.le_of_ble_eq_true rfl, Nat.le_of_ble_eq_true rfl⟩) (by decide) (ci := 7) rfl rfl rfl (st := []) rfl (Nat.le_of_ble_eq_true rfl) dX7_isPlayed_6 ⟨Nat.le_of_ble_eq_true rfl, Nat.le_of_ble_eq_true rfl⟩ (fun r6 u6 h6 => ?_)
  obtain ⟨zr6, zu6⟩ := h6
  subst r6
  subst u6
  refine z_if_ne (tgt := 14) C dX7_isPlayed_9 (by decide) (fun zc9 => ?_) (fun zc9 => ?_)
  · skip
    have zn9 := z0_f zc9
    refine z_iconst (v := nI 0) C (by decide) dX7_isPlayed_14 ?_
    refine z_istore_n (L' := [(2, .int (nI 0)), (0, .ref (ad 0)), (1, .int (nI i))]) C dX7_isPlayed_15 (by decide) rfl ?_
    refine z_iconst (v := nI 0) C (by decide) dX7_isPlayed_16 ?_
    refine z_istore_n (L' := [(3, .int (nI 0)), (2, .int (nI 0)), (0, .ref (ad 0)), (1, .int (nI i))]) C dX7_isPlayed_17 (by decide) rfl ?_
    have loop18 : ∀ (d18 : Nat) (k b : Nat), c - k < d18 → (k ≤ c) → (b = plb (pyd N i) k) → ZZ pq l lq { frames := 2, cells := 0, slots := 0, locals := 42 } sq mq aq bq hmq cq D vwCl 12 ad 4 0 0 Qq (mF ad cI cL cB ((xs u 0 0 (nI 0)))) [(0, .ref (ad 0)), (1, .int (nI i)), (2, .int (nI b)), (3, .int (nI k))] 18 [] := by
      intro d18
      induction d18 with
      | zero => intro k b hz; exact absurd hz (Nat.not_lt_zero _)
      | succ d18 ih18 =>
        intro k b hz18 hk hb
        have hb1 : b ≤ 1 := by rw [hb]; exact plb_le _ _
        refine z_iload_n C dX7_isPlayed_18 3 rfl ?_
        refine z_aload_n C dX7_isPlayed_19 0 rfl ?_
        refine z_get (q := 0) C (T := TX7) (N := 18) (ci := 7) (own := RX7) (index := 113) (v := .int ((xs u 0 0 (nI 0)).1 0 13)) hT7 hown hK (by decide) rfl rfl 13 (by decide) (hts (.fieldLink RX7 113 "TriggerAnalyzerModel" "situations" "I") (by decide +kernel)) (fun _ h9 => h9) rfl dX7_isPlayed_20 ?_
        refine z_topi (y := nI c) (h13) ?_
        refine z_icmp_ge (tgt := 57) C dX7_isPlayed_23 (by decide) (fun zc23 => ?_) (fun zc23 => ?_)
        · skip
          have zn23 := zge_t (a := k) (b := c) (by omega) (by omega) zc23
          refine z_iload_n C dX7_isPlayed_57 2 rfl ?_
          exact z_zret C hr hlocks (zn_bool hb1) hQ ((xs u 0 0 (nI 0))) (⟨by rw [hb, show k = c by omega], xs_s _ _ _ _, mQ_1 hM _⟩) (fun _ _ => rfl) dX7_isPlayed_58
        · skip
          have zn23 := zge_f (a := k) (b := c) (by omega) (by omega) zc23
          refine z_iload_n C dX7_isPlayed_26 2 rfl ?_
          refine z_if_ne (tgt := 45) C dX7_isPlayed_27 (by decide) (fun zc27 => ?_) (fun zc27 => ?_)
          · skip
            have zn27 := z0_f zc27
            refine z_iconst (v := nI 1) C (by decide) dX7_isPlayed_45 ?_
            refine z_goto (tgt := 50) C dX7_isPlayed_46 (by decide) ?_
            refine z_istore_n (L' := [(2, .int (nI 1)), (0, .ref (ad 0)), (1, .int (nI i)), (3, .int (nI k))]) C dX7_isPlayed_50 (by decide) rfl ?_
            refine z_iinc (L' := [(3, .int (nI (k + 1))), (2, .int (nI 1)), (0, .ref (ad 0)), (1, .int (nI i))]) C dX7_isPlayed_51 3 rfl (nI_1 k) (by decide) rfl ?_
            refine z_goto (tgt := 18) C dX7_isPlayed_54 (by decide) ?_
            refine z_sub (L' := [(0, .ref (ad 0)), (1, .int (nI i)), (2, .int (nI 1)), (3, .int (nI (k + 1)))]) [2, 3, 1, 0] rfl ?_
            exact ih18 (k + 1) 1 (by omega) (by omega) (plb_s (by rw [← hb]; exact zn27))
          · skip
            have zn27 := z0_t (by omega) zc27
            refine z_aload_n C dX7_isPlayed_30 0 rfl ?_
            refine z_get (q := 0) C (T := TX7) (N := 18) (ci := 7) (own := RX7) (index := 35) (v := .ref (ad 9)) hT7 hown hK (by decide) rfl rfl 15 (by decide) (hts (.fieldLink RX7 35 "TriggerAnalyzerModel" "next" "[I") (by decide +kernel)) (fun _ h9 => h9) rfl dX7_isPlayed_31 ?_
            refine z_bipush (v := nI 8) C (by decide) dX7_isPlayed_34 ?_
            refine z_iload_n C dX7_isPlayed_36 3 rfl ?_
            refine z_imul C dX7_isPlayed_37 ?_
            refine z_topi (y := nI (8 * k)) (pk_mul 8 k) ?_
            refine z_iload_n C dX7_isPlayed_38 1 rfl ?_
            refine z_iadd C dX7_isPlayed_39 ?_
            refine z_topi (y := nI ((8 * k) + i)) (nI_add (8 * k) i) ?_
            refine z_iald (q := 9) (len := 8000) (k := (8 * k) + i) C hK (by decide) rfl 0 rfl (rfl) (by omega) (by decide) dX7_isPlayed_40 ?_
            refine z_topi (y := nxI (N (8 * k + i))) ((hNx _ (by omega)).1) ?_
            refine z_iconst (v := (-1)) C (by decide) dX7_isPlayed_41 ?_
            refine z_icmp_eq (tgt := 49) C dX7_isPlayed_42 (by decide) (fun zc42 => ?_) (fun zc42 => ?_)
            · skip
              refine z_iconst (v := nI 0) C (by decide) dX7_isPlayed_49 ?_
              refine z_istore_n (L' := [(2, .int (nI 0)), (0, .ref (ad 0)), (1, .int (nI i)), (3, .int (nI k))]) C dX7_isPlayed_50 (by decide) rfl ?_
              refine z_iinc (L' := [(3, .int (nI (k + 1))), (2, .int (nI 0)), (0, .ref (ad 0)), (1, .int (nI i))]) C dX7_isPlayed_51 3 rfl (nI_1 k) (by decide) rfl ?_
              refine z_goto (tgt := 18) C dX7_isPlayed_54 (by decide) ?_
              refine z_sub (L' := [(0, .ref (ad 0)), (1, .int (nI i)), (2, .int (nI 0)), (3, .int (nI (k + 1)))]) [2, 3, 1, 0] rfl ?_
              exact ih18 (k + 1) 0 (by omega) (by omega) (by rw [← plb_f (decide_eq_false (fun z => z (nx_t (by have := (hNx (8 * k + i) (by omega)).2; omega) zc42))), ← hb, zn27])
            · skip
              refine z_iconst (v := nI 1) C (by decide) dX7_isPlayed_45 ?_
              refine z_goto (tgt := 50) C dX7_isPlayed_46 (by decide) ?_
              refine z_istore_n (L' := [(2, .int (nI 1)), (0, .ref (ad 0)), (1, .int (nI i)), (3, .int (nI k))]) C dX7_isPlayed_50 (by decide) rfl ?_
              refine z_iinc (L' := [(3, .int (nI (k + 1))), (2, .int (nI 1)), (0, .ref (ad 0)), (1, .int (nI i))]) C dX7_isPlayed_51 3 rfl (nI_1 k) (by decide) rfl ?_
              refine z_goto (tgt := 18) C dX7_isPlayed_54 (by decide) ?_
              refine z_sub (L' := [(0, .ref (ad 0)), (1, .int (nI i)), (2, .int (nI 1)), (3, .int (nI (k + 1)))]) [2, 3, 1, 0] rfl ?_
              exact ih18 (k + 1) 1 (by omega) (by omega) (plb_t (decide_eq_true (nx_f zc42)))
    refine z_sub (L' := [(0, .ref (ad 0)), (1, .int (nI i)), (2, .int (nI 0)), (3, .int (nI 0))]) [2, 3, 1, 0] rfl ?_
    exact loop18 (c + 1) 0 0 (by omega) (by omega) rfl
  · skip
    have zn9 := z0_t (by omega) zc9
    exact absurd zn9 (by decide)

set_option maxHeartbeats 4000000 in
set_option maxRecDepth 100000 in
theorem c_X7_isPlayed_x1 (l : Launch) (D : va_G) (ad : Nat → Nat) (cI cL cB : ClassId) (hI : gI 12 ad) (u : xS) (n : Nat) (B : Nat → Nat → Nat) (hB : gB n B) (x : Nat) (hx : x < 64 * 2 ^ n) (hM : mI u n B x) (hN : mNo u) (x1 : Int32) : ∀ sz, Met l yX7_isPlayed wsX7_isPlayed ({ frames := 2, cells := 0, slots := 0, locals := 42 }) (MP D ad cI cL cB u [.ref (ad 0), .int (x1)] sz) (va_Qi (fun r_ u' => r_ = nI 0 ∧ u'.1 0 0 = nI 1 ∧ mQ u' n B x (u.1 0 11)) (MB D ad cI cL cB) (gA 12 ad sz)) 0 0 (gA 12 ad sz) := by
  intro sz
  refine z_met (cc := cX7_isPlayed) (maxL := 4) (ret := (some .boolean)) (by decide) rfl (Nat.le_of_ble_eq_true rfl) ?_
  intro pq lq sq mq aq Qq bq hmq cq C hr hml hown hts hlocks hK hX hsz hQ
  subst hsz
  have hT7 : ∀ w ∈ wsX70, w.before aq sq = true := fun w h => hts w ((by decide +kernel : ∀ w ∈ wsX70, w ∈ wsX7_isPlayed) w h)
  refine z_sub (L' := [(0, .ref (ad 0)), (1, .int (x1))]) [0, 1] rfl ?_
  refine z_aload_n C dX7_isPlayed_0 0 rfl ?_
  refine z_iload_n C dX7_isPlayed_1 1 rfl ?_
  refine z_aload_n C dX7_isPlayed_2 0 rfl ?_
  refine z_get (q := 0) C (T := TX7) (N := 18) (ci := 7) (own := RX7) (index := 49) (v := .int (u.1 0 1)) hT7 hown hK (by decide) rfl rfl 1 (by decide) (hts (.fieldLink RX7 49 "TriggerAnalyzerModel" "rules" "I") (by decide +kernel)) (fun _ h9 => h9) rfl dX7_isPlayed_3 ?_
  refine z_callVi mX_ok C hml hown hts hK hX (c_X7_asks_w l D ad cI cL cB hI u hN x1 (u.1 0 1)) (cwV 2 hts gX7_isPlayed_X7_asks rfl rfl rfl (by decide +kernel) ⟨Nat.le_of_ble_eq_true rfl, Nat.le_of_ble_eq_true rfl⟩) (by decide) (ci := 7) rfl rfl rfl (st := []) rfl (Nat.le_of_ble_eq_true rfl) dX7_isPlayed_6 ⟨Nat.le_of_ble_eq_true rfl, Nat.le_of_ble_eq_true rfl⟩ (fun r6 u6 h6 => ?_)
  obtain ⟨zr6, zu6⟩ := h6
  subst r6
  subst u6
  refine z_if_ne (tgt := 14) C dX7_isPlayed_9 (by decide) (fun zc9 => ?_) (fun zc9 => ?_)
  · skip
    have zn9 := z0_f zc9
    exact absurd zn9 (by decide)
  · skip
    have zn9 := z0_t (by omega) zc9
    refine z_iconst (v := nI 0) C (by decide) dX7_isPlayed_12 ?_
    exact z_zret C hr hlocks rfl hQ (xs u 0 0 (nI 1)) (⟨rfl, xs_s _ _ _ _, mQ_1 hM _⟩) (fun _ _ => rfl) dX7_isPlayed_13

set_option maxHeartbeats 4000000 in
set_option maxRecDepth 100000 in
theorem c_X7_isPlayed_x2 (l : Launch) (D : va_G) (ad : Nat → Nat) (cI cL cB : ClassId) (hI : gI 12 ad) (u : xS) (n : Nat) (B : Nat → Nat → Nat) (hB : gB n B) (x : Nat) (hx : x < 64 * 2 ^ n) (hM : mI u n B x) (c : Nat) (S N : Nat → Nat) (hW : mWh u n c S N) (x1 : Int32) (hf : bad n x1) : ∀ sz, Met l yX7_isPlayed wsX7_isPlayed ({ frames := 2, cells := 0, slots := 0, locals := 42 }) (MP D ad cI cL cB u [.ref (ad 0), .int (x1)] sz) (va_Qi (fun r_ u' => r_ = nI 0 ∧ u'.1 0 0 = nI 2 ∧ mQ u' n B x (u.1 0 11)) (MB D ad cI cL cB) (gA 12 ad sz)) 0 0 (gA 12 ad sz) := by
  intro sz
  refine z_met (cc := cX7_isPlayed) (maxL := 4) (ret := (some .boolean)) (by decide) rfl (Nat.le_of_ble_eq_true rfl) ?_
  intro pq lq sq mq aq Qq bq hmq cq C hr hml hown hts hlocks hK hX hsz hQ
  subst hsz
  have hT7 : ∀ w ∈ wsX70, w.before aq sq = true := fun w h => hts w ((by decide +kernel : ∀ w ∈ wsX70, w ∈ wsX7_isPlayed) w h)
  refine z_sub (L' := [(0, .ref (ad 0)), (1, .int (x1))]) [0, 1] rfl ?_
  obtain ⟨hc1, hc2, h11, h12, h13, hS, hNx⟩ := hW
  have hn8 : n ≤ 8 := hB.1
  have hp2 : 2 ^ n ≤ 256 := pn8 hn8
  refine z_aload_n C dX7_isPlayed_0 0 rfl ?_
  refine z_iload_n C dX7_isPlayed_1 1 rfl ?_
  refine z_aload_n C dX7_isPlayed_2 0 rfl ?_
  refine z_get (q := 0) C (T := TX7) (N := 18) (ci := 7) (own := RX7) (index := 49) (v := .int (u.1 0 1)) hT7 hown hK (by decide) rfl rfl 1 (by decide) (hts (.fieldLink RX7 49 "TriggerAnalyzerModel" "rules" "I") (by decide +kernel)) (fun _ h9 => h9) rfl dX7_isPlayed_3 ?_
  refine z_topi (y := nI n) (mR_n hM.1) ?_
  refine z_callVi mX_ok C hml hown hts hK hX (c_X7_asks_x l D ad cI cL cB hI u h11 h12 n (by omega) x1 hf) (cwV 2 hts gX7_isPlayed_X7_asks rfl rfl rfl (by decide +kernel) ⟨Nat.le_of_ble_eq_true rfl, Nat.le_of_ble_eq_true rfl⟩) (by decide) (ci := 7) rfl rfl rfl (st := []) rfl (Nat.le_of_ble_eq_true rfl) dX7_isPlayed_6 ⟨Nat.le_of_ble_eq_true rfl, Nat.le_of_ble_eq_true rfl⟩ (fun r6 u6 h6 => ?_)
  obtain ⟨zr6, zu6⟩ := h6
  subst r6
  subst u6
  refine z_if_ne (tgt := 14) C dX7_isPlayed_9 (by decide) (fun zc9 => ?_) (fun zc9 => ?_)
  · skip
    have zn9 := z0_f zc9
    exact absurd zn9 (by decide)
  · skip
    have zn9 := z0_t (by omega) zc9
    refine z_iconst (v := nI 0) C (by decide) dX7_isPlayed_12 ?_
    exact z_zret C hr hlocks rfl hQ (xs u 0 0 (nI 2)) (⟨rfl, xs_s _ _ _ _, mQ_1 hM _⟩) (fun _ _ => rfl) dX7_isPlayed_13

set_option maxHeartbeats 4000000 in
set_option maxRecDepth 100000 in
theorem c_X7_choice (l : Launch) (D : va_G) (ad : Nat → Nat) (cI cL cB : ClassId) (hI : gI 12 ad) (u : xS) (n : Nat) (B : Nat → Nat → Nat) (hB : gB n B) (x : Nat) (hx : x < 64 * 2 ^ n) (hM : mI u n B x) (c : Nat) (S N : Nat → Nat) (hW : mWh u n c S N) : ∀ sz, Met l yX7_choice wsX7_choice ({ frames := 2, cells := 0, slots := 0, locals := 45 }) (MP D ad cI cL cB u [.ref (ad 0)] sz) (va_Qd (fun r_ u' => r_ = FP.ddiv (FP.i2d (nI (fb_ct (two B S) c))) (FP.i2d (nI c)) ∧ u'.1 0 0 = nI 0 ∧ mQ u' n B x (u.1 0 11)) (MB D ad cI cL cB) (gA 12 ad sz)) 0 0 (gA 12 ad sz) := by
  intro sz
  refine z_met (cc := cX7_choice) (maxL := 3) (ret := (some .double)) (by decide) rfl (Nat.le_of_ble_eq_true rfl) ?_
  intro pq lq sq mq aq Qq bq hmq cq C hr hml hown hts hlocks hK hX hsz hQ
  subst hsz
  have hT7 : ∀ w ∈ wsX70, w.before aq sq = true := fun w h => hts w ((by decide +kernel : ∀ w ∈ wsX70, w ∈ wsX7_choice) w h)
  refine z_sub (L' := [(0, .ref (ad 0))]) [0] rfl ?_
  obtain ⟨hc1, hc2, h11, h12, h13, hS, hNx⟩ := hW
  have hn8 : n ≤ 8 := hB.1
  have hp2 : 2 ^ n ≤ 256 := pn8 hn8
  refine z_aload_n C dX7_choice_0 0 rfl ?_
  refine z_iconst (v := nI 0) C (by decide) dX7_choice_1 ?_
  refine z_iconst (v := nI 1) C (by decide) dX7_choice_2 ?_
  refine z_callVi mX_ok C hml hown hts hK hX (c_X7_asks_vh l D ad cI cL cB hI u h11 h12 1 (by decide) 0 (by decide)) (cwV 2 hts gX7_choice_X7_asks rfl rfl rfl (by decide +kernel) ⟨Nat.le_of_ble_eq_true rfl, Nat.le_of_ble_eq_true rfl⟩) (by decide) (ci := 7) rfl rfl rfl (st := []) rfl (Nat.le_of_ble_eq_true rfl) dX7_choice_3 ⟨Nat.le_of_ble_eq_true rfl, Nat.le_of_ble_eq_true rfl⟩ (fun r3 u3 h3 => ?_)
  obtain ⟨zr3, zu3⟩ := h3
  subst r3
  subst u3
  refine z_if_ne (tgt := 11) C dX7_choice_6 (by decide) (fun zc6 => ?_) (fun zc6 => ?_)
  · skip
    have zn6 := z0_f zc6
    refine z_iconst (v := nI 0) C (by decide) dX7_choice_11 ?_
    refine z_istore_n (L' := [(1, .int (nI 0)), (0, .ref (ad 0))]) C dX7_choice_12 (by decide) rfl ?_
    refine z_iconst (v := nI 0) C (by decide) dX7_choice_13 ?_
    refine z_istore_n (L' := [(2, .int (nI 0)), (1, .int (nI 0)), (0, .ref (ad 0))]) C dX7_choice_14 (by decide) rfl ?_
    have loop15 : ∀ (d15 : Nat) (k a : Nat), c - k < d15 → (k ≤ c) → (a = fb_ct (two B S) k) → ZZ pq l lq { frames := 2, cells := 0, slots := 0, locals := 45 } sq mq aq bq hmq cq D vwCl 12 ad 3 0 0 Qq (mF ad cI cL cB ((xs u 0 0 (nI 0)))) [(0, .ref (ad 0)), (1, .int (nI a)), (2, .int (nI k))] 15 [] := by
      intro d15
      induction d15 with
      | zero => intro k a hz; exact absurd hz (Nat.not_lt_zero _)
      | succ d15 ih15 =>
        intro k a hz15 hk ha
        refine z_iload_n C dX7_choice_15 2 rfl ?_
        refine z_aload_n C dX7_choice_16 0 rfl ?_
        refine z_get (q := 0) C (T := TX7) (N := 18) (ci := 7) (own := RX7) (index := 113) (v := .int ((xs u 0 0 (nI 0)).1 0 13)) hT7 hown hK (by decide) rfl rfl 13 (by decide) (hts (.fieldLink RX7 113 "TriggerAnalyzerModel" "situations" "I") (by decide +kernel)) (fun _ h9 => h9) rfl dX7_choice_17 ?_
        refine z_topi (y := nI c) (h13) ?_
        refine z_icmp_ge (tgt := 54) C dX7_choice_20 (by decide) (fun zc20 => ?_) (fun zc20 => ?_)
        · skip
          have zn20 := zge_t (a := k) (b := c) (by omega) (by omega) zc20
          have hac : a = fb_ct (two B S) c := by rw [ha, show k = c by omega]
          have hact := fb_ct_le (two B S) c
          refine z_iload_n C dX7_choice_54 1 rfl ?_
          refine z_i2d C dX7_choice_55 ?_
          refine z_aload_n C dX7_choice_56 0 rfl ?_
          refine z_get (q := 0) C (T := TX7) (N := 18) (ci := 7) (own := RX7) (index := 113) (v := .int ((xs u 0 0 (nI 0)).1 0 13)) hT7 hown hK (by decide) rfl rfl 13 (by decide) (hts (.fieldLink RX7 113 "TriggerAnalyzerModel" "situations" "I") (by decide +kernel)) (fun _ h9 => h9) rfl dX7_choice_57 ?_
          refine z_topi (y := nI c) (h13) ?_
          refine z_i2d C dX7_choice_60 ?_
          refine z_ddiv C (no_nan (d := a) (c := c) (by omega) (by omega) hc2) dX7_choice_61 ?_
          exact z_dret C hr hlocks hQ ((xs u 0 0 (nI 0))) (⟨by rw [hac], xs_s _ _ _ _, mQ_1 hM _⟩) (fun _ _ => rfl) dX7_choice_62
        · skip
          have zn20 := zge_f (a := k) (b := c) (by omega) (by omega) zc20
          refine z_iload_n C dX7_choice_23 1 rfl ?_
          refine z_aload_n C dX7_choice_24 0 rfl ?_
          refine z_aload_n C dX7_choice_25 0 rfl ?_
          refine z_get (q := 0) C (T := TX7) (N := 18) (ci := 7) (own := RX7) (index := 32) (v := .ref (ad 8)) hT7 hown hK (by decide) rfl rfl 14 (by decide) (hts (.fieldLink RX7 32 "TriggerAnalyzerModel" "all" "[I") (by decide +kernel)) (fun _ h9 => h9) rfl dX7_choice_26 ?_
          refine z_iload_n C dX7_choice_29 2 rfl ?_
          refine z_iald (q := 8) (len := 1000) (k := k) C hK (by decide) rfl 0 rfl (rfl) (by omega) (by decide) dX7_choice_30 ?_
          refine z_topi (y := nI (mf (S k))) ((hS k zn20).1) ?_
          refine z_callVi mX_ok C hml hown hts hK hX (c_X7_readyIn l D ad cI cL cB hI ((xs u 0 0 (nI 0))) n B (mR_s hM.1 (Or.inl ⟨rfl, by decide⟩)) hB (S k) (hS k zn20).2) (cwV 1 hts gX7_choice_X7_readyIn rfl rfl rfl (by decide +kernel) ⟨Nat.le_of_ble_eq_true rfl, Nat.le_of_ble_eq_true rfl⟩) (by decide) (ci := 7) rfl rfl rfl (st := [.int (nI a)]) rfl (Nat.le_of_ble_eq_true rfl) dX7_choice_31 ⟨Nat.le_of_ble_eq_true rfl, Nat.le_of_ble_eq_true rfl⟩ (fun r31 u31 h31 => ?_)
          obtain ⟨zr31, zu31⟩ := h31
          subst r31
          subst u31
          refine z_callSi mX_ok C hml hown hts hK hX (c_J6_bitCount_0f7a4_M l D ad cI cL cB hI ((xs u 0 0 (nI 0))) (rdy B (S k / 64))) (va_cwS 1 hts gX7_choice_J6_bitCount_0f7a4 rfl rfl rfl (by decide +kernel) ⟨Nat.le_of_ble_eq_true rfl, Nat.le_of_ble_eq_true rfl⟩) rfl (st := [.int (nI a)]) rfl (Nat.le_of_ble_eq_true rfl) dX7_choice_34 ⟨Nat.le_of_ble_eq_true rfl, Nat.le_of_ble_eq_true rfl⟩ (fun r34 u34 h34 => ?_)
          obtain ⟨zr34, zu34⟩ := h34
          subst r34
          subst u34
          refine z_iconst (v := nI 1) C (by decide) dX7_choice_37 ?_
          refine z_icmp_le (tgt := 45) C dX7_choice_38 (by decide) (fun zc38 => ?_) (fun zc38 => ?_)
          · skip
            refine z_iconst (v := nI 0) C (by decide) dX7_choice_45 ?_
            refine z_iadd C dX7_choice_46 ?_
            refine z_topi (y := nI (a + 0)) (nI_add a 0) ?_
            refine z_istore_n (L' := [(1, .int (nI (a + 0))), (0, .ref (ad 0)), (2, .int (nI k))]) C dX7_choice_47 (by decide) rfl ?_
            refine z_iinc (L' := [(2, .int (nI (k + 1))), (1, .int (nI (a + 0))), (0, .ref (ad 0))]) C dX7_choice_48 2 rfl (nI_1 k) (by decide) rfl ?_
            refine z_goto (tgt := 15) C dX7_choice_51 (by decide) ?_
            refine z_sub (L' := [(0, .ref (ad 0)), (1, .int (nI (a + 0))), (2, .int (nI (k + 1)))]) [2, 1, 0] rfl ?_
            exact ih15 (k + 1) (a + 0) (by omega) (by omega) (by rw [ha, fb_ct_succ, if_neg (fun z => (of_decide_eq_true z) zc38)])
          · skip
            refine z_iconst (v := nI 1) C (by decide) dX7_choice_41 ?_
            refine z_goto (tgt := 46) C dX7_choice_42 (by decide) ?_
            refine z_iadd C dX7_choice_46 ?_
            refine z_topi (y := nI (a + 1)) (nI_add a 1) ?_
            refine z_istore_n (L' := [(1, .int (nI (a + 1))), (0, .ref (ad 0)), (2, .int (nI k))]) C dX7_choice_47 (by decide) rfl ?_
            refine z_iinc (L' := [(2, .int (nI (k + 1))), (1, .int (nI (a + 1))), (0, .ref (ad 0))]) C dX7_choice_48 2 rfl (nI_1 k) (by decide) rfl ?_
            refine z_goto (tgt := 15) C dX7_choice_51 (by decide) ?_
            refine z_sub (L' := [(0, .ref (ad 0)), (1, .int (nI (a + 1))), (2, .int (nI (k + 1)))]) [2, 1, 0] rfl ?_
            exact ih15 (k + 1) (a + 1) (by omega) (by omega) (by rw [ha, fb_ct_succ, if_pos (show two B S k = true from decide_eq_true zc38)])
    refine z_sub (L' := [(0, .ref (ad 0)), (1, .int (nI 0)), (2, .int (nI 0))]) [2, 1, 0] rfl ?_
    exact loop15 (c + 1) 0 0 (by omega) (by omega) rfl
  · skip
    have zn6 := z0_t (by omega) zc6
    exact absurd zn6 (by decide)

set_option maxHeartbeats 4000000 in
set_option maxRecDepth 100000 in
theorem c_X7_choice_x1 (l : Launch) (D : va_G) (ad : Nat → Nat) (cI cL cB : ClassId) (hI : gI 12 ad) (u : xS) (n : Nat) (B : Nat → Nat → Nat) (hB : gB n B) (x : Nat) (hx : x < 64 * 2 ^ n) (hM : mI u n B x) (hN : mNo u) : ∀ sz, Met l yX7_choice wsX7_choice ({ frames := 2, cells := 0, slots := 0, locals := 45 }) (MP D ad cI cL cB u [.ref (ad 0)] sz) (va_Qd (fun r_ u' => r_ = FP.dconst0 ∧ u'.1 0 0 = nI 1 ∧ mQ u' n B x (u.1 0 11)) (MB D ad cI cL cB) (gA 12 ad sz)) 0 0 (gA 12 ad sz) := by
  intro sz
  refine z_met (cc := cX7_choice) (maxL := 3) (ret := (some .double)) (by decide) rfl (Nat.le_of_ble_eq_true rfl) ?_
  intro pq lq sq mq aq Qq bq hmq cq C hr hml hown hts hlocks hK hX hsz hQ
  subst hsz
  refine z_sub (L' := [(0, .ref (ad 0))]) [0] rfl ?_
  refine z_aload_n C dX7_choice_0 0 rfl ?_
  refine z_iconst (v := nI 0) C (by decide) dX7_choice_1 ?_
  refine z_iconst (v := nI 1) C (by decide) dX7_choice_2 ?_
  refine z_callVi mX_ok C hml hown hts hK hX (c_X7_asks_w l D ad cI cL cB hI u hN (nI 0) (nI 1)) (cwV 2 hts gX7_choice_X7_asks rfl rfl rfl (by decide +kernel) ⟨Nat.le_of_ble_eq_true rfl, Nat.le_of_ble_eq_true rfl⟩) (by decide) (ci := 7) rfl rfl rfl (st := []) rfl (Nat.le_of_ble_eq_true rfl) dX7_choice_3 ⟨Nat.le_of_ble_eq_true rfl, Nat.le_of_ble_eq_true rfl⟩ (fun r3 u3 h3 => ?_)
  obtain ⟨zr3, zu3⟩ := h3
  subst r3
  subst u3
  refine z_if_ne (tgt := 11) C dX7_choice_6 (by decide) (fun zc6 => ?_) (fun zc6 => ?_)
  · skip
    have zn6 := z0_f zc6
    exact absurd zn6 (by decide)
  · skip
    have zn6 := z0_t (by omega) zc6
    refine z_dconst0 C dX7_choice_9 ?_
    exact z_dret C hr hlocks hQ (xs u 0 0 (nI 1)) (⟨rfl, xs_s _ _ _ _, mQ_1 hM _⟩) (fun _ _ => rfl) dX7_choice_10
