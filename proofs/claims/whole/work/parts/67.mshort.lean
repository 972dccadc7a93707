def mF13 (ad : Nat → Nat) (cI cL cB : ClassId) (c : Nat) (u : xS) (k : Nat) : va_E := if k < 12 then mF ad cI cL cB u k else .inl (cI, c, .inl (u.1 12))
def zU (u : xS) : xS := (va_up u.1 12 (fun _ => 0), u.2)
theorem mF_ad {ad ad2 : Nat → Nat} (h : ∀ k, k < 12 → ad2 k = ad k) {cI cL cB : ClassId} (u : xS) (k : Nat) : mF ad2 cI cL cB u k = mF ad cI cL cB u k := by
  unfold mF
  rw [h 1 (by decide), h 2 (by decide), h 3 (by decide), h 4 (by decide), h 5 (by decide), h 6 (by decide), h 7 (by decide), h 8 (by decide), h 9 (by decide), h 10 (by decide), h 11 (by decide)]
theorem mF_cg {ad : Nat → Nat} {cI cL cB : ClassId} {u w : xS} (h : ∀ q, q < 12 → w.1 q = u.1 q) (h2 : w.2 = u.2) (k : Nat) : mF ad cI cL cB w k = mF ad cI cL cB u k := by
  unfold mF
  rw [h 0 (by decide), h 1 (by decide), h 2 (by decide), h 3 (by decide), h 4 (by decide), h 5 (by decide), h 6 (by decide), h 7 (by decide), h 8 (by decide), h 9 (by decide), h 10 (by decide), h2]
theorem mF13_new {ad ad2 : Nat → Nat} (h : ∀ k, k < 12 → ad2 k = ad k) {cI cL cB : ClassId} {c : Nat} {u : xS} : ∀ k, k < 12 + 1 → mF13 ad2 cI cL cB c (zU u) k = (fun k => if k < 12 then mF ad cI cL cB u k else (.inl (cI, c, .inl (fun _ => 0)) : va_E)) k := by
  intro k hk
  unfold mF13
  by_cases z : k < 12
  · dsimp only
    rw [if_pos z, if_pos z, mF_ad h]
    exact (mF_cg (u := zU u) (w := u) (fun q hq => by show u.1 q = va_up u.1 12 _ q; simp [va_up, show ¬ q = 12 by omega]) rfl k).symm
  · dsimp only
    rw [if_neg z, if_neg z]
    show (Sum.inl (cI, c, Sum.inl (va_up u.1 12 (fun _ => 0) 12)) : va_E) = _
    simp [va_up]
theorem mF13_ret {ad ad2 : Nat → Nat} (h : ∀ k, k < 12 → ad2 k = ad k) {cI cL cB : ClassId} {c : Nat} {u : xS} {k : Nat} (hk : k < 12) : mF ad cI cL cB u k = mF13 ad2 cI cL cB c u k := by
  unfold mF13
  rw [if_pos hk, mF_ad h]
theorem mF13_f {ad : Nat → Nat} {cI cL cB : ClassId} {c : Nat} {u : xS} : ∀ k, k < 12 → mF13 ad cI cL cB c u (id k) = mF ad cI cL cB u k := fun _ hk => if_pos hk
theorem mF13_h {ad : Nat → Nat} {cI cL cB : ClassId} {c : Nat} {u : xS} : ∀ (u9 : xS) j, j < 13 → (∀ k, k < 12 → id k ≠ j) → (if j < 12 then mF ad cI cL cB u9 j else (.inl (cI, c, .inl (u.1 12)) : va_E)) = mF13 ad cI cL cB c u j := fun _ j _ h => (if_neg (fun z => h j z rfl)).trans (if_neg (fun z => h j z rfl)).symm
theorem mF13_ne {ad : Nat → Nat} {cI cL cB : ClassId} {c : Nat} {u : xS} {j : Nat} {v : Int32} : ∀ k, k < 13 → k ≠ 12 → mF13 ad cI cL cB c (xs u 12 j v) k = mF13 ad cI cL cB c u k := by
  intro k hk h
  unfold mF13
  rw [if_pos (by omega), if_pos (by omega)]
  exact mF_cg (fun q hq => xs_r (by omega)) (xs_2 _ _ _ _) k
/-- the model's plays, behind the first m edges -/
def pl (N D : Nat → Nat) (m j : Nat) : Int32 := if j = 0 ∨ fb_ct (fun e => decide (N e = j + 1)) m ≠ 0 then nI (D j) else -1
def eDp (c : Nat) (N D : Nat → Nat) : Prop := D 0 = 0 ∧ (∀ j, j < c → D j ≤ j) ∧ ∀ e j, e < 8 * c → N e = j + 1 → j ≠ 0 → fb_ct (fun e' => decide (N e' = j + 1)) e = 0 → D j = D (e / 8) + 1
theorem pl_o {N D : Nat → Nat} {m j : Nat} (h : N m ≠ j + 1) : pl N D m j = pl N D (m + 1) j := by
  have e : fb_ct (fun e => decide (N e = j + 1)) (m + 1) = fb_ct (fun e => decide (N e = j + 1)) m := by rw [fb_ct_succ, if_neg (show ¬ decide (N m = j + 1) = true by rw [decide_eq_false h]; decide)]; rfl
  unfold pl
  rw [e]
theorem pl_y {N D : Nat → Nat} {m j : Nat} (h : N m = j + 1) : pl N D (m + 1) j = nI (D j) := by
  unfold pl
  rw [fb_ct_succ, if_pos (show decide (N m = j + 1) = true from decide_eq_true h), if_pos (Or.inr (by omega))]
theorem pl_m1 {N D : Nat → Nat} {m j : Nat} (hD : D j < 2 ^ 31) (h : pl N D m j = -1) : j ≠ 0 ∧ fb_ct (fun e => decide (N e = j + 1)) m = 0 := by
  unfold pl at h
  split at h
  · exact absurd h (nI_m1 hD)
  · rename_i z
    omega
theorem pl_n {N D : Nat → Nat} {m j : Nat} (h : ¬ pl N D m j = -1) : pl N D m j = nI (D j) := by
  unfold pl at h ⊢
  split
  · rfl
  · rename_i z
    rw [if_neg z] at h
    exact absurd rfl h
theorem pl_kp {N D : Nat → Nat} {m j : Nat} (hz : N m ≠ 0) (h : ¬ pl N D m (N m - 1) = -1) : pl N D m j = pl N D (m + 1) j := by
  by_cases e : N m = j + 1
  · have e2 : N m - 1 = j := by omega
    rw [e2] at h
    exact (pl_n h).trans (pl_y e).symm
  · exact pl_o e
theorem pl_at {c : Nat} {N D : Nat → Nat} (hg : gOk c N) {k r : Nat} (hk : k < c) : pl N D (8 * k + r) k = nI (D k) := by
  unfold pl
  refine if_pos ?_
  rcases Nat.eq_zero_or_pos k with z | z
  · exact Or.inl z
  · obtain ⟨e, he, hn⟩ := hg.2 k z hk
    exact Or.inr (Nat.ne_of_gt (fb_ct_pos.mpr ⟨e, by omega, decide_eq_true hn⟩))
theorem pl_0 {c : Nat} {N D : Nat → Nat} (h : eDp c N D) (j : Nat) : pl N D 0 j = if j = 0 then 0 else -1 := by
  unfold pl
  by_cases z : j = 0
  · rw [if_pos (Or.inl z), if_pos z, z, h.1]; rfl
  · rw [if_neg (by rintro (a | a); exact z a; exact a rfl), if_neg z]
theorem pl_ext {N D : Nat → Nat} {k n j : Nat} (h : ∀ r, n ≤ r → r < 8 → N (8 * k + r) = 0) : ∀ d, n + d ≤ 8 → pl N D (8 * k + (n + d)) j = pl N D (8 * k + n) j
  | 0, _ => rfl
  | d + 1, hd => by
    rw [← pl_ext h d (by omega)]
    exact (pl_o (N := N) (D := D) (m := 8 * k + (n + d)) (by rw [h (n + d) (by omega) (by omega)]; omega)).symm
theorem pl_8 {N D : Nat → Nat} {k n j : Nat} (hn : n ≤ 8) (h : ∀ r, n ≤ r → r < 8 → N (8 * k + r) = 0) : pl N D (8 * k + n) j = pl N D (8 * (k + 1)) j := by
  rw [← pl_ext h (8 - n) (by omega), show 8 * k + (n + (8 - n)) = 8 * (k + 1) by omega]
theorem pl_st {c : Nat} {N D : Nat → Nat} (hD : eDp c N D) {v : xS} {k r : Nat} (hv : ∀ j, j < c → v.1 12 j = pl N D (8 * k + r) j) (hk : k < c) (hr : r < 8) (hz : N (8 * k + r) ≠ 0) (hN : N (8 * k + r) ≤ c) (hc2 : c ≤ 1000) (h : pl N D (8 * k + r) (N (8 * k + r) - 1) = -1) : ∀ j, j < c → (xs v 12 (N (8 * k + r) - 1) (nI (D k + 1))).1 12 j = pl N D (8 * k + (r + 1)) j := by
  intro j hj
  have hb := hD.2.1 (N (8 * k + r) - 1) (by omega)
  have hb9 : D (N (8 * k + r) - 1) < 2 ^ 31 := by omega
  by_cases e : j = N (8 * k + r) - 1
  · obtain ⟨h1, h2⟩ := pl_m1 hb9 h
    have h3 := hD.2.2 (8 * k + r) (N (8 * k + r) - 1) (by omega) (by omega) h1 h2
    rw [show (8 * k + r) / 8 = k by omega] at h3
    rw [e, xs_s, ← h3]
    exact (pl_y (m := 8 * k + r) (by omega)).symm
  · rw [xs_j e, hv j hj]
    exact pl_o (m := 8 * k + r) (by omega)
theorem sh_y {S D : Nat → Nat} {c k : Nat} (hk : k < c) (he : isE S k = true) (hno : ∀ j, j < k → isE S j = false) : nI (D k) = (if fb_ct (isE S) c = 0 then -1 else nI (D (fa_first (isE S) c))) := by
  rw [if_neg (Nat.ne_of_gt (fb_ct_pos.mpr ⟨k, hk, he⟩)), first_eq hk he hno]
theorem sh_n {S D : Nat → Nat} {c : Nat} (hno : ∀ j, j < c → isE S j = false) : (-1 : Int32) = (if fb_ct (isE S) c = 0 then -1 else nI (D (fa_first (isE S) c))) := by
  rw [if_pos (fb_ct_zero.mpr hno)]

set_option maxHeartbeats 4000000 in
set_option maxRecDepth 100000 in
theorem c_X7_shortest (l : Launch) (D : va_G) (ad : Nat → Nat) (cI cL cB : ClassId) (hI : gI 12 ad) (u : xS) (n : Nat) (B : Nat → Nat → Nat) (hB : gB n B) (x : Nat) (hx : x < 64 * 2 ^ n) (hM : mI u n B x) (c : Nat) (S N : Nat → Nat) (hW : mWh u n c S N) (dp : Nat → Nat) (hg : gOk c N) (hD : eDp c N dp) (hz8 : ∀ j, j < c → ∀ r, n ≤ r → r < 8 → N (8 * j + r) = 0) : ∀ sz, Met l yX7_shortest wsX7_shortest ({ frames := 2, cells := 1, slots := 1000, locals := 42 }) (MP D ad cI cL cB u [.ref (ad 0)] sz) (va_Qi (fun r_ u' => r_ = (if fb_ct (isE S) c = 0 then -1 else nI (dp (fa_first (isE S) c))) ∧ u'.1 0 0 = nI 0 ∧ mQ u' n B x (u.1 0 11)) (MB D ad cI cL cB) (gA 12 ad sz)) 1 1000 (gA 12 ad sz) := by
  intro sz
  refine z_met (cc := cX7_shortest) (maxL := 5) (ret := (some .int)) (by decide) rfl (Nat.le_of_ble_eq_true rfl) ?_
  intro pq lq sq mq aq Qq bq hmq cq C hr hml hown hts hlocks hK hX hsz hQ
  subst hsz
  have hT7 : ∀ w ∈ wsX70, w.before aq sq = true := fun w h => hts w ((by decide +kernel : ∀ w ∈ wsX70, w ∈ wsX7_shortest) w h)
  refine z_sub (L' := [(0, .ref (ad 0))]) [0] rfl ?_
  obtain ⟨hc1, hc2, h11, h12, h13, hS, hNx⟩ := hW
  have hn8 : n ≤ 8 := hB.1
  have hp2 : 2 ^ n ≤ 256 := pn8 hn8
  refine z_aload_n C dX7_shortest_0 0 rfl ?_
  refine z_iconst (v := nI 0) C (by decide) dX7_shortest_1 ?_
  refine z_iconst (v := nI 1) C (by decide) dX7_shortest_2 ?_
  refine z_callVi mX_ok C hml hown hts hK hX (c_X7_asks_vh l D ad cI cL cB hI u h11 h12 1 (by decide) 0 (by decide)) (cwV 2 hts gX7_shortest_X7_asks rfl rfl rfl (by decide +kernel) ⟨Nat.le_of_ble_eq_true rfl, Nat.le_of_ble_eq_true rfl⟩) (by decide) (ci := 7) rfl rfl rfl (st := []) rfl (Nat.le_of_ble_eq_true rfl) dX7_shortest_3 ⟨Nat.le_of_ble_eq_true rfl, Nat.le_of_ble_eq_true rfl⟩ (fun r3 u3 h3 => ?_)
  obtain ⟨zr3, zu3⟩ := h3
  subst r3
  subst u3
  refine z_if_ne (tgt := 11) C dX7_shortest_6 (by decide) (fun zc6 => ?_) (fun zc6 => ?_)
  · skip
    have zn6 := z0_f zc6
    refine z_aload_n C dX7_shortest_11 0 rfl ?_
    refine z_get (q := 0) C (T := TX7) (N := 18) (ci := 7) (own := RX7) (index := 113) (v := .int ((xs u 0 0 (nI 0)).1 0 13)) hT7 hown hK (by decide) rfl rfl 13 (by decide) (hts (.fieldLink RX7 113 "TriggerAnalyzerModel" "situations" "I") (by decide +kernel)) (fun _ h9 => h9) rfl dX7_shortest_12 ?_
    refine z_topi (y := u.1 0 13) (xs_j (by decide)) ?_
    refine z_topi (y := nI c) (h13) ?_
    refine z_newa1 C (hts (.arrayClass .int) (by decide +kernel)) hK (cI := cI) rfl hI (len := c) hc2 ⟨Nat.le_of_ble_eq_true rfl, by show 0 + c ≤ 1000; omega⟩ dX7_shortest_15 (fun ad2 ha2 hI2 hq2 => ?_)
    refine z_cong (f' := mF13 ad2 cI cL cB c (zU (xs u 0 0 (nI 0)))) (mF13_new ha2) ?_
    rw [← ha2 0 (by decide)]
    have hI12 : gI 12 ad2 := fun i j hi hj h => hI2 i j (Nat.lt_succ_of_lt hi) (Nat.lt_succ_of_lt hj) h
    have hL13 : zL 13 12 ad2 ad2 id := ⟨hI2, fun k hk => ⟨Nat.lt_succ_of_lt hk, rfl⟩⟩
    refine z_astore_n (L' := [(1, .ref (ad2 12)), (0, .ref (ad2 0))]) C dX7_shortest_17 (by decide) rfl ?_
    refine z_iconst (v := nI 1) C (by decide) dX7_shortest_18 ?_
    refine z_istore_n (L' := [(2, .int (nI 1)), (1, .ref (ad2 12)), (0, .ref (ad2 0))]) C dX7_shortest_19 (by decide) rfl ?_
    have loop20 : ∀ (d20 : Nat) (k : Nat) (w : xS), c - k < d20 → (1 ≤ k) → (k ≤ c) → (∀ j, j < k → w.1 12 j = if j = 0 then 0 else -1) → (∀ q, q ≠ 12 → w.1 q = (xs u 0 0 (nI 0)).1 q) → ZZ pq l lq { frames := 2, cells := 1, slots := 1000, locals := 42 } sq mq aq bq hmq cq D vwCl 13 ad2 5 (0 + 1) (0 + c) Qq (mF13 ad2 cI cL cB c w) [(0, .ref (ad2 0)), (1, .ref (ad2 12)), (2, .int (nI k))] 20 [] := by
      intro d20
      induction d20 with
      | zero => intro k w hz; exact absurd hz (Nat.not_lt_zero _)
      | succ d20 ih20 =>
        intro k w hz20 hk1 hk hw1 hw6
        refine z_iload_n C dX7_shortest_20 2 rfl ?_
        refine z_aload_n C dX7_shortest_21 0 rfl ?_
        refine z_get (q := 0) C (T := TX7) (N := 18) (ci := 7) (own := RX7) (index := 113) (v := .int (w.1 0 13)) hT7 hown hK (by decide) rfl rfl 13 (by decide) (hts (.fieldLink RX7 113 "TriggerAnalyzerModel" "situations" "I") (by decide +kernel)) (fun _ h9 => h9) rfl dX7_shortest_22 ?_
        refine z_topi (y := nI c) (by rw [hw6 0 (by decide)]; exact (xs_j (by decide)).trans h13) ?_
        refine z_icmp_ge (tgt := 38) C dX7_shortest_25 (by decide) (fun zc25 => ?_) (fun zc25 => ?_)
        · skip
          have zn25 := zge_t (a := k) (b := c) (by omega) (by omega) zc25
          refine z_iconst (v := nI 0) C (by decide) dX7_shortest_38 ?_
          refine z_istore_n (L' := [(2, .int (nI 0)), (0, .ref (ad2 0)), (1, .ref (ad2 12))]) C dX7_shortest_39 (by decide) rfl ?_
          have loop40 : ∀ (d40 : Nat) (k : Nat) (w : xS), c - k < d40 → (k ≤ c) → (∀ j, j < c → w.1 12 j = pl N dp (8 * k) j) → (∀ j, j < k → isE S j = false) → (∀ q, q ≠ 12 → w.1 q = (xs u 0 0 (nI 0)).1 q) → ZZ pq l lq { frames := 2, cells := 1, slots := 1000, locals := 42 } sq mq aq bq hmq cq D vwCl 13 ad2 5 (0 + 1) (0 + c) Qq (mF13 ad2 cI cL cB c w) [(0, .ref (ad2 0)), (1, .ref (ad2 12)), (2, .int (nI k))] 40 [] := by
            intro d40
            induction d40 with
            | zero => intro k w hz; exact absurd hz (Nat.not_lt_zero _)
            | succ d40 ih40 =>
              intro k w hz40 hk hwp hno hw6
              refine z_iload_n C dX7_shortest_40 2 rfl ?_
              refine z_aload_n C dX7_shortest_41 0 rfl ?_
              refine z_get (q := 0) C (T := TX7) (N := 18) (ci := 7) (own := RX7) (index := 113) (v := .int (w.1 0 13)) hT7 hown hK (by decide) rfl rfl 13 (by decide) (hts (.fieldLink RX7 113 "TriggerAnalyzerModel" "situations" "I") (by decide +kernel)) (fun _ h9 => h9) rfl dX7_shortest_42 ?_
              refine z_topi (y := nI c) (by rw [hw6 0 (by decide)]; exact (xs_j (by decide)).trans h13) ?_
              refine z_icmp_ge (tgt := 118) C dX7_shortest_45 (by decide) (fun zc45 => ?_) (fun zc45 => ?_)
              · skip
                have zn45 := zge_t (a := k) (b := c) (by omega) (by omega) zc45
                refine z_iconst (v := (-1)) C (by decide) dX7_shortest_118 ?_
                refine z_widen (k := 1) (q := 1000) (Nat.le_of_ble_eq_true rfl) (by omega) ?_
                exact z_iret1 C hr hlocks hQ ha2 hq2 w (⟨sh_n (fun j hj => hno j (by omega)), by rw [hw6 0 (by decide)]; exact xs_s _ _ _ _, mQ_fr (mQ_1 hM (nI 0)) (fun j _ => by rw [hw6 0 (by decide)]) (fun q _ _ => hw6 q (by omega))⟩) (fun k hk => mF13_ret ha2 hk) dX7_shortest_119
              · skip
                have zn45 := zge_f (a := k) (b := c) (by omega) (by omega) zc45
                refine z_aload_n C dX7_shortest_48 0 rfl ?_
                refine z_iload_n C dX7_shortest_49 2 rfl ?_
                refine z_callVi mX_ok C hml hown hts hK hX (fun sz => z_liftI (σ := id) (F := fun u9 k => if k < 12 then mF ad2 cI cL cB u9 k else .inl (cI, c, .inl (w.1 12))) (f1 := mF ad2 cI cL cB w) (F1 := mF ad2 cI cL cB) hL13 (fun _ h => h) (fun _ h => h) mF13_f (fun _ _ hk => if_pos hk) mF13_h (fun _ _ h => h) ((c_X7_isEnd l D ad2 cI cL cB hI12 w k (by omega) (S k) (by have := (hS k zn45).2; omega) (by rw [hw6 8 (by decide)]; exact (xs_c (by decide) _).trans (hS k zn45).1)) sz)) (cwV 1 hts gX7_shortest_X7_isEnd rfl rfl rfl (by decide +kernel) ⟨Nat.le_of_ble_eq_true rfl, Nat.le_of_ble_eq_true rfl⟩) (by decide) (ci := 7) rfl rfl rfl (st := []) rfl (Nat.le_of_ble_eq_true rfl) dX7_shortest_50 ⟨Nat.le_of_ble_eq_true rfl, by show 0 + c + 0 ≤ 1000; omega⟩ (fun r50 u50 h50 => ?_)
                obtain ⟨zr50, zu50⟩ := h50
                subst r50
                subst u50
                refine z_if_eq (tgt := 60) C dX7_shortest_53 (by decide) (fun zc53 => ?_) (fun zc53 => ?_)
                · skip
                  have hz53 := z1f zc53
                  refine z_iconst (v := nI 0) C (by decide) dX7_shortest_60 ?_
                  refine z_istore_n (L' := [(3, .int (nI 0)), (0, .ref (ad2 0)), (1, .ref (ad2 12)), (2, .int (nI k))]) C dX7_shortest_61 (by decide) rfl ?_
                  have loop62 : ∀ (d62 : Nat) (r : Nat) (v : xS), n - r < d62 → (r ≤ n) → (∀ j, j < c → v.1 12 j = pl N dp (8 * k + r) j) → (∀ q, q ≠ 12 → v.1 q = (xs u 0 0 (nI 0)).1 q) → ZZ pq l lq { frames := 2, cells := 1, slots := 1000, locals := 42 } sq mq aq bq hmq cq D vwCl 13 ad2 5 (0 + 1) (0 + c) Qq (mF13 ad2 cI cL cB c v) [(0, .ref (ad2 0)), (1, .ref (ad2 12)), (2, .int (nI k)), (3, .int (nI r))] 62 [] := by
                    intro d62
                    induction d62 with
                    | zero => intro r v hz; exact absurd hz (Nat.not_lt_zero _)
                    | succ d62 ih62 =>
                      intro r v hz62 hrn hvp hv6
                      refine z_iload_n C dX7_shortest_62 3 rfl ?_
                      refine z_aload_n C dX7_shortest_63 0 rfl ?_
                      refine z_get (q := 0) C (T := TX7) (N := 18) (ci := 7) (own := RX7) (index := 49) (v := .int (v.1 0 1)) hT7 hown hK (by decide) rfl rfl 1 (by decide) (hts (.fieldLink RX7 49 "TriggerAnalyzerModel" "rules" "I") (by decide +kernel)) (fun _ h9 => h9) rfl dX7_shortest_64 ?_
                      refine z_topi (y := nI n) (by rw [hv6 0 (by decide)]; exact (xs_j (by decide)).trans (mR_n hM.1)) ?_
                      refine z_icmp_ge (tgt := 112) C dX7_shortest_67 (by decide) (fun zc67 => ?_) (fun zc67 => ?_)
                      · skip
                        have zn67 := zge_t (a := r) (b := n) (by omega) (by omega) zc67
                        refine z_iinc (L' := [(2, .int (nI (k + 1))), (0, .ref (ad2 0)), (1, .ref (ad2 12)), (3, .int (nI r))]) C dX7_shortest_112 2 rfl (nI_1 k) (by decide) rfl ?_
                        refine z_goto (tgt := 40) C dX7_shortest_115 (by decide) ?_
                        refine z_sub (L' := [(0, .ref (ad2 0)), (1, .ref (ad2 12)), (2, .int (nI (k + 1)))]) [1, 2, 0] rfl ?_
                        exact ih40 (k + 1) v (by omega) (by omega) (fun j hj => by rw [← pl_8 hn8 (hz8 k zn45), ← show r = n by omega]; exact hvp j hj) (fun j hj => by rcases Nat.lt_or_ge j k with q | q; exact hno j q; rw [show j = k by omega]; exact Bool.eq_false_iff.mpr (fun y => hz53 (isE_s.mp y))) hv6
                      · skip
                        have zn67 := zge_f (a := r) (b := n) (by omega) (by omega) zc67
                        have hNr := (hNx (8 * k + r) (by omega)).2
                        have hDk := hD.2.1 k zn45
                        refine z_aload_n C dX7_shortest_70 0 rfl ?_
                        refine z_get (q := 0) C (T := TX7) (N := 18) (ci := 7) (own := RX7) (index := 35) (v := .ref (ad2 9)) hT7 hown hK (by decide) rfl rfl 15 (by decide) (hts (.fieldLink RX7 35 "TriggerAnalyzerModel" "next" "[I") (by decide +kernel)) (fun _ h9 => h9) rfl dX7_shortest_71 ?_
                        refine z_bipush (v := nI 8) C (by decide) dX7_shortest_74 ?_
                        refine z_iload_n C dX7_shortest_76 2 rfl ?_
                        refine z_imul C dX7_shortest_77 ?_
                        refine z_topi (y := nI (8 * k)) (pk_mul 8 k) ?_
                        refine z_iload_n C dX7_shortest_78 3 rfl ?_
                        refine z_iadd C dX7_shortest_79 ?_
                        refine z_topi (y := nI ((8 * k) + r)) (nI_add (8 * k) r) ?_
                        refine z_iald (q := 9) (len := 8000) (k := (8 * k) + r) C hK (by decide) rfl 0 rfl (rfl) (by omega) (by decide) dX7_shortest_80 ?_
                        refine z_topi (y := nxI (N (8 * k + r))) (by rw [hv6 9 (by decide)]; exact (xs_c (by decide) _).trans (hNx _ (by omega)).1) ?_
                        refine z_istore (L' := [(4, .int (nxI (N (8 * k + r)))), (0, .ref (ad2 0)), (1, .ref (ad2 12)), (2, .int (nI k)), (3, .int (nI r))]) C dX7_shortest_81 (by decide) rfl ?_
                        refine z_iload C dX7_shortest_83 0 rfl ?_
                        refine z_iconst (v := (-1)) C (by decide) dX7_shortest_85 ?_
                        refine z_icmp_eq (tgt := 106) C dX7_shortest_86 (by decide) (fun zc86 => ?_) (fun zc86 => ?_)
                        · skip
                          have hz0 := nx_t (by omega) zc86
                          refine z_iinc (L' := [(3, .int (nI (r + 1))), (4, .int (nxI (N (8 * k + r)))), (0, .ref (ad2 0)), (1, .ref (ad2 12)), (2, .int (nI k))]) C dX7_shortest_106 4 rfl (nI_1 r) (by decide) rfl ?_
                          refine z_goto (tgt := 62) C dX7_shortest_109 (by decide) ?_
                          refine z_sub (L' := [(0, .ref (ad2 0)), (1, .ref (ad2 12)), (2, .int (nI k)), (3, .int (nI (r + 1)))]) [2, 3, 4, 0] rfl ?_
                          exact ih62 (r + 1) v (by omega) (by omega) (fun j hj => (hvp j hj).trans (pl_o (m := 8 * k + r) (by rw [hz0]; omega))) hv6
                        · skip
                          have hz := nx_f zc86
                          rw [nx_v hz]
                          · skip
                            refine z_aload_n C dX7_shortest_89 2 rfl ?_
                            refine z_iload C dX7_shortest_90 0 rfl ?_
                            refine z_iald (q := 12) (len := c) (k := N (8 * k + r) - 1) C hK (by decide) rfl 0 rfl (rfl) (by omega) (by omega) dX7_shortest_92 ?_
                            refine z_topi (y := (pl N dp (8 * k + r) (N (8 * k + r) - 1))) (hvp _ (by omega)) ?_
                            refine z_iconst (v := (-1)) C (by decide) dX7_shortest_93 ?_
                            refine z_icmp_ne (tgt := 106) C dX7_shortest_94 (by decide) (fun zc94 => ?_) (fun zc94 => ?_)
                            · skip
                              refine z_iinc (L' := [(3, .int (nI (r + 1))), (4, .int (nI (N (8 * k + r) - 1))), (0, .ref (ad2 0)), (1, .ref (ad2 12)), (2, .int (nI k))]) C dX7_shortest_106 4 rfl (nI_1 r) (by decide) rfl ?_
                              refine z_goto (tgt := 62) C dX7_shortest_109 (by decide) ?_
                              refine z_sub (L' := [(0, .ref (ad2 0)), (1, .ref (ad2 12)), (2, .int (nI k)), (3, .int (nI (r + 1)))]) [2, 3, 4, 0] rfl ?_
                              exact ih62 (r + 1) v (by omega) (by omega) (fun j hj => (hvp j hj).trans (pl_kp hz zc94)) hv6
                            · skip
                              refine z_aload_n C dX7_shortest_97 2 rfl ?_
                              refine z_iload C dX7_shortest_98 0 rfl ?_
                              refine z_aload_n C dX7_shortest_100 2 rfl ?_
                              refine z_iload_n C dX7_shortest_101 3 rfl ?_
                              refine z_iald (q := 12) (len := c) (k := k) C hK (by decide) rfl 0 rfl (rfl) (by omega) (by omega) dX7_shortest_102 ?_
                              refine z_topi (y := nI (dp k)) ((hvp k zn45).trans (pl_at hg zn45)) ?_
                              refine z_iconst (v := nI 1) C (by decide) dX7_shortest_103 ?_
                              refine z_iadd C dX7_shortest_104 ?_
                              refine z_topi (y := nI ((dp k) + 1)) (nI_add (dp k) 1) ?_
                              refine z_iast (q := 12) (len := c) (k := N (8 * k + r) - 1) C hI2 hK (by decide) rfl 0 rfl (rfl) (by omega) (by omega) (f' := mF13 ad2 cI cL cB c ((xs v 12 (N (8 * k + r) - 1) (nI ((dp k) + 1))))) rfl mF13_ne dX7_shortest_105 ?_
                              refine z_iinc (L' := [(3, .int (nI (r + 1))), (4, .int (nI (N (8 * k + r) - 1))), (0, .ref (ad2 0)), (1, .ref (ad2 12)), (2, .int (nI k))]) C dX7_shortest_106 4 rfl (nI_1 r) (by decide) rfl ?_
                              refine z_goto (tgt := 62) C dX7_shortest_109 (by decide) ?_
                              refine z_sub (L' := [(0, .ref (ad2 0)), (1, .ref (ad2 12)), (2, .int (nI k)), (3, .int (nI (r + 1)))]) [2, 3, 4, 0] rfl ?_
                              exact ih62 (r + 1) (xs v 12 (N (8 * k + r) - 1) (nI (dp k + 1))) (by omega) (by omega) (pl_st hD hvp zn45 (by omega) hz hNr hc2 zc94) (fun q hq => (xs_r hq).trans (hv6 q hq))
                  refine z_sub (L' := [(0, .ref (ad2 0)), (1, .ref (ad2 12)), (2, .int (nI k)), (3, .int (nI 0))]) [1, 2, 3, 0] rfl ?_
                  exact loop62 (n + 1) 0 w (by omega) (by omega) hwp hw6
                · skip
                  have hz53 := z1t zc53
                  refine z_aload_n C dX7_shortest_56 1 rfl ?_
                  refine z_iload_n C dX7_shortest_57 2 rfl ?_
                  refine z_iald (q := 12) (len := c) (k := k) C hK (by decide) rfl 0 rfl (rfl) (by omega) (by omega) dX7_shortest_58 ?_
                  refine z_topi (y := nI (dp k)) ((hwp k zn45).trans (pl_at (r := 0) hg zn45)) ?_
                  refine z_widen (k := 1) (q := 1000) (Nat.le_of_ble_eq_true rfl) (by omega) ?_
                  exact z_iret1 C hr hlocks hQ ha2 hq2 w (⟨sh_y zn45 (isE_s.mpr hz53) hno, by rw [hw6 0 (by decide)]; exact xs_s _ _ _ _, mQ_fr (mQ_1 hM (nI 0)) (fun j _ => by rw [hw6 0 (by decide)]) (fun q _ _ => hw6 q (by omega))⟩) (fun k hk => mF13_ret ha2 hk) dX7_shortest_59
          refine z_sub (L' := [(0, .ref (ad2 0)), (1, .ref (ad2 12)), (2, .int (nI 0))]) [1, 2, 0] rfl ?_
          exact loop40 (c + 1) 0 w (by omega) (by omega) (fun j hj => by rw [pl_0 hD]; exact hw1 j (by omega)) (fun j hj => absurd hj (Nat.not_lt_zero j)) hw6
        · skip
          have zn25 := zge_f (a := k) (b := c) (by omega) (by omega) zc25
          refine z_aload_n C dX7_shortest_28 1 rfl ?_
          refine z_iload_n C dX7_shortest_29 2 rfl ?_
          refine z_iconst (v := (-1)) C (by decide) dX7_shortest_30 ?_
          refine z_iast (q := 12) (len := c) (k := k) C hI2 hK (by decide) rfl 0 rfl (rfl) (by omega) (by omega) (f' := mF13 ad2 cI cL cB c ((xs w 12 k ((-1))))) rfl mF13_ne dX7_shortest_31 ?_
          refine z_iinc (L' := [(2, .int (nI (k + 1))), (0, .ref (ad2 0)), (1, .ref (ad2 12))]) C dX7_shortest_32 2 rfl (nI_1 k) (by decide) rfl ?_
          refine z_goto (tgt := 20) C dX7_shortest_35 (by decide) ?_
          refine z_sub (L' := [(0, .ref (ad2 0)), (1, .ref (ad2 12)), (2, .int (nI (k + 1)))]) [1, 2, 0] rfl ?_
          exact ih20 (k + 1) (xs w 12 k (-1)) (by omega) (by omega) (by omega) (fun j hj => by rw [xs_at]; by_cases z : j = k; rw [if_pos ⟨rfl, z⟩, if_neg (by omega)]; rw [if_neg (fun y => z y.2)]; exact hw1 j (by omega)) (fun q hq => (xs_r hq).trans (hw6 q hq))
    refine z_sub (L' := [(0, .ref (ad2 0)), (1, .ref (ad2 12)), (2, .int (nI 1))]) [2, 1, 0] rfl ?_
    exact loop20 c 1 (zU (xs u 0 0 (nI 0))) (by omega) (Nat.le_refl 1) hc1 (fun j hj => by rw [show j = 0 by omega, if_pos rfl]; unfold zU; simp [va_up]) (fun q hq => by unfold zU; simp [va_up, hq])
  · skip
    have zn6 := z0_t (by omega) zc6
    exact absurd zn6 (by decide)

set_option maxHeartbeats 4000000 in
set_option maxRecDepth 100000 in
theorem c_X7_shortest_x1 (l : Launch) (D : va_G) (ad : Nat → Nat) (cI cL cB : ClassId) (hI : gI 12 ad) (u : xS) (n : Nat) (B : Nat → Nat → Nat) (hB : gB n B) (x : Nat) (hx : x < 64 * 2 ^ n) (hM : mI u n B x) (hN : mNo u) : ∀ sz, Met l yX7_shortest wsX7_shortest ({ frames := 2, cells := 1, slots := 1000, locals := 42 }) (MP D ad cI cL cB u [.ref (ad 0)] sz) (va_Qi (fun r_ u' => r_ = nI 0 ∧ u'.1 0 0 = nI 1 ∧ mQ u' n B x (u.1 0 11)) (MB D ad cI cL cB) (gA 12 ad sz)) 1 1000 (gA 12 ad sz) := by
  intro sz
  refine z_met (cc := cX7_shortest) (maxL := 5) (ret := (some .int)) (by decide) rfl (Nat.le_of_ble_eq_true rfl) ?_
  intro pq lq sq mq aq Qq bq hmq cq C hr hml hown hts hlocks hK hX hsz hQ
  subst hsz
  refine z_sub (L' := [(0, .ref (ad 0))]) [0] rfl ?_
  refine z_aload_n C dX7_shortest_0 0 rfl ?_
  refine z_iconst (v := nI 0) C (by decide) dX7_shortest_1 ?_
  refine z_iconst (v := nI 1) C (by decide) dX7_shortest_2 ?_
  refine z_callVi mX_ok C hml hown hts hK hX (c_X7_asks_w l D ad cI cL cB hI u hN (nI 0) (nI 1)) (cwV 2 hts gX7_shortest_X7_asks rfl rfl rfl (by decide +kernel) ⟨Nat.le_of_ble_eq_true rfl, Nat.le_of_ble_eq_true rfl⟩) (by decide) (ci := 7) rfl rfl rfl (st := []) rfl (Nat.le_of_ble_eq_true rfl) dX7_shortest_3 ⟨Nat.le_of_ble_eq_true rfl, Nat.le_of_ble_eq_true rfl⟩ (fun r3 u3 h3 => ?_)
  obtain ⟨zr3, zu3⟩ := h3
  subst r3
  subst u3
  refine z_if_ne (tgt := 11) C dX7_shortest_6 (by decide) (fun zc6 => ?_) (fun zc6 => ?_)
  · skip
    have zn6 := z0_f zc6
    exact absurd zn6 (by decide)
  · skip
    have zn6 := z0_t (by omega) zc6
    refine z_iconst (v := nI 0) C (by decide) dX7_shortest_9 ?_
    refine z_widen (k := 1) (q := 1000) (Nat.le_of_ble_eq_true rfl) (Nat.le_of_ble_eq_true rfl) ?_
    exact z_iret C hr hlocks hQ (xs u 0 0 (nI 1)) (⟨rfl, xs_s _ _ _ _, mQ_1 hM _⟩) (fun _ _ => rfl) dX7_shortest_10
