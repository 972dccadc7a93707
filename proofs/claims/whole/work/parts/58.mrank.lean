theorem rk_go1 {w : xS} {n : Nat} {B : Nat → Nat → Nat} {up lo k : Nat} (h : ∀ q, q < n → w.1 7 q = if q < k then nI (rkB B up lo q 5) else nI (B q 5)) (hu : up.testBit k = true) : ∀ q, q < n → (xs w 7 k (nI (B k 5 ||| lo))).1 7 q = if q < k + 1 then nI (rkB B up lo q 5) else nI (B q 5) := by
  intro q hq
  by_cases z : q = k
  · subst z
    rw [xs_s, if_pos (by omega), rkB_5, if_pos hu]
  · rw [xs_j z, h q hq]
    by_cases y : q < k
    · rw [if_pos y, if_pos (by omega)]
    · rw [if_neg y, if_neg (by omega)]
theorem rk_go0 {w : xS} {n : Nat} {B : Nat → Nat → Nat} {up lo k : Nat} (h : ∀ q, q < n → w.1 7 q = if q < k then nI (rkB B up lo q 5) else nI (B q 5)) (hu : ¬ up.testBit k = true) : ∀ q, q < n → w.1 7 q = if q < k + 1 then nI (rkB B up lo q 5) else nI (B q 5) := by
  intro q hq
  by_cases z : q = k
  · subst z
    rw [h q hq, if_neg (Nat.lt_irrefl q), if_pos (by omega), rkB_5, if_neg hu, Nat.or_zero]
  · rw [h q hq]
    by_cases y : q < k
    · rw [if_pos y, if_pos (by omega)]
    · rw [if_neg y, if_neg (by omega)]
/-- a situation with a triggered rule has a ready one -/
theorem ct_less {p q : Nat → Bool} {n j : Nat} (h : ∀ k, k < n → p k = true → q k = true) (hj : j < n) (h1 : p j = false) (h2 : q j = true) : fb_ct p n < fb_ct q n := by
  have a := fb_ct_upd p true hj
  rw [h1] at a
  have b : fb_ct (fun k => if k = j then true else p k) n ≤ fb_ct q n := fb_ct_sub fun k hk hp => by
    by_cases z : k = j
    · rw [z]; exact h2
    · rw [if_neg z] at hp; exact h k hk hp
  rw [if_neg (by decide), if_pos rfl, Nat.add_zero] at a
  omega
theorem rdy_some {n : Nat} {B : Nat → Nat → Nat} (hB : gB n B) {t : Nat} (ht : t < 256) : ∀ c i, i < 8 → t.testBit i = true → fb_ct (fun j => (B j 5).testBit i) 8 ≤ c → ∃ r, r < 8 ∧ (rdy B t).testBit r = true := by
  intro c
  induction c with
  | zero =>
    intro i hi hb hc
    exact ⟨i, hi, (rdy_bit ht).mpr ⟨hb, fun j hj _ => fb_ct_zero.mp (Nat.le_zero.mp hc) j hj⟩⟩
  | succ c ih =>
    intro i hi hb hc
    by_cases z : ∃ j, j < 8 ∧ t.testBit j = true ∧ (B j 5).testBit i = true
    · obtain ⟨j, hj, h1, h2⟩ := z
      refine ih j hj h1 ?_
      have : fb_ct (fun k => (B k 5).testBit j) 8 < fb_ct (fun k => (B k 5).testBit i) 8 := ct_less (fun k hk h => hB.2.2.2.2 k j i hk hj hi h h2) hj (hB.2.2.2.1 j hj) h2
      omega
    · exact ⟨i, hi, (rdy_bit ht).mpr ⟨hb, fun j hj h => Bool.eq_false_iff.mpr fun y => z ⟨j, hj, h, y⟩⟩⟩
theorem bit_some {t : Nat} (ht : t < 256) (h0 : t ≠ 0) : ∃ i, i < 8 ∧ t.testBit i = true := by
  by_cases z : ∃ i, i < 8 ∧ t.testBit i = true
  · exact z
  · refine absurd (Nat.eq_of_testBit_eq fun i => ?_) h0
    rw [Nat.zero_testBit]
    rcases Nat.lt_or_ge i 8 with q | q
    · exact Bool.eq_false_iff.mpr fun y => z ⟨i, q, y⟩
    · exact t8 ht q
theorem rdy_ne {n : Nat} {B : Nat → Nat → Nat} (hB : gB n B) {t : Nat} (ht : t < 256) (h0 : t ≠ 0) : ∃ r, r < 8 ∧ (rdy B t).testBit r = true := by
  obtain ⟨i, hi, hb⟩ := bit_some ht h0
  exact rdy_some hB ht _ i hi hb (Nat.le_refl _)
theorem rdy_z (B : Nat → Nat → Nat) : rdy B 0 = 0 := by
  refine Nat.eq_of_testBit_eq fun i => ?_
  rw [Nat.zero_testBit]
  refine Bool.eq_false_iff.mpr fun y => ?_
  have := ((rdy_bit (by decide)).mp y).1
  rw [Nat.zero_testBit] at this
  exact absurd this (by decide)
theorem frs_lt {n : Nat} {B : Nat → Nat → Nat} (hB : gB n B) {t : Nat} (ht : t < 256) (h0 : t ≠ 0) : frs B t < 8 := by
  obtain ⟨r, hr, hb⟩ := rdy_ne hB ht h0
  rw [rdy_1 hr] at hb
  unfold frs
  rcases Nat.lt_or_ge (fa_first (fun k => rdy1 B k t) 8) 8 with q | q
  · exact q
  · exact absurd hb (by rw [fa_first_no (fun k => rdy1 B k t) 8 r (by omega)]; decide)
theorem frs_0 (B : Nat → Nat → Nat) : frs B 0 = 8 := frs_no fun j hj => by
  rw [← rdy_1 hj, rdy_z, Nat.zero_testBit]
def ntz (m : Nat) : Nat := fa_first (fun k => m.testBit k) 8
theorem ntz_rdy (B : Nat → Nat → Nat) (t : Nat) : ntz (rdy B t) = frs B t := fir_cong fun j hj => rdy_1 hj
theorem ntz_tab : ∀ m, m < 256 → m ≠ 0 → (nI m ^^^ (-1)) &&& (nI m - nI 1) = nI (2 ^ ntz m - 1) ∧ ntz m < 8 := by decide +kernel
theorem i8_cases {k : Nat} (h : k < 8) : k = 0 ∨ k = 1 ∨ k = 2 ∨ k = 3 ∨ k = 4 ∨ k = 5 ∨ k = 6 ∨ k = 7 := by omega

set_option maxHeartbeats 4000000 in
set_option maxRecDepth 100000 in
theorem c_X7_rank (l : Launch) (D : va_G) (ad : Nat → Nat) (cI cL cB : ClassId) (hI : gI 12 ad) (u : xS) (n : Nat) (B : Nat → Nat → Nat) (hB : gB n B) (x : Nat) (hx : x < 64 * 2 ^ n) (hM : mI u n B x) (i : Nat) (hi : i < n) (j : Nat) (hj : j < n) (hij : ¬ i = j) (hno : (B j 5).testBit i = false) : ∀ sz, Met l yX7_rank wsX7_rank ({ frames := 1, cells := 0, slots := 0, locals := 21 }) (MP D ad cI cL cB u [.ref (ad 0), .int (nI i), .int (nI j)] sz) (va_Qi (fun r_ u' => r_ = (if (B i 5).testBit j = true then 0 else 1) ∧ u'.1 0 0 = nI 0 ∧ mQ u' n (rkB B (abv B i ||| 2 ^ i) (B j 5 ||| 2 ^ j)) x 0) (MB D ad cI cL cB) (gA 12 ad sz)) 0 0 (gA 12 ad sz) := by
  intro sz
  refine z_met (cc := cX7_rank) (maxL := 6) (ret := (some .boolean)) (by decide) rfl (Nat.le_of_ble_eq_true rfl) ?_
  intro pq lq sq mq aq Qq bq hmq cq C hr hml hown hts hlocks hK hX hsz hQ
  subst hsz
  have hT7 : ∀ w ∈ wsX70, w.before aq sq = true := fun w h => hts w ((by decide +kernel : ∀ w ∈ wsX70, w ∈ wsX7_rank) w h)
  refine z_sub (L' := [(0, .ref (ad 0)), (1, .int (nI i)), (2, .int (nI j))]) [0, 1, 2] rfl ?_
  have hn8 : n ≤ 8 := hB.1
  have hi8 : i < 8 := Nat.lt_of_lt_of_le hi hB.1
  have hj8 : j < 8 := Nat.lt_of_lt_of_le hj hB.1
  have gi : B i 5 < 256 := gB_5 hB hi8
  have gj : B j 5 < 256 := gB_5 hB hj8
  refine z_aload_n C dX7_rank_0 0 rfl ?_
  refine z_aload_n C dX7_rank_1 0 rfl ?_
  refine z_iload_n C dX7_rank_2 1 rfl ?_
  refine z_callVi mX_ok C hml hown hts hK hX (c_X7_isRule_vh l D ad cI cL cB hI u n hB.1 (mR_n hM.1) i hi) (cwV 1 hts gX7_rank_X7_isRule rfl rfl rfl (by decide +kernel) ⟨Nat.le_of_ble_eq_true rfl, Nat.le_of_ble_eq_true rfl⟩) (by decide) (ci := 7) rfl rfl rfl (st := [.ref (ad 0)]) rfl (Nat.le_of_ble_eq_true rfl) dX7_rank_3 ⟨Nat.le_of_ble_eq_true rfl, Nat.le_of_ble_eq_true rfl⟩ (fun r3 u3 h3 => ?_)
  obtain ⟨zr3, zu3⟩ := h3
  subst r3
  subst u3
  refine z_if_eq (tgt := 17) C dX7_rank_6 (by decide) (fun zc6 => ?_) (fun zc6 => ?_)
  · skip
    have zn6 := z0_t (by omega) zc6
    exact absurd zn6 (by decide)
  · skip
    have zn6 := z0_f zc6
    refine z_aload_n C dX7_rank_9 0 rfl ?_
    refine z_iload_n C dX7_rank_10 2 rfl ?_
    refine z_callVi mX_ok C hml hown hts hK hX (c_X7_isRule_vh l D ad cI cL cB hI u n hB.1 (mR_n hM.1) j hj) (cwV 1 hts gX7_rank_X7_isRule rfl rfl rfl (by decide +kernel) ⟨Nat.le_of_ble_eq_true rfl, Nat.le_of_ble_eq_true rfl⟩) (by decide) (ci := 7) rfl rfl rfl (st := [.ref (ad 0)]) rfl (Nat.le_of_ble_eq_true rfl) dX7_rank_11 ⟨Nat.le_of_ble_eq_true rfl, Nat.le_of_ble_eq_true rfl⟩ (fun r11 u11 h11 => ?_)
    obtain ⟨zr11, zu11⟩ := h11
    subst r11
    subst u11
    refine z_if_ne (tgt := 21) C dX7_rank_14 (by decide) (fun zc14 => ?_) (fun zc14 => ?_)
    · skip
      have zn14 := z0_f zc14
      refine z_iload_n C dX7_rank_21 1 rfl ?_
      refine z_iload_n C dX7_rank_22 2 rfl ?_
      refine z_icmp_eq (tgt := 39) C dX7_rank_23 (by decide) (fun zc23 => ?_) (fun zc23 => ?_)
      · skip
        have zn23 := zeq_t (a := i) (b := j) (by omega) (by omega) zc23
        exact False.elim (by omega)
      · skip
        have zn23 := zeq_f (a := i) (b := j) zc23
        refine z_aload_n C dX7_rank_26 0 rfl ?_
        refine z_get (q := 0) C (T := TX7) (N := 18) (ci := 7) (own := RX7) (index := 29) (v := .ref (ad 7)) hT7 hown hK (by decide) rfl rfl 8 (by decide) (hts (.fieldLink RX7 29 "TriggerAnalyzerModel" "below" "[I") (by decide +kernel)) (fun _ h9 => h9) rfl dX7_rank_27 ?_
        refine z_iload_n C dX7_rank_30 2 rfl ?_
        refine z_iald (q := 7) (len := 8) (k := j) C hK (by decide) rfl 0 rfl (rfl) (by omega) (by decide) dX7_rank_31 ?_
        refine z_topi (y := nI (B j 5)) (mR_5 hM.1 (by omega)) ?_
        refine z_iload_n C dX7_rank_32 1 rfl ?_
        refine z_callSi mX_ok C hml hown hts hK hX (c_X7_has l D ad cI cL cB hI u (B j 5) (by omega) i (by omega)) (va_cwS 2 hts gX7_rank_X7_has rfl rfl rfl (by decide +kernel) ⟨Nat.le_of_ble_eq_true rfl, Nat.le_of_ble_eq_true rfl⟩) rfl (st := [.ref (ad 0)]) rfl (Nat.le_of_ble_eq_true rfl) dX7_rank_33 ⟨Nat.le_of_ble_eq_true rfl, Nat.le_of_ble_eq_true rfl⟩ (fun r33 u33 h33 => ?_)
        obtain ⟨zr33, zu33⟩ := h33
        subst r33
        subst u33
        refine z_topi (y := nI 0) (by rw [hno]; rfl) ?_
        refine z_if_eq (tgt := 43) C dX7_rank_36 (by decide) (fun zc36 => ?_) (fun zc36 => ?_)
        · skip
          have zn36 := z0_t (by omega) zc36
          refine z_iconst (v := nI 0) C (by decide) dX7_rank_43 ?_
          refine z_put (q := 0) C hI tyX7 (T := TX7) (N := 18) (ci := 7) (own := RX7) (index := 45) hT7 hown hK (by decide) rfl rfl 0 (by decide) (hts (.fieldLink RX7 45 "TriggerAnalyzerModel" "thrown" "I") (by decide +kernel)) (fun _ h9 => h9) tyX7_ok nmX7 rfl rfl rfl (Nat.le_of_ble_eq_true rfl) (f' := mF ad cI cL cB ((xs u 0 0 (nI 0)))) rfl mF_ne dX7_rank_44 ?_
          refine z_aload_n C dX7_rank_47 0 rfl ?_
          refine z_get (q := 0) C (T := TX7) (N := 18) (ci := 7) (own := RX7) (index := 45) (v := .int ((xs u 0 0 (nI 0)).1 0 0)) hT7 hown hK (by decide) rfl rfl 0 (by decide) (hts (.fieldLink RX7 45 "TriggerAnalyzerModel" "thrown" "I") (by decide +kernel)) (fun _ h9 => h9) rfl dX7_rank_48 ?_
          refine z_topi (y := nI 0) (xs_s _ _ _ _) ?_
          refine z_if_eq (tgt := 56) C dX7_rank_51 (by decide) (fun zc51 => ?_) (fun zc51 => ?_)
          · skip
            have zn51 := z0_t (by omega) zc51
            have join75 : ∀ (b3 : Int32), (b3 = (if (B i 5).testBit j = true then 0 else 1)) → ZZ pq l lq { frames := 1, cells := 0, slots := 0, locals := 21 } sq mq aq bq hmq cq D vwCl 12 ad 6 0 0 Qq (mF ad cI cL cB ((xs u 0 0 (nI 0)))) [(0, .ref (ad 0)), (1, .int (nI i)), (2, .int (nI j)), (3, .int (b3))] 75 [] := by
              intro b3 hb3
              refine z_aload_n C dX7_rank_75 0 rfl ?_
              refine z_get (q := 0) C (T := TX7) (N := 18) (ci := 7) (own := RX7) (index := 29) (v := .ref (ad 7)) hT7 hown hK (by decide) rfl rfl 8 (by decide) (hts (.fieldLink RX7 29 "TriggerAnalyzerModel" "below" "[I") (by decide +kernel)) (fun _ h9 => h9) rfl dX7_rank_76 ?_
              refine z_iload_n C dX7_rank_79 2 rfl ?_
              refine z_iald (q := 7) (len := 8) (k := j) C hK (by decide) rfl 0 rfl (rfl) (by omega) (by decide) dX7_rank_80 ?_
              refine z_topi (y := u.1 7 j) (xs_c (by decide) _) ?_
              refine z_topi (y := nI (B j 5)) (mR_5 hM.1 (by omega)) ?_
              refine z_iconst (v := nI 1) C (by decide) dX7_rank_81 ?_
              refine z_iload_n C dX7_rank_82 2 rfl ?_
              refine z_ishl C dX7_rank_83 ?_
              refine z_topi (y := nI (2 ^ j)) (zi_shl1 (by omega)) ?_
              refine z_ior C dX7_rank_84 ?_
              refine z_topi (y := nI ((B j 5) ||| (2 ^ j))) (fa_or (B j 5) (2 ^ j)) ?_
              refine z_istore (L' := [(4, .int (nI ((B j 5) ||| (2 ^ j)))), (0, .ref (ad 0)), (1, .int (nI i)), (2, .int (nI j)), (3, .int (b3))]) C dX7_rank_85 (by decide) rfl ?_
              refine z_iconst (v := nI 0) C (by decide) dX7_rank_87 ?_
              refine z_istore (L' := [(5, .int (nI 0)), (4, .int (nI ((B j 5) ||| (2 ^ j)))), (0, .ref (ad 0)), (1, .int (nI i)), (2, .int (nI j)), (3, .int (b3))]) C dX7_rank_88 (by decide) rfl ?_
              have loop90 : ∀ (d90 : Nat) (k : Nat) (w : xS), n - k < d90 → (k ≤ n) → (∀ q, q ≠ 7 → w.1 q = (xs u 0 0 (nI 0)).1 q) → (w.1 0 1 = u.1 0 1) → (∀ q, q < n → w.1 7 q = if q < k then nI (rkB B (abv B i ||| 2 ^ i) (B j 5 ||| 2 ^ j) q 5) else nI (B q 5)) → ZZ pq l lq { frames := 1, cells := 0, slots := 0, locals := 21 } sq mq aq bq hmq cq D vwCl 12 ad 6 0 0 Qq (mF ad cI cL cB w) [(0, .ref (ad 0)), (1, .int (nI i)), (2, .int (nI j)), (3, .int (b3)), (4, .int (nI (B j 5 ||| 2 ^ j))), (5, .int (nI k))] 90 [] := by
                intro d90
                induction d90 with
                | zero => intro k w hz; exact absurd hz (Nat.not_lt_zero _)
                | succ d90 ih90 =>
                  intro k w hz90 hk hw0 hw1 hw7
                  refine z_iload C dX7_rank_90 5 rfl ?_
                  refine z_aload_n C dX7_rank_92 0 rfl ?_
                  refine z_get (q := 0) C (T := TX7) (N := 18) (ci := 7) (own := RX7) (index := 49) (v := .int (w.1 0 1)) hT7 hown hK (by decide) rfl rfl 1 (by decide) (hts (.fieldLink RX7 49 "TriggerAnalyzerModel" "rules" "I") (by decide +kernel)) (fun _ h9 => h9) rfl dX7_rank_93 ?_
                  refine z_topi (y := nI n) (hw1.trans (mR_n hM.1)) ?_
                  refine z_icmp_ge (tgt := 137) C dX7_rank_96 (by decide) (fun zc96 => ?_) (fun zc96 => ?_)
                  · skip
                    have zn96 := zge_t (a := k) (b := n) (by omega) (by omega) zc96
                    refine z_aload_n C dX7_rank_137 0 rfl ?_
                    refine z_iconst (v := nI 0) C (by decide) dX7_rank_138 ?_
                    refine z_put (q := 0) C hI tyX7 (T := TX7) (N := 18) (ci := 7) (own := RX7) (index := 67) hT7 hown hK (by decide) rfl rfl 11 (by decide) (hts (.fieldLink RX7 67 "TriggerAnalyzerModel" "isExplored" "Z") (by decide +kernel)) (fun _ h9 => h9) tyX7_ok nmX7 rfl rfl rfl (Nat.le_of_ble_eq_true rfl) (f' := mF ad cI cL cB ((xs w 0 11 (nI 0)))) rfl mF_ne dX7_rank_139 ?_
                    refine z_iload_n C dX7_rank_142 3 rfl ?_
                    exact z_zret C hr hlocks (by rw [hb3]; split <;> rfl) hQ ((xs w 0 11 (nI 0))) (⟨hb3, by rw [xs_j (by decide), hw0 0 (by decide), xs_s], mQ_of (mR_s (mR_rk hM.1 (abv B i ||| 2 ^ i) (B j 5 ||| 2 ^ j) hw1 (fun q h1 h2 => (hw0 q (by omega)).trans (xs_r (by omega))) (fun q hq => (hw7 q hq).trans (if_pos (by omega)))) (Or.inl ⟨rfl, by decide⟩)) (by rw [xs_j (by decide), hw0 0 (by decide), xs_j (by decide)]; exact hM.2.1) (by rw [xs_j (by decide), hw0 0 (by decide), xs_j (by decide)]; exact hM.2.2.1) ((xs_s _ _ _ _).trans rfl)⟩) (fun _ _ => rfl) dX7_rank_143
                  · skip
                    have zn96 := zge_f (a := k) (b := n) (by omega) (by omega) zc96
                    refine z_iload C dX7_rank_99 5 rfl ?_
                    refine z_iload_n C dX7_rank_101 1 rfl ?_
                    refine z_icmp_eq (tgt := 119) C dX7_rank_102 (by decide) (fun zc102 => ?_) (fun zc102 => ?_)
                    · skip
                      have zn102 := zeq_t (a := k) (b := i) (by omega) (by omega) zc102
                      have hup : (abv B i ||| 2 ^ i).testBit k = true := (rk_U (by omega)).mpr (Or.inl zn102)
                      refine z_aload_n C dX7_rank_119 0 rfl ?_
                      refine z_get (q := 0) C (T := TX7) (N := 18) (ci := 7) (own := RX7) (index := 29) (v := .ref (ad 7)) hT7 hown hK (by decide) rfl rfl 8 (by decide) (hts (.fieldLink RX7 29 "TriggerAnalyzerModel" "below" "[I") (by decide +kernel)) (fun _ h9 => h9) rfl dX7_rank_120 ?_
                      refine z_iload C dX7_rank_123 5 rfl ?_
                      refine z_dup2 C rfl rfl dX7_rank_125 ?_
                      refine z_iald (q := 7) (len := 8) (k := k) C hK (by decide) rfl 0 rfl (rfl) (by omega) (by decide) dX7_rank_126 ?_
                      refine z_topi (y := nI (B k 5)) ((hw7 k (by omega)).trans (if_neg (Nat.lt_irrefl k))) ?_
                      refine z_iload C dX7_rank_127 4 rfl ?_
                      refine z_ior C dX7_rank_129 ?_
                      refine z_topi (y := nI ((B k 5) ||| (B j 5 ||| 2 ^ j))) (fa_or (B k 5) (B j 5 ||| 2 ^ j)) ?_
                      refine z_iast (q := 7) (len := 8) (k := k) C hI hK (by decide) rfl 0 rfl (rfl) (by omega) (by decide) (f' := mF ad cI cL cB ((xs w 7 k (nI ((B k 5) ||| (B j 5 ||| 2 ^ j)))))) rfl mF_ne dX7_rank_130 ?_
                      refine z_iinc (L' := [(5, .int (nI (k + 1))), (0, .ref (ad 0)), (1, .int (nI i)), (2, .int (nI j)), (3, .int (b3)), (4, .int (nI (B j 5 ||| 2 ^ j)))]) C dX7_rank_131 5 rfl (nI_1 k) (by decide) rfl ?_
                      refine z_goto (tgt := 90) C dX7_rank_134 (by decide) ?_
                      refine z_sub (L' := [(0, .ref (ad 0)), (1, .int (nI i)), (2, .int (nI j)), (3, .int (b3)), (4, .int (nI (B j 5 ||| 2 ^ j))), (5, .int (nI (k + 1)))]) [1, 2, 3, 4, 5, 0] rfl ?_
                      exact ih90 (k + 1) (xs w 7 k (nI (B k 5 ||| (B j 5 ||| 2 ^ j)))) (by omega) (by omega) (fun q hq => (xs_r hq).trans (hw0 q hq)) ((xs_c (by decide) _).trans hw1) (rk_go1 hw7 hup)
                    · skip
                      have zn102 := zeq_f (a := k) (b := i) zc102
                      refine z_aload_n C dX7_rank_105 0 rfl ?_
                      refine z_get (q := 0) C (T := TX7) (N := 18) (ci := 7) (own := RX7) (index := 29) (v := .ref (ad 7)) hT7 hown hK (by decide) rfl rfl 8 (by decide) (hts (.fieldLink RX7 29 "TriggerAnalyzerModel" "below" "[I") (by decide +kernel)) (fun _ h9 => h9) rfl dX7_rank_106 ?_
                      refine z_iload C dX7_rank_109 5 rfl ?_
                      refine z_iald (q := 7) (len := 8) (k := k) C hK (by decide) rfl 0 rfl (rfl) (by omega) (by decide) dX7_rank_111 ?_
                      refine z_topi (y := nI (B k 5)) ((hw7 k (by omega)).trans (if_neg (Nat.lt_irrefl k))) ?_
                      refine z_iload_n C dX7_rank_112 1 rfl ?_
                      refine z_callSi mX_ok C hml hown hts hK hX (c_X7_has l D ad cI cL cB hI w (B k 5) (by have := gB_5 hB (show k < 8 by omega); omega) i (by omega)) (va_cwS 2 hts gX7_rank_X7_has rfl rfl rfl (by decide +kernel) ⟨Nat.le_of_ble_eq_true rfl, Nat.le_of_ble_eq_true rfl⟩) rfl (st := []) rfl (Nat.le_of_ble_eq_true rfl) dX7_rank_113 ⟨Nat.le_of_ble_eq_true rfl, Nat.le_of_ble_eq_true rfl⟩ (fun r113 u113 h113 => ?_)
                      obtain ⟨zr113, zu113⟩ := h113
                      subst r113
                      subst u113
                      refine z_if_eq (tgt := 131) C dX7_rank_116 (by decide) (fun zc116 => ?_) (fun zc116 => ?_)
                      · skip
                        have hb := z1f zc116
                        refine z_iinc (L' := [(5, .int (nI (k + 1))), (0, .ref (ad 0)), (1, .int (nI i)), (2, .int (nI j)), (3, .int (b3)), (4, .int (nI (B j 5 ||| 2 ^ j)))]) C dX7_rank_131 5 rfl (nI_1 k) (by decide) rfl ?_
                        refine z_goto (tgt := 90) C dX7_rank_134 (by decide) ?_
                        refine z_sub (L' := [(0, .ref (ad 0)), (1, .int (nI i)), (2, .int (nI j)), (3, .int (b3)), (4, .int (nI (B j 5 ||| 2 ^ j))), (5, .int (nI (k + 1)))]) [1, 2, 3, 4, 5, 0] rfl ?_
                        exact ih90 (k + 1) w (by omega) (by omega) hw0 hw1 (rk_go0 hw7 (fun z => ((rk_U (by omega)).mp z).elim zn102 hb))
                      · skip
                        have hb := z1t zc116
                        refine z_aload_n C dX7_rank_119 0 rfl ?_
                        refine z_get (q := 0) C (T := TX7) (N := 18) (ci := 7) (own := RX7) (index := 29) (v := .ref (ad 7)) hT7 hown hK (by decide) rfl rfl 8 (by decide) (hts (.fieldLink RX7 29 "TriggerAnalyzerModel" "below" "[I") (by decide +kernel)) (fun _ h9 => h9) rfl dX7_rank_120 ?_
                        refine z_iload C dX7_rank_123 5 rfl ?_
                        refine z_dup2 C rfl rfl dX7_rank_125 ?_
                        refine z_iald (q := 7) (len := 8) (k := k) C hK (by decide) rfl 0 rfl (rfl) (by omega) (by decide) dX7_rank_126 ?_
                        refine z_topi (y := nI (B k 5)) ((hw7 k (by omega)).trans (if_neg (Nat.lt_irrefl k))) ?_
                        refine z_iload C dX7_rank_127 4 rfl ?_
                        refine z_ior C dX7_rank_129 ?_
                        refine z_topi (y := nI ((B k 5) ||| (B j 5 ||| 2 ^ j))) (fa_or (B k 5) (B j 5 ||| 2 ^ j)) ?_
                        refine z_iast (q := 7) (len := 8) (k := k) C hI hK (by decide) rfl 0 rfl (rfl) (by omega) (by decide) (f' := mF ad cI cL cB ((xs w 7 k (nI ((B k 5) ||| (B j 5 ||| 2 ^ j)))))) rfl mF_ne dX7_rank_130 ?_
                        refine z_iinc (L' := [(5, .int (nI (k + 1))), (0, .ref (ad 0)), (1, .int (nI i)), (2, .int (nI j)), (3, .int (b3)), (4, .int (nI (B j 5 ||| 2 ^ j)))]) C dX7_rank_131 5 rfl (nI_1 k) (by decide) rfl ?_
                        refine z_goto (tgt := 90) C dX7_rank_134 (by decide) ?_
                        refine z_sub (L' := [(0, .ref (ad 0)), (1, .int (nI i)), (2, .int (nI j)), (3, .int (b3)), (4, .int (nI (B j 5 ||| 2 ^ j))), (5, .int (nI (k + 1)))]) [1, 2, 3, 4, 5, 0] rfl ?_
                        exact ih90 (k + 1) (xs w 7 k (nI (B k 5 ||| (B j 5 ||| 2 ^ j)))) (by omega) (by omega) (fun q hq => (xs_r hq).trans (hw0 q hq)) ((xs_c (by decide) _).trans hw1) (rk_go1 hw7 ((rk_U (by omega)).mpr (Or.inr hb)))
              refine z_sub (L' := [(0, .ref (ad 0)), (1, .int (nI i)), (2, .int (nI j)), (3, .int (b3)), (4, .int (nI ((B j 5) ||| (2 ^ j)))), (5, .int (nI 0))]) [2, 3, 4, 5, 1, 0] rfl ?_
              exact loop90 (n + 1) 0 (xs u 0 0 (nI 0)) (by omega) (by omega) (fun _ _ => rfl) (xs_j (by decide)) (fun q hq => by rw [if_neg (Nat.not_lt_zero q), xs_c (by decide)]; exact mR_5 hM.1 hq)
            refine z_aload_n C dX7_rank_56 0 rfl ?_
            refine z_get (q := 0) C (T := TX7) (N := 18) (ci := 7) (own := RX7) (index := 29) (v := .ref (ad 7)) hT7 hown hK (by decide) rfl rfl 8 (by decide) (hts (.fieldLink RX7 29 "TriggerAnalyzerModel" "below" "[I") (by decide +kernel)) (fun _ h9 => h9) rfl dX7_rank_57 ?_
            refine z_iload_n C dX7_rank_60 1 rfl ?_
            refine z_iald (q := 7) (len := 8) (k := i) C hK (by decide) rfl 0 rfl (rfl) (by omega) (by decide) dX7_rank_61 ?_
            refine z_topi (y := u.1 7 i) (xs_c (by decide) _) ?_
            refine z_topi (y := nI (B i 5)) (mR_5 hM.1 (by omega)) ?_
            refine z_iload_n C dX7_rank_62 2 rfl ?_
            refine z_callSi mX_ok C hml hown hts hK hX (c_X7_has l D ad cI cL cB hI ((xs u 0 0 (nI 0))) (B i 5) (by omega) j (by omega)) (va_cwS 2 hts gX7_rank_X7_has rfl rfl rfl (by decide +kernel) ⟨Nat.le_of_ble_eq_true rfl, Nat.le_of_ble_eq_true rfl⟩) rfl (st := []) rfl (Nat.le_of_ble_eq_true rfl) dX7_rank_63 ⟨Nat.le_of_ble_eq_true rfl, Nat.le_of_ble_eq_true rfl⟩ (fun r63 u63 h63 => ?_)
            obtain ⟨zr63, zu63⟩ := h63
            subst r63
            subst u63
            refine z_if_ne (tgt := 73) C dX7_rank_66 (by decide) (fun zc66 => ?_) (fun zc66 => ?_)
            · skip
              have h66 := z1t zc66
              refine z_iconst (v := nI 0) C (by decide) dX7_rank_73 ?_
              refine z_istore_n (L' := [(3, .int (nI 0)), (0, .ref (ad 0)), (1, .int (nI i)), (2, .int (nI j))]) C dX7_rank_74 (by decide) rfl ?_
              refine z_sub (L' := [(0, .ref (ad 0)), (1, .int (nI i)), (2, .int (nI j)), (3, .int (nI 0))]) [1, 2, 3, 0] rfl ?_
              exact join75 (nI 0) (if_pos h66).symm
            · skip
              have h66 := z1f zc66
              refine z_iconst (v := nI 1) C (by decide) dX7_rank_69 ?_
              refine z_goto (tgt := 74) C dX7_rank_70 (by decide) ?_
              refine z_istore_n (L' := [(3, .int (nI 1)), (0, .ref (ad 0)), (1, .int (nI i)), (2, .int (nI j))]) C dX7_rank_74 (by decide) rfl ?_
              refine z_sub (L' := [(0, .ref (ad 0)), (1, .int (nI i)), (2, .int (nI j)), (3, .int (nI 1))]) [1, 2, 3, 0] rfl ?_
              exact join75 (nI 1) (if_neg h66).symm
          · skip
            have zn51 := z0_f zc51
            exact absurd zn51 (by decide)
        · skip
          have zn36 := z0_f zc36
          exact absurd zn36 (by decide)
    · skip
      have zn14 := z0_t (by omega) zc14
      exact absurd zn14 (by decide)

set_option maxHeartbeats 4000000 in
set_option maxRecDepth 100000 in
theorem c_X7_rank_x1 (l : Launch) (D : va_G) (ad : Nat → Nat) (cI cL cB : ClassId) (hI : gI 12 ad) (u : xS) (n : Nat) (B : Nat → Nat → Nat) (hB : gB n B) (x : Nat) (hx : x < 64 * 2 ^ n) (hM : mI u n B x) (x1 : Int32) (hf : bad n x1) (x2 : Int32) : ∀ sz, Met l yX7_rank wsX7_rank ({ frames := 1, cells := 0, slots := 0, locals := 21 }) (MP D ad cI cL cB u [.ref (ad 0), .int (x1), .int (x2)] sz) (va_Qi (fun r_ u' => r_ = nI 0 ∧ u'.1 0 0 = nI 1 ∧ mQ u' n B x (u.1 0 11)) (MB D ad cI cL cB) (gA 12 ad sz)) 0 0 (gA 12 ad sz) := by
  intro sz
  refine z_met (cc := cX7_rank) (maxL := 6) (ret := (some .boolean)) (by decide) rfl (Nat.le_of_ble_eq_true rfl) ?_
  intro pq lq sq mq aq Qq bq hmq cq C hr hml hown hts hlocks hK hX hsz hQ
  subst hsz
  have hT7 : ∀ w ∈ wsX70, w.before aq sq = true := fun w h => hts w ((by decide +kernel : ∀ w ∈ wsX70, w ∈ wsX7_rank) w h)
  refine z_sub (L' := [(0, .ref (ad 0)), (1, .int (x1)), (2, .int (x2))]) [0, 1, 2] rfl ?_
  refine z_aload_n C dX7_rank_0 0 rfl ?_
  refine z_aload_n C dX7_rank_1 0 rfl ?_
  refine z_iload_n C dX7_rank_2 1 rfl ?_
  refine z_callVi mX_ok C hml hown hts hK hX (c_X7_isRule_x l D ad cI cL cB hI u n hB.1 (mR_n hM.1) x1 hf) (cwV 1 hts gX7_rank_X7_isRule rfl rfl rfl (by decide +kernel) ⟨Nat.le_of_ble_eq_true rfl, Nat.le_of_ble_eq_true rfl⟩) (by decide) (ci := 7) rfl rfl rfl (st := [.ref (ad 0)]) rfl (Nat.le_of_ble_eq_true rfl) dX7_rank_3 ⟨Nat.le_of_ble_eq_true rfl, Nat.le_of_ble_eq_true rfl⟩ (fun r3 u3 h3 => ?_)
  obtain ⟨zr3, zu3⟩ := h3
  subst r3
  subst u3
  refine z_if_eq (tgt := 17) C dX7_rank_6 (by decide) (fun zc6 => ?_) (fun zc6 => ?_)
  · skip
    have zn6 := z0_t (by omega) zc6
    refine z_iconst (v := nI 1) C (by decide) dX7_rank_17 ?_
    refine z_goto (tgt := 44) C dX7_rank_18 (by decide) ?_
    refine z_put (q := 0) C hI tyX7 (T := TX7) (N := 18) (ci := 7) (own := RX7) (index := 45) hT7 hown hK (by decide) rfl rfl 0 (by decide) (hts (.fieldLink RX7 45 "TriggerAnalyzerModel" "thrown" "I") (by decide +kernel)) (fun _ h9 => h9) tyX7_ok nmX7 rfl rfl rfl (Nat.le_of_ble_eq_true rfl) (f' := mF ad cI cL cB ((xs u 0 0 (nI 1)))) rfl mF_ne dX7_rank_44 ?_
    refine z_aload_n C dX7_rank_47 0 rfl ?_
    refine z_get (q := 0) C (T := TX7) (N := 18) (ci := 7) (own := RX7) (index := 45) (v := .int ((xs u 0 0 (nI 1)).1 0 0)) hT7 hown hK (by decide) rfl rfl 0 (by decide) (hts (.fieldLink RX7 45 "TriggerAnalyzerModel" "thrown" "I") (by decide +kernel)) (fun _ h9 => h9) rfl dX7_rank_48 ?_
    refine z_topi (y := nI 1) (xs_s _ _ _ _) ?_
    refine z_if_eq (tgt := 56) C dX7_rank_51 (by decide) (fun zc51 => ?_) (fun zc51 => ?_)
    · skip
      have zn51 := z0_t (by omega) zc51
      exact absurd zn51 (by decide)
    · skip
      have zn51 := z0_f zc51
      refine z_iconst (v := nI 0) C (by decide) dX7_rank_54 ?_
      exact z_zret C hr hlocks rfl hQ ((xs u 0 0 (nI 1))) (⟨rfl, xs_s _ _ _ _, mQ_1 hM _⟩) (fun _ _ => rfl) dX7_rank_55
  · skip
    have zn6 := z0_f zc6
    exact absurd zn6 (by decide)

set_option maxHeartbeats 4000000 in
set_option maxRecDepth 100000 in
theorem c_X7_rank_x2 (l : Launch) (D : va_G) (ad : Nat → Nat) (cI cL cB : ClassId) (hI : gI 12 ad) (u : xS) (n : Nat) (B : Nat → Nat → Nat) (hB : gB n B) (x : Nat) (hx : x < 64 * 2 ^ n) (hM : mI u n B x) (i : Nat) (hi : i < n) (x2 : Int32) (hf : bad n x2) : ∀ sz, Met l yX7_rank wsX7_rank ({ frames := 1, cells := 0, slots := 0, locals := 21 }) (MP D ad cI cL cB u [.ref (ad 0), .int (nI i), .int (x2)] sz) (va_Qi (fun r_ u' => r_ = nI 0 ∧ u'.1 0 0 = nI 1 ∧ mQ u' n B x (u.1 0 11)) (MB D ad cI cL cB) (gA 12 ad sz)) 0 0 (gA 12 ad sz) := by
  intro sz
  refine z_met (cc := cX7_rank) (maxL := 6) (ret := (some .boolean)) (by decide) rfl (Nat.le_of_ble_eq_true rfl) ?_
  intro pq lq sq mq aq Qq bq hmq cq C hr hml hown hts hlocks hK hX hsz hQ
  subst hsz
  have hT7 : ∀ w ∈ wsX70, w.before aq sq = true := fun w h => hts w ((by decide +kernel : ∀ w ∈ wsX70, w ∈ wsX7_rank) w h)
  refine z_sub (L' := [(0, .ref (ad 0)), (1, .int (nI i)), (2, .int (x2))]) [0, 1, 2] rfl ?_
  refine z_aload_n C dX7_rank_0 0 rfl ?_
  refine z_aload_n C dX7_rank_1 0 rfl ?_
  refine z_iload_n C dX7_rank_2 1 rfl ?_
  refine z_callVi mX_ok C hml hown hts hK hX (c_X7_isRule_vh l D ad cI cL cB hI u n hB.1 (mR_n hM.1) i hi) (cwV 1 hts gX7_rank_X7_isRule rfl rfl rfl (by decide +kernel) ⟨Nat.le_of_ble_eq_true rfl, Nat.le_of_ble_eq_true rfl⟩) (by decide) (ci := 7) rfl rfl rfl (st := [.ref (ad 0)]) rfl (Nat.le_of_ble_eq_true rfl) dX7_rank_3 ⟨Nat.le_of_ble_eq_true rfl, Nat.le_of_ble_eq_true rfl⟩ (fun r3 u3 h3 => ?_)
  obtain ⟨zr3, zu3⟩ := h3
  subst r3
  subst u3
  refine z_if_eq (tgt := 17) C dX7_rank_6 (by decide) (fun zc6 => ?_) (fun zc6 => ?_)
  · skip
    have zn6 := z0_t (by omega) zc6
    exact absurd zn6 (by decide)
  · skip
    have zn6 := z0_f zc6
    refine z_aload_n C dX7_rank_9 0 rfl ?_
    refine z_iload_n C dX7_rank_10 2 rfl ?_
    refine z_callVi mX_ok C hml hown hts hK hX (c_X7_isRule_x l D ad cI cL cB hI u n hB.1 (mR_n hM.1) x2 hf) (cwV 1 hts gX7_rank_X7_isRule rfl rfl rfl (by decide +kernel) ⟨Nat.le_of_ble_eq_true rfl, Nat.le_of_ble_eq_true rfl⟩) (by decide) (ci := 7) rfl rfl rfl (st := [.ref (ad 0)]) rfl (Nat.le_of_ble_eq_true rfl) dX7_rank_11 ⟨Nat.le_of_ble_eq_true rfl, Nat.le_of_ble_eq_true rfl⟩ (fun r11 u11 h11 => ?_)
    obtain ⟨zr11, zu11⟩ := h11
    subst r11
    subst u11
    refine z_if_ne (tgt := 21) C dX7_rank_14 (by decide) (fun zc14 => ?_) (fun zc14 => ?_)
    · skip
      have zn14 := z0_f zc14
      exact absurd zn14 (by decide)
    · skip
      have zn14 := z0_t (by omega) zc14
      refine z_iconst (v := nI 1) C (by decide) dX7_rank_17 ?_
      refine z_goto (tgt := 44) C dX7_rank_18 (by decide) ?_
      refine z_put (q := 0) C hI tyX7 (T := TX7) (N := 18) (ci := 7) (own := RX7) (index := 45) hT7 hown hK (by decide) rfl rfl 0 (by decide) (hts (.fieldLink RX7 45 "TriggerAnalyzerModel" "thrown" "I") (by decide +kernel)) (fun _ h9 => h9) tyX7_ok nmX7 rfl rfl rfl (Nat.le_of_ble_eq_true rfl) (f' := mF ad cI cL cB ((xs u 0 0 (nI 1)))) rfl mF_ne dX7_rank_44 ?_
      refine z_aload_n C dX7_rank_47 0 rfl ?_
      refine z_get (q := 0) C (T := TX7) (N := 18) (ci := 7) (own := RX7) (index := 45) (v := .int ((xs u 0 0 (nI 1)).1 0 0)) hT7 hown hK (by decide) rfl rfl 0 (by decide) (hts (.fieldLink RX7 45 "TriggerAnalyzerModel" "thrown" "I") (by decide +kernel)) (fun _ h9 => h9) rfl dX7_rank_48 ?_
      refine z_topi (y := nI 1) (xs_s _ _ _ _) ?_
      refine z_if_eq (tgt := 56) C dX7_rank_51 (by decide) (fun zc51 => ?_) (fun zc51 => ?_)
      · skip
        have zn51 := z0_t (by omega) zc51
        exact absurd zn51 (by decide)
      · skip
        have zn51 := z0_f zc51
        refine z_iconst (v := nI 0) C (by decide) dX7_rank_54 ?_
        exact z_zret C hr hlocks rfl hQ ((xs u 0 0 (nI 1))) (⟨rfl, xs_s _ _ _ _, mQ_1 hM _⟩) (fun _ _ => rfl) dX7_rank_55

set_option maxHeartbeats 4000000 in
set_option maxRecDepth 100000 in
theorem c_X7_rank_x3 (l : Launch) (D : va_G) (ad : Nat → Nat) (cI cL cB : ClassId) (hI : gI 12 ad) (u : xS) (n : Nat) (B : Nat → Nat → Nat) (hB : gB n B) (x : Nat) (hx : x < 64 * 2 ^ n) (hM : mI u n B x) (i : Nat) (hi : i < n) : ∀ sz, Met l yX7_rank wsX7_rank ({ frames := 1, cells := 0, slots := 0, locals := 21 }) (MP D ad cI cL cB u [.ref (ad 0), .int (nI i), .int (nI i)] sz) (va_Qi (fun r_ u' => r_ = nI 0 ∧ u'.1 0 0 = nI 2 ∧ mQ u' n B x (u.1 0 11)) (MB D ad cI cL cB) (gA 12 ad sz)) 0 0 (gA 12 ad sz) := by
  intro sz
  refine z_met (cc := cX7_rank) (maxL := 6) (ret := (some .boolean)) (by decide) rfl (Nat.le_of_ble_eq_true rfl) ?_
  intro pq lq sq mq aq Qq bq hmq cq C hr hml hown hts hlocks hK hX hsz hQ
  subst hsz
  have hT7 : ∀ w ∈ wsX70, w.before aq sq = true := fun w h => hts w ((by decide +kernel : ∀ w ∈ wsX70, w ∈ wsX7_rank) w h)
  refine z_sub (L' := [(0, .ref (ad 0)), (1, .int (nI i)), (2, .int (nI i))]) [0, 1, 2] rfl ?_
  have hn8 : n ≤ 8 := hB.1
  have hi8 : i < 8 := Nat.lt_of_lt_of_le hi hB.1
  refine z_aload_n C dX7_rank_0 0 rfl ?_
  refine z_aload_n C dX7_rank_1 0 rfl ?_
  refine z_iload_n C dX7_rank_2 1 rfl ?_
  refine z_callVi mX_ok C hml hown hts hK hX (c_X7_isRule_vh l D ad cI cL cB hI u n hB.1 (mR_n hM.1) i hi) (cwV 1 hts gX7_rank_X7_isRule rfl rfl rfl (by decide +kernel) ⟨Nat.le_of_ble_eq_true rfl, Nat.le_of_ble_eq_true rfl⟩) (by decide) (ci := 7) rfl rfl rfl (st := [.ref (ad 0)]) rfl (Nat.le_of_ble_eq_true rfl) dX7_rank_3 ⟨Nat.le_of_ble_eq_true rfl, Nat.le_of_ble_eq_true rfl⟩ (fun r3 u3 h3 => ?_)
  obtain ⟨zr3, zu3⟩ := h3
  subst r3
  subst u3
  refine z_if_eq (tgt := 17) C dX7_rank_6 (by decide) (fun zc6 => ?_) (fun zc6 => ?_)
  · skip
    have zn6 := z0_t (by omega) zc6
    exact absurd zn6 (by decide)
  · skip
    have zn6 := z0_f zc6
    refine z_aload_n C dX7_rank_9 0 rfl ?_
    refine z_iload_n C dX7_rank_10 2 rfl ?_
    refine z_callVi mX_ok C hml hown hts hK hX (c_X7_isRule_vh l D ad cI cL cB hI u n hB.1 (mR_n hM.1) i hi) (cwV 1 hts gX7_rank_X7_isRule rfl rfl rfl (by decide +kernel) ⟨Nat.le_of_ble_eq_true rfl, Nat.le_of_ble_eq_true rfl⟩) (by decide) (ci := 7) rfl rfl rfl (st := [.ref (ad 0)]) rfl (Nat.le_of_ble_eq_true rfl) dX7_rank_11 ⟨Nat.le_of_ble_eq_true rfl, Nat.le_of_ble_eq_true rfl⟩ (fun r11 u11 h11 => ?_)
    obtain ⟨zr11, zu11⟩ := h11
    subst r11
    subst u11
    refine z_if_ne (tgt := 21) C dX7_rank_14 (by decide) (fun zc14 => ?_) (fun zc14 => ?_)
    · skip
      have zn14 := z0_f zc14
      refine z_iload_n C dX7_rank_21 1 rfl ?_
      refine z_iload_n C dX7_rank_22 2 rfl ?_
      refine z_icmp_eq (tgt := 39) C dX7_rank_23 (by decide) (fun zc23 => ?_) (fun zc23 => ?_)
      · skip
        have zn23 := zeq_t (a := i) (b := i) (by omega) (by omega) zc23
        refine z_iconst (v := nI 2) C (by decide) dX7_rank_39 ?_
        refine z_goto (tgt := 44) C dX7_rank_40 (by decide) ?_
        refine z_put (q := 0) C hI tyX7 (T := TX7) (N := 18) (ci := 7) (own := RX7) (index := 45) hT7 hown hK (by decide) rfl rfl 0 (by decide) (hts (.fieldLink RX7 45 "TriggerAnalyzerModel" "thrown" "I") (by decide +kernel)) (fun _ h9 => h9) tyX7_ok nmX7 rfl rfl rfl (Nat.le_of_ble_eq_true rfl) (f' := mF ad cI cL cB ((xs u 0 0 (nI 2)))) rfl mF_ne dX7_rank_44 ?_
        refine z_aload_n C dX7_rank_47 0 rfl ?_
        refine z_get (q := 0) C (T := TX7) (N := 18) (ci := 7) (own := RX7) (index := 45) (v := .int ((xs u 0 0 (nI 2)).1 0 0)) hT7 hown hK (by decide) rfl rfl 0 (by decide) (hts (.fieldLink RX7 45 "TriggerAnalyzerModel" "thrown" "I") (by decide +kernel)) (fun _ h9 => h9) rfl dX7_rank_48 ?_
        refine z_topi (y := nI 2) (xs_s _ _ _ _) ?_
        refine z_if_eq (tgt := 56) C dX7_rank_51 (by decide) (fun zc51 => ?_) (fun zc51 => ?_)
        · skip
          have zn51 := z0_t (by omega) zc51
          exact absurd zn51 (by decide)
        · skip
          have zn51 := z0_f zc51
          refine z_iconst (v := nI 0) C (by decide) dX7_rank_54 ?_
          exact z_zret C hr hlocks rfl hQ ((xs u 0 0 (nI 2))) (⟨rfl, xs_s _ _ _ _, mQ_1 hM _⟩) (fun _ _ => rfl) dX7_rank_55
      · skip
        have zn23 := zeq_f (a := i) (b := i) zc23
        exact False.elim (zn23 rfl)
    · skip
      have zn14 := z0_t (by omega) zc14
      exact absurd zn14 (by decide)

set_option maxHeartbeats 4000000 in
set_option maxRecDepth 100000 in
theorem c_X7_rank_x4 (l : Launch) (D : va_G) (ad : Nat → Nat) (cI cL cB : ClassId) (hI : gI 12 ad) (u : xS) (n : Nat) (B : Nat → Nat → Nat) (hB : gB n B) (x : Nat) (hx : x < 64 * 2 ^ n) (hM : mI u n B x) (i : Nat) (hi : i < n) (j : Nat) (hj : j < n) (hij : ¬ i = j) (hno : (B j 5).testBit i = true) : ∀ sz, Met l yX7_rank wsX7_rank ({ frames := 1, cells := 0, slots := 0, locals := 21 }) (MP D ad cI cL cB u [.ref (ad 0), .int (nI i), .int (nI j)] sz) (va_Qi (fun r_ u' => r_ = nI 0 ∧ u'.1 0 0 = nI 2 ∧ mQ u' n B x (u.1 0 11)) (MB D ad cI cL cB) (gA 12 ad sz)) 0 0 (gA 12 ad sz) := by
  intro sz
  refine z_met (cc := cX7_rank) (maxL := 6) (ret := (some .boolean)) (by decide) rfl (Nat.le_of_ble_eq_true rfl) ?_
  intro pq lq sq mq aq Qq bq hmq cq C hr hml hown hts hlocks hK hX hsz hQ
  subst hsz
  have hT7 : ∀ w ∈ wsX70, w.before aq sq = true := fun w h => hts w ((by decide +kernel : ∀ w ∈ wsX70, w ∈ wsX7_rank) w h)
  refine z_sub (L' := [(0, .ref (ad 0)), (1, .int (nI i)), (2, .int (nI j))]) [0, 1, 2] rfl ?_
  have hn8 : n ≤ 8 := hB.1
  have hi8 : i < 8 := Nat.lt_of_lt_of_le hi hB.1
  have hj8 : j < 8 := Nat.lt_of_lt_of_le hj hB.1
  have gi : B i 5 < 256 := gB_5 hB hi8
  have gj : B j 5 < 256 := gB_5 hB hj8
  refine z_aload_n C dX7_rank_0 0 rfl ?_
  refine z_aload_n C dX7_rank_1 0 rfl ?_
  refine z_iload_n C dX7_rank_2 1 rfl ?_
  refine z_callVi mX_ok C hml hown hts hK hX (c_X7_isRule_vh l D ad cI cL cB hI u n hB.1 (mR_n hM.1) i hi) (cwV 1 hts gX7_rank_X7_isRule rfl rfl rfl (by decide +kernel) ⟨Nat.le_of_ble_eq_true rfl, Nat.le_of_ble_eq_true rfl⟩) (by decide) (ci := 7) rfl rfl rfl (st := [.ref (ad 0)]) rfl (Nat.le_of_ble_eq_true rfl) dX7_rank_3 ⟨Nat.le_of_ble_eq_true rfl, Nat.le_of_ble_eq_true rfl⟩ (fun r3 u3 h3 => ?_)
  obtain ⟨zr3, zu3⟩ := h3
  subst r3
  subst u3
  refine z_if_eq (tgt := 17) C dX7_rank_6 (by decide) (fun zc6 => ?_) (fun zc6 => ?_)
  · skip
    have zn6 := z0_t (by omega) zc6
    exact absurd zn6 (by decide)
  · skip
    have zn6 := z0_f zc6
    refine z_aload_n C dX7_rank_9 0 rfl ?_
    refine z_iload_n C dX7_rank_10 2 rfl ?_
    refine z_callVi mX_ok C hml hown hts hK hX (c_X7_isRule_vh l D ad cI cL cB hI u n hB.1 (mR_n hM.1) j hj) (cwV 1 hts gX7_rank_X7_isRule rfl rfl rfl (by decide +kernel) ⟨Nat.le_of_ble_eq_true rfl, Nat.le_of_ble_eq_true rfl⟩) (by decide) (ci := 7) rfl rfl rfl (st := [.ref (ad 0)]) rfl (Nat.le_of_ble_eq_true rfl) dX7_rank_11 ⟨Nat.le_of_ble_eq_true rfl, Nat.le_of_ble_eq_true rfl⟩ (fun r11 u11 h11 => ?_)
    obtain ⟨zr11, zu11⟩ := h11
    subst r11
    subst u11
    refine z_if_ne (tgt := 21) C dX7_rank_14 (by decide) (fun zc14 => ?_) (fun zc14 => ?_)
    · skip
      have zn14 := z0_f zc14
      refine z_iload_n C dX7_rank_21 1 rfl ?_
      refine z_iload_n C dX7_rank_22 2 rfl ?_
      refine z_icmp_eq (tgt := 39) C dX7_rank_23 (by decide) (fun zc23 => ?_) (fun zc23 => ?_)
      · skip
        have zn23 := zeq_t (a := i) (b := j) (by omega) (by omega) zc23
        exact False.elim (by omega)
      · skip
        have zn23 := zeq_f (a := i) (b := j) zc23
        refine z_aload_n C dX7_rank_26 0 rfl ?_
        refine z_get (q := 0) C (T := TX7) (N := 18) (ci := 7) (own := RX7) (index := 29) (v := .ref (ad 7)) hT7 hown hK (by decide) rfl rfl 8 (by decide) (hts (.fieldLink RX7 29 "TriggerAnalyzerModel" "below" "[I") (by decide +kernel)) (fun _ h9 => h9) rfl dX7_rank_27 ?_
        refine z_iload_n C dX7_rank_30 2 rfl ?_
        refine z_iald (q := 7) (len := 8) (k := j) C hK (by decide) rfl 0 rfl (rfl) (by omega) (by decide) dX7_rank_31 ?_
        refine z_topi (y := nI (B j 5)) (mR_5 hM.1 (by omega)) ?_
        refine z_iload_n C dX7_rank_32 1 rfl ?_
        refine z_callSi mX_ok C hml hown hts hK hX (c_X7_has l D ad cI cL cB hI u (B j 5) (by omega) i (by omega)) (va_cwS 2 hts gX7_rank_X7_has rfl rfl rfl (by decide +kernel) ⟨Nat.le_of_ble_eq_true rfl, Nat.le_of_ble_eq_true rfl⟩) rfl (st := [.ref (ad 0)]) rfl (Nat.le_of_ble_eq_true rfl) dX7_rank_33 ⟨Nat.le_of_ble_eq_true rfl, Nat.le_of_ble_eq_true rfl⟩ (fun r33 u33 h33 => ?_)
        obtain ⟨zr33, zu33⟩ := h33
        subst r33
        subst u33
        refine z_topi (y := nI 1) (by rw [if_pos hno]; rfl) ?_
        refine z_if_eq (tgt := 43) C dX7_rank_36 (by decide) (fun zc36 => ?_) (fun zc36 => ?_)
        · skip
          have zn36 := z0_t (by omega) zc36
          exact absurd zn36 (by decide)
        · skip
          have zn36 := z0_f zc36
          refine z_iconst (v := nI 2) C (by decide) dX7_rank_39 ?_
          refine z_goto (tgt := 44) C dX7_rank_40 (by decide) ?_
          refine z_put (q := 0) C hI tyX7 (T := TX7) (N := 18) (ci := 7) (own := RX7) (index := 45) hT7 hown hK (by decide) rfl rfl 0 (by decide) (hts (.fieldLink RX7 45 "TriggerAnalyzerModel" "thrown" "I") (by decide +kernel)) (fun _ h9 => h9) tyX7_ok nmX7 rfl rfl rfl (Nat.le_of_ble_eq_true rfl) (f' := mF ad cI cL cB ((xs u 0 0 (nI 2)))) rfl mF_ne dX7_rank_44 ?_
          refine z_aload_n C dX7_rank_47 0 rfl ?_
          refine z_get (q := 0) C (T := TX7) (N := 18) (ci := 7) (own := RX7) (index := 45) (v := .int ((xs u 0 0 (nI 2)).1 0 0)) hT7 hown hK (by decide) rfl rfl 0 (by decide) (hts (.fieldLink RX7 45 "TriggerAnalyzerModel" "thrown" "I") (by decide +kernel)) (fun _ h9 => h9) rfl dX7_rank_48 ?_
          refine z_topi (y := nI 2) (xs_s _ _ _ _) ?_
          refine z_if_eq (tgt := 56) C dX7_rank_51 (by decide) (fun zc51 => ?_) (fun zc51 => ?_)
          · skip
            have zn51 := z0_t (by omega) zc51
            exact absurd zn51 (by decide)
          · skip
            have zn51 := z0_f zc51
            refine z_iconst (v := nI 0) C (by decide) dX7_rank_54 ?_
            exact z_zret C hr hlocks rfl hQ ((xs u 0 0 (nI 2))) (⟨rfl, xs_s _ _ _ _, mQ_1 hM _⟩) (fun _ _ => rfl) dX7_rank_55
    · skip
      have zn14 := z0_t (by omega) zc14
      exact absurd zn14 (by decide)

set_option maxHeartbeats 4000000 in
set_option maxRecDepth 100000 in
theorem c_J6_numberOfTrailingZeros_0f7a4_t0 (l : Launch) (D : va_G) (ad : Nat → Nat) (cI cL cB : ClassId) (hI : gI 12 ad) (u : xS) (m : Nat) (h : (nI m ^^^ (-1)) &&& (nI m - nI 1) = nI 0) : ∀ sz, Met l yJ6_numberOfTrailingZeros_0f7a4 wsJ6_numberOfTrailingZeros_0f7a4 ({ frames := 0, cells := 0, slots := 0, locals := 0 }) (MP D ad cI cL cB u [.int (nI m)] sz) (va_Qi (fun r_ u' => r_ = nI 0 ∧ u' = u) (MB D ad cI cL cB) (gA 12 ad sz)) 0 0 (gA 12 ad sz) := by
  intro sz
  refine z_met (cc := cJ6_numberOfTrailingZeros_0f7a4) (maxL := 2) (ret := (some .int)) (by decide) rfl (Nat.le_of_ble_eq_true rfl) ?_
  intro pq lq sq mq aq Qq bq hmq cq C hr hml hown hts hlocks hK hX hsz hQ
  subst hsz
  refine z_sub (L' := [(0, .int (nI m))]) [0] rfl ?_
  refine z_iload_n C dJ6_numberOfTrailingZeros_0f7a4_0 0 rfl ?_
  refine z_iconst (v := (-1)) C (by decide) dJ6_numberOfTrailingZeros_0f7a4_1 ?_
  refine z_ixor C dJ6_numberOfTrailingZeros_0f7a4_2 ?_
  refine z_iload_n C dJ6_numberOfTrailingZeros_0f7a4_3 0 rfl ?_
  refine z_iconst (v := nI 1) C (by decide) dJ6_numberOfTrailingZeros_0f7a4_4 ?_
  refine z_isub C dJ6_numberOfTrailingZeros_0f7a4_5 ?_
  refine z_iand C dJ6_numberOfTrailingZeros_0f7a4_6 ?_
  refine z_topi (y := nI 0) (h) ?_
  refine z_istore_n (L' := [(0, .int (nI 0))]) C dJ6_numberOfTrailingZeros_0f7a4_7 (by decide) rfl ?_
  refine z_iload_n C dJ6_numberOfTrailingZeros_0f7a4_8 0 rfl ?_
  refine z_if_gt (tgt := 17) C dJ6_numberOfTrailingZeros_0f7a4_9 (by decide) (fun zc9 => ?_) (fun zc9 => ?_)
  · skip
    have zn9 := zpos_t (by omega) zc9
    exact False.elim (by omega)
  · skip
    have zn9 := zpos_f (by omega) zc9
    refine z_iload_n C dJ6_numberOfTrailingZeros_0f7a4_12 0 rfl ?_
    refine z_bipush (v := nI 32) C (by decide) dJ6_numberOfTrailingZeros_0f7a4_13 ?_
    refine z_iand C dJ6_numberOfTrailingZeros_0f7a4_15 ?_
    refine z_topi (y := nI (0 &&& 32)) (fa_and 0 32) ?_
    exact z_iret C hr hlocks hQ u (⟨rfl, rfl⟩) (fun _ _ => rfl) dJ6_numberOfTrailingZeros_0f7a4_16

set_option maxHeartbeats 4000000 in
set_option maxRecDepth 100000 in
theorem c_J6_numberOfTrailingZeros_0f7a4_t1 (l : Launch) (D : va_G) (ad : Nat → Nat) (cI cL cB : ClassId) (hI : gI 12 ad) (u : xS) (m : Nat) (h : (nI m ^^^ (-1)) &&& (nI m - nI 1) = nI 1) : ∀ sz, Met l yJ6_numberOfTrailingZeros_0f7a4 wsJ6_numberOfTrailingZeros_0f7a4 ({ frames := 0, cells := 0, slots := 0, locals := 0 }) (MP D ad cI cL cB u [.int (nI m)] sz) (va_Qi (fun r_ u' => r_ = nI 1 ∧ u' = u) (MB D ad cI cL cB) (gA 12 ad sz)) 0 0 (gA 12 ad sz) := by
  intro sz
  refine z_met (cc := cJ6_numberOfTrailingZeros_0f7a4) (maxL := 2) (ret := (some .int)) (by decide) rfl (Nat.le_of_ble_eq_true rfl) ?_
  intro pq lq sq mq aq Qq bq hmq cq C hr hml hown hts hlocks hK hX hsz hQ
  subst hsz
  refine z_sub (L' := [(0, .int (nI m))]) [0] rfl ?_
  refine z_iload_n C dJ6_numberOfTrailingZeros_0f7a4_0 0 rfl ?_
  refine z_iconst (v := (-1)) C (by decide) dJ6_numberOfTrailingZeros_0f7a4_1 ?_
  refine z_ixor C dJ6_numberOfTrailingZeros_0f7a4_2 ?_
  refine z_iload_n C dJ6_numberOfTrailingZeros_0f7a4_3 0 rfl ?_
  refine z_iconst (v := nI 1) C (by decide) dJ6_numberOfTrailingZeros_0f7a4_4 ?_
  refine z_isub C dJ6_numberOfTrailingZeros_0f7a4_5 ?_
  refine z_iand C dJ6_numberOfTrailingZeros_0f7a4_6 ?_
  refine z_topi (y := nI 1) (h) ?_
  refine z_istore_n (L' := [(0, .int (nI 1))]) C dJ6_numberOfTrailingZeros_0f7a4_7 (by decide) rfl ?_
  refine z_iload_n C dJ6_numberOfTrailingZeros_0f7a4_8 0 rfl ?_
  refine z_if_gt (tgt := 17) C dJ6_numberOfTrailingZeros_0f7a4_9 (by decide) (fun zc9 => ?_) (fun zc9 => ?_)
  · skip
    have zn9 := zpos_t (by omega) zc9
    refine z_iconst (v := nI 1) C (by decide) dJ6_numberOfTrailingZeros_0f7a4_17 ?_
    refine z_istore_n (L' := [(1, .int (nI 1)), (0, .int (nI 1))]) C dJ6_numberOfTrailingZeros_0f7a4_18 (by decide) rfl ?_
    refine z_iload_n C dJ6_numberOfTrailingZeros_0f7a4_19 1 rfl ?_
    refine z_ldcw (v := (65536)) C hown (hts (.constant RJ6 264 (65536)) (by decide +kernel)) dJ6_numberOfTrailingZeros_0f7a4_20 ?_
    refine z_icmp_le (tgt := 34) C dJ6_numberOfTrailingZeros_0f7a4_23 (by decide) (fun zc23 => ?_) (fun zc23 => ?_)
    · skip
      have zn23 := zge_t (a := 65536) (b := 1) (by omega) (by omega) zc23
      refine z_iload_n C dJ6_numberOfTrailingZeros_0f7a4_34 1 rfl ?_
      refine z_sipush (v := nI 256) C (by decide) dJ6_numberOfTrailingZeros_0f7a4_35 ?_
      refine z_icmp_le (tgt := 49) C dJ6_numberOfTrailingZeros_0f7a4_38 (by decide) (fun zc38 => ?_) (fun zc38 => ?_)
      · skip
        have zn38 := zge_t (a := 256) (b := 1) (by omega) (by omega) zc38
        refine z_iload_n C dJ6_numberOfTrailingZeros_0f7a4_49 1 rfl ?_
        refine z_bipush (v := nI 16) C (by decide) dJ6_numberOfTrailingZeros_0f7a4_50 ?_
        refine z_icmp_le (tgt := 62) C dJ6_numberOfTrailingZeros_0f7a4_52 (by decide) (fun zc52 => ?_) (fun zc52 => ?_)
        · skip
          have zn52 := zge_t (a := 16) (b := 1) (by omega) (by omega) zc52
          refine z_iload_n C dJ6_numberOfTrailingZeros_0f7a4_62 1 rfl ?_
          refine z_iconst (v := nI 4) C (by decide) dJ6_numberOfTrailingZeros_0f7a4_63 ?_
          refine z_icmp_le (tgt := 74) C dJ6_numberOfTrailingZeros_0f7a4_64 (by decide) (fun zc64 => ?_) (fun zc64 => ?_)
          · skip
            have zn64 := zge_t (a := 4) (b := 1) (by omega) (by omega) zc64
            refine z_iload_n C dJ6_numberOfTrailingZeros_0f7a4_74 0 rfl ?_
            refine z_iload_n C dJ6_numberOfTrailingZeros_0f7a4_75 1 rfl ?_
            refine z_iconst (v := nI 1) C (by decide) dJ6_numberOfTrailingZeros_0f7a4_76 ?_
            refine z_iushr C rfl dJ6_numberOfTrailingZeros_0f7a4_77 ?_
            refine z_topi (y := nI 0) (by decide) ?_
            refine z_iadd C dJ6_numberOfTrailingZeros_0f7a4_78 ?_
            refine z_topi (y := nI (1 + 0)) (nI_add 1 0) ?_
            exact z_iret C hr hlocks hQ u (⟨rfl, rfl⟩) (fun _ _ => rfl) dJ6_numberOfTrailingZeros_0f7a4_79
          · skip
            have zn64 := zge_f (a := 4) (b := 1) (by omega) (by omega) zc64
            exact absurd zn64 (by decide)
        · skip
          have zn52 := zge_f (a := 16) (b := 1) (by omega) (by omega) zc52
          exact absurd zn52 (by decide)
      · skip
        have zn38 := zge_f (a := 256) (b := 1) (by omega) (by omega) zc38
        exact absurd zn38 (by decide)
    · skip
      have zn23 := zge_f (a := 65536) (b := 1) (by omega) (by omega) zc23
      exact absurd zn23 (by decide)
  · skip
    have zn9 := zpos_f (by omega) zc9
    exact False.elim (by omega)

set_option maxHeartbeats 4000000 in
set_option maxRecDepth 100000 in
theorem c_J6_numberOfTrailingZeros_0f7a4_t2 (l : Launch) (D : va_G) (ad : Nat → Nat) (cI cL cB : ClassId) (hI : gI 12 ad) (u : xS) (m : Nat) (h : (nI m ^^^ (-1)) &&& (nI m - nI 1) = nI 3) : ∀ sz, Met l yJ6_numberOfTrailingZeros_0f7a4 wsJ6_numberOfTrailingZeros_0f7a4 ({ frames := 0, cells := 0, slots := 0, locals := 0 }) (MP D ad cI cL cB u [.int (nI m)] sz) (va_Qi (fun r_ u' => r_ = nI 2 ∧ u' = u) (MB D ad cI cL cB) (gA 12 ad sz)) 0 0 (gA 12 ad sz) := by
  intro sz
  refine z_met (cc := cJ6_numberOfTrailingZeros_0f7a4) (maxL := 2) (ret := (some .int)) (by decide) rfl (Nat.le_of_ble_eq_true rfl) ?_
  intro pq lq sq mq aq Qq bq hmq cq C hr hml hown hts hlocks hK hX hsz hQ
  subst hsz
  refine z_sub (L' := [(0, .int (nI m))]) [0] rfl ?_
  refine z_iload_n C dJ6_numberOfTrailingZeros_0f7a4_0 0 rfl ?_
  refine z_iconst (v := (-1)) C (by decide) dJ6_numberOfTrailingZeros_0f7a4_1 ?_
  refine z_ixor C dJ6_numberOfTrailingZeros_0f7a4_2 ?_
  refine z_iload_n C dJ6_numberOfTrailingZeros_0f7a4_3 0 rfl ?_
  refine z_iconst (v := nI 1) C (by decide) dJ6_numberOfTrailingZeros_0f7a4_4 ?_
  refine z_isub C dJ6_numberOfTrailingZeros_0f7a4_5 ?_
  refine z_iand C dJ6_numberOfTrailingZeros_0f7a4_6 ?_
  refine z_topi (y := nI 3) (h) ?_
  refine z_istore_n (L' := [(0, .int (nI 3))]) C dJ6_numberOfTrailingZeros_0f7a4_7 (by decide) rfl ?_
  refine z_iload_n C dJ6_numberOfTrailingZeros_0f7a4_8 0 rfl ?_
  refine z_if_gt (tgt := 17) C dJ6_numberOfTrailingZeros_0f7a4_9 (by decide) (fun zc9 => ?_) (fun zc9 => ?_)
  · skip
    have zn9 := zpos_t (by omega) zc9
    refine z_iconst (v := nI 1) C (by decide) dJ6_numberOfTrailingZeros_0f7a4_17 ?_
    refine z_istore_n (L' := [(1, .int (nI 1)), (0, .int (nI 3))]) C dJ6_numberOfTrailingZeros_0f7a4_18 (by decide) rfl ?_
    refine z_iload_n C dJ6_numberOfTrailingZeros_0f7a4_19 1 rfl ?_
    refine z_ldcw (v := (65536)) C hown (hts (.constant RJ6 264 (65536)) (by decide +kernel)) dJ6_numberOfTrailingZeros_0f7a4_20 ?_
    refine z_icmp_le (tgt := 34) C dJ6_numberOfTrailingZeros_0f7a4_23 (by decide) (fun zc23 => ?_) (fun zc23 => ?_)
    · skip
      have zn23 := zge_t (a := 65536) (b := 3) (by omega) (by omega) zc23
      refine z_iload_n C dJ6_numberOfTrailingZeros_0f7a4_34 1 rfl ?_
      refine z_sipush (v := nI 256) C (by decide) dJ6_numberOfTrailingZeros_0f7a4_35 ?_
      refine z_icmp_le (tgt := 49) C dJ6_numberOfTrailingZeros_0f7a4_38 (by decide) (fun zc38 => ?_) (fun zc38 => ?_)
      · skip
        have zn38 := zge_t (a := 256) (b := 3) (by omega) (by omega) zc38
        refine z_iload_n C dJ6_numberOfTrailingZeros_0f7a4_49 1 rfl ?_
        refine z_bipush (v := nI 16) C (by decide) dJ6_numberOfTrailingZeros_0f7a4_50 ?_
        refine z_icmp_le (tgt := 62) C dJ6_numberOfTrailingZeros_0f7a4_52 (by decide) (fun zc52 => ?_) (fun zc52 => ?_)
        · skip
          have zn52 := zge_t (a := 16) (b := 3) (by omega) (by omega) zc52
          refine z_iload_n C dJ6_numberOfTrailingZeros_0f7a4_62 1 rfl ?_
          refine z_iconst (v := nI 4) C (by decide) dJ6_numberOfTrailingZeros_0f7a4_63 ?_
          refine z_icmp_le (tgt := 74) C dJ6_numberOfTrailingZeros_0f7a4_64 (by decide) (fun zc64 => ?_) (fun zc64 => ?_)
          · skip
            have zn64 := zge_t (a := 4) (b := 3) (by omega) (by omega) zc64
            refine z_iload_n C dJ6_numberOfTrailingZeros_0f7a4_74 0 rfl ?_
            refine z_iload_n C dJ6_numberOfTrailingZeros_0f7a4_75 1 rfl ?_
            refine z_iconst (v := nI 1) C (by decide) dJ6_numberOfTrailingZeros_0f7a4_76 ?_
            refine z_iushr C rfl dJ6_numberOfTrailingZeros_0f7a4_77 ?_
            refine z_topi (y := nI 1) (by decide) ?_
            refine z_iadd C dJ6_numberOfTrailingZeros_0f7a4_78 ?_
            refine z_topi (y := nI (1 + 1)) (nI_add 1 1) ?_
            exact z_iret C hr hlocks hQ u (⟨rfl, rfl⟩) (fun _ _ => rfl) dJ6_numberOfTrailingZeros_0f7a4_79
          · skip
            have zn64 := zge_f (a := 4) (b := 3) (by omega) (by omega) zc64
            exact absurd zn64 (by decide)
        · skip
          have zn52 := zge_f (a := 16) (b := 3) (by omega) (by omega) zc52
          exact absurd zn52 (by decide)
      · skip
        have zn38 := zge_f (a := 256) (b := 3) (by omega) (by omega) zc38
        exact absurd zn38 (by decide)
    · skip
      have zn23 := zge_f (a := 65536) (b := 3) (by omega) (by omega) zc23
      exact absurd zn23 (by decide)
  · skip
    have zn9 := zpos_f (by omega) zc9
    exact False.elim (by omega)

set_option maxHeartbeats 4000000 in
set_option maxRecDepth 100000 in
theorem c_J6_numberOfTrailingZeros_0f7a4_t3 (l : Launch) (D : va_G) (ad : Nat → Nat) (cI cL cB : ClassId) (hI : gI 12 ad) (u : xS) (m : Nat) (h : (nI m ^^^ (-1)) &&& (nI m - nI 1) = nI 7) : ∀ sz, Met l yJ6_numberOfTrailingZeros_0f7a4 wsJ6_numberOfTrailingZeros_0f7a4 ({ frames := 0, cells := 0, slots := 0, locals := 0 }) (MP D ad cI cL cB u [.int (nI m)] sz) (va_Qi (fun r_ u' => r_ = nI 3 ∧ u' = u) (MB D ad cI cL cB) (gA 12 ad sz)) 0 0 (gA 12 ad sz) := by
  intro sz
  refine z_met (cc := cJ6_numberOfTrailingZeros_0f7a4) (maxL := 2) (ret := (some .int)) (by decide) rfl (Nat.le_of_ble_eq_true rfl) ?_
  intro pq lq sq mq aq Qq bq hmq cq C hr hml hown hts hlocks hK hX hsz hQ
  subst hsz
  refine z_sub (L' := [(0, .int (nI m))]) [0] rfl ?_
  refine z_iload_n C dJ6_numberOfTrailingZeros_0f7a4_0 0 rfl ?_
  refine z_iconst (v := (-1)) C (by decide) dJ6_numberOfTrailingZeros_0f7a4_1 ?_
  refine z_ixor C dJ6_numberOfTrailingZeros_0f7a4_2 ?_
  refine z_iload_n C dJ6_numberOfTrailingZeros_0f7a4_3 0 rfl ?_
  refine z_iconst (v := nI 1) C (by decide) dJ6_numberOfTrailingZeros_0f7a4_4 ?_
  refine z_isub C dJ6_numberOfTrailingZeros_0f7a4_5 ?_
  refine z_iand C dJ6_numberOfTrailingZeros_0f7a4_6 ?_
  refine z_topi (y := nI 7) (h) ?_
  refine z_istore_n (L' := [(0, .int (nI 7))]) C dJ6_numberOfTrailingZeros_0f7a4_7 (by decide) rfl ?_
  refine z_iload_n C dJ6_numberOfTrailingZeros_0f7a4_8 0 rfl ?_
  refine z_if_gt (tgt := 17) C dJ6_numberOfTrailingZeros_0f7a4_9 (by decide) (fun zc9 => ?_) (fun zc9 => ?_)
  · skip
    have zn9 := zpos_t (by omega) zc9
    refine z_iconst (v := nI 1) C (by decide) dJ6_numberOfTrailingZeros_0f7a4_17 ?_
    refine z_istore_n (L' := [(1, .int (nI 1)), (0, .int (nI 7))]) C dJ6_numberOfTrailingZeros_0f7a4_18 (by decide) rfl ?_
    refine z_iload_n C dJ6_numberOfTrailingZeros_0f7a4_19 1 rfl ?_
    refine z_ldcw (v := (65536)) C hown (hts (.constant RJ6 264 (65536)) (by decide +kernel)) dJ6_numberOfTrailingZeros_0f7a4_20 ?_
    refine z_icmp_le (tgt := 34) C dJ6_numberOfTrailingZeros_0f7a4_23 (by decide) (fun zc23 => ?_) (fun zc23 => ?_)
    · skip
      have zn23 := zge_t (a := 65536) (b := 7) (by omega) (by omega) zc23
      refine z_iload_n C dJ6_numberOfTrailingZeros_0f7a4_34 1 rfl ?_
      refine z_sipush (v := nI 256) C (by decide) dJ6_numberOfTrailingZeros_0f7a4_35 ?_
      refine z_icmp_le (tgt := 49) C dJ6_numberOfTrailingZeros_0f7a4_38 (by decide) (fun zc38 => ?_) (fun zc38 => ?_)
      · skip
        have zn38 := zge_t (a := 256) (b := 7) (by omega) (by omega) zc38
        refine z_iload_n C dJ6_numberOfTrailingZeros_0f7a4_49 1 rfl ?_
        refine z_bipush (v := nI 16) C (by decide) dJ6_numberOfTrailingZeros_0f7a4_50 ?_
        refine z_icmp_le (tgt := 62) C dJ6_numberOfTrailingZeros_0f7a4_52 (by decide) (fun zc52 => ?_) (fun zc52 => ?_)
        · skip
          have zn52 := zge_t (a := 16) (b := 7) (by omega) (by omega) zc52
          refine z_iload_n C dJ6_numberOfTrailingZeros_0f7a4_62 1 rfl ?_
          refine z_iconst (v := nI 4) C (by decide) dJ6_numberOfTrailingZeros_0f7a4_63 ?_
          refine z_icmp_le (tgt := 74) C dJ6_numberOfTrailingZeros_0f7a4_64 (by decide) (fun zc64 => ?_) (fun zc64 => ?_)
          · skip
            have zn64 := zge_t (a := 4) (b := 7) (by omega) (by omega) zc64
            exact absurd zn64 (by decide)
          · skip
            have zn64 := zge_f (a := 4) (b := 7) (by omega) (by omega) zc64
            refine z_iinc (L' := [(1, .int (nI 1 + 2)), (0, .int (nI 7))]) C dJ6_numberOfTrailingZeros_0f7a4_67 0 rfl (rfl) (by decide) rfl ?_
            refine z_iload_n C dJ6_numberOfTrailingZeros_0f7a4_70 1 rfl ?_
            refine z_iconst (v := nI 2) C (by decide) dJ6_numberOfTrailingZeros_0f7a4_71 ?_
            refine z_iushr C rfl dJ6_numberOfTrailingZeros_0f7a4_72 ?_
            refine z_topi (y := nI 1) (by decide) ?_
            refine z_istore_n (L' := [(0, .int (nI 1)), (1, .int (nI 1 + 2))]) C dJ6_numberOfTrailingZeros_0f7a4_73 (by decide) rfl ?_
            refine z_iload_n C dJ6_numberOfTrailingZeros_0f7a4_74 1 rfl ?_
            refine z_iload_n C dJ6_numberOfTrailingZeros_0f7a4_75 0 rfl ?_
            refine z_iconst (v := nI 1) C (by decide) dJ6_numberOfTrailingZeros_0f7a4_76 ?_
            refine z_iushr C rfl dJ6_numberOfTrailingZeros_0f7a4_77 ?_
            refine z_topi (y := nI 0) (by decide) ?_
            refine z_iadd C dJ6_numberOfTrailingZeros_0f7a4_78 ?_
            exact z_iret C hr hlocks hQ u (⟨rfl, rfl⟩) (fun _ _ => rfl) dJ6_numberOfTrailingZeros_0f7a4_79
        · skip
          have zn52 := zge_f (a := 16) (b := 7) (by omega) (by omega) zc52
          exact absurd zn52 (by decide)
      · skip
        have zn38 := zge_f (a := 256) (b := 7) (by omega) (by omega) zc38
        exact absurd zn38 (by decide)
    · skip
      have zn23 := zge_f (a := 65536) (b := 7) (by omega) (by omega) zc23
      exact absurd zn23 (by decide)
  · skip
    have zn9 := zpos_f (by omega) zc9
    exact False.elim (by omega)

set_option maxHeartbeats 4000000 in
set_option maxRecDepth 100000 in
theorem c_J6_numberOfTrailingZeros_0f7a4_t4 (l : Launch) (D : va_G) (ad : Nat → Nat) (cI cL cB : ClassId) (hI : gI 12 ad) (u : xS) (m : Nat) (h : (nI m ^^^ (-1)) &&& (nI m - nI 1) = nI 15) : ∀ sz, Met l yJ6_numberOfTrailingZeros_0f7a4 wsJ6_numberOfTrailingZeros_0f7a4 ({ frames := 0, cells := 0, slots := 0, locals := 0 }) (MP D ad cI cL cB u [.int (nI m)] sz) (va_Qi (fun r_ u' => r_ = nI 4 ∧ u' = u) (MB D ad cI cL cB) (gA 12 ad sz)) 0 0 (gA 12 ad sz) := by
  intro sz
  refine z_met (cc := cJ6_numberOfTrailingZeros_0f7a4) (maxL := 2) (ret := (some .int)) (by decide) rfl (Nat.le_of_ble_eq_true rfl) ?_
  intro pq lq sq mq aq Qq bq hmq cq C hr hml hown hts hlocks hK hX hsz hQ
  subst hsz
  refine z_sub (L' := [(0, .int (nI m))]) [0] rfl ?_
  refine z_iload_n C dJ6_numberOfTrailingZeros_0f7a4_0 0 rfl ?_
  refine z_iconst (v := (-1)) C (by decide) dJ6_numberOfTrailingZeros_0f7a4_1 ?_
  refine z_ixor C dJ6_numberOfTrailingZeros_0f7a4_2 ?_
  refine z_iload_n C dJ6_numberOfTrailingZeros_0f7a4_3 0 rfl ?_
  refine z_iconst (v := nI 1) C (by decide) dJ6_numberOfTrailingZeros_0f7a4_4 ?_
  refine z_isub C dJ6_numberOfTrailingZeros_0f7a4_5 ?_
  refine z_iand C dJ6_numberOfTrailingZeros_0f7a4_6 ?_
  refine z_topi (y := nI 15) (h) ?_
  refine z_istore_n (L' := [(0, .int (nI 15))]) C dJ6_numberOfTrailingZeros_0f7a4_7 (by decide) rfl ?_
  refine z_iload_n C dJ6_numberOfTrailingZeros_0f7a4_8 0 rfl ?_
  refine z_if_gt (tgt := 17) C dJ6_numberOfTrailingZeros_0f7a4_9 (by decide) (fun zc9 => ?_) (fun zc9 => ?_)
  · skip
    have zn9 := zpos_t (by omega) zc9
    refine z_iconst (v := nI 1) C (by decide) dJ6_numberOfTrailingZeros_0f7a4_17 ?_
    refine z_istore_n (L' := [(1, .int (nI 1)), (0, .int (nI 15))]) C dJ6_numberOfTrailingZeros_0f7a4_18 (by decide) rfl ?_
    refine z_iload_n C dJ6_numberOfTrailingZeros_0f7a4_19 1 rfl ?_
    refine z_ldcw (v := (65536)) C hown (hts (.constant RJ6 264 (65536)) (by decide +kernel)) dJ6_numberOfTrailingZeros_0f7a4_20 ?_
    refine z_icmp_le (tgt := 34) C dJ6_numberOfTrailingZeros_0f7a4_23 (by decide) (fun zc23 => ?_) (fun zc23 => ?_)
    · skip
      have zn23 := zge_t (a := 65536) (b := 15) (by omega) (by omega) zc23
      refine z_iload_n C dJ6_numberOfTrailingZeros_0f7a4_34 1 rfl ?_
      refine z_sipush (v := nI 256) C (by decide) dJ6_numberOfTrailingZeros_0f7a4_35 ?_
      refine z_icmp_le (tgt := 49) C dJ6_numberOfTrailingZeros_0f7a4_38 (by decide) (fun zc38 => ?_) (fun zc38 => ?_)
      · skip
        have zn38 := zge_t (a := 256) (b := 15) (by omega) (by omega) zc38
        refine z_iload_n C dJ6_numberOfTrailingZeros_0f7a4_49 1 rfl ?_
        refine z_bipush (v := nI 16) C (by decide) dJ6_numberOfTrailingZeros_0f7a4_50 ?_
        refine z_icmp_le (tgt := 62) C dJ6_numberOfTrailingZeros_0f7a4_52 (by decide) (fun zc52 => ?_) (fun zc52 => ?_)
        · skip
          have zn52 := zge_t (a := 16) (b := 15) (by omega) (by omega) zc52
          refine z_iload_n C dJ6_numberOfTrailingZeros_0f7a4_62 1 rfl ?_
          refine z_iconst (v := nI 4) C (by decide) dJ6_numberOfTrailingZeros_0f7a4_63 ?_
          refine z_icmp_le (tgt := 74) C dJ6_numberOfTrailingZeros_0f7a4_64 (by decide) (fun zc64 => ?_) (fun zc64 => ?_)
          · skip
            have zn64 := zge_t (a := 4) (b := 15) (by omega) (by omega) zc64
            exact absurd zn64 (by decide)
          · skip
            have zn64 := zge_f (a := 4) (b := 15) (by omega) (by omega) zc64
            refine z_iinc (L' := [(1, .int (nI 1 + 2)), (0, .int (nI 15))]) C dJ6_numberOfTrailingZeros_0f7a4_67 0 rfl (rfl) (by decide) rfl ?_
            refine z_iload_n C dJ6_numberOfTrailingZeros_0f7a4_70 1 rfl ?_
            refine z_iconst (v := nI 2) C (by decide) dJ6_numberOfTrailingZeros_0f7a4_71 ?_
            refine z_iushr C rfl dJ6_numberOfTrailingZeros_0f7a4_72 ?_
            refine z_topi (y := nI 3) (by decide) ?_
            refine z_istore_n (L' := [(0, .int (nI 3)), (1, .int (nI 1 + 2))]) C dJ6_numberOfTrailingZeros_0f7a4_73 (by decide) rfl ?_
            refine z_iload_n C dJ6_numberOfTrailingZeros_0f7a4_74 1 rfl ?_
            refine z_iload_n C dJ6_numberOfTrailingZeros_0f7a4_75 0 rfl ?_
            refine z_iconst (v := nI 1) C (by decide) dJ6_numberOfTrailingZeros_0f7a4_76 ?_
            refine z_iushr C rfl dJ6_numberOfTrailingZeros_0f7a4_77 ?_
            refine z_topi (y := nI 1) (by decide) ?_
            refine z_iadd C dJ6_numberOfTrailingZeros_0f7a4_78 ?_
            exact z_iret C hr hlocks hQ u (⟨rfl, rfl⟩) (fun _ _ => rfl) dJ6_numberOfTrailingZeros_0f7a4_79
        · skip
          have zn52 := zge_f (a := 16) (b := 15) (by omega) (by omega) zc52
          exact absurd zn52 (by decide)
      · skip
        have zn38 := zge_f (a := 256) (b := 15) (by omega) (by omega) zc38
        exact absurd zn38 (by decide)
    · skip
      have zn23 := zge_f (a := 65536) (b := 15) (by omega) (by omega) zc23
      exact absurd zn23 (by decide)
  · skip
    have zn9 := zpos_f (by omega) zc9
    exact False.elim (by omega)

set_option maxHeartbeats 4000000 in
set_option maxRecDepth 100000 in
theorem c_J6_numberOfTrailingZeros_0f7a4_t5 (l : Launch) (D : va_G) (ad : Nat → Nat) (cI cL cB : ClassId) (hI : gI 12 ad) (u : xS) (m : Nat) (h : (nI m ^^^ (-1)) &&& (nI m - nI 1) = nI 31) : ∀ sz, Met l yJ6_numberOfTrailingZeros_0f7a4 wsJ6_numberOfTrailingZeros_0f7a4 ({ frames := 0, cells := 0, slots := 0, locals := 0 }) (MP D ad cI cL cB u [.int (nI m)] sz) (va_Qi (fun r_ u' => r_ = nI 5 ∧ u' = u) (MB D ad cI cL cB) (gA 12 ad sz)) 0 0 (gA 12 ad sz) := by
  intro sz
  refine z_met (cc := cJ6_numberOfTrailingZeros_0f7a4) (maxL := 2) (ret := (some .int)) (by decide) rfl (Nat.le_of_ble_eq_true rfl) ?_
  intro pq lq sq mq aq Qq bq hmq cq C hr hml hown hts hlocks hK hX hsz hQ
  subst hsz
  refine z_sub (L' := [(0, .int (nI m))]) [0] rfl ?_
  refine z_iload_n C dJ6_numberOfTrailingZeros_0f7a4_0 0 rfl ?_
  refine z_iconst (v := (-1)) C (by decide) dJ6_numberOfTrailingZeros_0f7a4_1 ?_
  refine z_ixor C dJ6_numberOfTrailingZeros_0f7a4_2 ?_
  refine z_iload_n C dJ6_numberOfTrailingZeros_0f7a4_3 0 rfl ?_
  refine z_iconst (v := nI 1) C (by decide) dJ6_numberOfTrailingZeros_0f7a4_4 ?_
  refine z_isub C dJ6_numberOfTrailingZeros_0f7a4_5 ?_
  refine z_iand C dJ6_numberOfTrailingZeros_0f7a4_6 ?_
  refine z_topi (y := nI 31) (h) ?_
  refine z_istore_n (L' := [(0, .int (nI 31))]) C dJ6_numberOfTrailingZeros_0f7a4_7 (by decide) rfl ?_
  refine z_iload_n C dJ6_numberOfTrailingZeros_0f7a4_8 0 rfl ?_
  refine z_if_gt (tgt := 17) C dJ6_numberOfTrailingZeros_0f7a4_9 (by decide) (fun zc9 => ?_) (fun zc9 => ?_)
  · skip
    have zn9 := zpos_t (by omega) zc9
    refine z_iconst (v := nI 1) C (by decide) dJ6_numberOfTrailingZeros_0f7a4_17 ?_
    refine z_istore_n (L' := [(1, .int (nI 1)), (0, .int (nI 31))]) C dJ6_numberOfTrailingZeros_0f7a4_18 (by decide) rfl ?_
    refine z_iload_n C dJ6_numberOfTrailingZeros_0f7a4_19 1 rfl ?_
    refine z_ldcw (v := (65536)) C hown (hts (.constant RJ6 264 (65536)) (by decide +kernel)) dJ6_numberOfTrailingZeros_0f7a4_20 ?_
    refine z_icmp_le (tgt := 34) C dJ6_numberOfTrailingZeros_0f7a4_23 (by decide) (fun zc23 => ?_) (fun zc23 => ?_)
    · skip
      have zn23 := zge_t (a := 65536) (b := 31) (by omega) (by omega) zc23
      refine z_iload_n C dJ6_numberOfTrailingZeros_0f7a4_34 1 rfl ?_
      refine z_sipush (v := nI 256) C (by decide) dJ6_numberOfTrailingZeros_0f7a4_35 ?_
      refine z_icmp_le (tgt := 49) C dJ6_numberOfTrailingZeros_0f7a4_38 (by decide) (fun zc38 => ?_) (fun zc38 => ?_)
      · skip
        have zn38 := zge_t (a := 256) (b := 31) (by omega) (by omega) zc38
        refine z_iload_n C dJ6_numberOfTrailingZeros_0f7a4_49 1 rfl ?_
        refine z_bipush (v := nI 16) C (by decide) dJ6_numberOfTrailingZeros_0f7a4_50 ?_
        refine z_icmp_le (tgt := 62) C dJ6_numberOfTrailingZeros_0f7a4_52 (by decide) (fun zc52 => ?_) (fun zc52 => ?_)
        · skip
          have zn52 := zge_t (a := 16) (b := 31) (by omega) (by omega) zc52
          exact absurd zn52 (by decide)
        · skip
          have zn52 := zge_f (a := 16) (b := 31) (by omega) (by omega) zc52
          refine z_iinc (L' := [(1, .int (nI 1 + 4)), (0, .int (nI 31))]) C dJ6_numberOfTrailingZeros_0f7a4_55 0 rfl (rfl) (by decide) rfl ?_
          refine z_iload_n C dJ6_numberOfTrailingZeros_0f7a4_58 1 rfl ?_
          refine z_iconst (v := nI 4) C (by decide) dJ6_numberOfTrailingZeros_0f7a4_59 ?_
          refine z_iushr C rfl dJ6_numberOfTrailingZeros_0f7a4_60 ?_
          refine z_topi (y := nI 1) (by decide) ?_
          refine z_istore_n (L' := [(0, .int (nI 1)), (1, .int (nI 1 + 4))]) C dJ6_numberOfTrailingZeros_0f7a4_61 (by decide) rfl ?_
          refine z_iload_n C dJ6_numberOfTrailingZeros_0f7a4_62 0 rfl ?_
          refine z_iconst (v := nI 4) C (by decide) dJ6_numberOfTrailingZeros_0f7a4_63 ?_
          refine z_icmp_le (tgt := 74) C dJ6_numberOfTrailingZeros_0f7a4_64 (by decide) (fun zc64 => ?_) (fun zc64 => ?_)
          · skip
            have zn64 := zge_t (a := 4) (b := 1) (by omega) (by omega) zc64
            refine z_iload_n C dJ6_numberOfTrailingZeros_0f7a4_74 1 rfl ?_
            refine z_iload_n C dJ6_numberOfTrailingZeros_0f7a4_75 0 rfl ?_
            refine z_iconst (v := nI 1) C (by decide) dJ6_numberOfTrailingZeros_0f7a4_76 ?_
            refine z_iushr C rfl dJ6_numberOfTrailingZeros_0f7a4_77 ?_
            refine z_topi (y := nI 0) (by decide) ?_
            refine z_iadd C dJ6_numberOfTrailingZeros_0f7a4_78 ?_
            exact z_iret C hr hlocks hQ u (⟨rfl, rfl⟩) (fun _ _ => rfl) dJ6_numberOfTrailingZeros_0f7a4_79
          · skip
            have zn64 := zge_f (a := 4) (b := 1) (by omega) (by omega) zc64
            exact absurd zn64 (by decide)
      · skip
        have zn38 := zge_f (a := 256) (b := 31) (by omega) (by omega) zc38
        exact absurd zn38 (by decide)
    · skip
      have zn23 := zge_f (a := 65536) (b := 31) (by omega) (by omega) zc23
      exact absurd zn23 (by decide)
  · skip
    have zn9 := zpos_f (by omega) zc9
    exact False.elim (by omega)

set_option maxHeartbeats 4000000 in
set_option maxRecDepth 100000 in
theorem c_J6_numberOfTrailingZeros_0f7a4_t6 (l : Launch) (D : va_G) (ad : Nat → Nat) (cI cL cB : ClassId) (hI : gI 12 ad) (u : xS) (m : Nat) (h : (nI m ^^^ (-1)) &&& (nI m - nI 1) = nI 63) : ∀ sz, Met l yJ6_numberOfTrailingZeros_0f7a4 wsJ6_numberOfTrailingZeros_0f7a4 ({ frames := 0, cells := 0, slots := 0, locals := 0 }) (MP D ad cI cL cB u [.int (nI m)] sz) (va_Qi (fun r_ u' => r_ = nI 6 ∧ u' = u) (MB D ad cI cL cB) (gA 12 ad sz)) 0 0 (gA 12 ad sz) := by
  intro sz
  refine z_met (cc := cJ6_numberOfTrailingZeros_0f7a4) (maxL := 2) (ret := (some .int)) (by decide) rfl (Nat.le_of_ble_eq_true rfl) ?_
  intro pq lq sq mq aq Qq bq hmq cq C hr hml hown hts hlocks hK hX hsz hQ
  subst hsz
  refine z_sub (L' := [(0, .int (nI m))]) [0] rfl ?_
  refine z_iload_n C dJ6_numberOfTrailingZeros_0f7a4_0 0 rfl ?_
  refine z_iconst (v := (-1)) C (by decide) dJ6_numberOfTrailingZeros_0f7a4_1 ?_
  refine z_ixor C dJ6_numberOfTrailingZeros_0f7a4_2 ?_
  refine z_iload_n C dJ6_numberOfTrailingZeros_0f7a4_3 0 rfl ?_
  refine z_iconst (v := nI 1) C (by decide) dJ6_numberOfTrailingZeros_0f7a4_4 ?_
  refine z_isub C dJ6_numberOfTrailingZeros_0f7a4_5 ?_
  refine z_iand C dJ6_numberOfTrailingZeros_0f7a4_6 ?_
  refine z_topi (y := nI 63) (h) ?_
  refine z_istore_n (L' := [(0, .int (nI 63))]) C dJ6_numberOfTrailingZeros_0f7a4_7 (by decide) rfl ?_
  refine z_iload_n C dJ6_numberOfTrailingZeros_0f7a4_8 0 rfl ?_
  refine z_if_gt (tgt := 17) C dJ6_numberOfTrailingZeros_0f7a4_9 (by decide) (fun zc9 => ?_) (fun zc9 => ?_)
  · skip
    have zn9 := zpos_t (by omega) zc9
    refine z_iconst (v := nI 1) C (by decide) dJ6_numberOfTrailingZeros_0f7a4_17 ?_
    refine z_istore_n (L' := [(1, .int (nI 1)), (0, .int (nI 63))]) C dJ6_numberOfTrailingZeros_0f7a4_18 (by decide) rfl ?_
    refine z_iload_n C dJ6_numberOfTrailingZeros_0f7a4_19 1 rfl ?_
    refine z_ldcw (v := (65536)) C hown (hts (.constant RJ6 264 (65536)) (by decide +kernel)) dJ6_numberOfTrailingZeros_0f7a4_20 ?_
    refine z_icmp_le (tgt := 34) C dJ6_numberOfTrailingZeros_0f7a4_23 (by decide) (fun zc23 => ?_) (fun zc23 => ?_)
    · skip
      have zn23 := zge_t (a := 65536) (b := 63) (by omega) (by omega) zc23
      refine z_iload_n C dJ6_numberOfTrailingZeros_0f7a4_34 1 rfl ?_
      refine z_sipush (v := nI 256) C (by decide) dJ6_numberOfTrailingZeros_0f7a4_35 ?_
      refine z_icmp_le (tgt := 49) C dJ6_numberOfTrailingZeros_0f7a4_38 (by decide) (fun zc38 => ?_) (fun zc38 => ?_)
      · skip
        have zn38 := zge_t (a := 256) (b := 63) (by omega) (by omega) zc38
        refine z_iload_n C dJ6_numberOfTrailingZeros_0f7a4_49 1 rfl ?_
        refine z_bipush (v := nI 16) C (by decide) dJ6_numberOfTrailingZeros_0f7a4_50 ?_
        refine z_icmp_le (tgt := 62) C dJ6_numberOfTrailingZeros_0f7a4_52 (by decide) (fun zc52 => ?_) (fun zc52 => ?_)
        · skip
          have zn52 := zge_t (a := 16) (b := 63) (by omega) (by omega) zc52
          exact absurd zn52 (by decide)
        · skip
          have zn52 := zge_f (a := 16) (b := 63) (by omega) (by omega) zc52
          refine z_iinc (L' := [(1, .int (nI 1 + 4)), (0, .int (nI 63))]) C dJ6_numberOfTrailingZeros_0f7a4_55 0 rfl (rfl) (by decide) rfl ?_
          refine z_iload_n C dJ6_numberOfTrailingZeros_0f7a4_58 1 rfl ?_
          refine z_iconst (v := nI 4) C (by decide) dJ6_numberOfTrailingZeros_0f7a4_59 ?_
          refine z_iushr C rfl dJ6_numberOfTrailingZeros_0f7a4_60 ?_
          refine z_topi (y := nI 3) (by decide) ?_
          refine z_istore_n (L' := [(0, .int (nI 3)), (1, .int (nI 1 + 4))]) C dJ6_numberOfTrailingZeros_0f7a4_61 (by decide) rfl ?_
          refine z_iload_n C dJ6_numberOfTrailingZeros_0f7a4_62 0 rfl ?_
          refine z_iconst (v := nI 4) C (by decide) dJ6_numberOfTrailingZeros_0f7a4_63 ?_
          refine z_icmp_le (tgt := 74) C dJ6_numberOfTrailingZeros_0f7a4_64 (by decide) (fun zc64 => ?_) (fun zc64 => ?_)
          · skip
            have zn64 := zge_t (a := 4) (b := 3) (by omega) (by omega) zc64
            refine z_iload_n C dJ6_numberOfTrailingZeros_0f7a4_74 1 rfl ?_
            refine z_iload_n C dJ6_numberOfTrailingZeros_0f7a4_75 0 rfl ?_
            refine z_iconst (v := nI 1) C (by decide) dJ6_numberOfTrailingZeros_0f7a4_76 ?_
            refine z_iushr C rfl dJ6_numberOfTrailingZeros_0f7a4_77 ?_
            refine z_topi (y := nI 1) (by decide) ?_
            refine z_iadd C dJ6_numberOfTrailingZeros_0f7a4_78 ?_
            exact z_iret C hr hlocks hQ u (⟨rfl, rfl⟩) (fun _ _ => rfl) dJ6_numberOfTrailingZeros_0f7a4_79
          · skip
            have zn64 := zge_f (a := 4) (b := 3) (by omega) (by omega) zc64
            exact absurd zn64 (by decide)
      · skip
        have zn38 := zge_f (a := 256) (b := 63) (by omega) (by omega) zc38
        exact absurd zn38 (by decide)
    · skip
      have zn23 := zge_f (a := 65536) (b := 63) (by omega) (by omega) zc23
      exact absurd zn23 (by decide)
  · skip
    have zn9 := zpos_f (by omega) zc9
    exact False.elim (by omega)

set_option maxHeartbeats 4000000 in
set_option maxRecDepth 100000 in
theorem c_J6_numberOfTrailingZeros_0f7a4_t7 (l : Launch) (D : va_G) (ad : Nat → Nat) (cI cL cB : ClassId) (hI : gI 12 ad) (u : xS) (m : Nat) (h : (nI m ^^^ (-1)) &&& (nI m - nI 1) = nI 127) : ∀ sz, Met l yJ6_numberOfTrailingZeros_0f7a4 wsJ6_numberOfTrailingZeros_0f7a4 ({ frames := 0, cells := 0, slots := 0, locals := 0 }) (MP D ad cI cL cB u [.int (nI m)] sz) (va_Qi (fun r_ u' => r_ = nI 7 ∧ u' = u) (MB D ad cI cL cB) (gA 12 ad sz)) 0 0 (gA 12 ad sz) := by
  intro sz
  refine z_met (cc := cJ6_numberOfTrailingZeros_0f7a4) (maxL := 2) (ret := (some .int)) (by decide) rfl (Nat.le_of_ble_eq_true rfl) ?_
  intro pq lq sq mq aq Qq bq hmq cq C hr hml hown hts hlocks hK hX hsz hQ
  subst hsz
  refine z_sub (L' := [(0, .int (nI m))]) [0] rfl ?_
  refine z_iload_n C dJ6_numberOfTrailingZeros_0f7a4_0 0 rfl ?_
  refine z_iconst (v := (-1)) C (by decide) dJ6_numberOfTrailingZeros_0f7a4_1 ?_
  refine z_ixor C dJ6_numberOfTrailingZeros_0f7a4_2 ?_
  refine z_iload_n C dJ6_numberOfTrailingZeros_0f7a4_3 0 rfl ?_
  refine z_iconst (v := nI 1) C (by decide) dJ6_numberOfTrailingZeros_0f7a4_4 ?_
  refine z_isub C dJ6_numberOfTrailingZeros_0f7a4_5 ?_
  refine z_iand C dJ6_numberOfTrailingZeros_0f7a4_6 ?_
  refine z_topi (y := nI 127) (h) ?_
  refine z_istore_n (L' := [(0, .int (nI 127))]) C dJ6_numberOfTrailingZeros_0f7a4_7 (by decide) rfl ?_
  refine z_iload_n C dJ6_numberOfTrailingZeros_0f7a4_8 0 rfl ?_
  refine z_if_gt (tgt := 17) C dJ6_numberOfTrailingZeros_0f7a4_9 (by decide) (fun zc9 => ?_) (fun zc9 => ?_)
  · skip
    have zn9 := zpos_t (by omega) zc9
    refine z_iconst (v := nI 1) C (by decide) dJ6_numberOfTrailingZeros_0f7a4_17 ?_
    refine z_istore_n (L' := [(1, .int (nI 1)), (0, .int (nI 127))]) C dJ6_numberOfTrailingZeros_0f7a4_18 (by decide) rfl ?_
    refine z_iload_n C dJ6_numberOfTrailingZeros_0f7a4_19 1 rfl ?_
    refine z_ldcw (v := (65536)) C hown (hts (.constant RJ6 264 (65536)) (by decide +kernel)) dJ6_numberOfTrailingZeros_0f7a4_20 ?_
    refine z_icmp_le (tgt := 34) C dJ6_numberOfTrailingZeros_0f7a4_23 (by decide) (fun zc23 => ?_) (fun zc23 => ?_)
    · skip
      have zn23 := zge_t (a := 65536) (b := 127) (by omega) (by omega) zc23
      refine z_iload_n C dJ6_numberOfTrailingZeros_0f7a4_34 1 rfl ?_
      refine z_sipush (v := nI 256) C (by decide) dJ6_numberOfTrailingZeros_0f7a4_35 ?_
      refine z_icmp_le (tgt := 49) C dJ6_numberOfTrailingZeros_0f7a4_38 (by decide) (fun zc38 => ?_) (fun zc38 => ?_)
      · skip
        have zn38 := zge_t (a := 256) (b := 127) (by omega) (by omega) zc38
        refine z_iload_n C dJ6_numberOfTrailingZeros_0f7a4_49 1 rfl ?_
        refine z_bipush (v := nI 16) C (by decide) dJ6_numberOfTrailingZeros_0f7a4_50 ?_
        refine z_icmp_le (tgt := 62) C dJ6_numberOfTrailingZeros_0f7a4_52 (by decide) (fun zc52 => ?_) (fun zc52 => ?_)
        · skip
          have zn52 := zge_t (a := 16) (b := 127) (by omega) (by omega) zc52
          exact absurd zn52 (by decide)
        · skip
          have zn52 := zge_f (a := 16) (b := 127) (by omega) (by omega) zc52
          refine z_iinc (L' := [(1, .int (nI 1 + 4)), (0, .int (nI 127))]) C dJ6_numberOfTrailingZeros_0f7a4_55 0 rfl (rfl) (by decide) rfl ?_
          refine z_iload_n C dJ6_numberOfTrailingZeros_0f7a4_58 1 rfl ?_
          refine z_iconst (v := nI 4) C (by decide) dJ6_numberOfTrailingZeros_0f7a4_59 ?_
          refine z_iushr C rfl dJ6_numberOfTrailingZeros_0f7a4_60 ?_
          refine z_topi (y := nI 7) (by decide) ?_
          refine z_istore_n (L' := [(0, .int (nI 7)), (1, .int (nI 1 + 4))]) C dJ6_numberOfTrailingZeros_0f7a4_61 (by decide) rfl ?_
          refine z_iload_n C dJ6_numberOfTrailingZeros_0f7a4_62 0 rfl ?_
          refine z_iconst (v := nI 4) C (by decide) dJ6_numberOfTrailingZeros_0f7a4_63 ?_
          refine z_icmp_le (tgt := 74) C dJ6_numberOfTrailingZeros_0f7a4_64 (by decide) (fun zc64 => ?_) (fun zc64 => ?_)
          · skip
            have zn64 := zge_t (a := 4) (b := 7) (by omega) (by omega) zc64
            exact absurd zn64 (by decide)
          · skip
            have zn64 := zge_f (a := 4) (b := 7) (by omega) (by omega) zc64
            refine z_iinc (L' := [(1, .int (nI 1 + 4 + 2)), (0, .int (nI 7))]) C dJ6_numberOfTrailingZeros_0f7a4_67 1 rfl (rfl) (by decide) rfl ?_
            refine z_iload_n C dJ6_numberOfTrailingZeros_0f7a4_70 1 rfl ?_
            refine z_iconst (v := nI 2) C (by decide) dJ6_numberOfTrailingZeros_0f7a4_71 ?_
            refine z_iushr C rfl dJ6_numberOfTrailingZeros_0f7a4_72 ?_
            refine z_topi (y := nI 1) (by decide) ?_
            refine z_istore_n (L' := [(0, .int (nI 1)), (1, .int (nI 1 + 4 + 2))]) C dJ6_numberOfTrailingZeros_0f7a4_73 (by decide) rfl ?_
            refine z_iload_n C dJ6_numberOfTrailingZeros_0f7a4_74 1 rfl ?_
            refine z_iload_n C dJ6_numberOfTrailingZeros_0f7a4_75 0 rfl ?_
            refine z_iconst (v := nI 1) C (by decide) dJ6_numberOfTrailingZeros_0f7a4_76 ?_
            refine z_iushr C rfl dJ6_numberOfTrailingZeros_0f7a4_77 ?_
            refine z_topi (y := nI 0) (by decide) ?_
            refine z_iadd C dJ6_numberOfTrailingZeros_0f7a4_78 ?_
            exact z_iret C hr hlocks hQ u (⟨rfl, rfl⟩) (fun _ _ => rfl) dJ6_numberOfTrailingZeros_0f7a4_79
      · skip
        have zn38 := zge_f (a := 256) (b := 127) (by omega) (by omega) zc38
        exact absurd zn38 (by decide)
    · skip
      have zn23 := zge_f (a := 65536) (b := 127) (by omega) (by omega) zc23
      exact absurd zn23 (by decide)
  · skip
    have zn9 := zpos_f (by omega) zc9
    exact False.elim (by omega)

theorem c_J6_numberOfTrailingZeros_0f7a4 (l : Launch) (D : va_G) (ad : Nat → Nat) (cI cL cB : ClassId) (hI : gI 12 ad) (u : xS) (m : Nat) (hm : m < 256) (h0 : m ≠ 0) : ∀ sz, Met l yJ6_numberOfTrailingZeros_0f7a4 wsJ6_numberOfTrailingZeros_0f7a4 ({ frames := 0, cells := 0, slots := 0, locals := 0 }) (MP D ad cI cL cB u [.int (nI m)] sz) (va_Qi (fun r_ u' => r_ = nI (ntz m) ∧ u' = u) (MB D ad cI cL cB) (gA 12 ad sz)) 0 0 (gA 12 ad sz) := by
  obtain ⟨h1, h2⟩ := ntz_tab m hm h0
  rcases i8_cases h2 with h | h | h | h | h | h | h | h
  · rw [h] at h1 ⊢; exact c_J6_numberOfTrailingZeros_0f7a4_t0 l D ad cI cL cB hI u m h1
  · rw [h] at h1 ⊢; exact c_J6_numberOfTrailingZeros_0f7a4_t1 l D ad cI cL cB hI u m h1
  · rw [h] at h1 ⊢; exact c_J6_numberOfTrailingZeros_0f7a4_t2 l D ad cI cL cB hI u m h1
  · rw [h] at h1 ⊢; exact c_J6_numberOfTrailingZeros_0f7a4_t3 l D ad cI cL cB hI u m h1
  · rw [h] at h1 ⊢; exact c_J6_numberOfTrailingZeros_0f7a4_t4 l D ad cI cL cB hI u m h1
  · rw [h] at h1 ⊢; exact c_J6_numberOfTrailingZeros_0f7a4_t5 l D ad cI cL cB hI u m h1
  · rw [h] at h1 ⊢; exact c_J6_numberOfTrailingZeros_0f7a4_t6 l D ad cI cL cB hI u m h1
  · rw [h] at h1 ⊢; exact c_J6_numberOfTrailingZeros_0f7a4_t7 l D ad cI cL cB hI u m h1
