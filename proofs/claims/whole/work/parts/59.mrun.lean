theorem frs_n {n : Nat} {B : Nat → Nat → Nat} {t : Nat} (ht : t < 2 ^ n) (h : frs B t < 8) : frs B t < n := by
  have h1 : rdy1 B (frs B t) t = true := fa_first_yes (fun k => rdy1 B k t) 8 h
  unfold rdy1 at h1
  rw [Bool.and_eq_true] at h1
  rcases Nat.lt_or_ge (frs B t) n with q | q
  · exact q
  · rw [Nat.testBit_lt_two_pow (Nat.lt_of_lt_of_le ht (Nat.pow_le_pow_right (by decide) q))] at h1
    exact absurd h1.1 (by decide)
theorem runX_bits {n : Nat} {B : Nat → Nat → Nat} (h : gB n B) {x : Nat} (hx : x < 64 * 2 ^ n) : ∀ k, (∀ j, j < k → frs B (runX B x j / 64) < 8) → runX B x k < 64 * 2 ^ n
  | 0, _ => hx
  | k + 1, hg => ply_bits h (hg k (Nat.lt_succ_self k)) (runX_bits h hx k (fun j hj => hg j (Nat.lt_succ_of_lt hj)))
theorem rdy_n0 {n : Nat} {B : Nat → Nat → Nat} (hB : gB n B) {t : Nat} (ht : t < 256) (h0 : t ≠ 0) : rdy B t ≠ 0 := fun z => by
  obtain ⟨r, _, h⟩ := rdy_ne hB ht h0
  rw [z, Nat.zero_testBit] at h
  exact absurd h (by decide)
/-- one number of plays alone -/
theorem runX_one {B : Nat → Nat → Nat} {x m i j : Nat} (hi : i ≤ m) (hj : j ≤ m) (gi : ∀ k, k < i → frs B (runX B x k / 64) < 8) (gj : ∀ k, k < j → frs B (runX B x k / 64) < 8) (ei : i = m ∨ frs B (runX B x i / 64) = 8) (ej : j = m ∨ frs B (runX B x j / 64) = 8) : i = j := by
  rcases Nat.lt_trichotomy i j with q | q | q
  · have := gj i q; rcases ei with e | e <;> omega
  · exact q
  · have := gi j q; rcases ej with e | e <;> omega

set_option maxHeartbeats 4000000 in
set_option maxRecDepth 100000 in
theorem c_X7_run (l : Launch) (D : va_G) (ad : Nat → Nat) (cI cL cB : ClassId) (hI : gI 12 ad) (u : xS) (n : Nat) (B : Nat → Nat → Nat) (hB : gB n B) (x : Nat) (hx : x < 64 * 2 ^ n) (hM : mI u n B x) (mo : Nat) (hm : mo ≤ 500) : ∀ sz, Met l yX7_run wsX7_run ({ frames := 2, cells := 0, slots := 0, locals := 50 }) (MP D ad cI cL cB u [.ref (ad 0), .int (nI mo)] sz) (va_Qi (fun r_ u' => ∃ k, k ≤ mo ∧ (∀ j, j < k → frs B (runX B x j / 64) < 8) ∧ (k = mo ∨ frs B (runX B x k / 64) = 8) ∧ r_ = nI k ∧ u'.1 0 0 = nI 0 ∧ mQ u' n B (runX B x k) 0) (MB D ad cI cL cB) (gA 12 ad sz)) 0 0 (gA 12 ad sz) := by
  intro sz
  refine z_met (cc := cX7_run) (maxL := 3) (ret := (some .int)) (by decide) rfl (Nat.le_of_ble_eq_true rfl) ?_
  intro pq lq sq mq aq Qq bq hmq cq C hr hml hown hts hlocks hK hX hsz hQ
  subst hsz
  have hT7 : ∀ w ∈ wsX70, w.before aq sq = true := fun w h => hts w ((by decide +kernel : ∀ w ∈ wsX70, w ∈ wsX7_run) w h)
  refine z_sub (L' := [(0, .ref (ad 0)), (1, .int (nI mo))]) [0, 1] rfl ?_
  have hn8 : n ≤ 8 := hB.1
  have hp2 : 2 ^ n ≤ 256 := pn8 hn8
  have hx8 : x < 16384 := by omega
  refine z_aload_n C dX7_run_0 0 rfl ?_
  refine z_iload_n C dX7_run_1 1 rfl ?_
  refine z_if_lt (tgt := 12) C dX7_run_2 (by decide) (fun zc2 => ?_) (fun zc2 => ?_)
  · skip
    exact (zneg (by omega) zc2).elim
  · skip
    refine z_iload_n C dX7_run_5 1 rfl ?_
    refine z_sipush (v := nI 500) C (by decide) dX7_run_6 ?_
    refine z_icmp_le (tgt := 16) C dX7_run_9 (by decide) (fun zc9 => ?_) (fun zc9 => ?_)
    · skip
      have zn9 := zge_t (a := 500) (b := mo) (by omega) (by omega) zc9
      refine z_iconst (v := nI 0) C (by decide) dX7_run_16 ?_
      refine z_put (q := 0) C hI tyX7 (T := TX7) (N := 18) (ci := 7) (own := RX7) (index := 45) hT7 hown hK (by decide) rfl rfl 0 (by decide) (hts (.fieldLink RX7 45 "TriggerAnalyzerModel" "thrown" "I") (by decide +kernel)) (fun _ h9 => h9) tyX7_ok nmX7 rfl rfl rfl (Nat.le_of_ble_eq_true rfl) (f' := mF ad cI cL cB ((xs u 0 0 (nI 0)))) rfl mF_ne dX7_run_17 ?_
      refine z_aload_n C dX7_run_20 0 rfl ?_
      refine z_get (q := 0) C (T := TX7) (N := 18) (ci := 7) (own := RX7) (index := 45) (v := .int ((xs u 0 0 (nI 0)).1 0 0)) hT7 hown hK (by decide) rfl rfl 0 (by decide) (hts (.fieldLink RX7 45 "TriggerAnalyzerModel" "thrown" "I") (by decide +kernel)) (fun _ h9 => h9) rfl dX7_run_21 ?_
      refine z_topi (y := nI 0) (xs_s _ _ _ _) ?_
      refine z_if_eq (tgt := 29) C dX7_run_24 (by decide) (fun zc24 => ?_) (fun zc24 => ?_)
      · skip
        have zn24 := z0_t (by omega) zc24
        refine z_iconst (v := nI 0) C (by decide) dX7_run_29 ?_
        refine z_istore_n (L' := [(2, .int (nI 0)), (0, .ref (ad 0)), (1, .int (nI mo))]) C dX7_run_30 (by decide) rfl ?_
        have loop31 : ∀ (d31 : Nat) (k : Nat) (w : xS), mo - k < d31 → (k ≤ mo) → (∀ j, j < k → frs B (runX B x j / 64) < 8) → (mR w n B) → (w.1 0 9 = nI (runX B x k % 64)) → (w.1 0 10 = nI (runX B x k / 64)) → (w.1 0 0 = nI 0) → ZZ pq l lq { frames := 2, cells := 0, slots := 0, locals := 50 } sq mq aq bq hmq cq D vwCl 12 ad 3 0 0 Qq (mF ad cI cL cB w) [(0, .ref (ad 0)), (1, .int (nI mo)), (2, .int (nI k))] 31 [] := by
          intro d31
          induction d31 with
          | zero => intro k w hz; exact absurd hz (Nat.not_lt_zero _)
          | succ d31 ih31 =>
            intro k w hz31 hk hgo hwR hw9 hw10 hw0
            have hX2 : (runX B x k) < 64 * 2 ^ n := runX_bits hB hx k hgo
            have hX9 : (runX B x k) < 16384 := by omega
            refine z_aload_n C dX7_run_31 0 rfl ?_
            refine z_get (q := 0) C (T := TX7) (N := 18) (ci := 7) (own := RX7) (index := 74) (v := .int (w.1 0 10)) hT7 hown hK (by decide) rfl rfl 10 (by decide) (hts (.fieldLink RX7 74 "TriggerAnalyzerModel" "triggered" "I") (by decide +kernel)) (fun _ h9 => h9) rfl dX7_run_32 ?_
            refine z_topi (y := nI ((runX B x k) / 64)) (hw10) ?_
            refine z_if_eq (tgt := 72) C dX7_run_35 (by decide) (fun zc35 => ?_) (fun zc35 => ?_)
            · skip
              have zn35 := z0_t (by omega) zc35
              refine z_aload_n C dX7_run_72 0 rfl ?_
              refine z_iconst (v := nI 0) C (by decide) dX7_run_73 ?_
              refine z_put (q := 0) C hI tyX7 (T := TX7) (N := 18) (ci := 7) (own := RX7) (index := 67) hT7 hown hK (by decide) rfl rfl 11 (by decide) (hts (.fieldLink RX7 67 "TriggerAnalyzerModel" "isExplored" "Z") (by decide +kernel)) (fun _ h9 => h9) tyX7_ok nmX7 rfl rfl rfl (Nat.le_of_ble_eq_true rfl) (f' := mF ad cI cL cB ((xs w 0 11 (nI 0)))) rfl mF_ne dX7_run_74 ?_
              refine z_iload_n C dX7_run_77 2 rfl ?_
              exact z_iret C hr hlocks hQ ((xs w 0 11 (nI 0))) (⟨k, hk, hgo, Or.inr (by rw [zn35]; exact frs_0 B), rfl, (xs_j (by decide)).trans hw0, mQ_of (mR_s hwR (Or.inl ⟨rfl, by decide⟩)) ((xs_j (by decide)).trans hw9) ((xs_j (by decide)).trans hw10) ((xs_s _ _ _ _).trans rfl)⟩) (fun _ _ => rfl) dX7_run_78
            · skip
              have zn35 := z0_f zc35
              refine z_iload_n C dX7_run_38 2 rfl ?_
              refine z_iload_n C dX7_run_39 1 rfl ?_
              refine z_icmp_ge (tgt := 72) C dX7_run_40 (by decide) (fun zc40 => ?_) (fun zc40 => ?_)
              · skip
                have zn40 := zge_t (a := k) (b := mo) (by omega) (by omega) zc40
                refine z_aload_n C dX7_run_72 0 rfl ?_
                refine z_iconst (v := nI 0) C (by decide) dX7_run_73 ?_
                refine z_put (q := 0) C hI tyX7 (T := TX7) (N := 18) (ci := 7) (own := RX7) (index := 67) hT7 hown hK (by decide) rfl rfl 11 (by decide) (hts (.fieldLink RX7 67 "TriggerAnalyzerModel" "isExplored" "Z") (by decide +kernel)) (fun _ h9 => h9) tyX7_ok nmX7 rfl rfl rfl (Nat.le_of_ble_eq_true rfl) (f' := mF ad cI cL cB ((xs w 0 11 (nI 0)))) rfl mF_ne dX7_run_74 ?_
                refine z_iload_n C dX7_run_77 2 rfl ?_
                exact z_iret C hr hlocks hQ ((xs w 0 11 (nI 0))) (⟨k, hk, hgo, Or.inl (by omega), rfl, (xs_j (by decide)).trans hw0, mQ_of (mR_s hwR (Or.inl ⟨rfl, by decide⟩)) ((xs_j (by decide)).trans hw9) ((xs_j (by decide)).trans hw10) ((xs_s _ _ _ _).trans rfl)⟩) (fun _ _ => rfl) dX7_run_78
              · skip
                have zn40 := zge_f (a := k) (b := mo) (by omega) (by omega) zc40
                have hf8 : frs B ((runX B x k) / 64) < 8 := frs_lt hB (by omega) zn35
                have hfn : frs B ((runX B x k) / 64) < n := frs_n (by omega) hf8
                refine z_aload_n C dX7_run_43 0 rfl ?_
                refine z_aload_n C dX7_run_44 0 rfl ?_
                refine z_aload_n C dX7_run_45 0 rfl ?_
                refine z_callVi mX_ok C hml hown hts hK hX (c_X7_now l D ad cI cL cB hI w (runX B x k) hX9 hw9 hw10) (cwV 0 hts gX7_run_X7_now rfl rfl rfl (by decide +kernel) ⟨Nat.le_of_ble_eq_true rfl, Nat.le_of_ble_eq_true rfl⟩) (by decide) (ci := 7) rfl rfl rfl (st := [.ref (ad 0), .ref (ad 0)]) rfl (Nat.le_of_ble_eq_true rfl) dX7_run_46 ⟨Nat.le_of_ble_eq_true rfl, Nat.le_of_ble_eq_true rfl⟩ (fun r46 u46 h46 => ?_)
                obtain ⟨zr46, zu46⟩ := h46
                subst r46
                subst u46
                refine z_aload_n C dX7_run_49 0 rfl ?_
                refine z_aload_n C dX7_run_50 0 rfl ?_
                refine z_callVi mX_ok C hml hown hts hK hX (c_X7_now l D ad cI cL cB hI w (runX B x k) hX9 hw9 hw10) (cwV 0 hts gX7_run_X7_now rfl rfl rfl (by decide +kernel) ⟨Nat.le_of_ble_eq_true rfl, Nat.le_of_ble_eq_true rfl⟩) (by decide) (ci := 7) rfl rfl rfl (st := [.ref (ad 0), .int (nI (mf ((runX B x k)))), .ref (ad 0), .ref (ad 0)]) rfl (Nat.le_of_ble_eq_true rfl) dX7_run_51 ⟨Nat.le_of_ble_eq_true rfl, Nat.le_of_ble_eq_true rfl⟩ (fun r51 u51 h51 => ?_)
                obtain ⟨zr51, zu51⟩ := h51
                subst r51
                subst u51
                refine z_callVi mX_ok C hml hown hts hK hX (c_X7_readyIn l D ad cI cL cB hI w n B hwR hB (runX B x k) hX2) (cwV 1 hts gX7_run_X7_readyIn rfl rfl rfl (by decide +kernel) ⟨Nat.le_of_ble_eq_true rfl, Nat.le_of_ble_eq_true rfl⟩) (by decide) (ci := 7) rfl rfl rfl (st := [.int (nI (mf ((runX B x k)))), .ref (ad 0), .ref (ad 0)]) rfl (Nat.le_of_ble_eq_true rfl) dX7_run_54 ⟨Nat.le_of_ble_eq_true rfl, Nat.le_of_ble_eq_true rfl⟩ (fun r54 u54 h54 => ?_)
                obtain ⟨zr54, zu54⟩ := h54
                subst r54
                subst u54
                refine z_callSi mX_ok C hml hown hts hK hX (c_J6_numberOfTrailingZeros_0f7a4 l D ad cI cL cB hI w (rdy B ((runX B x k) / 64)) (rdy_lt _ _) (rdy_n0 hB (by omega) zn35)) (va_cwS 1 hts gX7_run_J6_numberOfTrailingZeros_0f7a4 rfl rfl rfl (by decide +kernel) ⟨Nat.le_of_ble_eq_true rfl, Nat.le_of_ble_eq_true rfl⟩) rfl (st := [.int (nI (mf ((runX B x k)))), .ref (ad 0), .ref (ad 0)]) rfl (Nat.le_of_ble_eq_true rfl) dX7_run_57 ⟨Nat.le_of_ble_eq_true rfl, Nat.le_of_ble_eq_true rfl⟩ (fun r57 u57 h57 => ?_)
                obtain ⟨zr57, zu57⟩ := h57
                subst r57
                subst u57
                refine z_topi (y := nI (frs B ((runX B x k) / 64))) (by rw [ntz_rdy]) ?_
                refine z_callVi mX_ok C hml hown hts hK hX (c_X7_playIn l D ad cI cL cB hI w n B hwR hB (frs B ((runX B x k) / 64)) hfn (runX B x k) hX9) (cwV 2 hts gX7_run_X7_playIn rfl rfl rfl (by decide +kernel) ⟨Nat.le_of_ble_eq_true rfl, Nat.le_of_ble_eq_true rfl⟩) (by decide) (ci := 7) rfl rfl rfl (st := [.ref (ad 0)]) rfl (Nat.le_of_ble_eq_true rfl) dX7_run_60 ⟨Nat.le_of_ble_eq_true rfl, Nat.le_of_ble_eq_true rfl⟩ (fun r60 u60 h60 => ?_)
                obtain ⟨zr60, zu60⟩ := h60
                subst r60
                subst u60
                refine z_callVv mX_ok C hml hown hts hK hX (c_X7_become_vx l D ad cI cL cB hI w (ply B (frs B ((runX B x k) / 64)) (runX B x k)) (ply_lt hB hf8 hX9)) (cwV 1 hts gX7_run_X7_become rfl rfl rfl (by decide +kernel) ⟨Nat.le_of_ble_eq_true rfl, Nat.le_of_ble_eq_true rfl⟩) (by decide) (ci := 7) rfl rfl rfl (st := []) rfl (Nat.le_of_ble_eq_true rfl) dX7_run_63 ⟨Nat.le_of_ble_eq_true rfl, Nat.le_of_ble_eq_true rfl⟩ (fun u63 h63 => ?_)
                subst u63
                refine z_iinc (L' := [(2, .int (nI (k + 1))), (0, .ref (ad 0)), (1, .int (nI mo))]) C dX7_run_66 2 rfl (nI_1 k) (by decide) rfl ?_
                refine z_goto (tgt := 31) C dX7_run_69 (by decide) ?_
                refine z_sub (L' := [(0, .ref (ad 0)), (1, .int (nI mo)), (2, .int (nI (k + 1)))]) [1, 2, 0] rfl ?_
                exact ih31 (k + 1) ((xs (xs w 0 9 (nI (((ply B (frs B ((runX B x k) / 64)) (runX B x k))) % 64))) 0 10 (nI (((ply B (frs B ((runX B x k) / 64)) (runX B x k))) / 64)))) (by omega) (by omega) (fun j hj => by rcases Nat.lt_or_ge j k with z | z; exact hgo j z; rw [show j = k by omega]; exact hf8) (mR_s (mR_s hwR (Or.inl ⟨rfl, by decide⟩)) (Or.inl ⟨rfl, by decide⟩)) ((xs_j (by decide)).trans (xs_s _ _ _ _)) (xs_s _ _ _ _) ((xs_j (by decide)).trans ((xs_j (by decide)).trans hw0))
        refine z_sub (L' := [(0, .ref (ad 0)), (1, .int (nI mo)), (2, .int (nI 0))]) [1, 2, 0] rfl ?_
        exact loop31 (mo + 1) 0 ((xs u 0 0 (nI 0))) (by omega) (by omega) (fun j hj => absurd hj (Nat.not_lt_zero j)) (mR_s hM.1 (Or.inl ⟨rfl, by decide⟩)) ((xs_j (by decide)).trans hM.2.1) ((xs_j (by decide)).trans hM.2.2.1) (xs_s _ _ _ _)
      · skip
        have zn24 := z0_f zc24
        exact absurd zn24 (by decide)
    · skip
      have zn9 := zge_f (a := 500) (b := mo) (by omega) (by omega) zc9
      exact False.elim (by omega)

set_option maxHeartbeats 4000000 in
set_option maxRecDepth 100000 in
theorem c_X7_run_xn (l : Launch) (D : va_G) (ad : Nat → Nat) (cI cL cB : ClassId) (hI : gI 12 ad) (u : xS) (n : Nat) (B : Nat → Nat → Nat) (hB : gB n B) (x : Nat) (hx : x < 64 * 2 ^ n) (hM : mI u n B x) (x1 : Int32) (hf : x1 < 0) : ∀ sz, Met l yX7_run wsX7_run ({ frames := 2, cells := 0, slots := 0, locals := 50 }) (MP D ad cI cL cB u [.ref (ad 0), .int (x1)] sz) (va_Qi (fun r_ u' => r_ = nI 0 ∧ u'.1 0 0 = nI 1 ∧ mQ u' n B x (u.1 0 11)) (MB D ad cI cL cB) (gA 12 ad sz)) 0 0 (gA 12 ad sz) := by
  intro sz
  refine z_met (cc := cX7_run) (maxL := 3) (ret := (some .int)) (by decide) rfl (Nat.le_of_ble_eq_true rfl) ?_
  intro pq lq sq mq aq Qq bq hmq cq C hr hml hown hts hlocks hK hX hsz hQ
  subst hsz
  have hT7 : ∀ w ∈ wsX70, w.before aq sq = true := fun w h => hts w ((by decide +kernel : ∀ w ∈ wsX70, w ∈ wsX7_run) w h)
  refine z_sub (L' := [(0, .ref (ad 0)), (1, .int (x1))]) [0, 1] rfl ?_
  refine z_aload_n C dX7_run_0 0 rfl ?_
  refine z_iload_n C dX7_run_1 1 rfl ?_
  refine z_if_lt (tgt := 12) C dX7_run_2 (by decide) (fun zc2 => ?_) (fun zc2 => ?_)
  · skip
    refine z_iconst (v := nI 1) C (by decide) dX7_run_12 ?_
    refine z_goto (tgt := 17) C dX7_run_13 (by decide) ?_
    refine z_put (q := 0) C hI tyX7 (T := TX7) (N := 18) (ci := 7) (own := RX7) (index := 45) hT7 hown hK (by decide) rfl rfl 0 (by decide) (hts (.fieldLink RX7 45 "TriggerAnalyzerModel" "thrown" "I") (by decide +kernel)) (fun _ h9 => h9) tyX7_ok nmX7 rfl rfl rfl (Nat.le_of_ble_eq_true rfl) (f' := mF ad cI cL cB ((xs u 0 0 (nI 1)))) rfl mF_ne dX7_run_17 ?_
    refine z_aload_n C dX7_run_20 0 rfl ?_
    refine z_get (q := 0) C (T := TX7) (N := 18) (ci := 7) (own := RX7) (index := 45) (v := .int ((xs u 0 0 (nI 1)).1 0 0)) hT7 hown hK (by decide) rfl rfl 0 (by decide) (hts (.fieldLink RX7 45 "TriggerAnalyzerModel" "thrown" "I") (by decide +kernel)) (fun _ h9 => h9) rfl dX7_run_21 ?_
    refine z_topi (y := nI 1) (xs_s _ _ _ _) ?_
    refine z_if_eq (tgt := 29) C dX7_run_24 (by decide) (fun zc24 => ?_) (fun zc24 => ?_)
    · skip
      have zn24 := z0_t (by omega) zc24
      exact absurd zn24 (by decide)
    · skip
      have zn24 := z0_f zc24
      refine z_iconst (v := nI 0) C (by decide) dX7_run_27 ?_
      exact z_iret C hr hlocks hQ ((xs u 0 0 (nI 1))) (⟨rfl, xs_s _ _ _ _, mQ_1 hM _⟩) (fun _ _ => rfl) dX7_run_28
  · skip
    exact False.elim (zc2 hf)

set_option maxHeartbeats 4000000 in
set_option maxRecDepth 100000 in
theorem c_X7_run_xb (l : Launch) (D : va_G) (ad : Nat → Nat) (cI cL cB : ClassId) (hI : gI 12 ad) (u : xS) (n : Nat) (B : Nat → Nat → Nat) (hB : gB n B) (x : Nat) (hx : x < 64 * 2 ^ n) (hM : mI u n B x) (k : Nat) (hk : 501 ≤ k) (hk2 : k < 2 ^ 31) : ∀ sz, Met l yX7_run wsX7_run ({ frames := 2, cells := 0, slots := 0, locals := 50 }) (MP D ad cI cL cB u [.ref (ad 0), .int (nI k)] sz) (va_Qi (fun r_ u' => r_ = nI 0 ∧ u'.1 0 0 = nI 1 ∧ mQ u' n B x (u.1 0 11)) (MB D ad cI cL cB) (gA 12 ad sz)) 0 0 (gA 12 ad sz) := by
  intro sz
  refine z_met (cc := cX7_run) (maxL := 3) (ret := (some .int)) (by decide) rfl (Nat.le_of_ble_eq_true rfl) ?_
  intro pq lq sq mq aq Qq bq hmq cq C hr hml hown hts hlocks hK hX hsz hQ
  subst hsz
  have hT7 : ∀ w ∈ wsX70, w.before aq sq = true := fun w h => hts w ((by decide +kernel : ∀ w ∈ wsX70, w ∈ wsX7_run) w h)
  refine z_sub (L' := [(0, .ref (ad 0)), (1, .int (nI k))]) [0, 1] rfl ?_
  refine z_aload_n C dX7_run_0 0 rfl ?_
  refine z_iload_n C dX7_run_1 1 rfl ?_
  refine z_if_lt (tgt := 12) C dX7_run_2 (by decide) (fun zc2 => ?_) (fun zc2 => ?_)
  · skip
    exact (zneg (by omega) zc2).elim
  · skip
    refine z_iload_n C dX7_run_5 1 rfl ?_
    refine z_sipush (v := nI 500) C (by decide) dX7_run_6 ?_
    refine z_icmp_le (tgt := 16) C dX7_run_9 (by decide) (fun zc9 => ?_) (fun zc9 => ?_)
    · skip
      have zn9 := zge_t (a := 500) (b := k) (by omega) (by omega) zc9
      exact False.elim (by omega)
    · skip
      have zn9 := zge_f (a := 500) (b := k) (by omega) (by omega) zc9
      refine z_iconst (v := nI 1) C (by decide) dX7_run_12 ?_
      refine z_goto (tgt := 17) C dX7_run_13 (by decide) ?_
      refine z_put (q := 0) C hI tyX7 (T := TX7) (N := 18) (ci := 7) (own := RX7) (index := 45) hT7 hown hK (by decide) rfl rfl 0 (by decide) (hts (.fieldLink RX7 45 "TriggerAnalyzerModel" "thrown" "I") (by decide +kernel)) (fun _ h9 => h9) tyX7_ok nmX7 rfl rfl rfl (Nat.le_of_ble_eq_true rfl) (f' := mF ad cI cL cB ((xs u 0 0 (nI 1)))) rfl mF_ne dX7_run_17 ?_
      refine z_aload_n C dX7_run_20 0 rfl ?_
      refine z_get (q := 0) C (T := TX7) (N := 18) (ci := 7) (own := RX7) (index := 45) (v := .int ((xs u 0 0 (nI 1)).1 0 0)) hT7 hown hK (by decide) rfl rfl 0 (by decide) (hts (.fieldLink RX7 45 "TriggerAnalyzerModel" "thrown" "I") (by decide +kernel)) (fun _ h9 => h9) rfl dX7_run_21 ?_
      refine z_topi (y := nI 1) (xs_s _ _ _ _) ?_
      refine z_if_eq (tgt := 29) C dX7_run_24 (by decide) (fun zc24 => ?_) (fun zc24 => ?_)
      · skip
        have zn24 := z0_t (by omega) zc24
        exact absurd zn24 (by decide)
      · skip
        have zn24 := z0_f zc24
        refine z_iconst (v := nI 0) C (by decide) dX7_run_27 ?_
        exact z_iret C hr hlocks hQ ((xs u 0 0 (nI 1))) (⟨rfl, xs_s _ _ _ _, mQ_1 hM _⟩) (fun _ _ => rfl) dX7_run_28

theorem c_X7_run_x1 (l : Launch) (D : va_G) (ad : Nat → Nat) (cI cL cB : ClassId) (hI : gI 12 ad) (u : xS) (n : Nat) (B : Nat → Nat → Nat) (hB : gB n B) (x : Nat) (hx : x < 64 * 2 ^ n) (hM : mI u n B x) (x1 : Int32) (hx1 : bad 501 x1) : ∀ sz, Met l yX7_run wsX7_run ({ frames := 2, cells := 0, slots := 0, locals := 50 }) (MP D ad cI cL cB u [.ref (ad 0), .int (x1)] sz) (va_Qi (fun r_ u' => r_ = nI 0 ∧ u'.1 0 0 = nI 1 ∧ mQ u' n B x (u.1 0 11)) (MB D ad cI cL cB) (gA 12 ad sz)) 0 0 (gA 12 ad sz) := by
  rcases hx1 with h | ⟨k, rfl, h1, h2⟩
  · exact c_X7_run_xn l D ad cI cL cB hI u n B hB x hx hM x1 h
  · exact c_X7_run_xb l D ad cI cL cB hI u n B hB x hx hM k h1 h2

set_option maxHeartbeats 4000000 in
set_option maxRecDepth 100000 in
theorem c_X7_isWhole_vh (l : Launch) (D : va_G) (ad : Nat → Nat) (cI cL cB : ClassId) (hI : gI 12 ad) (u : xS) (h11 : u.1 0 11 = 1) (h12 : u.1 0 12 = 0) : ∀ sz, Met l yX7_isWhole wsX7_isWhole ({ frames := 0, cells := 0, slots := 0, locals := 0 }) (MP D ad cI cL cB u [.ref (ad 0)] sz) (va_Qi (fun r_ u' => r_ = nI 1 ∧ u' = u) (MB D ad cI cL cB) (gA 12 ad sz)) 0 0 (gA 12 ad sz) := by
  intro sz
  refine z_met (cc := cX7_isWhole) (maxL := 1) (ret := (some .boolean)) (by decide) rfl (Nat.le_of_ble_eq_true rfl) ?_
  intro pq lq sq mq aq Qq bq hmq cq C hr hml hown hts hlocks hK hX hsz hQ
  subst hsz
  have hT7 : ∀ w ∈ wsX70, w.before aq sq = true := fun w h => hts w ((by decide +kernel : ∀ w ∈ wsX70, w ∈ wsX7_isWhole) w h)
  refine z_sub (L' := [(0, .ref (ad 0))]) [0] rfl ?_
  refine z_aload_n C dX7_isWhole_0 0 rfl ?_
  refine z_get (q := 0) C (T := TX7) (N := 18) (ci := 7) (own := RX7) (index := 67) (v := .int (u.1 0 11)) hT7 hown hK (by decide) rfl rfl 11 (by decide) (hts (.fieldLink RX7 67 "TriggerAnalyzerModel" "isExplored" "Z") (by decide +kernel)) (fun _ h9 => h9) rfl dX7_isWhole_1 ?_
  refine z_topi (y := nI 1) (h11) ?_
  refine z_if_eq (tgt := 18) C dX7_isWhole_4 (by decide) (fun zc4 => ?_) (fun zc4 => ?_)
  · skip
    have zn4 := z0_t (by omega) zc4
    exact absurd zn4 (by decide)
  · skip
    have zn4 := z0_f zc4
    refine z_aload_n C dX7_isWhole_7 0 rfl ?_
    refine z_get (q := 0) C (T := TX7) (N := 18) (ci := 7) (own := RX7) (index := 116) (v := .int (u.1 0 12)) hT7 hown hK (by decide) rfl rfl 12 (by decide) (hts (.fieldLink RX7 116 "TriggerAnalyzerModel" "isTooMuch" "Z") (by decide +kernel)) (fun _ h9 => h9) rfl dX7_isWhole_8 ?_
    refine z_topi (y := nI 0) (h12) ?_
    refine z_if_ne (tgt := 18) C dX7_isWhole_11 (by decide) (fun zc11 => ?_) (fun zc11 => ?_)
    · skip
      have zn11 := z0_f zc11
      exact absurd zn11 (by decide)
    · skip
      have zn11 := z0_t (by omega) zc11
      refine z_iconst (v := nI 1) C (by decide) dX7_isWhole_14 ?_
      refine z_goto (tgt := 19) C dX7_isWhole_15 (by decide) ?_
      exact z_zret C hr hlocks rfl hQ u (⟨rfl, rfl⟩) (fun _ _ => rfl) dX7_isWhole_19

set_option maxHeartbeats 4000000 in
set_option maxRecDepth 100000 in
theorem c_X7_isWhole_v0 (l : Launch) (D : va_G) (ad : Nat → Nat) (cI cL cB : ClassId) (hI : gI 12 ad) (u : xS) (h11 : u.1 0 11 = 0) : ∀ sz, Met l yX7_isWhole wsX7_isWhole ({ frames := 0, cells := 0, slots := 0, locals := 0 }) (MP D ad cI cL cB u [.ref (ad 0)] sz) (va_Qi (fun r_ u' => r_ = nI 0 ∧ u' = u) (MB D ad cI cL cB) (gA 12 ad sz)) 0 0 (gA 12 ad sz) := by
  intro sz
  refine z_met (cc := cX7_isWhole) (maxL := 1) (ret := (some .boolean)) (by decide) rfl (Nat.le_of_ble_eq_true rfl) ?_
  intro pq lq sq mq aq Qq bq hmq cq C hr hml hown hts hlocks hK hX hsz hQ
  subst hsz
  have hT7 : ∀ w ∈ wsX70, w.before aq sq = true := fun w h => hts w ((by decide +kernel : ∀ w ∈ wsX70, w ∈ wsX7_isWhole) w h)
  refine z_sub (L' := [(0, .ref (ad 0))]) [0] rfl ?_
  refine z_aload_n C dX7_isWhole_0 0 rfl ?_
  refine z_get (q := 0) C (T := TX7) (N := 18) (ci := 7) (own := RX7) (index := 67) (v := .int (u.1 0 11)) hT7 hown hK (by decide) rfl rfl 11 (by decide) (hts (.fieldLink RX7 67 "TriggerAnalyzerModel" "isExplored" "Z") (by decide +kernel)) (fun _ h9 => h9) rfl dX7_isWhole_1 ?_
  refine z_topi (y := nI 0) (h11) ?_
  refine z_if_eq (tgt := 18) C dX7_isWhole_4 (by decide) (fun zc4 => ?_) (fun zc4 => ?_)
  · skip
    have zn4 := z0_t (by omega) zc4
    refine z_iconst (v := nI 0) C (by decide) dX7_isWhole_18 ?_
    exact z_zret C hr hlocks rfl hQ u (⟨rfl, rfl⟩) (fun _ _ => rfl) dX7_isWhole_19
  · skip
    have zn4 := z0_f zc4
    exact absurd zn4 (by decide)

set_option maxHeartbeats 4000000 in
set_option maxRecDepth 100000 in
theorem c_X7_isWhole_v1 (l : Launch) (D : va_G) (ad : Nat → Nat) (cI cL cB : ClassId) (hI : gI 12 ad) (u : xS) (h11 : u.1 0 11 = 1) (h12 : u.1 0 12 = 1) : ∀ sz, Met l yX7_isWhole wsX7_isWhole ({ frames := 0, cells := 0, slots := 0, locals := 0 }) (MP D ad cI cL cB u [.ref (ad 0)] sz) (va_Qi (fun r_ u' => r_ = nI 0 ∧ u' = u) (MB D ad cI cL cB) (gA 12 ad sz)) 0 0 (gA 12 ad sz) := by
  intro sz
  refine z_met (cc := cX7_isWhole) (maxL := 1) (ret := (some .boolean)) (by decide) rfl (Nat.le_of_ble_eq_true rfl) ?_
  intro pq lq sq mq aq Qq bq hmq cq C hr hml hown hts hlocks hK hX hsz hQ
  subst hsz
  have hT7 : ∀ w ∈ wsX70, w.before aq sq = true := fun w h => hts w ((by decide +kernel : ∀ w ∈ wsX70, w ∈ wsX7_isWhole) w h)
  refine z_sub (L' := [(0, .ref (ad 0))]) [0] rfl ?_
  refine z_aload_n C dX7_isWhole_0 0 rfl ?_
  refine z_get (q := 0) C (T := TX7) (N := 18) (ci := 7) (own := RX7) (index := 67) (v := .int (u.1 0 11)) hT7 hown hK (by decide) rfl rfl 11 (by decide) (hts (.fieldLink RX7 67 "TriggerAnalyzerModel" "isExplored" "Z") (by decide +kernel)) (fun _ h9 => h9) rfl dX7_isWhole_1 ?_
  refine z_topi (y := nI 1) (h11) ?_
  refine z_if_eq (tgt := 18) C dX7_isWhole_4 (by decide) (fun zc4 => ?_) (fun zc4 => ?_)
  · skip
    have zn4 := z0_t (by omega) zc4
    exact absurd zn4 (by decide)
  · skip
    have zn4 := z0_f zc4
    refine z_aload_n C dX7_isWhole_7 0 rfl ?_
    refine z_get (q := 0) C (T := TX7) (N := 18) (ci := 7) (own := RX7) (index := 116) (v := .int (u.1 0 12)) hT7 hown hK (by decide) rfl rfl 12 (by decide) (hts (.fieldLink RX7 116 "TriggerAnalyzerModel" "isTooMuch" "Z") (by decide +kernel)) (fun _ h9 => h9) rfl dX7_isWhole_8 ?_
    refine z_topi (y := nI 1) (h12) ?_
    refine z_if_ne (tgt := 18) C dX7_isWhole_11 (by decide) (fun zc11 => ?_) (fun zc11 => ?_)
    · skip
      have zn11 := z0_f zc11
      refine z_iconst (v := nI 0) C (by decide) dX7_isWhole_18 ?_
      exact z_zret C hr hlocks rfl hQ u (⟨rfl, rfl⟩) (fun _ _ => rfl) dX7_isWhole_19
    · skip
      have zn11 := z0_t (by omega) zc11
      exact absurd zn11 (by decide)

set_option maxHeartbeats 4000000 in
set_option maxRecDepth 100000 in
theorem c_X7_asks_vh (l : Launch) (D : va_G) (ad : Nat → Nat) (cI cL cB : ClassId) (hI : gI 12 ad) (u : xS) (h11 : u.1 0 11 = 1) (h12 : u.1 0 12 = 0) (c : Nat) (hc : c < 2 ^ 31) (k : Nat) (hk : k < c) : ∀ sz, Met l yX7_asks wsX7_asks ({ frames := 1, cells := 0, slots := 0, locals := 20 }) (MP D ad cI cL cB u [.ref (ad 0), .int (nI k), .int (nI c)] sz) (va_Qi (fun r_ u' => r_ = nI 1 ∧ u' = xs u 0 0 (nI 0)) (MB D ad cI cL cB) (gA 12 ad sz)) 0 0 (gA 12 ad sz) := by
  intro sz
  refine z_met (cc := cX7_asks) (maxL := 3) (ret := (some .boolean)) (by decide) rfl (Nat.le_of_ble_eq_true rfl) ?_
  intro pq lq sq mq aq Qq bq hmq cq C hr hml hown hts hlocks hK hX hsz hQ
  subst hsz
  have hT7 : ∀ w ∈ wsX70, w.before aq sq = true := fun w h => hts w ((by decide +kernel : ∀ w ∈ wsX70, w ∈ wsX7_asks) w h)
  refine z_sub (L' := [(0, .ref (ad 0)), (1, .int (nI k)), (2, .int (nI c))]) [0, 1, 2] rfl ?_
  refine z_aload_n C dX7_asks_0 0 rfl ?_
  refine z_aload_n C dX7_asks_1 0 rfl ?_
  refine z_callVi mX_ok C hml hown hts hK hX (c_X7_isWhole_vh l D ad cI cL cB hI u h11 h12) (cwV 0 hts gX7_asks_X7_isWhole rfl rfl rfl (by decide +kernel) ⟨Nat.le_of_ble_eq_true rfl, Nat.le_of_ble_eq_true rfl⟩) (by decide) (ci := 7) rfl rfl rfl (st := [.ref (ad 0)]) rfl (Nat.le_of_ble_eq_true rfl) dX7_asks_2 ⟨Nat.le_of_ble_eq_true rfl, Nat.le_of_ble_eq_true rfl⟩ (fun r2 u2 h2 => ?_)
  obtain ⟨zr2, zu2⟩ := h2
  subst r2
  subst u2
  refine z_if_ne (tgt := 12) C dX7_asks_5 (by decide) (fun zc5 => ?_) (fun zc5 => ?_)
  · skip
    have zn5 := z0_f zc5
    refine z_iload_n C dX7_asks_12 1 rfl ?_
    refine z_if_lt (tgt := 21) C dX7_asks_13 (by decide) (fun zc13 => ?_) (fun zc13 => ?_)
    · skip
      exact (zneg (by omega) zc13).elim
    · skip
      refine z_iload_n C dX7_asks_16 1 rfl ?_
      refine z_iload_n C dX7_asks_17 2 rfl ?_
      refine z_icmp_lt (tgt := 25) C dX7_asks_18 (by decide) (fun zc18 => ?_) (fun zc18 => ?_)
      · skip
        have zn18 := zlt_t (a := k) (b := c) (by omega) (by omega) zc18
        refine z_iconst (v := nI 0) C (by decide) dX7_asks_25 ?_
        refine z_put (q := 0) C hI tyX7 (T := TX7) (N := 18) (ci := 7) (own := RX7) (index := 45) hT7 hown hK (by decide) rfl rfl 0 (by decide) (hts (.fieldLink RX7 45 "TriggerAnalyzerModel" "thrown" "I") (by decide +kernel)) (fun _ h9 => h9) tyX7_ok nmX7 rfl rfl rfl (Nat.le_of_ble_eq_true rfl) (f' := mF ad cI cL cB ((xs u 0 0 (nI 0)))) rfl mF_ne dX7_asks_26 ?_
        refine z_aload_n C dX7_asks_29 0 rfl ?_
        refine z_get (q := 0) C (T := TX7) (N := 18) (ci := 7) (own := RX7) (index := 45) (v := .int ((xs u 0 0 (nI 0)).1 0 0)) hT7 hown hK (by decide) rfl rfl 0 (by decide) (hts (.fieldLink RX7 45 "TriggerAnalyzerModel" "thrown" "I") (by decide +kernel)) (fun _ h9 => h9) rfl dX7_asks_30 ?_
        refine z_topi (y := nI 0) (xs_s _ _ _ _) ?_
        refine z_if_ne (tgt := 40) C dX7_asks_33 (by decide) (fun zc33 => ?_) (fun zc33 => ?_)
        · skip
          have zn33 := z0_f zc33
          exact absurd zn33 (by decide)
        · skip
          have zn33 := z0_t (by omega) zc33
          refine z_iconst (v := nI 1) C (by decide) dX7_asks_36 ?_
          refine z_goto (tgt := 41) C dX7_asks_37 (by decide) ?_
          exact z_zret C hr hlocks rfl hQ ((xs u 0 0 (nI 0))) (⟨rfl, rfl⟩) (fun _ _ => rfl) dX7_asks_41
      · skip
        have zn18 := zlt_f (a := k) (b := c) (by omega) (by omega) zc18
        exact False.elim (by omega)
  · skip
    have zn5 := z0_t (by omega) zc5
    exact absurd zn5 (by decide)

set_option maxHeartbeats 4000000 in
set_option maxRecDepth 100000 in
theorem c_X7_asks_vn (l : Launch) (D : va_G) (ad : Nat → Nat) (cI cL cB : ClassId) (hI : gI 12 ad) (u : xS) (h11 : u.1 0 11 = 1) (h12 : u.1 0 12 = 0) (c : Nat) (hc : c < 2 ^ 31) (x : Int32) (hx : x < 0) : ∀ sz, Met l yX7_asks wsX7_asks ({ frames := 1, cells := 0, slots := 0, locals := 20 }) (MP D ad cI cL cB u [.ref (ad 0), .int (x), .int (nI c)] sz) (va_Qi (fun r_ u' => r_ = nI 0 ∧ u' = xs u 0 0 (nI 2)) (MB D ad cI cL cB) (gA 12 ad sz)) 0 0 (gA 12 ad sz) := by
  intro sz
  refine z_met (cc := cX7_asks) (maxL := 3) (ret := (some .boolean)) (by decide) rfl (Nat.le_of_ble_eq_true rfl) ?_
  intro pq lq sq mq aq Qq bq hmq cq C hr hml hown hts hlocks hK hX hsz hQ
  subst hsz
  have hT7 : ∀ w ∈ wsX70, w.before aq sq = true := fun w h => hts w ((by decide +kernel : ∀ w ∈ wsX70, w ∈ wsX7_asks) w h)
  refine z_sub (L' := [(0, .ref (ad 0)), (1, .int (x)), (2, .int (nI c))]) [0, 1, 2] rfl ?_
  refine z_aload_n C dX7_asks_0 0 rfl ?_
  refine z_aload_n C dX7_asks_1 0 rfl ?_
  refine z_callVi mX_ok C hml hown hts hK hX (c_X7_isWhole_vh l D ad cI cL cB hI u h11 h12) (cwV 0 hts gX7_asks_X7_isWhole rfl rfl rfl (by decide +kernel) ⟨Nat.le_of_ble_eq_true rfl, Nat.le_of_ble_eq_true rfl⟩) (by decide) (ci := 7) rfl rfl rfl (st := [.ref (ad 0)]) rfl (Nat.le_of_ble_eq_true rfl) dX7_asks_2 ⟨Nat.le_of_ble_eq_true rfl, Nat.le_of_ble_eq_true rfl⟩ (fun r2 u2 h2 => ?_)
  obtain ⟨zr2, zu2⟩ := h2
  subst r2
  subst u2
  refine z_if_ne (tgt := 12) C dX7_asks_5 (by decide) (fun zc5 => ?_) (fun zc5 => ?_)
  · skip
    have zn5 := z0_f zc5
    refine z_iload_n C dX7_asks_12 1 rfl ?_
    refine z_if_lt (tgt := 21) C dX7_asks_13 (by decide) (fun zc13 => ?_) (fun zc13 => ?_)
    · skip
      refine z_iconst (v := nI 2) C (by decide) dX7_asks_21 ?_
      refine z_goto (tgt := 26) C dX7_asks_22 (by decide) ?_
      refine z_put (q := 0) C hI tyX7 (T := TX7) (N := 18) (ci := 7) (own := RX7) (index := 45) hT7 hown hK (by decide) rfl rfl 0 (by decide) (hts (.fieldLink RX7 45 "TriggerAnalyzerModel" "thrown" "I") (by decide +kernel)) (fun _ h9 => h9) tyX7_ok nmX7 rfl rfl rfl (Nat.le_of_ble_eq_true rfl) (f' := mF ad cI cL cB ((xs u 0 0 (nI 2)))) rfl mF_ne dX7_asks_26 ?_
      refine z_aload_n C dX7_asks_29 0 rfl ?_
      refine z_get (q := 0) C (T := TX7) (N := 18) (ci := 7) (own := RX7) (index := 45) (v := .int ((xs u 0 0 (nI 2)).1 0 0)) hT7 hown hK (by decide) rfl rfl 0 (by decide) (hts (.fieldLink RX7 45 "TriggerAnalyzerModel" "thrown" "I") (by decide +kernel)) (fun _ h9 => h9) rfl dX7_asks_30 ?_
      refine z_topi (y := nI 2) (xs_s _ _ _ _) ?_
      refine z_if_ne (tgt := 40) C dX7_asks_33 (by decide) (fun zc33 => ?_) (fun zc33 => ?_)
      · skip
        have zn33 := z0_f zc33
        refine z_iconst (v := nI 0) C (by decide) dX7_asks_40 ?_
        exact z_zret C hr hlocks rfl hQ ((xs u 0 0 (nI 2))) (⟨rfl, rfl⟩) (fun _ _ => rfl) dX7_asks_41
      · skip
        have zn33 := z0_t (by omega) zc33
        exact absurd zn33 (by decide)
    · skip
      exact False.elim (zc13 hx)
  · skip
    have zn5 := z0_t (by omega) zc5
    exact absurd zn5 (by decide)

set_option maxHeartbeats 4000000 in
set_option maxRecDepth 100000 in
theorem c_X7_asks_vb (l : Launch) (D : va_G) (ad : Nat → Nat) (cI cL cB : ClassId) (hI : gI 12 ad) (u : xS) (h11 : u.1 0 11 = 1) (h12 : u.1 0 12 = 0) (c : Nat) (hc : c < 2 ^ 31) (k : Nat) (hk : c ≤ k) (hk2 : k < 2 ^ 31) : ∀ sz, Met l yX7_asks wsX7_asks ({ frames := 1, cells := 0, slots := 0, locals := 20 }) (MP D ad cI cL cB u [.ref (ad 0), .int (nI k), .int (nI c)] sz) (va_Qi (fun r_ u' => r_ = nI 0 ∧ u' = xs u 0 0 (nI 2)) (MB D ad cI cL cB) (gA 12 ad sz)) 0 0 (gA 12 ad sz) := by
  intro sz
  refine z_met (cc := cX7_asks) (maxL := 3) (ret := (some .boolean)) (by decide) rfl (Nat.le_of_ble_eq_true rfl) ?_
  intro pq lq sq mq aq Qq bq hmq cq C hr hml hown hts hlocks hK hX hsz hQ
  subst hsz
  have hT7 : ∀ w ∈ wsX70, w.before aq sq = true := fun w h => hts w ((by decide +kernel : ∀ w ∈ wsX70, w ∈ wsX7_asks) w h)
  refine z_sub (L' := [(0, .ref (ad 0)), (1, .int (nI k)), (2, .int (nI c))]) [0, 1, 2] rfl ?_
  refine z_aload_n C dX7_asks_0 0 rfl ?_
  refine z_aload_n C dX7_asks_1 0 rfl ?_
  refine z_callVi mX_ok C hml hown hts hK hX (c_X7_isWhole_vh l D ad cI cL cB hI u h11 h12) (cwV 0 hts gX7_asks_X7_isWhole rfl rfl rfl (by decide +kernel) ⟨Nat.le_of_ble_eq_true rfl, Nat.le_of_ble_eq_true rfl⟩) (by decide) (ci := 7) rfl rfl rfl (st := [.ref (ad 0)]) rfl (Nat.le_of_ble_eq_true rfl) dX7_asks_2 ⟨Nat.le_of_ble_eq_true rfl, Nat.le_of_ble_eq_true rfl⟩ (fun r2 u2 h2 => ?_)
  obtain ⟨zr2, zu2⟩ := h2
  subst r2
  subst u2
  refine z_if_ne (tgt := 12) C dX7_asks_5 (by decide) (fun zc5 => ?_) (fun zc5 => ?_)
  · skip
    have zn5 := z0_f zc5
    refine z_iload_n C dX7_asks_12 1 rfl ?_
    refine z_if_lt (tgt := 21) C dX7_asks_13 (by decide) (fun zc13 => ?_) (fun zc13 => ?_)
    · skip
      exact (zneg (by omega) zc13).elim
    · skip
      refine z_iload_n C dX7_asks_16 1 rfl ?_
      refine z_iload_n C dX7_asks_17 2 rfl ?_
      refine z_icmp_lt (tgt := 25) C dX7_asks_18 (by decide) (fun zc18 => ?_) (fun zc18 => ?_)
      · skip
        have zn18 := zlt_t (a := k) (b := c) (by omega) (by omega) zc18
        exact False.elim (by omega)
      · skip
        have zn18 := zlt_f (a := k) (b := c) (by omega) (by omega) zc18
        refine z_iconst (v := nI 2) C (by decide) dX7_asks_21 ?_
        refine z_goto (tgt := 26) C dX7_asks_22 (by decide) ?_
        refine z_put (q := 0) C hI tyX7 (T := TX7) (N := 18) (ci := 7) (own := RX7) (index := 45) hT7 hown hK (by decide) rfl rfl 0 (by decide) (hts (.fieldLink RX7 45 "TriggerAnalyzerModel" "thrown" "I") (by decide +kernel)) (fun _ h9 => h9) tyX7_ok nmX7 rfl rfl rfl (Nat.le_of_ble_eq_true rfl) (f' := mF ad cI cL cB ((xs u 0 0 (nI 2)))) rfl mF_ne dX7_asks_26 ?_
        refine z_aload_n C dX7_asks_29 0 rfl ?_
        refine z_get (q := 0) C (T := TX7) (N := 18) (ci := 7) (own := RX7) (index := 45) (v := .int ((xs u 0 0 (nI 2)).1 0 0)) hT7 hown hK (by decide) rfl rfl 0 (by decide) (hts (.fieldLink RX7 45 "TriggerAnalyzerModel" "thrown" "I") (by decide +kernel)) (fun _ h9 => h9) rfl dX7_asks_30 ?_
        refine z_topi (y := nI 2) (xs_s _ _ _ _) ?_
        refine z_if_ne (tgt := 40) C dX7_asks_33 (by decide) (fun zc33 => ?_) (fun zc33 => ?_)
        · skip
          have zn33 := z0_f zc33
          refine z_iconst (v := nI 0) C (by decide) dX7_asks_40 ?_
          exact z_zret C hr hlocks rfl hQ ((xs u 0 0 (nI 2))) (⟨rfl, rfl⟩) (fun _ _ => rfl) dX7_asks_41
        · skip
          have zn33 := z0_t (by omega) zc33
          exact absurd zn33 (by decide)
  · skip
    have zn5 := z0_t (by omega) zc5
    exact absurd zn5 (by decide)

set_option maxHeartbeats 4000000 in
set_option maxRecDepth 100000 in
theorem c_X7_asks_w0 (l : Launch) (D : va_G) (ad : Nat → Nat) (cI cL cB : ClassId) (hI : gI 12 ad) (u : xS) (h11 : u.1 0 11 = 0) (x y : Int32) : ∀ sz, Met l yX7_asks wsX7_asks ({ frames := 1, cells := 0, slots := 0, locals := 20 }) (MP D ad cI cL cB u [.ref (ad 0), .int (x), .int (y)] sz) (va_Qi (fun r_ u' => r_ = nI 0 ∧ u' = xs u 0 0 (nI 1)) (MB D ad cI cL cB) (gA 12 ad sz)) 0 0 (gA 12 ad sz) := by
  intro sz
  refine z_met (cc := cX7_asks) (maxL := 3) (ret := (some .boolean)) (by decide) rfl (Nat.le_of_ble_eq_true rfl) ?_
  intro pq lq sq mq aq Qq bq hmq cq C hr hml hown hts hlocks hK hX hsz hQ
  subst hsz
  have hT7 : ∀ w ∈ wsX70, w.before aq sq = true := fun w h => hts w ((by decide +kernel : ∀ w ∈ wsX70, w ∈ wsX7_asks) w h)
  refine z_sub (L' := [(0, .ref (ad 0)), (1, .int (x)), (2, .int (y))]) [0, 1, 2] rfl ?_
  refine z_aload_n C dX7_asks_0 0 rfl ?_
  refine z_aload_n C dX7_asks_1 0 rfl ?_
  refine z_callVi mX_ok C hml hown hts hK hX (c_X7_isWhole_v0 l D ad cI cL cB hI u h11) (cwV 0 hts gX7_asks_X7_isWhole rfl rfl rfl (by decide +kernel) ⟨Nat.le_of_ble_eq_true rfl, Nat.le_of_ble_eq_true rfl⟩) (by decide) (ci := 7) rfl rfl rfl (st := [.ref (ad 0)]) rfl (Nat.le_of_ble_eq_true rfl) dX7_asks_2 ⟨Nat.le_of_ble_eq_true rfl, Nat.le_of_ble_eq_true rfl⟩ (fun r2 u2 h2 => ?_)
  obtain ⟨zr2, zu2⟩ := h2
  subst r2
  subst u2
  refine z_if_ne (tgt := 12) C dX7_asks_5 (by decide) (fun zc5 => ?_) (fun zc5 => ?_)
  · skip
    have zn5 := z0_f zc5
    exact absurd zn5 (by decide)
  · skip
    have zn5 := z0_t (by omega) zc5
    refine z_iconst (v := nI 1) C (by decide) dX7_asks_8 ?_
    refine z_goto (tgt := 26) C dX7_asks_9 (by decide) ?_
    refine z_put (q := 0) C hI tyX7 (T := TX7) (N := 18) (ci := 7) (own := RX7) (index := 45) hT7 hown hK (by decide) rfl rfl 0 (by decide) (hts (.fieldLink RX7 45 "TriggerAnalyzerModel" "thrown" "I") (by decide +kernel)) (fun _ h9 => h9) tyX7_ok nmX7 rfl rfl rfl (Nat.le_of_ble_eq_true rfl) (f' := mF ad cI cL cB ((xs u 0 0 (nI 1)))) rfl mF_ne dX7_asks_26 ?_
    refine z_aload_n C dX7_asks_29 0 rfl ?_
    refine z_get (q := 0) C (T := TX7) (N := 18) (ci := 7) (own := RX7) (index := 45) (v := .int ((xs u 0 0 (nI 1)).1 0 0)) hT7 hown hK (by decide) rfl rfl 0 (by decide) (hts (.fieldLink RX7 45 "TriggerAnalyzerModel" "thrown" "I") (by decide +kernel)) (fun _ h9 => h9) rfl dX7_asks_30 ?_
    refine z_topi (y := nI 1) (xs_s _ _ _ _) ?_
    refine z_if_ne (tgt := 40) C dX7_asks_33 (by decide) (fun zc33 => ?_) (fun zc33 => ?_)
    · skip
      have zn33 := z0_f zc33
      refine z_iconst (v := nI 0) C (by decide) dX7_asks_40 ?_
      exact z_zret C hr hlocks rfl hQ ((xs u 0 0 (nI 1))) (⟨rfl, rfl⟩) (fun _ _ => rfl) dX7_asks_41
    · skip
      have zn33 := z0_t (by omega) zc33
      exact absurd zn33 (by decide)

set_option maxHeartbeats 4000000 in
set_option maxRecDepth 100000 in
theorem c_X7_asks_w1 (l : Launch) (D : va_G) (ad : Nat → Nat) (cI cL cB : ClassId) (hI : gI 12 ad) (u : xS) (h11 : u.1 0 11 = 1) (h12 : u.1 0 12 = 1) (x y : Int32) : ∀ sz, Met l yX7_asks wsX7_asks ({ frames := 1, cells := 0, slots := 0, locals := 20 }) (MP D ad cI cL cB u [.ref (ad 0), .int (x), .int (y)] sz) (va_Qi (fun r_ u' => r_ = nI 0 ∧ u' = xs u 0 0 (nI 1)) (MB D ad cI cL cB) (gA 12 ad sz)) 0 0 (gA 12 ad sz) := by
  intro sz
  refine z_met (cc := cX7_asks) (maxL := 3) (ret := (some .boolean)) (by decide) rfl (Nat.le_of_ble_eq_true rfl) ?_
  intro pq lq sq mq aq Qq bq hmq cq C hr hml hown hts hlocks hK hX hsz hQ
  subst hsz
  have hT7 : ∀ w ∈ wsX70, w.before aq sq = true := fun w h => hts w ((by decide +kernel : ∀ w ∈ wsX70, w ∈ wsX7_asks) w h)
  refine z_sub (L' := [(0, .ref (ad 0)), (1, .int (x)), (2, .int (y))]) [0, 1, 2] rfl ?_
  refine z_aload_n C dX7_asks_0 0 rfl ?_
  refine z_aload_n C dX7_asks_1 0 rfl ?_
  refine z_callVi mX_ok C hml hown hts hK hX (c_X7_isWhole_v1 l D ad cI cL cB hI u h11 h12) (cwV 0 hts gX7_asks_X7_isWhole rfl rfl rfl (by decide +kernel) ⟨Nat.le_of_ble_eq_true rfl, Nat.le_of_ble_eq_true rfl⟩) (by decide) (ci := 7) rfl rfl rfl (st := [.ref (ad 0)]) rfl (Nat.le_of_ble_eq_true rfl) dX7_asks_2 ⟨Nat.le_of_ble_eq_true rfl, Nat.le_of_ble_eq_true rfl⟩ (fun r2 u2 h2 => ?_)
  obtain ⟨zr2, zu2⟩ := h2
  subst r2
  subst u2
  refine z_if_ne (tgt := 12) C dX7_asks_5 (by decide) (fun zc5 => ?_) (fun zc5 => ?_)
  · skip
    have zn5 := z0_f zc5
    exact absurd zn5 (by decide)
  · skip
    have zn5 := z0_t (by omega) zc5
    refine z_iconst (v := nI 1) C (by decide) dX7_asks_8 ?_
    refine z_goto (tgt := 26) C dX7_asks_9 (by decide) ?_
    refine z_put (q := 0) C hI tyX7 (T := TX7) (N := 18) (ci := 7) (own := RX7) (index := 45) hT7 hown hK (by decide) rfl rfl 0 (by decide) (hts (.fieldLink RX7 45 "TriggerAnalyzerModel" "thrown" "I") (by decide +kernel)) (fun _ h9 => h9) tyX7_ok nmX7 rfl rfl rfl (Nat.le_of_ble_eq_true rfl) (f' := mF ad cI cL cB ((xs u 0 0 (nI 1)))) rfl mF_ne dX7_asks_26 ?_
    refine z_aload_n C dX7_asks_29 0 rfl ?_
    refine z_get (q := 0) C (T := TX7) (N := 18) (ci := 7) (own := RX7) (index := 45) (v := .int ((xs u 0 0 (nI 1)).1 0 0)) hT7 hown hK (by decide) rfl rfl 0 (by decide) (hts (.fieldLink RX7 45 "TriggerAnalyzerModel" "thrown" "I") (by decide +kernel)) (fun _ h9 => h9) rfl dX7_asks_30 ?_
    refine z_topi (y := nI 1) (xs_s _ _ _ _) ?_
    refine z_if_ne (tgt := 40) C dX7_asks_33 (by decide) (fun zc33 => ?_) (fun zc33 => ?_)
    · skip
      have zn33 := z0_f zc33
      refine z_iconst (v := nI 0) C (by decide) dX7_asks_40 ?_
      exact z_zret C hr hlocks rfl hQ ((xs u 0 0 (nI 1))) (⟨rfl, rfl⟩) (fun _ _ => rfl) dX7_asks_41
    · skip
      have zn33 := z0_t (by omega) zc33
      exact absurd zn33 (by decide)

theorem c_X7_asks_x (l : Launch) (D : va_G) (ad : Nat → Nat) (cI cL cB : ClassId) (hI : gI 12 ad) (u : xS) (h11 : u.1 0 11 = 1) (h12 : u.1 0 12 = 0) (c : Nat) (hc : c < 2 ^ 31) (x : Int32) (hx : bad c x) : ∀ sz, Met l yX7_asks wsX7_asks ({ frames := 1, cells := 0, slots := 0, locals := 20 }) (MP D ad cI cL cB u [.ref (ad 0), .int (x), .int (nI c)] sz) (va_Qi (fun r_ u' => r_ = nI 0 ∧ u' = xs u 0 0 (nI 2)) (MB D ad cI cL cB) (gA 12 ad sz)) 0 0 (gA 12 ad sz) := by
  rcases hx with h | ⟨k, rfl, h1, h2⟩
  · exact c_X7_asks_vn l D ad cI cL cB hI u h11 h12 c hc x h
  · exact c_X7_asks_vb l D ad cI cL cB hI u h11 h12 c hc k h1 h2

def mNo (u : xS) : Prop := u.1 0 11 = 0 ∨ (u.1 0 11 = 1 ∧ u.1 0 12 = 1)

theorem c_X7_asks_w (l : Launch) (D : va_G) (ad : Nat → Nat) (cI cL cB : ClassId) (hI : gI 12 ad) (u : xS) (hN : mNo u) (x y : Int32) : ∀ sz, Met l yX7_asks wsX7_asks ({ frames := 1, cells := 0, slots := 0, locals := 20 }) (MP D ad cI cL cB u [.ref (ad 0), .int (x), .int (y)] sz) (va_Qi (fun r_ u' => r_ = nI 0 ∧ u' = xs u 0 0 (nI 1)) (MB D ad cI cL cB) (gA 12 ad sz)) 0 0 (gA 12 ad sz) := by
  rcases hN with h | ⟨h, h2⟩
  · exact c_X7_asks_w0 l D ad cI cL cB hI u h x y
  · exact c_X7_asks_w1 l D ad cI cL cB hI u h h2 x y
