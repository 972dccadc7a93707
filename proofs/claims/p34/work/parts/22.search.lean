set_option maxHeartbeats 4000000 in
set_option maxRecDepth 100000 in
theorem c_X1_clear (l : Launch) (D : va_G) (ad : Nat → Nat) (cI cL cR : ClassId) (hI : gI 34 ad) (u : xS) (S : Nat → Nat) (c : Nat) (hc : c ≤ 1000) (hn9 : u.1 21 7 = nI c) (hS : ∀ j, j < c → u.1 22 j = nI (S j) ∧ S j < 16384) (hp9 : ∀ y, y < 16384 → u.1 25 y = nI (plc S c y)) : ∀ sz, Met l yX1_clear wsX1_clear ({ frames := 1, cells := 0, slots := 0, locals := 22 }) (XP D ad cI cL cR u [.ref (ad 21)] sz) (va_Qv (fun u' => xClr u' ∧ xFr u u') (XB D ad cI cL cR) (gA 34 ad sz)) 0 0 (gA 34 ad sz) := by
  intro sz
  refine z_met (cc := cX1_clear) (maxL := 2) (ret := none) (by decide) rfl (Nat.le_of_ble_eq_true rfl) ?_
  intro pq lq sq mq aq Qq bq hmq cq C hr hml hown hts hlocks hK hX hsz hQ
  subst hsz
  have hT1 : ∀ w ∈ wsX10, w.before aq sq = true := fun w h => hts w ((by decide +kernel : ∀ w ∈ wsX10, w ∈ wsX1_clear) w h)
  refine z_sub (L' := [(0, .ref (ad 21))]) [0] rfl ?_
  refine z_iconst (v := nI 0) C (by decide) dX1_clear_0 ?_
  refine z_istore_n (L' := [(1, .int (nI 0)), (0, .ref (ad 21))]) C dX1_clear_1 (by decide) rfl ?_
  have loop2 : ∀ (d2 : Nat) (k : Nat) (w : xS), c - k < d2 → (k ≤ c) → (∀ y, y < 16384 → w.1 25 y = if fnd S k y < k then nI 0 else u.1 25 y) → (w.1 21 = u.1 21 ∧ xFr u w ∧ w.1 22 = u.1 22) → ZZ pq l lq { frames := 1, cells := 0, slots := 0, locals := 22 } sq mq aq bq hmq cq D vwCl 34 ad 2 0 0 Qq (xF ad cI cL cR w) [(0, .ref (ad 21)), (1, .int (nI k))] 2 [] := by
    intro d2
    induction d2 with
    | zero => intro k w hz; exact absurd hz (Nat.not_lt_zero _)
    | succ d2 ih2 =>
      intro k w hz2 hk8 hw hF
      refine z_iload_n C dX1_clear_2 1 rfl ?_
      refine z_aload_n C dX1_clear_3 0 rfl ?_
      refine z_get (q := 21) C (T := TX1) (N := 12) (ci := 1) (own := RX1) (index := 49) (v := .int (w.1 21 7)) hT1 hown hK (by decide) rfl rfl 7 (by decide) (hts (.fieldLink RX1 49 "TriggerAnalyzer$Exploration" "count" "I") (by decide +kernel)) (fun _ h9 => h9) rfl dX1_clear_4 ?_
      refine z_topi (y := nI c) (by rw [hF.1]; exact hn9) ?_
      refine z_icmp_ge (tgt := 34) C dX1_clear_7 (by decide) (fun zc7 => ?_) (fun zc7 => ?_)
      · skip
        have zn7 := zge_t (a := k) (b := c) (by omega) (by omega) zc7
        refine z_aload_n C dX1_clear_34 0 rfl ?_
        refine z_iconst (v := nI 0) C (by decide) dX1_clear_35 ?_
        refine z_put (q := 21) C hI tyX1 (T := TX1) (N := 12) (ci := 1) (own := RX1) (index := 49) hT1 hown hK (by decide) rfl rfl 7 (by decide) (hts (.fieldLink RX1 49 "TriggerAnalyzer$Exploration" "count" "I") (by decide +kernel)) (fun _ h9 => h9) tyX1_ok nmX1 rfl rfl rfl (Nat.le_of_ble_eq_true rfl) (f' := xF ad cI cL cR ((xs w 21 7 (nI 0)))) rfl xF_ne dX1_clear_36 ?_
        refine z_aload_n C dX1_clear_39 0 rfl ?_
        refine z_iconst (v := nI 0) C (by decide) dX1_clear_40 ?_
        refine z_put (q := 21) C hI tyX1 (T := TX1) (N := 12) (ci := 1) (own := RX1) (index := 46) hT1 hown hK (by decide) rfl rfl 9 (by decide) (hts (.fieldLink RX1 46 "TriggerAnalyzer$Exploration" "tooMany" "Z") (by decide +kernel)) (fun _ h9 => h9) tyX1_ok nmX1 rfl rfl rfl (Nat.le_of_ble_eq_true rfl) (f' := xF ad cI cL cR ((xs ((xs w 21 7 (nI 0))) 21 9 (nI 0)))) rfl xF_ne dX1_clear_41 ?_
        refine z_aload_n C dX1_clear_44 0 rfl ?_
        refine z_iconst (v := nI 0) C (by decide) dX1_clear_45 ?_
        refine z_put (q := 21) C hI tyX1 (T := TX1) (N := 12) (ci := 1) (own := RX1) (index := 53) hT1 hown hK (by decide) rfl rfl 10 (by decide) (hts (.fieldLink RX1 53 "TriggerAnalyzer$Exploration" "readyEver" "I") (by decide +kernel)) (fun _ h9 => h9) tyX1_ok nmX1 rfl rfl rfl (Nat.le_of_ble_eq_true rfl) (f' := xF ad cI cL cR ((xs ((xs ((xs w 21 7 (nI 0))) 21 9 (nI 0))) 21 10 (nI 0)))) rfl xF_ne dX1_clear_46 ?_
        refine z_aload_n C dX1_clear_49 0 rfl ?_
        refine z_iconst (v := nI 0) C (by decide) dX1_clear_50 ?_
        refine z_put (q := 21) C hI tyX1 (T := TX1) (N := 12) (ci := 1) (own := RX1) (index := 56) hT1 hown hK (by decide) rfl rfl 11 (by decide) (hts (.fieldLink RX1 56 "TriggerAnalyzer$Exploration" "choices" "I") (by decide +kernel)) (fun _ h9 => h9) tyX1_ok nmX1 rfl rfl rfl (Nat.le_of_ble_eq_true rfl) (f' := xF ad cI cL cR ((xs ((xs ((xs ((xs w 21 7 (nI 0))) 21 9 (nI 0))) 21 10 (nI 0))) 21 11 (nI 0)))) rfl xF_ne dX1_clear_51 ?_
        refine z_aload_n C dX1_clear_54 0 rfl ?_
        refine z_get (q := 21) C (T := TX1) (N := 12) (ci := 1) (own := RX1) (index := 27) (v := .ref (ad 26)) hT1 hown hK (by decide) rfl rfl 5 (by decide) (hts (.fieldLink RX1 27 "TriggerAnalyzer$Exploration" "ends" "LTriggerAnalyzer$Ends;") (by decide +kernel)) (fun _ h9 => h9) rfl dX1_clear_55 ?_
        refine z_callVv xX_ok C hml hown hts hK hX (c_X0_clear l D ad cI cL cR hI ((xs ((xs ((xs ((xs w 21 7 (nI 0))) 21 9 (nI 0))) 21 10 (nI 0))) 21 11 (nI 0)))) (cwV 0 hts gX1_clear_X0_clear rfl rfl rfl (by decide +kernel) ⟨Nat.le_of_ble_eq_true rfl, Nat.le_of_ble_eq_true rfl⟩) (by decide) (ci := 0) rfl rfl rfl (st := []) rfl (Nat.le_of_ble_eq_true rfl) dX1_clear_58 ⟨Nat.le_of_ble_eq_true rfl, Nat.le_of_ble_eq_true rfl⟩ (fun u58 h58 => ?_)
        subst u58
        have ek : k = c := by omega
        subst ek
        have h25 := clr_end hw hp9
        exact z_vret C hr hlocks hQ (xs (xs ((xs ((xs ((xs ((xs w 21 7 (nI 0))) 21 9 (nI 0))) 21 10 (nI 0))) 21 11 (nI 0))) 26 1 (nI 0)) 26 2 (-1)) (⟨⟨by rw [xs_c (by decide), xs_c (by decide), xs_j (by decide), xs_j (by decide), xs_j (by decide), xs_s], by rw [xs_c (by decide), xs_c (by decide), xs_j (by decide), xs_j (by decide), xs_s]; rfl, by rw [xs_c (by decide), xs_c (by decide), xs_j (by decide), xs_s], by rw [xs_c (by decide), xs_c (by decide), xs_s], by rw [xs_j (by decide), xs_s], by rw [xs_s], fun y hy => by rw [xs_c (by decide), xs_c (by decide), xs_c (by decide), xs_c (by decide), xs_c (by decide), xs_c (by decide)]; exact h25 y hy⟩, xFr_s (xFr_s (xFr_s (xFr_s (xFr_s (xFr_s hF.2.1 (by decide) (by decide) (by decide)) (by decide) (by decide) (by decide)) (by decide) (by decide) (by decide)) (by decide) (by decide) (by decide)) (by decide) (by decide) (by decide)) (by decide) (by decide) (by decide)⟩) (fun _ _ => rfl) dX1_clear_61
      · skip
        have zn7 := zge_f (a := k) (b := c) (by omega) (by omega) zc7
        refine z_iload_n C dX1_clear_10 1 rfl ?_
        refine z_sipush (v := nI 1000) C (by decide) dX1_clear_11 ?_
        refine z_icmp_ge (tgt := 34) C dX1_clear_14 (by decide) (fun zc14 => ?_) (fun zc14 => ?_)
        · skip
          have zn14 := zge_t (a := k) (b := 1000) (by omega) (by omega) zc14
          exact False.elim (by omega)
        · skip
          have zn14 := zge_f (a := k) (b := 1000) (by omega) (by omega) zc14
          refine z_aload_n C dX1_clear_17 0 rfl ?_
          refine z_aload_n C dX1_clear_18 0 rfl ?_
          refine z_get (q := 21) C (T := TX1) (N := 12) (ci := 1) (own := RX1) (index := 9) (v := .ref (ad 22)) hT1 hown hK (by decide) rfl rfl 1 (by decide) (hts (.fieldLink RX1 9 "TriggerAnalyzer$Exploration" "situations" "[I") (by decide +kernel)) (fun _ h9 => h9) rfl dX1_clear_19 ?_
          refine z_iload_n C dX1_clear_22 1 rfl ?_
          refine z_iald (q := 22) (len := 1000) (k := k) C hK (by decide) rfl 0 rfl (rfl) (by omega) (by decide) dX1_clear_23 ?_
          refine z_topi (y := nI (S k)) (by rw [hF.2.2]; exact (hS k zn7).1) ?_
          refine z_iconst (v := nI 0) C (by decide) dX1_clear_24 ?_
          refine z_callVv xX_ok C hml hown hts hK hX (c_X1_mark l D ad cI cL cR hI w (S k) (hS k zn7).2 (nI 0)) (cwV 2 hts gX1_clear_X1_mark rfl rfl rfl (by decide +kernel) ⟨Nat.le_of_ble_eq_true rfl, Nat.le_of_ble_eq_true rfl⟩) (by decide) (ci := 1) rfl rfl rfl (st := []) rfl (Nat.le_of_ble_eq_true rfl) dX1_clear_25 ⟨Nat.le_of_ble_eq_true rfl, Nat.le_of_ble_eq_true rfl⟩ (fun u25 h25 => ?_)
          subst u25
          refine z_iinc (L' := [(1, .int (nI (k + 1))), (0, .ref (ad 21))]) C dX1_clear_28 1 rfl (nI_1 k) (by decide) rfl ?_
          refine z_goto (tgt := 2) C dX1_clear_31 (by decide) ?_
          refine z_sub (L' := [(0, .ref (ad 21)), (1, .int (nI (k + 1)))]) [1, 0] rfl ?_
          exact ih2 (k + 1) (xs w 25 ((S k)) ((nI 0))) (by omega) (by omega) (clr_step hw) ⟨by rw [xs_r (by decide)]; exact hF.1, xFr_s hF.2.1 (by decide) (by decide) (by omega), by rw [xs_r (by decide)]; exact hF.2.2⟩
  refine z_sub (L' := [(0, .ref (ad 21)), (1, .int (nI 0))]) [1, 0] rfl ?_
  exact loop2 (c + 1) 0 u (by omega) (by omega) (fun y _ => by rw [if_neg (Nat.not_lt_zero _)]) ⟨rfl, xFr_rf u, rfl⟩

set_option maxHeartbeats 4000000 in
set_option maxRecDepth 100000 in
theorem c_X1_search (l : Launch) (D : va_G) (ad : Nat → Nat) (cI cL cR : ClassId) (hI : gI 34 ad) (u : xS) (n : Nat) (B : Nat → Nat → Nat) (hR : xR u n B) (S : Nat → Nat) (c : Nat) (hc : c ≤ 1000) (hn9 : u.1 21 7 = nI c) (hS : ∀ j, j < c → u.1 22 j = nI (S j) ∧ S j < 16384) (hp9 : ∀ y, y < 16384 → u.1 25 y = nI (plc S c y)) (x0 : Nat) (hx0 : x0 < 64 * 2 ^ n) : ∀ sz, Met l yX1_search wsX1_search ({ frames := 4, cells := 0, slots := 0, locals := 97 }) (XP D ad cI cL cR u [.ref (ad 21), .int (nI x0)] sz) (va_Qv (fun u' => (∃ k, xDn u' B x0 k) ∧ u'.1 21 8 = 1 ∧ ∀ q, q < 21 ∨ 33 ≤ q → u'.1 q = u.1 q) (XB D ad cI cL cR) (gA 34 ad sz)) 0 0 (gA 34 ad sz) := by
  intro sz
  refine z_met (cc := cX1_search) (maxL := 3) (ret := none) (by decide) rfl (Nat.le_of_ble_eq_true rfl) ?_
  intro pq lq sq mq aq Qq bq hmq cq C hr hml hown hts hlocks hK hX hsz hQ
  subst hsz
  have hT1 : ∀ w ∈ wsX10, w.before aq sq = true := fun w h => hts w ((by decide +kernel : ∀ w ∈ wsX10, w ∈ wsX1_search) w h)
  refine z_sub (L' := [(0, .ref (ad 21)), (1, .int (nI x0))]) [0, 1] rfl ?_
  have hn8 : n ≤ 8 := gB_8 hR.1
  have h2n := pn8 hn8
  have hx9 : x0 < 16384 := by omega
  refine z_aload_n C dX1_search_0 0 rfl ?_
  refine z_callVv xX_ok C hml hown hts hK hX (c_X1_clear l D ad cI cL cR hI u S c hc hn9 hS hp9) (cwV 0 hts gX1_search_X1_clear rfl rfl rfl (by decide +kernel) ⟨Nat.le_of_ble_eq_true rfl, Nat.le_of_ble_eq_true rfl⟩) (by decide) (ci := 1) rfl rfl rfl (st := []) rfl (Nat.le_of_ble_eq_true rfl) dX1_search_1 ⟨Nat.le_of_ble_eq_true rfl, Nat.le_of_ble_eq_true rfl⟩ (fun u1 h1 => ?_)
  refine z_aload_n C dX1_search_4 0 rfl ?_
  refine z_iload_n C dX1_search_5 1 rfl ?_
  refine z_iconst (v := nI 0) C (by decide) dX1_search_6 ?_
  refine z_callVi xX_ok C hml hown hts hK hX (c_X1_findOrAdd_vw l D ad cI cL cR hI u1 x0 hx9 (nI 0) 0 (by decide) (h1.1.2.2.2.2.2.2 x0 hx9) h1.1.1) (cwV 2 hts gX1_search_X1_findOrAdd rfl rfl rfl (by decide +kernel) ⟨Nat.le_of_ble_eq_true rfl, Nat.le_of_ble_eq_true rfl⟩) (by decide) (ci := 1) rfl rfl rfl (st := []) rfl (Nat.le_of_ble_eq_true rfl) dX1_search_7 ⟨Nat.le_of_ble_eq_true rfl, Nat.le_of_ble_eq_true rfl⟩ (fun r7 u7 h7 => ?_)
  obtain ⟨zr7, zu7⟩ := h7
  subst r7
  subst u7
  refine z_pop C rfl dX1_search_10 ?_
  have join46 : ∀ (k : Nat) (w : xS), (bEnd B x0 k) → (xEr w (bfs B x0 k) (8 * k)) → (xA_r w B (bfs B x0 k) k ∧ xA_c w B (bfs B x0 k) k ∧ xA_e w (bfs B x0 k) k) → (xFr u w) → ZZ pq l lq { frames := 4, cells := 0, slots := 0, locals := 97 } sq mq aq bq hmq cq D vwCl 34 ad 3 0 0 Qq (xF ad cI cL cR w) [(0, .ref (ad 21))] 46 [] := by
    intro k w hEn hw hA9 hF
    have hE9 := bfs_ok hR.1 hx0 k hEn.1
    refine z_aload_n C dX1_search_46 0 rfl ?_
    refine z_get (q := 21) C (T := TX1) (N := 12) (ci := 1) (own := RX1) (index := 46) (v := .int (w.1 21 9)) hT1 hown hK (by decide) rfl rfl 9 (by decide) (hts (.fieldLink RX1 46 "TriggerAnalyzer$Exploration" "tooMany" "Z") (by decide +kernel)) (fun _ h9 => h9) rfl dX1_search_47 ?_
    refine z_if_ne (tgt := 61) C dX1_search_50 (by decide) (fun zc50 => ?_) (fun zc50 => ?_)
    · skip
      have hT9 : (bfs B x0 k).2.2.2.2 = true := by
        refine Decidable.of_not_not (fun z => ?_)
        have z2 := hw.2.1
        rw [if_neg z] at z2
        exact zc50 z2
      refine z_aload_n C dX1_search_61 0 rfl ?_
      refine z_iconst (v := nI 1) C (by decide) dX1_search_62 ?_
      refine z_put (q := 21) C hI tyX1 (T := TX1) (N := 12) (ci := 1) (own := RX1) (index := 42) hT1 hown hK (by decide) rfl rfl 8 (by decide) (hts (.fieldLink RX1 42 "TriggerAnalyzer$Exploration" "done" "Z") (by decide +kernel)) (fun _ h9 => h9) tyX1_ok nmX1 rfl rfl rfl (Nat.le_of_ble_eq_true rfl) (f' := xF ad cI cL cR ((xs w 21 8 (nI 1)))) rfl xF_ne dX1_search_63 ?_
      exact z_vret C hr hlocks hQ ((xs w 21 8 (nI 1))) (srch_fin1 hEn hw hA9 hF hT9) (fun _ _ => rfl) dX1_search_66
    · skip
      have hT9 : (bfs B x0 k).2.2.2.2 = false := by
        refine Bool.eq_false_iff.mpr (fun z => ?_)
        have z2 := hw.2.1
        rw [if_pos z, zc50] at z2
        exact absurd z2 (by decide)
      have hcc := bEnd_c hR.1 hx0 hEn hT9
      have hG9 : gRep w (bfs B x0 k).2.2.2.1 (bfs B x0 k).2.2.1 := ⟨hE9.2.1, hw.1, fun e9 he9 => hw.2.2.2.1 e9 (by rw [hcc] at he9; exact he9)⟩
      have hg9 := bfs_gOk hR.1 hx0 hEn hT9
      refine z_aload_n C dX1_search_53 0 rfl ?_
      refine z_get (q := 21) C (T := TX1) (N := 12) (ci := 1) (own := RX1) (index := 34) (v := .ref (ad 28)) hT1 hown hK (by decide) rfl rfl 6 (by decide) (hts (.fieldLink RX1 34 "TriggerAnalyzer$Exploration" "prospect" "LTriggerAnalyzer$Prospect;") (by decide +kernel)) (fun _ h9 => h9) rfl dX1_search_54 ?_
      refine z_aload_n C dX1_search_57 0 rfl ?_
      refine z_callVv xX_ok C hml hown hts hK hX (c_X3_study l D ad cI cL cR hI w (bfs B x0 k).2.2.2.1 (bfs B x0 k).2.2.1 hG9 hg9 hE9.1) (cwV 1 hts gX1_search_X3_study rfl rfl rfl (by decide +kernel) ⟨Nat.le_of_ble_eq_true rfl, Nat.le_of_ble_eq_true rfl⟩) (by decide) (ci := 3) rfl rfl rfl (st := []) rfl (Nat.le_of_ble_eq_true rfl) dX1_search_58 ⟨Nat.le_of_ble_eq_true rfl, Nat.le_of_ble_eq_true rfl⟩ (fun u58 h58 => ?_)
      refine z_aload_n C dX1_search_61 0 rfl ?_
      refine z_iconst (v := nI 1) C (by decide) dX1_search_62 ?_
      refine z_put (q := 21) C hI tyX1 (T := TX1) (N := 12) (ci := 1) (own := RX1) (index := 42) hT1 hown hK (by decide) rfl rfl 8 (by decide) (hts (.fieldLink RX1 42 "TriggerAnalyzer$Exploration" "done" "Z") (by decide +kernel)) (fun _ h9 => h9) tyX1_ok nmX1 rfl rfl rfl (Nat.le_of_ble_eq_true rfl) (f' := xF ad cI cL cR ((xs u58 21 8 (nI 1)))) rfl xF_ne dX1_search_63 ?_
      obtain ⟨t9, k1, k2, k3, k4, k5, k6⟩ := h58
      exact z_vret C hr hlocks hQ ((xs u58 21 8 (nI 1))) (srch_fin2 hEn hw hA9 hF k6 (kRes_of hE9.1 hg9 k1 k2 k3 k4 k5)) (fun _ _ => rfl) dX1_search_66
  refine z_iconst (v := nI 0) C (by decide) dX1_search_11 ?_
  refine z_istore_n (L' := [(2, .int (nI 0)), (0, .ref (ad 21)), (1, .int (nI x0))]) C dX1_search_12 (by decide) rfl ?_
  have loop13 : ∀ (d13 : Nat) (k : Nat) (w : xS), 1001 - k < d13 → (bRun B x0 k) → (xEr w (bfs B x0 k) (8 * k)) → (xA_r w B (bfs B x0 k) k ∧ xA_c w B (bfs B x0 k) k ∧ xA_e w (bfs B x0 k) k) → (xFr u w) → ZZ pq l lq { frames := 4, cells := 0, slots := 0, locals := 97 } sq mq aq bq hmq cq D vwCl 34 ad 3 0 0 Qq (xF ad cI cL cR w) [(0, .ref (ad 21)), (2, .int (nI k))] 13 [] := by
    intro d13
    induction d13 with
    | zero => intro k w hz; exact absurd hz (Nat.not_lt_zero _)
    | succ d13 ih13 =>
      intro k w hz13 hRn hw hA9 hF
      have hE9 := bfs_ok hR.1 hx0 k hRn
      have hk9 := bRun_le hR.1 hx0 hRn
      have hc91 := hE9.2.1
      have hRw : xR w n B := xR_Fr hR hF
      refine z_iload_n C dX1_search_13 1 rfl ?_
      refine z_aload_n C dX1_search_14 0 rfl ?_
      refine z_get (q := 21) C (T := TX1) (N := 12) (ci := 1) (own := RX1) (index := 49) (v := .int (w.1 21 7)) hT1 hown hK (by decide) rfl rfl 7 (by decide) (hts (.fieldLink RX1 49 "TriggerAnalyzer$Exploration" "count" "I") (by decide +kernel)) (fun _ h9 => h9) rfl dX1_search_15 ?_
      refine z_topi (y := nI ((bfs B x0 k).2.2.2.1)) (hw.1) ?_
      refine z_icmp_ge (tgt := 46) C dX1_search_18 (by decide) (fun zc18 => ?_) (fun zc18 => ?_)
      · skip
        have zn18 := zge_t (a := k) (b := (bfs B x0 k).2.2.2.1) (by omega) (by omega) zc18
        refine z_sub (L' := [(0, .ref (ad 21))]) [0] rfl ?_
        exact join46 k w ⟨hRn, Or.inl zn18⟩ hw hA9 hF
      · skip
        have zn18 := zge_f (a := k) (b := (bfs B x0 k).2.2.2.1) (by omega) (by omega) zc18
        refine z_iload_n C dX1_search_21 1 rfl ?_
        refine z_sipush (v := nI 1000) C (by decide) dX1_search_22 ?_
        refine z_icmp_ge (tgt := 46) C dX1_search_25 (by decide) (fun zc25 => ?_) (fun zc25 => ?_)
        · skip
          have zn25 := zge_t (a := k) (b := 1000) (by omega) (by omega) zc25
          exact False.elim (by have := hE9.2.1; omega)
        · skip
          have zn25 := zge_f (a := k) (b := 1000) (by omega) (by omega) zc25
          refine z_aload_n C dX1_search_28 0 rfl ?_
          refine z_get (q := 21) C (T := TX1) (N := 12) (ci := 1) (own := RX1) (index := 46) (v := .int (w.1 21 9)) hT1 hown hK (by decide) rfl rfl 9 (by decide) (hts (.fieldLink RX1 46 "TriggerAnalyzer$Exploration" "tooMany" "Z") (by decide +kernel)) (fun _ h9 => h9) rfl dX1_search_29 ?_
          refine z_if_ne (tgt := 46) C dX1_search_32 (by decide) (fun zc32 => ?_) (fun zc32 => ?_)
          · skip
            have hT9 : (bfs B x0 k).2.2.2.2 = true := by
              refine Decidable.of_not_not (fun z => ?_)
              have z2 := hw.2.1
              rw [if_neg z] at z2
              exact zc32 z2
            refine z_sub (L' := [(0, .ref (ad 21))]) [0] rfl ?_
            exact join46 k w ⟨hRn, Or.inr hT9⟩ hw hA9 hF
          · skip
            have hT9 : (bfs B x0 k).2.2.2.2 = false := by
              refine Bool.eq_false_iff.mpr (fun z => ?_)
              have z2 := hw.2.1
              rw [if_pos z, zc32] at z2
              exact absurd z2 (by decide)
            refine z_aload_n C dX1_search_35 0 rfl ?_
            refine z_iload_n C dX1_search_36 1 rfl ?_
            refine z_callVv xX_ok C hml hown hts hK hX (c_X1_expand l D ad cI cL cR hI w n B hRw (bfs B x0 k) k hE9 zn18 hw hA9) (cwV 1 hts gX1_search_X1_expand rfl rfl rfl (by decide +kernel) ⟨Nat.le_of_ble_eq_true rfl, Nat.le_of_ble_eq_true rfl⟩) (by decide) (ci := 1) rfl rfl rfl (st := []) rfl (Nat.le_of_ble_eq_true rfl) dX1_search_37 ⟨Nat.le_of_ble_eq_true rfl, Nat.le_of_ble_eq_true rfl⟩ (fun u37 h37 => ?_)
            refine z_iinc (L' := [(2, .int (nI (k + 1))), (0, .ref (ad 21))]) C dX1_search_40 1 rfl (nI_1 k) (by decide) rfl ?_
            refine z_goto (tgt := 13) C dX1_search_43 (by decide) ?_
            refine z_sub (L' := [(0, .ref (ad 21)), (2, .int (nI (k + 1)))]) [1, 0] rfl ?_
            exact ih13 (k + 1) u37 (by omega) (fun j hj => by rcases Nat.lt_or_ge j k with z | z; exact hRn j z; rw [show j = k by omega]; exact ⟨zn18, hT9⟩) h37.1 h37.2.1 (xFr_tr hF h37.2.2)
  refine z_sub (L' := [(0, .ref (ad 21)), (2, .int (nI 0))]) [1, 0] rfl ?_
  exact loop13 1002 0 (p0U u1 x0) (by omega) (fun j hj => absurd hj (Nat.not_lt_zero j)) (p0U_Er h1.1 B) (p0U_A h1.1 B) (p0U_fr h1.2)
