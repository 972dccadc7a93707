set_option maxHeartbeats 4000000 in
set_option maxRecDepth 100000 in
theorem c_X7_triggers (l : Launch) (D : va_G) (ad : Nat → Nat) (cI cL cB : ClassId) (hI : gI 12 ad) (u : xS) (n : Nat) (B : Nat → Nat → Nat) (hR : mR u n B) (hB : gB n B) (i : Nat) (hi : i < n) : ∀ sz, Met l yX7_triggers wsX7_triggers ({ frames := 0, cells := 0, slots := 0, locals := 0 }) (MP D ad cI cL cB u [.ref (ad 0), .int (nI i)] sz) (va_Qi (fun r_ u' => r_ = nI (trg B i) ∧ u' = u) (MB D ad cI cL cB) (gA 12 ad sz)) 0 0 (gA 12 ad sz) := by
  intro sz
  refine z_met (cc := cX7_triggers) (maxL := 5) (ret := (some .int)) (by decide) rfl (Nat.le_of_ble_eq_true rfl) ?_
  intro pq lq sq mq aq Qq bq hmq cq C hr hml hown hts hlocks hK hX hsz hQ
  subst hsz
  have hT7 : ∀ w ∈ wsX70, w.before aq sq = true := fun w h => hts w ((by decide +kernel : ∀ w ∈ wsX70, w ∈ wsX7_triggers) w h)
  refine z_sub (L' := [(0, .ref (ad 0)), (1, .int (nI i))]) [0, 1] rfl ?_
  have hn8 : n ≤ 8 := hR.1
  have g4 : B i 4 ≤ 4 := gB_4 hB (by omega)
  have g3 : B i 3 ≤ 1 := gB_3 hB (by omega)
  refine z_iconst (v := nI 0) C (by decide) dX7_triggers_0 ?_
  refine z_istore_n (L' := [(2, .int (nI 0)), (0, .ref (ad 0)), (1, .int (nI i))]) C dX7_triggers_1 (by decide) rfl ?_
  refine z_iconst (v := nI 0) C (by decide) dX7_triggers_2 ?_
  refine z_istore_n (L' := [(3, .int (nI 0)), (2, .int (nI 0)), (0, .ref (ad 0)), (1, .int (nI i))]) C dX7_triggers_3 (by decide) rfl ?_
  have loop4 : ∀ (d4 : Nat) (r c : Nat), n - r < d4 → (r ≤ n) → (c = mks (tgp B i (B i 4)) r) → ZZ pq l lq { frames := 0, cells := 0, slots := 0, locals := 0 } sq mq aq bq hmq cq D vwCl 12 ad 5 0 0 Qq (mF ad cI cL cB u) [(0, .ref (ad 0)), (1, .int (nI i)), (2, .int (nI c)), (3, .int (nI r))] 4 [] := by
    intro d4
    induction d4 with
    | zero => intro r c hz; exact absurd hz (Nat.not_lt_zero _)
    | succ d4 ih4 =>
      intro r c hz4 hrn hc9
      refine z_iload_n C dX7_triggers_4 3 rfl ?_
      refine z_aload_n C dX7_triggers_5 0 rfl ?_
      refine z_get (q := 0) C (T := TX7) (N := 18) (ci := 7) (own := RX7) (index := 49) (v := .int (u.1 0 1)) hT7 hown hK (by decide) rfl rfl 1 (by decide) (hts (.fieldLink RX7 49 "TriggerAnalyzerModel" "rules" "I") (by decide +kernel)) (fun _ h9 => h9) rfl dX7_triggers_6 ?_
      refine z_topi (y := nI n) (mR_n hR) ?_
      refine z_icmp_ge (tgt := 82) C dX7_triggers_9 (by decide) (fun zc9 => ?_) (fun zc9 => ?_)
      · skip
        have zn9 := zge_t (a := r) (b := n) (by omega) (by omega) zc9
        refine z_iload_n C dX7_triggers_82 2 rfl ?_
        exact z_iret C hr hlocks hQ u (⟨by rw [hc9, show r = n by omega, mks_trg hB (by omega)], rfl⟩) (fun _ _ => rfl) dX7_triggers_83
      · skip
        have zn9 := zge_f (a := r) (b := n) (by omega) (by omega) zc9
        have gr3 : B r 3 ≤ 1 := gB_3 hB (by omega)
        have gr0 : B r 0 < 12 := gB_0 hB (by omega)
        refine z_iconst (v := nI 0) C (by decide) dX7_triggers_12 ?_
        refine z_istore (L' := [(4, .int (nI 0)), (0, .ref (ad 0)), (1, .int (nI i)), (2, .int (nI c)), (3, .int (nI r))]) C dX7_triggers_13 (by decide) rfl ?_
        have loop15 : ∀ (d15 : Nat) (k c2 : Nat), B i 4 - k < d15 → (k ≤ B i 4) → (c2 = tgc B i r k) → ZZ pq l lq { frames := 0, cells := 0, slots := 0, locals := 0 } sq mq aq bq hmq cq D vwCl 12 ad 5 0 0 Qq (mF ad cI cL cB u) [(0, .ref (ad 0)), (1, .int (nI i)), (2, .int (nI c2)), (3, .int (nI r)), (4, .int (nI k))] 15 [] := by
          intro d15
          induction d15 with
          | zero => intro k c2 hz; exact absurd hz (Nat.not_lt_zero _)
          | succ d15 ih15 =>
            intro k c2 hz15 hk hc2
            refine z_iload C dX7_triggers_15 4 rfl ?_
            refine z_aload_n C dX7_triggers_17 0 rfl ?_
            refine z_get (q := 0) C (T := TX7) (N := 18) (ci := 7) (own := RX7) (index := 19) (v := .ref (ad 4)) hT7 hown hK (by decide) rfl rfl 5 (by decide) (hts (.fieldLink RX7 19 "TriggerAnalyzerModel" "many" "[I") (by decide +kernel)) (fun _ h9 => h9) rfl dX7_triggers_18 ?_
            refine z_iload_n C dX7_triggers_21 1 rfl ?_
            refine z_iald (q := 4) (len := 8) (k := i) C hK (by decide) rfl 0 rfl (rfl) (by omega) (by decide) dX7_triggers_22 ?_
            refine z_topi (y := nI (B i 4)) (mR_4 hR (by omega)) ?_
            refine z_icmp_ge (tgt := 76) C dX7_triggers_23 (by decide) (fun zc23 => ?_) (fun zc23 => ?_)
            · skip
              have zn23 := zge_t (a := k) (b := B i 4) (by omega) (by omega) zc23
              refine z_iinc (L' := [(3, .int (nI (r + 1))), (0, .ref (ad 0)), (1, .int (nI i)), (2, .int (nI c2)), (4, .int (nI k))]) C dX7_triggers_76 3 rfl (nI_1 r) (by decide) rfl ?_
              refine z_goto (tgt := 4) C dX7_triggers_79 (by decide) ?_
              refine z_sub (L' := [(0, .ref (ad 0)), (1, .int (nI i)), (2, .int (nI c2)), (3, .int (nI (r + 1)))]) [1, 2, 3, 0] rfl ?_
              exact ih4 (r + 1) c2 (by omega) (by omega) (by rw [hc2, show k = B i 4 by omega]; rfl)
            · skip
              have zn23 := zge_f (a := k) (b := B i 4) (by omega) (by omega) zc23
              have g6 : B i (6 + k) < 12 := gB_6 hB (by omega) (by omega)
              refine z_aload_n C dX7_triggers_26 0 rfl ?_
              refine z_get (q := 0) C (T := TX7) (N := 18) (ci := 7) (own := RX7) (index := 25) (v := .ref (ad 6)) hT7 hown hK (by decide) rfl rfl 7 (by decide) (hts (.fieldLink RX7 25 "TriggerAnalyzerModel" "areOn" "[Z") (by decide +kernel)) (fun _ h9 => h9) rfl dX7_triggers_27 ?_
              refine z_iload_n C dX7_triggers_30 1 rfl ?_
              refine z_za (q := 6) (len := 8) (k := i) C hK (by decide) rfl 2 rfl (rfl) (by omega) (by decide) dX7_triggers_31 ?_
              refine z_topi (y := nI (B i 3)) (mR_3 hR (by omega)) ?_
              refine z_if_eq (tgt := 70) C dX7_triggers_32 (by decide) (fun zc32 => ?_) (fun zc32 => ?_)
              · skip
                have zn32 := z0_t (by omega) zc32
                refine z_iinc (L' := [(4, .int (nI (k + 1))), (0, .ref (ad 0)), (1, .int (nI i)), (2, .int (nI c2)), (3, .int (nI r))]) C dX7_triggers_70 4 rfl (nI_1 k) (by decide) rfl ?_
                refine z_goto (tgt := 15) C dX7_triggers_73 (by decide) ?_
                refine z_sub (L' := [(0, .ref (ad 0)), (1, .int (nI i)), (2, .int (nI c2)), (3, .int (nI r)), (4, .int (nI (k + 1)))]) [1, 2, 3, 4, 0] rfl ?_
                exact ih15 (k + 1) c2 (by omega) (by omega) (hc2.trans (tgc_n (fun y => by omega)))
              · skip
                have zn32 := z0_f zc32
                refine z_aload_n C dX7_triggers_35 0 rfl ?_
                refine z_get (q := 0) C (T := TX7) (N := 18) (ci := 7) (own := RX7) (index := 25) (v := .ref (ad 6)) hT7 hown hK (by decide) rfl rfl 7 (by decide) (hts (.fieldLink RX7 25 "TriggerAnalyzerModel" "areOn" "[Z") (by decide +kernel)) (fun _ h9 => h9) rfl dX7_triggers_36 ?_
                refine z_iload_n C dX7_triggers_39 3 rfl ?_
                refine z_za (q := 6) (len := 8) (k := r) C hK (by decide) rfl 2 rfl (rfl) (by omega) (by decide) dX7_triggers_40 ?_
                refine z_topi (y := nI (B r 3)) (mR_3 hR (by omega)) ?_
                refine z_if_eq (tgt := 70) C dX7_triggers_41 (by decide) (fun zc41 => ?_) (fun zc41 => ?_)
                · skip
                  have zn41 := z0_t (by omega) zc41
                  refine z_iinc (L' := [(4, .int (nI (k + 1))), (0, .ref (ad 0)), (1, .int (nI i)), (2, .int (nI c2)), (3, .int (nI r))]) C dX7_triggers_70 4 rfl (nI_1 k) (by decide) rfl ?_
                  refine z_goto (tgt := 15) C dX7_triggers_73 (by decide) ?_
                  refine z_sub (L' := [(0, .ref (ad 0)), (1, .int (nI i)), (2, .int (nI c2)), (3, .int (nI r)), (4, .int (nI (k + 1)))]) [1, 2, 3, 4, 0] rfl ?_
                  exact ih15 (k + 1) c2 (by omega) (by omega) (hc2.trans (tgc_n (fun y => by omega)))
                · skip
                  have zn41 := z0_f zc41
                  refine z_aload_n C dX7_triggers_44 0 rfl ?_
                  refine z_get (q := 0) C (T := TX7) (N := 18) (ci := 7) (own := RX7) (index := 22) (v := .ref (ad 5)) hT7 hown hK (by decide) rfl rfl 6 (by decide) (hts (.fieldLink RX7 22 "TriggerAnalyzerModel" "actions" "[I") (by decide +kernel)) (fun _ h9 => h9) rfl dX7_triggers_45 ?_
                  refine z_iconst (v := nI 4) C (by decide) dX7_triggers_48 ?_
                  refine z_iload_n C dX7_triggers_49 1 rfl ?_
                  refine z_imul C dX7_triggers_50 ?_
                  refine z_topi (y := nI (4 * i)) (pk_mul 4 i) ?_
                  refine z_iload C dX7_triggers_51 4 rfl ?_
                  refine z_iadd C dX7_triggers_53 ?_
                  refine z_topi (y := nI ((4 * i) + k)) (nI_add (4 * i) k) ?_
                  refine z_iald (q := 5) (len := 32) (k := (4 * i) + k) C hK (by decide) rfl 0 rfl (rfl) (by omega) (by decide) dX7_triggers_54 ?_
                  refine z_topi (y := nI (B i (6 + k))) (mR_a hR hi zn23) ?_
                  refine z_aload_n C dX7_triggers_55 0 rfl ?_
                  refine z_get (q := 0) C (T := TX7) (N := 18) (ci := 7) (own := RX7) (index := 9) (v := .ref (ad 1)) hT7 hown hK (by decide) rfl rfl 2 (by decide) (hts (.fieldLink RX7 9 "TriggerAnalyzerModel" "events" "[I") (by decide +kernel)) (fun _ h9 => h9) rfl dX7_triggers_56 ?_
                  refine z_iload_n C dX7_triggers_59 3 rfl ?_
                  refine z_iald (q := 1) (len := 8) (k := r) C hK (by decide) rfl 0 rfl (rfl) (by omega) (by decide) dX7_triggers_60 ?_
                  refine z_topi (y := nI (B r 0)) (mR_0 hR (by omega)) ?_
                  refine z_icmp_ne (tgt := 70) C dX7_triggers_61 (by decide) (fun zc61 => ?_) (fun zc61 => ?_)
                  · skip
                    have zn61 := zeq_f (a := B i (6 + k)) (b := B r 0) zc61
                    refine z_iinc (L' := [(4, .int (nI (k + 1))), (0, .ref (ad 0)), (1, .int (nI i)), (2, .int (nI c2)), (3, .int (nI r))]) C dX7_triggers_70 4 rfl (nI_1 k) (by decide) rfl ?_
                    refine z_goto (tgt := 15) C dX7_triggers_73 (by decide) ?_
                    refine z_sub (L' := [(0, .ref (ad 0)), (1, .int (nI i)), (2, .int (nI c2)), (3, .int (nI r)), (4, .int (nI (k + 1)))]) [1, 2, 3, 4, 0] rfl ?_
                    exact ih15 (k + 1) c2 (by omega) (by omega) (hc2.trans (tgc_n (fun y => zn61 y.2.2)))
                  · skip
                    have zn61 := zeq_t (a := B i (6 + k)) (b := B r 0) (by omega) (by omega) zc61
                    refine z_iload_n C dX7_triggers_64 2 rfl ?_
                    refine z_iconst (v := nI 1) C (by decide) dX7_triggers_65 ?_
                    refine z_iload_n C dX7_triggers_66 3 rfl ?_
                    refine z_ishl C dX7_triggers_67 ?_
                    refine z_topi (y := nI (2 ^ r)) (zi_shl1 (by omega)) ?_
                    refine z_ior C dX7_triggers_68 ?_
                    refine z_topi (y := nI (c2 ||| (2 ^ r))) (fa_or c2 (2 ^ r)) ?_
                    refine z_istore_n (L' := [(2, .int (nI (c2 ||| (2 ^ r)))), (0, .ref (ad 0)), (1, .int (nI i)), (3, .int (nI r)), (4, .int (nI k))]) C dX7_triggers_69 (by decide) rfl ?_
                    refine z_iinc (L' := [(4, .int (nI (k + 1))), (2, .int (nI (c2 ||| (2 ^ r)))), (0, .ref (ad 0)), (1, .int (nI i)), (3, .int (nI r))]) C dX7_triggers_70 4 rfl (nI_1 k) (by decide) rfl ?_
                    refine z_goto (tgt := 15) C dX7_triggers_73 (by decide) ?_
                    refine z_sub (L' := [(0, .ref (ad 0)), (1, .int (nI i)), (2, .int (nI (c2 ||| (2 ^ r)))), (3, .int (nI r)), (4, .int (nI (k + 1)))]) [2, 3, 1, 4, 0] rfl ?_
                    exact ih15 (k + 1) (c2 ||| 2 ^ r) (by omega) (by omega) (by rw [hc2]; exact tgc_y (by omega) (by omega) zn61)
        refine z_sub (L' := [(0, .ref (ad 0)), (1, .int (nI i)), (2, .int (nI c)), (3, .int (nI r)), (4, .int (nI 0))]) [1, 2, 3, 4, 0] rfl ?_
        exact loop15 (B i 4 + 1) 0 c (by omega) (by omega) (hc9.trans (tgc_0 B i r))
  refine z_sub (L' := [(0, .ref (ad 0)), (1, .int (nI i)), (2, .int (nI 0)), (3, .int (nI 0))]) [2, 3, 1, 0] rfl ?_
  exact loop4 (n + 1) 0 0 (by omega) (by omega) rfl

set_option maxHeartbeats 4000000 in
set_option maxRecDepth 100000 in
theorem c_X7_canTrigger (l : Launch) (D : va_G) (ad : Nat → Nat) (cI cL cB : ClassId) (hI : gI 12 ad) (u : xS) (n : Nat) (B : Nat → Nat → Nat) (hB : gB n B) (x : Nat) (hx : x < 64 * 2 ^ n) (hM : mI u n B x) (i : Nat) (hi : i < n) : ∀ sz, Met l yX7_canTrigger wsX7_canTrigger ({ frames := 1, cells := 0, slots := 0, locals := 24 }) (MP D ad cI cL cB u [.ref (ad 0), .int (nI i)] sz) (va_Qi (fun r_ u' => r_ = nI (trg B i) ∧ u'.1 0 0 = nI 0 ∧ mQ u' n B x (u.1 0 11)) (MB D ad cI cL cB) (gA 12 ad sz)) 0 0 (gA 12 ad sz) := by
  intro sz
  refine z_met (cc := cX7_canTrigger) (maxL := 2) (ret := (some .int)) (by decide) rfl (Nat.le_of_ble_eq_true rfl) ?_
  intro pq lq sq mq aq Qq bq hmq cq C hr hml hown hts hlocks hK hX hsz hQ
  subst hsz
  have hT7 : ∀ w ∈ wsX70, w.before aq sq = true := fun w h => hts w ((by decide +kernel : ∀ w ∈ wsX70, w ∈ wsX7_canTrigger) w h)
  refine z_sub (L' := [(0, .ref (ad 0)), (1, .int (nI i))]) [0, 1] rfl ?_
  refine z_aload_n C dX7_canTrigger_0 0 rfl ?_
  refine z_iconst (v := nI 0) C (by decide) dX7_canTrigger_1 ?_
  refine z_put (q := 0) C hI tyX7 (T := TX7) (N := 18) (ci := 7) (own := RX7) (index := 45) hT7 hown hK (by decide) rfl rfl 0 (by decide) (hts (.fieldLink RX7 45 "TriggerAnalyzerModel" "thrown" "I") (by decide +kernel)) (fun _ h9 => h9) tyX7_ok nmX7 rfl rfl rfl (Nat.le_of_ble_eq_true rfl) (f' := mF ad cI cL cB ((xs u 0 0 (nI 0)))) rfl mF_ne dX7_canTrigger_2 ?_
  refine z_aload_n C dX7_canTrigger_5 0 rfl ?_
  refine z_iload_n C dX7_canTrigger_6 1 rfl ?_
  refine z_callVi mX_ok C hml hown hts hK hX (c_X7_isRule_vh l D ad cI cL cB hI ((xs u 0 0 (nI 0))) n hB.1 ((xs_j (by decide)).trans (mR_n hM.1)) i hi) (cwV 1 hts gX7_canTrigger_X7_isRule rfl rfl rfl (by decide +kernel) ⟨Nat.le_of_ble_eq_true rfl, Nat.le_of_ble_eq_true rfl⟩) (by decide) (ci := 7) rfl rfl rfl (st := []) rfl (Nat.le_of_ble_eq_true rfl) dX7_canTrigger_7 ⟨Nat.le_of_ble_eq_true rfl, Nat.le_of_ble_eq_true rfl⟩ (fun r7 u7 h7 => ?_)
  obtain ⟨zr7, zu7⟩ := h7
  subst r7
  subst u7
  refine z_if_eq (tgt := 21) C dX7_canTrigger_10 (by decide) (fun zc10 => ?_) (fun zc10 => ?_)
  · skip
    have zn10 := z0_t (by omega) zc10
    exact absurd zn10 (by decide)
  · skip
    have zn10 := z0_f zc10
    refine z_aload_n C dX7_canTrigger_13 0 rfl ?_
    refine z_iload_n C dX7_canTrigger_14 1 rfl ?_
    refine z_callVi mX_ok C hml hown hts hK hX (c_X7_triggers l D ad cI cL cB hI ((xs u 0 0 (nI 0))) n B (mR_s hM.1 (Or.inl ⟨rfl, by decide⟩)) hB i hi) (cwV 1 hts gX7_canTrigger_X7_triggers rfl rfl rfl (by decide +kernel) ⟨Nat.le_of_ble_eq_true rfl, Nat.le_of_ble_eq_true rfl⟩) (by decide) (ci := 7) rfl rfl rfl (st := []) rfl (Nat.le_of_ble_eq_true rfl) dX7_canTrigger_15 ⟨Nat.le_of_ble_eq_true rfl, Nat.le_of_ble_eq_true rfl⟩ (fun r15 u15 h15 => ?_)
    obtain ⟨zr15, zu15⟩ := h15
    subst r15
    subst u15
    refine z_goto (tgt := 26) C dX7_canTrigger_18 (by decide) ?_
    exact z_iret C hr hlocks hQ ((xs u 0 0 (nI 0))) (⟨rfl, xs_s _ _ _ _, mQ_1 hM _⟩) (fun _ _ => rfl) dX7_canTrigger_26

set_option maxHeartbeats 4000000 in
set_option maxRecDepth 100000 in
theorem c_X7_canTrigger_x1 (l : Launch) (D : va_G) (ad : Nat → Nat) (cI cL cB : ClassId) (hI : gI 12 ad) (u : xS) (n : Nat) (B : Nat → Nat → Nat) (hB : gB n B) (x : Nat) (hx : x < 64 * 2 ^ n) (hM : mI u n B x) (x1 : Int32) (hf : bad n x1) : ∀ sz, Met l yX7_canTrigger wsX7_canTrigger ({ frames := 1, cells := 0, slots := 0, locals := 24 }) (MP D ad cI cL cB u [.ref (ad 0), .int (x1)] sz) (va_Qi (fun r_ u' => r_ = nI 0 ∧ u'.1 0 0 = nI 1 ∧ mQ u' n B x (u.1 0 11)) (MB D ad cI cL cB) (gA 12 ad sz)) 0 0 (gA 12 ad sz) := by
  intro sz
  refine z_met (cc := cX7_canTrigger) (maxL := 2) (ret := (some .int)) (by decide) rfl (Nat.le_of_ble_eq_true rfl) ?_
  intro pq lq sq mq aq Qq bq hmq cq C hr hml hown hts hlocks hK hX hsz hQ
  subst hsz
  have hT7 : ∀ w ∈ wsX70, w.before aq sq = true := fun w h => hts w ((by decide +kernel : ∀ w ∈ wsX70, w ∈ wsX7_canTrigger) w h)
  refine z_sub (L' := [(0, .ref (ad 0)), (1, .int (x1))]) [0, 1] rfl ?_
  refine z_aload_n C dX7_canTrigger_0 0 rfl ?_
  refine z_iconst (v := nI 0) C (by decide) dX7_canTrigger_1 ?_
  refine z_put (q := 0) C hI tyX7 (T := TX7) (N := 18) (ci := 7) (own := RX7) (index := 45) hT7 hown hK (by decide) rfl rfl 0 (by decide) (hts (.fieldLink RX7 45 "TriggerAnalyzerModel" "thrown" "I") (by decide +kernel)) (fun _ h9 => h9) tyX7_ok nmX7 rfl rfl rfl (Nat.le_of_ble_eq_true rfl) (f' := mF ad cI cL cB ((xs u 0 0 (nI 0)))) rfl mF_ne dX7_canTrigger_2 ?_
  refine z_aload_n C dX7_canTrigger_5 0 rfl ?_
  refine z_iload_n C dX7_canTrigger_6 1 rfl ?_
  refine z_callVi mX_ok C hml hown hts hK hX (c_X7_isRule_x l D ad cI cL cB hI ((xs u 0 0 (nI 0))) n hB.1 ((xs_j (by decide)).trans (mR_n hM.1)) x1 hf) (cwV 1 hts gX7_canTrigger_X7_isRule rfl rfl rfl (by decide +kernel) ⟨Nat.le_of_ble_eq_true rfl, Nat.le_of_ble_eq_true rfl⟩) (by decide) (ci := 7) rfl rfl rfl (st := []) rfl (Nat.le_of_ble_eq_true rfl) dX7_canTrigger_7 ⟨Nat.le_of_ble_eq_true rfl, Nat.le_of_ble_eq_true rfl⟩ (fun r7 u7 h7 => ?_)
  obtain ⟨zr7, zu7⟩ := h7
  subst r7
  subst u7
  refine z_if_eq (tgt := 21) C dX7_canTrigger_10 (by decide) (fun zc10 => ?_) (fun zc10 => ?_)
  · skip
    have zn10 := z0_t (by omega) zc10
    refine z_aload_n C dX7_canTrigger_21 0 rfl ?_
    refine z_iconst (v := nI 1) C (by decide) dX7_canTrigger_22 ?_
    refine z_callVi mX_ok C hml hown hts hK hX (c_X7_fail l D ad cI cL cB hI ((xs u 0 0 (nI 0))) (nI 1)) (cwV 1 hts gX7_canTrigger_X7_fail rfl rfl rfl (by decide +kernel) ⟨Nat.le_of_ble_eq_true rfl, Nat.le_of_ble_eq_true rfl⟩) (by decide) (ci := 7) rfl rfl rfl (st := []) rfl (Nat.le_of_ble_eq_true rfl) dX7_canTrigger_23 ⟨Nat.le_of_ble_eq_true rfl, Nat.le_of_ble_eq_true rfl⟩ (fun r23 u23 h23 => ?_)
    obtain ⟨zr23, zu23⟩ := h23
    subst r23
    subst u23
    exact z_iret C hr hlocks hQ (xs ((xs u 0 0 (nI 0))) 0 0 ((nI 1))) (⟨rfl, xs_s _ _ _ _, mQ_2 hM _ _⟩) (fun _ _ => rfl) dX7_canTrigger_26
  · skip
    have zn10 := z0_f zc10
    exact absurd zn10 (by decide)

set_option maxHeartbeats 4000000 in
set_option maxRecDepth 100000 in
theorem c_X7_circular (l : Launch) (D : va_G) (ad : Nat → Nat) (cI cL cB : ClassId) (hI : gI 12 ad) (u : xS) (n : Nat) (B : Nat → Nat → Nat) (hB : gB n B) (x : Nat) (hx : x < 64 * 2 ^ n) (hM : mI u n B x) : ∀ sz, Met l yX7_circular wsX7_circular ({ frames := 1, cells := 0, slots := 0, locals := 24 }) (MP D ad cI cL cB u [.ref (ad 0)] sz) (va_Qi (fun r_ u' => r_ = nI (cirs B 8) ∧ u'.1 0 0 = nI 0 ∧ mQ u' n B x (u.1 0 11)) (MB D ad cI cL cB) (gA 12 ad sz)) 0 0 (gA 12 ad sz) := by
  intro sz
  refine z_met (cc := cX7_circular) (maxL := 6) (ret := (some .int)) (by decide) rfl (Nat.le_of_ble_eq_true rfl) ?_
  intro pq lq sq mq aq Qq bq hmq cq C hr hml hown hts hlocks hK hX hsz hQ
  subst hsz
  have hT7 : ∀ w ∈ wsX70, w.before aq sq = true := fun w h => hts w ((by decide +kernel : ∀ w ∈ wsX70, w ∈ wsX7_circular) w h)
  refine z_sub (L' := [(0, .ref (ad 0))]) [0] rfl ?_
  have hn8 : n ≤ 8 := hB.1
  refine z_aload_n C dX7_circular_0 0 rfl ?_
  refine z_iconst (v := nI 0) C (by decide) dX7_circular_1 ?_
  refine z_put (q := 0) C hI tyX7 (T := TX7) (N := 18) (ci := 7) (own := RX7) (index := 45) hT7 hown hK (by decide) rfl rfl 0 (by decide) (hts (.fieldLink RX7 45 "TriggerAnalyzerModel" "thrown" "I") (by decide +kernel)) (fun _ h9 => h9) tyX7_ok nmX7 rfl rfl rfl (Nat.le_of_ble_eq_true rfl) (f' := mF ad cI cL cB ((xs u 0 0 (nI 0)))) rfl mF_ne dX7_circular_2 ?_
  refine z_iconst (v := nI 0) C (by decide) dX7_circular_5 ?_
  refine z_istore_n (L' := [(1, .int (nI 0)), (0, .ref (ad 0))]) C dX7_circular_6 (by decide) rfl ?_
  refine z_iconst (v := nI 0) C (by decide) dX7_circular_7 ?_
  refine z_istore_n (L' := [(2, .int (nI 0)), (1, .int (nI 0)), (0, .ref (ad 0))]) C dX7_circular_8 (by decide) rfl ?_
  have loop9 : ∀ (d9 : Nat) (i c : Nat), n - i < d9 → (i ≤ n) → (c = mks (fun i => (crr B n (trg B i) n).testBit i) i) → ZZ pq l lq { frames := 1, cells := 0, slots := 0, locals := 24 } sq mq aq bq hmq cq D vwCl 12 ad 6 0 0 Qq (mF ad cI cL cB ((xs u 0 0 (nI 0)))) [(0, .ref (ad 0)), (1, .int (nI c)), (2, .int (nI i))] 9 [] := by
    intro d9
    induction d9 with
    | zero => intro i c hz; exact absurd hz (Nat.not_lt_zero _)
    | succ d9 ih9 =>
      intro i c hz9 hin hc
      refine z_iload_n C dX7_circular_9 2 rfl ?_
      refine z_aload_n C dX7_circular_10 0 rfl ?_
      refine z_get (q := 0) C (T := TX7) (N := 18) (ci := 7) (own := RX7) (index := 49) (v := .int ((xs u 0 0 (nI 0)).1 0 1)) hT7 hown hK (by decide) rfl rfl 1 (by decide) (hts (.fieldLink RX7 49 "TriggerAnalyzerModel" "rules" "I") (by decide +kernel)) (fun _ h9 => h9) rfl dX7_circular_11 ?_
      refine z_topi (y := u.1 0 1) (xs_j (by decide)) ?_
      refine z_topi (y := nI n) (mR_n hM.1) ?_
      refine z_icmp_ge (tgt := 97) C dX7_circular_14 (by decide) (fun zc14 => ?_) (fun zc14 => ?_)
      · skip
        have zn14 := zge_t (a := i) (b := n) (by omega) (by omega) zc14
        refine z_iload_n C dX7_circular_97 1 rfl ?_
        exact z_iret C hr hlocks hQ ((xs u 0 0 (nI 0))) (⟨by rw [hc, show i = n by omega, cirs_mks hB], xs_s _ _ _ _, mQ_1 hM _⟩) (fun _ _ => rfl) dX7_circular_98
      · skip
        have zn14 := zge_f (a := i) (b := n) (by omega) (by omega) zc14
        refine z_aload_n C dX7_circular_17 0 rfl ?_
        refine z_iload_n C dX7_circular_18 2 rfl ?_
        refine z_callVi mX_ok C hml hown hts hK hX (c_X7_triggers l D ad cI cL cB hI ((xs u 0 0 (nI 0))) n B (mR_s hM.1 (Or.inl ⟨rfl, by decide⟩)) hB i zn14) (cwV 1 hts gX7_circular_X7_triggers rfl rfl rfl (by decide +kernel) ⟨Nat.le_of_ble_eq_true rfl, Nat.le_of_ble_eq_true rfl⟩) (by decide) (ci := 7) rfl rfl rfl (st := []) rfl (Nat.le_of_ble_eq_true rfl) dX7_circular_19 ⟨Nat.le_of_ble_eq_true rfl, Nat.le_of_ble_eq_true rfl⟩ (fun r19 u19 h19 => ?_)
        obtain ⟨zr19, zu19⟩ := h19
        subst r19
        subst u19
        refine z_istore_n (L' := [(3, .int (nI (trg B i))), (0, .ref (ad 0)), (1, .int (nI c)), (2, .int (nI i))]) C dX7_circular_22 (by decide) rfl ?_
        refine z_iconst (v := nI 0) C (by decide) dX7_circular_23 ?_
        refine z_istore (L' := [(4, .int (nI 0)), (3, .int (nI (trg B i))), (0, .ref (ad 0)), (1, .int (nI c)), (2, .int (nI i))]) C dX7_circular_24 (by decide) rfl ?_
        have loop26 : ∀ (d26 : Nat) (t w : Nat), n - t < d26 → (t ≤ n) → (w = crr B n (trg B i) t) → ZZ pq l lq { frames := 1, cells := 0, slots := 0, locals := 24 } sq mq aq bq hmq cq D vwCl 12 ad 6 0 0 Qq (mF ad cI cL cB ((xs u 0 0 (nI 0)))) [(0, .ref (ad 0)), (1, .int (nI c)), (2, .int (nI i)), (3, .int (nI w)), (4, .int (nI t))] 26 [] := by
          intro d26
          induction d26 with
          | zero => intro t w hz; exact absurd hz (Nat.not_lt_zero _)
          | succ d26 ih26 =>
            intro t w hz26 htn hw
            have hw8 : w < 256 := by rw [hw]; exact p2n hn8 (crr_lt hB (trg_n hB (by omega)) t)
            refine z_iload C dX7_circular_26 4 rfl ?_
            refine z_aload_n C dX7_circular_28 0 rfl ?_
            refine z_get (q := 0) C (T := TX7) (N := 18) (ci := 7) (own := RX7) (index := 49) (v := .int ((xs u 0 0 (nI 0)).1 0 1)) hT7 hown hK (by decide) rfl rfl 1 (by decide) (hts (.fieldLink RX7 49 "TriggerAnalyzerModel" "rules" "I") (by decide +kernel)) (fun _ h9 => h9) rfl dX7_circular_29 ?_
            refine z_topi (y := u.1 0 1) (xs_j (by decide)) ?_
            refine z_topi (y := nI n) (mR_n hM.1) ?_
            refine z_icmp_ge (tgt := 77) C dX7_circular_32 (by decide) (fun zc32 => ?_) (fun zc32 => ?_)
            · skip
              have zn32 := zge_t (a := t) (b := n) (by omega) (by omega) zc32
              have hwt : w = crr B n (trg B i) n := by rw [hw, show t = n by omega]
              refine z_iload_n C dX7_circular_77 3 rfl ?_
              refine z_iload_n C dX7_circular_78 2 rfl ?_
              refine z_callSi mX_ok C hml hown hts hK hX (c_X7_has l D ad cI cL cB hI ((xs u 0 0 (nI 0))) w (by omega) i (by omega)) (va_cwS 2 hts gX7_circular_X7_has rfl rfl rfl (by decide +kernel) ⟨Nat.le_of_ble_eq_true rfl, Nat.le_of_ble_eq_true rfl⟩) rfl (st := []) rfl (Nat.le_of_ble_eq_true rfl) dX7_circular_79 ⟨Nat.le_of_ble_eq_true rfl, Nat.le_of_ble_eq_true rfl⟩ (fun r79 u79 h79 => ?_)
              obtain ⟨zr79, zu79⟩ := h79
              subst r79
              subst u79
              refine z_if_eq (tgt := 91) C dX7_circular_82 (by decide) (fun zc82 => ?_) (fun zc82 => ?_)
              · skip
                have hb82 := z1f zc82
                refine z_iinc (L' := [(2, .int (nI (i + 1))), (0, .ref (ad 0)), (1, .int (nI c)), (3, .int (nI w)), (4, .int (nI t))]) C dX7_circular_91 2 rfl (nI_1 i) (by decide) rfl ?_
                refine z_goto (tgt := 9) C dX7_circular_94 (by decide) ?_
                refine z_sub (L' := [(0, .ref (ad 0)), (1, .int (nI c)), (2, .int (nI (i + 1)))]) [1, 2, 0] rfl ?_
                exact ih9 (i + 1) c (by omega) (by omega) (by rw [hc, mks, if_neg (by rw [← hwt]; exact hb82), Nat.or_zero])
              · skip
                have hb82 := z1t zc82
                refine z_iload_n C dX7_circular_85 1 rfl ?_
                refine z_iconst (v := nI 1) C (by decide) dX7_circular_86 ?_
                refine z_iload_n C dX7_circular_87 2 rfl ?_
                refine z_ishl C dX7_circular_88 ?_
                refine z_topi (y := nI (2 ^ i)) (zi_shl1 (by omega)) ?_
                refine z_ior C dX7_circular_89 ?_
                refine z_topi (y := nI (c ||| (2 ^ i))) (fa_or c (2 ^ i)) ?_
                refine z_istore_n (L' := [(1, .int (nI (c ||| (2 ^ i)))), (0, .ref (ad 0)), (2, .int (nI i)), (3, .int (nI w)), (4, .int (nI t))]) C dX7_circular_90 (by decide) rfl ?_
                refine z_iinc (L' := [(2, .int (nI (i + 1))), (1, .int (nI (c ||| (2 ^ i)))), (0, .ref (ad 0)), (3, .int (nI w)), (4, .int (nI t))]) C dX7_circular_91 2 rfl (nI_1 i) (by decide) rfl ?_
                refine z_goto (tgt := 9) C dX7_circular_94 (by decide) ?_
                refine z_sub (L' := [(0, .ref (ad 0)), (1, .int (nI (c ||| (2 ^ i)))), (2, .int (nI (i + 1)))]) [2, 1, 0] rfl ?_
                exact ih9 (i + 1) (c ||| 2 ^ i) (by omega) (by omega) (by rw [hc, mks, if_pos (by rw [← hwt]; exact hb82)])
            · skip
              have zn32 := zge_f (a := t) (b := n) (by omega) (by omega) zc32
              refine z_iconst (v := nI 0) C (by decide) dX7_circular_35 ?_
              refine z_istore (L' := [(5, .int (nI 0)), (0, .ref (ad 0)), (1, .int (nI c)), (2, .int (nI i)), (3, .int (nI w)), (4, .int (nI t))]) C dX7_circular_36 (by decide) rfl ?_
              have loop38 : ∀ (d38 : Nat) (r v : Nat), n - r < d38 → (r ≤ n) → (v = crd B w r) → ZZ pq l lq { frames := 1, cells := 0, slots := 0, locals := 24 } sq mq aq bq hmq cq D vwCl 12 ad 6 0 0 Qq (mF ad cI cL cB ((xs u 0 0 (nI 0)))) [(0, .ref (ad 0)), (1, .int (nI c)), (2, .int (nI i)), (3, .int (nI v)), (4, .int (nI t)), (5, .int (nI r))] 38 [] := by
                intro d38
                induction d38 with
                | zero => intro r v hz; exact absurd hz (Nat.not_lt_zero _)
                | succ d38 ih38 =>
                  intro r v hz38 hrn hv
                  have hv8 : v < 256 := by rw [hv, hw]; exact p2n hn8 (crd_lt hB (crr_lt hB (trg_n hB (by omega)) t) r hrn)
                  refine z_iload C dX7_circular_38 5 rfl ?_
                  refine z_aload_n C dX7_circular_40 0 rfl ?_
                  refine z_get (q := 0) C (T := TX7) (N := 18) (ci := 7) (own := RX7) (index := 49) (v := .int ((xs u 0 0 (nI 0)).1 0 1)) hT7 hown hK (by decide) rfl rfl 1 (by decide) (hts (.fieldLink RX7 49 "TriggerAnalyzerModel" "rules" "I") (by decide +kernel)) (fun _ h9 => h9) rfl dX7_circular_41 ?_
                  refine z_topi (y := u.1 0 1) (xs_j (by decide)) ?_
                  refine z_topi (y := nI n) (mR_n hM.1) ?_
                  refine z_icmp_ge (tgt := 71) C dX7_circular_44 (by decide) (fun zc44 => ?_) (fun zc44 => ?_)
                  · skip
                    have zn44 := zge_t (a := r) (b := n) (by omega) (by omega) zc44
                    refine z_iinc (L' := [(4, .int (nI (t + 1))), (0, .ref (ad 0)), (1, .int (nI c)), (2, .int (nI i)), (3, .int (nI v)), (5, .int (nI r))]) C dX7_circular_71 4 rfl (nI_1 t) (by decide) rfl ?_
                    refine z_goto (tgt := 26) C dX7_circular_74 (by decide) ?_
                    refine z_sub (L' := [(0, .ref (ad 0)), (1, .int (nI c)), (2, .int (nI i)), (3, .int (nI v)), (4, .int (nI (t + 1)))]) [1, 2, 3, 4, 0] rfl ?_
                    exact ih26 (t + 1) v (by omega) (by omega) (by rw [hv, hw, show r = n by omega]; rfl)
                  · skip
                    have zn44 := zge_f (a := r) (b := n) (by omega) (by omega) zc44
                    refine z_iload_n C dX7_circular_47 3 rfl ?_
                    refine z_iload C dX7_circular_48 5 rfl ?_
                    refine z_callSi mX_ok C hml hown hts hK hX (c_X7_has l D ad cI cL cB hI ((xs u 0 0 (nI 0))) v (by omega) r (by omega)) (va_cwS 2 hts gX7_circular_X7_has rfl rfl rfl (by decide +kernel) ⟨Nat.le_of_ble_eq_true rfl, Nat.le_of_ble_eq_true rfl⟩) rfl (st := []) rfl (Nat.le_of_ble_eq_true rfl) dX7_circular_50 ⟨Nat.le_of_ble_eq_true rfl, Nat.le_of_ble_eq_true rfl⟩ (fun r50 u50 h50 => ?_)
                    obtain ⟨zr50, zu50⟩ := h50
                    subst r50
                    subst u50
                    refine z_if_eq (tgt := 65) C dX7_circular_53 (by decide) (fun zc53 => ?_) (fun zc53 => ?_)
                    · skip
                      have hb53 := z1f zc53
                      refine z_iinc (L' := [(5, .int (nI (r + 1))), (0, .ref (ad 0)), (1, .int (nI c)), (2, .int (nI i)), (3, .int (nI v)), (4, .int (nI t))]) C dX7_circular_65 5 rfl (nI_1 r) (by decide) rfl ?_
                      refine z_goto (tgt := 38) C dX7_circular_68 (by decide) ?_
                      refine z_sub (L' := [(0, .ref (ad 0)), (1, .int (nI c)), (2, .int (nI i)), (3, .int (nI v)), (4, .int (nI t)), (5, .int (nI (r + 1)))]) [1, 2, 3, 4, 5, 0] rfl ?_
                      exact ih38 (r + 1) v (by omega) (by omega) (by rw [hv]; exact (if_neg (by rw [← hv]; exact hb53)).symm)
                    · skip
                      have hb53 := z1t zc53
                      refine z_iload_n C dX7_circular_56 3 rfl ?_
                      refine z_aload_n C dX7_circular_57 0 rfl ?_
                      refine z_iload C dX7_circular_58 5 rfl ?_
                      refine z_callVi mX_ok C hml hown hts hK hX (c_X7_triggers l D ad cI cL cB hI ((xs u 0 0 (nI 0))) n B (mR_s hM.1 (Or.inl ⟨rfl, by decide⟩)) hB r zn44) (cwV 1 hts gX7_circular_X7_triggers rfl rfl rfl (by decide +kernel) ⟨Nat.le_of_ble_eq_true rfl, Nat.le_of_ble_eq_true rfl⟩) (by decide) (ci := 7) rfl rfl rfl (st := [.int (nI v)]) rfl (Nat.le_of_ble_eq_true rfl) dX7_circular_60 ⟨Nat.le_of_ble_eq_true rfl, Nat.le_of_ble_eq_true rfl⟩ (fun r60 u60 h60 => ?_)
                      obtain ⟨zr60, zu60⟩ := h60
                      subst r60
                      subst u60
                      refine z_ior C dX7_circular_63 ?_
                      refine z_topi (y := nI (v ||| (trg B r))) (fa_or v (trg B r)) ?_
                      refine z_istore_n (L' := [(3, .int (nI (v ||| (trg B r)))), (0, .ref (ad 0)), (1, .int (nI c)), (2, .int (nI i)), (4, .int (nI t)), (5, .int (nI r))]) C dX7_circular_64 (by decide) rfl ?_
                      refine z_iinc (L' := [(5, .int (nI (r + 1))), (3, .int (nI (v ||| (trg B r)))), (0, .ref (ad 0)), (1, .int (nI c)), (2, .int (nI i)), (4, .int (nI t))]) C dX7_circular_65 5 rfl (nI_1 r) (by decide) rfl ?_
                      refine z_goto (tgt := 38) C dX7_circular_68 (by decide) ?_
                      refine z_sub (L' := [(0, .ref (ad 0)), (1, .int (nI c)), (2, .int (nI i)), (3, .int (nI (v ||| (trg B r)))), (4, .int (nI t)), (5, .int (nI (r + 1)))]) [2, 3, 4, 1, 5, 0] rfl ?_
                      exact ih38 (r + 1) (v ||| trg B r) (by omega) (by omega) (by rw [hv]; exact (if_pos (by rw [← hv]; exact hb53)).symm)
              refine z_sub (L' := [(0, .ref (ad 0)), (1, .int (nI c)), (2, .int (nI i)), (3, .int (nI w)), (4, .int (nI t)), (5, .int (nI 0))]) [1, 2, 3, 4, 5, 0] rfl ?_
              exact loop38 (n + 1) 0 w (by omega) (by omega) rfl
        refine z_sub (L' := [(0, .ref (ad 0)), (1, .int (nI c)), (2, .int (nI i)), (3, .int (nI (trg B i))), (4, .int (nI 0))]) [2, 3, 4, 1, 0] rfl ?_
        exact loop26 (n + 1) 0 (trg B i) (by omega) (by omega) rfl
  refine z_sub (L' := [(0, .ref (ad 0)), (1, .int (nI 0)), (2, .int (nI 0))]) [2, 1, 0] rfl ?_
  exact loop9 (n + 1) 0 0 (by omega) (by omega) rfl
