set_option maxHeartbeats 4000000 in
set_option maxRecDepth 100000 in
theorem c_X2_spreadReach (l : Launch) (D : va_G) (ad : Nat → Nat) (cI cL cR : ClassId) (hI : gI 34 ad) (u : xS) (n : Nat) (B : Nat → Nat → Nat) (hR : xR u n B) : ∀ sz, Met l yX2_spreadReach wsX2_spreadReach ({ frames := 2, cells := 0, slots := 0, locals := 44 }) (XP D ad cI cL cR u [.ref (ad 19)] sz) (va_Qv (fun u' => (∀ j, j < 8 → u'.1 20 j = nI (war B 8 j)) ∧ jFr u u') (XB D ad cI cL cR) (gA 34 ad sz)) 0 0 (gA 34 ad sz) := by
  intro sz
  refine z_met (cc := cX2_spreadReach) (maxL := 3) (ret := none) (by decide) rfl (Nat.le_of_ble_eq_true rfl) ?_
  intro pq lq sq mq aq Qq bq hmq cq C hr hml hown hts hlocks hK hX hsz hQ
  subst hsz
  have hT2 : ∀ w ∈ wsX20, w.before aq sq = true := fun w h => hts w ((by decide +kernel : ∀ w ∈ wsX20, w ∈ wsX2_spreadReach) w h)
  refine z_sub (L' := [(0, .ref (ad 19))]) [0] rfl ?_
  have hn8 : n ≤ 8 := gB_8 hR.1
  refine z_iconst (v := nI 0) C (by decide) dX2_spreadReach_0 ?_
  refine z_istore_n (L' := [(1, .int (nI 0)), (0, .ref (ad 19))]) C dX2_spreadReach_1 (by decide) rfl ?_
  have loop2 : ∀ (d2 : Nat) (i : Nat) (w : xS), 8 - i < d2 → (i ≤ 8) → (∀ j, j < i → w.1 20 j = nI (trg B j)) → (jFr u w) → ZZ pq l lq { frames := 2, cells := 0, slots := 0, locals := 44 } sq mq aq bq hmq cq D vwCl 34 ad 3 0 0 Qq (xF ad cI cL cR w) [(0, .ref (ad 19)), (1, .int (nI i))] 2 [] := by
    intro d2
    induction d2 with
    | zero => intro i w hz; exact absurd hz (Nat.not_lt_zero _)
    | succ d2 ih2 =>
      intro i w hz2 hi8 hw hF
      have hRw := xR_jFr hR hF
      refine z_iload_n C dX2_spreadReach_2 1 rfl ?_
      refine z_aload_n C dX2_spreadReach_3 0 rfl ?_
      refine z_get (q := 19) C (T := TX2) (N := 2) (ci := 2) (own := RX2) (index := 9) (v := .ref (ad 20)) hT2 hown hK (by decide) rfl rfl 1 (by decide) (hts (.fieldLink RX2 9 "TriggerAnalyzer$Judge" "reach" "[I") (by decide +kernel)) (fun _ h9 => h9) rfl dX2_spreadReach_4 ?_
      refine z_alen (q := 20) (len := 8) C hK (by decide) rfl 0 rfl (v := nI 8) (by decide) dX2_spreadReach_7 ?_
      refine z_icmp_ge (tgt := 48) C dX2_spreadReach_8 (by decide) (fun zc8 => ?_) (fun zc8 => ?_)
      · skip
        have zn8 := zge_t (a := i) (b := 8) (by omega) (by omega) zc8
        refine z_iconst (v := nI 0) C (by decide) dX2_spreadReach_48 ?_
        refine z_istore_n (L' := [(1, .int (nI 0)), (0, .ref (ad 19))]) C dX2_spreadReach_49 (by decide) rfl ?_
        have loop50 : ∀ (d50 : Nat) (k : Nat) (w1 : xS), 8 - k < d50 → (k ≤ 8) → (∀ j, j < 8 → w1.1 20 j = nI (war B k j)) → (jFr u w1) → ZZ pq l lq { frames := 2, cells := 0, slots := 0, locals := 44 } sq mq aq bq hmq cq D vwCl 34 ad 3 0 0 Qq (xF ad cI cL cR w1) [(0, .ref (ad 19)), (1, .int (nI k))] 50 [] := by
          intro d50
          induction d50 with
          | zero => intro k w1 hz; exact absurd hz (Nat.not_lt_zero _)
          | succ d50 ih50 =>
            intro k w1 hz50 hk8 hw1 hF1
            refine z_iload_n C dX2_spreadReach_50 1 rfl ?_
            refine z_aload_n C dX2_spreadReach_51 0 rfl ?_
            refine z_get (q := 19) C (T := TX2) (N := 2) (ci := 2) (own := RX2) (index := 9) (v := .ref (ad 20)) hT2 hown hK (by decide) rfl rfl 1 (by decide) (hts (.fieldLink RX2 9 "TriggerAnalyzer$Judge" "reach" "[I") (by decide +kernel)) (fun _ h9 => h9) rfl dX2_spreadReach_52 ?_
            refine z_alen (q := 20) (len := 8) C hK (by decide) rfl 0 rfl (v := nI 8) (by decide) dX2_spreadReach_55 ?_
            refine z_icmp_ge (tgt := 110) C dX2_spreadReach_56 (by decide) (fun zc56 => ?_) (fun zc56 => ?_)
            · skip
              have zn56 := zge_t (a := k) (b := 8) (by omega) (by omega) zc56
              exact z_vret C hr hlocks hQ w1 (⟨fun j hj => by rw [hw1 j hj, show k = 8 by omega], hF1⟩) (fun _ _ => rfl) dX2_spreadReach_110
            · skip
              have zn56 := zge_f (a := k) (b := 8) (by omega) (by omega) zc56
              refine z_iconst (v := nI 0) C (by decide) dX2_spreadReach_59 ?_
              refine z_istore_n (L' := [(2, .int (nI 0)), (0, .ref (ad 19)), (1, .int (nI k))]) C dX2_spreadReach_60 (by decide) rfl ?_
              have loop61 : ∀ (d61 : Nat) (i : Nat) (w2 : xS), 8 - i < d61 → (i ≤ 8) → (∀ j, j < 8 → w2.1 20 j = nI (if j < i then war B (k + 1) j else war B k j)) → (jFr u w2) → ZZ pq l lq { frames := 2, cells := 0, slots := 0, locals := 44 } sq mq aq bq hmq cq D vwCl 34 ad 3 0 0 Qq (xF ad cI cL cR w2) [(0, .ref (ad 19)), (1, .int (nI k)), (2, .int (nI i))] 61 [] := by
                intro d61
                induction d61 with
                | zero => intro i w2 hz; exact absurd hz (Nat.not_lt_zero _)
                | succ d61 ih61 =>
                  intro i w2 hz61 hi82 hw2 hF2
                  refine z_iload_n C dX2_spreadReach_61 2 rfl ?_
                  refine z_aload_n C dX2_spreadReach_62 0 rfl ?_
                  refine z_get (q := 19) C (T := TX2) (N := 2) (ci := 2) (own := RX2) (index := 9) (v := .ref (ad 20)) hT2 hown hK (by decide) rfl rfl 1 (by decide) (hts (.fieldLink RX2 9 "TriggerAnalyzer$Judge" "reach" "[I") (by decide +kernel)) (fun _ h9 => h9) rfl dX2_spreadReach_63 ?_
                  refine z_alen (q := 20) (len := 8) C hK (by decide) rfl 0 rfl (v := nI 8) (by decide) dX2_spreadReach_66 ?_
                  refine z_icmp_ge (tgt := 104) C dX2_spreadReach_67 (by decide) (fun zc67 => ?_) (fun zc67 => ?_)
                  · skip
                    have zn67 := zge_t (a := i) (b := 8) (by omega) (by omega) zc67
                    refine z_iinc (L' := [(1, .int (nI (k + 1))), (0, .ref (ad 19)), (2, .int (nI i))]) C dX2_spreadReach_104 1 rfl (nI_1 k) (by decide) rfl ?_
                    refine z_goto (tgt := 50) C dX2_spreadReach_107 (by decide) ?_
                    refine z_sub (L' := [(0, .ref (ad 19)), (1, .int (nI (k + 1)))]) [1, 0] rfl ?_
                    exact ih50 (k + 1) w2 (by omega) (by omega) (fun j hj => by rw [hw2 j hj, if_pos (by omega)]) hF2
                  · skip
                    have zn67 := zge_f (a := i) (b := 8) (by omega) (by omega) zc67
                    refine z_aload_n C dX2_spreadReach_70 0 rfl ?_
                    refine z_get (q := 19) C (T := TX2) (N := 2) (ci := 2) (own := RX2) (index := 9) (v := .ref (ad 20)) hT2 hown hK (by decide) rfl rfl 1 (by decide) (hts (.fieldLink RX2 9 "TriggerAnalyzer$Judge" "reach" "[I") (by decide +kernel)) (fun _ h9 => h9) rfl dX2_spreadReach_71 ?_
                    refine z_iload_n C dX2_spreadReach_74 2 rfl ?_
                    refine z_iald (q := 20) (len := 8) (k := i) C hK (by decide) rfl 0 rfl (rfl) (by omega) (by decide) dX2_spreadReach_75 ?_
                    refine z_topi (y := nI (if i < i then war B (k + 1) i else war B k i)) (hw2 i zn67) ?_
                    refine z_iconst (v := nI 1) C (by decide) dX2_spreadReach_76 ?_
                    refine z_iload_n C dX2_spreadReach_77 1 rfl ?_
                    refine z_ishl C dX2_spreadReach_78 ?_
                    refine z_topi (y := nI (2 ^ k)) (zi_shl1 (by omega)) ?_
                    refine z_iand C dX2_spreadReach_79 ?_
                    refine z_if_eq (tgt := 98) C dX2_spreadReach_80 (by decide) (fun zc80 => ?_) (fun zc80 => ?_)
                    · skip
                      rw [if_neg (Nat.lt_irrefl i), fa_and] at zc80
                      have h80 := zi_bitF (by omega) zc80
                      refine z_iinc (L' := [(2, .int (nI (i + 1))), (0, .ref (ad 19)), (1, .int (nI k))]) C dX2_spreadReach_98 2 rfl (nI_1 i) (by decide) rfl ?_
                      refine z_goto (tgt := 61) C dX2_spreadReach_101 (by decide) ?_
                      refine z_sub (L' := [(0, .ref (ad 19)), (1, .int (nI k)), (2, .int (nI (i + 1)))]) [1, 2, 0] rfl ?_
                      exact ih61 (i + 1) w2 (by omega) (by omega) (fun j hj => by rw [hw2 j hj]; by_cases z : j = i; rw [z, if_neg (Nat.lt_irrefl i), if_pos (Nat.lt_succ_self i), war_n h80]; by_cases z2 : j < i; rw [if_pos z2, if_pos (by omega)]; rw [if_neg z2, if_neg (by omega)]) hF2
                    · skip
                      rw [if_neg (Nat.lt_irrefl i), fa_and] at zc80
                      have h80 := zi_bitT (by omega) zc80
                      refine z_aload_n C dX2_spreadReach_83 0 rfl ?_
                      refine z_get (q := 19) C (T := TX2) (N := 2) (ci := 2) (own := RX2) (index := 9) (v := .ref (ad 20)) hT2 hown hK (by decide) rfl rfl 1 (by decide) (hts (.fieldLink RX2 9 "TriggerAnalyzer$Judge" "reach" "[I") (by decide +kernel)) (fun _ h9 => h9) rfl dX2_spreadReach_84 ?_
                      refine z_iload_n C dX2_spreadReach_87 2 rfl ?_
                      refine z_dup2 C rfl rfl dX2_spreadReach_88 ?_
                      refine z_iald (q := 20) (len := 8) (k := i) C hK (by decide) rfl 0 rfl (rfl) (by omega) (by decide) dX2_spreadReach_89 ?_
                      refine z_topi (y := nI (if i < i then war B (k + 1) i else war B k i)) (hw2 i zn67) ?_
                      refine z_aload_n C dX2_spreadReach_90 0 rfl ?_
                      refine z_get (q := 19) C (T := TX2) (N := 2) (ci := 2) (own := RX2) (index := 9) (v := .ref (ad 20)) hT2 hown hK (by decide) rfl rfl 1 (by decide) (hts (.fieldLink RX2 9 "TriggerAnalyzer$Judge" "reach" "[I") (by decide +kernel)) (fun _ h9 => h9) rfl dX2_spreadReach_91 ?_
                      refine z_iload_n C dX2_spreadReach_94 1 rfl ?_
                      refine z_iald (q := 20) (len := 8) (k := k) C hK (by decide) rfl 0 rfl (rfl) (by omega) (by decide) dX2_spreadReach_95 ?_
                      refine z_topi (y := nI (if k < i then war B (k + 1) k else war B k k)) (hw2 k zn56) ?_
                      refine z_ior C dX2_spreadReach_96 ?_
                      refine z_topi (y := nI ((if i < i then war B (k + 1) i else war B k i) ||| (if k < i then war B (k + 1) k else war B k k))) (fa_or (if i < i then war B (k + 1) i else war B k i) (if k < i then war B (k + 1) k else war B k k)) ?_
                      refine z_iast (q := 20) (len := 8) (k := i) C hI hK (by decide) rfl 0 rfl (rfl) (by omega) (by decide) (f' := xF ad cI cL cR ((xs w2 20 i (nI ((if i < i then war B (k + 1) i else war B k i) ||| (if k < i then war B (k + 1) k else war B k k)))))) rfl xF_ne dX2_spreadReach_97 ?_
                      refine z_iinc (L' := [(2, .int (nI (i + 1))), (0, .ref (ad 19)), (1, .int (nI k))]) C dX2_spreadReach_98 2 rfl (nI_1 i) (by decide) rfl ?_
                      refine z_goto (tgt := 61) C dX2_spreadReach_101 (by decide) ?_
                      refine z_sub (L' := [(0, .ref (ad 19)), (1, .int (nI k)), (2, .int (nI (i + 1)))]) [1, 2, 0] rfl ?_
                      exact ih61 (i + 1) ((xs w2 20 i (nI ((if i < i then war B (k + 1) i else war B k i) ||| (if k < i then war B (k + 1) k else war B k k))))) (by omega) (by omega) (fun j hj => by by_cases z : j = i; rw [z, xs_s, if_neg (Nat.lt_irrefl i), if_pos (Nat.lt_succ_self i), war_if, war_y h80]; rw [xs_j z, hw2 j hj]; by_cases z2 : j < i; rw [if_pos z2, if_pos (by omega)]; rw [if_neg z2, if_neg (by omega)]) (jFr_s hF2)
              refine z_sub (L' := [(0, .ref (ad 19)), (1, .int (nI k)), (2, .int (nI 0))]) [1, 2, 0] rfl ?_
              exact loop61 9 0 w1 (by omega) (by omega) (fun j hj => by rw [if_neg (Nat.not_lt_zero j)]; exact hw1 j hj) hF1
        refine z_sub (L' := [(0, .ref (ad 19)), (1, .int (nI 0))]) [1, 0] rfl ?_
        exact loop50 9 0 w (by omega) (by omega) (fun j hj => hw j (by omega)) hF
      · skip
        have zn8 := zge_f (a := i) (b := 8) (by omega) (by omega) zc8
        refine z_aload_n C dX2_spreadReach_11 0 rfl ?_
        refine z_get (q := 19) C (T := TX2) (N := 2) (ci := 2) (own := RX2) (index := 15) (v := .ref (ad 16)) hT2 hown hK (by decide) rfl rfl 0 (by decide) (hts (.fieldLink RX2 15 "TriggerAnalyzer$Judge" "book" "LTriggerAnalyzer$RuleBook;") (by decide +kernel)) (fun _ h9 => h9) rfl dX2_spreadReach_12 ?_
        rcases Nat.lt_or_ge i n with hin | hin
        · skip
          refine z_iload_n C dX2_spreadReach_15 1 rfl ?_
          refine z_callVq xX_ok C hml hown hts hK hX (c_X5_ruleOrNull_vh l D ad cI cL cR hI w n B hRw i hin) (cwV 1 hts gX2_spreadReach_X5_ruleOrNull rfl rfl rfl (by decide +kernel) ⟨Nat.le_of_ble_eq_true rfl, Nat.le_of_ble_eq_true rfl⟩) (by decide) (ci := 5) rfl rfl rfl (st := []) rfl (Nat.le_of_ble_eq_true rfl) dX2_spreadReach_16 ⟨Nat.le_of_ble_eq_true rfl, Nat.le_of_ble_eq_true rfl⟩ (fun r16 u16 h16 => ?_)
          obtain ⟨zr16, zu16⟩ := h16
          subst r16
          subst u16
          refine z_topv (y := .ref (ad i)) rfl ?_
          refine z_astore_n (L' := [(2, .ref (ad i)), (0, .ref (ad 19)), (1, .int (nI i))]) C dX2_spreadReach_19 (by decide) rfl ?_
          refine z_aload_n C dX2_spreadReach_20 1 rfl ?_
          refine z_get (q := 19) C (T := TX2) (N := 2) (ci := 2) (own := RX2) (index := 9) (v := .ref (ad 20)) hT2 hown hK (by decide) rfl rfl 1 (by decide) (hts (.fieldLink RX2 9 "TriggerAnalyzer$Judge" "reach" "[I") (by decide +kernel)) (fun _ h9 => h9) rfl dX2_spreadReach_21 ?_
          refine z_iload_n C dX2_spreadReach_24 2 rfl ?_
          refine z_aload_n C dX2_spreadReach_25 0 rfl ?_
          refine z_ifnonnull (tgt := 33) C dX2_spreadReach_26 (by decide) ?_
          refine z_aload_n C dX2_spreadReach_33 1 rfl ?_
          refine z_get (q := 19) C (T := TX2) (N := 2) (ci := 2) (own := RX2) (index := 15) (v := .ref (ad 16)) hT2 hown hK (by decide) rfl rfl 0 (by decide) (hts (.fieldLink RX2 15 "TriggerAnalyzer$Judge" "book" "LTriggerAnalyzer$RuleBook;") (by decide +kernel)) (fun _ h9 => h9) rfl dX2_spreadReach_34 ?_
          refine z_aload_n C dX2_spreadReach_37 0 rfl ?_
          refine z_callVi xX_ok C hml hown hts hK hX (c_X5_triggerableBy l D ad cI cL cR hI w n B hRw i zn8) (cwV 1 hts gX2_spreadReach_X5_triggerableBy rfl rfl rfl (by decide +kernel) ⟨Nat.le_of_ble_eq_true rfl, Nat.le_of_ble_eq_true rfl⟩) (by decide) (ci := 5) rfl rfl rfl (st := [.int (nI i), .ref (ad 20)]) rfl (Nat.le_of_ble_eq_true rfl) dX2_spreadReach_38 ⟨Nat.le_of_ble_eq_true rfl, Nat.le_of_ble_eq_true rfl⟩ (fun r38 u38 h38 => ?_)
          obtain ⟨zr38, zu38⟩ := h38
          subst r38
          subst u38
          refine z_iast (q := 20) (len := 8) (k := i) C hI hK (by decide) rfl 0 rfl (rfl) (by omega) (by decide) (f' := xF ad cI cL cR ((xs w 20 i (nI (trg B i))))) rfl xF_ne dX2_spreadReach_41 ?_
          refine z_iinc (L' := [(1, .int (nI (i + 1))), (2, .ref (ad i)), (0, .ref (ad 19))]) C dX2_spreadReach_42 2 rfl (nI_1 i) (by decide) rfl ?_
          refine z_goto (tgt := 2) C dX2_spreadReach_45 (by decide) ?_
          refine z_sub (L' := [(0, .ref (ad 19)), (1, .int (nI (i + 1)))]) [2, 0] rfl ?_
          exact ih2 (i + 1) ((xs w 20 i (nI (trg B i)))) (by omega) (by omega) (fun j hj => by by_cases z : j = i; rw [z, xs_s]; rw [xs_j z]; exact hw j (by omega)) (jFr_s hF)
        · skip
          refine z_iload_n C dX2_spreadReach_15 1 rfl ?_
          refine z_callVq xX_ok C hml hown hts hK hX (c_X5_ruleOrNull_vb l D ad cI cL cR hI w n B hRw i hin (by omega)) (cwV 1 hts gX2_spreadReach_X5_ruleOrNull rfl rfl rfl (by decide +kernel) ⟨Nat.le_of_ble_eq_true rfl, Nat.le_of_ble_eq_true rfl⟩) (by decide) (ci := 5) rfl rfl rfl (st := []) rfl (Nat.le_of_ble_eq_true rfl) dX2_spreadReach_16 ⟨Nat.le_of_ble_eq_true rfl, Nat.le_of_ble_eq_true rfl⟩ (fun r16 u16 h16 => ?_)
          obtain ⟨zr16, zu16⟩ := h16
          subst r16
          subst u16
          refine z_topv (y := .null) rfl ?_
          refine z_astore_nN (L' := [(2, .null), (0, .ref (ad 19)), (1, .int (nI i))]) C dX2_spreadReach_19 (by decide) rfl ?_
          refine z_aload_n C dX2_spreadReach_20 1 rfl ?_
          refine z_get (q := 19) C (T := TX2) (N := 2) (ci := 2) (own := RX2) (index := 9) (v := .ref (ad 20)) hT2 hown hK (by decide) rfl rfl 1 (by decide) (hts (.fieldLink RX2 9 "TriggerAnalyzer$Judge" "reach" "[I") (by decide +kernel)) (fun _ h9 => h9) rfl dX2_spreadReach_21 ?_
          refine z_iload_n C dX2_spreadReach_24 2 rfl ?_
          refine z_aload_nN C dX2_spreadReach_25 0 rfl ?_
          refine z_ifnonnullN C dX2_spreadReach_26 ?_
          refine z_iconst (v := nI 0) C (by decide) dX2_spreadReach_29 ?_
          refine z_goto (tgt := 41) C dX2_spreadReach_30 (by decide) ?_
          refine z_iast (q := 20) (len := 8) (k := i) C hI hK (by decide) rfl 0 rfl (rfl) (by omega) (by decide) (f' := xF ad cI cL cR ((xs w 20 i (nI 0)))) rfl xF_ne dX2_spreadReach_41 ?_
          refine z_iinc (L' := [(1, .int (nI (i + 1))), (2, .null), (0, .ref (ad 19))]) C dX2_spreadReach_42 2 rfl (nI_1 i) (by decide) rfl ?_
          refine z_goto (tgt := 2) C dX2_spreadReach_45 (by decide) ?_
          refine z_sub (L' := [(0, .ref (ad 19)), (1, .int (nI (i + 1)))]) [2, 0] rfl ?_
          exact ih2 (i + 1) ((xs w 20 i (nI 0))) (by omega) (by omega) (fun j hj => by by_cases z : j = i; rw [z, xs_s, trg_off hR.1 zn8 hin]; rw [xs_j z]; exact hw j (by omega)) (jFr_s hF)
  refine z_sub (L' := [(0, .ref (ad 19)), (1, .int (nI 0))]) [1, 0] rfl ?_
  exact loop2 9 0 u (by omega) (by omega) (fun j hj => absurd hj (Nat.not_lt_zero j)) (jFr_rf u)

set_option maxHeartbeats 4000000 in
set_option maxRecDepth 100000 in
theorem c_X2_inCircles (l : Launch) (D : va_G) (ad : Nat → Nat) (cI cL cR : ClassId) (hI : gI 34 ad) (u : xS) (n : Nat) (B : Nat → Nat → Nat) (hR : xR u n B) : ∀ sz, Met l yX2_inCircles wsX2_inCircles ({ frames := 3, cells := 0, slots := 0, locals := 66 }) (XP D ad cI cL cR u [.ref (ad 19)] sz) (va_Qi (fun r_ u' => r_ = nI (cirs B 8) ∧ jFr u u') (XB D ad cI cL cR) (gA 34 ad sz)) 0 0 (gA 34 ad sz) := by
  intro sz
  refine z_met (cc := cX2_inCircles) (maxL := 3) (ret := (some .int)) (by decide) rfl (Nat.le_of_ble_eq_true rfl) ?_
  intro pq lq sq mq aq Qq bq hmq cq C hr hml hown hts hlocks hK hX hsz hQ
  subst hsz
  have hT2 : ∀ w ∈ wsX20, w.before aq sq = true := fun w h => hts w ((by decide +kernel : ∀ w ∈ wsX20, w ∈ wsX2_inCircles) w h)
  refine z_sub (L' := [(0, .ref (ad 19))]) [0] rfl ?_
  refine z_aload_n C dX2_inCircles_0 0 rfl ?_
  refine z_callVv xX_ok C hml hown hts hK hX (c_X2_spreadReach l D ad cI cL cR hI u n B hR) (cwV 0 hts gX2_inCircles_X2_spreadReach rfl rfl rfl (by decide +kernel) ⟨Nat.le_of_ble_eq_true rfl, Nat.le_of_ble_eq_true rfl⟩) (by decide) (ci := 2) rfl rfl rfl (st := []) rfl (Nat.le_of_ble_eq_true rfl) dX2_inCircles_1 ⟨Nat.le_of_ble_eq_true rfl, Nat.le_of_ble_eq_true rfl⟩ (fun u1 h1 => ?_)
  refine z_iconst (v := nI 0) C (by decide) dX2_inCircles_4 ?_
  refine z_istore_n (L' := [(1, .int (nI 0)), (0, .ref (ad 19))]) C dX2_inCircles_5 (by decide) rfl ?_
  refine z_iconst (v := nI 0) C (by decide) dX2_inCircles_6 ?_
  refine z_istore_n (L' := [(2, .int (nI 0)), (1, .int (nI 0)), (0, .ref (ad 19))]) C dX2_inCircles_7 (by decide) rfl ?_
  have loop8 : ∀ (d8 : Nat) (i X : Nat), 8 - i < d8 → (i ≤ 8) → (X = cirs B i) → ZZ pq l lq { frames := 3, cells := 0, slots := 0, locals := 66 } sq mq aq bq hmq cq D vwCl 34 ad 3 0 0 Qq (xF ad cI cL cR u1) [(0, .ref (ad 19)), (1, .int (nI X)), (2, .int (nI i))] 8 [] := by
    intro d8
    induction d8 with
    | zero => intro i X hz; exact absurd hz (Nat.not_lt_zero _)
    | succ d8 ih8 =>
      intro i X hz8 hi8 hXq
      refine z_iload_n C dX2_inCircles_8 2 rfl ?_
      refine z_aload_n C dX2_inCircles_9 0 rfl ?_
      refine z_get (q := 19) C (T := TX2) (N := 2) (ci := 2) (own := RX2) (index := 9) (v := .ref (ad 20)) hT2 hown hK (by decide) rfl rfl 1 (by decide) (hts (.fieldLink RX2 9 "TriggerAnalyzer$Judge" "reach" "[I") (by decide +kernel)) (fun _ h9 => h9) rfl dX2_inCircles_10 ?_
      refine z_alen (q := 20) (len := 8) C hK (by decide) rfl 0 rfl (v := nI 8) (by decide) dX2_inCircles_13 ?_
      refine z_icmp_ge (tgt := 36) C dX2_inCircles_14 (by decide) (fun zc14 => ?_) (fun zc14 => ?_)
      · skip
        have zn14 := zge_t (a := i) (b := 8) (by omega) (by omega) zc14
        refine z_iload_n C dX2_inCircles_36 1 rfl ?_
        exact z_iret C hr hlocks hQ u1 (⟨by rw [hXq, show i = 8 by omega], h1.2⟩) (fun _ _ => rfl) dX2_inCircles_37
      · skip
        have zn14 := zge_f (a := i) (b := 8) (by omega) (by omega) zc14
        refine z_iload_n C dX2_inCircles_17 1 rfl ?_
        refine z_aload_n C dX2_inCircles_18 0 rfl ?_
        refine z_get (q := 19) C (T := TX2) (N := 2) (ci := 2) (own := RX2) (index := 9) (v := .ref (ad 20)) hT2 hown hK (by decide) rfl rfl 1 (by decide) (hts (.fieldLink RX2 9 "TriggerAnalyzer$Judge" "reach" "[I") (by decide +kernel)) (fun _ h9 => h9) rfl dX2_inCircles_19 ?_
        refine z_iload_n C dX2_inCircles_22 2 rfl ?_
        refine z_iald (q := 20) (len := 8) (k := i) C hK (by decide) rfl 0 rfl (rfl) (by omega) (by decide) dX2_inCircles_23 ?_
        refine z_topi (y := nI (war B 8 i)) (h1.1 i zn14) ?_
        refine z_iconst (v := nI 1) C (by decide) dX2_inCircles_24 ?_
        refine z_iload_n C dX2_inCircles_25 2 rfl ?_
        refine z_ishl C dX2_inCircles_26 ?_
        refine z_topi (y := nI (2 ^ i)) (zi_shl1 (by omega)) ?_
        refine z_iand C dX2_inCircles_27 ?_
        refine z_topi (y := nI ((war B 8 i) &&& (2 ^ i))) (fa_and (war B 8 i) (2 ^ i)) ?_
        refine z_ior C dX2_inCircles_28 ?_
        refine z_topi (y := nI (X ||| ((war B 8 i) &&& (2 ^ i)))) (fa_or X ((war B 8 i) &&& (2 ^ i))) ?_
        refine z_istore_n (L' := [(1, .int (nI (X ||| ((war B 8 i) &&& (2 ^ i))))), (0, .ref (ad 19)), (2, .int (nI i))]) C dX2_inCircles_29 (by decide) rfl ?_
        refine z_iinc (L' := [(2, .int (nI (i + 1))), (1, .int (nI (X ||| ((war B 8 i) &&& (2 ^ i))))), (0, .ref (ad 19))]) C dX2_inCircles_30 2 rfl (nI_1 i) (by decide) rfl ?_
        refine z_goto (tgt := 8) C dX2_inCircles_33 (by decide) ?_
        refine z_sub (L' := [(0, .ref (ad 19)), (1, .int (nI (X ||| ((war B 8 i) &&& (2 ^ i))))), (2, .int (nI (i + 1)))]) [2, 1, 0] rfl ?_
        exact ih8 (i + 1) (X ||| (war B 8 i &&& 2 ^ i)) (by omega) (by omega) (by rw [hXq]; rfl)
  refine z_sub (L' := [(0, .ref (ad 19)), (1, .int (nI 0)), (2, .int (nI 0))]) [2, 1, 0] rfl ?_
  exact loop8 9 0 0 (by omega) (by omega) rfl

set_option maxHeartbeats 4000000 in
set_option maxRecDepth 100000 in
theorem c_X2_areIndependent (l : Launch) (D : va_G) (ad : Nat → Nat) (cI cL cR : ClassId) (hI : gI 34 ad) (u : xS) (n : Nat) (B : Nat → Nat → Nat) (hR : xR u n B) (i : Nat) (hi : i < 8) (j : Nat) (hj : j < 8) : ∀ sz, Met l yX2_areIndependent wsX2_areIndependent ({ frames := 2, cells := 0, slots := 0, locals := 44 }) (XP D ad cI cL cR u [.ref (ad 19), .ref (ad i), .ref (ad j)] sz) (va_Qi (fun r_ u' => r_ = (if com B i j = true then 1 else 0) ∧ u' = u) (XB D ad cI cL cR) (gA 34 ad sz)) 0 0 (gA 34 ad sz) := by
  intro sz
  refine z_met (cc := cX2_areIndependent) (maxL := 4) (ret := (some .boolean)) (by decide) rfl (Nat.le_of_ble_eq_true rfl) ?_
  intro pq lq sq mq aq Qq bq hmq cq C hr hml hown hts hlocks hK hX hsz hQ
  subst hsz
  have hT2 : ∀ w ∈ wsX20, w.before aq sq = true := fun w h => hts w ((by decide +kernel : ∀ w ∈ wsX20, w ∈ wsX2_areIndependent) w h)
  have hT4 : ∀ w ∈ wsX40, w.before aq sq = true := fun w h => hts w ((by decide +kernel : ∀ w ∈ wsX40, w ∈ wsX2_areIndependent) w h)
  refine z_sub (L' := [(0, .ref (ad 19)), (1, .ref (ad i)), (2, .ref (ad j))]) [0, 1, 2] rfl ?_
  have g3i := gB_3 hR.1 hi
  have g3j := gB_3 hR.1 hj
  have b1 : (trg B i ||| trg B j) &&& (2 ^ i ||| 2 ^ j) < 256 := and_lt (Nat.or_lt_two_pow (n := 8) (pow_lt8 hi) (pow_lt8 hj))
  have b2 : (sfm B i ||| ufm B i) &&& (B j 1 ||| B j 2) < 64 := and_lt (Nat.or_lt_two_pow (n := 6) (gB_1 hR.1 hj) (gB_2 hR.1 hj))
  have b3 : (sfm B j ||| ufm B j) &&& (B i 1 ||| B i 2) < 64 := and_lt (Nat.or_lt_two_pow (n := 6) (gB_1 hR.1 hi) (gB_2 hR.1 hi))
  have b4 : sfm B i &&& ufm B j < 64 := and_lt (sfm_lt hR.1 hj).2
  have b5 : ufm B i &&& sfm B j < 64 := and_lt (sfm_lt hR.1 hj).1
  refine z_aload_n C dX2_areIndependent_0 1 rfl ?_
  refine z_get (q := i) C (T := TX4) (N := 11) (ci := 4) (own := RX2) (index := 32) (v := .int (u.1 i 5)) hT4 hown hK (by omega) (xF_r hi) rfl 5 (by decide) (hts (.fieldLink RX2 32 "TriggerAnalyzer$Rule" "on" "Z") (by decide +kernel)) (fun _ h9 => h9) rfl dX2_areIndependent_1 ?_
  refine z_topi (y := nI (B i 3)) (xR_5 hR (by omega)) ?_
  refine z_if_eq (tgt := 14) C dX2_areIndependent_4 (by decide) (fun zc4 => ?_) (fun zc4 => ?_)
  · skip
    have zn4 := z0_t (by omega) zc4
    refine z_iconst (v := nI 1) C (by decide) dX2_areIndependent_14 ?_
    exact z_zret C hr hlocks rfl hQ u (⟨by rw [show com B i j = true by simp [com, zn4]]; rfl, rfl⟩) (fun _ _ => rfl) dX2_areIndependent_15
  · skip
    have zn4 := z0_f zc4
    refine z_aload_n C dX2_areIndependent_7 2 rfl ?_
    refine z_get (q := j) C (T := TX4) (N := 11) (ci := 4) (own := RX2) (index := 32) (v := .int (u.1 j 5)) hT4 hown hK (by omega) (xF_r hj) rfl 5 (by decide) (hts (.fieldLink RX2 32 "TriggerAnalyzer$Rule" "on" "Z") (by decide +kernel)) (fun _ h9 => h9) rfl dX2_areIndependent_8 ?_
    refine z_topi (y := nI (B j 3)) (xR_5 hR (by omega)) ?_
    refine z_if_ne (tgt := 16) C dX2_areIndependent_11 (by decide) (fun zc11 => ?_) (fun zc11 => ?_)
    · skip
      have zn11 := z0_f zc11
      refine z_aload_n C dX2_areIndependent_16 0 rfl ?_
      refine z_get (q := 19) C (T := TX2) (N := 2) (ci := 2) (own := RX2) (index := 15) (v := .ref (ad 16)) hT2 hown hK (by decide) rfl rfl 0 (by decide) (hts (.fieldLink RX2 15 "TriggerAnalyzer$Judge" "book" "LTriggerAnalyzer$RuleBook;") (by decide +kernel)) (fun _ h9 => h9) rfl dX2_areIndependent_17 ?_
      refine z_aload_n C dX2_areIndependent_20 1 rfl ?_
      refine z_callVi xX_ok C hml hown hts hK hX (c_X5_triggerableBy l D ad cI cL cR hI u n B hR i hi) (cwV 1 hts gX2_areIndependent_X5_triggerableBy rfl rfl rfl (by decide +kernel) ⟨Nat.le_of_ble_eq_true rfl, Nat.le_of_ble_eq_true rfl⟩) (by decide) (ci := 5) rfl rfl rfl (st := []) rfl (Nat.le_of_ble_eq_true rfl) dX2_areIndependent_21 ⟨Nat.le_of_ble_eq_true rfl, Nat.le_of_ble_eq_true rfl⟩ (fun r21 u21 h21 => ?_)
      obtain ⟨zr21, zu21⟩ := h21
      subst r21
      subst u21
      refine z_aload_n C dX2_areIndependent_24 0 rfl ?_
      refine z_get (q := 19) C (T := TX2) (N := 2) (ci := 2) (own := RX2) (index := 15) (v := .ref (ad 16)) hT2 hown hK (by decide) rfl rfl 0 (by decide) (hts (.fieldLink RX2 15 "TriggerAnalyzer$Judge" "book" "LTriggerAnalyzer$RuleBook;") (by decide +kernel)) (fun _ h9 => h9) rfl dX2_areIndependent_25 ?_
      refine z_aload_n C dX2_areIndependent_28 2 rfl ?_
      refine z_callVi xX_ok C hml hown hts hK hX (c_X5_triggerableBy l D ad cI cL cR hI u n B hR j hj) (cwV 1 hts gX2_areIndependent_X5_triggerableBy rfl rfl rfl (by decide +kernel) ⟨Nat.le_of_ble_eq_true rfl, Nat.le_of_ble_eq_true rfl⟩) (by decide) (ci := 5) rfl rfl rfl (st := [.int (nI (trg B i))]) rfl (Nat.le_of_ble_eq_true rfl) dX2_areIndependent_29 ⟨Nat.le_of_ble_eq_true rfl, Nat.le_of_ble_eq_true rfl⟩ (fun r29 u29 h29 => ?_)
      obtain ⟨zr29, zu29⟩ := h29
      subst r29
      subst u29
      refine z_ior C dX2_areIndependent_32 ?_
      refine z_topi (y := nI ((trg B i) ||| (trg B j))) (fa_or (trg B i) (trg B j)) ?_
      refine z_istore_n (L' := [(3, .int (nI ((trg B i) ||| (trg B j)))), (0, .ref (ad 19)), (1, .ref (ad i)), (2, .ref (ad j))]) C dX2_areIndependent_33 (by decide) rfl ?_
      refine z_iload_n C dX2_areIndependent_34 0 rfl ?_
      refine z_aload_n C dX2_areIndependent_35 2 rfl ?_
      refine z_get (q := i) C (T := TX4) (N := 11) (ci := 4) (own := RX2) (index := 38) (v := .int (nI (2 ^ i))) hT4 hown hK (by omega) (xF_r hi) rfl 0 (by decide) (hts (.fieldLink RX2 38 "TriggerAnalyzer$Rule" "bit" "I") (by decide +kernel)) (fun _ h9 => h9) rfl dX2_areIndependent_36 ?_
      refine z_aload_n C dX2_areIndependent_39 3 rfl ?_
      refine z_get (q := j) C (T := TX4) (N := 11) (ci := 4) (own := RX2) (index := 38) (v := .int (nI (2 ^ j))) hT4 hown hK (by omega) (xF_r hj) rfl 0 (by decide) (hts (.fieldLink RX2 38 "TriggerAnalyzer$Rule" "bit" "I") (by decide +kernel)) (fun _ h9 => h9) rfl dX2_areIndependent_40 ?_
      refine z_ior C dX2_areIndependent_43 ?_
      refine z_topi (y := nI ((2 ^ i) ||| (2 ^ j))) (fa_or (2 ^ i) (2 ^ j)) ?_
      refine z_iand C dX2_areIndependent_44 ?_
      refine z_topi (y := nI (((trg B i) ||| (trg B j)) &&& ((2 ^ i) ||| (2 ^ j)))) (fa_and ((trg B i) ||| (trg B j)) ((2 ^ i) ||| (2 ^ j))) ?_
      refine z_if_eq (tgt := 50) C dX2_areIndependent_45 (by decide) (fun zc45 => ?_) (fun zc45 => ?_)
      · skip
        have zn45 := z0_t (by omega) zc45
        refine z_aload_n C dX2_areIndependent_50 2 rfl ?_
        refine z_callVi xX_ok C hml hown hts hK hX (c_X4_changedFacts l D ad cI cL cR hI u n B hR i hi) (cwV 0 hts gX2_areIndependent_X4_changedFacts rfl rfl rfl (by decide +kernel) ⟨Nat.le_of_ble_eq_true rfl, Nat.le_of_ble_eq_true rfl⟩) (by omega) (ci := 4) (xF_r hi) rfl rfl (st := []) rfl (Nat.le_of_ble_eq_true rfl) dX2_areIndependent_51 ⟨Nat.le_of_ble_eq_true rfl, Nat.le_of_ble_eq_true rfl⟩ (fun r51 u51 h51 => ?_)
        obtain ⟨zr51, zu51⟩ := h51
        subst r51
        subst u51
        refine z_aload_n C dX2_areIndependent_54 3 rfl ?_
        refine z_callVi xX_ok C hml hown hts hK hX (c_X4_conditionFacts l D ad cI cL cR hI u n B hR j hj) (cwV 0 hts gX2_areIndependent_X4_conditionFacts rfl rfl rfl (by decide +kernel) ⟨Nat.le_of_ble_eq_true rfl, Nat.le_of_ble_eq_true rfl⟩) (by omega) (ci := 4) (xF_r hj) rfl rfl (st := [.int (nI (sfm B i ||| ufm B i))]) rfl (Nat.le_of_ble_eq_true rfl) dX2_areIndependent_55 ⟨Nat.le_of_ble_eq_true rfl, Nat.le_of_ble_eq_true rfl⟩ (fun r55 u55 h55 => ?_)
        obtain ⟨zr55, zu55⟩ := h55
        subst r55
        subst u55
        refine z_iand C dX2_areIndependent_58 ?_
        refine z_topi (y := nI ((sfm B i ||| ufm B i) &&& (B j 1 ||| B j 2))) (fa_and (sfm B i ||| ufm B i) (B j 1 ||| B j 2)) ?_
        refine z_if_ne (tgt := 74) C dX2_areIndependent_59 (by decide) (fun zc59 => ?_) (fun zc59 => ?_)
        · skip
          have zn59 := z0_f zc59
          refine z_iconst (v := nI 0) C (by decide) dX2_areIndependent_74 ?_
          exact z_zret C hr hlocks rfl hQ u (⟨by rw [show com B i j = false by simp [com, zn4, zn11, zn45, zn59]]; rfl, rfl⟩) (fun _ _ => rfl) dX2_areIndependent_75
        · skip
          have zn59 := z0_t (by omega) zc59
          refine z_aload_n C dX2_areIndependent_62 3 rfl ?_
          refine z_callVi xX_ok C hml hown hts hK hX (c_X4_changedFacts l D ad cI cL cR hI u n B hR j hj) (cwV 0 hts gX2_areIndependent_X4_changedFacts rfl rfl rfl (by decide +kernel) ⟨Nat.le_of_ble_eq_true rfl, Nat.le_of_ble_eq_true rfl⟩) (by omega) (ci := 4) (xF_r hj) rfl rfl (st := []) rfl (Nat.le_of_ble_eq_true rfl) dX2_areIndependent_63 ⟨Nat.le_of_ble_eq_true rfl, Nat.le_of_ble_eq_true rfl⟩ (fun r63 u63 h63 => ?_)
          obtain ⟨zr63, zu63⟩ := h63
          subst r63
          subst u63
          refine z_aload_n C dX2_areIndependent_66 2 rfl ?_
          refine z_callVi xX_ok C hml hown hts hK hX (c_X4_conditionFacts l D ad cI cL cR hI u n B hR i hi) (cwV 0 hts gX2_areIndependent_X4_conditionFacts rfl rfl rfl (by decide +kernel) ⟨Nat.le_of_ble_eq_true rfl, Nat.le_of_ble_eq_true rfl⟩) (by omega) (ci := 4) (xF_r hi) rfl rfl (st := [.int (nI (sfm B j ||| ufm B j))]) rfl (Nat.le_of_ble_eq_true rfl) dX2_areIndependent_67 ⟨Nat.le_of_ble_eq_true rfl, Nat.le_of_ble_eq_true rfl⟩ (fun r67 u67 h67 => ?_)
          obtain ⟨zr67, zu67⟩ := h67
          subst r67
          subst u67
          refine z_iand C dX2_areIndependent_70 ?_
          refine z_topi (y := nI ((sfm B j ||| ufm B j) &&& (B i 1 ||| B i 2))) (fa_and (sfm B j ||| ufm B j) (B i 1 ||| B i 2)) ?_
          refine z_if_eq (tgt := 76) C dX2_areIndependent_71 (by decide) (fun zc71 => ?_) (fun zc71 => ?_)
          · skip
            have zn71 := z0_t (by omega) zc71
            refine z_aload_n C dX2_areIndependent_76 2 rfl ?_
            refine z_get (q := i) C (T := TX4) (N := 11) (ci := 4) (own := RX2) (index := 49) (v := .int (u.1 i 7)) hT4 hown hK (by omega) (xF_r hi) rfl 7 (by decide) (hts (.fieldLink RX2 49 "TriggerAnalyzer$Rule" "setFacts" "I") (by decide +kernel)) (fun _ h9 => h9) rfl dX2_areIndependent_77 ?_
            refine z_topi (y := nI (sfm B i)) (xR_7 hR (by omega)) ?_
            refine z_aload_n C dX2_areIndependent_80 3 rfl ?_
            refine z_get (q := j) C (T := TX4) (N := 11) (ci := 4) (own := RX2) (index := 52) (v := .int (u.1 j 8)) hT4 hown hK (by omega) (xF_r hj) rfl 8 (by decide) (hts (.fieldLink RX2 52 "TriggerAnalyzer$Rule" "unsetFacts" "I") (by decide +kernel)) (fun _ h9 => h9) rfl dX2_areIndependent_81 ?_
            refine z_topi (y := nI (ufm B j)) (xR_8 hR (by omega)) ?_
            refine z_iand C dX2_areIndependent_84 ?_
            refine z_topi (y := nI ((sfm B i) &&& (ufm B j))) (fa_and (sfm B i) (ufm B j)) ?_
            refine z_if_ne (tgt := 104) C dX2_areIndependent_85 (by decide) (fun zc85 => ?_) (fun zc85 => ?_)
            · skip
              have zn85 := z0_f zc85
              refine z_iconst (v := nI 0) C (by decide) dX2_areIndependent_104 ?_
              exact z_zret C hr hlocks rfl hQ u (⟨by rw [show com B i j = false by simp [com, zn4, zn11, zn45, zn59, zn71, zn85]]; rfl, rfl⟩) (fun _ _ => rfl) dX2_areIndependent_105
            · skip
              have zn85 := z0_t (by omega) zc85
              refine z_aload_n C dX2_areIndependent_88 2 rfl ?_
              refine z_get (q := i) C (T := TX4) (N := 11) (ci := 4) (own := RX2) (index := 52) (v := .int (u.1 i 8)) hT4 hown hK (by omega) (xF_r hi) rfl 8 (by decide) (hts (.fieldLink RX2 52 "TriggerAnalyzer$Rule" "unsetFacts" "I") (by decide +kernel)) (fun _ h9 => h9) rfl dX2_areIndependent_89 ?_
              refine z_topi (y := nI (ufm B i)) (xR_8 hR (by omega)) ?_
              refine z_aload_n C dX2_areIndependent_92 3 rfl ?_
              refine z_get (q := j) C (T := TX4) (N := 11) (ci := 4) (own := RX2) (index := 49) (v := .int (u.1 j 7)) hT4 hown hK (by omega) (xF_r hj) rfl 7 (by decide) (hts (.fieldLink RX2 49 "TriggerAnalyzer$Rule" "setFacts" "I") (by decide +kernel)) (fun _ h9 => h9) rfl dX2_areIndependent_93 ?_
              refine z_topi (y := nI (sfm B j)) (xR_7 hR (by omega)) ?_
              refine z_iand C dX2_areIndependent_96 ?_
              refine z_topi (y := nI ((ufm B i) &&& (sfm B j))) (fa_and (ufm B i) (sfm B j)) ?_
              refine z_if_ne (tgt := 104) C dX2_areIndependent_97 (by decide) (fun zc97 => ?_) (fun zc97 => ?_)
              · skip
                have zn97 := z0_f zc97
                refine z_iconst (v := nI 0) C (by decide) dX2_areIndependent_104 ?_
                exact z_zret C hr hlocks rfl hQ u (⟨by rw [show com B i j = false by simp [com, zn4, zn11, zn45, zn59, zn71, zn85, zn97]]; rfl, rfl⟩) (fun _ _ => rfl) dX2_areIndependent_105
              · skip
                have zn97 := z0_t (by omega) zc97
                refine z_iconst (v := nI 1) C (by decide) dX2_areIndependent_100 ?_
                refine z_goto (tgt := 105) C dX2_areIndependent_101 (by decide) ?_
                exact z_zret C hr hlocks rfl hQ u (⟨by rw [show com B i j = true by simp [com, zn4, zn11, zn45, zn59, zn71, zn85, zn97]]; rfl, rfl⟩) (fun _ _ => rfl) dX2_areIndependent_105
          · skip
            have zn71 := z0_f zc71
            refine z_iconst (v := nI 0) C (by decide) dX2_areIndependent_74 ?_
            exact z_zret C hr hlocks rfl hQ u (⟨by rw [show com B i j = false by simp [com, zn4, zn11, zn45, zn59, zn71]]; rfl, rfl⟩) (fun _ _ => rfl) dX2_areIndependent_75
      · skip
        have zn45 := z0_f zc45
        refine z_iconst (v := nI 0) C (by decide) dX2_areIndependent_48 ?_
        exact z_zret C hr hlocks rfl hQ u (⟨by rw [show com B i j = false by simp [com, zn4, zn11, zn45]]; rfl, rfl⟩) (fun _ _ => rfl) dX2_areIndependent_49
    · skip
      have zn11 := z0_t (by omega) zc11
      refine z_iconst (v := nI 1) C (by decide) dX2_areIndependent_14 ?_
      exact z_zret C hr hlocks rfl hQ u (⟨by rw [show com B i j = true by simp [com, zn11]]; rfl, rfl⟩) (fun _ _ => rfl) dX2_areIndependent_15

set_option maxHeartbeats 4000000 in
set_option maxRecDepth 100000 in
theorem c_X2_areInConflict (l : Launch) (D : va_G) (ad : Nat → Nat) (cI cL cR : ClassId) (hI : gI 34 ad) (u : xS) (n : Nat) (B : Nat → Nat → Nat) (hR : xR u n B) (i : Nat) (hi : i < 8) (j : Nat) (hj : j < 8) : ∀ sz, Met l yX2_areInConflict wsX2_areInConflict ({ frames := 3, cells := 0, slots := 0, locals := 67 }) (XP D ad cI cL cR u [.ref (ad 19), .int (nI i), .int (nI j)] sz) (va_Qi (fun r_ u' => r_ = (if cnf B i j = true then 1 else 0) ∧ u' = u) (XB D ad cI cL cR) (gA 34 ad sz)) 0 0 (gA 34 ad sz) := by
  intro sz
  refine z_met (cc := cX2_areInConflict) (maxL := 5) (ret := (some .boolean)) (by decide) rfl (Nat.le_of_ble_eq_true rfl) ?_
  intro pq lq sq mq aq Qq bq hmq cq C hr hml hown hts hlocks hK hX hsz hQ
  subst hsz
  have hT2 : ∀ w ∈ wsX20, w.before aq sq = true := fun w h => hts w ((by decide +kernel : ∀ w ∈ wsX20, w ∈ wsX2_areInConflict) w h)
  refine z_sub (L' := [(0, .ref (ad 19)), (1, .int (nI i)), (2, .int (nI j))]) [0, 1, 2] rfl ?_
  have hn8 : n ≤ 8 := gB_8 hR.1
  refine z_aload_n C dX2_areInConflict_0 0 rfl ?_
  refine z_get (q := 19) C (T := TX2) (N := 2) (ci := 2) (own := RX2) (index := 15) (v := .ref (ad 16)) hT2 hown hK (by decide) rfl rfl 0 (by decide) (hts (.fieldLink RX2 15 "TriggerAnalyzer$Judge" "book" "LTriggerAnalyzer$RuleBook;") (by decide +kernel)) (fun _ h9 => h9) rfl dX2_areInConflict_1 ?_
  rcases Nat.lt_or_ge i n with hin | hin
  · skip
    refine z_iload_n C dX2_areInConflict_4 1 rfl ?_
    refine z_callVq xX_ok C hml hown hts hK hX (c_X5_ruleOrNull_vh l D ad cI cL cR hI u n B hR i hin) (cwV 1 hts gX2_areInConflict_X5_ruleOrNull rfl rfl rfl (by decide +kernel) ⟨Nat.le_of_ble_eq_true rfl, Nat.le_of_ble_eq_true rfl⟩) (by decide) (ci := 5) rfl rfl rfl (st := []) rfl (Nat.le_of_ble_eq_true rfl) dX2_areInConflict_5 ⟨Nat.le_of_ble_eq_true rfl, Nat.le_of_ble_eq_true rfl⟩ (fun r5 u5 h5 => ?_)
    obtain ⟨zr5, zu5⟩ := h5
    subst r5
    subst u5
    refine z_topv (y := .ref (ad i)) rfl ?_
    refine z_astore_n (L' := [(3, .ref (ad i)), (0, .ref (ad 19)), (1, .int (nI i)), (2, .int (nI j))]) C dX2_areInConflict_8 (by decide) rfl ?_
    refine z_aload_n C dX2_areInConflict_9 1 rfl ?_
    refine z_get (q := 19) C (T := TX2) (N := 2) (ci := 2) (own := RX2) (index := 15) (v := .ref (ad 16)) hT2 hown hK (by decide) rfl rfl 0 (by decide) (hts (.fieldLink RX2 15 "TriggerAnalyzer$Judge" "book" "LTriggerAnalyzer$RuleBook;") (by decide +kernel)) (fun _ h9 => h9) rfl dX2_areInConflict_10 ?_
    rcases Nat.lt_or_ge j n with hjn | hjn
    · skip
      refine z_iload_n C dX2_areInConflict_13 3 rfl ?_
      refine z_callVq xX_ok C hml hown hts hK hX (c_X5_ruleOrNull_vh l D ad cI cL cR hI u n B hR j hjn) (cwV 1 hts gX2_areInConflict_X5_ruleOrNull rfl rfl rfl (by decide +kernel) ⟨Nat.le_of_ble_eq_true rfl, Nat.le_of_ble_eq_true rfl⟩) (by decide) (ci := 5) rfl rfl rfl (st := []) rfl (Nat.le_of_ble_eq_true rfl) dX2_areInConflict_14 ⟨Nat.le_of_ble_eq_true rfl, Nat.le_of_ble_eq_true rfl⟩ (fun r14 u14 h14 => ?_)
      obtain ⟨zr14, zu14⟩ := h14
      subst r14
      subst u14
      refine z_topv (y := .ref (ad j)) rfl ?_
      refine z_astore (L' := [(4, .ref (ad j)), (3, .ref (ad i)), (0, .ref (ad 19)), (1, .int (nI i)), (2, .int (nI j))]) C dX2_areInConflict_17 (by decide) rfl ?_
      refine z_aload_n C dX2_areInConflict_19 1 rfl ?_
      refine z_ifnull C dX2_areInConflict_20 ?_
      refine z_aload C dX2_areInConflict_23 0 rfl ?_
      refine z_ifnull C dX2_areInConflict_25 ?_
      refine z_aload_n C dX2_areInConflict_28 1 rfl ?_
      refine z_aload C dX2_areInConflict_29 0 rfl ?_
      refine z_callVi xX_ok C hml hown hts hK hX (c_X4_isOver l D ad cI cL cR hI u n B hR i hi j hj) (cwV 1 hts gX2_areInConflict_X4_isOver rfl rfl rfl (by decide +kernel) ⟨Nat.le_of_ble_eq_true rfl, Nat.le_of_ble_eq_true rfl⟩) (by omega) (ci := 4) (xF_r hi) rfl rfl (st := []) rfl (Nat.le_of_ble_eq_true rfl) dX2_areInConflict_31 ⟨Nat.le_of_ble_eq_true rfl, Nat.le_of_ble_eq_true rfl⟩ (fun r31 u31 h31 => ?_)
      obtain ⟨zr31, zu31⟩ := h31
      subst r31
      subst u31
      refine z_if_ne (tgt := 46) C dX2_areInConflict_34 (by decide) (fun zc34 => ?_) (fun zc34 => ?_)
      · skip
        have q34 := z1t zc34
        have hof : cnf B i j = false := by unfold cnf; rw [q34]; rfl
        refine z_iconst (v := nI 0) C (by decide) dX2_areInConflict_46 ?_
        exact z_zret C hr hlocks rfl hQ u (⟨by rw [hof]; rfl, rfl⟩) (fun _ _ => rfl) dX2_areInConflict_47
      · skip
        have q34 : (B i 5).testBit j = false := Bool.eq_false_iff.mpr (z1f zc34)
        refine z_aload C dX2_areInConflict_37 0 rfl ?_
        refine z_aload_n C dX2_areInConflict_39 1 rfl ?_
        refine z_callVi xX_ok C hml hown hts hK hX (c_X4_isOver l D ad cI cL cR hI u n B hR j hj i hi) (cwV 1 hts gX2_areInConflict_X4_isOver rfl rfl rfl (by decide +kernel) ⟨Nat.le_of_ble_eq_true rfl, Nat.le_of_ble_eq_true rfl⟩) (by omega) (ci := 4) (xF_r hj) rfl rfl (st := []) rfl (Nat.le_of_ble_eq_true rfl) dX2_areInConflict_40 ⟨Nat.le_of_ble_eq_true rfl, Nat.le_of_ble_eq_true rfl⟩ (fun r40 u40 h40 => ?_)
        obtain ⟨zr40, zu40⟩ := h40
        subst r40
        subst u40
        refine z_if_eq (tgt := 48) C dX2_areInConflict_43 (by decide) (fun zc43 => ?_) (fun zc43 => ?_)
        · skip
          have q43 : (B j 5).testBit i = false := Bool.eq_false_iff.mpr (z1f zc43)
          refine z_aload_n C dX2_areInConflict_48 2 rfl ?_
          refine z_aload_n C dX2_areInConflict_49 1 rfl ?_
          refine z_aload C dX2_areInConflict_50 0 rfl ?_
          refine z_callVi xX_ok C hml hown hts hK hX (c_X2_areIndependent l D ad cI cL cR hI u n B hR i hi j hj) (cwV 2 hts gX2_areInConflict_X2_areIndependent rfl rfl rfl (by decide +kernel) ⟨Nat.le_of_ble_eq_true rfl, Nat.le_of_ble_eq_true rfl⟩) (by decide) (ci := 2) rfl rfl rfl (st := []) rfl (Nat.le_of_ble_eq_true rfl) dX2_areInConflict_52 ⟨Nat.le_of_ble_eq_true rfl, Nat.le_of_ble_eq_true rfl⟩ (fun r52 u52 h52 => ?_)
          obtain ⟨zr52, zu52⟩ := h52
          subst r52
          subst u52
          refine z_if_ne (tgt := 62) C dX2_areInConflict_55 (by decide) (fun zc55 => ?_) (fun zc55 => ?_)
          · skip
            have q55 := z1t zc55
            have hof : cnf B i j = false := by unfold cnf; rw [q34, q43, q55]; rfl
            refine z_iconst (v := nI 0) C (by decide) dX2_areInConflict_62 ?_
            exact z_zret C hr hlocks rfl hQ u (⟨by rw [hof]; rfl, rfl⟩) (fun _ _ => rfl) dX2_areInConflict_63
          · skip
            have q55 : com B i j = false := Bool.eq_false_iff.mpr (z1f zc55)
            have hof : cnf B i j = true := by unfold cnf; rw [q34, q43, q55]; rfl
            refine z_iconst (v := nI 1) C (by decide) dX2_areInConflict_58 ?_
            refine z_goto (tgt := 63) C dX2_areInConflict_59 (by decide) ?_
            exact z_zret C hr hlocks rfl hQ u (⟨by rw [hof]; rfl, rfl⟩) (fun _ _ => rfl) dX2_areInConflict_63
        · skip
          have q43 := z1t zc43
          have hof : cnf B i j = false := by unfold cnf; rw [q34, q43]; rfl
          refine z_iconst (v := nI 0) C (by decide) dX2_areInConflict_46 ?_
          exact z_zret C hr hlocks rfl hQ u (⟨by rw [hof]; rfl, rfl⟩) (fun _ _ => rfl) dX2_areInConflict_47
    · skip
      have hof := cnf_off2 (i := i) hR.1 hj hjn
      refine z_iload_n C dX2_areInConflict_13 3 rfl ?_
      refine z_callVq xX_ok C hml hown hts hK hX (c_X5_ruleOrNull_vb l D ad cI cL cR hI u n B hR j hjn (by omega)) (cwV 1 hts gX2_areInConflict_X5_ruleOrNull rfl rfl rfl (by decide +kernel) ⟨Nat.le_of_ble_eq_true rfl, Nat.le_of_ble_eq_true rfl⟩) (by decide) (ci := 5) rfl rfl rfl (st := []) rfl (Nat.le_of_ble_eq_true rfl) dX2_areInConflict_14 ⟨Nat.le_of_ble_eq_true rfl, Nat.le_of_ble_eq_true rfl⟩ (fun r14 u14 h14 => ?_)
      obtain ⟨zr14, zu14⟩ := h14
      subst r14
      subst u14
      refine z_topv (y := .null) rfl ?_
      refine z_astoreN (L' := [(4, .null), (3, .ref (ad i)), (0, .ref (ad 19)), (1, .int (nI i)), (2, .int (nI j))]) C dX2_areInConflict_17 (by decide) rfl ?_
      refine z_aload_n C dX2_areInConflict_19 1 rfl ?_
      refine z_ifnull C dX2_areInConflict_20 ?_
      refine z_aloadN C dX2_areInConflict_23 0 rfl ?_
      refine z_ifnullN (tgt := 46) C dX2_areInConflict_25 (by decide) ?_
      refine z_iconst (v := nI 0) C (by decide) dX2_areInConflict_46 ?_
      exact z_zret C hr hlocks rfl hQ u (⟨by rw [hof]; rfl, rfl⟩) (fun _ _ => rfl) dX2_areInConflict_47
  · skip
    have hof := cnf_off1 (j := j) hR.1 hi hin
    refine z_iload_n C dX2_areInConflict_4 1 rfl ?_
    refine z_callVq xX_ok C hml hown hts hK hX (c_X5_ruleOrNull_vb l D ad cI cL cR hI u n B hR i hin (by omega)) (cwV 1 hts gX2_areInConflict_X5_ruleOrNull rfl rfl rfl (by decide +kernel) ⟨Nat.le_of_ble_eq_true rfl, Nat.le_of_ble_eq_true rfl⟩) (by decide) (ci := 5) rfl rfl rfl (st := []) rfl (Nat.le_of_ble_eq_true rfl) dX2_areInConflict_5 ⟨Nat.le_of_ble_eq_true rfl, Nat.le_of_ble_eq_true rfl⟩ (fun r5 u5 h5 => ?_)
    obtain ⟨zr5, zu5⟩ := h5
    subst r5
    subst u5
    refine z_topv (y := .null) rfl ?_
    refine z_astore_nN (L' := [(3, .null), (0, .ref (ad 19)), (1, .int (nI i)), (2, .int (nI j))]) C dX2_areInConflict_8 (by decide) rfl ?_
    refine z_aload_n C dX2_areInConflict_9 1 rfl ?_
    refine z_get (q := 19) C (T := TX2) (N := 2) (ci := 2) (own := RX2) (index := 15) (v := .ref (ad 16)) hT2 hown hK (by decide) rfl rfl 0 (by decide) (hts (.fieldLink RX2 15 "TriggerAnalyzer$Judge" "book" "LTriggerAnalyzer$RuleBook;") (by decide +kernel)) (fun _ h9 => h9) rfl dX2_areInConflict_10 ?_
    rcases Nat.lt_or_ge j n with hjn | hjn
    · skip
      refine z_iload_n C dX2_areInConflict_13 3 rfl ?_
      refine z_callVq xX_ok C hml hown hts hK hX (c_X5_ruleOrNull_vh l D ad cI cL cR hI u n B hR j hjn) (cwV 1 hts gX2_areInConflict_X5_ruleOrNull rfl rfl rfl (by decide +kernel) ⟨Nat.le_of_ble_eq_true rfl, Nat.le_of_ble_eq_true rfl⟩) (by decide) (ci := 5) rfl rfl rfl (st := []) rfl (Nat.le_of_ble_eq_true rfl) dX2_areInConflict_14 ⟨Nat.le_of_ble_eq_true rfl, Nat.le_of_ble_eq_true rfl⟩ (fun r14 u14 h14 => ?_)
      obtain ⟨zr14, zu14⟩ := h14
      subst r14
      subst u14
      refine z_topv (y := .ref (ad j)) rfl ?_
      refine z_astore (L' := [(4, .ref (ad j)), (3, .null), (0, .ref (ad 19)), (1, .int (nI i)), (2, .int (nI j))]) C dX2_areInConflict_17 (by decide) rfl ?_
      refine z_aload_nN C dX2_areInConflict_19 1 rfl ?_
      refine z_ifnullN (tgt := 46) C dX2_areInConflict_20 (by decide) ?_
      refine z_iconst (v := nI 0) C (by decide) dX2_areInConflict_46 ?_
      exact z_zret C hr hlocks rfl hQ u (⟨by rw [hof]; rfl, rfl⟩) (fun _ _ => rfl) dX2_areInConflict_47
    · skip
      have hof := cnf_off2 (i := i) hR.1 hj hjn
      refine z_iload_n C dX2_areInConflict_13 3 rfl ?_
      refine z_callVq xX_ok C hml hown hts hK hX (c_X5_ruleOrNull_vb l D ad cI cL cR hI u n B hR j hjn (by omega)) (cwV 1 hts gX2_areInConflict_X5_ruleOrNull rfl rfl rfl (by decide +kernel) ⟨Nat.le_of_ble_eq_true rfl, Nat.le_of_ble_eq_true rfl⟩) (by decide) (ci := 5) rfl rfl rfl (st := []) rfl (Nat.le_of_ble_eq_true rfl) dX2_areInConflict_14 ⟨Nat.le_of_ble_eq_true rfl, Nat.le_of_ble_eq_true rfl⟩ (fun r14 u14 h14 => ?_)
      obtain ⟨zr14, zu14⟩ := h14
      subst r14
      subst u14
      refine z_topv (y := .null) rfl ?_
      refine z_astoreN (L' := [(4, .null), (3, .null), (0, .ref (ad 19)), (1, .int (nI i)), (2, .int (nI j))]) C dX2_areInConflict_17 (by decide) rfl ?_
      refine z_aload_nN C dX2_areInConflict_19 1 rfl ?_
      refine z_ifnullN (tgt := 46) C dX2_areInConflict_20 (by decide) ?_
      refine z_iconst (v := nI 0) C (by decide) dX2_areInConflict_46 ?_
      exact z_zret C hr hlocks rfl hQ u (⟨by rw [hof]; rfl, rfl⟩) (fun _ _ => rfl) dX2_areInConflict_47

set_option maxHeartbeats 4000000 in
set_option maxRecDepth 100000 in
theorem c_X2_countConflicts (l : Launch) (D : va_G) (ad : Nat → Nat) (cI cL cR : ClassId) (hI : gI 34 ad) (u : xS) (n : Nat) (B : Nat → Nat → Nat) (hR : xR u n B) : ∀ sz, Met l yX2_countConflicts wsX2_countConflicts ({ frames := 4, cells := 0, slots := 0, locals := 91 }) (XP D ad cI cL cR u [.ref (ad 19)] sz) (va_Qi (fun r_ u' => r_ = nI (cou B 8) ∧ u' = u) (XB D ad cI cL cR) (gA 34 ad sz)) 0 0 (gA 34 ad sz) := by
  intro sz
  refine z_met (cc := cX2_countConflicts) (maxL := 4) (ret := (some .int)) (by decide) rfl (Nat.le_of_ble_eq_true rfl) ?_
  intro pq lq sq mq aq Qq bq hmq cq C hr hml hown hts hlocks hK hX hsz hQ
  subst hsz
  refine z_sub (L' := [(0, .ref (ad 19))]) [0] rfl ?_
  refine z_iconst (v := nI 0) C (by decide) dX2_countConflicts_0 ?_
  refine z_istore_n (L' := [(1, .int (nI 0)), (0, .ref (ad 19))]) C dX2_countConflicts_1 (by decide) rfl ?_
  refine z_iconst (v := nI 0) C (by decide) dX2_countConflicts_2 ?_
  refine z_istore_n (L' := [(2, .int (nI 0)), (1, .int (nI 0)), (0, .ref (ad 19))]) C dX2_countConflicts_3 (by decide) rfl ?_
  have loop4 : ∀ (d4 : Nat) (a Y : Nat), 8 - a < d4 → (a ≤ 8) → (Y = cou B a) → ZZ pq l lq { frames := 4, cells := 0, slots := 0, locals := 91 } sq mq aq bq hmq cq D vwCl 34 ad 4 0 0 Qq (xF ad cI cL cR u) [(0, .ref (ad 19)), (1, .int (nI Y)), (2, .int (nI a))] 4 [] := by
    intro d4
    induction d4 with
    | zero => intro a Y hz; exact absurd hz (Nat.not_lt_zero _)
    | succ d4 ih4 =>
      intro a Y hz4 ha8 hY
      have hcl := cou_le B a
      refine z_iload_n C dX2_countConflicts_4 2 rfl ?_
      refine z_bipush (v := nI 8) C (by decide) dX2_countConflicts_5 ?_
      refine z_icmp_ge (tgt := 44) C dX2_countConflicts_7 (by decide) (fun zc7 => ?_) (fun zc7 => ?_)
      · skip
        have zn7 := zge_t (a := a) (b := 8) (by omega) (by omega) zc7
        refine z_iload_n C dX2_countConflicts_44 1 rfl ?_
        exact z_iret C hr hlocks hQ u (⟨by rw [hY, show a = 8 by omega], rfl⟩) (fun _ _ => rfl) dX2_countConflicts_45
      · skip
        have zn7 := zge_f (a := a) (b := 8) (by omega) (by omega) zc7
        refine z_iload_n C dX2_countConflicts_10 2 rfl ?_
        refine z_iconst (v := nI 1) C (by decide) dX2_countConflicts_11 ?_
        refine z_iadd C dX2_countConflicts_12 ?_
        refine z_topi (y := nI (a + 1)) (nI_add a 1) ?_
        refine z_istore_n (L' := [(3, .int (nI (a + 1))), (0, .ref (ad 19)), (1, .int (nI Y)), (2, .int (nI a))]) C dX2_countConflicts_13 (by decide) rfl ?_
        have loop14 : ∀ (d14 : Nat) (b X : Nat), 8 - b < d14 → (b ≤ 8) → (a < b) → (X = cou B a + cin B a b) → ZZ pq l lq { frames := 4, cells := 0, slots := 0, locals := 91 } sq mq aq bq hmq cq D vwCl 34 ad 4 0 0 Qq (xF ad cI cL cR u) [(0, .ref (ad 19)), (1, .int (nI X)), (2, .int (nI a)), (3, .int (nI b))] 14 [] := by
          intro d14
          induction d14 with
          | zero => intro b X hz; exact absurd hz (Nat.not_lt_zero _)
          | succ d14 ih14 =>
            intro b X hz14 hb8 hab hXq
            have hcl2 := cin_le B a b
            refine z_iload_n C dX2_countConflicts_14 3 rfl ?_
            refine z_bipush (v := nI 8) C (by decide) dX2_countConflicts_15 ?_
            refine z_icmp_ge (tgt := 38) C dX2_countConflicts_17 (by decide) (fun zc17 => ?_) (fun zc17 => ?_)
            · skip
              have zn17 := zge_t (a := b) (b := 8) (by omega) (by omega) zc17
              refine z_iinc (L' := [(2, .int (nI (a + 1))), (0, .ref (ad 19)), (1, .int (nI X)), (3, .int (nI b))]) C dX2_countConflicts_38 2 rfl (nI_1 a) (by decide) rfl ?_
              refine z_goto (tgt := 4) C dX2_countConflicts_41 (by decide) ?_
              refine z_sub (L' := [(0, .ref (ad 19)), (1, .int (nI X)), (2, .int (nI (a + 1)))]) [1, 2, 0] rfl ?_
              exact ih4 (a + 1) X (by omega) (by omega) (by rw [hXq, show b = 8 by omega]; rfl)
            · skip
              have zn17 := zge_f (a := b) (b := 8) (by omega) (by omega) zc17
              refine z_aload_n C dX2_countConflicts_20 0 rfl ?_
              refine z_iload_n C dX2_countConflicts_21 2 rfl ?_
              refine z_iload_n C dX2_countConflicts_22 3 rfl ?_
              refine z_callVi xX_ok C hml hown hts hK hX (c_X2_areInConflict l D ad cI cL cR hI u n B hR a zn7 b zn17) (cwV 2 hts gX2_countConflicts_X2_areInConflict rfl rfl rfl (by decide +kernel) ⟨Nat.le_of_ble_eq_true rfl, Nat.le_of_ble_eq_true rfl⟩) (by decide) (ci := 2) rfl rfl rfl (st := []) rfl (Nat.le_of_ble_eq_true rfl) dX2_countConflicts_23 ⟨Nat.le_of_ble_eq_true rfl, Nat.le_of_ble_eq_true rfl⟩ (fun r23 u23 h23 => ?_)
              obtain ⟨zr23, zu23⟩ := h23
              subst r23
              subst u23
              refine z_if_eq (tgt := 32) C dX2_countConflicts_26 (by decide) (fun zc26 => ?_) (fun zc26 => ?_)
              · skip
                have q26 := z1f zc26
                refine z_iinc (L' := [(3, .int (nI (b + 1))), (0, .ref (ad 19)), (1, .int (nI X)), (2, .int (nI a))]) C dX2_countConflicts_32 3 rfl (nI_1 b) (by decide) rfl ?_
                refine z_goto (tgt := 14) C dX2_countConflicts_35 (by decide) ?_
                refine z_sub (L' := [(0, .ref (ad 19)), (1, .int (nI X)), (2, .int (nI a)), (3, .int (nI (b + 1)))]) [1, 2, 3, 0] rfl ?_
                exact ih14 (b + 1) X (by omega) (by omega) (by omega) (by rw [hXq, cin_s hab, if_neg q26]; rfl)
              · skip
                have q26 := z1t zc26
                refine z_iinc (L' := [(1, .int (nI (X + 1))), (0, .ref (ad 19)), (2, .int (nI a)), (3, .int (nI b))]) C dX2_countConflicts_29 1 rfl (nI_1 X) (by decide) rfl ?_
                refine z_iinc (L' := [(3, .int (nI (b + 1))), (1, .int (nI (X + 1))), (0, .ref (ad 19)), (2, .int (nI a))]) C dX2_countConflicts_32 3 rfl (nI_1 b) (by decide) rfl ?_
                refine z_goto (tgt := 14) C dX2_countConflicts_35 (by decide) ?_
                refine z_sub (L' := [(0, .ref (ad 19)), (1, .int (nI (X + 1))), (2, .int (nI a)), (3, .int (nI (b + 1)))]) [2, 1, 3, 0] rfl ?_
                exact ih14 (b + 1) (X + 1) (by omega) (by omega) (by omega) (by rw [hXq, cin_s hab, if_pos q26]; omega)
        refine z_sub (L' := [(0, .ref (ad 19)), (1, .int (nI Y)), (2, .int (nI a)), (3, .int (nI (a + 1)))]) [1, 2, 3, 0] rfl ?_
        exact loop14 9 (a + 1) Y (by omega) (by omega) (by omega) (by rw [cin_0, hY]; rfl)
  refine z_sub (L' := [(0, .ref (ad 19)), (1, .int (nI 0)), (2, .int (nI 0))]) [2, 1, 0] rfl ?_
  exact loop4 9 0 0 (by omega) (by omega) rfl

