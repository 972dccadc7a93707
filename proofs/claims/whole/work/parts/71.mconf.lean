set_option maxHeartbeats 4000000 in
set_option maxRecDepth 100000 in
theorem c_X7_disturbs (l : Launch) (D : va_G) (ad : Nat → Nat) (cI cL cB : ClassId) (hI : gI 12 ad) (u : xS) (n : Nat) (B : Nat → Nat → Nat) (hR : mR u n B) (hB : gB n B) (a : Nat) (ha : a < n) (b : Nat) (hb : b < n) : ∀ sz, Met l yX7_disturbs wsX7_disturbs ({ frames := 1, cells := 0, slots := 0, locals := 21 }) (MP D ad cI cL cB u [.ref (ad 0), .int (nI a), .int (nI b)] sz) (va_Qi (fun r_ u' => r_ = nI (plb (dsp B a b) (B a 4)) ∧ u' = u) (MB D ad cI cL cB) (gA 12 ad sz)) 0 0 (gA 12 ad sz) := by
  intro sz
  refine z_met (cc := cX7_disturbs) (maxL := 7) (ret := (some .boolean)) (by decide) rfl (Nat.le_of_ble_eq_true rfl) ?_
  intro pq lq sq mq aq Qq bq hmq cq C hr hml hown hts hlocks hK hX hsz hQ
  subst hsz
  have hT7 : ∀ w ∈ wsX70, w.before aq sq = true := fun w h => hts w ((by decide +kernel : ∀ w ∈ wsX70, w ∈ wsX7_disturbs) w h)
  refine z_sub (L' := [(0, .ref (ad 0)), (1, .int (nI a)), (2, .int (nI b))]) [0, 1, 2] rfl ?_
  have hn8 : n ≤ 8 := hR.1
  have ga4 : B a 4 ≤ 4 := gB_4 hB (by omega)
  have gb4 : B b 4 ≤ 4 := gB_4 hB (by omega)
  have gb1 : B b 1 < 64 := gB_1 hB (by omega)
  have gb2 : B b 2 < 64 := gB_2 hB (by omega)
  have gbo : B b 1 ||| B b 2 < 64 := Nat.or_lt_two_pow (n := 6) gb1 gb2
  refine z_iconst (v := nI 0) C (by decide) dX7_disturbs_0 ?_
  refine z_istore_n (L' := [(3, .int (nI 0)), (0, .ref (ad 0)), (1, .int (nI a)), (2, .int (nI b))]) C dX7_disturbs_1 (by decide) rfl ?_
  refine z_iconst (v := nI 0) C (by decide) dX7_disturbs_2 ?_
  refine z_istore (L' := [(4, .int (nI 0)), (3, .int (nI 0)), (0, .ref (ad 0)), (1, .int (nI a)), (2, .int (nI b))]) C dX7_disturbs_3 (by decide) rfl ?_
  have loop5 : ∀ (d5 : Nat) (k d : Nat), B a 4 - k < d5 → (k ≤ B a 4) → (d = plb (dsp B a b) k) → ZZ pq l lq { frames := 1, cells := 0, slots := 0, locals := 21 } sq mq aq bq hmq cq D vwCl 12 ad 7 0 0 Qq (mF ad cI cL cB u) [(0, .ref (ad 0)), (1, .int (nI a)), (2, .int (nI b)), (3, .int (nI d)), (4, .int (nI k))] 5 [] := by
    intro d5
    induction d5 with
    | zero => intro k d hz; exact absurd hz (Nat.not_lt_zero _)
    | succ d5 ih5 =>
      intro k d hz5 hk hd
      have hd1 : d ≤ 1 := by rw [hd]; exact plb_le _ _
      refine z_iload C dX7_disturbs_5 4 rfl ?_
      refine z_aload_n C dX7_disturbs_7 0 rfl ?_
      refine z_get (q := 0) C (T := TX7) (N := 18) (ci := 7) (own := RX7) (index := 19) (v := .ref (ad 4)) hT7 hown hK (by decide) rfl rfl 5 (by decide) (hts (.fieldLink RX7 19 "TriggerAnalyzerModel" "many" "[I") (by decide +kernel)) (fun _ h9 => h9) rfl dX7_disturbs_8 ?_
      refine z_iload_n C dX7_disturbs_11 1 rfl ?_
      refine z_iald (q := 4) (len := 8) (k := a) C hK (by decide) rfl 0 rfl (rfl) (by omega) (by decide) dX7_disturbs_12 ?_
      refine z_topi (y := nI (B a 4)) (mR_4 hR (by omega)) ?_
      refine z_icmp_ge (tgt := 116) C dX7_disturbs_13 (by decide) (fun zc13 => ?_) (fun zc13 => ?_)
      · skip
        have zn13 := zge_t (a := k) (b := B a 4) (by omega) (by omega) zc13
        refine z_iload_n C dX7_disturbs_116 3 rfl ?_
        exact z_zret C hr hlocks (zn_bool hd1) hQ u (⟨by rw [hd, show k = B a 4 by omega], rfl⟩) (fun _ _ => rfl) dX7_disturbs_117
      · skip
        have zn13 := zge_f (a := k) (b := B a 4) (by omega) (by omega) zc13
        have ha6 : B a (6 + k) < 12 := gB_6 hB (by omega) (by omega)
        have hx1 : B a (6 + k) ^^^ 1 < 12 := (xor1 _ ha6).1
        refine z_aload_n C dX7_disturbs_16 0 rfl ?_
        refine z_get (q := 0) C (T := TX7) (N := 18) (ci := 7) (own := RX7) (index := 22) (v := .ref (ad 5)) hT7 hown hK (by decide) rfl rfl 6 (by decide) (hts (.fieldLink RX7 22 "TriggerAnalyzerModel" "actions" "[I") (by decide +kernel)) (fun _ h9 => h9) rfl dX7_disturbs_17 ?_
        refine z_iconst (v := nI 4) C (by decide) dX7_disturbs_20 ?_
        refine z_iload_n C dX7_disturbs_21 1 rfl ?_
        refine z_imul C dX7_disturbs_22 ?_
        refine z_topi (y := nI (4 * a)) (pk_mul 4 a) ?_
        refine z_iload C dX7_disturbs_23 4 rfl ?_
        refine z_iadd C dX7_disturbs_25 ?_
        refine z_topi (y := nI ((4 * a) + k)) (nI_add (4 * a) k) ?_
        refine z_iald (q := 5) (len := 32) (k := (4 * a) + k) C hK (by decide) rfl 0 rfl (rfl) (by omega) (by decide) dX7_disturbs_26 ?_
        refine z_topi (y := nI (B a (6 + k))) (mR_a hR ha zn13) ?_
        refine z_istore (L' := [(5, .int (nI (B a (6 + k)))), (0, .ref (ad 0)), (1, .int (nI a)), (2, .int (nI b)), (3, .int (nI d)), (4, .int (nI k))]) C dX7_disturbs_27 (by decide) rfl ?_
        have join62 : ∀ (d2 : Nat), (d2 = dsq B a b k 0) → ZZ pq l lq { frames := 1, cells := 0, slots := 0, locals := 21 } sq mq aq bq hmq cq D vwCl 12 ad 7 0 0 Qq (mF ad cI cL cB u) [(0, .ref (ad 0)), (1, .int (nI a)), (2, .int (nI b)), (3, .int (nI d2)), (4, .int (nI k)), (5, .int (nI (B a (6 + k))))] 62 [] := by
          intro d2 hd2
          refine z_iconst (v := nI 0) C (by decide) dX7_disturbs_62 ?_
          refine z_istore (L' := [(6, .int (nI 0)), (0, .ref (ad 0)), (1, .int (nI a)), (2, .int (nI b)), (3, .int (nI d2)), (4, .int (nI k)), (5, .int (nI (B a (6 + k))))]) C dX7_disturbs_63 (by decide) rfl ?_
          have loop65 : ∀ (d65 : Nat) (q e : Nat), B b 4 - q < d65 → (q ≤ B b 4) → (e = dsq B a b k q) → ZZ pq l lq { frames := 1, cells := 0, slots := 0, locals := 21 } sq mq aq bq hmq cq D vwCl 12 ad 7 0 0 Qq (mF ad cI cL cB u) [(0, .ref (ad 0)), (1, .int (nI a)), (2, .int (nI b)), (3, .int (nI e)), (4, .int (nI k)), (5, .int (nI (B a (6 + k)))), (6, .int (nI q))] 65 [] := by
            intro d65
            induction d65 with
            | zero => intro q e hz; exact absurd hz (Nat.not_lt_zero _)
            | succ d65 ih65 =>
              intro q e hz65 hq9 he
              have he1 : e ≤ 1 := by rw [he]; exact dsq_le _ _ _ _ _
              refine z_iload C dX7_disturbs_65 6 rfl ?_
              refine z_aload_n C dX7_disturbs_67 0 rfl ?_
              refine z_get (q := 0) C (T := TX7) (N := 18) (ci := 7) (own := RX7) (index := 19) (v := .ref (ad 4)) hT7 hown hK (by decide) rfl rfl 5 (by decide) (hts (.fieldLink RX7 19 "TriggerAnalyzerModel" "many" "[I") (by decide +kernel)) (fun _ h9 => h9) rfl dX7_disturbs_68 ?_
              refine z_iload_n C dX7_disturbs_71 2 rfl ?_
              refine z_iald (q := 4) (len := 8) (k := b) C hK (by decide) rfl 0 rfl (rfl) (by omega) (by decide) dX7_disturbs_72 ?_
              refine z_topi (y := nI (B b 4)) (mR_4 hR (by omega)) ?_
              refine z_icmp_ge (tgt := 110) C dX7_disturbs_73 (by decide) (fun zc73 => ?_) (fun zc73 => ?_)
              · skip
                have zn73 := zge_t (a := q) (b := B b 4) (by omega) (by omega) zc73
                refine z_iinc (L' := [(4, .int (nI (k + 1))), (0, .ref (ad 0)), (1, .int (nI a)), (2, .int (nI b)), (3, .int (nI e)), (5, .int (nI (B a (6 + k)))), (6, .int (nI q))]) C dX7_disturbs_110 4 rfl (nI_1 k) (by decide) rfl ?_
                refine z_goto (tgt := 5) C dX7_disturbs_113 (by decide) ?_
                refine z_sub (L' := [(0, .ref (ad 0)), (1, .int (nI a)), (2, .int (nI b)), (3, .int (nI e)), (4, .int (nI (k + 1)))]) [1, 2, 3, 4, 0] rfl ?_
                exact ih5 (k + 1) e (by omega) (by omega) (by rw [he, show q = B b 4 by omega]; exact dsq_end B a b k)
              · skip
                have zn73 := zge_f (a := q) (b := B b 4) (by omega) (by omega) zc73
                have hb6 : B b (6 + q) < 12 := gB_6 hB (by omega) (by omega)
                refine z_iload_n C dX7_disturbs_76 3 rfl ?_
                refine z_if_ne (tgt := 98) C dX7_disturbs_77 (by decide) (fun zc77 => ?_) (fun zc77 => ?_)
                · skip
                  have zn77 := z0_f zc77
                  refine z_iconst (v := nI 1) C (by decide) dX7_disturbs_98 ?_
                  refine z_goto (tgt := 103) C dX7_disturbs_99 (by decide) ?_
                  refine z_istore_n (L' := [(3, .int (nI 1)), (0, .ref (ad 0)), (1, .int (nI a)), (2, .int (nI b)), (4, .int (nI k)), (5, .int (nI (B a (6 + k)))), (6, .int (nI q))]) C dX7_disturbs_103 (by decide) rfl ?_
                  refine z_iinc (L' := [(6, .int (nI (q + 1))), (3, .int (nI 1)), (0, .ref (ad 0)), (1, .int (nI a)), (2, .int (nI b)), (4, .int (nI k)), (5, .int (nI (B a (6 + k))))]) C dX7_disturbs_104 6 rfl (nI_1 q) (by decide) rfl ?_
                  refine z_goto (tgt := 65) C dX7_disturbs_107 (by decide) ?_
                  refine z_sub (L' := [(0, .ref (ad 0)), (1, .int (nI a)), (2, .int (nI b)), (3, .int (nI 1)), (4, .int (nI k)), (5, .int (nI (B a (6 + k)))), (6, .int (nI (q + 1)))]) [2, 3, 4, 1, 5, 6, 0] rfl ?_
                  exact ih65 (q + 1) 1 (by omega) (by omega) (dsq_s (by rw [← he]; exact zn77))
                · skip
                  have zn77 := z0_t (by omega) zc77
                  refine z_aload_n C dX7_disturbs_80 0 rfl ?_
                  refine z_get (q := 0) C (T := TX7) (N := 18) (ci := 7) (own := RX7) (index := 22) (v := .ref (ad 5)) hT7 hown hK (by decide) rfl rfl 6 (by decide) (hts (.fieldLink RX7 22 "TriggerAnalyzerModel" "actions" "[I") (by decide +kernel)) (fun _ h9 => h9) rfl dX7_disturbs_81 ?_
                  refine z_iconst (v := nI 4) C (by decide) dX7_disturbs_84 ?_
                  refine z_iload_n C dX7_disturbs_85 2 rfl ?_
                  refine z_imul C dX7_disturbs_86 ?_
                  refine z_topi (y := nI (4 * b)) (pk_mul 4 b) ?_
                  refine z_iload C dX7_disturbs_87 6 rfl ?_
                  refine z_iadd C dX7_disturbs_89 ?_
                  refine z_topi (y := nI ((4 * b) + q)) (nI_add (4 * b) q) ?_
                  refine z_iald (q := 5) (len := 32) (k := (4 * b) + q) C hK (by decide) rfl 0 rfl (rfl) (by omega) (by decide) dX7_disturbs_90 ?_
                  refine z_topi (y := nI (B b (6 + q))) (mR_a hR hb zn73) ?_
                  refine z_iload C dX7_disturbs_91 5 rfl ?_
                  refine z_iconst (v := nI 1) C (by decide) dX7_disturbs_93 ?_
                  refine z_ixor C dX7_disturbs_94 ?_
                  refine z_topi (y := nI ((B a (6 + k)) ^^^ 1)) (nx_xor (B a (6 + k)) 1) ?_
                  refine z_icmp_ne (tgt := 102) C dX7_disturbs_95 (by decide) (fun zc95 => ?_) (fun zc95 => ?_)
                  · skip
                    have zn95 := zeq_f (a := B b (6 + q)) (b := (B a (6 + k)) ^^^ 1) zc95
                    refine z_iconst (v := nI 0) C (by decide) dX7_disturbs_102 ?_
                    refine z_istore_n (L' := [(3, .int (nI 0)), (0, .ref (ad 0)), (1, .int (nI a)), (2, .int (nI b)), (4, .int (nI k)), (5, .int (nI (B a (6 + k)))), (6, .int (nI q))]) C dX7_disturbs_103 (by decide) rfl ?_
                    refine z_iinc (L' := [(6, .int (nI (q + 1))), (3, .int (nI 0)), (0, .ref (ad 0)), (1, .int (nI a)), (2, .int (nI b)), (4, .int (nI k)), (5, .int (nI (B a (6 + k))))]) C dX7_disturbs_104 6 rfl (nI_1 q) (by decide) rfl ?_
                    refine z_goto (tgt := 65) C dX7_disturbs_107 (by decide) ?_
                    refine z_sub (L' := [(0, .ref (ad 0)), (1, .int (nI a)), (2, .int (nI b)), (3, .int (nI 0)), (4, .int (nI k)), (5, .int (nI (B a (6 + k)))), (6, .int (nI (q + 1)))]) [2, 3, 4, 1, 5, 6, 0] rfl ?_
                    exact ih65 (q + 1) 0 (by omega) (by omega) (dsq_n (by rw [← he]; exact zn77) zn95)
                  · skip
                    have zn95 := zeq_t (a := B b (6 + q)) (b := (B a (6 + k)) ^^^ 1) (by omega) (by omega) zc95
                    refine z_iconst (v := nI 1) C (by decide) dX7_disturbs_98 ?_
                    refine z_goto (tgt := 103) C dX7_disturbs_99 (by decide) ?_
                    refine z_istore_n (L' := [(3, .int (nI 1)), (0, .ref (ad 0)), (1, .int (nI a)), (2, .int (nI b)), (4, .int (nI k)), (5, .int (nI (B a (6 + k)))), (6, .int (nI q))]) C dX7_disturbs_103 (by decide) rfl ?_
                    refine z_iinc (L' := [(6, .int (nI (q + 1))), (3, .int (nI 1)), (0, .ref (ad 0)), (1, .int (nI a)), (2, .int (nI b)), (4, .int (nI k)), (5, .int (nI (B a (6 + k))))]) C dX7_disturbs_104 6 rfl (nI_1 q) (by decide) rfl ?_
                    refine z_goto (tgt := 65) C dX7_disturbs_107 (by decide) ?_
                    refine z_sub (L' := [(0, .ref (ad 0)), (1, .int (nI a)), (2, .int (nI b)), (3, .int (nI 1)), (4, .int (nI k)), (5, .int (nI (B a (6 + k)))), (6, .int (nI (q + 1)))]) [2, 3, 4, 1, 5, 6, 0] rfl ?_
                    exact ih65 (q + 1) 1 (by omega) (by omega) (dsq_y zn95)
          refine z_sub (L' := [(0, .ref (ad 0)), (1, .int (nI a)), (2, .int (nI b)), (3, .int (nI d2)), (4, .int (nI k)), (5, .int (nI (B a (6 + k)))), (6, .int (nI 0))]) [1, 2, 3, 4, 5, 6, 0] rfl ?_
          exact loop65 (B b 4 + 1) 0 d2 (by omega) (by omega) hd2
        refine z_iload_n C dX7_disturbs_29 4 rfl ?_
        refine z_if_ne (tgt := 56) C dX7_disturbs_30 (by decide) (fun zc30 => ?_) (fun zc30 => ?_)
        · skip
          have zn30 := z0_f zc30
          refine z_iconst (v := nI 1) C (by decide) dX7_disturbs_56 ?_
          refine z_goto (tgt := 61) C dX7_disturbs_57 (by decide) ?_
          refine z_istore_n (L' := [(3, .int (nI 1)), (5, .int (nI (B a (6 + k)))), (0, .ref (ad 0)), (1, .int (nI a)), (2, .int (nI b)), (4, .int (nI k))]) C dX7_disturbs_61 (by decide) rfl ?_
          refine z_sub (L' := [(0, .ref (ad 0)), (1, .int (nI a)), (2, .int (nI b)), (3, .int (nI 1)), (4, .int (nI k)), (5, .int (nI (B a (6 + k))))]) [2, 3, 4, 0, 5, 1] rfl ?_
          exact join62 1 (dsq_1 0 (Or.inl (by rw [← hd]; exact zn30)))
        · skip
          have zn30 := z0_t (by omega) zc30
          refine z_aload_n C dX7_disturbs_33 1 rfl ?_
          refine z_get (q := 0) C (T := TX7) (N := 18) (ci := 7) (own := RX7) (index := 13) (v := .ref (ad 2)) hT7 hown hK (by decide) rfl rfl 3 (by decide) (hts (.fieldLink RX7 13 "TriggerAnalyzerModel" "musts" "[I") (by decide +kernel)) (fun _ h9 => h9) rfl dX7_disturbs_34 ?_
          refine z_iload_n C dX7_disturbs_37 3 rfl ?_
          refine z_iald (q := 2) (len := 8) (k := b) C hK (by decide) rfl 0 rfl (rfl) (by omega) (by decide) dX7_disturbs_38 ?_
          refine z_topi (y := nI (B b 1)) (mR_1 hR (by omega)) ?_
          refine z_aload_n C dX7_disturbs_39 1 rfl ?_
          refine z_get (q := 0) C (T := TX7) (N := 18) (ci := 7) (own := RX7) (index := 16) (v := .ref (ad 3)) hT7 hown hK (by decide) rfl rfl 4 (by decide) (hts (.fieldLink RX7 16 "TriggerAnalyzerModel" "mustNots" "[I") (by decide +kernel)) (fun _ h9 => h9) rfl dX7_disturbs_40 ?_
          refine z_iload_n C dX7_disturbs_43 3 rfl ?_
          refine z_iald (q := 3) (len := 8) (k := b) C hK (by decide) rfl 0 rfl (rfl) (by omega) (by decide) dX7_disturbs_44 ?_
          refine z_topi (y := nI (B b 2)) (mR_2 hR (by omega)) ?_
          refine z_ior C dX7_disturbs_45 ?_
          refine z_topi (y := nI ((B b 1) ||| (B b 2))) (fa_or (B b 1) (B b 2)) ?_
          refine z_iload C dX7_disturbs_46 0 rfl ?_
          refine z_iconst (v := nI 2) C (by decide) dX7_disturbs_48 ?_
          refine z_idiv C (by decide) dX7_disturbs_49 ?_
          refine z_topi (y := nI (B a (6 + k) / 2)) (zi_dv2 ha6) ?_
          refine z_callSi mX_ok C hml hown hts hK hX (c_X7_has l D ad cI cL cB hI u (B b 1 ||| B b 2) (by omega) (B a (6 + k) / 2) (by omega)) (va_cwS 2 hts gX7_disturbs_X7_has rfl rfl rfl (by decide +kernel) ⟨Nat.le_of_ble_eq_true rfl, Nat.le_of_ble_eq_true rfl⟩) rfl (st := []) rfl (Nat.le_of_ble_eq_true rfl) dX7_disturbs_50 ⟨Nat.le_of_ble_eq_true rfl, Nat.le_of_ble_eq_true rfl⟩ (fun r50 u50 h50 => ?_)
          obtain ⟨zr50, zu50⟩ := h50
          subst r50
          subst u50
          refine z_if_eq (tgt := 60) C dX7_disturbs_53 (by decide) (fun zc53 => ?_) (fun zc53 => ?_)
          · skip
            refine z_iconst (v := nI 0) C (by decide) dX7_disturbs_60 ?_
            refine z_istore_n (L' := [(3, .int (nI 0)), (5, .int (nI (B a (6 + k)))), (0, .ref (ad 0)), (1, .int (nI a)), (2, .int (nI b)), (4, .int (nI k))]) C dX7_disturbs_61 (by decide) rfl ?_
            refine z_sub (L' := [(0, .ref (ad 0)), (1, .int (nI a)), (2, .int (nI b)), (3, .int (nI 0)), (4, .int (nI k)), (5, .int (nI (B a (6 + k))))]) [2, 3, 4, 0, 5, 1] rfl ?_
            exact join62 0 (dsq_0 (by rw [← hd]; exact zn30) (Bool.eq_false_iff.mpr (z1f zc53)))
          · skip
            refine z_iconst (v := nI 1) C (by decide) dX7_disturbs_56 ?_
            refine z_goto (tgt := 61) C dX7_disturbs_57 (by decide) ?_
            refine z_istore_n (L' := [(3, .int (nI 1)), (5, .int (nI (B a (6 + k)))), (0, .ref (ad 0)), (1, .int (nI a)), (2, .int (nI b)), (4, .int (nI k))]) C dX7_disturbs_61 (by decide) rfl ?_
            refine z_sub (L' := [(0, .ref (ad 0)), (1, .int (nI a)), (2, .int (nI b)), (3, .int (nI 1)), (4, .int (nI k)), (5, .int (nI (B a (6 + k))))]) [2, 3, 4, 0, 5, 1] rfl ?_
            exact join62 1 (dsq_1 0 (Or.inr (z1t zc53)))
  refine z_sub (L' := [(0, .ref (ad 0)), (1, .int (nI a)), (2, .int (nI b)), (3, .int (nI 0)), (4, .int (nI 0))]) [2, 3, 4, 1, 0] rfl ?_
  exact loop5 (B a 4 + 1) 0 0 (by omega) (by omega) rfl

set_option maxHeartbeats 4000000 in
set_option maxRecDepth 100000 in
theorem c_X7_doCommute (l : Launch) (D : va_G) (ad : Nat → Nat) (cI cL cB : ClassId) (hI : gI 12 ad) (u : xS) (n : Nat) (B : Nat → Nat → Nat) (hR : mR u n B) (hB : gB n B) (a : Nat) (ha : a < n) (b : Nat) (hb : b < n) : ∀ sz, Met l yX7_doCommute wsX7_doCommute ({ frames := 2, cells := 0, slots := 0, locals := 47 }) (MP D ad cI cL cB u [.ref (ad 0), .int (nI a), .int (nI b)] sz) (va_Qi (fun r_ u' => r_ = (if com B a b = true then 1 else 0) ∧ u' = u) (MB D ad cI cL cB) (gA 12 ad sz)) 0 0 (gA 12 ad sz) := by
  intro sz
  refine z_met (cc := cX7_doCommute) (maxL := 3) (ret := (some .boolean)) (by decide) rfl (Nat.le_of_ble_eq_true rfl) ?_
  intro pq lq sq mq aq Qq bq hmq cq C hr hml hown hts hlocks hK hX hsz hQ
  subst hsz
  have hT7 : ∀ w ∈ wsX70, w.before aq sq = true := fun w h => hts w ((by decide +kernel : ∀ w ∈ wsX70, w ∈ wsX7_doCommute) w h)
  refine z_sub (L' := [(0, .ref (ad 0)), (1, .int (nI a)), (2, .int (nI b))]) [0, 1, 2] rfl ?_
  have hn8 : n ≤ 8 := hR.1
  have ga3 : B a 3 ≤ 1 := gB_3 hB (by omega)
  have gb3 : B b 3 ≤ 1 := gB_3 hB (by omega)
  have htt : ((trg B a ||| trg B b) &&& (2 ^ a ||| 2 ^ b)) < 256 := and_lt (Nat.or_lt_two_pow (n := 8) (pow_lt8 (by omega)) (pow_lt8 (by omega)))
  have hp1 := plb_le (dsp B a b) (B a 4)
  have hp2 := plb_le (dsp B b a) (B b 4)
  refine z_aload_n C dX7_doCommute_0 0 rfl ?_
  refine z_get (q := 0) C (T := TX7) (N := 18) (ci := 7) (own := RX7) (index := 25) (v := .ref (ad 6)) hT7 hown hK (by decide) rfl rfl 7 (by decide) (hts (.fieldLink RX7 25 "TriggerAnalyzerModel" "areOn" "[Z") (by decide +kernel)) (fun _ h9 => h9) rfl dX7_doCommute_1 ?_
  refine z_iload_n C dX7_doCommute_4 1 rfl ?_
  refine z_za (q := 6) (len := 8) (k := a) C hK (by decide) rfl 2 rfl (rfl) (by omega) (by decide) dX7_doCommute_5 ?_
  refine z_topi (y := nI (B a 3)) (mR_3 hR (by omega)) ?_
  refine z_if_eq (tgt := 18) C dX7_doCommute_6 (by decide) (fun zc6 => ?_) (fun zc6 => ?_)
  · skip
    have zn6 := z0_t (by omega) zc6
    have hcm : com B a b = true := com_off (Or.inl zn6)
    refine z_iconst (v := nI 1) C (by decide) dX7_doCommute_18 ?_
    exact z_zret C hr hlocks rfl hQ u (⟨by rw [if_pos hcm]; rfl, rfl⟩) (fun _ _ => rfl) dX7_doCommute_19
  · skip
    have zn6 := z0_f zc6
    refine z_aload_n C dX7_doCommute_9 0 rfl ?_
    refine z_get (q := 0) C (T := TX7) (N := 18) (ci := 7) (own := RX7) (index := 25) (v := .ref (ad 6)) hT7 hown hK (by decide) rfl rfl 7 (by decide) (hts (.fieldLink RX7 25 "TriggerAnalyzerModel" "areOn" "[Z") (by decide +kernel)) (fun _ h9 => h9) rfl dX7_doCommute_10 ?_
    refine z_iload_n C dX7_doCommute_13 2 rfl ?_
    refine z_za (q := 6) (len := 8) (k := b) C hK (by decide) rfl 2 rfl (rfl) (by omega) (by decide) dX7_doCommute_14 ?_
    refine z_topi (y := nI (B b 3)) (mR_3 hR (by omega)) ?_
    refine z_if_ne (tgt := 20) C dX7_doCommute_15 (by decide) (fun zc15 => ?_) (fun zc15 => ?_)
    · skip
      have zn15 := z0_f zc15
      have hco := com_on hB (i := a) (j := b) (by omega) (by omega) zn6 zn15
      refine z_aload_n C dX7_doCommute_20 0 rfl ?_
      refine z_iload_n C dX7_doCommute_21 1 rfl ?_
      refine z_callVi mX_ok C hml hown hts hK hX (c_X7_triggers l D ad cI cL cB hI u n B hR hB a ha) (cwV 1 hts gX7_doCommute_X7_triggers rfl rfl rfl (by decide +kernel) ⟨Nat.le_of_ble_eq_true rfl, Nat.le_of_ble_eq_true rfl⟩) (by decide) (ci := 7) rfl rfl rfl (st := []) rfl (Nat.le_of_ble_eq_true rfl) dX7_doCommute_22 ⟨Nat.le_of_ble_eq_true rfl, Nat.le_of_ble_eq_true rfl⟩ (fun r22 u22 h22 => ?_)
      obtain ⟨zr22, zu22⟩ := h22
      subst r22
      subst u22
      refine z_aload_n C dX7_doCommute_25 0 rfl ?_
      refine z_iload_n C dX7_doCommute_26 2 rfl ?_
      refine z_callVi mX_ok C hml hown hts hK hX (c_X7_triggers l D ad cI cL cB hI u n B hR hB b hb) (cwV 1 hts gX7_doCommute_X7_triggers rfl rfl rfl (by decide +kernel) ⟨Nat.le_of_ble_eq_true rfl, Nat.le_of_ble_eq_true rfl⟩) (by decide) (ci := 7) rfl rfl rfl (st := [.int (nI (trg B a))]) rfl (Nat.le_of_ble_eq_true rfl) dX7_doCommute_27 ⟨Nat.le_of_ble_eq_true rfl, Nat.le_of_ble_eq_true rfl⟩ (fun r27 u27 h27 => ?_)
      obtain ⟨zr27, zu27⟩ := h27
      subst r27
      subst u27
      refine z_ior C dX7_doCommute_30 ?_
      refine z_topi (y := nI ((trg B a) ||| (trg B b))) (fa_or (trg B a) (trg B b)) ?_
      refine z_iconst (v := nI 1) C (by decide) dX7_doCommute_31 ?_
      refine z_iload_n C dX7_doCommute_32 1 rfl ?_
      refine z_ishl C dX7_doCommute_33 ?_
      refine z_topi (y := nI (2 ^ a)) (zi_shl1 (by omega)) ?_
      refine z_iconst (v := nI 1) C (by decide) dX7_doCommute_34 ?_
      refine z_iload_n C dX7_doCommute_35 2 rfl ?_
      refine z_ishl C dX7_doCommute_36 ?_
      refine z_topi (y := nI (2 ^ b)) (zi_shl1 (by omega)) ?_
      refine z_ior C dX7_doCommute_37 ?_
      refine z_topi (y := nI ((2 ^ a) ||| (2 ^ b))) (fa_or (2 ^ a) (2 ^ b)) ?_
      refine z_iand C dX7_doCommute_38 ?_
      refine z_topi (y := nI (((trg B a) ||| (trg B b)) &&& ((2 ^ a) ||| (2 ^ b)))) (fa_and ((trg B a) ||| (trg B b)) ((2 ^ a) ||| (2 ^ b))) ?_
      refine z_if_ne (tgt := 64) C dX7_doCommute_39 (by decide) (fun zc39 => ?_) (fun zc39 => ?_)
      · skip
        have zn39 := z0_f zc39
        have hcm : com B a b = false := Bool.eq_false_iff.mpr fun z => zn39 (hco.mp z).1
        refine z_iconst (v := nI 0) C (by decide) dX7_doCommute_64 ?_
        exact z_zret C hr hlocks rfl hQ u (⟨by rw [hcm]; rfl, rfl⟩) (fun _ _ => rfl) dX7_doCommute_65
      · skip
        have zn39 := z0_t (by omega) zc39
        refine z_aload_n C dX7_doCommute_42 0 rfl ?_
        refine z_iload_n C dX7_doCommute_43 1 rfl ?_
        refine z_iload_n C dX7_doCommute_44 2 rfl ?_
        refine z_callVi mX_ok C hml hown hts hK hX (c_X7_disturbs l D ad cI cL cB hI u n B hR hB a ha b hb) (cwV 2 hts gX7_doCommute_X7_disturbs rfl rfl rfl (by decide +kernel) ⟨Nat.le_of_ble_eq_true rfl, Nat.le_of_ble_eq_true rfl⟩) (by decide) (ci := 7) rfl rfl rfl (st := []) rfl (Nat.le_of_ble_eq_true rfl) dX7_doCommute_45 ⟨Nat.le_of_ble_eq_true rfl, Nat.le_of_ble_eq_true rfl⟩ (fun r45 u45 h45 => ?_)
        obtain ⟨zr45, zu45⟩ := h45
        subst r45
        subst u45
        refine z_if_ne (tgt := 64) C dX7_doCommute_48 (by decide) (fun zc48 => ?_) (fun zc48 => ?_)
        · skip
          have zn48 := z0_f zc48
          have hcm : com B a b = false := Bool.eq_false_iff.mpr fun z => zn48 (hco.mp z).2.1
          refine z_iconst (v := nI 0) C (by decide) dX7_doCommute_64 ?_
          exact z_zret C hr hlocks rfl hQ u (⟨by rw [hcm]; rfl, rfl⟩) (fun _ _ => rfl) dX7_doCommute_65
        · skip
          have zn48 := z0_t (by omega) zc48
          refine z_aload_n C dX7_doCommute_51 0 rfl ?_
          refine z_iload_n C dX7_doCommute_52 2 rfl ?_
          refine z_iload_n C dX7_doCommute_53 1 rfl ?_
          refine z_callVi mX_ok C hml hown hts hK hX (c_X7_disturbs l D ad cI cL cB hI u n B hR hB b hb a ha) (cwV 2 hts gX7_doCommute_X7_disturbs rfl rfl rfl (by decide +kernel) ⟨Nat.le_of_ble_eq_true rfl, Nat.le_of_ble_eq_true rfl⟩) (by decide) (ci := 7) rfl rfl rfl (st := []) rfl (Nat.le_of_ble_eq_true rfl) dX7_doCommute_54 ⟨Nat.le_of_ble_eq_true rfl, Nat.le_of_ble_eq_true rfl⟩ (fun r54 u54 h54 => ?_)
          obtain ⟨zr54, zu54⟩ := h54
          subst r54
          subst u54
          refine z_if_ne (tgt := 64) C dX7_doCommute_57 (by decide) (fun zc57 => ?_) (fun zc57 => ?_)
          · skip
            have zn57 := z0_f zc57
            have hcm : com B a b = false := Bool.eq_false_iff.mpr fun z => zn57 (hco.mp z).2.2
            refine z_iconst (v := nI 0) C (by decide) dX7_doCommute_64 ?_
            exact z_zret C hr hlocks rfl hQ u (⟨by rw [hcm]; rfl, rfl⟩) (fun _ _ => rfl) dX7_doCommute_65
          · skip
            have zn57 := z0_t (by omega) zc57
            have hcm : com B a b = true := hco.mpr ⟨zn39, zn48, zn57⟩
            refine z_iconst (v := nI 1) C (by decide) dX7_doCommute_60 ?_
            refine z_goto (tgt := 65) C dX7_doCommute_61 (by decide) ?_
            exact z_zret C hr hlocks rfl hQ u (⟨by rw [hcm]; rfl, rfl⟩) (fun _ _ => rfl) dX7_doCommute_65
    · skip
      have zn15 := z0_t (by omega) zc15
      have hcm : com B a b = true := com_off (Or.inr zn15)
      refine z_iconst (v := nI 1) C (by decide) dX7_doCommute_18 ?_
      exact z_zret C hr hlocks rfl hQ u (⟨by rw [if_pos hcm]; rfl, rfl⟩) (fun _ _ => rfl) dX7_doCommute_19

set_option maxHeartbeats 4000000 in
set_option maxRecDepth 100000 in
theorem c_X7_commute (l : Launch) (D : va_G) (ad : Nat → Nat) (cI cL cB : ClassId) (hI : gI 12 ad) (u : xS) (n : Nat) (B : Nat → Nat → Nat) (hB : gB n B) (x : Nat) (hx : x < 64 * 2 ^ n) (hM : mI u n B x) (a : Nat) (ha : a < n) (b : Nat) (hb : b < n) (hab : ¬ a = b) : ∀ sz, Met l yX7_commute wsX7_commute ({ frames := 3, cells := 0, slots := 0, locals := 69 }) (MP D ad cI cL cB u [.ref (ad 0), .int (nI a), .int (nI b)] sz) (va_Qi (fun r_ u' => r_ = (if com B a b = true then 1 else 0) ∧ u'.1 0 0 = nI 0 ∧ mQ u' n B x (u.1 0 11)) (MB D ad cI cL cB) (gA 12 ad sz)) 0 0 (gA 12 ad sz) := by
  intro sz
  refine z_met (cc := cX7_commute) (maxL := 3) (ret := (some .boolean)) (by decide) rfl (Nat.le_of_ble_eq_true rfl) ?_
  intro pq lq sq mq aq Qq bq hmq cq C hr hml hown hts hlocks hK hX hsz hQ
  subst hsz
  have hT7 : ∀ w ∈ wsX70, w.before aq sq = true := fun w h => hts w ((by decide +kernel : ∀ w ∈ wsX70, w ∈ wsX7_commute) w h)
  refine z_sub (L' := [(0, .ref (ad 0)), (1, .int (nI a)), (2, .int (nI b))]) [0, 1, 2] rfl ?_
  have hn8 : n ≤ 8 := hB.1
  refine z_aload_n C dX7_commute_0 0 rfl ?_
  refine z_aload_n C dX7_commute_1 0 rfl ?_
  refine z_iload_n C dX7_commute_2 1 rfl ?_
  refine z_callVi mX_ok C hml hown hts hK hX (c_X7_isRule_vh l D ad cI cL cB hI u n hB.1 (mR_n hM.1) a ha) (cwV 1 hts gX7_commute_X7_isRule rfl rfl rfl (by decide +kernel) ⟨Nat.le_of_ble_eq_true rfl, Nat.le_of_ble_eq_true rfl⟩) (by decide) (ci := 7) rfl rfl rfl (st := [.ref (ad 0)]) rfl (Nat.le_of_ble_eq_true rfl) dX7_commute_3 ⟨Nat.le_of_ble_eq_true rfl, Nat.le_of_ble_eq_true rfl⟩ (fun r3 u3 h3 => ?_)
  obtain ⟨zr3, zu3⟩ := h3
  subst r3
  subst u3
  refine z_if_eq (tgt := 17) C dX7_commute_6 (by decide) (fun zc6 => ?_) (fun zc6 => ?_)
  · skip
    have zn6 := z0_t (by omega) zc6
    exact absurd zn6 (by decide)
  · skip
    have zn6 := z0_f zc6
    refine z_aload_n C dX7_commute_9 0 rfl ?_
    refine z_iload_n C dX7_commute_10 2 rfl ?_
    refine z_callVi mX_ok C hml hown hts hK hX (c_X7_isRule_vh l D ad cI cL cB hI u n hB.1 (mR_n hM.1) b hb) (cwV 1 hts gX7_commute_X7_isRule rfl rfl rfl (by decide +kernel) ⟨Nat.le_of_ble_eq_true rfl, Nat.le_of_ble_eq_true rfl⟩) (by decide) (ci := 7) rfl rfl rfl (st := [.ref (ad 0)]) rfl (Nat.le_of_ble_eq_true rfl) dX7_commute_11 ⟨Nat.le_of_ble_eq_true rfl, Nat.le_of_ble_eq_true rfl⟩ (fun r11 u11 h11 => ?_)
    obtain ⟨zr11, zu11⟩ := h11
    subst r11
    subst u11
    refine z_if_ne (tgt := 21) C dX7_commute_14 (by decide) (fun zc14 => ?_) (fun zc14 => ?_)
    · skip
      have zn14 := z0_f zc14
      refine z_iload_n C dX7_commute_21 1 rfl ?_
      refine z_iload_n C dX7_commute_22 2 rfl ?_
      refine z_icmp_ne (tgt := 30) C dX7_commute_23 (by decide) (fun zc23 => ?_) (fun zc23 => ?_)
      · skip
        have zn23 := zeq_f (a := a) (b := b) zc23
        refine z_iconst (v := nI 0) C (by decide) dX7_commute_30 ?_
        refine z_put (q := 0) C hI tyX7 (T := TX7) (N := 18) (ci := 7) (own := RX7) (index := 45) hT7 hown hK (by decide) rfl rfl 0 (by decide) (hts (.fieldLink RX7 45 "TriggerAnalyzerModel" "thrown" "I") (by decide +kernel)) (fun _ h9 => h9) tyX7_ok nmX7 rfl rfl rfl (Nat.le_of_ble_eq_true rfl) (f' := mF ad cI cL cB ((xs u 0 0 (nI 0)))) rfl mF_ne dX7_commute_31 ?_
        refine z_aload_n C dX7_commute_34 0 rfl ?_
        refine z_get (q := 0) C (T := TX7) (N := 18) (ci := 7) (own := RX7) (index := 45) (v := .int ((xs u 0 0 (nI 0)).1 0 0)) hT7 hown hK (by decide) rfl rfl 0 (by decide) (hts (.fieldLink RX7 45 "TriggerAnalyzerModel" "thrown" "I") (by decide +kernel)) (fun _ h9 => h9) rfl dX7_commute_35 ?_
        refine z_topi (y := nI 0) (xs_s _ _ _ _) ?_
        refine z_if_ne (tgt := 54) C dX7_commute_38 (by decide) (fun zc38 => ?_) (fun zc38 => ?_)
        · skip
          have zn38 := z0_f zc38
          exact absurd zn38 (by decide)
        · skip
          have zn38 := z0_t (by omega) zc38
          refine z_aload_n C dX7_commute_41 0 rfl ?_
          refine z_iload_n C dX7_commute_42 1 rfl ?_
          refine z_iload_n C dX7_commute_43 2 rfl ?_
          refine z_callVi mX_ok C hml hown hts hK hX (c_X7_doCommute l D ad cI cL cB hI ((xs u 0 0 (nI 0))) n B (mR_s hM.1 (Or.inl ⟨rfl, by decide⟩)) hB a ha b hb) (cwV 2 hts gX7_commute_X7_doCommute rfl rfl rfl (by decide +kernel) ⟨Nat.le_of_ble_eq_true rfl, Nat.le_of_ble_eq_true rfl⟩) (by decide) (ci := 7) rfl rfl rfl (st := []) rfl (Nat.le_of_ble_eq_true rfl) dX7_commute_44 ⟨Nat.le_of_ble_eq_true rfl, Nat.le_of_ble_eq_true rfl⟩ (fun r44 u44 h44 => ?_)
          obtain ⟨zr44, zu44⟩ := h44
          subst r44
          subst u44
          refine z_if_eq (tgt := 54) C dX7_commute_47 (by decide) (fun zc47 => ?_) (fun zc47 => ?_)
          · skip
            have hcm := z1f zc47
            refine z_iconst (v := nI 0) C (by decide) dX7_commute_54 ?_
            exact z_zret C hr hlocks rfl hQ ((xs u 0 0 (nI 0))) (⟨(if_neg hcm).symm, xs_s _ _ _ _, mQ_1 hM _⟩) (fun _ _ => rfl) dX7_commute_55
          · skip
            have hcm := z1t zc47
            refine z_iconst (v := nI 1) C (by decide) dX7_commute_50 ?_
            refine z_goto (tgt := 55) C dX7_commute_51 (by decide) ?_
            exact z_zret C hr hlocks rfl hQ ((xs u 0 0 (nI 0))) (⟨(if_pos hcm).symm, xs_s _ _ _ _, mQ_1 hM _⟩) (fun _ _ => rfl) dX7_commute_55
      · skip
        have zn23 := zeq_t (a := a) (b := b) (by omega) (by omega) zc23
        exact False.elim (by omega)
    · skip
      have zn14 := z0_t (by omega) zc14
      exact absurd zn14 (by decide)

set_option maxHeartbeats 4000000 in
set_option maxRecDepth 100000 in
theorem c_X7_commute_x1 (l : Launch) (D : va_G) (ad : Nat → Nat) (cI cL cB : ClassId) (hI : gI 12 ad) (u : xS) (n : Nat) (B : Nat → Nat → Nat) (hB : gB n B) (x : Nat) (hx : x < 64 * 2 ^ n) (hM : mI u n B x) (x1 : Int32) (hf : bad n x1) (x2 : Int32) : ∀ sz, Met l yX7_commute wsX7_commute ({ frames := 3, cells := 0, slots := 0, locals := 69 }) (MP D ad cI cL cB u [.ref (ad 0), .int (x1), .int (x2)] sz) (va_Qi (fun r_ u' => r_ = nI 0 ∧ u'.1 0 0 = nI 1 ∧ mQ u' n B x (u.1 0 11)) (MB D ad cI cL cB) (gA 12 ad sz)) 0 0 (gA 12 ad sz) := by
  intro sz
  refine z_met (cc := cX7_commute) (maxL := 3) (ret := (some .boolean)) (by decide) rfl (Nat.le_of_ble_eq_true rfl) ?_
  intro pq lq sq mq aq Qq bq hmq cq C hr hml hown hts hlocks hK hX hsz hQ
  subst hsz
  have hT7 : ∀ w ∈ wsX70, w.before aq sq = true := fun w h => hts w ((by decide +kernel : ∀ w ∈ wsX70, w ∈ wsX7_commute) w h)
  refine z_sub (L' := [(0, .ref (ad 0)), (1, .int (x1)), (2, .int (x2))]) [0, 1, 2] rfl ?_
  refine z_aload_n C dX7_commute_0 0 rfl ?_
  refine z_aload_n C dX7_commute_1 0 rfl ?_
  refine z_iload_n C dX7_commute_2 1 rfl ?_
  refine z_callVi mX_ok C hml hown hts hK hX (c_X7_isRule_x l D ad cI cL cB hI u n hB.1 (mR_n hM.1) x1 hf) (cwV 1 hts gX7_commute_X7_isRule rfl rfl rfl (by decide +kernel) ⟨Nat.le_of_ble_eq_true rfl, Nat.le_of_ble_eq_true rfl⟩) (by decide) (ci := 7) rfl rfl rfl (st := [.ref (ad 0)]) rfl (Nat.le_of_ble_eq_true rfl) dX7_commute_3 ⟨Nat.le_of_ble_eq_true rfl, Nat.le_of_ble_eq_true rfl⟩ (fun r3 u3 h3 => ?_)
  obtain ⟨zr3, zu3⟩ := h3
  subst r3
  subst u3
  refine z_if_eq (tgt := 17) C dX7_commute_6 (by decide) (fun zc6 => ?_) (fun zc6 => ?_)
  · skip
    have zn6 := z0_t (by omega) zc6
    refine z_iconst (v := nI 1) C (by decide) dX7_commute_17 ?_
    refine z_goto (tgt := 31) C dX7_commute_18 (by decide) ?_
    refine z_put (q := 0) C hI tyX7 (T := TX7) (N := 18) (ci := 7) (own := RX7) (index := 45) hT7 hown hK (by decide) rfl rfl 0 (by decide) (hts (.fieldLink RX7 45 "TriggerAnalyzerModel" "thrown" "I") (by decide +kernel)) (fun _ h9 => h9) tyX7_ok nmX7 rfl rfl rfl (Nat.le_of_ble_eq_true rfl) (f' := mF ad cI cL cB ((xs u 0 0 (nI 1)))) rfl mF_ne dX7_commute_31 ?_
    refine z_aload_n C dX7_commute_34 0 rfl ?_
    refine z_get (q := 0) C (T := TX7) (N := 18) (ci := 7) (own := RX7) (index := 45) (v := .int ((xs u 0 0 (nI 1)).1 0 0)) hT7 hown hK (by decide) rfl rfl 0 (by decide) (hts (.fieldLink RX7 45 "TriggerAnalyzerModel" "thrown" "I") (by decide +kernel)) (fun _ h9 => h9) rfl dX7_commute_35 ?_
    refine z_topi (y := nI 1) (xs_s _ _ _ _) ?_
    refine z_if_ne (tgt := 54) C dX7_commute_38 (by decide) (fun zc38 => ?_) (fun zc38 => ?_)
    · skip
      have zn38 := z0_f zc38
      refine z_iconst (v := nI 0) C (by decide) dX7_commute_54 ?_
      exact z_zret C hr hlocks rfl hQ ((xs u 0 0 (nI 1))) (⟨rfl, xs_s _ _ _ _, mQ_1 hM _⟩) (fun _ _ => rfl) dX7_commute_55
    · skip
      have zn38 := z0_t (by omega) zc38
      exact absurd zn38 (by decide)
  · skip
    have zn6 := z0_f zc6
    exact absurd zn6 (by decide)

set_option maxHeartbeats 4000000 in
set_option maxRecDepth 100000 in
theorem c_X7_commute_x2 (l : Launch) (D : va_G) (ad : Nat → Nat) (cI cL cB : ClassId) (hI : gI 12 ad) (u : xS) (n : Nat) (B : Nat → Nat → Nat) (hB : gB n B) (x : Nat) (hx : x < 64 * 2 ^ n) (hM : mI u n B x) (i : Nat) (hi : i < n) (x2 : Int32) (hf : bad n x2) : ∀ sz, Met l yX7_commute wsX7_commute ({ frames := 3, cells := 0, slots := 0, locals := 69 }) (MP D ad cI cL cB u [.ref (ad 0), .int (nI i), .int (x2)] sz) (va_Qi (fun r_ u' => r_ = nI 0 ∧ u'.1 0 0 = nI 1 ∧ mQ u' n B x (u.1 0 11)) (MB D ad cI cL cB) (gA 12 ad sz)) 0 0 (gA 12 ad sz) := by
  intro sz
  refine z_met (cc := cX7_commute) (maxL := 3) (ret := (some .boolean)) (by decide) rfl (Nat.le_of_ble_eq_true rfl) ?_
  intro pq lq sq mq aq Qq bq hmq cq C hr hml hown hts hlocks hK hX hsz hQ
  subst hsz
  have hT7 : ∀ w ∈ wsX70, w.before aq sq = true := fun w h => hts w ((by decide +kernel : ∀ w ∈ wsX70, w ∈ wsX7_commute) w h)
  refine z_sub (L' := [(0, .ref (ad 0)), (1, .int (nI i)), (2, .int (x2))]) [0, 1, 2] rfl ?_
  refine z_aload_n C dX7_commute_0 0 rfl ?_
  refine z_aload_n C dX7_commute_1 0 rfl ?_
  refine z_iload_n C dX7_commute_2 1 rfl ?_
  refine z_callVi mX_ok C hml hown hts hK hX (c_X7_isRule_vh l D ad cI cL cB hI u n hB.1 (mR_n hM.1) i hi) (cwV 1 hts gX7_commute_X7_isRule rfl rfl rfl (by decide +kernel) ⟨Nat.le_of_ble_eq_true rfl, Nat.le_of_ble_eq_true rfl⟩) (by decide) (ci := 7) rfl rfl rfl (st := [.ref (ad 0)]) rfl (Nat.le_of_ble_eq_true rfl) dX7_commute_3 ⟨Nat.le_of_ble_eq_true rfl, Nat.le_of_ble_eq_true rfl⟩ (fun r3 u3 h3 => ?_)
  obtain ⟨zr3, zu3⟩ := h3
  subst r3
  subst u3
  refine z_if_eq (tgt := 17) C dX7_commute_6 (by decide) (fun zc6 => ?_) (fun zc6 => ?_)
  · skip
    have zn6 := z0_t (by omega) zc6
    exact absurd zn6 (by decide)
  · skip
    have zn6 := z0_f zc6
    refine z_aload_n C dX7_commute_9 0 rfl ?_
    refine z_iload_n C dX7_commute_10 2 rfl ?_
    refine z_callVi mX_ok C hml hown hts hK hX (c_X7_isRule_x l D ad cI cL cB hI u n hB.1 (mR_n hM.1) x2 hf) (cwV 1 hts gX7_commute_X7_isRule rfl rfl rfl (by decide +kernel) ⟨Nat.le_of_ble_eq_true rfl, Nat.le_of_ble_eq_true rfl⟩) (by decide) (ci := 7) rfl rfl rfl (st := [.ref (ad 0)]) rfl (Nat.le_of_ble_eq_true rfl) dX7_commute_11 ⟨Nat.le_of_ble_eq_true rfl, Nat.le_of_ble_eq_true rfl⟩ (fun r11 u11 h11 => ?_)
    obtain ⟨zr11, zu11⟩ := h11
    subst r11
    subst u11
    refine z_if_ne (tgt := 21) C dX7_commute_14 (by decide) (fun zc14 => ?_) (fun zc14 => ?_)
    · skip
      have zn14 := z0_f zc14
      exact absurd zn14 (by decide)
    · skip
      have zn14 := z0_t (by omega) zc14
      refine z_iconst (v := nI 1) C (by decide) dX7_commute_17 ?_
      refine z_goto (tgt := 31) C dX7_commute_18 (by decide) ?_
      refine z_put (q := 0) C hI tyX7 (T := TX7) (N := 18) (ci := 7) (own := RX7) (index := 45) hT7 hown hK (by decide) rfl rfl 0 (by decide) (hts (.fieldLink RX7 45 "TriggerAnalyzerModel" "thrown" "I") (by decide +kernel)) (fun _ h9 => h9) tyX7_ok nmX7 rfl rfl rfl (Nat.le_of_ble_eq_true rfl) (f' := mF ad cI cL cB ((xs u 0 0 (nI 1)))) rfl mF_ne dX7_commute_31 ?_
      refine z_aload_n C dX7_commute_34 0 rfl ?_
      refine z_get (q := 0) C (T := TX7) (N := 18) (ci := 7) (own := RX7) (index := 45) (v := .int ((xs u 0 0 (nI 1)).1 0 0)) hT7 hown hK (by decide) rfl rfl 0 (by decide) (hts (.fieldLink RX7 45 "TriggerAnalyzerModel" "thrown" "I") (by decide +kernel)) (fun _ h9 => h9) rfl dX7_commute_35 ?_
      refine z_topi (y := nI 1) (xs_s _ _ _ _) ?_
      refine z_if_ne (tgt := 54) C dX7_commute_38 (by decide) (fun zc38 => ?_) (fun zc38 => ?_)
      · skip
        have zn38 := z0_f zc38
        refine z_iconst (v := nI 0) C (by decide) dX7_commute_54 ?_
        exact z_zret C hr hlocks rfl hQ ((xs u 0 0 (nI 1))) (⟨rfl, xs_s _ _ _ _, mQ_1 hM _⟩) (fun _ _ => rfl) dX7_commute_55
      · skip
        have zn38 := z0_t (by omega) zc38
        exact absurd zn38 (by decide)

set_option maxHeartbeats 4000000 in
set_option maxRecDepth 100000 in
theorem c_X7_commute_x3 (l : Launch) (D : va_G) (ad : Nat → Nat) (cI cL cB : ClassId) (hI : gI 12 ad) (u : xS) (n : Nat) (B : Nat → Nat → Nat) (hB : gB n B) (x : Nat) (hx : x < 64 * 2 ^ n) (hM : mI u n B x) (i : Nat) (hi : i < n) : ∀ sz, Met l yX7_commute wsX7_commute ({ frames := 3, cells := 0, slots := 0, locals := 69 }) (MP D ad cI cL cB u [.ref (ad 0), .int (nI i), .int (nI i)] sz) (va_Qi (fun r_ u' => r_ = nI 0 ∧ u'.1 0 0 = nI 2 ∧ mQ u' n B x (u.1 0 11)) (MB D ad cI cL cB) (gA 12 ad sz)) 0 0 (gA 12 ad sz) := by
  intro sz
  refine z_met (cc := cX7_commute) (maxL := 3) (ret := (some .boolean)) (by decide) rfl (Nat.le_of_ble_eq_true rfl) ?_
  intro pq lq sq mq aq Qq bq hmq cq C hr hml hown hts hlocks hK hX hsz hQ
  subst hsz
  have hT7 : ∀ w ∈ wsX70, w.before aq sq = true := fun w h => hts w ((by decide +kernel : ∀ w ∈ wsX70, w ∈ wsX7_commute) w h)
  refine z_sub (L' := [(0, .ref (ad 0)), (1, .int (nI i)), (2, .int (nI i))]) [0, 1, 2] rfl ?_
  have hn8 : n ≤ 8 := hB.1
  refine z_aload_n C dX7_commute_0 0 rfl ?_
  refine z_aload_n C dX7_commute_1 0 rfl ?_
  refine z_iload_n C dX7_commute_2 1 rfl ?_
  refine z_callVi mX_ok C hml hown hts hK hX (c_X7_isRule_vh l D ad cI cL cB hI u n hB.1 (mR_n hM.1) i hi) (cwV 1 hts gX7_commute_X7_isRule rfl rfl rfl (by decide +kernel) ⟨Nat.le_of_ble_eq_true rfl, Nat.le_of_ble_eq_true rfl⟩) (by decide) (ci := 7) rfl rfl rfl (st := [.ref (ad 0)]) rfl (Nat.le_of_ble_eq_true rfl) dX7_commute_3 ⟨Nat.le_of_ble_eq_true rfl, Nat.le_of_ble_eq_true rfl⟩ (fun r3 u3 h3 => ?_)
  obtain ⟨zr3, zu3⟩ := h3
  subst r3
  subst u3
  refine z_if_eq (tgt := 17) C dX7_commute_6 (by decide) (fun zc6 => ?_) (fun zc6 => ?_)
  · skip
    have zn6 := z0_t (by omega) zc6
    exact absurd zn6 (by decide)
  · skip
    have zn6 := z0_f zc6
    refine z_aload_n C dX7_commute_9 0 rfl ?_
    refine z_iload_n C dX7_commute_10 2 rfl ?_
    refine z_callVi mX_ok C hml hown hts hK hX (c_X7_isRule_vh l D ad cI cL cB hI u n hB.1 (mR_n hM.1) i hi) (cwV 1 hts gX7_commute_X7_isRule rfl rfl rfl (by decide +kernel) ⟨Nat.le_of_ble_eq_true rfl, Nat.le_of_ble_eq_true rfl⟩) (by decide) (ci := 7) rfl rfl rfl (st := [.ref (ad 0)]) rfl (Nat.le_of_ble_eq_true rfl) dX7_commute_11 ⟨Nat.le_of_ble_eq_true rfl, Nat.le_of_ble_eq_true rfl⟩ (fun r11 u11 h11 => ?_)
    obtain ⟨zr11, zu11⟩ := h11
    subst r11
    subst u11
    refine z_if_ne (tgt := 21) C dX7_commute_14 (by decide) (fun zc14 => ?_) (fun zc14 => ?_)
    · skip
      have zn14 := z0_f zc14
      refine z_iload_n C dX7_commute_21 1 rfl ?_
      refine z_iload_n C dX7_commute_22 2 rfl ?_
      refine z_icmp_ne (tgt := 30) C dX7_commute_23 (by decide) (fun zc23 => ?_) (fun zc23 => ?_)
      · skip
        have zn23 := zeq_f (a := i) (b := i) zc23
        exact False.elim (zn23 rfl)
      · skip
        have zn23 := zeq_t (a := i) (b := i) (by omega) (by omega) zc23
        refine z_iconst (v := nI 2) C (by decide) dX7_commute_26 ?_
        refine z_goto (tgt := 31) C dX7_commute_27 (by decide) ?_
        refine z_put (q := 0) C hI tyX7 (T := TX7) (N := 18) (ci := 7) (own := RX7) (index := 45) hT7 hown hK (by decide) rfl rfl 0 (by decide) (hts (.fieldLink RX7 45 "TriggerAnalyzerModel" "thrown" "I") (by decide +kernel)) (fun _ h9 => h9) tyX7_ok nmX7 rfl rfl rfl (Nat.le_of_ble_eq_true rfl) (f' := mF ad cI cL cB ((xs u 0 0 (nI 2)))) rfl mF_ne dX7_commute_31 ?_
        refine z_aload_n C dX7_commute_34 0 rfl ?_
        refine z_get (q := 0) C (T := TX7) (N := 18) (ci := 7) (own := RX7) (index := 45) (v := .int ((xs u 0 0 (nI 2)).1 0 0)) hT7 hown hK (by decide) rfl rfl 0 (by decide) (hts (.fieldLink RX7 45 "TriggerAnalyzerModel" "thrown" "I") (by decide +kernel)) (fun _ h9 => h9) rfl dX7_commute_35 ?_
        refine z_topi (y := nI 2) (xs_s _ _ _ _) ?_
        refine z_if_ne (tgt := 54) C dX7_commute_38 (by decide) (fun zc38 => ?_) (fun zc38 => ?_)
        · skip
          have zn38 := z0_f zc38
          refine z_iconst (v := nI 0) C (by decide) dX7_commute_54 ?_
          exact z_zret C hr hlocks rfl hQ ((xs u 0 0 (nI 2))) (⟨rfl, xs_s _ _ _ _, mQ_1 hM _⟩) (fun _ _ => rfl) dX7_commute_55
        · skip
          have zn38 := z0_t (by omega) zc38
          exact absurd zn38 (by decide)
    · skip
      have zn14 := z0_t (by omega) zc14
      exact absurd zn14 (by decide)

set_option maxHeartbeats 4000000 in
set_option maxRecDepth 100000 in
theorem c_X7_isConflict (l : Launch) (D : va_G) (ad : Nat → Nat) (cI cL cB : ClassId) (hI : gI 12 ad) (u : xS) (n : Nat) (B : Nat → Nat → Nat) (hR : mR u n B) (hB : gB n B) (a : Nat) (ha : a < n) (b : Nat) (hb : b < n) : ∀ sz, Met l yX7_isConflict wsX7_isConflict ({ frames := 3, cells := 0, slots := 0, locals := 69 }) (MP D ad cI cL cB u [.ref (ad 0), .int (nI a), .int (nI b)] sz) (va_Qi (fun r_ u' => r_ = (if cnf B a b = true then 1 else 0) ∧ u' = u) (MB D ad cI cL cB) (gA 12 ad sz)) 0 0 (gA 12 ad sz) := by
  intro sz
  refine z_met (cc := cX7_isConflict) (maxL := 3) (ret := (some .boolean)) (by decide) rfl (Nat.le_of_ble_eq_true rfl) ?_
  intro pq lq sq mq aq Qq bq hmq cq C hr hml hown hts hlocks hK hX hsz hQ
  subst hsz
  have hT7 : ∀ w ∈ wsX70, w.before aq sq = true := fun w h => hts w ((by decide +kernel : ∀ w ∈ wsX70, w ∈ wsX7_isConflict) w h)
  refine z_sub (L' := [(0, .ref (ad 0)), (1, .int (nI a)), (2, .int (nI b))]) [0, 1, 2] rfl ?_
  have hn8 : n ≤ 8 := hR.1
  have ga5 : B a 5 < 256 := gB_5 hB (by omega)
  have gb5 : B b 5 < 256 := gB_5 hB (by omega)
  refine z_aload_n C dX7_isConflict_0 0 rfl ?_
  refine z_iload_n C dX7_isConflict_1 1 rfl ?_
  refine z_iload_n C dX7_isConflict_2 2 rfl ?_
  refine z_callVi mX_ok C hml hown hts hK hX (c_X7_doCommute l D ad cI cL cB hI u n B hR hB a ha b hb) (cwV 2 hts gX7_isConflict_X7_doCommute rfl rfl rfl (by decide +kernel) ⟨Nat.le_of_ble_eq_true rfl, Nat.le_of_ble_eq_true rfl⟩) (by decide) (ci := 7) rfl rfl rfl (st := []) rfl (Nat.le_of_ble_eq_true rfl) dX7_isConflict_3 ⟨Nat.le_of_ble_eq_true rfl, Nat.le_of_ble_eq_true rfl⟩ (fun r3 u3 h3 => ?_)
  obtain ⟨zr3, zu3⟩ := h3
  subst r3
  subst u3
  refine z_if_ne (tgt := 39) C dX7_isConflict_6 (by decide) (fun zc6 => ?_) (fun zc6 => ?_)
  · skip
    have hcf : cnf B a b = false := by unfold cnf; rw [z1t zc6]; simp
    refine z_iconst (v := nI 0) C (by decide) dX7_isConflict_39 ?_
    exact z_zret C hr hlocks rfl hQ u (⟨by rw [hcf]; rfl, rfl⟩) (fun _ _ => rfl) dX7_isConflict_40
  · skip
    have hcm := Bool.eq_false_iff.mpr (z1f zc6)
    refine z_aload_n C dX7_isConflict_9 0 rfl ?_
    refine z_get (q := 0) C (T := TX7) (N := 18) (ci := 7) (own := RX7) (index := 29) (v := .ref (ad 7)) hT7 hown hK (by decide) rfl rfl 8 (by decide) (hts (.fieldLink RX7 29 "TriggerAnalyzerModel" "below" "[I") (by decide +kernel)) (fun _ h9 => h9) rfl dX7_isConflict_10 ?_
    refine z_iload_n C dX7_isConflict_13 1 rfl ?_
    refine z_iald (q := 7) (len := 8) (k := a) C hK (by decide) rfl 0 rfl (rfl) (by omega) (by decide) dX7_isConflict_14 ?_
    refine z_topi (y := nI (B a 5)) (mR_5 hR (by omega)) ?_
    refine z_iload_n C dX7_isConflict_15 2 rfl ?_
    refine z_callSi mX_ok C hml hown hts hK hX (c_X7_has l D ad cI cL cB hI u (B a 5) (by omega) b (by omega)) (va_cwS 2 hts gX7_isConflict_X7_has rfl rfl rfl (by decide +kernel) ⟨Nat.le_of_ble_eq_true rfl, Nat.le_of_ble_eq_true rfl⟩) rfl (st := []) rfl (Nat.le_of_ble_eq_true rfl) dX7_isConflict_16 ⟨Nat.le_of_ble_eq_true rfl, Nat.le_of_ble_eq_true rfl⟩ (fun r16 u16 h16 => ?_)
    obtain ⟨zr16, zu16⟩ := h16
    subst r16
    subst u16
    refine z_if_ne (tgt := 39) C dX7_isConflict_19 (by decide) (fun zc19 => ?_) (fun zc19 => ?_)
    · skip
      have hcf : cnf B a b = false := by unfold cnf; rw [z1t zc19]; simp
      refine z_iconst (v := nI 0) C (by decide) dX7_isConflict_39 ?_
      exact z_zret C hr hlocks rfl hQ u (⟨by rw [hcf]; rfl, rfl⟩) (fun _ _ => rfl) dX7_isConflict_40
    · skip
      have hab := Bool.eq_false_iff.mpr (z1f zc19)
      refine z_aload_n C dX7_isConflict_22 0 rfl ?_
      refine z_get (q := 0) C (T := TX7) (N := 18) (ci := 7) (own := RX7) (index := 29) (v := .ref (ad 7)) hT7 hown hK (by decide) rfl rfl 8 (by decide) (hts (.fieldLink RX7 29 "TriggerAnalyzerModel" "below" "[I") (by decide +kernel)) (fun _ h9 => h9) rfl dX7_isConflict_23 ?_
      refine z_iload_n C dX7_isConflict_26 2 rfl ?_
      refine z_iald (q := 7) (len := 8) (k := b) C hK (by decide) rfl 0 rfl (rfl) (by omega) (by decide) dX7_isConflict_27 ?_
      refine z_topi (y := nI (B b 5)) (mR_5 hR (by omega)) ?_
      refine z_iload_n C dX7_isConflict_28 1 rfl ?_
      refine z_callSi mX_ok C hml hown hts hK hX (c_X7_has l D ad cI cL cB hI u (B b 5) (by omega) a (by omega)) (va_cwS 2 hts gX7_isConflict_X7_has rfl rfl rfl (by decide +kernel) ⟨Nat.le_of_ble_eq_true rfl, Nat.le_of_ble_eq_true rfl⟩) rfl (st := []) rfl (Nat.le_of_ble_eq_true rfl) dX7_isConflict_29 ⟨Nat.le_of_ble_eq_true rfl, Nat.le_of_ble_eq_true rfl⟩ (fun r29 u29 h29 => ?_)
      obtain ⟨zr29, zu29⟩ := h29
      subst r29
      subst u29
      refine z_if_ne (tgt := 39) C dX7_isConflict_32 (by decide) (fun zc32 => ?_) (fun zc32 => ?_)
      · skip
        have hcf : cnf B a b = false := by unfold cnf; rw [z1t zc32]; simp
        refine z_iconst (v := nI 0) C (by decide) dX7_isConflict_39 ?_
        exact z_zret C hr hlocks rfl hQ u (⟨by rw [hcf]; rfl, rfl⟩) (fun _ _ => rfl) dX7_isConflict_40
      · skip
        have hba := Bool.eq_false_iff.mpr (z1f zc32)
        have hcf : cnf B a b = true := by unfold cnf; rw [hcm, hab, hba]; rfl
        refine z_iconst (v := nI 1) C (by decide) dX7_isConflict_35 ?_
        refine z_goto (tgt := 40) C dX7_isConflict_36 (by decide) ?_
        exact z_zret C hr hlocks rfl hQ u (⟨by rw [hcf]; rfl, rfl⟩) (fun _ _ => rfl) dX7_isConflict_40

set_option maxHeartbeats 4000000 in
set_option maxRecDepth 100000 in
theorem c_X7_conflictCount (l : Launch) (D : va_G) (ad : Nat → Nat) (cI cL cB : ClassId) (hI : gI 12 ad) (u : xS) (n : Nat) (B : Nat → Nat → Nat) (hB : gB n B) (x : Nat) (hx : x < 64 * 2 ^ n) (hM : mI u n B x) : ∀ sz, Met l yX7_conflictCount wsX7_conflictCount ({ frames := 4, cells := 0, slots := 0, locals := 91 }) (MP D ad cI cL cB u [.ref (ad 0)] sz) (va_Qi (fun r_ u' => r_ = nI (cou B 8) ∧ u'.1 0 0 = nI 0 ∧ mQ u' n B x (u.1 0 11)) (MB D ad cI cL cB) (gA 12 ad sz)) 0 0 (gA 12 ad sz) := by
  intro sz
  refine z_met (cc := cX7_conflictCount) (maxL := 4) (ret := (some .int)) (by decide) rfl (Nat.le_of_ble_eq_true rfl) ?_
  intro pq lq sq mq aq Qq bq hmq cq C hr hml hown hts hlocks hK hX hsz hQ
  subst hsz
  have hT7 : ∀ w ∈ wsX70, w.before aq sq = true := fun w h => hts w ((by decide +kernel : ∀ w ∈ wsX70, w ∈ wsX7_conflictCount) w h)
  refine z_sub (L' := [(0, .ref (ad 0))]) [0] rfl ?_
  have hn8 : n ≤ 8 := hB.1
  refine z_aload_n C dX7_conflictCount_0 0 rfl ?_
  refine z_iconst (v := nI 0) C (by decide) dX7_conflictCount_1 ?_
  refine z_put (q := 0) C hI tyX7 (T := TX7) (N := 18) (ci := 7) (own := RX7) (index := 45) hT7 hown hK (by decide) rfl rfl 0 (by decide) (hts (.fieldLink RX7 45 "TriggerAnalyzerModel" "thrown" "I") (by decide +kernel)) (fun _ h9 => h9) tyX7_ok nmX7 rfl rfl rfl (Nat.le_of_ble_eq_true rfl) (f' := mF ad cI cL cB ((xs u 0 0 (nI 0)))) rfl mF_ne dX7_conflictCount_2 ?_
  refine z_iconst (v := nI 0) C (by decide) dX7_conflictCount_5 ?_
  refine z_istore_n (L' := [(1, .int (nI 0)), (0, .ref (ad 0))]) C dX7_conflictCount_6 (by decide) rfl ?_
  refine z_iconst (v := nI 0) C (by decide) dX7_conflictCount_7 ?_
  refine z_istore_n (L' := [(2, .int (nI 0)), (1, .int (nI 0)), (0, .ref (ad 0))]) C dX7_conflictCount_8 (by decide) rfl ?_
  have loop9 : ∀ (d9 : Nat) (a c : Nat), n - a < d9 → (a ≤ n) → (c = cou B a) → ZZ pq l lq { frames := 4, cells := 0, slots := 0, locals := 91 } sq mq aq bq hmq cq D vwCl 12 ad 4 0 0 Qq (mF ad cI cL cB ((xs u 0 0 (nI 0)))) [(0, .ref (ad 0)), (1, .int (nI c)), (2, .int (nI a))] 9 [] := by
    intro d9
    induction d9 with
    | zero => intro a c hz; exact absurd hz (Nat.not_lt_zero _)
    | succ d9 ih9 =>
      intro a c hz9 han hc
      refine z_iload_n C dX7_conflictCount_9 2 rfl ?_
      refine z_aload_n C dX7_conflictCount_10 0 rfl ?_
      refine z_get (q := 0) C (T := TX7) (N := 18) (ci := 7) (own := RX7) (index := 49) (v := .int ((xs u 0 0 (nI 0)).1 0 1)) hT7 hown hK (by decide) rfl rfl 1 (by decide) (hts (.fieldLink RX7 49 "TriggerAnalyzerModel" "rules" "I") (by decide +kernel)) (fun _ h9 => h9) rfl dX7_conflictCount_11 ?_
      refine z_topi (y := u.1 0 1) (xs_j (by decide)) ?_
      refine z_topi (y := nI n) (mR_n hM.1) ?_
      refine z_icmp_ge (tgt := 58) C dX7_conflictCount_14 (by decide) (fun zc14 => ?_) (fun zc14 => ?_)
      · skip
        have zn14 := zge_t (a := a) (b := n) (by omega) (by omega) zc14
        refine z_iload_n C dX7_conflictCount_58 1 rfl ?_
        exact z_iret C hr hlocks hQ ((xs u 0 0 (nI 0))) (⟨by rw [hc, cou_n hB, show a = n by omega], xs_s _ _ _ _, mQ_1 hM _⟩) (fun _ _ => rfl) dX7_conflictCount_59
      · skip
        have zn14 := zge_f (a := a) (b := n) (by omega) (by omega) zc14
        refine z_iload_n C dX7_conflictCount_17 2 rfl ?_
        refine z_iconst (v := nI 1) C (by decide) dX7_conflictCount_18 ?_
        refine z_iadd C dX7_conflictCount_19 ?_
        refine z_topi (y := nI (a + 1)) (nI_add a 1) ?_
        refine z_istore_n (L' := [(3, .int (nI (a + 1))), (0, .ref (ad 0)), (1, .int (nI c)), (2, .int (nI a))]) C dX7_conflictCount_20 (by decide) rfl ?_
        have loop21 : ∀ (d21 : Nat) (b d : Nat), n - b < d21 → (a < b) → (b ≤ n) → (d = cou B a + cin B a b) → ZZ pq l lq { frames := 4, cells := 0, slots := 0, locals := 91 } sq mq aq bq hmq cq D vwCl 12 ad 4 0 0 Qq (mF ad cI cL cB ((xs u 0 0 (nI 0)))) [(0, .ref (ad 0)), (1, .int (nI d)), (2, .int (nI a)), (3, .int (nI b))] 21 [] := by
          intro d21
          induction d21 with
          | zero => intro b d hz; exact absurd hz (Nat.not_lt_zero _)
          | succ d21 ih21 =>
            intro b d hz21 hab hbn hd
            refine z_iload_n C dX7_conflictCount_21 3 rfl ?_
            refine z_aload_n C dX7_conflictCount_22 0 rfl ?_
            refine z_get (q := 0) C (T := TX7) (N := 18) (ci := 7) (own := RX7) (index := 49) (v := .int ((xs u 0 0 (nI 0)).1 0 1)) hT7 hown hK (by decide) rfl rfl 1 (by decide) (hts (.fieldLink RX7 49 "TriggerAnalyzerModel" "rules" "I") (by decide +kernel)) (fun _ h9 => h9) rfl dX7_conflictCount_23 ?_
            refine z_topi (y := u.1 0 1) (xs_j (by decide)) ?_
            refine z_topi (y := nI n) (mR_n hM.1) ?_
            refine z_icmp_ge (tgt := 52) C dX7_conflictCount_26 (by decide) (fun zc26 => ?_) (fun zc26 => ?_)
            · skip
              have zn26 := zge_t (a := b) (b := n) (by omega) (by omega) zc26
              refine z_iinc (L' := [(2, .int (nI (a + 1))), (0, .ref (ad 0)), (1, .int (nI d)), (3, .int (nI b))]) C dX7_conflictCount_52 2 rfl (nI_1 a) (by decide) rfl ?_
              refine z_goto (tgt := 9) C dX7_conflictCount_55 (by decide) ?_
              refine z_sub (L' := [(0, .ref (ad 0)), (1, .int (nI d)), (2, .int (nI (a + 1)))]) [1, 2, 0] rfl ?_
              exact ih9 (a + 1) d (by omega) (by omega) (by rw [hd, cou_s, cin_n hB, show b = n by omega])
            · skip
              have zn26 := zge_f (a := b) (b := n) (by omega) (by omega) zc26
              refine z_iload_n C dX7_conflictCount_29 1 rfl ?_
              refine z_aload_n C dX7_conflictCount_30 0 rfl ?_
              refine z_iload_n C dX7_conflictCount_31 2 rfl ?_
              refine z_iload_n C dX7_conflictCount_32 3 rfl ?_
              refine z_callVi mX_ok C hml hown hts hK hX (c_X7_isConflict l D ad cI cL cB hI ((xs u 0 0 (nI 0))) n B (mR_s hM.1 (Or.inl ⟨rfl, by decide⟩)) hB a zn14 b zn26) (cwV 2 hts gX7_conflictCount_X7_isConflict rfl rfl rfl (by decide +kernel) ⟨Nat.le_of_ble_eq_true rfl, Nat.le_of_ble_eq_true rfl⟩) (by decide) (ci := 7) rfl rfl rfl (st := [.int (nI d)]) rfl (Nat.le_of_ble_eq_true rfl) dX7_conflictCount_33 ⟨Nat.le_of_ble_eq_true rfl, Nat.le_of_ble_eq_true rfl⟩ (fun r33 u33 h33 => ?_)
              obtain ⟨zr33, zu33⟩ := h33
              subst r33
              subst u33
              refine z_if_eq (tgt := 43) C dX7_conflictCount_36 (by decide) (fun zc36 => ?_) (fun zc36 => ?_)
              · skip
                refine z_iconst (v := nI 0) C (by decide) dX7_conflictCount_43 ?_
                refine z_iadd C dX7_conflictCount_44 ?_
                refine z_topi (y := nI (d + 0)) (nI_add d 0) ?_
                refine z_istore_n (L' := [(1, .int (nI (d + 0))), (0, .ref (ad 0)), (2, .int (nI a)), (3, .int (nI b))]) C dX7_conflictCount_45 (by decide) rfl ?_
                refine z_iinc (L' := [(3, .int (nI (b + 1))), (1, .int (nI (d + 0))), (0, .ref (ad 0)), (2, .int (nI a))]) C dX7_conflictCount_46 3 rfl (nI_1 b) (by decide) rfl ?_
                refine z_goto (tgt := 21) C dX7_conflictCount_49 (by decide) ?_
                refine z_sub (L' := [(0, .ref (ad 0)), (1, .int (nI (d + 0))), (2, .int (nI a)), (3, .int (nI (b + 1)))]) [2, 1, 3, 0] rfl ?_
                exact ih21 (b + 1) (d + 0) (by omega) (by omega) (by omega) (by rw [hd, cin_s hab, if_neg (z1f zc36)]; rfl)
              · skip
                refine z_iconst (v := nI 1) C (by decide) dX7_conflictCount_39 ?_
                refine z_goto (tgt := 44) C dX7_conflictCount_40 (by decide) ?_
                refine z_iadd C dX7_conflictCount_44 ?_
                refine z_topi (y := nI (d + 1)) (nI_add d 1) ?_
                refine z_istore_n (L' := [(1, .int (nI (d + 1))), (0, .ref (ad 0)), (2, .int (nI a)), (3, .int (nI b))]) C dX7_conflictCount_45 (by decide) rfl ?_
                refine z_iinc (L' := [(3, .int (nI (b + 1))), (1, .int (nI (d + 1))), (0, .ref (ad 0)), (2, .int (nI a))]) C dX7_conflictCount_46 3 rfl (nI_1 b) (by decide) rfl ?_
                refine z_goto (tgt := 21) C dX7_conflictCount_49 (by decide) ?_
                refine z_sub (L' := [(0, .ref (ad 0)), (1, .int (nI (d + 1))), (2, .int (nI a)), (3, .int (nI (b + 1)))]) [2, 1, 3, 0] rfl ?_
                exact ih21 (b + 1) (d + 1) (by omega) (by omega) (by omega) (by rw [hd, cin_s hab, if_pos (z1t zc36)]; rfl)
        refine z_sub (L' := [(0, .ref (ad 0)), (1, .int (nI c)), (2, .int (nI a)), (3, .int (nI (a + 1)))]) [1, 2, 3, 0] rfl ?_
        exact loop21 (n + 1) (a + 1) c (by omega) (by omega) (by omega) (by rw [cin_0, hc]; rfl)
  refine z_sub (L' := [(0, .ref (ad 0)), (1, .int (nI 0)), (2, .int (nI 0))]) [2, 1, 0] rfl ?_
  exact loop9 (n + 1) 0 0 (by omega) (by omega) rfl

set_option maxHeartbeats 4000000 in
set_option maxRecDepth 100000 in
theorem c_X7_conflict_vh (l : Launch) (D : va_G) (ad : Nat → Nat) (cI cL cB : ClassId) (hI : gI 12 ad) (u : xS) (n : Nat) (B : Nat → Nat → Nat) (hB : gB n B) (x : Nat) (hx : x < 64 * 2 ^ n) (hM : mI u n B x) (i : Nat) (hi : i < cou B 8) : ∀ sz, Met l yX7_conflict wsX7_conflict ({ frames := 4, cells := 0, slots := 0, locals := 91 }) (MP D ad cI cL cB u [.ref (ad 0), .int (nI i)] sz) (va_Qi (fun r_ u' => (∃ a b, a < b ∧ b < 8 ∧ cnf B a b = true ∧ i = cou B a + cin B a b ∧ r_ = nI (10 * a + b)) ∧ u'.1 0 0 = nI 0 ∧ mQ u' n B x (u.1 0 11)) (MB D ad cI cL cB) (gA 12 ad sz)) 0 0 (gA 12 ad sz) := by
  intro sz
  refine z_met (cc := cX7_conflict) (maxL := 5) (ret := (some .int)) (by decide) rfl (Nat.le_of_ble_eq_true rfl) ?_
  intro pq lq sq mq aq Qq bq hmq cq C hr hml hown hts hlocks hK hX hsz hQ
  subst hsz
  have hT7 : ∀ w ∈ wsX70, w.before aq sq = true := fun w h => hts w ((by decide +kernel : ∀ w ∈ wsX70, w ∈ wsX7_conflict) w h)
  refine z_sub (L' := [(0, .ref (ad 0)), (1, .int (nI i))]) [0, 1] rfl ?_
  have hn8 : n ≤ 8 := hB.1
  have hcn := cou_n hB
  have hc64 := cou_le B 8
  refine z_aload_n C dX7_conflict_0 0 rfl ?_
  refine z_iconst (v := nI 0) C (by decide) dX7_conflict_1 ?_
  refine z_put (q := 0) C hI tyX7 (T := TX7) (N := 18) (ci := 7) (own := RX7) (index := 45) hT7 hown hK (by decide) rfl rfl 0 (by decide) (hts (.fieldLink RX7 45 "TriggerAnalyzerModel" "thrown" "I") (by decide +kernel)) (fun _ h9 => h9) tyX7_ok nmX7 rfl rfl rfl (Nat.le_of_ble_eq_true rfl) (f' := mF ad cI cL cB ((xs u 0 0 (nI 0)))) rfl mF_ne dX7_conflict_2 ?_
  refine z_iload_n C dX7_conflict_5 1 rfl ?_
  refine z_istore_n (L' := [(2, .int (nI i)), (0, .ref (ad 0)), (1, .int (nI i))]) C dX7_conflict_6 (by decide) rfl ?_
  refine z_iconst (v := nI 0) C (by decide) dX7_conflict_7 ?_
  refine z_istore_n (L' := [(3, .int (nI 0)), (2, .int (nI i)), (0, .ref (ad 0)), (1, .int (nI i))]) C dX7_conflict_8 (by decide) rfl ?_
  have loop9 : ∀ (d9 : Nat) (a g : Nat), n - a < d9 → (a ≤ n) → (g + cou B a = i) → ZZ pq l lq { frames := 4, cells := 0, slots := 0, locals := 91 } sq mq aq bq hmq cq D vwCl 12 ad 5 0 0 Qq (mF ad cI cL cB ((xs u 0 0 (nI 0)))) [(0, .ref (ad 0)), (1, .int (nI i)), (2, .int (nI g)), (3, .int (nI a))] 9 [] := by
    intro d9
    induction d9 with
    | zero => intro a g hz; exact absurd hz (Nat.not_lt_zero _)
    | succ d9 ih9 =>
      intro a g hz9 han hg
      refine z_iload_n C dX7_conflict_9 3 rfl ?_
      refine z_aload_n C dX7_conflict_10 0 rfl ?_
      refine z_get (q := 0) C (T := TX7) (N := 18) (ci := 7) (own := RX7) (index := 49) (v := .int ((xs u 0 0 (nI 0)).1 0 1)) hT7 hown hK (by decide) rfl rfl 1 (by decide) (hts (.fieldLink RX7 49 "TriggerAnalyzerModel" "rules" "I") (by decide +kernel)) (fun _ h9 => h9) rfl dX7_conflict_11 ?_
      refine z_topi (y := u.1 0 1) (xs_j (by decide)) ?_
      refine z_topi (y := nI n) (mR_n hM.1) ?_
      refine z_icmp_ge (tgt := 77) C dX7_conflict_14 (by decide) (fun zc14 => ?_) (fun zc14 => ?_)
      · skip
        have zn14 := zge_t (a := a) (b := n) (by omega) (by omega) zc14
        exact False.elim (by have e : a = n := (by omega); rw [e] at hg; omega)
      · skip
        have zn14 := zge_f (a := a) (b := n) (by omega) (by omega) zc14
        refine z_iload_n C dX7_conflict_17 3 rfl ?_
        refine z_iconst (v := nI 1) C (by decide) dX7_conflict_18 ?_
        refine z_iadd C dX7_conflict_19 ?_
        refine z_topi (y := nI (a + 1)) (nI_add a 1) ?_
        refine z_istore (L' := [(4, .int (nI (a + 1))), (0, .ref (ad 0)), (1, .int (nI i)), (2, .int (nI g)), (3, .int (nI a))]) C dX7_conflict_20 (by decide) rfl ?_
        have loop22 : ∀ (d22 : Nat) (b f : Nat), n - b < d22 → (a < b) → (b ≤ n) → (f + (cou B a + cin B a b) = i) → ZZ pq l lq { frames := 4, cells := 0, slots := 0, locals := 91 } sq mq aq bq hmq cq D vwCl 12 ad 5 0 0 Qq (mF ad cI cL cB ((xs u 0 0 (nI 0)))) [(0, .ref (ad 0)), (1, .int (nI i)), (2, .int (nI f)), (3, .int (nI a)), (4, .int (nI b))] 22 [] := by
          intro d22
          induction d22 with
          | zero => intro b f hz; exact absurd hz (Nat.not_lt_zero _)
          | succ d22 ih22 =>
            intro b f hz22 hab hbn hf
            refine z_iload C dX7_conflict_22 4 rfl ?_
            refine z_aload_n C dX7_conflict_24 0 rfl ?_
            refine z_get (q := 0) C (T := TX7) (N := 18) (ci := 7) (own := RX7) (index := 49) (v := .int ((xs u 0 0 (nI 0)).1 0 1)) hT7 hown hK (by decide) rfl rfl 1 (by decide) (hts (.fieldLink RX7 49 "TriggerAnalyzerModel" "rules" "I") (by decide +kernel)) (fun _ h9 => h9) rfl dX7_conflict_25 ?_
            refine z_topi (y := u.1 0 1) (xs_j (by decide)) ?_
            refine z_topi (y := nI n) (mR_n hM.1) ?_
            refine z_icmp_ge (tgt := 71) C dX7_conflict_28 (by decide) (fun zc28 => ?_) (fun zc28 => ?_)
            · skip
              have zn28 := zge_t (a := b) (b := n) (by omega) (by omega) zc28
              refine z_iinc (L' := [(3, .int (nI (a + 1))), (0, .ref (ad 0)), (1, .int (nI i)), (2, .int (nI f)), (4, .int (nI b))]) C dX7_conflict_71 3 rfl (nI_1 a) (by decide) rfl ?_
              refine z_goto (tgt := 9) C dX7_conflict_74 (by decide) ?_
              refine z_sub (L' := [(0, .ref (ad 0)), (1, .int (nI i)), (2, .int (nI f)), (3, .int (nI (a + 1)))]) [1, 2, 3, 0] rfl ?_
              exact ih9 (a + 1) f (by omega) (by omega) (by have := cou_s B a; have h8 := cin_n hB a; have e : b = n := (by omega); rw [e] at hf; omega)
            · skip
              have zn28 := zge_f (a := b) (b := n) (by omega) (by omega) zc28
              refine z_iload_n C dX7_conflict_31 2 rfl ?_
              refine z_if_lt (tgt := 71) C dX7_conflict_32 (by decide) (fun zc32 => ?_) (fun zc32 => ?_)
              · skip
                exact (zneg (by omega) zc32).elim
              · skip
                refine z_iload_n C dX7_conflict_35 2 rfl ?_
                refine z_aload_n C dX7_conflict_36 0 rfl ?_
                refine z_iload_n C dX7_conflict_37 3 rfl ?_
                refine z_iload C dX7_conflict_38 4 rfl ?_
                refine z_callVi mX_ok C hml hown hts hK hX (c_X7_isConflict l D ad cI cL cB hI ((xs u 0 0 (nI 0))) n B (mR_s hM.1 (Or.inl ⟨rfl, by decide⟩)) hB a zn14 b zn28) (cwV 2 hts gX7_conflict_X7_isConflict rfl rfl rfl (by decide +kernel) ⟨Nat.le_of_ble_eq_true rfl, Nat.le_of_ble_eq_true rfl⟩) (by decide) (ci := 7) rfl rfl rfl (st := [.int (nI f)]) rfl (Nat.le_of_ble_eq_true rfl) dX7_conflict_40 ⟨Nat.le_of_ble_eq_true rfl, Nat.le_of_ble_eq_true rfl⟩ (fun r40 u40 h40 => ?_)
                obtain ⟨zr40, zu40⟩ := h40
                subst r40
                subst u40
                refine z_if_eq (tgt := 50) C dX7_conflict_43 (by decide) (fun zc43 => ?_) (fun zc43 => ?_)
                · skip
                  refine z_iconst (v := nI 0) C (by decide) dX7_conflict_50 ?_
                  refine z_isub C dX7_conflict_51 ?_
                  refine z_topi (y := nI f) ((pk_sub (Nat.zero_le f)).trans (by rw [Nat.sub_zero])) ?_
                  refine z_istore_n (L' := [(2, .int (nI f)), (0, .ref (ad 0)), (1, .int (nI i)), (3, .int (nI a)), (4, .int (nI b))]) C dX7_conflict_52 (by decide) rfl ?_
                  refine z_iload_n C dX7_conflict_53 0 rfl ?_
                  refine z_if_ge (tgt := 65) C dX7_conflict_54 (by decide) (fun zc54 => ?_) (fun zc54 => ?_)
                  · skip
                    refine z_iinc (L' := [(4, .int (nI (b + 1))), (2, .int (nI f)), (0, .ref (ad 0)), (1, .int (nI i)), (3, .int (nI a))]) C dX7_conflict_65 4 rfl (nI_1 b) (by decide) rfl ?_
                    refine z_goto (tgt := 22) C dX7_conflict_68 (by decide) ?_
                    refine z_sub (L' := [(0, .ref (ad 0)), (1, .int (nI i)), (2, .int (nI f)), (3, .int (nI a)), (4, .int (nI (b + 1)))]) [2, 3, 1, 4, 0] rfl ?_
                    exact ih22 (b + 1) f (by omega) (by omega) (by omega) (by have := cin_s (B := B) hab; rw [if_neg (z1f zc43)] at this; omega)
                  · skip
                    exact (znonneg (by omega) zc54).elim
                · skip
                  refine z_iconst (v := nI 1) C (by decide) dX7_conflict_46 ?_
                  refine z_goto (tgt := 51) C dX7_conflict_47 (by decide) ?_
                  have hcb := cou_below hab (by omega) (z1t zc43)
                  rcases Nat.eq_zero_or_pos f with hzz | hzz
                  · skip
                    refine z_isub C dX7_conflict_51 ?_
                    refine z_topi (y := (-1)) (by rw [hzz]; rfl) ?_
                    refine z_istore_n (L' := [(2, .int ((-1))), (0, .ref (ad 0)), (1, .int (nI i)), (3, .int (nI a)), (4, .int (nI b))]) C dX7_conflict_52 (by decide) rfl ?_
                    refine z_iload_n C dX7_conflict_53 0 rfl ?_
                    refine z_if_ge (tgt := 65) C dX7_conflict_54 (by decide) (fun zc54 => ?_) (fun zc54 => ?_)
                    · skip
                      exact False.elim (absurd zc54 (by decide))
                    · skip
                      refine z_bipush (v := nI 10) C (by decide) dX7_conflict_57 ?_
                      refine z_iload_n C dX7_conflict_59 3 rfl ?_
                      refine z_imul C dX7_conflict_60 ?_
                      refine z_topi (y := nI (10 * a)) (pk_mul 10 a) ?_
                      refine z_iload C dX7_conflict_61 4 rfl ?_
                      refine z_iadd C dX7_conflict_63 ?_
                      refine z_topi (y := nI ((10 * a) + b)) (nI_add (10 * a) b) ?_
                      exact z_iret C hr hlocks hQ ((xs u 0 0 (nI 0))) (⟨⟨a, b, hab, by omega, z1t zc43, by omega, rfl⟩, xs_s _ _ _ _, mQ_1 hM _⟩) (fun _ _ => rfl) dX7_conflict_64
                  · skip
                    refine z_isub C dX7_conflict_51 ?_
                    refine z_topi (y := nI (f - 1)) (pk_sub hzz) ?_
                    refine z_istore_n (L' := [(2, .int (nI (f - 1))), (0, .ref (ad 0)), (1, .int (nI i)), (3, .int (nI a)), (4, .int (nI b))]) C dX7_conflict_52 (by decide) rfl ?_
                    refine z_iload_n C dX7_conflict_53 0 rfl ?_
                    refine z_if_ge (tgt := 65) C dX7_conflict_54 (by decide) (fun zc54 => ?_) (fun zc54 => ?_)
                    · skip
                      refine z_iinc (L' := [(4, .int (nI (b + 1))), (2, .int (nI (f - 1))), (0, .ref (ad 0)), (1, .int (nI i)), (3, .int (nI a))]) C dX7_conflict_65 4 rfl (nI_1 b) (by decide) rfl ?_
                      refine z_goto (tgt := 22) C dX7_conflict_68 (by decide) ?_
                      refine z_sub (L' := [(0, .ref (ad 0)), (1, .int (nI i)), (2, .int (nI (f - 1))), (3, .int (nI a)), (4, .int (nI (b + 1)))]) [2, 3, 1, 4, 0] rfl ?_
                      exact ih22 (b + 1) (f - 1) (by omega) (by omega) (by omega) (by have := cin_s (B := B) hab; rw [if_pos (z1t zc43)] at this; omega)
                    · skip
                      exact (znonneg (by omega) zc54).elim
        refine z_sub (L' := [(0, .ref (ad 0)), (1, .int (nI i)), (2, .int (nI g)), (3, .int (nI a)), (4, .int (nI (a + 1)))]) [1, 2, 3, 4, 0] rfl ?_
        exact loop22 (n + 1) (a + 1) g (by omega) (by omega) (by omega) (by rw [cin_0]; omega)
  refine z_sub (L' := [(0, .ref (ad 0)), (1, .int (nI i)), (2, .int (nI i)), (3, .int (nI 0))]) [2, 3, 1, 0] rfl ?_
  exact loop9 (n + 1) 0 i (by omega) (by omega) rfl

set_option maxHeartbeats 4000000 in
set_option maxRecDepth 100000 in
theorem c_X7_conflict_vb (l : Launch) (D : va_G) (ad : Nat → Nat) (cI cL cB : ClassId) (hI : gI 12 ad) (u : xS) (n : Nat) (B : Nat → Nat → Nat) (hB : gB n B) (x : Nat) (hx : x < 64 * 2 ^ n) (hM : mI u n B x) (i : Nat) (hi : cou B 8 ≤ i) (hi2 : i < 2 ^ 31) : ∀ sz, Met l yX7_conflict wsX7_conflict ({ frames := 4, cells := 0, slots := 0, locals := 91 }) (MP D ad cI cL cB u [.ref (ad 0), .int (nI i)] sz) (va_Qi (fun r_ u' => r_ = nI 0 ∧ u'.1 0 0 = nI 1 ∧ mQ u' n B x (u.1 0 11)) (MB D ad cI cL cB) (gA 12 ad sz)) 0 0 (gA 12 ad sz) := by
  intro sz
  refine z_met (cc := cX7_conflict) (maxL := 5) (ret := (some .int)) (by decide) rfl (Nat.le_of_ble_eq_true rfl) ?_
  intro pq lq sq mq aq Qq bq hmq cq C hr hml hown hts hlocks hK hX hsz hQ
  subst hsz
  have hT7 : ∀ w ∈ wsX70, w.before aq sq = true := fun w h => hts w ((by decide +kernel : ∀ w ∈ wsX70, w ∈ wsX7_conflict) w h)
  refine z_sub (L' := [(0, .ref (ad 0)), (1, .int (nI i))]) [0, 1] rfl ?_
  have hn8 : n ≤ 8 := hB.1
  have hcn := cou_n hB
  have hc64 := cou_le B 8
  refine z_aload_n C dX7_conflict_0 0 rfl ?_
  refine z_iconst (v := nI 0) C (by decide) dX7_conflict_1 ?_
  refine z_put (q := 0) C hI tyX7 (T := TX7) (N := 18) (ci := 7) (own := RX7) (index := 45) hT7 hown hK (by decide) rfl rfl 0 (by decide) (hts (.fieldLink RX7 45 "TriggerAnalyzerModel" "thrown" "I") (by decide +kernel)) (fun _ h9 => h9) tyX7_ok nmX7 rfl rfl rfl (Nat.le_of_ble_eq_true rfl) (f' := mF ad cI cL cB ((xs u 0 0 (nI 0)))) rfl mF_ne dX7_conflict_2 ?_
  refine z_iload_n C dX7_conflict_5 1 rfl ?_
  refine z_istore_n (L' := [(2, .int (nI i)), (0, .ref (ad 0)), (1, .int (nI i))]) C dX7_conflict_6 (by decide) rfl ?_
  refine z_iconst (v := nI 0) C (by decide) dX7_conflict_7 ?_
  refine z_istore_n (L' := [(3, .int (nI 0)), (2, .int (nI i)), (0, .ref (ad 0)), (1, .int (nI i))]) C dX7_conflict_8 (by decide) rfl ?_
  have loop9 : ∀ (d9 : Nat) (a g : Nat), n - a < d9 → (a ≤ n) → (g + cou B a = i) → ZZ pq l lq { frames := 4, cells := 0, slots := 0, locals := 91 } sq mq aq bq hmq cq D vwCl 12 ad 5 0 0 Qq (mF ad cI cL cB ((xs u 0 0 (nI 0)))) [(0, .ref (ad 0)), (1, .int (nI i)), (2, .int (nI g)), (3, .int (nI a))] 9 [] := by
    intro d9
    induction d9 with
    | zero => intro a g hz; exact absurd hz (Nat.not_lt_zero _)
    | succ d9 ih9 =>
      intro a g hz9 han hg
      refine z_iload_n C dX7_conflict_9 3 rfl ?_
      refine z_aload_n C dX7_conflict_10 0 rfl ?_
      refine z_get (q := 0) C (T := TX7) (N := 18) (ci := 7) (own := RX7) (index := 49) (v := .int ((xs u 0 0 (nI 0)).1 0 1)) hT7 hown hK (by decide) rfl rfl 1 (by decide) (hts (.fieldLink RX7 49 "TriggerAnalyzerModel" "rules" "I") (by decide +kernel)) (fun _ h9 => h9) rfl dX7_conflict_11 ?_
      refine z_topi (y := u.1 0 1) (xs_j (by decide)) ?_
      refine z_topi (y := nI n) (mR_n hM.1) ?_
      refine z_icmp_ge (tgt := 77) C dX7_conflict_14 (by decide) (fun zc14 => ?_) (fun zc14 => ?_)
      · skip
        have zn14 := zge_t (a := a) (b := n) (by omega) (by omega) zc14
        refine z_aload_n C dX7_conflict_77 0 rfl ?_
        refine z_iconst (v := nI 1) C (by decide) dX7_conflict_78 ?_
        refine z_callVi mX_ok C hml hown hts hK hX (c_X7_fail l D ad cI cL cB hI ((xs u 0 0 (nI 0))) (nI 1)) (cwV 1 hts gX7_conflict_X7_fail rfl rfl rfl (by decide +kernel) ⟨Nat.le_of_ble_eq_true rfl, Nat.le_of_ble_eq_true rfl⟩) (by decide) (ci := 7) rfl rfl rfl (st := []) rfl (Nat.le_of_ble_eq_true rfl) dX7_conflict_79 ⟨Nat.le_of_ble_eq_true rfl, Nat.le_of_ble_eq_true rfl⟩ (fun r79 u79 h79 => ?_)
        obtain ⟨zr79, zu79⟩ := h79
        subst r79
        subst u79
        exact z_iret C hr hlocks hQ (xs ((xs u 0 0 (nI 0))) 0 0 ((nI 1))) (⟨rfl, xs_s _ _ _ _, mQ_2 hM _ _⟩) (fun _ _ => rfl) dX7_conflict_82
      · skip
        have zn14 := zge_f (a := a) (b := n) (by omega) (by omega) zc14
        refine z_iload_n C dX7_conflict_17 3 rfl ?_
        refine z_iconst (v := nI 1) C (by decide) dX7_conflict_18 ?_
        refine z_iadd C dX7_conflict_19 ?_
        refine z_topi (y := nI (a + 1)) (nI_add a 1) ?_
        refine z_istore (L' := [(4, .int (nI (a + 1))), (0, .ref (ad 0)), (1, .int (nI i)), (2, .int (nI g)), (3, .int (nI a))]) C dX7_conflict_20 (by decide) rfl ?_
        have loop22 : ∀ (d22 : Nat) (b f : Nat), n - b < d22 → (a < b) → (b ≤ n) → (f + (cou B a + cin B a b) = i) → ZZ pq l lq { frames := 4, cells := 0, slots := 0, locals := 91 } sq mq aq bq hmq cq D vwCl 12 ad 5 0 0 Qq (mF ad cI cL cB ((xs u 0 0 (nI 0)))) [(0, .ref (ad 0)), (1, .int (nI i)), (2, .int (nI f)), (3, .int (nI a)), (4, .int (nI b))] 22 [] := by
          intro d22
          induction d22 with
          | zero => intro b f hz; exact absurd hz (Nat.not_lt_zero _)
          | succ d22 ih22 =>
            intro b f hz22 hab hbn hf
            refine z_iload C dX7_conflict_22 4 rfl ?_
            refine z_aload_n C dX7_conflict_24 0 rfl ?_
            refine z_get (q := 0) C (T := TX7) (N := 18) (ci := 7) (own := RX7) (index := 49) (v := .int ((xs u 0 0 (nI 0)).1 0 1)) hT7 hown hK (by decide) rfl rfl 1 (by decide) (hts (.fieldLink RX7 49 "TriggerAnalyzerModel" "rules" "I") (by decide +kernel)) (fun _ h9 => h9) rfl dX7_conflict_25 ?_
            refine z_topi (y := u.1 0 1) (xs_j (by decide)) ?_
            refine z_topi (y := nI n) (mR_n hM.1) ?_
            refine z_icmp_ge (tgt := 71) C dX7_conflict_28 (by decide) (fun zc28 => ?_) (fun zc28 => ?_)
            · skip
              have zn28 := zge_t (a := b) (b := n) (by omega) (by omega) zc28
              refine z_iinc (L' := [(3, .int (nI (a + 1))), (0, .ref (ad 0)), (1, .int (nI i)), (2, .int (nI f)), (4, .int (nI b))]) C dX7_conflict_71 3 rfl (nI_1 a) (by decide) rfl ?_
              refine z_goto (tgt := 9) C dX7_conflict_74 (by decide) ?_
              refine z_sub (L' := [(0, .ref (ad 0)), (1, .int (nI i)), (2, .int (nI f)), (3, .int (nI (a + 1)))]) [1, 2, 3, 0] rfl ?_
              exact ih9 (a + 1) f (by omega) (by omega) (by have := cou_s B a; have h8 := cin_n hB a; have e : b = n := (by omega); rw [e] at hf; omega)
            · skip
              have zn28 := zge_f (a := b) (b := n) (by omega) (by omega) zc28
              refine z_iload_n C dX7_conflict_31 2 rfl ?_
              refine z_if_lt (tgt := 71) C dX7_conflict_32 (by decide) (fun zc32 => ?_) (fun zc32 => ?_)
              · skip
                exact (zneg (by omega) zc32).elim
              · skip
                refine z_iload_n C dX7_conflict_35 2 rfl ?_
                refine z_aload_n C dX7_conflict_36 0 rfl ?_
                refine z_iload_n C dX7_conflict_37 3 rfl ?_
                refine z_iload C dX7_conflict_38 4 rfl ?_
                refine z_callVi mX_ok C hml hown hts hK hX (c_X7_isConflict l D ad cI cL cB hI ((xs u 0 0 (nI 0))) n B (mR_s hM.1 (Or.inl ⟨rfl, by decide⟩)) hB a zn14 b zn28) (cwV 2 hts gX7_conflict_X7_isConflict rfl rfl rfl (by decide +kernel) ⟨Nat.le_of_ble_eq_true rfl, Nat.le_of_ble_eq_true rfl⟩) (by decide) (ci := 7) rfl rfl rfl (st := [.int (nI f)]) rfl (Nat.le_of_ble_eq_true rfl) dX7_conflict_40 ⟨Nat.le_of_ble_eq_true rfl, Nat.le_of_ble_eq_true rfl⟩ (fun r40 u40 h40 => ?_)
                obtain ⟨zr40, zu40⟩ := h40
                subst r40
                subst u40
                refine z_if_eq (tgt := 50) C dX7_conflict_43 (by decide) (fun zc43 => ?_) (fun zc43 => ?_)
                · skip
                  refine z_iconst (v := nI 0) C (by decide) dX7_conflict_50 ?_
                  refine z_isub C dX7_conflict_51 ?_
                  refine z_topi (y := nI f) ((pk_sub (Nat.zero_le f)).trans (by rw [Nat.sub_zero])) ?_
                  refine z_istore_n (L' := [(2, .int (nI f)), (0, .ref (ad 0)), (1, .int (nI i)), (3, .int (nI a)), (4, .int (nI b))]) C dX7_conflict_52 (by decide) rfl ?_
                  refine z_iload_n C dX7_conflict_53 0 rfl ?_
                  refine z_if_ge (tgt := 65) C dX7_conflict_54 (by decide) (fun zc54 => ?_) (fun zc54 => ?_)
                  · skip
                    refine z_iinc (L' := [(4, .int (nI (b + 1))), (2, .int (nI f)), (0, .ref (ad 0)), (1, .int (nI i)), (3, .int (nI a))]) C dX7_conflict_65 4 rfl (nI_1 b) (by decide) rfl ?_
                    refine z_goto (tgt := 22) C dX7_conflict_68 (by decide) ?_
                    refine z_sub (L' := [(0, .ref (ad 0)), (1, .int (nI i)), (2, .int (nI f)), (3, .int (nI a)), (4, .int (nI (b + 1)))]) [2, 3, 1, 4, 0] rfl ?_
                    exact ih22 (b + 1) f (by omega) (by omega) (by omega) (by have := cin_s (B := B) hab; rw [if_neg (z1f zc43)] at this; omega)
                  · skip
                    exact (znonneg (by omega) zc54).elim
                · skip
                  refine z_iconst (v := nI 1) C (by decide) dX7_conflict_46 ?_
                  refine z_goto (tgt := 51) C dX7_conflict_47 (by decide) ?_
                  have hcb := cou_below hab (by omega) (z1t zc43)
                  rcases Nat.eq_zero_or_pos f with hzz | hzz
                  · skip
                    exact absurd hzz (by omega)
                  · skip
                    refine z_isub C dX7_conflict_51 ?_
                    refine z_topi (y := nI (f - 1)) (pk_sub hzz) ?_
                    refine z_istore_n (L' := [(2, .int (nI (f - 1))), (0, .ref (ad 0)), (1, .int (nI i)), (3, .int (nI a)), (4, .int (nI b))]) C dX7_conflict_52 (by decide) rfl ?_
                    refine z_iload_n C dX7_conflict_53 0 rfl ?_
                    refine z_if_ge (tgt := 65) C dX7_conflict_54 (by decide) (fun zc54 => ?_) (fun zc54 => ?_)
                    · skip
                      refine z_iinc (L' := [(4, .int (nI (b + 1))), (2, .int (nI (f - 1))), (0, .ref (ad 0)), (1, .int (nI i)), (3, .int (nI a))]) C dX7_conflict_65 4 rfl (nI_1 b) (by decide) rfl ?_
                      refine z_goto (tgt := 22) C dX7_conflict_68 (by decide) ?_
                      refine z_sub (L' := [(0, .ref (ad 0)), (1, .int (nI i)), (2, .int (nI (f - 1))), (3, .int (nI a)), (4, .int (nI (b + 1)))]) [2, 3, 1, 4, 0] rfl ?_
                      exact ih22 (b + 1) (f - 1) (by omega) (by omega) (by omega) (by have := cin_s (B := B) hab; rw [if_pos (z1t zc43)] at this; omega)
                    · skip
                      exact (znonneg (by omega) zc54).elim
        refine z_sub (L' := [(0, .ref (ad 0)), (1, .int (nI i)), (2, .int (nI g)), (3, .int (nI a)), (4, .int (nI (a + 1)))]) [1, 2, 3, 4, 0] rfl ?_
        exact loop22 (n + 1) (a + 1) g (by omega) (by omega) (by omega) (by rw [cin_0]; omega)
  refine z_sub (L' := [(0, .ref (ad 0)), (1, .int (nI i)), (2, .int (nI i)), (3, .int (nI 0))]) [2, 3, 1, 0] rfl ?_
  exact loop9 (n + 1) 0 i (by omega) (by omega) rfl

set_option maxHeartbeats 4000000 in
set_option maxRecDepth 100000 in
theorem c_X7_conflict_vn (l : Launch) (D : va_G) (ad : Nat → Nat) (cI cL cB : ClassId) (hI : gI 12 ad) (u : xS) (n : Nat) (B : Nat → Nat → Nat) (hB : gB n B) (x : Nat) (hx : x < 64 * 2 ^ n) (hM : mI u n B x) (x1 : Int32) (hf : x1 < 0) : ∀ sz, Met l yX7_conflict wsX7_conflict ({ frames := 4, cells := 0, slots := 0, locals := 91 }) (MP D ad cI cL cB u [.ref (ad 0), .int (x1)] sz) (va_Qi (fun r_ u' => r_ = nI 0 ∧ u'.1 0 0 = nI 1 ∧ mQ u' n B x (u.1 0 11)) (MB D ad cI cL cB) (gA 12 ad sz)) 0 0 (gA 12 ad sz) := by
  intro sz
  refine z_met (cc := cX7_conflict) (maxL := 5) (ret := (some .int)) (by decide) rfl (Nat.le_of_ble_eq_true rfl) ?_
  intro pq lq sq mq aq Qq bq hmq cq C hr hml hown hts hlocks hK hX hsz hQ
  subst hsz
  have hT7 : ∀ w ∈ wsX70, w.before aq sq = true := fun w h => hts w ((by decide +kernel : ∀ w ∈ wsX70, w ∈ wsX7_conflict) w h)
  refine z_sub (L' := [(0, .ref (ad 0)), (1, .int (x1))]) [0, 1] rfl ?_
  have hn8 : n ≤ 8 := hB.1
  refine z_aload_n C dX7_conflict_0 0 rfl ?_
  refine z_iconst (v := nI 0) C (by decide) dX7_conflict_1 ?_
  refine z_put (q := 0) C hI tyX7 (T := TX7) (N := 18) (ci := 7) (own := RX7) (index := 45) hT7 hown hK (by decide) rfl rfl 0 (by decide) (hts (.fieldLink RX7 45 "TriggerAnalyzerModel" "thrown" "I") (by decide +kernel)) (fun _ h9 => h9) tyX7_ok nmX7 rfl rfl rfl (Nat.le_of_ble_eq_true rfl) (f' := mF ad cI cL cB ((xs u 0 0 (nI 0)))) rfl mF_ne dX7_conflict_2 ?_
  refine z_iload_n C dX7_conflict_5 1 rfl ?_
  refine z_istore_n (L' := [(2, .int (x1)), (0, .ref (ad 0)), (1, .int (x1))]) C dX7_conflict_6 (by decide) rfl ?_
  refine z_iconst (v := nI 0) C (by decide) dX7_conflict_7 ?_
  refine z_istore_n (L' := [(3, .int (nI 0)), (2, .int (x1)), (0, .ref (ad 0)), (1, .int (x1))]) C dX7_conflict_8 (by decide) rfl ?_
  have loop9 : ∀ (d9 : Nat) (a : Nat), n - a < d9 → (a ≤ n) → ZZ pq l lq { frames := 4, cells := 0, slots := 0, locals := 91 } sq mq aq bq hmq cq D vwCl 12 ad 5 0 0 Qq (mF ad cI cL cB ((xs u 0 0 (nI 0)))) [(0, .ref (ad 0)), (1, .int (x1)), (2, .int (x1)), (3, .int (nI a))] 9 [] := by
    intro d9
    induction d9 with
    | zero => intro a hz; exact absurd hz (Nat.not_lt_zero _)
    | succ d9 ih9 =>
      intro a hz9 han
      refine z_iload_n C dX7_conflict_9 3 rfl ?_
      refine z_aload_n C dX7_conflict_10 0 rfl ?_
      refine z_get (q := 0) C (T := TX7) (N := 18) (ci := 7) (own := RX7) (index := 49) (v := .int ((xs u 0 0 (nI 0)).1 0 1)) hT7 hown hK (by decide) rfl rfl 1 (by decide) (hts (.fieldLink RX7 49 "TriggerAnalyzerModel" "rules" "I") (by decide +kernel)) (fun _ h9 => h9) rfl dX7_conflict_11 ?_
      refine z_topi (y := u.1 0 1) (xs_j (by decide)) ?_
      refine z_topi (y := nI n) (mR_n hM.1) ?_
      refine z_icmp_ge (tgt := 77) C dX7_conflict_14 (by decide) (fun zc14 => ?_) (fun zc14 => ?_)
      · skip
        have zn14 := zge_t (a := a) (b := n) (by omega) (by omega) zc14
        refine z_aload_n C dX7_conflict_77 0 rfl ?_
        refine z_iconst (v := nI 1) C (by decide) dX7_conflict_78 ?_
        refine z_callVi mX_ok C hml hown hts hK hX (c_X7_fail l D ad cI cL cB hI ((xs u 0 0 (nI 0))) (nI 1)) (cwV 1 hts gX7_conflict_X7_fail rfl rfl rfl (by decide +kernel) ⟨Nat.le_of_ble_eq_true rfl, Nat.le_of_ble_eq_true rfl⟩) (by decide) (ci := 7) rfl rfl rfl (st := []) rfl (Nat.le_of_ble_eq_true rfl) dX7_conflict_79 ⟨Nat.le_of_ble_eq_true rfl, Nat.le_of_ble_eq_true rfl⟩ (fun r79 u79 h79 => ?_)
        obtain ⟨zr79, zu79⟩ := h79
        subst r79
        subst u79
        exact z_iret C hr hlocks hQ (xs ((xs u 0 0 (nI 0))) 0 0 ((nI 1))) (⟨rfl, xs_s _ _ _ _, mQ_2 hM _ _⟩) (fun _ _ => rfl) dX7_conflict_82
      · skip
        have zn14 := zge_f (a := a) (b := n) (by omega) (by omega) zc14
        refine z_iload_n C dX7_conflict_17 3 rfl ?_
        refine z_iconst (v := nI 1) C (by decide) dX7_conflict_18 ?_
        refine z_iadd C dX7_conflict_19 ?_
        refine z_topi (y := nI (a + 1)) (nI_add a 1) ?_
        refine z_istore (L' := [(4, .int (nI (a + 1))), (0, .ref (ad 0)), (1, .int (x1)), (2, .int (x1)), (3, .int (nI a))]) C dX7_conflict_20 (by decide) rfl ?_
        refine z_iload C dX7_conflict_22 0 rfl ?_
        refine z_aload_n C dX7_conflict_24 1 rfl ?_
        refine z_get (q := 0) C (T := TX7) (N := 18) (ci := 7) (own := RX7) (index := 49) (v := .int ((xs u 0 0 (nI 0)).1 0 1)) hT7 hown hK (by decide) rfl rfl 1 (by decide) (hts (.fieldLink RX7 49 "TriggerAnalyzerModel" "rules" "I") (by decide +kernel)) (fun _ h9 => h9) rfl dX7_conflict_25 ?_
        refine z_topi (y := u.1 0 1) (xs_j (by decide)) ?_
        refine z_topi (y := nI n) (mR_n hM.1) ?_
        refine z_icmp_ge (tgt := 71) C dX7_conflict_28 (by decide) (fun zc28 => ?_) (fun zc28 => ?_)
        · skip
          have zn28 := zge_t (a := a + 1) (b := n) (by omega) (by omega) zc28
          refine z_iinc (L' := [(3, .int (nI (a + 1))), (4, .int (nI (a + 1))), (0, .ref (ad 0)), (1, .int (x1)), (2, .int (x1))]) C dX7_conflict_71 4 rfl (nI_1 a) (by decide) rfl ?_
          refine z_goto (tgt := 9) C dX7_conflict_74 (by decide) ?_
          refine z_sub (L' := [(0, .ref (ad 0)), (1, .int (x1)), (2, .int (x1)), (3, .int (nI (a + 1)))]) [2, 3, 4, 0] rfl ?_
          exact ih9 (a + 1) (by omega) (by omega)
        · skip
          have zn28 := zge_f (a := a + 1) (b := n) (by omega) (by omega) zc28
          refine z_iload_n C dX7_conflict_31 3 rfl ?_
          refine z_if_lt (tgt := 71) C dX7_conflict_32 (by decide) (fun zc32 => ?_) (fun zc32 => ?_)
          · skip
            refine z_iinc (L' := [(3, .int (nI (a + 1))), (4, .int (nI (a + 1))), (0, .ref (ad 0)), (1, .int (x1)), (2, .int (x1))]) C dX7_conflict_71 4 rfl (nI_1 a) (by decide) rfl ?_
            refine z_goto (tgt := 9) C dX7_conflict_74 (by decide) ?_
            refine z_sub (L' := [(0, .ref (ad 0)), (1, .int (x1)), (2, .int (x1)), (3, .int (nI (a + 1)))]) [2, 3, 4, 0] rfl ?_
            exact ih9 (a + 1) (by omega) (by omega)
          · skip
            exact False.elim (zc32 hf)
  refine z_sub (L' := [(0, .ref (ad 0)), (1, .int (x1)), (2, .int (x1)), (3, .int (nI 0))]) [2, 3, 1, 0] rfl ?_
  exact loop9 (n + 1) 0 (by omega) (by omega)

set_option maxHeartbeats 4000000 in
set_option maxRecDepth 100000 in
theorem c_X7_digest_v0 (l : Launch) (D : va_G) (ad : Nat → Nat) (cI cL cB : ClassId) (hI : gI 12 ad) (u : xS) (n : Nat) (B : Nat → Nat → Nat) (hB : gB n B) (x : Nat) (hx : x < 64 * 2 ^ n) (hM : mI u n B x) (h11 : u.1 0 11 = 0) : ∀ sz, Met l yX7_digest wsX7_digest ({ frames := 0, cells := 0, slots := 0, locals := 0 }) (MP D ad cI cL cB u [.ref (ad 0)] sz) (va_Ql (fun r_ u' => r_ = ((dbok B (157 * 31 + (nI n).toInt64) n * 31 + (nI (x % 64)).toInt64) * 31 + (nI (x / 64)).toInt64) ∧ u'.1 0 0 = nI 0 ∧ mQ u' n B x (u.1 0 11)) (MB D ad cI cL cB) (gA 12 ad sz)) 0 0 (gA 12 ad sz) := by
  intro sz
  refine z_met (cc := cX7_digest) (maxL := 5) (ret := (some .long)) (by decide) rfl (Nat.le_of_ble_eq_true rfl) ?_
  intro pq lq sq mq aq Qq bq hmq cq C hr hml hown hts hlocks hK hX hsz hQ
  subst hsz
  have hT7 : ∀ w ∈ wsX70, w.before aq sq = true := fun w h => hts w ((by decide +kernel : ∀ w ∈ wsX70, w ∈ wsX7_digest) w h)
  refine z_sub (L' := [(0, .ref (ad 0))]) [0] rfl ?_
  have hn8 : n ≤ 8 := hB.1
  refine z_aload_n C dX7_digest_0 0 rfl ?_
  refine z_iconst (v := nI 0) C (by decide) dX7_digest_1 ?_
  refine z_put (q := 0) C hI tyX7 (T := TX7) (N := 18) (ci := 7) (own := RX7) (index := 45) hT7 hown hK (by decide) rfl rfl 0 (by decide) (hts (.fieldLink RX7 45 "TriggerAnalyzerModel" "thrown" "I") (by decide +kernel)) (fun _ h9 => h9) tyX7_ok nmX7 rfl rfl rfl (Nat.le_of_ble_eq_true rfl) (f' := mF ad cI cL cB ((xs u 0 0 (nI 0)))) rfl mF_ne dX7_digest_2 ?_
  refine z_ldc2 (v := (4867)) C hown (hts (.constantLong RX7 166 (4867)) (by decide +kernel)) dX7_digest_5 ?_
  refine z_aload_n C dX7_digest_8 0 rfl ?_
  refine z_get (q := 0) C (T := TX7) (N := 18) (ci := 7) (own := RX7) (index := 49) (v := .int ((xs u 0 0 (nI 0)).1 0 1)) hT7 hown hK (by decide) rfl rfl 1 (by decide) (hts (.fieldLink RX7 49 "TriggerAnalyzerModel" "rules" "I") (by decide +kernel)) (fun _ h9 => h9) rfl dX7_digest_9 ?_
  refine z_topi (y := u.1 0 1) (xs_j (by decide)) ?_
  refine z_topi (y := nI n) (mR_n hM.1) ?_
  refine z_i2l C rfl dX7_digest_12 ?_
  refine z_ladd C dX7_digest_13 ?_
  refine z_lstore_n (L' := [(1, .long ((4867) + ((nI n : Int32).toInt64))), (0, .ref (ad 0))]) C dX7_digest_14 (by decide) rfl ?_
  refine z_iconst (v := nI 0) C (by decide) dX7_digest_15 ?_
  refine z_istore_n (L' := [(3, .int (nI 0)), (1, .long ((4867) + ((nI n : Int32).toInt64))), (0, .ref (ad 0))]) C dX7_digest_16 (by decide) rfl ?_
  have loop17 : ∀ (d17 : Nat) (r : Nat) (d9 : Int64), n - r < d17 → (r ≤ n) → (d9 = dbok B (157 * 31 + (nI n).toInt64) r) → ZZ pq l lq { frames := 0, cells := 0, slots := 0, locals := 0 } sq mq aq bq hmq cq D vwCl 12 ad 5 0 0 Qq (mF ad cI cL cB ((xs u 0 0 (nI 0)))) [(0, .ref (ad 0)), (1, .long (d9)), (3, .int (nI r))] 17 [] := by
    intro d17
    induction d17 with
    | zero => intro r d9 hz; exact absurd hz (Nat.not_lt_zero _)
    | succ d17 ih17 =>
      intro r d9 hz17 hrn hd9
      refine z_iload_n C dX7_digest_17 2 rfl ?_
      refine z_aload_n C dX7_digest_18 0 rfl ?_
      refine z_get (q := 0) C (T := TX7) (N := 18) (ci := 7) (own := RX7) (index := 49) (v := .int ((xs u 0 0 (nI 0)).1 0 1)) hT7 hown hK (by decide) rfl rfl 1 (by decide) (hts (.fieldLink RX7 49 "TriggerAnalyzerModel" "rules" "I") (by decide +kernel)) (fun _ h9 => h9) rfl dX7_digest_19 ?_
      refine z_topi (y := u.1 0 1) (xs_j (by decide)) ?_
      refine z_topi (y := nI n) (mR_n hM.1) ?_
      refine z_icmp_ge (tgt := 153) C dX7_digest_22 (by decide) (fun zc22 => ?_) (fun zc22 => ?_)
      · skip
        have zn22 := zge_t (a := r) (b := n) (by omega) (by omega) zc22
        refine z_lload_n C dX7_digest_153 1 rfl ?_
        refine z_ldc2 (v := (31)) C hown (hts (.constantLong RX7 168 (31)) (by decide +kernel)) dX7_digest_154 ?_
        refine z_lmul C dX7_digest_157 ?_
        refine z_aload_n C dX7_digest_158 0 rfl ?_
        refine z_get (q := 0) C (T := TX7) (N := 18) (ci := 7) (own := RX7) (index := 91) (v := .int ((xs u 0 0 (nI 0)).1 0 9)) hT7 hown hK (by decide) rfl rfl 9 (by decide) (hts (.fieldLink RX7 91 "TriggerAnalyzerModel" "facts" "I") (by decide +kernel)) (fun _ h9 => h9) rfl dX7_digest_159 ?_
        refine z_topi (y := u.1 0 9) (xs_j (by decide)) ?_
        refine z_topi (y := nI (x % 64)) (hM.2.1) ?_
        refine z_i2l C rfl dX7_digest_162 ?_
        refine z_ladd C dX7_digest_163 ?_
        refine z_ldc2 (v := (31)) C hown (hts (.constantLong RX7 168 (31)) (by decide +kernel)) dX7_digest_164 ?_
        refine z_lmul C dX7_digest_167 ?_
        refine z_aload_n C dX7_digest_168 0 rfl ?_
        refine z_get (q := 0) C (T := TX7) (N := 18) (ci := 7) (own := RX7) (index := 74) (v := .int ((xs u 0 0 (nI 0)).1 0 10)) hT7 hown hK (by decide) rfl rfl 10 (by decide) (hts (.fieldLink RX7 74 "TriggerAnalyzerModel" "triggered" "I") (by decide +kernel)) (fun _ h9 => h9) rfl dX7_digest_169 ?_
        refine z_topi (y := u.1 0 10) (xs_j (by decide)) ?_
        refine z_topi (y := nI (x / 64)) (hM.2.2.1) ?_
        refine z_i2l C rfl dX7_digest_172 ?_
        refine z_ladd C dX7_digest_173 ?_
        refine z_lstore_n (L' := [(1, .long (((((d9) * (31)) + ((nI (x % 64) : Int32).toInt64)) * (31)) + ((nI (x / 64) : Int32).toInt64))), (0, .ref (ad 0)), (3, .int (nI r))]) C dX7_digest_174 (by decide) rfl ?_
        refine z_aload_n C dX7_digest_175 1 rfl ?_
        refine z_get (q := 0) C (T := TX7) (N := 18) (ci := 7) (own := RX7) (index := 67) (v := .int ((xs u 0 0 (nI 0)).1 0 11)) hT7 hown hK (by decide) rfl rfl 11 (by decide) (hts (.fieldLink RX7 67 "TriggerAnalyzerModel" "isExplored" "Z") (by decide +kernel)) (fun _ h9 => h9) rfl dX7_digest_176 ?_
        refine z_topi (y := u.1 0 11) (xs_j (by decide)) ?_
        refine z_topi (y := nI 0) (h11) ?_
        refine z_if_eq (tgt := 207) C dX7_digest_179 (by decide) (fun zc179 => ?_) (fun zc179 => ?_)
        · skip
          have zn179 := z0_t (by omega) zc179
          refine z_lload_n C dX7_digest_207 0 rfl ?_
          exact z_lret C hr hlocks hQ ((xs u 0 0 (nI 0))) (⟨by rw [hd9, show r = n by omega], xs_s _ _ _ _, mQ_1 hM _⟩) (fun _ _ => rfl) dX7_digest_208
        · skip
          have zn179 := z0_f zc179
          exact absurd zn179 (by decide)
      · skip
        have zn22 := zge_f (a := r) (b := n) (by omega) (by omega) zc22
        have g4 : B r 4 ≤ 4 := gB_4 hB (by omega)
        have g3 : B r 3 ≤ 1 := gB_3 hB (by omega)
        refine z_lload_n C dX7_digest_25 1 rfl ?_
        refine z_ldc2 (v := (31)) C hown (hts (.constantLong RX7 168 (31)) (by decide +kernel)) dX7_digest_26 ?_
        refine z_lmul C dX7_digest_29 ?_
        refine z_aload_n C dX7_digest_30 0 rfl ?_
        refine z_get (q := 0) C (T := TX7) (N := 18) (ci := 7) (own := RX7) (index := 9) (v := .ref (ad 1)) hT7 hown hK (by decide) rfl rfl 2 (by decide) (hts (.fieldLink RX7 9 "TriggerAnalyzerModel" "events" "[I") (by decide +kernel)) (fun _ h9 => h9) rfl dX7_digest_31 ?_
        refine z_iload_n C dX7_digest_34 2 rfl ?_
        refine z_iald (q := 1) (len := 8) (k := r) C hK (by decide) rfl 0 rfl (rfl) (by omega) (by decide) dX7_digest_35 ?_
        refine z_topi (y := u.1 1 r) (xs_c (by decide) _) ?_
        refine z_topi (y := nI (B r 0)) (mR_0 hM.1 (by omega)) ?_
        refine z_i2l C rfl dX7_digest_36 ?_
        refine z_ladd C dX7_digest_37 ?_
        refine z_ldc2 (v := (31)) C hown (hts (.constantLong RX7 168 (31)) (by decide +kernel)) dX7_digest_38 ?_
        refine z_lmul C dX7_digest_41 ?_
        refine z_aload_n C dX7_digest_42 0 rfl ?_
        refine z_get (q := 0) C (T := TX7) (N := 18) (ci := 7) (own := RX7) (index := 13) (v := .ref (ad 2)) hT7 hown hK (by decide) rfl rfl 3 (by decide) (hts (.fieldLink RX7 13 "TriggerAnalyzerModel" "musts" "[I") (by decide +kernel)) (fun _ h9 => h9) rfl dX7_digest_43 ?_
        refine z_iload_n C dX7_digest_46 2 rfl ?_
        refine z_iald (q := 2) (len := 8) (k := r) C hK (by decide) rfl 0 rfl (rfl) (by omega) (by decide) dX7_digest_47 ?_
        refine z_topi (y := u.1 2 r) (xs_c (by decide) _) ?_
        refine z_topi (y := nI (B r 1)) (mR_1 hM.1 (by omega)) ?_
        refine z_i2l C rfl dX7_digest_48 ?_
        refine z_ladd C dX7_digest_49 ?_
        refine z_ldc2 (v := (31)) C hown (hts (.constantLong RX7 168 (31)) (by decide +kernel)) dX7_digest_50 ?_
        refine z_lmul C dX7_digest_53 ?_
        refine z_aload_n C dX7_digest_54 0 rfl ?_
        refine z_get (q := 0) C (T := TX7) (N := 18) (ci := 7) (own := RX7) (index := 16) (v := .ref (ad 3)) hT7 hown hK (by decide) rfl rfl 4 (by decide) (hts (.fieldLink RX7 16 "TriggerAnalyzerModel" "mustNots" "[I") (by decide +kernel)) (fun _ h9 => h9) rfl dX7_digest_55 ?_
        refine z_iload_n C dX7_digest_58 2 rfl ?_
        refine z_iald (q := 3) (len := 8) (k := r) C hK (by decide) rfl 0 rfl (rfl) (by omega) (by decide) dX7_digest_59 ?_
        refine z_topi (y := u.1 3 r) (xs_c (by decide) _) ?_
        refine z_topi (y := nI (B r 2)) (mR_2 hM.1 (by omega)) ?_
        refine z_i2l C rfl dX7_digest_60 ?_
        refine z_ladd C dX7_digest_61 ?_
        refine z_ldc2 (v := (31)) C hown (hts (.constantLong RX7 168 (31)) (by decide +kernel)) dX7_digest_62 ?_
        refine z_lmul C dX7_digest_65 ?_
        refine z_aload_n C dX7_digest_66 0 rfl ?_
        refine z_get (q := 0) C (T := TX7) (N := 18) (ci := 7) (own := RX7) (index := 19) (v := .ref (ad 4)) hT7 hown hK (by decide) rfl rfl 5 (by decide) (hts (.fieldLink RX7 19 "TriggerAnalyzerModel" "many" "[I") (by decide +kernel)) (fun _ h9 => h9) rfl dX7_digest_67 ?_
        refine z_iload_n C dX7_digest_70 2 rfl ?_
        refine z_iald (q := 4) (len := 8) (k := r) C hK (by decide) rfl 0 rfl (rfl) (by omega) (by decide) dX7_digest_71 ?_
        refine z_topi (y := u.1 4 r) (xs_c (by decide) _) ?_
        refine z_topi (y := nI (B r 4)) (mR_4 hM.1 (by omega)) ?_
        refine z_i2l C rfl dX7_digest_72 ?_
        refine z_ladd C dX7_digest_73 ?_
        refine z_lstore_n (L' := [(1, .long (((((((((d9) * (31)) + ((nI (B r 0) : Int32).toInt64)) * (31)) + ((nI (B r 1) : Int32).toInt64)) * (31)) + ((nI (B r 2) : Int32).toInt64)) * (31)) + ((nI (B r 4) : Int32).toInt64))), (0, .ref (ad 0)), (3, .int (nI r))]) C dX7_digest_74 (by decide) rfl ?_
        refine z_iconst (v := nI 0) C (by decide) dX7_digest_75 ?_
        refine z_istore (L' := [(4, .int (nI 0)), (1, .long (((((((((d9) * (31)) + ((nI (B r 0) : Int32).toInt64)) * (31)) + ((nI (B r 1) : Int32).toInt64)) * (31)) + ((nI (B r 2) : Int32).toInt64)) * (31)) + ((nI (B r 4) : Int32).toInt64))), (0, .ref (ad 0)), (3, .int (nI r))]) C dX7_digest_76 (by decide) rfl ?_
        have loop78 : ∀ (d78 : Nat) (k : Nat) (e9 : Int64), B r 4 - k < d78 → (k ≤ B r 4) → (e9 = dact B r ((((d9 * 31 + (nI (B r 0)).toInt64) * 31 + (nI (B r 1)).toInt64) * 31 + (nI (B r 2)).toInt64) * 31 + (nI (B r 4)).toInt64) k) → ZZ pq l lq { frames := 0, cells := 0, slots := 0, locals := 0 } sq mq aq bq hmq cq D vwCl 12 ad 5 0 0 Qq (mF ad cI cL cB ((xs u 0 0 (nI 0)))) [(0, .ref (ad 0)), (1, .long (e9)), (3, .int (nI r)), (4, .int (nI k))] 78 [] := by
          intro d78
          induction d78 with
          | zero => intro k e9 hz; exact absurd hz (Nat.not_lt_zero _)
          | succ d78 ih78 =>
            intro k e9 hz78 hk he9
            refine z_iload C dX7_digest_78 3 rfl ?_
            refine z_aload_n C dX7_digest_80 0 rfl ?_
            refine z_get (q := 0) C (T := TX7) (N := 18) (ci := 7) (own := RX7) (index := 19) (v := .ref (ad 4)) hT7 hown hK (by decide) rfl rfl 5 (by decide) (hts (.fieldLink RX7 19 "TriggerAnalyzerModel" "many" "[I") (by decide +kernel)) (fun _ h9 => h9) rfl dX7_digest_81 ?_
            refine z_iload_n C dX7_digest_84 2 rfl ?_
            refine z_iald (q := 4) (len := 8) (k := r) C hK (by decide) rfl 0 rfl (rfl) (by omega) (by decide) dX7_digest_85 ?_
            refine z_topi (y := u.1 4 r) (xs_c (by decide) _) ?_
            refine z_topi (y := nI (B r 4)) (mR_4 hM.1 (by omega)) ?_
            refine z_icmp_ge (tgt := 114) C dX7_digest_86 (by decide) (fun zc86 => ?_) (fun zc86 => ?_)
            · skip
              have zn86 := zge_t (a := k) (b := B r 4) (by omega) (by omega) zc86
              refine z_lload_n C dX7_digest_114 1 rfl ?_
              refine z_ldc2 (v := (31)) C hown (hts (.constantLong RX7 168 (31)) (by decide +kernel)) dX7_digest_115 ?_
              refine z_lmul C dX7_digest_118 ?_
              refine z_aload_n C dX7_digest_119 0 rfl ?_
              refine z_get (q := 0) C (T := TX7) (N := 18) (ci := 7) (own := RX7) (index := 25) (v := .ref (ad 6)) hT7 hown hK (by decide) rfl rfl 7 (by decide) (hts (.fieldLink RX7 25 "TriggerAnalyzerModel" "areOn" "[Z") (by decide +kernel)) (fun _ h9 => h9) rfl dX7_digest_120 ?_
              refine z_iload_n C dX7_digest_123 2 rfl ?_
              refine z_za (q := 6) (len := 8) (k := r) C hK (by decide) rfl 2 rfl (rfl) (by omega) (by decide) dX7_digest_124 ?_
              refine z_topi (y := u.1 6 r) (xs_c (by decide) _) ?_
              refine z_topi (y := nI (B r 3)) (mR_3 hM.1 (by omega)) ?_
              refine z_if_eq (tgt := 132) C dX7_digest_125 (by decide) (fun zc125 => ?_) (fun zc125 => ?_)
              · skip
                have zn125 := z0_t (by omega) zc125
                refine z_lconst (v := 0) C (by decide) dX7_digest_132 ?_
                refine z_topl (y := (nI (B r 3)).toInt64) (by rw [zn125]; rfl) ?_
                refine z_ladd C dX7_digest_133 ?_
                refine z_ldc2 (v := (31)) C hown (hts (.constantLong RX7 168 (31)) (by decide +kernel)) dX7_digest_134 ?_
                refine z_lmul C dX7_digest_137 ?_
                refine z_aload_n C dX7_digest_138 0 rfl ?_
                refine z_get (q := 0) C (T := TX7) (N := 18) (ci := 7) (own := RX7) (index := 29) (v := .ref (ad 7)) hT7 hown hK (by decide) rfl rfl 8 (by decide) (hts (.fieldLink RX7 29 "TriggerAnalyzerModel" "below" "[I") (by decide +kernel)) (fun _ h9 => h9) rfl dX7_digest_139 ?_
                refine z_iload_n C dX7_digest_142 2 rfl ?_
                refine z_iald (q := 7) (len := 8) (k := r) C hK (by decide) rfl 0 rfl (rfl) (by omega) (by decide) dX7_digest_143 ?_
                refine z_topi (y := u.1 7 r) (xs_c (by decide) _) ?_
                refine z_topi (y := nI (B r 5)) (mR_5 hM.1 (by omega)) ?_
                refine z_i2l C rfl dX7_digest_144 ?_
                refine z_ladd C dX7_digest_145 ?_
                refine z_lstore_n (L' := [(1, .long (((((e9) * (31)) + ((nI (B r 3)).toInt64)) * (31)) + ((nI (B r 5) : Int32).toInt64))), (0, .ref (ad 0)), (3, .int (nI r)), (4, .int (nI k))]) C dX7_digest_146 (by decide) rfl ?_
                refine z_iinc (L' := [(3, .int (nI (r + 1))), (1, .long (((((e9) * (31)) + ((nI (B r 3)).toInt64)) * (31)) + ((nI (B r 5) : Int32).toInt64))), (0, .ref (ad 0)), (4, .int (nI k))]) C dX7_digest_147 2 rfl (nI_1 r) (by decide) rfl ?_
                refine z_goto (tgt := 17) C dX7_digest_150 (by decide) ?_
                refine z_sub (L' := [(0, .ref (ad 0)), (1, .long (((((e9) * (31)) + ((nI (B r 3)).toInt64)) * (31)) + ((nI (B r 5) : Int32).toInt64))), (3, .int (nI (r + 1)))]) [2, 1, 0] rfl ?_
                exact ih17 (r + 1) (((((e9) * (31)) + ((nI (B r 3)).toInt64)) * (31)) + ((nI (B r 5) : Int32).toInt64)) (by omega) (by omega) (by rw [he9, show k = B r 4 by omega, hd9]; rfl)
              · skip
                have zn125 := z0_f zc125
                refine z_lconst (v := 1) C (by decide) dX7_digest_128 ?_
                refine z_goto (tgt := 133) C dX7_digest_129 (by decide) ?_
                refine z_topl (y := (nI (B r 3)).toInt64) (by rw [show B r 3 = 1 by omega]; rfl) ?_
                refine z_ladd C dX7_digest_133 ?_
                refine z_ldc2 (v := (31)) C hown (hts (.constantLong RX7 168 (31)) (by decide +kernel)) dX7_digest_134 ?_
                refine z_lmul C dX7_digest_137 ?_
                refine z_aload_n C dX7_digest_138 0 rfl ?_
                refine z_get (q := 0) C (T := TX7) (N := 18) (ci := 7) (own := RX7) (index := 29) (v := .ref (ad 7)) hT7 hown hK (by decide) rfl rfl 8 (by decide) (hts (.fieldLink RX7 29 "TriggerAnalyzerModel" "below" "[I") (by decide +kernel)) (fun _ h9 => h9) rfl dX7_digest_139 ?_
                refine z_iload_n C dX7_digest_142 2 rfl ?_
                refine z_iald (q := 7) (len := 8) (k := r) C hK (by decide) rfl 0 rfl (rfl) (by omega) (by decide) dX7_digest_143 ?_
                refine z_topi (y := u.1 7 r) (xs_c (by decide) _) ?_
                refine z_topi (y := nI (B r 5)) (mR_5 hM.1 (by omega)) ?_
                refine z_i2l C rfl dX7_digest_144 ?_
                refine z_ladd C dX7_digest_145 ?_
                refine z_lstore_n (L' := [(1, .long (((((e9) * (31)) + ((nI (B r 3)).toInt64)) * (31)) + ((nI (B r 5) : Int32).toInt64))), (0, .ref (ad 0)), (3, .int (nI r)), (4, .int (nI k))]) C dX7_digest_146 (by decide) rfl ?_
                refine z_iinc (L' := [(3, .int (nI (r + 1))), (1, .long (((((e9) * (31)) + ((nI (B r 3)).toInt64)) * (31)) + ((nI (B r 5) : Int32).toInt64))), (0, .ref (ad 0)), (4, .int (nI k))]) C dX7_digest_147 2 rfl (nI_1 r) (by decide) rfl ?_
                refine z_goto (tgt := 17) C dX7_digest_150 (by decide) ?_
                refine z_sub (L' := [(0, .ref (ad 0)), (1, .long (((((e9) * (31)) + ((nI (B r 3)).toInt64)) * (31)) + ((nI (B r 5) : Int32).toInt64))), (3, .int (nI (r + 1)))]) [2, 1, 0] rfl ?_
                exact ih17 (r + 1) (((((e9) * (31)) + ((nI (B r 3)).toInt64)) * (31)) + ((nI (B r 5) : Int32).toInt64)) (by omega) (by omega) (by rw [he9, show k = B r 4 by omega, hd9]; rfl)
            · skip
              have zn86 := zge_f (a := k) (b := B r 4) (by omega) (by omega) zc86
              refine z_lload_n C dX7_digest_89 1 rfl ?_
              refine z_ldc2 (v := (31)) C hown (hts (.constantLong RX7 168 (31)) (by decide +kernel)) dX7_digest_90 ?_
              refine z_lmul C dX7_digest_93 ?_
              refine z_aload_n C dX7_digest_94 0 rfl ?_
              refine z_get (q := 0) C (T := TX7) (N := 18) (ci := 7) (own := RX7) (index := 22) (v := .ref (ad 5)) hT7 hown hK (by decide) rfl rfl 6 (by decide) (hts (.fieldLink RX7 22 "TriggerAnalyzerModel" "actions" "[I") (by decide +kernel)) (fun _ h9 => h9) rfl dX7_digest_95 ?_
              refine z_iconst (v := nI 4) C (by decide) dX7_digest_98 ?_
              refine z_iload_n C dX7_digest_99 2 rfl ?_
              refine z_imul C dX7_digest_100 ?_
              refine z_topi (y := nI (4 * r)) (pk_mul 4 r) ?_
              refine z_iload C dX7_digest_101 3 rfl ?_
              refine z_iadd C dX7_digest_103 ?_
              refine z_topi (y := nI ((4 * r) + k)) (nI_add (4 * r) k) ?_
              refine z_iald (q := 5) (len := 32) (k := (4 * r) + k) C hK (by decide) rfl 0 rfl (rfl) (by omega) (by decide) dX7_digest_104 ?_
              refine z_topi (y := u.1 5 ((4 * r) + k)) (xs_c (by decide) _) ?_
              refine z_topi (y := nI (B r (6 + k))) (mR_a hM.1 zn22 zn86) ?_
              refine z_i2l C rfl dX7_digest_105 ?_
              refine z_ladd C dX7_digest_106 ?_
              refine z_lstore_n (L' := [(1, .long (((e9) * (31)) + ((nI (B r (6 + k)) : Int32).toInt64))), (0, .ref (ad 0)), (3, .int (nI r)), (4, .int (nI k))]) C dX7_digest_107 (by decide) rfl ?_
              refine z_iinc (L' := [(4, .int (nI (k + 1))), (1, .long (((e9) * (31)) + ((nI (B r (6 + k)) : Int32).toInt64))), (0, .ref (ad 0)), (3, .int (nI r))]) C dX7_digest_108 3 rfl (nI_1 k) (by decide) rfl ?_
              refine z_goto (tgt := 78) C dX7_digest_111 (by decide) ?_
              refine z_sub (L' := [(0, .ref (ad 0)), (1, .long (((e9) * (31)) + ((nI (B r (6 + k)) : Int32).toInt64))), (3, .int (nI r)), (4, .int (nI (k + 1)))]) [2, 1, 3, 0] rfl ?_
              exact ih78 (k + 1) (((e9) * (31)) + ((nI (B r (6 + k)) : Int32).toInt64)) (by omega) (by omega) (by rw [he9]; rfl)
        refine z_sub (L' := [(0, .ref (ad 0)), (1, .long (((((((((d9) * (31)) + ((nI (B r 0) : Int32).toInt64)) * (31)) + ((nI (B r 1) : Int32).toInt64)) * (31)) + ((nI (B r 2) : Int32).toInt64)) * (31)) + ((nI (B r 4) : Int32).toInt64))), (3, .int (nI r)), (4, .int (nI 0))]) [2, 1, 3, 0] rfl ?_
        exact loop78 (B r 4 + 1) 0 (((((((((d9) * (31)) + ((nI (B r 0) : Int32).toInt64)) * (31)) + ((nI (B r 1) : Int32).toInt64)) * (31)) + ((nI (B r 2) : Int32).toInt64)) * (31)) + ((nI (B r 4) : Int32).toInt64)) (by omega) (by omega) rfl
  refine z_sub (L' := [(0, .ref (ad 0)), (1, .long ((4867) + ((nI n : Int32).toInt64))), (3, .int (nI 0))]) [2, 1, 0] rfl ?_
  exact loop17 (n + 1) 0 ((4867) + ((nI n : Int32).toInt64)) (by omega) (by omega) (by rw [show (4867 : Int64) = 157 * 31 by decide]; rfl)

set_option maxHeartbeats 4000000 in
set_option maxRecDepth 100000 in
theorem c_X7_digest_v1 (l : Launch) (D : va_G) (ad : Nat → Nat) (cI cL cB : ClassId) (hI : gI 12 ad) (u : xS) (n : Nat) (B : Nat → Nat → Nat) (hB : gB n B) (x : Nat) (hx : x < 64 * 2 ^ n) (hM : mI u n B x) (h11 : u.1 0 11 = 1) (k0 : Nat) (hD : mDn u B x k0) : ∀ sz, Met l yX7_digest wsX7_digest ({ frames := 0, cells := 0, slots := 0, locals := 0 }) (MP D ad cI cL cB u [.ref (ad 0)] sz) (va_Ql (fun r_ u' => r_ = ((dbok B (157 * 31 + (nI n).toInt64) n * 31 + (nI (x % 64)).toInt64) * 31 + (nI (x / 64)).toInt64) * 31 + (exA B x k0).toInt64 ∧ u'.1 0 0 = nI 0 ∧ mQ u' n B x (u.1 0 11)) (MB D ad cI cL cB) (gA 12 ad sz)) 0 0 (gA 12 ad sz) := by
  intro sz
  refine z_met (cc := cX7_digest) (maxL := 5) (ret := (some .long)) (by decide) rfl (Nat.le_of_ble_eq_true rfl) ?_
  intro pq lq sq mq aq Qq bq hmq cq C hr hml hown hts hlocks hK hX hsz hQ
  subst hsz
  have hT7 : ∀ w ∈ wsX70, w.before aq sq = true := fun w h => hts w ((by decide +kernel : ∀ w ∈ wsX70, w ∈ wsX7_digest) w h)
  refine z_sub (L' := [(0, .ref (ad 0))]) [0] rfl ?_
  have hn8 : n ≤ 8 := hB.1
  obtain ⟨hE, hT⟩ := hD
  refine z_aload_n C dX7_digest_0 0 rfl ?_
  refine z_iconst (v := nI 0) C (by decide) dX7_digest_1 ?_
  refine z_put (q := 0) C hI tyX7 (T := TX7) (N := 18) (ci := 7) (own := RX7) (index := 45) hT7 hown hK (by decide) rfl rfl 0 (by decide) (hts (.fieldLink RX7 45 "TriggerAnalyzerModel" "thrown" "I") (by decide +kernel)) (fun _ h9 => h9) tyX7_ok nmX7 rfl rfl rfl (Nat.le_of_ble_eq_true rfl) (f' := mF ad cI cL cB ((xs u 0 0 (nI 0)))) rfl mF_ne dX7_digest_2 ?_
  refine z_ldc2 (v := (4867)) C hown (hts (.constantLong RX7 166 (4867)) (by decide +kernel)) dX7_digest_5 ?_
  refine z_aload_n C dX7_digest_8 0 rfl ?_
  refine z_get (q := 0) C (T := TX7) (N := 18) (ci := 7) (own := RX7) (index := 49) (v := .int ((xs u 0 0 (nI 0)).1 0 1)) hT7 hown hK (by decide) rfl rfl 1 (by decide) (hts (.fieldLink RX7 49 "TriggerAnalyzerModel" "rules" "I") (by decide +kernel)) (fun _ h9 => h9) rfl dX7_digest_9 ?_
  refine z_topi (y := u.1 0 1) (xs_j (by decide)) ?_
  refine z_topi (y := nI n) (mR_n hM.1) ?_
  refine z_i2l C rfl dX7_digest_12 ?_
  refine z_ladd C dX7_digest_13 ?_
  refine z_lstore_n (L' := [(1, .long ((4867) + ((nI n : Int32).toInt64))), (0, .ref (ad 0))]) C dX7_digest_14 (by decide) rfl ?_
  refine z_iconst (v := nI 0) C (by decide) dX7_digest_15 ?_
  refine z_istore_n (L' := [(3, .int (nI 0)), (1, .long ((4867) + ((nI n : Int32).toInt64))), (0, .ref (ad 0))]) C dX7_digest_16 (by decide) rfl ?_
  have loop17 : ∀ (d17 : Nat) (r : Nat) (d9 : Int64), n - r < d17 → (r ≤ n) → (d9 = dbok B (157 * 31 + (nI n).toInt64) r) → ZZ pq l lq { frames := 0, cells := 0, slots := 0, locals := 0 } sq mq aq bq hmq cq D vwCl 12 ad 5 0 0 Qq (mF ad cI cL cB ((xs u 0 0 (nI 0)))) [(0, .ref (ad 0)), (1, .long (d9)), (3, .int (nI r))] 17 [] := by
    intro d17
    induction d17 with
    | zero => intro r d9 hz; exact absurd hz (Nat.not_lt_zero _)
    | succ d17 ih17 =>
      intro r d9 hz17 hrn hd9
      refine z_iload_n C dX7_digest_17 2 rfl ?_
      refine z_aload_n C dX7_digest_18 0 rfl ?_
      refine z_get (q := 0) C (T := TX7) (N := 18) (ci := 7) (own := RX7) (index := 49) (v := .int ((xs u 0 0 (nI 0)).1 0 1)) hT7 hown hK (by decide) rfl rfl 1 (by decide) (hts (.fieldLink RX7 49 "TriggerAnalyzerModel" "rules" "I") (by decide +kernel)) (fun _ h9 => h9) rfl dX7_digest_19 ?_
      refine z_topi (y := u.1 0 1) (xs_j (by decide)) ?_
      refine z_topi (y := nI n) (mR_n hM.1) ?_
      refine z_icmp_ge (tgt := 153) C dX7_digest_22 (by decide) (fun zc22 => ?_) (fun zc22 => ?_)
      · skip
        have zn22 := zge_t (a := r) (b := n) (by omega) (by omega) zc22
        refine z_lload_n C dX7_digest_153 1 rfl ?_
        refine z_ldc2 (v := (31)) C hown (hts (.constantLong RX7 168 (31)) (by decide +kernel)) dX7_digest_154 ?_
        refine z_lmul C dX7_digest_157 ?_
        refine z_aload_n C dX7_digest_158 0 rfl ?_
        refine z_get (q := 0) C (T := TX7) (N := 18) (ci := 7) (own := RX7) (index := 91) (v := .int ((xs u 0 0 (nI 0)).1 0 9)) hT7 hown hK (by decide) rfl rfl 9 (by decide) (hts (.fieldLink RX7 91 "TriggerAnalyzerModel" "facts" "I") (by decide +kernel)) (fun _ h9 => h9) rfl dX7_digest_159 ?_
        refine z_topi (y := u.1 0 9) (xs_j (by decide)) ?_
        refine z_topi (y := nI (x % 64)) (hM.2.1) ?_
        refine z_i2l C rfl dX7_digest_162 ?_
        refine z_ladd C dX7_digest_163 ?_
        refine z_ldc2 (v := (31)) C hown (hts (.constantLong RX7 168 (31)) (by decide +kernel)) dX7_digest_164 ?_
        refine z_lmul C dX7_digest_167 ?_
        refine z_aload_n C dX7_digest_168 0 rfl ?_
        refine z_get (q := 0) C (T := TX7) (N := 18) (ci := 7) (own := RX7) (index := 74) (v := .int ((xs u 0 0 (nI 0)).1 0 10)) hT7 hown hK (by decide) rfl rfl 10 (by decide) (hts (.fieldLink RX7 74 "TriggerAnalyzerModel" "triggered" "I") (by decide +kernel)) (fun _ h9 => h9) rfl dX7_digest_169 ?_
        refine z_topi (y := u.1 0 10) (xs_j (by decide)) ?_
        refine z_topi (y := nI (x / 64)) (hM.2.2.1) ?_
        refine z_i2l C rfl dX7_digest_172 ?_
        refine z_ladd C dX7_digest_173 ?_
        refine z_lstore_n (L' := [(1, .long (((((d9) * (31)) + ((nI (x % 64) : Int32).toInt64)) * (31)) + ((nI (x / 64) : Int32).toInt64))), (0, .ref (ad 0)), (3, .int (nI r))]) C dX7_digest_174 (by decide) rfl ?_
        refine z_aload_n C dX7_digest_175 1 rfl ?_
        refine z_get (q := 0) C (T := TX7) (N := 18) (ci := 7) (own := RX7) (index := 67) (v := .int ((xs u 0 0 (nI 0)).1 0 11)) hT7 hown hK (by decide) rfl rfl 11 (by decide) (hts (.fieldLink RX7 67 "TriggerAnalyzerModel" "isExplored" "Z") (by decide +kernel)) (fun _ h9 => h9) rfl dX7_digest_176 ?_
        refine z_topi (y := u.1 0 11) (xs_j (by decide)) ?_
        refine z_topi (y := nI 1) (h11) ?_
        refine z_if_eq (tgt := 207) C dX7_digest_179 (by decide) (fun zc179 => ?_) (fun zc179 => ?_)
        · skip
          have zn179 := z0_t (by omega) zc179
          exact absurd zn179 (by decide)
        · skip
          have zn179 := z0_f zc179
          refine z_lload_n C dX7_digest_182 0 rfl ?_
          refine z_ldc2 (v := (31)) C hown (hts (.constantLong RX7 168 (31)) (by decide +kernel)) dX7_digest_183 ?_
          refine z_lmul C dX7_digest_186 ?_
          rcases hT with ⟨ht, g12⟩ | ⟨ht, g12, g13, -, -⟩
          · skip
            refine z_aload_n C dX7_digest_187 1 rfl ?_
            refine z_get (q := 0) C (T := TX7) (N := 18) (ci := 7) (own := RX7) (index := 116) (v := .int ((xs u 0 0 (nI 0)).1 0 12)) hT7 hown hK (by decide) rfl rfl 12 (by decide) (hts (.fieldLink RX7 116 "TriggerAnalyzerModel" "isTooMuch" "Z") (by decide +kernel)) (fun _ h9 => h9) rfl dX7_digest_188 ?_
            refine z_topi (y := u.1 0 12) (xs_j (by decide)) ?_
            refine z_topi (y := nI 1) (g12) ?_
            refine z_if_eq (tgt := 198) C dX7_digest_191 (by decide) (fun zc191 => ?_) (fun zc191 => ?_)
            · skip
              have zn191 := z0_t (by omega) zc191
              exact absurd zn191 (by decide)
            · skip
              have zn191 := z0_f zc191
              refine z_iconst (v := (-1)) C (by decide) dX7_digest_194 ?_
              refine z_goto (tgt := 202) C dX7_digest_195 (by decide) ?_
              refine z_topi (y := exA B x k0) (by unfold exA; rw [if_pos ht]) ?_
              refine z_i2l C rfl dX7_digest_202 ?_
              refine z_ladd C dX7_digest_203 ?_
              refine z_goto (tgt := 208) C dX7_digest_204 (by decide) ?_
              exact z_lret C hr hlocks hQ ((xs u 0 0 (nI 0))) (⟨by rw [hd9, show r = n by omega], xs_s _ _ _ _, mQ_1 hM _⟩) (fun _ _ => rfl) dX7_digest_208
          · skip
            refine z_aload_n C dX7_digest_187 1 rfl ?_
            refine z_get (q := 0) C (T := TX7) (N := 18) (ci := 7) (own := RX7) (index := 116) (v := .int ((xs u 0 0 (nI 0)).1 0 12)) hT7 hown hK (by decide) rfl rfl 12 (by decide) (hts (.fieldLink RX7 116 "TriggerAnalyzerModel" "isTooMuch" "Z") (by decide +kernel)) (fun _ h9 => h9) rfl dX7_digest_188 ?_
            refine z_topi (y := u.1 0 12) (xs_j (by decide)) ?_
            refine z_topi (y := nI 0) (g12) ?_
            refine z_if_eq (tgt := 198) C dX7_digest_191 (by decide) (fun zc191 => ?_) (fun zc191 => ?_)
            · skip
              have zn191 := z0_t (by omega) zc191
              refine z_aload_n C dX7_digest_198 1 rfl ?_
              refine z_get (q := 0) C (T := TX7) (N := 18) (ci := 7) (own := RX7) (index := 113) (v := .int ((xs u 0 0 (nI 0)).1 0 13)) hT7 hown hK (by decide) rfl rfl 13 (by decide) (hts (.fieldLink RX7 113 "TriggerAnalyzerModel" "situations" "I") (by decide +kernel)) (fun _ h9 => h9) rfl dX7_digest_199 ?_
              refine z_topi (y := u.1 0 13) (xs_j (by decide)) ?_
              refine z_topi (y := exA B x k0) (g13.trans (by unfold exA; rw [if_neg (by rw [ht]; decide)])) ?_
              refine z_i2l C rfl dX7_digest_202 ?_
              refine z_ladd C dX7_digest_203 ?_
              refine z_goto (tgt := 208) C dX7_digest_204 (by decide) ?_
              exact z_lret C hr hlocks hQ ((xs u 0 0 (nI 0))) (⟨by rw [hd9, show r = n by omega], xs_s _ _ _ _, mQ_1 hM _⟩) (fun _ _ => rfl) dX7_digest_208
            · skip
              have zn191 := z0_f zc191
              exact absurd zn191 (by decide)
      · skip
        have zn22 := zge_f (a := r) (b := n) (by omega) (by omega) zc22
        have g4 : B r 4 ≤ 4 := gB_4 hB (by omega)
        have g3 : B r 3 ≤ 1 := gB_3 hB (by omega)
        refine z_lload_n C dX7_digest_25 1 rfl ?_
        refine z_ldc2 (v := (31)) C hown (hts (.constantLong RX7 168 (31)) (by decide +kernel)) dX7_digest_26 ?_
        refine z_lmul C dX7_digest_29 ?_
        refine z_aload_n C dX7_digest_30 0 rfl ?_
        refine z_get (q := 0) C (T := TX7) (N := 18) (ci := 7) (own := RX7) (index := 9) (v := .ref (ad 1)) hT7 hown hK (by decide) rfl rfl 2 (by decide) (hts (.fieldLink RX7 9 "TriggerAnalyzerModel" "events" "[I") (by decide +kernel)) (fun _ h9 => h9) rfl dX7_digest_31 ?_
        refine z_iload_n C dX7_digest_34 2 rfl ?_
        refine z_iald (q := 1) (len := 8) (k := r) C hK (by decide) rfl 0 rfl (rfl) (by omega) (by decide) dX7_digest_35 ?_
        refine z_topi (y := u.1 1 r) (xs_c (by decide) _) ?_
        refine z_topi (y := nI (B r 0)) (mR_0 hM.1 (by omega)) ?_
        refine z_i2l C rfl dX7_digest_36 ?_
        refine z_ladd C dX7_digest_37 ?_
        refine z_ldc2 (v := (31)) C hown (hts (.constantLong RX7 168 (31)) (by decide +kernel)) dX7_digest_38 ?_
        refine z_lmul C dX7_digest_41 ?_
        refine z_aload_n C dX7_digest_42 0 rfl ?_
        refine z_get (q := 0) C (T := TX7) (N := 18) (ci := 7) (own := RX7) (index := 13) (v := .ref (ad 2)) hT7 hown hK (by decide) rfl rfl 3 (by decide) (hts (.fieldLink RX7 13 "TriggerAnalyzerModel" "musts" "[I") (by decide +kernel)) (fun _ h9 => h9) rfl dX7_digest_43 ?_
        refine z_iload_n C dX7_digest_46 2 rfl ?_
        refine z_iald (q := 2) (len := 8) (k := r) C hK (by decide) rfl 0 rfl (rfl) (by omega) (by decide) dX7_digest_47 ?_
        refine z_topi (y := u.1 2 r) (xs_c (by decide) _) ?_
        refine z_topi (y := nI (B r 1)) (mR_1 hM.1 (by omega)) ?_
        refine z_i2l C rfl dX7_digest_48 ?_
        refine z_ladd C dX7_digest_49 ?_
        refine z_ldc2 (v := (31)) C hown (hts (.constantLong RX7 168 (31)) (by decide +kernel)) dX7_digest_50 ?_
        refine z_lmul C dX7_digest_53 ?_
        refine z_aload_n C dX7_digest_54 0 rfl ?_
        refine z_get (q := 0) C (T := TX7) (N := 18) (ci := 7) (own := RX7) (index := 16) (v := .ref (ad 3)) hT7 hown hK (by decide) rfl rfl 4 (by decide) (hts (.fieldLink RX7 16 "TriggerAnalyzerModel" "mustNots" "[I") (by decide +kernel)) (fun _ h9 => h9) rfl dX7_digest_55 ?_
        refine z_iload_n C dX7_digest_58 2 rfl ?_
        refine z_iald (q := 3) (len := 8) (k := r) C hK (by decide) rfl 0 rfl (rfl) (by omega) (by decide) dX7_digest_59 ?_
        refine z_topi (y := u.1 3 r) (xs_c (by decide) _) ?_
        refine z_topi (y := nI (B r 2)) (mR_2 hM.1 (by omega)) ?_
        refine z_i2l C rfl dX7_digest_60 ?_
        refine z_ladd C dX7_digest_61 ?_
        refine z_ldc2 (v := (31)) C hown (hts (.constantLong RX7 168 (31)) (by decide +kernel)) dX7_digest_62 ?_
        refine z_lmul C dX7_digest_65 ?_
        refine z_aload_n C dX7_digest_66 0 rfl ?_
        refine z_get (q := 0) C (T := TX7) (N := 18) (ci := 7) (own := RX7) (index := 19) (v := .ref (ad 4)) hT7 hown hK (by decide) rfl rfl 5 (by decide) (hts (.fieldLink RX7 19 "TriggerAnalyzerModel" "many" "[I") (by decide +kernel)) (fun _ h9 => h9) rfl dX7_digest_67 ?_
        refine z_iload_n C dX7_digest_70 2 rfl ?_
        refine z_iald (q := 4) (len := 8) (k := r) C hK (by decide) rfl 0 rfl (rfl) (by omega) (by decide) dX7_digest_71 ?_
        refine z_topi (y := u.1 4 r) (xs_c (by decide) _) ?_
        refine z_topi (y := nI (B r 4)) (mR_4 hM.1 (by omega)) ?_
        refine z_i2l C rfl dX7_digest_72 ?_
        refine z_ladd C dX7_digest_73 ?_
        refine z_lstore_n (L' := [(1, .long (((((((((d9) * (31)) + ((nI (B r 0) : Int32).toInt64)) * (31)) + ((nI (B r 1) : Int32).toInt64)) * (31)) + ((nI (B r 2) : Int32).toInt64)) * (31)) + ((nI (B r 4) : Int32).toInt64))), (0, .ref (ad 0)), (3, .int (nI r))]) C dX7_digest_74 (by decide) rfl ?_
        refine z_iconst (v := nI 0) C (by decide) dX7_digest_75 ?_
        refine z_istore (L' := [(4, .int (nI 0)), (1, .long (((((((((d9) * (31)) + ((nI (B r 0) : Int32).toInt64)) * (31)) + ((nI (B r 1) : Int32).toInt64)) * (31)) + ((nI (B r 2) : Int32).toInt64)) * (31)) + ((nI (B r 4) : Int32).toInt64))), (0, .ref (ad 0)), (3, .int (nI r))]) C dX7_digest_76 (by decide) rfl ?_
        have loop78 : ∀ (d78 : Nat) (k : Nat) (e9 : Int64), B r 4 - k < d78 → (k ≤ B r 4) → (e9 = dact B r ((((d9 * 31 + (nI (B r 0)).toInt64) * 31 + (nI (B r 1)).toInt64) * 31 + (nI (B r 2)).toInt64) * 31 + (nI (B r 4)).toInt64) k) → ZZ pq l lq { frames := 0, cells := 0, slots := 0, locals := 0 } sq mq aq bq hmq cq D vwCl 12 ad 5 0 0 Qq (mF ad cI cL cB ((xs u 0 0 (nI 0)))) [(0, .ref (ad 0)), (1, .long (e9)), (3, .int (nI r)), (4, .int (nI k))] 78 [] := by
          intro d78
          induction d78 with
          | zero => intro k e9 hz; exact absurd hz (Nat.not_lt_zero _)
          | succ d78 ih78 =>
            intro k e9 hz78 hk he9
            refine z_iload C dX7_digest_78 3 rfl ?_
            refine z_aload_n C dX7_digest_80 0 rfl ?_
            refine z_get (q := 0) C (T := TX7) (N := 18) (ci := 7) (own := RX7) (index := 19) (v := .ref (ad 4)) hT7 hown hK (by decide) rfl rfl 5 (by decide) (hts (.fieldLink RX7 19 "TriggerAnalyzerModel" "many" "[I") (by decide +kernel)) (fun _ h9 => h9) rfl dX7_digest_81 ?_
            refine z_iload_n C dX7_digest_84 2 rfl ?_
            refine z_iald (q := 4) (len := 8) (k := r) C hK (by decide) rfl 0 rfl (rfl) (by omega) (by decide) dX7_digest_85 ?_
            refine z_topi (y := u.1 4 r) (xs_c (by decide) _) ?_
            refine z_topi (y := nI (B r 4)) (mR_4 hM.1 (by omega)) ?_
            refine z_icmp_ge (tgt := 114) C dX7_digest_86 (by decide) (fun zc86 => ?_) (fun zc86 => ?_)
            · skip
              have zn86 := zge_t (a := k) (b := B r 4) (by omega) (by omega) zc86
              refine z_lload_n C dX7_digest_114 1 rfl ?_
              refine z_ldc2 (v := (31)) C hown (hts (.constantLong RX7 168 (31)) (by decide +kernel)) dX7_digest_115 ?_
              refine z_lmul C dX7_digest_118 ?_
              refine z_aload_n C dX7_digest_119 0 rfl ?_
              refine z_get (q := 0) C (T := TX7) (N := 18) (ci := 7) (own := RX7) (index := 25) (v := .ref (ad 6)) hT7 hown hK (by decide) rfl rfl 7 (by decide) (hts (.fieldLink RX7 25 "TriggerAnalyzerModel" "areOn" "[Z") (by decide +kernel)) (fun _ h9 => h9) rfl dX7_digest_120 ?_
              refine z_iload_n C dX7_digest_123 2 rfl ?_
              refine z_za (q := 6) (len := 8) (k := r) C hK (by decide) rfl 2 rfl (rfl) (by omega) (by decide) dX7_digest_124 ?_
              refine z_topi (y := u.1 6 r) (xs_c (by decide) _) ?_
              refine z_topi (y := nI (B r 3)) (mR_3 hM.1 (by omega)) ?_
              refine z_if_eq (tgt := 132) C dX7_digest_125 (by decide) (fun zc125 => ?_) (fun zc125 => ?_)
              · skip
                have zn125 := z0_t (by omega) zc125
                refine z_lconst (v := 0) C (by decide) dX7_digest_132 ?_
                refine z_topl (y := (nI (B r 3)).toInt64) (by rw [zn125]; rfl) ?_
                refine z_ladd C dX7_digest_133 ?_
                refine z_ldc2 (v := (31)) C hown (hts (.constantLong RX7 168 (31)) (by decide +kernel)) dX7_digest_134 ?_
                refine z_lmul C dX7_digest_137 ?_
                refine z_aload_n C dX7_digest_138 0 rfl ?_
                refine z_get (q := 0) C (T := TX7) (N := 18) (ci := 7) (own := RX7) (index := 29) (v := .ref (ad 7)) hT7 hown hK (by decide) rfl rfl 8 (by decide) (hts (.fieldLink RX7 29 "TriggerAnalyzerModel" "below" "[I") (by decide +kernel)) (fun _ h9 => h9) rfl dX7_digest_139 ?_
                refine z_iload_n C dX7_digest_142 2 rfl ?_
                refine z_iald (q := 7) (len := 8) (k := r) C hK (by decide) rfl 0 rfl (rfl) (by omega) (by decide) dX7_digest_143 ?_
                refine z_topi (y := u.1 7 r) (xs_c (by decide) _) ?_
                refine z_topi (y := nI (B r 5)) (mR_5 hM.1 (by omega)) ?_
                refine z_i2l C rfl dX7_digest_144 ?_
                refine z_ladd C dX7_digest_145 ?_
                refine z_lstore_n (L' := [(1, .long (((((e9) * (31)) + ((nI (B r 3)).toInt64)) * (31)) + ((nI (B r 5) : Int32).toInt64))), (0, .ref (ad 0)), (3, .int (nI r)), (4, .int (nI k))]) C dX7_digest_146 (by decide) rfl ?_
                refine z_iinc (L' := [(3, .int (nI (r + 1))), (1, .long (((((e9) * (31)) + ((nI (B r 3)).toInt64)) * (31)) + ((nI (B r 5) : Int32).toInt64))), (0, .ref (ad 0)), (4, .int (nI k))]) C dX7_digest_147 2 rfl (nI_1 r) (by decide) rfl ?_
                refine z_goto (tgt := 17) C dX7_digest_150 (by decide) ?_
                refine z_sub (L' := [(0, .ref (ad 0)), (1, .long (((((e9) * (31)) + ((nI (B r 3)).toInt64)) * (31)) + ((nI (B r 5) : Int32).toInt64))), (3, .int (nI (r + 1)))]) [2, 1, 0] rfl ?_
                exact ih17 (r + 1) (((((e9) * (31)) + ((nI (B r 3)).toInt64)) * (31)) + ((nI (B r 5) : Int32).toInt64)) (by omega) (by omega) (by rw [he9, show k = B r 4 by omega, hd9]; rfl)
              · skip
                have zn125 := z0_f zc125
                refine z_lconst (v := 1) C (by decide) dX7_digest_128 ?_
                refine z_goto (tgt := 133) C dX7_digest_129 (by decide) ?_
                refine z_topl (y := (nI (B r 3)).toInt64) (by rw [show B r 3 = 1 by omega]; rfl) ?_
                refine z_ladd C dX7_digest_133 ?_
                refine z_ldc2 (v := (31)) C hown (hts (.constantLong RX7 168 (31)) (by decide +kernel)) dX7_digest_134 ?_
                refine z_lmul C dX7_digest_137 ?_
                refine z_aload_n C dX7_digest_138 0 rfl ?_
                refine z_get (q := 0) C (T := TX7) (N := 18) (ci := 7) (own := RX7) (index := 29) (v := .ref (ad 7)) hT7 hown hK (by decide) rfl rfl 8 (by decide) (hts (.fieldLink RX7 29 "TriggerAnalyzerModel" "below" "[I") (by decide +kernel)) (fun _ h9 => h9) rfl dX7_digest_139 ?_
                refine z_iload_n C dX7_digest_142 2 rfl ?_
                refine z_iald (q := 7) (len := 8) (k := r) C hK (by decide) rfl 0 rfl (rfl) (by omega) (by decide) dX7_digest_143 ?_
                refine z_topi (y := u.1 7 r) (xs_c (by decide) _) ?_
                refine z_topi (y := nI (B r 5)) (mR_5 hM.1 (by omega)) ?_
                refine z_i2l C rfl dX7_digest_144 ?_
                refine z_ladd C dX7_digest_145 ?_
                refine z_lstore_n (L' := [(1, .long (((((e9) * (31)) + ((nI (B r 3)).toInt64)) * (31)) + ((nI (B r 5) : Int32).toInt64))), (0, .ref (ad 0)), (3, .int (nI r)), (4, .int (nI k))]) C dX7_digest_146 (by decide) rfl ?_
                refine z_iinc (L' := [(3, .int (nI (r + 1))), (1, .long (((((e9) * (31)) + ((nI (B r 3)).toInt64)) * (31)) + ((nI (B r 5) : Int32).toInt64))), (0, .ref (ad 0)), (4, .int (nI k))]) C dX7_digest_147 2 rfl (nI_1 r) (by decide) rfl ?_
                refine z_goto (tgt := 17) C dX7_digest_150 (by decide) ?_
                refine z_sub (L' := [(0, .ref (ad 0)), (1, .long (((((e9) * (31)) + ((nI (B r 3)).toInt64)) * (31)) + ((nI (B r 5) : Int32).toInt64))), (3, .int (nI (r + 1)))]) [2, 1, 0] rfl ?_
                exact ih17 (r + 1) (((((e9) * (31)) + ((nI (B r 3)).toInt64)) * (31)) + ((nI (B r 5) : Int32).toInt64)) (by omega) (by omega) (by rw [he9, show k = B r 4 by omega, hd9]; rfl)
            · skip
              have zn86 := zge_f (a := k) (b := B r 4) (by omega) (by omega) zc86
              refine z_lload_n C dX7_digest_89 1 rfl ?_
              refine z_ldc2 (v := (31)) C hown (hts (.constantLong RX7 168 (31)) (by decide +kernel)) dX7_digest_90 ?_
              refine z_lmul C dX7_digest_93 ?_
              refine z_aload_n C dX7_digest_94 0 rfl ?_
              refine z_get (q := 0) C (T := TX7) (N := 18) (ci := 7) (own := RX7) (index := 22) (v := .ref (ad 5)) hT7 hown hK (by decide) rfl rfl 6 (by decide) (hts (.fieldLink RX7 22 "TriggerAnalyzerModel" "actions" "[I") (by decide +kernel)) (fun _ h9 => h9) rfl dX7_digest_95 ?_
              refine z_iconst (v := nI 4) C (by decide) dX7_digest_98 ?_
              refine z_iload_n C dX7_digest_99 2 rfl ?_
              refine z_imul C dX7_digest_100 ?_
              refine z_topi (y := nI (4 * r)) (pk_mul 4 r) ?_
              refine z_iload C dX7_digest_101 3 rfl ?_
              refine z_iadd C dX7_digest_103 ?_
              refine z_topi (y := nI ((4 * r) + k)) (nI_add (4 * r) k) ?_
              refine z_iald (q := 5) (len := 32) (k := (4 * r) + k) C hK (by decide) rfl 0 rfl (rfl) (by omega) (by decide) dX7_digest_104 ?_
              refine z_topi (y := u.1 5 ((4 * r) + k)) (xs_c (by decide) _) ?_
              refine z_topi (y := nI (B r (6 + k))) (mR_a hM.1 zn22 zn86) ?_
              refine z_i2l C rfl dX7_digest_105 ?_
              refine z_ladd C dX7_digest_106 ?_
              refine z_lstore_n (L' := [(1, .long (((e9) * (31)) + ((nI (B r (6 + k)) : Int32).toInt64))), (0, .ref (ad 0)), (3, .int (nI r)), (4, .int (nI k))]) C dX7_digest_107 (by decide) rfl ?_
              refine z_iinc (L' := [(4, .int (nI (k + 1))), (1, .long (((e9) * (31)) + ((nI (B r (6 + k)) : Int32).toInt64))), (0, .ref (ad 0)), (3, .int (nI r))]) C dX7_digest_108 3 rfl (nI_1 k) (by decide) rfl ?_
              refine z_goto (tgt := 78) C dX7_digest_111 (by decide) ?_
              refine z_sub (L' := [(0, .ref (ad 0)), (1, .long (((e9) * (31)) + ((nI (B r (6 + k)) : Int32).toInt64))), (3, .int (nI r)), (4, .int (nI (k + 1)))]) [2, 1, 3, 0] rfl ?_
              exact ih78 (k + 1) (((e9) * (31)) + ((nI (B r (6 + k)) : Int32).toInt64)) (by omega) (by omega) (by rw [he9]; rfl)
        refine z_sub (L' := [(0, .ref (ad 0)), (1, .long (((((((((d9) * (31)) + ((nI (B r 0) : Int32).toInt64)) * (31)) + ((nI (B r 1) : Int32).toInt64)) * (31)) + ((nI (B r 2) : Int32).toInt64)) * (31)) + ((nI (B r 4) : Int32).toInt64))), (3, .int (nI r)), (4, .int (nI 0))]) [2, 1, 3, 0] rfl ?_
        exact loop78 (B r 4 + 1) 0 (((((((((d9) * (31)) + ((nI (B r 0) : Int32).toInt64)) * (31)) + ((nI (B r 1) : Int32).toInt64)) * (31)) + ((nI (B r 2) : Int32).toInt64)) * (31)) + ((nI (B r 4) : Int32).toInt64)) (by omega) (by omega) rfl
  refine z_sub (L' := [(0, .ref (ad 0)), (1, .long ((4867) + ((nI n : Int32).toInt64))), (3, .int (nI 0))]) [2, 1, 0] rfl ?_
  exact loop17 (n + 1) 0 ((4867) + ((nI n : Int32).toInt64)) (by omega) (by omega) (by rw [show (4867 : Int64) = 157 * 31 by decide]; rfl)
