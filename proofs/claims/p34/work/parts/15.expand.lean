set_option maxHeartbeats 4000000 in
set_option maxRecDepth 100000 in
theorem c_J6_bitCount_0f7a4_X (l : Launch) (D : va_G) (ad : Nat → Nat) (cI cL cR : ClassId) (hI : gI 34 ad) (u : xS) (m : Nat) : ∀ sz, Met l yJ6_bitCount_0f7a4 wsJ6_bitCount_0f7a4 ({ frames := 0, cells := 0, slots := 0, locals := 0 }) (XP D ad cI cL cR u [.int (nI m)] sz) (va_Qi (fun r_ u' => r_ = bcI (nI m) ∧ u' = u) (XB D ad cI cL cR) (gA 34 ad sz)) 0 0 (gA 34 ad sz) := by
  intro sz
  refine z_met (cc := cJ6_bitCount_0f7a4) (maxL := 1) (ret := (some .int)) (by decide) rfl (Nat.le_of_ble_eq_true rfl) ?_
  intro pq lq sq mq aq Qq bq hmq cq C hr hml hown hts hlocks hK hX hsz hQ
  subst hsz
  refine z_sub (L' := [(0, .int (nI m))]) [0] rfl ?_
  refine z_iload_n C dJ6_bitCount_0f7a4_0 0 rfl ?_
  refine z_iload_n C dJ6_bitCount_0f7a4_1 0 rfl ?_
  refine z_iconst (v := nI 1) C (by decide) dJ6_bitCount_0f7a4_2 ?_
  refine z_iushr C rfl dJ6_bitCount_0f7a4_3 ?_
  refine z_ldcw (v := (1431655765)) C hown (hts (.constant RJ6 265 (1431655765)) (by decide +kernel)) dJ6_bitCount_0f7a4_4 ?_
  refine z_iand C dJ6_bitCount_0f7a4_7 ?_
  refine z_isub C dJ6_bitCount_0f7a4_8 ?_
  refine z_topi (y := bcA (nI m)) (rfl) ?_
  refine z_istore_n (L' := [(0, .int (bcA (nI m)))]) C dJ6_bitCount_0f7a4_9 (by decide) rfl ?_
  refine z_iload_n C dJ6_bitCount_0f7a4_10 0 rfl ?_
  refine z_ldcw (v := (858993459)) C hown (hts (.constant RJ6 266 (858993459)) (by decide +kernel)) dJ6_bitCount_0f7a4_11 ?_
  refine z_iand C dJ6_bitCount_0f7a4_14 ?_
  refine z_iload_n C dJ6_bitCount_0f7a4_15 0 rfl ?_
  refine z_iconst (v := nI 2) C (by decide) dJ6_bitCount_0f7a4_16 ?_
  refine z_iushr C rfl dJ6_bitCount_0f7a4_17 ?_
  refine z_ldcw (v := (858993459)) C hown (hts (.constant RJ6 266 (858993459)) (by decide +kernel)) dJ6_bitCount_0f7a4_18 ?_
  refine z_iand C dJ6_bitCount_0f7a4_21 ?_
  refine z_iadd C dJ6_bitCount_0f7a4_22 ?_
  refine z_topi (y := bcB (bcA (nI m))) (rfl) ?_
  refine z_istore_n (L' := [(0, .int (bcB (bcA (nI m))))]) C dJ6_bitCount_0f7a4_23 (by decide) rfl ?_
  refine z_iload_n C dJ6_bitCount_0f7a4_24 0 rfl ?_
  refine z_iload_n C dJ6_bitCount_0f7a4_25 0 rfl ?_
  refine z_iconst (v := nI 4) C (by decide) dJ6_bitCount_0f7a4_26 ?_
  refine z_iushr C rfl dJ6_bitCount_0f7a4_27 ?_
  refine z_iadd C dJ6_bitCount_0f7a4_28 ?_
  refine z_ldcw (v := (252645135)) C hown (hts (.constant RJ6 267 (252645135)) (by decide +kernel)) dJ6_bitCount_0f7a4_29 ?_
  refine z_iand C dJ6_bitCount_0f7a4_32 ?_
  refine z_topi (y := bcC (bcB (bcA (nI m)))) (rfl) ?_
  refine z_istore_n (L' := [(0, .int (bcC (bcB (bcA (nI m)))))]) C dJ6_bitCount_0f7a4_33 (by decide) rfl ?_
  refine z_iload_n C dJ6_bitCount_0f7a4_34 0 rfl ?_
  refine z_iload_n C dJ6_bitCount_0f7a4_35 0 rfl ?_
  refine z_bipush (v := nI 8) C (by decide) dJ6_bitCount_0f7a4_36 ?_
  refine z_iushr C rfl dJ6_bitCount_0f7a4_38 ?_
  refine z_iadd C dJ6_bitCount_0f7a4_39 ?_
  refine z_topi (y := bcD (bcC (bcB (bcA (nI m))))) (rfl) ?_
  refine z_istore_n (L' := [(0, .int (bcD (bcC (bcB (bcA (nI m))))))]) C dJ6_bitCount_0f7a4_40 (by decide) rfl ?_
  refine z_iload_n C dJ6_bitCount_0f7a4_41 0 rfl ?_
  refine z_iload_n C dJ6_bitCount_0f7a4_42 0 rfl ?_
  refine z_bipush (v := nI 16) C (by decide) dJ6_bitCount_0f7a4_43 ?_
  refine z_iushr C rfl dJ6_bitCount_0f7a4_45 ?_
  refine z_iadd C dJ6_bitCount_0f7a4_46 ?_
  refine z_topi (y := bcE (bcD (bcC (bcB (bcA (nI m)))))) (rfl) ?_
  refine z_istore_n (L' := [(0, .int (bcE (bcD (bcC (bcB (bcA (nI m)))))))]) C dJ6_bitCount_0f7a4_47 (by decide) rfl ?_
  refine z_iload_n C dJ6_bitCount_0f7a4_48 0 rfl ?_
  refine z_bipush (v := nI 63) C (by decide) dJ6_bitCount_0f7a4_49 ?_
  refine z_iand C dJ6_bitCount_0f7a4_51 ?_
  refine z_topi (y := bcI (nI m)) (rfl) ?_
  exact z_iret C hr hlocks hQ u (⟨rfl, rfl⟩) (fun _ _ => rfl) dJ6_bitCount_0f7a4_52

set_option maxHeartbeats 4000000 in
set_option maxRecDepth 100000 in
theorem c_X1_expand (l : Launch) (D : va_G) (ad : Nat → Nat) (cI cL cR : ClassId) (hI : gI 34 ad) (u : xS) (n : Nat) (B : Nat → Nat → Nat) (hR : xR u n B) (E : eS) (k : Nat) (hE : eOk n E (8 * k)) (hk : k < E.2.2.2.1) (hu : xEr u E (8 * k)) (hA : xA_r u B E k ∧ xA_c u B E k ∧ xA_e u E k) : ∀ sz, Met l yX1_expand wsX1_expand ({ frames := 3, cells := 0, slots := 0, locals := 71 }) (XP D ad cI cL cR u [.ref (ad 21), .int (nI k)] sz) (va_Qv (fun u' => xEr u' (bex B k E 8) (8 * (k + 1)) ∧ (xA_r u' B (bex B k E 8) (k + 1) ∧ xA_c u' B (bex B k E 8) (k + 1) ∧ xA_e u' (bex B k E 8) (k + 1)) ∧ xFr u u') (XB D ad cI cL cR) (gA 34 ad sz)) 0 0 (gA 34 ad sz) := by
  intro sz
  refine z_met (cc := cX1_expand) (maxL := 7) (ret := none) (by decide) rfl (Nat.le_of_ble_eq_true rfl) ?_
  intro pq lq sq mq aq Qq bq hmq cq C hr hml hown hts hlocks hK hX hsz hQ
  subst hsz
  have hT1 : ∀ w ∈ wsX10, w.before aq sq = true := fun w h => hts w ((by decide +kernel : ∀ w ∈ wsX10, w ∈ wsX1_expand) w h)
  have hT4 : ∀ w ∈ wsX40, w.before aq sq = true := fun w h => hts w ((by decide +kernel : ∀ w ∈ wsX40, w ∈ wsX1_expand) w h)
  refine z_sub (L' := [(0, .ref (ad 21)), (1, .int (nI k))]) [0, 1] rfl ?_
  have hn8 : n ≤ 8 := gB_8 hR.1
  have hk9 : k < 1000 := by have := hE.2.1; omega
  have hSb := hE.2.2.1 k hk
  have h2n := pn8 hn8
  have hS2 : E.1 k < 16384 := by omega
  have hSt : E.1 k / 64 < 2 ^ n := by omega
  have hrl := rdy_lt B (E.1 k / 64)
  refine z_iload_n C dX1_expand_0 1 rfl ?_
  refine z_if_lt (tgt := 11) C dX1_expand_1 (by decide) (fun zc1 => ?_) (fun zc1 => ?_)
  · skip
    exact (zneg (by omega) zc1).elim
  · skip
    refine z_iload_n C dX1_expand_4 1 rfl ?_
    refine z_sipush (v := nI 1000) C (by decide) dX1_expand_5 ?_
    refine z_icmp_lt (tgt := 12) C dX1_expand_8 (by decide) (fun zc8 => ?_) (fun zc8 => ?_)
    · skip
      have zn8 := zlt_t (a := k) (b := 1000) (by omega) (by omega) zc8
      refine z_aload_n C dX1_expand_12 0 rfl ?_
      refine z_get (q := 21) C (T := TX1) (N := 12) (ci := 1) (own := RX1) (index := 9) (v := .ref (ad 22)) hT1 hown hK (by decide) rfl rfl 1 (by decide) (hts (.fieldLink RX1 9 "TriggerAnalyzer$Exploration" "situations" "[I") (by decide +kernel)) (fun _ h9 => h9) rfl dX1_expand_13 ?_
      refine z_iload_n C dX1_expand_16 1 rfl ?_
      refine z_iald (q := 22) (len := 1000) (k := k) C hK (by decide) rfl 0 rfl (rfl) (by omega) (by decide) dX1_expand_17 ?_
      refine z_topi (y := nI (E.1 k)) ((hu.2.2.1 k hk).1) ?_
      refine z_istore_n (L' := [(2, .int (nI (E.1 k))), (0, .ref (ad 21)), (1, .int (nI k))]) C dX1_expand_18 (by decide) rfl ?_
      refine z_aload_n C dX1_expand_19 1 rfl ?_
      refine z_get (q := 21) C (T := TX1) (N := 12) (ci := 1) (own := RX1) (index := 38) (v := .ref (ad 16)) hT1 hown hK (by decide) rfl rfl 0 (by decide) (hts (.fieldLink RX1 38 "TriggerAnalyzer$Exploration" "book" "LTriggerAnalyzer$RuleBook;") (by decide +kernel)) (fun _ h9 => h9) rfl dX1_expand_20 ?_
      refine z_iload_n C dX1_expand_23 0 rfl ?_
      refine z_callVi xX_ok C hml hown hts hK hX (c_X5_readyIn l D ad cI cL cR hI u n B hR (E.1 k) hS2) (cwV 1 hts gX1_expand_X5_readyIn rfl rfl rfl (by decide +kernel) ⟨Nat.le_of_ble_eq_true rfl, Nat.le_of_ble_eq_true rfl⟩) (by decide) (ci := 5) rfl rfl rfl (st := []) rfl (Nat.le_of_ble_eq_true rfl) dX1_expand_24 ⟨Nat.le_of_ble_eq_true rfl, Nat.le_of_ble_eq_true rfl⟩ (fun r24 u24 h24 => ?_)
      obtain ⟨zr24, zu24⟩ := h24
      subst r24
      subst u24
      refine z_istore_n (L' := [(3, .int (nI (rdy B (((E.1 k)) / 64)))), (2, .int (nI (E.1 k))), (0, .ref (ad 21)), (1, .int (nI k))]) C dX1_expand_27 (by decide) rfl ?_
      refine z_aload_n C dX1_expand_28 2 rfl ?_
      refine z_dup C rfl dX1_expand_29 ?_
      refine z_get (q := 21) C (T := TX1) (N := 12) (ci := 1) (own := RX1) (index := 53) (v := .int (u.1 21 10)) hT1 hown hK (by decide) rfl rfl 10 (by decide) (hts (.fieldLink RX1 53 "TriggerAnalyzer$Exploration" "readyEver" "I") (by decide +kernel)) (fun _ h9 => h9) rfl dX1_expand_30 ?_
      refine z_iload_n C dX1_expand_33 0 rfl ?_
      refine z_ior C dX1_expand_34 ?_
      refine z_put (q := 21) C hI tyX1 (T := TX1) (N := 12) (ci := 1) (own := RX1) (index := 53) hT1 hown hK (by decide) rfl rfl 10 (by decide) (hts (.fieldLink RX1 53 "TriggerAnalyzer$Exploration" "readyEver" "I") (by decide +kernel)) (fun _ h9 => h9) tyX1_ok nmX1 rfl rfl rfl (Nat.le_of_ble_eq_true rfl) (f' := xF ad cI cL cR ((xs u 21 10 ((u.1 21 10) ||| (nI (rdy B (((E.1 k)) / 64))))))) rfl xF_ne dX1_expand_35 ?_
      have join56 : ∀ (w : xS), (xFr u w) → (xEr w E (8 * k)) → (xA_r w B E (k + 1)) → (xA_c w B E (k + 1)) → (xA_e w E k) → ZZ pq l lq { frames := 3, cells := 0, slots := 0, locals := 71 } sq mq aq bq hmq cq D vwCl 34 ad 7 0 0 Qq (xF ad cI cL cR w) [(0, .ref (ad 21)), (1, .int (nI k)), (2, .int (nI (E.1 k))), (3, .int (nI (rdy B (E.1 k / 64))))] 56 [] := by
        intro w hfw huw hrw hcw hew
        have hRw : xR w n B := xR_Fr hR hfw
        have join80 : ∀ (w2 : xS), (xFr u w2) → (xEr w2 E (8 * k)) → (xA_r w2 B E (k + 1) ∧ xA_c w2 B E (k + 1) ∧ xA_e w2 E (k + 1)) → ZZ pq l lq { frames := 3, cells := 0, slots := 0, locals := 71 } sq mq aq bq hmq cq D vwCl 34 ad 7 0 0 Qq (xF ad cI cL cR w2) [(0, .ref (ad 21)), (1, .int (nI k)), (2, .int (nI (E.1 k))), (3, .int (nI (rdy B (E.1 k / 64))))] 80 [] := by
          intro w2 hf2 hu2 hA2
          refine z_iconst (v := nI 0) C (by decide) dX1_expand_80 ?_
          refine z_istore (L' := [(4, .int (nI 0)), (0, .ref (ad 21)), (1, .int (nI k)), (2, .int (nI (E.1 k))), (3, .int (nI (rdy B (E.1 k / 64))))]) C dX1_expand_81 (by decide) rfl ?_
          have loop83 : ∀ (d83 : Nat) (r : Nat) (w3 : xS), 8 - r < d83 → (r ≤ 8) → (xEr w3 (bex B k E r) (8 * k + r)) → (xA_r w3 B E (k + 1) ∧ xA_c w3 B E (k + 1) ∧ xA_e w3 E (k + 1)) → (xFr u w3) → ZZ pq l lq { frames := 3, cells := 0, slots := 0, locals := 71 } sq mq aq bq hmq cq D vwCl 34 ad 7 0 0 Qq (xF ad cI cL cR w3) [(0, .ref (ad 21)), (1, .int (nI k)), (2, .int (nI (E.1 k))), (3, .int (nI (rdy B (E.1 k / 64)))), (4, .int (nI r))] 83 [] := by
            intro d83
            induction d83 with
            | zero => intro r w3 hz; exact absurd hz (Nat.not_lt_zero _)
            | succ d83 ih83 =>
              intro r w3 hz83 hr8 hw3 hA3 hF3
              have hR3 : xR w3 n B := xR_Fr hR hF3
              have hb3 := bex_ok hR.1 hE hk r hr8
              have hc3 : (bex B k E r).2.2.2.1 ≤ 1000 := hb3.1.2.1
              have hck : k < (bex B k E r).2.2.2.1 := Nat.lt_of_lt_of_le hk hb3.2.1
              have hSk : (bex B k E r).1 k = E.1 k := (hb3.2.2.1 k hk).1
              have hDk : (bex B k E r).2.1 k = E.2.1 k := (hb3.2.2.1 k hk).2
              have hD3 : w3.1 23 k = nI (E.2.1 k) := by rw [(hw3.2.2.1 k hck).2, hDk]
              refine z_iload C dX1_expand_83 4 rfl ?_
              refine z_bipush (v := nI 8) C (by decide) dX1_expand_85 ?_
              refine z_icmp_ge (tgt := 162) C dX1_expand_87 (by decide) (fun zc87 => ?_) (fun zc87 => ?_)
              · skip
                have zn87 := zge_t (a := r) (b := 8) (by omega) (by omega) zc87
                have e8 : r = 8 := by omega
                subst e8
                have hg8 := (bex_ok hR.1 hE hk 8 (Nat.le_refl _)).2
                exact z_vret C hr hlocks hQ w3 (⟨hw3, xA_go hA3 (fun j hj => hg8.2.1 j (by omega)), hF3⟩) (fun _ _ => rfl) dX1_expand_162
              · skip
                have zn87 := zge_f (a := r) (b := 8) (by omega) (by omega) zc87
                rcases Nat.lt_or_ge r n with hrn | hrn
                · skip
                  refine z_aload_n C dX1_expand_90 0 rfl ?_
                  refine z_get (q := 21) C (T := TX1) (N := 12) (ci := 1) (own := RX1) (index := 38) (v := .ref (ad 16)) hT1 hown hK (by decide) rfl rfl 0 (by decide) (hts (.fieldLink RX1 38 "TriggerAnalyzer$Exploration" "book" "LTriggerAnalyzer$RuleBook;") (by decide +kernel)) (fun _ h9 => h9) rfl dX1_expand_91 ?_
                  refine z_iload C dX1_expand_94 4 rfl ?_
                  refine z_callVq xX_ok C hml hown hts hK hX (c_X5_ruleOrNull_vh l D ad cI cL cR hI w3 n B hR3 r hrn) (cwV 1 hts gX1_expand_X5_ruleOrNull rfl rfl rfl (by decide +kernel) ⟨Nat.le_of_ble_eq_true rfl, Nat.le_of_ble_eq_true rfl⟩) (by decide) (ci := 5) rfl rfl rfl (st := []) rfl (Nat.le_of_ble_eq_true rfl) dX1_expand_96 ⟨Nat.le_of_ble_eq_true rfl, Nat.le_of_ble_eq_true rfl⟩ (fun r96 u96 h96 => ?_)
                  obtain ⟨zr96, zu96⟩ := h96
                  subst r96
                  subst u96
                  refine z_topv (y := .ref (ad r)) rfl ?_
                  refine z_astore (L' := [(5, .ref (ad r)), (0, .ref (ad 21)), (1, .int (nI k)), (2, .int (nI (E.1 k))), (3, .int (nI (rdy B (E.1 k / 64)))), (4, .int (nI r))]) C dX1_expand_99 (by decide) rfl ?_
                  refine z_iconst (v := (-1)) C (by decide) dX1_expand_101 ?_
                  refine z_istore (L' := [(6, .int ((-1))), (5, .ref (ad r)), (0, .ref (ad 21)), (1, .int (nI k)), (2, .int (nI (E.1 k))), (3, .int (nI (rdy B (E.1 k / 64)))), (4, .int (nI r))]) C dX1_expand_102 (by decide) rfl ?_
                  refine z_aload C dX1_expand_104 1 rfl ?_
                  refine z_ifnull C dX1_expand_106 ?_
                  refine z_iload_n C dX1_expand_109 5 rfl ?_
                  refine z_aload C dX1_expand_110 1 rfl ?_
                  refine z_get (q := r) C (T := TX4) (N := 11) (ci := 4) (own := RX1) (index := 103) (v := .int (nI (2 ^ r))) hT4 hown hK (by omega) (xF_r zn87) rfl 0 (by decide) (hts (.fieldLink RX1 103 "TriggerAnalyzer$Rule" "bit" "I") (by decide +kernel)) (fun _ h9 => h9) rfl dX1_expand_112 ?_
                  refine z_iand C dX1_expand_115 ?_
                  refine z_topi (y := nI ((rdy B (E.1 k / 64)) &&& (2 ^ r))) (fa_and (rdy B (E.1 k / 64)) (2 ^ r)) ?_
                  refine z_if_eq (tgt := 143) C dX1_expand_116 (by decide) (fun zc116 => ?_) (fun zc116 => ?_)
                  · skip
                    have h116 := zi_bitF (by omega) zc116
                    refine z_aload_n C dX1_expand_143 2 rfl ?_
                    refine z_iload_n C dX1_expand_144 3 rfl ?_
                    refine z_bipush (v := nI 8) C (by decide) dX1_expand_145 ?_
                    refine z_imul C dX1_expand_147 ?_
                    refine z_topi (y := nI (k * 8)) (pk_mul k 8) ?_
                    refine z_iload C dX1_expand_148 6 rfl ?_
                    refine z_iadd C dX1_expand_150 ?_
                    refine z_topi (y := nI ((k * 8) + r)) (nI_add (k * 8) r) ?_
                    refine z_topi (y := nI (8 * k + r)) (by rw [Nat.mul_comm]) ?_
                    refine z_iload C dX1_expand_151 0 rfl ?_
                    refine z_callVv xX_ok C hml hown hts hK hX (c_X1_keepNext l D ad cI cL cR hI w3 (8 * k + r) (by omega) ((-1))) (cwV 2 hts gX1_expand_X1_keepNext rfl rfl rfl (by decide +kernel) ⟨Nat.le_of_ble_eq_true rfl, Nat.le_of_ble_eq_true rfl⟩) (by decide) (ci := 1) rfl rfl rfl (st := []) rfl (Nat.le_of_ble_eq_true rfl) dX1_expand_153 ⟨Nat.le_of_ble_eq_true rfl, Nat.le_of_ble_eq_true rfl⟩ (fun u153 h153 => ?_)
                    subst u153
                    refine z_iinc (L' := [(4, .int (nI (r + 1))), (6, .int ((-1))), (5, .ref (ad r)), (0, .ref (ad 21)), (1, .int (nI k)), (2, .int (nI (E.1 k))), (3, .int (nI (rdy B (E.1 k / 64))))]) C dX1_expand_156 6 rfl (nI_1 r) (by decide) rfl ?_
                    refine z_goto (tgt := 83) C dX1_expand_159 (by decide) ?_
                    refine z_sub (L' := [(0, .ref (ad 21)), (1, .int (nI k)), (2, .int (nI (E.1 k))), (3, .int (nI (rdy B (E.1 k / 64)))), (4, .int (nI (r + 1)))]) [3, 4, 5, 6, 0] rfl ?_
                    exact ih83 (r + 1) (xs w3 24 ((8 * k + r)) (((-1)))) (by omega) (by omega) (xst_no hw3 (by rw [hSk, h116]; decide)) (xA_fr hA3 (by rw [xs_c (by decide)]) (by rw [xs_c (by decide)]) (by rw [xs_r (by decide)]) (by rw [xs_r (by decide)])) (xFr_s hF3 (by decide) (by decide) (by omega))
                  · skip
                    have h116 := zi_bitT (by omega) zc116
                    have hrb : (rdy B ((bex B k E r).1 k / 64)).testBit r = true := by rw [hSk]; exact h116
                    have hy9 : ply B r (E.1 k) < 16384 := ply_lt hR.1 zn87 hS2
                    refine z_aload_n C dX1_expand_119 2 rfl ?_
                    refine z_aload_n C dX1_expand_120 2 rfl ?_
                    refine z_get (q := 21) C (T := TX1) (N := 12) (ci := 1) (own := RX1) (index := 38) (v := .ref (ad 16)) hT1 hown hK (by decide) rfl rfl 0 (by decide) (hts (.fieldLink RX1 38 "TriggerAnalyzer$Exploration" "book" "LTriggerAnalyzer$RuleBook;") (by decide +kernel)) (fun _ h9 => h9) rfl dX1_expand_121 ?_
                    refine z_iload_n C dX1_expand_124 4 rfl ?_
                    refine z_aload C dX1_expand_125 1 rfl ?_
                    refine z_callVi xX_ok C hml hown hts hK hX (c_X5_played l D ad cI cL cR hI w3 n B hR3 (E.1 k) hS2 r zn87) (cwV 2 hts gX1_expand_X5_played rfl rfl rfl (by decide +kernel) ⟨Nat.le_of_ble_eq_true rfl, Nat.le_of_ble_eq_true rfl⟩) (by decide) (ci := 5) rfl rfl rfl (st := [.ref (ad 21)]) rfl (Nat.le_of_ble_eq_true rfl) dX1_expand_127 ⟨Nat.le_of_ble_eq_true rfl, Nat.le_of_ble_eq_true rfl⟩ (fun r127 u127 h127 => ?_)
                    obtain ⟨zr127, zu127⟩ := h127
                    subst r127
                    subst u127
                    refine z_aload_n C dX1_expand_130 2 rfl ?_
                    refine z_get (q := 21) C (T := TX1) (N := 12) (ci := 1) (own := RX1) (index := 15) (v := .ref (ad 23)) hT1 hown hK (by decide) rfl rfl 2 (by decide) (hts (.fieldLink RX1 15 "TriggerAnalyzer$Exploration" "depths" "[I") (by decide +kernel)) (fun _ h9 => h9) rfl dX1_expand_131 ?_
                    refine z_iload_n C dX1_expand_134 3 rfl ?_
                    refine z_iald (q := 23) (len := 1000) (k := k) C hK (by decide) rfl 0 rfl (rfl) (by omega) (by decide) dX1_expand_135 ?_
                    refine z_topi (y := nI (E.2.1 k)) (hD3) ?_
                    refine z_iconst (v := nI 1) C (by decide) dX1_expand_136 ?_
                    refine z_iadd C dX1_expand_137 ?_
                    refine z_topi (y := nI ((E.2.1 k) + 1)) (nI_add (E.2.1 k) 1) ?_
                    rcases p3_cases (plc (bex B k E r).1 (bex B k E r).2.2.2.1 (ply B r (E.1 k))) _ hc3 with ⟨j9, hp9⟩ | ⟨hp9, hc9⟩ | ⟨hp9, hc9⟩
                    · skip
                      have hq9 : w3.1 25 (ply B r (E.1 k)) = nI (j9 + 1) := by rw [hw3.2.2.2.2 _ hy9, hp9]
                      rw [← hSk] at hp9
                      have hj9 : j9 < 1000 := by have := plc_f hp9; omega
                      refine z_callVi xX_ok C hml hown hts hK hX (c_X1_findOrAdd_vf l D ad cI cL cR hI w3 (ply B r (E.1 k)) hy9 (nI (E.2.1 k + 1)) j9 hj9 hq9) (cwV 2 hts gX1_expand_X1_findOrAdd rfl rfl rfl (by decide +kernel) ⟨Nat.le_of_ble_eq_true rfl, Nat.le_of_ble_eq_true rfl⟩) (by decide) (ci := 1) rfl rfl rfl (st := []) rfl (Nat.le_of_ble_eq_true rfl) dX1_expand_138 ⟨Nat.le_of_ble_eq_true rfl, Nat.le_of_ble_eq_true rfl⟩ (fun r138 u138 h138 => ?_)
                      obtain ⟨zr138, zu138⟩ := h138
                      subst r138
                      subst u138
                      refine z_istore (L' := [(6, .int (nI j9)), (5, .ref (ad r)), (0, .ref (ad 21)), (1, .int (nI k)), (2, .int (nI (E.1 k))), (3, .int (nI (rdy B (E.1 k / 64)))), (4, .int (nI r))]) C dX1_expand_141 (by decide) rfl ?_
                      refine z_aload_n C dX1_expand_143 2 rfl ?_
                      refine z_iload_n C dX1_expand_144 3 rfl ?_
                      refine z_bipush (v := nI 8) C (by decide) dX1_expand_145 ?_
                      refine z_imul C dX1_expand_147 ?_
                      refine z_topi (y := nI (k * 8)) (pk_mul k 8) ?_
                      refine z_iload C dX1_expand_148 6 rfl ?_
                      refine z_iadd C dX1_expand_150 ?_
                      refine z_topi (y := nI ((k * 8) + r)) (nI_add (k * 8) r) ?_
                      refine z_topi (y := nI (8 * k + r)) (by rw [Nat.mul_comm]) ?_
                      refine z_iload C dX1_expand_151 0 rfl ?_
                      refine z_callVv xX_ok C hml hown hts hK hX (c_X1_keepNext l D ad cI cL cR hI w3 (8 * k + r) (by omega) (nI j9)) (cwV 2 hts gX1_expand_X1_keepNext rfl rfl rfl (by decide +kernel) ⟨Nat.le_of_ble_eq_true rfl, Nat.le_of_ble_eq_true rfl⟩) (by decide) (ci := 1) rfl rfl rfl (st := []) rfl (Nat.le_of_ble_eq_true rfl) dX1_expand_153 ⟨Nat.le_of_ble_eq_true rfl, Nat.le_of_ble_eq_true rfl⟩ (fun u153 h153 => ?_)
                      subst u153
                      refine z_iinc (L' := [(4, .int (nI (r + 1))), (6, .int (nI j9)), (5, .ref (ad r)), (0, .ref (ad 21)), (1, .int (nI k)), (2, .int (nI (E.1 k))), (3, .int (nI (rdy B (E.1 k / 64))))]) C dX1_expand_156 6 rfl (nI_1 r) (by decide) rfl ?_
                      refine z_goto (tgt := 83) C dX1_expand_159 (by decide) ?_
                      refine z_sub (L' := [(0, .ref (ad 21)), (1, .int (nI k)), (2, .int (nI (E.1 k))), (3, .int (nI (rdy B (E.1 k / 64)))), (4, .int (nI (r + 1)))]) [3, 4, 5, 6, 0] rfl ?_
                      exact ih83 (r + 1) (xs w3 24 ((8 * k + r)) ((nI j9))) (by omega) (by omega) (xst_f hw3 hrb hp9) (xA_fr hA3 (by rw [xs_c (by decide)]) (by rw [xs_c (by decide)]) (by rw [xs_r (by decide)]) (by rw [xs_r (by decide)])) (xFr_s hF3 (by decide) (by decide) (by omega))
                    · skip
                      have hq9 : w3.1 25 (ply B r (E.1 k)) = nI 0 := by rw [hw3.2.2.2.2 _ hy9, hp9]
                      rw [← hSk] at hp9
                      refine z_callVi xX_ok C hml hown hts hK hX (c_X1_findOrAdd_vm l D ad cI cL cR hI w3 (ply B r (E.1 k)) hy9 (nI (E.2.1 k + 1)) hq9 (hw3.1.trans (by rw [hc9]))) (cwV 2 hts gX1_expand_X1_findOrAdd rfl rfl rfl (by decide +kernel) ⟨Nat.le_of_ble_eq_true rfl, Nat.le_of_ble_eq_true rfl⟩) (by decide) (ci := 1) rfl rfl rfl (st := []) rfl (Nat.le_of_ble_eq_true rfl) dX1_expand_138 ⟨Nat.le_of_ble_eq_true rfl, Nat.le_of_ble_eq_true rfl⟩ (fun r138 u138 h138 => ?_)
                      obtain ⟨zr138, zu138⟩ := h138
                      subst r138
                      subst u138
                      refine z_istore (L' := [(6, .int ((-1))), (5, .ref (ad r)), (0, .ref (ad 21)), (1, .int (nI k)), (2, .int (nI (E.1 k))), (3, .int (nI (rdy B (E.1 k / 64)))), (4, .int (nI r))]) C dX1_expand_141 (by decide) rfl ?_
                      refine z_aload_n C dX1_expand_143 2 rfl ?_
                      refine z_iload_n C dX1_expand_144 3 rfl ?_
                      refine z_bipush (v := nI 8) C (by decide) dX1_expand_145 ?_
                      refine z_imul C dX1_expand_147 ?_
                      refine z_topi (y := nI (k * 8)) (pk_mul k 8) ?_
                      refine z_iload C dX1_expand_148 6 rfl ?_
                      refine z_iadd C dX1_expand_150 ?_
                      refine z_topi (y := nI ((k * 8) + r)) (nI_add (k * 8) r) ?_
                      refine z_topi (y := nI (8 * k + r)) (by rw [Nat.mul_comm]) ?_
                      refine z_iload C dX1_expand_151 0 rfl ?_
                      refine z_callVv xX_ok C hml hown hts hK hX (c_X1_keepNext l D ad cI cL cR hI (xs w3 21 9 (nI 1)) (8 * k + r) (by omega) ((-1))) (cwV 2 hts gX1_expand_X1_keepNext rfl rfl rfl (by decide +kernel) ⟨Nat.le_of_ble_eq_true rfl, Nat.le_of_ble_eq_true rfl⟩) (by decide) (ci := 1) rfl rfl rfl (st := []) rfl (Nat.le_of_ble_eq_true rfl) dX1_expand_153 ⟨Nat.le_of_ble_eq_true rfl, Nat.le_of_ble_eq_true rfl⟩ (fun u153 h153 => ?_)
                      subst u153
                      refine z_iinc (L' := [(4, .int (nI (r + 1))), (6, .int ((-1))), (5, .ref (ad r)), (0, .ref (ad 21)), (1, .int (nI k)), (2, .int (nI (E.1 k))), (3, .int (nI (rdy B (E.1 k / 64))))]) C dX1_expand_156 6 rfl (nI_1 r) (by decide) rfl ?_
                      refine z_goto (tgt := 83) C dX1_expand_159 (by decide) ?_
                      refine z_sub (L' := [(0, .ref (ad 21)), (1, .int (nI k)), (2, .int (nI (E.1 k))), (3, .int (nI (rdy B (E.1 k / 64)))), (4, .int (nI (r + 1)))]) [3, 4, 5, 6, 0] rfl ?_
                      exact ih83 (r + 1) (xs (xs w3 21 9 (nI 1)) 24 ((8 * k + r)) (((-1)))) (by omega) (by omega) (xst_m hw3 hrb hp9 hc9) (xA_fr hA3 (by rw [xs_c (by decide), xs_j (by decide)]) (by rw [xs_c (by decide), xs_j (by decide)]) (by rw [xs_r (by decide), xs_r (by decide)]) (by rw [xs_r (by decide), xs_r (by decide)])) (xFr_s (xFr_s hF3 (by decide) (by decide) (by decide)) (by decide) (by decide) (by omega))
                    · skip
                      have hq9 : w3.1 25 (ply B r (E.1 k)) = nI 0 := by rw [hw3.2.2.2.2 _ hy9, hp9]
                      rw [← hSk] at hp9
                      refine z_callVi xX_ok C hml hown hts hK hX (c_X1_findOrAdd_vw l D ad cI cL cR hI w3 (ply B r (E.1 k)) hy9 (nI (E.2.1 k + 1)) (bex B k E r).2.2.2.1 hc9 hq9 hw3.1) (cwV 2 hts gX1_expand_X1_findOrAdd rfl rfl rfl (by decide +kernel) ⟨Nat.le_of_ble_eq_true rfl, Nat.le_of_ble_eq_true rfl⟩) (by decide) (ci := 1) rfl rfl rfl (st := []) rfl (Nat.le_of_ble_eq_true rfl) dX1_expand_138 ⟨Nat.le_of_ble_eq_true rfl, Nat.le_of_ble_eq_true rfl⟩ (fun r138 u138 h138 => ?_)
                      obtain ⟨zr138, zu138⟩ := h138
                      subst r138
                      subst u138
                      refine z_istore (L' := [(6, .int (nI ((bex B k E r).2.2.2.1))), (5, .ref (ad r)), (0, .ref (ad 21)), (1, .int (nI k)), (2, .int (nI (E.1 k))), (3, .int (nI (rdy B (E.1 k / 64)))), (4, .int (nI r))]) C dX1_expand_141 (by decide) rfl ?_
                      refine z_aload_n C dX1_expand_143 2 rfl ?_
                      refine z_iload_n C dX1_expand_144 3 rfl ?_
                      refine z_bipush (v := nI 8) C (by decide) dX1_expand_145 ?_
                      refine z_imul C dX1_expand_147 ?_
                      refine z_topi (y := nI (k * 8)) (pk_mul k 8) ?_
                      refine z_iload C dX1_expand_148 6 rfl ?_
                      refine z_iadd C dX1_expand_150 ?_
                      refine z_topi (y := nI ((k * 8) + r)) (nI_add (k * 8) r) ?_
                      refine z_topi (y := nI (8 * k + r)) (by rw [Nat.mul_comm]) ?_
                      refine z_iload C dX1_expand_151 0 rfl ?_
                      refine z_callVv xX_ok C hml hown hts hK hX (c_X1_keepNext l D ad cI cL cR hI (xs (xs (xs (xs w3 22 ((bex B k E r).2.2.2.1) (nI ((ply B r (E.1 k))))) 23 ((bex B k E r).2.2.2.1) ((nI (E.2.1 k + 1)))) 21 7 (nI (((bex B k E r).2.2.2.1) + 1))) 25 ((ply B r (E.1 k))) (nI (((bex B k E r).2.2.2.1) + 1))) (8 * k + r) (by omega) (nI ((bex B k E r).2.2.2.1))) (cwV 2 hts gX1_expand_X1_keepNext rfl rfl rfl (by decide +kernel) ⟨Nat.le_of_ble_eq_true rfl, Nat.le_of_ble_eq_true rfl⟩) (by decide) (ci := 1) rfl rfl rfl (st := []) rfl (Nat.le_of_ble_eq_true rfl) dX1_expand_153 ⟨Nat.le_of_ble_eq_true rfl, Nat.le_of_ble_eq_true rfl⟩ (fun u153 h153 => ?_)
                      subst u153
                      refine z_iinc (L' := [(4, .int (nI (r + 1))), (6, .int (nI ((bex B k E r).2.2.2.1))), (5, .ref (ad r)), (0, .ref (ad 21)), (1, .int (nI k)), (2, .int (nI (E.1 k))), (3, .int (nI (rdy B (E.1 k / 64))))]) C dX1_expand_156 6 rfl (nI_1 r) (by decide) rfl ?_
                      refine z_goto (tgt := 83) C dX1_expand_159 (by decide) ?_
                      refine z_sub (L' := [(0, .ref (ad 21)), (1, .int (nI k)), (2, .int (nI (E.1 k))), (3, .int (nI (rdy B (E.1 k / 64)))), (4, .int (nI (r + 1)))]) [3, 4, 5, 6, 0] rfl ?_
                      exact ih83 (r + 1) (xs (xs (xs (xs (xs w3 22 ((bex B k E r).2.2.2.1) (nI ((ply B r (E.1 k))))) 23 ((bex B k E r).2.2.2.1) ((nI (E.2.1 k + 1)))) 21 7 (nI (((bex B k E r).2.2.2.1) + 1))) 25 ((ply B r (E.1 k))) (nI (((bex B k E r).2.2.2.1) + 1))) 24 ((8 * k + r)) ((nI ((bex B k E r).2.2.2.1)))) (by omega) (by omega) (by have hw9 := xst_w hw3 hrb hp9 hc9; rw [hSk, hDk] at hw9; exact hw9) (xA_fr hA3 (by rw [xs_c (by decide), xs_c (by decide), xs_j (by decide), xs_c (by decide), xs_c (by decide)]) (by rw [xs_c (by decide), xs_c (by decide), xs_j (by decide), xs_c (by decide), xs_c (by decide)]) (by rw [xs_r (by decide), xs_r (by decide), xs_r (by decide), xs_r (by decide), xs_r (by decide)]) (by rw [xs_r (by decide), xs_r (by decide), xs_r (by decide), xs_r (by decide), xs_r (by decide)])) (xFr_s (xFr_s (xFr_s (xFr_s (xFr_s hF3 (by decide) (by decide) (by omega)) (by decide) (by decide) (by omega)) (by decide) (by decide) (by decide)) (by decide) (by decide) (by omega)) (by decide) (by decide) (by omega))
                · skip
                  refine z_aload_n C dX1_expand_90 0 rfl ?_
                  refine z_get (q := 21) C (T := TX1) (N := 12) (ci := 1) (own := RX1) (index := 38) (v := .ref (ad 16)) hT1 hown hK (by decide) rfl rfl 0 (by decide) (hts (.fieldLink RX1 38 "TriggerAnalyzer$Exploration" "book" "LTriggerAnalyzer$RuleBook;") (by decide +kernel)) (fun _ h9 => h9) rfl dX1_expand_91 ?_
                  refine z_iload C dX1_expand_94 4 rfl ?_
                  refine z_callVq xX_ok C hml hown hts hK hX (c_X5_ruleOrNull_vb l D ad cI cL cR hI w3 n B hR3 r hrn (by omega)) (cwV 1 hts gX1_expand_X5_ruleOrNull rfl rfl rfl (by decide +kernel) ⟨Nat.le_of_ble_eq_true rfl, Nat.le_of_ble_eq_true rfl⟩) (by decide) (ci := 5) rfl rfl rfl (st := []) rfl (Nat.le_of_ble_eq_true rfl) dX1_expand_96 ⟨Nat.le_of_ble_eq_true rfl, Nat.le_of_ble_eq_true rfl⟩ (fun r96 u96 h96 => ?_)
                  obtain ⟨zr96, zu96⟩ := h96
                  subst r96
                  subst u96
                  refine z_topv (y := .null) rfl ?_
                  refine z_astoreN (L' := [(5, .null), (0, .ref (ad 21)), (1, .int (nI k)), (2, .int (nI (E.1 k))), (3, .int (nI (rdy B (E.1 k / 64)))), (4, .int (nI r))]) C dX1_expand_99 (by decide) rfl ?_
                  refine z_iconst (v := (-1)) C (by decide) dX1_expand_101 ?_
                  refine z_istore (L' := [(6, .int ((-1))), (5, .null), (0, .ref (ad 21)), (1, .int (nI k)), (2, .int (nI (E.1 k))), (3, .int (nI (rdy B (E.1 k / 64)))), (4, .int (nI r))]) C dX1_expand_102 (by decide) rfl ?_
                  refine z_aloadN C dX1_expand_104 1 rfl ?_
                  refine z_ifnullN (tgt := 143) C dX1_expand_106 (by decide) ?_
                  refine z_aload_n C dX1_expand_143 2 rfl ?_
                  refine z_iload_n C dX1_expand_144 3 rfl ?_
                  refine z_bipush (v := nI 8) C (by decide) dX1_expand_145 ?_
                  refine z_imul C dX1_expand_147 ?_
                  refine z_topi (y := nI (k * 8)) (pk_mul k 8) ?_
                  refine z_iload C dX1_expand_148 6 rfl ?_
                  refine z_iadd C dX1_expand_150 ?_
                  refine z_topi (y := nI ((k * 8) + r)) (nI_add (k * 8) r) ?_
                  refine z_topi (y := nI (8 * k + r)) (by rw [Nat.mul_comm]) ?_
                  refine z_iload C dX1_expand_151 0 rfl ?_
                  refine z_callVv xX_ok C hml hown hts hK hX (c_X1_keepNext l D ad cI cL cR hI w3 (8 * k + r) (by omega) ((-1))) (cwV 2 hts gX1_expand_X1_keepNext rfl rfl rfl (by decide +kernel) ⟨Nat.le_of_ble_eq_true rfl, Nat.le_of_ble_eq_true rfl⟩) (by decide) (ci := 1) rfl rfl rfl (st := []) rfl (Nat.le_of_ble_eq_true rfl) dX1_expand_153 ⟨Nat.le_of_ble_eq_true rfl, Nat.le_of_ble_eq_true rfl⟩ (fun u153 h153 => ?_)
                  subst u153
                  refine z_iinc (L' := [(4, .int (nI (r + 1))), (6, .int ((-1))), (5, .null), (0, .ref (ad 21)), (1, .int (nI k)), (2, .int (nI (E.1 k))), (3, .int (nI (rdy B (E.1 k / 64))))]) C dX1_expand_156 6 rfl (nI_1 r) (by decide) rfl ?_
                  refine z_goto (tgt := 83) C dX1_expand_159 (by decide) ?_
                  refine z_sub (L' := [(0, .ref (ad 21)), (1, .int (nI k)), (2, .int (nI (E.1 k))), (3, .int (nI (rdy B (E.1 k / 64)))), (4, .int (nI (r + 1)))]) [3, 4, 5, 6, 0] rfl ?_
                  exact ih83 (r + 1) (xs w3 24 ((8 * k + r)) (((-1)))) (by omega) (by omega) (xst_no hw3 (by rw [hSk]; exact rdy_ge hSt hrn)) (xA_fr hA3 (by rw [xs_c (by decide)]) (by rw [xs_c (by decide)]) (by rw [xs_r (by decide)]) (by rw [xs_r (by decide)])) (xFr_s hF3 (by decide) (by decide) (by omega))
          refine z_sub (L' := [(0, .ref (ad 21)), (1, .int (nI k)), (2, .int (nI (E.1 k))), (3, .int (nI (rdy B (E.1 k / 64)))), (4, .int (nI 0))]) [1, 2, 3, 4, 0] rfl ?_
          exact loop83 9 0 w2 (by omega) (by omega) hu2 hA2 hf2
        refine z_iload_n C dX1_expand_56 2 rfl ?_
        refine z_callSNi xX_ok C hml hown hts hK hX (c_X6_triggeredIn l D ad cI cL cR hI w (E.1 k) (by omega)) ⟨va_cnB 1 hts gX1_expand_X6_triggeredIn_n90 rfl rfl rfl hX.1.2.2.2.2.2.1 (hts (.initialized RX6) (by decide +kernel)) (by decide +kernel) ⟨Nat.le_of_ble_eq_true rfl, Nat.le_of_ble_eq_true rfl⟩, hts (.static yX6_triggeredIn) (by decide +kernel), trivial⟩ rfl (st := []) rfl (Nat.le_of_ble_eq_true rfl) dX1_expand_57 ⟨Nat.le_of_ble_eq_true rfl, Nat.le_of_ble_eq_true rfl⟩ (fun r57 u57 h57 => ?_)
        obtain ⟨zr57, zu57⟩ := h57
        subst r57
        subst u57
        refine z_if_ne (tgt := 80) C dX1_expand_60 (by decide) (fun zc60 => ?_) (fun zc60 => ?_)
        · skip
          have zn60 := z0_f zc60
          refine z_sub (L' := [(0, .ref (ad 21)), (1, .int (nI k)), (2, .int (nI (E.1 k))), (3, .int (nI (rdy B (E.1 k / 64))))]) [0, 1, 2, 3] rfl ?_
          exact join80 w hfw huw ⟨hrw, hcw, xA_e_no hew zn60⟩
        · skip
          have zn60 := z0_t (by omega) zc60
          refine z_aload_n C dX1_expand_63 0 rfl ?_
          refine z_get (q := 21) C (T := TX1) (N := 12) (ci := 1) (own := RX1) (index := 27) (v := .ref (ad 26)) hT1 hown hK (by decide) rfl rfl 5 (by decide) (hts (.fieldLink RX1 27 "TriggerAnalyzer$Exploration" "ends" "LTriggerAnalyzer$Ends;") (by decide +kernel)) (fun _ h9 => h9) rfl dX1_expand_64 ?_
          refine z_iload_n C dX1_expand_67 2 rfl ?_
          refine z_callSNi xX_ok C hml hown hts hK hX (c_X6_factsIn l D ad cI cL cR hI w (E.1 k)) ⟨va_cnB 1 hts gX1_expand_X6_factsIn_n93 rfl rfl rfl hX.1.2.2.2.2.2.2 (hts (.initialized RX6) (by decide +kernel)) (by decide +kernel) ⟨Nat.le_of_ble_eq_true rfl, Nat.le_of_ble_eq_true rfl⟩, hts (.static yX6_factsIn) (by decide +kernel), trivial⟩ rfl (st := [.ref (ad 26)]) rfl (Nat.le_of_ble_eq_true rfl) dX1_expand_68 ⟨Nat.le_of_ble_eq_true rfl, Nat.le_of_ble_eq_true rfl⟩ (fun r68 u68 h68 => ?_)
          obtain ⟨zr68, zu68⟩ := h68
          subst r68
          subst u68
          refine z_aload_n C dX1_expand_71 0 rfl ?_
          refine z_get (q := 21) C (T := TX1) (N := 12) (ci := 1) (own := RX1) (index := 15) (v := .ref (ad 23)) hT1 hown hK (by decide) rfl rfl 2 (by decide) (hts (.fieldLink RX1 15 "TriggerAnalyzer$Exploration" "depths" "[I") (by decide +kernel)) (fun _ h9 => h9) rfl dX1_expand_72 ?_
          refine z_iload_n C dX1_expand_75 1 rfl ?_
          refine z_iald (q := 23) (len := 1000) (k := k) C hK (by decide) rfl 0 rfl (rfl) (by omega) (by decide) dX1_expand_76 ?_
          refine z_topi (y := nI (E.2.1 k)) ((huw.2.2.1 k hk).2) ?_
          refine z_callVv xX_ok C hml hown hts hK hX (c_X0_append l D ad cI cL cR hI w (fb_ct (isE E.1) k) (ends_lt hE hk zn60) hew.1 (nI (E.1 k % 64)) (nI (E.2.1 k))) (cwV 2 hts gX1_expand_X0_append rfl rfl rfl (by decide +kernel) ⟨Nat.le_of_ble_eq_true rfl, Nat.le_of_ble_eq_true rfl⟩) (by decide) (ci := 0) rfl rfl rfl (st := []) rfl (Nat.le_of_ble_eq_true rfl) dX1_expand_77 ⟨Nat.le_of_ble_eq_true rfl, Nat.le_of_ble_eq_true rfl⟩ (fun u77 h77 => ?_)
          subst u77
          refine z_sub (L' := [(0, .ref (ad 21)), (1, .int (nI k)), (2, .int (nI (E.1 k))), (3, .int (nI (rdy B (E.1 k / 64))))]) [0, 1, 2, 3] rfl ?_
          exact join80 ((if ((fb_ct (isE E.1) k)) = 0 then xs (xs (xs w 26 2 ((nI (E.2.1 k)))) 27 ((fb_ct (isE E.1) k)) ((nI (E.1 k % 64)))) 26 1 (nI (((fb_ct (isE E.1) k)) + 1)) else xs (xs w 27 ((fb_ct (isE E.1) k)) ((nI (E.1 k % 64)))) 26 1 (nI (((fb_ct (isE E.1) k)) + 1)))) (xA_e_Fr hfw) (xEr_fr huw (xA_e_at (by decide) (by decide)) (xA_e_at (by decide) (by decide)) (fun q _ _ => xA_e_ro (by omega) (by omega))) ⟨(xA_e_at (by decide) (by decide)).trans hrw, (xA_e_at (by decide) (by decide)).trans hcw, xA_e_yes hew zn60⟩
      refine z_iload_n C dX1_expand_38 0 rfl ?_
      refine z_callSi xX_ok C hml hown hts hK hX (c_J6_bitCount_0f7a4_X l D ad cI cL cR hI ((xs u 21 10 ((u.1 21 10) ||| (nI (rdy B (((E.1 k)) / 64)))))) (rdy B (E.1 k / 64))) (va_cwS 1 hts gX1_expand_J6_bitCount_0f7a4 rfl rfl rfl (by decide +kernel) ⟨Nat.le_of_ble_eq_true rfl, Nat.le_of_ble_eq_true rfl⟩) rfl (st := []) rfl (Nat.le_of_ble_eq_true rfl) dX1_expand_39 ⟨Nat.le_of_ble_eq_true rfl, Nat.le_of_ble_eq_true rfl⟩ (fun r39 u39 h39 => ?_)
      obtain ⟨zr39, zu39⟩ := h39
      subst r39
      subst u39
      refine z_iconst (v := nI 1) C (by decide) dX1_expand_42 ?_
      refine z_icmp_le (tgt := 56) C dX1_expand_43 (by decide) (fun zc43 => ?_) (fun zc43 => ?_)
      · skip
        have h43 : two B E.1 k = false := decide_eq_false (fun h9 => h9 zc43)
        refine z_sub (L' := [(0, .ref (ad 21)), (1, .int (nI k)), (2, .int (nI (E.1 k))), (3, .int (nI (rdy B (((E.1 k)) / 64))))]) [2, 3, 1, 0] rfl ?_
        exact join56 ((xs u 21 10 ((u.1 21 10) ||| (nI (rdy B (((E.1 k)) / 64)))))) (xFr_s (xFr_rf u) (by decide) (by decide) (by decide)) (xEr_fr hu (by rw [xs_j (by decide)]) (by rw [xs_j (by decide)]) (fun q _ _ => xs_r (by omega))) (by show (xs u 21 10 _).1 21 10 = _; rw [xs_s, hA.1, fa_or]; rfl) (by show (xs u 21 10 _).1 21 11 = _; rw [xs_j (by decide), fb_ct_succ, h43]; exact hA.2.1) (by unfold xA_e; rw [xs_r (by decide), xs_r (by decide)]; exact hA.2.2)
      · skip
        have h43 : two B E.1 k = true := decide_eq_true zc43
        refine z_aload_n C dX1_expand_46 2 rfl ?_
        refine z_dup C rfl dX1_expand_47 ?_
        refine z_get (q := 21) C (T := TX1) (N := 12) (ci := 1) (own := RX1) (index := 56) (v := .int ((xs u 21 10 ((u.1 21 10) ||| (nI (rdy B (((E.1 k)) / 64))))).1 21 11)) hT1 hown hK (by decide) rfl rfl 11 (by decide) (hts (.fieldLink RX1 56 "TriggerAnalyzer$Exploration" "choices" "I") (by decide +kernel)) (fun _ h9 => h9) rfl dX1_expand_48 ?_
        refine z_topi (y := u.1 21 11) (xs_j (by decide)) ?_
        refine z_iconst (v := nI 1) C (by decide) dX1_expand_51 ?_
        refine z_iadd C dX1_expand_52 ?_
        refine z_put (q := 21) C hI tyX1 (T := TX1) (N := 12) (ci := 1) (own := RX1) (index := 56) hT1 hown hK (by decide) rfl rfl 11 (by decide) (hts (.fieldLink RX1 56 "TriggerAnalyzer$Exploration" "choices" "I") (by decide +kernel)) (fun _ h9 => h9) tyX1_ok nmX1 rfl rfl rfl (Nat.le_of_ble_eq_true rfl) (f' := xF ad cI cL cR ((xs ((xs u 21 10 ((u.1 21 10) ||| (nI (rdy B (((E.1 k)) / 64)))))) 21 11 ((u.1 21 11) + (nI 1))))) rfl xF_ne dX1_expand_53 ?_
        refine z_sub (L' := [(0, .ref (ad 21)), (1, .int (nI k)), (2, .int (nI (E.1 k))), (3, .int (nI (rdy B (((E.1 k)) / 64))))]) [2, 3, 1, 0] rfl ?_
        exact join56 ((xs ((xs u 21 10 ((u.1 21 10) ||| (nI (rdy B (((E.1 k)) / 64)))))) 21 11 ((u.1 21 11) + (nI 1)))) (xFr_s (xFr_s (xFr_rf u) (by decide) (by decide) (by decide)) (by decide) (by decide) (by decide)) (xEr_fr hu (by rw [xs_j (by decide), xs_j (by decide)]) (by rw [xs_j (by decide), xs_j (by decide)]) (fun q _ _ => by rw [xs_r (by omega), xs_r (by omega)])) (by show (xs (xs u 21 10 _) 21 11 _).1 21 10 = _; rw [xs_j (by decide), xs_s, hA.1, fa_or]; rfl) (by show (xs (xs u 21 10 _) 21 11 _).1 21 11 = _; rw [xs_s, fb_ct_succ, if_pos h43, hA.2.1]; exact nI_add _ 1) (by unfold xA_e; rw [xs_r (by decide), xs_r (by decide), xs_r (by decide), xs_r (by decide)]; exact hA.2.2)
    · skip
      have zn8 := zlt_f (a := k) (b := 1000) (by omega) (by omega) zc8
      exact False.elim (by omega)
