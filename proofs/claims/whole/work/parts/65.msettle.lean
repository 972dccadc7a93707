theorem eL_bd {c ct : Nat} {N lo : Nat → Nat} (h : ∀ j, j < c → lo j ≤ ct) (hN : ∀ e, e < 8 * c → N e ≤ c) {k r : Nat} (hk : k < c) (hr : r < 8) (hct : ct ≤ 1000) : eL N (loP lo) k r ≤ 1001 := by
  unfold eL
  split
  · omega
  · rename_i z
    have a := hN (8 * k + r) (by omega)
    have b := h (N (8 * k + r) - 1) (by omega)
    unfold loP
    omega

set_option maxHeartbeats 4000000 in
set_option maxRecDepth 100000 in
theorem c_X7_isSettled (l : Launch) (D : va_G) (ad : Nat → Nat) (cI cL cB : ClassId) (hI : gI 12 ad) (u : xS) (n c : Nat) (S N lo : Nat → Nat) (hn8 : n ≤ 8) (hn : u.1 0 1 = nI n) (hc2 : c ≤ 1000) (hNx : ∀ e, e < 8 * c → u.1 9 e = nxI (N e) ∧ N e ≤ c) (hlo : ∀ j, j < c → u.1 10 j = nxI (lo j)) (hbd : ∀ j, j < c → lo j ≤ 1001) (k : Nat) (hk : k < c) : ∀ sz, Met l yX7_isSettled wsX7_isSettled ({ frames := 0, cells := 0, slots := 0, locals := 0 }) (MP D ad cI cL cB u [.ref (ad 0), .int (nI k)] sz) (va_Qi (fun r_ u' => r_ = nI (1 - plb (sUn N lo k) n) ∧ u' = u) (MB D ad cI cL cB) (gA 12 ad sz)) 0 0 (gA 12 ad sz) := by
  intro sz
  refine z_met (cc := cX7_isSettled) (maxL := 4) (ret := (some .boolean)) (by decide) rfl (Nat.le_of_ble_eq_true rfl) ?_
  intro pq lq sq mq aq Qq bq hmq cq C hr hml hown hts hlocks hK hX hsz hQ
  subst hsz
  have hT7 : ∀ w ∈ wsX70, w.before aq sq = true := fun w h => hts w ((by decide +kernel : ∀ w ∈ wsX70, w ∈ wsX7_isSettled) w h)
  refine z_sub (L' := [(0, .ref (ad 0)), (1, .int (nI k))]) [0, 1] rfl ?_
  refine z_iconst (v := nI 1) C (by decide) dX7_isSettled_0 ?_
  refine z_istore_n (L' := [(2, .int (nI 1)), (0, .ref (ad 0)), (1, .int (nI k))]) C dX7_isSettled_1 (by decide) rfl ?_
  refine z_iconst (v := nI 0) C (by decide) dX7_isSettled_2 ?_
  refine z_istore_n (L' := [(3, .int (nI 0)), (2, .int (nI 1)), (0, .ref (ad 0)), (1, .int (nI k))]) C dX7_isSettled_3 (by decide) rfl ?_
  have loop4 : ∀ (d4 : Nat) (r b : Nat), n - r < d4 → (r ≤ n) → (b = 1 - plb (sUn N lo k) r) → ZZ pq l lq { frames := 0, cells := 0, slots := 0, locals := 0 } sq mq aq bq hmq cq D vwCl 12 ad 4 0 0 Qq (mF ad cI cL cB u) [(0, .ref (ad 0)), (1, .int (nI k)), (2, .int (nI b)), (3, .int (nI r))] 4 [] := by
    intro d4
    induction d4 with
    | zero => intro r b hz; exact absurd hz (Nat.not_lt_zero _)
    | succ d4 ih4 =>
      intro r b hz4 hr8 hb
      have hp1 := plb_le (sUn N lo k) r
      refine z_iload_n C dX7_isSettled_4 3 rfl ?_
      refine z_aload_n C dX7_isSettled_5 0 rfl ?_
      refine z_get (q := 0) C (T := TX7) (N := 18) (ci := 7) (own := RX7) (index := 49) (v := .int (u.1 0 1)) hT7 hown hK (by decide) rfl rfl 1 (by decide) (hts (.fieldLink RX7 49 "TriggerAnalyzerModel" "rules" "I") (by decide +kernel)) (fun _ h9 => h9) rfl dX7_isSettled_6 ?_
      refine z_topi (y := nI n) (hn) ?_
      refine z_icmp_ge (tgt := 63) C dX7_isSettled_9 (by decide) (fun zc9 => ?_) (fun zc9 => ?_)
      · skip
        have zn9 := zge_t (a := r) (b := n) (by omega) (by omega) zc9
        refine z_iload_n C dX7_isSettled_63 2 rfl ?_
        exact z_zret C hr hlocks (zn_bool (by omega : b ≤ 1)) hQ u (⟨by rw [hb, show r = n by omega], rfl⟩) (fun _ _ => rfl) dX7_isSettled_64
      · skip
        have zn9 := zge_f (a := r) (b := n) (by omega) (by omega) zc9
        have hNr := (hNx (8 * k + r) (by omega)).2
        refine z_iload_n C dX7_isSettled_12 2 rfl ?_
        refine z_if_eq (tgt := 55) C dX7_isSettled_13 (by decide) (fun zc13 => ?_) (fun zc13 => ?_)
        · skip
          have zn13 := z0_t (by omega) zc13
          refine z_iconst (v := nI 0) C (by decide) dX7_isSettled_55 ?_
          refine z_istore_n (L' := [(2, .int (nI 0)), (0, .ref (ad 0)), (1, .int (nI k)), (3, .int (nI r))]) C dX7_isSettled_56 (by decide) rfl ?_
          refine z_iinc (L' := [(3, .int (nI (r + 1))), (2, .int (nI 0)), (0, .ref (ad 0)), (1, .int (nI k))]) C dX7_isSettled_57 3 rfl (nI_1 r) (by decide) rfl ?_
          refine z_goto (tgt := 4) C dX7_isSettled_60 (by decide) ?_
          refine z_sub (L' := [(0, .ref (ad 0)), (1, .int (nI k)), (2, .int (nI 0)), (3, .int (nI (r + 1)))]) [2, 3, 1, 0] rfl ?_
          exact ih4 (r + 1) 0 (by omega) (by omega) (by rw [← plb_s (by omega : plb (sUn N lo k) r ≠ 0)])
        · skip
          have zn13 := z0_f zc13
          refine z_aload_n C dX7_isSettled_16 0 rfl ?_
          refine z_get (q := 0) C (T := TX7) (N := 18) (ci := 7) (own := RX7) (index := 35) (v := .ref (ad 9)) hT7 hown hK (by decide) rfl rfl 15 (by decide) (hts (.fieldLink RX7 35 "TriggerAnalyzerModel" "next" "[I") (by decide +kernel)) (fun _ h9 => h9) rfl dX7_isSettled_17 ?_
          refine z_bipush (v := nI 8) C (by decide) dX7_isSettled_20 ?_
          refine z_iload_n C dX7_isSettled_22 1 rfl ?_
          refine z_imul C dX7_isSettled_23 ?_
          refine z_topi (y := nI (8 * k)) (pk_mul 8 k) ?_
          refine z_iload_n C dX7_isSettled_24 3 rfl ?_
          refine z_iadd C dX7_isSettled_25 ?_
          refine z_topi (y := nI ((8 * k) + r)) (nI_add (8 * k) r) ?_
          refine z_iald (q := 9) (len := 8000) (k := (8 * k) + r) C hK (by decide) rfl 0 rfl (rfl) (by omega) (by decide) dX7_isSettled_26 ?_
          refine z_topi (y := nxI (N (8 * k + r))) ((hNx _ (by omega)).1) ?_
          refine z_iconst (v := (-1)) C (by decide) dX7_isSettled_27 ?_
          refine z_icmp_eq (tgt := 51) C dX7_isSettled_28 (by decide) (fun zc28 => ?_) (fun zc28 => ?_)
          · skip
            refine z_iconst (v := nI 1) C (by decide) dX7_isSettled_51 ?_
            refine z_goto (tgt := 56) C dX7_isSettled_52 (by decide) ?_
            refine z_istore_n (L' := [(2, .int (nI 1)), (0, .ref (ad 0)), (1, .int (nI k)), (3, .int (nI r))]) C dX7_isSettled_56 (by decide) rfl ?_
            refine z_iinc (L' := [(3, .int (nI (r + 1))), (2, .int (nI 1)), (0, .ref (ad 0)), (1, .int (nI k))]) C dX7_isSettled_57 3 rfl (nI_1 r) (by decide) rfl ?_
            refine z_goto (tgt := 4) C dX7_isSettled_60 (by decide) ?_
            refine z_sub (L' := [(0, .ref (ad 0)), (1, .int (nI k)), (2, .int (nI 1)), (3, .int (nI (r + 1)))]) [2, 3, 1, 0] rfl ?_
            exact ih4 (r + 1) 1 (by omega) (by omega) (by rw [← plb_f (show sUn N lo k r = false by unfold sUn; rw [nx_t (by omega) zc28]; rfl)]; omega)
          · skip
            have hN0 := nx_f zc28
            have hb9 := hbd (N (8 * k + r) - 1) (by omega)
            refine z_aload_n C dX7_isSettled_31 0 rfl ?_
            refine z_get (q := 0) C (T := TX7) (N := 18) (ci := 7) (own := RX7) (index := 38) (v := .ref (ad 10)) hT7 hown hK (by decide) rfl rfl 16 (by decide) (hts (.fieldLink RX7 38 "TriggerAnalyzerModel" "longests" "[I") (by decide +kernel)) (fun _ h9 => h9) rfl dX7_isSettled_32 ?_
            refine z_aload_n C dX7_isSettled_35 0 rfl ?_
            refine z_get (q := 0) C (T := TX7) (N := 18) (ci := 7) (own := RX7) (index := 35) (v := .ref (ad 9)) hT7 hown hK (by decide) rfl rfl 15 (by decide) (hts (.fieldLink RX7 35 "TriggerAnalyzerModel" "next" "[I") (by decide +kernel)) (fun _ h9 => h9) rfl dX7_isSettled_36 ?_
            refine z_bipush (v := nI 8) C (by decide) dX7_isSettled_39 ?_
            refine z_iload_n C dX7_isSettled_41 1 rfl ?_
            refine z_imul C dX7_isSettled_42 ?_
            refine z_topi (y := nI (8 * k)) (pk_mul 8 k) ?_
            refine z_iload_n C dX7_isSettled_43 3 rfl ?_
            refine z_iadd C dX7_isSettled_44 ?_
            refine z_topi (y := nI ((8 * k) + r)) (nI_add (8 * k) r) ?_
            refine z_iald (q := 9) (len := 8000) (k := (8 * k) + r) C hK (by decide) rfl 0 rfl (rfl) (by omega) (by decide) dX7_isSettled_45 ?_
            refine z_topi (y := nI (N (8 * k + r) - 1)) ((hNx _ (by omega)).1.trans (nx_v (nx_f zc28))) ?_
            refine z_iald (q := 10) (len := 1000) (k := N (8 * k + r) - 1) C hK (by decide) rfl 0 rfl (rfl) (by omega) (by decide) dX7_isSettled_46 ?_
            refine z_topi (y := nxI (lo (N (8 * k + r) - 1))) (hlo _ (by omega)) ?_
            refine z_iconst (v := (-1)) C (by decide) dX7_isSettled_47 ?_
            refine z_icmp_eq (tgt := 55) C dX7_isSettled_48 (by decide) (fun zc48 => ?_) (fun zc48 => ?_)
            · skip
              refine z_iconst (v := nI 0) C (by decide) dX7_isSettled_55 ?_
              refine z_istore_n (L' := [(2, .int (nI 0)), (0, .ref (ad 0)), (1, .int (nI k)), (3, .int (nI r))]) C dX7_isSettled_56 (by decide) rfl ?_
              refine z_iinc (L' := [(3, .int (nI (r + 1))), (2, .int (nI 0)), (0, .ref (ad 0)), (1, .int (nI k))]) C dX7_isSettled_57 3 rfl (nI_1 r) (by decide) rfl ?_
              refine z_goto (tgt := 4) C dX7_isSettled_60 (by decide) ?_
              refine z_sub (L' := [(0, .ref (ad 0)), (1, .int (nI k)), (2, .int (nI 0)), (3, .int (nI (r + 1)))]) [2, 3, 1, 0] rfl ?_
              exact ih4 (r + 1) 0 (by omega) (by omega) (by rw [← plb_t (show sUn N lo k r = true by unfold sUn; rw [nx_t (by omega) zc48, decide_eq_true (nx_f zc28)]; rfl)])
            · skip
              refine z_iconst (v := nI 1) C (by decide) dX7_isSettled_51 ?_
              refine z_goto (tgt := 56) C dX7_isSettled_52 (by decide) ?_
              refine z_istore_n (L' := [(2, .int (nI 1)), (0, .ref (ad 0)), (1, .int (nI k)), (3, .int (nI r))]) C dX7_isSettled_56 (by decide) rfl ?_
              refine z_iinc (L' := [(3, .int (nI (r + 1))), (2, .int (nI 1)), (0, .ref (ad 0)), (1, .int (nI k))]) C dX7_isSettled_57 3 rfl (nI_1 r) (by decide) rfl ?_
              refine z_goto (tgt := 4) C dX7_isSettled_60 (by decide) ?_
              refine z_sub (L' := [(0, .ref (ad 0)), (1, .int (nI k)), (2, .int (nI 1)), (3, .int (nI (r + 1)))]) [2, 3, 1, 0] rfl ?_
              exact ih4 (r + 1) 1 (by omega) (by omega) (by rw [← plb_f (show sUn N lo k r = false by unfold sUn; rw [decide_eq_false (nx_f zc48), Bool.and_false])]; omega)
  refine z_sub (L' := [(0, .ref (ad 0)), (1, .int (nI k)), (2, .int (nI 1)), (3, .int (nI 0))]) [2, 3, 1, 0] rfl ?_
  exact loop4 (n + 1) 0 1 (by omega) (by omega) rfl

set_option maxHeartbeats 4000000 in
set_option maxRecDepth 100000 in
theorem c_X7_settle (l : Launch) (D : va_G) (ad : Nat → Nat) (cI cL cB : ClassId) (hI : gI 12 ad) (u : xS) (n c : Nat) (S N : Nat → Nat) (hn8 : n ≤ 8) (hn : u.1 0 1 = nI n) (hc1 : 1 ≤ c) (hc2 : c ≤ 1000) (h13 : u.1 0 13 = nI c) (hS : ∀ j, j < c → u.1 8 j = nI (mf (S j)) ∧ S j < 16384) (hNx : ∀ e, e < 8 * c → u.1 9 e = nxI (N e) ∧ N e ≤ c) (hE : ∀ j, j < c → (S j / 64 = 0 ↔ noE N j = true)) (hz8 : ∀ j, j < c → ∀ r, n ≤ r → r < 8 → N (8 * j + r) = 0) : ∀ sz, Met l yX7_settle wsX7_settle ({ frames := 2, cells := 0, slots := 0, locals := 41 }) (MP D ad cI cL cB u [.ref (ad 0)] sz) (va_Qi (fun r_ u' => ∃ (lo : Nat → Nat) (W : Nat → Int64) (ct : Nat), stI u c N lo W ct u' ∧ sCl c N lo 0 ∧ r_ = (if lo 0 = 0 then 0 else 1)) (MB D ad cI cL cB) (gA 12 ad sz)) 0 0 (gA 12 ad sz) := by
  intro sz
  refine z_met (cc := cX7_settle) (maxL := 5) (ret := (some .boolean)) (by decide) rfl (Nat.le_of_ble_eq_true rfl) ?_
  intro pq lq sq mq aq Qq bq hmq cq C hr hml hown hts hlocks hK hX hsz hQ
  subst hsz
  have hT7 : ∀ w ∈ wsX70, w.before aq sq = true := fun w h => hts w ((by decide +kernel : ∀ w ∈ wsX70, w ∈ wsX7_settle) w h)
  refine z_sub (L' := [(0, .ref (ad 0))]) [0] rfl ?_
  refine z_iconst (v := nI 0) C (by decide) dX7_settle_0 ?_
  refine z_istore_n (L' := [(1, .int (nI 0)), (0, .ref (ad 0))]) C dX7_settle_1 (by decide) rfl ?_
  have loop2 : ∀ (d2 : Nat) (k : Nat) (w : xS), c - k < d2 → (k ≤ c) → (∀ j, j < k → w.1 10 j = -1) → (∀ q, q ≠ 10 → w.1 q = u.1 q) → ZZ pq l lq { frames := 2, cells := 0, slots := 0, locals := 41 } sq mq aq bq hmq cq D vwCl 12 ad 5 0 0 Qq (mF ad cI cL cB w) [(0, .ref (ad 0)), (1, .int (nI k))] 2 [] := by
    intro d2
    induction d2 with
    | zero => intro k w hz; exact absurd hz (Nat.not_lt_zero _)
    | succ d2 ih2 =>
      intro k w hz2 hk hw1 hw6
      refine z_iload_n C dX7_settle_2 1 rfl ?_
      refine z_aload_n C dX7_settle_3 0 rfl ?_
      refine z_get (q := 0) C (T := TX7) (N := 18) (ci := 7) (own := RX7) (index := 113) (v := .int (w.1 0 13)) hT7 hown hK (by decide) rfl rfl 13 (by decide) (hts (.fieldLink RX7 113 "TriggerAnalyzerModel" "situations" "I") (by decide +kernel)) (fun _ h9 => h9) rfl dX7_settle_4 ?_
      refine z_topi (y := nI c) (by rw [hw6 0 (by decide)]; exact h13) ?_
      refine z_icmp_ge (tgt := 23) C dX7_settle_7 (by decide) (fun zc7 => ?_) (fun zc7 => ?_)
      · skip
        have zn7 := zge_t (a := k) (b := c) (by omega) (by omega) zc7
        refine z_iconst (v := nI 1) C (by decide) dX7_settle_23 ?_
        refine z_istore_n (L' := [(1, .int (nI 1)), (0, .ref (ad 0))]) C dX7_settle_24 (by decide) rfl ?_
        have loop25 : ∀ (d25 : Nat) (b ct : Nat) (lo : Nat → Nat) (W : Nat → Int64) (w : xS), 2 * (c - ct) + b < d25 → (b ≤ 1) → (stI u c N lo W ct w) → (b = 0 → sCl c N lo 0) → ZZ pq l lq { frames := 2, cells := 0, slots := 0, locals := 41 } sq mq aq bq hmq cq D vwCl 12 ad 5 0 0 Qq (mF ad cI cL cB w) [(0, .ref (ad 0)), (1, .int (nI b))] 25 [] := by
          intro d25
          induction d25 with
          | zero => intro b ct lo W w hz; exact absurd hz (Nat.not_lt_zero _)
          | succ d25 ih25 =>
            intro b ct lo W w hz25 hb1 hst hcl
            have hctc : ct ≤ c := by rw [hst.1]; exact fb_ct_le _ _
            refine z_iload_n C dX7_settle_25 1 rfl ?_
            refine z_if_eq (tgt := 178) C dX7_settle_26 (by decide) (fun zc26 => ?_) (fun zc26 => ?_)
            · skip
              have zn26 := z0_t (by omega) zc26
              have hl0b := hst.2.2.2.2.1 0 (by omega)
              refine z_aload_n C dX7_settle_178 0 rfl ?_
              refine z_get (q := 0) C (T := TX7) (N := 18) (ci := 7) (own := RX7) (index := 38) (v := .ref (ad 10)) hT7 hown hK (by decide) rfl rfl 16 (by decide) (hts (.fieldLink RX7 38 "TriggerAnalyzerModel" "longests" "[I") (by decide +kernel)) (fun _ h9 => h9) rfl dX7_settle_179 ?_
              refine z_iconst (v := nI 0) C (by decide) dX7_settle_182 ?_
              refine z_iald (q := 10) (len := 1000) (k := 0) C hK (by decide) rfl 0 rfl (rfl) (by omega) (by decide) dX7_settle_183 ?_
              refine z_topi (y := nxI (lo 0)) (hst.2.2.1 0 (by omega)) ?_
              refine z_iconst (v := (-1)) C (by decide) dX7_settle_184 ?_
              refine z_icmp_eq (tgt := 192) C dX7_settle_185 (by decide) (fun zc185 => ?_) (fun zc185 => ?_)
              · skip
                refine z_iconst (v := nI 0) C (by decide) dX7_settle_192 ?_
                exact z_zret C hr hlocks rfl hQ w (⟨lo, W, ct, hst, hcl zn26, by rw [if_pos (nx_t (by omega) zc185)]; rfl⟩) (fun _ _ => rfl) dX7_settle_193
              · skip
                refine z_iconst (v := nI 1) C (by decide) dX7_settle_188 ?_
                refine z_goto (tgt := 193) C dX7_settle_189 (by decide) ?_
                exact z_zret C hr hlocks rfl hQ w (⟨lo, W, ct, hst, hcl zn26, by rw [if_neg (nx_f zc185)]; rfl⟩) (fun _ _ => rfl) dX7_settle_193
            · skip
              have zn26 := z0_f zc26
              refine z_iconst (v := nI 0) C (by decide) dX7_settle_29 ?_
              refine z_istore_n (L' := [(1, .int (nI 0)), (0, .ref (ad 0))]) C dX7_settle_30 (by decide) rfl ?_
              refine z_aload_n C dX7_settle_31 1 rfl ?_
              refine z_get (q := 0) C (T := TX7) (N := 18) (ci := 7) (own := RX7) (index := 113) (v := .int (w.1 0 13)) hT7 hown hK (by decide) rfl rfl 13 (by decide) (hts (.fieldLink RX7 113 "TriggerAnalyzerModel" "situations" "I") (by decide +kernel)) (fun _ h9 => h9) rfl dX7_settle_32 ?_
              refine z_topi (y := nI c) (by rw [hst.2.2.2.2.2 0 (by decide)]; exact h13) ?_
              refine z_iconst (v := nI 1) C (by decide) dX7_settle_35 ?_
              refine z_isub C dX7_settle_36 ?_
              refine z_topi (y := nxI c) (nx_pre hc1) ?_
              refine z_istore_n (L' := [(2, .int (nxI c)), (1, .int (nI 0)), (0, .ref (ad 0))]) C dX7_settle_37 (by decide) rfl ?_
              have loop38 : ∀ (d38 : Nat) (kk b2 ct2 : Nat) (lo2 : Nat → Nat) (W2 : Nat → Int64) (w2 : xS), kk < d38 → (kk ≤ c) → (b2 ≤ 1) → (stI u c N lo2 W2 ct2 w2) → (ct ≤ ct2 ∧ (b2 = 1 → ct < ct2)) → (b2 = 0 → sCl c N lo2 kk) → ZZ pq l lq { frames := 2, cells := 0, slots := 0, locals := 41 } sq mq aq bq hmq cq D vwCl 12 ad 5 0 0 Qq (mF ad cI cL cB w2) [(0, .ref (ad 0)), (1, .int (nI b2)), (2, .int (nxI kk))] 38 [] := by
                intro d38
                induction d38 with
                | zero => intro kk b2 ct2 lo2 W2 w2 hz; exact absurd hz (Nat.not_lt_zero _)
                | succ d38 ih38 =>
                  intro kk b2 ct2 lo2 W2 w2 hz38 hkk hb2 hst2 hinc hcl2
                  have hct2 : ct2 ≤ c := by rw [hst2.1]; exact fb_ct_le _ _
                  refine z_iload_n C dX7_settle_38 2 rfl ?_
                  refine z_if_lt (tgt := 175) C dX7_settle_39 (by decide) (fun zc39 => ?_) (fun zc39 => ?_)
                  · skip
                    refine z_goto (tgt := 25) C dX7_settle_175 (by decide) ?_
                    refine z_sub (L' := [(0, .ref (ad 0)), (1, .int (nI b2))]) [0, 1] rfl ?_
                    exact ih25 b2 ct2 lo2 W2 w2 (by omega) hb2 hst2 (fun h => by rw [nx_ge (by omega) zc39] at hcl2; exact hcl2 h)
                  · skip
                    obtain ⟨k, rfl⟩ : ∃ k, kk = k + 1 := ⟨kk - 1, by have := nx_nl zc39; omega⟩
                    rw [← nx_s k]
                    have hk : k < c := hkk
                    have hlb := hst2.2.2.2.2.1 k hk
                    · skip
                      refine z_aload_n C dX7_settle_42 0 rfl ?_
                      refine z_get (q := 0) C (T := TX7) (N := 18) (ci := 7) (own := RX7) (index := 38) (v := .ref (ad 10)) hT7 hown hK (by decide) rfl rfl 16 (by decide) (hts (.fieldLink RX7 38 "TriggerAnalyzerModel" "longests" "[I") (by decide +kernel)) (fun _ h9 => h9) rfl dX7_settle_43 ?_
                      refine z_iload_n C dX7_settle_46 2 rfl ?_
                      refine z_iald (q := 10) (len := 1000) (k := k) C hK (by decide) rfl 0 rfl (rfl) (by omega) (by decide) dX7_settle_47 ?_
                      refine z_topi (y := nxI (lo2 k)) (hst2.2.2.1 k hk) ?_
                      refine z_iconst (v := (-1)) C (by decide) dX7_settle_48 ?_
                      refine z_icmp_ne (tgt := 169) C dX7_settle_49 (by decide) (fun zc49 => ?_) (fun zc49 => ?_)
                      · skip
                        refine z_iinc (L' := [(2, .int (nxI k)), (0, .ref (ad 0)), (1, .int (nI b2))]) C dX7_settle_169 2 rfl (nx_dec k) (by decide) rfl ?_
                        refine z_goto (tgt := 38) C dX7_settle_172 (by decide) ?_
                        refine z_sub (L' := [(0, .ref (ad 0)), (1, .int (nI b2)), (2, .int (nxI k))]) [1, 2, 0] rfl ?_
                        exact ih38 k b2 ct2 lo2 W2 w2 (by omega) (by omega) hb2 hst2 hinc (fun h j h1 h2 h3 => by by_cases z : j = k; rw [z] at h3; exact absurd h3 (nx_f zc49); exact hcl2 h j (by omega) h2 h3)
                      · skip
                        have hl0 := nx_t (by omega) zc49
                        refine z_aload_n C dX7_settle_52 0 rfl ?_
                        refine z_iload_n C dX7_settle_53 2 rfl ?_
                        refine z_callVi mX_ok C hml hown hts hK hX (c_X7_isSettled l D ad cI cL cB hI w2 n c S N lo2 hn8 (by rw [hst2.2.2.2.2.2 0 (by decide)]; exact hn) hc2 (fun e he => by rw [hst2.2.2.2.2.2 9 (by decide)]; exact hNx e he) hst2.2.2.1 (fun j hj => by have := hst2.2.2.2.2.1 j hj; omega) k hk) (cwV 1 hts gX7_settle_X7_isSettled rfl rfl rfl (by decide +kernel) ⟨Nat.le_of_ble_eq_true rfl, Nat.le_of_ble_eq_true rfl⟩) (by decide) (ci := 7) rfl rfl rfl (st := []) rfl (Nat.le_of_ble_eq_true rfl) dX7_settle_54 ⟨Nat.le_of_ble_eq_true rfl, Nat.le_of_ble_eq_true rfl⟩ (fun r54 u54 h54 => ?_)
                        obtain ⟨zr54, zu54⟩ := h54
                        subst r54
                        subst u54
                        refine z_if_ne (tgt := 63) C dX7_settle_57 (by decide) (fun zc57 => ?_) (fun zc57 => ?_)
                        · skip
                          have zn57 := z0_f zc57
                          have join88 : ∀ (e0 : Int64), (e0 = if noE N k = true then 1 else 0) → ZZ pq l lq { frames := 2, cells := 0, slots := 0, locals := 41 } sq mq aq bq hmq cq D vwCl 12 ad 5 0 0 Qq (mF ad cI cL cB ((xs w2 10 k (nI 0)))) [(0, .ref (ad 0)), (2, .int (nI k))] 88 [.long (e0), .int (nI k), .ref (ad 11)] := by
                            intro e0 he0
                            refine z_last (q := 11) (len := 1000) (k := k) C hI hK (by decide) rfl 1 rfl (rfl) (by omega) (by decide) (f' := mF ad cI cL cB ((xl ((xs w2 10 k (nI 0))) 11 k (e0)))) rfl mF_neL dX7_settle_88 ?_
                            refine z_iconst (v := nI 0) C (by decide) dX7_settle_89 ?_
                            refine z_istore_n (L' := [(3, .int (nI 0)), (0, .ref (ad 0)), (2, .int (nI k))]) C dX7_settle_90 (by decide) rfl ?_
                            have loop91 : ∀ (d91 : Nat) (r : Nat) (v : xS), n - r < d91 → (r ≤ n) → (v.1 10 k = nI (mx (eL N (loP lo2) k) r)) → (∀ j, j < c → j ≠ k → v.1 10 j = nxI (lo2 j)) → (v.2 11 k = e0 + sl (eW N W2 k) r) → (∀ j, j < c → j ≠ k → lo2 j ≠ 0 → v.2 11 j = W2 j) → (∀ q, q ≠ 10 → v.1 q = u.1 q) → ZZ pq l lq { frames := 2, cells := 0, slots := 0, locals := 41 } sq mq aq bq hmq cq D vwCl 12 ad 5 0 0 Qq (mF ad cI cL cB v) [(0, .ref (ad 0)), (2, .int (nI k)), (3, .int (nI r))] 91 [] := by
                              intro d91
                              induction d91 with
                              | zero => intro r v hz; exact absurd hz (Nat.not_lt_zero _)
                              | succ d91 ih91 =>
                                intro r v hz91 hrn hv10 hvo hv11 hvW hv6
                                have hmxb : mx (eL N (loP lo2) k) r ≤ 1001 := mx_le r fun q hq => eL_bd (fun j hj => hst2.2.2.2.2.1 j hj) (fun e he => (hNx e he).2) hk (by omega) (by omega)
                                refine z_iload_n C dX7_settle_91 2 rfl ?_
                                refine z_aload_n C dX7_settle_92 0 rfl ?_
                                refine z_get (q := 0) C (T := TX7) (N := 18) (ci := 7) (own := RX7) (index := 49) (v := .int (v.1 0 1)) hT7 hown hK (by decide) rfl rfl 1 (by decide) (hts (.fieldLink RX7 49 "TriggerAnalyzerModel" "rules" "I") (by decide +kernel)) (fun _ h9 => h9) rfl dX7_settle_93 ?_
                                refine z_topi (y := nI n) (by rw [hv6 0 (by decide)]; exact hn) ?_
                                refine z_icmp_ge (tgt := 167) C dX7_settle_96 (by decide) (fun zc96 => ?_) (fun zc96 => ?_)
                                · skip
                                  have zn96 := zge_t (a := r) (b := n) (by omega) (by omega) zc96
                                  refine z_iconst (v := nI 1) C (by decide) dX7_settle_167 ?_
                                  refine z_istore_n (L' := [(1, .int (nI 1)), (0, .ref (ad 0)), (2, .int (nI k)), (3, .int (nI r))]) C dX7_settle_168 (by decide) rfl ?_
                                  refine z_iinc (L' := [(2, .int (nxI k)), (1, .int (nI 1)), (0, .ref (ad 0)), (3, .int (nI r))]) C dX7_settle_169 2 rfl (nx_dec k) (by decide) rfl ?_
                                  refine z_goto (tgt := 38) C dX7_settle_172 (by decide) ?_
                                  refine z_sub (L' := [(0, .ref (ad 0)), (1, .int (nI 1)), (2, .int (nxI k))]) [2, 1, 0] rfl ?_
                                  exact ih38 k 1 (ct2 + 1) (va_up lo2 k (mx (eL N (loP lo2) k) 8 + 1)) (va_up W2 k ((if noE N k = true then 1 else 0) + sl (eW N W2 k) 8)) v (by omega) (by omega) (by omega) (stI_up hn8 hst2 hk (fun e he => (hNx e he).2) hl0 (hz8 k hk) (fun q h1 h2 => plb_un zn57 h1 h2) (by rw [hv10, show r = n by omega]) hvo (by rw [hv11, he0, show r = n by omega]) hvW hv6) ⟨by omega, fun _ => by omega⟩ (fun h => absurd h (by decide))
                                · skip
                                  have zn96 := zge_f (a := r) (b := n) (by omega) (by omega) zc96
                                  have hrn2 : r < n := zn96
                                  have hNr := (hNx (8 * k + r) (by omega)).2
                                  refine z_aload_n C dX7_settle_99 0 rfl ?_
                                  refine z_get (q := 0) C (T := TX7) (N := 18) (ci := 7) (own := RX7) (index := 35) (v := .ref (ad 9)) hT7 hown hK (by decide) rfl rfl 15 (by decide) (hts (.fieldLink RX7 35 "TriggerAnalyzerModel" "next" "[I") (by decide +kernel)) (fun _ h9 => h9) rfl dX7_settle_100 ?_
                                  refine z_bipush (v := nI 8) C (by decide) dX7_settle_103 ?_
                                  refine z_iload_n C dX7_settle_105 1 rfl ?_
                                  refine z_imul C dX7_settle_106 ?_
                                  refine z_topi (y := nI (8 * k)) (pk_mul 8 k) ?_
                                  refine z_iload_n C dX7_settle_107 2 rfl ?_
                                  refine z_iadd C dX7_settle_108 ?_
                                  refine z_topi (y := nI ((8 * k) + r)) (nI_add (8 * k) r) ?_
                                  refine z_iald (q := 9) (len := 8000) (k := (8 * k) + r) C hK (by decide) rfl 0 rfl (rfl) (by omega) (by decide) dX7_settle_109 ?_
                                  refine z_topi (y := nxI (N (8 * k + r))) (by rw [hv6 9 (by decide)]; exact (hNx _ (by omega)).1) ?_
                                  refine z_istore (L' := [(4, .int (nxI (N (8 * k + r)))), (0, .ref (ad 0)), (2, .int (nI k)), (3, .int (nI r))]) C dX7_settle_110 (by decide) rfl ?_
                                  refine z_iload C dX7_settle_112 0 rfl ?_
                                  refine z_iconst (v := (-1)) C (by decide) dX7_settle_114 ?_
                                  refine z_icmp_ne (tgt := 121) C dX7_settle_115 (by decide) (fun zc115 => ?_) (fun zc115 => ?_)
                                  · skip
                                    have hz := nx_f zc115
                                    rw [nx_v hz]
                                    have hne : N (8 * k + r) - 1 ≠ k := fun z => plb_un zn57 hrn2 hz (by rw [z]; exact hl0)
                                    have hs := plb_un zn57 hrn2 hz
                                    have hsb := hst2.2.2.2.2.1 (N (8 * k + r) - 1) (by omega)
                                    · skip
                                      refine z_aload_n C dX7_settle_121 1 rfl ?_
                                      refine z_get (q := 0) C (T := TX7) (N := 18) (ci := 7) (own := RX7) (index := 38) (v := .ref (ad 10)) hT7 hown hK (by decide) rfl rfl 16 (by decide) (hts (.fieldLink RX7 38 "TriggerAnalyzerModel" "longests" "[I") (by decide +kernel)) (fun _ h9 => h9) rfl dX7_settle_122 ?_
                                      refine z_iload_n C dX7_settle_125 2 rfl ?_
                                      refine z_aload_n C dX7_settle_126 1 rfl ?_
                                      refine z_get (q := 0) C (T := TX7) (N := 18) (ci := 7) (own := RX7) (index := 38) (v := .ref (ad 10)) hT7 hown hK (by decide) rfl rfl 16 (by decide) (hts (.fieldLink RX7 38 "TriggerAnalyzerModel" "longests" "[I") (by decide +kernel)) (fun _ h9 => h9) rfl dX7_settle_127 ?_
                                      refine z_iload_n C dX7_settle_130 2 rfl ?_
                                      refine z_iald (q := 10) (len := 1000) (k := k) C hK (by decide) rfl 0 rfl (rfl) (by omega) (by decide) dX7_settle_131 ?_
                                      refine z_topi (y := nI (mx (eL N (loP lo2) k) r)) (hv10) ?_
                                      refine z_iconst (v := nI 1) C (by decide) dX7_settle_132 ?_
                                      refine z_aload_n C dX7_settle_133 1 rfl ?_
                                      refine z_get (q := 0) C (T := TX7) (N := 18) (ci := 7) (own := RX7) (index := 38) (v := .ref (ad 10)) hT7 hown hK (by decide) rfl rfl 16 (by decide) (hts (.fieldLink RX7 38 "TriggerAnalyzerModel" "longests" "[I") (by decide +kernel)) (fun _ h9 => h9) rfl dX7_settle_134 ?_
                                      refine z_iload C dX7_settle_137 0 rfl ?_
                                      refine z_iald (q := 10) (len := 1000) (k := N (8 * k + r) - 1) C hK (by decide) rfl 0 rfl (rfl) (by omega) (by decide) dX7_settle_139 ?_
                                      refine z_topi (y := nI (lo2 (N (8 * k + r) - 1) - 1)) ((hvo _ (by omega) hne).trans (nx_v hs)) ?_
                                      refine z_iadd C dX7_settle_140 ?_
                                      refine z_topi (y := nI (1 + (lo2 (N (8 * k + r) - 1) - 1))) (nI_add 1 (lo2 (N (8 * k + r) - 1) - 1)) ?_
                                      refine z_imax C hml (own := RX7) (index := 138) hown (hts (.methodLink RX7 138 Lib.Math.max.name) (by decide +kernel)) (hts (.static Lib.Math.max.name) (by decide +kernel)) (hts (.initialized "java/lang/Math") (by decide +kernel)) (hts (.code Lib.Math.max.name Lib.Math.max.code 2 (some .int)) (by decide +kernel)) (Nat.le_of_ble_eq_true rfl) (Nat.le_of_ble_eq_true rfl) (Nat.le_of_ble_eq_true rfl) (Nat.le_of_ble_eq_true rfl) (v := nI (Nat.max (mx (eL N (loP lo2) k) r) (1 + (lo2 (N (8 * k + r) - 1) - 1)))) (zi_max (by omega) (by omega)) dX7_settle_141 ?_
                                      refine z_iast (q := 10) (len := 1000) (k := k) C hI hK (by decide) rfl 0 rfl (rfl) (by omega) (by decide) (f' := mF ad cI cL cB ((xs v 10 k (nI (Nat.max (mx (eL N (loP lo2) k) r) (1 + (lo2 (N (8 * k + r) - 1) - 1))))))) rfl mF_ne dX7_settle_144 ?_
                                      refine z_aload_n C dX7_settle_145 1 rfl ?_
                                      refine z_get (q := 0) C (T := TX7) (N := 18) (ci := 7) (own := RX7) (index := 41) (v := .ref (ad 11)) hT7 hown hK (by decide) rfl rfl 17 (by decide) (hts (.fieldLink RX7 41 "TriggerAnalyzerModel" "counts" "[J") (by decide +kernel)) (fun _ h9 => h9) rfl dX7_settle_146 ?_
                                      refine z_iload_n C dX7_settle_149 2 rfl ?_
                                      refine z_dup2 C rfl rfl dX7_settle_150 ?_
                                      refine z_lald (q := 11) (len := 1000) (k := k) C hK (by decide) rfl 1 rfl (rfl) (by omega) (by decide) dX7_settle_151 ?_
                                      refine z_topl (y := v.2 11 k) (congrFun (congrFun (xs_2 _ _ _ _) 11) k) ?_
                                      refine z_topl (y := (e0 + sl (eW N W2 k) r)) (hv11) ?_
                                      refine z_aload_n C dX7_settle_152 1 rfl ?_
                                      refine z_get (q := 0) C (T := TX7) (N := 18) (ci := 7) (own := RX7) (index := 41) (v := .ref (ad 11)) hT7 hown hK (by decide) rfl rfl 17 (by decide) (hts (.fieldLink RX7 41 "TriggerAnalyzerModel" "counts" "[J") (by decide +kernel)) (fun _ h9 => h9) rfl dX7_settle_153 ?_
                                      refine z_iload C dX7_settle_156 0 rfl ?_
                                      refine z_lald (q := 11) (len := 1000) (k := N (8 * k + r) - 1) C hK (by decide) rfl 1 rfl (rfl) (by omega) (by decide) dX7_settle_158 ?_
                                      refine z_topl (y := v.2 11 (N (8 * k + r) - 1)) (congrFun (congrFun (xs_2 _ _ _ _) 11) (N (8 * k + r) - 1)) ?_
                                      refine z_topl (y := (W2 (N (8 * k + r) - 1))) (hvW _ (by omega) hne hs) ?_
                                      refine z_ladd C dX7_settle_159 ?_
                                      refine z_last (q := 11) (len := 1000) (k := k) C hI hK (by decide) rfl 1 rfl (rfl) (by omega) (by decide) (f' := mF ad cI cL cB ((xl ((xs v 10 k (nI (Nat.max (mx (eL N (loP lo2) k) r) (1 + (lo2 (N (8 * k + r) - 1) - 1)))))) 11 k (((e0 + sl (eW N W2 k) r)) + ((W2 (N (8 * k + r) - 1))))))) rfl mF_neL dX7_settle_160 ?_
                                      refine z_iinc (L' := [(3, .int (nI (r + 1))), (4, .int (nI (N (8 * k + r) - 1))), (0, .ref (ad 0)), (2, .int (nI k))]) C dX7_settle_161 3 rfl (nI_1 r) (by decide) rfl ?_
                                      refine z_goto (tgt := 91) C dX7_settle_164 (by decide) ?_
                                      refine z_sub (L' := [(0, .ref (ad 0)), (2, .int (nI k)), (3, .int (nI (r + 1)))]) [2, 3, 0] rfl ?_
                                      exact ih91 (r + 1) (xl (xs v 10 k (nI (Nat.max (mx (eL N (loP lo2) k) r) (1 + (lo2 (N (8 * k + r) - 1) - 1))))) 11 k ((e0 + sl (eW N W2 k) r) + (W2 (N (8 * k + r) - 1)))) (by omega) (by omega) (by rw [xl_1, xs_s, mx_s hz]) (fun j hj z => by rw [xl_1, xs_j z]; exact hvo j hj z) (by rw [xl_s]; exact sl_y hz e0) (fun j hj z h => by rw [xl_j z, xs_2]; exact hvW j hj z h) (fun q hq => by rw [xl_1, xs_r hq]; exact hv6 q hq)
                                  · skip
                                    have hz0 := nx_t (by omega) zc115
                                    refine z_goto (tgt := 161) C dX7_settle_118 (by decide) ?_
                                    refine z_iinc (L' := [(3, .int (nI (r + 1))), (4, .int (nxI (N (8 * k + r)))), (0, .ref (ad 0)), (2, .int (nI k))]) C dX7_settle_161 3 rfl (nI_1 r) (by decide) rfl ?_
                                    refine z_goto (tgt := 91) C dX7_settle_164 (by decide) ?_
                                    refine z_sub (L' := [(0, .ref (ad 0)), (2, .int (nI k)), (3, .int (nI (r + 1)))]) [2, 3, 0] rfl ?_
                                    exact ih91 (r + 1) v (by omega) (by omega) (by rw [hv10, mx_z hz0]) hvo (by rw [hv11, sl_z hz0]) hvW hv6
                            refine z_sub (L' := [(0, .ref (ad 0)), (2, .int (nI k)), (3, .int (nI 0))]) [1, 2, 0] rfl ?_
                            exact loop91 (n + 1) 0 (xl (xs w2 10 k (nI 0)) 11 k e0) (by omega) (by omega) (by rw [xl_1, xs_s]; rfl) (fun j hj z => by rw [xl_1, xs_j z]; exact hst2.2.2.1 j hj) (by rw [xl_s]; exact (Int64.add_zero e0).symm) (fun j hj z h => by rw [xl_j z, xs_2]; exact hst2.2.2.2.1 j hj h) (fun q hq => by rw [xl_1, xs_r hq]; exact hst2.2.2.2.2.2 q hq)
                          refine z_aload_n C dX7_settle_63 0 rfl ?_
                          refine z_get (q := 0) C (T := TX7) (N := 18) (ci := 7) (own := RX7) (index := 38) (v := .ref (ad 10)) hT7 hown hK (by decide) rfl rfl 16 (by decide) (hts (.fieldLink RX7 38 "TriggerAnalyzerModel" "longests" "[I") (by decide +kernel)) (fun _ h9 => h9) rfl dX7_settle_64 ?_
                          refine z_iload_n C dX7_settle_67 2 rfl ?_
                          refine z_iconst (v := nI 0) C (by decide) dX7_settle_68 ?_
                          refine z_iast (q := 10) (len := 1000) (k := k) C hI hK (by decide) rfl 0 rfl (rfl) (by omega) (by decide) (f' := mF ad cI cL cB ((xs w2 10 k (nI 0)))) rfl mF_ne dX7_settle_69 ?_
                          refine z_aload_n C dX7_settle_70 0 rfl ?_
                          refine z_get (q := 0) C (T := TX7) (N := 18) (ci := 7) (own := RX7) (index := 41) (v := .ref (ad 11)) hT7 hown hK (by decide) rfl rfl 17 (by decide) (hts (.fieldLink RX7 41 "TriggerAnalyzerModel" "counts" "[J") (by decide +kernel)) (fun _ h9 => h9) rfl dX7_settle_71 ?_
                          refine z_iload_n C dX7_settle_74 2 rfl ?_
                          refine z_aload_n C dX7_settle_75 0 rfl ?_
                          refine z_iload_n C dX7_settle_76 2 rfl ?_
                          refine z_callVi mX_ok C hml hown hts hK hX (c_X7_isEnd l D ad cI cL cB hI ((xs w2 10 k (nI 0))) k (by omega) (S k) (hS k hk).2 (by rw [xs_c (by decide), hst2.2.2.2.2.2 8 (by decide)]; exact (hS k hk).1)) (cwV 1 hts gX7_settle_X7_isEnd rfl rfl rfl (by decide +kernel) ⟨Nat.le_of_ble_eq_true rfl, Nat.le_of_ble_eq_true rfl⟩) (by decide) (ci := 7) rfl rfl rfl (st := [.int (nI k), .ref (ad 11)]) rfl (Nat.le_of_ble_eq_true rfl) dX7_settle_77 ⟨Nat.le_of_ble_eq_true rfl, Nat.le_of_ble_eq_true rfl⟩ (fun r77 u77 h77 => ?_)
                          obtain ⟨zr77, zu77⟩ := h77
                          subst r77
                          subst u77
                          refine z_if_eq (tgt := 87) C dX7_settle_80 (by decide) (fun zc80 => ?_) (fun zc80 => ?_)
                          · skip
                            have hz80 := z1f zc80
                            refine z_lconst (v := 0) C (by decide) dX7_settle_87 ?_
                            refine z_sub (L' := [(0, .ref (ad 0)), (2, .int (nI k))]) [0, 2] rfl ?_
                            exact join88 0 (by rw [if_neg (fun z => hz80 ((hE k hk).mpr z))])
                          · skip
                            have hz80 := z1t zc80
                            refine z_lconst (v := 1) C (by decide) dX7_settle_83 ?_
                            refine z_goto (tgt := 88) C dX7_settle_84 (by decide) ?_
                            refine z_sub (L' := [(0, .ref (ad 0)), (2, .int (nI k))]) [0, 2] rfl ?_
                            exact join88 1 (by rw [if_pos ((hE k hk).mp hz80)])
                        · skip
                          have zn57 := z0_t (by omega) zc57
                          refine z_goto (tgt := 169) C dX7_settle_60 (by decide) ?_
                          refine z_iinc (L' := [(2, .int (nxI k)), (0, .ref (ad 0)), (1, .int (nI b2))]) C dX7_settle_169 2 rfl (nx_dec k) (by decide) rfl ?_
                          refine z_goto (tgt := 38) C dX7_settle_172 (by decide) ?_
                          refine z_sub (L' := [(0, .ref (ad 0)), (1, .int (nI b2)), (2, .int (nxI k))]) [1, 2, 0] rfl ?_
                          exact ih38 k b2 ct2 lo2 W2 w2 (by omega) (by omega) hb2 hst2 hinc (fun h j h1 h2 h3 => by by_cases z : j = k; rw [z]; obtain ⟨r, q1, q2, q3⟩ := plb_cl zn57; exact ⟨r, by omega, q2, q3⟩; exact hcl2 h j (by omega) h2 h3)
              refine z_sub (L' := [(0, .ref (ad 0)), (1, .int (nI 0)), (2, .int (nxI c))]) [2, 1, 0] rfl ?_
              exact loop38 (c + 1) c 0 ct lo W w (by omega) (Nat.le_refl c) (by omega) hst ⟨Nat.le_refl _, fun h => absurd h (by decide)⟩ (fun _ j h1 h2 => absurd h2 (by omega))
        refine z_sub (L' := [(0, .ref (ad 0)), (1, .int (nI 1))]) [1, 0] rfl ?_
        exact loop25 (2 * c + 2) 1 0 (fun _ => 0) (fun _ => 0) w (by omega) (by omega) (stI_0 (fun j hj => hw1 j (by omega)) hw6) (fun h => absurd h (by decide))
      · skip
        have zn7 := zge_f (a := k) (b := c) (by omega) (by omega) zc7
        refine z_aload_n C dX7_settle_10 0 rfl ?_
        refine z_get (q := 0) C (T := TX7) (N := 18) (ci := 7) (own := RX7) (index := 38) (v := .ref (ad 10)) hT7 hown hK (by decide) rfl rfl 16 (by decide) (hts (.fieldLink RX7 38 "TriggerAnalyzerModel" "longests" "[I") (by decide +kernel)) (fun _ h9 => h9) rfl dX7_settle_11 ?_
        refine z_iload_n C dX7_settle_14 1 rfl ?_
        refine z_iconst (v := (-1)) C (by decide) dX7_settle_15 ?_
        refine z_iast (q := 10) (len := 1000) (k := k) C hI hK (by decide) rfl 0 rfl (rfl) (by omega) (by decide) (f' := mF ad cI cL cB ((xs w 10 k ((-1))))) rfl mF_ne dX7_settle_16 ?_
        refine z_iinc (L' := [(1, .int (nI (k + 1))), (0, .ref (ad 0))]) C dX7_settle_17 1 rfl (nI_1 k) (by decide) rfl ?_
        refine z_goto (tgt := 2) C dX7_settle_20 (by decide) ?_
        refine z_sub (L' := [(0, .ref (ad 0)), (1, .int (nI (k + 1)))]) [1, 0] rfl ?_
        exact ih2 (k + 1) (xs w 10 k (-1)) (by omega) (by omega) (fun j hj => by rw [xs_at]; by_cases z : j = k; rw [if_pos ⟨rfl, z⟩]; rw [if_neg (fun y => z y.2)]; exact hw1 j (by omega)) (fun q hq => (xs_r hq).trans (hw6 q hq))
  refine z_sub (L' := [(0, .ref (ad 0)), (1, .int (nI 0))]) [1, 0] rfl ?_
  exact loop2 (c + 1) 0 u (by omega) (by omega) (fun j hj => absurd hj (Nat.not_lt_zero j)) (fun _ _ => rfl)
