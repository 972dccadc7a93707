set_option maxHeartbeats 4000000 in
set_option maxRecDepth 100000 in
theorem c_X7_become_vx (l : Launch) (D : va_G) (ad : Nat → Nat) (cI cL cB : ClassId) (hI : gI 12 ad) (u : xS) (x : Nat) (hx : x < 16384) : ∀ sz, Met l yX7_become wsX7_become ({ frames := 1, cells := 0, slots := 0, locals := 20 }) (MP D ad cI cL cB u [.ref (ad 0), .int (nI (mf x))] sz) (va_Qv (fun u' => u' = (xs (xs u 0 9 (nI (x % 64))) 0 10 (nI (x / 64)))) (MB D ad cI cL cB) (gA 12 ad sz)) 0 0 (gA 12 ad sz) := by
  intro sz
  refine z_met (cc := cX7_become) (maxL := 2) (ret := none) (by decide) rfl (Nat.le_of_ble_eq_true rfl) ?_
  intro pq lq sq mq aq Qq bq hmq cq C hr hml hown hts hlocks hK hX hsz hQ
  subst hsz
  have hT7 : ∀ w ∈ wsX70, w.before aq sq = true := fun w h => hts w ((by decide +kernel : ∀ w ∈ wsX70, w ∈ wsX7_become) w h)
  refine z_sub (L' := [(0, .ref (ad 0)), (1, .int (nI (mf x)))]) [0, 1] rfl ?_
  have hx9 : mf x < 16384 := mf_lt hx
  refine z_aload_n C dX7_become_0 0 rfl ?_
  refine z_iload_n C dX7_become_1 1 rfl ?_
  refine z_bipush (v := nI 8) C (by decide) dX7_become_2 ?_
  refine z_ishr C dX7_become_4 ?_
  refine z_topi (y := nI (x % 64)) ((zi_shr8 (by omega)).trans (by rw [mf_div hx])) ?_
  refine z_put (q := 0) C hI tyX7 (T := TX7) (N := 18) (ci := 7) (own := RX7) (index := 91) hT7 hown hK (by decide) rfl rfl 9 (by decide) (hts (.fieldLink RX7 91 "TriggerAnalyzerModel" "facts" "I") (by decide +kernel)) (fun _ h9 => h9) tyX7_ok nmX7 rfl rfl rfl (Nat.le_of_ble_eq_true rfl) (f' := mF ad cI cL cB ((xs u 0 9 (nI (x % 64))))) rfl mF_ne dX7_become_5 ?_
  refine z_aload_n C dX7_become_8 0 rfl ?_
  refine z_iload_n C dX7_become_9 1 rfl ?_
  refine z_callSi mX_ok C hml hown hts hK hX (c_X7_triggeredIn l D ad cI cL cB hI ((xs u 0 9 (nI (x % 64)))) (mf x)) (va_cwS 1 hts gX7_become_X7_triggeredIn rfl rfl rfl (by decide +kernel) ⟨Nat.le_of_ble_eq_true rfl, Nat.le_of_ble_eq_true rfl⟩) rfl (st := [.ref (ad 0)]) rfl (Nat.le_of_ble_eq_true rfl) dX7_become_10 ⟨Nat.le_of_ble_eq_true rfl, Nat.le_of_ble_eq_true rfl⟩ (fun r10 u10 h10 => ?_)
  obtain ⟨zr10, zu10⟩ := h10
  subst r10
  subst u10
  refine z_topi (y := nI (x / 64)) (by rw [mf_mod hx]) ?_
  refine z_put (q := 0) C hI tyX7 (T := TX7) (N := 18) (ci := 7) (own := RX7) (index := 74) hT7 hown hK (by decide) rfl rfl 10 (by decide) (hts (.fieldLink RX7 74 "TriggerAnalyzerModel" "triggered" "I") (by decide +kernel)) (fun _ h9 => h9) tyX7_ok nmX7 rfl rfl rfl (Nat.le_of_ble_eq_true rfl) (f' := mF ad cI cL cB ((xs ((xs u 0 9 (nI (x % 64)))) 0 10 (nI (x / 64))))) rfl mF_ne dX7_become_13 ?_
  exact z_vret C hr hlocks hQ ((xs ((xs u 0 9 (nI (x % 64)))) 0 10 (nI (x / 64)))) (rfl) (fun _ _ => rfl) dX7_become_16

set_option maxHeartbeats 4000000 in
set_option maxRecDepth 100000 in
theorem c_X7_behind (l : Launch) (D : va_G) (ad : Nat → Nat) (cI cL cB : ClassId) (hI : gI 12 ad) (u : xS) (n : Nat) (B : Nat → Nat → Nat) (hR : mR u n B) (hB : gB n B) (x : Nat) (hx : x < 16384) (a : Nat) (ha : a < 12) : ∀ sz, Met l yX7_behind wsX7_behind ({ frames := 0, cells := 0, slots := 0, locals := 0 }) (MP D ad cI cL cB u [.ref (ad 0), .int (nI (mf x)), .int (nI a)] sz) (va_Qi (fun r_ u' => r_ = nI (mf (chg B x a)) ∧ u' = u) (MB D ad cI cL cB) (gA 12 ad sz)) 0 0 (gA 12 ad sz) := by
  intro sz
  refine z_met (cc := cX7_behind) (maxL := 7) (ret := (some .int)) (by decide) rfl (Nat.le_of_ble_eq_true rfl) ?_
  intro pq lq sq mq aq Qq bq hmq cq C hr hml hown hts hlocks hK hX hsz hQ
  subst hsz
  have hT7 : ∀ w ∈ wsX70, w.before aq sq = true := fun w h => hts w ((by decide +kernel : ∀ w ∈ wsX70, w ∈ wsX7_behind) w h)
  refine z_sub (L' := [(0, .ref (ad 0)), (1, .int (nI (mf x))), (2, .int (nI a))]) [0, 1, 2] rfl ?_
  have hn8 : n ≤ 8 := hR.1
  have hx9 : mf x < 16384 := mf_lt hx
  have join40 : ∀ (hc : ¬ x.testBit (a / 2) = decide (a % 2 = 1)), ZZ pq l lq { frames := 0, cells := 0, slots := 0, locals := 0 } sq mq aq bq hmq cq D vwCl 12 ad 7 0 0 Qq (mF ad cI cL cB u) [(0, .ref (ad 0)), (1, .int (nI (mf x))), (2, .int (nI a)), (3, .int (nI (2 ^ (8 + a / 2))))] 40 [] := by
    intro hc 
    refine z_iload_n C dX7_behind_40 1 rfl ?_
    refine z_iload_n C dX7_behind_41 3 rfl ?_
    refine z_ixor C dX7_behind_42 ?_
    refine z_topi (y := nI ((mf x) ^^^ (2 ^ (8 + a / 2)))) (nx_xor (mf x) (2 ^ (8 + a / 2))) ?_
    refine z_topi (y := nI (bhk B x a 0)) (by unfold bhk mks; rw [Nat.or_zero]) ?_
    refine z_istore (L' := [(5, .int (nI (bhk B x a 0))), (0, .ref (ad 0)), (1, .int (nI (mf x))), (2, .int (nI a)), (3, .int (nI (2 ^ (8 + a / 2))))]) C dX7_behind_43 (by decide) rfl ?_
    refine z_iconst (v := nI 0) C (by decide) dX7_behind_45 ?_
    refine z_istore (L' := [(6, .int (nI 0)), (5, .int (nI (bhk B x a 0))), (0, .ref (ad 0)), (1, .int (nI (mf x))), (2, .int (nI a)), (3, .int (nI (2 ^ (8 + a / 2))))]) C dX7_behind_46 (by decide) rfl ?_
    have loop48 : ∀ (d48 : Nat) (k c : Nat), n - k < d48 → (k ≤ n) → (c = bhk B x a k) → ZZ pq l lq { frames := 0, cells := 0, slots := 0, locals := 0 } sq mq aq bq hmq cq D vwCl 12 ad 7 0 0 Qq (mF ad cI cL cB u) [(0, .ref (ad 0)), (2, .int (nI a)), (5, .int (nI c)), (6, .int (nI k))] 48 [] := by
      intro d48
      induction d48 with
      | zero => intro k c hz; exact absurd hz (Nat.not_lt_zero _)
      | succ d48 ih48 =>
        intro k c hz48 hk hc9
        refine z_iload C dX7_behind_48 3 rfl ?_
        refine z_aload_n C dX7_behind_50 0 rfl ?_
        refine z_get (q := 0) C (T := TX7) (N := 18) (ci := 7) (own := RX7) (index := 49) (v := .int (u.1 0 1)) hT7 hown hK (by decide) rfl rfl 1 (by decide) (hts (.fieldLink RX7 49 "TriggerAnalyzerModel" "rules" "I") (by decide +kernel)) (fun _ h9 => h9) rfl dX7_behind_51 ?_
        refine z_topi (y := nI n) (mR_n hR) ?_
        refine z_icmp_ge (tgt := 93) C dX7_behind_54 (by decide) (fun zc54 => ?_) (fun zc54 => ?_)
        · skip
          have zn54 := zge_t (a := k) (b := n) (by omega) (by omega) zc54
          refine z_iload C dX7_behind_93 2 rfl ?_
          exact z_iret C hr hlocks hQ u (⟨by rw [hc9, show k = n by omega, bhk_end hB hx ha hc], rfl⟩) (fun _ _ => rfl) dX7_behind_95
        · skip
          have zn54 := zge_f (a := k) (b := n) (by omega) (by omega) zc54
          have g3 : B k 3 ≤ 1 := gB_3 hB (by omega)
          have g0 : B k 0 < 12 := gB_0 hB (by omega)
          refine z_aload_n C dX7_behind_57 0 rfl ?_
          refine z_get (q := 0) C (T := TX7) (N := 18) (ci := 7) (own := RX7) (index := 25) (v := .ref (ad 6)) hT7 hown hK (by decide) rfl rfl 7 (by decide) (hts (.fieldLink RX7 25 "TriggerAnalyzerModel" "areOn" "[Z") (by decide +kernel)) (fun _ h9 => h9) rfl dX7_behind_58 ?_
          refine z_iload C dX7_behind_61 3 rfl ?_
          refine z_za (q := 6) (len := 8) (k := k) C hK (by decide) rfl 2 rfl (rfl) (by omega) (by decide) dX7_behind_63 ?_
          refine z_topi (y := nI (B k 3)) (mR_3 hR (by omega)) ?_
          refine z_if_eq (tgt := 87) C dX7_behind_64 (by decide) (fun zc64 => ?_) (fun zc64 => ?_)
          · skip
            have zn64 := z0_t (by omega) zc64
            refine z_iinc (L' := [(6, .int (nI (k + 1))), (0, .ref (ad 0)), (2, .int (nI a)), (5, .int (nI c))]) C dX7_behind_87 3 rfl (nI_1 k) (by decide) rfl ?_
            refine z_goto (tgt := 48) C dX7_behind_90 (by decide) ?_
            refine z_sub (L' := [(0, .ref (ad 0)), (2, .int (nI a)), (5, .int (nI c)), (6, .int (nI (k + 1)))]) [1, 2, 3, 0] rfl ?_
            exact ih48 (k + 1) c (by omega) (by omega) (hc9.trans (bhk_0 (fun y => by omega)))
          · skip
            have zn64 := z0_f zc64
            refine z_aload_n C dX7_behind_67 0 rfl ?_
            refine z_get (q := 0) C (T := TX7) (N := 18) (ci := 7) (own := RX7) (index := 9) (v := .ref (ad 1)) hT7 hown hK (by decide) rfl rfl 2 (by decide) (hts (.fieldLink RX7 9 "TriggerAnalyzerModel" "events" "[I") (by decide +kernel)) (fun _ h9 => h9) rfl dX7_behind_68 ?_
            refine z_iload C dX7_behind_71 3 rfl ?_
            refine z_iald (q := 1) (len := 8) (k := k) C hK (by decide) rfl 0 rfl (rfl) (by omega) (by decide) dX7_behind_73 ?_
            refine z_topi (y := nI (B k 0)) (mR_0 hR (by omega)) ?_
            refine z_iload_n C dX7_behind_74 1 rfl ?_
            refine z_icmp_ne (tgt := 87) C dX7_behind_75 (by decide) (fun zc75 => ?_) (fun zc75 => ?_)
            · skip
              have zn75 := zeq_f (a := B k 0) (b := a) zc75
              refine z_iinc (L' := [(6, .int (nI (k + 1))), (0, .ref (ad 0)), (2, .int (nI a)), (5, .int (nI c))]) C dX7_behind_87 3 rfl (nI_1 k) (by decide) rfl ?_
              refine z_goto (tgt := 48) C dX7_behind_90 (by decide) ?_
              refine z_sub (L' := [(0, .ref (ad 0)), (2, .int (nI a)), (5, .int (nI c)), (6, .int (nI (k + 1)))]) [1, 2, 3, 0] rfl ?_
              exact ih48 (k + 1) c (by omega) (by omega) (hc9.trans (bhk_0 (fun y => by omega)))
            · skip
              have zn75 := zeq_t (a := B k 0) (b := a) (by omega) (by omega) zc75
              refine z_iload C dX7_behind_78 2 rfl ?_
              refine z_iconst (v := nI 1) C (by decide) dX7_behind_80 ?_
              refine z_iload C dX7_behind_81 3 rfl ?_
              refine z_ishl C dX7_behind_83 ?_
              refine z_topi (y := nI (2 ^ k)) (zi_shl1 (by omega)) ?_
              refine z_ior C dX7_behind_84 ?_
              refine z_topi (y := nI (c ||| (2 ^ k))) (fa_or c (2 ^ k)) ?_
              refine z_istore (L' := [(5, .int (nI (c ||| (2 ^ k)))), (0, .ref (ad 0)), (2, .int (nI a)), (6, .int (nI k))]) C dX7_behind_85 (by decide) rfl ?_
              refine z_iinc (L' := [(6, .int (nI (k + 1))), (5, .int (nI (c ||| (2 ^ k)))), (0, .ref (ad 0)), (2, .int (nI a))]) C dX7_behind_87 3 rfl (nI_1 k) (by decide) rfl ?_
              refine z_goto (tgt := 48) C dX7_behind_90 (by decide) ?_
              refine z_sub (L' := [(0, .ref (ad 0)), (2, .int (nI a)), (5, .int (nI (c ||| (2 ^ k)))), (6, .int (nI (k + 1)))]) [2, 3, 1, 0] rfl ?_
              exact ih48 (k + 1) (c ||| 2 ^ k) (by omega) (by omega) (by rw [hc9]; exact bhk_1 (by omega) zn75)
    refine z_sub (L' := [(0, .ref (ad 0)), (2, .int (nI a)), (5, .int (nI (bhk B x a 0))), (6, .int (nI 0))]) [2, 4, 1, 0] rfl ?_
    exact loop48 (n + 1) 0 (bhk B x a 0) (by omega) (by omega) rfl
  refine z_sipush (v := nI 256) C (by decide) dX7_behind_0 ?_
  refine z_iload_n C dX7_behind_3 2 rfl ?_
  refine z_iconst (v := nI 2) C (by decide) dX7_behind_4 ?_
  refine z_idiv C (by decide) dX7_behind_5 ?_
  refine z_topi (y := nI (a / 2)) (zi_dv2 ha) ?_
  refine z_ishl C dX7_behind_6 ?_
  refine z_topi (y := nI (2 ^ (8 + a / 2))) (zi_ebit ha) ?_
  refine z_istore_n (L' := [(3, .int (nI (2 ^ (8 + a / 2)))), (0, .ref (ad 0)), (1, .int (nI (mf x))), (2, .int (nI a))]) C dX7_behind_7 (by decide) rfl ?_
  refine z_iload_n C dX7_behind_8 3 rfl ?_
  refine z_iconst (v := nI 2) C (by decide) dX7_behind_9 ?_
  refine z_irem C (by decide) rfl dX7_behind_10 ?_
  refine z_topi (y := nI (a % 2)) (zi_rm2 ha) ?_
  refine z_iconst (v := nI 1) C (by decide) dX7_behind_11 ?_
  refine z_icmp_ne (tgt := 19) C dX7_behind_12 (by decide) (fun zc12 => ?_) (fun zc12 => ?_)
  · skip
    have zn12 := zeq_f (a := a % 2) (b := 1) zc12
    have hd : decide (a % 2 = 1) = false := decide_eq_false zn12
    refine z_iconst (v := nI 0) C (by decide) dX7_behind_19 ?_
    refine z_istore (L' := [(4, .int (nI 0)), (3, .int (nI (2 ^ (8 + a / 2)))), (0, .ref (ad 0)), (1, .int (nI (mf x))), (2, .int (nI a))]) C dX7_behind_20 (by decide) rfl ?_
    refine z_iload_n C dX7_behind_22 3 rfl ?_
    refine z_iload_n C dX7_behind_23 1 rfl ?_
    refine z_iand C dX7_behind_24 ?_
    refine z_topi (y := nI ((mf x) &&& (2 ^ (8 + a / 2)))) (fa_and (mf x) (2 ^ (8 + a / 2))) ?_
    refine z_if_eq (tgt := 32) C dX7_behind_25 (by decide) (fun zc25 => ?_) (fun zc25 => ?_)
    · skip
      have h := zi_bitF (by omega) zc25
      rw [mf_bit hx (by omega)] at h
      refine z_iconst (v := nI 0) C (by decide) dX7_behind_32 ?_
      refine z_iload C dX7_behind_33 0 rfl ?_
      refine z_icmp_ne (tgt := 40) C dX7_behind_35 (by decide) (fun zc35 => ?_) (fun zc35 => ?_)
      · skip
        have zn35 := zeq_f (a := 0) (b := 0) zc35
        exact absurd zn35 (by decide)
      · skip
        have zn35 := zeq_t (a := 0) (b := 0) (by omega) (by omega) zc35
        refine z_iload_n C dX7_behind_38 3 rfl ?_
        exact z_iret C hr hlocks hQ u (⟨by rw [← bhk_same (B := B) (h.trans hd.symm)], rfl⟩) (fun _ _ => rfl) dX7_behind_39
    · skip
      have h := zi_bitT (by omega) zc25
      rw [mf_bit hx (by omega)] at h
      refine z_iconst (v := nI 1) C (by decide) dX7_behind_28 ?_
      refine z_goto (tgt := 33) C dX7_behind_29 (by decide) ?_
      refine z_iload C dX7_behind_33 0 rfl ?_
      refine z_icmp_ne (tgt := 40) C dX7_behind_35 (by decide) (fun zc35 => ?_) (fun zc35 => ?_)
      · skip
        have zn35 := zeq_f (a := 1) (b := 0) zc35
        refine z_sub (L' := [(0, .ref (ad 0)), (1, .int (nI (mf x))), (2, .int (nI a)), (3, .int (nI (2 ^ (8 + a / 2))))]) [2, 3, 4, 1] rfl ?_
        exact join40 (by rw [h, hd]; decide)
      · skip
        have zn35 := zeq_t (a := 1) (b := 0) (by omega) (by omega) zc35
        exact absurd zn35 (by decide)
  · skip
    have zn12 := zeq_t (a := a % 2) (b := 1) (by omega) (by omega) zc12
    have hd : decide (a % 2 = 1) = true := decide_eq_true zn12
    refine z_iconst (v := nI 1) C (by decide) dX7_behind_15 ?_
    refine z_goto (tgt := 20) C dX7_behind_16 (by decide) ?_
    refine z_istore (L' := [(4, .int (nI 1)), (3, .int (nI (2 ^ (8 + a / 2)))), (0, .ref (ad 0)), (1, .int (nI (mf x))), (2, .int (nI a))]) C dX7_behind_20 (by decide) rfl ?_
    refine z_iload_n C dX7_behind_22 3 rfl ?_
    refine z_iload_n C dX7_behind_23 1 rfl ?_
    refine z_iand C dX7_behind_24 ?_
    refine z_topi (y := nI ((mf x) &&& (2 ^ (8 + a / 2)))) (fa_and (mf x) (2 ^ (8 + a / 2))) ?_
    refine z_if_eq (tgt := 32) C dX7_behind_25 (by decide) (fun zc25 => ?_) (fun zc25 => ?_)
    · skip
      have h := zi_bitF (by omega) zc25
      rw [mf_bit hx (by omega)] at h
      refine z_iconst (v := nI 0) C (by decide) dX7_behind_32 ?_
      refine z_iload C dX7_behind_33 0 rfl ?_
      refine z_icmp_ne (tgt := 40) C dX7_behind_35 (by decide) (fun zc35 => ?_) (fun zc35 => ?_)
      · skip
        have zn35 := zeq_f (a := 0) (b := 1) zc35
        refine z_sub (L' := [(0, .ref (ad 0)), (1, .int (nI (mf x))), (2, .int (nI a)), (3, .int (nI (2 ^ (8 + a / 2))))]) [2, 3, 4, 1] rfl ?_
        exact join40 (by rw [h, hd]; decide)
      · skip
        have zn35 := zeq_t (a := 0) (b := 1) (by omega) (by omega) zc35
        exact absurd zn35 (by decide)
    · skip
      have h := zi_bitT (by omega) zc25
      rw [mf_bit hx (by omega)] at h
      refine z_iconst (v := nI 1) C (by decide) dX7_behind_28 ?_
      refine z_goto (tgt := 33) C dX7_behind_29 (by decide) ?_
      refine z_iload C dX7_behind_33 0 rfl ?_
      refine z_icmp_ne (tgt := 40) C dX7_behind_35 (by decide) (fun zc35 => ?_) (fun zc35 => ?_)
      · skip
        have zn35 := zeq_f (a := 1) (b := 1) zc35
        exact absurd zn35 (by decide)
      · skip
        have zn35 := zeq_t (a := 1) (b := 1) (by omega) (by omega) zc35
        refine z_iload_n C dX7_behind_38 3 rfl ?_
        exact z_iret C hr hlocks hQ u (⟨by rw [← bhk_same (B := B) (h.trans hd.symm)], rfl⟩) (fun _ _ => rfl) dX7_behind_39

set_option maxHeartbeats 4000000 in
set_option maxRecDepth 100000 in
theorem c_X7_readyIn (l : Launch) (D : va_G) (ad : Nat → Nat) (cI cL cB : ClassId) (hI : gI 12 ad) (u : xS) (n : Nat) (B : Nat → Nat → Nat) (hR : mR u n B) (hB : gB n B) (x : Nat) (hx : x < 64 * 2 ^ n) : ∀ sz, Met l yX7_readyIn wsX7_readyIn ({ frames := 1, cells := 0, slots := 0, locals := 21 }) (MP D ad cI cL cB u [.ref (ad 0), .int (nI (mf x))] sz) (va_Qi (fun r_ u' => r_ = nI (rdy B (x / 64)) ∧ u' = u) (MB D ad cI cL cB) (gA 12 ad sz)) 0 0 (gA 12 ad sz) := by
  intro sz
  refine z_met (cc := cX7_readyIn) (maxL := 5) (ret := (some .int)) (by decide) rfl (Nat.le_of_ble_eq_true rfl) ?_
  intro pq lq sq mq aq Qq bq hmq cq C hr hml hown hts hlocks hK hX hsz hQ
  subst hsz
  have hT7 : ∀ w ∈ wsX70, w.before aq sq = true := fun w h => hts w ((by decide +kernel : ∀ w ∈ wsX70, w ∈ wsX7_readyIn) w h)
  refine z_sub (L' := [(0, .ref (ad 0)), (1, .int (nI (mf x)))]) [0, 1] rfl ?_
  have hn8 : n ≤ 8 := hR.1
  have hp2 : 2 ^ n ≤ 256 := pn8 hn8
  have hx8 : x < 16384 := by omega
  have hx9 : mf x < 16384 := mf_lt hx8
  refine z_iload_n C dX7_readyIn_0 1 rfl ?_
  refine z_callSi mX_ok C hml hown hts hK hX (c_X7_triggeredIn l D ad cI cL cB hI u (mf x)) (va_cwS 1 hts gX7_readyIn_X7_triggeredIn rfl rfl rfl (by decide +kernel) ⟨Nat.le_of_ble_eq_true rfl, Nat.le_of_ble_eq_true rfl⟩) rfl (st := []) rfl (Nat.le_of_ble_eq_true rfl) dX7_readyIn_1 ⟨Nat.le_of_ble_eq_true rfl, Nat.le_of_ble_eq_true rfl⟩ (fun r1 u1 h1 => ?_)
  obtain ⟨zr1, zu1⟩ := h1
  subst r1
  subst u1
  refine z_topi (y := nI (x / 64)) (by rw [mf_mod hx8]) ?_
  refine z_istore_n (L' := [(2, .int (nI (x / 64))), (0, .ref (ad 0)), (1, .int (nI (mf x)))]) C dX7_readyIn_4 (by decide) rfl ?_
  refine z_iload_n C dX7_readyIn_5 0 rfl ?_
  refine z_istore_n (L' := [(3, .int (nI (x / 64))), (2, .int (nI (x / 64))), (0, .ref (ad 0)), (1, .int (nI (mf x)))]) C dX7_readyIn_6 (by decide) rfl ?_
  refine z_iconst (v := nI 0) C (by decide) dX7_readyIn_7 ?_
  refine z_istore (L' := [(4, .int (nI 0)), (3, .int (nI (x / 64))), (2, .int (nI (x / 64))), (0, .ref (ad 0)), (1, .int (nI (mf x)))]) C dX7_readyIn_8 (by decide) rfl ?_
  have loop10 : ∀ (d10 : Nat) (k c : Nat), n - k < d10 → (k ≤ n) → (c = mrd B (x / 64) k) → ZZ pq l lq { frames := 1, cells := 0, slots := 0, locals := 21 } sq mq aq bq hmq cq D vwCl 12 ad 5 0 0 Qq (mF ad cI cL cB u) [(0, .ref (ad 0)), (2, .int (nI (x / 64))), (3, .int (nI c)), (4, .int (nI k))] 10 [] := by
    intro d10
    induction d10 with
    | zero => intro k c hz; exact absurd hz (Nat.not_lt_zero _)
    | succ d10 ih10 =>
      intro k c hz10 hk hc9
      have hc2 : c < 256 := by rw [hc9]; exact mrd_lt (by omega) k
      refine z_iload C dX7_readyIn_10 3 rfl ?_
      refine z_aload_n C dX7_readyIn_12 0 rfl ?_
      refine z_get (q := 0) C (T := TX7) (N := 18) (ci := 7) (own := RX7) (index := 49) (v := .int (u.1 0 1)) hT7 hown hK (by decide) rfl rfl 1 (by decide) (hts (.fieldLink RX7 49 "TriggerAnalyzerModel" "rules" "I") (by decide +kernel)) (fun _ h9 => h9) rfl dX7_readyIn_13 ?_
      refine z_topi (y := nI n) (mR_n hR) ?_
      refine z_icmp_ge (tgt := 46) C dX7_readyIn_16 (by decide) (fun zc16 => ?_) (fun zc16 => ?_)
      · skip
        have zn16 := zge_t (a := k) (b := n) (by omega) (by omega) zc16
        refine z_iload_n C dX7_readyIn_46 2 rfl ?_
        exact z_iret C hr hlocks hQ u (⟨by rw [hc9, show k = n by omega, mrd_rdy hn8 (by omega)], rfl⟩) (fun _ _ => rfl) dX7_readyIn_47
      · skip
        have zn16 := zge_f (a := k) (b := n) (by omega) (by omega) zc16
        refine z_iload_n C dX7_readyIn_19 1 rfl ?_
        refine z_iload C dX7_readyIn_20 3 rfl ?_
        refine z_callSi mX_ok C hml hown hts hK hX (c_X7_has l D ad cI cL cB hI u (x / 64) (by omega) k (by omega)) (va_cwS 2 hts gX7_readyIn_X7_has rfl rfl rfl (by decide +kernel) ⟨Nat.le_of_ble_eq_true rfl, Nat.le_of_ble_eq_true rfl⟩) rfl (st := []) rfl (Nat.le_of_ble_eq_true rfl) dX7_readyIn_22 ⟨Nat.le_of_ble_eq_true rfl, Nat.le_of_ble_eq_true rfl⟩ (fun r22 u22 h22 => ?_)
        obtain ⟨zr22, zu22⟩ := h22
        subst r22
        subst u22
        refine z_if_eq (tgt := 40) C dX7_readyIn_25 (by decide) (fun zc25 => ?_) (fun zc25 => ?_)
        · skip
          have hb := z1f zc25
          refine z_iinc (L' := [(4, .int (nI (k + 1))), (0, .ref (ad 0)), (2, .int (nI (x / 64))), (3, .int (nI c))]) C dX7_readyIn_40 3 rfl (nI_1 k) (by decide) rfl ?_
          refine z_goto (tgt := 10) C dX7_readyIn_43 (by decide) ?_
          refine z_sub (L' := [(0, .ref (ad 0)), (2, .int (nI (x / 64))), (3, .int (nI c)), (4, .int (nI (k + 1)))]) [1, 2, 3, 0] rfl ?_
          exact ih10 (k + 1) c (by omega) (by omega) (by rw [hc9]; exact (if_neg hb).symm)
        · skip
          have hb := z1t zc25
          refine z_iload_n C dX7_readyIn_28 2 rfl ?_
          refine z_aload_n C dX7_readyIn_29 0 rfl ?_
          refine z_get (q := 0) C (T := TX7) (N := 18) (ci := 7) (own := RX7) (index := 29) (v := .ref (ad 7)) hT7 hown hK (by decide) rfl rfl 8 (by decide) (hts (.fieldLink RX7 29 "TriggerAnalyzerModel" "below" "[I") (by decide +kernel)) (fun _ h9 => h9) rfl dX7_readyIn_30 ?_
          refine z_iload C dX7_readyIn_33 3 rfl ?_
          refine z_iald (q := 7) (len := 8) (k := k) C hK (by decide) rfl 0 rfl (rfl) (by omega) (by decide) dX7_readyIn_35 ?_
          refine z_topi (y := nI (B k 5)) (mR_5 hR (by omega)) ?_
          refine z_iconst (v := (-1)) C (by decide) dX7_readyIn_36 ?_
          refine z_ixor C dX7_readyIn_37 ?_
          refine z_iand C dX7_readyIn_38 ?_
          refine z_topi (y := nI (adn c (B k 5))) (zi_adn hc2) ?_
          refine z_istore_n (L' := [(3, .int (nI (adn c (B k 5)))), (0, .ref (ad 0)), (2, .int (nI (x / 64))), (4, .int (nI k))]) C dX7_readyIn_39 (by decide) rfl ?_
          refine z_iinc (L' := [(4, .int (nI (k + 1))), (3, .int (nI (adn c (B k 5)))), (0, .ref (ad 0)), (2, .int (nI (x / 64)))]) C dX7_readyIn_40 3 rfl (nI_1 k) (by decide) rfl ?_
          refine z_goto (tgt := 10) C dX7_readyIn_43 (by decide) ?_
          refine z_sub (L' := [(0, .ref (ad 0)), (2, .int (nI (x / 64))), (3, .int (nI (adn c (B k 5)))), (4, .int (nI (k + 1)))]) [2, 3, 1, 0] rfl ?_
          exact ih10 (k + 1) (adn c (B k 5)) (by omega) (by omega) (by rw [hc9]; exact (if_pos hb).symm)
  refine z_sub (L' := [(0, .ref (ad 0)), (2, .int (nI (x / 64))), (3, .int (nI (x / 64))), (4, .int (nI 0))]) [3, 2, 1, 0] rfl ?_
  exact loop10 (n + 1) 0 (x / 64) (by omega) (by omega) rfl

set_option maxHeartbeats 4000000 in
set_option maxRecDepth 100000 in
theorem c_X7_isTrue (l : Launch) (D : va_G) (ad : Nat → Nat) (cI cL cB : ClassId) (hI : gI 12 ad) (u : xS) (n : Nat) (B : Nat → Nat → Nat) (hR : mR u n B) (hB : gB n B) (i : Nat) (hi : i < n) (x : Nat) (hx : x < 16384) : ∀ sz, Met l yX7_isTrue wsX7_isTrue ({ frames := 0, cells := 0, slots := 0, locals := 0 }) (MP D ad cI cL cB u [.ref (ad 0), .int (nI i), .int (nI (mf x))] sz) (va_Qi (fun r_ u' => r_ = (if hol B i (x % 64) = true then 1 else 0) ∧ u' = u) (MB D ad cI cL cB) (gA 12 ad sz)) 0 0 (gA 12 ad sz) := by
  intro sz
  refine z_met (cc := cX7_isTrue) (maxL := 4) (ret := (some .boolean)) (by decide) rfl (Nat.le_of_ble_eq_true rfl) ?_
  intro pq lq sq mq aq Qq bq hmq cq C hr hml hown hts hlocks hK hX hsz hQ
  subst hsz
  have hT7 : ∀ w ∈ wsX70, w.before aq sq = true := fun w h => hts w ((by decide +kernel : ∀ w ∈ wsX70, w ∈ wsX7_isTrue) w h)
  refine z_sub (L' := [(0, .ref (ad 0)), (1, .int (nI i)), (2, .int (nI (mf x)))]) [0, 1, 2] rfl ?_
  have hn8 : n ≤ 8 := hR.1
  have hx9 : mf x < 16384 := mf_lt hx
  have g1 : B i 1 < 64 := gB_1 hB (by omega)
  have g2 : B i 2 < 64 := gB_2 hB (by omega)
  have g3 := adn_lt (B i 1) (x % 64)
  have g4 : B i 2 &&& x % 64 < 64 := and_lt (by omega)
  have g5 := hol_iff (B := B) (i := i) (f := x % 64) (by omega)
  refine z_iload_n C dX7_isTrue_0 2 rfl ?_
  refine z_bipush (v := nI 8) C (by decide) dX7_isTrue_1 ?_
  refine z_ishr C dX7_isTrue_3 ?_
  refine z_topi (y := nI (x % 64)) ((zi_shr8 (by omega)).trans (by rw [mf_div hx])) ?_
  refine z_istore_n (L' := [(3, .int (nI (x % 64))), (0, .ref (ad 0)), (1, .int (nI i)), (2, .int (nI (mf x)))]) C dX7_isTrue_4 (by decide) rfl ?_
  refine z_aload_n C dX7_isTrue_5 1 rfl ?_
  refine z_get (q := 0) C (T := TX7) (N := 18) (ci := 7) (own := RX7) (index := 13) (v := .ref (ad 2)) hT7 hown hK (by decide) rfl rfl 3 (by decide) (hts (.fieldLink RX7 13 "TriggerAnalyzerModel" "musts" "[I") (by decide +kernel)) (fun _ h9 => h9) rfl dX7_isTrue_6 ?_
  refine z_iload_n C dX7_isTrue_9 2 rfl ?_
  refine z_iald (q := 2) (len := 8) (k := i) C hK (by decide) rfl 0 rfl (rfl) (by omega) (by decide) dX7_isTrue_10 ?_
  refine z_topi (y := nI (B i 1)) (mR_1 hR (by omega)) ?_
  refine z_iload_n C dX7_isTrue_11 0 rfl ?_
  refine z_iconst (v := (-1)) C (by decide) dX7_isTrue_12 ?_
  refine z_ixor C dX7_isTrue_13 ?_
  refine z_iand C dX7_isTrue_14 ?_
  refine z_topi (y := nI (adn (B i 1) (x % 64))) (zi_adn (by omega)) ?_
  refine z_if_ne (tgt := 33) C dX7_isTrue_15 (by decide) (fun zc15 => ?_) (fun zc15 => ?_)
  · skip
    have zn15 := z0_f zc15
    have h2 : hol B i (x % 64) = false := Bool.eq_false_iff.mpr fun z => zn15 (g5.mp z).1
    refine z_iconst (v := nI 0) C (by decide) dX7_isTrue_33 ?_
    exact z_zret C hr hlocks rfl hQ u (⟨by rw [h2]; rfl, rfl⟩) (fun _ _ => rfl) dX7_isTrue_34
  · skip
    have zn15 := z0_t (by omega) zc15
    refine z_aload_n C dX7_isTrue_18 1 rfl ?_
    refine z_get (q := 0) C (T := TX7) (N := 18) (ci := 7) (own := RX7) (index := 16) (v := .ref (ad 3)) hT7 hown hK (by decide) rfl rfl 4 (by decide) (hts (.fieldLink RX7 16 "TriggerAnalyzerModel" "mustNots" "[I") (by decide +kernel)) (fun _ h9 => h9) rfl dX7_isTrue_19 ?_
    refine z_iload_n C dX7_isTrue_22 2 rfl ?_
    refine z_iald (q := 3) (len := 8) (k := i) C hK (by decide) rfl 0 rfl (rfl) (by omega) (by decide) dX7_isTrue_23 ?_
    refine z_topi (y := nI (B i 2)) (mR_2 hR (by omega)) ?_
    refine z_iload_n C dX7_isTrue_24 0 rfl ?_
    refine z_iand C dX7_isTrue_25 ?_
    refine z_topi (y := nI ((B i 2) &&& (x % 64))) (fa_and (B i 2) (x % 64)) ?_
    refine z_if_ne (tgt := 33) C dX7_isTrue_26 (by decide) (fun zc26 => ?_) (fun zc26 => ?_)
    · skip
      have zn26 := z0_f zc26
      have h2 : hol B i (x % 64) = false := Bool.eq_false_iff.mpr fun z => zn26 (g5.mp z).2
      refine z_iconst (v := nI 0) C (by decide) dX7_isTrue_33 ?_
      exact z_zret C hr hlocks rfl hQ u (⟨by rw [h2]; rfl, rfl⟩) (fun _ _ => rfl) dX7_isTrue_34
    · skip
      have zn26 := z0_t (by omega) zc26
      have h2 : hol B i (x % 64) = true := g5.mpr ⟨zn15, zn26⟩
      refine z_iconst (v := nI 1) C (by decide) dX7_isTrue_29 ?_
      refine z_goto (tgt := 34) C dX7_isTrue_30 (by decide) ?_
      exact z_zret C hr hlocks rfl hQ u (⟨by rw [h2]; rfl, rfl⟩) (fun _ _ => rfl) dX7_isTrue_34

set_option maxHeartbeats 4000000 in
set_option maxRecDepth 100000 in
theorem c_X7_playIn (l : Launch) (D : va_G) (ad : Nat → Nat) (cI cL cB : ClassId) (hI : gI 12 ad) (u : xS) (n : Nat) (B : Nat → Nat → Nat) (hR : mR u n B) (hB : gB n B) (i : Nat) (hi : i < n) (x : Nat) (hx : x < 16384) : ∀ sz, Met l yX7_playIn wsX7_playIn ({ frames := 1, cells := 0, slots := 0, locals := 26 }) (MP D ad cI cL cB u [.ref (ad 0), .int (nI (mf x)), .int (nI i)] sz) (va_Qi (fun r_ u' => r_ = nI (mf (ply B i x)) ∧ u' = u) (MB D ad cI cL cB) (gA 12 ad sz)) 0 0 (gA 12 ad sz) := by
  intro sz
  refine z_met (cc := cX7_playIn) (maxL := 5) (ret := (some .int)) (by decide) rfl (Nat.le_of_ble_eq_true rfl) ?_
  intro pq lq sq mq aq Qq bq hmq cq C hr hml hown hts hlocks hK hX hsz hQ
  subst hsz
  have hT7 : ∀ w ∈ wsX70, w.before aq sq = true := fun w h => hts w ((by decide +kernel : ∀ w ∈ wsX70, w ∈ wsX7_playIn) w h)
  refine z_sub (L' := [(0, .ref (ad 0)), (1, .int (nI (mf x))), (2, .int (nI i))]) [0, 1, 2] rfl ?_
  have hn8 : n ≤ 8 := hR.1
  have hx9 : mf x < 16384 := mf_lt hx
  have g4 : B i 4 ≤ 4 := gB_4 hB (by omega)
  have h0 : 64 * clr (x / 64) i + x % 64 < 16384 := by have := clr_lt (x / 64) i; omega
  refine z_iload_n C dX7_playIn_0 1 rfl ?_
  refine z_iconst (v := nI 1) C (by decide) dX7_playIn_1 ?_
  refine z_iload_n C dX7_playIn_2 2 rfl ?_
  refine z_ishl C dX7_playIn_3 ?_
  refine z_topi (y := nI (2 ^ i)) (zi_shl1 (by omega)) ?_
  refine z_iconst (v := (-1)) C (by decide) dX7_playIn_4 ?_
  refine z_ixor C dX7_playIn_5 ?_
  refine z_iand C dX7_playIn_6 ?_
  refine z_topi (y := nI (mf (64 * clr (x / 64) i + x % 64))) (mf_clr hx (by omega)) ?_
  refine z_istore_n (L' := [(3, .int (nI (mf (64 * clr (x / 64) i + x % 64)))), (0, .ref (ad 0)), (1, .int (nI (mf x))), (2, .int (nI i))]) C dX7_playIn_7 (by decide) rfl ?_
  refine z_aload_n C dX7_playIn_8 1 rfl ?_
  refine z_iload_n C dX7_playIn_9 3 rfl ?_
  refine z_iload_n C dX7_playIn_10 2 rfl ?_
  refine z_callVi mX_ok C hml hown hts hK hX (c_X7_isTrue l D ad cI cL cB hI u n B hR hB i hi x hx) (cwV 2 hts gX7_playIn_X7_isTrue rfl rfl rfl (by decide +kernel) ⟨Nat.le_of_ble_eq_true rfl, Nat.le_of_ble_eq_true rfl⟩) (by decide) (ci := 7) rfl rfl rfl (st := []) rfl (Nat.le_of_ble_eq_true rfl) dX7_playIn_11 ⟨Nat.le_of_ble_eq_true rfl, Nat.le_of_ble_eq_true rfl⟩ (fun r11 u11 h11 => ?_)
  obtain ⟨zr11, zu11⟩ := h11
  subst r11
  subst u11
  refine z_if_ne (tgt := 19) C dX7_playIn_14 (by decide) (fun zc14 => ?_) (fun zc14 => ?_)
  · skip
    have hh := z1t zc14
    refine z_iconst (v := nI 0) C (by decide) dX7_playIn_19 ?_
    refine z_istore (L' := [(4, .int (nI 0)), (3, .int (nI (mf (64 * clr (x / 64) i + x % 64)))), (0, .ref (ad 0)), (1, .int (nI (mf x))), (2, .int (nI i))]) C dX7_playIn_20 (by decide) rfl ?_
    have loop22 : ∀ (d22 : Nat) (k c : Nat), B i 4 - k < d22 → (k ≤ B i 4) → (c = plys B i (64 * clr (x / 64) i + x % 64) k) → ZZ pq l lq { frames := 1, cells := 0, slots := 0, locals := 26 } sq mq aq bq hmq cq D vwCl 12 ad 5 0 0 Qq (mF ad cI cL cB u) [(0, .ref (ad 0)), (2, .int (nI i)), (3, .int (nI (mf c))), (4, .int (nI k))] 22 [] := by
      intro d22
      induction d22 with
      | zero => intro k c hz; exact absurd hz (Nat.not_lt_zero _)
      | succ d22 ih22 =>
        intro k c hz22 hk hc9
        have hc2 : c < 16384 := by rw [hc9]; exact plys_lt hB (by omega) h0 k hk
        refine z_iload C dX7_playIn_22 3 rfl ?_
        refine z_aload_n C dX7_playIn_24 0 rfl ?_
        refine z_get (q := 0) C (T := TX7) (N := 18) (ci := 7) (own := RX7) (index := 19) (v := .ref (ad 4)) hT7 hown hK (by decide) rfl rfl 5 (by decide) (hts (.fieldLink RX7 19 "TriggerAnalyzerModel" "many" "[I") (by decide +kernel)) (fun _ h9 => h9) rfl dX7_playIn_25 ?_
        refine z_iload_n C dX7_playIn_28 1 rfl ?_
        refine z_iald (q := 4) (len := 8) (k := i) C hK (by decide) rfl 0 rfl (rfl) (by omega) (by decide) dX7_playIn_29 ?_
        refine z_topi (y := nI (B i 4)) (mR_4 hR (by omega)) ?_
        refine z_icmp_ge (tgt := 56) C dX7_playIn_30 (by decide) (fun zc30 => ?_) (fun zc30 => ?_)
        · skip
          have zn30 := zge_t (a := k) (b := B i 4) (by omega) (by omega) zc30
          refine z_iload_n C dX7_playIn_56 2 rfl ?_
          exact z_iret C hr hlocks hQ u (⟨by unfold ply; rw [if_pos hh, hc9, show k = B i 4 by omega], rfl⟩) (fun _ _ => rfl) dX7_playIn_57
        · skip
          have zn30 := zge_f (a := k) (b := B i 4) (by omega) (by omega) zc30
          refine z_aload_n C dX7_playIn_33 0 rfl ?_
          refine z_iload_n C dX7_playIn_34 2 rfl ?_
          refine z_aload_n C dX7_playIn_35 0 rfl ?_
          refine z_get (q := 0) C (T := TX7) (N := 18) (ci := 7) (own := RX7) (index := 22) (v := .ref (ad 5)) hT7 hown hK (by decide) rfl rfl 6 (by decide) (hts (.fieldLink RX7 22 "TriggerAnalyzerModel" "actions" "[I") (by decide +kernel)) (fun _ h9 => h9) rfl dX7_playIn_36 ?_
          refine z_iconst (v := nI 4) C (by decide) dX7_playIn_39 ?_
          refine z_iload_n C dX7_playIn_40 1 rfl ?_
          refine z_imul C dX7_playIn_41 ?_
          refine z_topi (y := nI (4 * i)) (pk_mul 4 i) ?_
          refine z_iload C dX7_playIn_42 3 rfl ?_
          refine z_iadd C dX7_playIn_44 ?_
          refine z_topi (y := nI ((4 * i) + k)) (nI_add (4 * i) k) ?_
          refine z_iald (q := 5) (len := 32) (k := (4 * i) + k) C hK (by decide) rfl 0 rfl (rfl) (by omega) (by decide) dX7_playIn_45 ?_
          refine z_topi (y := nI (B i (6 + k))) (mR_a hR hi zn30) ?_
          refine z_callVi mX_ok C hml hown hts hK hX (c_X7_behind l D ad cI cL cB hI u n B hR hB c hc2 (B i (6 + k)) (gB_6 hB (by omega) (by omega))) (cwV 2 hts gX7_playIn_X7_behind rfl rfl rfl (by decide +kernel) ⟨Nat.le_of_ble_eq_true rfl, Nat.le_of_ble_eq_true rfl⟩) (by decide) (ci := 7) rfl rfl rfl (st := []) rfl (Nat.le_of_ble_eq_true rfl) dX7_playIn_46 ⟨Nat.le_of_ble_eq_true rfl, Nat.le_of_ble_eq_true rfl⟩ (fun r46 u46 h46 => ?_)
          obtain ⟨zr46, zu46⟩ := h46
          subst r46
          subst u46
          refine z_istore_n (L' := [(3, .int (nI (mf (chg B c ((B i (6 + k))))))), (0, .ref (ad 0)), (2, .int (nI i)), (4, .int (nI k))]) C dX7_playIn_49 (by decide) rfl ?_
          refine z_iinc (L' := [(4, .int (nI (k + 1))), (3, .int (nI (mf (chg B c ((B i (6 + k))))))), (0, .ref (ad 0)), (2, .int (nI i))]) C dX7_playIn_50 3 rfl (nI_1 k) (by decide) rfl ?_
          refine z_goto (tgt := 22) C dX7_playIn_53 (by decide) ?_
          refine z_sub (L' := [(0, .ref (ad 0)), (2, .int (nI i)), (3, .int (nI (mf (chg B c ((B i (6 + k))))))), (4, .int (nI (k + 1)))]) [2, 3, 1, 0] rfl ?_
          exact ih22 (k + 1) (chg B c (B i (6 + k))) (by omega) (by omega) (by rw [hc9]; rfl)
    refine z_sub (L' := [(0, .ref (ad 0)), (2, .int (nI i)), (3, .int (nI (mf (64 * clr (x / 64) i + x % 64)))), (4, .int (nI 0))]) [2, 4, 1, 0] rfl ?_
    exact loop22 (B i 4 + 1) 0 (64 * clr (x / 64) i + x % 64) (by omega) (by omega) rfl
  · skip
    have hh := z1f zc14
    refine z_iload_n C dX7_playIn_17 0 rfl ?_
    exact z_iret C hr hlocks hQ u (⟨by unfold ply; rw [if_neg hh], rfl⟩) (fun _ _ => rfl) dX7_playIn_18

set_option maxHeartbeats 4000000 in
set_option maxRecDepth 100000 in
theorem c_X7_now (l : Launch) (D : va_G) (ad : Nat → Nat) (cI cL cB : ClassId) (hI : gI 12 ad) (u : xS) (x : Nat) (hx : x < 16384) (hf : u.1 0 9 = nI (x % 64)) (ht : u.1 0 10 = nI (x / 64)) : ∀ sz, Met l yX7_now wsX7_now ({ frames := 0, cells := 0, slots := 0, locals := 0 }) (MP D ad cI cL cB u [.ref (ad 0)] sz) (va_Qi (fun r_ u' => r_ = nI (mf x) ∧ u' = u) (MB D ad cI cL cB) (gA 12 ad sz)) 0 0 (gA 12 ad sz) := by
  intro sz
  refine z_met (cc := cX7_now) (maxL := 1) (ret := (some .int)) (by decide) rfl (Nat.le_of_ble_eq_true rfl) ?_
  intro pq lq sq mq aq Qq bq hmq cq C hr hml hown hts hlocks hK hX hsz hQ
  subst hsz
  have hT7 : ∀ w ∈ wsX70, w.before aq sq = true := fun w h => hts w ((by decide +kernel : ∀ w ∈ wsX70, w ∈ wsX7_now) w h)
  refine z_sub (L' := [(0, .ref (ad 0))]) [0] rfl ?_
  refine z_sipush (v := nI 256) C (by decide) dX7_now_0 ?_
  refine z_aload_n C dX7_now_3 0 rfl ?_
  refine z_get (q := 0) C (T := TX7) (N := 18) (ci := 7) (own := RX7) (index := 91) (v := .int (u.1 0 9)) hT7 hown hK (by decide) rfl rfl 9 (by decide) (hts (.fieldLink RX7 91 "TriggerAnalyzerModel" "facts" "I") (by decide +kernel)) (fun _ h9 => h9) rfl dX7_now_4 ?_
  refine z_topi (y := nI (x % 64)) (hf) ?_
  refine z_imul C dX7_now_7 ?_
  refine z_topi (y := nI (256 * (x % 64))) (pk_mul 256 (x % 64)) ?_
  refine z_aload_n C dX7_now_8 0 rfl ?_
  refine z_get (q := 0) C (T := TX7) (N := 18) (ci := 7) (own := RX7) (index := 74) (v := .int (u.1 0 10)) hT7 hown hK (by decide) rfl rfl 10 (by decide) (hts (.fieldLink RX7 74 "TriggerAnalyzerModel" "triggered" "I") (by decide +kernel)) (fun _ h9 => h9) rfl dX7_now_9 ?_
  refine z_topi (y := nI (x / 64)) (ht) ?_
  refine z_iadd C dX7_now_12 ?_
  refine z_topi (y := nI ((256 * (x % 64)) + (x / 64))) (nI_add (256 * (x % 64)) (x / 64)) ?_
  exact z_iret C hr hlocks hQ u (⟨rfl, rfl⟩) (fun _ _ => rfl) dX7_now_13
