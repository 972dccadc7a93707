theorem rdy_1 {B : Nat → Nat → Nat} {t i : Nat} (hi : i < 8) : (rdy B t).testBit i = rdy1 B i t := by
  unfold rdy
  rw [mks_bit, decide_eq_true hi, Bool.true_and]

theorem c_X7_isFact_x (l : Launch) (D : va_G) (ad : Nat → Nat) (cI cL cB : ClassId) (hI : gI 12 ad) (u : xS) (x : Int32) (hx : bad 6 x) : ∀ sz, Met l yX7_isFact wsX7_isFact ({ frames := 0, cells := 0, slots := 0, locals := 0 }) (MP D ad cI cL cB u [.int (x)] sz) (va_Qi (fun r_ u' => r_ = nI 0 ∧ u' = u) (MB D ad cI cL cB) (gA 12 ad sz)) 0 0 (gA 12 ad sz) := by
  rcases hx with h | ⟨k, rfl, h1, h2⟩
  · exact c_X7_isFact_vn l D ad cI cL cB hI u x h
  · exact c_X7_isFact_vb l D ad cI cL cB hI u k h1 h2

theorem c_X7_isSet_x (l : Launch) (D : va_G) (ad : Nat → Nat) (cI cL cB : ClassId) (hI : gI 12 ad) (u : xS) (x : Int32) (hx : bad 64 x) : ∀ sz, Met l yX7_isSet wsX7_isSet ({ frames := 0, cells := 0, slots := 0, locals := 0 }) (MP D ad cI cL cB u [.int (x)] sz) (va_Qi (fun r_ u' => r_ = nI 0 ∧ u' = u) (MB D ad cI cL cB) (gA 12 ad sz)) 0 0 (gA 12 ad sz) := by
  rcases hx with h | ⟨k, rfl, h1, h2⟩
  · exact c_X7_isSet_vn l D ad cI cL cB hI u x h
  · exact c_X7_isSet_vb l D ad cI cL cB hI u k h1 h2

theorem c_X7_isRule_x (l : Launch) (D : va_G) (ad : Nat → Nat) (cI cL cB : ClassId) (hI : gI 12 ad) (u : xS) (n : Nat) (hn8 : n ≤ 8) (hn : u.1 0 1 = nI n) (x : Int32) (hx : bad n x) : ∀ sz, Met l yX7_isRule wsX7_isRule ({ frames := 0, cells := 0, slots := 0, locals := 0 }) (MP D ad cI cL cB u [.ref (ad 0), .int (x)] sz) (va_Qi (fun r_ u' => r_ = nI 0 ∧ u' = u) (MB D ad cI cL cB) (gA 12 ad sz)) 0 0 (gA 12 ad sz) := by
  rcases hx with h | ⟨k, rfl, h1, h2⟩
  · exact c_X7_isRule_vn l D ad cI cL cB hI u n hn8 hn x h
  · exact c_X7_isRule_vb l D ad cI cL cB hI u n hn8 hn k h1 h2

set_option maxHeartbeats 4000000 in
set_option maxRecDepth 100000 in
theorem c_X7_addRule (l : Launch) (D : va_G) (ad : Nat → Nat) (cI cL cB : ClassId) (hI : gI 12 ad) (u : xS) (n : Nat) (B : Nat → Nat → Nat) (hB : gB n B) (x : Nat) (hx : x < 64 * 2 ^ n) (hM : mI u n B x) (hn8 : n < 8) (k : Nat) (hk : k < 6) (b : Nat) (hb : b ≤ 1) (a1 : Nat) (h1 : a1 < 64) (a2 : Nat) (h2 : a2 < 64) : ∀ sz, Met l yX7_addRule wsX7_addRule ({ frames := 1, cells := 0, slots := 0, locals := 21 }) (MP D ad cI cL cB u [.ref (ad 0), .int (nI k), .int (nI b), .int (nI a1), .int (nI a2)] sz) (va_Qi (fun r_ u' => r_ = nI n ∧ u'.1 0 0 = nI 0 ∧ mQ u' (n + 1) (apB B n (2 * k + b) a1 a2) x 0) (MB D ad cI cL cB) (gA 12 ad sz)) 0 0 (gA 12 ad sz) := by
  intro sz
  refine z_met (cc := cX7_addRule) (maxL := 5) (ret := (some .int)) (by decide) rfl (Nat.le_of_ble_eq_true rfl) ?_
  intro pq lq sq mq aq Qq bq hmq cq C hr hml hown hts hlocks hK hX hsz hQ
  subst hsz
  have hT7 : ∀ w ∈ wsX70, w.before aq sq = true := fun w h => hts w ((by decide +kernel : ∀ w ∈ wsX70, w ∈ wsX7_addRule) w h)
  refine z_sub (L' := [(0, .ref (ad 0)), (1, .int (nI k)), (2, .int (nI b)), (3, .int (nI a1)), (4, .int (nI a2))]) [0, 1, 2, 3, 4] rfl ?_
  refine z_aload_n C dX7_addRule_0 0 rfl ?_
  refine z_iconst (v := nI 0) C (by decide) dX7_addRule_1 ?_
  refine z_put (q := 0) C hI tyX7 (T := TX7) (N := 18) (ci := 7) (own := RX7) (index := 45) hT7 hown hK (by decide) rfl rfl 0 (by decide) (hts (.fieldLink RX7 45 "TriggerAnalyzerModel" "thrown" "I") (by decide +kernel)) (fun _ h9 => h9) tyX7_ok nmX7 rfl rfl rfl (Nat.le_of_ble_eq_true rfl) (f' := mF ad cI cL cB ((xs u 0 0 (nI 0)))) rfl mF_ne dX7_addRule_2 ?_
  refine z_iload_n C dX7_addRule_5 1 rfl ?_
  refine z_callSi mX_ok C hml hown hts hK hX (c_X7_isFact_vh l D ad cI cL cB hI ((xs u 0 0 (nI 0))) k hk) (va_cwS 1 hts gX7_addRule_X7_isFact rfl rfl rfl (by decide +kernel) ⟨Nat.le_of_ble_eq_true rfl, Nat.le_of_ble_eq_true rfl⟩) rfl (st := []) rfl (Nat.le_of_ble_eq_true rfl) dX7_addRule_6 ⟨Nat.le_of_ble_eq_true rfl, Nat.le_of_ble_eq_true rfl⟩ (fun r6 u6 h6 => ?_)
  obtain ⟨zr6, zu6⟩ := h6
  subst r6
  subst u6
  refine z_if_ne (tgt := 18) C dX7_addRule_9 (by decide) (fun zc9 => ?_) (fun zc9 => ?_)
  · skip
    have zn9 := z0_f zc9
    refine z_iload_n C dX7_addRule_18 3 rfl ?_
    refine z_callSi mX_ok C hml hown hts hK hX (c_X7_isSet_vh l D ad cI cL cB hI ((xs u 0 0 (nI 0))) a1 h1) (va_cwS 1 hts gX7_addRule_X7_isSet rfl rfl rfl (by decide +kernel) ⟨Nat.le_of_ble_eq_true rfl, Nat.le_of_ble_eq_true rfl⟩) rfl (st := []) rfl (Nat.le_of_ble_eq_true rfl) dX7_addRule_19 ⟨Nat.le_of_ble_eq_true rfl, Nat.le_of_ble_eq_true rfl⟩ (fun r19 u19 h19 => ?_)
    obtain ⟨zr19, zu19⟩ := h19
    subst r19
    subst u19
    refine z_if_eq (tgt := 33) C dX7_addRule_22 (by decide) (fun zc22 => ?_) (fun zc22 => ?_)
    · skip
      have zn22 := z0_t (by omega) zc22
      exact absurd zn22 (by decide)
    · skip
      have zn22 := z0_f zc22
      refine z_iload C dX7_addRule_25 4 rfl ?_
      refine z_callSi mX_ok C hml hown hts hK hX (c_X7_isSet_vh l D ad cI cL cB hI ((xs u 0 0 (nI 0))) a2 h2) (va_cwS 1 hts gX7_addRule_X7_isSet rfl rfl rfl (by decide +kernel) ⟨Nat.le_of_ble_eq_true rfl, Nat.le_of_ble_eq_true rfl⟩) rfl (st := []) rfl (Nat.le_of_ble_eq_true rfl) dX7_addRule_27 ⟨Nat.le_of_ble_eq_true rfl, Nat.le_of_ble_eq_true rfl⟩ (fun r27 u27 h27 => ?_)
      obtain ⟨zr27, zu27⟩ := h27
      subst r27
      subst u27
      refine z_if_ne (tgt := 39) C dX7_addRule_30 (by decide) (fun zc30 => ?_) (fun zc30 => ?_)
      · skip
        have zn30 := z0_f zc30
        refine z_aload_n C dX7_addRule_39 0 rfl ?_
        refine z_get (q := 0) C (T := TX7) (N := 18) (ci := 7) (own := RX7) (index := 49) (v := .int ((xs u 0 0 (nI 0)).1 0 1)) hT7 hown hK (by decide) rfl rfl 1 (by decide) (hts (.fieldLink RX7 49 "TriggerAnalyzerModel" "rules" "I") (by decide +kernel)) (fun _ h9 => h9) rfl dX7_addRule_40 ?_
        refine z_topi (y := u.1 0 1) (xs_j (by decide)) ?_
        refine z_topi (y := nI n) (mR_n hM.1) ?_
        refine z_bipush (v := nI 8) C (by decide) dX7_addRule_43 ?_
        refine z_icmp_ne (tgt := 54) C dX7_addRule_45 (by decide) (fun zc45 => ?_) (fun zc45 => ?_)
        · skip
          have zn45 := zeq_f (a := n) (b := 8) zc45
          refine z_aload_n C dX7_addRule_54 0 rfl ?_
          refine z_get (q := 0) C (T := TX7) (N := 18) (ci := 7) (own := RX7) (index := 9) (v := .ref (ad 1)) hT7 hown hK (by decide) rfl rfl 2 (by decide) (hts (.fieldLink RX7 9 "TriggerAnalyzerModel" "events" "[I") (by decide +kernel)) (fun _ h9 => h9) rfl dX7_addRule_55 ?_
          refine z_aload_n C dX7_addRule_58 0 rfl ?_
          refine z_get (q := 0) C (T := TX7) (N := 18) (ci := 7) (own := RX7) (index := 49) (v := .int ((xs u 0 0 (nI 0)).1 0 1)) hT7 hown hK (by decide) rfl rfl 1 (by decide) (hts (.fieldLink RX7 49 "TriggerAnalyzerModel" "rules" "I") (by decide +kernel)) (fun _ h9 => h9) rfl dX7_addRule_59 ?_
          refine z_topi (y := u.1 0 1) (xs_j (by decide)) ?_
          refine z_topi (y := nI n) (mR_n hM.1) ?_
          refine z_iload_n C dX7_addRule_62 1 rfl ?_
          refine z_iload_n C dX7_addRule_63 2 rfl ?_
          refine z_callSi mX_ok C hml hown hts hK hX (c_X7_literal l D ad cI cL cB hI ((xs u 0 0 (nI 0))) k b hb) (va_cwS 2 hts gX7_addRule_X7_literal rfl rfl rfl (by decide +kernel) ⟨Nat.le_of_ble_eq_true rfl, Nat.le_of_ble_eq_true rfl⟩) rfl (st := [.int (nI n), .ref (ad 1)]) rfl (Nat.le_of_ble_eq_true rfl) dX7_addRule_64 ⟨Nat.le_of_ble_eq_true rfl, Nat.le_of_ble_eq_true rfl⟩ (fun r64 u64 h64 => ?_)
          obtain ⟨zr64, zu64⟩ := h64
          subst r64
          subst u64
          refine z_iast (q := 1) (len := 8) (k := n) C hI hK (by decide) rfl 0 rfl (rfl) (by omega) (by decide) (f' := mF ad cI cL cB ((xs ((xs u 0 0 (nI 0))) 1 n (nI (2 * k + b))))) rfl mF_ne dX7_addRule_67 ?_
          refine z_aload_n C dX7_addRule_68 0 rfl ?_
          refine z_get (q := 0) C (T := TX7) (N := 18) (ci := 7) (own := RX7) (index := 13) (v := .ref (ad 2)) hT7 hown hK (by decide) rfl rfl 3 (by decide) (hts (.fieldLink RX7 13 "TriggerAnalyzerModel" "musts" "[I") (by decide +kernel)) (fun _ h9 => h9) rfl dX7_addRule_69 ?_
          refine z_aload_n C dX7_addRule_72 0 rfl ?_
          refine z_get (q := 0) C (T := TX7) (N := 18) (ci := 7) (own := RX7) (index := 49) (v := .int ((xs ((xs u 0 0 (nI 0))) 1 n (nI (2 * k + b))).1 0 1)) hT7 hown hK (by decide) rfl rfl 1 (by decide) (hts (.fieldLink RX7 49 "TriggerAnalyzerModel" "rules" "I") (by decide +kernel)) (fun _ h9 => h9) rfl dX7_addRule_73 ?_
          refine z_topi (y := u.1 0 1) ((xs_c (by decide) _).trans (xs_j (by decide))) ?_
          refine z_topi (y := nI n) (mR_n hM.1) ?_
          refine z_iload_n C dX7_addRule_76 3 rfl ?_
          refine z_iast (q := 2) (len := 8) (k := n) C hI hK (by decide) rfl 0 rfl (rfl) (by omega) (by decide) (f' := mF ad cI cL cB ((xs ((xs ((xs u 0 0 (nI 0))) 1 n (nI (2 * k + b)))) 2 n (nI a1)))) rfl mF_ne dX7_addRule_77 ?_
          refine z_aload_n C dX7_addRule_78 0 rfl ?_
          refine z_get (q := 0) C (T := TX7) (N := 18) (ci := 7) (own := RX7) (index := 16) (v := .ref (ad 3)) hT7 hown hK (by decide) rfl rfl 4 (by decide) (hts (.fieldLink RX7 16 "TriggerAnalyzerModel" "mustNots" "[I") (by decide +kernel)) (fun _ h9 => h9) rfl dX7_addRule_79 ?_
          refine z_aload_n C dX7_addRule_82 0 rfl ?_
          refine z_get (q := 0) C (T := TX7) (N := 18) (ci := 7) (own := RX7) (index := 49) (v := .int ((xs ((xs ((xs u 0 0 (nI 0))) 1 n (nI (2 * k + b)))) 2 n (nI a1)).1 0 1)) hT7 hown hK (by decide) rfl rfl 1 (by decide) (hts (.fieldLink RX7 49 "TriggerAnalyzerModel" "rules" "I") (by decide +kernel)) (fun _ h9 => h9) rfl dX7_addRule_83 ?_
          refine z_topi (y := u.1 0 1) (((xs_c (by decide) _).trans (xs_c (by decide) _)).trans (xs_j (by decide))) ?_
          refine z_topi (y := nI n) (mR_n hM.1) ?_
          refine z_iload C dX7_addRule_86 4 rfl ?_
          refine z_iast (q := 3) (len := 8) (k := n) C hI hK (by decide) rfl 0 rfl (rfl) (by omega) (by decide) (f' := mF ad cI cL cB ((xs ((xs ((xs ((xs u 0 0 (nI 0))) 1 n (nI (2 * k + b)))) 2 n (nI a1))) 3 n (nI a2)))) rfl mF_ne dX7_addRule_88 ?_
          refine z_aload_n C dX7_addRule_89 0 rfl ?_
          refine z_get (q := 0) C (T := TX7) (N := 18) (ci := 7) (own := RX7) (index := 19) (v := .ref (ad 4)) hT7 hown hK (by decide) rfl rfl 5 (by decide) (hts (.fieldLink RX7 19 "TriggerAnalyzerModel" "many" "[I") (by decide +kernel)) (fun _ h9 => h9) rfl dX7_addRule_90 ?_
          refine z_aload_n C dX7_addRule_93 0 rfl ?_
          refine z_get (q := 0) C (T := TX7) (N := 18) (ci := 7) (own := RX7) (index := 49) (v := .int ((xs ((xs ((xs ((xs u 0 0 (nI 0))) 1 n (nI (2 * k + b)))) 2 n (nI a1))) 3 n (nI a2)).1 0 1)) hT7 hown hK (by decide) rfl rfl 1 (by decide) (hts (.fieldLink RX7 49 "TriggerAnalyzerModel" "rules" "I") (by decide +kernel)) (fun _ h9 => h9) rfl dX7_addRule_94 ?_
          refine z_topi (y := u.1 0 1) ((((xs_c (by decide) _).trans (xs_c (by decide) _)).trans (xs_c (by decide) _)).trans (xs_j (by decide))) ?_
          refine z_topi (y := nI n) (mR_n hM.1) ?_
          refine z_iconst (v := nI 0) C (by decide) dX7_addRule_97 ?_
          refine z_iast (q := 4) (len := 8) (k := n) C hI hK (by decide) rfl 0 rfl (rfl) (by omega) (by decide) (f' := mF ad cI cL cB ((xs ((xs ((xs ((xs ((xs u 0 0 (nI 0))) 1 n (nI (2 * k + b)))) 2 n (nI a1))) 3 n (nI a2))) 4 n (nI 0)))) rfl mF_ne dX7_addRule_98 ?_
          refine z_aload_n C dX7_addRule_99 0 rfl ?_
          refine z_get (q := 0) C (T := TX7) (N := 18) (ci := 7) (own := RX7) (index := 25) (v := .ref (ad 6)) hT7 hown hK (by decide) rfl rfl 7 (by decide) (hts (.fieldLink RX7 25 "TriggerAnalyzerModel" "areOn" "[Z") (by decide +kernel)) (fun _ h9 => h9) rfl dX7_addRule_100 ?_
          refine z_aload_n C dX7_addRule_103 0 rfl ?_
          refine z_get (q := 0) C (T := TX7) (N := 18) (ci := 7) (own := RX7) (index := 49) (v := .int ((xs ((xs ((xs ((xs ((xs u 0 0 (nI 0))) 1 n (nI (2 * k + b)))) 2 n (nI a1))) 3 n (nI a2))) 4 n (nI 0)).1 0 1)) hT7 hown hK (by decide) rfl rfl 1 (by decide) (hts (.fieldLink RX7 49 "TriggerAnalyzerModel" "rules" "I") (by decide +kernel)) (fun _ h9 => h9) rfl dX7_addRule_104 ?_
          refine z_topi (y := u.1 0 1) (((((xs_c (by decide) _).trans (xs_c (by decide) _)).trans (xs_c (by decide) _)).trans (xs_c (by decide) _)).trans (xs_j (by decide))) ?_
          refine z_topi (y := nI n) (mR_n hM.1) ?_
          refine z_iconst (v := nI 1) C (by decide) dX7_addRule_107 ?_
          refine z_zast (q := 6) (len := 8) (k := n) C hI hK (by decide) rfl 2 rfl (rfl) (by omega) (by decide) (by decide) (f' := mF ad cI cL cB ((xs ((xs ((xs ((xs ((xs ((xs u 0 0 (nI 0))) 1 n (nI (2 * k + b)))) 2 n (nI a1))) 3 n (nI a2))) 4 n (nI 0))) 6 n (nI 1)))) rfl mF_ne dX7_addRule_108 ?_
          refine z_aload_n C dX7_addRule_109 0 rfl ?_
          refine z_get (q := 0) C (T := TX7) (N := 18) (ci := 7) (own := RX7) (index := 29) (v := .ref (ad 7)) hT7 hown hK (by decide) rfl rfl 8 (by decide) (hts (.fieldLink RX7 29 "TriggerAnalyzerModel" "below" "[I") (by decide +kernel)) (fun _ h9 => h9) rfl dX7_addRule_110 ?_
          refine z_aload_n C dX7_addRule_113 0 rfl ?_
          refine z_get (q := 0) C (T := TX7) (N := 18) (ci := 7) (own := RX7) (index := 49) (v := .int ((xs ((xs ((xs ((xs ((xs ((xs u 0 0 (nI 0))) 1 n (nI (2 * k + b)))) 2 n (nI a1))) 3 n (nI a2))) 4 n (nI 0))) 6 n (nI 1)).1 0 1)) hT7 hown hK (by decide) rfl rfl 1 (by decide) (hts (.fieldLink RX7 49 "TriggerAnalyzerModel" "rules" "I") (by decide +kernel)) (fun _ h9 => h9) rfl dX7_addRule_114 ?_
          refine z_topi (y := u.1 0 1) ((((((xs_c (by decide) _).trans (xs_c (by decide) _)).trans (xs_c (by decide) _)).trans (xs_c (by decide) _)).trans (xs_c (by decide) _)).trans (xs_j (by decide))) ?_
          refine z_topi (y := nI n) (mR_n hM.1) ?_
          refine z_iconst (v := nI 0) C (by decide) dX7_addRule_117 ?_
          refine z_iast (q := 7) (len := 8) (k := n) C hI hK (by decide) rfl 0 rfl (rfl) (by omega) (by decide) (f' := mF ad cI cL cB ((xs ((xs ((xs ((xs ((xs ((xs ((xs u 0 0 (nI 0))) 1 n (nI (2 * k + b)))) 2 n (nI a1))) 3 n (nI a2))) 4 n (nI 0))) 6 n (nI 1))) 7 n (nI 0)))) rfl mF_ne dX7_addRule_118 ?_
          refine z_aload_n C dX7_addRule_119 0 rfl ?_
          refine z_dup C rfl dX7_addRule_120 ?_
          refine z_get (q := 0) C (T := TX7) (N := 18) (ci := 7) (own := RX7) (index := 49) (v := .int ((xs ((xs ((xs ((xs ((xs ((xs ((xs u 0 0 (nI 0))) 1 n (nI (2 * k + b)))) 2 n (nI a1))) 3 n (nI a2))) 4 n (nI 0))) 6 n (nI 1))) 7 n (nI 0)).1 0 1)) hT7 hown hK (by decide) rfl rfl 1 (by decide) (hts (.fieldLink RX7 49 "TriggerAnalyzerModel" "rules" "I") (by decide +kernel)) (fun _ h9 => h9) rfl dX7_addRule_121 ?_
          refine z_topi (y := u.1 0 1) (((((((xs_c (by decide) _).trans (xs_c (by decide) _)).trans (xs_c (by decide) _)).trans (xs_c (by decide) _)).trans (xs_c (by decide) _)).trans (xs_c (by decide) _)).trans (xs_j (by decide))) ?_
          refine z_topi (y := nI n) (mR_n hM.1) ?_
          refine z_iconst (v := nI 1) C (by decide) dX7_addRule_124 ?_
          refine z_iadd C dX7_addRule_125 ?_
          refine z_topi (y := nI (n + 1)) (nI_add n 1) ?_
          refine z_put (q := 0) C hI tyX7 (T := TX7) (N := 18) (ci := 7) (own := RX7) (index := 49) hT7 hown hK (by decide) rfl rfl 1 (by decide) (hts (.fieldLink RX7 49 "TriggerAnalyzerModel" "rules" "I") (by decide +kernel)) (fun _ h9 => h9) tyX7_ok nmX7 rfl rfl rfl (Nat.le_of_ble_eq_true rfl) (f' := mF ad cI cL cB ((xs ((xs ((xs ((xs ((xs ((xs ((xs ((xs u 0 0 (nI 0))) 1 n (nI (2 * k + b)))) 2 n (nI a1))) 3 n (nI a2))) 4 n (nI 0))) 6 n (nI 1))) 7 n (nI 0))) 0 1 (nI (n + 1))))) rfl mF_ne dX7_addRule_126 ?_
          refine z_aload_n C dX7_addRule_129 0 rfl ?_
          refine z_iconst (v := nI 0) C (by decide) dX7_addRule_130 ?_
          refine z_put (q := 0) C hI tyX7 (T := TX7) (N := 18) (ci := 7) (own := RX7) (index := 67) hT7 hown hK (by decide) rfl rfl 11 (by decide) (hts (.fieldLink RX7 67 "TriggerAnalyzerModel" "isExplored" "Z") (by decide +kernel)) (fun _ h9 => h9) tyX7_ok nmX7 rfl rfl rfl (Nat.le_of_ble_eq_true rfl) (f' := mF ad cI cL cB ((xs ((xs ((xs ((xs ((xs ((xs ((xs ((xs ((xs u 0 0 (nI 0))) 1 n (nI (2 * k + b)))) 2 n (nI a1))) 3 n (nI a2))) 4 n (nI 0))) 6 n (nI 1))) 7 n (nI 0))) 0 1 (nI (n + 1)))) 0 11 (nI 0)))) rfl mF_ne dX7_addRule_131 ?_
          refine z_aload_n C dX7_addRule_134 0 rfl ?_
          refine z_get (q := 0) C (T := TX7) (N := 18) (ci := 7) (own := RX7) (index := 49) (v := .int ((xs ((xs ((xs ((xs ((xs ((xs ((xs ((xs ((xs u 0 0 (nI 0))) 1 n (nI (2 * k + b)))) 2 n (nI a1))) 3 n (nI a2))) 4 n (nI 0))) 6 n (nI 1))) 7 n (nI 0))) 0 1 (nI (n + 1)))) 0 11 (nI 0)).1 0 1)) hT7 hown hK (by decide) rfl rfl 1 (by decide) (hts (.fieldLink RX7 49 "TriggerAnalyzerModel" "rules" "I") (by decide +kernel)) (fun _ h9 => h9) rfl dX7_addRule_135 ?_
          refine z_topi (y := nI (n + 1)) ((xs_j (by decide)).trans (xs_s _ _ _ _)) ?_
          refine z_iconst (v := nI 1) C (by decide) dX7_addRule_138 ?_
          refine z_isub C dX7_addRule_139 ?_
          refine z_topi (y := nI n) ((pk_sub (by omega)).trans (by rw [Nat.add_sub_cancel])) ?_
          exact z_iret C hr hlocks hQ ((xs ((xs ((xs ((xs ((xs ((xs ((xs ((xs ((xs u 0 0 (nI 0))) 1 n (nI (2 * k + b)))) 2 n (nI a1))) 3 n (nI a2))) 4 n (nI 0))) 6 n (nI 1))) 7 n (nI 0))) 0 1 (nI (n + 1)))) 0 11 (nI 0))) (⟨rfl, by simp [xs_at], mQ_of (mR_s (mR_ap (mR_s hM.1 (Or.inl ⟨rfl, by decide⟩)) hB hn8 (2 * k + b) a1 a2) (Or.inl ⟨rfl, by decide⟩)) ((show (xs ((xs ((xs ((xs ((xs ((xs ((xs ((xs ((xs u 0 0 (nI 0))) 1 n (nI (2 * k + b)))) 2 n (nI a1))) 3 n (nI a2))) 4 n (nI 0))) 6 n (nI 1))) 7 n (nI 0))) 0 1 (nI (n + 1)))) 0 11 (nI 0)).1 0 9 = u.1 0 9 by simp [xs_at]).trans hM.2.1) ((show (xs ((xs ((xs ((xs ((xs ((xs ((xs ((xs ((xs u 0 0 (nI 0))) 1 n (nI (2 * k + b)))) 2 n (nI a1))) 3 n (nI a2))) 4 n (nI 0))) 6 n (nI 1))) 7 n (nI 0))) 0 1 (nI (n + 1)))) 0 11 (nI 0)).1 0 10 = u.1 0 10 by simp [xs_at]).trans hM.2.2.1) ((xs_s _ _ _ _).trans rfl)⟩) (fun _ _ => rfl) dX7_addRule_140
        · skip
          have zn45 := zeq_t (a := n) (b := 8) (by omega) (by omega) zc45
          exact False.elim (by omega)
      · skip
        have zn30 := z0_t (by omega) zc30
        exact absurd zn30 (by decide)
  · skip
    have zn9 := z0_t (by omega) zc9
    exact absurd zn9 (by decide)

set_option maxHeartbeats 4000000 in
set_option maxRecDepth 100000 in
theorem c_X7_addRule_x1 (l : Launch) (D : va_G) (ad : Nat → Nat) (cI cL cB : ClassId) (hI : gI 12 ad) (u : xS) (n : Nat) (B : Nat → Nat → Nat) (hB : gB n B) (x : Nat) (hx : x < 64 * 2 ^ n) (hM : mI u n B x) (x1 : Int32) (hf : bad 6 x1) (x2 x3 x4 : Int32) : ∀ sz, Met l yX7_addRule wsX7_addRule ({ frames := 1, cells := 0, slots := 0, locals := 21 }) (MP D ad cI cL cB u [.ref (ad 0), .int (x1), .int (x2), .int (x3), .int (x4)] sz) (va_Qi (fun r_ u' => r_ = nI 0 ∧ u'.1 0 0 = nI 1 ∧ mQ u' n B x (u.1 0 11)) (MB D ad cI cL cB) (gA 12 ad sz)) 0 0 (gA 12 ad sz) := by
  intro sz
  refine z_met (cc := cX7_addRule) (maxL := 5) (ret := (some .int)) (by decide) rfl (Nat.le_of_ble_eq_true rfl) ?_
  intro pq lq sq mq aq Qq bq hmq cq C hr hml hown hts hlocks hK hX hsz hQ
  subst hsz
  have hT7 : ∀ w ∈ wsX70, w.before aq sq = true := fun w h => hts w ((by decide +kernel : ∀ w ∈ wsX70, w ∈ wsX7_addRule) w h)
  refine z_sub (L' := [(0, .ref (ad 0)), (1, .int (x1)), (2, .int (x2)), (3, .int (x3)), (4, .int (x4))]) [0, 1, 2, 3, 4] rfl ?_
  refine z_aload_n C dX7_addRule_0 0 rfl ?_
  refine z_iconst (v := nI 0) C (by decide) dX7_addRule_1 ?_
  refine z_put (q := 0) C hI tyX7 (T := TX7) (N := 18) (ci := 7) (own := RX7) (index := 45) hT7 hown hK (by decide) rfl rfl 0 (by decide) (hts (.fieldLink RX7 45 "TriggerAnalyzerModel" "thrown" "I") (by decide +kernel)) (fun _ h9 => h9) tyX7_ok nmX7 rfl rfl rfl (Nat.le_of_ble_eq_true rfl) (f' := mF ad cI cL cB ((xs u 0 0 (nI 0)))) rfl mF_ne dX7_addRule_2 ?_
  refine z_iload_n C dX7_addRule_5 1 rfl ?_
  refine z_callSi mX_ok C hml hown hts hK hX (c_X7_isFact_x l D ad cI cL cB hI ((xs u 0 0 (nI 0))) x1 hf) (va_cwS 1 hts gX7_addRule_X7_isFact rfl rfl rfl (by decide +kernel) ⟨Nat.le_of_ble_eq_true rfl, Nat.le_of_ble_eq_true rfl⟩) rfl (st := []) rfl (Nat.le_of_ble_eq_true rfl) dX7_addRule_6 ⟨Nat.le_of_ble_eq_true rfl, Nat.le_of_ble_eq_true rfl⟩ (fun r6 u6 h6 => ?_)
  obtain ⟨zr6, zu6⟩ := h6
  subst r6
  subst u6
  refine z_if_ne (tgt := 18) C dX7_addRule_9 (by decide) (fun zc9 => ?_) (fun zc9 => ?_)
  · skip
    have zn9 := z0_f zc9
    exact absurd zn9 (by decide)
  · skip
    have zn9 := z0_t (by omega) zc9
    refine z_aload_n C dX7_addRule_12 0 rfl ?_
    refine z_iconst (v := nI 1) C (by decide) dX7_addRule_13 ?_
    refine z_callVi mX_ok C hml hown hts hK hX (c_X7_fail l D ad cI cL cB hI ((xs u 0 0 (nI 0))) (nI 1)) (cwV 1 hts gX7_addRule_X7_fail rfl rfl rfl (by decide +kernel) ⟨Nat.le_of_ble_eq_true rfl, Nat.le_of_ble_eq_true rfl⟩) (by decide) (ci := 7) rfl rfl rfl (st := []) rfl (Nat.le_of_ble_eq_true rfl) dX7_addRule_14 ⟨Nat.le_of_ble_eq_true rfl, Nat.le_of_ble_eq_true rfl⟩ (fun r14 u14 h14 => ?_)
    obtain ⟨zr14, zu14⟩ := h14
    subst r14
    subst u14
    exact z_iret C hr hlocks hQ (xs ((xs u 0 0 (nI 0))) 0 0 ((nI 1))) (⟨rfl, xs_s _ _ _ _, mQ_2 hM _ _⟩) (fun _ _ => rfl) dX7_addRule_17

set_option maxHeartbeats 4000000 in
set_option maxRecDepth 100000 in
theorem c_X7_addRule_x2 (l : Launch) (D : va_G) (ad : Nat → Nat) (cI cL cB : ClassId) (hI : gI 12 ad) (u : xS) (n : Nat) (B : Nat → Nat → Nat) (hB : gB n B) (x : Nat) (hx : x < 64 * 2 ^ n) (hM : mI u n B x) (k : Nat) (hk : k < 6) (x2 x3 : Int32) (hf : bad 64 x3) (x4 : Int32) : ∀ sz, Met l yX7_addRule wsX7_addRule ({ frames := 1, cells := 0, slots := 0, locals := 21 }) (MP D ad cI cL cB u [.ref (ad 0), .int (nI k), .int (x2), .int (x3), .int (x4)] sz) (va_Qi (fun r_ u' => r_ = nI 0 ∧ u'.1 0 0 = nI 2 ∧ mQ u' n B x (u.1 0 11)) (MB D ad cI cL cB) (gA 12 ad sz)) 0 0 (gA 12 ad sz) := by
  intro sz
  refine z_met (cc := cX7_addRule) (maxL := 5) (ret := (some .int)) (by decide) rfl (Nat.le_of_ble_eq_true rfl) ?_
  intro pq lq sq mq aq Qq bq hmq cq C hr hml hown hts hlocks hK hX hsz hQ
  subst hsz
  have hT7 : ∀ w ∈ wsX70, w.before aq sq = true := fun w h => hts w ((by decide +kernel : ∀ w ∈ wsX70, w ∈ wsX7_addRule) w h)
  refine z_sub (L' := [(0, .ref (ad 0)), (1, .int (nI k)), (2, .int (x2)), (3, .int (x3)), (4, .int (x4))]) [0, 1, 2, 3, 4] rfl ?_
  refine z_aload_n C dX7_addRule_0 0 rfl ?_
  refine z_iconst (v := nI 0) C (by decide) dX7_addRule_1 ?_
  refine z_put (q := 0) C hI tyX7 (T := TX7) (N := 18) (ci := 7) (own := RX7) (index := 45) hT7 hown hK (by decide) rfl rfl 0 (by decide) (hts (.fieldLink RX7 45 "TriggerAnalyzerModel" "thrown" "I") (by decide +kernel)) (fun _ h9 => h9) tyX7_ok nmX7 rfl rfl rfl (Nat.le_of_ble_eq_true rfl) (f' := mF ad cI cL cB ((xs u 0 0 (nI 0)))) rfl mF_ne dX7_addRule_2 ?_
  refine z_iload_n C dX7_addRule_5 1 rfl ?_
  refine z_callSi mX_ok C hml hown hts hK hX (c_X7_isFact_vh l D ad cI cL cB hI ((xs u 0 0 (nI 0))) k hk) (va_cwS 1 hts gX7_addRule_X7_isFact rfl rfl rfl (by decide +kernel) ⟨Nat.le_of_ble_eq_true rfl, Nat.le_of_ble_eq_true rfl⟩) rfl (st := []) rfl (Nat.le_of_ble_eq_true rfl) dX7_addRule_6 ⟨Nat.le_of_ble_eq_true rfl, Nat.le_of_ble_eq_true rfl⟩ (fun r6 u6 h6 => ?_)
  obtain ⟨zr6, zu6⟩ := h6
  subst r6
  subst u6
  refine z_if_ne (tgt := 18) C dX7_addRule_9 (by decide) (fun zc9 => ?_) (fun zc9 => ?_)
  · skip
    have zn9 := z0_f zc9
    refine z_iload_n C dX7_addRule_18 3 rfl ?_
    refine z_callSi mX_ok C hml hown hts hK hX (c_X7_isSet_x l D ad cI cL cB hI ((xs u 0 0 (nI 0))) x3 hf) (va_cwS 1 hts gX7_addRule_X7_isSet rfl rfl rfl (by decide +kernel) ⟨Nat.le_of_ble_eq_true rfl, Nat.le_of_ble_eq_true rfl⟩) rfl (st := []) rfl (Nat.le_of_ble_eq_true rfl) dX7_addRule_19 ⟨Nat.le_of_ble_eq_true rfl, Nat.le_of_ble_eq_true rfl⟩ (fun r19 u19 h19 => ?_)
    obtain ⟨zr19, zu19⟩ := h19
    subst r19
    subst u19
    refine z_if_eq (tgt := 33) C dX7_addRule_22 (by decide) (fun zc22 => ?_) (fun zc22 => ?_)
    · skip
      have zn22 := z0_t (by omega) zc22
      refine z_aload_n C dX7_addRule_33 0 rfl ?_
      refine z_iconst (v := nI 2) C (by decide) dX7_addRule_34 ?_
      refine z_callVi mX_ok C hml hown hts hK hX (c_X7_fail l D ad cI cL cB hI ((xs u 0 0 (nI 0))) (nI 2)) (cwV 1 hts gX7_addRule_X7_fail rfl rfl rfl (by decide +kernel) ⟨Nat.le_of_ble_eq_true rfl, Nat.le_of_ble_eq_true rfl⟩) (by decide) (ci := 7) rfl rfl rfl (st := []) rfl (Nat.le_of_ble_eq_true rfl) dX7_addRule_35 ⟨Nat.le_of_ble_eq_true rfl, Nat.le_of_ble_eq_true rfl⟩ (fun r35 u35 h35 => ?_)
      obtain ⟨zr35, zu35⟩ := h35
      subst r35
      subst u35
      exact z_iret C hr hlocks hQ (xs ((xs u 0 0 (nI 0))) 0 0 ((nI 2))) (⟨rfl, xs_s _ _ _ _, mQ_2 hM _ _⟩) (fun _ _ => rfl) dX7_addRule_38
    · skip
      have zn22 := z0_f zc22
      exact absurd zn22 (by decide)
  · skip
    have zn9 := z0_t (by omega) zc9
    exact absurd zn9 (by decide)

set_option maxHeartbeats 4000000 in
set_option maxRecDepth 100000 in
theorem c_X7_addRule_x3 (l : Launch) (D : va_G) (ad : Nat → Nat) (cI cL cB : ClassId) (hI : gI 12 ad) (u : xS) (n : Nat) (B : Nat → Nat → Nat) (hB : gB n B) (x : Nat) (hx : x < 64 * 2 ^ n) (hM : mI u n B x) (k : Nat) (hk : k < 6) (x2 : Int32) (a1 : Nat) (h1 : a1 < 64) (x4 : Int32) (hf : bad 64 x4) : ∀ sz, Met l yX7_addRule wsX7_addRule ({ frames := 1, cells := 0, slots := 0, locals := 21 }) (MP D ad cI cL cB u [.ref (ad 0), .int (nI k), .int (x2), .int (nI a1), .int (x4)] sz) (va_Qi (fun r_ u' => r_ = nI 0 ∧ u'.1 0 0 = nI 2 ∧ mQ u' n B x (u.1 0 11)) (MB D ad cI cL cB) (gA 12 ad sz)) 0 0 (gA 12 ad sz) := by
  intro sz
  refine z_met (cc := cX7_addRule) (maxL := 5) (ret := (some .int)) (by decide) rfl (Nat.le_of_ble_eq_true rfl) ?_
  intro pq lq sq mq aq Qq bq hmq cq C hr hml hown hts hlocks hK hX hsz hQ
  subst hsz
  have hT7 : ∀ w ∈ wsX70, w.before aq sq = true := fun w h => hts w ((by decide +kernel : ∀ w ∈ wsX70, w ∈ wsX7_addRule) w h)
  refine z_sub (L' := [(0, .ref (ad 0)), (1, .int (nI k)), (2, .int (x2)), (3, .int (nI a1)), (4, .int (x4))]) [0, 1, 2, 3, 4] rfl ?_
  refine z_aload_n C dX7_addRule_0 0 rfl ?_
  refine z_iconst (v := nI 0) C (by decide) dX7_addRule_1 ?_
  refine z_put (q := 0) C hI tyX7 (T := TX7) (N := 18) (ci := 7) (own := RX7) (index := 45) hT7 hown hK (by decide) rfl rfl 0 (by decide) (hts (.fieldLink RX7 45 "TriggerAnalyzerModel" "thrown" "I") (by decide +kernel)) (fun _ h9 => h9) tyX7_ok nmX7 rfl rfl rfl (Nat.le_of_ble_eq_true rfl) (f' := mF ad cI cL cB ((xs u 0 0 (nI 0)))) rfl mF_ne dX7_addRule_2 ?_
  refine z_iload_n C dX7_addRule_5 1 rfl ?_
  refine z_callSi mX_ok C hml hown hts hK hX (c_X7_isFact_vh l D ad cI cL cB hI ((xs u 0 0 (nI 0))) k hk) (va_cwS 1 hts gX7_addRule_X7_isFact rfl rfl rfl (by decide +kernel) ⟨Nat.le_of_ble_eq_true rfl, Nat.le_of_ble_eq_true rfl⟩) rfl (st := []) rfl (Nat.le_of_ble_eq_true rfl) dX7_addRule_6 ⟨Nat.le_of_ble_eq_true rfl, Nat.le_of_ble_eq_true rfl⟩ (fun r6 u6 h6 => ?_)
  obtain ⟨zr6, zu6⟩ := h6
  subst r6
  subst u6
  refine z_if_ne (tgt := 18) C dX7_addRule_9 (by decide) (fun zc9 => ?_) (fun zc9 => ?_)
  · skip
    have zn9 := z0_f zc9
    refine z_iload_n C dX7_addRule_18 3 rfl ?_
    refine z_callSi mX_ok C hml hown hts hK hX (c_X7_isSet_vh l D ad cI cL cB hI ((xs u 0 0 (nI 0))) a1 h1) (va_cwS 1 hts gX7_addRule_X7_isSet rfl rfl rfl (by decide +kernel) ⟨Nat.le_of_ble_eq_true rfl, Nat.le_of_ble_eq_true rfl⟩) rfl (st := []) rfl (Nat.le_of_ble_eq_true rfl) dX7_addRule_19 ⟨Nat.le_of_ble_eq_true rfl, Nat.le_of_ble_eq_true rfl⟩ (fun r19 u19 h19 => ?_)
    obtain ⟨zr19, zu19⟩ := h19
    subst r19
    subst u19
    refine z_if_eq (tgt := 33) C dX7_addRule_22 (by decide) (fun zc22 => ?_) (fun zc22 => ?_)
    · skip
      have zn22 := z0_t (by omega) zc22
      exact absurd zn22 (by decide)
    · skip
      have zn22 := z0_f zc22
      refine z_iload C dX7_addRule_25 4 rfl ?_
      refine z_callSi mX_ok C hml hown hts hK hX (c_X7_isSet_x l D ad cI cL cB hI ((xs u 0 0 (nI 0))) x4 hf) (va_cwS 1 hts gX7_addRule_X7_isSet rfl rfl rfl (by decide +kernel) ⟨Nat.le_of_ble_eq_true rfl, Nat.le_of_ble_eq_true rfl⟩) rfl (st := []) rfl (Nat.le_of_ble_eq_true rfl) dX7_addRule_27 ⟨Nat.le_of_ble_eq_true rfl, Nat.le_of_ble_eq_true rfl⟩ (fun r27 u27 h27 => ?_)
      obtain ⟨zr27, zu27⟩ := h27
      subst r27
      subst u27
      refine z_if_ne (tgt := 39) C dX7_addRule_30 (by decide) (fun zc30 => ?_) (fun zc30 => ?_)
      · skip
        have zn30 := z0_f zc30
        exact absurd zn30 (by decide)
      · skip
        have zn30 := z0_t (by omega) zc30
        refine z_aload_n C dX7_addRule_33 0 rfl ?_
        refine z_iconst (v := nI 2) C (by decide) dX7_addRule_34 ?_
        refine z_callVi mX_ok C hml hown hts hK hX (c_X7_fail l D ad cI cL cB hI ((xs u 0 0 (nI 0))) (nI 2)) (cwV 1 hts gX7_addRule_X7_fail rfl rfl rfl (by decide +kernel) ⟨Nat.le_of_ble_eq_true rfl, Nat.le_of_ble_eq_true rfl⟩) (by decide) (ci := 7) rfl rfl rfl (st := []) rfl (Nat.le_of_ble_eq_true rfl) dX7_addRule_35 ⟨Nat.le_of_ble_eq_true rfl, Nat.le_of_ble_eq_true rfl⟩ (fun r35 u35 h35 => ?_)
        obtain ⟨zr35, zu35⟩ := h35
        subst r35
        subst u35
        exact z_iret C hr hlocks hQ (xs ((xs u 0 0 (nI 0))) 0 0 ((nI 2))) (⟨rfl, xs_s _ _ _ _, mQ_2 hM _ _⟩) (fun _ _ => rfl) dX7_addRule_38
  · skip
    have zn9 := z0_t (by omega) zc9
    exact absurd zn9 (by decide)

set_option maxHeartbeats 4000000 in
set_option maxRecDepth 100000 in
theorem c_X7_addRule_x4 (l : Launch) (D : va_G) (ad : Nat → Nat) (cI cL cB : ClassId) (hI : gI 12 ad) (u : xS) (n : Nat) (B : Nat → Nat → Nat) (hB : gB n B) (x : Nat) (hx : x < 64 * 2 ^ n) (hM : mI u n B x) (hn8 : 8 ≤ n) (k : Nat) (hk : k < 6) (b : Nat) (hb : b ≤ 1) (a1 : Nat) (h1 : a1 < 64) (a2 : Nat) (h2 : a2 < 64) : ∀ sz, Met l yX7_addRule wsX7_addRule ({ frames := 1, cells := 0, slots := 0, locals := 21 }) (MP D ad cI cL cB u [.ref (ad 0), .int (nI k), .int (nI b), .int (nI a1), .int (nI a2)] sz) (va_Qi (fun r_ u' => r_ = nI 0 ∧ u'.1 0 0 = nI 3 ∧ mQ u' n B x (u.1 0 11)) (MB D ad cI cL cB) (gA 12 ad sz)) 0 0 (gA 12 ad sz) := by
  intro sz
  refine z_met (cc := cX7_addRule) (maxL := 5) (ret := (some .int)) (by decide) rfl (Nat.le_of_ble_eq_true rfl) ?_
  intro pq lq sq mq aq Qq bq hmq cq C hr hml hown hts hlocks hK hX hsz hQ
  subst hsz
  have hT7 : ∀ w ∈ wsX70, w.before aq sq = true := fun w h => hts w ((by decide +kernel : ∀ w ∈ wsX70, w ∈ wsX7_addRule) w h)
  refine z_sub (L' := [(0, .ref (ad 0)), (1, .int (nI k)), (2, .int (nI b)), (3, .int (nI a1)), (4, .int (nI a2))]) [0, 1, 2, 3, 4] rfl ?_
  have hn9 : n ≤ 8 := hB.1
  refine z_aload_n C dX7_addRule_0 0 rfl ?_
  refine z_iconst (v := nI 0) C (by decide) dX7_addRule_1 ?_
  refine z_put (q := 0) C hI tyX7 (T := TX7) (N := 18) (ci := 7) (own := RX7) (index := 45) hT7 hown hK (by decide) rfl rfl 0 (by decide) (hts (.fieldLink RX7 45 "TriggerAnalyzerModel" "thrown" "I") (by decide +kernel)) (fun _ h9 => h9) tyX7_ok nmX7 rfl rfl rfl (Nat.le_of_ble_eq_true rfl) (f' := mF ad cI cL cB ((xs u 0 0 (nI 0)))) rfl mF_ne dX7_addRule_2 ?_
  refine z_iload_n C dX7_addRule_5 1 rfl ?_
  refine z_callSi mX_ok C hml hown hts hK hX (c_X7_isFact_vh l D ad cI cL cB hI ((xs u 0 0 (nI 0))) k hk) (va_cwS 1 hts gX7_addRule_X7_isFact rfl rfl rfl (by decide +kernel) ⟨Nat.le_of_ble_eq_true rfl, Nat.le_of_ble_eq_true rfl⟩) rfl (st := []) rfl (Nat.le_of_ble_eq_true rfl) dX7_addRule_6 ⟨Nat.le_of_ble_eq_true rfl, Nat.le_of_ble_eq_true rfl⟩ (fun r6 u6 h6 => ?_)
  obtain ⟨zr6, zu6⟩ := h6
  subst r6
  subst u6
  refine z_if_ne (tgt := 18) C dX7_addRule_9 (by decide) (fun zc9 => ?_) (fun zc9 => ?_)
  · skip
    have zn9 := z0_f zc9
    refine z_iload_n C dX7_addRule_18 3 rfl ?_
    refine z_callSi mX_ok C hml hown hts hK hX (c_X7_isSet_vh l D ad cI cL cB hI ((xs u 0 0 (nI 0))) a1 h1) (va_cwS 1 hts gX7_addRule_X7_isSet rfl rfl rfl (by decide +kernel) ⟨Nat.le_of_ble_eq_true rfl, Nat.le_of_ble_eq_true rfl⟩) rfl (st := []) rfl (Nat.le_of_ble_eq_true rfl) dX7_addRule_19 ⟨Nat.le_of_ble_eq_true rfl, Nat.le_of_ble_eq_true rfl⟩ (fun r19 u19 h19 => ?_)
    obtain ⟨zr19, zu19⟩ := h19
    subst r19
    subst u19
    refine z_if_eq (tgt := 33) C dX7_addRule_22 (by decide) (fun zc22 => ?_) (fun zc22 => ?_)
    · skip
      have zn22 := z0_t (by omega) zc22
      exact absurd zn22 (by decide)
    · skip
      have zn22 := z0_f zc22
      refine z_iload C dX7_addRule_25 4 rfl ?_
      refine z_callSi mX_ok C hml hown hts hK hX (c_X7_isSet_vh l D ad cI cL cB hI ((xs u 0 0 (nI 0))) a2 h2) (va_cwS 1 hts gX7_addRule_X7_isSet rfl rfl rfl (by decide +kernel) ⟨Nat.le_of_ble_eq_true rfl, Nat.le_of_ble_eq_true rfl⟩) rfl (st := []) rfl (Nat.le_of_ble_eq_true rfl) dX7_addRule_27 ⟨Nat.le_of_ble_eq_true rfl, Nat.le_of_ble_eq_true rfl⟩ (fun r27 u27 h27 => ?_)
      obtain ⟨zr27, zu27⟩ := h27
      subst r27
      subst u27
      refine z_if_ne (tgt := 39) C dX7_addRule_30 (by decide) (fun zc30 => ?_) (fun zc30 => ?_)
      · skip
        have zn30 := z0_f zc30
        refine z_aload_n C dX7_addRule_39 0 rfl ?_
        refine z_get (q := 0) C (T := TX7) (N := 18) (ci := 7) (own := RX7) (index := 49) (v := .int ((xs u 0 0 (nI 0)).1 0 1)) hT7 hown hK (by decide) rfl rfl 1 (by decide) (hts (.fieldLink RX7 49 "TriggerAnalyzerModel" "rules" "I") (by decide +kernel)) (fun _ h9 => h9) rfl dX7_addRule_40 ?_
        refine z_topi (y := u.1 0 1) (xs_j (by decide)) ?_
        refine z_topi (y := nI n) (mR_n hM.1) ?_
        refine z_bipush (v := nI 8) C (by decide) dX7_addRule_43 ?_
        refine z_icmp_ne (tgt := 54) C dX7_addRule_45 (by decide) (fun zc45 => ?_) (fun zc45 => ?_)
        · skip
          have zn45 := zeq_f (a := n) (b := 8) zc45
          exact False.elim (by omega)
        · skip
          have zn45 := zeq_t (a := n) (b := 8) (by omega) (by omega) zc45
          refine z_aload_n C dX7_addRule_48 0 rfl ?_
          refine z_iconst (v := nI 3) C (by decide) dX7_addRule_49 ?_
          refine z_callVi mX_ok C hml hown hts hK hX (c_X7_fail l D ad cI cL cB hI ((xs u 0 0 (nI 0))) (nI 3)) (cwV 1 hts gX7_addRule_X7_fail rfl rfl rfl (by decide +kernel) ⟨Nat.le_of_ble_eq_true rfl, Nat.le_of_ble_eq_true rfl⟩) (by decide) (ci := 7) rfl rfl rfl (st := []) rfl (Nat.le_of_ble_eq_true rfl) dX7_addRule_50 ⟨Nat.le_of_ble_eq_true rfl, Nat.le_of_ble_eq_true rfl⟩ (fun r50 u50 h50 => ?_)
          obtain ⟨zr50, zu50⟩ := h50
          subst r50
          subst u50
          exact z_iret C hr hlocks hQ (xs ((xs u 0 0 (nI 0))) 0 0 ((nI 3))) (⟨rfl, xs_s _ _ _ _, mQ_2 hM _ _⟩) (fun _ _ => rfl) dX7_addRule_53
      · skip
        have zn30 := z0_t (by omega) zc30
        exact absurd zn30 (by decide)
  · skip
    have zn9 := z0_t (by omega) zc9
    exact absurd zn9 (by decide)

set_option maxHeartbeats 4000000 in
set_option maxRecDepth 100000 in
theorem c_X7_addAction (l : Launch) (D : va_G) (ad : Nat → Nat) (cI cL cB : ClassId) (hI : gI 12 ad) (u : xS) (n : Nat) (B : Nat → Nat → Nat) (hB : gB n B) (x : Nat) (hx : x < 64 * 2 ^ n) (hM : mI u n B x) (i : Nat) (hi : i < n) (k : Nat) (hk : k < 6) (b : Nat) (hb : b ≤ 1) (h4 : B i 4 < 4) : ∀ sz, Met l yX7_addAction wsX7_addAction ({ frames := 1, cells := 0, slots := 0, locals := 21 }) (MP D ad cI cL cB u [.ref (ad 0), .int (nI i), .int (nI k), .int (nI b)] sz) (va_Qi (fun r_ u' => r_ = nI (B i 4 + 1) ∧ u'.1 0 0 = nI 0 ∧ mQ u' n (aaB B i (2 * k + b)) x 0) (MB D ad cI cL cB) (gA 12 ad sz)) 0 0 (gA 12 ad sz) := by
  intro sz
  refine z_met (cc := cX7_addAction) (maxL := 4) (ret := (some .int)) (by decide) rfl (Nat.le_of_ble_eq_true rfl) ?_
  intro pq lq sq mq aq Qq bq hmq cq C hr hml hown hts hlocks hK hX hsz hQ
  subst hsz
  have hT7 : ∀ w ∈ wsX70, w.before aq sq = true := fun w h => hts w ((by decide +kernel : ∀ w ∈ wsX70, w ∈ wsX7_addAction) w h)
  refine z_sub (L' := [(0, .ref (ad 0)), (1, .int (nI i)), (2, .int (nI k)), (3, .int (nI b))]) [0, 1, 2, 3] rfl ?_
  have hn8 : n ≤ 8 := hB.1
  have hi8 : i < 8 := Nat.lt_of_lt_of_le hi hB.1
  refine z_aload_n C dX7_addAction_0 0 rfl ?_
  refine z_iconst (v := nI 0) C (by decide) dX7_addAction_1 ?_
  refine z_put (q := 0) C hI tyX7 (T := TX7) (N := 18) (ci := 7) (own := RX7) (index := 45) hT7 hown hK (by decide) rfl rfl 0 (by decide) (hts (.fieldLink RX7 45 "TriggerAnalyzerModel" "thrown" "I") (by decide +kernel)) (fun _ h9 => h9) tyX7_ok nmX7 rfl rfl rfl (Nat.le_of_ble_eq_true rfl) (f' := mF ad cI cL cB ((xs u 0 0 (nI 0)))) rfl mF_ne dX7_addAction_2 ?_
  refine z_aload_n C dX7_addAction_5 0 rfl ?_
  refine z_iload_n C dX7_addAction_6 1 rfl ?_
  refine z_callVi mX_ok C hml hown hts hK hX (c_X7_isRule_vh l D ad cI cL cB hI ((xs u 0 0 (nI 0))) n hB.1 ((xs_j (by decide)).trans (mR_n hM.1)) i hi) (cwV 1 hts gX7_addAction_X7_isRule rfl rfl rfl (by decide +kernel) ⟨Nat.le_of_ble_eq_true rfl, Nat.le_of_ble_eq_true rfl⟩) (by decide) (ci := 7) rfl rfl rfl (st := []) rfl (Nat.le_of_ble_eq_true rfl) dX7_addAction_7 ⟨Nat.le_of_ble_eq_true rfl, Nat.le_of_ble_eq_true rfl⟩ (fun r7 u7 h7 => ?_)
  obtain ⟨zr7, zu7⟩ := h7
  subst r7
  subst u7
  refine z_if_eq (tgt := 20) C dX7_addAction_10 (by decide) (fun zc10 => ?_) (fun zc10 => ?_)
  · skip
    have zn10 := z0_t (by omega) zc10
    exact absurd zn10 (by decide)
  · skip
    have zn10 := z0_f zc10
    refine z_iload_n C dX7_addAction_13 2 rfl ?_
    refine z_callSi mX_ok C hml hown hts hK hX (c_X7_isFact_vh l D ad cI cL cB hI ((xs u 0 0 (nI 0))) k hk) (va_cwS 1 hts gX7_addAction_X7_isFact rfl rfl rfl (by decide +kernel) ⟨Nat.le_of_ble_eq_true rfl, Nat.le_of_ble_eq_true rfl⟩) rfl (st := []) rfl (Nat.le_of_ble_eq_true rfl) dX7_addAction_14 ⟨Nat.le_of_ble_eq_true rfl, Nat.le_of_ble_eq_true rfl⟩ (fun r14 u14 h14 => ?_)
    obtain ⟨zr14, zu14⟩ := h14
    subst r14
    subst u14
    refine z_if_ne (tgt := 26) C dX7_addAction_17 (by decide) (fun zc17 => ?_) (fun zc17 => ?_)
    · skip
      have zn17 := z0_f zc17
      refine z_aload_n C dX7_addAction_26 0 rfl ?_
      refine z_get (q := 0) C (T := TX7) (N := 18) (ci := 7) (own := RX7) (index := 19) (v := .ref (ad 4)) hT7 hown hK (by decide) rfl rfl 5 (by decide) (hts (.fieldLink RX7 19 "TriggerAnalyzerModel" "many" "[I") (by decide +kernel)) (fun _ h9 => h9) rfl dX7_addAction_27 ?_
      refine z_iload_n C dX7_addAction_30 1 rfl ?_
      refine z_iald (q := 4) (len := 8) (k := i) C hK (by decide) rfl 0 rfl (rfl) (by omega) (by decide) dX7_addAction_31 ?_
      refine z_topi (y := u.1 4 i) (xs_c (by decide) _) ?_
      refine z_topi (y := nI (B i 4)) (mR_4 hM.1 (by omega)) ?_
      refine z_iconst (v := nI 4) C (by decide) dX7_addAction_32 ?_
      refine z_icmp_ne (tgt := 42) C dX7_addAction_33 (by decide) (fun zc33 => ?_) (fun zc33 => ?_)
      · skip
        have zn33 := zeq_f (a := B i 4) (b := 4) zc33
        refine z_aload_n C dX7_addAction_42 0 rfl ?_
        refine z_get (q := 0) C (T := TX7) (N := 18) (ci := 7) (own := RX7) (index := 22) (v := .ref (ad 5)) hT7 hown hK (by decide) rfl rfl 6 (by decide) (hts (.fieldLink RX7 22 "TriggerAnalyzerModel" "actions" "[I") (by decide +kernel)) (fun _ h9 => h9) rfl dX7_addAction_43 ?_
        refine z_iconst (v := nI 4) C (by decide) dX7_addAction_46 ?_
        refine z_iload_n C dX7_addAction_47 1 rfl ?_
        refine z_imul C dX7_addAction_48 ?_
        refine z_topi (y := nI (4 * i)) (pk_mul 4 i) ?_
        refine z_aload_n C dX7_addAction_49 0 rfl ?_
        refine z_get (q := 0) C (T := TX7) (N := 18) (ci := 7) (own := RX7) (index := 19) (v := .ref (ad 4)) hT7 hown hK (by decide) rfl rfl 5 (by decide) (hts (.fieldLink RX7 19 "TriggerAnalyzerModel" "many" "[I") (by decide +kernel)) (fun _ h9 => h9) rfl dX7_addAction_50 ?_
        refine z_iload_n C dX7_addAction_53 1 rfl ?_
        refine z_iald (q := 4) (len := 8) (k := i) C hK (by decide) rfl 0 rfl (rfl) (by omega) (by decide) dX7_addAction_54 ?_
        refine z_topi (y := u.1 4 i) (xs_c (by decide) _) ?_
        refine z_topi (y := nI (B i 4)) (mR_4 hM.1 (by omega)) ?_
        refine z_iadd C dX7_addAction_55 ?_
        refine z_topi (y := nI ((4 * i) + (B i 4))) (nI_add (4 * i) (B i 4)) ?_
        refine z_iload_n C dX7_addAction_56 2 rfl ?_
        refine z_iload_n C dX7_addAction_57 3 rfl ?_
        refine z_callSi mX_ok C hml hown hts hK hX (c_X7_literal l D ad cI cL cB hI ((xs u 0 0 (nI 0))) k b hb) (va_cwS 2 hts gX7_addAction_X7_literal rfl rfl rfl (by decide +kernel) ⟨Nat.le_of_ble_eq_true rfl, Nat.le_of_ble_eq_true rfl⟩) rfl (st := [.int (nI ((4 * i) + (B i 4))), .ref (ad 5)]) rfl (Nat.le_of_ble_eq_true rfl) dX7_addAction_58 ⟨Nat.le_of_ble_eq_true rfl, Nat.le_of_ble_eq_true rfl⟩ (fun r58 u58 h58 => ?_)
        obtain ⟨zr58, zu58⟩ := h58
        subst r58
        subst u58
        refine z_iast (q := 5) (len := 32) (k := (4 * i) + (B i 4)) C hI hK (by decide) rfl 0 rfl (rfl) (by omega) (by decide) (f' := mF ad cI cL cB ((xs ((xs u 0 0 (nI 0))) 5 ((4 * i) + (B i 4)) (nI (2 * k + b))))) rfl mF_ne dX7_addAction_61 ?_
        refine z_aload_n C dX7_addAction_62 0 rfl ?_
        refine z_get (q := 0) C (T := TX7) (N := 18) (ci := 7) (own := RX7) (index := 19) (v := .ref (ad 4)) hT7 hown hK (by decide) rfl rfl 5 (by decide) (hts (.fieldLink RX7 19 "TriggerAnalyzerModel" "many" "[I") (by decide +kernel)) (fun _ h9 => h9) rfl dX7_addAction_63 ?_
        refine z_iload_n C dX7_addAction_66 1 rfl ?_
        refine z_dup2 C rfl rfl dX7_addAction_67 ?_
        refine z_iald (q := 4) (len := 8) (k := i) C hK (by decide) rfl 0 rfl (rfl) (by omega) (by decide) dX7_addAction_68 ?_
        refine z_topi (y := u.1 4 i) ((xs_c (by decide) _).trans (xs_c (by decide) _)) ?_
        refine z_topi (y := nI (B i 4)) (mR_4 hM.1 (by omega)) ?_
        refine z_iconst (v := nI 1) C (by decide) dX7_addAction_69 ?_
        refine z_iadd C dX7_addAction_70 ?_
        refine z_topi (y := nI ((B i 4) + 1)) (nI_add (B i 4) 1) ?_
        refine z_iast (q := 4) (len := 8) (k := i) C hI hK (by decide) rfl 0 rfl (rfl) (by omega) (by decide) (f' := mF ad cI cL cB ((xs ((xs ((xs u 0 0 (nI 0))) 5 ((4 * i) + (B i 4)) (nI (2 * k + b)))) 4 i (nI ((B i 4) + 1))))) rfl mF_ne dX7_addAction_71 ?_
        refine z_aload_n C dX7_addAction_72 0 rfl ?_
        refine z_iconst (v := nI 0) C (by decide) dX7_addAction_73 ?_
        refine z_put (q := 0) C hI tyX7 (T := TX7) (N := 18) (ci := 7) (own := RX7) (index := 67) hT7 hown hK (by decide) rfl rfl 11 (by decide) (hts (.fieldLink RX7 67 "TriggerAnalyzerModel" "isExplored" "Z") (by decide +kernel)) (fun _ h9 => h9) tyX7_ok nmX7 rfl rfl rfl (Nat.le_of_ble_eq_true rfl) (f' := mF ad cI cL cB ((xs ((xs ((xs ((xs u 0 0 (nI 0))) 5 ((4 * i) + (B i 4)) (nI (2 * k + b)))) 4 i (nI ((B i 4) + 1)))) 0 11 (nI 0)))) rfl mF_ne dX7_addAction_74 ?_
        refine z_aload_n C dX7_addAction_77 0 rfl ?_
        refine z_get (q := 0) C (T := TX7) (N := 18) (ci := 7) (own := RX7) (index := 19) (v := .ref (ad 4)) hT7 hown hK (by decide) rfl rfl 5 (by decide) (hts (.fieldLink RX7 19 "TriggerAnalyzerModel" "many" "[I") (by decide +kernel)) (fun _ h9 => h9) rfl dX7_addAction_78 ?_
        refine z_iload_n C dX7_addAction_81 1 rfl ?_
        refine z_iald (q := 4) (len := 8) (k := i) C hK (by decide) rfl 0 rfl (rfl) (by omega) (by decide) dX7_addAction_82 ?_
        refine z_topi (y := nI ((B i 4) + 1)) ((xs_c (by decide) _).trans (xs_s _ _ _ _)) ?_
        exact z_iret C hr hlocks hQ ((xs ((xs ((xs ((xs u 0 0 (nI 0))) 5 ((4 * i) + (B i 4)) (nI (2 * k + b)))) 4 i (nI ((B i 4) + 1)))) 0 11 (nI 0))) (⟨rfl, by simp [xs_at], mQ_of (mR_s (mR_aa (mR_s hM.1 (Or.inl ⟨rfl, by decide⟩)) hB hi h4 (2 * k + b)) (Or.inl ⟨rfl, by decide⟩)) ((show (xs ((xs ((xs ((xs u 0 0 (nI 0))) 5 ((4 * i) + (B i 4)) (nI (2 * k + b)))) 4 i (nI ((B i 4) + 1)))) 0 11 (nI 0)).1 0 9 = u.1 0 9 by simp [xs_at]).trans hM.2.1) ((show (xs ((xs ((xs ((xs u 0 0 (nI 0))) 5 ((4 * i) + (B i 4)) (nI (2 * k + b)))) 4 i (nI ((B i 4) + 1)))) 0 11 (nI 0)).1 0 10 = u.1 0 10 by simp [xs_at]).trans hM.2.2.1) ((xs_s _ _ _ _).trans rfl)⟩) (fun _ _ => rfl) dX7_addAction_83
      · skip
        have zn33 := zeq_t (a := B i 4) (b := 4) (by omega) (by omega) zc33
        exact False.elim (by omega)
    · skip
      have zn17 := z0_t (by omega) zc17
      exact absurd zn17 (by decide)

set_option maxHeartbeats 4000000 in
set_option maxRecDepth 100000 in
theorem c_X7_addAction_x1 (l : Launch) (D : va_G) (ad : Nat → Nat) (cI cL cB : ClassId) (hI : gI 12 ad) (u : xS) (n : Nat) (B : Nat → Nat → Nat) (hB : gB n B) (x : Nat) (hx : x < 64 * 2 ^ n) (hM : mI u n B x) (x1 : Int32) (hf : bad n x1) (x2 x3 : Int32) : ∀ sz, Met l yX7_addAction wsX7_addAction ({ frames := 1, cells := 0, slots := 0, locals := 21 }) (MP D ad cI cL cB u [.ref (ad 0), .int (x1), .int (x2), .int (x3)] sz) (va_Qi (fun r_ u' => r_ = nI 0 ∧ u'.1 0 0 = nI 1 ∧ mQ u' n B x (u.1 0 11)) (MB D ad cI cL cB) (gA 12 ad sz)) 0 0 (gA 12 ad sz) := by
  intro sz
  refine z_met (cc := cX7_addAction) (maxL := 4) (ret := (some .int)) (by decide) rfl (Nat.le_of_ble_eq_true rfl) ?_
  intro pq lq sq mq aq Qq bq hmq cq C hr hml hown hts hlocks hK hX hsz hQ
  subst hsz
  have hT7 : ∀ w ∈ wsX70, w.before aq sq = true := fun w h => hts w ((by decide +kernel : ∀ w ∈ wsX70, w ∈ wsX7_addAction) w h)
  refine z_sub (L' := [(0, .ref (ad 0)), (1, .int (x1)), (2, .int (x2)), (3, .int (x3))]) [0, 1, 2, 3] rfl ?_
  refine z_aload_n C dX7_addAction_0 0 rfl ?_
  refine z_iconst (v := nI 0) C (by decide) dX7_addAction_1 ?_
  refine z_put (q := 0) C hI tyX7 (T := TX7) (N := 18) (ci := 7) (own := RX7) (index := 45) hT7 hown hK (by decide) rfl rfl 0 (by decide) (hts (.fieldLink RX7 45 "TriggerAnalyzerModel" "thrown" "I") (by decide +kernel)) (fun _ h9 => h9) tyX7_ok nmX7 rfl rfl rfl (Nat.le_of_ble_eq_true rfl) (f' := mF ad cI cL cB ((xs u 0 0 (nI 0)))) rfl mF_ne dX7_addAction_2 ?_
  refine z_aload_n C dX7_addAction_5 0 rfl ?_
  refine z_iload_n C dX7_addAction_6 1 rfl ?_
  refine z_callVi mX_ok C hml hown hts hK hX (c_X7_isRule_x l D ad cI cL cB hI ((xs u 0 0 (nI 0))) n hB.1 ((xs_j (by decide)).trans (mR_n hM.1)) x1 hf) (cwV 1 hts gX7_addAction_X7_isRule rfl rfl rfl (by decide +kernel) ⟨Nat.le_of_ble_eq_true rfl, Nat.le_of_ble_eq_true rfl⟩) (by decide) (ci := 7) rfl rfl rfl (st := []) rfl (Nat.le_of_ble_eq_true rfl) dX7_addAction_7 ⟨Nat.le_of_ble_eq_true rfl, Nat.le_of_ble_eq_true rfl⟩ (fun r7 u7 h7 => ?_)
  obtain ⟨zr7, zu7⟩ := h7
  subst r7
  subst u7
  refine z_if_eq (tgt := 20) C dX7_addAction_10 (by decide) (fun zc10 => ?_) (fun zc10 => ?_)
  · skip
    have zn10 := z0_t (by omega) zc10
    refine z_aload_n C dX7_addAction_20 0 rfl ?_
    refine z_iconst (v := nI 1) C (by decide) dX7_addAction_21 ?_
    refine z_callVi mX_ok C hml hown hts hK hX (c_X7_fail l D ad cI cL cB hI ((xs u 0 0 (nI 0))) (nI 1)) (cwV 1 hts gX7_addAction_X7_fail rfl rfl rfl (by decide +kernel) ⟨Nat.le_of_ble_eq_true rfl, Nat.le_of_ble_eq_true rfl⟩) (by decide) (ci := 7) rfl rfl rfl (st := []) rfl (Nat.le_of_ble_eq_true rfl) dX7_addAction_22 ⟨Nat.le_of_ble_eq_true rfl, Nat.le_of_ble_eq_true rfl⟩ (fun r22 u22 h22 => ?_)
    obtain ⟨zr22, zu22⟩ := h22
    subst r22
    subst u22
    exact z_iret C hr hlocks hQ (xs ((xs u 0 0 (nI 0))) 0 0 ((nI 1))) (⟨rfl, xs_s _ _ _ _, mQ_2 hM _ _⟩) (fun _ _ => rfl) dX7_addAction_25
  · skip
    have zn10 := z0_f zc10
    exact absurd zn10 (by decide)

set_option maxHeartbeats 4000000 in
set_option maxRecDepth 100000 in
theorem c_X7_addAction_x2 (l : Launch) (D : va_G) (ad : Nat → Nat) (cI cL cB : ClassId) (hI : gI 12 ad) (u : xS) (n : Nat) (B : Nat → Nat → Nat) (hB : gB n B) (x : Nat) (hx : x < 64 * 2 ^ n) (hM : mI u n B x) (i : Nat) (hi : i < n) (x2 : Int32) (hf : bad 6 x2) (x3 : Int32) : ∀ sz, Met l yX7_addAction wsX7_addAction ({ frames := 1, cells := 0, slots := 0, locals := 21 }) (MP D ad cI cL cB u [.ref (ad 0), .int (nI i), .int (x2), .int (x3)] sz) (va_Qi (fun r_ u' => r_ = nI 0 ∧ u'.1 0 0 = nI 1 ∧ mQ u' n B x (u.1 0 11)) (MB D ad cI cL cB) (gA 12 ad sz)) 0 0 (gA 12 ad sz) := by
  intro sz
  refine z_met (cc := cX7_addAction) (maxL := 4) (ret := (some .int)) (by decide) rfl (Nat.le_of_ble_eq_true rfl) ?_
  intro pq lq sq mq aq Qq bq hmq cq C hr hml hown hts hlocks hK hX hsz hQ
  subst hsz
  have hT7 : ∀ w ∈ wsX70, w.before aq sq = true := fun w h => hts w ((by decide +kernel : ∀ w ∈ wsX70, w ∈ wsX7_addAction) w h)
  refine z_sub (L' := [(0, .ref (ad 0)), (1, .int (nI i)), (2, .int (x2)), (3, .int (x3))]) [0, 1, 2, 3] rfl ?_
  refine z_aload_n C dX7_addAction_0 0 rfl ?_
  refine z_iconst (v := nI 0) C (by decide) dX7_addAction_1 ?_
  refine z_put (q := 0) C hI tyX7 (T := TX7) (N := 18) (ci := 7) (own := RX7) (index := 45) hT7 hown hK (by decide) rfl rfl 0 (by decide) (hts (.fieldLink RX7 45 "TriggerAnalyzerModel" "thrown" "I") (by decide +kernel)) (fun _ h9 => h9) tyX7_ok nmX7 rfl rfl rfl (Nat.le_of_ble_eq_true rfl) (f' := mF ad cI cL cB ((xs u 0 0 (nI 0)))) rfl mF_ne dX7_addAction_2 ?_
  refine z_aload_n C dX7_addAction_5 0 rfl ?_
  refine z_iload_n C dX7_addAction_6 1 rfl ?_
  refine z_callVi mX_ok C hml hown hts hK hX (c_X7_isRule_vh l D ad cI cL cB hI ((xs u 0 0 (nI 0))) n hB.1 ((xs_j (by decide)).trans (mR_n hM.1)) i hi) (cwV 1 hts gX7_addAction_X7_isRule rfl rfl rfl (by decide +kernel) ⟨Nat.le_of_ble_eq_true rfl, Nat.le_of_ble_eq_true rfl⟩) (by decide) (ci := 7) rfl rfl rfl (st := []) rfl (Nat.le_of_ble_eq_true rfl) dX7_addAction_7 ⟨Nat.le_of_ble_eq_true rfl, Nat.le_of_ble_eq_true rfl⟩ (fun r7 u7 h7 => ?_)
  obtain ⟨zr7, zu7⟩ := h7
  subst r7
  subst u7
  refine z_if_eq (tgt := 20) C dX7_addAction_10 (by decide) (fun zc10 => ?_) (fun zc10 => ?_)
  · skip
    have zn10 := z0_t (by omega) zc10
    exact absurd zn10 (by decide)
  · skip
    have zn10 := z0_f zc10
    refine z_iload_n C dX7_addAction_13 2 rfl ?_
    refine z_callSi mX_ok C hml hown hts hK hX (c_X7_isFact_x l D ad cI cL cB hI ((xs u 0 0 (nI 0))) x2 hf) (va_cwS 1 hts gX7_addAction_X7_isFact rfl rfl rfl (by decide +kernel) ⟨Nat.le_of_ble_eq_true rfl, Nat.le_of_ble_eq_true rfl⟩) rfl (st := []) rfl (Nat.le_of_ble_eq_true rfl) dX7_addAction_14 ⟨Nat.le_of_ble_eq_true rfl, Nat.le_of_ble_eq_true rfl⟩ (fun r14 u14 h14 => ?_)
    obtain ⟨zr14, zu14⟩ := h14
    subst r14
    subst u14
    refine z_if_ne (tgt := 26) C dX7_addAction_17 (by decide) (fun zc17 => ?_) (fun zc17 => ?_)
    · skip
      have zn17 := z0_f zc17
      exact absurd zn17 (by decide)
    · skip
      have zn17 := z0_t (by omega) zc17
      refine z_aload_n C dX7_addAction_20 0 rfl ?_
      refine z_iconst (v := nI 1) C (by decide) dX7_addAction_21 ?_
      refine z_callVi mX_ok C hml hown hts hK hX (c_X7_fail l D ad cI cL cB hI ((xs u 0 0 (nI 0))) (nI 1)) (cwV 1 hts gX7_addAction_X7_fail rfl rfl rfl (by decide +kernel) ⟨Nat.le_of_ble_eq_true rfl, Nat.le_of_ble_eq_true rfl⟩) (by decide) (ci := 7) rfl rfl rfl (st := []) rfl (Nat.le_of_ble_eq_true rfl) dX7_addAction_22 ⟨Nat.le_of_ble_eq_true rfl, Nat.le_of_ble_eq_true rfl⟩ (fun r22 u22 h22 => ?_)
      obtain ⟨zr22, zu22⟩ := h22
      subst r22
      subst u22
      exact z_iret C hr hlocks hQ (xs ((xs u 0 0 (nI 0))) 0 0 ((nI 1))) (⟨rfl, xs_s _ _ _ _, mQ_2 hM _ _⟩) (fun _ _ => rfl) dX7_addAction_25

set_option maxHeartbeats 4000000 in
set_option maxRecDepth 100000 in
theorem c_X7_addAction_x3 (l : Launch) (D : va_G) (ad : Nat → Nat) (cI cL cB : ClassId) (hI : gI 12 ad) (u : xS) (n : Nat) (B : Nat → Nat → Nat) (hB : gB n B) (x : Nat) (hx : x < 64 * 2 ^ n) (hM : mI u n B x) (i : Nat) (hi : i < n) (k : Nat) (hk : k < 6) (x3 : Int32) (h4 : 4 ≤ B i 4) : ∀ sz, Met l yX7_addAction wsX7_addAction ({ frames := 1, cells := 0, slots := 0, locals := 21 }) (MP D ad cI cL cB u [.ref (ad 0), .int (nI i), .int (nI k), .int (x3)] sz) (va_Qi (fun r_ u' => r_ = nI 0 ∧ u'.1 0 0 = nI 2 ∧ mQ u' n B x (u.1 0 11)) (MB D ad cI cL cB) (gA 12 ad sz)) 0 0 (gA 12 ad sz) := by
  intro sz
  refine z_met (cc := cX7_addAction) (maxL := 4) (ret := (some .int)) (by decide) rfl (Nat.le_of_ble_eq_true rfl) ?_
  intro pq lq sq mq aq Qq bq hmq cq C hr hml hown hts hlocks hK hX hsz hQ
  subst hsz
  have hT7 : ∀ w ∈ wsX70, w.before aq sq = true := fun w h => hts w ((by decide +kernel : ∀ w ∈ wsX70, w ∈ wsX7_addAction) w h)
  refine z_sub (L' := [(0, .ref (ad 0)), (1, .int (nI i)), (2, .int (nI k)), (3, .int (x3))]) [0, 1, 2, 3] rfl ?_
  have hn8 : n ≤ 8 := hB.1
  have hi8 : i < 8 := Nat.lt_of_lt_of_le hi hB.1
  have g4 : B i 4 ≤ 4 := gB_4 hB hi8
  refine z_aload_n C dX7_addAction_0 0 rfl ?_
  refine z_iconst (v := nI 0) C (by decide) dX7_addAction_1 ?_
  refine z_put (q := 0) C hI tyX7 (T := TX7) (N := 18) (ci := 7) (own := RX7) (index := 45) hT7 hown hK (by decide) rfl rfl 0 (by decide) (hts (.fieldLink RX7 45 "TriggerAnalyzerModel" "thrown" "I") (by decide +kernel)) (fun _ h9 => h9) tyX7_ok nmX7 rfl rfl rfl (Nat.le_of_ble_eq_true rfl) (f' := mF ad cI cL cB ((xs u 0 0 (nI 0)))) rfl mF_ne dX7_addAction_2 ?_
  refine z_aload_n C dX7_addAction_5 0 rfl ?_
  refine z_iload_n C dX7_addAction_6 1 rfl ?_
  refine z_callVi mX_ok C hml hown hts hK hX (c_X7_isRule_vh l D ad cI cL cB hI ((xs u 0 0 (nI 0))) n hB.1 ((xs_j (by decide)).trans (mR_n hM.1)) i hi) (cwV 1 hts gX7_addAction_X7_isRule rfl rfl rfl (by decide +kernel) ⟨Nat.le_of_ble_eq_true rfl, Nat.le_of_ble_eq_true rfl⟩) (by decide) (ci := 7) rfl rfl rfl (st := []) rfl (Nat.le_of_ble_eq_true rfl) dX7_addAction_7 ⟨Nat.le_of_ble_eq_true rfl, Nat.le_of_ble_eq_true rfl⟩ (fun r7 u7 h7 => ?_)
  obtain ⟨zr7, zu7⟩ := h7
  subst r7
  subst u7
  refine z_if_eq (tgt := 20) C dX7_addAction_10 (by decide) (fun zc10 => ?_) (fun zc10 => ?_)
  · skip
    have zn10 := z0_t (by omega) zc10
    exact absurd zn10 (by decide)
  · skip
    have zn10 := z0_f zc10
    refine z_iload_n C dX7_addAction_13 2 rfl ?_
    refine z_callSi mX_ok C hml hown hts hK hX (c_X7_isFact_vh l D ad cI cL cB hI ((xs u 0 0 (nI 0))) k hk) (va_cwS 1 hts gX7_addAction_X7_isFact rfl rfl rfl (by decide +kernel) ⟨Nat.le_of_ble_eq_true rfl, Nat.le_of_ble_eq_true rfl⟩) rfl (st := []) rfl (Nat.le_of_ble_eq_true rfl) dX7_addAction_14 ⟨Nat.le_of_ble_eq_true rfl, Nat.le_of_ble_eq_true rfl⟩ (fun r14 u14 h14 => ?_)
    obtain ⟨zr14, zu14⟩ := h14
    subst r14
    subst u14
    refine z_if_ne (tgt := 26) C dX7_addAction_17 (by decide) (fun zc17 => ?_) (fun zc17 => ?_)
    · skip
      have zn17 := z0_f zc17
      refine z_aload_n C dX7_addAction_26 0 rfl ?_
      refine z_get (q := 0) C (T := TX7) (N := 18) (ci := 7) (own := RX7) (index := 19) (v := .ref (ad 4)) hT7 hown hK (by decide) rfl rfl 5 (by decide) (hts (.fieldLink RX7 19 "TriggerAnalyzerModel" "many" "[I") (by decide +kernel)) (fun _ h9 => h9) rfl dX7_addAction_27 ?_
      refine z_iload_n C dX7_addAction_30 1 rfl ?_
      refine z_iald (q := 4) (len := 8) (k := i) C hK (by decide) rfl 0 rfl (rfl) (by omega) (by decide) dX7_addAction_31 ?_
      refine z_topi (y := u.1 4 i) (xs_c (by decide) _) ?_
      refine z_topi (y := nI (B i 4)) (mR_4 hM.1 (by omega)) ?_
      refine z_iconst (v := nI 4) C (by decide) dX7_addAction_32 ?_
      refine z_icmp_ne (tgt := 42) C dX7_addAction_33 (by decide) (fun zc33 => ?_) (fun zc33 => ?_)
      · skip
        have zn33 := zeq_f (a := B i 4) (b := 4) zc33
        exact False.elim (by omega)
      · skip
        have zn33 := zeq_t (a := B i 4) (b := 4) (by omega) (by omega) zc33
        refine z_aload_n C dX7_addAction_36 0 rfl ?_
        refine z_iconst (v := nI 2) C (by decide) dX7_addAction_37 ?_
        refine z_callVi mX_ok C hml hown hts hK hX (c_X7_fail l D ad cI cL cB hI ((xs u 0 0 (nI 0))) (nI 2)) (cwV 1 hts gX7_addAction_X7_fail rfl rfl rfl (by decide +kernel) ⟨Nat.le_of_ble_eq_true rfl, Nat.le_of_ble_eq_true rfl⟩) (by decide) (ci := 7) rfl rfl rfl (st := []) rfl (Nat.le_of_ble_eq_true rfl) dX7_addAction_38 ⟨Nat.le_of_ble_eq_true rfl, Nat.le_of_ble_eq_true rfl⟩ (fun r38 u38 h38 => ?_)
        obtain ⟨zr38, zu38⟩ := h38
        subst r38
        subst u38
        exact z_iret C hr hlocks hQ (xs ((xs u 0 0 (nI 0))) 0 0 ((nI 2))) (⟨rfl, xs_s _ _ _ _, mQ_2 hM _ _⟩) (fun _ _ => rfl) dX7_addAction_41
    · skip
      have zn17 := z0_t (by omega) zc17
      exact absurd zn17 (by decide)

set_option maxHeartbeats 4000000 in
set_option maxRecDepth 100000 in
theorem c_X7_turn_v1 (l : Launch) (D : va_G) (ad : Nat → Nat) (cI cL cB : ClassId) (hI : gI 12 ad) (u : xS) (n : Nat) (B : Nat → Nat → Nat) (hB : gB n B) (x : Nat) (hx : x < 64 * 2 ^ n) (hM : mI u n B x) (i : Nat) (hi : i < n) : ∀ sz, Met l yX7_turn wsX7_turn ({ frames := 1, cells := 0, slots := 0, locals := 21 }) (MP D ad cI cL cB u [.ref (ad 0), .int (nI i), .int (nI 1)] sz) (va_Qi (fun r_ u' => r_ = nI (B i 3) ∧ u'.1 0 0 = nI 0 ∧ mQ u' n (swB B i 1) x 0) (MB D ad cI cL cB) (gA 12 ad sz)) 0 0 (gA 12 ad sz) := by
  intro sz
  refine z_met (cc := cX7_turn) (maxL := 4) (ret := (some .boolean)) (by decide) rfl (Nat.le_of_ble_eq_true rfl) ?_
  intro pq lq sq mq aq Qq bq hmq cq C hr hml hown hts hlocks hK hX hsz hQ
  subst hsz
  have hT7 : ∀ w ∈ wsX70, w.before aq sq = true := fun w h => hts w ((by decide +kernel : ∀ w ∈ wsX70, w ∈ wsX7_turn) w h)
  refine z_sub (L' := [(0, .ref (ad 0)), (1, .int (nI i)), (2, .int (nI 1))]) [0, 1, 2] rfl ?_
  have hn8 : n ≤ 8 := hB.1
  have hi8 : i < 8 := Nat.lt_of_lt_of_le hi hB.1
  have g3 : B i 3 ≤ 1 := gB_3 hB hi8
  have hp2 : 2 ^ n ≤ 256 := pn8 hn8
  refine z_aload_n C dX7_turn_0 0 rfl ?_
  refine z_aload_n C dX7_turn_1 0 rfl ?_
  refine z_iload_n C dX7_turn_2 1 rfl ?_
  refine z_callVi mX_ok C hml hown hts hK hX (c_X7_isRule_vh l D ad cI cL cB hI u n hB.1 (mR_n hM.1) i hi) (cwV 1 hts gX7_turn_X7_isRule rfl rfl rfl (by decide +kernel) ⟨Nat.le_of_ble_eq_true rfl, Nat.le_of_ble_eq_true rfl⟩) (by decide) (ci := 7) rfl rfl rfl (st := [.ref (ad 0)]) rfl (Nat.le_of_ble_eq_true rfl) dX7_turn_3 ⟨Nat.le_of_ble_eq_true rfl, Nat.le_of_ble_eq_true rfl⟩ (fun r3 u3 h3 => ?_)
  obtain ⟨zr3, zu3⟩ := h3
  subst r3
  subst u3
  refine z_if_eq (tgt := 13) C dX7_turn_6 (by decide) (fun zc6 => ?_) (fun zc6 => ?_)
  · skip
    have zn6 := z0_t (by omega) zc6
    exact absurd zn6 (by decide)
  · skip
    have zn6 := z0_f zc6
    refine z_iconst (v := nI 0) C (by decide) dX7_turn_9 ?_
    refine z_goto (tgt := 14) C dX7_turn_10 (by decide) ?_
    refine z_put (q := 0) C hI tyX7 (T := TX7) (N := 18) (ci := 7) (own := RX7) (index := 45) hT7 hown hK (by decide) rfl rfl 0 (by decide) (hts (.fieldLink RX7 45 "TriggerAnalyzerModel" "thrown" "I") (by decide +kernel)) (fun _ h9 => h9) tyX7_ok nmX7 rfl rfl rfl (Nat.le_of_ble_eq_true rfl) (f' := mF ad cI cL cB ((xs u 0 0 (nI 0)))) rfl mF_ne dX7_turn_14 ?_
    refine z_aload_n C dX7_turn_17 0 rfl ?_
    refine z_get (q := 0) C (T := TX7) (N := 18) (ci := 7) (own := RX7) (index := 45) (v := .int ((xs u 0 0 (nI 0)).1 0 0)) hT7 hown hK (by decide) rfl rfl 0 (by decide) (hts (.fieldLink RX7 45 "TriggerAnalyzerModel" "thrown" "I") (by decide +kernel)) (fun _ h9 => h9) rfl dX7_turn_18 ?_
    refine z_topi (y := nI 0) (xs_s _ _ _ _) ?_
    refine z_if_eq (tgt := 26) C dX7_turn_21 (by decide) (fun zc21 => ?_) (fun zc21 => ?_)
    · skip
      have zn21 := z0_t (by omega) zc21
      refine z_aload_n C dX7_turn_26 0 rfl ?_
      refine z_get (q := 0) C (T := TX7) (N := 18) (ci := 7) (own := RX7) (index := 25) (v := .ref (ad 6)) hT7 hown hK (by decide) rfl rfl 7 (by decide) (hts (.fieldLink RX7 25 "TriggerAnalyzerModel" "areOn" "[Z") (by decide +kernel)) (fun _ h9 => h9) rfl dX7_turn_27 ?_
      refine z_iload_n C dX7_turn_30 1 rfl ?_
      refine z_za (q := 6) (len := 8) (k := i) C hK (by decide) rfl 2 rfl (rfl) (by omega) (by decide) dX7_turn_31 ?_
      refine z_topi (y := u.1 6 i) (xs_c (by decide) _) ?_
      refine z_topi (y := nI (B i 3)) (mR_3 hM.1 (by omega)) ?_
      refine z_istore_n (L' := [(3, .int (nI (B i 3))), (0, .ref (ad 0)), (1, .int (nI i)), (2, .int (nI 1))]) C dX7_turn_32 (by decide) rfl ?_
      refine z_aload_n C dX7_turn_33 1 rfl ?_
      refine z_get (q := 0) C (T := TX7) (N := 18) (ci := 7) (own := RX7) (index := 25) (v := .ref (ad 6)) hT7 hown hK (by decide) rfl rfl 7 (by decide) (hts (.fieldLink RX7 25 "TriggerAnalyzerModel" "areOn" "[Z") (by decide +kernel)) (fun _ h9 => h9) rfl dX7_turn_34 ?_
      refine z_iload_n C dX7_turn_37 2 rfl ?_
      refine z_iload_n C dX7_turn_38 3 rfl ?_
      refine z_zast (q := 6) (len := 8) (k := i) C hI hK (by decide) rfl 2 rfl (rfl) (by omega) (by decide) (rfl) (f' := mF ad cI cL cB ((xs ((xs u 0 0 (nI 0))) 6 i (nI 1)))) rfl mF_ne dX7_turn_39 ?_
      refine z_iload_n C dX7_turn_40 3 rfl ?_
      refine z_if_ne (tgt := 58) C dX7_turn_41 (by decide) (fun zc41 => ?_) (fun zc41 => ?_)
      · skip
        have zn41 := z0_f zc41
        refine z_aload_n C dX7_turn_58 1 rfl ?_
        refine z_iconst (v := nI 0) C (by decide) dX7_turn_59 ?_
        refine z_put (q := 0) C hI tyX7 (T := TX7) (N := 18) (ci := 7) (own := RX7) (index := 67) hT7 hown hK (by decide) rfl rfl 11 (by decide) (hts (.fieldLink RX7 67 "TriggerAnalyzerModel" "isExplored" "Z") (by decide +kernel)) (fun _ h9 => h9) tyX7_ok nmX7 rfl rfl rfl (Nat.le_of_ble_eq_true rfl) (f' := mF ad cI cL cB ((xs ((xs ((xs u 0 0 (nI 0))) 6 i (nI 1))) 0 11 (nI 0)))) rfl mF_ne dX7_turn_60 ?_
        refine z_iload_n C dX7_turn_63 0 rfl ?_
        exact z_zret C hr hlocks (zn_bool g3) hQ ((xs ((xs ((xs u 0 0 (nI 0))) 6 i (nI 1))) 0 11 (nI 0))) (⟨rfl, by simp [xs_at], mQ_of (mR_s (mR_sw (mR_s hM.1 (Or.inl ⟨rfl, by decide⟩)) i 1) (Or.inl ⟨rfl, by decide⟩)) ((show (xs ((xs ((xs u 0 0 (nI 0))) 6 i (nI 1))) 0 11 (nI 0)).1 0 9 = u.1 0 9 by simp [xs_at]).trans hM.2.1) ((show (xs ((xs ((xs u 0 0 (nI 0))) 6 i (nI 1))) 0 11 (nI 0)).1 0 10 = u.1 0 10 by simp [xs_at]).trans hM.2.2.1) ((xs_s _ _ _ _).trans rfl)⟩) (fun _ _ => rfl) dX7_turn_64
      · skip
        have zn41 := z0_t (by omega) zc41
        exact absurd zn41 (by decide)
    · skip
      have zn21 := z0_f zc21
      exact absurd zn21 (by decide)

set_option maxHeartbeats 4000000 in
set_option maxRecDepth 100000 in
theorem c_X7_turn_v0 (l : Launch) (D : va_G) (ad : Nat → Nat) (cI cL cB : ClassId) (hI : gI 12 ad) (u : xS) (n : Nat) (B : Nat → Nat → Nat) (hB : gB n B) (x : Nat) (hx : x < 64 * 2 ^ n) (hM : mI u n B x) (i : Nat) (hi : i < n) : ∀ sz, Met l yX7_turn wsX7_turn ({ frames := 1, cells := 0, slots := 0, locals := 21 }) (MP D ad cI cL cB u [.ref (ad 0), .int (nI i), .int (nI 0)] sz) (va_Qi (fun r_ u' => r_ = nI (B i 3) ∧ u'.1 0 0 = nI 0 ∧ mQ u' n (swB B i 0) ((64 * clr (x / 64) i + x % 64)) 0) (MB D ad cI cL cB) (gA 12 ad sz)) 0 0 (gA 12 ad sz) := by
  intro sz
  refine z_met (cc := cX7_turn) (maxL := 4) (ret := (some .boolean)) (by decide) rfl (Nat.le_of_ble_eq_true rfl) ?_
  intro pq lq sq mq aq Qq bq hmq cq C hr hml hown hts hlocks hK hX hsz hQ
  subst hsz
  have hT7 : ∀ w ∈ wsX70, w.before aq sq = true := fun w h => hts w ((by decide +kernel : ∀ w ∈ wsX70, w ∈ wsX7_turn) w h)
  refine z_sub (L' := [(0, .ref (ad 0)), (1, .int (nI i)), (2, .int (nI 0))]) [0, 1, 2] rfl ?_
  have hn8 : n ≤ 8 := hB.1
  have hi8 : i < 8 := Nat.lt_of_lt_of_le hi hB.1
  have g3 : B i 3 ≤ 1 := gB_3 hB hi8
  have hp2 : 2 ^ n ≤ 256 := pn8 hn8
  refine z_aload_n C dX7_turn_0 0 rfl ?_
  refine z_aload_n C dX7_turn_1 0 rfl ?_
  refine z_iload_n C dX7_turn_2 1 rfl ?_
  refine z_callVi mX_ok C hml hown hts hK hX (c_X7_isRule_vh l D ad cI cL cB hI u n hB.1 (mR_n hM.1) i hi) (cwV 1 hts gX7_turn_X7_isRule rfl rfl rfl (by decide +kernel) ⟨Nat.le_of_ble_eq_true rfl, Nat.le_of_ble_eq_true rfl⟩) (by decide) (ci := 7) rfl rfl rfl (st := [.ref (ad 0)]) rfl (Nat.le_of_ble_eq_true rfl) dX7_turn_3 ⟨Nat.le_of_ble_eq_true rfl, Nat.le_of_ble_eq_true rfl⟩ (fun r3 u3 h3 => ?_)
  obtain ⟨zr3, zu3⟩ := h3
  subst r3
  subst u3
  refine z_if_eq (tgt := 13) C dX7_turn_6 (by decide) (fun zc6 => ?_) (fun zc6 => ?_)
  · skip
    have zn6 := z0_t (by omega) zc6
    exact absurd zn6 (by decide)
  · skip
    have zn6 := z0_f zc6
    refine z_iconst (v := nI 0) C (by decide) dX7_turn_9 ?_
    refine z_goto (tgt := 14) C dX7_turn_10 (by decide) ?_
    refine z_put (q := 0) C hI tyX7 (T := TX7) (N := 18) (ci := 7) (own := RX7) (index := 45) hT7 hown hK (by decide) rfl rfl 0 (by decide) (hts (.fieldLink RX7 45 "TriggerAnalyzerModel" "thrown" "I") (by decide +kernel)) (fun _ h9 => h9) tyX7_ok nmX7 rfl rfl rfl (Nat.le_of_ble_eq_true rfl) (f' := mF ad cI cL cB ((xs u 0 0 (nI 0)))) rfl mF_ne dX7_turn_14 ?_
    refine z_aload_n C dX7_turn_17 0 rfl ?_
    refine z_get (q := 0) C (T := TX7) (N := 18) (ci := 7) (own := RX7) (index := 45) (v := .int ((xs u 0 0 (nI 0)).1 0 0)) hT7 hown hK (by decide) rfl rfl 0 (by decide) (hts (.fieldLink RX7 45 "TriggerAnalyzerModel" "thrown" "I") (by decide +kernel)) (fun _ h9 => h9) rfl dX7_turn_18 ?_
    refine z_topi (y := nI 0) (xs_s _ _ _ _) ?_
    refine z_if_eq (tgt := 26) C dX7_turn_21 (by decide) (fun zc21 => ?_) (fun zc21 => ?_)
    · skip
      have zn21 := z0_t (by omega) zc21
      refine z_aload_n C dX7_turn_26 0 rfl ?_
      refine z_get (q := 0) C (T := TX7) (N := 18) (ci := 7) (own := RX7) (index := 25) (v := .ref (ad 6)) hT7 hown hK (by decide) rfl rfl 7 (by decide) (hts (.fieldLink RX7 25 "TriggerAnalyzerModel" "areOn" "[Z") (by decide +kernel)) (fun _ h9 => h9) rfl dX7_turn_27 ?_
      refine z_iload_n C dX7_turn_30 1 rfl ?_
      refine z_za (q := 6) (len := 8) (k := i) C hK (by decide) rfl 2 rfl (rfl) (by omega) (by decide) dX7_turn_31 ?_
      refine z_topi (y := u.1 6 i) (xs_c (by decide) _) ?_
      refine z_topi (y := nI (B i 3)) (mR_3 hM.1 (by omega)) ?_
      refine z_istore_n (L' := [(3, .int (nI (B i 3))), (0, .ref (ad 0)), (1, .int (nI i)), (2, .int (nI 0))]) C dX7_turn_32 (by decide) rfl ?_
      refine z_aload_n C dX7_turn_33 1 rfl ?_
      refine z_get (q := 0) C (T := TX7) (N := 18) (ci := 7) (own := RX7) (index := 25) (v := .ref (ad 6)) hT7 hown hK (by decide) rfl rfl 7 (by decide) (hts (.fieldLink RX7 25 "TriggerAnalyzerModel" "areOn" "[Z") (by decide +kernel)) (fun _ h9 => h9) rfl dX7_turn_34 ?_
      refine z_iload_n C dX7_turn_37 2 rfl ?_
      refine z_iload_n C dX7_turn_38 3 rfl ?_
      refine z_zast (q := 6) (len := 8) (k := i) C hI hK (by decide) rfl 2 rfl (rfl) (by omega) (by decide) (rfl) (f' := mF ad cI cL cB ((xs ((xs u 0 0 (nI 0))) 6 i (nI 0)))) rfl mF_ne dX7_turn_39 ?_
      refine z_iload_n C dX7_turn_40 3 rfl ?_
      refine z_if_ne (tgt := 58) C dX7_turn_41 (by decide) (fun zc41 => ?_) (fun zc41 => ?_)
      · skip
        have zn41 := z0_f zc41
        exact absurd zn41 (by decide)
      · skip
        have zn41 := z0_t (by omega) zc41
        refine z_aload_n C dX7_turn_44 1 rfl ?_
        refine z_dup C rfl dX7_turn_45 ?_
        refine z_get (q := 0) C (T := TX7) (N := 18) (ci := 7) (own := RX7) (index := 74) (v := .int ((xs ((xs u 0 0 (nI 0))) 6 i (nI 0)).1 0 10)) hT7 hown hK (by decide) rfl rfl 10 (by decide) (hts (.fieldLink RX7 74 "TriggerAnalyzerModel" "triggered" "I") (by decide +kernel)) (fun _ h9 => h9) rfl dX7_turn_46 ?_
        refine z_topi (y := u.1 0 10) ((xs_c (by decide) _).trans (xs_j (by decide))) ?_
        refine z_topi (y := nI (x / 64)) (hM.2.2.1) ?_
        refine z_iconst (v := nI 1) C (by decide) dX7_turn_49 ?_
        refine z_iload_n C dX7_turn_50 2 rfl ?_
        refine z_ishl C dX7_turn_51 ?_
        refine z_topi (y := nI (2 ^ i)) (zi_shl1 (by omega)) ?_
        refine z_iconst (v := (-1)) C (by decide) dX7_turn_52 ?_
        refine z_ixor C dX7_turn_53 ?_
        refine z_iand C dX7_turn_54 ?_
        refine z_topi (y := nI (clr (x / 64) i)) (zi_clr (by omega) hi8) ?_
        refine z_put (q := 0) C hI tyX7 (T := TX7) (N := 18) (ci := 7) (own := RX7) (index := 74) hT7 hown hK (by decide) rfl rfl 10 (by decide) (hts (.fieldLink RX7 74 "TriggerAnalyzerModel" "triggered" "I") (by decide +kernel)) (fun _ h9 => h9) tyX7_ok nmX7 rfl rfl rfl (Nat.le_of_ble_eq_true rfl) (f' := mF ad cI cL cB ((xs ((xs ((xs u 0 0 (nI 0))) 6 i (nI 0))) 0 10 (nI (clr (x / 64) i))))) rfl mF_ne dX7_turn_55 ?_
        refine z_aload_n C dX7_turn_58 1 rfl ?_
        refine z_iconst (v := nI 0) C (by decide) dX7_turn_59 ?_
        refine z_put (q := 0) C hI tyX7 (T := TX7) (N := 18) (ci := 7) (own := RX7) (index := 67) hT7 hown hK (by decide) rfl rfl 11 (by decide) (hts (.fieldLink RX7 67 "TriggerAnalyzerModel" "isExplored" "Z") (by decide +kernel)) (fun _ h9 => h9) tyX7_ok nmX7 rfl rfl rfl (Nat.le_of_ble_eq_true rfl) (f' := mF ad cI cL cB ((xs ((xs ((xs ((xs u 0 0 (nI 0))) 6 i (nI 0))) 0 10 (nI (clr (x / 64) i)))) 0 11 (nI 0)))) rfl mF_ne dX7_turn_60 ?_
        refine z_iload_n C dX7_turn_63 0 rfl ?_
        exact z_zret C hr hlocks (zn_bool g3) hQ ((xs ((xs ((xs ((xs u 0 0 (nI 0))) 6 i (nI 0))) 0 10 (nI (clr (x / 64) i)))) 0 11 (nI 0))) (⟨rfl, by simp [xs_at], mQ_of (mR_s (mR_s (mR_sw (mR_s hM.1 (Or.inl ⟨rfl, by decide⟩)) i 0) (Or.inl ⟨rfl, by decide⟩)) (Or.inl ⟨rfl, by decide⟩)) (by rw [show (64 * clr (x / 64) i + x % 64) % 64 = x % 64 by omega]; exact (show (xs ((xs ((xs ((xs u 0 0 (nI 0))) 6 i (nI 0))) 0 10 (nI (clr (x / 64) i)))) 0 11 (nI 0)).1 0 9 = u.1 0 9 by simp [xs_at]).trans hM.2.1) (by rw [show (64 * clr (x / 64) i + x % 64) / 64 = clr (x / 64) i by omega]; simp [xs_at]) ((xs_s _ _ _ _).trans rfl)⟩) (fun _ _ => rfl) dX7_turn_64
    · skip
      have zn21 := z0_f zc21
      exact absurd zn21 (by decide)

set_option maxHeartbeats 4000000 in
set_option maxRecDepth 100000 in
theorem c_X7_turn_x1 (l : Launch) (D : va_G) (ad : Nat → Nat) (cI cL cB : ClassId) (hI : gI 12 ad) (u : xS) (n : Nat) (B : Nat → Nat → Nat) (hB : gB n B) (x : Nat) (hx : x < 64 * 2 ^ n) (hM : mI u n B x) (x1 : Int32) (hf : bad n x1) (x2 : Int32) : ∀ sz, Met l yX7_turn wsX7_turn ({ frames := 1, cells := 0, slots := 0, locals := 21 }) (MP D ad cI cL cB u [.ref (ad 0), .int (x1), .int (x2)] sz) (va_Qi (fun r_ u' => r_ = nI 0 ∧ u'.1 0 0 = nI 1 ∧ mQ u' n B x (u.1 0 11)) (MB D ad cI cL cB) (gA 12 ad sz)) 0 0 (gA 12 ad sz) := by
  intro sz
  refine z_met (cc := cX7_turn) (maxL := 4) (ret := (some .boolean)) (by decide) rfl (Nat.le_of_ble_eq_true rfl) ?_
  intro pq lq sq mq aq Qq bq hmq cq C hr hml hown hts hlocks hK hX hsz hQ
  subst hsz
  have hT7 : ∀ w ∈ wsX70, w.before aq sq = true := fun w h => hts w ((by decide +kernel : ∀ w ∈ wsX70, w ∈ wsX7_turn) w h)
  refine z_sub (L' := [(0, .ref (ad 0)), (1, .int (x1)), (2, .int (x2))]) [0, 1, 2] rfl ?_
  refine z_aload_n C dX7_turn_0 0 rfl ?_
  refine z_aload_n C dX7_turn_1 0 rfl ?_
  refine z_iload_n C dX7_turn_2 1 rfl ?_
  refine z_callVi mX_ok C hml hown hts hK hX (c_X7_isRule_x l D ad cI cL cB hI u n hB.1 (mR_n hM.1) x1 hf) (cwV 1 hts gX7_turn_X7_isRule rfl rfl rfl (by decide +kernel) ⟨Nat.le_of_ble_eq_true rfl, Nat.le_of_ble_eq_true rfl⟩) (by decide) (ci := 7) rfl rfl rfl (st := [.ref (ad 0)]) rfl (Nat.le_of_ble_eq_true rfl) dX7_turn_3 ⟨Nat.le_of_ble_eq_true rfl, Nat.le_of_ble_eq_true rfl⟩ (fun r3 u3 h3 => ?_)
  obtain ⟨zr3, zu3⟩ := h3
  subst r3
  subst u3
  refine z_if_eq (tgt := 13) C dX7_turn_6 (by decide) (fun zc6 => ?_) (fun zc6 => ?_)
  · skip
    have zn6 := z0_t (by omega) zc6
    refine z_iconst (v := nI 1) C (by decide) dX7_turn_13 ?_
    refine z_put (q := 0) C hI tyX7 (T := TX7) (N := 18) (ci := 7) (own := RX7) (index := 45) hT7 hown hK (by decide) rfl rfl 0 (by decide) (hts (.fieldLink RX7 45 "TriggerAnalyzerModel" "thrown" "I") (by decide +kernel)) (fun _ h9 => h9) tyX7_ok nmX7 rfl rfl rfl (Nat.le_of_ble_eq_true rfl) (f' := mF ad cI cL cB ((xs u 0 0 (nI 1)))) rfl mF_ne dX7_turn_14 ?_
    refine z_aload_n C dX7_turn_17 0 rfl ?_
    refine z_get (q := 0) C (T := TX7) (N := 18) (ci := 7) (own := RX7) (index := 45) (v := .int ((xs u 0 0 (nI 1)).1 0 0)) hT7 hown hK (by decide) rfl rfl 0 (by decide) (hts (.fieldLink RX7 45 "TriggerAnalyzerModel" "thrown" "I") (by decide +kernel)) (fun _ h9 => h9) rfl dX7_turn_18 ?_
    refine z_topi (y := nI 1) (xs_s _ _ _ _) ?_
    refine z_if_eq (tgt := 26) C dX7_turn_21 (by decide) (fun zc21 => ?_) (fun zc21 => ?_)
    · skip
      have zn21 := z0_t (by omega) zc21
      exact absurd zn21 (by decide)
    · skip
      have zn21 := z0_f zc21
      refine z_iconst (v := nI 0) C (by decide) dX7_turn_24 ?_
      exact z_zret C hr hlocks rfl hQ ((xs u 0 0 (nI 1))) (⟨rfl, xs_s _ _ _ _, mQ_1 hM _⟩) (fun _ _ => rfl) dX7_turn_25
  · skip
    have zn6 := z0_f zc6
    exact absurd zn6 (by decide)

set_option maxHeartbeats 4000000 in
set_option maxRecDepth 100000 in
theorem c_X7_isAbove (l : Launch) (D : va_G) (ad : Nat → Nat) (cI cL cB : ClassId) (hI : gI 12 ad) (u : xS) (n : Nat) (B : Nat → Nat → Nat) (hB : gB n B) (x : Nat) (hx : x < 64 * 2 ^ n) (hM : mI u n B x) (i : Nat) (hi : i < n) (j : Nat) (hj : j < n) : ∀ sz, Met l yX7_isAbove wsX7_isAbove ({ frames := 1, cells := 0, slots := 0, locals := 21 }) (MP D ad cI cL cB u [.ref (ad 0), .int (nI i), .int (nI j)] sz) (va_Qi (fun r_ u' => r_ = (if (B i 5).testBit j = true then 1 else 0) ∧ u'.1 0 0 = nI 0 ∧ mQ u' n B x (u.1 0 11)) (MB D ad cI cL cB) (gA 12 ad sz)) 0 0 (gA 12 ad sz) := by
  intro sz
  refine z_met (cc := cX7_isAbove) (maxL := 3) (ret := (some .boolean)) (by decide) rfl (Nat.le_of_ble_eq_true rfl) ?_
  intro pq lq sq mq aq Qq bq hmq cq C hr hml hown hts hlocks hK hX hsz hQ
  subst hsz
  have hT7 : ∀ w ∈ wsX70, w.before aq sq = true := fun w h => hts w ((by decide +kernel : ∀ w ∈ wsX70, w ∈ wsX7_isAbove) w h)
  refine z_sub (L' := [(0, .ref (ad 0)), (1, .int (nI i)), (2, .int (nI j))]) [0, 1, 2] rfl ?_
  have hn8 : n ≤ 8 := hB.1
  have hi8 : i < 8 := Nat.lt_of_lt_of_le hi hB.1
  have hj8 : j < 8 := Nat.lt_of_lt_of_le hj hB.1
  have gi : B i 5 < 256 := gB_5 hB hi8
  have gj : B j 5 < 256 := gB_5 hB hj8
  refine z_aload_n C dX7_isAbove_0 0 rfl ?_
  refine z_aload_n C dX7_isAbove_1 0 rfl ?_
  refine z_iload_n C dX7_isAbove_2 1 rfl ?_
  refine z_callVi mX_ok C hml hown hts hK hX (c_X7_isRule_vh l D ad cI cL cB hI u n hB.1 (mR_n hM.1) i hi) (cwV 1 hts gX7_isAbove_X7_isRule rfl rfl rfl (by decide +kernel) ⟨Nat.le_of_ble_eq_true rfl, Nat.le_of_ble_eq_true rfl⟩) (by decide) (ci := 7) rfl rfl rfl (st := [.ref (ad 0)]) rfl (Nat.le_of_ble_eq_true rfl) dX7_isAbove_3 ⟨Nat.le_of_ble_eq_true rfl, Nat.le_of_ble_eq_true rfl⟩ (fun r3 u3 h3 => ?_)
  obtain ⟨zr3, zu3⟩ := h3
  subst r3
  subst u3
  refine z_if_eq (tgt := 21) C dX7_isAbove_6 (by decide) (fun zc6 => ?_) (fun zc6 => ?_)
  · skip
    have zn6 := z0_t (by omega) zc6
    exact absurd zn6 (by decide)
  · skip
    have zn6 := z0_f zc6
    refine z_aload_n C dX7_isAbove_9 0 rfl ?_
    refine z_iload_n C dX7_isAbove_10 2 rfl ?_
    refine z_callVi mX_ok C hml hown hts hK hX (c_X7_isRule_vh l D ad cI cL cB hI u n hB.1 (mR_n hM.1) j hj) (cwV 1 hts gX7_isAbove_X7_isRule rfl rfl rfl (by decide +kernel) ⟨Nat.le_of_ble_eq_true rfl, Nat.le_of_ble_eq_true rfl⟩) (by decide) (ci := 7) rfl rfl rfl (st := [.ref (ad 0)]) rfl (Nat.le_of_ble_eq_true rfl) dX7_isAbove_11 ⟨Nat.le_of_ble_eq_true rfl, Nat.le_of_ble_eq_true rfl⟩ (fun r11 u11 h11 => ?_)
    obtain ⟨zr11, zu11⟩ := h11
    subst r11
    subst u11
    refine z_if_eq (tgt := 21) C dX7_isAbove_14 (by decide) (fun zc14 => ?_) (fun zc14 => ?_)
    · skip
      have zn14 := z0_t (by omega) zc14
      exact absurd zn14 (by decide)
    · skip
      have zn14 := z0_f zc14
      refine z_iconst (v := nI 0) C (by decide) dX7_isAbove_17 ?_
      refine z_goto (tgt := 22) C dX7_isAbove_18 (by decide) ?_
      refine z_put (q := 0) C hI tyX7 (T := TX7) (N := 18) (ci := 7) (own := RX7) (index := 45) hT7 hown hK (by decide) rfl rfl 0 (by decide) (hts (.fieldLink RX7 45 "TriggerAnalyzerModel" "thrown" "I") (by decide +kernel)) (fun _ h9 => h9) tyX7_ok nmX7 rfl rfl rfl (Nat.le_of_ble_eq_true rfl) (f' := mF ad cI cL cB ((xs u 0 0 (nI 0)))) rfl mF_ne dX7_isAbove_22 ?_
      refine z_aload_n C dX7_isAbove_25 0 rfl ?_
      refine z_get (q := 0) C (T := TX7) (N := 18) (ci := 7) (own := RX7) (index := 45) (v := .int ((xs u 0 0 (nI 0)).1 0 0)) hT7 hown hK (by decide) rfl rfl 0 (by decide) (hts (.fieldLink RX7 45 "TriggerAnalyzerModel" "thrown" "I") (by decide +kernel)) (fun _ h9 => h9) rfl dX7_isAbove_26 ?_
      refine z_topi (y := nI 0) (xs_s _ _ _ _) ?_
      refine z_if_ne (tgt := 49) C dX7_isAbove_29 (by decide) (fun zc29 => ?_) (fun zc29 => ?_)
      · skip
        have zn29 := z0_f zc29
        exact absurd zn29 (by decide)
      · skip
        have zn29 := z0_t (by omega) zc29
        refine z_aload_n C dX7_isAbove_32 0 rfl ?_
        refine z_get (q := 0) C (T := TX7) (N := 18) (ci := 7) (own := RX7) (index := 29) (v := .ref (ad 7)) hT7 hown hK (by decide) rfl rfl 8 (by decide) (hts (.fieldLink RX7 29 "TriggerAnalyzerModel" "below" "[I") (by decide +kernel)) (fun _ h9 => h9) rfl dX7_isAbove_33 ?_
        refine z_iload_n C dX7_isAbove_36 1 rfl ?_
        refine z_iald (q := 7) (len := 8) (k := i) C hK (by decide) rfl 0 rfl (rfl) (by omega) (by decide) dX7_isAbove_37 ?_
        refine z_topi (y := u.1 7 i) (xs_c (by decide) _) ?_
        refine z_topi (y := nI (B i 5)) (mR_5 hM.1 (by omega)) ?_
        refine z_iload_n C dX7_isAbove_38 2 rfl ?_
        refine z_callSi mX_ok C hml hown hts hK hX (c_X7_has l D ad cI cL cB hI ((xs u 0 0 (nI 0))) (B i 5) (by omega) j (by omega)) (va_cwS 2 hts gX7_isAbove_X7_has rfl rfl rfl (by decide +kernel) ⟨Nat.le_of_ble_eq_true rfl, Nat.le_of_ble_eq_true rfl⟩) rfl (st := []) rfl (Nat.le_of_ble_eq_true rfl) dX7_isAbove_39 ⟨Nat.le_of_ble_eq_true rfl, Nat.le_of_ble_eq_true rfl⟩ (fun r39 u39 h39 => ?_)
        obtain ⟨zr39, zu39⟩ := h39
        subst r39
        subst u39
        refine z_if_eq (tgt := 49) C dX7_isAbove_42 (by decide) (fun zc42 => ?_) (fun zc42 => ?_)
        · skip
          have h42 := z1f zc42
          refine z_iconst (v := nI 0) C (by decide) dX7_isAbove_49 ?_
          exact z_zret C hr hlocks rfl hQ ((xs u 0 0 (nI 0))) (⟨(if_neg h42).symm, xs_s _ _ _ _, mQ_1 hM _⟩) (fun _ _ => rfl) dX7_isAbove_50
        · skip
          have h42 := z1t zc42
          refine z_iconst (v := nI 1) C (by decide) dX7_isAbove_45 ?_
          refine z_goto (tgt := 50) C dX7_isAbove_46 (by decide) ?_
          exact z_zret C hr hlocks rfl hQ ((xs u 0 0 (nI 0))) (⟨(if_pos h42).symm, xs_s _ _ _ _, mQ_1 hM _⟩) (fun _ _ => rfl) dX7_isAbove_50

set_option maxHeartbeats 4000000 in
set_option maxRecDepth 100000 in
theorem c_X7_isAbove_x1 (l : Launch) (D : va_G) (ad : Nat → Nat) (cI cL cB : ClassId) (hI : gI 12 ad) (u : xS) (n : Nat) (B : Nat → Nat → Nat) (hB : gB n B) (x : Nat) (hx : x < 64 * 2 ^ n) (hM : mI u n B x) (x1 : Int32) (hf : bad n x1) (x2 : Int32) : ∀ sz, Met l yX7_isAbove wsX7_isAbove ({ frames := 1, cells := 0, slots := 0, locals := 21 }) (MP D ad cI cL cB u [.ref (ad 0), .int (x1), .int (x2)] sz) (va_Qi (fun r_ u' => r_ = nI 0 ∧ u'.1 0 0 = nI 1 ∧ mQ u' n B x (u.1 0 11)) (MB D ad cI cL cB) (gA 12 ad sz)) 0 0 (gA 12 ad sz) := by
  intro sz
  refine z_met (cc := cX7_isAbove) (maxL := 3) (ret := (some .boolean)) (by decide) rfl (Nat.le_of_ble_eq_true rfl) ?_
  intro pq lq sq mq aq Qq bq hmq cq C hr hml hown hts hlocks hK hX hsz hQ
  subst hsz
  have hT7 : ∀ w ∈ wsX70, w.before aq sq = true := fun w h => hts w ((by decide +kernel : ∀ w ∈ wsX70, w ∈ wsX7_isAbove) w h)
  refine z_sub (L' := [(0, .ref (ad 0)), (1, .int (x1)), (2, .int (x2))]) [0, 1, 2] rfl ?_
  refine z_aload_n C dX7_isAbove_0 0 rfl ?_
  refine z_aload_n C dX7_isAbove_1 0 rfl ?_
  refine z_iload_n C dX7_isAbove_2 1 rfl ?_
  refine z_callVi mX_ok C hml hown hts hK hX (c_X7_isRule_x l D ad cI cL cB hI u n hB.1 (mR_n hM.1) x1 hf) (cwV 1 hts gX7_isAbove_X7_isRule rfl rfl rfl (by decide +kernel) ⟨Nat.le_of_ble_eq_true rfl, Nat.le_of_ble_eq_true rfl⟩) (by decide) (ci := 7) rfl rfl rfl (st := [.ref (ad 0)]) rfl (Nat.le_of_ble_eq_true rfl) dX7_isAbove_3 ⟨Nat.le_of_ble_eq_true rfl, Nat.le_of_ble_eq_true rfl⟩ (fun r3 u3 h3 => ?_)
  obtain ⟨zr3, zu3⟩ := h3
  subst r3
  subst u3
  refine z_if_eq (tgt := 21) C dX7_isAbove_6 (by decide) (fun zc6 => ?_) (fun zc6 => ?_)
  · skip
    have zn6 := z0_t (by omega) zc6
    refine z_iconst (v := nI 1) C (by decide) dX7_isAbove_21 ?_
    refine z_put (q := 0) C hI tyX7 (T := TX7) (N := 18) (ci := 7) (own := RX7) (index := 45) hT7 hown hK (by decide) rfl rfl 0 (by decide) (hts (.fieldLink RX7 45 "TriggerAnalyzerModel" "thrown" "I") (by decide +kernel)) (fun _ h9 => h9) tyX7_ok nmX7 rfl rfl rfl (Nat.le_of_ble_eq_true rfl) (f' := mF ad cI cL cB ((xs u 0 0 (nI 1)))) rfl mF_ne dX7_isAbove_22 ?_
    refine z_aload_n C dX7_isAbove_25 0 rfl ?_
    refine z_get (q := 0) C (T := TX7) (N := 18) (ci := 7) (own := RX7) (index := 45) (v := .int ((xs u 0 0 (nI 1)).1 0 0)) hT7 hown hK (by decide) rfl rfl 0 (by decide) (hts (.fieldLink RX7 45 "TriggerAnalyzerModel" "thrown" "I") (by decide +kernel)) (fun _ h9 => h9) rfl dX7_isAbove_26 ?_
    refine z_topi (y := nI 1) (xs_s _ _ _ _) ?_
    refine z_if_ne (tgt := 49) C dX7_isAbove_29 (by decide) (fun zc29 => ?_) (fun zc29 => ?_)
    · skip
      have zn29 := z0_f zc29
      refine z_iconst (v := nI 0) C (by decide) dX7_isAbove_49 ?_
      exact z_zret C hr hlocks rfl hQ ((xs u 0 0 (nI 1))) (⟨rfl, xs_s _ _ _ _, mQ_1 hM _⟩) (fun _ _ => rfl) dX7_isAbove_50
    · skip
      have zn29 := z0_t (by omega) zc29
      exact absurd zn29 (by decide)
  · skip
    have zn6 := z0_f zc6
    exact absurd zn6 (by decide)

set_option maxHeartbeats 4000000 in
set_option maxRecDepth 100000 in
theorem c_X7_isAbove_x2 (l : Launch) (D : va_G) (ad : Nat → Nat) (cI cL cB : ClassId) (hI : gI 12 ad) (u : xS) (n : Nat) (B : Nat → Nat → Nat) (hB : gB n B) (x : Nat) (hx : x < 64 * 2 ^ n) (hM : mI u n B x) (i : Nat) (hi : i < n) (x2 : Int32) (hf : bad n x2) : ∀ sz, Met l yX7_isAbove wsX7_isAbove ({ frames := 1, cells := 0, slots := 0, locals := 21 }) (MP D ad cI cL cB u [.ref (ad 0), .int (nI i), .int (x2)] sz) (va_Qi (fun r_ u' => r_ = nI 0 ∧ u'.1 0 0 = nI 1 ∧ mQ u' n B x (u.1 0 11)) (MB D ad cI cL cB) (gA 12 ad sz)) 0 0 (gA 12 ad sz) := by
  intro sz
  refine z_met (cc := cX7_isAbove) (maxL := 3) (ret := (some .boolean)) (by decide) rfl (Nat.le_of_ble_eq_true rfl) ?_
  intro pq lq sq mq aq Qq bq hmq cq C hr hml hown hts hlocks hK hX hsz hQ
  subst hsz
  have hT7 : ∀ w ∈ wsX70, w.before aq sq = true := fun w h => hts w ((by decide +kernel : ∀ w ∈ wsX70, w ∈ wsX7_isAbove) w h)
  refine z_sub (L' := [(0, .ref (ad 0)), (1, .int (nI i)), (2, .int (x2))]) [0, 1, 2] rfl ?_
  refine z_aload_n C dX7_isAbove_0 0 rfl ?_
  refine z_aload_n C dX7_isAbove_1 0 rfl ?_
  refine z_iload_n C dX7_isAbove_2 1 rfl ?_
  refine z_callVi mX_ok C hml hown hts hK hX (c_X7_isRule_vh l D ad cI cL cB hI u n hB.1 (mR_n hM.1) i hi) (cwV 1 hts gX7_isAbove_X7_isRule rfl rfl rfl (by decide +kernel) ⟨Nat.le_of_ble_eq_true rfl, Nat.le_of_ble_eq_true rfl⟩) (by decide) (ci := 7) rfl rfl rfl (st := [.ref (ad 0)]) rfl (Nat.le_of_ble_eq_true rfl) dX7_isAbove_3 ⟨Nat.le_of_ble_eq_true rfl, Nat.le_of_ble_eq_true rfl⟩ (fun r3 u3 h3 => ?_)
  obtain ⟨zr3, zu3⟩ := h3
  subst r3
  subst u3
  refine z_if_eq (tgt := 21) C dX7_isAbove_6 (by decide) (fun zc6 => ?_) (fun zc6 => ?_)
  · skip
    have zn6 := z0_t (by omega) zc6
    exact absurd zn6 (by decide)
  · skip
    have zn6 := z0_f zc6
    refine z_aload_n C dX7_isAbove_9 0 rfl ?_
    refine z_iload_n C dX7_isAbove_10 2 rfl ?_
    refine z_callVi mX_ok C hml hown hts hK hX (c_X7_isRule_x l D ad cI cL cB hI u n hB.1 (mR_n hM.1) x2 hf) (cwV 1 hts gX7_isAbove_X7_isRule rfl rfl rfl (by decide +kernel) ⟨Nat.le_of_ble_eq_true rfl, Nat.le_of_ble_eq_true rfl⟩) (by decide) (ci := 7) rfl rfl rfl (st := [.ref (ad 0)]) rfl (Nat.le_of_ble_eq_true rfl) dX7_isAbove_11 ⟨Nat.le_of_ble_eq_true rfl, Nat.le_of_ble_eq_true rfl⟩ (fun r11 u11 h11 => ?_)
    obtain ⟨zr11, zu11⟩ := h11
    subst r11
    subst u11
    refine z_if_eq (tgt := 21) C dX7_isAbove_14 (by decide) (fun zc14 => ?_) (fun zc14 => ?_)
    · skip
      have zn14 := z0_t (by omega) zc14
      refine z_iconst (v := nI 1) C (by decide) dX7_isAbove_21 ?_
      refine z_put (q := 0) C hI tyX7 (T := TX7) (N := 18) (ci := 7) (own := RX7) (index := 45) hT7 hown hK (by decide) rfl rfl 0 (by decide) (hts (.fieldLink RX7 45 "TriggerAnalyzerModel" "thrown" "I") (by decide +kernel)) (fun _ h9 => h9) tyX7_ok nmX7 rfl rfl rfl (Nat.le_of_ble_eq_true rfl) (f' := mF ad cI cL cB ((xs u 0 0 (nI 1)))) rfl mF_ne dX7_isAbove_22 ?_
      refine z_aload_n C dX7_isAbove_25 0 rfl ?_
      refine z_get (q := 0) C (T := TX7) (N := 18) (ci := 7) (own := RX7) (index := 45) (v := .int ((xs u 0 0 (nI 1)).1 0 0)) hT7 hown hK (by decide) rfl rfl 0 (by decide) (hts (.fieldLink RX7 45 "TriggerAnalyzerModel" "thrown" "I") (by decide +kernel)) (fun _ h9 => h9) rfl dX7_isAbove_26 ?_
      refine z_topi (y := nI 1) (xs_s _ _ _ _) ?_
      refine z_if_ne (tgt := 49) C dX7_isAbove_29 (by decide) (fun zc29 => ?_) (fun zc29 => ?_)
      · skip
        have zn29 := z0_f zc29
        refine z_iconst (v := nI 0) C (by decide) dX7_isAbove_49 ?_
        exact z_zret C hr hlocks rfl hQ ((xs u 0 0 (nI 1))) (⟨rfl, xs_s _ _ _ _, mQ_1 hM _⟩) (fun _ _ => rfl) dX7_isAbove_50
      · skip
        have zn29 := z0_t (by omega) zc29
        exact absurd zn29 (by decide)
    · skip
      have zn14 := z0_f zc14
      exact absurd zn14 (by decide)

set_option maxHeartbeats 4000000 in
set_option maxRecDepth 100000 in
theorem c_X7_put (l : Launch) (D : va_G) (ad : Nat → Nat) (cI cL cB : ClassId) (hI : gI 12 ad) (u : xS) (n : Nat) (B : Nat → Nat → Nat) (hB : gB n B) (x : Nat) (hx : x < 64 * 2 ^ n) (hM : mI u n B x) (f : Nat) (hf : f < 64) : ∀ sz, Met l yX7_put wsX7_put ({ frames := 1, cells := 0, slots := 0, locals := 21 }) (MP D ad cI cL cB u [.ref (ad 0), .int (nI f)] sz) (va_Qi (fun r_ u' => r_ = nI (x % 64) ∧ u'.1 0 0 = nI 0 ∧ mQ u' n B f 0) (MB D ad cI cL cB) (gA 12 ad sz)) 0 0 (gA 12 ad sz) := by
  intro sz
  refine z_met (cc := cX7_put) (maxL := 3) (ret := (some .int)) (by decide) rfl (Nat.le_of_ble_eq_true rfl) ?_
  intro pq lq sq mq aq Qq bq hmq cq C hr hml hown hts hlocks hK hX hsz hQ
  subst hsz
  have hT7 : ∀ w ∈ wsX70, w.before aq sq = true := fun w h => hts w ((by decide +kernel : ∀ w ∈ wsX70, w ∈ wsX7_put) w h)
  refine z_sub (L' := [(0, .ref (ad 0)), (1, .int (nI f))]) [0, 1] rfl ?_
  have hn8 : n ≤ 8 := hB.1
  have hp2 : 2 ^ n ≤ 256 := pn8 hn8
  have hx8 : x < 16384 := by omega
  refine z_aload_n C dX7_put_0 0 rfl ?_
  refine z_iconst (v := nI 0) C (by decide) dX7_put_1 ?_
  refine z_put (q := 0) C hI tyX7 (T := TX7) (N := 18) (ci := 7) (own := RX7) (index := 45) hT7 hown hK (by decide) rfl rfl 0 (by decide) (hts (.fieldLink RX7 45 "TriggerAnalyzerModel" "thrown" "I") (by decide +kernel)) (fun _ h9 => h9) tyX7_ok nmX7 rfl rfl rfl (Nat.le_of_ble_eq_true rfl) (f' := mF ad cI cL cB ((xs u 0 0 (nI 0)))) rfl mF_ne dX7_put_2 ?_
  refine z_iload_n C dX7_put_5 1 rfl ?_
  refine z_callSi mX_ok C hml hown hts hK hX (c_X7_isSet_vh l D ad cI cL cB hI ((xs u 0 0 (nI 0))) f hf) (va_cwS 1 hts gX7_put_X7_isSet rfl rfl rfl (by decide +kernel) ⟨Nat.le_of_ble_eq_true rfl, Nat.le_of_ble_eq_true rfl⟩) rfl (st := []) rfl (Nat.le_of_ble_eq_true rfl) dX7_put_6 ⟨Nat.le_of_ble_eq_true rfl, Nat.le_of_ble_eq_true rfl⟩ (fun r6 u6 h6 => ?_)
  obtain ⟨zr6, zu6⟩ := h6
  subst r6
  subst u6
  refine z_if_ne (tgt := 18) C dX7_put_9 (by decide) (fun zc9 => ?_) (fun zc9 => ?_)
  · skip
    have zn9 := z0_f zc9
    refine z_aload_n C dX7_put_18 0 rfl ?_
    refine z_get (q := 0) C (T := TX7) (N := 18) (ci := 7) (own := RX7) (index := 91) (v := .int ((xs u 0 0 (nI 0)).1 0 9)) hT7 hown hK (by decide) rfl rfl 9 (by decide) (hts (.fieldLink RX7 91 "TriggerAnalyzerModel" "facts" "I") (by decide +kernel)) (fun _ h9 => h9) rfl dX7_put_19 ?_
    refine z_topi (y := u.1 0 9) (xs_j (by decide)) ?_
    refine z_topi (y := nI (x % 64)) (hM.2.1) ?_
    refine z_istore_n (L' := [(2, .int (nI (x % 64))), (0, .ref (ad 0)), (1, .int (nI f))]) C dX7_put_22 (by decide) rfl ?_
    refine z_aload_n C dX7_put_23 1 rfl ?_
    refine z_iload_n C dX7_put_24 2 rfl ?_
    refine z_put (q := 0) C hI tyX7 (T := TX7) (N := 18) (ci := 7) (own := RX7) (index := 91) hT7 hown hK (by decide) rfl rfl 9 (by decide) (hts (.fieldLink RX7 91 "TriggerAnalyzerModel" "facts" "I") (by decide +kernel)) (fun _ h9 => h9) tyX7_ok nmX7 rfl rfl rfl (Nat.le_of_ble_eq_true rfl) (f' := mF ad cI cL cB ((xs ((xs u 0 0 (nI 0))) 0 9 (nI f)))) rfl mF_ne dX7_put_25 ?_
    refine z_aload_n C dX7_put_28 1 rfl ?_
    refine z_iconst (v := nI 0) C (by decide) dX7_put_29 ?_
    refine z_put (q := 0) C hI tyX7 (T := TX7) (N := 18) (ci := 7) (own := RX7) (index := 74) hT7 hown hK (by decide) rfl rfl 10 (by decide) (hts (.fieldLink RX7 74 "TriggerAnalyzerModel" "triggered" "I") (by decide +kernel)) (fun _ h9 => h9) tyX7_ok nmX7 rfl rfl rfl (Nat.le_of_ble_eq_true rfl) (f' := mF ad cI cL cB ((xs ((xs ((xs u 0 0 (nI 0))) 0 9 (nI f))) 0 10 (nI 0)))) rfl mF_ne dX7_put_30 ?_
    refine z_aload_n C dX7_put_33 1 rfl ?_
    refine z_iconst (v := nI 0) C (by decide) dX7_put_34 ?_
    refine z_put (q := 0) C hI tyX7 (T := TX7) (N := 18) (ci := 7) (own := RX7) (index := 67) hT7 hown hK (by decide) rfl rfl 11 (by decide) (hts (.fieldLink RX7 67 "TriggerAnalyzerModel" "isExplored" "Z") (by decide +kernel)) (fun _ h9 => h9) tyX7_ok nmX7 rfl rfl rfl (Nat.le_of_ble_eq_true rfl) (f' := mF ad cI cL cB ((xs ((xs ((xs ((xs u 0 0 (nI 0))) 0 9 (nI f))) 0 10 (nI 0))) 0 11 (nI 0)))) rfl mF_ne dX7_put_35 ?_
    refine z_iload_n C dX7_put_38 0 rfl ?_
    exact z_iret C hr hlocks hQ ((xs ((xs ((xs ((xs u 0 0 (nI 0))) 0 9 (nI f))) 0 10 (nI 0))) 0 11 (nI 0))) (⟨rfl, by simp [xs_at], mQ_of (mR_s (mR_s (mR_s (mR_s hM.1 (Or.inl ⟨rfl, by decide⟩)) (Or.inl ⟨rfl, by decide⟩)) (Or.inl ⟨rfl, by decide⟩)) (Or.inl ⟨rfl, by decide⟩)) (by rw [show f % 64 = f by omega]; simp [xs_at]) (by rw [show f / 64 = 0 by omega]; simp [xs_at]) ((xs_s _ _ _ _).trans rfl)⟩) (fun _ _ => rfl) dX7_put_39
  · skip
    have zn9 := z0_t (by omega) zc9
    exact absurd zn9 (by decide)

set_option maxHeartbeats 4000000 in
set_option maxRecDepth 100000 in
theorem c_X7_put_x1 (l : Launch) (D : va_G) (ad : Nat → Nat) (cI cL cB : ClassId) (hI : gI 12 ad) (u : xS) (n : Nat) (B : Nat → Nat → Nat) (hB : gB n B) (x : Nat) (hx : x < 64 * 2 ^ n) (hM : mI u n B x) (x1 : Int32) (hf : bad 64 x1) : ∀ sz, Met l yX7_put wsX7_put ({ frames := 1, cells := 0, slots := 0, locals := 21 }) (MP D ad cI cL cB u [.ref (ad 0), .int (x1)] sz) (va_Qi (fun r_ u' => r_ = nI 0 ∧ u'.1 0 0 = nI 1 ∧ mQ u' n B x (u.1 0 11)) (MB D ad cI cL cB) (gA 12 ad sz)) 0 0 (gA 12 ad sz) := by
  intro sz
  refine z_met (cc := cX7_put) (maxL := 3) (ret := (some .int)) (by decide) rfl (Nat.le_of_ble_eq_true rfl) ?_
  intro pq lq sq mq aq Qq bq hmq cq C hr hml hown hts hlocks hK hX hsz hQ
  subst hsz
  have hT7 : ∀ w ∈ wsX70, w.before aq sq = true := fun w h => hts w ((by decide +kernel : ∀ w ∈ wsX70, w ∈ wsX7_put) w h)
  refine z_sub (L' := [(0, .ref (ad 0)), (1, .int (x1))]) [0, 1] rfl ?_
  refine z_aload_n C dX7_put_0 0 rfl ?_
  refine z_iconst (v := nI 0) C (by decide) dX7_put_1 ?_
  refine z_put (q := 0) C hI tyX7 (T := TX7) (N := 18) (ci := 7) (own := RX7) (index := 45) hT7 hown hK (by decide) rfl rfl 0 (by decide) (hts (.fieldLink RX7 45 "TriggerAnalyzerModel" "thrown" "I") (by decide +kernel)) (fun _ h9 => h9) tyX7_ok nmX7 rfl rfl rfl (Nat.le_of_ble_eq_true rfl) (f' := mF ad cI cL cB ((xs u 0 0 (nI 0)))) rfl mF_ne dX7_put_2 ?_
  refine z_iload_n C dX7_put_5 1 rfl ?_
  refine z_callSi mX_ok C hml hown hts hK hX (c_X7_isSet_x l D ad cI cL cB hI ((xs u 0 0 (nI 0))) x1 hf) (va_cwS 1 hts gX7_put_X7_isSet rfl rfl rfl (by decide +kernel) ⟨Nat.le_of_ble_eq_true rfl, Nat.le_of_ble_eq_true rfl⟩) rfl (st := []) rfl (Nat.le_of_ble_eq_true rfl) dX7_put_6 ⟨Nat.le_of_ble_eq_true rfl, Nat.le_of_ble_eq_true rfl⟩ (fun r6 u6 h6 => ?_)
  obtain ⟨zr6, zu6⟩ := h6
  subst r6
  subst u6
  refine z_if_ne (tgt := 18) C dX7_put_9 (by decide) (fun zc9 => ?_) (fun zc9 => ?_)
  · skip
    have zn9 := z0_f zc9
    exact absurd zn9 (by decide)
  · skip
    have zn9 := z0_t (by omega) zc9
    refine z_aload_n C dX7_put_12 0 rfl ?_
    refine z_iconst (v := nI 1) C (by decide) dX7_put_13 ?_
    refine z_callVi mX_ok C hml hown hts hK hX (c_X7_fail l D ad cI cL cB hI ((xs u 0 0 (nI 0))) (nI 1)) (cwV 1 hts gX7_put_X7_fail rfl rfl rfl (by decide +kernel) ⟨Nat.le_of_ble_eq_true rfl, Nat.le_of_ble_eq_true rfl⟩) (by decide) (ci := 7) rfl rfl rfl (st := []) rfl (Nat.le_of_ble_eq_true rfl) dX7_put_14 ⟨Nat.le_of_ble_eq_true rfl, Nat.le_of_ble_eq_true rfl⟩ (fun r14 u14 h14 => ?_)
    obtain ⟨zr14, zu14⟩ := h14
    subst r14
    subst u14
    exact z_iret C hr hlocks hQ (xs ((xs u 0 0 (nI 0))) 0 0 ((nI 1))) (⟨rfl, xs_s _ _ _ _, mQ_2 hM _ _⟩) (fun _ _ => rfl) dX7_put_17

set_option maxHeartbeats 4000000 in
set_option maxRecDepth 100000 in
theorem c_X7_change (l : Launch) (D : va_G) (ad : Nat → Nat) (cI cL cB : ClassId) (hI : gI 12 ad) (u : xS) (n : Nat) (B : Nat → Nat → Nat) (hB : gB n B) (x : Nat) (hx : x < 64 * 2 ^ n) (hM : mI u n B x) (k : Nat) (hk : k < 6) (b : Nat) (hb : b ≤ 1) : ∀ sz, Met l yX7_change wsX7_change ({ frames := 2, cells := 0, slots := 0, locals := 41 }) (MP D ad cI cL cB u [.ref (ad 0), .int (nI k), .int (nI b)] sz) (va_Qi (fun r_ u' => r_ = nI ((chg B x (2 * k + b)) / 64) ∧ u'.1 0 0 = nI 0 ∧ mQ u' n B ((chg B x (2 * k + b))) 0) (MB D ad cI cL cB) (gA 12 ad sz)) 0 0 (gA 12 ad sz) := by
  intro sz
  refine z_met (cc := cX7_change) (maxL := 3) (ret := (some .int)) (by decide) rfl (Nat.le_of_ble_eq_true rfl) ?_
  intro pq lq sq mq aq Qq bq hmq cq C hr hml hown hts hlocks hK hX hsz hQ
  subst hsz
  have hT7 : ∀ w ∈ wsX70, w.before aq sq = true := fun w h => hts w ((by decide +kernel : ∀ w ∈ wsX70, w ∈ wsX7_change) w h)
  refine z_sub (L' := [(0, .ref (ad 0)), (1, .int (nI k)), (2, .int (nI b))]) [0, 1, 2] rfl ?_
  have hn8 : n ≤ 8 := hB.1
  have hp2 : 2 ^ n ≤ 256 := pn8 hn8
  have hx8 : x < 16384 := by omega
  refine z_aload_n C dX7_change_0 0 rfl ?_
  refine z_iconst (v := nI 0) C (by decide) dX7_change_1 ?_
  refine z_put (q := 0) C hI tyX7 (T := TX7) (N := 18) (ci := 7) (own := RX7) (index := 45) hT7 hown hK (by decide) rfl rfl 0 (by decide) (hts (.fieldLink RX7 45 "TriggerAnalyzerModel" "thrown" "I") (by decide +kernel)) (fun _ h9 => h9) tyX7_ok nmX7 rfl rfl rfl (Nat.le_of_ble_eq_true rfl) (f' := mF ad cI cL cB ((xs u 0 0 (nI 0)))) rfl mF_ne dX7_change_2 ?_
  refine z_iload_n C dX7_change_5 1 rfl ?_
  refine z_callSi mX_ok C hml hown hts hK hX (c_X7_isFact_vh l D ad cI cL cB hI ((xs u 0 0 (nI 0))) k hk) (va_cwS 1 hts gX7_change_X7_isFact rfl rfl rfl (by decide +kernel) ⟨Nat.le_of_ble_eq_true rfl, Nat.le_of_ble_eq_true rfl⟩) rfl (st := []) rfl (Nat.le_of_ble_eq_true rfl) dX7_change_6 ⟨Nat.le_of_ble_eq_true rfl, Nat.le_of_ble_eq_true rfl⟩ (fun r6 u6 h6 => ?_)
  obtain ⟨zr6, zu6⟩ := h6
  subst r6
  subst u6
  refine z_if_ne (tgt := 18) C dX7_change_9 (by decide) (fun zc9 => ?_) (fun zc9 => ?_)
  · skip
    have zn9 := z0_f zc9
    refine z_aload_n C dX7_change_18 0 rfl ?_
    refine z_aload_n C dX7_change_19 0 rfl ?_
    refine z_aload_n C dX7_change_20 0 rfl ?_
    refine z_callVi mX_ok C hml hown hts hK hX (c_X7_now l D ad cI cL cB hI ((xs u 0 0 (nI 0))) x (by have := pn8 hB.1; omega) ((xs_j (by decide)).trans hM.2.1) ((xs_j (by decide)).trans hM.2.2.1)) (cwV 0 hts gX7_change_X7_now rfl rfl rfl (by decide +kernel) ⟨Nat.le_of_ble_eq_true rfl, Nat.le_of_ble_eq_true rfl⟩) (by decide) (ci := 7) rfl rfl rfl (st := [.ref (ad 0), .ref (ad 0)]) rfl (Nat.le_of_ble_eq_true rfl) dX7_change_21 ⟨Nat.le_of_ble_eq_true rfl, Nat.le_of_ble_eq_true rfl⟩ (fun r21 u21 h21 => ?_)
    obtain ⟨zr21, zu21⟩ := h21
    subst r21
    subst u21
    refine z_iload_n C dX7_change_24 1 rfl ?_
    refine z_iload_n C dX7_change_25 2 rfl ?_
    refine z_callSi mX_ok C hml hown hts hK hX (c_X7_literal l D ad cI cL cB hI ((xs u 0 0 (nI 0))) k b hb) (va_cwS 2 hts gX7_change_X7_literal rfl rfl rfl (by decide +kernel) ⟨Nat.le_of_ble_eq_true rfl, Nat.le_of_ble_eq_true rfl⟩) rfl (st := [.int (nI (mf x)), .ref (ad 0), .ref (ad 0)]) rfl (Nat.le_of_ble_eq_true rfl) dX7_change_26 ⟨Nat.le_of_ble_eq_true rfl, Nat.le_of_ble_eq_true rfl⟩ (fun r26 u26 h26 => ?_)
    obtain ⟨zr26, zu26⟩ := h26
    subst r26
    subst u26
    refine z_callVi mX_ok C hml hown hts hK hX (c_X7_behind l D ad cI cL cB hI ((xs u 0 0 (nI 0))) n B (mR_s hM.1 (Or.inl ⟨rfl, by decide⟩)) hB x hx8 (2 * k + b) (by omega)) (cwV 2 hts gX7_change_X7_behind rfl rfl rfl (by decide +kernel) ⟨Nat.le_of_ble_eq_true rfl, Nat.le_of_ble_eq_true rfl⟩) (by decide) (ci := 7) rfl rfl rfl (st := [.ref (ad 0)]) rfl (Nat.le_of_ble_eq_true rfl) dX7_change_29 ⟨Nat.le_of_ble_eq_true rfl, Nat.le_of_ble_eq_true rfl⟩ (fun r29 u29 h29 => ?_)
    obtain ⟨zr29, zu29⟩ := h29
    subst r29
    subst u29
    refine z_callVv mX_ok C hml hown hts hK hX (c_X7_become_vx l D ad cI cL cB hI ((xs u 0 0 (nI 0))) (chg B x (2 * k + b)) (chg_lt hx8 (by omega))) (cwV 1 hts gX7_change_X7_become rfl rfl rfl (by decide +kernel) ⟨Nat.le_of_ble_eq_true rfl, Nat.le_of_ble_eq_true rfl⟩) (by decide) (ci := 7) rfl rfl rfl (st := []) rfl (Nat.le_of_ble_eq_true rfl) dX7_change_32 ⟨Nat.le_of_ble_eq_true rfl, Nat.le_of_ble_eq_true rfl⟩ (fun u32 h32 => ?_)
    subst u32
    refine z_aload_n C dX7_change_35 0 rfl ?_
    refine z_iconst (v := nI 0) C (by decide) dX7_change_36 ?_
    refine z_put (q := 0) C hI tyX7 (T := TX7) (N := 18) (ci := 7) (own := RX7) (index := 67) hT7 hown hK (by decide) rfl rfl 11 (by decide) (hts (.fieldLink RX7 67 "TriggerAnalyzerModel" "isExplored" "Z") (by decide +kernel)) (fun _ h9 => h9) tyX7_ok nmX7 rfl rfl rfl (Nat.le_of_ble_eq_true rfl) (f' := mF ad cI cL cB ((xs ((xs (xs ((xs u 0 0 (nI 0))) 0 9 (nI (((chg B x (2 * k + b))) % 64))) 0 10 (nI (((chg B x (2 * k + b))) / 64)))) 0 11 (nI 0)))) rfl mF_ne dX7_change_37 ?_
    refine z_aload_n C dX7_change_40 0 rfl ?_
    refine z_get (q := 0) C (T := TX7) (N := 18) (ci := 7) (own := RX7) (index := 74) (v := .int ((xs ((xs (xs ((xs u 0 0 (nI 0))) 0 9 (nI (((chg B x (2 * k + b))) % 64))) 0 10 (nI (((chg B x (2 * k + b))) / 64)))) 0 11 (nI 0)).1 0 10)) hT7 hown hK (by decide) rfl rfl 10 (by decide) (hts (.fieldLink RX7 74 "TriggerAnalyzerModel" "triggered" "I") (by decide +kernel)) (fun _ h9 => h9) rfl dX7_change_41 ?_
    refine z_topi (y := nI (((chg B x (2 * k + b))) / 64)) ((xs_j (by decide)).trans (xs_s _ _ _ _)) ?_
    exact z_iret C hr hlocks hQ ((xs ((xs (xs ((xs u 0 0 (nI 0))) 0 9 (nI (((chg B x (2 * k + b))) % 64))) 0 10 (nI (((chg B x (2 * k + b))) / 64)))) 0 11 (nI 0))) (⟨rfl, by simp [xs_at], mQ_of (mR_s (mR_s (mR_s (mR_s hM.1 (Or.inl ⟨rfl, by decide⟩)) (Or.inl ⟨rfl, by decide⟩)) (Or.inl ⟨rfl, by decide⟩)) (Or.inl ⟨rfl, by decide⟩)) (by simp [xs_at]) (by simp [xs_at]) ((xs_s _ _ _ _).trans rfl)⟩) (fun _ _ => rfl) dX7_change_44
  · skip
    have zn9 := z0_t (by omega) zc9
    exact absurd zn9 (by decide)

set_option maxHeartbeats 4000000 in
set_option maxRecDepth 100000 in
theorem c_X7_change_x1 (l : Launch) (D : va_G) (ad : Nat → Nat) (cI cL cB : ClassId) (hI : gI 12 ad) (u : xS) (n : Nat) (B : Nat → Nat → Nat) (hB : gB n B) (x : Nat) (hx : x < 64 * 2 ^ n) (hM : mI u n B x) (x1 : Int32) (hf : bad 6 x1) (x2 : Int32) : ∀ sz, Met l yX7_change wsX7_change ({ frames := 2, cells := 0, slots := 0, locals := 41 }) (MP D ad cI cL cB u [.ref (ad 0), .int (x1), .int (x2)] sz) (va_Qi (fun r_ u' => r_ = nI 0 ∧ u'.1 0 0 = nI 1 ∧ mQ u' n B x (u.1 0 11)) (MB D ad cI cL cB) (gA 12 ad sz)) 0 0 (gA 12 ad sz) := by
  intro sz
  refine z_met (cc := cX7_change) (maxL := 3) (ret := (some .int)) (by decide) rfl (Nat.le_of_ble_eq_true rfl) ?_
  intro pq lq sq mq aq Qq bq hmq cq C hr hml hown hts hlocks hK hX hsz hQ
  subst hsz
  have hT7 : ∀ w ∈ wsX70, w.before aq sq = true := fun w h => hts w ((by decide +kernel : ∀ w ∈ wsX70, w ∈ wsX7_change) w h)
  refine z_sub (L' := [(0, .ref (ad 0)), (1, .int (x1)), (2, .int (x2))]) [0, 1, 2] rfl ?_
  refine z_aload_n C dX7_change_0 0 rfl ?_
  refine z_iconst (v := nI 0) C (by decide) dX7_change_1 ?_
  refine z_put (q := 0) C hI tyX7 (T := TX7) (N := 18) (ci := 7) (own := RX7) (index := 45) hT7 hown hK (by decide) rfl rfl 0 (by decide) (hts (.fieldLink RX7 45 "TriggerAnalyzerModel" "thrown" "I") (by decide +kernel)) (fun _ h9 => h9) tyX7_ok nmX7 rfl rfl rfl (Nat.le_of_ble_eq_true rfl) (f' := mF ad cI cL cB ((xs u 0 0 (nI 0)))) rfl mF_ne dX7_change_2 ?_
  refine z_iload_n C dX7_change_5 1 rfl ?_
  refine z_callSi mX_ok C hml hown hts hK hX (c_X7_isFact_x l D ad cI cL cB hI ((xs u 0 0 (nI 0))) x1 hf) (va_cwS 1 hts gX7_change_X7_isFact rfl rfl rfl (by decide +kernel) ⟨Nat.le_of_ble_eq_true rfl, Nat.le_of_ble_eq_true rfl⟩) rfl (st := []) rfl (Nat.le_of_ble_eq_true rfl) dX7_change_6 ⟨Nat.le_of_ble_eq_true rfl, Nat.le_of_ble_eq_true rfl⟩ (fun r6 u6 h6 => ?_)
  obtain ⟨zr6, zu6⟩ := h6
  subst r6
  subst u6
  refine z_if_ne (tgt := 18) C dX7_change_9 (by decide) (fun zc9 => ?_) (fun zc9 => ?_)
  · skip
    have zn9 := z0_f zc9
    exact absurd zn9 (by decide)
  · skip
    have zn9 := z0_t (by omega) zc9
    refine z_aload_n C dX7_change_12 0 rfl ?_
    refine z_iconst (v := nI 1) C (by decide) dX7_change_13 ?_
    refine z_callVi mX_ok C hml hown hts hK hX (c_X7_fail l D ad cI cL cB hI ((xs u 0 0 (nI 0))) (nI 1)) (cwV 1 hts gX7_change_X7_fail rfl rfl rfl (by decide +kernel) ⟨Nat.le_of_ble_eq_true rfl, Nat.le_of_ble_eq_true rfl⟩) (by decide) (ci := 7) rfl rfl rfl (st := []) rfl (Nat.le_of_ble_eq_true rfl) dX7_change_14 ⟨Nat.le_of_ble_eq_true rfl, Nat.le_of_ble_eq_true rfl⟩ (fun r14 u14 h14 => ?_)
    obtain ⟨zr14, zu14⟩ := h14
    subst r14
    subst u14
    exact z_iret C hr hlocks hQ (xs ((xs u 0 0 (nI 0))) 0 0 ((nI 1))) (⟨rfl, xs_s _ _ _ _, mQ_2 hM _ _⟩) (fun _ _ => rfl) dX7_change_17

set_option maxHeartbeats 4000000 in
set_option maxRecDepth 100000 in
theorem c_X7_ruleCount_v (l : Launch) (D : va_G) (ad : Nat → Nat) (cI cL cB : ClassId) (hI : gI 12 ad) (u : xS) (n : Nat) (B : Nat → Nat → Nat) (hB : gB n B) (x : Nat) (hx : x < 64 * 2 ^ n) (hM : mI u n B x) : ∀ sz, Met l yX7_ruleCount wsX7_ruleCount ({ frames := 0, cells := 0, slots := 0, locals := 0 }) (MP D ad cI cL cB u [.ref (ad 0)] sz) (va_Qi (fun r_ u' => r_ = nI n ∧ u'.1 0 0 = nI 0 ∧ mQ u' n B x (u.1 0 11)) (MB D ad cI cL cB) (gA 12 ad sz)) 0 0 (gA 12 ad sz) := by
  intro sz
  refine z_met (cc := cX7_ruleCount) (maxL := 1) (ret := (some .int)) (by decide) rfl (Nat.le_of_ble_eq_true rfl) ?_
  intro pq lq sq mq aq Qq bq hmq cq C hr hml hown hts hlocks hK hX hsz hQ
  subst hsz
  have hT7 : ∀ w ∈ wsX70, w.before aq sq = true := fun w h => hts w ((by decide +kernel : ∀ w ∈ wsX70, w ∈ wsX7_ruleCount) w h)
  refine z_sub (L' := [(0, .ref (ad 0))]) [0] rfl ?_
  refine z_aload_n C dX7_ruleCount_0 0 rfl ?_
  refine z_iconst (v := nI 0) C (by decide) dX7_ruleCount_1 ?_
  refine z_put (q := 0) C hI tyX7 (T := TX7) (N := 18) (ci := 7) (own := RX7) (index := 45) hT7 hown hK (by decide) rfl rfl 0 (by decide) (hts (.fieldLink RX7 45 "TriggerAnalyzerModel" "thrown" "I") (by decide +kernel)) (fun _ h9 => h9) tyX7_ok nmX7 rfl rfl rfl (Nat.le_of_ble_eq_true rfl) (f' := mF ad cI cL cB ((xs u 0 0 (nI 0)))) rfl mF_ne dX7_ruleCount_2 ?_
  refine z_aload_n C dX7_ruleCount_5 0 rfl ?_
  refine z_get (q := 0) C (T := TX7) (N := 18) (ci := 7) (own := RX7) (index := 49) (v := .int ((xs u 0 0 (nI 0)).1 0 1)) hT7 hown hK (by decide) rfl rfl 1 (by decide) (hts (.fieldLink RX7 49 "TriggerAnalyzerModel" "rules" "I") (by decide +kernel)) (fun _ h9 => h9) rfl dX7_ruleCount_6 ?_
  refine z_topi (y := u.1 0 1) (xs_j (by decide)) ?_
  refine z_topi (y := nI n) (mR_n hM.1) ?_
  exact z_iret C hr hlocks hQ ((xs u 0 0 (nI 0))) (⟨rfl, xs_s _ _ _ _, mQ_1 hM _⟩) (fun _ _ => rfl) dX7_ruleCount_9

set_option maxHeartbeats 4000000 in
set_option maxRecDepth 100000 in
theorem c_X7_facts (l : Launch) (D : va_G) (ad : Nat → Nat) (cI cL cB : ClassId) (hI : gI 12 ad) (u : xS) (n : Nat) (B : Nat → Nat → Nat) (hB : gB n B) (x : Nat) (hx : x < 64 * 2 ^ n) (hM : mI u n B x) : ∀ sz, Met l yX7_facts wsX7_facts ({ frames := 0, cells := 0, slots := 0, locals := 0 }) (MP D ad cI cL cB u [.ref (ad 0)] sz) (va_Qi (fun r_ u' => r_ = nI (x % 64) ∧ u'.1 0 0 = nI 0 ∧ mQ u' n B x (u.1 0 11)) (MB D ad cI cL cB) (gA 12 ad sz)) 0 0 (gA 12 ad sz) := by
  intro sz
  refine z_met (cc := cX7_facts) (maxL := 1) (ret := (some .int)) (by decide) rfl (Nat.le_of_ble_eq_true rfl) ?_
  intro pq lq sq mq aq Qq bq hmq cq C hr hml hown hts hlocks hK hX hsz hQ
  subst hsz
  have hT7 : ∀ w ∈ wsX70, w.before aq sq = true := fun w h => hts w ((by decide +kernel : ∀ w ∈ wsX70, w ∈ wsX7_facts) w h)
  refine z_sub (L' := [(0, .ref (ad 0))]) [0] rfl ?_
  refine z_aload_n C dX7_facts_0 0 rfl ?_
  refine z_iconst (v := nI 0) C (by decide) dX7_facts_1 ?_
  refine z_put (q := 0) C hI tyX7 (T := TX7) (N := 18) (ci := 7) (own := RX7) (index := 45) hT7 hown hK (by decide) rfl rfl 0 (by decide) (hts (.fieldLink RX7 45 "TriggerAnalyzerModel" "thrown" "I") (by decide +kernel)) (fun _ h9 => h9) tyX7_ok nmX7 rfl rfl rfl (Nat.le_of_ble_eq_true rfl) (f' := mF ad cI cL cB ((xs u 0 0 (nI 0)))) rfl mF_ne dX7_facts_2 ?_
  refine z_aload_n C dX7_facts_5 0 rfl ?_
  refine z_get (q := 0) C (T := TX7) (N := 18) (ci := 7) (own := RX7) (index := 91) (v := .int ((xs u 0 0 (nI 0)).1 0 9)) hT7 hown hK (by decide) rfl rfl 9 (by decide) (hts (.fieldLink RX7 91 "TriggerAnalyzerModel" "facts" "I") (by decide +kernel)) (fun _ h9 => h9) rfl dX7_facts_6 ?_
  refine z_topi (y := u.1 0 9) (xs_j (by decide)) ?_
  refine z_topi (y := nI (x % 64)) (hM.2.1) ?_
  exact z_iret C hr hlocks hQ ((xs u 0 0 (nI 0))) (⟨rfl, xs_s _ _ _ _, mQ_1 hM _⟩) (fun _ _ => rfl) dX7_facts_9

set_option maxHeartbeats 4000000 in
set_option maxRecDepth 100000 in
theorem c_X7_triggered (l : Launch) (D : va_G) (ad : Nat → Nat) (cI cL cB : ClassId) (hI : gI 12 ad) (u : xS) (n : Nat) (B : Nat → Nat → Nat) (hB : gB n B) (x : Nat) (hx : x < 64 * 2 ^ n) (hM : mI u n B x) : ∀ sz, Met l yX7_triggered wsX7_triggered ({ frames := 0, cells := 0, slots := 0, locals := 0 }) (MP D ad cI cL cB u [.ref (ad 0)] sz) (va_Qi (fun r_ u' => r_ = nI (x / 64) ∧ u'.1 0 0 = nI 0 ∧ mQ u' n B x (u.1 0 11)) (MB D ad cI cL cB) (gA 12 ad sz)) 0 0 (gA 12 ad sz) := by
  intro sz
  refine z_met (cc := cX7_triggered) (maxL := 1) (ret := (some .int)) (by decide) rfl (Nat.le_of_ble_eq_true rfl) ?_
  intro pq lq sq mq aq Qq bq hmq cq C hr hml hown hts hlocks hK hX hsz hQ
  subst hsz
  have hT7 : ∀ w ∈ wsX70, w.before aq sq = true := fun w h => hts w ((by decide +kernel : ∀ w ∈ wsX70, w ∈ wsX7_triggered) w h)
  refine z_sub (L' := [(0, .ref (ad 0))]) [0] rfl ?_
  refine z_aload_n C dX7_triggered_0 0 rfl ?_
  refine z_iconst (v := nI 0) C (by decide) dX7_triggered_1 ?_
  refine z_put (q := 0) C hI tyX7 (T := TX7) (N := 18) (ci := 7) (own := RX7) (index := 45) hT7 hown hK (by decide) rfl rfl 0 (by decide) (hts (.fieldLink RX7 45 "TriggerAnalyzerModel" "thrown" "I") (by decide +kernel)) (fun _ h9 => h9) tyX7_ok nmX7 rfl rfl rfl (Nat.le_of_ble_eq_true rfl) (f' := mF ad cI cL cB ((xs u 0 0 (nI 0)))) rfl mF_ne dX7_triggered_2 ?_
  refine z_aload_n C dX7_triggered_5 0 rfl ?_
  refine z_get (q := 0) C (T := TX7) (N := 18) (ci := 7) (own := RX7) (index := 74) (v := .int ((xs u 0 0 (nI 0)).1 0 10)) hT7 hown hK (by decide) rfl rfl 10 (by decide) (hts (.fieldLink RX7 74 "TriggerAnalyzerModel" "triggered" "I") (by decide +kernel)) (fun _ h9 => h9) rfl dX7_triggered_6 ?_
  refine z_topi (y := u.1 0 10) (xs_j (by decide)) ?_
  refine z_topi (y := nI (x / 64)) (hM.2.2.1) ?_
  exact z_iret C hr hlocks hQ ((xs u 0 0 (nI 0))) (⟨rfl, xs_s _ _ _ _, mQ_1 hM _⟩) (fun _ _ => rfl) dX7_triggered_9

set_option maxHeartbeats 4000000 in
set_option maxRecDepth 100000 in
theorem c_X7_ready (l : Launch) (D : va_G) (ad : Nat → Nat) (cI cL cB : ClassId) (hI : gI 12 ad) (u : xS) (n : Nat) (B : Nat → Nat → Nat) (hB : gB n B) (x : Nat) (hx : x < 64 * 2 ^ n) (hM : mI u n B x) : ∀ sz, Met l yX7_ready wsX7_ready ({ frames := 2, cells := 0, slots := 0, locals := 45 }) (MP D ad cI cL cB u [.ref (ad 0)] sz) (va_Qi (fun r_ u' => r_ = nI (rdy B (x / 64)) ∧ u'.1 0 0 = nI 0 ∧ mQ u' n B x (u.1 0 11)) (MB D ad cI cL cB) (gA 12 ad sz)) 0 0 (gA 12 ad sz) := by
  intro sz
  refine z_met (cc := cX7_ready) (maxL := 1) (ret := (some .int)) (by decide) rfl (Nat.le_of_ble_eq_true rfl) ?_
  intro pq lq sq mq aq Qq bq hmq cq C hr hml hown hts hlocks hK hX hsz hQ
  subst hsz
  have hT7 : ∀ w ∈ wsX70, w.before aq sq = true := fun w h => hts w ((by decide +kernel : ∀ w ∈ wsX70, w ∈ wsX7_ready) w h)
  refine z_sub (L' := [(0, .ref (ad 0))]) [0] rfl ?_
  refine z_aload_n C dX7_ready_0 0 rfl ?_
  refine z_iconst (v := nI 0) C (by decide) dX7_ready_1 ?_
  refine z_put (q := 0) C hI tyX7 (T := TX7) (N := 18) (ci := 7) (own := RX7) (index := 45) hT7 hown hK (by decide) rfl rfl 0 (by decide) (hts (.fieldLink RX7 45 "TriggerAnalyzerModel" "thrown" "I") (by decide +kernel)) (fun _ h9 => h9) tyX7_ok nmX7 rfl rfl rfl (Nat.le_of_ble_eq_true rfl) (f' := mF ad cI cL cB ((xs u 0 0 (nI 0)))) rfl mF_ne dX7_ready_2 ?_
  refine z_aload_n C dX7_ready_5 0 rfl ?_
  refine z_aload_n C dX7_ready_6 0 rfl ?_
  refine z_callVi mX_ok C hml hown hts hK hX (c_X7_now l D ad cI cL cB hI ((xs u 0 0 (nI 0))) x (by have := pn8 hB.1; omega) ((xs_j (by decide)).trans hM.2.1) ((xs_j (by decide)).trans hM.2.2.1)) (cwV 0 hts gX7_ready_X7_now rfl rfl rfl (by decide +kernel) ⟨Nat.le_of_ble_eq_true rfl, Nat.le_of_ble_eq_true rfl⟩) (by decide) (ci := 7) rfl rfl rfl (st := [.ref (ad 0)]) rfl (Nat.le_of_ble_eq_true rfl) dX7_ready_7 ⟨Nat.le_of_ble_eq_true rfl, Nat.le_of_ble_eq_true rfl⟩ (fun r7 u7 h7 => ?_)
  obtain ⟨zr7, zu7⟩ := h7
  subst r7
  subst u7
  refine z_callVi mX_ok C hml hown hts hK hX (c_X7_readyIn l D ad cI cL cB hI ((xs u 0 0 (nI 0))) n B (mR_s hM.1 (Or.inl ⟨rfl, by decide⟩)) hB x hx) (cwV 1 hts gX7_ready_X7_readyIn rfl rfl rfl (by decide +kernel) ⟨Nat.le_of_ble_eq_true rfl, Nat.le_of_ble_eq_true rfl⟩) (by decide) (ci := 7) rfl rfl rfl (st := []) rfl (Nat.le_of_ble_eq_true rfl) dX7_ready_10 ⟨Nat.le_of_ble_eq_true rfl, Nat.le_of_ble_eq_true rfl⟩ (fun r10 u10 h10 => ?_)
  obtain ⟨zr10, zu10⟩ := h10
  subst r10
  subst u10
  exact z_iret C hr hlocks hQ ((xs u 0 0 (nI 0))) (⟨rfl, xs_s _ _ _ _, mQ_1 hM _⟩) (fun _ _ => rfl) dX7_ready_13

set_option maxHeartbeats 4000000 in
set_option maxRecDepth 100000 in
theorem c_X7_play (l : Launch) (D : va_G) (ad : Nat → Nat) (cI cL cB : ClassId) (hI : gI 12 ad) (u : xS) (n : Nat) (B : Nat → Nat → Nat) (hB : gB n B) (x : Nat) (hx : x < 64 * 2 ^ n) (hM : mI u n B x) (i : Nat) (hi : i < n) (hrd : rdy1 B i (x / 64) = true) : ∀ sz, Met l yX7_play wsX7_play ({ frames := 2, cells := 0, slots := 0, locals := 50 }) (MP D ad cI cL cB u [.ref (ad 0), .int (nI i)] sz) (va_Qi (fun r_ u' => r_ = (if hol B i (x % 64) = true then 1 else 0) ∧ u'.1 0 0 = nI 0 ∧ mQ u' n B ((ply B i x)) 0) (MB D ad cI cL cB) (gA 12 ad sz)) 0 0 (gA 12 ad sz) := by
  intro sz
  refine z_met (cc := cX7_play) (maxL := 3) (ret := (some .boolean)) (by decide) rfl (Nat.le_of_ble_eq_true rfl) ?_
  intro pq lq sq mq aq Qq bq hmq cq C hr hml hown hts hlocks hK hX hsz hQ
  subst hsz
  have hT7 : ∀ w ∈ wsX70, w.before aq sq = true := fun w h => hts w ((by decide +kernel : ∀ w ∈ wsX70, w ∈ wsX7_play) w h)
  refine z_sub (L' := [(0, .ref (ad 0)), (1, .int (nI i))]) [0, 1] rfl ?_
  have hn8 : n ≤ 8 := hB.1
  have hi8 : i < 8 := Nat.lt_of_lt_of_le hi hB.1
  have hp2 : 2 ^ n ≤ 256 := pn8 hn8
  have hx8 : x < 16384 := by omega
  have hrb := (rdy_1 hi8).trans hrd
  refine z_aload_n C dX7_play_0 0 rfl ?_
  refine z_aload_n C dX7_play_1 0 rfl ?_
  refine z_iload_n C dX7_play_2 1 rfl ?_
  refine z_callVi mX_ok C hml hown hts hK hX (c_X7_isRule_vh l D ad cI cL cB hI u n hB.1 (mR_n hM.1) i hi) (cwV 1 hts gX7_play_X7_isRule rfl rfl rfl (by decide +kernel) ⟨Nat.le_of_ble_eq_true rfl, Nat.le_of_ble_eq_true rfl⟩) (by decide) (ci := 7) rfl rfl rfl (st := [.ref (ad 0)]) rfl (Nat.le_of_ble_eq_true rfl) dX7_play_3 ⟨Nat.le_of_ble_eq_true rfl, Nat.le_of_ble_eq_true rfl⟩ (fun r3 u3 h3 => ?_)
  obtain ⟨zr3, zu3⟩ := h3
  subst r3
  subst u3
  refine z_if_ne (tgt := 13) C dX7_play_6 (by decide) (fun zc6 => ?_) (fun zc6 => ?_)
  · skip
    have zn6 := z0_f zc6
    refine z_aload_n C dX7_play_13 0 rfl ?_
    refine z_aload_n C dX7_play_14 0 rfl ?_
    refine z_callVi mX_ok C hml hown hts hK hX (c_X7_now l D ad cI cL cB hI u x hx8 hM.2.1 hM.2.2.1) (cwV 0 hts gX7_play_X7_now rfl rfl rfl (by decide +kernel) ⟨Nat.le_of_ble_eq_true rfl, Nat.le_of_ble_eq_true rfl⟩) (by decide) (ci := 7) rfl rfl rfl (st := [.ref (ad 0), .ref (ad 0)]) rfl (Nat.le_of_ble_eq_true rfl) dX7_play_15 ⟨Nat.le_of_ble_eq_true rfl, Nat.le_of_ble_eq_true rfl⟩ (fun r15 u15 h15 => ?_)
    obtain ⟨zr15, zu15⟩ := h15
    subst r15
    subst u15
    refine z_callVi mX_ok C hml hown hts hK hX (c_X7_readyIn l D ad cI cL cB hI u n B hM.1 hB x hx) (cwV 1 hts gX7_play_X7_readyIn rfl rfl rfl (by decide +kernel) ⟨Nat.le_of_ble_eq_true rfl, Nat.le_of_ble_eq_true rfl⟩) (by decide) (ci := 7) rfl rfl rfl (st := [.ref (ad 0)]) rfl (Nat.le_of_ble_eq_true rfl) dX7_play_18 ⟨Nat.le_of_ble_eq_true rfl, Nat.le_of_ble_eq_true rfl⟩ (fun r18 u18 h18 => ?_)
    obtain ⟨zr18, zu18⟩ := h18
    subst r18
    subst u18
    refine z_iload_n C dX7_play_21 1 rfl ?_
    refine z_callSi mX_ok C hml hown hts hK hX (c_X7_has l D ad cI cL cB hI u (rdy B (x / 64)) (by have := rdy_lt B (x / 64); omega) i (by omega)) (va_cwS 2 hts gX7_play_X7_has rfl rfl rfl (by decide +kernel) ⟨Nat.le_of_ble_eq_true rfl, Nat.le_of_ble_eq_true rfl⟩) rfl (st := [.ref (ad 0)]) rfl (Nat.le_of_ble_eq_true rfl) dX7_play_22 ⟨Nat.le_of_ble_eq_true rfl, Nat.le_of_ble_eq_true rfl⟩ (fun r22 u22 h22 => ?_)
    obtain ⟨zr22, zu22⟩ := h22
    subst r22
    subst u22
    refine z_topi (y := nI 1) (by rw [if_pos hrb]; rfl) ?_
    refine z_if_ne (tgt := 32) C dX7_play_25 (by decide) (fun zc25 => ?_) (fun zc25 => ?_)
    · skip
      have zn25 := z0_f zc25
      refine z_iconst (v := nI 0) C (by decide) dX7_play_32 ?_
      refine z_put (q := 0) C hI tyX7 (T := TX7) (N := 18) (ci := 7) (own := RX7) (index := 45) hT7 hown hK (by decide) rfl rfl 0 (by decide) (hts (.fieldLink RX7 45 "TriggerAnalyzerModel" "thrown" "I") (by decide +kernel)) (fun _ h9 => h9) tyX7_ok nmX7 rfl rfl rfl (Nat.le_of_ble_eq_true rfl) (f' := mF ad cI cL cB ((xs u 0 0 (nI 0)))) rfl mF_ne dX7_play_33 ?_
      refine z_aload_n C dX7_play_36 0 rfl ?_
      refine z_get (q := 0) C (T := TX7) (N := 18) (ci := 7) (own := RX7) (index := 45) (v := .int ((xs u 0 0 (nI 0)).1 0 0)) hT7 hown hK (by decide) rfl rfl 0 (by decide) (hts (.fieldLink RX7 45 "TriggerAnalyzerModel" "thrown" "I") (by decide +kernel)) (fun _ h9 => h9) rfl dX7_play_37 ?_
      refine z_topi (y := nI 0) (xs_s _ _ _ _) ?_
      refine z_if_eq (tgt := 45) C dX7_play_40 (by decide) (fun zc40 => ?_) (fun zc40 => ?_)
      · skip
        have zn40 := z0_t (by omega) zc40
        refine z_aload_n C dX7_play_45 0 rfl ?_
        refine z_iload_n C dX7_play_46 1 rfl ?_
        refine z_aload_n C dX7_play_47 0 rfl ?_
        refine z_callVi mX_ok C hml hown hts hK hX (c_X7_now l D ad cI cL cB hI ((xs u 0 0 (nI 0))) x (by have := pn8 hB.1; omega) ((xs_j (by decide)).trans hM.2.1) ((xs_j (by decide)).trans hM.2.2.1)) (cwV 0 hts gX7_play_X7_now rfl rfl rfl (by decide +kernel) ⟨Nat.le_of_ble_eq_true rfl, Nat.le_of_ble_eq_true rfl⟩) (by decide) (ci := 7) rfl rfl rfl (st := [.int (nI i), .ref (ad 0)]) rfl (Nat.le_of_ble_eq_true rfl) dX7_play_48 ⟨Nat.le_of_ble_eq_true rfl, Nat.le_of_ble_eq_true rfl⟩ (fun r48 u48 h48 => ?_)
        obtain ⟨zr48, zu48⟩ := h48
        subst r48
        subst u48
        refine z_callVi mX_ok C hml hown hts hK hX (c_X7_isTrue l D ad cI cL cB hI ((xs u 0 0 (nI 0))) n B (mR_s hM.1 (Or.inl ⟨rfl, by decide⟩)) hB i hi x hx8) (cwV 2 hts gX7_play_X7_isTrue rfl rfl rfl (by decide +kernel) ⟨Nat.le_of_ble_eq_true rfl, Nat.le_of_ble_eq_true rfl⟩) (by decide) (ci := 7) rfl rfl rfl (st := []) rfl (Nat.le_of_ble_eq_true rfl) dX7_play_51 ⟨Nat.le_of_ble_eq_true rfl, Nat.le_of_ble_eq_true rfl⟩ (fun r51 u51 h51 => ?_)
        obtain ⟨zr51, zu51⟩ := h51
        subst r51
        subst u51
        refine z_istore_n (L' := [(2, .int ((if hol B i (x % 64) = true then 1 else 0))), (0, .ref (ad 0)), (1, .int (nI i))]) C dX7_play_54 (by decide) rfl ?_
        refine z_aload_n C dX7_play_55 1 rfl ?_
        refine z_aload_n C dX7_play_56 1 rfl ?_
        refine z_aload_n C dX7_play_57 1 rfl ?_
        refine z_callVi mX_ok C hml hown hts hK hX (c_X7_now l D ad cI cL cB hI ((xs u 0 0 (nI 0))) x (by have := pn8 hB.1; omega) ((xs_j (by decide)).trans hM.2.1) ((xs_j (by decide)).trans hM.2.2.1)) (cwV 0 hts gX7_play_X7_now rfl rfl rfl (by decide +kernel) ⟨Nat.le_of_ble_eq_true rfl, Nat.le_of_ble_eq_true rfl⟩) (by decide) (ci := 7) rfl rfl rfl (st := [.ref (ad 0), .ref (ad 0)]) rfl (Nat.le_of_ble_eq_true rfl) dX7_play_58 ⟨Nat.le_of_ble_eq_true rfl, Nat.le_of_ble_eq_true rfl⟩ (fun r58 u58 h58 => ?_)
        obtain ⟨zr58, zu58⟩ := h58
        subst r58
        subst u58
        refine z_iload_n C dX7_play_61 2 rfl ?_
        refine z_callVi mX_ok C hml hown hts hK hX (c_X7_playIn l D ad cI cL cB hI ((xs u 0 0 (nI 0))) n B (mR_s hM.1 (Or.inl ⟨rfl, by decide⟩)) hB i hi x hx8) (cwV 2 hts gX7_play_X7_playIn rfl rfl rfl (by decide +kernel) ⟨Nat.le_of_ble_eq_true rfl, Nat.le_of_ble_eq_true rfl⟩) (by decide) (ci := 7) rfl rfl rfl (st := [.ref (ad 0)]) rfl (Nat.le_of_ble_eq_true rfl) dX7_play_62 ⟨Nat.le_of_ble_eq_true rfl, Nat.le_of_ble_eq_true rfl⟩ (fun r62 u62 h62 => ?_)
        obtain ⟨zr62, zu62⟩ := h62
        subst r62
        subst u62
        refine z_callVv mX_ok C hml hown hts hK hX (c_X7_become_vx l D ad cI cL cB hI ((xs u 0 0 (nI 0))) (ply B i x) (ply_lt hB hi8 hx8)) (cwV 1 hts gX7_play_X7_become rfl rfl rfl (by decide +kernel) ⟨Nat.le_of_ble_eq_true rfl, Nat.le_of_ble_eq_true rfl⟩) (by decide) (ci := 7) rfl rfl rfl (st := []) rfl (Nat.le_of_ble_eq_true rfl) dX7_play_65 ⟨Nat.le_of_ble_eq_true rfl, Nat.le_of_ble_eq_true rfl⟩ (fun u65 h65 => ?_)
        subst u65
        refine z_aload_n C dX7_play_68 1 rfl ?_
        refine z_iconst (v := nI 0) C (by decide) dX7_play_69 ?_
        refine z_put (q := 0) C hI tyX7 (T := TX7) (N := 18) (ci := 7) (own := RX7) (index := 67) hT7 hown hK (by decide) rfl rfl 11 (by decide) (hts (.fieldLink RX7 67 "TriggerAnalyzerModel" "isExplored" "Z") (by decide +kernel)) (fun _ h9 => h9) tyX7_ok nmX7 rfl rfl rfl (Nat.le_of_ble_eq_true rfl) (f' := mF ad cI cL cB ((xs ((xs (xs ((xs u 0 0 (nI 0))) 0 9 (nI (((ply B i x)) % 64))) 0 10 (nI (((ply B i x)) / 64)))) 0 11 (nI 0)))) rfl mF_ne dX7_play_70 ?_
        refine z_iload_n C dX7_play_73 0 rfl ?_
        exact z_zret C hr hlocks (by split <;> rfl) hQ ((xs ((xs (xs ((xs u 0 0 (nI 0))) 0 9 (nI (((ply B i x)) % 64))) 0 10 (nI (((ply B i x)) / 64)))) 0 11 (nI 0))) (⟨rfl, by simp [xs_at], mQ_of (mR_s (mR_s (mR_s (mR_s hM.1 (Or.inl ⟨rfl, by decide⟩)) (Or.inl ⟨rfl, by decide⟩)) (Or.inl ⟨rfl, by decide⟩)) (Or.inl ⟨rfl, by decide⟩)) (by simp [xs_at]) (by simp [xs_at]) ((xs_s _ _ _ _).trans rfl)⟩) (fun _ _ => rfl) dX7_play_74
      · skip
        have zn40 := z0_f zc40
        exact absurd zn40 (by decide)
    · skip
      have zn25 := z0_t (by omega) zc25
      exact absurd zn25 (by decide)
  · skip
    have zn6 := z0_t (by omega) zc6
    exact absurd zn6 (by decide)

set_option maxHeartbeats 4000000 in
set_option maxRecDepth 100000 in
theorem c_X7_play_x2 (l : Launch) (D : va_G) (ad : Nat → Nat) (cI cL cB : ClassId) (hI : gI 12 ad) (u : xS) (n : Nat) (B : Nat → Nat → Nat) (hB : gB n B) (x : Nat) (hx : x < 64 * 2 ^ n) (hM : mI u n B x) (i : Nat) (hi : i < n) (hrd : rdy1 B i (x / 64) = false) : ∀ sz, Met l yX7_play wsX7_play ({ frames := 2, cells := 0, slots := 0, locals := 50 }) (MP D ad cI cL cB u [.ref (ad 0), .int (nI i)] sz) (va_Qi (fun r_ u' => r_ = nI 0 ∧ u'.1 0 0 = nI 2 ∧ mQ u' n B x (u.1 0 11)) (MB D ad cI cL cB) (gA 12 ad sz)) 0 0 (gA 12 ad sz) := by
  intro sz
  refine z_met (cc := cX7_play) (maxL := 3) (ret := (some .boolean)) (by decide) rfl (Nat.le_of_ble_eq_true rfl) ?_
  intro pq lq sq mq aq Qq bq hmq cq C hr hml hown hts hlocks hK hX hsz hQ
  subst hsz
  have hT7 : ∀ w ∈ wsX70, w.before aq sq = true := fun w h => hts w ((by decide +kernel : ∀ w ∈ wsX70, w ∈ wsX7_play) w h)
  refine z_sub (L' := [(0, .ref (ad 0)), (1, .int (nI i))]) [0, 1] rfl ?_
  have hn8 : n ≤ 8 := hB.1
  have hi8 : i < 8 := Nat.lt_of_lt_of_le hi hB.1
  have hp2 : 2 ^ n ≤ 256 := pn8 hn8
  have hx8 : x < 16384 := by omega
  have hrb := (rdy_1 hi8).trans hrd
  refine z_aload_n C dX7_play_0 0 rfl ?_
  refine z_aload_n C dX7_play_1 0 rfl ?_
  refine z_iload_n C dX7_play_2 1 rfl ?_
  refine z_callVi mX_ok C hml hown hts hK hX (c_X7_isRule_vh l D ad cI cL cB hI u n hB.1 (mR_n hM.1) i hi) (cwV 1 hts gX7_play_X7_isRule rfl rfl rfl (by decide +kernel) ⟨Nat.le_of_ble_eq_true rfl, Nat.le_of_ble_eq_true rfl⟩) (by decide) (ci := 7) rfl rfl rfl (st := [.ref (ad 0)]) rfl (Nat.le_of_ble_eq_true rfl) dX7_play_3 ⟨Nat.le_of_ble_eq_true rfl, Nat.le_of_ble_eq_true rfl⟩ (fun r3 u3 h3 => ?_)
  obtain ⟨zr3, zu3⟩ := h3
  subst r3
  subst u3
  refine z_if_ne (tgt := 13) C dX7_play_6 (by decide) (fun zc6 => ?_) (fun zc6 => ?_)
  · skip
    have zn6 := z0_f zc6
    refine z_aload_n C dX7_play_13 0 rfl ?_
    refine z_aload_n C dX7_play_14 0 rfl ?_
    refine z_callVi mX_ok C hml hown hts hK hX (c_X7_now l D ad cI cL cB hI u x hx8 hM.2.1 hM.2.2.1) (cwV 0 hts gX7_play_X7_now rfl rfl rfl (by decide +kernel) ⟨Nat.le_of_ble_eq_true rfl, Nat.le_of_ble_eq_true rfl⟩) (by decide) (ci := 7) rfl rfl rfl (st := [.ref (ad 0), .ref (ad 0)]) rfl (Nat.le_of_ble_eq_true rfl) dX7_play_15 ⟨Nat.le_of_ble_eq_true rfl, Nat.le_of_ble_eq_true rfl⟩ (fun r15 u15 h15 => ?_)
    obtain ⟨zr15, zu15⟩ := h15
    subst r15
    subst u15
    refine z_callVi mX_ok C hml hown hts hK hX (c_X7_readyIn l D ad cI cL cB hI u n B hM.1 hB x hx) (cwV 1 hts gX7_play_X7_readyIn rfl rfl rfl (by decide +kernel) ⟨Nat.le_of_ble_eq_true rfl, Nat.le_of_ble_eq_true rfl⟩) (by decide) (ci := 7) rfl rfl rfl (st := [.ref (ad 0)]) rfl (Nat.le_of_ble_eq_true rfl) dX7_play_18 ⟨Nat.le_of_ble_eq_true rfl, Nat.le_of_ble_eq_true rfl⟩ (fun r18 u18 h18 => ?_)
    obtain ⟨zr18, zu18⟩ := h18
    subst r18
    subst u18
    refine z_iload_n C dX7_play_21 1 rfl ?_
    refine z_callSi mX_ok C hml hown hts hK hX (c_X7_has l D ad cI cL cB hI u (rdy B (x / 64)) (by have := rdy_lt B (x / 64); omega) i (by omega)) (va_cwS 2 hts gX7_play_X7_has rfl rfl rfl (by decide +kernel) ⟨Nat.le_of_ble_eq_true rfl, Nat.le_of_ble_eq_true rfl⟩) rfl (st := [.ref (ad 0)]) rfl (Nat.le_of_ble_eq_true rfl) dX7_play_22 ⟨Nat.le_of_ble_eq_true rfl, Nat.le_of_ble_eq_true rfl⟩ (fun r22 u22 h22 => ?_)
    obtain ⟨zr22, zu22⟩ := h22
    subst r22
    subst u22
    refine z_topi (y := nI 0) (by rw [hrb]; rfl) ?_
    refine z_if_ne (tgt := 32) C dX7_play_25 (by decide) (fun zc25 => ?_) (fun zc25 => ?_)
    · skip
      have zn25 := z0_f zc25
      exact absurd zn25 (by decide)
    · skip
      have zn25 := z0_t (by omega) zc25
      refine z_iconst (v := nI 2) C (by decide) dX7_play_28 ?_
      refine z_goto (tgt := 33) C dX7_play_29 (by decide) ?_
      refine z_put (q := 0) C hI tyX7 (T := TX7) (N := 18) (ci := 7) (own := RX7) (index := 45) hT7 hown hK (by decide) rfl rfl 0 (by decide) (hts (.fieldLink RX7 45 "TriggerAnalyzerModel" "thrown" "I") (by decide +kernel)) (fun _ h9 => h9) tyX7_ok nmX7 rfl rfl rfl (Nat.le_of_ble_eq_true rfl) (f' := mF ad cI cL cB ((xs u 0 0 (nI 2)))) rfl mF_ne dX7_play_33 ?_
      refine z_aload_n C dX7_play_36 0 rfl ?_
      refine z_get (q := 0) C (T := TX7) (N := 18) (ci := 7) (own := RX7) (index := 45) (v := .int ((xs u 0 0 (nI 2)).1 0 0)) hT7 hown hK (by decide) rfl rfl 0 (by decide) (hts (.fieldLink RX7 45 "TriggerAnalyzerModel" "thrown" "I") (by decide +kernel)) (fun _ h9 => h9) rfl dX7_play_37 ?_
      refine z_topi (y := nI 2) (xs_s _ _ _ _) ?_
      refine z_if_eq (tgt := 45) C dX7_play_40 (by decide) (fun zc40 => ?_) (fun zc40 => ?_)
      · skip
        have zn40 := z0_t (by omega) zc40
        exact absurd zn40 (by decide)
      · skip
        have zn40 := z0_f zc40
        refine z_iconst (v := nI 0) C (by decide) dX7_play_43 ?_
        exact z_zret C hr hlocks rfl hQ ((xs u 0 0 (nI 2))) (⟨rfl, xs_s _ _ _ _, mQ_1 hM _⟩) (fun _ _ => rfl) dX7_play_44
  · skip
    have zn6 := z0_t (by omega) zc6
    exact absurd zn6 (by decide)

set_option maxHeartbeats 4000000 in
set_option maxRecDepth 100000 in
theorem c_X7_play_x1 (l : Launch) (D : va_G) (ad : Nat → Nat) (cI cL cB : ClassId) (hI : gI 12 ad) (u : xS) (n : Nat) (B : Nat → Nat → Nat) (hB : gB n B) (x : Nat) (hx : x < 64 * 2 ^ n) (hM : mI u n B x) (x1 : Int32) (hf : bad n x1) : ∀ sz, Met l yX7_play wsX7_play ({ frames := 2, cells := 0, slots := 0, locals := 50 }) (MP D ad cI cL cB u [.ref (ad 0), .int (x1)] sz) (va_Qi (fun r_ u' => r_ = nI 0 ∧ u'.1 0 0 = nI 1 ∧ mQ u' n B x (u.1 0 11)) (MB D ad cI cL cB) (gA 12 ad sz)) 0 0 (gA 12 ad sz) := by
  intro sz
  refine z_met (cc := cX7_play) (maxL := 3) (ret := (some .boolean)) (by decide) rfl (Nat.le_of_ble_eq_true rfl) ?_
  intro pq lq sq mq aq Qq bq hmq cq C hr hml hown hts hlocks hK hX hsz hQ
  subst hsz
  have hT7 : ∀ w ∈ wsX70, w.before aq sq = true := fun w h => hts w ((by decide +kernel : ∀ w ∈ wsX70, w ∈ wsX7_play) w h)
  refine z_sub (L' := [(0, .ref (ad 0)), (1, .int (x1))]) [0, 1] rfl ?_
  refine z_aload_n C dX7_play_0 0 rfl ?_
  refine z_aload_n C dX7_play_1 0 rfl ?_
  refine z_iload_n C dX7_play_2 1 rfl ?_
  refine z_callVi mX_ok C hml hown hts hK hX (c_X7_isRule_x l D ad cI cL cB hI u n hB.1 (mR_n hM.1) x1 hf) (cwV 1 hts gX7_play_X7_isRule rfl rfl rfl (by decide +kernel) ⟨Nat.le_of_ble_eq_true rfl, Nat.le_of_ble_eq_true rfl⟩) (by decide) (ci := 7) rfl rfl rfl (st := [.ref (ad 0)]) rfl (Nat.le_of_ble_eq_true rfl) dX7_play_3 ⟨Nat.le_of_ble_eq_true rfl, Nat.le_of_ble_eq_true rfl⟩ (fun r3 u3 h3 => ?_)
  obtain ⟨zr3, zu3⟩ := h3
  subst r3
  subst u3
  refine z_if_ne (tgt := 13) C dX7_play_6 (by decide) (fun zc6 => ?_) (fun zc6 => ?_)
  · skip
    have zn6 := z0_f zc6
    exact absurd zn6 (by decide)
  · skip
    have zn6 := z0_t (by omega) zc6
    refine z_iconst (v := nI 1) C (by decide) dX7_play_9 ?_
    refine z_goto (tgt := 33) C dX7_play_10 (by decide) ?_
    refine z_put (q := 0) C hI tyX7 (T := TX7) (N := 18) (ci := 7) (own := RX7) (index := 45) hT7 hown hK (by decide) rfl rfl 0 (by decide) (hts (.fieldLink RX7 45 "TriggerAnalyzerModel" "thrown" "I") (by decide +kernel)) (fun _ h9 => h9) tyX7_ok nmX7 rfl rfl rfl (Nat.le_of_ble_eq_true rfl) (f' := mF ad cI cL cB ((xs u 0 0 (nI 1)))) rfl mF_ne dX7_play_33 ?_
    refine z_aload_n C dX7_play_36 0 rfl ?_
    refine z_get (q := 0) C (T := TX7) (N := 18) (ci := 7) (own := RX7) (index := 45) (v := .int ((xs u 0 0 (nI 1)).1 0 0)) hT7 hown hK (by decide) rfl rfl 0 (by decide) (hts (.fieldLink RX7 45 "TriggerAnalyzerModel" "thrown" "I") (by decide +kernel)) (fun _ h9 => h9) rfl dX7_play_37 ?_
    refine z_topi (y := nI 1) (xs_s _ _ _ _) ?_
    refine z_if_eq (tgt := 45) C dX7_play_40 (by decide) (fun zc40 => ?_) (fun zc40 => ?_)
    · skip
      have zn40 := z0_t (by omega) zc40
      exact absurd zn40 (by decide)
    · skip
      have zn40 := z0_f zc40
      refine z_iconst (v := nI 0) C (by decide) dX7_play_43 ?_
      exact z_zret C hr hlocks rfl hQ ((xs u 0 0 (nI 1))) (⟨rfl, xs_s _ _ _ _, mQ_1 hM _⟩) (fun _ _ => rfl) dX7_play_44
