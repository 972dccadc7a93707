set_option maxHeartbeats 4000000 in
set_option maxRecDepth 100000 in
theorem c_X3_isFinite (l : Launch) (D : va_G) (ad : Nat → Nat) (cI cL cR : ClassId) (hI : gI 34 ad) (u : xS) (hb : u.1 28 5 = 0 ∨ u.1 28 5 = 1) : ∀ sz, Met l yX3_isFinite wsX3_isFinite ({ frames := 0, cells := 0, slots := 0, locals := 0 }) (XP D ad cI cL cR u [.ref (ad 28)] sz) (va_Qi (fun r_ u' => r_ = u.1 28 5 ∧ u' = u) (XB D ad cI cL cR) (gA 34 ad sz)) 0 0 (gA 34 ad sz) := by
  intro sz
  refine z_met (cc := cX3_isFinite) (maxL := 1) (ret := (some .boolean)) (by decide) rfl (Nat.le_of_ble_eq_true rfl) ?_
  intro pq lq sq mq aq Qq bq hmq cq C hr hml hown hts hlocks hK hX hsz hQ
  subst hsz
  have hT3 : ∀ w ∈ wsX30, w.before aq sq = true := fun w h => hts w ((by decide +kernel : ∀ w ∈ wsX30, w ∈ wsX3_isFinite) w h)
  refine z_sub (L' := [(0, .ref (ad 28))]) [0] rfl ?_
  refine z_aload_n C dX3_isFinite_0 0 rfl ?_
  refine z_get (q := 28) C (T := TX3) (N := 8) (ci := 3) (own := RX3) (index := 25) (v := .int (u.1 28 5)) hT3 hown hK (by decide) rfl rfl 5 (by decide) (hts (.fieldLink RX3 25 "TriggerAnalyzer$Prospect" "finite" "Z") (by decide +kernel)) (fun _ h9 => h9) rfl dX3_isFinite_1 ?_
  exact z_zret C hr hlocks (by rcases hb with hb | hb <;> rw [hb] <;> rfl) hQ u (⟨rfl, rfl⟩) (fun _ _ => rfl) dX3_isFinite_4

set_option maxHeartbeats 4000000 in
set_option maxRecDepth 100000 in
theorem c_X3_mostPlays (l : Launch) (D : va_G) (ad : Nat → Nat) (cI cL cR : ClassId) (hI : gI 34 ad) (u : xS) : ∀ sz, Met l yX3_mostPlays wsX3_mostPlays ({ frames := 0, cells := 0, slots := 0, locals := 0 }) (XP D ad cI cL cR u [.ref (ad 28)] sz) (va_Qi (fun r_ u' => r_ = (if u.1 28 5 = 0 then -1 else u.1 28 6) ∧ u' = u) (XB D ad cI cL cR) (gA 34 ad sz)) 0 0 (gA 34 ad sz) := by
  intro sz
  refine z_met (cc := cX3_mostPlays) (maxL := 1) (ret := (some .int)) (by decide) rfl (Nat.le_of_ble_eq_true rfl) ?_
  intro pq lq sq mq aq Qq bq hmq cq C hr hml hown hts hlocks hK hX hsz hQ
  subst hsz
  have hT3 : ∀ w ∈ wsX30, w.before aq sq = true := fun w h => hts w ((by decide +kernel : ∀ w ∈ wsX30, w ∈ wsX3_mostPlays) w h)
  refine z_sub (L' := [(0, .ref (ad 28))]) [0] rfl ?_
  refine z_aload_n C dX3_mostPlays_0 0 rfl ?_
  refine z_get (q := 28) C (T := TX3) (N := 8) (ci := 3) (own := RX3) (index := 25) (v := .int (u.1 28 5)) hT3 hown hK (by decide) rfl rfl 5 (by decide) (hts (.fieldLink RX3 25 "TriggerAnalyzer$Prospect" "finite" "Z") (by decide +kernel)) (fun _ h9 => h9) rfl dX3_mostPlays_1 ?_
  refine z_if_eq (tgt := 14) C dX3_mostPlays_4 (by decide) (fun zc4 => ?_) (fun zc4 => ?_)
  · skip
    refine z_iconst (v := (-1)) C (by decide) dX3_mostPlays_14 ?_
    exact z_iret C hr hlocks hQ u (⟨by rw [if_pos zc4], rfl⟩) (fun _ _ => rfl) dX3_mostPlays_15
  · skip
    refine z_aload_n C dX3_mostPlays_7 0 rfl ?_
    refine z_get (q := 28) C (T := TX3) (N := 8) (ci := 3) (own := RX3) (index := 29) (v := .int (u.1 28 6)) hT3 hown hK (by decide) rfl rfl 6 (by decide) (hts (.fieldLink RX3 29 "TriggerAnalyzer$Prospect" "longestRow" "I") (by decide +kernel)) (fun _ h9 => h9) rfl dX3_mostPlays_8 ?_
    refine z_goto (tgt := 15) C dX3_mostPlays_11 (by decide) ?_
    exact z_iret C hr hlocks hQ u (⟨by rw [if_neg zc4], rfl⟩) (fun _ _ => rfl) dX3_mostPlays_15

set_option maxHeartbeats 4000000 in
set_option maxRecDepth 100000 in
theorem c_X3_wayCount (l : Launch) (D : va_G) (ad : Nat → Nat) (cI cL cR : ClassId) (hI : gI 34 ad) (u : xS) : ∀ sz, Met l yX3_wayCount wsX3_wayCount ({ frames := 0, cells := 0, slots := 0, locals := 0 }) (XP D ad cI cL cR u [.ref (ad 28)] sz) (va_Ql (fun r_ u' => r_ = (if u.1 28 5 = 0 then -1 else u.2 28 7) ∧ u' = u) (XB D ad cI cL cR) (gA 34 ad sz)) 0 0 (gA 34 ad sz) := by
  intro sz
  refine z_met (cc := cX3_wayCount) (maxL := 1) (ret := (some .long)) (by decide) rfl (Nat.le_of_ble_eq_true rfl) ?_
  intro pq lq sq mq aq Qq bq hmq cq C hr hml hown hts hlocks hK hX hsz hQ
  subst hsz
  have hT3 : ∀ w ∈ wsX30, w.before aq sq = true := fun w h => hts w ((by decide +kernel : ∀ w ∈ wsX30, w ∈ wsX3_wayCount) w h)
  refine z_sub (L' := [(0, .ref (ad 28))]) [0] rfl ?_
  refine z_aload_n C dX3_wayCount_0 0 rfl ?_
  refine z_get (q := 28) C (T := TX3) (N := 8) (ci := 3) (own := RX3) (index := 25) (v := .int (u.1 28 5)) hT3 hown hK (by decide) rfl rfl 5 (by decide) (hts (.fieldLink RX3 25 "TriggerAnalyzer$Prospect" "finite" "Z") (by decide +kernel)) (fun _ h9 => h9) rfl dX3_wayCount_1 ?_
  refine z_if_eq (tgt := 14) C dX3_wayCount_4 (by decide) (fun zc4 => ?_) (fun zc4 => ?_)
  · skip
    refine z_ldc2 (v := (-1)) C hown (hts (.constantLong RX3 37 (-1)) (by decide +kernel)) dX3_wayCount_14 ?_
    exact z_lret C hr hlocks hQ u (⟨by rw [if_pos zc4], rfl⟩) (fun _ _ => rfl) dX3_wayCount_17
  · skip
    refine z_aload_n C dX3_wayCount_7 0 rfl ?_
    refine z_get (q := 28) C (T := TX3) (N := 8) (ci := 3) (own := RX3) (index := 33) (v := .long (u.2 28 7)) hT3 hown hK (by decide) rfl rfl 7 (by decide) (hts (.fieldLink RX3 33 "TriggerAnalyzer$Prospect" "endedRows" "J") (by decide +kernel)) (fun _ h9 => h9) rfl dX3_wayCount_8 ?_
    refine z_goto (tgt := 17) C dX3_wayCount_11 (by decide) ?_
    exact z_lret C hr hlocks hQ u (⟨by rw [if_neg zc4], rfl⟩) (fun _ _ => rfl) dX3_wayCount_17

set_option maxHeartbeats 4000000 in
set_option maxRecDepth 100000 in
theorem c_X3_enqueue (l : Launch) (D : va_G) (ad : Nat → Nat) (cI cL cR : ClassId) (hI : gI 34 ad) (u : xS) (i qn : Nat) (hq9 : qn < 1000) (hq : u.1 28 4 = nI qn) : ∀ sz, Met l yX3_enqueue wsX3_enqueue ({ frames := 0, cells := 0, slots := 0, locals := 0 }) (XP D ad cI cL cR u [.ref (ad 28), .int (nI i)] sz) (va_Qv (fun u' => u' = xs (xs u 32 qn (nI i)) 28 4 (nI (qn + 1))) (XB D ad cI cL cR) (gA 34 ad sz)) 0 0 (gA 34 ad sz) := by
  intro sz
  refine z_met (cc := cX3_enqueue) (maxL := 2) (ret := none) (by decide) rfl (Nat.le_of_ble_eq_true rfl) ?_
  intro pq lq sq mq aq Qq bq hmq cq C hr hml hown hts hlocks hK hX hsz hQ
  subst hsz
  have hT3 : ∀ w ∈ wsX30, w.before aq sq = true := fun w h => hts w ((by decide +kernel : ∀ w ∈ wsX30, w ∈ wsX3_enqueue) w h)
  refine z_sub (L' := [(0, .ref (ad 28)), (1, .int (nI i))]) [0, 1] rfl ?_
  refine z_aload_n C dX3_enqueue_0 0 rfl ?_
  refine z_get (q := 28) C (T := TX3) (N := 8) (ci := 3) (own := RX3) (index := 46) (v := .int (u.1 28 4)) hT3 hown hK (by decide) rfl rfl 4 (by decide) (hts (.fieldLink RX3 46 "TriggerAnalyzer$Prospect" "queued" "I") (by decide +kernel)) (fun _ h9 => h9) rfl dX3_enqueue_1 ?_
  refine z_topi (y := nI qn) (hq) ?_
  refine z_if_lt (tgt := 37) C dX3_enqueue_4 (by decide) (fun zc4 => ?_) (fun zc4 => ?_)
  · skip
    exact (zneg (by omega) zc4).elim
  · skip
    refine z_aload_n C dX3_enqueue_7 0 rfl ?_
    refine z_get (q := 28) C (T := TX3) (N := 8) (ci := 3) (own := RX3) (index := 46) (v := .int (u.1 28 4)) hT3 hown hK (by decide) rfl rfl 4 (by decide) (hts (.fieldLink RX3 46 "TriggerAnalyzer$Prospect" "queued" "I") (by decide +kernel)) (fun _ h9 => h9) rfl dX3_enqueue_8 ?_
    refine z_topi (y := nI qn) (hq) ?_
    refine z_sipush (v := nI 1000) C (by decide) dX3_enqueue_11 ?_
    refine z_icmp_ge (tgt := 37) C dX3_enqueue_14 (by decide) (fun zc14 => ?_) (fun zc14 => ?_)
    · skip
      have zn14 := zge_t (a := qn) (b := 1000) (by omega) (by omega) zc14
      exact False.elim (by omega)
    · skip
      have zn14 := zge_f (a := qn) (b := 1000) (by omega) (by omega) zc14
      refine z_aload_n C dX3_enqueue_17 0 rfl ?_
      refine z_get (q := 28) C (T := TX3) (N := 8) (ci := 3) (own := RX3) (index := 22) (v := .ref (ad 32)) hT3 hown hK (by decide) rfl rfl 3 (by decide) (hts (.fieldLink RX3 22 "TriggerAnalyzer$Prospect" "queue" "[I") (by decide +kernel)) (fun _ h9 => h9) rfl dX3_enqueue_18 ?_
      refine z_aload_n C dX3_enqueue_21 0 rfl ?_
      refine z_get (q := 28) C (T := TX3) (N := 8) (ci := 3) (own := RX3) (index := 46) (v := .int (u.1 28 4)) hT3 hown hK (by decide) rfl rfl 4 (by decide) (hts (.fieldLink RX3 46 "TriggerAnalyzer$Prospect" "queued" "I") (by decide +kernel)) (fun _ h9 => h9) rfl dX3_enqueue_22 ?_
      refine z_topi (y := nI qn) (hq) ?_
      refine z_iload_n C dX3_enqueue_25 1 rfl ?_
      refine z_iast (q := 32) (len := 1000) (k := qn) C hI hK (by decide) rfl 0 rfl (rfl) (by omega) (by decide) (f' := xF ad cI cL cR ((xs u 32 qn (nI i)))) rfl xF_ne dX3_enqueue_26 ?_
      refine z_aload_n C dX3_enqueue_27 0 rfl ?_
      refine z_dup C rfl dX3_enqueue_28 ?_
      refine z_get (q := 28) C (T := TX3) (N := 8) (ci := 3) (own := RX3) (index := 46) (v := .int ((xs u 32 qn (nI i)).1 28 4)) hT3 hown hK (by decide) rfl rfl 4 (by decide) (hts (.fieldLink RX3 46 "TriggerAnalyzer$Prospect" "queued" "I") (by decide +kernel)) (fun _ h9 => h9) rfl dX3_enqueue_29 ?_
      refine z_topi (y := u.1 28 4) (xs_c (by decide) _) ?_
      refine z_topi (y := nI qn) (hq) ?_
      refine z_iconst (v := nI 1) C (by decide) dX3_enqueue_32 ?_
      refine z_iadd C dX3_enqueue_33 ?_
      refine z_topi (y := nI (qn + 1)) (nI_add qn 1) ?_
      refine z_put (q := 28) C hI tyX3 (T := TX3) (N := 8) (ci := 3) (own := RX3) (index := 46) hT3 hown hK (by decide) rfl rfl 4 (by decide) (hts (.fieldLink RX3 46 "TriggerAnalyzer$Prospect" "queued" "I") (by decide +kernel)) (fun _ h9 => h9) tyX3_ok nmX3 rfl rfl rfl (Nat.le_of_ble_eq_true rfl) (f' := xF ad cI cL cR ((xs ((xs u 32 qn (nI i))) 28 4 (nI (qn + 1))))) rfl xF_ne dX3_enqueue_34 ?_
      exact z_vret C hr hlocks hQ ((xs ((xs u 32 qn (nI i))) 28 4 (nI (qn + 1)))) (rfl) (fun _ _ => rfl) dX3_enqueue_37

set_option maxHeartbeats 4000000 in
set_option maxRecDepth 100000 in
theorem c_X3_lead (l : Launch) (D : va_G) (ad : Nat → Nat) (cI cL cR : ClassId) (hI : gI 34 ad) (u : xS) (i : Nat) (hi : i < 1000) (a : Nat) (ha : a < 2 ^ 30) (hinc : u.1 29 i = nI (a + 1)) (b pu : Nat) (hb : b < 2 ^ 30) (hpu : pu < 2 ^ 30) (hpl : u.1 30 i = nI b) (qn : Nat) (hqn : a = 0 → qn < 1000) (hq : u.1 28 4 = nI qn) (ru : Int64) : ∀ sz, Met l yX3_lead wsX3_lead ({ frames := 1, cells := 0, slots := 0, locals := 21 }) (XP D ad cI cL cR u [.ref (ad 28), .int (nI i), .int (nI pu), .long (ru)] sz) (va_Qv (fun u' => u' = ldU u i a b pu qn ru) (XB D ad cI cL cR) (gA 34 ad sz)) 0 0 (gA 34 ad sz) := by
  intro sz
  refine z_met (cc := cX3_lead) (maxL := 5) (ret := none) (by decide) rfl (Nat.le_of_ble_eq_true rfl) ?_
  intro pq lq sq mq aq Qq bq hmq cq C hr hml hown hts hlocks hK hX hsz hQ
  subst hsz
  have hT3 : ∀ w ∈ wsX30, w.before aq sq = true := fun w h => hts w ((by decide +kernel : ∀ w ∈ wsX30, w ∈ wsX3_lead) w h)
  refine z_sub (L' := [(0, .ref (ad 28)), (1, .int (nI i)), (2, .int (nI pu)), (3, .long (ru))]) [0, 1, 2, 3] rfl ?_
  refine z_iload_n C dX3_lead_0 1 rfl ?_
  refine z_if_lt (tgt := 11) C dX3_lead_1 (by decide) (fun zc1 => ?_) (fun zc1 => ?_)
  · skip
    exact (zneg (by omega) zc1).elim
  · skip
    refine z_iload_n C dX3_lead_4 1 rfl ?_
    refine z_sipush (v := nI 1000) C (by decide) dX3_lead_5 ?_
    refine z_icmp_lt (tgt := 12) C dX3_lead_8 (by decide) (fun zc8 => ?_) (fun zc8 => ?_)
    · skip
      have zn8 := zlt_t (a := i) (b := 1000) (by omega) (by omega) zc8
      refine z_aload_n C dX3_lead_12 0 rfl ?_
      refine z_get (q := 28) C (T := TX3) (N := 8) (ci := 3) (own := RX3) (index := 15) (v := .ref (ad 30)) hT3 hown hK (by decide) rfl rfl 1 (by decide) (hts (.fieldLink RX3 15 "TriggerAnalyzer$Prospect" "plays" "[I") (by decide +kernel)) (fun _ h9 => h9) rfl dX3_lead_13 ?_
      refine z_iload_n C dX3_lead_16 1 rfl ?_
      refine z_aload_n C dX3_lead_17 0 rfl ?_
      refine z_get (q := 28) C (T := TX3) (N := 8) (ci := 3) (own := RX3) (index := 15) (v := .ref (ad 30)) hT3 hown hK (by decide) rfl rfl 1 (by decide) (hts (.fieldLink RX3 15 "TriggerAnalyzer$Prospect" "plays" "[I") (by decide +kernel)) (fun _ h9 => h9) rfl dX3_lead_18 ?_
      refine z_iload_n C dX3_lead_21 1 rfl ?_
      refine z_iald (q := 30) (len := 1000) (k := i) C hK (by decide) rfl 0 rfl (rfl) (by omega) (by decide) dX3_lead_22 ?_
      refine z_topi (y := nI b) (hpl) ?_
      refine z_iload_n C dX3_lead_23 2 rfl ?_
      refine z_imax C hml (own := RX3) (index := 71) hown (hts (.methodLink RX3 71 Lib.Math.max.name) (by decide +kernel)) (hts (.static Lib.Math.max.name) (by decide +kernel)) (hts (.initialized "java/lang/Math") (by decide +kernel)) (hts (.code Lib.Math.max.name Lib.Math.max.code 2 (some .int)) (by decide +kernel)) (Nat.le_of_ble_eq_true rfl) (Nat.le_of_ble_eq_true rfl) (Nat.le_of_ble_eq_true rfl) (Nat.le_of_ble_eq_true rfl) (v := nI (Nat.max b pu)) (zi_max (by omega) (by omega)) dX3_lead_24 ?_
      refine z_iast (q := 30) (len := 1000) (k := i) C hI hK (by decide) rfl 0 rfl (rfl) (by omega) (by decide) (f' := xF ad cI cL cR ((xs u 30 i (nI (Nat.max b pu))))) rfl xF_ne dX3_lead_27 ?_
      refine z_aload_n C dX3_lead_28 0 rfl ?_
      refine z_get (q := 28) C (T := TX3) (N := 8) (ci := 3) (own := RX3) (index := 18) (v := .ref (ad 31)) hT3 hown hK (by decide) rfl rfl 2 (by decide) (hts (.fieldLink RX3 18 "TriggerAnalyzer$Prospect" "rows" "[J") (by decide +kernel)) (fun _ h9 => h9) rfl dX3_lead_29 ?_
      refine z_iload_n C dX3_lead_32 1 rfl ?_
      refine z_dup2 C rfl rfl dX3_lead_33 ?_
      refine z_lald (q := 31) (len := 1000) (k := i) C hK (by decide) rfl 1 rfl (rfl) (by omega) (by decide) dX3_lead_34 ?_
      refine z_topl (y := u.2 31 i) (congrFun (congrFun (xs_2 _ _ _ _) 31) i) ?_
      refine z_lload_n C dX3_lead_35 3 rfl ?_
      refine z_ladd C dX3_lead_36 ?_
      refine z_last (q := 31) (len := 1000) (k := i) C hI hK (by decide) rfl 1 rfl (rfl) (by omega) (by decide) (f' := xF ad cI cL cR ((xl ((xs u 30 i (nI (Nat.max b pu)))) 31 i ((u.2 31 i) + (ru))))) rfl xF_neL dX3_lead_37 ?_
      refine z_aload_n C dX3_lead_38 0 rfl ?_
      refine z_get (q := 28) C (T := TX3) (N := 8) (ci := 3) (own := RX3) (index := 9) (v := .ref (ad 29)) hT3 hown hK (by decide) rfl rfl 0 (by decide) (hts (.fieldLink RX3 9 "TriggerAnalyzer$Prospect" "incoming" "[I") (by decide +kernel)) (fun _ h9 => h9) rfl dX3_lead_39 ?_
      refine z_iload_n C dX3_lead_42 1 rfl ?_
      refine z_dup2 C rfl rfl dX3_lead_43 ?_
      refine z_iald (q := 29) (len := 1000) (k := i) C hK (by decide) rfl 0 rfl (rfl) (by omega) (by decide) dX3_lead_44 ?_
      refine z_topi (y := u.1 29 i) ((congrFun (congrFun (xl_1 _ _ _ _) 29) i).trans (xs_c (by decide) _)) ?_
      refine z_topi (y := nI (a + 1)) (hinc) ?_
      refine z_iconst (v := nI 1) C (by decide) dX3_lead_45 ?_
      refine z_isub C dX3_lead_46 ?_
      refine z_topi (y := nI a) (nI_pred a) ?_
      refine z_iast (q := 29) (len := 1000) (k := i) C hI hK (by decide) rfl 0 rfl (rfl) (by omega) (by decide) (f' := xF ad cI cL cR ((xs ((xl ((xs u 30 i (nI (Nat.max b pu)))) 31 i ((u.2 31 i) + (ru)))) 29 i (nI a)))) rfl xF_ne dX3_lead_47 ?_
      refine z_aload_n C dX3_lead_48 0 rfl ?_
      refine z_get (q := 28) C (T := TX3) (N := 8) (ci := 3) (own := RX3) (index := 9) (v := .ref (ad 29)) hT3 hown hK (by decide) rfl rfl 0 (by decide) (hts (.fieldLink RX3 9 "TriggerAnalyzer$Prospect" "incoming" "[I") (by decide +kernel)) (fun _ h9 => h9) rfl dX3_lead_49 ?_
      refine z_iload_n C dX3_lead_52 1 rfl ?_
      refine z_iald (q := 29) (len := 1000) (k := i) C hK (by decide) rfl 0 rfl (rfl) (by omega) (by decide) dX3_lead_53 ?_
      refine z_topi (y := nI a) (xs_s _ _ _ _) ?_
      refine z_if_ne (tgt := 62) C dX3_lead_54 (by decide) (fun zc54 => ?_) (fun zc54 => ?_)
      · skip
        have zn54 := z0_f zc54
        exact z_vret C hr hlocks hQ ((xs ((xl ((xs u 30 i (nI (Nat.max b pu)))) 31 i ((u.2 31 i) + (ru)))) 29 i (nI a))) (by unfold ldU; rw [if_neg zn54]) (fun _ _ => rfl) dX3_lead_62
      · skip
        have zn54 := z0_t (by omega) zc54
        refine z_aload_n C dX3_lead_57 0 rfl ?_
        refine z_iload_n C dX3_lead_58 1 rfl ?_
        refine z_callVv xX_ok C hml hown hts hK hX (c_X3_enqueue l D ad cI cL cR hI ((xs ((xl ((xs u 30 i (nI (Nat.max b pu)))) 31 i ((u.2 31 i) + (ru)))) 29 i (nI a))) i qn (hqn zn54) (((((xs_c (by decide) _).trans (congrFun (congrFun (xl_1 _ _ _ _) 28) 4)).trans (xs_c (by decide) _))).trans hq)) (cwV 1 hts gX3_lead_X3_enqueue rfl rfl rfl (by decide +kernel) ⟨Nat.le_of_ble_eq_true rfl, Nat.le_of_ble_eq_true rfl⟩) (by decide) (ci := 3) rfl rfl rfl (st := []) rfl (Nat.le_of_ble_eq_true rfl) dX3_lead_59 ⟨Nat.le_of_ble_eq_true rfl, Nat.le_of_ble_eq_true rfl⟩ (fun u59 h59 => ?_)
        subst u59
        exact z_vret C hr hlocks hQ (xs (xs ((xs ((xl ((xs u 30 i (nI (Nat.max b pu)))) 31 i ((u.2 31 i) + (ru)))) 29 i (nI a))) 32 qn (nI i)) 28 4 (nI (qn + 1))) (by unfold ldU; rw [if_pos zn54]) (fun _ _ => rfl) dX3_lead_62
    · skip
      have zn8 := zlt_f (a := i) (b := 1000) (by omega) (by omega) zc8
      exact False.elim (by omega)
