set_option maxHeartbeats 4000000 in
set_option maxRecDepth 100000 in
theorem c_X5_size (l : Launch) (D : va_G) (ad : Nat → Nat) (cI cL cR : ClassId) (hI : gI 34 ad) (u : xS) (n : Nat) (B : Nat → Nat → Nat) (hR : xR u n B) : ∀ sz, Met l yX5_size wsX5_size ({ frames := 0, cells := 0, slots := 0, locals := 0 }) (XP D ad cI cL cR u [.ref (ad 16)] sz) (va_Qi (fun r_ u' => r_ = nI n ∧ u' = u) (XB D ad cI cL cR) (gA 34 ad sz)) 0 0 (gA 34 ad sz) := by
  intro sz
  refine z_met (cc := cX5_size) (maxL := 1) (ret := (some .int)) (by decide) rfl (Nat.le_of_ble_eq_true rfl) ?_
  intro pq lq sq mq aq Qq bq hmq cq C hr hml hown hts hlocks hK hX hsz hQ
  subst hsz
  have hT5 : ∀ w ∈ wsX50, w.before aq sq = true := fun w h => hts w ((by decide +kernel : ∀ w ∈ wsX50, w ∈ wsX5_size) w h)
  refine z_sub (L' := [(0, .ref (ad 16))]) [0] rfl ?_
  have hn8 : n ≤ 8 := gB_8 hR.1
  refine z_aload_n C dX5_size_0 0 rfl ?_
  refine z_get (q := 16) C (T := TX5) (N := 3) (ci := 5) (own := RX5) (index := 24) (v := .int (u.1 16 2)) hT5 hown hK (by decide) rfl rfl 2 (by decide) (hts (.fieldLink RX5 24 "TriggerAnalyzer$RuleBook" "count" "I") (by decide +kernel)) (fun _ h9 => h9) rfl dX5_size_1 ?_
  refine z_topi (y := nI n) (xR_n hR) ?_
  exact z_iret C hr hlocks hQ u (⟨rfl, rfl⟩) (fun _ _ => rfl) dX5_size_4

set_option maxHeartbeats 4000000 in
set_option maxRecDepth 100000 in
theorem c_X5_isFull (l : Launch) (D : va_G) (ad : Nat → Nat) (cI cL cR : ClassId) (hI : gI 34 ad) (u : xS) (n : Nat) (B : Nat → Nat → Nat) (hR : xR u n B) : ∀ sz, Met l yX5_isFull wsX5_isFull ({ frames := 0, cells := 0, slots := 0, locals := 0 }) (XP D ad cI cL cR u [.ref (ad 16)] sz) (va_Qi (fun r_ u' => r_ = (if 8 ≤ n then 1 else 0) ∧ u' = u) (XB D ad cI cL cR) (gA 34 ad sz)) 0 0 (gA 34 ad sz) := by
  intro sz
  refine z_met (cc := cX5_isFull) (maxL := 1) (ret := (some .boolean)) (by decide) rfl (Nat.le_of_ble_eq_true rfl) ?_
  intro pq lq sq mq aq Qq bq hmq cq C hr hml hown hts hlocks hK hX hsz hQ
  subst hsz
  have hT5 : ∀ w ∈ wsX50, w.before aq sq = true := fun w h => hts w ((by decide +kernel : ∀ w ∈ wsX50, w ∈ wsX5_isFull) w h)
  refine z_sub (L' := [(0, .ref (ad 16))]) [0] rfl ?_
  have hn8 : n ≤ 8 := gB_8 hR.1
  refine z_aload_n C dX5_isFull_0 0 rfl ?_
  refine z_get (q := 16) C (T := TX5) (N := 3) (ci := 5) (own := RX5) (index := 24) (v := .int (u.1 16 2)) hT5 hown hK (by decide) rfl rfl 2 (by decide) (hts (.fieldLink RX5 24 "TriggerAnalyzer$RuleBook" "count" "I") (by decide +kernel)) (fun _ h9 => h9) rfl dX5_isFull_1 ?_
  refine z_topi (y := nI n) (xR_n hR) ?_
  refine z_aload_n C dX5_isFull_4 0 rfl ?_
  refine z_get (q := 16) C (T := TX5) (N := 3) (ci := 5) (own := RX5) (index := 11) (v := .ref (ad 17)) hT5 hown hK (by decide) rfl rfl 0 (by decide) (hts (.fieldLink RX5 11 "TriggerAnalyzer$RuleBook" "rules" "[LTriggerAnalyzer$Rule;") (by decide +kernel)) (fun _ h9 => h9) rfl dX5_isFull_5 ?_
  refine z_alen (q := 17) (len := 8) C hK (by decide) rfl 2 rfl (v := nI 8) (by decide) dX5_isFull_8 ?_
  refine z_icmp_lt (tgt := 16) C dX5_isFull_9 (by decide) (fun zc9 => ?_) (fun zc9 => ?_)
  · skip
    have zn9 := zlt_t (a := n) (b := 8) (by omega) (by omega) zc9
    refine z_iconst (v := nI 0) C (by decide) dX5_isFull_16 ?_
    exact z_zret C hr hlocks rfl hQ u (⟨by rw [if_neg (by omega)]; rfl, rfl⟩) (fun _ _ => rfl) dX5_isFull_17
  · skip
    have zn9 := zlt_f (a := n) (b := 8) (by omega) (by omega) zc9
    refine z_iconst (v := nI 1) C (by decide) dX5_isFull_12 ?_
    refine z_goto (tgt := 17) C dX5_isFull_13 (by decide) ?_
    exact z_zret C hr hlocks rfl hQ u (⟨by rw [if_pos (by omega)]; rfl, rfl⟩) (fun _ _ => rfl) dX5_isFull_17

set_option maxHeartbeats 4000000 in
set_option maxRecDepth 100000 in
theorem c_X5_ruleOrNull_vh (l : Launch) (D : va_G) (ad : Nat → Nat) (cI cL cR : ClassId) (hI : gI 34 ad) (u : xS) (n : Nat) (B : Nat → Nat → Nat) (hR : xR u n B) (k : Nat) (hk : k < n) : ∀ sz, Met l yX5_ruleOrNull wsX5_ruleOrNull ({ frames := 0, cells := 0, slots := 0, locals := 0 }) (XP D ad cI cL cR u [.ref (ad 16), .int (nI k)] sz) (va_Qq (fun r_ u' => r_ = (some (ad k)) ∧ u' = u) (XB D ad cI cL cR) (gA 34 ad sz)) 0 0 (gA 34 ad sz) := by
  intro sz
  refine z_met (cc := cX5_ruleOrNull) (maxL := 2) (ret := (some (.object "TriggerAnalyzer$Rule"))) (by decide) rfl (Nat.le_of_ble_eq_true rfl) ?_
  intro pq lq sq mq aq Qq bq hmq cq C hr hml hown hts hlocks hK hX hsz hQ
  subst hsz
  have hT5 : ∀ w ∈ wsX50, w.before aq sq = true := fun w h => hts w ((by decide +kernel : ∀ w ∈ wsX50, w ∈ wsX5_ruleOrNull) w h)
  refine z_sub (L' := [(0, .ref (ad 16)), (1, .int (nI k))]) [0, 1] rfl ?_
  have hn8 : n ≤ 8 := gB_8 hR.1
  have hk8 : k < 8 := by omega
  refine z_iload_n C dX5_ruleOrNull_0 1 rfl ?_
  refine z_if_lt (tgt := 30) C dX5_ruleOrNull_1 (by decide) (fun zc1 => ?_) (fun zc1 => ?_)
  · skip
    exact (zneg (by omega) zc1).elim
  · skip
    refine z_iload_n C dX5_ruleOrNull_4 1 rfl ?_
    refine z_aload_n C dX5_ruleOrNull_5 0 rfl ?_
    refine z_get (q := 16) C (T := TX5) (N := 3) (ci := 5) (own := RX5) (index := 24) (v := .int (u.1 16 2)) hT5 hown hK (by decide) rfl rfl 2 (by decide) (hts (.fieldLink RX5 24 "TriggerAnalyzer$RuleBook" "count" "I") (by decide +kernel)) (fun _ h9 => h9) rfl dX5_ruleOrNull_6 ?_
    refine z_topi (y := nI n) (xR_n hR) ?_
    refine z_icmp_ge (tgt := 30) C dX5_ruleOrNull_9 (by decide) (fun zc9 => ?_) (fun zc9 => ?_)
    · skip
      have zn9 := zge_t (a := k) (b := n) (by omega) (by omega) zc9
      exact False.elim (by omega)
    · skip
      have zn9 := zge_f (a := k) (b := n) (by omega) (by omega) zc9
      refine z_iload_n C dX5_ruleOrNull_12 1 rfl ?_
      refine z_aload_n C dX5_ruleOrNull_13 0 rfl ?_
      refine z_get (q := 16) C (T := TX5) (N := 3) (ci := 5) (own := RX5) (index := 11) (v := .ref (ad 17)) hT5 hown hK (by decide) rfl rfl 0 (by decide) (hts (.fieldLink RX5 11 "TriggerAnalyzer$RuleBook" "rules" "[LTriggerAnalyzer$Rule;") (by decide +kernel)) (fun _ h9 => h9) rfl dX5_ruleOrNull_14 ?_
      refine z_alen (q := 17) (len := 8) C hK (by decide) rfl 2 rfl (v := nI 8) (by decide) dX5_ruleOrNull_17 ?_
      refine z_icmp_ge (tgt := 30) C dX5_ruleOrNull_18 (by decide) (fun zc18 => ?_) (fun zc18 => ?_)
      · skip
        have zn18 := zge_t (a := k) (b := 8) (by omega) (by omega) zc18
        exact False.elim (by omega)
      · skip
        have zn18 := zge_f (a := k) (b := 8) (by omega) (by omega) zc18
        refine z_aload_n C dX5_ruleOrNull_21 0 rfl ?_
        refine z_get (q := 16) C (T := TX5) (N := 3) (ci := 5) (own := RX5) (index := 11) (v := .ref (ad 17)) hT5 hown hK (by decide) rfl rfl 0 (by decide) (hts (.fieldLink RX5 11 "TriggerAnalyzer$RuleBook" "rules" "[LTriggerAnalyzer$Rule;") (by decide +kernel)) (fun _ h9 => h9) rfl dX5_ruleOrNull_22 ?_
        refine z_iload_n C dX5_ruleOrNull_25 1 rfl ?_
        refine z_aald (q := 17) (len := 8) (k := k) C hK (by decide) rfl 2 rfl (rfl) (by omega) (by decide) (a := ad k) rfl dX5_ruleOrNull_26 ?_
        refine z_goto (tgt := 31) C dX5_ruleOrNull_27 (by decide) ?_
        exact z_aret C hr ⟨_, rfl⟩ hlocks (some (ad k)) rfl hQ u (⟨rfl, rfl⟩) (fun _ _ => rfl) dX5_ruleOrNull_31

set_option maxHeartbeats 4000000 in
set_option maxRecDepth 100000 in
theorem c_X5_ruleOrNull_vn (l : Launch) (D : va_G) (ad : Nat → Nat) (cI cL cR : ClassId) (hI : gI 34 ad) (u : xS) (n : Nat) (B : Nat → Nat → Nat) (hR : xR u n B) (x : Int32) (hx : x < 0) : ∀ sz, Met l yX5_ruleOrNull wsX5_ruleOrNull ({ frames := 0, cells := 0, slots := 0, locals := 0 }) (XP D ad cI cL cR u [.ref (ad 16), .int (x)] sz) (va_Qq (fun r_ u' => r_ = none ∧ u' = u) (XB D ad cI cL cR) (gA 34 ad sz)) 0 0 (gA 34 ad sz) := by
  intro sz
  refine z_met (cc := cX5_ruleOrNull) (maxL := 2) (ret := (some (.object "TriggerAnalyzer$Rule"))) (by decide) rfl (Nat.le_of_ble_eq_true rfl) ?_
  intro pq lq sq mq aq Qq bq hmq cq C hr hml hown hts hlocks hK hX hsz hQ
  subst hsz
  refine z_sub (L' := [(0, .ref (ad 16)), (1, .int (x))]) [0, 1] rfl ?_
  have hn8 : n ≤ 8 := gB_8 hR.1
  refine z_iload_n C dX5_ruleOrNull_0 1 rfl ?_
  refine z_if_lt (tgt := 30) C dX5_ruleOrNull_1 (by decide) (fun zc1 => ?_) (fun zc1 => ?_)
  · skip
    refine z_null C dX5_ruleOrNull_30 ?_
    exact z_aret C hr ⟨_, rfl⟩ hlocks none rfl hQ u (⟨rfl, rfl⟩) (fun _ _ => rfl) dX5_ruleOrNull_31
  · skip
    exact False.elim (zc1 hx)

set_option maxHeartbeats 4000000 in
set_option maxRecDepth 100000 in
theorem c_X5_ruleOrNull_vb (l : Launch) (D : va_G) (ad : Nat → Nat) (cI cL cR : ClassId) (hI : gI 34 ad) (u : xS) (n : Nat) (B : Nat → Nat → Nat) (hR : xR u n B) (k : Nat) (hk : n ≤ k) (hk2 : k < 2 ^ 31) : ∀ sz, Met l yX5_ruleOrNull wsX5_ruleOrNull ({ frames := 0, cells := 0, slots := 0, locals := 0 }) (XP D ad cI cL cR u [.ref (ad 16), .int (nI k)] sz) (va_Qq (fun r_ u' => r_ = none ∧ u' = u) (XB D ad cI cL cR) (gA 34 ad sz)) 0 0 (gA 34 ad sz) := by
  intro sz
  refine z_met (cc := cX5_ruleOrNull) (maxL := 2) (ret := (some (.object "TriggerAnalyzer$Rule"))) (by decide) rfl (Nat.le_of_ble_eq_true rfl) ?_
  intro pq lq sq mq aq Qq bq hmq cq C hr hml hown hts hlocks hK hX hsz hQ
  subst hsz
  have hT5 : ∀ w ∈ wsX50, w.before aq sq = true := fun w h => hts w ((by decide +kernel : ∀ w ∈ wsX50, w ∈ wsX5_ruleOrNull) w h)
  refine z_sub (L' := [(0, .ref (ad 16)), (1, .int (nI k))]) [0, 1] rfl ?_
  have hn8 : n ≤ 8 := gB_8 hR.1
  refine z_iload_n C dX5_ruleOrNull_0 1 rfl ?_
  refine z_if_lt (tgt := 30) C dX5_ruleOrNull_1 (by decide) (fun zc1 => ?_) (fun zc1 => ?_)
  · skip
    exact (zneg (by omega) zc1).elim
  · skip
    refine z_iload_n C dX5_ruleOrNull_4 1 rfl ?_
    refine z_aload_n C dX5_ruleOrNull_5 0 rfl ?_
    refine z_get (q := 16) C (T := TX5) (N := 3) (ci := 5) (own := RX5) (index := 24) (v := .int (u.1 16 2)) hT5 hown hK (by decide) rfl rfl 2 (by decide) (hts (.fieldLink RX5 24 "TriggerAnalyzer$RuleBook" "count" "I") (by decide +kernel)) (fun _ h9 => h9) rfl dX5_ruleOrNull_6 ?_
    refine z_topi (y := nI n) (xR_n hR) ?_
    refine z_icmp_ge (tgt := 30) C dX5_ruleOrNull_9 (by decide) (fun zc9 => ?_) (fun zc9 => ?_)
    · skip
      have zn9 := zge_t (a := k) (b := n) (by omega) (by omega) zc9
      refine z_null C dX5_ruleOrNull_30 ?_
      exact z_aret C hr ⟨_, rfl⟩ hlocks none rfl hQ u (⟨rfl, rfl⟩) (fun _ _ => rfl) dX5_ruleOrNull_31
    · skip
      have zn9 := zge_f (a := k) (b := n) (by omega) (by omega) zc9
      exact False.elim (by omega)

set_option maxHeartbeats 4000000 in
set_option maxRecDepth 100000 in
theorem c_X5_listenersTo (l : Launch) (D : va_G) (ad : Nat → Nat) (cI cL cR : ClassId) (hI : gI 34 ad) (u : xS) (n : Nat) (B : Nat → Nat → Nat) (hR : xR u n B) (e9 : Nat) (he : e9 < 12) : ∀ sz, Met l yX5_listenersTo wsX5_listenersTo ({ frames := 0, cells := 0, slots := 0, locals := 0 }) (XP D ad cI cL cR u [.ref (ad 16), .int (nI e9)] sz) (va_Qi (fun r_ u' => r_ = nI (lis B e9) ∧ u' = u) (XB D ad cI cL cR) (gA 34 ad sz)) 0 0 (gA 34 ad sz) := by
  intro sz
  refine z_met (cc := cX5_listenersTo) (maxL := 2) (ret := (some .int)) (by decide) rfl (Nat.le_of_ble_eq_true rfl) ?_
  intro pq lq sq mq aq Qq bq hmq cq C hr hml hown hts hlocks hK hX hsz hQ
  subst hsz
  have hT5 : ∀ w ∈ wsX50, w.before aq sq = true := fun w h => hts w ((by decide +kernel : ∀ w ∈ wsX50, w ∈ wsX5_listenersTo) w h)
  refine z_sub (L' := [(0, .ref (ad 16)), (1, .int (nI e9))]) [0, 1] rfl ?_
  refine z_iload_n C dX5_listenersTo_0 1 rfl ?_
  refine z_if_lt (tgt := 22) C dX5_listenersTo_1 (by decide) (fun zc1 => ?_) (fun zc1 => ?_)
  · skip
    exact (zneg (by omega) zc1).elim
  · skip
    refine z_iload_n C dX5_listenersTo_4 1 rfl ?_
    refine z_aload_n C dX5_listenersTo_5 0 rfl ?_
    refine z_get (q := 16) C (T := TX5) (N := 3) (ci := 5) (own := RX5) (index := 17) (v := .ref (ad 18)) hT5 hown hK (by decide) rfl rfl 1 (by decide) (hts (.fieldLink RX5 17 "TriggerAnalyzer$RuleBook" "listeners" "[I") (by decide +kernel)) (fun _ h9 => h9) rfl dX5_listenersTo_6 ?_
    refine z_alen (q := 18) (len := 12) C hK (by decide) rfl 0 rfl (v := nI 12) (by decide) dX5_listenersTo_9 ?_
    refine z_icmp_ge (tgt := 22) C dX5_listenersTo_10 (by decide) (fun zc10 => ?_) (fun zc10 => ?_)
    · skip
      have zn10 := zge_t (a := e9) (b := 12) (by omega) (by omega) zc10
      exact False.elim (by omega)
    · skip
      have zn10 := zge_f (a := e9) (b := 12) (by omega) (by omega) zc10
      refine z_aload_n C dX5_listenersTo_13 0 rfl ?_
      refine z_get (q := 16) C (T := TX5) (N := 3) (ci := 5) (own := RX5) (index := 17) (v := .ref (ad 18)) hT5 hown hK (by decide) rfl rfl 1 (by decide) (hts (.fieldLink RX5 17 "TriggerAnalyzer$RuleBook" "listeners" "[I") (by decide +kernel)) (fun _ h9 => h9) rfl dX5_listenersTo_14 ?_
      refine z_iload_n C dX5_listenersTo_17 1 rfl ?_
      refine z_iald (q := 18) (len := 12) (k := e9) C hK (by decide) rfl 0 rfl (rfl) (by omega) (by decide) dX5_listenersTo_18 ?_
      refine z_topi (y := nI (lis B e9)) (xR_l hR he) ?_
      refine z_goto (tgt := 23) C dX5_listenersTo_19 (by decide) ?_
      exact z_iret C hr hlocks hQ u (⟨rfl, rfl⟩) (fun _ _ => rfl) dX5_listenersTo_23

set_option maxHeartbeats 4000000 in
set_option maxRecDepth 100000 in
theorem c_X5_switchRule_v1 (l : Launch) (D : va_G) (ad : Nat → Nat) (cI cL cR : ClassId) (hI : gI 34 ad) (u : xS) (i : Nat) (hi : i < 8) (e9 : Nat) (he : e9 < 12) (h2 : u.1 i 2 = nI e9) : ∀ sz, Met l yX5_switchRule wsX5_switchRule ({ frames := 0, cells := 0, slots := 0, locals := 0 }) (XP D ad cI cL cR u [.ref (ad 16), .ref (ad i), .int (nI 1)] sz) (va_Qv (fun u' => u' = xs (xs u i 5 (nI 1)) 18 e9 (u.1 18 e9 ||| nI (2 ^ i))) (XB D ad cI cL cR) (gA 34 ad sz)) 0 0 (gA 34 ad sz) := by
  intro sz
  refine z_met (cc := cX5_switchRule) (maxL := 4) (ret := none) (by decide) rfl (Nat.le_of_ble_eq_true rfl) ?_
  intro pq lq sq mq aq Qq bq hmq cq C hr hml hown hts hlocks hK hX hsz hQ
  subst hsz
  have hT4 : ∀ w ∈ wsX40, w.before aq sq = true := fun w h => hts w ((by decide +kernel : ∀ w ∈ wsX40, w ∈ wsX5_switchRule) w h)
  have hT5 : ∀ w ∈ wsX50, w.before aq sq = true := fun w h => hts w ((by decide +kernel : ∀ w ∈ wsX50, w ∈ wsX5_switchRule) w h)
  refine z_sub (L' := [(0, .ref (ad 16)), (1, .ref (ad i)), (2, .int (nI 1))]) [0, 1, 2] rfl ?_
  refine z_aload_n C dX5_switchRule_0 1 rfl ?_
  refine z_iload_n C dX5_switchRule_1 2 rfl ?_
  refine z_put (q := i) C hI tyX4 (T := TX4) (N := 11) (ci := 4) (own := RX5) (index := 41) hT4 hown hK (by omega) (xF_r hi) rfl 5 (by decide) (hts (.fieldLink RX5 41 "TriggerAnalyzer$Rule" "on" "Z") (by decide +kernel)) (fun _ h9 => h9) tyX4_ok nmX4 rfl rfl rfl (Nat.le_of_ble_eq_true rfl) (f' := xF ad cI cL cR ((xs u i 5 (nI 1)))) (xF_p5 hi) xF_ne dX5_switchRule_2 ?_
  refine z_aload_n C dX5_switchRule_5 1 rfl ?_
  refine z_get (q := i) C (T := TX4) (N := 11) (ci := 4) (own := RX5) (index := 28) (v := .int ((xs u i 5 (nI 1)).1 i 2)) hT4 hown hK (by omega) (xF_r hi) rfl 2 (by decide) (hts (.fieldLink RX5 28 "TriggerAnalyzer$Rule" "event" "I") (by decide +kernel)) (fun _ h9 => h9) rfl dX5_switchRule_6 ?_
  refine z_topi (y := u.1 i 2) (xs_j (by decide)) ?_
  refine z_topi (y := nI e9) (h2) ?_
  refine z_istore_n (L' := [(3, .int (nI e9)), (0, .ref (ad 16)), (1, .ref (ad i)), (2, .int (nI 1))]) C dX5_switchRule_9 (by decide) rfl ?_
  refine z_iload_n C dX5_switchRule_10 0 rfl ?_
  refine z_if_lt (tgt := 23) C dX5_switchRule_11 (by decide) (fun zc11 => ?_) (fun zc11 => ?_)
  · skip
    exact (zneg (by omega) zc11).elim
  · skip
    refine z_iload_n C dX5_switchRule_14 0 rfl ?_
    refine z_aload_n C dX5_switchRule_15 1 rfl ?_
    refine z_get (q := 16) C (T := TX5) (N := 3) (ci := 5) (own := RX5) (index := 17) (v := .ref (ad 18)) hT5 hown hK (by decide) rfl rfl 1 (by decide) (hts (.fieldLink RX5 17 "TriggerAnalyzer$RuleBook" "listeners" "[I") (by decide +kernel)) (fun _ h9 => h9) rfl dX5_switchRule_16 ?_
    refine z_alen (q := 18) (len := 12) C hK (by decide) rfl 0 rfl (v := nI 12) (by decide) dX5_switchRule_19 ?_
    refine z_icmp_lt (tgt := 24) C dX5_switchRule_20 (by decide) (fun zc20 => ?_) (fun zc20 => ?_)
    · skip
      have zn20 := zlt_t (a := e9) (b := 12) (by omega) (by omega) zc20
      refine z_iload_n C dX5_switchRule_24 3 rfl ?_
      refine z_if_eq (tgt := 44) C dX5_switchRule_25 (by decide) (fun zc25 => ?_) (fun zc25 => ?_)
      · skip
        have zn25 := z0_t (by omega) zc25
        exact absurd zn25 (by decide)
      · skip
        have zn25 := z0_f zc25
        refine z_aload_n C dX5_switchRule_28 1 rfl ?_
        refine z_get (q := 16) C (T := TX5) (N := 3) (ci := 5) (own := RX5) (index := 17) (v := .ref (ad 18)) hT5 hown hK (by decide) rfl rfl 1 (by decide) (hts (.fieldLink RX5 17 "TriggerAnalyzer$RuleBook" "listeners" "[I") (by decide +kernel)) (fun _ h9 => h9) rfl dX5_switchRule_29 ?_
        refine z_iload_n C dX5_switchRule_32 0 rfl ?_
        refine z_dup2 C rfl rfl dX5_switchRule_33 ?_
        refine z_iald (q := 18) (len := 12) (k := e9) C hK (by decide) rfl 0 rfl (rfl) (by omega) (by decide) dX5_switchRule_34 ?_
        refine z_topi (y := u.1 18 e9) (xs_c (by omega) _) ?_
        refine z_aload_n C dX5_switchRule_35 2 rfl ?_
        refine z_get (q := i) C (T := TX4) (N := 11) (ci := 4) (own := RX5) (index := 45) (v := .int (nI (2 ^ i))) hT4 hown hK (by omega) (xF_r hi) rfl 0 (by decide) (hts (.fieldLink RX5 45 "TriggerAnalyzer$Rule" "bit" "I") (by decide +kernel)) (fun _ h9 => h9) rfl dX5_switchRule_36 ?_
        refine z_ior C dX5_switchRule_39 ?_
        refine z_iast (q := 18) (len := 12) (k := e9) C hI hK (by decide) rfl 0 rfl (rfl) (by omega) (by decide) (f' := xF ad cI cL cR ((xs ((xs u i 5 (nI 1))) 18 e9 ((u.1 18 e9) ||| (nI (2 ^ i)))))) rfl xF_ne dX5_switchRule_40 ?_
        refine z_goto (tgt := 59) C dX5_switchRule_41 (by decide) ?_
        exact z_vret C hr hlocks hQ ((xs ((xs u i 5 (nI 1))) 18 e9 ((u.1 18 e9) ||| (nI (2 ^ i))))) (rfl) (fun _ _ => rfl) dX5_switchRule_59
    · skip
      have zn20 := zlt_f (a := e9) (b := 12) (by omega) (by omega) zc20
      exact False.elim (by omega)

set_option maxHeartbeats 4000000 in
set_option maxRecDepth 100000 in
theorem c_X5_switchRule_v0 (l : Launch) (D : va_G) (ad : Nat → Nat) (cI cL cR : ClassId) (hI : gI 34 ad) (u : xS) (i : Nat) (hi : i < 8) (e9 : Nat) (he : e9 < 12) (h2 : u.1 i 2 = nI e9) : ∀ sz, Met l yX5_switchRule wsX5_switchRule ({ frames := 0, cells := 0, slots := 0, locals := 0 }) (XP D ad cI cL cR u [.ref (ad 16), .ref (ad i), .int (nI 0)] sz) (va_Qv (fun u' => u' = xs (xs u i 5 (nI 0)) 18 e9 (u.1 18 e9 &&& (nI (2 ^ i) ^^^ (-1)))) (XB D ad cI cL cR) (gA 34 ad sz)) 0 0 (gA 34 ad sz) := by
  intro sz
  refine z_met (cc := cX5_switchRule) (maxL := 4) (ret := none) (by decide) rfl (Nat.le_of_ble_eq_true rfl) ?_
  intro pq lq sq mq aq Qq bq hmq cq C hr hml hown hts hlocks hK hX hsz hQ
  subst hsz
  have hT4 : ∀ w ∈ wsX40, w.before aq sq = true := fun w h => hts w ((by decide +kernel : ∀ w ∈ wsX40, w ∈ wsX5_switchRule) w h)
  have hT5 : ∀ w ∈ wsX50, w.before aq sq = true := fun w h => hts w ((by decide +kernel : ∀ w ∈ wsX50, w ∈ wsX5_switchRule) w h)
  refine z_sub (L' := [(0, .ref (ad 16)), (1, .ref (ad i)), (2, .int (nI 0))]) [0, 1, 2] rfl ?_
  refine z_aload_n C dX5_switchRule_0 1 rfl ?_
  refine z_iload_n C dX5_switchRule_1 2 rfl ?_
  refine z_put (q := i) C hI tyX4 (T := TX4) (N := 11) (ci := 4) (own := RX5) (index := 41) hT4 hown hK (by omega) (xF_r hi) rfl 5 (by decide) (hts (.fieldLink RX5 41 "TriggerAnalyzer$Rule" "on" "Z") (by decide +kernel)) (fun _ h9 => h9) tyX4_ok nmX4 rfl rfl rfl (Nat.le_of_ble_eq_true rfl) (f' := xF ad cI cL cR ((xs u i 5 (nI 0)))) (xF_p5 hi) xF_ne dX5_switchRule_2 ?_
  refine z_aload_n C dX5_switchRule_5 1 rfl ?_
  refine z_get (q := i) C (T := TX4) (N := 11) (ci := 4) (own := RX5) (index := 28) (v := .int ((xs u i 5 (nI 0)).1 i 2)) hT4 hown hK (by omega) (xF_r hi) rfl 2 (by decide) (hts (.fieldLink RX5 28 "TriggerAnalyzer$Rule" "event" "I") (by decide +kernel)) (fun _ h9 => h9) rfl dX5_switchRule_6 ?_
  refine z_topi (y := u.1 i 2) (xs_j (by decide)) ?_
  refine z_topi (y := nI e9) (h2) ?_
  refine z_istore_n (L' := [(3, .int (nI e9)), (0, .ref (ad 16)), (1, .ref (ad i)), (2, .int (nI 0))]) C dX5_switchRule_9 (by decide) rfl ?_
  refine z_iload_n C dX5_switchRule_10 0 rfl ?_
  refine z_if_lt (tgt := 23) C dX5_switchRule_11 (by decide) (fun zc11 => ?_) (fun zc11 => ?_)
  · skip
    exact (zneg (by omega) zc11).elim
  · skip
    refine z_iload_n C dX5_switchRule_14 0 rfl ?_
    refine z_aload_n C dX5_switchRule_15 1 rfl ?_
    refine z_get (q := 16) C (T := TX5) (N := 3) (ci := 5) (own := RX5) (index := 17) (v := .ref (ad 18)) hT5 hown hK (by decide) rfl rfl 1 (by decide) (hts (.fieldLink RX5 17 "TriggerAnalyzer$RuleBook" "listeners" "[I") (by decide +kernel)) (fun _ h9 => h9) rfl dX5_switchRule_16 ?_
    refine z_alen (q := 18) (len := 12) C hK (by decide) rfl 0 rfl (v := nI 12) (by decide) dX5_switchRule_19 ?_
    refine z_icmp_lt (tgt := 24) C dX5_switchRule_20 (by decide) (fun zc20 => ?_) (fun zc20 => ?_)
    · skip
      have zn20 := zlt_t (a := e9) (b := 12) (by omega) (by omega) zc20
      refine z_iload_n C dX5_switchRule_24 3 rfl ?_
      refine z_if_eq (tgt := 44) C dX5_switchRule_25 (by decide) (fun zc25 => ?_) (fun zc25 => ?_)
      · skip
        have zn25 := z0_t (by omega) zc25
        refine z_aload_n C dX5_switchRule_44 1 rfl ?_
        refine z_get (q := 16) C (T := TX5) (N := 3) (ci := 5) (own := RX5) (index := 17) (v := .ref (ad 18)) hT5 hown hK (by decide) rfl rfl 1 (by decide) (hts (.fieldLink RX5 17 "TriggerAnalyzer$RuleBook" "listeners" "[I") (by decide +kernel)) (fun _ h9 => h9) rfl dX5_switchRule_45 ?_
        refine z_iload_n C dX5_switchRule_48 0 rfl ?_
        refine z_dup2 C rfl rfl dX5_switchRule_49 ?_
        refine z_iald (q := 18) (len := 12) (k := e9) C hK (by decide) rfl 0 rfl (rfl) (by omega) (by decide) dX5_switchRule_50 ?_
        refine z_topi (y := u.1 18 e9) (xs_c (by omega) _) ?_
        refine z_aload_n C dX5_switchRule_51 2 rfl ?_
        refine z_get (q := i) C (T := TX4) (N := 11) (ci := 4) (own := RX5) (index := 45) (v := .int (nI (2 ^ i))) hT4 hown hK (by omega) (xF_r hi) rfl 0 (by decide) (hts (.fieldLink RX5 45 "TriggerAnalyzer$Rule" "bit" "I") (by decide +kernel)) (fun _ h9 => h9) rfl dX5_switchRule_52 ?_
        refine z_iconst (v := (-1)) C (by decide) dX5_switchRule_55 ?_
        refine z_ixor C dX5_switchRule_56 ?_
        refine z_iand C dX5_switchRule_57 ?_
        refine z_iast (q := 18) (len := 12) (k := e9) C hI hK (by decide) rfl 0 rfl (rfl) (by omega) (by decide) (f' := xF ad cI cL cR ((xs ((xs u i 5 (nI 0))) 18 e9 ((u.1 18 e9) &&& ((nI (2 ^ i)) ^^^ ((-1))))))) rfl xF_ne dX5_switchRule_58 ?_
        exact z_vret C hr hlocks hQ ((xs ((xs u i 5 (nI 0))) 18 e9 ((u.1 18 e9) &&& ((nI (2 ^ i)) ^^^ ((-1)))))) (rfl) (fun _ _ => rfl) dX5_switchRule_59
      · skip
        have zn25 := z0_f zc25
        exact absurd zn25 (by decide)
    · skip
      have zn20 := zlt_f (a := e9) (b := 12) (by omega) (by omega) zc20
      exact False.elim (by omega)

set_option maxHeartbeats 4000000 in
set_option maxRecDepth 100000 in
theorem c_X5_append (l : Launch) (D : va_G) (ad : Nat → Nat) (cI cL cR : ClassId) (hI : gI 34 ad) (u : xS) (c : Nat) (hc : c < 8) (hn : u.1 16 2 = nI c) (e9 : Nat) (he : e9 < 12) (m1 m2 : Int32) : ∀ sz, Met l yX5_append wsX5_append ({ frames := 1, cells := 0, slots := 0, locals := 23 }) (XP D ad cI cL cR u [.ref (ad 16), .int (nI e9), .int (m1), .int (m2)] sz) (va_Qi (fun r_ u' => r_ = nI c ∧ u' = xs (xs (xs (xs (xs (xs u 16 2 (nI (c + 1))) c 2 (nI e9)) c 3 m1) c 4 m2) c 5 (nI 1)) 18 e9 ((xs (xs (xs (xs u 16 2 (nI (c + 1))) c 2 (nI e9)) c 3 m1) c 4 m2).1 18 e9 ||| nI (2 ^ c))) (XB D ad cI cL cR) (gA 34 ad sz)) 0 0 (gA 34 ad sz) := by
  intro sz
  refine z_met (cc := cX5_append) (maxL := 6) (ret := (some .int)) (by decide) rfl (Nat.le_of_ble_eq_true rfl) ?_
  intro pq lq sq mq aq Qq bq hmq cq C hr hml hown hts hlocks hK hX hsz hQ
  subst hsz
  have hT4 : ∀ w ∈ wsX40, w.before aq sq = true := fun w h => hts w ((by decide +kernel : ∀ w ∈ wsX40, w ∈ wsX5_append) w h)
  have hT5 : ∀ w ∈ wsX50, w.before aq sq = true := fun w h => hts w ((by decide +kernel : ∀ w ∈ wsX50, w ∈ wsX5_append) w h)
  refine z_sub (L' := [(0, .ref (ad 16)), (1, .int (nI e9)), (2, .int (m1)), (3, .int (m2))]) [0, 1, 2, 3] rfl ?_
  refine z_aload_n C dX5_append_0 0 rfl ?_
  refine z_get (q := 16) C (T := TX5) (N := 3) (ci := 5) (own := RX5) (index := 24) (v := .int (u.1 16 2)) hT5 hown hK (by decide) rfl rfl 2 (by decide) (hts (.fieldLink RX5 24 "TriggerAnalyzer$RuleBook" "count" "I") (by decide +kernel)) (fun _ h9 => h9) rfl dX5_append_1 ?_
  refine z_topi (y := nI c) (hn) ?_
  refine z_istore (L' := [(4, .int (nI c)), (0, .ref (ad 16)), (1, .int (nI e9)), (2, .int (m1)), (3, .int (m2))]) C dX5_append_4 (by decide) rfl ?_
  refine z_iload C dX5_append_6 0 rfl ?_
  refine z_if_lt (tgt := 21) C dX5_append_8 (by decide) (fun zc8 => ?_) (fun zc8 => ?_)
  · skip
    exact (zneg (by omega) zc8).elim
  · skip
    refine z_iload C dX5_append_11 0 rfl ?_
    refine z_aload_n C dX5_append_13 1 rfl ?_
    refine z_get (q := 16) C (T := TX5) (N := 3) (ci := 5) (own := RX5) (index := 11) (v := .ref (ad 17)) hT5 hown hK (by decide) rfl rfl 0 (by decide) (hts (.fieldLink RX5 11 "TriggerAnalyzer$RuleBook" "rules" "[LTriggerAnalyzer$Rule;") (by decide +kernel)) (fun _ h9 => h9) rfl dX5_append_14 ?_
    refine z_alen (q := 17) (len := 8) C hK (by decide) rfl 2 rfl (v := nI 8) (by decide) dX5_append_17 ?_
    refine z_icmp_lt (tgt := 23) C dX5_append_18 (by decide) (fun zc18 => ?_) (fun zc18 => ?_)
    · skip
      have zn18 := zlt_t (a := c) (b := 8) (by omega) (by omega) zc18
      refine z_aload_n C dX5_append_23 1 rfl ?_
      refine z_dup C rfl dX5_append_24 ?_
      refine z_get (q := 16) C (T := TX5) (N := 3) (ci := 5) (own := RX5) (index := 24) (v := .int (u.1 16 2)) hT5 hown hK (by decide) rfl rfl 2 (by decide) (hts (.fieldLink RX5 24 "TriggerAnalyzer$RuleBook" "count" "I") (by decide +kernel)) (fun _ h9 => h9) rfl dX5_append_25 ?_
      refine z_topi (y := nI c) (hn) ?_
      refine z_iconst (v := nI 1) C (by decide) dX5_append_28 ?_
      refine z_iadd C dX5_append_29 ?_
      refine z_topi (y := nI (c + 1)) (nI_add c 1) ?_
      refine z_put (q := 16) C hI tyX5 (T := TX5) (N := 3) (ci := 5) (own := RX5) (index := 24) hT5 hown hK (by decide) rfl rfl 2 (by decide) (hts (.fieldLink RX5 24 "TriggerAnalyzer$RuleBook" "count" "I") (by decide +kernel)) (fun _ h9 => h9) tyX5_ok nmX5 rfl rfl rfl (Nat.le_of_ble_eq_true rfl) (f' := xF ad cI cL cR ((xs u 16 2 (nI (c + 1))))) rfl xF_ne dX5_append_30 ?_
      refine z_aload_n C dX5_append_33 1 rfl ?_
      refine z_get (q := 16) C (T := TX5) (N := 3) (ci := 5) (own := RX5) (index := 11) (v := .ref (ad 17)) hT5 hown hK (by decide) rfl rfl 0 (by decide) (hts (.fieldLink RX5 11 "TriggerAnalyzer$RuleBook" "rules" "[LTriggerAnalyzer$Rule;") (by decide +kernel)) (fun _ h9 => h9) rfl dX5_append_34 ?_
      refine z_iload C dX5_append_37 0 rfl ?_
      refine z_aald (q := 17) (len := 8) (k := c) C hK (by decide) rfl 2 rfl (rfl) (by omega) (by decide) (a := ad c) rfl dX5_append_39 ?_
      refine z_astore (L' := [(5, .ref (ad c)), (4, .int (nI c)), (0, .ref (ad 16)), (1, .int (nI e9)), (2, .int (m1)), (3, .int (m2))]) C dX5_append_40 (by decide) rfl ?_
      refine z_aload C dX5_append_42 0 rfl ?_
      refine z_iload_n C dX5_append_44 3 rfl ?_
      refine z_put (q := c) C hI tyX4 (T := TX4) (N := 11) (ci := 4) (own := RX5) (index := 28) hT4 hown hK (by omega) (xF_r hc) rfl 2 (by decide) (hts (.fieldLink RX5 28 "TriggerAnalyzer$Rule" "event" "I") (by decide +kernel)) (fun _ h9 => h9) tyX4_ok nmX4 rfl rfl rfl (Nat.le_of_ble_eq_true rfl) (f' := xF ad cI cL cR ((xs ((xs u 16 2 (nI (c + 1)))) c 2 (nI e9)))) (xF_p2 hc) xF_ne dX5_append_45 ?_
      refine z_aload C dX5_append_48 0 rfl ?_
      refine z_iload_n C dX5_append_50 4 rfl ?_
      refine z_put (q := c) C hI tyX4 (T := TX4) (N := 11) (ci := 4) (own := RX5) (index := 31) hT4 hown hK (by omega) (xF_r hc) rfl 3 (by decide) (hts (.fieldLink RX5 31 "TriggerAnalyzer$Rule" "must" "I") (by decide +kernel)) (fun _ h9 => h9) tyX4_ok nmX4 rfl rfl rfl (Nat.le_of_ble_eq_true rfl) (f' := xF ad cI cL cR ((xs ((xs ((xs u 16 2 (nI (c + 1)))) c 2 (nI e9))) c 3 (m1)))) (xF_p3 hc) xF_ne dX5_append_51 ?_
      refine z_aload C dX5_append_54 0 rfl ?_
      refine z_iload_n C dX5_append_56 5 rfl ?_
      refine z_put (q := c) C hI tyX4 (T := TX4) (N := 11) (ci := 4) (own := RX5) (index := 34) hT4 hown hK (by omega) (xF_r hc) rfl 4 (by decide) (hts (.fieldLink RX5 34 "TriggerAnalyzer$Rule" "mustNot" "I") (by decide +kernel)) (fun _ h9 => h9) tyX4_ok nmX4 rfl rfl rfl (Nat.le_of_ble_eq_true rfl) (f' := xF ad cI cL cR ((xs ((xs ((xs ((xs u 16 2 (nI (c + 1)))) c 2 (nI e9))) c 3 (m1))) c 4 (m2)))) (xF_p4 hc) xF_ne dX5_append_57 ?_
      refine z_aload_n C dX5_append_60 2 rfl ?_
      refine z_aload C dX5_append_61 0 rfl ?_
      refine z_iconst (v := nI 1) C (by decide) dX5_append_63 ?_
      refine z_callVv xX_ok C hml hown hts hK hX (c_X5_switchRule_v1 l D ad cI cL cR hI ((xs ((xs ((xs ((xs u 16 2 (nI (c + 1)))) c 2 (nI e9))) c 3 (m1))) c 4 (m2))) c hc e9 he (((xs_j (by decide)).trans (xs_j (by decide))).trans (xs_s _ _ _ _))) (cwV 2 hts gX5_append_X5_switchRule rfl rfl rfl (by decide +kernel) ⟨Nat.le_of_ble_eq_true rfl, Nat.le_of_ble_eq_true rfl⟩) (by decide) (ci := 5) rfl rfl rfl (st := []) rfl (Nat.le_of_ble_eq_true rfl) dX5_append_64 ⟨Nat.le_of_ble_eq_true rfl, Nat.le_of_ble_eq_true rfl⟩ (fun u64 h64 => ?_)
      subst u64
      refine z_iload C dX5_append_67 1 rfl ?_
      exact z_iret C hr hlocks hQ (xs (xs ((xs ((xs ((xs ((xs u 16 2 (nI (c + 1)))) c 2 (nI e9))) c 3 (m1))) c 4 (m2))) c 5 (nI 1)) 18 e9 (((xs ((xs ((xs ((xs u 16 2 (nI (c + 1)))) c 2 (nI e9))) c 3 (m1))) c 4 (m2))).1 18 e9 ||| nI (2 ^ c))) (⟨rfl, rfl⟩) (fun _ _ => rfl) dX5_append_69
    · skip
      have zn18 := zlt_f (a := c) (b := 8) (by omega) (by omega) zc18
      exact False.elim (by omega)

set_option maxHeartbeats 4000000 in
set_option maxRecDepth 100000 in
theorem c_X5_changed (l : Launch) (D : va_G) (ad : Nat → Nat) (cI cL cR : ClassId) (hI : gI 34 ad) (u : xS) (n : Nat) (B : Nat → Nat → Nat) (hR : xR u n B) (x : Nat) (hx : x < 16384) (a : Nat) (ha : a < 12) : ∀ sz, Met l yX5_changed wsX5_changed ({ frames := 1, cells := 0, slots := 0, locals := 21 }) (XP D ad cI cL cR u [.ref (ad 16), .int (nI x), .int (nI a)] sz) (va_Qi (fun r_ u' => r_ = nI (chg B x a) ∧ u' = u) (XB D ad cI cL cR) (gA 34 ad sz)) 0 0 (gA 34 ad sz) := by
  intro sz
  refine z_met (cc := cX5_changed) (maxL := 7) (ret := (some .int)) (by decide) rfl (Nat.le_of_ble_eq_true rfl) ?_
  intro pq lq sq mq aq Qq bq hmq cq C hr hml hown hts hlocks hK hX hsz hQ
  subst hsz
  refine z_sub (L' := [(0, .ref (ad 16)), (1, .int (nI x)), (2, .int (nI a))]) [0, 1, 2] rfl ?_
  have hl : lis B a < 256 := lis_lt B a
  have h6 : 2 ^ (a / 2) < 64 := pow_lt6 (by omega)
  refine z_iconst (v := nI 1) C (by decide) dX5_changed_0 ?_
  refine z_iload_n C dX5_changed_1 2 rfl ?_
  refine z_iconst (v := nI 1) C (by decide) dX5_changed_2 ?_
  refine z_ishr C dX5_changed_3 ?_
  refine z_topi (y := nI (a / 2)) (zi_half (by omega)) ?_
  refine z_ishl C dX5_changed_4 ?_
  refine z_topi (y := nI (2 ^ (a / 2))) (zi_shl1 (by omega)) ?_
  refine z_istore_n (L' := [(3, .int (nI (2 ^ (a / 2)))), (0, .ref (ad 16)), (1, .int (nI x)), (2, .int (nI a))]) C dX5_changed_5 (by decide) rfl ?_
  refine z_iload_n C dX5_changed_6 3 rfl ?_
  refine z_iconst (v := nI 1) C (by decide) dX5_changed_7 ?_
  refine z_iand C dX5_changed_8 ?_
  refine z_topi (y := nI (a % 2)) (fa_mask a 1) ?_
  refine z_iconst (v := nI 1) C (by decide) dX5_changed_9 ?_
  refine z_icmp_ne (tgt := 17) C dX5_changed_10 (by decide) (fun zc10 => ?_) (fun zc10 => ?_)
  · skip
    have zn10 := zeq_f (a := a % 2) (b := 1) zc10
    refine z_iconst (v := nI 0) C (by decide) dX5_changed_17 ?_
    refine z_istore (L' := [(4, .int (nI 0)), (3, .int (nI (2 ^ (a / 2)))), (0, .ref (ad 16)), (1, .int (nI x)), (2, .int (nI a))]) C dX5_changed_18 (by decide) rfl ?_
    refine z_iload_n C dX5_changed_20 3 rfl ?_
    refine z_iload_n C dX5_changed_21 1 rfl ?_
    refine z_iand C dX5_changed_22 ?_
    refine z_topi (y := nI (x &&& (2 ^ (a / 2)))) (fa_and x (2 ^ (a / 2))) ?_
    refine z_if_eq (tgt := 30) C dX5_changed_23 (by decide) (fun zc23 => ?_) (fun zc23 => ?_)
    · skip
      have h23 := zi_bitF (by omega) zc23
      refine z_iconst (v := nI 0) C (by decide) dX5_changed_30 ?_
      refine z_istore (L' := [(5, .int (nI 0)), (4, .int (nI 0)), (3, .int (nI (2 ^ (a / 2)))), (0, .ref (ad 16)), (1, .int (nI x)), (2, .int (nI a))]) C dX5_changed_31 (by decide) rfl ?_
      refine z_iload C dX5_changed_33 1 rfl ?_
      refine z_iload C dX5_changed_35 0 rfl ?_
      refine z_icmp_ne (tgt := 42) C dX5_changed_37 (by decide) (fun zc37 => ?_) (fun zc37 => ?_)
      · skip
        have zn37 := zeq_f (a := 0) (b := 0) zc37
        exact absurd zn37 (by decide)
      · skip
        have zn37 := zeq_t (a := 0) (b := 0) (by omega) (by omega) zc37
        refine z_iload_n C dX5_changed_40 4 rfl ?_
        exact z_iret C hr hlocks hQ u (⟨by unfold chg; rw [h23]; simp [*], rfl⟩) (fun _ _ => rfl) dX5_changed_41
    · skip
      have h23 := zi_bitT (by omega) zc23
      refine z_iconst (v := nI 1) C (by decide) dX5_changed_26 ?_
      refine z_goto (tgt := 31) C dX5_changed_27 (by decide) ?_
      refine z_istore (L' := [(5, .int (nI 1)), (4, .int (nI 0)), (3, .int (nI (2 ^ (a / 2)))), (0, .ref (ad 16)), (1, .int (nI x)), (2, .int (nI a))]) C dX5_changed_31 (by decide) rfl ?_
      refine z_iload C dX5_changed_33 1 rfl ?_
      refine z_iload C dX5_changed_35 0 rfl ?_
      refine z_icmp_ne (tgt := 42) C dX5_changed_37 (by decide) (fun zc37 => ?_) (fun zc37 => ?_)
      · skip
        have zn37 := zeq_f (a := 0) (b := 1) zc37
        refine z_iload_n C dX5_changed_42 4 rfl ?_
        refine z_callSNi xX_ok C hml hown hts hK hX (c_X6_triggeredIn l D ad cI cL cR hI u x (by omega)) ⟨va_cnB 1 hts gX5_changed_X6_triggeredIn_n54 rfl rfl rfl hX.1.2.2.1 (hts (.initialized RX6) (by decide +kernel)) (by decide +kernel) ⟨Nat.le_of_ble_eq_true rfl, Nat.le_of_ble_eq_true rfl⟩, hts (.static yX6_triggeredIn) (by decide +kernel), trivial⟩ rfl (st := []) rfl (Nat.le_of_ble_eq_true rfl) dX5_changed_43 ⟨Nat.le_of_ble_eq_true rfl, Nat.le_of_ble_eq_true rfl⟩ (fun r43 u43 h43 => ?_)
        obtain ⟨zr43, zu43⟩ := h43
        subst r43
        subst u43
        refine z_aload_n C dX5_changed_46 3 rfl ?_
        refine z_iload_n C dX5_changed_47 5 rfl ?_
        refine z_callVi xX_ok C hml hown hts hK hX (c_X5_listenersTo l D ad cI cL cR hI u n B hR a ha) (cwV 1 hts gX5_changed_X5_listenersTo rfl rfl rfl (by decide +kernel) ⟨Nat.le_of_ble_eq_true rfl, Nat.le_of_ble_eq_true rfl⟩) (by decide) (ci := 5) rfl rfl rfl (st := [.int (nI (x / 64))]) rfl (Nat.le_of_ble_eq_true rfl) dX5_changed_48 ⟨Nat.le_of_ble_eq_true rfl, Nat.le_of_ble_eq_true rfl⟩ (fun r48 u48 h48 => ?_)
        obtain ⟨zr48, zu48⟩ := h48
        subst r48
        subst u48
        refine z_ior C dX5_changed_51 ?_
        refine z_topi (y := nI ((x / 64) ||| (lis B a))) (fa_or (x / 64) (lis B a)) ?_
        refine z_istore (L' := [(6, .int (nI ((x / 64) ||| (lis B a)))), (5, .int (nI 1)), (4, .int (nI 0)), (3, .int (nI (2 ^ (a / 2)))), (0, .ref (ad 16)), (1, .int (nI x)), (2, .int (nI a))]) C dX5_changed_52 (by decide) rfl ?_
        refine z_iload_n C dX5_changed_54 5 rfl ?_
        refine z_callSNi xX_ok C hml hown hts hK hX (c_X6_factsIn l D ad cI cL cR hI u x) ⟨va_cnB 1 hts gX5_changed_X6_factsIn_n61 rfl rfl rfl hX.1.2.2.2.1 (hts (.initialized RX6) (by decide +kernel)) (by decide +kernel) ⟨Nat.le_of_ble_eq_true rfl, Nat.le_of_ble_eq_true rfl⟩, hts (.static yX6_factsIn) (by decide +kernel), trivial⟩ rfl (st := []) rfl (Nat.le_of_ble_eq_true rfl) dX5_changed_55 ⟨Nat.le_of_ble_eq_true rfl, Nat.le_of_ble_eq_true rfl⟩ (fun r55 u55 h55 => ?_)
        obtain ⟨zr55, zu55⟩ := h55
        subst r55
        subst u55
        refine z_iload_n C dX5_changed_58 3 rfl ?_
        refine z_ixor C dX5_changed_59 ?_
        refine z_topi (y := nI ((x % 64) ^^^ (2 ^ (a / 2)))) (nx_xor (x % 64) (2 ^ (a / 2))) ?_
        refine z_iload C dX5_changed_60 0 rfl ?_
        refine z_callSNi xX_ok C hml hown hts hK hX (c_X6_situationOf l D ad cI cL cR hI u (x % 64 ^^^ 2 ^ (a / 2)) (x / 64 ||| lis B a) (Nat.xor_lt_two_pow (n := 6) (by omega) h6) (Nat.lt_trans (Nat.or_lt_two_pow (n := 8) (by omega) hl) (by decide))) ⟨va_cnB 2 hts gX5_changed_X6_situationOf_n64 rfl rfl rfl hX.1.2.2.2.2.1 (hts (.initialized RX6) (by decide +kernel)) (by decide +kernel) ⟨Nat.le_of_ble_eq_true rfl, Nat.le_of_ble_eq_true rfl⟩, hts (.static yX6_situationOf) (by decide +kernel), trivial⟩ rfl (st := []) rfl (Nat.le_of_ble_eq_true rfl) dX5_changed_62 ⟨Nat.le_of_ble_eq_true rfl, Nat.le_of_ble_eq_true rfl⟩ (fun r62 u62 h62 => ?_)
        obtain ⟨zr62, zu62⟩ := h62
        subst r62
        subst u62
        exact z_iret C hr hlocks hQ u (⟨by unfold chg; rw [h23]; simp [*], rfl⟩) (fun _ _ => rfl) dX5_changed_65
      · skip
        have zn37 := zeq_t (a := 0) (b := 1) (by omega) (by omega) zc37
        exact absurd zn37 (by decide)
  · skip
    have zn10 := zeq_t (a := a % 2) (b := 1) (by omega) (by omega) zc10
    refine z_iconst (v := nI 1) C (by decide) dX5_changed_13 ?_
    refine z_goto (tgt := 18) C dX5_changed_14 (by decide) ?_
    refine z_istore (L' := [(4, .int (nI 1)), (3, .int (nI (2 ^ (a / 2)))), (0, .ref (ad 16)), (1, .int (nI x)), (2, .int (nI a))]) C dX5_changed_18 (by decide) rfl ?_
    refine z_iload_n C dX5_changed_20 3 rfl ?_
    refine z_iload_n C dX5_changed_21 1 rfl ?_
    refine z_iand C dX5_changed_22 ?_
    refine z_topi (y := nI (x &&& (2 ^ (a / 2)))) (fa_and x (2 ^ (a / 2))) ?_
    refine z_if_eq (tgt := 30) C dX5_changed_23 (by decide) (fun zc23 => ?_) (fun zc23 => ?_)
    · skip
      have h23 := zi_bitF (by omega) zc23
      refine z_iconst (v := nI 0) C (by decide) dX5_changed_30 ?_
      refine z_istore (L' := [(5, .int (nI 0)), (4, .int (nI 1)), (3, .int (nI (2 ^ (a / 2)))), (0, .ref (ad 16)), (1, .int (nI x)), (2, .int (nI a))]) C dX5_changed_31 (by decide) rfl ?_
      refine z_iload C dX5_changed_33 1 rfl ?_
      refine z_iload C dX5_changed_35 0 rfl ?_
      refine z_icmp_ne (tgt := 42) C dX5_changed_37 (by decide) (fun zc37 => ?_) (fun zc37 => ?_)
      · skip
        have zn37 := zeq_f (a := 1) (b := 0) zc37
        refine z_iload_n C dX5_changed_42 4 rfl ?_
        refine z_callSNi xX_ok C hml hown hts hK hX (c_X6_triggeredIn l D ad cI cL cR hI u x (by omega)) ⟨va_cnB 1 hts gX5_changed_X6_triggeredIn_n54 rfl rfl rfl hX.1.2.2.1 (hts (.initialized RX6) (by decide +kernel)) (by decide +kernel) ⟨Nat.le_of_ble_eq_true rfl, Nat.le_of_ble_eq_true rfl⟩, hts (.static yX6_triggeredIn) (by decide +kernel), trivial⟩ rfl (st := []) rfl (Nat.le_of_ble_eq_true rfl) dX5_changed_43 ⟨Nat.le_of_ble_eq_true rfl, Nat.le_of_ble_eq_true rfl⟩ (fun r43 u43 h43 => ?_)
        obtain ⟨zr43, zu43⟩ := h43
        subst r43
        subst u43
        refine z_aload_n C dX5_changed_46 3 rfl ?_
        refine z_iload_n C dX5_changed_47 5 rfl ?_
        refine z_callVi xX_ok C hml hown hts hK hX (c_X5_listenersTo l D ad cI cL cR hI u n B hR a ha) (cwV 1 hts gX5_changed_X5_listenersTo rfl rfl rfl (by decide +kernel) ⟨Nat.le_of_ble_eq_true rfl, Nat.le_of_ble_eq_true rfl⟩) (by decide) (ci := 5) rfl rfl rfl (st := [.int (nI (x / 64))]) rfl (Nat.le_of_ble_eq_true rfl) dX5_changed_48 ⟨Nat.le_of_ble_eq_true rfl, Nat.le_of_ble_eq_true rfl⟩ (fun r48 u48 h48 => ?_)
        obtain ⟨zr48, zu48⟩ := h48
        subst r48
        subst u48
        refine z_ior C dX5_changed_51 ?_
        refine z_topi (y := nI ((x / 64) ||| (lis B a))) (fa_or (x / 64) (lis B a)) ?_
        refine z_istore (L' := [(6, .int (nI ((x / 64) ||| (lis B a)))), (5, .int (nI 0)), (4, .int (nI 1)), (3, .int (nI (2 ^ (a / 2)))), (0, .ref (ad 16)), (1, .int (nI x)), (2, .int (nI a))]) C dX5_changed_52 (by decide) rfl ?_
        refine z_iload_n C dX5_changed_54 5 rfl ?_
        refine z_callSNi xX_ok C hml hown hts hK hX (c_X6_factsIn l D ad cI cL cR hI u x) ⟨va_cnB 1 hts gX5_changed_X6_factsIn_n61 rfl rfl rfl hX.1.2.2.2.1 (hts (.initialized RX6) (by decide +kernel)) (by decide +kernel) ⟨Nat.le_of_ble_eq_true rfl, Nat.le_of_ble_eq_true rfl⟩, hts (.static yX6_factsIn) (by decide +kernel), trivial⟩ rfl (st := []) rfl (Nat.le_of_ble_eq_true rfl) dX5_changed_55 ⟨Nat.le_of_ble_eq_true rfl, Nat.le_of_ble_eq_true rfl⟩ (fun r55 u55 h55 => ?_)
        obtain ⟨zr55, zu55⟩ := h55
        subst r55
        subst u55
        refine z_iload_n C dX5_changed_58 3 rfl ?_
        refine z_ixor C dX5_changed_59 ?_
        refine z_topi (y := nI ((x % 64) ^^^ (2 ^ (a / 2)))) (nx_xor (x % 64) (2 ^ (a / 2))) ?_
        refine z_iload C dX5_changed_60 0 rfl ?_
        refine z_callSNi xX_ok C hml hown hts hK hX (c_X6_situationOf l D ad cI cL cR hI u (x % 64 ^^^ 2 ^ (a / 2)) (x / 64 ||| lis B a) (Nat.xor_lt_two_pow (n := 6) (by omega) h6) (Nat.lt_trans (Nat.or_lt_two_pow (n := 8) (by omega) hl) (by decide))) ⟨va_cnB 2 hts gX5_changed_X6_situationOf_n64 rfl rfl rfl hX.1.2.2.2.2.1 (hts (.initialized RX6) (by decide +kernel)) (by decide +kernel) ⟨Nat.le_of_ble_eq_true rfl, Nat.le_of_ble_eq_true rfl⟩, hts (.static yX6_situationOf) (by decide +kernel), trivial⟩ rfl (st := []) rfl (Nat.le_of_ble_eq_true rfl) dX5_changed_62 ⟨Nat.le_of_ble_eq_true rfl, Nat.le_of_ble_eq_true rfl⟩ (fun r62 u62 h62 => ?_)
        obtain ⟨zr62, zu62⟩ := h62
        subst r62
        subst u62
        exact z_iret C hr hlocks hQ u (⟨by unfold chg; rw [h23]; simp [*], rfl⟩) (fun _ _ => rfl) dX5_changed_65
      · skip
        have zn37 := zeq_t (a := 1) (b := 0) (by omega) (by omega) zc37
        exact absurd zn37 (by decide)
    · skip
      have h23 := zi_bitT (by omega) zc23
      refine z_iconst (v := nI 1) C (by decide) dX5_changed_26 ?_
      refine z_goto (tgt := 31) C dX5_changed_27 (by decide) ?_
      refine z_istore (L' := [(5, .int (nI 1)), (4, .int (nI 1)), (3, .int (nI (2 ^ (a / 2)))), (0, .ref (ad 16)), (1, .int (nI x)), (2, .int (nI a))]) C dX5_changed_31 (by decide) rfl ?_
      refine z_iload C dX5_changed_33 1 rfl ?_
      refine z_iload C dX5_changed_35 0 rfl ?_
      refine z_icmp_ne (tgt := 42) C dX5_changed_37 (by decide) (fun zc37 => ?_) (fun zc37 => ?_)
      · skip
        have zn37 := zeq_f (a := 1) (b := 1) zc37
        exact absurd zn37 (by decide)
      · skip
        have zn37 := zeq_t (a := 1) (b := 1) (by omega) (by omega) zc37
        refine z_iload_n C dX5_changed_40 4 rfl ?_
        exact z_iret C hr hlocks hQ u (⟨by unfold chg; rw [h23]; simp [*], rfl⟩) (fun _ _ => rfl) dX5_changed_41

set_option maxHeartbeats 4000000 in
set_option maxRecDepth 100000 in
theorem c_X5_readyIn (l : Launch) (D : va_G) (ad : Nat → Nat) (cI cL cR : ClassId) (hI : gI 34 ad) (u : xS) (n : Nat) (B : Nat → Nat → Nat) (hR : xR u n B) (x : Nat) (hx : x < 16384) : ∀ sz, Met l yX5_readyIn wsX5_readyIn ({ frames := 2, cells := 0, slots := 0, locals := 42 }) (XP D ad cI cL cR u [.ref (ad 16), .int (nI x)] sz) (va_Qi (fun r_ u' => r_ = nI (rdy B (x / 64)) ∧ u' = u) (XB D ad cI cL cR) (gA 34 ad sz)) 0 0 (gA 34 ad sz) := by
  intro sz
  refine z_met (cc := cX5_readyIn) (maxL := 4) (ret := (some .int)) (by decide) rfl (Nat.le_of_ble_eq_true rfl) ?_
  intro pq lq sq mq aq Qq bq hmq cq C hr hml hown hts hlocks hK hX hsz hQ
  subst hsz
  have hT4 : ∀ w ∈ wsX40, w.before aq sq = true := fun w h => hts w ((by decide +kernel : ∀ w ∈ wsX40, w ∈ wsX5_readyIn) w h)
  have hT5 : ∀ w ∈ wsX50, w.before aq sq = true := fun w h => hts w ((by decide +kernel : ∀ w ∈ wsX50, w ∈ wsX5_readyIn) w h)
  refine z_sub (L' := [(0, .ref (ad 16)), (1, .int (nI x))]) [0, 1] rfl ?_
  refine z_iconst (v := nI 0) C (by decide) dX5_readyIn_0 ?_
  refine z_istore_n (L' := [(2, .int (nI 0)), (0, .ref (ad 16)), (1, .int (nI x))]) C dX5_readyIn_1 (by decide) rfl ?_
  refine z_iconst (v := nI 0) C (by decide) dX5_readyIn_2 ?_
  refine z_istore_n (L' := [(3, .int (nI 0)), (2, .int (nI 0)), (0, .ref (ad 16)), (1, .int (nI x))]) C dX5_readyIn_3 (by decide) rfl ?_
  have loop4 : ∀ (d4 : Nat) (k : Nat) (r9 : Int32), 8 - k < d4 → (k ≤ 8) → (r9 = nI (mks (fun i => rdy1 B i (x / 64)) k)) → ZZ pq l lq { frames := 2, cells := 0, slots := 0, locals := 42 } sq mq aq bq hmq cq D vwCl 34 ad 4 0 0 Qq (xF ad cI cL cR u) [(0, .ref (ad 16)), (1, .int (nI x)), (2, .int (r9)), (3, .int (nI k))] 4 [] := by
    intro d4
    induction d4 with
    | zero => intro k r9 hz; exact absurd hz (Nat.not_lt_zero _)
    | succ d4 ih4 =>
      intro k r9 hz4 hk hr9
      refine z_iload_n C dX5_readyIn_4 3 rfl ?_
      refine z_aload_n C dX5_readyIn_5 0 rfl ?_
      refine z_get (q := 16) C (T := TX5) (N := 3) (ci := 5) (own := RX5) (index := 11) (v := .ref (ad 17)) hT5 hown hK (by decide) rfl rfl 0 (by decide) (hts (.fieldLink RX5 11 "TriggerAnalyzer$RuleBook" "rules" "[LTriggerAnalyzer$Rule;") (by decide +kernel)) (fun _ h9 => h9) rfl dX5_readyIn_6 ?_
      refine z_alen (q := 17) (len := 8) C hK (by decide) rfl 2 rfl (v := nI 8) (by decide) dX5_readyIn_9 ?_
      refine z_icmp_ge (tgt := 44) C dX5_readyIn_10 (by decide) (fun zc10 => ?_) (fun zc10 => ?_)
      · skip
        have zn10 := zge_t (a := k) (b := 8) (by omega) (by omega) zc10
        refine z_iload_n C dX5_readyIn_44 2 rfl ?_
        exact z_iret C hr hlocks hQ u (⟨by rw [hr9, show k = 8 by omega]; rfl, rfl⟩) (fun _ _ => rfl) dX5_readyIn_45
      · skip
        have zn10 := zge_f (a := k) (b := 8) (by omega) (by omega) zc10
        refine z_aload_n C dX5_readyIn_13 0 rfl ?_
        refine z_get (q := 16) C (T := TX5) (N := 3) (ci := 5) (own := RX5) (index := 11) (v := .ref (ad 17)) hT5 hown hK (by decide) rfl rfl 0 (by decide) (hts (.fieldLink RX5 11 "TriggerAnalyzer$RuleBook" "rules" "[LTriggerAnalyzer$Rule;") (by decide +kernel)) (fun _ h9 => h9) rfl dX5_readyIn_14 ?_
        refine z_iload_n C dX5_readyIn_17 3 rfl ?_
        refine z_aald (q := 17) (len := 8) (k := k) C hK (by decide) rfl 2 rfl (rfl) (by omega) (by decide) (a := ad k) rfl dX5_readyIn_18 ?_
        refine z_iload_n C dX5_readyIn_19 1 rfl ?_
        refine z_callVi xX_ok C hml hown hts hK hX (c_X4_isReadyIn l D ad cI cL cR hI u n B hR k zn10 x hx) (cwV 1 hts gX5_readyIn_X4_isReadyIn rfl rfl rfl (by decide +kernel) ⟨Nat.le_of_ble_eq_true rfl, Nat.le_of_ble_eq_true rfl⟩) (by omega) (ci := 4) (xF_r zn10) rfl rfl (st := []) rfl (Nat.le_of_ble_eq_true rfl) dX5_readyIn_20 ⟨Nat.le_of_ble_eq_true rfl, Nat.le_of_ble_eq_true rfl⟩ (fun r20 u20 h20 => ?_)
        obtain ⟨zr20, zu20⟩ := h20
        subst r20
        subst u20
        refine z_if_eq (tgt := 38) C dX5_readyIn_23 (by decide) (fun zc23 => ?_) (fun zc23 => ?_)
        · skip
          have h := z1f zc23
          refine z_iinc (L' := [(3, .int (nI (k + 1))), (0, .ref (ad 16)), (1, .int (nI x)), (2, .int (r9))]) C dX5_readyIn_38 3 rfl (nI_1 k) (by decide) rfl ?_
          refine z_goto (tgt := 4) C dX5_readyIn_41 (by decide) ?_
          refine z_sub (L' := [(0, .ref (ad 16)), (1, .int (nI x)), (2, .int (r9)), (3, .int (nI (k + 1)))]) [1, 2, 3, 0] rfl ?_
          exact ih4 (k + 1) r9 (by omega) (by omega) (by rw [hr9, mks, if_neg h, Nat.or_zero])
        · skip
          have h := z1t zc23
          refine z_iload_n C dX5_readyIn_26 2 rfl ?_
          refine z_aload_n C dX5_readyIn_27 0 rfl ?_
          refine z_get (q := 16) C (T := TX5) (N := 3) (ci := 5) (own := RX5) (index := 11) (v := .ref (ad 17)) hT5 hown hK (by decide) rfl rfl 0 (by decide) (hts (.fieldLink RX5 11 "TriggerAnalyzer$RuleBook" "rules" "[LTriggerAnalyzer$Rule;") (by decide +kernel)) (fun _ h9 => h9) rfl dX5_readyIn_28 ?_
          refine z_iload_n C dX5_readyIn_31 3 rfl ?_
          refine z_aald (q := 17) (len := 8) (k := k) C hK (by decide) rfl 2 rfl (rfl) (by omega) (by decide) (a := ad k) rfl dX5_readyIn_32 ?_
          refine z_get (q := k) C (T := TX4) (N := 11) (ci := 4) (own := RX5) (index := 45) (v := .int (nI (2 ^ k))) hT4 hown hK (by omega) (xF_r zn10) rfl 0 (by decide) (hts (.fieldLink RX5 45 "TriggerAnalyzer$Rule" "bit" "I") (by decide +kernel)) (fun _ h9 => h9) rfl dX5_readyIn_33 ?_
          refine z_ior C dX5_readyIn_36 ?_
          refine z_istore_n (L' := [(2, .int ((r9) ||| (nI (2 ^ k)))), (0, .ref (ad 16)), (1, .int (nI x)), (3, .int (nI k))]) C dX5_readyIn_37 (by decide) rfl ?_
          refine z_iinc (L' := [(3, .int (nI (k + 1))), (2, .int ((r9) ||| (nI (2 ^ k)))), (0, .ref (ad 16)), (1, .int (nI x))]) C dX5_readyIn_38 3 rfl (nI_1 k) (by decide) rfl ?_
          refine z_goto (tgt := 4) C dX5_readyIn_41 (by decide) ?_
          refine z_sub (L' := [(0, .ref (ad 16)), (1, .int (nI x)), (2, .int ((r9) ||| (nI (2 ^ k)))), (3, .int (nI (k + 1)))]) [2, 3, 1, 0] rfl ?_
          exact ih4 (k + 1) ((r9) ||| (nI (2 ^ k))) (by omega) (by omega) (by rw [hr9, fa_or, mks, if_pos h])
  refine z_sub (L' := [(0, .ref (ad 16)), (1, .int (nI x)), (2, .int (nI 0)), (3, .int (nI 0))]) [2, 3, 1, 0] rfl ?_
  exact loop4 9 0 (nI 0) (by omega) (by omega) rfl

set_option maxHeartbeats 4000000 in
set_option maxRecDepth 100000 in
theorem c_X5_firstReadyIn (l : Launch) (D : va_G) (ad : Nat → Nat) (cI cL cR : ClassId) (hI : gI 34 ad) (u : xS) (n : Nat) (B : Nat → Nat → Nat) (hR : xR u n B) (x : Nat) (hx : x < 16384) : ∀ sz, Met l yX5_firstReadyIn wsX5_firstReadyIn ({ frames := 2, cells := 0, slots := 0, locals := 42 }) (XP D ad cI cL cR u [.ref (ad 16), .int (nI x)] sz) (va_Qq (fun r u' => ((∃ k, k < 8 ∧ rdy1 B k (x / 64) = true ∧ (∀ j, j < k → rdy1 B j (x / 64) = false) ∧ r = some (ad k)) ∨ ((∀ j, j < 8 → rdy1 B j (x / 64) = false) ∧ r = none)) ∧ u' = u) (XB D ad cI cL cR) (gA 34 ad sz)) 0 0 (gA 34 ad sz) := by
  intro sz
  refine z_met (cc := cX5_firstReadyIn) (maxL := 3) (ret := (some (.object "TriggerAnalyzer$Rule"))) (by decide) rfl (Nat.le_of_ble_eq_true rfl) ?_
  intro pq lq sq mq aq Qq bq hmq cq C hr hml hown hts hlocks hK hX hsz hQ
  subst hsz
  have hT5 : ∀ w ∈ wsX50, w.before aq sq = true := fun w h => hts w ((by decide +kernel : ∀ w ∈ wsX50, w ∈ wsX5_firstReadyIn) w h)
  refine z_sub (L' := [(0, .ref (ad 16)), (1, .int (nI x))]) [0, 1] rfl ?_
  refine z_iconst (v := nI 0) C (by decide) dX5_firstReadyIn_0 ?_
  refine z_istore_n (L' := [(2, .int (nI 0)), (0, .ref (ad 16)), (1, .int (nI x))]) C dX5_firstReadyIn_1 (by decide) rfl ?_
  have loop2 : ∀ (d2 : Nat) (k : Nat), 8 - k < d2 → (k ≤ 8) → (∀ j, j < k → rdy1 B j (x / 64) = false) → ZZ pq l lq { frames := 2, cells := 0, slots := 0, locals := 42 } sq mq aq bq hmq cq D vwCl 34 ad 3 0 0 Qq (xF ad cI cL cR u) [(0, .ref (ad 16)), (1, .int (nI x)), (2, .int (nI k))] 2 [] := by
    intro d2
    induction d2 with
    | zero => intro k hz; exact absurd hz (Nat.not_lt_zero _)
    | succ d2 ih2 =>
      intro k hz2 hk hno
      refine z_iload_n C dX5_firstReadyIn_2 2 rfl ?_
      refine z_aload_n C dX5_firstReadyIn_3 0 rfl ?_
      refine z_get (q := 16) C (T := TX5) (N := 3) (ci := 5) (own := RX5) (index := 11) (v := .ref (ad 17)) hT5 hown hK (by decide) rfl rfl 0 (by decide) (hts (.fieldLink RX5 11 "TriggerAnalyzer$RuleBook" "rules" "[LTriggerAnalyzer$Rule;") (by decide +kernel)) (fun _ h9 => h9) rfl dX5_firstReadyIn_4 ?_
      refine z_alen (q := 17) (len := 8) C hK (by decide) rfl 2 rfl (v := nI 8) (by decide) dX5_firstReadyIn_7 ?_
      refine z_icmp_ge (tgt := 37) C dX5_firstReadyIn_8 (by decide) (fun zc8 => ?_) (fun zc8 => ?_)
      · skip
        have zn8 := zge_t (a := k) (b := 8) (by omega) (by omega) zc8
        refine z_null C dX5_firstReadyIn_37 ?_
        exact z_aret C hr ⟨_, rfl⟩ hlocks none rfl hQ u (⟨Or.inr ⟨fun j hj => hno j (by omega), rfl⟩, rfl⟩) (fun _ _ => rfl) dX5_firstReadyIn_38
      · skip
        have zn8 := zge_f (a := k) (b := 8) (by omega) (by omega) zc8
        refine z_aload_n C dX5_firstReadyIn_11 0 rfl ?_
        refine z_get (q := 16) C (T := TX5) (N := 3) (ci := 5) (own := RX5) (index := 11) (v := .ref (ad 17)) hT5 hown hK (by decide) rfl rfl 0 (by decide) (hts (.fieldLink RX5 11 "TriggerAnalyzer$RuleBook" "rules" "[LTriggerAnalyzer$Rule;") (by decide +kernel)) (fun _ h9 => h9) rfl dX5_firstReadyIn_12 ?_
        refine z_iload_n C dX5_firstReadyIn_15 2 rfl ?_
        refine z_aald (q := 17) (len := 8) (k := k) C hK (by decide) rfl 2 rfl (rfl) (by omega) (by decide) (a := ad k) rfl dX5_firstReadyIn_16 ?_
        refine z_iload_n C dX5_firstReadyIn_17 1 rfl ?_
        refine z_callVi xX_ok C hml hown hts hK hX (c_X4_isReadyIn l D ad cI cL cR hI u n B hR k zn8 x hx) (cwV 1 hts gX5_firstReadyIn_X4_isReadyIn rfl rfl rfl (by decide +kernel) ⟨Nat.le_of_ble_eq_true rfl, Nat.le_of_ble_eq_true rfl⟩) (by omega) (ci := 4) (xF_r zn8) rfl rfl (st := []) rfl (Nat.le_of_ble_eq_true rfl) dX5_firstReadyIn_18 ⟨Nat.le_of_ble_eq_true rfl, Nat.le_of_ble_eq_true rfl⟩ (fun r18 u18 h18 => ?_)
        obtain ⟨zr18, zu18⟩ := h18
        subst r18
        subst u18
        refine z_if_eq (tgt := 31) C dX5_firstReadyIn_21 (by decide) (fun zc21 => ?_) (fun zc21 => ?_)
        · skip
          have h := z1f zc21
          refine z_iinc (L' := [(2, .int (nI (k + 1))), (0, .ref (ad 16)), (1, .int (nI x))]) C dX5_firstReadyIn_31 2 rfl (nI_1 k) (by decide) rfl ?_
          refine z_goto (tgt := 2) C dX5_firstReadyIn_34 (by decide) ?_
          refine z_sub (L' := [(0, .ref (ad 16)), (1, .int (nI x)), (2, .int (nI (k + 1)))]) [1, 2, 0] rfl ?_
          exact ih2 (k + 1) (by omega) (by omega) (fun j hj => by rcases Nat.lt_or_ge j k with q | q; exact hno j q; rw [show j = k by omega]; exact Bool.eq_false_iff.mpr h)
        · skip
          have h := z1t zc21
          refine z_aload_n C dX5_firstReadyIn_24 0 rfl ?_
          refine z_get (q := 16) C (T := TX5) (N := 3) (ci := 5) (own := RX5) (index := 11) (v := .ref (ad 17)) hT5 hown hK (by decide) rfl rfl 0 (by decide) (hts (.fieldLink RX5 11 "TriggerAnalyzer$RuleBook" "rules" "[LTriggerAnalyzer$Rule;") (by decide +kernel)) (fun _ h9 => h9) rfl dX5_firstReadyIn_25 ?_
          refine z_iload_n C dX5_firstReadyIn_28 2 rfl ?_
          refine z_aald (q := 17) (len := 8) (k := k) C hK (by decide) rfl 2 rfl (rfl) (by omega) (by decide) (a := ad k) rfl dX5_firstReadyIn_29 ?_
          exact z_aret C hr ⟨_, rfl⟩ hlocks (some (ad k)) rfl hQ u (⟨Or.inl ⟨k, zn8, h, hno, rfl⟩, rfl⟩) (fun _ _ => rfl) dX5_firstReadyIn_30
  refine z_sub (L' := [(0, .ref (ad 16)), (1, .int (nI x)), (2, .int (nI 0))]) [1, 2, 0] rfl ?_
  exact loop2 9 0 (by omega) (by omega) (fun j hj => absurd hj (Nat.not_lt_zero _))

set_option maxHeartbeats 4000000 in
set_option maxRecDepth 100000 in
theorem c_X5_played (l : Launch) (D : va_G) (ad : Nat → Nat) (cI cL cR : ClassId) (hI : gI 34 ad) (u : xS) (n : Nat) (B : Nat → Nat → Nat) (hR : xR u n B) (x : Nat) (hx : x < 16384) (i : Nat) (hi : i < 8) : ∀ sz, Met l yX5_played wsX5_played ({ frames := 2, cells := 0, slots := 0, locals := 47 }) (XP D ad cI cL cR u [.ref (ad 16), .int (nI x), .ref (ad i)] sz) (va_Qi (fun r_ u' => r_ = nI (ply B i x) ∧ u' = u) (XB D ad cI cL cR) (gA 34 ad sz)) 0 0 (gA 34 ad sz) := by
  intro sz
  refine z_met (cc := cX5_played) (maxL := 5) (ret := (some .int)) (by decide) rfl (Nat.le_of_ble_eq_true rfl) ?_
  intro pq lq sq mq aq Qq bq hmq cq C hr hml hown hts hlocks hK hX hsz hQ
  subst hsz
  have hT4 : ∀ w ∈ wsX40, w.before aq sq = true := fun w h => hts w ((by decide +kernel : ∀ w ∈ wsX40, w ∈ wsX5_played) w h)
  refine z_sub (L' := [(0, .ref (ad 16)), (1, .int (nI x)), (2, .ref (ad i))]) [0, 1, 2] rfl ?_
  have hc : clr (x / 64) i < 256 := clr_lt _ _
  have hh : (64 * clr (x / 64) i + x % 64) % 64 = x % 64 := by omega
  have g4 : B i 4 ≤ 4 := gB_4 hR.1 hi
  refine z_iload_n C dX5_played_0 1 rfl ?_
  refine z_callSNi xX_ok C hml hown hts hK hX (c_X6_factsIn l D ad cI cL cR hI u x) ⟨va_cnB 1 hts gX5_played_X6_factsIn_n61 rfl rfl rfl hX.1.2.2.2.1 (hts (.initialized RX6) (by decide +kernel)) (by decide +kernel) ⟨Nat.le_of_ble_eq_true rfl, Nat.le_of_ble_eq_true rfl⟩, hts (.static yX6_factsIn) (by decide +kernel), trivial⟩ rfl (st := []) rfl (Nat.le_of_ble_eq_true rfl) dX5_played_1 ⟨Nat.le_of_ble_eq_true rfl, Nat.le_of_ble_eq_true rfl⟩ (fun r1 u1 h1 => ?_)
  obtain ⟨zr1, zu1⟩ := h1
  subst r1
  subst u1
  refine z_iload_n C dX5_played_4 1 rfl ?_
  refine z_callSNi xX_ok C hml hown hts hK hX (c_X6_triggeredIn l D ad cI cL cR hI u x (by omega)) ⟨va_cnB 1 hts gX5_played_X6_triggeredIn_n54 rfl rfl rfl hX.1.2.2.1 (hts (.initialized RX6) (by decide +kernel)) (by decide +kernel) ⟨Nat.le_of_ble_eq_true rfl, Nat.le_of_ble_eq_true rfl⟩, hts (.static yX6_triggeredIn) (by decide +kernel), trivial⟩ rfl (st := [.int (nI (x % 64))]) rfl (Nat.le_of_ble_eq_true rfl) dX5_played_5 ⟨Nat.le_of_ble_eq_true rfl, Nat.le_of_ble_eq_true rfl⟩ (fun r5 u5 h5 => ?_)
  obtain ⟨zr5, zu5⟩ := h5
  subst r5
  subst u5
  refine z_aload_n C dX5_played_8 2 rfl ?_
  refine z_get (q := i) C (T := TX4) (N := 11) (ci := 4) (own := RX5) (index := 45) (v := .int (nI (2 ^ i))) hT4 hown hK (by omega) (xF_r hi) rfl 0 (by decide) (hts (.fieldLink RX5 45 "TriggerAnalyzer$Rule" "bit" "I") (by decide +kernel)) (fun _ h9 => h9) rfl dX5_played_9 ?_
  refine z_iconst (v := (-1)) C (by decide) dX5_played_12 ?_
  refine z_ixor C dX5_played_13 ?_
  refine z_iand C dX5_played_14 ?_
  refine z_topi (y := nI (clr (x / 64) i)) (zi_clr (by omega) hi) ?_
  refine z_callSNi xX_ok C hml hown hts hK hX (c_X6_situationOf l D ad cI cL cR hI u (x % 64) (clr (x / 64) i) (by omega) (by omega)) ⟨va_cnB 2 hts gX5_played_X6_situationOf_n64 rfl rfl rfl hX.1.2.2.2.2.1 (hts (.initialized RX6) (by decide +kernel)) (by decide +kernel) ⟨Nat.le_of_ble_eq_true rfl, Nat.le_of_ble_eq_true rfl⟩, hts (.static yX6_situationOf) (by decide +kernel), trivial⟩ rfl (st := []) rfl (Nat.le_of_ble_eq_true rfl) dX5_played_15 ⟨Nat.le_of_ble_eq_true rfl, Nat.le_of_ble_eq_true rfl⟩ (fun r15 u15 h15 => ?_)
  obtain ⟨zr15, zu15⟩ := h15
  subst r15
  subst u15
  refine z_istore_n (L' := [(3, .int (nI (64 * ((clr (x / 64) i)) + ((x % 64))))), (0, .ref (ad 16)), (1, .int (nI x)), (2, .ref (ad i))]) C dX5_played_18 (by decide) rfl ?_
  refine z_aload_n C dX5_played_19 3 rfl ?_
  refine z_iload_n C dX5_played_20 0 rfl ?_
  refine z_callVi xX_ok C hml hown hts hK hX (c_X4_holdsIn l D ad cI cL cR hI u n B hR i hi (64 * clr (x / 64) i + x % 64) (by omega)) (cwV 1 hts gX5_played_X4_holdsIn rfl rfl rfl (by decide +kernel) ⟨Nat.le_of_ble_eq_true rfl, Nat.le_of_ble_eq_true rfl⟩) (by omega) (ci := 4) (xF_r hi) rfl rfl (st := []) rfl (Nat.le_of_ble_eq_true rfl) dX5_played_21 ⟨Nat.le_of_ble_eq_true rfl, Nat.le_of_ble_eq_true rfl⟩ (fun r21 u21 h21 => ?_)
  obtain ⟨zr21, zu21⟩ := h21
  subst r21
  subst u21
  refine z_if_ne (tgt := 29) C dX5_played_24 (by decide) (fun zc24 => ?_) (fun zc24 => ?_)
  · skip
    have h := z1t zc24
    rw [hh] at h
    refine z_iconst (v := nI 0) C (by decide) dX5_played_29 ?_
    refine z_istore (L' := [(4, .int (nI 0)), (3, .int (nI (64 * ((clr (x / 64) i)) + ((x % 64))))), (0, .ref (ad 16)), (1, .int (nI x)), (2, .ref (ad i))]) C dX5_played_30 (by decide) rfl ?_
    have loop32 : ∀ (d32 : Nat) (k X : Nat), B i 4 - k < d32 → (k ≤ B i 4) → (X = plys B i (64 * clr (x / 64) i + x % 64) k) → ZZ pq l lq { frames := 2, cells := 0, slots := 0, locals := 47 } sq mq aq bq hmq cq D vwCl 34 ad 5 0 0 Qq (xF ad cI cL cR u) [(0, .ref (ad 16)), (1, .int (nI x)), (2, .ref (ad i)), (3, .int (nI X)), (4, .int (nI k))] 32 [] := by
      intro d32
      induction d32 with
      | zero => intro k X hz; exact absurd hz (Nat.not_lt_zero _)
      | succ d32 ih32 =>
        intro k X hz32 hk hXq
        have hX9 : X < 16384 := by rw [hXq]; exact plys_lt hR.1 hi (by omega) k hk
        refine z_iload C dX5_played_32 4 rfl ?_
        refine z_aload_n C dX5_played_34 2 rfl ?_
        refine z_get (q := i) C (T := TX4) (N := 11) (ci := 4) (own := RX5) (index := 75) (v := .int (u.1 i 6)) hT4 hown hK (by omega) (xF_r hi) rfl 6 (by decide) (hts (.fieldLink RX5 75 "TriggerAnalyzer$Rule" "actionCount" "I") (by decide +kernel)) (fun _ h9 => h9) rfl dX5_played_35 ?_
        refine z_topi (y := nI (B i 4)) (xR_6 hR (by omega)) ?_
        refine z_icmp_ge (tgt := 59) C dX5_played_38 (by decide) (fun zc38 => ?_) (fun zc38 => ?_)
        · skip
          have zn38 := zge_t (a := k) (b := B i 4) (by omega) (by omega) zc38
          refine z_iload_n C dX5_played_59 3 rfl ?_
          exact z_iret C hr hlocks hQ u (⟨by unfold ply; rw [if_pos h, hXq, show k = B i 4 by omega], rfl⟩) (fun _ _ => rfl) dX5_played_60
        · skip
          have zn38 := zge_f (a := k) (b := B i 4) (by omega) (by omega) zc38
          refine z_aload_n C dX5_played_41 0 rfl ?_
          refine z_iload_n C dX5_played_42 3 rfl ?_
          refine z_aload_n C dX5_played_43 2 rfl ?_
          refine z_iload C dX5_played_44 4 rfl ?_
          refine z_callVi xX_ok C hml hown hts hK hX (c_X4_actionAt l D ad cI cL cR hI u n B hR i hi k zn38) (cwV 1 hts gX5_played_X4_actionAt rfl rfl rfl (by decide +kernel) ⟨Nat.le_of_ble_eq_true rfl, Nat.le_of_ble_eq_true rfl⟩) (by omega) (ci := 4) (xF_r hi) rfl rfl (st := [.int (nI X), .ref (ad 16)]) rfl (Nat.le_of_ble_eq_true rfl) dX5_played_46 ⟨Nat.le_of_ble_eq_true rfl, Nat.le_of_ble_eq_true rfl⟩ (fun r46 u46 h46 => ?_)
          obtain ⟨zr46, zu46⟩ := h46
          subst r46
          subst u46
          refine z_callVi xX_ok C hml hown hts hK hX (c_X5_changed l D ad cI cL cR hI u n B hR X hX9 (B i (6 + k)) (gB_6 hR.1 hi (by omega))) (cwV 2 hts gX5_played_X5_changed rfl rfl rfl (by decide +kernel) ⟨Nat.le_of_ble_eq_true rfl, Nat.le_of_ble_eq_true rfl⟩) (by decide) (ci := 5) rfl rfl rfl (st := []) rfl (Nat.le_of_ble_eq_true rfl) dX5_played_49 ⟨Nat.le_of_ble_eq_true rfl, Nat.le_of_ble_eq_true rfl⟩ (fun r49 u49 h49 => ?_)
          obtain ⟨zr49, zu49⟩ := h49
          subst r49
          subst u49
          refine z_istore_n (L' := [(3, .int (nI (chg B X ((B i (6 + k)))))), (0, .ref (ad 16)), (1, .int (nI x)), (2, .ref (ad i)), (4, .int (nI k))]) C dX5_played_52 (by decide) rfl ?_
          refine z_iinc (L' := [(4, .int (nI (k + 1))), (3, .int (nI (chg B X ((B i (6 + k)))))), (0, .ref (ad 16)), (1, .int (nI x)), (2, .ref (ad i))]) C dX5_played_53 4 rfl (nI_1 k) (by decide) rfl ?_
          refine z_goto (tgt := 32) C dX5_played_56 (by decide) ?_
          refine z_sub (L' := [(0, .ref (ad 16)), (1, .int (nI x)), (2, .ref (ad i)), (3, .int (nI (chg B X ((B i (6 + k)))))), (4, .int (nI (k + 1)))]) [2, 3, 4, 1, 0] rfl ?_
          exact ih32 (k + 1) (chg B X (B i (6 + k))) (by omega) (by omega) (by rw [hXq]; rfl)
    refine z_sub (L' := [(0, .ref (ad 16)), (1, .int (nI x)), (2, .ref (ad i)), (3, .int (nI (64 * ((clr (x / 64) i)) + ((x % 64))))), (4, .int (nI 0))]) [2, 3, 4, 1, 0] rfl ?_
    exact loop32 (B i 4 + 1) 0 (64 * clr (x / 64) i + x % 64) (by omega) (by omega) rfl
  · skip
    have h := z1f zc24
    rw [hh] at h
    refine z_iload_n C dX5_played_27 0 rfl ?_
    exact z_iret C hr hlocks hQ u (⟨by unfold ply; rw [if_neg h], rfl⟩) (fun _ _ => rfl) dX5_played_28

set_option maxHeartbeats 4000000 in
set_option maxRecDepth 100000 in
theorem c_X5_triggerableBy (l : Launch) (D : va_G) (ad : Nat → Nat) (cI cL cR : ClassId) (hI : gI 34 ad) (u : xS) (n : Nat) (B : Nat → Nat → Nat) (hR : xR u n B) (i : Nat) (hi : i < 8) : ∀ sz, Met l yX5_triggerableBy wsX5_triggerableBy ({ frames := 1, cells := 0, slots := 0, locals := 21 }) (XP D ad cI cL cR u [.ref (ad 16), .ref (ad i)] sz) (va_Qi (fun r_ u' => r_ = nI (trg B i) ∧ u' = u) (XB D ad cI cL cR) (gA 34 ad sz)) 0 0 (gA 34 ad sz) := by
  intro sz
  refine z_met (cc := cX5_triggerableBy) (maxL := 4) (ret := (some .int)) (by decide) rfl (Nat.le_of_ble_eq_true rfl) ?_
  intro pq lq sq mq aq Qq bq hmq cq C hr hml hown hts hlocks hK hX hsz hQ
  subst hsz
  have hT4 : ∀ w ∈ wsX40, w.before aq sq = true := fun w h => hts w ((by decide +kernel : ∀ w ∈ wsX40, w ∈ wsX5_triggerableBy) w h)
  refine z_sub (L' := [(0, .ref (ad 16)), (1, .ref (ad i))]) [0, 1] rfl ?_
  have g4 : B i 4 ≤ 4 := gB_4 hR.1 hi
  have g3 : B i 3 ≤ 1 := gB_3 hR.1 hi
  refine z_iconst (v := nI 0) C (by decide) dX5_triggerableBy_0 ?_
  refine z_istore_n (L' := [(2, .int (nI 0)), (0, .ref (ad 16)), (1, .ref (ad i))]) C dX5_triggerableBy_1 (by decide) rfl ?_
  refine z_aload_n C dX5_triggerableBy_2 2 rfl ?_
  refine z_get (q := i) C (T := TX4) (N := 11) (ci := 4) (own := RX5) (index := 41) (v := .int (u.1 i 5)) hT4 hown hK (by omega) (xF_r hi) rfl 5 (by decide) (hts (.fieldLink RX5 41 "TriggerAnalyzer$Rule" "on" "Z") (by decide +kernel)) (fun _ h9 => h9) rfl dX5_triggerableBy_3 ?_
  refine z_topi (y := nI (B i 3)) (xR_5 hR (by omega)) ?_
  refine z_if_eq (tgt := 37) C dX5_triggerableBy_6 (by decide) (fun zc6 => ?_) (fun zc6 => ?_)
  · skip
    have zn6 := z0_t (by omega) zc6
    refine z_iload_n C dX5_triggerableBy_37 0 rfl ?_
    exact z_iret C hr hlocks hQ u (⟨by unfold trg; rw [if_pos zn6], rfl⟩) (fun _ _ => rfl) dX5_triggerableBy_38
  · skip
    have zn6 := z0_f zc6
    refine z_iconst (v := nI 0) C (by decide) dX5_triggerableBy_9 ?_
    refine z_istore_n (L' := [(3, .int (nI 0)), (2, .int (nI 0)), (0, .ref (ad 16)), (1, .ref (ad i))]) C dX5_triggerableBy_10 (by decide) rfl ?_
    have loop11 : ∀ (d11 : Nat) (k X : Nat), B i 4 - k < d11 → (k ≤ B i 4) → (X = trgs B i k) → ZZ pq l lq { frames := 1, cells := 0, slots := 0, locals := 21 } sq mq aq bq hmq cq D vwCl 34 ad 4 0 0 Qq (xF ad cI cL cR u) [(0, .ref (ad 16)), (1, .ref (ad i)), (2, .int (nI X)), (3, .int (nI k))] 11 [] := by
      intro d11
      induction d11 with
      | zero => intro k X hz; exact absurd hz (Nat.not_lt_zero _)
      | succ d11 ih11 =>
        intro k X hz11 hk hXq
        refine z_iload_n C dX5_triggerableBy_11 3 rfl ?_
        refine z_aload_n C dX5_triggerableBy_12 1 rfl ?_
        refine z_get (q := i) C (T := TX4) (N := 11) (ci := 4) (own := RX5) (index := 75) (v := .int (u.1 i 6)) hT4 hown hK (by omega) (xF_r hi) rfl 6 (by decide) (hts (.fieldLink RX5 75 "TriggerAnalyzer$Rule" "actionCount" "I") (by decide +kernel)) (fun _ h9 => h9) rfl dX5_triggerableBy_13 ?_
        refine z_topi (y := nI (B i 4)) (xR_6 hR (by omega)) ?_
        refine z_icmp_ge (tgt := 37) C dX5_triggerableBy_16 (by decide) (fun zc16 => ?_) (fun zc16 => ?_)
        · skip
          have zn16 := zge_t (a := k) (b := B i 4) (by omega) (by omega) zc16
          refine z_iload_n C dX5_triggerableBy_37 2 rfl ?_
          exact z_iret C hr hlocks hQ u (⟨by unfold trg; rw [if_neg zn6, hXq, show k = B i 4 by omega], rfl⟩) (fun _ _ => rfl) dX5_triggerableBy_38
        · skip
          have zn16 := zge_f (a := k) (b := B i 4) (by omega) (by omega) zc16
          refine z_iload_n C dX5_triggerableBy_19 2 rfl ?_
          refine z_aload_n C dX5_triggerableBy_20 0 rfl ?_
          refine z_aload_n C dX5_triggerableBy_21 1 rfl ?_
          refine z_iload_n C dX5_triggerableBy_22 3 rfl ?_
          refine z_callVi xX_ok C hml hown hts hK hX (c_X4_actionAt l D ad cI cL cR hI u n B hR i hi k zn16) (cwV 1 hts gX5_triggerableBy_X4_actionAt rfl rfl rfl (by decide +kernel) ⟨Nat.le_of_ble_eq_true rfl, Nat.le_of_ble_eq_true rfl⟩) (by omega) (ci := 4) (xF_r hi) rfl rfl (st := [.ref (ad 16), .int (nI X)]) rfl (Nat.le_of_ble_eq_true rfl) dX5_triggerableBy_23 ⟨Nat.le_of_ble_eq_true rfl, Nat.le_of_ble_eq_true rfl⟩ (fun r23 u23 h23 => ?_)
          obtain ⟨zr23, zu23⟩ := h23
          subst r23
          subst u23
          refine z_callVi xX_ok C hml hown hts hK hX (c_X5_listenersTo l D ad cI cL cR hI u n B hR (B i (6 + k)) (gB_6 hR.1 hi (by omega))) (cwV 1 hts gX5_triggerableBy_X5_listenersTo rfl rfl rfl (by decide +kernel) ⟨Nat.le_of_ble_eq_true rfl, Nat.le_of_ble_eq_true rfl⟩) (by decide) (ci := 5) rfl rfl rfl (st := [.int (nI X)]) rfl (Nat.le_of_ble_eq_true rfl) dX5_triggerableBy_26 ⟨Nat.le_of_ble_eq_true rfl, Nat.le_of_ble_eq_true rfl⟩ (fun r26 u26 h26 => ?_)
          obtain ⟨zr26, zu26⟩ := h26
          subst r26
          subst u26
          refine z_ior C dX5_triggerableBy_29 ?_
          refine z_topi (y := nI (X ||| (lis B ((B i (6 + k)))))) (fa_or X (lis B ((B i (6 + k))))) ?_
          refine z_istore_n (L' := [(2, .int (nI (X ||| (lis B ((B i (6 + k))))))), (0, .ref (ad 16)), (1, .ref (ad i)), (3, .int (nI k))]) C dX5_triggerableBy_30 (by decide) rfl ?_
          refine z_iinc (L' := [(3, .int (nI (k + 1))), (2, .int (nI (X ||| (lis B ((B i (6 + k))))))), (0, .ref (ad 16)), (1, .ref (ad i))]) C dX5_triggerableBy_31 3 rfl (nI_1 k) (by decide) rfl ?_
          refine z_goto (tgt := 11) C dX5_triggerableBy_34 (by decide) ?_
          refine z_sub (L' := [(0, .ref (ad 16)), (1, .ref (ad i)), (2, .int (nI (X ||| (lis B ((B i (6 + k))))))), (3, .int (nI (k + 1)))]) [2, 3, 1, 0] rfl ?_
          exact ih11 (k + 1) (X ||| lis B (B i (6 + k))) (by omega) (by omega) (by rw [hXq]; rfl)
    refine z_sub (L' := [(0, .ref (ad 16)), (1, .ref (ad i)), (2, .int (nI 0)), (3, .int (nI 0))]) [2, 3, 1, 0] rfl ?_
    exact loop11 (B i 4 + 1) 0 0 (by omega) (by omega) rfl

set_option maxHeartbeats 4000000 in
set_option maxRecDepth 100000 in
theorem c_X5_order (l : Launch) (D : va_G) (ad : Nat → Nat) (cI cL cR : ClassId) (hI : gI 34 ad) (u : xS) (n : Nat) (B : Nat → Nat → Nat) (hR : xR u n B) (i : Nat) (hi : i < 8) (j : Nat) (hj : j < 8) : ∀ sz, Met l yX5_order wsX5_order ({ frames := 0, cells := 0, slots := 0, locals := 0 }) (XP D ad cI cL cR u [.ref (ad 16), .ref (ad i), .ref (ad j)] sz) (va_Qv (fun u' => u' = ordS u (abv B i ||| 2 ^ i) (B j 5 ||| 2 ^ j) 8) (XB D ad cI cL cR) (gA 34 ad sz)) 0 0 (gA 34 ad sz) := by
  intro sz
  refine z_met (cc := cX5_order) (maxL := 7) (ret := none) (by decide) rfl (Nat.le_of_ble_eq_true rfl) ?_
  intro pq lq sq mq aq Qq bq hmq cq C hr hml hown hts hlocks hK hX hsz hQ
  subst hsz
  have hT4 : ∀ w ∈ wsX40, w.before aq sq = true := fun w h => hts w ((by decide +kernel : ∀ w ∈ wsX40, w ∈ wsX5_order) w h)
  have hT5 : ∀ w ∈ wsX50, w.before aq sq = true := fun w h => hts w ((by decide +kernel : ∀ w ∈ wsX50, w ∈ wsX5_order) w h)
  refine z_sub (L' := [(0, .ref (ad 16)), (1, .ref (ad i)), (2, .ref (ad j))]) [0, 1, 2] rfl ?_
  have hu9 : abv B i ||| 2 ^ i < 256 := Nat.or_lt_two_pow (n := 8) (abv_lt B i) (pow_lt8 hi)
  have hl9 : B j 5 ||| 2 ^ j < 256 := Nat.or_lt_two_pow (n := 8) (gB_5 hR.1 hj) (pow_lt8 hj)
  refine z_aload_n C dX5_order_0 1 rfl ?_
  refine z_get (q := i) C (T := TX4) (N := 11) (ci := 4) (own := RX5) (index := 48) (v := .int (u.1 i 10)) hT4 hown hK (by omega) (xF_r hi) rfl 10 (by decide) (hts (.fieldLink RX5 48 "TriggerAnalyzer$Rule" "above" "I") (by decide +kernel)) (fun _ h9 => h9) rfl dX5_order_1 ?_
  refine z_topi (y := nI (abv B i)) (xR_10 hR (by omega)) ?_
  refine z_aload_n C dX5_order_4 1 rfl ?_
  refine z_get (q := i) C (T := TX4) (N := 11) (ci := 4) (own := RX5) (index := 45) (v := .int (nI (2 ^ i))) hT4 hown hK (by omega) (xF_r hi) rfl 0 (by decide) (hts (.fieldLink RX5 45 "TriggerAnalyzer$Rule" "bit" "I") (by decide +kernel)) (fun _ h9 => h9) rfl dX5_order_5 ?_
  refine z_ior C dX5_order_8 ?_
  refine z_topi (y := nI ((abv B i) ||| (2 ^ i))) (fa_or (abv B i) (2 ^ i)) ?_
  refine z_istore_n (L' := [(3, .int (nI ((abv B i) ||| (2 ^ i)))), (0, .ref (ad 16)), (1, .ref (ad i)), (2, .ref (ad j))]) C dX5_order_9 (by decide) rfl ?_
  refine z_aload_n C dX5_order_10 3 rfl ?_
  refine z_get (q := j) C (T := TX4) (N := 11) (ci := 4) (own := RX5) (index := 51) (v := .int (u.1 j 9)) hT4 hown hK (by omega) (xF_r hj) rfl 9 (by decide) (hts (.fieldLink RX5 51 "TriggerAnalyzer$Rule" "below" "I") (by decide +kernel)) (fun _ h9 => h9) rfl dX5_order_11 ?_
  refine z_topi (y := nI (B j 5)) (xR_9 hR (by omega)) ?_
  refine z_aload_n C dX5_order_14 3 rfl ?_
  refine z_get (q := j) C (T := TX4) (N := 11) (ci := 4) (own := RX5) (index := 45) (v := .int (nI (2 ^ j))) hT4 hown hK (by omega) (xF_r hj) rfl 0 (by decide) (hts (.fieldLink RX5 45 "TriggerAnalyzer$Rule" "bit" "I") (by decide +kernel)) (fun _ h9 => h9) rfl dX5_order_15 ?_
  refine z_ior C dX5_order_18 ?_
  refine z_topi (y := nI ((B j 5) ||| (2 ^ j))) (fa_or (B j 5) (2 ^ j)) ?_
  refine z_istore (L' := [(4, .int (nI ((B j 5) ||| (2 ^ j)))), (3, .int (nI ((abv B i) ||| (2 ^ i)))), (0, .ref (ad 16)), (1, .ref (ad i)), (2, .ref (ad j))]) C dX5_order_19 (by decide) rfl ?_
  refine z_iconst (v := nI 0) C (by decide) dX5_order_21 ?_
  refine z_istore (L' := [(5, .int (nI 0)), (4, .int (nI ((B j 5) ||| (2 ^ j)))), (3, .int (nI ((abv B i) ||| (2 ^ i)))), (0, .ref (ad 16)), (1, .ref (ad i)), (2, .ref (ad j))]) C dX5_order_22 (by decide) rfl ?_
  have loop24 : ∀ (d24 : Nat) (k : Nat) (w : xS), 8 - k < d24 → (k ≤ 8) → (w = ordS u (abv B i ||| 2 ^ i) (B j 5 ||| 2 ^ j) k) → ZZ pq l lq { frames := 0, cells := 0, slots := 0, locals := 0 } sq mq aq bq hmq cq D vwCl 34 ad 7 0 0 Qq (xF ad cI cL cR w) [(0, .ref (ad 16)), (3, .int (nI (abv B i ||| 2 ^ i))), (4, .int (nI (B j 5 ||| 2 ^ j))), (5, .int (nI k))] 24 [] := by
    intro d24
    induction d24 with
    | zero => intro k w hz; exact absurd hz (Nat.not_lt_zero _)
    | succ d24 ih24 =>
      intro k w hz24 hk hw
      refine z_iload C dX5_order_24 3 rfl ?_
      refine z_aload_n C dX5_order_26 0 rfl ?_
      refine z_get (q := 16) C (T := TX5) (N := 3) (ci := 5) (own := RX5) (index := 11) (v := .ref (ad 17)) hT5 hown hK (by decide) rfl rfl 0 (by decide) (hts (.fieldLink RX5 11 "TriggerAnalyzer$RuleBook" "rules" "[LTriggerAnalyzer$Rule;") (by decide +kernel)) (fun _ h9 => h9) rfl dX5_order_27 ?_
      refine z_alen (q := 17) (len := 8) C hK (by decide) rfl 2 rfl (v := nI 8) (by decide) dX5_order_30 ?_
      refine z_icmp_ge (tgt := 93) C dX5_order_31 (by decide) (fun zc31 => ?_) (fun zc31 => ?_)
      · skip
        have zn31 := zge_t (a := k) (b := 8) (by omega) (by omega) zc31
        exact z_vret C hr hlocks hQ w (by rw [hw, show k = 8 by omega]) (fun _ _ => rfl) dX5_order_93
      · skip
        have zn31 := zge_f (a := k) (b := 8) (by omega) (by omega) zc31
        refine z_aload_n C dX5_order_34 0 rfl ?_
        refine z_get (q := 16) C (T := TX5) (N := 3) (ci := 5) (own := RX5) (index := 11) (v := .ref (ad 17)) hT5 hown hK (by decide) rfl rfl 0 (by decide) (hts (.fieldLink RX5 11 "TriggerAnalyzer$RuleBook" "rules" "[LTriggerAnalyzer$Rule;") (by decide +kernel)) (fun _ h9 => h9) rfl dX5_order_35 ?_
        refine z_iload C dX5_order_38 3 rfl ?_
        refine z_aald (q := 17) (len := 8) (k := k) C hK (by decide) rfl 2 rfl (rfl) (by omega) (by decide) (a := ad k) rfl dX5_order_40 ?_
        refine z_astore (L' := [(6, .ref (ad k)), (0, .ref (ad 16)), (3, .int (nI (abv B i ||| 2 ^ i))), (4, .int (nI (B j 5 ||| 2 ^ j))), (5, .int (nI k))]) C dX5_order_41 (by decide) rfl ?_
        refine z_iload_n C dX5_order_43 2 rfl ?_
        refine z_aload C dX5_order_44 0 rfl ?_
        refine z_get (q := k) C (T := TX4) (N := 11) (ci := 4) (own := RX5) (index := 45) (v := .int (nI (2 ^ k))) hT4 hown hK (by omega) (xF_r zn31) rfl 0 (by decide) (hts (.fieldLink RX5 45 "TriggerAnalyzer$Rule" "bit" "I") (by decide +kernel)) (fun _ h9 => h9) rfl dX5_order_46 ?_
        refine z_iand C dX5_order_49 ?_
        refine z_topi (y := nI ((abv B i ||| 2 ^ i) &&& (2 ^ k))) (fa_and (abv B i ||| 2 ^ i) (2 ^ k)) ?_
        refine z_if_eq (tgt := 65) C dX5_order_50 (by decide) (fun zc50 => ?_) (fun zc50 => ?_)
        · skip
          have h50 := zi_bitF (by omega) zc50
          refine z_iload C dX5_order_65 3 rfl ?_
          refine z_aload C dX5_order_67 0 rfl ?_
          refine z_get (q := k) C (T := TX4) (N := 11) (ci := 4) (own := RX5) (index := 45) (v := .int (nI (2 ^ k))) hT4 hown hK (by omega) (xF_r zn31) rfl 0 (by decide) (hts (.fieldLink RX5 45 "TriggerAnalyzer$Rule" "bit" "I") (by decide +kernel)) (fun _ h9 => h9) rfl dX5_order_69 ?_
          refine z_iand C dX5_order_72 ?_
          refine z_topi (y := nI ((B j 5 ||| 2 ^ j) &&& (2 ^ k))) (fa_and (B j 5 ||| 2 ^ j) (2 ^ k)) ?_
          refine z_if_eq (tgt := 87) C dX5_order_73 (by decide) (fun zc73 => ?_) (fun zc73 => ?_)
          · skip
            have h73 := zi_bitF (by omega) zc73
            refine z_iinc (L' := [(5, .int (nI (k + 1))), (6, .ref (ad k)), (0, .ref (ad 16)), (3, .int (nI (abv B i ||| 2 ^ i))), (4, .int (nI (B j 5 ||| 2 ^ j)))]) C dX5_order_87 4 rfl (nI_1 k) (by decide) rfl ?_
            refine z_goto (tgt := 24) C dX5_order_90 (by decide) ?_
            refine z_sub (L' := [(0, .ref (ad 16)), (3, .int (nI (abv B i ||| 2 ^ i))), (4, .int (nI (B j 5 ||| 2 ^ j))), (5, .int (nI (k + 1)))]) [2, 3, 4, 0] rfl ?_
            exact ih24 (k + 1) w (by omega) (by omega) (by first | (simp only [ordS, ← hw, ord1, ord2, h50, h73, if_true, Bool.false_eq_true, if_false]; done) | (simp only [ordS, ← hw, ord1, ord2, h50, h73, if_true, Bool.false_eq_true, if_false]; first | rfl | (rw [xs_j (by decide)])))
          · skip
            have h73 := zi_bitT (by omega) zc73
            refine z_aload C dX5_order_76 0 rfl ?_
            refine z_dup C rfl dX5_order_78 ?_
            refine z_get (q := k) C (T := TX4) (N := 11) (ci := 4) (own := RX5) (index := 48) (v := .int (w.1 k 10)) hT4 hown hK (by omega) (xF_r zn31) rfl 10 (by decide) (hts (.fieldLink RX5 48 "TriggerAnalyzer$Rule" "above" "I") (by decide +kernel)) (fun _ h9 => h9) rfl dX5_order_79 ?_
            refine z_iload_n C dX5_order_82 2 rfl ?_
            refine z_ior C dX5_order_83 ?_
            refine z_put (q := k) C hI tyX4 (T := TX4) (N := 11) (ci := 4) (own := RX5) (index := 48) hT4 hown hK (by omega) (xF_r zn31) rfl 10 (by decide) (hts (.fieldLink RX5 48 "TriggerAnalyzer$Rule" "above" "I") (by decide +kernel)) (fun _ h9 => h9) tyX4_ok nmX4 rfl rfl rfl (Nat.le_of_ble_eq_true rfl) (f' := xF ad cI cL cR ((xs w k 10 ((w.1 k 10) ||| (nI (abv B i ||| 2 ^ i)))))) (xF_p10 zn31) xF_ne dX5_order_84 ?_
            refine z_iinc (L' := [(5, .int (nI (k + 1))), (6, .ref (ad k)), (0, .ref (ad 16)), (3, .int (nI (abv B i ||| 2 ^ i))), (4, .int (nI (B j 5 ||| 2 ^ j)))]) C dX5_order_87 4 rfl (nI_1 k) (by decide) rfl ?_
            refine z_goto (tgt := 24) C dX5_order_90 (by decide) ?_
            refine z_sub (L' := [(0, .ref (ad 16)), (3, .int (nI (abv B i ||| 2 ^ i))), (4, .int (nI (B j 5 ||| 2 ^ j))), (5, .int (nI (k + 1)))]) [2, 3, 4, 0] rfl ?_
            exact ih24 (k + 1) ((xs w k 10 ((w.1 k 10) ||| (nI (abv B i ||| 2 ^ i))))) (by omega) (by omega) (by first | (simp only [ordS, ← hw, ord1, ord2, h50, h73, if_true, Bool.false_eq_true, if_false]; done) | (simp only [ordS, ← hw, ord1, ord2, h50, h73, if_true, Bool.false_eq_true, if_false]; first | rfl | (rw [xs_j (by decide)])))
        · skip
          have h50 := zi_bitT (by omega) zc50
          refine z_aload C dX5_order_53 0 rfl ?_
          refine z_dup C rfl dX5_order_55 ?_
          refine z_get (q := k) C (T := TX4) (N := 11) (ci := 4) (own := RX5) (index := 51) (v := .int (w.1 k 9)) hT4 hown hK (by omega) (xF_r zn31) rfl 9 (by decide) (hts (.fieldLink RX5 51 "TriggerAnalyzer$Rule" "below" "I") (by decide +kernel)) (fun _ h9 => h9) rfl dX5_order_56 ?_
          refine z_iload C dX5_order_59 3 rfl ?_
          refine z_ior C dX5_order_61 ?_
          refine z_put (q := k) C hI tyX4 (T := TX4) (N := 11) (ci := 4) (own := RX5) (index := 51) hT4 hown hK (by omega) (xF_r zn31) rfl 9 (by decide) (hts (.fieldLink RX5 51 "TriggerAnalyzer$Rule" "below" "I") (by decide +kernel)) (fun _ h9 => h9) tyX4_ok nmX4 rfl rfl rfl (Nat.le_of_ble_eq_true rfl) (f' := xF ad cI cL cR ((xs w k 9 ((w.1 k 9) ||| (nI (B j 5 ||| 2 ^ j)))))) (xF_p9 zn31) xF_ne dX5_order_62 ?_
          refine z_iload C dX5_order_65 3 rfl ?_
          refine z_aload C dX5_order_67 0 rfl ?_
          refine z_get (q := k) C (T := TX4) (N := 11) (ci := 4) (own := RX5) (index := 45) (v := .int (nI (2 ^ k))) hT4 hown hK (by omega) (xF_r zn31) rfl 0 (by decide) (hts (.fieldLink RX5 45 "TriggerAnalyzer$Rule" "bit" "I") (by decide +kernel)) (fun _ h9 => h9) rfl dX5_order_69 ?_
          refine z_iand C dX5_order_72 ?_
          refine z_topi (y := nI ((B j 5 ||| 2 ^ j) &&& (2 ^ k))) (fa_and (B j 5 ||| 2 ^ j) (2 ^ k)) ?_
          refine z_if_eq (tgt := 87) C dX5_order_73 (by decide) (fun zc73 => ?_) (fun zc73 => ?_)
          · skip
            have h73 := zi_bitF (by omega) zc73
            refine z_iinc (L' := [(5, .int (nI (k + 1))), (6, .ref (ad k)), (0, .ref (ad 16)), (3, .int (nI (abv B i ||| 2 ^ i))), (4, .int (nI (B j 5 ||| 2 ^ j)))]) C dX5_order_87 4 rfl (nI_1 k) (by decide) rfl ?_
            refine z_goto (tgt := 24) C dX5_order_90 (by decide) ?_
            refine z_sub (L' := [(0, .ref (ad 16)), (3, .int (nI (abv B i ||| 2 ^ i))), (4, .int (nI (B j 5 ||| 2 ^ j))), (5, .int (nI (k + 1)))]) [2, 3, 4, 0] rfl ?_
            exact ih24 (k + 1) ((xs w k 9 ((w.1 k 9) ||| (nI (B j 5 ||| 2 ^ j))))) (by omega) (by omega) (by first | (simp only [ordS, ← hw, ord1, ord2, h50, h73, if_true, Bool.false_eq_true, if_false]; done) | (simp only [ordS, ← hw, ord1, ord2, h50, h73, if_true, Bool.false_eq_true, if_false]; first | rfl | (rw [xs_j (by decide)])))
          · skip
            have h73 := zi_bitT (by omega) zc73
            refine z_aload C dX5_order_76 0 rfl ?_
            refine z_dup C rfl dX5_order_78 ?_
            refine z_get (q := k) C (T := TX4) (N := 11) (ci := 4) (own := RX5) (index := 48) (v := .int ((xs w k 9 ((w.1 k 9) ||| (nI (B j 5 ||| 2 ^ j)))).1 k 10)) hT4 hown hK (by omega) (xF_r zn31) rfl 10 (by decide) (hts (.fieldLink RX5 48 "TriggerAnalyzer$Rule" "above" "I") (by decide +kernel)) (fun _ h9 => h9) rfl dX5_order_79 ?_
            refine z_topi (y := w.1 k 10) (xs_j (by decide)) ?_
            refine z_iload_n C dX5_order_82 2 rfl ?_
            refine z_ior C dX5_order_83 ?_
            refine z_put (q := k) C hI tyX4 (T := TX4) (N := 11) (ci := 4) (own := RX5) (index := 48) hT4 hown hK (by omega) (xF_r zn31) rfl 10 (by decide) (hts (.fieldLink RX5 48 "TriggerAnalyzer$Rule" "above" "I") (by decide +kernel)) (fun _ h9 => h9) tyX4_ok nmX4 rfl rfl rfl (Nat.le_of_ble_eq_true rfl) (f' := xF ad cI cL cR ((xs ((xs w k 9 ((w.1 k 9) ||| (nI (B j 5 ||| 2 ^ j))))) k 10 ((w.1 k 10) ||| (nI (abv B i ||| 2 ^ i)))))) (xF_p10 zn31) xF_ne dX5_order_84 ?_
            refine z_iinc (L' := [(5, .int (nI (k + 1))), (6, .ref (ad k)), (0, .ref (ad 16)), (3, .int (nI (abv B i ||| 2 ^ i))), (4, .int (nI (B j 5 ||| 2 ^ j)))]) C dX5_order_87 4 rfl (nI_1 k) (by decide) rfl ?_
            refine z_goto (tgt := 24) C dX5_order_90 (by decide) ?_
            refine z_sub (L' := [(0, .ref (ad 16)), (3, .int (nI (abv B i ||| 2 ^ i))), (4, .int (nI (B j 5 ||| 2 ^ j))), (5, .int (nI (k + 1)))]) [2, 3, 4, 0] rfl ?_
            exact ih24 (k + 1) ((xs ((xs w k 9 ((w.1 k 9) ||| (nI (B j 5 ||| 2 ^ j))))) k 10 ((w.1 k 10) ||| (nI (abv B i ||| 2 ^ i))))) (by omega) (by omega) (by first | (simp only [ordS, ← hw, ord1, ord2, h50, h73, if_true, Bool.false_eq_true, if_false]; done) | (simp only [ordS, ← hw, ord1, ord2, h50, h73, if_true, Bool.false_eq_true, if_false]; first | rfl | (rw [xs_j (by decide)])))
  refine z_sub (L' := [(0, .ref (ad 16)), (3, .int (nI ((abv B i) ||| (2 ^ i)))), (4, .int (nI ((B j 5) ||| (2 ^ j)))), (5, .int (nI 0))]) [3, 2, 1, 0] rfl ?_
  exact loop24 9 0 u (by omega) (by omega) rfl
