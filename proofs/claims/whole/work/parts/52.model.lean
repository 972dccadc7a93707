theorem zi_shrV {x i : Nat} (h : x < 2 ^ 31) (hi : i < 31) : nI x >>> (nI i &&& 31) = nI (x / 2 ^ i) := pk_shrN h _ i (s_l i (by omega))
theorem zi_shr8 {x : Nat} (h : x < 2 ^ 31) : nI x >>> ((8 : Int32) &&& 31) = nI (x / 256) := pk_shrN h _ 8 (by decide)

set_option maxHeartbeats 4000000 in
set_option maxRecDepth 100000 in
theorem c_X7_thrown (l : Launch) (D : va_G) (ad : Nat → Nat) (cI cL cB : ClassId) (hI : gI 12 ad) (u : xS) : ∀ sz, Met l yX7_thrown wsX7_thrown ({ frames := 0, cells := 0, slots := 0, locals := 0 }) (MP D ad cI cL cB u [.ref (ad 0)] sz) (va_Qi (fun r_ u' => r_ = u.1 0 0 ∧ u' = u) (MB D ad cI cL cB) (gA 12 ad sz)) 0 0 (gA 12 ad sz) := by
  intro sz
  refine z_met (cc := cX7_thrown) (maxL := 1) (ret := (some .int)) (by decide) rfl (Nat.le_of_ble_eq_true rfl) ?_
  intro pq lq sq mq aq Qq bq hmq cq C hr hml hown hts hlocks hK hX hsz hQ
  subst hsz
  have hT7 : ∀ w ∈ wsX70, w.before aq sq = true := fun w h => hts w ((by decide +kernel : ∀ w ∈ wsX70, w ∈ wsX7_thrown) w h)
  refine z_sub (L' := [(0, .ref (ad 0))]) [0] rfl ?_
  refine z_aload_n C dX7_thrown_0 0 rfl ?_
  refine z_get (q := 0) C (T := TX7) (N := 18) (ci := 7) (own := RX7) (index := 45) (v := .int (u.1 0 0)) hT7 hown hK (by decide) rfl rfl 0 (by decide) (hts (.fieldLink RX7 45 "TriggerAnalyzerModel" "thrown" "I") (by decide +kernel)) (fun _ h9 => h9) rfl dX7_thrown_1 ?_
  exact z_iret C hr hlocks hQ u (⟨rfl, rfl⟩) (fun _ _ => rfl) dX7_thrown_4

set_option maxHeartbeats 4000000 in
set_option maxRecDepth 100000 in
theorem c_X7_fail (l : Launch) (D : va_G) (ad : Nat → Nat) (cI cL cB : ClassId) (hI : gI 12 ad) (u : xS) (x : Int32) : ∀ sz, Met l yX7_fail wsX7_fail ({ frames := 0, cells := 0, slots := 0, locals := 0 }) (MP D ad cI cL cB u [.ref (ad 0), .int (x)] sz) (va_Qi (fun r_ u' => r_ = nI 0 ∧ u' = xs u 0 0 x) (MB D ad cI cL cB) (gA 12 ad sz)) 0 0 (gA 12 ad sz) := by
  intro sz
  refine z_met (cc := cX7_fail) (maxL := 2) (ret := (some .int)) (by decide) rfl (Nat.le_of_ble_eq_true rfl) ?_
  intro pq lq sq mq aq Qq bq hmq cq C hr hml hown hts hlocks hK hX hsz hQ
  subst hsz
  have hT7 : ∀ w ∈ wsX70, w.before aq sq = true := fun w h => hts w ((by decide +kernel : ∀ w ∈ wsX70, w ∈ wsX7_fail) w h)
  refine z_sub (L' := [(0, .ref (ad 0)), (1, .int (x))]) [0, 1] rfl ?_
  refine z_aload_n C dX7_fail_0 0 rfl ?_
  refine z_iload_n C dX7_fail_1 1 rfl ?_
  refine z_put (q := 0) C hI tyX7 (T := TX7) (N := 18) (ci := 7) (own := RX7) (index := 45) hT7 hown hK (by decide) rfl rfl 0 (by decide) (hts (.fieldLink RX7 45 "TriggerAnalyzerModel" "thrown" "I") (by decide +kernel)) (fun _ h9 => h9) tyX7_ok nmX7 rfl rfl rfl (Nat.le_of_ble_eq_true rfl) (f' := mF ad cI cL cB ((xs u 0 0 (x)))) rfl mF_ne dX7_fail_2 ?_
  refine z_iconst (v := nI 0) C (by decide) dX7_fail_5 ?_
  exact z_iret C hr hlocks hQ ((xs u 0 0 (x))) (⟨rfl, rfl⟩) (fun _ _ => rfl) dX7_fail_6

set_option maxHeartbeats 4000000 in
set_option maxRecDepth 100000 in
theorem c_X7_ruleCount (l : Launch) (D : va_G) (ad : Nat → Nat) (cI cL cB : ClassId) (hI : gI 12 ad) (u : xS) : ∀ sz, Met l yX7_ruleCount wsX7_ruleCount ({ frames := 0, cells := 0, slots := 0, locals := 0 }) (MP D ad cI cL cB u [.ref (ad 0)] sz) (va_Qi (fun r_ u' => r_ = u.1 0 1 ∧ u' = xs u 0 0 (nI 0)) (MB D ad cI cL cB) (gA 12 ad sz)) 0 0 (gA 12 ad sz) := by
  intro sz
  refine z_met (cc := cX7_ruleCount) (maxL := 1) (ret := (some .int)) (by decide) rfl (Nat.le_of_ble_eq_true rfl) ?_
  intro pq lq sq mq aq Qq bq hmq cq C hr hml hown hts hlocks hK hX hsz hQ
  subst hsz
  have hT7 : ∀ w ∈ wsX70, w.before aq sq = true := fun w h => hts w ((by decide +kernel : ∀ w ∈ wsX70, w ∈ wsX7_ruleCount) w h)
  refine z_sub (L' := [(0, .ref (ad 0))]) [0] rfl ?_
  refine z_aload_n C dX7_ruleCount_0 0 rfl ?_
  refine z_iconst (v := nI 0) C (by decide) dX7_ruleCount_1 ?_
  refine z_put (q := 0) C hI tyX7 (T := TX7) (N := 18) (ci := 7) (own := RX7) (index := 45) hT7 hown hK (by decide) rfl rfl 0 (by decide) (hts (.fieldLink RX7 45 "TriggerAnalyzerModel" "thrown" "I") (by decide +kernel)) (fun _ h9 => h9) tyX7_ok nmX7 rfl rfl rfl (Nat.le_of_ble_eq_true rfl) (f' := mF ad cI cL cB ((xs u 0 0 (nI 0)))) rfl mF_ne dX7_ruleCount_2 ?_
  refine z_aload_n C dX7_ruleCount_5 0 rfl ?_
  refine z_get (q := 0) C (T := TX7) (N := 18) (ci := 7) (own := RX7) (index := 49) (v := .int ((xs u 0 0 (nI 0)).1 0 1)) hT7 hown hK (by decide) rfl rfl 1 (by decide) (hts (.fieldLink RX7 49 "TriggerAnalyzerModel" "rules" "I") (by decide +kernel)) (fun _ h9 => h9) rfl dX7_ruleCount_6 ?_
  refine z_topi (y := u.1 0 1) (xs_j (by decide)) ?_
  exact z_iret C hr hlocks hQ ((xs u 0 0 (nI 0))) (⟨rfl, rfl⟩) (fun _ _ => rfl) dX7_ruleCount_9

set_option maxHeartbeats 4000000 in
set_option maxRecDepth 100000 in
theorem c_X7_triggeredIn (l : Launch) (D : va_G) (ad : Nat → Nat) (cI cL cB : ClassId) (hI : gI 12 ad) (u : xS) (x : Nat) : ∀ sz, Met l yX7_triggeredIn wsX7_triggeredIn ({ frames := 0, cells := 0, slots := 0, locals := 0 }) (MP D ad cI cL cB u [.int (nI x)] sz) (va_Qi (fun r_ u' => r_ = nI (x % 256) ∧ u' = u) (MB D ad cI cL cB) (gA 12 ad sz)) 0 0 (gA 12 ad sz) := by
  intro sz
  refine z_met (cc := cX7_triggeredIn) (maxL := 1) (ret := (some .int)) (by decide) rfl (Nat.le_of_ble_eq_true rfl) ?_
  intro pq lq sq mq aq Qq bq hmq cq C hr hml hown hts hlocks hK hX hsz hQ
  subst hsz
  refine z_sub (L' := [(0, .int (nI x))]) [0] rfl ?_
  refine z_iload_n C dX7_triggeredIn_0 0 rfl ?_
  refine z_sipush (v := nI 255) C (by decide) dX7_triggeredIn_1 ?_
  refine z_iand C dX7_triggeredIn_4 ?_
  refine z_topi (y := nI (x % 256)) (fa_mask x 8) ?_
  exact z_iret C hr hlocks hQ u (⟨rfl, rfl⟩) (fun _ _ => rfl) dX7_triggeredIn_5

set_option maxHeartbeats 4000000 in
set_option maxRecDepth 100000 in
theorem c_X7_isFact_vh (l : Launch) (D : va_G) (ad : Nat → Nat) (cI cL cB : ClassId) (hI : gI 12 ad) (u : xS) (k : Nat) (hk : k < 6) : ∀ sz, Met l yX7_isFact wsX7_isFact ({ frames := 0, cells := 0, slots := 0, locals := 0 }) (MP D ad cI cL cB u [.int (nI k)] sz) (va_Qi (fun r_ u' => r_ = nI 1 ∧ u' = u) (MB D ad cI cL cB) (gA 12 ad sz)) 0 0 (gA 12 ad sz) := by
  intro sz
  refine z_met (cc := cX7_isFact) (maxL := 1) (ret := (some .boolean)) (by decide) rfl (Nat.le_of_ble_eq_true rfl) ?_
  intro pq lq sq mq aq Qq bq hmq cq C hr hml hown hts hlocks hK hX hsz hQ
  subst hsz
  refine z_sub (L' := [(0, .int (nI k))]) [0] rfl ?_
  refine z_iload_n C dX7_isFact_0 0 rfl ?_
  refine z_if_lt (tgt := 14) C dX7_isFact_1 (by decide) (fun zc1 => ?_) (fun zc1 => ?_)
  · skip
    exact (zneg (by omega) zc1).elim
  · skip
    refine z_iload_n C dX7_isFact_4 0 rfl ?_
    refine z_bipush (v := nI 6) C (by decide) dX7_isFact_5 ?_
    refine z_icmp_ge (tgt := 14) C dX7_isFact_7 (by decide) (fun zc7 => ?_) (fun zc7 => ?_)
    · skip
      have zn7 := zge_t (a := k) (b := 6) (by omega) (by omega) zc7
      exact False.elim (by omega)
    · skip
      have zn7 := zge_f (a := k) (b := 6) (by omega) (by omega) zc7
      refine z_iconst (v := nI 1) C (by decide) dX7_isFact_10 ?_
      refine z_goto (tgt := 15) C dX7_isFact_11 (by decide) ?_
      exact z_zret C hr hlocks rfl hQ u (⟨rfl, rfl⟩) (fun _ _ => rfl) dX7_isFact_15

set_option maxHeartbeats 4000000 in
set_option maxRecDepth 100000 in
theorem c_X7_isFact_vn (l : Launch) (D : va_G) (ad : Nat → Nat) (cI cL cB : ClassId) (hI : gI 12 ad) (u : xS) (x : Int32) (hx : x < 0) : ∀ sz, Met l yX7_isFact wsX7_isFact ({ frames := 0, cells := 0, slots := 0, locals := 0 }) (MP D ad cI cL cB u [.int (x)] sz) (va_Qi (fun r_ u' => r_ = nI 0 ∧ u' = u) (MB D ad cI cL cB) (gA 12 ad sz)) 0 0 (gA 12 ad sz) := by
  intro sz
  refine z_met (cc := cX7_isFact) (maxL := 1) (ret := (some .boolean)) (by decide) rfl (Nat.le_of_ble_eq_true rfl) ?_
  intro pq lq sq mq aq Qq bq hmq cq C hr hml hown hts hlocks hK hX hsz hQ
  subst hsz
  refine z_sub (L' := [(0, .int (x))]) [0] rfl ?_
  refine z_iload_n C dX7_isFact_0 0 rfl ?_
  refine z_if_lt (tgt := 14) C dX7_isFact_1 (by decide) (fun zc1 => ?_) (fun zc1 => ?_)
  · skip
    refine z_iconst (v := nI 0) C (by decide) dX7_isFact_14 ?_
    exact z_zret C hr hlocks rfl hQ u (⟨rfl, rfl⟩) (fun _ _ => rfl) dX7_isFact_15
  · skip
    exact False.elim (zc1 hx)

set_option maxHeartbeats 4000000 in
set_option maxRecDepth 100000 in
theorem c_X7_isFact_vb (l : Launch) (D : va_G) (ad : Nat → Nat) (cI cL cB : ClassId) (hI : gI 12 ad) (u : xS) (k : Nat) (hk : 6 ≤ k) (hk2 : k < 2 ^ 31) : ∀ sz, Met l yX7_isFact wsX7_isFact ({ frames := 0, cells := 0, slots := 0, locals := 0 }) (MP D ad cI cL cB u [.int (nI k)] sz) (va_Qi (fun r_ u' => r_ = nI 0 ∧ u' = u) (MB D ad cI cL cB) (gA 12 ad sz)) 0 0 (gA 12 ad sz) := by
  intro sz
  refine z_met (cc := cX7_isFact) (maxL := 1) (ret := (some .boolean)) (by decide) rfl (Nat.le_of_ble_eq_true rfl) ?_
  intro pq lq sq mq aq Qq bq hmq cq C hr hml hown hts hlocks hK hX hsz hQ
  subst hsz
  refine z_sub (L' := [(0, .int (nI k))]) [0] rfl ?_
  refine z_iload_n C dX7_isFact_0 0 rfl ?_
  refine z_if_lt (tgt := 14) C dX7_isFact_1 (by decide) (fun zc1 => ?_) (fun zc1 => ?_)
  · skip
    exact (zneg (by omega) zc1).elim
  · skip
    refine z_iload_n C dX7_isFact_4 0 rfl ?_
    refine z_bipush (v := nI 6) C (by decide) dX7_isFact_5 ?_
    refine z_icmp_ge (tgt := 14) C dX7_isFact_7 (by decide) (fun zc7 => ?_) (fun zc7 => ?_)
    · skip
      have zn7 := zge_t (a := k) (b := 6) (by omega) (by omega) zc7
      refine z_iconst (v := nI 0) C (by decide) dX7_isFact_14 ?_
      exact z_zret C hr hlocks rfl hQ u (⟨rfl, rfl⟩) (fun _ _ => rfl) dX7_isFact_15
    · skip
      have zn7 := zge_f (a := k) (b := 6) (by omega) (by omega) zc7
      exact False.elim (by omega)

set_option maxHeartbeats 4000000 in
set_option maxRecDepth 100000 in
theorem c_X7_isSet_vh (l : Launch) (D : va_G) (ad : Nat → Nat) (cI cL cB : ClassId) (hI : gI 12 ad) (u : xS) (k : Nat) (hk : k < 64) : ∀ sz, Met l yX7_isSet wsX7_isSet ({ frames := 0, cells := 0, slots := 0, locals := 0 }) (MP D ad cI cL cB u [.int (nI k)] sz) (va_Qi (fun r_ u' => r_ = nI 1 ∧ u' = u) (MB D ad cI cL cB) (gA 12 ad sz)) 0 0 (gA 12 ad sz) := by
  intro sz
  refine z_met (cc := cX7_isSet) (maxL := 1) (ret := (some .boolean)) (by decide) rfl (Nat.le_of_ble_eq_true rfl) ?_
  intro pq lq sq mq aq Qq bq hmq cq C hr hml hown hts hlocks hK hX hsz hQ
  subst hsz
  refine z_sub (L' := [(0, .int (nI k))]) [0] rfl ?_
  refine z_iload_n C dX7_isSet_0 0 rfl ?_
  refine z_if_lt (tgt := 14) C dX7_isSet_1 (by decide) (fun zc1 => ?_) (fun zc1 => ?_)
  · skip
    exact (zneg (by omega) zc1).elim
  · skip
    refine z_iload_n C dX7_isSet_4 0 rfl ?_
    refine z_bipush (v := nI 64) C (by decide) dX7_isSet_5 ?_
    refine z_icmp_ge (tgt := 14) C dX7_isSet_7 (by decide) (fun zc7 => ?_) (fun zc7 => ?_)
    · skip
      have zn7 := zge_t (a := k) (b := 64) (by omega) (by omega) zc7
      exact False.elim (by omega)
    · skip
      have zn7 := zge_f (a := k) (b := 64) (by omega) (by omega) zc7
      refine z_iconst (v := nI 1) C (by decide) dX7_isSet_10 ?_
      refine z_goto (tgt := 15) C dX7_isSet_11 (by decide) ?_
      exact z_zret C hr hlocks rfl hQ u (⟨rfl, rfl⟩) (fun _ _ => rfl) dX7_isSet_15

set_option maxHeartbeats 4000000 in
set_option maxRecDepth 100000 in
theorem c_X7_isSet_vn (l : Launch) (D : va_G) (ad : Nat → Nat) (cI cL cB : ClassId) (hI : gI 12 ad) (u : xS) (x : Int32) (hx : x < 0) : ∀ sz, Met l yX7_isSet wsX7_isSet ({ frames := 0, cells := 0, slots := 0, locals := 0 }) (MP D ad cI cL cB u [.int (x)] sz) (va_Qi (fun r_ u' => r_ = nI 0 ∧ u' = u) (MB D ad cI cL cB) (gA 12 ad sz)) 0 0 (gA 12 ad sz) := by
  intro sz
  refine z_met (cc := cX7_isSet) (maxL := 1) (ret := (some .boolean)) (by decide) rfl (Nat.le_of_ble_eq_true rfl) ?_
  intro pq lq sq mq aq Qq bq hmq cq C hr hml hown hts hlocks hK hX hsz hQ
  subst hsz
  refine z_sub (L' := [(0, .int (x))]) [0] rfl ?_
  refine z_iload_n C dX7_isSet_0 0 rfl ?_
  refine z_if_lt (tgt := 14) C dX7_isSet_1 (by decide) (fun zc1 => ?_) (fun zc1 => ?_)
  · skip
    refine z_iconst (v := nI 0) C (by decide) dX7_isSet_14 ?_
    exact z_zret C hr hlocks rfl hQ u (⟨rfl, rfl⟩) (fun _ _ => rfl) dX7_isSet_15
  · skip
    exact False.elim (zc1 hx)

set_option maxHeartbeats 4000000 in
set_option maxRecDepth 100000 in
theorem c_X7_isSet_vb (l : Launch) (D : va_G) (ad : Nat → Nat) (cI cL cB : ClassId) (hI : gI 12 ad) (u : xS) (k : Nat) (hk : 64 ≤ k) (hk2 : k < 2 ^ 31) : ∀ sz, Met l yX7_isSet wsX7_isSet ({ frames := 0, cells := 0, slots := 0, locals := 0 }) (MP D ad cI cL cB u [.int (nI k)] sz) (va_Qi (fun r_ u' => r_ = nI 0 ∧ u' = u) (MB D ad cI cL cB) (gA 12 ad sz)) 0 0 (gA 12 ad sz) := by
  intro sz
  refine z_met (cc := cX7_isSet) (maxL := 1) (ret := (some .boolean)) (by decide) rfl (Nat.le_of_ble_eq_true rfl) ?_
  intro pq lq sq mq aq Qq bq hmq cq C hr hml hown hts hlocks hK hX hsz hQ
  subst hsz
  refine z_sub (L' := [(0, .int (nI k))]) [0] rfl ?_
  refine z_iload_n C dX7_isSet_0 0 rfl ?_
  refine z_if_lt (tgt := 14) C dX7_isSet_1 (by decide) (fun zc1 => ?_) (fun zc1 => ?_)
  · skip
    exact (zneg (by omega) zc1).elim
  · skip
    refine z_iload_n C dX7_isSet_4 0 rfl ?_
    refine z_bipush (v := nI 64) C (by decide) dX7_isSet_5 ?_
    refine z_icmp_ge (tgt := 14) C dX7_isSet_7 (by decide) (fun zc7 => ?_) (fun zc7 => ?_)
    · skip
      have zn7 := zge_t (a := k) (b := 64) (by omega) (by omega) zc7
      refine z_iconst (v := nI 0) C (by decide) dX7_isSet_14 ?_
      exact z_zret C hr hlocks rfl hQ u (⟨rfl, rfl⟩) (fun _ _ => rfl) dX7_isSet_15
    · skip
      have zn7 := zge_f (a := k) (b := 64) (by omega) (by omega) zc7
      exact False.elim (by omega)

set_option maxHeartbeats 4000000 in
set_option maxRecDepth 100000 in
theorem c_X7_isRule_vh (l : Launch) (D : va_G) (ad : Nat → Nat) (cI cL cB : ClassId) (hI : gI 12 ad) (u : xS) (n : Nat) (hn8 : n ≤ 8) (hn : u.1 0 1 = nI n) (k : Nat) (hk : k < n) : ∀ sz, Met l yX7_isRule wsX7_isRule ({ frames := 0, cells := 0, slots := 0, locals := 0 }) (MP D ad cI cL cB u [.ref (ad 0), .int (nI k)] sz) (va_Qi (fun r_ u' => r_ = nI 1 ∧ u' = u) (MB D ad cI cL cB) (gA 12 ad sz)) 0 0 (gA 12 ad sz) := by
  intro sz
  refine z_met (cc := cX7_isRule) (maxL := 2) (ret := (some .boolean)) (by decide) rfl (Nat.le_of_ble_eq_true rfl) ?_
  intro pq lq sq mq aq Qq bq hmq cq C hr hml hown hts hlocks hK hX hsz hQ
  subst hsz
  have hT7 : ∀ w ∈ wsX70, w.before aq sq = true := fun w h => hts w ((by decide +kernel : ∀ w ∈ wsX70, w ∈ wsX7_isRule) w h)
  refine z_sub (L' := [(0, .ref (ad 0)), (1, .int (nI k))]) [0, 1] rfl ?_
  refine z_iload_n C dX7_isRule_0 1 rfl ?_
  refine z_if_lt (tgt := 16) C dX7_isRule_1 (by decide) (fun zc1 => ?_) (fun zc1 => ?_)
  · skip
    exact (zneg (by omega) zc1).elim
  · skip
    refine z_iload_n C dX7_isRule_4 1 rfl ?_
    refine z_aload_n C dX7_isRule_5 0 rfl ?_
    refine z_get (q := 0) C (T := TX7) (N := 18) (ci := 7) (own := RX7) (index := 49) (v := .int (u.1 0 1)) hT7 hown hK (by decide) rfl rfl 1 (by decide) (hts (.fieldLink RX7 49 "TriggerAnalyzerModel" "rules" "I") (by decide +kernel)) (fun _ h9 => h9) rfl dX7_isRule_6 ?_
    refine z_topi (y := nI n) (hn) ?_
    refine z_icmp_ge (tgt := 16) C dX7_isRule_9 (by decide) (fun zc9 => ?_) (fun zc9 => ?_)
    · skip
      have zn9 := zge_t (a := k) (b := n) (by omega) (by omega) zc9
      exact False.elim (by omega)
    · skip
      have zn9 := zge_f (a := k) (b := n) (by omega) (by omega) zc9
      refine z_iconst (v := nI 1) C (by decide) dX7_isRule_12 ?_
      refine z_goto (tgt := 17) C dX7_isRule_13 (by decide) ?_
      exact z_zret C hr hlocks rfl hQ u (⟨rfl, rfl⟩) (fun _ _ => rfl) dX7_isRule_17

set_option maxHeartbeats 4000000 in
set_option maxRecDepth 100000 in
theorem c_X7_isRule_vn (l : Launch) (D : va_G) (ad : Nat → Nat) (cI cL cB : ClassId) (hI : gI 12 ad) (u : xS) (n : Nat) (hn8 : n ≤ 8) (hn : u.1 0 1 = nI n) (x : Int32) (hx : x < 0) : ∀ sz, Met l yX7_isRule wsX7_isRule ({ frames := 0, cells := 0, slots := 0, locals := 0 }) (MP D ad cI cL cB u [.ref (ad 0), .int (x)] sz) (va_Qi (fun r_ u' => r_ = nI 0 ∧ u' = u) (MB D ad cI cL cB) (gA 12 ad sz)) 0 0 (gA 12 ad sz) := by
  intro sz
  refine z_met (cc := cX7_isRule) (maxL := 2) (ret := (some .boolean)) (by decide) rfl (Nat.le_of_ble_eq_true rfl) ?_
  intro pq lq sq mq aq Qq bq hmq cq C hr hml hown hts hlocks hK hX hsz hQ
  subst hsz
  refine z_sub (L' := [(0, .ref (ad 0)), (1, .int (x))]) [0, 1] rfl ?_
  refine z_iload_n C dX7_isRule_0 1 rfl ?_
  refine z_if_lt (tgt := 16) C dX7_isRule_1 (by decide) (fun zc1 => ?_) (fun zc1 => ?_)
  · skip
    refine z_iconst (v := nI 0) C (by decide) dX7_isRule_16 ?_
    exact z_zret C hr hlocks rfl hQ u (⟨rfl, rfl⟩) (fun _ _ => rfl) dX7_isRule_17
  · skip
    exact False.elim (zc1 hx)

set_option maxHeartbeats 4000000 in
set_option maxRecDepth 100000 in
theorem c_X7_isRule_vb (l : Launch) (D : va_G) (ad : Nat → Nat) (cI cL cB : ClassId) (hI : gI 12 ad) (u : xS) (n : Nat) (hn8 : n ≤ 8) (hn : u.1 0 1 = nI n) (k : Nat) (hk : n ≤ k) (hk2 : k < 2 ^ 31) : ∀ sz, Met l yX7_isRule wsX7_isRule ({ frames := 0, cells := 0, slots := 0, locals := 0 }) (MP D ad cI cL cB u [.ref (ad 0), .int (nI k)] sz) (va_Qi (fun r_ u' => r_ = nI 0 ∧ u' = u) (MB D ad cI cL cB) (gA 12 ad sz)) 0 0 (gA 12 ad sz) := by
  intro sz
  refine z_met (cc := cX7_isRule) (maxL := 2) (ret := (some .boolean)) (by decide) rfl (Nat.le_of_ble_eq_true rfl) ?_
  intro pq lq sq mq aq Qq bq hmq cq C hr hml hown hts hlocks hK hX hsz hQ
  subst hsz
  have hT7 : ∀ w ∈ wsX70, w.before aq sq = true := fun w h => hts w ((by decide +kernel : ∀ w ∈ wsX70, w ∈ wsX7_isRule) w h)
  refine z_sub (L' := [(0, .ref (ad 0)), (1, .int (nI k))]) [0, 1] rfl ?_
  refine z_iload_n C dX7_isRule_0 1 rfl ?_
  refine z_if_lt (tgt := 16) C dX7_isRule_1 (by decide) (fun zc1 => ?_) (fun zc1 => ?_)
  · skip
    exact (zneg (by omega) zc1).elim
  · skip
    refine z_iload_n C dX7_isRule_4 1 rfl ?_
    refine z_aload_n C dX7_isRule_5 0 rfl ?_
    refine z_get (q := 0) C (T := TX7) (N := 18) (ci := 7) (own := RX7) (index := 49) (v := .int (u.1 0 1)) hT7 hown hK (by decide) rfl rfl 1 (by decide) (hts (.fieldLink RX7 49 "TriggerAnalyzerModel" "rules" "I") (by decide +kernel)) (fun _ h9 => h9) rfl dX7_isRule_6 ?_
    refine z_topi (y := nI n) (hn) ?_
    refine z_icmp_ge (tgt := 16) C dX7_isRule_9 (by decide) (fun zc9 => ?_) (fun zc9 => ?_)
    · skip
      have zn9 := zge_t (a := k) (b := n) (by omega) (by omega) zc9
      refine z_iconst (v := nI 0) C (by decide) dX7_isRule_16 ?_
      exact z_zret C hr hlocks rfl hQ u (⟨rfl, rfl⟩) (fun _ _ => rfl) dX7_isRule_17
    · skip
      have zn9 := zge_f (a := k) (b := n) (by omega) (by omega) zc9
      exact False.elim (by omega)

set_option maxHeartbeats 4000000 in
set_option maxRecDepth 100000 in
theorem c_X7_literal (l : Launch) (D : va_G) (ad : Nat → Nat) (cI cL cB : ClassId) (hI : gI 12 ad) (u : xS) (k : Nat) (b : Nat) (hb : b ≤ 1) : ∀ sz, Met l yX7_literal wsX7_literal ({ frames := 0, cells := 0, slots := 0, locals := 0 }) (MP D ad cI cL cB u [.int (nI k), .int (nI b)] sz) (va_Qi (fun r_ u' => r_ = nI (2 * k + b) ∧ u' = u) (MB D ad cI cL cB) (gA 12 ad sz)) 0 0 (gA 12 ad sz) := by
  intro sz
  refine z_met (cc := cX7_literal) (maxL := 2) (ret := (some .int)) (by decide) rfl (Nat.le_of_ble_eq_true rfl) ?_
  intro pq lq sq mq aq Qq bq hmq cq C hr hml hown hts hlocks hK hX hsz hQ
  subst hsz
  refine z_sub (L' := [(0, .int (nI k)), (1, .int (nI b))]) [0, 1] rfl ?_
  refine z_iconst (v := nI 2) C (by decide) dX7_literal_0 ?_
  refine z_iload_n C dX7_literal_1 0 rfl ?_
  refine z_imul C dX7_literal_2 ?_
  refine z_topi (y := nI (2 * k)) (pk_mul 2 k) ?_
  refine z_iload_n C dX7_literal_3 1 rfl ?_
  refine z_if_eq (tgt := 11) C dX7_literal_4 (by decide) (fun zc4 => ?_) (fun zc4 => ?_)
  · skip
    have zn4 := z0_t (by omega) zc4
    refine z_iconst (v := nI 0) C (by decide) dX7_literal_11 ?_
    refine z_iadd C dX7_literal_12 ?_
    refine z_topi (y := nI ((2 * k) + 0)) (nI_add (2 * k) 0) ?_
    exact z_iret C hr hlocks hQ u (⟨by rw [show b = 0 by omega], rfl⟩) (fun _ _ => rfl) dX7_literal_13
  · skip
    have zn4 := z0_f zc4
    refine z_iconst (v := nI 1) C (by decide) dX7_literal_7 ?_
    refine z_goto (tgt := 12) C dX7_literal_8 (by decide) ?_
    refine z_iadd C dX7_literal_12 ?_
    refine z_topi (y := nI ((2 * k) + 1)) (nI_add (2 * k) 1) ?_
    exact z_iret C hr hlocks hQ u (⟨by rw [show b = 1 by omega], rfl⟩) (fun _ _ => rfl) dX7_literal_13

set_option maxHeartbeats 4000000 in
set_option maxRecDepth 100000 in
theorem c_X7_become (l : Launch) (D : va_G) (ad : Nat → Nat) (cI cL cB : ClassId) (hI : gI 12 ad) (u : xS) (z : Nat) (hz : z < 2 ^ 31) : ∀ sz, Met l yX7_become wsX7_become ({ frames := 1, cells := 0, slots := 0, locals := 20 }) (MP D ad cI cL cB u [.ref (ad 0), .int (nI z)] sz) (va_Qv (fun u' => u' = xs (xs u 0 9 (nI (z / 256))) 0 10 (nI (z % 256))) (MB D ad cI cL cB) (gA 12 ad sz)) 0 0 (gA 12 ad sz) := by
  intro sz
  refine z_met (cc := cX7_become) (maxL := 2) (ret := none) (by decide) rfl (Nat.le_of_ble_eq_true rfl) ?_
  intro pq lq sq mq aq Qq bq hmq cq C hr hml hown hts hlocks hK hX hsz hQ
  subst hsz
  have hT7 : ∀ w ∈ wsX70, w.before aq sq = true := fun w h => hts w ((by decide +kernel : ∀ w ∈ wsX70, w ∈ wsX7_become) w h)
  refine z_sub (L' := [(0, .ref (ad 0)), (1, .int (nI z))]) [0, 1] rfl ?_
  refine z_aload_n C dX7_become_0 0 rfl ?_
  refine z_iload_n C dX7_become_1 1 rfl ?_
  refine z_bipush (v := nI 8) C (by decide) dX7_become_2 ?_
  refine z_ishr C dX7_become_4 ?_
  refine z_topi (y := nI (z / 256)) (zi_shr8 hz) ?_
  refine z_put (q := 0) C hI tyX7 (T := TX7) (N := 18) (ci := 7) (own := RX7) (index := 91) hT7 hown hK (by decide) rfl rfl 9 (by decide) (hts (.fieldLink RX7 91 "TriggerAnalyzerModel" "facts" "I") (by decide +kernel)) (fun _ h9 => h9) tyX7_ok nmX7 rfl rfl rfl (Nat.le_of_ble_eq_true rfl) (f' := mF ad cI cL cB ((xs u 0 9 (nI (z / 256))))) rfl mF_ne dX7_become_5 ?_
  refine z_aload_n C dX7_become_8 0 rfl ?_
  refine z_iload_n C dX7_become_9 1 rfl ?_
  refine z_callSi mX_ok C hml hown hts hK hX (c_X7_triggeredIn l D ad cI cL cB hI ((xs u 0 9 (nI (z / 256)))) z) (va_cwS 1 hts gX7_become_X7_triggeredIn rfl rfl rfl (by decide +kernel) ⟨Nat.le_of_ble_eq_true rfl, Nat.le_of_ble_eq_true rfl⟩) rfl (st := [.ref (ad 0)]) rfl (Nat.le_of_ble_eq_true rfl) dX7_become_10 ⟨Nat.le_of_ble_eq_true rfl, Nat.le_of_ble_eq_true rfl⟩ (fun r10 u10 h10 => ?_)
  obtain ⟨zr10, zu10⟩ := h10
  subst r10
  subst u10
  refine z_put (q := 0) C hI tyX7 (T := TX7) (N := 18) (ci := 7) (own := RX7) (index := 74) hT7 hown hK (by decide) rfl rfl 10 (by decide) (hts (.fieldLink RX7 74 "TriggerAnalyzerModel" "triggered" "I") (by decide +kernel)) (fun _ h9 => h9) tyX7_ok nmX7 rfl rfl rfl (Nat.le_of_ble_eq_true rfl) (f' := mF ad cI cL cB ((xs ((xs u 0 9 (nI (z / 256)))) 0 10 (nI (z % 256))))) rfl mF_ne dX7_become_13 ?_
  exact z_vret C hr hlocks hQ ((xs ((xs u 0 9 (nI (z / 256)))) 0 10 (nI (z % 256)))) (rfl) (fun _ _ => rfl) dX7_become_16

set_option maxHeartbeats 4000000 in
set_option maxRecDepth 100000 in
theorem c_X7_has (l : Launch) (D : va_G) (ad : Nat → Nat) (cI cL cB : ClassId) (hI : gI 12 ad) (u : xS) (a : Nat) (ha : a < 2 ^ 31) (i : Nat) (hi : i < 31) : ∀ sz, Met l yX7_has wsX7_has ({ frames := 0, cells := 0, slots := 0, locals := 0 }) (MP D ad cI cL cB u [.int (nI a), .int (nI i)] sz) (va_Qi (fun r_ u' => r_ = (if a.testBit i = true then 1 else 0) ∧ u' = u) (MB D ad cI cL cB) (gA 12 ad sz)) 0 0 (gA 12 ad sz) := by
  intro sz
  refine z_met (cc := cX7_has) (maxL := 2) (ret := (some .boolean)) (by decide) rfl (Nat.le_of_ble_eq_true rfl) ?_
  intro pq lq sq mq aq Qq bq hmq cq C hr hml hown hts hlocks hK hX hsz hQ
  subst hsz
  refine z_sub (L' := [(0, .int (nI a)), (1, .int (nI i))]) [0, 1] rfl ?_
  have hm9 : a / 2 ^ i % 2 < 2 := Nat.mod_lt _ (by decide)
  refine z_iload_n C dX7_has_0 0 rfl ?_
  refine z_iload_n C dX7_has_1 1 rfl ?_
  refine z_ishr C dX7_has_2 ?_
  refine z_topi (y := nI (a / 2 ^ i)) (zi_shrV ha hi) ?_
  refine z_iconst (v := nI 1) C (by decide) dX7_has_3 ?_
  refine z_iand C dX7_has_4 ?_
  refine z_topi (y := nI (a / 2 ^ i % 2)) (fa_mask (a / 2 ^ i) 1) ?_
  refine z_iconst (v := nI 1) C (by decide) dX7_has_5 ?_
  refine z_icmp_ne (tgt := 13) C dX7_has_6 (by decide) (fun zc6 => ?_) (fun zc6 => ?_)
  · skip
    have zn6 := zeq_f (a := a / 2 ^ i % 2) (b := 1) zc6
    refine z_iconst (v := nI 0) C (by decide) dX7_has_13 ?_
    exact z_zret C hr hlocks rfl hQ u (⟨by rw [Nat.testBit_eq_decide_div_mod_eq, decide_eq_false zn6]; rfl, rfl⟩) (fun _ _ => rfl) dX7_has_14
  · skip
    have zn6 := zeq_t (a := a / 2 ^ i % 2) (b := 1) (by omega) (by omega) zc6
    refine z_iconst (v := nI 1) C (by decide) dX7_has_9 ?_
    refine z_goto (tgt := 14) C dX7_has_10 (by decide) ?_
    exact z_zret C hr hlocks rfl hQ u (⟨by rw [Nat.testBit_eq_decide_div_mod_eq, decide_eq_true (show a / 2 ^ i % 2 = 1 by omega)]; rfl, rfl⟩) (fun _ _ => rfl) dX7_has_14
