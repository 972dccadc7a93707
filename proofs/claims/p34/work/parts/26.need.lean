def bad (k : Nat) (x : Int32) : Prop := x < 0 ∨ ∃ i : Nat, x = nI i ∧ k ≤ i ∧ i < 2 ^ 31
theorem nI_m1 {y : Nat} (h : y < 2 ^ 31) : ¬ nI y = -1 := fun z => nI_pos h (by rw [z]; decide)

set_option maxHeartbeats 4000000 in
set_option maxRecDepth 100000 in
theorem c_X6_needFact (l : Launch) (D : va_G) (ad : Nat → Nat) (cI cL cR : ClassId) (hI : gI 34 ad) (u : xS) (k : Nat) (hk : k < 6) : ∀ sz, Met l yX6_needFact wsX6_needFact ({ frames := 6, cells := 0, slots := 0, locals := 90 }) (XP D ad cI cL cR u [.int (nI k)] sz) (va_Qv (fun u' => u' = u) (XB D ad cI cL cR) (gA 34 ad sz)) 0 0 (gA 34 ad sz) := by
  intro sz
  refine z_met (cc := cX6_needFact) (maxL := 1) (ret := none) (by decide) rfl (Nat.le_of_ble_eq_true rfl) ?_
  intro pq lq sq mq aq Qq bq hmq cq C hr hml hown hts hlocks hK hX hsz hQ
  subst hsz
  refine z_sub (L' := [(0, .int (nI k))]) [0] rfl ?_
  refine z_iload_n C dX6_needFact_0 0 rfl ?_
  refine z_if_lt (tgt := 10) C dX6_needFact_1 (by decide) (fun zc1 => ?_) (fun zc1 => ?_)
  · skip
    exact (zneg (by omega) zc1).elim
  · skip
    refine z_iload_n C dX6_needFact_4 0 rfl ?_
    refine z_bipush (v := nI 6) C (by decide) dX6_needFact_5 ?_
    refine z_icmp_lt (tgt := 20) C dX6_needFact_7 (by decide) (fun zc7 => ?_) (fun zc7 => ?_)
    · skip
      have zn7 := zlt_t (a := k) (b := 6) (by omega) (by omega) zc7
      exact z_vret C hr hlocks hQ u (rfl) (fun _ _ => rfl) dX6_needFact_20
    · skip
      have zn7 := zlt_f (a := k) (b := 6) (by omega) (by omega) zc7
      exact False.elim (by omega)

set_option maxHeartbeats 4000000 in
set_option maxRecDepth 100000 in
theorem c_X6_needFactSet (l : Launch) (D : va_G) (ad : Nat → Nat) (cI cL cR : ClassId) (hI : gI 34 ad) (u : xS) (k : Nat) (hk : k < 64) : ∀ sz, Met l yX6_needFactSet wsX6_needFactSet ({ frames := 6, cells := 0, slots := 0, locals := 90 }) (XP D ad cI cL cR u [.int (nI k)] sz) (va_Qv (fun u' => u' = u) (XB D ad cI cL cR) (gA 34 ad sz)) 0 0 (gA 34 ad sz) := by
  intro sz
  refine z_met (cc := cX6_needFactSet) (maxL := 1) (ret := none) (by decide) rfl (Nat.le_of_ble_eq_true rfl) ?_
  intro pq lq sq mq aq Qq bq hmq cq C hr hml hown hts hlocks hK hX hsz hQ
  subst hsz
  refine z_sub (L' := [(0, .int (nI k))]) [0] rfl ?_
  refine z_iload_n C dX6_needFactSet_0 0 rfl ?_
  refine z_if_lt (tgt := 10) C dX6_needFactSet_1 (by decide) (fun zc1 => ?_) (fun zc1 => ?_)
  · skip
    exact (zneg (by omega) zc1).elim
  · skip
    refine z_iload_n C dX6_needFactSet_4 0 rfl ?_
    refine z_bipush (v := nI 63) C (by decide) dX6_needFactSet_5 ?_
    refine z_icmp_le (tgt := 20) C dX6_needFactSet_7 (by decide) (fun zc7 => ?_) (fun zc7 => ?_)
    · skip
      have zn7 := zge_t (a := 63) (b := k) (by omega) (by omega) zc7
      exact z_vret C hr hlocks hQ u (rfl) (fun _ _ => rfl) dX6_needFactSet_20
    · skip
      have zn7 := zge_f (a := 63) (b := k) (by omega) (by omega) zc7
      exact False.elim (by omega)

set_option maxHeartbeats 4000000 in
set_option maxRecDepth 100000 in
theorem c_X6_ruleAt (l : Launch) (D : va_G) (ad : Nat → Nat) (cI cL cR : ClassId) (hI : gI 34 ad) (u : xS) (n : Nat) (B : Nat → Nat → Nat) (hR : xR u n B) (k : Nat) (hk : k < n) : ∀ sz, Met l yX6_ruleAt wsX6_ruleAt ({ frames := 6, cells := 0, slots := 0, locals := 90 }) (XP D ad cI cL cR u [.ref (ad 33), .int (nI k)] sz) (va_Qq (fun r_ u' => r_ = (some (ad k)) ∧ u' = u) (XB D ad cI cL cR) (gA 34 ad sz)) 0 0 (gA 34 ad sz) := by
  intro sz
  refine z_met (cc := cX6_ruleAt) (maxL := 3) (ret := (some (.object "TriggerAnalyzer$Rule"))) (by decide) rfl (Nat.le_of_ble_eq_true rfl) ?_
  intro pq lq sq mq aq Qq bq hmq cq C hr hml hown hts hlocks hK hX hsz hQ
  subst hsz
  have hT6 : ∀ w ∈ wsX60, w.before aq sq = true := fun w h => hts w ((by decide +kernel : ∀ w ∈ wsX60, w ∈ wsX6_ruleAt) w h)
  refine z_sub (L' := [(0, .ref (ad 33)), (1, .int (nI k))]) [0, 1] rfl ?_
  refine z_aload_n C dX6_ruleAt_0 0 rfl ?_
  refine z_get (q := 33) C (T := TX6) (N := 4) (ci := 6) (own := RX6) (index := 10) (v := .ref (ad 16)) hT6 hown hK (by decide) rfl rfl 0 (by decide) (hts (.fieldLink RX6 10 "TriggerAnalyzer" "book" "LTriggerAnalyzer$RuleBook;") (by decide +kernel)) (fun _ h9 => h9) rfl dX6_ruleAt_1 ?_
  refine z_iload_n C dX6_ruleAt_4 1 rfl ?_
  refine z_callVq xX_ok C hml hown hts hK hX (c_X5_ruleOrNull_vh l D ad cI cL cR hI u n B hR k hk) (cwV 1 hts gX6_ruleAt_X5_ruleOrNull rfl rfl rfl (by decide +kernel) ⟨Nat.le_of_ble_eq_true rfl, Nat.le_of_ble_eq_true rfl⟩) (by decide) (ci := 5) rfl rfl rfl (st := []) rfl (Nat.le_of_ble_eq_true rfl) dX6_ruleAt_5 ⟨Nat.le_of_ble_eq_true rfl, Nat.le_of_ble_eq_true rfl⟩ (fun r5 u5 h5 => ?_)
  obtain ⟨zr5, zu5⟩ := h5
  subst r5
  subst u5
  refine z_topv (y := .ref (ad k)) rfl ?_
  refine z_astore_n (L' := [(2, .ref (ad k)), (0, .ref (ad 33)), (1, .int (nI k))]) C dX6_ruleAt_8 (by decide) rfl ?_
  refine z_aload_n C dX6_ruleAt_9 0 rfl ?_
  refine z_ifnonnull (tgt := 23) C dX6_ruleAt_10 (by decide) ?_
  refine z_aload_n C dX6_ruleAt_23 0 rfl ?_
  exact z_aret C hr ⟨_, rfl⟩ hlocks (some (ad k)) rfl hQ u (⟨rfl, rfl⟩) (fun _ _ => rfl) dX6_ruleAt_24

set_option maxHeartbeats 4000000 in
set_option maxRecDepth 100000 in
theorem c_X6_needExplored (l : Launch) (D : va_G) (ad : Nat → Nat) (cI cL cR : ClassId) (hI : gI 34 ad) (u : xS) (h8 : ¬ u.1 21 8 = 0) (h9 : u.1 21 9 = 0) : ∀ sz, Met l yX6_needExplored wsX6_needExplored ({ frames := 6, cells := 0, slots := 0, locals := 90 }) (XP D ad cI cL cR u [.ref (ad 33)] sz) (va_Qv (fun u' => u' = u) (XB D ad cI cL cR) (gA 34 ad sz)) 0 0 (gA 34 ad sz) := by
  intro sz
  refine z_met (cc := cX6_needExplored) (maxL := 1) (ret := none) (by decide) rfl (Nat.le_of_ble_eq_true rfl) ?_
  intro pq lq sq mq aq Qq bq hmq cq C hr hml hown hts hlocks hK hX hsz hQ
  subst hsz
  have hT6 : ∀ w ∈ wsX60, w.before aq sq = true := fun w h => hts w ((by decide +kernel : ∀ w ∈ wsX60, w ∈ wsX6_needExplored) w h)
  refine z_sub (L' := [(0, .ref (ad 33))]) [0] rfl ?_
  refine z_aload_n C dX6_needExplored_0 0 rfl ?_
  refine z_get (q := 33) C (T := TX6) (N := 4) (ci := 6) (own := RX6) (index := 28) (v := .ref (ad 21)) hT6 hown hK (by decide) rfl rfl 2 (by decide) (hts (.fieldLink RX6 28 "TriggerAnalyzer" "exploration" "LTriggerAnalyzer$Exploration;") (by decide +kernel)) (fun _ h9 => h9) rfl dX6_needExplored_1 ?_
  refine z_callVi xX_ok C hml hown hts hK hX (c_X1_isUsable l D ad cI cL cR hI u) (cwV 0 hts gX6_needExplored_X1_isUsable rfl rfl rfl (by decide +kernel) ⟨Nat.le_of_ble_eq_true rfl, Nat.le_of_ble_eq_true rfl⟩) (by decide) (ci := 1) rfl rfl rfl (st := []) rfl (Nat.le_of_ble_eq_true rfl) dX6_needExplored_4 ⟨Nat.le_of_ble_eq_true rfl, Nat.le_of_ble_eq_true rfl⟩ (fun r4 u4 h4 => ?_)
  obtain ⟨zr4, zu4⟩ := h4
  subst r4
  subst u4
  refine z_topi (y := nI 1) (by rw [if_neg (fun h => h.elim h8 (fun z => z h9))]; rfl) ?_
  refine z_if_ne (tgt := 20) C dX6_needExplored_7 (by decide) (fun zc7 => ?_) (fun zc7 => ?_)
  · skip
    have zn7 := z0_f zc7
    exact z_vret C hr hlocks hQ u (rfl) (fun _ _ => rfl) dX6_needExplored_20
  · skip
    have zn7 := z0_t (by omega) zc7
    exact absurd zn7 (by decide)

set_option maxHeartbeats 4000000 in
set_option maxRecDepth 100000 in
theorem c_X6_exploredAt (l : Launch) (D : va_G) (ad : Nat → Nat) (cI cL cR : ClassId) (hI : gI 34 ad) (u : xS) (h8 : ¬ u.1 21 8 = 0) (h9 : u.1 21 9 = 0) (c : Nat) (hc : c ≤ 1000) (hn : u.1 21 7 = nI c) (k : Nat) (hk : k < c) (y : Nat) (hy : y < 16384) (hv : u.1 22 k = nI y) : ∀ sz, Met l yX6_exploredAt wsX6_exploredAt ({ frames := 7, cells := 0, slots := 0, locals := 110 }) (XP D ad cI cL cR u [.ref (ad 33), .int (nI k)] sz) (va_Qi (fun r_ u' => r_ = nI y ∧ u' = u) (XB D ad cI cL cR) (gA 34 ad sz)) 0 0 (gA 34 ad sz) := by
  intro sz
  refine z_met (cc := cX6_exploredAt) (maxL := 3) (ret := (some .int)) (by decide) rfl (Nat.le_of_ble_eq_true rfl) ?_
  intro pq lq sq mq aq Qq bq hmq cq C hr hml hown hts hlocks hK hX hsz hQ
  subst hsz
  have hT6 : ∀ w ∈ wsX60, w.before aq sq = true := fun w h => hts w ((by decide +kernel : ∀ w ∈ wsX60, w ∈ wsX6_exploredAt) w h)
  refine z_sub (L' := [(0, .ref (ad 33)), (1, .int (nI k))]) [0, 1] rfl ?_
  refine z_aload_n C dX6_exploredAt_0 0 rfl ?_
  refine z_callVv xX_ok C hml hown hts hK hX (c_X6_needExplored l D ad cI cL cR hI u h8 h9) (cwV 0 hts gX6_exploredAt_X6_needExplored rfl rfl rfl (by decide +kernel) ⟨Nat.le_of_ble_eq_true rfl, Nat.le_of_ble_eq_true rfl⟩) (by decide) (ci := 6) rfl rfl rfl (st := []) rfl (Nat.le_of_ble_eq_true rfl) dX6_exploredAt_1 ⟨Nat.le_of_ble_eq_true rfl, Nat.le_of_ble_eq_true rfl⟩ (fun u1 h1 => ?_)
  subst u1
  refine z_aload_n C dX6_exploredAt_4 0 rfl ?_
  refine z_get (q := 33) C (T := TX6) (N := 4) (ci := 6) (own := RX6) (index := 28) (v := .ref (ad 21)) hT6 hown hK (by decide) rfl rfl 2 (by decide) (hts (.fieldLink RX6 28 "TriggerAnalyzer" "exploration" "LTriggerAnalyzer$Exploration;") (by decide +kernel)) (fun _ h9 => h9) rfl dX6_exploredAt_5 ?_
  refine z_iload_n C dX6_exploredAt_8 1 rfl ?_
  refine z_callVi xX_ok C hml hown hts hK hX (c_X1_situationAt_vh l D ad cI cL cR hI u c hc hn k hk) (cwV 1 hts gX6_exploredAt_X1_situationAt rfl rfl rfl (by decide +kernel) ⟨Nat.le_of_ble_eq_true rfl, Nat.le_of_ble_eq_true rfl⟩) (by decide) (ci := 1) rfl rfl rfl (st := []) rfl (Nat.le_of_ble_eq_true rfl) dX6_exploredAt_9 ⟨Nat.le_of_ble_eq_true rfl, Nat.le_of_ble_eq_true rfl⟩ (fun r9 u9 h9 => ?_)
  obtain ⟨zr9, zu9⟩ := h9
  subst r9
  subst u9
  refine z_topi (y := nI y) (hv) ?_
  refine z_istore_n (L' := [(2, .int (nI y)), (0, .ref (ad 33)), (1, .int (nI k))]) C dX6_exploredAt_12 (by decide) rfl ?_
  refine z_iload_n C dX6_exploredAt_13 0 rfl ?_
  refine z_iconst (v := (-1)) C (by decide) dX6_exploredAt_14 ?_
  refine z_icmp_ne (tgt := 28) C dX6_exploredAt_15 (by decide) (fun zc15 => ?_) (fun zc15 => ?_)
  · skip
    refine z_iload_n C dX6_exploredAt_28 0 rfl ?_
    exact z_iret C hr hlocks hQ u (⟨rfl, rfl⟩) (fun _ _ => rfl) dX6_exploredAt_29
  · skip
    exact False.elim (nI_m1 (by omega) zc15)

