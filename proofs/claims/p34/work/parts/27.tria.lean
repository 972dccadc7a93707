theorem xR_fg {u : xS} {n : Nat} {B : Nat → Nat → Nat} (h : xR u n B) (v : Int32) : xR (xs u 21 8 v) n B := xR_fr h (fun q hq => xs_r (by omega))
theorem xR_ps {u : xS} {n : Nat} {B : Nat → Nat → Nat} (h : xR u n B) (v : Int32) : xR (xs u 33 3 v) n B := xR_fr h (fun q hq => xs_r (by omega))
theorem cc_b (k : Nat) {b : Nat} (hb : b ≤ 1) : nI (2 * k + if nI b = 0 then 0 else 1) = nI (2 * k + b) := by
  rcases Nat.le_one_iff_eq_zero_or_eq_one.mp hb with h | h
  · subst h
    rw [if_pos (by decide)]
  · subst h
    rw [if_neg (by decide)]
def apS (u : xS) (c e9 : Nat) (m1 m2 : Int32) : xS := xs (xs (xs (xs (xs (xs u 16 2 (nI (c + 1))) c 2 (nI e9)) c 3 m1) c 4 m2) c 5 (nI 1)) 18 e9 ((xs (xs (xs (xs u 16 2 (nI (c + 1))) c 2 (nI e9)) c 3 m1) c 4 m2).1 18 e9 ||| nI (2 ^ c))
def aaS (u : xS) (i c a : Nat) : xS := if a % 2 = 1 then xs (xs (xs u (8 + i) c (nI a)) i 6 (nI (c + 1))) i 7 (u.1 i 7 ||| nI (2 ^ (a / 2))) else xs (xs (xs u (8 + i) c (nI a)) i 6 (nI (c + 1))) i 8 (u.1 i 8 ||| nI (2 ^ (a / 2)))
theorem aaS_6 (u : xS) (i c a : Nat) : (aaS u i c a).1 i 6 = nI (c + 1) := by
  unfold aaS
  split
  · rw [xs_j (by decide), xs_s]
  · rw [xs_j (by decide), xs_s]
theorem zn_bool {k : Nat} (h : k ≤ 1) : narrow .boolean (.int (nI k)) = .int (nI k) := by
  rcases Nat.le_one_iff_eq_zero_or_eq_one.mp h with h | h <;> rw [h] <;> rfl

set_option maxHeartbeats 4000000 in
set_option maxRecDepth 100000 in
theorem c_X6_ruleCount (l : Launch) (D : va_G) (ad : Nat → Nat) (cI cL cR : ClassId) (hI : gI 34 ad) (u : xS) (n : Nat) (B : Nat → Nat → Nat) (hR : xR u n B) : ∀ sz, Met l yX6_ruleCount wsX6_ruleCount ({ frames := 1, cells := 0, slots := 0, locals := 20 }) (XP D ad cI cL cR u [.ref (ad 33)] sz) (va_Qi (fun r_ u' => r_ = nI n ∧ u' = u) (XB D ad cI cL cR) (gA 34 ad sz)) 0 0 (gA 34 ad sz) := by
  intro sz
  refine z_met (cc := cX6_ruleCount) (maxL := 1) (ret := (some .int)) (by decide) rfl (Nat.le_of_ble_eq_true rfl) ?_
  intro pq lq sq mq aq Qq bq hmq cq C hr hml hown hts hlocks hK hX hsz hQ
  subst hsz
  have hT6 : ∀ w ∈ wsX60, w.before aq sq = true := fun w h => hts w ((by decide +kernel : ∀ w ∈ wsX60, w ∈ wsX6_ruleCount) w h)
  refine z_sub (L' := [(0, .ref (ad 33))]) [0] rfl ?_
  refine z_aload_n C dX6_ruleCount_0 0 rfl ?_
  refine z_get (q := 33) C (T := TX6) (N := 4) (ci := 6) (own := RX6) (index := 10) (v := .ref (ad 16)) hT6 hown hK (by decide) rfl rfl 0 (by decide) (hts (.fieldLink RX6 10 "TriggerAnalyzer" "book" "LTriggerAnalyzer$RuleBook;") (by decide +kernel)) (fun _ h9 => h9) rfl dX6_ruleCount_1 ?_
  refine z_callVi xX_ok C hml hown hts hK hX (c_X5_size l D ad cI cL cR hI u n B hR) (cwV 0 hts gX6_ruleCount_X5_size rfl rfl rfl (by decide +kernel) ⟨Nat.le_of_ble_eq_true rfl, Nat.le_of_ble_eq_true rfl⟩) (by decide) (ci := 5) rfl rfl rfl (st := []) rfl (Nat.le_of_ble_eq_true rfl) dX6_ruleCount_4 ⟨Nat.le_of_ble_eq_true rfl, Nat.le_of_ble_eq_true rfl⟩ (fun r4 u4 h4 => ?_)
  obtain ⟨zr4, zu4⟩ := h4
  subst r4
  subst u4
  exact z_iret C hr hlocks hQ u (⟨rfl, rfl⟩) (fun _ _ => rfl) dX6_ruleCount_7

set_option maxHeartbeats 4000000 in
set_option maxRecDepth 100000 in
theorem c_X6_facts (l : Launch) (D : va_G) (ad : Nat → Nat) (cI cL cR : ClassId) (hI : gI 34 ad) (u : xS) (x : Nat) (hx : x < 16384) (h3 : u.1 33 3 = nI x) : ∀ sz, Met l yX6_facts wsX6_facts ({ frames := 1, cells := 0, slots := 0, locals := 20 }) (XP D ad cI cL cR u [.ref (ad 33)] sz) (va_Qi (fun r_ u' => r_ = nI (x % 64) ∧ u' = u) (XB D ad cI cL cR) (gA 34 ad sz)) 0 0 (gA 34 ad sz) := by
  intro sz
  refine z_met (cc := cX6_facts) (maxL := 1) (ret := (some .int)) (by decide) rfl (Nat.le_of_ble_eq_true rfl) ?_
  intro pq lq sq mq aq Qq bq hmq cq C hr hml hown hts hlocks hK hX hsz hQ
  subst hsz
  have hT6 : ∀ w ∈ wsX60, w.before aq sq = true := fun w h => hts w ((by decide +kernel : ∀ w ∈ wsX60, w ∈ wsX6_facts) w h)
  refine z_sub (L' := [(0, .ref (ad 33))]) [0] rfl ?_
  refine z_aload_n C dX6_facts_0 0 rfl ?_
  refine z_get (q := 33) C (T := TX6) (N := 4) (ci := 6) (own := RX6) (index := 84) (v := .int (u.1 33 3)) hT6 hown hK (by decide) rfl rfl 3 (by decide) (hts (.fieldLink RX6 84 "TriggerAnalyzer" "present" "I") (by decide +kernel)) (fun _ h9 => h9) rfl dX6_facts_1 ?_
  refine z_topi (y := nI x) (h3) ?_
  refine z_callSi xX_ok C hml hown hts hK hX (c_X6_factsIn l D ad cI cL cR hI u x) (va_cwS 1 hts gX6_facts_X6_factsIn rfl rfl rfl (by decide +kernel) ⟨Nat.le_of_ble_eq_true rfl, Nat.le_of_ble_eq_true rfl⟩) rfl (st := []) rfl (Nat.le_of_ble_eq_true rfl) dX6_facts_4 ⟨Nat.le_of_ble_eq_true rfl, Nat.le_of_ble_eq_true rfl⟩ (fun r4 u4 h4 => ?_)
  obtain ⟨zr4, zu4⟩ := h4
  subst r4
  subst u4
  exact z_iret C hr hlocks hQ u (⟨rfl, rfl⟩) (fun _ _ => rfl) dX6_facts_7

set_option maxHeartbeats 4000000 in
set_option maxRecDepth 100000 in
theorem c_X6_triggered (l : Launch) (D : va_G) (ad : Nat → Nat) (cI cL cR : ClassId) (hI : gI 34 ad) (u : xS) (x : Nat) (hx : x < 16384) (h3 : u.1 33 3 = nI x) : ∀ sz, Met l yX6_triggered wsX6_triggered ({ frames := 1, cells := 0, slots := 0, locals := 20 }) (XP D ad cI cL cR u [.ref (ad 33)] sz) (va_Qi (fun r_ u' => r_ = nI (x / 64) ∧ u' = u) (XB D ad cI cL cR) (gA 34 ad sz)) 0 0 (gA 34 ad sz) := by
  intro sz
  refine z_met (cc := cX6_triggered) (maxL := 1) (ret := (some .int)) (by decide) rfl (Nat.le_of_ble_eq_true rfl) ?_
  intro pq lq sq mq aq Qq bq hmq cq C hr hml hown hts hlocks hK hX hsz hQ
  subst hsz
  have hT6 : ∀ w ∈ wsX60, w.before aq sq = true := fun w h => hts w ((by decide +kernel : ∀ w ∈ wsX60, w ∈ wsX6_triggered) w h)
  refine z_sub (L' := [(0, .ref (ad 33))]) [0] rfl ?_
  refine z_aload_n C dX6_triggered_0 0 rfl ?_
  refine z_get (q := 33) C (T := TX6) (N := 4) (ci := 6) (own := RX6) (index := 84) (v := .int (u.1 33 3)) hT6 hown hK (by decide) rfl rfl 3 (by decide) (hts (.fieldLink RX6 84 "TriggerAnalyzer" "present" "I") (by decide +kernel)) (fun _ h9 => h9) rfl dX6_triggered_1 ?_
  refine z_topi (y := nI x) (h3) ?_
  refine z_callSi xX_ok C hml hown hts hK hX (c_X6_triggeredIn l D ad cI cL cR hI u x (by omega)) (va_cwS 1 hts gX6_triggered_X6_triggeredIn rfl rfl rfl (by decide +kernel) ⟨Nat.le_of_ble_eq_true rfl, Nat.le_of_ble_eq_true rfl⟩) rfl (st := []) rfl (Nat.le_of_ble_eq_true rfl) dX6_triggered_4 ⟨Nat.le_of_ble_eq_true rfl, Nat.le_of_ble_eq_true rfl⟩ (fun r4 u4 h4 => ?_)
  obtain ⟨zr4, zu4⟩ := h4
  subst r4
  subst u4
  exact z_iret C hr hlocks hQ u (⟨rfl, rfl⟩) (fun _ _ => rfl) dX6_triggered_7

set_option maxHeartbeats 4000000 in
set_option maxRecDepth 100000 in
theorem c_X6_circular (l : Launch) (D : va_G) (ad : Nat → Nat) (cI cL cR : ClassId) (hI : gI 34 ad) (u : xS) (n : Nat) (B : Nat → Nat → Nat) (hR : xR u n B) : ∀ sz, Met l yX6_circular wsX6_circular ({ frames := 4, cells := 0, slots := 0, locals := 88 }) (XP D ad cI cL cR u [.ref (ad 33)] sz) (va_Qi (fun r_ u' => r_ = nI (cirs B 8) ∧ jFr u u') (XB D ad cI cL cR) (gA 34 ad sz)) 0 0 (gA 34 ad sz) := by
  intro sz
  refine z_met (cc := cX6_circular) (maxL := 1) (ret := (some .int)) (by decide) rfl (Nat.le_of_ble_eq_true rfl) ?_
  intro pq lq sq mq aq Qq bq hmq cq C hr hml hown hts hlocks hK hX hsz hQ
  subst hsz
  have hT6 : ∀ w ∈ wsX60, w.before aq sq = true := fun w h => hts w ((by decide +kernel : ∀ w ∈ wsX60, w ∈ wsX6_circular) w h)
  refine z_sub (L' := [(0, .ref (ad 33))]) [0] rfl ?_
  refine z_aload_n C dX6_circular_0 0 rfl ?_
  refine z_get (q := 33) C (T := TX6) (N := 4) (ci := 6) (own := RX6) (index := 21) (v := .ref (ad 19)) hT6 hown hK (by decide) rfl rfl 1 (by decide) (hts (.fieldLink RX6 21 "TriggerAnalyzer" "judge" "LTriggerAnalyzer$Judge;") (by decide +kernel)) (fun _ h9 => h9) rfl dX6_circular_1 ?_
  refine z_callVi xX_ok C hml hown hts hK hX (c_X2_inCircles l D ad cI cL cR hI u n B hR) (cwV 0 hts gX6_circular_X2_inCircles rfl rfl rfl (by decide +kernel) ⟨Nat.le_of_ble_eq_true rfl, Nat.le_of_ble_eq_true rfl⟩) (by decide) (ci := 2) rfl rfl rfl (st := []) rfl (Nat.le_of_ble_eq_true rfl) dX6_circular_4 ⟨Nat.le_of_ble_eq_true rfl, Nat.le_of_ble_eq_true rfl⟩ (fun r4 u4 h4 => ?_)
  obtain ⟨zr4, h4⟩ := h4
  subst r4
  exact z_iret C hr hlocks hQ u4 (⟨rfl, h4⟩) (fun _ _ => rfl) dX6_circular_7

set_option maxHeartbeats 4000000 in
set_option maxRecDepth 100000 in
theorem c_X6_conflictCount (l : Launch) (D : va_G) (ad : Nat → Nat) (cI cL cR : ClassId) (hI : gI 34 ad) (u : xS) (n : Nat) (B : Nat → Nat → Nat) (hR : xR u n B) : ∀ sz, Met l yX6_conflictCount wsX6_conflictCount ({ frames := 5, cells := 0, slots := 0, locals := 114 }) (XP D ad cI cL cR u [.ref (ad 33)] sz) (va_Qi (fun r_ u' => r_ = nI (cou B 8) ∧ u' = u) (XB D ad cI cL cR) (gA 34 ad sz)) 0 0 (gA 34 ad sz) := by
  intro sz
  refine z_met (cc := cX6_conflictCount) (maxL := 1) (ret := (some .int)) (by decide) rfl (Nat.le_of_ble_eq_true rfl) ?_
  intro pq lq sq mq aq Qq bq hmq cq C hr hml hown hts hlocks hK hX hsz hQ
  subst hsz
  have hT6 : ∀ w ∈ wsX60, w.before aq sq = true := fun w h => hts w ((by decide +kernel : ∀ w ∈ wsX60, w ∈ wsX6_conflictCount) w h)
  refine z_sub (L' := [(0, .ref (ad 33))]) [0] rfl ?_
  refine z_aload_n C dX6_conflictCount_0 0 rfl ?_
  refine z_get (q := 33) C (T := TX6) (N := 4) (ci := 6) (own := RX6) (index := 21) (v := .ref (ad 19)) hT6 hown hK (by decide) rfl rfl 1 (by decide) (hts (.fieldLink RX6 21 "TriggerAnalyzer" "judge" "LTriggerAnalyzer$Judge;") (by decide +kernel)) (fun _ h9 => h9) rfl dX6_conflictCount_1 ?_
  refine z_callVi xX_ok C hml hown hts hK hX (c_X2_countConflicts l D ad cI cL cR hI u n B hR) (cwV 0 hts gX6_conflictCount_X2_countConflicts rfl rfl rfl (by decide +kernel) ⟨Nat.le_of_ble_eq_true rfl, Nat.le_of_ble_eq_true rfl⟩) (by decide) (ci := 2) rfl rfl rfl (st := []) rfl (Nat.le_of_ble_eq_true rfl) dX6_conflictCount_4 ⟨Nat.le_of_ble_eq_true rfl, Nat.le_of_ble_eq_true rfl⟩ (fun r4 u4 h4 => ?_)
  obtain ⟨zr4, zu4⟩ := h4
  subst r4
  subst u4
  exact z_iret C hr hlocks hQ u (⟨rfl, rfl⟩) (fun _ _ => rfl) dX6_conflictCount_7

set_option maxHeartbeats 4000000 in
set_option maxRecDepth 100000 in
theorem c_X6_addRule (l : Launch) (D : va_G) (ad : Nat → Nat) (cI cL cR : ClassId) (hI : gI 34 ad) (u : xS) (n : Nat) (B : Nat → Nat → Nat) (hR : xR u n B) (hn8 : n < 8) (k : Nat) (hk : k < 6) (b : Nat) (hb : b ≤ 1) (a1 : Nat) (h1 : a1 < 64) (a2 : Nat) (h2 : a2 < 64) : ∀ sz, Met l yX6_addRule wsX6_addRule ({ frames := 7, cells := 0, slots := 0, locals := 110 }) (XP D ad cI cL cR u [.ref (ad 33), .int (nI k), .int (nI b), .int (nI a1), .int (nI a2)] sz) (va_Qi (fun r_ u' => r_ = nI n ∧ u' = (apS (xs u 21 8 (nI 0)) n (2 * k + b) (nI a1) (nI a2))) (XB D ad cI cL cR) (gA 34 ad sz)) 0 0 (gA 34 ad sz) := by
  intro sz
  refine z_met (cc := cX6_addRule) (maxL := 5) (ret := (some .int)) (by decide) rfl (Nat.le_of_ble_eq_true rfl) ?_
  intro pq lq sq mq aq Qq bq hmq cq C hr hml hown hts hlocks hK hX hsz hQ
  subst hsz
  have hT6 : ∀ w ∈ wsX60, w.before aq sq = true := fun w h => hts w ((by decide +kernel : ∀ w ∈ wsX60, w ∈ wsX6_addRule) w h)
  refine z_sub (L' := [(0, .ref (ad 33)), (1, .int (nI k)), (2, .int (nI b)), (3, .int (nI a1)), (4, .int (nI a2))]) [0, 1, 2, 3, 4] rfl ?_
  refine z_iload_n C dX6_addRule_0 1 rfl ?_
  refine z_callSv xX_ok C hml hown hts hK hX (c_X6_needFact l D ad cI cL cR hI u k hk) (va_cwS 1 hts gX6_addRule_X6_needFact rfl rfl rfl (by decide +kernel) ⟨Nat.le_of_ble_eq_true rfl, Nat.le_of_ble_eq_true rfl⟩) rfl (st := []) rfl (Nat.le_of_ble_eq_true rfl) dX6_addRule_1 ⟨Nat.le_of_ble_eq_true rfl, Nat.le_of_ble_eq_true rfl⟩ (fun u1 h1 => ?_)
  subst u1
  refine z_iload_n C dX6_addRule_4 3 rfl ?_
  refine z_callSv xX_ok C hml hown hts hK hX (c_X6_needFactSet l D ad cI cL cR hI u a1 h1) (va_cwS 1 hts gX6_addRule_X6_needFactSet rfl rfl rfl (by decide +kernel) ⟨Nat.le_of_ble_eq_true rfl, Nat.le_of_ble_eq_true rfl⟩) rfl (st := []) rfl (Nat.le_of_ble_eq_true rfl) dX6_addRule_5 ⟨Nat.le_of_ble_eq_true rfl, Nat.le_of_ble_eq_true rfl⟩ (fun u5 h5 => ?_)
  subst u5
  refine z_iload C dX6_addRule_8 4 rfl ?_
  refine z_callSv xX_ok C hml hown hts hK hX (c_X6_needFactSet l D ad cI cL cR hI u a2 h2) (va_cwS 1 hts gX6_addRule_X6_needFactSet rfl rfl rfl (by decide +kernel) ⟨Nat.le_of_ble_eq_true rfl, Nat.le_of_ble_eq_true rfl⟩) rfl (st := []) rfl (Nat.le_of_ble_eq_true rfl) dX6_addRule_10 ⟨Nat.le_of_ble_eq_true rfl, Nat.le_of_ble_eq_true rfl⟩ (fun u10 h10 => ?_)
  subst u10
  refine z_aload_n C dX6_addRule_13 0 rfl ?_
  refine z_get (q := 33) C (T := TX6) (N := 4) (ci := 6) (own := RX6) (index := 10) (v := .ref (ad 16)) hT6 hown hK (by decide) rfl rfl 0 (by decide) (hts (.fieldLink RX6 10 "TriggerAnalyzer" "book" "LTriggerAnalyzer$RuleBook;") (by decide +kernel)) (fun _ h9 => h9) rfl dX6_addRule_14 ?_
  refine z_callVi xX_ok C hml hown hts hK hX (c_X5_isFull l D ad cI cL cR hI u n B hR) (cwV 0 hts gX6_addRule_X5_isFull rfl rfl rfl (by decide +kernel) ⟨Nat.le_of_ble_eq_true rfl, Nat.le_of_ble_eq_true rfl⟩) (by decide) (ci := 5) rfl rfl rfl (st := []) rfl (Nat.le_of_ble_eq_true rfl) dX6_addRule_17 ⟨Nat.le_of_ble_eq_true rfl, Nat.le_of_ble_eq_true rfl⟩ (fun r17 u17 h17 => ?_)
  obtain ⟨zr17, zu17⟩ := h17
  subst r17
  subst u17
  refine z_topi (y := nI 0) (by rw [if_neg (by omega)]; rfl) ?_
  refine z_if_eq (tgt := 33) C dX6_addRule_20 (by decide) (fun zc20 => ?_) (fun zc20 => ?_)
  · skip
    have zn20 := z0_t (by omega) zc20
    refine z_aload_n C dX6_addRule_33 0 rfl ?_
    refine z_get (q := 33) C (T := TX6) (N := 4) (ci := 6) (own := RX6) (index := 28) (v := .ref (ad 21)) hT6 hown hK (by decide) rfl rfl 2 (by decide) (hts (.fieldLink RX6 28 "TriggerAnalyzer" "exploration" "LTriggerAnalyzer$Exploration;") (by decide +kernel)) (fun _ h9 => h9) rfl dX6_addRule_34 ?_
    refine z_callVv xX_ok C hml hown hts hK hX (c_X1_forget l D ad cI cL cR hI u) (cwV 0 hts gX6_addRule_X1_forget rfl rfl rfl (by decide +kernel) ⟨Nat.le_of_ble_eq_true rfl, Nat.le_of_ble_eq_true rfl⟩) (by decide) (ci := 1) rfl rfl rfl (st := []) rfl (Nat.le_of_ble_eq_true rfl) dX6_addRule_37 ⟨Nat.le_of_ble_eq_true rfl, Nat.le_of_ble_eq_true rfl⟩ (fun u37 h37 => ?_)
    subst u37
    refine z_aload_n C dX6_addRule_40 0 rfl ?_
    refine z_get (q := 33) C (T := TX6) (N := 4) (ci := 6) (own := RX6) (index := 10) (v := .ref (ad 16)) hT6 hown hK (by decide) rfl rfl 0 (by decide) (hts (.fieldLink RX6 10 "TriggerAnalyzer" "book" "LTriggerAnalyzer$RuleBook;") (by decide +kernel)) (fun _ h9 => h9) rfl dX6_addRule_41 ?_
    refine z_iload_n C dX6_addRule_44 1 rfl ?_
    refine z_iload_n C dX6_addRule_45 2 rfl ?_
    refine z_callSi xX_ok C hml hown hts hK hX (c_X6_changeCode l D ad cI cL cR hI (xs u 21 8 (nI 0)) k (nI b)) (va_cwS 2 hts gX6_addRule_X6_changeCode rfl rfl rfl (by decide +kernel) ⟨Nat.le_of_ble_eq_true rfl, Nat.le_of_ble_eq_true rfl⟩) rfl (st := [.ref (ad 16)]) rfl (Nat.le_of_ble_eq_true rfl) dX6_addRule_46 ⟨Nat.le_of_ble_eq_true rfl, Nat.le_of_ble_eq_true rfl⟩ (fun r46 u46 h46 => ?_)
    obtain ⟨zr46, zu46⟩ := h46
    subst r46
    subst u46
    refine z_topi (y := nI (2 * k + b)) (cc_b k hb) ?_
    refine z_iload_n C dX6_addRule_49 3 rfl ?_
    refine z_iload C dX6_addRule_50 4 rfl ?_
    refine z_callVi xX_ok C hml hown hts hK hX (c_X5_append l D ad cI cL cR hI (xs u 21 8 (nI 0)) n hn8 ((xs_c (by decide) _).trans (xR_n hR)) (2 * k + b) (by omega) (nI a1) (nI a2)) (cwV 3 hts gX6_addRule_X5_append rfl rfl rfl (by decide +kernel) ⟨Nat.le_of_ble_eq_true rfl, Nat.le_of_ble_eq_true rfl⟩) (by decide) (ci := 5) rfl rfl rfl (st := []) rfl (Nat.le_of_ble_eq_true rfl) dX6_addRule_52 ⟨Nat.le_of_ble_eq_true rfl, Nat.le_of_ble_eq_true rfl⟩ (fun r52 u52 h52 => ?_)
    obtain ⟨zr52, zu52⟩ := h52
    subst r52
    subst u52
    exact z_iret C hr hlocks hQ (xs (xs (xs (xs (xs (xs (xs u 21 8 (nI 0)) 16 2 (nI (n + 1))) n 2 (nI ((2 * k + b)))) n 3 ((nI a1))) n 4 ((nI a2))) n 5 (nI 1)) 18 ((2 * k + b)) ((xs (xs (xs (xs (xs u 21 8 (nI 0)) 16 2 (nI (n + 1))) n 2 (nI ((2 * k + b)))) n 3 ((nI a1))) n 4 ((nI a2))).1 18 ((2 * k + b)) ||| nI (2 ^ n))) (⟨rfl, rfl⟩) (fun _ _ => rfl) dX6_addRule_55
  · skip
    have zn20 := z0_f zc20
    exact absurd zn20 (by decide)

set_option maxHeartbeats 4000000 in
set_option maxRecDepth 100000 in
theorem c_X6_addAction (l : Launch) (D : va_G) (ad : Nat → Nat) (cI cL cR : ClassId) (hI : gI 34 ad) (u : xS) (n : Nat) (B : Nat → Nat → Nat) (hR : xR u n B) (i : Nat) (hi : i < n) (k : Nat) (hk : k < 6) (b : Nat) (hb : b ≤ 1) (h4 : B i 4 < 4) : ∀ sz, Met l yX6_addAction wsX6_addAction ({ frames := 7, cells := 0, slots := 0, locals := 112 }) (XP D ad cI cL cR u [.ref (ad 33), .int (nI i), .int (nI k), .int (nI b)] sz) (va_Qi (fun r_ u' => r_ = nI (B i 4 + 1) ∧ u' = (aaS (xs u 21 8 (nI 0)) i (B i 4) (2 * k + b))) (XB D ad cI cL cR) (gA 34 ad sz)) 0 0 (gA 34 ad sz) := by
  intro sz
  refine z_met (cc := cX6_addAction) (maxL := 5) (ret := (some .int)) (by decide) rfl (Nat.le_of_ble_eq_true rfl) ?_
  intro pq lq sq mq aq Qq bq hmq cq C hr hml hown hts hlocks hK hX hsz hQ
  subst hsz
  have hT4 : ∀ w ∈ wsX40, w.before aq sq = true := fun w h => hts w ((by decide +kernel : ∀ w ∈ wsX40, w ∈ wsX6_addAction) w h)
  have hT6 : ∀ w ∈ wsX60, w.before aq sq = true := fun w h => hts w ((by decide +kernel : ∀ w ∈ wsX60, w ∈ wsX6_addAction) w h)
  refine z_sub (L' := [(0, .ref (ad 33)), (1, .int (nI i)), (2, .int (nI k)), (3, .int (nI b))]) [0, 1, 2, 3] rfl ?_
  have hi8 : i < 8 := Nat.lt_of_lt_of_le hi hR.1.1
  refine z_aload_n C dX6_addAction_0 0 rfl ?_
  refine z_iload_n C dX6_addAction_1 1 rfl ?_
  refine z_callVq xX_ok C hml hown hts hK hX (c_X6_ruleAt l D ad cI cL cR hI u n B hR i hi) (cwV 1 hts gX6_addAction_X6_ruleAt rfl rfl rfl (by decide +kernel) ⟨Nat.le_of_ble_eq_true rfl, Nat.le_of_ble_eq_true rfl⟩) (by decide) (ci := 6) rfl rfl rfl (st := []) rfl (Nat.le_of_ble_eq_true rfl) dX6_addAction_2 ⟨Nat.le_of_ble_eq_true rfl, Nat.le_of_ble_eq_true rfl⟩ (fun r2 u2 h2 => ?_)
  obtain ⟨zr2, zu2⟩ := h2
  subst r2
  subst u2
  refine z_topv (y := .ref (ad i)) rfl ?_
  refine z_astore (L' := [(4, .ref (ad i)), (0, .ref (ad 33)), (1, .int (nI i)), (2, .int (nI k)), (3, .int (nI b))]) C dX6_addAction_5 (by decide) rfl ?_
  refine z_iload_n C dX6_addAction_7 3 rfl ?_
  refine z_callSv xX_ok C hml hown hts hK hX (c_X6_needFact l D ad cI cL cR hI u k hk) (va_cwS 1 hts gX6_addAction_X6_needFact rfl rfl rfl (by decide +kernel) ⟨Nat.le_of_ble_eq_true rfl, Nat.le_of_ble_eq_true rfl⟩) rfl (st := []) rfl (Nat.le_of_ble_eq_true rfl) dX6_addAction_8 ⟨Nat.le_of_ble_eq_true rfl, Nat.le_of_ble_eq_true rfl⟩ (fun u8 h8 => ?_)
  subst u8
  refine z_aload C dX6_addAction_11 0 rfl ?_
  refine z_callVi xX_ok C hml hown hts hK hX (c_X4_isFull l D ad cI cL cR hI u n B hR i hi8) (cwV 0 hts gX6_addAction_X4_isFull rfl rfl rfl (by decide +kernel) ⟨Nat.le_of_ble_eq_true rfl, Nat.le_of_ble_eq_true rfl⟩) (by omega) (ci := 4) (xF_r hi8) rfl rfl (st := []) rfl (Nat.le_of_ble_eq_true rfl) dX6_addAction_13 ⟨Nat.le_of_ble_eq_true rfl, Nat.le_of_ble_eq_true rfl⟩ (fun r13 u13 h13 => ?_)
  obtain ⟨zr13, zu13⟩ := h13
  subst r13
  subst u13
  refine z_topi (y := nI 0) (by rw [if_neg (by omega)]; rfl) ?_
  refine z_if_eq (tgt := 29) C dX6_addAction_16 (by decide) (fun zc16 => ?_) (fun zc16 => ?_)
  · skip
    have zn16 := z0_t (by omega) zc16
    refine z_aload_n C dX6_addAction_29 1 rfl ?_
    refine z_get (q := 33) C (T := TX6) (N := 4) (ci := 6) (own := RX6) (index := 28) (v := .ref (ad 21)) hT6 hown hK (by decide) rfl rfl 2 (by decide) (hts (.fieldLink RX6 28 "TriggerAnalyzer" "exploration" "LTriggerAnalyzer$Exploration;") (by decide +kernel)) (fun _ h9 => h9) rfl dX6_addAction_30 ?_
    refine z_callVv xX_ok C hml hown hts hK hX (c_X1_forget l D ad cI cL cR hI u) (cwV 0 hts gX6_addAction_X1_forget rfl rfl rfl (by decide +kernel) ⟨Nat.le_of_ble_eq_true rfl, Nat.le_of_ble_eq_true rfl⟩) (by decide) (ci := 1) rfl rfl rfl (st := []) rfl (Nat.le_of_ble_eq_true rfl) dX6_addAction_33 ⟨Nat.le_of_ble_eq_true rfl, Nat.le_of_ble_eq_true rfl⟩ (fun u33 h33 => ?_)
    subst u33
    refine z_aload C dX6_addAction_36 0 rfl ?_
    refine z_iload_n C dX6_addAction_38 3 rfl ?_
    refine z_iload_n C dX6_addAction_39 4 rfl ?_
    refine z_callSi xX_ok C hml hown hts hK hX (c_X6_changeCode l D ad cI cL cR hI (xs u 21 8 (nI 0)) k (nI b)) (va_cwS 2 hts gX6_addAction_X6_changeCode rfl rfl rfl (by decide +kernel) ⟨Nat.le_of_ble_eq_true rfl, Nat.le_of_ble_eq_true rfl⟩) rfl (st := [.ref (ad i)]) rfl (Nat.le_of_ble_eq_true rfl) dX6_addAction_40 ⟨Nat.le_of_ble_eq_true rfl, Nat.le_of_ble_eq_true rfl⟩ (fun r40 u40 h40 => ?_)
    obtain ⟨zr40, zu40⟩ := h40
    subst r40
    subst u40
    refine z_topi (y := nI (2 * k + b)) (cc_b k hb) ?_
    refine z_callVv xX_ok C hml hown hts hK hX (c_X4_append l D ad cI cL cR hI (xs u 21 8 (nI 0)) i hi8 (B i 4) h4 ((xs_c (by omega) _).trans (xR_6 hR hi8)) (2 * k + b) (by omega)) (cwV 1 hts gX6_addAction_X4_append rfl rfl rfl (by decide +kernel) ⟨Nat.le_of_ble_eq_true rfl, Nat.le_of_ble_eq_true rfl⟩) (by omega) (ci := 4) (xF_r hi8) rfl rfl (st := []) rfl (Nat.le_of_ble_eq_true rfl) dX6_addAction_43 ⟨Nat.le_of_ble_eq_true rfl, Nat.le_of_ble_eq_true rfl⟩ (fun u43 h43 => ?_)
    subst u43
    refine z_aload C dX6_addAction_46 0 rfl ?_
    refine z_get (q := i) C (T := TX4) (N := 11) (ci := 4) (own := RX6) (index := 72) (v := .int ((if ((2 * k + b)) % 2 = 1 then xs (xs (xs (xs u 21 8 (nI 0)) (8 + i) ((B i 4)) (nI ((2 * k + b)))) i 6 (nI (((B i 4)) + 1))) i 7 ((xs u 21 8 (nI 0)).1 i 7 ||| nI (2 ^ (((2 * k + b)) / 2))) else xs (xs (xs (xs u 21 8 (nI 0)) (8 + i) ((B i 4)) (nI ((2 * k + b)))) i 6 (nI (((B i 4)) + 1))) i 8 ((xs u 21 8 (nI 0)).1 i 8 ||| nI (2 ^ (((2 * k + b)) / 2)))).1 i 6)) hT4 hown hK (by omega) (xF_r hi8) rfl 6 (by decide) (hts (.fieldLink RX6 72 "TriggerAnalyzer$Rule" "actionCount" "I") (by decide +kernel)) (fun _ h9 => h9) rfl dX6_addAction_48 ?_
    refine z_topi (y := nI (B i 4 + 1)) (aaS_6 (xs u 21 8 (nI 0)) i (B i 4) (2 * k + b)) ?_
    exact z_iret C hr hlocks hQ ((if ((2 * k + b)) % 2 = 1 then xs (xs (xs (xs u 21 8 (nI 0)) (8 + i) ((B i 4)) (nI ((2 * k + b)))) i 6 (nI (((B i 4)) + 1))) i 7 ((xs u 21 8 (nI 0)).1 i 7 ||| nI (2 ^ (((2 * k + b)) / 2))) else xs (xs (xs (xs u 21 8 (nI 0)) (8 + i) ((B i 4)) (nI ((2 * k + b)))) i 6 (nI (((B i 4)) + 1))) i 8 ((xs u 21 8 (nI 0)).1 i 8 ||| nI (2 ^ (((2 * k + b)) / 2))))) (⟨rfl, rfl⟩) (fun _ _ => rfl) dX6_addAction_51
  · skip
    have zn16 := z0_f zc16
    exact absurd zn16 (by decide)

set_option maxHeartbeats 4000000 in
set_option maxRecDepth 100000 in
theorem c_X6_turn_v1 (l : Launch) (D : va_G) (ad : Nat → Nat) (cI cL cR : ClassId) (hI : gI 34 ad) (u : xS) (n : Nat) (B : Nat → Nat → Nat) (hR : xR u n B) (i : Nat) (hi : i < n) : ∀ sz, Met l yX6_turn wsX6_turn ({ frames := 7, cells := 0, slots := 0, locals := 112 }) (XP D ad cI cL cR u [.ref (ad 33), .int (nI i), .int (nI 1)] sz) (va_Qi (fun r_ u' => r_ = nI (B i 3) ∧ u' = (xs (xs (xs u 21 8 (nI 0)) i 5 (nI 1)) 18 (B i 0) ((xs u 21 8 (nI 0)).1 18 (B i 0) ||| nI (2 ^ i)))) (XB D ad cI cL cR) (gA 34 ad sz)) 0 0 (gA 34 ad sz) := by
  intro sz
  refine z_met (cc := cX6_turn) (maxL := 5) (ret := (some .boolean)) (by decide) rfl (Nat.le_of_ble_eq_true rfl) ?_
  intro pq lq sq mq aq Qq bq hmq cq C hr hml hown hts hlocks hK hX hsz hQ
  subst hsz
  have hT4 : ∀ w ∈ wsX40, w.before aq sq = true := fun w h => hts w ((by decide +kernel : ∀ w ∈ wsX40, w ∈ wsX6_turn) w h)
  have hT6 : ∀ w ∈ wsX60, w.before aq sq = true := fun w h => hts w ((by decide +kernel : ∀ w ∈ wsX60, w ∈ wsX6_turn) w h)
  refine z_sub (L' := [(0, .ref (ad 33)), (1, .int (nI i)), (2, .int (nI 1))]) [0, 1, 2] rfl ?_
  have hi8 : i < 8 := Nat.lt_of_lt_of_le hi hR.1.1
  have g3 : B i 3 ≤ 1 := gB_3 hR.1 hi8
  refine z_aload_n C dX6_turn_0 0 rfl ?_
  refine z_iload_n C dX6_turn_1 1 rfl ?_
  refine z_callVq xX_ok C hml hown hts hK hX (c_X6_ruleAt l D ad cI cL cR hI u n B hR i hi) (cwV 1 hts gX6_turn_X6_ruleAt rfl rfl rfl (by decide +kernel) ⟨Nat.le_of_ble_eq_true rfl, Nat.le_of_ble_eq_true rfl⟩) (by decide) (ci := 6) rfl rfl rfl (st := []) rfl (Nat.le_of_ble_eq_true rfl) dX6_turn_2 ⟨Nat.le_of_ble_eq_true rfl, Nat.le_of_ble_eq_true rfl⟩ (fun r2 u2 h2 => ?_)
  obtain ⟨zr2, zu2⟩ := h2
  subst r2
  subst u2
  refine z_topv (y := .ref (ad i)) rfl ?_
  refine z_astore_n (L' := [(3, .ref (ad i)), (0, .ref (ad 33)), (1, .int (nI i)), (2, .int (nI 1))]) C dX6_turn_5 (by decide) rfl ?_
  refine z_aload_n C dX6_turn_6 0 rfl ?_
  refine z_get (q := i) C (T := TX4) (N := 11) (ci := 4) (own := RX6) (index := 76) (v := .int (u.1 i 5)) hT4 hown hK (by omega) (xF_r hi8) rfl 5 (by decide) (hts (.fieldLink RX6 76 "TriggerAnalyzer$Rule" "on" "Z") (by decide +kernel)) (fun _ h9 => h9) rfl dX6_turn_7 ?_
  refine z_topi (y := nI (B i 3)) (xR_5 hR (by omega)) ?_
  refine z_istore (L' := [(4, .int (nI (B i 3))), (3, .ref (ad i)), (0, .ref (ad 33)), (1, .int (nI i)), (2, .int (nI 1))]) C dX6_turn_10 (by decide) rfl ?_
  refine z_aload_n C dX6_turn_12 2 rfl ?_
  refine z_get (q := 33) C (T := TX6) (N := 4) (ci := 6) (own := RX6) (index := 28) (v := .ref (ad 21)) hT6 hown hK (by decide) rfl rfl 2 (by decide) (hts (.fieldLink RX6 28 "TriggerAnalyzer" "exploration" "LTriggerAnalyzer$Exploration;") (by decide +kernel)) (fun _ h9 => h9) rfl dX6_turn_13 ?_
  refine z_callVv xX_ok C hml hown hts hK hX (c_X1_forget l D ad cI cL cR hI u) (cwV 0 hts gX6_turn_X1_forget rfl rfl rfl (by decide +kernel) ⟨Nat.le_of_ble_eq_true rfl, Nat.le_of_ble_eq_true rfl⟩) (by decide) (ci := 1) rfl rfl rfl (st := []) rfl (Nat.le_of_ble_eq_true rfl) dX6_turn_16 ⟨Nat.le_of_ble_eq_true rfl, Nat.le_of_ble_eq_true rfl⟩ (fun u16 h16 => ?_)
  subst u16
  refine z_aload_n C dX6_turn_19 2 rfl ?_
  refine z_get (q := 33) C (T := TX6) (N := 4) (ci := 6) (own := RX6) (index := 10) (v := .ref (ad 16)) hT6 hown hK (by decide) rfl rfl 0 (by decide) (hts (.fieldLink RX6 10 "TriggerAnalyzer" "book" "LTriggerAnalyzer$RuleBook;") (by decide +kernel)) (fun _ h9 => h9) rfl dX6_turn_20 ?_
  refine z_aload_n C dX6_turn_23 1 rfl ?_
  refine z_iload_n C dX6_turn_24 4 rfl ?_
  refine z_callVv xX_ok C hml hown hts hK hX (c_X5_switchRule_v1 l D ad cI cL cR hI (xs u 21 8 (nI 0)) i hi8 (B i 0) (gB_0 hR.1 hi8) ((xs_c (by omega) _).trans (xR_2 hR hi8))) (cwV 2 hts gX6_turn_X5_switchRule rfl rfl rfl (by decide +kernel) ⟨Nat.le_of_ble_eq_true rfl, Nat.le_of_ble_eq_true rfl⟩) (by decide) (ci := 5) rfl rfl rfl (st := []) rfl (Nat.le_of_ble_eq_true rfl) dX6_turn_25 ⟨Nat.le_of_ble_eq_true rfl, Nat.le_of_ble_eq_true rfl⟩ (fun u25 h25 => ?_)
  subst u25
  refine z_iload_n C dX6_turn_28 4 rfl ?_
  refine z_if_ne (tgt := 60) C dX6_turn_29 (by decide) (fun zc29 => ?_) (fun zc29 => ?_)
  · skip
    have zn29 := z0_f zc29
    refine z_iload C dX6_turn_60 0 rfl ?_
    exact z_zret C hr hlocks (zn_bool g3) hQ (xs (xs (xs u 21 8 (nI 0)) i 5 (nI 1)) 18 ((B i 0)) ((xs u 21 8 (nI 0)).1 18 ((B i 0)) ||| nI (2 ^ i))) (⟨rfl, rfl⟩) (fun _ _ => rfl) dX6_turn_62
  · skip
    have zn29 := z0_t (by omega) zc29
    exact absurd zn29 (by decide)

set_option maxHeartbeats 4000000 in
set_option maxRecDepth 100000 in
theorem c_X6_turn_v0 (l : Launch) (D : va_G) (ad : Nat → Nat) (cI cL cR : ClassId) (hI : gI 34 ad) (u : xS) (n : Nat) (B : Nat → Nat → Nat) (hR : xR u n B) (i : Nat) (hi : i < n) (x : Nat) (hx : x < 16384) (h3 : u.1 33 3 = nI x) : ∀ sz, Met l yX6_turn wsX6_turn ({ frames := 7, cells := 0, slots := 0, locals := 112 }) (XP D ad cI cL cR u [.ref (ad 33), .int (nI i), .int (nI 0)] sz) (va_Qi (fun r_ u' => r_ = nI (B i 3) ∧ u' = (xs (xs (xs (xs u 21 8 (nI 0)) i 5 (nI 0)) 18 (B i 0) ((xs u 21 8 (nI 0)).1 18 (B i 0) &&& (nI (2 ^ i) ^^^ (-1)))) 33 3 (nI (64 * clr (x / 64) i + x % 64)))) (XB D ad cI cL cR) (gA 34 ad sz)) 0 0 (gA 34 ad sz) := by
  intro sz
  refine z_met (cc := cX6_turn) (maxL := 5) (ret := (some .boolean)) (by decide) rfl (Nat.le_of_ble_eq_true rfl) ?_
  intro pq lq sq mq aq Qq bq hmq cq C hr hml hown hts hlocks hK hX hsz hQ
  subst hsz
  have hT4 : ∀ w ∈ wsX40, w.before aq sq = true := fun w h => hts w ((by decide +kernel : ∀ w ∈ wsX40, w ∈ wsX6_turn) w h)
  have hT6 : ∀ w ∈ wsX60, w.before aq sq = true := fun w h => hts w ((by decide +kernel : ∀ w ∈ wsX60, w ∈ wsX6_turn) w h)
  refine z_sub (L' := [(0, .ref (ad 33)), (1, .int (nI i)), (2, .int (nI 0))]) [0, 1, 2] rfl ?_
  have hi8 : i < 8 := Nat.lt_of_lt_of_le hi hR.1.1
  have g3 : B i 3 ≤ 1 := gB_3 hR.1 hi8
  have hc9 : clr (x / 64) i < 256 := clr_lt _ _
  refine z_aload_n C dX6_turn_0 0 rfl ?_
  refine z_iload_n C dX6_turn_1 1 rfl ?_
  refine z_callVq xX_ok C hml hown hts hK hX (c_X6_ruleAt l D ad cI cL cR hI u n B hR i hi) (cwV 1 hts gX6_turn_X6_ruleAt rfl rfl rfl (by decide +kernel) ⟨Nat.le_of_ble_eq_true rfl, Nat.le_of_ble_eq_true rfl⟩) (by decide) (ci := 6) rfl rfl rfl (st := []) rfl (Nat.le_of_ble_eq_true rfl) dX6_turn_2 ⟨Nat.le_of_ble_eq_true rfl, Nat.le_of_ble_eq_true rfl⟩ (fun r2 u2 h2 => ?_)
  obtain ⟨zr2, zu2⟩ := h2
  subst r2
  subst u2
  refine z_topv (y := .ref (ad i)) rfl ?_
  refine z_astore_n (L' := [(3, .ref (ad i)), (0, .ref (ad 33)), (1, .int (nI i)), (2, .int (nI 0))]) C dX6_turn_5 (by decide) rfl ?_
  refine z_aload_n C dX6_turn_6 0 rfl ?_
  refine z_get (q := i) C (T := TX4) (N := 11) (ci := 4) (own := RX6) (index := 76) (v := .int (u.1 i 5)) hT4 hown hK (by omega) (xF_r hi8) rfl 5 (by decide) (hts (.fieldLink RX6 76 "TriggerAnalyzer$Rule" "on" "Z") (by decide +kernel)) (fun _ h9 => h9) rfl dX6_turn_7 ?_
  refine z_topi (y := nI (B i 3)) (xR_5 hR (by omega)) ?_
  refine z_istore (L' := [(4, .int (nI (B i 3))), (3, .ref (ad i)), (0, .ref (ad 33)), (1, .int (nI i)), (2, .int (nI 0))]) C dX6_turn_10 (by decide) rfl ?_
  refine z_aload_n C dX6_turn_12 2 rfl ?_
  refine z_get (q := 33) C (T := TX6) (N := 4) (ci := 6) (own := RX6) (index := 28) (v := .ref (ad 21)) hT6 hown hK (by decide) rfl rfl 2 (by decide) (hts (.fieldLink RX6 28 "TriggerAnalyzer" "exploration" "LTriggerAnalyzer$Exploration;") (by decide +kernel)) (fun _ h9 => h9) rfl dX6_turn_13 ?_
  refine z_callVv xX_ok C hml hown hts hK hX (c_X1_forget l D ad cI cL cR hI u) (cwV 0 hts gX6_turn_X1_forget rfl rfl rfl (by decide +kernel) ⟨Nat.le_of_ble_eq_true rfl, Nat.le_of_ble_eq_true rfl⟩) (by decide) (ci := 1) rfl rfl rfl (st := []) rfl (Nat.le_of_ble_eq_true rfl) dX6_turn_16 ⟨Nat.le_of_ble_eq_true rfl, Nat.le_of_ble_eq_true rfl⟩ (fun u16 h16 => ?_)
  subst u16
  refine z_aload_n C dX6_turn_19 2 rfl ?_
  refine z_get (q := 33) C (T := TX6) (N := 4) (ci := 6) (own := RX6) (index := 10) (v := .ref (ad 16)) hT6 hown hK (by decide) rfl rfl 0 (by decide) (hts (.fieldLink RX6 10 "TriggerAnalyzer" "book" "LTriggerAnalyzer$RuleBook;") (by decide +kernel)) (fun _ h9 => h9) rfl dX6_turn_20 ?_
  refine z_aload_n C dX6_turn_23 1 rfl ?_
  refine z_iload_n C dX6_turn_24 4 rfl ?_
  refine z_callVv xX_ok C hml hown hts hK hX (c_X5_switchRule_v0 l D ad cI cL cR hI (xs u 21 8 (nI 0)) i hi8 (B i 0) (gB_0 hR.1 hi8) ((xs_c (by omega) _).trans (xR_2 hR hi8))) (cwV 2 hts gX6_turn_X5_switchRule rfl rfl rfl (by decide +kernel) ⟨Nat.le_of_ble_eq_true rfl, Nat.le_of_ble_eq_true rfl⟩) (by decide) (ci := 5) rfl rfl rfl (st := []) rfl (Nat.le_of_ble_eq_true rfl) dX6_turn_25 ⟨Nat.le_of_ble_eq_true rfl, Nat.le_of_ble_eq_true rfl⟩ (fun u25 h25 => ?_)
  subst u25
  refine z_iload_n C dX6_turn_28 4 rfl ?_
  refine z_if_ne (tgt := 60) C dX6_turn_29 (by decide) (fun zc29 => ?_) (fun zc29 => ?_)
  · skip
    have zn29 := z0_f zc29
    exact absurd zn29 (by decide)
  · skip
    have zn29 := z0_t (by omega) zc29
    refine z_aload_n C dX6_turn_32 2 rfl ?_
    refine z_aload_n C dX6_turn_33 2 rfl ?_
    refine z_get (q := 33) C (T := TX6) (N := 4) (ci := 6) (own := RX6) (index := 84) (v := .int ((xs (xs (xs u 21 8 (nI 0)) i 5 (nI 0)) 18 ((B i 0)) ((xs u 21 8 (nI 0)).1 18 ((B i 0)) &&& (nI (2 ^ i) ^^^ (-1)))).1 33 3)) hT6 hown hK (by decide) rfl rfl 3 (by decide) (hts (.fieldLink RX6 84 "TriggerAnalyzer" "present" "I") (by decide +kernel)) (fun _ h9 => h9) rfl dX6_turn_34 ?_
    refine z_topi (y := u.1 33 3) (((xs_c (by decide) _).trans (xs_c (by omega) _)).trans (xs_c (by decide) _)) ?_
    refine z_topi (y := nI x) (h3) ?_
    refine z_callSi xX_ok C hml hown hts hK hX (c_X6_factsIn l D ad cI cL cR hI (xs (xs (xs u 21 8 (nI 0)) i 5 (nI 0)) 18 ((B i 0)) ((xs u 21 8 (nI 0)).1 18 ((B i 0)) &&& (nI (2 ^ i) ^^^ (-1)))) x) (va_cwS 1 hts gX6_turn_X6_factsIn rfl rfl rfl (by decide +kernel) ⟨Nat.le_of_ble_eq_true rfl, Nat.le_of_ble_eq_true rfl⟩) rfl (st := [.ref (ad 33)]) rfl (Nat.le_of_ble_eq_true rfl) dX6_turn_37 ⟨Nat.le_of_ble_eq_true rfl, Nat.le_of_ble_eq_true rfl⟩ (fun r37 u37 h37 => ?_)
    obtain ⟨zr37, zu37⟩ := h37
    subst r37
    subst u37
    refine z_aload_n C dX6_turn_40 2 rfl ?_
    refine z_get (q := 33) C (T := TX6) (N := 4) (ci := 6) (own := RX6) (index := 84) (v := .int ((xs (xs (xs u 21 8 (nI 0)) i 5 (nI 0)) 18 ((B i 0)) ((xs u 21 8 (nI 0)).1 18 ((B i 0)) &&& (nI (2 ^ i) ^^^ (-1)))).1 33 3)) hT6 hown hK (by decide) rfl rfl 3 (by decide) (hts (.fieldLink RX6 84 "TriggerAnalyzer" "present" "I") (by decide +kernel)) (fun _ h9 => h9) rfl dX6_turn_41 ?_
    refine z_topi (y := u.1 33 3) (((xs_c (by decide) _).trans (xs_c (by omega) _)).trans (xs_c (by decide) _)) ?_
    refine z_topi (y := nI x) (h3) ?_
    refine z_callSi xX_ok C hml hown hts hK hX (c_X6_triggeredIn l D ad cI cL cR hI (xs (xs (xs u 21 8 (nI 0)) i 5 (nI 0)) 18 ((B i 0)) ((xs u 21 8 (nI 0)).1 18 ((B i 0)) &&& (nI (2 ^ i) ^^^ (-1)))) x (by omega)) (va_cwS 1 hts gX6_turn_X6_triggeredIn rfl rfl rfl (by decide +kernel) ⟨Nat.le_of_ble_eq_true rfl, Nat.le_of_ble_eq_true rfl⟩) rfl (st := [.int (nI (x % 64)), .ref (ad 33)]) rfl (Nat.le_of_ble_eq_true rfl) dX6_turn_44 ⟨Nat.le_of_ble_eq_true rfl, Nat.le_of_ble_eq_true rfl⟩ (fun r44 u44 h44 => ?_)
    obtain ⟨zr44, zu44⟩ := h44
    subst r44
    subst u44
    refine z_aload_n C dX6_turn_47 1 rfl ?_
    refine z_get (q := i) C (T := TX4) (N := 11) (ci := 4) (own := RX6) (index := 94) (v := .int (nI (2 ^ i))) hT4 hown hK (by omega) (xF_r hi8) rfl 0 (by decide) (hts (.fieldLink RX6 94 "TriggerAnalyzer$Rule" "bit" "I") (by decide +kernel)) (fun _ h9 => h9) rfl dX6_turn_48 ?_
    refine z_iconst (v := (-1)) C (by decide) dX6_turn_51 ?_
    refine z_ixor C dX6_turn_52 ?_
    refine z_iand C dX6_turn_53 ?_
    refine z_topi (y := nI (clr (x / 64) i)) (zi_clr (by omega) hi8) ?_
    refine z_callSi xX_ok C hml hown hts hK hX (c_X6_situationOf l D ad cI cL cR hI (xs (xs (xs u 21 8 (nI 0)) i 5 (nI 0)) 18 ((B i 0)) ((xs u 21 8 (nI 0)).1 18 ((B i 0)) &&& (nI (2 ^ i) ^^^ (-1)))) (x % 64) (clr (x / 64) i) (by omega) (by omega)) (va_cwS 2 hts gX6_turn_X6_situationOf rfl rfl rfl (by decide +kernel) ⟨Nat.le_of_ble_eq_true rfl, Nat.le_of_ble_eq_true rfl⟩) rfl (st := [.ref (ad 33)]) rfl (Nat.le_of_ble_eq_true rfl) dX6_turn_54 ⟨Nat.le_of_ble_eq_true rfl, Nat.le_of_ble_eq_true rfl⟩ (fun r54 u54 h54 => ?_)
    obtain ⟨zr54, zu54⟩ := h54
    subst r54
    subst u54
    refine z_put (q := 33) C hI tyX6 (T := TX6) (N := 4) (ci := 6) (own := RX6) (index := 84) hT6 hown hK (by decide) rfl rfl 3 (by decide) (hts (.fieldLink RX6 84 "TriggerAnalyzer" "present" "I") (by decide +kernel)) (fun _ h9 => h9) tyX6_ok nmX6 rfl rfl rfl (Nat.le_of_ble_eq_true rfl) (f' := xF ad cI cL cR ((xs (xs (xs (xs u 21 8 (nI 0)) i 5 (nI 0)) 18 ((B i 0)) ((xs u 21 8 (nI 0)).1 18 ((B i 0)) &&& (nI (2 ^ i) ^^^ (-1)))) 33 3 (nI (64 * ((clr (x / 64) i)) + ((x % 64))))))) rfl xF_ne dX6_turn_57 ?_
    refine z_iload C dX6_turn_60 0 rfl ?_
    exact z_zret C hr hlocks (zn_bool g3) hQ ((xs (xs (xs (xs u 21 8 (nI 0)) i 5 (nI 0)) 18 ((B i 0)) ((xs u 21 8 (nI 0)).1 18 ((B i 0)) &&& (nI (2 ^ i) ^^^ (-1)))) 33 3 (nI (64 * ((clr (x / 64) i)) + ((x % 64)))))) (⟨rfl, rfl⟩) (fun _ _ => rfl) dX6_turn_62

set_option maxHeartbeats 4000000 in
set_option maxRecDepth 100000 in
theorem c_X6_rank (l : Launch) (D : va_G) (ad : Nat → Nat) (cI cL cR : ClassId) (hI : gI 34 ad) (u : xS) (n : Nat) (B : Nat → Nat → Nat) (hR : xR u n B) (i : Nat) (hi : i < n) (j : Nat) (hj : j < n) (hij : ¬ i = j) (hno : (B j 5).testBit i = false) : ∀ sz, Met l yX6_rank wsX6_rank ({ frames := 7, cells := 0, slots := 0, locals := 112 }) (XP D ad cI cL cR u [.ref (ad 33), .int (nI i), .int (nI j)] sz) (va_Qi (fun r_ u' => r_ = (if (B i 5).testBit j = true then 0 else 1) ∧ u' = (ordS (xs u 21 8 (nI 0)) (abv B i ||| 2 ^ i) (B j 5 ||| 2 ^ j) 8)) (XB D ad cI cL cR) (gA 34 ad sz)) 0 0 (gA 34 ad sz) := by
  intro sz
  refine z_met (cc := cX6_rank) (maxL := 6) (ret := (some .boolean)) (by decide) rfl (Nat.le_of_ble_eq_true rfl) ?_
  intro pq lq sq mq aq Qq bq hmq cq C hr hml hown hts hlocks hK hX hsz hQ
  subst hsz
  have hT6 : ∀ w ∈ wsX60, w.before aq sq = true := fun w h => hts w ((by decide +kernel : ∀ w ∈ wsX60, w ∈ wsX6_rank) w h)
  refine z_sub (L' := [(0, .ref (ad 33)), (1, .int (nI i)), (2, .int (nI j))]) [0, 1, 2] rfl ?_
  have hi8 : i < 8 := Nat.lt_of_lt_of_le hi hR.1.1
  have hj8 : j < 8 := Nat.lt_of_lt_of_le hj hR.1.1
  refine z_aload_n C dX6_rank_0 0 rfl ?_
  refine z_iload_n C dX6_rank_1 1 rfl ?_
  refine z_callVq xX_ok C hml hown hts hK hX (c_X6_ruleAt l D ad cI cL cR hI u n B hR i hi) (cwV 1 hts gX6_rank_X6_ruleAt rfl rfl rfl (by decide +kernel) ⟨Nat.le_of_ble_eq_true rfl, Nat.le_of_ble_eq_true rfl⟩) (by decide) (ci := 6) rfl rfl rfl (st := []) rfl (Nat.le_of_ble_eq_true rfl) dX6_rank_2 ⟨Nat.le_of_ble_eq_true rfl, Nat.le_of_ble_eq_true rfl⟩ (fun r2 u2 h2 => ?_)
  obtain ⟨zr2, zu2⟩ := h2
  subst r2
  subst u2
  refine z_topv (y := .ref (ad i)) rfl ?_
  refine z_astore_n (L' := [(3, .ref (ad i)), (0, .ref (ad 33)), (1, .int (nI i)), (2, .int (nI j))]) C dX6_rank_5 (by decide) rfl ?_
  refine z_aload_n C dX6_rank_6 1 rfl ?_
  refine z_iload_n C dX6_rank_7 3 rfl ?_
  refine z_callVq xX_ok C hml hown hts hK hX (c_X6_ruleAt l D ad cI cL cR hI u n B hR j hj) (cwV 1 hts gX6_rank_X6_ruleAt rfl rfl rfl (by decide +kernel) ⟨Nat.le_of_ble_eq_true rfl, Nat.le_of_ble_eq_true rfl⟩) (by decide) (ci := 6) rfl rfl rfl (st := []) rfl (Nat.le_of_ble_eq_true rfl) dX6_rank_8 ⟨Nat.le_of_ble_eq_true rfl, Nat.le_of_ble_eq_true rfl⟩ (fun r8 u8 h8 => ?_)
  obtain ⟨zr8, zu8⟩ := h8
  subst r8
  subst u8
  refine z_topv (y := .ref (ad j)) rfl ?_
  refine z_astore (L' := [(4, .ref (ad j)), (3, .ref (ad i)), (0, .ref (ad 33)), (1, .int (nI i)), (2, .int (nI j))]) C dX6_rank_11 (by decide) rfl ?_
  refine z_iload_n C dX6_rank_13 3 rfl ?_
  refine z_iload_n C dX6_rank_14 4 rfl ?_
  refine z_icmp_eq (tgt := 27) C dX6_rank_15 (by decide) (fun zc15 => ?_) (fun zc15 => ?_)
  · skip
    have zn15 := zeq_t (a := i) (b := j) (by omega) (by omega) zc15
    exact False.elim (by omega)
  · skip
    have zn15 := zeq_f (a := i) (b := j) zc15
    refine z_aload C dX6_rank_18 0 rfl ?_
    refine z_aload_n C dX6_rank_20 1 rfl ?_
    refine z_callVi xX_ok C hml hown hts hK hX (c_X4_isOver l D ad cI cL cR hI u n B hR j hj8 i hi8) (cwV 1 hts gX6_rank_X4_isOver rfl rfl rfl (by decide +kernel) ⟨Nat.le_of_ble_eq_true rfl, Nat.le_of_ble_eq_true rfl⟩) (by omega) (ci := 4) (xF_r hj8) rfl rfl (st := []) rfl (Nat.le_of_ble_eq_true rfl) dX6_rank_21 ⟨Nat.le_of_ble_eq_true rfl, Nat.le_of_ble_eq_true rfl⟩ (fun r21 u21 h21 => ?_)
    obtain ⟨zr21, zu21⟩ := h21
    subst r21
    subst u21
    refine z_topi (y := nI 0) (by rw [hno]; rfl) ?_
    refine z_if_eq (tgt := 37) C dX6_rank_24 (by decide) (fun zc24 => ?_) (fun zc24 => ?_)
    · skip
      have zn24 := z0_t (by omega) zc24
      refine z_aload_n C dX6_rank_37 1 rfl ?_
      refine z_aload C dX6_rank_38 0 rfl ?_
      refine z_callVi xX_ok C hml hown hts hK hX (c_X4_isOver l D ad cI cL cR hI u n B hR i hi8 j hj8) (cwV 1 hts gX6_rank_X4_isOver rfl rfl rfl (by decide +kernel) ⟨Nat.le_of_ble_eq_true rfl, Nat.le_of_ble_eq_true rfl⟩) (by omega) (ci := 4) (xF_r hi8) rfl rfl (st := []) rfl (Nat.le_of_ble_eq_true rfl) dX6_rank_40 ⟨Nat.le_of_ble_eq_true rfl, Nat.le_of_ble_eq_true rfl⟩ (fun r40 u40 h40 => ?_)
      obtain ⟨zr40, zu40⟩ := h40
      subst r40
      subst u40
      refine z_if_ne (tgt := 50) C dX6_rank_43 (by decide) (fun zc43 => ?_) (fun zc43 => ?_)
      · skip
        have h43 := z1t zc43
        refine z_iconst (v := nI 0) C (by decide) dX6_rank_50 ?_
        refine z_istore (L' := [(5, .int (nI 0)), (4, .ref (ad j)), (3, .ref (ad i)), (0, .ref (ad 33)), (1, .int (nI i)), (2, .int (nI j))]) C dX6_rank_51 (by decide) rfl ?_
        refine z_aload_n C dX6_rank_53 3 rfl ?_
        refine z_get (q := 33) C (T := TX6) (N := 4) (ci := 6) (own := RX6) (index := 28) (v := .ref (ad 21)) hT6 hown hK (by decide) rfl rfl 2 (by decide) (hts (.fieldLink RX6 28 "TriggerAnalyzer" "exploration" "LTriggerAnalyzer$Exploration;") (by decide +kernel)) (fun _ h9 => h9) rfl dX6_rank_54 ?_
        refine z_callVv xX_ok C hml hown hts hK hX (c_X1_forget l D ad cI cL cR hI u) (cwV 0 hts gX6_rank_X1_forget rfl rfl rfl (by decide +kernel) ⟨Nat.le_of_ble_eq_true rfl, Nat.le_of_ble_eq_true rfl⟩) (by decide) (ci := 1) rfl rfl rfl (st := []) rfl (Nat.le_of_ble_eq_true rfl) dX6_rank_57 ⟨Nat.le_of_ble_eq_true rfl, Nat.le_of_ble_eq_true rfl⟩ (fun u57 h57 => ?_)
        subst u57
        refine z_aload_n C dX6_rank_60 3 rfl ?_
        refine z_get (q := 33) C (T := TX6) (N := 4) (ci := 6) (own := RX6) (index := 10) (v := .ref (ad 16)) hT6 hown hK (by decide) rfl rfl 0 (by decide) (hts (.fieldLink RX6 10 "TriggerAnalyzer" "book" "LTriggerAnalyzer$RuleBook;") (by decide +kernel)) (fun _ h9 => h9) rfl dX6_rank_61 ?_
        refine z_aload_n C dX6_rank_64 2 rfl ?_
        refine z_aload C dX6_rank_65 1 rfl ?_
        refine z_callVv xX_ok C hml hown hts hK hX (c_X5_order l D ad cI cL cR hI (xs u 21 8 (nI 0)) n B (xR_fg hR _) i hi8 j hj8) (cwV 2 hts gX6_rank_X5_order rfl rfl rfl (by decide +kernel) ⟨Nat.le_of_ble_eq_true rfl, Nat.le_of_ble_eq_true rfl⟩) (by decide) (ci := 5) rfl rfl rfl (st := []) rfl (Nat.le_of_ble_eq_true rfl) dX6_rank_67 ⟨Nat.le_of_ble_eq_true rfl, Nat.le_of_ble_eq_true rfl⟩ (fun u67 h67 => ?_)
        subst u67
        refine z_iload C dX6_rank_70 0 rfl ?_
        exact z_zret C hr hlocks rfl hQ (ordS (xs u 21 8 (nI 0)) (abv B i ||| 2 ^ i) (B j 5 ||| 2 ^ j) 8) (⟨by rw [if_pos h43]; rfl, rfl⟩) (fun _ _ => rfl) dX6_rank_72
      · skip
        have h43 := z1f zc43
        refine z_iconst (v := nI 1) C (by decide) dX6_rank_46 ?_
        refine z_goto (tgt := 51) C dX6_rank_47 (by decide) ?_
        refine z_istore (L' := [(5, .int (nI 1)), (4, .ref (ad j)), (3, .ref (ad i)), (0, .ref (ad 33)), (1, .int (nI i)), (2, .int (nI j))]) C dX6_rank_51 (by decide) rfl ?_
        refine z_aload_n C dX6_rank_53 3 rfl ?_
        refine z_get (q := 33) C (T := TX6) (N := 4) (ci := 6) (own := RX6) (index := 28) (v := .ref (ad 21)) hT6 hown hK (by decide) rfl rfl 2 (by decide) (hts (.fieldLink RX6 28 "TriggerAnalyzer" "exploration" "LTriggerAnalyzer$Exploration;") (by decide +kernel)) (fun _ h9 => h9) rfl dX6_rank_54 ?_
        refine z_callVv xX_ok C hml hown hts hK hX (c_X1_forget l D ad cI cL cR hI u) (cwV 0 hts gX6_rank_X1_forget rfl rfl rfl (by decide +kernel) ⟨Nat.le_of_ble_eq_true rfl, Nat.le_of_ble_eq_true rfl⟩) (by decide) (ci := 1) rfl rfl rfl (st := []) rfl (Nat.le_of_ble_eq_true rfl) dX6_rank_57 ⟨Nat.le_of_ble_eq_true rfl, Nat.le_of_ble_eq_true rfl⟩ (fun u57 h57 => ?_)
        subst u57
        refine z_aload_n C dX6_rank_60 3 rfl ?_
        refine z_get (q := 33) C (T := TX6) (N := 4) (ci := 6) (own := RX6) (index := 10) (v := .ref (ad 16)) hT6 hown hK (by decide) rfl rfl 0 (by decide) (hts (.fieldLink RX6 10 "TriggerAnalyzer" "book" "LTriggerAnalyzer$RuleBook;") (by decide +kernel)) (fun _ h9 => h9) rfl dX6_rank_61 ?_
        refine z_aload_n C dX6_rank_64 2 rfl ?_
        refine z_aload C dX6_rank_65 1 rfl ?_
        refine z_callVv xX_ok C hml hown hts hK hX (c_X5_order l D ad cI cL cR hI (xs u 21 8 (nI 0)) n B (xR_fg hR _) i hi8 j hj8) (cwV 2 hts gX6_rank_X5_order rfl rfl rfl (by decide +kernel) ⟨Nat.le_of_ble_eq_true rfl, Nat.le_of_ble_eq_true rfl⟩) (by decide) (ci := 5) rfl rfl rfl (st := []) rfl (Nat.le_of_ble_eq_true rfl) dX6_rank_67 ⟨Nat.le_of_ble_eq_true rfl, Nat.le_of_ble_eq_true rfl⟩ (fun u67 h67 => ?_)
        subst u67
        refine z_iload C dX6_rank_70 0 rfl ?_
        exact z_zret C hr hlocks rfl hQ (ordS (xs u 21 8 (nI 0)) (abv B i ||| 2 ^ i) (B j 5 ||| 2 ^ j) 8) (⟨by rw [if_neg h43]; rfl, rfl⟩) (fun _ _ => rfl) dX6_rank_72
    · skip
      have zn24 := z0_f zc24
      exact absurd zn24 (by decide)

set_option maxHeartbeats 4000000 in
set_option maxRecDepth 100000 in
theorem c_X6_rank_x3 (l : Launch) (hst0 : l.stackTraces = false) (D : va_G) (ad : Nat → Nat) (cI cL cR : ClassId) (hI : gI 34 ad) (u : xS) (n : Nat) (B : Nat → Nat → Nat) (hR : xR u n B) (i : Nat) (hi : i < n) : ∀ sz, vx_Met l yX6_rank wsX6_rank ({ frames := 7, cells := 1, slots := 6, locals := 112 }) (XP D ad cI cL cR u [.ref (ad 33), .int (nI i), .int (nI i)] sz) QN (XE D ad cI cL cR eIA u sz) 1 6 (gA 34 ad sz) := by
  intro sz
  refine z_metX (cc := cX6_rank) (maxL := 6) (ret := (some .boolean)) (by decide) rfl (Nat.le_of_ble_eq_true rfl) ?_
  intro pq lq sq mq aq Qq bq hmq cq C hr hml hown hts hlocks hK hX htab hsz hQ
  subst hsz
  refine z_sub (L' := [(0, .ref (ad 33)), (1, .int (nI i)), (2, .int (nI i))]) [0, 1, 2] rfl ?_
  have hi8 : i < 8 := Nat.lt_of_lt_of_le hi hR.1.1
  refine z_aload_n C dX6_rank_0 0 rfl ?_
  refine z_iload_n C dX6_rank_1 1 rfl ?_
  refine z_callVq xX_ok C hml hown hts hK hX (c_X6_ruleAt l D ad cI cL cR hI u n B hR i hi) (cwV 1 hts gX6_rank_X6_ruleAt rfl rfl rfl (by decide +kernel) ⟨Nat.le_of_ble_eq_true rfl, Nat.le_of_ble_eq_true rfl⟩) (by decide) (ci := 6) rfl rfl rfl (st := []) rfl (Nat.le_of_ble_eq_true rfl) dX6_rank_2 ⟨Nat.le_of_ble_eq_true rfl, Nat.le_of_ble_eq_true rfl⟩ (fun r2 u2 h2 => ?_)
  obtain ⟨zr2, zu2⟩ := h2
  subst r2
  subst u2
  refine z_topv (y := .ref (ad i)) rfl ?_
  refine z_astore_n (L' := [(3, .ref (ad i)), (0, .ref (ad 33)), (1, .int (nI i)), (2, .int (nI i))]) C dX6_rank_5 (by decide) rfl ?_
  refine z_aload_n C dX6_rank_6 1 rfl ?_
  refine z_iload_n C dX6_rank_7 3 rfl ?_
  refine z_callVq xX_ok C hml hown hts hK hX (c_X6_ruleAt l D ad cI cL cR hI u n B hR i hi) (cwV 1 hts gX6_rank_X6_ruleAt rfl rfl rfl (by decide +kernel) ⟨Nat.le_of_ble_eq_true rfl, Nat.le_of_ble_eq_true rfl⟩) (by decide) (ci := 6) rfl rfl rfl (st := []) rfl (Nat.le_of_ble_eq_true rfl) dX6_rank_8 ⟨Nat.le_of_ble_eq_true rfl, Nat.le_of_ble_eq_true rfl⟩ (fun r8 u8 h8 => ?_)
  obtain ⟨zr8, zu8⟩ := h8
  subst r8
  subst u8
  refine z_topv (y := .ref (ad i)) rfl ?_
  refine z_astore (L' := [(4, .ref (ad i)), (3, .ref (ad i)), (0, .ref (ad 33)), (1, .int (nI i)), (2, .int (nI i))]) C dX6_rank_11 (by decide) rfl ?_
  refine z_iload_n C dX6_rank_13 3 rfl ?_
  refine z_iload_n C dX6_rank_14 4 rfl ?_
  refine z_icmp_eq (tgt := 27) C dX6_rank_15 (by decide) (fun zc15 => ?_) (fun zc15 => ?_)
  · skip
    have zn15 := zeq_t (a := i) (b := i) (by omega) (by omega) zc15
    exact z_throwS C hst0 hml (ik := 105) (is := 107) (ic := 109) (cls := eIA) (text := "no rule can be above itself") hown hX (fun w h => xTw_b h) (by decide +kernel) (by decide +kernel) htab hlocks hQ (Nat.le_of_ble_eq_true rfl) (Nat.le_of_ble_eq_true rfl) ⟨Nat.le_of_ble_eq_true rfl, Nat.le_of_ble_eq_true rfl⟩ ⟨Nat.le_of_ble_eq_true rfl, Nat.le_of_ble_eq_true rfl⟩ dX6_rank_27 dX6_rank_30 dX6_rank_31 dX6_rank_33 dX6_rank_36 (fun t9 h1 h2 => ⟨u, rfl, ⟨rfl, h1⟩, h2⟩)
  · skip
    have zn15 := zeq_f (a := i) (b := i) zc15
    exact False.elim (by omega)

set_option maxHeartbeats 4000000 in
set_option maxRecDepth 100000 in
theorem c_X6_rank_x4 (l : Launch) (hst0 : l.stackTraces = false) (D : va_G) (ad : Nat → Nat) (cI cL cR : ClassId) (hI : gI 34 ad) (u : xS) (n : Nat) (B : Nat → Nat → Nat) (hR : xR u n B) (i : Nat) (hi : i < n) (j : Nat) (hj : j < n) (hij : ¬ i = j) (hno : (B j 5).testBit i = true) : ∀ sz, vx_Met l yX6_rank wsX6_rank ({ frames := 7, cells := 1, slots := 6, locals := 112 }) (XP D ad cI cL cR u [.ref (ad 33), .int (nI i), .int (nI j)] sz) QN (XE D ad cI cL cR eIA u sz) 1 6 (gA 34 ad sz) := by
  intro sz
  refine z_metX (cc := cX6_rank) (maxL := 6) (ret := (some .boolean)) (by decide) rfl (Nat.le_of_ble_eq_true rfl) ?_
  intro pq lq sq mq aq Qq bq hmq cq C hr hml hown hts hlocks hK hX htab hsz hQ
  subst hsz
  refine z_sub (L' := [(0, .ref (ad 33)), (1, .int (nI i)), (2, .int (nI j))]) [0, 1, 2] rfl ?_
  have hi8 : i < 8 := Nat.lt_of_lt_of_le hi hR.1.1
  have hj8 : j < 8 := Nat.lt_of_lt_of_le hj hR.1.1
  refine z_aload_n C dX6_rank_0 0 rfl ?_
  refine z_iload_n C dX6_rank_1 1 rfl ?_
  refine z_callVq xX_ok C hml hown hts hK hX (c_X6_ruleAt l D ad cI cL cR hI u n B hR i hi) (cwV 1 hts gX6_rank_X6_ruleAt rfl rfl rfl (by decide +kernel) ⟨Nat.le_of_ble_eq_true rfl, Nat.le_of_ble_eq_true rfl⟩) (by decide) (ci := 6) rfl rfl rfl (st := []) rfl (Nat.le_of_ble_eq_true rfl) dX6_rank_2 ⟨Nat.le_of_ble_eq_true rfl, Nat.le_of_ble_eq_true rfl⟩ (fun r2 u2 h2 => ?_)
  obtain ⟨zr2, zu2⟩ := h2
  subst r2
  subst u2
  refine z_topv (y := .ref (ad i)) rfl ?_
  refine z_astore_n (L' := [(3, .ref (ad i)), (0, .ref (ad 33)), (1, .int (nI i)), (2, .int (nI j))]) C dX6_rank_5 (by decide) rfl ?_
  refine z_aload_n C dX6_rank_6 1 rfl ?_
  refine z_iload_n C dX6_rank_7 3 rfl ?_
  refine z_callVq xX_ok C hml hown hts hK hX (c_X6_ruleAt l D ad cI cL cR hI u n B hR j hj) (cwV 1 hts gX6_rank_X6_ruleAt rfl rfl rfl (by decide +kernel) ⟨Nat.le_of_ble_eq_true rfl, Nat.le_of_ble_eq_true rfl⟩) (by decide) (ci := 6) rfl rfl rfl (st := []) rfl (Nat.le_of_ble_eq_true rfl) dX6_rank_8 ⟨Nat.le_of_ble_eq_true rfl, Nat.le_of_ble_eq_true rfl⟩ (fun r8 u8 h8 => ?_)
  obtain ⟨zr8, zu8⟩ := h8
  subst r8
  subst u8
  refine z_topv (y := .ref (ad j)) rfl ?_
  refine z_astore (L' := [(4, .ref (ad j)), (3, .ref (ad i)), (0, .ref (ad 33)), (1, .int (nI i)), (2, .int (nI j))]) C dX6_rank_11 (by decide) rfl ?_
  refine z_iload_n C dX6_rank_13 3 rfl ?_
  refine z_iload_n C dX6_rank_14 4 rfl ?_
  refine z_icmp_eq (tgt := 27) C dX6_rank_15 (by decide) (fun zc15 => ?_) (fun zc15 => ?_)
  · skip
    have zn15 := zeq_t (a := i) (b := j) (by omega) (by omega) zc15
    exact False.elim (by omega)
  · skip
    have zn15 := zeq_f (a := i) (b := j) zc15
    refine z_aload C dX6_rank_18 0 rfl ?_
    refine z_aload_n C dX6_rank_20 1 rfl ?_
    refine z_callVi xX_ok C hml hown hts hK hX (c_X4_isOver l D ad cI cL cR hI u n B hR j hj8 i hi8) (cwV 1 hts gX6_rank_X4_isOver rfl rfl rfl (by decide +kernel) ⟨Nat.le_of_ble_eq_true rfl, Nat.le_of_ble_eq_true rfl⟩) (by omega) (ci := 4) (xF_r hj8) rfl rfl (st := []) rfl (Nat.le_of_ble_eq_true rfl) dX6_rank_21 ⟨Nat.le_of_ble_eq_true rfl, Nat.le_of_ble_eq_true rfl⟩ (fun r21 u21 h21 => ?_)
    obtain ⟨zr21, zu21⟩ := h21
    subst r21
    subst u21
    refine z_topi (y := nI 1) (by rw [if_pos hno]; rfl) ?_
    refine z_if_eq (tgt := 37) C dX6_rank_24 (by decide) (fun zc24 => ?_) (fun zc24 => ?_)
    · skip
      have zn24 := z0_t (by omega) zc24
      exact absurd zn24 (by decide)
    · skip
      have zn24 := z0_f zc24
      exact z_throwS C hst0 hml (ik := 105) (is := 107) (ic := 109) (cls := eIA) (text := "no rule can be above itself") hown hX (fun w h => xTw_b h) (by decide +kernel) (by decide +kernel) htab hlocks hQ (Nat.le_of_ble_eq_true rfl) (Nat.le_of_ble_eq_true rfl) ⟨Nat.le_of_ble_eq_true rfl, Nat.le_of_ble_eq_true rfl⟩ ⟨Nat.le_of_ble_eq_true rfl, Nat.le_of_ble_eq_true rfl⟩ dX6_rank_27 dX6_rank_30 dX6_rank_31 dX6_rank_33 dX6_rank_36 (fun t9 h1 h2 => ⟨u, rfl, ⟨rfl, h1⟩, h2⟩)

set_option maxHeartbeats 4000000 in
set_option maxRecDepth 100000 in
theorem c_X6_put (l : Launch) (D : va_G) (ad : Nat → Nat) (cI cL cR : ClassId) (hI : gI 34 ad) (u : xS) (f : Nat) (hf : f < 64) (x : Nat) (hx : x < 16384) (h3 : u.1 33 3 = nI x) : ∀ sz, Met l yX6_put wsX6_put ({ frames := 7, cells := 0, slots := 0, locals := 110 }) (XP D ad cI cL cR u [.ref (ad 33), .int (nI f)] sz) (va_Qi (fun r_ u' => r_ = nI (x % 64) ∧ u' = (xs (xs u 21 8 (nI 0)) 33 3 (nI f))) (XB D ad cI cL cR) (gA 34 ad sz)) 0 0 (gA 34 ad sz) := by
  intro sz
  refine z_met (cc := cX6_put) (maxL := 3) (ret := (some .int)) (by decide) rfl (Nat.le_of_ble_eq_true rfl) ?_
  intro pq lq sq mq aq Qq bq hmq cq C hr hml hown hts hlocks hK hX hsz hQ
  subst hsz
  have hT6 : ∀ w ∈ wsX60, w.before aq sq = true := fun w h => hts w ((by decide +kernel : ∀ w ∈ wsX60, w ∈ wsX6_put) w h)
  refine z_sub (L' := [(0, .ref (ad 33)), (1, .int (nI f))]) [0, 1] rfl ?_
  refine z_iload_n C dX6_put_0 1 rfl ?_
  refine z_callSv xX_ok C hml hown hts hK hX (c_X6_needFactSet l D ad cI cL cR hI u f hf) (va_cwS 1 hts gX6_put_X6_needFactSet rfl rfl rfl (by decide +kernel) ⟨Nat.le_of_ble_eq_true rfl, Nat.le_of_ble_eq_true rfl⟩) rfl (st := []) rfl (Nat.le_of_ble_eq_true rfl) dX6_put_1 ⟨Nat.le_of_ble_eq_true rfl, Nat.le_of_ble_eq_true rfl⟩ (fun u1 h1 => ?_)
  subst u1
  refine z_aload_n C dX6_put_4 0 rfl ?_
  refine z_get (q := 33) C (T := TX6) (N := 4) (ci := 6) (own := RX6) (index := 84) (v := .int (u.1 33 3)) hT6 hown hK (by decide) rfl rfl 3 (by decide) (hts (.fieldLink RX6 84 "TriggerAnalyzer" "present" "I") (by decide +kernel)) (fun _ h9 => h9) rfl dX6_put_5 ?_
  refine z_topi (y := nI x) (h3) ?_
  refine z_callSi xX_ok C hml hown hts hK hX (c_X6_factsIn l D ad cI cL cR hI u x) (va_cwS 1 hts gX6_put_X6_factsIn rfl rfl rfl (by decide +kernel) ⟨Nat.le_of_ble_eq_true rfl, Nat.le_of_ble_eq_true rfl⟩) rfl (st := []) rfl (Nat.le_of_ble_eq_true rfl) dX6_put_8 ⟨Nat.le_of_ble_eq_true rfl, Nat.le_of_ble_eq_true rfl⟩ (fun r8 u8 h8 => ?_)
  obtain ⟨zr8, zu8⟩ := h8
  subst r8
  subst u8
  refine z_istore_n (L' := [(2, .int (nI (x % 64))), (0, .ref (ad 33)), (1, .int (nI f))]) C dX6_put_11 (by decide) rfl ?_
  refine z_aload_n C dX6_put_12 1 rfl ?_
  refine z_get (q := 33) C (T := TX6) (N := 4) (ci := 6) (own := RX6) (index := 28) (v := .ref (ad 21)) hT6 hown hK (by decide) rfl rfl 2 (by decide) (hts (.fieldLink RX6 28 "TriggerAnalyzer" "exploration" "LTriggerAnalyzer$Exploration;") (by decide +kernel)) (fun _ h9 => h9) rfl dX6_put_13 ?_
  refine z_callVv xX_ok C hml hown hts hK hX (c_X1_forget l D ad cI cL cR hI u) (cwV 0 hts gX6_put_X1_forget rfl rfl rfl (by decide +kernel) ⟨Nat.le_of_ble_eq_true rfl, Nat.le_of_ble_eq_true rfl⟩) (by decide) (ci := 1) rfl rfl rfl (st := []) rfl (Nat.le_of_ble_eq_true rfl) dX6_put_16 ⟨Nat.le_of_ble_eq_true rfl, Nat.le_of_ble_eq_true rfl⟩ (fun u16 h16 => ?_)
  subst u16
  refine z_aload_n C dX6_put_19 1 rfl ?_
  refine z_iload_n C dX6_put_20 2 rfl ?_
  refine z_iconst (v := nI 0) C (by decide) dX6_put_21 ?_
  refine z_callSi xX_ok C hml hown hts hK hX (c_X6_situationOf l D ad cI cL cR hI (xs u 21 8 (nI 0)) f 0 hf (by decide)) (va_cwS 2 hts gX6_put_X6_situationOf rfl rfl rfl (by decide +kernel) ⟨Nat.le_of_ble_eq_true rfl, Nat.le_of_ble_eq_true rfl⟩) rfl (st := [.ref (ad 33)]) rfl (Nat.le_of_ble_eq_true rfl) dX6_put_22 ⟨Nat.le_of_ble_eq_true rfl, Nat.le_of_ble_eq_true rfl⟩ (fun r22 u22 h22 => ?_)
  obtain ⟨zr22, zu22⟩ := h22
  subst r22
  subst u22
  refine z_topi (y := nI f) (by rw [Nat.mul_zero, Nat.zero_add]) ?_
  refine z_put (q := 33) C hI tyX6 (T := TX6) (N := 4) (ci := 6) (own := RX6) (index := 84) hT6 hown hK (by decide) rfl rfl 3 (by decide) (hts (.fieldLink RX6 84 "TriggerAnalyzer" "present" "I") (by decide +kernel)) (fun _ h9 => h9) tyX6_ok nmX6 rfl rfl rfl (Nat.le_of_ble_eq_true rfl) (f' := xF ad cI cL cR ((xs (xs u 21 8 (nI 0)) 33 3 (nI f)))) rfl xF_ne dX6_put_25 ?_
  refine z_iload_n C dX6_put_28 0 rfl ?_
  exact z_iret C hr hlocks hQ ((xs (xs u 21 8 (nI 0)) 33 3 (nI f))) (⟨rfl, rfl⟩) (fun _ _ => rfl) dX6_put_29

set_option maxHeartbeats 4000000 in
set_option maxRecDepth 100000 in
theorem c_X6_change (l : Launch) (D : va_G) (ad : Nat → Nat) (cI cL cR : ClassId) (hI : gI 34 ad) (u : xS) (n : Nat) (B : Nat → Nat → Nat) (hR : xR u n B) (x : Nat) (hx : x < 16384) (h3 : u.1 33 3 = nI x) (k : Nat) (hk : k < 6) (b : Nat) (hb : b ≤ 1) : ∀ sz, Met l yX6_change wsX6_change ({ frames := 7, cells := 0, slots := 0, locals := 110 }) (XP D ad cI cL cR u [.ref (ad 33), .int (nI k), .int (nI b)] sz) (va_Qi (fun r_ u' => r_ = nI ((chg B x (2 * k + b)) / 64) ∧ u' = (xs (xs u 21 8 (nI 0)) 33 3 (nI (chg B x (2 * k + b))))) (XB D ad cI cL cR) (gA 34 ad sz)) 0 0 (gA 34 ad sz) := by
  intro sz
  refine z_met (cc := cX6_change) (maxL := 3) (ret := (some .int)) (by decide) rfl (Nat.le_of_ble_eq_true rfl) ?_
  intro pq lq sq mq aq Qq bq hmq cq C hr hml hown hts hlocks hK hX hsz hQ
  subst hsz
  have hT6 : ∀ w ∈ wsX60, w.before aq sq = true := fun w h => hts w ((by decide +kernel : ∀ w ∈ wsX60, w ∈ wsX6_change) w h)
  refine z_sub (L' := [(0, .ref (ad 33)), (1, .int (nI k)), (2, .int (nI b))]) [0, 1, 2] rfl ?_
  refine z_iload_n C dX6_change_0 1 rfl ?_
  refine z_callSv xX_ok C hml hown hts hK hX (c_X6_needFact l D ad cI cL cR hI u k hk) (va_cwS 1 hts gX6_change_X6_needFact rfl rfl rfl (by decide +kernel) ⟨Nat.le_of_ble_eq_true rfl, Nat.le_of_ble_eq_true rfl⟩) rfl (st := []) rfl (Nat.le_of_ble_eq_true rfl) dX6_change_1 ⟨Nat.le_of_ble_eq_true rfl, Nat.le_of_ble_eq_true rfl⟩ (fun u1 h1 => ?_)
  subst u1
  refine z_aload_n C dX6_change_4 0 rfl ?_
  refine z_get (q := 33) C (T := TX6) (N := 4) (ci := 6) (own := RX6) (index := 28) (v := .ref (ad 21)) hT6 hown hK (by decide) rfl rfl 2 (by decide) (hts (.fieldLink RX6 28 "TriggerAnalyzer" "exploration" "LTriggerAnalyzer$Exploration;") (by decide +kernel)) (fun _ h9 => h9) rfl dX6_change_5 ?_
  refine z_callVv xX_ok C hml hown hts hK hX (c_X1_forget l D ad cI cL cR hI u) (cwV 0 hts gX6_change_X1_forget rfl rfl rfl (by decide +kernel) ⟨Nat.le_of_ble_eq_true rfl, Nat.le_of_ble_eq_true rfl⟩) (by decide) (ci := 1) rfl rfl rfl (st := []) rfl (Nat.le_of_ble_eq_true rfl) dX6_change_8 ⟨Nat.le_of_ble_eq_true rfl, Nat.le_of_ble_eq_true rfl⟩ (fun u8 h8 => ?_)
  subst u8
  refine z_aload_n C dX6_change_11 0 rfl ?_
  refine z_aload_n C dX6_change_12 0 rfl ?_
  refine z_get (q := 33) C (T := TX6) (N := 4) (ci := 6) (own := RX6) (index := 10) (v := .ref (ad 16)) hT6 hown hK (by decide) rfl rfl 0 (by decide) (hts (.fieldLink RX6 10 "TriggerAnalyzer" "book" "LTriggerAnalyzer$RuleBook;") (by decide +kernel)) (fun _ h9 => h9) rfl dX6_change_13 ?_
  refine z_aload_n C dX6_change_16 0 rfl ?_
  refine z_get (q := 33) C (T := TX6) (N := 4) (ci := 6) (own := RX6) (index := 84) (v := .int ((xs u 21 8 (nI 0)).1 33 3)) hT6 hown hK (by decide) rfl rfl 3 (by decide) (hts (.fieldLink RX6 84 "TriggerAnalyzer" "present" "I") (by decide +kernel)) (fun _ h9 => h9) rfl dX6_change_17 ?_
  refine z_topi (y := u.1 33 3) (xs_c (by decide) _) ?_
  refine z_topi (y := nI x) (h3) ?_
  refine z_iload_n C dX6_change_20 1 rfl ?_
  refine z_iload_n C dX6_change_21 2 rfl ?_
  refine z_callSi xX_ok C hml hown hts hK hX (c_X6_changeCode l D ad cI cL cR hI (xs u 21 8 (nI 0)) k (nI b)) (va_cwS 2 hts gX6_change_X6_changeCode rfl rfl rfl (by decide +kernel) ⟨Nat.le_of_ble_eq_true rfl, Nat.le_of_ble_eq_true rfl⟩) rfl (st := [.int (nI x), .ref (ad 16), .ref (ad 33)]) rfl (Nat.le_of_ble_eq_true rfl) dX6_change_22 ⟨Nat.le_of_ble_eq_true rfl, Nat.le_of_ble_eq_true rfl⟩ (fun r22 u22 h22 => ?_)
  obtain ⟨zr22, zu22⟩ := h22
  subst r22
  subst u22
  refine z_topi (y := nI (2 * k + b)) (cc_b k hb) ?_
  refine z_callVi xX_ok C hml hown hts hK hX (c_X5_changed l D ad cI cL cR hI (xs u 21 8 (nI 0)) n B (xR_fg hR _) x hx (2 * k + b) (by omega)) (cwV 2 hts gX6_change_X5_changed rfl rfl rfl (by decide +kernel) ⟨Nat.le_of_ble_eq_true rfl, Nat.le_of_ble_eq_true rfl⟩) (by decide) (ci := 5) rfl rfl rfl (st := [.ref (ad 33)]) rfl (Nat.le_of_ble_eq_true rfl) dX6_change_25 ⟨Nat.le_of_ble_eq_true rfl, Nat.le_of_ble_eq_true rfl⟩ (fun r25 u25 h25 => ?_)
  obtain ⟨zr25, zu25⟩ := h25
  subst r25
  subst u25
  refine z_put (q := 33) C hI tyX6 (T := TX6) (N := 4) (ci := 6) (own := RX6) (index := 84) hT6 hown hK (by decide) rfl rfl 3 (by decide) (hts (.fieldLink RX6 84 "TriggerAnalyzer" "present" "I") (by decide +kernel)) (fun _ h9 => h9) tyX6_ok nmX6 rfl rfl rfl (Nat.le_of_ble_eq_true rfl) (f' := xF ad cI cL cR ((xs (xs u 21 8 (nI 0)) 33 3 (nI (chg B x ((2 * k + b))))))) rfl xF_ne dX6_change_28 ?_
  refine z_aload_n C dX6_change_31 0 rfl ?_
  refine z_get (q := 33) C (T := TX6) (N := 4) (ci := 6) (own := RX6) (index := 84) (v := .int ((xs (xs u 21 8 (nI 0)) 33 3 (nI (chg B x ((2 * k + b))))).1 33 3)) hT6 hown hK (by decide) rfl rfl 3 (by decide) (hts (.fieldLink RX6 84 "TriggerAnalyzer" "present" "I") (by decide +kernel)) (fun _ h9 => h9) rfl dX6_change_32 ?_
  refine z_topi (y := nI (chg B x ((2 * k + b)))) (xs_s _ _ _ _) ?_
  refine z_callSi xX_ok C hml hown hts hK hX (c_X6_triggeredIn l D ad cI cL cR hI ((xs (xs u 21 8 (nI 0)) 33 3 (nI (chg B x ((2 * k + b)))))) (chg B x (2 * k + b)) (Nat.lt_trans (chg_lt hx (by omega)) (by decide))) (va_cwS 1 hts gX6_change_X6_triggeredIn rfl rfl rfl (by decide +kernel) ⟨Nat.le_of_ble_eq_true rfl, Nat.le_of_ble_eq_true rfl⟩) rfl (st := []) rfl (Nat.le_of_ble_eq_true rfl) dX6_change_35 ⟨Nat.le_of_ble_eq_true rfl, Nat.le_of_ble_eq_true rfl⟩ (fun r35 u35 h35 => ?_)
  obtain ⟨zr35, zu35⟩ := h35
  subst r35
  subst u35
  exact z_iret C hr hlocks hQ ((xs (xs u 21 8 (nI 0)) 33 3 (nI (chg B x ((2 * k + b)))))) (⟨rfl, rfl⟩) (fun _ _ => rfl) dX6_change_38

