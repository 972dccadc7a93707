set_option maxHeartbeats 4000000 in
set_option maxRecDepth 100000 in
theorem c_X1_choiceShare (l : Launch) (D : va_G) (ad : Nat → Nat) (cI cL cR : ClassId) (hI : gI 34 ad) (u : xS) (c : Nat) (hc0 : 0 < c) (hc : c ≤ 1000) (hn : u.1 21 7 = nI c) (d : Nat) (hd : u.1 21 11 = nI d) (hnn : vf_n64 (FP.ddiv (FP.i2d (nI d)) (FP.i2d (nI c)))) : ∀ sz, Met l yX1_choiceShare wsX1_choiceShare ({ frames := 0, cells := 0, slots := 0, locals := 0 }) (XP D ad cI cL cR u [.ref (ad 21)] sz) (va_Qd (fun r_ u' => r_ = FP.ddiv (FP.i2d (nI d)) (FP.i2d (nI c)) ∧ u' = u) (XB D ad cI cL cR) (gA 34 ad sz)) 0 0 (gA 34 ad sz) := by
  intro sz
  refine z_met (cc := cX1_choiceShare) (maxL := 1) (ret := (some .double)) (by decide) rfl (Nat.le_of_ble_eq_true rfl) ?_
  intro pq lq sq mq aq Qq bq hmq cq C hr hml hown hts hlocks hK hX hsz hQ
  subst hsz
  have hT1 : ∀ w ∈ wsX10, w.before aq sq = true := fun w h => hts w ((by decide +kernel : ∀ w ∈ wsX10, w ∈ wsX1_choiceShare) w h)
  refine z_sub (L' := [(0, .ref (ad 21))]) [0] rfl ?_
  refine z_aload_n C dX1_choiceShare_0 0 rfl ?_
  refine z_get (q := 21) C (T := TX1) (N := 12) (ci := 1) (own := RX1) (index := 49) (v := .int (u.1 21 7)) hT1 hown hK (by decide) rfl rfl 7 (by decide) (hts (.fieldLink RX1 49 "TriggerAnalyzer$Exploration" "count" "I") (by decide +kernel)) (fun _ h9 => h9) rfl dX1_choiceShare_1 ?_
  refine z_topi (y := nI c) (hn) ?_
  refine z_if_le (tgt := 21) C dX1_choiceShare_4 (by decide) (fun zc4 => ?_) (fun zc4 => ?_)
  · skip
    have zn4 := zle0_t (by omega) zc4
    exact False.elim (by omega)
  · skip
    have zn4 := zle0_f (by omega) zc4
    refine z_aload_n C dX1_choiceShare_7 0 rfl ?_
    refine z_get (q := 21) C (T := TX1) (N := 12) (ci := 1) (own := RX1) (index := 56) (v := .int (u.1 21 11)) hT1 hown hK (by decide) rfl rfl 11 (by decide) (hts (.fieldLink RX1 56 "TriggerAnalyzer$Exploration" "choices" "I") (by decide +kernel)) (fun _ h9 => h9) rfl dX1_choiceShare_8 ?_
    refine z_topi (y := nI d) (hd) ?_
    refine z_i2d C dX1_choiceShare_11 ?_
    refine z_aload_n C dX1_choiceShare_12 0 rfl ?_
    refine z_get (q := 21) C (T := TX1) (N := 12) (ci := 1) (own := RX1) (index := 49) (v := .int (u.1 21 7)) hT1 hown hK (by decide) rfl rfl 7 (by decide) (hts (.fieldLink RX1 49 "TriggerAnalyzer$Exploration" "count" "I") (by decide +kernel)) (fun _ h9 => h9) rfl dX1_choiceShare_13 ?_
    refine z_topi (y := nI c) (hn) ?_
    refine z_i2d C dX1_choiceShare_16 ?_
    refine z_ddiv C (hnn) dX1_choiceShare_17 ?_
    refine z_goto (tgt := 22) C dX1_choiceShare_18 (by decide) ?_
    exact z_dret C hr hlocks hQ u (⟨rfl, rfl⟩) (fun _ _ => rfl) dX1_choiceShare_22

set_option maxHeartbeats 4000000 in
set_option maxRecDepth 100000 in
theorem c_X6_choice (l : Launch) (D : va_G) (ad : Nat → Nat) (cI cL cR : ClassId) (hI : gI 34 ad) (u : xS) (h8 : ¬ u.1 21 8 = 0) (h9 : u.1 21 9 = 0) (c : Nat) (hc0 : 0 < c) (hc : c ≤ 1000) (hn : u.1 21 7 = nI c) (d : Nat) (hd : u.1 21 11 = nI d) (hnn : vf_n64 (FP.ddiv (FP.i2d (nI d)) (FP.i2d (nI c)))) : ∀ sz, Met l yX6_choice wsX6_choice ({ frames := 7, cells := 0, slots := 0, locals := 110 }) (XP D ad cI cL cR u [.ref (ad 33)] sz) (va_Qd (fun r_ u' => r_ = FP.ddiv (FP.i2d (nI d)) (FP.i2d (nI c)) ∧ u' = u) (XB D ad cI cL cR) (gA 34 ad sz)) 0 0 (gA 34 ad sz) := by
  intro sz
  refine z_met (cc := cX6_choice) (maxL := 1) (ret := (some .double)) (by decide) rfl (Nat.le_of_ble_eq_true rfl) ?_
  intro pq lq sq mq aq Qq bq hmq cq C hr hml hown hts hlocks hK hX hsz hQ
  subst hsz
  have hT6 : ∀ w ∈ wsX60, w.before aq sq = true := fun w h => hts w ((by decide +kernel : ∀ w ∈ wsX60, w ∈ wsX6_choice) w h)
  refine z_sub (L' := [(0, .ref (ad 33))]) [0] rfl ?_
  refine z_aload_n C dX6_choice_0 0 rfl ?_
  refine z_callVv xX_ok C hml hown hts hK hX (c_X6_needExplored l D ad cI cL cR hI u h8 h9) (cwV 0 hts gX6_choice_X6_needExplored rfl rfl rfl (by decide +kernel) ⟨Nat.le_of_ble_eq_true rfl, Nat.le_of_ble_eq_true rfl⟩) (by decide) (ci := 6) rfl rfl rfl (st := []) rfl (Nat.le_of_ble_eq_true rfl) dX6_choice_1 ⟨Nat.le_of_ble_eq_true rfl, Nat.le_of_ble_eq_true rfl⟩ (fun u1 h1 => ?_)
  subst u1
  refine z_aload_n C dX6_choice_4 0 rfl ?_
  refine z_get (q := 33) C (T := TX6) (N := 4) (ci := 6) (own := RX6) (index := 28) (v := .ref (ad 21)) hT6 hown hK (by decide) rfl rfl 2 (by decide) (hts (.fieldLink RX6 28 "TriggerAnalyzer" "exploration" "LTriggerAnalyzer$Exploration;") (by decide +kernel)) (fun _ h9 => h9) rfl dX6_choice_5 ?_
  refine z_callVd xX_ok C hml hown hts hK hX (c_X1_choiceShare l D ad cI cL cR hI u c hc0 hc hn d hd hnn) (cwV 0 hts gX6_choice_X1_choiceShare rfl rfl rfl (by decide +kernel) ⟨Nat.le_of_ble_eq_true rfl, Nat.le_of_ble_eq_true rfl⟩) (by decide) (ci := 1) rfl rfl rfl (st := []) rfl (Nat.le_of_ble_eq_true rfl) dX6_choice_8 ⟨Nat.le_of_ble_eq_true rfl, Nat.le_of_ble_eq_true rfl⟩ (fun r8 u8 h8 => ?_)
  obtain ⟨zr8, zu8⟩ := h8
  subst r8
  subst u8
  exact z_dret C hr hlocks hQ u (⟨rfl, rfl⟩) (fun _ _ => rfl) dX6_choice_11

set_option maxHeartbeats 4000000 in
set_option maxRecDepth 100000 in
theorem c_X6_choice_x (l : Launch) (hst0 : l.stackTraces = false) (D : va_G) (ad : Nat → Nat) (cI cL cR : ClassId) (hI : gI 34 ad) (u : xS) (h8 : u.1 21 8 = 0 ∨ ¬ u.1 21 9 = 0) : ∀ sz, vx_Met l yX6_choice wsX6_choice ({ frames := 7, cells := 1, slots := 6, locals := 110 }) (XP D ad cI cL cR u [.ref (ad 33)] sz) QN (XE D ad cI cL cR eIS u sz) 1 6 (gA 34 ad sz) := by
  intro sz
  refine z_metX (cc := cX6_choice) (maxL := 1) (ret := (some .double)) (by decide) rfl (Nat.le_of_ble_eq_true rfl) ?_
  intro pq lq sq mq aq Qq bq hmq cq C hr hml hown hts hlocks hK hX htab hsz hQ
  subst hsz
  refine z_sub (L' := [(0, .ref (ad 33))]) [0] rfl ?_
  refine z_aload_n C dX6_choice_0 0 rfl ?_
  exact z_outV xX_ok C hml hown hts hK hX (px := fun u9 => u9 = u) (E0 := eIS) (c_X6_needExplored_x l hst0 D ad cI cL cR hI u h8) (cwV 0 hts gX6_choice_X6_needExplored rfl rfl rfl (by decide +kernel) ⟨Nat.le_of_ble_eq_true rfl, Nat.le_of_ble_eq_true rfl⟩) (by decide) (ci := 6) rfl rfl rfl (st := []) rfl (Nat.le_of_ble_eq_true rfl) dX6_choice_1 ⟨Nat.le_of_ble_eq_true rfl, Nat.le_of_ble_eq_true rfl⟩ ⟨Nat.le_of_ble_eq_true rfl, Nat.le_of_ble_eq_true rfl⟩ htab hlocks hQ (fun u9 t9 h0 h1 h2 => by subst h0; exact ⟨_, rfl, ⟨rfl, h1⟩, h2⟩)
