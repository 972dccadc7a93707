set_option maxHeartbeats 4000000 in
set_option maxRecDepth 100000 in
theorem c_X0_clear (l : Launch) (D : va_G) (ad : Nat → Nat) (cI cL cR : ClassId) (hI : gI 34 ad) (u : xS) : ∀ sz, Met l yX0_clear wsX0_clear ({ frames := 0, cells := 0, slots := 0, locals := 0 }) (XP D ad cI cL cR u [.ref (ad 26)] sz) (va_Qv (fun u' => u' = xs (xs u 26 1 (nI 0)) 26 2 (-1)) (XB D ad cI cL cR) (gA 34 ad sz)) 0 0 (gA 34 ad sz) := by
  intro sz
  refine z_met (cc := cX0_clear) (maxL := 1) (ret := none) (by decide) rfl (Nat.le_of_ble_eq_true rfl) ?_
  intro pq lq sq mq aq Qq bq hmq cq C hr hml hown hts hlocks hK hX hsz hQ
  subst hsz
  have hT0 : ∀ w ∈ wsX00, w.before aq sq = true := fun w h => hts w ((by decide +kernel : ∀ w ∈ wsX00, w ∈ wsX0_clear) w h)
  refine z_sub (L' := [(0, .ref (ad 26))]) [0] rfl ?_
  refine z_aload_n C dX0_clear_0 0 rfl ?_
  refine z_iconst (v := nI 0) C (by decide) dX0_clear_1 ?_
  refine z_put (q := 26) C hI tyX0 (T := TX0) (N := 3) (ci := 0) (own := RX0) (index := 19) hT0 hown hK (by decide) rfl rfl 1 (by decide) (hts (.fieldLink RX0 19 "TriggerAnalyzer$Ends" "count" "I") (by decide +kernel)) (fun _ h9 => h9) tyX0_ok nmX0 rfl rfl rfl (Nat.le_of_ble_eq_true rfl) (f' := xF ad cI cL cR ((xs u 26 1 (nI 0)))) rfl xF_ne dX0_clear_2 ?_
  refine z_aload_n C dX0_clear_5 0 rfl ?_
  refine z_iconst (v := (-1)) C (by decide) dX0_clear_6 ?_
  refine z_put (q := 26) C hI tyX0 (T := TX0) (N := 3) (ci := 0) (own := RX0) (index := 15) hT0 hown hK (by decide) rfl rfl 2 (by decide) (hts (.fieldLink RX0 15 "TriggerAnalyzer$Ends" "nearest" "I") (by decide +kernel)) (fun _ h9 => h9) tyX0_ok nmX0 rfl rfl rfl (Nat.le_of_ble_eq_true rfl) (f' := xF ad cI cL cR ((xs ((xs u 26 1 (nI 0))) 26 2 ((-1))))) rfl xF_ne dX0_clear_7 ?_
  exact z_vret C hr hlocks hQ ((xs ((xs u 26 1 (nI 0))) 26 2 ((-1)))) (rfl) (fun _ _ => rfl) dX0_clear_10

set_option maxHeartbeats 4000000 in
set_option maxRecDepth 100000 in
theorem c_X0_size (l : Launch) (D : va_G) (ad : Nat → Nat) (cI cL cR : ClassId) (hI : gI 34 ad) (u : xS) : ∀ sz, Met l yX0_size wsX0_size ({ frames := 0, cells := 0, slots := 0, locals := 0 }) (XP D ad cI cL cR u [.ref (ad 26)] sz) (va_Qi (fun r_ u' => r_ = u.1 26 1 ∧ u' = u) (XB D ad cI cL cR) (gA 34 ad sz)) 0 0 (gA 34 ad sz) := by
  intro sz
  refine z_met (cc := cX0_size) (maxL := 1) (ret := (some .int)) (by decide) rfl (Nat.le_of_ble_eq_true rfl) ?_
  intro pq lq sq mq aq Qq bq hmq cq C hr hml hown hts hlocks hK hX hsz hQ
  subst hsz
  have hT0 : ∀ w ∈ wsX00, w.before aq sq = true := fun w h => hts w ((by decide +kernel : ∀ w ∈ wsX00, w ∈ wsX0_size) w h)
  refine z_sub (L' := [(0, .ref (ad 26))]) [0] rfl ?_
  refine z_aload_n C dX0_size_0 0 rfl ?_
  refine z_get (q := 26) C (T := TX0) (N := 3) (ci := 0) (own := RX0) (index := 19) (v := .int (u.1 26 1)) hT0 hown hK (by decide) rfl rfl 1 (by decide) (hts (.fieldLink RX0 19 "TriggerAnalyzer$Ends" "count" "I") (by decide +kernel)) (fun _ h9 => h9) rfl dX0_size_1 ?_
  exact z_iret C hr hlocks hQ u (⟨rfl, rfl⟩) (fun _ _ => rfl) dX0_size_4

set_option maxHeartbeats 4000000 in
set_option maxRecDepth 100000 in
theorem c_X0_firstDepth (l : Launch) (D : va_G) (ad : Nat → Nat) (cI cL cR : ClassId) (hI : gI 34 ad) (u : xS) : ∀ sz, Met l yX0_firstDepth wsX0_firstDepth ({ frames := 0, cells := 0, slots := 0, locals := 0 }) (XP D ad cI cL cR u [.ref (ad 26)] sz) (va_Qi (fun r_ u' => r_ = u.1 26 2 ∧ u' = u) (XB D ad cI cL cR) (gA 34 ad sz)) 0 0 (gA 34 ad sz) := by
  intro sz
  refine z_met (cc := cX0_firstDepth) (maxL := 1) (ret := (some .int)) (by decide) rfl (Nat.le_of_ble_eq_true rfl) ?_
  intro pq lq sq mq aq Qq bq hmq cq C hr hml hown hts hlocks hK hX hsz hQ
  subst hsz
  have hT0 : ∀ w ∈ wsX00, w.before aq sq = true := fun w h => hts w ((by decide +kernel : ∀ w ∈ wsX00, w ∈ wsX0_firstDepth) w h)
  refine z_sub (L' := [(0, .ref (ad 26))]) [0] rfl ?_
  refine z_aload_n C dX0_firstDepth_0 0 rfl ?_
  refine z_get (q := 26) C (T := TX0) (N := 3) (ci := 0) (own := RX0) (index := 15) (v := .int (u.1 26 2)) hT0 hown hK (by decide) rfl rfl 2 (by decide) (hts (.fieldLink RX0 15 "TriggerAnalyzer$Ends" "nearest" "I") (by decide +kernel)) (fun _ h9 => h9) rfl dX0_firstDepth_1 ?_
  exact z_iret C hr hlocks hQ u (⟨rfl, rfl⟩) (fun _ _ => rfl) dX0_firstDepth_4

set_option maxHeartbeats 4000000 in
set_option maxRecDepth 100000 in
theorem c_X0_append (l : Launch) (D : va_G) (ad : Nat → Nat) (cI cL cR : ClassId) (hI : gI 34 ad) (u : xS) (c : Nat) (hc : c < 64) (hn : u.1 26 1 = nI c) (f d : Int32) : ∀ sz, Met l yX0_append wsX0_append ({ frames := 0, cells := 0, slots := 0, locals := 0 }) (XP D ad cI cL cR u [.ref (ad 26), .int (f), .int (d)] sz) (va_Qv (fun u' => u' = (if c = 0 then xs (xs (xs u 26 2 d) 27 c f) 26 1 (nI (c + 1)) else xs (xs u 27 c f) 26 1 (nI (c + 1)))) (XB D ad cI cL cR) (gA 34 ad sz)) 0 0 (gA 34 ad sz) := by
  intro sz
  refine z_met (cc := cX0_append) (maxL := 3) (ret := none) (by decide) rfl (Nat.le_of_ble_eq_true rfl) ?_
  intro pq lq sq mq aq Qq bq hmq cq C hr hml hown hts hlocks hK hX hsz hQ
  subst hsz
  have hT0 : ∀ w ∈ wsX00, w.before aq sq = true := fun w h => hts w ((by decide +kernel : ∀ w ∈ wsX00, w ∈ wsX0_append) w h)
  refine z_sub (L' := [(0, .ref (ad 26)), (1, .int (f)), (2, .int (d))]) [0, 1, 2] rfl ?_
  refine z_aload_n C dX0_append_0 0 rfl ?_
  refine z_get (q := 26) C (T := TX0) (N := 3) (ci := 0) (own := RX0) (index := 19) (v := .int (u.1 26 1)) hT0 hown hK (by decide) rfl rfl 1 (by decide) (hts (.fieldLink RX0 19 "TriggerAnalyzer$Ends" "count" "I") (by decide +kernel)) (fun _ h9 => h9) rfl dX0_append_1 ?_
  refine z_topi (y := nI c) (hn) ?_
  refine z_if_lt (tgt := 19) C dX0_append_4 (by decide) (fun zc4 => ?_) (fun zc4 => ?_)
  · skip
    exact (zneg (by omega) zc4).elim
  · skip
    refine z_aload_n C dX0_append_7 0 rfl ?_
    refine z_get (q := 26) C (T := TX0) (N := 3) (ci := 0) (own := RX0) (index := 19) (v := .int (u.1 26 1)) hT0 hown hK (by decide) rfl rfl 1 (by decide) (hts (.fieldLink RX0 19 "TriggerAnalyzer$Ends" "count" "I") (by decide +kernel)) (fun _ h9 => h9) rfl dX0_append_8 ?_
    refine z_topi (y := nI c) (hn) ?_
    refine z_aload_n C dX0_append_11 0 rfl ?_
    refine z_get (q := 26) C (T := TX0) (N := 3) (ci := 0) (own := RX0) (index := 9) (v := .ref (ad 27)) hT0 hown hK (by decide) rfl rfl 0 (by decide) (hts (.fieldLink RX0 9 "TriggerAnalyzer$Ends" "facts" "[I") (by decide +kernel)) (fun _ h9 => h9) rfl dX0_append_12 ?_
    refine z_alen (q := 27) (len := 64) C hK (by decide) rfl 0 rfl (v := nI 64) (by decide) dX0_append_15 ?_
    refine z_icmp_lt (tgt := 20) C dX0_append_16 (by decide) (fun zc16 => ?_) (fun zc16 => ?_)
    · skip
      have zn16 := zlt_t (a := c) (b := 64) (by omega) (by omega) zc16
      refine z_aload_n C dX0_append_20 0 rfl ?_
      refine z_get (q := 26) C (T := TX0) (N := 3) (ci := 0) (own := RX0) (index := 19) (v := .int (u.1 26 1)) hT0 hown hK (by decide) rfl rfl 1 (by decide) (hts (.fieldLink RX0 19 "TriggerAnalyzer$Ends" "count" "I") (by decide +kernel)) (fun _ h9 => h9) rfl dX0_append_21 ?_
      refine z_topi (y := nI c) (hn) ?_
      refine z_if_ne (tgt := 32) C dX0_append_24 (by decide) (fun zc24 => ?_) (fun zc24 => ?_)
      · skip
        have zn24 := z0_f zc24
        refine z_aload_n C dX0_append_32 0 rfl ?_
        refine z_get (q := 26) C (T := TX0) (N := 3) (ci := 0) (own := RX0) (index := 9) (v := .ref (ad 27)) hT0 hown hK (by decide) rfl rfl 0 (by decide) (hts (.fieldLink RX0 9 "TriggerAnalyzer$Ends" "facts" "[I") (by decide +kernel)) (fun _ h9 => h9) rfl dX0_append_33 ?_
        refine z_aload_n C dX0_append_36 0 rfl ?_
        refine z_get (q := 26) C (T := TX0) (N := 3) (ci := 0) (own := RX0) (index := 19) (v := .int (u.1 26 1)) hT0 hown hK (by decide) rfl rfl 1 (by decide) (hts (.fieldLink RX0 19 "TriggerAnalyzer$Ends" "count" "I") (by decide +kernel)) (fun _ h9 => h9) rfl dX0_append_37 ?_
        refine z_topi (y := nI c) (hn) ?_
        refine z_iload_n C dX0_append_40 1 rfl ?_
        refine z_iast (q := 27) (len := 64) (k := c) C hI hK (by decide) rfl 0 rfl (rfl) (by omega) (by decide) (f' := xF ad cI cL cR ((xs u 27 c (f)))) rfl xF_ne dX0_append_41 ?_
        refine z_aload_n C dX0_append_42 0 rfl ?_
        refine z_dup C rfl dX0_append_43 ?_
        refine z_get (q := 26) C (T := TX0) (N := 3) (ci := 0) (own := RX0) (index := 19) (v := .int ((xs u 27 c (f)).1 26 1)) hT0 hown hK (by decide) rfl rfl 1 (by decide) (hts (.fieldLink RX0 19 "TriggerAnalyzer$Ends" "count" "I") (by decide +kernel)) (fun _ h9 => h9) rfl dX0_append_44 ?_
        refine z_topi (y := u.1 26 1) (xs_c (by decide) _) ?_
        refine z_topi (y := nI c) (hn) ?_
        refine z_iconst (v := nI 1) C (by decide) dX0_append_47 ?_
        refine z_iadd C dX0_append_48 ?_
        refine z_topi (y := nI (c + 1)) (nI_add c 1) ?_
        refine z_put (q := 26) C hI tyX0 (T := TX0) (N := 3) (ci := 0) (own := RX0) (index := 19) hT0 hown hK (by decide) rfl rfl 1 (by decide) (hts (.fieldLink RX0 19 "TriggerAnalyzer$Ends" "count" "I") (by decide +kernel)) (fun _ h9 => h9) tyX0_ok nmX0 rfl rfl rfl (Nat.le_of_ble_eq_true rfl) (f' := xF ad cI cL cR ((xs ((xs u 27 c (f))) 26 1 (nI (c + 1))))) rfl xF_ne dX0_append_49 ?_
        exact z_vret C hr hlocks hQ ((xs ((xs u 27 c (f))) 26 1 (nI (c + 1)))) (by rw [if_neg zn24]) (fun _ _ => rfl) dX0_append_52
      · skip
        have zn24 := z0_t (by omega) zc24
        refine z_aload_n C dX0_append_27 0 rfl ?_
        refine z_iload_n C dX0_append_28 2 rfl ?_
        refine z_put (q := 26) C hI tyX0 (T := TX0) (N := 3) (ci := 0) (own := RX0) (index := 15) hT0 hown hK (by decide) rfl rfl 2 (by decide) (hts (.fieldLink RX0 15 "TriggerAnalyzer$Ends" "nearest" "I") (by decide +kernel)) (fun _ h9 => h9) tyX0_ok nmX0 rfl rfl rfl (Nat.le_of_ble_eq_true rfl) (f' := xF ad cI cL cR ((xs u 26 2 (d)))) rfl xF_ne dX0_append_29 ?_
        refine z_aload_n C dX0_append_32 0 rfl ?_
        refine z_get (q := 26) C (T := TX0) (N := 3) (ci := 0) (own := RX0) (index := 9) (v := .ref (ad 27)) hT0 hown hK (by decide) rfl rfl 0 (by decide) (hts (.fieldLink RX0 9 "TriggerAnalyzer$Ends" "facts" "[I") (by decide +kernel)) (fun _ h9 => h9) rfl dX0_append_33 ?_
        refine z_aload_n C dX0_append_36 0 rfl ?_
        refine z_get (q := 26) C (T := TX0) (N := 3) (ci := 0) (own := RX0) (index := 19) (v := .int ((xs u 26 2 (d)).1 26 1)) hT0 hown hK (by decide) rfl rfl 1 (by decide) (hts (.fieldLink RX0 19 "TriggerAnalyzer$Ends" "count" "I") (by decide +kernel)) (fun _ h9 => h9) rfl dX0_append_37 ?_
        refine z_topi (y := u.1 26 1) (xs_j (by decide)) ?_
        refine z_topi (y := nI c) (hn) ?_
        refine z_iload_n C dX0_append_40 1 rfl ?_
        refine z_iast (q := 27) (len := 64) (k := c) C hI hK (by decide) rfl 0 rfl (rfl) (by omega) (by decide) (f' := xF ad cI cL cR ((xs ((xs u 26 2 (d))) 27 c (f)))) rfl xF_ne dX0_append_41 ?_
        refine z_aload_n C dX0_append_42 0 rfl ?_
        refine z_dup C rfl dX0_append_43 ?_
        refine z_get (q := 26) C (T := TX0) (N := 3) (ci := 0) (own := RX0) (index := 19) (v := .int ((xs ((xs u 26 2 (d))) 27 c (f)).1 26 1)) hT0 hown hK (by decide) rfl rfl 1 (by decide) (hts (.fieldLink RX0 19 "TriggerAnalyzer$Ends" "count" "I") (by decide +kernel)) (fun _ h9 => h9) rfl dX0_append_44 ?_
        refine z_topi (y := u.1 26 1) ((xs_c (by decide) _).trans (xs_j (by decide))) ?_
        refine z_topi (y := nI c) (hn) ?_
        refine z_iconst (v := nI 1) C (by decide) dX0_append_47 ?_
        refine z_iadd C dX0_append_48 ?_
        refine z_topi (y := nI (c + 1)) (nI_add c 1) ?_
        refine z_put (q := 26) C hI tyX0 (T := TX0) (N := 3) (ci := 0) (own := RX0) (index := 19) hT0 hown hK (by decide) rfl rfl 1 (by decide) (hts (.fieldLink RX0 19 "TriggerAnalyzer$Ends" "count" "I") (by decide +kernel)) (fun _ h9 => h9) tyX0_ok nmX0 rfl rfl rfl (Nat.le_of_ble_eq_true rfl) (f' := xF ad cI cL cR ((xs ((xs ((xs u 26 2 (d))) 27 c (f))) 26 1 (nI (c + 1))))) rfl xF_ne dX0_append_49 ?_
        exact z_vret C hr hlocks hQ ((xs ((xs ((xs u 26 2 (d))) 27 c (f))) 26 1 (nI (c + 1)))) (by rw [if_pos zn24]) (fun _ _ => rfl) dX0_append_52
    · skip
      have zn16 := zlt_f (a := c) (b := 64) (by omega) (by omega) zc16
      exact False.elim (by omega)

set_option maxHeartbeats 4000000 in
set_option maxRecDepth 100000 in
theorem c_X1_isDone (l : Launch) (D : va_G) (ad : Nat → Nat) (cI cL cR : ClassId) (hI : gI 34 ad) (u : xS) (hb : u.1 21 8 = 0 ∨ u.1 21 8 = 1) : ∀ sz, Met l yX1_isDone wsX1_isDone ({ frames := 0, cells := 0, slots := 0, locals := 0 }) (XP D ad cI cL cR u [.ref (ad 21)] sz) (va_Qi (fun r_ u' => r_ = u.1 21 8 ∧ u' = u) (XB D ad cI cL cR) (gA 34 ad sz)) 0 0 (gA 34 ad sz) := by
  intro sz
  refine z_met (cc := cX1_isDone) (maxL := 1) (ret := (some .boolean)) (by decide) rfl (Nat.le_of_ble_eq_true rfl) ?_
  intro pq lq sq mq aq Qq bq hmq cq C hr hml hown hts hlocks hK hX hsz hQ
  subst hsz
  have hT1 : ∀ w ∈ wsX10, w.before aq sq = true := fun w h => hts w ((by decide +kernel : ∀ w ∈ wsX10, w ∈ wsX1_isDone) w h)
  refine z_sub (L' := [(0, .ref (ad 21))]) [0] rfl ?_
  refine z_aload_n C dX1_isDone_0 0 rfl ?_
  refine z_get (q := 21) C (T := TX1) (N := 12) (ci := 1) (own := RX1) (index := 42) (v := .int (u.1 21 8)) hT1 hown hK (by decide) rfl rfl 8 (by decide) (hts (.fieldLink RX1 42 "TriggerAnalyzer$Exploration" "done" "Z") (by decide +kernel)) (fun _ h9 => h9) rfl dX1_isDone_1 ?_
  exact z_zret C hr hlocks (by rcases hb with hb | hb <;> rw [hb] <;> rfl) hQ u (⟨rfl, rfl⟩) (fun _ _ => rfl) dX1_isDone_4

set_option maxHeartbeats 4000000 in
set_option maxRecDepth 100000 in
theorem c_X1_isUsable (l : Launch) (D : va_G) (ad : Nat → Nat) (cI cL cR : ClassId) (hI : gI 34 ad) (u : xS) : ∀ sz, Met l yX1_isUsable wsX1_isUsable ({ frames := 0, cells := 0, slots := 0, locals := 0 }) (XP D ad cI cL cR u [.ref (ad 21)] sz) (va_Qi (fun r_ u' => r_ = (if u.1 21 8 = 0 ∨ ¬ u.1 21 9 = 0 then 0 else 1) ∧ u' = u) (XB D ad cI cL cR) (gA 34 ad sz)) 0 0 (gA 34 ad sz) := by
  intro sz
  refine z_met (cc := cX1_isUsable) (maxL := 1) (ret := (some .boolean)) (by decide) rfl (Nat.le_of_ble_eq_true rfl) ?_
  intro pq lq sq mq aq Qq bq hmq cq C hr hml hown hts hlocks hK hX hsz hQ
  subst hsz
  have hT1 : ∀ w ∈ wsX10, w.before aq sq = true := fun w h => hts w ((by decide +kernel : ∀ w ∈ wsX10, w ∈ wsX1_isUsable) w h)
  refine z_sub (L' := [(0, .ref (ad 21))]) [0] rfl ?_
  refine z_aload_n C dX1_isUsable_0 0 rfl ?_
  refine z_get (q := 21) C (T := TX1) (N := 12) (ci := 1) (own := RX1) (index := 42) (v := .int (u.1 21 8)) hT1 hown hK (by decide) rfl rfl 8 (by decide) (hts (.fieldLink RX1 42 "TriggerAnalyzer$Exploration" "done" "Z") (by decide +kernel)) (fun _ h9 => h9) rfl dX1_isUsable_1 ?_
  refine z_if_eq (tgt := 18) C dX1_isUsable_4 (by decide) (fun zc4 => ?_) (fun zc4 => ?_)
  · skip
    refine z_iconst (v := nI 0) C (by decide) dX1_isUsable_18 ?_
    exact z_zret C hr hlocks rfl hQ u (⟨by rw [if_pos (Or.inl zc4)]; rfl, rfl⟩) (fun _ _ => rfl) dX1_isUsable_19
  · skip
    refine z_aload_n C dX1_isUsable_7 0 rfl ?_
    refine z_get (q := 21) C (T := TX1) (N := 12) (ci := 1) (own := RX1) (index := 46) (v := .int (u.1 21 9)) hT1 hown hK (by decide) rfl rfl 9 (by decide) (hts (.fieldLink RX1 46 "TriggerAnalyzer$Exploration" "tooMany" "Z") (by decide +kernel)) (fun _ h9 => h9) rfl dX1_isUsable_8 ?_
    refine z_if_ne (tgt := 18) C dX1_isUsable_11 (by decide) (fun zc11 => ?_) (fun zc11 => ?_)
    · skip
      refine z_iconst (v := nI 0) C (by decide) dX1_isUsable_18 ?_
      exact z_zret C hr hlocks rfl hQ u (⟨by rw [if_pos (Or.inr zc11)]; rfl, rfl⟩) (fun _ _ => rfl) dX1_isUsable_19
    · skip
      refine z_iconst (v := nI 1) C (by decide) dX1_isUsable_14 ?_
      refine z_goto (tgt := 19) C dX1_isUsable_15 (by decide) ?_
      exact z_zret C hr hlocks rfl hQ u (⟨by rw [if_neg (fun h => h.elim zc4 (fun z => z zc11))]; rfl, rfl⟩) (fun _ _ => rfl) dX1_isUsable_19

set_option maxHeartbeats 4000000 in
set_option maxRecDepth 100000 in
theorem c_X1_answer (l : Launch) (D : va_G) (ad : Nat → Nat) (cI cL cR : ClassId) (hI : gI 34 ad) (u : xS) : ∀ sz, Met l yX1_answer wsX1_answer ({ frames := 0, cells := 0, slots := 0, locals := 0 }) (XP D ad cI cL cR u [.ref (ad 21)] sz) (va_Qi (fun r_ u' => r_ = (if u.1 21 9 = 0 then u.1 21 7 else -1) ∧ u' = u) (XB D ad cI cL cR) (gA 34 ad sz)) 0 0 (gA 34 ad sz) := by
  intro sz
  refine z_met (cc := cX1_answer) (maxL := 1) (ret := (some .int)) (by decide) rfl (Nat.le_of_ble_eq_true rfl) ?_
  intro pq lq sq mq aq Qq bq hmq cq C hr hml hown hts hlocks hK hX hsz hQ
  subst hsz
  have hT1 : ∀ w ∈ wsX10, w.before aq sq = true := fun w h => hts w ((by decide +kernel : ∀ w ∈ wsX10, w ∈ wsX1_answer) w h)
  refine z_sub (L' := [(0, .ref (ad 21))]) [0] rfl ?_
  refine z_aload_n C dX1_answer_0 0 rfl ?_
  refine z_get (q := 21) C (T := TX1) (N := 12) (ci := 1) (own := RX1) (index := 46) (v := .int (u.1 21 9)) hT1 hown hK (by decide) rfl rfl 9 (by decide) (hts (.fieldLink RX1 46 "TriggerAnalyzer$Exploration" "tooMany" "Z") (by decide +kernel)) (fun _ h9 => h9) rfl dX1_answer_1 ?_
  refine z_if_eq (tgt := 11) C dX1_answer_4 (by decide) (fun zc4 => ?_) (fun zc4 => ?_)
  · skip
    refine z_aload_n C dX1_answer_11 0 rfl ?_
    refine z_get (q := 21) C (T := TX1) (N := 12) (ci := 1) (own := RX1) (index := 49) (v := .int (u.1 21 7)) hT1 hown hK (by decide) rfl rfl 7 (by decide) (hts (.fieldLink RX1 49 "TriggerAnalyzer$Exploration" "count" "I") (by decide +kernel)) (fun _ h9 => h9) rfl dX1_answer_12 ?_
    exact z_iret C hr hlocks hQ u (⟨by rw [if_pos zc4], rfl⟩) (fun _ _ => rfl) dX1_answer_15
  · skip
    refine z_iconst (v := (-1)) C (by decide) dX1_answer_7 ?_
    refine z_goto (tgt := 15) C dX1_answer_8 (by decide) ?_
    exact z_iret C hr hlocks hQ u (⟨by rw [if_neg zc4], rfl⟩) (fun _ _ => rfl) dX1_answer_15

set_option maxHeartbeats 4000000 in
set_option maxRecDepth 100000 in
theorem c_X1_size (l : Launch) (D : va_G) (ad : Nat → Nat) (cI cL cR : ClassId) (hI : gI 34 ad) (u : xS) : ∀ sz, Met l yX1_size wsX1_size ({ frames := 0, cells := 0, slots := 0, locals := 0 }) (XP D ad cI cL cR u [.ref (ad 21)] sz) (va_Qi (fun r_ u' => r_ = u.1 21 7 ∧ u' = u) (XB D ad cI cL cR) (gA 34 ad sz)) 0 0 (gA 34 ad sz) := by
  intro sz
  refine z_met (cc := cX1_size) (maxL := 1) (ret := (some .int)) (by decide) rfl (Nat.le_of_ble_eq_true rfl) ?_
  intro pq lq sq mq aq Qq bq hmq cq C hr hml hown hts hlocks hK hX hsz hQ
  subst hsz
  have hT1 : ∀ w ∈ wsX10, w.before aq sq = true := fun w h => hts w ((by decide +kernel : ∀ w ∈ wsX10, w ∈ wsX1_size) w h)
  refine z_sub (L' := [(0, .ref (ad 21))]) [0] rfl ?_
  refine z_aload_n C dX1_size_0 0 rfl ?_
  refine z_get (q := 21) C (T := TX1) (N := 12) (ci := 1) (own := RX1) (index := 49) (v := .int (u.1 21 7)) hT1 hown hK (by decide) rfl rfl 7 (by decide) (hts (.fieldLink RX1 49 "TriggerAnalyzer$Exploration" "count" "I") (by decide +kernel)) (fun _ h9 => h9) rfl dX1_size_1 ?_
  exact z_iret C hr hlocks hQ u (⟨rfl, rfl⟩) (fun _ _ => rfl) dX1_size_4

set_option maxHeartbeats 4000000 in
set_option maxRecDepth 100000 in
theorem c_X1_forget (l : Launch) (D : va_G) (ad : Nat → Nat) (cI cL cR : ClassId) (hI : gI 34 ad) (u : xS) : ∀ sz, Met l yX1_forget wsX1_forget ({ frames := 0, cells := 0, slots := 0, locals := 0 }) (XP D ad cI cL cR u [.ref (ad 21)] sz) (va_Qv (fun u' => u' = xs u 21 8 (nI 0)) (XB D ad cI cL cR) (gA 34 ad sz)) 0 0 (gA 34 ad sz) := by
  intro sz
  refine z_met (cc := cX1_forget) (maxL := 1) (ret := none) (by decide) rfl (Nat.le_of_ble_eq_true rfl) ?_
  intro pq lq sq mq aq Qq bq hmq cq C hr hml hown hts hlocks hK hX hsz hQ
  subst hsz
  have hT1 : ∀ w ∈ wsX10, w.before aq sq = true := fun w h => hts w ((by decide +kernel : ∀ w ∈ wsX10, w ∈ wsX1_forget) w h)
  refine z_sub (L' := [(0, .ref (ad 21))]) [0] rfl ?_
  refine z_aload_n C dX1_forget_0 0 rfl ?_
  refine z_iconst (v := nI 0) C (by decide) dX1_forget_1 ?_
  refine z_put (q := 21) C hI tyX1 (T := TX1) (N := 12) (ci := 1) (own := RX1) (index := 42) hT1 hown hK (by decide) rfl rfl 8 (by decide) (hts (.fieldLink RX1 42 "TriggerAnalyzer$Exploration" "done" "Z") (by decide +kernel)) (fun _ h9 => h9) tyX1_ok nmX1 rfl rfl rfl (Nat.le_of_ble_eq_true rfl) (f' := xF ad cI cL cR ((xs u 21 8 (nI 0)))) rfl xF_ne dX1_forget_2 ?_
  exact z_vret C hr hlocks hQ ((xs u 21 8 (nI 0))) (rfl) (fun _ _ => rfl) dX1_forget_5

set_option maxHeartbeats 4000000 in
set_option maxRecDepth 100000 in
theorem c_X1_situationAt_vh (l : Launch) (D : va_G) (ad : Nat → Nat) (cI cL cR : ClassId) (hI : gI 34 ad) (u : xS) (c : Nat) (hc : c ≤ 1000) (hn : u.1 21 7 = nI c) (k : Nat) (hk : k < c) : ∀ sz, Met l yX1_situationAt wsX1_situationAt ({ frames := 0, cells := 0, slots := 0, locals := 0 }) (XP D ad cI cL cR u [.ref (ad 21), .int (nI k)] sz) (va_Qi (fun r_ u' => r_ = u.1 22 k ∧ u' = u) (XB D ad cI cL cR) (gA 34 ad sz)) 0 0 (gA 34 ad sz) := by
  intro sz
  refine z_met (cc := cX1_situationAt) (maxL := 2) (ret := (some .int)) (by decide) rfl (Nat.le_of_ble_eq_true rfl) ?_
  intro pq lq sq mq aq Qq bq hmq cq C hr hml hown hts hlocks hK hX hsz hQ
  subst hsz
  have hT1 : ∀ w ∈ wsX10, w.before aq sq = true := fun w h => hts w ((by decide +kernel : ∀ w ∈ wsX10, w ∈ wsX1_situationAt) w h)
  refine z_sub (L' := [(0, .ref (ad 21)), (1, .int (nI k))]) [0, 1] rfl ?_
  refine z_iload_n C dX1_situationAt_0 1 rfl ?_
  refine z_if_lt (tgt := 28) C dX1_situationAt_1 (by decide) (fun zc1 => ?_) (fun zc1 => ?_)
  · skip
    exact (zneg (by omega) zc1).elim
  · skip
    refine z_iload_n C dX1_situationAt_4 1 rfl ?_
    refine z_aload_n C dX1_situationAt_5 0 rfl ?_
    refine z_get (q := 21) C (T := TX1) (N := 12) (ci := 1) (own := RX1) (index := 49) (v := .int (u.1 21 7)) hT1 hown hK (by decide) rfl rfl 7 (by decide) (hts (.fieldLink RX1 49 "TriggerAnalyzer$Exploration" "count" "I") (by decide +kernel)) (fun _ h9 => h9) rfl dX1_situationAt_6 ?_
    refine z_topi (y := nI c) (hn) ?_
    refine z_icmp_ge (tgt := 28) C dX1_situationAt_9 (by decide) (fun zc9 => ?_) (fun zc9 => ?_)
    · skip
      have zn9 := zge_t (a := k) (b := c) (by omega) (by omega) zc9
      exact False.elim (by omega)
    · skip
      have zn9 := zge_f (a := k) (b := c) (by omega) (by omega) zc9
      refine z_iload_n C dX1_situationAt_12 1 rfl ?_
      refine z_sipush (v := nI 1000) C (by decide) dX1_situationAt_13 ?_
      refine z_icmp_ge (tgt := 28) C dX1_situationAt_16 (by decide) (fun zc16 => ?_) (fun zc16 => ?_)
      · skip
        have zn16 := zge_t (a := k) (b := 1000) (by omega) (by omega) zc16
        exact False.elim (by omega)
      · skip
        have zn16 := zge_f (a := k) (b := 1000) (by omega) (by omega) zc16
        refine z_aload_n C dX1_situationAt_19 0 rfl ?_
        refine z_get (q := 21) C (T := TX1) (N := 12) (ci := 1) (own := RX1) (index := 9) (v := .ref (ad 22)) hT1 hown hK (by decide) rfl rfl 1 (by decide) (hts (.fieldLink RX1 9 "TriggerAnalyzer$Exploration" "situations" "[I") (by decide +kernel)) (fun _ h9 => h9) rfl dX1_situationAt_20 ?_
        refine z_iload_n C dX1_situationAt_23 1 rfl ?_
        refine z_iald (q := 22) (len := 1000) (k := k) C hK (by decide) rfl 0 rfl (rfl) (by omega) (by decide) dX1_situationAt_24 ?_
        refine z_goto (tgt := 29) C dX1_situationAt_25 (by decide) ?_
        exact z_iret C hr hlocks hQ u (⟨rfl, rfl⟩) (fun _ _ => rfl) dX1_situationAt_29

set_option maxHeartbeats 4000000 in
set_option maxRecDepth 100000 in
theorem c_X1_situationAt_vn (l : Launch) (D : va_G) (ad : Nat → Nat) (cI cL cR : ClassId) (hI : gI 34 ad) (u : xS) (c : Nat) (hc : c ≤ 1000) (hn : u.1 21 7 = nI c) (x : Int32) (hx : x < 0) : ∀ sz, Met l yX1_situationAt wsX1_situationAt ({ frames := 0, cells := 0, slots := 0, locals := 0 }) (XP D ad cI cL cR u [.ref (ad 21), .int (x)] sz) (va_Qi (fun r_ u' => r_ = (-1) ∧ u' = u) (XB D ad cI cL cR) (gA 34 ad sz)) 0 0 (gA 34 ad sz) := by
  intro sz
  refine z_met (cc := cX1_situationAt) (maxL := 2) (ret := (some .int)) (by decide) rfl (Nat.le_of_ble_eq_true rfl) ?_
  intro pq lq sq mq aq Qq bq hmq cq C hr hml hown hts hlocks hK hX hsz hQ
  subst hsz
  refine z_sub (L' := [(0, .ref (ad 21)), (1, .int (x))]) [0, 1] rfl ?_
  refine z_iload_n C dX1_situationAt_0 1 rfl ?_
  refine z_if_lt (tgt := 28) C dX1_situationAt_1 (by decide) (fun zc1 => ?_) (fun zc1 => ?_)
  · skip
    refine z_iconst (v := (-1)) C (by decide) dX1_situationAt_28 ?_
    exact z_iret C hr hlocks hQ u (⟨rfl, rfl⟩) (fun _ _ => rfl) dX1_situationAt_29
  · skip
    exact False.elim (zc1 hx)

set_option maxHeartbeats 4000000 in
set_option maxRecDepth 100000 in
theorem c_X1_situationAt_vb (l : Launch) (D : va_G) (ad : Nat → Nat) (cI cL cR : ClassId) (hI : gI 34 ad) (u : xS) (c : Nat) (hc : c ≤ 1000) (hn : u.1 21 7 = nI c) (k : Nat) (hk : c ≤ k) (hk2 : k < 2 ^ 31) : ∀ sz, Met l yX1_situationAt wsX1_situationAt ({ frames := 0, cells := 0, slots := 0, locals := 0 }) (XP D ad cI cL cR u [.ref (ad 21), .int (nI k)] sz) (va_Qi (fun r_ u' => r_ = (-1) ∧ u' = u) (XB D ad cI cL cR) (gA 34 ad sz)) 0 0 (gA 34 ad sz) := by
  intro sz
  refine z_met (cc := cX1_situationAt) (maxL := 2) (ret := (some .int)) (by decide) rfl (Nat.le_of_ble_eq_true rfl) ?_
  intro pq lq sq mq aq Qq bq hmq cq C hr hml hown hts hlocks hK hX hsz hQ
  subst hsz
  have hT1 : ∀ w ∈ wsX10, w.before aq sq = true := fun w h => hts w ((by decide +kernel : ∀ w ∈ wsX10, w ∈ wsX1_situationAt) w h)
  refine z_sub (L' := [(0, .ref (ad 21)), (1, .int (nI k))]) [0, 1] rfl ?_
  refine z_iload_n C dX1_situationAt_0 1 rfl ?_
  refine z_if_lt (tgt := 28) C dX1_situationAt_1 (by decide) (fun zc1 => ?_) (fun zc1 => ?_)
  · skip
    exact (zneg (by omega) zc1).elim
  · skip
    refine z_iload_n C dX1_situationAt_4 1 rfl ?_
    refine z_aload_n C dX1_situationAt_5 0 rfl ?_
    refine z_get (q := 21) C (T := TX1) (N := 12) (ci := 1) (own := RX1) (index := 49) (v := .int (u.1 21 7)) hT1 hown hK (by decide) rfl rfl 7 (by decide) (hts (.fieldLink RX1 49 "TriggerAnalyzer$Exploration" "count" "I") (by decide +kernel)) (fun _ h9 => h9) rfl dX1_situationAt_6 ?_
    refine z_topi (y := nI c) (hn) ?_
    refine z_icmp_ge (tgt := 28) C dX1_situationAt_9 (by decide) (fun zc9 => ?_) (fun zc9 => ?_)
    · skip
      have zn9 := zge_t (a := k) (b := c) (by omega) (by omega) zc9
      refine z_iconst (v := (-1)) C (by decide) dX1_situationAt_28 ?_
      exact z_iret C hr hlocks hQ u (⟨rfl, rfl⟩) (fun _ _ => rfl) dX1_situationAt_29
    · skip
      have zn9 := zge_f (a := k) (b := c) (by omega) (by omega) zc9
      exact False.elim (by omega)

set_option maxHeartbeats 4000000 in
set_option maxRecDepth 100000 in
theorem c_X1_nextOf (l : Launch) (D : va_G) (ad : Nat → Nat) (cI cL cR : ClassId) (hI : gI 34 ad) (u : xS) (c : Nat) (hc : c ≤ 1000) (hn : u.1 21 7 = nI c) (k : Nat) (hk : k < c) (r : Nat) (hr9 : r < 8) : ∀ sz, Met l yX1_nextOf wsX1_nextOf ({ frames := 0, cells := 0, slots := 0, locals := 0 }) (XP D ad cI cL cR u [.ref (ad 21), .int (nI k), .int (nI r)] sz) (va_Qi (fun r_ u' => r_ = u.1 24 (k * 8 + r) ∧ u' = u) (XB D ad cI cL cR) (gA 34 ad sz)) 0 0 (gA 34 ad sz) := by
  intro sz
  refine z_met (cc := cX1_nextOf) (maxL := 4) (ret := (some .int)) (by decide) rfl (Nat.le_of_ble_eq_true rfl) ?_
  intro pq lq sq mq aq Qq bq hmq cq C hr hml hown hts hlocks hK hX hsz hQ
  subst hsz
  have hT1 : ∀ w ∈ wsX10, w.before aq sq = true := fun w h => hts w ((by decide +kernel : ∀ w ∈ wsX10, w ∈ wsX1_nextOf) w h)
  refine z_sub (L' := [(0, .ref (ad 21)), (1, .int (nI k)), (2, .int (nI r))]) [0, 1, 2] rfl ?_
  refine z_iload_n C dX1_nextOf_0 1 rfl ?_
  refine z_if_lt (tgt := 22) C dX1_nextOf_1 (by decide) (fun zc1 => ?_) (fun zc1 => ?_)
  · skip
    exact (zneg (by omega) zc1).elim
  · skip
    refine z_iload_n C dX1_nextOf_4 1 rfl ?_
    refine z_aload_n C dX1_nextOf_5 0 rfl ?_
    refine z_get (q := 21) C (T := TX1) (N := 12) (ci := 1) (own := RX1) (index := 49) (v := .int (u.1 21 7)) hT1 hown hK (by decide) rfl rfl 7 (by decide) (hts (.fieldLink RX1 49 "TriggerAnalyzer$Exploration" "count" "I") (by decide +kernel)) (fun _ h9 => h9) rfl dX1_nextOf_6 ?_
    refine z_topi (y := nI c) (hn) ?_
    refine z_icmp_ge (tgt := 22) C dX1_nextOf_9 (by decide) (fun zc9 => ?_) (fun zc9 => ?_)
    · skip
      have zn9 := zge_t (a := k) (b := c) (by omega) (by omega) zc9
      exact False.elim (by omega)
    · skip
      have zn9 := zge_f (a := k) (b := c) (by omega) (by omega) zc9
      refine z_iload_n C dX1_nextOf_12 2 rfl ?_
      refine z_if_lt (tgt := 22) C dX1_nextOf_13 (by decide) (fun zc13 => ?_) (fun zc13 => ?_)
      · skip
        exact (zneg (by omega) zc13).elim
      · skip
        refine z_iload_n C dX1_nextOf_16 2 rfl ?_
        refine z_bipush (v := nI 8) C (by decide) dX1_nextOf_17 ?_
        refine z_icmp_lt (tgt := 24) C dX1_nextOf_19 (by decide) (fun zc19 => ?_) (fun zc19 => ?_)
        · skip
          have zn19 := zlt_t (a := r) (b := 8) (by omega) (by omega) zc19
          refine z_iload_n C dX1_nextOf_24 1 rfl ?_
          refine z_bipush (v := nI 8) C (by decide) dX1_nextOf_25 ?_
          refine z_imul C dX1_nextOf_27 ?_
          refine z_topi (y := nI (k * 8)) (pk_mul k 8) ?_
          refine z_iload_n C dX1_nextOf_28 2 rfl ?_
          refine z_iadd C dX1_nextOf_29 ?_
          refine z_topi (y := nI ((k * 8) + r)) (nI_add (k * 8) r) ?_
          refine z_istore_n (L' := [(3, .int (nI ((k * 8) + r))), (0, .ref (ad 21)), (1, .int (nI k)), (2, .int (nI r))]) C dX1_nextOf_30 (by decide) rfl ?_
          refine z_iload_n C dX1_nextOf_31 0 rfl ?_
          refine z_if_lt (tgt := 53) C dX1_nextOf_32 (by decide) (fun zc32 => ?_) (fun zc32 => ?_)
          · skip
            exact (zneg (by omega) zc32).elim
          · skip
            refine z_iload_n C dX1_nextOf_35 0 rfl ?_
            refine z_aload_n C dX1_nextOf_36 1 rfl ?_
            refine z_get (q := 21) C (T := TX1) (N := 12) (ci := 1) (own := RX1) (index := 18) (v := .ref (ad 24)) hT1 hown hK (by decide) rfl rfl 3 (by decide) (hts (.fieldLink RX1 18 "TriggerAnalyzer$Exploration" "nexts" "[I") (by decide +kernel)) (fun _ h9 => h9) rfl dX1_nextOf_37 ?_
            refine z_alen (q := 24) (len := 8000) C hK (by decide) rfl 0 rfl (v := nI 8000) (by decide) dX1_nextOf_40 ?_
            refine z_icmp_ge (tgt := 53) C dX1_nextOf_41 (by decide) (fun zc41 => ?_) (fun zc41 => ?_)
            · skip
              have zn41 := zge_t (a := (k * 8) + r) (b := 8000) (by omega) (by omega) zc41
              exact False.elim (by omega)
            · skip
              have zn41 := zge_f (a := (k * 8) + r) (b := 8000) (by omega) (by omega) zc41
              refine z_aload_n C dX1_nextOf_44 1 rfl ?_
              refine z_get (q := 21) C (T := TX1) (N := 12) (ci := 1) (own := RX1) (index := 18) (v := .ref (ad 24)) hT1 hown hK (by decide) rfl rfl 3 (by decide) (hts (.fieldLink RX1 18 "TriggerAnalyzer$Exploration" "nexts" "[I") (by decide +kernel)) (fun _ h9 => h9) rfl dX1_nextOf_45 ?_
              refine z_iload_n C dX1_nextOf_48 0 rfl ?_
              refine z_iald (q := 24) (len := 8000) (k := (k * 8) + r) C hK (by decide) rfl 0 rfl (rfl) (by omega) (by decide) dX1_nextOf_49 ?_
              refine z_goto (tgt := 54) C dX1_nextOf_50 (by decide) ?_
              exact z_iret C hr hlocks hQ u (⟨rfl, rfl⟩) (fun _ _ => rfl) dX1_nextOf_54
        · skip
          have zn19 := zlt_f (a := r) (b := 8) (by omega) (by omega) zc19
          exact False.elim (by omega)

set_option maxHeartbeats 4000000 in
set_option maxRecDepth 100000 in
theorem c_X1_mark (l : Launch) (D : va_G) (ad : Nat → Nat) (cI cL cR : ClassId) (hI : gI 34 ad) (u : xS) (y : Nat) (hy : y < 16384) (v : Int32) : ∀ sz, Met l yX1_mark wsX1_mark ({ frames := 0, cells := 0, slots := 0, locals := 0 }) (XP D ad cI cL cR u [.ref (ad 21), .int (nI y), .int (v)] sz) (va_Qv (fun u' => u' = xs u 25 y v) (XB D ad cI cL cR) (gA 34 ad sz)) 0 0 (gA 34 ad sz) := by
  intro sz
  refine z_met (cc := cX1_mark) (maxL := 3) (ret := none) (by decide) rfl (Nat.le_of_ble_eq_true rfl) ?_
  intro pq lq sq mq aq Qq bq hmq cq C hr hml hown hts hlocks hK hX hsz hQ
  subst hsz
  have hT1 : ∀ w ∈ wsX10, w.before aq sq = true := fun w h => hts w ((by decide +kernel : ∀ w ∈ wsX10, w ∈ wsX1_mark) w h)
  refine z_sub (L' := [(0, .ref (ad 21)), (1, .int (nI y)), (2, .int (v))]) [0, 1, 2] rfl ?_
  refine z_iload_n C dX1_mark_0 1 rfl ?_
  refine z_if_lt (tgt := 20) C dX1_mark_1 (by decide) (fun zc1 => ?_) (fun zc1 => ?_)
  · skip
    exact (zneg (by omega) zc1).elim
  · skip
    refine z_iload_n C dX1_mark_4 1 rfl ?_
    refine z_aload_n C dX1_mark_5 0 rfl ?_
    refine z_get (q := 21) C (T := TX1) (N := 12) (ci := 1) (own := RX1) (index := 21) (v := .ref (ad 25)) hT1 hown hK (by decide) rfl rfl 4 (by decide) (hts (.fieldLink RX1 21 "TriggerAnalyzer$Exploration" "places" "[I") (by decide +kernel)) (fun _ h9 => h9) rfl dX1_mark_6 ?_
    refine z_alen (q := 25) (len := 16384) C hK (by decide) rfl 0 rfl (v := nI 16384) (by decide) dX1_mark_9 ?_
    refine z_icmp_ge (tgt := 20) C dX1_mark_10 (by decide) (fun zc10 => ?_) (fun zc10 => ?_)
    · skip
      have zn10 := zge_t (a := y) (b := 16384) (by omega) (by omega) zc10
      exact False.elim (by omega)
    · skip
      have zn10 := zge_f (a := y) (b := 16384) (by omega) (by omega) zc10
      refine z_aload_n C dX1_mark_13 0 rfl ?_
      refine z_get (q := 21) C (T := TX1) (N := 12) (ci := 1) (own := RX1) (index := 21) (v := .ref (ad 25)) hT1 hown hK (by decide) rfl rfl 4 (by decide) (hts (.fieldLink RX1 21 "TriggerAnalyzer$Exploration" "places" "[I") (by decide +kernel)) (fun _ h9 => h9) rfl dX1_mark_14 ?_
      refine z_iload_n C dX1_mark_17 1 rfl ?_
      refine z_iload_n C dX1_mark_18 2 rfl ?_
      refine z_iast (q := 25) (len := 16384) (k := y) C hI hK (by decide) rfl 0 rfl (rfl) (by omega) (by decide) (f' := xF ad cI cL cR ((xs u 25 y (v)))) rfl xF_ne dX1_mark_19 ?_
      exact z_vret C hr hlocks hQ ((xs u 25 y (v))) (rfl) (fun _ _ => rfl) dX1_mark_20

set_option maxHeartbeats 4000000 in
set_option maxRecDepth 100000 in
theorem c_X1_keepNext (l : Launch) (D : va_G) (ad : Nat → Nat) (cI cL cR : ClassId) (hI : gI 34 ad) (u : xS) (y : Nat) (hy : y < 8000) (v : Int32) : ∀ sz, Met l yX1_keepNext wsX1_keepNext ({ frames := 0, cells := 0, slots := 0, locals := 0 }) (XP D ad cI cL cR u [.ref (ad 21), .int (nI y), .int (v)] sz) (va_Qv (fun u' => u' = xs u 24 y v) (XB D ad cI cL cR) (gA 34 ad sz)) 0 0 (gA 34 ad sz) := by
  intro sz
  refine z_met (cc := cX1_keepNext) (maxL := 3) (ret := none) (by decide) rfl (Nat.le_of_ble_eq_true rfl) ?_
  intro pq lq sq mq aq Qq bq hmq cq C hr hml hown hts hlocks hK hX hsz hQ
  subst hsz
  have hT1 : ∀ w ∈ wsX10, w.before aq sq = true := fun w h => hts w ((by decide +kernel : ∀ w ∈ wsX10, w ∈ wsX1_keepNext) w h)
  refine z_sub (L' := [(0, .ref (ad 21)), (1, .int (nI y)), (2, .int (v))]) [0, 1, 2] rfl ?_
  refine z_iload_n C dX1_keepNext_0 1 rfl ?_
  refine z_if_lt (tgt := 20) C dX1_keepNext_1 (by decide) (fun zc1 => ?_) (fun zc1 => ?_)
  · skip
    exact (zneg (by omega) zc1).elim
  · skip
    refine z_iload_n C dX1_keepNext_4 1 rfl ?_
    refine z_aload_n C dX1_keepNext_5 0 rfl ?_
    refine z_get (q := 21) C (T := TX1) (N := 12) (ci := 1) (own := RX1) (index := 18) (v := .ref (ad 24)) hT1 hown hK (by decide) rfl rfl 3 (by decide) (hts (.fieldLink RX1 18 "TriggerAnalyzer$Exploration" "nexts" "[I") (by decide +kernel)) (fun _ h9 => h9) rfl dX1_keepNext_6 ?_
    refine z_alen (q := 24) (len := 8000) C hK (by decide) rfl 0 rfl (v := nI 8000) (by decide) dX1_keepNext_9 ?_
    refine z_icmp_ge (tgt := 20) C dX1_keepNext_10 (by decide) (fun zc10 => ?_) (fun zc10 => ?_)
    · skip
      have zn10 := zge_t (a := y) (b := 8000) (by omega) (by omega) zc10
      exact False.elim (by omega)
    · skip
      have zn10 := zge_f (a := y) (b := 8000) (by omega) (by omega) zc10
      refine z_aload_n C dX1_keepNext_13 0 rfl ?_
      refine z_get (q := 21) C (T := TX1) (N := 12) (ci := 1) (own := RX1) (index := 18) (v := .ref (ad 24)) hT1 hown hK (by decide) rfl rfl 3 (by decide) (hts (.fieldLink RX1 18 "TriggerAnalyzer$Exploration" "nexts" "[I") (by decide +kernel)) (fun _ h9 => h9) rfl dX1_keepNext_14 ?_
      refine z_iload_n C dX1_keepNext_17 1 rfl ?_
      refine z_iload_n C dX1_keepNext_18 2 rfl ?_
      refine z_iast (q := 24) (len := 8000) (k := y) C hI hK (by decide) rfl 0 rfl (rfl) (by omega) (by decide) (f' := xF ad cI cL cR ((xs u 24 y (v)))) rfl xF_ne dX1_keepNext_19 ?_
      exact z_vret C hr hlocks hQ ((xs u 24 y (v))) (rfl) (fun _ _ => rfl) dX1_keepNext_20

set_option maxHeartbeats 4000000 in
set_option maxRecDepth 100000 in
theorem c_X1_findOrAdd_vf (l : Launch) (D : va_G) (ad : Nat → Nat) (cI cL cR : ClassId) (hI : gI 34 ad) (u : xS) (y : Nat) (hy : y < 16384) (d : Int32) (j : Nat) (hj : j < 1000) (hp : u.1 25 y = nI (j + 1)) : ∀ sz, Met l yX1_findOrAdd wsX1_findOrAdd ({ frames := 0, cells := 0, slots := 0, locals := 0 }) (XP D ad cI cL cR u [.ref (ad 21), .int (nI y), .int (d)] sz) (va_Qi (fun r_ u' => r_ = nI j ∧ u' = u) (XB D ad cI cL cR) (gA 34 ad sz)) 0 0 (gA 34 ad sz) := by
  intro sz
  refine z_met (cc := cX1_findOrAdd) (maxL := 3) (ret := (some .int)) (by decide) rfl (Nat.le_of_ble_eq_true rfl) ?_
  intro pq lq sq mq aq Qq bq hmq cq C hr hml hown hts hlocks hK hX hsz hQ
  subst hsz
  have hT1 : ∀ w ∈ wsX10, w.before aq sq = true := fun w h => hts w ((by decide +kernel : ∀ w ∈ wsX10, w ∈ wsX1_findOrAdd) w h)
  refine z_sub (L' := [(0, .ref (ad 21)), (1, .int (nI y)), (2, .int (d))]) [0, 1, 2] rfl ?_
  refine z_iload_n C dX1_findOrAdd_0 1 rfl ?_
  refine z_if_lt (tgt := 13) C dX1_findOrAdd_1 (by decide) (fun zc1 => ?_) (fun zc1 => ?_)
  · skip
    exact (zneg (by omega) zc1).elim
  · skip
    refine z_iload_n C dX1_findOrAdd_4 1 rfl ?_
    refine z_aload_n C dX1_findOrAdd_5 0 rfl ?_
    refine z_get (q := 21) C (T := TX1) (N := 12) (ci := 1) (own := RX1) (index := 21) (v := .ref (ad 25)) hT1 hown hK (by decide) rfl rfl 4 (by decide) (hts (.fieldLink RX1 21 "TriggerAnalyzer$Exploration" "places" "[I") (by decide +kernel)) (fun _ h9 => h9) rfl dX1_findOrAdd_6 ?_
    refine z_alen (q := 25) (len := 16384) C hK (by decide) rfl 0 rfl (v := nI 16384) (by decide) dX1_findOrAdd_9 ?_
    refine z_icmp_lt (tgt := 15) C dX1_findOrAdd_10 (by decide) (fun zc10 => ?_) (fun zc10 => ?_)
    · skip
      have zn10 := zlt_t (a := y) (b := 16384) (by omega) (by omega) zc10
      refine z_aload_n C dX1_findOrAdd_15 0 rfl ?_
      refine z_get (q := 21) C (T := TX1) (N := 12) (ci := 1) (own := RX1) (index := 21) (v := .ref (ad 25)) hT1 hown hK (by decide) rfl rfl 4 (by decide) (hts (.fieldLink RX1 21 "TriggerAnalyzer$Exploration" "places" "[I") (by decide +kernel)) (fun _ h9 => h9) rfl dX1_findOrAdd_16 ?_
      refine z_iload_n C dX1_findOrAdd_19 1 rfl ?_
      refine z_iald (q := 25) (len := 16384) (k := y) C hK (by decide) rfl 0 rfl (rfl) (by omega) (by decide) dX1_findOrAdd_20 ?_
      refine z_topi (y := nI (j + 1)) (hp) ?_
      refine z_if_le (tgt := 33) C dX1_findOrAdd_21 (by decide) (fun zc21 => ?_) (fun zc21 => ?_)
      · skip
        have zn21 := zle0_t (by omega) zc21
        exact False.elim (by omega)
      · skip
        have zn21 := zle0_f (by omega) zc21
        refine z_aload_n C dX1_findOrAdd_24 0 rfl ?_
        refine z_get (q := 21) C (T := TX1) (N := 12) (ci := 1) (own := RX1) (index := 21) (v := .ref (ad 25)) hT1 hown hK (by decide) rfl rfl 4 (by decide) (hts (.fieldLink RX1 21 "TriggerAnalyzer$Exploration" "places" "[I") (by decide +kernel)) (fun _ h9 => h9) rfl dX1_findOrAdd_25 ?_
        refine z_iload_n C dX1_findOrAdd_28 1 rfl ?_
        refine z_iald (q := 25) (len := 16384) (k := y) C hK (by decide) rfl 0 rfl (rfl) (by omega) (by decide) dX1_findOrAdd_29 ?_
        refine z_topi (y := nI (j + 1)) (hp) ?_
        refine z_iconst (v := nI 1) C (by decide) dX1_findOrAdd_30 ?_
        refine z_isub C dX1_findOrAdd_31 ?_
        refine z_topi (y := nI j) (nI_pred j) ?_
        exact z_iret C hr hlocks hQ u (⟨rfl, rfl⟩) (fun _ _ => rfl) dX1_findOrAdd_32
    · skip
      have zn10 := zlt_f (a := y) (b := 16384) (by omega) (by omega) zc10
      exact False.elim (by omega)

set_option maxHeartbeats 4000000 in
set_option maxRecDepth 100000 in
theorem c_X1_findOrAdd_vm (l : Launch) (D : va_G) (ad : Nat → Nat) (cI cL cR : ClassId) (hI : gI 34 ad) (u : xS) (y : Nat) (hy : y < 16384) (d : Int32) (hp : u.1 25 y = nI 0) (hn : u.1 21 7 = nI 1000) : ∀ sz, Met l yX1_findOrAdd wsX1_findOrAdd ({ frames := 0, cells := 0, slots := 0, locals := 0 }) (XP D ad cI cL cR u [.ref (ad 21), .int (nI y), .int (d)] sz) (va_Qi (fun r_ u' => r_ = (-1) ∧ u' = xs u 21 9 (nI 1)) (XB D ad cI cL cR) (gA 34 ad sz)) 0 0 (gA 34 ad sz) := by
  intro sz
  refine z_met (cc := cX1_findOrAdd) (maxL := 3) (ret := (some .int)) (by decide) rfl (Nat.le_of_ble_eq_true rfl) ?_
  intro pq lq sq mq aq Qq bq hmq cq C hr hml hown hts hlocks hK hX hsz hQ
  subst hsz
  have hT1 : ∀ w ∈ wsX10, w.before aq sq = true := fun w h => hts w ((by decide +kernel : ∀ w ∈ wsX10, w ∈ wsX1_findOrAdd) w h)
  refine z_sub (L' := [(0, .ref (ad 21)), (1, .int (nI y)), (2, .int (d))]) [0, 1, 2] rfl ?_
  refine z_iload_n C dX1_findOrAdd_0 1 rfl ?_
  refine z_if_lt (tgt := 13) C dX1_findOrAdd_1 (by decide) (fun zc1 => ?_) (fun zc1 => ?_)
  · skip
    exact (zneg (by omega) zc1).elim
  · skip
    refine z_iload_n C dX1_findOrAdd_4 1 rfl ?_
    refine z_aload_n C dX1_findOrAdd_5 0 rfl ?_
    refine z_get (q := 21) C (T := TX1) (N := 12) (ci := 1) (own := RX1) (index := 21) (v := .ref (ad 25)) hT1 hown hK (by decide) rfl rfl 4 (by decide) (hts (.fieldLink RX1 21 "TriggerAnalyzer$Exploration" "places" "[I") (by decide +kernel)) (fun _ h9 => h9) rfl dX1_findOrAdd_6 ?_
    refine z_alen (q := 25) (len := 16384) C hK (by decide) rfl 0 rfl (v := nI 16384) (by decide) dX1_findOrAdd_9 ?_
    refine z_icmp_lt (tgt := 15) C dX1_findOrAdd_10 (by decide) (fun zc10 => ?_) (fun zc10 => ?_)
    · skip
      have zn10 := zlt_t (a := y) (b := 16384) (by omega) (by omega) zc10
      refine z_aload_n C dX1_findOrAdd_15 0 rfl ?_
      refine z_get (q := 21) C (T := TX1) (N := 12) (ci := 1) (own := RX1) (index := 21) (v := .ref (ad 25)) hT1 hown hK (by decide) rfl rfl 4 (by decide) (hts (.fieldLink RX1 21 "TriggerAnalyzer$Exploration" "places" "[I") (by decide +kernel)) (fun _ h9 => h9) rfl dX1_findOrAdd_16 ?_
      refine z_iload_n C dX1_findOrAdd_19 1 rfl ?_
      refine z_iald (q := 25) (len := 16384) (k := y) C hK (by decide) rfl 0 rfl (rfl) (by omega) (by decide) dX1_findOrAdd_20 ?_
      refine z_topi (y := nI 0) (hp) ?_
      refine z_if_le (tgt := 33) C dX1_findOrAdd_21 (by decide) (fun zc21 => ?_) (fun zc21 => ?_)
      · skip
        have zn21 := zle0_t (by omega) zc21
        refine z_aload_n C dX1_findOrAdd_33 0 rfl ?_
        refine z_get (q := 21) C (T := TX1) (N := 12) (ci := 1) (own := RX1) (index := 49) (v := .int (u.1 21 7)) hT1 hown hK (by decide) rfl rfl 7 (by decide) (hts (.fieldLink RX1 49 "TriggerAnalyzer$Exploration" "count" "I") (by decide +kernel)) (fun _ h9 => h9) rfl dX1_findOrAdd_34 ?_
        refine z_topi (y := nI 1000) (hn) ?_
        refine z_if_lt (tgt := 50) C dX1_findOrAdd_37 (by decide) (fun zc37 => ?_) (fun zc37 => ?_)
        · skip
          exact (zneg (by omega) zc37).elim
        · skip
          refine z_aload_n C dX1_findOrAdd_40 0 rfl ?_
          refine z_get (q := 21) C (T := TX1) (N := 12) (ci := 1) (own := RX1) (index := 49) (v := .int (u.1 21 7)) hT1 hown hK (by decide) rfl rfl 7 (by decide) (hts (.fieldLink RX1 49 "TriggerAnalyzer$Exploration" "count" "I") (by decide +kernel)) (fun _ h9 => h9) rfl dX1_findOrAdd_41 ?_
          refine z_topi (y := nI 1000) (hn) ?_
          refine z_sipush (v := nI 1000) C (by decide) dX1_findOrAdd_44 ?_
          refine z_icmp_lt (tgt := 57) C dX1_findOrAdd_47 (by decide) (fun zc47 => ?_) (fun zc47 => ?_)
          · skip
            have zn47 := zlt_t (a := 1000) (b := 1000) (by omega) (by omega) zc47
            exact absurd zn47 (by decide)
          · skip
            have zn47 := zlt_f (a := 1000) (b := 1000) (by omega) (by omega) zc47
            refine z_aload_n C dX1_findOrAdd_50 0 rfl ?_
            refine z_iconst (v := nI 1) C (by decide) dX1_findOrAdd_51 ?_
            refine z_put (q := 21) C hI tyX1 (T := TX1) (N := 12) (ci := 1) (own := RX1) (index := 46) hT1 hown hK (by decide) rfl rfl 9 (by decide) (hts (.fieldLink RX1 46 "TriggerAnalyzer$Exploration" "tooMany" "Z") (by decide +kernel)) (fun _ h9 => h9) tyX1_ok nmX1 rfl rfl rfl (Nat.le_of_ble_eq_true rfl) (f' := xF ad cI cL cR ((xs u 21 9 (nI 1)))) rfl xF_ne dX1_findOrAdd_52 ?_
            refine z_iconst (v := (-1)) C (by decide) dX1_findOrAdd_55 ?_
            exact z_iret C hr hlocks hQ ((xs u 21 9 (nI 1))) (⟨rfl, rfl⟩) (fun _ _ => rfl) dX1_findOrAdd_56
      · skip
        have zn21 := zle0_f (by omega) zc21
        exact False.elim (by omega)
    · skip
      have zn10 := zlt_f (a := y) (b := 16384) (by omega) (by omega) zc10
      exact False.elim (by omega)

set_option maxHeartbeats 4000000 in
set_option maxRecDepth 100000 in
theorem c_X1_findOrAdd_vw (l : Launch) (D : va_G) (ad : Nat → Nat) (cI cL cR : ClassId) (hI : gI 34 ad) (u : xS) (y : Nat) (hy : y < 16384) (d : Int32) (c : Nat) (hc : c < 1000) (hp : u.1 25 y = nI 0) (hn : u.1 21 7 = nI c) : ∀ sz, Met l yX1_findOrAdd wsX1_findOrAdd ({ frames := 0, cells := 0, slots := 0, locals := 0 }) (XP D ad cI cL cR u [.ref (ad 21), .int (nI y), .int (d)] sz) (va_Qi (fun r_ u' => r_ = nI c ∧ u' = xs (xs (xs (xs u 22 c (nI y)) 23 c d) 21 7 (nI (c + 1))) 25 y (nI (c + 1))) (XB D ad cI cL cR) (gA 34 ad sz)) 0 0 (gA 34 ad sz) := by
  intro sz
  refine z_met (cc := cX1_findOrAdd) (maxL := 3) (ret := (some .int)) (by decide) rfl (Nat.le_of_ble_eq_true rfl) ?_
  intro pq lq sq mq aq Qq bq hmq cq C hr hml hown hts hlocks hK hX hsz hQ
  subst hsz
  have hT1 : ∀ w ∈ wsX10, w.before aq sq = true := fun w h => hts w ((by decide +kernel : ∀ w ∈ wsX10, w ∈ wsX1_findOrAdd) w h)
  refine z_sub (L' := [(0, .ref (ad 21)), (1, .int (nI y)), (2, .int (d))]) [0, 1, 2] rfl ?_
  refine z_iload_n C dX1_findOrAdd_0 1 rfl ?_
  refine z_if_lt (tgt := 13) C dX1_findOrAdd_1 (by decide) (fun zc1 => ?_) (fun zc1 => ?_)
  · skip
    exact (zneg (by omega) zc1).elim
  · skip
    refine z_iload_n C dX1_findOrAdd_4 1 rfl ?_
    refine z_aload_n C dX1_findOrAdd_5 0 rfl ?_
    refine z_get (q := 21) C (T := TX1) (N := 12) (ci := 1) (own := RX1) (index := 21) (v := .ref (ad 25)) hT1 hown hK (by decide) rfl rfl 4 (by decide) (hts (.fieldLink RX1 21 "TriggerAnalyzer$Exploration" "places" "[I") (by decide +kernel)) (fun _ h9 => h9) rfl dX1_findOrAdd_6 ?_
    refine z_alen (q := 25) (len := 16384) C hK (by decide) rfl 0 rfl (v := nI 16384) (by decide) dX1_findOrAdd_9 ?_
    refine z_icmp_lt (tgt := 15) C dX1_findOrAdd_10 (by decide) (fun zc10 => ?_) (fun zc10 => ?_)
    · skip
      have zn10 := zlt_t (a := y) (b := 16384) (by omega) (by omega) zc10
      refine z_aload_n C dX1_findOrAdd_15 0 rfl ?_
      refine z_get (q := 21) C (T := TX1) (N := 12) (ci := 1) (own := RX1) (index := 21) (v := .ref (ad 25)) hT1 hown hK (by decide) rfl rfl 4 (by decide) (hts (.fieldLink RX1 21 "TriggerAnalyzer$Exploration" "places" "[I") (by decide +kernel)) (fun _ h9 => h9) rfl dX1_findOrAdd_16 ?_
      refine z_iload_n C dX1_findOrAdd_19 1 rfl ?_
      refine z_iald (q := 25) (len := 16384) (k := y) C hK (by decide) rfl 0 rfl (rfl) (by omega) (by decide) dX1_findOrAdd_20 ?_
      refine z_topi (y := nI 0) (hp) ?_
      refine z_if_le (tgt := 33) C dX1_findOrAdd_21 (by decide) (fun zc21 => ?_) (fun zc21 => ?_)
      · skip
        have zn21 := zle0_t (by omega) zc21
        refine z_aload_n C dX1_findOrAdd_33 0 rfl ?_
        refine z_get (q := 21) C (T := TX1) (N := 12) (ci := 1) (own := RX1) (index := 49) (v := .int (u.1 21 7)) hT1 hown hK (by decide) rfl rfl 7 (by decide) (hts (.fieldLink RX1 49 "TriggerAnalyzer$Exploration" "count" "I") (by decide +kernel)) (fun _ h9 => h9) rfl dX1_findOrAdd_34 ?_
        refine z_topi (y := nI c) (hn) ?_
        refine z_if_lt (tgt := 50) C dX1_findOrAdd_37 (by decide) (fun zc37 => ?_) (fun zc37 => ?_)
        · skip
          exact (zneg (by omega) zc37).elim
        · skip
          refine z_aload_n C dX1_findOrAdd_40 0 rfl ?_
          refine z_get (q := 21) C (T := TX1) (N := 12) (ci := 1) (own := RX1) (index := 49) (v := .int (u.1 21 7)) hT1 hown hK (by decide) rfl rfl 7 (by decide) (hts (.fieldLink RX1 49 "TriggerAnalyzer$Exploration" "count" "I") (by decide +kernel)) (fun _ h9 => h9) rfl dX1_findOrAdd_41 ?_
          refine z_topi (y := nI c) (hn) ?_
          refine z_sipush (v := nI 1000) C (by decide) dX1_findOrAdd_44 ?_
          refine z_icmp_lt (tgt := 57) C dX1_findOrAdd_47 (by decide) (fun zc47 => ?_) (fun zc47 => ?_)
          · skip
            have zn47 := zlt_t (a := c) (b := 1000) (by omega) (by omega) zc47
            refine z_aload_n C dX1_findOrAdd_57 0 rfl ?_
            refine z_get (q := 21) C (T := TX1) (N := 12) (ci := 1) (own := RX1) (index := 9) (v := .ref (ad 22)) hT1 hown hK (by decide) rfl rfl 1 (by decide) (hts (.fieldLink RX1 9 "TriggerAnalyzer$Exploration" "situations" "[I") (by decide +kernel)) (fun _ h9 => h9) rfl dX1_findOrAdd_58 ?_
            refine z_aload_n C dX1_findOrAdd_61 0 rfl ?_
            refine z_get (q := 21) C (T := TX1) (N := 12) (ci := 1) (own := RX1) (index := 49) (v := .int (u.1 21 7)) hT1 hown hK (by decide) rfl rfl 7 (by decide) (hts (.fieldLink RX1 49 "TriggerAnalyzer$Exploration" "count" "I") (by decide +kernel)) (fun _ h9 => h9) rfl dX1_findOrAdd_62 ?_
            refine z_topi (y := nI c) (hn) ?_
            refine z_iload_n C dX1_findOrAdd_65 1 rfl ?_
            refine z_iast (q := 22) (len := 1000) (k := c) C hI hK (by decide) rfl 0 rfl (rfl) (by omega) (by decide) (f' := xF ad cI cL cR ((xs u 22 c (nI y)))) rfl xF_ne dX1_findOrAdd_66 ?_
            refine z_aload_n C dX1_findOrAdd_67 0 rfl ?_
            refine z_get (q := 21) C (T := TX1) (N := 12) (ci := 1) (own := RX1) (index := 15) (v := .ref (ad 23)) hT1 hown hK (by decide) rfl rfl 2 (by decide) (hts (.fieldLink RX1 15 "TriggerAnalyzer$Exploration" "depths" "[I") (by decide +kernel)) (fun _ h9 => h9) rfl dX1_findOrAdd_68 ?_
            refine z_aload_n C dX1_findOrAdd_71 0 rfl ?_
            refine z_get (q := 21) C (T := TX1) (N := 12) (ci := 1) (own := RX1) (index := 49) (v := .int ((xs u 22 c (nI y)).1 21 7)) hT1 hown hK (by decide) rfl rfl 7 (by decide) (hts (.fieldLink RX1 49 "TriggerAnalyzer$Exploration" "count" "I") (by decide +kernel)) (fun _ h9 => h9) rfl dX1_findOrAdd_72 ?_
            refine z_topi (y := u.1 21 7) (xs_c (by decide) _) ?_
            refine z_topi (y := nI c) (hn) ?_
            refine z_iload_n C dX1_findOrAdd_75 2 rfl ?_
            refine z_iast (q := 23) (len := 1000) (k := c) C hI hK (by decide) rfl 0 rfl (rfl) (by omega) (by decide) (f' := xF ad cI cL cR ((xs ((xs u 22 c (nI y))) 23 c (d)))) rfl xF_ne dX1_findOrAdd_76 ?_
            refine z_aload_n C dX1_findOrAdd_77 0 rfl ?_
            refine z_dup C rfl dX1_findOrAdd_78 ?_
            refine z_get (q := 21) C (T := TX1) (N := 12) (ci := 1) (own := RX1) (index := 49) (v := .int ((xs ((xs u 22 c (nI y))) 23 c (d)).1 21 7)) hT1 hown hK (by decide) rfl rfl 7 (by decide) (hts (.fieldLink RX1 49 "TriggerAnalyzer$Exploration" "count" "I") (by decide +kernel)) (fun _ h9 => h9) rfl dX1_findOrAdd_79 ?_
            refine z_topi (y := u.1 21 7) ((xs_c (by decide) _).trans (xs_c (by decide) _)) ?_
            refine z_topi (y := nI c) (hn) ?_
            refine z_iconst (v := nI 1) C (by decide) dX1_findOrAdd_82 ?_
            refine z_iadd C dX1_findOrAdd_83 ?_
            refine z_topi (y := nI (c + 1)) (nI_add c 1) ?_
            refine z_put (q := 21) C hI tyX1 (T := TX1) (N := 12) (ci := 1) (own := RX1) (index := 49) hT1 hown hK (by decide) rfl rfl 7 (by decide) (hts (.fieldLink RX1 49 "TriggerAnalyzer$Exploration" "count" "I") (by decide +kernel)) (fun _ h9 => h9) tyX1_ok nmX1 rfl rfl rfl (Nat.le_of_ble_eq_true rfl) (f' := xF ad cI cL cR ((xs ((xs ((xs u 22 c (nI y))) 23 c (d))) 21 7 (nI (c + 1))))) rfl xF_ne dX1_findOrAdd_84 ?_
            refine z_aload_n C dX1_findOrAdd_87 0 rfl ?_
            refine z_get (q := 21) C (T := TX1) (N := 12) (ci := 1) (own := RX1) (index := 21) (v := .ref (ad 25)) hT1 hown hK (by decide) rfl rfl 4 (by decide) (hts (.fieldLink RX1 21 "TriggerAnalyzer$Exploration" "places" "[I") (by decide +kernel)) (fun _ h9 => h9) rfl dX1_findOrAdd_88 ?_
            refine z_iload_n C dX1_findOrAdd_91 1 rfl ?_
            refine z_aload_n C dX1_findOrAdd_92 0 rfl ?_
            refine z_get (q := 21) C (T := TX1) (N := 12) (ci := 1) (own := RX1) (index := 49) (v := .int ((xs ((xs ((xs u 22 c (nI y))) 23 c (d))) 21 7 (nI (c + 1))).1 21 7)) hT1 hown hK (by decide) rfl rfl 7 (by decide) (hts (.fieldLink RX1 49 "TriggerAnalyzer$Exploration" "count" "I") (by decide +kernel)) (fun _ h9 => h9) rfl dX1_findOrAdd_93 ?_
            refine z_topi (y := nI (c + 1)) (xs_s _ _ _ _) ?_
            refine z_iast (q := 25) (len := 16384) (k := y) C hI hK (by decide) rfl 0 rfl (rfl) (by omega) (by decide) (f' := xF ad cI cL cR ((xs ((xs ((xs ((xs u 22 c (nI y))) 23 c (d))) 21 7 (nI (c + 1)))) 25 y (nI (c + 1))))) rfl xF_ne dX1_findOrAdd_96 ?_
            refine z_aload_n C dX1_findOrAdd_97 0 rfl ?_
            refine z_get (q := 21) C (T := TX1) (N := 12) (ci := 1) (own := RX1) (index := 49) (v := .int ((xs ((xs ((xs ((xs u 22 c (nI y))) 23 c (d))) 21 7 (nI (c + 1)))) 25 y (nI (c + 1))).1 21 7)) hT1 hown hK (by decide) rfl rfl 7 (by decide) (hts (.fieldLink RX1 49 "TriggerAnalyzer$Exploration" "count" "I") (by decide +kernel)) (fun _ h9 => h9) rfl dX1_findOrAdd_98 ?_
            refine z_topi (y := nI (c + 1)) ((xs_c (by decide) _).trans (xs_s _ _ _ _)) ?_
            refine z_iconst (v := nI 1) C (by decide) dX1_findOrAdd_101 ?_
            refine z_isub C dX1_findOrAdd_102 ?_
            refine z_topi (y := nI c) (nI_pred c) ?_
            exact z_iret C hr hlocks hQ ((xs ((xs ((xs ((xs u 22 c (nI y))) 23 c (d))) 21 7 (nI (c + 1)))) 25 y (nI (c + 1)))) (⟨rfl, rfl⟩) (fun _ _ => rfl) dX1_findOrAdd_103
          · skip
            have zn47 := zlt_f (a := c) (b := 1000) (by omega) (by omega) zc47
            exact False.elim (by omega)
      · skip
        have zn21 := zle0_f (by omega) zc21
        exact False.elim (by omega)
    · skip
      have zn10 := zlt_f (a := y) (b := 16384) (by omega) (by omega) zc10
      exact False.elim (by omega)
