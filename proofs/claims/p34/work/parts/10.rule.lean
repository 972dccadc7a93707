set_option maxHeartbeats 4000000 in
set_option maxRecDepth 100000 in
theorem c_X6_factsIn (l : Launch) (D : va_G) (ad : Nat → Nat) (cI cL cR : ClassId) (hI : gI 34 ad) (u : xS) (x : Nat) : ∀ sz, Met l yX6_factsIn wsX6_factsIn ({ frames := 0, cells := 0, slots := 0, locals := 0 }) (XP D ad cI cL cR u [.int (nI x)] sz) (va_Qi (fun r_ u' => r_ = nI (x % 64) ∧ u' = u) (XB D ad cI cL cR) (gA 34 ad sz)) 0 0 (gA 34 ad sz) := by
  intro sz
  refine z_met (cc := cX6_factsIn) (maxL := 1) (ret := (some .int)) (by decide) rfl (Nat.le_of_ble_eq_true rfl) ?_
  intro pq lq sq mq aq Qq bq hmq cq C hr hml hown hts hlocks hK hX hsz hQ
  subst hsz
  refine z_sub (L' := [(0, .int (nI x))]) [0] rfl ?_
  refine z_iload_n C dX6_factsIn_0 0 rfl ?_
  refine z_bipush (v := nI 63) C (by decide) dX6_factsIn_1 ?_
  refine z_iand C dX6_factsIn_3 ?_
  refine z_topi (y := nI (x % 64)) (zi_facts x) ?_
  exact z_iret C hr hlocks hQ u (⟨rfl, rfl⟩) (fun _ _ => rfl) dX6_factsIn_4

set_option maxHeartbeats 4000000 in
set_option maxRecDepth 100000 in
theorem c_X6_triggeredIn (l : Launch) (D : va_G) (ad : Nat → Nat) (cI cL cR : ClassId) (hI : gI 34 ad) (u : xS) (x : Nat) (hx : x < 2 ^ 31) : ∀ sz, Met l yX6_triggeredIn wsX6_triggeredIn ({ frames := 0, cells := 0, slots := 0, locals := 0 }) (XP D ad cI cL cR u [.int (nI x)] sz) (va_Qi (fun r_ u' => r_ = nI (x / 64) ∧ u' = u) (XB D ad cI cL cR) (gA 34 ad sz)) 0 0 (gA 34 ad sz) := by
  intro sz
  refine z_met (cc := cX6_triggeredIn) (maxL := 1) (ret := (some .int)) (by decide) rfl (Nat.le_of_ble_eq_true rfl) ?_
  intro pq lq sq mq aq Qq bq hmq cq C hr hml hown hts hlocks hK hX hsz hQ
  subst hsz
  refine z_sub (L' := [(0, .int (nI x))]) [0] rfl ?_
  refine z_iload_n C dX6_triggeredIn_0 0 rfl ?_
  refine z_bipush (v := nI 6) C (by decide) dX6_triggeredIn_1 ?_
  refine z_ishr C dX6_triggeredIn_3 ?_
  refine z_topi (y := nI (x / 64)) (zi_trig hx) ?_
  exact z_iret C hr hlocks hQ u (⟨rfl, rfl⟩) (fun _ _ => rfl) dX6_triggeredIn_4

set_option maxHeartbeats 4000000 in
set_option maxRecDepth 100000 in
theorem c_X6_situationOf (l : Launch) (D : va_G) (ad : Nat → Nat) (cI cL cR : ClassId) (hI : gI 34 ad) (u : xS) (f t : Nat) (hf : f < 64) (ht : t < 65536) : ∀ sz, Met l yX6_situationOf wsX6_situationOf ({ frames := 0, cells := 0, slots := 0, locals := 0 }) (XP D ad cI cL cR u [.int (nI f), .int (nI t)] sz) (va_Qi (fun r_ u' => r_ = nI (64 * t + f) ∧ u' = u) (XB D ad cI cL cR) (gA 34 ad sz)) 0 0 (gA 34 ad sz) := by
  intro sz
  refine z_met (cc := cX6_situationOf) (maxL := 2) (ret := (some .int)) (by decide) rfl (Nat.le_of_ble_eq_true rfl) ?_
  intro pq lq sq mq aq Qq bq hmq cq C hr hml hown hts hlocks hK hX hsz hQ
  subst hsz
  refine z_sub (L' := [(0, .int (nI f)), (1, .int (nI t))]) [0, 1] rfl ?_
  refine z_iload_n C dX6_situationOf_0 1 rfl ?_
  refine z_bipush (v := nI 6) C (by decide) dX6_situationOf_1 ?_
  refine z_ishl C dX6_situationOf_3 ?_
  refine z_iload_n C dX6_situationOf_4 0 rfl ?_
  refine z_ior C dX6_situationOf_5 ?_
  refine z_topi (y := nI (64 * t + f)) (zi_sit hf ht) ?_
  exact z_iret C hr hlocks hQ u (⟨rfl, rfl⟩) (fun _ _ => rfl) dX6_situationOf_6

set_option maxHeartbeats 4000000 in
set_option maxRecDepth 100000 in
theorem c_X6_changeCode (l : Launch) (D : va_G) (ad : Nat → Nat) (cI cL cR : ClassId) (hI : gI 34 ad) (u : xS) (f : Nat) (b : Int32) : ∀ sz, Met l yX6_changeCode wsX6_changeCode ({ frames := 0, cells := 0, slots := 0, locals := 0 }) (XP D ad cI cL cR u [.int (nI f), .int (b)] sz) (va_Qi (fun r_ u' => r_ = nI (2 * f + if b = 0 then 0 else 1) ∧ u' = u) (XB D ad cI cL cR) (gA 34 ad sz)) 0 0 (gA 34 ad sz) := by
  intro sz
  refine z_met (cc := cX6_changeCode) (maxL := 2) (ret := (some .int)) (by decide) rfl (Nat.le_of_ble_eq_true rfl) ?_
  intro pq lq sq mq aq Qq bq hmq cq C hr hml hown hts hlocks hK hX hsz hQ
  subst hsz
  refine z_sub (L' := [(0, .int (nI f)), (1, .int (b))]) [0, 1] rfl ?_
  refine z_iconst (v := nI 2) C (by decide) dX6_changeCode_0 ?_
  refine z_iload_n C dX6_changeCode_1 0 rfl ?_
  refine z_imul C dX6_changeCode_2 ?_
  refine z_topi (y := nI (2 * f)) (pk_mul 2 f) ?_
  refine z_iload_n C dX6_changeCode_3 1 rfl ?_
  refine z_if_eq (tgt := 11) C dX6_changeCode_4 (by decide) (fun zc4 => ?_) (fun zc4 => ?_)
  · skip
    refine z_iconst (v := nI 0) C (by decide) dX6_changeCode_11 ?_
    refine z_iadd C dX6_changeCode_12 ?_
    refine z_topi (y := nI ((2 * f) + 0)) (nI_add (2 * f) 0) ?_
    exact z_iret C hr hlocks hQ u (⟨by rw [if_pos zc4], rfl⟩) (fun _ _ => rfl) dX6_changeCode_13
  · skip
    refine z_iconst (v := nI 1) C (by decide) dX6_changeCode_7 ?_
    refine z_goto (tgt := 12) C dX6_changeCode_8 (by decide) ?_
    refine z_iadd C dX6_changeCode_12 ?_
    refine z_topi (y := nI ((2 * f) + 1)) (nI_add (2 * f) 1) ?_
    exact z_iret C hr hlocks hQ u (⟨by rw [if_neg zc4], rfl⟩) (fun _ _ => rfl) dX6_changeCode_13

set_option maxHeartbeats 4000000 in
set_option maxRecDepth 100000 in
theorem c_X4_isFull (l : Launch) (D : va_G) (ad : Nat → Nat) (cI cL cR : ClassId) (hI : gI 34 ad) (u : xS) (n : Nat) (B : Nat → Nat → Nat) (hR : xR u n B) (i : Nat) (hi : i < 8) : ∀ sz, Met l yX4_isFull wsX4_isFull ({ frames := 0, cells := 0, slots := 0, locals := 0 }) (XP D ad cI cL cR u [.ref (ad i)] sz) (va_Qi (fun r_ u' => r_ = (if 4 ≤ B i 4 then 1 else 0) ∧ u' = u) (XB D ad cI cL cR) (gA 34 ad sz)) 0 0 (gA 34 ad sz) := by
  intro sz
  refine z_met (cc := cX4_isFull) (maxL := 1) (ret := (some .boolean)) (by decide) rfl (Nat.le_of_ble_eq_true rfl) ?_
  intro pq lq sq mq aq Qq bq hmq cq C hr hml hown hts hlocks hK hX hsz hQ
  subst hsz
  have hT4 : ∀ w ∈ wsX40, w.before aq sq = true := fun w h => hts w ((by decide +kernel : ∀ w ∈ wsX40, w ∈ wsX4_isFull) w h)
  refine z_sub (L' := [(0, .ref (ad i))]) [0] rfl ?_
  have g4 : B i 4 ≤ 4 := gB_4 hR.1 hi
  refine z_aload_n C dX4_isFull_0 0 rfl ?_
  refine z_get (q := i) C (T := TX4) (N := 11) (ci := 4) (own := RX4) (index := 19) (v := .int (u.1 i 6)) hT4 hown hK (by omega) (xF_r hi) rfl 6 (by decide) (hts (.fieldLink RX4 19 "TriggerAnalyzer$Rule" "actionCount" "I") (by decide +kernel)) (fun _ h9 => h9) rfl dX4_isFull_1 ?_
  refine z_topi (y := nI (B i 4)) (xR_6 hR (by omega)) ?_
  refine z_aload_n C dX4_isFull_4 0 rfl ?_
  refine z_get (q := i) C (T := TX4) (N := 11) (ci := 4) (own := RX4) (index := 9) (v := .ref (ad (8 + i))) hT4 hown hK (by omega) (xF_r hi) rfl 1 (by decide) (hts (.fieldLink RX4 9 "TriggerAnalyzer$Rule" "actions" "[I") (by decide +kernel)) (fun _ h9 => h9) rfl dX4_isFull_5 ?_
  refine z_alen (q := 8 + i) (len := 4) C hK (by omega) (xF_a hi) 0 rfl (v := nI 4) (by decide) dX4_isFull_8 ?_
  refine z_icmp_lt (tgt := 16) C dX4_isFull_9 (by decide) (fun zc9 => ?_) (fun zc9 => ?_)
  · skip
    have zn9 := zlt_t (a := B i 4) (b := 4) (by omega) (by omega) zc9
    refine z_iconst (v := nI 0) C (by decide) dX4_isFull_16 ?_
    exact z_zret C hr hlocks rfl hQ u (⟨by rw [if_neg (by omega)]; rfl, rfl⟩) (fun _ _ => rfl) dX4_isFull_17
  · skip
    have zn9 := zlt_f (a := B i 4) (b := 4) (by omega) (by omega) zc9
    refine z_iconst (v := nI 1) C (by decide) dX4_isFull_12 ?_
    refine z_goto (tgt := 17) C dX4_isFull_13 (by decide) ?_
    exact z_zret C hr hlocks rfl hQ u (⟨by rw [if_pos (by omega)]; rfl, rfl⟩) (fun _ _ => rfl) dX4_isFull_17

set_option maxHeartbeats 4000000 in
set_option maxRecDepth 100000 in
theorem c_X4_append (l : Launch) (D : va_G) (ad : Nat → Nat) (cI cL cR : ClassId) (hI : gI 34 ad) (u : xS) (i : Nat) (hi : i < 8) (c : Nat) (hc : c < 4) (h6 : u.1 i 6 = nI c) (a : Nat) (ha : a < 12) : ∀ sz, Met l yX4_append wsX4_append ({ frames := 0, cells := 0, slots := 0, locals := 0 }) (XP D ad cI cL cR u [.ref (ad i), .int (nI a)] sz) (va_Qv (fun u' => u' = (if a % 2 = 1 then xs (xs (xs u (8 + i) c (nI a)) i 6 (nI (c + 1))) i 7 (u.1 i 7 ||| nI (2 ^ (a / 2))) else xs (xs (xs u (8 + i) c (nI a)) i 6 (nI (c + 1))) i 8 (u.1 i 8 ||| nI (2 ^ (a / 2))))) (XB D ad cI cL cR) (gA 34 ad sz)) 0 0 (gA 34 ad sz) := by
  intro sz
  refine z_met (cc := cX4_append) (maxL := 3) (ret := none) (by decide) rfl (Nat.le_of_ble_eq_true rfl) ?_
  intro pq lq sq mq aq Qq bq hmq cq C hr hml hown hts hlocks hK hX hsz hQ
  subst hsz
  have hT4 : ∀ w ∈ wsX40, w.before aq sq = true := fun w h => hts w ((by decide +kernel : ∀ w ∈ wsX40, w ∈ wsX4_append) w h)
  refine z_sub (L' := [(0, .ref (ad i)), (1, .int (nI a))]) [0, 1] rfl ?_
  refine z_aload_n C dX4_append_0 0 rfl ?_
  refine z_get (q := i) C (T := TX4) (N := 11) (ci := 4) (own := RX4) (index := 19) (v := .int (u.1 i 6)) hT4 hown hK (by omega) (xF_r hi) rfl 6 (by decide) (hts (.fieldLink RX4 19 "TriggerAnalyzer$Rule" "actionCount" "I") (by decide +kernel)) (fun _ h9 => h9) rfl dX4_append_1 ?_
  refine z_topi (y := nI c) (h6) ?_
  refine z_if_lt (tgt := 19) C dX4_append_4 (by decide) (fun zc4 => ?_) (fun zc4 => ?_)
  · skip
    exact (zneg (by omega) zc4).elim
  · skip
    refine z_aload_n C dX4_append_7 0 rfl ?_
    refine z_get (q := i) C (T := TX4) (N := 11) (ci := 4) (own := RX4) (index := 19) (v := .int (u.1 i 6)) hT4 hown hK (by omega) (xF_r hi) rfl 6 (by decide) (hts (.fieldLink RX4 19 "TriggerAnalyzer$Rule" "actionCount" "I") (by decide +kernel)) (fun _ h9 => h9) rfl dX4_append_8 ?_
    refine z_topi (y := nI c) (h6) ?_
    refine z_aload_n C dX4_append_11 0 rfl ?_
    refine z_get (q := i) C (T := TX4) (N := 11) (ci := 4) (own := RX4) (index := 9) (v := .ref (ad (8 + i))) hT4 hown hK (by omega) (xF_r hi) rfl 1 (by decide) (hts (.fieldLink RX4 9 "TriggerAnalyzer$Rule" "actions" "[I") (by decide +kernel)) (fun _ h9 => h9) rfl dX4_append_12 ?_
    refine z_alen (q := 8 + i) (len := 4) C hK (by omega) (xF_a hi) 0 rfl (v := nI 4) (by decide) dX4_append_15 ?_
    refine z_icmp_lt (tgt := 20) C dX4_append_16 (by decide) (fun zc16 => ?_) (fun zc16 => ?_)
    · skip
      have zn16 := zlt_t (a := c) (b := 4) (by omega) (by omega) zc16
      refine z_aload_n C dX4_append_20 0 rfl ?_
      refine z_get (q := i) C (T := TX4) (N := 11) (ci := 4) (own := RX4) (index := 9) (v := .ref (ad (8 + i))) hT4 hown hK (by omega) (xF_r hi) rfl 1 (by decide) (hts (.fieldLink RX4 9 "TriggerAnalyzer$Rule" "actions" "[I") (by decide +kernel)) (fun _ h9 => h9) rfl dX4_append_21 ?_
      refine z_aload_n C dX4_append_24 0 rfl ?_
      refine z_get (q := i) C (T := TX4) (N := 11) (ci := 4) (own := RX4) (index := 19) (v := .int (u.1 i 6)) hT4 hown hK (by omega) (xF_r hi) rfl 6 (by decide) (hts (.fieldLink RX4 19 "TriggerAnalyzer$Rule" "actionCount" "I") (by decide +kernel)) (fun _ h9 => h9) rfl dX4_append_25 ?_
      refine z_topi (y := nI c) (h6) ?_
      refine z_iload_n C dX4_append_28 1 rfl ?_
      refine z_iast (q := 8 + i) (len := 4) (k := c) C hI hK (by omega) (xF_a hi) 0 rfl (rfl) (by omega) (by decide) (f' := xF ad cI cL cR ((xs u (8 + i) c (nI a)))) (xF_pa hi) xF_ne dX4_append_29 ?_
      refine z_aload_n C dX4_append_30 0 rfl ?_
      refine z_dup C rfl dX4_append_31 ?_
      refine z_get (q := i) C (T := TX4) (N := 11) (ci := 4) (own := RX4) (index := 19) (v := .int ((xs u (8 + i) c (nI a)).1 i 6)) hT4 hown hK (by omega) (xF_r hi) rfl 6 (by decide) (hts (.fieldLink RX4 19 "TriggerAnalyzer$Rule" "actionCount" "I") (by decide +kernel)) (fun _ h9 => h9) rfl dX4_append_32 ?_
      refine z_topi (y := u.1 i 6) (xs_c (by omega) _) ?_
      refine z_topi (y := nI c) (h6) ?_
      refine z_iconst (v := nI 1) C (by decide) dX4_append_35 ?_
      refine z_iadd C dX4_append_36 ?_
      refine z_topi (y := nI (c + 1)) (nI_add c 1) ?_
      refine z_put (q := i) C hI tyX4 (T := TX4) (N := 11) (ci := 4) (own := RX4) (index := 19) hT4 hown hK (by omega) (xF_r hi) rfl 6 (by decide) (hts (.fieldLink RX4 19 "TriggerAnalyzer$Rule" "actionCount" "I") (by decide +kernel)) (fun _ h9 => h9) tyX4_ok nmX4 rfl rfl rfl (Nat.le_of_ble_eq_true rfl) (f' := xF ad cI cL cR ((xs ((xs u (8 + i) c (nI a))) i 6 (nI (c + 1))))) (xF_p6 hi) xF_ne dX4_append_37 ?_
      refine z_iconst (v := nI 1) C (by decide) dX4_append_40 ?_
      refine z_iload_n C dX4_append_41 1 rfl ?_
      refine z_iconst (v := nI 1) C (by decide) dX4_append_42 ?_
      refine z_ishr C dX4_append_43 ?_
      refine z_topi (y := nI (a / 2)) (zi_half (by omega)) ?_
      refine z_ishl C dX4_append_44 ?_
      refine z_topi (y := nI (2 ^ (a / 2))) (zi_shl1 (by omega)) ?_
      refine z_istore_n (L' := [(2, .int (nI (2 ^ (a / 2)))), (0, .ref (ad i)), (1, .int (nI a))]) C dX4_append_45 (by decide) rfl ?_
      refine z_iload_n C dX4_append_46 2 rfl ?_
      refine z_iconst (v := nI 1) C (by decide) dX4_append_47 ?_
      refine z_iand C dX4_append_48 ?_
      refine z_topi (y := nI (a % 2)) (fa_mask a 1) ?_
      refine z_iconst (v := nI 1) C (by decide) dX4_append_49 ?_
      refine z_icmp_ne (tgt := 66) C dX4_append_50 (by decide) (fun zc50 => ?_) (fun zc50 => ?_)
      · skip
        have zn50 := zeq_f (a := a % 2) (b := 1) zc50
        refine z_aload_n C dX4_append_66 1 rfl ?_
        refine z_dup C rfl dX4_append_67 ?_
        refine z_get (q := i) C (T := TX4) (N := 11) (ci := 4) (own := RX4) (index := 25) (v := .int ((xs ((xs u (8 + i) c (nI a))) i 6 (nI (c + 1))).1 i 8)) hT4 hown hK (by omega) (xF_r hi) rfl 8 (by decide) (hts (.fieldLink RX4 25 "TriggerAnalyzer$Rule" "unsetFacts" "I") (by decide +kernel)) (fun _ h9 => h9) rfl dX4_append_68 ?_
        refine z_topi (y := u.1 i 8) ((xs_j (by decide)).trans (xs_c (by omega) _)) ?_
        refine z_iload_n C dX4_append_71 0 rfl ?_
        refine z_ior C dX4_append_72 ?_
        refine z_put (q := i) C hI tyX4 (T := TX4) (N := 11) (ci := 4) (own := RX4) (index := 25) hT4 hown hK (by omega) (xF_r hi) rfl 8 (by decide) (hts (.fieldLink RX4 25 "TriggerAnalyzer$Rule" "unsetFacts" "I") (by decide +kernel)) (fun _ h9 => h9) tyX4_ok nmX4 rfl rfl rfl (Nat.le_of_ble_eq_true rfl) (f' := xF ad cI cL cR ((xs ((xs ((xs u (8 + i) c (nI a))) i 6 (nI (c + 1)))) i 8 ((u.1 i 8) ||| (nI (2 ^ (a / 2))))))) (xF_p8 hi) xF_ne dX4_append_73 ?_
        exact z_vret C hr hlocks hQ ((xs ((xs ((xs u (8 + i) c (nI a))) i 6 (nI (c + 1)))) i 8 ((u.1 i 8) ||| (nI (2 ^ (a / 2)))))) (by rw [if_neg zn50]) (fun _ _ => rfl) dX4_append_76
      · skip
        have zn50 := zeq_t (a := a % 2) (b := 1) (by omega) (by omega) zc50
        refine z_aload_n C dX4_append_53 1 rfl ?_
        refine z_dup C rfl dX4_append_54 ?_
        refine z_get (q := i) C (T := TX4) (N := 11) (ci := 4) (own := RX4) (index := 22) (v := .int ((xs ((xs u (8 + i) c (nI a))) i 6 (nI (c + 1))).1 i 7)) hT4 hown hK (by omega) (xF_r hi) rfl 7 (by decide) (hts (.fieldLink RX4 22 "TriggerAnalyzer$Rule" "setFacts" "I") (by decide +kernel)) (fun _ h9 => h9) rfl dX4_append_55 ?_
        refine z_topi (y := u.1 i 7) ((xs_j (by decide)).trans (xs_c (by omega) _)) ?_
        refine z_iload_n C dX4_append_58 0 rfl ?_
        refine z_ior C dX4_append_59 ?_
        refine z_put (q := i) C hI tyX4 (T := TX4) (N := 11) (ci := 4) (own := RX4) (index := 22) hT4 hown hK (by omega) (xF_r hi) rfl 7 (by decide) (hts (.fieldLink RX4 22 "TriggerAnalyzer$Rule" "setFacts" "I") (by decide +kernel)) (fun _ h9 => h9) tyX4_ok nmX4 rfl rfl rfl (Nat.le_of_ble_eq_true rfl) (f' := xF ad cI cL cR ((xs ((xs ((xs u (8 + i) c (nI a))) i 6 (nI (c + 1)))) i 7 ((u.1 i 7) ||| (nI (2 ^ (a / 2))))))) (xF_p7 hi) xF_ne dX4_append_60 ?_
        refine z_goto (tgt := 76) C dX4_append_63 (by decide) ?_
        exact z_vret C hr hlocks hQ ((xs ((xs ((xs u (8 + i) c (nI a))) i 6 (nI (c + 1)))) i 7 ((u.1 i 7) ||| (nI (2 ^ (a / 2)))))) (by rw [if_pos zn50]) (fun _ _ => rfl) dX4_append_76
    · skip
      have zn16 := zlt_f (a := c) (b := 4) (by omega) (by omega) zc16
      exact False.elim (by omega)

set_option maxHeartbeats 4000000 in
set_option maxRecDepth 100000 in
theorem c_X4_actionAt (l : Launch) (D : va_G) (ad : Nat → Nat) (cI cL cR : ClassId) (hI : gI 34 ad) (u : xS) (n : Nat) (B : Nat → Nat → Nat) (hR : xR u n B) (i : Nat) (hi : i < 8) (k : Nat) (hk : k < B i 4) : ∀ sz, Met l yX4_actionAt wsX4_actionAt ({ frames := 0, cells := 0, slots := 0, locals := 0 }) (XP D ad cI cL cR u [.ref (ad i), .int (nI k)] sz) (va_Qi (fun r_ u' => r_ = nI (B i (6 + k)) ∧ u' = u) (XB D ad cI cL cR) (gA 34 ad sz)) 0 0 (gA 34 ad sz) := by
  intro sz
  refine z_met (cc := cX4_actionAt) (maxL := 2) (ret := (some .int)) (by decide) rfl (Nat.le_of_ble_eq_true rfl) ?_
  intro pq lq sq mq aq Qq bq hmq cq C hr hml hown hts hlocks hK hX hsz hQ
  subst hsz
  have hT4 : ∀ w ∈ wsX40, w.before aq sq = true := fun w h => hts w ((by decide +kernel : ∀ w ∈ wsX40, w ∈ wsX4_actionAt) w h)
  refine z_sub (L' := [(0, .ref (ad i)), (1, .int (nI k))]) [0, 1] rfl ?_
  have g4 : B i 4 ≤ 4 := gB_4 hR.1 hi
  refine z_iload_n C dX4_actionAt_0 1 rfl ?_
  refine z_if_lt (tgt := 22) C dX4_actionAt_1 (by decide) (fun zc1 => ?_) (fun zc1 => ?_)
  · skip
    exact (zneg (by omega) zc1).elim
  · skip
    refine z_iload_n C dX4_actionAt_4 1 rfl ?_
    refine z_aload_n C dX4_actionAt_5 0 rfl ?_
    refine z_get (q := i) C (T := TX4) (N := 11) (ci := 4) (own := RX4) (index := 9) (v := .ref (ad (8 + i))) hT4 hown hK (by omega) (xF_r hi) rfl 1 (by decide) (hts (.fieldLink RX4 9 "TriggerAnalyzer$Rule" "actions" "[I") (by decide +kernel)) (fun _ h9 => h9) rfl dX4_actionAt_6 ?_
    refine z_alen (q := 8 + i) (len := 4) C hK (by omega) (xF_a hi) 0 rfl (v := nI 4) (by decide) dX4_actionAt_9 ?_
    refine z_icmp_ge (tgt := 22) C dX4_actionAt_10 (by decide) (fun zc10 => ?_) (fun zc10 => ?_)
    · skip
      have zn10 := zge_t (a := k) (b := 4) (by omega) (by omega) zc10
      exact False.elim (by omega)
    · skip
      have zn10 := zge_f (a := k) (b := 4) (by omega) (by omega) zc10
      refine z_aload_n C dX4_actionAt_13 0 rfl ?_
      refine z_get (q := i) C (T := TX4) (N := 11) (ci := 4) (own := RX4) (index := 9) (v := .ref (ad (8 + i))) hT4 hown hK (by omega) (xF_r hi) rfl 1 (by decide) (hts (.fieldLink RX4 9 "TriggerAnalyzer$Rule" "actions" "[I") (by decide +kernel)) (fun _ h9 => h9) rfl dX4_actionAt_14 ?_
      refine z_iload_n C dX4_actionAt_17 1 rfl ?_
      refine z_iald (q := 8 + i) (len := 4) (k := k) C hK (by omega) (xF_a hi) 0 rfl (rfl) (by omega) (by decide) dX4_actionAt_18 ?_
      refine z_topi (y := nI (B i (6 + k))) (xR_a hR hi hk) ?_
      refine z_goto (tgt := 23) C dX4_actionAt_19 (by decide) ?_
      exact z_iret C hr hlocks hQ u (⟨rfl, rfl⟩) (fun _ _ => rfl) dX4_actionAt_23

set_option maxHeartbeats 4000000 in
set_option maxRecDepth 100000 in
theorem c_X4_isOver (l : Launch) (D : va_G) (ad : Nat → Nat) (cI cL cR : ClassId) (hI : gI 34 ad) (u : xS) (n : Nat) (B : Nat → Nat → Nat) (hR : xR u n B) (i : Nat) (hi : i < 8) (j : Nat) (hj : j < 8) : ∀ sz, Met l yX4_isOver wsX4_isOver ({ frames := 0, cells := 0, slots := 0, locals := 0 }) (XP D ad cI cL cR u [.ref (ad i), .ref (ad j)] sz) (va_Qi (fun r_ u' => r_ = (if (B i 5).testBit j = true then 1 else 0) ∧ u' = u) (XB D ad cI cL cR) (gA 34 ad sz)) 0 0 (gA 34 ad sz) := by
  intro sz
  refine z_met (cc := cX4_isOver) (maxL := 2) (ret := (some .boolean)) (by decide) rfl (Nat.le_of_ble_eq_true rfl) ?_
  intro pq lq sq mq aq Qq bq hmq cq C hr hml hown hts hlocks hK hX hsz hQ
  subst hsz
  have hT4 : ∀ w ∈ wsX40, w.before aq sq = true := fun w h => hts w ((by decide +kernel : ∀ w ∈ wsX40, w ∈ wsX4_isOver) w h)
  refine z_sub (L' := [(0, .ref (ad i)), (1, .ref (ad j))]) [0, 1] rfl ?_
  refine z_aload_n C dX4_isOver_0 0 rfl ?_
  refine z_get (q := i) C (T := TX4) (N := 11) (ci := 4) (own := RX4) (index := 28) (v := .int (u.1 i 9)) hT4 hown hK (by omega) (xF_r hi) rfl 9 (by decide) (hts (.fieldLink RX4 28 "TriggerAnalyzer$Rule" "below" "I") (by decide +kernel)) (fun _ h9 => h9) rfl dX4_isOver_1 ?_
  refine z_topi (y := nI (B i 5)) (xR_9 hR (by omega)) ?_
  refine z_aload_n C dX4_isOver_4 1 rfl ?_
  refine z_get (q := j) C (T := TX4) (N := 11) (ci := 4) (own := RX4) (index := 15) (v := .int (nI (2 ^ j))) hT4 hown hK (by omega) (xF_r hj) rfl 0 (by decide) (hts (.fieldLink RX4 15 "TriggerAnalyzer$Rule" "bit" "I") (by decide +kernel)) (fun _ h9 => h9) rfl dX4_isOver_5 ?_
  refine z_iand C dX4_isOver_8 ?_
  refine z_topi (y := nI ((B i 5) &&& (2 ^ j))) (fa_and (B i 5) (2 ^ j)) ?_
  refine z_if_eq (tgt := 16) C dX4_isOver_9 (by decide) (fun zc9 => ?_) (fun zc9 => ?_)
  · skip
    have h := zi_bitF (by omega) zc9
    refine z_iconst (v := nI 0) C (by decide) dX4_isOver_16 ?_
    exact z_zret C hr hlocks rfl hQ u (⟨by rw [h]; rfl, rfl⟩) (fun _ _ => rfl) dX4_isOver_17
  · skip
    have h := zi_bitT (by omega) zc9
    refine z_iconst (v := nI 1) C (by decide) dX4_isOver_12 ?_
    refine z_goto (tgt := 17) C dX4_isOver_13 (by decide) ?_
    exact z_zret C hr hlocks rfl hQ u (⟨by rw [h]; rfl, rfl⟩) (fun _ _ => rfl) dX4_isOver_17

set_option maxHeartbeats 4000000 in
set_option maxRecDepth 100000 in
theorem c_X4_isReadyIn (l : Launch) (D : va_G) (ad : Nat → Nat) (cI cL cR : ClassId) (hI : gI 34 ad) (u : xS) (n : Nat) (B : Nat → Nat → Nat) (hR : xR u n B) (i : Nat) (hi : i < 8) (x : Nat) (hx : x < 16384) : ∀ sz, Met l yX4_isReadyIn wsX4_isReadyIn ({ frames := 1, cells := 0, slots := 0, locals := 20 }) (XP D ad cI cL cR u [.ref (ad i), .int (nI x)] sz) (va_Qi (fun r_ u' => r_ = (if rdy1 B i (x / 64) = true then 1 else 0) ∧ u' = u) (XB D ad cI cL cR) (gA 34 ad sz)) 0 0 (gA 34 ad sz) := by
  intro sz
  refine z_met (cc := cX4_isReadyIn) (maxL := 3) (ret := (some .boolean)) (by decide) rfl (Nat.le_of_ble_eq_true rfl) ?_
  intro pq lq sq mq aq Qq bq hmq cq C hr hml hown hts hlocks hK hX hsz hQ
  subst hsz
  have hT4 : ∀ w ∈ wsX40, w.before aq sq = true := fun w h => hts w ((by decide +kernel : ∀ w ∈ wsX40, w ∈ wsX4_isReadyIn) w h)
  refine z_sub (L' := [(0, .ref (ad i)), (1, .int (nI x))]) [0, 1] rfl ?_
  have ga : abv B i < 256 := abv_lt B i
  have gx : x / 64 &&& abv B i < 256 := and_lt ga
  refine z_iload_n C dX4_isReadyIn_0 1 rfl ?_
  refine z_callSNi xX_ok C hml hown hts hK hX (c_X6_triggeredIn l D ad cI cL cR hI u x (by omega)) ⟨va_cnB 1 hts gX4_isReadyIn_X6_triggeredIn_n31 rfl rfl rfl hX.1.1 (hts (.initialized RX6) (by decide +kernel)) (by decide +kernel) ⟨Nat.le_of_ble_eq_true rfl, Nat.le_of_ble_eq_true rfl⟩, hts (.static yX6_triggeredIn) (by decide +kernel), trivial⟩ rfl (st := []) rfl (Nat.le_of_ble_eq_true rfl) dX4_isReadyIn_1 ⟨Nat.le_of_ble_eq_true rfl, Nat.le_of_ble_eq_true rfl⟩ (fun r1 u1 h1 => ?_)
  obtain ⟨zr1, zu1⟩ := h1
  subst r1
  subst u1
  refine z_istore_n (L' := [(2, .int (nI (x / 64))), (0, .ref (ad i)), (1, .int (nI x))]) C dX4_isReadyIn_4 (by decide) rfl ?_
  refine z_iload_n C dX4_isReadyIn_5 0 rfl ?_
  refine z_aload_n C dX4_isReadyIn_6 1 rfl ?_
  refine z_get (q := i) C (T := TX4) (N := 11) (ci := 4) (own := RX4) (index := 15) (v := .int (nI (2 ^ i))) hT4 hown hK (by omega) (xF_r hi) rfl 0 (by decide) (hts (.fieldLink RX4 15 "TriggerAnalyzer$Rule" "bit" "I") (by decide +kernel)) (fun _ h9 => h9) rfl dX4_isReadyIn_7 ?_
  refine z_iand C dX4_isReadyIn_10 ?_
  refine z_topi (y := nI ((x / 64) &&& (2 ^ i))) (fa_and (x / 64) (2 ^ i)) ?_
  refine z_if_eq (tgt := 27) C dX4_isReadyIn_11 (by decide) (fun zc11 => ?_) (fun zc11 => ?_)
  · skip
    have h := zi_bitF (by omega) zc11
    have h2 : rdy1 B i (x / 64) = false := by unfold rdy1; rw [h]; rfl
    refine z_iconst (v := nI 0) C (by decide) dX4_isReadyIn_27 ?_
    exact z_zret C hr hlocks rfl hQ u (⟨by rw [h2]; rfl, rfl⟩) (fun _ _ => rfl) dX4_isReadyIn_28
  · skip
    have h := zi_bitT (by omega) zc11
    refine z_iload_n C dX4_isReadyIn_14 0 rfl ?_
    refine z_aload_n C dX4_isReadyIn_15 1 rfl ?_
    refine z_get (q := i) C (T := TX4) (N := 11) (ci := 4) (own := RX4) (index := 35) (v := .int (u.1 i 10)) hT4 hown hK (by omega) (xF_r hi) rfl 10 (by decide) (hts (.fieldLink RX4 35 "TriggerAnalyzer$Rule" "above" "I") (by decide +kernel)) (fun _ h9 => h9) rfl dX4_isReadyIn_16 ?_
    refine z_topi (y := nI (abv B i)) (xR_10 hR (by omega)) ?_
    refine z_iand C dX4_isReadyIn_19 ?_
    refine z_topi (y := nI ((x / 64) &&& (abv B i))) (fa_and (x / 64) (abv B i)) ?_
    refine z_if_ne (tgt := 27) C dX4_isReadyIn_20 (by decide) (fun zc20 => ?_) (fun zc20 => ?_)
    · skip
      have zn20 := z0_f zc20
      have h2 : rdy1 B i (x / 64) = false := by unfold rdy1; rw [decide_eq_false zn20, Bool.and_false]
      refine z_iconst (v := nI 0) C (by decide) dX4_isReadyIn_27 ?_
      exact z_zret C hr hlocks rfl hQ u (⟨by rw [h2]; rfl, rfl⟩) (fun _ _ => rfl) dX4_isReadyIn_28
    · skip
      have zn20 := z0_t (by omega) zc20
      have h2 : rdy1 B i (x / 64) = true := by unfold rdy1; rw [h, zn20]; rfl
      refine z_iconst (v := nI 1) C (by decide) dX4_isReadyIn_23 ?_
      refine z_goto (tgt := 28) C dX4_isReadyIn_24 (by decide) ?_
      exact z_zret C hr hlocks rfl hQ u (⟨by rw [h2]; rfl, rfl⟩) (fun _ _ => rfl) dX4_isReadyIn_28

set_option maxHeartbeats 4000000 in
set_option maxRecDepth 100000 in
theorem c_X4_holdsIn (l : Launch) (D : va_G) (ad : Nat → Nat) (cI cL cR : ClassId) (hI : gI 34 ad) (u : xS) (n : Nat) (B : Nat → Nat → Nat) (hR : xR u n B) (i : Nat) (hi : i < 8) (x : Nat) (hx : x < 16384) : ∀ sz, Met l yX4_holdsIn wsX4_holdsIn ({ frames := 1, cells := 0, slots := 0, locals := 20 }) (XP D ad cI cL cR u [.ref (ad i), .int (nI x)] sz) (va_Qi (fun r_ u' => r_ = (if hol B i (x % 64) = true then 1 else 0) ∧ u' = u) (XB D ad cI cL cR) (gA 34 ad sz)) 0 0 (gA 34 ad sz) := by
  intro sz
  refine z_met (cc := cX4_holdsIn) (maxL := 3) (ret := (some .boolean)) (by decide) rfl (Nat.le_of_ble_eq_true rfl) ?_
  intro pq lq sq mq aq Qq bq hmq cq C hr hml hown hts hlocks hK hX hsz hQ
  subst hsz
  have hT4 : ∀ w ∈ wsX40, w.before aq sq = true := fun w h => hts w ((by decide +kernel : ∀ w ∈ wsX40, w ∈ wsX4_holdsIn) w h)
  refine z_sub (L' := [(0, .ref (ad i)), (1, .int (nI x))]) [0, 1] rfl ?_
  have g1 : B i 1 < 64 := gB_1 hR.1 hi
  have g2 : B i 2 < 64 := gB_2 hR.1 hi
  have g3 : x % 64 &&& B i 1 < 64 := and_lt g1
  have g4 : x % 64 &&& B i 2 < 64 := and_lt g2
  refine z_iload_n C dX4_holdsIn_0 1 rfl ?_
  refine z_callSNi xX_ok C hml hown hts hK hX (c_X6_factsIn l D ad cI cL cR hI u x) ⟨va_cnB 1 hts gX4_holdsIn_X6_factsIn_n38 rfl rfl rfl hX.1.2.1 (hts (.initialized RX6) (by decide +kernel)) (by decide +kernel) ⟨Nat.le_of_ble_eq_true rfl, Nat.le_of_ble_eq_true rfl⟩, hts (.static yX6_factsIn) (by decide +kernel), trivial⟩ rfl (st := []) rfl (Nat.le_of_ble_eq_true rfl) dX4_holdsIn_1 ⟨Nat.le_of_ble_eq_true rfl, Nat.le_of_ble_eq_true rfl⟩ (fun r1 u1 h1 => ?_)
  obtain ⟨zr1, zu1⟩ := h1
  subst r1
  subst u1
  refine z_istore_n (L' := [(2, .int (nI (x % 64))), (0, .ref (ad i)), (1, .int (nI x))]) C dX4_holdsIn_4 (by decide) rfl ?_
  refine z_iload_n C dX4_holdsIn_5 0 rfl ?_
  refine z_aload_n C dX4_holdsIn_6 1 rfl ?_
  refine z_get (q := i) C (T := TX4) (N := 11) (ci := 4) (own := RX4) (index := 41) (v := .int (u.1 i 3)) hT4 hown hK (by omega) (xF_r hi) rfl 3 (by decide) (hts (.fieldLink RX4 41 "TriggerAnalyzer$Rule" "must" "I") (by decide +kernel)) (fun _ h9 => h9) rfl dX4_holdsIn_7 ?_
  refine z_topi (y := nI (B i 1)) (xR_3 hR (by omega)) ?_
  refine z_iand C dX4_holdsIn_10 ?_
  refine z_topi (y := nI ((x % 64) &&& (B i 1))) (fa_and (x % 64) (B i 1)) ?_
  refine z_aload_n C dX4_holdsIn_11 1 rfl ?_
  refine z_get (q := i) C (T := TX4) (N := 11) (ci := 4) (own := RX4) (index := 41) (v := .int (u.1 i 3)) hT4 hown hK (by omega) (xF_r hi) rfl 3 (by decide) (hts (.fieldLink RX4 41 "TriggerAnalyzer$Rule" "must" "I") (by decide +kernel)) (fun _ h9 => h9) rfl dX4_holdsIn_12 ?_
  refine z_topi (y := nI (B i 1)) (xR_3 hR (by omega)) ?_
  refine z_icmp_ne (tgt := 31) C dX4_holdsIn_15 (by decide) (fun zc15 => ?_) (fun zc15 => ?_)
  · skip
    have zn15 := zeq_f (a := (x % 64) &&& (B i 1)) (b := B i 1) zc15
    have h2 : hol B i (x % 64) = false := by unfold hol; rw [decide_eq_false zn15, Bool.false_and]
    refine z_iconst (v := nI 0) C (by decide) dX4_holdsIn_31 ?_
    exact z_zret C hr hlocks rfl hQ u (⟨by rw [h2]; rfl, rfl⟩) (fun _ _ => rfl) dX4_holdsIn_32
  · skip
    have zn15 := zeq_t (a := (x % 64) &&& (B i 1)) (b := B i 1) (by omega) (by omega) zc15
    refine z_iload_n C dX4_holdsIn_18 0 rfl ?_
    refine z_aload_n C dX4_holdsIn_19 1 rfl ?_
    refine z_get (q := i) C (T := TX4) (N := 11) (ci := 4) (own := RX4) (index := 44) (v := .int (u.1 i 4)) hT4 hown hK (by omega) (xF_r hi) rfl 4 (by decide) (hts (.fieldLink RX4 44 "TriggerAnalyzer$Rule" "mustNot" "I") (by decide +kernel)) (fun _ h9 => h9) rfl dX4_holdsIn_20 ?_
    refine z_topi (y := nI (B i 2)) (xR_4 hR (by omega)) ?_
    refine z_iand C dX4_holdsIn_23 ?_
    refine z_topi (y := nI ((x % 64) &&& (B i 2))) (fa_and (x % 64) (B i 2)) ?_
    refine z_if_ne (tgt := 31) C dX4_holdsIn_24 (by decide) (fun zc24 => ?_) (fun zc24 => ?_)
    · skip
      have zn24 := z0_f zc24
      have h2 : hol B i (x % 64) = false := by unfold hol; rw [decide_eq_false zn24, Bool.and_false]
      refine z_iconst (v := nI 0) C (by decide) dX4_holdsIn_31 ?_
      exact z_zret C hr hlocks rfl hQ u (⟨by rw [h2]; rfl, rfl⟩) (fun _ _ => rfl) dX4_holdsIn_32
    · skip
      have zn24 := z0_t (by omega) zc24
      have h2 : hol B i (x % 64) = true := by unfold hol; rw [decide_eq_true zn15, decide_eq_true zn24]; rfl
      refine z_iconst (v := nI 1) C (by decide) dX4_holdsIn_27 ?_
      refine z_goto (tgt := 32) C dX4_holdsIn_28 (by decide) ?_
      exact z_zret C hr hlocks rfl hQ u (⟨by rw [h2]; rfl, rfl⟩) (fun _ _ => rfl) dX4_holdsIn_32

set_option maxHeartbeats 4000000 in
set_option maxRecDepth 100000 in
theorem c_X4_changedFacts (l : Launch) (D : va_G) (ad : Nat → Nat) (cI cL cR : ClassId) (hI : gI 34 ad) (u : xS) (n : Nat) (B : Nat → Nat → Nat) (hR : xR u n B) (i : Nat) (hi : i < 8) : ∀ sz, Met l yX4_changedFacts wsX4_changedFacts ({ frames := 0, cells := 0, slots := 0, locals := 0 }) (XP D ad cI cL cR u [.ref (ad i)] sz) (va_Qi (fun r_ u' => r_ = nI (sfm B i ||| ufm B i) ∧ u' = u) (XB D ad cI cL cR) (gA 34 ad sz)) 0 0 (gA 34 ad sz) := by
  intro sz
  refine z_met (cc := cX4_changedFacts) (maxL := 1) (ret := (some .int)) (by decide) rfl (Nat.le_of_ble_eq_true rfl) ?_
  intro pq lq sq mq aq Qq bq hmq cq C hr hml hown hts hlocks hK hX hsz hQ
  subst hsz
  have hT4 : ∀ w ∈ wsX40, w.before aq sq = true := fun w h => hts w ((by decide +kernel : ∀ w ∈ wsX40, w ∈ wsX4_changedFacts) w h)
  refine z_sub (L' := [(0, .ref (ad i))]) [0] rfl ?_
  refine z_aload_n C dX4_changedFacts_0 0 rfl ?_
  refine z_get (q := i) C (T := TX4) (N := 11) (ci := 4) (own := RX4) (index := 22) (v := .int (u.1 i 7)) hT4 hown hK (by omega) (xF_r hi) rfl 7 (by decide) (hts (.fieldLink RX4 22 "TriggerAnalyzer$Rule" "setFacts" "I") (by decide +kernel)) (fun _ h9 => h9) rfl dX4_changedFacts_1 ?_
  refine z_topi (y := nI (sfm B i)) (xR_7 hR (by omega)) ?_
  refine z_aload_n C dX4_changedFacts_4 0 rfl ?_
  refine z_get (q := i) C (T := TX4) (N := 11) (ci := 4) (own := RX4) (index := 25) (v := .int (u.1 i 8)) hT4 hown hK (by omega) (xF_r hi) rfl 8 (by decide) (hts (.fieldLink RX4 25 "TriggerAnalyzer$Rule" "unsetFacts" "I") (by decide +kernel)) (fun _ h9 => h9) rfl dX4_changedFacts_5 ?_
  refine z_topi (y := nI (ufm B i)) (xR_8 hR (by omega)) ?_
  refine z_ior C dX4_changedFacts_8 ?_
  refine z_topi (y := nI ((sfm B i) ||| (ufm B i))) (fa_or (sfm B i) (ufm B i)) ?_
  exact z_iret C hr hlocks hQ u (⟨rfl, rfl⟩) (fun _ _ => rfl) dX4_changedFacts_9

set_option maxHeartbeats 4000000 in
set_option maxRecDepth 100000 in
theorem c_X4_conditionFacts (l : Launch) (D : va_G) (ad : Nat → Nat) (cI cL cR : ClassId) (hI : gI 34 ad) (u : xS) (n : Nat) (B : Nat → Nat → Nat) (hR : xR u n B) (i : Nat) (hi : i < 8) : ∀ sz, Met l yX4_conditionFacts wsX4_conditionFacts ({ frames := 0, cells := 0, slots := 0, locals := 0 }) (XP D ad cI cL cR u [.ref (ad i)] sz) (va_Qi (fun r_ u' => r_ = nI (B i 1 ||| B i 2) ∧ u' = u) (XB D ad cI cL cR) (gA 34 ad sz)) 0 0 (gA 34 ad sz) := by
  intro sz
  refine z_met (cc := cX4_conditionFacts) (maxL := 1) (ret := (some .int)) (by decide) rfl (Nat.le_of_ble_eq_true rfl) ?_
  intro pq lq sq mq aq Qq bq hmq cq C hr hml hown hts hlocks hK hX hsz hQ
  subst hsz
  have hT4 : ∀ w ∈ wsX40, w.before aq sq = true := fun w h => hts w ((by decide +kernel : ∀ w ∈ wsX40, w ∈ wsX4_conditionFacts) w h)
  refine z_sub (L' := [(0, .ref (ad i))]) [0] rfl ?_
  refine z_aload_n C dX4_conditionFacts_0 0 rfl ?_
  refine z_get (q := i) C (T := TX4) (N := 11) (ci := 4) (own := RX4) (index := 41) (v := .int (u.1 i 3)) hT4 hown hK (by omega) (xF_r hi) rfl 3 (by decide) (hts (.fieldLink RX4 41 "TriggerAnalyzer$Rule" "must" "I") (by decide +kernel)) (fun _ h9 => h9) rfl dX4_conditionFacts_1 ?_
  refine z_topi (y := nI (B i 1)) (xR_3 hR (by omega)) ?_
  refine z_aload_n C dX4_conditionFacts_4 0 rfl ?_
  refine z_get (q := i) C (T := TX4) (N := 11) (ci := 4) (own := RX4) (index := 44) (v := .int (u.1 i 4)) hT4 hown hK (by omega) (xF_r hi) rfl 4 (by decide) (hts (.fieldLink RX4 44 "TriggerAnalyzer$Rule" "mustNot" "I") (by decide +kernel)) (fun _ h9 => h9) rfl dX4_conditionFacts_5 ?_
  refine z_topi (y := nI (B i 2)) (xR_4 hR (by omega)) ?_
  refine z_ior C dX4_conditionFacts_8 ?_
  refine z_topi (y := nI ((B i 1) ||| (B i 2))) (fa_or (B i 1) (B i 2)) ?_
  exact z_iret C hr hlocks hQ u (⟨rfl, rfl⟩) (fun _ _ => rfl) dX4_conditionFacts_9

