def exA (B : Nat → Nat → Nat) (x k : Nat) : Int32 := if (bfs B x k).2.2.2.2 = true then -1 else nI (bfs B x k).2.2.2.1
/-- explored, and not too many: c situations S, led on by N -/
def mWh (u : xS) (n c : Nat) (S N : Nat → Nat) : Prop := 1 ≤ c ∧ c ≤ 1000 ∧ u.1 0 11 = 1 ∧ u.1 0 12 = 0 ∧ u.1 0 13 = nI c ∧ (∀ j, j < c → u.1 8 j = nI (mf (S j)) ∧ S j < 64 * 2 ^ n) ∧ ∀ e, e < 8 * c → u.1 9 e = nxI (N e) ∧ N e ≤ c
theorem mWh_of {u : xS} {n : Nat} {B : Nat → Nat → Nat} {x k : Nat} (hB : gB n B) (hx : x < 64 * 2 ^ n) (h11 : u.1 0 11 = 1) (h : mDn u B x k) (ht : (bfs B x k).2.2.2.2 = false) : mWh u n (bfs B x k).2.2.2.1 (bfs B x k).1 (bfs B x k).2.2.1 := by
  obtain ⟨hE, hT⟩ := h
  have hk := bfs_ok hB hx k hE.1
  have hc := bEnd_c hB hx hE ht
  rcases hT with ⟨h1, -⟩ | ⟨-, h12, h13, h8, h9⟩
  · rw [ht] at h1; exact absurd h1 (by decide)
  · exact ⟨hk.1, hk.2.1, h11, h12, h13, fun j hj => ⟨h8 j hj, hk.2.2.1 j hj⟩, fun e he => ⟨h9 e he, hk.2.2.2.2.1 e (by omega)⟩⟩
theorem mWh_fr {u w : xS} {n c : Nat} {S N : Nat → Nat} (h : mWh u n c S N) (h0 : ∀ j, j ≠ 0 → w.1 0 j = u.1 0 j) (h8 : w.1 8 = u.1 8) (h9 : w.1 9 = u.1 9) : mWh w n c S N := by
  unfold mWh at h ⊢
  rw [h0 11 (by decide), h0 12 (by decide), h0 13 (by decide), h8, h9]
  exact h
theorem mWh_th {u : xS} {n c : Nat} {S N : Nat → Nat} (h : mWh u n c S N) (v : Int32) : mWh (xs u 0 0 v) n c S N := mWh_fr h (fun _ hj => xs_j hj) (xs_r (by decide)) (xs_r (by decide))
theorem isE_s {S : Nat → Nat} {j : Nat} : isE S j = true ↔ S j / 64 = 0 := by
  unfold isE
  rw [decide_eq_true_eq]

set_option maxHeartbeats 4000000 in
set_option maxRecDepth 100000 in
theorem c_J6_bitCount_0f7a4_M (l : Launch) (D : va_G) (ad : Nat → Nat) (cI cL cB : ClassId) (hI : gI 12 ad) (u : xS) (m : Nat) : ∀ sz, Met l yJ6_bitCount_0f7a4 wsJ6_bitCount_0f7a4 ({ frames := 0, cells := 0, slots := 0, locals := 0 }) (MP D ad cI cL cB u [.int (nI m)] sz) (va_Qi (fun r_ u' => r_ = bcI (nI m) ∧ u' = u) (MB D ad cI cL cB) (gA 12 ad sz)) 0 0 (gA 12 ad sz) := by
  intro sz
  refine z_met (cc := cJ6_bitCount_0f7a4) (maxL := 1) (ret := (some .int)) (by decide) rfl (Nat.le_of_ble_eq_true rfl) ?_
  intro pq lq sq mq aq Qq bq hmq cq C hr hml hown hts hlocks hK hX hsz hQ
  subst hsz
  refine z_sub (L' := [(0, .int (nI m))]) [0] rfl ?_
  refine z_iload_n C dJ6_bitCount_0f7a4_0 0 rfl ?_
  refine z_iload_n C dJ6_bitCount_0f7a4_1 0 rfl ?_
  refine z_iconst (v := nI 1) C (by decide) dJ6_bitCount_0f7a4_2 ?_
  refine z_iushr C rfl dJ6_bitCount_0f7a4_3 ?_
  refine z_ldcw (v := (1431655765)) C hown (hts (.constant RJ6 265 (1431655765)) (by decide +kernel)) dJ6_bitCount_0f7a4_4 ?_
  refine z_iand C dJ6_bitCount_0f7a4_7 ?_
  refine z_isub C dJ6_bitCount_0f7a4_8 ?_
  refine z_topi (y := bcA (nI m)) (rfl) ?_
  refine z_istore_n (L' := [(0, .int (bcA (nI m)))]) C dJ6_bitCount_0f7a4_9 (by decide) rfl ?_
  refine z_iload_n C dJ6_bitCount_0f7a4_10 0 rfl ?_
  refine z_ldcw (v := (858993459)) C hown (hts (.constant RJ6 266 (858993459)) (by decide +kernel)) dJ6_bitCount_0f7a4_11 ?_
  refine z_iand C dJ6_bitCount_0f7a4_14 ?_
  refine z_iload_n C dJ6_bitCount_0f7a4_15 0 rfl ?_
  refine z_iconst (v := nI 2) C (by decide) dJ6_bitCount_0f7a4_16 ?_
  refine z_iushr C rfl dJ6_bitCount_0f7a4_17 ?_
  refine z_ldcw (v := (858993459)) C hown (hts (.constant RJ6 266 (858993459)) (by decide +kernel)) dJ6_bitCount_0f7a4_18 ?_
  refine z_iand C dJ6_bitCount_0f7a4_21 ?_
  refine z_iadd C dJ6_bitCount_0f7a4_22 ?_
  refine z_topi (y := bcB (bcA (nI m))) (rfl) ?_
  refine z_istore_n (L' := [(0, .int (bcB (bcA (nI m))))]) C dJ6_bitCount_0f7a4_23 (by decide) rfl ?_
  refine z_iload_n C dJ6_bitCount_0f7a4_24 0 rfl ?_
  refine z_iload_n C dJ6_bitCount_0f7a4_25 0 rfl ?_
  refine z_iconst (v := nI 4) C (by decide) dJ6_bitCount_0f7a4_26 ?_
  refine z_iushr C rfl dJ6_bitCount_0f7a4_27 ?_
  refine z_iadd C dJ6_bitCount_0f7a4_28 ?_
  refine z_ldcw (v := (252645135)) C hown (hts (.constant RJ6 267 (252645135)) (by decide +kernel)) dJ6_bitCount_0f7a4_29 ?_
  refine z_iand C dJ6_bitCount_0f7a4_32 ?_
  refine z_topi (y := bcC (bcB (bcA (nI m)))) (rfl) ?_
  refine z_istore_n (L' := [(0, .int (bcC (bcB (bcA (nI m)))))]) C dJ6_bitCount_0f7a4_33 (by decide) rfl ?_
  refine z_iload_n C dJ6_bitCount_0f7a4_34 0 rfl ?_
  refine z_iload_n C dJ6_bitCount_0f7a4_35 0 rfl ?_
  refine z_bipush (v := nI 8) C (by decide) dJ6_bitCount_0f7a4_36 ?_
  refine z_iushr C rfl dJ6_bitCount_0f7a4_38 ?_
  refine z_iadd C dJ6_bitCount_0f7a4_39 ?_
  refine z_topi (y := bcD (bcC (bcB (bcA (nI m))))) (rfl) ?_
  refine z_istore_n (L' := [(0, .int (bcD (bcC (bcB (bcA (nI m))))))]) C dJ6_bitCount_0f7a4_40 (by decide) rfl ?_
  refine z_iload_n C dJ6_bitCount_0f7a4_41 0 rfl ?_
  refine z_iload_n C dJ6_bitCount_0f7a4_42 0 rfl ?_
  refine z_bipush (v := nI 16) C (by decide) dJ6_bitCount_0f7a4_43 ?_
  refine z_iushr C rfl dJ6_bitCount_0f7a4_45 ?_
  refine z_iadd C dJ6_bitCount_0f7a4_46 ?_
  refine z_topi (y := bcE (bcD (bcC (bcB (bcA (nI m)))))) (rfl) ?_
  refine z_istore_n (L' := [(0, .int (bcE (bcD (bcC (bcB (bcA (nI m)))))))]) C dJ6_bitCount_0f7a4_47 (by decide) rfl ?_
  refine z_iload_n C dJ6_bitCount_0f7a4_48 0 rfl ?_
  refine z_bipush (v := nI 63) C (by decide) dJ6_bitCount_0f7a4_49 ?_
  refine z_iand C dJ6_bitCount_0f7a4_51 ?_
  refine z_topi (y := bcI (nI m)) (rfl) ?_
  exact z_iret C hr hlocks hQ u (⟨rfl, rfl⟩) (fun _ _ => rfl) dJ6_bitCount_0f7a4_52

set_option maxHeartbeats 4000000 in
set_option maxRecDepth 100000 in
theorem c_X7_explore_vd (l : Launch) (D : va_G) (ad : Nat → Nat) (cI cL cB : ClassId) (hI : gI 12 ad) (u : xS) (n : Nat) (B : Nat → Nat → Nat) (hB : gB n B) (x : Nat) (hx : x < 64 * 2 ^ n) (hM : mI u n B x) (h11 : u.1 0 11 = 1) (k : Nat) (hD : mDn u B x k) : ∀ sz, Met l yX7_explore wsX7_explore ({ frames := 3, cells := 0, slots := 0, locals := 74 }) (MP D ad cI cL cB u [.ref (ad 0)] sz) (va_Qi (fun r_ u' => (∃ k, bEnd B x k ∧ r_ = exA B x k) ∧ u'.1 0 0 = nI 0 ∧ u'.1 0 11 = 1 ∧ mI u' n B x) (MB D ad cI cL cB) (gA 12 ad sz)) 0 0 (gA 12 ad sz) := by
  intro sz
  refine z_met (cc := cX7_explore) (maxL := 1) (ret := (some .int)) (by decide) rfl (Nat.le_of_ble_eq_true rfl) ?_
  intro pq lq sq mq aq Qq bq hmq cq C hr hml hown hts hlocks hK hX hsz hQ
  subst hsz
  have hT7 : ∀ w ∈ wsX70, w.before aq sq = true := fun w h => hts w ((by decide +kernel : ∀ w ∈ wsX70, w ∈ wsX7_explore) w h)
  refine z_sub (L' := [(0, .ref (ad 0))]) [0] rfl ?_
  obtain ⟨hE, hT⟩ := hD
  refine z_aload_n C dX7_explore_0 0 rfl ?_
  refine z_iconst (v := nI 0) C (by decide) dX7_explore_1 ?_
  refine z_put (q := 0) C hI tyX7 (T := TX7) (N := 18) (ci := 7) (own := RX7) (index := 45) hT7 hown hK (by decide) rfl rfl 0 (by decide) (hts (.fieldLink RX7 45 "TriggerAnalyzerModel" "thrown" "I") (by decide +kernel)) (fun _ h9 => h9) tyX7_ok nmX7 rfl rfl rfl (Nat.le_of_ble_eq_true rfl) (f' := mF ad cI cL cB ((xs u 0 0 (nI 0)))) rfl mF_ne dX7_explore_2 ?_
  refine z_aload_n C dX7_explore_5 0 rfl ?_
  refine z_get (q := 0) C (T := TX7) (N := 18) (ci := 7) (own := RX7) (index := 67) (v := .int ((xs u 0 0 (nI 0)).1 0 11)) hT7 hown hK (by decide) rfl rfl 11 (by decide) (hts (.fieldLink RX7 67 "TriggerAnalyzerModel" "isExplored" "Z") (by decide +kernel)) (fun _ h9 => h9) rfl dX7_explore_6 ?_
  refine z_topi (y := u.1 0 11) (xs_j (by decide)) ?_
  refine z_topi (y := nI 1) (h11) ?_
  refine z_if_ne (tgt := 16) C dX7_explore_9 (by decide) (fun zc9 => ?_) (fun zc9 => ?_)
  · skip
    have zn9 := z0_f zc9
    rcases hT with ⟨ht, g12⟩ | ⟨ht, g12, g13, -, -⟩
    · skip
      refine z_aload_n C dX7_explore_16 0 rfl ?_
      refine z_get (q := 0) C (T := TX7) (N := 18) (ci := 7) (own := RX7) (index := 116) (v := .int ((xs u 0 0 (nI 0)).1 0 12)) hT7 hown hK (by decide) rfl rfl 12 (by decide) (hts (.fieldLink RX7 116 "TriggerAnalyzerModel" "isTooMuch" "Z") (by decide +kernel)) (fun _ h9 => h9) rfl dX7_explore_17 ?_
      refine z_topi (y := u.1 0 12) (xs_j (by decide)) ?_
      refine z_topi (y := nI 1) (g12) ?_
      refine z_if_eq (tgt := 27) C dX7_explore_20 (by decide) (fun zc20 => ?_) (fun zc20 => ?_)
      · skip
        have zn20 := z0_t (by omega) zc20
        exact absurd zn20 (by decide)
      · skip
        have zn20 := z0_f zc20
        refine z_iconst (v := (-1)) C (by decide) dX7_explore_23 ?_
        refine z_goto (tgt := 31) C dX7_explore_24 (by decide) ?_
        exact z_iret C hr hlocks hQ ((xs u 0 0 (nI 0))) (⟨⟨k, hE, (by unfold exA; rw [if_pos ht])⟩, xs_s _ _ _ _, (xs_j (by decide)).trans h11, mI_th hM _⟩) (fun _ _ => rfl) dX7_explore_31
    · skip
      refine z_aload_n C dX7_explore_16 0 rfl ?_
      refine z_get (q := 0) C (T := TX7) (N := 18) (ci := 7) (own := RX7) (index := 116) (v := .int ((xs u 0 0 (nI 0)).1 0 12)) hT7 hown hK (by decide) rfl rfl 12 (by decide) (hts (.fieldLink RX7 116 "TriggerAnalyzerModel" "isTooMuch" "Z") (by decide +kernel)) (fun _ h9 => h9) rfl dX7_explore_17 ?_
      refine z_topi (y := u.1 0 12) (xs_j (by decide)) ?_
      refine z_topi (y := nI 0) (g12) ?_
      refine z_if_eq (tgt := 27) C dX7_explore_20 (by decide) (fun zc20 => ?_) (fun zc20 => ?_)
      · skip
        have zn20 := z0_t (by omega) zc20
        refine z_aload_n C dX7_explore_27 0 rfl ?_
        refine z_get (q := 0) C (T := TX7) (N := 18) (ci := 7) (own := RX7) (index := 113) (v := .int ((xs u 0 0 (nI 0)).1 0 13)) hT7 hown hK (by decide) rfl rfl 13 (by decide) (hts (.fieldLink RX7 113 "TriggerAnalyzerModel" "situations" "I") (by decide +kernel)) (fun _ h9 => h9) rfl dX7_explore_28 ?_
        refine z_topi (y := u.1 0 13) (xs_j (by decide)) ?_
        refine z_topi (y := nI ((bfs B x k).2.2.2.1)) (g13) ?_
        exact z_iret C hr hlocks hQ ((xs u 0 0 (nI 0))) (⟨⟨k, hE, (by unfold exA; rw [if_neg (by rw [ht]; decide)])⟩, xs_s _ _ _ _, (xs_j (by decide)).trans h11, mI_th hM _⟩) (fun _ _ => rfl) dX7_explore_31
      · skip
        have zn20 := z0_f zc20
        exact absurd zn20 (by decide)
  · skip
    have zn9 := z0_t (by omega) zc9
    exact absurd zn9 (by decide)

set_option maxHeartbeats 4000000 in
set_option maxRecDepth 100000 in
theorem c_X7_explore_vs (l : Launch) (D : va_G) (ad : Nat → Nat) (cI cL cB : ClassId) (hI : gI 12 ad) (u : xS) (n : Nat) (B : Nat → Nat → Nat) (hB : gB n B) (x : Nat) (hx : x < 64 * 2 ^ n) (hM : mI u n B x) (h11 : u.1 0 11 = 0) : ∀ sz, Met l yX7_explore wsX7_explore ({ frames := 3, cells := 0, slots := 0, locals := 74 }) (MP D ad cI cL cB u [.ref (ad 0)] sz) (va_Qi (fun r_ u' => (∃ k, bEnd B x k ∧ r_ = exA B x k) ∧ u'.1 0 0 = nI 0 ∧ u'.1 0 11 = 1 ∧ mI u' n B x) (MB D ad cI cL cB) (gA 12 ad sz)) 0 0 (gA 12 ad sz) := by
  intro sz
  refine z_met (cc := cX7_explore) (maxL := 1) (ret := (some .int)) (by decide) rfl (Nat.le_of_ble_eq_true rfl) ?_
  intro pq lq sq mq aq Qq bq hmq cq C hr hml hown hts hlocks hK hX hsz hQ
  subst hsz
  have hT7 : ∀ w ∈ wsX70, w.before aq sq = true := fun w h => hts w ((by decide +kernel : ∀ w ∈ wsX70, w ∈ wsX7_explore) w h)
  refine z_sub (L' := [(0, .ref (ad 0))]) [0] rfl ?_
  refine z_aload_n C dX7_explore_0 0 rfl ?_
  refine z_iconst (v := nI 0) C (by decide) dX7_explore_1 ?_
  refine z_put (q := 0) C hI tyX7 (T := TX7) (N := 18) (ci := 7) (own := RX7) (index := 45) hT7 hown hK (by decide) rfl rfl 0 (by decide) (hts (.fieldLink RX7 45 "TriggerAnalyzerModel" "thrown" "I") (by decide +kernel)) (fun _ h9 => h9) tyX7_ok nmX7 rfl rfl rfl (Nat.le_of_ble_eq_true rfl) (f' := mF ad cI cL cB ((xs u 0 0 (nI 0)))) rfl mF_ne dX7_explore_2 ?_
  refine z_aload_n C dX7_explore_5 0 rfl ?_
  refine z_get (q := 0) C (T := TX7) (N := 18) (ci := 7) (own := RX7) (index := 67) (v := .int ((xs u 0 0 (nI 0)).1 0 11)) hT7 hown hK (by decide) rfl rfl 11 (by decide) (hts (.fieldLink RX7 67 "TriggerAnalyzerModel" "isExplored" "Z") (by decide +kernel)) (fun _ h9 => h9) rfl dX7_explore_6 ?_
  refine z_topi (y := u.1 0 11) (xs_j (by decide)) ?_
  refine z_topi (y := nI 0) (h11) ?_
  refine z_if_ne (tgt := 16) C dX7_explore_9 (by decide) (fun zc9 => ?_) (fun zc9 => ?_)
  · skip
    have zn9 := z0_f zc9
    exact absurd zn9 (by decide)
  · skip
    have zn9 := z0_t (by omega) zc9
    refine z_aload_n C dX7_explore_12 0 rfl ?_
    refine z_callVv mX_ok C hml hown hts hK hX (c_X7_exploreAll l D ad cI cL cB hI ((xs u 0 0 (nI 0))) n B (mR_s hM.1 (Or.inl ⟨rfl, by decide⟩)) hB x hx ((xs_j (by decide)).trans hM.2.1) ((xs_j (by decide)).trans hM.2.2.1)) (cwV 0 hts gX7_explore_X7_exploreAll rfl rfl rfl (by decide +kernel) ⟨Nat.le_of_ble_eq_true rfl, Nat.le_of_ble_eq_true rfl⟩) (by decide) (ci := 7) rfl rfl rfl (st := []) rfl (Nat.le_of_ble_eq_true rfl) dX7_explore_13 ⟨Nat.le_of_ble_eq_true rfl, Nat.le_of_ble_eq_true rfl⟩ (fun u13 h13 => ?_)
    obtain ⟨k1, k2, k3, k4, k5, k, hE, hT⟩ := h13
    have hT2 := hT
    rcases hT with ⟨ht, g12⟩ | ⟨ht, g12, g13, -, -⟩
    · skip
      refine z_aload_n C dX7_explore_16 0 rfl ?_
      refine z_get (q := 0) C (T := TX7) (N := 18) (ci := 7) (own := RX7) (index := 116) (v := .int (u13.1 0 12)) hT7 hown hK (by decide) rfl rfl 12 (by decide) (hts (.fieldLink RX7 116 "TriggerAnalyzerModel" "isTooMuch" "Z") (by decide +kernel)) (fun _ h9 => h9) rfl dX7_explore_17 ?_
      refine z_topi (y := nI 1) (g12) ?_
      refine z_if_eq (tgt := 27) C dX7_explore_20 (by decide) (fun zc20 => ?_) (fun zc20 => ?_)
      · skip
        have zn20 := z0_t (by omega) zc20
        exact absurd zn20 (by decide)
      · skip
        have zn20 := z0_f zc20
        refine z_iconst (v := (-1)) C (by decide) dX7_explore_23 ?_
        refine z_goto (tgt := 31) C dX7_explore_24 (by decide) ?_
        exact z_iret C hr hlocks hQ u13 (⟨⟨k, hE, (by unfold exA; rw [if_pos ht])⟩, k2.trans (xs_s _ _ _ _), k5, ⟨k1, k3.trans ((xs_j (by decide)).trans hM.2.1), k4.trans ((xs_j (by decide)).trans hM.2.2.1), Or.inr ⟨k5, k, hE, hT2⟩⟩⟩) (fun _ _ => rfl) dX7_explore_31
    · skip
      refine z_aload_n C dX7_explore_16 0 rfl ?_
      refine z_get (q := 0) C (T := TX7) (N := 18) (ci := 7) (own := RX7) (index := 116) (v := .int (u13.1 0 12)) hT7 hown hK (by decide) rfl rfl 12 (by decide) (hts (.fieldLink RX7 116 "TriggerAnalyzerModel" "isTooMuch" "Z") (by decide +kernel)) (fun _ h9 => h9) rfl dX7_explore_17 ?_
      refine z_topi (y := nI 0) (g12) ?_
      refine z_if_eq (tgt := 27) C dX7_explore_20 (by decide) (fun zc20 => ?_) (fun zc20 => ?_)
      · skip
        have zn20 := z0_t (by omega) zc20
        refine z_aload_n C dX7_explore_27 0 rfl ?_
        refine z_get (q := 0) C (T := TX7) (N := 18) (ci := 7) (own := RX7) (index := 113) (v := .int (u13.1 0 13)) hT7 hown hK (by decide) rfl rfl 13 (by decide) (hts (.fieldLink RX7 113 "TriggerAnalyzerModel" "situations" "I") (by decide +kernel)) (fun _ h9 => h9) rfl dX7_explore_28 ?_
        refine z_topi (y := nI ((bfs B x k).2.2.2.1)) (g13) ?_
        exact z_iret C hr hlocks hQ u13 (⟨⟨k, hE, (by unfold exA; rw [if_neg (by rw [ht]; decide)])⟩, k2.trans (xs_s _ _ _ _), k5, ⟨k1, k3.trans ((xs_j (by decide)).trans hM.2.1), k4.trans ((xs_j (by decide)).trans hM.2.2.1), Or.inr ⟨k5, k, hE, hT2⟩⟩⟩) (fun _ _ => rfl) dX7_explore_31
      · skip
        have zn20 := z0_f zc20
        exact absurd zn20 (by decide)

theorem c_X7_explore (l : Launch) (D : va_G) (ad : Nat → Nat) (cI cL cB : ClassId) (hI : gI 12 ad) (u : xS) (n : Nat) (B : Nat → Nat → Nat) (hB : gB n B) (x : Nat) (hx : x < 64 * 2 ^ n) (hM : mI u n B x) : ∀ sz, Met l yX7_explore wsX7_explore ({ frames := 3, cells := 0, slots := 0, locals := 74 }) (MP D ad cI cL cB u [.ref (ad 0)] sz) (va_Qi (fun r_ u' => (∃ k, bEnd B x k ∧ r_ = exA B x k) ∧ u'.1 0 0 = nI 0 ∧ u'.1 0 11 = 1 ∧ mI u' n B x) (MB D ad cI cL cB) (gA 12 ad sz)) 0 0 (gA 12 ad sz) := by
  rcases hM.2.2.2 with h | ⟨h, k, hD⟩
  · exact c_X7_explore_vs l D ad cI cL cB hI u n B hB x hx hM h
  · exact c_X7_explore_vd l D ad cI cL cB hI u n B hB x hx hM h k hD

set_option maxHeartbeats 4000000 in
set_option maxRecDepth 100000 in
theorem c_X7_factsOf (l : Launch) (D : va_G) (ad : Nat → Nat) (cI cL cB : ClassId) (hI : gI 12 ad) (u : xS) (n : Nat) (B : Nat → Nat → Nat) (hB : gB n B) (x : Nat) (hx : x < 64 * 2 ^ n) (hM : mI u n B x) (c : Nat) (S N : Nat → Nat) (hW : mWh u n c S N) (k : Nat) (hk : k < c) : ∀ sz, Met l yX7_factsOf wsX7_factsOf ({ frames := 2, cells := 0, slots := 0, locals := 42 }) (MP D ad cI cL cB u [.ref (ad 0), .int (nI k)] sz) (va_Qi (fun r_ u' => r_ = nI (S k % 64) ∧ u'.1 0 0 = nI 0 ∧ mQ u' n B x (u.1 0 11)) (MB D ad cI cL cB) (gA 12 ad sz)) 0 0 (gA 12 ad sz) := by
  intro sz
  refine z_met (cc := cX7_factsOf) (maxL := 2) (ret := (some .int)) (by decide) rfl (Nat.le_of_ble_eq_true rfl) ?_
  intro pq lq sq mq aq Qq bq hmq cq C hr hml hown hts hlocks hK hX hsz hQ
  subst hsz
  have hT7 : ∀ w ∈ wsX70, w.before aq sq = true := fun w h => hts w ((by decide +kernel : ∀ w ∈ wsX70, w ∈ wsX7_factsOf) w h)
  refine z_sub (L' := [(0, .ref (ad 0)), (1, .int (nI k))]) [0, 1] rfl ?_
  obtain ⟨hc1, hc2, h11, h12, h13, hS, hNx⟩ := hW
  have hn8 : n ≤ 8 := hB.1
  have hp2 : 2 ^ n ≤ 256 := pn8 hn8
  have hsk := hS k hk
  have hmk : mf (S k) < 16384 := mf_lt (by omega)
  refine z_aload_n C dX7_factsOf_0 0 rfl ?_
  refine z_iload_n C dX7_factsOf_1 1 rfl ?_
  refine z_aload_n C dX7_factsOf_2 0 rfl ?_
  refine z_get (q := 0) C (T := TX7) (N := 18) (ci := 7) (own := RX7) (index := 113) (v := .int (u.1 0 13)) hT7 hown hK (by decide) rfl rfl 13 (by decide) (hts (.fieldLink RX7 113 "TriggerAnalyzerModel" "situations" "I") (by decide +kernel)) (fun _ h9 => h9) rfl dX7_factsOf_3 ?_
  refine z_topi (y := nI c) (h13) ?_
  refine z_callVi mX_ok C hml hown hts hK hX (c_X7_asks_vh l D ad cI cL cB hI u h11 h12 c (by omega) k hk) (cwV 2 hts gX7_factsOf_X7_asks rfl rfl rfl (by decide +kernel) ⟨Nat.le_of_ble_eq_true rfl, Nat.le_of_ble_eq_true rfl⟩) (by decide) (ci := 7) rfl rfl rfl (st := []) rfl (Nat.le_of_ble_eq_true rfl) dX7_factsOf_6 ⟨Nat.le_of_ble_eq_true rfl, Nat.le_of_ble_eq_true rfl⟩ (fun r6 u6 h6 => ?_)
  obtain ⟨zr6, zu6⟩ := h6
  subst r6
  subst u6
  refine z_if_eq (tgt := 24) C dX7_factsOf_9 (by decide) (fun zc9 => ?_) (fun zc9 => ?_)
  · skip
    have zn9 := z0_t (by omega) zc9
    exact absurd zn9 (by decide)
  · skip
    have zn9 := z0_f zc9
    refine z_aload_n C dX7_factsOf_12 0 rfl ?_
    refine z_get (q := 0) C (T := TX7) (N := 18) (ci := 7) (own := RX7) (index := 32) (v := .ref (ad 8)) hT7 hown hK (by decide) rfl rfl 14 (by decide) (hts (.fieldLink RX7 32 "TriggerAnalyzerModel" "all" "[I") (by decide +kernel)) (fun _ h9 => h9) rfl dX7_factsOf_13 ?_
    refine z_iload_n C dX7_factsOf_16 1 rfl ?_
    refine z_iald (q := 8) (len := 1000) (k := k) C hK (by decide) rfl 0 rfl (rfl) (by omega) (by decide) dX7_factsOf_17 ?_
    refine z_topi (y := u.1 8 k) (xs_c (by decide) _) ?_
    refine z_topi (y := nI (mf (S k))) (hsk.1) ?_
    refine z_bipush (v := nI 8) C (by decide) dX7_factsOf_18 ?_
    refine z_ishr C dX7_factsOf_20 ?_
    refine z_topi (y := nI (S k % 64)) (((zi_shr8 (by omega)).trans (by rw [mf_div (by omega)]))) ?_
    refine z_goto (tgt := 25) C dX7_factsOf_21 (by decide) ?_
    exact z_iret C hr hlocks hQ (xs u 0 0 (nI 0)) (⟨rfl, xs_s _ _ _ _, mQ_1 hM _⟩) (fun _ _ => rfl) dX7_factsOf_25

set_option maxHeartbeats 4000000 in
set_option maxRecDepth 100000 in
theorem c_X7_factsOf_x1 (l : Launch) (D : va_G) (ad : Nat → Nat) (cI cL cB : ClassId) (hI : gI 12 ad) (u : xS) (n : Nat) (B : Nat → Nat → Nat) (hB : gB n B) (x : Nat) (hx : x < 64 * 2 ^ n) (hM : mI u n B x) (hN : mNo u) (x1 : Int32) : ∀ sz, Met l yX7_factsOf wsX7_factsOf ({ frames := 2, cells := 0, slots := 0, locals := 42 }) (MP D ad cI cL cB u [.ref (ad 0), .int (x1)] sz) (va_Qi (fun r_ u' => r_ = nI 0 ∧ u'.1 0 0 = nI 1 ∧ mQ u' n B x (u.1 0 11)) (MB D ad cI cL cB) (gA 12 ad sz)) 0 0 (gA 12 ad sz) := by
  intro sz
  refine z_met (cc := cX7_factsOf) (maxL := 2) (ret := (some .int)) (by decide) rfl (Nat.le_of_ble_eq_true rfl) ?_
  intro pq lq sq mq aq Qq bq hmq cq C hr hml hown hts hlocks hK hX hsz hQ
  subst hsz
  have hT7 : ∀ w ∈ wsX70, w.before aq sq = true := fun w h => hts w ((by decide +kernel : ∀ w ∈ wsX70, w ∈ wsX7_factsOf) w h)
  refine z_sub (L' := [(0, .ref (ad 0)), (1, .int (x1))]) [0, 1] rfl ?_
  refine z_aload_n C dX7_factsOf_0 0 rfl ?_
  refine z_iload_n C dX7_factsOf_1 1 rfl ?_
  refine z_aload_n C dX7_factsOf_2 0 rfl ?_
  refine z_get (q := 0) C (T := TX7) (N := 18) (ci := 7) (own := RX7) (index := 113) (v := .int (u.1 0 13)) hT7 hown hK (by decide) rfl rfl 13 (by decide) (hts (.fieldLink RX7 113 "TriggerAnalyzerModel" "situations" "I") (by decide +kernel)) (fun _ h9 => h9) rfl dX7_factsOf_3 ?_
  refine z_callVi mX_ok C hml hown hts hK hX (c_X7_asks_w l D ad cI cL cB hI u hN x1 (u.1 0 13)) (cwV 2 hts gX7_factsOf_X7_asks rfl rfl rfl (by decide +kernel) ⟨Nat.le_of_ble_eq_true rfl, Nat.le_of_ble_eq_true rfl⟩) (by decide) (ci := 7) rfl rfl rfl (st := []) rfl (Nat.le_of_ble_eq_true rfl) dX7_factsOf_6 ⟨Nat.le_of_ble_eq_true rfl, Nat.le_of_ble_eq_true rfl⟩ (fun r6 u6 h6 => ?_)
  obtain ⟨zr6, zu6⟩ := h6
  subst r6
  subst u6
  refine z_if_eq (tgt := 24) C dX7_factsOf_9 (by decide) (fun zc9 => ?_) (fun zc9 => ?_)
  · skip
    have zn9 := z0_t (by omega) zc9
    refine z_iconst (v := nI 0) C (by decide) dX7_factsOf_24 ?_
    exact z_iret C hr hlocks hQ (xs u 0 0 (nI 1)) (⟨rfl, xs_s _ _ _ _, mQ_1 hM _⟩) (fun _ _ => rfl) dX7_factsOf_25
  · skip
    have zn9 := z0_f zc9
    exact absurd zn9 (by decide)

set_option maxHeartbeats 4000000 in
set_option maxRecDepth 100000 in
theorem c_X7_factsOf_x2 (l : Launch) (D : va_G) (ad : Nat → Nat) (cI cL cB : ClassId) (hI : gI 12 ad) (u : xS) (n : Nat) (B : Nat → Nat → Nat) (hB : gB n B) (x : Nat) (hx : x < 64 * 2 ^ n) (hM : mI u n B x) (c : Nat) (S N : Nat → Nat) (hW : mWh u n c S N) (x1 : Int32) (hf : bad c x1) : ∀ sz, Met l yX7_factsOf wsX7_factsOf ({ frames := 2, cells := 0, slots := 0, locals := 42 }) (MP D ad cI cL cB u [.ref (ad 0), .int (x1)] sz) (va_Qi (fun r_ u' => r_ = nI 0 ∧ u'.1 0 0 = nI 2 ∧ mQ u' n B x (u.1 0 11)) (MB D ad cI cL cB) (gA 12 ad sz)) 0 0 (gA 12 ad sz) := by
  intro sz
  refine z_met (cc := cX7_factsOf) (maxL := 2) (ret := (some .int)) (by decide) rfl (Nat.le_of_ble_eq_true rfl) ?_
  intro pq lq sq mq aq Qq bq hmq cq C hr hml hown hts hlocks hK hX hsz hQ
  subst hsz
  have hT7 : ∀ w ∈ wsX70, w.before aq sq = true := fun w h => hts w ((by decide +kernel : ∀ w ∈ wsX70, w ∈ wsX7_factsOf) w h)
  refine z_sub (L' := [(0, .ref (ad 0)), (1, .int (x1))]) [0, 1] rfl ?_
  obtain ⟨hc1, hc2, h11, h12, h13, hS, hNx⟩ := hW
  have hn8 : n ≤ 8 := hB.1
  have hp2 : 2 ^ n ≤ 256 := pn8 hn8
  refine z_aload_n C dX7_factsOf_0 0 rfl ?_
  refine z_iload_n C dX7_factsOf_1 1 rfl ?_
  refine z_aload_n C dX7_factsOf_2 0 rfl ?_
  refine z_get (q := 0) C (T := TX7) (N := 18) (ci := 7) (own := RX7) (index := 113) (v := .int (u.1 0 13)) hT7 hown hK (by decide) rfl rfl 13 (by decide) (hts (.fieldLink RX7 113 "TriggerAnalyzerModel" "situations" "I") (by decide +kernel)) (fun _ h9 => h9) rfl dX7_factsOf_3 ?_
  refine z_topi (y := nI c) (h13) ?_
  refine z_callVi mX_ok C hml hown hts hK hX (c_X7_asks_x l D ad cI cL cB hI u h11 h12 c (by omega) x1 hf) (cwV 2 hts gX7_factsOf_X7_asks rfl rfl rfl (by decide +kernel) ⟨Nat.le_of_ble_eq_true rfl, Nat.le_of_ble_eq_true rfl⟩) (by decide) (ci := 7) rfl rfl rfl (st := []) rfl (Nat.le_of_ble_eq_true rfl) dX7_factsOf_6 ⟨Nat.le_of_ble_eq_true rfl, Nat.le_of_ble_eq_true rfl⟩ (fun r6 u6 h6 => ?_)
  obtain ⟨zr6, zu6⟩ := h6
  subst r6
  subst u6
  refine z_if_eq (tgt := 24) C dX7_factsOf_9 (by decide) (fun zc9 => ?_) (fun zc9 => ?_)
  · skip
    have zn9 := z0_t (by omega) zc9
    refine z_iconst (v := nI 0) C (by decide) dX7_factsOf_24 ?_
    exact z_iret C hr hlocks hQ (xs u 0 0 (nI 2)) (⟨rfl, xs_s _ _ _ _, mQ_1 hM _⟩) (fun _ _ => rfl) dX7_factsOf_25
  · skip
    have zn9 := z0_f zc9
    exact absurd zn9 (by decide)

set_option maxHeartbeats 4000000 in
set_option maxRecDepth 100000 in
theorem c_X7_triggeredOf (l : Launch) (D : va_G) (ad : Nat → Nat) (cI cL cB : ClassId) (hI : gI 12 ad) (u : xS) (n : Nat) (B : Nat → Nat → Nat) (hB : gB n B) (x : Nat) (hx : x < 64 * 2 ^ n) (hM : mI u n B x) (c : Nat) (S N : Nat → Nat) (hW : mWh u n c S N) (k : Nat) (hk : k < c) : ∀ sz, Met l yX7_triggeredOf wsX7_triggeredOf ({ frames := 2, cells := 0, slots := 0, locals := 42 }) (MP D ad cI cL cB u [.ref (ad 0), .int (nI k)] sz) (va_Qi (fun r_ u' => r_ = nI (S k / 64) ∧ u'.1 0 0 = nI 0 ∧ mQ u' n B x (u.1 0 11)) (MB D ad cI cL cB) (gA 12 ad sz)) 0 0 (gA 12 ad sz) := by
  intro sz
  refine z_met (cc := cX7_triggeredOf) (maxL := 2) (ret := (some .int)) (by decide) rfl (Nat.le_of_ble_eq_true rfl) ?_
  intro pq lq sq mq aq Qq bq hmq cq C hr hml hown hts hlocks hK hX hsz hQ
  subst hsz
  have hT7 : ∀ w ∈ wsX70, w.before aq sq = true := fun w h => hts w ((by decide +kernel : ∀ w ∈ wsX70, w ∈ wsX7_triggeredOf) w h)
  refine z_sub (L' := [(0, .ref (ad 0)), (1, .int (nI k))]) [0, 1] rfl ?_
  obtain ⟨hc1, hc2, h11, h12, h13, hS, hNx⟩ := hW
  have hn8 : n ≤ 8 := hB.1
  have hp2 : 2 ^ n ≤ 256 := pn8 hn8
  have hsk := hS k hk
  have hmk : mf (S k) < 16384 := mf_lt (by omega)
  refine z_aload_n C dX7_triggeredOf_0 0 rfl ?_
  refine z_iload_n C dX7_triggeredOf_1 1 rfl ?_
  refine z_aload_n C dX7_triggeredOf_2 0 rfl ?_
  refine z_get (q := 0) C (T := TX7) (N := 18) (ci := 7) (own := RX7) (index := 113) (v := .int (u.1 0 13)) hT7 hown hK (by decide) rfl rfl 13 (by decide) (hts (.fieldLink RX7 113 "TriggerAnalyzerModel" "situations" "I") (by decide +kernel)) (fun _ h9 => h9) rfl dX7_triggeredOf_3 ?_
  refine z_topi (y := nI c) (h13) ?_
  refine z_callVi mX_ok C hml hown hts hK hX (c_X7_asks_vh l D ad cI cL cB hI u h11 h12 c (by omega) k hk) (cwV 2 hts gX7_triggeredOf_X7_asks rfl rfl rfl (by decide +kernel) ⟨Nat.le_of_ble_eq_true rfl, Nat.le_of_ble_eq_true rfl⟩) (by decide) (ci := 7) rfl rfl rfl (st := []) rfl (Nat.le_of_ble_eq_true rfl) dX7_triggeredOf_6 ⟨Nat.le_of_ble_eq_true rfl, Nat.le_of_ble_eq_true rfl⟩ (fun r6 u6 h6 => ?_)
  obtain ⟨zr6, zu6⟩ := h6
  subst r6
  subst u6
  refine z_if_eq (tgt := 24) C dX7_triggeredOf_9 (by decide) (fun zc9 => ?_) (fun zc9 => ?_)
  · skip
    have zn9 := z0_t (by omega) zc9
    exact absurd zn9 (by decide)
  · skip
    have zn9 := z0_f zc9
    refine z_aload_n C dX7_triggeredOf_12 0 rfl ?_
    refine z_get (q := 0) C (T := TX7) (N := 18) (ci := 7) (own := RX7) (index := 32) (v := .ref (ad 8)) hT7 hown hK (by decide) rfl rfl 14 (by decide) (hts (.fieldLink RX7 32 "TriggerAnalyzerModel" "all" "[I") (by decide +kernel)) (fun _ h9 => h9) rfl dX7_triggeredOf_13 ?_
    refine z_iload_n C dX7_triggeredOf_16 1 rfl ?_
    refine z_iald (q := 8) (len := 1000) (k := k) C hK (by decide) rfl 0 rfl (rfl) (by omega) (by decide) dX7_triggeredOf_17 ?_
    refine z_topi (y := u.1 8 k) (xs_c (by decide) _) ?_
    refine z_topi (y := nI (mf (S k))) (hsk.1) ?_
    refine z_callSi mX_ok C hml hown hts hK hX (c_X7_triggeredIn l D ad cI cL cB hI (xs u 0 0 (nI 0)) (mf (S k))) (va_cwS 1 hts gX7_triggeredOf_X7_triggeredIn rfl rfl rfl (by decide +kernel) ⟨Nat.le_of_ble_eq_true rfl, Nat.le_of_ble_eq_true rfl⟩) rfl (st := []) rfl (Nat.le_of_ble_eq_true rfl) dX7_triggeredOf_18 ⟨Nat.le_of_ble_eq_true rfl, Nat.le_of_ble_eq_true rfl⟩ (fun r18 u18 h18 => ?_)
    obtain ⟨zr18, zu18⟩ := h18
    subst r18
    subst u18
    refine z_topi (y := nI (S k / 64)) (by rw [mf_mod (by omega)]) ?_
    refine z_goto (tgt := 25) C dX7_triggeredOf_21 (by decide) ?_
    exact z_iret C hr hlocks hQ (xs u 0 0 (nI 0)) (⟨rfl, xs_s _ _ _ _, mQ_1 hM _⟩) (fun _ _ => rfl) dX7_triggeredOf_25

set_option maxHeartbeats 4000000 in
set_option maxRecDepth 100000 in
theorem c_X7_triggeredOf_x1 (l : Launch) (D : va_G) (ad : Nat → Nat) (cI cL cB : ClassId) (hI : gI 12 ad) (u : xS) (n : Nat) (B : Nat → Nat → Nat) (hB : gB n B) (x : Nat) (hx : x < 64 * 2 ^ n) (hM : mI u n B x) (hN : mNo u) (x1 : Int32) : ∀ sz, Met l yX7_triggeredOf wsX7_triggeredOf ({ frames := 2, cells := 0, slots := 0, locals := 42 }) (MP D ad cI cL cB u [.ref (ad 0), .int (x1)] sz) (va_Qi (fun r_ u' => r_ = nI 0 ∧ u'.1 0 0 = nI 1 ∧ mQ u' n B x (u.1 0 11)) (MB D ad cI cL cB) (gA 12 ad sz)) 0 0 (gA 12 ad sz) := by
  intro sz
  refine z_met (cc := cX7_triggeredOf) (maxL := 2) (ret := (some .int)) (by decide) rfl (Nat.le_of_ble_eq_true rfl) ?_
  intro pq lq sq mq aq Qq bq hmq cq C hr hml hown hts hlocks hK hX hsz hQ
  subst hsz
  have hT7 : ∀ w ∈ wsX70, w.before aq sq = true := fun w h => hts w ((by decide +kernel : ∀ w ∈ wsX70, w ∈ wsX7_triggeredOf) w h)
  refine z_sub (L' := [(0, .ref (ad 0)), (1, .int (x1))]) [0, 1] rfl ?_
  refine z_aload_n C dX7_triggeredOf_0 0 rfl ?_
  refine z_iload_n C dX7_triggeredOf_1 1 rfl ?_
  refine z_aload_n C dX7_triggeredOf_2 0 rfl ?_
  refine z_get (q := 0) C (T := TX7) (N := 18) (ci := 7) (own := RX7) (index := 113) (v := .int (u.1 0 13)) hT7 hown hK (by decide) rfl rfl 13 (by decide) (hts (.fieldLink RX7 113 "TriggerAnalyzerModel" "situations" "I") (by decide +kernel)) (fun _ h9 => h9) rfl dX7_triggeredOf_3 ?_
  refine z_callVi mX_ok C hml hown hts hK hX (c_X7_asks_w l D ad cI cL cB hI u hN x1 (u.1 0 13)) (cwV 2 hts gX7_triggeredOf_X7_asks rfl rfl rfl (by decide +kernel) ⟨Nat.le_of_ble_eq_true rfl, Nat.le_of_ble_eq_true rfl⟩) (by decide) (ci := 7) rfl rfl rfl (st := []) rfl (Nat.le_of_ble_eq_true rfl) dX7_triggeredOf_6 ⟨Nat.le_of_ble_eq_true rfl, Nat.le_of_ble_eq_true rfl⟩ (fun r6 u6 h6 => ?_)
  obtain ⟨zr6, zu6⟩ := h6
  subst r6
  subst u6
  refine z_if_eq (tgt := 24) C dX7_triggeredOf_9 (by decide) (fun zc9 => ?_) (fun zc9 => ?_)
  · skip
    have zn9 := z0_t (by omega) zc9
    refine z_iconst (v := nI 0) C (by decide) dX7_triggeredOf_24 ?_
    exact z_iret C hr hlocks hQ (xs u 0 0 (nI 1)) (⟨rfl, xs_s _ _ _ _, mQ_1 hM _⟩) (fun _ _ => rfl) dX7_triggeredOf_25
  · skip
    have zn9 := z0_f zc9
    exact absurd zn9 (by decide)

set_option maxHeartbeats 4000000 in
set_option maxRecDepth 100000 in
theorem c_X7_triggeredOf_x2 (l : Launch) (D : va_G) (ad : Nat → Nat) (cI cL cB : ClassId) (hI : gI 12 ad) (u : xS) (n : Nat) (B : Nat → Nat → Nat) (hB : gB n B) (x : Nat) (hx : x < 64 * 2 ^ n) (hM : mI u n B x) (c : Nat) (S N : Nat → Nat) (hW : mWh u n c S N) (x1 : Int32) (hf : bad c x1) : ∀ sz, Met l yX7_triggeredOf wsX7_triggeredOf ({ frames := 2, cells := 0, slots := 0, locals := 42 }) (MP D ad cI cL cB u [.ref (ad 0), .int (x1)] sz) (va_Qi (fun r_ u' => r_ = nI 0 ∧ u'.1 0 0 = nI 2 ∧ mQ u' n B x (u.1 0 11)) (MB D ad cI cL cB) (gA 12 ad sz)) 0 0 (gA 12 ad sz) := by
  intro sz
  refine z_met (cc := cX7_triggeredOf) (maxL := 2) (ret := (some .int)) (by decide) rfl (Nat.le_of_ble_eq_true rfl) ?_
  intro pq lq sq mq aq Qq bq hmq cq C hr hml hown hts hlocks hK hX hsz hQ
  subst hsz
  have hT7 : ∀ w ∈ wsX70, w.before aq sq = true := fun w h => hts w ((by decide +kernel : ∀ w ∈ wsX70, w ∈ wsX7_triggeredOf) w h)
  refine z_sub (L' := [(0, .ref (ad 0)), (1, .int (x1))]) [0, 1] rfl ?_
  obtain ⟨hc1, hc2, h11, h12, h13, hS, hNx⟩ := hW
  have hn8 : n ≤ 8 := hB.1
  have hp2 : 2 ^ n ≤ 256 := pn8 hn8
  refine z_aload_n C dX7_triggeredOf_0 0 rfl ?_
  refine z_iload_n C dX7_triggeredOf_1 1 rfl ?_
  refine z_aload_n C dX7_triggeredOf_2 0 rfl ?_
  refine z_get (q := 0) C (T := TX7) (N := 18) (ci := 7) (own := RX7) (index := 113) (v := .int (u.1 0 13)) hT7 hown hK (by decide) rfl rfl 13 (by decide) (hts (.fieldLink RX7 113 "TriggerAnalyzerModel" "situations" "I") (by decide +kernel)) (fun _ h9 => h9) rfl dX7_triggeredOf_3 ?_
  refine z_topi (y := nI c) (h13) ?_
  refine z_callVi mX_ok C hml hown hts hK hX (c_X7_asks_x l D ad cI cL cB hI u h11 h12 c (by omega) x1 hf) (cwV 2 hts gX7_triggeredOf_X7_asks rfl rfl rfl (by decide +kernel) ⟨Nat.le_of_ble_eq_true rfl, Nat.le_of_ble_eq_true rfl⟩) (by decide) (ci := 7) rfl rfl rfl (st := []) rfl (Nat.le_of_ble_eq_true rfl) dX7_triggeredOf_6 ⟨Nat.le_of_ble_eq_true rfl, Nat.le_of_ble_eq_true rfl⟩ (fun r6 u6 h6 => ?_)
  obtain ⟨zr6, zu6⟩ := h6
  subst r6
  subst u6
  refine z_if_eq (tgt := 24) C dX7_triggeredOf_9 (by decide) (fun zc9 => ?_) (fun zc9 => ?_)
  · skip
    have zn9 := z0_t (by omega) zc9
    refine z_iconst (v := nI 0) C (by decide) dX7_triggeredOf_24 ?_
    exact z_iret C hr hlocks hQ (xs u 0 0 (nI 2)) (⟨rfl, xs_s _ _ _ _, mQ_1 hM _⟩) (fun _ _ => rfl) dX7_triggeredOf_25
  · skip
    have zn9 := z0_f zc9
    exact absurd zn9 (by decide)

set_option maxHeartbeats 4000000 in
set_option maxRecDepth 100000 in
theorem c_X7_after (l : Launch) (D : va_G) (ad : Nat → Nat) (cI cL cB : ClassId) (hI : gI 12 ad) (u : xS) (n : Nat) (B : Nat → Nat → Nat) (hB : gB n B) (x : Nat) (hx : x < 64 * 2 ^ n) (hM : mI u n B x) (c : Nat) (S N : Nat → Nat) (hW : mWh u n c S N) (k : Nat) (hk : k < c) (i : Nat) (hi : i < n) : ∀ sz, Met l yX7_after wsX7_after ({ frames := 2, cells := 0, slots := 0, locals := 42 }) (MP D ad cI cL cB u [.ref (ad 0), .int (nI k), .int (nI i)] sz) (va_Qi (fun r_ u' => r_ = nxI (N (8 * k + i)) ∧ u'.1 0 0 = nI 0 ∧ mQ u' n B x (u.1 0 11)) (MB D ad cI cL cB) (gA 12 ad sz)) 0 0 (gA 12 ad sz) := by
  intro sz
  refine z_met (cc := cX7_after) (maxL := 3) (ret := (some .int)) (by decide) rfl (Nat.le_of_ble_eq_true rfl) ?_
  intro pq lq sq mq aq Qq bq hmq cq C hr hml hown hts hlocks hK hX hsz hQ
  subst hsz
  have hT7 : ∀ w ∈ wsX70, w.before aq sq = true := fun w h => hts w ((by decide +kernel : ∀ w ∈ wsX70, w ∈ wsX7_after) w h)
  refine z_sub (L' := [(0, .ref (ad 0)), (1, .int (nI k)), (2, .int (nI i))]) [0, 1, 2] rfl ?_
  obtain ⟨hc1, hc2, h11, h12, h13, hS, hNx⟩ := hW
  have hn8 : n ≤ 8 := hB.1
  have hp2 : 2 ^ n ≤ 256 := pn8 hn8
  refine z_aload_n C dX7_after_0 0 rfl ?_
  refine z_iload_n C dX7_after_1 1 rfl ?_
  refine z_aload_n C dX7_after_2 0 rfl ?_
  refine z_get (q := 0) C (T := TX7) (N := 18) (ci := 7) (own := RX7) (index := 113) (v := .int (u.1 0 13)) hT7 hown hK (by decide) rfl rfl 13 (by decide) (hts (.fieldLink RX7 113 "TriggerAnalyzerModel" "situations" "I") (by decide +kernel)) (fun _ h9 => h9) rfl dX7_after_3 ?_
  refine z_topi (y := nI c) (h13) ?_
  refine z_callVi mX_ok C hml hown hts hK hX (c_X7_asks_vh l D ad cI cL cB hI u h11 h12 c (by omega) k hk) (cwV 2 hts gX7_after_X7_asks rfl rfl rfl (by decide +kernel) ⟨Nat.le_of_ble_eq_true rfl, Nat.le_of_ble_eq_true rfl⟩) (by decide) (ci := 7) rfl rfl rfl (st := []) rfl (Nat.le_of_ble_eq_true rfl) dX7_after_6 ⟨Nat.le_of_ble_eq_true rfl, Nat.le_of_ble_eq_true rfl⟩ (fun r6 u6 h6 => ?_)
  obtain ⟨zr6, zu6⟩ := h6
  subst r6
  subst u6
  refine z_if_eq (tgt := 38) C dX7_after_9 (by decide) (fun zc9 => ?_) (fun zc9 => ?_)
  · skip
    have zn9 := z0_t (by omega) zc9
    exact absurd zn9 (by decide)
  · skip
    have zn9 := z0_f zc9
    refine z_aload_n C dX7_after_12 0 rfl ?_
    refine z_iload_n C dX7_after_13 2 rfl ?_
    refine z_aload_n C dX7_after_14 0 rfl ?_
    refine z_get (q := 0) C (T := TX7) (N := 18) (ci := 7) (own := RX7) (index := 49) (v := .int ((xs u 0 0 (nI 0)).1 0 1)) hT7 hown hK (by decide) rfl rfl 1 (by decide) (hts (.fieldLink RX7 49 "TriggerAnalyzerModel" "rules" "I") (by decide +kernel)) (fun _ h9 => h9) rfl dX7_after_15 ?_
    refine z_topi (y := u.1 0 1) (xs_j (by decide)) ?_
    refine z_topi (y := nI n) (mR_n hM.1) ?_
    refine z_callVi mX_ok C hml hown hts hK hX (c_X7_asks_vh l D ad cI cL cB hI (xs u 0 0 (nI 0)) ((xs_j (by decide)).trans h11) ((xs_j (by decide)).trans h12) n (by omega) i hi) (cwV 2 hts gX7_after_X7_asks rfl rfl rfl (by decide +kernel) ⟨Nat.le_of_ble_eq_true rfl, Nat.le_of_ble_eq_true rfl⟩) (by decide) (ci := 7) rfl rfl rfl (st := []) rfl (Nat.le_of_ble_eq_true rfl) dX7_after_18 ⟨Nat.le_of_ble_eq_true rfl, Nat.le_of_ble_eq_true rfl⟩ (fun r18 u18 h18 => ?_)
    obtain ⟨zr18, zu18⟩ := h18
    subst r18
    subst u18
    refine z_if_eq (tgt := 38) C dX7_after_21 (by decide) (fun zc21 => ?_) (fun zc21 => ?_)
    · skip
      have zn21 := z0_t (by omega) zc21
      exact absurd zn21 (by decide)
    · skip
      have zn21 := z0_f zc21
      refine z_aload_n C dX7_after_24 0 rfl ?_
      refine z_get (q := 0) C (T := TX7) (N := 18) (ci := 7) (own := RX7) (index := 35) (v := .ref (ad 9)) hT7 hown hK (by decide) rfl rfl 15 (by decide) (hts (.fieldLink RX7 35 "TriggerAnalyzerModel" "next" "[I") (by decide +kernel)) (fun _ h9 => h9) rfl dX7_after_25 ?_
      refine z_bipush (v := nI 8) C (by decide) dX7_after_28 ?_
      refine z_iload_n C dX7_after_30 1 rfl ?_
      refine z_imul C dX7_after_31 ?_
      refine z_topi (y := nI (8 * k)) (pk_mul 8 k) ?_
      refine z_iload_n C dX7_after_32 2 rfl ?_
      refine z_iadd C dX7_after_33 ?_
      refine z_topi (y := nI ((8 * k) + i)) (nI_add (8 * k) i) ?_
      refine z_iald (q := 9) (len := 8000) (k := (8 * k) + i) C hK (by decide) rfl 0 rfl (rfl) (by omega) (by decide) dX7_after_34 ?_
      refine z_topi (y := u.1 9 ((8 * k) + i)) ((xs_c (by decide) _).trans (xs_c (by decide) _)) ?_
      refine z_topi (y := nxI (N (8 * k + i))) ((hNx _ (by omega)).1) ?_
      refine z_goto (tgt := 39) C dX7_after_35 (by decide) ?_
      exact z_iret C hr hlocks hQ (xs (xs u 0 0 (nI 0)) 0 0 (nI 0)) (⟨rfl, xs_s _ _ _ _, mQ_2 hM _ _⟩) (fun _ _ => rfl) dX7_after_39

set_option maxHeartbeats 4000000 in
set_option maxRecDepth 100000 in
theorem c_X7_after_x1 (l : Launch) (D : va_G) (ad : Nat → Nat) (cI cL cB : ClassId) (hI : gI 12 ad) (u : xS) (n : Nat) (B : Nat → Nat → Nat) (hB : gB n B) (x : Nat) (hx : x < 64 * 2 ^ n) (hM : mI u n B x) (hN : mNo u) (x1 x2 : Int32) : ∀ sz, Met l yX7_after wsX7_after ({ frames := 2, cells := 0, slots := 0, locals := 42 }) (MP D ad cI cL cB u [.ref (ad 0), .int (x1), .int (x2)] sz) (va_Qi (fun r_ u' => r_ = nI 0 ∧ u'.1 0 0 = nI 1 ∧ mQ u' n B x (u.1 0 11)) (MB D ad cI cL cB) (gA 12 ad sz)) 0 0 (gA 12 ad sz) := by
  intro sz
  refine z_met (cc := cX7_after) (maxL := 3) (ret := (some .int)) (by decide) rfl (Nat.le_of_ble_eq_true rfl) ?_
  intro pq lq sq mq aq Qq bq hmq cq C hr hml hown hts hlocks hK hX hsz hQ
  subst hsz
  have hT7 : ∀ w ∈ wsX70, w.before aq sq = true := fun w h => hts w ((by decide +kernel : ∀ w ∈ wsX70, w ∈ wsX7_after) w h)
  refine z_sub (L' := [(0, .ref (ad 0)), (1, .int (x1)), (2, .int (x2))]) [0, 1, 2] rfl ?_
  refine z_aload_n C dX7_after_0 0 rfl ?_
  refine z_iload_n C dX7_after_1 1 rfl ?_
  refine z_aload_n C dX7_after_2 0 rfl ?_
  refine z_get (q := 0) C (T := TX7) (N := 18) (ci := 7) (own := RX7) (index := 113) (v := .int (u.1 0 13)) hT7 hown hK (by decide) rfl rfl 13 (by decide) (hts (.fieldLink RX7 113 "TriggerAnalyzerModel" "situations" "I") (by decide +kernel)) (fun _ h9 => h9) rfl dX7_after_3 ?_
  refine z_callVi mX_ok C hml hown hts hK hX (c_X7_asks_w l D ad cI cL cB hI u hN x1 (u.1 0 13)) (cwV 2 hts gX7_after_X7_asks rfl rfl rfl (by decide +kernel) ⟨Nat.le_of_ble_eq_true rfl, Nat.le_of_ble_eq_true rfl⟩) (by decide) (ci := 7) rfl rfl rfl (st := []) rfl (Nat.le_of_ble_eq_true rfl) dX7_after_6 ⟨Nat.le_of_ble_eq_true rfl, Nat.le_of_ble_eq_true rfl⟩ (fun r6 u6 h6 => ?_)
  obtain ⟨zr6, zu6⟩ := h6
  subst r6
  subst u6
  refine z_if_eq (tgt := 38) C dX7_after_9 (by decide) (fun zc9 => ?_) (fun zc9 => ?_)
  · skip
    have zn9 := z0_t (by omega) zc9
    refine z_iconst (v := nI 0) C (by decide) dX7_after_38 ?_
    exact z_iret C hr hlocks hQ (xs u 0 0 (nI 1)) (⟨rfl, xs_s _ _ _ _, mQ_1 hM _⟩) (fun _ _ => rfl) dX7_after_39
  · skip
    have zn9 := z0_f zc9
    exact absurd zn9 (by decide)

set_option maxHeartbeats 4000000 in
set_option maxRecDepth 100000 in
theorem c_X7_after_x2 (l : Launch) (D : va_G) (ad : Nat → Nat) (cI cL cB : ClassId) (hI : gI 12 ad) (u : xS) (n : Nat) (B : Nat → Nat → Nat) (hB : gB n B) (x : Nat) (hx : x < 64 * 2 ^ n) (hM : mI u n B x) (c : Nat) (S N : Nat → Nat) (hW : mWh u n c S N) (x1 : Int32) (hf : bad c x1) (x2 : Int32) : ∀ sz, Met l yX7_after wsX7_after ({ frames := 2, cells := 0, slots := 0, locals := 42 }) (MP D ad cI cL cB u [.ref (ad 0), .int (x1), .int (x2)] sz) (va_Qi (fun r_ u' => r_ = nI 0 ∧ u'.1 0 0 = nI 2 ∧ mQ u' n B x (u.1 0 11)) (MB D ad cI cL cB) (gA 12 ad sz)) 0 0 (gA 12 ad sz) := by
  intro sz
  refine z_met (cc := cX7_after) (maxL := 3) (ret := (some .int)) (by decide) rfl (Nat.le_of_ble_eq_true rfl) ?_
  intro pq lq sq mq aq Qq bq hmq cq C hr hml hown hts hlocks hK hX hsz hQ
  subst hsz
  have hT7 : ∀ w ∈ wsX70, w.before aq sq = true := fun w h => hts w ((by decide +kernel : ∀ w ∈ wsX70, w ∈ wsX7_after) w h)
  refine z_sub (L' := [(0, .ref (ad 0)), (1, .int (x1)), (2, .int (x2))]) [0, 1, 2] rfl ?_
  obtain ⟨hc1, hc2, h11, h12, h13, hS, hNx⟩ := hW
  have hn8 : n ≤ 8 := hB.1
  have hp2 : 2 ^ n ≤ 256 := pn8 hn8
  refine z_aload_n C dX7_after_0 0 rfl ?_
  refine z_iload_n C dX7_after_1 1 rfl ?_
  refine z_aload_n C dX7_after_2 0 rfl ?_
  refine z_get (q := 0) C (T := TX7) (N := 18) (ci := 7) (own := RX7) (index := 113) (v := .int (u.1 0 13)) hT7 hown hK (by decide) rfl rfl 13 (by decide) (hts (.fieldLink RX7 113 "TriggerAnalyzerModel" "situations" "I") (by decide +kernel)) (fun _ h9 => h9) rfl dX7_after_3 ?_
  refine z_topi (y := nI c) (h13) ?_
  refine z_callVi mX_ok C hml hown hts hK hX (c_X7_asks_x l D ad cI cL cB hI u h11 h12 c (by omega) x1 hf) (cwV 2 hts gX7_after_X7_asks rfl rfl rfl (by decide +kernel) ⟨Nat.le_of_ble_eq_true rfl, Nat.le_of_ble_eq_true rfl⟩) (by decide) (ci := 7) rfl rfl rfl (st := []) rfl (Nat.le_of_ble_eq_true rfl) dX7_after_6 ⟨Nat.le_of_ble_eq_true rfl, Nat.le_of_ble_eq_true rfl⟩ (fun r6 u6 h6 => ?_)
  obtain ⟨zr6, zu6⟩ := h6
  subst r6
  subst u6
  refine z_if_eq (tgt := 38) C dX7_after_9 (by decide) (fun zc9 => ?_) (fun zc9 => ?_)
  · skip
    have zn9 := z0_t (by omega) zc9
    refine z_iconst (v := nI 0) C (by decide) dX7_after_38 ?_
    exact z_iret C hr hlocks hQ (xs u 0 0 (nI 2)) (⟨rfl, xs_s _ _ _ _, mQ_1 hM _⟩) (fun _ _ => rfl) dX7_after_39
  · skip
    have zn9 := z0_f zc9
    exact absurd zn9 (by decide)

set_option maxHeartbeats 4000000 in
set_option maxRecDepth 100000 in
theorem c_X7_after_x3 (l : Launch) (D : va_G) (ad : Nat → Nat) (cI cL cB : ClassId) (hI : gI 12 ad) (u : xS) (n : Nat) (B : Nat → Nat → Nat) (hB : gB n B) (x : Nat) (hx : x < 64 * 2 ^ n) (hM : mI u n B x) (c : Nat) (S N : Nat → Nat) (hW : mWh u n c S N) (k : Nat) (hk : k < c) (x2 : Int32) (hf : bad n x2) : ∀ sz, Met l yX7_after wsX7_after ({ frames := 2, cells := 0, slots := 0, locals := 42 }) (MP D ad cI cL cB u [.ref (ad 0), .int (nI k), .int (x2)] sz) (va_Qi (fun r_ u' => r_ = nI 0 ∧ u'.1 0 0 = nI 2 ∧ mQ u' n B x (u.1 0 11)) (MB D ad cI cL cB) (gA 12 ad sz)) 0 0 (gA 12 ad sz) := by
  intro sz
  refine z_met (cc := cX7_after) (maxL := 3) (ret := (some .int)) (by decide) rfl (Nat.le_of_ble_eq_true rfl) ?_
  intro pq lq sq mq aq Qq bq hmq cq C hr hml hown hts hlocks hK hX hsz hQ
  subst hsz
  have hT7 : ∀ w ∈ wsX70, w.before aq sq = true := fun w h => hts w ((by decide +kernel : ∀ w ∈ wsX70, w ∈ wsX7_after) w h)
  refine z_sub (L' := [(0, .ref (ad 0)), (1, .int (nI k)), (2, .int (x2))]) [0, 1, 2] rfl ?_
  obtain ⟨hc1, hc2, h11, h12, h13, hS, hNx⟩ := hW
  have hn8 : n ≤ 8 := hB.1
  have hp2 : 2 ^ n ≤ 256 := pn8 hn8
  refine z_aload_n C dX7_after_0 0 rfl ?_
  refine z_iload_n C dX7_after_1 1 rfl ?_
  refine z_aload_n C dX7_after_2 0 rfl ?_
  refine z_get (q := 0) C (T := TX7) (N := 18) (ci := 7) (own := RX7) (index := 113) (v := .int (u.1 0 13)) hT7 hown hK (by decide) rfl rfl 13 (by decide) (hts (.fieldLink RX7 113 "TriggerAnalyzerModel" "situations" "I") (by decide +kernel)) (fun _ h9 => h9) rfl dX7_after_3 ?_
  refine z_topi (y := nI c) (h13) ?_
  refine z_callVi mX_ok C hml hown hts hK hX (c_X7_asks_vh l D ad cI cL cB hI u h11 h12 c (by omega) k hk) (cwV 2 hts gX7_after_X7_asks rfl rfl rfl (by decide +kernel) ⟨Nat.le_of_ble_eq_true rfl, Nat.le_of_ble_eq_true rfl⟩) (by decide) (ci := 7) rfl rfl rfl (st := []) rfl (Nat.le_of_ble_eq_true rfl) dX7_after_6 ⟨Nat.le_of_ble_eq_true rfl, Nat.le_of_ble_eq_true rfl⟩ (fun r6 u6 h6 => ?_)
  obtain ⟨zr6, zu6⟩ := h6
  subst r6
  subst u6
  refine z_if_eq (tgt := 38) C dX7_after_9 (by decide) (fun zc9 => ?_) (fun zc9 => ?_)
  · skip
    have zn9 := z0_t (by omega) zc9
    exact absurd zn9 (by decide)
  · skip
    have zn9 := z0_f zc9
    refine z_aload_n C dX7_after_12 0 rfl ?_
    refine z_iload_n C dX7_after_13 2 rfl ?_
    refine z_aload_n C dX7_after_14 0 rfl ?_
    refine z_get (q := 0) C (T := TX7) (N := 18) (ci := 7) (own := RX7) (index := 49) (v := .int ((xs u 0 0 (nI 0)).1 0 1)) hT7 hown hK (by decide) rfl rfl 1 (by decide) (hts (.fieldLink RX7 49 "TriggerAnalyzerModel" "rules" "I") (by decide +kernel)) (fun _ h9 => h9) rfl dX7_after_15 ?_
    refine z_topi (y := u.1 0 1) (xs_j (by decide)) ?_
    refine z_topi (y := nI n) (mR_n hM.1) ?_
    refine z_callVi mX_ok C hml hown hts hK hX (c_X7_asks_x l D ad cI cL cB hI (xs u 0 0 (nI 0)) ((xs_j (by decide)).trans h11) ((xs_j (by decide)).trans h12) n (by omega) x2 hf) (cwV 2 hts gX7_after_X7_asks rfl rfl rfl (by decide +kernel) ⟨Nat.le_of_ble_eq_true rfl, Nat.le_of_ble_eq_true rfl⟩) (by decide) (ci := 7) rfl rfl rfl (st := []) rfl (Nat.le_of_ble_eq_true rfl) dX7_after_18 ⟨Nat.le_of_ble_eq_true rfl, Nat.le_of_ble_eq_true rfl⟩ (fun r18 u18 h18 => ?_)
    obtain ⟨zr18, zu18⟩ := h18
    subst r18
    subst u18
    refine z_if_eq (tgt := 38) C dX7_after_21 (by decide) (fun zc21 => ?_) (fun zc21 => ?_)
    · skip
      have zn21 := z0_t (by omega) zc21
      refine z_iconst (v := nI 0) C (by decide) dX7_after_38 ?_
      exact z_iret C hr hlocks hQ (xs (xs u 0 0 (nI 0)) 0 0 (nI 2)) (⟨rfl, xs_s _ _ _ _, mQ_2 hM _ _⟩) (fun _ _ => rfl) dX7_after_39
    · skip
      have zn21 := z0_f zc21
      exact absurd zn21 (by decide)

set_option maxHeartbeats 4000000 in
set_option maxRecDepth 100000 in
theorem c_X7_isEnd (l : Launch) (D : va_G) (ad : Nat → Nat) (cI cL cB : ClassId) (hI : gI 12 ad) (u : xS) (k : Nat) (hk : k < 1000) (y : Nat) (hy : y < 16384) (h8 : u.1 8 k = nI (mf y)) : ∀ sz, Met l yX7_isEnd wsX7_isEnd ({ frames := 1, cells := 0, slots := 0, locals := 20 }) (MP D ad cI cL cB u [.ref (ad 0), .int (nI k)] sz) (va_Qi (fun r_ u' => r_ = (if y / 64 = 0 then 1 else 0) ∧ u' = u) (MB D ad cI cL cB) (gA 12 ad sz)) 0 0 (gA 12 ad sz) := by
  intro sz
  refine z_met (cc := cX7_isEnd) (maxL := 2) (ret := (some .boolean)) (by decide) rfl (Nat.le_of_ble_eq_true rfl) ?_
  intro pq lq sq mq aq Qq bq hmq cq C hr hml hown hts hlocks hK hX hsz hQ
  subst hsz
  have hT7 : ∀ w ∈ wsX70, w.before aq sq = true := fun w h => hts w ((by decide +kernel : ∀ w ∈ wsX70, w ∈ wsX7_isEnd) w h)
  refine z_sub (L' := [(0, .ref (ad 0)), (1, .int (nI k))]) [0, 1] rfl ?_
  have hmy : mf y < 16384 := mf_lt hy
  refine z_aload_n C dX7_isEnd_0 0 rfl ?_
  refine z_get (q := 0) C (T := TX7) (N := 18) (ci := 7) (own := RX7) (index := 32) (v := .ref (ad 8)) hT7 hown hK (by decide) rfl rfl 14 (by decide) (hts (.fieldLink RX7 32 "TriggerAnalyzerModel" "all" "[I") (by decide +kernel)) (fun _ h9 => h9) rfl dX7_isEnd_1 ?_
  refine z_iload_n C dX7_isEnd_4 1 rfl ?_
  refine z_iald (q := 8) (len := 1000) (k := k) C hK (by decide) rfl 0 rfl (rfl) (by omega) (by decide) dX7_isEnd_5 ?_
  refine z_topi (y := nI (mf y)) (h8) ?_
  refine z_callSi mX_ok C hml hown hts hK hX (c_X7_triggeredIn l D ad cI cL cB hI u (mf y)) (va_cwS 1 hts gX7_isEnd_X7_triggeredIn rfl rfl rfl (by decide +kernel) ⟨Nat.le_of_ble_eq_true rfl, Nat.le_of_ble_eq_true rfl⟩) rfl (st := []) rfl (Nat.le_of_ble_eq_true rfl) dX7_isEnd_6 ⟨Nat.le_of_ble_eq_true rfl, Nat.le_of_ble_eq_true rfl⟩ (fun r6 u6 h6 => ?_)
  obtain ⟨zr6, zu6⟩ := h6
  subst r6
  subst u6
  refine z_topi (y := nI (y / 64)) (by rw [mf_mod hy]) ?_
  refine z_if_ne (tgt := 16) C dX7_isEnd_9 (by decide) (fun zc9 => ?_) (fun zc9 => ?_)
  · skip
    have zn9 := z0_f zc9
    have z9 : ¬ y / 64 = 0 := zn9
    refine z_iconst (v := nI 0) C (by decide) dX7_isEnd_16 ?_
    exact z_zret C hr hlocks rfl hQ u (⟨by rw [if_neg z9]; rfl, rfl⟩) (fun _ _ => rfl) dX7_isEnd_17
  · skip
    have zn9 := z0_t (by omega) zc9
    have z9 : y / 64 = 0 := zn9
    refine z_iconst (v := nI 1) C (by decide) dX7_isEnd_12 ?_
    refine z_goto (tgt := 17) C dX7_isEnd_13 (by decide) ?_
    exact z_zret C hr hlocks rfl hQ u (⟨by rw [if_pos z9]; rfl, rfl⟩) (fun _ _ => rfl) dX7_isEnd_17

set_option maxHeartbeats 4000000 in
set_option maxRecDepth 100000 in
theorem c_X7_endCount (l : Launch) (D : va_G) (ad : Nat → Nat) (cI cL cB : ClassId) (hI : gI 12 ad) (u : xS) (n : Nat) (B : Nat → Nat → Nat) (hB : gB n B) (x : Nat) (hx : x < 64 * 2 ^ n) (hM : mI u n B x) (c : Nat) (S N : Nat → Nat) (hW : mWh u n c S N) : ∀ sz, Met l yX7_endCount wsX7_endCount ({ frames := 2, cells := 0, slots := 0, locals := 42 }) (MP D ad cI cL cB u [.ref (ad 0)] sz) (va_Qi (fun r_ u' => r_ = nI (fb_ct (isE S) c) ∧ u'.1 0 0 = nI 0 ∧ mQ u' n B x (u.1 0 11)) (MB D ad cI cL cB) (gA 12 ad sz)) 0 0 (gA 12 ad sz) := by
  intro sz
  refine z_met (cc := cX7_endCount) (maxL := 3) (ret := (some .int)) (by decide) rfl (Nat.le_of_ble_eq_true rfl) ?_
  intro pq lq sq mq aq Qq bq hmq cq C hr hml hown hts hlocks hK hX hsz hQ
  subst hsz
  have hT7 : ∀ w ∈ wsX70, w.before aq sq = true := fun w h => hts w ((by decide +kernel : ∀ w ∈ wsX70, w ∈ wsX7_endCount) w h)
  refine z_sub (L' := [(0, .ref (ad 0))]) [0] rfl ?_
  obtain ⟨hc1, hc2, h11, h12, h13, hS, hNx⟩ := hW
  have hn8 : n ≤ 8 := hB.1
  have hp2 : 2 ^ n ≤ 256 := pn8 hn8
  refine z_aload_n C dX7_endCount_0 0 rfl ?_
  refine z_iconst (v := nI 0) C (by decide) dX7_endCount_1 ?_
  refine z_iconst (v := nI 1) C (by decide) dX7_endCount_2 ?_
  refine z_callVi mX_ok C hml hown hts hK hX (c_X7_asks_vh l D ad cI cL cB hI u h11 h12 1 (by decide) 0 (by decide)) (cwV 2 hts gX7_endCount_X7_asks rfl rfl rfl (by decide +kernel) ⟨Nat.le_of_ble_eq_true rfl, Nat.le_of_ble_eq_true rfl⟩) (by decide) (ci := 7) rfl rfl rfl (st := []) rfl (Nat.le_of_ble_eq_true rfl) dX7_endCount_3 ⟨Nat.le_of_ble_eq_true rfl, Nat.le_of_ble_eq_true rfl⟩ (fun r3 u3 h3 => ?_)
  obtain ⟨zr3, zu3⟩ := h3
  subst r3
  subst u3
  refine z_if_ne (tgt := 11) C dX7_endCount_6 (by decide) (fun zc6 => ?_) (fun zc6 => ?_)
  · skip
    have zn6 := z0_f zc6
    refine z_iconst (v := nI 0) C (by decide) dX7_endCount_11 ?_
    refine z_istore_n (L' := [(1, .int (nI 0)), (0, .ref (ad 0))]) C dX7_endCount_12 (by decide) rfl ?_
    refine z_iconst (v := nI 0) C (by decide) dX7_endCount_13 ?_
    refine z_istore_n (L' := [(2, .int (nI 0)), (1, .int (nI 0)), (0, .ref (ad 0))]) C dX7_endCount_14 (by decide) rfl ?_
    have loop15 : ∀ (d15 : Nat) (k a : Nat), c - k < d15 → (k ≤ c) → (a = fb_ct (isE S) k) → ZZ pq l lq { frames := 2, cells := 0, slots := 0, locals := 42 } sq mq aq bq hmq cq D vwCl 12 ad 3 0 0 Qq (mF ad cI cL cB ((xs u 0 0 (nI 0)))) [(0, .ref (ad 0)), (1, .int (nI a)), (2, .int (nI k))] 15 [] := by
      intro d15
      induction d15 with
      | zero => intro k a hz; exact absurd hz (Nat.not_lt_zero _)
      | succ d15 ih15 =>
        intro k a hz15 hk ha
        refine z_iload_n C dX7_endCount_15 2 rfl ?_
        refine z_aload_n C dX7_endCount_16 0 rfl ?_
        refine z_get (q := 0) C (T := TX7) (N := 18) (ci := 7) (own := RX7) (index := 113) (v := .int ((xs u 0 0 (nI 0)).1 0 13)) hT7 hown hK (by decide) rfl rfl 13 (by decide) (hts (.fieldLink RX7 113 "TriggerAnalyzerModel" "situations" "I") (by decide +kernel)) (fun _ h9 => h9) rfl dX7_endCount_17 ?_
        refine z_topi (y := nI c) (h13) ?_
        refine z_icmp_ge (tgt := 45) C dX7_endCount_20 (by decide) (fun zc20 => ?_) (fun zc20 => ?_)
        · skip
          have zn20 := zge_t (a := k) (b := c) (by omega) (by omega) zc20
          refine z_iload_n C dX7_endCount_45 1 rfl ?_
          exact z_iret C hr hlocks hQ ((xs u 0 0 (nI 0))) (⟨by rw [ha, show k = c by omega], xs_s _ _ _ _, mQ_1 hM _⟩) (fun _ _ => rfl) dX7_endCount_46
        · skip
          have zn20 := zge_f (a := k) (b := c) (by omega) (by omega) zc20
          have hsk := hS k (by omega)
          refine z_iload_n C dX7_endCount_23 1 rfl ?_
          refine z_aload_n C dX7_endCount_24 0 rfl ?_
          refine z_iload_n C dX7_endCount_25 2 rfl ?_
          refine z_callVi mX_ok C hml hown hts hK hX (c_X7_isEnd l D ad cI cL cB hI ((xs u 0 0 (nI 0))) k (by omega) (S k) (by omega) ((xs_c (by decide) _).trans hsk.1)) (cwV 1 hts gX7_endCount_X7_isEnd rfl rfl rfl (by decide +kernel) ⟨Nat.le_of_ble_eq_true rfl, Nat.le_of_ble_eq_true rfl⟩) (by decide) (ci := 7) rfl rfl rfl (st := [.int (nI a)]) rfl (Nat.le_of_ble_eq_true rfl) dX7_endCount_26 ⟨Nat.le_of_ble_eq_true rfl, Nat.le_of_ble_eq_true rfl⟩ (fun r26 u26 h26 => ?_)
          obtain ⟨zr26, zu26⟩ := h26
          subst r26
          subst u26
          refine z_if_eq (tgt := 36) C dX7_endCount_29 (by decide) (fun zc29 => ?_) (fun zc29 => ?_)
          · skip
            have hz := z1f zc29
            refine z_iconst (v := nI 0) C (by decide) dX7_endCount_36 ?_
            refine z_iadd C dX7_endCount_37 ?_
            refine z_topi (y := nI (a + 0)) (nI_add a 0) ?_
            refine z_istore_n (L' := [(1, .int (nI (a + 0))), (0, .ref (ad 0)), (2, .int (nI k))]) C dX7_endCount_38 (by decide) rfl ?_
            refine z_iinc (L' := [(2, .int (nI (k + 1))), (1, .int (nI (a + 0))), (0, .ref (ad 0))]) C dX7_endCount_39 2 rfl (nI_1 k) (by decide) rfl ?_
            refine z_goto (tgt := 15) C dX7_endCount_42 (by decide) ?_
            refine z_sub (L' := [(0, .ref (ad 0)), (1, .int (nI (a + 0))), (2, .int (nI (k + 1)))]) [2, 1, 0] rfl ?_
            exact ih15 (k + 1) (a + 0) (by omega) (by omega) (by rw [ha, fb_ct_succ, if_neg (fun z => hz (isE_s.mp z))])
          · skip
            have hz := z1t zc29
            refine z_iconst (v := nI 1) C (by decide) dX7_endCount_32 ?_
            refine z_goto (tgt := 37) C dX7_endCount_33 (by decide) ?_
            refine z_iadd C dX7_endCount_37 ?_
            refine z_topi (y := nI (a + 1)) (nI_add a 1) ?_
            refine z_istore_n (L' := [(1, .int (nI (a + 1))), (0, .ref (ad 0)), (2, .int (nI k))]) C dX7_endCount_38 (by decide) rfl ?_
            refine z_iinc (L' := [(2, .int (nI (k + 1))), (1, .int (nI (a + 1))), (0, .ref (ad 0))]) C dX7_endCount_39 2 rfl (nI_1 k) (by decide) rfl ?_
            refine z_goto (tgt := 15) C dX7_endCount_42 (by decide) ?_
            refine z_sub (L' := [(0, .ref (ad 0)), (1, .int (nI (a + 1))), (2, .int (nI (k + 1)))]) [2, 1, 0] rfl ?_
            exact ih15 (k + 1) (a + 1) (by omega) (by omega) (by rw [ha, fb_ct_succ, if_pos (isE_s.mpr hz)])
    refine z_sub (L' := [(0, .ref (ad 0)), (1, .int (nI 0)), (2, .int (nI 0))]) [2, 1, 0] rfl ?_
    exact loop15 (c + 1) 0 0 (by omega) (by omega) rfl
  · skip
    have zn6 := z0_t (by omega) zc6
    exact absurd zn6 (by decide)

set_option maxHeartbeats 4000000 in
set_option maxRecDepth 100000 in
theorem c_X7_endCount_x1 (l : Launch) (D : va_G) (ad : Nat → Nat) (cI cL cB : ClassId) (hI : gI 12 ad) (u : xS) (n : Nat) (B : Nat → Nat → Nat) (hB : gB n B) (x : Nat) (hx : x < 64 * 2 ^ n) (hM : mI u n B x) (hN : mNo u) : ∀ sz, Met l yX7_endCount wsX7_endCount ({ frames := 2, cells := 0, slots := 0, locals := 42 }) (MP D ad cI cL cB u [.ref (ad 0)] sz) (va_Qi (fun r_ u' => r_ = nI 0 ∧ u'.1 0 0 = nI 1 ∧ mQ u' n B x (u.1 0 11)) (MB D ad cI cL cB) (gA 12 ad sz)) 0 0 (gA 12 ad sz) := by
  intro sz
  refine z_met (cc := cX7_endCount) (maxL := 3) (ret := (some .int)) (by decide) rfl (Nat.le_of_ble_eq_true rfl) ?_
  intro pq lq sq mq aq Qq bq hmq cq C hr hml hown hts hlocks hK hX hsz hQ
  subst hsz
  refine z_sub (L' := [(0, .ref (ad 0))]) [0] rfl ?_
  refine z_aload_n C dX7_endCount_0 0 rfl ?_
  refine z_iconst (v := nI 0) C (by decide) dX7_endCount_1 ?_
  refine z_iconst (v := nI 1) C (by decide) dX7_endCount_2 ?_
  refine z_callVi mX_ok C hml hown hts hK hX (c_X7_asks_w l D ad cI cL cB hI u hN (nI 0) (nI 1)) (cwV 2 hts gX7_endCount_X7_asks rfl rfl rfl (by decide +kernel) ⟨Nat.le_of_ble_eq_true rfl, Nat.le_of_ble_eq_true rfl⟩) (by decide) (ci := 7) rfl rfl rfl (st := []) rfl (Nat.le_of_ble_eq_true rfl) dX7_endCount_3 ⟨Nat.le_of_ble_eq_true rfl, Nat.le_of_ble_eq_true rfl⟩ (fun r3 u3 h3 => ?_)
  obtain ⟨zr3, zu3⟩ := h3
  subst r3
  subst u3
  refine z_if_ne (tgt := 11) C dX7_endCount_6 (by decide) (fun zc6 => ?_) (fun zc6 => ?_)
  · skip
    have zn6 := z0_f zc6
    exact absurd zn6 (by decide)
  · skip
    have zn6 := z0_t (by omega) zc6
    refine z_iconst (v := nI 0) C (by decide) dX7_endCount_9 ?_
    exact z_iret C hr hlocks hQ (xs u 0 0 (nI 1)) (⟨rfl, xs_s _ _ _ _, mQ_1 hM _⟩) (fun _ _ => rfl) dX7_endCount_10
