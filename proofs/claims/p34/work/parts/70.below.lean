theorem z0_f9 {m : Nat} (h : 0 < m) (h2 : m < 2 ^ 31) : ¬ nI m = 0 := fun z => by have := (zi_0 h2).mp z; omega
set_option maxHeartbeats 4000000 in
set_option maxRecDepth 100000 in
theorem c_L_below (l : Launch) (D : va_G) (ad : Nat → Nat) (cI cL cR : ClassId) (cc9 : Nat) (n : Nat) (Ln b : Nat) (sc : Nat → Int32) (hI : gI n ad) (hn : 34 ≤ n) (x : Int32) (m : Nat) (hm : 0 < m) (hm2 : m < 2 ^ 31) (z : pS) : ∀ sz, Met l yL_below wsL_below ({ frames := 0, cells := 0, slots := 0, locals := 0 }) (PP D ad cI cL cR cc9 n b Ln sc z [.int (x), .int (nI m)] sz) (va_Qi (fun r_ z9 => r_ = nI (bl x m) ∧ z9 = z) (PB D ad cI cL cR cc9 n) (gA n ad sz)) 0 0 (gA n ad sz) := by
  intro sz
  refine z_met (cc := cL_below) (maxL := 2) (ret := (some .int)) (by decide) rfl (Nat.le_of_ble_eq_true rfl) ?_
  intro pq lq sq mq aq Qq bq hmq cq C hr hml hown hts hlocks hK hX hsz hQ
  subst hsz
  obtain ⟨hX0, hcst, hXs, hbl, hbA, hL9⟩ := id hX
  refine z_sub (L' := [(0, .int (x)), (1, .int (nI m))]) [0, 1] rfl ?_
  refine z_iload_n C dL_below_0 0 rfl ?_
  refine z_ldc (v := (2147483647)) C hown (hts (.constant RL 7 (2147483647)) (by decide +kernel)) dL_below_1 ?_
  refine z_iand C dL_below_3 ?_
  refine z_topi (y := nI (bl0 x)) (bl0_mask x) ?_
  refine z_iload_n C dL_below_4 1 rfl ?_
  refine z_irem C (z0_f9 hm hm2) rfl dL_below_5 ?_
  refine z_topi (y := nI (bl x m)) (bl_rem x hm hm2) ?_
  exact z_iret C hr hlocks hQ z (⟨rfl, rfl⟩) (fun _ _ => rfl) dL_below_6

set_option maxHeartbeats 4000000 in
set_option maxRecDepth 100000 in
theorem c_L_cell (l : Launch) (D : va_G) (ad : Nat → Nat) (cI cL cR : ClassId) (cc9 : Nat) (n : Nat) (Ln b : Nat) (sc : Nat → Int32) (hI : gI n ad) (hn : 34 ≤ n) (k : Nat) (hk : k < 2 ^ 20) (z : pS) : ∀ sz, Met l yL_cell wsL_cell ({ frames := 0, cells := 0, slots := 0, locals := 0 }) (PP D ad cI cL cR cc9 n b Ln sc z [.ref (b), .int (nI k)] sz) (va_Qi (fun r_ z9 => r_ = ce sc Ln k ∧ z9 = z) (PB D ad cI cL cR cc9 n) (gA n ad sz)) 0 0 (gA n ad sz) := by
  intro sz
  refine z_met (cc := cL_cell) (maxL := 2) (ret := (some .int)) (by decide) rfl (Nat.le_of_ble_eq_true rfl) ?_
  intro pq lq sq mq aq Qq bq hmq cq C hr hml hown hts hlocks hK hX hsz hQ
  subst hsz
  obtain ⟨hX0, hcst, hXs, hbl, hbA, hL9⟩ := id hX
  refine z_sub (L' := [(0, .ref (b)), (1, .int (nI k))]) [0, 1] rfl ?_
  refine z_iload_n C dL_cell_0 1 rfl ?_
  refine z_aload_n C dL_cell_1 0 rfl ?_
  refine z_slen C hXs hbl hbA dL_cell_2 ?_
  refine z_icmp_ge (tgt := 12) C dL_cell_3 (by decide) (fun zc3 => ?_) (fun zc3 => ?_)
  · skip
    have zn3 := zge_t (a := k) (b := Ln) (by omega) (by omega) zc3
    refine z_ldc (v := (790386105)) C hown (hts (.constant RL 8 (790386105)) (by decide +kernel)) dL_cell_12 ?_
    refine z_iload_n C dL_cell_14 1 rfl ?_
    refine z_iconst (v := nI 3) C (by decide) dL_cell_15 ?_
    refine z_iadd C dL_cell_16 ?_
    refine z_topi (y := nI (k + 3)) (nI_add k 3) ?_
    refine z_imul C dL_cell_17 ?_
    refine z_topi (y := nI (790386105 * (k + 3))) (pk_mul 790386105 (k + 3)) ?_
    refine z_topi (y := ce sc Ln k) ((if_neg (by omega)).symm) ?_
    exact z_iret C hr hlocks hQ z (⟨rfl, rfl⟩) (fun _ _ => rfl) dL_cell_18
  · skip
    have zn3 := zge_f (a := k) (b := Ln) (by omega) (by omega) zc3
    refine z_aload_n C dL_cell_6 0 rfl ?_
    refine z_iload_n C dL_cell_7 1 rfl ?_
    refine z_sld C hXs hbl hbA (k := k) rfl (by omega) (by omega) dL_cell_8 ?_
    refine z_goto (tgt := 18) C dL_cell_9 (by decide) ?_
    refine z_topi (y := ce sc Ln k) ((if_pos (by omega)).symm) ?_
    exact z_iret C hr hlocks hQ z (⟨rfl, rfl⟩) (fun _ _ => rfl) dL_cell_18
