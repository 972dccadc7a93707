def b1 (a k : Nat) : Nat := if a.testBit k = true then 1 else 0
theorem b1_le (a k : Nat) : b1 a k ≤ 1 := by unfold b1; split <;> omega
theorem b1_i {a k : Nat} (ha : a < 2 ^ 31) (hk : k < 31) : (nI a >>> (nI k &&& 31)) &&& nI 1 = nI (b1 a k) := by
  rw [pk_shrN ha _ k (s_l k (by omega)), fa_and]
  congr 1
  rw [Nat.and_one_is_mod]
  unfold b1
  rw [Nat.testBit_eq_decide_div_mod_eq]
  by_cases h : a / 2 ^ k % 2 = 1
  · rw [decide_eq_true h, if_pos rfl]; exact h
  · rw [decide_eq_false h, if_neg (by decide)]; omega
theorem b1_y {a k : Nat} (h : b1 a k = 1) : a.testBit k = true := by
  unfold b1 at h
  split at h
  · assumption
  · exact absurd h (by decide)
theorem b1_n {a k : Nat} (h : b1 a k ≠ 1) : a.testBit k = false := by
  unfold b1 at h
  cases hh : a.testBit k with
  | false => rfl
  | true => rw [hh] at h; exact absurd rfl h
theorem b1_0 {a k : Nat} (h : b1 a k = 0) : a.testBit k = false := b1_n (by omega)
theorem b1_1 {a k : Nat} (h : b1 a k ≠ 0) : a.testBit k = true := b1_y (by have := b1_le a k; omega)
/-- a wrong rank throws -/
theorem rank_bad (l : Launch) (hst0 : l.stackTraces = false) (D : va_G) (ad : Nat → Nat) (cI cL cR : ClassId) (hI : gI 34 ad) (u : xS) (n : Nat) (B : Nat → Nat → Nat) (hR : xR u n B) (i : Nat) (hi : i < n) (j : Nat) (hj : j < n) (h : i = j ∨ (B j 5).testBit i = true) : ∀ sz, vx_Met l yX6_rank wsX6_rank ({ frames := 7, cells := 1, slots := 6, locals := 112 }) (XP D ad cI cL cR u [.ref (ad 33), .int (nI i), .int (nI j)] sz) QN (XE D ad cI cL cR eIA u sz) 1 6 (gA 34 ad sz) := by
  by_cases e : i = j
  · rw [← e]
    exact c_X6_rank_x3 l hst0 D ad cI cL cR hI u n B hR i hi
  · exact c_X6_rank_x4 l hst0 D ad cI cL cR hI u n B hR i hi j hj e (h.resolve_left e)
/-! the law's own sets of lower rules -/
theorem rkA_n {B : Nat → Nat → Nat} {a b r : Nat} (hr : r < 8) (h1 : r ≠ a) (h2 : (B r 5).testBit a = false) : rkB B (abv B a ||| 2 ^ a) (B b 5 ||| 2 ^ b) r 5 = B r 5 := by
  rw [rkB_5, if_neg (fun z => by
    rcases (rk_U hr).mp z with y | y
    · exact h1 y
    · rw [h2] at y; exact absurd y (by decide)), Nat.or_zero]
theorem rkA_y {B : Nat → Nat → Nat} {a b r : Nat} (hr : r < 8) (h : r = a ∨ (B r 5).testBit a = true) : rkB B (abv B a ||| 2 ^ a) (B b 5 ||| 2 ^ b) r 5 = B r 5 ||| (B b 5 ||| 2 ^ b) := by
  rw [rkB_5, if_pos ((rk_U hr).mpr h)]
def rkH (B B2 : Nat → Nat → Nat) (r : Nat) (A : xS) : Prop := ∀ j, j < 8 → A.1 35 j = nI (if j < r then B2 j 5 else B j 5)
theorem rkH_0 {B B2 : Nat → Nat → Nat} {A : xS} (h : ∀ j, j < 8 → A.1 35 j = nI (B j 5)) : rkH B B2 0 A := fun j hj => by rw [if_neg (Nat.not_lt_zero j)]; exact h j hj
theorem rkH_at {B B2 : Nat → Nat → Nat} {r j : Nat} {A : xS} (h : rkH B B2 r A) (hj : j < 8) (hjr : r ≤ j) : A.1 35 j = nI (B j 5) := by
  rw [h j hj, if_neg (by omega)]
theorem rkH_lo {B B2 : Nat → Nat → Nat} {r j : Nat} {A : xS} (h : rkH B B2 r A) (hj : j < 8) (e : B2 j 5 = B j 5) : A.1 35 j = nI (B j 5) := by
  rw [h j hj]
  split
  · rw [e]
  · rfl
theorem rkH_n {B B2 : Nat → Nat → Nat} {r : Nat} {A : xS} (h : rkH B B2 r A) (e : B2 r 5 = B r 5) : rkH B B2 (r + 1) A := fun j hj => by
  rw [h j hj]
  by_cases z : j = r
  · rw [z, if_neg (Nat.lt_irrefl r), if_pos (Nat.lt_succ_self r), e]
  · by_cases y : j < r
    · rw [if_pos y, if_pos (by omega)]
    · rw [if_neg y, if_neg (by omega)]
theorem rkH_y {B B2 : Nat → Nat → Nat} {r v : Nat} {A : xS} (h : rkH B B2 r A) (e : B2 r 5 = v) : rkH B B2 (r + 1) (xs A 35 r (nI v)) := fun j hj => by
  by_cases z : j = r
  · rw [z, xs_s, if_pos (Nat.lt_succ_self r), e]
  · rw [xs_j z, h j hj]
    by_cases y : j < r
    · rw [if_pos y, if_pos (by omega)]
    · rw [if_neg y, if_neg (by omega)]
theorem rkH_end {n : Nat} {B : Nat → Nat → Nat} (hB : gB n B) {a b r : Nat} (ha : a < n) (hr : n ≤ r) {A : xS} (h : rkH B (rkB B (abv B a ||| 2 ^ a) (B b 5 ||| 2 ^ b)) r A) : ∀ j, j < 8 → A.1 35 j = nI (rkB B (abv B a ||| 2 ^ a) (B b 5 ||| 2 ^ b) j 5) := fun j hj => by
  rw [h j hj]
  by_cases y : j < r
  · rw [if_pos y]
  · rw [if_neg y]
    have e := (hB.2.2.1 j (by omega) hj).2.2.1
    rw [rkA_n hj (by omega) (by rw [e, Nat.zero_testBit])]

set_option maxHeartbeats 4000000 in
set_option maxRecDepth 100000 in
theorem c_L_rank (l : Launch) (hst0 : l.stackTraces = false) (D : va_G) (ad : Nat → Nat) (cI cL cR : ClassId) (cc9 : Nat) (Ln b : Nat) (sc : Nat → Int32) (hI : gI 36 ad) (x : Int32) (mm : Nat) (hm1 : 1 ≤ mm) (hm6 : mm ≤ 6) (u A0 : xS) (B0 : Nat → Nat → Nat) (hI0 : xI u mm B0 0) (hA0 : ∀ j, j < 8 → A0.1 35 j = nI (B0 j 5)) : ∀ sz, Met l yL_rank wsL_rank ({ frames := 8, cells := 3, slots := 18, locals := 137 }) (PP D ad cI cL cR cc9 36 b Ln sc (u, A0) [.ref (ad 33), .int (x), .int (nI mm), .ref (ad 35)] sz) (va_Qi (fun r_ z9 => r_ = nI 1 ∧ ∃ B9, xI z9.1 mm B9 0 ∧ ∀ j, j < 8 → z9.2.1 35 j = nI (B9 j 5)) (PB D ad cI cL cR cc9 36) (gA 36 ad sz)) 3 18 (gA 36 ad sz) := by
  intro sz
  refine z_metW (cc := cL_rank) (maxL := 13) (ret := (some .boolean)) (hh := [(99, 109, 112, 41)]) (by decide) rfl (Nat.le_of_ble_eq_true rfl) ?_
  intro pq lq sq mq aq Qq bq hmq cq C hr hml hown hts hlocks hK hX htab hsz hQ
  subst hsz
  obtain ⟨hX0, hcst, hXs, hbl, hbA, hL9⟩ := id hX
  refine z_sub (L' := [(0, .ref (ad 33)), (1, .int (x)), (2, .int (nI mm)), (3, .ref (ad 35))]) [0, 1, 2, 3] rfl ?_
  refine z_iload_n C dL_rank_0 1 rfl ?_
  refine z_iconst (v := nI 4) C (by decide) dL_rank_1 ?_
  refine z_callSi pX_ok C hml hown hts hK hX (c_L_below l D ad cI cL cR cc9 36 Ln b sc hI (by decide) (x) 4 (by decide) (by decide) ((u, A0))) (va_cwS 2 hts gL_rank_L_below rfl rfl rfl (by decide +kernel) ⟨Nat.le_of_ble_eq_true rfl, Nat.le_of_ble_eq_true rfl⟩) rfl (st := []) rfl (Nat.le_of_ble_eq_true rfl) dL_rank_2 ⟨by show 0 + 0 ≤ 3; omega, by show 0 + 0 ≤ 18; omega⟩ (fun r2 z2 h2 => ?_)
  obtain ⟨e2, f2⟩ := h2
  subst e2
  subst f2
  refine z_istore (L' := [(4, .int (nI (bl (x) 4))), (0, .ref (ad 33)), (1, .int (x)), (2, .int (nI mm)), (3, .ref (ad 35))]) C dL_rank_5 (by decide) rfl ?_
  refine z_iconst (v := nI 0) C (by decide) dL_rank_7 ?_
  refine z_istore (L' := [(5, .int (nI 0)), (4, .int (nI (bl (x) 4))), (0, .ref (ad 33)), (1, .int (x)), (2, .int (nI mm)), (3, .ref (ad 35))]) C dL_rank_8 (by decide) rfl ?_
  have loop10 : ∀ (d10 : Nat) (k : Nat) (B : Nat → Nat → Nat) (w A : xS), bl (x) 4 - k < d10 → (k ≤ bl (x) 4) → (xI w mm B 0) → (∀ j, j < 8 → A.1 35 j = nI (B j 5)) → ZZ pq l lq { frames := 8, cells := 3, slots := 18, locals := 137 } sq mq aq bq hmq cq D vwCl 36 ad 13 k (6 * k) Qq (PF ad cI cL cR cc9 (w, A)) [(0, .ref (ad 33)), (1, .int (x)), (2, .int (nI mm)), (3, .ref (ad 35)), (4, .int (nI (bl (x) 4))), (5, .int (nI k))] 10 [] := by
    intro d10
    induction d10 with
    | zero => intro k B w A hz; exact absurd hz (Nat.not_lt_zero _)
    | succ d10 ih10 =>
      intro k B w A hz10 hk hIv hAB
      have h4 := bl_lt x (m := 4) (by decide)
      refine z_iload C dL_rank_10 5 rfl ?_
      refine z_iload C dL_rank_12 4 rfl ?_
      refine z_icmp_ge (tgt := 203) C dL_rank_14 (by decide) (fun zc14 => ?_) (fun zc14 => ?_)
      · skip
        have zn14 := zge_t (a := k) (b := bl (x) 4) (by omega) (by omega) zc14
        refine z_iconst (v := nI 1) C (by decide) dL_rank_203 ?_
        refine z_widen (k := 3) (q := 18) (by omega) (by omega) ?_
        exact z_zret C hr hlocks rfl hQ ((w, A)) (⟨rfl, B, hIv, hAB⟩) (fun _ _ => rfl) dL_rank_204
      · skip
        have zn14 := zge_f (a := k) (b := bl (x) 4) (by omega) (by omega) zc14
        refine z_iload_n C dL_rank_17 1 rfl ?_
        refine z_iconst (v := nI 2) C (by decide) dL_rank_18 ?_
        refine z_bipush (v := nI 6) C (by decide) dL_rank_19 ?_
        refine z_iload C dL_rank_21 5 rfl ?_
        refine z_imul C dL_rank_23 ?_
        refine z_topi (y := nI (6 * k)) (pk_mul 6 k) ?_
        refine z_iadd C dL_rank_24 ?_
        refine z_topi (y := nI (2 + (6 * k))) (nI_add 2 (6 * k)) ?_
        refine z_ishr C dL_rank_25 ?_
        refine z_iload_n C dL_rank_26 2 rfl ?_
        refine z_callSi pX_ok C hml hown hts hK hX (c_L_below l D ad cI cL cR cc9 36 Ln b sc hI (by decide) ((x) >>> ((nI (2 + (6 * k)) : Int32) &&& 31)) mm (by omega) (by omega) ((w, A))) (va_cwS 2 hts gL_rank_L_below rfl rfl rfl (by decide +kernel) ⟨Nat.le_of_ble_eq_true rfl, Nat.le_of_ble_eq_true rfl⟩) rfl (st := []) rfl (Nat.le_of_ble_eq_true rfl) dL_rank_27 ⟨by show k + 0 ≤ 3; omega, by show (6 * k) + 0 ≤ 18; omega⟩ (fun r27 z27 h27 => ?_)
        obtain ⟨e27, f27⟩ := h27
        subst e27
        subst f27
        refine z_istore (L' := [(6, .int (nI (bl ((x) >>> ((nI (2 + (6 * k)) : Int32) &&& 31)) mm))), (0, .ref (ad 33)), (1, .int (x)), (2, .int (nI mm)), (3, .ref (ad 35)), (4, .int (nI (bl (x) 4))), (5, .int (nI k))]) C dL_rank_30 (by decide) rfl ?_
        refine z_iload_n C dL_rank_32 2 rfl ?_
        refine z_iconst (v := nI 5) C (by decide) dL_rank_33 ?_
        refine z_bipush (v := nI 6) C (by decide) dL_rank_34 ?_
        refine z_iload C dL_rank_36 6 rfl ?_
        refine z_imul C dL_rank_38 ?_
        refine z_topi (y := nI (6 * k)) (pk_mul 6 k) ?_
        refine z_iadd C dL_rank_39 ?_
        refine z_topi (y := nI (5 + (6 * k))) (nI_add 5 (6 * k)) ?_
        refine z_ishr C dL_rank_40 ?_
        refine z_iload_n C dL_rank_41 3 rfl ?_
        have join47 : ∀ (H Lw : Nat), (H < mm) → (Lw < mm) → ZZ pq l lq { frames := 8, cells := 3, slots := 18, locals := 137 } sq mq aq bq hmq cq D vwCl 36 ad 13 (k + 0) ((6 * k) + 0) Qq (PF ad cI cL cR cc9 (w, A)) [(0, .ref (ad 33)), (1, .int (x)), (2, .int (nI mm)), (3, .ref (ad 35)), (4, .int (nI (bl (x) 4))), (5, .int (nI k)), (6, .int (nI H)), (7, .int (nI Lw))] 47 [] := by
          intro H Lw hH hL
          refine z_iload C dL_rank_47 6 rfl ?_
          refine z_iload C dL_rank_49 7 rfl ?_
          have join72 : ∀ (wr : Nat), ((wr = 1 ∧ (H = Lw ∨ (B Lw 5).testBit H = true)) ∨ (wr = 0 ∧ ¬ H = Lw ∧ (B Lw 5).testBit H = false)) → ZZ pq l lq { frames := 8, cells := 3, slots := 18, locals := 137 } sq mq aq bq hmq cq D vwCl 36 ad 13 (k + 0) ((6 * k) + 0) Qq (PF ad cI cL cR cc9 (w, A)) [(0, .ref (ad 33)), (1, .int (x)), (2, .int (nI mm)), (3, .ref (ad 35)), (4, .int (nI (bl (x) 4))), (5, .int (nI k)), (6, .int (nI H)), (7, .int (nI Lw))] 72 [.int (nI wr)] := by
            intro wr hw
            refine z_istore (L' := [(8, .int (nI wr)), (0, .ref (ad 33)), (1, .int (x)), (2, .int (nI mm)), (3, .ref (ad 35)), (4, .int (nI (bl (x) 4))), (5, .int (nI k)), (6, .int (nI H)), (7, .int (nI Lw))]) C dL_rank_72 (by decide) rfl ?_
            refine z_aload_n C dL_rank_74 4 rfl ?_
            refine z_iload C dL_rank_75 7 rfl ?_
            refine z_iald (q := 35) (len := 8) (k := H) C hK (by decide) rfl 0 rfl (rfl) (by omega) (by decide) dL_rank_77 ?_
            refine z_topi (y := A.1 35 H) rfl ?_
            refine z_topi (y := nI (B H 5)) (hAB _ (by omega)) ?_
            refine z_iload C dL_rank_78 8 rfl ?_
            refine z_ishr C dL_rank_80 ?_
            refine z_iconst (v := nI 1) C (by decide) dL_rank_81 ?_
            refine z_iand C dL_rank_82 ?_
            have hb83 := b1_le (B H 5) Lw
            have join91 : ∀ (nw : Nat), (nw = if (B H 5).testBit Lw = true then 0 else 1) → ZZ pq l lq { frames := 8, cells := 3, slots := 18, locals := 137 } sq mq aq bq hmq cq D vwCl 36 ad 13 (k + 0) ((6 * k) + 0) Qq (PF ad cI cL cR cc9 (w, A)) [(0, .ref (ad 33)), (1, .int (x)), (2, .int (nI mm)), (3, .ref (ad 35)), (4, .int (nI (bl (x) 4))), (5, .int (nI k)), (6, .int (nI H)), (7, .int (nI Lw)), (8, .int (nI wr))] 91 [.int (nI nw)] := by
              intro nw hnw
              refine z_istore (L' := [(9, .int (nI nw)), (0, .ref (ad 33)), (1, .int (x)), (2, .int (nI mm)), (3, .ref (ad 35)), (4, .int (nI (bl (x) 4))), (5, .int (nI k)), (6, .int (nI H)), (7, .int (nI Lw)), (8, .int (nI wr))]) C dL_rank_91 (by decide) rfl ?_
              refine z_iconst (v := nI 0) C (by decide) dL_rank_93 ?_
              refine z_istore (L' := [(10, .int (nI 0)), (9, .int (nI nw)), (0, .ref (ad 33)), (1, .int (x)), (2, .int (nI mm)), (3, .ref (ad 35)), (4, .int (nI (bl (x) 4))), (5, .int (nI k)), (6, .int (nI H)), (7, .int (nI Lw)), (8, .int (nI wr))]) C dL_rank_94 (by decide) rfl ?_
              refine z_iconst (v := nI 0) C (by decide) dL_rank_96 ?_
              refine z_istore (L' := [(11, .int (nI 0)), (10, .int (nI 0)), (9, .int (nI nw)), (0, .ref (ad 33)), (1, .int (x)), (2, .int (nI mm)), (3, .ref (ad 35)), (4, .int (nI (bl (x) 4))), (5, .int (nI k)), (6, .int (nI H)), (7, .int (nI Lw)), (8, .int (nI wr))]) C dL_rank_97 (by decide) rfl ?_
              refine z_aload_n C dL_rank_99 3 rfl ?_
              refine z_iload C dL_rank_100 9 rfl ?_
              refine z_iload C dL_rank_102 10 rfl ?_
              rcases hw with ⟨hwr, hHb⟩ | ⟨hwr, hne, hno⟩
              · skip
                refine z_catchV (q := 33) pX_ok C hml hown hts hK hX (fun sz => z_liftX (σ := id) (F := fun u9 => PF ad cI cL cR cc9 (u9, A)) (F1 := xF ad cI cL cR) (f1 := xF ad cI cL cR w) (pL (by decide) hI) (fun _ h => h) (pX_x (by decide)) (fun k hk => PF_x k hk) (fun _ k hk => PF_x k hk) PF_x2 (rank_bad l hst0 D ad cI cL cR (gI_n (by decide) hI) w mm B hIv.1 H hH Lw hL hHb sz)) (cwV 2 hts gL_rank_X6_rank rfl rfl rfl (by decide +kernel) ⟨Nat.le_of_ble_eq_true rfl, Nat.le_of_ble_eq_true rfl⟩) (by decide) (ci := 6) rfl rfl rfl (st := []) rfl (Nat.le_of_ble_eq_true rfl) dL_rank_104 ⟨by show (k + 0) + 1 ≤ 3; omega, by show ((6 * k) + 0) + 6 ≤ 18; omega⟩ [] ⟨99, 109, 112, 41⟩ [] (htab.trans rfl) (fun z hz => absurd hz List.not_mem_nil) (by decide) (by decide) (name := eIA) (hts (.classLink RL 41 eIA) (by decide +kernel)) hcst (fun q9 u9 h9 => ?_)
                have h9 : u9 = w := h9
                rw [h9]
                refine z_astore (L' := [(12, .ref (q9)), (11, .int (nI 0)), (10, .int (nI 0)), (9, .int (nI nw)), (0, .ref (ad 33)), (1, .int (x)), (2, .int (nI mm)), (3, .ref (ad 35)), (4, .int (nI (bl (x) 4))), (5, .int (nI k)), (6, .int (nI H)), (7, .int (nI Lw)), (8, .int (nI wr))]) C dL_rank_112 (by decide) rfl ?_
                refine z_iconst (v := nI 1) C (by decide) dL_rank_114 ?_
                refine z_istore (L' := [(11, .int (nI 1)), (12, .ref (q9)), (10, .int (nI 0)), (9, .int (nI nw)), (0, .ref (ad 33)), (1, .int (x)), (2, .int (nI mm)), (3, .ref (ad 35)), (4, .int (nI (bl (x) 4))), (5, .int (nI k)), (6, .int (nI H)), (7, .int (nI Lw)), (8, .int (nI wr))]) C dL_rank_115 (by decide) rfl ?_
                refine z_iload C dL_rank_117 0 rfl ?_
                refine z_iload C dL_rank_119 12 rfl ?_
                refine z_icmp_ne (tgt := 136) C dL_rank_121 (by decide) (fun zc121 => ?_) (fun zc121 => ?_)
                · skip
                  have zn121 := zeq_f (a := 1) (b := wr) zc121
                  exact False.elim (zn121 hwr.symm)
                · skip
                  have zn121 := zeq_t (a := 1) (b := wr) (by omega) (by omega) zc121
                  refine z_iload C dL_rank_124 12 rfl ?_
                  refine z_if_ne (tgt := 138) C dL_rank_126 (by decide) (fun zc126 => ?_) (fun zc126 => ?_)
                  · skip
                    have zn126 := z0_f zc126
                    refine z_iload C dL_rank_138 12 rfl ?_
                    refine z_if_eq (tgt := 146) C dL_rank_140 (by decide) (fun zc140 => ?_) (fun zc140 => ?_)
                    · skip
                      have zn140 := z0_t (by omega) zc140
                      exact False.elim (by omega)
                    · skip
                      have zn140 := z0_f zc140
                      refine z_goto (tgt := 197) C dL_rank_143 (by decide) ?_
                      refine z_iinc (L' := [(5, .int (nI (k + 1))), (11, .int (nI 1)), (12, .ref (q9)), (10, .int (nI 0)), (9, .int (nI nw)), (0, .ref (ad 33)), (1, .int (x)), (2, .int (nI mm)), (3, .ref (ad 35)), (4, .int (nI (bl (x) 4))), (6, .int (nI H)), (7, .int (nI Lw)), (8, .int (nI wr))]) C dL_rank_197 9 rfl (nI_1 k) (by decide) rfl ?_
                      refine z_goto (tgt := 10) C dL_rank_200 (by decide) ?_
                      refine z_widen (k := k + 1) (q := 6 * (k + 1)) (by omega) (by omega) ?_
                      refine z_sub (L' := [(0, .ref (ad 33)), (1, .int (x)), (2, .int (nI mm)), (3, .ref (ad 35)), (4, .int (nI (bl (x) 4))), (5, .int (nI (k + 1)))]) [5, 6, 7, 8, 9, 0] rfl ?_
                      exact ih10 (k + 1) B w A (by omega) (by omega) hIv hAB
                  · skip
                    have zn126 := z0_t (by omega) zc126
                    exact False.elim (by omega)
              · skip
                refine z_callVi (q := 33) pX_ok C hml hown hts hK hX (fun sz => z_liftI (σ := id) (F := fun u9 => PF ad cI cL cR cc9 (u9, A)) (F1 := xF ad cI cL cR) (f1 := xF ad cI cL cR w) (pL (by decide) hI) (fun _ h => h) (pX_x (by decide)) (fun k hk => PF_x k hk) (fun _ k hk => PF_x k hk) PF_x2 (fun _ _ h => h) (c_X6_rank l D ad cI cL cR (gI_n (by decide) hI) w mm B hIv.1 H hH Lw hL hne hno sz)) (cwV 2 hts gL_rank_X6_rank rfl rfl rfl (by decide +kernel) ⟨Nat.le_of_ble_eq_true rfl, Nat.le_of_ble_eq_true rfl⟩) (by decide) (ci := 6) rfl rfl rfl (st := []) rfl (Nat.le_of_ble_eq_true rfl) dL_rank_104 ⟨by show (k + 0) + 0 ≤ 3; omega, by show ((6 * k) + 0) + 0 ≤ 18; omega⟩ (fun r104 u104 h104 => ?_)
                obtain ⟨e104, f104⟩ := h104
                subst e104
                have hI2 : xI u104 mm (rkB B (abv B H ||| 2 ^ H) (B Lw 5 ||| 2 ^ Lw)) 0 := by rw [f104]; exact xI_rk hIv hH hL hne hno
                clear f104
                refine z_topi (y := nI nw) (by rw [hnw]; split <;> rfl) ?_
                refine z_istore (L' := [(10, .int (nI nw)), (11, .int (nI 0)), (9, .int (nI nw)), (0, .ref (ad 33)), (1, .int (x)), (2, .int (nI mm)), (3, .ref (ad 35)), (4, .int (nI (bl (x) 4))), (5, .int (nI k)), (6, .int (nI H)), (7, .int (nI Lw)), (8, .int (nI wr))]) C dL_rank_107 (by decide) rfl ?_
                refine z_goto (tgt := 117) C dL_rank_109 (by decide) ?_
                refine z_iload C dL_rank_117 1 rfl ?_
                refine z_iload C dL_rank_119 11 rfl ?_
                refine z_icmp_ne (tgt := 136) C dL_rank_121 (by decide) (fun zc121 => ?_) (fun zc121 => ?_)
                · skip
                  have zn121 := zeq_f (a := 0) (b := wr) zc121
                  exact False.elim (zn121 hwr.symm)
                · skip
                  have zn121 := zeq_t (a := 0) (b := wr) (by omega) (by omega) zc121
                  refine z_iload C dL_rank_124 11 rfl ?_
                  refine z_if_ne (tgt := 138) C dL_rank_126 (by decide) (fun zc126 => ?_) (fun zc126 => ?_)
                  · skip
                    have zn126 := z0_f zc126
                    exact False.elim (zn126 hwr)
                  · skip
                    have zn126 := z0_t (by omega) zc126
                    refine z_iload C dL_rank_129 0 rfl ?_
                    refine z_iload C dL_rank_131 2 rfl ?_
                    have hnw2 : nw ≤ 1 := by rw [hnw]; split <;> omega
                    refine z_icmp_eq (tgt := 138) C dL_rank_133 (by decide) (fun zc133 => ?_) (fun zc133 => ?_)
                    · skip
                      have zn133 := zeq_t (a := nw) (b := nw) (by omega) (by omega) zc133
                      refine z_iload C dL_rank_138 11 rfl ?_
                      refine z_if_eq (tgt := 146) C dL_rank_140 (by decide) (fun zc140 => ?_) (fun zc140 => ?_)
                      · skip
                        have zn140 := z0_t (by omega) zc140
                        refine z_iconst (v := nI 0) C (by decide) dL_rank_146 ?_
                        refine z_istore (L' := [(12, .int (nI 0)), (10, .int (nI nw)), (11, .int (nI 0)), (9, .int (nI nw)), (0, .ref (ad 33)), (1, .int (x)), (2, .int (nI mm)), (3, .ref (ad 35)), (4, .int (nI (bl (x) 4))), (5, .int (nI k)), (6, .int (nI H)), (7, .int (nI Lw)), (8, .int (nI wr))]) C dL_rank_147 (by decide) rfl ?_
                        have loop149 : ∀ (d149 : Nat) (r : Nat) (A4 : xS), mm - r < d149 → (r ≤ mm) → (rkH B (rkB B (abv B H ||| 2 ^ H) (B Lw 5 ||| 2 ^ Lw)) r A4) → ZZ pq l lq { frames := 8, cells := 3, slots := 18, locals := 137 } sq mq aq bq hmq cq D vwCl 36 ad 13 ((k + 0) + 0) (((6 * k) + 0) + 0) Qq (PF ad cI cL cR cc9 (u104, A4)) [(0, .ref (ad 33)), (1, .int (x)), (2, .int (nI mm)), (3, .ref (ad 35)), (4, .int (nI (bl (x) 4))), (5, .int (nI k)), (6, .int (nI H)), (7, .int (nI Lw)), (8, .int (nI wr)), (9, .int (nI nw)), (12, .int (nI r))] 149 [] := by
                          intro d149
                          induction d149 with
                          | zero => intro r A4 hz; exact absurd hz (Nat.not_lt_zero _)
                          | succ d149 ih149 =>
                            intro r A4 hz149 hr9 hA4
                            refine z_iload C dL_rank_149 10 rfl ?_
                            refine z_iload_n C dL_rank_151 2 rfl ?_
                            refine z_icmp_ge (tgt := 197) C dL_rank_152 (by decide) (fun zc152 => ?_) (fun zc152 => ?_)
                            · skip
                              have zn152 := zge_t (a := r) (b := mm) (by omega) (by omega) zc152
                              refine z_iinc (L' := [(5, .int (nI (k + 1))), (0, .ref (ad 33)), (1, .int (x)), (2, .int (nI mm)), (3, .ref (ad 35)), (4, .int (nI (bl (x) 4))), (6, .int (nI H)), (7, .int (nI Lw)), (8, .int (nI wr)), (9, .int (nI nw)), (12, .int (nI r))]) C dL_rank_197 5 rfl (nI_1 k) (by decide) rfl ?_
                              refine z_goto (tgt := 10) C dL_rank_200 (by decide) ?_
                              refine z_widen (k := k + 1) (q := 6 * (k + 1)) (by omega) (by omega) ?_
                              refine z_sub (L' := [(0, .ref (ad 33)), (1, .int (x)), (2, .int (nI mm)), (3, .ref (ad 35)), (4, .int (nI (bl (x) 4))), (5, .int (nI (k + 1)))]) [1, 2, 3, 4, 5, 0] rfl ?_
                              exact ih10 (k + 1) (rkB B (abv B H ||| 2 ^ H) (B Lw 5 ||| 2 ^ Lw)) u104 A4 (by omega) (by omega) hI2 (rkH_end hIv.1.1 hH zn152 hA4)
                            · skip
                              have zn152 := zge_f (a := r) (b := mm) (by omega) (by omega) zc152
                              refine z_iload C dL_rank_155 10 rfl ?_
                              refine z_iload C dL_rank_157 6 rfl ?_
                              have join175 : ∀ (dm : Nat), (r = H ∨ (B r 5).testBit H = true) → ZZ pq l lq { frames := 8, cells := 3, slots := 18, locals := 137 } sq mq aq bq hmq cq D vwCl 36 ad 13 ((k + 0) + 0) (((6 * k) + 0) + 0) Qq (PF ad cI cL cR cc9 (u104, A4)) [(0, .ref (ad 33)), (1, .int (x)), (2, .int (nI mm)), (3, .ref (ad 35)), (4, .int (nI (bl (x) 4))), (5, .int (nI k)), (6, .int (nI H)), (7, .int (nI Lw)), (8, .int (nI wr)), (9, .int (nI nw)), (12, .int (nI r))] 175 [] := by
                                intro dm hup
                                refine z_aload_n C dL_rank_175 3 rfl ?_
                                refine z_iload C dL_rank_176 10 rfl ?_
                                refine z_dup2 C rfl rfl dL_rank_178 ?_
                                refine z_iald (q := 35) (len := 8) (k := r) C hK (by decide) rfl 0 rfl (rfl) (by omega) (by decide) dL_rank_179 ?_
                                refine z_topi (y := A4.1 35 r) rfl ?_
                                refine z_topi (y := nI (B r 5)) (rkH_at hA4 (by omega) (Nat.le_refl r)) ?_
                                refine z_aload_n C dL_rank_180 3 rfl ?_
                                refine z_iload C dL_rank_181 7 rfl ?_
                                refine z_iald (q := 35) (len := 8) (k := Lw) C hK (by decide) rfl 0 rfl (rfl) (by omega) (by decide) dL_rank_183 ?_
                                refine z_topi (y := A4.1 35 Lw) rfl ?_
                                refine z_topi (y := nI (B Lw 5)) (rkH_lo hA4 (by omega) (rkA_n (by omega) (fun z => hne z.symm) hno)) ?_
                                refine z_iconst (v := nI 1) C (by decide) dL_rank_184 ?_
                                refine z_iload C dL_rank_185 7 rfl ?_
                                refine z_ishl C dL_rank_187 ?_
                                refine z_topi (y := nI (2 ^ Lw)) (zi_shl1 (by omega)) ?_
                                refine z_ior C dL_rank_188 ?_
                                refine z_topi (y := nI ((B Lw 5) ||| (2 ^ Lw))) (fa_or (B Lw 5) (2 ^ Lw)) ?_
                                refine z_ior C dL_rank_189 ?_
                                refine z_topi (y := nI ((B r 5) ||| ((B Lw 5) ||| (2 ^ Lw)))) (fa_or (B r 5) ((B Lw 5) ||| (2 ^ Lw))) ?_
                                refine z_iast (q := 35) (len := 8) (k := r) C hI hK (by decide) rfl 0 rfl (rfl) (by omega) (by decide) (f' := PF ad cI cL cR cc9 (u104, (xs A4 35 r (nI ((B r 5) ||| ((B Lw 5) ||| (2 ^ Lw))))))) rfl (PF_ne (by decide)) dL_rank_190 ?_
                                refine z_iinc (L' := [(12, .int (nI (r + 1))), (0, .ref (ad 33)), (1, .int (x)), (2, .int (nI mm)), (3, .ref (ad 35)), (4, .int (nI (bl (x) 4))), (5, .int (nI k)), (6, .int (nI H)), (7, .int (nI Lw)), (8, .int (nI wr)), (9, .int (nI nw))]) C dL_rank_191 10 rfl (nI_1 r) (by decide) rfl ?_
                                refine z_goto (tgt := 149) C dL_rank_194 (by decide) ?_
                                refine z_sub (L' := [(0, .ref (ad 33)), (1, .int (x)), (2, .int (nI mm)), (3, .ref (ad 35)), (4, .int (nI (bl (x) 4))), (5, .int (nI k)), (6, .int (nI H)), (7, .int (nI Lw)), (8, .int (nI wr)), (9, .int (nI nw)), (12, .int (nI (r + 1)))]) [1, 2, 3, 4, 5, 6, 7, 8, 9, 10, 0] rfl ?_
                                exact ih149 (r + 1) (xs A4 35 r (nI ((B r 5) ||| ((B Lw 5) ||| (2 ^ Lw))))) (by omega) (by omega) (rkH_y hA4 (rkA_y (by omega) hup))
                              refine z_icmp_eq (tgt := 175) C dL_rank_159 (by decide) (fun zc159 => ?_) (fun zc159 => ?_)
                              · skip
                                have zn159 := zeq_t (a := r) (b := H) (by omega) (by omega) zc159
                                refine z_sub (L' := [(0, .ref (ad 33)), (1, .int (x)), (2, .int (nI mm)), (3, .ref (ad 35)), (4, .int (nI (bl (x) 4))), (5, .int (nI k)), (6, .int (nI H)), (7, .int (nI Lw)), (8, .int (nI wr)), (9, .int (nI nw)), (12, .int (nI r))]) [0, 1, 2, 3, 4, 5, 6, 7, 8, 9, 10] rfl ?_
                                exact join175 0 (Or.inl zn159)
                              · skip
                                have zn159 := zeq_f (a := r) (b := H) zc159
                                refine z_aload_n C dL_rank_162 3 rfl ?_
                                refine z_iload C dL_rank_163 10 rfl ?_
                                refine z_iald (q := 35) (len := 8) (k := r) C hK (by decide) rfl 0 rfl (rfl) (by omega) (by decide) dL_rank_165 ?_
                                refine z_topi (y := A4.1 35 r) rfl ?_
                                refine z_topi (y := nI (B r 5)) (rkH_at hA4 (by omega) (Nat.le_refl r)) ?_
                                refine z_iload C dL_rank_166 6 rfl ?_
                                refine z_ishr C dL_rank_168 ?_
                                refine z_iconst (v := nI 1) C (by decide) dL_rank_169 ?_
                                refine z_iand C dL_rank_170 ?_
                                have hb171 := b1_le (B r 5) H
                                refine z_topi (y := nI (b1 (B r 5) H)) (b1_i (Nat.lt_of_lt_of_le (gB_5 hIv.1.1 (i := r) (by omega)) (by decide)) (by omega)) ?_
                                refine z_iconst (v := nI 1) C (by decide) dL_rank_171 ?_
                                refine z_icmp_ne (tgt := 191) C dL_rank_172 (by decide) (fun zc172 => ?_) (fun zc172 => ?_)
                                · skip
                                  have zn172 := zeq_f (a := b1 (B r 5) H) (b := 1) zc172
                                  refine z_iinc (L' := [(12, .int (nI (r + 1))), (0, .ref (ad 33)), (1, .int (x)), (2, .int (nI mm)), (3, .ref (ad 35)), (4, .int (nI (bl (x) 4))), (5, .int (nI k)), (6, .int (nI H)), (7, .int (nI Lw)), (8, .int (nI wr)), (9, .int (nI nw))]) C dL_rank_191 10 rfl (nI_1 r) (by decide) rfl ?_
                                  refine z_goto (tgt := 149) C dL_rank_194 (by decide) ?_
                                  refine z_sub (L' := [(0, .ref (ad 33)), (1, .int (x)), (2, .int (nI mm)), (3, .ref (ad 35)), (4, .int (nI (bl (x) 4))), (5, .int (nI k)), (6, .int (nI H)), (7, .int (nI Lw)), (8, .int (nI wr)), (9, .int (nI nw)), (12, .int (nI (r + 1)))]) [1, 2, 3, 4, 5, 6, 7, 8, 9, 10, 0] rfl ?_
                                  exact ih149 (r + 1) A4 (by omega) (by omega) (rkH_n hA4 (rkA_n (by omega) zn159 (b1_n zn172)))
                                · skip
                                  have zn172 := zeq_t (a := b1 (B r 5) H) (b := 1) (by omega) (by omega) zc172
                                  refine z_sub (L' := [(0, .ref (ad 33)), (1, .int (x)), (2, .int (nI mm)), (3, .ref (ad 35)), (4, .int (nI (bl (x) 4))), (5, .int (nI k)), (6, .int (nI H)), (7, .int (nI Lw)), (8, .int (nI wr)), (9, .int (nI nw)), (12, .int (nI r))]) [0, 1, 2, 3, 4, 5, 6, 7, 8, 9, 10] rfl ?_
                                  exact join175 0 (Or.inr (b1_y zn172))
                        refine z_sub (L' := [(0, .ref (ad 33)), (1, .int (x)), (2, .int (nI mm)), (3, .ref (ad 35)), (4, .int (nI (bl (x) 4))), (5, .int (nI k)), (6, .int (nI H)), (7, .int (nI Lw)), (8, .int (nI wr)), (9, .int (nI nw)), (12, .int (nI 0))]) [4, 5, 6, 7, 8, 9, 10, 11, 12, 3, 0] rfl ?_
                        exact loop149 (mm + 1) 0 A (by omega) (Nat.zero_le _) (rkH_0 hAB)
                      · skip
                        have zn140 := z0_f zc140
                        exact False.elim (zn140 hwr)
                    · skip
                      have zn133 := zeq_f (a := nw) (b := nw) zc133
                      exact False.elim (zn133 rfl)
            refine z_topi (y := nI (b1 (B H 5) Lw)) (b1_i (Nat.lt_of_lt_of_le (gB_5 hIv.1.1 (i := H) (by omega)) (by decide)) (by omega)) ?_
            refine z_if_ne (tgt := 90) C dL_rank_83 (by decide) (fun zc83 => ?_) (fun zc83 => ?_)
            · skip
              have zn83 := z0_f zc83
              refine z_iconst (v := nI 0) C (by decide) dL_rank_90 ?_
              refine z_sub (L' := [(0, .ref (ad 33)), (1, .int (x)), (2, .int (nI mm)), (3, .ref (ad 35)), (4, .int (nI (bl (x) 4))), (5, .int (nI k)), (6, .int (nI H)), (7, .int (nI Lw)), (8, .int (nI wr))]) [1, 2, 3, 4, 5, 6, 7, 8, 0] rfl ?_
              exact join91 0 (by rw [if_pos (b1_1 zn83)])
            · skip
              have zn83 := z0_t (by omega) zc83
              refine z_iconst (v := nI 1) C (by decide) dL_rank_86 ?_
              refine z_goto (tgt := 91) C dL_rank_87 (by decide) ?_
              refine z_sub (L' := [(0, .ref (ad 33)), (1, .int (x)), (2, .int (nI mm)), (3, .ref (ad 35)), (4, .int (nI (bl (x) 4))), (5, .int (nI k)), (6, .int (nI H)), (7, .int (nI Lw)), (8, .int (nI wr))]) [1, 2, 3, 4, 5, 6, 7, 8, 0] rfl ?_
              exact join91 1 (by rw [b1_0 zn83]; rfl)
          refine z_icmp_eq (tgt := 67) C dL_rank_51 (by decide) (fun zc51 => ?_) (fun zc51 => ?_)
          · skip
            have zn51 := zeq_t (a := H) (b := Lw) (by omega) (by omega) zc51
            refine z_iconst (v := nI 1) C (by decide) dL_rank_67 ?_
            refine z_goto (tgt := 72) C dL_rank_68 (by decide) ?_
            refine z_sub (L' := [(0, .ref (ad 33)), (1, .int (x)), (2, .int (nI mm)), (3, .ref (ad 35)), (4, .int (nI (bl (x) 4))), (5, .int (nI k)), (6, .int (nI H)), (7, .int (nI Lw))]) [0, 1, 2, 3, 4, 5, 6, 7] rfl ?_
            exact join72 1 (Or.inl ⟨rfl, Or.inl zn51⟩)
          · skip
            have zn51 := zeq_f (a := H) (b := Lw) zc51
            refine z_aload_n C dL_rank_54 3 rfl ?_
            refine z_iload C dL_rank_55 7 rfl ?_
            refine z_iald (q := 35) (len := 8) (k := Lw) C hK (by decide) rfl 0 rfl (rfl) (by omega) (by decide) dL_rank_57 ?_
            refine z_topi (y := A.1 35 Lw) rfl ?_
            refine z_topi (y := nI (B Lw 5)) (hAB _ (by omega)) ?_
            refine z_iload C dL_rank_58 6 rfl ?_
            refine z_ishr C dL_rank_60 ?_
            refine z_iconst (v := nI 1) C (by decide) dL_rank_61 ?_
            refine z_iand C dL_rank_62 ?_
            have hb63 := b1_le (B Lw 5) H
            refine z_topi (y := nI (b1 (B Lw 5) H)) (b1_i (Nat.lt_of_lt_of_le (gB_5 hIv.1.1 (i := Lw) (by omega)) (by decide)) (by omega)) ?_
            refine z_iconst (v := nI 1) C (by decide) dL_rank_63 ?_
            refine z_icmp_ne (tgt := 71) C dL_rank_64 (by decide) (fun zc64 => ?_) (fun zc64 => ?_)
            · skip
              have zn64 := zeq_f (a := b1 (B Lw 5) H) (b := 1) zc64
              refine z_iconst (v := nI 0) C (by decide) dL_rank_71 ?_
              refine z_sub (L' := [(0, .ref (ad 33)), (1, .int (x)), (2, .int (nI mm)), (3, .ref (ad 35)), (4, .int (nI (bl (x) 4))), (5, .int (nI k)), (6, .int (nI H)), (7, .int (nI Lw))]) [0, 1, 2, 3, 4, 5, 6, 7] rfl ?_
              exact join72 0 (Or.inr ⟨rfl, zn51, b1_n zn64⟩)
            · skip
              have zn64 := zeq_t (a := b1 (B Lw 5) H) (b := 1) (by omega) (by omega) zc64
              refine z_iconst (v := nI 1) C (by decide) dL_rank_67 ?_
              refine z_goto (tgt := 72) C dL_rank_68 (by decide) ?_
              refine z_sub (L' := [(0, .ref (ad 33)), (1, .int (x)), (2, .int (nI mm)), (3, .ref (ad 35)), (4, .int (nI (bl (x) 4))), (5, .int (nI k)), (6, .int (nI H)), (7, .int (nI Lw))]) [0, 1, 2, 3, 4, 5, 6, 7] rfl ?_
              exact join72 1 (Or.inl ⟨rfl, Or.inr (b1_y zn64)⟩)
        refine z_callSi pX_ok C hml hown hts hK hX (c_L_below l D ad cI cL cR cc9 36 Ln b sc hI (by decide) ((x) >>> ((nI (5 + (6 * k)) : Int32) &&& 31)) mm (by omega) (by omega) ((w, A))) (va_cwS 2 hts gL_rank_L_below rfl rfl rfl (by decide +kernel) ⟨Nat.le_of_ble_eq_true rfl, Nat.le_of_ble_eq_true rfl⟩) rfl (st := []) rfl (Nat.le_of_ble_eq_true rfl) dL_rank_42 ⟨by show (k + 0) + 0 ≤ 3; omega, by show ((6 * k) + 0) + 0 ≤ 18; omega⟩ (fun r42 z42 h42 => ?_)
        obtain ⟨e42, f42⟩ := h42
        subst e42
        subst f42
        refine z_istore (L' := [(7, .int (nI (bl ((x) >>> ((nI (5 + (6 * k)) : Int32) &&& 31)) mm))), (6, .int (nI (bl ((x) >>> ((nI (2 + (6 * k)) : Int32) &&& 31)) mm))), (0, .ref (ad 33)), (1, .int (x)), (2, .int (nI mm)), (3, .ref (ad 35)), (4, .int (nI (bl (x) 4))), (5, .int (nI k))]) C dL_rank_45 (by decide) rfl ?_
        refine z_sub (L' := [(0, .ref (ad 33)), (1, .int (x)), (2, .int (nI mm)), (3, .ref (ad 35)), (4, .int (nI (bl (x) 4))), (5, .int (nI k)), (6, .int (nI (bl ((x) >>> ((nI (2 + (6 * k)) : Int32) &&& 31)) mm))), (7, .int (nI (bl ((x) >>> ((nI (5 + (6 * k)) : Int32) &&& 31)) mm)))]) [2, 3, 4, 5, 6, 7, 1, 0] rfl ?_
        exact join47 (bl ((x) >>> ((nI (2 + 6 * k) : Int32) &&& 31)) mm) (bl ((x) >>> ((nI (5 + 6 * k) : Int32) &&& 31)) mm) (bl_lt _ (by omega)) (bl_lt _ (by omega))
  refine z_sub (L' := [(0, .ref (ad 33)), (1, .int (x)), (2, .int (nI mm)), (3, .ref (ad 35)), (4, .int (nI (bl (x) 4))), (5, .int (nI 0))]) [2, 3, 4, 5, 1, 0] rfl ?_
  exact loop10 (bl (x) 4 + 1) 0 B0 u A0 (by omega) (Nat.zero_le _) hI0 hA0
