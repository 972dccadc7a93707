theorem first_eq {p : Nat → Bool} {n k : Nat} (hk : k < n) (h : p k = true) (hm : ∀ j, j < k → p j = false) : fa_first p n = k := by
  rcases Nat.lt_trichotomy (fa_first p n) k with z | z | z
  · exact absurd (fa_first_yes p n (Nat.lt_trans z hk)) (by rw [hm _ z]; decide)
  · exact z
  · exact absurd h (by rw [fa_first_no p n k z]; decide)
theorem first_no {p : Nat → Bool} {n : Nat} (hm : ∀ j, j < n → p j = false) : fa_first p n = n := by
  rcases Nat.lt_or_ge (fa_first p n) n with z | z
  · exact absurd (fa_first_yes p n z) (by rw [hm _ z]; decide)
  · exact Nat.le_antisymm (fa_first_le p n) z
/-- the ready rule with the smallest number, 8 if there is none; the situation after k plays of such rules -/
def frs (B : Nat → Nat → Nat) (t : Nat) : Nat := fa_first (fun k => rdy1 B k t) 8
def runX (B : Nat → Nat → Nat) (x : Nat) : Nat → Nat
  | 0 => x
  | k + 1 => ply B (frs B (runX B x k / 64)) (runX B x k)
theorem frs_eq {B : Nat → Nat → Nat} {t k : Nat} (hk : k < 8) (h : rdy1 B k t = true) (hm : ∀ j, j < k → rdy1 B j t = false) : frs B t = k := first_eq hk h hm
theorem frs_no {B : Nat → Nat → Nat} {t : Nat} (hm : ∀ j, j < 8 → rdy1 B j t = false) : frs B t = 8 := first_no hm
theorem runX_lt {n : Nat} {B : Nat → Nat → Nat} (h : gB n B) {x : Nat} (hx : x < 16384) : ∀ k, (∀ j, j < k → frs B (runX B x j / 64) < 8) → runX B x k < 16384
  | 0, _ => hx
  | k + 1, hg => ply_lt h (hg k (Nat.lt_succ_self k)) (runX_lt h hx k (fun j hj => hg j (Nat.lt_succ_of_lt hj)))
def tFr (u w : xS) : Prop := (∀ q, q < 21 ∨ (21 < q ∧ q ≠ 33) → w.1 q = u.1 q) ∧ w.2 = u.2 ∧ w.1 21 8 = nI 0 ∧ ∀ j, j ≠ 8 → w.1 21 j = u.1 21 j
theorem tFr_0 (u : xS) : tFr u (xs u 21 8 (nI 0)) := ⟨fun q hq => xs_r (by omega), xs_2 _ _ _ _, xs_s _ _ _ _, fun j hj => xs_j hj⟩
theorem tFr_s {u w : xS} (h : tFr u w) (v : Int32) : tFr u (xs w 33 3 v) := ⟨fun q hq => (xs_r (by omega)).trans (h.1 q hq), (xs_2 _ _ _ _).trans h.2.1, (xs_c (by decide) _).trans h.2.2.1, fun j hj => (xs_c (by decide) _).trans (h.2.2.2 j hj)⟩

set_option maxHeartbeats 4000000 in
set_option maxRecDepth 100000 in
theorem c_X6_run (l : Launch) (D : va_G) (ad : Nat → Nat) (cI cL cR : ClassId) (hI : gI 34 ad) (u : xS) (n : Nat) (B : Nat → Nat → Nat) (hR : xR u n B) (x : Nat) (hx : x < 16384) (h3 : u.1 33 3 = nI x) (m : Nat) (hm : m ≤ 500) : ∀ sz, Met l yX6_run wsX6_run ({ frames := 6, cells := 0, slots := 0, locals := 90 }) (XP D ad cI cL cR u [.ref (ad 33), .int (nI m)] sz) (va_Qi (fun r_ u' => ∃ k, k ≤ m ∧ (∀ j, j < k → frs B (runX B x j / 64) < 8) ∧ (k = m ∨ frs B (runX B x k / 64) = 8) ∧ r_ = nI k ∧ u'.1 33 3 = nI (runX B x k) ∧ tFr u u') (XB D ad cI cL cR) (gA 34 ad sz)) 0 0 (gA 34 ad sz) := by
  intro sz
  refine z_met (cc := cX6_run) (maxL := 4) (ret := (some .int)) (by decide) rfl (Nat.le_of_ble_eq_true rfl) ?_
  intro pq lq sq mq aq Qq bq hmq cq C hr hml hown hts hlocks hK hX hsz hQ
  subst hsz
  have hT6 : ∀ w ∈ wsX60, w.before aq sq = true := fun w h => hts w ((by decide +kernel : ∀ w ∈ wsX60, w ∈ wsX6_run) w h)
  refine z_sub (L' := [(0, .ref (ad 33)), (1, .int (nI m))]) [0, 1] rfl ?_
  refine z_iload_n C dX6_run_0 1 rfl ?_
  refine z_if_lt (tgt := 11) C dX6_run_1 (by decide) (fun zc1 => ?_) (fun zc1 => ?_)
  · skip
    exact (zneg (by omega) zc1).elim
  · skip
    refine z_iload_n C dX6_run_4 1 rfl ?_
    refine z_sipush (v := nI 500) C (by decide) dX6_run_5 ?_
    refine z_icmp_le (tgt := 21) C dX6_run_8 (by decide) (fun zc8 => ?_) (fun zc8 => ?_)
    · skip
      have zn8 := zge_t (a := 500) (b := m) (by omega) (by omega) zc8
      refine z_aload_n C dX6_run_21 0 rfl ?_
      refine z_get (q := 33) C (T := TX6) (N := 4) (ci := 6) (own := RX6) (index := 28) (v := .ref (ad 21)) hT6 hown hK (by decide) rfl rfl 2 (by decide) (hts (.fieldLink RX6 28 "TriggerAnalyzer" "exploration" "LTriggerAnalyzer$Exploration;") (by decide +kernel)) (fun _ h9 => h9) rfl dX6_run_22 ?_
      refine z_callVv xX_ok C hml hown hts hK hX (c_X1_forget l D ad cI cL cR hI u) (cwV 0 hts gX6_run_X1_forget rfl rfl rfl (by decide +kernel) ⟨Nat.le_of_ble_eq_true rfl, Nat.le_of_ble_eq_true rfl⟩) (by decide) (ci := 1) rfl rfl rfl (st := []) rfl (Nat.le_of_ble_eq_true rfl) dX6_run_25 ⟨Nat.le_of_ble_eq_true rfl, Nat.le_of_ble_eq_true rfl⟩ (fun u25 h25 => ?_)
      subst u25
      refine z_iconst (v := nI 0) C (by decide) dX6_run_28 ?_
      refine z_istore_n (L' := [(2, .int (nI 0)), (0, .ref (ad 33)), (1, .int (nI m))]) C dX6_run_29 (by decide) rfl ?_
      have loop30 : ∀ (d30 : Nat) (k : Nat) (w : xS), m - k < d30 → (k ≤ m) → (∀ j, j < k → frs B (runX B x j / 64) < 8) → (w.1 33 3 = nI (runX B x k)) → (tFr u w) → ZZ pq l lq { frames := 6, cells := 0, slots := 0, locals := 90 } sq mq aq bq hmq cq D vwCl 34 ad 4 0 0 Qq (xF ad cI cL cR w) [(0, .ref (ad 33)), (1, .int (nI m)), (2, .int (nI k))] 30 [] := by
        intro d30
        induction d30 with
        | zero => intro k w hz; exact absurd hz (Nat.not_lt_zero _)
        | succ d30 ih30 =>
          intro k w hz30 hkm hgo hw hF
          have hRw : xR w n B := xR_fr hR (fun q hq => hF.1 q (Or.inl hq))
          have hX9 : (runX B x k) < 16384 := runX_lt hR.1 hx k hgo
          refine z_iload_n C dX6_run_30 2 rfl ?_
          refine z_iload_n C dX6_run_31 1 rfl ?_
          refine z_icmp_ge (tgt := 75) C dX6_run_32 (by decide) (fun zc32 => ?_) (fun zc32 => ?_)
          · skip
            have zn32 := zge_t (a := k) (b := m) (by omega) (by omega) zc32
            refine z_iload_n C dX6_run_75 1 rfl ?_
            exact z_iret C hr hlocks hQ w (⟨k, by omega, hgo, Or.inl (by omega), by rw [show k = m by omega], hw, hF⟩) (fun _ _ => rfl) dX6_run_76
          · skip
            have zn32 := zge_f (a := k) (b := m) (by omega) (by omega) zc32
            refine z_aload_n C dX6_run_35 0 rfl ?_
            refine z_get (q := 33) C (T := TX6) (N := 4) (ci := 6) (own := RX6) (index := 10) (v := .ref (ad 16)) hT6 hown hK (by decide) rfl rfl 0 (by decide) (hts (.fieldLink RX6 10 "TriggerAnalyzer" "book" "LTriggerAnalyzer$RuleBook;") (by decide +kernel)) (fun _ h9 => h9) rfl dX6_run_36 ?_
            refine z_aload_n C dX6_run_39 0 rfl ?_
            refine z_get (q := 33) C (T := TX6) (N := 4) (ci := 6) (own := RX6) (index := 84) (v := .int (w.1 33 3)) hT6 hown hK (by decide) rfl rfl 3 (by decide) (hts (.fieldLink RX6 84 "TriggerAnalyzer" "present" "I") (by decide +kernel)) (fun _ h9 => h9) rfl dX6_run_40 ?_
            refine z_topi (y := nI (runX B x k)) (hw) ?_
            refine z_callVq xX_ok C hml hown hts hK hX (c_X5_firstReadyIn l D ad cI cL cR hI w n B hRw (runX B x k) hX9) (cwV 1 hts gX6_run_X5_firstReadyIn rfl rfl rfl (by decide +kernel) ⟨Nat.le_of_ble_eq_true rfl, Nat.le_of_ble_eq_true rfl⟩) (by decide) (ci := 5) rfl rfl rfl (st := []) rfl (Nat.le_of_ble_eq_true rfl) dX6_run_43 ⟨Nat.le_of_ble_eq_true rfl, Nat.le_of_ble_eq_true rfl⟩ (fun r43 u43 h43 => ?_)
            obtain ⟨zq43, zu43⟩ := h43
            subst u43
            rcases zq43 with ⟨k2, hk2, hr2, hm2, e43⟩ | ⟨hno2, e43⟩
            · skip
              subst e43
              refine z_topv (y := .ref (ad k2)) rfl ?_
              refine z_astore_n (L' := [(3, .ref (ad k2)), (0, .ref (ad 33)), (1, .int (nI m)), (2, .int (nI k))]) C dX6_run_46 (by decide) rfl ?_
              refine z_aload_n C dX6_run_47 0 rfl ?_
              refine z_ifnonnull (tgt := 53) C dX6_run_48 (by decide) ?_
              refine z_aload_n C dX6_run_53 1 rfl ?_
              refine z_aload_n C dX6_run_54 1 rfl ?_
              refine z_get (q := 33) C (T := TX6) (N := 4) (ci := 6) (own := RX6) (index := 10) (v := .ref (ad 16)) hT6 hown hK (by decide) rfl rfl 0 (by decide) (hts (.fieldLink RX6 10 "TriggerAnalyzer" "book" "LTriggerAnalyzer$RuleBook;") (by decide +kernel)) (fun _ h9 => h9) rfl dX6_run_55 ?_
              refine z_aload_n C dX6_run_58 1 rfl ?_
              refine z_get (q := 33) C (T := TX6) (N := 4) (ci := 6) (own := RX6) (index := 84) (v := .int (w.1 33 3)) hT6 hown hK (by decide) rfl rfl 3 (by decide) (hts (.fieldLink RX6 84 "TriggerAnalyzer" "present" "I") (by decide +kernel)) (fun _ h9 => h9) rfl dX6_run_59 ?_
              refine z_topi (y := nI (runX B x k)) (hw) ?_
              refine z_aload_n C dX6_run_62 0 rfl ?_
              refine z_callVi xX_ok C hml hown hts hK hX (c_X5_played l D ad cI cL cR hI w n B hRw (runX B x k) hX9 k2 hk2) (cwV 2 hts gX6_run_X5_played rfl rfl rfl (by decide +kernel) ⟨Nat.le_of_ble_eq_true rfl, Nat.le_of_ble_eq_true rfl⟩) (by decide) (ci := 5) rfl rfl rfl (st := [.ref (ad 33)]) rfl (Nat.le_of_ble_eq_true rfl) dX6_run_63 ⟨Nat.le_of_ble_eq_true rfl, Nat.le_of_ble_eq_true rfl⟩ (fun r63 u63 h63 => ?_)
              obtain ⟨zr63, zu63⟩ := h63
              subst r63
              subst u63
              refine z_put (q := 33) C hI tyX6 (T := TX6) (N := 4) (ci := 6) (own := RX6) (index := 84) hT6 hown hK (by decide) rfl rfl 3 (by decide) (hts (.fieldLink RX6 84 "TriggerAnalyzer" "present" "I") (by decide +kernel)) (fun _ h9 => h9) tyX6_ok nmX6 rfl rfl rfl (Nat.le_of_ble_eq_true rfl) (f' := xF ad cI cL cR ((xs w 33 3 (nI (ply B k2 ((runX B x k))))))) rfl xF_ne dX6_run_66 ?_
              refine z_iinc (L' := [(2, .int (nI (k + 1))), (3, .ref (ad k2)), (0, .ref (ad 33)), (1, .int (nI m))]) C dX6_run_69 3 rfl (nI_1 k) (by decide) rfl ?_
              refine z_goto (tgt := 30) C dX6_run_72 (by decide) ?_
              refine z_sub (L' := [(0, .ref (ad 33)), (1, .int (nI m)), (2, .int (nI (k + 1)))]) [2, 3, 0] rfl ?_
              exact ih30 (k + 1) ((xs w 33 3 (nI (ply B k2 ((runX B x k)))))) (by omega) (by omega) (fun j hj => by rcases Nat.lt_or_ge j k with z | z; exact hgo j z; rw [show j = k by omega, frs_eq hk2 hr2 hm2]; exact hk2) ((xs_s _ _ _ _).trans (by show nI (ply B k2 _) = nI (ply B (frs B ((runX B x k) / 64)) _); rw [frs_eq hk2 hr2 hm2])) (tFr_s hF _)
            · skip
              subst e43
              refine z_topv (y := .null) rfl ?_
              refine z_astore_nN (L' := [(3, .null), (0, .ref (ad 33)), (1, .int (nI m)), (2, .int (nI k))]) C dX6_run_46 (by decide) rfl ?_
              refine z_aload_nN C dX6_run_47 0 rfl ?_
              refine z_ifnonnullN C dX6_run_48 ?_
              refine z_iload_n C dX6_run_51 3 rfl ?_
              exact z_iret C hr hlocks hQ w (⟨k, by omega, hgo, Or.inr (frs_no hno2), rfl, hw, hF⟩) (fun _ _ => rfl) dX6_run_52
      refine z_sub (L' := [(0, .ref (ad 33)), (1, .int (nI m)), (2, .int (nI 0))]) [1, 2, 0] rfl ?_
      exact loop30 (m + 1) 0 (xs u 21 8 (nI 0)) (by omega) (by omega) (fun j hj => absurd hj (Nat.not_lt_zero j)) ((xs_c (by decide) _).trans h3) (tFr_0 u)
    · skip
      have zn8 := zge_f (a := 500) (b := m) (by omega) (by omega) zc8
      exact False.elim (by omega)

set_option maxHeartbeats 4000000 in
set_option maxRecDepth 100000 in
theorem c_X6_explore_vd (l : Launch) (D : va_G) (ad : Nat → Nat) (cI cL cR : ClassId) (hI : gI 34 ad) (u : xS) (hb : u.1 21 8 = 1) : ∀ sz, Met l yX6_explore wsX6_explore ({ frames := 5, cells := 0, slots := 0, locals := 119 }) (XP D ad cI cL cR u [.ref (ad 33)] sz) (va_Qi (fun r_ u' => r_ = (if u.1 21 9 = 0 then u.1 21 7 else -1) ∧ u' = u) (XB D ad cI cL cR) (gA 34 ad sz)) 0 0 (gA 34 ad sz) := by
  intro sz
  refine z_met (cc := cX6_explore) (maxL := 1) (ret := (some .int)) (by decide) rfl (Nat.le_of_ble_eq_true rfl) ?_
  intro pq lq sq mq aq Qq bq hmq cq C hr hml hown hts hlocks hK hX hsz hQ
  subst hsz
  have hT6 : ∀ w ∈ wsX60, w.before aq sq = true := fun w h => hts w ((by decide +kernel : ∀ w ∈ wsX60, w ∈ wsX6_explore) w h)
  refine z_sub (L' := [(0, .ref (ad 33))]) [0] rfl ?_
  refine z_aload_n C dX6_explore_0 0 rfl ?_
  refine z_get (q := 33) C (T := TX6) (N := 4) (ci := 6) (own := RX6) (index := 28) (v := .ref (ad 21)) hT6 hown hK (by decide) rfl rfl 2 (by decide) (hts (.fieldLink RX6 28 "TriggerAnalyzer" "exploration" "LTriggerAnalyzer$Exploration;") (by decide +kernel)) (fun _ h9 => h9) rfl dX6_explore_1 ?_
  refine z_callVi xX_ok C hml hown hts hK hX (c_X1_isDone l D ad cI cL cR hI u (Or.inr hb)) (cwV 0 hts gX6_explore_X1_isDone rfl rfl rfl (by decide +kernel) ⟨Nat.le_of_ble_eq_true rfl, Nat.le_of_ble_eq_true rfl⟩) (by decide) (ci := 1) rfl rfl rfl (st := []) rfl (Nat.le_of_ble_eq_true rfl) dX6_explore_4 ⟨Nat.le_of_ble_eq_true rfl, Nat.le_of_ble_eq_true rfl⟩ (fun r4 u4 h4 => ?_)
  obtain ⟨zr4, zu4⟩ := h4
  subst r4
  subst u4
  refine z_topi (y := nI 1) (hb) ?_
  refine z_if_ne (tgt := 21) C dX6_explore_7 (by decide) (fun zc7 => ?_) (fun zc7 => ?_)
  · skip
    have zn7 := z0_f zc7
    refine z_aload_n C dX6_explore_21 0 rfl ?_
    refine z_get (q := 33) C (T := TX6) (N := 4) (ci := 6) (own := RX6) (index := 28) (v := .ref (ad 21)) hT6 hown hK (by decide) rfl rfl 2 (by decide) (hts (.fieldLink RX6 28 "TriggerAnalyzer" "exploration" "LTriggerAnalyzer$Exploration;") (by decide +kernel)) (fun _ h9 => h9) rfl dX6_explore_22 ?_
    refine z_callVi xX_ok C hml hown hts hK hX (c_X1_answer l D ad cI cL cR hI u) (cwV 0 hts gX6_explore_X1_answer rfl rfl rfl (by decide +kernel) ⟨Nat.le_of_ble_eq_true rfl, Nat.le_of_ble_eq_true rfl⟩) (by decide) (ci := 1) rfl rfl rfl (st := []) rfl (Nat.le_of_ble_eq_true rfl) dX6_explore_25 ⟨Nat.le_of_ble_eq_true rfl, Nat.le_of_ble_eq_true rfl⟩ (fun r25 u25 h25 => ?_)
    obtain ⟨zr25, zu25⟩ := h25
    subst r25
    subst u25
    exact z_iret C hr hlocks hQ u (⟨rfl, rfl⟩) (fun _ _ => rfl) dX6_explore_28
  · skip
    have zn7 := z0_t (by omega) zc7
    exact absurd zn7 (by decide)

set_option maxHeartbeats 4000000 in
set_option maxRecDepth 100000 in
theorem c_X6_explore_vs (l : Launch) (D : va_G) (ad : Nat → Nat) (cI cL cR : ClassId) (hI : gI 34 ad) (u : xS) (n : Nat) (B : Nat → Nat → Nat) (hR : xR u n B) (hb : u.1 21 8 = 0) (S : Nat → Nat) (c : Nat) (hc : c ≤ 1000) (hn9 : u.1 21 7 = nI c) (hS : ∀ j, j < c → u.1 22 j = nI (S j) ∧ S j < 16384) (hp9 : ∀ y, y < 16384 → u.1 25 y = nI (plc S c y)) (x : Nat) (hx : x < 64 * 2 ^ n) (h3 : u.1 33 3 = nI x) : ∀ sz, Met l yX6_explore wsX6_explore ({ frames := 5, cells := 0, slots := 0, locals := 119 }) (XP D ad cI cL cR u [.ref (ad 33)] sz) (va_Qi (fun r_ u' => r_ = (if u'.1 21 9 = 0 then u'.1 21 7 else -1) ∧ (∃ k, xDn u' B x k) ∧ u'.1 21 8 = 1 ∧ ∀ q, q < 21 ∨ 33 ≤ q → u'.1 q = u.1 q) (XB D ad cI cL cR) (gA 34 ad sz)) 0 0 (gA 34 ad sz) := by
  intro sz
  refine z_met (cc := cX6_explore) (maxL := 1) (ret := (some .int)) (by decide) rfl (Nat.le_of_ble_eq_true rfl) ?_
  intro pq lq sq mq aq Qq bq hmq cq C hr hml hown hts hlocks hK hX hsz hQ
  subst hsz
  have hT6 : ∀ w ∈ wsX60, w.before aq sq = true := fun w h => hts w ((by decide +kernel : ∀ w ∈ wsX60, w ∈ wsX6_explore) w h)
  refine z_sub (L' := [(0, .ref (ad 33))]) [0] rfl ?_
  refine z_aload_n C dX6_explore_0 0 rfl ?_
  refine z_get (q := 33) C (T := TX6) (N := 4) (ci := 6) (own := RX6) (index := 28) (v := .ref (ad 21)) hT6 hown hK (by decide) rfl rfl 2 (by decide) (hts (.fieldLink RX6 28 "TriggerAnalyzer" "exploration" "LTriggerAnalyzer$Exploration;") (by decide +kernel)) (fun _ h9 => h9) rfl dX6_explore_1 ?_
  refine z_callVi xX_ok C hml hown hts hK hX (c_X1_isDone l D ad cI cL cR hI u (Or.inl hb)) (cwV 0 hts gX6_explore_X1_isDone rfl rfl rfl (by decide +kernel) ⟨Nat.le_of_ble_eq_true rfl, Nat.le_of_ble_eq_true rfl⟩) (by decide) (ci := 1) rfl rfl rfl (st := []) rfl (Nat.le_of_ble_eq_true rfl) dX6_explore_4 ⟨Nat.le_of_ble_eq_true rfl, Nat.le_of_ble_eq_true rfl⟩ (fun r4 u4 h4 => ?_)
  obtain ⟨zr4, zu4⟩ := h4
  subst r4
  subst u4
  refine z_topi (y := nI 0) (hb) ?_
  refine z_if_ne (tgt := 21) C dX6_explore_7 (by decide) (fun zc7 => ?_) (fun zc7 => ?_)
  · skip
    have zn7 := z0_f zc7
    exact absurd zn7 (by decide)
  · skip
    have zn7 := z0_t (by omega) zc7
    refine z_aload_n C dX6_explore_10 0 rfl ?_
    refine z_get (q := 33) C (T := TX6) (N := 4) (ci := 6) (own := RX6) (index := 28) (v := .ref (ad 21)) hT6 hown hK (by decide) rfl rfl 2 (by decide) (hts (.fieldLink RX6 28 "TriggerAnalyzer" "exploration" "LTriggerAnalyzer$Exploration;") (by decide +kernel)) (fun _ h9 => h9) rfl dX6_explore_11 ?_
    refine z_aload_n C dX6_explore_14 0 rfl ?_
    refine z_get (q := 33) C (T := TX6) (N := 4) (ci := 6) (own := RX6) (index := 84) (v := .int (u.1 33 3)) hT6 hown hK (by decide) rfl rfl 3 (by decide) (hts (.fieldLink RX6 84 "TriggerAnalyzer" "present" "I") (by decide +kernel)) (fun _ h9 => h9) rfl dX6_explore_15 ?_
    refine z_topi (y := nI x) (h3) ?_
    refine z_callVv xX_ok C hml hown hts hK hX (c_X1_search l D ad cI cL cR hI u n B hR S c hc hn9 hS hp9 x hx) (cwV 1 hts gX6_explore_X1_search rfl rfl rfl (by decide +kernel) ⟨Nat.le_of_ble_eq_true rfl, Nat.le_of_ble_eq_true rfl⟩) (by decide) (ci := 1) rfl rfl rfl (st := []) rfl (Nat.le_of_ble_eq_true rfl) dX6_explore_18 ⟨Nat.le_of_ble_eq_true rfl, Nat.le_of_ble_eq_true rfl⟩ (fun u18 h18 => ?_)
    refine z_aload_n C dX6_explore_21 0 rfl ?_
    refine z_get (q := 33) C (T := TX6) (N := 4) (ci := 6) (own := RX6) (index := 28) (v := .ref (ad 21)) hT6 hown hK (by decide) rfl rfl 2 (by decide) (hts (.fieldLink RX6 28 "TriggerAnalyzer" "exploration" "LTriggerAnalyzer$Exploration;") (by decide +kernel)) (fun _ h9 => h9) rfl dX6_explore_22 ?_
    refine z_callVi xX_ok C hml hown hts hK hX (c_X1_answer l D ad cI cL cR hI u18) (cwV 0 hts gX6_explore_X1_answer rfl rfl rfl (by decide +kernel) ⟨Nat.le_of_ble_eq_true rfl, Nat.le_of_ble_eq_true rfl⟩) (by decide) (ci := 1) rfl rfl rfl (st := []) rfl (Nat.le_of_ble_eq_true rfl) dX6_explore_25 ⟨Nat.le_of_ble_eq_true rfl, Nat.le_of_ble_eq_true rfl⟩ (fun r25 u25 h25 => ?_)
    obtain ⟨zr25, zu25⟩ := h25
    subst r25
    subst u25
    exact z_iret C hr hlocks hQ u18 (⟨rfl, h18⟩) (fun _ _ => rfl) dX6_explore_28

set_option maxHeartbeats 4000000 in
set_option maxRecDepth 100000 in
theorem c_X6_factsOf (l : Launch) (D : va_G) (ad : Nat → Nat) (cI cL cR : ClassId) (hI : gI 34 ad) (u : xS) (h8 : ¬ u.1 21 8 = 0) (h9 : u.1 21 9 = 0) (c : Nat) (hc : c ≤ 1000) (hn : u.1 21 7 = nI c) (k : Nat) (hk : k < c) (y : Nat) (hy : y < 16384) (hv : u.1 22 k = nI y) : ∀ sz, Met l yX6_factsOf wsX6_factsOf ({ frames := 8, cells := 0, slots := 0, locals := 132 }) (XP D ad cI cL cR u [.ref (ad 33), .int (nI k)] sz) (va_Qi (fun r_ u' => r_ = nI (y % 64) ∧ u' = u) (XB D ad cI cL cR) (gA 34 ad sz)) 0 0 (gA 34 ad sz) := by
  intro sz
  refine z_met (cc := cX6_factsOf) (maxL := 2) (ret := (some .int)) (by decide) rfl (Nat.le_of_ble_eq_true rfl) ?_
  intro pq lq sq mq aq Qq bq hmq cq C hr hml hown hts hlocks hK hX hsz hQ
  subst hsz
  refine z_sub (L' := [(0, .ref (ad 33)), (1, .int (nI k))]) [0, 1] rfl ?_
  refine z_aload_n C dX6_factsOf_0 0 rfl ?_
  refine z_iload_n C dX6_factsOf_1 1 rfl ?_
  refine z_callVi xX_ok C hml hown hts hK hX (c_X6_exploredAt l D ad cI cL cR hI u h8 h9 c hc hn k hk y hy hv) (cwV 1 hts gX6_factsOf_X6_exploredAt rfl rfl rfl (by decide +kernel) ⟨Nat.le_of_ble_eq_true rfl, Nat.le_of_ble_eq_true rfl⟩) (by decide) (ci := 6) rfl rfl rfl (st := []) rfl (Nat.le_of_ble_eq_true rfl) dX6_factsOf_2 ⟨Nat.le_of_ble_eq_true rfl, Nat.le_of_ble_eq_true rfl⟩ (fun r2 u2 h2 => ?_)
  obtain ⟨zr2, zu2⟩ := h2
  subst r2
  subst u2
  refine z_callSi xX_ok C hml hown hts hK hX (c_X6_factsIn l D ad cI cL cR hI u y) (va_cwS 1 hts gX6_factsOf_X6_factsIn rfl rfl rfl (by decide +kernel) ⟨Nat.le_of_ble_eq_true rfl, Nat.le_of_ble_eq_true rfl⟩) rfl (st := []) rfl (Nat.le_of_ble_eq_true rfl) dX6_factsOf_5 ⟨Nat.le_of_ble_eq_true rfl, Nat.le_of_ble_eq_true rfl⟩ (fun r5 u5 h5 => ?_)
  obtain ⟨zr5, zu5⟩ := h5
  subst r5
  subst u5
  exact z_iret C hr hlocks hQ u (⟨rfl, rfl⟩) (fun _ _ => rfl) dX6_factsOf_8

set_option maxHeartbeats 4000000 in
set_option maxRecDepth 100000 in
theorem c_X6_triggeredOf (l : Launch) (D : va_G) (ad : Nat → Nat) (cI cL cR : ClassId) (hI : gI 34 ad) (u : xS) (h8 : ¬ u.1 21 8 = 0) (h9 : u.1 21 9 = 0) (c : Nat) (hc : c ≤ 1000) (hn : u.1 21 7 = nI c) (k : Nat) (hk : k < c) (y : Nat) (hy : y < 16384) (hv : u.1 22 k = nI y) : ∀ sz, Met l yX6_triggeredOf wsX6_triggeredOf ({ frames := 8, cells := 0, slots := 0, locals := 132 }) (XP D ad cI cL cR u [.ref (ad 33), .int (nI k)] sz) (va_Qi (fun r_ u' => r_ = nI (y / 64) ∧ u' = u) (XB D ad cI cL cR) (gA 34 ad sz)) 0 0 (gA 34 ad sz) := by
  intro sz
  refine z_met (cc := cX6_triggeredOf) (maxL := 2) (ret := (some .int)) (by decide) rfl (Nat.le_of_ble_eq_true rfl) ?_
  intro pq lq sq mq aq Qq bq hmq cq C hr hml hown hts hlocks hK hX hsz hQ
  subst hsz
  refine z_sub (L' := [(0, .ref (ad 33)), (1, .int (nI k))]) [0, 1] rfl ?_
  refine z_aload_n C dX6_triggeredOf_0 0 rfl ?_
  refine z_iload_n C dX6_triggeredOf_1 1 rfl ?_
  refine z_callVi xX_ok C hml hown hts hK hX (c_X6_exploredAt l D ad cI cL cR hI u h8 h9 c hc hn k hk y hy hv) (cwV 1 hts gX6_triggeredOf_X6_exploredAt rfl rfl rfl (by decide +kernel) ⟨Nat.le_of_ble_eq_true rfl, Nat.le_of_ble_eq_true rfl⟩) (by decide) (ci := 6) rfl rfl rfl (st := []) rfl (Nat.le_of_ble_eq_true rfl) dX6_triggeredOf_2 ⟨Nat.le_of_ble_eq_true rfl, Nat.le_of_ble_eq_true rfl⟩ (fun r2 u2 h2 => ?_)
  obtain ⟨zr2, zu2⟩ := h2
  subst r2
  subst u2
  refine z_callSi xX_ok C hml hown hts hK hX (c_X6_triggeredIn l D ad cI cL cR hI u y (by omega)) (va_cwS 1 hts gX6_triggeredOf_X6_triggeredIn rfl rfl rfl (by decide +kernel) ⟨Nat.le_of_ble_eq_true rfl, Nat.le_of_ble_eq_true rfl⟩) rfl (st := []) rfl (Nat.le_of_ble_eq_true rfl) dX6_triggeredOf_5 ⟨Nat.le_of_ble_eq_true rfl, Nat.le_of_ble_eq_true rfl⟩ (fun r5 u5 h5 => ?_)
  obtain ⟨zr5, zu5⟩ := h5
  subst r5
  subst u5
  exact z_iret C hr hlocks hQ u (⟨rfl, rfl⟩) (fun _ _ => rfl) dX6_triggeredOf_8

set_option maxHeartbeats 4000000 in
set_option maxRecDepth 100000 in
theorem c_X6_after (l : Launch) (D : va_G) (ad : Nat → Nat) (cI cL cR : ClassId) (hI : gI 34 ad) (u : xS) (h8 : ¬ u.1 21 8 = 0) (h9 : u.1 21 9 = 0) (c : Nat) (hc : c ≤ 1000) (hn : u.1 21 7 = nI c) (k : Nat) (hk : k < c) (y : Nat) (hy : y < 16384) (hv : u.1 22 k = nI y) (n : Nat) (B : Nat → Nat → Nat) (hR : xR u n B) (i : Nat) (hi : i < n) : ∀ sz, Met l yX6_after wsX6_after ({ frames := 8, cells := 0, slots := 0, locals := 132 }) (XP D ad cI cL cR u [.ref (ad 33), .int (nI k), .int (nI i)] sz) (va_Qi (fun r_ u' => r_ = u.1 24 (k * 8 + i) ∧ u' = u) (XB D ad cI cL cR) (gA 34 ad sz)) 0 0 (gA 34 ad sz) := by
  intro sz
  refine z_met (cc := cX6_after) (maxL := 3) (ret := (some .int)) (by decide) rfl (Nat.le_of_ble_eq_true rfl) ?_
  intro pq lq sq mq aq Qq bq hmq cq C hr hml hown hts hlocks hK hX hsz hQ
  subst hsz
  have hT6 : ∀ w ∈ wsX60, w.before aq sq = true := fun w h => hts w ((by decide +kernel : ∀ w ∈ wsX60, w ∈ wsX6_after) w h)
  refine z_sub (L' := [(0, .ref (ad 33)), (1, .int (nI k)), (2, .int (nI i))]) [0, 1, 2] rfl ?_
  have hi8 : i < 8 := Nat.lt_of_lt_of_le hi hR.1.1
  refine z_aload_n C dX6_after_0 0 rfl ?_
  refine z_iload_n C dX6_after_1 1 rfl ?_
  refine z_callVi xX_ok C hml hown hts hK hX (c_X6_exploredAt l D ad cI cL cR hI u h8 h9 c hc hn k hk y hy hv) (cwV 1 hts gX6_after_X6_exploredAt rfl rfl rfl (by decide +kernel) ⟨Nat.le_of_ble_eq_true rfl, Nat.le_of_ble_eq_true rfl⟩) (by decide) (ci := 6) rfl rfl rfl (st := []) rfl (Nat.le_of_ble_eq_true rfl) dX6_after_2 ⟨Nat.le_of_ble_eq_true rfl, Nat.le_of_ble_eq_true rfl⟩ (fun r2 u2 h2 => ?_)
  obtain ⟨zr2, zu2⟩ := h2
  subst r2
  subst u2
  refine z_pop C rfl dX6_after_5 ?_
  refine z_aload_n C dX6_after_6 0 rfl ?_
  refine z_iload_n C dX6_after_7 2 rfl ?_
  refine z_callVq xX_ok C hml hown hts hK hX (c_X6_ruleAt l D ad cI cL cR hI u n B hR i hi) (cwV 1 hts gX6_after_X6_ruleAt rfl rfl rfl (by decide +kernel) ⟨Nat.le_of_ble_eq_true rfl, Nat.le_of_ble_eq_true rfl⟩) (by decide) (ci := 6) rfl rfl rfl (st := []) rfl (Nat.le_of_ble_eq_true rfl) dX6_after_8 ⟨Nat.le_of_ble_eq_true rfl, Nat.le_of_ble_eq_true rfl⟩ (fun r8 u8 h8 => ?_)
  obtain ⟨zr8, zu8⟩ := h8
  subst r8
  subst u8
  refine z_topv (y := .ref (ad i)) rfl ?_
  refine z_pop C rfl dX6_after_11 ?_
  refine z_aload_n C dX6_after_12 0 rfl ?_
  refine z_get (q := 33) C (T := TX6) (N := 4) (ci := 6) (own := RX6) (index := 28) (v := .ref (ad 21)) hT6 hown hK (by decide) rfl rfl 2 (by decide) (hts (.fieldLink RX6 28 "TriggerAnalyzer" "exploration" "LTriggerAnalyzer$Exploration;") (by decide +kernel)) (fun _ h9 => h9) rfl dX6_after_13 ?_
  refine z_iload_n C dX6_after_16 1 rfl ?_
  refine z_iload_n C dX6_after_17 2 rfl ?_
  refine z_callVi xX_ok C hml hown hts hK hX (c_X1_nextOf l D ad cI cL cR hI u c hc hn k hk i hi8) (cwV 2 hts gX6_after_X1_nextOf rfl rfl rfl (by decide +kernel) ⟨Nat.le_of_ble_eq_true rfl, Nat.le_of_ble_eq_true rfl⟩) (by decide) (ci := 1) rfl rfl rfl (st := []) rfl (Nat.le_of_ble_eq_true rfl) dX6_after_18 ⟨Nat.le_of_ble_eq_true rfl, Nat.le_of_ble_eq_true rfl⟩ (fun r18 u18 h18 => ?_)
  obtain ⟨zr18, zu18⟩ := h18
  subst r18
  subst u18
  exact z_iret C hr hlocks hQ u (⟨rfl, rfl⟩) (fun _ _ => rfl) dX6_after_21

set_option maxHeartbeats 4000000 in
set_option maxRecDepth 100000 in
theorem c_X6_terminates (l : Launch) (D : va_G) (ad : Nat → Nat) (cI cL cR : ClassId) (hI : gI 34 ad) (u : xS) (h8 : ¬ u.1 21 8 = 0) (h9 : u.1 21 9 = 0) (hb : u.1 28 5 = 0 ∨ u.1 28 5 = 1) : ∀ sz, Met l yX6_terminates wsX6_terminates ({ frames := 7, cells := 0, slots := 0, locals := 110 }) (XP D ad cI cL cR u [.ref (ad 33)] sz) (va_Qi (fun r_ u' => r_ = u.1 28 5 ∧ u' = u) (XB D ad cI cL cR) (gA 34 ad sz)) 0 0 (gA 34 ad sz) := by
  intro sz
  refine z_met (cc := cX6_terminates) (maxL := 1) (ret := (some .boolean)) (by decide) rfl (Nat.le_of_ble_eq_true rfl) ?_
  intro pq lq sq mq aq Qq bq hmq cq C hr hml hown hts hlocks hK hX hsz hQ
  subst hsz
  have hT1 : ∀ w ∈ wsX10, w.before aq sq = true := fun w h => hts w ((by decide +kernel : ∀ w ∈ wsX10, w ∈ wsX6_terminates) w h)
  have hT6 : ∀ w ∈ wsX60, w.before aq sq = true := fun w h => hts w ((by decide +kernel : ∀ w ∈ wsX60, w ∈ wsX6_terminates) w h)
  refine z_sub (L' := [(0, .ref (ad 33))]) [0] rfl ?_
  refine z_aload_n C dX6_terminates_0 0 rfl ?_
  refine z_callVv xX_ok C hml hown hts hK hX (c_X6_needExplored l D ad cI cL cR hI u h8 h9) (cwV 0 hts gX6_terminates_X6_needExplored rfl rfl rfl (by decide +kernel) ⟨Nat.le_of_ble_eq_true rfl, Nat.le_of_ble_eq_true rfl⟩) (by decide) (ci := 6) rfl rfl rfl (st := []) rfl (Nat.le_of_ble_eq_true rfl) dX6_terminates_1 ⟨Nat.le_of_ble_eq_true rfl, Nat.le_of_ble_eq_true rfl⟩ (fun u1 h1 => ?_)
  subst u1
  refine z_aload_n C dX6_terminates_4 0 rfl ?_
  refine z_get (q := 33) C (T := TX6) (N := 4) (ci := 6) (own := RX6) (index := 28) (v := .ref (ad 21)) hT6 hown hK (by decide) rfl rfl 2 (by decide) (hts (.fieldLink RX6 28 "TriggerAnalyzer" "exploration" "LTriggerAnalyzer$Exploration;") (by decide +kernel)) (fun _ h9 => h9) rfl dX6_terminates_5 ?_
  refine z_get (q := 21) C (T := TX1) (N := 12) (ci := 1) (own := RX6) (index := 160) (v := .ref (ad 28)) hT1 hown hK (by decide) rfl rfl 6 (by decide) (hts (.fieldLink RX6 160 "TriggerAnalyzer$Exploration" "prospect" "LTriggerAnalyzer$Prospect;") (by decide +kernel)) (fun _ h9 => h9) rfl dX6_terminates_8 ?_
  refine z_callVi xX_ok C hml hown hts hK hX (c_X3_isFinite l D ad cI cL cR hI u hb) (cwV 0 hts gX6_terminates_X3_isFinite rfl rfl rfl (by decide +kernel) ⟨Nat.le_of_ble_eq_true rfl, Nat.le_of_ble_eq_true rfl⟩) (by decide) (ci := 3) rfl rfl rfl (st := []) rfl (Nat.le_of_ble_eq_true rfl) dX6_terminates_11 ⟨Nat.le_of_ble_eq_true rfl, Nat.le_of_ble_eq_true rfl⟩ (fun r11 u11 h11 => ?_)
  obtain ⟨zr11, zu11⟩ := h11
  subst r11
  subst u11
  exact z_zret C hr hlocks (by rcases hb with hb | hb <;> rw [hb] <;> rfl) hQ u (⟨rfl, rfl⟩) (fun _ _ => rfl) dX6_terminates_14

set_option maxHeartbeats 4000000 in
set_option maxRecDepth 100000 in
theorem c_X6_endCount (l : Launch) (D : va_G) (ad : Nat → Nat) (cI cL cR : ClassId) (hI : gI 34 ad) (u : xS) (h8 : ¬ u.1 21 8 = 0) (h9 : u.1 21 9 = 0) : ∀ sz, Met l yX6_endCount wsX6_endCount ({ frames := 7, cells := 0, slots := 0, locals := 110 }) (XP D ad cI cL cR u [.ref (ad 33)] sz) (va_Qi (fun r_ u' => r_ = u.1 26 1 ∧ u' = u) (XB D ad cI cL cR) (gA 34 ad sz)) 0 0 (gA 34 ad sz) := by
  intro sz
  refine z_met (cc := cX6_endCount) (maxL := 1) (ret := (some .int)) (by decide) rfl (Nat.le_of_ble_eq_true rfl) ?_
  intro pq lq sq mq aq Qq bq hmq cq C hr hml hown hts hlocks hK hX hsz hQ
  subst hsz
  have hT1 : ∀ w ∈ wsX10, w.before aq sq = true := fun w h => hts w ((by decide +kernel : ∀ w ∈ wsX10, w ∈ wsX6_endCount) w h)
  have hT6 : ∀ w ∈ wsX60, w.before aq sq = true := fun w h => hts w ((by decide +kernel : ∀ w ∈ wsX60, w ∈ wsX6_endCount) w h)
  refine z_sub (L' := [(0, .ref (ad 33))]) [0] rfl ?_
  refine z_aload_n C dX6_endCount_0 0 rfl ?_
  refine z_callVv xX_ok C hml hown hts hK hX (c_X6_needExplored l D ad cI cL cR hI u h8 h9) (cwV 0 hts gX6_endCount_X6_needExplored rfl rfl rfl (by decide +kernel) ⟨Nat.le_of_ble_eq_true rfl, Nat.le_of_ble_eq_true rfl⟩) (by decide) (ci := 6) rfl rfl rfl (st := []) rfl (Nat.le_of_ble_eq_true rfl) dX6_endCount_1 ⟨Nat.le_of_ble_eq_true rfl, Nat.le_of_ble_eq_true rfl⟩ (fun u1 h1 => ?_)
  subst u1
  refine z_aload_n C dX6_endCount_4 0 rfl ?_
  refine z_get (q := 33) C (T := TX6) (N := 4) (ci := 6) (own := RX6) (index := 28) (v := .ref (ad 21)) hT6 hown hK (by decide) rfl rfl 2 (by decide) (hts (.fieldLink RX6 28 "TriggerAnalyzer" "exploration" "LTriggerAnalyzer$Exploration;") (by decide +kernel)) (fun _ h9 => h9) rfl dX6_endCount_5 ?_
  refine z_get (q := 21) C (T := TX1) (N := 12) (ci := 1) (own := RX6) (index := 169) (v := .ref (ad 26)) hT1 hown hK (by decide) rfl rfl 5 (by decide) (hts (.fieldLink RX6 169 "TriggerAnalyzer$Exploration" "ends" "LTriggerAnalyzer$Ends;") (by decide +kernel)) (fun _ h9 => h9) rfl dX6_endCount_8 ?_
  refine z_callVi xX_ok C hml hown hts hK hX (c_X0_size l D ad cI cL cR hI u) (cwV 0 hts gX6_endCount_X0_size rfl rfl rfl (by decide +kernel) ⟨Nat.le_of_ble_eq_true rfl, Nat.le_of_ble_eq_true rfl⟩) (by decide) (ci := 0) rfl rfl rfl (st := []) rfl (Nat.le_of_ble_eq_true rfl) dX6_endCount_11 ⟨Nat.le_of_ble_eq_true rfl, Nat.le_of_ble_eq_true rfl⟩ (fun r11 u11 h11 => ?_)
  obtain ⟨zr11, zu11⟩ := h11
  subst r11
  subst u11
  exact z_iret C hr hlocks hQ u (⟨rfl, rfl⟩) (fun _ _ => rfl) dX6_endCount_14

set_option maxHeartbeats 4000000 in
set_option maxRecDepth 100000 in
theorem c_X6_shortest (l : Launch) (D : va_G) (ad : Nat → Nat) (cI cL cR : ClassId) (hI : gI 34 ad) (u : xS) (h8 : ¬ u.1 21 8 = 0) (h9 : u.1 21 9 = 0) : ∀ sz, Met l yX6_shortest wsX6_shortest ({ frames := 7, cells := 0, slots := 0, locals := 110 }) (XP D ad cI cL cR u [.ref (ad 33)] sz) (va_Qi (fun r_ u' => r_ = u.1 26 2 ∧ u' = u) (XB D ad cI cL cR) (gA 34 ad sz)) 0 0 (gA 34 ad sz) := by
  intro sz
  refine z_met (cc := cX6_shortest) (maxL := 1) (ret := (some .int)) (by decide) rfl (Nat.le_of_ble_eq_true rfl) ?_
  intro pq lq sq mq aq Qq bq hmq cq C hr hml hown hts hlocks hK hX hsz hQ
  subst hsz
  have hT1 : ∀ w ∈ wsX10, w.before aq sq = true := fun w h => hts w ((by decide +kernel : ∀ w ∈ wsX10, w ∈ wsX6_shortest) w h)
  have hT6 : ∀ w ∈ wsX60, w.before aq sq = true := fun w h => hts w ((by decide +kernel : ∀ w ∈ wsX60, w ∈ wsX6_shortest) w h)
  refine z_sub (L' := [(0, .ref (ad 33))]) [0] rfl ?_
  refine z_aload_n C dX6_shortest_0 0 rfl ?_
  refine z_callVv xX_ok C hml hown hts hK hX (c_X6_needExplored l D ad cI cL cR hI u h8 h9) (cwV 0 hts gX6_shortest_X6_needExplored rfl rfl rfl (by decide +kernel) ⟨Nat.le_of_ble_eq_true rfl, Nat.le_of_ble_eq_true rfl⟩) (by decide) (ci := 6) rfl rfl rfl (st := []) rfl (Nat.le_of_ble_eq_true rfl) dX6_shortest_1 ⟨Nat.le_of_ble_eq_true rfl, Nat.le_of_ble_eq_true rfl⟩ (fun u1 h1 => ?_)
  subst u1
  refine z_aload_n C dX6_shortest_4 0 rfl ?_
  refine z_get (q := 33) C (T := TX6) (N := 4) (ci := 6) (own := RX6) (index := 28) (v := .ref (ad 21)) hT6 hown hK (by decide) rfl rfl 2 (by decide) (hts (.fieldLink RX6 28 "TriggerAnalyzer" "exploration" "LTriggerAnalyzer$Exploration;") (by decide +kernel)) (fun _ h9 => h9) rfl dX6_shortest_5 ?_
  refine z_get (q := 21) C (T := TX1) (N := 12) (ci := 1) (own := RX6) (index := 169) (v := .ref (ad 26)) hT1 hown hK (by decide) rfl rfl 5 (by decide) (hts (.fieldLink RX6 169 "TriggerAnalyzer$Exploration" "ends" "LTriggerAnalyzer$Ends;") (by decide +kernel)) (fun _ h9 => h9) rfl dX6_shortest_8 ?_
  refine z_callVi xX_ok C hml hown hts hK hX (c_X0_firstDepth l D ad cI cL cR hI u) (cwV 0 hts gX6_shortest_X0_firstDepth rfl rfl rfl (by decide +kernel) ⟨Nat.le_of_ble_eq_true rfl, Nat.le_of_ble_eq_true rfl⟩) (by decide) (ci := 0) rfl rfl rfl (st := []) rfl (Nat.le_of_ble_eq_true rfl) dX6_shortest_11 ⟨Nat.le_of_ble_eq_true rfl, Nat.le_of_ble_eq_true rfl⟩ (fun r11 u11 h11 => ?_)
  obtain ⟨zr11, zu11⟩ := h11
  subst r11
  subst u11
  exact z_iret C hr hlocks hQ u (⟨rfl, rfl⟩) (fun _ _ => rfl) dX6_shortest_14

set_option maxHeartbeats 4000000 in
set_option maxRecDepth 100000 in
theorem c_X6_longest (l : Launch) (D : va_G) (ad : Nat → Nat) (cI cL cR : ClassId) (hI : gI 34 ad) (u : xS) (h8 : ¬ u.1 21 8 = 0) (h9 : u.1 21 9 = 0) : ∀ sz, Met l yX6_longest wsX6_longest ({ frames := 7, cells := 0, slots := 0, locals := 110 }) (XP D ad cI cL cR u [.ref (ad 33)] sz) (va_Qi (fun r_ u' => r_ = (if u.1 28 5 = 0 then -1 else u.1 28 6) ∧ u' = u) (XB D ad cI cL cR) (gA 34 ad sz)) 0 0 (gA 34 ad sz) := by
  intro sz
  refine z_met (cc := cX6_longest) (maxL := 1) (ret := (some .int)) (by decide) rfl (Nat.le_of_ble_eq_true rfl) ?_
  intro pq lq sq mq aq Qq bq hmq cq C hr hml hown hts hlocks hK hX hsz hQ
  subst hsz
  have hT1 : ∀ w ∈ wsX10, w.before aq sq = true := fun w h => hts w ((by decide +kernel : ∀ w ∈ wsX10, w ∈ wsX6_longest) w h)
  have hT6 : ∀ w ∈ wsX60, w.before aq sq = true := fun w h => hts w ((by decide +kernel : ∀ w ∈ wsX60, w ∈ wsX6_longest) w h)
  refine z_sub (L' := [(0, .ref (ad 33))]) [0] rfl ?_
  refine z_aload_n C dX6_longest_0 0 rfl ?_
  refine z_callVv xX_ok C hml hown hts hK hX (c_X6_needExplored l D ad cI cL cR hI u h8 h9) (cwV 0 hts gX6_longest_X6_needExplored rfl rfl rfl (by decide +kernel) ⟨Nat.le_of_ble_eq_true rfl, Nat.le_of_ble_eq_true rfl⟩) (by decide) (ci := 6) rfl rfl rfl (st := []) rfl (Nat.le_of_ble_eq_true rfl) dX6_longest_1 ⟨Nat.le_of_ble_eq_true rfl, Nat.le_of_ble_eq_true rfl⟩ (fun u1 h1 => ?_)
  subst u1
  refine z_aload_n C dX6_longest_4 0 rfl ?_
  refine z_get (q := 33) C (T := TX6) (N := 4) (ci := 6) (own := RX6) (index := 28) (v := .ref (ad 21)) hT6 hown hK (by decide) rfl rfl 2 (by decide) (hts (.fieldLink RX6 28 "TriggerAnalyzer" "exploration" "LTriggerAnalyzer$Exploration;") (by decide +kernel)) (fun _ h9 => h9) rfl dX6_longest_5 ?_
  refine z_get (q := 21) C (T := TX1) (N := 12) (ci := 1) (own := RX6) (index := 160) (v := .ref (ad 28)) hT1 hown hK (by decide) rfl rfl 6 (by decide) (hts (.fieldLink RX6 160 "TriggerAnalyzer$Exploration" "prospect" "LTriggerAnalyzer$Prospect;") (by decide +kernel)) (fun _ h9 => h9) rfl dX6_longest_8 ?_
  refine z_callVi xX_ok C hml hown hts hK hX (c_X3_mostPlays l D ad cI cL cR hI u) (cwV 0 hts gX6_longest_X3_mostPlays rfl rfl rfl (by decide +kernel) ⟨Nat.le_of_ble_eq_true rfl, Nat.le_of_ble_eq_true rfl⟩) (by decide) (ci := 3) rfl rfl rfl (st := []) rfl (Nat.le_of_ble_eq_true rfl) dX6_longest_11 ⟨Nat.le_of_ble_eq_true rfl, Nat.le_of_ble_eq_true rfl⟩ (fun r11 u11 h11 => ?_)
  obtain ⟨zr11, zu11⟩ := h11
  subst r11
  subst u11
  exact z_iret C hr hlocks hQ u (⟨rfl, rfl⟩) (fun _ _ => rfl) dX6_longest_14

set_option maxHeartbeats 4000000 in
set_option maxRecDepth 100000 in
theorem c_X6_ways (l : Launch) (D : va_G) (ad : Nat → Nat) (cI cL cR : ClassId) (hI : gI 34 ad) (u : xS) (h8 : ¬ u.1 21 8 = 0) (h9 : u.1 21 9 = 0) : ∀ sz, Met l yX6_ways wsX6_ways ({ frames := 7, cells := 0, slots := 0, locals := 110 }) (XP D ad cI cL cR u [.ref (ad 33)] sz) (va_Ql (fun r_ u' => r_ = (if u.1 28 5 = 0 then -1 else u.2 28 7) ∧ u' = u) (XB D ad cI cL cR) (gA 34 ad sz)) 0 0 (gA 34 ad sz) := by
  intro sz
  refine z_met (cc := cX6_ways) (maxL := 1) (ret := (some .long)) (by decide) rfl (Nat.le_of_ble_eq_true rfl) ?_
  intro pq lq sq mq aq Qq bq hmq cq C hr hml hown hts hlocks hK hX hsz hQ
  subst hsz
  have hT1 : ∀ w ∈ wsX10, w.before aq sq = true := fun w h => hts w ((by decide +kernel : ∀ w ∈ wsX10, w ∈ wsX6_ways) w h)
  have hT6 : ∀ w ∈ wsX60, w.before aq sq = true := fun w h => hts w ((by decide +kernel : ∀ w ∈ wsX60, w ∈ wsX6_ways) w h)
  refine z_sub (L' := [(0, .ref (ad 33))]) [0] rfl ?_
  refine z_aload_n C dX6_ways_0 0 rfl ?_
  refine z_callVv xX_ok C hml hown hts hK hX (c_X6_needExplored l D ad cI cL cR hI u h8 h9) (cwV 0 hts gX6_ways_X6_needExplored rfl rfl rfl (by decide +kernel) ⟨Nat.le_of_ble_eq_true rfl, Nat.le_of_ble_eq_true rfl⟩) (by decide) (ci := 6) rfl rfl rfl (st := []) rfl (Nat.le_of_ble_eq_true rfl) dX6_ways_1 ⟨Nat.le_of_ble_eq_true rfl, Nat.le_of_ble_eq_true rfl⟩ (fun u1 h1 => ?_)
  subst u1
  refine z_aload_n C dX6_ways_4 0 rfl ?_
  refine z_get (q := 33) C (T := TX6) (N := 4) (ci := 6) (own := RX6) (index := 28) (v := .ref (ad 21)) hT6 hown hK (by decide) rfl rfl 2 (by decide) (hts (.fieldLink RX6 28 "TriggerAnalyzer" "exploration" "LTriggerAnalyzer$Exploration;") (by decide +kernel)) (fun _ h9 => h9) rfl dX6_ways_5 ?_
  refine z_get (q := 21) C (T := TX1) (N := 12) (ci := 1) (own := RX6) (index := 160) (v := .ref (ad 28)) hT1 hown hK (by decide) rfl rfl 6 (by decide) (hts (.fieldLink RX6 160 "TriggerAnalyzer$Exploration" "prospect" "LTriggerAnalyzer$Prospect;") (by decide +kernel)) (fun _ h9 => h9) rfl dX6_ways_8 ?_
  refine z_callVl xX_ok C hml hown hts hK hX (c_X3_wayCount l D ad cI cL cR hI u) (cwV 0 hts gX6_ways_X3_wayCount rfl rfl rfl (by decide +kernel) ⟨Nat.le_of_ble_eq_true rfl, Nat.le_of_ble_eq_true rfl⟩) (by decide) (ci := 3) rfl rfl rfl (st := []) rfl (Nat.le_of_ble_eq_true rfl) dX6_ways_11 ⟨Nat.le_of_ble_eq_true rfl, Nat.le_of_ble_eq_true rfl⟩ (fun r11 u11 h11 => ?_)
  obtain ⟨zr11, zu11⟩ := h11
  subst r11
  subst u11
  exact z_lret C hr hlocks hQ u (⟨rfl, rfl⟩) (fun _ _ => rfl) dX6_ways_14

