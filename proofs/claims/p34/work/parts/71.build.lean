theorem bl2a (x : Int32) : 2 * bl x 6 < 12 := by have := bl_lt x (m := 6) (by decide); omega
theorem bl2b (x : Int32) : 1 + 2 * bl x 6 < 12 := by have := bl_lt x (m := 6) (by decide); omega
theorem clr_00 {i : Nat} : 64 * clr (0 / 64) i + 0 % 64 = 0 := by
  have e : clr (0 / 64) i = 0 := Nat.eq_of_testBit_eq fun j => by rw [clr_tb]; simp
  rw [e]
set_option maxHeartbeats 4000000 in
set_option maxRecDepth 100000 in
theorem c_L_build (l : Launch) (D : va_G) (ad : Nat → Nat) (cI cL cR : ClassId) (cc9 : Nat) (Ln b : Nat) (sc : Nat → Int32) (hI : gI 35 ad) (A0 : xS) : ∀ sz, Met l yL_build wsL_build ({ frames := 8, cells := 0, slots := 0, locals := 136 }) (PP D ad cI cL cR cc9 35 b Ln sc (u00, A0) [.ref (ad 33), .ref (b), .int (nI 0), .int (nI 6), .ref (ad 34)] sz) (va_Qi (fun r_ z9 => ∃ (m : Nat) (B : Nat → Nat → Nat), r_ = nI m ∧ 1 ≤ m ∧ m ≤ 6 ∧ xI z9.1 m B 0 ∧ fre B) (PB D ad cI cL cR cc9 35) (gA 35 ad sz)) 0 0 (gA 35 ad sz) := by
  intro sz
  refine z_met (cc := cL_build) (maxL := 10) (ret := (some .int)) (by decide) rfl (Nat.le_of_ble_eq_true rfl) ?_
  intro pq lq sq mq aq Qq bq hmq cq C hr hml hown hts hlocks hK hX hsz hQ
  subst hsz
  obtain ⟨hX0, hcst, hXs, hbl, hbA, hL9⟩ := id hX
  refine z_sub (L' := [(0, .ref (ad 33)), (1, .ref (b)), (2, .int (nI 0)), (3, .int (nI 6)), (4, .ref (ad 34))]) [0, 1, 2, 3, 4] rfl ?_
  have h6 := bl_lt (ce sc Ln 0) (m := 6) (by decide)
  refine z_iconst (v := nI 1) C (by decide) dL_build_0 ?_
  refine z_aload_n C dL_build_1 1 rfl ?_
  refine z_iload_n C dL_build_2 2 rfl ?_
  refine z_callSi pX_ok C hml hown hts hK hX (c_L_cell l D ad cI cL cR cc9 35 Ln b sc hI (by decide) 0 (by decide) ((u00, A0))) (va_cwS 2 hts gL_build_L_cell rfl rfl rfl (by decide +kernel) ⟨Nat.le_of_ble_eq_true rfl, Nat.le_of_ble_eq_true rfl⟩) rfl (st := [.int (nI 1)]) rfl (Nat.le_of_ble_eq_true rfl) dL_build_3 ⟨Nat.le_of_ble_eq_true rfl, Nat.le_of_ble_eq_true rfl⟩ (fun r3 z3 h3 => ?_)
  obtain ⟨e3, f3⟩ := h3
  subst e3
  subst f3
  refine z_iload_n C dL_build_6 3 rfl ?_
  refine z_callSi pX_ok C hml hown hts hK hX (c_L_below l D ad cI cL cR cc9 35 Ln b sc hI (by decide) (ce sc Ln 0) 6 (by decide) (by decide) ((u00, A0))) (va_cwS 2 hts gL_build_L_below rfl rfl rfl (by decide +kernel) ⟨Nat.le_of_ble_eq_true rfl, Nat.le_of_ble_eq_true rfl⟩) rfl (st := [.int (nI 1)]) rfl (Nat.le_of_ble_eq_true rfl) dL_build_7 ⟨Nat.le_of_ble_eq_true rfl, Nat.le_of_ble_eq_true rfl⟩ (fun r7 z7 h7 => ?_)
  obtain ⟨e7, f7⟩ := h7
  subst e7
  subst f7
  refine z_iadd C dL_build_10 ?_
  refine z_topi (y := nI (1 + (bl (ce sc Ln 0) 6))) (nI_add 1 (bl (ce sc Ln 0) 6)) ?_
  refine z_istore (L' := [(5, .int (nI (1 + (bl (ce sc Ln 0) 6)))), (0, .ref (ad 33)), (1, .ref (b)), (2, .int (nI 0)), (3, .int (nI 6)), (4, .ref (ad 34))]) C dL_build_11 (by decide) rfl ?_
  refine z_iconst (v := nI 0) C (by decide) dL_build_13 ?_
  refine z_istore (L' := [(6, .int (nI 0)), (5, .int (nI (1 + (bl (ce sc Ln 0) 6)))), (0, .ref (ad 33)), (1, .ref (b)), (2, .int (nI 0)), (3, .int (nI 6)), (4, .ref (ad 34))]) C dL_build_14 (by decide) rfl ?_
  have loop16 : ∀ (d16 : Nat) (i : Nat) (B : Nat → Nat → Nat) (w A : xS), 1 + bl (ce sc Ln 0) 6 - i < d16 → (i ≤ 1 + bl (ce sc Ln 0) 6) → (xI w i B 0) → (∀ j, j < 8 → B j 5 = 0) → ZZ pq l lq { frames := 8, cells := 0, slots := 0, locals := 136 } sq mq aq bq hmq cq D vwCl 35 ad 10 0 0 Qq (PF ad cI cL cR cc9 (w, A)) [(0, .ref (ad 33)), (1, .ref (b)), (2, .int (nI 0)), (3, .int (nI 6)), (4, .ref (ad 34)), (5, .int (nI (1 + bl (ce sc Ln 0) 6))), (6, .int (nI i))] 16 [] := by
    intro d16
    induction d16 with
    | zero => intro i B w A hz; exact absurd hz (Nat.not_lt_zero _)
    | succ d16 ih16 =>
      intro i B w A hz16 hi hIv hfr
      have h6 := bl_lt (ce sc Ln 0) (m := 6) (by decide)
      refine z_iload C dL_build_16 6 rfl ?_
      refine z_iload C dL_build_18 5 rfl ?_
      refine z_icmp_ge (tgt := 401) C dL_build_20 (by decide) (fun zc20 => ?_) (fun zc20 => ?_)
      · skip
        have zn20 := zge_t (a := i) (b := 1 + bl (ce sc Ln 0) 6) (by omega) (by omega) zc20
        refine z_aload_n C dL_build_401 0 rfl ?_
        refine z_callVi (q := 33) pX_ok C hml hown hts hK hX (fun sz => z_liftI (σ := id) (F := fun u9 => PF ad cI cL cR cc9 (u9, A)) (F1 := xF ad cI cL cR) (f1 := xF ad cI cL cR w) (pL (by decide) hI) (fun _ h => h) (pX_x (by decide)) (fun k hk => PF_x k hk) (fun _ k hk => PF_x k hk) PF_x2 (fun _ _ h => h) (c_X6_ruleCount l D ad cI cL cR (gI_n (by decide) hI) w i B hIv.1 sz)) (cwV 0 hts gL_build_X6_ruleCount rfl rfl rfl (by decide +kernel) ⟨Nat.le_of_ble_eq_true rfl, Nat.le_of_ble_eq_true rfl⟩) (by decide) (ci := 6) rfl rfl rfl (st := []) rfl (Nat.le_of_ble_eq_true rfl) dL_build_402 ⟨Nat.le_of_ble_eq_true rfl, Nat.le_of_ble_eq_true rfl⟩ (fun r402 u402 h402 => ?_)
        obtain ⟨e402, f402⟩ := h402
        subst e402
        subst u402
        refine z_iload C dL_build_405 5 rfl ?_
        refine z_icmp_ne (tgt := 415) C dL_build_407 (by decide) (fun zc407 => ?_) (fun zc407 => ?_)
        · skip
          have zn407 := zeq_f (a := i) (b := 1 + bl (ce sc Ln 0) 6) zc407
          exact False.elim (zn407 (by omega))
        · skip
          have zn407 := zeq_t (a := i) (b := 1 + bl (ce sc Ln 0) 6) (by omega) (by omega) zc407
          refine z_iload C dL_build_410 5 rfl ?_
          refine z_goto (tgt := 416) C dL_build_412 (by decide) ?_
          exact z_iret C hr hlocks hQ ((w, A)) (⟨i, B, congrArg nI (show 1 + bl (ce sc Ln 0) 6 = i by omega), by omega, by omega, hIv, hfr⟩) (fun _ _ => rfl) dL_build_416
      · skip
        have zn20 := zge_f (a := i) (b := 1 + bl (ce sc Ln 0) 6) (by omega) (by omega) zc20
        refine z_aload_n C dL_build_23 1 rfl ?_
        refine z_iload_n C dL_build_24 2 rfl ?_
        refine z_iconst (v := nI 1) C (by decide) dL_build_25 ?_
        refine z_iadd C dL_build_26 ?_
        refine z_topi (y := nI (0 + 1)) (nI_add 0 1) ?_
        refine z_iload C dL_build_27 6 rfl ?_
        refine z_iadd C dL_build_29 ?_
        refine z_topi (y := nI ((0 + 1) + i)) (nI_add (0 + 1) i) ?_
        refine z_callSi pX_ok C hml hown hts hK hX (c_L_cell l D ad cI cL cR cc9 35 Ln b sc hI (by decide) (0 + 1 + i) (by omega) ((w, A))) (va_cwS 2 hts gL_build_L_cell rfl rfl rfl (by decide +kernel) ⟨Nat.le_of_ble_eq_true rfl, Nat.le_of_ble_eq_true rfl⟩) rfl (st := []) rfl (Nat.le_of_ble_eq_true rfl) dL_build_30 ⟨Nat.le_of_ble_eq_true rfl, Nat.le_of_ble_eq_true rfl⟩ (fun r30 z30 h30 => ?_)
        obtain ⟨e30, f30⟩ := h30
        subst e30
        subst f30
        refine z_istore (L' := [(7, .int (ce sc Ln ((0 + 1) + i))), (0, .ref (ad 33)), (1, .ref (b)), (2, .int (nI 0)), (3, .int (nI 6)), (4, .ref (ad 34)), (5, .int (nI (1 + bl (ce sc Ln 0) 6))), (6, .int (nI i))]) C dL_build_33 (by decide) rfl ?_
        refine z_bipush (v := nI 9) C (by decide) dL_build_35 ?_
        refine z_iload C dL_build_37 7 rfl ?_
        refine z_imul C dL_build_39 ?_
        refine z_topi (y := nI (9 * i)) (pk_mul 9 i) ?_
        refine z_istore (L' := [(8, .int (nI (9 * i))), (7, .int (ce sc Ln ((0 + 1) + i))), (0, .ref (ad 33)), (1, .ref (b)), (2, .int (nI 0)), (3, .int (nI 6)), (4, .ref (ad 34)), (5, .int (nI (1 + bl (ce sc Ln 0) 6))), (6, .int (nI i))]) C dL_build_40 (by decide) rfl ?_
        refine z_aload C dL_build_42 6 rfl ?_
        refine z_iload C dL_build_44 0 rfl ?_
        refine z_iload C dL_build_46 1 rfl ?_
        refine z_iconst (v := nI 2) C (by decide) dL_build_48 ?_
        refine z_callSi pX_ok C hml hown hts hK hX (c_L_below l D ad cI cL cR cc9 35 Ln b sc hI (by decide) (ce sc Ln ((0 + 1) + i)) 2 (by decide) (by decide) ((w, A))) (va_cwS 2 hts gL_build_L_below rfl rfl rfl (by decide +kernel) ⟨Nat.le_of_ble_eq_true rfl, Nat.le_of_ble_eq_true rfl⟩) rfl (st := [.int (nI (9 * i)), .ref (ad 34)]) rfl (Nat.le_of_ble_eq_true rfl) dL_build_49 ⟨Nat.le_of_ble_eq_true rfl, Nat.le_of_ble_eq_true rfl⟩ (fun r49 z49 h49 => ?_)
        obtain ⟨e49, f49⟩ := h49
        subst e49
        subst f49
        have hb52 := bl_lt (ce sc Ln (0 + 1 + i)) (m := 2) (by decide)
        have join79 : ∀ (e : Nat), (e < 12) → ZZ pq l lq { frames := 8, cells := 0, slots := 0, locals := 136 } sq mq aq bq hmq cq D vwCl 35 ad 10 0 0 Qq (PF ad cI cL cR cc9 (w, A)) [(0, .ref (ad 33)), (1, .ref (b)), (2, .int (nI 0)), (3, .int (nI 6)), (4, .ref (ad 34)), (5, .int (nI (1 + bl (ce sc Ln 0) 6))), (6, .int (nI i)), (7, .int (ce sc Ln (0 + 1 + i))), (8, .int (nI (9 * i)))] 79 [.int (nI e), .int (nI (9 * i)), .ref (ad 34)] := by
          intro e he
          refine z_iast (q := 34) (len := 72) (k := 9 * i) C hI hK (by decide) rfl 0 rfl (rfl) (by omega) (by decide) (f' := PF ad cI cL cR cc9 (w, (xs A 34 (9 * i) (nI e)))) rfl (PF_ne (by decide)) dL_build_79 ?_
          refine z_aload C dL_build_80 4 rfl ?_
          refine z_iload C dL_build_82 8 rfl ?_
          refine z_iconst (v := nI 1) C (by decide) dL_build_84 ?_
          refine z_iadd C dL_build_85 ?_
          refine z_topi (y := nI ((9 * i) + 1)) (nI_add (9 * i) 1) ?_
          refine z_iload C dL_build_86 7 rfl ?_
          refine z_iconst (v := nI 5) C (by decide) dL_build_88 ?_
          refine z_ishr C dL_build_89 ?_
          refine z_iconst (v := nI 3) C (by decide) dL_build_90 ?_
          refine z_callSi pX_ok C hml hown hts hK hX (c_L_below l D ad cI cL cR cc9 35 Ln b sc hI (by decide) ((ce sc Ln (0 + 1 + i)) >>> ((nI 5 : Int32) &&& 31)) 3 (by decide) (by decide) ((w, (xs A 34 (9 * i) (nI e))))) (va_cwS 2 hts gL_build_L_below rfl rfl rfl (by decide +kernel) ⟨Nat.le_of_ble_eq_true rfl, Nat.le_of_ble_eq_true rfl⟩) rfl (st := [.int (nI ((9 * i) + 1)), .ref (ad 34)]) rfl (Nat.le_of_ble_eq_true rfl) dL_build_91 ⟨Nat.le_of_ble_eq_true rfl, Nat.le_of_ble_eq_true rfl⟩ (fun r91 z91 h91 => ?_)
          obtain ⟨e91, f91⟩ := h91
          subst e91
          subst f91
          have hb94 := bl_lt ((ce sc Ln (0 + 1 + i)) >>> ((nI 5 : Int32) &&& 31)) (m := 3) (by decide)
          have join113 : ∀ (a1 : Nat), (a1 < 64) → ZZ pq l lq { frames := 8, cells := 0, slots := 0, locals := 136 } sq mq aq bq hmq cq D vwCl 35 ad 10 0 0 Qq (PF ad cI cL cR cc9 (w, (xs A 34 (9 * i) (nI e)))) [(0, .ref (ad 33)), (1, .ref (b)), (2, .int (nI 0)), (3, .int (nI 6)), (4, .ref (ad 34)), (5, .int (nI (1 + bl (ce sc Ln 0) 6))), (6, .int (nI i)), (7, .int (ce sc Ln (0 + 1 + i))), (8, .int (nI (9 * i)))] 113 [.int (nI a1), .int (nI (9 * i + 1)), .ref (ad 34)] := by
            intro a1 ha1
            refine z_iast (q := 34) (len := 72) (k := 9 * i + 1) C hI hK (by decide) rfl 0 rfl (rfl) (by omega) (by decide) (f' := PF ad cI cL cR cc9 (w, (xs ((xs A 34 (9 * i) (nI e))) 34 (9 * i + 1) (nI a1)))) rfl (PF_ne (by decide)) dL_build_113 ?_
            refine z_aload C dL_build_114 4 rfl ?_
            refine z_iload C dL_build_116 8 rfl ?_
            refine z_iconst (v := nI 2) C (by decide) dL_build_118 ?_
            refine z_iadd C dL_build_119 ?_
            refine z_topi (y := nI ((9 * i) + 2)) (nI_add (9 * i) 2) ?_
            refine z_iload C dL_build_120 7 rfl ?_
            refine z_bipush (v := nI 9) C (by decide) dL_build_122 ?_
            refine z_ishr C dL_build_124 ?_
            refine z_iconst (v := nI 3) C (by decide) dL_build_125 ?_
            refine z_callSi pX_ok C hml hown hts hK hX (c_L_below l D ad cI cL cR cc9 35 Ln b sc hI (by decide) ((ce sc Ln (0 + 1 + i)) >>> ((nI 9 : Int32) &&& 31)) 3 (by decide) (by decide) ((w, (xs ((xs A 34 (9 * i) (nI e))) 34 (9 * i + 1) (nI a1))))) (va_cwS 2 hts gL_build_L_below rfl rfl rfl (by decide +kernel) ⟨Nat.le_of_ble_eq_true rfl, Nat.le_of_ble_eq_true rfl⟩) rfl (st := [.int (nI ((9 * i) + 2)), .ref (ad 34)]) rfl (Nat.le_of_ble_eq_true rfl) dL_build_126 ⟨Nat.le_of_ble_eq_true rfl, Nat.le_of_ble_eq_true rfl⟩ (fun r126 z126 h126 => ?_)
            obtain ⟨e126, f126⟩ := h126
            subst e126
            subst f126
            have hb129 := bl_lt ((ce sc Ln (0 + 1 + i)) >>> ((nI 9 : Int32) &&& 31)) (m := 3) (by decide)
            have join148 : ∀ (a2 : Nat), (a2 < 64) → ZZ pq l lq { frames := 8, cells := 0, slots := 0, locals := 136 } sq mq aq bq hmq cq D vwCl 35 ad 10 0 0 Qq (PF ad cI cL cR cc9 (w, (xs (xs A 34 (9 * i) (nI e)) 34 (9 * i + 1) (nI a1)))) [(0, .ref (ad 33)), (1, .ref (b)), (2, .int (nI 0)), (3, .int (nI 6)), (4, .ref (ad 34)), (5, .int (nI (1 + bl (ce sc Ln 0) 6))), (6, .int (nI i)), (7, .int (ce sc Ln (0 + 1 + i))), (8, .int (nI (9 * i)))] 148 [.int (nI a2), .int (nI (9 * i + 2)), .ref (ad 34)] := by
              intro a2 ha2
              refine z_iast (q := 34) (len := 72) (k := 9 * i + 2) C hI hK (by decide) rfl 0 rfl (rfl) (by omega) (by decide) (f' := PF ad cI cL cR cc9 (w, (xs ((xs (xs A 34 (9 * i) (nI e)) 34 (9 * i + 1) (nI a1))) 34 (9 * i + 2) (nI a2)))) rfl (PF_ne (by decide)) dL_build_148 ?_
              refine z_aload C dL_build_149 4 rfl ?_
              refine z_iload C dL_build_151 8 rfl ?_
              refine z_iconst (v := nI 3) C (by decide) dL_build_153 ?_
              refine z_iadd C dL_build_154 ?_
              refine z_topi (y := nI ((9 * i) + 3)) (nI_add (9 * i) 3) ?_
              refine z_iload C dL_build_155 7 rfl ?_
              refine z_bipush (v := nI 13) C (by decide) dL_build_157 ?_
              refine z_ishr C dL_build_159 ?_
              refine z_bipush (v := nI 8) C (by decide) dL_build_160 ?_
              refine z_callSi pX_ok C hml hown hts hK hX (c_L_below l D ad cI cL cR cc9 35 Ln b sc hI (by decide) ((ce sc Ln (0 + 1 + i)) >>> ((nI 13 : Int32) &&& 31)) 8 (by decide) (by decide) ((w, (xs ((xs (xs A 34 (9 * i) (nI e)) 34 (9 * i + 1) (nI a1))) 34 (9 * i + 2) (nI a2))))) (va_cwS 2 hts gL_build_L_below rfl rfl rfl (by decide +kernel) ⟨Nat.le_of_ble_eq_true rfl, Nat.le_of_ble_eq_true rfl⟩) rfl (st := [.int (nI ((9 * i) + 3)), .ref (ad 34)]) rfl (Nat.le_of_ble_eq_true rfl) dL_build_162 ⟨Nat.le_of_ble_eq_true rfl, Nat.le_of_ble_eq_true rfl⟩ (fun r162 z162 h162 => ?_)
              obtain ⟨e162, f162⟩ := h162
              subst e162
              subst f162
              have hb165 := bl_lt ((ce sc Ln (0 + 1 + i)) >>> ((nI 13 : Int32) &&& 31)) (m := 8) (by decide)
              have join173 : ∀ (on : Nat), (on ≤ 1) → ZZ pq l lq { frames := 8, cells := 0, slots := 0, locals := 136 } sq mq aq bq hmq cq D vwCl 35 ad 10 0 0 Qq (PF ad cI cL cR cc9 (w, (xs (xs (xs A 34 (9 * i) (nI e)) 34 (9 * i + 1) (nI a1)) 34 (9 * i + 2) (nI a2)))) [(0, .ref (ad 33)), (1, .ref (b)), (2, .int (nI 0)), (3, .int (nI 6)), (4, .ref (ad 34)), (5, .int (nI (1 + bl (ce sc Ln 0) 6))), (6, .int (nI i)), (7, .int (ce sc Ln (0 + 1 + i))), (8, .int (nI (9 * i)))] 173 [.int (nI on), .int (nI (9 * i + 3)), .ref (ad 34)] := by
                intro on hon
                refine z_iast (q := 34) (len := 72) (k := 9 * i + 3) C hI hK (by decide) rfl 0 rfl (rfl) (by omega) (by decide) (f' := PF ad cI cL cR cc9 (w, (xs ((xs (xs (xs A 34 (9 * i) (nI e)) 34 (9 * i + 1) (nI a1)) 34 (9 * i + 2) (nI a2))) 34 (9 * i + 3) (nI on)))) rfl (PF_ne (by decide)) dL_build_173 ?_
                refine z_aload C dL_build_174 4 rfl ?_
                refine z_iload C dL_build_176 8 rfl ?_
                refine z_iconst (v := nI 4) C (by decide) dL_build_178 ?_
                refine z_iadd C dL_build_179 ?_
                refine z_topi (y := nI ((9 * i) + 4)) (nI_add (9 * i) 4) ?_
                refine z_iload C dL_build_180 7 rfl ?_
                refine z_bipush (v := nI 15) C (by decide) dL_build_182 ?_
                refine z_ishr C dL_build_184 ?_
                refine z_iconst (v := nI 4) C (by decide) dL_build_185 ?_
                refine z_callSi pX_ok C hml hown hts hK hX (c_L_below l D ad cI cL cR cc9 35 Ln b sc hI (by decide) ((ce sc Ln (0 + 1 + i)) >>> ((nI 15 : Int32) &&& 31)) 4 (by decide) (by decide) ((w, (xs ((xs (xs (xs A 34 (9 * i) (nI e)) 34 (9 * i + 1) (nI a1)) 34 (9 * i + 2) (nI a2))) 34 (9 * i + 3) (nI on))))) (va_cwS 2 hts gL_build_L_below rfl rfl rfl (by decide +kernel) ⟨Nat.le_of_ble_eq_true rfl, Nat.le_of_ble_eq_true rfl⟩) rfl (st := [.int (nI ((9 * i) + 4)), .ref (ad 34)]) rfl (Nat.le_of_ble_eq_true rfl) dL_build_186 ⟨Nat.le_of_ble_eq_true rfl, Nat.le_of_ble_eq_true rfl⟩ (fun r186 z186 h186 => ?_)
                obtain ⟨e186, f186⟩ := h186
                subst e186
                subst f186
                have join190 : ∀ (A2 : xS) (na : Nat), (A2.1 34 (9 * i) = nI e ∧ A2.1 34 (9 * i + 1) = nI a1 ∧ A2.1 34 (9 * i + 2) = nI a2 ∧ A2.1 34 (9 * i + 3) = nI on ∧ A2.1 34 (9 * i + 4) = nI na) → (na < 4) → ZZ pq l lq { frames := 8, cells := 0, slots := 0, locals := 136 } sq mq aq bq hmq cq D vwCl 35 ad 10 0 0 Qq (PF ad cI cL cR cc9 (w, A2)) [(0, .ref (ad 33)), (1, .ref (b)), (2, .int (nI 0)), (3, .int (nI 6)), (4, .ref (ad 34)), (5, .int (nI (1 + bl (ce sc Ln 0) 6))), (6, .int (nI i)), (7, .int (ce sc Ln (0 + 1 + i))), (8, .int (nI (9 * i)))] 190 [] := by
                  intro A2 na hA hna
                  refine z_aload_n C dL_build_190 0 rfl ?_
                  refine z_aload C dL_build_191 4 rfl ?_
                  refine z_iload C dL_build_193 8 rfl ?_
                  refine z_iald (q := 34) (len := 72) (k := 9 * i) C hK (by decide) rfl 0 rfl (rfl) (by omega) (by decide) dL_build_195 ?_
                  refine z_topi (y := A2.1 34 (9 * i)) rfl ?_
                  refine z_topi (y := nI e) (hA.1) ?_
                  refine z_iconst (v := nI 2) C (by decide) dL_build_196 ?_
                  refine z_idiv C (by decide) dL_build_197 ?_
                  refine z_topi (y := nI (e / 2)) (zi_dv2 he) ?_
                  refine z_aload C dL_build_198 4 rfl ?_
                  refine z_iload C dL_build_200 8 rfl ?_
                  refine z_iald (q := 34) (len := 72) (k := 9 * i) C hK (by decide) rfl 0 rfl (rfl) (by omega) (by decide) dL_build_202 ?_
                  refine z_topi (y := A2.1 34 (9 * i)) rfl ?_
                  refine z_topi (y := nI e) (hA.1) ?_
                  refine z_iconst (v := nI 2) C (by decide) dL_build_203 ?_
                  refine z_irem C (by decide) rfl dL_build_204 ?_
                  refine z_topi (y := nI (e % 2)) (zi_rm2 he) ?_
                  refine z_iconst (v := nI 1) C (by decide) dL_build_205 ?_
                  have join214 : ∀ (bb : Nat), (bb ≤ 1) → ZZ pq l lq { frames := 8, cells := 0, slots := 0, locals := 136 } sq mq aq bq hmq cq D vwCl 35 ad 10 0 0 Qq (PF ad cI cL cR cc9 (w, A2)) [(0, .ref (ad 33)), (1, .ref (b)), (2, .int (nI 0)), (3, .int (nI 6)), (4, .ref (ad 34)), (5, .int (nI (1 + bl (ce sc Ln 0) 6))), (6, .int (nI i)), (7, .int (ce sc Ln (0 + 1 + i))), (8, .int (nI (9 * i)))] 214 [.int (nI bb), .int (nI (e / 2)), .ref (ad 33)] := by
                    intro bb hbb
                    refine z_aload C dL_build_214 4 rfl ?_
                    refine z_iload C dL_build_216 8 rfl ?_
                    refine z_iconst (v := nI 1) C (by decide) dL_build_218 ?_
                    refine z_iadd C dL_build_219 ?_
                    refine z_topi (y := nI ((9 * i) + 1)) (nI_add (9 * i) 1) ?_
                    refine z_iald (q := 34) (len := 72) (k := (9 * i) + 1) C hK (by decide) rfl 0 rfl (rfl) (by omega) (by decide) dL_build_220 ?_
                    refine z_topi (y := A2.1 34 ((9 * i) + 1)) rfl ?_
                    refine z_topi (y := nI a1) (hA.2.1) ?_
                    refine z_aload C dL_build_221 4 rfl ?_
                    refine z_iload C dL_build_223 8 rfl ?_
                    refine z_iconst (v := nI 2) C (by decide) dL_build_225 ?_
                    refine z_iadd C dL_build_226 ?_
                    refine z_topi (y := nI ((9 * i) + 2)) (nI_add (9 * i) 2) ?_
                    refine z_iald (q := 34) (len := 72) (k := (9 * i) + 2) C hK (by decide) rfl 0 rfl (rfl) (by omega) (by decide) dL_build_227 ?_
                    refine z_topi (y := A2.1 34 ((9 * i) + 2)) rfl ?_
                    refine z_topi (y := nI a2) (hA.2.2.1) ?_
                    refine z_callVi (q := 33) pX_ok C hml hown hts hK hX (fun sz => z_liftI (σ := id) (F := fun u9 => PF ad cI cL cR cc9 (u9, A2)) (F1 := xF ad cI cL cR) (f1 := xF ad cI cL cR w) (pL (by decide) hI) (fun _ h => h) (pX_x (by decide)) (fun k hk => PF_x k hk) (fun _ k hk => PF_x k hk) PF_x2 (fun _ _ h => h) (c_X6_addRule l D ad cI cL cR (gI_n (by decide) hI) w i B hIv.1 (by omega) (e / 2) (by omega) bb hbb a1 ha1 a2 ha2 sz)) (cwV 4 hts gL_build_X6_addRule rfl rfl rfl (by decide +kernel) ⟨Nat.le_of_ble_eq_true rfl, Nat.le_of_ble_eq_true rfl⟩) (by decide) (ci := 6) rfl rfl rfl (st := []) rfl (Nat.le_of_ble_eq_true rfl) dL_build_228 ⟨Nat.le_of_ble_eq_true rfl, Nat.le_of_ble_eq_true rfl⟩ (fun r228 u228 h228 => ?_)
                    obtain ⟨e228, f228⟩ := h228
                    subst e228
                    have hI2 : xI u228 (i + 1) (apB B i (2 * (e / 2) + bb) a1 a2) 0 := by rw [f228]; exact xI_ap hIv (by omega) (by omega) ha1 ha2
                    have hz4 : apB B i (2 * (e / 2) + bb) a1 a2 i 4 = 0 := by rw [apB_4]; exact (hIv.1.1.2.2.1 i (Nat.le_refl i) (by omega)).2.1
                    have hz3 : apB B i (2 * (e / 2) + bb) a1 a2 i 3 = 1 := (apB_0 B i (2 * (e / 2) + bb) a1 a2).2.2.2
                    have hz5 : ∀ j, j < 8 → apB B i (2 * (e / 2) + bb) a1 a2 j 5 = 0 := fun j hj => by rw [apB_5]; exact hfr j hj
                    clear f228
                    refine z_iload C dL_build_231 6 rfl ?_
                    refine z_icmp_eq (tgt := 238) C dL_build_233 (by decide) (fun zc233 => ?_) (fun zc233 => ?_)
                    · skip
                      have zn233 := zeq_t (a := i) (b := i) (by omega) (by omega) zc233
                      refine z_iconst (v := nI 0) C (by decide) dL_build_238 ?_
                      refine z_istore (L' := [(9, .int (nI 0)), (0, .ref (ad 33)), (1, .ref (b)), (2, .int (nI 0)), (3, .int (nI 6)), (4, .ref (ad 34)), (5, .int (nI (1 + bl (ce sc Ln 0) 6))), (6, .int (nI i)), (7, .int (ce sc Ln (0 + 1 + i))), (8, .int (nI (9 * i)))]) C dL_build_239 (by decide) rfl ?_
                      have loop241 : ∀ (d241 : Nat) (k : Nat) (B2 : Nat → Nat → Nat) (w2 A3 : xS), na - k < d241 → (k ≤ na) → (xI w2 (i + 1) B2 0) → (∀ j, j < 8 → B2 j 5 = 0) → (B2 i 4 = k) → (B2 i 3 = 1) → (A3.1 34 (9 * i + 3) = nI on ∧ A3.1 34 (9 * i + 4) = nI na) → ZZ pq l lq { frames := 8, cells := 0, slots := 0, locals := 136 } sq mq aq bq hmq cq D vwCl 35 ad 10 0 0 Qq (PF ad cI cL cR cc9 (w2, A3)) [(0, .ref (ad 33)), (1, .ref (b)), (2, .int (nI 0)), (3, .int (nI 6)), (4, .ref (ad 34)), (5, .int (nI (1 + bl (ce sc Ln 0) 6))), (6, .int (nI i)), (7, .int (ce sc Ln (0 + 1 + i))), (8, .int (nI (9 * i))), (9, .int (nI k))] 241 [] := by
                        intro d241
                        induction d241 with
                        | zero => intro k B2 w2 A3 hz; exact absurd hz (Nat.not_lt_zero _)
                        | succ d241 ih241 =>
                          intro k B2 w2 A3 hz241 hk hI3 hf3 h4 h3 hA3
                          refine z_iload C dL_build_241 9 rfl ?_
                          refine z_aload C dL_build_243 4 rfl ?_
                          refine z_iload C dL_build_245 8 rfl ?_
                          refine z_iconst (v := nI 4) C (by decide) dL_build_247 ?_
                          refine z_iadd C dL_build_248 ?_
                          refine z_topi (y := nI ((9 * i) + 4)) (nI_add (9 * i) 4) ?_
                          refine z_iald (q := 34) (len := 72) (k := (9 * i) + 4) C hK (by decide) rfl 0 rfl (rfl) (by omega) (by decide) dL_build_249 ?_
                          refine z_topi (y := A3.1 34 ((9 * i) + 4)) rfl ?_
                          refine z_topi (y := nI na) (hA3.2) ?_
                          refine z_icmp_ge (tgt := 373) C dL_build_250 (by decide) (fun zc250 => ?_) (fun zc250 => ?_)
                          · skip
                            have zn250 := zge_t (a := k) (b := na) (by omega) (by omega) zc250
                            refine z_aload C dL_build_373 4 rfl ?_
                            refine z_iload C dL_build_375 8 rfl ?_
                            refine z_iconst (v := nI 3) C (by decide) dL_build_377 ?_
                            refine z_iadd C dL_build_378 ?_
                            refine z_topi (y := nI ((9 * i) + 3)) (nI_add (9 * i) 3) ?_
                            refine z_iald (q := 34) (len := 72) (k := (9 * i) + 3) C hK (by decide) rfl 0 rfl (rfl) (by omega) (by decide) dL_build_379 ?_
                            refine z_topi (y := A3.1 34 ((9 * i) + 3)) rfl ?_
                            have join395 : ∀ (w4 : xS) (B4 : Nat → Nat → Nat), (xI w4 (i + 1) B4 0) → (∀ j, j < 8 → B4 j 5 = 0) → ZZ pq l lq { frames := 8, cells := 0, slots := 0, locals := 136 } sq mq aq bq hmq cq D vwCl 35 ad 10 0 0 Qq (PF ad cI cL cR cc9 (w4, A3)) [(0, .ref (ad 33)), (1, .ref (b)), (2, .int (nI 0)), (3, .int (nI 6)), (4, .ref (ad 34)), (5, .int (nI (1 + bl (ce sc Ln 0) 6))), (6, .int (nI i)), (7, .int (ce sc Ln (0 + 1 + i))), (8, .int (nI (9 * i))), (9, .int (nI k))] 395 [] := by
                              intro w4 B4 hI6 hf6
                              refine z_iinc (L' := [(6, .int (nI (i + 1))), (0, .ref (ad 33)), (1, .ref (b)), (2, .int (nI 0)), (3, .int (nI 6)), (4, .ref (ad 34)), (5, .int (nI (1 + bl (ce sc Ln 0) 6))), (7, .int (ce sc Ln (0 + 1 + i))), (8, .int (nI (9 * i))), (9, .int (nI k))]) C dL_build_395 6 rfl (nI_1 i) (by decide) rfl ?_
                              refine z_goto (tgt := 16) C dL_build_398 (by decide) ?_
                              refine z_sub (L' := [(0, .ref (ad 33)), (1, .ref (b)), (2, .int (nI 0)), (3, .int (nI 6)), (4, .ref (ad 34)), (5, .int (nI (1 + bl (ce sc Ln 0) 6))), (6, .int (nI (i + 1)))]) [1, 2, 3, 4, 5, 6, 0] rfl ?_
                              exact ih16 (i + 1) B4 w4 A3 (by omega) (by omega) hI6 hf6
                            refine z_topi (y := nI on) (hA3.1) ?_
                            refine z_if_ne (tgt := 395) C dL_build_380 (by decide) (fun zc380 => ?_) (fun zc380 => ?_)
                            · skip
                              have zn380 := z0_f zc380
                              refine z_sub (L' := [(0, .ref (ad 33)), (1, .ref (b)), (2, .int (nI 0)), (3, .int (nI 6)), (4, .ref (ad 34)), (5, .int (nI (1 + bl (ce sc Ln 0) 6))), (6, .int (nI i)), (7, .int (ce sc Ln (0 + 1 + i))), (8, .int (nI (9 * i))), (9, .int (nI k))]) [0, 1, 2, 3, 4, 5, 6, 7, 8, 9] rfl ?_
                              exact join395 w2 B2 hI3 hf3
                            · skip
                              have zn380 := z0_t (by omega) zc380
                              refine z_aload_n C dL_build_383 0 rfl ?_
                              refine z_iload C dL_build_384 6 rfl ?_
                              refine z_iconst (v := nI 0) C (by decide) dL_build_386 ?_
                              refine z_callVi (q := 33) pX_ok C hml hown hts hK hX (fun sz => z_liftI (σ := id) (F := fun u9 => PF ad cI cL cR cc9 (u9, A3)) (F1 := xF ad cI cL cR) (f1 := xF ad cI cL cR w2) (pL (by decide) hI) (fun _ h => h) (pX_x (by decide)) (fun k hk => PF_x k hk) (fun _ k hk => PF_x k hk) PF_x2 (fun _ _ h => h) (c_X6_turn_v0 l D ad cI cL cR (gI_n (by decide) hI) w2 (i + 1) B2 hI3.1 i (Nat.lt_succ_self i) 0 (by decide) hI3.2.2.1 sz)) (cwV 2 hts gL_build_X6_turn rfl rfl rfl (by decide +kernel) ⟨Nat.le_of_ble_eq_true rfl, Nat.le_of_ble_eq_true rfl⟩) (by decide) (ci := 6) rfl rfl rfl (st := []) rfl (Nat.le_of_ble_eq_true rfl) dL_build_387 ⟨Nat.le_of_ble_eq_true rfl, Nat.le_of_ble_eq_true rfl⟩ (fun r387 u387 h387 => ?_)
                              obtain ⟨e387, f387⟩ := h387
                              subst e387
                              have hI5 : xI u387 (i + 1) (swB B2 i 0) (64 * clr (0 / 64) i + 0 % 64) := by rw [f387]; exact xI_sw0 hI3 (Nat.lt_succ_self i) (by rw [clr_00]; exact Nat.mul_pos (by decide) (Nat.two_pow_pos _))
                              rw [clr_00] at hI5
                              clear f387
                              refine z_topi (y := nI 1) (by rw [h3]) ?_
                              refine z_if_ne (tgt := 395) C dL_build_390 (by decide) (fun zc390 => ?_) (fun zc390 => ?_)
                              · skip
                                have zn390 := z0_f zc390
                                refine z_sub (L' := [(0, .ref (ad 33)), (1, .ref (b)), (2, .int (nI 0)), (3, .int (nI 6)), (4, .ref (ad 34)), (5, .int (nI (1 + bl (ce sc Ln 0) 6))), (6, .int (nI i)), (7, .int (ce sc Ln (0 + 1 + i))), (8, .int (nI (9 * i))), (9, .int (nI k))]) [0, 1, 2, 3, 4, 5, 6, 7, 8, 9] rfl ?_
                                exact join395 u387 (swB B2 i 0) hI5 (fun j hj => by rw [swB_5]; exact hf3 j hj)
                              · skip
                                have zn390 := z0_t (by omega) zc390
                                exact absurd zn390 (by decide)
                          · skip
                            have zn250 := zge_f (a := k) (b := na) (by omega) (by omega) zc250
                            refine z_aload C dL_build_253 4 rfl ?_
                            refine z_iload C dL_build_255 8 rfl ?_
                            refine z_iconst (v := nI 5) C (by decide) dL_build_257 ?_
                            refine z_iadd C dL_build_258 ?_
                            refine z_topi (y := nI ((9 * i) + 5)) (nI_add (9 * i) 5) ?_
                            refine z_iload C dL_build_259 9 rfl ?_
                            refine z_iadd C dL_build_261 ?_
                            refine z_topi (y := nI (((9 * i) + 5) + k)) (nI_add ((9 * i) + 5) k) ?_
                            refine z_iload C dL_build_262 7 rfl ?_
                            refine z_bipush (v := nI 16) C (by decide) dL_build_264 ?_
                            refine z_iconst (v := nI 4) C (by decide) dL_build_266 ?_
                            refine z_iload C dL_build_267 9 rfl ?_
                            refine z_imul C dL_build_269 ?_
                            refine z_topi (y := nI (4 * k)) (pk_mul 4 k) ?_
                            refine z_iadd C dL_build_270 ?_
                            refine z_topi (y := nI (16 + (4 * k))) (nI_add 16 (4 * k)) ?_
                            refine z_ishr C dL_build_271 ?_
                            refine z_iconst (v := nI 3) C (by decide) dL_build_272 ?_
                            refine z_callSi pX_ok C hml hown hts hK hX (c_L_below l D ad cI cL cR cc9 35 Ln b sc hI (by decide) ((ce sc Ln (0 + 1 + i)) >>> ((nI (16 + (4 * k)) : Int32) &&& 31)) 3 (by decide) (by decide) ((w2, A3))) (va_cwS 2 hts gL_build_L_below rfl rfl rfl (by decide +kernel) ⟨Nat.le_of_ble_eq_true rfl, Nat.le_of_ble_eq_true rfl⟩) rfl (st := [.int (nI (((9 * i) + 5) + k)), .ref (ad 34)]) rfl (Nat.le_of_ble_eq_true rfl) dL_build_273 ⟨Nat.le_of_ble_eq_true rfl, Nat.le_of_ble_eq_true rfl⟩ (fun r273 z273 h273 => ?_)
                            obtain ⟨e273, f273⟩ := h273
                            subst e273
                            subst f273
                            have join318 : ∀ (v : Nat), (v < 12) → ZZ pq l lq { frames := 8, cells := 0, slots := 0, locals := 136 } sq mq aq bq hmq cq D vwCl 35 ad 10 0 0 Qq (PF ad cI cL cR cc9 (w2, A3)) [(0, .ref (ad 33)), (1, .ref (b)), (2, .int (nI 0)), (3, .int (nI 6)), (4, .ref (ad 34)), (5, .int (nI (1 + bl (ce sc Ln 0) 6))), (6, .int (nI i)), (7, .int (ce sc Ln (0 + 1 + i))), (8, .int (nI (9 * i))), (9, .int (nI k))] 318 [.int (nI v), .int (nI (9 * i + 5 + k)), .ref (ad 34)] := by
                              intro v hv
                              refine z_iast (q := 34) (len := 72) (k := 9 * i + 5 + k) C hI hK (by decide) rfl 0 rfl (rfl) (by omega) (by decide) (f' := PF ad cI cL cR cc9 (w2, (xs A3 34 (9 * i + 5 + k) (nI v)))) rfl (PF_ne (by decide)) dL_build_318 ?_
                              refine z_aload_n C dL_build_319 0 rfl ?_
                              refine z_iload C dL_build_320 6 rfl ?_
                              refine z_aload C dL_build_322 4 rfl ?_
                              refine z_iload C dL_build_324 8 rfl ?_
                              refine z_iconst (v := nI 5) C (by decide) dL_build_326 ?_
                              refine z_iadd C dL_build_327 ?_
                              refine z_topi (y := nI ((9 * i) + 5)) (nI_add (9 * i) 5) ?_
                              refine z_iload C dL_build_328 9 rfl ?_
                              refine z_iadd C dL_build_330 ?_
                              refine z_topi (y := nI (((9 * i) + 5) + k)) (nI_add ((9 * i) + 5) k) ?_
                              refine z_iald (q := 34) (len := 72) (k := ((9 * i) + 5) + k) C hK (by decide) rfl 0 rfl (rfl) (by omega) (by decide) dL_build_331 ?_
                              refine z_topi (y := (xs A3 34 (9 * i + 5 + k) (nI v)).1 34 (((9 * i) + 5) + k)) rfl ?_
                              refine z_topi (y := nI v) (xs_s _ _ _ _) ?_
                              refine z_iconst (v := nI 2) C (by decide) dL_build_332 ?_
                              refine z_idiv C (by decide) dL_build_333 ?_
                              refine z_topi (y := nI (v / 2)) (zi_dv2 hv) ?_
                              refine z_aload C dL_build_334 4 rfl ?_
                              refine z_iload C dL_build_336 8 rfl ?_
                              refine z_iconst (v := nI 5) C (by decide) dL_build_338 ?_
                              refine z_iadd C dL_build_339 ?_
                              refine z_topi (y := nI ((9 * i) + 5)) (nI_add (9 * i) 5) ?_
                              refine z_iload C dL_build_340 9 rfl ?_
                              refine z_iadd C dL_build_342 ?_
                              refine z_topi (y := nI (((9 * i) + 5) + k)) (nI_add ((9 * i) + 5) k) ?_
                              refine z_iald (q := 34) (len := 72) (k := ((9 * i) + 5) + k) C hK (by decide) rfl 0 rfl (rfl) (by omega) (by decide) dL_build_343 ?_
                              refine z_topi (y := (xs A3 34 (9 * i + 5 + k) (nI v)).1 34 (((9 * i) + 5) + k)) rfl ?_
                              refine z_topi (y := nI v) (xs_s _ _ _ _) ?_
                              refine z_iconst (v := nI 2) C (by decide) dL_build_344 ?_
                              refine z_irem C (by decide) rfl dL_build_345 ?_
                              refine z_topi (y := nI (v % 2)) (zi_rm2 hv) ?_
                              refine z_iconst (v := nI 1) C (by decide) dL_build_346 ?_
                              have join355 : ∀ (b2 : Nat), (b2 ≤ 1) → ZZ pq l lq { frames := 8, cells := 0, slots := 0, locals := 136 } sq mq aq bq hmq cq D vwCl 35 ad 10 0 0 Qq (PF ad cI cL cR cc9 (w2, (xs A3 34 (9 * i + 5 + k) (nI v)))) [(0, .ref (ad 33)), (1, .ref (b)), (2, .int (nI 0)), (3, .int (nI 6)), (4, .ref (ad 34)), (5, .int (nI (1 + bl (ce sc Ln 0) 6))), (6, .int (nI i)), (7, .int (ce sc Ln (0 + 1 + i))), (8, .int (nI (9 * i))), (9, .int (nI k))] 355 [.int (nI b2), .int (nI (v / 2)), .int (nI i), .ref (ad 33)] := by
                                intro b2 hb2
                                refine z_callVi (q := 33) pX_ok C hml hown hts hK hX (fun sz => z_liftI (σ := id) (F := fun u9 => PF ad cI cL cR cc9 (u9, (xs A3 34 (9 * i + 5 + k) (nI v)))) (F1 := xF ad cI cL cR) (f1 := xF ad cI cL cR w2) (pL (by decide) hI) (fun _ h => h) (pX_x (by decide)) (fun k hk => PF_x k hk) (fun _ k hk => PF_x k hk) PF_x2 (fun _ _ h => h) (c_X6_addAction l D ad cI cL cR (gI_n (by decide) hI) w2 (i + 1) B2 hI3.1 i (Nat.lt_succ_self i) (v / 2) (by omega) b2 hb2 (by omega) sz)) (cwV 3 hts gL_build_X6_addAction rfl rfl rfl (by decide +kernel) ⟨Nat.le_of_ble_eq_true rfl, Nat.le_of_ble_eq_true rfl⟩) (by decide) (ci := 6) rfl rfl rfl (st := []) rfl (Nat.le_of_ble_eq_true rfl) dL_build_355 ⟨Nat.le_of_ble_eq_true rfl, Nat.le_of_ble_eq_true rfl⟩ (fun r355 u355 h355 => ?_)
                                obtain ⟨e355, f355⟩ := h355
                                subst e355
                                have hI4 : xI u355 (i + 1) (aaB B2 i (2 * (v / 2) + b2)) 0 := by rw [f355]; exact xI_aa hI3 (Nat.lt_succ_self i) (by omega) (by omega)
                                clear f355
                                refine z_topi (y := nI (k + 1)) (by rw [h4]) ?_
                                refine z_iload C dL_build_358 9 rfl ?_
                                refine z_iconst (v := nI 1) C (by decide) dL_build_360 ?_
                                refine z_iadd C dL_build_361 ?_
                                refine z_topi (y := nI (k + 1)) (nI_add k 1) ?_
                                refine z_icmp_eq (tgt := 367) C dL_build_362 (by decide) (fun zc362 => ?_) (fun zc362 => ?_)
                                · skip
                                  have zn362 := zeq_t (a := k + 1) (b := k + 1) (by omega) (by omega) zc362
                                  refine z_iinc (L' := [(9, .int (nI (k + 1))), (0, .ref (ad 33)), (1, .ref (b)), (2, .int (nI 0)), (3, .int (nI 6)), (4, .ref (ad 34)), (5, .int (nI (1 + bl (ce sc Ln 0) 6))), (6, .int (nI i)), (7, .int (ce sc Ln (0 + 1 + i))), (8, .int (nI (9 * i)))]) C dL_build_367 9 rfl (nI_1 k) (by decide) rfl ?_
                                  refine z_goto (tgt := 241) C dL_build_370 (by decide) ?_
                                  refine z_sub (L' := [(0, .ref (ad 33)), (1, .ref (b)), (2, .int (nI 0)), (3, .int (nI 6)), (4, .ref (ad 34)), (5, .int (nI (1 + bl (ce sc Ln 0) 6))), (6, .int (nI i)), (7, .int (ce sc Ln (0 + 1 + i))), (8, .int (nI (9 * i))), (9, .int (nI (k + 1)))]) [1, 2, 3, 4, 5, 6, 7, 8, 9, 0] rfl ?_
                                  exact ih241 (k + 1) (aaB B2 i (2 * (v / 2) + b2)) u355 (xs A3 34 (9 * i + 5 + k) (nI v)) (by omega) (by omega) hI4 (fun j hj => by rw [aaB_5]; exact hf3 j hj) (by rw [aaB_4, h4]) (by rw [aaB_j (by decide) (by decide)]; exact h3) ⟨by rw [xs_j (by omega)]; exact hA3.1, by rw [xs_j (by omega)]; exact hA3.2⟩
                                · skip
                                  have zn362 := zeq_f (a := k + 1) (b := k + 1) zc362
                                  exact False.elim (zn362 rfl)
                              refine z_icmp_ne (tgt := 354) C dL_build_347 (by decide) (fun zc347 => ?_) (fun zc347 => ?_)
                              · skip
                                have zn347 := zeq_f (a := v % 2) (b := 1) zc347
                                refine z_iconst (v := nI 0) C (by decide) dL_build_354 ?_
                                refine z_sub (L' := [(0, .ref (ad 33)), (1, .ref (b)), (2, .int (nI 0)), (3, .int (nI 6)), (4, .ref (ad 34)), (5, .int (nI (1 + bl (ce sc Ln 0) 6))), (6, .int (nI i)), (7, .int (ce sc Ln (0 + 1 + i))), (8, .int (nI (9 * i))), (9, .int (nI k))]) [0, 1, 2, 3, 4, 5, 6, 7, 8, 9] rfl ?_
                                exact join355 0 (by decide)
                              · skip
                                have zn347 := zeq_t (a := v % 2) (b := 1) (by omega) (by omega) zc347
                                refine z_iconst (v := nI 1) C (by decide) dL_build_350 ?_
                                refine z_goto (tgt := 355) C dL_build_351 (by decide) ?_
                                refine z_sub (L' := [(0, .ref (ad 33)), (1, .ref (b)), (2, .int (nI 0)), (3, .int (nI 6)), (4, .ref (ad 34)), (5, .int (nI (1 + bl (ce sc Ln 0) 6))), (6, .int (nI i)), (7, .int (ce sc Ln (0 + 1 + i))), (8, .int (nI (9 * i))), (9, .int (nI k))]) [0, 1, 2, 3, 4, 5, 6, 7, 8, 9] rfl ?_
                                exact join355 1 (by decide)
                            refine z_if_ne (tgt := 299) C dL_build_276 (by decide) (fun zc276 => ?_) (fun zc276 => ?_)
                            · skip
                              refine z_iconst (v := nI 1) C (by decide) dL_build_299 ?_
                              refine z_iconst (v := nI 2) C (by decide) dL_build_300 ?_
                              refine z_iload C dL_build_301 7 rfl ?_
                              refine z_bipush (v := nI 17) C (by decide) dL_build_303 ?_
                              refine z_iconst (v := nI 4) C (by decide) dL_build_305 ?_
                              refine z_iload C dL_build_306 9 rfl ?_
                              refine z_imul C dL_build_308 ?_
                              refine z_topi (y := nI (4 * k)) (pk_mul 4 k) ?_
                              refine z_iadd C dL_build_309 ?_
                              refine z_topi (y := nI (17 + (4 * k))) (nI_add 17 (4 * k)) ?_
                              refine z_ishr C dL_build_310 ?_
                              refine z_bipush (v := nI 6) C (by decide) dL_build_311 ?_
                              refine z_callSi pX_ok C hml hown hts hK hX (c_L_below l D ad cI cL cR cc9 35 Ln b sc hI (by decide) ((ce sc Ln (0 + 1 + i)) >>> ((nI (17 + (4 * k)) : Int32) &&& 31)) 6 (by decide) (by decide) ((w2, A3))) (va_cwS 2 hts gL_build_L_below rfl rfl rfl (by decide +kernel) ⟨Nat.le_of_ble_eq_true rfl, Nat.le_of_ble_eq_true rfl⟩) rfl (st := [.int (nI 2), .int (nI 1), .int (nI (((9 * i) + 5) + k)), .ref (ad 34)]) rfl (Nat.le_of_ble_eq_true rfl) dL_build_313 ⟨Nat.le_of_ble_eq_true rfl, Nat.le_of_ble_eq_true rfl⟩ (fun r313 z313 h313 => ?_)
                              obtain ⟨e313, f313⟩ := h313
                              subst e313
                              subst f313
                              refine z_imul C dL_build_316 ?_
                              refine z_topi (y := nI (2 * (bl ((ce sc Ln (0 + 1 + i)) >>> ((nI (17 + (4 * k)) : Int32) &&& 31)) 6))) (pk_mul 2 (bl ((ce sc Ln (0 + 1 + i)) >>> ((nI (17 + (4 * k)) : Int32) &&& 31)) 6)) ?_
                              refine z_iadd C dL_build_317 ?_
                              refine z_topi (y := nI (1 + (2 * (bl ((ce sc Ln (0 + 1 + i)) >>> ((nI (17 + (4 * k)) : Int32) &&& 31)) 6)))) (nI_add 1 (2 * (bl ((ce sc Ln (0 + 1 + i)) >>> ((nI (17 + (4 * k)) : Int32) &&& 31)) 6))) ?_
                              refine z_sub (L' := [(0, .ref (ad 33)), (1, .ref (b)), (2, .int (nI 0)), (3, .int (nI 6)), (4, .ref (ad 34)), (5, .int (nI (1 + bl (ce sc Ln 0) 6))), (6, .int (nI i)), (7, .int (ce sc Ln (0 + 1 + i))), (8, .int (nI (9 * i))), (9, .int (nI k))]) [0, 1, 2, 3, 4, 5, 6, 7, 8, 9] rfl ?_
                              exact join318 (1 + (2 * (bl ((ce sc Ln (0 + 1 + i)) >>> ((nI (17 + (4 * k)) : Int32) &&& 31)) 6))) (bl2b _)
                            · skip
                              refine z_iconst (v := nI 2) C (by decide) dL_build_279 ?_
                              refine z_iload C dL_build_280 7 rfl ?_
                              refine z_bipush (v := nI 17) C (by decide) dL_build_282 ?_
                              refine z_iconst (v := nI 4) C (by decide) dL_build_284 ?_
                              refine z_iload C dL_build_285 9 rfl ?_
                              refine z_imul C dL_build_287 ?_
                              refine z_topi (y := nI (4 * k)) (pk_mul 4 k) ?_
                              refine z_iadd C dL_build_288 ?_
                              refine z_topi (y := nI (17 + (4 * k))) (nI_add 17 (4 * k)) ?_
                              refine z_ishr C dL_build_289 ?_
                              refine z_bipush (v := nI 6) C (by decide) dL_build_290 ?_
                              refine z_callSi pX_ok C hml hown hts hK hX (c_L_below l D ad cI cL cR cc9 35 Ln b sc hI (by decide) ((ce sc Ln (0 + 1 + i)) >>> ((nI (17 + (4 * k)) : Int32) &&& 31)) 6 (by decide) (by decide) ((w2, A3))) (va_cwS 2 hts gL_build_L_below rfl rfl rfl (by decide +kernel) ⟨Nat.le_of_ble_eq_true rfl, Nat.le_of_ble_eq_true rfl⟩) rfl (st := [.int (nI 2), .int (nI (((9 * i) + 5) + k)), .ref (ad 34)]) rfl (Nat.le_of_ble_eq_true rfl) dL_build_292 ⟨Nat.le_of_ble_eq_true rfl, Nat.le_of_ble_eq_true rfl⟩ (fun r292 z292 h292 => ?_)
                              obtain ⟨e292, f292⟩ := h292
                              subst e292
                              subst f292
                              refine z_imul C dL_build_295 ?_
                              refine z_topi (y := nI (2 * (bl ((ce sc Ln (0 + 1 + i)) >>> ((nI (17 + (4 * k)) : Int32) &&& 31)) 6))) (pk_mul 2 (bl ((ce sc Ln (0 + 1 + i)) >>> ((nI (17 + (4 * k)) : Int32) &&& 31)) 6)) ?_
                              refine z_goto (tgt := 318) C dL_build_296 (by decide) ?_
                              refine z_sub (L' := [(0, .ref (ad 33)), (1, .ref (b)), (2, .int (nI 0)), (3, .int (nI 6)), (4, .ref (ad 34)), (5, .int (nI (1 + bl (ce sc Ln 0) 6))), (6, .int (nI i)), (7, .int (ce sc Ln (0 + 1 + i))), (8, .int (nI (9 * i))), (9, .int (nI k))]) [0, 1, 2, 3, 4, 5, 6, 7, 8, 9] rfl ?_
                              exact join318 (2 * (bl ((ce sc Ln (0 + 1 + i)) >>> ((nI (17 + (4 * k)) : Int32) &&& 31)) 6)) (bl2a _)
                      refine z_sub (L' := [(0, .ref (ad 33)), (1, .ref (b)), (2, .int (nI 0)), (3, .int (nI 6)), (4, .ref (ad 34)), (5, .int (nI (1 + bl (ce sc Ln 0) 6))), (6, .int (nI i)), (7, .int (ce sc Ln (0 + 1 + i))), (8, .int (nI (9 * i))), (9, .int (nI 0))]) [1, 2, 3, 4, 5, 6, 7, 8, 9, 0] rfl ?_
                      exact loop241 (na + 1) 0 (apB B i (2 * (e / 2) + bb) a1 a2) u228 A2 (by omega) (Nat.zero_le _) hI2 hz5 hz4 hz3 ⟨hA.2.2.2.1, hA.2.2.2.2⟩
                    · skip
                      have zn233 := zeq_f (a := i) (b := i) zc233
                      exact False.elim (zn233 rfl)
                  refine z_icmp_ne (tgt := 213) C dL_build_206 (by decide) (fun zc206 => ?_) (fun zc206 => ?_)
                  · skip
                    have zn206 := zeq_f (a := e % 2) (b := 1) zc206
                    refine z_iconst (v := nI 0) C (by decide) dL_build_213 ?_
                    refine z_sub (L' := [(0, .ref (ad 33)), (1, .ref (b)), (2, .int (nI 0)), (3, .int (nI 6)), (4, .ref (ad 34)), (5, .int (nI (1 + bl (ce sc Ln 0) 6))), (6, .int (nI i)), (7, .int (ce sc Ln (0 + 1 + i))), (8, .int (nI (9 * i)))]) [0, 1, 2, 3, 4, 5, 6, 7, 8] rfl ?_
                    exact join214 0 (by decide)
                  · skip
                    have zn206 := zeq_t (a := e % 2) (b := 1) (by omega) (by omega) zc206
                    refine z_iconst (v := nI 1) C (by decide) dL_build_209 ?_
                    refine z_goto (tgt := 214) C dL_build_210 (by decide) ?_
                    refine z_sub (L' := [(0, .ref (ad 33)), (1, .ref (b)), (2, .int (nI 0)), (3, .int (nI 6)), (4, .ref (ad 34)), (5, .int (nI (1 + bl (ce sc Ln 0) 6))), (6, .int (nI i)), (7, .int (ce sc Ln (0 + 1 + i))), (8, .int (nI (9 * i)))]) [0, 1, 2, 3, 4, 5, 6, 7, 8] rfl ?_
                    exact join214 1 (by decide)
                refine z_iast (q := 34) (len := 72) (k := (9 * i) + 4) C hI hK (by decide) rfl 0 rfl (rfl) (by omega) (by decide) (f' := PF ad cI cL cR cc9 (w, (xs ((xs ((xs (xs (xs A 34 (9 * i) (nI e)) 34 (9 * i + 1) (nI a1)) 34 (9 * i + 2) (nI a2))) 34 (9 * i + 3) (nI on))) 34 ((9 * i) + 4) (nI (bl ((ce sc Ln (0 + 1 + i)) >>> ((nI 15 : Int32) &&& 31)) 4))))) rfl (PF_ne (by decide)) dL_build_189 ?_
                refine z_sub (L' := [(0, .ref (ad 33)), (1, .ref (b)), (2, .int (nI 0)), (3, .int (nI 6)), (4, .ref (ad 34)), (5, .int (nI (1 + bl (ce sc Ln 0) 6))), (6, .int (nI i)), (7, .int (ce sc Ln (0 + 1 + i))), (8, .int (nI (9 * i)))]) [0, 1, 2, 3, 4, 5, 6, 7, 8] rfl ?_
                exact join190 (xs ((xs ((xs (xs (xs A 34 (9 * i) (nI e)) 34 (9 * i + 1) (nI a1)) 34 (9 * i + 2) (nI a2))) 34 (9 * i + 3) (nI on))) 34 ((9 * i) + 4) (nI (bl ((ce sc Ln (0 + 1 + i)) >>> ((nI 15 : Int32) &&& 31)) 4))) (bl ((ce sc Ln (0 + 1 + i)) >>> ((nI 15 : Int32) &&& 31)) 4) (rw5 _ _ _ _ _) (bl_lt _ (by decide))
              refine z_if_ne (tgt := 172) C dL_build_165 (by decide) (fun zc165 => ?_) (fun zc165 => ?_)
              · skip
                have zn165 := z0_f zc165
                refine z_iconst (v := nI 1) C (by decide) dL_build_172 ?_
                refine z_sub (L' := [(0, .ref (ad 33)), (1, .ref (b)), (2, .int (nI 0)), (3, .int (nI 6)), (4, .ref (ad 34)), (5, .int (nI (1 + bl (ce sc Ln 0) 6))), (6, .int (nI i)), (7, .int (ce sc Ln (0 + 1 + i))), (8, .int (nI (9 * i)))]) [0, 1, 2, 3, 4, 5, 6, 7, 8] rfl ?_
                exact join173 1 (by decide)
              · skip
                have zn165 := z0_t (by omega) zc165
                refine z_iconst (v := nI 0) C (by decide) dL_build_168 ?_
                refine z_goto (tgt := 173) C dL_build_169 (by decide) ?_
                refine z_sub (L' := [(0, .ref (ad 33)), (1, .ref (b)), (2, .int (nI 0)), (3, .int (nI 6)), (4, .ref (ad 34)), (5, .int (nI (1 + bl (ce sc Ln 0) 6))), (6, .int (nI i)), (7, .int (ce sc Ln (0 + 1 + i))), (8, .int (nI (9 * i)))]) [0, 1, 2, 3, 4, 5, 6, 7, 8] rfl ?_
                exact join173 0 (by decide)
            refine z_if_ne (tgt := 147) C dL_build_129 (by decide) (fun zc129 => ?_) (fun zc129 => ?_)
            · skip
              have zn129 := z0_f zc129
              refine z_iconst (v := nI 0) C (by decide) dL_build_147 ?_
              refine z_sub (L' := [(0, .ref (ad 33)), (1, .ref (b)), (2, .int (nI 0)), (3, .int (nI 6)), (4, .ref (ad 34)), (5, .int (nI (1 + bl (ce sc Ln 0) 6))), (6, .int (nI i)), (7, .int (ce sc Ln (0 + 1 + i))), (8, .int (nI (9 * i)))]) [0, 1, 2, 3, 4, 5, 6, 7, 8] rfl ?_
              exact join148 0 (by decide)
            · skip
              have zn129 := z0_t (by omega) zc129
              refine z_iconst (v := nI 1) C (by decide) dL_build_132 ?_
              refine z_iload C dL_build_133 7 rfl ?_
              refine z_bipush (v := nI 11) C (by decide) dL_build_135 ?_
              refine z_ishr C dL_build_137 ?_
              refine z_bipush (v := nI 6) C (by decide) dL_build_138 ?_
              refine z_callSi pX_ok C hml hown hts hK hX (c_L_below l D ad cI cL cR cc9 35 Ln b sc hI (by decide) ((ce sc Ln (0 + 1 + i)) >>> ((nI 11 : Int32) &&& 31)) 6 (by decide) (by decide) ((w, (xs ((xs A 34 (9 * i) (nI e))) 34 (9 * i + 1) (nI a1))))) (va_cwS 2 hts gL_build_L_below rfl rfl rfl (by decide +kernel) ⟨Nat.le_of_ble_eq_true rfl, Nat.le_of_ble_eq_true rfl⟩) rfl (st := [.int (nI 1), .int (nI ((9 * i) + 2)), .ref (ad 34)]) rfl (Nat.le_of_ble_eq_true rfl) dL_build_140 ⟨Nat.le_of_ble_eq_true rfl, Nat.le_of_ble_eq_true rfl⟩ (fun r140 z140 h140 => ?_)
              obtain ⟨e140, f140⟩ := h140
              subst e140
              subst f140
              refine z_ishl C dL_build_143 ?_
              refine z_topi (y := nI (2 ^ (bl ((ce sc Ln (0 + 1 + i)) >>> ((nI 11 : Int32) &&& 31)) 6))) (zi_shl1 (by have := bl_lt ((ce sc Ln (0 + 1 + i)) >>> ((nI 11 : Int32) &&& 31)) (m := 6) (by decide); omega)) ?_
              refine z_goto (tgt := 148) C dL_build_144 (by decide) ?_
              refine z_sub (L' := [(0, .ref (ad 33)), (1, .ref (b)), (2, .int (nI 0)), (3, .int (nI 6)), (4, .ref (ad 34)), (5, .int (nI (1 + bl (ce sc Ln 0) 6))), (6, .int (nI i)), (7, .int (ce sc Ln (0 + 1 + i))), (8, .int (nI (9 * i)))]) [0, 1, 2, 3, 4, 5, 6, 7, 8] rfl ?_
              exact join148 (2 ^ (bl ((ce sc Ln (0 + 1 + i)) >>> ((nI 11 : Int32) &&& 31)) 6)) (pow_lt6 (bl_lt _ (by decide)))
          refine z_if_ne (tgt := 112) C dL_build_94 (by decide) (fun zc94 => ?_) (fun zc94 => ?_)
          · skip
            have zn94 := z0_f zc94
            refine z_iconst (v := nI 0) C (by decide) dL_build_112 ?_
            refine z_sub (L' := [(0, .ref (ad 33)), (1, .ref (b)), (2, .int (nI 0)), (3, .int (nI 6)), (4, .ref (ad 34)), (5, .int (nI (1 + bl (ce sc Ln 0) 6))), (6, .int (nI i)), (7, .int (ce sc Ln (0 + 1 + i))), (8, .int (nI (9 * i)))]) [0, 1, 2, 3, 4, 5, 6, 7, 8] rfl ?_
            exact join113 0 (by decide)
          · skip
            have zn94 := z0_t (by omega) zc94
            refine z_iconst (v := nI 1) C (by decide) dL_build_97 ?_
            refine z_iload C dL_build_98 7 rfl ?_
            refine z_bipush (v := nI 7) C (by decide) dL_build_100 ?_
            refine z_ishr C dL_build_102 ?_
            refine z_bipush (v := nI 6) C (by decide) dL_build_103 ?_
            refine z_callSi pX_ok C hml hown hts hK hX (c_L_below l D ad cI cL cR cc9 35 Ln b sc hI (by decide) ((ce sc Ln (0 + 1 + i)) >>> ((nI 7 : Int32) &&& 31)) 6 (by decide) (by decide) ((w, (xs A 34 (9 * i) (nI e))))) (va_cwS 2 hts gL_build_L_below rfl rfl rfl (by decide +kernel) ⟨Nat.le_of_ble_eq_true rfl, Nat.le_of_ble_eq_true rfl⟩) rfl (st := [.int (nI 1), .int (nI ((9 * i) + 1)), .ref (ad 34)]) rfl (Nat.le_of_ble_eq_true rfl) dL_build_105 ⟨Nat.le_of_ble_eq_true rfl, Nat.le_of_ble_eq_true rfl⟩ (fun r105 z105 h105 => ?_)
            obtain ⟨e105, f105⟩ := h105
            subst e105
            subst f105
            refine z_ishl C dL_build_108 ?_
            refine z_topi (y := nI (2 ^ (bl ((ce sc Ln (0 + 1 + i)) >>> ((nI 7 : Int32) &&& 31)) 6))) (zi_shl1 (by have := bl_lt ((ce sc Ln (0 + 1 + i)) >>> ((nI 7 : Int32) &&& 31)) (m := 6) (by decide); omega)) ?_
            refine z_goto (tgt := 113) C dL_build_109 (by decide) ?_
            refine z_sub (L' := [(0, .ref (ad 33)), (1, .ref (b)), (2, .int (nI 0)), (3, .int (nI 6)), (4, .ref (ad 34)), (5, .int (nI (1 + bl (ce sc Ln 0) 6))), (6, .int (nI i)), (7, .int (ce sc Ln (0 + 1 + i))), (8, .int (nI (9 * i)))]) [0, 1, 2, 3, 4, 5, 6, 7, 8] rfl ?_
            exact join113 (2 ^ (bl ((ce sc Ln (0 + 1 + i)) >>> ((nI 7 : Int32) &&& 31)) 6)) (pow_lt6 (bl_lt _ (by decide)))
        refine z_if_ne (tgt := 70) C dL_build_52 (by decide) (fun zc52 => ?_) (fun zc52 => ?_)
        · skip
          have zn52 := z0_f zc52
          refine z_iload C dL_build_70 1 rfl ?_
          refine z_iconst (v := nI 1) C (by decide) dL_build_72 ?_
          refine z_ishr C dL_build_73 ?_
          refine z_bipush (v := nI 12) C (by decide) dL_build_74 ?_
          refine z_callSi pX_ok C hml hown hts hK hX (c_L_below l D ad cI cL cR cc9 35 Ln b sc hI (by decide) ((ce sc Ln ((0 + 1) + i)) >>> ((nI 1 : Int32) &&& 31)) 12 (by decide) (by decide) ((w, A))) (va_cwS 2 hts gL_build_L_below rfl rfl rfl (by decide +kernel) ⟨Nat.le_of_ble_eq_true rfl, Nat.le_of_ble_eq_true rfl⟩) rfl (st := [.int (nI (9 * i)), .ref (ad 34)]) rfl (Nat.le_of_ble_eq_true rfl) dL_build_76 ⟨Nat.le_of_ble_eq_true rfl, Nat.le_of_ble_eq_true rfl⟩ (fun r76 z76 h76 => ?_)
          obtain ⟨e76, f76⟩ := h76
          subst e76
          subst f76
          refine z_sub (L' := [(0, .ref (ad 33)), (1, .ref (b)), (2, .int (nI 0)), (3, .int (nI 6)), (4, .ref (ad 34)), (5, .int (nI (1 + bl (ce sc Ln 0) 6))), (6, .int (nI i)), (7, .int (ce sc Ln ((0 + 1) + i))), (8, .int (nI (9 * i)))]) [2, 3, 4, 5, 6, 7, 8, 1, 0] rfl ?_
          exact join79 (bl ((ce sc Ln ((0 + 1) + i)) >>> ((nI 1 : Int32) &&& 31)) 12) (by have := bl_lt ((ce sc Ln (0 + 1 + i)) >>> ((nI 1 : Int32) &&& 31)) (m := 12) (by decide); omega)
        · skip
          have zn52 := z0_t (by omega) zc52
          refine z_iconst (v := nI 1) C (by decide) dL_build_55 ?_
          refine z_iconst (v := nI 2) C (by decide) dL_build_56 ?_
          refine z_iload C dL_build_57 1 rfl ?_
          refine z_iconst (v := nI 1) C (by decide) dL_build_59 ?_
          refine z_ishr C dL_build_60 ?_
          refine z_iconst (v := nI 4) C (by decide) dL_build_61 ?_
          refine z_callSi pX_ok C hml hown hts hK hX (c_L_below l D ad cI cL cR cc9 35 Ln b sc hI (by decide) ((ce sc Ln ((0 + 1) + i)) >>> ((nI 1 : Int32) &&& 31)) 4 (by decide) (by decide) ((w, A))) (va_cwS 2 hts gL_build_L_below rfl rfl rfl (by decide +kernel) ⟨Nat.le_of_ble_eq_true rfl, Nat.le_of_ble_eq_true rfl⟩) rfl (st := [.int (nI 2), .int (nI 1), .int (nI (9 * i)), .ref (ad 34)]) rfl (Nat.le_of_ble_eq_true rfl) dL_build_62 ⟨Nat.le_of_ble_eq_true rfl, Nat.le_of_ble_eq_true rfl⟩ (fun r62 z62 h62 => ?_)
          obtain ⟨e62, f62⟩ := h62
          subst e62
          subst f62
          refine z_imul C dL_build_65 ?_
          refine z_topi (y := nI (2 * (bl ((ce sc Ln ((0 + 1) + i)) >>> ((nI 1 : Int32) &&& 31)) 4))) (pk_mul 2 (bl ((ce sc Ln ((0 + 1) + i)) >>> ((nI 1 : Int32) &&& 31)) 4)) ?_
          refine z_iadd C dL_build_66 ?_
          refine z_topi (y := nI (1 + (2 * (bl ((ce sc Ln ((0 + 1) + i)) >>> ((nI 1 : Int32) &&& 31)) 4)))) (nI_add 1 (2 * (bl ((ce sc Ln ((0 + 1) + i)) >>> ((nI 1 : Int32) &&& 31)) 4))) ?_
          refine z_goto (tgt := 79) C dL_build_67 (by decide) ?_
          refine z_sub (L' := [(0, .ref (ad 33)), (1, .ref (b)), (2, .int (nI 0)), (3, .int (nI 6)), (4, .ref (ad 34)), (5, .int (nI (1 + bl (ce sc Ln 0) 6))), (6, .int (nI i)), (7, .int (ce sc Ln ((0 + 1) + i))), (8, .int (nI (9 * i)))]) [2, 3, 4, 5, 6, 7, 8, 1, 0] rfl ?_
          exact join79 (1 + (2 * (bl ((ce sc Ln ((0 + 1) + i)) >>> ((nI 1 : Int32) &&& 31)) 4))) (by have := bl_lt ((ce sc Ln (0 + 1 + i)) >>> ((nI 1 : Int32) &&& 31)) (m := 4) (by decide); omega)
  refine z_sub (L' := [(0, .ref (ad 33)), (1, .ref (b)), (2, .int (nI 0)), (3, .int (nI 6)), (4, .ref (ad 34)), (5, .int (nI (1 + (bl (ce sc Ln 0) 6)))), (6, .int (nI 0))]) [2, 3, 4, 5, 6, 1, 0] rfl ?_
  exact loop16 (1 + bl (ce sc Ln 0) 6 + 1) 0 B00 u00 A0 (by omega) (Nat.zero_le _) xI_00 (fun _ _ => rfl)
