set_option maxHeartbeats 4000000 in
set_option maxRecDepth 100000 in
theorem lg_F {pq : Program} {l : Launch} {lq : Env} {sq : State} {mq : MethodId} {bq : List Frame} {hmq : Method} {cq : Code} {D : va_G} {ad : Nat → Nat} {cI cL cR : ClassId} {b Ln : Nat} {sc : Nat → Int32} (C0 : LQ9 pq l sq mq hmq cq D 39 ad cI cL cR b Ln sc) {cc9 mm : Nat} {u A : xS} {B : Nat → Nat → Nat} {x : Nat} {S D9 N : Nat → Nat} (hG : xG u mm B x cc9 S D9 N) {t5 : Int32} (ht5 : u.1 28 5 = t5) (h36 : ∀ j, j < cc9 → A.1 36 j = nI (S j % 64)) (h37 : ∀ j, j < cc9 → A.1 37 j = nI (S j / 64)) (h38 : ∀ j, j < cc9 → A.1 38 j = nxI (aD N j 0 mm)) : ZZ pq l lq room_1 sq mq #[Value.ref b] bq hmq cq D vwCl 39 ad 16 70 40000 (lw_Z bq #[Value.ref b] sq) (PF ad cI cL cR cc9 (u, A)) [(0, .ref (b)), (1, .ref (ad 33)), (2, .int (nI mm)), (7, .int (nI cc9)), (8, .int (t5)), (9, .ref (ad 36)), (10, .ref (ad 37)), (11, .ref (ad 38))] 458 [] := by
  have C00 := C0
  obtain ⟨CA, hA9, C, hml, hown, hts, hK, hX, hI, hst0⟩ := C0
  obtain ⟨hX0, hcst, hXs, hbl, hbA, hL9⟩ := id hX
  have hB : gB mm B := hG.1.1
  have hn8 : mm ≤ 8 := hB.1
  have hc := xG_c hG
  have hf := xG_f hG
  refine z_aload_n C dL_law_458 1 rfl ?_
  refine z_callVi (q := 33) pX_ok C hml hown hts hK hX (fun sz => z_liftI (σ := id) (F := fun u9 => PF ad cI cL cR cc9 (u9, A)) (F1 := xF ad cI cL cR) (f1 := xF ad cI cL cR u) (pL (by decide) hI) (fun _ h => h) (pX_x (by decide)) (fun k hk => PF_x k hk) (fun _ k hk => PF_x k hk) PF_x2 (fun _ _ h => h) (c_X6_longest l D ad cI cL cR (gI_n (by decide) hI) u (xG_8 hG) (xG_9 hG) sz)) (cwV 0 hts gL_law_X6_longest rfl rfl rfl (by decide +kernel) ⟨Nat.le_of_ble_eq_true rfl, Nat.le_of_ble_eq_true rfl⟩) (by decide) (ci := 6) rfl rfl rfl (st := []) rfl (Nat.le_of_ble_eq_true rfl) dL_law_459 ⟨by show 70 + 0 ≤ 600104; omega, by show 40000 + 0 ≤ 7301314; omega⟩ (fun r459 u459 h459 => ?_)
  obtain ⟨e459, f459⟩ := h459
  subst e459
  subst u459
  refine z_istore (L' := [(12, .int ((if u.1 28 5 = 0 then -1 else u.1 28 6))), (0, .ref (b)), (1, .ref (ad 33)), (2, .int (nI mm)), (7, .int (nI cc9)), (8, .int (t5)), (9, .ref (ad 36)), (10, .ref (ad 37)), (11, .ref (ad 38))]) C dL_law_462 (by decide) rfl ?_
  refine z_iconst (v := nI 0) C (by decide) dL_law_464 ?_
  refine z_istore (L' := [(13, .int (nI 0)), (12, .int ((if u.1 28 5 = 0 then -1 else u.1 28 6))), (0, .ref (b)), (1, .ref (ad 33)), (2, .int (nI mm)), (7, .int (nI cc9)), (8, .int (t5)), (9, .ref (ad 36)), (10, .ref (ad 37)), (11, .ref (ad 38))]) C dL_law_465 (by decide) rfl ?_
  refine z_aload_n C dL_law_467 2 rfl ?_
  refine z_bipush (v := nI 17) C (by decide) dL_law_468 ?_
  refine z_callSi pX_ok C hml hown hts hK hX (c_L_cell l D ad cI cL cR cc9 39 Ln b sc hI (by decide) 17 (by decide) ((u, A))) (va_cwS 2 hts gL_law_L_cell rfl rfl rfl (by decide +kernel) ⟨Nat.le_of_ble_eq_true rfl, Nat.le_of_ble_eq_true rfl⟩) rfl (st := []) rfl (Nat.le_of_ble_eq_true rfl) dL_law_470 ⟨by show 70 + 0 ≤ 600104; omega, by show 40000 + 0 ≤ 7301314; omega⟩ (fun r470 z470 h470 => ?_)
  obtain ⟨e470, f470⟩ := h470
  subst e470
  subst f470
  refine z_bipush (v := nI 40) C (by decide) dL_law_473 ?_
  refine z_callSi pX_ok C hml hown hts hK hX (c_L_below l D ad cI cL cR cc9 39 Ln b sc hI (by decide) (ce sc Ln 17) 40 (by decide) (by decide) ((u, A))) (va_cwS 2 hts gL_law_L_below rfl rfl rfl (by decide +kernel) ⟨Nat.le_of_ble_eq_true rfl, Nat.le_of_ble_eq_true rfl⟩) rfl (st := []) rfl (Nat.le_of_ble_eq_true rfl) dL_law_475 ⟨by show 70 + 0 ≤ 600104; omega, by show 40000 + 0 ≤ 7301314; omega⟩ (fun r475 z475 h475 => ?_)
  obtain ⟨e475, f475⟩ := h475
  subst e475
  subst f475
  refine z_istore (L' := [(14, .int (nI (bl (ce sc Ln 17) 40))), (13, .int (nI 0)), (12, .int ((if u.1 28 5 = 0 then -1 else u.1 28 6))), (0, .ref (b)), (1, .ref (ad 33)), (2, .int (nI mm)), (7, .int (nI cc9)), (8, .int (t5)), (9, .ref (ad 36)), (10, .ref (ad 37)), (11, .ref (ad 38))]) C dL_law_478 (by decide) rfl ?_
  refine z_iconst (v := nI 0) C (by decide) dL_law_480 ?_
  refine z_istore (L' := [(15, .int (nI 0)), (14, .int (nI (bl (ce sc Ln 17) 40))), (13, .int (nI 0)), (12, .int ((if u.1 28 5 = 0 then -1 else u.1 28 6))), (0, .ref (b)), (1, .ref (ad 33)), (2, .int (nI mm)), (7, .int (nI cc9)), (8, .int (t5)), (9, .ref (ad 36)), (10, .ref (ad 37)), (11, .ref (ad 38))]) C dL_law_481 (by decide) rfl ?_
  have loop483 : ∀ (d483 : Nat) (p9 a : Nat), bl (ce sc Ln 17) 40 - p9 < d483 → (p9 ≤ bl (ce sc Ln 17) 40) → (rI B x cc9 S N p9 a) → ZZ pq l lq room_1 sq mq #[Value.ref b] bq hmq cq D vwCl 39 ad 16 70 40000 (lw_Z bq #[Value.ref b] sq) (PF ad cI cL cR cc9 (u, A)) [(0, .ref (b)), (1, .ref (ad 33)), (2, .int (nI mm)), (7, .int (nI cc9)), (8, .int (t5)), (9, .ref (ad 36)), (10, .ref (ad 37)), (11, .ref (ad 38)), (12, .int ((if u.1 28 5 = 0 then -1 else u.1 28 6))), (13, .int (nI a)), (14, .int (nI (bl (ce sc Ln 17) 40))), (15, .int (nI p9))] 483 [] := by
    intro d483
    induction d483 with
    | zero => intro p9 a hz; exact absurd hz (Nat.not_lt_zero _)
    | succ d483 ih483 =>
      intro p9 a hz483 hp hr
      have hM := bl_lt (ce sc Ln 17) (m := 40) (by decide)
      have hac := hr.1
      refine z_iload C dL_law_483 11 rfl ?_
      refine z_iload C dL_law_485 10 rfl ?_
      have join511 : ∀ (dm : Nat), (p9 = bl (ce sc Ln 17) 40 ∨ aD N a 0 mm = 0) → ZZ pq l lq room_1 sq mq #[Value.ref b] bq hmq cq D vwCl 39 ad 16 70 40000 (lw_Z bq #[Value.ref b] sq) (PF ad cI cL cR cc9 (u, A)) [(0, .ref (b)), (1, .ref (ad 33)), (2, .int (nI mm)), (7, .int (nI cc9)), (8, .int (t5)), (9, .ref (ad 36)), (10, .ref (ad 37)), (11, .ref (ad 38)), (12, .int ((if u.1 28 5 = 0 then -1 else u.1 28 6))), (13, .int (nI a)), (14, .int (nI (bl (ce sc Ln 17) 40))), (15, .int (nI p9))] 511 [] := by
        intro dm hex
        refine z_aload_n C dL_law_511 1 rfl ?_
        refine z_iload C dL_law_512 10 rfl ?_
        refine z_callVi (q := 33) pX_ok C hml hown hts hK hX (fun sz => z_liftI (σ := id) (F := fun u9 => PF ad cI cL cR cc9 (u9, A)) (F1 := xF ad cI cL cR) (f1 := xF ad cI cL cR u) (pL (by decide) hI) (fun _ h => h) (pX_x (by decide)) (fun k hk => PF_x k hk) (fun _ k hk => PF_x k hk) PF_x2 (fun _ _ h => h) (c_X6_run l D ad cI cL cR (gI_n (by decide) hI) u mm B hG.1 x (by have := pn8 hn8; have := hG.2.1; omega) hG.2.2.1 (bl (ce sc Ln 17) 40) (by omega) sz)) (cwV 1 hts gL_law_X6_run rfl rfl rfl (by decide +kernel) ⟨Nat.le_of_ble_eq_true rfl, Nat.le_of_ble_eq_true rfl⟩) (by decide) (ci := 6) rfl rfl rfl (st := []) rfl (Nat.le_of_ble_eq_true rfl) dL_law_514 ⟨by show 70 + 0 ≤ 600104; omega, by show 40000 + 0 ≤ 7301314; omega⟩ (fun r514 u514 h514 => ?_)
        obtain ⟨k9, q1, q2, q3, e514, q5, q6⟩ := h514
        obtain ⟨v1, v2⟩ := v_run hB hf.1 hr hp hex q1 q2 q3
        rw [v1] at e514
        rw [v2] at q5
        subst e514
        have hSa := xG_S hG hr.1
        refine z_iload C dL_law_517 11 rfl ?_
        refine z_icmp_ne (tgt := 562) C dL_law_519 (by decide) (fun zc519 => ?_) (fun zc519 => ?_)
        · skip
          have zn519 := zeq_f (a := p9) (b := p9) zc519
          exact False.elim (zn519 rfl)
        · skip
          have zn519 := zeq_t (a := p9) (b := p9) (by omega) (by omega) zc519
          refine z_aload_n C dL_law_522 1 rfl ?_
          refine z_callVi (q := 33) pX_ok C hml hown hts hK hX (fun sz => z_liftI (σ := id) (F := fun u9 => PF ad cI cL cR cc9 (u9, A)) (F1 := xF ad cI cL cR) (f1 := xF ad cI cL cR u514) (pL (by decide) hI) (fun _ h => h) (pX_x (by decide)) (fun k hk => PF_x k hk) (fun _ k hk => PF_x k hk) PF_x2 (fun _ _ h => h) (c_X6_facts l D ad cI cL cR (gI_n (by decide) hI) u514 (S a) hSa q5 sz)) (cwV 0 hts gL_law_X6_facts rfl rfl rfl (by decide +kernel) ⟨Nat.le_of_ble_eq_true rfl, Nat.le_of_ble_eq_true rfl⟩) (by decide) (ci := 6) rfl rfl rfl (st := []) rfl (Nat.le_of_ble_eq_true rfl) dL_law_523 ⟨by show 70 + 0 ≤ 600104; omega, by show 40000 + 0 ≤ 7301314; omega⟩ (fun r523 u523 h523 => ?_)
          obtain ⟨e523, f523⟩ := h523
          subst e523
          subst u523
          refine z_aload C dL_law_526 5 rfl ?_
          refine z_iload C dL_law_528 9 rfl ?_
          refine z_iald (q := 36) (len := cc9) (k := a) C hK (by decide) rfl 0 rfl (rfl) (by omega) (by omega) dL_law_530 ?_
          refine z_topi (y := A.1 36 a) rfl ?_
          refine z_topi (y := nI (S a % 64)) (h36 _ hr.1) ?_
          refine z_icmp_ne (tgt := 562) C dL_law_531 (by decide) (fun zc531 => ?_) (fun zc531 => ?_)
          · skip
            have zn531 := zeq_f (a := S a % 64) (b := S a % 64) zc531
            exact False.elim (zn531 rfl)
          · skip
            have zn531 := zeq_t (a := S a % 64) (b := S a % 64) (by omega) (by omega) zc531
            refine z_aload_n C dL_law_534 1 rfl ?_
            refine z_callVi (q := 33) pX_ok C hml hown hts hK hX (fun sz => z_liftI (σ := id) (F := fun u9 => PF ad cI cL cR cc9 (u9, A)) (F1 := xF ad cI cL cR) (f1 := xF ad cI cL cR u514) (pL (by decide) hI) (fun _ h => h) (pX_x (by decide)) (fun k hk => PF_x k hk) (fun _ k hk => PF_x k hk) PF_x2 (fun _ _ h => h) (c_X6_triggered l D ad cI cL cR (gI_n (by decide) hI) u514 (S a) hSa q5 sz)) (cwV 0 hts gL_law_X6_triggered rfl rfl rfl (by decide +kernel) ⟨Nat.le_of_ble_eq_true rfl, Nat.le_of_ble_eq_true rfl⟩) (by decide) (ci := 6) rfl rfl rfl (st := []) rfl (Nat.le_of_ble_eq_true rfl) dL_law_535 ⟨by show 70 + 0 ≤ 600104; omega, by show 40000 + 0 ≤ 7301314; omega⟩ (fun r535 u535 h535 => ?_)
            obtain ⟨e535, f535⟩ := h535
            subst e535
            subst u535
            refine z_aload C dL_law_538 6 rfl ?_
            refine z_iload C dL_law_540 9 rfl ?_
            refine z_iald (q := 37) (len := cc9) (k := a) C hK (by decide) rfl 0 rfl (rfl) (by omega) (by omega) dL_law_542 ?_
            refine z_topi (y := A.1 37 a) rfl ?_
            refine z_topi (y := nI (S a / 64)) (h37 _ hr.1) ?_
            refine z_icmp_ne (tgt := 562) C dL_law_543 (by decide) (fun zc543 => ?_) (fun zc543 => ?_)
            · skip
              have zn543 := zeq_f (a := S a / 64) (b := S a / 64) zc543
              exact False.elim (zn543 rfl)
            · skip
              have zn543 := zeq_t (a := S a / 64) (b := S a / 64) (by omega) (by omega) zc543
              refine z_iload C dL_law_546 4 rfl ?_
              refine z_if_eq (tgt := 558) C dL_law_548 (by decide) (fun zc548 => ?_) (fun zc548 => ?_)
              · skip
                refine z_iconst (v := nI 1) C (by decide) dL_law_558 ?_
                refine z_goto (tgt := 563) C dL_law_559 (by decide) ?_
                refine z_widen (k := 600104) (q := 7301314) (by omega) (by omega) ?_
                exact law_ret CA hA9 dL_law_563
              · skip
                obtain ⟨l9, w1, w2, w3⟩ := v_long hf (fun z => zc548 (ht5.symm.trans z)) hr
                refine z_iload C dL_law_551 11 rfl ?_
                refine z_iload C dL_law_553 8 rfl ?_
                refine z_topi (y := nI l9) (by rw [if_neg (fun z => zc548 (ht5.symm.trans z))]; exact w1) ?_
                refine z_icmp_gt (tgt := 562) C dL_law_555 (by decide) (fun zc555 => ?_) (fun zc555 => ?_)
                · skip
                  have zn555 := zlt_t (a := l9) (b := p9) (by omega) (by omega) zc555
                  exact False.elim (by omega)
                · skip
                  have zn555 := zlt_f (a := l9) (b := p9) (by omega) (by omega) zc555
                  refine z_iconst (v := nI 1) C (by decide) dL_law_558 ?_
                  refine z_goto (tgt := 563) C dL_law_559 (by decide) ?_
                  refine z_widen (k := 600104) (q := 7301314) (by omega) (by omega) ?_
                  exact law_ret CA hA9 dL_law_563
      refine z_icmp_ge (tgt := 511) C dL_law_487 (by decide) (fun zc487 => ?_) (fun zc487 => ?_)
      · skip
        have zn487 := zge_t (a := p9) (b := bl (ce sc Ln 17) 40) (by omega) (by omega) zc487
        refine z_sub (L' := [(0, .ref (b)), (1, .ref (ad 33)), (2, .int (nI mm)), (7, .int (nI cc9)), (8, .int (t5)), (9, .ref (ad 36)), (10, .ref (ad 37)), (11, .ref (ad 38)), (12, .int ((if u.1 28 5 = 0 then -1 else u.1 28 6))), (13, .int (nI a)), (14, .int (nI (bl (ce sc Ln 17) 40))), (15, .int (nI p9))]) [0, 1, 2, 3, 4, 5, 6, 7, 8, 9, 10, 11] rfl ?_
        exact join511 0 (Or.inl (by omega))
      · skip
        have zn487 := zge_f (a := p9) (b := bl (ce sc Ln 17) 40) (by omega) (by omega) zc487
        refine z_aload C dL_law_490 7 rfl ?_
        refine z_iload C dL_law_492 9 rfl ?_
        refine z_iald (q := 38) (len := cc9) (k := a) C hK (by decide) rfl 0 rfl (rfl) (by omega) (by omega) dL_law_494 ?_
        refine z_topi (y := A.1 38 a) rfl ?_
        refine z_topi (y := nxI (aD N a 0 mm)) (h38 _ hr.1) ?_
        refine z_if_lt (tgt := 511) C dL_law_495 (by decide) (fun zc495 => ?_) (fun zc495 => ?_)
        · skip
          have hN9 : aD N a 0 mm = 0 := nx_ge (by have := aD_le hf.1.2.2.2.1.1 hr.1 mm 0 (by omega); omega) zc495
          refine z_sub (L' := [(0, .ref (b)), (1, .ref (ad 33)), (2, .int (nI mm)), (7, .int (nI cc9)), (8, .int (t5)), (9, .ref (ad 36)), (10, .ref (ad 37)), (11, .ref (ad 38)), (12, .int ((if u.1 28 5 = 0 then -1 else u.1 28 6))), (13, .int (nI a)), (14, .int (nI (bl (ce sc Ln 17) 40))), (15, .int (nI p9))]) [0, 1, 2, 3, 4, 5, 6, 7, 8, 9, 10, 11] rfl ?_
          exact join511 0 (Or.inr hN9)
        · skip
          have hN9 : aD N a 0 mm ≠ 0 := nx_nl zc495
          refine z_aload C dL_law_498 7 rfl ?_
          refine z_iload C dL_law_500 9 rfl ?_
          refine z_iald (q := 38) (len := cc9) (k := a) C hK (by decide) rfl 0 rfl (rfl) (by omega) (by omega) dL_law_502 ?_
          refine z_topi (y := A.1 38 a) rfl ?_
          refine z_topi (y := nxI (aD N a 0 mm)) (h38 _ hr.1) ?_
          refine z_topi (y := nI (aD N a 0 mm - 1)) (nx_v hN9) ?_
          refine z_istore (L' := [(13, .int (nI (aD N a 0 mm - 1))), (0, .ref (b)), (1, .ref (ad 33)), (2, .int (nI mm)), (7, .int (nI cc9)), (8, .int (t5)), (9, .ref (ad 36)), (10, .ref (ad 37)), (11, .ref (ad 38)), (12, .int ((if u.1 28 5 = 0 then -1 else u.1 28 6))), (14, .int (nI (bl (ce sc Ln 17) 40))), (15, .int (nI p9))]) C dL_law_503 (by decide) rfl ?_
          refine z_iinc (L' := [(15, .int (nI (p9 + 1))), (13, .int (nI (aD N a 0 mm - 1))), (0, .ref (b)), (1, .ref (ad 33)), (2, .int (nI mm)), (7, .int (nI cc9)), (8, .int (t5)), (9, .ref (ad 36)), (10, .ref (ad 37)), (11, .ref (ad 38)), (12, .int ((if u.1 28 5 = 0 then -1 else u.1 28 6))), (14, .int (nI (bl (ce sc Ln 17) 40)))]) C dL_law_505 11 rfl (nI_1 p9) (by decide) rfl ?_
          refine z_goto (tgt := 483) C dL_law_508 (by decide) ?_
          refine z_sub (L' := [(0, .ref (b)), (1, .ref (ad 33)), (2, .int (nI mm)), (7, .int (nI cc9)), (8, .int (t5)), (9, .ref (ad 36)), (10, .ref (ad 37)), (11, .ref (ad 38)), (12, .int ((if u.1 28 5 = 0 then -1 else u.1 28 6))), (13, .int (nI (aD N a 0 mm - 1))), (14, .int (nI (bl (ce sc Ln 17) 40))), (15, .int (nI (p9 + 1)))]) [2, 3, 4, 5, 6, 7, 8, 9, 10, 1, 11, 0] rfl ?_
          exact ih483 (p9 + 1) (aD N a 0 mm - 1) (by omega) (by omega) (rI_s hB hf.1 hr hN9)
  refine z_sub (L' := [(0, .ref (b)), (1, .ref (ad 33)), (2, .int (nI mm)), (7, .int (nI cc9)), (8, .int (t5)), (9, .ref (ad 36)), (10, .ref (ad 37)), (11, .ref (ad 38)), (12, .int ((if u.1 28 5 = 0 then -1 else u.1 28 6))), (13, .int (nI 0)), (14, .int (nI (bl (ce sc Ln 17) 40))), (15, .int (nI 0))]) [4, 5, 6, 7, 8, 9, 10, 11, 3, 2, 1, 0] rfl ?_
  exact loop483 (bl (ce sc Ln 17) 40 + 1) 0 0 (by omega) (Nat.zero_le _) (rI_0 hf.1)

/-- the law's three rows, filled up to k; the third one's entry k too -/
def kA (S : Nat → Nat) (G : Nat → Nat → Nat → Nat) (mm k : Nat) (A : xS) : Prop := (∀ j, j < k → A.1 36 j = nI (S j % 64)) ∧ (∀ j, j < k → A.1 37 j = nI (S j / 64)) ∧ ∀ j, j < k → A.1 38 j = nxI (G j 0 mm)
def kR (S : Nat → Nat) (G : Nat → Nat → Nat → Nat) (mm k r : Nat) (A : xS) : Prop := (∀ j, j < k + 1 → A.1 36 j = nI (S j % 64)) ∧ (∀ j, j < k + 1 → A.1 37 j = nI (S j / 64)) ∧ (∀ j, j < k → A.1 38 j = nxI (G j 0 mm)) ∧ A.1 38 k = nxI (G k r (mm - r))
theorem kR_0 {S : Nat → Nat} {N : Nat → Nat} {mm k : Nat} {A : xS} (h : kA S (aD N) mm k A) : kR S (aD N) mm k mm (xs (xs (xs A 36 k (nI (S k % 64))) 37 k (nI (S k / 64))) 38 k (-1)) := by
  obtain ⟨h1, h2, h3⟩ := h
  refine ⟨fun j hj => ?_, fun j hj => ?_, fun j hj => ?_, ?_⟩
  · rw [xs_c (by decide), xs_c (by decide)]
    by_cases z : j = k
    · rw [z, xs_s]
    · rw [xs_j z]; exact h1 j (by omega)
  · rw [xs_c (by decide)]
    by_cases z : j = k
    · rw [z, xs_s]
    · rw [xs_j z, xs_c (by decide)]; exact h2 j (by omega)
  · rw [xs_j (by omega), xs_c (by decide), xs_c (by decide)]; exact h3 j hj
  · rw [xs_s, Nat.sub_self]
    rfl
theorem kR_n {S : Nat → Nat} {N : Nat → Nat} {mm k r i : Nat} {A : xS} (h : kR S (aD N) mm k r A) (hi : r = i + 1) (hr : r ≤ mm) (hN : N (8 * k + i) = 0) : kR S (aD N) mm k i A := by
  obtain ⟨h1, h2, h3, h4⟩ := h
  exact ⟨h1, h2, h3, by rw [aD_s hi hr, if_pos hN]; exact h4⟩
theorem kR_y {S : Nat → Nat} {N : Nat → Nat} {mm k r i : Nat} {A : xS} (h : kR S (aD N) mm k r A) (hi : r = i + 1) (hr : r ≤ mm) (hN : N (8 * k + i) ≠ 0) : kR S (aD N) mm k i (xs A 38 k (nxI (N (8 * k + i)))) := by
  obtain ⟨h1, h2, h3, h4⟩ := h
  refine ⟨fun j hj => by rw [xs_c (by decide)]; exact h1 j hj, fun j hj => by rw [xs_c (by decide)]; exact h2 j hj, fun j hj => by rw [xs_j (by omega)]; exact h3 j hj, ?_⟩
  rw [xs_s, aD_s hi hr, if_neg hN]
theorem kR_e {S : Nat → Nat} {N : Nat → Nat} {mm k r : Nat} {A : xS} (h : kR S (aD N) mm k r A) (hr : r = 0) : kA S (aD N) mm (k + 1) A := by
  subst hr
  obtain ⟨h1, h2, h3, h4⟩ := h
  refine ⟨h1, h2, fun j hj => ?_⟩
  by_cases z : j = k
  · rw [z]; exact h4
  · exact h3 j (by omega)
theorem aft_z {n : Nat} {B : Nat → Nat → Nat} (hB : gB n B) {x0 c : Nat} {S D N : Nat → Nat} (h : eAll n B x0 c S D N) {k : Nat} (hk : k < c) : aD N k 0 n = 0 ↔ S k / 64 = 0 := by
  constructor
  · intro z
    refine Decidable.byContradiction fun y => ?_
    obtain ⟨-, q2, q3, -⟩ := aft_1 hB h hk y
    exact q3 (q2.symm.trans z)
  · intro z
    exact (aft_0 hB.1 h hk z).1
theorem nx_0 (r : Nat) (h : ¬ nxI r < 0) (hr : r < 2 ^ 31) : ∃ i, r = i + 1 := ⟨r - 1, by have := nx_nl h; omega⟩
theorem nx_ge0 {v : Nat} (hv : v < 2 ^ 31) (h : 0 ≤ nxI v) : v ≠ 0 := fun z => by
  rw [z] at h
  exact absurd h (by decide)
theorem nx_ge1 {v : Nat} (hv : v < 2 ^ 31) (h : ¬ 0 ≤ nxI v) : v = 0 := by
  refine Decidable.byContradiction fun z => h ?_
  rw [nx_v z]
  exact nI_pos' (by omega)

set_option maxHeartbeats 4000000 in
set_option maxRecDepth 100000 in
theorem lg_E1 {pq : Program} {l : Launch} {lq : Env} {sq : State} {mq : MethodId} {bq : List Frame} {hmq : Method} {cq : Code} {D : va_G} {ad : Nat → Nat} {cI cL cR : ClassId} {b Ln : Nat} {sc : Nat → Int32} (C0 : LQ9 pq l sq mq hmq cq D 39 ad cI cL cR b Ln sc) {cc9 mm : Nat} {u A : xS} {B : Nat → Nat → Nat} {x : Nat} {S D9 N : Nat → Nat} (hG : xG u mm B x cc9 S D9 N) {t5 : Int32} (ht5 : u.1 28 5 = t5) (hm9 : 1 ≤ mm) : ZZ pq l lq room_1 sq mq #[Value.ref b] bq hmq cq D vwCl 39 ad 16 70 40000 (lw_Z bq #[Value.ref b] sq) (PF ad cI cL cR cc9 (u, A)) [(0, .ref (b)), (1, .ref (ad 33)), (2, .int (nI mm)), (7, .int (nI cc9)), (8, .int (t5)), (9, .ref (ad 36)), (10, .ref (ad 37)), (11, .ref (ad 38))] 343 [] := by
  have C00 := C0
  obtain ⟨CA, hA9, C, hml, hown, hts, hK, hX, hI, hst0⟩ := C0
  obtain ⟨hX0, hcst, hXs, hbl, hbA, hL9⟩ := id hX
  have hB : gB mm B := hG.1.1
  have hn8 : mm ≤ 8 := hB.1
  have hc := xG_c hG
  have hf := xG_f hG
  have hm1 : 1 ≤ mm := hm9
  refine z_iconst (v := nI 0) C (by decide) dL_law_343 ?_
  refine z_istore (L' := [(12, .int (nI 0)), (0, .ref (b)), (1, .ref (ad 33)), (2, .int (nI mm)), (7, .int (nI cc9)), (8, .int (t5)), (9, .ref (ad 36)), (10, .ref (ad 37)), (11, .ref (ad 38))]) C dL_law_344 (by decide) rfl ?_
  have loop346 : ∀ (d346 : Nat) (k : Nat) (A1 : xS), cc9 - k < d346 → (k ≤ cc9) → (kA S (aD N) mm k A1) → ZZ pq l lq room_1 sq mq #[Value.ref b] bq hmq cq D vwCl 39 ad 16 70 40000 (lw_Z bq #[Value.ref b] sq) (PF ad cI cL cR cc9 (u, A1)) [(0, .ref (b)), (1, .ref (ad 33)), (2, .int (nI mm)), (7, .int (nI cc9)), (8, .int (t5)), (9, .ref (ad 36)), (10, .ref (ad 37)), (11, .ref (ad 38)), (12, .int (nI k))] 346 [] := by
    intro d346
    induction d346 with
    | zero => intro k A1 hz; exact absurd hz (Nat.not_lt_zero _)
    | succ d346 ih346 =>
      intro k A1 hz346 hk hk1
      refine z_iload C dL_law_346 8 rfl ?_
      refine z_iload C dL_law_348 3 rfl ?_
      refine z_icmp_ge (tgt := 458) C dL_law_350 (by decide) (fun zc350 => ?_) (fun zc350 => ?_)
      · skip
        have zn350 := zge_t (a := k) (b := cc9) (by omega) (by omega) zc350
        refine z_widen (k := 70) (q := 40000) (by omega) (by omega) ?_
        refine z_sub (L' := [(0, .ref (b)), (1, .ref (ad 33)), (2, .int (nI mm)), (7, .int (nI cc9)), (8, .int (t5)), (9, .ref (ad 36)), (10, .ref (ad 37)), (11, .ref (ad 38))]) [0, 1, 2, 3, 4, 5, 6, 7] rfl ?_
        exact lg_F C00 hG ht5 (fun j hj => hk1.1 j (by omega)) (fun j hj => hk1.2.1 j (by omega)) (fun j hj => hk1.2.2 j (by omega))
      · skip
        have zn350 := zge_f (a := k) (b := cc9) (by omega) (by omega) zc350
        have hk9 : k < cc9 := zn350
        refine z_aload C dL_law_353 5 rfl ?_
        refine z_iload C dL_law_355 8 rfl ?_
        refine z_aload_n C dL_law_357 1 rfl ?_
        refine z_iload C dL_law_358 8 rfl ?_
        refine z_callVi (q := 33) pX_ok C hml hown hts hK hX (fun sz => z_liftI (σ := id) (F := fun u9 => PF ad cI cL cR cc9 (u9, A1)) (F1 := xF ad cI cL cR) (f1 := xF ad cI cL cR u) (pL (by decide) hI) (fun _ h => h) (pX_x (by decide)) (fun k hk => PF_x k hk) (fun _ k hk => PF_x k hk) PF_x2 (fun _ _ h => h) (c_X6_factsOf l D ad cI cL cR (gI_n (by decide) hI) u (xG_8 hG) (xG_9 hG) cc9 hc.1 hf.2.1 k hk9 (S k) (xG_S hG hk9) (hf.2.2.1 k hk9) sz)) (cwV 1 hts gL_law_X6_factsOf rfl rfl rfl (by decide +kernel) ⟨Nat.le_of_ble_eq_true rfl, Nat.le_of_ble_eq_true rfl⟩) (by decide) (ci := 6) rfl rfl rfl (st := [.int (nI k), .ref (ad 36)]) rfl (Nat.le_of_ble_eq_true rfl) dL_law_360 ⟨by show 70 + 0 ≤ 600104; omega, by show 40000 + 0 ≤ 7301314; omega⟩ (fun r360 u360 h360 => ?_)
        obtain ⟨e360, f360⟩ := h360
        subst e360
        subst u360
        refine z_iast (q := 36) (len := cc9) (k := k) C hI hK (by decide) rfl 0 rfl (rfl) (by omega) (by omega) (f' := PF ad cI cL cR cc9 (u, (xs A1 36 k (nI (S k % 64))))) rfl (PF_ne (by decide)) dL_law_363 ?_
        refine z_aload C dL_law_364 6 rfl ?_
        refine z_iload C dL_law_366 8 rfl ?_
        refine z_aload_n C dL_law_368 1 rfl ?_
        refine z_iload C dL_law_369 8 rfl ?_
        refine z_callVi (q := 33) pX_ok C hml hown hts hK hX (fun sz => z_liftI (σ := id) (F := fun u9 => PF ad cI cL cR cc9 (u9, (xs A1 36 k (nI (S k % 64))))) (F1 := xF ad cI cL cR) (f1 := xF ad cI cL cR u) (pL (by decide) hI) (fun _ h => h) (pX_x (by decide)) (fun k hk => PF_x k hk) (fun _ k hk => PF_x k hk) PF_x2 (fun _ _ h => h) (c_X6_triggeredOf l D ad cI cL cR (gI_n (by decide) hI) u (xG_8 hG) (xG_9 hG) cc9 hc.1 hf.2.1 k hk9 (S k) (xG_S hG hk9) (hf.2.2.1 k hk9) sz)) (cwV 1 hts gL_law_X6_triggeredOf rfl rfl rfl (by decide +kernel) ⟨Nat.le_of_ble_eq_true rfl, Nat.le_of_ble_eq_true rfl⟩) (by decide) (ci := 6) rfl rfl rfl (st := [.int (nI k), .ref (ad 37)]) rfl (Nat.le_of_ble_eq_true rfl) dL_law_371 ⟨by show 70 + 0 ≤ 600104; omega, by show 40000 + 0 ≤ 7301314; omega⟩ (fun r371 u371 h371 => ?_)
        obtain ⟨e371, f371⟩ := h371
        subst e371
        subst u371
        refine z_iast (q := 37) (len := cc9) (k := k) C hI hK (by decide) rfl 0 rfl (rfl) (by omega) (by omega) (f' := PF ad cI cL cR cc9 (u, (xs ((xs A1 36 k (nI (S k % 64)))) 37 k (nI (S k / 64))))) rfl (PF_ne (by decide)) dL_law_374 ?_
        refine z_aload C dL_law_375 7 rfl ?_
        refine z_iload C dL_law_377 8 rfl ?_
        refine z_iconst (v := (-1)) C (by decide) dL_law_379 ?_
        refine z_iast (q := 38) (len := cc9) (k := k) C hI hK (by decide) rfl 0 rfl (rfl) (by omega) (by omega) (f' := PF ad cI cL cR cc9 (u, (xs ((xs ((xs A1 36 k (nI (S k % 64)))) 37 k (nI (S k / 64)))) 38 k ((-1))))) rfl (PF_ne (by decide)) dL_law_380 ?_
        refine z_iload_n C dL_law_381 2 rfl ?_
        refine z_iconst (v := nI 1) C (by decide) dL_law_382 ?_
        refine z_isub C dL_law_383 ?_
        refine z_topi (y := nxI mm) (nx_pre hm1) ?_
        refine z_istore (L' := [(13, .int (nxI mm)), (0, .ref (b)), (1, .ref (ad 33)), (2, .int (nI mm)), (7, .int (nI cc9)), (8, .int (t5)), (9, .ref (ad 36)), (10, .ref (ad 37)), (11, .ref (ad 38)), (12, .int (nI k))]) C dL_law_384 (by decide) rfl ?_
        have loop386 : ∀ (d386 : Nat) (r : Nat) (A3 : xS), r < d386 → (r ≤ mm) → (kR S (aD N) mm k r A3) → ZZ pq l lq room_1 sq mq #[Value.ref b] bq hmq cq D vwCl 39 ad 16 70 40000 (lw_Z bq #[Value.ref b] sq) (PF ad cI cL cR cc9 (u, A3)) [(0, .ref (b)), (1, .ref (ad 33)), (2, .int (nI mm)), (7, .int (nI cc9)), (8, .int (t5)), (9, .ref (ad 36)), (10, .ref (ad 37)), (11, .ref (ad 38)), (12, .int (nI k)), (13, .int (nxI r))] 386 [] := by
          intro d386
          induction d386 with
          | zero => intro r A3 hz; exact absurd hz (Nat.not_lt_zero _)
          | succ d386 ih386 =>
            intro r A3 hz386 hr hR
            refine z_iload C dL_law_386 9 rfl ?_
            refine z_if_lt (tgt := 421) C dL_law_388 (by decide) (fun zc388 => ?_) (fun zc388 => ?_)
            · skip
              have hr0 : r = 0 := nx_ge (by omega) zc388
              refine z_aload C dL_law_421 7 rfl ?_
              refine z_iload C dL_law_423 8 rfl ?_
              refine z_iald (q := 38) (len := cc9) (k := k) C hK (by decide) rfl 0 rfl (rfl) (by omega) (by omega) dL_law_425 ?_
              refine z_topi (y := A3.1 38 k) rfl ?_
              have haD := aD_le hf.1.2.2.2.1.1 hk9 mm 0 (by omega)
              have join434 : ∀ (b9 : Nat), ((b9 = 1 ∧ aD N k 0 mm = 0) ∨ (b9 = 0 ∧ aD N k 0 mm ≠ 0)) → ZZ pq l lq room_1 sq mq #[Value.ref b] bq hmq cq D vwCl 39 ad 16 70 40000 (lw_Z bq #[Value.ref b] sq) (PF ad cI cL cR cc9 (u, A3)) [(0, .ref (b)), (1, .ref (ad 33)), (2, .int (nI mm)), (7, .int (nI cc9)), (8, .int (t5)), (9, .ref (ad 36)), (10, .ref (ad 37)), (11, .ref (ad 38)), (12, .int (nI k)), (13, .int (nxI r))] 434 [.int (nI b9)] := by
                intro b9 hb9
                refine z_aload C dL_law_434 6 rfl ?_
                refine z_iload C dL_law_436 8 rfl ?_
                refine z_iald (q := 37) (len := cc9) (k := k) C hK (by decide) rfl 0 rfl (rfl) (by omega) (by omega) dL_law_438 ?_
                refine z_topi (y := A3.1 37 k) rfl ?_
                have hS9 := xG_S hG hk9
                refine z_topi (y := nI (S k / 64)) (hR.2.1 k (Nat.lt_succ_self k)) ?_
                refine z_if_ne (tgt := 446) C dL_law_439 (by decide) (fun zc439 => ?_) (fun zc439 => ?_)
                · skip
                  have zn439 := z0_f zc439
                  refine z_iconst (v := nI 0) C (by decide) dL_law_446 ?_
                  have hb8 : b9 ≤ 1 := by omega
                  refine z_icmp_eq (tgt := 452) C dL_law_447 (by decide) (fun zc447 => ?_) (fun zc447 => ?_)
                  · skip
                    have zn447 := zeq_t (a := b9) (b := 0) (by omega) (by omega) zc447
                    refine z_iinc (L' := [(12, .int (nI (k + 1))), (0, .ref (b)), (1, .ref (ad 33)), (2, .int (nI mm)), (7, .int (nI cc9)), (8, .int (t5)), (9, .ref (ad 36)), (10, .ref (ad 37)), (11, .ref (ad 38)), (13, .int (nxI r))]) C dL_law_452 8 rfl (nI_1 k) (by decide) rfl ?_
                    refine z_goto (tgt := 346) C dL_law_455 (by decide) ?_
                    refine z_sub (L' := [(0, .ref (b)), (1, .ref (ad 33)), (2, .int (nI mm)), (7, .int (nI cc9)), (8, .int (t5)), (9, .ref (ad 36)), (10, .ref (ad 37)), (11, .ref (ad 38)), (12, .int (nI (k + 1)))]) [1, 2, 3, 4, 5, 6, 7, 8, 0] rfl ?_
                    exact ih346 (k + 1) A3 (by omega) (by omega) (kR_e hR hr0)
                  · skip
                    have zn447 := zeq_f (a := b9) (b := 0) zc447
                    exact False.elim (zn447 (hb9.resolve_left (fun z => zn439 ((aft_z hB hf.1 hk9).mp z.2))).1)
                · skip
                  have zn439 := z0_t (by omega) zc439
                  refine z_iconst (v := nI 1) C (by decide) dL_law_442 ?_
                  refine z_goto (tgt := 447) C dL_law_443 (by decide) ?_
                  have hb8 : b9 ≤ 1 := by omega
                  refine z_icmp_eq (tgt := 452) C dL_law_447 (by decide) (fun zc447 => ?_) (fun zc447 => ?_)
                  · skip
                    have zn447 := zeq_t (a := b9) (b := 1) (by omega) (by omega) zc447
                    refine z_iinc (L' := [(12, .int (nI (k + 1))), (0, .ref (b)), (1, .ref (ad 33)), (2, .int (nI mm)), (7, .int (nI cc9)), (8, .int (t5)), (9, .ref (ad 36)), (10, .ref (ad 37)), (11, .ref (ad 38)), (13, .int (nxI r))]) C dL_law_452 8 rfl (nI_1 k) (by decide) rfl ?_
                    refine z_goto (tgt := 346) C dL_law_455 (by decide) ?_
                    refine z_sub (L' := [(0, .ref (b)), (1, .ref (ad 33)), (2, .int (nI mm)), (7, .int (nI cc9)), (8, .int (t5)), (9, .ref (ad 36)), (10, .ref (ad 37)), (11, .ref (ad 38)), (12, .int (nI (k + 1)))]) [1, 2, 3, 4, 5, 6, 7, 8, 0] rfl ?_
                    exact ih346 (k + 1) A3 (by omega) (by omega) (kR_e hR hr0)
                  · skip
                    have zn447 := zeq_f (a := b9) (b := 1) zc447
                    exact False.elim (zn447 (hb9.resolve_right (fun z => z.2 ((aft_z hB hf.1 hk9).mpr zn439))).1)
              refine z_topi (y := nxI (aD N k r (mm - r))) (hR.2.2.2) ?_
              refine z_topi (y := nxI (aD N k 0 mm)) (by rw [hr0, Nat.sub_zero]) ?_
              refine z_if_ge (tgt := 433) C dL_law_426 (by decide) (fun zc426 => ?_) (fun zc426 => ?_)
              · skip
                have hN8 := nx_ge0 (by omega) zc426
                refine z_iconst (v := nI 0) C (by decide) dL_law_433 ?_
                refine z_sub (L' := [(0, .ref (b)), (1, .ref (ad 33)), (2, .int (nI mm)), (7, .int (nI cc9)), (8, .int (t5)), (9, .ref (ad 36)), (10, .ref (ad 37)), (11, .ref (ad 38)), (12, .int (nI k)), (13, .int (nxI r))]) [0, 1, 2, 3, 4, 5, 6, 7, 8, 9] rfl ?_
                exact join434 0 (Or.inr ⟨rfl, hN8⟩)
              · skip
                have hN8 := nx_ge1 (by omega) zc426
                refine z_iconst (v := nI 1) C (by decide) dL_law_429 ?_
                refine z_goto (tgt := 434) C dL_law_430 (by decide) ?_
                refine z_sub (L' := [(0, .ref (b)), (1, .ref (ad 33)), (2, .int (nI mm)), (7, .int (nI cc9)), (8, .int (t5)), (9, .ref (ad 36)), (10, .ref (ad 37)), (11, .ref (ad 38)), (12, .int (nI k)), (13, .int (nxI r))]) [0, 1, 2, 3, 4, 5, 6, 7, 8, 9] rfl ?_
                exact join434 1 (Or.inl ⟨rfl, hN8⟩)
            · skip
              obtain ⟨i9, hi9⟩ := nx_0 r zc388 (by omega)
              refine z_aload_n C dL_law_391 1 rfl ?_
              refine z_iload C dL_law_392 8 rfl ?_
              refine z_iload C dL_law_394 9 rfl ?_
              refine z_topi (y := nI i9) (by rw [hi9]; exact (nx_s i9).symm) ?_
              refine z_callVi (q := 33) pX_ok C hml hown hts hK hX (fun sz => z_liftI (σ := id) (F := fun u9 => PF ad cI cL cR cc9 (u9, A3)) (F1 := xF ad cI cL cR) (f1 := xF ad cI cL cR u) (pL (by decide) hI) (fun _ h => h) (pX_x (by decide)) (fun k hk => PF_x k hk) (fun _ k hk => PF_x k hk) PF_x2 (fun _ _ h => h) (c_X6_after l D ad cI cL cR (gI_n (by decide) hI) u (xG_8 hG) (xG_9 hG) cc9 hc.1 hf.2.1 k hk9 (S k) (xG_S hG hk9) (hf.2.2.1 k hk9) mm B hG.1 i9 (by omega) sz)) (cwV 2 hts gL_law_X6_after rfl rfl rfl (by decide +kernel) ⟨Nat.le_of_ble_eq_true rfl, Nat.le_of_ble_eq_true rfl⟩) (by decide) (ci := 6) rfl rfl rfl (st := []) rfl (Nat.le_of_ble_eq_true rfl) dL_law_396 ⟨by show 70 + 0 ≤ 600104; omega, by show 40000 + 0 ≤ 7301314; omega⟩ (fun r396 u396 h396 => ?_)
              obtain ⟨e396, f396⟩ := h396
              subst e396
              subst u396
              refine z_topi (y := nxI (N (8 * k + i9))) (by rw [Nat.mul_comm k 8]; exact hf.2.2.2.1 _ (by omega)) ?_
              refine z_if_lt (tgt := 415) C dL_law_399 (by decide) (fun zc399 => ?_) (fun zc399 => ?_)
              · skip
                have hN9 : N (8 * k + i9) = 0 := nx_ge (by have := xG_N hG (e := 8 * k + i9) (by omega); omega) zc399
                refine z_iinc (L' := [(13, .int (nxI i9)), (0, .ref (b)), (1, .ref (ad 33)), (2, .int (nI mm)), (7, .int (nI cc9)), (8, .int (t5)), (9, .ref (ad 36)), (10, .ref (ad 37)), (11, .ref (ad 38)), (12, .int (nI k))]) C dL_law_415 9 rfl (by rw [hi9, ← nx_s, nx_dec]) (by decide) rfl ?_
                refine z_goto (tgt := 386) C dL_law_418 (by decide) ?_
                refine z_sub (L' := [(0, .ref (b)), (1, .ref (ad 33)), (2, .int (nI mm)), (7, .int (nI cc9)), (8, .int (t5)), (9, .ref (ad 36)), (10, .ref (ad 37)), (11, .ref (ad 38)), (12, .int (nI k)), (13, .int (nxI i9))]) [1, 2, 3, 4, 5, 6, 7, 8, 9, 0] rfl ?_
                exact ih386 i9 A3 (by omega) (by omega) (kR_n hR hi9 hr hN9)
              · skip
                have hN9 : N (8 * k + i9) ≠ 0 := nx_nl zc399
                refine z_aload C dL_law_402 7 rfl ?_
                refine z_iload C dL_law_404 8 rfl ?_
                refine z_aload_n C dL_law_406 1 rfl ?_
                refine z_iload C dL_law_407 8 rfl ?_
                refine z_iload C dL_law_409 9 rfl ?_
                refine z_topi (y := nI i9) (by rw [hi9]; exact (nx_s i9).symm) ?_
                refine z_callVi (q := 33) pX_ok C hml hown hts hK hX (fun sz => z_liftI (σ := id) (F := fun u9 => PF ad cI cL cR cc9 (u9, A3)) (F1 := xF ad cI cL cR) (f1 := xF ad cI cL cR u) (pL (by decide) hI) (fun _ h => h) (pX_x (by decide)) (fun k hk => PF_x k hk) (fun _ k hk => PF_x k hk) PF_x2 (fun _ _ h => h) (c_X6_after l D ad cI cL cR (gI_n (by decide) hI) u (xG_8 hG) (xG_9 hG) cc9 hc.1 hf.2.1 k hk9 (S k) (xG_S hG hk9) (hf.2.2.1 k hk9) mm B hG.1 i9 (by omega) sz)) (cwV 2 hts gL_law_X6_after rfl rfl rfl (by decide +kernel) ⟨Nat.le_of_ble_eq_true rfl, Nat.le_of_ble_eq_true rfl⟩) (by decide) (ci := 6) rfl rfl rfl (st := [.int (nI k), .ref (ad 38)]) rfl (Nat.le_of_ble_eq_true rfl) dL_law_411 ⟨by show 70 + 0 ≤ 600104; omega, by show 40000 + 0 ≤ 7301314; omega⟩ (fun r411 u411 h411 => ?_)
                obtain ⟨e411, f411⟩ := h411
                subst e411
                subst u411
                refine z_topi (y := nxI (N (8 * k + i9))) (by rw [Nat.mul_comm k 8]; exact hf.2.2.2.1 _ (by omega)) ?_
                refine z_iast (q := 38) (len := cc9) (k := k) C hI hK (by decide) rfl 0 rfl (rfl) (by omega) (by omega) (f' := PF ad cI cL cR cc9 (u, (xs A3 38 k (nxI (N (8 * k + i9)))))) rfl (PF_ne (by decide)) dL_law_414 ?_
                refine z_iinc (L' := [(13, .int (nxI i9)), (0, .ref (b)), (1, .ref (ad 33)), (2, .int (nI mm)), (7, .int (nI cc9)), (8, .int (t5)), (9, .ref (ad 36)), (10, .ref (ad 37)), (11, .ref (ad 38)), (12, .int (nI k))]) C dL_law_415 9 rfl (by rw [hi9, ← nx_s, nx_dec]) (by decide) rfl ?_
                refine z_goto (tgt := 386) C dL_law_418 (by decide) ?_
                refine z_sub (L' := [(0, .ref (b)), (1, .ref (ad 33)), (2, .int (nI mm)), (7, .int (nI cc9)), (8, .int (t5)), (9, .ref (ad 36)), (10, .ref (ad 37)), (11, .ref (ad 38)), (12, .int (nI k)), (13, .int (nxI i9))]) [1, 2, 3, 4, 5, 6, 7, 8, 9, 0] rfl ?_
                exact ih386 i9 (xs A3 38 k (nxI (N (8 * k + i9)))) (by omega) (by omega) (kR_y hR hi9 hr hN9)
        refine z_sub (L' := [(0, .ref (b)), (1, .ref (ad 33)), (2, .int (nI mm)), (7, .int (nI cc9)), (8, .int (t5)), (9, .ref (ad 36)), (10, .ref (ad 37)), (11, .ref (ad 38)), (12, .int (nI k)), (13, .int (nxI mm))]) [1, 2, 3, 4, 5, 6, 7, 8, 9, 0] rfl ?_
        exact loop386 (mm + 1) mm (xs (xs (xs A1 36 k (nI (S k % 64))) 37 k (nI (S k / 64))) 38 k ((-1))) (Nat.lt_succ_self mm) (Nat.le_refl mm) (kR_0 hk1)
  refine z_sub (L' := [(0, .ref (b)), (1, .ref (ad 33)), (2, .int (nI mm)), (7, .int (nI cc9)), (8, .int (t5)), (9, .ref (ad 36)), (10, .ref (ad 37)), (11, .ref (ad 38)), (12, .int (nI 0))]) [1, 2, 3, 4, 5, 6, 7, 8, 0] rfl ?_
  exact loop346 (cc9 + 1) 0 A (by omega) (Nat.zero_le _) ⟨fun j hj => absurd hj (Nat.not_lt_zero j), fun j hj => absurd hj (Nat.not_lt_zero j), fun j hj => absurd hj (Nat.not_lt_zero j)⟩

set_option maxHeartbeats 4000000 in
set_option maxRecDepth 100000 in
theorem lg_E {pq : Program} {l : Launch} {lq : Env} {sq : State} {mq : MethodId} {bq : List Frame} {hmq : Method} {cq : Code} {D : va_G} {ad : Nat → Nat} {cI cL cR : ClassId} {b Ln : Nat} {sc : Nat → Int32} (C0 : LQ9 pq l sq mq hmq cq D 36 ad cI cL cR b Ln sc) {cc9 mm : Nat} {u A : xS} {B : Nat → Nat → Nat} {x : Nat} {S D9 N : Nat → Nat} (hG : xG u mm B x cc9 S D9 N) {t5 : Int32} (ht5 : u.1 28 5 = t5) (hm9 : 1 ≤ mm) : ZZ pq l lq room_1 sq mq #[Value.ref b] bq hmq cq D vwCl 36 ad 16 60 33000 (lw_Z bq #[Value.ref b] sq) (PF ad cI cL cR cc9 (u, A)) [(0, .ref (b)), (1, .ref (ad 33)), (2, .int (nI mm)), (7, .int (nI cc9)), (8, .int (t5))] 325 [] := by
  have hc := xG_c hG
  have CP := C0
  obtain ⟨CA, hA9, C, hml, hown, hts, hK, hX, hI, hst0⟩ := C0
  have harr := hts (.arrayClass .int) (by decide +kernel)
  refine z_iload C dL_law_325 3 rfl ?_
  refine z_newaP C harr hK hI (by decide) (len := cc9) hc.1 rfl ⟨by show 60 + 1 ≤ 600104; omega, by show 33000 + cc9 ≤ 7301314; omega⟩ dL_law_327 (fun a2 g1 g2 g3 => ?_)
  rw [← g1 33 (by decide)]
  have CP2 := LQ_s CP g1 g2 g3
  refine z_astore (L' := [(9, .ref (a2 36)), (0, .ref b), (1, .ref (a2 33)), (2, .int (nI mm)), (7, .int (nI cc9)), (8, .int t5)]) C dL_law_329 (by decide) rfl ?_
  refine z_iload C dL_law_331 4 rfl ?_
  refine z_newaP C harr hK g2 (by decide) (len := cc9) hc.1 rfl ⟨by show 60 + 1 + 1 ≤ 600104; omega, by show 33000 + cc9 + cc9 ≤ 7301314; omega⟩ dL_law_333 (fun a3 j1 j2 j3 => ?_)
  rw [← j1 33 (by decide), ← j1 36 (by decide)]
  have CP3 := LQ_s CP2 j1 j2 j3
  refine z_astore (L' := [(10, .ref (a3 37)), (9, .ref (a3 36)), (0, .ref b), (1, .ref (a3 33)), (2, .int (nI mm)), (7, .int (nI cc9)), (8, .int t5)]) C dL_law_335 (by decide) rfl ?_
  refine z_iload C dL_law_337 5 rfl ?_
  refine z_newaP C harr hK j2 (by decide) (len := cc9) hc.1 rfl ⟨by show 60 + 1 + 1 + 1 ≤ 600104; omega, by show 33000 + cc9 + cc9 + cc9 ≤ 7301314; omega⟩ dL_law_339 (fun a4 k1 k2 k3 => ?_)
  rw [← k1 33 (by decide), ← k1 36 (by decide), ← k1 37 (by decide)]
  have CP4 := LQ_s CP3 k1 k2 k3
  refine z_astore (L' := [(11, .ref (a4 38)), (10, .ref (a4 37)), (9, .ref (a4 36)), (0, .ref b), (1, .ref (a4 33)), (2, .int (nI mm)), (7, .int (nI cc9)), (8, .int t5)]) C dL_law_341 (by decide) rfl ?_
  refine z_widen (k := 70) (q := 40000) (by omega) (by omega) ?_
  refine z_sub (L' := [(0, .ref b), (1, .ref (a4 33)), (2, .int (nI mm)), (7, .int (nI cc9)), (8, .int t5), (9, .ref (a4 36)), (10, .ref (a4 37)), (11, .ref (a4 38))]) [3, 4, 5, 6, 7, 2, 1, 0] rfl ?_
  exact lg_E1 CP4 hG ht5 hm9

theorem cirs_lt (B : Nat → Nat → Nat) : cirs B 8 < 256 := by
  refine Nat.lt_pow_two_of_testBit (n := 8) _ (fun j hj => ?_)
  rw [cirs_bit, decide_eq_false (by omega), Bool.false_and]

set_option maxHeartbeats 4000000 in
set_option maxRecDepth 100000 in
theorem lg_D {pq : Program} {l : Launch} {lq : Env} {sq : State} {mq : MethodId} {bq : List Frame} {hmq : Method} {cq : Code} {D : va_G} {ad : Nat → Nat} {cI cL cR : ClassId} {b Ln : Nat} {sc : Nat → Int32} (C0 : LQ9 pq l sq mq hmq cq D 36 ad cI cL cR b Ln sc) {c0 mm fr : Nat} {u A : xS} {B : Nat → Nat → Nat} {x : Nat} (hIv : xI u mm B x) (ho : onx B x) (h8 : u.1 21 8 = 0) (hfr1 : fr ≤ 1) (hfr : fr = 1 → fre B) (hm9 : 1 ≤ mm) : ZZ pq l lq room_1 sq mq #[Value.ref b] bq hmq cq D vwCl 36 ad 16 60 33000 (lw_Z bq #[Value.ref b] sq) (PF ad cI cL cR c0 (u, A)) [(0, .ref (b)), (1, .ref (ad 33)), (2, .int (nI mm)), (5, .int (nI fr))] 214 [] := by
  have C00 := C0
  obtain ⟨CA, hA9, C, hml, hown, hts, hK, hX, hI, hst0⟩ := C0
  obtain ⟨hX0, hcst, hXs, hbl, hbA, hL9⟩ := id hX
  have hB : gB mm B := hIv.1.1
  have hn8 : mm ≤ 8 := hB.1
  obtain ⟨S0, k0, o1, o2, o3, o4⟩ := hIv.2.2.2.1
  refine z_aload_n C dL_law_214 1 rfl ?_
  refine z_callVi (q := 33) pX_ok C hml hown hts hK hX (fun sz => z_liftI (σ := id) (F := fun u9 => PF ad cI cL cR c0 (u9, A)) (F1 := xF ad cI cL cR) (f1 := xF ad cI cL cR u) (pL (by decide) hI) (fun _ h => h) (pX_x (by decide)) (fun k hk => PF_x k hk) (fun _ k hk => PF_x k hk) PF_x2 (fun _ _ h => h) (c_X6_explore_vs l D ad cI cL cR (gI_n (by decide) hI) u mm B hIv.1 h8 S0 k0 o1 o2 o3 o4 x hIv.2.1 hIv.2.2.1 sz)) (cwV 0 hts gL_law_X6_explore rfl rfl rfl (by decide +kernel) ⟨Nat.le_of_ble_eq_true rfl, Nat.le_of_ble_eq_true rfl⟩) (by decide) (ci := 6) rfl rfl rfl (st := []) rfl (Nat.le_of_ble_eq_true rfl) dL_law_215 ⟨by show 60 + 0 ≤ 600104; omega, by show 33000 + 0 ≤ 7301314; omega⟩ (fun r215 u215 h215 => ?_)
  obtain ⟨e215, hxd, q8, hq⟩ := h215
  subst e215
  obtain ⟨k9, hD⟩ := hxd
  have hI2 : xI u215 mm B x := xI_s hIv hD q8 hq
  by_cases h9 : u215.1 21 9 = 0
  · skip
    obtain ⟨cc9, S, D9, N, hfin⟩ := xFin_of hIv.1.1 hIv.2.1 hD h9
    have hG : xG u215 mm B x cc9 S D9 N := ⟨hI2.1, hI2.2.1, hI2.2.2.1, q8, h9, ho, hfin⟩
    have hc := xG_c hG
    have hf := xG_f hG
    refine z_topi (y := nI cc9) (by rw [if_pos h9]; exact hfin.2.1) ?_
    refine z_cong (f' := PF ad cI cL cR cc9 (u215, A)) (PF_c (by decide)) ?_
    refine z_istore (L' := [(7, .int (nI cc9)), (0, .ref (b)), (1, .ref (ad 33)), (2, .int (nI mm)), (5, .int (nI fr))]) C dL_law_218 (by decide) rfl ?_
    refine z_iload C dL_law_220 0 rfl ?_
    refine z_if_ge (tgt := 227) C dL_law_222 (by decide) (fun zc222 => ?_) (fun zc222 => ?_)
    · skip
      refine z_aload_n C dL_law_227 2 rfl ?_
      refine z_callVi (q := 33) pX_ok C hml hown hts hK hX (fun sz => z_liftI (σ := id) (F := fun u9 => PF ad cI cL cR cc9 (u9, A)) (F1 := xF ad cI cL cR) (f1 := xF ad cI cL cR u215) (pL (by decide) hI) (fun _ h => h) (pX_x (by decide)) (fun k hk => PF_x k hk) (fun _ k hk => PF_x k hk) PF_x2 (fun _ _ h => h) (c_X6_terminates l D ad cI cL cR (gI_n (by decide) hI) u215 (xG_8 hG) (xG_9 hG) (kRes_01 hf.2.2.2.2.2.2.2) sz)) (cwV 0 hts gL_law_X6_terminates rfl rfl rfl (by decide +kernel) ⟨Nat.le_of_ble_eq_true rfl, Nat.le_of_ble_eq_true rfl⟩) (by decide) (ci := 6) rfl rfl rfl (st := []) rfl (Nat.le_of_ble_eq_true rfl) dL_law_228 ⟨by show 60 + 0 ≤ 600104; omega, by show 33000 + 0 ≤ 7301314; omega⟩ (fun r228 u228 h228 => ?_)
      obtain ⟨e228, f228⟩ := h228
      subst e228
      subst u228
      obtain ⟨t5, ht4⟩ : ∃ t, u215.1 28 5 = t := ⟨_, rfl⟩
      refine z_topi (y := t5) ht4 ?_
      refine z_istore (L' := [(8, .int (t5)), (7, .int (nI cc9)), (0, .ref (b)), (1, .ref (ad 33)), (2, .int (nI mm)), (5, .int (nI fr))]) C dL_law_231 (by decide) rfl ?_
      refine z_aload_n C dL_law_233 3 rfl ?_
      refine z_callVi (q := 33) pX_ok C hml hown hts hK hX (fun sz => z_liftI (σ := id) (F := fun u9 => PF ad cI cL cR cc9 (u9, A)) (F1 := xF ad cI cL cR) (f1 := xF ad cI cL cR u215) (pL (by decide) hI) (fun _ h => h) (pX_x (by decide)) (fun k hk => PF_x k hk) (fun _ k hk => PF_x k hk) PF_x2 (fun _ _ h => h) (c_X6_circular l D ad cI cL cR (gI_n (by decide) hI) u215 mm B hG.1 sz)) (cwV 0 hts gL_law_X6_circular rfl rfl rfl (by decide +kernel) ⟨Nat.le_of_ble_eq_true rfl, Nat.le_of_ble_eq_true rfl⟩) (by decide) (ci := 6) rfl rfl rfl (st := []) rfl (Nat.le_of_ble_eq_true rfl) dL_law_234 ⟨by show 60 + 0 ≤ 600104; omega, by show 33000 + 0 ≤ 7301314; omega⟩ (fun r234 u234 h234 => ?_)
      obtain ⟨e234, hj⟩ := h234
      subst e234
      have hG2 := xG_j hG hj
      have hf2 := xG_f hG2
      have ht5 : u234.1 28 5 = t5 := by rw [hj.1 28 (by decide)]; exact ht4
      have hcr : cirs B 8 < 2 ^ 31 := by have := cirs_lt B; omega
      have join247 : ∀ (dm : Nat), ZZ pq l lq room_1 sq mq #[Value.ref b] bq hmq cq D vwCl 36 ad 16 60 33000 (lw_Z bq #[Value.ref b] sq) (PF ad cI cL cR cc9 (u234, A)) [(0, .ref (b)), (1, .ref (ad 33)), (2, .int (nI mm)), (5, .int (nI fr)), (7, .int (nI cc9)), (8, .int (t5))] 247 [] := by
        intro dm 
        refine z_iload C dL_law_247 5 rfl ?_
        have join280 : ∀ (dm : Nat), ZZ pq l lq room_1 sq mq #[Value.ref b] bq hmq cq D vwCl 36 ad 16 60 33000 (lw_Z bq #[Value.ref b] sq) (PF ad cI cL cR cc9 (u234, A)) [(0, .ref (b)), (1, .ref (ad 33)), (2, .int (nI mm)), (5, .int (nI fr)), (7, .int (nI cc9)), (8, .int (t5))] 280 [] := by
          intro dm 
          refine z_iload C dL_law_280 3 rfl ?_
          refine z_if_eq (tgt := 325) C dL_law_282 (by decide) (fun zc282 => ?_) (fun zc282 => ?_)
          · skip
            have zn282 := z0_t (by omega) zc282
            refine z_widen (k := 60) (q := 33000) (by omega) (by omega) ?_
            refine z_sub (L' := [(0, .ref (b)), (1, .ref (ad 33)), (2, .int (nI mm)), (7, .int (nI cc9)), (8, .int (t5))]) [0, 1, 2, 4, 5] rfl ?_
            exact lg_E C00 hG2 ht5 hm9
          · skip
            have zn282 := z0_f zc282
            refine z_aload_n C dL_law_285 1 rfl ?_
            refine z_callVi (q := 33) pX_ok C hml hown hts hK hX (fun sz => z_liftI (σ := id) (F := fun u9 => PF ad cI cL cR cc9 (u9, A)) (F1 := xF ad cI cL cR) (f1 := xF ad cI cL cR u234) (pL (by decide) hI) (fun _ h => h) (pX_x (by decide)) (fun k hk => PF_x k hk) (fun _ k hk => PF_x k hk) PF_x2 (fun _ _ h => h) (c_X6_conflictCount l D ad cI cL cR (gI_n (by decide) hI) u234 mm B hG2.1 sz)) (cwV 0 hts gL_law_X6_conflictCount rfl rfl rfl (by decide +kernel) ⟨Nat.le_of_ble_eq_true rfl, Nat.le_of_ble_eq_true rfl⟩) (by decide) (ci := 6) rfl rfl rfl (st := []) rfl (Nat.le_of_ble_eq_true rfl) dL_law_286 ⟨by show 60 + 0 ≤ 600104; omega, by show 33000 + 0 ≤ 7301314; omega⟩ (fun r286 u286 h286 => ?_)
            obtain ⟨e286, f286⟩ := h286
            subst e286
            subst u286
            have hcou := cou_le B 8
            refine z_if_ne (tgt := 325) C dL_law_289 (by decide) (fun zc289 => ?_) (fun zc289 => ?_)
            · skip
              have zn289 := z0_f zc289
              refine z_widen (k := 60) (q := 33000) (by omega) (by omega) ?_
              refine z_sub (L' := [(0, .ref (b)), (1, .ref (ad 33)), (2, .int (nI mm)), (7, .int (nI cc9)), (8, .int (t5))]) [0, 1, 2, 4, 5] rfl ?_
              exact lg_E C00 hG2 ht5 hm9
            · skip
              have zn289 := z0_t (by omega) zc289
              refine z_aload_n C dL_law_292 1 rfl ?_
              refine z_callVi (q := 33) pX_ok C hml hown hts hK hX (fun sz => z_liftI (σ := id) (F := fun u9 => PF ad cI cL cR cc9 (u9, A)) (F1 := xF ad cI cL cR) (f1 := xF ad cI cL cR u234) (pL (by decide) hI) (fun _ h => h) (pX_x (by decide)) (fun k hk => PF_x k hk) (fun _ k hk => PF_x k hk) PF_x2 (fun _ _ h => h) (c_X6_endCount l D ad cI cL cR (gI_n (by decide) hI) u234 (xG_8 hG2) (xG_9 hG2) sz)) (cwV 0 hts gL_law_X6_endCount rfl rfl rfl (by decide +kernel) ⟨Nat.le_of_ble_eq_true rfl, Nat.le_of_ble_eq_true rfl⟩) (by decide) (ci := 6) rfl rfl rfl (st := []) rfl (Nat.le_of_ble_eq_true rfl) dL_law_293 ⟨by show 60 + 0 ≤ 600104; omega, by show 33000 + 0 ≤ 7301314; omega⟩ (fun r293 u293 h293 => ?_)
              obtain ⟨e293, f293⟩ := h293
              subst e293
              subst u293
              have hct := hf2.2.2.2.2.2.1
              refine z_topi (y := nI (fb_ct (isE S) cc9)) (hf2.2.2.2.2.1) ?_
              refine z_if_le (tgt := 325) C dL_law_296 (by decide) (fun zc296 => ?_) (fun zc296 => ?_)
              · skip
                have zn296 := zle0_t (by omega) zc296
                refine z_widen (k := 60) (q := 33000) (by omega) (by omega) ?_
                refine z_sub (L' := [(0, .ref (b)), (1, .ref (ad 33)), (2, .int (nI mm)), (7, .int (nI cc9)), (8, .int (t5))]) [0, 1, 2, 4, 5] rfl ?_
                exact lg_E C00 hG2 ht5 hm9
              · skip
                have zn296 := zle0_f (by omega) zc296
                have hv := v_free hB hG2.2.1 ho hf2 (hfr (by omega)) zn289 zn296
                refine z_iload C dL_law_299 5 rfl ?_
                refine z_if_eq (tgt := 323) C dL_law_301 (by decide) (fun zc301 => ?_) (fun zc301 => ?_)
                · skip
                  exact False.elim (absurd (zc301.symm.trans (ht5.symm.trans hv.1)) (by decide))
                · skip
                  refine z_aload_n C dL_law_304 1 rfl ?_
                  refine z_callVi (q := 33) pX_ok C hml hown hts hK hX (fun sz => z_liftI (σ := id) (F := fun u9 => PF ad cI cL cR cc9 (u9, A)) (F1 := xF ad cI cL cR) (f1 := xF ad cI cL cR u234) (pL (by decide) hI) (fun _ h => h) (pX_x (by decide)) (fun k hk => PF_x k hk) (fun _ k hk => PF_x k hk) PF_x2 (fun _ _ h => h) (c_X6_endCount l D ad cI cL cR (gI_n (by decide) hI) u234 (xG_8 hG2) (xG_9 hG2) sz)) (cwV 0 hts gL_law_X6_endCount rfl rfl rfl (by decide +kernel) ⟨Nat.le_of_ble_eq_true rfl, Nat.le_of_ble_eq_true rfl⟩) (by decide) (ci := 6) rfl rfl rfl (st := []) rfl (Nat.le_of_ble_eq_true rfl) dL_law_305 ⟨by show 60 + 0 ≤ 600104; omega, by show 33000 + 0 ≤ 7301314; omega⟩ (fun r305 u305 h305 => ?_)
                  obtain ⟨e305, f305⟩ := h305
                  subst e305
                  subst u305
                  refine z_topi (y := nI (fb_ct (isE S) cc9)) (hf2.2.2.2.2.1) ?_
                  refine z_iconst (v := nI 1) C (by decide) dL_law_308 ?_
                  refine z_icmp_ne (tgt := 323) C dL_law_309 (by decide) (fun zc309 => ?_) (fun zc309 => ?_)
                  · skip
                    have zn309 := zeq_f (a := fb_ct (isE S) cc9) (b := 1) zc309
                    exact False.elim (zn309 hv.2.1)
                  · skip
                    have zn309 := zeq_t (a := fb_ct (isE S) cc9) (b := 1) (by omega) (by omega) zc309
                    refine z_aload_n C dL_law_312 1 rfl ?_
                    refine z_callVi (q := 33) pX_ok C hml hown hts hK hX (fun sz => z_liftI (σ := id) (F := fun u9 => PF ad cI cL cR cc9 (u9, A)) (F1 := xF ad cI cL cR) (f1 := xF ad cI cL cR u234) (pL (by decide) hI) (fun _ h => h) (pX_x (by decide)) (fun k hk => PF_x k hk) (fun _ k hk => PF_x k hk) PF_x2 (fun _ _ h => h) (c_X6_shortest l D ad cI cL cR (gI_n (by decide) hI) u234 (xG_8 hG2) (xG_9 hG2) sz)) (cwV 0 hts gL_law_X6_shortest rfl rfl rfl (by decide +kernel) ⟨Nat.le_of_ble_eq_true rfl, Nat.le_of_ble_eq_true rfl⟩) (by decide) (ci := 6) rfl rfl rfl (st := []) rfl (Nat.le_of_ble_eq_true rfl) dL_law_313 ⟨by show 60 + 0 ≤ 600104; omega, by show 33000 + 0 ≤ 7301314; omega⟩ (fun r313 u313 h313 => ?_)
                    obtain ⟨e313, f313⟩ := h313
                    subst e313
                    subst u313
                    refine z_aload_n C dL_law_316 1 rfl ?_
                    refine z_callVi (q := 33) pX_ok C hml hown hts hK hX (fun sz => z_liftI (σ := id) (F := fun u9 => PF ad cI cL cR cc9 (u9, A)) (F1 := xF ad cI cL cR) (f1 := xF ad cI cL cR u234) (pL (by decide) hI) (fun _ h => h) (pX_x (by decide)) (fun k hk => PF_x k hk) (fun _ k hk => PF_x k hk) PF_x2 (fun _ _ h => h) (c_X6_longest l D ad cI cL cR (gI_n (by decide) hI) u234 (xG_8 hG2) (xG_9 hG2) sz)) (cwV 0 hts gL_law_X6_longest rfl rfl rfl (by decide +kernel) ⟨Nat.le_of_ble_eq_true rfl, Nat.le_of_ble_eq_true rfl⟩) (by decide) (ci := 6) rfl rfl rfl (st := [.int (u234.1 26 2)]) rfl (Nat.le_of_ble_eq_true rfl) dL_law_317 ⟨by show 60 + 0 ≤ 600104; omega, by show 33000 + 0 ≤ 7301314; omega⟩ (fun r317 u317 h317 => ?_)
                    obtain ⟨e317, f317⟩ := h317
                    subst e317
                    subst u317
                    refine z_icmp_eq (tgt := 325) C dL_law_320 (by decide) (fun zc320 => ?_) (fun zc320 => ?_)
                    · skip
                      refine z_widen (k := 60) (q := 33000) (by omega) (by omega) ?_
                      refine z_sub (L' := [(0, .ref (b)), (1, .ref (ad 33)), (2, .int (nI mm)), (7, .int (nI cc9)), (8, .int (t5))]) [0, 1, 2, 4, 5] rfl ?_
                      exact lg_E C00 hG2 ht5 hm9
                    · skip
                      exact False.elim (zc320 (by rw [if_neg (by rw [hv.1]; decide)]; exact hv.2.2))
        refine z_if_eq (tgt := 280) C dL_law_249 (by decide) (fun zc249 => ?_) (fun zc249 => ?_)
        · skip
          refine z_sub (L' := [(0, .ref (b)), (1, .ref (ad 33)), (2, .int (nI mm)), (5, .int (nI fr)), (7, .int (nI cc9)), (8, .int (t5))]) [0, 1, 2, 3, 4, 5] rfl ?_
          exact join280 0
        · skip
          refine z_aload_n C dL_law_252 1 rfl ?_
          refine z_callVi (q := 33) pX_ok C hml hown hts hK hX (fun sz => z_liftI (σ := id) (F := fun u9 => PF ad cI cL cR cc9 (u9, A)) (F1 := xF ad cI cL cR) (f1 := xF ad cI cL cR u234) (pL (by decide) hI) (fun _ h => h) (pX_x (by decide)) (fun k hk => PF_x k hk) (fun _ k hk => PF_x k hk) PF_x2 (fun _ _ h => h) (c_X6_endCount l D ad cI cL cR (gI_n (by decide) hI) u234 (xG_8 hG2) (xG_9 hG2) sz)) (cwV 0 hts gL_law_X6_endCount rfl rfl rfl (by decide +kernel) ⟨Nat.le_of_ble_eq_true rfl, Nat.le_of_ble_eq_true rfl⟩) (by decide) (ci := 6) rfl rfl rfl (st := []) rfl (Nat.le_of_ble_eq_true rfl) dL_law_253 ⟨by show 60 + 0 ≤ 600104; omega, by show 33000 + 0 ≤ 7301314; omega⟩ (fun r253 u253 h253 => ?_)
          obtain ⟨e253, f253⟩ := h253
          subst e253
          subst u253
          have hct := hf2.2.2.2.2.2.1
          have hv9 := v_end hB hf2 (fun z => zc249 (ht5.symm.trans z))
          refine z_topi (y := nI (fb_ct (isE S) cc9)) (hf2.2.2.2.2.1) ?_
          refine z_iconst (v := nI 1) C (by decide) dL_law_256 ?_
          refine z_icmp_lt (tgt := 278) C dL_law_257 (by decide) (fun zc257 => ?_) (fun zc257 => ?_)
          · skip
            have zn257 := zlt_t (a := fb_ct (isE S) cc9) (b := 1) (by omega) (by omega) zc257
            exact False.elim (by omega)
          · skip
            have zn257 := zlt_f (a := fb_ct (isE S) cc9) (b := 1) (by omega) (by omega) zc257
            refine z_aload_n C dL_law_260 1 rfl ?_
            refine z_callVl (q := 33) pX_ok C hml hown hts hK hX (fun sz => z_liftL (σ := id) (F := fun u9 => PF ad cI cL cR cc9 (u9, A)) (F1 := xF ad cI cL cR) (f1 := xF ad cI cL cR u234) (pL (by decide) hI) (fun _ h => h) (pX_x (by decide)) (fun k hk => PF_x k hk) (fun _ k hk => PF_x k hk) PF_x2 (fun _ _ h => h) (c_X6_ways l D ad cI cL cR (gI_n (by decide) hI) u234 (xG_8 hG2) (xG_9 hG2) sz)) (cwV 0 hts gL_law_X6_ways rfl rfl rfl (by decide +kernel) ⟨Nat.le_of_ble_eq_true rfl, Nat.le_of_ble_eq_true rfl⟩) (by decide) (ci := 6) rfl rfl rfl (st := []) rfl (Nat.le_of_ble_eq_true rfl) dL_law_261 ⟨by show 60 + 0 ≤ 600104; omega, by show 33000 + 0 ≤ 7301314; omega⟩ (fun r261 u261 h261 => ?_)
            obtain ⟨e261, f261⟩ := h261
            subst e261
            subst u261
            obtain ⟨l9, w9, w1, w2, w3, w4⟩ := v_ways hf2 (fun z => zc249 (ht5.symm.trans z))
            refine z_topl (y := lN w9) (by rw [if_neg (fun z => zc249 (ht5.symm.trans z))]; exact w3) ?_
            refine z_lconst (v := 1) C (by decide) dL_law_264 ?_
            refine z_lcmp C dL_law_265 ?_
            refine z_if_ge (tgt := 280) C dL_law_266 (by decide) (fun zc266 => ?_) (fun zc266 => ?_)
            · skip
              refine z_sub (L' := [(0, .ref (b)), (1, .ref (ad 33)), (2, .int (nI mm)), (5, .int (nI fr)), (7, .int (nI cc9)), (8, .int (t5))]) [0, 1, 2, 3, 4, 5] rfl ?_
              exact join280 0
            · skip
              refine z_aload_n C dL_law_269 1 rfl ?_
              refine z_callVi (q := 33) pX_ok C hml hown hts hK hX (fun sz => z_liftI (σ := id) (F := fun u9 => PF ad cI cL cR cc9 (u9, A)) (F1 := xF ad cI cL cR) (f1 := xF ad cI cL cR u234) (pL (by decide) hI) (fun _ h => h) (pX_x (by decide)) (fun k hk => PF_x k hk) (fun _ k hk => PF_x k hk) PF_x2 (fun _ _ h => h) (c_X6_longest l D ad cI cL cR (gI_n (by decide) hI) u234 (xG_8 hG2) (xG_9 hG2) sz)) (cwV 0 hts gL_law_X6_longest rfl rfl rfl (by decide +kernel) ⟨Nat.le_of_ble_eq_true rfl, Nat.le_of_ble_eq_true rfl⟩) (by decide) (ci := 6) rfl rfl rfl (st := []) rfl (Nat.le_of_ble_eq_true rfl) dL_law_270 ⟨by show 60 + 0 ≤ 600104; omega, by show 33000 + 0 ≤ 7301314; omega⟩ (fun r270 u270 h270 => ?_)
              obtain ⟨e270, f270⟩ := h270
              subst e270
              subst u270
              refine z_topi (y := nI l9) (by rw [if_neg (fun z => zc249 (ht5.symm.trans z))]; exact w1) ?_
              refine z_bipush (v := nI 20) C (by decide) dL_law_273 ?_
              refine z_icmp_ge (tgt := 280) C dL_law_275 (by decide) (fun zc275 => ?_) (fun zc275 => ?_)
              · skip
                have zn275 := zge_t (a := l9) (b := 20) (by omega) (by omega) zc275
                refine z_sub (L' := [(0, .ref (b)), (1, .ref (ad 33)), (2, .int (nI mm)), (5, .int (nI fr)), (7, .int (nI cc9)), (8, .int (t5))]) [0, 1, 2, 3, 4, 5] rfl ?_
                exact join280 0
              · skip
                have zn275 := zge_f (a := l9) (b := 20) (by omega) (by omega) zc275
                exact False.elim (zc266 (lgc_ge (w4 zn275).1 (w4 zn275).2))
      refine z_if_ne (tgt := 247) C dL_law_237 (by decide) (fun zc237 => ?_) (fun zc237 => ?_)
      · skip
        have zn237 := z0_f zc237
        refine z_sub (L' := [(0, .ref (b)), (1, .ref (ad 33)), (2, .int (nI mm)), (5, .int (nI fr)), (7, .int (nI cc9)), (8, .int (t5))]) [2, 3, 4, 5, 1, 0] rfl ?_
        exact join247 0
      · skip
        have zn237 := z0_t (by omega) zc237
        refine z_iload C dL_law_240 0 rfl ?_
        refine z_if_ne (tgt := 247) C dL_law_242 (by decide) (fun zc242 => ?_) (fun zc242 => ?_)
        · skip
          refine z_sub (L' := [(0, .ref (b)), (1, .ref (ad 33)), (2, .int (nI mm)), (5, .int (nI fr)), (7, .int (nI cc9)), (8, .int (t5))]) [2, 3, 4, 5, 1, 0] rfl ?_
          exact join247 0
        · skip
          exact False.elim (absurd (zc242.symm.trans (ht5.symm.trans (v_circ hB hG2.2.1 ho hf2 zn237))) (by decide))
    · skip
      exact (znonneg (by omega) zc222).elim
  · skip
    refine z_topi (y := (-1)) (by rw [if_neg h9]) ?_
    refine z_istore (L' := [(7, .int ((-1))), (0, .ref (b)), (1, .ref (ad 33)), (2, .int (nI mm)), (5, .int (nI fr))]) C dL_law_218 (by decide) rfl ?_
    refine z_iload C dL_law_220 0 rfl ?_
    refine z_if_ge (tgt := 227) C dL_law_222 (by decide) (fun zc222 => ?_) (fun zc222 => ?_)
    · skip
      exact False.elim (absurd zc222 (by decide))
    · skip
      refine z_iconst (v := nI 1) C (by decide) dL_law_225 ?_
      refine z_widen (k := 600104) (q := 7301314) (by omega) (by omega) ?_
      exact law_ret CA hA9 dL_law_226

set_option maxHeartbeats 4000000 in
set_option maxRecDepth 100000 in
theorem lg_C {pq : Program} {l : Launch} {lq : Env} {sq : State} {mq : MethodId} {bq : List Frame} {hmq : Method} {cq : Code} {D : va_G} {ad : Nat → Nat} {cI cL cR : ClassId} {b Ln : Nat} {sc : Nat → Int32} (C0 : LQ9 pq l sq mq hmq cq D 36 ad cI cL cR b Ln sc) {c0 mm : Nat} {u A : xS} {B : Nat → Nat → Nat} (hIv : xI u mm B 0) (hAB : ∀ j, j < 8 → A.1 35 j = nI (B j 5)) (hm9 : 1 ≤ mm) (hm6 : mm ≤ 6) : ZZ pq l lq room_1 sq mq #[Value.ref b] bq hmq cq D vwCl 36 ad 16 60 33000 (lw_Z bq #[Value.ref b] sq) (PF ad cI cL cR c0 (u, A)) [(0, .ref (b)), (1, .ref (ad 33)), (2, .int (nI mm)), (4, .ref (ad 35))] 74 [] := by
  have C00 := C0
  obtain ⟨CA, hA9, C, hml, hown, hts, hK, hX, hI, hst0⟩ := C0
  obtain ⟨hX0, hcst, hXs, hbl, hbA, hL9⟩ := id hX
  have hB : gB mm B := hIv.1.1
  have hn8 : mm ≤ 8 := hB.1
  refine z_iconst (v := nI 1) C (by decide) dL_law_74 ?_
  refine z_istore (L' := [(5, .int (nI 1)), (0, .ref (b)), (1, .ref (ad 33)), (2, .int (nI mm)), (4, .ref (ad 35))]) C dL_law_75 (by decide) rfl ?_
  refine z_aload C dL_law_77 4 rfl ?_
  refine z_astore (L' := [(6, .ref (ad 35)), (5, .int (nI 1)), (0, .ref (b)), (1, .ref (ad 33)), (2, .int (nI mm)), (4, .ref (ad 35))]) C dL_law_79 (by decide) rfl ?_
  refine z_aload C dL_law_81 0 rfl ?_
  refine z_alen (q := 35) (len := 8) C hK (by decide) rfl 0 rfl (v := nI 8) (by decide) dL_law_83 ?_
  refine z_istore (L' := [(7, .int (nI 8)), (6, .ref (ad 35)), (5, .int (nI 1)), (0, .ref (b)), (1, .ref (ad 33)), (2, .int (nI mm)), (4, .ref (ad 35))]) C dL_law_84 (by decide) rfl ?_
  refine z_iconst (v := nI 0) C (by decide) dL_law_86 ?_
  refine z_istore (L' := [(8, .int (nI 0)), (7, .int (nI 8)), (6, .ref (ad 35)), (5, .int (nI 1)), (0, .ref (b)), (1, .ref (ad 33)), (2, .int (nI mm)), (4, .ref (ad 35))]) C dL_law_87 (by decide) rfl ?_
  have loop89 : ∀ (d89 : Nat) (j9 fr : Nat), 8 - j9 < d89 → (j9 ≤ 8) → (fr ≤ 1) → (fr = 1 → ∀ i, i < j9 → B i 5 = 0) → ZZ pq l lq room_1 sq mq #[Value.ref b] bq hmq cq D vwCl 36 ad 16 60 33000 (lw_Z bq #[Value.ref b] sq) (PF ad cI cL cR c0 (u, A)) [(0, .ref (b)), (1, .ref (ad 33)), (2, .int (nI mm)), (5, .int (nI fr)), (6, .ref (ad 35)), (7, .int (nI 8)), (8, .int (nI j9))] 89 [] := by
    intro d89
    induction d89 with
    | zero => intro j9 fr hz; exact absurd hz (Nat.not_lt_zero _)
    | succ d89 ih89 =>
      intro j9 fr hz89 hj9 hfr1 hfr
      refine z_iload C dL_law_89 6 rfl ?_
      refine z_iload C dL_law_91 5 rfl ?_
      refine z_icmp_ge (tgt := 126) C dL_law_93 (by decide) (fun zc93 => ?_) (fun zc93 => ?_)
      · skip
        have zn93 := zge_t (a := j9) (b := 8) (by omega) (by omega) zc93
        have hfr2 : fr = 1 → fre B := fun z i hi => hfr z i (by omega)
        refine z_aload_n C dL_law_126 1 rfl ?_
        refine z_aload_n C dL_law_127 0 rfl ?_
        refine z_bipush (v := nI 11) C (by decide) dL_law_128 ?_
        refine z_callSi pX_ok C hml hown hts hK hX (c_L_cell l D ad cI cL cR c0 36 Ln b sc hI (by decide) 11 (by decide) ((u, A))) (va_cwS 2 hts gL_law_L_cell rfl rfl rfl (by decide +kernel) ⟨Nat.le_of_ble_eq_true rfl, Nat.le_of_ble_eq_true rfl⟩) rfl (st := [.ref (ad 33)]) rfl (Nat.le_of_ble_eq_true rfl) dL_law_130 ⟨by show 60 + 0 ≤ 600104; omega, by show 33000 + 0 ≤ 7301314; omega⟩ (fun r130 z130 h130 => ?_)
        obtain ⟨e130, f130⟩ := h130
        subst e130
        subst f130
        refine z_bipush (v := nI 64) C (by decide) dL_law_133 ?_
        refine z_callSi pX_ok C hml hown hts hK hX (c_L_below l D ad cI cL cR c0 36 Ln b sc hI (by decide) (ce sc Ln 11) 64 (by decide) (by decide) ((u, A))) (va_cwS 2 hts gL_law_L_below rfl rfl rfl (by decide +kernel) ⟨Nat.le_of_ble_eq_true rfl, Nat.le_of_ble_eq_true rfl⟩) rfl (st := [.ref (ad 33)]) rfl (Nat.le_of_ble_eq_true rfl) dL_law_135 ⟨by show 60 + 0 ≤ 600104; omega, by show 33000 + 0 ≤ 7301314; omega⟩ (fun r135 z135 h135 => ?_)
        obtain ⟨e135, f135⟩ := h135
        subst e135
        subst f135
        refine z_callVi (q := 33) pX_ok C hml hown hts hK hX (fun sz => z_liftI (σ := id) (F := fun u9 => PF ad cI cL cR c0 (u9, A)) (F1 := xF ad cI cL cR) (f1 := xF ad cI cL cR u) (pL (by decide) hI) (fun _ h => h) (pX_x (by decide)) (fun k hk => PF_x k hk) (fun _ k hk => PF_x k hk) PF_x2 (fun _ _ h => h) (c_X6_put l D ad cI cL cR (gI_n (by decide) hI) u (bl (ce sc Ln 11) 64) (bl_lt _ (by decide)) 0 (by decide) hIv.2.2.1 sz)) (cwV 1 hts gL_law_X6_put rfl rfl rfl (by decide +kernel) ⟨Nat.le_of_ble_eq_true rfl, Nat.le_of_ble_eq_true rfl⟩) (by decide) (ci := 6) rfl rfl rfl (st := []) rfl (Nat.le_of_ble_eq_true rfl) dL_law_138 ⟨by show 60 + 0 ≤ 600104; omega, by show 33000 + 0 ≤ 7301314; omega⟩ (fun r138 u138 h138 => ?_)
        obtain ⟨e138, f138⟩ := h138
        subst e138
        have hF1 := bl_lt (ce sc Ln 11) (m := 64) (by decide)
        have hI2 : xI u138 mm B (bl (ce sc Ln 11) 64) := by rw [f138]; exact xI_ps hIv (by have := Nat.two_pow_pos mm; omega)
        have hz8 : u138.1 21 8 = 0 := by rw [f138, xs_c (by decide), xs_s]; rfl
        clear f138
        refine z_pop C rfl dL_law_141 ?_
        refine z_iconst (v := nI 1) C (by decide) dL_law_142 ?_
        refine z_aload_n C dL_law_143 0 rfl ?_
        refine z_bipush (v := nI 12) C (by decide) dL_law_144 ?_
        refine z_callSi pX_ok C hml hown hts hK hX (c_L_cell l D ad cI cL cR c0 36 Ln b sc hI (by decide) 12 (by decide) ((u138, A))) (va_cwS 2 hts gL_law_L_cell rfl rfl rfl (by decide +kernel) ⟨Nat.le_of_ble_eq_true rfl, Nat.le_of_ble_eq_true rfl⟩) rfl (st := [.int (nI 1)]) rfl (Nat.le_of_ble_eq_true rfl) dL_law_146 ⟨by show 60 + 0 ≤ 600104; omega, by show 33000 + 0 ≤ 7301314; omega⟩ (fun r146 z146 h146 => ?_)
        obtain ⟨e146, f146⟩ := h146
        subst e146
        subst f146
        refine z_iconst (v := nI 3) C (by decide) dL_law_149 ?_
        refine z_callSi pX_ok C hml hown hts hK hX (c_L_below l D ad cI cL cR c0 36 Ln b sc hI (by decide) (ce sc Ln 12) 3 (by decide) (by decide) ((u138, A))) (va_cwS 2 hts gL_law_L_below rfl rfl rfl (by decide +kernel) ⟨Nat.le_of_ble_eq_true rfl, Nat.le_of_ble_eq_true rfl⟩) rfl (st := [.int (nI 1)]) rfl (Nat.le_of_ble_eq_true rfl) dL_law_150 ⟨by show 60 + 0 ≤ 600104; omega, by show 33000 + 0 ≤ 7301314; omega⟩ (fun r150 z150 h150 => ?_)
        obtain ⟨e150, f150⟩ := h150
        subst e150
        subst f150
        refine z_iadd C dL_law_153 ?_
        refine z_topi (y := nI (1 + (bl (ce sc Ln 12) 3))) (nI_add 1 (bl (ce sc Ln 12) 3)) ?_
        refine z_istore (L' := [(6, .int (nI (1 + (bl (ce sc Ln 12) 3)))), (0, .ref (b)), (1, .ref (ad 33)), (2, .int (nI mm)), (5, .int (nI fr)), (7, .int (nI 8)), (8, .int (nI j9))]) C dL_law_154 (by decide) rfl ?_
        refine z_iconst (v := nI 0) C (by decide) dL_law_156 ?_
        refine z_istore (L' := [(7, .int (nI 0)), (6, .int (nI (1 + (bl (ce sc Ln 12) 3)))), (0, .ref (b)), (1, .ref (ad 33)), (2, .int (nI mm)), (5, .int (nI fr)), (8, .int (nI j9))]) C dL_law_157 (by decide) rfl ?_
        have loop159 : ∀ (d159 : Nat) (k x : Nat) (w : xS), 1 + bl (ce sc Ln 12) 3 - k < d159 → (k ≤ 1 + bl (ce sc Ln 12) 3) → (xI w mm B x) → (onx B x) → (w.1 21 8 = 0) → ZZ pq l lq room_1 sq mq #[Value.ref b] bq hmq cq D vwCl 36 ad 16 60 33000 (lw_Z bq #[Value.ref b] sq) (PF ad cI cL cR c0 (w, A)) [(0, .ref (b)), (1, .ref (ad 33)), (2, .int (nI mm)), (5, .int (nI fr)), (6, .int (nI (1 + bl (ce sc Ln 12) 3))), (7, .int (nI k))] 159 [] := by
          intro d159
          induction d159 with
          | zero => intro k x w hz; exact absurd hz (Nat.not_lt_zero _)
          | succ d159 ih159 =>
            intro k x w hz159 hk9 hIw ho2 hw8
            have h3 := bl_lt (ce sc Ln 12) (m := 3) (by decide)
            refine z_iload C dL_law_159 5 rfl ?_
            refine z_iload C dL_law_161 4 rfl ?_
            refine z_icmp_ge (tgt := 214) C dL_law_163 (by decide) (fun zc163 => ?_) (fun zc163 => ?_)
            · skip
              have zn163 := zge_t (a := k) (b := 1 + bl (ce sc Ln 12) 3) (by omega) (by omega) zc163
              refine z_widen (k := 60) (q := 33000) (by omega) (by omega) ?_
              refine z_sub (L' := [(0, .ref (b)), (1, .ref (ad 33)), (2, .int (nI mm)), (5, .int (nI fr))]) [0, 1, 2, 3] rfl ?_
              exact lg_D C00 hIw ho2 hw8 hfr1 hfr2 hm9
            · skip
              have zn163 := zge_f (a := k) (b := 1 + bl (ce sc Ln 12) 3) (by omega) (by omega) zc163
              refine z_aload_n C dL_law_166 1 rfl ?_
              refine z_aload_n C dL_law_167 0 rfl ?_
              refine z_bipush (v := nI 13) C (by decide) dL_law_168 ?_
              refine z_iload C dL_law_170 5 rfl ?_
              refine z_iadd C dL_law_172 ?_
              refine z_topi (y := nI (13 + k)) (nI_add 13 k) ?_
              refine z_callSi pX_ok C hml hown hts hK hX (c_L_cell l D ad cI cL cR c0 36 Ln b sc hI (by decide) (13 + k) (by omega) ((w, A))) (va_cwS 2 hts gL_law_L_cell rfl rfl rfl (by decide +kernel) ⟨Nat.le_of_ble_eq_true rfl, Nat.le_of_ble_eq_true rfl⟩) rfl (st := [.ref (ad 33)]) rfl (Nat.le_of_ble_eq_true rfl) dL_law_173 ⟨by show 60 + 0 ≤ 600104; omega, by show 33000 + 0 ≤ 7301314; omega⟩ (fun r173 z173 h173 => ?_)
              obtain ⟨e173, f173⟩ := h173
              subst e173
              subst f173
              refine z_bipush (v := nI 6) C (by decide) dL_law_176 ?_
              refine z_callSi pX_ok C hml hown hts hK hX (c_L_below l D ad cI cL cR c0 36 Ln b sc hI (by decide) (ce sc Ln (13 + k)) 6 (by decide) (by decide) ((w, A))) (va_cwS 2 hts gL_law_L_below rfl rfl rfl (by decide +kernel) ⟨Nat.le_of_ble_eq_true rfl, Nat.le_of_ble_eq_true rfl⟩) rfl (st := [.ref (ad 33)]) rfl (Nat.le_of_ble_eq_true rfl) dL_law_178 ⟨by show 60 + 0 ≤ 600104; omega, by show 33000 + 0 ≤ 7301314; omega⟩ (fun r178 z178 h178 => ?_)
              obtain ⟨e178, f178⟩ := h178
              subst e178
              subst f178
              refine z_aload_n C dL_law_181 0 rfl ?_
              refine z_bipush (v := nI 13) C (by decide) dL_law_182 ?_
              refine z_iload C dL_law_184 5 rfl ?_
              refine z_iadd C dL_law_186 ?_
              refine z_topi (y := nI (13 + k)) (nI_add 13 k) ?_
              refine z_callSi pX_ok C hml hown hts hK hX (c_L_cell l D ad cI cL cR c0 36 Ln b sc hI (by decide) (13 + k) (by omega) ((w, A))) (va_cwS 2 hts gL_law_L_cell rfl rfl rfl (by decide +kernel) ⟨Nat.le_of_ble_eq_true rfl, Nat.le_of_ble_eq_true rfl⟩) rfl (st := [.int (nI (bl (ce sc Ln (13 + k)) 6)), .ref (ad 33)]) rfl (Nat.le_of_ble_eq_true rfl) dL_law_187 ⟨by show 60 + 0 ≤ 600104; omega, by show 33000 + 0 ≤ 7301314; omega⟩ (fun r187 z187 h187 => ?_)
              obtain ⟨e187, f187⟩ := h187
              subst e187
              subst f187
              refine z_iconst (v := nI 4) C (by decide) dL_law_190 ?_
              refine z_ishr C dL_law_191 ?_
              refine z_iconst (v := nI 3) C (by decide) dL_law_192 ?_
              refine z_callSi pX_ok C hml hown hts hK hX (c_L_below l D ad cI cL cR c0 36 Ln b sc hI (by decide) ((ce sc Ln (13 + k)) >>> ((nI 4 : Int32) &&& 31)) 3 (by decide) (by decide) ((w, A))) (va_cwS 2 hts gL_law_L_below rfl rfl rfl (by decide +kernel) ⟨Nat.le_of_ble_eq_true rfl, Nat.le_of_ble_eq_true rfl⟩) rfl (st := [.int (nI (bl (ce sc Ln (13 + k)) 6)), .ref (ad 33)]) rfl (Nat.le_of_ble_eq_true rfl) dL_law_193 ⟨by show 60 + 0 ≤ 600104; omega, by show 33000 + 0 ≤ 7301314; omega⟩ (fun r193 z193 h193 => ?_)
              obtain ⟨e193, f193⟩ := h193
              subst e193
              subst f193
              have hb3 := bl_lt ((ce sc Ln (13 + k)) >>> ((nI 4 : Int32) &&& 31)) (m := 3) (by decide)
              have join204 : ∀ (b9 : Nat), (b9 ≤ 1) → ZZ pq l lq room_1 sq mq #[Value.ref b] bq hmq cq D vwCl 36 ad 16 60 33000 (lw_Z bq #[Value.ref b] sq) (PF ad cI cL cR c0 (w, A)) [(0, .ref (b)), (1, .ref (ad 33)), (2, .int (nI mm)), (5, .int (nI fr)), (6, .int (nI (1 + bl (ce sc Ln 12) 3))), (7, .int (nI k))] 204 [.int (nI b9), .int (nI (bl (ce sc Ln (13 + k)) 6)), .ref (ad 33)] := by
                intro b9 hb9
                have hb6 := bl_lt (ce sc Ln (13 + k)) (m := 6) (by decide)
                refine z_callVi (q := 33) pX_ok C hml hown hts hK hX (fun sz => z_liftI (σ := id) (F := fun u9 => PF ad cI cL cR c0 (u9, A)) (F1 := xF ad cI cL cR) (f1 := xF ad cI cL cR w) (pL (by decide) hI) (fun _ h => h) (pX_x (by decide)) (fun k hk => PF_x k hk) (fun _ k hk => PF_x k hk) PF_x2 (fun _ _ h => h) (c_X6_change l D ad cI cL cR (gI_n (by decide) hI) w mm B hIw.1 x (by have := hIw.2.1; have := pn8 hn8; omega) hIw.2.2.1 (bl (ce sc Ln (13 + k)) 6) (bl_lt _ (by decide)) b9 hb9 sz)) (cwV 2 hts gL_law_X6_change rfl rfl rfl (by decide +kernel) ⟨Nat.le_of_ble_eq_true rfl, Nat.le_of_ble_eq_true rfl⟩) (by decide) (ci := 6) rfl rfl rfl (st := []) rfl (Nat.le_of_ble_eq_true rfl) dL_law_204 ⟨by show 60 + 0 ≤ 600104; omega, by show 33000 + 0 ≤ 7301314; omega⟩ (fun r204 u204 h204 => ?_)
                obtain ⟨e204, f204⟩ := h204
                subst e204
                have ha12 : 2 * (bl (ce sc Ln (13 + k)) 6) + b9 < 12 := by omega
                have hI3 : xI u204 mm B (chg B x (2 * (bl (ce sc Ln (13 + k)) 6) + b9)) := by rw [f204]; exact xI_ps hIw (chg_bits hB hIw.2.1 ha12)
                have hz9 : u204.1 21 8 = 0 := by rw [f204, xs_c (by decide), xs_s]; rfl
                clear f204
                refine z_pop C rfl dL_law_207 ?_
                refine z_iinc (L' := [(7, .int (nI (k + 1))), (0, .ref (b)), (1, .ref (ad 33)), (2, .int (nI mm)), (5, .int (nI fr)), (6, .int (nI (1 + bl (ce sc Ln 12) 3)))]) C dL_law_208 5 rfl (nI_1 k) (by decide) rfl ?_
                refine z_goto (tgt := 159) C dL_law_211 (by decide) ?_
                refine z_sub (L' := [(0, .ref (b)), (1, .ref (ad 33)), (2, .int (nI mm)), (5, .int (nI fr)), (6, .int (nI (1 + bl (ce sc Ln 12) 3))), (7, .int (nI (k + 1)))]) [1, 2, 3, 4, 5, 0] rfl ?_
                exact ih159 (k + 1) (chg B x (2 * (bl (ce sc Ln (13 + k)) 6) + b9)) u204 (by omega) (by omega) hI3 (onx_chg ha12 ho2) hz9
              refine z_if_le (tgt := 203) C dL_law_196 (by decide) (fun zc196 => ?_) (fun zc196 => ?_)
              · skip
                have zn196 := zle0_t (by omega) zc196
                refine z_iconst (v := nI 0) C (by decide) dL_law_203 ?_
                refine z_sub (L' := [(0, .ref (b)), (1, .ref (ad 33)), (2, .int (nI mm)), (5, .int (nI fr)), (6, .int (nI (1 + bl (ce sc Ln 12) 3))), (7, .int (nI k))]) [0, 1, 2, 3, 4, 5] rfl ?_
                exact join204 0 (by decide)
              · skip
                have zn196 := zle0_f (by omega) zc196
                refine z_iconst (v := nI 1) C (by decide) dL_law_199 ?_
                refine z_goto (tgt := 204) C dL_law_200 (by decide) ?_
                refine z_sub (L' := [(0, .ref (b)), (1, .ref (ad 33)), (2, .int (nI mm)), (5, .int (nI fr)), (6, .int (nI (1 + bl (ce sc Ln 12) 3))), (7, .int (nI k))]) [0, 1, 2, 3, 4, 5] rfl ?_
                exact join204 1 (by decide)
        refine z_sub (L' := [(0, .ref (b)), (1, .ref (ad 33)), (2, .int (nI mm)), (5, .int (nI fr)), (6, .int (nI (1 + (bl (ce sc Ln 12) 3)))), (7, .int (nI 0))]) [2, 3, 4, 5, 1, 0] rfl ?_
        exact loop159 (1 + bl (ce sc Ln 12) 3 + 1) 0 (bl (ce sc Ln 11) 64) u138 (by omega) (Nat.zero_le _) hI2 (onx_lt hF1) hz8
      · skip
        have zn93 := zge_f (a := j9) (b := 8) (by omega) (by omega) zc93
        refine z_aload C dL_law_96 4 rfl ?_
        refine z_iload C dL_law_98 6 rfl ?_
        refine z_iald (q := 35) (len := 8) (k := j9) C hK (by decide) rfl 0 rfl (rfl) (by omega) (by decide) dL_law_100 ?_
        refine z_topi (y := A.1 35 j9) rfl ?_
        refine z_topi (y := nI (B j9 5)) (hAB _ (by omega)) ?_
        refine z_istore (L' := [(9, .int (nI (B j9 5))), (0, .ref (b)), (1, .ref (ad 33)), (2, .int (nI mm)), (5, .int (nI fr)), (6, .ref (ad 35)), (7, .int (nI 8)), (8, .int (nI j9))]) C dL_law_101 (by decide) rfl ?_
        refine z_iload C dL_law_103 4 rfl ?_
        refine z_if_eq (tgt := 117) C dL_law_105 (by decide) (fun zc105 => ?_) (fun zc105 => ?_)
        · skip
          have zn105 := z0_t (by omega) zc105
          refine z_iconst (v := nI 0) C (by decide) dL_law_117 ?_
          refine z_istore (L' := [(5, .int (nI 0)), (9, .int (nI (B j9 5))), (0, .ref (b)), (1, .ref (ad 33)), (2, .int (nI mm)), (6, .ref (ad 35)), (7, .int (nI 8)), (8, .int (nI j9))]) C dL_law_118 (by decide) rfl ?_
          refine z_iinc (L' := [(8, .int (nI (j9 + 1))), (5, .int (nI 0)), (9, .int (nI (B j9 5))), (0, .ref (b)), (1, .ref (ad 33)), (2, .int (nI mm)), (6, .ref (ad 35)), (7, .int (nI 8))]) C dL_law_120 7 rfl (nI_1 j9) (by decide) rfl ?_
          refine z_goto (tgt := 89) C dL_law_123 (by decide) ?_
          refine z_sub (L' := [(0, .ref (b)), (1, .ref (ad 33)), (2, .int (nI mm)), (5, .int (nI 0)), (6, .ref (ad 35)), (7, .int (nI 8)), (8, .int (nI (j9 + 1)))]) [3, 4, 5, 1, 6, 7, 0] rfl ?_
          exact ih89 (j9 + 1) 0 (by omega) (by omega) (by decide) (fun z => absurd z (by decide))
        · skip
          have zn105 := z0_f zc105
          refine z_iload C dL_law_108 0 rfl ?_
          have hb5 := gB_5 hB (i := j9) (by omega)
          refine z_if_ne (tgt := 117) C dL_law_110 (by decide) (fun zc110 => ?_) (fun zc110 => ?_)
          · skip
            have zn110 := z0_f zc110
            refine z_iconst (v := nI 0) C (by decide) dL_law_117 ?_
            refine z_istore (L' := [(5, .int (nI 0)), (9, .int (nI (B j9 5))), (0, .ref (b)), (1, .ref (ad 33)), (2, .int (nI mm)), (6, .ref (ad 35)), (7, .int (nI 8)), (8, .int (nI j9))]) C dL_law_118 (by decide) rfl ?_
            refine z_iinc (L' := [(8, .int (nI (j9 + 1))), (5, .int (nI 0)), (9, .int (nI (B j9 5))), (0, .ref (b)), (1, .ref (ad 33)), (2, .int (nI mm)), (6, .ref (ad 35)), (7, .int (nI 8))]) C dL_law_120 7 rfl (nI_1 j9) (by decide) rfl ?_
            refine z_goto (tgt := 89) C dL_law_123 (by decide) ?_
            refine z_sub (L' := [(0, .ref (b)), (1, .ref (ad 33)), (2, .int (nI mm)), (5, .int (nI 0)), (6, .ref (ad 35)), (7, .int (nI 8)), (8, .int (nI (j9 + 1)))]) [3, 4, 5, 1, 6, 7, 0] rfl ?_
            exact ih89 (j9 + 1) 0 (by omega) (by omega) (by decide) (fun z => absurd z (by decide))
          · skip
            have zn110 := z0_t (by omega) zc110
            refine z_iconst (v := nI 1) C (by decide) dL_law_113 ?_
            refine z_goto (tgt := 118) C dL_law_114 (by decide) ?_
            refine z_istore (L' := [(5, .int (nI 1)), (9, .int (nI (B j9 5))), (0, .ref (b)), (1, .ref (ad 33)), (2, .int (nI mm)), (6, .ref (ad 35)), (7, .int (nI 8)), (8, .int (nI j9))]) C dL_law_118 (by decide) rfl ?_
            refine z_iinc (L' := [(8, .int (nI (j9 + 1))), (5, .int (nI 1)), (9, .int (nI (B j9 5))), (0, .ref (b)), (1, .ref (ad 33)), (2, .int (nI mm)), (6, .ref (ad 35)), (7, .int (nI 8))]) C dL_law_120 7 rfl (nI_1 j9) (by decide) rfl ?_
            refine z_goto (tgt := 89) C dL_law_123 (by decide) ?_
            refine z_sub (L' := [(0, .ref (b)), (1, .ref (ad 33)), (2, .int (nI mm)), (5, .int (nI 1)), (6, .ref (ad 35)), (7, .int (nI 8)), (8, .int (nI (j9 + 1)))]) [3, 4, 5, 1, 6, 7, 0] rfl ?_
            exact ih89 (j9 + 1) 1 (by omega) (by omega) (by decide) (fun _ i hi => by rcases Nat.lt_or_ge i j9 with z | z; exact hfr (by omega) i z; rw [show i = j9 by omega]; exact zn110)
  refine z_sub (L' := [(0, .ref (b)), (1, .ref (ad 33)), (2, .int (nI mm)), (5, .int (nI 1)), (6, .ref (ad 35)), (7, .int (nI 8)), (8, .int (nI 0))]) [4, 5, 6, 3, 2, 1, 0] rfl ?_
  exact loop89 9 0 1 (by decide) (by decide) (by decide) (fun _ i hi => absurd hi (Nat.not_lt_zero i))

set_option maxHeartbeats 4000000 in
set_option maxRecDepth 100000 in
theorem lg_B3 {pq : Program} {l : Launch} {lq : Env} {sq : State} {mq : MethodId} {bq : List Frame} {hmq : Method} {cq : Code} {D : va_G} {ad : Nat → Nat} {cI cL cR : ClassId} {b Ln : Nat} {sc : Nat → Int32} (C0 : LQ9 pq l sq mq hmq cq D 36 ad cI cL cR b Ln sc) {c0 mm rk : Nat} {u A : xS} {B : Nat → Nat → Nat} (hIv : xI u mm B 0) (hAB : ∀ j, j < 8 → A.1 35 j = nI (B j 5)) (hm9 : 1 ≤ mm) (hm6 : mm ≤ 6) (hrk : rk ≤ 1) : ZZ pq l lq room_1 sq mq #[Value.ref b] bq hmq cq D vwCl 36 ad 16 50 32000 (lw_Z bq #[Value.ref b] sq) (PF ad cI cL cR c0 (u, A)) [(0, .ref (b)), (1, .ref (ad 33)), (2, .int (nI mm)), (3, .int (nI rk))] 50 [.ref (ad 35)] := by
  have C00 := C0
  obtain ⟨CA, hA9, C, hml, hown, hts, hK, hX, hI, hst0⟩ := C0
  obtain ⟨hX0, hcst, hXs, hbl, hbA, hL9⟩ := id hX
  refine z_astore (L' := [(4, .ref (ad 35)), (0, .ref (b)), (1, .ref (ad 33)), (2, .int (nI mm)), (3, .int (nI rk))]) C dL_law_50 (by decide) rfl ?_
  refine z_iload_n C dL_law_52 4 rfl ?_
  refine z_if_eq (tgt := 74) C dL_law_53 (by decide) (fun zc53 => ?_) (fun zc53 => ?_)
  · skip
    have zn53 := z0_t (by omega) zc53
    refine z_widen (k := 60) (q := 33000) (by omega) (by omega) ?_
    refine z_sub (L' := [(0, .ref (b)), (1, .ref (ad 33)), (2, .int (nI mm)), (4, .ref (ad 35))]) [1, 2, 3, 0] rfl ?_
    exact lg_C C00 hIv hAB hm9 hm6
  · skip
    have zn53 := z0_f zc53
    refine z_aload_n C dL_law_56 2 rfl ?_
    refine z_aload_n C dL_law_57 1 rfl ?_
    refine z_bipush (v := nI 10) C (by decide) dL_law_58 ?_
    refine z_callSi pX_ok C hml hown hts hK hX (c_L_cell l D ad cI cL cR c0 36 Ln b sc hI (by decide) 10 (by decide) ((u, A))) (va_cwS 2 hts gL_law_L_cell rfl rfl rfl (by decide +kernel) ⟨Nat.le_of_ble_eq_true rfl, Nat.le_of_ble_eq_true rfl⟩) rfl (st := [.ref (ad 33)]) rfl (Nat.le_of_ble_eq_true rfl) dL_law_60 ⟨by show 50 + 0 ≤ 600104; omega, by show 32000 + 0 ≤ 7301314; omega⟩ (fun r60 z60 h60 => ?_)
    obtain ⟨e60, f60⟩ := h60
    subst e60
    subst f60
    refine z_iload_n C dL_law_63 3 rfl ?_
    refine z_aload C dL_law_64 0 rfl ?_
    refine z_callWi pX_ok C hml hown hts hK hX (c_L_rank l hst0 D ad cI cL cR c0 Ln b sc hI (ce sc Ln 10) mm hm9 hm6 u A B hIv hAB) (vx_cwSW 4 hts gL_law_L_rank rfl rfl rfl (by decide +kernel) ⟨Nat.le_of_ble_eq_true rfl, Nat.le_of_ble_eq_true rfl⟩) rfl (st := []) rfl (Nat.le_of_ble_eq_true rfl) dL_law_66 ⟨by show 50 + 3 ≤ 600104; omega, by show 32000 + 18 ≤ 7301314; omega⟩ (fun r66 z66 h66 => ?_)
    obtain ⟨e66, B9, hI9, hAB9⟩ := h66
    subst e66
    obtain ⟨u66, A66⟩ := z66
    refine z_if_ne (tgt := 74) C dL_law_69 (by decide) (fun zc69 => ?_) (fun zc69 => ?_)
    · skip
      have zn69 := z0_f zc69
      refine z_widen (k := 60) (q := 33000) (by omega) (by omega) ?_
      refine z_sub (L' := [(0, .ref (b)), (1, .ref (ad 33)), (2, .int (nI mm)), (4, .ref (ad 35))]) [1, 2, 3, 0] rfl ?_
      exact lg_C C00 hI9 hAB9 hm9 hm6
    · skip
      have zn69 := z0_t (by omega) zc69
      exact absurd zn69 (by decide)

set_option maxHeartbeats 4000000 in
set_option maxRecDepth 100000 in
theorem lg_B {pq : Program} {l : Launch} {lq : Env} {sq : State} {mq : MethodId} {bq : List Frame} {hmq : Method} {cq : Code} {D : va_G} {ad : Nat → Nat} {cI cL cR : ClassId} {b Ln : Nat} {sc : Nat → Int32} (C0 : LQ9 pq l sq mq hmq cq D 35 ad cI cL cR b Ln sc) {c0 mm : Nat} {u A : xS} {B : Nat → Nat → Nat} (hIv : xI u mm B 0) (hfre : fre B) (hm9 : 1 ≤ mm) (hm6 : mm ≤ 6) : ZZ pq l lq room_1 sq mq #[Value.ref b] bq hmq cq D vwCl 35 ad 16 45 31500 (lw_Z bq #[Value.ref b] sq) (PF ad cI cL cR c0 (u, A)) [(0, .ref (b)), (1, .ref (ad 33)), (2, .int (nI mm))] 27 [] := by
  have C00 := C0
  obtain ⟨CA, hA9, C, hml, hown, hts, hK, hX, hI, hst0⟩ := C0
  obtain ⟨hX0, hcst, hXs, hbl, hbA, hL9⟩ := id hX
  refine z_aload_n C dL_law_27 0 rfl ?_
  refine z_bipush (v := nI 8) C (by decide) dL_law_28 ?_
  refine z_callSi pX_ok C hml hown hts hK hX (c_L_cell l D ad cI cL cR c0 35 Ln b sc hI (by decide) 8 (by decide) ((u, A))) (va_cwS 2 hts gL_law_L_cell rfl rfl rfl (by decide +kernel) ⟨Nat.le_of_ble_eq_true rfl, Nat.le_of_ble_eq_true rfl⟩) rfl (st := []) rfl (Nat.le_of_ble_eq_true rfl) dL_law_30 ⟨by show 45 + 0 ≤ 600104; omega, by show 31500 + 0 ≤ 7301314; omega⟩ (fun r30 z30 h30 => ?_)
  obtain ⟨e30, f30⟩ := h30
  subst e30
  subst f30
  refine z_iconst (v := nI 2) C (by decide) dL_law_33 ?_
  refine z_callSi pX_ok C hml hown hts hK hX (c_L_below l D ad cI cL cR c0 35 Ln b sc hI (by decide) (ce sc Ln 8) 2 (by decide) (by decide) ((u, A))) (va_cwS 2 hts gL_law_L_below rfl rfl rfl (by decide +kernel) ⟨Nat.le_of_ble_eq_true rfl, Nat.le_of_ble_eq_true rfl⟩) rfl (st := []) rfl (Nat.le_of_ble_eq_true rfl) dL_law_34 ⟨by show 45 + 0 ≤ 600104; omega, by show 31500 + 0 ≤ 7301314; omega⟩ (fun r34 z34 h34 => ?_)
  obtain ⟨e34, f34⟩ := h34
  subst e34
  subst f34
  have hb2 := bl_lt (ce sc Ln 8) (m := 2) (by decide)
  have join45 : ∀ (rk : Nat), (rk ≤ 1) → ZZ pq l lq room_1 sq mq #[Value.ref b] bq hmq cq D vwCl 35 ad 16 45 31500 (lw_Z bq #[Value.ref b] sq) (PF ad cI cL cR c0 (u, A)) [(0, .ref (b)), (1, .ref (ad 33)), (2, .int (nI mm))] 45 [.int (nI rk)] := by
    intro rk hrk
    refine z_istore_n (L' := [(3, .int (nI rk)), (0, .ref (b)), (1, .ref (ad 33)), (2, .int (nI mm))]) C dL_law_45 (by decide) rfl ?_
    refine z_bipush (v := nI 8) C (by decide) dL_law_46 ?_
    refine z_newaP C (hts (.arrayClass .int) (by decide +kernel)) hK hI (by decide) (len := 8) (by decide) rfl ⟨by show 45 + 1 ≤ 600104; omega, by show 31500 + 8 ≤ 7301314; omega⟩ dL_law_48 (fun a2 g1 g2 g3 => ?_)
    rw [← g1 33 (by decide)]
    refine z_widen (k := 50) (q := 32000) (by omega) (by omega) ?_
    refine z_sub (L' := [(0, .ref b), (1, .ref (a2 33)), (2, .int (nI mm)), (3, .int (nI rk))]) [1, 2, 3, 0] rfl ?_
    exact lg_B3 (LQ_s C00 g1 g2 g3) hIv (fun j hj => by rw [zA_n, hfre j hj]; rfl) hm9 hm6 hrk
  refine z_if_ne (tgt := 44) C dL_law_37 (by decide) (fun zc37 => ?_) (fun zc37 => ?_)
  · skip
    have zn37 := z0_f zc37
    refine z_iconst (v := nI 0) C (by decide) dL_law_44 ?_
    refine z_sub (L' := [(0, .ref (b)), (1, .ref (ad 33)), (2, .int (nI mm))]) [0, 1, 2] rfl ?_
    exact join45 0 (by decide)
  · skip
    have zn37 := z0_t (by omega) zc37
    refine z_iconst (v := nI 1) C (by decide) dL_law_40 ?_
    refine z_goto (tgt := 45) C dL_law_41 (by decide) ?_
    refine z_sub (L' := [(0, .ref (b)), (1, .ref (ad 33)), (2, .int (nI mm))]) [0, 1, 2] rfl ?_
    exact join45 1 (by decide)

set_option maxHeartbeats 4000000 in
set_option maxRecDepth 100000 in
theorem lg_A2 {pq : Program} {l : Launch} {lq : Env} {sq : State} {mq : MethodId} {bq : List Frame} {hmq : Method} {cq : Code} {D : va_G} {ad : Nat → Nat} {cI cL cR : ClassId} {b Ln : Nat} {sc : Nat → Int32} (C0 : LQ9 pq l sq mq hmq cq D 35 ad cI cL cR b Ln sc) {c0 : Nat} {A : xS} : ZZ pq l lq room_1 sq mq #[Value.ref b] bq hmq cq D vwCl 35 ad 16 42 31100 (lw_Z bq #[Value.ref b] sq) (PF ad cI cL cR c0 (u00, A)) [(0, .ref (b)), (1, .ref (ad 33))] 17 [.ref (ad 34), .int (nI 6), .int (nI 0), .ref (b), .ref (ad 33)] := by
  have C00 := C0
  obtain ⟨CA, hA9, C, hml, hown, hts, hK, hX, hI, hst0⟩ := C0
  obtain ⟨hX0, hcst, hXs, hbl, hbA, hL9⟩ := id hX
  refine z_callSi pX_ok C hml hown hts hK hX (c_L_build l D ad cI cL cR c0 Ln b sc hI A) (va_cwS 5 hts gL_law_L_build rfl rfl rfl (by decide +kernel) ⟨Nat.le_of_ble_eq_true rfl, Nat.le_of_ble_eq_true rfl⟩) rfl (st := []) rfl (Nat.le_of_ble_eq_true rfl) dL_law_17 ⟨by show 42 + 0 ≤ 600104; omega, by show 31100 + 0 ≤ 7301314; omega⟩ (fun r17 z17 h17 => ?_)
  obtain ⟨mm, B, e17, hm9, hm6, hIv, hfre⟩ := h17
  subst e17
  obtain ⟨u17, A17⟩ := z17
  refine z_istore_n (L' := [(2, .int (nI mm)), (0, .ref (b)), (1, .ref (ad 33))]) C dL_law_20 (by decide) rfl ?_
  refine z_iload_n C dL_law_21 0 rfl ?_
  refine z_if_ge (tgt := 27) C dL_law_22 (by decide) (fun zc22 => ?_) (fun zc22 => ?_)
  · skip
    refine z_widen (k := 45) (q := 31500) (by omega) (by omega) ?_
    refine z_sub (L' := [(0, .ref (b)), (1, .ref (ad 33)), (2, .int (nI mm))]) [1, 2, 0] rfl ?_
    exact lg_B C00 hIv hfre hm9 hm6
  · skip
    exact (znonneg (by omega) zc22).elim

set_option maxHeartbeats 4000000 in
set_option maxRecDepth 100000 in
theorem lg_A {pq : Program} {l : Launch} {lq : Env} {sq : State} {mq : MethodId} {bq : List Frame} {hmq : Method} {cq : Code} {D : va_G} {ad : Nat → Nat} {cI cL cR : ClassId} {b Ln : Nat} {sc : Nat → Int32} (C0 : LQ9 pq l sq mq hmq cq D 34 ad cI cL cR b Ln sc) {c0 : Nat} {A : xS} : ZZ pq l lq room_1 sq mq #[Value.ref b] bq hmq cq D vwCl 34 ad 16 40 31000 (lw_Z bq #[Value.ref b] sq) (PF ad cI cL cR c0 (u00, A)) [(1, .ref (ad 33)), (0, .ref (b))] 8 [] := by
  have C00 := C0
  obtain ⟨CA, hA9, C, hml, hown, hts, hK, hX, hI, hst0⟩ := C0
  obtain ⟨hX0, hcst, hXs, hbl, hbA, hL9⟩ := id hX
  refine z_aload_n C dL_law_8 0 rfl ?_
  refine z_aload_n C dL_law_9 1 rfl ?_
  refine z_iconst (v := nI 0) C (by decide) dL_law_10 ?_
  refine z_bipush (v := nI 6) C (by decide) dL_law_11 ?_
  refine z_bipush (v := nI 72) C (by decide) dL_law_13 ?_
  refine z_newaP C (hts (.arrayClass .int) (by decide +kernel)) hK hI (by decide) (len := 72) (by decide) rfl ⟨by show 40 + 1 ≤ 600104; omega, by show 31000 + 72 ≤ 7301314; omega⟩ dL_law_15 (fun a2 g1 g2 g3 => ?_)
  rw [← g1 33 (by decide)]
  refine z_widen (k := 42) (q := 31100) (by omega) (by omega) ?_
  refine z_sub (L' := [(0, .ref b), (1, .ref (a2 33))]) [1, 0] rfl ?_
  exact lg_A2 (LQ_s C00 g1 g2 g3)
