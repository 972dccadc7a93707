set_option maxHeartbeats 4000000 in
set_option maxRecDepth 100000 in
theorem c_X3_init (l : Launch) (D : va_G) (h0 : Nat) : ∀ sz, Met l yX3_init wsX3_init ({ frames := 1, cells := 4, slots := 4000, locals := 12 }) (va_Pc [.ref h0] (fun U => U.heap.size = sz ∧ va_P D vwCl [(h0, .inr (3, [.null, .null, .null, .null, .int 0, .int 0, .int 0, .long 0]))] U.heap ∧ va_K D vwCl [] U ∧ va_D (fun _ => True) [(h0, .inr (3, [.null, .null, .null, .null, .int 0, .int 0, .int 0, .long 0]))] ∧ True)) (va_Qv (fun _ : Unit => True) (fun _ t => ∃ (q1 q2 q3 q4 : Nat) (c1 c2 c3 c4 : ClassId), va_P D vwCl [(h0, .inr (3, [.ref q1, .ref q2, .ref q3, .ref q4, .int 0, .int 0, .int 0, .long 0])), (q1, .inl (c1, 1000, .inl (fun _ => 0))), (q2, .inl (c2, 1000, .inl (fun _ => 0))), (q3, .inl (c3, 1000, .inr (.inl (fun _ => 0)))), (q4, .inl (c4, 1000, .inl (fun _ => 0)))] t.heap ∧ va_D (va_A [(h0, .inr (3, [.null, .null, .null, .null, .int 0, .int 0, .int 0, .long 0]))] sz) [(h0, .inr (3, [.ref q1, .ref q2, .ref q3, .ref q4, .int 0, .int 0, .int 0, .long 0])), (q1, .inl (c1, 1000, .inl (fun _ => 0))), (q2, .inl (c2, 1000, .inl (fun _ => 0))), (q3, .inl (c3, 1000, .inr (.inl (fun _ => 0)))), (q4, .inl (c4, 1000, .inl (fun _ => 0)))] ∧ va_K D vwCl [(c1, .int), (c2, .int), (c3, .long), (c4, .int)] t) (va_A [(h0, .inr (3, [.null, .null, .null, .null, .int 0, .int 0, .int 0, .long 0]))] sz)) 4 4000 (va_A [(h0, .inr (3, [.null, .null, .null, .null, .int 0, .int 0, .int 0, .long 0]))] sz) := by
  intro sz
  refine y_met (X := fun U => True) (cc := cX3_init) (maxL := 1) (ret := none) (by decide) rfl (Nat.le_of_ble_eq_true rfl) ?_
  intro p e s m args Q below meth c A C hr hml hown hts hlocks hin2 hX hsz hAe hA hQ
  subst hsz
  subst hAe
  rw [show lv_args 0 [.ref h0] = [(0, .ref h0)] from rfl]
  refine y_aload C 0 rfl dX3_init_0 ?_
  refine y_objInit C hml hown (hts (.methodLink RX3 3 objectInit) (by decide +kernel)) (hts (.instanceMethod objectInit) (by decide +kernel)) (hts (.code objectInit ⟨#[0xb1]⟩ 1 none) (by decide +kernel)) dX3_init_1 (Nat.le_of_ble_eq_true rfl) (fun _ => Nat.le_of_ble_eq_true rfl) ?_
  refine y_aload C 0 rfl dX3_init_4 ?_
  refine y_sipush (v := nI 1000) C (by decide) dX3_init_5 ?_
  refine y_newa (atype := .int) (ty := .int) (a0 := (1000, .inl (fun _ => 0))) (N' := 1000) C hA (hts (.arrayClass .int) (by decide +kernel)) rfl (fun _ => rfl) (by decide) (nI_clamp (n := 1000) (by decide)) (by decide) ⟨Nat.le_of_ble_eq_true rfl, Nat.le_of_ble_eq_true rfl⟩ dX3_init_8 (fun q1 c1 => ?_)
  refine y_widen (k := 1) (q := 1000) (Nat.le_refl _) (Nat.le_of_ble_eq_true rfl) ?_
  refine y_ws (ws' := [(h0, .inr (3, [.null, .null, .null, .null, .int 0, .int 0, .int 0, .long 0])), (q1, .inl (c1, 1000, .inl (fun _ => 0)))]) (tys' := [(c1, .int)]) rfl rfl ?_
  refine y_putF (ci := 3) (v := .ref q1) (ty := .array .int) (C0 := RX3) (T := TX3) (N := 8) C hts (by decide +kernel) tyX3 tyX3_ok nmX3 hown 0 rfl rfl 0 (by decide) (hts (.fieldLink RX3 9 "TriggerAnalyzer$Prospect" "incoming" "[I") (by decide +kernel)) (fun _ h9 => h9) rfl hin2 rfl (by decide +kernel) rfl rfl (Nat.le_of_ble_eq_true rfl) dX3_init_10 ?_
  refine y_ws (ws' := [(h0, .inr (3, [.ref q1, .null, .null, .null, .int 0, .int 0, .int 0, .long 0])), (q1, .inl (c1, 1000, .inl (fun _ => 0)))]) (tys' := [(c1, .int)]) rfl rfl ?_
  refine y_aload C 0 rfl dX3_init_13 ?_
  refine y_sipush (v := nI 1000) C (by decide) dX3_init_14 ?_
  refine y_newa (atype := .int) (ty := .int) (a0 := (1000, .inl (fun _ => 0))) (N' := 1000) C hA (hts (.arrayClass .int) (by decide +kernel)) rfl (fun _ => rfl) (by decide) (nI_clamp (n := 1000) (by decide)) (by decide) ⟨Nat.le_of_ble_eq_true rfl, Nat.le_of_ble_eq_true rfl⟩ dX3_init_17 (fun q2 c2 => ?_)
  refine y_widen (k := 2) (q := 2000) (Nat.le_refl _) (Nat.le_of_ble_eq_true rfl) ?_
  refine y_ws (ws' := [(h0, .inr (3, [.ref q1, .null, .null, .null, .int 0, .int 0, .int 0, .long 0])), (q1, .inl (c1, 1000, .inl (fun _ => 0))), (q2, .inl (c2, 1000, .inl (fun _ => 0)))]) (tys' := [(c1, .int), (c2, .int)]) rfl rfl ?_
  refine y_putF (ci := 3) (v := .ref q2) (ty := .array .int) (C0 := RX3) (T := TX3) (N := 8) C hts (by decide +kernel) tyX3 tyX3_ok nmX3 hown 0 rfl rfl 1 (by decide) (hts (.fieldLink RX3 15 "TriggerAnalyzer$Prospect" "plays" "[I") (by decide +kernel)) (fun _ h9 => h9) rfl hin2 rfl (by decide +kernel) rfl rfl (Nat.le_of_ble_eq_true rfl) dX3_init_19 ?_
  refine y_ws (ws' := [(h0, .inr (3, [.ref q1, .ref q2, .null, .null, .int 0, .int 0, .int 0, .long 0])), (q1, .inl (c1, 1000, .inl (fun _ => 0))), (q2, .inl (c2, 1000, .inl (fun _ => 0)))]) (tys' := [(c1, .int), (c2, .int)]) rfl rfl ?_
  refine y_aload C 0 rfl dX3_init_22 ?_
  refine y_sipush (v := nI 1000) C (by decide) dX3_init_23 ?_
  refine y_newa (atype := .long) (ty := .long) (a0 := (1000, .inr (.inl (fun _ => 0)))) (N' := 1000) C hA (hts (.arrayClass .long) (by decide +kernel)) rfl (fun _ => rfl) (by decide) (nI_clamp (n := 1000) (by decide)) (by decide) ⟨Nat.le_of_ble_eq_true rfl, Nat.le_of_ble_eq_true rfl⟩ dX3_init_26 (fun q3 c3 => ?_)
  refine y_widen (k := 3) (q := 3000) (Nat.le_refl _) (Nat.le_of_ble_eq_true rfl) ?_
  refine y_ws (ws' := [(h0, .inr (3, [.ref q1, .ref q2, .null, .null, .int 0, .int 0, .int 0, .long 0])), (q1, .inl (c1, 1000, .inl (fun _ => 0))), (q2, .inl (c2, 1000, .inl (fun _ => 0))), (q3, .inl (c3, 1000, .inr (.inl (fun _ => 0))))]) (tys' := [(c1, .int), (c2, .int), (c3, .long)]) rfl rfl ?_
  refine y_putF (ci := 3) (v := .ref q3) (ty := .array .long) (C0 := RX3) (T := TX3) (N := 8) C hts (by decide +kernel) tyX3 tyX3_ok nmX3 hown 0 rfl rfl 2 (by decide) (hts (.fieldLink RX3 18 "TriggerAnalyzer$Prospect" "rows" "[J") (by decide +kernel)) (fun _ h9 => h9) rfl hin2 rfl (by decide +kernel) rfl rfl (Nat.le_of_ble_eq_true rfl) dX3_init_28 ?_
  refine y_ws (ws' := [(h0, .inr (3, [.ref q1, .ref q2, .ref q3, .null, .int 0, .int 0, .int 0, .long 0])), (q1, .inl (c1, 1000, .inl (fun _ => 0))), (q2, .inl (c2, 1000, .inl (fun _ => 0))), (q3, .inl (c3, 1000, .inr (.inl (fun _ => 0))))]) (tys' := [(c1, .int), (c2, .int), (c3, .long)]) rfl rfl ?_
  refine y_aload C 0 rfl dX3_init_31 ?_
  refine y_sipush (v := nI 1000) C (by decide) dX3_init_32 ?_
  refine y_newa (atype := .int) (ty := .int) (a0 := (1000, .inl (fun _ => 0))) (N' := 1000) C hA (hts (.arrayClass .int) (by decide +kernel)) rfl (fun _ => rfl) (by decide) (nI_clamp (n := 1000) (by decide)) (by decide) ⟨Nat.le_of_ble_eq_true rfl, Nat.le_of_ble_eq_true rfl⟩ dX3_init_35 (fun q4 c4 => ?_)
  refine y_widen (k := 4) (q := 4000) (Nat.le_refl _) (Nat.le_of_ble_eq_true rfl) ?_
  refine y_ws (ws' := [(h0, .inr (3, [.ref q1, .ref q2, .ref q3, .null, .int 0, .int 0, .int 0, .long 0])), (q1, .inl (c1, 1000, .inl (fun _ => 0))), (q2, .inl (c2, 1000, .inl (fun _ => 0))), (q3, .inl (c3, 1000, .inr (.inl (fun _ => 0)))), (q4, .inl (c4, 1000, .inl (fun _ => 0)))]) (tys' := [(c1, .int), (c2, .int), (c3, .long), (c4, .int)]) rfl rfl ?_
  refine y_putF (ci := 3) (v := .ref q4) (ty := .array .int) (C0 := RX3) (T := TX3) (N := 8) C hts (by decide +kernel) tyX3 tyX3_ok nmX3 hown 0 rfl rfl 3 (by decide) (hts (.fieldLink RX3 22 "TriggerAnalyzer$Prospect" "queue" "[I") (by decide +kernel)) (fun _ h9 => h9) rfl hin2 rfl (by decide +kernel) rfl rfl (Nat.le_of_ble_eq_true rfl) dX3_init_37 ?_
  refine y_ws (ws' := [(h0, .inr (3, [.ref q1, .ref q2, .ref q3, .ref q4, .int 0, .int 0, .int 0, .long 0])), (q1, .inl (c1, 1000, .inl (fun _ => 0))), (q2, .inl (c2, 1000, .inl (fun _ => 0))), (q3, .inl (c3, 1000, .inr (.inl (fun _ => 0)))), (q4, .inl (c4, 1000, .inl (fun _ => 0)))]) (tys' := [(c1, .int), (c2, .int), (c3, .long), (c4, .int)]) rfl rfl ?_
  exact y_vret C hr hlocks hQ (fun t h1 h2 h3 => ⟨q1, q2, q3, q4, c1, c2, c3, c4, h1, h2, h3⟩) dX3_init_40

set_option maxHeartbeats 4000000 in
set_option maxRecDepth 100000 in
theorem c_X0_init (l : Launch) (D : va_G) (h0 : Nat) : ∀ sz, Met l yX0_init wsX0_init ({ frames := 1, cells := 1, slots := 64, locals := 12 }) (va_Pc [.ref h0] (fun U => U.heap.size = sz ∧ va_P D vwCl [(h0, .inr (0, [.null, .int 0, .int 0]))] U.heap ∧ va_K D vwCl [] U ∧ va_D (fun _ => True) [(h0, .inr (0, [.null, .int 0, .int 0]))] ∧ True)) (va_Qv (fun _ : Unit => True) (fun _ t => ∃ (q1 : Nat) (c1 : ClassId), va_P D vwCl [(h0, .inr (0, [.ref q1, .int 0, .int ((-1))])), (q1, .inl (c1, 64, .inl (fun _ => 0)))] t.heap ∧ va_D (va_A [(h0, .inr (0, [.null, .int 0, .int 0]))] sz) [(h0, .inr (0, [.ref q1, .int 0, .int ((-1))])), (q1, .inl (c1, 64, .inl (fun _ => 0)))] ∧ va_K D vwCl [(c1, .int)] t) (va_A [(h0, .inr (0, [.null, .int 0, .int 0]))] sz)) 1 64 (va_A [(h0, .inr (0, [.null, .int 0, .int 0]))] sz) := by
  intro sz
  refine y_met (X := fun U => True) (cc := cX0_init) (maxL := 1) (ret := none) (by decide) rfl (Nat.le_of_ble_eq_true rfl) ?_
  intro p e s m args Q below meth c A C hr hml hown hts hlocks hin2 hX hsz hAe hA hQ
  subst hsz
  subst hAe
  rw [show lv_args 0 [.ref h0] = [(0, .ref h0)] from rfl]
  refine y_aload C 0 rfl dX0_init_0 ?_
  refine y_objInit C hml hown (hts (.methodLink RX0 3 objectInit) (by decide +kernel)) (hts (.instanceMethod objectInit) (by decide +kernel)) (hts (.code objectInit ⟨#[0xb1]⟩ 1 none) (by decide +kernel)) dX0_init_1 (Nat.le_of_ble_eq_true rfl) (fun _ => Nat.le_of_ble_eq_true rfl) ?_
  refine y_aload C 0 rfl dX0_init_4 ?_
  refine y_bipush (v := nI 64) C (by decide) dX0_init_5 ?_
  refine y_newa (atype := .int) (ty := .int) (a0 := (64, .inl (fun _ => 0))) (N' := 64) C hA (hts (.arrayClass .int) (by decide +kernel)) rfl (fun _ => rfl) (by decide) (nI_clamp (n := 64) (by decide)) (by decide) ⟨Nat.le_of_ble_eq_true rfl, Nat.le_of_ble_eq_true rfl⟩ dX0_init_7 (fun q1 c1 => ?_)
  refine y_widen (k := 1) (q := 64) (Nat.le_refl _) (Nat.le_of_ble_eq_true rfl) ?_
  refine y_ws (ws' := [(h0, .inr (0, [.null, .int 0, .int 0])), (q1, .inl (c1, 64, .inl (fun _ => 0)))]) (tys' := [(c1, .int)]) rfl rfl ?_
  refine y_putF (ci := 0) (v := .ref q1) (ty := .array .int) (C0 := RX0) (T := TX0) (N := 3) C hts (by decide +kernel) tyX0 tyX0_ok nmX0 hown 0 rfl rfl 0 (by decide) (hts (.fieldLink RX0 9 "TriggerAnalyzer$Ends" "facts" "[I") (by decide +kernel)) (fun _ h9 => h9) rfl hin2 rfl (by decide +kernel) rfl rfl (Nat.le_of_ble_eq_true rfl) dX0_init_9 ?_
  refine y_ws (ws' := [(h0, .inr (0, [.ref q1, .int 0, .int 0])), (q1, .inl (c1, 64, .inl (fun _ => 0)))]) (tys' := [(c1, .int)]) rfl rfl ?_
  refine y_aload C 0 rfl dX0_init_12 ?_
  refine y_iconst (v := (-1)) C (by decide) dX0_init_13 ?_
  refine y_put (ci := 0) (v := .int ((-1))) (ty := .int) (C0 := RX0) (T := TX0) (N := 3) C hts (by decide +kernel) tyX0 tyX0_ok nmX0 hown 0 rfl rfl 2 (by decide) (hts (.fieldLink RX0 15 "TriggerAnalyzer$Ends" "nearest" "I") (by decide +kernel)) (fun _ h9 => h9) rfl (by decide +kernel) rfl rfl (Nat.le_of_ble_eq_true rfl) dX0_init_14 ?_
  refine y_ws (ws' := [(h0, .inr (0, [.ref q1, .int 0, .int ((-1))])), (q1, .inl (c1, 64, .inl (fun _ => 0)))]) (tys' := [(c1, .int)]) rfl rfl ?_
  exact y_vret C hr hlocks hQ (fun t h1 h2 h3 => ⟨q1, c1, h1, h2, h3⟩) dX0_init_17

set_option maxHeartbeats 4000000 in
set_option maxRecDepth 100000 in
theorem c_X2_init (l : Launch) (D : va_G) (h0 : Nat) (hB : Nat) : ∀ sz, Met l yX2_init wsX2_init ({ frames := 1, cells := 1, slots := 8, locals := 12 }) (va_Pc [.ref h0, .ref hB] (fun U => U.heap.size = sz ∧ va_P D vwCl [(h0, .inr (2, [.null, .null]))] U.heap ∧ va_K D vwCl [] U ∧ va_D (fun _ => True) [(h0, .inr (2, [.null, .null]))] ∧ True)) (va_Qv (fun _ : Unit => True) (fun _ t => ∃ (q1 : Nat) (c1 : ClassId), va_P D vwCl [(h0, .inr (2, [.ref hB, .ref q1])), (q1, .inl (c1, 8, .inl (fun _ => 0)))] t.heap ∧ va_D (va_A [(h0, .inr (2, [.null, .null]))] sz) [(h0, .inr (2, [.ref hB, .ref q1])), (q1, .inl (c1, 8, .inl (fun _ => 0)))] ∧ va_K D vwCl [(c1, .int)] t) (va_A [(h0, .inr (2, [.null, .null]))] sz)) 1 8 (va_A [(h0, .inr (2, [.null, .null]))] sz) := by
  intro sz
  refine y_met (X := fun U => True) (cc := cX2_init) (maxL := 2) (ret := none) (by decide) rfl (Nat.le_of_ble_eq_true rfl) ?_
  intro p e s m args Q below meth c A C hr hml hown hts hlocks hin2 hX hsz hAe hA hQ
  subst hsz
  subst hAe
  rw [show lv_args 0 [.ref h0, .ref hB] = [(0, .ref h0), (1, .ref hB)] from rfl]
  refine y_aload C 0 rfl dX2_init_0 ?_
  refine y_objInit C hml hown (hts (.methodLink RX2 3 objectInit) (by decide +kernel)) (hts (.instanceMethod objectInit) (by decide +kernel)) (hts (.code objectInit ⟨#[0xb1]⟩ 1 none) (by decide +kernel)) dX2_init_1 (Nat.le_of_ble_eq_true rfl) (fun _ => Nat.le_of_ble_eq_true rfl) ?_
  refine y_aload C 0 rfl dX2_init_4 ?_
  refine y_bipush (v := nI 8) C (by decide) dX2_init_5 ?_
  refine y_newa (atype := .int) (ty := .int) (a0 := (8, .inl (fun _ => 0))) (N' := 8) C hA (hts (.arrayClass .int) (by decide +kernel)) rfl (fun _ => rfl) (by decide) (nI_clamp (n := 8) (by decide)) (by decide) ⟨Nat.le_of_ble_eq_true rfl, Nat.le_of_ble_eq_true rfl⟩ dX2_init_7 (fun q1 c1 => ?_)
  refine y_widen (k := 1) (q := 8) (Nat.le_refl _) (Nat.le_of_ble_eq_true rfl) ?_
  refine y_ws (ws' := [(h0, .inr (2, [.null, .null])), (q1, .inl (c1, 8, .inl (fun _ => 0)))]) (tys' := [(c1, .int)]) rfl rfl ?_
  refine y_putF (ci := 2) (v := .ref q1) (ty := .array .int) (C0 := RX2) (T := TX2) (N := 2) C hts (by decide +kernel) tyX2 tyX2_ok nmX2 hown 0 rfl rfl 1 (by decide) (hts (.fieldLink RX2 9 "TriggerAnalyzer$Judge" "reach" "[I") (by decide +kernel)) (fun _ h9 => h9) rfl hin2 rfl (by decide +kernel) rfl rfl (Nat.le_of_ble_eq_true rfl) dX2_init_9 ?_
  refine y_ws (ws' := [(h0, .inr (2, [.null, .ref q1])), (q1, .inl (c1, 8, .inl (fun _ => 0)))]) (tys' := [(c1, .int)]) rfl rfl ?_
  refine y_aload C 0 rfl dX2_init_12 ?_
  refine y_aload C 1 rfl dX2_init_13 ?_
  refine y_putF (ci := 2) (v := .ref hB) (ty := .object "TriggerAnalyzer$RuleBook") (C0 := RX2) (T := TX2) (N := 2) C hts (by decide +kernel) tyX2 tyX2_ok nmX2 hown 0 rfl rfl 0 (by decide) (hts (.fieldLink RX2 15 "TriggerAnalyzer$Judge" "book" "LTriggerAnalyzer$RuleBook;") (by decide +kernel)) (fun _ h9 => h9) rfl hin2 rfl (by decide +kernel) rfl rfl (Nat.le_of_ble_eq_true rfl) dX2_init_14 ?_
  refine y_ws (ws' := [(h0, .inr (2, [.ref hB, .ref q1])), (q1, .inl (c1, 8, .inl (fun _ => 0)))]) (tys' := [(c1, .int)]) rfl rfl ?_
  exact y_vret C hr hlocks hQ (fun t h1 h2 h3 => ⟨q1, c1, h1, h2, h3⟩) dX2_init_17

set_option maxHeartbeats 4000000 in
set_option maxRecDepth 100000 in
theorem c_X4_init (l : Launch) (D : va_G) (h0 : Nat) (b : Int32) : ∀ sz, Met l yX4_init wsX4_init ({ frames := 1, cells := 1, slots := 4, locals := 12 }) (va_Pc [.ref h0, .int b] (fun U => U.heap.size = sz ∧ va_P D vwCl [(h0, .inr (4, [.int 0, .null, .int 0, .int 0, .int 0, .int 0, .int 0, .int 0, .int 0, .int 0, .int 0]))] U.heap ∧ va_K D vwCl [] U ∧ va_D (fun _ => True) [(h0, .inr (4, [.int 0, .null, .int 0, .int 0, .int 0, .int 0, .int 0, .int 0, .int 0, .int 0, .int 0]))] ∧ True)) (va_Qv (fun _ : Unit => True) (fun _ t => ∃ (q1 : Nat) (c1 : ClassId), va_P D vwCl [(h0, .inr (4, [.int b, .ref q1, .int 0, .int 0, .int 0, .int 0, .int 0, .int 0, .int 0, .int 0, .int 0])), (q1, .inl (c1, 4, .inl (fun _ => 0)))] t.heap ∧ va_D (va_A [(h0, .inr (4, [.int 0, .null, .int 0, .int 0, .int 0, .int 0, .int 0, .int 0, .int 0, .int 0, .int 0]))] sz) [(h0, .inr (4, [.int b, .ref q1, .int 0, .int 0, .int 0, .int 0, .int 0, .int 0, .int 0, .int 0, .int 0])), (q1, .inl (c1, 4, .inl (fun _ => 0)))] ∧ va_K D vwCl [(c1, .int)] t) (va_A [(h0, .inr (4, [.int 0, .null, .int 0, .int 0, .int 0, .int 0, .int 0, .int 0, .int 0, .int 0, .int 0]))] sz)) 1 4 (va_A [(h0, .inr (4, [.int 0, .null, .int 0, .int 0, .int 0, .int 0, .int 0, .int 0, .int 0, .int 0, .int 0]))] sz) := by
  intro sz
  refine y_met (X := fun U => True) (cc := cX4_init) (maxL := 2) (ret := none) (by decide) rfl (Nat.le_of_ble_eq_true rfl) ?_
  intro p e s m args Q below meth c A C hr hml hown hts hlocks hin2 hX hsz hAe hA hQ
  subst hsz
  subst hAe
  rw [show lv_args 0 [.ref h0, .int b] = [(0, .ref h0), (1, .int b)] from rfl]
  refine y_aload C 0 rfl dX4_init_0 ?_
  refine y_objInit C hml hown (hts (.methodLink RX4 3 objectInit) (by decide +kernel)) (hts (.instanceMethod objectInit) (by decide +kernel)) (hts (.code objectInit ⟨#[0xb1]⟩ 1 none) (by decide +kernel)) dX4_init_1 (Nat.le_of_ble_eq_true rfl) (fun _ => Nat.le_of_ble_eq_true rfl) ?_
  refine y_aload C 0 rfl dX4_init_4 ?_
  refine y_iconst (v := nI 4) C (by decide) dX4_init_5 ?_
  refine y_newa (atype := .int) (ty := .int) (a0 := (4, .inl (fun _ => 0))) (N' := 4) C hA (hts (.arrayClass .int) (by decide +kernel)) rfl (fun _ => rfl) (by decide) (nI_clamp (n := 4) (by decide)) (by decide) ⟨Nat.le_of_ble_eq_true rfl, Nat.le_of_ble_eq_true rfl⟩ dX4_init_6 (fun q1 c1 => ?_)
  refine y_widen (k := 1) (q := 4) (Nat.le_refl _) (Nat.le_of_ble_eq_true rfl) ?_
  refine y_ws (ws' := [(h0, .inr (4, [.int 0, .null, .int 0, .int 0, .int 0, .int 0, .int 0, .int 0, .int 0, .int 0, .int 0])), (q1, .inl (c1, 4, .inl (fun _ => 0)))]) (tys' := [(c1, .int)]) rfl rfl ?_
  refine y_putF (ci := 4) (v := .ref q1) (ty := .array .int) (C0 := RX4) (T := TX4) (N := 11) C hts (by decide +kernel) tyX4 tyX4_ok nmX4 hown 0 rfl rfl 1 (by decide) (hts (.fieldLink RX4 9 "TriggerAnalyzer$Rule" "actions" "[I") (by decide +kernel)) (fun _ h9 => h9) rfl hin2 rfl (by decide +kernel) rfl rfl (Nat.le_of_ble_eq_true rfl) dX4_init_8 ?_
  refine y_ws (ws' := [(h0, .inr (4, [.int 0, .ref q1, .int 0, .int 0, .int 0, .int 0, .int 0, .int 0, .int 0, .int 0, .int 0])), (q1, .inl (c1, 4, .inl (fun _ => 0)))]) (tys' := [(c1, .int)]) rfl rfl ?_
  refine y_aload C 0 rfl dX4_init_11 ?_
  refine y_iload C 1 rfl dX4_init_12 ?_
  refine y_putF (ci := 4) (v := .int b) (ty := .int) (C0 := RX4) (T := TX4) (N := 11) C hts (by decide +kernel) tyX4 tyX4_ok nmX4 hown 0 rfl rfl 0 (by decide) (hts (.fieldLink RX4 15 "TriggerAnalyzer$Rule" "bit" "I") (by decide +kernel)) (fun _ h9 => h9) rfl hin2 rfl (by decide +kernel) rfl rfl (Nat.le_of_ble_eq_true rfl) dX4_init_13 ?_
  refine y_ws (ws' := [(h0, .inr (4, [.int b, .ref q1, .int 0, .int 0, .int 0, .int 0, .int 0, .int 0, .int 0, .int 0, .int 0])), (q1, .inl (c1, 4, .inl (fun _ => 0)))]) (tys' := [(c1, .int)]) rfl rfl ?_
  exact y_vret C hr hlocks hQ (fun t h1 h2 h3 => ⟨q1, c1, h1, h2, h3⟩) dX4_init_16
