section YL
variable {p : Program} {l : Launch} {e : Env} {R : Room} {s : State} {m : MethodId} {args : Array Value} {below : List Frame} {meth : Method} {c : Code} {D : va_G} {cl : List vw_C} {A : Nat → Prop} {nL cells slots : Nat} {Q : State → Prop} {ws : va_W} {tys : List (ClassId × FieldType)} {L : List (Nat × Value)} {pc : Nat} {st : List Value} {cc : ByteArray}
theorem y_astore_n (C : zc p c cc) {k : Fin 4} {x : Nat} (L' : List (Nat × Value)) (hdg : decode cc pc = .ok (.astore_n k, 1)) (hn : (k : Nat) < nL) (hL : ((k : Nat), Value.ref x) :: L.filter (fun q => !(q.1 == (k : Nat)) && !(q.1 + 1 == (k : Nat) && q.2.category == 2)) = L') (K : YY p l e R s m args below meth c D cl A nL cells slots Q ws tys L' (pc + 1) st) : YY p l e R s m args below meth c D cl A nL cells slots Q ws tys L pc (.ref x :: st) := fun H locs ls hP hD hK hS hl => lv_astore_n C.1 C.2 hdg rfl hl hn hL (fun ls' hl' => K H locs ls' hP hD hK hS hl')
theorem y_astore (C : zc p c cc) {i : Nat} {x : Nat} (L' : List (Nat × Value)) (hdg : decode cc pc = .ok (.astore i, 2)) (hn : i < nL) (hL : (i, Value.ref x) :: L.filter (fun q => !(q.1 == i) && !(q.1 + 1 == i && q.2.category == 2)) = L') (K : YY p l e R s m args below meth c D cl A nL cells slots Q ws tys L' (pc + 2) st) : YY p l e R s m args below meth c D cl A nL cells slots Q ws tys L pc (.ref x :: st) := fun H locs ls hP hD hK hS hl => lv_astore C.1 C.2 hdg hl hn hL (fun ls' hl' => K H locs ls' hP hD hK hS hl')
theorem y_istore (C : zc p c cc) {i : Nat} {x : Int32} (L' : List (Nat × Value)) (hdg : decode cc pc = .ok (.istore i, 2)) (hn : i < nL) (hL : (i, Value.int x) :: L.filter (fun q => !(q.1 == i) && !(q.1 + 1 == i && q.2.category == 2)) = L') (K : YY p l e R s m args below meth c D cl A nL cells slots Q ws tys L' (pc + 2) st) : YY p l e R s m args below meth c D cl A nL cells slots Q ws tys L pc (.int x :: st) := fun H locs ls hP hD hK hS hl => lv_istore C.1 C.2 hdg hl hn hL (fun ls' hl' => K H locs ls' hP hD hK hS hl')
end YL
/-- the last two steps -/
theorem law_end {p : Program} {l : Launch} {e : Env} {s : State} {m : MethodId} {below : List Frame} {meth : Method} {c : Code} {b L : Nat} {xs : Nat → Int32} (C0 : lw_At p s m meth c b L xs) {D : va_G} {cl : List vw_C} {ad : Nat → Nat} (hA : ∀ k, k < 48 → s.heap.size ≤ ad k) {f : Nat → va_E} {LL : List (Nat × Value)} : ZZ p l e room_1 s m #[Value.ref b] below meth c D cl 48 ad 9 601024 7293034 (lw_Z below #[Value.ref b] s) f LL 1776 [] := by
  obtain ⟨hx, hb, hr, hml, hown, htsT, hX, hbl, hlocks, hgv⟩ := id C0
  intro H locs ls hP hS hl
  refine lv_iconst (v := 1) hx hb dL_law_1776 (by decide) ?_
  refine va_forget (fun q hq => ?_) ?_
  · rcases hS.2.2 q hq with ⟨k, hk, ek⟩ | h
    · rw [ek]; exact hA k hk
    · exact h
  · exact lw_ret (d0 := s.drawn) (Drawn.sameBut.refl s.drawn lw_cs) hx hb hr hlocks dL_law_1777
set_option maxHeartbeats 4000000 in
set_option maxRecDepth 100000 in
theorem law_first {p : Program} {e : Env} {s : State} {m : MethodId} {below : List Frame} {meth : Method} {c : Code} (l : Launch) (hst : l.stackTraces = false) {b L : Nat} {xs : Nat → Int32} (hL : L ≤ 2560) (C0 : lw_At p s m meth c b L xs) (D : va_G) : YY p l e room_1 s m #[Value.ref b] below meth c D vwCl (fun q => s.heap.size ≤ q) 9 0 0 (lw_Z below #[Value.ref b] s) [] [] [(0, .ref b)] 0 [] := by
  obtain ⟨hx, hb, hr, hml, hown, htsT, hX, hbl, hlocks, hgv⟩ := id C0
  have hown : s.vm.findClass RL = some m.cls := hown
  have hts : ∀ w ∈ wsL_law, w.before #[Value.ref b] s = true := fun w hw => htsT w (wsL_law_in w hw)
  have C : zc p c cL_law := ⟨hx, hb⟩
  have hA : ∀ q : Nat, s.heap.size ≤ q → (fun q : Nat => s.heap.size ≤ q) q := fun _ h => h
  have hover : va_AO RX4 s := va_AO.of (htsT (.arrayOver (.object RX4)) (by decide +kernel))
  refine y_new (ci := 6) (fs := [.null, .null, .null, .int 0]) (C0 := RX6) (T := TX6) (N := 4) C hA htsT inX6 tyX6 tyX6_ok hown (htsT (.classLink RL 8 RX6) (by decide +kernel)) (htsT (.instantiable RX6 4) (by decide +kernel)) (htsT (.initialized RX6) (by decide +kernel)) rfl (fun j hj => by rcases (show j = 0 ∨ j = 1 ∨ j = 2 ∨ j = 3 by omega) with rfl | rfl | rfl | rfl <;> rfl) ⟨Nat.le_of_ble_eq_true rfl, Nat.le_of_ble_eq_true rfl⟩ dL_law_0 (fun q6 => ?_)
  refine y_widen (k := 1) (q := 4) (Nat.le_of_ble_eq_true rfl) (Nat.le_of_ble_eq_true rfl) ?_
  refine y_ws (ws' := [(q6, .inr (6, [.null, .null, .null, .int 0]))]) (tys' := []) rfl rfl ?_
  refine y_dup C rfl dL_law_3 ?_
  refine y_callI C hml hA hown hts (X := va_AO RX4) (Rl := fun w1 t1 => ∃ (a : Nat → Nat) (cI cL cR : ClassId), gI 34 a ∧ a 33 = q6 ∧ w1 = gW 34 a (xF a cI cL cR u00) ∧ t1 = xT cI cL cR) (c_X6_init l D q6) (fun sz t h => by obtain ⟨q1, q2, q3, q4, q5, q6, q7, q8, q9, q10, q11, q12, q13, q14, q15, q16, q17, q18, q19, q30, q31, q33, q34, q35, q36, q37, q38, q39, q40, q41, q42, q43, q44, c20, c21, c22, c23, c24, c25, c26, c27, c28, c29, c32, c45, c46, c47, c48, c49, c50, c51, c52, c53, k1, k2, k3⟩ := h; obtain ⟨a, cI, cL, cR, h1, h2, h3, h4, h5⟩ := born k1 k2 k3; exact ⟨_, _, ⟨a, cI, cL, cR, h1, h2, rfl, rfl⟩, h3, gD_of h1 h5, h4⟩) (fun U g mk a h => va_AO.moved (u := U) (U := U.calling g mk a) (Vm.Alike.refl U.vm) h) (fun U hW => va_AO.moved hW.alike hover) (cwI 0 hts gL_law_X6_init rfl rfl rfl (htsT (.initialized RX6) (by decide +kernel)) (htsT (.methodLink RL 96 yX6_init) (by decide +kernel)) (htsT (.instanceMethod yX6_init) (by decide +kernel)) rfl (by decide +kernel) ⟨Nat.le_of_ble_eq_true rfl, Nat.le_of_ble_eq_true rfl⟩) rfl 0 [] (wr := []) rfl rfl rfl (by decide) (st := [.ref q6]) rfl (Nat.le_of_ble_eq_true rfl) dL_law_4 ⟨Nat.le_of_ble_eq_true rfl, Nat.le_of_ble_eq_true rfl⟩ (fun w1 t1 hR => ?_)
  obtain ⟨a, cI, cL, cR, hIa, ha33, rfl, rfl⟩ := hR
  refine y_widen (k := 40) (q := 31000) (Nat.le_of_ble_eq_true rfl) (Nat.le_of_ble_eq_true rfl) ?_
  refine y_ws (ws' := gW 34 a (xF a cI cL cR u00)) (tys' := xT cI cL cR) rfl rfl ?_
  refine y_astore_n (L' := [(1, .ref q6), (0, .ref b)]) C dL_law_7 (by decide) rfl ?_
  refine y_new (ci := 7) (fs := [.int 0, .int 0, .null, .null, .null, .null, .null, .null, .null, .int 0, .int 0, .int 0, .int 0, .int 0, .null, .null, .null, .null]) (C0 := RX7) (T := TX7) (N := 18) C hA htsT inX7 tyX7 tyX7_ok hown (htsT (.classLink RL 97 RX7) (by decide +kernel)) (htsT (.instantiable RX7 18) (by decide +kernel)) (htsT (.initialized RX7) (by decide +kernel)) rfl (fun j hj => by rcases (show j = 0 ∨ j = 1 ∨ j = 2 ∨ j = 3 ∨ j = 4 ∨ j = 5 ∨ j = 6 ∨ j = 7 ∨ j = 8 ∨ j = 9 ∨ j = 10 ∨ j = 11 ∨ j = 12 ∨ j = 13 ∨ j = 14 ∨ j = 15 ∨ j = 16 ∨ j = 17 by omega) with rfl | rfl | rfl | rfl | rfl | rfl | rfl | rfl | rfl | rfl | rfl | rfl | rfl | rfl | rfl | rfl | rfl | rfl <;> rfl) ⟨Nat.le_of_ble_eq_true rfl, Nat.le_of_ble_eq_true rfl⟩ dL_law_8 (fun q7 => ?_)
  refine y_widen (k := 41) (q := 31018) (Nat.le_of_ble_eq_true rfl) (Nat.le_of_ble_eq_true rfl) ?_
  refine y_dup C rfl dL_law_11 ?_
  refine y_callI C hml hA hown hts (X := fun _ => True) (Rl := fun w1 t1 => ∃ (a : Nat → Nat) (cI cL cB : ClassId), gI 12 a ∧ a 0 = q7 ∧ w1 = gW 12 a (mF a cI cL cB m00) ∧ t1 = mT cI cL cB) (c_X7_init l D q7) (fun sz t h => by obtain ⟨q1, q2, q3, q4, q5, q6, q7, q8, q9, q10, q11, c1, c2, c3, c4, c5, c6, c7, c8, c9, c10, c11, k1, k2, k3⟩ := h; obtain ⟨a, cI, cL, cB, h1, h2, h3, h4, h5⟩ := born7 k1 k2 k3; exact ⟨_, _, ⟨a, cI, cL, cB, h1, h2, rfl, rfl⟩, h3, gD_of h1 h5, h4⟩) (fun _ _ _ _ h => h) (fun _ _ => trivial) (cwI 0 hts gL_law_X7_init rfl rfl rfl (htsT (.initialized RX7) (by decide +kernel)) (htsT (.methodLink RL 99 yX7_init) (by decide +kernel)) (htsT (.instanceMethod yX7_init) (by decide +kernel)) rfl (by decide +kernel) ⟨Nat.le_of_ble_eq_true rfl, Nat.le_of_ble_eq_true rfl⟩) rfl 34 (List.range 34) (wr := gW 34 a (xF a cI cL cR u00)) (w_r (n := 34) (k := 0) gW_len rfl rfl) (w_rng gW_len) (by decide) (by decide) (st := [.ref q7]) rfl (Nat.le_of_ble_eq_true rfl) dL_law_12 ⟨Nat.le_of_ble_eq_true rfl, Nat.le_of_ble_eq_true rfl⟩ (fun w1 t1 hR => ?_)
  obtain ⟨b7, cI7, cL7, cB, hIb, hb0, rfl, rfl⟩ := hR
  refine y_widen (k := 60) (q := 42200) (Nat.le_of_ble_eq_true rfl) (Nat.le_of_ble_eq_true rfl) ?_
  refine y_astore_n (L' := [(2, .ref q7), (1, .ref q6), (0, .ref b)]) C dL_law_15 (by decide) rfl ?_
  refine y_iconst (v := 1) C (by decide) dL_law_16 ?_
  refine y_newa (atype := .long) (a0 := (1, .inr (.inl (fun _ => 0)))) (N' := 1) C hA (htsT (.arrayClass .long) (by decide +kernel)) rfl (fun _ => rfl) (by decide) (by decide) (by decide) ⟨Nat.le_of_ble_eq_true rfl, Nat.le_of_ble_eq_true rfl⟩ dL_law_17 (fun qO cO => ?_)
  refine y_astore_n (L' := [(3, .ref qO), (2, .ref q7), (1, .ref q6), (0, .ref b)]) C dL_law_19 (by decide) rfl ?_
  refine y_iconst (v := 1) C (by decide) dL_law_20 ?_
  refine y_newa (atype := .double) (a0 := (1, .inr (.inr (.inr (.inl (fun _ => 0)))))) (N' := 1) C hA (htsT (.arrayClass .double) (by decide +kernel)) rfl (fun _ => rfl) (by decide) (by decide) (by decide) ⟨Nat.le_of_ble_eq_true rfl, Nat.le_of_ble_eq_true rfl⟩ dL_law_21 (fun qD cD => ?_)
  refine y_astore (L' := [(4, .ref qD), (3, .ref qO), (2, .ref q7), (1, .ref q6), (0, .ref b)]) C dL_law_23 (by decide) rfl ?_
  refine y_iconst (v := nI 0) C (by decide) dL_law_25 ?_
  refine y_istore (L' := [(5, .int (nI 0)), (4, .ref qD), (3, .ref qO), (2, .ref q7), (1, .ref q6), (0, .ref b)]) C dL_law_26 (by decide) rfl ?_
  refine y_widen (k := 100 + 2 * 0) (q := 100000 + 1006 * 0) (Nat.le_of_ble_eq_true rfl) (Nat.le_of_ble_eq_true rfl) ?_
  intro H locs ls hP hD hK hS hl
  obtain ⟨hI48, hA48, hK48, hP48⟩ := x_fin hP hD hK
  have hnA : ∀ q : Nat, q < s.heap.size → ¬ gA 48 (ad48 a b7 qO qD) s.heap.size q := fun q hq h => by
    rcases h with ⟨k, hk, ek⟩ | h
    · have h9 : s.heap.size ≤ ad48 a b7 qO qD k := hA48 k hk
      omega
    · omega
  have hKn6 := hK.1 6 _ rfl
  have hC : LC p l s m c D (ad48 a b7 qO qD) cI cL cR cB cD b L xs := ⟨C, hml, hown, hts, hK48, lX_start htsT hgv hKn6.2.1 hnA, hI48, hX, hbl, hnA b hbl, hL, hst⟩
  have e33 : ad48 a b7 qO qD 33 = q6 := (ad48_x (by decide)).trans ha33
  have e36 : ad48 a b7 qO qD 36 = q7 := (ad48_m (j := 0)).trans hb0
  have hl2 : lv_has ls 9 [(0, .ref b), (1, .ref (ad48 a b7 qO qD 33)), (2, .ref (ad48 a b7 qO qD 36)), (3, .ref (ad48 a b7 qO qD 34)), (4, .ref (ad48 a b7 qO qD 35)), (5, .int (nI 0))] := by
    rw [e33, e36]
    exact lv_sub hl [5, 4, 3, 2, 1, 0] rfl
  have hS48 : va_S (gA 48 (ad48 a b7 qO qD) s.heap.size) s.heap H locs := ⟨hS.1, fun q h1 h2 => hS.2.1 q h1 (fun h => h2 (Or.inr h)), fun q hq => Or.inr (hS.2.2 q hq)⟩
  exact law_loop hC (fun z => law_end C0 hA48) (L + 1) 0 0 (u00, (fun _ => 0), (fun _ => 0)) m00 0 B00 0 (by omega) rfl (Nat.zero_le L) JI_00 H locs ls hP48 hS48 hl2
