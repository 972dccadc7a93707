theorem gD_of {A : Nat → Prop} {n : Nat} {ad : Nat → Nat} {f : Nat → va_E} (hI : gI n ad) (hA : ∀ k, k < n → A (ad k)) : va_D A (gW n ad f) := by
  refine ⟨fun i j p q hi hj e => ?_, fun k q hk => ?_⟩
  · obtain ⟨h1, rfl⟩ := gW_inv hi
    obtain ⟨h2, rfl⟩ := gW_inv hj
    exact hI i j h1 h2 e
  · obtain ⟨h1, rfl⟩ := gW_inv hk
    exact hA k h1
section YL
variable {p : Program} {l : Launch} {e : Env} {R : Room} {s : State} {m : MethodId} {args : Array Value} {below : List Frame} {meth : Method} {c : Code} {D : va_G} {cl : List vw_C} {A : Nat → Prop} {nL cells slots : Nat} {Q : State → Prop} {ws : va_W} {tys : List (ClassId × FieldType)} {L : List (Nat × Value)} {pc : Nat} {st : List Value} {cc : ByteArray}
theorem y_astore_n (C : zc p c cc) {k : Fin 4} {x : Nat} (L' : List (Nat × Value)) (hdg : decode cc pc = .ok (.astore_n k, 1)) (hn : (k : Nat) < nL) (hL : ((k : Nat), Value.ref x) :: L.filter (fun q => !(q.1 == (k : Nat)) && !(q.1 + 1 == (k : Nat) && q.2.category == 2)) = L') (K : YY p l e R s m args below meth c D cl A nL cells slots Q ws tys L' (pc + 1) st) : YY p l e R s m args below meth c D cl A nL cells slots Q ws tys L pc (.ref x :: st) := fun H locs ls hP hD hK hS hl => lv_astore_n C.1 C.2 hdg rfl hl hn hL (fun ls' hl' => K H locs ls' hP hD hK hS hl')
end YL
set_option maxHeartbeats 4000000 in
set_option maxRecDepth 100000 in
theorem law_first {p : Program} {e : Env} {s : State} {m : MethodId} {below : List Frame} {meth : Method} {c : Code} (l : Launch) (hst : l.stackTraces = false) {b L : Nat} {xs : Nat → Int32} (hL : L ≤ 260) (C0 : lw_At p s m meth c b L xs) (D : va_G) : YY p l e room_1 s m #[Value.ref b] below meth c D vwCl (fun q => s.heap.size ≤ q) 16 0 0 (lw_Z below #[Value.ref b] s) [] [] [(0, .ref b)] 0 [] := by
  obtain ⟨hx, hb, hr, hml, hown, htsT, hX, hbl, hlocks, hgv⟩ := id C0
  have hown : s.vm.findClass RL = some m.cls := hown
  have hts : ∀ w ∈ wsL_law, w.before #[Value.ref b] s = true := fun w hw => htsT w (wsL_law_in w hw)
  have C : zc p c cL_law := ⟨hx, hb⟩
  have hA : ∀ q : Nat, s.heap.size ≤ q → (fun q : Nat => s.heap.size ≤ q) q := fun _ h => h
  have hover : va_AO RX4 s := va_AO.of (htsT (.arrayOver (.object RX4)) (by decide +kernel))
  refine y_new (ci := 6) (fs := [.null, .null, .null, .int 0]) (C0 := RX6) (T := TX6) (N := 4) C hA htsT inX6 tyX6 tyX6_ok hown (htsT (.classLink RL 20 RX6) (by decide +kernel)) (htsT (.instantiable RX6 4) (by decide +kernel)) (htsT (.initialized RX6) (by decide +kernel)) rfl (fun j hj => by rcases (show j = 0 ∨ j = 1 ∨ j = 2 ∨ j = 3 by omega) with rfl | rfl | rfl | rfl <;> rfl) ⟨Nat.le_of_ble_eq_true rfl, Nat.le_of_ble_eq_true rfl⟩ dL_law_0 (fun q6 => ?_)
  refine y_widen (k := 1) (q := 4) (Nat.le_of_ble_eq_true rfl) (Nat.le_of_ble_eq_true rfl) ?_
  refine y_ws (ws' := [(q6, .inr (6, [.null, .null, .null, .int 0]))]) (tys' := []) rfl rfl ?_
  refine y_dup C rfl dL_law_3 ?_
  refine y_callI C hml hA hown hts (X := va_AO RX4) (Rl := fun w1 t1 => ∃ (a : Nat → Nat) (cI cL cR : ClassId), gI 34 a ∧ a 33 = q6 ∧ w1 = gW 34 a (xF a cI cL cR u00) ∧ t1 = xT cI cL cR) (c_X6_init l D q6) (fun sz t h => by obtain ⟨q1, q2, q3, q4, q5, q6, q7, q8, q9, q10, q11, q12, q13, q14, q15, q16, q17, q18, q19, q30, q31, q33, q34, q35, q36, q37, q38, q39, q40, q41, q42, q43, q44, c20, c21, c22, c23, c24, c25, c26, c27, c28, c29, c32, c45, c46, c47, c48, c49, c50, c51, c52, c53, k1, k2, k3⟩ := h; obtain ⟨a, cI, cL, cR, h1, h2, h3, h4, h5⟩ := born k1 k2 k3; exact ⟨_, _, ⟨a, cI, cL, cR, h1, h2, rfl, rfl⟩, h3, gD_of h1 h5, h4⟩) (fun U g mk a h => va_AO.moved (u := U) (U := U.calling g mk a) (Vm.Alike.refl U.vm) h) (fun U hW => va_AO.moved hW.alike hover) (cwI 0 hts gL_law_X6_init rfl rfl rfl (htsT (.initialized RX6) (by decide +kernel)) (htsT (.methodLink RL 47 yX6_init) (by decide +kernel)) (htsT (.instanceMethod yX6_init) (by decide +kernel)) rfl (by decide +kernel) ⟨Nat.le_of_ble_eq_true rfl, Nat.le_of_ble_eq_true rfl⟩) rfl 0 [] (wr := []) rfl rfl rfl (by decide) (st := [.ref q6]) rfl (Nat.le_of_ble_eq_true rfl) dL_law_4 ⟨Nat.le_of_ble_eq_true rfl, Nat.le_of_ble_eq_true rfl⟩ (fun w1 t1 hR => ?_)
  obtain ⟨a, cI, cL, cR, hIa, ha33, rfl, rfl⟩ := hR
  refine y_widen (k := 40) (q := 31000) (Nat.le_of_ble_eq_true rfl) (Nat.le_of_ble_eq_true rfl) ?_
  refine y_ws (ws' := gW 34 a (xF a cI cL cR u00)) (tys' := xT cI cL cR) rfl rfl ?_
  refine y_astore_n (L' := [(1, .ref q6), (0, .ref b)]) C dL_law_7 (by decide) rfl ?_
  intro H locs ls hP hD hK hS hl
  have hA34 : ∀ k, k < 34 → s.heap.size ≤ a k := fun k hk => hD.2 k _ (gW_get hk)
  have hl2 : lv_has ls 16 [(1, .ref (a 33)), (0, .ref b)] := by
    rw [ha33]
    exact hl
  have hS34 : va_S (gA 34 a s.heap.size) s.heap H locs := ⟨hS.1, fun q h1 h2 => hS.2.1 q h1 (fun h => h2 (Or.inr h)), fun q hq => Or.inr (hS.2.2 q hq)⟩
  exact lg_A (c0 := 0) (A := u00) (LQ_mk C0 hL hst hK hIa hA34) H locs ls (gP_cong hP fun k hk => if_pos hk) hS34 hl2
