/-! A method that throws, over the worlds: its entry, its throw, a call of one that throws. -/
abbrev XE (D : va_G) (ad : Nat → Nat) (cI cL cR : ClassId) (E0 : String) (u : xS) (sz : Nat) : String → State → State → Prop := vx_X (fun u' : xS => u' = u) (fun E' u' t => E' = E0 ∧ XB D ad cI cL cR u' t) (gA 34 ad sz)
abbrev QN : Array Value → State → Outcome → State → Prop := fun _ _ _ _ => False
theorem z_metX {l : Launch} {y : MethodName} {ws ws' : List Cond} {rm : Room} {Qc : Array Value → State → Outcome → State → Prop} {XC : String → State → State → Prop} {mc ms : Nat} {cc : ByteArray} {maxL : Nat} {ret : Option FieldType} {D : va_G} {cl : List vw_C} {tys : List (ClassId × FieldType)} {n : Nat} {ad : Nat → Nat} {X : Nat → State → Prop} {f : Nat → va_E} {sz : Nat} {av : List Value} (hy : plainName y.cls = true) (hw : ws = Cond.code y cc maxL ret :: ws') (hlen : (lg_sl av).length ≤ maxL)
    (body : ∀ p e s m args Q below meth c, zc p c cc → meth.sig.returnType = ret → c.maxLocals = maxL → s.vm.findClass y.cls = some m.cls → (∀ w ∈ ws, w.before args s = true) → meth.locks = false → va_K D cl tys s → X s.heap.size s → (∀ x ∈ c.exceptionTable.toList, False) → s.heap.size = sz → Q = vx_MQ below Qc XC args s mc ms (gA n ad s.heap.size) → ZZ p l e rm s m args below meth c D cl n ad maxL 0 0 Q f (lv_args 0 av) 0 []) : vx_Met l y ws rm (va_Pc av (zP D cl tys n ad X f sz)) Qc XC mc ms (gA n ad sz) := by
  refine vx_ofW (cc := cc) (maxL := maxL) (ret := ret) hy hw ?_
  intro p e s m args below meth c s₁ B hml htab hv
  obtain ⟨rfl, hsz, hP, hK, hX⟩ := hv
  rw [lg_entry_eq]
  subst hsz
  exact body p e s m av.toArray _ below meth c ⟨B.exec, B.bytes⟩ B.returns hml (findClass_of_methodNamed B.named) (atoms_spec (ws := ws) B.pre) B.notSynchronized hK hX htab rfl rfl s.heap [] _ hP va_S.rf (lv_entry av hlen)
section ZX
variable {p : Program} {l : Launch} {e : Env} {R : Room} {s : State} {m : MethodId} {args : Array Value} {below : List Frame} {meth : Method} {c : Code} {D : va_G} {cl : List vw_C} {n : Nat} {ad : Nat → Nat} {nL cells slots : Nat} {Q : State → Prop} {f : Nat → va_E} {L : List (Nat × Value)} {pc : Nat} {st : List Value} {cc : ByteArray}
theorem z_throwS (C : zc p c cc) (hl : l.stackTraces = false) (hml : c.maxLocals = nL) {cls text : String} {ik is ic mc ms : Nat} {Qc : Array Value → State → Outcome → State → Prop} {XC : String → State → State → Prop}
    (hown : s.vm.findClass RX6 = some m.cls) (hX : xX n ad s.heap.size s) (hsub : ∀ w ∈ xTo ik ic cls, w ∈ xTw) (hstr : (is, text) ∈ xTs) (hcls : Bundle.fit cls = true) (htab : ∀ x ∈ c.exceptionTable.toList, False) (hlocks : meth.locks = false)
    (hQ : Q = vx_MQ below Qc XC args s mc ms (gA n ad s.heap.size)) (hcat : (st.map fun v => v.category).sum + 82 ≤ R.locals) (hfr : 5 < R.frames) (hroom : cells + 1 ≤ R.cells ∧ slots + 6 ≤ R.slots) (hms : cells + 1 ≤ mc ∧ slots + 6 ≤ ms)
    (d0 : decode cc pc = .ok (.new ik, 3)) (d3 : decode cc (pc + 3) = .ok (.dup, 1)) (d4 : decode cc (pc + 4) = .ok (.ldc is, 2)) (d6 : decode cc (pc + 6) = .ok (.invokespecial ic, 3)) (d9 : decode cc (pc + 9) = .ok (.athrow, 1))
    (hx : ∀ t : State, va_P D cl (gW n ad f) t.heap → va_F (gA n ad s.heap.size) s t → XC cls s t) : ZZ p l e R s m args below meth c D cl n ad nL cells slots Q f L pc st := by
  subst hQ
  intro H locs ls hP hS hlv
  obtain ⟨sa, hsa⟩ := hX.2.2.2 _ hstr
  have hw : ∀ w ∈ xTo ik ic cls, w.before args s = true := fun w h => tg_at (List.all_eq_true.mp xTw_tg w (hsub w h)) (State.WarmedH.refl s) (hX.2.2.1 w (hsub w h))
  exact vx_throwS C.1 C.2 hl hown hcls (by decide) (names := nmx) (hw _ List.mem_cons_self) (hw _ (List.mem_cons_of_mem _ List.mem_cons_self)) hsa (fun w h => hw w (List.mem_cons_of_mem _ (List.mem_cons_of_mem _ h)))
    (fun w h => List.all_eq_true.mp xTw_ot w (hsub w h)) hX.2.1.1 hX.2.1.2 hS (hlv.1.trans hml.symm) d0 d3 d4 d6 d9 (fun x h => (htab x h).elim) hfr hcat hroom.1 hroom.2 hlocks
    (fun t _ hz hq => hx t (hP.kept fun k q hk => hq q.1 (vx_lt hP hk)) ⟨Nat.le_trans hS.1 hz, fun q h1 h2 => (hq q (Nat.lt_of_lt_of_le h1 hS.1)).trans (hS.2.1 q h1 h2)⟩) hS.2.2 hms.1 hms.2
theorem z_outV {X : Nat → State → Prop} (hXk : zXk n ad X) (C : zc p c cc) (hml : c.maxLocals = nL) {own : String} (hown : s.vm.findClass own = some m.cls) {Ts : List Cond} (hts : ∀ w ∈ Ts, w.before args s = true) {tys : List (ClassId × FieldType)} (hK : va_K D cl tys s) (hX : X s.heap.size s) {y : MethodName} {bytes : ByteArray} {maxL mc1 ms1 mc ms nA index : Nat} {ret : Option FieldType} {wsY : List Cond} {rm : Room} {S : Type} {F : S → Nat → va_E} {E0 : String} {px : S → Prop} {Qc : Array Value → State → Outcome → State → Prop} {XC : String → State → State → Prop} {As : List Value} {q : Nat} {C0 : String} (hM : ∀ sz, vx_Met l y wsY rm (va_Pc (.ref (ad q) :: As) (zP D cl tys n ad X f sz)) QN (vx_X px (fun E' u' t => E' = E0 ∧ zB D cl n ad F u' t) (gA n ad sz)) mc1 ms1 (gA n ad sz)) (cw : CallW R s args own C0 index y bytes maxL ret wsY rm mc1 ms1 nA) (hq : q < n) {ci N : Nat} {fs : List Value} {T : u_T} (hf : f q = .inr (ci, fs)) (hc : cl[ci]? = some (C0, T, N)) (hn : As.length = nA) {st0 : List Value} (hst : st0 = As.reverse ++ .ref (ad q) :: st) (hcat : (st.map fun v => v.category).sum ≤ 8) (hdg : decode cc pc = .ok (.invokevirtual index, 3)) (hroom : cells + mc1 ≤ R.cells ∧ slots + ms1 ≤ R.slots) (hms : cells + mc1 ≤ mc ∧ slots + ms1 ≤ ms) (htab : ∀ x ∈ c.exceptionTable.toList, False) (hlocks : meth.locks = false)
    (hQ : Q = vx_MQ below Qc XC args s mc ms (gA n ad s.heap.size)) (hx : ∀ (u : S) (t : State), px u → va_P D cl (gW n ad (F u)) t.heap → va_F (gA n ad s.heap.size) s t → XC E0 s t) : ZZ p l e R s m args below meth c D cl n ad nL cells slots Q f L pc st0 := by
  subst hQ
  intro H locs ls hP hS hl T hT Y
  subst hst
  rcases (vx_runV (As := As) (rest := st) ⟨C.1, C.2, hml, hown, hts⟩ (hM H.size) cw ⟨zP_blind hXk, va_recv hK hP hc (by rw [gW_get hq, hf]), fun U hU hW => ⟨rfl, by rw [hU], by rw [hU]; exact hP, va_K.moved hW.alike hK, by have z := hXk.1 s U locs hX (by rw [hU]; exact hS) hW; rw [hU] at z; exact z⟩⟩ rfl hn hl.1 rfl (lv_room hcat) hdg hroom) T hT Y with ⟨v, st₀, t, T', Lx, h0, X', hL, e1, e2, hF, -⟩ | ⟨q9, st₀, t, T', Lx, E, ce, h0, X', hL, e1, e2, ⟨u, hp, ⟨rfl, hb⟩, hF⟩, hce, hcv, hcl, hst⟩
  · exact hF.elim
  · obtain ⟨k1, k2, k3⟩ := vx_keep h0 e1 hS (fun q _ h => gA_sub hS.1 h) (fun q h => gA_sub hS.1 h) hL hF
    obtain ⟨t2, a1, b1⟩ := vx_out (Qc := Qc) (XC := XC) (args := args) (E := E) (ce := ce) (fun x h => (htab x h).elim) hlocks (by rw [e1]; exact hce) hcv hcl (fun t9 h9 _ => hx u t9 hp (by have hb1 : va_P D cl (gW n ad (F u)) t.heap := hb; rw [h9, e1]; exact hb1) (k3.F h9)) k3.2.2 hms.1 hms.2 T' rfl X'
    exact ⟨t2, hst.trans a1, b1⟩
theorem z_outS {X : Nat → State → Prop} (hXk : zXk n ad X) (C : zc p c cc) (hml : c.maxLocals = nL) {own : String} (hown : s.vm.findClass own = some m.cls) {Ts : List Cond} (hts : ∀ w ∈ Ts, w.before args s = true) {tys : List (ClassId × FieldType)} (hK : va_K D cl tys s) (hX : X s.heap.size s) {y : MethodName} {bytes : ByteArray} {maxL mc1 ms1 mc ms nA index : Nat} {ret : Option FieldType} {wsY : List Cond} {rm : Room} {S : Type} {F : S → Nat → va_E} {E0 : String} {px : S → Prop} {Qc : Array Value → State → Outcome → State → Prop} {XC : String → State → State → Prop} {As : List Value} (hM : ∀ sz, vx_Met l y wsY rm (va_Pc As (zP D cl tys n ad X f sz)) QN (vx_X px (fun E' u' t => E' = E0 ∧ zB D cl n ad F u' t) (gA n ad sz)) mc1 ms1 (gA n ad sz)) (cw : CallB R s args own index y bytes maxL ret wsY rm mc1 ms1 nA ∧ (Cond.static y).before args s = true) (hn : As.length = nA) {st0 : List Value} (hst : st0 = As.reverse ++ st) (hcat : (st.map fun v => v.category).sum ≤ 8) (hdg : decode cc pc = .ok (.invokestatic index, 3)) (hroom : cells + mc1 ≤ R.cells ∧ slots + ms1 ≤ R.slots) (hms : cells + mc1 ≤ mc ∧ slots + ms1 ≤ ms) (htab : ∀ x ∈ c.exceptionTable.toList, False) (hlocks : meth.locks = false)
    (hQ : Q = vx_MQ below Qc XC args s mc ms (gA n ad s.heap.size)) (hx : ∀ (u : S) (t : State), px u → va_P D cl (gW n ad (F u)) t.heap → va_F (gA n ad s.heap.size) s t → XC E0 s t) : ZZ p l e R s m args below meth c D cl n ad nL cells slots Q f L pc st0 := by
  subst hQ
  intro H locs ls hP hS hl T hT Y
  subst hst
  rcases (vx_runS (As := As) (rest := st) ⟨C.1, C.2, hml, hown, hts⟩ (hM H.size) cw ⟨zP_blind hXk, fun U hU hW => ⟨rfl, by rw [hU], by rw [hU]; exact hP, va_K.moved hW.alike hK, by have z := hXk.1 s U locs hX (by rw [hU]; exact hS) hW; rw [hU] at z; exact z⟩⟩ rfl hn hl.1 rfl (lv_room hcat) hdg hroom) T hT Y with ⟨v, st₀, t, T', Lx, h0, X', hL, e1, e2, hF, -⟩ | ⟨q9, st₀, t, T', Lx, E, ce, h0, X', hL, e1, e2, ⟨u, hp, ⟨rfl, hb⟩, hF⟩, hce, hcv, hcl, hst⟩
  · exact hF.elim
  · obtain ⟨k1, k2, k3⟩ := vx_keep h0 e1 hS (fun q _ h => gA_sub hS.1 h) (fun q h => gA_sub hS.1 h) hL hF
    obtain ⟨t2, a1, b1⟩ := vx_out (Qc := Qc) (XC := XC) (args := args) (E := E) (ce := ce) (fun x h => (htab x h).elim) hlocks (by rw [e1]; exact hce) hcv hcl (fun t9 h9 _ => hx u t9 hp (by have hb1 : va_P D cl (gW n ad (F u)) t.heap := hb; rw [h9, e1]; exact hb1) (k3.F h9)) k3.2.2 hms.1 hms.2 T' rfl X'
    exact ⟨t2, hst.trans a1, b1⟩
end ZX
