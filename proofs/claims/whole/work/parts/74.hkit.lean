/-! The law's helpers: the analyzer's cells, out (cell 34), outD (cell 35). -/
abbrev hS : Type := xS × (Nat → Int64) × (Nat → UInt64)
def hF (ad : Nat → Nat) (cI cL cR cD : ClassId) (s : hS) (k : Nat) : va_E := if k < 34 then xF ad cI cL cR s.1 k else if k = 34 then .inl (cL, 1, .inr (.inl s.2.1)) else .inl (cD, 1, .inr (.inr (.inr (.inl s.2.2))))
abbrev lT (cI cL cR cB cD : ClassId) : List (ClassId × FieldType) := [(cI, .int), (cL, .long), (cR, .object "TriggerAnalyzer$Rule"), (cB, .boolean), (cD, .double)]
theorem lK_x {D : va_G} {cl : List vw_C} {cI cL cR cB cD : ClassId} (U : State) (h : va_K D cl (lT cI cL cR cB cD) U) : va_K D cl (xT cI cL cR) U := ⟨h.1, fun k q hq => by
  match k, hq with
  | 0, hq => exact h.2 0 q hq
  | 1, hq => exact h.2 1 q hq
  | 2, hq => exact h.2 2 q hq
  | k + 3, hq => exact absurd hq (by simp)⟩
theorem lK_m {D : va_G} {cl : List vw_C} {cI cL cR cB cD : ClassId} (U : State) (h : va_K D cl (lT cI cL cR cB cD) U) : va_K D cl (mT cI cL cB) U := ⟨h.1, fun k q hq => by
  match k, hq with
  | 0, hq => exact h.2 0 q hq
  | 1, hq => exact h.2 1 q hq
  | 2, hq => exact h.2 3 q hq
  | k + 3, hq => exact absurd hq (by simp)⟩
/-- what catching needs of the tables -/
def xC (U : State) : Prop := (va_Nw (.castable eIO eIO) U ∧ va_Nw (.castable eIA eIA) U ∧ va_Nw (.castable eIS eIS) U) ∧ va_Nc eIO eIA U ∧ va_Nc eIO eIS U ∧ va_Nc eIA eIO U ∧ va_Nc eIA eIS U ∧ va_Nc eIS eIO U ∧ va_Nc eIS eIA U
theorem xC_go {s U : State} (h : xC s) (hW : s.WarmedH U.vm) : xC U := by
  obtain ⟨⟨a, b, c⟩, d1, d2, d3, d4, d5, d6⟩ := h
  exact ⟨⟨a.warmC hW, b.warmC hW, c.warmC hW⟩, d1.moved hW.alike, d2.moved hW.alike, d3.moved hW.alike, d4.moved hW.alike, d5.moved hW.alike, d6.moved hW.alike⟩
def lX (n : Nat) (ad : Nat → Nat) (sz : Nat) (U : State) : Prop := xX n ad sz U ∧ xC U
theorem lX_ok {n : Nat} {ad : Nat → Nat} : zXk n ad (lX n ad) :=
  ⟨fun s U locs h hS hW => ⟨xX_ok.1 s U locs h.1 hS hW, xC_go h.2 hW⟩, fun sz U g mk a h => ⟨xX_ok.2 sz U g mk a h.1, xC_go (U := U.calling g mk a) h.2 (State.WarmedH.refl U)⟩⟩
theorem gA_n {n n1 : Nat} {ad : Nat → Nat} (h : n1 ≤ n) {sz q : Nat} (hq : gA n1 ad sz q) : gA n ad sz q := by
  rcases hq with ⟨k, hk, e⟩ | hq
  · exact Or.inl ⟨k, Nat.lt_of_lt_of_le hk h, e⟩
  · exact Or.inr hq
theorem xX_n {n n1 : Nat} {ad : Nat → Nat} (hn : n1 ≤ n) {sz : Nat} {U : State} (h : xX n ad sz U) : xX n1 ad sz U := ⟨h.1, ⟨h.2.1.1.narrow fun q hq => gA_n hn hq, h.2.1.2.narrow fun q hq => gA_n hn hq⟩, h.2.2⟩
theorem lX_x {ad : Nat → Nat} {sz : Nat} (U : State) (h : lX 36 ad sz U) : xX 34 ad sz U := xX_n (by decide) h.1
theorem lX_n {n n1 : Nat} {ad : Nat → Nat} (hn : n1 ≤ n) {sz : Nat} {U : State} (h : lX n ad sz U) : lX n1 ad sz U := ⟨xX_n hn h.1, h.2⟩
theorem hL36 {ad : Nat → Nat} (hI : gI 36 ad) : zL 36 34 ad ad id := ⟨hI, fun _ hk => ⟨Nat.lt_of_lt_of_le hk (by decide), rfl⟩⟩
theorem hF_h {ad : Nat → Nat} {cI cL cR cD : ClassId} {u : xS} {o : Nat → Int64} {d : Nat → UInt64} (u9 : xS) (j : Nat) (_ : j < 36) (h : ∀ k, k < 34 → id k ≠ j) : hF ad cI cL cR cD (u9, o, d) j = hF ad cI cL cR cD (u, o, d) j := by
  have hj : ¬ j < 34 := fun z => h j z rfl
  unfold hF
  rw [if_neg hj, if_neg hj]
theorem hF_o {ad : Nat → Nat} {cI cL cR cD : ClassId} {u : xS} {o o' : Nat → Int64} {d : Nat → UInt64} : ∀ k, k < 36 → k ≠ 34 → hF ad cI cL cR cD (u, o', d) k = hF ad cI cL cR cD (u, o, d) k := by
  intro k _ hk
  unfold hF
  rw [if_neg hk, if_neg hk]
theorem hF_d {ad : Nat → Nat} {cI cL cR cD : ClassId} {u : xS} {o : Nat → Int64} {d d' : Nat → UInt64} : ∀ k, k < 36 → k ≠ 35 → hF ad cI cL cR cD (u, o, d') k = hF ad cI cL cR cD (u, o, d) k := by
  intro k h1 hk
  unfold hF
  by_cases z : k < 34
  · rw [if_pos z, if_pos z]
  · rw [if_neg z, if_neg z, if_pos (by omega), if_pos (by omega)]
abbrev HP (D : va_G) (ad : Nat → Nat) (cI cL cR cB cD : ClassId) (s : hS) (av : List Value) (sz : Nat) : Array Value → State → Prop := va_Pc av (zP D vwCl (lT cI cL cR cB cD) 36 ad (lX 36 ad) (hF ad cI cL cR cD s) sz)
abbrev HB (D : va_G) (ad : Nat → Nat) (cI cL cR cD : ClassId) : hS → State → Prop := zB D vwCl 36 ad (hF ad cI cL cR cD)
/-- the entry of a method with a table of its own -/
theorem z_metW {l : Launch} {y : MethodName} {ws ws' : List Cond} {rm : Room} {Qc : Array Value → State → Outcome → State → Prop} {mc ms : Nat} {cc : ByteArray} {maxL : Nat} {ret : Option FieldType} {hh : List (Nat × Nat × Nat × Nat)} {D : va_G} {cl : List vw_C} {tys : List (ClassId × FieldType)} {n : Nat} {ad : Nat → Nat} {X : Nat → State → Prop} {f : Nat → va_E} {sz : Nat} {av : List Value} (hy : plainName y.cls = true) (hw : ws = Cond.codeWith y cc maxL ret hh :: ws') (hlen : (lg_sl av).length ≤ maxL)
    (body : ∀ p e s m args Q below meth c, zc p c cc → meth.sig.returnType = ret → c.maxLocals = maxL → s.vm.findClass y.cls = some m.cls → (∀ w ∈ ws, w.before args s = true) → meth.locks = false → va_K D cl tys s → X s.heap.size s → c.exceptionTable.toList = tableOf hh → s.heap.size = sz → Q = MQ below Qc args s mc ms (gA n ad s.heap.size) → ZZ p l e rm s m args below meth c D cl n ad maxL 0 0 Q f (lv_args 0 av) 0 []) : Met l y ws rm (va_Pc av (zP D cl tys n ad X f sz)) Qc mc ms (gA n ad sz) := by
  refine MetFree.of_bodyS (code := cc) (maxLocals := maxL) (ret := ret) hy ?_ ?_
  · intro args s m h hn
    obtain ⟨m9, meth, c, hn9, h1, h2, h3, h4, -, h5, h6, -⟩ := Cond.codeWith_spec (atoms_spec (ws := ws) h _ (by rw [hw]; exact List.mem_cons_self))
    cases hn.symm.trans hn9
    exact ⟨meth, c, h1, h2, h3, h4, h5, h6⟩
  · intro p e s m args below meth c s₁ B hml hPre _
    obtain ⟨rfl, hsz, hP, hK, hX⟩ := hPre
    have htab := vx_table (x := y) B (atoms_spec (ws := ws) B.pre _ (by rw [hw]; exact List.mem_cons_self))
    have hh0 : s₁.heap = s.heap := by rw [B.state]; rfl
    subst hsz
    have hW : W p l e rm s m av.toArray below meth c s.heap [] 0 0 (MQ below Qc av.toArray s mc ms (gA n ad s.heap.size)) (entryFrame m av.toArray maxL) := by
      rw [lg_entry_eq]
      exact body p e s m av.toArray _ below meth c ⟨B.exec, B.bytes⟩ B.returns hml (findClass_of_methodNamed B.named) (atoms_spec (ws := ws) B.pre) B.notSynchronized hK hX htab rfl rfl s.heap [] _ hP va_S.rf (lv_entry av hlen)
    obtain ⟨t, a1, o, b1, b2, b3⟩ := hW s₁ hh0 (Stand.of_body B)
    exact ⟨t, o, a1, b1, b2, b3⟩
/-- a call that throws, caught here -/
theorem z_catchV {p : Program} {l : Launch} {e : Env} {R : Room} {s : State} {m : MethodId} {args : Array Value} {below : List Frame} {meth : Method} {c : Code} {D : va_G} {cl : List vw_C} {n : Nat} {ad : Nat → Nat} {nL cells slots : Nat} {Q : State → Prop} {f : Nat → va_E} {L : List (Nat × Value)} {pc : Nat} {st : List Value} {cc : ByteArray} {X : Nat → State → Prop} (hXk : zXk n ad X) (C : zc p c cc) (hml : c.maxLocals = nL) {own : String} (hown : s.vm.findClass own = some m.cls) {Ts : List Cond} (hts : ∀ w ∈ Ts, w.before args s = true) {tys : List (ClassId × FieldType)} (hK : va_K D cl tys s) (hX : X s.heap.size s) {y : MethodName} {bytes : ByteArray} {maxL mc1 ms1 nA index : Nat} {ret : Option FieldType} {wsY : List Cond} {rm : Room} {S : Type} {F : S → Nat → va_E} {E0 : String} {px : S → Prop} {As : List Value} {q : Nat} {C0 : String} (hM : ∀ sz, vx_Met l y wsY rm (va_Pc (.ref (ad q) :: As) (zP D cl tys n ad X f sz)) QN (vx_X px (fun E' u' t => E' = E0 ∧ zB D cl n ad F u' t) (gA n ad sz)) mc1 ms1 (gA n ad sz)) (cw : CallW R s args own C0 index y bytes maxL ret wsY rm mc1 ms1 nA) (hq : q < n) {ci N : Nat} {fs : List Value} {T : u_T} (hf : f q = .inr (ci, fs)) (hc : cl[ci]? = some (C0, T, N)) (hn : As.length = nA) {st0 : List Value} (hst : st0 = As.reverse ++ .ref (ad q) :: st) (hcat : (st.map fun v => v.category).sum ≤ 8) (hdg : decode cc pc = .ok (.invokevirtual index, 3)) (hroom : cells + mc1 ≤ R.cells ∧ slots + ms1 ≤ R.slots)
    (pre : List ExceptionTableEntry) (x : ExceptionTableEntry) (suf : List ExceptionTableEntry) (hsplit : c.exceptionTable.toList = pre ++ x :: suf) (hpass : ∀ z ∈ pre, z.catchType ≠ 0 ∧ ∃ nm : String, (Cond.classLink own z.catchType nm).before args s = true ∧ va_Nc E0 nm s) (hx : covers x pc = true) (h0 : x.catchType ≠ 0) {name : String} (hlink : (Cond.classLink own x.catchType name).before args s = true) (hcast : va_Nw (.castable E0 name) s)
    (K : ∀ (q9 : Nat) (u : S), px u → ZZ p l e R s m args below meth c D cl n ad nL (cells + mc1) (slots + ms1) Q (F u) L x.handlerPc [.ref q9]) : ZZ p l e R s m args below meth c D cl n ad nL cells slots Q f L pc st0 := by
  intro H locs ls hP hS hl T hT Y
  subst hst
  rcases (vx_runV (As := As) (rest := st) ⟨C.1, C.2, hml, hown, hts⟩ (hM H.size) cw ⟨zP_blind hXk, va_recv hK hP hc (by rw [gW_get hq, hf]), fun U hU hW => ⟨rfl, by rw [hU], by rw [hU]; exact hP, va_K.moved hW.alike hK, by have z := hXk.1 s U locs hX (by rw [hU]; exact hS) hW; rw [hU] at z; exact z⟩⟩ rfl hn hl.1 rfl (lv_room hcat) hdg hroom) T hT Y with ⟨v, st₀, t, T', Lx, h9, X', hL, e1, e2, hF, -⟩ | ⟨q9, st₀, t, T', Lx, E, ce, h9, X', hL, e1, e2, ⟨u, hp, ⟨rfl, hb⟩, hF⟩, hce, hcv, hcl, hst⟩
  · exact hF.elim
  · obtain ⟨k1, k2, k3⟩ := vx_keep h9 e1 hS (fun q _ h => gA_sub hS.1 h) (fun q h => gA_sub hS.1 h) hL hF
    have hB1 : va_P D cl (gW n ad (F u)) T'.heap := by rw [e1]; exact hb
    obtain ⟨t2, a1, b1⟩ := vx_catch (pc := pc) (ls := ls) (rest := st) hown pre x suf hsplit (fun z hz => Or.inr (hpass z hz)) hx h0 hlink (va_Nw.use rfl hcast) (by rw [e1]; exact hce) hcv hcl (K q9 u hp T'.heap (locs ++ Lx) ls hB1 k3 hl) T' rfl X'
    exact ⟨t2, hst.trans a1, b1⟩
