/-! The law's world: the analyzer's cells 0 .. 33, rows of ints at 34 (72), 35 (8), 36 to 38 (c). -/
abbrev pS : Type := xS × xS
def PF (ad : Nat → Nat) (cI cL cR : ClassId) (c : Nat) (z : pS) (k : Nat) : va_E := if k < 34 then xF ad cI cL cR z.1 k else .inl (cI, (if k = 34 then 72 else if k = 35 then 8 else c), .inl (z.2.1 k))
theorem PF_x {ad : Nat → Nat} {cI cL cR : ClassId} {c : Nat} {u A : xS} (k : Nat) (hk : k < 34) : PF ad cI cL cR c (u, A) (id k) = xF ad cI cL cR u k := if_pos hk
theorem PF_x2 {ad : Nat → Nat} {cI cL cR : ClassId} {c n : Nat} {u A : xS} (u9 : xS) (j : Nat) (_ : j < n) (h : ∀ k, k < 34 → id k ≠ j) : PF ad cI cL cR c (u9, A) j = PF ad cI cL cR c (u, A) j := by
  have hj : ¬ j < 34 := fun z => h j z rfl
  unfold PF
  rw [if_neg hj, if_neg hj]
theorem PF_ne {ad : Nat → Nat} {cI cL cR : ClassId} {c n : Nat} {u A : xS} {q j : Nat} {v : Int32} (hq : 34 ≤ q) : ∀ k, k < n → k ≠ q → PF ad cI cL cR c (u, xs A q j v) k = PF ad cI cL cR c (u, A) k := by
  intro k _ hk
  unfold PF
  by_cases z : k < 34
  · rw [if_pos z, if_pos z]
  · rw [if_neg z, if_neg z]
    have e : (xs A q j v).1 k = A.1 k := funext fun i => xs_c hk i
    rw [e]
theorem PF_c {ad : Nat → Nat} {cI cL cR : ClassId} {c c2 n : Nat} (hn : n ≤ 36) {z : pS} : ∀ k, k < n → PF ad cI cL cR c2 z k = PF ad cI cL cR c z k := by
  intro k hk
  unfold PF
  by_cases y : k < 34
  · rw [if_pos y, if_pos y]
  · rw [if_neg y, if_neg y]
    by_cases y2 : k = 34
    · rw [if_pos y2, if_pos y2]
    · rw [if_neg y2, if_neg y2, if_pos (show k = 35 by omega), if_pos (show k = 35 by omega)]
theorem gI_n {n n1 : Nat} {ad : Nat → Nat} (h : n1 ≤ n) (hI : gI n ad) : gI n1 ad := fun i j hi hj e => hI i j (Nat.lt_of_lt_of_le hi h) (Nat.lt_of_lt_of_le hj h) e
theorem gA_n {n n1 : Nat} {ad : Nat → Nat} (h : n1 ≤ n) {sz q : Nat} (hq : gA n1 ad sz q) : gA n ad sz q := by
  rcases hq with ⟨k, hk, e⟩ | hq
  · exact Or.inl ⟨k, Nat.lt_of_lt_of_le hk h, e⟩
  · exact Or.inr hq
theorem xX_n {n n1 : Nat} {ad : Nat → Nat} (hn : n1 ≤ n) {sz : Nat} {U : State} (h : xX n ad sz U) : xX n1 ad sz U := ⟨h.1, ⟨h.2.1.1.narrow fun q hq => gA_n hn hq, h.2.1.2.narrow fun q hq => gA_n hn hq⟩, h.2.2⟩
theorem pL {n : Nat} {ad : Nat → Nat} (hn : 34 ≤ n) (hI : gI n ad) : zL n 34 ad ad id := ⟨hI, fun _ hk => ⟨Nat.lt_of_lt_of_le hk hn, rfl⟩⟩
/-- what goes along: the tables' words, the script's cell -/
def pX (n : Nat) (ad : Nat → Nat) (b L : Nat) (xs : Nat → Int32) (sz : Nat) (U : State) : Prop := xX n ad sz U ∧ va_Nw (.castable eIA eIA) U ∧ va_X b L xs U U.heap ∧ b < sz ∧ (¬ gA n ad sz b) ∧ L ≤ 260
theorem pX_ok {n : Nat} {ad : Nat → Nat} {b L : Nat} {xs : Nat → Int32} : zXk n ad (pX n ad b L xs) := by
  refine ⟨fun s U locs h hS hW => ?_, fun sz U g mk a h => ?_⟩
  · obtain ⟨h1, h2, h3, h4, h5, h6⟩ := h
    refine ⟨xX_ok.1 s U locs h1 hS hW, h2.warmC hW, (h3.kept (hS.2.1 b h4 h5)).moved hW.alike, Nat.lt_of_lt_of_le h4 hS.1, fun z => h5 (gA_sub hS.1 z), h6⟩
  · obtain ⟨h1, h2, h3, h4, h5, h6⟩ := h
    exact ⟨xX_ok.2 sz U g mk a h1, h2.warmC (U := U.calling g mk a) (State.WarmedH.refl U), va_X.moved (u := U) (U := U.calling g mk a) (Vm.Alike.refl U.vm) h3, h4, h5, h6⟩
theorem pX_x {n : Nat} {ad : Nat → Nat} (hn : 34 ≤ n) {b L : Nat} {xs : Nat → Int32} {sz : Nat} (U : State) (h : pX n ad b L xs sz U) : xX 34 ad sz U := xX_n hn h.1
abbrev PP (D : va_G) (ad : Nat → Nat) (cI cL cR : ClassId) (c n b L : Nat) (xs : Nat → Int32) (z : pS) (av : List Value) (sz : Nat) : Array Value → State → Prop := va_Pc av (zP D vwCl (xT cI cL cR) n ad (pX n ad b L xs) (PF ad cI cL cR c z) sz)
abbrev PB (D : va_G) (ad : Nat → Nat) (cI cL cR : ClassId) (c n : Nat) : pS → State → Prop := zB D vwCl n ad (PF ad cI cL cR c)
/-- the entry of a method with a table of its own -/
theorem z_metW {l : Launch} {y : MethodName} {ws ws' : List Cond} {rm : Room} {Qc : Array Value → State → Outcome → State → Prop} {mc ms : Nat} {cc : ByteArray} {maxL : Nat} {ret : Option FieldType} {hh : List (Nat × Nat × Nat × Nat)} {D : va_G} {cl : List vw_C} {tys : List (ClassId × FieldType)} {n : Nat} {ad : Nat → Nat} {X : Nat → State → Prop} {f : Nat → va_E} {sz : Nat} {av : List Value} (hy : plainName y.cls = true) (hw : ws = Cond.codeWith y cc maxL ret hh :: ws') (hlen : (lg_sl av).length ≤ maxL)
    (body : ∀ p e s m args Q below meth c, zc p c cc → meth.sig.returnType = ret → c.maxLocals = maxL → s.vm.findClass y.cls = some m.cls → (∀ w ∈ ws, w.before args s = true) → meth.locks = false → va_K D cl tys s → X s.heap.size s → c.exceptionTable.toList = tableOf hh → s.heap.size = sz → Q = MQ below Qc args s mc ms (gA n ad s.heap.size) → ZZ p l e rm s m args below meth c D cl n ad maxL 0 0 Q f (lv_args 0 av) 0 []) : Met l y ws rm (va_Pc av (zP D cl tys n ad X f sz)) Qc mc ms (gA n ad sz) := by
  refine MetFree.of_bodyS (code := cc) (maxLocals := maxL) (ret := ret) hy ?_ ?_
  · intro args s m h hn
    obtain ⟨m9, meth, c, hn9, h1, h2, h3, h4, -, h5, h6, -⟩ := Cond.codeWith_spec (atoms_spec (ws := ws) h _ (by rw [hw]; exact List.mem_cons_self))
    cases hn.symm.trans hn9
    exact ⟨meth, c, h1, h2, h3, h4, h5, h6⟩
  · intro p e s m args below meth c s₁ B hml hPre _
    obtain ⟨rfl, hsz, hP, hK, hX⟩ := hPre
    have htab := vx_table (x := y) B (atoms_spec (ws := ws) B.pre _ (by rw [hw]; exact List.mem_cons_self))
    have hh0 : s₁.heap = s.heap := by rw [B.state]; rfl
    subst hsz
    have hW : W p l e rm s m av.toArray below meth c s.heap [] 0 0 (MQ below Qc av.toArray s mc ms (gA n ad s.heap.size)) (entryFrame m av.toArray maxL) := by
      rw [lg_entry_eq]
      exact body p e s m av.toArray _ below meth c ⟨B.exec, B.bytes⟩ B.returns hml (findClass_of_methodNamed B.named) (atoms_spec (ws := ws) B.pre) B.notSynchronized hK hX htab rfl rfl s.heap [] _ hP va_S.rf (lv_entry av hlen)
    obtain ⟨t, a1, o, b1, b2, b3⟩ := hW s₁ hh0 (Stand.of_body B)
    exact ⟨t, o, a1, b1, b2, b3⟩
/-- a call that throws, caught here -/
theorem z_catchV {p : Program} {l : Launch} {e : Env} {R : Room} {s : State} {m : MethodId} {args : Array Value} {below : List Frame} {meth : Method} {c : Code} {D : va_G} {cl : List vw_C} {n : Nat} {ad : Nat → Nat} {nL cells slots : Nat} {Q : State → Prop} {f : Nat → va_E} {L : List (Nat × Value)} {pc : Nat} {st : List Value} {cc : ByteArray} {X : Nat → State → Prop} (hXk : zXk n ad X) (C : zc p c cc) (hml : c.maxLocals = nL) {own : String} (hown : s.vm.findClass own = some m.cls) {Ts : List Cond} (hts : ∀ w ∈ Ts, w.before args s = true) {tys : List (ClassId × FieldType)} (hK : va_K D cl tys s) (hX : X s.heap.size s) {y : MethodName} {bytes : ByteArray} {maxL mc1 ms1 nA index : Nat} {ret : Option FieldType} {wsY : List Cond} {rm : Room} {S : Type} {F : S → Nat → va_E} {E0 : String} {px : S → Prop} {As : List Value} {q : Nat} {C0 : String} (hM : ∀ sz, vx_Met l y wsY rm (va_Pc (.ref (ad q) :: As) (zP D cl tys n ad X f sz)) QN (vx_X px (fun E' u' t => E' = E0 ∧ zB D cl n ad F u' t) (gA n ad sz)) mc1 ms1 (gA n ad sz)) (cw : CallW R s args own C0 index y bytes maxL ret wsY rm mc1 ms1 nA) (hq : q < n) {ci N : Nat} {fs : List Value} {T : u_T} (hf : f q = .inr (ci, fs)) (hc : cl[ci]? = some (C0, T, N)) (hn : As.length = nA) {st0 : List Value} (hst : st0 = As.reverse ++ .ref (ad q) :: st) (hcat : (st.map fun v => v.category).sum ≤ 8) (hdg : decode cc pc = .ok (.invokevirtual index, 3)) (hroom : cells + mc1 ≤ R.cells ∧ slots + ms1 ≤ R.slots)
    (pre : List ExceptionTableEntry) (x : ExceptionTableEntry) (suf : List ExceptionTableEntry) (hsplit : c.exceptionTable.toList = pre ++ x :: suf) (hpass : ∀ z ∈ pre, z.catchType ≠ 0 ∧ ∃ nm : String, (Cond.classLink own z.catchType nm).before args s = true ∧ va_Nc E0 nm s) (hx : covers x pc = true) (h0 : x.catchType ≠ 0) {name : String} (hlink : (Cond.classLink own x.catchType name).before args s = true) (hcast : va_Nw (.castable E0 name) s)
    (K : ∀ (q9 : Nat) (u : S), px u → ZZ p l e R s m args below meth c D cl n ad nL (cells + mc1) (slots + ms1) Q (F u) L x.handlerPc [.ref q9]) : ZZ p l e R s m args below meth c D cl n ad nL cells slots Q f L pc st0 := by
  intro H locs ls hP hS hl T hT Y
  subst hst
  rcases (vx_runV (As := As) (rest := st) ⟨C.1, C.2, hml, hown, hts⟩ (hM H.size) cw ⟨zP_blind hXk, va_recv hK hP hc (by rw [gW_get hq, hf]), fun U hU hW => ⟨rfl, by rw [hU], by rw [hU]; exact hP, va_K.moved hW.alike hK, by have z := hXk.1 s U locs hX (by rw [hU]; exact hS) hW; rw [hU] at z; exact z⟩⟩ rfl hn hl.1 rfl (lv_room hcat) hdg hroom) T hT Y with ⟨v, st₀, t, T', Lx, h9, X', hL, e1, e2, hF, -⟩ | ⟨q9, st₀, t, T', Lx, E, ce, h9, X', hL, e1, e2, ⟨u, hp, ⟨rfl, hb⟩, hF⟩, hce, hcv, hcl, hst⟩
  · exact hF.elim
  · obtain ⟨k1, k2, k3⟩ := vx_keep h9 e1 hS (fun q _ h => gA_sub hS.1 h) (fun q h => gA_sub hS.1 h) hL hF
    have hB1 : va_P D cl (gW n ad (F u)) T'.heap := by rw [e1]; exact hb
    obtain ⟨t2, a1, b1⟩ := vx_catch (pc := pc) (ls := ls) (rest := st) hown pre x suf hsplit (fun z hz => Or.inr (hpass z hz)) hx h0 hlink (va_Nw.use rfl hcast) (by rw [e1]; exact hce) hcv hcl (K q9 u hp T'.heap (locs ++ Lx) ls hB1 k3 hl) T' rfl X'
    exact ⟨t2, hst.trans a1, b1⟩
section ZLaw
variable {p : Program} {l : Launch} {e : Env} {R : Room} {s : State} {m : MethodId} {args : Array Value} {below : List Frame} {meth : Method} {c : Code} {D : va_G} {cl : List vw_C} {n : Nat} {ad : Nat → Nat} {nL cells slots : Nat} {Q : State → Prop} {f : Nat → va_E} {L : List (Nat × Value)} {pc : Nat} {st : List Value} {cc : ByteArray}
theorem z_sld (C : zc p c cc) {b Ln : Nat} {xs : Nat → Int32} (hX : va_X b Ln xs s s.heap) (hbl : b < s.heap.size) (hbA : ¬ gA n ad s.heap.size b) {i : Int32} {k : Nat} (hi : i = nI k) (hk : k < Ln) (hL : Ln < 2 ^ 31) (hdg : decode cc pc = .ok (.iaload, 1)) (K : ZZ p l e R s m args below meth c D cl n ad nL cells slots Q f L (pc + 1) (.int (xs k) :: st)) : ZZ p l e R s m args below meth c D cl n ad nL cells slots Q f L pc (.int i :: .ref b :: st) := by
  intro H locs ls hP hS hl
  subst hi
  have h := va_sld (rest := st) (ls := ls) (p := p) (l := l) (e := e) (R := R) (m := m) (args := args) (below := below) (meth := meth) (cells := cells) (slots := slots) (Q := Q) C.1 C.2 hX hbl hbA hS (i := nI k) (vp_in_nI hk hL) hdg
  rw [nI_clamp (by omega)] at h
  exact h (K H locs ls hP hS hl)
theorem z_slen (C : zc p c cc) {b Ln : Nat} {xs : Nat → Int32} (hX : va_X b Ln xs s s.heap) (hbl : b < s.heap.size) (hbA : ¬ gA n ad s.heap.size b) (hdg : decode cc pc = .ok (.arraylength, 1)) (K : ZZ p l e R s m args below meth c D cl n ad nL cells slots Q f L (pc + 1) (.int (nI Ln) :: st)) : ZZ p l e R s m args below meth c D cl n ad nL cells slots Q f L pc (.ref b :: st) :=
  fun H locs ls hP hS hl => va_slen C.1 C.2 hX hbl hbA hS hdg (K H locs ls hP hS hl)
/-- a static call of a method with a table of its own -/
theorem z_callWi {X : Nat → State → Prop} (hXk : zXk n ad X) (C : zc p c cc) (hml : c.maxLocals = nL) {own : String} (hown : s.vm.findClass own = some m.cls) {Ts : List Cond} (hts : ∀ w ∈ Ts, w.before args s = true) {tys : List (ClassId × FieldType)} (hK : va_K D cl tys s) (hX : X s.heap.size s) {y : MethodName} {bytes : ByteArray} {maxL mc ms nA index : Nat} {ret : Option FieldType} {hh : List (Nat × Nat × Nat × Nat)} {wsY : List Cond} {rm : Room} {S : Type} {F : S → Nat → va_E} {post : Int32 → S → Prop} {As : List Value} (hM : ∀ sz, Met l y wsY rm (va_Pc As (zP D cl tys n ad X f sz)) (va_Qi post (zB D cl n ad F) (gA n ad sz)) mc ms (gA n ad sz)) (cw : vx_CSW R s args own index y bytes maxL ret hh wsY rm mc ms nA) (hn : As.length = nA) {st0 : List Value} (hst : st0 = As.reverse ++ st) (hcat : (st.map fun v => v.category).sum ≤ 8) (hdg : decode cc pc = .ok (.invokestatic index, 3)) (hroom : cells + mc ≤ R.cells ∧ slots + ms ≤ R.slots) (K : ∀ (r : Int32) (u : S), post r u → ZZ p l e R s m args below meth c D cl n ad nL (cells + mc) (slots + ms) Q (F u) L (pc + 3) (.int r :: st)) : ZZ p l e R s m args below meth c D cl n ad nL cells slots Q f L pc st0 := by
  intro H locs ls hP hS hl
  subst hst
  exact va_calli (vx_runSW (As := As) (rest := st) ⟨C.1, C.2, hml, hown, hts⟩ (hM H.size) cw ⟨zP_blind hXk, fun U hU hW => ⟨rfl, by rw [hU], by rw [hU]; exact hP, va_K.moved hW.alike hK, by have z := hXk.1 s U locs hX (by rw [hU]; exact hS) hW; rw [hU] at z; exact z⟩⟩ rfl hn hl.1 rfl (lv_room hcat) hdg hroom) hS (fun q _ h => gA_sub hS.1 h) (fun q h => gA_sub hS.1 h) (fun r u t H1 locs1 ht _ hw hB _ _ hS1 => K r u hw H1 locs1 ls (by have hB1 : va_P D cl (gW n ad (F u)) t.heap := hB; rw [ht] at hB1; exact hB1) hS1 hl)
end ZLaw
/-! the law's numbers -/
def bl0 (x : Int32) : Nat := x.toBitVec.toNat % 2 ^ 31
def bl (x : Int32) (m : Nat) : Nat := bl0 x % m
theorem bl_lt (x : Int32) {m : Nat} (h : 0 < m) : bl x m < m := Nat.mod_lt _ h
theorem bl0_lt (x : Int32) : bl0 x < 2 ^ 31 := Nat.mod_lt _ (by decide)
theorem bl0_mask (x : Int32) : x &&& 2147483647 = nI (bl0 x) := by
  have e : x = nI x.toBitVec.toNat := Int32.toBitVec_inj.mp (by
    show x.toBitVec = BitVec.ofNat 32 x.toBitVec.toNat
    rw [BitVec.ofNat_toNat, BitVec.setWidth_eq])
  have h := fa_mask x.toBitVec.toNat 31
  rw [← e] at h
  exact h
theorem bl_rem (x : Int32) {m : Nat} (h : 0 < m) (h2 : m < 2 ^ 31) : nI (bl0 x) - nI (bl0 x) / nI m * nI m = nI (bl x m) := pk_rem (bl0_lt x) h h2
/-- a cell of the script, or what stands for it behind its end -/
def ce (xs : Nat → Int32) (L k : Nat) : Int32 := if k < L then xs k else nI (790386105 * (k + 3))
theorem rw5 {A : xS} {i : Nat} (v0 v1 v2 v3 v4 : Int32) : (xs (xs (xs (xs (xs A 34 (9 * i) v0) 34 (9 * i + 1) v1) 34 (9 * i + 2) v2) 34 (9 * i + 3) v3) 34 (9 * i + 4) v4).1 34 (9 * i) = v0 ∧ (xs (xs (xs (xs (xs A 34 (9 * i) v0) 34 (9 * i + 1) v1) 34 (9 * i + 2) v2) 34 (9 * i + 3) v3) 34 (9 * i + 4) v4).1 34 (9 * i + 1) = v1 ∧ (xs (xs (xs (xs (xs A 34 (9 * i) v0) 34 (9 * i + 1) v1) 34 (9 * i + 2) v2) 34 (9 * i + 3) v3) 34 (9 * i + 4) v4).1 34 (9 * i + 2) = v2 ∧ (xs (xs (xs (xs (xs A 34 (9 * i) v0) 34 (9 * i + 1) v1) 34 (9 * i + 2) v2) 34 (9 * i + 3) v3) 34 (9 * i + 4) v4).1 34 (9 * i + 3) = v3 ∧ (xs (xs (xs (xs (xs A 34 (9 * i) v0) 34 (9 * i + 1) v1) 34 (9 * i + 2) v2) 34 (9 * i + 3) v3) 34 (9 * i + 4) v4).1 34 (9 * i + 4) = v4 := by
  refine ⟨?_, ?_, ?_, ?_, xs_s _ _ _ _⟩
  · rw [xs_j (by omega), xs_j (by omega), xs_j (by omega), xs_j (by omega), xs_s]
  · rw [xs_j (by omega), xs_j (by omega), xs_j (by omega), xs_s]
  · rw [xs_j (by omega), xs_j (by omega), xs_s]
  · rw [xs_j (by omega), xs_s]
