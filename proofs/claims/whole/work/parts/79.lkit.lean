/-! The law's world: the helpers' cells 0 .. 35, the model's 36 .. 47. -/
abbrev lS : Type := hS × xS
def am (ad : Nat → Nat) (j : Nat) : Nat := ad (36 + j)
def LF (ad : Nat → Nat) (cI cL cR cB cD : ClassId) (z : lS) (k : Nat) : va_E := if k < 36 then hF ad cI cL cR cD z.1 k else mF (am ad) cI cL cB z.2 (k - 36)
theorem LF_h {ad : Nat → Nat} {cI cL cR cB cD : ClassId} {s9 : hS} {v9 : xS} (k : Nat) (hk : k < 36) : LF ad cI cL cR cB cD (s9, v9) (id k) = hF ad cI cL cR cD s9 k := if_pos hk
theorem LF_h2 {ad : Nat → Nat} {cI cL cR cB cD : ClassId} {s : hS} {v9 : xS} (s9 : hS) (j : Nat) (_ : j < 48) (h : ∀ k, k < 36 → id k ≠ j) : LF ad cI cL cR cB cD (s9, v9) j = LF ad cI cL cR cB cD (s, v9) j := by
  have hj : ¬ j < 36 := fun z => h j z rfl
  unfold LF
  rw [if_neg hj, if_neg hj]
theorem LF_x {ad : Nat → Nat} {cI cL cR cB cD : ClassId} {u9 : xS} {o : Nat → Int64} {d : Nat → UInt64} {v9 : xS} (k : Nat) (hk : k < 34) : LF ad cI cL cR cB cD ((u9, o, d), v9) (id k) = xF ad cI cL cR u9 k := (if_pos (Nat.lt_of_lt_of_le hk (by decide))).trans (if_pos hk)
theorem LF_x2 {ad : Nat → Nat} {cI cL cR cB cD : ClassId} {u : xS} {o : Nat → Int64} {d : Nat → UInt64} {v9 : xS} (u9 : xS) (j : Nat) (_ : j < 48) (h : ∀ k, k < 34 → id k ≠ j) : LF ad cI cL cR cB cD ((u9, o, d), v9) j = LF ad cI cL cR cB cD ((u, o, d), v9) j := by
  have hj : ¬ j < 34 := fun z => h j z rfl
  unfold LF hF
  by_cases z : j < 36
  · rw [if_pos z, if_pos z, if_neg hj, if_neg hj]
  · rw [if_neg z, if_neg z]
theorem LF_m {ad : Nat → Nat} {cI cL cR cB cD : ClassId} {s9 : hS} {v9 : xS} (k : Nat) (_ : k < 12) : LF ad cI cL cR cB cD (s9, v9) (36 + k) = mF (am ad) cI cL cB v9 k := by
  unfold LF
  rw [if_neg (by omega), show 36 + k - 36 = k by omega]
theorem LF_m2 {ad : Nat → Nat} {cI cL cR cB cD : ClassId} {s9 : hS} {v : xS} (v9 : xS) (j : Nat) (hj : j < 48) (h : ∀ k, k < 12 → 36 + k ≠ j) : LF ad cI cL cR cB cD (s9, v9) j = LF ad cI cL cR cB cD (s9, v) j := by
  have hj2 : j < 36 := by
    rcases Nat.lt_or_ge j 36 with q | q
    · exact q
    · exact absurd (show 36 + (j - 36) = j by omega) (h (j - 36) (by omega))
  unfold LF
  rw [if_pos hj2, if_pos hj2]
theorem zLh {ad : Nat → Nat} (hI : gI 48 ad) : zL 48 36 ad ad id := ⟨hI, fun _ hk => ⟨Nat.lt_of_lt_of_le hk (by decide), rfl⟩⟩
theorem zLx {ad : Nat → Nat} (hI : gI 48 ad) : zL 48 34 ad ad id := ⟨hI, fun _ hk => ⟨Nat.lt_of_lt_of_le hk (by decide), rfl⟩⟩
theorem zLm {ad : Nat → Nat} (hI : gI 48 ad) : zL 48 12 ad (am ad) (fun k => 36 + k) := ⟨hI, fun k hk => ⟨show 36 + k < 48 by omega, rfl⟩⟩
theorem gI_m {ad : Nat → Nat} (hI : gI 48 ad) : gI 12 (am ad) := fun i j hi hj e => by
  have := hI (36 + i) (36 + j) (by omega) (by omega) e
  omega
theorem lX_h {ad : Nat → Nat} {sz : Nat} (U : State) (h : lX 48 ad sz U) : lX 36 ad sz U := lX_n (by decide) h
theorem lX_x8 {ad : Nat → Nat} {sz : Nat} (U : State) (h : lX 48 ad sz U) : xX 34 ad sz U := xX_n (by decide) h.1
theorem nI_5 (i : Nat) : nI i + Int32.ofInt 5 = nI (i + 5) := nI_add i 5
theorem lgc (x : Int64) : lg_cmp x x = nI 0 := (lg_cmp_eq x x).mpr rfl
/-- what stands all through the law -/
def LC (p : Program) (l : Launch) (s : State) (m : MethodId) (c : Code) (D : va_G) (ad : Nat → Nat) (cI cL cR cB cD : ClassId) (b L : Nat) (xs : Nat → Int32) : Prop :=
  zc p c cL_law ∧ c.maxLocals = 9 ∧ s.vm.findClass RL = some m.cls ∧ (∀ w ∈ wsL_law, w.before #[Value.ref b] s = true) ∧ va_K D vwCl (lT cI cL cR cB cD) s ∧ lX 48 ad s.heap.size s ∧ gI 48 ad ∧ va_X b L xs s s.heap ∧ b < s.heap.size ∧ (¬ gA 48 ad s.heap.size b) ∧ L ≤ 2560 ∧ l.stackTraces = false
section ZLaw
variable {p : Program} {l : Launch} {e : Env} {R : Room} {s : State} {m : MethodId} {args : Array Value} {below : List Frame} {meth : Method} {c : Code} {D : va_G} {cl : List vw_C} {n : Nat} {ad : Nat → Nat} {nL cells slots : Nat} {Q : State → Prop} {f : Nat → va_E} {L : List (Nat × Value)} {pc : Nat} {st : List Value} {cc : ByteArray}
theorem z_sld (C : zc p c cc) {b Ln : Nat} {xs : Nat → Int32} (hX : va_X b Ln xs s s.heap) (hbl : b < s.heap.size) (hbA : ¬ gA n ad s.heap.size b) {i : Int32} {k : Nat} (hi : i = nI k) (hk : k < Ln) (hL : Ln < 2 ^ 31) (hdg : decode cc pc = .ok (.iaload, 1)) (K : ZZ p l e R s m args below meth c D cl n ad nL cells slots Q f L (pc + 1) (.int (xs k) :: st)) : ZZ p l e R s m args below meth c D cl n ad nL cells slots Q f L pc (.int i :: .ref b :: st) := by
  intro H locs ls hP hS hl
  subst hi
  have h := va_sld (rest := st) (ls := ls) (p := p) (l := l) (e := e) (R := R) (m := m) (args := args) (below := below) (meth := meth) (cells := cells) (slots := slots) (Q := Q) C.1 C.2 hX hbl hbA hS (i := nI k) (vp_in_nI hk hL) hdg
  rw [nI_clamp (by omega)] at h
  exact h (K H locs ls hP hS hl)
theorem z_slen (C : zc p c cc) {b Ln : Nat} {xs : Nat → Int32} (hX : va_X b Ln xs s s.heap) (hbl : b < s.heap.size) (hbA : ¬ gA n ad s.heap.size b) (hdg : decode cc pc = .ok (.arraylength, 1)) (K : ZZ p l e R s m args below meth c D cl n ad nL cells slots Q f L (pc + 1) (.int (nI Ln) :: st)) : ZZ p l e R s m args below meth c D cl n ad nL cells slots Q f L pc (.ref b :: st) :=
  fun H locs ls hP hS hl => va_slen C.1 C.2 hX hbl hbA hS hdg (K H locs ls hP hS hl)
/-- a static call of a method with a table of its own -/
theorem z_callWi {X : Nat → State → Prop} (hXk : zXk n ad X) (C : zc p c cc) (hml : c.maxLocals = nL) {own : String} (hown : s.vm.findClass own = some m.cls) {Ts : List Cond} (hts : ∀ w ∈ Ts, w.before args s = true) {tys : List (ClassId × FieldType)} (hK : va_K D cl tys s) (hX : X s.heap.size s) {y : MethodName} {bytes : ByteArray} {maxL mc ms nA index : Nat} {ret : Option FieldType} {hh : List (Nat × Nat × Nat × Nat)} {wsY : List Cond} {rm : Room} {S : Type} {F : S → Nat → va_E} {post : Int32 → S → Prop} {As : List Value} (hM : ∀ sz, Met l y wsY rm (va_Pc As (zP D cl tys n ad X f sz)) (va_Qi post (zB D cl n ad F) (gA n ad sz)) mc ms (gA n ad sz)) (cw : vx_CSW R s args own index y bytes maxL ret hh wsY rm mc ms nA) (hn : As.length = nA) {st0 : List Value} (hst : st0 = As.reverse ++ st) (hcat : (st.map fun v => v.category).sum ≤ 8) (hdg : decode cc pc = .ok (.invokestatic index, 3)) (hroom : cells + mc ≤ R.cells ∧ slots + ms ≤ R.slots) (K : ∀ (r : Int32) (u : S), post r u → ZZ p l e R s m args below meth c D cl n ad nL (cells + mc) (slots + ms) Q (F u) L (pc + 3) (.int r :: st)) : ZZ p l e R s m args below meth c D cl n ad nL cells slots Q f L pc st0 := by
  intro H locs ls hP hS hl
  subst hst
  exact va_calli (vx_runSW (As := As) (rest := st) ⟨C.1, C.2, hml, hown, hts⟩ (hM H.size) cw ⟨zP_blind hXk, fun U hU hW => ⟨rfl, by rw [hU], by rw [hU]; exact hP, va_K.moved hW.alike hK, by have z := hXk.1 s U locs hX (by rw [hU]; exact hS) hW; rw [hU] at z; exact z⟩⟩ rfl hn hl.1 rfl (lv_room hcat) hdg hroom) hS (fun q _ h => gA_sub hS.1 h) (fun q h => gA_sub hS.1 h) (fun r u t H1 locs1 ht _ hw hB _ _ hS1 => K r u hw H1 locs1 ls (by have hB1 : va_P D cl (gW n ad (F u)) t.heap := hB; rw [ht] at hB1; exact hB1) hS1 hl)
end ZLaw
