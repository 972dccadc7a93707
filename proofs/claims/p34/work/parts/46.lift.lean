/-! A contract over a small world is one over a greater: what isn't the small one's stays. -/
theorem z_mono {l : Launch} {y : MethodName} {ws : List Cond} {rm : Room} {Pc Pc' : Array Value → State → Prop} {Qc Qc' : Array Value → State → Outcome → State → Prop} {mc ms : Nat} {free free' : Addr → Prop} (hp : ∀ a s, Pc' a s → Pc a s) (hq : ∀ a s o t, Pc' a s → Qc a s o t → Qc' a s o t) (hf : ∀ q, free q → free' q) (h : Met l y ws rm Pc Qc mc ms free) : Met l y ws rm Pc' Qc' mc ms free' := by
  intro p e ha hc hk s m args below hfr happ hP hK
  obtain ⟨n, o, h1, h2, h3, h4, L, h5, h6⟩ := h p e ha hc hk s m args below hfr happ (hp _ _ hP) hK
  exact ⟨n, o, h1, h2, h3, hq _ _ _ _ hP h4, L, h5, fun q hL => hf _ (h6 q hL)⟩
theorem x_mono {l : Launch} {y : MethodName} {ws : List Cond} {rm : Room} {Pc Pc' : Array Value → State → Prop} {Qc Qc' : Array Value → State → Outcome → State → Prop} {XC XC' : String → State → State → Prop} {mc ms : Nat} {free free' : Addr → Prop} (hp : ∀ a s, Pc' a s → Pc a s) (hq : ∀ a s o t, Pc' a s → Qc a s o t → Qc' a s o t) (hx : ∀ E a s t, Pc' a s → XC E s t → XC' E s t) (hf : ∀ q, free q → free' q) (h : vx_Met l y ws rm Pc Qc XC mc ms free) : vx_Met l y ws rm Pc' Qc' XC' mc ms free' := by
  intro p e ha hc hk s m args below hfr happ hP hK
  obtain ⟨n, o, h1, h2, h3, h4⟩ := h p e ha hc hk s m args below hfr happ (hp _ _ hP) hK
  refine ⟨n, o, h1, h2, h3, ?_⟩
  rcases h4 with ⟨h4, L, h5, h6⟩ | ⟨q, h4, E, ce, L, h5, h6, h7, h8, h9, h10, h11⟩
  · exact Or.inl ⟨hq _ _ _ _ hP h4, L, h5, fun q hL => hf _ (h6 q hL)⟩
  · exact Or.inr ⟨q, h4, E, ce, L, hx _ _ _ _ hP h5, h6, h7, h8, h9, h10, fun z hz => hf _ (h11 z hz)⟩
def zL (n n1 : Nat) (ad ad1 σ : Nat → Nat) : Prop := gI n ad ∧ ∀ k, k < n1 → σ k < n ∧ ad1 k = ad (σ k)
theorem zL_A {n n1 : Nat} {ad ad1 σ : Nat → Nat} (h : zL n n1 ad ad1 σ) {sz q : Nat} (hq : gA n1 ad1 sz q) : gA n ad sz q := by
  rcases hq with ⟨k, hk, e⟩ | hq
  · exact Or.inl ⟨σ k, (h.2 k hk).1, e.trans (h.2 k hk).2⟩
  · exact Or.inr hq
theorem zL_P {D : va_G} {cl : List vw_C} {n n1 : Nat} {ad ad1 σ : Nat → Nat} {f f' f1' : Nat → va_E} {s t : State} (hL : zL n n1 ad ad1 σ) (hP : va_P D cl (gW n ad f) s.heap) (hF : va_F (gA n1 ad1 s.heap.size) s t) (hB : va_P D cl (gW n1 ad1 f1') t.heap) (h1 : ∀ k, k < n1 → f' (σ k) = f1' k) (h2 : ∀ j, j < n → (∀ k, k < n1 → σ k ≠ j) → f' j = f j) : va_P D cl (gW n ad f') t.heap := by
  refine gP_of fun j hj => ?_
  by_cases h : ∃ k, k < n1 ∧ σ k = j
  · obtain ⟨k, hk, rfl⟩ := h
    rw [h1 k hk, ← (hL.2 k hk).2]
    exact gP_at hB hk
  · rw [h2 j hj fun k hk e => h ⟨k, hk, e⟩]
    have hlt : ad j < s.heap.size := (gP_at hP hj).lt
    refine (gP_at hP hj).kept (hF.2 (ad j) hlt ?_)
    rintro (⟨k, hk, e⟩ | e)
    · exact h ⟨k, hk, (hL.1 j (σ k) hj (hL.2 k hk).1 (e.trans (hL.2 k hk).2)).symm⟩
    · omega
theorem zL_F {n n1 : Nat} {ad ad1 σ : Nat → Nat} (h : zL n n1 ad ad1 σ) {s t : State} {sz : Nat} (hF : va_F (gA n1 ad1 sz) s t) : va_F (gA n ad sz) s t := ⟨hF.1, fun q h1 h2 => hF.2 q h1 fun z => h2 (zL_A h z)⟩
theorem zL_pre {D : va_G} {cl : List vw_C} {tys tys1 : List (ClassId × FieldType)} {n n1 : Nat} {ad ad1 σ : Nat → Nat} {X X1 : Nat → State → Prop} {f f1 : Nat → va_E} {As : List Value} {sz : Nat} (hL : zL n n1 ad ad1 σ) (hf : ∀ k, k < n1 → f (σ k) = f1 k) (hK : ∀ U, va_K D cl tys U → va_K D cl tys1 U) (hX : ∀ U, X sz U → X1 sz U) {a : Array Value} {s : State} (h : va_Pc As (zP D cl tys n ad X f sz) a s) : va_Pc As (zP D cl tys1 n1 ad1 X1 f1 sz) a s := by
  obtain ⟨h0, h1, h2, h3, h4⟩ := h
  refine ⟨h0, h1, gP_of fun k hk => ?_, hK _ h3, hX _ h4⟩
  rw [(hL.2 k hk).2, ← hf k hk]
  exact gP_at h2 (hL.2 k hk).1
section ZL
variable {l : Launch} {y : MethodName} {wsY : List Cond} {rm : Room} {D : va_G} {cl : List vw_C} {tys tys1 : List (ClassId × FieldType)} {n n1 : Nat} {ad ad1 σ : Nat → Nat} {X X1 : Nat → State → Prop} {f f1 : Nat → va_E} {As : List Value} {S : Type} {F F1 : S → Nat → va_E} {mc ms sz : Nat}
theorem z_liftI (hL : zL n n1 ad ad1 σ) (hK : ∀ U, va_K D cl tys U → va_K D cl tys1 U) (hX : ∀ U, X sz U → X1 sz U) (hf : ∀ k, k < n1 → f (σ k) = f1 k) (h1 : ∀ u k, k < n1 → F u (σ k) = F1 u k) (h2 : ∀ u j, j < n → (∀ k, k < n1 → σ k ≠ j) → F u j = f j) {post post' : Int32 → S → Prop} (hp : ∀ r u, post r u → post' r u) (hM : Met l y wsY rm (va_Pc As (zP D cl tys1 n1 ad1 X1 f1 sz)) (va_Qi post (zB D cl n1 ad1 F1) (gA n1 ad1 sz)) mc ms (gA n1 ad1 sz)) : Met l y wsY rm (va_Pc As (zP D cl tys n ad X f sz)) (va_Qi post' (zB D cl n ad F) (gA n ad sz)) mc ms (gA n ad sz) := by
  refine z_mono (fun a s h => zL_pre hL hf hK hX h) (fun a s o t h hq => ?_) (fun q h => zL_A hL h) hM
  obtain ⟨⟨r, u, e, hr, hB⟩, hF⟩ := hq
  obtain ⟨h0, rfl, hP, -, -⟩ := h
  exact ⟨⟨r, u, e, hp r u hr, zL_P hL hP hF hB (h1 u) (h2 u)⟩, zL_F hL hF⟩
theorem z_liftL (hL : zL n n1 ad ad1 σ) (hK : ∀ U, va_K D cl tys U → va_K D cl tys1 U) (hX : ∀ U, X sz U → X1 sz U) (hf : ∀ k, k < n1 → f (σ k) = f1 k) (h1 : ∀ u k, k < n1 → F u (σ k) = F1 u k) (h2 : ∀ u j, j < n → (∀ k, k < n1 → σ k ≠ j) → F u j = f j) {post post' : Int64 → S → Prop} (hp : ∀ r u, post r u → post' r u) (hM : Met l y wsY rm (va_Pc As (zP D cl tys1 n1 ad1 X1 f1 sz)) (va_Ql post (zB D cl n1 ad1 F1) (gA n1 ad1 sz)) mc ms (gA n1 ad1 sz)) : Met l y wsY rm (va_Pc As (zP D cl tys n ad X f sz)) (va_Ql post' (zB D cl n ad F) (gA n ad sz)) mc ms (gA n ad sz) := by
  refine z_mono (fun a s h => zL_pre hL hf hK hX h) (fun a s o t h hq => ?_) (fun q h => zL_A hL h) hM
  obtain ⟨⟨r, u, e, hr, hB⟩, hF⟩ := hq
  obtain ⟨h0, rfl, hP, -, -⟩ := h
  exact ⟨⟨r, u, e, hp r u hr, zL_P hL hP hF hB (h1 u) (h2 u)⟩, zL_F hL hF⟩
theorem z_liftD (hL : zL n n1 ad ad1 σ) (hK : ∀ U, va_K D cl tys U → va_K D cl tys1 U) (hX : ∀ U, X sz U → X1 sz U) (hf : ∀ k, k < n1 → f (σ k) = f1 k) (h1 : ∀ u k, k < n1 → F u (σ k) = F1 u k) (h2 : ∀ u j, j < n → (∀ k, k < n1 → σ k ≠ j) → F u j = f j) {post post' : UInt64 → S → Prop} (hp : ∀ r u, post r u → post' r u) (hM : Met l y wsY rm (va_Pc As (zP D cl tys1 n1 ad1 X1 f1 sz)) (va_Qd post (zB D cl n1 ad1 F1) (gA n1 ad1 sz)) mc ms (gA n1 ad1 sz)) : Met l y wsY rm (va_Pc As (zP D cl tys n ad X f sz)) (va_Qd post' (zB D cl n ad F) (gA n ad sz)) mc ms (gA n ad sz) := by
  refine z_mono (fun a s h => zL_pre hL hf hK hX h) (fun a s o t h hq => ?_) (fun q h => zL_A hL h) hM
  obtain ⟨⟨r, u, e, hr, hB⟩, hF⟩ := hq
  obtain ⟨h0, rfl, hP, -, -⟩ := h
  exact ⟨⟨r, u, e, hp r u hr, zL_P hL hP hF hB (h1 u) (h2 u)⟩, zL_F hL hF⟩
/-- a throwing one -/
theorem z_liftX (hL : zL n n1 ad ad1 σ) (hK : ∀ U, va_K D cl tys U → va_K D cl tys1 U) (hX : ∀ U, X sz U → X1 sz U) (hf : ∀ k, k < n1 → f (σ k) = f1 k) (h1 : ∀ u k, k < n1 → F u (σ k) = F1 u k) (h2 : ∀ u j, j < n → (∀ k, k < n1 → σ k ≠ j) → F u j = f j) {E0 : String} {px : S → Prop} (hM : vx_Met l y wsY rm (va_Pc As (zP D cl tys1 n1 ad1 X1 f1 sz)) QN (vx_X px (fun E' u' t => E' = E0 ∧ zB D cl n1 ad1 F1 u' t) (gA n1 ad1 sz)) mc ms (gA n1 ad1 sz)) : vx_Met l y wsY rm (va_Pc As (zP D cl tys n ad X f sz)) QN (vx_X px (fun E' u' t => E' = E0 ∧ zB D cl n ad F u' t) (gA n ad sz)) mc ms (gA n ad sz) := by
  refine x_mono (fun a s h => zL_pre hL hf hK hX h) (fun _ _ _ _ _ h => h) (fun E a s t h hq => ?_) (fun q h => zL_A hL h) hM
  obtain ⟨u, hu, ⟨he, hB⟩, hF⟩ := hq
  obtain ⟨h0, rfl, hP, -, -⟩ := h
  exact ⟨u, hu, ⟨he, zL_P hL hP hF hB (h1 u) (h2 u)⟩, zL_F hL hF⟩
end ZL
/-- a new row of ints beside the world -/
theorem z_newa1 {p : Program} {l : Launch} {e : Env} {R : Room} {s : State} {m : MethodId} {args : Array Value} {below : List Frame} {meth : Method} {c : Code} {D : va_G} {cl : List vw_C} {n : Nat} {ad : Nat → Nat} {nL cells slots : Nat} {Q : State → Prop} {f : Nat → va_E} {L : List (Nat × Value)} {pc : Nat} {st : List Value} {cc : ByteArray} (C : zc p c cc) (harr : (Cond.arrayClass .int).before args s = true) {tys : List (ClassId × FieldType)} (hK : va_K D cl tys s) {cI : ClassId} (h0 : tys[0]? = some (cI, .int)) (hI : gI n ad) {len : Nat} (hlen : len ≤ 1000) (hroom : cells + 1 ≤ R.cells ∧ slots + len ≤ R.slots) (hdg : decode cc pc = .ok (.newarray .int, 2))
    (K : ∀ ad2 : Nat → Nat, (∀ k, k < n → ad2 k = ad k) → gI (n + 1) ad2 → s.heap.size ≤ ad2 n → ZZ p l e R s m args below meth c D cl (n + 1) ad2 nL (cells + 1) (slots + len) Q (fun k => if k < n then f k else .inl (cI, len, .inl (fun _ => 0))) L (pc + 2) (.ref (ad2 n) :: st)) : ZZ p l e R s m args below meth c D cl n ad nL cells slots Q f L pc (.int (nI len) :: st) := by
  intro H locs ls hP hS hl
  refine va_newa (atype := .int) (a0 := (len, .inl (fun _ => 0))) C.1 C.2 harr rfl hK hP (gD hI) hS (fun q h => Or.inr h) (fun _ => rfl) (nI_pos (by omega)) (nI_clamp (by omega)) (by show len * 4 ≤ _; omega) hroom.1 hroom.2 hdg (fun q cA H1 hK1 hP1 hD1 hS1 => ?_)
  have hl1 : (gW n ad f).length = n := by simp [gW]
  have hg : (gW n ad f ++ [(q, (Sum.inl (cA, len, Sum.inl (fun _ => (0 : Int32))) : va_E))])[n]? = some (q, .inl (cA, len, .inl (fun _ => 0))) := by
    rw [List.getElem?_append_right (by omega), hl1]
    simp
  have hgk : ∀ k, k < n → (gW n ad f ++ [(q, (Sum.inl (cA, len, Sum.inl (fun _ => (0 : Int32))) : va_E))])[k]? = some (ad k, f k) := fun k hk => by
    rw [List.getElem?_append_left (by omega), gW_get hk]
  have hqn : ∀ k, k < n → ad k ≠ q := fun k hk e => by
    have := hD1.1 k n _ _ (hgk k hk) hg e
    omega
  have hqs : s.heap.size ≤ q := by
    rcases hD1.2 n _ hg with ⟨k, hk, e⟩ | h
    · exact absurd e.symm (hqn k hk)
    · exact h
  have hcA : cA = cI := by
    have a1 := (hK1.2 tys.length (cA, newarray.typeOf ArrayType.int) (by rw [List.getElem?_append_right (Nat.le_refl _)]; simp)).2
    have a2 := (hK.2 0 _ h0).2
    have a1 : s.vm.findClass ("[" ++ FieldType.int.toString) = some cA := a1
    have a2 : s.vm.findClass ("[" ++ FieldType.int.toString) = some cI := a2
    rw [a1] at a2
    exact Option.some.inj a2
  obtain ⟨ad2, e1, e2⟩ : ∃ ad2 : Nat → Nat, (∀ k, k < n → ad2 k = ad k) ∧ ad2 n = q := ⟨fun k => if k = n then q else ad k, fun k hk => if_neg (by omega), if_pos rfl⟩
  have hsub : ∀ x, gA n ad s.heap.size x → gA (n + 1) ad2 s.heap.size x := fun x hx => by
    rcases hx with ⟨k, hk, e⟩ | h
    · exact Or.inl ⟨k, by omega, e.trans (e1 k hk).symm⟩
    · exact Or.inr h
  have hI2 : gI (n + 1) ad2 := fun i j hi hj e => by
    by_cases a : i = n
    · by_cases b : j = n
      · omega
      · rw [a, e2, e1 j (by omega)] at e; exact absurd e.symm (hqn j (by omega))
    · by_cases b : j = n
      · rw [b, e2, e1 i (by omega)] at e; exact absurd e (hqn i (by omega))
      · rw [e1 i (by omega), e1 j (by omega)] at e; exact hI i j (by omega) (by omega) e
  have hz := K ad2 e1 hI2 (by rw [e2]; exact hqs) H1 locs ls (gP_of fun k hk => by
    by_cases a : k = n
    · rw [a, if_neg (Nat.lt_irrefl n), e2, ← hcA]
      exact hP1 n _ hg
    · have hkn : k < n := Nat.lt_of_le_of_ne (Nat.le_of_lt_succ hk) a
      rw [if_pos hkn, e1 k hkn]
      exact hP1 k _ (hgk k hkn)) ⟨hS1.1, fun x h1 h2 => hS1.2.1 x h1 fun z => h2 (hsub x z), fun z hz => hsub _ (hS1.2.2 z hz)⟩ hl
  rw [e2] at hz
  exact hz
/-- a return out of the greater world -/
theorem z_iret1 {p : Program} {l : Launch} {e : Env} {R : Room} {s : State} {m : MethodId} {args : Array Value} {below : List Frame} {meth : Method} {c : Code} {D : va_G} {cl : List vw_C} {n : Nat} {ad ad2 : Nat → Nat} {nL cells slots : Nat} {Q : State → Prop} {f : Nat → va_E} {L : List (Nat × Value)} {pc : Nat} {cc : ByteArray} (C : zc p c cc) {S : Type} {post : Int32 → S → Prop} {F : S → Nat → va_E} (hr : meth.sig.returnType = some .int) (hlocks : meth.locks = false) {v : Int32} (hQ : Q = MQ below (va_Qi post (zB D cl n ad F) (gA n ad s.heap.size)) args s cells slots (gA n ad s.heap.size)) (ha : ∀ k, k < n → ad2 k = ad k) (hq : s.heap.size ≤ ad2 n) (u : S) (hp : post v u) (hF : ∀ k, k < n → F u k = f k) (hdg : decode cc pc = .ok (.ireturn, 1)) : ZZ p l e R s m args below meth c D cl (n + 1) ad2 nL cells slots Q f L pc [.int v] := by
  subst hQ
  intro H locs ls hP hS hl
  have hsub : ∀ x, gA (n + 1) ad2 s.heap.size x → gA n ad s.heap.size x := fun x hx => by
    rcases hx with ⟨k, hk, e⟩ | h
    · by_cases a : k = n
      · rw [a] at e; exact Or.inr (by rw [e]; exact hq)
      · exact Or.inl ⟨k, by omega, e.trans (ha k (by omega))⟩
    · exact Or.inr h
  have hS' : va_S (gA n ad s.heap.size) s.heap H locs := ⟨hS.1, fun x h1 h2 => hS.2.1 x h1 fun z => h2 (hsub x z), fun z hz => hsub _ (hS.2.2 z hz)⟩
  exact W.iret C.1 C.2 hr (fun t ht hW => ⟨⟨v, u, rfl, hp, by
    show va_P D cl (gW n ad (F u)) t.heap
    rw [ht]
    exact gP_of fun k hk => by
      rw [hF k hk, ← ha k hk]
      exact gP_at hP (by omega)⟩, hS'.F ht⟩) hS'.2.2 hdg hlocks
