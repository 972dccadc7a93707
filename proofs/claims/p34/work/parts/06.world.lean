/-! The two worlds: the analyzer's (34 cells: 0..7 the rules, 8..15 their actions, then one each), the model's (12 cells). A state: what stands in cell q at place j, ints and longs apart. -/
abbrev xS : Type := (Nat → Nat → Int32) × (Nat → Nat → Int64)
def xs (u : xS) (q j : Nat) (v : Int32) : xS := (va_up u.1 q (upd (u.1 q) j v), u.2)
def xl (u : xS) (q j : Nat) (v : Int64) : xS := (u.1, va_up u.2 q (vp_updL (u.2 q) j v))
theorem upd_eq (f : Nat → Int32) (k : Nat) (x : Int32) (j : Nat) : upd f k x j = if j = k then x else f j := rfl
theorem xs_at (u : xS) (q j : Nat) (v : Int32) (q' j' : Nat) : (xs u q j v).1 q' j' = if q' = q ∧ j' = j then v else u.1 q' j' := by
  show (va_up u.1 q (upd (u.1 q) j v)) q' j' = _
  unfold va_up
  by_cases h : q' = q
  · subst h
    by_cases h2 : j' = j
    · subst h2; simp [upd]
    · simp [upd, h2]
  · simp [h]
theorem xl_at (u : xS) (q j : Nat) (v : Int64) (q' j' : Nat) : (xl u q j v).2 q' j' = if q' = q ∧ j' = j then v else u.2 q' j' := by
  show (va_up u.2 q (vp_updL (u.2 q) j v)) q' j' = _
  unfold va_up
  by_cases h : q' = q
  · subst h
    by_cases h2 : j' = j
    · subst h2; simp [vp_updL]
    · simp [vp_updL, h2]
  · simp [h]
theorem xs_s (u : xS) (q j : Nat) (v : Int32) : (xs u q j v).1 q j = v := by rw [xs_at]; simp
theorem xs_c {u : xS} {q j : Nat} {v : Int32} {q' : Nat} (h : q' ≠ q) (j' : Nat) : (xs u q j v).1 q' j' = u.1 q' j' := by rw [xs_at]; simp [h]
theorem xs_j {u : xS} {q j : Nat} {v : Int32} {q' j' : Nat} (h : j' ≠ j) : (xs u q j v).1 q' j' = u.1 q' j' := by rw [xs_at]; simp [h]
theorem xs_2 (u : xS) (q j : Nat) (v : Int32) : (xs u q j v).2 = u.2 := rfl
theorem xl_1 (u : xS) (q j : Nat) (v : Int64) : (xl u q j v).1 = u.1 := rfl
theorem xl_s (u : xS) (q j : Nat) (v : Int64) : (xl u q j v).2 q j = v := by rw [xl_at]; simp
theorem xl_c {u : xS} {q j : Nat} {v : Int64} {q' : Nat} (h : q' ≠ q) (j' : Nat) : (xl u q j v).2 q' j' = u.2 q' j' := by rw [xl_at]; simp [h]
theorem xl_j {u : xS} {q j : Nat} {v : Int64} {q' j' : Nat} (h : j' ≠ j) : (xl u q j v).2 q' j' = u.2 q' j' := by rw [xl_at]; simp [h]
theorem xs_r {u : xS} {q j : Nat} {v : Int32} {q' : Nat} (h : q' ≠ q) : (xs u q j v).1 q' = u.1 q' := by show va_up _ _ _ _ = _; simp [va_up, h]
theorem xs_rs (u : xS) (q j : Nat) (v : Int32) : (xs u q j v).1 q = upd (u.1 q) j v := by show va_up _ _ _ _ = _; simp [va_up]
theorem xl_r {u : xS} {q j : Nat} {v : Int64} {q' : Nat} (h : q' ≠ q) : (xl u q j v).2 q' = u.2 q' := by show va_up _ _ _ _ = _; simp [va_up, h]
theorem xl_rs (u : xS) (q j : Nat) (v : Int64) : (xl u q j v).2 q = vp_updL (u.2 q) j v := by show va_up _ _ _ _ = _; simp [va_up]
def rF (ad : Nat → Nat) (i : Nat) (r : Nat → Int32) : List Value := [.int (nI (2 ^ i)), .ref (ad (8 + i)), .int (r 2), .int (r 3), .int (r 4), .int (r 5), .int (r 6), .int (r 7), .int (r 8), .int (r 9), .int (r 10)]
def xK (ad : Nat → Nat) (cI cL cR : ClassId) (k : Nat) (r : Nat → Int32) (rl : Nat → Int64) : va_E := match k with
  | 16 => .inr (5, [.ref (ad 17), .ref (ad 18), .int (r 2)])
  | 17 => .inl (cR, 8, .inr (.inr (.inr (.inr (fun i => some (ad i))))))
  | 18 => .inl (cI, 12, .inl r)
  | 19 => .inr (2, [.ref (ad 16), .ref (ad 20)])
  | 20 => .inl (cI, 8, .inl r)
  | 21 => .inr (1, [.ref (ad 16), .ref (ad 22), .ref (ad 23), .ref (ad 24), .ref (ad 25), .ref (ad 26), .ref (ad 28), .int (r 7), .int (r 8), .int (r 9), .int (r 10), .int (r 11)])
  | 22 => .inl (cI, 1000, .inl r)
  | 23 => .inl (cI, 1000, .inl r)
  | 24 => .inl (cI, 8000, .inl r)
  | 25 => .inl (cI, 16384, .inl r)
  | 26 => .inr (0, [.ref (ad 27), .int (r 1), .int (r 2)])
  | 27 => .inl (cI, 64, .inl r)
  | 28 => .inr (3, [.ref (ad 29), .ref (ad 30), .ref (ad 31), .ref (ad 32), .int (r 4), .int (r 5), .int (r 6), .long (rl 7)])
  | 29 => .inl (cI, 1000, .inl r)
  | 30 => .inl (cI, 1000, .inl r)
  | 31 => .inl (cL, 1000, .inr (.inl rl))
  | 32 => .inl (cI, 1000, .inl r)
  | _ => .inr (6, [.ref (ad 16), .ref (ad 19), .ref (ad 21), .int (r 3)])
def xF (ad : Nat → Nat) (cI cL cR : ClassId) (u : xS) (k : Nat) : va_E := if k < 8 then .inr (4, rF ad k (u.1 k)) else if k < 16 then .inl (cI, 4, .inl (u.1 k)) else xK ad cI cL cR k (u.1 k) (u.2 k)
abbrev xT (cI cL cR : ClassId) : List (ClassId × FieldType) := [(cI, .int), (cL, .long), (cR, .object "TriggerAnalyzer$Rule")]
theorem xF_r {ad : Nat → Nat} {cI cL cR : ClassId} {u : xS} {i : Nat} (h : i < 8) : xF ad cI cL cR u i = .inr (4, rF ad i (u.1 i)) := if_pos h
theorem xF_a {ad : Nat → Nat} {cI cL cR : ClassId} {u : xS} {i : Nat} (h : i < 8) : xF ad cI cL cR u (8 + i) = .inl (cI, 4, .inl (u.1 (8 + i))) := by
  unfold xF
  rw [if_neg (by omega), if_pos (by omega)]
theorem xF_ne {ad : Nat → Nat} {cI cL cR : ClassId} {u : xS} {q j : Nat} {v : Int32} : ∀ k, k < 34 → k ≠ q → xF ad cI cL cR (xs u q j v) k = xF ad cI cL cR u k := by
  intro k _ hk
  unfold xF
  rw [xs_r hk, xs_2]
theorem xF_neL {ad : Nat → Nat} {cI cL cR : ClassId} {u : xS} {q j : Nat} {v : Int64} : ∀ k, k < 34 → k ≠ q → xF ad cI cL cR (xl u q j v) k = xF ad cI cL cR u k := by
  intro k _ hk
  unfold xF
  rw [xl_r hk, xl_1]

theorem xF_p2 {ad : Nat → Nat} {cI cL cR : ClassId} {u : xS} {i : Nat} {v : Int32} (h : i < 8) : xF ad cI cL cR (xs u i 2 v) i = .inr (4, (rF ad i (u.1 i)).set 2 (.int v)) := by rw [xF_r h, xs_rs]; rfl
theorem xF_p3 {ad : Nat → Nat} {cI cL cR : ClassId} {u : xS} {i : Nat} {v : Int32} (h : i < 8) : xF ad cI cL cR (xs u i 3 v) i = .inr (4, (rF ad i (u.1 i)).set 3 (.int v)) := by rw [xF_r h, xs_rs]; rfl
theorem xF_p4 {ad : Nat → Nat} {cI cL cR : ClassId} {u : xS} {i : Nat} {v : Int32} (h : i < 8) : xF ad cI cL cR (xs u i 4 v) i = .inr (4, (rF ad i (u.1 i)).set 4 (.int v)) := by rw [xF_r h, xs_rs]; rfl
theorem xF_p5 {ad : Nat → Nat} {cI cL cR : ClassId} {u : xS} {i : Nat} {v : Int32} (h : i < 8) : xF ad cI cL cR (xs u i 5 v) i = .inr (4, (rF ad i (u.1 i)).set 5 (.int v)) := by rw [xF_r h, xs_rs]; rfl
theorem xF_p6 {ad : Nat → Nat} {cI cL cR : ClassId} {u : xS} {i : Nat} {v : Int32} (h : i < 8) : xF ad cI cL cR (xs u i 6 v) i = .inr (4, (rF ad i (u.1 i)).set 6 (.int v)) := by rw [xF_r h, xs_rs]; rfl
theorem xF_p7 {ad : Nat → Nat} {cI cL cR : ClassId} {u : xS} {i : Nat} {v : Int32} (h : i < 8) : xF ad cI cL cR (xs u i 7 v) i = .inr (4, (rF ad i (u.1 i)).set 7 (.int v)) := by rw [xF_r h, xs_rs]; rfl
theorem xF_p8 {ad : Nat → Nat} {cI cL cR : ClassId} {u : xS} {i : Nat} {v : Int32} (h : i < 8) : xF ad cI cL cR (xs u i 8 v) i = .inr (4, (rF ad i (u.1 i)).set 8 (.int v)) := by rw [xF_r h, xs_rs]; rfl
theorem xF_p9 {ad : Nat → Nat} {cI cL cR : ClassId} {u : xS} {i : Nat} {v : Int32} (h : i < 8) : xF ad cI cL cR (xs u i 9 v) i = .inr (4, (rF ad i (u.1 i)).set 9 (.int v)) := by rw [xF_r h, xs_rs]; rfl
theorem xF_p10 {ad : Nat → Nat} {cI cL cR : ClassId} {u : xS} {i : Nat} {v : Int32} (h : i < 8) : xF ad cI cL cR (xs u i 10 v) i = .inr (4, (rF ad i (u.1 i)).set 10 (.int v)) := by rw [xF_r h, xs_rs]; rfl
theorem xF_pa {ad : Nat → Nat} {cI cL cR : ClassId} {u : xS} {i j : Nat} {v : Int32} (h : i < 8) : xF ad cI cL cR (xs u (8 + i) j v) (8 + i) = .inl (cI, 4, .inl (upd (u.1 (8 + i)) j v)) := by rw [xF_a h, xs_rs]
def xN (U : State) : Prop := va_Nw (.methodLinkNest RX4 31 yX6_triggeredIn RX6) U ∧ va_Nw (.methodLinkNest RX4 38 yX6_factsIn RX6) U ∧ va_Nw (.methodLinkNest RX5 54 yX6_triggeredIn RX6) U ∧ va_Nw (.methodLinkNest RX5 61 yX6_factsIn RX6) U ∧ va_Nw (.methodLinkNest RX5 64 yX6_situationOf RX6) U ∧ va_Nw (.methodLinkNest RX1 90 yX6_triggeredIn RX6) U ∧ va_Nw (.methodLinkNest RX1 93 yX6_factsIn RX6) U
def xE (n : Nat) (ad : Nat → Nat) (sz : Nat) (U : State) : Prop := vx_Zq Bundle.tN "UNASSIGNED_STACK" Bundle.steD (gA n ad sz) U U.heap ∧ vx_Zq Bundle.tN "SUPPRESSED_SENTINEL" Bundle.listD (gA n ad sz) U U.heap
/-! what a throw needs of the tables -/
def tg : Cond → Bool
  | .castable .. => true
  | .declares _ => true
  | w => w.onTables && w.keeps
theorem tg_at {w : Cond} {s U : State} {a' : Array Value} (hg : tg w = true) (hW : s.WarmedH U.vm) (h : w.before #[] s = true) : w.before a' U = true := by
  cases w <;> first | exact va_Nw.use rfl (va_Nw.warmC hW h) | exact va_Nw.use rfl (va_Nw.warmD hW h) | exact word_at hW (Or.inl hg) h
abbrev eIO : String := "java/lang/IndexOutOfBoundsException"
abbrev eIA : String := "java/lang/IllegalArgumentException"
abbrev eIS : String := "java/lang/IllegalStateException"
abbrev nmx : List String := ["java/lang/RuntimeException", "java/lang/Exception"]
def xTo (ik ic : Nat) (E : String) : List Cond := Cond.classLink RX6 ik E :: Cond.initialized E :: vx_atS RX6 ic E nmx
def xTw : List Cond := xTo 179 183 eIO ++ xTo 105 109 eIA ++ xTo 43 47 eIS
theorem xTw_tg : xTw.all tg = true := by decide +kernel
theorem xTw_ot : xTw.all vx_ot = true := by decide +kernel
theorem xTw_a {w : Cond} (h : w ∈ xTo 179 183 eIO) : w ∈ xTw := List.mem_append_left _ (List.mem_append_left _ h)
theorem xTw_b {w : Cond} (h : w ∈ xTo 105 109 eIA) : w ∈ xTw := List.mem_append_left _ (List.mem_append_right _ h)
theorem xTw_c {w : Cond} (h : w ∈ xTo 43 47 eIS) : w ∈ xTw := List.mem_append_right _ h
def xTs : List (Nat × String) := [(45, "there are 8 rules"), (68, "the rule has 4 actions"), (107, "no rule can be above itself"), (137, "most is not 0 to 500"), (233, "no such rule"), (238, "no such situation"), (243, "nothing is explored, or too many situations"), (245, "no such fact"), (247, "not a set of facts")]
def xTh (U : State) : Prop := (∀ w ∈ xTw, w.before #[] U = true) ∧ ∀ k ∈ xTs, ∃ sa, vk_R RX6 k.1 k.2 sa U
theorem xTh_go {s U : State} (h : xTh s) (hW : s.WarmedH U.vm) : xTh U :=
  ⟨fun w hw => tg_at (List.all_eq_true.mp xTw_tg w hw) hW (h.1 w hw), fun k hk => (h.2 k hk).elim fun sa h1 => ⟨sa, vk_R.warm hW h1⟩⟩
def xX (n : Nat) (ad : Nat → Nat) (sz : Nat) (U : State) : Prop := xN U ∧ xE n ad sz U ∧ xTh U
theorem xE_go {n : Nat} {ad : Nat → Nat} {s U : State} {locs : List Loc} (h : xE n ad s.heap.size s) (hS : va_S (gA n ad s.heap.size) s.heap U.heap locs) (hW : s.WarmedH U.vm) : xE n ad U.heap.size U :=
  ⟨((h.1.kept hS.2.1).narrow (fun q hq => gA_sub hS.1 hq)).moved hW.alike, ((h.2.kept hS.2.1).narrow (fun q hq => gA_sub hS.1 hq)).moved hW.alike⟩
theorem xX_ok {n : Nat} {ad : Nat → Nat} : zXk n ad (xX n ad) := by
  refine ⟨fun s U locs h hS hW => ⟨?_, xE_go h.2.1 hS hW, xTh_go h.2.2 hW⟩, fun sz U g mk a h => ⟨?_, ?_, ?_⟩⟩
  · obtain ⟨⟨h1, h2, h3, h4, h5, h6, h7⟩, -⟩ := h
    exact ⟨h1.warmM hW, h2.warmM hW, h3.warmM hW, h4.warmM hW, h5.warmM hW, h6.warmM hW, h7.warmM hW⟩
  · obtain ⟨⟨h1, h2, h3, h4, h5, h6, h7⟩, -⟩ := h
    exact ⟨h1.same rfl rfl, h2.same rfl rfl, h3.same rfl rfl, h4.same rfl rfl, h5.same rfl rfl, h6.same rfl rfl, h7.same rfl rfl⟩
  · exact ⟨h.2.1.1.moved (u := U) (U := U.calling g mk a) (Vm.Alike.refl U.vm), h.2.1.2.moved (u := U) (U := U.calling g mk a) (Vm.Alike.refl U.vm)⟩
  · exact xTh_go (U := U.calling g mk a) h.2.2 (State.WarmedH.refl U)
def mF (ad : Nat → Nat) (cI cL cB : ClassId) (u : xS) (k : Nat) : va_E := match k with
  | 0 => .inr (7, [.int (u.1 0 0), .int (u.1 0 1), .ref (ad 1), .ref (ad 2), .ref (ad 3), .ref (ad 4), .ref (ad 5), .ref (ad 6), .ref (ad 7), .int (u.1 0 9), .int (u.1 0 10), .int (u.1 0 11), .int (u.1 0 12), .int (u.1 0 13), .ref (ad 8), .ref (ad 9), .ref (ad 10), .ref (ad 11)])
  | 1 => .inl (cI, 8, .inl (u.1 1))
  | 2 => .inl (cI, 8, .inl (u.1 2))
  | 3 => .inl (cI, 8, .inl (u.1 3))
  | 4 => .inl (cI, 8, .inl (u.1 4))
  | 5 => .inl (cI, 32, .inl (u.1 5))
  | 6 => .inl (cB, 8, .inl (u.1 6))
  | 7 => .inl (cI, 8, .inl (u.1 7))
  | 8 => .inl (cI, 1000, .inl (u.1 8))
  | 9 => .inl (cI, 8000, .inl (u.1 9))
  | 10 => .inl (cI, 1000, .inl (u.1 10))
  | _ => .inl (cL, 1000, .inr (.inl (u.2 11)))
abbrev mT (cI cL cB : ClassId) : List (ClassId × FieldType) := [(cI, .int), (cL, .long), (cB, .boolean)]
theorem mF_ne {ad : Nat → Nat} {cI cL cB : ClassId} {u : xS} {q j : Nat} {v : Int32} : ∀ k, k < 12 → k ≠ q → mF ad cI cL cB (xs u q j v) k = mF ad cI cL cB u k := by
  intro k h1 hk
  have e : ∀ i, k = i → (xs u q j v).1 i = u.1 i := fun i h => xs_r (by omega)
  match k, h1, e with
  | 0, _, e => unfold mF; rw [e 0 rfl]; rfl
  | 1, _, e => unfold mF; rw [e 1 rfl]; rfl
  | 2, _, e => unfold mF; rw [e 2 rfl]; rfl
  | 3, _, e => unfold mF; rw [e 3 rfl]; rfl
  | 4, _, e => unfold mF; rw [e 4 rfl]; rfl
  | 5, _, e => unfold mF; rw [e 5 rfl]; rfl
  | 6, _, e => unfold mF; rw [e 6 rfl]; rfl
  | 7, _, e => unfold mF; rw [e 7 rfl]; rfl
  | 8, _, e => unfold mF; rw [e 8 rfl]; rfl
  | 9, _, e => unfold mF; rw [e 9 rfl]; rfl
  | 10, _, e => unfold mF; rw [e 10 rfl]; rfl
  | 11, _, _ => rfl
theorem mF_neL {ad : Nat → Nat} {cI cL cB : ClassId} {u : xS} {j : Nat} {v : Int64} : ∀ k, k < 12 → k ≠ 11 → mF ad cI cL cB (xl u 11 j v) k = mF ad cI cL cB u k := by
  intro k h1 hk
  match k, h1, hk with
  | 0, _, _ => rfl
  | 1, _, _ => rfl
  | 2, _, _ => rfl
  | 3, _, _ => rfl
  | 4, _, _ => rfl
  | 5, _, _ => rfl
  | 6, _, _ => rfl
  | 7, _, _ => rfl
  | 8, _, _ => rfl
  | 9, _, _ => rfl
  | 10, _, _ => rfl
  | 11, _, h => exact absurd rfl h
def mX (_ : Nat) (_ : State) : Prop := True
theorem mX_ok {n : Nat} {ad : Nat → Nat} : zXk n ad mX := ⟨fun _ _ _ _ _ _ => trivial, fun _ _ _ _ _ _ => trivial⟩
abbrev XP (D : va_G) (ad : Nat → Nat) (cI cL cR : ClassId) (u : xS) (av : List Value) (sz : Nat) : Array Value → State → Prop := va_Pc av (zP D vwCl (xT cI cL cR) 34 ad (xX 34 ad) (xF ad cI cL cR u) sz)
abbrev XB (D : va_G) (ad : Nat → Nat) (cI cL cR : ClassId) : xS → State → Prop := zB D vwCl 34 ad (xF ad cI cL cR)
abbrev MP (D : va_G) (ad : Nat → Nat) (cI cL cB : ClassId) (u : xS) (av : List Value) (sz : Nat) : Array Value → State → Prop := va_Pc av (zP D vwCl (mT cI cL cB) 12 ad mX (mF ad cI cL cB u) sz)
abbrev MB (D : va_G) (ad : Nat → Nat) (cI cL cB : ClassId) : xS → State → Prop := zB D vwCl 12 ad (mF ad cI cL cB)

