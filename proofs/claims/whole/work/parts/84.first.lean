theorem w_l {α : Type} {w1 w2 : List α} {k : Nat} {q : α} (h : w1[k]? = some q) : (w1 ++ w2)[k]? = some q := by
  rw [List.getElem?_append_left (List.getElem?_eq_some_iff.mp h).1]
  exact h
theorem w_r {α : Type} {w1 w2 : List α} {n k i : Nat} {q : α} (hl : w1.length = n) (h : w2[k]? = some q) (hi : i = n + k) : (w1 ++ w2)[i]? = some q := by
  subst hl
  rw [hi, List.getElem?_append_right (Nat.le_add_right _ _), Nat.add_sub_cancel_left]
  exact h
theorem gW_len {n : Nat} {ad : Nat → Nat} {f : Nat → va_E} : (gW n ad f).length = n := by simp [gW]
theorem w_rng {α : Type} {w1 w2 : List α} {n : Nat} (hl : w1.length = n) : (List.range n).map (fun i => (w1 ++ w2)[i]?) = w1.map some := by
  subst hl
  refine List.ext_getElem? (fun i => ?_)
  rcases Nat.lt_or_ge i w1.length with h | h
  · simp [h, List.getElem?_append_left h]
  · simp [h, Nat.not_lt.mpr h]
theorem gD_of {A : Nat → Prop} {n : Nat} {ad : Nat → Nat} {f : Nat → va_E} (hI : gI n ad) (hA : ∀ k, k < n → A (ad k)) : va_D A (gW n ad f) := by
  refine ⟨fun i j p q hi hj e => ?_, fun k q hk => ?_⟩
  · obtain ⟨h1, rfl⟩ := gW_inv hi
    obtain ⟨h2, rfl⟩ := gW_inv hj
    exact hI i j h1 h2 e
  · obtain ⟨h1, rfl⟩ := gW_inv hk
    exact hA k h1
/-! the law's 48 cells -/
def ad48 (a b : Nat → Nat) (qO qD k : Nat) : Nat := if k < 34 then a k else if k = 34 then qO else if k = 35 then qD else b (k - 36)
def E48 (f g : Nat → va_E) (eO eD : va_E) (k : Nat) : va_E := if k < 34 then f k else if k = 34 then eO else if k = 35 then eD else g (k - 36)
def p48 (k : Nat) : Nat := if k < 34 then k else if k = 34 then 46 else if k = 35 then 47 else k - 2
theorem r48 {k : Nat} (h : k < 48) : k < 34 ∨ k = 34 ∨ k = 35 ∨ ∃ j, j < 12 ∧ k = 36 + j := by
  rcases Nat.lt_or_ge k 36 with q | q
  · omega
  · exact Or.inr (Or.inr (Or.inr ⟨k - 36, by omega, by omega⟩))
theorem p48_inj {i j : Nat} (hi : i < 48) (hj : j < 48) (h : p48 i = p48 j) : i = j := by
  unfold p48 at h
  split at h <;> split at h <;> (try split at h) <;> (try split at h) <;> (try split at h) <;> (try split at h) <;> omega
theorem ad48_x {a b : Nat → Nat} {qO qD k : Nat} (h : k < 34) : ad48 a b qO qD k = a k := if_pos h
theorem ad48_m {a b : Nat → Nat} {qO qD j : Nat} : ad48 a b qO qD (36 + j) = b j := by
  unfold ad48
  rw [if_neg (by omega), if_neg (by omega), if_neg (by omega), Nat.add_sub_cancel_left]
abbrev W48 (a b : Nat → Nat) (f g : Nat → va_E) (qO qD : Nat) (eO eD : va_E) : va_W := ((gW 34 a f ++ gW 12 b g) ++ [(qO, eO)]) ++ [(qD, eD)]
theorem w48 {a b : Nat → Nat} {f g : Nat → va_E} {qO qD : Nat} {eO eD : va_E} {k : Nat} (h : k < 48) : (W48 a b f g qO qD eO eD)[p48 k]? = some (ad48 a b qO qD k, E48 f g eO eD k) := by
  have l46 : (gW 34 a f ++ gW 12 b g).length = 46 := by rw [List.length_append, gW_len, gW_len]
  rcases r48 h with h | rfl | rfl | ⟨j, hj, rfl⟩
  · have e1 : p48 k = k := if_pos h
    have e3 : E48 f g eO eD k = f k := if_pos h
    rw [e1, ad48_x h, e3]
    exact w_l (w_l (w_l (gW_get h)))
  · exact w_l (w_r (n := 46) (k := 0) l46 rfl rfl)
  · exact w_r (n := 47) (k := 0) (by rw [List.length_append, l46]; rfl) rfl rfl
  · have e1 : p48 (36 + j) = 34 + j := by
      unfold p48
      rw [if_neg (by omega), if_neg (by omega), if_neg (by omega)]
      omega
    have e3 : E48 f g eO eD (36 + j) = g j := by
      unfold E48
      rw [if_neg (by omega), if_neg (by omega), if_neg (by omega), Nat.add_sub_cancel_left]
    rw [e1, ad48_m, e3]
    exact w_l (w_l (w_r (n := 34) gW_len (gW_get hj) rfl))
theorem ra_l {U : State} {c c' : ClassId} (h : va_RA U c .long) (h' : va_RA U c' .long) : c = c' := Option.some.inj (h.symm.trans h')
theorem x_fin {D : va_G} {s : State} {H : Heap} {A : Nat → Prop} {a b : Nat → Nat} {qO qD : Nat} {cI cL cR cI7 cL7 cB cO cD : ClassId} (hP : va_P D vwCl (W48 a b (xF a cI cL cR u00) (mF b cI7 cL7 cB m00) qO qD (.inl (cO, 1, .inr (.inl (fun _ => 0)))) (.inl (cD, 1, .inr (.inr (.inr (.inl (fun _ => 0))))))) H) (hD : va_D A (W48 a b (xF a cI cL cR u00) (mF b cI7 cL7 cB m00) qO qD (.inl (cO, 1, .inr (.inl (fun _ => 0)))) (.inl (cD, 1, .inr (.inr (.inr (.inl (fun _ => 0)))))))) (hK : va_K D vwCl (((xT cI cL cR ++ mT cI7 cL7 cB) ++ [(cO, .long)]) ++ [(cD, .double)]) s) : gI 48 (ad48 a b qO qD) ∧ (∀ k, k < 48 → A (ad48 a b qO qD k)) ∧ va_K D vwCl (lT cI cL cR cB cD) s ∧ va_P D vwCl (gW 48 (ad48 a b qO qD) (LF (ad48 a b qO qD) cI cL cR cB cD ((u00, (fun _ => 0), (fun _ => 0)), m00))) H := by
  have eI : cI7 = cI := ra_i (hK.2 3 _ rfl).2 (hK.2 0 _ rfl).2
  have eL : cL7 = cL := ra_l (hK.2 4 _ rfl).2 (hK.2 1 _ rfl).2
  have eO : cO = cL := ra_l (hK.2 6 _ rfl).2 (hK.2 1 _ rfl).2
  rw [eI, eL, eO] at hP hD hK
  refine ⟨fun i j hi hj e => p48_inj hi hj (hD.1 _ _ _ _ (w48 hi) (w48 hj) e), fun k hk => hD.2 _ _ (w48 hk), hK.sub [0, 1, 2, 5, 7] rfl, gP_of fun k hk => ?_⟩
  have hat := hP _ _ (w48 hk)
  rcases r48 hk with h | rfl | rfl | ⟨j, hj, rfl⟩
  · have e1 : LF (ad48 a b qO qD) cI cL cR cB cD ((u00, (fun _ => 0), (fun _ => 0)), m00) k = xF (ad48 a b qO qD) cI cL cR u00 k := LF_x k h
    rw [e1]
    refine xF_mv (ad := a) (fun k hk => ad48_x hk) h ?_
    have e3 : E48 (xF a cI cL cR u00) (mF b cI cL cB m00) (.inl (cL, 1, .inr (.inl (fun _ => 0)))) (.inl (cD, 1, .inr (.inr (.inr (.inl (fun _ => 0)))))) k = xF a cI cL cR u00 k := if_pos h
    rw [e3, ad48_x h] at hat
    exact hat
  · exact hat
  · exact hat
  · have e1 : LF (ad48 a b qO qD) cI cL cR cB cD ((u00, (fun _ => 0), (fun _ => 0)), m00) (36 + j) = mF (am (ad48 a b qO qD)) cI cL cB m00 j := LF_m j hj
    have e3 : E48 (xF a cI cL cR u00) (mF b cI cL cB m00) (.inl (cL, 1, .inr (.inl (fun _ => 0)))) (.inl (cD, 1, .inr (.inr (.inr (.inl (fun _ => 0)))))) (36 + j) = mF b cI cL cB m00 j := by
      unfold E48
      rw [if_neg (by omega), if_neg (by omega), if_neg (by omega), Nat.add_sub_cancel_left]
    rw [e1, mF_ad (ad := b) (ad2 := am (ad48 a b qO qD)) (fun k _ => ad48_m)]
    rw [e3] at hat
    exact hat
/-! what the tables and the start say -/
theorem xTw_in : ∀ w ∈ xTw, w ∈ lw_tbl := by decide +kernel
theorem xTs_in : ∀ k ∈ xTs, Cond.stringRef RX6 k.1 k.2 ∈ lw_tbl := by decide +kernel
theorem lX_start {s : State} {b : Nat} {ad : Nat → Nat} (hts : ∀ w ∈ lw_tbl, w.before #[Value.ref b] s = true) (hgv : (Jvm.Cond.and given_1 narrow_1).before #[Value.ref b] s = true) {c6 : ClassId} (hc6 : s.vm.findClass RX6 = some c6) (hA : ∀ q : Nat, q < s.heap.size → ¬ gA 48 ad s.heap.size q) : lX 48 ad s.heap.size s := by
  have hg := flat_of_before _ hgv
  refine ⟨⟨⟨?_, ?_, ?_, ?_, ?_, ?_, ?_⟩, ⟨?_, ?_⟩, ⟨?_, ?_⟩⟩, ⟨?_, ?_, ?_⟩, ?_, ?_, ?_, ?_, ?_, ?_⟩
  · exact va_Nw.of rfl (hts (.methodLinkNest RX4 31 yX6_triggeredIn RX6) (by decide +kernel))
  · exact va_Nw.of rfl (hts (.methodLinkNest RX4 38 yX6_factsIn RX6) (by decide +kernel))
  · exact va_Nw.of rfl (hts (.methodLinkNest RX5 54 yX6_triggeredIn RX6) (by decide +kernel))
  · exact va_Nw.of rfl (hts (.methodLinkNest RX5 61 yX6_factsIn RX6) (by decide +kernel))
  · exact va_Nw.of rfl (hts (.methodLinkNest RX5 64 yX6_situationOf RX6) (by decide +kernel))
  · exact va_Nw.of rfl (hts (.methodLinkNest RX1 90 yX6_triggeredIn RX6) (by decide +kernel))
  · exact va_Nw.of rfl (hts (.methodLinkNest RX1 93 yX6_factsIn RX6) (by decide +kernel))
  · exact vx_Zqof (hts (.laysStatic Bundle.tN "UNASSIGNED_STACK" Bundle.steD) (by decide +kernel)) (hts (.initialized Bundle.tN) (by decide +kernel)) (hg (.isRef (.static Bundle.tN "UNASSIGNED_STACK" Bundle.steD)) (by decide +kernel)) hA
  · exact vx_Zqof (hts (.laysStatic Bundle.tN "SUPPRESSED_SENTINEL" Bundle.listD) (by decide +kernel)) (hts (.initialized Bundle.tN) (by decide +kernel)) (hg (.isRef (.static Bundle.tN "SUPPRESSED_SENTINEL" Bundle.listD)) (by decide +kernel)) hA
  · exact fun w hw => vx_ot_at (State.WarmedH.refl s) rfl (List.all_eq_true.mp xTw_ot w hw) (hts w (xTw_in w hw))
  · intro k hk
    have h0 : (Cond.stringRef RX6 k.1 k.2).before #[] s = true := by
      have h := hts _ (xTs_in k hk)
      first
        | exact h
        | (simp only [Cond.before, Cond.holds, Cond.value] at h ⊢; exact h)
    obtain ⟨_, _, _, sa, _, _, _, _, _, he⟩ := Cond.stringRef_spec (first := s) (o := none) (idx := []) hc6 h0
    exact ⟨sa, vk_R.of h0 he⟩
  · exact va_Nw.of rfl (hts (.castable eIO eIO) (by decide +kernel))
  · exact va_Nw.of rfl (hts (.castable eIA eIA) (by decide +kernel))
  · exact va_Nw.of rfl (hts (.castable eIS eIS) (by decide +kernel))
  · exact va_Nc.of (hg (.not (.castable eIO eIA)) (by decide +kernel))
  · exact va_Nc.of (hg (.not (.castable eIO eIS)) (by decide +kernel))
  · exact va_Nc.of (hg (.not (.castable eIA eIO)) (by decide +kernel))
  · exact va_Nc.of (hg (.not (.castable eIA eIS)) (by decide +kernel))
  · exact va_Nc.of (hg (.not (.castable eIS eIO)) (by decide +kernel))
  · exact va_Nc.of (hg (.not (.castable eIS eIA)) (by decide +kernel))
