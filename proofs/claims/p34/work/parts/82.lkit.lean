theorem xK_mv {ad ad2 : Nat → Nat} (h : ∀ k, k < 34 → ad2 k = ad k) {cI cL cR : ClassId} {r : Nat → Int32} {rl : Nat → Int64} : ∀ k, 16 ≤ k → k < 34 → k ≠ 17 → xK ad2 cI cL cR k r rl = xK ad cI cL cR k r rl
  | 0, h1, _, _ => absurd h1 (by decide)
  | 1, h1, _, _ => absurd h1 (by decide)
  | 2, h1, _, _ => absurd h1 (by decide)
  | 3, h1, _, _ => absurd h1 (by decide)
  | 4, h1, _, _ => absurd h1 (by decide)
  | 5, h1, _, _ => absurd h1 (by decide)
  | 6, h1, _, _ => absurd h1 (by decide)
  | 7, h1, _, _ => absurd h1 (by decide)
  | 8, h1, _, _ => absurd h1 (by decide)
  | 9, h1, _, _ => absurd h1 (by decide)
  | 10, h1, _, _ => absurd h1 (by decide)
  | 11, h1, _, _ => absurd h1 (by decide)
  | 12, h1, _, _ => absurd h1 (by decide)
  | 13, h1, _, _ => absurd h1 (by decide)
  | 14, h1, _, _ => absurd h1 (by decide)
  | 15, h1, _, _ => absurd h1 (by decide)
  | 16, _, _, _ => by simp only [xK, h 17 (by decide), h 18 (by decide)]
  | 17, _, _, h3 => absurd rfl h3
  | 18, _, _, _ => rfl
  | 19, _, _, _ => by simp only [xK, h 16 (by decide), h 20 (by decide)]
  | 20, _, _, _ => rfl
  | 21, _, _, _ => by simp only [xK, h 16 (by decide), h 22 (by decide), h 23 (by decide), h 24 (by decide), h 25 (by decide), h 26 (by decide), h 28 (by decide)]
  | 22, _, _, _ => rfl
  | 23, _, _, _ => rfl
  | 24, _, _, _ => rfl
  | 25, _, _, _ => rfl
  | 26, _, _, _ => by simp only [xK, h 27 (by decide)]
  | 27, _, _, _ => rfl
  | 28, _, _, _ => by simp only [xK, h 29 (by decide), h 30 (by decide), h 31 (by decide), h 32 (by decide)]
  | 29, _, _, _ => rfl
  | 30, _, _, _ => rfl
  | 31, _, _, _ => rfl
  | 32, _, _, _ => rfl
  | 33, _, _, _ => by simp only [xK, h 16 (by decide), h 19 (by decide), h 21 (by decide)]
  | k + 34, _, h2, _ => absurd h2 (by omega)
theorem xF_mv {D : va_G} {ad ad2 : Nat → Nat} (h : ∀ k, k < 34 → ad2 k = ad k) {cI cL cR : ClassId} {u : xS} {H : Heap} {k : Nat} (hk : k < 34) (hP : va_at D vwCl (ad k, xF ad cI cL cR u k) H) : va_at D vwCl (ad2 k, xF ad2 cI cL cR u k) H := by
  by_cases z : k = 17
  · subst z
    rw [h 17 (by decide)]
    refine Eq.trans (show H[ad 17]? = _ from hP) (congrArg some (congrArg (fun z => ({ cls := cR, slots := z, vm := .none } : Cell)) (congrArg (fun g => Array.ofFn (n := 8) g) (funext fun (i : Fin 8) => ?_))))
    show va_rf (some (ad i.val)) = va_rf (some (ad2 i.val))
    rw [h i.val (by have := i.isLt; omega)]
  · have e : xF ad2 cI cL cR u k = xF ad cI cL cR u k := by
      unfold xF
      by_cases z1 : k < 8
      · rw [if_pos z1, if_pos z1]
        unfold rF
        rw [h (8 + k) (by omega)]
      · rw [if_neg z1, if_neg z1]
        by_cases z2 : k < 16
        · rw [if_pos z2, if_pos z2]
        · rw [if_neg z2, if_neg z2]
          exact xK_mv h k (by omega) hk z
    rw [h k hk, e]
    exact hP


/-! what stands all through the law -/
theorem xTw_in : ∀ w ∈ xTw, w ∈ lw_tbl := by decide +kernel
theorem xTs_in : ∀ k ∈ xTs, Cond.stringRef RX6 k.1 k.2 ∈ lw_tbl := by decide +kernel

theorem pX_start {s : State} {b n L : Nat} {sc : Nat → Int32} {ad : Nat → Nat} (hts : ∀ w ∈ lw_tbl, w.before #[Value.ref b] s = true) (hgv : (Jvm.Cond.and given_1 narrow_1).before #[Value.ref b] s = true) {c6 : ClassId} (hc6 : s.vm.findClass RX6 = some c6) (hXs : va_X b L sc s s.heap) (hbl : b < s.heap.size) (hL : L ≤ 260) (hA : ∀ q : Nat, q < s.heap.size → ¬ gA n ad s.heap.size q) : pX n ad b L sc s.heap.size s := by
  have hg := flat_of_before _ hgv
  refine ⟨⟨⟨?_, ?_, ?_, ?_, ?_, ?_, ?_⟩, ⟨?_, ?_⟩, ⟨?_, ?_⟩⟩, ?_, hXs, hbl, hA b hbl, hL⟩
  · exact va_Nw.of rfl (hts (.methodLinkNest RX4 31 yX6_triggeredIn RX6) (by decide +kernel))
  · exact va_Nw.of rfl (hts (.methodLinkNest RX4 38 yX6_factsIn RX6) (by decide +kernel))
  · exact va_Nw.of rfl (hts (.methodLinkNest RX5 54 yX6_triggeredIn RX6) (by decide +kernel))
  · exact va_Nw.of rfl (hts (.methodLinkNest RX5 61 yX6_factsIn RX6) (by decide +kernel))
  · exact va_Nw.of rfl (hts (.methodLinkNest RX5 64 yX6_situationOf RX6) (by decide +kernel))
  · exact va_Nw.of rfl (hts (.methodLinkNest RX1 90 yX6_triggeredIn RX6) (by decide +kernel))
  · exact va_Nw.of rfl (hts (.methodLinkNest RX1 93 yX6_factsIn RX6) (by decide +kernel))
  · exact vx_Zqof (hts (.laysStatic Bundle.tN "UNASSIGNED_STACK" Bundle.steD) (by decide +kernel)) (hts (.initialized Bundle.tN) (by decide +kernel)) (hg (.isRef (.static Bundle.tN "UNASSIGNED_STACK" Bundle.steD)) (by decide +kernel)) hA
  · exact vx_Zqof (hts (.laysStatic Bundle.tN "SUPPRESSED_SENTINEL" Bundle.listD) (by decide +kernel)) (hts (.initialized Bundle.tN) (by decide +kernel)) (hg (.isRef (.static Bundle.tN "SUPPRESSED_SENTINEL" Bundle.listD)) (by decide +kernel)) hA
  · exact fun w hw => vx_ot_at (State.WarmedH.refl s) rfl (List.all_eq_true.mp xTw_ot w hw) (hts w (xTw_in w hw))
  · intro k hk
    have h0 : (Cond.stringRef RX6 k.1 k.2).before #[] s = true := by
      have h := hts _ (xTs_in k hk)
      first
        | exact h
        | (simp only [Cond.before, Cond.holds, Cond.value] at h ⊢; exact h)
    obtain ⟨_, _, _, sa, _, _, _, _, _, he⟩ := Cond.stringRef_spec (first := s) (o := none) (idx := []) hc6 h0
    exact ⟨sa, vk_R.of h0 he⟩
  · exact va_Nw.of rfl (hts (.castable eIA eIA) (by decide +kernel))
def LQ9 (p : Program) (l : Launch) (s : State) (m : MethodId) (meth : Method) (c : Code) (D : va_G) (n : Nat) (ad : Nat → Nat) (cI cL cR : ClassId) (b Ln : Nat) (sc : Nat → Int32) : Prop :=
  lw_At p s m meth c b Ln sc ∧ (∀ k, k < n → s.heap.size ≤ ad k) ∧ zc p c cL_law ∧ c.maxLocals = 16 ∧ s.vm.findClass RL = some m.cls ∧ (∀ w ∈ wsL_law, w.before #[Value.ref b] s = true) ∧ va_K D vwCl (xT cI cL cR) s ∧ pX n ad b Ln sc s.heap.size s ∧ gI n ad ∧ l.stackTraces = false
theorem LQ_mk {p : Program} {l : Launch} {s : State} {m : MethodId} {meth : Method} {c : Code} {D : va_G} {n : Nat} {ad : Nat → Nat} {cI cL cR : ClassId} {b Ln : Nat} {sc : Nat → Int32} (C0 : lw_At p s m meth c b Ln sc) (hL : Ln ≤ 260) (hst : l.stackTraces = false) (hK : va_K D vwCl (xT cI cL cR) s) (hI : gI n ad) (hA : ∀ k, k < n → s.heap.size ≤ ad k) : LQ9 p l s m meth c D n ad cI cL cR b Ln sc := by
  obtain ⟨hx, hb, hr, hml, hown, htsT, hX, hbl, hlocks, hgv⟩ := id C0
  have hnA : ∀ q : Nat, q < s.heap.size → ¬ gA n ad s.heap.size q := fun q hq h => by
    rcases h with ⟨k, hk, ek⟩ | h
    · have h9 : s.heap.size ≤ ad k := hA k hk
      omega
    · omega
  have hKn6 := hK.1 6 _ rfl
  exact ⟨C0, hA, ⟨hx, hb⟩, hml, hown, fun w hw => htsT w (wsL_law_in w hw), hK, pX_start htsT hgv hKn6.2.1 hX hbl hL hnA, hI, hst⟩
/-- one cell more -/
theorem LQ_s {p : Program} {l : Launch} {s : State} {m : MethodId} {meth : Method} {c : Code} {D : va_G} {n : Nat} {ad ad2 : Nat → Nat} {cI cL cR : ClassId} {b Ln : Nat} {sc : Nat → Int32} (h : LQ9 p l s m meth c D n ad cI cL cR b Ln sc) (h1 : ∀ k, k < n → ad2 k = ad k) (h2 : gI (n + 1) ad2) (h3 : s.heap.size ≤ ad2 n) : LQ9 p l s m meth c D (n + 1) ad2 cI cL cR b Ln sc := by
  obtain ⟨C0, hA, -, -, -, -, hK, hX, -, hst⟩ := h
  refine LQ_mk C0 hX.2.2.2.2.2 hst hK h2 (fun k hk => ?_)
  by_cases z : k = n
  · rw [z]; exact h3
  · rw [h1 k (by omega)]; exact hA k (by omega)
/-- the law's own end -/
theorem law_ret {p : Program} {l : Launch} {e : Env} {s : State} {m : MethodId} {below : List Frame} {meth : Method} {c : Code} {b L : Nat} {sc : Nat → Int32} (C0 : lw_At p s m meth c b L sc) {D : va_G} {cl : List vw_C} {n : Nat} {ad : Nat → Nat} (hA : ∀ k, k < n → s.heap.size ≤ ad k) {f : Nat → va_E} {LL : List (Nat × Value)} {pc : Nat} (hdg : decode cL_law pc = .ok (.ireturn, 1)) : ZZ p l e room_1 s m #[Value.ref b] below meth c D cl n ad 16 600104 7301314 (lw_Z below #[Value.ref b] s) f LL pc [.int (nI 1)] := by
  obtain ⟨hx, hb, hr, hml, hown, htsT, hX, hbl, hlocks, hgv⟩ := id C0
  intro H locs ls hP hS hl
  refine va_forget (fun q hq => ?_) ?_
  · rcases hS.2.2 q hq with ⟨k, hk, ek⟩ | h
    · rw [ek]; exact hA k hk
    · exact h
  · exact lw_ret hx hb hr hlocks hdg
/-- a row of zeros -/
def zA (A : xS) (n : Nat) : xS := (fun q => if q = n then fun _ => 0 else A.1 q, A.2)
theorem zA_n (A : xS) (n j : Nat) : (zA A n).1 n j = 0 := by unfold zA; dsimp only; rw [if_pos rfl]
theorem zA_o {A : xS} {n q : Nat} (h : q ≠ n) : (zA A n).1 q = A.1 q := if_neg h
theorem z_newaP {p : Program} {l : Launch} {e : Env} {R : Room} {s : State} {m : MethodId} {args : Array Value} {below : List Frame} {meth : Method} {c : Code} {D : va_G} {n : Nat} {ad : Nat → Nat} {nL cells slots : Nat} {Q : State → Prop} {L : List (Nat × Value)} {pc : Nat} {st : List Value} {cc : ByteArray} {cI cL cR : ClassId} {c9 : Nat} {u A : xS} (C : zc p c cc) (harr : (Cond.arrayClass .int).before args s = true) (hK : va_K D vwCl (xT cI cL cR) s) (hI : gI n ad) (hn : 34 ≤ n) {len : Nat} (hlen : len ≤ 1000) (hcl : (if n = 34 then 72 else if n = 35 then 8 else c9) = len) (hroom : cells + 1 ≤ R.cells ∧ slots + len ≤ R.slots) (hdg : decode cc pc = .ok (.newarray .int, 2))
    (K : ∀ ad2 : Nat → Nat, (∀ k, k < n → ad2 k = ad k) → gI (n + 1) ad2 → s.heap.size ≤ ad2 n → ZZ p l e R s m args below meth c D vwCl (n + 1) ad2 nL (cells + 1) (slots + len) Q (PF ad2 cI cL cR c9 (u, zA A n)) L (pc + 2) (.ref (ad2 n) :: st)) : ZZ p l e R s m args below meth c D vwCl n ad nL cells slots Q (PF ad cI cL cR c9 (u, A)) L pc (.int (nI len) :: st) := by
  refine z_newa1 C harr hK (cI := cI) rfl hI hlen hroom hdg (fun ad2 h1 h2 h3 => ?_)
  intro H locs ls hP hS hl
  refine K ad2 h1 h2 h3 H locs ls (gP_of fun k hk => ?_) hS hl
  have hat := gP_at hP hk
  by_cases z : k < 34
  · have e1 : PF ad2 cI cL cR c9 (u, zA A n) k = xF ad2 cI cL cR u k := if_pos z
    rw [e1]
    refine xF_mv (ad := ad) (fun j hj => h1 j (by omega)) z ?_
    have e2 : PF ad cI cL cR c9 (u, A) k = xF ad cI cL cR u k := if_pos z
    rw [if_pos (show k < n by omega), h1 k (by omega), e2] at hat
    exact hat
  · by_cases z2 : k < n
    · rw [if_pos z2] at hat
      have e1 : PF ad2 cI cL cR c9 (u, zA A n) k = PF ad cI cL cR c9 (u, A) k := by
        unfold PF
        rw [if_neg z, if_neg z]
        dsimp only
        rw [zA_o (show k ≠ n by omega)]
      rw [e1]
      exact hat
    · have e : k = n := by omega
      subst e
      rw [if_neg (Nat.lt_irrefl k)] at hat
      have e1 : PF ad2 cI cL cR c9 (u, zA A k) k = .inl (cI, len, .inl (fun _ => 0)) := by
        unfold PF
        rw [if_neg z, hcl]
        have e2 : (zA A k).1 k = fun _ => 0 := funext fun j => zA_n A k j
        show (Sum.inl (cI, len, Sum.inl ((zA A k).1 k)) : va_E) = _
        rw [e2]
      rw [e1]
      exact hat
/-! what stands behind the exploration -/
def xG (u : xS) (n : Nat) (B : Nat → Nat → Nat) (x c : Nat) (S D9 N : Nat → Nat) : Prop := xR u n B ∧ x < 64 * 2 ^ n ∧ u.1 33 3 = nI x ∧ u.1 21 8 = 1 ∧ u.1 21 9 = 0 ∧ onx B x ∧ xFin u n B x c S D9 N
theorem xG_j {u w : xS} {n : Nat} {B : Nat → Nat → Nat} {x c : Nat} {S D9 N : Nat → Nat} (h : xG u n B x c S D9 N) (hj : jFr u w) : xG w n B x c S D9 N := by
  obtain ⟨h1, h2, h3, h4, h5, h6, h7⟩ := h
  exact ⟨xR_jFr h1 hj, h2, by rw [hj.1 33 (by decide)]; exact h3, by rw [hj.1 21 (by decide)]; exact h4, by rw [hj.1 21 (by decide)]; exact h5, h6, xFin_fr h7 (fun q h9 _ => hj.1 q (by omega)) hj.2⟩
theorem xG_8 {u : xS} {n : Nat} {B : Nat → Nat → Nat} {x c : Nat} {S D9 N : Nat → Nat} (h : xG u n B x c S D9 N) : ¬ u.1 21 8 = 0 := by rw [h.2.2.2.1]; decide
theorem xG_9 {u : xS} {n : Nat} {B : Nat → Nat → Nat} {x c : Nat} {S D9 N : Nat → Nat} (h : xG u n B x c S D9 N) : u.1 21 9 = 0 := h.2.2.2.2.1
theorem xG_f {u : xS} {n : Nat} {B : Nat → Nat → Nat} {x c : Nat} {S D9 N : Nat → Nat} (h : xG u n B x c S D9 N) : xFin u n B x c S D9 N := h.2.2.2.2.2.2
theorem xG_c {u : xS} {n : Nat} {B : Nat → Nat → Nat} {x c : Nat} {S D9 N : Nat → Nat} (h : xG u n B x c S D9 N) : c ≤ 1000 ∧ 1 ≤ c := ⟨(xG_f h).1.2.1, (xG_f h).1.1⟩
theorem xG_S {u : xS} {n : Nat} {B : Nat → Nat → Nat} {x c : Nat} {S D9 N : Nat → Nat} (h : xG u n B x c S D9 N) {j : Nat} (hj : j < c) : S j < 16384 := by
  have h1 := ((xG_f h).1.2.2.2.2.2.2.1 j hj).2
  have h2 := pn8 h.1.1.1
  omega
theorem xG_N {u : xS} {n : Nat} {B : Nat → Nat → Nat} {x c : Nat} {S D9 N : Nat → Nat} (h : xG u n B x c S D9 N) {e : Nat} (he : e < 8 * c) : N e ≤ c := (xG_f h).1.2.2.2.1.1 e he
theorem aD_s {N : Nat → Nat} {k i n r : Nat} (hr : r = i + 1) (hn : r ≤ n) : aD N k i (n - i) = if N (8 * k + i) = 0 then aD N k r (n - r) else N (8 * k + i) := by
  rw [show n - i = (n - r) + 1 by omega, hr]
  rfl
theorem aD_le {c : Nat} {N : Nat → Nat} {k : Nat} (hN : ∀ e, e < 8 * c → N e ≤ c) (hk : k < c) : ∀ d r, r + d ≤ 8 → aD N k r d ≤ c
  | 0, _, _ => Nat.zero_le _
  | d + 1, r, h => by
    unfold aD
    split
    · exact aD_le hN hk d (r + 1) (by omega)
    · exact hN _ (by omega)
theorem lgc_ge {w : Nat} (h : 1 ≤ w) (h2 : w < 2 ^ 62) : 0 ≤ lg_cmp (lN w) 1 := by
  refine (lg_cmp_ge (lN w) 1).mpr ?_
  rw [fa_le64]
  have e1 : (lN w).toInt = (w : Int) := lg_ofNat_toInt (by omega)
  have e2 : (1 : Int64).toInt = 1 := by decide
  rw [e1, e2]
  omega
