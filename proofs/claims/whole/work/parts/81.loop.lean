section ZTab
variable {p : Program} {l : Launch} {e : Env} {R : Room} {s : State} {m : MethodId} {args : Array Value} {below : List Frame} {meth : Method} {c : Code} {D : va_G} {cl : List vw_C} {n : Nat} {ad : Nat → Nat} {nL cells slots : Nat} {Q : State → Prop} {f : Nat → va_E} {L : List (Nat × Value)} {pc : Nat} {st : List Value} {cc : ByteArray}
theorem z_tabIn (C : zc p c cc) {dflt lo hi : Int} {offs : Array Int} {len : Nat} {x : Int32} {off : Int} {tgt : Nat} (hdg : decode cc pc = .ok (.tableswitch dflt lo hi offs, len)) (h1 : ¬ x.toInt < lo) (h2 : ¬ hi < x.toInt) (ho : offs[(x.toInt - lo).toNat]? = some off) (ht : (pc : Int) + off = (tgt : Int)) (K : ZZ p l e R s m args below meth c D cl n ad nL cells slots Q f L tgt st) : ZZ p l e R s m args below meth c D cl n ad nL cells slots Q f L pc (.int x :: st) := fun H locs ls hP hS hl => lv_tableIn C.1 C.2 hdg h1 h2 ho ht (K H locs ls hP hS hl)
theorem z_tabOut (C : zc p c cc) {dflt lo hi : Int} {offs : Array Int} {len : Nat} {x : Int32} {tgt : Nat} (hdg : decode cc pc = .ok (.tableswitch dflt lo hi offs, len)) (h : x.toInt < lo ∨ hi < x.toInt) (ht : (pc : Int) + dflt = (tgt : Int)) (K : ZZ p l e R s m args below meth c D cl n ad nL cells slots Q f L tgt st) : ZZ p l e R s m args below meth c D cl n ad nL cells slots Q f L pc (.int x :: st) := fun H locs ls hP hS hl => lv_tableOut C.1 C.2 hdg h ht (K H locs ls hP hS hl)
end ZTab
theorem ext_gt {L i : Nat} (hL : L ≤ 2560) (hi : i ≤ 2560) (h : L < i + 5) : nI L - nI 5 < nI i := by
  rcases Nat.lt_or_ge L 5 with q | q
  · have h1 := pk_sneg (a := L) (b := 5) (by decide) q
    have h2 : ¬ nI i < 0 := nI_pos (by omega)
    rw [fa_lt] at h1 h2 ⊢
    omega
  · rw [pk_sub q]
    exact nI_lt (by omega) (by omega)
theorem sel_cases {k : Nat} (h : k < 32) : k = 0 ∨ k = 1 ∨ k = 2 ∨ k = 3 ∨ k = 4 ∨ k = 5 ∨ k = 6 ∨ k = 7 ∨ k = 8 ∨ k = 9 ∨ k = 10 ∨ k = 11 ∨ k = 12 ∨ k = 13 ∨ k = 14 ∨ k = 15 ∨ k = 16 ∨ k = 17 ∨ k = 18 ∨ k = 19 ∨ k = 20 ∨ k = 21 ∨ k = 22 ∨ k = 23 ∨ k = 24 ∨ k = 25 ∨ k = 26 ∨ k = 27 ∨ k = 28 ∨ k = 29 ∨ k = 30 ∨ k = 31 := by omega

set_option maxHeartbeats 4000000 in
set_option maxRecDepth 100000 in
theorem law_go {p : Program} {l : Launch} {e : Env} {s : State} {m : MethodId} {below : List Frame} {meth : Method} {c : Code} {D : va_G} {ad : Nat → Nat} {cI cL cR cB cD : ClassId} {b Ln : Nat} {xs : Nat → Int32} {Qq : State → Prop} (C0 : LC p l s m c D ad cI cL cR cB cD b Ln xs) {j i : Nat} (hi : i = 5 * j) (hiL : i + 5 ≤ Ln) {u v : xS} {o : Nat → Int64} {d : Nat → UInt64} {n : Nat} {B : Nat → Nat → Nat} {x : Nat} (hJ : JI u v n B x) (hNext : ∀ (s' : hS) (v' : xS) (n' : Nat) (B' : Nat → Nat → Nat) (x' : Nat), JI s'.1 v' n' B' x' → ZZ p l e room_1 s m #[Value.ref b] below meth c D vwCl 48 ad 9 (100 + 2 * (j + 1)) (100000 + 1006 * (j + 1)) Qq (LF ad cI cL cR cB cD (s', v')) [(0, .ref b), (1, .ref (ad 33)), (2, .ref (ad 36)), (3, .ref (ad 34)), (4, .ref (ad 35)), (5, .int (nI (i + 5)))] 28 []) : ZZ p l e room_1 s m #[Value.ref b] below meth c D vwCl 48 ad 9 (100 + 2 * j) (100000 + 1006 * j) Qq (LF ad cI cL cR cB cD ((u, o, d), v)) [(0, .ref b), (1, .ref (ad 33)), (2, .ref (ad 36)), (3, .ref (ad 34)), (4, .ref (ad 35)), (5, .int (nI i))] 28 [] := by
  have C00 := C0
  obtain ⟨C, hml, hown, hts, hK, hX, hI, hXs, hbl, hbA, hL, hst0⟩ := C0
  refine z_iload C dL_law_28 5 rfl ?_
  refine z_aload_n C dL_law_30 0 rfl ?_
  refine z_slen C hXs hbl hbA dL_law_31 ?_
  refine z_iconst (v := nI 5) C (by decide) dL_law_32 ?_
  refine z_isub C dL_law_33 ?_
  refine z_topi (y := nI (Ln - 5)) (pk_sub (by omega)) ?_
  refine z_icmp_gt (tgt := 1776) C dL_law_34 (by decide) (fun z => absurd (zlt_t (a := Ln - 5) (b := i) (by omega) (by omega) z) (by omega)) (fun _ => ?_)
  refine z_aload_n C dL_law_37 0 rfl ?_
  refine z_iload C dL_law_38 5 rfl ?_
  refine z_sld C hXs hbl hbA (k := i) rfl (by omega) (by omega) dL_law_40 ?_
  refine z_bipush (v := nI 31) C (by decide) dL_law_41 ?_
  refine z_iand C dL_law_43 ?_
  obtain ⟨sel, hsel, esel⟩ := pk_andE (xs i) (m := nI 31) 5 (by decide)
  refine z_topi (y := nI sel) esel ?_
  rcases sel_cases hsel with h | h | h | h | h | h | h | h | h | h | h | h | h | h | h | h | h | h | h | h | h | h | h | h | h | h | h | h | h | h | h | h
  · subst h; refine z_tabIn (off := 140) (tgt := 184) C dL_law_44 (by decide) (by decide) (by decide) (by decide) ?_; exact sg_addRule C00 hi hiL hJ hNext
  · subst h; refine z_tabIn (off := 248) (tgt := 292) C dL_law_44 (by decide) (by decide) (by decide) (by decide) ?_; exact sg_addAction C00 hi hiL hJ hNext
  · subst h; refine z_tabIn (off := 344) (tgt := 388) C dL_law_44 (by decide) (by decide) (by decide) (by decide) ?_; exact sg_turn C00 hi hiL hJ hNext
  · subst h; refine z_tabIn (off := 435) (tgt := 479) C dL_law_44 (by decide) (by decide) (by decide) (by decide) ?_; exact sg_rank C00 hi hiL hJ hNext
  · subst h; refine z_tabIn (off := 510) (tgt := 554) C dL_law_44 (by decide) (by decide) (by decide) (by decide) ?_; exact sg_isAbove C00 hi hiL hJ hNext
  · subst h; refine z_tabIn (off := 585) (tgt := 629) C dL_law_44 (by decide) (by decide) (by decide) (by decide) ?_; exact sg_ruleCount C00 hi hiL hJ hNext
  · subst h; refine z_tabIn (off := 598) (tgt := 642) C dL_law_44 (by decide) (by decide) (by decide) (by decide) ?_; exact sg_put C00 hi hiL hJ hNext
  · subst h; refine z_tabIn (off := 654) (tgt := 698) C dL_law_44 (by decide) (by decide) (by decide) (by decide) ?_; exact sg_change C00 hi hiL hJ hNext
  · subst h; refine z_tabIn (off := 738) (tgt := 782) C dL_law_44 (by decide) (by decide) (by decide) (by decide) ?_; exact sg_facts C00 hi hiL hJ hNext
  · subst h; refine z_tabIn (off := 751) (tgt := 795) C dL_law_44 (by decide) (by decide) (by decide) (by decide) ?_; exact sg_triggered C00 hi hiL hJ hNext
  · subst h; refine z_tabIn (off := 764) (tgt := 808) C dL_law_44 (by decide) (by decide) (by decide) (by decide) ?_; exact sg_ready C00 hi hiL hJ hNext
  · subst h; refine z_tabIn (off := 777) (tgt := 821) C dL_law_44 (by decide) (by decide) (by decide) (by decide) ?_; exact sg_play C00 hi hiL hJ hNext
  · subst h; refine z_tabIn (off := 840) (tgt := 884) C dL_law_44 (by decide) (by decide) (by decide) (by decide) ?_; exact sg_run C00 hi hiL hJ hNext
  · subst h; refine z_tabIn (off := 896) (tgt := 940) C dL_law_44 (by decide) (by decide) (by decide) (by decide) ?_; exact sg_explore C00 hi hiL hJ hNext
  · subst h; refine z_tabIn (off := 909) (tgt := 953) C dL_law_44 (by decide) (by decide) (by decide) (by decide) ?_; exact sg_factsOf C00 hi hiL hJ hNext
  · subst h; refine z_tabIn (off := 965) (tgt := 1009) C dL_law_44 (by decide) (by decide) (by decide) (by decide) ?_; exact sg_triggeredOf C00 hi hiL hJ hNext
  · subst h; refine z_tabIn (off := 1021) (tgt := 1065) C dL_law_44 (by decide) (by decide) (by decide) (by decide) ?_; exact sg_after C00 hi hiL hJ hNext
  · subst h; refine z_tabIn (off := 1089) (tgt := 1133) C dL_law_44 (by decide) (by decide) (by decide) (by decide) ?_; exact sg_terminates C00 hi hiL hJ hNext
  · subst h; refine z_tabIn (off := 1140) (tgt := 1184) C dL_law_44 (by decide) (by decide) (by decide) (by decide) ?_; exact sg_endCount C00 hi hiL hJ hNext
  · subst h; refine z_tabIn (off := 1184) (tgt := 1228) C dL_law_44 (by decide) (by decide) (by decide) (by decide) ?_; exact sg_end C00 hi hiL hJ hNext
  · subst h; refine z_tabIn (off := 1240) (tgt := 1284) C dL_law_44 (by decide) (by decide) (by decide) (by decide) ?_; exact sg_shortest C00 hi hiL hJ hNext
  · subst h; refine z_tabIn (off := 1284) (tgt := 1328) C dL_law_44 (by decide) (by decide) (by decide) (by decide) ?_; exact sg_longest C00 hi hiL hJ hNext
  · subst h; refine z_tabIn (off := 1328) (tgt := 1372) C dL_law_44 (by decide) (by decide) (by decide) (by decide) ?_; exact sg_ways C00 hi hiL hJ hNext
  · subst h; refine z_tabIn (off := 1371) (tgt := 1415) C dL_law_44 (by decide) (by decide) (by decide) (by decide) ?_; exact sg_isPlayed C00 hi hiL hJ hNext
  · subst h; refine z_tabIn (off := 1434) (tgt := 1478) C dL_law_44 (by decide) (by decide) (by decide) (by decide) ?_; exact sg_choice C00 hi hiL hJ hNext
  · subst h; refine z_tabIn (off := 1499) (tgt := 1543) C dL_law_44 (by decide) (by decide) (by decide) (by decide) ?_; exact sg_canTrigger C00 hi hiL hJ hNext
  · subst h; refine z_tabIn (off := 1555) (tgt := 1599) C dL_law_44 (by decide) (by decide) (by decide) (by decide) ?_; exact sg_circular C00 hi hiL hJ hNext
  · subst h; refine z_tabIn (off := 1568) (tgt := 1612) C dL_law_44 (by decide) (by decide) (by decide) (by decide) ?_; exact sg_commute C00 hi hiL hJ hNext
  · subst h; refine z_tabIn (off := 1643) (tgt := 1687) C dL_law_44 (by decide) (by decide) (by decide) (by decide) ?_; exact sg_conflictCount C00 hi hiL hJ hNext
  · subst h; refine z_tabIn (off := 1656) (tgt := 1700) C dL_law_44 (by decide) (by decide) (by decide) (by decide) ?_; exact sg_conflict C00 hi hiL hJ hNext
  · subst h; refine z_tabIn (off := 1712) (tgt := 1756) C dL_law_44 (by decide) (by decide) (by decide) (by decide) ?_; exact sg_digest C00 hi hiL hJ hNext
  · subst h
    refine z_tabOut (tgt := 1770) C dL_law_44 (by decide) (by decide) ?_
    refine z_iinc (L' := [(5, .int (nI (i + 5))), (0, .ref b), (1, .ref (ad 33)), (2, .ref (ad 36)), (3, .ref (ad 34)), (4, .ref (ad 35))]) C dL_law_1770 5 rfl (nI_5 i) (by decide) rfl ?_
    refine z_goto (tgt := 28) C dL_law_1773 (by decide) ?_
    refine z_sub (L' := [(0, .ref b), (1, .ref (ad 33)), (2, .ref (ad 36)), (3, .ref (ad 34)), (4, .ref (ad 35)), (5, .int (nI (i + 5)))]) [1, 2, 3, 4, 5, 0] rfl ?_
    refine z_widen (k := 100 + 2 * (j + 1)) (q := 100000 + 1006 * (j + 1)) (by omega) (by omega) ?_
    exact hNext (u, o, d) v n B x hJ

theorem law_loop {p : Program} {l : Launch} {e : Env} {s : State} {m : MethodId} {below : List Frame} {meth : Method} {c : Code} {D : va_G} {ad : Nat → Nat} {cI cL cR cB cD : ClassId} {b Ln : Nat} {xs : Nat → Int32} {Qq : State → Prop} (C0 : LC p l s m c D ad cI cL cR cB cD b Ln xs) (hEnd : ∀ z : lS, ZZ p l e room_1 s m #[Value.ref b] below meth c D vwCl 48 ad 9 601024 7293034 Qq (LF ad cI cL cR cB cD z) [(0, .ref b)] 1776 []) : ∀ (g j i : Nat) (s' : hS) (v : xS) (n : Nat) (B : Nat → Nat → Nat) (x : Nat), Ln < i + 5 * g → i = 5 * j → i ≤ Ln → JI s'.1 v n B x → ZZ p l e room_1 s m #[Value.ref b] below meth c D vwCl 48 ad 9 (100 + 2 * j) (100000 + 1006 * j) Qq (LF ad cI cL cR cB cD (s', v)) [(0, .ref b), (1, .ref (ad 33)), (2, .ref (ad 36)), (3, .ref (ad 34)), (4, .ref (ad 35)), (5, .int (nI i))] 28 [] := by
  intro g
  have C00 := C0
  obtain ⟨C, hml, hown, hts, hK, hX, hI, hXs, hbl, hbA, hL, hst0⟩ := C0
  induction g with
  | zero => intro j i s' v n B x h1 h2 h3; omega
  | succ g ih =>
    intro j i s' v n B x h1 h2 h3 hJ
    rcases Nat.lt_or_ge Ln (i + 5) with q | q
    · refine z_iload C dL_law_28 5 rfl ?_
      refine z_aload_n C dL_law_30 0 rfl ?_
      refine z_slen C hXs hbl hbA dL_law_31 ?_
      refine z_iconst (v := nI 5) C (by decide) dL_law_32 ?_
      refine z_isub C dL_law_33 ?_
      refine z_icmp_gt (tgt := 1776) C dL_law_34 (by decide) (fun _ => ?_) (fun z => absurd (ext_gt hL (by omega) q) z)
      refine z_sub (L' := [(0, .ref b)]) [0] rfl ?_
      refine z_widen (k := 601024) (q := 7293034) (by omega) (by omega) ?_
      exact hEnd (s', v)
    · obtain ⟨u, o, d⟩ := s'
      exact law_go C00 h2 q hJ (fun s2 v2 n2 B2 x2 hJ2 => ih (j + 1) (i + 5) s2 v2 n2 B2 x2 (by omega) (by omega) q hJ2)
