abbrev HPost (t : Nat) (val : Int64) (n2 : Nat) (B2 : Nat → Nat → Nat) (x2 : Nat) (f : Int32) : Int32 → hS → Prop := fun r s => r = nI t ∧ (t = 0 → s.2.1 0 = val) ∧ xQ s.1 n2 B2 x2 f
abbrev HPostD (t : Nat) (val : UInt64) (n2 : Nat) (B2 : Nat → Nat → Nat) (x2 : Nat) (f : Int32) : Int32 → hS → Prop := fun r s => r = nI t ∧ (t = 0 → s.2.2 0 = val) ∧ xQ s.1 n2 B2 x2 f
abbrev MPost {α : Type} (t : Nat) (val : α) (n2 : Nat) (B2 : Nat → Nat → Nat) (x2 : Nat) (f : Int32) : α → xS → Prop := fun r w => r = val ∧ w.1 0 0 = nI t ∧ mQ w n2 B2 x2 f
theorem hp_i {V vl : Int32} {ST : xS} {n2 : Nat} {B2 : Nat → Nat → Nat} {x2 : Nat} {f : Int32} (e : V = vl) (h : xQ ST n2 B2 x2 f) (r : Int32) (s : hS) (hp : r = nI 0 ∧ ∃ b : Int32, (b = V ∧ s.1 = ST) ∧ s.2.1 0 = b.toInt64) : HPost 0 vl.toInt64 n2 B2 x2 f r s := by
  obtain ⟨a, b, ⟨rfl, e2⟩, c⟩ := hp
  exact ⟨a, fun _ => by rw [c, e], by rw [e2]; exact h⟩
theorem hp_z {V vl : Int32} {ST : xS} {n2 : Nat} {B2 : Nat → Nat → Nat} {x2 : Nat} {f : Int32} (e : V = vl) (h : xQ ST n2 B2 x2 f) (r : Int32) (s : hS) (hp : r = nI 0 ∧ ∃ b : Int32, (b = V ∧ s.1 = ST) ∧ s.2.1 0 = (if b = 0 then 0 else 1)) : HPost 0 (if vl = 0 then 0 else 1) n2 B2 x2 f r s := by
  obtain ⟨a, b, ⟨rfl, e2⟩, c⟩ := hp
  exact ⟨a, fun _ => by rw [c, e], by rw [e2]; exact h⟩
theorem hp_l {V vl : Int64} {ST : xS} {n2 : Nat} {B2 : Nat → Nat → Nat} {x2 : Nat} {f : Int32} (e : V = vl) (h : xQ ST n2 B2 x2 f) (r : Int32) (s : hS) (hp : r = nI 0 ∧ ∃ b : Int64, (b = V ∧ s.1 = ST) ∧ s.2.1 0 = b) : HPost 0 vl n2 B2 x2 f r s := by
  obtain ⟨a, b, ⟨rfl, e2⟩, c⟩ := hp
  exact ⟨a, fun _ => by rw [c, e], by rw [e2]; exact h⟩
theorem hp_d {V vl : UInt64} {ST : xS} {n2 : Nat} {B2 : Nat → Nat → Nat} {x2 : Nat} {f : Int32} (e : V = vl) (h : xQ ST n2 B2 x2 f) (r : Int32) (s : hS) (hp : r = nI 0 ∧ ∃ b : UInt64, (b = V ∧ s.1 = ST) ∧ s.2.2 0 = b) : HPostD 0 vl n2 B2 x2 f r s := by
  obtain ⟨a, b, ⟨rfl, e2⟩, c⟩ := hp
  exact ⟨a, fun _ => by rw [c, e], by rw [e2]; exact h⟩
theorem hp_t {t : Nat} {val : Int64} {u : xS} {o : Nat → Int64} {d : Nat → UInt64} {n2 : Nat} {B2 : Nat → Nat → Nat} {x2 : Nat} {f : Int32} (ht : t ≠ 0) (h : xQ u n2 B2 x2 f) (r : Int32) (s : hS) (hp : r = nI t ∧ s = (u, o, d)) : HPost t val n2 B2 x2 f r s := ⟨hp.1, fun z => absurd z ht, by rw [hp.2]; exact h⟩
theorem hp_td {t : Nat} {val : UInt64} {u : xS} {o : Nat → Int64} {d : Nat → UInt64} {n2 : Nat} {B2 : Nat → Nat → Nat} {x2 : Nat} {f : Int32} (ht : t ≠ 0) (h : xQ u n2 B2 x2 f) (r : Int32) (s : hS) (hp : r = nI t ∧ s = (u, o, d)) : HPostD t val n2 B2 x2 f r s := ⟨hp.1, fun z => absurd z ht, by rw [hp.2]; exact h⟩
theorem ends_le {n m : Nat} {E : eS} (hE : eOk n E m) : fb_ct (isE E.1) E.2.2.2.1 ≤ 64 := by
  rcases Nat.eq_zero_or_pos (fb_ct (isE E.1) E.2.2.2.1) with z | z
  · omega
  · obtain ⟨i, hi, hp, he⟩ := fb_ct_kth (p := isE E.1) (k := fb_ct (isE E.1) E.2.2.2.1 - 1) (n := E.2.2.2.1) (by omega)
    have := ends_lt hE hi (isE_s.mp hp)
    omega
theorem mFin_k {u : xS} {c : Nat} {N L : Nat → Nat} {W : Nat → Int64} {t : Nat} (h : kRes u c N) (hm : mFin c N t L W) : (t = 1 ∧ u.1 28 5 = 1 ∧ u.1 28 6 = nI (L 0) ∧ u.2 28 7 = W 0) ∨ (t = 0 ∧ u.1 28 5 = 0) := by
  rcases h with ⟨h1, h2, h3, h4⟩ | ⟨h1, h2⟩
  · rcases hm with ⟨m1, m2, m3, m4⟩ | ⟨m1, m2⟩
    · exact Or.inl ⟨m1, h1, h3 L m3, h4 W m4⟩
    · exact absurd h2 m2
  · rcases hm with ⟨m1, m2, m3, m4⟩ | ⟨m1, m2⟩
    · exact absurd m2 h2
    · exact Or.inr ⟨m1, h1⟩

set_option maxHeartbeats 1000000 in
theorem lc_addRule (l : Launch) (hst0 : l.stackTraces = false) (D : va_G) (ad am : Nat → Nat) (cI cL cR cB cD : ClassId) (hI : gI 36 ad) (hIm : gI 12 am) (u v : xS) (o : Nat → Int64) (d : Nat → UInt64) (n : Nat) (B : Nat → Nat → Nat) (x : Nat) (hJ : JI u v n B x) (x1 : Int32) (b : Nat) (hb : b ≤ 1) (x3 : Int32) (x4 : Int32) : ∃ (t : Nat) (vl : Int32) (n2 : Nat) (B2 : Nat → Nat → Nat) (y2 : Nat) (f : Int32), t ≤ 3 ∧ (∀ sz, Met l yL_addRule wsL_addRule ({ frames := 8, cells := 1, slots := 6, locals := 134 }) (HP D ad cI cL cR cB cD (u, o, d) [.ref (ad 33), .int (x1), .int (nI b), .int (x3), .int (x4), .ref (ad 34)] sz) (va_Qi (HPost t vl.toInt64 n2 B2 y2 f) (HB D ad cI cL cR cD) (gA 36 ad sz)) 1 6 (gA 36 ad sz)) ∧ ∀ sz, Met l yX7_addRule wsX7_addRule ({ frames := 1, cells := 0, slots := 0, locals := 21 }) (MP D am cI cL cB v [.ref (am 0), .int (x1), .int (nI b), .int (x3), .int (x4)] sz) (va_Qi (MPost t vl n2 B2 y2 f) (MB D am cI cL cB) (gA 12 am sz)) 0 0 (gA 12 am sz) := by
  rcases bd (k := 6) (by decide) x1 with hf | ⟨k, hk, rfl⟩
  · exact ⟨1, nI 0, n, B, x, v.1 0 11, by decide, fun sz => z_pI (hp_t (by decide) (JI_q hJ)) (h_addRule_t1 l D ad cI cL cR cB cD hI u o d (x1) (nI b) (x3) (x4) (c_X6_addRule_x1 l hst0 D ad cI cL cR (gI_n (by decide) hI) u x1 hf (nI b) x3 x4) sz), c_X7_addRule_x1 l D am cI cL cB hIm v n B (JI_B hJ) x (JI_x hJ) hJ.2.1 x1 hf (nI b) x3 x4⟩
  · rcases bd (k := 64) (by decide) x3 with hf | ⟨a1, ha1, rfl⟩
    · exact ⟨2, nI 0, n, B, x, v.1 0 11, by decide, fun sz => z_pI (hp_t (by decide) (JI_q hJ)) (h_addRule_t2 l D ad cI cL cR cB cD hI u o d (nI k) (nI b) (x3) (x4) (c_X6_addRule_x2 l hst0 D ad cI cL cR (gI_n (by decide) hI) u k hk (nI b) x3 hf x4) sz), c_X7_addRule_x2 l D am cI cL cB hIm v n B (JI_B hJ) x (JI_x hJ) hJ.2.1 k hk (nI b) x3 hf x4⟩
    · rcases bd (k := 64) (by decide) x4 with hf | ⟨a2, ha2, rfl⟩
      · exact ⟨2, nI 0, n, B, x, v.1 0 11, by decide, fun sz => z_pI (hp_t (by decide) (JI_q hJ)) (h_addRule_t2 l D ad cI cL cR cB cD hI u o d (nI k) (nI b) (nI a1) (x4) (c_X6_addRule_x3 l hst0 D ad cI cL cR (gI_n (by decide) hI) u k hk (nI b) a1 ha1 x4 hf) sz), c_X7_addRule_x3 l D am cI cL cB hIm v n B (JI_B hJ) x (JI_x hJ) hJ.2.1 k hk (nI b) a1 ha1 x4 hf⟩
      · rcases Nat.lt_or_ge n 8 with hn8 | hn8
        · exact ⟨0, nI n, n + 1, apB B n (2 * k + b) a1 a2, x, 0, by decide, fun sz => z_pI (hp_i rfl (xQ_ap hJ.1 hn8 (by omega) ha1 ha2)) (h_addRule_ok l D ad cI cL cR cB cD hI u o d (nI k) (nI b) (nI a1) (nI a2) _ (c_X6_addRule l D ad cI cL cR (gI_n (by decide) hI) u n B (JI_R hJ) hn8 k hk b hb a1 ha1 a2 ha2) sz), c_X7_addRule l D am cI cL cB hIm v n B (JI_B hJ) x (JI_x hJ) hJ.2.1 hn8 k hk b hb a1 ha1 a2 ha2⟩
        · exact ⟨3, nI 0, n, B, x, v.1 0 11, by decide, fun sz => z_pI (hp_t (by decide) (JI_q hJ)) (h_addRule_t3 l D ad cI cL cR cB cD hI u o d (nI k) (nI b) (nI a1) (nI a2) (c_X6_addRule_x4 l hst0 D ad cI cL cR (gI_n (by decide) hI) u n B (JI_R hJ) hn8 k hk b hb a1 ha1 a2 ha2) sz), c_X7_addRule_x4 l D am cI cL cB hIm v n B (JI_B hJ) x (JI_x hJ) hJ.2.1 hn8 k hk b hb a1 ha1 a2 ha2⟩

set_option maxHeartbeats 1000000 in
theorem lc_addAction (l : Launch) (hst0 : l.stackTraces = false) (D : va_G) (ad am : Nat → Nat) (cI cL cR cB cD : ClassId) (hI : gI 36 ad) (hIm : gI 12 am) (u v : xS) (o : Nat → Int64) (d : Nat → UInt64) (n : Nat) (B : Nat → Nat → Nat) (x : Nat) (hJ : JI u v n B x) (x1 : Int32) (x2 : Int32) (b : Nat) (hb : b ≤ 1) : ∃ (t : Nat) (vl : Int32) (n2 : Nat) (B2 : Nat → Nat → Nat) (y2 : Nat) (f : Int32), t ≤ 3 ∧ (∀ sz, Met l yL_addAction wsL_addAction ({ frames := 8, cells := 1, slots := 6, locals := 136 }) (HP D ad cI cL cR cB cD (u, o, d) [.ref (ad 33), .int (x1), .int (x2), .int (nI b), .ref (ad 34)] sz) (va_Qi (HPost t vl.toInt64 n2 B2 y2 f) (HB D ad cI cL cR cD) (gA 36 ad sz)) 1 6 (gA 36 ad sz)) ∧ ∀ sz, Met l yX7_addAction wsX7_addAction ({ frames := 1, cells := 0, slots := 0, locals := 21 }) (MP D am cI cL cB v [.ref (am 0), .int (x1), .int (x2), .int (nI b)] sz) (va_Qi (MPost t vl n2 B2 y2 f) (MB D am cI cL cB) (gA 12 am sz)) 0 0 (gA 12 am sz) := by
  rcases bd (k := n) (by have := (JI_B hJ).1; omega) x1 with hf | ⟨i, hi, rfl⟩
  · exact ⟨1, nI 0, n, B, x, v.1 0 11, by decide, fun sz => z_pI (hp_t (by decide) (JI_q hJ)) (h_addAction_t1 l D ad cI cL cR cB cD hI u o d (x1) (x2) (nI b) (c_X6_addAction_x1 l hst0 D ad cI cL cR (gI_n (by decide) hI) u n B (JI_R hJ) x1 hf x2 (nI b)) sz), c_X7_addAction_x1 l D am cI cL cB hIm v n B (JI_B hJ) x (JI_x hJ) hJ.2.1 x1 hf x2 (nI b)⟩
  · rcases bd (k := 6) (by decide) x2 with hf | ⟨k, hk, rfl⟩
    · exact ⟨1, nI 0, n, B, x, v.1 0 11, by decide, fun sz => z_pI (hp_t (by decide) (JI_q hJ)) (h_addAction_t1 l D ad cI cL cR cB cD hI u o d (nI i) (x2) (nI b) (c_X6_addAction_x2 l hst0 D ad cI cL cR (gI_n (by decide) hI) u n B (JI_R hJ) i hi x2 hf (nI b)) sz), c_X7_addAction_x2 l D am cI cL cB hIm v n B (JI_B hJ) x (JI_x hJ) hJ.2.1 i hi x2 hf (nI b)⟩
    · rcases Nat.lt_or_ge (B i 4) 4 with h4 | h4
      · exact ⟨0, nI (B i 4 + 1), n, aaB B i (2 * k + b), x, 0, by decide, fun sz => z_pI (hp_i rfl (xQ_aa hJ.1 hi h4 (by omega))) (h_addAction_ok l D ad cI cL cR cB cD hI u o d (nI i) (nI k) (nI b) _ (c_X6_addAction l D ad cI cL cR (gI_n (by decide) hI) u n B (JI_R hJ) i hi k hk b hb h4) sz), c_X7_addAction l D am cI cL cB hIm v n B (JI_B hJ) x (JI_x hJ) hJ.2.1 i hi k hk b hb h4⟩
      · exact ⟨2, nI 0, n, B, x, v.1 0 11, by decide, fun sz => z_pI (hp_t (by decide) (JI_q hJ)) (h_addAction_t2 l D ad cI cL cR cB cD hI u o d (nI i) (nI k) (nI b) (c_X6_addAction_x3 l hst0 D ad cI cL cR (gI_n (by decide) hI) u n B (JI_R hJ) i hi k hk (nI b) h4) sz), c_X7_addAction_x3 l D am cI cL cB hIm v n B (JI_B hJ) x (JI_x hJ) hJ.2.1 i hi k hk (nI b) h4⟩

set_option maxHeartbeats 1000000 in
theorem lc_turn (l : Launch) (hst0 : l.stackTraces = false) (D : va_G) (ad am : Nat → Nat) (cI cL cR cB cD : ClassId) (hI : gI 36 ad) (hIm : gI 12 am) (u v : xS) (o : Nat → Int64) (d : Nat → UInt64) (n : Nat) (B : Nat → Nat → Nat) (x : Nat) (hJ : JI u v n B x) (x1 : Int32) (b : Nat) (hb : b ≤ 1) : ∃ (t : Nat) (vl : Int32) (n2 : Nat) (B2 : Nat → Nat → Nat) (y2 : Nat) (f : Int32), t ≤ 3 ∧ (∀ sz, Met l yL_turn wsL_turn ({ frames := 8, cells := 1, slots := 6, locals := 136 }) (HP D ad cI cL cR cB cD (u, o, d) [.ref (ad 33), .int (x1), .int (nI b), .ref (ad 34)] sz) (va_Qi (HPost t (if vl = 0 then 0 else 1) n2 B2 y2 f) (HB D ad cI cL cR cD) (gA 36 ad sz)) 1 6 (gA 36 ad sz)) ∧ ∀ sz, Met l yX7_turn wsX7_turn ({ frames := 1, cells := 0, slots := 0, locals := 21 }) (MP D am cI cL cB v [.ref (am 0), .int (x1), .int (nI b)] sz) (va_Qi (MPost t vl n2 B2 y2 f) (MB D am cI cL cB) (gA 12 am sz)) 0 0 (gA 12 am sz) := by
  rcases bd (k := n) (by have := (JI_B hJ).1; omega) x1 with hf | ⟨i, hi, rfl⟩
  · exact ⟨1, nI 0, n, B, x, v.1 0 11, by decide, fun sz => z_pI (hp_t (by decide) (JI_q hJ)) (h_turn_t1 l D ad cI cL cR cB cD hI u o d (x1) (nI b) (c_X6_turn_x1 l hst0 D ad cI cL cR (gI_n (by decide) hI) u n B (JI_R hJ) x1 hf (nI b)) sz), c_X7_turn_x1 l D am cI cL cB hIm v n B (JI_B hJ) x (JI_x hJ) hJ.2.1 x1 hf (nI b)⟩
  · rcases Nat.le_one_iff_eq_zero_or_eq_one.mp hb with rfl | rfl
    · have hx9 := JI_x hJ
      have hcb : clr (x / 64) i < 2 ^ n := clr_bits (by omega)
      exact ⟨0, nI (B i 3), n, swB B i 0, 64 * clr (x / 64) i + x % 64, 0, by decide, fun sz => z_pI (hp_z rfl (xQ_sw0 hJ.1 hi (by omega))) (h_turn_ok l D ad cI cL cR cB cD hI u o d (nI i) (nI 0) _ (c_X6_turn_v0 l D ad cI cL cR (gI_n (by decide) hI) u n B (JI_R hJ) i hi x (JI_8 hJ) (JI_3 hJ)) sz), c_X7_turn_v0 l D am cI cL cB hIm v n B (JI_B hJ) x (JI_x hJ) hJ.2.1 i hi⟩
    · exact ⟨0, nI (B i 3), n, swB B i 1, x, 0, by decide, fun sz => z_pI (hp_z rfl (xQ_sw1 hJ.1 hi)) (h_turn_ok l D ad cI cL cR cB cD hI u o d (nI i) (nI 1) _ (c_X6_turn_v1 l D ad cI cL cR (gI_n (by decide) hI) u n B (JI_R hJ) i hi) sz), c_X7_turn_v1 l D am cI cL cB hIm v n B (JI_B hJ) x (JI_x hJ) hJ.2.1 i hi⟩

set_option maxHeartbeats 1000000 in
theorem lc_rank (l : Launch) (hst0 : l.stackTraces = false) (D : va_G) (ad am : Nat → Nat) (cI cL cR cB cD : ClassId) (hI : gI 36 ad) (hIm : gI 12 am) (u v : xS) (o : Nat → Int64) (d : Nat → UInt64) (n : Nat) (B : Nat → Nat → Nat) (x : Nat) (hJ : JI u v n B x) (x1 : Int32) (x2 : Int32) : ∃ (t : Nat) (vl : Int32) (n2 : Nat) (B2 : Nat → Nat → Nat) (y2 : Nat) (f : Int32), t ≤ 3 ∧ (∀ sz, Met l yL_rank wsL_rank ({ frames := 8, cells := 1, slots := 6, locals := 137 }) (HP D ad cI cL cR cB cD (u, o, d) [.ref (ad 33), .int (x1), .int (x2), .ref (ad 34)] sz) (va_Qi (HPost t (if vl = 0 then 0 else 1) n2 B2 y2 f) (HB D ad cI cL cR cD) (gA 36 ad sz)) 1 6 (gA 36 ad sz)) ∧ ∀ sz, Met l yX7_rank wsX7_rank ({ frames := 1, cells := 0, slots := 0, locals := 21 }) (MP D am cI cL cB v [.ref (am 0), .int (x1), .int (x2)] sz) (va_Qi (MPost t vl n2 B2 y2 f) (MB D am cI cL cB) (gA 12 am sz)) 0 0 (gA 12 am sz) := by
  rcases bd (k := n) (by have := (JI_B hJ).1; omega) x1 with hf | ⟨i, hi, rfl⟩
  · exact ⟨1, nI 0, n, B, x, v.1 0 11, by decide, fun sz => z_pI (hp_t (by decide) (JI_q hJ)) (h_rank_t1 l D ad cI cL cR cB cD hI u o d (x1) (x2) (c_X6_rank_x1 l hst0 D ad cI cL cR (gI_n (by decide) hI) u n B (JI_R hJ) x1 hf x2) sz), c_X7_rank_x1 l D am cI cL cB hIm v n B (JI_B hJ) x (JI_x hJ) hJ.2.1 x1 hf x2⟩
  · rcases bd (k := n) (by have := (JI_B hJ).1; omega) x2 with hf | ⟨j, hj, rfl⟩
    · exact ⟨1, nI 0, n, B, x, v.1 0 11, by decide, fun sz => z_pI (hp_t (by decide) (JI_q hJ)) (h_rank_t1 l D ad cI cL cR cB cD hI u o d (nI i) (x2) (c_X6_rank_x2 l hst0 D ad cI cL cR (gI_n (by decide) hI) u n B (JI_R hJ) i hi x2 hf) sz), c_X7_rank_x2 l D am cI cL cB hIm v n B (JI_B hJ) x (JI_x hJ) hJ.2.1 i hi x2 hf⟩
    · by_cases hij : i = j
      · subst hij
        exact ⟨2, nI 0, n, B, x, v.1 0 11, by decide, fun sz => z_pI (hp_t (by decide) (JI_q hJ)) (h_rank_t2 l D ad cI cL cR cB cD hI u o d (nI i) (nI i) (c_X6_rank_x3 l hst0 D ad cI cL cR (gI_n (by decide) hI) u n B (JI_R hJ) i hi) sz), c_X7_rank_x3 l D am cI cL cB hIm v n B (JI_B hJ) x (JI_x hJ) hJ.2.1 i hi⟩
      · cases hno : (B j 5).testBit i
        · exact ⟨0, (if (B i 5).testBit j = true then 0 else 1), n, rkB B (abv B i ||| 2 ^ i) (B j 5 ||| 2 ^ j), x, 0, by decide, fun sz => z_pI (hp_z rfl (xQ_rk hJ.1 hi hj hij hno)) (h_rank_ok l D ad cI cL cR cB cD hI u o d (nI i) (nI j) _ (c_X6_rank l D ad cI cL cR (gI_n (by decide) hI) u n B (JI_R hJ) i hi j hj hij hno) sz), c_X7_rank l D am cI cL cB hIm v n B (JI_B hJ) x (JI_x hJ) hJ.2.1 i hi j hj hij hno⟩
        · exact ⟨2, nI 0, n, B, x, v.1 0 11, by decide, fun sz => z_pI (hp_t (by decide) (JI_q hJ)) (h_rank_t2 l D ad cI cL cR cB cD hI u o d (nI i) (nI j) (c_X6_rank_x4 l hst0 D ad cI cL cR (gI_n (by decide) hI) u n B (JI_R hJ) i hi j hj hij hno) sz), c_X7_rank_x4 l D am cI cL cB hIm v n B (JI_B hJ) x (JI_x hJ) hJ.2.1 i hi j hj hij hno⟩

set_option maxHeartbeats 1000000 in
theorem lc_isAbove (l : Launch) (hst0 : l.stackTraces = false) (D : va_G) (ad am : Nat → Nat) (cI cL cR cB cD : ClassId) (hI : gI 36 ad) (hIm : gI 12 am) (u v : xS) (o : Nat → Int64) (d : Nat → UInt64) (n : Nat) (B : Nat → Nat → Nat) (x : Nat) (hJ : JI u v n B x) (x1 : Int32) (x2 : Int32) : ∃ (t : Nat) (vl : Int32) (n2 : Nat) (B2 : Nat → Nat → Nat) (y2 : Nat) (f : Int32), t ≤ 3 ∧ (∀ sz, Met l yL_isAbove wsL_isAbove ({ frames := 8, cells := 1, slots := 6, locals := 136 }) (HP D ad cI cL cR cB cD (u, o, d) [.ref (ad 33), .int (x1), .int (x2), .ref (ad 34)] sz) (va_Qi (HPost t (if vl = 0 then 0 else 1) n2 B2 y2 f) (HB D ad cI cL cR cD) (gA 36 ad sz)) 1 6 (gA 36 ad sz)) ∧ ∀ sz, Met l yX7_isAbove wsX7_isAbove ({ frames := 1, cells := 0, slots := 0, locals := 21 }) (MP D am cI cL cB v [.ref (am 0), .int (x1), .int (x2)] sz) (va_Qi (MPost t vl n2 B2 y2 f) (MB D am cI cL cB) (gA 12 am sz)) 0 0 (gA 12 am sz) := by
  rcases bd (k := n) (by have := (JI_B hJ).1; omega) x1 with hf | ⟨i, hi, rfl⟩
  · exact ⟨1, nI 0, n, B, x, v.1 0 11, by decide, fun sz => z_pI (hp_t (by decide) (JI_q hJ)) (h_isAbove_t1 l D ad cI cL cR cB cD hI u o d (x1) (x2) (c_X6_isAbove_x1 l hst0 D ad cI cL cR (gI_n (by decide) hI) u n B (JI_R hJ) x1 hf x2) sz), c_X7_isAbove_x1 l D am cI cL cB hIm v n B (JI_B hJ) x (JI_x hJ) hJ.2.1 x1 hf x2⟩
  · rcases bd (k := n) (by have := (JI_B hJ).1; omega) x2 with hf | ⟨j, hj, rfl⟩
    · exact ⟨1, nI 0, n, B, x, v.1 0 11, by decide, fun sz => z_pI (hp_t (by decide) (JI_q hJ)) (h_isAbove_t1 l D ad cI cL cR cB cD hI u o d (nI i) (x2) (c_X6_isAbove_x2 l hst0 D ad cI cL cR (gI_n (by decide) hI) u n B (JI_R hJ) i hi x2 hf) sz), c_X7_isAbove_x2 l D am cI cL cB hIm v n B (JI_B hJ) x (JI_x hJ) hJ.2.1 i hi x2 hf⟩
    · exact ⟨0, (if (B i 5).testBit j = true then 1 else 0), n, B, x, v.1 0 11, by decide, fun sz => z_pI (hp_z rfl (JI_q hJ)) (h_isAbove_ok l D ad cI cL cR cB cD hI u o d (nI i) (nI j) _ (c_X6_isAbove l D ad cI cL cR (gI_n (by decide) hI) u n B (JI_R hJ) i hi j hj) sz), c_X7_isAbove l D am cI cL cB hIm v n B (JI_B hJ) x (JI_x hJ) hJ.2.1 i hi j hj⟩

set_option maxHeartbeats 1000000 in
theorem lc_put (l : Launch) (hst0 : l.stackTraces = false) (D : va_G) (ad am : Nat → Nat) (cI cL cR cB cD : ClassId) (hI : gI 36 ad) (hIm : gI 12 am) (u v : xS) (o : Nat → Int64) (d : Nat → UInt64) (n : Nat) (B : Nat → Nat → Nat) (x : Nat) (hJ : JI u v n B x) (x1 : Int32) : ∃ (t : Nat) (vl : Int32) (n2 : Nat) (B2 : Nat → Nat → Nat) (y2 : Nat) (f : Int32), t ≤ 3 ∧ (∀ sz, Met l yL_put wsL_put ({ frames := 8, cells := 1, slots := 6, locals := 132 }) (HP D ad cI cL cR cB cD (u, o, d) [.ref (ad 33), .int (x1), .ref (ad 34)] sz) (va_Qi (HPost t vl.toInt64 n2 B2 y2 f) (HB D ad cI cL cR cD) (gA 36 ad sz)) 1 6 (gA 36 ad sz)) ∧ ∀ sz, Met l yX7_put wsX7_put ({ frames := 1, cells := 0, slots := 0, locals := 21 }) (MP D am cI cL cB v [.ref (am 0), .int (x1)] sz) (va_Qi (MPost t vl n2 B2 y2 f) (MB D am cI cL cB) (gA 12 am sz)) 0 0 (gA 12 am sz) := by
  rcases bd (k := 64) (by decide) x1 with hf | ⟨k, hk, rfl⟩
  · exact ⟨1, nI 0, n, B, x, v.1 0 11, by decide, fun sz => z_pI (hp_t (by decide) (JI_q hJ)) (h_put_t1 l D ad cI cL cR cB cD hI u o d (x1) (c_X6_put_x1 l hst0 D ad cI cL cR (gI_n (by decide) hI) u x1 hf) sz), c_X7_put_x1 l D am cI cL cB hIm v n B (JI_B hJ) x (JI_x hJ) hJ.2.1 x1 hf⟩
  · have hpp : 1 ≤ 2 ^ n := Nat.one_le_two_pow
    exact ⟨0, nI (x % 64), n, B, k, 0, by decide, fun sz => z_pI (hp_i rfl (xQ_ps hJ.1 (by omega))) (h_put_ok l D ad cI cL cR cB cD hI u o d (nI k) _ (c_X6_put l D ad cI cL cR (gI_n (by decide) hI) u k hk x (JI_8 hJ) (JI_3 hJ)) sz), c_X7_put l D am cI cL cB hIm v n B (JI_B hJ) x (JI_x hJ) hJ.2.1 k hk⟩

set_option maxHeartbeats 1000000 in
theorem lc_change (l : Launch) (hst0 : l.stackTraces = false) (D : va_G) (ad am : Nat → Nat) (cI cL cR cB cD : ClassId) (hI : gI 36 ad) (hIm : gI 12 am) (u v : xS) (o : Nat → Int64) (d : Nat → UInt64) (n : Nat) (B : Nat → Nat → Nat) (x : Nat) (hJ : JI u v n B x) (x1 : Int32) (b : Nat) (hb : b ≤ 1) : ∃ (t : Nat) (vl : Int32) (n2 : Nat) (B2 : Nat → Nat → Nat) (y2 : Nat) (f : Int32), t ≤ 3 ∧ (∀ sz, Met l yL_change wsL_change ({ frames := 8, cells := 1, slots := 6, locals := 132 }) (HP D ad cI cL cR cB cD (u, o, d) [.ref (ad 33), .int (x1), .int (nI b), .ref (ad 34)] sz) (va_Qi (HPost t vl.toInt64 n2 B2 y2 f) (HB D ad cI cL cR cD) (gA 36 ad sz)) 1 6 (gA 36 ad sz)) ∧ ∀ sz, Met l yX7_change wsX7_change ({ frames := 2, cells := 0, slots := 0, locals := 41 }) (MP D am cI cL cB v [.ref (am 0), .int (x1), .int (nI b)] sz) (va_Qi (MPost t vl n2 B2 y2 f) (MB D am cI cL cB) (gA 12 am sz)) 0 0 (gA 12 am sz) := by
  rcases bd (k := 6) (by decide) x1 with hf | ⟨k, hk, rfl⟩
  · exact ⟨1, nI 0, n, B, x, v.1 0 11, by decide, fun sz => z_pI (hp_t (by decide) (JI_q hJ)) (h_change_t1 l D ad cI cL cR cB cD hI u o d (x1) (nI b) (c_X6_change_x1 l hst0 D ad cI cL cR (gI_n (by decide) hI) u x1 hf (nI b)) sz), c_X7_change_x1 l D am cI cL cB hIm v n B (JI_B hJ) x (JI_x hJ) hJ.2.1 x1 hf (nI b)⟩
  · exact ⟨0, nI (chg B x (2 * k + b) / 64), n, B, chg B x (2 * k + b), 0, by decide, fun sz => z_pI (hp_i rfl (xQ_ps hJ.1 (chg_bits (JI_B hJ) (JI_x hJ) (by omega)))) (h_change_ok l D ad cI cL cR cB cD hI u o d (nI k) (nI b) _ (c_X6_change l D ad cI cL cR (gI_n (by decide) hI) u n B (JI_R hJ) x (JI_8 hJ) (JI_3 hJ) k hk b hb) sz), c_X7_change l D am cI cL cB hIm v n B (JI_B hJ) x (JI_x hJ) hJ.2.1 k hk b hb⟩

set_option maxHeartbeats 1000000 in
theorem lc_play (l : Launch) (hst0 : l.stackTraces = false) (D : va_G) (ad am : Nat → Nat) (cI cL cR cB cD : ClassId) (hI : gI 36 ad) (hIm : gI 12 am) (u v : xS) (o : Nat → Int64) (d : Nat → UInt64) (n : Nat) (B : Nat → Nat → Nat) (x : Nat) (hJ : JI u v n B x) (x1 : Int32) : ∃ (t : Nat) (vl : Int32) (n2 : Nat) (B2 : Nat → Nat → Nat) (y2 : Nat) (f : Int32), t ≤ 3 ∧ (∀ sz, Met l yL_play wsL_play ({ frames := 8, cells := 1, slots := 6, locals := 135 }) (HP D ad cI cL cR cB cD (u, o, d) [.ref (ad 33), .int (x1), .ref (ad 34)] sz) (va_Qi (HPost t (if vl = 0 then 0 else 1) n2 B2 y2 f) (HB D ad cI cL cR cD) (gA 36 ad sz)) 1 6 (gA 36 ad sz)) ∧ ∀ sz, Met l yX7_play wsX7_play ({ frames := 2, cells := 0, slots := 0, locals := 50 }) (MP D am cI cL cB v [.ref (am 0), .int (x1)] sz) (va_Qi (MPost t vl n2 B2 y2 f) (MB D am cI cL cB) (gA 12 am sz)) 0 0 (gA 12 am sz) := by
  rcases bd (k := n) (by have := (JI_B hJ).1; omega) x1 with hf | ⟨i, hi, rfl⟩
  · exact ⟨1, nI 0, n, B, x, v.1 0 11, by decide, fun sz => z_pI (hp_t (by decide) (JI_q hJ)) (h_play_t1 l D ad cI cL cR cB cD hI u o d (x1) (c_X6_play_x1 l hst0 D ad cI cL cR (gI_n (by decide) hI) u n B (JI_R hJ) x1 hf) sz), c_X7_play_x1 l D am cI cL cB hIm v n B (JI_B hJ) x (JI_x hJ) hJ.2.1 x1 hf⟩
  · have hi8 : i < 8 := Nat.lt_of_lt_of_le hi (JI_B hJ).1
    cases hrd : rdy1 B i (x / 64)
    · exact ⟨2, nI 0, n, B, x, v.1 0 11, by decide, fun sz => z_pI (hp_t (by decide) (JI_q hJ)) (h_play_t2 l D ad cI cL cR cB cD hI u o d (nI i) (c_X6_play_x2 l hst0 D ad cI cL cR (gI_n (by decide) hI) u n B (JI_R hJ) x (JI_8 hJ) (JI_3 hJ) i hi hrd) sz), c_X7_play_x2 l D am cI cL cB hIm v n B (JI_B hJ) x (JI_x hJ) hJ.2.1 i hi hrd⟩
    · exact ⟨0, (if hol B i (x % 64) = true then 1 else 0), n, B, ply B i x, 0, by decide, fun sz => z_pI (hp_z rfl (xQ_ps hJ.1 (ply_bits (JI_B hJ) hi8 (JI_x hJ)))) (h_play_ok l D ad cI cL cR cB cD hI u o d (nI i) _ (c_X6_play l D ad cI cL cR (gI_n (by decide) hI) u n B (JI_R hJ) x (JI_8 hJ) (JI_3 hJ) i hi hrd) sz), c_X7_play l D am cI cL cB hIm v n B (JI_B hJ) x (JI_x hJ) hJ.2.1 i hi hrd⟩

set_option maxHeartbeats 1000000 in
theorem lc_run (l : Launch) (hst0 : l.stackTraces = false) (D : va_G) (ad am : Nat → Nat) (cI cL cR cB cD : ClassId) (hI : gI 36 ad) (hIm : gI 12 am) (u v : xS) (o : Nat → Int64) (d : Nat → UInt64) (n : Nat) (B : Nat → Nat → Nat) (x : Nat) (hJ : JI u v n B x) (x1 : Int32) : ∃ (t : Nat) (vl : Int32) (n2 : Nat) (B2 : Nat → Nat → Nat) (y2 : Nat) (f : Int32), t ≤ 3 ∧ (∀ sz, Met l yL_run wsL_run ({ frames := 7, cells := 1, slots := 6, locals := 113 }) (HP D ad cI cL cR cB cD (u, o, d) [.ref (ad 33), .int (x1), .ref (ad 34)] sz) (va_Qi (HPost t vl.toInt64 n2 B2 y2 f) (HB D ad cI cL cR cD) (gA 36 ad sz)) 1 6 (gA 36 ad sz)) ∧ ∀ sz, Met l yX7_run wsX7_run ({ frames := 2, cells := 0, slots := 0, locals := 50 }) (MP D am cI cL cB v [.ref (am 0), .int (x1)] sz) (va_Qi (MPost t vl n2 B2 y2 f) (MB D am cI cL cB) (gA 12 am sz)) 0 0 (gA 12 am sz) := by
  rcases bd (k := 501) (by decide) x1 with hf | ⟨mo, hmo, rfl⟩
  · exact ⟨1, nI 0, n, B, x, v.1 0 11, by decide, fun sz => z_pI (hp_t (by decide) (JI_q hJ)) (h_run_t1 l D ad cI cL cR cB cD hI u o d (x1) (c_X6_run_x l hst0 D ad cI cL cR (gI_n (by decide) hI) u x1 hf) sz), c_X7_run_x1 l D am cI cL cB hIm v n B (JI_B hJ) x (JI_x hJ) hJ.2.1 x1 hf⟩
  · obtain ⟨k, hk, hg, he⟩ := run_ex B x mo
    refine ⟨0, nI k, n, B, runX B x k, 0, by decide, fun sz => z_pI (fun r s hp => ?_) (h_run_ok l D ad cI cL cR cB cD hI u o d (nI mo) _ (c_X6_run l D ad cI cL cR (gI_n (by decide) hI) u n B (JI_R hJ) x (JI_8 hJ) (JI_3 hJ) mo (by omega)) sz), fun sz => z_pI (fun r w hp => ?_) (c_X7_run l D am cI cL cB hIm v n B (JI_B hJ) x (JI_x hJ) hJ.2.1 mo (by omega) sz)⟩
    · obtain ⟨a, b, ⟨k', p1, p2, p3, p4, p5, p6⟩, c⟩ := hp
      have e : k' = k := runX_one p1 hk p2 hg p3 he
      subst e
      exact ⟨a, fun _ => by rw [c, p4], xQ_t hJ.1 p6 (runX_bits (JI_B hJ) (JI_x hJ) k' hg) p5⟩
    · obtain ⟨k', p1, p2, p3, p4, p5, p6⟩ := hp
      have e : k' = k := runX_one p1 hk p2 hg p3 he
      subst e
      exact ⟨p4, p5, p6⟩

set_option maxHeartbeats 1000000 in
theorem lc_factsOf (l : Launch) (hst0 : l.stackTraces = false) (D : va_G) (ad am : Nat → Nat) (cI cL cR cB cD : ClassId) (hI : gI 36 ad) (hIm : gI 12 am) (u v : xS) (o : Nat → Int64) (d : Nat → UInt64) (n : Nat) (B : Nat → Nat → Nat) (x : Nat) (hJ : JI u v n B x) (x1 : Int32) : ∃ (t : Nat) (vl : Int32) (n2 : Nat) (B2 : Nat → Nat → Nat) (y2 : Nat) (f : Int32), t ≤ 3 ∧ (∀ sz, Met l yL_factsOf wsL_factsOf ({ frames := 9, cells := 1, slots := 6, locals := 153 }) (HP D ad cI cL cR cB cD (u, o, d) [.ref (ad 33), .int (x1), .ref (ad 34)] sz) (va_Qi (HPost t vl.toInt64 n2 B2 y2 f) (HB D ad cI cL cR cD) (gA 36 ad sz)) 1 6 (gA 36 ad sz)) ∧ ∀ sz, Met l yX7_factsOf wsX7_factsOf ({ frames := 2, cells := 0, slots := 0, locals := 42 }) (MP D am cI cL cB v [.ref (am 0), .int (x1)] sz) (va_Qi (MPost t vl n2 B2 y2 f) (MB D am cI cL cB) (gA 12 am sz)) 0 0 (gA 12 am sz) := by
  rcases JI_ask hJ with ⟨hNE, hNo⟩ | ⟨k0, hE, hto, ⟨h8, h9, hD⟩, hW⟩
  · exact ⟨1, nI 0, n, B, x, v.1 0 11, by decide, fun sz => z_pI (hp_t (by decide) (JI_q hJ)) (h_factsOf_t1 l D ad cI cL cR cB cD hI u o d (x1) (c_X6_factsOf_x1 l hst0 D ad cI cL cR (gI_n (by decide) hI) u hNE x1) sz), c_X7_factsOf_x1 l D am cI cL cB hIm v n B (JI_B hJ) x (JI_x hJ) hJ.2.1 hNo x1⟩
  · have hK := bfs_ok (JI_B hJ) (JI_x hJ) k0 hE.1
    have hcc := bEnd_c (JI_B hJ) (JI_x hJ) hE hto
    obtain ⟨hg, hDp, hkey, hz8, hEn⟩ := bfs_all (JI_B hJ) (JI_x hJ) hE hto
    have hp8 := pn8 (JI_B hJ).1
    have hkR := hD.2.2.2 hto
    rcases bd (k := (bfs B x k0).2.2.2.1) (by have := hK.2.1; omega) x1 with hf | ⟨k, hk, rfl⟩
    · exact ⟨2, nI 0, n, B, x, v.1 0 11, by decide, fun sz => z_pI (hp_t (by decide) (JI_q hJ)) (h_factsOf_t2 l D ad cI cL cR cB cD hI u o d (x1) (c_X6_factsOf_x2 l hst0 D ad cI cL cR (gI_n (by decide) hI) u h8 h9 (bfs B x k0).2.2.2.1 hK.2.1 hD.2.1.1 x1 hf) sz), c_X7_factsOf_x2 l D am cI cL cB hIm v n B (JI_B hJ) x (JI_x hJ) hJ.2.1 (bfs B x k0).2.2.2.1 (bfs B x k0).1 (bfs B x k0).2.2.1 hW x1 hf⟩
    · exact ⟨0, nI ((bfs B x k0).1 k % 64), n, B, x, v.1 0 11, by decide, fun sz => z_pI (hp_i rfl (JI_q hJ)) (h_factsOf_ok l D ad cI cL cR cB cD hI u o d (nI k) _ (c_X6_factsOf l D ad cI cL cR (gI_n (by decide) hI) u h8 h9 (bfs B x k0).2.2.2.1 hK.2.1 hD.2.1.1 k hk ((bfs B x k0).1 k) (by have := hK.2.2.1 k hk; omega) (hD.2.1.2.2.1 k hk).1) sz), c_X7_factsOf l D am cI cL cB hIm v n B (JI_B hJ) x (JI_x hJ) hJ.2.1 (bfs B x k0).2.2.2.1 (bfs B x k0).1 (bfs B x k0).2.2.1 hW k hk⟩

set_option maxHeartbeats 1000000 in
theorem lc_triggeredOf (l : Launch) (hst0 : l.stackTraces = false) (D : va_G) (ad am : Nat → Nat) (cI cL cR cB cD : ClassId) (hI : gI 36 ad) (hIm : gI 12 am) (u v : xS) (o : Nat → Int64) (d : Nat → UInt64) (n : Nat) (B : Nat → Nat → Nat) (x : Nat) (hJ : JI u v n B x) (x1 : Int32) : ∃ (t : Nat) (vl : Int32) (n2 : Nat) (B2 : Nat → Nat → Nat) (y2 : Nat) (f : Int32), t ≤ 3 ∧ (∀ sz, Met l yL_triggeredOf wsL_triggeredOf ({ frames := 9, cells := 1, slots := 6, locals := 153 }) (HP D ad cI cL cR cB cD (u, o, d) [.ref (ad 33), .int (x1), .ref (ad 34)] sz) (va_Qi (HPost t vl.toInt64 n2 B2 y2 f) (HB D ad cI cL cR cD) (gA 36 ad sz)) 1 6 (gA 36 ad sz)) ∧ ∀ sz, Met l yX7_triggeredOf wsX7_triggeredOf ({ frames := 2, cells := 0, slots := 0, locals := 42 }) (MP D am cI cL cB v [.ref (am 0), .int (x1)] sz) (va_Qi (MPost t vl n2 B2 y2 f) (MB D am cI cL cB) (gA 12 am sz)) 0 0 (gA 12 am sz) := by
  rcases JI_ask hJ with ⟨hNE, hNo⟩ | ⟨k0, hE, hto, ⟨h8, h9, hD⟩, hW⟩
  · exact ⟨1, nI 0, n, B, x, v.1 0 11, by decide, fun sz => z_pI (hp_t (by decide) (JI_q hJ)) (h_triggeredOf_t1 l D ad cI cL cR cB cD hI u o d (x1) (c_X6_triggeredOf_x1 l hst0 D ad cI cL cR (gI_n (by decide) hI) u hNE x1) sz), c_X7_triggeredOf_x1 l D am cI cL cB hIm v n B (JI_B hJ) x (JI_x hJ) hJ.2.1 hNo x1⟩
  · have hK := bfs_ok (JI_B hJ) (JI_x hJ) k0 hE.1
    have hcc := bEnd_c (JI_B hJ) (JI_x hJ) hE hto
    obtain ⟨hg, hDp, hkey, hz8, hEn⟩ := bfs_all (JI_B hJ) (JI_x hJ) hE hto
    have hp8 := pn8 (JI_B hJ).1
    have hkR := hD.2.2.2 hto
    rcases bd (k := (bfs B x k0).2.2.2.1) (by have := hK.2.1; omega) x1 with hf | ⟨k, hk, rfl⟩
    · exact ⟨2, nI 0, n, B, x, v.1 0 11, by decide, fun sz => z_pI (hp_t (by decide) (JI_q hJ)) (h_triggeredOf_t2 l D ad cI cL cR cB cD hI u o d (x1) (c_X6_triggeredOf_x2 l hst0 D ad cI cL cR (gI_n (by decide) hI) u h8 h9 (bfs B x k0).2.2.2.1 hK.2.1 hD.2.1.1 x1 hf) sz), c_X7_triggeredOf_x2 l D am cI cL cB hIm v n B (JI_B hJ) x (JI_x hJ) hJ.2.1 (bfs B x k0).2.2.2.1 (bfs B x k0).1 (bfs B x k0).2.2.1 hW x1 hf⟩
    · exact ⟨0, nI ((bfs B x k0).1 k / 64), n, B, x, v.1 0 11, by decide, fun sz => z_pI (hp_i rfl (JI_q hJ)) (h_triggeredOf_ok l D ad cI cL cR cB cD hI u o d (nI k) _ (c_X6_triggeredOf l D ad cI cL cR (gI_n (by decide) hI) u h8 h9 (bfs B x k0).2.2.2.1 hK.2.1 hD.2.1.1 k hk ((bfs B x k0).1 k) (by have := hK.2.2.1 k hk; omega) (hD.2.1.2.2.1 k hk).1) sz), c_X7_triggeredOf l D am cI cL cB hIm v n B (JI_B hJ) x (JI_x hJ) hJ.2.1 (bfs B x k0).2.2.2.1 (bfs B x k0).1 (bfs B x k0).2.2.1 hW k hk⟩

set_option maxHeartbeats 1000000 in
theorem lc_after (l : Launch) (hst0 : l.stackTraces = false) (D : va_G) (ad am : Nat → Nat) (cI cL cR cB cD : ClassId) (hI : gI 36 ad) (hIm : gI 12 am) (u v : xS) (o : Nat → Int64) (d : Nat → UInt64) (n : Nat) (B : Nat → Nat → Nat) (x : Nat) (hJ : JI u v n B x) (x1 : Int32) (x2 : Int32) : ∃ (t : Nat) (vl : Int32) (n2 : Nat) (B2 : Nat → Nat → Nat) (y2 : Nat) (f : Int32), t ≤ 3 ∧ (∀ sz, Met l yL_after wsL_after ({ frames := 9, cells := 1, slots := 6, locals := 154 }) (HP D ad cI cL cR cB cD (u, o, d) [.ref (ad 33), .int (x1), .int (x2), .ref (ad 34)] sz) (va_Qi (HPost t vl.toInt64 n2 B2 y2 f) (HB D ad cI cL cR cD) (gA 36 ad sz)) 1 6 (gA 36 ad sz)) ∧ ∀ sz, Met l yX7_after wsX7_after ({ frames := 2, cells := 0, slots := 0, locals := 42 }) (MP D am cI cL cB v [.ref (am 0), .int (x1), .int (x2)] sz) (va_Qi (MPost t vl n2 B2 y2 f) (MB D am cI cL cB) (gA 12 am sz)) 0 0 (gA 12 am sz) := by
  rcases JI_ask hJ with ⟨hNE, hNo⟩ | ⟨k0, hE, hto, ⟨h8, h9, hD⟩, hW⟩
  · exact ⟨1, nI 0, n, B, x, v.1 0 11, by decide, fun sz => z_pI (hp_t (by decide) (JI_q hJ)) (h_after_t1 l D ad cI cL cR cB cD hI u o d (x1) (x2) (c_X6_after_x1 l hst0 D ad cI cL cR (gI_n (by decide) hI) u hNE x1 x2) sz), c_X7_after_x1 l D am cI cL cB hIm v n B (JI_B hJ) x (JI_x hJ) hJ.2.1 hNo x1 x2⟩
  · have hK := bfs_ok (JI_B hJ) (JI_x hJ) k0 hE.1
    have hcc := bEnd_c (JI_B hJ) (JI_x hJ) hE hto
    obtain ⟨hg, hDp, hkey, hz8, hEn⟩ := bfs_all (JI_B hJ) (JI_x hJ) hE hto
    have hp8 := pn8 (JI_B hJ).1
    have hkR := hD.2.2.2 hto
    rcases bd (k := (bfs B x k0).2.2.2.1) (by have := hK.2.1; omega) x1 with hf | ⟨k, hk, rfl⟩
    · exact ⟨2, nI 0, n, B, x, v.1 0 11, by decide, fun sz => z_pI (hp_t (by decide) (JI_q hJ)) (h_after_t2 l D ad cI cL cR cB cD hI u o d (x1) (x2) (c_X6_after_x2 l hst0 D ad cI cL cR (gI_n (by decide) hI) u h8 h9 (bfs B x k0).2.2.2.1 hK.2.1 hD.2.1.1 x1 hf x2) sz), c_X7_after_x2 l D am cI cL cB hIm v n B (JI_B hJ) x (JI_x hJ) hJ.2.1 (bfs B x k0).2.2.2.1 (bfs B x k0).1 (bfs B x k0).2.2.1 hW x1 hf x2⟩
    · rcases bd (k := n) (by have := (JI_B hJ).1; omega) x2 with hf | ⟨i, hi, rfl⟩
      · exact ⟨2, nI 0, n, B, x, v.1 0 11, by decide, fun sz => z_pI (hp_t (by decide) (JI_q hJ)) (h_after_t2 l D ad cI cL cR cB cD hI u o d (nI k) (x2) (c_X6_after_x3 l hst0 D ad cI cL cR (gI_n (by decide) hI) u h8 h9 (bfs B x k0).2.2.2.1 hK.2.1 hD.2.1.1 k hk ((bfs B x k0).1 k) (by have := hK.2.2.1 k hk; omega) (hD.2.1.2.2.1 k hk).1 n B (JI_R hJ) x2 hf) sz), c_X7_after_x3 l D am cI cL cB hIm v n B (JI_B hJ) x (JI_x hJ) hJ.2.1 (bfs B x k0).2.2.2.1 (bfs B x k0).1 (bfs B x k0).2.2.1 hW k hk x2 hf⟩
      · have hi8 : i < 8 := Nat.lt_of_lt_of_le hi (JI_B hJ).1
        exact ⟨0, nxI ((bfs B x k0).2.2.1 (8 * k + i)), n, B, x, v.1 0 11, by decide, fun sz => z_pI (hp_i (by rw [Nat.mul_comm k 8]; exact hD.2.1.2.2.2.1 _ (by omega)) (JI_q hJ)) (h_after_ok l D ad cI cL cR cB cD hI u o d (nI k) (nI i) _ (c_X6_after l D ad cI cL cR (gI_n (by decide) hI) u h8 h9 (bfs B x k0).2.2.2.1 hK.2.1 hD.2.1.1 k hk ((bfs B x k0).1 k) (by have := hK.2.2.1 k hk; omega) (hD.2.1.2.2.1 k hk).1 n B (JI_R hJ) i hi) sz), c_X7_after l D am cI cL cB hIm v n B (JI_B hJ) x (JI_x hJ) hJ.2.1 (bfs B x k0).2.2.2.1 (bfs B x k0).1 (bfs B x k0).2.2.1 hW k hk i hi⟩

set_option maxHeartbeats 1000000 in
theorem lc_terminates (l : Launch) (hst0 : l.stackTraces = false) (D : va_G) (ad am : Nat → Nat) (cI cL cR cB cD : ClassId) (hI : gI 36 ad) (hIm : gI 12 am) (u v : xS) (o : Nat → Int64) (d : Nat → UInt64) (n : Nat) (B : Nat → Nat → Nat) (x : Nat) (hJ : JI u v n B x) : ∃ (t : Nat) (vl : Int32) (n2 : Nat) (B2 : Nat → Nat → Nat) (y2 : Nat) (f : Int32), t ≤ 3 ∧ (∀ sz, Met l yL_terminates wsL_terminates ({ frames := 8, cells := 1, slots := 6, locals := 130 }) (HP D ad cI cL cR cB cD (u, o, d) [.ref (ad 33), .ref (ad 34)] sz) (va_Qi (HPost t (if vl = 0 then 0 else 1) n2 B2 y2 f) (HB D ad cI cL cR cD) (gA 36 ad sz)) 1 6 (gA 36 ad sz)) ∧ ∀ sz, Met l yX7_terminates wsX7_terminates ({ frames := 3, cells := 0, slots := 0, locals := 65 }) (MP D am cI cL cB v [.ref (am 0)] sz) (va_Qi (MPost t vl n2 B2 y2 f) (MB D am cI cL cB) (gA 12 am sz)) 0 0 (gA 12 am sz) := by
  rcases JI_ask hJ with ⟨hNE, hNo⟩ | ⟨k0, hE, hto, ⟨h8, h9, hD⟩, hW⟩
  · exact ⟨1, nI 0, n, B, x, v.1 0 11, by decide, fun sz => z_pI (hp_t (by decide) (JI_q hJ)) (h_terminates_t1 l D ad cI cL cR cB cD hI u o d  (c_X6_terminates_x l hst0 D ad cI cL cR (gI_n (by decide) hI) u hNE) sz), c_X7_terminates_x1 l D am cI cL cB hIm v n B (JI_B hJ) x (JI_x hJ) hJ.2.1 hNo⟩
  · have hK := bfs_ok (JI_B hJ) (JI_x hJ) k0 hE.1
    have hcc := bEnd_c (JI_B hJ) (JI_x hJ) hE hto
    obtain ⟨hg, hDp, hkey, hz8, hEn⟩ := bfs_all (JI_B hJ) (JI_x hJ) hE hto
    have hp8 := pn8 (JI_B hJ).1
    have hkR := hD.2.2.2 hto
    refine ⟨0, u.1 28 5, n, B, x, v.1 0 11, by decide, fun sz => z_pI (hp_z rfl (JI_q hJ)) (h_terminates_ok l D ad cI cL cR cB cD hI u o d _ (c_X6_terminates l D ad cI cL cR (gI_n (by decide) hI) u h8 h9 (by rcases hkR with h | h; exact Or.inr h.1; exact Or.inl h.1)) sz), fun sz => z_pI (fun r w hp => ?_) (c_X7_terminates l D am cI cL cB hIm v n B (JI_B hJ) x (JI_x hJ) hJ.2.1 (bfs B x k0).2.2.2.1 (bfs B x k0).1 (bfs B x k0).2.2.1 hW hg hEn hz8 sz)⟩
    obtain ⟨⟨t, L, W, hm, hr⟩, h0, hq⟩ := hp
    refine ⟨?_, h0, hq⟩
    rw [hr]
    rcases mFin_k hkR hm with ⟨e1, e2, e3, e4⟩ | ⟨e1, e2⟩
    · rw [e1, e2]; rfl
    · rw [e1, e2]; rfl

set_option maxHeartbeats 1000000 in
theorem lc_longest (l : Launch) (hst0 : l.stackTraces = false) (D : va_G) (ad am : Nat → Nat) (cI cL cR cB cD : ClassId) (hI : gI 36 ad) (hIm : gI 12 am) (u v : xS) (o : Nat → Int64) (d : Nat → UInt64) (n : Nat) (B : Nat → Nat → Nat) (x : Nat) (hJ : JI u v n B x) : ∃ (t : Nat) (vl : Int32) (n2 : Nat) (B2 : Nat → Nat → Nat) (y2 : Nat) (f : Int32), t ≤ 3 ∧ (∀ sz, Met l yL_longest wsL_longest ({ frames := 8, cells := 1, slots := 6, locals := 130 }) (HP D ad cI cL cR cB cD (u, o, d) [.ref (ad 33), .ref (ad 34)] sz) (va_Qi (HPost t vl.toInt64 n2 B2 y2 f) (HB D ad cI cL cR cD) (gA 36 ad sz)) 1 6 (gA 36 ad sz)) ∧ ∀ sz, Met l yX7_longest wsX7_longest ({ frames := 3, cells := 0, slots := 0, locals := 65 }) (MP D am cI cL cB v [.ref (am 0)] sz) (va_Qi (MPost t vl n2 B2 y2 f) (MB D am cI cL cB) (gA 12 am sz)) 0 0 (gA 12 am sz) := by
  rcases JI_ask hJ with ⟨hNE, hNo⟩ | ⟨k0, hE, hto, ⟨h8, h9, hD⟩, hW⟩
  · exact ⟨1, nI 0, n, B, x, v.1 0 11, by decide, fun sz => z_pI (hp_t (by decide) (JI_q hJ)) (h_longest_t1 l D ad cI cL cR cB cD hI u o d  (c_X6_longest_x l hst0 D ad cI cL cR (gI_n (by decide) hI) u hNE) sz), c_X7_longest_x1 l D am cI cL cB hIm v n B (JI_B hJ) x (JI_x hJ) hJ.2.1 hNo⟩
  · have hK := bfs_ok (JI_B hJ) (JI_x hJ) k0 hE.1
    have hcc := bEnd_c (JI_B hJ) (JI_x hJ) hE hto
    obtain ⟨hg, hDp, hkey, hz8, hEn⟩ := bfs_all (JI_B hJ) (JI_x hJ) hE hto
    have hp8 := pn8 (JI_B hJ).1
    have hkR := hD.2.2.2 hto
    refine ⟨0, (if u.1 28 5 = 0 then -1 else u.1 28 6), n, B, x, v.1 0 11, by decide, fun sz => z_pI (hp_i rfl (JI_q hJ)) (h_longest_ok l D ad cI cL cR cB cD hI u o d _ (c_X6_longest l D ad cI cL cR (gI_n (by decide) hI) u h8 h9) sz), fun sz => z_pI (fun r w hp => ?_) (c_X7_longest l D am cI cL cB hIm v n B (JI_B hJ) x (JI_x hJ) hJ.2.1 (bfs B x k0).2.2.2.1 (bfs B x k0).1 (bfs B x k0).2.2.1 hW hg hEn hz8 sz)⟩
    obtain ⟨⟨t, L, W, hm, hr⟩, h0, hq⟩ := hp
    refine ⟨?_, h0, hq⟩
    rw [hr]
    rcases mFin_k hkR hm with ⟨e1, e2, e3, e4⟩ | ⟨e1, e2⟩
    · rw [e1, e2, if_neg (by decide), if_neg (by decide)]; exact e3.symm
    · rw [e1, e2, if_pos rfl, if_pos rfl]

set_option maxHeartbeats 1000000 in
theorem lc_ways (l : Launch) (hst0 : l.stackTraces = false) (D : va_G) (ad am : Nat → Nat) (cI cL cR cB cD : ClassId) (hI : gI 36 ad) (hIm : gI 12 am) (u v : xS) (o : Nat → Int64) (d : Nat → UInt64) (n : Nat) (B : Nat → Nat → Nat) (x : Nat) (hJ : JI u v n B x) : ∃ (t : Nat) (vl : Int64) (n2 : Nat) (B2 : Nat → Nat → Nat) (y2 : Nat) (f : Int32), t ≤ 3 ∧ (∀ sz, Met l yL_ways wsL_ways ({ frames := 8, cells := 1, slots := 6, locals := 130 }) (HP D ad cI cL cR cB cD (u, o, d) [.ref (ad 33), .ref (ad 34)] sz) (va_Qi (HPost t vl n2 B2 y2 f) (HB D ad cI cL cR cD) (gA 36 ad sz)) 1 6 (gA 36 ad sz)) ∧ ∀ sz, Met l yX7_ways wsX7_ways ({ frames := 3, cells := 0, slots := 0, locals := 65 }) (MP D am cI cL cB v [.ref (am 0)] sz) (va_Ql (MPost t vl n2 B2 y2 f) (MB D am cI cL cB) (gA 12 am sz)) 0 0 (gA 12 am sz) := by
  rcases JI_ask hJ with ⟨hNE, hNo⟩ | ⟨k0, hE, hto, ⟨h8, h9, hD⟩, hW⟩
  · exact ⟨1, 0, n, B, x, v.1 0 11, by decide, fun sz => z_pI (hp_t (by decide) (JI_q hJ)) (h_ways_t1 l D ad cI cL cR cB cD hI u o d  (c_X6_ways_x l hst0 D ad cI cL cR (gI_n (by decide) hI) u hNE) sz), c_X7_ways_x1 l D am cI cL cB hIm v n B (JI_B hJ) x (JI_x hJ) hJ.2.1 hNo⟩
  · have hK := bfs_ok (JI_B hJ) (JI_x hJ) k0 hE.1
    have hcc := bEnd_c (JI_B hJ) (JI_x hJ) hE hto
    obtain ⟨hg, hDp, hkey, hz8, hEn⟩ := bfs_all (JI_B hJ) (JI_x hJ) hE hto
    have hp8 := pn8 (JI_B hJ).1
    have hkR := hD.2.2.2 hto
    refine ⟨0, (if u.1 28 5 = 0 then -1 else u.2 28 7), n, B, x, v.1 0 11, by decide, fun sz => z_pI (hp_l rfl (JI_q hJ)) (h_ways_ok l D ad cI cL cR cB cD hI u o d _ (c_X6_ways l D ad cI cL cR (gI_n (by decide) hI) u h8 h9) sz), fun sz => z_pL (fun r w hp => ?_) (c_X7_ways l D am cI cL cB hIm v n B (JI_B hJ) x (JI_x hJ) hJ.2.1 (bfs B x k0).2.2.2.1 (bfs B x k0).1 (bfs B x k0).2.2.1 hW hg hEn hz8 sz)⟩
    obtain ⟨⟨t, L, W, hm, hr⟩, h0, hq⟩ := hp
    refine ⟨?_, h0, hq⟩
    rw [hr]
    rcases mFin_k hkR hm with ⟨e1, e2, e3, e4⟩ | ⟨e1, e2⟩
    · rw [e1, e2, if_neg (by decide), if_neg (by decide)]; exact e4.symm
    · rw [e1, e2, if_pos rfl, if_pos rfl]

set_option maxHeartbeats 1000000 in
theorem lc_endCount (l : Launch) (hst0 : l.stackTraces = false) (D : va_G) (ad am : Nat → Nat) (cI cL cR cB cD : ClassId) (hI : gI 36 ad) (hIm : gI 12 am) (u v : xS) (o : Nat → Int64) (d : Nat → UInt64) (n : Nat) (B : Nat → Nat → Nat) (x : Nat) (hJ : JI u v n B x) : ∃ (t : Nat) (vl : Int32) (n2 : Nat) (B2 : Nat → Nat → Nat) (y2 : Nat) (f : Int32), t ≤ 3 ∧ (∀ sz, Met l yL_endCount wsL_endCount ({ frames := 8, cells := 1, slots := 6, locals := 130 }) (HP D ad cI cL cR cB cD (u, o, d) [.ref (ad 33), .ref (ad 34)] sz) (va_Qi (HPost t vl.toInt64 n2 B2 y2 f) (HB D ad cI cL cR cD) (gA 36 ad sz)) 1 6 (gA 36 ad sz)) ∧ ∀ sz, Met l yX7_endCount wsX7_endCount ({ frames := 2, cells := 0, slots := 0, locals := 42 }) (MP D am cI cL cB v [.ref (am 0)] sz) (va_Qi (MPost t vl n2 B2 y2 f) (MB D am cI cL cB) (gA 12 am sz)) 0 0 (gA 12 am sz) := by
  rcases JI_ask hJ with ⟨hNE, hNo⟩ | ⟨k0, hE, hto, ⟨h8, h9, hD⟩, hW⟩
  · exact ⟨1, nI 0, n, B, x, v.1 0 11, by decide, fun sz => z_pI (hp_t (by decide) (JI_q hJ)) (h_endCount_t1 l D ad cI cL cR cB cD hI u o d  (c_X6_endCount_x l hst0 D ad cI cL cR (gI_n (by decide) hI) u hNE) sz), c_X7_endCount_x1 l D am cI cL cB hIm v n B (JI_B hJ) x (JI_x hJ) hJ.2.1 hNo⟩
  · have hK := bfs_ok (JI_B hJ) (JI_x hJ) k0 hE.1
    have hcc := bEnd_c (JI_B hJ) (JI_x hJ) hE hto
    obtain ⟨hg, hDp, hkey, hz8, hEn⟩ := bfs_all (JI_B hJ) (JI_x hJ) hE hto
    have hp8 := pn8 (JI_B hJ).1
    have hkR := hD.2.2.2 hto
    exact ⟨0, nI (fb_ct (isE (bfs B x k0).1) (bfs B x k0).2.2.2.1), n, B, x, v.1 0 11, by decide, fun sz => z_pI (hp_i (by rw [hD.2.2.1.2.2.1, hcc]) (JI_q hJ)) (h_endCount_ok l D ad cI cL cR cB cD hI u o d  _ (c_X6_endCount l D ad cI cL cR (gI_n (by decide) hI) u h8 h9) sz), c_X7_endCount l D am cI cL cB hIm v n B (JI_B hJ) x (JI_x hJ) hJ.2.1 (bfs B x k0).2.2.2.1 (bfs B x k0).1 (bfs B x k0).2.2.1 hW⟩

set_option maxHeartbeats 1000000 in
theorem lc_shortest (l : Launch) (hst0 : l.stackTraces = false) (D : va_G) (ad am : Nat → Nat) (cI cL cR cB cD : ClassId) (hI : gI 36 ad) (hIm : gI 12 am) (u v : xS) (o : Nat → Int64) (d : Nat → UInt64) (n : Nat) (B : Nat → Nat → Nat) (x : Nat) (hJ : JI u v n B x) : ∃ (t : Nat) (vl : Int32) (n2 : Nat) (B2 : Nat → Nat → Nat) (y2 : Nat) (f : Int32), t ≤ 3 ∧ (∀ sz, Met l yL_shortest wsL_shortest ({ frames := 8, cells := 1, slots := 6, locals := 130 }) (HP D ad cI cL cR cB cD (u, o, d) [.ref (ad 33), .ref (ad 34)] sz) (va_Qi (HPost t vl.toInt64 n2 B2 y2 f) (HB D ad cI cL cR cD) (gA 36 ad sz)) 1 6 (gA 36 ad sz)) ∧ ∀ sz, Met l yX7_shortest wsX7_shortest ({ frames := 2, cells := 1, slots := 1000, locals := 42 }) (MP D am cI cL cB v [.ref (am 0)] sz) (va_Qi (MPost t vl n2 B2 y2 f) (MB D am cI cL cB) (gA 12 am sz)) 1 1000 (gA 12 am sz) := by
  rcases JI_ask hJ with ⟨hNE, hNo⟩ | ⟨k0, hE, hto, ⟨h8, h9, hD⟩, hW⟩
  · exact ⟨1, nI 0, n, B, x, v.1 0 11, by decide, fun sz => z_pI (hp_t (by decide) (JI_q hJ)) (h_shortest_t1 l D ad cI cL cR cB cD hI u o d  (c_X6_shortest_x l hst0 D ad cI cL cR (gI_n (by decide) hI) u hNE) sz), c_X7_shortest_x1 l D am cI cL cB hIm v n B (JI_B hJ) x (JI_x hJ) hJ.2.1 hNo⟩
  · have hK := bfs_ok (JI_B hJ) (JI_x hJ) k0 hE.1
    have hcc := bEnd_c (JI_B hJ) (JI_x hJ) hE hto
    obtain ⟨hg, hDp, hkey, hz8, hEn⟩ := bfs_all (JI_B hJ) (JI_x hJ) hE hto
    have hp8 := pn8 (JI_B hJ).1
    have hkR := hD.2.2.2 hto
    exact ⟨0, (if fb_ct (isE (bfs B x k0).1) (bfs B x k0).2.2.2.1 = 0 then -1 else nI ((bfs B x k0).2.1 (fa_first (isE (bfs B x k0).1) (bfs B x k0).2.2.2.1))), n, B, x, v.1 0 11, by decide, fun sz => z_pI (hp_i (by rw [hD.2.2.1.2.2.2.2, hcc]) (JI_q hJ)) (h_shortest_ok l D ad cI cL cR cB cD hI u o d  _ (c_X6_shortest l D ad cI cL cR (gI_n (by decide) hI) u h8 h9) sz), c_X7_shortest l D am cI cL cB hIm v n B (JI_B hJ) x (JI_x hJ) hJ.2.1 (bfs B x k0).2.2.2.1 (bfs B x k0).1 (bfs B x k0).2.2.1 hW (bfs B x k0).2.1 hg hDp hz8⟩

set_option maxHeartbeats 1000000 in
theorem lc_end (l : Launch) (hst0 : l.stackTraces = false) (D : va_G) (ad am : Nat → Nat) (cI cL cR cB cD : ClassId) (hI : gI 36 ad) (hIm : gI 12 am) (u v : xS) (o : Nat → Int64) (d : Nat → UInt64) (n : Nat) (B : Nat → Nat → Nat) (x : Nat) (hJ : JI u v n B x) (x1 : Int32) : ∃ (t : Nat) (vl : Int32) (n2 : Nat) (B2 : Nat → Nat → Nat) (y2 : Nat) (f : Int32), t ≤ 3 ∧ (∀ sz, Met l yL_end wsL_end ({ frames := 8, cells := 1, slots := 6, locals := 132 }) (HP D ad cI cL cR cB cD (u, o, d) [.ref (ad 33), .int (x1), .ref (ad 34)] sz) (va_Qi (HPost t vl.toInt64 n2 B2 y2 f) (HB D ad cI cL cR cD) (gA 36 ad sz)) 1 6 (gA 36 ad sz)) ∧ ∀ sz, Met l yX7_end wsX7_end ({ frames := 3, cells := 0, slots := 0, locals := 64 }) (MP D am cI cL cB v [.ref (am 0), .int (x1)] sz) (va_Qi (MPost t vl n2 B2 y2 f) (MB D am cI cL cB) (gA 12 am sz)) 0 0 (gA 12 am sz) := by
  rcases JI_ask hJ with ⟨hNE, hNo⟩ | ⟨k0, hE, hto, ⟨h8, h9, hD⟩, hW⟩
  · exact ⟨1, nI 0, n, B, x, v.1 0 11, by decide, fun sz => z_pI (hp_t (by decide) (JI_q hJ)) (h_end_t1 l D ad cI cL cR cB cD hI u o d (x1) (c_X6_end_x1 l hst0 D ad cI cL cR (gI_n (by decide) hI) u hNE x1) sz), c_X7_end_x1 l D am cI cL cB hIm v n B (JI_B hJ) x (JI_x hJ) hJ.2.1 hNo x1⟩
  · have hK := bfs_ok (JI_B hJ) (JI_x hJ) k0 hE.1
    have hcc := bEnd_c (JI_B hJ) (JI_x hJ) hE hto
    obtain ⟨hg, hDp, hkey, hz8, hEn⟩ := bfs_all (JI_B hJ) (JI_x hJ) hE hto
    have hp8 := pn8 (JI_B hJ).1
    have hkR := hD.2.2.2 hto
    have he64 : (fb_ct (isE (bfs B x k0).1) (bfs B x k0).2.2.2.1) ≤ 64 := ends_le hK
    have hu1 : u.1 26 1 = nI (fb_ct (isE (bfs B x k0).1) (bfs B x k0).2.2.2.1) := by rw [hD.2.2.1.2.2.1, hcc]
    rcases bd (k := (fb_ct (isE (bfs B x k0).1) (bfs B x k0).2.2.2.1)) (by omega) x1 with hf | ⟨i, hi, rfl⟩
    · exact ⟨2, nI 0, n, B, x, v.1 0 11, by decide, fun sz => z_pI (hp_t (by decide) (JI_q hJ)) (h_end_t2 l D ad cI cL cR cB cD hI u o d (x1) (c_X6_end_x l hst0 D ad cI cL cR (gI_n (by decide) hI) u h8 h9 (fb_ct (isE (bfs B x k0).1) (bfs B x k0).2.2.2.1) he64 hu1 x1 hf) sz), c_X7_end_x2 l D am cI cL cB hIm v n B (JI_B hJ) x (JI_x hJ) hJ.2.1 (bfs B x k0).2.2.2.1 (bfs B x k0).1 (bfs B x k0).2.2.1 hW x1 hf⟩
    · obtain ⟨j, hj, hp, he⟩ := fb_ct_kth hi
      refine ⟨0, nI ((bfs B x k0).1 j % 64), n, B, x, v.1 0 11, by decide, fun sz => z_pI (hp_i rfl (JI_q hJ)) (h_end_ok l D ad cI cL cR cB cD hI u o d (nI i) _ (c_X6_end l D ad cI cL cR (gI_n (by decide) hI) u h8 h9 (fb_ct (isE (bfs B x k0).1) (bfs B x k0).2.2.2.1) he64 hu1 i hi ((bfs B x k0).1 j % 64) (Nat.mod_lt _ (by decide)) (by rw [← he]; exact hD.2.2.1.2.2.2.1 j (by omega) hp)) sz), fun sz => z_pI (fun r w hq => ?_) (c_X7_end l D am cI cL cB hIm v n B (JI_B hJ) x (JI_x hJ) hJ.2.1 (bfs B x k0).2.2.2.1 (bfs B x k0).1 (bfs B x k0).2.2.1 hW i hi sz)⟩
      obtain ⟨⟨k, k1, k2, k3, k4⟩, h0, hq⟩ := hq
      have e : k = j := fb_ct_kth_one k2 hp (k3.trans he.symm)
      subst e
      exact ⟨k4, h0, hq⟩

set_option maxHeartbeats 1000000 in
theorem lc_isPlayed (l : Launch) (hst0 : l.stackTraces = false) (D : va_G) (ad am : Nat → Nat) (cI cL cR cB cD : ClassId) (hI : gI 36 ad) (hIm : gI 12 am) (u v : xS) (o : Nat → Int64) (d : Nat → UInt64) (n : Nat) (B : Nat → Nat → Nat) (x : Nat) (hJ : JI u v n B x) (x1 : Int32) : ∃ (t : Nat) (vl : Int32) (n2 : Nat) (B2 : Nat → Nat → Nat) (y2 : Nat) (f : Int32), t ≤ 3 ∧ (∀ sz, Met l yL_isPlayed wsL_isPlayed ({ frames := 8, cells := 1, slots := 6, locals := 133 }) (HP D ad cI cL cR cB cD (u, o, d) [.ref (ad 33), .int (x1), .ref (ad 34)] sz) (va_Qi (HPost t (if vl = 0 then 0 else 1) n2 B2 y2 f) (HB D ad cI cL cR cD) (gA 36 ad sz)) 1 6 (gA 36 ad sz)) ∧ ∀ sz, Met l yX7_isPlayed wsX7_isPlayed ({ frames := 2, cells := 0, slots := 0, locals := 42 }) (MP D am cI cL cB v [.ref (am 0), .int (x1)] sz) (va_Qi (MPost t vl n2 B2 y2 f) (MB D am cI cL cB) (gA 12 am sz)) 0 0 (gA 12 am sz) := by
  rcases JI_ask hJ with ⟨hNE, hNo⟩ | ⟨k0, hE, hto, ⟨h8, h9, hD⟩, hW⟩
  · exact ⟨1, nI 0, n, B, x, v.1 0 11, by decide, fun sz => z_pI (hp_t (by decide) (JI_q hJ)) (h_isPlayed_t1 l D ad cI cL cR cB cD hI u o d (x1) (c_X6_isPlayed_x1 l hst0 D ad cI cL cR (gI_n (by decide) hI) u hNE x1) sz), c_X7_isPlayed_x1 l D am cI cL cB hIm v n B (JI_B hJ) x (JI_x hJ) hJ.2.1 hNo x1⟩
  · have hK := bfs_ok (JI_B hJ) (JI_x hJ) k0 hE.1
    have hcc := bEnd_c (JI_B hJ) (JI_x hJ) hE hto
    obtain ⟨hg, hDp, hkey, hz8, hEn⟩ := bfs_all (JI_B hJ) (JI_x hJ) hE hto
    have hp8 := pn8 (JI_B hJ).1
    have hkR := hD.2.2.2 hto
    rcases bd (k := n) (by have := (JI_B hJ).1; omega) x1 with hf | ⟨i, hi, rfl⟩
    · exact ⟨2, nI 0, n, B, x, v.1 0 11, by decide, fun sz => z_pI (hp_t (by decide) (JI_q hJ)) (h_isPlayed_t2 l D ad cI cL cR cB cD hI u o d (x1) (c_X6_isPlayed_x2 l hst0 D ad cI cL cR (gI_n (by decide) hI) u h8 h9 n B (JI_R hJ) x1 hf) sz), c_X7_isPlayed_x2 l D am cI cL cB hIm v n B (JI_B hJ) x (JI_x hJ) hJ.2.1 (bfs B x k0).2.2.2.1 (bfs B x k0).1 (bfs B x k0).2.2.1 hW x1 hf⟩
    · have hi8 : i < 8 := Nat.lt_of_lt_of_le hi (JI_B hJ).1
      exact ⟨0, nI (plb (pyd (bfs B x k0).2.2.1 i) (bfs B x k0).2.2.2.1), n, B, x, v.1 0 11, by decide, fun sz => z_pI (hp_z (by rw [hcc]; exact evr_plb (fun j hj => hkey j (by omega) i hi8)) (JI_q hJ)) (h_isPlayed_ok l D ad cI cL cR cB cD hI u o d (nI i) _ (c_X6_isPlayed l D ad cI cL cR (gI_n (by decide) hI) u h8 h9 n B (JI_R hJ) i hi (evr B (bfs B x k0).1 k0) hD.2.2.1.1) sz), c_X7_isPlayed l D am cI cL cB hIm v n B (JI_B hJ) x (JI_x hJ) hJ.2.1 (bfs B x k0).2.2.2.1 (bfs B x k0).1 (bfs B x k0).2.2.1 hW i hi⟩

set_option maxHeartbeats 1000000 in
theorem lc_choice (l : Launch) (hst0 : l.stackTraces = false) (D : va_G) (ad am : Nat → Nat) (cI cL cR cB cD : ClassId) (hI : gI 36 ad) (hIm : gI 12 am) (u v : xS) (o : Nat → Int64) (d : Nat → UInt64) (n : Nat) (B : Nat → Nat → Nat) (x : Nat) (hJ : JI u v n B x) : ∃ (t : Nat) (vl : UInt64) (n2 : Nat) (B2 : Nat → Nat → Nat) (y2 : Nat) (f : Int32), t ≤ 3 ∧ (∀ sz, Met l yL_choice wsL_choice ({ frames := 8, cells := 1, slots := 6, locals := 130 }) (HP D ad cI cL cR cB cD (u, o, d) [.ref (ad 33), .ref (ad 35)] sz) (va_Qi (HPostD t vl n2 B2 y2 f) (HB D ad cI cL cR cD) (gA 36 ad sz)) 1 6 (gA 36 ad sz)) ∧ ∀ sz, Met l yX7_choice wsX7_choice ({ frames := 2, cells := 0, slots := 0, locals := 45 }) (MP D am cI cL cB v [.ref (am 0)] sz) (va_Qd (MPost t vl n2 B2 y2 f) (MB D am cI cL cB) (gA 12 am sz)) 0 0 (gA 12 am sz) := by
  rcases JI_ask hJ with ⟨hNE, hNo⟩ | ⟨k0, hE, hto, ⟨h8, h9, hD⟩, hW⟩
  · exact ⟨1, FP.dconst0, n, B, x, v.1 0 11, by decide, fun sz => z_pI (hp_td (by decide) (JI_q hJ)) (h_choice_t1 l D ad cI cL cR cB cD hI u o d  (c_X6_choice_x l hst0 D ad cI cL cR (gI_n (by decide) hI) u hNE) sz), c_X7_choice_x1 l D am cI cL cB hIm v n B (JI_B hJ) x (JI_x hJ) hJ.2.1 hNo⟩
  · have hK := bfs_ok (JI_B hJ) (JI_x hJ) k0 hE.1
    have hcc := bEnd_c (JI_B hJ) (JI_x hJ) hE hto
    obtain ⟨hg, hDp, hkey, hz8, hEn⟩ := bfs_all (JI_B hJ) (JI_x hJ) hE hto
    have hp8 := pn8 (JI_B hJ).1
    have hkR := hD.2.2.2 hto
    have htw := fb_ct_le (two B (bfs B x k0).1) k0
    exact ⟨0, FP.ddiv (FP.i2d (nI (fb_ct (two B (bfs B x k0).1) (bfs B x k0).2.2.2.1))) (FP.i2d (nI (bfs B x k0).2.2.2.1)), n, B, x, v.1 0 11, by decide, fun sz => z_pI (hp_d (by rw [hcc]) (JI_q hJ)) (h_choice_ok l D ad cI cL cR cB cD hI u o d  _ (c_X6_choice l D ad cI cL cR (gI_n (by decide) hI) u h8 h9 (bfs B x k0).2.2.2.1 hK.1 hK.2.1 hD.2.1.1 (fb_ct (two B (bfs B x k0).1) k0) hD.2.2.1.2.1 (no_nan (by have := hK.2.1; omega) hK.1 hK.2.1)) sz), c_X7_choice l D am cI cL cB hIm v n B (JI_B hJ) x (JI_x hJ) hJ.2.1 (bfs B x k0).2.2.2.1 (bfs B x k0).1 (bfs B x k0).2.2.1 hW⟩

set_option maxHeartbeats 1000000 in
theorem lc_canTrigger (l : Launch) (hst0 : l.stackTraces = false) (D : va_G) (ad am : Nat → Nat) (cI cL cR cB cD : ClassId) (hI : gI 36 ad) (hIm : gI 12 am) (u v : xS) (o : Nat → Int64) (d : Nat → UInt64) (n : Nat) (B : Nat → Nat → Nat) (x : Nat) (hJ : JI u v n B x) (x1 : Int32) : ∃ (t : Nat) (vl : Int32) (n2 : Nat) (B2 : Nat → Nat → Nat) (y2 : Nat) (f : Int32), t ≤ 3 ∧ (∀ sz, Met l yL_canTrigger wsL_canTrigger ({ frames := 8, cells := 1, slots := 6, locals := 133 }) (HP D ad cI cL cR cB cD (u, o, d) [.ref (ad 33), .int (x1), .ref (ad 34)] sz) (va_Qi (HPost t vl.toInt64 n2 B2 y2 f) (HB D ad cI cL cR cD) (gA 36 ad sz)) 1 6 (gA 36 ad sz)) ∧ ∀ sz, Met l yX7_canTrigger wsX7_canTrigger ({ frames := 1, cells := 0, slots := 0, locals := 24 }) (MP D am cI cL cB v [.ref (am 0), .int (x1)] sz) (va_Qi (MPost t vl n2 B2 y2 f) (MB D am cI cL cB) (gA 12 am sz)) 0 0 (gA 12 am sz) := by
  rcases bd (k := n) (by have := (JI_B hJ).1; omega) x1 with hf | ⟨i, hi, rfl⟩
  · exact ⟨1, nI 0, n, B, x, v.1 0 11, by decide, fun sz => z_pI (hp_t (by decide) (JI_q hJ)) (h_canTrigger_t1 l D ad cI cL cR cB cD hI u o d (x1) (c_X6_canTrigger_x1 l hst0 D ad cI cL cR (gI_n (by decide) hI) u n B (JI_R hJ) x1 hf) sz), c_X7_canTrigger_x1 l D am cI cL cB hIm v n B (JI_B hJ) x (JI_x hJ) hJ.2.1 x1 hf⟩
  · exact ⟨0, nI (trg B i), n, B, x, v.1 0 11, by decide, fun sz => z_pI (hp_i rfl (JI_q hJ)) (h_canTrigger_ok l D ad cI cL cR cB cD hI u o d (nI i) _ (c_X6_canTrigger l D ad cI cL cR (gI_n (by decide) hI) u n B (JI_R hJ) i hi) sz), c_X7_canTrigger l D am cI cL cB hIm v n B (JI_B hJ) x (JI_x hJ) hJ.2.1 i hi⟩

set_option maxHeartbeats 1000000 in
theorem lc_commute (l : Launch) (hst0 : l.stackTraces = false) (D : va_G) (ad am : Nat → Nat) (cI cL cR cB cD : ClassId) (hI : gI 36 ad) (hIm : gI 12 am) (u v : xS) (o : Nat → Int64) (d : Nat → UInt64) (n : Nat) (B : Nat → Nat → Nat) (x : Nat) (hJ : JI u v n B x) (x1 : Int32) (x2 : Int32) : ∃ (t : Nat) (vl : Int32) (n2 : Nat) (B2 : Nat → Nat → Nat) (y2 : Nat) (f : Int32), t ≤ 3 ∧ (∀ sz, Met l yL_commute wsL_commute ({ frames := 8, cells := 1, slots := 6, locals := 136 }) (HP D ad cI cL cR cB cD (u, o, d) [.ref (ad 33), .int (x1), .int (x2), .ref (ad 34)] sz) (va_Qi (HPost t (if vl = 0 then 0 else 1) n2 B2 y2 f) (HB D ad cI cL cR cD) (gA 36 ad sz)) 1 6 (gA 36 ad sz)) ∧ ∀ sz, Met l yX7_commute wsX7_commute ({ frames := 3, cells := 0, slots := 0, locals := 69 }) (MP D am cI cL cB v [.ref (am 0), .int (x1), .int (x2)] sz) (va_Qi (MPost t vl n2 B2 y2 f) (MB D am cI cL cB) (gA 12 am sz)) 0 0 (gA 12 am sz) := by
  rcases bd (k := n) (by have := (JI_B hJ).1; omega) x1 with hf | ⟨i, hi, rfl⟩
  · exact ⟨1, nI 0, n, B, x, v.1 0 11, by decide, fun sz => z_pI (hp_t (by decide) (JI_q hJ)) (h_commute_t1 l D ad cI cL cR cB cD hI u o d (x1) (x2) (c_X6_commute_x1 l hst0 D ad cI cL cR (gI_n (by decide) hI) u n B (JI_R hJ) x1 hf x2) sz), c_X7_commute_x1 l D am cI cL cB hIm v n B (JI_B hJ) x (JI_x hJ) hJ.2.1 x1 hf x2⟩
  · rcases bd (k := n) (by have := (JI_B hJ).1; omega) x2 with hf | ⟨j, hj, rfl⟩
    · exact ⟨1, nI 0, n, B, x, v.1 0 11, by decide, fun sz => z_pI (hp_t (by decide) (JI_q hJ)) (h_commute_t1 l D ad cI cL cR cB cD hI u o d (nI i) (x2) (c_X6_commute_x2 l hst0 D ad cI cL cR (gI_n (by decide) hI) u n B (JI_R hJ) i hi x2 hf) sz), c_X7_commute_x2 l D am cI cL cB hIm v n B (JI_B hJ) x (JI_x hJ) hJ.2.1 i hi x2 hf⟩
    · by_cases hij : i = j
      · subst hij
        exact ⟨2, nI 0, n, B, x, v.1 0 11, by decide, fun sz => z_pI (hp_t (by decide) (JI_q hJ)) (h_commute_t2 l D ad cI cL cR cB cD hI u o d (nI i) (nI i) (c_X6_commute_x3 l hst0 D ad cI cL cR (gI_n (by decide) hI) u n B (JI_R hJ) i hi) sz), c_X7_commute_x3 l D am cI cL cB hIm v n B (JI_B hJ) x (JI_x hJ) hJ.2.1 i hi⟩
      · exact ⟨0, (if com B i j = true then 1 else 0), n, B, x, v.1 0 11, by decide, fun sz => z_pI (hp_z rfl (JI_q hJ)) (h_commute_ok l D ad cI cL cR cB cD hI u o d (nI i) (nI j) _ (c_X6_commute l D ad cI cL cR (gI_n (by decide) hI) u n B (JI_R hJ) i hi j hj hij) sz), c_X7_commute l D am cI cL cB hIm v n B (JI_B hJ) x (JI_x hJ) hJ.2.1 i hi j hj hij⟩

set_option maxHeartbeats 1000000 in
theorem lc_conflict (l : Launch) (hst0 : l.stackTraces = false) (D : va_G) (ad am : Nat → Nat) (cI cL cR cB cD : ClassId) (hI : gI 36 ad) (hIm : gI 12 am) (u v : xS) (o : Nat → Int64) (d : Nat → UInt64) (n : Nat) (B : Nat → Nat → Nat) (x : Nat) (hJ : JI u v n B x) (x1 : Int32) : ∃ (t : Nat) (vl : Int32) (n2 : Nat) (B2 : Nat → Nat → Nat) (y2 : Nat) (f : Int32), t ≤ 3 ∧ (∀ sz, Met l yL_conflict wsL_conflict ({ frames := 7, cells := 1, slots := 6, locals := 137 }) (HP D ad cI cL cR cB cD (u, o, d) [.ref (ad 33), .int (x1), .ref (ad 34)] sz) (va_Qi (HPost t vl.toInt64 n2 B2 y2 f) (HB D ad cI cL cR cD) (gA 36 ad sz)) 1 6 (gA 36 ad sz)) ∧ ∀ sz, Met l yX7_conflict wsX7_conflict ({ frames := 4, cells := 0, slots := 0, locals := 91 }) (MP D am cI cL cB v [.ref (am 0), .int (x1)] sz) (va_Qi (MPost t vl n2 B2 y2 f) (MB D am cI cL cB) (gA 12 am sz)) 0 0 (gA 12 am sz) := by
  have h64 := cou_le B 8
  rcases bd (k := (cou B 8)) (by omega) x1 with hf | ⟨i, hi, rfl⟩
  · have hne : ¬ (∃ a b, a < b ∧ b < 8 ∧ cnf B a b = true ∧ x1 = nI (cou B a + cin B a b)) := by
      rintro ⟨a, b, g1, g2, g3, g4⟩
      have hlt := cou_below g1 g2 g3
      rcases hf with hf | ⟨i, e, h1, h2⟩
      · rw [g4] at hf; exact nI_pos (by omega) hf
      · rw [g4] at e
        have := (nI_eq (by omega) h2).mp e
        omega
    rcases hf with hf | ⟨i, rfl, h1, h2⟩
    · exact ⟨1, nI 0, n, B, x, v.1 0 11, by decide, fun sz => z_pI (hp_t (by decide) (JI_q hJ)) (h_conflict_t1 l D ad cI cL cR cB cD hI u o d (x1) (c_X6_conflict_x1 l hst0 D ad cI cL cR (gI_n (by decide) hI) u n B (JI_R hJ) x1 hne) sz), c_X7_conflict_vn l D am cI cL cB hIm v n B (JI_B hJ) x (JI_x hJ) hJ.2.1 x1 hf⟩
    · exact ⟨1, nI 0, n, B, x, v.1 0 11, by decide, fun sz => z_pI (hp_t (by decide) (JI_q hJ)) (h_conflict_t1 l D ad cI cL cR cB cD hI u o d (nI i) (c_X6_conflict_x1 l hst0 D ad cI cL cR (gI_n (by decide) hI) u n B (JI_R hJ) (nI i) hne) sz), c_X7_conflict_vb l D am cI cL cB hIm v n B (JI_B hJ) x (JI_x hJ) hJ.2.1 i h1 h2⟩
  · obtain ⟨a, b, g1, g2, g3, g4⟩ := cou_find 8 (Nat.le_refl 8) hi
    refine ⟨0, nI (10 * a + b), n, B, x, v.1 0 11, by decide, fun sz => z_pI (fun r s hp => ?_) (h_conflict_ok l D ad cI cL cR cB cD hI u o d (nI i) _ (c_X6_conflict l D ad cI cL cR (gI_n (by decide) hI) u n B (JI_R hJ) (nI i) ⟨a, b, g1, g2, g3, by rw [g4]⟩) sz), fun sz => z_pI (fun r w hp => ?_) (c_X7_conflict_vh l D am cI cL cB hIm v n B (JI_B hJ) x (JI_x hJ) hJ.2.1 i hi sz)⟩
    · obtain ⟨q0, bb, ⟨⟨a', b', p1, p2, p3, p4, p5⟩, p6⟩, q1⟩ := hp
      have hlt := cou_below p1 p2 p3
      obtain ⟨e1, e2⟩ := cou_one p1 p2 p3 g1 g2 g3 (by have := (nI_eq (by omega) (by omega)).mp p4; omega)
      subst e1; subst e2
      exact ⟨q0, fun _ => by rw [q1, p5], by rw [p6]; exact JI_q hJ⟩
    · obtain ⟨⟨a', b', p1, p2, p3, p4, p5⟩, h0, hq⟩ := hp
      obtain ⟨e1, e2⟩ := cou_one p1 p2 p3 g1 g2 g3 (by omega)
      subst e1; subst e2
      exact ⟨p5, h0, hq⟩
