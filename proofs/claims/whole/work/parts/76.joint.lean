/-! Both sides between two calls. -/
def xQ (u : xS) (n : Nat) (B : Nat → Nat → Nat) (x : Nat) (f : Int32) : Prop := xI u n B x ∧ u.1 21 8 = f
def JI (u v : xS) (n : Nat) (B : Nat → Nat → Nat) (x : Nat) : Prop := xI u n B x ∧ mI v n B x ∧ u.1 21 8 = v.1 0 11
theorem JI_of {u v : xS} {n : Nat} {B : Nat → Nat → Nat} {x : Nat} {f : Int32} (h : xQ u n B x f) (h2 : mQ v n B x f) : JI u v n B x := ⟨h.1, h2.1, h.2.trans h2.2.symm⟩
theorem JI_B {u v : xS} {n : Nat} {B : Nat → Nat → Nat} {x : Nat} (h : JI u v n B x) : gB n B := h.1.1.1
theorem JI_R {u v : xS} {n : Nat} {B : Nat → Nat → Nat} {x : Nat} (h : JI u v n B x) : xR u n B := h.1.1
theorem JI_x {u v : xS} {n : Nat} {B : Nat → Nat → Nat} {x : Nat} (h : JI u v n B x) : x < 64 * 2 ^ n := h.1.2.1
theorem JI_8 {u v : xS} {n : Nat} {B : Nat → Nat → Nat} {x : Nat} (h : JI u v n B x) : x < 16384 := by
  have := JI_x h
  have := pn8 (JI_B h).1
  omega
theorem JI_3 {u v : xS} {n : Nat} {B : Nat → Nat → Nat} {x : Nat} (h : JI u v n B x) : u.1 33 3 = nI x := h.1.2.2.1
theorem JI_q {u v : xS} {n : Nat} {B : Nat → Nat → Nat} {x : Nat} (h : JI u v n B x) : xQ u n B x (v.1 0 11) := ⟨h.1, h.2.2⟩
theorem gI_n {n n1 : Nat} {ad : Nat → Nat} (h : n1 ≤ n) (hI : gI n ad) : gI n1 ad := fun i j hi hj e => hI i j (Nat.lt_of_lt_of_le hi h) (Nat.lt_of_lt_of_le hj h) e
theorem bd {k : Nat} (hk : k < 2 ^ 31) (x : Int32) : bad k x ∨ ∃ i, i < k ∧ x = nI i := by
  rcases pk_ix x (n := 2147483647) (by decide) with h | h | ⟨j, hj, e⟩
  · exact Or.inl (Or.inl h)
  · have e : x = nI 2147483647 := by
      rw [fa_eq]
      rw [fa_le] at h
      have h2 := (fb_rng x).2
      have h3 : (nI 2147483647).toInt = 2147483647 := by decide
      omega
    rcases Nat.lt_or_ge 2147483647 k with q | q
    · exact Or.inr ⟨_, q, e⟩
    · exact Or.inl (Or.inr ⟨_, e, q, by decide⟩)
  · rcases Nat.lt_or_ge j k with q | q
    · exact Or.inr ⟨j, q, e⟩
    · exact Or.inl (Or.inr ⟨j, e, q, by omega⟩)
theorem z_pI {l : Launch} {y : MethodName} {ws : List Cond} {rm : Room} {Pc : Array Value → State → Prop} {S : Type} {B : S → State → Prop} {A : Nat → Prop} {mc ms : Nat} {free : Addr → Prop} {post post' : Int32 → S → Prop} (hp : ∀ r u, post r u → post' r u) (h : Met l y ws rm Pc (va_Qi post B A) mc ms free) : Met l y ws rm Pc (va_Qi post' B A) mc ms free :=
  z_mono (fun _ _ h => h) (fun _ _ _ _ _ hq => ⟨hq.1.imp fun r hr => hr.imp fun u hu => ⟨hu.1, hp r u hu.2.1, hu.2.2⟩, hq.2⟩) (fun _ h => h) h
theorem z_pL {l : Launch} {y : MethodName} {ws : List Cond} {rm : Room} {Pc : Array Value → State → Prop} {S : Type} {B : S → State → Prop} {A : Nat → Prop} {mc ms : Nat} {free : Addr → Prop} {post post' : Int64 → S → Prop} (hp : ∀ r u, post r u → post' r u) (h : Met l y ws rm Pc (va_Ql post B A) mc ms free) : Met l y ws rm Pc (va_Ql post' B A) mc ms free :=
  z_mono (fun _ _ h => h) (fun _ _ _ _ _ hq => ⟨hq.1.imp fun r hr => hr.imp fun u hu => ⟨hu.1, hp r u hu.2.1, hu.2.2⟩, hq.2⟩) (fun _ h => h) h
theorem z_pD {l : Launch} {y : MethodName} {ws : List Cond} {rm : Room} {Pc : Array Value → State → Prop} {S : Type} {B : S → State → Prop} {A : Nat → Prop} {mc ms : Nat} {free : Addr → Prop} {post post' : UInt64 → S → Prop} (hp : ∀ r u, post r u → post' r u) (h : Met l y ws rm Pc (va_Qd post B A) mc ms free) : Met l y ws rm Pc (va_Qd post' B A) mc ms free :=
  z_mono (fun _ _ h => h) (fun _ _ _ _ _ hq => ⟨hq.1.imp fun r hr => hr.imp fun u hu => ⟨hu.1, hp r u hu.2.1, hu.2.2⟩, hq.2⟩) (fun _ h => h) h
/-! flags behind the changing calls -/
theorem xQ_ap {u : xS} {n : Nat} {B : Nat → Nat → Nat} {x : Nat} (h : xI u n B x) (hn : n < 8) {e a1 a2 : Nat} (he : e < 12) (h1 : a1 < 64) (h2 : a2 < 64) : xQ (apS (xs u 21 8 (nI 0)) n e (nI a1) (nI a2)) (n + 1) (apB B n e a1 a2) x 0 :=
  ⟨xI_ap h hn he h1 h2, (apS_o _ _ _ (by decide) (by decide) (by omega) _).trans ((xs_s _ _ _ _).trans rfl)⟩
theorem xQ_aa {u : xS} {N : Nat} {B : Nat → Nat → Nat} {x : Nat} (h : xI u N B x) {n a : Nat} (hn : n < N) (h4 : B n 4 < 4) (ha : a < 12) : xQ (aaS (xs u 21 8 (nI 0)) n (B n 4) a) N (aaB B n a) x 0 := by
  have hn8 : n < 8 := Nat.lt_of_lt_of_le hn h.1.1.1
  exact ⟨xI_aa h hn h4 ha, (aaS_o _ (by omega) (by omega) _).trans ((xs_s _ _ _ _).trans rfl)⟩
theorem xQ_rk {u : xS} {n : Nat} {B : Nat → Nat → Nat} {x : Nat} (h : xI u n B x) {a b : Nat} (ha : a < n) (hb : b < n) (hab : ¬ a = b) (hno : (B b 5).testBit a = false) : xQ (ordS (xs u 21 8 (nI 0)) (abv B a ||| 2 ^ a) (B b 5 ||| 2 ^ b) 8) n (rkB B (abv B a ||| 2 ^ a) (B b 5 ||| 2 ^ b)) x 0 :=
  ⟨xI_rk h ha hb hab hno, by rw [ordS_at, if_neg (fun y => absurd y.1 (by omega)), if_neg (fun y => absurd y.1 (by omega))]; exact (xs_s _ _ _ _).trans rfl⟩
theorem xQ_ps {u : xS} {n : Nat} {B : Nat → Nat → Nat} {x y : Nat} (h : xI u n B x) (hy : y < 64 * 2 ^ n) : xQ (xs (xs u 21 8 (nI 0)) 33 3 (nI y)) n B y 0 := ⟨xI_ps h hy, (xs_c (by decide) _).trans ((xs_s _ _ _ _).trans rfl)⟩
theorem xQ_sw1 {u : xS} {n : Nat} {B : Nat → Nat → Nat} {x : Nat} (h : xI u n B x) {i : Nat} (hi : i < n) : xQ (xs (xs (xs u 21 8 (nI 0)) i 5 (nI 1)) 18 (B i 0) ((xs u 21 8 (nI 0)).1 18 (B i 0) ||| nI (2 ^ i))) n (swB B i 1) x 0 := by
  have hi8 : i < 8 := Nat.lt_of_lt_of_le hi h.1.1.1
  exact ⟨xI_sw1 h hi, by rw [xs_c (by decide), xs_c (by omega), xs_s]; rfl⟩
theorem xQ_sw0 {u : xS} {n : Nat} {B : Nat → Nat → Nat} {x y : Nat} (h : xI u n B x) {i : Nat} (hi : i < n) (hy : y < 64 * 2 ^ n) : xQ (xs (xs (xs (xs u 21 8 (nI 0)) i 5 (nI 0)) 18 (B i 0) ((xs u 21 8 (nI 0)).1 18 (B i 0) &&& (nI (2 ^ i) ^^^ (-1)))) 33 3 (nI y)) n (swB B i 0) y 0 := by
  have hi8 : i < 8 := Nat.lt_of_lt_of_le hi h.1.1.1
  exact ⟨xI_sw0 h hi hy, by rw [xs_c (by decide), xs_c (by decide), xs_c (by omega), xs_s]; rfl⟩
theorem xQ_t {u w : xS} {n : Nat} {B : Nat → Nat → Nat} {x y : Nat} (h : xI u n B x) (hF : tFr u w) (hy : y < 64 * 2 ^ n) (h3 : w.1 33 3 = nI y) : xQ w n B y 0 := ⟨xI_t h hF hy h3, hF.2.2.1.trans rfl⟩
theorem run_ex (B : Nat → Nat → Nat) (x : Nat) : ∀ m, ∃ k, k ≤ m ∧ (∀ j, j < k → frs B (runX B x j / 64) < 8) ∧ (k = m ∨ frs B (runX B x k / 64) = 8)
  | 0 => ⟨0, Nat.le_refl 0, fun j hj => absurd hj (Nat.not_lt_zero j), Or.inl rfl⟩
  | m + 1 => by
    obtain ⟨k, h1, h2, h3⟩ := run_ex B x m
    rcases h3 with h3 | h3
    · have hle : frs B (runX B x k / 64) ≤ 8 := fa_first_le _ 8
      rcases Nat.lt_or_ge (frs B (runX B x k / 64)) 8 with q | q
      · refine ⟨k + 1, by omega, fun j hj => ?_, Or.inl (by omega)⟩
        rcases Nat.lt_or_ge j k with z | z
        · exact h2 j z
        · rw [show j = k by omega]; exact q
      · exact ⟨k, by omega, h2, Or.inr (by omega)⟩
    · exact ⟨k, by omega, h2, Or.inr h3⟩
/-- asked about what was explored: both sides have it, or neither -/
def xEx (u : xS) (B : Nat → Nat → Nat) (x k : Nat) : Prop := ¬ u.1 21 8 = 0 ∧ u.1 21 9 = 0 ∧ xDn u B x k
theorem JI_ask {u v : xS} {n : Nat} {B : Nat → Nat → Nat} {x : Nat} (h : JI u v n B x) : ((u.1 21 8 = 0 ∨ ¬ u.1 21 9 = 0) ∧ mNo v) ∨ ∃ k, bEnd B x k ∧ (bfs B x k).2.2.2.2 = false ∧ xEx u B x k ∧ mWh v n (bfs B x k).2.2.2.1 (bfs B x k).1 (bfs B x k).2.2.1 := by
  obtain ⟨h1, h2, h3⟩ := h
  rcases h2.2.2.2 with h4 | ⟨h4, k, hk⟩
  · exact Or.inl ⟨Or.inl (h3.trans h4), Or.inl h4⟩
  · have h8 : u.1 21 8 = 1 := h3.trans h4
    rcases h1.2.2.2.2 with h5 | ⟨-, k', hk'⟩
    · rw [h8] at h5; exact absurd h5 (by decide)
    · have e : k' = k := bEnd_one hk'.1 hk.1
      subst e
      rcases hk.2 with ⟨ht, h12⟩ | ⟨ht, h12, -⟩
      · refine Or.inl ⟨Or.inr ?_, Or.inr ⟨h4, h12⟩⟩
        rw [hk'.2.1.2.1, if_pos ht]
        decide
      · refine Or.inr ⟨k', hk.1, ht, ⟨by rw [h8]; decide, ?_, hk'⟩, mWh_of h1.1.1 h1.2.1 h4 hk ht⟩
        rw [hk'.2.1.2.1, if_neg (by rw [ht]; decide)]
theorem JI_exp {u v : xS} {n : Nat} {B : Nat → Nat → Nat} {x : Nat} (h : JI u v n B x) : (u.1 21 8 = 0 ∧ v.1 0 11 = 0) ∨ ∃ k, bEnd B x k ∧ u.1 21 8 = 1 ∧ v.1 0 11 = 1 ∧ xDn u B x k ∧ mDn v B x k := by
  obtain ⟨h1, h2, h3⟩ := h
  rcases h2.2.2.2 with h4 | ⟨h4, k, hk⟩
  · exact Or.inl ⟨h3.trans h4, h4⟩
  · have h8 : u.1 21 8 = 1 := h3.trans h4
    rcases h1.2.2.2.2 with h5 | ⟨-, k', hk'⟩
    · rw [h8] at h5; exact absurd h5 (by decide)
    · have e : k' = k := bEnd_one hk'.1 hk.1
      subst e
      exact Or.inr ⟨k', hk.1, h8, h4, hk', hk⟩
theorem xDn_exA {u : xS} {B : Nat → Nat → Nat} {x k : Nat} (h : xDn u B x k) : (if u.1 21 9 = 0 then u.1 21 7 else -1) = exA B x k := by
  unfold exA
  rw [h.2.1.2.1, h.2.1.1]
  by_cases z : (bfs B x k).2.2.2.2 = true
  · rw [if_pos z, if_pos z, if_neg (by decide)]
  · rw [if_neg z, if_neg z, if_pos rfl]
