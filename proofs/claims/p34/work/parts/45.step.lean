/-! The invariant behind each call that changes something. -/
theorem xI_ap {u : xS} {n : Nat} {B : Nat → Nat → Nat} {x : Nat} (h : xI u n B x) (hn : n < 8) {e a1 a2 : Nat} (he : e < 12) (h1 : a1 < 64) (h2 : a2 < 64) : xI (apS (xs u 21 8 (nI 0)) n e (nI a1) (nI a2)) (n + 1) (apB B n e a1 a2) x := by
  have ho : ∀ q j, 20 < q → (apS (xs u 21 8 (nI 0)) n e (nI a1) (nI a2)).1 q j = (xs u 21 8 (nI 0)).1 q j := fun q j hq => apS_o _ _ _ (by omega) (by omega) (by omega) j
  refine xI_w h (xR_ap (xR_fg h.1 _) hn he h1 h2) ?_ ?_ ?_ ?_ (funext fun j => ?_) (funext fun j => ?_)
  · rw [Nat.pow_succ]
    have := h.2.1
    omega
  · rw [ho _ _ (by decide), xs_c (by decide)]
    exact h.2.2.1
  · rw [ho _ _ (by decide), xs_s]
    rfl
  · rw [ho _ _ (by decide), xs_j (by decide)]
  · rw [ho _ _ (by decide), xs_c (by decide)]
  · rw [ho _ _ (by decide), xs_c (by decide)]
theorem xI_aa {u : xS} {N : Nat} {B : Nat → Nat → Nat} {x : Nat} (h : xI u N B x) {n a : Nat} (hn : n < N) (h4 : B n 4 < 4) (ha : a < 12) : xI (aaS (xs u 21 8 (nI 0)) n (B n 4) a) N (aaB B n a) x := by
  have hn8 : n < 8 := Nat.lt_of_lt_of_le hn h.1.1.1
  have ho : ∀ q j, 20 < q → (aaS (xs u 21 8 (nI 0)) n (B n 4) a).1 q j = (xs u 21 8 (nI 0)).1 q j := fun q j hq => aaS_o _ (by omega) (by omega) j
  refine xI_w h (xR_aa (xR_fg h.1 _) hn h4 ha) h.2.1 ?_ ?_ ?_ (funext fun j => ?_) (funext fun j => ?_)
  · rw [ho _ _ (by decide), xs_c (by decide)]
    exact h.2.2.1
  · rw [ho _ _ (by decide), xs_s]
    rfl
  · rw [ho _ _ (by decide), xs_j (by decide)]
  · rw [ho _ _ (by decide), xs_c (by decide)]
  · rw [ho _ _ (by decide), xs_c (by decide)]
theorem xI_rk {u : xS} {n : Nat} {B : Nat → Nat → Nat} {x : Nat} (h : xI u n B x) {a b : Nat} (ha : a < n) (hb : b < n) (hab : ¬ a = b) (hno : (B b 5).testBit a = false) : xI (ordS (xs u 21 8 (nI 0)) (abv B a ||| 2 ^ a) (B b 5 ||| 2 ^ b) 8) n (rkB B (abv B a ||| 2 ^ a) (B b 5 ||| 2 ^ b)) x := by
  have ho : ∀ q j, 20 < q → (ordS (xs u 21 8 (nI 0)) (abv B a ||| 2 ^ a) (B b 5 ||| 2 ^ b) 8).1 q j = (xs u 21 8 (nI 0)).1 q j := fun q j hq => by
    rw [ordS_at, if_neg (fun y => absurd y.1 (by omega)), if_neg (fun y => absurd y.1 (by omega))]
  refine xI_w h (xR_rk (xR_fg h.1 _) ha hb hab hno) h.2.1 ?_ ?_ ?_ (funext fun j => ?_) (funext fun j => ?_)
  · rw [ho _ _ (by decide), xs_c (by decide)]
    exact h.2.2.1
  · rw [ho _ _ (by decide), xs_s]
    rfl
  · rw [ho _ _ (by decide), xs_j (by decide)]
  · rw [ho _ _ (by decide), xs_c (by decide)]
  · rw [ho _ _ (by decide), xs_c (by decide)]
/-- put, change, play: only the situation -/
theorem xI_ps {u : xS} {n : Nat} {B : Nat → Nat → Nat} {x y : Nat} (h : xI u n B x) (hy : y < 64 * 2 ^ n) : xI (xs (xs u 21 8 (nI 0)) 33 3 (nI y)) n B y := by
  refine xI_w h (xR_ps (xR_fg h.1 _) _) hy (xs_s _ _ _ _) ?_ ?_ (funext fun j => ?_) (funext fun j => ?_)
  · rw [xs_c (by decide), xs_s]
    rfl
  · rw [xs_c (by decide), xs_j (by decide)]
  · rw [xs_c (by decide), xs_c (by decide)]
  · rw [xs_c (by decide), xs_c (by decide)]
theorem xI_sw1 {u : xS} {n : Nat} {B : Nat → Nat → Nat} {x : Nat} (h : xI u n B x) {i : Nat} (hi : i < n) : xI (xs (xs (xs u 21 8 (nI 0)) i 5 (nI 1)) 18 (B i 0) ((xs u 21 8 (nI 0)).1 18 (B i 0) ||| nI (2 ^ i))) n (swB B i 1) x := by
  have hi8 : i < 8 := Nat.lt_of_lt_of_le hi h.1.1.1
  refine xI_w h (xR_sw1 (xR_fg h.1 _) hi) h.2.1 ?_ ?_ ?_ (funext fun j => ?_) (funext fun j => ?_)
  · rw [xs_c (by decide), xs_c (by omega), xs_c (by decide)]
    exact h.2.2.1
  · rw [xs_c (by decide), xs_c (by omega), xs_s]
    rfl
  · rw [xs_c (by decide), xs_c (by omega), xs_j (by decide)]
  · rw [xs_c (by decide), xs_c (by omega), xs_c (by decide)]
  · rw [xs_c (by decide), xs_c (by omega), xs_c (by decide)]
theorem xI_sw0 {u : xS} {n : Nat} {B : Nat → Nat → Nat} {x y : Nat} (h : xI u n B x) {i : Nat} (hi : i < n) (hy : y < 64 * 2 ^ n) : xI (xs (xs (xs (xs u 21 8 (nI 0)) i 5 (nI 0)) 18 (B i 0) ((xs u 21 8 (nI 0)).1 18 (B i 0) &&& (nI (2 ^ i) ^^^ (-1)))) 33 3 (nI y)) n (swB B i 0) y := by
  have hi8 : i < 8 := Nat.lt_of_lt_of_le hi h.1.1.1
  refine xI_w h (xR_ps (xR_sw0 (xR_fg h.1 _) hi) _) hy (xs_s _ _ _ _) ?_ ?_ (funext fun j => ?_) (funext fun j => ?_)
  · rw [xs_c (by decide), xs_c (by decide), xs_c (by omega), xs_s]
    rfl
  · rw [xs_c (by decide), xs_c (by decide), xs_c (by omega), xs_j (by decide)]
  · rw [xs_c (by decide), xs_c (by decide), xs_c (by omega), xs_c (by decide)]
  · rw [xs_c (by decide), xs_c (by decide), xs_c (by omega), xs_c (by decide)]
/-- run -/
theorem xI_t {u w : xS} {n : Nat} {B : Nat → Nat → Nat} {x y : Nat} (h : xI u n B x) (hF : tFr u w) (hy : y < 64 * 2 ^ n) (h3 : w.1 33 3 = nI y) : xI w n B y :=
  xI_w h (xR_fr h.1 (fun q hq => hF.1 q (Or.inl hq))) hy h3 (hF.2.2.1.trans rfl) (hF.2.2.2 7 (by decide)) (hF.1 22 (Or.inr ⟨by decide, by decide⟩)) (hF.1 25 (Or.inr ⟨by decide, by decide⟩))
