/-! A new action. -/
def aaB (B : Nat → Nat → Nat) (n a : Nat) (i j : Nat) : Nat := if i = n ∧ j = 4 then B n 4 + 1 else if i = n ∧ j = 6 + B n 4 then a else B i j
theorem aaB_j {B : Nat → Nat → Nat} {n a i j : Nat} (h : j < 6) (h4 : j ≠ 4) : aaB B n a i j = B i j := by
  unfold aaB
  rw [if_neg (fun z => h4 z.2), if_neg (fun z => by have := z.2; omega)]
theorem aaB_i {B : Nat → Nat → Nat} {n a i j : Nat} (h : i ≠ n) : aaB B n a i j = B i j := by
  unfold aaB
  rw [if_neg (fun z => h z.1), if_neg (fun z => h z.1)]
theorem aaB_4 (B : Nat → Nat → Nat) (n a : Nat) : aaB B n a n 4 = B n 4 + 1 := if_pos ⟨rfl, rfl⟩
theorem aaB_a (B : Nat → Nat → Nat) (n a : Nat) : aaB B n a n (6 + B n 4) = a := by
  unfold aaB
  rw [if_neg (fun z => by have := z.2; omega), if_pos ⟨rfl, rfl⟩]
theorem aaB_k {B : Nat → Nat → Nat} {n a i k : Nat} (h : k ≠ B n 4) : aaB B n a i (6 + k) = B i (6 + k) := by
  unfold aaB
  rw [if_neg (fun z => by have := z.2; omega), if_neg (fun z => h (by have := z.2; omega))]
theorem aaB_5 (B : Nat → Nat → Nat) (n a i : Nat) : aaB B n a i 5 = B i 5 := aaB_j (by decide) (by decide)
theorem aaB_gB {N : Nat} {B : Nat → Nat → Nat} (h : gB N B) {n a : Nat} (hn : n < N) (h4 : B n 4 < 4) (ha : a < 12) : gB N (aaB B n a) := by
  obtain ⟨k0, k1, k2, k3, k4⟩ := h
  refine ⟨k0, fun j hj => ?_, fun j hj hj8 => ?_, fun j hj => by rw [aaB_5]; exact k3 j hj, fun x y z hx hy hz => by rw [aaB_5, aaB_5]; exact k4 x y z hx hy hz⟩
  · obtain ⟨m0, m1, m2, m3, m4, m5, m6⟩ := k1 j hj
    rw [aaB_j (by decide) (by decide), aaB_j (by decide) (by decide), aaB_j (by decide) (by decide), aaB_j (by decide) (by decide), aaB_5]
    refine ⟨m0, m1, m2, m3, ?_, m5, fun k hk => ?_⟩
    · by_cases y : j = n
      · subst y
        rw [aaB_4]
        omega
      · rw [aaB_i y]
        exact m4
    · by_cases y : j = n
      · subst y
        by_cases z : k = B j 4
        · rw [z, aaB_a]
          exact ha
        · rw [aaB_k z]
          exact m6 k hk
      · rw [aaB_i y]
        exact m6 k hk
  · obtain ⟨m3, m4, m5, m6⟩ := k2 j hj hj8
    rw [aaB_i (by omega), aaB_i (by omega), aaB_5]
    exact ⟨m3, m4, m5, fun k hk => by rw [aaB_5]; exact m6 k hk⟩
theorem aaB_sfm (B : Nat → Nat → Nat) (n a : Nat) : sfm (aaB B n a) n = (if a % 2 = 1 then sfm B n ||| 2 ^ (a / 2) else sfm B n) ∧ ufm (aaB B n a) n = (if a % 2 = 1 then ufm B n else ufm B n ||| 2 ^ (a / 2)) := by
  have k : ∀ i, i < B n 4 → aaB B n a n (6 + i) = B n (6 + i) := fun i hi => aaB_k (by omega)
  refine ⟨?_, ?_⟩
  · unfold sfm
    rw [aaB_4]
    show orf _ (B n 4) ||| (if aaB B n a n (6 + B n 4) % 2 = 1 then 2 ^ (aaB B n a n (6 + B n 4) / 2) else 0) = _
    rw [orf_cong (g := fun k => if B n (6 + k) % 2 = 1 then 2 ^ (B n (6 + k) / 2) else 0) (fun i hi => by rw [k i hi]), aaB_a]
    by_cases z : a % 2 = 1
    · rw [if_pos z, if_pos z]
    · rw [if_neg z, if_neg z, Nat.or_zero]
  · unfold ufm
    rw [aaB_4]
    show orf _ (B n 4) ||| (if aaB B n a n (6 + B n 4) % 2 = 1 then 0 else 2 ^ (aaB B n a n (6 + B n 4) / 2)) = _
    rw [orf_cong (g := fun k => if B n (6 + k) % 2 = 1 then 0 else 2 ^ (B n (6 + k) / 2)) (fun i hi => by rw [k i hi]), aaB_a]
    by_cases z : a % 2 = 1
    · rw [if_pos z, if_pos z, Nat.or_zero]
    · rw [if_neg z, if_neg z]
theorem aaB_o (B : Nat → Nat → Nat) {n a i : Nat} (h : i ≠ n) : sfm (aaB B n a) i = sfm B i ∧ ufm (aaB B n a) i = ufm B i := by
  refine ⟨?_, ?_⟩
  · simp only [sfm, aaB_i h]
  · simp only [ufm, aaB_i h]
theorem aaB_abv (B : Nat → Nat → Nat) (n a i : Nat) : abv (aaB B n a) i = abv B i := by simp only [abv, aaB_5]
theorem aaB_lis (B : Nat → Nat → Nat) (n a e : Nat) : lis (aaB B n a) e = lis B e := by
  unfold lis
  exact mks_cong (fun i _ => by rw [aaB_j (by decide) (by decide), aaB_j (by decide) (by decide)])
theorem aaS_o (u : xS) {i c a q : Nat} (hi : q ≠ i) (h8 : q ≠ 8 + i) (j : Nat) : (aaS u i c a).1 q j = u.1 q j := by
  unfold aaS
  split
  · rw [xs_c hi, xs_c hi, xs_c h8]
  · rw [xs_c hi, xs_c hi, xs_c h8]
theorem aaS_i (u : xS) {i c a j : Nat} (hj : j < 6 ∨ 8 < j) : (aaS u i c a).1 i j = u.1 i j := by
  unfold aaS
  split
  · rw [xs_j (by omega), xs_j (by omega), xs_c (by omega)]
  · rw [xs_j (by omega), xs_j (by omega), xs_c (by omega)]
theorem aaS_78 (u : xS) (i c a : Nat) : (aaS u i c a).1 i 7 = (if a % 2 = 1 then u.1 i 7 ||| nI (2 ^ (a / 2)) else u.1 i 7) ∧ (aaS u i c a).1 i 8 = (if a % 2 = 1 then u.1 i 8 else u.1 i 8 ||| nI (2 ^ (a / 2))) := by
  unfold aaS
  by_cases z : a % 2 = 1
  · rw [if_pos z, if_pos z, if_pos z]
    exact ⟨xs_s _ _ _ _, by rw [xs_j (by decide), xs_j (by decide), xs_c (by omega)]⟩
  · rw [if_neg z, if_neg z, if_neg z]
    exact ⟨by rw [xs_j (by decide), xs_j (by decide), xs_c (by omega)], xs_s _ _ _ _⟩
theorem aaS_a (u : xS) (i c a k : Nat) : (aaS u i c a).1 (8 + i) k = if k = c then nI a else u.1 (8 + i) k := by
  have hg : ∀ w : xS, w.1 (8 + i) k = (xs u (8 + i) c (nI a)).1 (8 + i) k → w.1 (8 + i) k = if k = c then nI a else u.1 (8 + i) k := fun w h => by
    rw [h]
    by_cases z : k = c
    · subst z
      rw [xs_s, if_pos rfl]
    · rw [xs_j z, if_neg z]
  unfold aaS
  split
  · exact hg _ (by rw [xs_c (by omega), xs_c (by omega)])
  · exact hg _ (by rw [xs_c (by omega), xs_c (by omega)])
theorem xR_aa {u : xS} {N : Nat} {B : Nat → Nat → Nat} (h : xR u N B) {n a : Nat} (hn : n < N) (h4 : B n 4 < 4) (ha : a < 12) : xR (aaS u n (B n 4) a) N (aaB B n a) := by
  have hn8 : n < 8 := Nat.lt_of_lt_of_le hn h.1.1
  refine ⟨aaB_gB h.1 hn h4 ha, by rw [aaS_o _ (by omega) (by omega)]; exact xR_n h, fun i hi => ?_, fun e he => by rw [aaS_o _ (by omega) (by omega), aaB_lis]; exact xR_l h he⟩
  rw [aaB_j (i := i) (j := 0) (by decide) (by decide), aaB_j (i := i) (j := 1) (by decide) (by decide), aaB_j (i := i) (j := 2) (by decide) (by decide), aaB_j (i := i) (j := 3) (by decide) (by decide), aaB_5, aaB_abv]
  by_cases z : i = n
  · subst z
    rw [aaS_i u (j := 2) (by omega), aaS_i u (j := 3) (by omega), aaS_i u (j := 4) (by omega), aaS_i u (j := 5) (by omega), aaS_i u (j := 9) (by omega), aaS_i u (j := 10) (by omega), aaS_6, (aaS_78 u i _ a).1, (aaS_78 u i _ a).2, (aaB_sfm B i a).1, (aaB_sfm B i a).2, aaB_4]
    refine ⟨xR_2 h hi, xR_3 h hi, xR_4 h hi, xR_5 h hi, rfl, ?_, ?_, xR_9 h hi, xR_10 h hi, fun k hk => ?_⟩
    · by_cases y : a % 2 = 1
      · rw [if_pos y, if_pos y, xR_7 h hi, fa_or]
      · rw [if_neg y, if_neg y]
        exact xR_7 h hi
    · by_cases y : a % 2 = 1
      · rw [if_pos y, if_pos y]
        exact xR_8 h hi
      · rw [if_neg y, if_neg y, xR_8 h hi, fa_or]
    · rw [aaS_a]
      by_cases y : k = B i 4
      · subst y
        rw [if_pos rfl, aaB_a]
      · rw [if_neg y, aaB_k y]
        exact xR_a h hi (by omega)
  · obtain ⟨s1, s2⟩ := aaB_o B (a := a) z
    have hr : ∀ k, (aaS u n (B n 4) a).1 i k = u.1 i k := fun k => aaS_o u z (by omega) k
    rw [s1, s2, aaB_i z, hr, hr, hr, hr, hr, hr, hr, hr, hr]
    exact ⟨xR_2 h hi, xR_3 h hi, xR_4 h hi, xR_5 h hi, xR_6 h hi, xR_7 h hi, xR_8 h hi, xR_9 h hi, xR_10 h hi, fun k hk => by rw [aaS_o u (by omega) (by omega), aaB_i z]; exact xR_a h hi hk⟩
