/-! A rule switched on or off. -/
def swB (B : Nat → Nat → Nat) (n v : Nat) (i j : Nat) : Nat := if i = n ∧ j = 3 then v else B i j
theorem swB_j {B : Nat → Nat → Nat} {n v i j : Nat} (h : j ≠ 3) : swB B n v i j = B i j := if_neg (fun z => h z.2)
theorem swB_i {B : Nat → Nat → Nat} {n v i j : Nat} (h : i ≠ n) : swB B n v i j = B i j := if_neg (fun z => h z.1)
theorem swB_s (B : Nat → Nat → Nat) (n v : Nat) : swB B n v n 3 = v := if_pos ⟨rfl, rfl⟩
theorem swB_k (B : Nat → Nat → Nat) (n v i k : Nat) : swB B n v i (6 + k) = B i (6 + k) := swB_j (by omega)
theorem swB_4 (B : Nat → Nat → Nat) (n v i : Nat) : swB B n v i 4 = B i 4 := swB_j (by decide)
theorem swB_5 (B : Nat → Nat → Nat) (n v i : Nat) : swB B n v i 5 = B i 5 := swB_j (by decide)
theorem swB_0 (B : Nat → Nat → Nat) (n v i : Nat) : swB B n v i 0 = B i 0 ∧ swB B n v i 1 = B i 1 ∧ swB B n v i 2 = B i 2 := ⟨swB_j (by decide), swB_j (by decide), swB_j (by decide)⟩
theorem swB_gB {n : Nat} {B : Nat → Nat → Nat} (h : gB n B) {i v : Nat} (hi : i < n) (hv : v ≤ 1) : gB n (swB B i v) := by
  obtain ⟨k0, k1, k2, k3, k4⟩ := h
  refine ⟨k0, fun j hj => ?_, fun j hj hj8 => ?_, fun j hj => by rw [swB_5]; exact k3 j hj, fun a b c ha hb hc => by rw [swB_5, swB_5]; exact k4 a b c ha hb hc⟩
  · obtain ⟨m0, m1, m2, m3, m4, m5, m6⟩ := k1 j hj
    obtain ⟨q0, q1, q2⟩ := swB_0 B i v j
    rw [q0, q1, q2, swB_4, swB_5]
    refine ⟨m0, m1, m2, ?_, m4, m5, fun k hk => by rw [swB_k]; exact m6 k hk⟩
    by_cases z : j = i
    · subst z
      rw [swB_s]
      exact hv
    · rw [swB_i z]
      exact m3
  · obtain ⟨m3, m4, m5, m6⟩ := k2 j hj hj8
    rw [swB_i (by omega), swB_4, swB_5]
    exact ⟨m3, m4, m5, fun k hk => by rw [swB_5]; exact m6 k hk⟩
theorem swB_f (B : Nat → Nat → Nat) (n v i : Nat) : sfm (swB B n v) i = sfm B i ∧ ufm (swB B n v) i = ufm B i ∧ abv (swB B n v) i = abv B i := by
  refine ⟨?_, ?_, ?_⟩
  · simp only [sfm, swB_k, swB_4]
  · simp only [ufm, swB_k, swB_4]
  · simp only [abv, swB_5]
theorem swB_lis1 (B : Nat → Nat → Nat) {n : Nat} (hn : n < 8) (e : Nat) : lis (swB B n 1) e = if e = B n 0 then lis B e ||| 2 ^ n else lis B e := by
  by_cases z : e = B n 0
  · rw [if_pos z]
    unfold lis
    refine mks_add hn ?_ (fun i hi => ?_)
    · show (decide (swB B n 1 n 3 = 1) && decide (swB B n 1 n 0 = e)) = true
      rw [swB_s, (swB_0 B n 1 n).1, z]
      simp
    · show (decide (swB B n 1 i 3 = 1) && decide (swB B n 1 i 0 = e)) = (decide (B i 3 = 1) && decide (B i 0 = e))
      rw [swB_i hi, swB_i hi]
  · rw [if_neg z]
    unfold lis
    refine mks_cong (fun i hi => ?_)
    by_cases y : i = n
    · subst y
      rw [(swB_0 B i 1 i).1, decide_eq_false (show ¬ B i 0 = e from fun w => z w.symm), Bool.and_false, Bool.and_false]
    · rw [swB_i y, swB_i y]
theorem swB_lis0 (B : Nat → Nat → Nat) (n : Nat) (e : Nat) : lis (swB B n 0) e = if e = B n 0 then clr (lis B e) n else lis B e := by
  by_cases z : e = B n 0
  · rw [if_pos z]
    unfold lis
    refine mks_del ?_ (fun i hi => ?_)
    · show (decide (swB B n 0 n 3 = 1) && decide (swB B n 0 n 0 = e)) = false
      rw [swB_s]
      simp
    · show (decide (swB B n 0 i 3 = 1) && decide (swB B n 0 i 0 = e)) = (decide (B i 3 = 1) && decide (B i 0 = e))
      rw [swB_i hi, swB_i hi]
  · rw [if_neg z]
    unfold lis
    refine mks_cong (fun i hi => ?_)
    by_cases y : i = n
    · subst y
      rw [(swB_0 B i 0 i).1, decide_eq_false (show ¬ B i 0 = e from fun w => z w.symm), Bool.and_false, Bool.and_false]
    · rw [swB_i y, swB_i y]
theorem xR_sw {u : xS} {n : Nat} {B : Nat → Nat → Nat} (h : xR u n B) {i v : Nat} (hi : i < n) (hv : v ≤ 1) {z : Int32} (hz : z = nI (lis (swB B i v) (B i 0))) (hl : ∀ e, e ≠ B i 0 → lis (swB B i v) e = lis B e) : xR (xs (xs u i 5 (nI v)) 18 (B i 0) z) n (swB B i v) := by
  have hi8 : i < 8 := Nat.lt_of_lt_of_le hi h.1.1
  refine ⟨swB_gB h.1 hi hv, by rw [xs_c (by decide), xs_c (by omega)]; exact xR_n h, fun j hj => ?_, fun e he => ?_⟩
  · obtain ⟨s1, s2, s3⟩ := swB_f B i v j
    obtain ⟨q0, q1, q2⟩ := swB_0 B i v j
    rw [s1, s2, s3, q0, q1, q2, swB_4, swB_5]
    have h18 : ∀ q k, q ≠ 18 → (xs (xs u i 5 (nI v)) 18 (B i 0) z).1 q k = (xs u i 5 (nI v)).1 q k := fun q k hq => xs_c hq k
    have ha : ∀ k, (xs (xs u i 5 (nI v)) 18 (B i 0) z).1 (8 + j) k = u.1 (8 + j) k := fun k => by rw [h18 _ _ (by omega), xs_c (by omega)]
    have hk : ∀ k, k ≠ 5 → (xs (xs u i 5 (nI v)) 18 (B i 0) z).1 j k = u.1 j k := fun k hk => by rw [h18 _ _ (by omega), xs_j hk]
    rw [hk 2 (by decide), hk 3 (by decide), hk 4 (by decide), hk 6 (by decide), hk 7 (by decide), hk 8 (by decide), hk 9 (by decide), hk 10 (by decide)]
    refine ⟨xR_2 h hj, xR_3 h hj, xR_4 h hj, ?_, xR_6 h hj, xR_7 h hj, xR_8 h hj, xR_9 h hj, xR_10 h hj, fun k hk => by rw [ha, swB_k]; exact xR_a h hj hk⟩
    rw [h18 _ _ (by omega)]
    by_cases y : j = i
    · subst y
      rw [xs_s, swB_s]
    · rw [xs_c y, swB_i y]
      exact xR_5 h hj
  · by_cases y : e = B i 0
    · subst y
      rw [xs_s]
      exact hz
    · rw [xs_j y, xs_c (by omega), hl e y]
      exact xR_l h he
theorem xR_sw1 {u : xS} {n : Nat} {B : Nat → Nat → Nat} (h : xR u n B) {i : Nat} (hi : i < n) : xR (xs (xs u i 5 (nI 1)) 18 (B i 0) (u.1 18 (B i 0) ||| nI (2 ^ i))) n (swB B i 1) := by
  have hi8 : i < 8 := Nat.lt_of_lt_of_le hi h.1.1
  exact xR_sw h hi (by decide) (by rw [swB_lis1 B hi8, if_pos rfl, xR_l h (gB_0 h.1 hi8), fa_or]) (fun e he => by rw [swB_lis1 B hi8, if_neg he])
theorem xR_sw0 {u : xS} {n : Nat} {B : Nat → Nat → Nat} (h : xR u n B) {i : Nat} (hi : i < n) : xR (xs (xs u i 5 (nI 0)) 18 (B i 0) (u.1 18 (B i 0) &&& (nI (2 ^ i) ^^^ (-1)))) n (swB B i 0) := by
  have hi8 : i < 8 := Nat.lt_of_lt_of_le hi h.1.1
  exact xR_sw h hi (by decide) (by rw [swB_lis0 B i, if_pos rfl, xR_l h (gB_0 h.1 hi8), zi_clr (lis_lt _ _) hi8]) (fun e he => by rw [swB_lis0 B i, if_neg he])
