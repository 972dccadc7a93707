/-! The rules' writes keep xR: a new rule, an action, a switch. -/
theorem mks_add {p q : Nat → Bool} {n : Nat} (hn : n < 8) (hq : q n = true) (he : ∀ i, i ≠ n → q i = p i) : mks q 8 = mks p 8 ||| 2 ^ n := by
  refine Nat.eq_of_testBit_eq (fun i => ?_)
  rw [Nat.testBit_or, mks_bit, mks_bit, Nat.testBit_two_pow]
  by_cases h : i = n
  · subst h
    rw [hq, decide_eq_true hn]
    simp
  · rw [he i h, decide_eq_false (show ¬ n = i from fun z => h z.symm), Bool.or_false]
theorem mks_del {p q : Nat → Bool} {n : Nat} (hq : q n = false) (he : ∀ i, i ≠ n → q i = p i) : mks q 8 = clr (mks p 8) n := by
  refine Nat.eq_of_testBit_eq (fun i => ?_)
  unfold clr
  rw [mks_bit, mks_bit, mks_bit]
  by_cases h : i = n
  · subst h
    rw [hq]
    simp
  · rw [he i h, decide_eq_true h]
    simp
def apB (B : Nat → Nat → Nat) (n e a1 a2 : Nat) (i j : Nat) : Nat := if i = n then (if j = 0 then e else if j = 1 then a1 else if j = 2 then a2 else if j = 3 then 1 else B i j) else B i j
theorem apB_n {B : Nat → Nat → Nat} {n e a1 a2 i j : Nat} (h : i ≠ n) : apB B n e a1 a2 i j = B i j := if_neg h
theorem apB_g {B : Nat → Nat → Nat} {n e a1 a2 i j : Nat} (h : 4 ≤ j) : apB B n e a1 a2 i j = B i j := by
  unfold apB
  split
  · rw [if_neg (by omega), if_neg (by omega), if_neg (by omega), if_neg (by omega)]
  · rfl
theorem apB_k (B : Nat → Nat → Nat) (n e a1 a2 i k : Nat) : apB B n e a1 a2 i (6 + k) = B i (6 + k) := apB_g (by omega)
theorem apB_4 (B : Nat → Nat → Nat) (n e a1 a2 i : Nat) : apB B n e a1 a2 i 4 = B i 4 := apB_g (by omega)
theorem apB_5 (B : Nat → Nat → Nat) (n e a1 a2 i : Nat) : apB B n e a1 a2 i 5 = B i 5 := apB_g (by omega)
theorem apB_0 (B : Nat → Nat → Nat) (n e a1 a2 : Nat) : apB B n e a1 a2 n 0 = e ∧ apB B n e a1 a2 n 1 = a1 ∧ apB B n e a1 a2 n 2 = a2 ∧ apB B n e a1 a2 n 3 = 1 := by
  unfold apB
  simp
theorem apB_gB {n : Nat} {B : Nat → Nat → Nat} (h : gB n B) (hn : n < 8) {e a1 a2 : Nat} (he : e < 12) (h1 : a1 < 64) (h2 : a2 < 64) : gB (n + 1) (apB B n e a1 a2) := by
  obtain ⟨k0, k1, k2, k3, k4⟩ := h
  refine ⟨hn, fun i hi => ?_, fun i hi hi8 => ?_, fun i hi => by rw [apB_5]; exact k3 i hi, fun i j k hi hj hk => by rw [apB_5, apB_5]; exact k4 i j k hi hj hk⟩
  · obtain ⟨m0, m1, m2, m3, m4, m5, m6⟩ := k1 i hi
    by_cases z : i = n
    · subst z
      obtain ⟨q0, q1, q2, q3⟩ := apB_0 B i e a1 a2
      rw [q0, q1, q2, q3, apB_4, apB_5]
      exact ⟨he, h1, h2, by omega, m4, m5, fun k hk => by rw [apB_k]; exact m6 k hk⟩
    · rw [apB_n z, apB_n z, apB_n z, apB_n z, apB_n z, apB_n z]
      exact ⟨m0, m1, m2, m3, m4, m5, fun k hk => by rw [apB_k]; exact m6 k hk⟩
  · obtain ⟨m3, m4, m5, m6⟩ := k2 i (by omega) hi8
    rw [apB_n (by omega), apB_4, apB_5]
    exact ⟨m3, m4, m5, fun j hj => by rw [apB_5]; exact m6 j hj⟩
theorem apB_lis {B : Nat → Nat → Nat} {n : Nat} (hn : n < 8) (h3 : B n 3 = 0) (e a1 a2 e' : Nat) : lis (apB B n e a1 a2) e' = if e' = e then lis B e' ||| 2 ^ n else lis B e' := by
  obtain ⟨q0, q1, q2, q3⟩ := apB_0 B n e a1 a2
  by_cases z : e' = e
  · subst z
    rw [if_pos rfl]
    unfold lis
    refine mks_add hn ?_ (fun i hi => ?_)
    · show (decide (apB B n e' a1 a2 n 3 = 1) && decide (apB B n e' a1 a2 n 0 = e')) = true
      rw [q3, q0]
      simp
    · show (decide (apB B n e' a1 a2 i 3 = 1) && decide (apB B n e' a1 a2 i 0 = e')) = (decide (B i 3 = 1) && decide (B i 0 = e'))
      rw [apB_n hi, apB_n hi]
  · rw [if_neg z]
    unfold lis
    refine mks_cong (fun i hi => ?_)
    by_cases y : i = n
    · subst y
      rw [q3, q0, h3]
      have : ¬ e = e' := fun w => z w.symm
      simp [this]
    · rw [apB_n y, apB_n y]
theorem apS_16 (u : xS) {c e9 : Nat} (hc : c < 8) (m1 m2 : Int32) : (apS u c e9 m1 m2).1 16 2 = nI (c + 1) := by
  unfold apS
  rw [xs_c (by decide), xs_c (by omega), xs_c (by omega), xs_c (by omega), xs_c (by omega), xs_s]
theorem apS_18 (u : xS) {c e9 : Nat} (hc : c < 8) (m1 m2 : Int32) (e : Nat) : (apS u c e9 m1 m2).1 18 e = if e = e9 then u.1 18 e9 ||| nI (2 ^ c) else u.1 18 e := by
  unfold apS
  have k : ∀ j, (xs (xs (xs (xs u 16 2 (nI (c + 1))) c 2 (nI e9)) c 3 m1) c 4 m2).1 18 j = u.1 18 j := fun j => by
    rw [xs_c (by omega), xs_c (by omega), xs_c (by omega), xs_c (by omega)]
  by_cases z : e = e9
  · subst z
    rw [xs_s, if_pos rfl, k]
  · rw [xs_j z, if_neg z, xs_c (by omega), k]
theorem apS_o (u : xS) {c e9 : Nat} (m1 m2 : Int32) {q : Nat} (hq : q ≠ 16) (hq2 : q ≠ 18) (hqc : q ≠ c) (j : Nat) : (apS u c e9 m1 m2).1 q j = u.1 q j := by
  unfold apS
  rw [xs_c hq2, xs_c hqc, xs_c hqc, xs_c hqc, xs_c hqc, xs_c hq]
theorem apS_c (u : xS) {c e9 : Nat} (hc : c < 8) (m1 m2 : Int32) : (apS u c e9 m1 m2).1 c 2 = nI e9 ∧ (apS u c e9 m1 m2).1 c 3 = m1 ∧ (apS u c e9 m1 m2).1 c 4 = m2 ∧ (apS u c e9 m1 m2).1 c 5 = nI 1 ∧ ∀ j, 6 ≤ j → (apS u c e9 m1 m2).1 c j = u.1 c j := by
  unfold apS
  refine ⟨?_, ?_, ?_, ?_, fun j hj => ?_⟩
  · rw [xs_c (by omega), xs_j (by decide), xs_j (by decide), xs_j (by decide), xs_s]
  · rw [xs_c (by omega), xs_j (by decide), xs_j (by decide), xs_s]
  · rw [xs_c (by omega), xs_j (by decide), xs_s]
  · rw [xs_c (by omega), xs_s]
  · rw [xs_c (by omega), xs_j (by omega), xs_j (by omega), xs_j (by omega), xs_j (by omega), xs_c (by omega)]
theorem apB_sfm (B : Nat → Nat → Nat) (n e a1 a2 i : Nat) : sfm (apB B n e a1 a2) i = sfm B i ∧ ufm (apB B n e a1 a2) i = ufm B i ∧ abv (apB B n e a1 a2) i = abv B i := by
  refine ⟨?_, ?_, ?_⟩
  · simp only [sfm, apB_k, apB_4]
  · simp only [ufm, apB_k, apB_4]
  · simp only [abv, apB_5]
theorem xR_ap {u : xS} {n : Nat} {B : Nat → Nat → Nat} (h : xR u n B) (hn : n < 8) {e a1 a2 : Nat} (he : e < 12) (h1 : a1 < 64) (h2 : a2 < 64) : xR (apS u n e (nI a1) (nI a2)) (n + 1) (apB B n e a1 a2) := by
  have hof := h.1.2.2.1 n (Nat.le_refl n) hn
  refine ⟨apB_gB h.1 hn he h1 h2, apS_16 u hn _ _, fun i hi => ?_, fun e' he' => ?_⟩
  · obtain ⟨s1, s2, s3⟩ := apB_sfm B n e a1 a2 i
    rw [s1, s2, s3, apB_4, apB_5]
    have ha : ∀ k, (apS u n e (nI a1) (nI a2)).1 (8 + i) k = u.1 (8 + i) k := fun k => apS_o u _ _ (by omega) (by omega) (by omega) k
    by_cases z : i = n
    · subst z
      obtain ⟨q0, q1, q2, q3⟩ := apB_0 B i e a1 a2
      obtain ⟨t2, t3, t4, t5, tj⟩ := apS_c u (e9 := e) hn (nI a1) (nI a2)
      rw [q0, q1, q2, q3, t2, t3, t4, t5, tj 6 (by decide), tj 7 (by decide), tj 8 (by decide), tj 9 (by decide), tj 10 (by decide)]
      exact ⟨rfl, rfl, rfl, rfl, xR_6 h hi, xR_7 h hi, xR_8 h hi, xR_9 h hi, xR_10 h hi, fun k hk => by rw [ha, apB_k]; exact xR_a h hi hk⟩
    · have hr : ∀ k, (apS u n e (nI a1) (nI a2)).1 i k = u.1 i k := fun k => apS_o u _ _ (by omega) (by omega) z k
      rw [apB_n z, apB_n z, apB_n z, apB_n z, hr, hr, hr, hr, hr, hr, hr, hr, hr]
      exact ⟨xR_2 h hi, xR_3 h hi, xR_4 h hi, xR_5 h hi, xR_6 h hi, xR_7 h hi, xR_8 h hi, xR_9 h hi, xR_10 h hi, fun k hk => by rw [ha, apB_k]; exact xR_a h hi hk⟩
  · rw [apS_18 u hn, apB_lis hn hof.1]
    by_cases z : e' = e
    · subst z
      rw [if_pos rfl, if_pos rfl, xR_l h he', fa_or]
    · rw [if_neg z, if_neg z]
      exact xR_l h he'
