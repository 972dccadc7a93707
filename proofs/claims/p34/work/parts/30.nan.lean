/-! The share of small counts is a number. -/
theorem nz_mag {v m : Nat} (s : Bool) (hv : v = s.toNat * 9223372036854775808 + m) (hm : m ≤ 9218868437227405312) : vf_n64 (UInt64.ofNat v) := by
  unfold vf_n64
  rw [UInt64.le_iff_toNat_le, UInt64.toNat_and]
  show v % 18446744073709551616 &&& (2 ^ 63 - 1) ≤ 9218868437227405312
  rw [Nat.and_two_pow_sub_one_eq_mod]
  subst hv
  cases s
  · show (0 * 9223372036854775808 + m) % 18446744073709551616 % 9223372036854775808 ≤ _
    omega
  · show (1 * 9223372036854775808 + m) % 18446744073709551616 % 9223372036854775808 ≤ _
    omega
theorem nz_t : FP.Core.Fmt.tails FP.Core.b64 = 4503599627370496 := by decide +kernel
theorem nz_x : FP.Core.Fmt.exps FP.Core.b64 = 2048 := by decide +kernel
theorem nz_q : FP.Core.Fmt.qmin FP.Core.b64 = -1074 := by decide +kernel
theorem nz_Q : FP.Core.Fmt.qmax FP.Core.b64 = 971 := by decide +kernel
theorem nz_fin (s : Bool) {c : Nat} {q : Int} (hc : c < 9007199254740992) (h1 : -1074 ≤ q) (h2 : q ≤ 971) : vf_n64 (UInt64.ofNat (FP.Core.encode FP.Core.b64 (.fin s c q))) := by
  unfold FP.Core.encode
  simp only [FP.Core.assemble, nz_t, nz_x, nz_q]
  split
  · refine nz_mag s (m := c) ?_ (by omega)
    generalize s.toNat = k
    omega
  · refine nz_mag s (m := ((q - -1074).toNat + 1) * 4503599627370496 + (c - 4503599627370496)) ?_ (by omega)
    generalize s.toNat = k
    omega
theorem nz_inf (s : Bool) : vf_n64 (UInt64.ofNat (FP.Core.encode FP.Core.b64 (.inf s))) := by
  unfold FP.Core.encode
  simp only [FP.Core.assemble, nz_t, nz_x]
  refine nz_mag s (m := 9218868437227405312) ?_ (Nat.le_refl _)
  generalize s.toNat = k
  omega
theorem nz_bound (s : Bool) {c : Nat} {q : Int} (hc : c < 9007199254740992) (h1 : -1074 ≤ q) : vf_n64 (UInt64.ofNat (FP.Core.encode FP.Core.b64 (FP.Core.bound FP.Core.b64 s c q))) := by
  unfold FP.Core.bound
  rw [nz_Q]
  split
  · exact nz_fin s hc h1 (by assumption)
  · exact nz_inf s
theorem nz_rr (s : Bool) (a b : Nat) (e : Int) : vf_n64 (UInt64.ofNat (FP.Core.encode FP.Core.b64 (FP.Core.roundRatio FP.Core.b64 s a b e))) := by
  unfold FP.Core.roundRatio
  split
  · rw [nz_q]
    exact nz_fin s (by decide) (by decide) (by decide)
  · have hq : -1074 ≤ FP.Core.quantum FP.Core.b64 a b e := by
      unfold FP.Core.quantum
      rw [nz_q]
      omega
    unfold FP.Core.roundAt FP.Core.settle
    split
    · rename_i h
      exact nz_bound s (show _ < 2 ^ 53 from h) hq
    · rw [nz_t]
      exact nz_bound s (by decide) (by omega)
def fz (n : Nat) : Bool := match FP.Core.decode FP.Core.b64 (FP.i2d (nI n)).toNat with
  | .fin _ c _ => n == 0 || c != 0
  | _ => false
theorem fz_all : (List.range 1001).all fz = true := by decide +kernel
theorem no_nan {d c : Nat} (hd : d ≤ 1000) (hc0 : 0 < c) (hc : c ≤ 1000) : vf_n64 (FP.ddiv (FP.i2d (nI d)) (FP.i2d (nI c))) := by
  have h1 := List.all_eq_true.mp fz_all d (List.mem_range.mpr (by omega))
  have h2 := List.all_eq_true.mp fz_all c (List.mem_range.mpr (by omega))
  show vf_n64 (UInt64.ofNat (FP.Core.encode FP.Core.b64 (FP.Core.quotient FP.Core.b64 (FP.Core.decode FP.Core.b64 (FP.i2d (nI d)).toNat) (FP.Core.decode FP.Core.b64 (FP.i2d (nI c)).toNat))))
  unfold fz at h1 h2
  cases e1 : FP.Core.decode FP.Core.b64 (FP.i2d (nI d)).toNat with
  | nan => rw [e1] at h1; exact absurd h1 (by simp)
  | inf s => rw [e1] at h1; exact absurd h1 (by simp)
  | fin s a q =>
    cases e2 : FP.Core.decode FP.Core.b64 (FP.i2d (nI c)).toNat with
    | nan => rw [e2] at h2; exact absurd h2 (by simp)
    | inf s => rw [e2] at h2; exact absurd h2 (by simp)
    | fin t b r =>
      rw [e2] at h2
      have hb : ¬ b = 0 := by
        intro z
        subst z
        have h3 : (c == 0 || (0 : Nat) != 0) = true := h2
        rw [show (c == 0) = false by simp; omega] at h3
        exact absurd h3 (by decide)
      show vf_n64 (UInt64.ofNat (FP.Core.encode FP.Core.b64 (if b = 0 then (if a = 0 then FP.Core.Datum.nan else .inf (s != t)) else FP.Core.roundRatio FP.Core.b64 (s != t) a b (q - r))))
      rw [if_neg hb]
      exact nz_rr _ _ _ _
