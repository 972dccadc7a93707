/-! A graph without circles: the longest ways, the number of ways, and that there is an end. -/
def Lf (N : Nat → Nat) : Nat → Nat → Nat
  | 0, _ => 0
  | n + 1, j => mx (eL N (Lf N n) j) 8
theorem Lf_one {c : Nat} {N ρ : Nat → Nat} (hN : ∀ e, e < 8 * c → N e ≤ c) (hρ : ∀ e, e < 8 * c → N e ≠ 0 → ρ (N e - 1) < ρ (e / 8)) : ∀ n m j, j < c → ρ j < n → ρ j < m → Lf N n j = Lf N m j
  | 0, _, _, _, h, _ => absurd h (Nat.not_lt_zero _)
  | n + 1, 0, _, _, _, h => absurd h (Nat.not_lt_zero _)
  | n + 1, m + 1, j, hj, h1, h2 => by
    show mx (eL N (Lf N n) j) 8 = mx (eL N (Lf N m) j) 8
    refine mx_cong fun r hr => ?_
    unfold eL
    by_cases z : N (8 * j + r) = 0
    · rw [if_pos z, if_pos z]
    · have he := hN (8 * j + r) (by omega)
      have hk := hρ (8 * j + r) (by omega) z
      rw [show (8 * j + r) / 8 = j by omega] at hk
      rw [if_neg z, if_neg z, Lf_one hN hρ n m (N (8 * j + r) - 1) (by omega) (by omega) (by omega)]
theorem Lf_eq {c : Nat} {N ρ : Nat → Nat} (hN : ∀ e, e < 8 * c → N e ≤ c) (hρ : ∀ e, e < 8 * c → N e ≠ 0 → ρ (N e - 1) < ρ (e / 8)) : eqL c N (fun j => Lf N (ρ j + 1) j) := by
  intro j hj
  show mx (eL N (Lf N (ρ j)) j) 8 = mx (eL N (fun j => Lf N (ρ j + 1) j) j) 8
  refine mx_cong fun r hr => ?_
  unfold eL
  by_cases z : N (8 * j + r) = 0
  · rw [if_pos z, if_pos z]
  · have he := hN (8 * j + r) (by omega)
    have hk := hρ (8 * j + r) (by omega) z
    rw [show (8 * j + r) / 8 = j by omega] at hk
    rw [if_neg z, if_neg z]
    show Lf N (ρ j) _ + 1 = Lf N (ρ (N (8 * j + r) - 1) + 1) _ + 1
    rw [Lf_one hN hρ _ (ρ (N (8 * j + r) - 1) + 1) _ (by omega) hk (Nat.lt_succ_self _)]
def eN (N W : Nat → Nat) (j r : Nat) : Nat := if N (8 * j + r) = 0 then 0 else W (N (8 * j + r) - 1)
def Wf (N : Nat → Nat) : Nat → Nat → Nat
  | 0, _ => 0
  | n + 1, j => (if noE N j = true then 1 else 0) + fb_sm (eN N (Wf N n) j) 8
theorem Wf_one {c : Nat} {N ρ : Nat → Nat} (hN : ∀ e, e < 8 * c → N e ≤ c) (hρ : ∀ e, e < 8 * c → N e ≠ 0 → ρ (N e - 1) < ρ (e / 8)) : ∀ n m j, j < c → ρ j < n → ρ j < m → Wf N n j = Wf N m j
  | 0, _, _, _, h, _ => absurd h (Nat.not_lt_zero _)
  | n + 1, 0, _, _, _, h => absurd h (Nat.not_lt_zero _)
  | n + 1, m + 1, j, hj, h1, h2 => by
    show (if noE N j = true then 1 else 0) + fb_sm (eN N (Wf N n) j) 8 = (if noE N j = true then 1 else 0) + fb_sm (eN N (Wf N m) j) 8
    congr 1
    refine fb_sm_cong fun r hr => ?_
    unfold eN
    by_cases z : N (8 * j + r) = 0
    · rw [if_pos z, if_pos z]
    · have he := hN (8 * j + r) (by omega)
      have hk := hρ (8 * j + r) (by omega) z
      rw [show (8 * j + r) / 8 = j by omega] at hk
      rw [if_neg z, if_neg z, Wf_one hN hρ n m (N (8 * j + r) - 1) (by omega) (by omega) (by omega)]
def eqN (c : Nat) (N W : Nat → Nat) : Prop := ∀ j, j < c → W j = (if noE N j = true then 1 else 0) + fb_sm (eN N W j) 8
theorem Wf_eq {c : Nat} {N ρ : Nat → Nat} (hN : ∀ e, e < 8 * c → N e ≤ c) (hρ : ∀ e, e < 8 * c → N e ≠ 0 → ρ (N e - 1) < ρ (e / 8)) : eqN c N (fun j => Wf N (ρ j + 1) j) := by
  intro j hj
  show (if noE N j = true then 1 else 0) + fb_sm (eN N (Wf N (ρ j)) j) 8 = (if noE N j = true then 1 else 0) + fb_sm (eN N (fun j => Wf N (ρ j + 1) j) j) 8
  congr 1
  refine fb_sm_cong fun r hr => ?_
  unfold eN
  by_cases z : N (8 * j + r) = 0
  · rw [if_pos z, if_pos z]
  · have he := hN (8 * j + r) (by omega)
    have hk := hρ (8 * j + r) (by omega) z
    rw [show (8 * j + r) / 8 = j by omega] at hk
    rw [if_neg z, if_neg z]
    show Wf N (ρ j) _ = Wf N (ρ (N (8 * j + r) - 1) + 1) _
    rw [Wf_one hN hρ _ (ρ (N (8 * j + r) - 1) + 1) _ (by omega) hk (Nat.lt_succ_self _)]
theorem sl_lN (f : Nat → Nat) : ∀ k, sl (fun r => lN (f r)) k = lN (fb_sm f k)
  | 0 => rfl
  | k + 1 => by
    show sl (fun r => lN (f r)) k + lN (f k) = lN (fb_sm f k + f k)
    rw [sl_lN f k, lN_add]
theorem eqW_of {c : Nat} {N W : Nat → Nat} (h : eqN c N W) : eqW c N (fun j => lN (W j)) := by
  intro j hj
  have e1 : sl (eW N (fun j => lN (W j)) j) 8 = lN (fb_sm (eN N W j) 8) := by
    rw [← sl_lN]
    refine sl_cong fun r _ => ?_
    unfold eW eN
    by_cases z : N (8 * j + r) = 0
    · rw [if_pos z, if_pos z]; rfl
    · rw [if_neg z, if_neg z]
  show lN (W j) = _
  rw [e1, h j hj, ← lN_add]
  congr 1
  by_cases z : noE N j = true
  · rw [if_pos z, if_pos z]; rfl
  · rw [if_neg z, if_neg z]; rfl
theorem W_bound {c : Nat} {N ρ L W : Nat → Nat} (hN : ∀ e, e < 8 * c → N e ≤ c) (hρ : ∀ e, e < 8 * c → N e ≠ 0 → ρ (N e - 1) < ρ (e / 8)) (hL : eqL c N L) (hW : eqN c N W) : ∀ b j, j < c → ρ j < b → 1 ≤ W j ∧ W j ≤ 8 ^ L j
  | 0, _, _, h => absurd h (Nat.not_lt_zero _)
  | b + 1, j, hj, hb => by
    have ih := W_bound hN hρ hL hW b
    have h1 := hL j hj
    have h2 := hW j hj
    by_cases hn : noE N j = true
    · rw [if_pos hn] at h2
      have e0 : fb_sm (eN N W j) 8 = 0 := (fb_sm_cong (g := fun _ => 0) fun r hr => if_pos (noE_t hn hr)).trans (fb_sm_const 0 8)
      rw [e0] at h2
      rw [h2]
      exact ⟨Nat.le_refl 1, Nat.pow_pos (by decide)⟩
    · rw [if_neg hn] at h2
      have hn' : noE N j = false := by
        cases hh : noE N j with
        | false => rfl
        | true => exact absurd hh hn
      obtain ⟨r0, hr0, hz0⟩ := noE_f hn'
      have hed : ∀ r, r < 8 → N (8 * j + r) ≠ 0 → N (8 * j + r) - 1 < c ∧ ρ (N (8 * j + r) - 1) < b ∧ L (N (8 * j + r) - 1) + 1 ≤ L j := by
        intro r hr hz
        have he := hN (8 * j + r) (by omega)
        have hk := hρ (8 * j + r) (by omega) hz
        rw [show (8 * j + r) / 8 = j by omega] at hk
        have h3 := mx_ge (eL N L j) 8 r hr
        have e3 : eL N L j r = L (N (8 * j + r) - 1) + 1 := if_neg hz
        exact ⟨by omega, by omega, by omega⟩
      have hL1 : L j ≠ 0 := by
        have := (hed r0 hr0 hz0).2.2
        omega
      have hp : 8 ^ L j = 8 * 8 ^ (L j - 1) := by
        rw [Nat.mul_comm, ← Nat.pow_succ, show (L j - 1).succ = L j by omega]
      refine ⟨?_, ?_⟩
      · have h4 := fb_sm_part (eN N W j) hr0
        have h5 := fb_sm_mono (eN N W j) 0 r0
        obtain ⟨k1, k2, -⟩ := hed r0 hr0 hz0
        have e4 : eN N W j r0 = W (N (8 * j + r0) - 1) := if_neg hz0
        have := (ih _ k1 k2).1
        omega
      · have h4 : fb_sm (eN N W j) 8 ≤ 8 * 8 ^ (L j - 1) := fb_sm_bound fun r hr => by
          unfold eN
          by_cases z : N (8 * j + r) = 0
          · rw [if_pos z]; exact Nat.zero_le _
          · rw [if_neg z]
            obtain ⟨k1, k2, k3⟩ := hed r hr z
            exact Nat.le_trans (ih _ k1 k2).2 (Nat.pow_le_pow_right (by decide) (by omega))
        omega
/-- what a graph without circles has: ways in natural numbers -/
theorem acy_W {c : Nat} {N : Nat → Nat} (hc : 1 ≤ c) (hN : ∀ e, e < 8 * c → N e ≤ c) (h : acy c N) : ∃ L W : Nat → Nat, eqL c N L ∧ eqW c N (fun j => lN (W j)) ∧ 1 ≤ W 0 ∧ W 0 ≤ 8 ^ L 0 := by
  obtain ⟨ρ, hρ⟩ := h
  have hL := Lf_eq hN hρ
  have hW := Wf_eq hN hρ
  have hb := W_bound hN hρ hL hW (ρ 0 + 1) 0 (by omega) (Nat.lt_succ_self _)
  exact ⟨_, _, hL, eqW_of hW, hb.1, hb.2⟩
theorem acy_end {c : Nat} {N : Nat → Nat} (hc : 1 ≤ c) (hN : ∀ e, e < 8 * c → N e ≤ c) (h : acy c N) : ∃ j, j < c ∧ noE N j = true := by
  obtain ⟨ρ, hρ⟩ := h
  have key : ∀ b j, j < c → ρ j < b → ∃ i, i < c ∧ noE N i = true := by
    intro b
    induction b with
    | zero => intro j _ hb; exact absurd hb (Nat.not_lt_zero _)
    | succ b ih =>
      intro j hj hb
      cases hn : noE N j with
      | true => exact ⟨j, hj, hn⟩
      | false =>
        obtain ⟨r, hr, hz⟩ := noE_f hn
        have he := hN (8 * j + r) (by omega)
        have hk := hρ (8 * j + r) (by omega) hz
        rw [show (8 * j + r) / 8 = j by omega] at hk
        exact ih (N (8 * j + r) - 1) (by omega) (by omega)
  exact key (ρ 0 + 1) 0 (by omega) (Nat.lt_succ_self _)
