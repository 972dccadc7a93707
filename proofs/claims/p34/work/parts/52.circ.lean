/-! No rule in a circle: playing comes to an end. -/
def cw (B : Nat → Nat → Nat) (i : Nat) : Nat := fb_ct (fun j => (war B 8 i).testBit j) 8
def vw9 (B : Nat → Nat → Nat) (i : Nat) : Nat := 9 ^ cw B i
theorem cw_lt {B : Nat → Nat → Nat} (h0 : cirs B 8 = 0) {i j : Nat} (hj : j < 8) (h : (trg B i).testBit j = true) : cw B j < cw B i := by
  have hn : (war B 8 j).testBit j = false := by
    have h1 := cirs_bit (B := B) (j := j) 8
    rw [h0, Nat.zero_testBit, decide_eq_true hj, Bool.true_and] at h1
    exact h1.symm
  exact ct_less (fun k _ hk => war_tr 8 i j k hj (war_up h 8) hk) hj hn (war_up h 8)
theorem vw9_le {B : Nat → Nat → Nat} (h0 : cirs B 8 = 0) {i j : Nat} (hj : j < 8) (h : (trg B i).testBit j = true) : 9 * vw9 B j ≤ vw9 B i := by
  unfold vw9
  rw [Nat.mul_comm, ← Nat.pow_succ]
  exact Nat.pow_le_pow_right (by decide) (cw_lt h0 hj h)
/-- the weight of the triggered rules falls with each play -/
def wS (B : Nat → Nat → Nat) (t : Nat) : Nat := fb_sm (fun i => if t.testBit i = true then vw9 B i else 0) 8
theorem wS_lt {n : Nat} {B : Nat → Nat → Nat} (hB : gB n B) (h0 : cirs B 8 = 0) {x r : Nat} (hr : r < 8) (ho : onx B x) (ht : (x / 64).testBit r = true) : wS B (ply B r x / 64) < wS B (x / 64) := by
  have hon : B r 3 = 1 := ho r ht
  have htr : trg B r = trgs B r (B r 4) := if_neg (by omega)
  have h1 : wS B (ply B r x / 64) ≤ fb_sm (fun i => (if i = r then 0 else (fun i => if (x / 64).testBit i = true then vw9 B i else 0) i) + (if (trg B r).testBit i = true then vw9 B i else 0)) 8 := by
    refine fb_sm_le fun i hi => ?_
    by_cases z : (ply B r x / 64).testBit i = true
    · rw [if_pos z]
      rcases ply_in hB hr z with ⟨y1, y2⟩ | y
      · rw [if_neg y2]
        dsimp only
        rw [if_pos y1]
        exact Nat.le_add_right _ _
      · rw [← htr] at y
        rw [if_pos y]
        exact Nat.le_add_left _ _
    · rw [if_neg z]
      exact Nat.zero_le _
  rw [fb_sm_add] at h1
  have h2 := fb_sm_upd (fun i => if (x / 64).testBit i = true then vw9 B i else 0) 0 hr
  dsimp only at h2 h1
  rw [if_pos ht] at h2
  have h3 : fb_sm (fun i => if (trg B r).testBit i = true then vw9 B i else 0) 8 ≤ 8 * (vw9 B r / 9) := fb_sm_bound fun i hi => by
    by_cases z : (trg B r).testBit i = true
    · rw [if_pos z]
      have := vw9_le h0 hi z
      omega
    · rw [if_neg z]
      exact Nat.zero_le _
  have h4 : 0 < vw9 B r := Nat.pow_pos (by decide)
  show _ < fb_sm (fun i => if (x / 64).testBit i = true then vw9 B i else 0) 8
  omega
theorem acy_circ {n : Nat} {B : Nat → Nat → Nat} (hB : gB n B) {x0 c : Nat} {S D N : Nat → Nat} (hx : x0 < 64 * 2 ^ n) (ho : onx B x0) (h : eAll n B x0 c S D N) (h0 : cirs B 8 = 0) : acy c N := by
  obtain ⟨-, -, -, -, -, -, h7, h8⟩ := h
  refine ⟨fun j => wS B (S j / 64), fun e he hN => ?_⟩
  have hj : e / 8 < c := by omega
  have hr : e % 8 < 8 := by omega
  have h9 := h8 (e / 8) (e % 8) hj hr
  rw [show 8 * (e / 8) + e % 8 = e by omega] at h9
  have hb : (rdy B (S (e / 8) / 64)).testBit (e % 8) = true := by
    cases hh : (rdy B (S (e / 8) / 64)).testBit (e % 8) with
    | true => rfl
    | false => exact absurd (h9.1.mpr hh) hN
  show wS B (S (N e - 1) / 64) < wS B (S (e / 8) / 64)
  rw [(h9.2 hN).2]
  exact wS_lt hB h0 hr (pth_on hB _ _ _ ho hx (h7 _ hj).1).1 (rdy_trg hb hr)
