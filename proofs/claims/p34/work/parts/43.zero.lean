/-! The new analyzer: no rules. -/
def B00 : Nat → Nat → Nat := fun _ _ => 0
theorem u00_o {q : Nat} (h : q ≠ 26) (j : Nat) : u00.1 q j = 0 := by
  unfold u00
  dsimp only
  split
  · exact absurd rfl h
  · rfl
theorem abv_00 (i : Nat) : abv B00 i = 0 := by
  refine Nat.eq_of_testBit_eq (fun j => ?_)
  unfold abv B00
  rw [mks_bit]
  simp
theorem lis_00 (e : Nat) : lis B00 e = 0 := by
  refine Nat.eq_of_testBit_eq (fun j => ?_)
  unfold lis B00
  rw [mks_bit]
  simp
theorem gB_00 : gB 0 B00 := by
  refine ⟨by decide, fun i _ => ⟨(by decide : (0 : Nat) < 12), (by decide : (0 : Nat) < 64), (by decide : (0 : Nat) < 64), (by decide : (0 : Nat) ≤ 1), (by decide : (0 : Nat) ≤ 4), (by decide : (0 : Nat) < 256), fun k _ => (by decide : (0 : Nat) < 12)⟩, fun i _ _ => ⟨rfl, rfl, rfl, fun j _ => Nat.zero_testBit i⟩, fun i _ => Nat.zero_testBit i, fun i j k _ _ _ h _ => ?_⟩
  have h : (0 : Nat).testBit j = true := h
  rw [Nat.zero_testBit] at h
  exact absurd h (by decide)
theorem xR_00 : xR u00 0 B00 := by
  refine ⟨gB_00, u00_o (by decide) _, fun i hi => ?_, fun e _ => by rw [lis_00]; exact u00_o (by decide) _⟩
  rw [abv_00, u00_o (by omega), u00_o (by omega), u00_o (by omega), u00_o (by omega), u00_o (by omega), u00_o (by omega), u00_o (by omega), u00_o (by omega), u00_o (by omega)]
  exact ⟨rfl, rfl, rfl, rfl, rfl, rfl, rfl, rfl, rfl, fun k hk => absurd hk (Nat.not_lt_zero k)⟩
