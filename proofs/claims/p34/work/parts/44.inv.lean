/-! What stands between two calls. -/
/-- the table of places and the list of situations agree (kept too where nothing is explored: clear needs it) -/
def xO (u : xS) : Prop := ∃ (S : Nat → Nat) (c : Nat), c ≤ 1000 ∧ u.1 21 7 = nI c ∧ (∀ j, j < c → u.1 22 j = nI (S j) ∧ S j < 16384) ∧ ∀ y, y < 16384 → u.1 25 y = nI (plc S c y)
/-- n rules B, the situation x; explored or not -/
def xI (u : xS) (n : Nat) (B : Nat → Nat → Nat) (x : Nat) : Prop := xR u n B ∧ x < 64 * 2 ^ n ∧ u.1 33 3 = nI x ∧ xO u ∧ (u.1 21 8 = 0 ∨ (u.1 21 8 = 1 ∧ ∃ k, xDn u B x k))
theorem xO_fr {u w : xS} (h : xO u) (h7 : w.1 21 7 = u.1 21 7) (h22 : w.1 22 = u.1 22) (h25 : w.1 25 = u.1 25) : xO w := by
  obtain ⟨S, c, k1, k2, k3, k4⟩ := h
  exact ⟨S, c, k1, h7.trans k2, fun j hj => by rw [h22]; exact k3 j hj, fun y hy => by rw [h25]; exact k4 y hy⟩
theorem xO_dn {u : xS} {n : Nat} {B : Nat → Nat → Nat} (hB : gB n B) {x k : Nat} (hx : x < 64 * 2 ^ n) (h : xDn u B x k) : xO u := by
  obtain ⟨h1, h2, -, -⟩ := h
  have hk := bfs_ok hB hx k h1.1
  have h2n : 2 ^ n ≤ 2 ^ 8 := Nat.pow_le_pow_right (by decide) hB.1
  exact ⟨(bfs B x k).1, (bfs B x k).2.2.2.1, hk.2.1, h2.1, fun j hj => ⟨(h2.2.2.1 j hj).1, Nat.lt_of_lt_of_le (hk.2.2.1 j hj) (by omega)⟩, h2.2.2.2.2⟩
theorem xO_00 : xO u00 := by
  refine ⟨fun _ => 0, 0, by decide, u00_o (by decide) _, fun j hj => absurd hj (Nat.not_lt_zero j), fun y _ => ?_⟩
  rw [u00_o (by decide)]
  unfold plc
  rw [if_neg (Nat.not_lt_zero _)]
  rfl
theorem xI_00 : xI u00 0 B00 0 := ⟨xR_00, by decide, u00_o (by decide) _, xO_00, Or.inl (u00_o (by decide) _)⟩
/-- behind a call that forgets: whatever it wrote to rules and situation -/
theorem xI_w {u w : xS} {n m : Nat} {B B' : Nat → Nat → Nat} {x y : Nat} (h : xI u n B x) (hR : xR w m B') (hy : y < 64 * 2 ^ m) (h3 : w.1 33 3 = nI y) (h8 : w.1 21 8 = 0) (h7 : w.1 21 7 = u.1 21 7) (h22 : w.1 22 = u.1 22) (h25 : w.1 25 = u.1 25) : xI w m B' y := ⟨hR, hy, h3, xO_fr h.2.2.2.1 h7 h22 h25, Or.inl h8⟩
/-- behind a search -/
theorem xI_s {u w : xS} {n : Nat} {B : Nat → Nat → Nat} {x k : Nat} (h : xI u n B x) (hD : xDn w B x k) (h8 : w.1 21 8 = 1) (hq : ∀ q, q < 21 ∨ 33 ≤ q → w.1 q = u.1 q) : xI w n B x :=
  ⟨xR_fr h.1 (fun q hq9 => hq q (Or.inl hq9)), h.2.1, by rw [hq 33 (Or.inr (by decide))]; exact h.2.2.1, xO_dn h.1.1 h.2.1 hD, Or.inr ⟨h8, k, hD⟩⟩
