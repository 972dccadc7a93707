/-! The model's settling: lo j is 0 while j isn't settled, else one more than its longest way; W j its ways. -/
theorem nx_s (k : Nat) : nI k = nxI (k + 1) := by
  unfold nxI
  rw [if_neg (Nat.succ_ne_zero k)]
  rfl
def stl (lo : Nat → Nat) (j : Nat) : Bool := decide (lo j ≠ 0)
def sUn (N lo : Nat → Nat) (k r : Nat) : Bool := decide (N (8 * k + r) ≠ 0) && decide (lo (N (8 * k + r) - 1) = 0)
def loP (lo : Nat → Nat) (i : Nat) : Nat := lo i - 1
def sOk (c : Nat) (N lo : Nat → Nat) (W : Nat → Int64) : Prop := ∀ j, j < c → lo j ≠ 0 → (∀ r, r < 8 → N (8 * j + r) ≠ 0 → lo (N (8 * j + r) - 1) ≠ 0) ∧ lo j = mx (eL N (loP lo) j) 8 + 1 ∧ W j = (if noE N j = true then 1 else 0) + sl (eW N W j) 8
def sCl (c : Nat) (N lo : Nat → Nat) (k : Nat) : Prop := ∀ j, k ≤ j → j < c → lo j = 0 → ∃ r, r < 8 ∧ N (8 * j + r) ≠ 0 ∧ lo (N (8 * j + r) - 1) = 0
theorem mx_ext {f : Nat → Nat} {n : Nat} (h : ∀ r, n ≤ r → r < 8 → f r = 0) : ∀ d, n + d ≤ 8 → mx f (n + d) = mx f n
  | 0, _ => rfl
  | d + 1, hd => by
    show Nat.max (mx f (n + d)) (f (n + d)) = mx f n
    rw [h (n + d) (by omega) (by omega), mx_ext h d (by omega)]
    exact Nat.max_zero _
theorem sl_ext {f : Nat → Int64} {n : Nat} (h : ∀ r, n ≤ r → r < 8 → f r = 0) : ∀ d, n + d ≤ 8 → sl f (n + d) = sl f n
  | 0, _ => rfl
  | d + 1, hd => by
    show sl f (n + d) + f (n + d) = sl f n
    rw [h (n + d) (by omega) (by omega), sl_ext h d (by omega), Int64.add_zero]
theorem mx_le {f : Nat → Nat} {b : Nat} : ∀ n, (∀ i, i < n → f i ≤ b) → mx f n ≤ b
  | 0, _ => Nat.zero_le b
  | n + 1, h => Nat.max_le.mpr ⟨mx_le n fun i hi => h i (by omega), h n (by omega)⟩
theorem sOk_up {c : Nat} {N lo : Nat → Nat} {W : Nat → Int64} (h : sOk c N lo W) {k : Nat} (h0 : lo k = 0) (hs : ∀ r, r < 8 → N (8 * k + r) ≠ 0 → lo (N (8 * k + r) - 1) ≠ 0) : sOk c N (va_up lo k (mx (eL N (loP lo) k) 8 + 1)) (va_up W k ((if noE N k = true then 1 else 0) + sl (eW N W k) 8)) := by
  have key : ∀ j, (∀ r, r < 8 → N (8 * j + r) ≠ 0 → lo (N (8 * j + r) - 1) ≠ 0) → ∀ (v : Nat) (x : Int64), mx (eL N (loP (va_up lo k v)) j) 8 = mx (eL N (loP lo) j) 8 ∧ sl (eW N (va_up W k x) j) 8 = sl (eW N W j) 8 ∧ ∀ r, r < 8 → N (8 * j + r) ≠ 0 → va_up lo k v (N (8 * j + r) - 1) = lo (N (8 * j + r) - 1) := by
    intro j hj v x
    have ne : ∀ r, r < 8 → N (8 * j + r) ≠ 0 → N (8 * j + r) - 1 ≠ k := fun r hr hn e => hj r hr hn (by rw [e]; exact h0)
    refine ⟨mx_cong fun r hr => ?_, sl_cong fun r hr => ?_, fun r hr hn => vu_n (ne r hr hn)⟩
    · unfold eL loP
      by_cases z : N (8 * j + r) = 0
      · rw [if_pos z, if_pos z]
      · rw [if_neg z, if_neg z, vu_n (ne r hr z)]
    · unfold eW
      by_cases z : N (8 * j + r) = 0
      · rw [if_pos z, if_pos z]
      · rw [if_neg z, if_neg z, vu_n (ne r hr z)]
  intro j hj hl
  by_cases e : j = k
  · subst e
    obtain ⟨k1, k2, k3⟩ := key j hs (mx (eL N (loP lo) j) 8 + 1) ((if noE N j = true then 1 else 0) + sl (eW N W j) 8)
    rw [vu_s, vu_s, k1, k2]
    exact ⟨fun r hr hn => by rw [k3 r hr hn]; exact hs r hr hn, rfl, rfl⟩
  · rw [vu_n e] at hl
    obtain ⟨a1, a2, a3⟩ := h j hj hl
    obtain ⟨k1, k2, k3⟩ := key j a1 (mx (eL N (loP lo) k) 8 + 1) ((if noE N k = true then 1 else 0) + sl (eW N W k) 8)
    rw [vu_n e, vu_n e, k1, k2]
    exact ⟨fun r hr hn => by rw [k3 r hr hn]; exact a1 r hr hn, a2, a3⟩
/-- the first is settled: all are, and there is no circle -/
theorem sFin_y {c : Nat} {N lo : Nat → Nat} {W : Nat → Int64} (hc : 1 ≤ c) (hg : gOk c N) (h : sOk c N lo W) (h0 : lo 0 ≠ 0) : (∀ j, j < c → lo j ≠ 0) ∧ acy c N ∧ eqL c N (loP lo) ∧ eqW c N W := by
  have all : ∀ b j, j < b → j < c → lo j ≠ 0 := by
    intro b
    induction b with
    | zero => intro j hj; exact absurd hj (Nat.not_lt_zero j)
    | succ b ih =>
      intro j hj hjc
      rcases Nat.eq_zero_or_pos j with z | z
      · rw [z]; exact h0
      · obtain ⟨e, he, hn⟩ := hg.2 j z hjc
        have := (h (e / 8) (by omega) (ih (e / 8) (by omega) (by omega))).1 (e % 8) (by omega)
        rw [show 8 * (e / 8) + e % 8 = e by omega, hn] at this
        exact this (by omega)
  have al : ∀ j, j < c → lo j ≠ 0 := fun j hj => all (j + 1) j (Nat.lt_succ_self j) hj
  refine ⟨al, ⟨lo, fun e he hn => ?_⟩, fun j hj => ?_, fun j hj => (h j hj (al j hj)).2.2⟩
  · have hj : e / 8 < c := by omega
    have hi : N e - 1 < c := by have := hg.1 e he; omega
    have h1 := (h (e / 8) hj (al _ hj)).2.1
    have h2 := mx_ge (eL N (loP lo) (e / 8)) 8 (e % 8) (by omega)
    unfold eL at h2
    rw [show 8 * (e / 8) + e % 8 = e by omega, if_neg hn] at h2
    have h3 := al _ hi
    unfold loP at h2
    have h4 : mx (eL N (loP lo) (e / 8)) 8 = lo (e / 8) - 1 := by omega
    unfold eL loP at h4
    omega
  · have := (h j hj (al j hj)).2.1
    unfold loP at this ⊢
    omega
theorem sFin_n {c : Nat} {N lo : Nat → Nat} (hc : 1 ≤ c) (hN : ∀ e, e < 8 * c → N e ≤ c) (hcl : sCl c N lo 0) (h0 : lo 0 = 0) : ¬ acy c N := by
  rintro ⟨ρ, hρ⟩
  have key : ∀ v j, j < c → ρ j < v → lo j ≠ 0 := by
    intro v
    induction v with
    | zero => intro j _ hv; exact absurd hv (Nat.not_lt_zero _)
    | succ v ih =>
      intro j hj hv z
      obtain ⟨r, hr, hn, hz⟩ := hcl j (Nat.zero_le j) hj z
      have he := hN (8 * j + r) (by omega)
      have h1 := hρ (8 * j + r) (by omega) hn
      rw [show (8 * j + r) / 8 = j by omega] at h1
      exact ih _ (by omega) (by omega) hz
  exact key (ρ 0 + 1) 0 hc (Nat.lt_succ_self _) h0
/-- the model's two rows tell lo and W -/
def stI (u : xS) (c : Nat) (N lo : Nat → Nat) (W : Nat → Int64) (ct : Nat) (w : xS) : Prop := ct = fb_ct (stl lo) c ∧ sOk c N lo W ∧ (∀ j, j < c → w.1 10 j = nxI (lo j)) ∧ (∀ j, j < c → lo j ≠ 0 → w.2 11 j = W j) ∧ (∀ j, j < c → lo j ≤ ct) ∧ ∀ q, q ≠ 10 → w.1 q = u.1 q
theorem stI_0 {u w : xS} {c : Nat} {N : Nat → Nat} (h : ∀ j, j < c → w.1 10 j = -1) (hF : ∀ q, q ≠ 10 → w.1 q = u.1 q) : stI u c N (fun _ => 0) (fun _ => 0) 0 w :=
  ⟨(fb_ct_zero.mpr fun _ _ => decide_eq_false fun z => z rfl).symm, fun _ _ h => absurd rfl h, h, fun _ _ h => absurd rfl h, fun _ _ => Nat.le_refl 0, hF⟩
/-- one more settled -/
theorem stI_up {u w v : xS} {c n : Nat} {N lo : Nat → Nat} {W : Nat → Int64} {ct k : Nat} (hn8 : n ≤ 8) (h : stI u c N lo W ct w) (hk : k < c) (hN : ∀ e, e < 8 * c → N e ≤ c) (h0 : lo k = 0) (hz : ∀ r, n ≤ r → r < 8 → N (8 * k + r) = 0) (hs : ∀ r, r < n → N (8 * k + r) ≠ 0 → lo (N (8 * k + r) - 1) ≠ 0)
    (hv : v.1 10 k = nI (mx (eL N (loP lo) k) n)) (hvo : ∀ j, j < c → j ≠ k → v.1 10 j = nxI (lo j)) (hw : v.2 11 k = (if noE N k = true then 1 else 0) + sl (eW N W k) n) (hwo : ∀ j, j < c → j ≠ k → lo j ≠ 0 → v.2 11 j = W j) (hF : ∀ q, q ≠ 10 → v.1 q = u.1 q) : stI u c N (va_up lo k (mx (eL N (loP lo) k) 8 + 1)) (va_up W k ((if noE N k = true then 1 else 0) + sl (eW N W k) 8)) (ct + 1) v := by
  obtain ⟨a1, a2, a3, a4, a5, a6⟩ := h
  have e8 := show n + (8 - n) = 8 by omega
  have m8 : mx (eL N (loP lo) k) 8 = mx (eL N (loP lo) k) n := by
    have := mx_ext (f := eL N (loP lo) k) (n := n) (fun r h1 h2 => if_pos (hz r h1 h2)) (8 - n) (by omega)
    rw [e8] at this
    exact this
  have s8 : sl (eW N W k) 8 = sl (eW N W k) n := by
    have := sl_ext (f := eW N W k) (n := n) (fun r h1 h2 => if_pos (hz r h1 h2)) (8 - n) (by omega)
    rw [e8] at this
    exact this
  have hs8 : ∀ r, r < 8 → N (8 * k + r) ≠ 0 → lo (N (8 * k + r) - 1) ≠ 0 := fun r hr hn => by
    rcases Nat.lt_or_ge r n with q | q
    · exact hs r q hn
    · exact absurd (hz r q hr) hn
  refine ⟨?_, sOk_up a2 h0 hs8, fun j hj => ?_, fun j hj hl => ?_, fun j hj => ?_, hF⟩
  · have := fb_ct_upd (stl lo) true hk
    rw [show stl lo k = false from decide_eq_false fun z => z h0, if_neg (by decide), if_pos rfl] at this
    have e : fb_ct (stl (va_up lo k (mx (eL N (loP lo) k) 8 + 1))) c = fb_ct (fun j => if j = k then true else stl lo j) c := fb_ct_cong fun j _ => by
      unfold stl
      by_cases z : j = k
      · rw [z, vu_s, if_pos rfl]; exact decide_eq_true (by omega)
      · rw [vu_n z, if_neg z]
    omega
  · by_cases z : j = k
    · rw [z, vu_s, hv, m8]; exact nx_s _
    · rw [vu_n z]; exact hvo j hj z
  · by_cases z : j = k
    · rw [z, vu_s, hw, s8]
    · rw [vu_n z] at hl ⊢; exact hwo j hj z hl
  · by_cases z : j = k
    · rw [z, vu_s]
      have : mx (eL N (loP lo) k) 8 ≤ ct := mx_le 8 fun r hr => by
        unfold eL
        by_cases y : N (8 * k + r) = 0
        · rw [if_pos y]; omega
        · rw [if_neg y]
          have b1 := hs8 r hr y
          have b2 := a5 (N (8 * k + r) - 1) (by have := hN (8 * k + r) (by omega); omega)
          unfold loP
          omega
      omega
    · rw [vu_n z]
      have := a5 j hj
      omega
theorem plb_un {N lo : Nat → Nat} {k n : Nat} (h : 1 - plb (sUn N lo k) n ≠ 0) {r : Nat} (hr : r < n) (hn : N (8 * k + r) ≠ 0) : lo (N (8 * k + r) - 1) ≠ 0 := fun z => by
  unfold plb at h
  split at h
  · rename_i h1
    have := fb_ct_zero.mp h1 r hr
    unfold sUn at this
    rw [decide_eq_true hn, decide_eq_true z] at this
    exact absurd this (by decide)
  · exact h rfl
theorem plb_cl {N lo : Nat → Nat} {k n : Nat} (h : 1 - plb (sUn N lo k) n = 0) : ∃ r, r < n ∧ N (8 * k + r) ≠ 0 ∧ lo (N (8 * k + r) - 1) = 0 := by
  unfold plb at h
  split at h
  · exact absurd h (by decide)
  · rename_i h1
    obtain ⟨r, hr, hp⟩ := fb_ct_pos.mp (Nat.pos_of_ne_zero h1)
    unfold sUn at hp
    rw [Bool.and_eq_true, decide_eq_true_eq, decide_eq_true_eq] at hp
    exact ⟨r, hr, hp.1, hp.2⟩
theorem nx_dec (k : Nat) : nI k + Int32.ofInt (-1) = nxI k := by
  cases k with
  | zero => rfl
  | succ k => exact (pk_m1 k).trans (nx_s k)
theorem nx_pre {c : Nat} (h : 1 ≤ c) : nI c - nI 1 = nxI c := (pk_sub h).trans (nx_v (by omega)).symm
theorem mx_s {N lo : Nat → Nat} {k r : Nat} (hz : N (8 * k + r) ≠ 0) : Nat.max (mx (eL N (loP lo) k) r) (1 + (lo (N (8 * k + r) - 1) - 1)) = mx (eL N (loP lo) k) (r + 1) := by
  show _ = Nat.max (mx (eL N (loP lo) k) r) (eL N (loP lo) k r)
  unfold eL
  rw [if_neg hz]
  unfold loP
  rw [Nat.add_comm 1]
theorem mx_z {N L : Nat → Nat} {k r : Nat} (hz : N (8 * k + r) = 0) : mx (eL N L k) r = mx (eL N L k) (r + 1) := by
  show _ = Nat.max (mx (eL N L k) r) (eL N L k r)
  rw [show eL N L k r = 0 from if_pos hz]
  exact (Nat.max_zero _).symm
theorem sl_z {N : Nat → Nat} {W : Nat → Int64} {k r : Nat} (hz : N (8 * k + r) = 0) : sl (eW N W k) r = sl (eW N W k) (r + 1) := by
  show _ = sl (eW N W k) r + eW N W k r
  rw [show eW N W k r = 0 from if_pos hz, Int64.add_zero]
theorem sl_y {N : Nat → Nat} {W : Nat → Int64} {k r : Nat} (hz : N (8 * k + r) ≠ 0) (e0 : Int64) : e0 + sl (eW N W k) r + W (N (8 * k + r) - 1) = e0 + sl (eW N W k) (r + 1) := by
  show _ = e0 + (sl (eW N W k) r + eW N W k r)
  rw [show eW N W k r = W (N (8 * k + r) - 1) from if_neg hz, Int64.add_assoc]
