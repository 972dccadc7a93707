theorem xK_mv {ad ad2 : Nat → Nat} (h : ∀ k, k < 34 → ad2 k = ad k) {cI cL cR : ClassId} {r : Nat → Int32} {rl : Nat → Int64} : ∀ k, 16 ≤ k → k < 34 → k ≠ 17 → xK ad2 cI cL cR k r rl = xK ad cI cL cR k r rl
  | 0, h1, _, _ => absurd h1 (by decide)
  | 1, h1, _, _ => absurd h1 (by decide)
  | 2, h1, _, _ => absurd h1 (by decide)
  | 3, h1, _, _ => absurd h1 (by decide)
  | 4, h1, _, _ => absurd h1 (by decide)
  | 5, h1, _, _ => absurd h1 (by decide)
  | 6, h1, _, _ => absurd h1 (by decide)
  | 7, h1, _, _ => absurd h1 (by decide)
  | 8, h1, _, _ => absurd h1 (by decide)
  | 9, h1, _, _ => absurd h1 (by decide)
  | 10, h1, _, _ => absurd h1 (by decide)
  | 11, h1, _, _ => absurd h1 (by decide)
  | 12, h1, _, _ => absurd h1 (by decide)
  | 13, h1, _, _ => absurd h1 (by decide)
  | 14, h1, _, _ => absurd h1 (by decide)
  | 15, h1, _, _ => absurd h1 (by decide)
  | 16, _, _, _ => by simp only [xK, h 17 (by decide), h 18 (by decide)]
  | 17, _, _, h3 => absurd rfl h3
  | 18, _, _, _ => rfl
  | 19, _, _, _ => by simp only [xK, h 16 (by decide), h 20 (by decide)]
  | 20, _, _, _ => rfl
  | 21, _, _, _ => by simp only [xK, h 16 (by decide), h 22 (by decide), h 23 (by decide), h 24 (by decide), h 25 (by decide), h 26 (by decide), h 28 (by decide)]
  | 22, _, _, _ => rfl
  | 23, _, _, _ => rfl
  | 24, _, _, _ => rfl
  | 25, _, _, _ => rfl
  | 26, _, _, _ => by simp only [xK, h 27 (by decide)]
  | 27, _, _, _ => rfl
  | 28, _, _, _ => by simp only [xK, h 29 (by decide), h 30 (by decide), h 31 (by decide), h 32 (by decide)]
  | 29, _, _, _ => rfl
  | 30, _, _, _ => rfl
  | 31, _, _, _ => rfl
  | 32, _, _, _ => rfl
  | 33, _, _, _ => by simp only [xK, h 16 (by decide), h 19 (by decide), h 21 (by decide)]
  | k + 34, _, h2, _ => absurd h2 (by omega)
theorem xF_mv {D : va_G} {ad ad2 : Nat → Nat} (h : ∀ k, k < 34 → ad2 k = ad k) {cI cL cR : ClassId} {u : xS} {H : Heap} {k : Nat} (hk : k < 34) (hP : va_at D vwCl (ad k, xF ad cI cL cR u k) H) : va_at D vwCl (ad2 k, xF ad2 cI cL cR u k) H := by
  by_cases z : k = 17
  · subst z
    rw [h 17 (by decide)]
    refine Eq.trans (show H[ad 17]? = _ from hP) (congrArg some (congrArg (fun z => ({ cls := cR, slots := z, vm := .none } : Cell)) (congrArg (fun g => Array.ofFn (n := 8) g) (funext fun (i : Fin 8) => ?_))))
    show va_rf (some (ad i.val)) = va_rf (some (ad2 i.val))
    rw [h i.val (by have := i.isLt; omega)]
  · have e : xF ad2 cI cL cR u k = xF ad cI cL cR u k := by
      unfold xF
      by_cases z1 : k < 8
      · rw [if_pos z1, if_pos z1]
        unfold rF
        rw [h (8 + k) (by omega)]
      · rw [if_neg z1, if_neg z1]
        by_cases z2 : k < 16
        · rw [if_pos z2, if_pos z2]
        · rw [if_neg z2, if_neg z2]
          exact xK_mv h k (by omega) hk z
    rw [h k hk, e]
    exact hP

/-! what the model's constructor makes -/
def m00 : xS := (fun _ _ => 0, fun _ _ => 0)
def bmA (h0 q1 q2 q3 q4 q5 q6 q7 q8 q9 q10 q11 : Nat) (k : Nat) : Nat := [h0, q1, q2, q3, q4, q5, q6, q7, q8, q9, q10, q11].getD k 0
def bmL (h0 q1 q2 q3 q4 q5 q6 q7 q8 q9 q10 q11 : Nat) (cI cL cB : ClassId) : va_W := [(h0, .inr (7, [.int 0, .int 0, .ref q1, .ref q2, .ref q3, .ref q4, .ref q5, .ref q6, .ref q7, .int 0, .int 0, .int 0, .int 0, .int 0, .ref q8, .ref q9, .ref q10, .ref q11])), (q1, .inl (cI, 8, .inl (fun _ => 0))), (q2, .inl (cI, 8, .inl (fun _ => 0))), (q3, .inl (cI, 8, .inl (fun _ => 0))), (q4, .inl (cI, 8, .inl (fun _ => 0))), (q5, .inl (cI, 32, .inl (fun _ => 0))), (q6, .inl (cB, 8, .inl (fun _ => 0))), (q7, .inl (cI, 8, .inl (fun _ => 0))), (q8, .inl (cI, 1000, .inl (fun _ => 0))), (q9, .inl (cI, 8000, .inl (fun _ => 0))), (q10, .inl (cI, 1000, .inl (fun _ => 0))), (q11, .inl (cL, 1000, .inr (.inl (fun _ => 0))))]
theorem bm_at (h0 q1 q2 q3 q4 q5 q6 q7 q8 q9 q10 q11 : Nat) (cI cL cB : ClassId) : ∀ k, k < 12 → ∃ e, (bmL h0 q1 q2 q3 q4 q5 q6 q7 q8 q9 q10 q11 cI cL cB)[k]? = some (bmA h0 q1 q2 q3 q4 q5 q6 q7 q8 q9 q10 q11 k, e)
  | 0, _ => ⟨_, rfl⟩
  | 1, _ => ⟨_, rfl⟩
  | 2, _ => ⟨_, rfl⟩
  | 3, _ => ⟨_, rfl⟩
  | 4, _ => ⟨_, rfl⟩
  | 5, _ => ⟨_, rfl⟩
  | 6, _ => ⟨_, rfl⟩
  | 7, _ => ⟨_, rfl⟩
  | 8, _ => ⟨_, rfl⟩
  | 9, _ => ⟨_, rfl⟩
  | 10, _ => ⟨_, rfl⟩
  | 11, _ => ⟨_, rfl⟩
  | k + 12, h => absurd h (by omega)
theorem bm_P {D : va_G} {H : Heap} {h0 q1 q2 q3 q4 q5 q6 q7 q8 q9 q10 q11 : Nat} {cI cL cB : ClassId} (h : va_P D vwCl (bmL h0 q1 q2 q3 q4 q5 q6 q7 q8 q9 q10 q11 cI cL cB) H) : ∀ k, k < 12 → va_at D vwCl (bmA h0 q1 q2 q3 q4 q5 q6 q7 q8 q9 q10 q11 k, mF (bmA h0 q1 q2 q3 q4 q5 q6 q7 q8 q9 q10 q11) cI cL cB m00 k) H
  | 0, _ => h 0 _ rfl
  | 1, _ => h 1 _ rfl
  | 2, _ => h 2 _ rfl
  | 3, _ => h 3 _ rfl
  | 4, _ => h 4 _ rfl
  | 5, _ => h 5 _ rfl
  | 6, _ => h 6 _ rfl
  | 7, _ => h 7 _ rfl
  | 8, _ => h 8 _ rfl
  | 9, _ => h 9 _ rfl
  | 10, _ => h 10 _ rfl
  | 11, _ => h 11 _ rfl
  | k + 12, h => absurd h (by omega)
theorem born7 {D : va_G} {A : Nat → Prop} {t : State} {h0 q1 q2 q3 q4 q5 q6 q7 q8 q9 q10 q11 : Nat} {c1 c2 c3 c4 c5 c6 c7 c8 c9 c10 c11 : ClassId} (hP : va_P D vwCl [(h0, .inr (7, [.int 0, .int 0, .ref q1, .ref q2, .ref q3, .ref q4, .ref q5, .ref q6, .ref q7, .int 0, .int 0, .int 0, .int 0, .int 0, .ref q8, .ref q9, .ref q10, .ref q11])), (q1, .inl (c1, 8, .inl (fun _ => 0))), (q2, .inl (c2, 8, .inl (fun _ => 0))), (q3, .inl (c3, 8, .inl (fun _ => 0))), (q4, .inl (c4, 8, .inl (fun _ => 0))), (q5, .inl (c5, 32, .inl (fun _ => 0))), (q6, .inl (c6, 8, .inl (fun _ => 0))), (q7, .inl (c7, 8, .inl (fun _ => 0))), (q8, .inl (c8, 1000, .inl (fun _ => 0))), (q9, .inl (c9, 8000, .inl (fun _ => 0))), (q10, .inl (c10, 1000, .inl (fun _ => 0))), (q11, .inl (c11, 1000, .inr (.inl (fun _ => 0))))] t.heap) (hD : va_D A [(h0, .inr (7, [.int 0, .int 0, .ref q1, .ref q2, .ref q3, .ref q4, .ref q5, .ref q6, .ref q7, .int 0, .int 0, .int 0, .int 0, .int 0, .ref q8, .ref q9, .ref q10, .ref q11])), (q1, .inl (c1, 8, .inl (fun _ => 0))), (q2, .inl (c2, 8, .inl (fun _ => 0))), (q3, .inl (c3, 8, .inl (fun _ => 0))), (q4, .inl (c4, 8, .inl (fun _ => 0))), (q5, .inl (c5, 32, .inl (fun _ => 0))), (q6, .inl (c6, 8, .inl (fun _ => 0))), (q7, .inl (c7, 8, .inl (fun _ => 0))), (q8, .inl (c8, 1000, .inl (fun _ => 0))), (q9, .inl (c9, 8000, .inl (fun _ => 0))), (q10, .inl (c10, 1000, .inl (fun _ => 0))), (q11, .inl (c11, 1000, .inr (.inl (fun _ => 0))))]) (hK : va_K D vwCl [(c1, .int), (c2, .int), (c3, .int), (c4, .int), (c5, .int), (c6, .boolean), (c7, .int), (c8, .int), (c9, .int), (c10, .int), (c11, .long)] t) : ∃ (ad : Nat → Nat) (cI cL cB : ClassId), gI 12 ad ∧ ad 0 = h0 ∧ va_P D vwCl (gW 12 ad (mF ad cI cL cB m00)) t.heap ∧ va_K D vwCl (mT cI cL cB) t ∧ ∀ k, k < 12 → A (ad k) := by
  obtain ⟨cI, hcI⟩ : ∃ z, z = c1 := ⟨_, rfl⟩
  have e_c1 : c1 = cI := hcI.symm
  have e_c2 : c2 = cI := by rw [hcI]; exact ra_i (hK.2 1 _ rfl).2 (hK.2 0 _ rfl).2
  have e_c3 : c3 = cI := by rw [hcI]; exact ra_i (hK.2 2 _ rfl).2 (hK.2 0 _ rfl).2
  have e_c4 : c4 = cI := by rw [hcI]; exact ra_i (hK.2 3 _ rfl).2 (hK.2 0 _ rfl).2
  have e_c5 : c5 = cI := by rw [hcI]; exact ra_i (hK.2 4 _ rfl).2 (hK.2 0 _ rfl).2
  have e_c7 : c7 = cI := by rw [hcI]; exact ra_i (hK.2 6 _ rfl).2 (hK.2 0 _ rfl).2
  have e_c8 : c8 = cI := by rw [hcI]; exact ra_i (hK.2 7 _ rfl).2 (hK.2 0 _ rfl).2
  have e_c9 : c9 = cI := by rw [hcI]; exact ra_i (hK.2 8 _ rfl).2 (hK.2 0 _ rfl).2
  have e_c10 : c10 = cI := by rw [hcI]; exact ra_i (hK.2 9 _ rfl).2 (hK.2 0 _ rfl).2
  rw [e_c1] at hP hD hK
  rw [e_c2] at hP hD hK
  rw [e_c3] at hP hD hK
  rw [e_c4] at hP hD hK
  rw [e_c5] at hP hD hK
  rw [e_c7] at hP hD hK
  rw [e_c8] at hP hD hK
  rw [e_c9] at hP hD hK
  rw [e_c10] at hP hD hK
  have hP1 : va_P D vwCl (bmL h0 q1 q2 q3 q4 q5 q6 q7 q8 q9 q10 q11 cI c11 c6) t.heap := hP
  have hD1 : va_D A (bmL h0 q1 q2 q3 q4 q5 q6 q7 q8 q9 q10 q11 cI c11 c6) := hD
  refine ⟨bmA h0 q1 q2 q3 q4 q5 q6 q7 q8 q9 q10 q11, cI, c11, c6, fun i j hi hj hij => ?_, rfl, gP_of (bm_P hP1), hK.sub [0, 10, 5] rfl, fun k hk => ?_⟩
  · obtain ⟨e1, h1⟩ := bm_at h0 q1 q2 q3 q4 q5 q6 q7 q8 q9 q10 q11 cI c11 c6 i hi
    obtain ⟨e2, h2⟩ := bm_at h0 q1 q2 q3 q4 q5 q6 q7 q8 q9 q10 q11 cI c11 c6 j hj
    exact hD1.1 _ _ _ _ h1 h2 hij
  · obtain ⟨e1, h1⟩ := bm_at h0 q1 q2 q3 q4 q5 q6 q7 q8 q9 q10 q11 cI c11 c6 k hk
    exact hD1.2 _ _ h1
/-! the first joint state -/
theorem mR_00 : mR m00 0 B00 := ⟨by decide, rfl, fun i hi => absurd hi (Nat.not_lt_zero i)⟩
theorem JI_00 : JI u00 m00 0 B00 0 := ⟨xI_00, ⟨mR_00, rfl, rfl, Or.inl rfl⟩, (u00_o (by decide) _).trans rfl⟩
