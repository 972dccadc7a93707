/-! What the analyzer's constructor makes is the class's world. -/
def u00 : xS := (fun q j => match q with
  | 26 => (match j with
    | 2 => -1
    | _ => 0)
  | _ => 0, fun _ _ => 0)
theorem ra_i {U : State} {c c' : ClassId} (h : va_RA U c .int) (h' : va_RA U c' .int) : c = c' := Option.some.inj (h.symm.trans h')
def bnL (h0 q1 q2 q3 q4 q5 q6 q7 q8 q9 q10 q11 q12 q13 q14 q15 q16 q17 q18 q19 q30 q31 q33 q34 q35 q36 q37 q38 q39 q40 q41 q42 q43 q44 : Nat) (cI cL cR : ClassId) : va_W := [(h0, .inr (6, [.ref q1, .ref q30, .ref q33, .int 0])), (q1, .inr (5, [.ref q2, .ref q3, .int 0])), (q2, .inl (cR, 8, .inr (.inr (.inr (.inr (va_up (va_up (va_up (va_up (va_up (va_up (va_up (va_up (fun _ => none) 0 (some q4)) 1 (some q6)) 2 (some q8)) 3 (some q10)) 4 (some q12)) 5 (some q14)) 6 (some q16)) 7 (some q18))))))), (q3, .inl (cI, 12, .inl (fun _ => 0))), (q4, .inr (4, [.int (nI 1), .ref q5, .int 0, .int 0, .int 0, .int 0, .int 0, .int 0, .int 0, .int 0, .int 0])), (q5, .inl (cI, 4, .inl (fun _ => 0))), (q6, .inr (4, [.int (nI 2), .ref q7, .int 0, .int 0, .int 0, .int 0, .int 0, .int 0, .int 0, .int 0, .int 0])), (q7, .inl (cI, 4, .inl (fun _ => 0))), (q8, .inr (4, [.int (nI 4), .ref q9, .int 0, .int 0, .int 0, .int 0, .int 0, .int 0, .int 0, .int 0, .int 0])), (q9, .inl (cI, 4, .inl (fun _ => 0))), (q10, .inr (4, [.int (nI 8), .ref q11, .int 0, .int 0, .int 0, .int 0, .int 0, .int 0, .int 0, .int 0, .int 0])), (q11, .inl (cI, 4, .inl (fun _ => 0))), (q12, .inr (4, [.int (nI 16), .ref q13, .int 0, .int 0, .int 0, .int 0, .int 0, .int 0, .int 0, .int 0, .int 0])), (q13, .inl (cI, 4, .inl (fun _ => 0))), (q14, .inr (4, [.int (nI 32), .ref q15, .int 0, .int 0, .int 0, .int 0, .int 0, .int 0, .int 0, .int 0, .int 0])), (q15, .inl (cI, 4, .inl (fun _ => 0))), (q16, .inr (4, [.int (nI 64), .ref q17, .int 0, .int 0, .int 0, .int 0, .int 0, .int 0, .int 0, .int 0, .int 0])), (q17, .inl (cI, 4, .inl (fun _ => 0))), (q18, .inr (4, [.int (nI 128), .ref q19, .int 0, .int 0, .int 0, .int 0, .int 0, .int 0, .int 0, .int 0, .int 0])), (q19, .inl (cI, 4, .inl (fun _ => 0))), (q30, .inr (2, [.ref q1, .ref q31])), (q31, .inl (cI, 8, .inl (fun _ => 0))), (q33, .inr (1, [.ref q1, .ref q34, .ref q35, .ref q36, .ref q37, .ref q38, .ref q40, .int 0, .int 0, .int 0, .int 0, .int 0])), (q34, .inl (cI, 1000, .inl (fun _ => 0))), (q35, .inl (cI, 1000, .inl (fun _ => 0))), (q36, .inl (cI, 8000, .inl (fun _ => 0))), (q37, .inl (cI, 16384, .inl (fun _ => 0))), (q38, .inr (0, [.ref q39, .int 0, .int ((-1))])), (q39, .inl (cI, 64, .inl (fun _ => 0))), (q40, .inr (3, [.ref q41, .ref q42, .ref q43, .ref q44, .int 0, .int 0, .int 0, .long 0])), (q41, .inl (cI, 1000, .inl (fun _ => 0))), (q42, .inl (cI, 1000, .inl (fun _ => 0))), (q43, .inl (cL, 1000, .inr (.inl (fun _ => 0)))), (q44, .inl (cI, 1000, .inl (fun _ => 0)))]
def bnA (h0 q1 q2 q3 q4 q5 q6 q7 q8 q9 q10 q11 q12 q13 q14 q15 q16 q17 q18 q19 q30 q31 q33 q34 q35 q36 q37 q38 q39 q40 q41 q42 q43 q44 : Nat) (k : Nat) : Nat := [q4, q6, q8, q10, q12, q14, q16, q18, q5, q7, q9, q11, q13, q15, q17, q19, q1, q2, q3, q30, q31, q33, q34, q35, q36, q37, q38, q39, q40, q41, q42, q43, q44, h0].getD k 0
def bnP (k : Nat) : Nat := [4, 6, 8, 10, 12, 14, 16, 18, 5, 7, 9, 11, 13, 15, 17, 19, 1, 2, 3, 20, 21, 22, 23, 24, 25, 26, 27, 28, 29, 30, 31, 32, 33, 0].getD k 0
theorem bnP_inj : ∀ i, i < 34 → ∀ j, j < 34 → bnP i = bnP j → i = j := by decide +kernel
theorem bn_at (h0 q1 q2 q3 q4 q5 q6 q7 q8 q9 q10 q11 q12 q13 q14 q15 q16 q17 q18 q19 q30 q31 q33 q34 q35 q36 q37 q38 q39 q40 q41 q42 q43 q44 : Nat) (cI cL cR : ClassId) : ∀ k, k < 34 → ∃ e, (bnL h0 q1 q2 q3 q4 q5 q6 q7 q8 q9 q10 q11 q12 q13 q14 q15 q16 q17 q18 q19 q30 q31 q33 q34 q35 q36 q37 q38 q39 q40 q41 q42 q43 q44 cI cL cR)[bnP k]? = some (bnA h0 q1 q2 q3 q4 q5 q6 q7 q8 q9 q10 q11 q12 q13 q14 q15 q16 q17 q18 q19 q30 q31 q33 q34 q35 q36 q37 q38 q39 q40 q41 q42 q43 q44 k, e)
  | 0, _ => ⟨_, rfl⟩
  | 1, _ => ⟨_, rfl⟩
  | 2, _ => ⟨_, rfl⟩
  | 3, _ => ⟨_, rfl⟩
  | 4, _ => ⟨_, rfl⟩
  | 5, _ => ⟨_, rfl⟩
  | 6, _ => ⟨_, rfl⟩
  | 7, _ => ⟨_, rfl⟩
  | 8, _ => ⟨_, rfl⟩
  | 9, _ => ⟨_, rfl⟩
  | 10, _ => ⟨_, rfl⟩
  | 11, _ => ⟨_, rfl⟩
  | 12, _ => ⟨_, rfl⟩
  | 13, _ => ⟨_, rfl⟩
  | 14, _ => ⟨_, rfl⟩
  | 15, _ => ⟨_, rfl⟩
  | 16, _ => ⟨_, rfl⟩
  | 17, _ => ⟨_, rfl⟩
  | 18, _ => ⟨_, rfl⟩
  | 19, _ => ⟨_, rfl⟩
  | 20, _ => ⟨_, rfl⟩
  | 21, _ => ⟨_, rfl⟩
  | 22, _ => ⟨_, rfl⟩
  | 23, _ => ⟨_, rfl⟩
  | 24, _ => ⟨_, rfl⟩
  | 25, _ => ⟨_, rfl⟩
  | 26, _ => ⟨_, rfl⟩
  | 27, _ => ⟨_, rfl⟩
  | 28, _ => ⟨_, rfl⟩
  | 29, _ => ⟨_, rfl⟩
  | 30, _ => ⟨_, rfl⟩
  | 31, _ => ⟨_, rfl⟩
  | 32, _ => ⟨_, rfl⟩
  | 33, _ => ⟨_, rfl⟩
  | k + 34, h => absurd h (by omega)
set_option maxRecDepth 20000 in
theorem bn_P {D : va_G} {H : Heap} {h0 q1 q2 q3 q4 q5 q6 q7 q8 q9 q10 q11 q12 q13 q14 q15 q16 q17 q18 q19 q30 q31 q33 q34 q35 q36 q37 q38 q39 q40 q41 q42 q43 q44 : Nat} {cI cL cR : ClassId} (h : va_P D vwCl (bnL h0 q1 q2 q3 q4 q5 q6 q7 q8 q9 q10 q11 q12 q13 q14 q15 q16 q17 q18 q19 q30 q31 q33 q34 q35 q36 q37 q38 q39 q40 q41 q42 q43 q44 cI cL cR) H) : ∀ k, k < 34 → va_at D vwCl (bnA h0 q1 q2 q3 q4 q5 q6 q7 q8 q9 q10 q11 q12 q13 q14 q15 q16 q17 q18 q19 q30 q31 q33 q34 q35 q36 q37 q38 q39 q40 q41 q42 q43 q44 k, xF (bnA h0 q1 q2 q3 q4 q5 q6 q7 q8 q9 q10 q11 q12 q13 q14 q15 q16 q17 q18 q19 q30 q31 q33 q34 q35 q36 q37 q38 q39 q40 q41 q42 q43 q44) cI cL cR u00 k) H
  | 0, _ => h 4 _ rfl
  | 1, _ => h 6 _ rfl
  | 2, _ => h 8 _ rfl
  | 3, _ => h 10 _ rfl
  | 4, _ => h 12 _ rfl
  | 5, _ => h 14 _ rfl
  | 6, _ => h 16 _ rfl
  | 7, _ => h 18 _ rfl
  | 8, _ => h 5 _ rfl
  | 9, _ => h 7 _ rfl
  | 10, _ => h 9 _ rfl
  | 11, _ => h 11 _ rfl
  | 12, _ => h 13 _ rfl
  | 13, _ => h 15 _ rfl
  | 14, _ => h 17 _ rfl
  | 15, _ => h 19 _ rfl
  | 16, _ => h 1 _ rfl
  | 17, _ => by
    have h1 := h 2 _ rfl
    exact h1.trans (congrArg some (congrArg (fun z => ({ cls := cR, slots := z, vm := .none } : Cell)) (congrArg (fun g => Array.ofFn (n := 8) g) (funext fun (i : Fin 8) => by
      match i with
      | ⟨0, _⟩ => rfl
      | ⟨1, _⟩ => rfl
      | ⟨2, _⟩ => rfl
      | ⟨3, _⟩ => rfl
      | ⟨4, _⟩ => rfl
      | ⟨5, _⟩ => rfl
      | ⟨6, _⟩ => rfl
      | ⟨7, _⟩ => rfl))))
  | 18, _ => h 3 _ rfl
  | 19, _ => h 20 _ rfl
  | 20, _ => h 21 _ rfl
  | 21, _ => h 22 _ rfl
  | 22, _ => h 23 _ rfl
  | 23, _ => h 24 _ rfl
  | 24, _ => h 25 _ rfl
  | 25, _ => h 26 _ rfl
  | 26, _ => h 27 _ rfl
  | 27, _ => h 28 _ rfl
  | 28, _ => h 29 _ rfl
  | 29, _ => h 30 _ rfl
  | 30, _ => h 31 _ rfl
  | 31, _ => h 32 _ rfl
  | 32, _ => h 33 _ rfl
  | 33, _ => h 0 _ rfl
  | k + 34, h => absurd h (by omega)
theorem born {D : va_G} {A : Nat → Prop} {t : State} {h0 q1 q2 q3 q4 q5 q6 q7 q8 q9 q10 q11 q12 q13 q14 q15 q16 q17 q18 q19 q30 q31 q33 q34 q35 q36 q37 q38 q39 q40 q41 q42 q43 q44 : Nat} {c20 c21 c22 c23 c24 c25 c26 c27 c28 c29 c32 c45 c46 c47 c48 c49 c50 c51 c52 c53 : ClassId} (hP : va_P D vwCl [(h0, .inr (6, [.ref q1, .ref q30, .ref q33, .int 0])), (q1, .inr (5, [.ref q2, .ref q3, .int 0])), (q2, .inl (c20, 8, .inr (.inr (.inr (.inr (va_up (va_up (va_up (va_up (va_up (va_up (va_up (va_up (fun _ => none) 0 (some q4)) 1 (some q6)) 2 (some q8)) 3 (some q10)) 4 (some q12)) 5 (some q14)) 6 (some q16)) 7 (some q18))))))), (q3, .inl (c21, 12, .inl (fun _ => 0))), (q4, .inr (4, [.int (nI 1), .ref q5, .int 0, .int 0, .int 0, .int 0, .int 0, .int 0, .int 0, .int 0, .int 0])), (q5, .inl (c22, 4, .inl (fun _ => 0))), (q6, .inr (4, [.int (nI 2), .ref q7, .int 0, .int 0, .int 0, .int 0, .int 0, .int 0, .int 0, .int 0, .int 0])), (q7, .inl (c23, 4, .inl (fun _ => 0))), (q8, .inr (4, [.int (nI 4), .ref q9, .int 0, .int 0, .int 0, .int 0, .int 0, .int 0, .int 0, .int 0, .int 0])), (q9, .inl (c24, 4, .inl (fun _ => 0))), (q10, .inr (4, [.int (nI 8), .ref q11, .int 0, .int 0, .int 0, .int 0, .int 0, .int 0, .int 0, .int 0, .int 0])), (q11, .inl (c25, 4, .inl (fun _ => 0))), (q12, .inr (4, [.int (nI 16), .ref q13, .int 0, .int 0, .int 0, .int 0, .int 0, .int 0, .int 0, .int 0, .int 0])), (q13, .inl (c26, 4, .inl (fun _ => 0))), (q14, .inr (4, [.int (nI 32), .ref q15, .int 0, .int 0, .int 0, .int 0, .int 0, .int 0, .int 0, .int 0, .int 0])), (q15, .inl (c27, 4, .inl (fun _ => 0))), (q16, .inr (4, [.int (nI 64), .ref q17, .int 0, .int 0, .int 0, .int 0, .int 0, .int 0, .int 0, .int 0, .int 0])), (q17, .inl (c28, 4, .inl (fun _ => 0))), (q18, .inr (4, [.int (nI 128), .ref q19, .int 0, .int 0, .int 0, .int 0, .int 0, .int 0, .int 0, .int 0, .int 0])), (q19, .inl (c29, 4, .inl (fun _ => 0))), (q30, .inr (2, [.ref q1, .ref q31])), (q31, .inl (c32, 8, .inl (fun _ => 0))), (q33, .inr (1, [.ref q1, .ref q34, .ref q35, .ref q36, .ref q37, .ref q38, .ref q40, .int 0, .int 0, .int 0, .int 0, .int 0])), (q34, .inl (c45, 1000, .inl (fun _ => 0))), (q35, .inl (c46, 1000, .inl (fun _ => 0))), (q36, .inl (c47, 8000, .inl (fun _ => 0))), (q37, .inl (c48, 16384, .inl (fun _ => 0))), (q38, .inr (0, [.ref q39, .int 0, .int ((-1))])), (q39, .inl (c49, 64, .inl (fun _ => 0))), (q40, .inr (3, [.ref q41, .ref q42, .ref q43, .ref q44, .int 0, .int 0, .int 0, .long 0])), (q41, .inl (c50, 1000, .inl (fun _ => 0))), (q42, .inl (c51, 1000, .inl (fun _ => 0))), (q43, .inl (c52, 1000, .inr (.inl (fun _ => 0)))), (q44, .inl (c53, 1000, .inl (fun _ => 0)))] t.heap) (hD : va_D A [(h0, .inr (6, [.ref q1, .ref q30, .ref q33, .int 0])), (q1, .inr (5, [.ref q2, .ref q3, .int 0])), (q2, .inl (c20, 8, .inr (.inr (.inr (.inr (va_up (va_up (va_up (va_up (va_up (va_up (va_up (va_up (fun _ => none) 0 (some q4)) 1 (some q6)) 2 (some q8)) 3 (some q10)) 4 (some q12)) 5 (some q14)) 6 (some q16)) 7 (some q18))))))), (q3, .inl (c21, 12, .inl (fun _ => 0))), (q4, .inr (4, [.int (nI 1), .ref q5, .int 0, .int 0, .int 0, .int 0, .int 0, .int 0, .int 0, .int 0, .int 0])), (q5, .inl (c22, 4, .inl (fun _ => 0))), (q6, .inr (4, [.int (nI 2), .ref q7, .int 0, .int 0, .int 0, .int 0, .int 0, .int 0, .int 0, .int 0, .int 0])), (q7, .inl (c23, 4, .inl (fun _ => 0))), (q8, .inr (4, [.int (nI 4), .ref q9, .int 0, .int 0, .int 0, .int 0, .int 0, .int 0, .int 0, .int 0, .int 0])), (q9, .inl (c24, 4, .inl (fun _ => 0))), (q10, .inr (4, [.int (nI 8), .ref q11, .int 0, .int 0, .int 0, .int 0, .int 0, .int 0, .int 0, .int 0, .int 0])), (q11, .inl (c25, 4, .inl (fun _ => 0))), (q12, .inr (4, [.int (nI 16), .ref q13, .int 0, .int 0, .int 0, .int 0, .int 0, .int 0, .int 0, .int 0, .int 0])), (q13, .inl (c26, 4, .inl (fun _ => 0))), (q14, .inr (4, [.int (nI 32), .ref q15, .int 0, .int 0, .int 0, .int 0, .int 0, .int 0, .int 0, .int 0, .int 0])), (q15, .inl (c27, 4, .inl (fun _ => 0))), (q16, .inr (4, [.int (nI 64), .ref q17, .int 0, .int 0, .int 0, .int 0, .int 0, .int 0, .int 0, .int 0, .int 0])), (q17, .inl (c28, 4, .inl (fun _ => 0))), (q18, .inr (4, [.int (nI 128), .ref q19, .int 0, .int 0, .int 0, .int 0, .int 0, .int 0, .int 0, .int 0, .int 0])), (q19, .inl (c29, 4, .inl (fun _ => 0))), (q30, .inr (2, [.ref q1, .ref q31])), (q31, .inl (c32, 8, .inl (fun _ => 0))), (q33, .inr (1, [.ref q1, .ref q34, .ref q35, .ref q36, .ref q37, .ref q38, .ref q40, .int 0, .int 0, .int 0, .int 0, .int 0])), (q34, .inl (c45, 1000, .inl (fun _ => 0))), (q35, .inl (c46, 1000, .inl (fun _ => 0))), (q36, .inl (c47, 8000, .inl (fun _ => 0))), (q37, .inl (c48, 16384, .inl (fun _ => 0))), (q38, .inr (0, [.ref q39, .int 0, .int ((-1))])), (q39, .inl (c49, 64, .inl (fun _ => 0))), (q40, .inr (3, [.ref q41, .ref q42, .ref q43, .ref q44, .int 0, .int 0, .int 0, .long 0])), (q41, .inl (c50, 1000, .inl (fun _ => 0))), (q42, .inl (c51, 1000, .inl (fun _ => 0))), (q43, .inl (c52, 1000, .inr (.inl (fun _ => 0)))), (q44, .inl (c53, 1000, .inl (fun _ => 0)))]) (hK : va_K D vwCl [(c20, .object RX4), (c21, .int), (c22, .int), (c23, .int), (c24, .int), (c25, .int), (c26, .int), (c27, .int), (c28, .int), (c29, .int), (c32, .int), (c45, .int), (c46, .int), (c47, .int), (c48, .int), (c49, .int), (c50, .int), (c51, .int), (c52, .long), (c53, .int)] t) : ∃ (ad : Nat → Nat) (cI cL cR : ClassId), gI 34 ad ∧ ad 33 = h0 ∧ va_P D vwCl (gW 34 ad (xF ad cI cL cR u00)) t.heap ∧ va_K D vwCl (xT cI cL cR) t ∧ ∀ k, k < 34 → A (ad k) := by
  obtain ⟨cI, hcI⟩ : ∃ z, z = c21 := ⟨_, rfl⟩
  have e_c21 : c21 = cI := hcI.symm
  have e_c22 : c22 = cI := by rw [hcI]; exact ra_i (hK.2 2 _ rfl).2 (hK.2 1 _ rfl).2
  have e_c23 : c23 = cI := by rw [hcI]; exact ra_i (hK.2 3 _ rfl).2 (hK.2 1 _ rfl).2
  have e_c24 : c24 = cI := by rw [hcI]; exact ra_i (hK.2 4 _ rfl).2 (hK.2 1 _ rfl).2
  have e_c25 : c25 = cI := by rw [hcI]; exact ra_i (hK.2 5 _ rfl).2 (hK.2 1 _ rfl).2
  have e_c26 : c26 = cI := by rw [hcI]; exact ra_i (hK.2 6 _ rfl).2 (hK.2 1 _ rfl).2
  have e_c27 : c27 = cI := by rw [hcI]; exact ra_i (hK.2 7 _ rfl).2 (hK.2 1 _ rfl).2
  have e_c28 : c28 = cI := by rw [hcI]; exact ra_i (hK.2 8 _ rfl).2 (hK.2 1 _ rfl).2
  have e_c29 : c29 = cI := by rw [hcI]; exact ra_i (hK.2 9 _ rfl).2 (hK.2 1 _ rfl).2
  have e_c32 : c32 = cI := by rw [hcI]; exact ra_i (hK.2 10 _ rfl).2 (hK.2 1 _ rfl).2
  have e_c45 : c45 = cI := by rw [hcI]; exact ra_i (hK.2 11 _ rfl).2 (hK.2 1 _ rfl).2
  have e_c46 : c46 = cI := by rw [hcI]; exact ra_i (hK.2 12 _ rfl).2 (hK.2 1 _ rfl).2
  have e_c47 : c47 = cI := by rw [hcI]; exact ra_i (hK.2 13 _ rfl).2 (hK.2 1 _ rfl).2
  have e_c48 : c48 = cI := by rw [hcI]; exact ra_i (hK.2 14 _ rfl).2 (hK.2 1 _ rfl).2
  have e_c49 : c49 = cI := by rw [hcI]; exact ra_i (hK.2 15 _ rfl).2 (hK.2 1 _ rfl).2
  have e_c50 : c50 = cI := by rw [hcI]; exact ra_i (hK.2 16 _ rfl).2 (hK.2 1 _ rfl).2
  have e_c51 : c51 = cI := by rw [hcI]; exact ra_i (hK.2 17 _ rfl).2 (hK.2 1 _ rfl).2
  have e_c53 : c53 = cI := by rw [hcI]; exact ra_i (hK.2 19 _ rfl).2 (hK.2 1 _ rfl).2
  rw [e_c21] at hP hD hK
  rw [e_c22] at hP hD hK
  rw [e_c23] at hP hD hK
  rw [e_c24] at hP hD hK
  rw [e_c25] at hP hD hK
  rw [e_c26] at hP hD hK
  rw [e_c27] at hP hD hK
  rw [e_c28] at hP hD hK
  rw [e_c29] at hP hD hK
  rw [e_c32] at hP hD hK
  rw [e_c45] at hP hD hK
  rw [e_c46] at hP hD hK
  rw [e_c47] at hP hD hK
  rw [e_c48] at hP hD hK
  rw [e_c49] at hP hD hK
  rw [e_c50] at hP hD hK
  rw [e_c51] at hP hD hK
  rw [e_c53] at hP hD hK
  have hP1 : va_P D vwCl (bnL h0 q1 q2 q3 q4 q5 q6 q7 q8 q9 q10 q11 q12 q13 q14 q15 q16 q17 q18 q19 q30 q31 q33 q34 q35 q36 q37 q38 q39 q40 q41 q42 q43 q44 cI c52 c20) t.heap := hP
  have hD1 : va_D A (bnL h0 q1 q2 q3 q4 q5 q6 q7 q8 q9 q10 q11 q12 q13 q14 q15 q16 q17 q18 q19 q30 q31 q33 q34 q35 q36 q37 q38 q39 q40 q41 q42 q43 q44 cI c52 c20) := hD
  refine ⟨bnA h0 q1 q2 q3 q4 q5 q6 q7 q8 q9 q10 q11 q12 q13 q14 q15 q16 q17 q18 q19 q30 q31 q33 q34 q35 q36 q37 q38 q39 q40 q41 q42 q43 q44, cI, c52, c20, fun i j hi hj hij => ?_, rfl, gP_of (bn_P hP1), hK.sub [1, 18, 0] rfl, fun k hk => ?_⟩
  · obtain ⟨e1, h1⟩ := bn_at h0 q1 q2 q3 q4 q5 q6 q7 q8 q9 q10 q11 q12 q13 q14 q15 q16 q17 q18 q19 q30 q31 q33 q34 q35 q36 q37 q38 q39 q40 q41 q42 q43 q44 cI c52 c20 i hi
    obtain ⟨e2, h2⟩ := bn_at h0 q1 q2 q3 q4 q5 q6 q7 q8 q9 q10 q11 q12 q13 q14 q15 q16 q17 q18 q19 q30 q31 q33 q34 q35 q36 q37 q38 q39 q40 q41 q42 q43 q44 cI c52 c20 j hj
    exact bnP_inj i hi j hj (hD1.1 _ _ _ _ h1 h2 hij)
  · obtain ⟨e1, h1⟩ := bn_at h0 q1 q2 q3 q4 q5 q6 q7 q8 q9 q10 q11 q12 q13 q14 q15 q16 q17 q18 q19 q30 q31 q33 q34 q35 q36 q37 q38 q39 q40 q41 q42 q43 q44 cI c52 c20 k hk
    exact hD1.2 _ _ h1
