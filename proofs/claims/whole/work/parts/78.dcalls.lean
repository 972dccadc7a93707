theorem bEnd_ex {n : Nat} {B : Nat → Nat → Nat} (hB : gB n B) {x : Nat} (hx : x < 64 * 2 ^ n) : ∀ d k, k + d = 1001 → bRun B x k → ∃ k', bEnd B x k'
  | 0, k, hk, h => absurd (bRun_le hB hx h) (by omega)
  | d + 1, k, hk, h => by
    by_cases z : (bfs B x k).2.2.2.1 ≤ k ∨ (bfs B x k).2.2.2.2 = true
    · exact ⟨k, h, z⟩
    · refine bEnd_ex hB hx d (k + 1) (by omega) fun j hj => ?_
      rcases Nat.lt_or_ge j k with q | q
      · exact h j q
      · rw [show j = k by omega]
        exact ⟨Nat.lt_of_not_le fun y => z (Or.inl y), Bool.eq_false_iff.mpr fun y => z (Or.inr y)⟩
theorem xI_j {u w : xS} {n : Nat} {B : Nat → Nat → Nat} {x : Nat} (h : xI u n B x) (hF : jFr u w) : xI w n B x := by
  obtain ⟨h1, h2, h3, h4, h5⟩ := h
  refine ⟨xR_jFr h1 hF, h2, by rw [hF.1 33 (by decide)]; exact h3, xO_fr h4 (by rw [hF.1 21 (by decide)]) (hF.1 22 (by decide)) (hF.1 25 (by decide)), ?_⟩
  rw [hF.1 21 (by decide)]
  rcases h5 with h5 | ⟨h5, k, hk⟩
  · exact Or.inl h5
  · exact Or.inr ⟨h5, k, xDn_fr hk (fun q h1 _ => hF.1 q (by omega)) hF.2 (fun j _ => by rw [hF.1 21 (by decide)])⟩
theorem dq {V vl : Int32} {u : xS} {n : Nat} {B : Nat → Nat → Nat} {x : Nat} {f : Int32} (h : xQ u n B x f) (r : Int32) (w : xS) (hp : r = V ∧ w = u) (e : V = vl) : r = vl ∧ xQ w n B x f := ⟨hp.1.trans e, by rw [hp.2]; exact h⟩

theorem dc_ruleCount (l : Launch) (D : va_G) (ad am : Nat → Nat) (cI cL cR cB : ClassId) (hI : gI 34 ad) (hIm : gI 12 am) (u v : xS) (n : Nat) (B : Nat → Nat → Nat) (x : Nat) (hJ : JI u v n B x) : ∃ (vl : Int32) (n2 : Nat) (B2 : Nat → Nat → Nat) (y2 : Nat) (f : Int32), (∀ sz, Met l yX6_ruleCount wsX6_ruleCount ({ frames := 1, cells := 0, slots := 0, locals := 20 }) (XP D ad cI cL cR u [.ref (ad 33)] sz) (va_Qi (fun r w => r = vl ∧ xQ w n2 B2 y2 f) (XB D ad cI cL cR) (gA 34 ad sz)) 0 0 (gA 34 ad sz)) ∧ ∀ sz, Met l yX7_ruleCount wsX7_ruleCount ({ frames := 0, cells := 0, slots := 0, locals := 0 }) (MP D am cI cL cB v [.ref (am 0)] sz) (va_Qi (MPost 0 vl n2 B2 y2 f) (MB D am cI cL cB) (gA 12 am sz)) 0 0 (gA 12 am sz) := by
  exact ⟨nI n, n, B, x, v.1 0 11, fun sz => z_pI (fun r w hp => dq (JI_q hJ) r w hp rfl) (c_X6_ruleCount l D ad cI cL cR hI u n B (JI_R hJ) sz), c_X7_ruleCount_v l D am cI cL cB hIm v n B (JI_B hJ) x (JI_x hJ) hJ.2.1⟩

theorem dc_facts (l : Launch) (D : va_G) (ad am : Nat → Nat) (cI cL cR cB : ClassId) (hI : gI 34 ad) (hIm : gI 12 am) (u v : xS) (n : Nat) (B : Nat → Nat → Nat) (x : Nat) (hJ : JI u v n B x) : ∃ (vl : Int32) (n2 : Nat) (B2 : Nat → Nat → Nat) (y2 : Nat) (f : Int32), (∀ sz, Met l yX6_facts wsX6_facts ({ frames := 1, cells := 0, slots := 0, locals := 20 }) (XP D ad cI cL cR u [.ref (ad 33)] sz) (va_Qi (fun r w => r = vl ∧ xQ w n2 B2 y2 f) (XB D ad cI cL cR) (gA 34 ad sz)) 0 0 (gA 34 ad sz)) ∧ ∀ sz, Met l yX7_facts wsX7_facts ({ frames := 0, cells := 0, slots := 0, locals := 0 }) (MP D am cI cL cB v [.ref (am 0)] sz) (va_Qi (MPost 0 vl n2 B2 y2 f) (MB D am cI cL cB) (gA 12 am sz)) 0 0 (gA 12 am sz) := by
  exact ⟨nI (x % 64), n, B, x, v.1 0 11, fun sz => z_pI (fun r w hp => dq (JI_q hJ) r w hp rfl) (c_X6_facts l D ad cI cL cR hI u x (JI_8 hJ) (JI_3 hJ) sz), c_X7_facts l D am cI cL cB hIm v n B (JI_B hJ) x (JI_x hJ) hJ.2.1⟩

theorem dc_triggered (l : Launch) (D : va_G) (ad am : Nat → Nat) (cI cL cR cB : ClassId) (hI : gI 34 ad) (hIm : gI 12 am) (u v : xS) (n : Nat) (B : Nat → Nat → Nat) (x : Nat) (hJ : JI u v n B x) : ∃ (vl : Int32) (n2 : Nat) (B2 : Nat → Nat → Nat) (y2 : Nat) (f : Int32), (∀ sz, Met l yX6_triggered wsX6_triggered ({ frames := 1, cells := 0, slots := 0, locals := 20 }) (XP D ad cI cL cR u [.ref (ad 33)] sz) (va_Qi (fun r w => r = vl ∧ xQ w n2 B2 y2 f) (XB D ad cI cL cR) (gA 34 ad sz)) 0 0 (gA 34 ad sz)) ∧ ∀ sz, Met l yX7_triggered wsX7_triggered ({ frames := 0, cells := 0, slots := 0, locals := 0 }) (MP D am cI cL cB v [.ref (am 0)] sz) (va_Qi (MPost 0 vl n2 B2 y2 f) (MB D am cI cL cB) (gA 12 am sz)) 0 0 (gA 12 am sz) := by
  exact ⟨nI (x / 64), n, B, x, v.1 0 11, fun sz => z_pI (fun r w hp => dq (JI_q hJ) r w hp rfl) (c_X6_triggered l D ad cI cL cR hI u x (JI_8 hJ) (JI_3 hJ) sz), c_X7_triggered l D am cI cL cB hIm v n B (JI_B hJ) x (JI_x hJ) hJ.2.1⟩

theorem dc_ready (l : Launch) (D : va_G) (ad am : Nat → Nat) (cI cL cR cB : ClassId) (hI : gI 34 ad) (hIm : gI 12 am) (u v : xS) (n : Nat) (B : Nat → Nat → Nat) (x : Nat) (hJ : JI u v n B x) : ∃ (vl : Int32) (n2 : Nat) (B2 : Nat → Nat → Nat) (y2 : Nat) (f : Int32), (∀ sz, Met l yX6_ready wsX6_ready ({ frames := 3, cells := 0, slots := 0, locals := 65 }) (XP D ad cI cL cR u [.ref (ad 33)] sz) (va_Qi (fun r w => r = vl ∧ xQ w n2 B2 y2 f) (XB D ad cI cL cR) (gA 34 ad sz)) 0 0 (gA 34 ad sz)) ∧ ∀ sz, Met l yX7_ready wsX7_ready ({ frames := 2, cells := 0, slots := 0, locals := 45 }) (MP D am cI cL cB v [.ref (am 0)] sz) (va_Qi (MPost 0 vl n2 B2 y2 f) (MB D am cI cL cB) (gA 12 am sz)) 0 0 (gA 12 am sz) := by
  exact ⟨nI (rdy B (x / 64)), n, B, x, v.1 0 11, fun sz => z_pI (fun r w hp => dq (JI_q hJ) r w hp rfl) (c_X6_ready l D ad cI cL cR hI u n B (JI_R hJ) x (JI_8 hJ) (JI_3 hJ) sz), c_X7_ready l D am cI cL cB hIm v n B (JI_B hJ) x (JI_x hJ) hJ.2.1⟩

theorem dc_conflictCount (l : Launch) (D : va_G) (ad am : Nat → Nat) (cI cL cR cB : ClassId) (hI : gI 34 ad) (hIm : gI 12 am) (u v : xS) (n : Nat) (B : Nat → Nat → Nat) (x : Nat) (hJ : JI u v n B x) : ∃ (vl : Int32) (n2 : Nat) (B2 : Nat → Nat → Nat) (y2 : Nat) (f : Int32), (∀ sz, Met l yX6_conflictCount wsX6_conflictCount ({ frames := 5, cells := 0, slots := 0, locals := 114 }) (XP D ad cI cL cR u [.ref (ad 33)] sz) (va_Qi (fun r w => r = vl ∧ xQ w n2 B2 y2 f) (XB D ad cI cL cR) (gA 34 ad sz)) 0 0 (gA 34 ad sz)) ∧ ∀ sz, Met l yX7_conflictCount wsX7_conflictCount ({ frames := 4, cells := 0, slots := 0, locals := 91 }) (MP D am cI cL cB v [.ref (am 0)] sz) (va_Qi (MPost 0 vl n2 B2 y2 f) (MB D am cI cL cB) (gA 12 am sz)) 0 0 (gA 12 am sz) := by
  exact ⟨nI (cou B 8), n, B, x, v.1 0 11, fun sz => z_pI (fun r w hp => dq (JI_q hJ) r w hp rfl) (c_X6_conflictCount l D ad cI cL cR hI u n B (JI_R hJ) sz), c_X7_conflictCount l D am cI cL cB hIm v n B (JI_B hJ) x (JI_x hJ) hJ.2.1⟩

theorem dc_circular (l : Launch) (D : va_G) (ad am : Nat → Nat) (cI cL cR cB : ClassId) (hI : gI 34 ad) (hIm : gI 12 am) (u v : xS) (n : Nat) (B : Nat → Nat → Nat) (x : Nat) (hJ : JI u v n B x) : ∃ (vl : Int32) (n2 : Nat) (B2 : Nat → Nat → Nat) (y2 : Nat) (f : Int32), (∀ sz, Met l yX6_circular wsX6_circular ({ frames := 4, cells := 0, slots := 0, locals := 88 }) (XP D ad cI cL cR u [.ref (ad 33)] sz) (va_Qi (fun r w => r = vl ∧ xQ w n2 B2 y2 f) (XB D ad cI cL cR) (gA 34 ad sz)) 0 0 (gA 34 ad sz)) ∧ ∀ sz, Met l yX7_circular wsX7_circular ({ frames := 1, cells := 0, slots := 0, locals := 24 }) (MP D am cI cL cB v [.ref (am 0)] sz) (va_Qi (MPost 0 vl n2 B2 y2 f) (MB D am cI cL cB) (gA 12 am sz)) 0 0 (gA 12 am sz) := by
  exact ⟨nI (cirs B 8), n, B, x, v.1 0 11, fun sz => z_pI (fun r w hp => ⟨hp.1, xI_j hJ.1 hp.2, by rw [hp.2.1 21 (by decide)]; exact hJ.2.2⟩) (c_X6_circular l D ad cI cL cR hI u n B (JI_R hJ) sz), c_X7_circular l D am cI cL cB hIm v n B (JI_B hJ) x (JI_x hJ) hJ.2.1⟩

theorem dc_explore (l : Launch) (D : va_G) (ad am : Nat → Nat) (cI cL cR cB : ClassId) (hI : gI 34 ad) (hIm : gI 12 am) (u v : xS) (n : Nat) (B : Nat → Nat → Nat) (x : Nat) (hJ : JI u v n B x) : ∃ (vl : Int32) (n2 : Nat) (B2 : Nat → Nat → Nat) (y2 : Nat) (f : Int32), (∀ sz, Met l yX6_explore wsX6_explore ({ frames := 5, cells := 0, slots := 0, locals := 119 }) (XP D ad cI cL cR u [.ref (ad 33)] sz) (va_Qi (fun r w => r = vl ∧ xQ w n2 B2 y2 f) (XB D ad cI cL cR) (gA 34 ad sz)) 0 0 (gA 34 ad sz)) ∧ ∀ sz, Met l yX7_explore wsX7_explore ({ frames := 3, cells := 0, slots := 0, locals := 74 }) (MP D am cI cL cB v [.ref (am 0)] sz) (va_Qi (MPost 0 vl n2 B2 y2 f) (MB D am cI cL cB) (gA 12 am sz)) 0 0 (gA 12 am sz) := by
  obtain ⟨k0, hE⟩ := bEnd_ex (JI_B hJ) (JI_x hJ) 1001 0 rfl (fun j hj => absurd hj (Nat.not_lt_zero j))
  have hm : ∀ sz, Met l yX7_explore wsX7_explore ({ frames := 3, cells := 0, slots := 0, locals := 74 }) (MP D am cI cL cB v [.ref (am 0)] sz) (va_Qi (MPost 0 (exA B x k0) n B x 1) (MB D am cI cL cB) (gA 12 am sz)) 0 0 (gA 12 am sz) := fun sz => z_pI (fun r w hp => by
    obtain ⟨⟨k, e1, e2⟩, h0, h1, hq⟩ := hp
    have e : k = k0 := bEnd_one e1 hE
    subst e
    exact ⟨e2, h0, hq, h1⟩) (c_X7_explore l D am cI cL cB hIm v n B (JI_B hJ) x (JI_x hJ) hJ.2.1 sz)
  refine ⟨exA B x k0, n, B, x, 1, ?_, hm⟩
  rcases JI_exp hJ with ⟨h8, -⟩ | ⟨k, hE2, h8, -, hD, -⟩
  · obtain ⟨S, c, o1, o2, o3, o4⟩ := hJ.1.2.2.2.1
    exact fun sz => z_pI (fun r w hp => by
      obtain ⟨h1, ⟨k, hk⟩, h3, h4⟩ := hp
      have e : k = k0 := bEnd_one hk.1 hE
      subst e
      exact ⟨h1.trans (xDn_exA hk), xI_s hJ.1 hk h3 h4, h3⟩) (c_X6_explore_vs l D ad cI cL cR hI u n B (JI_R hJ) h8 S c o1 o2 o3 o4 x (JI_x hJ) (JI_3 hJ) sz)
  · have e : k = k0 := bEnd_one hE2 hE
    subst e
    exact fun sz => z_pI (fun r w hp => dq ⟨hJ.1, h8⟩ r w hp (xDn_exA hD)) (c_X6_explore_vd l D ad cI cL cR hI u h8 sz)

theorem dc_digest (l : Launch) (D : va_G) (ad am : Nat → Nat) (cI cL cR cB : ClassId) (hI : gI 34 ad) (hIm : gI 12 am) (u v : xS) (n : Nat) (B : Nat → Nat → Nat) (x : Nat) (hJ : JI u v n B x) : ∃ (vl : Int64) (n2 : Nat) (B2 : Nat → Nat → Nat) (y2 : Nat) (f : Int32), (∀ sz, Met l yX6_digest wsX6_digest ({ frames := 3, cells := 0, slots := 0, locals := 71 }) (XP D ad cI cL cR u [.ref (ad 33)] sz) (va_Ql (fun r w => r = vl ∧ xQ w n2 B2 y2 f) (XB D ad cI cL cR) (gA 34 ad sz)) 0 0 (gA 34 ad sz)) ∧ ∀ sz, Met l yX7_digest wsX7_digest ({ frames := 0, cells := 0, slots := 0, locals := 0 }) (MP D am cI cL cB v [.ref (am 0)] sz) (va_Ql (MPost 0 vl n2 B2 y2 f) (MB D am cI cL cB) (gA 12 am sz)) 0 0 (gA 12 am sz) := by
  rcases JI_exp hJ with ⟨h8, h11⟩ | ⟨k, hE2, h8, h11, hD, hM⟩
  · exact ⟨((dbok B (157 * 31 + (nI n).toInt64) n * 31 + (nI (x % 64)).toInt64) * 31 + (nI (x / 64)).toInt64), n, B, x, v.1 0 11, fun sz => z_pL (fun r w hp => ⟨hp.1, by rw [hp.2]; exact JI_q hJ⟩) (c_X6_digest_v0 l D ad cI cL cR hI u n B (JI_R hJ) x (JI_8 hJ) (JI_3 hJ) h8 sz), c_X7_digest_v0 l D am cI cL cB hIm v n B (JI_B hJ) x (JI_x hJ) hJ.2.1 h11⟩
  · exact ⟨((dbok B (157 * 31 + (nI n).toInt64) n * 31 + (nI (x % 64)).toInt64) * 31 + (nI (x / 64)).toInt64) * 31 + (exA B x k).toInt64, n, B, x, v.1 0 11, fun sz => z_pL (fun r w hp => ⟨by rw [hp.1, xDn_exA hD], by rw [hp.2]; exact JI_q hJ⟩) (c_X6_digest_v1 l D ad cI cL cR hI u n B (JI_R hJ) x (JI_8 hJ) (JI_3 hJ) h8 sz), c_X7_digest_v1 l D am cI cL cB hIm v n B (JI_B hJ) x (JI_x hJ) hJ.2.1 h11 k hM⟩
