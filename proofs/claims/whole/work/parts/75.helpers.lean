theorem upL0 {o : Nat → Int64} {v w : Int64} (h : v = w) : vp_updL o 0 v 0 = w := pk_uLs.trans h
theorem upD0 {d : Nat → UInt64} {v : UInt64} : vf_upd d 0 v 0 = v := by simp [vf_upd]

set_option maxHeartbeats 4000000 in
set_option maxRecDepth 100000 in
theorem h_addRule_ok (l : Launch) (D : va_G) (ad : Nat → Nat) (cI cL cR cB cD : ClassId) (hI : gI 36 ad) (u : xS) (o : Nat → Int64) (d : Nat → UInt64) (x1 x2 x3 x4 : Int32) (P : Int32 → xS → Prop) (hM : ∀ sz, Met l yX6_addRule wsX6_addRule ({ frames := 7, cells := 0, slots := 0, locals := 110 }) (XP D ad cI cL cR u [.ref (ad 33), .int (x1), .int (x2), .int (x3), .int (x4)] sz) (va_Qi P (XB D ad cI cL cR) (gA 34 ad sz)) 0 0 (gA 34 ad sz)) : ∀ sz, Met l yL_addRule wsL_addRule ({ frames := 8, cells := 1, slots := 6, locals := 134 }) (HP D ad cI cL cR cB cD (u, o, d) [.ref (ad 33), .int (x1), .int (x2), .int (x3), .int (x4), .ref (ad 34)] sz) (va_Qi (fun r s => r = nI 0 ∧ ∃ b, P b s.1 ∧ s.2.1 0 = b.toInt64) (HB D ad cI cL cR cD) (gA 36 ad sz)) 1 6 (gA 36 ad sz) := by
  intro sz
  refine z_metW (cc := cL_addRule) (maxL := 7) (ret := (some .int)) (hh := [(0, 14, 17, 13), (0, 14, 21, 15), (0, 14, 25, 17)]) (by decide) rfl (Nat.le_of_ble_eq_true rfl) ?_
  intro pq lq sq mq aq Qq bq hmq cq C hr hml hown hts hlocks hK hX htab hsz hQ
  subst hsz
  refine z_sub (L' := [(0, .ref (ad 33)), (1, .int (x1)), (2, .int (x2)), (3, .int (x3)), (4, .int (x4)), (5, .ref (ad 34))]) [0, 1, 2, 3, 4, 5] rfl ?_
  refine z_aload C dL_addRule_0 5 rfl ?_
  refine z_iconst (v := nI 0) C (by decide) dL_addRule_2 ?_
  refine z_aload_n C dL_addRule_3 0 rfl ?_
  refine z_iload_n C dL_addRule_4 1 rfl ?_
  refine z_iload_n C dL_addRule_5 2 rfl ?_
  refine z_iload_n C dL_addRule_6 3 rfl ?_
  refine z_iload C dL_addRule_7 4 rfl ?_
  refine z_callVi lX_ok C hml hown hts hK hX (fun sz => z_liftI (σ := id) (F := fun u9 => hF ad cI cL cR cD (u9, o, d)) (F1 := xF ad cI cL cR) (f1 := xF ad cI cL cR u) (hL36 hI) lK_x lX_x (fun _ hk => if_pos hk) (fun _ _ hk => if_pos hk) hF_h (fun _ _ h => h) (hM sz)) (cwV 4 hts gL_addRule_X6_addRule rfl rfl rfl (by decide +kernel) ⟨Nat.le_of_ble_eq_true rfl, Nat.le_of_ble_eq_true rfl⟩) (by decide) (ci := 6) rfl rfl rfl (st := [.int (nI 0), .ref (ad 34)]) rfl (Nat.le_of_ble_eq_true rfl) dL_addRule_9 ⟨Nat.le_of_ble_eq_true rfl, Nat.le_of_ble_eq_true rfl⟩ (fun r9 u9 h9 => ?_)
  refine z_i2l C rfl dL_addRule_12 ?_
  refine z_last (q := 34) (len := 1) (k := 0) C hI hK (by decide) rfl 1 rfl rfl (by decide) (by decide) (f' := hF ad cI cL cR cD (u9, (vp_updL o 0 ((r9 : Int32).toInt64)), d)) rfl hF_o dL_addRule_13 ?_
  refine z_goto (tgt := 29) C dL_addRule_14 (by decide) ?_
  refine z_iconst (v := nI 0) C (by decide) dL_addRule_29 ?_
  refine z_widen (k := 1) (q := 6) (Nat.le_of_ble_eq_true rfl) (Nat.le_of_ble_eq_true rfl) ?_
  exact z_iret C hr hlocks hQ ((u9, (vp_updL o 0 ((r9 : Int32).toInt64)), d)) (⟨rfl, r9, h9, (show (vp_updL o 0 ((r9 : Int32).toInt64)) 0 = _ from upL0 rfl)⟩) (fun _ _ => rfl) dL_addRule_30

set_option maxHeartbeats 4000000 in
set_option maxRecDepth 100000 in
theorem h_addRule_t1 (l : Launch) (D : va_G) (ad : Nat → Nat) (cI cL cR cB cD : ClassId) (hI : gI 36 ad) (u : xS) (o : Nat → Int64) (d : Nat → UInt64) (x1 x2 x3 x4 : Int32) (hM : ∀ sz, vx_Met l yX6_addRule wsX6_addRule ({ frames := 7, cells := 1, slots := 6, locals := 110 }) (XP D ad cI cL cR u [.ref (ad 33), .int (x1), .int (x2), .int (x3), .int (x4)] sz) QN (XE D ad cI cL cR eIO u sz) 1 6 (gA 34 ad sz)) : ∀ sz, Met l yL_addRule wsL_addRule ({ frames := 8, cells := 1, slots := 6, locals := 134 }) (HP D ad cI cL cR cB cD (u, o, d) [.ref (ad 33), .int (x1), .int (x2), .int (x3), .int (x4), .ref (ad 34)] sz) (va_Qi (fun r s => r = nI 1 ∧ s = (u, o, d)) (HB D ad cI cL cR cD) (gA 36 ad sz)) 1 6 (gA 36 ad sz) := by
  intro sz
  refine z_metW (cc := cL_addRule) (maxL := 7) (ret := (some .int)) (hh := [(0, 14, 17, 13), (0, 14, 21, 15), (0, 14, 25, 17)]) (by decide) rfl (Nat.le_of_ble_eq_true rfl) ?_
  intro pq lq sq mq aq Qq bq hmq cq C hr hml hown hts hlocks hK hX htab hsz hQ
  subst hsz
  refine z_sub (L' := [(0, .ref (ad 33)), (1, .int (x1)), (2, .int (x2)), (3, .int (x3)), (4, .int (x4)), (5, .ref (ad 34))]) [0, 1, 2, 3, 4, 5] rfl ?_
  refine z_aload C dL_addRule_0 5 rfl ?_
  refine z_iconst (v := nI 0) C (by decide) dL_addRule_2 ?_
  refine z_aload_n C dL_addRule_3 0 rfl ?_
  refine z_iload_n C dL_addRule_4 1 rfl ?_
  refine z_iload_n C dL_addRule_5 2 rfl ?_
  refine z_iload_n C dL_addRule_6 3 rfl ?_
  refine z_iload C dL_addRule_7 4 rfl ?_
  refine z_catchV lX_ok C hml hown hts hK hX (fun sz => z_liftX (σ := id) (F := fun u9 => hF ad cI cL cR cD (u9, o, d)) (F1 := xF ad cI cL cR) (f1 := xF ad cI cL cR u) (hL36 hI) lK_x lX_x (fun _ hk => if_pos hk) (fun _ _ hk => if_pos hk) hF_h (hM sz)) (cwV 4 hts gL_addRule_X6_addRule rfl rfl rfl (by decide +kernel) ⟨Nat.le_of_ble_eq_true rfl, Nat.le_of_ble_eq_true rfl⟩) (by decide) (ci := 6) rfl rfl rfl (st := [.int (nI 0), .ref (ad 34)]) rfl (Nat.le_of_ble_eq_true rfl) dL_addRule_9 ⟨Nat.le_of_ble_eq_true rfl, Nat.le_of_ble_eq_true rfl⟩ [] ⟨0, 14, 17, 13⟩ [⟨0, 14, 21, 15⟩, ⟨0, 14, 25, 17⟩] (htab.trans rfl) (fun z hz => absurd hz List.not_mem_nil) (by decide) (by decide) (name := eIO) (hts (.classLink RL 13 eIO) (by decide +kernel)) hX.2.1.1 (fun q9 u9 h9 => ?_)
  subst h9
  refine z_astore (L' := [(6, .ref (q9)), (0, .ref (ad 33)), (1, .int (x1)), (2, .int (x2)), (3, .int (x3)), (4, .int (x4)), (5, .ref (ad 34))]) C dL_addRule_17 (by decide) rfl ?_
  refine z_iconst (v := nI 1) C (by decide) dL_addRule_19 ?_
  refine z_widen (k := 1) (q := 6) (Nat.le_of_ble_eq_true rfl) (Nat.le_of_ble_eq_true rfl) ?_
  exact z_iret C hr hlocks hQ ((u9, o, d)) (⟨rfl, rfl⟩) (fun _ _ => rfl) dL_addRule_20

set_option maxHeartbeats 4000000 in
set_option maxRecDepth 100000 in
theorem h_addRule_t2 (l : Launch) (D : va_G) (ad : Nat → Nat) (cI cL cR cB cD : ClassId) (hI : gI 36 ad) (u : xS) (o : Nat → Int64) (d : Nat → UInt64) (x1 x2 x3 x4 : Int32) (hM : ∀ sz, vx_Met l yX6_addRule wsX6_addRule ({ frames := 7, cells := 1, slots := 6, locals := 110 }) (XP D ad cI cL cR u [.ref (ad 33), .int (x1), .int (x2), .int (x3), .int (x4)] sz) QN (XE D ad cI cL cR eIA u sz) 1 6 (gA 34 ad sz)) : ∀ sz, Met l yL_addRule wsL_addRule ({ frames := 8, cells := 1, slots := 6, locals := 134 }) (HP D ad cI cL cR cB cD (u, o, d) [.ref (ad 33), .int (x1), .int (x2), .int (x3), .int (x4), .ref (ad 34)] sz) (va_Qi (fun r s => r = nI 2 ∧ s = (u, o, d)) (HB D ad cI cL cR cD) (gA 36 ad sz)) 1 6 (gA 36 ad sz) := by
  intro sz
  refine z_metW (cc := cL_addRule) (maxL := 7) (ret := (some .int)) (hh := [(0, 14, 17, 13), (0, 14, 21, 15), (0, 14, 25, 17)]) (by decide) rfl (Nat.le_of_ble_eq_true rfl) ?_
  intro pq lq sq mq aq Qq bq hmq cq C hr hml hown hts hlocks hK hX htab hsz hQ
  subst hsz
  refine z_sub (L' := [(0, .ref (ad 33)), (1, .int (x1)), (2, .int (x2)), (3, .int (x3)), (4, .int (x4)), (5, .ref (ad 34))]) [0, 1, 2, 3, 4, 5] rfl ?_
  refine z_aload C dL_addRule_0 5 rfl ?_
  refine z_iconst (v := nI 0) C (by decide) dL_addRule_2 ?_
  refine z_aload_n C dL_addRule_3 0 rfl ?_
  refine z_iload_n C dL_addRule_4 1 rfl ?_
  refine z_iload_n C dL_addRule_5 2 rfl ?_
  refine z_iload_n C dL_addRule_6 3 rfl ?_
  refine z_iload C dL_addRule_7 4 rfl ?_
  refine z_catchV lX_ok C hml hown hts hK hX (fun sz => z_liftX (σ := id) (F := fun u9 => hF ad cI cL cR cD (u9, o, d)) (F1 := xF ad cI cL cR) (f1 := xF ad cI cL cR u) (hL36 hI) lK_x lX_x (fun _ hk => if_pos hk) (fun _ _ hk => if_pos hk) hF_h (hM sz)) (cwV 4 hts gL_addRule_X6_addRule rfl rfl rfl (by decide +kernel) ⟨Nat.le_of_ble_eq_true rfl, Nat.le_of_ble_eq_true rfl⟩) (by decide) (ci := 6) rfl rfl rfl (st := [.int (nI 0), .ref (ad 34)]) rfl (Nat.le_of_ble_eq_true rfl) dL_addRule_9 ⟨Nat.le_of_ble_eq_true rfl, Nat.le_of_ble_eq_true rfl⟩ [⟨0, 14, 17, 13⟩] ⟨0, 14, 21, 15⟩ [⟨0, 14, 25, 17⟩] (htab.trans rfl) (fun z hz => by rw [List.mem_singleton] at hz; subst hz; exact ⟨by decide, eIO, hts (.classLink RL 13 eIO) (by decide +kernel), hX.2.2.2.2.1⟩) (by decide) (by decide) (name := eIA) (hts (.classLink RL 15 eIA) (by decide +kernel)) hX.2.1.2.1 (fun q9 u9 h9 => ?_)
  subst h9
  refine z_astore (L' := [(6, .ref (q9)), (0, .ref (ad 33)), (1, .int (x1)), (2, .int (x2)), (3, .int (x3)), (4, .int (x4)), (5, .ref (ad 34))]) C dL_addRule_21 (by decide) rfl ?_
  refine z_iconst (v := nI 2) C (by decide) dL_addRule_23 ?_
  refine z_widen (k := 1) (q := 6) (Nat.le_of_ble_eq_true rfl) (Nat.le_of_ble_eq_true rfl) ?_
  exact z_iret C hr hlocks hQ ((u9, o, d)) (⟨rfl, rfl⟩) (fun _ _ => rfl) dL_addRule_24

set_option maxHeartbeats 4000000 in
set_option maxRecDepth 100000 in
theorem h_addRule_t3 (l : Launch) (D : va_G) (ad : Nat → Nat) (cI cL cR cB cD : ClassId) (hI : gI 36 ad) (u : xS) (o : Nat → Int64) (d : Nat → UInt64) (x1 x2 x3 x4 : Int32) (hM : ∀ sz, vx_Met l yX6_addRule wsX6_addRule ({ frames := 7, cells := 1, slots := 6, locals := 110 }) (XP D ad cI cL cR u [.ref (ad 33), .int (x1), .int (x2), .int (x3), .int (x4)] sz) QN (XE D ad cI cL cR eIS u sz) 1 6 (gA 34 ad sz)) : ∀ sz, Met l yL_addRule wsL_addRule ({ frames := 8, cells := 1, slots := 6, locals := 134 }) (HP D ad cI cL cR cB cD (u, o, d) [.ref (ad 33), .int (x1), .int (x2), .int (x3), .int (x4), .ref (ad 34)] sz) (va_Qi (fun r s => r = nI 3 ∧ s = (u, o, d)) (HB D ad cI cL cR cD) (gA 36 ad sz)) 1 6 (gA 36 ad sz) := by
  intro sz
  refine z_metW (cc := cL_addRule) (maxL := 7) (ret := (some .int)) (hh := [(0, 14, 17, 13), (0, 14, 21, 15), (0, 14, 25, 17)]) (by decide) rfl (Nat.le_of_ble_eq_true rfl) ?_
  intro pq lq sq mq aq Qq bq hmq cq C hr hml hown hts hlocks hK hX htab hsz hQ
  subst hsz
  refine z_sub (L' := [(0, .ref (ad 33)), (1, .int (x1)), (2, .int (x2)), (3, .int (x3)), (4, .int (x4)), (5, .ref (ad 34))]) [0, 1, 2, 3, 4, 5] rfl ?_
  refine z_aload C dL_addRule_0 5 rfl ?_
  refine z_iconst (v := nI 0) C (by decide) dL_addRule_2 ?_
  refine z_aload_n C dL_addRule_3 0 rfl ?_
  refine z_iload_n C dL_addRule_4 1 rfl ?_
  refine z_iload_n C dL_addRule_5 2 rfl ?_
  refine z_iload_n C dL_addRule_6 3 rfl ?_
  refine z_iload C dL_addRule_7 4 rfl ?_
  refine z_catchV lX_ok C hml hown hts hK hX (fun sz => z_liftX (σ := id) (F := fun u9 => hF ad cI cL cR cD (u9, o, d)) (F1 := xF ad cI cL cR) (f1 := xF ad cI cL cR u) (hL36 hI) lK_x lX_x (fun _ hk => if_pos hk) (fun _ _ hk => if_pos hk) hF_h (hM sz)) (cwV 4 hts gL_addRule_X6_addRule rfl rfl rfl (by decide +kernel) ⟨Nat.le_of_ble_eq_true rfl, Nat.le_of_ble_eq_true rfl⟩) (by decide) (ci := 6) rfl rfl rfl (st := [.int (nI 0), .ref (ad 34)]) rfl (Nat.le_of_ble_eq_true rfl) dL_addRule_9 ⟨Nat.le_of_ble_eq_true rfl, Nat.le_of_ble_eq_true rfl⟩ [⟨0, 14, 17, 13⟩, ⟨0, 14, 21, 15⟩] ⟨0, 14, 25, 17⟩ [] (htab.trans rfl) (fun z hz => by rcases List.mem_cons.mp hz with h | hz; (subst h; exact ⟨by decide, eIO, hts (.classLink RL 13 eIO) (by decide +kernel), hX.2.2.2.2.2.2.1⟩); rw [List.mem_singleton] at hz; subst hz; exact ⟨by decide, eIA, hts (.classLink RL 15 eIA) (by decide +kernel), hX.2.2.2.2.2.2.2⟩) (by decide) (by decide) (name := eIS) (hts (.classLink RL 17 eIS) (by decide +kernel)) hX.2.1.2.2 (fun q9 u9 h9 => ?_)
  subst h9
  refine z_astore (L' := [(6, .ref (q9)), (0, .ref (ad 33)), (1, .int (x1)), (2, .int (x2)), (3, .int (x3)), (4, .int (x4)), (5, .ref (ad 34))]) C dL_addRule_25 (by decide) rfl ?_
  refine z_iconst (v := nI 3) C (by decide) dL_addRule_27 ?_
  refine z_widen (k := 1) (q := 6) (Nat.le_of_ble_eq_true rfl) (Nat.le_of_ble_eq_true rfl) ?_
  exact z_iret C hr hlocks hQ ((u9, o, d)) (⟨rfl, rfl⟩) (fun _ _ => rfl) dL_addRule_28

set_option maxHeartbeats 4000000 in
set_option maxRecDepth 100000 in
theorem h_addAction_ok (l : Launch) (D : va_G) (ad : Nat → Nat) (cI cL cR cB cD : ClassId) (hI : gI 36 ad) (u : xS) (o : Nat → Int64) (d : Nat → UInt64) (x1 x2 x3 : Int32) (P : Int32 → xS → Prop) (hM : ∀ sz, Met l yX6_addAction wsX6_addAction ({ frames := 7, cells := 0, slots := 0, locals := 112 }) (XP D ad cI cL cR u [.ref (ad 33), .int (x1), .int (x2), .int (x3)] sz) (va_Qi P (XB D ad cI cL cR) (gA 34 ad sz)) 0 0 (gA 34 ad sz)) : ∀ sz, Met l yL_addAction wsL_addAction ({ frames := 8, cells := 1, slots := 6, locals := 136 }) (HP D ad cI cL cR cB cD (u, o, d) [.ref (ad 33), .int (x1), .int (x2), .int (x3), .ref (ad 34)] sz) (va_Qi (fun r s => r = nI 0 ∧ ∃ b, P b s.1 ∧ s.2.1 0 = b.toInt64) (HB D ad cI cL cR cD) (gA 36 ad sz)) 1 6 (gA 36 ad sz) := by
  intro sz
  refine z_metW (cc := cL_addAction) (maxL := 6) (ret := (some .int)) (hh := [(0, 12, 15, 13), (0, 12, 19, 17)]) (by decide) rfl (Nat.le_of_ble_eq_true rfl) ?_
  intro pq lq sq mq aq Qq bq hmq cq C hr hml hown hts hlocks hK hX htab hsz hQ
  subst hsz
  refine z_sub (L' := [(0, .ref (ad 33)), (1, .int (x1)), (2, .int (x2)), (3, .int (x3)), (4, .ref (ad 34))]) [0, 1, 2, 3, 4] rfl ?_
  refine z_aload C dL_addAction_0 4 rfl ?_
  refine z_iconst (v := nI 0) C (by decide) dL_addAction_2 ?_
  refine z_aload_n C dL_addAction_3 0 rfl ?_
  refine z_iload_n C dL_addAction_4 1 rfl ?_
  refine z_iload_n C dL_addAction_5 2 rfl ?_
  refine z_iload_n C dL_addAction_6 3 rfl ?_
  refine z_callVi lX_ok C hml hown hts hK hX (fun sz => z_liftI (σ := id) (F := fun u9 => hF ad cI cL cR cD (u9, o, d)) (F1 := xF ad cI cL cR) (f1 := xF ad cI cL cR u) (hL36 hI) lK_x lX_x (fun _ hk => if_pos hk) (fun _ _ hk => if_pos hk) hF_h (fun _ _ h => h) (hM sz)) (cwV 3 hts gL_addAction_X6_addAction rfl rfl rfl (by decide +kernel) ⟨Nat.le_of_ble_eq_true rfl, Nat.le_of_ble_eq_true rfl⟩) (by decide) (ci := 6) rfl rfl rfl (st := [.int (nI 0), .ref (ad 34)]) rfl (Nat.le_of_ble_eq_true rfl) dL_addAction_7 ⟨Nat.le_of_ble_eq_true rfl, Nat.le_of_ble_eq_true rfl⟩ (fun r9 u9 h9 => ?_)
  refine z_i2l C rfl dL_addAction_10 ?_
  refine z_last (q := 34) (len := 1) (k := 0) C hI hK (by decide) rfl 1 rfl rfl (by decide) (by decide) (f' := hF ad cI cL cR cD (u9, (vp_updL o 0 ((r9 : Int32).toInt64)), d)) rfl hF_o dL_addAction_11 ?_
  refine z_goto (tgt := 23) C dL_addAction_12 (by decide) ?_
  refine z_iconst (v := nI 0) C (by decide) dL_addAction_23 ?_
  refine z_widen (k := 1) (q := 6) (Nat.le_of_ble_eq_true rfl) (Nat.le_of_ble_eq_true rfl) ?_
  exact z_iret C hr hlocks hQ ((u9, (vp_updL o 0 ((r9 : Int32).toInt64)), d)) (⟨rfl, r9, h9, (show (vp_updL o 0 ((r9 : Int32).toInt64)) 0 = _ from upL0 rfl)⟩) (fun _ _ => rfl) dL_addAction_24

set_option maxHeartbeats 4000000 in
set_option maxRecDepth 100000 in
theorem h_addAction_t1 (l : Launch) (D : va_G) (ad : Nat → Nat) (cI cL cR cB cD : ClassId) (hI : gI 36 ad) (u : xS) (o : Nat → Int64) (d : Nat → UInt64) (x1 x2 x3 : Int32) (hM : ∀ sz, vx_Met l yX6_addAction wsX6_addAction ({ frames := 7, cells := 1, slots := 6, locals := 112 }) (XP D ad cI cL cR u [.ref (ad 33), .int (x1), .int (x2), .int (x3)] sz) QN (XE D ad cI cL cR eIO u sz) 1 6 (gA 34 ad sz)) : ∀ sz, Met l yL_addAction wsL_addAction ({ frames := 8, cells := 1, slots := 6, locals := 136 }) (HP D ad cI cL cR cB cD (u, o, d) [.ref (ad 33), .int (x1), .int (x2), .int (x3), .ref (ad 34)] sz) (va_Qi (fun r s => r = nI 1 ∧ s = (u, o, d)) (HB D ad cI cL cR cD) (gA 36 ad sz)) 1 6 (gA 36 ad sz) := by
  intro sz
  refine z_metW (cc := cL_addAction) (maxL := 6) (ret := (some .int)) (hh := [(0, 12, 15, 13), (0, 12, 19, 17)]) (by decide) rfl (Nat.le_of_ble_eq_true rfl) ?_
  intro pq lq sq mq aq Qq bq hmq cq C hr hml hown hts hlocks hK hX htab hsz hQ
  subst hsz
  refine z_sub (L' := [(0, .ref (ad 33)), (1, .int (x1)), (2, .int (x2)), (3, .int (x3)), (4, .ref (ad 34))]) [0, 1, 2, 3, 4] rfl ?_
  refine z_aload C dL_addAction_0 4 rfl ?_
  refine z_iconst (v := nI 0) C (by decide) dL_addAction_2 ?_
  refine z_aload_n C dL_addAction_3 0 rfl ?_
  refine z_iload_n C dL_addAction_4 1 rfl ?_
  refine z_iload_n C dL_addAction_5 2 rfl ?_
  refine z_iload_n C dL_addAction_6 3 rfl ?_
  refine z_catchV lX_ok C hml hown hts hK hX (fun sz => z_liftX (σ := id) (F := fun u9 => hF ad cI cL cR cD (u9, o, d)) (F1 := xF ad cI cL cR) (f1 := xF ad cI cL cR u) (hL36 hI) lK_x lX_x (fun _ hk => if_pos hk) (fun _ _ hk => if_pos hk) hF_h (hM sz)) (cwV 3 hts gL_addAction_X6_addAction rfl rfl rfl (by decide +kernel) ⟨Nat.le_of_ble_eq_true rfl, Nat.le_of_ble_eq_true rfl⟩) (by decide) (ci := 6) rfl rfl rfl (st := [.int (nI 0), .ref (ad 34)]) rfl (Nat.le_of_ble_eq_true rfl) dL_addAction_7 ⟨Nat.le_of_ble_eq_true rfl, Nat.le_of_ble_eq_true rfl⟩ [] ⟨0, 12, 15, 13⟩ [⟨0, 12, 19, 17⟩] (htab.trans rfl) (fun z hz => absurd hz List.not_mem_nil) (by decide) (by decide) (name := eIO) (hts (.classLink RL 13 eIO) (by decide +kernel)) hX.2.1.1 (fun q9 u9 h9 => ?_)
  subst h9
  refine z_astore (L' := [(5, .ref (q9)), (0, .ref (ad 33)), (1, .int (x1)), (2, .int (x2)), (3, .int (x3)), (4, .ref (ad 34))]) C dL_addAction_15 (by decide) rfl ?_
  refine z_iconst (v := nI 1) C (by decide) dL_addAction_17 ?_
  refine z_widen (k := 1) (q := 6) (Nat.le_of_ble_eq_true rfl) (Nat.le_of_ble_eq_true rfl) ?_
  exact z_iret C hr hlocks hQ ((u9, o, d)) (⟨rfl, rfl⟩) (fun _ _ => rfl) dL_addAction_18

set_option maxHeartbeats 4000000 in
set_option maxRecDepth 100000 in
theorem h_addAction_t2 (l : Launch) (D : va_G) (ad : Nat → Nat) (cI cL cR cB cD : ClassId) (hI : gI 36 ad) (u : xS) (o : Nat → Int64) (d : Nat → UInt64) (x1 x2 x3 : Int32) (hM : ∀ sz, vx_Met l yX6_addAction wsX6_addAction ({ frames := 7, cells := 1, slots := 6, locals := 112 }) (XP D ad cI cL cR u [.ref (ad 33), .int (x1), .int (x2), .int (x3)] sz) QN (XE D ad cI cL cR eIS u sz) 1 6 (gA 34 ad sz)) : ∀ sz, Met l yL_addAction wsL_addAction ({ frames := 8, cells := 1, slots := 6, locals := 136 }) (HP D ad cI cL cR cB cD (u, o, d) [.ref (ad 33), .int (x1), .int (x2), .int (x3), .ref (ad 34)] sz) (va_Qi (fun r s => r = nI 2 ∧ s = (u, o, d)) (HB D ad cI cL cR cD) (gA 36 ad sz)) 1 6 (gA 36 ad sz) := by
  intro sz
  refine z_metW (cc := cL_addAction) (maxL := 6) (ret := (some .int)) (hh := [(0, 12, 15, 13), (0, 12, 19, 17)]) (by decide) rfl (Nat.le_of_ble_eq_true rfl) ?_
  intro pq lq sq mq aq Qq bq hmq cq C hr hml hown hts hlocks hK hX htab hsz hQ
  subst hsz
  refine z_sub (L' := [(0, .ref (ad 33)), (1, .int (x1)), (2, .int (x2)), (3, .int (x3)), (4, .ref (ad 34))]) [0, 1, 2, 3, 4] rfl ?_
  refine z_aload C dL_addAction_0 4 rfl ?_
  refine z_iconst (v := nI 0) C (by decide) dL_addAction_2 ?_
  refine z_aload_n C dL_addAction_3 0 rfl ?_
  refine z_iload_n C dL_addAction_4 1 rfl ?_
  refine z_iload_n C dL_addAction_5 2 rfl ?_
  refine z_iload_n C dL_addAction_6 3 rfl ?_
  refine z_catchV lX_ok C hml hown hts hK hX (fun sz => z_liftX (σ := id) (F := fun u9 => hF ad cI cL cR cD (u9, o, d)) (F1 := xF ad cI cL cR) (f1 := xF ad cI cL cR u) (hL36 hI) lK_x lX_x (fun _ hk => if_pos hk) (fun _ _ hk => if_pos hk) hF_h (hM sz)) (cwV 3 hts gL_addAction_X6_addAction rfl rfl rfl (by decide +kernel) ⟨Nat.le_of_ble_eq_true rfl, Nat.le_of_ble_eq_true rfl⟩) (by decide) (ci := 6) rfl rfl rfl (st := [.int (nI 0), .ref (ad 34)]) rfl (Nat.le_of_ble_eq_true rfl) dL_addAction_7 ⟨Nat.le_of_ble_eq_true rfl, Nat.le_of_ble_eq_true rfl⟩ [⟨0, 12, 15, 13⟩] ⟨0, 12, 19, 17⟩ [] (htab.trans rfl) (fun z hz => by rw [List.mem_singleton] at hz; subst hz; exact ⟨by decide, eIO, hts (.classLink RL 13 eIO) (by decide +kernel), hX.2.2.2.2.2.2.1⟩) (by decide) (by decide) (name := eIS) (hts (.classLink RL 17 eIS) (by decide +kernel)) hX.2.1.2.2 (fun q9 u9 h9 => ?_)
  subst h9
  refine z_astore (L' := [(5, .ref (q9)), (0, .ref (ad 33)), (1, .int (x1)), (2, .int (x2)), (3, .int (x3)), (4, .ref (ad 34))]) C dL_addAction_19 (by decide) rfl ?_
  refine z_iconst (v := nI 2) C (by decide) dL_addAction_21 ?_
  refine z_widen (k := 1) (q := 6) (Nat.le_of_ble_eq_true rfl) (Nat.le_of_ble_eq_true rfl) ?_
  exact z_iret C hr hlocks hQ ((u9, o, d)) (⟨rfl, rfl⟩) (fun _ _ => rfl) dL_addAction_22

set_option maxHeartbeats 4000000 in
set_option maxRecDepth 100000 in
theorem h_turn_ok (l : Launch) (D : va_G) (ad : Nat → Nat) (cI cL cR cB cD : ClassId) (hI : gI 36 ad) (u : xS) (o : Nat → Int64) (d : Nat → UInt64) (x1 x2 : Int32) (P : Int32 → xS → Prop) (hM : ∀ sz, Met l yX6_turn wsX6_turn ({ frames := 7, cells := 0, slots := 0, locals := 112 }) (XP D ad cI cL cR u [.ref (ad 33), .int (x1), .int (x2)] sz) (va_Qi P (XB D ad cI cL cR) (gA 34 ad sz)) 0 0 (gA 34 ad sz)) : ∀ sz, Met l yL_turn wsL_turn ({ frames := 8, cells := 1, slots := 6, locals := 136 }) (HP D ad cI cL cR cB cD (u, o, d) [.ref (ad 33), .int (x1), .int (x2), .ref (ad 34)] sz) (va_Qi (fun r s => r = nI 0 ∧ ∃ b, P b s.1 ∧ s.2.1 0 = (if b = 0 then 0 else 1)) (HB D ad cI cL cR cD) (gA 36 ad sz)) 1 6 (gA 36 ad sz) := by
  intro sz
  refine z_metW (cc := cL_turn) (maxL := 5) (ret := (some .int)) (hh := [(0, 17, 20, 13)]) (by decide) rfl (Nat.le_of_ble_eq_true rfl) ?_
  intro pq lq sq mq aq Qq bq hmq cq C hr hml hown hts hlocks hK hX htab hsz hQ
  subst hsz
  refine z_sub (L' := [(0, .ref (ad 33)), (1, .int (x1)), (2, .int (x2)), (3, .ref (ad 34))]) [0, 1, 2, 3] rfl ?_
  refine z_aload_n C dL_turn_0 3 rfl ?_
  refine z_iconst (v := nI 0) C (by decide) dL_turn_1 ?_
  refine z_aload_n C dL_turn_2 0 rfl ?_
  refine z_iload_n C dL_turn_3 1 rfl ?_
  refine z_iload_n C dL_turn_4 2 rfl ?_
  refine z_callVi lX_ok C hml hown hts hK hX (fun sz => z_liftI (σ := id) (F := fun u9 => hF ad cI cL cR cD (u9, o, d)) (F1 := xF ad cI cL cR) (f1 := xF ad cI cL cR u) (hL36 hI) lK_x lX_x (fun _ hk => if_pos hk) (fun _ _ hk => if_pos hk) hF_h (fun _ _ h => h) (hM sz)) (cwV 2 hts gL_turn_X6_turn rfl rfl rfl (by decide +kernel) ⟨Nat.le_of_ble_eq_true rfl, Nat.le_of_ble_eq_true rfl⟩) (by decide) (ci := 6) rfl rfl rfl (st := [.int (nI 0), .ref (ad 34)]) rfl (Nat.le_of_ble_eq_true rfl) dL_turn_5 ⟨Nat.le_of_ble_eq_true rfl, Nat.le_of_ble_eq_true rfl⟩ (fun r9 u9 h9 => ?_)
  refine z_if_eq (tgt := 15) C dL_turn_8 (by decide) (fun zc8 => ?_) (fun zc8 => ?_)
  · skip
    refine z_lconst (v := 0) C (by decide) dL_turn_15 ?_
    refine z_last (q := 34) (len := 1) (k := 0) C hI hK (by decide) rfl 1 rfl rfl (by decide) (by decide) (f' := hF ad cI cL cR cD (u9, (vp_updL o 0 (0)), d)) rfl hF_o dL_turn_16 ?_
    refine z_goto (tgt := 24) C dL_turn_17 (by decide) ?_
    refine z_iconst (v := nI 0) C (by decide) dL_turn_24 ?_
    refine z_widen (k := 1) (q := 6) (Nat.le_of_ble_eq_true rfl) (Nat.le_of_ble_eq_true rfl) ?_
    exact z_iret C hr hlocks hQ ((u9, (vp_updL o 0 (0)), d)) (⟨rfl, r9, h9, (show (vp_updL o 0 (0)) 0 = _ from upL0 (by split <;> first | rfl | contradiction))⟩) (fun _ _ => rfl) dL_turn_25
  · skip
    refine z_lconst (v := 1) C (by decide) dL_turn_11 ?_
    refine z_goto (tgt := 16) C dL_turn_12 (by decide) ?_
    refine z_last (q := 34) (len := 1) (k := 0) C hI hK (by decide) rfl 1 rfl rfl (by decide) (by decide) (f' := hF ad cI cL cR cD (u9, (vp_updL o 0 (1)), d)) rfl hF_o dL_turn_16 ?_
    refine z_goto (tgt := 24) C dL_turn_17 (by decide) ?_
    refine z_iconst (v := nI 0) C (by decide) dL_turn_24 ?_
    refine z_widen (k := 1) (q := 6) (Nat.le_of_ble_eq_true rfl) (Nat.le_of_ble_eq_true rfl) ?_
    exact z_iret C hr hlocks hQ ((u9, (vp_updL o 0 (1)), d)) (⟨rfl, r9, h9, (show (vp_updL o 0 (1)) 0 = _ from upL0 (by split <;> first | rfl | contradiction))⟩) (fun _ _ => rfl) dL_turn_25

set_option maxHeartbeats 4000000 in
set_option maxRecDepth 100000 in
theorem h_turn_t1 (l : Launch) (D : va_G) (ad : Nat → Nat) (cI cL cR cB cD : ClassId) (hI : gI 36 ad) (u : xS) (o : Nat → Int64) (d : Nat → UInt64) (x1 x2 : Int32) (hM : ∀ sz, vx_Met l yX6_turn wsX6_turn ({ frames := 7, cells := 1, slots := 6, locals := 112 }) (XP D ad cI cL cR u [.ref (ad 33), .int (x1), .int (x2)] sz) QN (XE D ad cI cL cR eIO u sz) 1 6 (gA 34 ad sz)) : ∀ sz, Met l yL_turn wsL_turn ({ frames := 8, cells := 1, slots := 6, locals := 136 }) (HP D ad cI cL cR cB cD (u, o, d) [.ref (ad 33), .int (x1), .int (x2), .ref (ad 34)] sz) (va_Qi (fun r s => r = nI 1 ∧ s = (u, o, d)) (HB D ad cI cL cR cD) (gA 36 ad sz)) 1 6 (gA 36 ad sz) := by
  intro sz
  refine z_metW (cc := cL_turn) (maxL := 5) (ret := (some .int)) (hh := [(0, 17, 20, 13)]) (by decide) rfl (Nat.le_of_ble_eq_true rfl) ?_
  intro pq lq sq mq aq Qq bq hmq cq C hr hml hown hts hlocks hK hX htab hsz hQ
  subst hsz
  refine z_sub (L' := [(0, .ref (ad 33)), (1, .int (x1)), (2, .int (x2)), (3, .ref (ad 34))]) [0, 1, 2, 3] rfl ?_
  refine z_aload_n C dL_turn_0 3 rfl ?_
  refine z_iconst (v := nI 0) C (by decide) dL_turn_1 ?_
  refine z_aload_n C dL_turn_2 0 rfl ?_
  refine z_iload_n C dL_turn_3 1 rfl ?_
  refine z_iload_n C dL_turn_4 2 rfl ?_
  refine z_catchV lX_ok C hml hown hts hK hX (fun sz => z_liftX (σ := id) (F := fun u9 => hF ad cI cL cR cD (u9, o, d)) (F1 := xF ad cI cL cR) (f1 := xF ad cI cL cR u) (hL36 hI) lK_x lX_x (fun _ hk => if_pos hk) (fun _ _ hk => if_pos hk) hF_h (hM sz)) (cwV 2 hts gL_turn_X6_turn rfl rfl rfl (by decide +kernel) ⟨Nat.le_of_ble_eq_true rfl, Nat.le_of_ble_eq_true rfl⟩) (by decide) (ci := 6) rfl rfl rfl (st := [.int (nI 0), .ref (ad 34)]) rfl (Nat.le_of_ble_eq_true rfl) dL_turn_5 ⟨Nat.le_of_ble_eq_true rfl, Nat.le_of_ble_eq_true rfl⟩ [] ⟨0, 17, 20, 13⟩ [] (htab.trans rfl) (fun z hz => absurd hz List.not_mem_nil) (by decide) (by decide) (name := eIO) (hts (.classLink RL 13 eIO) (by decide +kernel)) hX.2.1.1 (fun q9 u9 h9 => ?_)
  subst h9
  refine z_astore (L' := [(4, .ref (q9)), (0, .ref (ad 33)), (1, .int (x1)), (2, .int (x2)), (3, .ref (ad 34))]) C dL_turn_20 (by decide) rfl ?_
  refine z_iconst (v := nI 1) C (by decide) dL_turn_22 ?_
  refine z_widen (k := 1) (q := 6) (Nat.le_of_ble_eq_true rfl) (Nat.le_of_ble_eq_true rfl) ?_
  exact z_iret C hr hlocks hQ ((u9, o, d)) (⟨rfl, rfl⟩) (fun _ _ => rfl) dL_turn_23

set_option maxHeartbeats 4000000 in
set_option maxRecDepth 100000 in
theorem h_rank_ok (l : Launch) (D : va_G) (ad : Nat → Nat) (cI cL cR cB cD : ClassId) (hI : gI 36 ad) (u : xS) (o : Nat → Int64) (d : Nat → UInt64) (x1 x2 : Int32) (P : Int32 → xS → Prop) (hM : ∀ sz, Met l yX6_rank wsX6_rank ({ frames := 7, cells := 0, slots := 0, locals := 112 }) (XP D ad cI cL cR u [.ref (ad 33), .int (x1), .int (x2)] sz) (va_Qi P (XB D ad cI cL cR) (gA 34 ad sz)) 0 0 (gA 34 ad sz)) : ∀ sz, Met l yL_rank wsL_rank ({ frames := 8, cells := 1, slots := 6, locals := 137 }) (HP D ad cI cL cR cB cD (u, o, d) [.ref (ad 33), .int (x1), .int (x2), .ref (ad 34)] sz) (va_Qi (fun r s => r = nI 0 ∧ ∃ b, P b s.1 ∧ s.2.1 0 = (if b = 0 then 0 else 1)) (HB D ad cI cL cR cD) (gA 36 ad sz)) 1 6 (gA 36 ad sz) := by
  intro sz
  refine z_metW (cc := cL_rank) (maxL := 5) (ret := (some .int)) (hh := [(0, 17, 20, 13), (0, 17, 24, 15)]) (by decide) rfl (Nat.le_of_ble_eq_true rfl) ?_
  intro pq lq sq mq aq Qq bq hmq cq C hr hml hown hts hlocks hK hX htab hsz hQ
  subst hsz
  refine z_sub (L' := [(0, .ref (ad 33)), (1, .int (x1)), (2, .int (x2)), (3, .ref (ad 34))]) [0, 1, 2, 3] rfl ?_
  refine z_aload_n C dL_rank_0 3 rfl ?_
  refine z_iconst (v := nI 0) C (by decide) dL_rank_1 ?_
  refine z_aload_n C dL_rank_2 0 rfl ?_
  refine z_iload_n C dL_rank_3 1 rfl ?_
  refine z_iload_n C dL_rank_4 2 rfl ?_
  refine z_callVi lX_ok C hml hown hts hK hX (fun sz => z_liftI (σ := id) (F := fun u9 => hF ad cI cL cR cD (u9, o, d)) (F1 := xF ad cI cL cR) (f1 := xF ad cI cL cR u) (hL36 hI) lK_x lX_x (fun _ hk => if_pos hk) (fun _ _ hk => if_pos hk) hF_h (fun _ _ h => h) (hM sz)) (cwV 2 hts gL_rank_X6_rank rfl rfl rfl (by decide +kernel) ⟨Nat.le_of_ble_eq_true rfl, Nat.le_of_ble_eq_true rfl⟩) (by decide) (ci := 6) rfl rfl rfl (st := [.int (nI 0), .ref (ad 34)]) rfl (Nat.le_of_ble_eq_true rfl) dL_rank_5 ⟨Nat.le_of_ble_eq_true rfl, Nat.le_of_ble_eq_true rfl⟩ (fun r9 u9 h9 => ?_)
  refine z_if_eq (tgt := 15) C dL_rank_8 (by decide) (fun zc8 => ?_) (fun zc8 => ?_)
  · skip
    refine z_lconst (v := 0) C (by decide) dL_rank_15 ?_
    refine z_last (q := 34) (len := 1) (k := 0) C hI hK (by decide) rfl 1 rfl rfl (by decide) (by decide) (f' := hF ad cI cL cR cD (u9, (vp_updL o 0 (0)), d)) rfl hF_o dL_rank_16 ?_
    refine z_goto (tgt := 28) C dL_rank_17 (by decide) ?_
    refine z_iconst (v := nI 0) C (by decide) dL_rank_28 ?_
    refine z_widen (k := 1) (q := 6) (Nat.le_of_ble_eq_true rfl) (Nat.le_of_ble_eq_true rfl) ?_
    exact z_iret C hr hlocks hQ ((u9, (vp_updL o 0 (0)), d)) (⟨rfl, r9, h9, (show (vp_updL o 0 (0)) 0 = _ from upL0 (by split <;> first | rfl | contradiction))⟩) (fun _ _ => rfl) dL_rank_29
  · skip
    refine z_lconst (v := 1) C (by decide) dL_rank_11 ?_
    refine z_goto (tgt := 16) C dL_rank_12 (by decide) ?_
    refine z_last (q := 34) (len := 1) (k := 0) C hI hK (by decide) rfl 1 rfl rfl (by decide) (by decide) (f' := hF ad cI cL cR cD (u9, (vp_updL o 0 (1)), d)) rfl hF_o dL_rank_16 ?_
    refine z_goto (tgt := 28) C dL_rank_17 (by decide) ?_
    refine z_iconst (v := nI 0) C (by decide) dL_rank_28 ?_
    refine z_widen (k := 1) (q := 6) (Nat.le_of_ble_eq_true rfl) (Nat.le_of_ble_eq_true rfl) ?_
    exact z_iret C hr hlocks hQ ((u9, (vp_updL o 0 (1)), d)) (⟨rfl, r9, h9, (show (vp_updL o 0 (1)) 0 = _ from upL0 (by split <;> first | rfl | contradiction))⟩) (fun _ _ => rfl) dL_rank_29

set_option maxHeartbeats 4000000 in
set_option maxRecDepth 100000 in
theorem h_rank_t1 (l : Launch) (D : va_G) (ad : Nat → Nat) (cI cL cR cB cD : ClassId) (hI : gI 36 ad) (u : xS) (o : Nat → Int64) (d : Nat → UInt64) (x1 x2 : Int32) (hM : ∀ sz, vx_Met l yX6_rank wsX6_rank ({ frames := 7, cells := 1, slots := 6, locals := 112 }) (XP D ad cI cL cR u [.ref (ad 33), .int (x1), .int (x2)] sz) QN (XE D ad cI cL cR eIO u sz) 1 6 (gA 34 ad sz)) : ∀ sz, Met l yL_rank wsL_rank ({ frames := 8, cells := 1, slots := 6, locals := 137 }) (HP D ad cI cL cR cB cD (u, o, d) [.ref (ad 33), .int (x1), .int (x2), .ref (ad 34)] sz) (va_Qi (fun r s => r = nI 1 ∧ s = (u, o, d)) (HB D ad cI cL cR cD) (gA 36 ad sz)) 1 6 (gA 36 ad sz) := by
  intro sz
  refine z_metW (cc := cL_rank) (maxL := 5) (ret := (some .int)) (hh := [(0, 17, 20, 13), (0, 17, 24, 15)]) (by decide) rfl (Nat.le_of_ble_eq_true rfl) ?_
  intro pq lq sq mq aq Qq bq hmq cq C hr hml hown hts hlocks hK hX htab hsz hQ
  subst hsz
  refine z_sub (L' := [(0, .ref (ad 33)), (1, .int (x1)), (2, .int (x2)), (3, .ref (ad 34))]) [0, 1, 2, 3] rfl ?_
  refine z_aload_n C dL_rank_0 3 rfl ?_
  refine z_iconst (v := nI 0) C (by decide) dL_rank_1 ?_
  refine z_aload_n C dL_rank_2 0 rfl ?_
  refine z_iload_n C dL_rank_3 1 rfl ?_
  refine z_iload_n C dL_rank_4 2 rfl ?_
  refine z_catchV lX_ok C hml hown hts hK hX (fun sz => z_liftX (σ := id) (F := fun u9 => hF ad cI cL cR cD (u9, o, d)) (F1 := xF ad cI cL cR) (f1 := xF ad cI cL cR u) (hL36 hI) lK_x lX_x (fun _ hk => if_pos hk) (fun _ _ hk => if_pos hk) hF_h (hM sz)) (cwV 2 hts gL_rank_X6_rank rfl rfl rfl (by decide +kernel) ⟨Nat.le_of_ble_eq_true rfl, Nat.le_of_ble_eq_true rfl⟩) (by decide) (ci := 6) rfl rfl rfl (st := [.int (nI 0), .ref (ad 34)]) rfl (Nat.le_of_ble_eq_true rfl) dL_rank_5 ⟨Nat.le_of_ble_eq_true rfl, Nat.le_of_ble_eq_true rfl⟩ [] ⟨0, 17, 20, 13⟩ [⟨0, 17, 24, 15⟩] (htab.trans rfl) (fun z hz => absurd hz List.not_mem_nil) (by decide) (by decide) (name := eIO) (hts (.classLink RL 13 eIO) (by decide +kernel)) hX.2.1.1 (fun q9 u9 h9 => ?_)
  subst h9
  refine z_astore (L' := [(4, .ref (q9)), (0, .ref (ad 33)), (1, .int (x1)), (2, .int (x2)), (3, .ref (ad 34))]) C dL_rank_20 (by decide) rfl ?_
  refine z_iconst (v := nI 1) C (by decide) dL_rank_22 ?_
  refine z_widen (k := 1) (q := 6) (Nat.le_of_ble_eq_true rfl) (Nat.le_of_ble_eq_true rfl) ?_
  exact z_iret C hr hlocks hQ ((u9, o, d)) (⟨rfl, rfl⟩) (fun _ _ => rfl) dL_rank_23

set_option maxHeartbeats 4000000 in
set_option maxRecDepth 100000 in
theorem h_rank_t2 (l : Launch) (D : va_G) (ad : Nat → Nat) (cI cL cR cB cD : ClassId) (hI : gI 36 ad) (u : xS) (o : Nat → Int64) (d : Nat → UInt64) (x1 x2 : Int32) (hM : ∀ sz, vx_Met l yX6_rank wsX6_rank ({ frames := 7, cells := 1, slots := 6, locals := 112 }) (XP D ad cI cL cR u [.ref (ad 33), .int (x1), .int (x2)] sz) QN (XE D ad cI cL cR eIA u sz) 1 6 (gA 34 ad sz)) : ∀ sz, Met l yL_rank wsL_rank ({ frames := 8, cells := 1, slots := 6, locals := 137 }) (HP D ad cI cL cR cB cD (u, o, d) [.ref (ad 33), .int (x1), .int (x2), .ref (ad 34)] sz) (va_Qi (fun r s => r = nI 2 ∧ s = (u, o, d)) (HB D ad cI cL cR cD) (gA 36 ad sz)) 1 6 (gA 36 ad sz) := by
  intro sz
  refine z_metW (cc := cL_rank) (maxL := 5) (ret := (some .int)) (hh := [(0, 17, 20, 13), (0, 17, 24, 15)]) (by decide) rfl (Nat.le_of_ble_eq_true rfl) ?_
  intro pq lq sq mq aq Qq bq hmq cq C hr hml hown hts hlocks hK hX htab hsz hQ
  subst hsz
  refine z_sub (L' := [(0, .ref (ad 33)), (1, .int (x1)), (2, .int (x2)), (3, .ref (ad 34))]) [0, 1, 2, 3] rfl ?_
  refine z_aload_n C dL_rank_0 3 rfl ?_
  refine z_iconst (v := nI 0) C (by decide) dL_rank_1 ?_
  refine z_aload_n C dL_rank_2 0 rfl ?_
  refine z_iload_n C dL_rank_3 1 rfl ?_
  refine z_iload_n C dL_rank_4 2 rfl ?_
  refine z_catchV lX_ok C hml hown hts hK hX (fun sz => z_liftX (σ := id) (F := fun u9 => hF ad cI cL cR cD (u9, o, d)) (F1 := xF ad cI cL cR) (f1 := xF ad cI cL cR u) (hL36 hI) lK_x lX_x (fun _ hk => if_pos hk) (fun _ _ hk => if_pos hk) hF_h (hM sz)) (cwV 2 hts gL_rank_X6_rank rfl rfl rfl (by decide +kernel) ⟨Nat.le_of_ble_eq_true rfl, Nat.le_of_ble_eq_true rfl⟩) (by decide) (ci := 6) rfl rfl rfl (st := [.int (nI 0), .ref (ad 34)]) rfl (Nat.le_of_ble_eq_true rfl) dL_rank_5 ⟨Nat.le_of_ble_eq_true rfl, Nat.le_of_ble_eq_true rfl⟩ [⟨0, 17, 20, 13⟩] ⟨0, 17, 24, 15⟩ [] (htab.trans rfl) (fun z hz => by rw [List.mem_singleton] at hz; subst hz; exact ⟨by decide, eIO, hts (.classLink RL 13 eIO) (by decide +kernel), hX.2.2.2.2.1⟩) (by decide) (by decide) (name := eIA) (hts (.classLink RL 15 eIA) (by decide +kernel)) hX.2.1.2.1 (fun q9 u9 h9 => ?_)
  subst h9
  refine z_astore (L' := [(4, .ref (q9)), (0, .ref (ad 33)), (1, .int (x1)), (2, .int (x2)), (3, .ref (ad 34))]) C dL_rank_24 (by decide) rfl ?_
  refine z_iconst (v := nI 2) C (by decide) dL_rank_26 ?_
  refine z_widen (k := 1) (q := 6) (Nat.le_of_ble_eq_true rfl) (Nat.le_of_ble_eq_true rfl) ?_
  exact z_iret C hr hlocks hQ ((u9, o, d)) (⟨rfl, rfl⟩) (fun _ _ => rfl) dL_rank_27

set_option maxHeartbeats 4000000 in
set_option maxRecDepth 100000 in
theorem h_isAbove_ok (l : Launch) (D : va_G) (ad : Nat → Nat) (cI cL cR cB cD : ClassId) (hI : gI 36 ad) (u : xS) (o : Nat → Int64) (d : Nat → UInt64) (x1 x2 : Int32) (P : Int32 → xS → Prop) (hM : ∀ sz, Met l yX6_isAbove wsX6_isAbove ({ frames := 7, cells := 0, slots := 0, locals := 112 }) (XP D ad cI cL cR u [.ref (ad 33), .int (x1), .int (x2)] sz) (va_Qi P (XB D ad cI cL cR) (gA 34 ad sz)) 0 0 (gA 34 ad sz)) : ∀ sz, Met l yL_isAbove wsL_isAbove ({ frames := 8, cells := 1, slots := 6, locals := 136 }) (HP D ad cI cL cR cB cD (u, o, d) [.ref (ad 33), .int (x1), .int (x2), .ref (ad 34)] sz) (va_Qi (fun r s => r = nI 0 ∧ ∃ b, P b s.1 ∧ s.2.1 0 = (if b = 0 then 0 else 1)) (HB D ad cI cL cR cD) (gA 36 ad sz)) 1 6 (gA 36 ad sz) := by
  intro sz
  refine z_metW (cc := cL_isAbove) (maxL := 5) (ret := (some .int)) (hh := [(0, 17, 20, 13)]) (by decide) rfl (Nat.le_of_ble_eq_true rfl) ?_
  intro pq lq sq mq aq Qq bq hmq cq C hr hml hown hts hlocks hK hX htab hsz hQ
  subst hsz
  refine z_sub (L' := [(0, .ref (ad 33)), (1, .int (x1)), (2, .int (x2)), (3, .ref (ad 34))]) [0, 1, 2, 3] rfl ?_
  refine z_aload_n C dL_isAbove_0 3 rfl ?_
  refine z_iconst (v := nI 0) C (by decide) dL_isAbove_1 ?_
  refine z_aload_n C dL_isAbove_2 0 rfl ?_
  refine z_iload_n C dL_isAbove_3 1 rfl ?_
  refine z_iload_n C dL_isAbove_4 2 rfl ?_
  refine z_callVi lX_ok C hml hown hts hK hX (fun sz => z_liftI (σ := id) (F := fun u9 => hF ad cI cL cR cD (u9, o, d)) (F1 := xF ad cI cL cR) (f1 := xF ad cI cL cR u) (hL36 hI) lK_x lX_x (fun _ hk => if_pos hk) (fun _ _ hk => if_pos hk) hF_h (fun _ _ h => h) (hM sz)) (cwV 2 hts gL_isAbove_X6_isAbove rfl rfl rfl (by decide +kernel) ⟨Nat.le_of_ble_eq_true rfl, Nat.le_of_ble_eq_true rfl⟩) (by decide) (ci := 6) rfl rfl rfl (st := [.int (nI 0), .ref (ad 34)]) rfl (Nat.le_of_ble_eq_true rfl) dL_isAbove_5 ⟨Nat.le_of_ble_eq_true rfl, Nat.le_of_ble_eq_true rfl⟩ (fun r9 u9 h9 => ?_)
  refine z_if_eq (tgt := 15) C dL_isAbove_8 (by decide) (fun zc8 => ?_) (fun zc8 => ?_)
  · skip
    refine z_lconst (v := 0) C (by decide) dL_isAbove_15 ?_
    refine z_last (q := 34) (len := 1) (k := 0) C hI hK (by decide) rfl 1 rfl rfl (by decide) (by decide) (f' := hF ad cI cL cR cD (u9, (vp_updL o 0 (0)), d)) rfl hF_o dL_isAbove_16 ?_
    refine z_goto (tgt := 24) C dL_isAbove_17 (by decide) ?_
    refine z_iconst (v := nI 0) C (by decide) dL_isAbove_24 ?_
    refine z_widen (k := 1) (q := 6) (Nat.le_of_ble_eq_true rfl) (Nat.le_of_ble_eq_true rfl) ?_
    exact z_iret C hr hlocks hQ ((u9, (vp_updL o 0 (0)), d)) (⟨rfl, r9, h9, (show (vp_updL o 0 (0)) 0 = _ from upL0 (by split <;> first | rfl | contradiction))⟩) (fun _ _ => rfl) dL_isAbove_25
  · skip
    refine z_lconst (v := 1) C (by decide) dL_isAbove_11 ?_
    refine z_goto (tgt := 16) C dL_isAbove_12 (by decide) ?_
    refine z_last (q := 34) (len := 1) (k := 0) C hI hK (by decide) rfl 1 rfl rfl (by decide) (by decide) (f' := hF ad cI cL cR cD (u9, (vp_updL o 0 (1)), d)) rfl hF_o dL_isAbove_16 ?_
    refine z_goto (tgt := 24) C dL_isAbove_17 (by decide) ?_
    refine z_iconst (v := nI 0) C (by decide) dL_isAbove_24 ?_
    refine z_widen (k := 1) (q := 6) (Nat.le_of_ble_eq_true rfl) (Nat.le_of_ble_eq_true rfl) ?_
    exact z_iret C hr hlocks hQ ((u9, (vp_updL o 0 (1)), d)) (⟨rfl, r9, h9, (show (vp_updL o 0 (1)) 0 = _ from upL0 (by split <;> first | rfl | contradiction))⟩) (fun _ _ => rfl) dL_isAbove_25

set_option maxHeartbeats 4000000 in
set_option maxRecDepth 100000 in
theorem h_isAbove_t1 (l : Launch) (D : va_G) (ad : Nat → Nat) (cI cL cR cB cD : ClassId) (hI : gI 36 ad) (u : xS) (o : Nat → Int64) (d : Nat → UInt64) (x1 x2 : Int32) (hM : ∀ sz, vx_Met l yX6_isAbove wsX6_isAbove ({ frames := 7, cells := 1, slots := 6, locals := 112 }) (XP D ad cI cL cR u [.ref (ad 33), .int (x1), .int (x2)] sz) QN (XE D ad cI cL cR eIO u sz) 1 6 (gA 34 ad sz)) : ∀ sz, Met l yL_isAbove wsL_isAbove ({ frames := 8, cells := 1, slots := 6, locals := 136 }) (HP D ad cI cL cR cB cD (u, o, d) [.ref (ad 33), .int (x1), .int (x2), .ref (ad 34)] sz) (va_Qi (fun r s => r = nI 1 ∧ s = (u, o, d)) (HB D ad cI cL cR cD) (gA 36 ad sz)) 1 6 (gA 36 ad sz) := by
  intro sz
  refine z_metW (cc := cL_isAbove) (maxL := 5) (ret := (some .int)) (hh := [(0, 17, 20, 13)]) (by decide) rfl (Nat.le_of_ble_eq_true rfl) ?_
  intro pq lq sq mq aq Qq bq hmq cq C hr hml hown hts hlocks hK hX htab hsz hQ
  subst hsz
  refine z_sub (L' := [(0, .ref (ad 33)), (1, .int (x1)), (2, .int (x2)), (3, .ref (ad 34))]) [0, 1, 2, 3] rfl ?_
  refine z_aload_n C dL_isAbove_0 3 rfl ?_
  refine z_iconst (v := nI 0) C (by decide) dL_isAbove_1 ?_
  refine z_aload_n C dL_isAbove_2 0 rfl ?_
  refine z_iload_n C dL_isAbove_3 1 rfl ?_
  refine z_iload_n C dL_isAbove_4 2 rfl ?_
  refine z_catchV lX_ok C hml hown hts hK hX (fun sz => z_liftX (σ := id) (F := fun u9 => hF ad cI cL cR cD (u9, o, d)) (F1 := xF ad cI cL cR) (f1 := xF ad cI cL cR u) (hL36 hI) lK_x lX_x (fun _ hk => if_pos hk) (fun _ _ hk => if_pos hk) hF_h (hM sz)) (cwV 2 hts gL_isAbove_X6_isAbove rfl rfl rfl (by decide +kernel) ⟨Nat.le_of_ble_eq_true rfl, Nat.le_of_ble_eq_true rfl⟩) (by decide) (ci := 6) rfl rfl rfl (st := [.int (nI 0), .ref (ad 34)]) rfl (Nat.le_of_ble_eq_true rfl) dL_isAbove_5 ⟨Nat.le_of_ble_eq_true rfl, Nat.le_of_ble_eq_true rfl⟩ [] ⟨0, 17, 20, 13⟩ [] (htab.trans rfl) (fun z hz => absurd hz List.not_mem_nil) (by decide) (by decide) (name := eIO) (hts (.classLink RL 13 eIO) (by decide +kernel)) hX.2.1.1 (fun q9 u9 h9 => ?_)
  subst h9
  refine z_astore (L' := [(4, .ref (q9)), (0, .ref (ad 33)), (1, .int (x1)), (2, .int (x2)), (3, .ref (ad 34))]) C dL_isAbove_20 (by decide) rfl ?_
  refine z_iconst (v := nI 1) C (by decide) dL_isAbove_22 ?_
  refine z_widen (k := 1) (q := 6) (Nat.le_of_ble_eq_true rfl) (Nat.le_of_ble_eq_true rfl) ?_
  exact z_iret C hr hlocks hQ ((u9, o, d)) (⟨rfl, rfl⟩) (fun _ _ => rfl) dL_isAbove_23

set_option maxHeartbeats 4000000 in
set_option maxRecDepth 100000 in
theorem h_put_ok (l : Launch) (D : va_G) (ad : Nat → Nat) (cI cL cR cB cD : ClassId) (hI : gI 36 ad) (u : xS) (o : Nat → Int64) (d : Nat → UInt64) (x1 : Int32) (P : Int32 → xS → Prop) (hM : ∀ sz, Met l yX6_put wsX6_put ({ frames := 7, cells := 0, slots := 0, locals := 110 }) (XP D ad cI cL cR u [.ref (ad 33), .int (x1)] sz) (va_Qi P (XB D ad cI cL cR) (gA 34 ad sz)) 0 0 (gA 34 ad sz)) : ∀ sz, Met l yL_put wsL_put ({ frames := 8, cells := 1, slots := 6, locals := 132 }) (HP D ad cI cL cR cB cD (u, o, d) [.ref (ad 33), .int (x1), .ref (ad 34)] sz) (va_Qi (fun r s => r = nI 0 ∧ ∃ b, P b s.1 ∧ s.2.1 0 = b.toInt64) (HB D ad cI cL cR cD) (gA 36 ad sz)) 1 6 (gA 36 ad sz) := by
  intro sz
  refine z_metW (cc := cL_put) (maxL := 4) (ret := (some .int)) (hh := [(0, 9, 12, 15)]) (by decide) rfl (Nat.le_of_ble_eq_true rfl) ?_
  intro pq lq sq mq aq Qq bq hmq cq C hr hml hown hts hlocks hK hX htab hsz hQ
  subst hsz
  refine z_sub (L' := [(0, .ref (ad 33)), (1, .int (x1)), (2, .ref (ad 34))]) [0, 1, 2] rfl ?_
  refine z_aload_n C dL_put_0 2 rfl ?_
  refine z_iconst (v := nI 0) C (by decide) dL_put_1 ?_
  refine z_aload_n C dL_put_2 0 rfl ?_
  refine z_iload_n C dL_put_3 1 rfl ?_
  refine z_callVi lX_ok C hml hown hts hK hX (fun sz => z_liftI (σ := id) (F := fun u9 => hF ad cI cL cR cD (u9, o, d)) (F1 := xF ad cI cL cR) (f1 := xF ad cI cL cR u) (hL36 hI) lK_x lX_x (fun _ hk => if_pos hk) (fun _ _ hk => if_pos hk) hF_h (fun _ _ h => h) (hM sz)) (cwV 1 hts gL_put_X6_put rfl rfl rfl (by decide +kernel) ⟨Nat.le_of_ble_eq_true rfl, Nat.le_of_ble_eq_true rfl⟩) (by decide) (ci := 6) rfl rfl rfl (st := [.int (nI 0), .ref (ad 34)]) rfl (Nat.le_of_ble_eq_true rfl) dL_put_4 ⟨Nat.le_of_ble_eq_true rfl, Nat.le_of_ble_eq_true rfl⟩ (fun r9 u9 h9 => ?_)
  refine z_i2l C rfl dL_put_7 ?_
  refine z_last (q := 34) (len := 1) (k := 0) C hI hK (by decide) rfl 1 rfl rfl (by decide) (by decide) (f' := hF ad cI cL cR cD (u9, (vp_updL o 0 ((r9 : Int32).toInt64)), d)) rfl hF_o dL_put_8 ?_
  refine z_goto (tgt := 15) C dL_put_9 (by decide) ?_
  refine z_iconst (v := nI 0) C (by decide) dL_put_15 ?_
  refine z_widen (k := 1) (q := 6) (Nat.le_of_ble_eq_true rfl) (Nat.le_of_ble_eq_true rfl) ?_
  exact z_iret C hr hlocks hQ ((u9, (vp_updL o 0 ((r9 : Int32).toInt64)), d)) (⟨rfl, r9, h9, (show (vp_updL o 0 ((r9 : Int32).toInt64)) 0 = _ from upL0 rfl)⟩) (fun _ _ => rfl) dL_put_16

set_option maxHeartbeats 4000000 in
set_option maxRecDepth 100000 in
theorem h_put_t1 (l : Launch) (D : va_G) (ad : Nat → Nat) (cI cL cR cB cD : ClassId) (hI : gI 36 ad) (u : xS) (o : Nat → Int64) (d : Nat → UInt64) (x1 : Int32) (hM : ∀ sz, vx_Met l yX6_put wsX6_put ({ frames := 7, cells := 1, slots := 6, locals := 110 }) (XP D ad cI cL cR u [.ref (ad 33), .int (x1)] sz) QN (XE D ad cI cL cR eIA u sz) 1 6 (gA 34 ad sz)) : ∀ sz, Met l yL_put wsL_put ({ frames := 8, cells := 1, slots := 6, locals := 132 }) (HP D ad cI cL cR cB cD (u, o, d) [.ref (ad 33), .int (x1), .ref (ad 34)] sz) (va_Qi (fun r s => r = nI 1 ∧ s = (u, o, d)) (HB D ad cI cL cR cD) (gA 36 ad sz)) 1 6 (gA 36 ad sz) := by
  intro sz
  refine z_metW (cc := cL_put) (maxL := 4) (ret := (some .int)) (hh := [(0, 9, 12, 15)]) (by decide) rfl (Nat.le_of_ble_eq_true rfl) ?_
  intro pq lq sq mq aq Qq bq hmq cq C hr hml hown hts hlocks hK hX htab hsz hQ
  subst hsz
  refine z_sub (L' := [(0, .ref (ad 33)), (1, .int (x1)), (2, .ref (ad 34))]) [0, 1, 2] rfl ?_
  refine z_aload_n C dL_put_0 2 rfl ?_
  refine z_iconst (v := nI 0) C (by decide) dL_put_1 ?_
  refine z_aload_n C dL_put_2 0 rfl ?_
  refine z_iload_n C dL_put_3 1 rfl ?_
  refine z_catchV lX_ok C hml hown hts hK hX (fun sz => z_liftX (σ := id) (F := fun u9 => hF ad cI cL cR cD (u9, o, d)) (F1 := xF ad cI cL cR) (f1 := xF ad cI cL cR u) (hL36 hI) lK_x lX_x (fun _ hk => if_pos hk) (fun _ _ hk => if_pos hk) hF_h (hM sz)) (cwV 1 hts gL_put_X6_put rfl rfl rfl (by decide +kernel) ⟨Nat.le_of_ble_eq_true rfl, Nat.le_of_ble_eq_true rfl⟩) (by decide) (ci := 6) rfl rfl rfl (st := [.int (nI 0), .ref (ad 34)]) rfl (Nat.le_of_ble_eq_true rfl) dL_put_4 ⟨Nat.le_of_ble_eq_true rfl, Nat.le_of_ble_eq_true rfl⟩ [] ⟨0, 9, 12, 15⟩ [] (htab.trans rfl) (fun z hz => absurd hz List.not_mem_nil) (by decide) (by decide) (name := eIA) (hts (.classLink RL 15 eIA) (by decide +kernel)) hX.2.1.2.1 (fun q9 u9 h9 => ?_)
  subst h9
  refine z_astore_n (L' := [(3, .ref (q9)), (0, .ref (ad 33)), (1, .int (x1)), (2, .ref (ad 34))]) C dL_put_12 (by decide) rfl ?_
  refine z_iconst (v := nI 1) C (by decide) dL_put_13 ?_
  refine z_widen (k := 1) (q := 6) (Nat.le_of_ble_eq_true rfl) (Nat.le_of_ble_eq_true rfl) ?_
  exact z_iret C hr hlocks hQ ((u9, o, d)) (⟨rfl, rfl⟩) (fun _ _ => rfl) dL_put_14

set_option maxHeartbeats 4000000 in
set_option maxRecDepth 100000 in
theorem h_change_ok (l : Launch) (D : va_G) (ad : Nat → Nat) (cI cL cR cB cD : ClassId) (hI : gI 36 ad) (u : xS) (o : Nat → Int64) (d : Nat → UInt64) (x1 x2 : Int32) (P : Int32 → xS → Prop) (hM : ∀ sz, Met l yX6_change wsX6_change ({ frames := 7, cells := 0, slots := 0, locals := 110 }) (XP D ad cI cL cR u [.ref (ad 33), .int (x1), .int (x2)] sz) (va_Qi P (XB D ad cI cL cR) (gA 34 ad sz)) 0 0 (gA 34 ad sz)) : ∀ sz, Met l yL_change wsL_change ({ frames := 8, cells := 1, slots := 6, locals := 132 }) (HP D ad cI cL cR cB cD (u, o, d) [.ref (ad 33), .int (x1), .int (x2), .ref (ad 34)] sz) (va_Qi (fun r s => r = nI 0 ∧ ∃ b, P b s.1 ∧ s.2.1 0 = b.toInt64) (HB D ad cI cL cR cD) (gA 36 ad sz)) 1 6 (gA 36 ad sz) := by
  intro sz
  refine z_metW (cc := cL_change) (maxL := 5) (ret := (some .int)) (hh := [(0, 10, 13, 13)]) (by decide) rfl (Nat.le_of_ble_eq_true rfl) ?_
  intro pq lq sq mq aq Qq bq hmq cq C hr hml hown hts hlocks hK hX htab hsz hQ
  subst hsz
  refine z_sub (L' := [(0, .ref (ad 33)), (1, .int (x1)), (2, .int (x2)), (3, .ref (ad 34))]) [0, 1, 2, 3] rfl ?_
  refine z_aload_n C dL_change_0 3 rfl ?_
  refine z_iconst (v := nI 0) C (by decide) dL_change_1 ?_
  refine z_aload_n C dL_change_2 0 rfl ?_
  refine z_iload_n C dL_change_3 1 rfl ?_
  refine z_iload_n C dL_change_4 2 rfl ?_
  refine z_callVi lX_ok C hml hown hts hK hX (fun sz => z_liftI (σ := id) (F := fun u9 => hF ad cI cL cR cD (u9, o, d)) (F1 := xF ad cI cL cR) (f1 := xF ad cI cL cR u) (hL36 hI) lK_x lX_x (fun _ hk => if_pos hk) (fun _ _ hk => if_pos hk) hF_h (fun _ _ h => h) (hM sz)) (cwV 2 hts gL_change_X6_change rfl rfl rfl (by decide +kernel) ⟨Nat.le_of_ble_eq_true rfl, Nat.le_of_ble_eq_true rfl⟩) (by decide) (ci := 6) rfl rfl rfl (st := [.int (nI 0), .ref (ad 34)]) rfl (Nat.le_of_ble_eq_true rfl) dL_change_5 ⟨Nat.le_of_ble_eq_true rfl, Nat.le_of_ble_eq_true rfl⟩ (fun r9 u9 h9 => ?_)
  refine z_i2l C rfl dL_change_8 ?_
  refine z_last (q := 34) (len := 1) (k := 0) C hI hK (by decide) rfl 1 rfl rfl (by decide) (by decide) (f' := hF ad cI cL cR cD (u9, (vp_updL o 0 ((r9 : Int32).toInt64)), d)) rfl hF_o dL_change_9 ?_
  refine z_goto (tgt := 17) C dL_change_10 (by decide) ?_
  refine z_iconst (v := nI 0) C (by decide) dL_change_17 ?_
  refine z_widen (k := 1) (q := 6) (Nat.le_of_ble_eq_true rfl) (Nat.le_of_ble_eq_true rfl) ?_
  exact z_iret C hr hlocks hQ ((u9, (vp_updL o 0 ((r9 : Int32).toInt64)), d)) (⟨rfl, r9, h9, (show (vp_updL o 0 ((r9 : Int32).toInt64)) 0 = _ from upL0 rfl)⟩) (fun _ _ => rfl) dL_change_18

set_option maxHeartbeats 4000000 in
set_option maxRecDepth 100000 in
theorem h_change_t1 (l : Launch) (D : va_G) (ad : Nat → Nat) (cI cL cR cB cD : ClassId) (hI : gI 36 ad) (u : xS) (o : Nat → Int64) (d : Nat → UInt64) (x1 x2 : Int32) (hM : ∀ sz, vx_Met l yX6_change wsX6_change ({ frames := 7, cells := 1, slots := 6, locals := 110 }) (XP D ad cI cL cR u [.ref (ad 33), .int (x1), .int (x2)] sz) QN (XE D ad cI cL cR eIO u sz) 1 6 (gA 34 ad sz)) : ∀ sz, Met l yL_change wsL_change ({ frames := 8, cells := 1, slots := 6, locals := 132 }) (HP D ad cI cL cR cB cD (u, o, d) [.ref (ad 33), .int (x1), .int (x2), .ref (ad 34)] sz) (va_Qi (fun r s => r = nI 1 ∧ s = (u, o, d)) (HB D ad cI cL cR cD) (gA 36 ad sz)) 1 6 (gA 36 ad sz) := by
  intro sz
  refine z_metW (cc := cL_change) (maxL := 5) (ret := (some .int)) (hh := [(0, 10, 13, 13)]) (by decide) rfl (Nat.le_of_ble_eq_true rfl) ?_
  intro pq lq sq mq aq Qq bq hmq cq C hr hml hown hts hlocks hK hX htab hsz hQ
  subst hsz
  refine z_sub (L' := [(0, .ref (ad 33)), (1, .int (x1)), (2, .int (x2)), (3, .ref (ad 34))]) [0, 1, 2, 3] rfl ?_
  refine z_aload_n C dL_change_0 3 rfl ?_
  refine z_iconst (v := nI 0) C (by decide) dL_change_1 ?_
  refine z_aload_n C dL_change_2 0 rfl ?_
  refine z_iload_n C dL_change_3 1 rfl ?_
  refine z_iload_n C dL_change_4 2 rfl ?_
  refine z_catchV lX_ok C hml hown hts hK hX (fun sz => z_liftX (σ := id) (F := fun u9 => hF ad cI cL cR cD (u9, o, d)) (F1 := xF ad cI cL cR) (f1 := xF ad cI cL cR u) (hL36 hI) lK_x lX_x (fun _ hk => if_pos hk) (fun _ _ hk => if_pos hk) hF_h (hM sz)) (cwV 2 hts gL_change_X6_change rfl rfl rfl (by decide +kernel) ⟨Nat.le_of_ble_eq_true rfl, Nat.le_of_ble_eq_true rfl⟩) (by decide) (ci := 6) rfl rfl rfl (st := [.int (nI 0), .ref (ad 34)]) rfl (Nat.le_of_ble_eq_true rfl) dL_change_5 ⟨Nat.le_of_ble_eq_true rfl, Nat.le_of_ble_eq_true rfl⟩ [] ⟨0, 10, 13, 13⟩ [] (htab.trans rfl) (fun z hz => absurd hz List.not_mem_nil) (by decide) (by decide) (name := eIO) (hts (.classLink RL 13 eIO) (by decide +kernel)) hX.2.1.1 (fun q9 u9 h9 => ?_)
  subst h9
  refine z_astore (L' := [(4, .ref (q9)), (0, .ref (ad 33)), (1, .int (x1)), (2, .int (x2)), (3, .ref (ad 34))]) C dL_change_13 (by decide) rfl ?_
  refine z_iconst (v := nI 1) C (by decide) dL_change_15 ?_
  refine z_widen (k := 1) (q := 6) (Nat.le_of_ble_eq_true rfl) (Nat.le_of_ble_eq_true rfl) ?_
  exact z_iret C hr hlocks hQ ((u9, o, d)) (⟨rfl, rfl⟩) (fun _ _ => rfl) dL_change_16

set_option maxHeartbeats 4000000 in
set_option maxRecDepth 100000 in
theorem h_play_ok (l : Launch) (D : va_G) (ad : Nat → Nat) (cI cL cR cB cD : ClassId) (hI : gI 36 ad) (u : xS) (o : Nat → Int64) (d : Nat → UInt64) (x1 : Int32) (P : Int32 → xS → Prop) (hM : ∀ sz, Met l yX6_play wsX6_play ({ frames := 7, cells := 0, slots := 0, locals := 112 }) (XP D ad cI cL cR u [.ref (ad 33), .int (x1)] sz) (va_Qi P (XB D ad cI cL cR) (gA 34 ad sz)) 0 0 (gA 34 ad sz)) : ∀ sz, Met l yL_play wsL_play ({ frames := 8, cells := 1, slots := 6, locals := 135 }) (HP D ad cI cL cR cB cD (u, o, d) [.ref (ad 33), .int (x1), .ref (ad 34)] sz) (va_Qi (fun r s => r = nI 0 ∧ ∃ b, P b s.1 ∧ s.2.1 0 = (if b = 0 then 0 else 1)) (HB D ad cI cL cR cD) (gA 36 ad sz)) 1 6 (gA 36 ad sz) := by
  intro sz
  refine z_metW (cc := cL_play) (maxL := 4) (ret := (some .int)) (hh := [(0, 16, 19, 13), (0, 16, 22, 17)]) (by decide) rfl (Nat.le_of_ble_eq_true rfl) ?_
  intro pq lq sq mq aq Qq bq hmq cq C hr hml hown hts hlocks hK hX htab hsz hQ
  subst hsz
  refine z_sub (L' := [(0, .ref (ad 33)), (1, .int (x1)), (2, .ref (ad 34))]) [0, 1, 2] rfl ?_
  refine z_aload_n C dL_play_0 2 rfl ?_
  refine z_iconst (v := nI 0) C (by decide) dL_play_1 ?_
  refine z_aload_n C dL_play_2 0 rfl ?_
  refine z_iload_n C dL_play_3 1 rfl ?_
  refine z_callVi lX_ok C hml hown hts hK hX (fun sz => z_liftI (σ := id) (F := fun u9 => hF ad cI cL cR cD (u9, o, d)) (F1 := xF ad cI cL cR) (f1 := xF ad cI cL cR u) (hL36 hI) lK_x lX_x (fun _ hk => if_pos hk) (fun _ _ hk => if_pos hk) hF_h (fun _ _ h => h) (hM sz)) (cwV 1 hts gL_play_X6_play rfl rfl rfl (by decide +kernel) ⟨Nat.le_of_ble_eq_true rfl, Nat.le_of_ble_eq_true rfl⟩) (by decide) (ci := 6) rfl rfl rfl (st := [.int (nI 0), .ref (ad 34)]) rfl (Nat.le_of_ble_eq_true rfl) dL_play_4 ⟨Nat.le_of_ble_eq_true rfl, Nat.le_of_ble_eq_true rfl⟩ (fun r9 u9 h9 => ?_)
  refine z_if_eq (tgt := 14) C dL_play_7 (by decide) (fun zc7 => ?_) (fun zc7 => ?_)
  · skip
    refine z_lconst (v := 0) C (by decide) dL_play_14 ?_
    refine z_last (q := 34) (len := 1) (k := 0) C hI hK (by decide) rfl 1 rfl rfl (by decide) (by decide) (f' := hF ad cI cL cR cD (u9, (vp_updL o 0 (0)), d)) rfl hF_o dL_play_15 ?_
    refine z_goto (tgt := 25) C dL_play_16 (by decide) ?_
    refine z_iconst (v := nI 0) C (by decide) dL_play_25 ?_
    refine z_widen (k := 1) (q := 6) (Nat.le_of_ble_eq_true rfl) (Nat.le_of_ble_eq_true rfl) ?_
    exact z_iret C hr hlocks hQ ((u9, (vp_updL o 0 (0)), d)) (⟨rfl, r9, h9, (show (vp_updL o 0 (0)) 0 = _ from upL0 (by split <;> first | rfl | contradiction))⟩) (fun _ _ => rfl) dL_play_26
  · skip
    refine z_lconst (v := 1) C (by decide) dL_play_10 ?_
    refine z_goto (tgt := 15) C dL_play_11 (by decide) ?_
    refine z_last (q := 34) (len := 1) (k := 0) C hI hK (by decide) rfl 1 rfl rfl (by decide) (by decide) (f' := hF ad cI cL cR cD (u9, (vp_updL o 0 (1)), d)) rfl hF_o dL_play_15 ?_
    refine z_goto (tgt := 25) C dL_play_16 (by decide) ?_
    refine z_iconst (v := nI 0) C (by decide) dL_play_25 ?_
    refine z_widen (k := 1) (q := 6) (Nat.le_of_ble_eq_true rfl) (Nat.le_of_ble_eq_true rfl) ?_
    exact z_iret C hr hlocks hQ ((u9, (vp_updL o 0 (1)), d)) (⟨rfl, r9, h9, (show (vp_updL o 0 (1)) 0 = _ from upL0 (by split <;> first | rfl | contradiction))⟩) (fun _ _ => rfl) dL_play_26

set_option maxHeartbeats 4000000 in
set_option maxRecDepth 100000 in
theorem h_play_t1 (l : Launch) (D : va_G) (ad : Nat → Nat) (cI cL cR cB cD : ClassId) (hI : gI 36 ad) (u : xS) (o : Nat → Int64) (d : Nat → UInt64) (x1 : Int32) (hM : ∀ sz, vx_Met l yX6_play wsX6_play ({ frames := 7, cells := 1, slots := 6, locals := 112 }) (XP D ad cI cL cR u [.ref (ad 33), .int (x1)] sz) QN (XE D ad cI cL cR eIO u sz) 1 6 (gA 34 ad sz)) : ∀ sz, Met l yL_play wsL_play ({ frames := 8, cells := 1, slots := 6, locals := 135 }) (HP D ad cI cL cR cB cD (u, o, d) [.ref (ad 33), .int (x1), .ref (ad 34)] sz) (va_Qi (fun r s => r = nI 1 ∧ s = (u, o, d)) (HB D ad cI cL cR cD) (gA 36 ad sz)) 1 6 (gA 36 ad sz) := by
  intro sz
  refine z_metW (cc := cL_play) (maxL := 4) (ret := (some .int)) (hh := [(0, 16, 19, 13), (0, 16, 22, 17)]) (by decide) rfl (Nat.le_of_ble_eq_true rfl) ?_
  intro pq lq sq mq aq Qq bq hmq cq C hr hml hown hts hlocks hK hX htab hsz hQ
  subst hsz
  refine z_sub (L' := [(0, .ref (ad 33)), (1, .int (x1)), (2, .ref (ad 34))]) [0, 1, 2] rfl ?_
  refine z_aload_n C dL_play_0 2 rfl ?_
  refine z_iconst (v := nI 0) C (by decide) dL_play_1 ?_
  refine z_aload_n C dL_play_2 0 rfl ?_
  refine z_iload_n C dL_play_3 1 rfl ?_
  refine z_catchV lX_ok C hml hown hts hK hX (fun sz => z_liftX (σ := id) (F := fun u9 => hF ad cI cL cR cD (u9, o, d)) (F1 := xF ad cI cL cR) (f1 := xF ad cI cL cR u) (hL36 hI) lK_x lX_x (fun _ hk => if_pos hk) (fun _ _ hk => if_pos hk) hF_h (hM sz)) (cwV 1 hts gL_play_X6_play rfl rfl rfl (by decide +kernel) ⟨Nat.le_of_ble_eq_true rfl, Nat.le_of_ble_eq_true rfl⟩) (by decide) (ci := 6) rfl rfl rfl (st := [.int (nI 0), .ref (ad 34)]) rfl (Nat.le_of_ble_eq_true rfl) dL_play_4 ⟨Nat.le_of_ble_eq_true rfl, Nat.le_of_ble_eq_true rfl⟩ [] ⟨0, 16, 19, 13⟩ [⟨0, 16, 22, 17⟩] (htab.trans rfl) (fun z hz => absurd hz List.not_mem_nil) (by decide) (by decide) (name := eIO) (hts (.classLink RL 13 eIO) (by decide +kernel)) hX.2.1.1 (fun q9 u9 h9 => ?_)
  subst h9
  refine z_astore_n (L' := [(3, .ref (q9)), (0, .ref (ad 33)), (1, .int (x1)), (2, .ref (ad 34))]) C dL_play_19 (by decide) rfl ?_
  refine z_iconst (v := nI 1) C (by decide) dL_play_20 ?_
  refine z_widen (k := 1) (q := 6) (Nat.le_of_ble_eq_true rfl) (Nat.le_of_ble_eq_true rfl) ?_
  exact z_iret C hr hlocks hQ ((u9, o, d)) (⟨rfl, rfl⟩) (fun _ _ => rfl) dL_play_21

set_option maxHeartbeats 4000000 in
set_option maxRecDepth 100000 in
theorem h_play_t2 (l : Launch) (D : va_G) (ad : Nat → Nat) (cI cL cR cB cD : ClassId) (hI : gI 36 ad) (u : xS) (o : Nat → Int64) (d : Nat → UInt64) (x1 : Int32) (hM : ∀ sz, vx_Met l yX6_play wsX6_play ({ frames := 7, cells := 1, slots := 6, locals := 112 }) (XP D ad cI cL cR u [.ref (ad 33), .int (x1)] sz) QN (XE D ad cI cL cR eIS u sz) 1 6 (gA 34 ad sz)) : ∀ sz, Met l yL_play wsL_play ({ frames := 8, cells := 1, slots := 6, locals := 135 }) (HP D ad cI cL cR cB cD (u, o, d) [.ref (ad 33), .int (x1), .ref (ad 34)] sz) (va_Qi (fun r s => r = nI 2 ∧ s = (u, o, d)) (HB D ad cI cL cR cD) (gA 36 ad sz)) 1 6 (gA 36 ad sz) := by
  intro sz
  refine z_metW (cc := cL_play) (maxL := 4) (ret := (some .int)) (hh := [(0, 16, 19, 13), (0, 16, 22, 17)]) (by decide) rfl (Nat.le_of_ble_eq_true rfl) ?_
  intro pq lq sq mq aq Qq bq hmq cq C hr hml hown hts hlocks hK hX htab hsz hQ
  subst hsz
  refine z_sub (L' := [(0, .ref (ad 33)), (1, .int (x1)), (2, .ref (ad 34))]) [0, 1, 2] rfl ?_
  refine z_aload_n C dL_play_0 2 rfl ?_
  refine z_iconst (v := nI 0) C (by decide) dL_play_1 ?_
  refine z_aload_n C dL_play_2 0 rfl ?_
  refine z_iload_n C dL_play_3 1 rfl ?_
  refine z_catchV lX_ok C hml hown hts hK hX (fun sz => z_liftX (σ := id) (F := fun u9 => hF ad cI cL cR cD (u9, o, d)) (F1 := xF ad cI cL cR) (f1 := xF ad cI cL cR u) (hL36 hI) lK_x lX_x (fun _ hk => if_pos hk) (fun _ _ hk => if_pos hk) hF_h (hM sz)) (cwV 1 hts gL_play_X6_play rfl rfl rfl (by decide +kernel) ⟨Nat.le_of_ble_eq_true rfl, Nat.le_of_ble_eq_true rfl⟩) (by decide) (ci := 6) rfl rfl rfl (st := [.int (nI 0), .ref (ad 34)]) rfl (Nat.le_of_ble_eq_true rfl) dL_play_4 ⟨Nat.le_of_ble_eq_true rfl, Nat.le_of_ble_eq_true rfl⟩ [⟨0, 16, 19, 13⟩] ⟨0, 16, 22, 17⟩ [] (htab.trans rfl) (fun z hz => by rw [List.mem_singleton] at hz; subst hz; exact ⟨by decide, eIO, hts (.classLink RL 13 eIO) (by decide +kernel), hX.2.2.2.2.2.2.1⟩) (by decide) (by decide) (name := eIS) (hts (.classLink RL 17 eIS) (by decide +kernel)) hX.2.1.2.2 (fun q9 u9 h9 => ?_)
  subst h9
  refine z_astore_n (L' := [(3, .ref (q9)), (0, .ref (ad 33)), (1, .int (x1)), (2, .ref (ad 34))]) C dL_play_22 (by decide) rfl ?_
  refine z_iconst (v := nI 2) C (by decide) dL_play_23 ?_
  refine z_widen (k := 1) (q := 6) (Nat.le_of_ble_eq_true rfl) (Nat.le_of_ble_eq_true rfl) ?_
  exact z_iret C hr hlocks hQ ((u9, o, d)) (⟨rfl, rfl⟩) (fun _ _ => rfl) dL_play_24

set_option maxHeartbeats 4000000 in
set_option maxRecDepth 100000 in
theorem h_run_ok (l : Launch) (D : va_G) (ad : Nat → Nat) (cI cL cR cB cD : ClassId) (hI : gI 36 ad) (u : xS) (o : Nat → Int64) (d : Nat → UInt64) (x1 : Int32) (P : Int32 → xS → Prop) (hM : ∀ sz, Met l yX6_run wsX6_run ({ frames := 6, cells := 0, slots := 0, locals := 90 }) (XP D ad cI cL cR u [.ref (ad 33), .int (x1)] sz) (va_Qi P (XB D ad cI cL cR) (gA 34 ad sz)) 0 0 (gA 34 ad sz)) : ∀ sz, Met l yL_run wsL_run ({ frames := 7, cells := 1, slots := 6, locals := 113 }) (HP D ad cI cL cR cB cD (u, o, d) [.ref (ad 33), .int (x1), .ref (ad 34)] sz) (va_Qi (fun r s => r = nI 0 ∧ ∃ b, P b s.1 ∧ s.2.1 0 = b.toInt64) (HB D ad cI cL cR cD) (gA 36 ad sz)) 1 6 (gA 36 ad sz) := by
  intro sz
  refine z_metW (cc := cL_run) (maxL := 4) (ret := (some .int)) (hh := [(0, 9, 12, 15)]) (by decide) rfl (Nat.le_of_ble_eq_true rfl) ?_
  intro pq lq sq mq aq Qq bq hmq cq C hr hml hown hts hlocks hK hX htab hsz hQ
  subst hsz
  refine z_sub (L' := [(0, .ref (ad 33)), (1, .int (x1)), (2, .ref (ad 34))]) [0, 1, 2] rfl ?_
  refine z_aload_n C dL_run_0 2 rfl ?_
  refine z_iconst (v := nI 0) C (by decide) dL_run_1 ?_
  refine z_aload_n C dL_run_2 0 rfl ?_
  refine z_iload_n C dL_run_3 1 rfl ?_
  refine z_callVi lX_ok C hml hown hts hK hX (fun sz => z_liftI (σ := id) (F := fun u9 => hF ad cI cL cR cD (u9, o, d)) (F1 := xF ad cI cL cR) (f1 := xF ad cI cL cR u) (hL36 hI) lK_x lX_x (fun _ hk => if_pos hk) (fun _ _ hk => if_pos hk) hF_h (fun _ _ h => h) (hM sz)) (cwV 1 hts gL_run_X6_run rfl rfl rfl (by decide +kernel) ⟨Nat.le_of_ble_eq_true rfl, Nat.le_of_ble_eq_true rfl⟩) (by decide) (ci := 6) rfl rfl rfl (st := [.int (nI 0), .ref (ad 34)]) rfl (Nat.le_of_ble_eq_true rfl) dL_run_4 ⟨Nat.le_of_ble_eq_true rfl, Nat.le_of_ble_eq_true rfl⟩ (fun r9 u9 h9 => ?_)
  refine z_i2l C rfl dL_run_7 ?_
  refine z_last (q := 34) (len := 1) (k := 0) C hI hK (by decide) rfl 1 rfl rfl (by decide) (by decide) (f' := hF ad cI cL cR cD (u9, (vp_updL o 0 ((r9 : Int32).toInt64)), d)) rfl hF_o dL_run_8 ?_
  refine z_goto (tgt := 15) C dL_run_9 (by decide) ?_
  refine z_iconst (v := nI 0) C (by decide) dL_run_15 ?_
  refine z_widen (k := 1) (q := 6) (Nat.le_of_ble_eq_true rfl) (Nat.le_of_ble_eq_true rfl) ?_
  exact z_iret C hr hlocks hQ ((u9, (vp_updL o 0 ((r9 : Int32).toInt64)), d)) (⟨rfl, r9, h9, (show (vp_updL o 0 ((r9 : Int32).toInt64)) 0 = _ from upL0 rfl)⟩) (fun _ _ => rfl) dL_run_16

set_option maxHeartbeats 4000000 in
set_option maxRecDepth 100000 in
theorem h_run_t1 (l : Launch) (D : va_G) (ad : Nat → Nat) (cI cL cR cB cD : ClassId) (hI : gI 36 ad) (u : xS) (o : Nat → Int64) (d : Nat → UInt64) (x1 : Int32) (hM : ∀ sz, vx_Met l yX6_run wsX6_run ({ frames := 6, cells := 1, slots := 6, locals := 90 }) (XP D ad cI cL cR u [.ref (ad 33), .int (x1)] sz) QN (XE D ad cI cL cR eIA u sz) 1 6 (gA 34 ad sz)) : ∀ sz, Met l yL_run wsL_run ({ frames := 7, cells := 1, slots := 6, locals := 113 }) (HP D ad cI cL cR cB cD (u, o, d) [.ref (ad 33), .int (x1), .ref (ad 34)] sz) (va_Qi (fun r s => r = nI 1 ∧ s = (u, o, d)) (HB D ad cI cL cR cD) (gA 36 ad sz)) 1 6 (gA 36 ad sz) := by
  intro sz
  refine z_metW (cc := cL_run) (maxL := 4) (ret := (some .int)) (hh := [(0, 9, 12, 15)]) (by decide) rfl (Nat.le_of_ble_eq_true rfl) ?_
  intro pq lq sq mq aq Qq bq hmq cq C hr hml hown hts hlocks hK hX htab hsz hQ
  subst hsz
  refine z_sub (L' := [(0, .ref (ad 33)), (1, .int (x1)), (2, .ref (ad 34))]) [0, 1, 2] rfl ?_
  refine z_aload_n C dL_run_0 2 rfl ?_
  refine z_iconst (v := nI 0) C (by decide) dL_run_1 ?_
  refine z_aload_n C dL_run_2 0 rfl ?_
  refine z_iload_n C dL_run_3 1 rfl ?_
  refine z_catchV lX_ok C hml hown hts hK hX (fun sz => z_liftX (σ := id) (F := fun u9 => hF ad cI cL cR cD (u9, o, d)) (F1 := xF ad cI cL cR) (f1 := xF ad cI cL cR u) (hL36 hI) lK_x lX_x (fun _ hk => if_pos hk) (fun _ _ hk => if_pos hk) hF_h (hM sz)) (cwV 1 hts gL_run_X6_run rfl rfl rfl (by decide +kernel) ⟨Nat.le_of_ble_eq_true rfl, Nat.le_of_ble_eq_true rfl⟩) (by decide) (ci := 6) rfl rfl rfl (st := [.int (nI 0), .ref (ad 34)]) rfl (Nat.le_of_ble_eq_true rfl) dL_run_4 ⟨Nat.le_of_ble_eq_true rfl, Nat.le_of_ble_eq_true rfl⟩ [] ⟨0, 9, 12, 15⟩ [] (htab.trans rfl) (fun z hz => absurd hz List.not_mem_nil) (by decide) (by decide) (name := eIA) (hts (.classLink RL 15 eIA) (by decide +kernel)) hX.2.1.2.1 (fun q9 u9 h9 => ?_)
  subst h9
  refine z_astore_n (L' := [(3, .ref (q9)), (0, .ref (ad 33)), (1, .int (x1)), (2, .ref (ad 34))]) C dL_run_12 (by decide) rfl ?_
  refine z_iconst (v := nI 1) C (by decide) dL_run_13 ?_
  refine z_widen (k := 1) (q := 6) (Nat.le_of_ble_eq_true rfl) (Nat.le_of_ble_eq_true rfl) ?_
  exact z_iret C hr hlocks hQ ((u9, o, d)) (⟨rfl, rfl⟩) (fun _ _ => rfl) dL_run_14

set_option maxHeartbeats 4000000 in
set_option maxRecDepth 100000 in
theorem h_factsOf_ok (l : Launch) (D : va_G) (ad : Nat → Nat) (cI cL cR cB cD : ClassId) (hI : gI 36 ad) (u : xS) (o : Nat → Int64) (d : Nat → UInt64) (x1 : Int32) (P : Int32 → xS → Prop) (hM : ∀ sz, Met l yX6_factsOf wsX6_factsOf ({ frames := 8, cells := 0, slots := 0, locals := 132 }) (XP D ad cI cL cR u [.ref (ad 33), .int (x1)] sz) (va_Qi P (XB D ad cI cL cR) (gA 34 ad sz)) 0 0 (gA 34 ad sz)) : ∀ sz, Met l yL_factsOf wsL_factsOf ({ frames := 9, cells := 1, slots := 6, locals := 153 }) (HP D ad cI cL cR cB cD (u, o, d) [.ref (ad 33), .int (x1), .ref (ad 34)] sz) (va_Qi (fun r s => r = nI 0 ∧ ∃ b, P b s.1 ∧ s.2.1 0 = b.toInt64) (HB D ad cI cL cR cD) (gA 36 ad sz)) 1 6 (gA 36 ad sz) := by
  intro sz
  refine z_metW (cc := cL_factsOf) (maxL := 4) (ret := (some .int)) (hh := [(0, 9, 12, 17), (0, 9, 15, 13)]) (by decide) rfl (Nat.le_of_ble_eq_true rfl) ?_
  intro pq lq sq mq aq Qq bq hmq cq C hr hml hown hts hlocks hK hX htab hsz hQ
  subst hsz
  refine z_sub (L' := [(0, .ref (ad 33)), (1, .int (x1)), (2, .ref (ad 34))]) [0, 1, 2] rfl ?_
  refine z_aload_n C dL_factsOf_0 2 rfl ?_
  refine z_iconst (v := nI 0) C (by decide) dL_factsOf_1 ?_
  refine z_aload_n C dL_factsOf_2 0 rfl ?_
  refine z_iload_n C dL_factsOf_3 1 rfl ?_
  refine z_callVi lX_ok C hml hown hts hK hX (fun sz => z_liftI (σ := id) (F := fun u9 => hF ad cI cL cR cD (u9, o, d)) (F1 := xF ad cI cL cR) (f1 := xF ad cI cL cR u) (hL36 hI) lK_x lX_x (fun _ hk => if_pos hk) (fun _ _ hk => if_pos hk) hF_h (fun _ _ h => h) (hM sz)) (cwV 1 hts gL_factsOf_X6_factsOf rfl rfl rfl (by decide +kernel) ⟨Nat.le_of_ble_eq_true rfl, Nat.le_of_ble_eq_true rfl⟩) (by decide) (ci := 6) rfl rfl rfl (st := [.int (nI 0), .ref (ad 34)]) rfl (Nat.le_of_ble_eq_true rfl) dL_factsOf_4 ⟨Nat.le_of_ble_eq_true rfl, Nat.le_of_ble_eq_true rfl⟩ (fun r9 u9 h9 => ?_)
  refine z_i2l C rfl dL_factsOf_7 ?_
  refine z_last (q := 34) (len := 1) (k := 0) C hI hK (by decide) rfl 1 rfl rfl (by decide) (by decide) (f' := hF ad cI cL cR cD (u9, (vp_updL o 0 ((r9 : Int32).toInt64)), d)) rfl hF_o dL_factsOf_8 ?_
  refine z_goto (tgt := 18) C dL_factsOf_9 (by decide) ?_
  refine z_iconst (v := nI 0) C (by decide) dL_factsOf_18 ?_
  refine z_widen (k := 1) (q := 6) (Nat.le_of_ble_eq_true rfl) (Nat.le_of_ble_eq_true rfl) ?_
  exact z_iret C hr hlocks hQ ((u9, (vp_updL o 0 ((r9 : Int32).toInt64)), d)) (⟨rfl, r9, h9, (show (vp_updL o 0 ((r9 : Int32).toInt64)) 0 = _ from upL0 rfl)⟩) (fun _ _ => rfl) dL_factsOf_19

set_option maxHeartbeats 4000000 in
set_option maxRecDepth 100000 in
theorem h_factsOf_t1 (l : Launch) (D : va_G) (ad : Nat → Nat) (cI cL cR cB cD : ClassId) (hI : gI 36 ad) (u : xS) (o : Nat → Int64) (d : Nat → UInt64) (x1 : Int32) (hM : ∀ sz, vx_Met l yX6_factsOf wsX6_factsOf ({ frames := 8, cells := 1, slots := 6, locals := 132 }) (XP D ad cI cL cR u [.ref (ad 33), .int (x1)] sz) QN (XE D ad cI cL cR eIS u sz) 1 6 (gA 34 ad sz)) : ∀ sz, Met l yL_factsOf wsL_factsOf ({ frames := 9, cells := 1, slots := 6, locals := 153 }) (HP D ad cI cL cR cB cD (u, o, d) [.ref (ad 33), .int (x1), .ref (ad 34)] sz) (va_Qi (fun r s => r = nI 1 ∧ s = (u, o, d)) (HB D ad cI cL cR cD) (gA 36 ad sz)) 1 6 (gA 36 ad sz) := by
  intro sz
  refine z_metW (cc := cL_factsOf) (maxL := 4) (ret := (some .int)) (hh := [(0, 9, 12, 17), (0, 9, 15, 13)]) (by decide) rfl (Nat.le_of_ble_eq_true rfl) ?_
  intro pq lq sq mq aq Qq bq hmq cq C hr hml hown hts hlocks hK hX htab hsz hQ
  subst hsz
  refine z_sub (L' := [(0, .ref (ad 33)), (1, .int (x1)), (2, .ref (ad 34))]) [0, 1, 2] rfl ?_
  refine z_aload_n C dL_factsOf_0 2 rfl ?_
  refine z_iconst (v := nI 0) C (by decide) dL_factsOf_1 ?_
  refine z_aload_n C dL_factsOf_2 0 rfl ?_
  refine z_iload_n C dL_factsOf_3 1 rfl ?_
  refine z_catchV lX_ok C hml hown hts hK hX (fun sz => z_liftX (σ := id) (F := fun u9 => hF ad cI cL cR cD (u9, o, d)) (F1 := xF ad cI cL cR) (f1 := xF ad cI cL cR u) (hL36 hI) lK_x lX_x (fun _ hk => if_pos hk) (fun _ _ hk => if_pos hk) hF_h (hM sz)) (cwV 1 hts gL_factsOf_X6_factsOf rfl rfl rfl (by decide +kernel) ⟨Nat.le_of_ble_eq_true rfl, Nat.le_of_ble_eq_true rfl⟩) (by decide) (ci := 6) rfl rfl rfl (st := [.int (nI 0), .ref (ad 34)]) rfl (Nat.le_of_ble_eq_true rfl) dL_factsOf_4 ⟨Nat.le_of_ble_eq_true rfl, Nat.le_of_ble_eq_true rfl⟩ [] ⟨0, 9, 12, 17⟩ [⟨0, 9, 15, 13⟩] (htab.trans rfl) (fun z hz => absurd hz List.not_mem_nil) (by decide) (by decide) (name := eIS) (hts (.classLink RL 17 eIS) (by decide +kernel)) hX.2.1.2.2 (fun q9 u9 h9 => ?_)
  subst h9
  refine z_astore_n (L' := [(3, .ref (q9)), (0, .ref (ad 33)), (1, .int (x1)), (2, .ref (ad 34))]) C dL_factsOf_12 (by decide) rfl ?_
  refine z_iconst (v := nI 1) C (by decide) dL_factsOf_13 ?_
  refine z_widen (k := 1) (q := 6) (Nat.le_of_ble_eq_true rfl) (Nat.le_of_ble_eq_true rfl) ?_
  exact z_iret C hr hlocks hQ ((u9, o, d)) (⟨rfl, rfl⟩) (fun _ _ => rfl) dL_factsOf_14

set_option maxHeartbeats 4000000 in
set_option maxRecDepth 100000 in
theorem h_factsOf_t2 (l : Launch) (D : va_G) (ad : Nat → Nat) (cI cL cR cB cD : ClassId) (hI : gI 36 ad) (u : xS) (o : Nat → Int64) (d : Nat → UInt64) (x1 : Int32) (hM : ∀ sz, vx_Met l yX6_factsOf wsX6_factsOf ({ frames := 8, cells := 1, slots := 6, locals := 132 }) (XP D ad cI cL cR u [.ref (ad 33), .int (x1)] sz) QN (XE D ad cI cL cR eIO u sz) 1 6 (gA 34 ad sz)) : ∀ sz, Met l yL_factsOf wsL_factsOf ({ frames := 9, cells := 1, slots := 6, locals := 153 }) (HP D ad cI cL cR cB cD (u, o, d) [.ref (ad 33), .int (x1), .ref (ad 34)] sz) (va_Qi (fun r s => r = nI 2 ∧ s = (u, o, d)) (HB D ad cI cL cR cD) (gA 36 ad sz)) 1 6 (gA 36 ad sz) := by
  intro sz
  refine z_metW (cc := cL_factsOf) (maxL := 4) (ret := (some .int)) (hh := [(0, 9, 12, 17), (0, 9, 15, 13)]) (by decide) rfl (Nat.le_of_ble_eq_true rfl) ?_
  intro pq lq sq mq aq Qq bq hmq cq C hr hml hown hts hlocks hK hX htab hsz hQ
  subst hsz
  refine z_sub (L' := [(0, .ref (ad 33)), (1, .int (x1)), (2, .ref (ad 34))]) [0, 1, 2] rfl ?_
  refine z_aload_n C dL_factsOf_0 2 rfl ?_
  refine z_iconst (v := nI 0) C (by decide) dL_factsOf_1 ?_
  refine z_aload_n C dL_factsOf_2 0 rfl ?_
  refine z_iload_n C dL_factsOf_3 1 rfl ?_
  refine z_catchV lX_ok C hml hown hts hK hX (fun sz => z_liftX (σ := id) (F := fun u9 => hF ad cI cL cR cD (u9, o, d)) (F1 := xF ad cI cL cR) (f1 := xF ad cI cL cR u) (hL36 hI) lK_x lX_x (fun _ hk => if_pos hk) (fun _ _ hk => if_pos hk) hF_h (hM sz)) (cwV 1 hts gL_factsOf_X6_factsOf rfl rfl rfl (by decide +kernel) ⟨Nat.le_of_ble_eq_true rfl, Nat.le_of_ble_eq_true rfl⟩) (by decide) (ci := 6) rfl rfl rfl (st := [.int (nI 0), .ref (ad 34)]) rfl (Nat.le_of_ble_eq_true rfl) dL_factsOf_4 ⟨Nat.le_of_ble_eq_true rfl, Nat.le_of_ble_eq_true rfl⟩ [⟨0, 9, 12, 17⟩] ⟨0, 9, 15, 13⟩ [] (htab.trans rfl) (fun z hz => by rw [List.mem_singleton] at hz; subst hz; exact ⟨by decide, eIS, hts (.classLink RL 17 eIS) (by decide +kernel), hX.2.2.2.1⟩) (by decide) (by decide) (name := eIO) (hts (.classLink RL 13 eIO) (by decide +kernel)) hX.2.1.1 (fun q9 u9 h9 => ?_)
  subst h9
  refine z_astore_n (L' := [(3, .ref (q9)), (0, .ref (ad 33)), (1, .int (x1)), (2, .ref (ad 34))]) C dL_factsOf_15 (by decide) rfl ?_
  refine z_iconst (v := nI 2) C (by decide) dL_factsOf_16 ?_
  refine z_widen (k := 1) (q := 6) (Nat.le_of_ble_eq_true rfl) (Nat.le_of_ble_eq_true rfl) ?_
  exact z_iret C hr hlocks hQ ((u9, o, d)) (⟨rfl, rfl⟩) (fun _ _ => rfl) dL_factsOf_17

set_option maxHeartbeats 4000000 in
set_option maxRecDepth 100000 in
theorem h_triggeredOf_ok (l : Launch) (D : va_G) (ad : Nat → Nat) (cI cL cR cB cD : ClassId) (hI : gI 36 ad) (u : xS) (o : Nat → Int64) (d : Nat → UInt64) (x1 : Int32) (P : Int32 → xS → Prop) (hM : ∀ sz, Met l yX6_triggeredOf wsX6_triggeredOf ({ frames := 8, cells := 0, slots := 0, locals := 132 }) (XP D ad cI cL cR u [.ref (ad 33), .int (x1)] sz) (va_Qi P (XB D ad cI cL cR) (gA 34 ad sz)) 0 0 (gA 34 ad sz)) : ∀ sz, Met l yL_triggeredOf wsL_triggeredOf ({ frames := 9, cells := 1, slots := 6, locals := 153 }) (HP D ad cI cL cR cB cD (u, o, d) [.ref (ad 33), .int (x1), .ref (ad 34)] sz) (va_Qi (fun r s => r = nI 0 ∧ ∃ b, P b s.1 ∧ s.2.1 0 = b.toInt64) (HB D ad cI cL cR cD) (gA 36 ad sz)) 1 6 (gA 36 ad sz) := by
  intro sz
  refine z_metW (cc := cL_triggeredOf) (maxL := 4) (ret := (some .int)) (hh := [(0, 9, 12, 17), (0, 9, 15, 13)]) (by decide) rfl (Nat.le_of_ble_eq_true rfl) ?_
  intro pq lq sq mq aq Qq bq hmq cq C hr hml hown hts hlocks hK hX htab hsz hQ
  subst hsz
  refine z_sub (L' := [(0, .ref (ad 33)), (1, .int (x1)), (2, .ref (ad 34))]) [0, 1, 2] rfl ?_
  refine z_aload_n C dL_triggeredOf_0 2 rfl ?_
  refine z_iconst (v := nI 0) C (by decide) dL_triggeredOf_1 ?_
  refine z_aload_n C dL_triggeredOf_2 0 rfl ?_
  refine z_iload_n C dL_triggeredOf_3 1 rfl ?_
  refine z_callVi lX_ok C hml hown hts hK hX (fun sz => z_liftI (σ := id) (F := fun u9 => hF ad cI cL cR cD (u9, o, d)) (F1 := xF ad cI cL cR) (f1 := xF ad cI cL cR u) (hL36 hI) lK_x lX_x (fun _ hk => if_pos hk) (fun _ _ hk => if_pos hk) hF_h (fun _ _ h => h) (hM sz)) (cwV 1 hts gL_triggeredOf_X6_triggeredOf rfl rfl rfl (by decide +kernel) ⟨Nat.le_of_ble_eq_true rfl, Nat.le_of_ble_eq_true rfl⟩) (by decide) (ci := 6) rfl rfl rfl (st := [.int (nI 0), .ref (ad 34)]) rfl (Nat.le_of_ble_eq_true rfl) dL_triggeredOf_4 ⟨Nat.le_of_ble_eq_true rfl, Nat.le_of_ble_eq_true rfl⟩ (fun r9 u9 h9 => ?_)
  refine z_i2l C rfl dL_triggeredOf_7 ?_
  refine z_last (q := 34) (len := 1) (k := 0) C hI hK (by decide) rfl 1 rfl rfl (by decide) (by decide) (f' := hF ad cI cL cR cD (u9, (vp_updL o 0 ((r9 : Int32).toInt64)), d)) rfl hF_o dL_triggeredOf_8 ?_
  refine z_goto (tgt := 18) C dL_triggeredOf_9 (by decide) ?_
  refine z_iconst (v := nI 0) C (by decide) dL_triggeredOf_18 ?_
  refine z_widen (k := 1) (q := 6) (Nat.le_of_ble_eq_true rfl) (Nat.le_of_ble_eq_true rfl) ?_
  exact z_iret C hr hlocks hQ ((u9, (vp_updL o 0 ((r9 : Int32).toInt64)), d)) (⟨rfl, r9, h9, (show (vp_updL o 0 ((r9 : Int32).toInt64)) 0 = _ from upL0 rfl)⟩) (fun _ _ => rfl) dL_triggeredOf_19

set_option maxHeartbeats 4000000 in
set_option maxRecDepth 100000 in
theorem h_triggeredOf_t1 (l : Launch) (D : va_G) (ad : Nat → Nat) (cI cL cR cB cD : ClassId) (hI : gI 36 ad) (u : xS) (o : Nat → Int64) (d : Nat → UInt64) (x1 : Int32) (hM : ∀ sz, vx_Met l yX6_triggeredOf wsX6_triggeredOf ({ frames := 8, cells := 1, slots := 6, locals := 132 }) (XP D ad cI cL cR u [.ref (ad 33), .int (x1)] sz) QN (XE D ad cI cL cR eIS u sz) 1 6 (gA 34 ad sz)) : ∀ sz, Met l yL_triggeredOf wsL_triggeredOf ({ frames := 9, cells := 1, slots := 6, locals := 153 }) (HP D ad cI cL cR cB cD (u, o, d) [.ref (ad 33), .int (x1), .ref (ad 34)] sz) (va_Qi (fun r s => r = nI 1 ∧ s = (u, o, d)) (HB D ad cI cL cR cD) (gA 36 ad sz)) 1 6 (gA 36 ad sz) := by
  intro sz
  refine z_metW (cc := cL_triggeredOf) (maxL := 4) (ret := (some .int)) (hh := [(0, 9, 12, 17), (0, 9, 15, 13)]) (by decide) rfl (Nat.le_of_ble_eq_true rfl) ?_
  intro pq lq sq mq aq Qq bq hmq cq C hr hml hown hts hlocks hK hX htab hsz hQ
  subst hsz
  refine z_sub (L' := [(0, .ref (ad 33)), (1, .int (x1)), (2, .ref (ad 34))]) [0, 1, 2] rfl ?_
  refine z_aload_n C dL_triggeredOf_0 2 rfl ?_
  refine z_iconst (v := nI 0) C (by decide) dL_triggeredOf_1 ?_
  refine z_aload_n C dL_triggeredOf_2 0 rfl ?_
  refine z_iload_n C dL_triggeredOf_3 1 rfl ?_
  refine z_catchV lX_ok C hml hown hts hK hX (fun sz => z_liftX (σ := id) (F := fun u9 => hF ad cI cL cR cD (u9, o, d)) (F1 := xF ad cI cL cR) (f1 := xF ad cI cL cR u) (hL36 hI) lK_x lX_x (fun _ hk => if_pos hk) (fun _ _ hk => if_pos hk) hF_h (hM sz)) (cwV 1 hts gL_triggeredOf_X6_triggeredOf rfl rfl rfl (by decide +kernel) ⟨Nat.le_of_ble_eq_true rfl, Nat.le_of_ble_eq_true rfl⟩) (by decide) (ci := 6) rfl rfl rfl (st := [.int (nI 0), .ref (ad 34)]) rfl (Nat.le_of_ble_eq_true rfl) dL_triggeredOf_4 ⟨Nat.le_of_ble_eq_true rfl, Nat.le_of_ble_eq_true rfl⟩ [] ⟨0, 9, 12, 17⟩ [⟨0, 9, 15, 13⟩] (htab.trans rfl) (fun z hz => absurd hz List.not_mem_nil) (by decide) (by decide) (name := eIS) (hts (.classLink RL 17 eIS) (by decide +kernel)) hX.2.1.2.2 (fun q9 u9 h9 => ?_)
  subst h9
  refine z_astore_n (L' := [(3, .ref (q9)), (0, .ref (ad 33)), (1, .int (x1)), (2, .ref (ad 34))]) C dL_triggeredOf_12 (by decide) rfl ?_
  refine z_iconst (v := nI 1) C (by decide) dL_triggeredOf_13 ?_
  refine z_widen (k := 1) (q := 6) (Nat.le_of_ble_eq_true rfl) (Nat.le_of_ble_eq_true rfl) ?_
  exact z_iret C hr hlocks hQ ((u9, o, d)) (⟨rfl, rfl⟩) (fun _ _ => rfl) dL_triggeredOf_14

set_option maxHeartbeats 4000000 in
set_option maxRecDepth 100000 in
theorem h_triggeredOf_t2 (l : Launch) (D : va_G) (ad : Nat → Nat) (cI cL cR cB cD : ClassId) (hI : gI 36 ad) (u : xS) (o : Nat → Int64) (d : Nat → UInt64) (x1 : Int32) (hM : ∀ sz, vx_Met l yX6_triggeredOf wsX6_triggeredOf ({ frames := 8, cells := 1, slots := 6, locals := 132 }) (XP D ad cI cL cR u [.ref (ad 33), .int (x1)] sz) QN (XE D ad cI cL cR eIO u sz) 1 6 (gA 34 ad sz)) : ∀ sz, Met l yL_triggeredOf wsL_triggeredOf ({ frames := 9, cells := 1, slots := 6, locals := 153 }) (HP D ad cI cL cR cB cD (u, o, d) [.ref (ad 33), .int (x1), .ref (ad 34)] sz) (va_Qi (fun r s => r = nI 2 ∧ s = (u, o, d)) (HB D ad cI cL cR cD) (gA 36 ad sz)) 1 6 (gA 36 ad sz) := by
  intro sz
  refine z_metW (cc := cL_triggeredOf) (maxL := 4) (ret := (some .int)) (hh := [(0, 9, 12, 17), (0, 9, 15, 13)]) (by decide) rfl (Nat.le_of_ble_eq_true rfl) ?_
  intro pq lq sq mq aq Qq bq hmq cq C hr hml hown hts hlocks hK hX htab hsz hQ
  subst hsz
  refine z_sub (L' := [(0, .ref (ad 33)), (1, .int (x1)), (2, .ref (ad 34))]) [0, 1, 2] rfl ?_
  refine z_aload_n C dL_triggeredOf_0 2 rfl ?_
  refine z_iconst (v := nI 0) C (by decide) dL_triggeredOf_1 ?_
  refine z_aload_n C dL_triggeredOf_2 0 rfl ?_
  refine z_iload_n C dL_triggeredOf_3 1 rfl ?_
  refine z_catchV lX_ok C hml hown hts hK hX (fun sz => z_liftX (σ := id) (F := fun u9 => hF ad cI cL cR cD (u9, o, d)) (F1 := xF ad cI cL cR) (f1 := xF ad cI cL cR u) (hL36 hI) lK_x lX_x (fun _ hk => if_pos hk) (fun _ _ hk => if_pos hk) hF_h (hM sz)) (cwV 1 hts gL_triggeredOf_X6_triggeredOf rfl rfl rfl (by decide +kernel) ⟨Nat.le_of_ble_eq_true rfl, Nat.le_of_ble_eq_true rfl⟩) (by decide) (ci := 6) rfl rfl rfl (st := [.int (nI 0), .ref (ad 34)]) rfl (Nat.le_of_ble_eq_true rfl) dL_triggeredOf_4 ⟨Nat.le_of_ble_eq_true rfl, Nat.le_of_ble_eq_true rfl⟩ [⟨0, 9, 12, 17⟩] ⟨0, 9, 15, 13⟩ [] (htab.trans rfl) (fun z hz => by rw [List.mem_singleton] at hz; subst hz; exact ⟨by decide, eIS, hts (.classLink RL 17 eIS) (by decide +kernel), hX.2.2.2.1⟩) (by decide) (by decide) (name := eIO) (hts (.classLink RL 13 eIO) (by decide +kernel)) hX.2.1.1 (fun q9 u9 h9 => ?_)
  subst h9
  refine z_astore_n (L' := [(3, .ref (q9)), (0, .ref (ad 33)), (1, .int (x1)), (2, .ref (ad 34))]) C dL_triggeredOf_15 (by decide) rfl ?_
  refine z_iconst (v := nI 2) C (by decide) dL_triggeredOf_16 ?_
  refine z_widen (k := 1) (q := 6) (Nat.le_of_ble_eq_true rfl) (Nat.le_of_ble_eq_true rfl) ?_
  exact z_iret C hr hlocks hQ ((u9, o, d)) (⟨rfl, rfl⟩) (fun _ _ => rfl) dL_triggeredOf_17

set_option maxHeartbeats 4000000 in
set_option maxRecDepth 100000 in
theorem h_after_ok (l : Launch) (D : va_G) (ad : Nat → Nat) (cI cL cR cB cD : ClassId) (hI : gI 36 ad) (u : xS) (o : Nat → Int64) (d : Nat → UInt64) (x1 x2 : Int32) (P : Int32 → xS → Prop) (hM : ∀ sz, Met l yX6_after wsX6_after ({ frames := 8, cells := 0, slots := 0, locals := 132 }) (XP D ad cI cL cR u [.ref (ad 33), .int (x1), .int (x2)] sz) (va_Qi P (XB D ad cI cL cR) (gA 34 ad sz)) 0 0 (gA 34 ad sz)) : ∀ sz, Met l yL_after wsL_after ({ frames := 9, cells := 1, slots := 6, locals := 154 }) (HP D ad cI cL cR cB cD (u, o, d) [.ref (ad 33), .int (x1), .int (x2), .ref (ad 34)] sz) (va_Qi (fun r s => r = nI 0 ∧ ∃ b, P b s.1 ∧ s.2.1 0 = b.toInt64) (HB D ad cI cL cR cD) (gA 36 ad sz)) 1 6 (gA 36 ad sz) := by
  intro sz
  refine z_metW (cc := cL_after) (maxL := 5) (ret := (some .int)) (hh := [(0, 10, 13, 17), (0, 10, 17, 13)]) (by decide) rfl (Nat.le_of_ble_eq_true rfl) ?_
  intro pq lq sq mq aq Qq bq hmq cq C hr hml hown hts hlocks hK hX htab hsz hQ
  subst hsz
  refine z_sub (L' := [(0, .ref (ad 33)), (1, .int (x1)), (2, .int (x2)), (3, .ref (ad 34))]) [0, 1, 2, 3] rfl ?_
  refine z_aload_n C dL_after_0 3 rfl ?_
  refine z_iconst (v := nI 0) C (by decide) dL_after_1 ?_
  refine z_aload_n C dL_after_2 0 rfl ?_
  refine z_iload_n C dL_after_3 1 rfl ?_
  refine z_iload_n C dL_after_4 2 rfl ?_
  refine z_callVi lX_ok C hml hown hts hK hX (fun sz => z_liftI (σ := id) (F := fun u9 => hF ad cI cL cR cD (u9, o, d)) (F1 := xF ad cI cL cR) (f1 := xF ad cI cL cR u) (hL36 hI) lK_x lX_x (fun _ hk => if_pos hk) (fun _ _ hk => if_pos hk) hF_h (fun _ _ h => h) (hM sz)) (cwV 2 hts gL_after_X6_after rfl rfl rfl (by decide +kernel) ⟨Nat.le_of_ble_eq_true rfl, Nat.le_of_ble_eq_true rfl⟩) (by decide) (ci := 6) rfl rfl rfl (st := [.int (nI 0), .ref (ad 34)]) rfl (Nat.le_of_ble_eq_true rfl) dL_after_5 ⟨Nat.le_of_ble_eq_true rfl, Nat.le_of_ble_eq_true rfl⟩ (fun r9 u9 h9 => ?_)
  refine z_i2l C rfl dL_after_8 ?_
  refine z_last (q := 34) (len := 1) (k := 0) C hI hK (by decide) rfl 1 rfl rfl (by decide) (by decide) (f' := hF ad cI cL cR cD (u9, (vp_updL o 0 ((r9 : Int32).toInt64)), d)) rfl hF_o dL_after_9 ?_
  refine z_goto (tgt := 21) C dL_after_10 (by decide) ?_
  refine z_iconst (v := nI 0) C (by decide) dL_after_21 ?_
  refine z_widen (k := 1) (q := 6) (Nat.le_of_ble_eq_true rfl) (Nat.le_of_ble_eq_true rfl) ?_
  exact z_iret C hr hlocks hQ ((u9, (vp_updL o 0 ((r9 : Int32).toInt64)), d)) (⟨rfl, r9, h9, (show (vp_updL o 0 ((r9 : Int32).toInt64)) 0 = _ from upL0 rfl)⟩) (fun _ _ => rfl) dL_after_22

set_option maxHeartbeats 4000000 in
set_option maxRecDepth 100000 in
theorem h_after_t1 (l : Launch) (D : va_G) (ad : Nat → Nat) (cI cL cR cB cD : ClassId) (hI : gI 36 ad) (u : xS) (o : Nat → Int64) (d : Nat → UInt64) (x1 x2 : Int32) (hM : ∀ sz, vx_Met l yX6_after wsX6_after ({ frames := 8, cells := 1, slots := 6, locals := 132 }) (XP D ad cI cL cR u [.ref (ad 33), .int (x1), .int (x2)] sz) QN (XE D ad cI cL cR eIS u sz) 1 6 (gA 34 ad sz)) : ∀ sz, Met l yL_after wsL_after ({ frames := 9, cells := 1, slots := 6, locals := 154 }) (HP D ad cI cL cR cB cD (u, o, d) [.ref (ad 33), .int (x1), .int (x2), .ref (ad 34)] sz) (va_Qi (fun r s => r = nI 1 ∧ s = (u, o, d)) (HB D ad cI cL cR cD) (gA 36 ad sz)) 1 6 (gA 36 ad sz) := by
  intro sz
  refine z_metW (cc := cL_after) (maxL := 5) (ret := (some .int)) (hh := [(0, 10, 13, 17), (0, 10, 17, 13)]) (by decide) rfl (Nat.le_of_ble_eq_true rfl) ?_
  intro pq lq sq mq aq Qq bq hmq cq C hr hml hown hts hlocks hK hX htab hsz hQ
  subst hsz
  refine z_sub (L' := [(0, .ref (ad 33)), (1, .int (x1)), (2, .int (x2)), (3, .ref (ad 34))]) [0, 1, 2, 3] rfl ?_
  refine z_aload_n C dL_after_0 3 rfl ?_
  refine z_iconst (v := nI 0) C (by decide) dL_after_1 ?_
  refine z_aload_n C dL_after_2 0 rfl ?_
  refine z_iload_n C dL_after_3 1 rfl ?_
  refine z_iload_n C dL_after_4 2 rfl ?_
  refine z_catchV lX_ok C hml hown hts hK hX (fun sz => z_liftX (σ := id) (F := fun u9 => hF ad cI cL cR cD (u9, o, d)) (F1 := xF ad cI cL cR) (f1 := xF ad cI cL cR u) (hL36 hI) lK_x lX_x (fun _ hk => if_pos hk) (fun _ _ hk => if_pos hk) hF_h (hM sz)) (cwV 2 hts gL_after_X6_after rfl rfl rfl (by decide +kernel) ⟨Nat.le_of_ble_eq_true rfl, Nat.le_of_ble_eq_true rfl⟩) (by decide) (ci := 6) rfl rfl rfl (st := [.int (nI 0), .ref (ad 34)]) rfl (Nat.le_of_ble_eq_true rfl) dL_after_5 ⟨Nat.le_of_ble_eq_true rfl, Nat.le_of_ble_eq_true rfl⟩ [] ⟨0, 10, 13, 17⟩ [⟨0, 10, 17, 13⟩] (htab.trans rfl) (fun z hz => absurd hz List.not_mem_nil) (by decide) (by decide) (name := eIS) (hts (.classLink RL 17 eIS) (by decide +kernel)) hX.2.1.2.2 (fun q9 u9 h9 => ?_)
  subst h9
  refine z_astore (L' := [(4, .ref (q9)), (0, .ref (ad 33)), (1, .int (x1)), (2, .int (x2)), (3, .ref (ad 34))]) C dL_after_13 (by decide) rfl ?_
  refine z_iconst (v := nI 1) C (by decide) dL_after_15 ?_
  refine z_widen (k := 1) (q := 6) (Nat.le_of_ble_eq_true rfl) (Nat.le_of_ble_eq_true rfl) ?_
  exact z_iret C hr hlocks hQ ((u9, o, d)) (⟨rfl, rfl⟩) (fun _ _ => rfl) dL_after_16

set_option maxHeartbeats 4000000 in
set_option maxRecDepth 100000 in
theorem h_after_t2 (l : Launch) (D : va_G) (ad : Nat → Nat) (cI cL cR cB cD : ClassId) (hI : gI 36 ad) (u : xS) (o : Nat → Int64) (d : Nat → UInt64) (x1 x2 : Int32) (hM : ∀ sz, vx_Met l yX6_after wsX6_after ({ frames := 8, cells := 1, slots := 6, locals := 132 }) (XP D ad cI cL cR u [.ref (ad 33), .int (x1), .int (x2)] sz) QN (XE D ad cI cL cR eIO u sz) 1 6 (gA 34 ad sz)) : ∀ sz, Met l yL_after wsL_after ({ frames := 9, cells := 1, slots := 6, locals := 154 }) (HP D ad cI cL cR cB cD (u, o, d) [.ref (ad 33), .int (x1), .int (x2), .ref (ad 34)] sz) (va_Qi (fun r s => r = nI 2 ∧ s = (u, o, d)) (HB D ad cI cL cR cD) (gA 36 ad sz)) 1 6 (gA 36 ad sz) := by
  intro sz
  refine z_metW (cc := cL_after) (maxL := 5) (ret := (some .int)) (hh := [(0, 10, 13, 17), (0, 10, 17, 13)]) (by decide) rfl (Nat.le_of_ble_eq_true rfl) ?_
  intro pq lq sq mq aq Qq bq hmq cq C hr hml hown hts hlocks hK hX htab hsz hQ
  subst hsz
  refine z_sub (L' := [(0, .ref (ad 33)), (1, .int (x1)), (2, .int (x2)), (3, .ref (ad 34))]) [0, 1, 2, 3] rfl ?_
  refine z_aload_n C dL_after_0 3 rfl ?_
  refine z_iconst (v := nI 0) C (by decide) dL_after_1 ?_
  refine z_aload_n C dL_after_2 0 rfl ?_
  refine z_iload_n C dL_after_3 1 rfl ?_
  refine z_iload_n C dL_after_4 2 rfl ?_
  refine z_catchV lX_ok C hml hown hts hK hX (fun sz => z_liftX (σ := id) (F := fun u9 => hF ad cI cL cR cD (u9, o, d)) (F1 := xF ad cI cL cR) (f1 := xF ad cI cL cR u) (hL36 hI) lK_x lX_x (fun _ hk => if_pos hk) (fun _ _ hk => if_pos hk) hF_h (hM sz)) (cwV 2 hts gL_after_X6_after rfl rfl rfl (by decide +kernel) ⟨Nat.le_of_ble_eq_true rfl, Nat.le_of_ble_eq_true rfl⟩) (by decide) (ci := 6) rfl rfl rfl (st := [.int (nI 0), .ref (ad 34)]) rfl (Nat.le_of_ble_eq_true rfl) dL_after_5 ⟨Nat.le_of_ble_eq_true rfl, Nat.le_of_ble_eq_true rfl⟩ [⟨0, 10, 13, 17⟩] ⟨0, 10, 17, 13⟩ [] (htab.trans rfl) (fun z hz => by rw [List.mem_singleton] at hz; subst hz; exact ⟨by decide, eIS, hts (.classLink RL 17 eIS) (by decide +kernel), hX.2.2.2.1⟩) (by decide) (by decide) (name := eIO) (hts (.classLink RL 13 eIO) (by decide +kernel)) hX.2.1.1 (fun q9 u9 h9 => ?_)
  subst h9
  refine z_astore (L' := [(4, .ref (q9)), (0, .ref (ad 33)), (1, .int (x1)), (2, .int (x2)), (3, .ref (ad 34))]) C dL_after_17 (by decide) rfl ?_
  refine z_iconst (v := nI 2) C (by decide) dL_after_19 ?_
  refine z_widen (k := 1) (q := 6) (Nat.le_of_ble_eq_true rfl) (Nat.le_of_ble_eq_true rfl) ?_
  exact z_iret C hr hlocks hQ ((u9, o, d)) (⟨rfl, rfl⟩) (fun _ _ => rfl) dL_after_20

set_option maxHeartbeats 4000000 in
set_option maxRecDepth 100000 in
theorem h_terminates_ok (l : Launch) (D : va_G) (ad : Nat → Nat) (cI cL cR cB cD : ClassId) (hI : gI 36 ad) (u : xS) (o : Nat → Int64) (d : Nat → UInt64) (P : Int32 → xS → Prop) (hM : ∀ sz, Met l yX6_terminates wsX6_terminates ({ frames := 7, cells := 0, slots := 0, locals := 110 }) (XP D ad cI cL cR u [.ref (ad 33)] sz) (va_Qi P (XB D ad cI cL cR) (gA 34 ad sz)) 0 0 (gA 34 ad sz)) : ∀ sz, Met l yL_terminates wsL_terminates ({ frames := 8, cells := 1, slots := 6, locals := 130 }) (HP D ad cI cL cR cB cD (u, o, d) [.ref (ad 33), .ref (ad 34)] sz) (va_Qi (fun r s => r = nI 0 ∧ ∃ b, P b s.1 ∧ s.2.1 0 = (if b = 0 then 0 else 1)) (HB D ad cI cL cR cD) (gA 36 ad sz)) 1 6 (gA 36 ad sz) := by
  intro sz
  refine z_metW (cc := cL_terminates) (maxL := 3) (ret := (some .int)) (hh := [(0, 15, 18, 17)]) (by decide) rfl (Nat.le_of_ble_eq_true rfl) ?_
  intro pq lq sq mq aq Qq bq hmq cq C hr hml hown hts hlocks hK hX htab hsz hQ
  subst hsz
  refine z_sub (L' := [(0, .ref (ad 33)), (1, .ref (ad 34))]) [0, 1] rfl ?_
  refine z_aload_n C dL_terminates_0 1 rfl ?_
  refine z_iconst (v := nI 0) C (by decide) dL_terminates_1 ?_
  refine z_aload_n C dL_terminates_2 0 rfl ?_
  refine z_callVi lX_ok C hml hown hts hK hX (fun sz => z_liftI (σ := id) (F := fun u9 => hF ad cI cL cR cD (u9, o, d)) (F1 := xF ad cI cL cR) (f1 := xF ad cI cL cR u) (hL36 hI) lK_x lX_x (fun _ hk => if_pos hk) (fun _ _ hk => if_pos hk) hF_h (fun _ _ h => h) (hM sz)) (cwV 0 hts gL_terminates_X6_terminates rfl rfl rfl (by decide +kernel) ⟨Nat.le_of_ble_eq_true rfl, Nat.le_of_ble_eq_true rfl⟩) (by decide) (ci := 6) rfl rfl rfl (st := [.int (nI 0), .ref (ad 34)]) rfl (Nat.le_of_ble_eq_true rfl) dL_terminates_3 ⟨Nat.le_of_ble_eq_true rfl, Nat.le_of_ble_eq_true rfl⟩ (fun r9 u9 h9 => ?_)
  refine z_if_eq (tgt := 13) C dL_terminates_6 (by decide) (fun zc6 => ?_) (fun zc6 => ?_)
  · skip
    refine z_lconst (v := 0) C (by decide) dL_terminates_13 ?_
    refine z_last (q := 34) (len := 1) (k := 0) C hI hK (by decide) rfl 1 rfl rfl (by decide) (by decide) (f' := hF ad cI cL cR cD (u9, (vp_updL o 0 (0)), d)) rfl hF_o dL_terminates_14 ?_
    refine z_goto (tgt := 21) C dL_terminates_15 (by decide) ?_
    refine z_iconst (v := nI 0) C (by decide) dL_terminates_21 ?_
    refine z_widen (k := 1) (q := 6) (Nat.le_of_ble_eq_true rfl) (Nat.le_of_ble_eq_true rfl) ?_
    exact z_iret C hr hlocks hQ ((u9, (vp_updL o 0 (0)), d)) (⟨rfl, r9, h9, (show (vp_updL o 0 (0)) 0 = _ from upL0 (by split <;> first | rfl | contradiction))⟩) (fun _ _ => rfl) dL_terminates_22
  · skip
    refine z_lconst (v := 1) C (by decide) dL_terminates_9 ?_
    refine z_goto (tgt := 14) C dL_terminates_10 (by decide) ?_
    refine z_last (q := 34) (len := 1) (k := 0) C hI hK (by decide) rfl 1 rfl rfl (by decide) (by decide) (f' := hF ad cI cL cR cD (u9, (vp_updL o 0 (1)), d)) rfl hF_o dL_terminates_14 ?_
    refine z_goto (tgt := 21) C dL_terminates_15 (by decide) ?_
    refine z_iconst (v := nI 0) C (by decide) dL_terminates_21 ?_
    refine z_widen (k := 1) (q := 6) (Nat.le_of_ble_eq_true rfl) (Nat.le_of_ble_eq_true rfl) ?_
    exact z_iret C hr hlocks hQ ((u9, (vp_updL o 0 (1)), d)) (⟨rfl, r9, h9, (show (vp_updL o 0 (1)) 0 = _ from upL0 (by split <;> first | rfl | contradiction))⟩) (fun _ _ => rfl) dL_terminates_22

set_option maxHeartbeats 4000000 in
set_option maxRecDepth 100000 in
theorem h_terminates_t1 (l : Launch) (D : va_G) (ad : Nat → Nat) (cI cL cR cB cD : ClassId) (hI : gI 36 ad) (u : xS) (o : Nat → Int64) (d : Nat → UInt64) (hM : ∀ sz, vx_Met l yX6_terminates wsX6_terminates ({ frames := 7, cells := 1, slots := 6, locals := 110 }) (XP D ad cI cL cR u [.ref (ad 33)] sz) QN (XE D ad cI cL cR eIS u sz) 1 6 (gA 34 ad sz)) : ∀ sz, Met l yL_terminates wsL_terminates ({ frames := 8, cells := 1, slots := 6, locals := 130 }) (HP D ad cI cL cR cB cD (u, o, d) [.ref (ad 33), .ref (ad 34)] sz) (va_Qi (fun r s => r = nI 1 ∧ s = (u, o, d)) (HB D ad cI cL cR cD) (gA 36 ad sz)) 1 6 (gA 36 ad sz) := by
  intro sz
  refine z_metW (cc := cL_terminates) (maxL := 3) (ret := (some .int)) (hh := [(0, 15, 18, 17)]) (by decide) rfl (Nat.le_of_ble_eq_true rfl) ?_
  intro pq lq sq mq aq Qq bq hmq cq C hr hml hown hts hlocks hK hX htab hsz hQ
  subst hsz
  refine z_sub (L' := [(0, .ref (ad 33)), (1, .ref (ad 34))]) [0, 1] rfl ?_
  refine z_aload_n C dL_terminates_0 1 rfl ?_
  refine z_iconst (v := nI 0) C (by decide) dL_terminates_1 ?_
  refine z_aload_n C dL_terminates_2 0 rfl ?_
  refine z_catchV lX_ok C hml hown hts hK hX (fun sz => z_liftX (σ := id) (F := fun u9 => hF ad cI cL cR cD (u9, o, d)) (F1 := xF ad cI cL cR) (f1 := xF ad cI cL cR u) (hL36 hI) lK_x lX_x (fun _ hk => if_pos hk) (fun _ _ hk => if_pos hk) hF_h (hM sz)) (cwV 0 hts gL_terminates_X6_terminates rfl rfl rfl (by decide +kernel) ⟨Nat.le_of_ble_eq_true rfl, Nat.le_of_ble_eq_true rfl⟩) (by decide) (ci := 6) rfl rfl rfl (st := [.int (nI 0), .ref (ad 34)]) rfl (Nat.le_of_ble_eq_true rfl) dL_terminates_3 ⟨Nat.le_of_ble_eq_true rfl, Nat.le_of_ble_eq_true rfl⟩ [] ⟨0, 15, 18, 17⟩ [] (htab.trans rfl) (fun z hz => absurd hz List.not_mem_nil) (by decide) (by decide) (name := eIS) (hts (.classLink RL 17 eIS) (by decide +kernel)) hX.2.1.2.2 (fun q9 u9 h9 => ?_)
  subst h9
  refine z_astore_n (L' := [(2, .ref (q9)), (0, .ref (ad 33)), (1, .ref (ad 34))]) C dL_terminates_18 (by decide) rfl ?_
  refine z_iconst (v := nI 1) C (by decide) dL_terminates_19 ?_
  refine z_widen (k := 1) (q := 6) (Nat.le_of_ble_eq_true rfl) (Nat.le_of_ble_eq_true rfl) ?_
  exact z_iret C hr hlocks hQ ((u9, o, d)) (⟨rfl, rfl⟩) (fun _ _ => rfl) dL_terminates_20

set_option maxHeartbeats 4000000 in
set_option maxRecDepth 100000 in
theorem h_endCount_ok (l : Launch) (D : va_G) (ad : Nat → Nat) (cI cL cR cB cD : ClassId) (hI : gI 36 ad) (u : xS) (o : Nat → Int64) (d : Nat → UInt64) (P : Int32 → xS → Prop) (hM : ∀ sz, Met l yX6_endCount wsX6_endCount ({ frames := 7, cells := 0, slots := 0, locals := 110 }) (XP D ad cI cL cR u [.ref (ad 33)] sz) (va_Qi P (XB D ad cI cL cR) (gA 34 ad sz)) 0 0 (gA 34 ad sz)) : ∀ sz, Met l yL_endCount wsL_endCount ({ frames := 8, cells := 1, slots := 6, locals := 130 }) (HP D ad cI cL cR cB cD (u, o, d) [.ref (ad 33), .ref (ad 34)] sz) (va_Qi (fun r s => r = nI 0 ∧ ∃ b, P b s.1 ∧ s.2.1 0 = b.toInt64) (HB D ad cI cL cR cD) (gA 36 ad sz)) 1 6 (gA 36 ad sz) := by
  intro sz
  refine z_metW (cc := cL_endCount) (maxL := 3) (ret := (some .int)) (hh := [(0, 8, 11, 17)]) (by decide) rfl (Nat.le_of_ble_eq_true rfl) ?_
  intro pq lq sq mq aq Qq bq hmq cq C hr hml hown hts hlocks hK hX htab hsz hQ
  subst hsz
  refine z_sub (L' := [(0, .ref (ad 33)), (1, .ref (ad 34))]) [0, 1] rfl ?_
  refine z_aload_n C dL_endCount_0 1 rfl ?_
  refine z_iconst (v := nI 0) C (by decide) dL_endCount_1 ?_
  refine z_aload_n C dL_endCount_2 0 rfl ?_
  refine z_callVi lX_ok C hml hown hts hK hX (fun sz => z_liftI (σ := id) (F := fun u9 => hF ad cI cL cR cD (u9, o, d)) (F1 := xF ad cI cL cR) (f1 := xF ad cI cL cR u) (hL36 hI) lK_x lX_x (fun _ hk => if_pos hk) (fun _ _ hk => if_pos hk) hF_h (fun _ _ h => h) (hM sz)) (cwV 0 hts gL_endCount_X6_endCount rfl rfl rfl (by decide +kernel) ⟨Nat.le_of_ble_eq_true rfl, Nat.le_of_ble_eq_true rfl⟩) (by decide) (ci := 6) rfl rfl rfl (st := [.int (nI 0), .ref (ad 34)]) rfl (Nat.le_of_ble_eq_true rfl) dL_endCount_3 ⟨Nat.le_of_ble_eq_true rfl, Nat.le_of_ble_eq_true rfl⟩ (fun r9 u9 h9 => ?_)
  refine z_i2l C rfl dL_endCount_6 ?_
  refine z_last (q := 34) (len := 1) (k := 0) C hI hK (by decide) rfl 1 rfl rfl (by decide) (by decide) (f' := hF ad cI cL cR cD (u9, (vp_updL o 0 ((r9 : Int32).toInt64)), d)) rfl hF_o dL_endCount_7 ?_
  refine z_goto (tgt := 14) C dL_endCount_8 (by decide) ?_
  refine z_iconst (v := nI 0) C (by decide) dL_endCount_14 ?_
  refine z_widen (k := 1) (q := 6) (Nat.le_of_ble_eq_true rfl) (Nat.le_of_ble_eq_true rfl) ?_
  exact z_iret C hr hlocks hQ ((u9, (vp_updL o 0 ((r9 : Int32).toInt64)), d)) (⟨rfl, r9, h9, (show (vp_updL o 0 ((r9 : Int32).toInt64)) 0 = _ from upL0 rfl)⟩) (fun _ _ => rfl) dL_endCount_15

set_option maxHeartbeats 4000000 in
set_option maxRecDepth 100000 in
theorem h_endCount_t1 (l : Launch) (D : va_G) (ad : Nat → Nat) (cI cL cR cB cD : ClassId) (hI : gI 36 ad) (u : xS) (o : Nat → Int64) (d : Nat → UInt64) (hM : ∀ sz, vx_Met l yX6_endCount wsX6_endCount ({ frames := 7, cells := 1, slots := 6, locals := 110 }) (XP D ad cI cL cR u [.ref (ad 33)] sz) QN (XE D ad cI cL cR eIS u sz) 1 6 (gA 34 ad sz)) : ∀ sz, Met l yL_endCount wsL_endCount ({ frames := 8, cells := 1, slots := 6, locals := 130 }) (HP D ad cI cL cR cB cD (u, o, d) [.ref (ad 33), .ref (ad 34)] sz) (va_Qi (fun r s => r = nI 1 ∧ s = (u, o, d)) (HB D ad cI cL cR cD) (gA 36 ad sz)) 1 6 (gA 36 ad sz) := by
  intro sz
  refine z_metW (cc := cL_endCount) (maxL := 3) (ret := (some .int)) (hh := [(0, 8, 11, 17)]) (by decide) rfl (Nat.le_of_ble_eq_true rfl) ?_
  intro pq lq sq mq aq Qq bq hmq cq C hr hml hown hts hlocks hK hX htab hsz hQ
  subst hsz
  refine z_sub (L' := [(0, .ref (ad 33)), (1, .ref (ad 34))]) [0, 1] rfl ?_
  refine z_aload_n C dL_endCount_0 1 rfl ?_
  refine z_iconst (v := nI 0) C (by decide) dL_endCount_1 ?_
  refine z_aload_n C dL_endCount_2 0 rfl ?_
  refine z_catchV lX_ok C hml hown hts hK hX (fun sz => z_liftX (σ := id) (F := fun u9 => hF ad cI cL cR cD (u9, o, d)) (F1 := xF ad cI cL cR) (f1 := xF ad cI cL cR u) (hL36 hI) lK_x lX_x (fun _ hk => if_pos hk) (fun _ _ hk => if_pos hk) hF_h (hM sz)) (cwV 0 hts gL_endCount_X6_endCount rfl rfl rfl (by decide +kernel) ⟨Nat.le_of_ble_eq_true rfl, Nat.le_of_ble_eq_true rfl⟩) (by decide) (ci := 6) rfl rfl rfl (st := [.int (nI 0), .ref (ad 34)]) rfl (Nat.le_of_ble_eq_true rfl) dL_endCount_3 ⟨Nat.le_of_ble_eq_true rfl, Nat.le_of_ble_eq_true rfl⟩ [] ⟨0, 8, 11, 17⟩ [] (htab.trans rfl) (fun z hz => absurd hz List.not_mem_nil) (by decide) (by decide) (name := eIS) (hts (.classLink RL 17 eIS) (by decide +kernel)) hX.2.1.2.2 (fun q9 u9 h9 => ?_)
  subst h9
  refine z_astore_n (L' := [(2, .ref (q9)), (0, .ref (ad 33)), (1, .ref (ad 34))]) C dL_endCount_11 (by decide) rfl ?_
  refine z_iconst (v := nI 1) C (by decide) dL_endCount_12 ?_
  refine z_widen (k := 1) (q := 6) (Nat.le_of_ble_eq_true rfl) (Nat.le_of_ble_eq_true rfl) ?_
  exact z_iret C hr hlocks hQ ((u9, o, d)) (⟨rfl, rfl⟩) (fun _ _ => rfl) dL_endCount_13

set_option maxHeartbeats 4000000 in
set_option maxRecDepth 100000 in
theorem h_end_ok (l : Launch) (D : va_G) (ad : Nat → Nat) (cI cL cR cB cD : ClassId) (hI : gI 36 ad) (u : xS) (o : Nat → Int64) (d : Nat → UInt64) (x1 : Int32) (P : Int32 → xS → Prop) (hM : ∀ sz, Met l yX6_end wsX6_end ({ frames := 7, cells := 0, slots := 0, locals := 110 }) (XP D ad cI cL cR u [.ref (ad 33), .int (x1)] sz) (va_Qi P (XB D ad cI cL cR) (gA 34 ad sz)) 0 0 (gA 34 ad sz)) : ∀ sz, Met l yL_end wsL_end ({ frames := 8, cells := 1, slots := 6, locals := 132 }) (HP D ad cI cL cR cB cD (u, o, d) [.ref (ad 33), .int (x1), .ref (ad 34)] sz) (va_Qi (fun r s => r = nI 0 ∧ ∃ b, P b s.1 ∧ s.2.1 0 = b.toInt64) (HB D ad cI cL cR cD) (gA 36 ad sz)) 1 6 (gA 36 ad sz) := by
  intro sz
  refine z_metW (cc := cL_end) (maxL := 4) (ret := (some .int)) (hh := [(0, 9, 12, 17), (0, 9, 15, 13)]) (by decide) rfl (Nat.le_of_ble_eq_true rfl) ?_
  intro pq lq sq mq aq Qq bq hmq cq C hr hml hown hts hlocks hK hX htab hsz hQ
  subst hsz
  refine z_sub (L' := [(0, .ref (ad 33)), (1, .int (x1)), (2, .ref (ad 34))]) [0, 1, 2] rfl ?_
  refine z_aload_n C dL_end_0 2 rfl ?_
  refine z_iconst (v := nI 0) C (by decide) dL_end_1 ?_
  refine z_aload_n C dL_end_2 0 rfl ?_
  refine z_iload_n C dL_end_3 1 rfl ?_
  refine z_callVi lX_ok C hml hown hts hK hX (fun sz => z_liftI (σ := id) (F := fun u9 => hF ad cI cL cR cD (u9, o, d)) (F1 := xF ad cI cL cR) (f1 := xF ad cI cL cR u) (hL36 hI) lK_x lX_x (fun _ hk => if_pos hk) (fun _ _ hk => if_pos hk) hF_h (fun _ _ h => h) (hM sz)) (cwV 1 hts gL_end_X6_end rfl rfl rfl (by decide +kernel) ⟨Nat.le_of_ble_eq_true rfl, Nat.le_of_ble_eq_true rfl⟩) (by decide) (ci := 6) rfl rfl rfl (st := [.int (nI 0), .ref (ad 34)]) rfl (Nat.le_of_ble_eq_true rfl) dL_end_4 ⟨Nat.le_of_ble_eq_true rfl, Nat.le_of_ble_eq_true rfl⟩ (fun r9 u9 h9 => ?_)
  refine z_i2l C rfl dL_end_7 ?_
  refine z_last (q := 34) (len := 1) (k := 0) C hI hK (by decide) rfl 1 rfl rfl (by decide) (by decide) (f' := hF ad cI cL cR cD (u9, (vp_updL o 0 ((r9 : Int32).toInt64)), d)) rfl hF_o dL_end_8 ?_
  refine z_goto (tgt := 18) C dL_end_9 (by decide) ?_
  refine z_iconst (v := nI 0) C (by decide) dL_end_18 ?_
  refine z_widen (k := 1) (q := 6) (Nat.le_of_ble_eq_true rfl) (Nat.le_of_ble_eq_true rfl) ?_
  exact z_iret C hr hlocks hQ ((u9, (vp_updL o 0 ((r9 : Int32).toInt64)), d)) (⟨rfl, r9, h9, (show (vp_updL o 0 ((r9 : Int32).toInt64)) 0 = _ from upL0 rfl)⟩) (fun _ _ => rfl) dL_end_19

set_option maxHeartbeats 4000000 in
set_option maxRecDepth 100000 in
theorem h_end_t1 (l : Launch) (D : va_G) (ad : Nat → Nat) (cI cL cR cB cD : ClassId) (hI : gI 36 ad) (u : xS) (o : Nat → Int64) (d : Nat → UInt64) (x1 : Int32) (hM : ∀ sz, vx_Met l yX6_end wsX6_end ({ frames := 7, cells := 1, slots := 6, locals := 110 }) (XP D ad cI cL cR u [.ref (ad 33), .int (x1)] sz) QN (XE D ad cI cL cR eIS u sz) 1 6 (gA 34 ad sz)) : ∀ sz, Met l yL_end wsL_end ({ frames := 8, cells := 1, slots := 6, locals := 132 }) (HP D ad cI cL cR cB cD (u, o, d) [.ref (ad 33), .int (x1), .ref (ad 34)] sz) (va_Qi (fun r s => r = nI 1 ∧ s = (u, o, d)) (HB D ad cI cL cR cD) (gA 36 ad sz)) 1 6 (gA 36 ad sz) := by
  intro sz
  refine z_metW (cc := cL_end) (maxL := 4) (ret := (some .int)) (hh := [(0, 9, 12, 17), (0, 9, 15, 13)]) (by decide) rfl (Nat.le_of_ble_eq_true rfl) ?_
  intro pq lq sq mq aq Qq bq hmq cq C hr hml hown hts hlocks hK hX htab hsz hQ
  subst hsz
  refine z_sub (L' := [(0, .ref (ad 33)), (1, .int (x1)), (2, .ref (ad 34))]) [0, 1, 2] rfl ?_
  refine z_aload_n C dL_end_0 2 rfl ?_
  refine z_iconst (v := nI 0) C (by decide) dL_end_1 ?_
  refine z_aload_n C dL_end_2 0 rfl ?_
  refine z_iload_n C dL_end_3 1 rfl ?_
  refine z_catchV lX_ok C hml hown hts hK hX (fun sz => z_liftX (σ := id) (F := fun u9 => hF ad cI cL cR cD (u9, o, d)) (F1 := xF ad cI cL cR) (f1 := xF ad cI cL cR u) (hL36 hI) lK_x lX_x (fun _ hk => if_pos hk) (fun _ _ hk => if_pos hk) hF_h (hM sz)) (cwV 1 hts gL_end_X6_end rfl rfl rfl (by decide +kernel) ⟨Nat.le_of_ble_eq_true rfl, Nat.le_of_ble_eq_true rfl⟩) (by decide) (ci := 6) rfl rfl rfl (st := [.int (nI 0), .ref (ad 34)]) rfl (Nat.le_of_ble_eq_true rfl) dL_end_4 ⟨Nat.le_of_ble_eq_true rfl, Nat.le_of_ble_eq_true rfl⟩ [] ⟨0, 9, 12, 17⟩ [⟨0, 9, 15, 13⟩] (htab.trans rfl) (fun z hz => absurd hz List.not_mem_nil) (by decide) (by decide) (name := eIS) (hts (.classLink RL 17 eIS) (by decide +kernel)) hX.2.1.2.2 (fun q9 u9 h9 => ?_)
  subst h9
  refine z_astore_n (L' := [(3, .ref (q9)), (0, .ref (ad 33)), (1, .int (x1)), (2, .ref (ad 34))]) C dL_end_12 (by decide) rfl ?_
  refine z_iconst (v := nI 1) C (by decide) dL_end_13 ?_
  refine z_widen (k := 1) (q := 6) (Nat.le_of_ble_eq_true rfl) (Nat.le_of_ble_eq_true rfl) ?_
  exact z_iret C hr hlocks hQ ((u9, o, d)) (⟨rfl, rfl⟩) (fun _ _ => rfl) dL_end_14

set_option maxHeartbeats 4000000 in
set_option maxRecDepth 100000 in
theorem h_end_t2 (l : Launch) (D : va_G) (ad : Nat → Nat) (cI cL cR cB cD : ClassId) (hI : gI 36 ad) (u : xS) (o : Nat → Int64) (d : Nat → UInt64) (x1 : Int32) (hM : ∀ sz, vx_Met l yX6_end wsX6_end ({ frames := 7, cells := 1, slots := 6, locals := 110 }) (XP D ad cI cL cR u [.ref (ad 33), .int (x1)] sz) QN (XE D ad cI cL cR eIO u sz) 1 6 (gA 34 ad sz)) : ∀ sz, Met l yL_end wsL_end ({ frames := 8, cells := 1, slots := 6, locals := 132 }) (HP D ad cI cL cR cB cD (u, o, d) [.ref (ad 33), .int (x1), .ref (ad 34)] sz) (va_Qi (fun r s => r = nI 2 ∧ s = (u, o, d)) (HB D ad cI cL cR cD) (gA 36 ad sz)) 1 6 (gA 36 ad sz) := by
  intro sz
  refine z_metW (cc := cL_end) (maxL := 4) (ret := (some .int)) (hh := [(0, 9, 12, 17), (0, 9, 15, 13)]) (by decide) rfl (Nat.le_of_ble_eq_true rfl) ?_
  intro pq lq sq mq aq Qq bq hmq cq C hr hml hown hts hlocks hK hX htab hsz hQ
  subst hsz
  refine z_sub (L' := [(0, .ref (ad 33)), (1, .int (x1)), (2, .ref (ad 34))]) [0, 1, 2] rfl ?_
  refine z_aload_n C dL_end_0 2 rfl ?_
  refine z_iconst (v := nI 0) C (by decide) dL_end_1 ?_
  refine z_aload_n C dL_end_2 0 rfl ?_
  refine z_iload_n C dL_end_3 1 rfl ?_
  refine z_catchV lX_ok C hml hown hts hK hX (fun sz => z_liftX (σ := id) (F := fun u9 => hF ad cI cL cR cD (u9, o, d)) (F1 := xF ad cI cL cR) (f1 := xF ad cI cL cR u) (hL36 hI) lK_x lX_x (fun _ hk => if_pos hk) (fun _ _ hk => if_pos hk) hF_h (hM sz)) (cwV 1 hts gL_end_X6_end rfl rfl rfl (by decide +kernel) ⟨Nat.le_of_ble_eq_true rfl, Nat.le_of_ble_eq_true rfl⟩) (by decide) (ci := 6) rfl rfl rfl (st := [.int (nI 0), .ref (ad 34)]) rfl (Nat.le_of_ble_eq_true rfl) dL_end_4 ⟨Nat.le_of_ble_eq_true rfl, Nat.le_of_ble_eq_true rfl⟩ [⟨0, 9, 12, 17⟩] ⟨0, 9, 15, 13⟩ [] (htab.trans rfl) (fun z hz => by rw [List.mem_singleton] at hz; subst hz; exact ⟨by decide, eIS, hts (.classLink RL 17 eIS) (by decide +kernel), hX.2.2.2.1⟩) (by decide) (by decide) (name := eIO) (hts (.classLink RL 13 eIO) (by decide +kernel)) hX.2.1.1 (fun q9 u9 h9 => ?_)
  subst h9
  refine z_astore_n (L' := [(3, .ref (q9)), (0, .ref (ad 33)), (1, .int (x1)), (2, .ref (ad 34))]) C dL_end_15 (by decide) rfl ?_
  refine z_iconst (v := nI 2) C (by decide) dL_end_16 ?_
  refine z_widen (k := 1) (q := 6) (Nat.le_of_ble_eq_true rfl) (Nat.le_of_ble_eq_true rfl) ?_
  exact z_iret C hr hlocks hQ ((u9, o, d)) (⟨rfl, rfl⟩) (fun _ _ => rfl) dL_end_17

set_option maxHeartbeats 4000000 in
set_option maxRecDepth 100000 in
theorem h_shortest_ok (l : Launch) (D : va_G) (ad : Nat → Nat) (cI cL cR cB cD : ClassId) (hI : gI 36 ad) (u : xS) (o : Nat → Int64) (d : Nat → UInt64) (P : Int32 → xS → Prop) (hM : ∀ sz, Met l yX6_shortest wsX6_shortest ({ frames := 7, cells := 0, slots := 0, locals := 110 }) (XP D ad cI cL cR u [.ref (ad 33)] sz) (va_Qi P (XB D ad cI cL cR) (gA 34 ad sz)) 0 0 (gA 34 ad sz)) : ∀ sz, Met l yL_shortest wsL_shortest ({ frames := 8, cells := 1, slots := 6, locals := 130 }) (HP D ad cI cL cR cB cD (u, o, d) [.ref (ad 33), .ref (ad 34)] sz) (va_Qi (fun r s => r = nI 0 ∧ ∃ b, P b s.1 ∧ s.2.1 0 = b.toInt64) (HB D ad cI cL cR cD) (gA 36 ad sz)) 1 6 (gA 36 ad sz) := by
  intro sz
  refine z_metW (cc := cL_shortest) (maxL := 3) (ret := (some .int)) (hh := [(0, 8, 11, 17)]) (by decide) rfl (Nat.le_of_ble_eq_true rfl) ?_
  intro pq lq sq mq aq Qq bq hmq cq C hr hml hown hts hlocks hK hX htab hsz hQ
  subst hsz
  refine z_sub (L' := [(0, .ref (ad 33)), (1, .ref (ad 34))]) [0, 1] rfl ?_
  refine z_aload_n C dL_shortest_0 1 rfl ?_
  refine z_iconst (v := nI 0) C (by decide) dL_shortest_1 ?_
  refine z_aload_n C dL_shortest_2 0 rfl ?_
  refine z_callVi lX_ok C hml hown hts hK hX (fun sz => z_liftI (σ := id) (F := fun u9 => hF ad cI cL cR cD (u9, o, d)) (F1 := xF ad cI cL cR) (f1 := xF ad cI cL cR u) (hL36 hI) lK_x lX_x (fun _ hk => if_pos hk) (fun _ _ hk => if_pos hk) hF_h (fun _ _ h => h) (hM sz)) (cwV 0 hts gL_shortest_X6_shortest rfl rfl rfl (by decide +kernel) ⟨Nat.le_of_ble_eq_true rfl, Nat.le_of_ble_eq_true rfl⟩) (by decide) (ci := 6) rfl rfl rfl (st := [.int (nI 0), .ref (ad 34)]) rfl (Nat.le_of_ble_eq_true rfl) dL_shortest_3 ⟨Nat.le_of_ble_eq_true rfl, Nat.le_of_ble_eq_true rfl⟩ (fun r9 u9 h9 => ?_)
  refine z_i2l C rfl dL_shortest_6 ?_
  refine z_last (q := 34) (len := 1) (k := 0) C hI hK (by decide) rfl 1 rfl rfl (by decide) (by decide) (f' := hF ad cI cL cR cD (u9, (vp_updL o 0 ((r9 : Int32).toInt64)), d)) rfl hF_o dL_shortest_7 ?_
  refine z_goto (tgt := 14) C dL_shortest_8 (by decide) ?_
  refine z_iconst (v := nI 0) C (by decide) dL_shortest_14 ?_
  refine z_widen (k := 1) (q := 6) (Nat.le_of_ble_eq_true rfl) (Nat.le_of_ble_eq_true rfl) ?_
  exact z_iret C hr hlocks hQ ((u9, (vp_updL o 0 ((r9 : Int32).toInt64)), d)) (⟨rfl, r9, h9, (show (vp_updL o 0 ((r9 : Int32).toInt64)) 0 = _ from upL0 rfl)⟩) (fun _ _ => rfl) dL_shortest_15

set_option maxHeartbeats 4000000 in
set_option maxRecDepth 100000 in
theorem h_shortest_t1 (l : Launch) (D : va_G) (ad : Nat → Nat) (cI cL cR cB cD : ClassId) (hI : gI 36 ad) (u : xS) (o : Nat → Int64) (d : Nat → UInt64) (hM : ∀ sz, vx_Met l yX6_shortest wsX6_shortest ({ frames := 7, cells := 1, slots := 6, locals := 110 }) (XP D ad cI cL cR u [.ref (ad 33)] sz) QN (XE D ad cI cL cR eIS u sz) 1 6 (gA 34 ad sz)) : ∀ sz, Met l yL_shortest wsL_shortest ({ frames := 8, cells := 1, slots := 6, locals := 130 }) (HP D ad cI cL cR cB cD (u, o, d) [.ref (ad 33), .ref (ad 34)] sz) (va_Qi (fun r s => r = nI 1 ∧ s = (u, o, d)) (HB D ad cI cL cR cD) (gA 36 ad sz)) 1 6 (gA 36 ad sz) := by
  intro sz
  refine z_metW (cc := cL_shortest) (maxL := 3) (ret := (some .int)) (hh := [(0, 8, 11, 17)]) (by decide) rfl (Nat.le_of_ble_eq_true rfl) ?_
  intro pq lq sq mq aq Qq bq hmq cq C hr hml hown hts hlocks hK hX htab hsz hQ
  subst hsz
  refine z_sub (L' := [(0, .ref (ad 33)), (1, .ref (ad 34))]) [0, 1] rfl ?_
  refine z_aload_n C dL_shortest_0 1 rfl ?_
  refine z_iconst (v := nI 0) C (by decide) dL_shortest_1 ?_
  refine z_aload_n C dL_shortest_2 0 rfl ?_
  refine z_catchV lX_ok C hml hown hts hK hX (fun sz => z_liftX (σ := id) (F := fun u9 => hF ad cI cL cR cD (u9, o, d)) (F1 := xF ad cI cL cR) (f1 := xF ad cI cL cR u) (hL36 hI) lK_x lX_x (fun _ hk => if_pos hk) (fun _ _ hk => if_pos hk) hF_h (hM sz)) (cwV 0 hts gL_shortest_X6_shortest rfl rfl rfl (by decide +kernel) ⟨Nat.le_of_ble_eq_true rfl, Nat.le_of_ble_eq_true rfl⟩) (by decide) (ci := 6) rfl rfl rfl (st := [.int (nI 0), .ref (ad 34)]) rfl (Nat.le_of_ble_eq_true rfl) dL_shortest_3 ⟨Nat.le_of_ble_eq_true rfl, Nat.le_of_ble_eq_true rfl⟩ [] ⟨0, 8, 11, 17⟩ [] (htab.trans rfl) (fun z hz => absurd hz List.not_mem_nil) (by decide) (by decide) (name := eIS) (hts (.classLink RL 17 eIS) (by decide +kernel)) hX.2.1.2.2 (fun q9 u9 h9 => ?_)
  subst h9
  refine z_astore_n (L' := [(2, .ref (q9)), (0, .ref (ad 33)), (1, .ref (ad 34))]) C dL_shortest_11 (by decide) rfl ?_
  refine z_iconst (v := nI 1) C (by decide) dL_shortest_12 ?_
  refine z_widen (k := 1) (q := 6) (Nat.le_of_ble_eq_true rfl) (Nat.le_of_ble_eq_true rfl) ?_
  exact z_iret C hr hlocks hQ ((u9, o, d)) (⟨rfl, rfl⟩) (fun _ _ => rfl) dL_shortest_13

set_option maxHeartbeats 4000000 in
set_option maxRecDepth 100000 in
theorem h_longest_ok (l : Launch) (D : va_G) (ad : Nat → Nat) (cI cL cR cB cD : ClassId) (hI : gI 36 ad) (u : xS) (o : Nat → Int64) (d : Nat → UInt64) (P : Int32 → xS → Prop) (hM : ∀ sz, Met l yX6_longest wsX6_longest ({ frames := 7, cells := 0, slots := 0, locals := 110 }) (XP D ad cI cL cR u [.ref (ad 33)] sz) (va_Qi P (XB D ad cI cL cR) (gA 34 ad sz)) 0 0 (gA 34 ad sz)) : ∀ sz, Met l yL_longest wsL_longest ({ frames := 8, cells := 1, slots := 6, locals := 130 }) (HP D ad cI cL cR cB cD (u, o, d) [.ref (ad 33), .ref (ad 34)] sz) (va_Qi (fun r s => r = nI 0 ∧ ∃ b, P b s.1 ∧ s.2.1 0 = b.toInt64) (HB D ad cI cL cR cD) (gA 36 ad sz)) 1 6 (gA 36 ad sz) := by
  intro sz
  refine z_metW (cc := cL_longest) (maxL := 3) (ret := (some .int)) (hh := [(0, 8, 11, 17)]) (by decide) rfl (Nat.le_of_ble_eq_true rfl) ?_
  intro pq lq sq mq aq Qq bq hmq cq C hr hml hown hts hlocks hK hX htab hsz hQ
  subst hsz
  refine z_sub (L' := [(0, .ref (ad 33)), (1, .ref (ad 34))]) [0, 1] rfl ?_
  refine z_aload_n C dL_longest_0 1 rfl ?_
  refine z_iconst (v := nI 0) C (by decide) dL_longest_1 ?_
  refine z_aload_n C dL_longest_2 0 rfl ?_
  refine z_callVi lX_ok C hml hown hts hK hX (fun sz => z_liftI (σ := id) (F := fun u9 => hF ad cI cL cR cD (u9, o, d)) (F1 := xF ad cI cL cR) (f1 := xF ad cI cL cR u) (hL36 hI) lK_x lX_x (fun _ hk => if_pos hk) (fun _ _ hk => if_pos hk) hF_h (fun _ _ h => h) (hM sz)) (cwV 0 hts gL_longest_X6_longest rfl rfl rfl (by decide +kernel) ⟨Nat.le_of_ble_eq_true rfl, Nat.le_of_ble_eq_true rfl⟩) (by decide) (ci := 6) rfl rfl rfl (st := [.int (nI 0), .ref (ad 34)]) rfl (Nat.le_of_ble_eq_true rfl) dL_longest_3 ⟨Nat.le_of_ble_eq_true rfl, Nat.le_of_ble_eq_true rfl⟩ (fun r9 u9 h9 => ?_)
  refine z_i2l C rfl dL_longest_6 ?_
  refine z_last (q := 34) (len := 1) (k := 0) C hI hK (by decide) rfl 1 rfl rfl (by decide) (by decide) (f' := hF ad cI cL cR cD (u9, (vp_updL o 0 ((r9 : Int32).toInt64)), d)) rfl hF_o dL_longest_7 ?_
  refine z_goto (tgt := 14) C dL_longest_8 (by decide) ?_
  refine z_iconst (v := nI 0) C (by decide) dL_longest_14 ?_
  refine z_widen (k := 1) (q := 6) (Nat.le_of_ble_eq_true rfl) (Nat.le_of_ble_eq_true rfl) ?_
  exact z_iret C hr hlocks hQ ((u9, (vp_updL o 0 ((r9 : Int32).toInt64)), d)) (⟨rfl, r9, h9, (show (vp_updL o 0 ((r9 : Int32).toInt64)) 0 = _ from upL0 rfl)⟩) (fun _ _ => rfl) dL_longest_15

set_option maxHeartbeats 4000000 in
set_option maxRecDepth 100000 in
theorem h_longest_t1 (l : Launch) (D : va_G) (ad : Nat → Nat) (cI cL cR cB cD : ClassId) (hI : gI 36 ad) (u : xS) (o : Nat → Int64) (d : Nat → UInt64) (hM : ∀ sz, vx_Met l yX6_longest wsX6_longest ({ frames := 7, cells := 1, slots := 6, locals := 110 }) (XP D ad cI cL cR u [.ref (ad 33)] sz) QN (XE D ad cI cL cR eIS u sz) 1 6 (gA 34 ad sz)) : ∀ sz, Met l yL_longest wsL_longest ({ frames := 8, cells := 1, slots := 6, locals := 130 }) (HP D ad cI cL cR cB cD (u, o, d) [.ref (ad 33), .ref (ad 34)] sz) (va_Qi (fun r s => r = nI 1 ∧ s = (u, o, d)) (HB D ad cI cL cR cD) (gA 36 ad sz)) 1 6 (gA 36 ad sz) := by
  intro sz
  refine z_metW (cc := cL_longest) (maxL := 3) (ret := (some .int)) (hh := [(0, 8, 11, 17)]) (by decide) rfl (Nat.le_of_ble_eq_true rfl) ?_
  intro pq lq sq mq aq Qq bq hmq cq C hr hml hown hts hlocks hK hX htab hsz hQ
  subst hsz
  refine z_sub (L' := [(0, .ref (ad 33)), (1, .ref (ad 34))]) [0, 1] rfl ?_
  refine z_aload_n C dL_longest_0 1 rfl ?_
  refine z_iconst (v := nI 0) C (by decide) dL_longest_1 ?_
  refine z_aload_n C dL_longest_2 0 rfl ?_
  refine z_catchV lX_ok C hml hown hts hK hX (fun sz => z_liftX (σ := id) (F := fun u9 => hF ad cI cL cR cD (u9, o, d)) (F1 := xF ad cI cL cR) (f1 := xF ad cI cL cR u) (hL36 hI) lK_x lX_x (fun _ hk => if_pos hk) (fun _ _ hk => if_pos hk) hF_h (hM sz)) (cwV 0 hts gL_longest_X6_longest rfl rfl rfl (by decide +kernel) ⟨Nat.le_of_ble_eq_true rfl, Nat.le_of_ble_eq_true rfl⟩) (by decide) (ci := 6) rfl rfl rfl (st := [.int (nI 0), .ref (ad 34)]) rfl (Nat.le_of_ble_eq_true rfl) dL_longest_3 ⟨Nat.le_of_ble_eq_true rfl, Nat.le_of_ble_eq_true rfl⟩ [] ⟨0, 8, 11, 17⟩ [] (htab.trans rfl) (fun z hz => absurd hz List.not_mem_nil) (by decide) (by decide) (name := eIS) (hts (.classLink RL 17 eIS) (by decide +kernel)) hX.2.1.2.2 (fun q9 u9 h9 => ?_)
  subst h9
  refine z_astore_n (L' := [(2, .ref (q9)), (0, .ref (ad 33)), (1, .ref (ad 34))]) C dL_longest_11 (by decide) rfl ?_
  refine z_iconst (v := nI 1) C (by decide) dL_longest_12 ?_
  refine z_widen (k := 1) (q := 6) (Nat.le_of_ble_eq_true rfl) (Nat.le_of_ble_eq_true rfl) ?_
  exact z_iret C hr hlocks hQ ((u9, o, d)) (⟨rfl, rfl⟩) (fun _ _ => rfl) dL_longest_13

set_option maxHeartbeats 4000000 in
set_option maxRecDepth 100000 in
theorem h_ways_ok (l : Launch) (D : va_G) (ad : Nat → Nat) (cI cL cR cB cD : ClassId) (hI : gI 36 ad) (u : xS) (o : Nat → Int64) (d : Nat → UInt64) (P : Int64 → xS → Prop) (hM : ∀ sz, Met l yX6_ways wsX6_ways ({ frames := 7, cells := 0, slots := 0, locals := 110 }) (XP D ad cI cL cR u [.ref (ad 33)] sz) (va_Ql P (XB D ad cI cL cR) (gA 34 ad sz)) 0 0 (gA 34 ad sz)) : ∀ sz, Met l yL_ways wsL_ways ({ frames := 8, cells := 1, slots := 6, locals := 130 }) (HP D ad cI cL cR cB cD (u, o, d) [.ref (ad 33), .ref (ad 34)] sz) (va_Qi (fun r s => r = nI 0 ∧ ∃ b, P b s.1 ∧ s.2.1 0 = b) (HB D ad cI cL cR cD) (gA 36 ad sz)) 1 6 (gA 36 ad sz) := by
  intro sz
  refine z_metW (cc := cL_ways) (maxL := 3) (ret := (some .int)) (hh := [(0, 7, 10, 17)]) (by decide) rfl (Nat.le_of_ble_eq_true rfl) ?_
  intro pq lq sq mq aq Qq bq hmq cq C hr hml hown hts hlocks hK hX htab hsz hQ
  subst hsz
  refine z_sub (L' := [(0, .ref (ad 33)), (1, .ref (ad 34))]) [0, 1] rfl ?_
  refine z_aload_n C dL_ways_0 1 rfl ?_
  refine z_iconst (v := nI 0) C (by decide) dL_ways_1 ?_
  refine z_aload_n C dL_ways_2 0 rfl ?_
  refine z_callVl lX_ok C hml hown hts hK hX (fun sz => z_liftL (σ := id) (F := fun u9 => hF ad cI cL cR cD (u9, o, d)) (F1 := xF ad cI cL cR) (f1 := xF ad cI cL cR u) (hL36 hI) lK_x lX_x (fun _ hk => if_pos hk) (fun _ _ hk => if_pos hk) hF_h (fun _ _ h => h) (hM sz)) (cwV 0 hts gL_ways_X6_ways rfl rfl rfl (by decide +kernel) ⟨Nat.le_of_ble_eq_true rfl, Nat.le_of_ble_eq_true rfl⟩) (by decide) (ci := 6) rfl rfl rfl (st := [.int (nI 0), .ref (ad 34)]) rfl (Nat.le_of_ble_eq_true rfl) dL_ways_3 ⟨Nat.le_of_ble_eq_true rfl, Nat.le_of_ble_eq_true rfl⟩ (fun r9 u9 h9 => ?_)
  refine z_last (q := 34) (len := 1) (k := 0) C hI hK (by decide) rfl 1 rfl rfl (by decide) (by decide) (f' := hF ad cI cL cR cD (u9, (vp_updL o 0 (r9)), d)) rfl hF_o dL_ways_6 ?_
  refine z_goto (tgt := 13) C dL_ways_7 (by decide) ?_
  refine z_iconst (v := nI 0) C (by decide) dL_ways_13 ?_
  refine z_widen (k := 1) (q := 6) (Nat.le_of_ble_eq_true rfl) (Nat.le_of_ble_eq_true rfl) ?_
  exact z_iret C hr hlocks hQ ((u9, (vp_updL o 0 (r9)), d)) (⟨rfl, r9, h9, (show (vp_updL o 0 (r9)) 0 = _ from upL0 rfl)⟩) (fun _ _ => rfl) dL_ways_14

set_option maxHeartbeats 4000000 in
set_option maxRecDepth 100000 in
theorem h_ways_t1 (l : Launch) (D : va_G) (ad : Nat → Nat) (cI cL cR cB cD : ClassId) (hI : gI 36 ad) (u : xS) (o : Nat → Int64) (d : Nat → UInt64) (hM : ∀ sz, vx_Met l yX6_ways wsX6_ways ({ frames := 7, cells := 1, slots := 6, locals := 110 }) (XP D ad cI cL cR u [.ref (ad 33)] sz) QN (XE D ad cI cL cR eIS u sz) 1 6 (gA 34 ad sz)) : ∀ sz, Met l yL_ways wsL_ways ({ frames := 8, cells := 1, slots := 6, locals := 130 }) (HP D ad cI cL cR cB cD (u, o, d) [.ref (ad 33), .ref (ad 34)] sz) (va_Qi (fun r s => r = nI 1 ∧ s = (u, o, d)) (HB D ad cI cL cR cD) (gA 36 ad sz)) 1 6 (gA 36 ad sz) := by
  intro sz
  refine z_metW (cc := cL_ways) (maxL := 3) (ret := (some .int)) (hh := [(0, 7, 10, 17)]) (by decide) rfl (Nat.le_of_ble_eq_true rfl) ?_
  intro pq lq sq mq aq Qq bq hmq cq C hr hml hown hts hlocks hK hX htab hsz hQ
  subst hsz
  refine z_sub (L' := [(0, .ref (ad 33)), (1, .ref (ad 34))]) [0, 1] rfl ?_
  refine z_aload_n C dL_ways_0 1 rfl ?_
  refine z_iconst (v := nI 0) C (by decide) dL_ways_1 ?_
  refine z_aload_n C dL_ways_2 0 rfl ?_
  refine z_catchV lX_ok C hml hown hts hK hX (fun sz => z_liftX (σ := id) (F := fun u9 => hF ad cI cL cR cD (u9, o, d)) (F1 := xF ad cI cL cR) (f1 := xF ad cI cL cR u) (hL36 hI) lK_x lX_x (fun _ hk => if_pos hk) (fun _ _ hk => if_pos hk) hF_h (hM sz)) (cwV 0 hts gL_ways_X6_ways rfl rfl rfl (by decide +kernel) ⟨Nat.le_of_ble_eq_true rfl, Nat.le_of_ble_eq_true rfl⟩) (by decide) (ci := 6) rfl rfl rfl (st := [.int (nI 0), .ref (ad 34)]) rfl (Nat.le_of_ble_eq_true rfl) dL_ways_3 ⟨Nat.le_of_ble_eq_true rfl, Nat.le_of_ble_eq_true rfl⟩ [] ⟨0, 7, 10, 17⟩ [] (htab.trans rfl) (fun z hz => absurd hz List.not_mem_nil) (by decide) (by decide) (name := eIS) (hts (.classLink RL 17 eIS) (by decide +kernel)) hX.2.1.2.2 (fun q9 u9 h9 => ?_)
  subst h9
  refine z_astore_n (L' := [(2, .ref (q9)), (0, .ref (ad 33)), (1, .ref (ad 34))]) C dL_ways_10 (by decide) rfl ?_
  refine z_iconst (v := nI 1) C (by decide) dL_ways_11 ?_
  refine z_widen (k := 1) (q := 6) (Nat.le_of_ble_eq_true rfl) (Nat.le_of_ble_eq_true rfl) ?_
  exact z_iret C hr hlocks hQ ((u9, o, d)) (⟨rfl, rfl⟩) (fun _ _ => rfl) dL_ways_12

set_option maxHeartbeats 4000000 in
set_option maxRecDepth 100000 in
theorem h_isPlayed_ok (l : Launch) (D : va_G) (ad : Nat → Nat) (cI cL cR cB cD : ClassId) (hI : gI 36 ad) (u : xS) (o : Nat → Int64) (d : Nat → UInt64) (x1 : Int32) (P : Int32 → xS → Prop) (hM : ∀ sz, Met l yX6_isPlayed wsX6_isPlayed ({ frames := 7, cells := 0, slots := 0, locals := 112 }) (XP D ad cI cL cR u [.ref (ad 33), .int (x1)] sz) (va_Qi P (XB D ad cI cL cR) (gA 34 ad sz)) 0 0 (gA 34 ad sz)) : ∀ sz, Met l yL_isPlayed wsL_isPlayed ({ frames := 8, cells := 1, slots := 6, locals := 133 }) (HP D ad cI cL cR cB cD (u, o, d) [.ref (ad 33), .int (x1), .ref (ad 34)] sz) (va_Qi (fun r s => r = nI 0 ∧ ∃ b, P b s.1 ∧ s.2.1 0 = (if b = 0 then 0 else 1)) (HB D ad cI cL cR cD) (gA 36 ad sz)) 1 6 (gA 36 ad sz) := by
  intro sz
  refine z_metW (cc := cL_isPlayed) (maxL := 4) (ret := (some .int)) (hh := [(0, 16, 19, 17), (0, 16, 22, 13)]) (by decide) rfl (Nat.le_of_ble_eq_true rfl) ?_
  intro pq lq sq mq aq Qq bq hmq cq C hr hml hown hts hlocks hK hX htab hsz hQ
  subst hsz
  refine z_sub (L' := [(0, .ref (ad 33)), (1, .int (x1)), (2, .ref (ad 34))]) [0, 1, 2] rfl ?_
  refine z_aload_n C dL_isPlayed_0 2 rfl ?_
  refine z_iconst (v := nI 0) C (by decide) dL_isPlayed_1 ?_
  refine z_aload_n C dL_isPlayed_2 0 rfl ?_
  refine z_iload_n C dL_isPlayed_3 1 rfl ?_
  refine z_callVi lX_ok C hml hown hts hK hX (fun sz => z_liftI (σ := id) (F := fun u9 => hF ad cI cL cR cD (u9, o, d)) (F1 := xF ad cI cL cR) (f1 := xF ad cI cL cR u) (hL36 hI) lK_x lX_x (fun _ hk => if_pos hk) (fun _ _ hk => if_pos hk) hF_h (fun _ _ h => h) (hM sz)) (cwV 1 hts gL_isPlayed_X6_isPlayed rfl rfl rfl (by decide +kernel) ⟨Nat.le_of_ble_eq_true rfl, Nat.le_of_ble_eq_true rfl⟩) (by decide) (ci := 6) rfl rfl rfl (st := [.int (nI 0), .ref (ad 34)]) rfl (Nat.le_of_ble_eq_true rfl) dL_isPlayed_4 ⟨Nat.le_of_ble_eq_true rfl, Nat.le_of_ble_eq_true rfl⟩ (fun r9 u9 h9 => ?_)
  refine z_if_eq (tgt := 14) C dL_isPlayed_7 (by decide) (fun zc7 => ?_) (fun zc7 => ?_)
  · skip
    refine z_lconst (v := 0) C (by decide) dL_isPlayed_14 ?_
    refine z_last (q := 34) (len := 1) (k := 0) C hI hK (by decide) rfl 1 rfl rfl (by decide) (by decide) (f' := hF ad cI cL cR cD (u9, (vp_updL o 0 (0)), d)) rfl hF_o dL_isPlayed_15 ?_
    refine z_goto (tgt := 25) C dL_isPlayed_16 (by decide) ?_
    refine z_iconst (v := nI 0) C (by decide) dL_isPlayed_25 ?_
    refine z_widen (k := 1) (q := 6) (Nat.le_of_ble_eq_true rfl) (Nat.le_of_ble_eq_true rfl) ?_
    exact z_iret C hr hlocks hQ ((u9, (vp_updL o 0 (0)), d)) (⟨rfl, r9, h9, (show (vp_updL o 0 (0)) 0 = _ from upL0 (by split <;> first | rfl | contradiction))⟩) (fun _ _ => rfl) dL_isPlayed_26
  · skip
    refine z_lconst (v := 1) C (by decide) dL_isPlayed_10 ?_
    refine z_goto (tgt := 15) C dL_isPlayed_11 (by decide) ?_
    refine z_last (q := 34) (len := 1) (k := 0) C hI hK (by decide) rfl 1 rfl rfl (by decide) (by decide) (f' := hF ad cI cL cR cD (u9, (vp_updL o 0 (1)), d)) rfl hF_o dL_isPlayed_15 ?_
    refine z_goto (tgt := 25) C dL_isPlayed_16 (by decide) ?_
    refine z_iconst (v := nI 0) C (by decide) dL_isPlayed_25 ?_
    refine z_widen (k := 1) (q := 6) (Nat.le_of_ble_eq_true rfl) (Nat.le_of_ble_eq_true rfl) ?_
    exact z_iret C hr hlocks hQ ((u9, (vp_updL o 0 (1)), d)) (⟨rfl, r9, h9, (show (vp_updL o 0 (1)) 0 = _ from upL0 (by split <;> first | rfl | contradiction))⟩) (fun _ _ => rfl) dL_isPlayed_26

set_option maxHeartbeats 4000000 in
set_option maxRecDepth 100000 in
theorem h_isPlayed_t1 (l : Launch) (D : va_G) (ad : Nat → Nat) (cI cL cR cB cD : ClassId) (hI : gI 36 ad) (u : xS) (o : Nat → Int64) (d : Nat → UInt64) (x1 : Int32) (hM : ∀ sz, vx_Met l yX6_isPlayed wsX6_isPlayed ({ frames := 7, cells := 1, slots := 6, locals := 112 }) (XP D ad cI cL cR u [.ref (ad 33), .int (x1)] sz) QN (XE D ad cI cL cR eIS u sz) 1 6 (gA 34 ad sz)) : ∀ sz, Met l yL_isPlayed wsL_isPlayed ({ frames := 8, cells := 1, slots := 6, locals := 133 }) (HP D ad cI cL cR cB cD (u, o, d) [.ref (ad 33), .int (x1), .ref (ad 34)] sz) (va_Qi (fun r s => r = nI 1 ∧ s = (u, o, d)) (HB D ad cI cL cR cD) (gA 36 ad sz)) 1 6 (gA 36 ad sz) := by
  intro sz
  refine z_metW (cc := cL_isPlayed) (maxL := 4) (ret := (some .int)) (hh := [(0, 16, 19, 17), (0, 16, 22, 13)]) (by decide) rfl (Nat.le_of_ble_eq_true rfl) ?_
  intro pq lq sq mq aq Qq bq hmq cq C hr hml hown hts hlocks hK hX htab hsz hQ
  subst hsz
  refine z_sub (L' := [(0, .ref (ad 33)), (1, .int (x1)), (2, .ref (ad 34))]) [0, 1, 2] rfl ?_
  refine z_aload_n C dL_isPlayed_0 2 rfl ?_
  refine z_iconst (v := nI 0) C (by decide) dL_isPlayed_1 ?_
  refine z_aload_n C dL_isPlayed_2 0 rfl ?_
  refine z_iload_n C dL_isPlayed_3 1 rfl ?_
  refine z_catchV lX_ok C hml hown hts hK hX (fun sz => z_liftX (σ := id) (F := fun u9 => hF ad cI cL cR cD (u9, o, d)) (F1 := xF ad cI cL cR) (f1 := xF ad cI cL cR u) (hL36 hI) lK_x lX_x (fun _ hk => if_pos hk) (fun _ _ hk => if_pos hk) hF_h (hM sz)) (cwV 1 hts gL_isPlayed_X6_isPlayed rfl rfl rfl (by decide +kernel) ⟨Nat.le_of_ble_eq_true rfl, Nat.le_of_ble_eq_true rfl⟩) (by decide) (ci := 6) rfl rfl rfl (st := [.int (nI 0), .ref (ad 34)]) rfl (Nat.le_of_ble_eq_true rfl) dL_isPlayed_4 ⟨Nat.le_of_ble_eq_true rfl, Nat.le_of_ble_eq_true rfl⟩ [] ⟨0, 16, 19, 17⟩ [⟨0, 16, 22, 13⟩] (htab.trans rfl) (fun z hz => absurd hz List.not_mem_nil) (by decide) (by decide) (name := eIS) (hts (.classLink RL 17 eIS) (by decide +kernel)) hX.2.1.2.2 (fun q9 u9 h9 => ?_)
  subst h9
  refine z_astore_n (L' := [(3, .ref (q9)), (0, .ref (ad 33)), (1, .int (x1)), (2, .ref (ad 34))]) C dL_isPlayed_19 (by decide) rfl ?_
  refine z_iconst (v := nI 1) C (by decide) dL_isPlayed_20 ?_
  refine z_widen (k := 1) (q := 6) (Nat.le_of_ble_eq_true rfl) (Nat.le_of_ble_eq_true rfl) ?_
  exact z_iret C hr hlocks hQ ((u9, o, d)) (⟨rfl, rfl⟩) (fun _ _ => rfl) dL_isPlayed_21

set_option maxHeartbeats 4000000 in
set_option maxRecDepth 100000 in
theorem h_isPlayed_t2 (l : Launch) (D : va_G) (ad : Nat → Nat) (cI cL cR cB cD : ClassId) (hI : gI 36 ad) (u : xS) (o : Nat → Int64) (d : Nat → UInt64) (x1 : Int32) (hM : ∀ sz, vx_Met l yX6_isPlayed wsX6_isPlayed ({ frames := 7, cells := 1, slots := 6, locals := 112 }) (XP D ad cI cL cR u [.ref (ad 33), .int (x1)] sz) QN (XE D ad cI cL cR eIO u sz) 1 6 (gA 34 ad sz)) : ∀ sz, Met l yL_isPlayed wsL_isPlayed ({ frames := 8, cells := 1, slots := 6, locals := 133 }) (HP D ad cI cL cR cB cD (u, o, d) [.ref (ad 33), .int (x1), .ref (ad 34)] sz) (va_Qi (fun r s => r = nI 2 ∧ s = (u, o, d)) (HB D ad cI cL cR cD) (gA 36 ad sz)) 1 6 (gA 36 ad sz) := by
  intro sz
  refine z_metW (cc := cL_isPlayed) (maxL := 4) (ret := (some .int)) (hh := [(0, 16, 19, 17), (0, 16, 22, 13)]) (by decide) rfl (Nat.le_of_ble_eq_true rfl) ?_
  intro pq lq sq mq aq Qq bq hmq cq C hr hml hown hts hlocks hK hX htab hsz hQ
  subst hsz
  refine z_sub (L' := [(0, .ref (ad 33)), (1, .int (x1)), (2, .ref (ad 34))]) [0, 1, 2] rfl ?_
  refine z_aload_n C dL_isPlayed_0 2 rfl ?_
  refine z_iconst (v := nI 0) C (by decide) dL_isPlayed_1 ?_
  refine z_aload_n C dL_isPlayed_2 0 rfl ?_
  refine z_iload_n C dL_isPlayed_3 1 rfl ?_
  refine z_catchV lX_ok C hml hown hts hK hX (fun sz => z_liftX (σ := id) (F := fun u9 => hF ad cI cL cR cD (u9, o, d)) (F1 := xF ad cI cL cR) (f1 := xF ad cI cL cR u) (hL36 hI) lK_x lX_x (fun _ hk => if_pos hk) (fun _ _ hk => if_pos hk) hF_h (hM sz)) (cwV 1 hts gL_isPlayed_X6_isPlayed rfl rfl rfl (by decide +kernel) ⟨Nat.le_of_ble_eq_true rfl, Nat.le_of_ble_eq_true rfl⟩) (by decide) (ci := 6) rfl rfl rfl (st := [.int (nI 0), .ref (ad 34)]) rfl (Nat.le_of_ble_eq_true rfl) dL_isPlayed_4 ⟨Nat.le_of_ble_eq_true rfl, Nat.le_of_ble_eq_true rfl⟩ [⟨0, 16, 19, 17⟩] ⟨0, 16, 22, 13⟩ [] (htab.trans rfl) (fun z hz => by rw [List.mem_singleton] at hz; subst hz; exact ⟨by decide, eIS, hts (.classLink RL 17 eIS) (by decide +kernel), hX.2.2.2.1⟩) (by decide) (by decide) (name := eIO) (hts (.classLink RL 13 eIO) (by decide +kernel)) hX.2.1.1 (fun q9 u9 h9 => ?_)
  subst h9
  refine z_astore_n (L' := [(3, .ref (q9)), (0, .ref (ad 33)), (1, .int (x1)), (2, .ref (ad 34))]) C dL_isPlayed_22 (by decide) rfl ?_
  refine z_iconst (v := nI 2) C (by decide) dL_isPlayed_23 ?_
  refine z_widen (k := 1) (q := 6) (Nat.le_of_ble_eq_true rfl) (Nat.le_of_ble_eq_true rfl) ?_
  exact z_iret C hr hlocks hQ ((u9, o, d)) (⟨rfl, rfl⟩) (fun _ _ => rfl) dL_isPlayed_24

set_option maxHeartbeats 4000000 in
set_option maxRecDepth 100000 in
theorem h_choice_ok (l : Launch) (D : va_G) (ad : Nat → Nat) (cI cL cR cB cD : ClassId) (hI : gI 36 ad) (u : xS) (o : Nat → Int64) (d : Nat → UInt64) (P : UInt64 → xS → Prop) (hM : ∀ sz, Met l yX6_choice wsX6_choice ({ frames := 7, cells := 0, slots := 0, locals := 110 }) (XP D ad cI cL cR u [.ref (ad 33)] sz) (va_Qd P (XB D ad cI cL cR) (gA 34 ad sz)) 0 0 (gA 34 ad sz)) : ∀ sz, Met l yL_choice wsL_choice ({ frames := 8, cells := 1, slots := 6, locals := 130 }) (HP D ad cI cL cR cB cD (u, o, d) [.ref (ad 33), .ref (ad 35)] sz) (va_Qi (fun r s => r = nI 0 ∧ ∃ b, P b s.1 ∧ s.2.2 0 = b) (HB D ad cI cL cR cD) (gA 36 ad sz)) 1 6 (gA 36 ad sz) := by
  intro sz
  refine z_metW (cc := cL_choice) (maxL := 3) (ret := (some .int)) (hh := [(0, 7, 10, 17)]) (by decide) rfl (Nat.le_of_ble_eq_true rfl) ?_
  intro pq lq sq mq aq Qq bq hmq cq C hr hml hown hts hlocks hK hX htab hsz hQ
  subst hsz
  refine z_sub (L' := [(0, .ref (ad 33)), (1, .ref (ad 35))]) [0, 1] rfl ?_
  refine z_aload_n C dL_choice_0 1 rfl ?_
  refine z_iconst (v := nI 0) C (by decide) dL_choice_1 ?_
  refine z_aload_n C dL_choice_2 0 rfl ?_
  refine z_callVd lX_ok C hml hown hts hK hX (fun sz => z_liftD (σ := id) (F := fun u9 => hF ad cI cL cR cD (u9, o, d)) (F1 := xF ad cI cL cR) (f1 := xF ad cI cL cR u) (hL36 hI) lK_x lX_x (fun _ hk => if_pos hk) (fun _ _ hk => if_pos hk) hF_h (fun _ _ h => h) (hM sz)) (cwV 0 hts gL_choice_X6_choice rfl rfl rfl (by decide +kernel) ⟨Nat.le_of_ble_eq_true rfl, Nat.le_of_ble_eq_true rfl⟩) (by decide) (ci := 6) rfl rfl rfl (st := [.int (nI 0), .ref (ad 35)]) rfl (Nat.le_of_ble_eq_true rfl) dL_choice_3 ⟨Nat.le_of_ble_eq_true rfl, Nat.le_of_ble_eq_true rfl⟩ (fun r9 u9 h9 => ?_)
  refine z_dast (q := 35) (len := 1) (k := 0) C hI hK (by decide) rfl 4 rfl rfl (by decide) (by decide) (f' := hF ad cI cL cR cD (u9, o, (vf_upd d 0 (r9)))) rfl hF_d dL_choice_6 ?_
  refine z_goto (tgt := 13) C dL_choice_7 (by decide) ?_
  refine z_iconst (v := nI 0) C (by decide) dL_choice_13 ?_
  refine z_widen (k := 1) (q := 6) (Nat.le_of_ble_eq_true rfl) (Nat.le_of_ble_eq_true rfl) ?_
  exact z_iret C hr hlocks hQ ((u9, o, (vf_upd d 0 (r9)))) (⟨rfl, r9, h9, (show (vf_upd d 0 (r9)) 0 = _ from upD0)⟩) (fun _ _ => rfl) dL_choice_14

set_option maxHeartbeats 4000000 in
set_option maxRecDepth 100000 in
theorem h_choice_t1 (l : Launch) (D : va_G) (ad : Nat → Nat) (cI cL cR cB cD : ClassId) (hI : gI 36 ad) (u : xS) (o : Nat → Int64) (d : Nat → UInt64) (hM : ∀ sz, vx_Met l yX6_choice wsX6_choice ({ frames := 7, cells := 1, slots := 6, locals := 110 }) (XP D ad cI cL cR u [.ref (ad 33)] sz) QN (XE D ad cI cL cR eIS u sz) 1 6 (gA 34 ad sz)) : ∀ sz, Met l yL_choice wsL_choice ({ frames := 8, cells := 1, slots := 6, locals := 130 }) (HP D ad cI cL cR cB cD (u, o, d) [.ref (ad 33), .ref (ad 35)] sz) (va_Qi (fun r s => r = nI 1 ∧ s = (u, o, d)) (HB D ad cI cL cR cD) (gA 36 ad sz)) 1 6 (gA 36 ad sz) := by
  intro sz
  refine z_metW (cc := cL_choice) (maxL := 3) (ret := (some .int)) (hh := [(0, 7, 10, 17)]) (by decide) rfl (Nat.le_of_ble_eq_true rfl) ?_
  intro pq lq sq mq aq Qq bq hmq cq C hr hml hown hts hlocks hK hX htab hsz hQ
  subst hsz
  refine z_sub (L' := [(0, .ref (ad 33)), (1, .ref (ad 35))]) [0, 1] rfl ?_
  refine z_aload_n C dL_choice_0 1 rfl ?_
  refine z_iconst (v := nI 0) C (by decide) dL_choice_1 ?_
  refine z_aload_n C dL_choice_2 0 rfl ?_
  refine z_catchV lX_ok C hml hown hts hK hX (fun sz => z_liftX (σ := id) (F := fun u9 => hF ad cI cL cR cD (u9, o, d)) (F1 := xF ad cI cL cR) (f1 := xF ad cI cL cR u) (hL36 hI) lK_x lX_x (fun _ hk => if_pos hk) (fun _ _ hk => if_pos hk) hF_h (hM sz)) (cwV 0 hts gL_choice_X6_choice rfl rfl rfl (by decide +kernel) ⟨Nat.le_of_ble_eq_true rfl, Nat.le_of_ble_eq_true rfl⟩) (by decide) (ci := 6) rfl rfl rfl (st := [.int (nI 0), .ref (ad 35)]) rfl (Nat.le_of_ble_eq_true rfl) dL_choice_3 ⟨Nat.le_of_ble_eq_true rfl, Nat.le_of_ble_eq_true rfl⟩ [] ⟨0, 7, 10, 17⟩ [] (htab.trans rfl) (fun z hz => absurd hz List.not_mem_nil) (by decide) (by decide) (name := eIS) (hts (.classLink RL 17 eIS) (by decide +kernel)) hX.2.1.2.2 (fun q9 u9 h9 => ?_)
  subst h9
  refine z_astore_n (L' := [(2, .ref (q9)), (0, .ref (ad 33)), (1, .ref (ad 35))]) C dL_choice_10 (by decide) rfl ?_
  refine z_iconst (v := nI 1) C (by decide) dL_choice_11 ?_
  refine z_widen (k := 1) (q := 6) (Nat.le_of_ble_eq_true rfl) (Nat.le_of_ble_eq_true rfl) ?_
  exact z_iret C hr hlocks hQ ((u9, o, d)) (⟨rfl, rfl⟩) (fun _ _ => rfl) dL_choice_12

set_option maxHeartbeats 4000000 in
set_option maxRecDepth 100000 in
theorem h_canTrigger_ok (l : Launch) (D : va_G) (ad : Nat → Nat) (cI cL cR cB cD : ClassId) (hI : gI 36 ad) (u : xS) (o : Nat → Int64) (d : Nat → UInt64) (x1 : Int32) (P : Int32 → xS → Prop) (hM : ∀ sz, Met l yX6_canTrigger wsX6_canTrigger ({ frames := 7, cells := 0, slots := 0, locals := 112 }) (XP D ad cI cL cR u [.ref (ad 33), .int (x1)] sz) (va_Qi P (XB D ad cI cL cR) (gA 34 ad sz)) 0 0 (gA 34 ad sz)) : ∀ sz, Met l yL_canTrigger wsL_canTrigger ({ frames := 8, cells := 1, slots := 6, locals := 133 }) (HP D ad cI cL cR cB cD (u, o, d) [.ref (ad 33), .int (x1), .ref (ad 34)] sz) (va_Qi (fun r s => r = nI 0 ∧ ∃ b, P b s.1 ∧ s.2.1 0 = b.toInt64) (HB D ad cI cL cR cD) (gA 36 ad sz)) 1 6 (gA 36 ad sz) := by
  intro sz
  refine z_metW (cc := cL_canTrigger) (maxL := 4) (ret := (some .int)) (hh := [(0, 9, 12, 13)]) (by decide) rfl (Nat.le_of_ble_eq_true rfl) ?_
  intro pq lq sq mq aq Qq bq hmq cq C hr hml hown hts hlocks hK hX htab hsz hQ
  subst hsz
  refine z_sub (L' := [(0, .ref (ad 33)), (1, .int (x1)), (2, .ref (ad 34))]) [0, 1, 2] rfl ?_
  refine z_aload_n C dL_canTrigger_0 2 rfl ?_
  refine z_iconst (v := nI 0) C (by decide) dL_canTrigger_1 ?_
  refine z_aload_n C dL_canTrigger_2 0 rfl ?_
  refine z_iload_n C dL_canTrigger_3 1 rfl ?_
  refine z_callVi lX_ok C hml hown hts hK hX (fun sz => z_liftI (σ := id) (F := fun u9 => hF ad cI cL cR cD (u9, o, d)) (F1 := xF ad cI cL cR) (f1 := xF ad cI cL cR u) (hL36 hI) lK_x lX_x (fun _ hk => if_pos hk) (fun _ _ hk => if_pos hk) hF_h (fun _ _ h => h) (hM sz)) (cwV 1 hts gL_canTrigger_X6_canTrigger rfl rfl rfl (by decide +kernel) ⟨Nat.le_of_ble_eq_true rfl, Nat.le_of_ble_eq_true rfl⟩) (by decide) (ci := 6) rfl rfl rfl (st := [.int (nI 0), .ref (ad 34)]) rfl (Nat.le_of_ble_eq_true rfl) dL_canTrigger_4 ⟨Nat.le_of_ble_eq_true rfl, Nat.le_of_ble_eq_true rfl⟩ (fun r9 u9 h9 => ?_)
  refine z_i2l C rfl dL_canTrigger_7 ?_
  refine z_last (q := 34) (len := 1) (k := 0) C hI hK (by decide) rfl 1 rfl rfl (by decide) (by decide) (f' := hF ad cI cL cR cD (u9, (vp_updL o 0 ((r9 : Int32).toInt64)), d)) rfl hF_o dL_canTrigger_8 ?_
  refine z_goto (tgt := 15) C dL_canTrigger_9 (by decide) ?_
  refine z_iconst (v := nI 0) C (by decide) dL_canTrigger_15 ?_
  refine z_widen (k := 1) (q := 6) (Nat.le_of_ble_eq_true rfl) (Nat.le_of_ble_eq_true rfl) ?_
  exact z_iret C hr hlocks hQ ((u9, (vp_updL o 0 ((r9 : Int32).toInt64)), d)) (⟨rfl, r9, h9, (show (vp_updL o 0 ((r9 : Int32).toInt64)) 0 = _ from upL0 rfl)⟩) (fun _ _ => rfl) dL_canTrigger_16

set_option maxHeartbeats 4000000 in
set_option maxRecDepth 100000 in
theorem h_canTrigger_t1 (l : Launch) (D : va_G) (ad : Nat → Nat) (cI cL cR cB cD : ClassId) (hI : gI 36 ad) (u : xS) (o : Nat → Int64) (d : Nat → UInt64) (x1 : Int32) (hM : ∀ sz, vx_Met l yX6_canTrigger wsX6_canTrigger ({ frames := 7, cells := 1, slots := 6, locals := 112 }) (XP D ad cI cL cR u [.ref (ad 33), .int (x1)] sz) QN (XE D ad cI cL cR eIO u sz) 1 6 (gA 34 ad sz)) : ∀ sz, Met l yL_canTrigger wsL_canTrigger ({ frames := 8, cells := 1, slots := 6, locals := 133 }) (HP D ad cI cL cR cB cD (u, o, d) [.ref (ad 33), .int (x1), .ref (ad 34)] sz) (va_Qi (fun r s => r = nI 1 ∧ s = (u, o, d)) (HB D ad cI cL cR cD) (gA 36 ad sz)) 1 6 (gA 36 ad sz) := by
  intro sz
  refine z_metW (cc := cL_canTrigger) (maxL := 4) (ret := (some .int)) (hh := [(0, 9, 12, 13)]) (by decide) rfl (Nat.le_of_ble_eq_true rfl) ?_
  intro pq lq sq mq aq Qq bq hmq cq C hr hml hown hts hlocks hK hX htab hsz hQ
  subst hsz
  refine z_sub (L' := [(0, .ref (ad 33)), (1, .int (x1)), (2, .ref (ad 34))]) [0, 1, 2] rfl ?_
  refine z_aload_n C dL_canTrigger_0 2 rfl ?_
  refine z_iconst (v := nI 0) C (by decide) dL_canTrigger_1 ?_
  refine z_aload_n C dL_canTrigger_2 0 rfl ?_
  refine z_iload_n C dL_canTrigger_3 1 rfl ?_
  refine z_catchV lX_ok C hml hown hts hK hX (fun sz => z_liftX (σ := id) (F := fun u9 => hF ad cI cL cR cD (u9, o, d)) (F1 := xF ad cI cL cR) (f1 := xF ad cI cL cR u) (hL36 hI) lK_x lX_x (fun _ hk => if_pos hk) (fun _ _ hk => if_pos hk) hF_h (hM sz)) (cwV 1 hts gL_canTrigger_X6_canTrigger rfl rfl rfl (by decide +kernel) ⟨Nat.le_of_ble_eq_true rfl, Nat.le_of_ble_eq_true rfl⟩) (by decide) (ci := 6) rfl rfl rfl (st := [.int (nI 0), .ref (ad 34)]) rfl (Nat.le_of_ble_eq_true rfl) dL_canTrigger_4 ⟨Nat.le_of_ble_eq_true rfl, Nat.le_of_ble_eq_true rfl⟩ [] ⟨0, 9, 12, 13⟩ [] (htab.trans rfl) (fun z hz => absurd hz List.not_mem_nil) (by decide) (by decide) (name := eIO) (hts (.classLink RL 13 eIO) (by decide +kernel)) hX.2.1.1 (fun q9 u9 h9 => ?_)
  subst h9
  refine z_astore_n (L' := [(3, .ref (q9)), (0, .ref (ad 33)), (1, .int (x1)), (2, .ref (ad 34))]) C dL_canTrigger_12 (by decide) rfl ?_
  refine z_iconst (v := nI 1) C (by decide) dL_canTrigger_13 ?_
  refine z_widen (k := 1) (q := 6) (Nat.le_of_ble_eq_true rfl) (Nat.le_of_ble_eq_true rfl) ?_
  exact z_iret C hr hlocks hQ ((u9, o, d)) (⟨rfl, rfl⟩) (fun _ _ => rfl) dL_canTrigger_14

set_option maxHeartbeats 4000000 in
set_option maxRecDepth 100000 in
theorem h_commute_ok (l : Launch) (D : va_G) (ad : Nat → Nat) (cI cL cR cB cD : ClassId) (hI : gI 36 ad) (u : xS) (o : Nat → Int64) (d : Nat → UInt64) (x1 x2 : Int32) (P : Int32 → xS → Prop) (hM : ∀ sz, Met l yX6_commute wsX6_commute ({ frames := 7, cells := 0, slots := 0, locals := 112 }) (XP D ad cI cL cR u [.ref (ad 33), .int (x1), .int (x2)] sz) (va_Qi P (XB D ad cI cL cR) (gA 34 ad sz)) 0 0 (gA 34 ad sz)) : ∀ sz, Met l yL_commute wsL_commute ({ frames := 8, cells := 1, slots := 6, locals := 136 }) (HP D ad cI cL cR cB cD (u, o, d) [.ref (ad 33), .int (x1), .int (x2), .ref (ad 34)] sz) (va_Qi (fun r s => r = nI 0 ∧ ∃ b, P b s.1 ∧ s.2.1 0 = (if b = 0 then 0 else 1)) (HB D ad cI cL cR cD) (gA 36 ad sz)) 1 6 (gA 36 ad sz) := by
  intro sz
  refine z_metW (cc := cL_commute) (maxL := 5) (ret := (some .int)) (hh := [(0, 17, 20, 13), (0, 17, 24, 15)]) (by decide) rfl (Nat.le_of_ble_eq_true rfl) ?_
  intro pq lq sq mq aq Qq bq hmq cq C hr hml hown hts hlocks hK hX htab hsz hQ
  subst hsz
  refine z_sub (L' := [(0, .ref (ad 33)), (1, .int (x1)), (2, .int (x2)), (3, .ref (ad 34))]) [0, 1, 2, 3] rfl ?_
  refine z_aload_n C dL_commute_0 3 rfl ?_
  refine z_iconst (v := nI 0) C (by decide) dL_commute_1 ?_
  refine z_aload_n C dL_commute_2 0 rfl ?_
  refine z_iload_n C dL_commute_3 1 rfl ?_
  refine z_iload_n C dL_commute_4 2 rfl ?_
  refine z_callVi lX_ok C hml hown hts hK hX (fun sz => z_liftI (σ := id) (F := fun u9 => hF ad cI cL cR cD (u9, o, d)) (F1 := xF ad cI cL cR) (f1 := xF ad cI cL cR u) (hL36 hI) lK_x lX_x (fun _ hk => if_pos hk) (fun _ _ hk => if_pos hk) hF_h (fun _ _ h => h) (hM sz)) (cwV 2 hts gL_commute_X6_commute rfl rfl rfl (by decide +kernel) ⟨Nat.le_of_ble_eq_true rfl, Nat.le_of_ble_eq_true rfl⟩) (by decide) (ci := 6) rfl rfl rfl (st := [.int (nI 0), .ref (ad 34)]) rfl (Nat.le_of_ble_eq_true rfl) dL_commute_5 ⟨Nat.le_of_ble_eq_true rfl, Nat.le_of_ble_eq_true rfl⟩ (fun r9 u9 h9 => ?_)
  refine z_if_eq (tgt := 15) C dL_commute_8 (by decide) (fun zc8 => ?_) (fun zc8 => ?_)
  · skip
    refine z_lconst (v := 0) C (by decide) dL_commute_15 ?_
    refine z_last (q := 34) (len := 1) (k := 0) C hI hK (by decide) rfl 1 rfl rfl (by decide) (by decide) (f' := hF ad cI cL cR cD (u9, (vp_updL o 0 (0)), d)) rfl hF_o dL_commute_16 ?_
    refine z_goto (tgt := 28) C dL_commute_17 (by decide) ?_
    refine z_iconst (v := nI 0) C (by decide) dL_commute_28 ?_
    refine z_widen (k := 1) (q := 6) (Nat.le_of_ble_eq_true rfl) (Nat.le_of_ble_eq_true rfl) ?_
    exact z_iret C hr hlocks hQ ((u9, (vp_updL o 0 (0)), d)) (⟨rfl, r9, h9, (show (vp_updL o 0 (0)) 0 = _ from upL0 (by split <;> first | rfl | contradiction))⟩) (fun _ _ => rfl) dL_commute_29
  · skip
    refine z_lconst (v := 1) C (by decide) dL_commute_11 ?_
    refine z_goto (tgt := 16) C dL_commute_12 (by decide) ?_
    refine z_last (q := 34) (len := 1) (k := 0) C hI hK (by decide) rfl 1 rfl rfl (by decide) (by decide) (f' := hF ad cI cL cR cD (u9, (vp_updL o 0 (1)), d)) rfl hF_o dL_commute_16 ?_
    refine z_goto (tgt := 28) C dL_commute_17 (by decide) ?_
    refine z_iconst (v := nI 0) C (by decide) dL_commute_28 ?_
    refine z_widen (k := 1) (q := 6) (Nat.le_of_ble_eq_true rfl) (Nat.le_of_ble_eq_true rfl) ?_
    exact z_iret C hr hlocks hQ ((u9, (vp_updL o 0 (1)), d)) (⟨rfl, r9, h9, (show (vp_updL o 0 (1)) 0 = _ from upL0 (by split <;> first | rfl | contradiction))⟩) (fun _ _ => rfl) dL_commute_29

set_option maxHeartbeats 4000000 in
set_option maxRecDepth 100000 in
theorem h_commute_t1 (l : Launch) (D : va_G) (ad : Nat → Nat) (cI cL cR cB cD : ClassId) (hI : gI 36 ad) (u : xS) (o : Nat → Int64) (d : Nat → UInt64) (x1 x2 : Int32) (hM : ∀ sz, vx_Met l yX6_commute wsX6_commute ({ frames := 7, cells := 1, slots := 6, locals := 112 }) (XP D ad cI cL cR u [.ref (ad 33), .int (x1), .int (x2)] sz) QN (XE D ad cI cL cR eIO u sz) 1 6 (gA 34 ad sz)) : ∀ sz, Met l yL_commute wsL_commute ({ frames := 8, cells := 1, slots := 6, locals := 136 }) (HP D ad cI cL cR cB cD (u, o, d) [.ref (ad 33), .int (x1), .int (x2), .ref (ad 34)] sz) (va_Qi (fun r s => r = nI 1 ∧ s = (u, o, d)) (HB D ad cI cL cR cD) (gA 36 ad sz)) 1 6 (gA 36 ad sz) := by
  intro sz
  refine z_metW (cc := cL_commute) (maxL := 5) (ret := (some .int)) (hh := [(0, 17, 20, 13), (0, 17, 24, 15)]) (by decide) rfl (Nat.le_of_ble_eq_true rfl) ?_
  intro pq lq sq mq aq Qq bq hmq cq C hr hml hown hts hlocks hK hX htab hsz hQ
  subst hsz
  refine z_sub (L' := [(0, .ref (ad 33)), (1, .int (x1)), (2, .int (x2)), (3, .ref (ad 34))]) [0, 1, 2, 3] rfl ?_
  refine z_aload_n C dL_commute_0 3 rfl ?_
  refine z_iconst (v := nI 0) C (by decide) dL_commute_1 ?_
  refine z_aload_n C dL_commute_2 0 rfl ?_
  refine z_iload_n C dL_commute_3 1 rfl ?_
  refine z_iload_n C dL_commute_4 2 rfl ?_
  refine z_catchV lX_ok C hml hown hts hK hX (fun sz => z_liftX (σ := id) (F := fun u9 => hF ad cI cL cR cD (u9, o, d)) (F1 := xF ad cI cL cR) (f1 := xF ad cI cL cR u) (hL36 hI) lK_x lX_x (fun _ hk => if_pos hk) (fun _ _ hk => if_pos hk) hF_h (hM sz)) (cwV 2 hts gL_commute_X6_commute rfl rfl rfl (by decide +kernel) ⟨Nat.le_of_ble_eq_true rfl, Nat.le_of_ble_eq_true rfl⟩) (by decide) (ci := 6) rfl rfl rfl (st := [.int (nI 0), .ref (ad 34)]) rfl (Nat.le_of_ble_eq_true rfl) dL_commute_5 ⟨Nat.le_of_ble_eq_true rfl, Nat.le_of_ble_eq_true rfl⟩ [] ⟨0, 17, 20, 13⟩ [⟨0, 17, 24, 15⟩] (htab.trans rfl) (fun z hz => absurd hz List.not_mem_nil) (by decide) (by decide) (name := eIO) (hts (.classLink RL 13 eIO) (by decide +kernel)) hX.2.1.1 (fun q9 u9 h9 => ?_)
  subst h9
  refine z_astore (L' := [(4, .ref (q9)), (0, .ref (ad 33)), (1, .int (x1)), (2, .int (x2)), (3, .ref (ad 34))]) C dL_commute_20 (by decide) rfl ?_
  refine z_iconst (v := nI 1) C (by decide) dL_commute_22 ?_
  refine z_widen (k := 1) (q := 6) (Nat.le_of_ble_eq_true rfl) (Nat.le_of_ble_eq_true rfl) ?_
  exact z_iret C hr hlocks hQ ((u9, o, d)) (⟨rfl, rfl⟩) (fun _ _ => rfl) dL_commute_23

set_option maxHeartbeats 4000000 in
set_option maxRecDepth 100000 in
theorem h_commute_t2 (l : Launch) (D : va_G) (ad : Nat → Nat) (cI cL cR cB cD : ClassId) (hI : gI 36 ad) (u : xS) (o : Nat → Int64) (d : Nat → UInt64) (x1 x2 : Int32) (hM : ∀ sz, vx_Met l yX6_commute wsX6_commute ({ frames := 7, cells := 1, slots := 6, locals := 112 }) (XP D ad cI cL cR u [.ref (ad 33), .int (x1), .int (x2)] sz) QN (XE D ad cI cL cR eIA u sz) 1 6 (gA 34 ad sz)) : ∀ sz, Met l yL_commute wsL_commute ({ frames := 8, cells := 1, slots := 6, locals := 136 }) (HP D ad cI cL cR cB cD (u, o, d) [.ref (ad 33), .int (x1), .int (x2), .ref (ad 34)] sz) (va_Qi (fun r s => r = nI 2 ∧ s = (u, o, d)) (HB D ad cI cL cR cD) (gA 36 ad sz)) 1 6 (gA 36 ad sz) := by
  intro sz
  refine z_metW (cc := cL_commute) (maxL := 5) (ret := (some .int)) (hh := [(0, 17, 20, 13), (0, 17, 24, 15)]) (by decide) rfl (Nat.le_of_ble_eq_true rfl) ?_
  intro pq lq sq mq aq Qq bq hmq cq C hr hml hown hts hlocks hK hX htab hsz hQ
  subst hsz
  refine z_sub (L' := [(0, .ref (ad 33)), (1, .int (x1)), (2, .int (x2)), (3, .ref (ad 34))]) [0, 1, 2, 3] rfl ?_
  refine z_aload_n C dL_commute_0 3 rfl ?_
  refine z_iconst (v := nI 0) C (by decide) dL_commute_1 ?_
  refine z_aload_n C dL_commute_2 0 rfl ?_
  refine z_iload_n C dL_commute_3 1 rfl ?_
  refine z_iload_n C dL_commute_4 2 rfl ?_
  refine z_catchV lX_ok C hml hown hts hK hX (fun sz => z_liftX (σ := id) (F := fun u9 => hF ad cI cL cR cD (u9, o, d)) (F1 := xF ad cI cL cR) (f1 := xF ad cI cL cR u) (hL36 hI) lK_x lX_x (fun _ hk => if_pos hk) (fun _ _ hk => if_pos hk) hF_h (hM sz)) (cwV 2 hts gL_commute_X6_commute rfl rfl rfl (by decide +kernel) ⟨Nat.le_of_ble_eq_true rfl, Nat.le_of_ble_eq_true rfl⟩) (by decide) (ci := 6) rfl rfl rfl (st := [.int (nI 0), .ref (ad 34)]) rfl (Nat.le_of_ble_eq_true rfl) dL_commute_5 ⟨Nat.le_of_ble_eq_true rfl, Nat.le_of_ble_eq_true rfl⟩ [⟨0, 17, 20, 13⟩] ⟨0, 17, 24, 15⟩ [] (htab.trans rfl) (fun z hz => by rw [List.mem_singleton] at hz; subst hz; exact ⟨by decide, eIO, hts (.classLink RL 13 eIO) (by decide +kernel), hX.2.2.2.2.1⟩) (by decide) (by decide) (name := eIA) (hts (.classLink RL 15 eIA) (by decide +kernel)) hX.2.1.2.1 (fun q9 u9 h9 => ?_)
  subst h9
  refine z_astore (L' := [(4, .ref (q9)), (0, .ref (ad 33)), (1, .int (x1)), (2, .int (x2)), (3, .ref (ad 34))]) C dL_commute_24 (by decide) rfl ?_
  refine z_iconst (v := nI 2) C (by decide) dL_commute_26 ?_
  refine z_widen (k := 1) (q := 6) (Nat.le_of_ble_eq_true rfl) (Nat.le_of_ble_eq_true rfl) ?_
  exact z_iret C hr hlocks hQ ((u9, o, d)) (⟨rfl, rfl⟩) (fun _ _ => rfl) dL_commute_27

set_option maxHeartbeats 4000000 in
set_option maxRecDepth 100000 in
theorem h_conflict_ok (l : Launch) (D : va_G) (ad : Nat → Nat) (cI cL cR cB cD : ClassId) (hI : gI 36 ad) (u : xS) (o : Nat → Int64) (d : Nat → UInt64) (x1 : Int32) (P : Int32 → xS → Prop) (hM : ∀ sz, Met l yX6_conflict wsX6_conflict ({ frames := 6, cells := 0, slots := 0, locals := 115 }) (XP D ad cI cL cR u [.ref (ad 33), .int (x1)] sz) (va_Qi P (XB D ad cI cL cR) (gA 34 ad sz)) 0 0 (gA 34 ad sz)) : ∀ sz, Met l yL_conflict wsL_conflict ({ frames := 7, cells := 1, slots := 6, locals := 137 }) (HP D ad cI cL cR cB cD (u, o, d) [.ref (ad 33), .int (x1), .ref (ad 34)] sz) (va_Qi (fun r s => r = nI 0 ∧ ∃ b, P b s.1 ∧ s.2.1 0 = b.toInt64) (HB D ad cI cL cR cD) (gA 36 ad sz)) 1 6 (gA 36 ad sz) := by
  intro sz
  refine z_metW (cc := cL_conflict) (maxL := 4) (ret := (some .int)) (hh := [(0, 9, 12, 13)]) (by decide) rfl (Nat.le_of_ble_eq_true rfl) ?_
  intro pq lq sq mq aq Qq bq hmq cq C hr hml hown hts hlocks hK hX htab hsz hQ
  subst hsz
  refine z_sub (L' := [(0, .ref (ad 33)), (1, .int (x1)), (2, .ref (ad 34))]) [0, 1, 2] rfl ?_
  refine z_aload_n C dL_conflict_0 2 rfl ?_
  refine z_iconst (v := nI 0) C (by decide) dL_conflict_1 ?_
  refine z_aload_n C dL_conflict_2 0 rfl ?_
  refine z_iload_n C dL_conflict_3 1 rfl ?_
  refine z_callVi lX_ok C hml hown hts hK hX (fun sz => z_liftI (σ := id) (F := fun u9 => hF ad cI cL cR cD (u9, o, d)) (F1 := xF ad cI cL cR) (f1 := xF ad cI cL cR u) (hL36 hI) lK_x lX_x (fun _ hk => if_pos hk) (fun _ _ hk => if_pos hk) hF_h (fun _ _ h => h) (hM sz)) (cwV 1 hts gL_conflict_X6_conflict rfl rfl rfl (by decide +kernel) ⟨Nat.le_of_ble_eq_true rfl, Nat.le_of_ble_eq_true rfl⟩) (by decide) (ci := 6) rfl rfl rfl (st := [.int (nI 0), .ref (ad 34)]) rfl (Nat.le_of_ble_eq_true rfl) dL_conflict_4 ⟨Nat.le_of_ble_eq_true rfl, Nat.le_of_ble_eq_true rfl⟩ (fun r9 u9 h9 => ?_)
  refine z_i2l C rfl dL_conflict_7 ?_
  refine z_last (q := 34) (len := 1) (k := 0) C hI hK (by decide) rfl 1 rfl rfl (by decide) (by decide) (f' := hF ad cI cL cR cD (u9, (vp_updL o 0 ((r9 : Int32).toInt64)), d)) rfl hF_o dL_conflict_8 ?_
  refine z_goto (tgt := 15) C dL_conflict_9 (by decide) ?_
  refine z_iconst (v := nI 0) C (by decide) dL_conflict_15 ?_
  refine z_widen (k := 1) (q := 6) (Nat.le_of_ble_eq_true rfl) (Nat.le_of_ble_eq_true rfl) ?_
  exact z_iret C hr hlocks hQ ((u9, (vp_updL o 0 ((r9 : Int32).toInt64)), d)) (⟨rfl, r9, h9, (show (vp_updL o 0 ((r9 : Int32).toInt64)) 0 = _ from upL0 rfl)⟩) (fun _ _ => rfl) dL_conflict_16

set_option maxHeartbeats 4000000 in
set_option maxRecDepth 100000 in
theorem h_conflict_t1 (l : Launch) (D : va_G) (ad : Nat → Nat) (cI cL cR cB cD : ClassId) (hI : gI 36 ad) (u : xS) (o : Nat → Int64) (d : Nat → UInt64) (x1 : Int32) (hM : ∀ sz, vx_Met l yX6_conflict wsX6_conflict ({ frames := 6, cells := 1, slots := 6, locals := 115 }) (XP D ad cI cL cR u [.ref (ad 33), .int (x1)] sz) QN (XE D ad cI cL cR eIO u sz) 1 6 (gA 34 ad sz)) : ∀ sz, Met l yL_conflict wsL_conflict ({ frames := 7, cells := 1, slots := 6, locals := 137 }) (HP D ad cI cL cR cB cD (u, o, d) [.ref (ad 33), .int (x1), .ref (ad 34)] sz) (va_Qi (fun r s => r = nI 1 ∧ s = (u, o, d)) (HB D ad cI cL cR cD) (gA 36 ad sz)) 1 6 (gA 36 ad sz) := by
  intro sz
  refine z_metW (cc := cL_conflict) (maxL := 4) (ret := (some .int)) (hh := [(0, 9, 12, 13)]) (by decide) rfl (Nat.le_of_ble_eq_true rfl) ?_
  intro pq lq sq mq aq Qq bq hmq cq C hr hml hown hts hlocks hK hX htab hsz hQ
  subst hsz
  refine z_sub (L' := [(0, .ref (ad 33)), (1, .int (x1)), (2, .ref (ad 34))]) [0, 1, 2] rfl ?_
  refine z_aload_n C dL_conflict_0 2 rfl ?_
  refine z_iconst (v := nI 0) C (by decide) dL_conflict_1 ?_
  refine z_aload_n C dL_conflict_2 0 rfl ?_
  refine z_iload_n C dL_conflict_3 1 rfl ?_
  refine z_catchV lX_ok C hml hown hts hK hX (fun sz => z_liftX (σ := id) (F := fun u9 => hF ad cI cL cR cD (u9, o, d)) (F1 := xF ad cI cL cR) (f1 := xF ad cI cL cR u) (hL36 hI) lK_x lX_x (fun _ hk => if_pos hk) (fun _ _ hk => if_pos hk) hF_h (hM sz)) (cwV 1 hts gL_conflict_X6_conflict rfl rfl rfl (by decide +kernel) ⟨Nat.le_of_ble_eq_true rfl, Nat.le_of_ble_eq_true rfl⟩) (by decide) (ci := 6) rfl rfl rfl (st := [.int (nI 0), .ref (ad 34)]) rfl (Nat.le_of_ble_eq_true rfl) dL_conflict_4 ⟨Nat.le_of_ble_eq_true rfl, Nat.le_of_ble_eq_true rfl⟩ [] ⟨0, 9, 12, 13⟩ [] (htab.trans rfl) (fun z hz => absurd hz List.not_mem_nil) (by decide) (by decide) (name := eIO) (hts (.classLink RL 13 eIO) (by decide +kernel)) hX.2.1.1 (fun q9 u9 h9 => ?_)
  subst h9
  refine z_astore_n (L' := [(3, .ref (q9)), (0, .ref (ad 33)), (1, .int (x1)), (2, .ref (ad 34))]) C dL_conflict_12 (by decide) rfl ?_
  refine z_iconst (v := nI 1) C (by decide) dL_conflict_13 ?_
  refine z_widen (k := 1) (q := 6) (Nat.le_of_ble_eq_true rfl) (Nat.le_of_ble_eq_true rfl) ?_
  exact z_iret C hr hlocks hQ ((u9, o, d)) (⟨rfl, rfl⟩) (fun _ _ => rfl) dL_conflict_14
