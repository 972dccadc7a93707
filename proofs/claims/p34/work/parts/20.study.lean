set_option maxHeartbeats 4000000 in
set_option maxRecDepth 100000 in
theorem c_X3_take (l : Launch) (D : va_G) (ad : Nat → Nat) (cI cL cR : ClassId) (hI : gI 34 ad) (u : xS) (c : Nat) (N : Nat → Nat) (hG : gRep u c N) (hg : gOk c N) (K : kS) (t : Nat) (hk : kRep u c K) (hI9 : kI c N K t 0) (ht : t < K.2.2.2.2.1) : ∀ sz, Met l yX3_take wsX3_take ({ frames := 2, cells := 0, slots := 0, locals := 45 }) (XP D ad cI cL cR u [.ref (ad 28), .ref (ad 21), .int (nI (K.2.2.2.1 t))] sz) (va_Qv (fun u' => kRep u' c (kStep N K (K.2.2.2.1 t)) ∧ kFr u u') (XB D ad cI cL cR) (gA 34 ad sz)) 0 0 (gA 34 ad sz) := by
  intro sz
  refine z_met (cc := cX3_take) (maxL := 6) (ret := none) (by decide) rfl (Nat.le_of_ble_eq_true rfl) ?_
  intro pq lq sq mq aq Qq bq hmq cq C hr hml hown hts hlocks hK hX hsz hQ
  subst hsz
  have hT3 : ∀ w ∈ wsX30, w.before aq sq = true := fun w h => hts w ((by decide +kernel : ∀ w ∈ wsX30, w ∈ wsX3_take) w h)
  refine z_sub (L' := [(0, .ref (ad 28)), (1, .ref (ad 21)), (2, .int (nI (K.2.2.2.1 t)))]) [0, 1, 2] rfl ?_
  have hx := hI9.1.1.2.1 t ht
  have hqc := hI9.1.1.1
  have hc9 := hG.1
  refine z_iload_n C dX3_take_0 2 rfl ?_
  refine z_if_lt (tgt := 11) C dX3_take_1 (by decide) (fun zc1 => ?_) (fun zc1 => ?_)
  · skip
    exact (zneg (by omega) zc1).elim
  · skip
    refine z_iload_n C dX3_take_4 2 rfl ?_
    refine z_sipush (v := nI 1000) C (by decide) dX3_take_5 ?_
    refine z_icmp_lt (tgt := 12) C dX3_take_8 (by decide) (fun zc8 => ?_) (fun zc8 => ?_)
    · skip
      have zn8 := zlt_t (a := K.2.2.2.1 t) (b := 1000) (by omega) (by omega) zc8
      refine z_iconst (v := nI 1) C (by decide) dX3_take_12 ?_
      refine z_istore_n (L' := [(3, .int (nI 1)), (0, .ref (ad 28)), (1, .ref (ad 21)), (2, .int (nI (K.2.2.2.1 t)))]) C dX3_take_13 (by decide) rfl ?_
      refine z_iconst (v := nI 0) C (by decide) dX3_take_14 ?_
      refine z_istore (L' := [(4, .int (nI 0)), (3, .int (nI 1)), (0, .ref (ad 28)), (1, .ref (ad 21)), (2, .int (nI (K.2.2.2.1 t)))]) C dX3_take_15 (by decide) rfl ?_
      have loop17 : ∀ (d17 : Nat) (r : Nat) (w : xS) (f9 : Int32), 8 - r < d17 → (r ≤ 8) → (kRep w c (kTake N K (K.2.2.2.1 t) r)) → (kFr u w) → (f9 = if nEr N (K.2.2.2.1 t) r = 0 then 1 else 0) → ZZ pq l lq { frames := 2, cells := 0, slots := 0, locals := 45 } sq mq aq bq hmq cq D vwCl 34 ad 6 0 0 Qq (xF ad cI cL cR w) [(0, .ref (ad 28)), (1, .ref (ad 21)), (2, .int (nI (K.2.2.2.1 t))), (3, .int (f9)), (4, .int (nI r))] 17 [] := by
        intro d17
        induction d17 with
        | zero => intro r w f9 hz; exact absurd hz (Nat.not_lt_zero _)
        | succ d17 ih17 =>
          intro r w f9 hz17 hr8 hw hF hf9
          obtain ⟨hI3, hq3, hn3⟩ := kI_take hg hI9 ht r hr8
          have hGw := gRep_fr hG hF
          refine z_iload C dX3_take_17 4 rfl ?_
          refine z_bipush (v := nI 8) C (by decide) dX3_take_19 ?_
          refine z_icmp_ge (tgt := 67) C dX3_take_21 (by decide) (fun zc21 => ?_) (fun zc21 => ?_)
          · skip
            have zn21 := zge_t (a := r) (b := 8) (by omega) (by omega) zc21
            refine z_iload_n C dX3_take_67 3 rfl ?_
            refine z_if_eq (tgt := 103) C dX3_take_68 (by decide) (fun zc68 => ?_) (fun zc68 => ?_)
            · skip
              have e8 : r = 8 := by omega
              subst e8
              have hnn : noE N (K.2.2.2.1 t) = false := decide_eq_false (fun z => by have z2 : nEr N (K.2.2.2.1 t) 8 = 0 := z; rw [if_pos z2] at hf9; rw [hf9] at zc68; exact absurd zc68 (by decide))
              exact z_vret C hr hlocks hQ w (⟨by unfold kStep; rw [hnn]; exact hw, hF⟩) (fun _ _ => rfl) dX3_take_103
            · skip
              have e8 : r = 8 := by omega
              subst e8
              have hnn : noE N (K.2.2.2.1 t) = true := decide_eq_true (Decidable.of_not_not (fun z => by have z2 : ¬ nEr N (K.2.2.2.1 t) 8 = 0 := z; rw [if_neg z2] at hf9; exact zc68 hf9))
              rw [kTake_no hnn 8 (Nat.le_refl _)] at hw
              have hl9 := hI9.2.2.2
              have hp8 := hI9.2.2.1
              refine z_aload_n C dX3_take_71 0 rfl ?_
              refine z_aload_n C dX3_take_72 0 rfl ?_
              refine z_get (q := 28) C (T := TX3) (N := 8) (ci := 3) (own := RX3) (index := 29) (v := .int (w.1 28 6)) hT3 hown hK (by decide) rfl rfl 6 (by decide) (hts (.fieldLink RX3 29 "TriggerAnalyzer$Prospect" "longestRow" "I") (by decide +kernel)) (fun _ h9 => h9) rfl dX3_take_73 ?_
              refine z_topi (y := nI K.2.2.2.2.2.1) (hw.2.2.2.1) ?_
              refine z_aload_n C dX3_take_76 0 rfl ?_
              refine z_get (q := 28) C (T := TX3) (N := 8) (ci := 3) (own := RX3) (index := 15) (v := .ref (ad 30)) hT3 hown hK (by decide) rfl rfl 1 (by decide) (hts (.fieldLink RX3 15 "TriggerAnalyzer$Prospect" "plays" "[I") (by decide +kernel)) (fun _ h9 => h9) rfl dX3_take_77 ?_
              refine z_iload_n C dX3_take_80 2 rfl ?_
              refine z_iald (q := 30) (len := 1000) (k := K.2.2.2.1 t) C hK (by decide) rfl 0 rfl (rfl) (by omega) (by decide) dX3_take_81 ?_
              refine z_topi (y := nI (K.2.1 (K.2.2.2.1 t))) ((hw.1 _ hx).2.1) ?_
              refine z_imax C hml (own := RX3) (index := 71) hown (hts (.methodLink RX3 71 Lib.Math.max.name) (by decide +kernel)) (hts (.static Lib.Math.max.name) (by decide +kernel)) (hts (.initialized "java/lang/Math") (by decide +kernel)) (hts (.code Lib.Math.max.name Lib.Math.max.code 2 (some .int)) (by decide +kernel)) (Nat.le_of_ble_eq_true rfl) (Nat.le_of_ble_eq_true rfl) (Nat.le_of_ble_eq_true rfl) (Nat.le_of_ble_eq_true rfl) (v := nI (Nat.max K.2.2.2.2.2.1 (K.2.1 (K.2.2.2.1 t)))) (zi_max (by omega) (by omega)) dX3_take_82 ?_
              refine z_put (q := 28) C hI tyX3 (T := TX3) (N := 8) (ci := 3) (own := RX3) (index := 29) hT3 hown hK (by decide) rfl rfl 6 (by decide) (hts (.fieldLink RX3 29 "TriggerAnalyzer$Prospect" "longestRow" "I") (by decide +kernel)) (fun _ h9 => h9) tyX3_ok nmX3 rfl rfl rfl (Nat.le_of_ble_eq_true rfl) (f' := xF ad cI cL cR ((xs w 28 6 (nI (Nat.max K.2.2.2.2.2.1 (K.2.1 (K.2.2.2.1 t))))))) rfl xF_ne dX3_take_85 ?_
              refine z_aload_n C dX3_take_88 0 rfl ?_
              refine z_dup C rfl dX3_take_89 ?_
              refine z_get (q := 28) C (T := TX3) (N := 8) (ci := 3) (own := RX3) (index := 33) (v := .long ((xs w 28 6 (nI (Nat.max K.2.2.2.2.2.1 (K.2.1 (K.2.2.2.1 t))))).2 28 7)) hT3 hown hK (by decide) rfl rfl 7 (by decide) (hts (.fieldLink RX3 33 "TriggerAnalyzer$Prospect" "endedRows" "J") (by decide +kernel)) (fun _ h9 => h9) rfl dX3_take_90 ?_
              refine z_topl (y := w.2 28 7) (congrFun (congrFun (xs_2 _ _ _ _) 28) 7) ?_
              refine z_aload_n C dX3_take_93 0 rfl ?_
              refine z_get (q := 28) C (T := TX3) (N := 8) (ci := 3) (own := RX3) (index := 18) (v := .ref (ad 31)) hT3 hown hK (by decide) rfl rfl 2 (by decide) (hts (.fieldLink RX3 18 "TriggerAnalyzer$Prospect" "rows" "[J") (by decide +kernel)) (fun _ h9 => h9) rfl dX3_take_94 ?_
              refine z_iload_n C dX3_take_97 2 rfl ?_
              refine z_lald (q := 31) (len := 1000) (k := K.2.2.2.1 t) C hK (by decide) rfl 1 rfl (rfl) (by omega) (by decide) dX3_take_98 ?_
              refine z_topl (y := w.2 31 (K.2.2.2.1 t)) (congrFun (congrFun (xs_2 _ _ _ _) 31) (K.2.2.2.1 t)) ?_
              refine z_ladd C dX3_take_99 ?_
              refine z_put (q := 28) C hI tyX3 (T := TX3) (N := 8) (ci := 3) (own := RX3) (index := 33) hT3 hown hK (by decide) rfl rfl 7 (by decide) (hts (.fieldLink RX3 33 "TriggerAnalyzer$Prospect" "endedRows" "J") (by decide +kernel)) (fun _ h9 => h9) tyX3_ok nmX3 rfl rfl rfl (Nat.le_of_ble_eq_true rfl) (f' := xF ad cI cL cR ((xl ((xs w 28 6 (nI (Nat.max K.2.2.2.2.2.1 (K.2.1 (K.2.2.2.1 t)))))) 28 7 ((w.2 28 7) + (w.2 31 (K.2.2.2.1 t)))))) rfl xF_neL dX3_take_100 ?_
              exact z_vret C hr hlocks hQ ((xl ((xs w 28 6 (nI (Nat.max K.2.2.2.2.2.1 (K.2.1 (K.2.2.2.1 t)))))) 28 7 ((w.2 28 7) + (w.2 31 (K.2.2.2.1 t))))) (⟨kRep_end hw hx hnn, kFr_l (kFr_s hF (by decide) (by decide))⟩) (fun _ _ => rfl) dX3_take_103
          · skip
            have zn21 := zge_f (a := r) (b := 8) (by omega) (by omega) zc21
            refine z_aload_n C dX3_take_24 1 rfl ?_
            refine z_iload_n C dX3_take_25 2 rfl ?_
            refine z_iload C dX3_take_26 4 rfl ?_
            refine z_callVi xX_ok C hml hown hts hK hX (c_X1_nextOf l D ad cI cL cR hI w c hGw.1 hGw.2.1 (K.2.2.2.1 t) hx r zn21) (cwV 2 hts gX3_take_X1_nextOf rfl rfl rfl (by decide +kernel) ⟨Nat.le_of_ble_eq_true rfl, Nat.le_of_ble_eq_true rfl⟩) (by decide) (ci := 1) rfl rfl rfl (st := []) rfl (Nat.le_of_ble_eq_true rfl) dX3_take_28 ⟨Nat.le_of_ble_eq_true rfl, Nat.le_of_ble_eq_true rfl⟩ (fun r28 u28 h28 => ?_)
            obtain ⟨zr28, zu28⟩ := h28
            subst r28
            subst u28
            refine z_topi (y := nxI (N (8 * (K.2.2.2.1 t) + r))) (by rw [Nat.mul_comm]; exact hGw.2.2 _ (by omega)) ?_
            refine z_istore (L' := [(5, .int (nxI (N (8 * (K.2.2.2.1 t) + r)))), (0, .ref (ad 28)), (1, .ref (ad 21)), (2, .int (nI (K.2.2.2.1 t))), (3, .int (f9)), (4, .int (nI r))]) C dX3_take_31 (by decide) rfl ?_
            refine z_iload C dX3_take_33 0 rfl ?_
            refine z_iconst (v := (-1)) C (by decide) dX3_take_35 ?_
            refine z_icmp_eq (tgt := 61) C dX3_take_36 (by decide) (fun zc36 => ?_) (fun zc36 => ?_)
            · skip
              have hN9 := nx_t (by have := hg.1 (8 * (K.2.2.2.1 t) + r) (by omega); omega) zc36
              refine z_iinc (L' := [(4, .int (nI (r + 1))), (5, .int (nxI (N (8 * (K.2.2.2.1 t) + r)))), (0, .ref (ad 28)), (1, .ref (ad 21)), (2, .int (nI (K.2.2.2.1 t))), (3, .int (f9))]) C dX3_take_61 5 rfl (nI_1 r) (by decide) rfl ?_
              refine z_goto (tgt := 17) C dX3_take_64 (by decide) ?_
              refine z_sub (L' := [(0, .ref (ad 28)), (1, .ref (ad 21)), (2, .int (nI (K.2.2.2.1 t))), (3, .int (f9)), (4, .int (nI (r + 1)))]) [2, 3, 4, 5, 0] rfl ?_
              exact ih17 (r + 1) w f9 (by omega) (by omega) (by show kRep w c (kEdge N (kTake N K (K.2.2.2.1 t) r) (K.2.2.2.1 t) r); unfold kEdge; rw [if_pos hN9]; exact hw) hF (by rw [nEr_0 hN9]; exact hf9)
            · skip
              have hN9 := nx_f zc36
              have hE9 := (kI_edge hg hI3 (by omega) zn21).2.2
              rw [hq3] at hE9
              obtain ⟨hi9, hne9, -, hp9, hq9⟩ := hE9 hN9
              have hb9 : (kTake N K (K.2.2.2.1 t) r).1 (N (8 * (K.2.2.2.1 t) + r) - 1) ≤ 8 * c := by rw [hI3.1.2.1 _ hi9]; exact fb_ct_le _ _
              have hb8 := hI3.2.1 _ hi9
              have hb7 := hI3.2.1 (K.2.2.2.1 t) hx
              refine z_iconst (v := nI 0) C (by decide) dX3_take_39 ?_
              refine z_istore_n (L' := [(3, .int (nI 0)), (5, .int (nxI (N (8 * (K.2.2.2.1 t) + r)))), (0, .ref (ad 28)), (1, .ref (ad 21)), (2, .int (nI (K.2.2.2.1 t))), (4, .int (nI r))]) C dX3_take_40 (by decide) rfl ?_
              refine z_aload_n C dX3_take_41 2 rfl ?_
              refine z_iload C dX3_take_42 1 rfl ?_
              refine z_topi (y := nI (N (8 * (K.2.2.2.1 t) + r) - 1)) (nx_v hN9) ?_
              refine z_aload_n C dX3_take_44 2 rfl ?_
              refine z_get (q := 28) C (T := TX3) (N := 8) (ci := 3) (own := RX3) (index := 15) (v := .ref (ad 30)) hT3 hown hK (by decide) rfl rfl 1 (by decide) (hts (.fieldLink RX3 15 "TriggerAnalyzer$Prospect" "plays" "[I") (by decide +kernel)) (fun _ h9 => h9) rfl dX3_take_45 ?_
              refine z_iload_n C dX3_take_48 4 rfl ?_
              refine z_iald (q := 30) (len := 1000) (k := K.2.2.2.1 t) C hK (by decide) rfl 0 rfl (rfl) (by omega) (by decide) dX3_take_49 ?_
              refine z_topi (y := nI ((kTake N K (K.2.2.2.1 t) r).2.1 (K.2.2.2.1 t))) ((hw.1 _ hx).2.1) ?_
              refine z_iconst (v := nI 1) C (by decide) dX3_take_50 ?_
              refine z_iadd C dX3_take_51 ?_
              refine z_topi (y := nI (((kTake N K (K.2.2.2.1 t) r).2.1 (K.2.2.2.1 t)) + 1)) (nI_add ((kTake N K (K.2.2.2.1 t) r).2.1 (K.2.2.2.1 t)) 1) ?_
              refine z_aload_n C dX3_take_52 2 rfl ?_
              refine z_get (q := 28) C (T := TX3) (N := 8) (ci := 3) (own := RX3) (index := 18) (v := .ref (ad 31)) hT3 hown hK (by decide) rfl rfl 2 (by decide) (hts (.fieldLink RX3 18 "TriggerAnalyzer$Prospect" "rows" "[J") (by decide +kernel)) (fun _ h9 => h9) rfl dX3_take_53 ?_
              refine z_iload_n C dX3_take_56 4 rfl ?_
              refine z_lald (q := 31) (len := 1000) (k := K.2.2.2.1 t) C hK (by decide) rfl 1 rfl (rfl) (by omega) (by decide) dX3_take_57 ?_
              refine z_topl (y := (kTake N K (K.2.2.2.1 t) r).2.2.1 (K.2.2.2.1 t)) ((hw.1 _ hx).2.2) ?_
              refine z_callVv xX_ok C hml hown hts hK hX (c_X3_lead l D ad cI cL cR hI w (N (8 * (K.2.2.2.1 t) + r) - 1) (by omega) ((kTake N K (K.2.2.2.1 t) r).1 (N (8 * (K.2.2.2.1 t) + r) - 1) - 1) (by omega) (by rw [(hw.1 _ hi9).1, show (kTake N K (K.2.2.2.1 t) r).1 (N (8 * (K.2.2.2.1 t) + r) - 1) - 1 + 1 = (kTake N K (K.2.2.2.1 t) r).1 (N (8 * (K.2.2.2.1 t) + r) - 1) by omega]) ((kTake N K (K.2.2.2.1 t) r).2.1 (N (8 * (K.2.2.2.1 t) + r) - 1)) ((kTake N K (K.2.2.2.1 t) r).2.1 (K.2.2.2.1 t) + 1) (by omega) (by omega) (hw.1 _ hi9).2.1 (kTake N K (K.2.2.2.1 t) r).2.2.2.2.1 (fun z => by have := hq9 (by omega); omega) hw.2.2.1 ((kTake N K (K.2.2.2.1 t) r).2.2.1 (K.2.2.2.1 t))) (cwV 3 hts gX3_take_X3_lead rfl rfl rfl (by decide +kernel) ⟨Nat.le_of_ble_eq_true rfl, Nat.le_of_ble_eq_true rfl⟩) (by decide) (ci := 3) rfl rfl rfl (st := []) rfl (Nat.le_of_ble_eq_true rfl) dX3_take_58 ⟨Nat.le_of_ble_eq_true rfl, Nat.le_of_ble_eq_true rfl⟩ (fun u58 h58 => ?_)
              subst u58
              refine z_iinc (L' := [(4, .int (nI (r + 1))), (3, .int (nI 0)), (5, .int (nxI (N (8 * (K.2.2.2.1 t) + r)))), (0, .ref (ad 28)), (1, .ref (ad 21)), (2, .int (nI (K.2.2.2.1 t)))]) C dX3_take_61 5 rfl (nI_1 r) (by decide) rfl ?_
              refine z_goto (tgt := 17) C dX3_take_64 (by decide) ?_
              refine z_sub (L' := [(0, .ref (ad 28)), (1, .ref (ad 21)), (2, .int (nI (K.2.2.2.1 t))), (3, .int (nI 0)), (4, .int (nI (r + 1)))]) [3, 4, 5, 1, 0] rfl ?_
              exact ih17 (r + 1) (ldU w ((N (8 * (K.2.2.2.1 t) + r) - 1)) (((kTake N K (K.2.2.2.1 t) r).1 (N (8 * (K.2.2.2.1 t) + r) - 1) - 1)) (((kTake N K (K.2.2.2.1 t) r).2.1 (N (8 * (K.2.2.2.1 t) + r) - 1))) (((kTake N K (K.2.2.2.1 t) r).2.1 (K.2.2.2.1 t) + 1)) ((kTake N K (K.2.2.2.1 t) r).2.2.2.2.1) (((kTake N K (K.2.2.2.1 t) r).2.2.1 (K.2.2.2.1 t)))) (nI 0) (by omega) (by omega) (by show kRep _ c (kEdge N (kTake N K (K.2.2.2.1 t) r) (K.2.2.2.1 t) r); unfold kEdge; rw [if_neg hN9]; exact kRep_lead hw hi9 hp9) (kFr_tr hF ldU_fr) (by rw [if_neg (nEr_1 hN9)]; rfl)
      refine z_sub (L' := [(0, .ref (ad 28)), (1, .ref (ad 21)), (2, .int (nI (K.2.2.2.1 t))), (3, .int (nI 1)), (4, .int (nI 0))]) [2, 3, 4, 1, 0] rfl ?_
      exact loop17 9 0 u (nI 1) (by omega) (by omega) hk (kFr_rf u) rfl
    · skip
      have zn8 := zlt_f (a := K.2.2.2.1 t) (b := 1000) (by omega) (by omega) zc8
      exact False.elim (by omega)

set_option maxHeartbeats 4000000 in
set_option maxRecDepth 100000 in
theorem c_X3_countIncoming (l : Launch) (D : va_G) (ad : Nat → Nat) (cI cL cR : ClassId) (hI : gI 34 ad) (u : xS) (c : Nat) (N : Nat → Nat) (hG : gRep u c N) (hg : gOk c N) : ∀ sz, Met l yX3_countIncoming wsX3_countIncoming ({ frames := 1, cells := 0, slots := 0, locals := 23 }) (XP D ad cI cL cR u [.ref (ad 28), .ref (ad 21)] sz) (va_Qv (fun u' => (∀ i, i < c → u'.1 29 i = nI (k0i c N i)) ∧ ciZ u' c ∧ kFr u u') (XB D ad cI cL cR) (gA 34 ad sz)) 0 0 (gA 34 ad sz) := by
  intro sz
  refine z_met (cc := cX3_countIncoming) (maxL := 5) (ret := none) (by decide) rfl (Nat.le_of_ble_eq_true rfl) ?_
  intro pq lq sq mq aq Qq bq hmq cq C hr hml hown hts hlocks hK hX hsz hQ
  subst hsz
  have hT3 : ∀ w ∈ wsX30, w.before aq sq = true := fun w h => hts w ((by decide +kernel : ∀ w ∈ wsX30, w ∈ wsX3_countIncoming) w h)
  refine z_sub (L' := [(0, .ref (ad 28)), (1, .ref (ad 21))]) [0, 1] rfl ?_
  have hc9 := hG.1
  refine z_iconst (v := nI 0) C (by decide) dX3_countIncoming_0 ?_
  refine z_istore_n (L' := [(2, .int (nI 0)), (0, .ref (ad 28)), (1, .ref (ad 21))]) C dX3_countIncoming_1 (by decide) rfl ?_
  have loop2 : ∀ (d2 : Nat) (k : Nat) (w : xS), c - k < d2 → (k ≤ c) → (ci0 w k) → (ciZ w k) → (kFr u w) → ZZ pq l lq { frames := 1, cells := 0, slots := 0, locals := 23 } sq mq aq bq hmq cq D vwCl 34 ad 5 0 0 Qq (xF ad cI cL cR w) [(0, .ref (ad 28)), (1, .ref (ad 21)), (2, .int (nI k))] 2 [] := by
    intro d2
    induction d2 with
    | zero => intro k w hz; exact absurd hz (Nat.not_lt_zero _)
    | succ d2 ih2 =>
      intro k w hz2 hk8 h09 hz9 hF
      have hGw := gRep_fr hG hF
      refine z_iload_n C dX3_countIncoming_2 2 rfl ?_
      refine z_aload_n C dX3_countIncoming_3 1 rfl ?_
      refine z_callVi xX_ok C hml hown hts hK hX (c_X1_size l D ad cI cL cR hI w) (cwV 0 hts gX3_countIncoming_X1_size rfl rfl rfl (by decide +kernel) ⟨Nat.le_of_ble_eq_true rfl, Nat.le_of_ble_eq_true rfl⟩) (by decide) (ci := 1) rfl rfl rfl (st := [.int (nI k)]) rfl (Nat.le_of_ble_eq_true rfl) dX3_countIncoming_4 ⟨Nat.le_of_ble_eq_true rfl, Nat.le_of_ble_eq_true rfl⟩ (fun r4 u4 h4 => ?_)
      obtain ⟨zr4, zu4⟩ := h4
      subst r4
      subst u4
      refine z_topi (y := nI c) (hGw.2.1) ?_
      refine z_icmp_ge (tgt := 44) C dX3_countIncoming_7 (by decide) (fun zc7 => ?_) (fun zc7 => ?_)
      · skip
        have zn7 := zge_t (a := k) (b := c) (by omega) (by omega) zc7
        refine z_iconst (v := nI 0) C (by decide) dX3_countIncoming_44 ?_
        refine z_istore_n (L' := [(2, .int (nI 0)), (0, .ref (ad 28)), (1, .ref (ad 21))]) C dX3_countIncoming_45 (by decide) rfl ?_
        have loop46 : ∀ (d46 : Nat) (k : Nat) (w : xS), c - k < d46 → (k ≤ c) → (ciC w c N (8 * k)) → (ciZ w c) → (kFr u w) → ZZ pq l lq { frames := 1, cells := 0, slots := 0, locals := 23 } sq mq aq bq hmq cq D vwCl 34 ad 5 0 0 Qq (xF ad cI cL cR w) [(0, .ref (ad 28)), (1, .ref (ad 21)), (2, .int (nI k))] 46 [] := by
          intro d46
          induction d46 with
          | zero => intro k w hz; exact absurd hz (Nat.not_lt_zero _)
          | succ d46 ih46 =>
            intro k w hz46 hk8 hc2 hz9 hF
            have hGw := gRep_fr hG hF
            refine z_iload_n C dX3_countIncoming_46 2 rfl ?_
            refine z_aload_n C dX3_countIncoming_47 1 rfl ?_
            refine z_callVi xX_ok C hml hown hts hK hX (c_X1_size l D ad cI cL cR hI w) (cwV 0 hts gX3_countIncoming_X1_size rfl rfl rfl (by decide +kernel) ⟨Nat.le_of_ble_eq_true rfl, Nat.le_of_ble_eq_true rfl⟩) (by decide) (ci := 1) rfl rfl rfl (st := [.int (nI k)]) rfl (Nat.le_of_ble_eq_true rfl) dX3_countIncoming_48 ⟨Nat.le_of_ble_eq_true rfl, Nat.le_of_ble_eq_true rfl⟩ (fun r48 u48 h48 => ?_)
            obtain ⟨zr48, zu48⟩ := h48
            subst r48
            subst u48
            refine z_topi (y := nI c) (hGw.2.1) ?_
            refine z_icmp_ge (tgt := 113) C dX3_countIncoming_51 (by decide) (fun zc51 => ?_) (fun zc51 => ?_)
            · skip
              have zn51 := zge_t (a := k) (b := c) (by omega) (by omega) zc51
              exact z_vret C hr hlocks hQ w (⟨fun i hi => by rw [hc2 i hi, show k = c by omega]; rfl, hz9, hF⟩) (fun _ _ => rfl) dX3_countIncoming_113
            · skip
              have zn51 := zge_f (a := k) (b := c) (by omega) (by omega) zc51
              refine z_iload_n C dX3_countIncoming_54 2 rfl ?_
              refine z_sipush (v := nI 1000) C (by decide) dX3_countIncoming_55 ?_
              refine z_icmp_ge (tgt := 113) C dX3_countIncoming_58 (by decide) (fun zc58 => ?_) (fun zc58 => ?_)
              · skip
                have zn58 := zge_t (a := k) (b := 1000) (by omega) (by omega) zc58
                exact False.elim (by omega)
              · skip
                have zn58 := zge_f (a := k) (b := 1000) (by omega) (by omega) zc58
                refine z_iconst (v := nI 0) C (by decide) dX3_countIncoming_61 ?_
                refine z_istore_n (L' := [(3, .int (nI 0)), (0, .ref (ad 28)), (1, .ref (ad 21)), (2, .int (nI k))]) C dX3_countIncoming_62 (by decide) rfl ?_
                have loop63 : ∀ (d63 : Nat) (r : Nat) (w3 : xS), 8 - r < d63 → (r ≤ 8) → (ciC w3 c N (8 * k + r)) → (ciZ w3 c) → (kFr u w3) → ZZ pq l lq { frames := 1, cells := 0, slots := 0, locals := 23 } sq mq aq bq hmq cq D vwCl 34 ad 5 0 0 Qq (xF ad cI cL cR w3) [(0, .ref (ad 28)), (1, .ref (ad 21)), (2, .int (nI k)), (3, .int (nI r))] 63 [] := by
                  intro d63
                  induction d63 with
                  | zero => intro r w3 hz; exact absurd hz (Nat.not_lt_zero _)
                  | succ d63 ih63 =>
                    intro r w3 hz63 hr8 hc3 hz3 hF3
                    have hGw := gRep_fr hG hF3
                    refine z_iload_n C dX3_countIncoming_63 3 rfl ?_
                    refine z_bipush (v := nI 8) C (by decide) dX3_countIncoming_64 ?_
                    refine z_icmp_ge (tgt := 107) C dX3_countIncoming_66 (by decide) (fun zc66 => ?_) (fun zc66 => ?_)
                    · skip
                      have zn66 := zge_t (a := r) (b := 8) (by omega) (by omega) zc66
                      refine z_iinc (L' := [(2, .int (nI (k + 1))), (0, .ref (ad 28)), (1, .ref (ad 21)), (3, .int (nI r))]) C dX3_countIncoming_107 2 rfl (nI_1 k) (by decide) rfl ?_
                      refine z_goto (tgt := 46) C dX3_countIncoming_110 (by decide) ?_
                      refine z_sub (L' := [(0, .ref (ad 28)), (1, .ref (ad 21)), (2, .int (nI (k + 1)))]) [1, 2, 0] rfl ?_
                      exact ih46 (k + 1) w3 (by omega) (by omega) (by rw [show 8 * (k + 1) = 8 * k + r by omega]; exact hc3) hz3 hF3
                    · skip
                      have zn66 := zge_f (a := r) (b := 8) (by omega) (by omega) zc66
                      refine z_aload_n C dX3_countIncoming_69 1 rfl ?_
                      refine z_iload_n C dX3_countIncoming_70 2 rfl ?_
                      refine z_iload_n C dX3_countIncoming_71 3 rfl ?_
                      refine z_callVi xX_ok C hml hown hts hK hX (c_X1_nextOf l D ad cI cL cR hI w3 c hGw.1 hGw.2.1 k zn51 r zn66) (cwV 2 hts gX3_countIncoming_X1_nextOf rfl rfl rfl (by decide +kernel) ⟨Nat.le_of_ble_eq_true rfl, Nat.le_of_ble_eq_true rfl⟩) (by decide) (ci := 1) rfl rfl rfl (st := []) rfl (Nat.le_of_ble_eq_true rfl) dX3_countIncoming_72 ⟨Nat.le_of_ble_eq_true rfl, Nat.le_of_ble_eq_true rfl⟩ (fun r72 u72 h72 => ?_)
                      obtain ⟨zr72, zu72⟩ := h72
                      subst r72
                      subst u72
                      refine z_topi (y := nxI (N (8 * k + r))) (by rw [Nat.mul_comm]; exact hGw.2.2 _ (by omega)) ?_
                      refine z_istore (L' := [(4, .int (nxI (N (8 * k + r)))), (0, .ref (ad 28)), (1, .ref (ad 21)), (2, .int (nI k)), (3, .int (nI r))]) C dX3_countIncoming_75 (by decide) rfl ?_
                      refine z_iload C dX3_countIncoming_77 0 rfl ?_
                      refine z_if_lt (tgt := 101) C dX3_countIncoming_79 (by decide) (fun zc79 => ?_) (fun zc79 => ?_)
                      · skip
                        have hNl := hg.1 (8 * k + r) (by omega)
                        have hN9 := nx_ge (by omega) zc79
                        refine z_iinc (L' := [(3, .int (nI (r + 1))), (4, .int (nxI (N (8 * k + r)))), (0, .ref (ad 28)), (1, .ref (ad 21)), (2, .int (nI k))]) C dX3_countIncoming_101 4 rfl (nI_1 r) (by decide) rfl ?_
                        refine z_goto (tgt := 63) C dX3_countIncoming_104 (by decide) ?_
                        refine z_sub (L' := [(0, .ref (ad 28)), (1, .ref (ad 21)), (2, .int (nI k)), (3, .int (nI (r + 1)))]) [2, 3, 4, 0] rfl ?_
                        exact ih63 (r + 1) w3 (by omega) (by omega) (ciC_no hc3 hN9) hz3 hF3
                      · skip
                        have hNl := hg.1 (8 * k + r) (by omega)
                        have hN9 := nx_nl zc79
                        refine z_iload C dX3_countIncoming_82 0 rfl ?_
                        refine z_topi (y := nI (N (8 * k + r) - 1)) (nx_v hN9) ?_
                        refine z_sipush (v := nI 1000) C (by decide) dX3_countIncoming_84 ?_
                        refine z_icmp_ge (tgt := 101) C dX3_countIncoming_87 (by decide) (fun zc87 => ?_) (fun zc87 => ?_)
                        · skip
                          have zn87 := zge_t (a := N (8 * k + r) - 1) (b := 1000) (by omega) (by omega) zc87
                          exact False.elim (by omega)
                        · skip
                          have zn87 := zge_f (a := N (8 * k + r) - 1) (b := 1000) (by omega) (by omega) zc87
                          refine z_aload_n C dX3_countIncoming_90 1 rfl ?_
                          refine z_get (q := 28) C (T := TX3) (N := 8) (ci := 3) (own := RX3) (index := 9) (v := .ref (ad 29)) hT3 hown hK (by decide) rfl rfl 0 (by decide) (hts (.fieldLink RX3 9 "TriggerAnalyzer$Prospect" "incoming" "[I") (by decide +kernel)) (fun _ h9 => h9) rfl dX3_countIncoming_91 ?_
                          refine z_iload C dX3_countIncoming_94 0 rfl ?_
                          refine z_topi (y := nI (N (8 * k + r) - 1)) (nx_v hN9) ?_
                          refine z_dup2 C rfl rfl dX3_countIncoming_96 ?_
                          refine z_iald (q := 29) (len := 1000) (k := N (8 * k + r) - 1) C hK (by decide) rfl 0 rfl (rfl) (by omega) (by decide) dX3_countIncoming_97 ?_
                          refine z_topi (y := nI (fb_ct (fun e => decide (N e = N (8 * k + r) - 1 + 1)) (8 * k + r))) (hc3 _ (by omega)) ?_
                          refine z_iconst (v := nI 1) C (by decide) dX3_countIncoming_98 ?_
                          refine z_iadd C dX3_countIncoming_99 ?_
                          refine z_topi (y := nI ((fb_ct (fun e => decide (N e = N (8 * k + r) - 1 + 1)) (8 * k + r)) + 1)) (nI_add (fb_ct (fun e => decide (N e = N (8 * k + r) - 1 + 1)) (8 * k + r)) 1) ?_
                          refine z_iast (q := 29) (len := 1000) (k := N (8 * k + r) - 1) C hI hK (by decide) rfl 0 rfl (rfl) (by omega) (by decide) (f' := xF ad cI cL cR ((xs w3 29 (N (8 * k + r) - 1) (nI ((fb_ct (fun e => decide (N e = N (8 * k + r) - 1 + 1)) (8 * k + r)) + 1))))) rfl xF_ne dX3_countIncoming_100 ?_
                          refine z_iinc (L' := [(3, .int (nI (r + 1))), (4, .int (nxI (N (8 * k + r)))), (0, .ref (ad 28)), (1, .ref (ad 21)), (2, .int (nI k))]) C dX3_countIncoming_101 4 rfl (nI_1 r) (by decide) rfl ?_
                          refine z_goto (tgt := 63) C dX3_countIncoming_104 (by decide) ?_
                          refine z_sub (L' := [(0, .ref (ad 28)), (1, .ref (ad 21)), (2, .int (nI k)), (3, .int (nI (r + 1)))]) [2, 3, 4, 0] rfl ?_
                          exact ih63 (r + 1) ((xs w3 29 (N (8 * k + r) - 1) (nI ((fb_ct (fun e => decide (N e = N (8 * k + r) - 1 + 1)) (8 * k + r)) + 1)))) (by omega) (by omega) (ciC_yes hc3 hN9) (ciZ_29 hz3) (kFr_s hF3 (by decide) (by decide))
                refine z_sub (L' := [(0, .ref (ad 28)), (1, .ref (ad 21)), (2, .int (nI k)), (3, .int (nI 0))]) [1, 2, 3, 0] rfl ?_
                exact loop63 9 0 w (by omega) (by omega) hc2 hz9 hF
        refine z_sub (L' := [(0, .ref (ad 28)), (1, .ref (ad 21)), (2, .int (nI 0))]) [1, 2, 0] rfl ?_
        exact loop46 (c + 1) 0 w (by omega) (by omega) (fun i hi => h09 i (by omega)) (fun i hi => hz9 i (by omega)) hF
      · skip
        have zn7 := zge_f (a := k) (b := c) (by omega) (by omega) zc7
        refine z_iload_n C dX3_countIncoming_10 2 rfl ?_
        refine z_sipush (v := nI 1000) C (by decide) dX3_countIncoming_11 ?_
        refine z_icmp_ge (tgt := 44) C dX3_countIncoming_14 (by decide) (fun zc14 => ?_) (fun zc14 => ?_)
        · skip
          have zn14 := zge_t (a := k) (b := 1000) (by omega) (by omega) zc14
          exact False.elim (by omega)
        · skip
          have zn14 := zge_f (a := k) (b := 1000) (by omega) (by omega) zc14
          refine z_aload_n C dX3_countIncoming_17 0 rfl ?_
          refine z_get (q := 28) C (T := TX3) (N := 8) (ci := 3) (own := RX3) (index := 9) (v := .ref (ad 29)) hT3 hown hK (by decide) rfl rfl 0 (by decide) (hts (.fieldLink RX3 9 "TriggerAnalyzer$Prospect" "incoming" "[I") (by decide +kernel)) (fun _ h9 => h9) rfl dX3_countIncoming_18 ?_
          refine z_iload_n C dX3_countIncoming_21 2 rfl ?_
          refine z_iconst (v := nI 0) C (by decide) dX3_countIncoming_22 ?_
          refine z_iast (q := 29) (len := 1000) (k := k) C hI hK (by decide) rfl 0 rfl (rfl) (by omega) (by decide) (f' := xF ad cI cL cR ((xs w 29 k (nI 0)))) rfl xF_ne dX3_countIncoming_23 ?_
          refine z_aload_n C dX3_countIncoming_24 0 rfl ?_
          refine z_get (q := 28) C (T := TX3) (N := 8) (ci := 3) (own := RX3) (index := 15) (v := .ref (ad 30)) hT3 hown hK (by decide) rfl rfl 1 (by decide) (hts (.fieldLink RX3 15 "TriggerAnalyzer$Prospect" "plays" "[I") (by decide +kernel)) (fun _ h9 => h9) rfl dX3_countIncoming_25 ?_
          refine z_iload_n C dX3_countIncoming_28 2 rfl ?_
          refine z_iconst (v := nI 0) C (by decide) dX3_countIncoming_29 ?_
          refine z_iast (q := 30) (len := 1000) (k := k) C hI hK (by decide) rfl 0 rfl (rfl) (by omega) (by decide) (f' := xF ad cI cL cR ((xs ((xs w 29 k (nI 0))) 30 k (nI 0)))) rfl xF_ne dX3_countIncoming_30 ?_
          refine z_aload_n C dX3_countIncoming_31 0 rfl ?_
          refine z_get (q := 28) C (T := TX3) (N := 8) (ci := 3) (own := RX3) (index := 18) (v := .ref (ad 31)) hT3 hown hK (by decide) rfl rfl 2 (by decide) (hts (.fieldLink RX3 18 "TriggerAnalyzer$Prospect" "rows" "[J") (by decide +kernel)) (fun _ h9 => h9) rfl dX3_countIncoming_32 ?_
          refine z_iload_n C dX3_countIncoming_35 2 rfl ?_
          refine z_lconst (v := 0) C (by decide) dX3_countIncoming_36 ?_
          refine z_last (q := 31) (len := 1000) (k := k) C hI hK (by decide) rfl 1 rfl (rfl) (by omega) (by decide) (f' := xF ad cI cL cR ((xl ((xs ((xs w 29 k (nI 0))) 30 k (nI 0))) 31 k (0)))) rfl xF_neL dX3_countIncoming_37 ?_
          refine z_iinc (L' := [(2, .int (nI (k + 1))), (0, .ref (ad 28)), (1, .ref (ad 21))]) C dX3_countIncoming_38 2 rfl (nI_1 k) (by decide) rfl ?_
          refine z_goto (tgt := 2) C dX3_countIncoming_41 (by decide) ?_
          refine z_sub (L' := [(0, .ref (ad 28)), (1, .ref (ad 21)), (2, .int (nI (k + 1)))]) [1, 2, 0] rfl ?_
          exact ih2 (k + 1) ((xl ((xs ((xs w 29 k (nI 0))) 30 k (nI 0))) 31 k (0))) (by omega) (by omega) (ci0_step h09) (ciZ_step hz9) (kFr_l (kFr_s (kFr_s hF (by decide) (by decide)) (by decide) (by decide)))
  refine z_sub (L' := [(0, .ref (ad 28)), (1, .ref (ad 21)), (2, .int (nI 0))]) [1, 2, 0] rfl ?_
  exact loop2 (c + 1) 0 u (by omega) (by omega) (fun i hi => absurd hi (Nat.not_lt_zero i)) (fun i hi => absurd hi (Nat.not_lt_zero i)) (kFr_rf u)

set_option maxHeartbeats 4000000 in
set_option maxRecDepth 100000 in
theorem c_X3_startAtFirst (l : Launch) (D : va_G) (ad : Nat → Nat) (cI cL cR : ClassId) (hI : gI 34 ad) (u : xS) (c : Nat) (hc1 : 1 ≤ c) (N : Nat → Nat) (h19 : ∀ i, i < c → u.1 29 i = nI (k0i c N i)) (h29 : ciZ u c) (hk9 : k0i c N 0 < 2 ^ 30) : ∀ sz, Met l yX3_startAtFirst wsX3_startAtFirst ({ frames := 1, cells := 0, slots := 0, locals := 21 }) (XP D ad cI cL cR u [.ref (ad 28)] sz) (va_Qv (fun u' => kRep u' c (K0 c N) ∧ kFr u u') (XB D ad cI cL cR) (gA 34 ad sz)) 0 0 (gA 34 ad sz) := by
  intro sz
  refine z_met (cc := cX3_startAtFirst) (maxL := 1) (ret := none) (by decide) rfl (Nat.le_of_ble_eq_true rfl) ?_
  intro pq lq sq mq aq Qq bq hmq cq C hr hml hown hts hlocks hK hX hsz hQ
  subst hsz
  have hT3 : ∀ w ∈ wsX30, w.before aq sq = true := fun w h => hts w ((by decide +kernel : ∀ w ∈ wsX30, w ∈ wsX3_startAtFirst) w h)
  refine z_sub (L' := [(0, .ref (ad 28))]) [0] rfl ?_
  refine z_aload_n C dX3_startAtFirst_0 0 rfl ?_
  refine z_iconst (v := nI 0) C (by decide) dX3_startAtFirst_1 ?_
  refine z_put (q := 28) C hI tyX3 (T := TX3) (N := 8) (ci := 3) (own := RX3) (index := 46) hT3 hown hK (by decide) rfl rfl 4 (by decide) (hts (.fieldLink RX3 46 "TriggerAnalyzer$Prospect" "queued" "I") (by decide +kernel)) (fun _ h9 => h9) tyX3_ok nmX3 rfl rfl rfl (Nat.le_of_ble_eq_true rfl) (f' := xF ad cI cL cR ((xs u 28 4 (nI 0)))) rfl xF_ne dX3_startAtFirst_2 ?_
  refine z_aload_n C dX3_startAtFirst_5 0 rfl ?_
  refine z_iconst (v := nI 0) C (by decide) dX3_startAtFirst_6 ?_
  refine z_put (q := 28) C hI tyX3 (T := TX3) (N := 8) (ci := 3) (own := RX3) (index := 29) hT3 hown hK (by decide) rfl rfl 6 (by decide) (hts (.fieldLink RX3 29 "TriggerAnalyzer$Prospect" "longestRow" "I") (by decide +kernel)) (fun _ h9 => h9) tyX3_ok nmX3 rfl rfl rfl (Nat.le_of_ble_eq_true rfl) (f' := xF ad cI cL cR ((xs ((xs u 28 4 (nI 0))) 28 6 (nI 0)))) rfl xF_ne dX3_startAtFirst_7 ?_
  refine z_aload_n C dX3_startAtFirst_10 0 rfl ?_
  refine z_lconst (v := 0) C (by decide) dX3_startAtFirst_11 ?_
  refine z_put (q := 28) C hI tyX3 (T := TX3) (N := 8) (ci := 3) (own := RX3) (index := 33) hT3 hown hK (by decide) rfl rfl 7 (by decide) (hts (.fieldLink RX3 33 "TriggerAnalyzer$Prospect" "endedRows" "J") (by decide +kernel)) (fun _ h9 => h9) tyX3_ok nmX3 rfl rfl rfl (Nat.le_of_ble_eq_true rfl) (f' := xF ad cI cL cR ((xl ((xs ((xs u 28 4 (nI 0))) 28 6 (nI 0))) 28 7 (0)))) rfl xF_neL dX3_startAtFirst_12 ?_
  refine z_aload_n C dX3_startAtFirst_15 0 rfl ?_
  refine z_get (q := 28) C (T := TX3) (N := 8) (ci := 3) (own := RX3) (index := 18) (v := .ref (ad 31)) hT3 hown hK (by decide) rfl rfl 2 (by decide) (hts (.fieldLink RX3 18 "TriggerAnalyzer$Prospect" "rows" "[J") (by decide +kernel)) (fun _ h9 => h9) rfl dX3_startAtFirst_16 ?_
  refine z_iconst (v := nI 0) C (by decide) dX3_startAtFirst_19 ?_
  refine z_lconst (v := 1) C (by decide) dX3_startAtFirst_20 ?_
  refine z_last (q := 31) (len := 1000) (k := 0) C hI hK (by decide) rfl 1 rfl (rfl) (by omega) (by decide) (f' := xF ad cI cL cR ((xl ((xl ((xs ((xs u 28 4 (nI 0))) 28 6 (nI 0))) 28 7 (0))) 31 0 (1)))) rfl xF_neL dX3_startAtFirst_21 ?_
  refine z_aload_n C dX3_startAtFirst_22 0 rfl ?_
  refine z_get (q := 28) C (T := TX3) (N := 8) (ci := 3) (own := RX3) (index := 9) (v := .ref (ad 29)) hT3 hown hK (by decide) rfl rfl 0 (by decide) (hts (.fieldLink RX3 9 "TriggerAnalyzer$Prospect" "incoming" "[I") (by decide +kernel)) (fun _ h9 => h9) rfl dX3_startAtFirst_23 ?_
  refine z_iconst (v := nI 0) C (by decide) dX3_startAtFirst_26 ?_
  refine z_iald (q := 29) (len := 1000) (k := 0) C hK (by decide) rfl 0 rfl (rfl) (by omega) (by decide) dX3_startAtFirst_27 ?_
  refine z_topi (y := u.1 29 0) ((((congrFun (congrFun (xl_1 _ _ _ _) 29) 0).trans (congrFun (congrFun (xl_1 _ _ _ _) 29) 0)).trans (xs_c (by decide) _)).trans (xs_c (by decide) _)) ?_
  refine z_topi (y := nI (k0i c N 0)) (h19 0 (by omega)) ?_
  refine z_if_ne (tgt := 36) C dX3_startAtFirst_28 (by decide) (fun zc28 => ?_) (fun zc28 => ?_)
  · skip
    have zn28 := z0_f zc28
    exact z_vret C hr hlocks hQ ((xl ((xl ((xs ((xs u 28 4 (nI 0))) 28 6 (nI 0))) 28 7 (0))) 31 0 (1))) (⟨K0_rep1 h19 h29 zn28, stU_fr⟩) (fun _ _ => rfl) dX3_startAtFirst_36
  · skip
    have zn28 := z0_t (by omega) zc28
    refine z_aload_n C dX3_startAtFirst_31 0 rfl ?_
    refine z_iconst (v := nI 0) C (by decide) dX3_startAtFirst_32 ?_
    refine z_callVv xX_ok C hml hown hts hK hX (c_X3_enqueue l D ad cI cL cR hI ((xl ((xl ((xs ((xs u 28 4 (nI 0))) 28 6 (nI 0))) 28 7 (0))) 31 0 (1))) 0 0 (by decide) (by show (stU u).1 28 4 = nI 0; unfold stU; rw [xl_1, xl_1, xs_j (by decide), xs_s])) (cwV 1 hts gX3_startAtFirst_X3_enqueue rfl rfl rfl (by decide +kernel) ⟨Nat.le_of_ble_eq_true rfl, Nat.le_of_ble_eq_true rfl⟩) (by decide) (ci := 3) rfl rfl rfl (st := []) rfl (Nat.le_of_ble_eq_true rfl) dX3_startAtFirst_33 ⟨Nat.le_of_ble_eq_true rfl, Nat.le_of_ble_eq_true rfl⟩ (fun u33 h33 => ?_)
    subst u33
    exact z_vret C hr hlocks hQ (xs (xs ((xl ((xl ((xs ((xs u 28 4 (nI 0))) 28 6 (nI 0))) 28 7 (0))) 31 0 (1))) 32 0 (nI 0)) 28 4 (nI (0 + 1))) (⟨K0_rep2 h19 h29 zn28, kFr_s (kFr_s stU_fr (by decide) (by decide)) (by decide) (by decide)⟩) (fun _ _ => rfl) dX3_startAtFirst_36

set_option maxHeartbeats 4000000 in
set_option maxRecDepth 100000 in
theorem c_X3_study (l : Launch) (D : va_G) (ad : Nat → Nat) (cI cL cR : ClassId) (hI : gI 34 ad) (u : xS) (c : Nat) (N : Nat → Nat) (hG : gRep u c N) (hg : gOk c N) (hc1 : 1 ≤ c) : ∀ sz, Met l yX3_study wsX3_study ({ frames := 3, cells := 0, slots := 0, locals := 70 }) (XP D ad cI cL cR u [.ref (ad 28), .ref (ad 21)] sz) (va_Qv (fun u' => ∃ t, kGo N (K0 c N) t ∧ (kRun N (K0 c N) t).2.2.2.2.1 ≤ t ∧ u'.1 28 5 = (if t = c then 1 else 0) ∧ u'.1 28 6 = nI (kRun N (K0 c N) t).2.2.2.2.2.1 ∧ u'.2 28 7 = (kRun N (K0 c N) t).2.2.2.2.2.2 ∧ kFr u u') (XB D ad cI cL cR) (gA 34 ad sz)) 0 0 (gA 34 ad sz) := by
  intro sz
  refine z_met (cc := cX3_study) (maxL := 3) (ret := none) (by decide) rfl (Nat.le_of_ble_eq_true rfl) ?_
  intro pq lq sq mq aq Qq bq hmq cq C hr hml hown hts hlocks hK hX hsz hQ
  subst hsz
  have hT3 : ∀ w ∈ wsX30, w.before aq sq = true := fun w h => hts w ((by decide +kernel : ∀ w ∈ wsX30, w ∈ wsX3_study) w h)
  refine z_sub (L' := [(0, .ref (ad 28)), (1, .ref (ad 21))]) [0, 1] rfl ?_
  have hc9 := hG.1
  refine z_aload_n C dX3_study_0 0 rfl ?_
  refine z_aload_n C dX3_study_1 1 rfl ?_
  refine z_callVv xX_ok C hml hown hts hK hX (c_X3_countIncoming l D ad cI cL cR hI u c N hG hg) (cwV 1 hts gX3_study_X3_countIncoming rfl rfl rfl (by decide +kernel) ⟨Nat.le_of_ble_eq_true rfl, Nat.le_of_ble_eq_true rfl⟩) (by decide) (ci := 3) rfl rfl rfl (st := []) rfl (Nat.le_of_ble_eq_true rfl) dX3_study_2 ⟨Nat.le_of_ble_eq_true rfl, Nat.le_of_ble_eq_true rfl⟩ (fun u2 h2 => ?_)
  refine z_aload_n C dX3_study_5 0 rfl ?_
  refine z_callVv xX_ok C hml hown hts hK hX (c_X3_startAtFirst l D ad cI cL cR hI u2 c hc1 N h2.1 h2.2.1 (by have := fb_ct_le (fun e => decide (N e = 0 + 1)) (8 * c); unfold k0i; omega)) (cwV 0 hts gX3_study_X3_startAtFirst rfl rfl rfl (by decide +kernel) ⟨Nat.le_of_ble_eq_true rfl, Nat.le_of_ble_eq_true rfl⟩) (by decide) (ci := 3) rfl rfl rfl (st := []) rfl (Nat.le_of_ble_eq_true rfl) dX3_study_6 ⟨Nat.le_of_ble_eq_true rfl, Nat.le_of_ble_eq_true rfl⟩ (fun u6 h6 => ?_)
  refine z_iconst (v := nI 0) C (by decide) dX3_study_9 ?_
  refine z_istore_n (L' := [(2, .int (nI 0)), (0, .ref (ad 28)), (1, .ref (ad 21))]) C dX3_study_10 (by decide) rfl ?_
  have loop11 : ∀ (d11 : Nat) (t : Nat) (w : xS), c - t < d11 → (kGo N (K0 c N) t) → (kRep w c (kRun N (K0 c N) t)) → (kFr u w) → ZZ pq l lq { frames := 3, cells := 0, slots := 0, locals := 70 } sq mq aq bq hmq cq D vwCl 34 ad 3 0 0 Qq (xF ad cI cL cR w) [(0, .ref (ad 28)), (1, .ref (ad 21)), (2, .int (nI t))] 11 [] := by
    intro d11
    induction d11 with
    | zero => intro t w hz; exact absurd hz (Nat.not_lt_zero _)
    | succ d11 ih11 =>
      intro t w hz11 hgo hw hF
      have hGw := gRep_fr hG hF
      have hJ := kGo_J hg (K0_J hc1 hg) t hgo
      have hqc := hJ.1.1.1.1
      have htc := hJ.2
      refine z_iload_n C dX3_study_11 2 rfl ?_
      refine z_aload_n C dX3_study_12 0 rfl ?_
      refine z_get (q := 28) C (T := TX3) (N := 8) (ci := 3) (own := RX3) (index := 46) (v := .int (w.1 28 4)) hT3 hown hK (by decide) rfl rfl 4 (by decide) (hts (.fieldLink RX3 46 "TriggerAnalyzer$Prospect" "queued" "I") (by decide +kernel)) (fun _ h9 => h9) rfl dX3_study_13 ?_
      refine z_topi (y := nI ((kRun N (K0 c N) t).2.2.2.2.1)) (hw.2.2.1) ?_
      refine z_icmp_ge (tgt := 43) C dX3_study_16 (by decide) (fun zc16 => ?_) (fun zc16 => ?_)
      · skip
        have zn16 := zge_t (a := t) (b := (kRun N (K0 c N) t).2.2.2.2.1) (by omega) (by omega) zc16
        refine z_aload_n C dX3_study_43 0 rfl ?_
        refine z_iload_n C dX3_study_44 2 rfl ?_
        refine z_aload_n C dX3_study_45 1 rfl ?_
        refine z_callVi xX_ok C hml hown hts hK hX (c_X1_size l D ad cI cL cR hI w) (cwV 0 hts gX3_study_X1_size rfl rfl rfl (by decide +kernel) ⟨Nat.le_of_ble_eq_true rfl, Nat.le_of_ble_eq_true rfl⟩) (by decide) (ci := 1) rfl rfl rfl (st := [.int (nI t), .ref (ad 28)]) rfl (Nat.le_of_ble_eq_true rfl) dX3_study_46 ⟨Nat.le_of_ble_eq_true rfl, Nat.le_of_ble_eq_true rfl⟩ (fun r46 u46 h46 => ?_)
        obtain ⟨zr46, zu46⟩ := h46
        subst r46
        subst u46
        refine z_topi (y := nI c) (hGw.2.1) ?_
        refine z_icmp_ne (tgt := 56) C dX3_study_49 (by decide) (fun zc49 => ?_) (fun zc49 => ?_)
        · skip
          have zn49 := zeq_f (a := t) (b := c) zc49
          refine z_iconst (v := nI 0) C (by decide) dX3_study_56 ?_
          refine z_put (q := 28) C hI tyX3 (T := TX3) (N := 8) (ci := 3) (own := RX3) (index := 25) hT3 hown hK (by decide) rfl rfl 5 (by decide) (hts (.fieldLink RX3 25 "TriggerAnalyzer$Prospect" "finite" "Z") (by decide +kernel)) (fun _ h9 => h9) tyX3_ok nmX3 rfl rfl rfl (Nat.le_of_ble_eq_true rfl) (f' := xF ad cI cL cR ((xs w 28 5 (nI 0)))) rfl xF_ne dX3_study_57 ?_
          exact z_vret C hr hlocks hQ ((xs w 28 5 (nI 0))) (⟨t, hgo, by omega, by rw [xs_s, if_neg zn49]; rfl, by rw [xs_j (by decide)]; exact hw.2.2.2.1, hw.2.2.2.2, kFr_s hF (by decide) (by decide)⟩) (fun _ _ => rfl) dX3_study_60
        · skip
          have zn49 := zeq_t (a := t) (b := c) (by omega) (by omega) zc49
          refine z_iconst (v := nI 1) C (by decide) dX3_study_52 ?_
          refine z_goto (tgt := 57) C dX3_study_53 (by decide) ?_
          refine z_put (q := 28) C hI tyX3 (T := TX3) (N := 8) (ci := 3) (own := RX3) (index := 25) hT3 hown hK (by decide) rfl rfl 5 (by decide) (hts (.fieldLink RX3 25 "TriggerAnalyzer$Prospect" "finite" "Z") (by decide +kernel)) (fun _ h9 => h9) tyX3_ok nmX3 rfl rfl rfl (Nat.le_of_ble_eq_true rfl) (f' := xF ad cI cL cR ((xs w 28 5 (nI 1)))) rfl xF_ne dX3_study_57 ?_
          exact z_vret C hr hlocks hQ ((xs w 28 5 (nI 1))) (⟨t, hgo, by omega, by rw [xs_s, if_pos zn49]; rfl, by rw [xs_j (by decide)]; exact hw.2.2.2.1, hw.2.2.2.2, kFr_s hF (by decide) (by decide)⟩) (fun _ _ => rfl) dX3_study_60
      · skip
        have zn16 := zge_f (a := t) (b := (kRun N (K0 c N) t).2.2.2.2.1) (by omega) (by omega) zc16
        refine z_iload_n C dX3_study_19 2 rfl ?_
        refine z_sipush (v := nI 1000) C (by decide) dX3_study_20 ?_
        refine z_icmp_ge (tgt := 43) C dX3_study_23 (by decide) (fun zc23 => ?_) (fun zc23 => ?_)
        · skip
          have zn23 := zge_t (a := t) (b := 1000) (by omega) (by omega) zc23
          exact False.elim (by omega)
        · skip
          have zn23 := zge_f (a := t) (b := 1000) (by omega) (by omega) zc23
          refine z_aload_n C dX3_study_26 0 rfl ?_
          refine z_aload_n C dX3_study_27 1 rfl ?_
          refine z_aload_n C dX3_study_28 0 rfl ?_
          refine z_get (q := 28) C (T := TX3) (N := 8) (ci := 3) (own := RX3) (index := 22) (v := .ref (ad 32)) hT3 hown hK (by decide) rfl rfl 3 (by decide) (hts (.fieldLink RX3 22 "TriggerAnalyzer$Prospect" "queue" "[I") (by decide +kernel)) (fun _ h9 => h9) rfl dX3_study_29 ?_
          refine z_iload_n C dX3_study_32 2 rfl ?_
          refine z_iald (q := 32) (len := 1000) (k := t) C hK (by decide) rfl 0 rfl (rfl) (by omega) (by decide) dX3_study_33 ?_
          refine z_topi (y := nI ((kRun N (K0 c N) t).2.2.2.1 t)) (hw.2.1 t zn16) ?_
          refine z_callVv xX_ok C hml hown hts hK hX (c_X3_take l D ad cI cL cR hI w c N hGw hg (kRun N (K0 c N) t) t hw (kJ_I hJ.1 zn16) zn16) (cwV 2 hts gX3_study_X3_take rfl rfl rfl (by decide +kernel) ⟨Nat.le_of_ble_eq_true rfl, Nat.le_of_ble_eq_true rfl⟩) (by decide) (ci := 3) rfl rfl rfl (st := []) rfl (Nat.le_of_ble_eq_true rfl) dX3_study_34 ⟨Nat.le_of_ble_eq_true rfl, Nat.le_of_ble_eq_true rfl⟩ (fun u34 h34 => ?_)
          refine z_iinc (L' := [(2, .int (nI (t + 1))), (0, .ref (ad 28)), (1, .ref (ad 21))]) C dX3_study_37 2 rfl (nI_1 t) (by decide) rfl ?_
          refine z_goto (tgt := 11) C dX3_study_40 (by decide) ?_
          refine z_sub (L' := [(0, .ref (ad 28)), (1, .ref (ad 21)), (2, .int (nI (t + 1)))]) [1, 2, 0] rfl ?_
          exact ih11 (t + 1) u34 (by omega) (fun m hm => by rcases Nat.lt_or_ge m t with z | z; exact hgo m z; rw [show m = t by omega]; exact zn16) h34.1 (kFr_tr hF h34.2)
  refine z_sub (L' := [(0, .ref (ad 28)), (1, .ref (ad 21)), (2, .int (nI 0))]) [1, 2, 0] rfl ?_
  exact loop11 (c + 1) 0 u6 (by omega) (fun m hm => absurd hm (Nat.not_lt_zero m)) h6.1 (kFr_tr h2.2.2 h6.2)
