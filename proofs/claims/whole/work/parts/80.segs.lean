set_option maxHeartbeats 4000000 in
set_option maxRecDepth 100000 in
theorem sg_addRule {p : Program} {l : Launch} {e : Env} {s : State} {m : MethodId} {below : List Frame} {meth : Method} {c : Code} {D : va_G} {ad : Nat → Nat} {cI cL cR cB cD : ClassId} {b Ln : Nat} {xs : Nat → Int32} {Qq : State → Prop} (C0 : LC p l s m c D ad cI cL cR cB cD b Ln xs) {j i : Nat} (hi : i = 5 * j) (hiL : i + 5 ≤ Ln) {u v : xS} {o : Nat → Int64} {d : Nat → UInt64} {n : Nat} {B : Nat → Nat → Nat} {x : Nat} (hJ : JI u v n B x) (hNext : ∀ (s' : hS) (v' : xS) (n' : Nat) (B' : Nat → Nat → Nat) (x' : Nat), JI s'.1 v' n' B' x' → ZZ p l e room_1 s m #[Value.ref b] below meth c D vwCl 48 ad 9 (100 + 2 * (j + 1)) (100000 + 1006 * (j + 1)) Qq (LF ad cI cL cR cB cD (s', v')) [(0, .ref b), (1, .ref (ad 33)), (2, .ref (ad 36)), (3, .ref (ad 34)), (4, .ref (ad 35)), (5, .int (nI (i + 5)))] 28 []) : ZZ p l e room_1 s m #[Value.ref b] below meth c D vwCl 48 ad 9 (100 + 2 * j) (100000 + 1006 * j) Qq (LF ad cI cL cR cB cD ((u, o, d), v)) [(0, .ref b), (1, .ref (ad 33)), (2, .ref (ad 36)), (3, .ref (ad 34)), (4, .ref (ad 35)), (5, .int (nI i))] 184 [] := by
  obtain ⟨C, hml, hown, hts, hK, hX, hI, hXs, hbl, hbA, hL, hst0⟩ := C0
  by_cases hb9 : xs (i + 2) = 0
  · obtain ⟨t, vl, n2, B2, y2, f, ht3, hH, hM⟩ := lc_addRule l hst0 D ad (am ad) cI cL cR cB cD (gI_n (by decide) hI) (gI_m hI) u v o d n B x hJ (xs (i + 1)) 0 (by decide) (xs (i + 3)) (xs (i + 4))
    refine z_aload_n C dL_law_184 1 rfl ?_
    refine z_aload_n C dL_law_185 0 rfl ?_
    refine z_iload C dL_law_186 5 rfl ?_
    refine z_iconst (v := nI 1) C (by decide) dL_law_188 ?_
    refine z_iadd C dL_law_189 ?_
    refine z_topi (y := nI (i + 1)) (nI_add i 1) ?_
    refine z_sld C hXs hbl hbA (k := i + 1) rfl (by omega) (by omega) dL_law_190 ?_
    refine z_aload_n C dL_law_191 0 rfl ?_
    refine z_iload C dL_law_192 5 rfl ?_
    refine z_iconst (v := nI 2) C (by decide) dL_law_194 ?_
    refine z_iadd C dL_law_195 ?_
    refine z_topi (y := nI (i + 2)) (nI_add i 2) ?_
    refine z_sld C hXs hbl hbA (k := i + 2) rfl (by omega) (by omega) dL_law_196 ?_
    refine z_if_eq (tgt := 204) C dL_law_197 (by decide) (fun zc197 => ?_) (fun zc197 => ?_)
    · skip
      refine z_iconst (v := nI 0) C (by decide) dL_law_204 ?_
      refine z_aload_n C dL_law_205 0 rfl ?_
      refine z_iload C dL_law_206 5 rfl ?_
      refine z_iconst (v := nI 3) C (by decide) dL_law_208 ?_
      refine z_iadd C dL_law_209 ?_
      refine z_topi (y := nI (i + 3)) (nI_add i 3) ?_
      refine z_sld C hXs hbl hbA (k := i + 3) rfl (by omega) (by omega) dL_law_210 ?_
      refine z_aload_n C dL_law_211 0 rfl ?_
      refine z_iload C dL_law_212 5 rfl ?_
      refine z_iconst (v := nI 4) C (by decide) dL_law_214 ?_
      refine z_iadd C dL_law_215 ?_
      refine z_topi (y := nI (i + 4)) (nI_add i 4) ?_
      refine z_sld C hXs hbl hbA (k := i + 4) rfl (by omega) (by omega) dL_law_216 ?_
      refine z_aload_n C dL_law_217 3 rfl ?_
      refine z_callWi lX_ok C hml hown hts hK hX (fun sz => z_liftI (σ := id) (F := fun s9 => LF ad cI cL cR cB cD (s9, v)) (F1 := hF ad cI cL cR cD) (f1 := hF ad cI cL cR cD (u, o, d)) (zLh hI) (fun _ h => h) lX_h (fun k hk => LF_h k hk) (fun _ k hk => LF_h k hk) LF_h2 (fun _ _ h => h) (hH sz)) (vx_cwSW 6 hts gL_law_L_addRule rfl rfl rfl (by decide +kernel) ⟨Nat.le_of_ble_eq_true rfl, Nat.le_of_ble_eq_true rfl⟩) rfl (st := []) rfl (Nat.le_of_ble_eq_true rfl) dL_law_218 ⟨by show 100 + 2 * j + 1 ≤ 601024; omega, by show 100000 + 1006 * j + 6 ≤ 7293034; omega⟩ (fun r218 s218 h218 => ?_)
      obtain ⟨e218, hval, hxq⟩ := h218
      subst e218
      refine z_istore (L' := [(6, .int (nI t)), (0, .ref (b)), (1, .ref (ad 33)), (2, .ref (ad 36)), (3, .ref (ad 34)), (4, .ref (ad 35)), (5, .int (nI i))]) C dL_law_221 (by decide) rfl ?_
      refine z_aload_n C dL_law_223 3 rfl ?_
      refine z_aload_n C dL_law_224 1 rfl ?_
      refine z_iload C dL_law_225 6 rfl ?_
      refine z_iconst (v := nI 1) C (by decide) dL_law_227 ?_
      refine z_iadd C dL_law_228 ?_
      refine z_topi (y := nI (i + 1)) (nI_add i 1) ?_
      refine z_sld C hXs hbl hbA (k := i + 1) rfl (by omega) (by omega) dL_law_229 ?_
      refine z_aload_n C dL_law_230 1 rfl ?_
      refine z_iload C dL_law_231 6 rfl ?_
      refine z_iconst (v := nI 2) C (by decide) dL_law_233 ?_
      refine z_iadd C dL_law_234 ?_
      refine z_topi (y := nI (i + 2)) (nI_add i 2) ?_
      refine z_sld C hXs hbl hbA (k := i + 2) rfl (by omega) (by omega) dL_law_235 ?_
      refine z_if_eq (tgt := 243) C dL_law_236 (by decide) (fun zc236 => ?_) (fun zc236 => ?_)
      · skip
        refine z_iconst (v := nI 0) C (by decide) dL_law_243 ?_
        refine z_aload_n C dL_law_244 1 rfl ?_
        refine z_iload C dL_law_245 6 rfl ?_
        refine z_iconst (v := nI 3) C (by decide) dL_law_247 ?_
        refine z_iadd C dL_law_248 ?_
        refine z_topi (y := nI (i + 3)) (nI_add i 3) ?_
        refine z_sld C hXs hbl hbA (k := i + 3) rfl (by omega) (by omega) dL_law_249 ?_
        refine z_aload_n C dL_law_250 1 rfl ?_
        refine z_iload C dL_law_251 6 rfl ?_
        refine z_iconst (v := nI 4) C (by decide) dL_law_253 ?_
        refine z_iadd C dL_law_254 ?_
        refine z_topi (y := nI (i + 4)) (nI_add i 4) ?_
        refine z_sld C hXs hbl hbA (k := i + 4) rfl (by omega) (by omega) dL_law_255 ?_
        refine z_callVi (q := 36) lX_ok C hml hown hts hK hX (fun sz => z_liftI (σ := fun k => 36 + k) (F := fun v9 => LF ad cI cL cR cB cD (s218, v9)) (F1 := mF (am ad) cI cL cB) (f1 := mF (am ad) cI cL cB v) (zLm hI) lK_m (fun _ _ => trivial) (fun k hk => LF_m k hk) (fun _ k hk => LF_m k hk) LF_m2 (fun _ _ h => h) (hM sz)) (cwV 4 hts gL_law_X7_addRule rfl rfl rfl (by decide +kernel) ⟨Nat.le_of_ble_eq_true rfl, Nat.le_of_ble_eq_true rfl⟩) (by decide) (ci := 7) rfl rfl rfl (st := []) rfl (Nat.le_of_ble_eq_true rfl) dL_law_256 ⟨by show 100 + 2 * j + 1 + 0 ≤ 601024; omega, by show 100000 + 1006 * j + 6 + 0 ≤ 7293034; omega⟩ (fun r256 v256 h256 => ?_)
        obtain ⟨e256, hth, hmq⟩ := h256
        subst e256
        refine z_istore (L' := [(7, .int (r256)), (6, .int (nI t)), (0, .ref (b)), (1, .ref (ad 33)), (2, .ref (ad 36)), (3, .ref (ad 34)), (4, .ref (ad 35)), (5, .int (nI i))]) C dL_law_259 (by decide) rfl ?_
        refine z_aload_n C dL_law_261 4 rfl ?_
        refine z_callVi (q := 36) lX_ok C hml hown hts hK hX (fun sz => z_liftI (σ := fun k => 36 + k) (F := fun v9 => LF ad cI cL cR cB cD (s218, v9)) (F1 := mF (am ad) cI cL cB) (f1 := mF (am ad) cI cL cB v256) (zLm hI) lK_m (fun _ _ => trivial) (fun k hk => LF_m k hk) (fun _ k hk => LF_m k hk) LF_m2 (fun _ _ h => h) (c_X7_thrown l D (am ad) cI cL cB (gI_m hI) v256 sz)) (cwV 0 hts gL_law_X7_thrown rfl rfl rfl (by decide +kernel) ⟨Nat.le_of_ble_eq_true rfl, Nat.le_of_ble_eq_true rfl⟩) (by decide) (ci := 7) rfl rfl rfl (st := []) rfl (Nat.le_of_ble_eq_true rfl) dL_law_262 ⟨by show 100 + 2 * j + 1 + 0 + 0 ≤ 601024; omega, by show 100000 + 1006 * j + 6 + 0 + 0 ≤ 7293034; omega⟩ (fun r262 v262 h262 => ?_)
        obtain ⟨e262, f262⟩ := h262
        subst f262
        subst e262
        refine z_topi (y := nI t) hth ?_
        refine z_iload C dL_law_265 1 rfl ?_
        refine z_icmp_eq (tgt := 272) C dL_law_267 (by decide) (fun zc267 => ?_) (fun zc267 => ?_)
        · skip
          have zn267 := zeq_t (a := t) (b := t) (by omega) (by omega) zc267
          refine z_iload C dL_law_272 1 rfl ?_
          refine z_if_ne (tgt := 289) C dL_law_274 (by decide) (fun zc274 => ?_) (fun zc274 => ?_)
          · skip
            have zn274 := z0_f zc274
            refine z_goto (tgt := 1770) C dL_law_289 (by decide) ?_
            refine z_iinc (L' := [(5, .int (nI (i + 5))), (7, .int (r256)), (6, .int (nI t)), (0, .ref (b)), (1, .ref (ad 33)), (2, .ref (ad 36)), (3, .ref (ad 34)), (4, .ref (ad 35))]) C dL_law_1770 7 rfl (nI_5 i) (by decide) rfl ?_
            refine z_goto (tgt := 28) C dL_law_1773 (by decide) ?_
            refine z_sub (L' := [(0, .ref b), (1, .ref (ad 33)), (2, .ref (ad 36)), (3, .ref (ad 34)), (4, .ref (ad 35)), (5, .int (nI (i + 5)))]) [3, 4, 5, 6, 7, 0] rfl ?_
            refine z_widen (k := 100 + 2 * (j + 1)) (q := 100000 + 1006 * (j + 1)) (by omega) (by omega) ?_
            exact hNext s218 v262 n2 B2 y2 (JI_of hxq hmq)
          · skip
            have zn274 := z0_t (by omega) zc274
            have hzt : t = 0 := zn274
            refine z_aload_n C dL_law_277 5 rfl ?_
            refine z_iconst (v := nI 0) C (by decide) dL_law_278 ?_
            refine z_lald (q := 34) (len := 1) (k := 0) C hK (by decide) rfl 1 rfl rfl (by decide) (by decide) dL_law_279 ?_
            refine z_topl (y := r256.toInt64) (hval hzt) ?_
            refine z_iload C dL_law_280 0 rfl ?_
            refine z_i2l C rfl dL_law_282 ?_
            refine z_lcmp C dL_law_283 ?_
            refine z_topi (y := nI 0) (lgc _) ?_
            refine z_if_eq (tgt := 289) C dL_law_284 (by decide) (fun zc284 => ?_) (fun zc284 => ?_)
            · skip
              have zn284 := z0_t (by omega) zc284
              refine z_goto (tgt := 1770) C dL_law_289 (by decide) ?_
              refine z_iinc (L' := [(5, .int (nI (i + 5))), (7, .int (r256)), (6, .int (nI t)), (0, .ref (b)), (1, .ref (ad 33)), (2, .ref (ad 36)), (3, .ref (ad 34)), (4, .ref (ad 35))]) C dL_law_1770 7 rfl (nI_5 i) (by decide) rfl ?_
              refine z_goto (tgt := 28) C dL_law_1773 (by decide) ?_
              refine z_sub (L' := [(0, .ref b), (1, .ref (ad 33)), (2, .ref (ad 36)), (3, .ref (ad 34)), (4, .ref (ad 35)), (5, .int (nI (i + 5)))]) [3, 4, 5, 6, 7, 0] rfl ?_
              refine z_widen (k := 100 + 2 * (j + 1)) (q := 100000 + 1006 * (j + 1)) (by omega) (by omega) ?_
              exact hNext s218 v262 n2 B2 y2 (JI_of hxq hmq)
            · skip
              have zn284 := z0_f zc284
              exact absurd zn284 (by decide)
        · skip
          have zn267 := zeq_f (a := t) (b := t) zc267
          exact False.elim (zc267 rfl)
      · skip
        exact False.elim (zc236 hb9)
    · skip
      exact False.elim (zc197 hb9)
  · obtain ⟨t, vl, n2, B2, y2, f, ht3, hH, hM⟩ := lc_addRule l hst0 D ad (am ad) cI cL cR cB cD (gI_n (by decide) hI) (gI_m hI) u v o d n B x hJ (xs (i + 1)) 1 (by decide) (xs (i + 3)) (xs (i + 4))
    refine z_aload_n C dL_law_184 1 rfl ?_
    refine z_aload_n C dL_law_185 0 rfl ?_
    refine z_iload C dL_law_186 5 rfl ?_
    refine z_iconst (v := nI 1) C (by decide) dL_law_188 ?_
    refine z_iadd C dL_law_189 ?_
    refine z_topi (y := nI (i + 1)) (nI_add i 1) ?_
    refine z_sld C hXs hbl hbA (k := i + 1) rfl (by omega) (by omega) dL_law_190 ?_
    refine z_aload_n C dL_law_191 0 rfl ?_
    refine z_iload C dL_law_192 5 rfl ?_
    refine z_iconst (v := nI 2) C (by decide) dL_law_194 ?_
    refine z_iadd C dL_law_195 ?_
    refine z_topi (y := nI (i + 2)) (nI_add i 2) ?_
    refine z_sld C hXs hbl hbA (k := i + 2) rfl (by omega) (by omega) dL_law_196 ?_
    refine z_if_eq (tgt := 204) C dL_law_197 (by decide) (fun zc197 => ?_) (fun zc197 => ?_)
    · skip
      exact False.elim (hb9 zc197)
    · skip
      refine z_iconst (v := nI 1) C (by decide) dL_law_200 ?_
      refine z_goto (tgt := 205) C dL_law_201 (by decide) ?_
      refine z_aload_n C dL_law_205 0 rfl ?_
      refine z_iload C dL_law_206 5 rfl ?_
      refine z_iconst (v := nI 3) C (by decide) dL_law_208 ?_
      refine z_iadd C dL_law_209 ?_
      refine z_topi (y := nI (i + 3)) (nI_add i 3) ?_
      refine z_sld C hXs hbl hbA (k := i + 3) rfl (by omega) (by omega) dL_law_210 ?_
      refine z_aload_n C dL_law_211 0 rfl ?_
      refine z_iload C dL_law_212 5 rfl ?_
      refine z_iconst (v := nI 4) C (by decide) dL_law_214 ?_
      refine z_iadd C dL_law_215 ?_
      refine z_topi (y := nI (i + 4)) (nI_add i 4) ?_
      refine z_sld C hXs hbl hbA (k := i + 4) rfl (by omega) (by omega) dL_law_216 ?_
      refine z_aload_n C dL_law_217 3 rfl ?_
      refine z_callWi lX_ok C hml hown hts hK hX (fun sz => z_liftI (σ := id) (F := fun s9 => LF ad cI cL cR cB cD (s9, v)) (F1 := hF ad cI cL cR cD) (f1 := hF ad cI cL cR cD (u, o, d)) (zLh hI) (fun _ h => h) lX_h (fun k hk => LF_h k hk) (fun _ k hk => LF_h k hk) LF_h2 (fun _ _ h => h) (hH sz)) (vx_cwSW 6 hts gL_law_L_addRule rfl rfl rfl (by decide +kernel) ⟨Nat.le_of_ble_eq_true rfl, Nat.le_of_ble_eq_true rfl⟩) rfl (st := []) rfl (Nat.le_of_ble_eq_true rfl) dL_law_218 ⟨by show 100 + 2 * j + 1 ≤ 601024; omega, by show 100000 + 1006 * j + 6 ≤ 7293034; omega⟩ (fun r218 s218 h218 => ?_)
      obtain ⟨e218, hval, hxq⟩ := h218
      subst e218
      refine z_istore (L' := [(6, .int (nI t)), (0, .ref (b)), (1, .ref (ad 33)), (2, .ref (ad 36)), (3, .ref (ad 34)), (4, .ref (ad 35)), (5, .int (nI i))]) C dL_law_221 (by decide) rfl ?_
      refine z_aload_n C dL_law_223 3 rfl ?_
      refine z_aload_n C dL_law_224 1 rfl ?_
      refine z_iload C dL_law_225 6 rfl ?_
      refine z_iconst (v := nI 1) C (by decide) dL_law_227 ?_
      refine z_iadd C dL_law_228 ?_
      refine z_topi (y := nI (i + 1)) (nI_add i 1) ?_
      refine z_sld C hXs hbl hbA (k := i + 1) rfl (by omega) (by omega) dL_law_229 ?_
      refine z_aload_n C dL_law_230 1 rfl ?_
      refine z_iload C dL_law_231 6 rfl ?_
      refine z_iconst (v := nI 2) C (by decide) dL_law_233 ?_
      refine z_iadd C dL_law_234 ?_
      refine z_topi (y := nI (i + 2)) (nI_add i 2) ?_
      refine z_sld C hXs hbl hbA (k := i + 2) rfl (by omega) (by omega) dL_law_235 ?_
      refine z_if_eq (tgt := 243) C dL_law_236 (by decide) (fun zc236 => ?_) (fun zc236 => ?_)
      · skip
        exact False.elim (hb9 zc236)
      · skip
        refine z_iconst (v := nI 1) C (by decide) dL_law_239 ?_
        refine z_goto (tgt := 244) C dL_law_240 (by decide) ?_
        refine z_aload_n C dL_law_244 1 rfl ?_
        refine z_iload C dL_law_245 6 rfl ?_
        refine z_iconst (v := nI 3) C (by decide) dL_law_247 ?_
        refine z_iadd C dL_law_248 ?_
        refine z_topi (y := nI (i + 3)) (nI_add i 3) ?_
        refine z_sld C hXs hbl hbA (k := i + 3) rfl (by omega) (by omega) dL_law_249 ?_
        refine z_aload_n C dL_law_250 1 rfl ?_
        refine z_iload C dL_law_251 6 rfl ?_
        refine z_iconst (v := nI 4) C (by decide) dL_law_253 ?_
        refine z_iadd C dL_law_254 ?_
        refine z_topi (y := nI (i + 4)) (nI_add i 4) ?_
        refine z_sld C hXs hbl hbA (k := i + 4) rfl (by omega) (by omega) dL_law_255 ?_
        refine z_callVi (q := 36) lX_ok C hml hown hts hK hX (fun sz => z_liftI (σ := fun k => 36 + k) (F := fun v9 => LF ad cI cL cR cB cD (s218, v9)) (F1 := mF (am ad) cI cL cB) (f1 := mF (am ad) cI cL cB v) (zLm hI) lK_m (fun _ _ => trivial) (fun k hk => LF_m k hk) (fun _ k hk => LF_m k hk) LF_m2 (fun _ _ h => h) (hM sz)) (cwV 4 hts gL_law_X7_addRule rfl rfl rfl (by decide +kernel) ⟨Nat.le_of_ble_eq_true rfl, Nat.le_of_ble_eq_true rfl⟩) (by decide) (ci := 7) rfl rfl rfl (st := []) rfl (Nat.le_of_ble_eq_true rfl) dL_law_256 ⟨by show 100 + 2 * j + 1 + 0 ≤ 601024; omega, by show 100000 + 1006 * j + 6 + 0 ≤ 7293034; omega⟩ (fun r256 v256 h256 => ?_)
        obtain ⟨e256, hth, hmq⟩ := h256
        subst e256
        refine z_istore (L' := [(7, .int (r256)), (6, .int (nI t)), (0, .ref (b)), (1, .ref (ad 33)), (2, .ref (ad 36)), (3, .ref (ad 34)), (4, .ref (ad 35)), (5, .int (nI i))]) C dL_law_259 (by decide) rfl ?_
        refine z_aload_n C dL_law_261 4 rfl ?_
        refine z_callVi (q := 36) lX_ok C hml hown hts hK hX (fun sz => z_liftI (σ := fun k => 36 + k) (F := fun v9 => LF ad cI cL cR cB cD (s218, v9)) (F1 := mF (am ad) cI cL cB) (f1 := mF (am ad) cI cL cB v256) (zLm hI) lK_m (fun _ _ => trivial) (fun k hk => LF_m k hk) (fun _ k hk => LF_m k hk) LF_m2 (fun _ _ h => h) (c_X7_thrown l D (am ad) cI cL cB (gI_m hI) v256 sz)) (cwV 0 hts gL_law_X7_thrown rfl rfl rfl (by decide +kernel) ⟨Nat.le_of_ble_eq_true rfl, Nat.le_of_ble_eq_true rfl⟩) (by decide) (ci := 7) rfl rfl rfl (st := []) rfl (Nat.le_of_ble_eq_true rfl) dL_law_262 ⟨by show 100 + 2 * j + 1 + 0 + 0 ≤ 601024; omega, by show 100000 + 1006 * j + 6 + 0 + 0 ≤ 7293034; omega⟩ (fun r262 v262 h262 => ?_)
        obtain ⟨e262, f262⟩ := h262
        subst f262
        subst e262
        refine z_topi (y := nI t) hth ?_
        refine z_iload C dL_law_265 1 rfl ?_
        refine z_icmp_eq (tgt := 272) C dL_law_267 (by decide) (fun zc267 => ?_) (fun zc267 => ?_)
        · skip
          have zn267 := zeq_t (a := t) (b := t) (by omega) (by omega) zc267
          refine z_iload C dL_law_272 1 rfl ?_
          refine z_if_ne (tgt := 289) C dL_law_274 (by decide) (fun zc274 => ?_) (fun zc274 => ?_)
          · skip
            have zn274 := z0_f zc274
            refine z_goto (tgt := 1770) C dL_law_289 (by decide) ?_
            refine z_iinc (L' := [(5, .int (nI (i + 5))), (7, .int (r256)), (6, .int (nI t)), (0, .ref (b)), (1, .ref (ad 33)), (2, .ref (ad 36)), (3, .ref (ad 34)), (4, .ref (ad 35))]) C dL_law_1770 7 rfl (nI_5 i) (by decide) rfl ?_
            refine z_goto (tgt := 28) C dL_law_1773 (by decide) ?_
            refine z_sub (L' := [(0, .ref b), (1, .ref (ad 33)), (2, .ref (ad 36)), (3, .ref (ad 34)), (4, .ref (ad 35)), (5, .int (nI (i + 5)))]) [3, 4, 5, 6, 7, 0] rfl ?_
            refine z_widen (k := 100 + 2 * (j + 1)) (q := 100000 + 1006 * (j + 1)) (by omega) (by omega) ?_
            exact hNext s218 v262 n2 B2 y2 (JI_of hxq hmq)
          · skip
            have zn274 := z0_t (by omega) zc274
            have hzt : t = 0 := zn274
            refine z_aload_n C dL_law_277 5 rfl ?_
            refine z_iconst (v := nI 0) C (by decide) dL_law_278 ?_
            refine z_lald (q := 34) (len := 1) (k := 0) C hK (by decide) rfl 1 rfl rfl (by decide) (by decide) dL_law_279 ?_
            refine z_topl (y := r256.toInt64) (hval hzt) ?_
            refine z_iload C dL_law_280 0 rfl ?_
            refine z_i2l C rfl dL_law_282 ?_
            refine z_lcmp C dL_law_283 ?_
            refine z_topi (y := nI 0) (lgc _) ?_
            refine z_if_eq (tgt := 289) C dL_law_284 (by decide) (fun zc284 => ?_) (fun zc284 => ?_)
            · skip
              have zn284 := z0_t (by omega) zc284
              refine z_goto (tgt := 1770) C dL_law_289 (by decide) ?_
              refine z_iinc (L' := [(5, .int (nI (i + 5))), (7, .int (r256)), (6, .int (nI t)), (0, .ref (b)), (1, .ref (ad 33)), (2, .ref (ad 36)), (3, .ref (ad 34)), (4, .ref (ad 35))]) C dL_law_1770 7 rfl (nI_5 i) (by decide) rfl ?_
              refine z_goto (tgt := 28) C dL_law_1773 (by decide) ?_
              refine z_sub (L' := [(0, .ref b), (1, .ref (ad 33)), (2, .ref (ad 36)), (3, .ref (ad 34)), (4, .ref (ad 35)), (5, .int (nI (i + 5)))]) [3, 4, 5, 6, 7, 0] rfl ?_
              refine z_widen (k := 100 + 2 * (j + 1)) (q := 100000 + 1006 * (j + 1)) (by omega) (by omega) ?_
              exact hNext s218 v262 n2 B2 y2 (JI_of hxq hmq)
            · skip
              have zn284 := z0_f zc284
              exact absurd zn284 (by decide)
        · skip
          have zn267 := zeq_f (a := t) (b := t) zc267
          exact False.elim (zc267 rfl)

set_option maxHeartbeats 4000000 in
set_option maxRecDepth 100000 in
theorem sg_addAction {p : Program} {l : Launch} {e : Env} {s : State} {m : MethodId} {below : List Frame} {meth : Method} {c : Code} {D : va_G} {ad : Nat → Nat} {cI cL cR cB cD : ClassId} {b Ln : Nat} {xs : Nat → Int32} {Qq : State → Prop} (C0 : LC p l s m c D ad cI cL cR cB cD b Ln xs) {j i : Nat} (hi : i = 5 * j) (hiL : i + 5 ≤ Ln) {u v : xS} {o : Nat → Int64} {d : Nat → UInt64} {n : Nat} {B : Nat → Nat → Nat} {x : Nat} (hJ : JI u v n B x) (hNext : ∀ (s' : hS) (v' : xS) (n' : Nat) (B' : Nat → Nat → Nat) (x' : Nat), JI s'.1 v' n' B' x' → ZZ p l e room_1 s m #[Value.ref b] below meth c D vwCl 48 ad 9 (100 + 2 * (j + 1)) (100000 + 1006 * (j + 1)) Qq (LF ad cI cL cR cB cD (s', v')) [(0, .ref b), (1, .ref (ad 33)), (2, .ref (ad 36)), (3, .ref (ad 34)), (4, .ref (ad 35)), (5, .int (nI (i + 5)))] 28 []) : ZZ p l e room_1 s m #[Value.ref b] below meth c D vwCl 48 ad 9 (100 + 2 * j) (100000 + 1006 * j) Qq (LF ad cI cL cR cB cD ((u, o, d), v)) [(0, .ref b), (1, .ref (ad 33)), (2, .ref (ad 36)), (3, .ref (ad 34)), (4, .ref (ad 35)), (5, .int (nI i))] 292 [] := by
  obtain ⟨C, hml, hown, hts, hK, hX, hI, hXs, hbl, hbA, hL, hst0⟩ := C0
  by_cases hb9 : xs (i + 3) = 0
  · obtain ⟨t, vl, n2, B2, y2, f, ht3, hH, hM⟩ := lc_addAction l hst0 D ad (am ad) cI cL cR cB cD (gI_n (by decide) hI) (gI_m hI) u v o d n B x hJ (xs (i + 1)) (xs (i + 2)) 0 (by decide)
    refine z_aload_n C dL_law_292 1 rfl ?_
    refine z_aload_n C dL_law_293 0 rfl ?_
    refine z_iload C dL_law_294 5 rfl ?_
    refine z_iconst (v := nI 1) C (by decide) dL_law_296 ?_
    refine z_iadd C dL_law_297 ?_
    refine z_topi (y := nI (i + 1)) (nI_add i 1) ?_
    refine z_sld C hXs hbl hbA (k := i + 1) rfl (by omega) (by omega) dL_law_298 ?_
    refine z_aload_n C dL_law_299 0 rfl ?_
    refine z_iload C dL_law_300 5 rfl ?_
    refine z_iconst (v := nI 2) C (by decide) dL_law_302 ?_
    refine z_iadd C dL_law_303 ?_
    refine z_topi (y := nI (i + 2)) (nI_add i 2) ?_
    refine z_sld C hXs hbl hbA (k := i + 2) rfl (by omega) (by omega) dL_law_304 ?_
    refine z_aload_n C dL_law_305 0 rfl ?_
    refine z_iload C dL_law_306 5 rfl ?_
    refine z_iconst (v := nI 3) C (by decide) dL_law_308 ?_
    refine z_iadd C dL_law_309 ?_
    refine z_topi (y := nI (i + 3)) (nI_add i 3) ?_
    refine z_sld C hXs hbl hbA (k := i + 3) rfl (by omega) (by omega) dL_law_310 ?_
    refine z_if_eq (tgt := 318) C dL_law_311 (by decide) (fun zc311 => ?_) (fun zc311 => ?_)
    · skip
      refine z_iconst (v := nI 0) C (by decide) dL_law_318 ?_
      refine z_aload_n C dL_law_319 3 rfl ?_
      refine z_callWi lX_ok C hml hown hts hK hX (fun sz => z_liftI (σ := id) (F := fun s9 => LF ad cI cL cR cB cD (s9, v)) (F1 := hF ad cI cL cR cD) (f1 := hF ad cI cL cR cD (u, o, d)) (zLh hI) (fun _ h => h) lX_h (fun k hk => LF_h k hk) (fun _ k hk => LF_h k hk) LF_h2 (fun _ _ h => h) (hH sz)) (vx_cwSW 5 hts gL_law_L_addAction rfl rfl rfl (by decide +kernel) ⟨Nat.le_of_ble_eq_true rfl, Nat.le_of_ble_eq_true rfl⟩) rfl (st := []) rfl (Nat.le_of_ble_eq_true rfl) dL_law_320 ⟨by show 100 + 2 * j + 1 ≤ 601024; omega, by show 100000 + 1006 * j + 6 ≤ 7293034; omega⟩ (fun r320 s320 h320 => ?_)
      obtain ⟨e320, hval, hxq⟩ := h320
      subst e320
      refine z_istore (L' := [(6, .int (nI t)), (0, .ref (b)), (1, .ref (ad 33)), (2, .ref (ad 36)), (3, .ref (ad 34)), (4, .ref (ad 35)), (5, .int (nI i))]) C dL_law_323 (by decide) rfl ?_
      refine z_aload_n C dL_law_325 3 rfl ?_
      refine z_aload_n C dL_law_326 1 rfl ?_
      refine z_iload C dL_law_327 6 rfl ?_
      refine z_iconst (v := nI 1) C (by decide) dL_law_329 ?_
      refine z_iadd C dL_law_330 ?_
      refine z_topi (y := nI (i + 1)) (nI_add i 1) ?_
      refine z_sld C hXs hbl hbA (k := i + 1) rfl (by omega) (by omega) dL_law_331 ?_
      refine z_aload_n C dL_law_332 1 rfl ?_
      refine z_iload C dL_law_333 6 rfl ?_
      refine z_iconst (v := nI 2) C (by decide) dL_law_335 ?_
      refine z_iadd C dL_law_336 ?_
      refine z_topi (y := nI (i + 2)) (nI_add i 2) ?_
      refine z_sld C hXs hbl hbA (k := i + 2) rfl (by omega) (by omega) dL_law_337 ?_
      refine z_aload_n C dL_law_338 1 rfl ?_
      refine z_iload C dL_law_339 6 rfl ?_
      refine z_iconst (v := nI 3) C (by decide) dL_law_341 ?_
      refine z_iadd C dL_law_342 ?_
      refine z_topi (y := nI (i + 3)) (nI_add i 3) ?_
      refine z_sld C hXs hbl hbA (k := i + 3) rfl (by omega) (by omega) dL_law_343 ?_
      refine z_if_eq (tgt := 351) C dL_law_344 (by decide) (fun zc344 => ?_) (fun zc344 => ?_)
      · skip
        refine z_iconst (v := nI 0) C (by decide) dL_law_351 ?_
        refine z_callVi (q := 36) lX_ok C hml hown hts hK hX (fun sz => z_liftI (σ := fun k => 36 + k) (F := fun v9 => LF ad cI cL cR cB cD (s320, v9)) (F1 := mF (am ad) cI cL cB) (f1 := mF (am ad) cI cL cB v) (zLm hI) lK_m (fun _ _ => trivial) (fun k hk => LF_m k hk) (fun _ k hk => LF_m k hk) LF_m2 (fun _ _ h => h) (hM sz)) (cwV 3 hts gL_law_X7_addAction rfl rfl rfl (by decide +kernel) ⟨Nat.le_of_ble_eq_true rfl, Nat.le_of_ble_eq_true rfl⟩) (by decide) (ci := 7) rfl rfl rfl (st := []) rfl (Nat.le_of_ble_eq_true rfl) dL_law_352 ⟨by show 100 + 2 * j + 1 + 0 ≤ 601024; omega, by show 100000 + 1006 * j + 6 + 0 ≤ 7293034; omega⟩ (fun r352 v352 h352 => ?_)
        obtain ⟨e352, hth, hmq⟩ := h352
        subst e352
        refine z_istore (L' := [(7, .int (r352)), (6, .int (nI t)), (0, .ref (b)), (1, .ref (ad 33)), (2, .ref (ad 36)), (3, .ref (ad 34)), (4, .ref (ad 35)), (5, .int (nI i))]) C dL_law_355 (by decide) rfl ?_
        refine z_aload_n C dL_law_357 4 rfl ?_
        refine z_callVi (q := 36) lX_ok C hml hown hts hK hX (fun sz => z_liftI (σ := fun k => 36 + k) (F := fun v9 => LF ad cI cL cR cB cD (s320, v9)) (F1 := mF (am ad) cI cL cB) (f1 := mF (am ad) cI cL cB v352) (zLm hI) lK_m (fun _ _ => trivial) (fun k hk => LF_m k hk) (fun _ k hk => LF_m k hk) LF_m2 (fun _ _ h => h) (c_X7_thrown l D (am ad) cI cL cB (gI_m hI) v352 sz)) (cwV 0 hts gL_law_X7_thrown rfl rfl rfl (by decide +kernel) ⟨Nat.le_of_ble_eq_true rfl, Nat.le_of_ble_eq_true rfl⟩) (by decide) (ci := 7) rfl rfl rfl (st := []) rfl (Nat.le_of_ble_eq_true rfl) dL_law_358 ⟨by show 100 + 2 * j + 1 + 0 + 0 ≤ 601024; omega, by show 100000 + 1006 * j + 6 + 0 + 0 ≤ 7293034; omega⟩ (fun r358 v358 h358 => ?_)
        obtain ⟨e358, f358⟩ := h358
        subst f358
        subst e358
        refine z_topi (y := nI t) hth ?_
        refine z_iload C dL_law_361 1 rfl ?_
        refine z_icmp_eq (tgt := 368) C dL_law_363 (by decide) (fun zc363 => ?_) (fun zc363 => ?_)
        · skip
          have zn363 := zeq_t (a := t) (b := t) (by omega) (by omega) zc363
          refine z_iload C dL_law_368 1 rfl ?_
          refine z_if_ne (tgt := 385) C dL_law_370 (by decide) (fun zc370 => ?_) (fun zc370 => ?_)
          · skip
            have zn370 := z0_f zc370
            refine z_goto (tgt := 1770) C dL_law_385 (by decide) ?_
            refine z_iinc (L' := [(5, .int (nI (i + 5))), (7, .int (r352)), (6, .int (nI t)), (0, .ref (b)), (1, .ref (ad 33)), (2, .ref (ad 36)), (3, .ref (ad 34)), (4, .ref (ad 35))]) C dL_law_1770 7 rfl (nI_5 i) (by decide) rfl ?_
            refine z_goto (tgt := 28) C dL_law_1773 (by decide) ?_
            refine z_sub (L' := [(0, .ref b), (1, .ref (ad 33)), (2, .ref (ad 36)), (3, .ref (ad 34)), (4, .ref (ad 35)), (5, .int (nI (i + 5)))]) [3, 4, 5, 6, 7, 0] rfl ?_
            refine z_widen (k := 100 + 2 * (j + 1)) (q := 100000 + 1006 * (j + 1)) (by omega) (by omega) ?_
            exact hNext s320 v358 n2 B2 y2 (JI_of hxq hmq)
          · skip
            have zn370 := z0_t (by omega) zc370
            have hzt : t = 0 := zn370
            refine z_aload_n C dL_law_373 5 rfl ?_
            refine z_iconst (v := nI 0) C (by decide) dL_law_374 ?_
            refine z_lald (q := 34) (len := 1) (k := 0) C hK (by decide) rfl 1 rfl rfl (by decide) (by decide) dL_law_375 ?_
            refine z_topl (y := r352.toInt64) (hval hzt) ?_
            refine z_iload C dL_law_376 0 rfl ?_
            refine z_i2l C rfl dL_law_378 ?_
            refine z_lcmp C dL_law_379 ?_
            refine z_topi (y := nI 0) (lgc _) ?_
            refine z_if_eq (tgt := 385) C dL_law_380 (by decide) (fun zc380 => ?_) (fun zc380 => ?_)
            · skip
              have zn380 := z0_t (by omega) zc380
              refine z_goto (tgt := 1770) C dL_law_385 (by decide) ?_
              refine z_iinc (L' := [(5, .int (nI (i + 5))), (7, .int (r352)), (6, .int (nI t)), (0, .ref (b)), (1, .ref (ad 33)), (2, .ref (ad 36)), (3, .ref (ad 34)), (4, .ref (ad 35))]) C dL_law_1770 7 rfl (nI_5 i) (by decide) rfl ?_
              refine z_goto (tgt := 28) C dL_law_1773 (by decide) ?_
              refine z_sub (L' := [(0, .ref b), (1, .ref (ad 33)), (2, .ref (ad 36)), (3, .ref (ad 34)), (4, .ref (ad 35)), (5, .int (nI (i + 5)))]) [3, 4, 5, 6, 7, 0] rfl ?_
              refine z_widen (k := 100 + 2 * (j + 1)) (q := 100000 + 1006 * (j + 1)) (by omega) (by omega) ?_
              exact hNext s320 v358 n2 B2 y2 (JI_of hxq hmq)
            · skip
              have zn380 := z0_f zc380
              exact absurd zn380 (by decide)
        · skip
          have zn363 := zeq_f (a := t) (b := t) zc363
          exact False.elim (zc363 rfl)
      · skip
        exact False.elim (zc344 hb9)
    · skip
      exact False.elim (zc311 hb9)
  · obtain ⟨t, vl, n2, B2, y2, f, ht3, hH, hM⟩ := lc_addAction l hst0 D ad (am ad) cI cL cR cB cD (gI_n (by decide) hI) (gI_m hI) u v o d n B x hJ (xs (i + 1)) (xs (i + 2)) 1 (by decide)
    refine z_aload_n C dL_law_292 1 rfl ?_
    refine z_aload_n C dL_law_293 0 rfl ?_
    refine z_iload C dL_law_294 5 rfl ?_
    refine z_iconst (v := nI 1) C (by decide) dL_law_296 ?_
    refine z_iadd C dL_law_297 ?_
    refine z_topi (y := nI (i + 1)) (nI_add i 1) ?_
    refine z_sld C hXs hbl hbA (k := i + 1) rfl (by omega) (by omega) dL_law_298 ?_
    refine z_aload_n C dL_law_299 0 rfl ?_
    refine z_iload C dL_law_300 5 rfl ?_
    refine z_iconst (v := nI 2) C (by decide) dL_law_302 ?_
    refine z_iadd C dL_law_303 ?_
    refine z_topi (y := nI (i + 2)) (nI_add i 2) ?_
    refine z_sld C hXs hbl hbA (k := i + 2) rfl (by omega) (by omega) dL_law_304 ?_
    refine z_aload_n C dL_law_305 0 rfl ?_
    refine z_iload C dL_law_306 5 rfl ?_
    refine z_iconst (v := nI 3) C (by decide) dL_law_308 ?_
    refine z_iadd C dL_law_309 ?_
    refine z_topi (y := nI (i + 3)) (nI_add i 3) ?_
    refine z_sld C hXs hbl hbA (k := i + 3) rfl (by omega) (by omega) dL_law_310 ?_
    refine z_if_eq (tgt := 318) C dL_law_311 (by decide) (fun zc311 => ?_) (fun zc311 => ?_)
    · skip
      exact False.elim (hb9 zc311)
    · skip
      refine z_iconst (v := nI 1) C (by decide) dL_law_314 ?_
      refine z_goto (tgt := 319) C dL_law_315 (by decide) ?_
      refine z_aload_n C dL_law_319 3 rfl ?_
      refine z_callWi lX_ok C hml hown hts hK hX (fun sz => z_liftI (σ := id) (F := fun s9 => LF ad cI cL cR cB cD (s9, v)) (F1 := hF ad cI cL cR cD) (f1 := hF ad cI cL cR cD (u, o, d)) (zLh hI) (fun _ h => h) lX_h (fun k hk => LF_h k hk) (fun _ k hk => LF_h k hk) LF_h2 (fun _ _ h => h) (hH sz)) (vx_cwSW 5 hts gL_law_L_addAction rfl rfl rfl (by decide +kernel) ⟨Nat.le_of_ble_eq_true rfl, Nat.le_of_ble_eq_true rfl⟩) rfl (st := []) rfl (Nat.le_of_ble_eq_true rfl) dL_law_320 ⟨by show 100 + 2 * j + 1 ≤ 601024; omega, by show 100000 + 1006 * j + 6 ≤ 7293034; omega⟩ (fun r320 s320 h320 => ?_)
      obtain ⟨e320, hval, hxq⟩ := h320
      subst e320
      refine z_istore (L' := [(6, .int (nI t)), (0, .ref (b)), (1, .ref (ad 33)), (2, .ref (ad 36)), (3, .ref (ad 34)), (4, .ref (ad 35)), (5, .int (nI i))]) C dL_law_323 (by decide) rfl ?_
      refine z_aload_n C dL_law_325 3 rfl ?_
      refine z_aload_n C dL_law_326 1 rfl ?_
      refine z_iload C dL_law_327 6 rfl ?_
      refine z_iconst (v := nI 1) C (by decide) dL_law_329 ?_
      refine z_iadd C dL_law_330 ?_
      refine z_topi (y := nI (i + 1)) (nI_add i 1) ?_
      refine z_sld C hXs hbl hbA (k := i + 1) rfl (by omega) (by omega) dL_law_331 ?_
      refine z_aload_n C dL_law_332 1 rfl ?_
      refine z_iload C dL_law_333 6 rfl ?_
      refine z_iconst (v := nI 2) C (by decide) dL_law_335 ?_
      refine z_iadd C dL_law_336 ?_
      refine z_topi (y := nI (i + 2)) (nI_add i 2) ?_
      refine z_sld C hXs hbl hbA (k := i + 2) rfl (by omega) (by omega) dL_law_337 ?_
      refine z_aload_n C dL_law_338 1 rfl ?_
      refine z_iload C dL_law_339 6 rfl ?_
      refine z_iconst (v := nI 3) C (by decide) dL_law_341 ?_
      refine z_iadd C dL_law_342 ?_
      refine z_topi (y := nI (i + 3)) (nI_add i 3) ?_
      refine z_sld C hXs hbl hbA (k := i + 3) rfl (by omega) (by omega) dL_law_343 ?_
      refine z_if_eq (tgt := 351) C dL_law_344 (by decide) (fun zc344 => ?_) (fun zc344 => ?_)
      · skip
        exact False.elim (hb9 zc344)
      · skip
        refine z_iconst (v := nI 1) C (by decide) dL_law_347 ?_
        refine z_goto (tgt := 352) C dL_law_348 (by decide) ?_
        refine z_callVi (q := 36) lX_ok C hml hown hts hK hX (fun sz => z_liftI (σ := fun k => 36 + k) (F := fun v9 => LF ad cI cL cR cB cD (s320, v9)) (F1 := mF (am ad) cI cL cB) (f1 := mF (am ad) cI cL cB v) (zLm hI) lK_m (fun _ _ => trivial) (fun k hk => LF_m k hk) (fun _ k hk => LF_m k hk) LF_m2 (fun _ _ h => h) (hM sz)) (cwV 3 hts gL_law_X7_addAction rfl rfl rfl (by decide +kernel) ⟨Nat.le_of_ble_eq_true rfl, Nat.le_of_ble_eq_true rfl⟩) (by decide) (ci := 7) rfl rfl rfl (st := []) rfl (Nat.le_of_ble_eq_true rfl) dL_law_352 ⟨by show 100 + 2 * j + 1 + 0 ≤ 601024; omega, by show 100000 + 1006 * j + 6 + 0 ≤ 7293034; omega⟩ (fun r352 v352 h352 => ?_)
        obtain ⟨e352, hth, hmq⟩ := h352
        subst e352
        refine z_istore (L' := [(7, .int (r352)), (6, .int (nI t)), (0, .ref (b)), (1, .ref (ad 33)), (2, .ref (ad 36)), (3, .ref (ad 34)), (4, .ref (ad 35)), (5, .int (nI i))]) C dL_law_355 (by decide) rfl ?_
        refine z_aload_n C dL_law_357 4 rfl ?_
        refine z_callVi (q := 36) lX_ok C hml hown hts hK hX (fun sz => z_liftI (σ := fun k => 36 + k) (F := fun v9 => LF ad cI cL cR cB cD (s320, v9)) (F1 := mF (am ad) cI cL cB) (f1 := mF (am ad) cI cL cB v352) (zLm hI) lK_m (fun _ _ => trivial) (fun k hk => LF_m k hk) (fun _ k hk => LF_m k hk) LF_m2 (fun _ _ h => h) (c_X7_thrown l D (am ad) cI cL cB (gI_m hI) v352 sz)) (cwV 0 hts gL_law_X7_thrown rfl rfl rfl (by decide +kernel) ⟨Nat.le_of_ble_eq_true rfl, Nat.le_of_ble_eq_true rfl⟩) (by decide) (ci := 7) rfl rfl rfl (st := []) rfl (Nat.le_of_ble_eq_true rfl) dL_law_358 ⟨by show 100 + 2 * j + 1 + 0 + 0 ≤ 601024; omega, by show 100000 + 1006 * j + 6 + 0 + 0 ≤ 7293034; omega⟩ (fun r358 v358 h358 => ?_)
        obtain ⟨e358, f358⟩ := h358
        subst f358
        subst e358
        refine z_topi (y := nI t) hth ?_
        refine z_iload C dL_law_361 1 rfl ?_
        refine z_icmp_eq (tgt := 368) C dL_law_363 (by decide) (fun zc363 => ?_) (fun zc363 => ?_)
        · skip
          have zn363 := zeq_t (a := t) (b := t) (by omega) (by omega) zc363
          refine z_iload C dL_law_368 1 rfl ?_
          refine z_if_ne (tgt := 385) C dL_law_370 (by decide) (fun zc370 => ?_) (fun zc370 => ?_)
          · skip
            have zn370 := z0_f zc370
            refine z_goto (tgt := 1770) C dL_law_385 (by decide) ?_
            refine z_iinc (L' := [(5, .int (nI (i + 5))), (7, .int (r352)), (6, .int (nI t)), (0, .ref (b)), (1, .ref (ad 33)), (2, .ref (ad 36)), (3, .ref (ad 34)), (4, .ref (ad 35))]) C dL_law_1770 7 rfl (nI_5 i) (by decide) rfl ?_
            refine z_goto (tgt := 28) C dL_law_1773 (by decide) ?_
            refine z_sub (L' := [(0, .ref b), (1, .ref (ad 33)), (2, .ref (ad 36)), (3, .ref (ad 34)), (4, .ref (ad 35)), (5, .int (nI (i + 5)))]) [3, 4, 5, 6, 7, 0] rfl ?_
            refine z_widen (k := 100 + 2 * (j + 1)) (q := 100000 + 1006 * (j + 1)) (by omega) (by omega) ?_
            exact hNext s320 v358 n2 B2 y2 (JI_of hxq hmq)
          · skip
            have zn370 := z0_t (by omega) zc370
            have hzt : t = 0 := zn370
            refine z_aload_n C dL_law_373 5 rfl ?_
            refine z_iconst (v := nI 0) C (by decide) dL_law_374 ?_
            refine z_lald (q := 34) (len := 1) (k := 0) C hK (by decide) rfl 1 rfl rfl (by decide) (by decide) dL_law_375 ?_
            refine z_topl (y := r352.toInt64) (hval hzt) ?_
            refine z_iload C dL_law_376 0 rfl ?_
            refine z_i2l C rfl dL_law_378 ?_
            refine z_lcmp C dL_law_379 ?_
            refine z_topi (y := nI 0) (lgc _) ?_
            refine z_if_eq (tgt := 385) C dL_law_380 (by decide) (fun zc380 => ?_) (fun zc380 => ?_)
            · skip
              have zn380 := z0_t (by omega) zc380
              refine z_goto (tgt := 1770) C dL_law_385 (by decide) ?_
              refine z_iinc (L' := [(5, .int (nI (i + 5))), (7, .int (r352)), (6, .int (nI t)), (0, .ref (b)), (1, .ref (ad 33)), (2, .ref (ad 36)), (3, .ref (ad 34)), (4, .ref (ad 35))]) C dL_law_1770 7 rfl (nI_5 i) (by decide) rfl ?_
              refine z_goto (tgt := 28) C dL_law_1773 (by decide) ?_
              refine z_sub (L' := [(0, .ref b), (1, .ref (ad 33)), (2, .ref (ad 36)), (3, .ref (ad 34)), (4, .ref (ad 35)), (5, .int (nI (i + 5)))]) [3, 4, 5, 6, 7, 0] rfl ?_
              refine z_widen (k := 100 + 2 * (j + 1)) (q := 100000 + 1006 * (j + 1)) (by omega) (by omega) ?_
              exact hNext s320 v358 n2 B2 y2 (JI_of hxq hmq)
            · skip
              have zn380 := z0_f zc380
              exact absurd zn380 (by decide)
        · skip
          have zn363 := zeq_f (a := t) (b := t) zc363
          exact False.elim (zc363 rfl)

set_option maxHeartbeats 4000000 in
set_option maxRecDepth 100000 in
theorem sg_turn {p : Program} {l : Launch} {e : Env} {s : State} {m : MethodId} {below : List Frame} {meth : Method} {c : Code} {D : va_G} {ad : Nat → Nat} {cI cL cR cB cD : ClassId} {b Ln : Nat} {xs : Nat → Int32} {Qq : State → Prop} (C0 : LC p l s m c D ad cI cL cR cB cD b Ln xs) {j i : Nat} (hi : i = 5 * j) (hiL : i + 5 ≤ Ln) {u v : xS} {o : Nat → Int64} {d : Nat → UInt64} {n : Nat} {B : Nat → Nat → Nat} {x : Nat} (hJ : JI u v n B x) (hNext : ∀ (s' : hS) (v' : xS) (n' : Nat) (B' : Nat → Nat → Nat) (x' : Nat), JI s'.1 v' n' B' x' → ZZ p l e room_1 s m #[Value.ref b] below meth c D vwCl 48 ad 9 (100 + 2 * (j + 1)) (100000 + 1006 * (j + 1)) Qq (LF ad cI cL cR cB cD (s', v')) [(0, .ref b), (1, .ref (ad 33)), (2, .ref (ad 36)), (3, .ref (ad 34)), (4, .ref (ad 35)), (5, .int (nI (i + 5)))] 28 []) : ZZ p l e room_1 s m #[Value.ref b] below meth c D vwCl 48 ad 9 (100 + 2 * j) (100000 + 1006 * j) Qq (LF ad cI cL cR cB cD ((u, o, d), v)) [(0, .ref b), (1, .ref (ad 33)), (2, .ref (ad 36)), (3, .ref (ad 34)), (4, .ref (ad 35)), (5, .int (nI i))] 388 [] := by
  obtain ⟨C, hml, hown, hts, hK, hX, hI, hXs, hbl, hbA, hL, hst0⟩ := C0
  by_cases hb9 : xs (i + 2) = 0
  · obtain ⟨t, vl, n2, B2, y2, f, ht3, hH, hM⟩ := lc_turn l hst0 D ad (am ad) cI cL cR cB cD (gI_n (by decide) hI) (gI_m hI) u v o d n B x hJ (xs (i + 1)) 0 (by decide)
    refine z_aload_n C dL_law_388 1 rfl ?_
    refine z_aload_n C dL_law_389 0 rfl ?_
    refine z_iload C dL_law_390 5 rfl ?_
    refine z_iconst (v := nI 1) C (by decide) dL_law_392 ?_
    refine z_iadd C dL_law_393 ?_
    refine z_topi (y := nI (i + 1)) (nI_add i 1) ?_
    refine z_sld C hXs hbl hbA (k := i + 1) rfl (by omega) (by omega) dL_law_394 ?_
    refine z_aload_n C dL_law_395 0 rfl ?_
    refine z_iload C dL_law_396 5 rfl ?_
    refine z_iconst (v := nI 2) C (by decide) dL_law_398 ?_
    refine z_iadd C dL_law_399 ?_
    refine z_topi (y := nI (i + 2)) (nI_add i 2) ?_
    refine z_sld C hXs hbl hbA (k := i + 2) rfl (by omega) (by omega) dL_law_400 ?_
    refine z_if_eq (tgt := 408) C dL_law_401 (by decide) (fun zc401 => ?_) (fun zc401 => ?_)
    · skip
      refine z_iconst (v := nI 0) C (by decide) dL_law_408 ?_
      refine z_aload_n C dL_law_409 3 rfl ?_
      refine z_callWi lX_ok C hml hown hts hK hX (fun sz => z_liftI (σ := id) (F := fun s9 => LF ad cI cL cR cB cD (s9, v)) (F1 := hF ad cI cL cR cD) (f1 := hF ad cI cL cR cD (u, o, d)) (zLh hI) (fun _ h => h) lX_h (fun k hk => LF_h k hk) (fun _ k hk => LF_h k hk) LF_h2 (fun _ _ h => h) (hH sz)) (vx_cwSW 4 hts gL_law_L_turn rfl rfl rfl (by decide +kernel) ⟨Nat.le_of_ble_eq_true rfl, Nat.le_of_ble_eq_true rfl⟩) rfl (st := []) rfl (Nat.le_of_ble_eq_true rfl) dL_law_410 ⟨by show 100 + 2 * j + 1 ≤ 601024; omega, by show 100000 + 1006 * j + 6 ≤ 7293034; omega⟩ (fun r410 s410 h410 => ?_)
      obtain ⟨e410, hval, hxq⟩ := h410
      subst e410
      refine z_istore (L' := [(6, .int (nI t)), (0, .ref (b)), (1, .ref (ad 33)), (2, .ref (ad 36)), (3, .ref (ad 34)), (4, .ref (ad 35)), (5, .int (nI i))]) C dL_law_413 (by decide) rfl ?_
      refine z_aload_n C dL_law_415 3 rfl ?_
      refine z_aload_n C dL_law_416 1 rfl ?_
      refine z_iload C dL_law_417 6 rfl ?_
      refine z_iconst (v := nI 1) C (by decide) dL_law_419 ?_
      refine z_iadd C dL_law_420 ?_
      refine z_topi (y := nI (i + 1)) (nI_add i 1) ?_
      refine z_sld C hXs hbl hbA (k := i + 1) rfl (by omega) (by omega) dL_law_421 ?_
      refine z_aload_n C dL_law_422 1 rfl ?_
      refine z_iload C dL_law_423 6 rfl ?_
      refine z_iconst (v := nI 2) C (by decide) dL_law_425 ?_
      refine z_iadd C dL_law_426 ?_
      refine z_topi (y := nI (i + 2)) (nI_add i 2) ?_
      refine z_sld C hXs hbl hbA (k := i + 2) rfl (by omega) (by omega) dL_law_427 ?_
      refine z_if_eq (tgt := 435) C dL_law_428 (by decide) (fun zc428 => ?_) (fun zc428 => ?_)
      · skip
        refine z_iconst (v := nI 0) C (by decide) dL_law_435 ?_
        refine z_callVi (q := 36) lX_ok C hml hown hts hK hX (fun sz => z_liftI (σ := fun k => 36 + k) (F := fun v9 => LF ad cI cL cR cB cD (s410, v9)) (F1 := mF (am ad) cI cL cB) (f1 := mF (am ad) cI cL cB v) (zLm hI) lK_m (fun _ _ => trivial) (fun k hk => LF_m k hk) (fun _ k hk => LF_m k hk) LF_m2 (fun _ _ h => h) (hM sz)) (cwV 2 hts gL_law_X7_turn rfl rfl rfl (by decide +kernel) ⟨Nat.le_of_ble_eq_true rfl, Nat.le_of_ble_eq_true rfl⟩) (by decide) (ci := 7) rfl rfl rfl (st := []) rfl (Nat.le_of_ble_eq_true rfl) dL_law_436 ⟨by show 100 + 2 * j + 1 + 0 ≤ 601024; omega, by show 100000 + 1006 * j + 6 + 0 ≤ 7293034; omega⟩ (fun r436 v436 h436 => ?_)
        obtain ⟨e436, hth, hmq⟩ := h436
        subst e436
        refine z_istore (L' := [(7, .int (r436)), (6, .int (nI t)), (0, .ref (b)), (1, .ref (ad 33)), (2, .ref (ad 36)), (3, .ref (ad 34)), (4, .ref (ad 35)), (5, .int (nI i))]) C dL_law_439 (by decide) rfl ?_
        refine z_aload_n C dL_law_441 4 rfl ?_
        refine z_callVi (q := 36) lX_ok C hml hown hts hK hX (fun sz => z_liftI (σ := fun k => 36 + k) (F := fun v9 => LF ad cI cL cR cB cD (s410, v9)) (F1 := mF (am ad) cI cL cB) (f1 := mF (am ad) cI cL cB v436) (zLm hI) lK_m (fun _ _ => trivial) (fun k hk => LF_m k hk) (fun _ k hk => LF_m k hk) LF_m2 (fun _ _ h => h) (c_X7_thrown l D (am ad) cI cL cB (gI_m hI) v436 sz)) (cwV 0 hts gL_law_X7_thrown rfl rfl rfl (by decide +kernel) ⟨Nat.le_of_ble_eq_true rfl, Nat.le_of_ble_eq_true rfl⟩) (by decide) (ci := 7) rfl rfl rfl (st := []) rfl (Nat.le_of_ble_eq_true rfl) dL_law_442 ⟨by show 100 + 2 * j + 1 + 0 + 0 ≤ 601024; omega, by show 100000 + 1006 * j + 6 + 0 + 0 ≤ 7293034; omega⟩ (fun r442 v442 h442 => ?_)
        obtain ⟨e442, f442⟩ := h442
        subst f442
        subst e442
        refine z_topi (y := nI t) hth ?_
        refine z_iload C dL_law_445 1 rfl ?_
        refine z_icmp_eq (tgt := 452) C dL_law_447 (by decide) (fun zc447 => ?_) (fun zc447 => ?_)
        · skip
          have zn447 := zeq_t (a := t) (b := t) (by omega) (by omega) zc447
          refine z_iload C dL_law_452 1 rfl ?_
          refine z_if_ne (tgt := 476) C dL_law_454 (by decide) (fun zc454 => ?_) (fun zc454 => ?_)
          · skip
            have zn454 := z0_f zc454
            refine z_goto (tgt := 1770) C dL_law_476 (by decide) ?_
            refine z_iinc (L' := [(5, .int (nI (i + 5))), (7, .int (r436)), (6, .int (nI t)), (0, .ref (b)), (1, .ref (ad 33)), (2, .ref (ad 36)), (3, .ref (ad 34)), (4, .ref (ad 35))]) C dL_law_1770 7 rfl (nI_5 i) (by decide) rfl ?_
            refine z_goto (tgt := 28) C dL_law_1773 (by decide) ?_
            refine z_sub (L' := [(0, .ref b), (1, .ref (ad 33)), (2, .ref (ad 36)), (3, .ref (ad 34)), (4, .ref (ad 35)), (5, .int (nI (i + 5)))]) [3, 4, 5, 6, 7, 0] rfl ?_
            refine z_widen (k := 100 + 2 * (j + 1)) (q := 100000 + 1006 * (j + 1)) (by omega) (by omega) ?_
            exact hNext s410 v442 n2 B2 y2 (JI_of hxq hmq)
          · skip
            have zn454 := z0_t (by omega) zc454
            have hzt : t = 0 := zn454
            refine z_aload_n C dL_law_457 5 rfl ?_
            refine z_iconst (v := nI 0) C (by decide) dL_law_458 ?_
            refine z_lald (q := 34) (len := 1) (k := 0) C hK (by decide) rfl 1 rfl rfl (by decide) (by decide) dL_law_459 ?_
            refine z_topl (y := (if r436 = 0 then 0 else 1)) (hval hzt) ?_
            refine z_iload C dL_law_460 0 rfl ?_
            refine z_if_eq (tgt := 469) C dL_law_462 (by decide) (fun zc462 => ?_) (fun zc462 => ?_)
            · skip
              refine z_lconst (v := 0) C (by decide) dL_law_469 ?_
              refine z_topl (y := (if r436 = 0 then 0 else 1)) ((by first | exact (if_pos (by assumption)).symm | (split <;> first | rfl | contradiction))) ?_
              refine z_lcmp C dL_law_470 ?_
              refine z_topi (y := nI 0) (lgc _) ?_
              refine z_if_eq (tgt := 476) C dL_law_471 (by decide) (fun zc471 => ?_) (fun zc471 => ?_)
              · skip
                have zn471 := z0_t (by omega) zc471
                refine z_goto (tgt := 1770) C dL_law_476 (by decide) ?_
                refine z_iinc (L' := [(5, .int (nI (i + 5))), (7, .int (r436)), (6, .int (nI t)), (0, .ref (b)), (1, .ref (ad 33)), (2, .ref (ad 36)), (3, .ref (ad 34)), (4, .ref (ad 35))]) C dL_law_1770 7 rfl (nI_5 i) (by decide) rfl ?_
                refine z_goto (tgt := 28) C dL_law_1773 (by decide) ?_
                refine z_sub (L' := [(0, .ref b), (1, .ref (ad 33)), (2, .ref (ad 36)), (3, .ref (ad 34)), (4, .ref (ad 35)), (5, .int (nI (i + 5)))]) [3, 4, 5, 6, 7, 0] rfl ?_
                refine z_widen (k := 100 + 2 * (j + 1)) (q := 100000 + 1006 * (j + 1)) (by omega) (by omega) ?_
                exact hNext s410 v442 n2 B2 y2 (JI_of hxq hmq)
              · skip
                have zn471 := z0_f zc471
                exact absurd zn471 (by decide)
            · skip
              refine z_lconst (v := 1) C (by decide) dL_law_465 ?_
              refine z_goto (tgt := 470) C dL_law_466 (by decide) ?_
              refine z_topl (y := (if r436 = 0 then 0 else 1)) ((by split <;> first | rfl | contradiction)) ?_
              refine z_lcmp C dL_law_470 ?_
              refine z_topi (y := nI 0) (lgc _) ?_
              refine z_if_eq (tgt := 476) C dL_law_471 (by decide) (fun zc471 => ?_) (fun zc471 => ?_)
              · skip
                have zn471 := z0_t (by omega) zc471
                refine z_goto (tgt := 1770) C dL_law_476 (by decide) ?_
                refine z_iinc (L' := [(5, .int (nI (i + 5))), (7, .int (r436)), (6, .int (nI t)), (0, .ref (b)), (1, .ref (ad 33)), (2, .ref (ad 36)), (3, .ref (ad 34)), (4, .ref (ad 35))]) C dL_law_1770 7 rfl (nI_5 i) (by decide) rfl ?_
                refine z_goto (tgt := 28) C dL_law_1773 (by decide) ?_
                refine z_sub (L' := [(0, .ref b), (1, .ref (ad 33)), (2, .ref (ad 36)), (3, .ref (ad 34)), (4, .ref (ad 35)), (5, .int (nI (i + 5)))]) [3, 4, 5, 6, 7, 0] rfl ?_
                refine z_widen (k := 100 + 2 * (j + 1)) (q := 100000 + 1006 * (j + 1)) (by omega) (by omega) ?_
                exact hNext s410 v442 n2 B2 y2 (JI_of hxq hmq)
              · skip
                have zn471 := z0_f zc471
                exact absurd zn471 (by decide)
        · skip
          have zn447 := zeq_f (a := t) (b := t) zc447
          exact False.elim (zc447 rfl)
      · skip
        exact False.elim (zc428 hb9)
    · skip
      exact False.elim (zc401 hb9)
  · obtain ⟨t, vl, n2, B2, y2, f, ht3, hH, hM⟩ := lc_turn l hst0 D ad (am ad) cI cL cR cB cD (gI_n (by decide) hI) (gI_m hI) u v o d n B x hJ (xs (i + 1)) 1 (by decide)
    refine z_aload_n C dL_law_388 1 rfl ?_
    refine z_aload_n C dL_law_389 0 rfl ?_
    refine z_iload C dL_law_390 5 rfl ?_
    refine z_iconst (v := nI 1) C (by decide) dL_law_392 ?_
    refine z_iadd C dL_law_393 ?_
    refine z_topi (y := nI (i + 1)) (nI_add i 1) ?_
    refine z_sld C hXs hbl hbA (k := i + 1) rfl (by omega) (by omega) dL_law_394 ?_
    refine z_aload_n C dL_law_395 0 rfl ?_
    refine z_iload C dL_law_396 5 rfl ?_
    refine z_iconst (v := nI 2) C (by decide) dL_law_398 ?_
    refine z_iadd C dL_law_399 ?_
    refine z_topi (y := nI (i + 2)) (nI_add i 2) ?_
    refine z_sld C hXs hbl hbA (k := i + 2) rfl (by omega) (by omega) dL_law_400 ?_
    refine z_if_eq (tgt := 408) C dL_law_401 (by decide) (fun zc401 => ?_) (fun zc401 => ?_)
    · skip
      exact False.elim (hb9 zc401)
    · skip
      refine z_iconst (v := nI 1) C (by decide) dL_law_404 ?_
      refine z_goto (tgt := 409) C dL_law_405 (by decide) ?_
      refine z_aload_n C dL_law_409 3 rfl ?_
      refine z_callWi lX_ok C hml hown hts hK hX (fun sz => z_liftI (σ := id) (F := fun s9 => LF ad cI cL cR cB cD (s9, v)) (F1 := hF ad cI cL cR cD) (f1 := hF ad cI cL cR cD (u, o, d)) (zLh hI) (fun _ h => h) lX_h (fun k hk => LF_h k hk) (fun _ k hk => LF_h k hk) LF_h2 (fun _ _ h => h) (hH sz)) (vx_cwSW 4 hts gL_law_L_turn rfl rfl rfl (by decide +kernel) ⟨Nat.le_of_ble_eq_true rfl, Nat.le_of_ble_eq_true rfl⟩) rfl (st := []) rfl (Nat.le_of_ble_eq_true rfl) dL_law_410 ⟨by show 100 + 2 * j + 1 ≤ 601024; omega, by show 100000 + 1006 * j + 6 ≤ 7293034; omega⟩ (fun r410 s410 h410 => ?_)
      obtain ⟨e410, hval, hxq⟩ := h410
      subst e410
      refine z_istore (L' := [(6, .int (nI t)), (0, .ref (b)), (1, .ref (ad 33)), (2, .ref (ad 36)), (3, .ref (ad 34)), (4, .ref (ad 35)), (5, .int (nI i))]) C dL_law_413 (by decide) rfl ?_
      refine z_aload_n C dL_law_415 3 rfl ?_
      refine z_aload_n C dL_law_416 1 rfl ?_
      refine z_iload C dL_law_417 6 rfl ?_
      refine z_iconst (v := nI 1) C (by decide) dL_law_419 ?_
      refine z_iadd C dL_law_420 ?_
      refine z_topi (y := nI (i + 1)) (nI_add i 1) ?_
      refine z_sld C hXs hbl hbA (k := i + 1) rfl (by omega) (by omega) dL_law_421 ?_
      refine z_aload_n C dL_law_422 1 rfl ?_
      refine z_iload C dL_law_423 6 rfl ?_
      refine z_iconst (v := nI 2) C (by decide) dL_law_425 ?_
      refine z_iadd C dL_law_426 ?_
      refine z_topi (y := nI (i + 2)) (nI_add i 2) ?_
      refine z_sld C hXs hbl hbA (k := i + 2) rfl (by omega) (by omega) dL_law_427 ?_
      refine z_if_eq (tgt := 435) C dL_law_428 (by decide) (fun zc428 => ?_) (fun zc428 => ?_)
      · skip
        exact False.elim (hb9 zc428)
      · skip
        refine z_iconst (v := nI 1) C (by decide) dL_law_431 ?_
        refine z_goto (tgt := 436) C dL_law_432 (by decide) ?_
        refine z_callVi (q := 36) lX_ok C hml hown hts hK hX (fun sz => z_liftI (σ := fun k => 36 + k) (F := fun v9 => LF ad cI cL cR cB cD (s410, v9)) (F1 := mF (am ad) cI cL cB) (f1 := mF (am ad) cI cL cB v) (zLm hI) lK_m (fun _ _ => trivial) (fun k hk => LF_m k hk) (fun _ k hk => LF_m k hk) LF_m2 (fun _ _ h => h) (hM sz)) (cwV 2 hts gL_law_X7_turn rfl rfl rfl (by decide +kernel) ⟨Nat.le_of_ble_eq_true rfl, Nat.le_of_ble_eq_true rfl⟩) (by decide) (ci := 7) rfl rfl rfl (st := []) rfl (Nat.le_of_ble_eq_true rfl) dL_law_436 ⟨by show 100 + 2 * j + 1 + 0 ≤ 601024; omega, by show 100000 + 1006 * j + 6 + 0 ≤ 7293034; omega⟩ (fun r436 v436 h436 => ?_)
        obtain ⟨e436, hth, hmq⟩ := h436
        subst e436
        refine z_istore (L' := [(7, .int (r436)), (6, .int (nI t)), (0, .ref (b)), (1, .ref (ad 33)), (2, .ref (ad 36)), (3, .ref (ad 34)), (4, .ref (ad 35)), (5, .int (nI i))]) C dL_law_439 (by decide) rfl ?_
        refine z_aload_n C dL_law_441 4 rfl ?_
        refine z_callVi (q := 36) lX_ok C hml hown hts hK hX (fun sz => z_liftI (σ := fun k => 36 + k) (F := fun v9 => LF ad cI cL cR cB cD (s410, v9)) (F1 := mF (am ad) cI cL cB) (f1 := mF (am ad) cI cL cB v436) (zLm hI) lK_m (fun _ _ => trivial) (fun k hk => LF_m k hk) (fun _ k hk => LF_m k hk) LF_m2 (fun _ _ h => h) (c_X7_thrown l D (am ad) cI cL cB (gI_m hI) v436 sz)) (cwV 0 hts gL_law_X7_thrown rfl rfl rfl (by decide +kernel) ⟨Nat.le_of_ble_eq_true rfl, Nat.le_of_ble_eq_true rfl⟩) (by decide) (ci := 7) rfl rfl rfl (st := []) rfl (Nat.le_of_ble_eq_true rfl) dL_law_442 ⟨by show 100 + 2 * j + 1 + 0 + 0 ≤ 601024; omega, by show 100000 + 1006 * j + 6 + 0 + 0 ≤ 7293034; omega⟩ (fun r442 v442 h442 => ?_)
        obtain ⟨e442, f442⟩ := h442
        subst f442
        subst e442
        refine z_topi (y := nI t) hth ?_
        refine z_iload C dL_law_445 1 rfl ?_
        refine z_icmp_eq (tgt := 452) C dL_law_447 (by decide) (fun zc447 => ?_) (fun zc447 => ?_)
        · skip
          have zn447 := zeq_t (a := t) (b := t) (by omega) (by omega) zc447
          refine z_iload C dL_law_452 1 rfl ?_
          refine z_if_ne (tgt := 476) C dL_law_454 (by decide) (fun zc454 => ?_) (fun zc454 => ?_)
          · skip
            have zn454 := z0_f zc454
            refine z_goto (tgt := 1770) C dL_law_476 (by decide) ?_
            refine z_iinc (L' := [(5, .int (nI (i + 5))), (7, .int (r436)), (6, .int (nI t)), (0, .ref (b)), (1, .ref (ad 33)), (2, .ref (ad 36)), (3, .ref (ad 34)), (4, .ref (ad 35))]) C dL_law_1770 7 rfl (nI_5 i) (by decide) rfl ?_
            refine z_goto (tgt := 28) C dL_law_1773 (by decide) ?_
            refine z_sub (L' := [(0, .ref b), (1, .ref (ad 33)), (2, .ref (ad 36)), (3, .ref (ad 34)), (4, .ref (ad 35)), (5, .int (nI (i + 5)))]) [3, 4, 5, 6, 7, 0] rfl ?_
            refine z_widen (k := 100 + 2 * (j + 1)) (q := 100000 + 1006 * (j + 1)) (by omega) (by omega) ?_
            exact hNext s410 v442 n2 B2 y2 (JI_of hxq hmq)
          · skip
            have zn454 := z0_t (by omega) zc454
            have hzt : t = 0 := zn454
            refine z_aload_n C dL_law_457 5 rfl ?_
            refine z_iconst (v := nI 0) C (by decide) dL_law_458 ?_
            refine z_lald (q := 34) (len := 1) (k := 0) C hK (by decide) rfl 1 rfl rfl (by decide) (by decide) dL_law_459 ?_
            refine z_topl (y := (if r436 = 0 then 0 else 1)) (hval hzt) ?_
            refine z_iload C dL_law_460 0 rfl ?_
            refine z_if_eq (tgt := 469) C dL_law_462 (by decide) (fun zc462 => ?_) (fun zc462 => ?_)
            · skip
              refine z_lconst (v := 0) C (by decide) dL_law_469 ?_
              refine z_topl (y := (if r436 = 0 then 0 else 1)) ((by first | exact (if_pos (by assumption)).symm | (split <;> first | rfl | contradiction))) ?_
              refine z_lcmp C dL_law_470 ?_
              refine z_topi (y := nI 0) (lgc _) ?_
              refine z_if_eq (tgt := 476) C dL_law_471 (by decide) (fun zc471 => ?_) (fun zc471 => ?_)
              · skip
                have zn471 := z0_t (by omega) zc471
                refine z_goto (tgt := 1770) C dL_law_476 (by decide) ?_
                refine z_iinc (L' := [(5, .int (nI (i + 5))), (7, .int (r436)), (6, .int (nI t)), (0, .ref (b)), (1, .ref (ad 33)), (2, .ref (ad 36)), (3, .ref (ad 34)), (4, .ref (ad 35))]) C dL_law_1770 7 rfl (nI_5 i) (by decide) rfl ?_
                refine z_goto (tgt := 28) C dL_law_1773 (by decide) ?_
                refine z_sub (L' := [(0, .ref b), (1, .ref (ad 33)), (2, .ref (ad 36)), (3, .ref (ad 34)), (4, .ref (ad 35)), (5, .int (nI (i + 5)))]) [3, 4, 5, 6, 7, 0] rfl ?_
                refine z_widen (k := 100 + 2 * (j + 1)) (q := 100000 + 1006 * (j + 1)) (by omega) (by omega) ?_
                exact hNext s410 v442 n2 B2 y2 (JI_of hxq hmq)
              · skip
                have zn471 := z0_f zc471
                exact absurd zn471 (by decide)
            · skip
              refine z_lconst (v := 1) C (by decide) dL_law_465 ?_
              refine z_goto (tgt := 470) C dL_law_466 (by decide) ?_
              refine z_topl (y := (if r436 = 0 then 0 else 1)) ((by split <;> first | rfl | contradiction)) ?_
              refine z_lcmp C dL_law_470 ?_
              refine z_topi (y := nI 0) (lgc _) ?_
              refine z_if_eq (tgt := 476) C dL_law_471 (by decide) (fun zc471 => ?_) (fun zc471 => ?_)
              · skip
                have zn471 := z0_t (by omega) zc471
                refine z_goto (tgt := 1770) C dL_law_476 (by decide) ?_
                refine z_iinc (L' := [(5, .int (nI (i + 5))), (7, .int (r436)), (6, .int (nI t)), (0, .ref (b)), (1, .ref (ad 33)), (2, .ref (ad 36)), (3, .ref (ad 34)), (4, .ref (ad 35))]) C dL_law_1770 7 rfl (nI_5 i) (by decide) rfl ?_
                refine z_goto (tgt := 28) C dL_law_1773 (by decide) ?_
                refine z_sub (L' := [(0, .ref b), (1, .ref (ad 33)), (2, .ref (ad 36)), (3, .ref (ad 34)), (4, .ref (ad 35)), (5, .int (nI (i + 5)))]) [3, 4, 5, 6, 7, 0] rfl ?_
                refine z_widen (k := 100 + 2 * (j + 1)) (q := 100000 + 1006 * (j + 1)) (by omega) (by omega) ?_
                exact hNext s410 v442 n2 B2 y2 (JI_of hxq hmq)
              · skip
                have zn471 := z0_f zc471
                exact absurd zn471 (by decide)
        · skip
          have zn447 := zeq_f (a := t) (b := t) zc447
          exact False.elim (zc447 rfl)

set_option maxHeartbeats 4000000 in
set_option maxRecDepth 100000 in
theorem sg_rank {p : Program} {l : Launch} {e : Env} {s : State} {m : MethodId} {below : List Frame} {meth : Method} {c : Code} {D : va_G} {ad : Nat → Nat} {cI cL cR cB cD : ClassId} {b Ln : Nat} {xs : Nat → Int32} {Qq : State → Prop} (C0 : LC p l s m c D ad cI cL cR cB cD b Ln xs) {j i : Nat} (hi : i = 5 * j) (hiL : i + 5 ≤ Ln) {u v : xS} {o : Nat → Int64} {d : Nat → UInt64} {n : Nat} {B : Nat → Nat → Nat} {x : Nat} (hJ : JI u v n B x) (hNext : ∀ (s' : hS) (v' : xS) (n' : Nat) (B' : Nat → Nat → Nat) (x' : Nat), JI s'.1 v' n' B' x' → ZZ p l e room_1 s m #[Value.ref b] below meth c D vwCl 48 ad 9 (100 + 2 * (j + 1)) (100000 + 1006 * (j + 1)) Qq (LF ad cI cL cR cB cD (s', v')) [(0, .ref b), (1, .ref (ad 33)), (2, .ref (ad 36)), (3, .ref (ad 34)), (4, .ref (ad 35)), (5, .int (nI (i + 5)))] 28 []) : ZZ p l e room_1 s m #[Value.ref b] below meth c D vwCl 48 ad 9 (100 + 2 * j) (100000 + 1006 * j) Qq (LF ad cI cL cR cB cD ((u, o, d), v)) [(0, .ref b), (1, .ref (ad 33)), (2, .ref (ad 36)), (3, .ref (ad 34)), (4, .ref (ad 35)), (5, .int (nI i))] 479 [] := by
  obtain ⟨C, hml, hown, hts, hK, hX, hI, hXs, hbl, hbA, hL, hst0⟩ := C0
  obtain ⟨t, vl, n2, B2, y2, f, ht3, hH, hM⟩ := lc_rank l hst0 D ad (am ad) cI cL cR cB cD (gI_n (by decide) hI) (gI_m hI) u v o d n B x hJ (xs (i + 1)) (xs (i + 2))
  refine z_aload_n C dL_law_479 1 rfl ?_
  refine z_aload_n C dL_law_480 0 rfl ?_
  refine z_iload C dL_law_481 5 rfl ?_
  refine z_iconst (v := nI 1) C (by decide) dL_law_483 ?_
  refine z_iadd C dL_law_484 ?_
  refine z_topi (y := nI (i + 1)) (nI_add i 1) ?_
  refine z_sld C hXs hbl hbA (k := i + 1) rfl (by omega) (by omega) dL_law_485 ?_
  refine z_aload_n C dL_law_486 0 rfl ?_
  refine z_iload C dL_law_487 5 rfl ?_
  refine z_iconst (v := nI 2) C (by decide) dL_law_489 ?_
  refine z_iadd C dL_law_490 ?_
  refine z_topi (y := nI (i + 2)) (nI_add i 2) ?_
  refine z_sld C hXs hbl hbA (k := i + 2) rfl (by omega) (by omega) dL_law_491 ?_
  refine z_aload_n C dL_law_492 3 rfl ?_
  refine z_callWi lX_ok C hml hown hts hK hX (fun sz => z_liftI (σ := id) (F := fun s9 => LF ad cI cL cR cB cD (s9, v)) (F1 := hF ad cI cL cR cD) (f1 := hF ad cI cL cR cD (u, o, d)) (zLh hI) (fun _ h => h) lX_h (fun k hk => LF_h k hk) (fun _ k hk => LF_h k hk) LF_h2 (fun _ _ h => h) (hH sz)) (vx_cwSW 4 hts gL_law_L_rank rfl rfl rfl (by decide +kernel) ⟨Nat.le_of_ble_eq_true rfl, Nat.le_of_ble_eq_true rfl⟩) rfl (st := []) rfl (Nat.le_of_ble_eq_true rfl) dL_law_493 ⟨by show 100 + 2 * j + 1 ≤ 601024; omega, by show 100000 + 1006 * j + 6 ≤ 7293034; omega⟩ (fun r493 s493 h493 => ?_)
  obtain ⟨e493, hval, hxq⟩ := h493
  subst e493
  refine z_istore (L' := [(6, .int (nI t)), (0, .ref (b)), (1, .ref (ad 33)), (2, .ref (ad 36)), (3, .ref (ad 34)), (4, .ref (ad 35)), (5, .int (nI i))]) C dL_law_496 (by decide) rfl ?_
  refine z_aload_n C dL_law_498 3 rfl ?_
  refine z_aload_n C dL_law_499 1 rfl ?_
  refine z_iload C dL_law_500 6 rfl ?_
  refine z_iconst (v := nI 1) C (by decide) dL_law_502 ?_
  refine z_iadd C dL_law_503 ?_
  refine z_topi (y := nI (i + 1)) (nI_add i 1) ?_
  refine z_sld C hXs hbl hbA (k := i + 1) rfl (by omega) (by omega) dL_law_504 ?_
  refine z_aload_n C dL_law_505 1 rfl ?_
  refine z_iload C dL_law_506 6 rfl ?_
  refine z_iconst (v := nI 2) C (by decide) dL_law_508 ?_
  refine z_iadd C dL_law_509 ?_
  refine z_topi (y := nI (i + 2)) (nI_add i 2) ?_
  refine z_sld C hXs hbl hbA (k := i + 2) rfl (by omega) (by omega) dL_law_510 ?_
  refine z_callVi (q := 36) lX_ok C hml hown hts hK hX (fun sz => z_liftI (σ := fun k => 36 + k) (F := fun v9 => LF ad cI cL cR cB cD (s493, v9)) (F1 := mF (am ad) cI cL cB) (f1 := mF (am ad) cI cL cB v) (zLm hI) lK_m (fun _ _ => trivial) (fun k hk => LF_m k hk) (fun _ k hk => LF_m k hk) LF_m2 (fun _ _ h => h) (hM sz)) (cwV 2 hts gL_law_X7_rank rfl rfl rfl (by decide +kernel) ⟨Nat.le_of_ble_eq_true rfl, Nat.le_of_ble_eq_true rfl⟩) (by decide) (ci := 7) rfl rfl rfl (st := []) rfl (Nat.le_of_ble_eq_true rfl) dL_law_511 ⟨by show 100 + 2 * j + 1 + 0 ≤ 601024; omega, by show 100000 + 1006 * j + 6 + 0 ≤ 7293034; omega⟩ (fun r511 v511 h511 => ?_)
  obtain ⟨e511, hth, hmq⟩ := h511
  subst e511
  refine z_istore (L' := [(7, .int (r511)), (6, .int (nI t)), (0, .ref (b)), (1, .ref (ad 33)), (2, .ref (ad 36)), (3, .ref (ad 34)), (4, .ref (ad 35)), (5, .int (nI i))]) C dL_law_514 (by decide) rfl ?_
  refine z_aload_n C dL_law_516 4 rfl ?_
  refine z_callVi (q := 36) lX_ok C hml hown hts hK hX (fun sz => z_liftI (σ := fun k => 36 + k) (F := fun v9 => LF ad cI cL cR cB cD (s493, v9)) (F1 := mF (am ad) cI cL cB) (f1 := mF (am ad) cI cL cB v511) (zLm hI) lK_m (fun _ _ => trivial) (fun k hk => LF_m k hk) (fun _ k hk => LF_m k hk) LF_m2 (fun _ _ h => h) (c_X7_thrown l D (am ad) cI cL cB (gI_m hI) v511 sz)) (cwV 0 hts gL_law_X7_thrown rfl rfl rfl (by decide +kernel) ⟨Nat.le_of_ble_eq_true rfl, Nat.le_of_ble_eq_true rfl⟩) (by decide) (ci := 7) rfl rfl rfl (st := []) rfl (Nat.le_of_ble_eq_true rfl) dL_law_517 ⟨by show 100 + 2 * j + 1 + 0 + 0 ≤ 601024; omega, by show 100000 + 1006 * j + 6 + 0 + 0 ≤ 7293034; omega⟩ (fun r517 v517 h517 => ?_)
  obtain ⟨e517, f517⟩ := h517
  subst f517
  subst e517
  refine z_topi (y := nI t) hth ?_
  refine z_iload C dL_law_520 1 rfl ?_
  refine z_icmp_eq (tgt := 527) C dL_law_522 (by decide) (fun zc522 => ?_) (fun zc522 => ?_)
  · skip
    have zn522 := zeq_t (a := t) (b := t) (by omega) (by omega) zc522
    refine z_iload C dL_law_527 1 rfl ?_
    refine z_if_ne (tgt := 551) C dL_law_529 (by decide) (fun zc529 => ?_) (fun zc529 => ?_)
    · skip
      have zn529 := z0_f zc529
      refine z_goto (tgt := 1770) C dL_law_551 (by decide) ?_
      refine z_iinc (L' := [(5, .int (nI (i + 5))), (7, .int (r511)), (6, .int (nI t)), (0, .ref (b)), (1, .ref (ad 33)), (2, .ref (ad 36)), (3, .ref (ad 34)), (4, .ref (ad 35))]) C dL_law_1770 7 rfl (nI_5 i) (by decide) rfl ?_
      refine z_goto (tgt := 28) C dL_law_1773 (by decide) ?_
      refine z_sub (L' := [(0, .ref b), (1, .ref (ad 33)), (2, .ref (ad 36)), (3, .ref (ad 34)), (4, .ref (ad 35)), (5, .int (nI (i + 5)))]) [3, 4, 5, 6, 7, 0] rfl ?_
      refine z_widen (k := 100 + 2 * (j + 1)) (q := 100000 + 1006 * (j + 1)) (by omega) (by omega) ?_
      exact hNext s493 v517 n2 B2 y2 (JI_of hxq hmq)
    · skip
      have zn529 := z0_t (by omega) zc529
      have hzt : t = 0 := zn529
      refine z_aload_n C dL_law_532 5 rfl ?_
      refine z_iconst (v := nI 0) C (by decide) dL_law_533 ?_
      refine z_lald (q := 34) (len := 1) (k := 0) C hK (by decide) rfl 1 rfl rfl (by decide) (by decide) dL_law_534 ?_
      refine z_topl (y := (if r511 = 0 then 0 else 1)) (hval hzt) ?_
      refine z_iload C dL_law_535 0 rfl ?_
      refine z_if_eq (tgt := 544) C dL_law_537 (by decide) (fun zc537 => ?_) (fun zc537 => ?_)
      · skip
        refine z_lconst (v := 0) C (by decide) dL_law_544 ?_
        refine z_topl (y := (if r511 = 0 then 0 else 1)) ((by first | exact (if_pos (by assumption)).symm | (split <;> first | rfl | contradiction))) ?_
        refine z_lcmp C dL_law_545 ?_
        refine z_topi (y := nI 0) (lgc _) ?_
        refine z_if_eq (tgt := 551) C dL_law_546 (by decide) (fun zc546 => ?_) (fun zc546 => ?_)
        · skip
          have zn546 := z0_t (by omega) zc546
          refine z_goto (tgt := 1770) C dL_law_551 (by decide) ?_
          refine z_iinc (L' := [(5, .int (nI (i + 5))), (7, .int (r511)), (6, .int (nI t)), (0, .ref (b)), (1, .ref (ad 33)), (2, .ref (ad 36)), (3, .ref (ad 34)), (4, .ref (ad 35))]) C dL_law_1770 7 rfl (nI_5 i) (by decide) rfl ?_
          refine z_goto (tgt := 28) C dL_law_1773 (by decide) ?_
          refine z_sub (L' := [(0, .ref b), (1, .ref (ad 33)), (2, .ref (ad 36)), (3, .ref (ad 34)), (4, .ref (ad 35)), (5, .int (nI (i + 5)))]) [3, 4, 5, 6, 7, 0] rfl ?_
          refine z_widen (k := 100 + 2 * (j + 1)) (q := 100000 + 1006 * (j + 1)) (by omega) (by omega) ?_
          exact hNext s493 v517 n2 B2 y2 (JI_of hxq hmq)
        · skip
          have zn546 := z0_f zc546
          exact absurd zn546 (by decide)
      · skip
        refine z_lconst (v := 1) C (by decide) dL_law_540 ?_
        refine z_goto (tgt := 545) C dL_law_541 (by decide) ?_
        refine z_topl (y := (if r511 = 0 then 0 else 1)) ((by split <;> first | rfl | contradiction)) ?_
        refine z_lcmp C dL_law_545 ?_
        refine z_topi (y := nI 0) (lgc _) ?_
        refine z_if_eq (tgt := 551) C dL_law_546 (by decide) (fun zc546 => ?_) (fun zc546 => ?_)
        · skip
          have zn546 := z0_t (by omega) zc546
          refine z_goto (tgt := 1770) C dL_law_551 (by decide) ?_
          refine z_iinc (L' := [(5, .int (nI (i + 5))), (7, .int (r511)), (6, .int (nI t)), (0, .ref (b)), (1, .ref (ad 33)), (2, .ref (ad 36)), (3, .ref (ad 34)), (4, .ref (ad 35))]) C dL_law_1770 7 rfl (nI_5 i) (by decide) rfl ?_
          refine z_goto (tgt := 28) C dL_law_1773 (by decide) ?_
          refine z_sub (L' := [(0, .ref b), (1, .ref (ad 33)), (2, .ref (ad 36)), (3, .ref (ad 34)), (4, .ref (ad 35)), (5, .int (nI (i + 5)))]) [3, 4, 5, 6, 7, 0] rfl ?_
          refine z_widen (k := 100 + 2 * (j + 1)) (q := 100000 + 1006 * (j + 1)) (by omega) (by omega) ?_
          exact hNext s493 v517 n2 B2 y2 (JI_of hxq hmq)
        · skip
          have zn546 := z0_f zc546
          exact absurd zn546 (by decide)
  · skip
    have zn522 := zeq_f (a := t) (b := t) zc522
    exact False.elim (zc522 rfl)

set_option maxHeartbeats 4000000 in
set_option maxRecDepth 100000 in
theorem sg_isAbove {p : Program} {l : Launch} {e : Env} {s : State} {m : MethodId} {below : List Frame} {meth : Method} {c : Code} {D : va_G} {ad : Nat → Nat} {cI cL cR cB cD : ClassId} {b Ln : Nat} {xs : Nat → Int32} {Qq : State → Prop} (C0 : LC p l s m c D ad cI cL cR cB cD b Ln xs) {j i : Nat} (hi : i = 5 * j) (hiL : i + 5 ≤ Ln) {u v : xS} {o : Nat → Int64} {d : Nat → UInt64} {n : Nat} {B : Nat → Nat → Nat} {x : Nat} (hJ : JI u v n B x) (hNext : ∀ (s' : hS) (v' : xS) (n' : Nat) (B' : Nat → Nat → Nat) (x' : Nat), JI s'.1 v' n' B' x' → ZZ p l e room_1 s m #[Value.ref b] below meth c D vwCl 48 ad 9 (100 + 2 * (j + 1)) (100000 + 1006 * (j + 1)) Qq (LF ad cI cL cR cB cD (s', v')) [(0, .ref b), (1, .ref (ad 33)), (2, .ref (ad 36)), (3, .ref (ad 34)), (4, .ref (ad 35)), (5, .int (nI (i + 5)))] 28 []) : ZZ p l e room_1 s m #[Value.ref b] below meth c D vwCl 48 ad 9 (100 + 2 * j) (100000 + 1006 * j) Qq (LF ad cI cL cR cB cD ((u, o, d), v)) [(0, .ref b), (1, .ref (ad 33)), (2, .ref (ad 36)), (3, .ref (ad 34)), (4, .ref (ad 35)), (5, .int (nI i))] 554 [] := by
  obtain ⟨C, hml, hown, hts, hK, hX, hI, hXs, hbl, hbA, hL, hst0⟩ := C0
  obtain ⟨t, vl, n2, B2, y2, f, ht3, hH, hM⟩ := lc_isAbove l hst0 D ad (am ad) cI cL cR cB cD (gI_n (by decide) hI) (gI_m hI) u v o d n B x hJ (xs (i + 1)) (xs (i + 2))
  refine z_aload_n C dL_law_554 1 rfl ?_
  refine z_aload_n C dL_law_555 0 rfl ?_
  refine z_iload C dL_law_556 5 rfl ?_
  refine z_iconst (v := nI 1) C (by decide) dL_law_558 ?_
  refine z_iadd C dL_law_559 ?_
  refine z_topi (y := nI (i + 1)) (nI_add i 1) ?_
  refine z_sld C hXs hbl hbA (k := i + 1) rfl (by omega) (by omega) dL_law_560 ?_
  refine z_aload_n C dL_law_561 0 rfl ?_
  refine z_iload C dL_law_562 5 rfl ?_
  refine z_iconst (v := nI 2) C (by decide) dL_law_564 ?_
  refine z_iadd C dL_law_565 ?_
  refine z_topi (y := nI (i + 2)) (nI_add i 2) ?_
  refine z_sld C hXs hbl hbA (k := i + 2) rfl (by omega) (by omega) dL_law_566 ?_
  refine z_aload_n C dL_law_567 3 rfl ?_
  refine z_callWi lX_ok C hml hown hts hK hX (fun sz => z_liftI (σ := id) (F := fun s9 => LF ad cI cL cR cB cD (s9, v)) (F1 := hF ad cI cL cR cD) (f1 := hF ad cI cL cR cD (u, o, d)) (zLh hI) (fun _ h => h) lX_h (fun k hk => LF_h k hk) (fun _ k hk => LF_h k hk) LF_h2 (fun _ _ h => h) (hH sz)) (vx_cwSW 4 hts gL_law_L_isAbove rfl rfl rfl (by decide +kernel) ⟨Nat.le_of_ble_eq_true rfl, Nat.le_of_ble_eq_true rfl⟩) rfl (st := []) rfl (Nat.le_of_ble_eq_true rfl) dL_law_568 ⟨by show 100 + 2 * j + 1 ≤ 601024; omega, by show 100000 + 1006 * j + 6 ≤ 7293034; omega⟩ (fun r568 s568 h568 => ?_)
  obtain ⟨e568, hval, hxq⟩ := h568
  subst e568
  refine z_istore (L' := [(6, .int (nI t)), (0, .ref (b)), (1, .ref (ad 33)), (2, .ref (ad 36)), (3, .ref (ad 34)), (4, .ref (ad 35)), (5, .int (nI i))]) C dL_law_571 (by decide) rfl ?_
  refine z_aload_n C dL_law_573 3 rfl ?_
  refine z_aload_n C dL_law_574 1 rfl ?_
  refine z_iload C dL_law_575 6 rfl ?_
  refine z_iconst (v := nI 1) C (by decide) dL_law_577 ?_
  refine z_iadd C dL_law_578 ?_
  refine z_topi (y := nI (i + 1)) (nI_add i 1) ?_
  refine z_sld C hXs hbl hbA (k := i + 1) rfl (by omega) (by omega) dL_law_579 ?_
  refine z_aload_n C dL_law_580 1 rfl ?_
  refine z_iload C dL_law_581 6 rfl ?_
  refine z_iconst (v := nI 2) C (by decide) dL_law_583 ?_
  refine z_iadd C dL_law_584 ?_
  refine z_topi (y := nI (i + 2)) (nI_add i 2) ?_
  refine z_sld C hXs hbl hbA (k := i + 2) rfl (by omega) (by omega) dL_law_585 ?_
  refine z_callVi (q := 36) lX_ok C hml hown hts hK hX (fun sz => z_liftI (σ := fun k => 36 + k) (F := fun v9 => LF ad cI cL cR cB cD (s568, v9)) (F1 := mF (am ad) cI cL cB) (f1 := mF (am ad) cI cL cB v) (zLm hI) lK_m (fun _ _ => trivial) (fun k hk => LF_m k hk) (fun _ k hk => LF_m k hk) LF_m2 (fun _ _ h => h) (hM sz)) (cwV 2 hts gL_law_X7_isAbove rfl rfl rfl (by decide +kernel) ⟨Nat.le_of_ble_eq_true rfl, Nat.le_of_ble_eq_true rfl⟩) (by decide) (ci := 7) rfl rfl rfl (st := []) rfl (Nat.le_of_ble_eq_true rfl) dL_law_586 ⟨by show 100 + 2 * j + 1 + 0 ≤ 601024; omega, by show 100000 + 1006 * j + 6 + 0 ≤ 7293034; omega⟩ (fun r586 v586 h586 => ?_)
  obtain ⟨e586, hth, hmq⟩ := h586
  subst e586
  refine z_istore (L' := [(7, .int (r586)), (6, .int (nI t)), (0, .ref (b)), (1, .ref (ad 33)), (2, .ref (ad 36)), (3, .ref (ad 34)), (4, .ref (ad 35)), (5, .int (nI i))]) C dL_law_589 (by decide) rfl ?_
  refine z_aload_n C dL_law_591 4 rfl ?_
  refine z_callVi (q := 36) lX_ok C hml hown hts hK hX (fun sz => z_liftI (σ := fun k => 36 + k) (F := fun v9 => LF ad cI cL cR cB cD (s568, v9)) (F1 := mF (am ad) cI cL cB) (f1 := mF (am ad) cI cL cB v586) (zLm hI) lK_m (fun _ _ => trivial) (fun k hk => LF_m k hk) (fun _ k hk => LF_m k hk) LF_m2 (fun _ _ h => h) (c_X7_thrown l D (am ad) cI cL cB (gI_m hI) v586 sz)) (cwV 0 hts gL_law_X7_thrown rfl rfl rfl (by decide +kernel) ⟨Nat.le_of_ble_eq_true rfl, Nat.le_of_ble_eq_true rfl⟩) (by decide) (ci := 7) rfl rfl rfl (st := []) rfl (Nat.le_of_ble_eq_true rfl) dL_law_592 ⟨by show 100 + 2 * j + 1 + 0 + 0 ≤ 601024; omega, by show 100000 + 1006 * j + 6 + 0 + 0 ≤ 7293034; omega⟩ (fun r592 v592 h592 => ?_)
  obtain ⟨e592, f592⟩ := h592
  subst f592
  subst e592
  refine z_topi (y := nI t) hth ?_
  refine z_iload C dL_law_595 1 rfl ?_
  refine z_icmp_eq (tgt := 602) C dL_law_597 (by decide) (fun zc597 => ?_) (fun zc597 => ?_)
  · skip
    have zn597 := zeq_t (a := t) (b := t) (by omega) (by omega) zc597
    refine z_iload C dL_law_602 1 rfl ?_
    refine z_if_ne (tgt := 626) C dL_law_604 (by decide) (fun zc604 => ?_) (fun zc604 => ?_)
    · skip
      have zn604 := z0_f zc604
      refine z_goto (tgt := 1770) C dL_law_626 (by decide) ?_
      refine z_iinc (L' := [(5, .int (nI (i + 5))), (7, .int (r586)), (6, .int (nI t)), (0, .ref (b)), (1, .ref (ad 33)), (2, .ref (ad 36)), (3, .ref (ad 34)), (4, .ref (ad 35))]) C dL_law_1770 7 rfl (nI_5 i) (by decide) rfl ?_
      refine z_goto (tgt := 28) C dL_law_1773 (by decide) ?_
      refine z_sub (L' := [(0, .ref b), (1, .ref (ad 33)), (2, .ref (ad 36)), (3, .ref (ad 34)), (4, .ref (ad 35)), (5, .int (nI (i + 5)))]) [3, 4, 5, 6, 7, 0] rfl ?_
      refine z_widen (k := 100 + 2 * (j + 1)) (q := 100000 + 1006 * (j + 1)) (by omega) (by omega) ?_
      exact hNext s568 v592 n2 B2 y2 (JI_of hxq hmq)
    · skip
      have zn604 := z0_t (by omega) zc604
      have hzt : t = 0 := zn604
      refine z_aload_n C dL_law_607 5 rfl ?_
      refine z_iconst (v := nI 0) C (by decide) dL_law_608 ?_
      refine z_lald (q := 34) (len := 1) (k := 0) C hK (by decide) rfl 1 rfl rfl (by decide) (by decide) dL_law_609 ?_
      refine z_topl (y := (if r586 = 0 then 0 else 1)) (hval hzt) ?_
      refine z_iload C dL_law_610 0 rfl ?_
      refine z_if_eq (tgt := 619) C dL_law_612 (by decide) (fun zc612 => ?_) (fun zc612 => ?_)
      · skip
        refine z_lconst (v := 0) C (by decide) dL_law_619 ?_
        refine z_topl (y := (if r586 = 0 then 0 else 1)) ((by first | exact (if_pos (by assumption)).symm | (split <;> first | rfl | contradiction))) ?_
        refine z_lcmp C dL_law_620 ?_
        refine z_topi (y := nI 0) (lgc _) ?_
        refine z_if_eq (tgt := 626) C dL_law_621 (by decide) (fun zc621 => ?_) (fun zc621 => ?_)
        · skip
          have zn621 := z0_t (by omega) zc621
          refine z_goto (tgt := 1770) C dL_law_626 (by decide) ?_
          refine z_iinc (L' := [(5, .int (nI (i + 5))), (7, .int (r586)), (6, .int (nI t)), (0, .ref (b)), (1, .ref (ad 33)), (2, .ref (ad 36)), (3, .ref (ad 34)), (4, .ref (ad 35))]) C dL_law_1770 7 rfl (nI_5 i) (by decide) rfl ?_
          refine z_goto (tgt := 28) C dL_law_1773 (by decide) ?_
          refine z_sub (L' := [(0, .ref b), (1, .ref (ad 33)), (2, .ref (ad 36)), (3, .ref (ad 34)), (4, .ref (ad 35)), (5, .int (nI (i + 5)))]) [3, 4, 5, 6, 7, 0] rfl ?_
          refine z_widen (k := 100 + 2 * (j + 1)) (q := 100000 + 1006 * (j + 1)) (by omega) (by omega) ?_
          exact hNext s568 v592 n2 B2 y2 (JI_of hxq hmq)
        · skip
          have zn621 := z0_f zc621
          exact absurd zn621 (by decide)
      · skip
        refine z_lconst (v := 1) C (by decide) dL_law_615 ?_
        refine z_goto (tgt := 620) C dL_law_616 (by decide) ?_
        refine z_topl (y := (if r586 = 0 then 0 else 1)) ((by split <;> first | rfl | contradiction)) ?_
        refine z_lcmp C dL_law_620 ?_
        refine z_topi (y := nI 0) (lgc _) ?_
        refine z_if_eq (tgt := 626) C dL_law_621 (by decide) (fun zc621 => ?_) (fun zc621 => ?_)
        · skip
          have zn621 := z0_t (by omega) zc621
          refine z_goto (tgt := 1770) C dL_law_626 (by decide) ?_
          refine z_iinc (L' := [(5, .int (nI (i + 5))), (7, .int (r586)), (6, .int (nI t)), (0, .ref (b)), (1, .ref (ad 33)), (2, .ref (ad 36)), (3, .ref (ad 34)), (4, .ref (ad 35))]) C dL_law_1770 7 rfl (nI_5 i) (by decide) rfl ?_
          refine z_goto (tgt := 28) C dL_law_1773 (by decide) ?_
          refine z_sub (L' := [(0, .ref b), (1, .ref (ad 33)), (2, .ref (ad 36)), (3, .ref (ad 34)), (4, .ref (ad 35)), (5, .int (nI (i + 5)))]) [3, 4, 5, 6, 7, 0] rfl ?_
          refine z_widen (k := 100 + 2 * (j + 1)) (q := 100000 + 1006 * (j + 1)) (by omega) (by omega) ?_
          exact hNext s568 v592 n2 B2 y2 (JI_of hxq hmq)
        · skip
          have zn621 := z0_f zc621
          exact absurd zn621 (by decide)
  · skip
    have zn597 := zeq_f (a := t) (b := t) zc597
    exact False.elim (zc597 rfl)

set_option maxHeartbeats 4000000 in
set_option maxRecDepth 100000 in
theorem sg_ruleCount {p : Program} {l : Launch} {e : Env} {s : State} {m : MethodId} {below : List Frame} {meth : Method} {c : Code} {D : va_G} {ad : Nat → Nat} {cI cL cR cB cD : ClassId} {b Ln : Nat} {xs : Nat → Int32} {Qq : State → Prop} (C0 : LC p l s m c D ad cI cL cR cB cD b Ln xs) {j i : Nat} (hi : i = 5 * j) (hiL : i + 5 ≤ Ln) {u v : xS} {o : Nat → Int64} {d : Nat → UInt64} {n : Nat} {B : Nat → Nat → Nat} {x : Nat} (hJ : JI u v n B x) (hNext : ∀ (s' : hS) (v' : xS) (n' : Nat) (B' : Nat → Nat → Nat) (x' : Nat), JI s'.1 v' n' B' x' → ZZ p l e room_1 s m #[Value.ref b] below meth c D vwCl 48 ad 9 (100 + 2 * (j + 1)) (100000 + 1006 * (j + 1)) Qq (LF ad cI cL cR cB cD (s', v')) [(0, .ref b), (1, .ref (ad 33)), (2, .ref (ad 36)), (3, .ref (ad 34)), (4, .ref (ad 35)), (5, .int (nI (i + 5)))] 28 []) : ZZ p l e room_1 s m #[Value.ref b] below meth c D vwCl 48 ad 9 (100 + 2 * j) (100000 + 1006 * j) Qq (LF ad cI cL cR cB cD ((u, o, d), v)) [(0, .ref b), (1, .ref (ad 33)), (2, .ref (ad 36)), (3, .ref (ad 34)), (4, .ref (ad 35)), (5, .int (nI i))] 629 [] := by
  obtain ⟨C, hml, hown, hts, hK, hX, hI, hXs, hbl, hbA, hL, hst0⟩ := C0
  obtain ⟨vl, n2, B2, y2, f, hH, hM⟩ := dc_ruleCount l D ad (am ad) cI cL cR cB (gI_n (by decide) hI) (gI_m hI) u v n B x hJ
  refine z_aload_n C dL_law_629 1 rfl ?_
  refine z_callVi lX_ok C hml hown hts hK hX (fun sz => z_liftI (σ := id) (F := fun u9 => LF ad cI cL cR cB cD ((u9, o, d), v)) (F1 := xF ad cI cL cR) (f1 := xF ad cI cL cR u) (zLx hI) lK_x lX_x8 (fun k hk => LF_x k hk) (fun _ k hk => LF_x k hk) LF_x2 (fun _ _ h => h) (hH sz)) (cwV 0 hts gL_law_X6_ruleCount rfl rfl rfl (by decide +kernel) ⟨Nat.le_of_ble_eq_true rfl, Nat.le_of_ble_eq_true rfl⟩) (by decide) (ci := 6) rfl rfl rfl (st := []) rfl (Nat.le_of_ble_eq_true rfl) dL_law_630 ⟨by show 100 + 2 * j + 0 ≤ 601024; omega, by show 100000 + 1006 * j + 0 ≤ 7293034; omega⟩ (fun r630 u630 h630 => ?_)
  obtain ⟨e630, hxq⟩ := h630
  subst e630
  refine z_aload_n C dL_law_633 2 rfl ?_
  refine z_callVi (q := 36) lX_ok C hml hown hts hK hX (fun sz => z_liftI (σ := fun k => 36 + k) (F := fun v9 => LF ad cI cL cR cB cD ((u630, o, d), v9)) (F1 := mF (am ad) cI cL cB) (f1 := mF (am ad) cI cL cB v) (zLm hI) lK_m (fun _ _ => trivial) (fun k hk => LF_m k hk) (fun _ k hk => LF_m k hk) LF_m2 (fun _ _ h => h) (hM sz)) (cwV 0 hts gL_law_X7_ruleCount rfl rfl rfl (by decide +kernel) ⟨Nat.le_of_ble_eq_true rfl, Nat.le_of_ble_eq_true rfl⟩) (by decide) (ci := 7) rfl rfl rfl (st := [.int (r630)]) rfl (Nat.le_of_ble_eq_true rfl) dL_law_634 ⟨by show 100 + 2 * j + 0 + 0 ≤ 601024; omega, by show 100000 + 1006 * j + 0 + 0 ≤ 7293034; omega⟩ (fun r634 v634 h634 => ?_)
  obtain ⟨e634, hth, hmq⟩ := h634
  subst e634
  refine z_icmp_eq (tgt := 1770) C dL_law_637 (by decide) (fun zc637 => ?_) (fun zc637 => ?_)
  · skip
    refine z_iinc (L' := [(5, .int (nI (i + 5))), (0, .ref (b)), (1, .ref (ad 33)), (2, .ref (ad 36)), (3, .ref (ad 34)), (4, .ref (ad 35))]) C dL_law_1770 5 rfl (nI_5 i) (by decide) rfl ?_
    refine z_goto (tgt := 28) C dL_law_1773 (by decide) ?_
    refine z_sub (L' := [(0, .ref b), (1, .ref (ad 33)), (2, .ref (ad 36)), (3, .ref (ad 34)), (4, .ref (ad 35)), (5, .int (nI (i + 5)))]) [1, 2, 3, 4, 5, 0] rfl ?_
    refine z_widen (k := 100 + 2 * (j + 1)) (q := 100000 + 1006 * (j + 1)) (by omega) (by omega) ?_
    exact hNext (u630, o, d) v634 n2 B2 y2 (JI_of hxq hmq)
  · skip
    exact False.elim (zc637 rfl)

set_option maxHeartbeats 4000000 in
set_option maxRecDepth 100000 in
theorem sg_put {p : Program} {l : Launch} {e : Env} {s : State} {m : MethodId} {below : List Frame} {meth : Method} {c : Code} {D : va_G} {ad : Nat → Nat} {cI cL cR cB cD : ClassId} {b Ln : Nat} {xs : Nat → Int32} {Qq : State → Prop} (C0 : LC p l s m c D ad cI cL cR cB cD b Ln xs) {j i : Nat} (hi : i = 5 * j) (hiL : i + 5 ≤ Ln) {u v : xS} {o : Nat → Int64} {d : Nat → UInt64} {n : Nat} {B : Nat → Nat → Nat} {x : Nat} (hJ : JI u v n B x) (hNext : ∀ (s' : hS) (v' : xS) (n' : Nat) (B' : Nat → Nat → Nat) (x' : Nat), JI s'.1 v' n' B' x' → ZZ p l e room_1 s m #[Value.ref b] below meth c D vwCl 48 ad 9 (100 + 2 * (j + 1)) (100000 + 1006 * (j + 1)) Qq (LF ad cI cL cR cB cD (s', v')) [(0, .ref b), (1, .ref (ad 33)), (2, .ref (ad 36)), (3, .ref (ad 34)), (4, .ref (ad 35)), (5, .int (nI (i + 5)))] 28 []) : ZZ p l e room_1 s m #[Value.ref b] below meth c D vwCl 48 ad 9 (100 + 2 * j) (100000 + 1006 * j) Qq (LF ad cI cL cR cB cD ((u, o, d), v)) [(0, .ref b), (1, .ref (ad 33)), (2, .ref (ad 36)), (3, .ref (ad 34)), (4, .ref (ad 35)), (5, .int (nI i))] 642 [] := by
  obtain ⟨C, hml, hown, hts, hK, hX, hI, hXs, hbl, hbA, hL, hst0⟩ := C0
  obtain ⟨t, vl, n2, B2, y2, f, ht3, hH, hM⟩ := lc_put l hst0 D ad (am ad) cI cL cR cB cD (gI_n (by decide) hI) (gI_m hI) u v o d n B x hJ (xs (i + 1))
  refine z_aload_n C dL_law_642 1 rfl ?_
  refine z_aload_n C dL_law_643 0 rfl ?_
  refine z_iload C dL_law_644 5 rfl ?_
  refine z_iconst (v := nI 1) C (by decide) dL_law_646 ?_
  refine z_iadd C dL_law_647 ?_
  refine z_topi (y := nI (i + 1)) (nI_add i 1) ?_
  refine z_sld C hXs hbl hbA (k := i + 1) rfl (by omega) (by omega) dL_law_648 ?_
  refine z_aload_n C dL_law_649 3 rfl ?_
  refine z_callWi lX_ok C hml hown hts hK hX (fun sz => z_liftI (σ := id) (F := fun s9 => LF ad cI cL cR cB cD (s9, v)) (F1 := hF ad cI cL cR cD) (f1 := hF ad cI cL cR cD (u, o, d)) (zLh hI) (fun _ h => h) lX_h (fun k hk => LF_h k hk) (fun _ k hk => LF_h k hk) LF_h2 (fun _ _ h => h) (hH sz)) (vx_cwSW 3 hts gL_law_L_put rfl rfl rfl (by decide +kernel) ⟨Nat.le_of_ble_eq_true rfl, Nat.le_of_ble_eq_true rfl⟩) rfl (st := []) rfl (Nat.le_of_ble_eq_true rfl) dL_law_650 ⟨by show 100 + 2 * j + 1 ≤ 601024; omega, by show 100000 + 1006 * j + 6 ≤ 7293034; omega⟩ (fun r650 s650 h650 => ?_)
  obtain ⟨e650, hval, hxq⟩ := h650
  subst e650
  refine z_istore (L' := [(6, .int (nI t)), (0, .ref (b)), (1, .ref (ad 33)), (2, .ref (ad 36)), (3, .ref (ad 34)), (4, .ref (ad 35)), (5, .int (nI i))]) C dL_law_653 (by decide) rfl ?_
  refine z_aload_n C dL_law_655 3 rfl ?_
  refine z_aload_n C dL_law_656 1 rfl ?_
  refine z_iload C dL_law_657 6 rfl ?_
  refine z_iconst (v := nI 1) C (by decide) dL_law_659 ?_
  refine z_iadd C dL_law_660 ?_
  refine z_topi (y := nI (i + 1)) (nI_add i 1) ?_
  refine z_sld C hXs hbl hbA (k := i + 1) rfl (by omega) (by omega) dL_law_661 ?_
  refine z_callVi (q := 36) lX_ok C hml hown hts hK hX (fun sz => z_liftI (σ := fun k => 36 + k) (F := fun v9 => LF ad cI cL cR cB cD (s650, v9)) (F1 := mF (am ad) cI cL cB) (f1 := mF (am ad) cI cL cB v) (zLm hI) lK_m (fun _ _ => trivial) (fun k hk => LF_m k hk) (fun _ k hk => LF_m k hk) LF_m2 (fun _ _ h => h) (hM sz)) (cwV 1 hts gL_law_X7_put rfl rfl rfl (by decide +kernel) ⟨Nat.le_of_ble_eq_true rfl, Nat.le_of_ble_eq_true rfl⟩) (by decide) (ci := 7) rfl rfl rfl (st := []) rfl (Nat.le_of_ble_eq_true rfl) dL_law_662 ⟨by show 100 + 2 * j + 1 + 0 ≤ 601024; omega, by show 100000 + 1006 * j + 6 + 0 ≤ 7293034; omega⟩ (fun r662 v662 h662 => ?_)
  obtain ⟨e662, hth, hmq⟩ := h662
  subst e662
  refine z_istore (L' := [(7, .int (r662)), (6, .int (nI t)), (0, .ref (b)), (1, .ref (ad 33)), (2, .ref (ad 36)), (3, .ref (ad 34)), (4, .ref (ad 35)), (5, .int (nI i))]) C dL_law_665 (by decide) rfl ?_
  refine z_aload_n C dL_law_667 4 rfl ?_
  refine z_callVi (q := 36) lX_ok C hml hown hts hK hX (fun sz => z_liftI (σ := fun k => 36 + k) (F := fun v9 => LF ad cI cL cR cB cD (s650, v9)) (F1 := mF (am ad) cI cL cB) (f1 := mF (am ad) cI cL cB v662) (zLm hI) lK_m (fun _ _ => trivial) (fun k hk => LF_m k hk) (fun _ k hk => LF_m k hk) LF_m2 (fun _ _ h => h) (c_X7_thrown l D (am ad) cI cL cB (gI_m hI) v662 sz)) (cwV 0 hts gL_law_X7_thrown rfl rfl rfl (by decide +kernel) ⟨Nat.le_of_ble_eq_true rfl, Nat.le_of_ble_eq_true rfl⟩) (by decide) (ci := 7) rfl rfl rfl (st := []) rfl (Nat.le_of_ble_eq_true rfl) dL_law_668 ⟨by show 100 + 2 * j + 1 + 0 + 0 ≤ 601024; omega, by show 100000 + 1006 * j + 6 + 0 + 0 ≤ 7293034; omega⟩ (fun r668 v668 h668 => ?_)
  obtain ⟨e668, f668⟩ := h668
  subst f668
  subst e668
  refine z_topi (y := nI t) hth ?_
  refine z_iload C dL_law_671 1 rfl ?_
  refine z_icmp_eq (tgt := 678) C dL_law_673 (by decide) (fun zc673 => ?_) (fun zc673 => ?_)
  · skip
    have zn673 := zeq_t (a := t) (b := t) (by omega) (by omega) zc673
    refine z_iload C dL_law_678 1 rfl ?_
    refine z_if_ne (tgt := 695) C dL_law_680 (by decide) (fun zc680 => ?_) (fun zc680 => ?_)
    · skip
      have zn680 := z0_f zc680
      refine z_goto (tgt := 1770) C dL_law_695 (by decide) ?_
      refine z_iinc (L' := [(5, .int (nI (i + 5))), (7, .int (r662)), (6, .int (nI t)), (0, .ref (b)), (1, .ref (ad 33)), (2, .ref (ad 36)), (3, .ref (ad 34)), (4, .ref (ad 35))]) C dL_law_1770 7 rfl (nI_5 i) (by decide) rfl ?_
      refine z_goto (tgt := 28) C dL_law_1773 (by decide) ?_
      refine z_sub (L' := [(0, .ref b), (1, .ref (ad 33)), (2, .ref (ad 36)), (3, .ref (ad 34)), (4, .ref (ad 35)), (5, .int (nI (i + 5)))]) [3, 4, 5, 6, 7, 0] rfl ?_
      refine z_widen (k := 100 + 2 * (j + 1)) (q := 100000 + 1006 * (j + 1)) (by omega) (by omega) ?_
      exact hNext s650 v668 n2 B2 y2 (JI_of hxq hmq)
    · skip
      have zn680 := z0_t (by omega) zc680
      have hzt : t = 0 := zn680
      refine z_aload_n C dL_law_683 5 rfl ?_
      refine z_iconst (v := nI 0) C (by decide) dL_law_684 ?_
      refine z_lald (q := 34) (len := 1) (k := 0) C hK (by decide) rfl 1 rfl rfl (by decide) (by decide) dL_law_685 ?_
      refine z_topl (y := r662.toInt64) (hval hzt) ?_
      refine z_iload C dL_law_686 0 rfl ?_
      refine z_i2l C rfl dL_law_688 ?_
      refine z_lcmp C dL_law_689 ?_
      refine z_topi (y := nI 0) (lgc _) ?_
      refine z_if_eq (tgt := 695) C dL_law_690 (by decide) (fun zc690 => ?_) (fun zc690 => ?_)
      · skip
        have zn690 := z0_t (by omega) zc690
        refine z_goto (tgt := 1770) C dL_law_695 (by decide) ?_
        refine z_iinc (L' := [(5, .int (nI (i + 5))), (7, .int (r662)), (6, .int (nI t)), (0, .ref (b)), (1, .ref (ad 33)), (2, .ref (ad 36)), (3, .ref (ad 34)), (4, .ref (ad 35))]) C dL_law_1770 7 rfl (nI_5 i) (by decide) rfl ?_
        refine z_goto (tgt := 28) C dL_law_1773 (by decide) ?_
        refine z_sub (L' := [(0, .ref b), (1, .ref (ad 33)), (2, .ref (ad 36)), (3, .ref (ad 34)), (4, .ref (ad 35)), (5, .int (nI (i + 5)))]) [3, 4, 5, 6, 7, 0] rfl ?_
        refine z_widen (k := 100 + 2 * (j + 1)) (q := 100000 + 1006 * (j + 1)) (by omega) (by omega) ?_
        exact hNext s650 v668 n2 B2 y2 (JI_of hxq hmq)
      · skip
        have zn690 := z0_f zc690
        exact absurd zn690 (by decide)
  · skip
    have zn673 := zeq_f (a := t) (b := t) zc673
    exact False.elim (zc673 rfl)

set_option maxHeartbeats 4000000 in
set_option maxRecDepth 100000 in
theorem sg_change {p : Program} {l : Launch} {e : Env} {s : State} {m : MethodId} {below : List Frame} {meth : Method} {c : Code} {D : va_G} {ad : Nat → Nat} {cI cL cR cB cD : ClassId} {b Ln : Nat} {xs : Nat → Int32} {Qq : State → Prop} (C0 : LC p l s m c D ad cI cL cR cB cD b Ln xs) {j i : Nat} (hi : i = 5 * j) (hiL : i + 5 ≤ Ln) {u v : xS} {o : Nat → Int64} {d : Nat → UInt64} {n : Nat} {B : Nat → Nat → Nat} {x : Nat} (hJ : JI u v n B x) (hNext : ∀ (s' : hS) (v' : xS) (n' : Nat) (B' : Nat → Nat → Nat) (x' : Nat), JI s'.1 v' n' B' x' → ZZ p l e room_1 s m #[Value.ref b] below meth c D vwCl 48 ad 9 (100 + 2 * (j + 1)) (100000 + 1006 * (j + 1)) Qq (LF ad cI cL cR cB cD (s', v')) [(0, .ref b), (1, .ref (ad 33)), (2, .ref (ad 36)), (3, .ref (ad 34)), (4, .ref (ad 35)), (5, .int (nI (i + 5)))] 28 []) : ZZ p l e room_1 s m #[Value.ref b] below meth c D vwCl 48 ad 9 (100 + 2 * j) (100000 + 1006 * j) Qq (LF ad cI cL cR cB cD ((u, o, d), v)) [(0, .ref b), (1, .ref (ad 33)), (2, .ref (ad 36)), (3, .ref (ad 34)), (4, .ref (ad 35)), (5, .int (nI i))] 698 [] := by
  obtain ⟨C, hml, hown, hts, hK, hX, hI, hXs, hbl, hbA, hL, hst0⟩ := C0
  by_cases hb9 : xs (i + 2) = 0
  · obtain ⟨t, vl, n2, B2, y2, f, ht3, hH, hM⟩ := lc_change l hst0 D ad (am ad) cI cL cR cB cD (gI_n (by decide) hI) (gI_m hI) u v o d n B x hJ (xs (i + 1)) 0 (by decide)
    refine z_aload_n C dL_law_698 1 rfl ?_
    refine z_aload_n C dL_law_699 0 rfl ?_
    refine z_iload C dL_law_700 5 rfl ?_
    refine z_iconst (v := nI 1) C (by decide) dL_law_702 ?_
    refine z_iadd C dL_law_703 ?_
    refine z_topi (y := nI (i + 1)) (nI_add i 1) ?_
    refine z_sld C hXs hbl hbA (k := i + 1) rfl (by omega) (by omega) dL_law_704 ?_
    refine z_aload_n C dL_law_705 0 rfl ?_
    refine z_iload C dL_law_706 5 rfl ?_
    refine z_iconst (v := nI 2) C (by decide) dL_law_708 ?_
    refine z_iadd C dL_law_709 ?_
    refine z_topi (y := nI (i + 2)) (nI_add i 2) ?_
    refine z_sld C hXs hbl hbA (k := i + 2) rfl (by omega) (by omega) dL_law_710 ?_
    refine z_if_eq (tgt := 718) C dL_law_711 (by decide) (fun zc711 => ?_) (fun zc711 => ?_)
    · skip
      refine z_iconst (v := nI 0) C (by decide) dL_law_718 ?_
      refine z_aload_n C dL_law_719 3 rfl ?_
      refine z_callWi lX_ok C hml hown hts hK hX (fun sz => z_liftI (σ := id) (F := fun s9 => LF ad cI cL cR cB cD (s9, v)) (F1 := hF ad cI cL cR cD) (f1 := hF ad cI cL cR cD (u, o, d)) (zLh hI) (fun _ h => h) lX_h (fun k hk => LF_h k hk) (fun _ k hk => LF_h k hk) LF_h2 (fun _ _ h => h) (hH sz)) (vx_cwSW 4 hts gL_law_L_change rfl rfl rfl (by decide +kernel) ⟨Nat.le_of_ble_eq_true rfl, Nat.le_of_ble_eq_true rfl⟩) rfl (st := []) rfl (Nat.le_of_ble_eq_true rfl) dL_law_720 ⟨by show 100 + 2 * j + 1 ≤ 601024; omega, by show 100000 + 1006 * j + 6 ≤ 7293034; omega⟩ (fun r720 s720 h720 => ?_)
      obtain ⟨e720, hval, hxq⟩ := h720
      subst e720
      refine z_istore (L' := [(6, .int (nI t)), (0, .ref (b)), (1, .ref (ad 33)), (2, .ref (ad 36)), (3, .ref (ad 34)), (4, .ref (ad 35)), (5, .int (nI i))]) C dL_law_723 (by decide) rfl ?_
      refine z_aload_n C dL_law_725 3 rfl ?_
      refine z_aload_n C dL_law_726 1 rfl ?_
      refine z_iload C dL_law_727 6 rfl ?_
      refine z_iconst (v := nI 1) C (by decide) dL_law_729 ?_
      refine z_iadd C dL_law_730 ?_
      refine z_topi (y := nI (i + 1)) (nI_add i 1) ?_
      refine z_sld C hXs hbl hbA (k := i + 1) rfl (by omega) (by omega) dL_law_731 ?_
      refine z_aload_n C dL_law_732 1 rfl ?_
      refine z_iload C dL_law_733 6 rfl ?_
      refine z_iconst (v := nI 2) C (by decide) dL_law_735 ?_
      refine z_iadd C dL_law_736 ?_
      refine z_topi (y := nI (i + 2)) (nI_add i 2) ?_
      refine z_sld C hXs hbl hbA (k := i + 2) rfl (by omega) (by omega) dL_law_737 ?_
      refine z_if_eq (tgt := 745) C dL_law_738 (by decide) (fun zc738 => ?_) (fun zc738 => ?_)
      · skip
        refine z_iconst (v := nI 0) C (by decide) dL_law_745 ?_
        refine z_callVi (q := 36) lX_ok C hml hown hts hK hX (fun sz => z_liftI (σ := fun k => 36 + k) (F := fun v9 => LF ad cI cL cR cB cD (s720, v9)) (F1 := mF (am ad) cI cL cB) (f1 := mF (am ad) cI cL cB v) (zLm hI) lK_m (fun _ _ => trivial) (fun k hk => LF_m k hk) (fun _ k hk => LF_m k hk) LF_m2 (fun _ _ h => h) (hM sz)) (cwV 2 hts gL_law_X7_change rfl rfl rfl (by decide +kernel) ⟨Nat.le_of_ble_eq_true rfl, Nat.le_of_ble_eq_true rfl⟩) (by decide) (ci := 7) rfl rfl rfl (st := []) rfl (Nat.le_of_ble_eq_true rfl) dL_law_746 ⟨by show 100 + 2 * j + 1 + 0 ≤ 601024; omega, by show 100000 + 1006 * j + 6 + 0 ≤ 7293034; omega⟩ (fun r746 v746 h746 => ?_)
        obtain ⟨e746, hth, hmq⟩ := h746
        subst e746
        refine z_istore (L' := [(7, .int (r746)), (6, .int (nI t)), (0, .ref (b)), (1, .ref (ad 33)), (2, .ref (ad 36)), (3, .ref (ad 34)), (4, .ref (ad 35)), (5, .int (nI i))]) C dL_law_749 (by decide) rfl ?_
        refine z_aload_n C dL_law_751 4 rfl ?_
        refine z_callVi (q := 36) lX_ok C hml hown hts hK hX (fun sz => z_liftI (σ := fun k => 36 + k) (F := fun v9 => LF ad cI cL cR cB cD (s720, v9)) (F1 := mF (am ad) cI cL cB) (f1 := mF (am ad) cI cL cB v746) (zLm hI) lK_m (fun _ _ => trivial) (fun k hk => LF_m k hk) (fun _ k hk => LF_m k hk) LF_m2 (fun _ _ h => h) (c_X7_thrown l D (am ad) cI cL cB (gI_m hI) v746 sz)) (cwV 0 hts gL_law_X7_thrown rfl rfl rfl (by decide +kernel) ⟨Nat.le_of_ble_eq_true rfl, Nat.le_of_ble_eq_true rfl⟩) (by decide) (ci := 7) rfl rfl rfl (st := []) rfl (Nat.le_of_ble_eq_true rfl) dL_law_752 ⟨by show 100 + 2 * j + 1 + 0 + 0 ≤ 601024; omega, by show 100000 + 1006 * j + 6 + 0 + 0 ≤ 7293034; omega⟩ (fun r752 v752 h752 => ?_)
        obtain ⟨e752, f752⟩ := h752
        subst f752
        subst e752
        refine z_topi (y := nI t) hth ?_
        refine z_iload C dL_law_755 1 rfl ?_
        refine z_icmp_eq (tgt := 762) C dL_law_757 (by decide) (fun zc757 => ?_) (fun zc757 => ?_)
        · skip
          have zn757 := zeq_t (a := t) (b := t) (by omega) (by omega) zc757
          refine z_iload C dL_law_762 1 rfl ?_
          refine z_if_ne (tgt := 779) C dL_law_764 (by decide) (fun zc764 => ?_) (fun zc764 => ?_)
          · skip
            have zn764 := z0_f zc764
            refine z_goto (tgt := 1770) C dL_law_779 (by decide) ?_
            refine z_iinc (L' := [(5, .int (nI (i + 5))), (7, .int (r746)), (6, .int (nI t)), (0, .ref (b)), (1, .ref (ad 33)), (2, .ref (ad 36)), (3, .ref (ad 34)), (4, .ref (ad 35))]) C dL_law_1770 7 rfl (nI_5 i) (by decide) rfl ?_
            refine z_goto (tgt := 28) C dL_law_1773 (by decide) ?_
            refine z_sub (L' := [(0, .ref b), (1, .ref (ad 33)), (2, .ref (ad 36)), (3, .ref (ad 34)), (4, .ref (ad 35)), (5, .int (nI (i + 5)))]) [3, 4, 5, 6, 7, 0] rfl ?_
            refine z_widen (k := 100 + 2 * (j + 1)) (q := 100000 + 1006 * (j + 1)) (by omega) (by omega) ?_
            exact hNext s720 v752 n2 B2 y2 (JI_of hxq hmq)
          · skip
            have zn764 := z0_t (by omega) zc764
            have hzt : t = 0 := zn764
            refine z_aload_n C dL_law_767 5 rfl ?_
            refine z_iconst (v := nI 0) C (by decide) dL_law_768 ?_
            refine z_lald (q := 34) (len := 1) (k := 0) C hK (by decide) rfl 1 rfl rfl (by decide) (by decide) dL_law_769 ?_
            refine z_topl (y := r746.toInt64) (hval hzt) ?_
            refine z_iload C dL_law_770 0 rfl ?_
            refine z_i2l C rfl dL_law_772 ?_
            refine z_lcmp C dL_law_773 ?_
            refine z_topi (y := nI 0) (lgc _) ?_
            refine z_if_eq (tgt := 779) C dL_law_774 (by decide) (fun zc774 => ?_) (fun zc774 => ?_)
            · skip
              have zn774 := z0_t (by omega) zc774
              refine z_goto (tgt := 1770) C dL_law_779 (by decide) ?_
              refine z_iinc (L' := [(5, .int (nI (i + 5))), (7, .int (r746)), (6, .int (nI t)), (0, .ref (b)), (1, .ref (ad 33)), (2, .ref (ad 36)), (3, .ref (ad 34)), (4, .ref (ad 35))]) C dL_law_1770 7 rfl (nI_5 i) (by decide) rfl ?_
              refine z_goto (tgt := 28) C dL_law_1773 (by decide) ?_
              refine z_sub (L' := [(0, .ref b), (1, .ref (ad 33)), (2, .ref (ad 36)), (3, .ref (ad 34)), (4, .ref (ad 35)), (5, .int (nI (i + 5)))]) [3, 4, 5, 6, 7, 0] rfl ?_
              refine z_widen (k := 100 + 2 * (j + 1)) (q := 100000 + 1006 * (j + 1)) (by omega) (by omega) ?_
              exact hNext s720 v752 n2 B2 y2 (JI_of hxq hmq)
            · skip
              have zn774 := z0_f zc774
              exact absurd zn774 (by decide)
        · skip
          have zn757 := zeq_f (a := t) (b := t) zc757
          exact False.elim (zc757 rfl)
      · skip
        exact False.elim (zc738 hb9)
    · skip
      exact False.elim (zc711 hb9)
  · obtain ⟨t, vl, n2, B2, y2, f, ht3, hH, hM⟩ := lc_change l hst0 D ad (am ad) cI cL cR cB cD (gI_n (by decide) hI) (gI_m hI) u v o d n B x hJ (xs (i + 1)) 1 (by decide)
    refine z_aload_n C dL_law_698 1 rfl ?_
    refine z_aload_n C dL_law_699 0 rfl ?_
    refine z_iload C dL_law_700 5 rfl ?_
    refine z_iconst (v := nI 1) C (by decide) dL_law_702 ?_
    refine z_iadd C dL_law_703 ?_
    refine z_topi (y := nI (i + 1)) (nI_add i 1) ?_
    refine z_sld C hXs hbl hbA (k := i + 1) rfl (by omega) (by omega) dL_law_704 ?_
    refine z_aload_n C dL_law_705 0 rfl ?_
    refine z_iload C dL_law_706 5 rfl ?_
    refine z_iconst (v := nI 2) C (by decide) dL_law_708 ?_
    refine z_iadd C dL_law_709 ?_
    refine z_topi (y := nI (i + 2)) (nI_add i 2) ?_
    refine z_sld C hXs hbl hbA (k := i + 2) rfl (by omega) (by omega) dL_law_710 ?_
    refine z_if_eq (tgt := 718) C dL_law_711 (by decide) (fun zc711 => ?_) (fun zc711 => ?_)
    · skip
      exact False.elim (hb9 zc711)
    · skip
      refine z_iconst (v := nI 1) C (by decide) dL_law_714 ?_
      refine z_goto (tgt := 719) C dL_law_715 (by decide) ?_
      refine z_aload_n C dL_law_719 3 rfl ?_
      refine z_callWi lX_ok C hml hown hts hK hX (fun sz => z_liftI (σ := id) (F := fun s9 => LF ad cI cL cR cB cD (s9, v)) (F1 := hF ad cI cL cR cD) (f1 := hF ad cI cL cR cD (u, o, d)) (zLh hI) (fun _ h => h) lX_h (fun k hk => LF_h k hk) (fun _ k hk => LF_h k hk) LF_h2 (fun _ _ h => h) (hH sz)) (vx_cwSW 4 hts gL_law_L_change rfl rfl rfl (by decide +kernel) ⟨Nat.le_of_ble_eq_true rfl, Nat.le_of_ble_eq_true rfl⟩) rfl (st := []) rfl (Nat.le_of_ble_eq_true rfl) dL_law_720 ⟨by show 100 + 2 * j + 1 ≤ 601024; omega, by show 100000 + 1006 * j + 6 ≤ 7293034; omega⟩ (fun r720 s720 h720 => ?_)
      obtain ⟨e720, hval, hxq⟩ := h720
      subst e720
      refine z_istore (L' := [(6, .int (nI t)), (0, .ref (b)), (1, .ref (ad 33)), (2, .ref (ad 36)), (3, .ref (ad 34)), (4, .ref (ad 35)), (5, .int (nI i))]) C dL_law_723 (by decide) rfl ?_
      refine z_aload_n C dL_law_725 3 rfl ?_
      refine z_aload_n C dL_law_726 1 rfl ?_
      refine z_iload C dL_law_727 6 rfl ?_
      refine z_iconst (v := nI 1) C (by decide) dL_law_729 ?_
      refine z_iadd C dL_law_730 ?_
      refine z_topi (y := nI (i + 1)) (nI_add i 1) ?_
      refine z_sld C hXs hbl hbA (k := i + 1) rfl (by omega) (by omega) dL_law_731 ?_
      refine z_aload_n C dL_law_732 1 rfl ?_
      refine z_iload C dL_law_733 6 rfl ?_
      refine z_iconst (v := nI 2) C (by decide) dL_law_735 ?_
      refine z_iadd C dL_law_736 ?_
      refine z_topi (y := nI (i + 2)) (nI_add i 2) ?_
      refine z_sld C hXs hbl hbA (k := i + 2) rfl (by omega) (by omega) dL_law_737 ?_
      refine z_if_eq (tgt := 745) C dL_law_738 (by decide) (fun zc738 => ?_) (fun zc738 => ?_)
      · skip
        exact False.elim (hb9 zc738)
      · skip
        refine z_iconst (v := nI 1) C (by decide) dL_law_741 ?_
        refine z_goto (tgt := 746) C dL_law_742 (by decide) ?_
        refine z_callVi (q := 36) lX_ok C hml hown hts hK hX (fun sz => z_liftI (σ := fun k => 36 + k) (F := fun v9 => LF ad cI cL cR cB cD (s720, v9)) (F1 := mF (am ad) cI cL cB) (f1 := mF (am ad) cI cL cB v) (zLm hI) lK_m (fun _ _ => trivial) (fun k hk => LF_m k hk) (fun _ k hk => LF_m k hk) LF_m2 (fun _ _ h => h) (hM sz)) (cwV 2 hts gL_law_X7_change rfl rfl rfl (by decide +kernel) ⟨Nat.le_of_ble_eq_true rfl, Nat.le_of_ble_eq_true rfl⟩) (by decide) (ci := 7) rfl rfl rfl (st := []) rfl (Nat.le_of_ble_eq_true rfl) dL_law_746 ⟨by show 100 + 2 * j + 1 + 0 ≤ 601024; omega, by show 100000 + 1006 * j + 6 + 0 ≤ 7293034; omega⟩ (fun r746 v746 h746 => ?_)
        obtain ⟨e746, hth, hmq⟩ := h746
        subst e746
        refine z_istore (L' := [(7, .int (r746)), (6, .int (nI t)), (0, .ref (b)), (1, .ref (ad 33)), (2, .ref (ad 36)), (3, .ref (ad 34)), (4, .ref (ad 35)), (5, .int (nI i))]) C dL_law_749 (by decide) rfl ?_
        refine z_aload_n C dL_law_751 4 rfl ?_
        refine z_callVi (q := 36) lX_ok C hml hown hts hK hX (fun sz => z_liftI (σ := fun k => 36 + k) (F := fun v9 => LF ad cI cL cR cB cD (s720, v9)) (F1 := mF (am ad) cI cL cB) (f1 := mF (am ad) cI cL cB v746) (zLm hI) lK_m (fun _ _ => trivial) (fun k hk => LF_m k hk) (fun _ k hk => LF_m k hk) LF_m2 (fun _ _ h => h) (c_X7_thrown l D (am ad) cI cL cB (gI_m hI) v746 sz)) (cwV 0 hts gL_law_X7_thrown rfl rfl rfl (by decide +kernel) ⟨Nat.le_of_ble_eq_true rfl, Nat.le_of_ble_eq_true rfl⟩) (by decide) (ci := 7) rfl rfl rfl (st := []) rfl (Nat.le_of_ble_eq_true rfl) dL_law_752 ⟨by show 100 + 2 * j + 1 + 0 + 0 ≤ 601024; omega, by show 100000 + 1006 * j + 6 + 0 + 0 ≤ 7293034; omega⟩ (fun r752 v752 h752 => ?_)
        obtain ⟨e752, f752⟩ := h752
        subst f752
        subst e752
        refine z_topi (y := nI t) hth ?_
        refine z_iload C dL_law_755 1 rfl ?_
        refine z_icmp_eq (tgt := 762) C dL_law_757 (by decide) (fun zc757 => ?_) (fun zc757 => ?_)
        · skip
          have zn757 := zeq_t (a := t) (b := t) (by omega) (by omega) zc757
          refine z_iload C dL_law_762 1 rfl ?_
          refine z_if_ne (tgt := 779) C dL_law_764 (by decide) (fun zc764 => ?_) (fun zc764 => ?_)
          · skip
            have zn764 := z0_f zc764
            refine z_goto (tgt := 1770) C dL_law_779 (by decide) ?_
            refine z_iinc (L' := [(5, .int (nI (i + 5))), (7, .int (r746)), (6, .int (nI t)), (0, .ref (b)), (1, .ref (ad 33)), (2, .ref (ad 36)), (3, .ref (ad 34)), (4, .ref (ad 35))]) C dL_law_1770 7 rfl (nI_5 i) (by decide) rfl ?_
            refine z_goto (tgt := 28) C dL_law_1773 (by decide) ?_
            refine z_sub (L' := [(0, .ref b), (1, .ref (ad 33)), (2, .ref (ad 36)), (3, .ref (ad 34)), (4, .ref (ad 35)), (5, .int (nI (i + 5)))]) [3, 4, 5, 6, 7, 0] rfl ?_
            refine z_widen (k := 100 + 2 * (j + 1)) (q := 100000 + 1006 * (j + 1)) (by omega) (by omega) ?_
            exact hNext s720 v752 n2 B2 y2 (JI_of hxq hmq)
          · skip
            have zn764 := z0_t (by omega) zc764
            have hzt : t = 0 := zn764
            refine z_aload_n C dL_law_767 5 rfl ?_
            refine z_iconst (v := nI 0) C (by decide) dL_law_768 ?_
            refine z_lald (q := 34) (len := 1) (k := 0) C hK (by decide) rfl 1 rfl rfl (by decide) (by decide) dL_law_769 ?_
            refine z_topl (y := r746.toInt64) (hval hzt) ?_
            refine z_iload C dL_law_770 0 rfl ?_
            refine z_i2l C rfl dL_law_772 ?_
            refine z_lcmp C dL_law_773 ?_
            refine z_topi (y := nI 0) (lgc _) ?_
            refine z_if_eq (tgt := 779) C dL_law_774 (by decide) (fun zc774 => ?_) (fun zc774 => ?_)
            · skip
              have zn774 := z0_t (by omega) zc774
              refine z_goto (tgt := 1770) C dL_law_779 (by decide) ?_
              refine z_iinc (L' := [(5, .int (nI (i + 5))), (7, .int (r746)), (6, .int (nI t)), (0, .ref (b)), (1, .ref (ad 33)), (2, .ref (ad 36)), (3, .ref (ad 34)), (4, .ref (ad 35))]) C dL_law_1770 7 rfl (nI_5 i) (by decide) rfl ?_
              refine z_goto (tgt := 28) C dL_law_1773 (by decide) ?_
              refine z_sub (L' := [(0, .ref b), (1, .ref (ad 33)), (2, .ref (ad 36)), (3, .ref (ad 34)), (4, .ref (ad 35)), (5, .int (nI (i + 5)))]) [3, 4, 5, 6, 7, 0] rfl ?_
              refine z_widen (k := 100 + 2 * (j + 1)) (q := 100000 + 1006 * (j + 1)) (by omega) (by omega) ?_
              exact hNext s720 v752 n2 B2 y2 (JI_of hxq hmq)
            · skip
              have zn774 := z0_f zc774
              exact absurd zn774 (by decide)
        · skip
          have zn757 := zeq_f (a := t) (b := t) zc757
          exact False.elim (zc757 rfl)

set_option maxHeartbeats 4000000 in
set_option maxRecDepth 100000 in
theorem sg_facts {p : Program} {l : Launch} {e : Env} {s : State} {m : MethodId} {below : List Frame} {meth : Method} {c : Code} {D : va_G} {ad : Nat → Nat} {cI cL cR cB cD : ClassId} {b Ln : Nat} {xs : Nat → Int32} {Qq : State → Prop} (C0 : LC p l s m c D ad cI cL cR cB cD b Ln xs) {j i : Nat} (hi : i = 5 * j) (hiL : i + 5 ≤ Ln) {u v : xS} {o : Nat → Int64} {d : Nat → UInt64} {n : Nat} {B : Nat → Nat → Nat} {x : Nat} (hJ : JI u v n B x) (hNext : ∀ (s' : hS) (v' : xS) (n' : Nat) (B' : Nat → Nat → Nat) (x' : Nat), JI s'.1 v' n' B' x' → ZZ p l e room_1 s m #[Value.ref b] below meth c D vwCl 48 ad 9 (100 + 2 * (j + 1)) (100000 + 1006 * (j + 1)) Qq (LF ad cI cL cR cB cD (s', v')) [(0, .ref b), (1, .ref (ad 33)), (2, .ref (ad 36)), (3, .ref (ad 34)), (4, .ref (ad 35)), (5, .int (nI (i + 5)))] 28 []) : ZZ p l e room_1 s m #[Value.ref b] below meth c D vwCl 48 ad 9 (100 + 2 * j) (100000 + 1006 * j) Qq (LF ad cI cL cR cB cD ((u, o, d), v)) [(0, .ref b), (1, .ref (ad 33)), (2, .ref (ad 36)), (3, .ref (ad 34)), (4, .ref (ad 35)), (5, .int (nI i))] 782 [] := by
  obtain ⟨C, hml, hown, hts, hK, hX, hI, hXs, hbl, hbA, hL, hst0⟩ := C0
  obtain ⟨vl, n2, B2, y2, f, hH, hM⟩ := dc_facts l D ad (am ad) cI cL cR cB (gI_n (by decide) hI) (gI_m hI) u v n B x hJ
  refine z_aload_n C dL_law_782 1 rfl ?_
  refine z_callVi lX_ok C hml hown hts hK hX (fun sz => z_liftI (σ := id) (F := fun u9 => LF ad cI cL cR cB cD ((u9, o, d), v)) (F1 := xF ad cI cL cR) (f1 := xF ad cI cL cR u) (zLx hI) lK_x lX_x8 (fun k hk => LF_x k hk) (fun _ k hk => LF_x k hk) LF_x2 (fun _ _ h => h) (hH sz)) (cwV 0 hts gL_law_X6_facts rfl rfl rfl (by decide +kernel) ⟨Nat.le_of_ble_eq_true rfl, Nat.le_of_ble_eq_true rfl⟩) (by decide) (ci := 6) rfl rfl rfl (st := []) rfl (Nat.le_of_ble_eq_true rfl) dL_law_783 ⟨by show 100 + 2 * j + 0 ≤ 601024; omega, by show 100000 + 1006 * j + 0 ≤ 7293034; omega⟩ (fun r783 u783 h783 => ?_)
  obtain ⟨e783, hxq⟩ := h783
  subst e783
  refine z_aload_n C dL_law_786 2 rfl ?_
  refine z_callVi (q := 36) lX_ok C hml hown hts hK hX (fun sz => z_liftI (σ := fun k => 36 + k) (F := fun v9 => LF ad cI cL cR cB cD ((u783, o, d), v9)) (F1 := mF (am ad) cI cL cB) (f1 := mF (am ad) cI cL cB v) (zLm hI) lK_m (fun _ _ => trivial) (fun k hk => LF_m k hk) (fun _ k hk => LF_m k hk) LF_m2 (fun _ _ h => h) (hM sz)) (cwV 0 hts gL_law_X7_facts rfl rfl rfl (by decide +kernel) ⟨Nat.le_of_ble_eq_true rfl, Nat.le_of_ble_eq_true rfl⟩) (by decide) (ci := 7) rfl rfl rfl (st := [.int (r783)]) rfl (Nat.le_of_ble_eq_true rfl) dL_law_787 ⟨by show 100 + 2 * j + 0 + 0 ≤ 601024; omega, by show 100000 + 1006 * j + 0 + 0 ≤ 7293034; omega⟩ (fun r787 v787 h787 => ?_)
  obtain ⟨e787, hth, hmq⟩ := h787
  subst e787
  refine z_icmp_eq (tgt := 1770) C dL_law_790 (by decide) (fun zc790 => ?_) (fun zc790 => ?_)
  · skip
    refine z_iinc (L' := [(5, .int (nI (i + 5))), (0, .ref (b)), (1, .ref (ad 33)), (2, .ref (ad 36)), (3, .ref (ad 34)), (4, .ref (ad 35))]) C dL_law_1770 5 rfl (nI_5 i) (by decide) rfl ?_
    refine z_goto (tgt := 28) C dL_law_1773 (by decide) ?_
    refine z_sub (L' := [(0, .ref b), (1, .ref (ad 33)), (2, .ref (ad 36)), (3, .ref (ad 34)), (4, .ref (ad 35)), (5, .int (nI (i + 5)))]) [1, 2, 3, 4, 5, 0] rfl ?_
    refine z_widen (k := 100 + 2 * (j + 1)) (q := 100000 + 1006 * (j + 1)) (by omega) (by omega) ?_
    exact hNext (u783, o, d) v787 n2 B2 y2 (JI_of hxq hmq)
  · skip
    exact False.elim (zc790 rfl)

set_option maxHeartbeats 4000000 in
set_option maxRecDepth 100000 in
theorem sg_triggered {p : Program} {l : Launch} {e : Env} {s : State} {m : MethodId} {below : List Frame} {meth : Method} {c : Code} {D : va_G} {ad : Nat → Nat} {cI cL cR cB cD : ClassId} {b Ln : Nat} {xs : Nat → Int32} {Qq : State → Prop} (C0 : LC p l s m c D ad cI cL cR cB cD b Ln xs) {j i : Nat} (hi : i = 5 * j) (hiL : i + 5 ≤ Ln) {u v : xS} {o : Nat → Int64} {d : Nat → UInt64} {n : Nat} {B : Nat → Nat → Nat} {x : Nat} (hJ : JI u v n B x) (hNext : ∀ (s' : hS) (v' : xS) (n' : Nat) (B' : Nat → Nat → Nat) (x' : Nat), JI s'.1 v' n' B' x' → ZZ p l e room_1 s m #[Value.ref b] below meth c D vwCl 48 ad 9 (100 + 2 * (j + 1)) (100000 + 1006 * (j + 1)) Qq (LF ad cI cL cR cB cD (s', v')) [(0, .ref b), (1, .ref (ad 33)), (2, .ref (ad 36)), (3, .ref (ad 34)), (4, .ref (ad 35)), (5, .int (nI (i + 5)))] 28 []) : ZZ p l e room_1 s m #[Value.ref b] below meth c D vwCl 48 ad 9 (100 + 2 * j) (100000 + 1006 * j) Qq (LF ad cI cL cR cB cD ((u, o, d), v)) [(0, .ref b), (1, .ref (ad 33)), (2, .ref (ad 36)), (3, .ref (ad 34)), (4, .ref (ad 35)), (5, .int (nI i))] 795 [] := by
  obtain ⟨C, hml, hown, hts, hK, hX, hI, hXs, hbl, hbA, hL, hst0⟩ := C0
  obtain ⟨vl, n2, B2, y2, f, hH, hM⟩ := dc_triggered l D ad (am ad) cI cL cR cB (gI_n (by decide) hI) (gI_m hI) u v n B x hJ
  refine z_aload_n C dL_law_795 1 rfl ?_
  refine z_callVi lX_ok C hml hown hts hK hX (fun sz => z_liftI (σ := id) (F := fun u9 => LF ad cI cL cR cB cD ((u9, o, d), v)) (F1 := xF ad cI cL cR) (f1 := xF ad cI cL cR u) (zLx hI) lK_x lX_x8 (fun k hk => LF_x k hk) (fun _ k hk => LF_x k hk) LF_x2 (fun _ _ h => h) (hH sz)) (cwV 0 hts gL_law_X6_triggered rfl rfl rfl (by decide +kernel) ⟨Nat.le_of_ble_eq_true rfl, Nat.le_of_ble_eq_true rfl⟩) (by decide) (ci := 6) rfl rfl rfl (st := []) rfl (Nat.le_of_ble_eq_true rfl) dL_law_796 ⟨by show 100 + 2 * j + 0 ≤ 601024; omega, by show 100000 + 1006 * j + 0 ≤ 7293034; omega⟩ (fun r796 u796 h796 => ?_)
  obtain ⟨e796, hxq⟩ := h796
  subst e796
  refine z_aload_n C dL_law_799 2 rfl ?_
  refine z_callVi (q := 36) lX_ok C hml hown hts hK hX (fun sz => z_liftI (σ := fun k => 36 + k) (F := fun v9 => LF ad cI cL cR cB cD ((u796, o, d), v9)) (F1 := mF (am ad) cI cL cB) (f1 := mF (am ad) cI cL cB v) (zLm hI) lK_m (fun _ _ => trivial) (fun k hk => LF_m k hk) (fun _ k hk => LF_m k hk) LF_m2 (fun _ _ h => h) (hM sz)) (cwV 0 hts gL_law_X7_triggered rfl rfl rfl (by decide +kernel) ⟨Nat.le_of_ble_eq_true rfl, Nat.le_of_ble_eq_true rfl⟩) (by decide) (ci := 7) rfl rfl rfl (st := [.int (r796)]) rfl (Nat.le_of_ble_eq_true rfl) dL_law_800 ⟨by show 100 + 2 * j + 0 + 0 ≤ 601024; omega, by show 100000 + 1006 * j + 0 + 0 ≤ 7293034; omega⟩ (fun r800 v800 h800 => ?_)
  obtain ⟨e800, hth, hmq⟩ := h800
  subst e800
  refine z_icmp_eq (tgt := 1770) C dL_law_803 (by decide) (fun zc803 => ?_) (fun zc803 => ?_)
  · skip
    refine z_iinc (L' := [(5, .int (nI (i + 5))), (0, .ref (b)), (1, .ref (ad 33)), (2, .ref (ad 36)), (3, .ref (ad 34)), (4, .ref (ad 35))]) C dL_law_1770 5 rfl (nI_5 i) (by decide) rfl ?_
    refine z_goto (tgt := 28) C dL_law_1773 (by decide) ?_
    refine z_sub (L' := [(0, .ref b), (1, .ref (ad 33)), (2, .ref (ad 36)), (3, .ref (ad 34)), (4, .ref (ad 35)), (5, .int (nI (i + 5)))]) [1, 2, 3, 4, 5, 0] rfl ?_
    refine z_widen (k := 100 + 2 * (j + 1)) (q := 100000 + 1006 * (j + 1)) (by omega) (by omega) ?_
    exact hNext (u796, o, d) v800 n2 B2 y2 (JI_of hxq hmq)
  · skip
    exact False.elim (zc803 rfl)

set_option maxHeartbeats 4000000 in
set_option maxRecDepth 100000 in
theorem sg_ready {p : Program} {l : Launch} {e : Env} {s : State} {m : MethodId} {below : List Frame} {meth : Method} {c : Code} {D : va_G} {ad : Nat → Nat} {cI cL cR cB cD : ClassId} {b Ln : Nat} {xs : Nat → Int32} {Qq : State → Prop} (C0 : LC p l s m c D ad cI cL cR cB cD b Ln xs) {j i : Nat} (hi : i = 5 * j) (hiL : i + 5 ≤ Ln) {u v : xS} {o : Nat → Int64} {d : Nat → UInt64} {n : Nat} {B : Nat → Nat → Nat} {x : Nat} (hJ : JI u v n B x) (hNext : ∀ (s' : hS) (v' : xS) (n' : Nat) (B' : Nat → Nat → Nat) (x' : Nat), JI s'.1 v' n' B' x' → ZZ p l e room_1 s m #[Value.ref b] below meth c D vwCl 48 ad 9 (100 + 2 * (j + 1)) (100000 + 1006 * (j + 1)) Qq (LF ad cI cL cR cB cD (s', v')) [(0, .ref b), (1, .ref (ad 33)), (2, .ref (ad 36)), (3, .ref (ad 34)), (4, .ref (ad 35)), (5, .int (nI (i + 5)))] 28 []) : ZZ p l e room_1 s m #[Value.ref b] below meth c D vwCl 48 ad 9 (100 + 2 * j) (100000 + 1006 * j) Qq (LF ad cI cL cR cB cD ((u, o, d), v)) [(0, .ref b), (1, .ref (ad 33)), (2, .ref (ad 36)), (3, .ref (ad 34)), (4, .ref (ad 35)), (5, .int (nI i))] 808 [] := by
  obtain ⟨C, hml, hown, hts, hK, hX, hI, hXs, hbl, hbA, hL, hst0⟩ := C0
  obtain ⟨vl, n2, B2, y2, f, hH, hM⟩ := dc_ready l D ad (am ad) cI cL cR cB (gI_n (by decide) hI) (gI_m hI) u v n B x hJ
  refine z_aload_n C dL_law_808 1 rfl ?_
  refine z_callVi lX_ok C hml hown hts hK hX (fun sz => z_liftI (σ := id) (F := fun u9 => LF ad cI cL cR cB cD ((u9, o, d), v)) (F1 := xF ad cI cL cR) (f1 := xF ad cI cL cR u) (zLx hI) lK_x lX_x8 (fun k hk => LF_x k hk) (fun _ k hk => LF_x k hk) LF_x2 (fun _ _ h => h) (hH sz)) (cwV 0 hts gL_law_X6_ready rfl rfl rfl (by decide +kernel) ⟨Nat.le_of_ble_eq_true rfl, Nat.le_of_ble_eq_true rfl⟩) (by decide) (ci := 6) rfl rfl rfl (st := []) rfl (Nat.le_of_ble_eq_true rfl) dL_law_809 ⟨by show 100 + 2 * j + 0 ≤ 601024; omega, by show 100000 + 1006 * j + 0 ≤ 7293034; omega⟩ (fun r809 u809 h809 => ?_)
  obtain ⟨e809, hxq⟩ := h809
  subst e809
  refine z_aload_n C dL_law_812 2 rfl ?_
  refine z_callVi (q := 36) lX_ok C hml hown hts hK hX (fun sz => z_liftI (σ := fun k => 36 + k) (F := fun v9 => LF ad cI cL cR cB cD ((u809, o, d), v9)) (F1 := mF (am ad) cI cL cB) (f1 := mF (am ad) cI cL cB v) (zLm hI) lK_m (fun _ _ => trivial) (fun k hk => LF_m k hk) (fun _ k hk => LF_m k hk) LF_m2 (fun _ _ h => h) (hM sz)) (cwV 0 hts gL_law_X7_ready rfl rfl rfl (by decide +kernel) ⟨Nat.le_of_ble_eq_true rfl, Nat.le_of_ble_eq_true rfl⟩) (by decide) (ci := 7) rfl rfl rfl (st := [.int (r809)]) rfl (Nat.le_of_ble_eq_true rfl) dL_law_813 ⟨by show 100 + 2 * j + 0 + 0 ≤ 601024; omega, by show 100000 + 1006 * j + 0 + 0 ≤ 7293034; omega⟩ (fun r813 v813 h813 => ?_)
  obtain ⟨e813, hth, hmq⟩ := h813
  subst e813
  refine z_icmp_eq (tgt := 1770) C dL_law_816 (by decide) (fun zc816 => ?_) (fun zc816 => ?_)
  · skip
    refine z_iinc (L' := [(5, .int (nI (i + 5))), (0, .ref (b)), (1, .ref (ad 33)), (2, .ref (ad 36)), (3, .ref (ad 34)), (4, .ref (ad 35))]) C dL_law_1770 5 rfl (nI_5 i) (by decide) rfl ?_
    refine z_goto (tgt := 28) C dL_law_1773 (by decide) ?_
    refine z_sub (L' := [(0, .ref b), (1, .ref (ad 33)), (2, .ref (ad 36)), (3, .ref (ad 34)), (4, .ref (ad 35)), (5, .int (nI (i + 5)))]) [1, 2, 3, 4, 5, 0] rfl ?_
    refine z_widen (k := 100 + 2 * (j + 1)) (q := 100000 + 1006 * (j + 1)) (by omega) (by omega) ?_
    exact hNext (u809, o, d) v813 n2 B2 y2 (JI_of hxq hmq)
  · skip
    exact False.elim (zc816 rfl)

set_option maxHeartbeats 4000000 in
set_option maxRecDepth 100000 in
theorem sg_play {p : Program} {l : Launch} {e : Env} {s : State} {m : MethodId} {below : List Frame} {meth : Method} {c : Code} {D : va_G} {ad : Nat → Nat} {cI cL cR cB cD : ClassId} {b Ln : Nat} {xs : Nat → Int32} {Qq : State → Prop} (C0 : LC p l s m c D ad cI cL cR cB cD b Ln xs) {j i : Nat} (hi : i = 5 * j) (hiL : i + 5 ≤ Ln) {u v : xS} {o : Nat → Int64} {d : Nat → UInt64} {n : Nat} {B : Nat → Nat → Nat} {x : Nat} (hJ : JI u v n B x) (hNext : ∀ (s' : hS) (v' : xS) (n' : Nat) (B' : Nat → Nat → Nat) (x' : Nat), JI s'.1 v' n' B' x' → ZZ p l e room_1 s m #[Value.ref b] below meth c D vwCl 48 ad 9 (100 + 2 * (j + 1)) (100000 + 1006 * (j + 1)) Qq (LF ad cI cL cR cB cD (s', v')) [(0, .ref b), (1, .ref (ad 33)), (2, .ref (ad 36)), (3, .ref (ad 34)), (4, .ref (ad 35)), (5, .int (nI (i + 5)))] 28 []) : ZZ p l e room_1 s m #[Value.ref b] below meth c D vwCl 48 ad 9 (100 + 2 * j) (100000 + 1006 * j) Qq (LF ad cI cL cR cB cD ((u, o, d), v)) [(0, .ref b), (1, .ref (ad 33)), (2, .ref (ad 36)), (3, .ref (ad 34)), (4, .ref (ad 35)), (5, .int (nI i))] 821 [] := by
  obtain ⟨C, hml, hown, hts, hK, hX, hI, hXs, hbl, hbA, hL, hst0⟩ := C0
  obtain ⟨t, vl, n2, B2, y2, f, ht3, hH, hM⟩ := lc_play l hst0 D ad (am ad) cI cL cR cB cD (gI_n (by decide) hI) (gI_m hI) u v o d n B x hJ (xs (i + 1))
  refine z_aload_n C dL_law_821 1 rfl ?_
  refine z_aload_n C dL_law_822 0 rfl ?_
  refine z_iload C dL_law_823 5 rfl ?_
  refine z_iconst (v := nI 1) C (by decide) dL_law_825 ?_
  refine z_iadd C dL_law_826 ?_
  refine z_topi (y := nI (i + 1)) (nI_add i 1) ?_
  refine z_sld C hXs hbl hbA (k := i + 1) rfl (by omega) (by omega) dL_law_827 ?_
  refine z_aload_n C dL_law_828 3 rfl ?_
  refine z_callWi lX_ok C hml hown hts hK hX (fun sz => z_liftI (σ := id) (F := fun s9 => LF ad cI cL cR cB cD (s9, v)) (F1 := hF ad cI cL cR cD) (f1 := hF ad cI cL cR cD (u, o, d)) (zLh hI) (fun _ h => h) lX_h (fun k hk => LF_h k hk) (fun _ k hk => LF_h k hk) LF_h2 (fun _ _ h => h) (hH sz)) (vx_cwSW 3 hts gL_law_L_play rfl rfl rfl (by decide +kernel) ⟨Nat.le_of_ble_eq_true rfl, Nat.le_of_ble_eq_true rfl⟩) rfl (st := []) rfl (Nat.le_of_ble_eq_true rfl) dL_law_829 ⟨by show 100 + 2 * j + 1 ≤ 601024; omega, by show 100000 + 1006 * j + 6 ≤ 7293034; omega⟩ (fun r829 s829 h829 => ?_)
  obtain ⟨e829, hval, hxq⟩ := h829
  subst e829
  refine z_istore (L' := [(6, .int (nI t)), (0, .ref (b)), (1, .ref (ad 33)), (2, .ref (ad 36)), (3, .ref (ad 34)), (4, .ref (ad 35)), (5, .int (nI i))]) C dL_law_832 (by decide) rfl ?_
  refine z_aload_n C dL_law_834 3 rfl ?_
  refine z_aload_n C dL_law_835 1 rfl ?_
  refine z_iload C dL_law_836 6 rfl ?_
  refine z_iconst (v := nI 1) C (by decide) dL_law_838 ?_
  refine z_iadd C dL_law_839 ?_
  refine z_topi (y := nI (i + 1)) (nI_add i 1) ?_
  refine z_sld C hXs hbl hbA (k := i + 1) rfl (by omega) (by omega) dL_law_840 ?_
  refine z_callVi (q := 36) lX_ok C hml hown hts hK hX (fun sz => z_liftI (σ := fun k => 36 + k) (F := fun v9 => LF ad cI cL cR cB cD (s829, v9)) (F1 := mF (am ad) cI cL cB) (f1 := mF (am ad) cI cL cB v) (zLm hI) lK_m (fun _ _ => trivial) (fun k hk => LF_m k hk) (fun _ k hk => LF_m k hk) LF_m2 (fun _ _ h => h) (hM sz)) (cwV 1 hts gL_law_X7_play rfl rfl rfl (by decide +kernel) ⟨Nat.le_of_ble_eq_true rfl, Nat.le_of_ble_eq_true rfl⟩) (by decide) (ci := 7) rfl rfl rfl (st := []) rfl (Nat.le_of_ble_eq_true rfl) dL_law_841 ⟨by show 100 + 2 * j + 1 + 0 ≤ 601024; omega, by show 100000 + 1006 * j + 6 + 0 ≤ 7293034; omega⟩ (fun r841 v841 h841 => ?_)
  obtain ⟨e841, hth, hmq⟩ := h841
  subst e841
  refine z_istore (L' := [(7, .int (r841)), (6, .int (nI t)), (0, .ref (b)), (1, .ref (ad 33)), (2, .ref (ad 36)), (3, .ref (ad 34)), (4, .ref (ad 35)), (5, .int (nI i))]) C dL_law_844 (by decide) rfl ?_
  refine z_aload_n C dL_law_846 4 rfl ?_
  refine z_callVi (q := 36) lX_ok C hml hown hts hK hX (fun sz => z_liftI (σ := fun k => 36 + k) (F := fun v9 => LF ad cI cL cR cB cD (s829, v9)) (F1 := mF (am ad) cI cL cB) (f1 := mF (am ad) cI cL cB v841) (zLm hI) lK_m (fun _ _ => trivial) (fun k hk => LF_m k hk) (fun _ k hk => LF_m k hk) LF_m2 (fun _ _ h => h) (c_X7_thrown l D (am ad) cI cL cB (gI_m hI) v841 sz)) (cwV 0 hts gL_law_X7_thrown rfl rfl rfl (by decide +kernel) ⟨Nat.le_of_ble_eq_true rfl, Nat.le_of_ble_eq_true rfl⟩) (by decide) (ci := 7) rfl rfl rfl (st := []) rfl (Nat.le_of_ble_eq_true rfl) dL_law_847 ⟨by show 100 + 2 * j + 1 + 0 + 0 ≤ 601024; omega, by show 100000 + 1006 * j + 6 + 0 + 0 ≤ 7293034; omega⟩ (fun r847 v847 h847 => ?_)
  obtain ⟨e847, f847⟩ := h847
  subst f847
  subst e847
  refine z_topi (y := nI t) hth ?_
  refine z_iload C dL_law_850 1 rfl ?_
  refine z_icmp_eq (tgt := 857) C dL_law_852 (by decide) (fun zc852 => ?_) (fun zc852 => ?_)
  · skip
    have zn852 := zeq_t (a := t) (b := t) (by omega) (by omega) zc852
    refine z_iload C dL_law_857 1 rfl ?_
    refine z_if_ne (tgt := 881) C dL_law_859 (by decide) (fun zc859 => ?_) (fun zc859 => ?_)
    · skip
      have zn859 := z0_f zc859
      refine z_goto (tgt := 1770) C dL_law_881 (by decide) ?_
      refine z_iinc (L' := [(5, .int (nI (i + 5))), (7, .int (r841)), (6, .int (nI t)), (0, .ref (b)), (1, .ref (ad 33)), (2, .ref (ad 36)), (3, .ref (ad 34)), (4, .ref (ad 35))]) C dL_law_1770 7 rfl (nI_5 i) (by decide) rfl ?_
      refine z_goto (tgt := 28) C dL_law_1773 (by decide) ?_
      refine z_sub (L' := [(0, .ref b), (1, .ref (ad 33)), (2, .ref (ad 36)), (3, .ref (ad 34)), (4, .ref (ad 35)), (5, .int (nI (i + 5)))]) [3, 4, 5, 6, 7, 0] rfl ?_
      refine z_widen (k := 100 + 2 * (j + 1)) (q := 100000 + 1006 * (j + 1)) (by omega) (by omega) ?_
      exact hNext s829 v847 n2 B2 y2 (JI_of hxq hmq)
    · skip
      have zn859 := z0_t (by omega) zc859
      have hzt : t = 0 := zn859
      refine z_aload_n C dL_law_862 5 rfl ?_
      refine z_iconst (v := nI 0) C (by decide) dL_law_863 ?_
      refine z_lald (q := 34) (len := 1) (k := 0) C hK (by decide) rfl 1 rfl rfl (by decide) (by decide) dL_law_864 ?_
      refine z_topl (y := (if r841 = 0 then 0 else 1)) (hval hzt) ?_
      refine z_iload C dL_law_865 0 rfl ?_
      refine z_if_eq (tgt := 874) C dL_law_867 (by decide) (fun zc867 => ?_) (fun zc867 => ?_)
      · skip
        refine z_lconst (v := 0) C (by decide) dL_law_874 ?_
        refine z_topl (y := (if r841 = 0 then 0 else 1)) ((by first | exact (if_pos (by assumption)).symm | (split <;> first | rfl | contradiction))) ?_
        refine z_lcmp C dL_law_875 ?_
        refine z_topi (y := nI 0) (lgc _) ?_
        refine z_if_eq (tgt := 881) C dL_law_876 (by decide) (fun zc876 => ?_) (fun zc876 => ?_)
        · skip
          have zn876 := z0_t (by omega) zc876
          refine z_goto (tgt := 1770) C dL_law_881 (by decide) ?_
          refine z_iinc (L' := [(5, .int (nI (i + 5))), (7, .int (r841)), (6, .int (nI t)), (0, .ref (b)), (1, .ref (ad 33)), (2, .ref (ad 36)), (3, .ref (ad 34)), (4, .ref (ad 35))]) C dL_law_1770 7 rfl (nI_5 i) (by decide) rfl ?_
          refine z_goto (tgt := 28) C dL_law_1773 (by decide) ?_
          refine z_sub (L' := [(0, .ref b), (1, .ref (ad 33)), (2, .ref (ad 36)), (3, .ref (ad 34)), (4, .ref (ad 35)), (5, .int (nI (i + 5)))]) [3, 4, 5, 6, 7, 0] rfl ?_
          refine z_widen (k := 100 + 2 * (j + 1)) (q := 100000 + 1006 * (j + 1)) (by omega) (by omega) ?_
          exact hNext s829 v847 n2 B2 y2 (JI_of hxq hmq)
        · skip
          have zn876 := z0_f zc876
          exact absurd zn876 (by decide)
      · skip
        refine z_lconst (v := 1) C (by decide) dL_law_870 ?_
        refine z_goto (tgt := 875) C dL_law_871 (by decide) ?_
        refine z_topl (y := (if r841 = 0 then 0 else 1)) ((by split <;> first | rfl | contradiction)) ?_
        refine z_lcmp C dL_law_875 ?_
        refine z_topi (y := nI 0) (lgc _) ?_
        refine z_if_eq (tgt := 881) C dL_law_876 (by decide) (fun zc876 => ?_) (fun zc876 => ?_)
        · skip
          have zn876 := z0_t (by omega) zc876
          refine z_goto (tgt := 1770) C dL_law_881 (by decide) ?_
          refine z_iinc (L' := [(5, .int (nI (i + 5))), (7, .int (r841)), (6, .int (nI t)), (0, .ref (b)), (1, .ref (ad 33)), (2, .ref (ad 36)), (3, .ref (ad 34)), (4, .ref (ad 35))]) C dL_law_1770 7 rfl (nI_5 i) (by decide) rfl ?_
          refine z_goto (tgt := 28) C dL_law_1773 (by decide) ?_
          refine z_sub (L' := [(0, .ref b), (1, .ref (ad 33)), (2, .ref (ad 36)), (3, .ref (ad 34)), (4, .ref (ad 35)), (5, .int (nI (i + 5)))]) [3, 4, 5, 6, 7, 0] rfl ?_
          refine z_widen (k := 100 + 2 * (j + 1)) (q := 100000 + 1006 * (j + 1)) (by omega) (by omega) ?_
          exact hNext s829 v847 n2 B2 y2 (JI_of hxq hmq)
        · skip
          have zn876 := z0_f zc876
          exact absurd zn876 (by decide)
  · skip
    have zn852 := zeq_f (a := t) (b := t) zc852
    exact False.elim (zc852 rfl)

set_option maxHeartbeats 4000000 in
set_option maxRecDepth 100000 in
theorem sg_run {p : Program} {l : Launch} {e : Env} {s : State} {m : MethodId} {below : List Frame} {meth : Method} {c : Code} {D : va_G} {ad : Nat → Nat} {cI cL cR cB cD : ClassId} {b Ln : Nat} {xs : Nat → Int32} {Qq : State → Prop} (C0 : LC p l s m c D ad cI cL cR cB cD b Ln xs) {j i : Nat} (hi : i = 5 * j) (hiL : i + 5 ≤ Ln) {u v : xS} {o : Nat → Int64} {d : Nat → UInt64} {n : Nat} {B : Nat → Nat → Nat} {x : Nat} (hJ : JI u v n B x) (hNext : ∀ (s' : hS) (v' : xS) (n' : Nat) (B' : Nat → Nat → Nat) (x' : Nat), JI s'.1 v' n' B' x' → ZZ p l e room_1 s m #[Value.ref b] below meth c D vwCl 48 ad 9 (100 + 2 * (j + 1)) (100000 + 1006 * (j + 1)) Qq (LF ad cI cL cR cB cD (s', v')) [(0, .ref b), (1, .ref (ad 33)), (2, .ref (ad 36)), (3, .ref (ad 34)), (4, .ref (ad 35)), (5, .int (nI (i + 5)))] 28 []) : ZZ p l e room_1 s m #[Value.ref b] below meth c D vwCl 48 ad 9 (100 + 2 * j) (100000 + 1006 * j) Qq (LF ad cI cL cR cB cD ((u, o, d), v)) [(0, .ref b), (1, .ref (ad 33)), (2, .ref (ad 36)), (3, .ref (ad 34)), (4, .ref (ad 35)), (5, .int (nI i))] 884 [] := by
  obtain ⟨C, hml, hown, hts, hK, hX, hI, hXs, hbl, hbA, hL, hst0⟩ := C0
  obtain ⟨t, vl, n2, B2, y2, f, ht3, hH, hM⟩ := lc_run l hst0 D ad (am ad) cI cL cR cB cD (gI_n (by decide) hI) (gI_m hI) u v o d n B x hJ (xs (i + 1))
  refine z_aload_n C dL_law_884 1 rfl ?_
  refine z_aload_n C dL_law_885 0 rfl ?_
  refine z_iload C dL_law_886 5 rfl ?_
  refine z_iconst (v := nI 1) C (by decide) dL_law_888 ?_
  refine z_iadd C dL_law_889 ?_
  refine z_topi (y := nI (i + 1)) (nI_add i 1) ?_
  refine z_sld C hXs hbl hbA (k := i + 1) rfl (by omega) (by omega) dL_law_890 ?_
  refine z_aload_n C dL_law_891 3 rfl ?_
  refine z_callWi lX_ok C hml hown hts hK hX (fun sz => z_liftI (σ := id) (F := fun s9 => LF ad cI cL cR cB cD (s9, v)) (F1 := hF ad cI cL cR cD) (f1 := hF ad cI cL cR cD (u, o, d)) (zLh hI) (fun _ h => h) lX_h (fun k hk => LF_h k hk) (fun _ k hk => LF_h k hk) LF_h2 (fun _ _ h => h) (hH sz)) (vx_cwSW 3 hts gL_law_L_run rfl rfl rfl (by decide +kernel) ⟨Nat.le_of_ble_eq_true rfl, Nat.le_of_ble_eq_true rfl⟩) rfl (st := []) rfl (Nat.le_of_ble_eq_true rfl) dL_law_892 ⟨by show 100 + 2 * j + 1 ≤ 601024; omega, by show 100000 + 1006 * j + 6 ≤ 7293034; omega⟩ (fun r892 s892 h892 => ?_)
  obtain ⟨e892, hval, hxq⟩ := h892
  subst e892
  refine z_istore (L' := [(6, .int (nI t)), (0, .ref (b)), (1, .ref (ad 33)), (2, .ref (ad 36)), (3, .ref (ad 34)), (4, .ref (ad 35)), (5, .int (nI i))]) C dL_law_895 (by decide) rfl ?_
  refine z_aload_n C dL_law_897 3 rfl ?_
  refine z_aload_n C dL_law_898 1 rfl ?_
  refine z_iload C dL_law_899 6 rfl ?_
  refine z_iconst (v := nI 1) C (by decide) dL_law_901 ?_
  refine z_iadd C dL_law_902 ?_
  refine z_topi (y := nI (i + 1)) (nI_add i 1) ?_
  refine z_sld C hXs hbl hbA (k := i + 1) rfl (by omega) (by omega) dL_law_903 ?_
  refine z_callVi (q := 36) lX_ok C hml hown hts hK hX (fun sz => z_liftI (σ := fun k => 36 + k) (F := fun v9 => LF ad cI cL cR cB cD (s892, v9)) (F1 := mF (am ad) cI cL cB) (f1 := mF (am ad) cI cL cB v) (zLm hI) lK_m (fun _ _ => trivial) (fun k hk => LF_m k hk) (fun _ k hk => LF_m k hk) LF_m2 (fun _ _ h => h) (hM sz)) (cwV 1 hts gL_law_X7_run rfl rfl rfl (by decide +kernel) ⟨Nat.le_of_ble_eq_true rfl, Nat.le_of_ble_eq_true rfl⟩) (by decide) (ci := 7) rfl rfl rfl (st := []) rfl (Nat.le_of_ble_eq_true rfl) dL_law_904 ⟨by show 100 + 2 * j + 1 + 0 ≤ 601024; omega, by show 100000 + 1006 * j + 6 + 0 ≤ 7293034; omega⟩ (fun r904 v904 h904 => ?_)
  obtain ⟨e904, hth, hmq⟩ := h904
  subst e904
  refine z_istore (L' := [(7, .int (r904)), (6, .int (nI t)), (0, .ref (b)), (1, .ref (ad 33)), (2, .ref (ad 36)), (3, .ref (ad 34)), (4, .ref (ad 35)), (5, .int (nI i))]) C dL_law_907 (by decide) rfl ?_
  refine z_aload_n C dL_law_909 4 rfl ?_
  refine z_callVi (q := 36) lX_ok C hml hown hts hK hX (fun sz => z_liftI (σ := fun k => 36 + k) (F := fun v9 => LF ad cI cL cR cB cD (s892, v9)) (F1 := mF (am ad) cI cL cB) (f1 := mF (am ad) cI cL cB v904) (zLm hI) lK_m (fun _ _ => trivial) (fun k hk => LF_m k hk) (fun _ k hk => LF_m k hk) LF_m2 (fun _ _ h => h) (c_X7_thrown l D (am ad) cI cL cB (gI_m hI) v904 sz)) (cwV 0 hts gL_law_X7_thrown rfl rfl rfl (by decide +kernel) ⟨Nat.le_of_ble_eq_true rfl, Nat.le_of_ble_eq_true rfl⟩) (by decide) (ci := 7) rfl rfl rfl (st := []) rfl (Nat.le_of_ble_eq_true rfl) dL_law_910 ⟨by show 100 + 2 * j + 1 + 0 + 0 ≤ 601024; omega, by show 100000 + 1006 * j + 6 + 0 + 0 ≤ 7293034; omega⟩ (fun r910 v910 h910 => ?_)
  obtain ⟨e910, f910⟩ := h910
  subst f910
  subst e910
  refine z_topi (y := nI t) hth ?_
  refine z_iload C dL_law_913 1 rfl ?_
  refine z_icmp_eq (tgt := 920) C dL_law_915 (by decide) (fun zc915 => ?_) (fun zc915 => ?_)
  · skip
    have zn915 := zeq_t (a := t) (b := t) (by omega) (by omega) zc915
    refine z_iload C dL_law_920 1 rfl ?_
    refine z_if_ne (tgt := 937) C dL_law_922 (by decide) (fun zc922 => ?_) (fun zc922 => ?_)
    · skip
      have zn922 := z0_f zc922
      refine z_goto (tgt := 1770) C dL_law_937 (by decide) ?_
      refine z_iinc (L' := [(5, .int (nI (i + 5))), (7, .int (r904)), (6, .int (nI t)), (0, .ref (b)), (1, .ref (ad 33)), (2, .ref (ad 36)), (3, .ref (ad 34)), (4, .ref (ad 35))]) C dL_law_1770 7 rfl (nI_5 i) (by decide) rfl ?_
      refine z_goto (tgt := 28) C dL_law_1773 (by decide) ?_
      refine z_sub (L' := [(0, .ref b), (1, .ref (ad 33)), (2, .ref (ad 36)), (3, .ref (ad 34)), (4, .ref (ad 35)), (5, .int (nI (i + 5)))]) [3, 4, 5, 6, 7, 0] rfl ?_
      refine z_widen (k := 100 + 2 * (j + 1)) (q := 100000 + 1006 * (j + 1)) (by omega) (by omega) ?_
      exact hNext s892 v910 n2 B2 y2 (JI_of hxq hmq)
    · skip
      have zn922 := z0_t (by omega) zc922
      have hzt : t = 0 := zn922
      refine z_aload_n C dL_law_925 5 rfl ?_
      refine z_iconst (v := nI 0) C (by decide) dL_law_926 ?_
      refine z_lald (q := 34) (len := 1) (k := 0) C hK (by decide) rfl 1 rfl rfl (by decide) (by decide) dL_law_927 ?_
      refine z_topl (y := r904.toInt64) (hval hzt) ?_
      refine z_iload C dL_law_928 0 rfl ?_
      refine z_i2l C rfl dL_law_930 ?_
      refine z_lcmp C dL_law_931 ?_
      refine z_topi (y := nI 0) (lgc _) ?_
      refine z_if_eq (tgt := 937) C dL_law_932 (by decide) (fun zc932 => ?_) (fun zc932 => ?_)
      · skip
        have zn932 := z0_t (by omega) zc932
        refine z_goto (tgt := 1770) C dL_law_937 (by decide) ?_
        refine z_iinc (L' := [(5, .int (nI (i + 5))), (7, .int (r904)), (6, .int (nI t)), (0, .ref (b)), (1, .ref (ad 33)), (2, .ref (ad 36)), (3, .ref (ad 34)), (4, .ref (ad 35))]) C dL_law_1770 7 rfl (nI_5 i) (by decide) rfl ?_
        refine z_goto (tgt := 28) C dL_law_1773 (by decide) ?_
        refine z_sub (L' := [(0, .ref b), (1, .ref (ad 33)), (2, .ref (ad 36)), (3, .ref (ad 34)), (4, .ref (ad 35)), (5, .int (nI (i + 5)))]) [3, 4, 5, 6, 7, 0] rfl ?_
        refine z_widen (k := 100 + 2 * (j + 1)) (q := 100000 + 1006 * (j + 1)) (by omega) (by omega) ?_
        exact hNext s892 v910 n2 B2 y2 (JI_of hxq hmq)
      · skip
        have zn932 := z0_f zc932
        exact absurd zn932 (by decide)
  · skip
    have zn915 := zeq_f (a := t) (b := t) zc915
    exact False.elim (zc915 rfl)

set_option maxHeartbeats 4000000 in
set_option maxRecDepth 100000 in
theorem sg_explore {p : Program} {l : Launch} {e : Env} {s : State} {m : MethodId} {below : List Frame} {meth : Method} {c : Code} {D : va_G} {ad : Nat → Nat} {cI cL cR cB cD : ClassId} {b Ln : Nat} {xs : Nat → Int32} {Qq : State → Prop} (C0 : LC p l s m c D ad cI cL cR cB cD b Ln xs) {j i : Nat} (hi : i = 5 * j) (hiL : i + 5 ≤ Ln) {u v : xS} {o : Nat → Int64} {d : Nat → UInt64} {n : Nat} {B : Nat → Nat → Nat} {x : Nat} (hJ : JI u v n B x) (hNext : ∀ (s' : hS) (v' : xS) (n' : Nat) (B' : Nat → Nat → Nat) (x' : Nat), JI s'.1 v' n' B' x' → ZZ p l e room_1 s m #[Value.ref b] below meth c D vwCl 48 ad 9 (100 + 2 * (j + 1)) (100000 + 1006 * (j + 1)) Qq (LF ad cI cL cR cB cD (s', v')) [(0, .ref b), (1, .ref (ad 33)), (2, .ref (ad 36)), (3, .ref (ad 34)), (4, .ref (ad 35)), (5, .int (nI (i + 5)))] 28 []) : ZZ p l e room_1 s m #[Value.ref b] below meth c D vwCl 48 ad 9 (100 + 2 * j) (100000 + 1006 * j) Qq (LF ad cI cL cR cB cD ((u, o, d), v)) [(0, .ref b), (1, .ref (ad 33)), (2, .ref (ad 36)), (3, .ref (ad 34)), (4, .ref (ad 35)), (5, .int (nI i))] 940 [] := by
  obtain ⟨C, hml, hown, hts, hK, hX, hI, hXs, hbl, hbA, hL, hst0⟩ := C0
  obtain ⟨vl, n2, B2, y2, f, hH, hM⟩ := dc_explore l D ad (am ad) cI cL cR cB (gI_n (by decide) hI) (gI_m hI) u v n B x hJ
  refine z_aload_n C dL_law_940 1 rfl ?_
  refine z_callVi lX_ok C hml hown hts hK hX (fun sz => z_liftI (σ := id) (F := fun u9 => LF ad cI cL cR cB cD ((u9, o, d), v)) (F1 := xF ad cI cL cR) (f1 := xF ad cI cL cR u) (zLx hI) lK_x lX_x8 (fun k hk => LF_x k hk) (fun _ k hk => LF_x k hk) LF_x2 (fun _ _ h => h) (hH sz)) (cwV 0 hts gL_law_X6_explore rfl rfl rfl (by decide +kernel) ⟨Nat.le_of_ble_eq_true rfl, Nat.le_of_ble_eq_true rfl⟩) (by decide) (ci := 6) rfl rfl rfl (st := []) rfl (Nat.le_of_ble_eq_true rfl) dL_law_941 ⟨by show 100 + 2 * j + 0 ≤ 601024; omega, by show 100000 + 1006 * j + 0 ≤ 7293034; omega⟩ (fun r941 u941 h941 => ?_)
  obtain ⟨e941, hxq⟩ := h941
  subst e941
  refine z_aload_n C dL_law_944 2 rfl ?_
  refine z_callVi (q := 36) lX_ok C hml hown hts hK hX (fun sz => z_liftI (σ := fun k => 36 + k) (F := fun v9 => LF ad cI cL cR cB cD ((u941, o, d), v9)) (F1 := mF (am ad) cI cL cB) (f1 := mF (am ad) cI cL cB v) (zLm hI) lK_m (fun _ _ => trivial) (fun k hk => LF_m k hk) (fun _ k hk => LF_m k hk) LF_m2 (fun _ _ h => h) (hM sz)) (cwV 0 hts gL_law_X7_explore rfl rfl rfl (by decide +kernel) ⟨Nat.le_of_ble_eq_true rfl, Nat.le_of_ble_eq_true rfl⟩) (by decide) (ci := 7) rfl rfl rfl (st := [.int (r941)]) rfl (Nat.le_of_ble_eq_true rfl) dL_law_945 ⟨by show 100 + 2 * j + 0 + 0 ≤ 601024; omega, by show 100000 + 1006 * j + 0 + 0 ≤ 7293034; omega⟩ (fun r945 v945 h945 => ?_)
  obtain ⟨e945, hth, hmq⟩ := h945
  subst e945
  refine z_icmp_eq (tgt := 1770) C dL_law_948 (by decide) (fun zc948 => ?_) (fun zc948 => ?_)
  · skip
    refine z_iinc (L' := [(5, .int (nI (i + 5))), (0, .ref (b)), (1, .ref (ad 33)), (2, .ref (ad 36)), (3, .ref (ad 34)), (4, .ref (ad 35))]) C dL_law_1770 5 rfl (nI_5 i) (by decide) rfl ?_
    refine z_goto (tgt := 28) C dL_law_1773 (by decide) ?_
    refine z_sub (L' := [(0, .ref b), (1, .ref (ad 33)), (2, .ref (ad 36)), (3, .ref (ad 34)), (4, .ref (ad 35)), (5, .int (nI (i + 5)))]) [1, 2, 3, 4, 5, 0] rfl ?_
    refine z_widen (k := 100 + 2 * (j + 1)) (q := 100000 + 1006 * (j + 1)) (by omega) (by omega) ?_
    exact hNext (u941, o, d) v945 n2 B2 y2 (JI_of hxq hmq)
  · skip
    exact False.elim (zc948 rfl)

set_option maxHeartbeats 4000000 in
set_option maxRecDepth 100000 in
theorem sg_factsOf {p : Program} {l : Launch} {e : Env} {s : State} {m : MethodId} {below : List Frame} {meth : Method} {c : Code} {D : va_G} {ad : Nat → Nat} {cI cL cR cB cD : ClassId} {b Ln : Nat} {xs : Nat → Int32} {Qq : State → Prop} (C0 : LC p l s m c D ad cI cL cR cB cD b Ln xs) {j i : Nat} (hi : i = 5 * j) (hiL : i + 5 ≤ Ln) {u v : xS} {o : Nat → Int64} {d : Nat → UInt64} {n : Nat} {B : Nat → Nat → Nat} {x : Nat} (hJ : JI u v n B x) (hNext : ∀ (s' : hS) (v' : xS) (n' : Nat) (B' : Nat → Nat → Nat) (x' : Nat), JI s'.1 v' n' B' x' → ZZ p l e room_1 s m #[Value.ref b] below meth c D vwCl 48 ad 9 (100 + 2 * (j + 1)) (100000 + 1006 * (j + 1)) Qq (LF ad cI cL cR cB cD (s', v')) [(0, .ref b), (1, .ref (ad 33)), (2, .ref (ad 36)), (3, .ref (ad 34)), (4, .ref (ad 35)), (5, .int (nI (i + 5)))] 28 []) : ZZ p l e room_1 s m #[Value.ref b] below meth c D vwCl 48 ad 9 (100 + 2 * j) (100000 + 1006 * j) Qq (LF ad cI cL cR cB cD ((u, o, d), v)) [(0, .ref b), (1, .ref (ad 33)), (2, .ref (ad 36)), (3, .ref (ad 34)), (4, .ref (ad 35)), (5, .int (nI i))] 953 [] := by
  obtain ⟨C, hml, hown, hts, hK, hX, hI, hXs, hbl, hbA, hL, hst0⟩ := C0
  obtain ⟨t, vl, n2, B2, y2, f, ht3, hH, hM⟩ := lc_factsOf l hst0 D ad (am ad) cI cL cR cB cD (gI_n (by decide) hI) (gI_m hI) u v o d n B x hJ (xs (i + 1))
  refine z_aload_n C dL_law_953 1 rfl ?_
  refine z_aload_n C dL_law_954 0 rfl ?_
  refine z_iload C dL_law_955 5 rfl ?_
  refine z_iconst (v := nI 1) C (by decide) dL_law_957 ?_
  refine z_iadd C dL_law_958 ?_
  refine z_topi (y := nI (i + 1)) (nI_add i 1) ?_
  refine z_sld C hXs hbl hbA (k := i + 1) rfl (by omega) (by omega) dL_law_959 ?_
  refine z_aload_n C dL_law_960 3 rfl ?_
  refine z_callWi lX_ok C hml hown hts hK hX (fun sz => z_liftI (σ := id) (F := fun s9 => LF ad cI cL cR cB cD (s9, v)) (F1 := hF ad cI cL cR cD) (f1 := hF ad cI cL cR cD (u, o, d)) (zLh hI) (fun _ h => h) lX_h (fun k hk => LF_h k hk) (fun _ k hk => LF_h k hk) LF_h2 (fun _ _ h => h) (hH sz)) (vx_cwSW 3 hts gL_law_L_factsOf rfl rfl rfl (by decide +kernel) ⟨Nat.le_of_ble_eq_true rfl, Nat.le_of_ble_eq_true rfl⟩) rfl (st := []) rfl (Nat.le_of_ble_eq_true rfl) dL_law_961 ⟨by show 100 + 2 * j + 1 ≤ 601024; omega, by show 100000 + 1006 * j + 6 ≤ 7293034; omega⟩ (fun r961 s961 h961 => ?_)
  obtain ⟨e961, hval, hxq⟩ := h961
  subst e961
  refine z_istore (L' := [(6, .int (nI t)), (0, .ref (b)), (1, .ref (ad 33)), (2, .ref (ad 36)), (3, .ref (ad 34)), (4, .ref (ad 35)), (5, .int (nI i))]) C dL_law_964 (by decide) rfl ?_
  refine z_aload_n C dL_law_966 3 rfl ?_
  refine z_aload_n C dL_law_967 1 rfl ?_
  refine z_iload C dL_law_968 6 rfl ?_
  refine z_iconst (v := nI 1) C (by decide) dL_law_970 ?_
  refine z_iadd C dL_law_971 ?_
  refine z_topi (y := nI (i + 1)) (nI_add i 1) ?_
  refine z_sld C hXs hbl hbA (k := i + 1) rfl (by omega) (by omega) dL_law_972 ?_
  refine z_callVi (q := 36) lX_ok C hml hown hts hK hX (fun sz => z_liftI (σ := fun k => 36 + k) (F := fun v9 => LF ad cI cL cR cB cD (s961, v9)) (F1 := mF (am ad) cI cL cB) (f1 := mF (am ad) cI cL cB v) (zLm hI) lK_m (fun _ _ => trivial) (fun k hk => LF_m k hk) (fun _ k hk => LF_m k hk) LF_m2 (fun _ _ h => h) (hM sz)) (cwV 1 hts gL_law_X7_factsOf rfl rfl rfl (by decide +kernel) ⟨Nat.le_of_ble_eq_true rfl, Nat.le_of_ble_eq_true rfl⟩) (by decide) (ci := 7) rfl rfl rfl (st := []) rfl (Nat.le_of_ble_eq_true rfl) dL_law_973 ⟨by show 100 + 2 * j + 1 + 0 ≤ 601024; omega, by show 100000 + 1006 * j + 6 + 0 ≤ 7293034; omega⟩ (fun r973 v973 h973 => ?_)
  obtain ⟨e973, hth, hmq⟩ := h973
  subst e973
  refine z_istore (L' := [(7, .int (r973)), (6, .int (nI t)), (0, .ref (b)), (1, .ref (ad 33)), (2, .ref (ad 36)), (3, .ref (ad 34)), (4, .ref (ad 35)), (5, .int (nI i))]) C dL_law_976 (by decide) rfl ?_
  refine z_aload_n C dL_law_978 4 rfl ?_
  refine z_callVi (q := 36) lX_ok C hml hown hts hK hX (fun sz => z_liftI (σ := fun k => 36 + k) (F := fun v9 => LF ad cI cL cR cB cD (s961, v9)) (F1 := mF (am ad) cI cL cB) (f1 := mF (am ad) cI cL cB v973) (zLm hI) lK_m (fun _ _ => trivial) (fun k hk => LF_m k hk) (fun _ k hk => LF_m k hk) LF_m2 (fun _ _ h => h) (c_X7_thrown l D (am ad) cI cL cB (gI_m hI) v973 sz)) (cwV 0 hts gL_law_X7_thrown rfl rfl rfl (by decide +kernel) ⟨Nat.le_of_ble_eq_true rfl, Nat.le_of_ble_eq_true rfl⟩) (by decide) (ci := 7) rfl rfl rfl (st := []) rfl (Nat.le_of_ble_eq_true rfl) dL_law_979 ⟨by show 100 + 2 * j + 1 + 0 + 0 ≤ 601024; omega, by show 100000 + 1006 * j + 6 + 0 + 0 ≤ 7293034; omega⟩ (fun r979 v979 h979 => ?_)
  obtain ⟨e979, f979⟩ := h979
  subst f979
  subst e979
  refine z_topi (y := nI t) hth ?_
  refine z_iload C dL_law_982 1 rfl ?_
  refine z_icmp_eq (tgt := 989) C dL_law_984 (by decide) (fun zc984 => ?_) (fun zc984 => ?_)
  · skip
    have zn984 := zeq_t (a := t) (b := t) (by omega) (by omega) zc984
    refine z_iload C dL_law_989 1 rfl ?_
    refine z_if_ne (tgt := 1006) C dL_law_991 (by decide) (fun zc991 => ?_) (fun zc991 => ?_)
    · skip
      have zn991 := z0_f zc991
      refine z_goto (tgt := 1770) C dL_law_1006 (by decide) ?_
      refine z_iinc (L' := [(5, .int (nI (i + 5))), (7, .int (r973)), (6, .int (nI t)), (0, .ref (b)), (1, .ref (ad 33)), (2, .ref (ad 36)), (3, .ref (ad 34)), (4, .ref (ad 35))]) C dL_law_1770 7 rfl (nI_5 i) (by decide) rfl ?_
      refine z_goto (tgt := 28) C dL_law_1773 (by decide) ?_
      refine z_sub (L' := [(0, .ref b), (1, .ref (ad 33)), (2, .ref (ad 36)), (3, .ref (ad 34)), (4, .ref (ad 35)), (5, .int (nI (i + 5)))]) [3, 4, 5, 6, 7, 0] rfl ?_
      refine z_widen (k := 100 + 2 * (j + 1)) (q := 100000 + 1006 * (j + 1)) (by omega) (by omega) ?_
      exact hNext s961 v979 n2 B2 y2 (JI_of hxq hmq)
    · skip
      have zn991 := z0_t (by omega) zc991
      have hzt : t = 0 := zn991
      refine z_aload_n C dL_law_994 5 rfl ?_
      refine z_iconst (v := nI 0) C (by decide) dL_law_995 ?_
      refine z_lald (q := 34) (len := 1) (k := 0) C hK (by decide) rfl 1 rfl rfl (by decide) (by decide) dL_law_996 ?_
      refine z_topl (y := r973.toInt64) (hval hzt) ?_
      refine z_iload C dL_law_997 0 rfl ?_
      refine z_i2l C rfl dL_law_999 ?_
      refine z_lcmp C dL_law_1000 ?_
      refine z_topi (y := nI 0) (lgc _) ?_
      refine z_if_eq (tgt := 1006) C dL_law_1001 (by decide) (fun zc1001 => ?_) (fun zc1001 => ?_)
      · skip
        have zn1001 := z0_t (by omega) zc1001
        refine z_goto (tgt := 1770) C dL_law_1006 (by decide) ?_
        refine z_iinc (L' := [(5, .int (nI (i + 5))), (7, .int (r973)), (6, .int (nI t)), (0, .ref (b)), (1, .ref (ad 33)), (2, .ref (ad 36)), (3, .ref (ad 34)), (4, .ref (ad 35))]) C dL_law_1770 7 rfl (nI_5 i) (by decide) rfl ?_
        refine z_goto (tgt := 28) C dL_law_1773 (by decide) ?_
        refine z_sub (L' := [(0, .ref b), (1, .ref (ad 33)), (2, .ref (ad 36)), (3, .ref (ad 34)), (4, .ref (ad 35)), (5, .int (nI (i + 5)))]) [3, 4, 5, 6, 7, 0] rfl ?_
        refine z_widen (k := 100 + 2 * (j + 1)) (q := 100000 + 1006 * (j + 1)) (by omega) (by omega) ?_
        exact hNext s961 v979 n2 B2 y2 (JI_of hxq hmq)
      · skip
        have zn1001 := z0_f zc1001
        exact absurd zn1001 (by decide)
  · skip
    have zn984 := zeq_f (a := t) (b := t) zc984
    exact False.elim (zc984 rfl)

set_option maxHeartbeats 4000000 in
set_option maxRecDepth 100000 in
theorem sg_triggeredOf {p : Program} {l : Launch} {e : Env} {s : State} {m : MethodId} {below : List Frame} {meth : Method} {c : Code} {D : va_G} {ad : Nat → Nat} {cI cL cR cB cD : ClassId} {b Ln : Nat} {xs : Nat → Int32} {Qq : State → Prop} (C0 : LC p l s m c D ad cI cL cR cB cD b Ln xs) {j i : Nat} (hi : i = 5 * j) (hiL : i + 5 ≤ Ln) {u v : xS} {o : Nat → Int64} {d : Nat → UInt64} {n : Nat} {B : Nat → Nat → Nat} {x : Nat} (hJ : JI u v n B x) (hNext : ∀ (s' : hS) (v' : xS) (n' : Nat) (B' : Nat → Nat → Nat) (x' : Nat), JI s'.1 v' n' B' x' → ZZ p l e room_1 s m #[Value.ref b] below meth c D vwCl 48 ad 9 (100 + 2 * (j + 1)) (100000 + 1006 * (j + 1)) Qq (LF ad cI cL cR cB cD (s', v')) [(0, .ref b), (1, .ref (ad 33)), (2, .ref (ad 36)), (3, .ref (ad 34)), (4, .ref (ad 35)), (5, .int (nI (i + 5)))] 28 []) : ZZ p l e room_1 s m #[Value.ref b] below meth c D vwCl 48 ad 9 (100 + 2 * j) (100000 + 1006 * j) Qq (LF ad cI cL cR cB cD ((u, o, d), v)) [(0, .ref b), (1, .ref (ad 33)), (2, .ref (ad 36)), (3, .ref (ad 34)), (4, .ref (ad 35)), (5, .int (nI i))] 1009 [] := by
  obtain ⟨C, hml, hown, hts, hK, hX, hI, hXs, hbl, hbA, hL, hst0⟩ := C0
  obtain ⟨t, vl, n2, B2, y2, f, ht3, hH, hM⟩ := lc_triggeredOf l hst0 D ad (am ad) cI cL cR cB cD (gI_n (by decide) hI) (gI_m hI) u v o d n B x hJ (xs (i + 1))
  refine z_aload_n C dL_law_1009 1 rfl ?_
  refine z_aload_n C dL_law_1010 0 rfl ?_
  refine z_iload C dL_law_1011 5 rfl ?_
  refine z_iconst (v := nI 1) C (by decide) dL_law_1013 ?_
  refine z_iadd C dL_law_1014 ?_
  refine z_topi (y := nI (i + 1)) (nI_add i 1) ?_
  refine z_sld C hXs hbl hbA (k := i + 1) rfl (by omega) (by omega) dL_law_1015 ?_
  refine z_aload_n C dL_law_1016 3 rfl ?_
  refine z_callWi lX_ok C hml hown hts hK hX (fun sz => z_liftI (σ := id) (F := fun s9 => LF ad cI cL cR cB cD (s9, v)) (F1 := hF ad cI cL cR cD) (f1 := hF ad cI cL cR cD (u, o, d)) (zLh hI) (fun _ h => h) lX_h (fun k hk => LF_h k hk) (fun _ k hk => LF_h k hk) LF_h2 (fun _ _ h => h) (hH sz)) (vx_cwSW 3 hts gL_law_L_triggeredOf rfl rfl rfl (by decide +kernel) ⟨Nat.le_of_ble_eq_true rfl, Nat.le_of_ble_eq_true rfl⟩) rfl (st := []) rfl (Nat.le_of_ble_eq_true rfl) dL_law_1017 ⟨by show 100 + 2 * j + 1 ≤ 601024; omega, by show 100000 + 1006 * j + 6 ≤ 7293034; omega⟩ (fun r1017 s1017 h1017 => ?_)
  obtain ⟨e1017, hval, hxq⟩ := h1017
  subst e1017
  refine z_istore (L' := [(6, .int (nI t)), (0, .ref (b)), (1, .ref (ad 33)), (2, .ref (ad 36)), (3, .ref (ad 34)), (4, .ref (ad 35)), (5, .int (nI i))]) C dL_law_1020 (by decide) rfl ?_
  refine z_aload_n C dL_law_1022 3 rfl ?_
  refine z_aload_n C dL_law_1023 1 rfl ?_
  refine z_iload C dL_law_1024 6 rfl ?_
  refine z_iconst (v := nI 1) C (by decide) dL_law_1026 ?_
  refine z_iadd C dL_law_1027 ?_
  refine z_topi (y := nI (i + 1)) (nI_add i 1) ?_
  refine z_sld C hXs hbl hbA (k := i + 1) rfl (by omega) (by omega) dL_law_1028 ?_
  refine z_callVi (q := 36) lX_ok C hml hown hts hK hX (fun sz => z_liftI (σ := fun k => 36 + k) (F := fun v9 => LF ad cI cL cR cB cD (s1017, v9)) (F1 := mF (am ad) cI cL cB) (f1 := mF (am ad) cI cL cB v) (zLm hI) lK_m (fun _ _ => trivial) (fun k hk => LF_m k hk) (fun _ k hk => LF_m k hk) LF_m2 (fun _ _ h => h) (hM sz)) (cwV 1 hts gL_law_X7_triggeredOf rfl rfl rfl (by decide +kernel) ⟨Nat.le_of_ble_eq_true rfl, Nat.le_of_ble_eq_true rfl⟩) (by decide) (ci := 7) rfl rfl rfl (st := []) rfl (Nat.le_of_ble_eq_true rfl) dL_law_1029 ⟨by show 100 + 2 * j + 1 + 0 ≤ 601024; omega, by show 100000 + 1006 * j + 6 + 0 ≤ 7293034; omega⟩ (fun r1029 v1029 h1029 => ?_)
  obtain ⟨e1029, hth, hmq⟩ := h1029
  subst e1029
  refine z_istore (L' := [(7, .int (r1029)), (6, .int (nI t)), (0, .ref (b)), (1, .ref (ad 33)), (2, .ref (ad 36)), (3, .ref (ad 34)), (4, .ref (ad 35)), (5, .int (nI i))]) C dL_law_1032 (by decide) rfl ?_
  refine z_aload_n C dL_law_1034 4 rfl ?_
  refine z_callVi (q := 36) lX_ok C hml hown hts hK hX (fun sz => z_liftI (σ := fun k => 36 + k) (F := fun v9 => LF ad cI cL cR cB cD (s1017, v9)) (F1 := mF (am ad) cI cL cB) (f1 := mF (am ad) cI cL cB v1029) (zLm hI) lK_m (fun _ _ => trivial) (fun k hk => LF_m k hk) (fun _ k hk => LF_m k hk) LF_m2 (fun _ _ h => h) (c_X7_thrown l D (am ad) cI cL cB (gI_m hI) v1029 sz)) (cwV 0 hts gL_law_X7_thrown rfl rfl rfl (by decide +kernel) ⟨Nat.le_of_ble_eq_true rfl, Nat.le_of_ble_eq_true rfl⟩) (by decide) (ci := 7) rfl rfl rfl (st := []) rfl (Nat.le_of_ble_eq_true rfl) dL_law_1035 ⟨by show 100 + 2 * j + 1 + 0 + 0 ≤ 601024; omega, by show 100000 + 1006 * j + 6 + 0 + 0 ≤ 7293034; omega⟩ (fun r1035 v1035 h1035 => ?_)
  obtain ⟨e1035, f1035⟩ := h1035
  subst f1035
  subst e1035
  refine z_topi (y := nI t) hth ?_
  refine z_iload C dL_law_1038 1 rfl ?_
  refine z_icmp_eq (tgt := 1045) C dL_law_1040 (by decide) (fun zc1040 => ?_) (fun zc1040 => ?_)
  · skip
    have zn1040 := zeq_t (a := t) (b := t) (by omega) (by omega) zc1040
    refine z_iload C dL_law_1045 1 rfl ?_
    refine z_if_ne (tgt := 1062) C dL_law_1047 (by decide) (fun zc1047 => ?_) (fun zc1047 => ?_)
    · skip
      have zn1047 := z0_f zc1047
      refine z_goto (tgt := 1770) C dL_law_1062 (by decide) ?_
      refine z_iinc (L' := [(5, .int (nI (i + 5))), (7, .int (r1029)), (6, .int (nI t)), (0, .ref (b)), (1, .ref (ad 33)), (2, .ref (ad 36)), (3, .ref (ad 34)), (4, .ref (ad 35))]) C dL_law_1770 7 rfl (nI_5 i) (by decide) rfl ?_
      refine z_goto (tgt := 28) C dL_law_1773 (by decide) ?_
      refine z_sub (L' := [(0, .ref b), (1, .ref (ad 33)), (2, .ref (ad 36)), (3, .ref (ad 34)), (4, .ref (ad 35)), (5, .int (nI (i + 5)))]) [3, 4, 5, 6, 7, 0] rfl ?_
      refine z_widen (k := 100 + 2 * (j + 1)) (q := 100000 + 1006 * (j + 1)) (by omega) (by omega) ?_
      exact hNext s1017 v1035 n2 B2 y2 (JI_of hxq hmq)
    · skip
      have zn1047 := z0_t (by omega) zc1047
      have hzt : t = 0 := zn1047
      refine z_aload_n C dL_law_1050 5 rfl ?_
      refine z_iconst (v := nI 0) C (by decide) dL_law_1051 ?_
      refine z_lald (q := 34) (len := 1) (k := 0) C hK (by decide) rfl 1 rfl rfl (by decide) (by decide) dL_law_1052 ?_
      refine z_topl (y := r1029.toInt64) (hval hzt) ?_
      refine z_iload C dL_law_1053 0 rfl ?_
      refine z_i2l C rfl dL_law_1055 ?_
      refine z_lcmp C dL_law_1056 ?_
      refine z_topi (y := nI 0) (lgc _) ?_
      refine z_if_eq (tgt := 1062) C dL_law_1057 (by decide) (fun zc1057 => ?_) (fun zc1057 => ?_)
      · skip
        have zn1057 := z0_t (by omega) zc1057
        refine z_goto (tgt := 1770) C dL_law_1062 (by decide) ?_
        refine z_iinc (L' := [(5, .int (nI (i + 5))), (7, .int (r1029)), (6, .int (nI t)), (0, .ref (b)), (1, .ref (ad 33)), (2, .ref (ad 36)), (3, .ref (ad 34)), (4, .ref (ad 35))]) C dL_law_1770 7 rfl (nI_5 i) (by decide) rfl ?_
        refine z_goto (tgt := 28) C dL_law_1773 (by decide) ?_
        refine z_sub (L' := [(0, .ref b), (1, .ref (ad 33)), (2, .ref (ad 36)), (3, .ref (ad 34)), (4, .ref (ad 35)), (5, .int (nI (i + 5)))]) [3, 4, 5, 6, 7, 0] rfl ?_
        refine z_widen (k := 100 + 2 * (j + 1)) (q := 100000 + 1006 * (j + 1)) (by omega) (by omega) ?_
        exact hNext s1017 v1035 n2 B2 y2 (JI_of hxq hmq)
      · skip
        have zn1057 := z0_f zc1057
        exact absurd zn1057 (by decide)
  · skip
    have zn1040 := zeq_f (a := t) (b := t) zc1040
    exact False.elim (zc1040 rfl)

set_option maxHeartbeats 4000000 in
set_option maxRecDepth 100000 in
theorem sg_after {p : Program} {l : Launch} {e : Env} {s : State} {m : MethodId} {below : List Frame} {meth : Method} {c : Code} {D : va_G} {ad : Nat → Nat} {cI cL cR cB cD : ClassId} {b Ln : Nat} {xs : Nat → Int32} {Qq : State → Prop} (C0 : LC p l s m c D ad cI cL cR cB cD b Ln xs) {j i : Nat} (hi : i = 5 * j) (hiL : i + 5 ≤ Ln) {u v : xS} {o : Nat → Int64} {d : Nat → UInt64} {n : Nat} {B : Nat → Nat → Nat} {x : Nat} (hJ : JI u v n B x) (hNext : ∀ (s' : hS) (v' : xS) (n' : Nat) (B' : Nat → Nat → Nat) (x' : Nat), JI s'.1 v' n' B' x' → ZZ p l e room_1 s m #[Value.ref b] below meth c D vwCl 48 ad 9 (100 + 2 * (j + 1)) (100000 + 1006 * (j + 1)) Qq (LF ad cI cL cR cB cD (s', v')) [(0, .ref b), (1, .ref (ad 33)), (2, .ref (ad 36)), (3, .ref (ad 34)), (4, .ref (ad 35)), (5, .int (nI (i + 5)))] 28 []) : ZZ p l e room_1 s m #[Value.ref b] below meth c D vwCl 48 ad 9 (100 + 2 * j) (100000 + 1006 * j) Qq (LF ad cI cL cR cB cD ((u, o, d), v)) [(0, .ref b), (1, .ref (ad 33)), (2, .ref (ad 36)), (3, .ref (ad 34)), (4, .ref (ad 35)), (5, .int (nI i))] 1065 [] := by
  obtain ⟨C, hml, hown, hts, hK, hX, hI, hXs, hbl, hbA, hL, hst0⟩ := C0
  obtain ⟨t, vl, n2, B2, y2, f, ht3, hH, hM⟩ := lc_after l hst0 D ad (am ad) cI cL cR cB cD (gI_n (by decide) hI) (gI_m hI) u v o d n B x hJ (xs (i + 1)) (xs (i + 2))
  refine z_aload_n C dL_law_1065 1 rfl ?_
  refine z_aload_n C dL_law_1066 0 rfl ?_
  refine z_iload C dL_law_1067 5 rfl ?_
  refine z_iconst (v := nI 1) C (by decide) dL_law_1069 ?_
  refine z_iadd C dL_law_1070 ?_
  refine z_topi (y := nI (i + 1)) (nI_add i 1) ?_
  refine z_sld C hXs hbl hbA (k := i + 1) rfl (by omega) (by omega) dL_law_1071 ?_
  refine z_aload_n C dL_law_1072 0 rfl ?_
  refine z_iload C dL_law_1073 5 rfl ?_
  refine z_iconst (v := nI 2) C (by decide) dL_law_1075 ?_
  refine z_iadd C dL_law_1076 ?_
  refine z_topi (y := nI (i + 2)) (nI_add i 2) ?_
  refine z_sld C hXs hbl hbA (k := i + 2) rfl (by omega) (by omega) dL_law_1077 ?_
  refine z_aload_n C dL_law_1078 3 rfl ?_
  refine z_callWi lX_ok C hml hown hts hK hX (fun sz => z_liftI (σ := id) (F := fun s9 => LF ad cI cL cR cB cD (s9, v)) (F1 := hF ad cI cL cR cD) (f1 := hF ad cI cL cR cD (u, o, d)) (zLh hI) (fun _ h => h) lX_h (fun k hk => LF_h k hk) (fun _ k hk => LF_h k hk) LF_h2 (fun _ _ h => h) (hH sz)) (vx_cwSW 4 hts gL_law_L_after rfl rfl rfl (by decide +kernel) ⟨Nat.le_of_ble_eq_true rfl, Nat.le_of_ble_eq_true rfl⟩) rfl (st := []) rfl (Nat.le_of_ble_eq_true rfl) dL_law_1079 ⟨by show 100 + 2 * j + 1 ≤ 601024; omega, by show 100000 + 1006 * j + 6 ≤ 7293034; omega⟩ (fun r1079 s1079 h1079 => ?_)
  obtain ⟨e1079, hval, hxq⟩ := h1079
  subst e1079
  refine z_istore (L' := [(6, .int (nI t)), (0, .ref (b)), (1, .ref (ad 33)), (2, .ref (ad 36)), (3, .ref (ad 34)), (4, .ref (ad 35)), (5, .int (nI i))]) C dL_law_1082 (by decide) rfl ?_
  refine z_aload_n C dL_law_1084 3 rfl ?_
  refine z_aload_n C dL_law_1085 1 rfl ?_
  refine z_iload C dL_law_1086 6 rfl ?_
  refine z_iconst (v := nI 1) C (by decide) dL_law_1088 ?_
  refine z_iadd C dL_law_1089 ?_
  refine z_topi (y := nI (i + 1)) (nI_add i 1) ?_
  refine z_sld C hXs hbl hbA (k := i + 1) rfl (by omega) (by omega) dL_law_1090 ?_
  refine z_aload_n C dL_law_1091 1 rfl ?_
  refine z_iload C dL_law_1092 6 rfl ?_
  refine z_iconst (v := nI 2) C (by decide) dL_law_1094 ?_
  refine z_iadd C dL_law_1095 ?_
  refine z_topi (y := nI (i + 2)) (nI_add i 2) ?_
  refine z_sld C hXs hbl hbA (k := i + 2) rfl (by omega) (by omega) dL_law_1096 ?_
  refine z_callVi (q := 36) lX_ok C hml hown hts hK hX (fun sz => z_liftI (σ := fun k => 36 + k) (F := fun v9 => LF ad cI cL cR cB cD (s1079, v9)) (F1 := mF (am ad) cI cL cB) (f1 := mF (am ad) cI cL cB v) (zLm hI) lK_m (fun _ _ => trivial) (fun k hk => LF_m k hk) (fun _ k hk => LF_m k hk) LF_m2 (fun _ _ h => h) (hM sz)) (cwV 2 hts gL_law_X7_after rfl rfl rfl (by decide +kernel) ⟨Nat.le_of_ble_eq_true rfl, Nat.le_of_ble_eq_true rfl⟩) (by decide) (ci := 7) rfl rfl rfl (st := []) rfl (Nat.le_of_ble_eq_true rfl) dL_law_1097 ⟨by show 100 + 2 * j + 1 + 0 ≤ 601024; omega, by show 100000 + 1006 * j + 6 + 0 ≤ 7293034; omega⟩ (fun r1097 v1097 h1097 => ?_)
  obtain ⟨e1097, hth, hmq⟩ := h1097
  subst e1097
  refine z_istore (L' := [(7, .int (r1097)), (6, .int (nI t)), (0, .ref (b)), (1, .ref (ad 33)), (2, .ref (ad 36)), (3, .ref (ad 34)), (4, .ref (ad 35)), (5, .int (nI i))]) C dL_law_1100 (by decide) rfl ?_
  refine z_aload_n C dL_law_1102 4 rfl ?_
  refine z_callVi (q := 36) lX_ok C hml hown hts hK hX (fun sz => z_liftI (σ := fun k => 36 + k) (F := fun v9 => LF ad cI cL cR cB cD (s1079, v9)) (F1 := mF (am ad) cI cL cB) (f1 := mF (am ad) cI cL cB v1097) (zLm hI) lK_m (fun _ _ => trivial) (fun k hk => LF_m k hk) (fun _ k hk => LF_m k hk) LF_m2 (fun _ _ h => h) (c_X7_thrown l D (am ad) cI cL cB (gI_m hI) v1097 sz)) (cwV 0 hts gL_law_X7_thrown rfl rfl rfl (by decide +kernel) ⟨Nat.le_of_ble_eq_true rfl, Nat.le_of_ble_eq_true rfl⟩) (by decide) (ci := 7) rfl rfl rfl (st := []) rfl (Nat.le_of_ble_eq_true rfl) dL_law_1103 ⟨by show 100 + 2 * j + 1 + 0 + 0 ≤ 601024; omega, by show 100000 + 1006 * j + 6 + 0 + 0 ≤ 7293034; omega⟩ (fun r1103 v1103 h1103 => ?_)
  obtain ⟨e1103, f1103⟩ := h1103
  subst f1103
  subst e1103
  refine z_topi (y := nI t) hth ?_
  refine z_iload C dL_law_1106 1 rfl ?_
  refine z_icmp_eq (tgt := 1113) C dL_law_1108 (by decide) (fun zc1108 => ?_) (fun zc1108 => ?_)
  · skip
    have zn1108 := zeq_t (a := t) (b := t) (by omega) (by omega) zc1108
    refine z_iload C dL_law_1113 1 rfl ?_
    refine z_if_ne (tgt := 1130) C dL_law_1115 (by decide) (fun zc1115 => ?_) (fun zc1115 => ?_)
    · skip
      have zn1115 := z0_f zc1115
      refine z_goto (tgt := 1770) C dL_law_1130 (by decide) ?_
      refine z_iinc (L' := [(5, .int (nI (i + 5))), (7, .int (r1097)), (6, .int (nI t)), (0, .ref (b)), (1, .ref (ad 33)), (2, .ref (ad 36)), (3, .ref (ad 34)), (4, .ref (ad 35))]) C dL_law_1770 7 rfl (nI_5 i) (by decide) rfl ?_
      refine z_goto (tgt := 28) C dL_law_1773 (by decide) ?_
      refine z_sub (L' := [(0, .ref b), (1, .ref (ad 33)), (2, .ref (ad 36)), (3, .ref (ad 34)), (4, .ref (ad 35)), (5, .int (nI (i + 5)))]) [3, 4, 5, 6, 7, 0] rfl ?_
      refine z_widen (k := 100 + 2 * (j + 1)) (q := 100000 + 1006 * (j + 1)) (by omega) (by omega) ?_
      exact hNext s1079 v1103 n2 B2 y2 (JI_of hxq hmq)
    · skip
      have zn1115 := z0_t (by omega) zc1115
      have hzt : t = 0 := zn1115
      refine z_aload_n C dL_law_1118 5 rfl ?_
      refine z_iconst (v := nI 0) C (by decide) dL_law_1119 ?_
      refine z_lald (q := 34) (len := 1) (k := 0) C hK (by decide) rfl 1 rfl rfl (by decide) (by decide) dL_law_1120 ?_
      refine z_topl (y := r1097.toInt64) (hval hzt) ?_
      refine z_iload C dL_law_1121 0 rfl ?_
      refine z_i2l C rfl dL_law_1123 ?_
      refine z_lcmp C dL_law_1124 ?_
      refine z_topi (y := nI 0) (lgc _) ?_
      refine z_if_eq (tgt := 1130) C dL_law_1125 (by decide) (fun zc1125 => ?_) (fun zc1125 => ?_)
      · skip
        have zn1125 := z0_t (by omega) zc1125
        refine z_goto (tgt := 1770) C dL_law_1130 (by decide) ?_
        refine z_iinc (L' := [(5, .int (nI (i + 5))), (7, .int (r1097)), (6, .int (nI t)), (0, .ref (b)), (1, .ref (ad 33)), (2, .ref (ad 36)), (3, .ref (ad 34)), (4, .ref (ad 35))]) C dL_law_1770 7 rfl (nI_5 i) (by decide) rfl ?_
        refine z_goto (tgt := 28) C dL_law_1773 (by decide) ?_
        refine z_sub (L' := [(0, .ref b), (1, .ref (ad 33)), (2, .ref (ad 36)), (3, .ref (ad 34)), (4, .ref (ad 35)), (5, .int (nI (i + 5)))]) [3, 4, 5, 6, 7, 0] rfl ?_
        refine z_widen (k := 100 + 2 * (j + 1)) (q := 100000 + 1006 * (j + 1)) (by omega) (by omega) ?_
        exact hNext s1079 v1103 n2 B2 y2 (JI_of hxq hmq)
      · skip
        have zn1125 := z0_f zc1125
        exact absurd zn1125 (by decide)
  · skip
    have zn1108 := zeq_f (a := t) (b := t) zc1108
    exact False.elim (zc1108 rfl)

set_option maxHeartbeats 4000000 in
set_option maxRecDepth 100000 in
theorem sg_terminates {p : Program} {l : Launch} {e : Env} {s : State} {m : MethodId} {below : List Frame} {meth : Method} {c : Code} {D : va_G} {ad : Nat → Nat} {cI cL cR cB cD : ClassId} {b Ln : Nat} {xs : Nat → Int32} {Qq : State → Prop} (C0 : LC p l s m c D ad cI cL cR cB cD b Ln xs) {j i : Nat} (hi : i = 5 * j) (hiL : i + 5 ≤ Ln) {u v : xS} {o : Nat → Int64} {d : Nat → UInt64} {n : Nat} {B : Nat → Nat → Nat} {x : Nat} (hJ : JI u v n B x) (hNext : ∀ (s' : hS) (v' : xS) (n' : Nat) (B' : Nat → Nat → Nat) (x' : Nat), JI s'.1 v' n' B' x' → ZZ p l e room_1 s m #[Value.ref b] below meth c D vwCl 48 ad 9 (100 + 2 * (j + 1)) (100000 + 1006 * (j + 1)) Qq (LF ad cI cL cR cB cD (s', v')) [(0, .ref b), (1, .ref (ad 33)), (2, .ref (ad 36)), (3, .ref (ad 34)), (4, .ref (ad 35)), (5, .int (nI (i + 5)))] 28 []) : ZZ p l e room_1 s m #[Value.ref b] below meth c D vwCl 48 ad 9 (100 + 2 * j) (100000 + 1006 * j) Qq (LF ad cI cL cR cB cD ((u, o, d), v)) [(0, .ref b), (1, .ref (ad 33)), (2, .ref (ad 36)), (3, .ref (ad 34)), (4, .ref (ad 35)), (5, .int (nI i))] 1133 [] := by
  obtain ⟨C, hml, hown, hts, hK, hX, hI, hXs, hbl, hbA, hL, hst0⟩ := C0
  obtain ⟨t, vl, n2, B2, y2, f, ht3, hH, hM⟩ := lc_terminates l hst0 D ad (am ad) cI cL cR cB cD (gI_n (by decide) hI) (gI_m hI) u v o d n B x hJ 
  refine z_aload_n C dL_law_1133 1 rfl ?_
  refine z_aload_n C dL_law_1134 3 rfl ?_
  refine z_callWi lX_ok C hml hown hts hK hX (fun sz => z_liftI (σ := id) (F := fun s9 => LF ad cI cL cR cB cD (s9, v)) (F1 := hF ad cI cL cR cD) (f1 := hF ad cI cL cR cD (u, o, d)) (zLh hI) (fun _ h => h) lX_h (fun k hk => LF_h k hk) (fun _ k hk => LF_h k hk) LF_h2 (fun _ _ h => h) (hH sz)) (vx_cwSW 2 hts gL_law_L_terminates rfl rfl rfl (by decide +kernel) ⟨Nat.le_of_ble_eq_true rfl, Nat.le_of_ble_eq_true rfl⟩) rfl (st := []) rfl (Nat.le_of_ble_eq_true rfl) dL_law_1135 ⟨by show 100 + 2 * j + 1 ≤ 601024; omega, by show 100000 + 1006 * j + 6 ≤ 7293034; omega⟩ (fun r1135 s1135 h1135 => ?_)
  obtain ⟨e1135, hval, hxq⟩ := h1135
  subst e1135
  refine z_istore (L' := [(6, .int (nI t)), (0, .ref (b)), (1, .ref (ad 33)), (2, .ref (ad 36)), (3, .ref (ad 34)), (4, .ref (ad 35)), (5, .int (nI i))]) C dL_law_1138 (by decide) rfl ?_
  refine z_aload_n C dL_law_1140 3 rfl ?_
  refine z_callVi (q := 36) lX_ok C hml hown hts hK hX (fun sz => z_liftI (σ := fun k => 36 + k) (F := fun v9 => LF ad cI cL cR cB cD (s1135, v9)) (F1 := mF (am ad) cI cL cB) (f1 := mF (am ad) cI cL cB v) (zLm hI) lK_m (fun _ _ => trivial) (fun k hk => LF_m k hk) (fun _ k hk => LF_m k hk) LF_m2 (fun _ _ h => h) (hM sz)) (cwV 0 hts gL_law_X7_terminates rfl rfl rfl (by decide +kernel) ⟨Nat.le_of_ble_eq_true rfl, Nat.le_of_ble_eq_true rfl⟩) (by decide) (ci := 7) rfl rfl rfl (st := []) rfl (Nat.le_of_ble_eq_true rfl) dL_law_1141 ⟨by show 100 + 2 * j + 1 + 0 ≤ 601024; omega, by show 100000 + 1006 * j + 6 + 0 ≤ 7293034; omega⟩ (fun r1141 v1141 h1141 => ?_)
  obtain ⟨e1141, hth, hmq⟩ := h1141
  subst e1141
  refine z_istore (L' := [(7, .int (r1141)), (6, .int (nI t)), (0, .ref (b)), (1, .ref (ad 33)), (2, .ref (ad 36)), (3, .ref (ad 34)), (4, .ref (ad 35)), (5, .int (nI i))]) C dL_law_1144 (by decide) rfl ?_
  refine z_aload_n C dL_law_1146 4 rfl ?_
  refine z_callVi (q := 36) lX_ok C hml hown hts hK hX (fun sz => z_liftI (σ := fun k => 36 + k) (F := fun v9 => LF ad cI cL cR cB cD (s1135, v9)) (F1 := mF (am ad) cI cL cB) (f1 := mF (am ad) cI cL cB v1141) (zLm hI) lK_m (fun _ _ => trivial) (fun k hk => LF_m k hk) (fun _ k hk => LF_m k hk) LF_m2 (fun _ _ h => h) (c_X7_thrown l D (am ad) cI cL cB (gI_m hI) v1141 sz)) (cwV 0 hts gL_law_X7_thrown rfl rfl rfl (by decide +kernel) ⟨Nat.le_of_ble_eq_true rfl, Nat.le_of_ble_eq_true rfl⟩) (by decide) (ci := 7) rfl rfl rfl (st := []) rfl (Nat.le_of_ble_eq_true rfl) dL_law_1147 ⟨by show 100 + 2 * j + 1 + 0 + 0 ≤ 601024; omega, by show 100000 + 1006 * j + 6 + 0 + 0 ≤ 7293034; omega⟩ (fun r1147 v1147 h1147 => ?_)
  obtain ⟨e1147, f1147⟩ := h1147
  subst f1147
  subst e1147
  refine z_topi (y := nI t) hth ?_
  refine z_iload C dL_law_1150 1 rfl ?_
  refine z_icmp_eq (tgt := 1157) C dL_law_1152 (by decide) (fun zc1152 => ?_) (fun zc1152 => ?_)
  · skip
    have zn1152 := zeq_t (a := t) (b := t) (by omega) (by omega) zc1152
    refine z_iload C dL_law_1157 1 rfl ?_
    refine z_if_ne (tgt := 1181) C dL_law_1159 (by decide) (fun zc1159 => ?_) (fun zc1159 => ?_)
    · skip
      have zn1159 := z0_f zc1159
      refine z_goto (tgt := 1770) C dL_law_1181 (by decide) ?_
      refine z_iinc (L' := [(5, .int (nI (i + 5))), (7, .int (r1141)), (6, .int (nI t)), (0, .ref (b)), (1, .ref (ad 33)), (2, .ref (ad 36)), (3, .ref (ad 34)), (4, .ref (ad 35))]) C dL_law_1770 7 rfl (nI_5 i) (by decide) rfl ?_
      refine z_goto (tgt := 28) C dL_law_1773 (by decide) ?_
      refine z_sub (L' := [(0, .ref b), (1, .ref (ad 33)), (2, .ref (ad 36)), (3, .ref (ad 34)), (4, .ref (ad 35)), (5, .int (nI (i + 5)))]) [3, 4, 5, 6, 7, 0] rfl ?_
      refine z_widen (k := 100 + 2 * (j + 1)) (q := 100000 + 1006 * (j + 1)) (by omega) (by omega) ?_
      exact hNext s1135 v1147 n2 B2 y2 (JI_of hxq hmq)
    · skip
      have zn1159 := z0_t (by omega) zc1159
      have hzt : t = 0 := zn1159
      refine z_aload_n C dL_law_1162 5 rfl ?_
      refine z_iconst (v := nI 0) C (by decide) dL_law_1163 ?_
      refine z_lald (q := 34) (len := 1) (k := 0) C hK (by decide) rfl 1 rfl rfl (by decide) (by decide) dL_law_1164 ?_
      refine z_topl (y := (if r1141 = 0 then 0 else 1)) (hval hzt) ?_
      refine z_iload C dL_law_1165 0 rfl ?_
      refine z_if_eq (tgt := 1174) C dL_law_1167 (by decide) (fun zc1167 => ?_) (fun zc1167 => ?_)
      · skip
        refine z_lconst (v := 0) C (by decide) dL_law_1174 ?_
        refine z_topl (y := (if r1141 = 0 then 0 else 1)) ((by first | exact (if_pos (by assumption)).symm | (split <;> first | rfl | contradiction))) ?_
        refine z_lcmp C dL_law_1175 ?_
        refine z_topi (y := nI 0) (lgc _) ?_
        refine z_if_eq (tgt := 1181) C dL_law_1176 (by decide) (fun zc1176 => ?_) (fun zc1176 => ?_)
        · skip
          have zn1176 := z0_t (by omega) zc1176
          refine z_goto (tgt := 1770) C dL_law_1181 (by decide) ?_
          refine z_iinc (L' := [(5, .int (nI (i + 5))), (7, .int (r1141)), (6, .int (nI t)), (0, .ref (b)), (1, .ref (ad 33)), (2, .ref (ad 36)), (3, .ref (ad 34)), (4, .ref (ad 35))]) C dL_law_1770 7 rfl (nI_5 i) (by decide) rfl ?_
          refine z_goto (tgt := 28) C dL_law_1773 (by decide) ?_
          refine z_sub (L' := [(0, .ref b), (1, .ref (ad 33)), (2, .ref (ad 36)), (3, .ref (ad 34)), (4, .ref (ad 35)), (5, .int (nI (i + 5)))]) [3, 4, 5, 6, 7, 0] rfl ?_
          refine z_widen (k := 100 + 2 * (j + 1)) (q := 100000 + 1006 * (j + 1)) (by omega) (by omega) ?_
          exact hNext s1135 v1147 n2 B2 y2 (JI_of hxq hmq)
        · skip
          have zn1176 := z0_f zc1176
          exact absurd zn1176 (by decide)
      · skip
        refine z_lconst (v := 1) C (by decide) dL_law_1170 ?_
        refine z_goto (tgt := 1175) C dL_law_1171 (by decide) ?_
        refine z_topl (y := (if r1141 = 0 then 0 else 1)) ((by split <;> first | rfl | contradiction)) ?_
        refine z_lcmp C dL_law_1175 ?_
        refine z_topi (y := nI 0) (lgc _) ?_
        refine z_if_eq (tgt := 1181) C dL_law_1176 (by decide) (fun zc1176 => ?_) (fun zc1176 => ?_)
        · skip
          have zn1176 := z0_t (by omega) zc1176
          refine z_goto (tgt := 1770) C dL_law_1181 (by decide) ?_
          refine z_iinc (L' := [(5, .int (nI (i + 5))), (7, .int (r1141)), (6, .int (nI t)), (0, .ref (b)), (1, .ref (ad 33)), (2, .ref (ad 36)), (3, .ref (ad 34)), (4, .ref (ad 35))]) C dL_law_1770 7 rfl (nI_5 i) (by decide) rfl ?_
          refine z_goto (tgt := 28) C dL_law_1773 (by decide) ?_
          refine z_sub (L' := [(0, .ref b), (1, .ref (ad 33)), (2, .ref (ad 36)), (3, .ref (ad 34)), (4, .ref (ad 35)), (5, .int (nI (i + 5)))]) [3, 4, 5, 6, 7, 0] rfl ?_
          refine z_widen (k := 100 + 2 * (j + 1)) (q := 100000 + 1006 * (j + 1)) (by omega) (by omega) ?_
          exact hNext s1135 v1147 n2 B2 y2 (JI_of hxq hmq)
        · skip
          have zn1176 := z0_f zc1176
          exact absurd zn1176 (by decide)
  · skip
    have zn1152 := zeq_f (a := t) (b := t) zc1152
    exact False.elim (zc1152 rfl)

set_option maxHeartbeats 4000000 in
set_option maxRecDepth 100000 in
theorem sg_endCount {p : Program} {l : Launch} {e : Env} {s : State} {m : MethodId} {below : List Frame} {meth : Method} {c : Code} {D : va_G} {ad : Nat → Nat} {cI cL cR cB cD : ClassId} {b Ln : Nat} {xs : Nat → Int32} {Qq : State → Prop} (C0 : LC p l s m c D ad cI cL cR cB cD b Ln xs) {j i : Nat} (hi : i = 5 * j) (hiL : i + 5 ≤ Ln) {u v : xS} {o : Nat → Int64} {d : Nat → UInt64} {n : Nat} {B : Nat → Nat → Nat} {x : Nat} (hJ : JI u v n B x) (hNext : ∀ (s' : hS) (v' : xS) (n' : Nat) (B' : Nat → Nat → Nat) (x' : Nat), JI s'.1 v' n' B' x' → ZZ p l e room_1 s m #[Value.ref b] below meth c D vwCl 48 ad 9 (100 + 2 * (j + 1)) (100000 + 1006 * (j + 1)) Qq (LF ad cI cL cR cB cD (s', v')) [(0, .ref b), (1, .ref (ad 33)), (2, .ref (ad 36)), (3, .ref (ad 34)), (4, .ref (ad 35)), (5, .int (nI (i + 5)))] 28 []) : ZZ p l e room_1 s m #[Value.ref b] below meth c D vwCl 48 ad 9 (100 + 2 * j) (100000 + 1006 * j) Qq (LF ad cI cL cR cB cD ((u, o, d), v)) [(0, .ref b), (1, .ref (ad 33)), (2, .ref (ad 36)), (3, .ref (ad 34)), (4, .ref (ad 35)), (5, .int (nI i))] 1184 [] := by
  obtain ⟨C, hml, hown, hts, hK, hX, hI, hXs, hbl, hbA, hL, hst0⟩ := C0
  obtain ⟨t, vl, n2, B2, y2, f, ht3, hH, hM⟩ := lc_endCount l hst0 D ad (am ad) cI cL cR cB cD (gI_n (by decide) hI) (gI_m hI) u v o d n B x hJ 
  refine z_aload_n C dL_law_1184 1 rfl ?_
  refine z_aload_n C dL_law_1185 3 rfl ?_
  refine z_callWi lX_ok C hml hown hts hK hX (fun sz => z_liftI (σ := id) (F := fun s9 => LF ad cI cL cR cB cD (s9, v)) (F1 := hF ad cI cL cR cD) (f1 := hF ad cI cL cR cD (u, o, d)) (zLh hI) (fun _ h => h) lX_h (fun k hk => LF_h k hk) (fun _ k hk => LF_h k hk) LF_h2 (fun _ _ h => h) (hH sz)) (vx_cwSW 2 hts gL_law_L_endCount rfl rfl rfl (by decide +kernel) ⟨Nat.le_of_ble_eq_true rfl, Nat.le_of_ble_eq_true rfl⟩) rfl (st := []) rfl (Nat.le_of_ble_eq_true rfl) dL_law_1186 ⟨by show 100 + 2 * j + 1 ≤ 601024; omega, by show 100000 + 1006 * j + 6 ≤ 7293034; omega⟩ (fun r1186 s1186 h1186 => ?_)
  obtain ⟨e1186, hval, hxq⟩ := h1186
  subst e1186
  refine z_istore (L' := [(6, .int (nI t)), (0, .ref (b)), (1, .ref (ad 33)), (2, .ref (ad 36)), (3, .ref (ad 34)), (4, .ref (ad 35)), (5, .int (nI i))]) C dL_law_1189 (by decide) rfl ?_
  refine z_aload_n C dL_law_1191 3 rfl ?_
  refine z_callVi (q := 36) lX_ok C hml hown hts hK hX (fun sz => z_liftI (σ := fun k => 36 + k) (F := fun v9 => LF ad cI cL cR cB cD (s1186, v9)) (F1 := mF (am ad) cI cL cB) (f1 := mF (am ad) cI cL cB v) (zLm hI) lK_m (fun _ _ => trivial) (fun k hk => LF_m k hk) (fun _ k hk => LF_m k hk) LF_m2 (fun _ _ h => h) (hM sz)) (cwV 0 hts gL_law_X7_endCount rfl rfl rfl (by decide +kernel) ⟨Nat.le_of_ble_eq_true rfl, Nat.le_of_ble_eq_true rfl⟩) (by decide) (ci := 7) rfl rfl rfl (st := []) rfl (Nat.le_of_ble_eq_true rfl) dL_law_1192 ⟨by show 100 + 2 * j + 1 + 0 ≤ 601024; omega, by show 100000 + 1006 * j + 6 + 0 ≤ 7293034; omega⟩ (fun r1192 v1192 h1192 => ?_)
  obtain ⟨e1192, hth, hmq⟩ := h1192
  subst e1192
  refine z_istore (L' := [(7, .int (r1192)), (6, .int (nI t)), (0, .ref (b)), (1, .ref (ad 33)), (2, .ref (ad 36)), (3, .ref (ad 34)), (4, .ref (ad 35)), (5, .int (nI i))]) C dL_law_1195 (by decide) rfl ?_
  refine z_aload_n C dL_law_1197 4 rfl ?_
  refine z_callVi (q := 36) lX_ok C hml hown hts hK hX (fun sz => z_liftI (σ := fun k => 36 + k) (F := fun v9 => LF ad cI cL cR cB cD (s1186, v9)) (F1 := mF (am ad) cI cL cB) (f1 := mF (am ad) cI cL cB v1192) (zLm hI) lK_m (fun _ _ => trivial) (fun k hk => LF_m k hk) (fun _ k hk => LF_m k hk) LF_m2 (fun _ _ h => h) (c_X7_thrown l D (am ad) cI cL cB (gI_m hI) v1192 sz)) (cwV 0 hts gL_law_X7_thrown rfl rfl rfl (by decide +kernel) ⟨Nat.le_of_ble_eq_true rfl, Nat.le_of_ble_eq_true rfl⟩) (by decide) (ci := 7) rfl rfl rfl (st := []) rfl (Nat.le_of_ble_eq_true rfl) dL_law_1198 ⟨by show 100 + 2 * j + 1 + 0 + 0 ≤ 601024; omega, by show 100000 + 1006 * j + 6 + 0 + 0 ≤ 7293034; omega⟩ (fun r1198 v1198 h1198 => ?_)
  obtain ⟨e1198, f1198⟩ := h1198
  subst f1198
  subst e1198
  refine z_topi (y := nI t) hth ?_
  refine z_iload C dL_law_1201 1 rfl ?_
  refine z_icmp_eq (tgt := 1208) C dL_law_1203 (by decide) (fun zc1203 => ?_) (fun zc1203 => ?_)
  · skip
    have zn1203 := zeq_t (a := t) (b := t) (by omega) (by omega) zc1203
    refine z_iload C dL_law_1208 1 rfl ?_
    refine z_if_ne (tgt := 1225) C dL_law_1210 (by decide) (fun zc1210 => ?_) (fun zc1210 => ?_)
    · skip
      have zn1210 := z0_f zc1210
      refine z_goto (tgt := 1770) C dL_law_1225 (by decide) ?_
      refine z_iinc (L' := [(5, .int (nI (i + 5))), (7, .int (r1192)), (6, .int (nI t)), (0, .ref (b)), (1, .ref (ad 33)), (2, .ref (ad 36)), (3, .ref (ad 34)), (4, .ref (ad 35))]) C dL_law_1770 7 rfl (nI_5 i) (by decide) rfl ?_
      refine z_goto (tgt := 28) C dL_law_1773 (by decide) ?_
      refine z_sub (L' := [(0, .ref b), (1, .ref (ad 33)), (2, .ref (ad 36)), (3, .ref (ad 34)), (4, .ref (ad 35)), (5, .int (nI (i + 5)))]) [3, 4, 5, 6, 7, 0] rfl ?_
      refine z_widen (k := 100 + 2 * (j + 1)) (q := 100000 + 1006 * (j + 1)) (by omega) (by omega) ?_
      exact hNext s1186 v1198 n2 B2 y2 (JI_of hxq hmq)
    · skip
      have zn1210 := z0_t (by omega) zc1210
      have hzt : t = 0 := zn1210
      refine z_aload_n C dL_law_1213 5 rfl ?_
      refine z_iconst (v := nI 0) C (by decide) dL_law_1214 ?_
      refine z_lald (q := 34) (len := 1) (k := 0) C hK (by decide) rfl 1 rfl rfl (by decide) (by decide) dL_law_1215 ?_
      refine z_topl (y := r1192.toInt64) (hval hzt) ?_
      refine z_iload C dL_law_1216 0 rfl ?_
      refine z_i2l C rfl dL_law_1218 ?_
      refine z_lcmp C dL_law_1219 ?_
      refine z_topi (y := nI 0) (lgc _) ?_
      refine z_if_eq (tgt := 1225) C dL_law_1220 (by decide) (fun zc1220 => ?_) (fun zc1220 => ?_)
      · skip
        have zn1220 := z0_t (by omega) zc1220
        refine z_goto (tgt := 1770) C dL_law_1225 (by decide) ?_
        refine z_iinc (L' := [(5, .int (nI (i + 5))), (7, .int (r1192)), (6, .int (nI t)), (0, .ref (b)), (1, .ref (ad 33)), (2, .ref (ad 36)), (3, .ref (ad 34)), (4, .ref (ad 35))]) C dL_law_1770 7 rfl (nI_5 i) (by decide) rfl ?_
        refine z_goto (tgt := 28) C dL_law_1773 (by decide) ?_
        refine z_sub (L' := [(0, .ref b), (1, .ref (ad 33)), (2, .ref (ad 36)), (3, .ref (ad 34)), (4, .ref (ad 35)), (5, .int (nI (i + 5)))]) [3, 4, 5, 6, 7, 0] rfl ?_
        refine z_widen (k := 100 + 2 * (j + 1)) (q := 100000 + 1006 * (j + 1)) (by omega) (by omega) ?_
        exact hNext s1186 v1198 n2 B2 y2 (JI_of hxq hmq)
      · skip
        have zn1220 := z0_f zc1220
        exact absurd zn1220 (by decide)
  · skip
    have zn1203 := zeq_f (a := t) (b := t) zc1203
    exact False.elim (zc1203 rfl)

set_option maxHeartbeats 4000000 in
set_option maxRecDepth 100000 in
theorem sg_end {p : Program} {l : Launch} {e : Env} {s : State} {m : MethodId} {below : List Frame} {meth : Method} {c : Code} {D : va_G} {ad : Nat → Nat} {cI cL cR cB cD : ClassId} {b Ln : Nat} {xs : Nat → Int32} {Qq : State → Prop} (C0 : LC p l s m c D ad cI cL cR cB cD b Ln xs) {j i : Nat} (hi : i = 5 * j) (hiL : i + 5 ≤ Ln) {u v : xS} {o : Nat → Int64} {d : Nat → UInt64} {n : Nat} {B : Nat → Nat → Nat} {x : Nat} (hJ : JI u v n B x) (hNext : ∀ (s' : hS) (v' : xS) (n' : Nat) (B' : Nat → Nat → Nat) (x' : Nat), JI s'.1 v' n' B' x' → ZZ p l e room_1 s m #[Value.ref b] below meth c D vwCl 48 ad 9 (100 + 2 * (j + 1)) (100000 + 1006 * (j + 1)) Qq (LF ad cI cL cR cB cD (s', v')) [(0, .ref b), (1, .ref (ad 33)), (2, .ref (ad 36)), (3, .ref (ad 34)), (4, .ref (ad 35)), (5, .int (nI (i + 5)))] 28 []) : ZZ p l e room_1 s m #[Value.ref b] below meth c D vwCl 48 ad 9 (100 + 2 * j) (100000 + 1006 * j) Qq (LF ad cI cL cR cB cD ((u, o, d), v)) [(0, .ref b), (1, .ref (ad 33)), (2, .ref (ad 36)), (3, .ref (ad 34)), (4, .ref (ad 35)), (5, .int (nI i))] 1228 [] := by
  obtain ⟨C, hml, hown, hts, hK, hX, hI, hXs, hbl, hbA, hL, hst0⟩ := C0
  obtain ⟨t, vl, n2, B2, y2, f, ht3, hH, hM⟩ := lc_end l hst0 D ad (am ad) cI cL cR cB cD (gI_n (by decide) hI) (gI_m hI) u v o d n B x hJ (xs (i + 1))
  refine z_aload_n C dL_law_1228 1 rfl ?_
  refine z_aload_n C dL_law_1229 0 rfl ?_
  refine z_iload C dL_law_1230 5 rfl ?_
  refine z_iconst (v := nI 1) C (by decide) dL_law_1232 ?_
  refine z_iadd C dL_law_1233 ?_
  refine z_topi (y := nI (i + 1)) (nI_add i 1) ?_
  refine z_sld C hXs hbl hbA (k := i + 1) rfl (by omega) (by omega) dL_law_1234 ?_
  refine z_aload_n C dL_law_1235 3 rfl ?_
  refine z_callWi lX_ok C hml hown hts hK hX (fun sz => z_liftI (σ := id) (F := fun s9 => LF ad cI cL cR cB cD (s9, v)) (F1 := hF ad cI cL cR cD) (f1 := hF ad cI cL cR cD (u, o, d)) (zLh hI) (fun _ h => h) lX_h (fun k hk => LF_h k hk) (fun _ k hk => LF_h k hk) LF_h2 (fun _ _ h => h) (hH sz)) (vx_cwSW 3 hts gL_law_L_end rfl rfl rfl (by decide +kernel) ⟨Nat.le_of_ble_eq_true rfl, Nat.le_of_ble_eq_true rfl⟩) rfl (st := []) rfl (Nat.le_of_ble_eq_true rfl) dL_law_1236 ⟨by show 100 + 2 * j + 1 ≤ 601024; omega, by show 100000 + 1006 * j + 6 ≤ 7293034; omega⟩ (fun r1236 s1236 h1236 => ?_)
  obtain ⟨e1236, hval, hxq⟩ := h1236
  subst e1236
  refine z_istore (L' := [(6, .int (nI t)), (0, .ref (b)), (1, .ref (ad 33)), (2, .ref (ad 36)), (3, .ref (ad 34)), (4, .ref (ad 35)), (5, .int (nI i))]) C dL_law_1239 (by decide) rfl ?_
  refine z_aload_n C dL_law_1241 3 rfl ?_
  refine z_aload_n C dL_law_1242 1 rfl ?_
  refine z_iload C dL_law_1243 6 rfl ?_
  refine z_iconst (v := nI 1) C (by decide) dL_law_1245 ?_
  refine z_iadd C dL_law_1246 ?_
  refine z_topi (y := nI (i + 1)) (nI_add i 1) ?_
  refine z_sld C hXs hbl hbA (k := i + 1) rfl (by omega) (by omega) dL_law_1247 ?_
  refine z_callVi (q := 36) lX_ok C hml hown hts hK hX (fun sz => z_liftI (σ := fun k => 36 + k) (F := fun v9 => LF ad cI cL cR cB cD (s1236, v9)) (F1 := mF (am ad) cI cL cB) (f1 := mF (am ad) cI cL cB v) (zLm hI) lK_m (fun _ _ => trivial) (fun k hk => LF_m k hk) (fun _ k hk => LF_m k hk) LF_m2 (fun _ _ h => h) (hM sz)) (cwV 1 hts gL_law_X7_end rfl rfl rfl (by decide +kernel) ⟨Nat.le_of_ble_eq_true rfl, Nat.le_of_ble_eq_true rfl⟩) (by decide) (ci := 7) rfl rfl rfl (st := []) rfl (Nat.le_of_ble_eq_true rfl) dL_law_1248 ⟨by show 100 + 2 * j + 1 + 0 ≤ 601024; omega, by show 100000 + 1006 * j + 6 + 0 ≤ 7293034; omega⟩ (fun r1248 v1248 h1248 => ?_)
  obtain ⟨e1248, hth, hmq⟩ := h1248
  subst e1248
  refine z_istore (L' := [(7, .int (r1248)), (6, .int (nI t)), (0, .ref (b)), (1, .ref (ad 33)), (2, .ref (ad 36)), (3, .ref (ad 34)), (4, .ref (ad 35)), (5, .int (nI i))]) C dL_law_1251 (by decide) rfl ?_
  refine z_aload_n C dL_law_1253 4 rfl ?_
  refine z_callVi (q := 36) lX_ok C hml hown hts hK hX (fun sz => z_liftI (σ := fun k => 36 + k) (F := fun v9 => LF ad cI cL cR cB cD (s1236, v9)) (F1 := mF (am ad) cI cL cB) (f1 := mF (am ad) cI cL cB v1248) (zLm hI) lK_m (fun _ _ => trivial) (fun k hk => LF_m k hk) (fun _ k hk => LF_m k hk) LF_m2 (fun _ _ h => h) (c_X7_thrown l D (am ad) cI cL cB (gI_m hI) v1248 sz)) (cwV 0 hts gL_law_X7_thrown rfl rfl rfl (by decide +kernel) ⟨Nat.le_of_ble_eq_true rfl, Nat.le_of_ble_eq_true rfl⟩) (by decide) (ci := 7) rfl rfl rfl (st := []) rfl (Nat.le_of_ble_eq_true rfl) dL_law_1254 ⟨by show 100 + 2 * j + 1 + 0 + 0 ≤ 601024; omega, by show 100000 + 1006 * j + 6 + 0 + 0 ≤ 7293034; omega⟩ (fun r1254 v1254 h1254 => ?_)
  obtain ⟨e1254, f1254⟩ := h1254
  subst f1254
  subst e1254
  refine z_topi (y := nI t) hth ?_
  refine z_iload C dL_law_1257 1 rfl ?_
  refine z_icmp_eq (tgt := 1264) C dL_law_1259 (by decide) (fun zc1259 => ?_) (fun zc1259 => ?_)
  · skip
    have zn1259 := zeq_t (a := t) (b := t) (by omega) (by omega) zc1259
    refine z_iload C dL_law_1264 1 rfl ?_
    refine z_if_ne (tgt := 1281) C dL_law_1266 (by decide) (fun zc1266 => ?_) (fun zc1266 => ?_)
    · skip
      have zn1266 := z0_f zc1266
      refine z_goto (tgt := 1770) C dL_law_1281 (by decide) ?_
      refine z_iinc (L' := [(5, .int (nI (i + 5))), (7, .int (r1248)), (6, .int (nI t)), (0, .ref (b)), (1, .ref (ad 33)), (2, .ref (ad 36)), (3, .ref (ad 34)), (4, .ref (ad 35))]) C dL_law_1770 7 rfl (nI_5 i) (by decide) rfl ?_
      refine z_goto (tgt := 28) C dL_law_1773 (by decide) ?_
      refine z_sub (L' := [(0, .ref b), (1, .ref (ad 33)), (2, .ref (ad 36)), (3, .ref (ad 34)), (4, .ref (ad 35)), (5, .int (nI (i + 5)))]) [3, 4, 5, 6, 7, 0] rfl ?_
      refine z_widen (k := 100 + 2 * (j + 1)) (q := 100000 + 1006 * (j + 1)) (by omega) (by omega) ?_
      exact hNext s1236 v1254 n2 B2 y2 (JI_of hxq hmq)
    · skip
      have zn1266 := z0_t (by omega) zc1266
      have hzt : t = 0 := zn1266
      refine z_aload_n C dL_law_1269 5 rfl ?_
      refine z_iconst (v := nI 0) C (by decide) dL_law_1270 ?_
      refine z_lald (q := 34) (len := 1) (k := 0) C hK (by decide) rfl 1 rfl rfl (by decide) (by decide) dL_law_1271 ?_
      refine z_topl (y := r1248.toInt64) (hval hzt) ?_
      refine z_iload C dL_law_1272 0 rfl ?_
      refine z_i2l C rfl dL_law_1274 ?_
      refine z_lcmp C dL_law_1275 ?_
      refine z_topi (y := nI 0) (lgc _) ?_
      refine z_if_eq (tgt := 1281) C dL_law_1276 (by decide) (fun zc1276 => ?_) (fun zc1276 => ?_)
      · skip
        have zn1276 := z0_t (by omega) zc1276
        refine z_goto (tgt := 1770) C dL_law_1281 (by decide) ?_
        refine z_iinc (L' := [(5, .int (nI (i + 5))), (7, .int (r1248)), (6, .int (nI t)), (0, .ref (b)), (1, .ref (ad 33)), (2, .ref (ad 36)), (3, .ref (ad 34)), (4, .ref (ad 35))]) C dL_law_1770 7 rfl (nI_5 i) (by decide) rfl ?_
        refine z_goto (tgt := 28) C dL_law_1773 (by decide) ?_
        refine z_sub (L' := [(0, .ref b), (1, .ref (ad 33)), (2, .ref (ad 36)), (3, .ref (ad 34)), (4, .ref (ad 35)), (5, .int (nI (i + 5)))]) [3, 4, 5, 6, 7, 0] rfl ?_
        refine z_widen (k := 100 + 2 * (j + 1)) (q := 100000 + 1006 * (j + 1)) (by omega) (by omega) ?_
        exact hNext s1236 v1254 n2 B2 y2 (JI_of hxq hmq)
      · skip
        have zn1276 := z0_f zc1276
        exact absurd zn1276 (by decide)
  · skip
    have zn1259 := zeq_f (a := t) (b := t) zc1259
    exact False.elim (zc1259 rfl)

set_option maxHeartbeats 4000000 in
set_option maxRecDepth 100000 in
theorem sg_shortest {p : Program} {l : Launch} {e : Env} {s : State} {m : MethodId} {below : List Frame} {meth : Method} {c : Code} {D : va_G} {ad : Nat → Nat} {cI cL cR cB cD : ClassId} {b Ln : Nat} {xs : Nat → Int32} {Qq : State → Prop} (C0 : LC p l s m c D ad cI cL cR cB cD b Ln xs) {j i : Nat} (hi : i = 5 * j) (hiL : i + 5 ≤ Ln) {u v : xS} {o : Nat → Int64} {d : Nat → UInt64} {n : Nat} {B : Nat → Nat → Nat} {x : Nat} (hJ : JI u v n B x) (hNext : ∀ (s' : hS) (v' : xS) (n' : Nat) (B' : Nat → Nat → Nat) (x' : Nat), JI s'.1 v' n' B' x' → ZZ p l e room_1 s m #[Value.ref b] below meth c D vwCl 48 ad 9 (100 + 2 * (j + 1)) (100000 + 1006 * (j + 1)) Qq (LF ad cI cL cR cB cD (s', v')) [(0, .ref b), (1, .ref (ad 33)), (2, .ref (ad 36)), (3, .ref (ad 34)), (4, .ref (ad 35)), (5, .int (nI (i + 5)))] 28 []) : ZZ p l e room_1 s m #[Value.ref b] below meth c D vwCl 48 ad 9 (100 + 2 * j) (100000 + 1006 * j) Qq (LF ad cI cL cR cB cD ((u, o, d), v)) [(0, .ref b), (1, .ref (ad 33)), (2, .ref (ad 36)), (3, .ref (ad 34)), (4, .ref (ad 35)), (5, .int (nI i))] 1284 [] := by
  obtain ⟨C, hml, hown, hts, hK, hX, hI, hXs, hbl, hbA, hL, hst0⟩ := C0
  obtain ⟨t, vl, n2, B2, y2, f, ht3, hH, hM⟩ := lc_shortest l hst0 D ad (am ad) cI cL cR cB cD (gI_n (by decide) hI) (gI_m hI) u v o d n B x hJ 
  refine z_aload_n C dL_law_1284 1 rfl ?_
  refine z_aload_n C dL_law_1285 3 rfl ?_
  refine z_callWi lX_ok C hml hown hts hK hX (fun sz => z_liftI (σ := id) (F := fun s9 => LF ad cI cL cR cB cD (s9, v)) (F1 := hF ad cI cL cR cD) (f1 := hF ad cI cL cR cD (u, o, d)) (zLh hI) (fun _ h => h) lX_h (fun k hk => LF_h k hk) (fun _ k hk => LF_h k hk) LF_h2 (fun _ _ h => h) (hH sz)) (vx_cwSW 2 hts gL_law_L_shortest rfl rfl rfl (by decide +kernel) ⟨Nat.le_of_ble_eq_true rfl, Nat.le_of_ble_eq_true rfl⟩) rfl (st := []) rfl (Nat.le_of_ble_eq_true rfl) dL_law_1286 ⟨by show 100 + 2 * j + 1 ≤ 601024; omega, by show 100000 + 1006 * j + 6 ≤ 7293034; omega⟩ (fun r1286 s1286 h1286 => ?_)
  obtain ⟨e1286, hval, hxq⟩ := h1286
  subst e1286
  refine z_istore (L' := [(6, .int (nI t)), (0, .ref (b)), (1, .ref (ad 33)), (2, .ref (ad 36)), (3, .ref (ad 34)), (4, .ref (ad 35)), (5, .int (nI i))]) C dL_law_1289 (by decide) rfl ?_
  refine z_aload_n C dL_law_1291 3 rfl ?_
  refine z_callVi (q := 36) lX_ok C hml hown hts hK hX (fun sz => z_liftI (σ := fun k => 36 + k) (F := fun v9 => LF ad cI cL cR cB cD (s1286, v9)) (F1 := mF (am ad) cI cL cB) (f1 := mF (am ad) cI cL cB v) (zLm hI) lK_m (fun _ _ => trivial) (fun k hk => LF_m k hk) (fun _ k hk => LF_m k hk) LF_m2 (fun _ _ h => h) (hM sz)) (cwV 0 hts gL_law_X7_shortest rfl rfl rfl (by decide +kernel) ⟨Nat.le_of_ble_eq_true rfl, Nat.le_of_ble_eq_true rfl⟩) (by decide) (ci := 7) rfl rfl rfl (st := []) rfl (Nat.le_of_ble_eq_true rfl) dL_law_1292 ⟨by show 100 + 2 * j + 1 + 1 ≤ 601024; omega, by show 100000 + 1006 * j + 6 + 1000 ≤ 7293034; omega⟩ (fun r1292 v1292 h1292 => ?_)
  obtain ⟨e1292, hth, hmq⟩ := h1292
  subst e1292
  refine z_istore (L' := [(7, .int (r1292)), (6, .int (nI t)), (0, .ref (b)), (1, .ref (ad 33)), (2, .ref (ad 36)), (3, .ref (ad 34)), (4, .ref (ad 35)), (5, .int (nI i))]) C dL_law_1295 (by decide) rfl ?_
  refine z_aload_n C dL_law_1297 4 rfl ?_
  refine z_callVi (q := 36) lX_ok C hml hown hts hK hX (fun sz => z_liftI (σ := fun k => 36 + k) (F := fun v9 => LF ad cI cL cR cB cD (s1286, v9)) (F1 := mF (am ad) cI cL cB) (f1 := mF (am ad) cI cL cB v1292) (zLm hI) lK_m (fun _ _ => trivial) (fun k hk => LF_m k hk) (fun _ k hk => LF_m k hk) LF_m2 (fun _ _ h => h) (c_X7_thrown l D (am ad) cI cL cB (gI_m hI) v1292 sz)) (cwV 0 hts gL_law_X7_thrown rfl rfl rfl (by decide +kernel) ⟨Nat.le_of_ble_eq_true rfl, Nat.le_of_ble_eq_true rfl⟩) (by decide) (ci := 7) rfl rfl rfl (st := []) rfl (Nat.le_of_ble_eq_true rfl) dL_law_1298 ⟨by show 100 + 2 * j + 1 + 1 + 0 ≤ 601024; omega, by show 100000 + 1006 * j + 6 + 1000 + 0 ≤ 7293034; omega⟩ (fun r1298 v1298 h1298 => ?_)
  obtain ⟨e1298, f1298⟩ := h1298
  subst f1298
  subst e1298
  refine z_topi (y := nI t) hth ?_
  refine z_iload C dL_law_1301 1 rfl ?_
  refine z_icmp_eq (tgt := 1308) C dL_law_1303 (by decide) (fun zc1303 => ?_) (fun zc1303 => ?_)
  · skip
    have zn1303 := zeq_t (a := t) (b := t) (by omega) (by omega) zc1303
    refine z_iload C dL_law_1308 1 rfl ?_
    refine z_if_ne (tgt := 1325) C dL_law_1310 (by decide) (fun zc1310 => ?_) (fun zc1310 => ?_)
    · skip
      have zn1310 := z0_f zc1310
      refine z_goto (tgt := 1770) C dL_law_1325 (by decide) ?_
      refine z_iinc (L' := [(5, .int (nI (i + 5))), (7, .int (r1292)), (6, .int (nI t)), (0, .ref (b)), (1, .ref (ad 33)), (2, .ref (ad 36)), (3, .ref (ad 34)), (4, .ref (ad 35))]) C dL_law_1770 7 rfl (nI_5 i) (by decide) rfl ?_
      refine z_goto (tgt := 28) C dL_law_1773 (by decide) ?_
      refine z_sub (L' := [(0, .ref b), (1, .ref (ad 33)), (2, .ref (ad 36)), (3, .ref (ad 34)), (4, .ref (ad 35)), (5, .int (nI (i + 5)))]) [3, 4, 5, 6, 7, 0] rfl ?_
      refine z_widen (k := 100 + 2 * (j + 1)) (q := 100000 + 1006 * (j + 1)) (by omega) (by omega) ?_
      exact hNext s1286 v1298 n2 B2 y2 (JI_of hxq hmq)
    · skip
      have zn1310 := z0_t (by omega) zc1310
      have hzt : t = 0 := zn1310
      refine z_aload_n C dL_law_1313 5 rfl ?_
      refine z_iconst (v := nI 0) C (by decide) dL_law_1314 ?_
      refine z_lald (q := 34) (len := 1) (k := 0) C hK (by decide) rfl 1 rfl rfl (by decide) (by decide) dL_law_1315 ?_
      refine z_topl (y := r1292.toInt64) (hval hzt) ?_
      refine z_iload C dL_law_1316 0 rfl ?_
      refine z_i2l C rfl dL_law_1318 ?_
      refine z_lcmp C dL_law_1319 ?_
      refine z_topi (y := nI 0) (lgc _) ?_
      refine z_if_eq (tgt := 1325) C dL_law_1320 (by decide) (fun zc1320 => ?_) (fun zc1320 => ?_)
      · skip
        have zn1320 := z0_t (by omega) zc1320
        refine z_goto (tgt := 1770) C dL_law_1325 (by decide) ?_
        refine z_iinc (L' := [(5, .int (nI (i + 5))), (7, .int (r1292)), (6, .int (nI t)), (0, .ref (b)), (1, .ref (ad 33)), (2, .ref (ad 36)), (3, .ref (ad 34)), (4, .ref (ad 35))]) C dL_law_1770 7 rfl (nI_5 i) (by decide) rfl ?_
        refine z_goto (tgt := 28) C dL_law_1773 (by decide) ?_
        refine z_sub (L' := [(0, .ref b), (1, .ref (ad 33)), (2, .ref (ad 36)), (3, .ref (ad 34)), (4, .ref (ad 35)), (5, .int (nI (i + 5)))]) [3, 4, 5, 6, 7, 0] rfl ?_
        refine z_widen (k := 100 + 2 * (j + 1)) (q := 100000 + 1006 * (j + 1)) (by omega) (by omega) ?_
        exact hNext s1286 v1298 n2 B2 y2 (JI_of hxq hmq)
      · skip
        have zn1320 := z0_f zc1320
        exact absurd zn1320 (by decide)
  · skip
    have zn1303 := zeq_f (a := t) (b := t) zc1303
    exact False.elim (zc1303 rfl)

set_option maxHeartbeats 4000000 in
set_option maxRecDepth 100000 in
theorem sg_longest {p : Program} {l : Launch} {e : Env} {s : State} {m : MethodId} {below : List Frame} {meth : Method} {c : Code} {D : va_G} {ad : Nat → Nat} {cI cL cR cB cD : ClassId} {b Ln : Nat} {xs : Nat → Int32} {Qq : State → Prop} (C0 : LC p l s m c D ad cI cL cR cB cD b Ln xs) {j i : Nat} (hi : i = 5 * j) (hiL : i + 5 ≤ Ln) {u v : xS} {o : Nat → Int64} {d : Nat → UInt64} {n : Nat} {B : Nat → Nat → Nat} {x : Nat} (hJ : JI u v n B x) (hNext : ∀ (s' : hS) (v' : xS) (n' : Nat) (B' : Nat → Nat → Nat) (x' : Nat), JI s'.1 v' n' B' x' → ZZ p l e room_1 s m #[Value.ref b] below meth c D vwCl 48 ad 9 (100 + 2 * (j + 1)) (100000 + 1006 * (j + 1)) Qq (LF ad cI cL cR cB cD (s', v')) [(0, .ref b), (1, .ref (ad 33)), (2, .ref (ad 36)), (3, .ref (ad 34)), (4, .ref (ad 35)), (5, .int (nI (i + 5)))] 28 []) : ZZ p l e room_1 s m #[Value.ref b] below meth c D vwCl 48 ad 9 (100 + 2 * j) (100000 + 1006 * j) Qq (LF ad cI cL cR cB cD ((u, o, d), v)) [(0, .ref b), (1, .ref (ad 33)), (2, .ref (ad 36)), (3, .ref (ad 34)), (4, .ref (ad 35)), (5, .int (nI i))] 1328 [] := by
  obtain ⟨C, hml, hown, hts, hK, hX, hI, hXs, hbl, hbA, hL, hst0⟩ := C0
  obtain ⟨t, vl, n2, B2, y2, f, ht3, hH, hM⟩ := lc_longest l hst0 D ad (am ad) cI cL cR cB cD (gI_n (by decide) hI) (gI_m hI) u v o d n B x hJ 
  refine z_aload_n C dL_law_1328 1 rfl ?_
  refine z_aload_n C dL_law_1329 3 rfl ?_
  refine z_callWi lX_ok C hml hown hts hK hX (fun sz => z_liftI (σ := id) (F := fun s9 => LF ad cI cL cR cB cD (s9, v)) (F1 := hF ad cI cL cR cD) (f1 := hF ad cI cL cR cD (u, o, d)) (zLh hI) (fun _ h => h) lX_h (fun k hk => LF_h k hk) (fun _ k hk => LF_h k hk) LF_h2 (fun _ _ h => h) (hH sz)) (vx_cwSW 2 hts gL_law_L_longest rfl rfl rfl (by decide +kernel) ⟨Nat.le_of_ble_eq_true rfl, Nat.le_of_ble_eq_true rfl⟩) rfl (st := []) rfl (Nat.le_of_ble_eq_true rfl) dL_law_1330 ⟨by show 100 + 2 * j + 1 ≤ 601024; omega, by show 100000 + 1006 * j + 6 ≤ 7293034; omega⟩ (fun r1330 s1330 h1330 => ?_)
  obtain ⟨e1330, hval, hxq⟩ := h1330
  subst e1330
  refine z_istore (L' := [(6, .int (nI t)), (0, .ref (b)), (1, .ref (ad 33)), (2, .ref (ad 36)), (3, .ref (ad 34)), (4, .ref (ad 35)), (5, .int (nI i))]) C dL_law_1333 (by decide) rfl ?_
  refine z_aload_n C dL_law_1335 3 rfl ?_
  refine z_callVi (q := 36) lX_ok C hml hown hts hK hX (fun sz => z_liftI (σ := fun k => 36 + k) (F := fun v9 => LF ad cI cL cR cB cD (s1330, v9)) (F1 := mF (am ad) cI cL cB) (f1 := mF (am ad) cI cL cB v) (zLm hI) lK_m (fun _ _ => trivial) (fun k hk => LF_m k hk) (fun _ k hk => LF_m k hk) LF_m2 (fun _ _ h => h) (hM sz)) (cwV 0 hts gL_law_X7_longest rfl rfl rfl (by decide +kernel) ⟨Nat.le_of_ble_eq_true rfl, Nat.le_of_ble_eq_true rfl⟩) (by decide) (ci := 7) rfl rfl rfl (st := []) rfl (Nat.le_of_ble_eq_true rfl) dL_law_1336 ⟨by show 100 + 2 * j + 1 + 0 ≤ 601024; omega, by show 100000 + 1006 * j + 6 + 0 ≤ 7293034; omega⟩ (fun r1336 v1336 h1336 => ?_)
  obtain ⟨e1336, hth, hmq⟩ := h1336
  subst e1336
  refine z_istore (L' := [(7, .int (r1336)), (6, .int (nI t)), (0, .ref (b)), (1, .ref (ad 33)), (2, .ref (ad 36)), (3, .ref (ad 34)), (4, .ref (ad 35)), (5, .int (nI i))]) C dL_law_1339 (by decide) rfl ?_
  refine z_aload_n C dL_law_1341 4 rfl ?_
  refine z_callVi (q := 36) lX_ok C hml hown hts hK hX (fun sz => z_liftI (σ := fun k => 36 + k) (F := fun v9 => LF ad cI cL cR cB cD (s1330, v9)) (F1 := mF (am ad) cI cL cB) (f1 := mF (am ad) cI cL cB v1336) (zLm hI) lK_m (fun _ _ => trivial) (fun k hk => LF_m k hk) (fun _ k hk => LF_m k hk) LF_m2 (fun _ _ h => h) (c_X7_thrown l D (am ad) cI cL cB (gI_m hI) v1336 sz)) (cwV 0 hts gL_law_X7_thrown rfl rfl rfl (by decide +kernel) ⟨Nat.le_of_ble_eq_true rfl, Nat.le_of_ble_eq_true rfl⟩) (by decide) (ci := 7) rfl rfl rfl (st := []) rfl (Nat.le_of_ble_eq_true rfl) dL_law_1342 ⟨by show 100 + 2 * j + 1 + 0 + 0 ≤ 601024; omega, by show 100000 + 1006 * j + 6 + 0 + 0 ≤ 7293034; omega⟩ (fun r1342 v1342 h1342 => ?_)
  obtain ⟨e1342, f1342⟩ := h1342
  subst f1342
  subst e1342
  refine z_topi (y := nI t) hth ?_
  refine z_iload C dL_law_1345 1 rfl ?_
  refine z_icmp_eq (tgt := 1352) C dL_law_1347 (by decide) (fun zc1347 => ?_) (fun zc1347 => ?_)
  · skip
    have zn1347 := zeq_t (a := t) (b := t) (by omega) (by omega) zc1347
    refine z_iload C dL_law_1352 1 rfl ?_
    refine z_if_ne (tgt := 1369) C dL_law_1354 (by decide) (fun zc1354 => ?_) (fun zc1354 => ?_)
    · skip
      have zn1354 := z0_f zc1354
      refine z_goto (tgt := 1770) C dL_law_1369 (by decide) ?_
      refine z_iinc (L' := [(5, .int (nI (i + 5))), (7, .int (r1336)), (6, .int (nI t)), (0, .ref (b)), (1, .ref (ad 33)), (2, .ref (ad 36)), (3, .ref (ad 34)), (4, .ref (ad 35))]) C dL_law_1770 7 rfl (nI_5 i) (by decide) rfl ?_
      refine z_goto (tgt := 28) C dL_law_1773 (by decide) ?_
      refine z_sub (L' := [(0, .ref b), (1, .ref (ad 33)), (2, .ref (ad 36)), (3, .ref (ad 34)), (4, .ref (ad 35)), (5, .int (nI (i + 5)))]) [3, 4, 5, 6, 7, 0] rfl ?_
      refine z_widen (k := 100 + 2 * (j + 1)) (q := 100000 + 1006 * (j + 1)) (by omega) (by omega) ?_
      exact hNext s1330 v1342 n2 B2 y2 (JI_of hxq hmq)
    · skip
      have zn1354 := z0_t (by omega) zc1354
      have hzt : t = 0 := zn1354
      refine z_aload_n C dL_law_1357 5 rfl ?_
      refine z_iconst (v := nI 0) C (by decide) dL_law_1358 ?_
      refine z_lald (q := 34) (len := 1) (k := 0) C hK (by decide) rfl 1 rfl rfl (by decide) (by decide) dL_law_1359 ?_
      refine z_topl (y := r1336.toInt64) (hval hzt) ?_
      refine z_iload C dL_law_1360 0 rfl ?_
      refine z_i2l C rfl dL_law_1362 ?_
      refine z_lcmp C dL_law_1363 ?_
      refine z_topi (y := nI 0) (lgc _) ?_
      refine z_if_eq (tgt := 1369) C dL_law_1364 (by decide) (fun zc1364 => ?_) (fun zc1364 => ?_)
      · skip
        have zn1364 := z0_t (by omega) zc1364
        refine z_goto (tgt := 1770) C dL_law_1369 (by decide) ?_
        refine z_iinc (L' := [(5, .int (nI (i + 5))), (7, .int (r1336)), (6, .int (nI t)), (0, .ref (b)), (1, .ref (ad 33)), (2, .ref (ad 36)), (3, .ref (ad 34)), (4, .ref (ad 35))]) C dL_law_1770 7 rfl (nI_5 i) (by decide) rfl ?_
        refine z_goto (tgt := 28) C dL_law_1773 (by decide) ?_
        refine z_sub (L' := [(0, .ref b), (1, .ref (ad 33)), (2, .ref (ad 36)), (3, .ref (ad 34)), (4, .ref (ad 35)), (5, .int (nI (i + 5)))]) [3, 4, 5, 6, 7, 0] rfl ?_
        refine z_widen (k := 100 + 2 * (j + 1)) (q := 100000 + 1006 * (j + 1)) (by omega) (by omega) ?_
        exact hNext s1330 v1342 n2 B2 y2 (JI_of hxq hmq)
      · skip
        have zn1364 := z0_f zc1364
        exact absurd zn1364 (by decide)
  · skip
    have zn1347 := zeq_f (a := t) (b := t) zc1347
    exact False.elim (zc1347 rfl)

set_option maxHeartbeats 4000000 in
set_option maxRecDepth 100000 in
theorem sg_ways {p : Program} {l : Launch} {e : Env} {s : State} {m : MethodId} {below : List Frame} {meth : Method} {c : Code} {D : va_G} {ad : Nat → Nat} {cI cL cR cB cD : ClassId} {b Ln : Nat} {xs : Nat → Int32} {Qq : State → Prop} (C0 : LC p l s m c D ad cI cL cR cB cD b Ln xs) {j i : Nat} (hi : i = 5 * j) (hiL : i + 5 ≤ Ln) {u v : xS} {o : Nat → Int64} {d : Nat → UInt64} {n : Nat} {B : Nat → Nat → Nat} {x : Nat} (hJ : JI u v n B x) (hNext : ∀ (s' : hS) (v' : xS) (n' : Nat) (B' : Nat → Nat → Nat) (x' : Nat), JI s'.1 v' n' B' x' → ZZ p l e room_1 s m #[Value.ref b] below meth c D vwCl 48 ad 9 (100 + 2 * (j + 1)) (100000 + 1006 * (j + 1)) Qq (LF ad cI cL cR cB cD (s', v')) [(0, .ref b), (1, .ref (ad 33)), (2, .ref (ad 36)), (3, .ref (ad 34)), (4, .ref (ad 35)), (5, .int (nI (i + 5)))] 28 []) : ZZ p l e room_1 s m #[Value.ref b] below meth c D vwCl 48 ad 9 (100 + 2 * j) (100000 + 1006 * j) Qq (LF ad cI cL cR cB cD ((u, o, d), v)) [(0, .ref b), (1, .ref (ad 33)), (2, .ref (ad 36)), (3, .ref (ad 34)), (4, .ref (ad 35)), (5, .int (nI i))] 1372 [] := by
  obtain ⟨C, hml, hown, hts, hK, hX, hI, hXs, hbl, hbA, hL, hst0⟩ := C0
  obtain ⟨t, vl, n2, B2, y2, f, ht3, hH, hM⟩ := lc_ways l hst0 D ad (am ad) cI cL cR cB cD (gI_n (by decide) hI) (gI_m hI) u v o d n B x hJ 
  refine z_aload_n C dL_law_1372 1 rfl ?_
  refine z_aload_n C dL_law_1373 3 rfl ?_
  refine z_callWi lX_ok C hml hown hts hK hX (fun sz => z_liftI (σ := id) (F := fun s9 => LF ad cI cL cR cB cD (s9, v)) (F1 := hF ad cI cL cR cD) (f1 := hF ad cI cL cR cD (u, o, d)) (zLh hI) (fun _ h => h) lX_h (fun k hk => LF_h k hk) (fun _ k hk => LF_h k hk) LF_h2 (fun _ _ h => h) (hH sz)) (vx_cwSW 2 hts gL_law_L_ways rfl rfl rfl (by decide +kernel) ⟨Nat.le_of_ble_eq_true rfl, Nat.le_of_ble_eq_true rfl⟩) rfl (st := []) rfl (Nat.le_of_ble_eq_true rfl) dL_law_1374 ⟨by show 100 + 2 * j + 1 ≤ 601024; omega, by show 100000 + 1006 * j + 6 ≤ 7293034; omega⟩ (fun r1374 s1374 h1374 => ?_)
  obtain ⟨e1374, hval, hxq⟩ := h1374
  subst e1374
  refine z_istore (L' := [(6, .int (nI t)), (0, .ref (b)), (1, .ref (ad 33)), (2, .ref (ad 36)), (3, .ref (ad 34)), (4, .ref (ad 35)), (5, .int (nI i))]) C dL_law_1377 (by decide) rfl ?_
  refine z_aload_n C dL_law_1379 3 rfl ?_
  refine z_callVl (q := 36) lX_ok C hml hown hts hK hX (fun sz => z_liftL (σ := fun k => 36 + k) (F := fun v9 => LF ad cI cL cR cB cD (s1374, v9)) (F1 := mF (am ad) cI cL cB) (f1 := mF (am ad) cI cL cB v) (zLm hI) lK_m (fun _ _ => trivial) (fun k hk => LF_m k hk) (fun _ k hk => LF_m k hk) LF_m2 (fun _ _ h => h) (hM sz)) (cwV 0 hts gL_law_X7_ways rfl rfl rfl (by decide +kernel) ⟨Nat.le_of_ble_eq_true rfl, Nat.le_of_ble_eq_true rfl⟩) (by decide) (ci := 7) rfl rfl rfl (st := []) rfl (Nat.le_of_ble_eq_true rfl) dL_law_1380 ⟨by show 100 + 2 * j + 1 + 0 ≤ 601024; omega, by show 100000 + 1006 * j + 6 + 0 ≤ 7293034; omega⟩ (fun r1380 v1380 h1380 => ?_)
  obtain ⟨e1380, hth, hmq⟩ := h1380
  subst e1380
  refine z_lstore (L' := [(7, .long (r1380)), (6, .int (nI t)), (0, .ref (b)), (1, .ref (ad 33)), (2, .ref (ad 36)), (3, .ref (ad 34)), (4, .ref (ad 35)), (5, .int (nI i))]) C dL_law_1383 (by decide) rfl ?_
  refine z_aload_n C dL_law_1385 4 rfl ?_
  refine z_callVi (q := 36) lX_ok C hml hown hts hK hX (fun sz => z_liftI (σ := fun k => 36 + k) (F := fun v9 => LF ad cI cL cR cB cD (s1374, v9)) (F1 := mF (am ad) cI cL cB) (f1 := mF (am ad) cI cL cB v1380) (zLm hI) lK_m (fun _ _ => trivial) (fun k hk => LF_m k hk) (fun _ k hk => LF_m k hk) LF_m2 (fun _ _ h => h) (c_X7_thrown l D (am ad) cI cL cB (gI_m hI) v1380 sz)) (cwV 0 hts gL_law_X7_thrown rfl rfl rfl (by decide +kernel) ⟨Nat.le_of_ble_eq_true rfl, Nat.le_of_ble_eq_true rfl⟩) (by decide) (ci := 7) rfl rfl rfl (st := []) rfl (Nat.le_of_ble_eq_true rfl) dL_law_1386 ⟨by show 100 + 2 * j + 1 + 0 + 0 ≤ 601024; omega, by show 100000 + 1006 * j + 6 + 0 + 0 ≤ 7293034; omega⟩ (fun r1386 v1386 h1386 => ?_)
  obtain ⟨e1386, f1386⟩ := h1386
  subst f1386
  subst e1386
  refine z_topi (y := nI t) hth ?_
  refine z_iload C dL_law_1389 1 rfl ?_
  refine z_icmp_eq (tgt := 1396) C dL_law_1391 (by decide) (fun zc1391 => ?_) (fun zc1391 => ?_)
  · skip
    have zn1391 := zeq_t (a := t) (b := t) (by omega) (by omega) zc1391
    refine z_iload C dL_law_1396 1 rfl ?_
    refine z_if_ne (tgt := 1412) C dL_law_1398 (by decide) (fun zc1398 => ?_) (fun zc1398 => ?_)
    · skip
      have zn1398 := z0_f zc1398
      refine z_goto (tgt := 1770) C dL_law_1412 (by decide) ?_
      refine z_iinc (L' := [(5, .int (nI (i + 5))), (7, .long (r1380)), (6, .int (nI t)), (0, .ref (b)), (1, .ref (ad 33)), (2, .ref (ad 36)), (3, .ref (ad 34)), (4, .ref (ad 35))]) C dL_law_1770 7 rfl (nI_5 i) (by decide) rfl ?_
      refine z_goto (tgt := 28) C dL_law_1773 (by decide) ?_
      refine z_sub (L' := [(0, .ref b), (1, .ref (ad 33)), (2, .ref (ad 36)), (3, .ref (ad 34)), (4, .ref (ad 35)), (5, .int (nI (i + 5)))]) [3, 4, 5, 6, 7, 0] rfl ?_
      refine z_widen (k := 100 + 2 * (j + 1)) (q := 100000 + 1006 * (j + 1)) (by omega) (by omega) ?_
      exact hNext s1374 v1386 n2 B2 y2 (JI_of hxq hmq)
    · skip
      have zn1398 := z0_t (by omega) zc1398
      have hzt : t = 0 := zn1398
      refine z_aload_n C dL_law_1401 5 rfl ?_
      refine z_iconst (v := nI 0) C (by decide) dL_law_1402 ?_
      refine z_lald (q := 34) (len := 1) (k := 0) C hK (by decide) rfl 1 rfl rfl (by decide) (by decide) dL_law_1403 ?_
      refine z_topl (y := r1380) (hval hzt) ?_
      refine z_lload C dL_law_1404 0 rfl ?_
      refine z_lcmp C dL_law_1406 ?_
      refine z_topi (y := nI 0) (lgc _) ?_
      refine z_if_eq (tgt := 1412) C dL_law_1407 (by decide) (fun zc1407 => ?_) (fun zc1407 => ?_)
      · skip
        have zn1407 := z0_t (by omega) zc1407
        refine z_goto (tgt := 1770) C dL_law_1412 (by decide) ?_
        refine z_iinc (L' := [(5, .int (nI (i + 5))), (7, .long (r1380)), (6, .int (nI t)), (0, .ref (b)), (1, .ref (ad 33)), (2, .ref (ad 36)), (3, .ref (ad 34)), (4, .ref (ad 35))]) C dL_law_1770 7 rfl (nI_5 i) (by decide) rfl ?_
        refine z_goto (tgt := 28) C dL_law_1773 (by decide) ?_
        refine z_sub (L' := [(0, .ref b), (1, .ref (ad 33)), (2, .ref (ad 36)), (3, .ref (ad 34)), (4, .ref (ad 35)), (5, .int (nI (i + 5)))]) [3, 4, 5, 6, 7, 0] rfl ?_
        refine z_widen (k := 100 + 2 * (j + 1)) (q := 100000 + 1006 * (j + 1)) (by omega) (by omega) ?_
        exact hNext s1374 v1386 n2 B2 y2 (JI_of hxq hmq)
      · skip
        have zn1407 := z0_f zc1407
        exact absurd zn1407 (by decide)
  · skip
    have zn1391 := zeq_f (a := t) (b := t) zc1391
    exact False.elim (zc1391 rfl)

set_option maxHeartbeats 4000000 in
set_option maxRecDepth 100000 in
theorem sg_isPlayed {p : Program} {l : Launch} {e : Env} {s : State} {m : MethodId} {below : List Frame} {meth : Method} {c : Code} {D : va_G} {ad : Nat → Nat} {cI cL cR cB cD : ClassId} {b Ln : Nat} {xs : Nat → Int32} {Qq : State → Prop} (C0 : LC p l s m c D ad cI cL cR cB cD b Ln xs) {j i : Nat} (hi : i = 5 * j) (hiL : i + 5 ≤ Ln) {u v : xS} {o : Nat → Int64} {d : Nat → UInt64} {n : Nat} {B : Nat → Nat → Nat} {x : Nat} (hJ : JI u v n B x) (hNext : ∀ (s' : hS) (v' : xS) (n' : Nat) (B' : Nat → Nat → Nat) (x' : Nat), JI s'.1 v' n' B' x' → ZZ p l e room_1 s m #[Value.ref b] below meth c D vwCl 48 ad 9 (100 + 2 * (j + 1)) (100000 + 1006 * (j + 1)) Qq (LF ad cI cL cR cB cD (s', v')) [(0, .ref b), (1, .ref (ad 33)), (2, .ref (ad 36)), (3, .ref (ad 34)), (4, .ref (ad 35)), (5, .int (nI (i + 5)))] 28 []) : ZZ p l e room_1 s m #[Value.ref b] below meth c D vwCl 48 ad 9 (100 + 2 * j) (100000 + 1006 * j) Qq (LF ad cI cL cR cB cD ((u, o, d), v)) [(0, .ref b), (1, .ref (ad 33)), (2, .ref (ad 36)), (3, .ref (ad 34)), (4, .ref (ad 35)), (5, .int (nI i))] 1415 [] := by
  obtain ⟨C, hml, hown, hts, hK, hX, hI, hXs, hbl, hbA, hL, hst0⟩ := C0
  obtain ⟨t, vl, n2, B2, y2, f, ht3, hH, hM⟩ := lc_isPlayed l hst0 D ad (am ad) cI cL cR cB cD (gI_n (by decide) hI) (gI_m hI) u v o d n B x hJ (xs (i + 1))
  refine z_aload_n C dL_law_1415 1 rfl ?_
  refine z_aload_n C dL_law_1416 0 rfl ?_
  refine z_iload C dL_law_1417 5 rfl ?_
  refine z_iconst (v := nI 1) C (by decide) dL_law_1419 ?_
  refine z_iadd C dL_law_1420 ?_
  refine z_topi (y := nI (i + 1)) (nI_add i 1) ?_
  refine z_sld C hXs hbl hbA (k := i + 1) rfl (by omega) (by omega) dL_law_1421 ?_
  refine z_aload_n C dL_law_1422 3 rfl ?_
  refine z_callWi lX_ok C hml hown hts hK hX (fun sz => z_liftI (σ := id) (F := fun s9 => LF ad cI cL cR cB cD (s9, v)) (F1 := hF ad cI cL cR cD) (f1 := hF ad cI cL cR cD (u, o, d)) (zLh hI) (fun _ h => h) lX_h (fun k hk => LF_h k hk) (fun _ k hk => LF_h k hk) LF_h2 (fun _ _ h => h) (hH sz)) (vx_cwSW 3 hts gL_law_L_isPlayed rfl rfl rfl (by decide +kernel) ⟨Nat.le_of_ble_eq_true rfl, Nat.le_of_ble_eq_true rfl⟩) rfl (st := []) rfl (Nat.le_of_ble_eq_true rfl) dL_law_1423 ⟨by show 100 + 2 * j + 1 ≤ 601024; omega, by show 100000 + 1006 * j + 6 ≤ 7293034; omega⟩ (fun r1423 s1423 h1423 => ?_)
  obtain ⟨e1423, hval, hxq⟩ := h1423
  subst e1423
  refine z_istore (L' := [(6, .int (nI t)), (0, .ref (b)), (1, .ref (ad 33)), (2, .ref (ad 36)), (3, .ref (ad 34)), (4, .ref (ad 35)), (5, .int (nI i))]) C dL_law_1426 (by decide) rfl ?_
  refine z_aload_n C dL_law_1428 3 rfl ?_
  refine z_aload_n C dL_law_1429 1 rfl ?_
  refine z_iload C dL_law_1430 6 rfl ?_
  refine z_iconst (v := nI 1) C (by decide) dL_law_1432 ?_
  refine z_iadd C dL_law_1433 ?_
  refine z_topi (y := nI (i + 1)) (nI_add i 1) ?_
  refine z_sld C hXs hbl hbA (k := i + 1) rfl (by omega) (by omega) dL_law_1434 ?_
  refine z_callVi (q := 36) lX_ok C hml hown hts hK hX (fun sz => z_liftI (σ := fun k => 36 + k) (F := fun v9 => LF ad cI cL cR cB cD (s1423, v9)) (F1 := mF (am ad) cI cL cB) (f1 := mF (am ad) cI cL cB v) (zLm hI) lK_m (fun _ _ => trivial) (fun k hk => LF_m k hk) (fun _ k hk => LF_m k hk) LF_m2 (fun _ _ h => h) (hM sz)) (cwV 1 hts gL_law_X7_isPlayed rfl rfl rfl (by decide +kernel) ⟨Nat.le_of_ble_eq_true rfl, Nat.le_of_ble_eq_true rfl⟩) (by decide) (ci := 7) rfl rfl rfl (st := []) rfl (Nat.le_of_ble_eq_true rfl) dL_law_1435 ⟨by show 100 + 2 * j + 1 + 0 ≤ 601024; omega, by show 100000 + 1006 * j + 6 + 0 ≤ 7293034; omega⟩ (fun r1435 v1435 h1435 => ?_)
  obtain ⟨e1435, hth, hmq⟩ := h1435
  subst e1435
  refine z_istore (L' := [(7, .int (r1435)), (6, .int (nI t)), (0, .ref (b)), (1, .ref (ad 33)), (2, .ref (ad 36)), (3, .ref (ad 34)), (4, .ref (ad 35)), (5, .int (nI i))]) C dL_law_1438 (by decide) rfl ?_
  refine z_aload_n C dL_law_1440 4 rfl ?_
  refine z_callVi (q := 36) lX_ok C hml hown hts hK hX (fun sz => z_liftI (σ := fun k => 36 + k) (F := fun v9 => LF ad cI cL cR cB cD (s1423, v9)) (F1 := mF (am ad) cI cL cB) (f1 := mF (am ad) cI cL cB v1435) (zLm hI) lK_m (fun _ _ => trivial) (fun k hk => LF_m k hk) (fun _ k hk => LF_m k hk) LF_m2 (fun _ _ h => h) (c_X7_thrown l D (am ad) cI cL cB (gI_m hI) v1435 sz)) (cwV 0 hts gL_law_X7_thrown rfl rfl rfl (by decide +kernel) ⟨Nat.le_of_ble_eq_true rfl, Nat.le_of_ble_eq_true rfl⟩) (by decide) (ci := 7) rfl rfl rfl (st := []) rfl (Nat.le_of_ble_eq_true rfl) dL_law_1441 ⟨by show 100 + 2 * j + 1 + 0 + 0 ≤ 601024; omega, by show 100000 + 1006 * j + 6 + 0 + 0 ≤ 7293034; omega⟩ (fun r1441 v1441 h1441 => ?_)
  obtain ⟨e1441, f1441⟩ := h1441
  subst f1441
  subst e1441
  refine z_topi (y := nI t) hth ?_
  refine z_iload C dL_law_1444 1 rfl ?_
  refine z_icmp_eq (tgt := 1451) C dL_law_1446 (by decide) (fun zc1446 => ?_) (fun zc1446 => ?_)
  · skip
    have zn1446 := zeq_t (a := t) (b := t) (by omega) (by omega) zc1446
    refine z_iload C dL_law_1451 1 rfl ?_
    refine z_if_ne (tgt := 1475) C dL_law_1453 (by decide) (fun zc1453 => ?_) (fun zc1453 => ?_)
    · skip
      have zn1453 := z0_f zc1453
      refine z_goto (tgt := 1770) C dL_law_1475 (by decide) ?_
      refine z_iinc (L' := [(5, .int (nI (i + 5))), (7, .int (r1435)), (6, .int (nI t)), (0, .ref (b)), (1, .ref (ad 33)), (2, .ref (ad 36)), (3, .ref (ad 34)), (4, .ref (ad 35))]) C dL_law_1770 7 rfl (nI_5 i) (by decide) rfl ?_
      refine z_goto (tgt := 28) C dL_law_1773 (by decide) ?_
      refine z_sub (L' := [(0, .ref b), (1, .ref (ad 33)), (2, .ref (ad 36)), (3, .ref (ad 34)), (4, .ref (ad 35)), (5, .int (nI (i + 5)))]) [3, 4, 5, 6, 7, 0] rfl ?_
      refine z_widen (k := 100 + 2 * (j + 1)) (q := 100000 + 1006 * (j + 1)) (by omega) (by omega) ?_
      exact hNext s1423 v1441 n2 B2 y2 (JI_of hxq hmq)
    · skip
      have zn1453 := z0_t (by omega) zc1453
      have hzt : t = 0 := zn1453
      refine z_aload_n C dL_law_1456 5 rfl ?_
      refine z_iconst (v := nI 0) C (by decide) dL_law_1457 ?_
      refine z_lald (q := 34) (len := 1) (k := 0) C hK (by decide) rfl 1 rfl rfl (by decide) (by decide) dL_law_1458 ?_
      refine z_topl (y := (if r1435 = 0 then 0 else 1)) (hval hzt) ?_
      refine z_iload C dL_law_1459 0 rfl ?_
      refine z_if_eq (tgt := 1468) C dL_law_1461 (by decide) (fun zc1461 => ?_) (fun zc1461 => ?_)
      · skip
        refine z_lconst (v := 0) C (by decide) dL_law_1468 ?_
        refine z_topl (y := (if r1435 = 0 then 0 else 1)) ((by first | exact (if_pos (by assumption)).symm | (split <;> first | rfl | contradiction))) ?_
        refine z_lcmp C dL_law_1469 ?_
        refine z_topi (y := nI 0) (lgc _) ?_
        refine z_if_eq (tgt := 1475) C dL_law_1470 (by decide) (fun zc1470 => ?_) (fun zc1470 => ?_)
        · skip
          have zn1470 := z0_t (by omega) zc1470
          refine z_goto (tgt := 1770) C dL_law_1475 (by decide) ?_
          refine z_iinc (L' := [(5, .int (nI (i + 5))), (7, .int (r1435)), (6, .int (nI t)), (0, .ref (b)), (1, .ref (ad 33)), (2, .ref (ad 36)), (3, .ref (ad 34)), (4, .ref (ad 35))]) C dL_law_1770 7 rfl (nI_5 i) (by decide) rfl ?_
          refine z_goto (tgt := 28) C dL_law_1773 (by decide) ?_
          refine z_sub (L' := [(0, .ref b), (1, .ref (ad 33)), (2, .ref (ad 36)), (3, .ref (ad 34)), (4, .ref (ad 35)), (5, .int (nI (i + 5)))]) [3, 4, 5, 6, 7, 0] rfl ?_
          refine z_widen (k := 100 + 2 * (j + 1)) (q := 100000 + 1006 * (j + 1)) (by omega) (by omega) ?_
          exact hNext s1423 v1441 n2 B2 y2 (JI_of hxq hmq)
        · skip
          have zn1470 := z0_f zc1470
          exact absurd zn1470 (by decide)
      · skip
        refine z_lconst (v := 1) C (by decide) dL_law_1464 ?_
        refine z_goto (tgt := 1469) C dL_law_1465 (by decide) ?_
        refine z_topl (y := (if r1435 = 0 then 0 else 1)) ((by split <;> first | rfl | contradiction)) ?_
        refine z_lcmp C dL_law_1469 ?_
        refine z_topi (y := nI 0) (lgc _) ?_
        refine z_if_eq (tgt := 1475) C dL_law_1470 (by decide) (fun zc1470 => ?_) (fun zc1470 => ?_)
        · skip
          have zn1470 := z0_t (by omega) zc1470
          refine z_goto (tgt := 1770) C dL_law_1475 (by decide) ?_
          refine z_iinc (L' := [(5, .int (nI (i + 5))), (7, .int (r1435)), (6, .int (nI t)), (0, .ref (b)), (1, .ref (ad 33)), (2, .ref (ad 36)), (3, .ref (ad 34)), (4, .ref (ad 35))]) C dL_law_1770 7 rfl (nI_5 i) (by decide) rfl ?_
          refine z_goto (tgt := 28) C dL_law_1773 (by decide) ?_
          refine z_sub (L' := [(0, .ref b), (1, .ref (ad 33)), (2, .ref (ad 36)), (3, .ref (ad 34)), (4, .ref (ad 35)), (5, .int (nI (i + 5)))]) [3, 4, 5, 6, 7, 0] rfl ?_
          refine z_widen (k := 100 + 2 * (j + 1)) (q := 100000 + 1006 * (j + 1)) (by omega) (by omega) ?_
          exact hNext s1423 v1441 n2 B2 y2 (JI_of hxq hmq)
        · skip
          have zn1470 := z0_f zc1470
          exact absurd zn1470 (by decide)
  · skip
    have zn1446 := zeq_f (a := t) (b := t) zc1446
    exact False.elim (zc1446 rfl)

set_option maxHeartbeats 4000000 in
set_option maxRecDepth 100000 in
theorem sg_choice {p : Program} {l : Launch} {e : Env} {s : State} {m : MethodId} {below : List Frame} {meth : Method} {c : Code} {D : va_G} {ad : Nat → Nat} {cI cL cR cB cD : ClassId} {b Ln : Nat} {xs : Nat → Int32} {Qq : State → Prop} (C0 : LC p l s m c D ad cI cL cR cB cD b Ln xs) {j i : Nat} (hi : i = 5 * j) (hiL : i + 5 ≤ Ln) {u v : xS} {o : Nat → Int64} {d : Nat → UInt64} {n : Nat} {B : Nat → Nat → Nat} {x : Nat} (hJ : JI u v n B x) (hNext : ∀ (s' : hS) (v' : xS) (n' : Nat) (B' : Nat → Nat → Nat) (x' : Nat), JI s'.1 v' n' B' x' → ZZ p l e room_1 s m #[Value.ref b] below meth c D vwCl 48 ad 9 (100 + 2 * (j + 1)) (100000 + 1006 * (j + 1)) Qq (LF ad cI cL cR cB cD (s', v')) [(0, .ref b), (1, .ref (ad 33)), (2, .ref (ad 36)), (3, .ref (ad 34)), (4, .ref (ad 35)), (5, .int (nI (i + 5)))] 28 []) : ZZ p l e room_1 s m #[Value.ref b] below meth c D vwCl 48 ad 9 (100 + 2 * j) (100000 + 1006 * j) Qq (LF ad cI cL cR cB cD ((u, o, d), v)) [(0, .ref b), (1, .ref (ad 33)), (2, .ref (ad 36)), (3, .ref (ad 34)), (4, .ref (ad 35)), (5, .int (nI i))] 1478 [] := by
  obtain ⟨C, hml, hown, hts, hK, hX, hI, hXs, hbl, hbA, hL, hst0⟩ := C0
  obtain ⟨t, vl, n2, B2, y2, f, ht3, hH, hM⟩ := lc_choice l hst0 D ad (am ad) cI cL cR cB cD (gI_n (by decide) hI) (gI_m hI) u v o d n B x hJ 
  refine z_aload_n C dL_law_1478 1 rfl ?_
  refine z_aload C dL_law_1479 4 rfl ?_
  refine z_callWi lX_ok C hml hown hts hK hX (fun sz => z_liftI (σ := id) (F := fun s9 => LF ad cI cL cR cB cD (s9, v)) (F1 := hF ad cI cL cR cD) (f1 := hF ad cI cL cR cD (u, o, d)) (zLh hI) (fun _ h => h) lX_h (fun k hk => LF_h k hk) (fun _ k hk => LF_h k hk) LF_h2 (fun _ _ h => h) (hH sz)) (vx_cwSW 2 hts gL_law_L_choice rfl rfl rfl (by decide +kernel) ⟨Nat.le_of_ble_eq_true rfl, Nat.le_of_ble_eq_true rfl⟩) rfl (st := []) rfl (Nat.le_of_ble_eq_true rfl) dL_law_1481 ⟨by show 100 + 2 * j + 1 ≤ 601024; omega, by show 100000 + 1006 * j + 6 ≤ 7293034; omega⟩ (fun r1481 s1481 h1481 => ?_)
  obtain ⟨e1481, hval, hxq⟩ := h1481
  subst e1481
  refine z_istore (L' := [(6, .int (nI t)), (0, .ref (b)), (1, .ref (ad 33)), (2, .ref (ad 36)), (3, .ref (ad 34)), (4, .ref (ad 35)), (5, .int (nI i))]) C dL_law_1484 (by decide) rfl ?_
  refine z_aload_n C dL_law_1486 3 rfl ?_
  refine z_callVd (q := 36) lX_ok C hml hown hts hK hX (fun sz => z_liftD (σ := fun k => 36 + k) (F := fun v9 => LF ad cI cL cR cB cD (s1481, v9)) (F1 := mF (am ad) cI cL cB) (f1 := mF (am ad) cI cL cB v) (zLm hI) lK_m (fun _ _ => trivial) (fun k hk => LF_m k hk) (fun _ k hk => LF_m k hk) LF_m2 (fun _ _ h => h) (hM sz)) (cwV 0 hts gL_law_X7_choice rfl rfl rfl (by decide +kernel) ⟨Nat.le_of_ble_eq_true rfl, Nat.le_of_ble_eq_true rfl⟩) (by decide) (ci := 7) rfl rfl rfl (st := []) rfl (Nat.le_of_ble_eq_true rfl) dL_law_1487 ⟨by show 100 + 2 * j + 1 + 0 ≤ 601024; omega, by show 100000 + 1006 * j + 6 + 0 ≤ 7293034; omega⟩ (fun r1487 v1487 h1487 => ?_)
  obtain ⟨e1487, hth, hmq⟩ := h1487
  subst e1487
  refine z_dstore (L' := [(7, .double (r1487)), (6, .int (nI t)), (0, .ref (b)), (1, .ref (ad 33)), (2, .ref (ad 36)), (3, .ref (ad 34)), (4, .ref (ad 35)), (5, .int (nI i))]) C dL_law_1490 (by decide) rfl ?_
  refine z_aload_n C dL_law_1492 4 rfl ?_
  refine z_callVi (q := 36) lX_ok C hml hown hts hK hX (fun sz => z_liftI (σ := fun k => 36 + k) (F := fun v9 => LF ad cI cL cR cB cD (s1481, v9)) (F1 := mF (am ad) cI cL cB) (f1 := mF (am ad) cI cL cB v1487) (zLm hI) lK_m (fun _ _ => trivial) (fun k hk => LF_m k hk) (fun _ k hk => LF_m k hk) LF_m2 (fun _ _ h => h) (c_X7_thrown l D (am ad) cI cL cB (gI_m hI) v1487 sz)) (cwV 0 hts gL_law_X7_thrown rfl rfl rfl (by decide +kernel) ⟨Nat.le_of_ble_eq_true rfl, Nat.le_of_ble_eq_true rfl⟩) (by decide) (ci := 7) rfl rfl rfl (st := []) rfl (Nat.le_of_ble_eq_true rfl) dL_law_1493 ⟨by show 100 + 2 * j + 1 + 0 + 0 ≤ 601024; omega, by show 100000 + 1006 * j + 6 + 0 + 0 ≤ 7293034; omega⟩ (fun r1493 v1493 h1493 => ?_)
  obtain ⟨e1493, f1493⟩ := h1493
  subst f1493
  subst e1493
  refine z_topi (y := nI t) hth ?_
  refine z_iload C dL_law_1496 1 rfl ?_
  refine z_icmp_eq (tgt := 1503) C dL_law_1498 (by decide) (fun zc1498 => ?_) (fun zc1498 => ?_)
  · skip
    have zn1498 := zeq_t (a := t) (b := t) (by omega) (by omega) zc1498
    refine z_iload C dL_law_1503 1 rfl ?_
    refine z_if_ne (tgt := 1540) C dL_law_1505 (by decide) (fun zc1505 => ?_) (fun zc1505 => ?_)
    · skip
      have zn1505 := z0_f zc1505
      refine z_goto (tgt := 1770) C dL_law_1540 (by decide) ?_
      refine z_iinc (L' := [(5, .int (nI (i + 5))), (7, .double (r1487)), (6, .int (nI t)), (0, .ref (b)), (1, .ref (ad 33)), (2, .ref (ad 36)), (3, .ref (ad 34)), (4, .ref (ad 35))]) C dL_law_1770 7 rfl (nI_5 i) (by decide) rfl ?_
      refine z_goto (tgt := 28) C dL_law_1773 (by decide) ?_
      refine z_sub (L' := [(0, .ref b), (1, .ref (ad 33)), (2, .ref (ad 36)), (3, .ref (ad 34)), (4, .ref (ad 35)), (5, .int (nI (i + 5)))]) [3, 4, 5, 6, 7, 0] rfl ?_
      refine z_widen (k := 100 + 2 * (j + 1)) (q := 100000 + 1006 * (j + 1)) (by omega) (by omega) ?_
      exact hNext s1481 v1493 n2 B2 y2 (JI_of hxq hmq)
    · skip
      have zn1505 := z0_t (by omega) zc1505
      have hzt : t = 0 := zn1505
      refine z_aload C dL_law_1508 6 rfl ?_
      refine z_iconst (v := nI 0) C (by decide) dL_law_1510 ?_
      refine z_dald (q := 35) (len := 1) (k := 0) C hK (by decide) rfl 4 rfl rfl (by decide) (by decide) dL_law_1511 ?_
      refine z_topv (y := .double (r1487)) (by rw [hval hzt]) ?_
      refine z_dload C dL_law_1512 0 rfl ?_
      refine z_dcmp C dL_law_1514 ?_
      refine z_if_eq (tgt := 1540) C dL_law_1515 (by decide) (fun zc1515 => ?_) (fun zc1515 => ?_)
      · skip
        refine z_goto (tgt := 1770) C dL_law_1540 (by decide) ?_
        refine z_iinc (L' := [(5, .int (nI (i + 5))), (7, .double (r1487)), (6, .int (nI t)), (0, .ref (b)), (1, .ref (ad 33)), (2, .ref (ad 36)), (3, .ref (ad 34)), (4, .ref (ad 35))]) C dL_law_1770 7 rfl (nI_5 i) (by decide) rfl ?_
        refine z_goto (tgt := 28) C dL_law_1773 (by decide) ?_
        refine z_sub (L' := [(0, .ref b), (1, .ref (ad 33)), (2, .ref (ad 36)), (3, .ref (ad 34)), (4, .ref (ad 35)), (5, .int (nI (i + 5)))]) [3, 4, 5, 6, 7, 0] rfl ?_
        refine z_widen (k := 100 + 2 * (j + 1)) (q := 100000 + 1006 * (j + 1)) (by omega) (by omega) ?_
        exact hNext s1481 v1493 n2 B2 y2 (JI_of hxq hmq)
      · skip
        refine z_aload C dL_law_1518 6 rfl ?_
        refine z_iconst (v := nI 0) C (by decide) dL_law_1520 ?_
        refine z_dald (q := 35) (len := 1) (k := 0) C hK (by decide) rfl 4 rfl rfl (by decide) (by decide) dL_law_1521 ?_
        refine z_topv (y := .double (r1487)) (by rw [hval hzt]) ?_
        refine z_aload C dL_law_1522 6 rfl ?_
        refine z_iconst (v := nI 0) C (by decide) dL_law_1524 ?_
        refine z_dald (q := 35) (len := 1) (k := 0) C hK (by decide) rfl 4 rfl rfl (by decide) (by decide) dL_law_1525 ?_
        refine z_topv (y := .double (r1487)) (by rw [hval hzt]) ?_
        refine z_dcmp C dL_law_1526 ?_
        refine z_if_eq (tgt := 1538) C dL_law_1527 (by decide) (fun zc1527 => ?_) (fun zc1527 => ?_)
        · skip
          exact False.elim (zc1515 zc1527)
        · skip
          refine z_dload C dL_law_1530 0 rfl ?_
          refine z_dload C dL_law_1532 0 rfl ?_
          refine z_dcmp C dL_law_1534 ?_
          refine z_if_ne (tgt := 1540) C dL_law_1535 (by decide) (fun zc1535 => ?_) (fun zc1535 => ?_)
          · skip
            refine z_goto (tgt := 1770) C dL_law_1540 (by decide) ?_
            refine z_iinc (L' := [(5, .int (nI (i + 5))), (7, .double (r1487)), (6, .int (nI t)), (0, .ref (b)), (1, .ref (ad 33)), (2, .ref (ad 36)), (3, .ref (ad 34)), (4, .ref (ad 35))]) C dL_law_1770 7 rfl (nI_5 i) (by decide) rfl ?_
            refine z_goto (tgt := 28) C dL_law_1773 (by decide) ?_
            refine z_sub (L' := [(0, .ref b), (1, .ref (ad 33)), (2, .ref (ad 36)), (3, .ref (ad 34)), (4, .ref (ad 35)), (5, .int (nI (i + 5)))]) [3, 4, 5, 6, 7, 0] rfl ?_
            refine z_widen (k := 100 + 2 * (j + 1)) (q := 100000 + 1006 * (j + 1)) (by omega) (by omega) ?_
            exact hNext s1481 v1493 n2 B2 y2 (JI_of hxq hmq)
          · skip
            exact False.elim (zc1515 zc1535)
  · skip
    have zn1498 := zeq_f (a := t) (b := t) zc1498
    exact False.elim (zc1498 rfl)

set_option maxHeartbeats 4000000 in
set_option maxRecDepth 100000 in
theorem sg_canTrigger {p : Program} {l : Launch} {e : Env} {s : State} {m : MethodId} {below : List Frame} {meth : Method} {c : Code} {D : va_G} {ad : Nat → Nat} {cI cL cR cB cD : ClassId} {b Ln : Nat} {xs : Nat → Int32} {Qq : State → Prop} (C0 : LC p l s m c D ad cI cL cR cB cD b Ln xs) {j i : Nat} (hi : i = 5 * j) (hiL : i + 5 ≤ Ln) {u v : xS} {o : Nat → Int64} {d : Nat → UInt64} {n : Nat} {B : Nat → Nat → Nat} {x : Nat} (hJ : JI u v n B x) (hNext : ∀ (s' : hS) (v' : xS) (n' : Nat) (B' : Nat → Nat → Nat) (x' : Nat), JI s'.1 v' n' B' x' → ZZ p l e room_1 s m #[Value.ref b] below meth c D vwCl 48 ad 9 (100 + 2 * (j + 1)) (100000 + 1006 * (j + 1)) Qq (LF ad cI cL cR cB cD (s', v')) [(0, .ref b), (1, .ref (ad 33)), (2, .ref (ad 36)), (3, .ref (ad 34)), (4, .ref (ad 35)), (5, .int (nI (i + 5)))] 28 []) : ZZ p l e room_1 s m #[Value.ref b] below meth c D vwCl 48 ad 9 (100 + 2 * j) (100000 + 1006 * j) Qq (LF ad cI cL cR cB cD ((u, o, d), v)) [(0, .ref b), (1, .ref (ad 33)), (2, .ref (ad 36)), (3, .ref (ad 34)), (4, .ref (ad 35)), (5, .int (nI i))] 1543 [] := by
  obtain ⟨C, hml, hown, hts, hK, hX, hI, hXs, hbl, hbA, hL, hst0⟩ := C0
  obtain ⟨t, vl, n2, B2, y2, f, ht3, hH, hM⟩ := lc_canTrigger l hst0 D ad (am ad) cI cL cR cB cD (gI_n (by decide) hI) (gI_m hI) u v o d n B x hJ (xs (i + 1))
  refine z_aload_n C dL_law_1543 1 rfl ?_
  refine z_aload_n C dL_law_1544 0 rfl ?_
  refine z_iload C dL_law_1545 5 rfl ?_
  refine z_iconst (v := nI 1) C (by decide) dL_law_1547 ?_
  refine z_iadd C dL_law_1548 ?_
  refine z_topi (y := nI (i + 1)) (nI_add i 1) ?_
  refine z_sld C hXs hbl hbA (k := i + 1) rfl (by omega) (by omega) dL_law_1549 ?_
  refine z_aload_n C dL_law_1550 3 rfl ?_
  refine z_callWi lX_ok C hml hown hts hK hX (fun sz => z_liftI (σ := id) (F := fun s9 => LF ad cI cL cR cB cD (s9, v)) (F1 := hF ad cI cL cR cD) (f1 := hF ad cI cL cR cD (u, o, d)) (zLh hI) (fun _ h => h) lX_h (fun k hk => LF_h k hk) (fun _ k hk => LF_h k hk) LF_h2 (fun _ _ h => h) (hH sz)) (vx_cwSW 3 hts gL_law_L_canTrigger rfl rfl rfl (by decide +kernel) ⟨Nat.le_of_ble_eq_true rfl, Nat.le_of_ble_eq_true rfl⟩) rfl (st := []) rfl (Nat.le_of_ble_eq_true rfl) dL_law_1551 ⟨by show 100 + 2 * j + 1 ≤ 601024; omega, by show 100000 + 1006 * j + 6 ≤ 7293034; omega⟩ (fun r1551 s1551 h1551 => ?_)
  obtain ⟨e1551, hval, hxq⟩ := h1551
  subst e1551
  refine z_istore (L' := [(6, .int (nI t)), (0, .ref (b)), (1, .ref (ad 33)), (2, .ref (ad 36)), (3, .ref (ad 34)), (4, .ref (ad 35)), (5, .int (nI i))]) C dL_law_1554 (by decide) rfl ?_
  refine z_aload_n C dL_law_1556 3 rfl ?_
  refine z_aload_n C dL_law_1557 1 rfl ?_
  refine z_iload C dL_law_1558 6 rfl ?_
  refine z_iconst (v := nI 1) C (by decide) dL_law_1560 ?_
  refine z_iadd C dL_law_1561 ?_
  refine z_topi (y := nI (i + 1)) (nI_add i 1) ?_
  refine z_sld C hXs hbl hbA (k := i + 1) rfl (by omega) (by omega) dL_law_1562 ?_
  refine z_callVi (q := 36) lX_ok C hml hown hts hK hX (fun sz => z_liftI (σ := fun k => 36 + k) (F := fun v9 => LF ad cI cL cR cB cD (s1551, v9)) (F1 := mF (am ad) cI cL cB) (f1 := mF (am ad) cI cL cB v) (zLm hI) lK_m (fun _ _ => trivial) (fun k hk => LF_m k hk) (fun _ k hk => LF_m k hk) LF_m2 (fun _ _ h => h) (hM sz)) (cwV 1 hts gL_law_X7_canTrigger rfl rfl rfl (by decide +kernel) ⟨Nat.le_of_ble_eq_true rfl, Nat.le_of_ble_eq_true rfl⟩) (by decide) (ci := 7) rfl rfl rfl (st := []) rfl (Nat.le_of_ble_eq_true rfl) dL_law_1563 ⟨by show 100 + 2 * j + 1 + 0 ≤ 601024; omega, by show 100000 + 1006 * j + 6 + 0 ≤ 7293034; omega⟩ (fun r1563 v1563 h1563 => ?_)
  obtain ⟨e1563, hth, hmq⟩ := h1563
  subst e1563
  refine z_istore (L' := [(7, .int (r1563)), (6, .int (nI t)), (0, .ref (b)), (1, .ref (ad 33)), (2, .ref (ad 36)), (3, .ref (ad 34)), (4, .ref (ad 35)), (5, .int (nI i))]) C dL_law_1566 (by decide) rfl ?_
  refine z_aload_n C dL_law_1568 4 rfl ?_
  refine z_callVi (q := 36) lX_ok C hml hown hts hK hX (fun sz => z_liftI (σ := fun k => 36 + k) (F := fun v9 => LF ad cI cL cR cB cD (s1551, v9)) (F1 := mF (am ad) cI cL cB) (f1 := mF (am ad) cI cL cB v1563) (zLm hI) lK_m (fun _ _ => trivial) (fun k hk => LF_m k hk) (fun _ k hk => LF_m k hk) LF_m2 (fun _ _ h => h) (c_X7_thrown l D (am ad) cI cL cB (gI_m hI) v1563 sz)) (cwV 0 hts gL_law_X7_thrown rfl rfl rfl (by decide +kernel) ⟨Nat.le_of_ble_eq_true rfl, Nat.le_of_ble_eq_true rfl⟩) (by decide) (ci := 7) rfl rfl rfl (st := []) rfl (Nat.le_of_ble_eq_true rfl) dL_law_1569 ⟨by show 100 + 2 * j + 1 + 0 + 0 ≤ 601024; omega, by show 100000 + 1006 * j + 6 + 0 + 0 ≤ 7293034; omega⟩ (fun r1569 v1569 h1569 => ?_)
  obtain ⟨e1569, f1569⟩ := h1569
  subst f1569
  subst e1569
  refine z_topi (y := nI t) hth ?_
  refine z_iload C dL_law_1572 1 rfl ?_
  refine z_icmp_eq (tgt := 1579) C dL_law_1574 (by decide) (fun zc1574 => ?_) (fun zc1574 => ?_)
  · skip
    have zn1574 := zeq_t (a := t) (b := t) (by omega) (by omega) zc1574
    refine z_iload C dL_law_1579 1 rfl ?_
    refine z_if_ne (tgt := 1596) C dL_law_1581 (by decide) (fun zc1581 => ?_) (fun zc1581 => ?_)
    · skip
      have zn1581 := z0_f zc1581
      refine z_goto (tgt := 1770) C dL_law_1596 (by decide) ?_
      refine z_iinc (L' := [(5, .int (nI (i + 5))), (7, .int (r1563)), (6, .int (nI t)), (0, .ref (b)), (1, .ref (ad 33)), (2, .ref (ad 36)), (3, .ref (ad 34)), (4, .ref (ad 35))]) C dL_law_1770 7 rfl (nI_5 i) (by decide) rfl ?_
      refine z_goto (tgt := 28) C dL_law_1773 (by decide) ?_
      refine z_sub (L' := [(0, .ref b), (1, .ref (ad 33)), (2, .ref (ad 36)), (3, .ref (ad 34)), (4, .ref (ad 35)), (5, .int (nI (i + 5)))]) [3, 4, 5, 6, 7, 0] rfl ?_
      refine z_widen (k := 100 + 2 * (j + 1)) (q := 100000 + 1006 * (j + 1)) (by omega) (by omega) ?_
      exact hNext s1551 v1569 n2 B2 y2 (JI_of hxq hmq)
    · skip
      have zn1581 := z0_t (by omega) zc1581
      have hzt : t = 0 := zn1581
      refine z_aload_n C dL_law_1584 5 rfl ?_
      refine z_iconst (v := nI 0) C (by decide) dL_law_1585 ?_
      refine z_lald (q := 34) (len := 1) (k := 0) C hK (by decide) rfl 1 rfl rfl (by decide) (by decide) dL_law_1586 ?_
      refine z_topl (y := r1563.toInt64) (hval hzt) ?_
      refine z_iload C dL_law_1587 0 rfl ?_
      refine z_i2l C rfl dL_law_1589 ?_
      refine z_lcmp C dL_law_1590 ?_
      refine z_topi (y := nI 0) (lgc _) ?_
      refine z_if_eq (tgt := 1596) C dL_law_1591 (by decide) (fun zc1591 => ?_) (fun zc1591 => ?_)
      · skip
        have zn1591 := z0_t (by omega) zc1591
        refine z_goto (tgt := 1770) C dL_law_1596 (by decide) ?_
        refine z_iinc (L' := [(5, .int (nI (i + 5))), (7, .int (r1563)), (6, .int (nI t)), (0, .ref (b)), (1, .ref (ad 33)), (2, .ref (ad 36)), (3, .ref (ad 34)), (4, .ref (ad 35))]) C dL_law_1770 7 rfl (nI_5 i) (by decide) rfl ?_
        refine z_goto (tgt := 28) C dL_law_1773 (by decide) ?_
        refine z_sub (L' := [(0, .ref b), (1, .ref (ad 33)), (2, .ref (ad 36)), (3, .ref (ad 34)), (4, .ref (ad 35)), (5, .int (nI (i + 5)))]) [3, 4, 5, 6, 7, 0] rfl ?_
        refine z_widen (k := 100 + 2 * (j + 1)) (q := 100000 + 1006 * (j + 1)) (by omega) (by omega) ?_
        exact hNext s1551 v1569 n2 B2 y2 (JI_of hxq hmq)
      · skip
        have zn1591 := z0_f zc1591
        exact absurd zn1591 (by decide)
  · skip
    have zn1574 := zeq_f (a := t) (b := t) zc1574
    exact False.elim (zc1574 rfl)

set_option maxHeartbeats 4000000 in
set_option maxRecDepth 100000 in
theorem sg_circular {p : Program} {l : Launch} {e : Env} {s : State} {m : MethodId} {below : List Frame} {meth : Method} {c : Code} {D : va_G} {ad : Nat → Nat} {cI cL cR cB cD : ClassId} {b Ln : Nat} {xs : Nat → Int32} {Qq : State → Prop} (C0 : LC p l s m c D ad cI cL cR cB cD b Ln xs) {j i : Nat} (hi : i = 5 * j) (hiL : i + 5 ≤ Ln) {u v : xS} {o : Nat → Int64} {d : Nat → UInt64} {n : Nat} {B : Nat → Nat → Nat} {x : Nat} (hJ : JI u v n B x) (hNext : ∀ (s' : hS) (v' : xS) (n' : Nat) (B' : Nat → Nat → Nat) (x' : Nat), JI s'.1 v' n' B' x' → ZZ p l e room_1 s m #[Value.ref b] below meth c D vwCl 48 ad 9 (100 + 2 * (j + 1)) (100000 + 1006 * (j + 1)) Qq (LF ad cI cL cR cB cD (s', v')) [(0, .ref b), (1, .ref (ad 33)), (2, .ref (ad 36)), (3, .ref (ad 34)), (4, .ref (ad 35)), (5, .int (nI (i + 5)))] 28 []) : ZZ p l e room_1 s m #[Value.ref b] below meth c D vwCl 48 ad 9 (100 + 2 * j) (100000 + 1006 * j) Qq (LF ad cI cL cR cB cD ((u, o, d), v)) [(0, .ref b), (1, .ref (ad 33)), (2, .ref (ad 36)), (3, .ref (ad 34)), (4, .ref (ad 35)), (5, .int (nI i))] 1599 [] := by
  obtain ⟨C, hml, hown, hts, hK, hX, hI, hXs, hbl, hbA, hL, hst0⟩ := C0
  obtain ⟨vl, n2, B2, y2, f, hH, hM⟩ := dc_circular l D ad (am ad) cI cL cR cB (gI_n (by decide) hI) (gI_m hI) u v n B x hJ
  refine z_aload_n C dL_law_1599 1 rfl ?_
  refine z_callVi lX_ok C hml hown hts hK hX (fun sz => z_liftI (σ := id) (F := fun u9 => LF ad cI cL cR cB cD ((u9, o, d), v)) (F1 := xF ad cI cL cR) (f1 := xF ad cI cL cR u) (zLx hI) lK_x lX_x8 (fun k hk => LF_x k hk) (fun _ k hk => LF_x k hk) LF_x2 (fun _ _ h => h) (hH sz)) (cwV 0 hts gL_law_X6_circular rfl rfl rfl (by decide +kernel) ⟨Nat.le_of_ble_eq_true rfl, Nat.le_of_ble_eq_true rfl⟩) (by decide) (ci := 6) rfl rfl rfl (st := []) rfl (Nat.le_of_ble_eq_true rfl) dL_law_1600 ⟨by show 100 + 2 * j + 0 ≤ 601024; omega, by show 100000 + 1006 * j + 0 ≤ 7293034; omega⟩ (fun r1600 u1600 h1600 => ?_)
  obtain ⟨e1600, hxq⟩ := h1600
  subst e1600
  refine z_aload_n C dL_law_1603 2 rfl ?_
  refine z_callVi (q := 36) lX_ok C hml hown hts hK hX (fun sz => z_liftI (σ := fun k => 36 + k) (F := fun v9 => LF ad cI cL cR cB cD ((u1600, o, d), v9)) (F1 := mF (am ad) cI cL cB) (f1 := mF (am ad) cI cL cB v) (zLm hI) lK_m (fun _ _ => trivial) (fun k hk => LF_m k hk) (fun _ k hk => LF_m k hk) LF_m2 (fun _ _ h => h) (hM sz)) (cwV 0 hts gL_law_X7_circular rfl rfl rfl (by decide +kernel) ⟨Nat.le_of_ble_eq_true rfl, Nat.le_of_ble_eq_true rfl⟩) (by decide) (ci := 7) rfl rfl rfl (st := [.int (r1600)]) rfl (Nat.le_of_ble_eq_true rfl) dL_law_1604 ⟨by show 100 + 2 * j + 0 + 0 ≤ 601024; omega, by show 100000 + 1006 * j + 0 + 0 ≤ 7293034; omega⟩ (fun r1604 v1604 h1604 => ?_)
  obtain ⟨e1604, hth, hmq⟩ := h1604
  subst e1604
  refine z_icmp_eq (tgt := 1770) C dL_law_1607 (by decide) (fun zc1607 => ?_) (fun zc1607 => ?_)
  · skip
    refine z_iinc (L' := [(5, .int (nI (i + 5))), (0, .ref (b)), (1, .ref (ad 33)), (2, .ref (ad 36)), (3, .ref (ad 34)), (4, .ref (ad 35))]) C dL_law_1770 5 rfl (nI_5 i) (by decide) rfl ?_
    refine z_goto (tgt := 28) C dL_law_1773 (by decide) ?_
    refine z_sub (L' := [(0, .ref b), (1, .ref (ad 33)), (2, .ref (ad 36)), (3, .ref (ad 34)), (4, .ref (ad 35)), (5, .int (nI (i + 5)))]) [1, 2, 3, 4, 5, 0] rfl ?_
    refine z_widen (k := 100 + 2 * (j + 1)) (q := 100000 + 1006 * (j + 1)) (by omega) (by omega) ?_
    exact hNext (u1600, o, d) v1604 n2 B2 y2 (JI_of hxq hmq)
  · skip
    exact False.elim (zc1607 rfl)

set_option maxHeartbeats 4000000 in
set_option maxRecDepth 100000 in
theorem sg_commute {p : Program} {l : Launch} {e : Env} {s : State} {m : MethodId} {below : List Frame} {meth : Method} {c : Code} {D : va_G} {ad : Nat → Nat} {cI cL cR cB cD : ClassId} {b Ln : Nat} {xs : Nat → Int32} {Qq : State → Prop} (C0 : LC p l s m c D ad cI cL cR cB cD b Ln xs) {j i : Nat} (hi : i = 5 * j) (hiL : i + 5 ≤ Ln) {u v : xS} {o : Nat → Int64} {d : Nat → UInt64} {n : Nat} {B : Nat → Nat → Nat} {x : Nat} (hJ : JI u v n B x) (hNext : ∀ (s' : hS) (v' : xS) (n' : Nat) (B' : Nat → Nat → Nat) (x' : Nat), JI s'.1 v' n' B' x' → ZZ p l e room_1 s m #[Value.ref b] below meth c D vwCl 48 ad 9 (100 + 2 * (j + 1)) (100000 + 1006 * (j + 1)) Qq (LF ad cI cL cR cB cD (s', v')) [(0, .ref b), (1, .ref (ad 33)), (2, .ref (ad 36)), (3, .ref (ad 34)), (4, .ref (ad 35)), (5, .int (nI (i + 5)))] 28 []) : ZZ p l e room_1 s m #[Value.ref b] below meth c D vwCl 48 ad 9 (100 + 2 * j) (100000 + 1006 * j) Qq (LF ad cI cL cR cB cD ((u, o, d), v)) [(0, .ref b), (1, .ref (ad 33)), (2, .ref (ad 36)), (3, .ref (ad 34)), (4, .ref (ad 35)), (5, .int (nI i))] 1612 [] := by
  obtain ⟨C, hml, hown, hts, hK, hX, hI, hXs, hbl, hbA, hL, hst0⟩ := C0
  obtain ⟨t, vl, n2, B2, y2, f, ht3, hH, hM⟩ := lc_commute l hst0 D ad (am ad) cI cL cR cB cD (gI_n (by decide) hI) (gI_m hI) u v o d n B x hJ (xs (i + 1)) (xs (i + 2))
  refine z_aload_n C dL_law_1612 1 rfl ?_
  refine z_aload_n C dL_law_1613 0 rfl ?_
  refine z_iload C dL_law_1614 5 rfl ?_
  refine z_iconst (v := nI 1) C (by decide) dL_law_1616 ?_
  refine z_iadd C dL_law_1617 ?_
  refine z_topi (y := nI (i + 1)) (nI_add i 1) ?_
  refine z_sld C hXs hbl hbA (k := i + 1) rfl (by omega) (by omega) dL_law_1618 ?_
  refine z_aload_n C dL_law_1619 0 rfl ?_
  refine z_iload C dL_law_1620 5 rfl ?_
  refine z_iconst (v := nI 2) C (by decide) dL_law_1622 ?_
  refine z_iadd C dL_law_1623 ?_
  refine z_topi (y := nI (i + 2)) (nI_add i 2) ?_
  refine z_sld C hXs hbl hbA (k := i + 2) rfl (by omega) (by omega) dL_law_1624 ?_
  refine z_aload_n C dL_law_1625 3 rfl ?_
  refine z_callWi lX_ok C hml hown hts hK hX (fun sz => z_liftI (σ := id) (F := fun s9 => LF ad cI cL cR cB cD (s9, v)) (F1 := hF ad cI cL cR cD) (f1 := hF ad cI cL cR cD (u, o, d)) (zLh hI) (fun _ h => h) lX_h (fun k hk => LF_h k hk) (fun _ k hk => LF_h k hk) LF_h2 (fun _ _ h => h) (hH sz)) (vx_cwSW 4 hts gL_law_L_commute rfl rfl rfl (by decide +kernel) ⟨Nat.le_of_ble_eq_true rfl, Nat.le_of_ble_eq_true rfl⟩) rfl (st := []) rfl (Nat.le_of_ble_eq_true rfl) dL_law_1626 ⟨by show 100 + 2 * j + 1 ≤ 601024; omega, by show 100000 + 1006 * j + 6 ≤ 7293034; omega⟩ (fun r1626 s1626 h1626 => ?_)
  obtain ⟨e1626, hval, hxq⟩ := h1626
  subst e1626
  refine z_istore (L' := [(6, .int (nI t)), (0, .ref (b)), (1, .ref (ad 33)), (2, .ref (ad 36)), (3, .ref (ad 34)), (4, .ref (ad 35)), (5, .int (nI i))]) C dL_law_1629 (by decide) rfl ?_
  refine z_aload_n C dL_law_1631 3 rfl ?_
  refine z_aload_n C dL_law_1632 1 rfl ?_
  refine z_iload C dL_law_1633 6 rfl ?_
  refine z_iconst (v := nI 1) C (by decide) dL_law_1635 ?_
  refine z_iadd C dL_law_1636 ?_
  refine z_topi (y := nI (i + 1)) (nI_add i 1) ?_
  refine z_sld C hXs hbl hbA (k := i + 1) rfl (by omega) (by omega) dL_law_1637 ?_
  refine z_aload_n C dL_law_1638 1 rfl ?_
  refine z_iload C dL_law_1639 6 rfl ?_
  refine z_iconst (v := nI 2) C (by decide) dL_law_1641 ?_
  refine z_iadd C dL_law_1642 ?_
  refine z_topi (y := nI (i + 2)) (nI_add i 2) ?_
  refine z_sld C hXs hbl hbA (k := i + 2) rfl (by omega) (by omega) dL_law_1643 ?_
  refine z_callVi (q := 36) lX_ok C hml hown hts hK hX (fun sz => z_liftI (σ := fun k => 36 + k) (F := fun v9 => LF ad cI cL cR cB cD (s1626, v9)) (F1 := mF (am ad) cI cL cB) (f1 := mF (am ad) cI cL cB v) (zLm hI) lK_m (fun _ _ => trivial) (fun k hk => LF_m k hk) (fun _ k hk => LF_m k hk) LF_m2 (fun _ _ h => h) (hM sz)) (cwV 2 hts gL_law_X7_commute rfl rfl rfl (by decide +kernel) ⟨Nat.le_of_ble_eq_true rfl, Nat.le_of_ble_eq_true rfl⟩) (by decide) (ci := 7) rfl rfl rfl (st := []) rfl (Nat.le_of_ble_eq_true rfl) dL_law_1644 ⟨by show 100 + 2 * j + 1 + 0 ≤ 601024; omega, by show 100000 + 1006 * j + 6 + 0 ≤ 7293034; omega⟩ (fun r1644 v1644 h1644 => ?_)
  obtain ⟨e1644, hth, hmq⟩ := h1644
  subst e1644
  refine z_istore (L' := [(7, .int (r1644)), (6, .int (nI t)), (0, .ref (b)), (1, .ref (ad 33)), (2, .ref (ad 36)), (3, .ref (ad 34)), (4, .ref (ad 35)), (5, .int (nI i))]) C dL_law_1647 (by decide) rfl ?_
  refine z_aload_n C dL_law_1649 4 rfl ?_
  refine z_callVi (q := 36) lX_ok C hml hown hts hK hX (fun sz => z_liftI (σ := fun k => 36 + k) (F := fun v9 => LF ad cI cL cR cB cD (s1626, v9)) (F1 := mF (am ad) cI cL cB) (f1 := mF (am ad) cI cL cB v1644) (zLm hI) lK_m (fun _ _ => trivial) (fun k hk => LF_m k hk) (fun _ k hk => LF_m k hk) LF_m2 (fun _ _ h => h) (c_X7_thrown l D (am ad) cI cL cB (gI_m hI) v1644 sz)) (cwV 0 hts gL_law_X7_thrown rfl rfl rfl (by decide +kernel) ⟨Nat.le_of_ble_eq_true rfl, Nat.le_of_ble_eq_true rfl⟩) (by decide) (ci := 7) rfl rfl rfl (st := []) rfl (Nat.le_of_ble_eq_true rfl) dL_law_1650 ⟨by show 100 + 2 * j + 1 + 0 + 0 ≤ 601024; omega, by show 100000 + 1006 * j + 6 + 0 + 0 ≤ 7293034; omega⟩ (fun r1650 v1650 h1650 => ?_)
  obtain ⟨e1650, f1650⟩ := h1650
  subst f1650
  subst e1650
  refine z_topi (y := nI t) hth ?_
  refine z_iload C dL_law_1653 1 rfl ?_
  refine z_icmp_eq (tgt := 1660) C dL_law_1655 (by decide) (fun zc1655 => ?_) (fun zc1655 => ?_)
  · skip
    have zn1655 := zeq_t (a := t) (b := t) (by omega) (by omega) zc1655
    refine z_iload C dL_law_1660 1 rfl ?_
    refine z_if_ne (tgt := 1684) C dL_law_1662 (by decide) (fun zc1662 => ?_) (fun zc1662 => ?_)
    · skip
      have zn1662 := z0_f zc1662
      refine z_goto (tgt := 1770) C dL_law_1684 (by decide) ?_
      refine z_iinc (L' := [(5, .int (nI (i + 5))), (7, .int (r1644)), (6, .int (nI t)), (0, .ref (b)), (1, .ref (ad 33)), (2, .ref (ad 36)), (3, .ref (ad 34)), (4, .ref (ad 35))]) C dL_law_1770 7 rfl (nI_5 i) (by decide) rfl ?_
      refine z_goto (tgt := 28) C dL_law_1773 (by decide) ?_
      refine z_sub (L' := [(0, .ref b), (1, .ref (ad 33)), (2, .ref (ad 36)), (3, .ref (ad 34)), (4, .ref (ad 35)), (5, .int (nI (i + 5)))]) [3, 4, 5, 6, 7, 0] rfl ?_
      refine z_widen (k := 100 + 2 * (j + 1)) (q := 100000 + 1006 * (j + 1)) (by omega) (by omega) ?_
      exact hNext s1626 v1650 n2 B2 y2 (JI_of hxq hmq)
    · skip
      have zn1662 := z0_t (by omega) zc1662
      have hzt : t = 0 := zn1662
      refine z_aload_n C dL_law_1665 5 rfl ?_
      refine z_iconst (v := nI 0) C (by decide) dL_law_1666 ?_
      refine z_lald (q := 34) (len := 1) (k := 0) C hK (by decide) rfl 1 rfl rfl (by decide) (by decide) dL_law_1667 ?_
      refine z_topl (y := (if r1644 = 0 then 0 else 1)) (hval hzt) ?_
      refine z_iload C dL_law_1668 0 rfl ?_
      refine z_if_eq (tgt := 1677) C dL_law_1670 (by decide) (fun zc1670 => ?_) (fun zc1670 => ?_)
      · skip
        refine z_lconst (v := 0) C (by decide) dL_law_1677 ?_
        refine z_topl (y := (if r1644 = 0 then 0 else 1)) ((by first | exact (if_pos (by assumption)).symm | (split <;> first | rfl | contradiction))) ?_
        refine z_lcmp C dL_law_1678 ?_
        refine z_topi (y := nI 0) (lgc _) ?_
        refine z_if_eq (tgt := 1684) C dL_law_1679 (by decide) (fun zc1679 => ?_) (fun zc1679 => ?_)
        · skip
          have zn1679 := z0_t (by omega) zc1679
          refine z_goto (tgt := 1770) C dL_law_1684 (by decide) ?_
          refine z_iinc (L' := [(5, .int (nI (i + 5))), (7, .int (r1644)), (6, .int (nI t)), (0, .ref (b)), (1, .ref (ad 33)), (2, .ref (ad 36)), (3, .ref (ad 34)), (4, .ref (ad 35))]) C dL_law_1770 7 rfl (nI_5 i) (by decide) rfl ?_
          refine z_goto (tgt := 28) C dL_law_1773 (by decide) ?_
          refine z_sub (L' := [(0, .ref b), (1, .ref (ad 33)), (2, .ref (ad 36)), (3, .ref (ad 34)), (4, .ref (ad 35)), (5, .int (nI (i + 5)))]) [3, 4, 5, 6, 7, 0] rfl ?_
          refine z_widen (k := 100 + 2 * (j + 1)) (q := 100000 + 1006 * (j + 1)) (by omega) (by omega) ?_
          exact hNext s1626 v1650 n2 B2 y2 (JI_of hxq hmq)
        · skip
          have zn1679 := z0_f zc1679
          exact absurd zn1679 (by decide)
      · skip
        refine z_lconst (v := 1) C (by decide) dL_law_1673 ?_
        refine z_goto (tgt := 1678) C dL_law_1674 (by decide) ?_
        refine z_topl (y := (if r1644 = 0 then 0 else 1)) ((by split <;> first | rfl | contradiction)) ?_
        refine z_lcmp C dL_law_1678 ?_
        refine z_topi (y := nI 0) (lgc _) ?_
        refine z_if_eq (tgt := 1684) C dL_law_1679 (by decide) (fun zc1679 => ?_) (fun zc1679 => ?_)
        · skip
          have zn1679 := z0_t (by omega) zc1679
          refine z_goto (tgt := 1770) C dL_law_1684 (by decide) ?_
          refine z_iinc (L' := [(5, .int (nI (i + 5))), (7, .int (r1644)), (6, .int (nI t)), (0, .ref (b)), (1, .ref (ad 33)), (2, .ref (ad 36)), (3, .ref (ad 34)), (4, .ref (ad 35))]) C dL_law_1770 7 rfl (nI_5 i) (by decide) rfl ?_
          refine z_goto (tgt := 28) C dL_law_1773 (by decide) ?_
          refine z_sub (L' := [(0, .ref b), (1, .ref (ad 33)), (2, .ref (ad 36)), (3, .ref (ad 34)), (4, .ref (ad 35)), (5, .int (nI (i + 5)))]) [3, 4, 5, 6, 7, 0] rfl ?_
          refine z_widen (k := 100 + 2 * (j + 1)) (q := 100000 + 1006 * (j + 1)) (by omega) (by omega) ?_
          exact hNext s1626 v1650 n2 B2 y2 (JI_of hxq hmq)
        · skip
          have zn1679 := z0_f zc1679
          exact absurd zn1679 (by decide)
  · skip
    have zn1655 := zeq_f (a := t) (b := t) zc1655
    exact False.elim (zc1655 rfl)

set_option maxHeartbeats 4000000 in
set_option maxRecDepth 100000 in
theorem sg_conflictCount {p : Program} {l : Launch} {e : Env} {s : State} {m : MethodId} {below : List Frame} {meth : Method} {c : Code} {D : va_G} {ad : Nat → Nat} {cI cL cR cB cD : ClassId} {b Ln : Nat} {xs : Nat → Int32} {Qq : State → Prop} (C0 : LC p l s m c D ad cI cL cR cB cD b Ln xs) {j i : Nat} (hi : i = 5 * j) (hiL : i + 5 ≤ Ln) {u v : xS} {o : Nat → Int64} {d : Nat → UInt64} {n : Nat} {B : Nat → Nat → Nat} {x : Nat} (hJ : JI u v n B x) (hNext : ∀ (s' : hS) (v' : xS) (n' : Nat) (B' : Nat → Nat → Nat) (x' : Nat), JI s'.1 v' n' B' x' → ZZ p l e room_1 s m #[Value.ref b] below meth c D vwCl 48 ad 9 (100 + 2 * (j + 1)) (100000 + 1006 * (j + 1)) Qq (LF ad cI cL cR cB cD (s', v')) [(0, .ref b), (1, .ref (ad 33)), (2, .ref (ad 36)), (3, .ref (ad 34)), (4, .ref (ad 35)), (5, .int (nI (i + 5)))] 28 []) : ZZ p l e room_1 s m #[Value.ref b] below meth c D vwCl 48 ad 9 (100 + 2 * j) (100000 + 1006 * j) Qq (LF ad cI cL cR cB cD ((u, o, d), v)) [(0, .ref b), (1, .ref (ad 33)), (2, .ref (ad 36)), (3, .ref (ad 34)), (4, .ref (ad 35)), (5, .int (nI i))] 1687 [] := by
  obtain ⟨C, hml, hown, hts, hK, hX, hI, hXs, hbl, hbA, hL, hst0⟩ := C0
  obtain ⟨vl, n2, B2, y2, f, hH, hM⟩ := dc_conflictCount l D ad (am ad) cI cL cR cB (gI_n (by decide) hI) (gI_m hI) u v n B x hJ
  refine z_aload_n C dL_law_1687 1 rfl ?_
  refine z_callVi lX_ok C hml hown hts hK hX (fun sz => z_liftI (σ := id) (F := fun u9 => LF ad cI cL cR cB cD ((u9, o, d), v)) (F1 := xF ad cI cL cR) (f1 := xF ad cI cL cR u) (zLx hI) lK_x lX_x8 (fun k hk => LF_x k hk) (fun _ k hk => LF_x k hk) LF_x2 (fun _ _ h => h) (hH sz)) (cwV 0 hts gL_law_X6_conflictCount rfl rfl rfl (by decide +kernel) ⟨Nat.le_of_ble_eq_true rfl, Nat.le_of_ble_eq_true rfl⟩) (by decide) (ci := 6) rfl rfl rfl (st := []) rfl (Nat.le_of_ble_eq_true rfl) dL_law_1688 ⟨by show 100 + 2 * j + 0 ≤ 601024; omega, by show 100000 + 1006 * j + 0 ≤ 7293034; omega⟩ (fun r1688 u1688 h1688 => ?_)
  obtain ⟨e1688, hxq⟩ := h1688
  subst e1688
  refine z_aload_n C dL_law_1691 2 rfl ?_
  refine z_callVi (q := 36) lX_ok C hml hown hts hK hX (fun sz => z_liftI (σ := fun k => 36 + k) (F := fun v9 => LF ad cI cL cR cB cD ((u1688, o, d), v9)) (F1 := mF (am ad) cI cL cB) (f1 := mF (am ad) cI cL cB v) (zLm hI) lK_m (fun _ _ => trivial) (fun k hk => LF_m k hk) (fun _ k hk => LF_m k hk) LF_m2 (fun _ _ h => h) (hM sz)) (cwV 0 hts gL_law_X7_conflictCount rfl rfl rfl (by decide +kernel) ⟨Nat.le_of_ble_eq_true rfl, Nat.le_of_ble_eq_true rfl⟩) (by decide) (ci := 7) rfl rfl rfl (st := [.int (r1688)]) rfl (Nat.le_of_ble_eq_true rfl) dL_law_1692 ⟨by show 100 + 2 * j + 0 + 0 ≤ 601024; omega, by show 100000 + 1006 * j + 0 + 0 ≤ 7293034; omega⟩ (fun r1692 v1692 h1692 => ?_)
  obtain ⟨e1692, hth, hmq⟩ := h1692
  subst e1692
  refine z_icmp_eq (tgt := 1770) C dL_law_1695 (by decide) (fun zc1695 => ?_) (fun zc1695 => ?_)
  · skip
    refine z_iinc (L' := [(5, .int (nI (i + 5))), (0, .ref (b)), (1, .ref (ad 33)), (2, .ref (ad 36)), (3, .ref (ad 34)), (4, .ref (ad 35))]) C dL_law_1770 5 rfl (nI_5 i) (by decide) rfl ?_
    refine z_goto (tgt := 28) C dL_law_1773 (by decide) ?_
    refine z_sub (L' := [(0, .ref b), (1, .ref (ad 33)), (2, .ref (ad 36)), (3, .ref (ad 34)), (4, .ref (ad 35)), (5, .int (nI (i + 5)))]) [1, 2, 3, 4, 5, 0] rfl ?_
    refine z_widen (k := 100 + 2 * (j + 1)) (q := 100000 + 1006 * (j + 1)) (by omega) (by omega) ?_
    exact hNext (u1688, o, d) v1692 n2 B2 y2 (JI_of hxq hmq)
  · skip
    exact False.elim (zc1695 rfl)

set_option maxHeartbeats 4000000 in
set_option maxRecDepth 100000 in
theorem sg_conflict {p : Program} {l : Launch} {e : Env} {s : State} {m : MethodId} {below : List Frame} {meth : Method} {c : Code} {D : va_G} {ad : Nat → Nat} {cI cL cR cB cD : ClassId} {b Ln : Nat} {xs : Nat → Int32} {Qq : State → Prop} (C0 : LC p l s m c D ad cI cL cR cB cD b Ln xs) {j i : Nat} (hi : i = 5 * j) (hiL : i + 5 ≤ Ln) {u v : xS} {o : Nat → Int64} {d : Nat → UInt64} {n : Nat} {B : Nat → Nat → Nat} {x : Nat} (hJ : JI u v n B x) (hNext : ∀ (s' : hS) (v' : xS) (n' : Nat) (B' : Nat → Nat → Nat) (x' : Nat), JI s'.1 v' n' B' x' → ZZ p l e room_1 s m #[Value.ref b] below meth c D vwCl 48 ad 9 (100 + 2 * (j + 1)) (100000 + 1006 * (j + 1)) Qq (LF ad cI cL cR cB cD (s', v')) [(0, .ref b), (1, .ref (ad 33)), (2, .ref (ad 36)), (3, .ref (ad 34)), (4, .ref (ad 35)), (5, .int (nI (i + 5)))] 28 []) : ZZ p l e room_1 s m #[Value.ref b] below meth c D vwCl 48 ad 9 (100 + 2 * j) (100000 + 1006 * j) Qq (LF ad cI cL cR cB cD ((u, o, d), v)) [(0, .ref b), (1, .ref (ad 33)), (2, .ref (ad 36)), (3, .ref (ad 34)), (4, .ref (ad 35)), (5, .int (nI i))] 1700 [] := by
  obtain ⟨C, hml, hown, hts, hK, hX, hI, hXs, hbl, hbA, hL, hst0⟩ := C0
  obtain ⟨t, vl, n2, B2, y2, f, ht3, hH, hM⟩ := lc_conflict l hst0 D ad (am ad) cI cL cR cB cD (gI_n (by decide) hI) (gI_m hI) u v o d n B x hJ (xs (i + 1))
  refine z_aload_n C dL_law_1700 1 rfl ?_
  refine z_aload_n C dL_law_1701 0 rfl ?_
  refine z_iload C dL_law_1702 5 rfl ?_
  refine z_iconst (v := nI 1) C (by decide) dL_law_1704 ?_
  refine z_iadd C dL_law_1705 ?_
  refine z_topi (y := nI (i + 1)) (nI_add i 1) ?_
  refine z_sld C hXs hbl hbA (k := i + 1) rfl (by omega) (by omega) dL_law_1706 ?_
  refine z_aload_n C dL_law_1707 3 rfl ?_
  refine z_callWi lX_ok C hml hown hts hK hX (fun sz => z_liftI (σ := id) (F := fun s9 => LF ad cI cL cR cB cD (s9, v)) (F1 := hF ad cI cL cR cD) (f1 := hF ad cI cL cR cD (u, o, d)) (zLh hI) (fun _ h => h) lX_h (fun k hk => LF_h k hk) (fun _ k hk => LF_h k hk) LF_h2 (fun _ _ h => h) (hH sz)) (vx_cwSW 3 hts gL_law_L_conflict rfl rfl rfl (by decide +kernel) ⟨Nat.le_of_ble_eq_true rfl, Nat.le_of_ble_eq_true rfl⟩) rfl (st := []) rfl (Nat.le_of_ble_eq_true rfl) dL_law_1708 ⟨by show 100 + 2 * j + 1 ≤ 601024; omega, by show 100000 + 1006 * j + 6 ≤ 7293034; omega⟩ (fun r1708 s1708 h1708 => ?_)
  obtain ⟨e1708, hval, hxq⟩ := h1708
  subst e1708
  refine z_istore (L' := [(6, .int (nI t)), (0, .ref (b)), (1, .ref (ad 33)), (2, .ref (ad 36)), (3, .ref (ad 34)), (4, .ref (ad 35)), (5, .int (nI i))]) C dL_law_1711 (by decide) rfl ?_
  refine z_aload_n C dL_law_1713 3 rfl ?_
  refine z_aload_n C dL_law_1714 1 rfl ?_
  refine z_iload C dL_law_1715 6 rfl ?_
  refine z_iconst (v := nI 1) C (by decide) dL_law_1717 ?_
  refine z_iadd C dL_law_1718 ?_
  refine z_topi (y := nI (i + 1)) (nI_add i 1) ?_
  refine z_sld C hXs hbl hbA (k := i + 1) rfl (by omega) (by omega) dL_law_1719 ?_
  refine z_callVi (q := 36) lX_ok C hml hown hts hK hX (fun sz => z_liftI (σ := fun k => 36 + k) (F := fun v9 => LF ad cI cL cR cB cD (s1708, v9)) (F1 := mF (am ad) cI cL cB) (f1 := mF (am ad) cI cL cB v) (zLm hI) lK_m (fun _ _ => trivial) (fun k hk => LF_m k hk) (fun _ k hk => LF_m k hk) LF_m2 (fun _ _ h => h) (hM sz)) (cwV 1 hts gL_law_X7_conflict rfl rfl rfl (by decide +kernel) ⟨Nat.le_of_ble_eq_true rfl, Nat.le_of_ble_eq_true rfl⟩) (by decide) (ci := 7) rfl rfl rfl (st := []) rfl (Nat.le_of_ble_eq_true rfl) dL_law_1720 ⟨by show 100 + 2 * j + 1 + 0 ≤ 601024; omega, by show 100000 + 1006 * j + 6 + 0 ≤ 7293034; omega⟩ (fun r1720 v1720 h1720 => ?_)
  obtain ⟨e1720, hth, hmq⟩ := h1720
  subst e1720
  refine z_istore (L' := [(7, .int (r1720)), (6, .int (nI t)), (0, .ref (b)), (1, .ref (ad 33)), (2, .ref (ad 36)), (3, .ref (ad 34)), (4, .ref (ad 35)), (5, .int (nI i))]) C dL_law_1723 (by decide) rfl ?_
  refine z_aload_n C dL_law_1725 4 rfl ?_
  refine z_callVi (q := 36) lX_ok C hml hown hts hK hX (fun sz => z_liftI (σ := fun k => 36 + k) (F := fun v9 => LF ad cI cL cR cB cD (s1708, v9)) (F1 := mF (am ad) cI cL cB) (f1 := mF (am ad) cI cL cB v1720) (zLm hI) lK_m (fun _ _ => trivial) (fun k hk => LF_m k hk) (fun _ k hk => LF_m k hk) LF_m2 (fun _ _ h => h) (c_X7_thrown l D (am ad) cI cL cB (gI_m hI) v1720 sz)) (cwV 0 hts gL_law_X7_thrown rfl rfl rfl (by decide +kernel) ⟨Nat.le_of_ble_eq_true rfl, Nat.le_of_ble_eq_true rfl⟩) (by decide) (ci := 7) rfl rfl rfl (st := []) rfl (Nat.le_of_ble_eq_true rfl) dL_law_1726 ⟨by show 100 + 2 * j + 1 + 0 + 0 ≤ 601024; omega, by show 100000 + 1006 * j + 6 + 0 + 0 ≤ 7293034; omega⟩ (fun r1726 v1726 h1726 => ?_)
  obtain ⟨e1726, f1726⟩ := h1726
  subst f1726
  subst e1726
  refine z_topi (y := nI t) hth ?_
  refine z_iload C dL_law_1729 1 rfl ?_
  refine z_icmp_eq (tgt := 1736) C dL_law_1731 (by decide) (fun zc1731 => ?_) (fun zc1731 => ?_)
  · skip
    have zn1731 := zeq_t (a := t) (b := t) (by omega) (by omega) zc1731
    refine z_iload C dL_law_1736 1 rfl ?_
    refine z_if_ne (tgt := 1753) C dL_law_1738 (by decide) (fun zc1738 => ?_) (fun zc1738 => ?_)
    · skip
      have zn1738 := z0_f zc1738
      refine z_goto (tgt := 1770) C dL_law_1753 (by decide) ?_
      refine z_iinc (L' := [(5, .int (nI (i + 5))), (7, .int (r1720)), (6, .int (nI t)), (0, .ref (b)), (1, .ref (ad 33)), (2, .ref (ad 36)), (3, .ref (ad 34)), (4, .ref (ad 35))]) C dL_law_1770 7 rfl (nI_5 i) (by decide) rfl ?_
      refine z_goto (tgt := 28) C dL_law_1773 (by decide) ?_
      refine z_sub (L' := [(0, .ref b), (1, .ref (ad 33)), (2, .ref (ad 36)), (3, .ref (ad 34)), (4, .ref (ad 35)), (5, .int (nI (i + 5)))]) [3, 4, 5, 6, 7, 0] rfl ?_
      refine z_widen (k := 100 + 2 * (j + 1)) (q := 100000 + 1006 * (j + 1)) (by omega) (by omega) ?_
      exact hNext s1708 v1726 n2 B2 y2 (JI_of hxq hmq)
    · skip
      have zn1738 := z0_t (by omega) zc1738
      have hzt : t = 0 := zn1738
      refine z_aload_n C dL_law_1741 5 rfl ?_
      refine z_iconst (v := nI 0) C (by decide) dL_law_1742 ?_
      refine z_lald (q := 34) (len := 1) (k := 0) C hK (by decide) rfl 1 rfl rfl (by decide) (by decide) dL_law_1743 ?_
      refine z_topl (y := r1720.toInt64) (hval hzt) ?_
      refine z_iload C dL_law_1744 0 rfl ?_
      refine z_i2l C rfl dL_law_1746 ?_
      refine z_lcmp C dL_law_1747 ?_
      refine z_topi (y := nI 0) (lgc _) ?_
      refine z_if_eq (tgt := 1753) C dL_law_1748 (by decide) (fun zc1748 => ?_) (fun zc1748 => ?_)
      · skip
        have zn1748 := z0_t (by omega) zc1748
        refine z_goto (tgt := 1770) C dL_law_1753 (by decide) ?_
        refine z_iinc (L' := [(5, .int (nI (i + 5))), (7, .int (r1720)), (6, .int (nI t)), (0, .ref (b)), (1, .ref (ad 33)), (2, .ref (ad 36)), (3, .ref (ad 34)), (4, .ref (ad 35))]) C dL_law_1770 7 rfl (nI_5 i) (by decide) rfl ?_
        refine z_goto (tgt := 28) C dL_law_1773 (by decide) ?_
        refine z_sub (L' := [(0, .ref b), (1, .ref (ad 33)), (2, .ref (ad 36)), (3, .ref (ad 34)), (4, .ref (ad 35)), (5, .int (nI (i + 5)))]) [3, 4, 5, 6, 7, 0] rfl ?_
        refine z_widen (k := 100 + 2 * (j + 1)) (q := 100000 + 1006 * (j + 1)) (by omega) (by omega) ?_
        exact hNext s1708 v1726 n2 B2 y2 (JI_of hxq hmq)
      · skip
        have zn1748 := z0_f zc1748
        exact absurd zn1748 (by decide)
  · skip
    have zn1731 := zeq_f (a := t) (b := t) zc1731
    exact False.elim (zc1731 rfl)

set_option maxHeartbeats 4000000 in
set_option maxRecDepth 100000 in
theorem sg_digest {p : Program} {l : Launch} {e : Env} {s : State} {m : MethodId} {below : List Frame} {meth : Method} {c : Code} {D : va_G} {ad : Nat → Nat} {cI cL cR cB cD : ClassId} {b Ln : Nat} {xs : Nat → Int32} {Qq : State → Prop} (C0 : LC p l s m c D ad cI cL cR cB cD b Ln xs) {j i : Nat} (hi : i = 5 * j) (hiL : i + 5 ≤ Ln) {u v : xS} {o : Nat → Int64} {d : Nat → UInt64} {n : Nat} {B : Nat → Nat → Nat} {x : Nat} (hJ : JI u v n B x) (hNext : ∀ (s' : hS) (v' : xS) (n' : Nat) (B' : Nat → Nat → Nat) (x' : Nat), JI s'.1 v' n' B' x' → ZZ p l e room_1 s m #[Value.ref b] below meth c D vwCl 48 ad 9 (100 + 2 * (j + 1)) (100000 + 1006 * (j + 1)) Qq (LF ad cI cL cR cB cD (s', v')) [(0, .ref b), (1, .ref (ad 33)), (2, .ref (ad 36)), (3, .ref (ad 34)), (4, .ref (ad 35)), (5, .int (nI (i + 5)))] 28 []) : ZZ p l e room_1 s m #[Value.ref b] below meth c D vwCl 48 ad 9 (100 + 2 * j) (100000 + 1006 * j) Qq (LF ad cI cL cR cB cD ((u, o, d), v)) [(0, .ref b), (1, .ref (ad 33)), (2, .ref (ad 36)), (3, .ref (ad 34)), (4, .ref (ad 35)), (5, .int (nI i))] 1756 [] := by
  obtain ⟨C, hml, hown, hts, hK, hX, hI, hXs, hbl, hbA, hL, hst0⟩ := C0
  obtain ⟨vl, n2, B2, y2, f, hH, hM⟩ := dc_digest l D ad (am ad) cI cL cR cB (gI_n (by decide) hI) (gI_m hI) u v n B x hJ
  refine z_aload_n C dL_law_1756 1 rfl ?_
  refine z_callVl lX_ok C hml hown hts hK hX (fun sz => z_liftL (σ := id) (F := fun u9 => LF ad cI cL cR cB cD ((u9, o, d), v)) (F1 := xF ad cI cL cR) (f1 := xF ad cI cL cR u) (zLx hI) lK_x lX_x8 (fun k hk => LF_x k hk) (fun _ k hk => LF_x k hk) LF_x2 (fun _ _ h => h) (hH sz)) (cwV 0 hts gL_law_X6_digest rfl rfl rfl (by decide +kernel) ⟨Nat.le_of_ble_eq_true rfl, Nat.le_of_ble_eq_true rfl⟩) (by decide) (ci := 6) rfl rfl rfl (st := []) rfl (Nat.le_of_ble_eq_true rfl) dL_law_1757 ⟨by show 100 + 2 * j + 0 ≤ 601024; omega, by show 100000 + 1006 * j + 0 ≤ 7293034; omega⟩ (fun r1757 u1757 h1757 => ?_)
  obtain ⟨e1757, hxq⟩ := h1757
  subst e1757
  refine z_aload_n C dL_law_1760 2 rfl ?_
  refine z_callVl (q := 36) lX_ok C hml hown hts hK hX (fun sz => z_liftL (σ := fun k => 36 + k) (F := fun v9 => LF ad cI cL cR cB cD ((u1757, o, d), v9)) (F1 := mF (am ad) cI cL cB) (f1 := mF (am ad) cI cL cB v) (zLm hI) lK_m (fun _ _ => trivial) (fun k hk => LF_m k hk) (fun _ k hk => LF_m k hk) LF_m2 (fun _ _ h => h) (hM sz)) (cwV 0 hts gL_law_X7_digest rfl rfl rfl (by decide +kernel) ⟨Nat.le_of_ble_eq_true rfl, Nat.le_of_ble_eq_true rfl⟩) (by decide) (ci := 7) rfl rfl rfl (st := [.long (r1757)]) rfl (Nat.le_of_ble_eq_true rfl) dL_law_1761 ⟨by show 100 + 2 * j + 0 + 0 ≤ 601024; omega, by show 100000 + 1006 * j + 0 + 0 ≤ 7293034; omega⟩ (fun r1761 v1761 h1761 => ?_)
  obtain ⟨e1761, hth, hmq⟩ := h1761
  subst e1761
  refine z_lcmp C dL_law_1764 ?_
  refine z_topi (y := nI 0) (lgc _) ?_
  refine z_if_eq (tgt := 1770) C dL_law_1765 (by decide) (fun zc1765 => ?_) (fun zc1765 => ?_)
  · skip
    have zn1765 := z0_t (by omega) zc1765
    refine z_iinc (L' := [(5, .int (nI (i + 5))), (0, .ref (b)), (1, .ref (ad 33)), (2, .ref (ad 36)), (3, .ref (ad 34)), (4, .ref (ad 35))]) C dL_law_1770 5 rfl (nI_5 i) (by decide) rfl ?_
    refine z_goto (tgt := 28) C dL_law_1773 (by decide) ?_
    refine z_sub (L' := [(0, .ref b), (1, .ref (ad 33)), (2, .ref (ad 36)), (3, .ref (ad 34)), (4, .ref (ad 35)), (5, .int (nI (i + 5)))]) [1, 2, 3, 4, 5, 0] rfl ?_
    refine z_widen (k := 100 + 2 * (j + 1)) (q := 100000 + 1006 * (j + 1)) (by omega) (by omega) ?_
    exact hNext (u1757, o, d) v1761 n2 B2 y2 (JI_of hxq hmq)
  · skip
    have zn1765 := z0_f zc1765
    exact absurd zn1765 (by decide)
