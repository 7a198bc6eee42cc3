set_option maxHeartbeats 4000000 in
set_option maxRecDepth 100000 in
/-- fill -/
theorem lq_c1 (p : Program) (l : Launch) (e : Env) (s : State) (m : MethodId) (below : List Frame) (meth : Method) (c : Code) (sb L : Nat) (xs : Nat → Int32) (dC : Nat → ClassId) (dI : Nat → Nat → Nat) (x a b o ca cb ao : Nat) (cA : ClassId) (A : Nat → Prop) (C9 : lq_F p l e s m below meth c sb L xs dC dI x a b o ca cb ao cA A) (ix cells slots : Nat) (hi : ix + 7 ≤ L) (hc1 : cells + 1 ≤ 601024) (hs1 : slots + 6 ≤ 7293034) (cont : lq_N p l e s m below meth c sb L xs dC dI x a b o ca cb ao cA A ix (cells + 1) (slots + 6) 1247) : lq_N p l e s m below meth c sb L xs dC dI x a b o ca cb ao cA A ix cells slots 200 := by
  intro n k f g w1 w4 z1 z2 f2 g2 ow H locs ls hR hP hD hS hl
  obtain ⟨hx, hb, hml, hown, hW, hst, hA, hX, hbl, hbA, hZ, hK, hL⟩ := id C9
  have hn6 := hR.1
  have hk4 := hR.2.1
  obtain ⟨p1, e1⟩ : ∃ z9 : Int32, xs (ix + 1) = z9 := ⟨_, rfl⟩
  obtain ⟨p2, e2⟩ : ∃ z9 : Int32, xs (ix + 2) = z9 := ⟨_, rfl⟩
  obtain ⟨p3, e3⟩ : ∃ z9 : Int32, xs (ix + 3) = z9 := ⟨_, rfl⟩
  obtain ⟨p4, e4⟩ : ∃ z9 : Int32, xs (ix + 4) = z9 := ⟨_, rfl⟩
  obtain ⟨p5, e5⟩ : ∃ z9 : Int32, xs (ix + 5) = z9 := ⟨_, rfl⟩
  by_cases hq : p1 < nI 1 ∨ nI 200 < p1
  · refine lv_aload_n hx hb qd_L_law_200 rfl (lv_at hl 2 rfl) ?_
    refine lv_aload_n hx hb qd_L_law_201 rfl (lv_at hl 1 rfl) ?_
    refine lv_iload hx hb qd_L_law_202 (lv_at hl 0 rfl) ?_
    refine lv_iconst (v := nI 1) hx hb qd_L_law_204 (by decide +kernel) ?_
    refine lv_iadd hx hb qd_L_law_205 ?_
    refine tq_ti (y := nI (ix + 1)) (nI_add _ _) ?_
    refine tq_sld hx hb hX hbl hbA hS (j := ix + 1) (v := p1) (by omega) (by omega) e1 qd_L_law_206 ?_
    refine lv_aload_n hx hb qd_L_law_207 rfl (lv_at hl 1 rfl) ?_
    refine lv_iload hx hb qd_L_law_208 (lv_at hl 0 rfl) ?_
    refine lv_iconst (v := nI 2) hx hb qd_L_law_210 (by decide +kernel) ?_
    refine lv_iadd hx hb qd_L_law_211 ?_
    refine tq_ti (y := nI (ix + 2)) (nI_add _ _) ?_
    refine tq_sld hx hb hX hbl hbA hS (j := ix + 2) (v := p2) (by omega) (by omega) e2 qd_L_law_212 ?_
    refine lv_i2l (v := p2.toInt64) hx hb qd_L_law_213 rfl ?_
    refine lv_bipush (v := nI 32) hx hb qd_L_law_214 (by decide +kernel) ?_
    refine lv_lshl (v := p2.toInt64 <<< ((nI 32).toInt64 &&& 63)) hx hb qd_L_law_216 rfl ?_
    refine lv_aload_n hx hb qd_L_law_217 rfl (lv_at hl 1 rfl) ?_
    refine lv_iload hx hb qd_L_law_218 (lv_at hl 0 rfl) ?_
    refine lv_iconst (v := nI 3) hx hb qd_L_law_220 (by decide +kernel) ?_
    refine lv_iadd hx hb qd_L_law_221 ?_
    refine tq_ti (y := nI (ix + 3)) (nI_add _ _) ?_
    refine tq_sld hx hb hX hbl hbA hS (j := ix + 3) (v := p3) (by omega) (by omega) e3 qd_L_law_222 ?_
    refine lv_i2l (v := p3.toInt64) hx hb qd_L_law_223 rfl ?_
    refine lv_ldc2 (v := (4294967295)) hx hb hown (hW _ qm_407) qd_L_law_224 ?_
    refine lv_land hx hb qd_L_law_227 ?_
    refine lv_lor hx hb qd_L_law_228 ?_
    refine tq_tl (y := tq_lg p2 p3) (rfl) ?_
    refine lv_aload_n hx hb qd_L_law_229 rfl (lv_at hl 1 rfl) ?_
    refine lv_iload hx hb qd_L_law_230 (lv_at hl 0 rfl) ?_
    refine lv_iconst (v := nI 4) hx hb qd_L_law_232 (by decide +kernel) ?_
    refine lv_iadd hx hb qd_L_law_233 ?_
    refine tq_ti (y := nI (ix + 4)) (nI_add _ _) ?_
    refine tq_sld hx hb hX hbl hbA hS (j := ix + 4) (v := p4) (by omega) (by omega) e4 qd_L_law_234 ?_
    refine lv_i2l (v := p4.toInt64) hx hb qd_L_law_235 rfl ?_
    refine lv_bipush (v := nI 32) hx hb qd_L_law_236 (by decide +kernel) ?_
    refine lv_lshl (v := p4.toInt64 <<< ((nI 32).toInt64 &&& 63)) hx hb qd_L_law_238 rfl ?_
    refine lv_aload_n hx hb qd_L_law_239 rfl (lv_at hl 1 rfl) ?_
    refine lv_iload hx hb qd_L_law_240 (lv_at hl 0 rfl) ?_
    refine lv_iconst (v := nI 5) hx hb qd_L_law_242 (by decide +kernel) ?_
    refine lv_iadd hx hb qd_L_law_243 ?_
    refine tq_ti (y := nI (ix + 5)) (nI_add _ _) ?_
    refine tq_sld hx hb hX hbl hbA hS (j := ix + 5) (v := p5) (by omega) (by omega) e5 qd_L_law_244 ?_
    refine lv_i2l (v := p5.toInt64) hx hb qd_L_law_245 rfl ?_
    refine lv_ldc2 (v := (4294967295)) hx hb hown (hW _ qm_407) qd_L_law_246 ?_
    refine lv_land hx hb qd_L_law_249 ?_
    refine lv_lor hx hb qd_L_law_250 ?_
    refine tq_tl (y := tq_lg p4 p5) (rfl) ?_
    refine lv_aload_n hx hb qd_L_law_251 rfl (lv_at hl 4 rfl) ?_
    have hPc := hP.sub (ws' := [(x, .inr (0, [.ref a, .int (nI n), .ref b, .int (nI k)])), (a, .inl (cA, (600, .inr (.inl f)))), (b, .inl (cA, (40, .inr (.inl g)))), (ao, .inl (cA, (1, .inr (.inl ow))))]) [0, 1, 2, 6] rfl
    have hDc := hD.sub (ws' := [(x, .inr (0, [.ref a, .int (nI n), .ref b, .int (nI k)])), (a, .inl (cA, (600, .inr (.inl f)))), (b, .inl (cA, (40, .inr (.inl g)))), (ao, .inl (cA, (1, .inr (.inl ow))))]) [0, 1, 2, 6] (by decide) rfl
    have hKc := hK.sub (tys' := [(cA, .long)]) [0] rfl
    have hFc := va_free (wc := [(x, .inr (0, [.ref a, .int (nI n), .ref b, .int (nI k)])), (a, .inl (cA, (600, .inr (.inl f)))), (b, .inl (cA, (40, .inr (.inl g)))), (ao, .inl (cA, (1, .inr (.inl ow))))]) hD hS hA [0, 1, 2, 6] rfl
    refine va_calli (vx_runSW (As := [.ref x, .int p1, .long (tq_lg p2 p3), .long (tq_lg p4 p5), .ref ao]) (rest := []) ⟨hx, hb, hml, hown, hW⟩ (cx_L_fill l dC dI x a b cA n k f g ao ow H.size hst p1 (tq_lg p2 p3) (tq_lg p4 p5) hq) (vx_cwSW 5 hW (tq_gSa qm_154 qm_155 qm_0 qm_156) rfl rfl rfl (by decide +kernel) ⟨Nat.le_of_ble_eq_true rfl, Nat.le_of_ble_eq_true rfl⟩) ⟨tq_b3, fun U hU hW9 => ⟨rfl, ⟨by rw [hU], by rw [hU]; exact hPc, va_K.moved hW9.alike hKc, hDc.weaken (fun _ _ _ _ => trivial)⟩, hZ.on hS hU hW9 hFc⟩⟩ rfl rfl hl.1 rfl (lv_room (Nat.le_of_ble_eq_true rfl)) qd_L_law_252 ⟨by show _ ≤ 601024; omega, by show _ ≤ 7293034; omega⟩) hS (fun q _ h => hFc q h) hFc (fun r9 u t9 H1 locs ht9 hvm hw hB hz1 hk1 hS => ?_)
    obtain ⟨hP1, hK1, hD1⟩ := hB
    rw [ht9] at hP1
    obtain ⟨hP, hD⟩ := va_join (wr := [(o, .inr (1, [.int w1, .int (nI n), .int (nI k), .int w4, .ref ca, .ref cb, .long z1, .long z2])), (ca, .inl (cA, (600, .inr (.inl f2)))), (cb, .inl (cA, (40, .inr (.inl g2))))]) (w1 := [(x, .inr (0, [.ref a, .int (nI n), .ref b, .int (nI k)])), (a, .inl (cA, (600, .inr (.inl f)))), (b, .inl (cA, (40, .inr (.inl g)))), (ao, .inl (cA, (1, .inr (.inl ow))))]) hP hD [0, 1, 2, 6] [3, 4, 5] rfl rfl (by decide) (by decide) hk1 hFc hP1 hD1
    generalize H1 = H at hP hS ⊢
    have hP : va_P (dC, dI) tq_cl [(o, .inr (1, [.int w1, .int (nI n), .int (nI k), .int w4, .ref ca, .ref cb, .long z1, .long z2])), (ca, .inl (cA, (600, .inr (.inl f2)))), (cb, .inl (cA, (40, .inr (.inl g2)))), (x, .inr (0, [.ref a, .int (nI n), .ref b, .int (nI k)])), (a, .inl (cA, (600, .inr (.inl f)))), (b, .inl (cA, (40, .inr (.inl g)))), (ao, .inl (cA, (1, .inr (.inl ow))))] H := hP
    have hD : va_D A [(o, .inr (1, [.int w1, .int (nI n), .int (nI k), .int w4, .ref ca, .ref cb, .long z1, .long z2])), (ca, .inl (cA, (600, .inr (.inl f2)))), (cb, .inl (cA, (40, .inr (.inl g2)))), (x, .inr (0, [.ref a, .int (nI n), .ref b, .int (nI k)])), (a, .inl (cA, (600, .inr (.inl f)))), (b, .inl (cA, (40, .inr (.inl g)))), (ao, .inl (cA, (1, .inr (.inl ow))))] := hD
    have hw : r9 = nI 1 := hw
    subst hw
    refine lv_istore (lv' := [(5, .int (nI 1)), (4, .int (nI ix)), (0, .ref sb), (1, .ref x), (2, .ref o), (3, .ref ao)]) hx hb qd_L_law_255 hl (by decide) rfl (fun ls hl => ?_)
    refine lv_aload_n hx hb qd_L_law_257 rfl (lv_at hl 4 rfl) ?_
    refine lv_aload_n hx hb qd_L_law_258 rfl (lv_at hl 2 rfl) ?_
    refine lv_iload hx hb qd_L_law_259 (lv_at hl 1 rfl) ?_
    refine lv_iconst (v := nI 1) hx hb qd_L_law_261 (by decide +kernel) ?_
    refine lv_iadd hx hb qd_L_law_262 ?_
    refine tq_ti (y := nI (ix + 1)) (nI_add _ _) ?_
    refine tq_sld hx hb hX hbl hbA hS (j := ix + 1) (v := p1) (by omega) (by omega) e1 qd_L_law_263 ?_
    refine lv_aload_n hx hb qd_L_law_264 rfl (lv_at hl 2 rfl) ?_
    refine lv_iload hx hb qd_L_law_265 (lv_at hl 1 rfl) ?_
    refine lv_iconst (v := nI 2) hx hb qd_L_law_267 (by decide +kernel) ?_
    refine lv_iadd hx hb qd_L_law_268 ?_
    refine tq_ti (y := nI (ix + 2)) (nI_add _ _) ?_
    refine tq_sld hx hb hX hbl hbA hS (j := ix + 2) (v := p2) (by omega) (by omega) e2 qd_L_law_269 ?_
    refine lv_i2l (v := p2.toInt64) hx hb qd_L_law_270 rfl ?_
    refine lv_bipush (v := nI 32) hx hb qd_L_law_271 (by decide +kernel) ?_
    refine lv_lshl (v := p2.toInt64 <<< ((nI 32).toInt64 &&& 63)) hx hb qd_L_law_273 rfl ?_
    refine lv_aload_n hx hb qd_L_law_274 rfl (lv_at hl 2 rfl) ?_
    refine lv_iload hx hb qd_L_law_275 (lv_at hl 1 rfl) ?_
    refine lv_iconst (v := nI 3) hx hb qd_L_law_277 (by decide +kernel) ?_
    refine lv_iadd hx hb qd_L_law_278 ?_
    refine tq_ti (y := nI (ix + 3)) (nI_add _ _) ?_
    refine tq_sld hx hb hX hbl hbA hS (j := ix + 3) (v := p3) (by omega) (by omega) e3 qd_L_law_279 ?_
    refine lv_i2l (v := p3.toInt64) hx hb qd_L_law_280 rfl ?_
    refine lv_ldc2 (v := (4294967295)) hx hb hown (hW _ qm_407) qd_L_law_281 ?_
    refine lv_land hx hb qd_L_law_284 ?_
    refine lv_lor hx hb qd_L_law_285 ?_
    refine tq_tl (y := tq_lg p2 p3) (rfl) ?_
    refine lv_aload_n hx hb qd_L_law_286 rfl (lv_at hl 2 rfl) ?_
    refine lv_iload hx hb qd_L_law_287 (lv_at hl 1 rfl) ?_
    refine lv_iconst (v := nI 4) hx hb qd_L_law_289 (by decide +kernel) ?_
    refine lv_iadd hx hb qd_L_law_290 ?_
    refine tq_ti (y := nI (ix + 4)) (nI_add _ _) ?_
    refine tq_sld hx hb hX hbl hbA hS (j := ix + 4) (v := p4) (by omega) (by omega) e4 qd_L_law_291 ?_
    refine lv_i2l (v := p4.toInt64) hx hb qd_L_law_292 rfl ?_
    refine lv_bipush (v := nI 32) hx hb qd_L_law_293 (by decide +kernel) ?_
    refine lv_lshl (v := p4.toInt64 <<< ((nI 32).toInt64 &&& 63)) hx hb qd_L_law_295 rfl ?_
    refine lv_aload_n hx hb qd_L_law_296 rfl (lv_at hl 2 rfl) ?_
    refine lv_iload hx hb qd_L_law_297 (lv_at hl 1 rfl) ?_
    refine lv_iconst (v := nI 5) hx hb qd_L_law_299 (by decide +kernel) ?_
    refine lv_iadd hx hb qd_L_law_300 ?_
    refine tq_ti (y := nI (ix + 5)) (nI_add _ _) ?_
    refine tq_sld hx hb hX hbl hbA hS (j := ix + 5) (v := p5) (by omega) (by omega) e5 qd_L_law_301 ?_
    refine lv_i2l (v := p5.toInt64) hx hb qd_L_law_302 rfl ?_
    refine lv_ldc2 (v := (4294967295)) hx hb hown (hW _ qm_407) qd_L_law_303 ?_
    refine lv_land hx hb qd_L_law_306 ?_
    refine lv_lor hx hb qd_L_law_307 ?_
    refine tq_tl (y := tq_lg p4 p5) (rfl) ?_
    have hPc := hP.sub (ws' := [(o, .inr (1, [.int w1, .int (nI n), .int (nI k), .int w4, .ref ca, .ref cb, .long z1, .long z2])), (ca, .inl (cA, (600, .inr (.inl f2)))), (cb, .inl (cA, (40, .inr (.inl g2))))]) [0, 1, 2] rfl
    have hDc := hD.sub (ws' := [(o, .inr (1, [.int w1, .int (nI n), .int (nI k), .int w4, .ref ca, .ref cb, .long z1, .long z2])), (ca, .inl (cA, (600, .inr (.inl f2)))), (cb, .inl (cA, (40, .inr (.inl g2))))]) [0, 1, 2] (by decide) rfl
    have hKc := hK.sub (tys' := [(cA, .long)]) [0] rfl
    have hFc := va_free (wc := [(o, .inr (1, [.int w1, .int (nI n), .int (nI k), .int w4, .ref ca, .ref cb, .long z1, .long z2])), (ca, .inl (cA, (600, .inr (.inl f2)))), (cb, .inl (cA, (40, .inr (.inl g2))))]) hD hS hA [0, 1, 2] rfl
    refine va_calli (va_runV (As := [.int p1, .long (tq_lg p2 p3), .long (tq_lg p4 p5)]) (rest := []) ⟨hx, hb, hml, hown, hW⟩ (ct_M_fill_no l dC dI o ca cb cA w1 n k w4 z1 z2 f2 g2 H.size p1 (tq_lg p2 p3) (tq_lg p4 p5) hq) (cwV 3 hW (tq_gV qm_314 qm_315 qm_316 qm_2 qm_317) rfl rfl rfl (by decide +kernel) ⟨Nat.le_of_ble_eq_true rfl, Nat.le_of_ble_eq_true rfl⟩) ⟨tq_b2, va_recv hKc hPc (ci := 1) (q0 := 0) rfl rfl, fun U hU hW9 => ⟨rfl, by rw [hU], by rw [hU]; exact hPc, va_K.moved hW9.alike hKc, hDc.weaken (fun _ _ _ _ => trivial)⟩⟩ rfl rfl hl.1 rfl (lv_room (Nat.le_of_ble_eq_true rfl)) qd_L_law_308 ⟨by show _ ≤ 601024; omega, by show _ ≤ 7293034; omega⟩) hS (fun q _ h => hFc q h) hFc (fun r9 u9 t9 H1 locs ht9 hvm hw hB hz1 hk1 hS => ?_)
    obtain ⟨hP1, hK1, hD1⟩ := hB
    rw [ht9] at hP1
    obtain ⟨hP, hD⟩ := va_join (wr := [(x, .inr (0, [.ref a, .int (nI n), .ref b, .int (nI k)])), (a, .inl (cA, (600, .inr (.inl f)))), (b, .inl (cA, (40, .inr (.inl g)))), (ao, .inl (cA, (1, .inr (.inl ow))))]) (w1 := [(o, .inr (1, [.int (nI 1), .int (nI n), .int (nI k), .int w4, .ref ca, .ref cb, .long z1, .long z2])), (ca, .inl (cA, (600, .inr (.inl f2)))), (cb, .inl (cA, (40, .inr (.inl g2))))]) hP hD [0, 1, 2] [3, 4, 5, 6] rfl rfl (by decide) (by decide) hk1 hFc hP1 hD1
    generalize H1 = H at hP hS ⊢
    have hP : va_P (dC, dI) tq_cl [(x, .inr (0, [.ref a, .int (nI n), .ref b, .int (nI k)])), (a, .inl (cA, (600, .inr (.inl f)))), (b, .inl (cA, (40, .inr (.inl g)))), (ao, .inl (cA, (1, .inr (.inl ow)))), (o, .inr (1, [.int (nI 1), .int (nI n), .int (nI k), .int w4, .ref ca, .ref cb, .long z1, .long z2])), (ca, .inl (cA, (600, .inr (.inl f2)))), (cb, .inl (cA, (40, .inr (.inl g2))))] H := hP
    have hD : va_D A [(x, .inr (0, [.ref a, .int (nI n), .ref b, .int (nI k)])), (a, .inl (cA, (600, .inr (.inl f)))), (b, .inl (cA, (40, .inr (.inl g)))), (ao, .inl (cA, (1, .inr (.inl ow)))), (o, .inr (1, [.int (nI 1), .int (nI n), .int (nI k), .int w4, .ref ca, .ref cb, .long z1, .long z2])), (ca, .inl (cA, (600, .inr (.inl f2)))), (cb, .inl (cA, (40, .inr (.inl g2))))] := hD
    have hw : r9 = nI 0 := hw
    subst hw
    refine lv_istore (lv' := [(6, .int (nI 0)), (5, .int (nI 1)), (4, .int (nI ix)), (0, .ref sb), (1, .ref x), (2, .ref o), (3, .ref ao)]) hx hb qd_L_law_311 hl (by decide) rfl (fun ls hl => ?_)
    refine lv_aload_n hx hb qd_L_law_313 rfl (lv_at hl 5 rfl) ?_
    refine vp_callSi (W.runV (As := []) (rest := []) ⟨hx, hb, hml, hown, hW⟩ (ct_M_thrown l dC dI o ca cb cA (nI 1) n k w4 z1 z2 f2 g2) (cwV 0 hW (tq_gV qm_306 qm_307 qm_308 qm_2 qm_309) rfl rfl rfl (by decide +kernel) ⟨Nat.le_of_ble_eq_true rfl, Nat.le_of_ble_eq_true rfl⟩) ⟨tq_b1, va_recv hK hP (ci := 1) (q0 := 4) rfl rfl, fun U hU hW9 => ⟨rfl, by rw [hU]; exact hP.sub [4, 5, 6] rfl, va_K.moved hW9.alike (hK.sub [0] rfl)⟩⟩ rfl rfl hl.1 rfl (lv_room (Nat.le_of_ble_eq_true rfl)) qd_L_law_314 ⟨by show _ ≤ 601024; omega, by show _ ≤ 7293034; omega⟩) (fun r9 e9 => ?_)
    subst e9
    refine lv_iload hx hb qd_L_law_317 (lv_at hl 1 rfl) ?_
    refine tq_icmp_eq (x := 1) (y := 1) (tgt := 324) hx hb qd_L_law_319 (by decide) (by omega) (by omega) (fun c8 => ?_) (fun c9 => by omega)
    refine lv_iload hx hb qd_L_law_324 (lv_at hl 1 rfl) ?_
    refine tq_if_ne (x := 1) (tgt := 341) hx hb qd_L_law_326 (by decide) (by omega) (fun c7 => ?_) (fun c9 => by omega)
    refine lv_goto (tgt := 1247) hx hb qd_L_law_341 (by decide) ?_
    refine W.widen (k := cells + 1) (n := slots + 6) (by omega) (by omega) ?_
    exact cont n k f g (nI 1) w4 z1 z2 f2 g2 ow _ _ _ hR (hP.sub [0, 1, 2, 4, 5, 6, 3] rfl) (hD.sub [0, 1, 2, 4, 5, 6, 3] (by decide) rfl) hS (lv_sub hl [2, 3, 4, 5, 6] rfl)
  · obtain ⟨j, hj1, hj2, rfl⟩ := tq_ok6 hq
    by_cases hn : n + j ≤ 600
    · refine lv_aload_n hx hb qd_L_law_200 rfl (lv_at hl 2 rfl) ?_
      refine lv_aload_n hx hb qd_L_law_201 rfl (lv_at hl 1 rfl) ?_
      refine lv_iload hx hb qd_L_law_202 (lv_at hl 0 rfl) ?_
      refine lv_iconst (v := nI 1) hx hb qd_L_law_204 (by decide +kernel) ?_
      refine lv_iadd hx hb qd_L_law_205 ?_
      refine tq_ti (y := nI (ix + 1)) (nI_add _ _) ?_
      refine tq_sld hx hb hX hbl hbA hS (j := ix + 1) (v := (nI j)) (by omega) (by omega) e1 qd_L_law_206 ?_
      refine lv_aload_n hx hb qd_L_law_207 rfl (lv_at hl 1 rfl) ?_
      refine lv_iload hx hb qd_L_law_208 (lv_at hl 0 rfl) ?_
      refine lv_iconst (v := nI 2) hx hb qd_L_law_210 (by decide +kernel) ?_
      refine lv_iadd hx hb qd_L_law_211 ?_
      refine tq_ti (y := nI (ix + 2)) (nI_add _ _) ?_
      refine tq_sld hx hb hX hbl hbA hS (j := ix + 2) (v := p2) (by omega) (by omega) e2 qd_L_law_212 ?_
      refine lv_i2l (v := p2.toInt64) hx hb qd_L_law_213 rfl ?_
      refine lv_bipush (v := nI 32) hx hb qd_L_law_214 (by decide +kernel) ?_
      refine lv_lshl (v := p2.toInt64 <<< ((nI 32).toInt64 &&& 63)) hx hb qd_L_law_216 rfl ?_
      refine lv_aload_n hx hb qd_L_law_217 rfl (lv_at hl 1 rfl) ?_
      refine lv_iload hx hb qd_L_law_218 (lv_at hl 0 rfl) ?_
      refine lv_iconst (v := nI 3) hx hb qd_L_law_220 (by decide +kernel) ?_
      refine lv_iadd hx hb qd_L_law_221 ?_
      refine tq_ti (y := nI (ix + 3)) (nI_add _ _) ?_
      refine tq_sld hx hb hX hbl hbA hS (j := ix + 3) (v := p3) (by omega) (by omega) e3 qd_L_law_222 ?_
      refine lv_i2l (v := p3.toInt64) hx hb qd_L_law_223 rfl ?_
      refine lv_ldc2 (v := (4294967295)) hx hb hown (hW _ qm_407) qd_L_law_224 ?_
      refine lv_land hx hb qd_L_law_227 ?_
      refine lv_lor hx hb qd_L_law_228 ?_
      refine tq_tl (y := tq_lg p2 p3) (rfl) ?_
      refine lv_aload_n hx hb qd_L_law_229 rfl (lv_at hl 1 rfl) ?_
      refine lv_iload hx hb qd_L_law_230 (lv_at hl 0 rfl) ?_
      refine lv_iconst (v := nI 4) hx hb qd_L_law_232 (by decide +kernel) ?_
      refine lv_iadd hx hb qd_L_law_233 ?_
      refine tq_ti (y := nI (ix + 4)) (nI_add _ _) ?_
      refine tq_sld hx hb hX hbl hbA hS (j := ix + 4) (v := p4) (by omega) (by omega) e4 qd_L_law_234 ?_
      refine lv_i2l (v := p4.toInt64) hx hb qd_L_law_235 rfl ?_
      refine lv_bipush (v := nI 32) hx hb qd_L_law_236 (by decide +kernel) ?_
      refine lv_lshl (v := p4.toInt64 <<< ((nI 32).toInt64 &&& 63)) hx hb qd_L_law_238 rfl ?_
      refine lv_aload_n hx hb qd_L_law_239 rfl (lv_at hl 1 rfl) ?_
      refine lv_iload hx hb qd_L_law_240 (lv_at hl 0 rfl) ?_
      refine lv_iconst (v := nI 5) hx hb qd_L_law_242 (by decide +kernel) ?_
      refine lv_iadd hx hb qd_L_law_243 ?_
      refine tq_ti (y := nI (ix + 5)) (nI_add _ _) ?_
      refine tq_sld hx hb hX hbl hbA hS (j := ix + 5) (v := p5) (by omega) (by omega) e5 qd_L_law_244 ?_
      refine lv_i2l (v := p5.toInt64) hx hb qd_L_law_245 rfl ?_
      refine lv_ldc2 (v := (4294967295)) hx hb hown (hW _ qm_407) qd_L_law_246 ?_
      refine lv_land hx hb qd_L_law_249 ?_
      refine lv_lor hx hb qd_L_law_250 ?_
      refine tq_tl (y := tq_lg p4 p5) (rfl) ?_
      refine lv_aload_n hx hb qd_L_law_251 rfl (lv_at hl 4 rfl) ?_
      have hPc := hP.sub (ws' := [(x, .inr (0, [.ref a, .int (nI n), .ref b, .int (nI k)])), (a, .inl (cA, (600, .inr (.inl f)))), (b, .inl (cA, (40, .inr (.inl g)))), (ao, .inl (cA, (1, .inr (.inl ow))))]) [0, 1, 2, 6] rfl
      have hDc := hD.sub (ws' := [(x, .inr (0, [.ref a, .int (nI n), .ref b, .int (nI k)])), (a, .inl (cA, (600, .inr (.inl f)))), (b, .inl (cA, (40, .inr (.inl g)))), (ao, .inl (cA, (1, .inr (.inl ow))))]) [0, 1, 2, 6] (by decide) rfl
      have hKc := hK.sub (tys' := [(cA, .long)]) [0] rfl
      have hFc := va_free (wc := [(x, .inr (0, [.ref a, .int (nI n), .ref b, .int (nI k)])), (a, .inl (cA, (600, .inr (.inl f)))), (b, .inl (cA, (40, .inr (.inl g)))), (ao, .inl (cA, (1, .inr (.inl ow))))]) hD hS hA [0, 1, 2, 6] rfl
      refine va_calli (vx_runSW (As := [.ref x, .int (nI j), .long (tq_lg p2 p3), .long (tq_lg p4 p5), .ref ao]) (rest := []) ⟨hx, hb, hml, hown, hW⟩ (ct_L_fill l dC dI x a b cA n k f g ao ow H.size j (tq_lg p2 p3) (tq_lg p4 p5) hj1 hj2 hn) (vx_cwSW 5 hW (tq_gSa qm_154 qm_155 qm_0 qm_156) rfl rfl rfl (by decide +kernel) ⟨Nat.le_of_ble_eq_true rfl, Nat.le_of_ble_eq_true rfl⟩) ⟨tq_b2, fun U hU hW9 => ⟨rfl, by rw [hU], by rw [hU]; exact hPc, va_K.moved hW9.alike hKc, hDc.weaken (fun _ _ _ _ => trivial)⟩⟩ rfl rfl hl.1 rfl (lv_room (Nat.le_of_ble_eq_true rfl)) qd_L_law_252 ⟨by show _ ≤ 601024; omega, by show _ ≤ 7293034; omega⟩) hS (fun q _ h => hFc q h) hFc (fun r9 u t9 H1 locs ht9 hvm hw hB hz1 hk1 hS => ?_)
      obtain ⟨hP1, hK1, hD1⟩ := hB
      rw [ht9] at hP1
      obtain ⟨hP, hD⟩ := va_join (wr := [(o, .inr (1, [.int w1, .int (nI n), .int (nI k), .int w4, .ref ca, .ref cb, .long z1, .long z2])), (ca, .inl (cA, (600, .inr (.inl f2)))), (cb, .inl (cA, (40, .inr (.inl g2))))]) (w1 := [(x, .inr (0, [.ref a, .int (nI (n + j)), .ref b, .int (nI k)])), (a, .inl (cA, (600, .inr (.inl ((tq_fl f n j (fun i => tq_leaf (tq_fv (tq_lg p2 p3) (tq_lg p4 p5) i)))))))), (b, .inl (cA, (40, .inr (.inl g)))), (ao, .inl (cA, (1, .inr (.inl (vp_updL ow 0 ((nI (n + j)).toInt64))))))]) hP hD [0, 1, 2, 6] [3, 4, 5] rfl rfl (by decide) (by decide) hk1 hFc hP1 hD1
      generalize H1 = H at hP hS ⊢
      have hP : va_P (dC, dI) tq_cl [(o, .inr (1, [.int w1, .int (nI n), .int (nI k), .int w4, .ref ca, .ref cb, .long z1, .long z2])), (ca, .inl (cA, (600, .inr (.inl f2)))), (cb, .inl (cA, (40, .inr (.inl g2)))), (x, .inr (0, [.ref a, .int (nI (n + j)), .ref b, .int (nI k)])), (a, .inl (cA, (600, .inr (.inl ((tq_fl f n j (fun i => tq_leaf (tq_fv (tq_lg p2 p3) (tq_lg p4 p5) i)))))))), (b, .inl (cA, (40, .inr (.inl g)))), (ao, .inl (cA, (1, .inr (.inl (vp_updL ow 0 ((nI (n + j)).toInt64))))))] H := hP
      have hD : va_D A [(o, .inr (1, [.int w1, .int (nI n), .int (nI k), .int w4, .ref ca, .ref cb, .long z1, .long z2])), (ca, .inl (cA, (600, .inr (.inl f2)))), (cb, .inl (cA, (40, .inr (.inl g2)))), (x, .inr (0, [.ref a, .int (nI (n + j)), .ref b, .int (nI k)])), (a, .inl (cA, (600, .inr (.inl ((tq_fl f n j (fun i => tq_leaf (tq_fv (tq_lg p2 p3) (tq_lg p4 p5) i)))))))), (b, .inl (cA, (40, .inr (.inl g)))), (ao, .inl (cA, (1, .inr (.inl (vp_updL ow 0 ((nI (n + j)).toInt64))))))] := hD
      have hw : r9 = nI 0 := hw
      subst hw
      refine lv_istore (lv' := [(5, .int (nI 0)), (4, .int (nI ix)), (0, .ref sb), (1, .ref x), (2, .ref o), (3, .ref ao)]) hx hb qd_L_law_255 hl (by decide) rfl (fun ls hl => ?_)
      refine lv_aload_n hx hb qd_L_law_257 rfl (lv_at hl 4 rfl) ?_
      refine lv_aload_n hx hb qd_L_law_258 rfl (lv_at hl 2 rfl) ?_
      refine lv_iload hx hb qd_L_law_259 (lv_at hl 1 rfl) ?_
      refine lv_iconst (v := nI 1) hx hb qd_L_law_261 (by decide +kernel) ?_
      refine lv_iadd hx hb qd_L_law_262 ?_
      refine tq_ti (y := nI (ix + 1)) (nI_add _ _) ?_
      refine tq_sld hx hb hX hbl hbA hS (j := ix + 1) (v := (nI j)) (by omega) (by omega) e1 qd_L_law_263 ?_
      refine lv_aload_n hx hb qd_L_law_264 rfl (lv_at hl 2 rfl) ?_
      refine lv_iload hx hb qd_L_law_265 (lv_at hl 1 rfl) ?_
      refine lv_iconst (v := nI 2) hx hb qd_L_law_267 (by decide +kernel) ?_
      refine lv_iadd hx hb qd_L_law_268 ?_
      refine tq_ti (y := nI (ix + 2)) (nI_add _ _) ?_
      refine tq_sld hx hb hX hbl hbA hS (j := ix + 2) (v := p2) (by omega) (by omega) e2 qd_L_law_269 ?_
      refine lv_i2l (v := p2.toInt64) hx hb qd_L_law_270 rfl ?_
      refine lv_bipush (v := nI 32) hx hb qd_L_law_271 (by decide +kernel) ?_
      refine lv_lshl (v := p2.toInt64 <<< ((nI 32).toInt64 &&& 63)) hx hb qd_L_law_273 rfl ?_
      refine lv_aload_n hx hb qd_L_law_274 rfl (lv_at hl 2 rfl) ?_
      refine lv_iload hx hb qd_L_law_275 (lv_at hl 1 rfl) ?_
      refine lv_iconst (v := nI 3) hx hb qd_L_law_277 (by decide +kernel) ?_
      refine lv_iadd hx hb qd_L_law_278 ?_
      refine tq_ti (y := nI (ix + 3)) (nI_add _ _) ?_
      refine tq_sld hx hb hX hbl hbA hS (j := ix + 3) (v := p3) (by omega) (by omega) e3 qd_L_law_279 ?_
      refine lv_i2l (v := p3.toInt64) hx hb qd_L_law_280 rfl ?_
      refine lv_ldc2 (v := (4294967295)) hx hb hown (hW _ qm_407) qd_L_law_281 ?_
      refine lv_land hx hb qd_L_law_284 ?_
      refine lv_lor hx hb qd_L_law_285 ?_
      refine tq_tl (y := tq_lg p2 p3) (rfl) ?_
      refine lv_aload_n hx hb qd_L_law_286 rfl (lv_at hl 2 rfl) ?_
      refine lv_iload hx hb qd_L_law_287 (lv_at hl 1 rfl) ?_
      refine lv_iconst (v := nI 4) hx hb qd_L_law_289 (by decide +kernel) ?_
      refine lv_iadd hx hb qd_L_law_290 ?_
      refine tq_ti (y := nI (ix + 4)) (nI_add _ _) ?_
      refine tq_sld hx hb hX hbl hbA hS (j := ix + 4) (v := p4) (by omega) (by omega) e4 qd_L_law_291 ?_
      refine lv_i2l (v := p4.toInt64) hx hb qd_L_law_292 rfl ?_
      refine lv_bipush (v := nI 32) hx hb qd_L_law_293 (by decide +kernel) ?_
      refine lv_lshl (v := p4.toInt64 <<< ((nI 32).toInt64 &&& 63)) hx hb qd_L_law_295 rfl ?_
      refine lv_aload_n hx hb qd_L_law_296 rfl (lv_at hl 2 rfl) ?_
      refine lv_iload hx hb qd_L_law_297 (lv_at hl 1 rfl) ?_
      refine lv_iconst (v := nI 5) hx hb qd_L_law_299 (by decide +kernel) ?_
      refine lv_iadd hx hb qd_L_law_300 ?_
      refine tq_ti (y := nI (ix + 5)) (nI_add _ _) ?_
      refine tq_sld hx hb hX hbl hbA hS (j := ix + 5) (v := p5) (by omega) (by omega) e5 qd_L_law_301 ?_
      refine lv_i2l (v := p5.toInt64) hx hb qd_L_law_302 rfl ?_
      refine lv_ldc2 (v := (4294967295)) hx hb hown (hW _ qm_407) qd_L_law_303 ?_
      refine lv_land hx hb qd_L_law_306 ?_
      refine lv_lor hx hb qd_L_law_307 ?_
      refine tq_tl (y := tq_lg p4 p5) (rfl) ?_
      have hPc := hP.sub (ws' := [(o, .inr (1, [.int w1, .int (nI n), .int (nI k), .int w4, .ref ca, .ref cb, .long z1, .long z2])), (ca, .inl (cA, (600, .inr (.inl f2)))), (cb, .inl (cA, (40, .inr (.inl g2))))]) [0, 1, 2] rfl
      have hDc := hD.sub (ws' := [(o, .inr (1, [.int w1, .int (nI n), .int (nI k), .int w4, .ref ca, .ref cb, .long z1, .long z2])), (ca, .inl (cA, (600, .inr (.inl f2)))), (cb, .inl (cA, (40, .inr (.inl g2))))]) [0, 1, 2] (by decide) rfl
      have hKc := hK.sub (tys' := [(cA, .long)]) [0] rfl
      have hFc := va_free (wc := [(o, .inr (1, [.int w1, .int (nI n), .int (nI k), .int w4, .ref ca, .ref cb, .long z1, .long z2])), (ca, .inl (cA, (600, .inr (.inl f2)))), (cb, .inl (cA, (40, .inr (.inl g2))))]) hD hS hA [0, 1, 2] rfl
      refine va_calli (va_runV (As := [.int (nI j), .long (tq_lg p2 p3), .long (tq_lg p4 p5)]) (rest := []) ⟨hx, hb, hml, hown, hW⟩ (ct_M_fill l dC dI o ca cb cA w1 n k w4 z1 z2 f2 g2 H.size j (tq_lg p2 p3) (tq_lg p4 p5) hj1 hj2 hn) (cwV 3 hW (tq_gV qm_314 qm_315 qm_316 qm_2 qm_317) rfl rfl rfl (by decide +kernel) ⟨Nat.le_of_ble_eq_true rfl, Nat.le_of_ble_eq_true rfl⟩) ⟨tq_b2, va_recv hKc hPc (ci := 1) (q0 := 0) rfl rfl, fun U hU hW9 => ⟨rfl, by rw [hU], by rw [hU]; exact hPc, va_K.moved hW9.alike hKc, hDc.weaken (fun _ _ _ _ => trivial)⟩⟩ rfl rfl hl.1 rfl (lv_room (Nat.le_of_ble_eq_true rfl)) qd_L_law_308 ⟨by show _ ≤ 601024; omega, by show _ ≤ 7293034; omega⟩) hS (fun q _ h => hFc q h) hFc (fun r9 u9 t9 H1 locs ht9 hvm hw hB hz1 hk1 hS => ?_)
      obtain ⟨hP1, hK1, hD1⟩ := hB
      rw [ht9] at hP1
      obtain ⟨hP, hD⟩ := va_join (wr := [(x, .inr (0, [.ref a, .int (nI (n + j)), .ref b, .int (nI k)])), (a, .inl (cA, (600, .inr (.inl ((tq_fl f n j (fun i => tq_leaf (tq_fv (tq_lg p2 p3) (tq_lg p4 p5) i)))))))), (b, .inl (cA, (40, .inr (.inl g)))), (ao, .inl (cA, (1, .inr (.inl (vp_updL ow 0 ((nI (n + j)).toInt64))))))]) (w1 := [(o, .inr (1, [.int (nI 0), .int (nI (n + j)), .int (nI k), .int w4, .ref ca, .ref cb, .long z1, .long z2])), (ca, .inl (cA, (600, .inr (.inl ((tq_fl f2 n j (tq_fv (tq_lg p2 p3) (tq_lg p4 p5)))))))), (cb, .inl (cA, (40, .inr (.inl g2))))]) hP hD [0, 1, 2] [3, 4, 5, 6] rfl rfl (by decide) (by decide) hk1 hFc hP1 hD1
      generalize H1 = H at hP hS ⊢
      have hP : va_P (dC, dI) tq_cl [(x, .inr (0, [.ref a, .int (nI (n + j)), .ref b, .int (nI k)])), (a, .inl (cA, (600, .inr (.inl ((tq_fl f n j (fun i => tq_leaf (tq_fv (tq_lg p2 p3) (tq_lg p4 p5) i)))))))), (b, .inl (cA, (40, .inr (.inl g)))), (ao, .inl (cA, (1, .inr (.inl (vp_updL ow 0 ((nI (n + j)).toInt64)))))), (o, .inr (1, [.int (nI 0), .int (nI (n + j)), .int (nI k), .int w4, .ref ca, .ref cb, .long z1, .long z2])), (ca, .inl (cA, (600, .inr (.inl ((tq_fl f2 n j (tq_fv (tq_lg p2 p3) (tq_lg p4 p5)))))))), (cb, .inl (cA, (40, .inr (.inl g2))))] H := hP
      have hD : va_D A [(x, .inr (0, [.ref a, .int (nI (n + j)), .ref b, .int (nI k)])), (a, .inl (cA, (600, .inr (.inl ((tq_fl f n j (fun i => tq_leaf (tq_fv (tq_lg p2 p3) (tq_lg p4 p5) i)))))))), (b, .inl (cA, (40, .inr (.inl g)))), (ao, .inl (cA, (1, .inr (.inl (vp_updL ow 0 ((nI (n + j)).toInt64)))))), (o, .inr (1, [.int (nI 0), .int (nI (n + j)), .int (nI k), .int w4, .ref ca, .ref cb, .long z1, .long z2])), (ca, .inl (cA, (600, .inr (.inl ((tq_fl f2 n j (tq_fv (tq_lg p2 p3) (tq_lg p4 p5)))))))), (cb, .inl (cA, (40, .inr (.inl g2))))] := hD
      have hw : r9 = nI (n + j) := hw
      subst hw
      refine lv_istore (lv' := [(6, .int (nI (n + j))), (5, .int (nI 0)), (4, .int (nI ix)), (0, .ref sb), (1, .ref x), (2, .ref o), (3, .ref ao)]) hx hb qd_L_law_311 hl (by decide) rfl (fun ls hl => ?_)
      refine lv_aload_n hx hb qd_L_law_313 rfl (lv_at hl 5 rfl) ?_
      refine vp_callSi (W.runV (As := []) (rest := []) ⟨hx, hb, hml, hown, hW⟩ (ct_M_thrown l dC dI o ca cb cA (nI 0) ((n + j)) k w4 z1 z2 ((tq_fl f2 n j (tq_fv (tq_lg p2 p3) (tq_lg p4 p5)))) g2) (cwV 0 hW (tq_gV qm_306 qm_307 qm_308 qm_2 qm_309) rfl rfl rfl (by decide +kernel) ⟨Nat.le_of_ble_eq_true rfl, Nat.le_of_ble_eq_true rfl⟩) ⟨tq_b1, va_recv hK hP (ci := 1) (q0 := 4) rfl rfl, fun U hU hW9 => ⟨rfl, by rw [hU]; exact hP.sub [4, 5, 6] rfl, va_K.moved hW9.alike (hK.sub [0] rfl)⟩⟩ rfl rfl hl.1 rfl (lv_room (Nat.le_of_ble_eq_true rfl)) qd_L_law_314 ⟨by show _ ≤ 601024; omega, by show _ ≤ 7293034; omega⟩) (fun r9 e9 => ?_)
      subst e9
      refine lv_iload hx hb qd_L_law_317 (lv_at hl 1 rfl) ?_
      refine tq_icmp_eq (x := 0) (y := 0) (tgt := 324) hx hb qd_L_law_319 (by decide) (by omega) (by omega) (fun c8 => ?_) (fun c9 => by omega)
      refine lv_iload hx hb qd_L_law_324 (lv_at hl 1 rfl) ?_
      refine tq_if_ne (x := 0) (tgt := 341) hx hb qd_L_law_326 (by decide) (by omega) (fun c9 => by omega) (fun c7 => ?_)
      refine lv_aload_n hx hb qd_L_law_329 rfl (lv_at hl 6 rfl) ?_
      refine lv_iconst (v := nI 0) hx hb qd_L_law_330 (by decide +kernel) ?_
      refine tq_lald hx hb hK hP 3 0 rfl rfl (j := 0) (by omega) (by decide) qd_L_law_331 ?_
      refine tq_tl (y := (nI (n + j)).toInt64) (pk_uLs) ?_
      refine lv_iload hx hb qd_L_law_332 (lv_at hl 0 rfl) ?_
      refine lv_i2l (v := (nI (n + j)).toInt64) hx hb qd_L_law_334 rfl ?_
      refine tq_lc_eq (tgt := 341) hx hb qd_L_law_335 qd_L_law_336 (by decide) (fun c6 => ?_) (fun c9 => absurd rfl c9)
      refine lv_goto (tgt := 1247) hx hb qd_L_law_341 (by decide) ?_
      refine W.widen (k := cells + 1) (n := slots + 6) (by omega) (by omega) ?_
      exact cont ((n + j)) k ((tq_fl f n j (fun i => tq_leaf (tq_fv (tq_lg p2 p3) (tq_lg p4 p5) i)))) g (nI 0) w4 z1 z2 ((tq_fl f2 n j (tq_fv (tq_lg p2 p3) (tq_lg p4 p5)))) g2 (vp_updL ow 0 ((nI (n + j)).toInt64)) _ _ _ (hR.fill hn (tq_fv (tq_lg p2 p3) (tq_lg p4 p5))) (hP.sub [0, 1, 2, 4, 5, 6, 3] rfl) (hD.sub [0, 1, 2, 4, 5, 6, 3] (by decide) rfl) hS (lv_sub hl [2, 3, 4, 5, 6] rfl)
    · have hn9 : 600 < n + j := by omega
      refine lv_aload_n hx hb qd_L_law_200 rfl (lv_at hl 2 rfl) ?_
      refine lv_aload_n hx hb qd_L_law_201 rfl (lv_at hl 1 rfl) ?_
      refine lv_iload hx hb qd_L_law_202 (lv_at hl 0 rfl) ?_
      refine lv_iconst (v := nI 1) hx hb qd_L_law_204 (by decide +kernel) ?_
      refine lv_iadd hx hb qd_L_law_205 ?_
      refine tq_ti (y := nI (ix + 1)) (nI_add _ _) ?_
      refine tq_sld hx hb hX hbl hbA hS (j := ix + 1) (v := (nI j)) (by omega) (by omega) e1 qd_L_law_206 ?_
      refine lv_aload_n hx hb qd_L_law_207 rfl (lv_at hl 1 rfl) ?_
      refine lv_iload hx hb qd_L_law_208 (lv_at hl 0 rfl) ?_
      refine lv_iconst (v := nI 2) hx hb qd_L_law_210 (by decide +kernel) ?_
      refine lv_iadd hx hb qd_L_law_211 ?_
      refine tq_ti (y := nI (ix + 2)) (nI_add _ _) ?_
      refine tq_sld hx hb hX hbl hbA hS (j := ix + 2) (v := p2) (by omega) (by omega) e2 qd_L_law_212 ?_
      refine lv_i2l (v := p2.toInt64) hx hb qd_L_law_213 rfl ?_
      refine lv_bipush (v := nI 32) hx hb qd_L_law_214 (by decide +kernel) ?_
      refine lv_lshl (v := p2.toInt64 <<< ((nI 32).toInt64 &&& 63)) hx hb qd_L_law_216 rfl ?_
      refine lv_aload_n hx hb qd_L_law_217 rfl (lv_at hl 1 rfl) ?_
      refine lv_iload hx hb qd_L_law_218 (lv_at hl 0 rfl) ?_
      refine lv_iconst (v := nI 3) hx hb qd_L_law_220 (by decide +kernel) ?_
      refine lv_iadd hx hb qd_L_law_221 ?_
      refine tq_ti (y := nI (ix + 3)) (nI_add _ _) ?_
      refine tq_sld hx hb hX hbl hbA hS (j := ix + 3) (v := p3) (by omega) (by omega) e3 qd_L_law_222 ?_
      refine lv_i2l (v := p3.toInt64) hx hb qd_L_law_223 rfl ?_
      refine lv_ldc2 (v := (4294967295)) hx hb hown (hW _ qm_407) qd_L_law_224 ?_
      refine lv_land hx hb qd_L_law_227 ?_
      refine lv_lor hx hb qd_L_law_228 ?_
      refine tq_tl (y := tq_lg p2 p3) (rfl) ?_
      refine lv_aload_n hx hb qd_L_law_229 rfl (lv_at hl 1 rfl) ?_
      refine lv_iload hx hb qd_L_law_230 (lv_at hl 0 rfl) ?_
      refine lv_iconst (v := nI 4) hx hb qd_L_law_232 (by decide +kernel) ?_
      refine lv_iadd hx hb qd_L_law_233 ?_
      refine tq_ti (y := nI (ix + 4)) (nI_add _ _) ?_
      refine tq_sld hx hb hX hbl hbA hS (j := ix + 4) (v := p4) (by omega) (by omega) e4 qd_L_law_234 ?_
      refine lv_i2l (v := p4.toInt64) hx hb qd_L_law_235 rfl ?_
      refine lv_bipush (v := nI 32) hx hb qd_L_law_236 (by decide +kernel) ?_
      refine lv_lshl (v := p4.toInt64 <<< ((nI 32).toInt64 &&& 63)) hx hb qd_L_law_238 rfl ?_
      refine lv_aload_n hx hb qd_L_law_239 rfl (lv_at hl 1 rfl) ?_
      refine lv_iload hx hb qd_L_law_240 (lv_at hl 0 rfl) ?_
      refine lv_iconst (v := nI 5) hx hb qd_L_law_242 (by decide +kernel) ?_
      refine lv_iadd hx hb qd_L_law_243 ?_
      refine tq_ti (y := nI (ix + 5)) (nI_add _ _) ?_
      refine tq_sld hx hb hX hbl hbA hS (j := ix + 5) (v := p5) (by omega) (by omega) e5 qd_L_law_244 ?_
      refine lv_i2l (v := p5.toInt64) hx hb qd_L_law_245 rfl ?_
      refine lv_ldc2 (v := (4294967295)) hx hb hown (hW _ qm_407) qd_L_law_246 ?_
      refine lv_land hx hb qd_L_law_249 ?_
      refine lv_lor hx hb qd_L_law_250 ?_
      refine tq_tl (y := tq_lg p4 p5) (rfl) ?_
      refine lv_aload_n hx hb qd_L_law_251 rfl (lv_at hl 4 rfl) ?_
      have hPc := hP.sub (ws' := [(x, .inr (0, [.ref a, .int (nI n), .ref b, .int (nI k)])), (a, .inl (cA, (600, .inr (.inl f)))), (b, .inl (cA, (40, .inr (.inl g)))), (ao, .inl (cA, (1, .inr (.inl ow))))]) [0, 1, 2, 6] rfl
      have hDc := hD.sub (ws' := [(x, .inr (0, [.ref a, .int (nI n), .ref b, .int (nI k)])), (a, .inl (cA, (600, .inr (.inl f)))), (b, .inl (cA, (40, .inr (.inl g)))), (ao, .inl (cA, (1, .inr (.inl ow))))]) [0, 1, 2, 6] (by decide) rfl
      have hKc := hK.sub (tys' := [(cA, .long)]) [0] rfl
      have hFc := va_free (wc := [(x, .inr (0, [.ref a, .int (nI n), .ref b, .int (nI k)])), (a, .inl (cA, (600, .inr (.inl f)))), (b, .inl (cA, (40, .inr (.inl g)))), (ao, .inl (cA, (1, .inr (.inl ow))))]) hD hS hA [0, 1, 2, 6] rfl
      refine va_calli (vx_runSW (As := [.ref x, .int (nI j), .long (tq_lg p2 p3), .long (tq_lg p4 p5), .ref ao]) (rest := []) ⟨hx, hb, hml, hown, hW⟩ (cx_L_fill2 l dC dI x a b cA n k f g ao ow H.size hst j (tq_lg p2 p3) (tq_lg p4 p5) hj1 hj2 hn9 hn6) (vx_cwSW 5 hW (tq_gSa qm_154 qm_155 qm_0 qm_156) rfl rfl rfl (by decide +kernel) ⟨Nat.le_of_ble_eq_true rfl, Nat.le_of_ble_eq_true rfl⟩) ⟨tq_b3, fun U hU hW9 => ⟨rfl, ⟨by rw [hU], by rw [hU]; exact hPc, va_K.moved hW9.alike hKc, hDc.weaken (fun _ _ _ _ => trivial)⟩, hZ.on hS hU hW9 hFc⟩⟩ rfl rfl hl.1 rfl (lv_room (Nat.le_of_ble_eq_true rfl)) qd_L_law_252 ⟨by show _ ≤ 601024; omega, by show _ ≤ 7293034; omega⟩) hS (fun q _ h => hFc q h) hFc (fun r9 u t9 H1 locs ht9 hvm hw hB hz1 hk1 hS => ?_)
      obtain ⟨hP1, hK1, hD1⟩ := hB
      rw [ht9] at hP1
      obtain ⟨hP, hD⟩ := va_join (wr := [(o, .inr (1, [.int w1, .int (nI n), .int (nI k), .int w4, .ref ca, .ref cb, .long z1, .long z2])), (ca, .inl (cA, (600, .inr (.inl f2)))), (cb, .inl (cA, (40, .inr (.inl g2))))]) (w1 := [(x, .inr (0, [.ref a, .int (nI n), .ref b, .int (nI k)])), (a, .inl (cA, (600, .inr (.inl f)))), (b, .inl (cA, (40, .inr (.inl g)))), (ao, .inl (cA, (1, .inr (.inl ow))))]) hP hD [0, 1, 2, 6] [3, 4, 5] rfl rfl (by decide) (by decide) hk1 hFc hP1 hD1
      generalize H1 = H at hP hS ⊢
      have hP : va_P (dC, dI) tq_cl [(o, .inr (1, [.int w1, .int (nI n), .int (nI k), .int w4, .ref ca, .ref cb, .long z1, .long z2])), (ca, .inl (cA, (600, .inr (.inl f2)))), (cb, .inl (cA, (40, .inr (.inl g2)))), (x, .inr (0, [.ref a, .int (nI n), .ref b, .int (nI k)])), (a, .inl (cA, (600, .inr (.inl f)))), (b, .inl (cA, (40, .inr (.inl g)))), (ao, .inl (cA, (1, .inr (.inl ow))))] H := hP
      have hD : va_D A [(o, .inr (1, [.int w1, .int (nI n), .int (nI k), .int w4, .ref ca, .ref cb, .long z1, .long z2])), (ca, .inl (cA, (600, .inr (.inl f2)))), (cb, .inl (cA, (40, .inr (.inl g2)))), (x, .inr (0, [.ref a, .int (nI n), .ref b, .int (nI k)])), (a, .inl (cA, (600, .inr (.inl f)))), (b, .inl (cA, (40, .inr (.inl g)))), (ao, .inl (cA, (1, .inr (.inl ow))))] := hD
      have hw : r9 = nI 2 := hw
      subst hw
      refine lv_istore (lv' := [(5, .int (nI 2)), (4, .int (nI ix)), (0, .ref sb), (1, .ref x), (2, .ref o), (3, .ref ao)]) hx hb qd_L_law_255 hl (by decide) rfl (fun ls hl => ?_)
      refine lv_aload_n hx hb qd_L_law_257 rfl (lv_at hl 4 rfl) ?_
      refine lv_aload_n hx hb qd_L_law_258 rfl (lv_at hl 2 rfl) ?_
      refine lv_iload hx hb qd_L_law_259 (lv_at hl 1 rfl) ?_
      refine lv_iconst (v := nI 1) hx hb qd_L_law_261 (by decide +kernel) ?_
      refine lv_iadd hx hb qd_L_law_262 ?_
      refine tq_ti (y := nI (ix + 1)) (nI_add _ _) ?_
      refine tq_sld hx hb hX hbl hbA hS (j := ix + 1) (v := (nI j)) (by omega) (by omega) e1 qd_L_law_263 ?_
      refine lv_aload_n hx hb qd_L_law_264 rfl (lv_at hl 2 rfl) ?_
      refine lv_iload hx hb qd_L_law_265 (lv_at hl 1 rfl) ?_
      refine lv_iconst (v := nI 2) hx hb qd_L_law_267 (by decide +kernel) ?_
      refine lv_iadd hx hb qd_L_law_268 ?_
      refine tq_ti (y := nI (ix + 2)) (nI_add _ _) ?_
      refine tq_sld hx hb hX hbl hbA hS (j := ix + 2) (v := p2) (by omega) (by omega) e2 qd_L_law_269 ?_
      refine lv_i2l (v := p2.toInt64) hx hb qd_L_law_270 rfl ?_
      refine lv_bipush (v := nI 32) hx hb qd_L_law_271 (by decide +kernel) ?_
      refine lv_lshl (v := p2.toInt64 <<< ((nI 32).toInt64 &&& 63)) hx hb qd_L_law_273 rfl ?_
      refine lv_aload_n hx hb qd_L_law_274 rfl (lv_at hl 2 rfl) ?_
      refine lv_iload hx hb qd_L_law_275 (lv_at hl 1 rfl) ?_
      refine lv_iconst (v := nI 3) hx hb qd_L_law_277 (by decide +kernel) ?_
      refine lv_iadd hx hb qd_L_law_278 ?_
      refine tq_ti (y := nI (ix + 3)) (nI_add _ _) ?_
      refine tq_sld hx hb hX hbl hbA hS (j := ix + 3) (v := p3) (by omega) (by omega) e3 qd_L_law_279 ?_
      refine lv_i2l (v := p3.toInt64) hx hb qd_L_law_280 rfl ?_
      refine lv_ldc2 (v := (4294967295)) hx hb hown (hW _ qm_407) qd_L_law_281 ?_
      refine lv_land hx hb qd_L_law_284 ?_
      refine lv_lor hx hb qd_L_law_285 ?_
      refine tq_tl (y := tq_lg p2 p3) (rfl) ?_
      refine lv_aload_n hx hb qd_L_law_286 rfl (lv_at hl 2 rfl) ?_
      refine lv_iload hx hb qd_L_law_287 (lv_at hl 1 rfl) ?_
      refine lv_iconst (v := nI 4) hx hb qd_L_law_289 (by decide +kernel) ?_
      refine lv_iadd hx hb qd_L_law_290 ?_
      refine tq_ti (y := nI (ix + 4)) (nI_add _ _) ?_
      refine tq_sld hx hb hX hbl hbA hS (j := ix + 4) (v := p4) (by omega) (by omega) e4 qd_L_law_291 ?_
      refine lv_i2l (v := p4.toInt64) hx hb qd_L_law_292 rfl ?_
      refine lv_bipush (v := nI 32) hx hb qd_L_law_293 (by decide +kernel) ?_
      refine lv_lshl (v := p4.toInt64 <<< ((nI 32).toInt64 &&& 63)) hx hb qd_L_law_295 rfl ?_
      refine lv_aload_n hx hb qd_L_law_296 rfl (lv_at hl 2 rfl) ?_
      refine lv_iload hx hb qd_L_law_297 (lv_at hl 1 rfl) ?_
      refine lv_iconst (v := nI 5) hx hb qd_L_law_299 (by decide +kernel) ?_
      refine lv_iadd hx hb qd_L_law_300 ?_
      refine tq_ti (y := nI (ix + 5)) (nI_add _ _) ?_
      refine tq_sld hx hb hX hbl hbA hS (j := ix + 5) (v := p5) (by omega) (by omega) e5 qd_L_law_301 ?_
      refine lv_i2l (v := p5.toInt64) hx hb qd_L_law_302 rfl ?_
      refine lv_ldc2 (v := (4294967295)) hx hb hown (hW _ qm_407) qd_L_law_303 ?_
      refine lv_land hx hb qd_L_law_306 ?_
      refine lv_lor hx hb qd_L_law_307 ?_
      refine tq_tl (y := tq_lg p4 p5) (rfl) ?_
      have hPc := hP.sub (ws' := [(o, .inr (1, [.int w1, .int (nI n), .int (nI k), .int w4, .ref ca, .ref cb, .long z1, .long z2])), (ca, .inl (cA, (600, .inr (.inl f2)))), (cb, .inl (cA, (40, .inr (.inl g2))))]) [0, 1, 2] rfl
      have hDc := hD.sub (ws' := [(o, .inr (1, [.int w1, .int (nI n), .int (nI k), .int w4, .ref ca, .ref cb, .long z1, .long z2])), (ca, .inl (cA, (600, .inr (.inl f2)))), (cb, .inl (cA, (40, .inr (.inl g2))))]) [0, 1, 2] (by decide) rfl
      have hKc := hK.sub (tys' := [(cA, .long)]) [0] rfl
      have hFc := va_free (wc := [(o, .inr (1, [.int w1, .int (nI n), .int (nI k), .int w4, .ref ca, .ref cb, .long z1, .long z2])), (ca, .inl (cA, (600, .inr (.inl f2)))), (cb, .inl (cA, (40, .inr (.inl g2))))]) hD hS hA [0, 1, 2] rfl
      refine va_calli (va_runV (As := [.int (nI j), .long (tq_lg p2 p3), .long (tq_lg p4 p5)]) (rest := []) ⟨hx, hb, hml, hown, hW⟩ (ct_M_fill_no2 l dC dI o ca cb cA w1 n k w4 z1 z2 f2 g2 H.size j (tq_lg p2 p3) (tq_lg p4 p5) hj1 hj2 hn9 hn6) (cwV 3 hW (tq_gV qm_314 qm_315 qm_316 qm_2 qm_317) rfl rfl rfl (by decide +kernel) ⟨Nat.le_of_ble_eq_true rfl, Nat.le_of_ble_eq_true rfl⟩) ⟨tq_b2, va_recv hKc hPc (ci := 1) (q0 := 0) rfl rfl, fun U hU hW9 => ⟨rfl, by rw [hU], by rw [hU]; exact hPc, va_K.moved hW9.alike hKc, hDc.weaken (fun _ _ _ _ => trivial)⟩⟩ rfl rfl hl.1 rfl (lv_room (Nat.le_of_ble_eq_true rfl)) qd_L_law_308 ⟨by show _ ≤ 601024; omega, by show _ ≤ 7293034; omega⟩) hS (fun q _ h => hFc q h) hFc (fun r9 u9 t9 H1 locs ht9 hvm hw hB hz1 hk1 hS => ?_)
      obtain ⟨hP1, hK1, hD1⟩ := hB
      rw [ht9] at hP1
      obtain ⟨hP, hD⟩ := va_join (wr := [(x, .inr (0, [.ref a, .int (nI n), .ref b, .int (nI k)])), (a, .inl (cA, (600, .inr (.inl f)))), (b, .inl (cA, (40, .inr (.inl g)))), (ao, .inl (cA, (1, .inr (.inl ow))))]) (w1 := [(o, .inr (1, [.int (nI 2), .int (nI n), .int (nI k), .int w4, .ref ca, .ref cb, .long z1, .long z2])), (ca, .inl (cA, (600, .inr (.inl f2)))), (cb, .inl (cA, (40, .inr (.inl g2))))]) hP hD [0, 1, 2] [3, 4, 5, 6] rfl rfl (by decide) (by decide) hk1 hFc hP1 hD1
      generalize H1 = H at hP hS ⊢
      have hP : va_P (dC, dI) tq_cl [(x, .inr (0, [.ref a, .int (nI n), .ref b, .int (nI k)])), (a, .inl (cA, (600, .inr (.inl f)))), (b, .inl (cA, (40, .inr (.inl g)))), (ao, .inl (cA, (1, .inr (.inl ow)))), (o, .inr (1, [.int (nI 2), .int (nI n), .int (nI k), .int w4, .ref ca, .ref cb, .long z1, .long z2])), (ca, .inl (cA, (600, .inr (.inl f2)))), (cb, .inl (cA, (40, .inr (.inl g2))))] H := hP
      have hD : va_D A [(x, .inr (0, [.ref a, .int (nI n), .ref b, .int (nI k)])), (a, .inl (cA, (600, .inr (.inl f)))), (b, .inl (cA, (40, .inr (.inl g)))), (ao, .inl (cA, (1, .inr (.inl ow)))), (o, .inr (1, [.int (nI 2), .int (nI n), .int (nI k), .int w4, .ref ca, .ref cb, .long z1, .long z2])), (ca, .inl (cA, (600, .inr (.inl f2)))), (cb, .inl (cA, (40, .inr (.inl g2))))] := hD
      have hw : r9 = nI 0 := hw
      subst hw
      refine lv_istore (lv' := [(6, .int (nI 0)), (5, .int (nI 2)), (4, .int (nI ix)), (0, .ref sb), (1, .ref x), (2, .ref o), (3, .ref ao)]) hx hb qd_L_law_311 hl (by decide) rfl (fun ls hl => ?_)
      refine lv_aload_n hx hb qd_L_law_313 rfl (lv_at hl 5 rfl) ?_
      refine vp_callSi (W.runV (As := []) (rest := []) ⟨hx, hb, hml, hown, hW⟩ (ct_M_thrown l dC dI o ca cb cA (nI 2) n k w4 z1 z2 f2 g2) (cwV 0 hW (tq_gV qm_306 qm_307 qm_308 qm_2 qm_309) rfl rfl rfl (by decide +kernel) ⟨Nat.le_of_ble_eq_true rfl, Nat.le_of_ble_eq_true rfl⟩) ⟨tq_b1, va_recv hK hP (ci := 1) (q0 := 4) rfl rfl, fun U hU hW9 => ⟨rfl, by rw [hU]; exact hP.sub [4, 5, 6] rfl, va_K.moved hW9.alike (hK.sub [0] rfl)⟩⟩ rfl rfl hl.1 rfl (lv_room (Nat.le_of_ble_eq_true rfl)) qd_L_law_314 ⟨by show _ ≤ 601024; omega, by show _ ≤ 7293034; omega⟩) (fun r9 e9 => ?_)
      subst e9
      refine lv_iload hx hb qd_L_law_317 (lv_at hl 1 rfl) ?_
      refine tq_icmp_eq (x := 2) (y := 2) (tgt := 324) hx hb qd_L_law_319 (by decide) (by omega) (by omega) (fun c8 => ?_) (fun c9 => by omega)
      refine lv_iload hx hb qd_L_law_324 (lv_at hl 1 rfl) ?_
      refine tq_if_ne (x := 2) (tgt := 341) hx hb qd_L_law_326 (by decide) (by omega) (fun c7 => ?_) (fun c9 => by omega)
      refine lv_goto (tgt := 1247) hx hb qd_L_law_341 (by decide) ?_
      refine W.widen (k := cells + 1) (n := slots + 6) (by omega) (by omega) ?_
      exact cont n k f g (nI 2) w4 z1 z2 f2 g2 ow _ _ _ hR (hP.sub [0, 1, 2, 4, 5, 6, 3] rfl) (hD.sub [0, 1, 2, 4, 5, 6, 3] (by decide) rfl) hS (lv_sub hl [2, 3, 4, 5, 6] rfl)
set_option maxHeartbeats 4000000 in
set_option maxRecDepth 100000 in
/-- cut -/
theorem lq_c2 (p : Program) (l : Launch) (e : Env) (s : State) (m : MethodId) (below : List Frame) (meth : Method) (c : Code) (sb L : Nat) (xs : Nat → Int32) (dC : Nat → ClassId) (dI : Nat → Nat → Nat) (x a b o ca cb ao : Nat) (cA : ClassId) (A : Nat → Prop) (C9 : lq_F p l e s m below meth c sb L xs dC dI x a b o ca cb ao cA A) (ix cells slots : Nat) (hi : ix + 7 ≤ L) (hc1 : cells + 1 ≤ 601024) (hs1 : slots + 6 ≤ 7293034) (cont : lq_N p l e s m below meth c sb L xs dC dI x a b o ca cb ao cA A ix (cells + 1) (slots + 6) 1247) : lq_N p l e s m below meth c sb L xs dC dI x a b o ca cb ao cA A ix cells slots 344 := by
  intro n k f g w1 w4 z1 z2 f2 g2 ow H locs ls hR hP hD hS hl
  obtain ⟨hx, hb, hml, hown, hW, hst, hA, hX, hbl, hbA, hZ, hK, hL⟩ := id C9
  have hn6 := hR.1
  have hk4 := hR.2.1
  obtain ⟨p1, e1⟩ : ∃ z9 : Int32, xs (ix + 1) = z9 := ⟨_, rfl⟩
  by_cases hq : p1 < 0 ∨ nI n < p1
  · refine lv_aload_n hx hb qd_L_law_344 rfl (lv_at hl 2 rfl) ?_
    refine lv_aload_n hx hb qd_L_law_345 rfl (lv_at hl 1 rfl) ?_
    refine lv_iload hx hb qd_L_law_346 (lv_at hl 0 rfl) ?_
    refine lv_iconst (v := nI 1) hx hb qd_L_law_348 (by decide +kernel) ?_
    refine lv_iadd hx hb qd_L_law_349 ?_
    refine tq_ti (y := nI (ix + 1)) (nI_add _ _) ?_
    refine tq_sld hx hb hX hbl hbA hS (j := ix + 1) (v := p1) (by omega) (by omega) e1 qd_L_law_350 ?_
    refine lv_aload_n hx hb qd_L_law_351 rfl (lv_at hl 4 rfl) ?_
    have hPc := hP.sub (ws' := [(x, .inr (0, [.ref a, .int (nI n), .ref b, .int (nI k)])), (a, .inl (cA, (600, .inr (.inl f)))), (b, .inl (cA, (40, .inr (.inl g)))), (ao, .inl (cA, (1, .inr (.inl ow))))]) [0, 1, 2, 6] rfl
    have hDc := hD.sub (ws' := [(x, .inr (0, [.ref a, .int (nI n), .ref b, .int (nI k)])), (a, .inl (cA, (600, .inr (.inl f)))), (b, .inl (cA, (40, .inr (.inl g)))), (ao, .inl (cA, (1, .inr (.inl ow))))]) [0, 1, 2, 6] (by decide) rfl
    have hKc := hK.sub (tys' := [(cA, .long)]) [0] rfl
    have hFc := va_free (wc := [(x, .inr (0, [.ref a, .int (nI n), .ref b, .int (nI k)])), (a, .inl (cA, (600, .inr (.inl f)))), (b, .inl (cA, (40, .inr (.inl g)))), (ao, .inl (cA, (1, .inr (.inl ow))))]) hD hS hA [0, 1, 2, 6] rfl
    refine va_calli (vx_runSW (As := [.ref x, .int p1, .ref ao]) (rest := []) ⟨hx, hb, hml, hown, hW⟩ (cx_L_cut l dC dI x a b cA n k f g ao ow H.size hst p1 hq) (vx_cwSW 3 hW (tq_gSa qm_177 qm_178 qm_0 qm_179) rfl rfl rfl (by decide +kernel) ⟨Nat.le_of_ble_eq_true rfl, Nat.le_of_ble_eq_true rfl⟩) ⟨tq_b3, fun U hU hW9 => ⟨rfl, ⟨by rw [hU], by rw [hU]; exact hPc, va_K.moved hW9.alike hKc, hDc.weaken (fun _ _ _ _ => trivial)⟩, hZ.on hS hU hW9 hFc⟩⟩ rfl rfl hl.1 rfl (lv_room (Nat.le_of_ble_eq_true rfl)) qd_L_law_352 ⟨by show _ ≤ 601024; omega, by show _ ≤ 7293034; omega⟩) hS (fun q _ h => hFc q h) hFc (fun r9 u t9 H1 locs ht9 hvm hw hB hz1 hk1 hS => ?_)
    obtain ⟨hP1, hK1, hD1⟩ := hB
    rw [ht9] at hP1
    obtain ⟨hP, hD⟩ := va_join (wr := [(o, .inr (1, [.int w1, .int (nI n), .int (nI k), .int w4, .ref ca, .ref cb, .long z1, .long z2])), (ca, .inl (cA, (600, .inr (.inl f2)))), (cb, .inl (cA, (40, .inr (.inl g2))))]) (w1 := [(x, .inr (0, [.ref a, .int (nI n), .ref b, .int (nI k)])), (a, .inl (cA, (600, .inr (.inl f)))), (b, .inl (cA, (40, .inr (.inl g)))), (ao, .inl (cA, (1, .inr (.inl ow))))]) hP hD [0, 1, 2, 6] [3, 4, 5] rfl rfl (by decide) (by decide) hk1 hFc hP1 hD1
    generalize H1 = H at hP hS ⊢
    have hP : va_P (dC, dI) tq_cl [(o, .inr (1, [.int w1, .int (nI n), .int (nI k), .int w4, .ref ca, .ref cb, .long z1, .long z2])), (ca, .inl (cA, (600, .inr (.inl f2)))), (cb, .inl (cA, (40, .inr (.inl g2)))), (x, .inr (0, [.ref a, .int (nI n), .ref b, .int (nI k)])), (a, .inl (cA, (600, .inr (.inl f)))), (b, .inl (cA, (40, .inr (.inl g)))), (ao, .inl (cA, (1, .inr (.inl ow))))] H := hP
    have hD : va_D A [(o, .inr (1, [.int w1, .int (nI n), .int (nI k), .int w4, .ref ca, .ref cb, .long z1, .long z2])), (ca, .inl (cA, (600, .inr (.inl f2)))), (cb, .inl (cA, (40, .inr (.inl g2)))), (x, .inr (0, [.ref a, .int (nI n), .ref b, .int (nI k)])), (a, .inl (cA, (600, .inr (.inl f)))), (b, .inl (cA, (40, .inr (.inl g)))), (ao, .inl (cA, (1, .inr (.inl ow))))] := hD
    have hw : r9 = nI 1 := hw
    subst hw
    refine lv_istore (lv' := [(5, .int (nI 1)), (4, .int (nI ix)), (0, .ref sb), (1, .ref x), (2, .ref o), (3, .ref ao)]) hx hb qd_L_law_355 hl (by decide) rfl (fun ls hl => ?_)
    refine lv_aload_n hx hb qd_L_law_357 rfl (lv_at hl 4 rfl) ?_
    refine lv_aload_n hx hb qd_L_law_358 rfl (lv_at hl 2 rfl) ?_
    refine lv_iload hx hb qd_L_law_359 (lv_at hl 1 rfl) ?_
    refine lv_iconst (v := nI 1) hx hb qd_L_law_361 (by decide +kernel) ?_
    refine lv_iadd hx hb qd_L_law_362 ?_
    refine tq_ti (y := nI (ix + 1)) (nI_add _ _) ?_
    refine tq_sld hx hb hX hbl hbA hS (j := ix + 1) (v := p1) (by omega) (by omega) e1 qd_L_law_363 ?_
    have hPc := hP.sub (ws' := [(o, .inr (1, [.int w1, .int (nI n), .int (nI k), .int w4, .ref ca, .ref cb, .long z1, .long z2])), (ca, .inl (cA, (600, .inr (.inl f2)))), (cb, .inl (cA, (40, .inr (.inl g2))))]) [0, 1, 2] rfl
    have hDc := hD.sub (ws' := [(o, .inr (1, [.int w1, .int (nI n), .int (nI k), .int w4, .ref ca, .ref cb, .long z1, .long z2])), (ca, .inl (cA, (600, .inr (.inl f2)))), (cb, .inl (cA, (40, .inr (.inl g2))))]) [0, 1, 2] (by decide) rfl
    have hKc := hK.sub (tys' := [(cA, .long)]) [0] rfl
    have hFc := va_free (wc := [(o, .inr (1, [.int w1, .int (nI n), .int (nI k), .int w4, .ref ca, .ref cb, .long z1, .long z2])), (ca, .inl (cA, (600, .inr (.inl f2)))), (cb, .inl (cA, (40, .inr (.inl g2))))]) hD hS hA [0, 1, 2] rfl
    refine va_calli (va_runV (As := [.int p1]) (rest := []) ⟨hx, hb, hml, hown, hW⟩ (ct_M_cut_no l dC dI o ca cb cA w1 n k w4 z1 z2 f2 g2 H.size p1 hq) (cwV 1 hW (tq_gV qm_318 qm_319 qm_320 qm_2 qm_321) rfl rfl rfl (by decide +kernel) ⟨Nat.le_of_ble_eq_true rfl, Nat.le_of_ble_eq_true rfl⟩) ⟨tq_b2, va_recv hKc hPc (ci := 1) (q0 := 0) rfl rfl, fun U hU hW9 => ⟨rfl, by rw [hU], by rw [hU]; exact hPc, va_K.moved hW9.alike hKc, hDc.weaken (fun _ _ _ _ => trivial)⟩⟩ rfl rfl hl.1 rfl (lv_room (Nat.le_of_ble_eq_true rfl)) qd_L_law_364 ⟨by show _ ≤ 601024; omega, by show _ ≤ 7293034; omega⟩) hS (fun q _ h => hFc q h) hFc (fun r9 u9 t9 H1 locs ht9 hvm hw hB hz1 hk1 hS => ?_)
    obtain ⟨hP1, hK1, hD1⟩ := hB
    rw [ht9] at hP1
    obtain ⟨hP, hD⟩ := va_join (wr := [(x, .inr (0, [.ref a, .int (nI n), .ref b, .int (nI k)])), (a, .inl (cA, (600, .inr (.inl f)))), (b, .inl (cA, (40, .inr (.inl g)))), (ao, .inl (cA, (1, .inr (.inl ow))))]) (w1 := [(o, .inr (1, [.int (nI 1), .int (nI n), .int (nI k), .int w4, .ref ca, .ref cb, .long z1, .long z2])), (ca, .inl (cA, (600, .inr (.inl f2)))), (cb, .inl (cA, (40, .inr (.inl g2))))]) hP hD [0, 1, 2] [3, 4, 5, 6] rfl rfl (by decide) (by decide) hk1 hFc hP1 hD1
    generalize H1 = H at hP hS ⊢
    have hP : va_P (dC, dI) tq_cl [(x, .inr (0, [.ref a, .int (nI n), .ref b, .int (nI k)])), (a, .inl (cA, (600, .inr (.inl f)))), (b, .inl (cA, (40, .inr (.inl g)))), (ao, .inl (cA, (1, .inr (.inl ow)))), (o, .inr (1, [.int (nI 1), .int (nI n), .int (nI k), .int w4, .ref ca, .ref cb, .long z1, .long z2])), (ca, .inl (cA, (600, .inr (.inl f2)))), (cb, .inl (cA, (40, .inr (.inl g2))))] H := hP
    have hD : va_D A [(x, .inr (0, [.ref a, .int (nI n), .ref b, .int (nI k)])), (a, .inl (cA, (600, .inr (.inl f)))), (b, .inl (cA, (40, .inr (.inl g)))), (ao, .inl (cA, (1, .inr (.inl ow)))), (o, .inr (1, [.int (nI 1), .int (nI n), .int (nI k), .int w4, .ref ca, .ref cb, .long z1, .long z2])), (ca, .inl (cA, (600, .inr (.inl f2)))), (cb, .inl (cA, (40, .inr (.inl g2))))] := hD
    have hw : r9 = nI 0 := hw
    subst hw
    refine lv_istore (lv' := [(6, .int (nI 0)), (5, .int (nI 1)), (4, .int (nI ix)), (0, .ref sb), (1, .ref x), (2, .ref o), (3, .ref ao)]) hx hb qd_L_law_367 hl (by decide) rfl (fun ls hl => ?_)
    refine lv_aload_n hx hb qd_L_law_369 rfl (lv_at hl 5 rfl) ?_
    refine vp_callSi (W.runV (As := []) (rest := []) ⟨hx, hb, hml, hown, hW⟩ (ct_M_thrown l dC dI o ca cb cA (nI 1) n k w4 z1 z2 f2 g2) (cwV 0 hW (tq_gV qm_306 qm_307 qm_308 qm_2 qm_309) rfl rfl rfl (by decide +kernel) ⟨Nat.le_of_ble_eq_true rfl, Nat.le_of_ble_eq_true rfl⟩) ⟨tq_b1, va_recv hK hP (ci := 1) (q0 := 4) rfl rfl, fun U hU hW9 => ⟨rfl, by rw [hU]; exact hP.sub [4, 5, 6] rfl, va_K.moved hW9.alike (hK.sub [0] rfl)⟩⟩ rfl rfl hl.1 rfl (lv_room (Nat.le_of_ble_eq_true rfl)) qd_L_law_370 ⟨by show _ ≤ 601024; omega, by show _ ≤ 7293034; omega⟩) (fun r9 e9 => ?_)
    subst e9
    refine lv_iload hx hb qd_L_law_373 (lv_at hl 1 rfl) ?_
    refine tq_icmp_eq (x := 1) (y := 1) (tgt := 380) hx hb qd_L_law_375 (by decide) (by omega) (by omega) (fun c8 => ?_) (fun c9 => by omega)
    refine lv_iload hx hb qd_L_law_380 (lv_at hl 1 rfl) ?_
    refine tq_if_ne (x := 1) (tgt := 397) hx hb qd_L_law_382 (by decide) (by omega) (fun c7 => ?_) (fun c9 => by omega)
    refine lv_goto (tgt := 1247) hx hb qd_L_law_397 (by decide) ?_
    refine W.widen (k := cells + 1) (n := slots + 6) (by omega) (by omega) ?_
    exact cont n k f g (nI 1) w4 z1 z2 f2 g2 ow _ _ _ hR (hP.sub [0, 1, 2, 4, 5, 6, 3] rfl) (hD.sub [0, 1, 2, 4, 5, 6, 3] (by decide) rfl) hS (lv_sub hl [2, 3, 4, 5, 6] rfl)
  · obtain ⟨j, hj, rfl⟩ := tq_ok1 (by omega) hq
    refine lv_aload_n hx hb qd_L_law_344 rfl (lv_at hl 2 rfl) ?_
    refine lv_aload_n hx hb qd_L_law_345 rfl (lv_at hl 1 rfl) ?_
    refine lv_iload hx hb qd_L_law_346 (lv_at hl 0 rfl) ?_
    refine lv_iconst (v := nI 1) hx hb qd_L_law_348 (by decide +kernel) ?_
    refine lv_iadd hx hb qd_L_law_349 ?_
    refine tq_ti (y := nI (ix + 1)) (nI_add _ _) ?_
    refine tq_sld hx hb hX hbl hbA hS (j := ix + 1) (v := (nI j)) (by omega) (by omega) e1 qd_L_law_350 ?_
    refine lv_aload_n hx hb qd_L_law_351 rfl (lv_at hl 4 rfl) ?_
    have hPc := hP.sub (ws' := [(x, .inr (0, [.ref a, .int (nI n), .ref b, .int (nI k)])), (a, .inl (cA, (600, .inr (.inl f)))), (b, .inl (cA, (40, .inr (.inl g)))), (ao, .inl (cA, (1, .inr (.inl ow))))]) [0, 1, 2, 6] rfl
    have hDc := hD.sub (ws' := [(x, .inr (0, [.ref a, .int (nI n), .ref b, .int (nI k)])), (a, .inl (cA, (600, .inr (.inl f)))), (b, .inl (cA, (40, .inr (.inl g)))), (ao, .inl (cA, (1, .inr (.inl ow))))]) [0, 1, 2, 6] (by decide) rfl
    have hKc := hK.sub (tys' := [(cA, .long)]) [0] rfl
    have hFc := va_free (wc := [(x, .inr (0, [.ref a, .int (nI n), .ref b, .int (nI k)])), (a, .inl (cA, (600, .inr (.inl f)))), (b, .inl (cA, (40, .inr (.inl g)))), (ao, .inl (cA, (1, .inr (.inl ow))))]) hD hS hA [0, 1, 2, 6] rfl
    refine va_calli (vx_runSW (As := [.ref x, .int (nI j), .ref ao]) (rest := []) ⟨hx, hb, hml, hown, hW⟩ (ct_L_cut l dC dI x a b cA n k f g ao ow H.size j hj hn6) (vx_cwSW 3 hW (tq_gSa qm_177 qm_178 qm_0 qm_179) rfl rfl rfl (by decide +kernel) ⟨Nat.le_of_ble_eq_true rfl, Nat.le_of_ble_eq_true rfl⟩) ⟨tq_b2, fun U hU hW9 => ⟨rfl, by rw [hU], by rw [hU]; exact hPc, va_K.moved hW9.alike hKc, hDc.weaken (fun _ _ _ _ => trivial)⟩⟩ rfl rfl hl.1 rfl (lv_room (Nat.le_of_ble_eq_true rfl)) qd_L_law_352 ⟨by show _ ≤ 601024; omega, by show _ ≤ 7293034; omega⟩) hS (fun q _ h => hFc q h) hFc (fun r9 u t9 H1 locs ht9 hvm hw hB hz1 hk1 hS => ?_)
    obtain ⟨hP1, hK1, hD1⟩ := hB
    rw [ht9] at hP1
    obtain ⟨hP, hD⟩ := va_join (wr := [(o, .inr (1, [.int w1, .int (nI n), .int (nI k), .int w4, .ref ca, .ref cb, .long z1, .long z2])), (ca, .inl (cA, (600, .inr (.inl f2)))), (cb, .inl (cA, (40, .inr (.inl g2))))]) (w1 := [(x, .inr (0, [.ref a, .int (nI j), .ref b, .int (nI k)])), (a, .inl (cA, (600, .inr (.inl f)))), (b, .inl (cA, (40, .inr (.inl g)))), (ao, .inl (cA, (1, .inr (.inl (vp_updL ow 0 ((nI (n - j)).toInt64))))))]) hP hD [0, 1, 2, 6] [3, 4, 5] rfl rfl (by decide) (by decide) hk1 hFc hP1 hD1
    generalize H1 = H at hP hS ⊢
    have hP : va_P (dC, dI) tq_cl [(o, .inr (1, [.int w1, .int (nI n), .int (nI k), .int w4, .ref ca, .ref cb, .long z1, .long z2])), (ca, .inl (cA, (600, .inr (.inl f2)))), (cb, .inl (cA, (40, .inr (.inl g2)))), (x, .inr (0, [.ref a, .int (nI j), .ref b, .int (nI k)])), (a, .inl (cA, (600, .inr (.inl f)))), (b, .inl (cA, (40, .inr (.inl g)))), (ao, .inl (cA, (1, .inr (.inl (vp_updL ow 0 ((nI (n - j)).toInt64))))))] H := hP
    have hD : va_D A [(o, .inr (1, [.int w1, .int (nI n), .int (nI k), .int w4, .ref ca, .ref cb, .long z1, .long z2])), (ca, .inl (cA, (600, .inr (.inl f2)))), (cb, .inl (cA, (40, .inr (.inl g2)))), (x, .inr (0, [.ref a, .int (nI j), .ref b, .int (nI k)])), (a, .inl (cA, (600, .inr (.inl f)))), (b, .inl (cA, (40, .inr (.inl g)))), (ao, .inl (cA, (1, .inr (.inl (vp_updL ow 0 ((nI (n - j)).toInt64))))))] := hD
    have hw : r9 = nI 0 := hw
    subst hw
    refine lv_istore (lv' := [(5, .int (nI 0)), (4, .int (nI ix)), (0, .ref sb), (1, .ref x), (2, .ref o), (3, .ref ao)]) hx hb qd_L_law_355 hl (by decide) rfl (fun ls hl => ?_)
    refine lv_aload_n hx hb qd_L_law_357 rfl (lv_at hl 4 rfl) ?_
    refine lv_aload_n hx hb qd_L_law_358 rfl (lv_at hl 2 rfl) ?_
    refine lv_iload hx hb qd_L_law_359 (lv_at hl 1 rfl) ?_
    refine lv_iconst (v := nI 1) hx hb qd_L_law_361 (by decide +kernel) ?_
    refine lv_iadd hx hb qd_L_law_362 ?_
    refine tq_ti (y := nI (ix + 1)) (nI_add _ _) ?_
    refine tq_sld hx hb hX hbl hbA hS (j := ix + 1) (v := (nI j)) (by omega) (by omega) e1 qd_L_law_363 ?_
    have hPc := hP.sub (ws' := [(o, .inr (1, [.int w1, .int (nI n), .int (nI k), .int w4, .ref ca, .ref cb, .long z1, .long z2])), (ca, .inl (cA, (600, .inr (.inl f2)))), (cb, .inl (cA, (40, .inr (.inl g2))))]) [0, 1, 2] rfl
    have hDc := hD.sub (ws' := [(o, .inr (1, [.int w1, .int (nI n), .int (nI k), .int w4, .ref ca, .ref cb, .long z1, .long z2])), (ca, .inl (cA, (600, .inr (.inl f2)))), (cb, .inl (cA, (40, .inr (.inl g2))))]) [0, 1, 2] (by decide) rfl
    have hKc := hK.sub (tys' := [(cA, .long)]) [0] rfl
    have hFc := va_free (wc := [(o, .inr (1, [.int w1, .int (nI n), .int (nI k), .int w4, .ref ca, .ref cb, .long z1, .long z2])), (ca, .inl (cA, (600, .inr (.inl f2)))), (cb, .inl (cA, (40, .inr (.inl g2))))]) hD hS hA [0, 1, 2] rfl
    refine va_calli (va_runV (As := [.int (nI j)]) (rest := []) ⟨hx, hb, hml, hown, hW⟩ (ct_M_cut l dC dI o ca cb cA w1 n k w4 z1 z2 f2 g2 H.size j hj hn6) (cwV 1 hW (tq_gV qm_318 qm_319 qm_320 qm_2 qm_321) rfl rfl rfl (by decide +kernel) ⟨Nat.le_of_ble_eq_true rfl, Nat.le_of_ble_eq_true rfl⟩) ⟨tq_b2, va_recv hKc hPc (ci := 1) (q0 := 0) rfl rfl, fun U hU hW9 => ⟨rfl, by rw [hU], by rw [hU]; exact hPc, va_K.moved hW9.alike hKc, hDc.weaken (fun _ _ _ _ => trivial)⟩⟩ rfl rfl hl.1 rfl (lv_room (Nat.le_of_ble_eq_true rfl)) qd_L_law_364 ⟨by show _ ≤ 601024; omega, by show _ ≤ 7293034; omega⟩) hS (fun q _ h => hFc q h) hFc (fun r9 u9 t9 H1 locs ht9 hvm hw hB hz1 hk1 hS => ?_)
    obtain ⟨hP1, hK1, hD1⟩ := hB
    rw [ht9] at hP1
    obtain ⟨hP, hD⟩ := va_join (wr := [(x, .inr (0, [.ref a, .int (nI j), .ref b, .int (nI k)])), (a, .inl (cA, (600, .inr (.inl f)))), (b, .inl (cA, (40, .inr (.inl g)))), (ao, .inl (cA, (1, .inr (.inl (vp_updL ow 0 ((nI (n - j)).toInt64))))))]) (w1 := [(o, .inr (1, [.int (nI 0), .int (nI j), .int (nI k), .int w4, .ref ca, .ref cb, .long z1, .long z2])), (ca, .inl (cA, (600, .inr (.inl f2)))), (cb, .inl (cA, (40, .inr (.inl g2))))]) hP hD [0, 1, 2] [3, 4, 5, 6] rfl rfl (by decide) (by decide) hk1 hFc hP1 hD1
    generalize H1 = H at hP hS ⊢
    have hP : va_P (dC, dI) tq_cl [(x, .inr (0, [.ref a, .int (nI j), .ref b, .int (nI k)])), (a, .inl (cA, (600, .inr (.inl f)))), (b, .inl (cA, (40, .inr (.inl g)))), (ao, .inl (cA, (1, .inr (.inl (vp_updL ow 0 ((nI (n - j)).toInt64)))))), (o, .inr (1, [.int (nI 0), .int (nI j), .int (nI k), .int w4, .ref ca, .ref cb, .long z1, .long z2])), (ca, .inl (cA, (600, .inr (.inl f2)))), (cb, .inl (cA, (40, .inr (.inl g2))))] H := hP
    have hD : va_D A [(x, .inr (0, [.ref a, .int (nI j), .ref b, .int (nI k)])), (a, .inl (cA, (600, .inr (.inl f)))), (b, .inl (cA, (40, .inr (.inl g)))), (ao, .inl (cA, (1, .inr (.inl (vp_updL ow 0 ((nI (n - j)).toInt64)))))), (o, .inr (1, [.int (nI 0), .int (nI j), .int (nI k), .int w4, .ref ca, .ref cb, .long z1, .long z2])), (ca, .inl (cA, (600, .inr (.inl f2)))), (cb, .inl (cA, (40, .inr (.inl g2))))] := hD
    have hw : r9 = nI (n - j) := hw
    subst hw
    refine lv_istore (lv' := [(6, .int (nI (n - j))), (5, .int (nI 0)), (4, .int (nI ix)), (0, .ref sb), (1, .ref x), (2, .ref o), (3, .ref ao)]) hx hb qd_L_law_367 hl (by decide) rfl (fun ls hl => ?_)
    refine lv_aload_n hx hb qd_L_law_369 rfl (lv_at hl 5 rfl) ?_
    refine vp_callSi (W.runV (As := []) (rest := []) ⟨hx, hb, hml, hown, hW⟩ (ct_M_thrown l dC dI o ca cb cA (nI 0) j k w4 z1 z2 f2 g2) (cwV 0 hW (tq_gV qm_306 qm_307 qm_308 qm_2 qm_309) rfl rfl rfl (by decide +kernel) ⟨Nat.le_of_ble_eq_true rfl, Nat.le_of_ble_eq_true rfl⟩) ⟨tq_b1, va_recv hK hP (ci := 1) (q0 := 4) rfl rfl, fun U hU hW9 => ⟨rfl, by rw [hU]; exact hP.sub [4, 5, 6] rfl, va_K.moved hW9.alike (hK.sub [0] rfl)⟩⟩ rfl rfl hl.1 rfl (lv_room (Nat.le_of_ble_eq_true rfl)) qd_L_law_370 ⟨by show _ ≤ 601024; omega, by show _ ≤ 7293034; omega⟩) (fun r9 e9 => ?_)
    subst e9
    refine lv_iload hx hb qd_L_law_373 (lv_at hl 1 rfl) ?_
    refine tq_icmp_eq (x := 0) (y := 0) (tgt := 380) hx hb qd_L_law_375 (by decide) (by omega) (by omega) (fun c8 => ?_) (fun c9 => by omega)
    refine lv_iload hx hb qd_L_law_380 (lv_at hl 1 rfl) ?_
    refine tq_if_ne (x := 0) (tgt := 397) hx hb qd_L_law_382 (by decide) (by omega) (fun c9 => by omega) (fun c7 => ?_)
    refine lv_aload_n hx hb qd_L_law_385 rfl (lv_at hl 6 rfl) ?_
    refine lv_iconst (v := nI 0) hx hb qd_L_law_386 (by decide +kernel) ?_
    refine tq_lald hx hb hK hP 3 0 rfl rfl (j := 0) (by omega) (by decide) qd_L_law_387 ?_
    refine tq_tl (y := (nI (n - j)).toInt64) (pk_uLs) ?_
    refine lv_iload hx hb qd_L_law_388 (lv_at hl 0 rfl) ?_
    refine lv_i2l (v := (nI (n - j)).toInt64) hx hb qd_L_law_390 rfl ?_
    refine tq_lc_eq (tgt := 397) hx hb qd_L_law_391 qd_L_law_392 (by decide) (fun c6 => ?_) (fun c9 => absurd rfl c9)
    refine lv_goto (tgt := 1247) hx hb qd_L_law_397 (by decide) ?_
    refine W.widen (k := cells + 1) (n := slots + 6) (by omega) (by omega) ?_
    exact cont j k f g (nI 0) w4 z1 z2 f2 g2 (vp_updL ow 0 ((nI (n - j)).toInt64)) _ _ _ (hR.cut hj) (hP.sub [0, 1, 2, 4, 5, 6, 3] rfl) (hD.sub [0, 1, 2, 4, 5, 6, 3] (by decide) rfl) hS (lv_sub hl [2, 3, 4, 5, 6] rfl)
set_option maxHeartbeats 4000000 in
set_option maxRecDepth 100000 in
/-- head -/
theorem lq_c3 (p : Program) (l : Launch) (e : Env) (s : State) (m : MethodId) (below : List Frame) (meth : Method) (c : Code) (sb L : Nat) (xs : Nat → Int32) (dC : Nat → ClassId) (dI : Nat → Nat → Nat) (x a b o ca cb ao : Nat) (cA : ClassId) (A : Nat → Prop) (C9 : lq_F p l e s m below meth c sb L xs dC dI x a b o ca cb ao cA A) (ix cells slots : Nat) (hi : ix + 7 ≤ L) (hc1 : cells + 1 ≤ 601024) (hs1 : slots + 6 ≤ 7293034) (cont : lq_N p l e s m below meth c sb L xs dC dI x a b o ca cb ao cA A ix (cells + 1) (slots + 6) 1247) : lq_N p l e s m below meth c sb L xs dC dI x a b o ca cb ao cA A ix cells slots 400 := by
  intro n k f g w1 w4 z1 z2 f2 g2 ow H locs ls hR hP hD hS hl
  obtain ⟨hx, hb, hml, hown, hW, hst, hA, hX, hbl, hbA, hZ, hK, hL⟩ := id C9
  have hn6 := hR.1
  have hk4 := hR.2.1
  obtain ⟨p1, e1⟩ : ∃ z9 : Int32, xs (ix + 1) = z9 := ⟨_, rfl⟩
  by_cases hq : p1 < 0 ∨ nI n < p1
  · refine lv_aload_n hx hb qd_L_law_400 rfl (lv_at hl 2 rfl) ?_
    refine lv_aload_n hx hb qd_L_law_401 rfl (lv_at hl 1 rfl) ?_
    refine lv_iload hx hb qd_L_law_402 (lv_at hl 0 rfl) ?_
    refine lv_iconst (v := nI 1) hx hb qd_L_law_404 (by decide +kernel) ?_
    refine lv_iadd hx hb qd_L_law_405 ?_
    refine tq_ti (y := nI (ix + 1)) (nI_add _ _) ?_
    refine tq_sld hx hb hX hbl hbA hS (j := ix + 1) (v := p1) (by omega) (by omega) e1 qd_L_law_406 ?_
    refine lv_aload_n hx hb qd_L_law_407 rfl (lv_at hl 4 rfl) ?_
    have hPc := hP.sub (ws' := [(x, .inr (0, [.ref a, .int (nI n), .ref b, .int (nI k)])), (a, .inl (cA, (600, .inr (.inl f)))), (b, .inl (cA, (40, .inr (.inl g)))), (ao, .inl (cA, (1, .inr (.inl ow))))]) [0, 1, 2, 6] rfl
    have hDc := hD.sub (ws' := [(x, .inr (0, [.ref a, .int (nI n), .ref b, .int (nI k)])), (a, .inl (cA, (600, .inr (.inl f)))), (b, .inl (cA, (40, .inr (.inl g)))), (ao, .inl (cA, (1, .inr (.inl ow))))]) [0, 1, 2, 6] (by decide) rfl
    have hKc := hK.sub (tys' := [(cA, .long)]) [0] rfl
    have hFc := va_free (wc := [(x, .inr (0, [.ref a, .int (nI n), .ref b, .int (nI k)])), (a, .inl (cA, (600, .inr (.inl f)))), (b, .inl (cA, (40, .inr (.inl g)))), (ao, .inl (cA, (1, .inr (.inl ow))))]) hD hS hA [0, 1, 2, 6] rfl
    refine va_calli (vx_runSW (As := [.ref x, .int p1, .ref ao]) (rest := []) ⟨hx, hb, hml, hown, hW⟩ (cx_L_head l dC dI x a b cA n k f g ao ow H.size hst p1 hq) (vx_cwSW 3 hW (tq_gSa qm_184 qm_185 qm_0 qm_186) rfl rfl rfl (by decide +kernel) ⟨Nat.le_of_ble_eq_true rfl, Nat.le_of_ble_eq_true rfl⟩) ⟨tq_b3, fun U hU hW9 => ⟨rfl, ⟨by rw [hU], by rw [hU]; exact hPc, va_K.moved hW9.alike hKc, hDc.weaken (fun _ _ _ _ => trivial)⟩, hZ.on hS hU hW9 hFc⟩⟩ rfl rfl hl.1 rfl (lv_room (Nat.le_of_ble_eq_true rfl)) qd_L_law_408 ⟨by show _ ≤ 601024; omega, by show _ ≤ 7293034; omega⟩) hS (fun q _ h => hFc q h) hFc (fun r9 u t9 H1 locs ht9 hvm hw hB hz1 hk1 hS => ?_)
    obtain ⟨hP1, hK1, hD1⟩ := hB
    rw [ht9] at hP1
    obtain ⟨hP, hD⟩ := va_join (wr := [(o, .inr (1, [.int w1, .int (nI n), .int (nI k), .int w4, .ref ca, .ref cb, .long z1, .long z2])), (ca, .inl (cA, (600, .inr (.inl f2)))), (cb, .inl (cA, (40, .inr (.inl g2))))]) (w1 := [(x, .inr (0, [.ref a, .int (nI n), .ref b, .int (nI k)])), (a, .inl (cA, (600, .inr (.inl f)))), (b, .inl (cA, (40, .inr (.inl g)))), (ao, .inl (cA, (1, .inr (.inl ow))))]) hP hD [0, 1, 2, 6] [3, 4, 5] rfl rfl (by decide) (by decide) hk1 hFc hP1 hD1
    generalize H1 = H at hP hS ⊢
    have hP : va_P (dC, dI) tq_cl [(o, .inr (1, [.int w1, .int (nI n), .int (nI k), .int w4, .ref ca, .ref cb, .long z1, .long z2])), (ca, .inl (cA, (600, .inr (.inl f2)))), (cb, .inl (cA, (40, .inr (.inl g2)))), (x, .inr (0, [.ref a, .int (nI n), .ref b, .int (nI k)])), (a, .inl (cA, (600, .inr (.inl f)))), (b, .inl (cA, (40, .inr (.inl g)))), (ao, .inl (cA, (1, .inr (.inl ow))))] H := hP
    have hD : va_D A [(o, .inr (1, [.int w1, .int (nI n), .int (nI k), .int w4, .ref ca, .ref cb, .long z1, .long z2])), (ca, .inl (cA, (600, .inr (.inl f2)))), (cb, .inl (cA, (40, .inr (.inl g2)))), (x, .inr (0, [.ref a, .int (nI n), .ref b, .int (nI k)])), (a, .inl (cA, (600, .inr (.inl f)))), (b, .inl (cA, (40, .inr (.inl g)))), (ao, .inl (cA, (1, .inr (.inl ow))))] := hD
    have hw : r9 = nI 1 := hw
    subst hw
    refine lv_istore (lv' := [(5, .int (nI 1)), (4, .int (nI ix)), (0, .ref sb), (1, .ref x), (2, .ref o), (3, .ref ao)]) hx hb qd_L_law_411 hl (by decide) rfl (fun ls hl => ?_)
    refine lv_aload_n hx hb qd_L_law_413 rfl (lv_at hl 4 rfl) ?_
    refine lv_aload_n hx hb qd_L_law_414 rfl (lv_at hl 2 rfl) ?_
    refine lv_iload hx hb qd_L_law_415 (lv_at hl 1 rfl) ?_
    refine lv_iconst (v := nI 1) hx hb qd_L_law_417 (by decide +kernel) ?_
    refine lv_iadd hx hb qd_L_law_418 ?_
    refine tq_ti (y := nI (ix + 1)) (nI_add _ _) ?_
    refine tq_sld hx hb hX hbl hbA hS (j := ix + 1) (v := p1) (by omega) (by omega) e1 qd_L_law_419 ?_
    have hPc := hP.sub (ws' := [(o, .inr (1, [.int w1, .int (nI n), .int (nI k), .int w4, .ref ca, .ref cb, .long z1, .long z2])), (ca, .inl (cA, (600, .inr (.inl f2)))), (cb, .inl (cA, (40, .inr (.inl g2))))]) [0, 1, 2] rfl
    have hDc := hD.sub (ws' := [(o, .inr (1, [.int w1, .int (nI n), .int (nI k), .int w4, .ref ca, .ref cb, .long z1, .long z2])), (ca, .inl (cA, (600, .inr (.inl f2)))), (cb, .inl (cA, (40, .inr (.inl g2))))]) [0, 1, 2] (by decide) rfl
    have hKc := hK.sub (tys' := [(cA, .long)]) [0] rfl
    have hFc := va_free (wc := [(o, .inr (1, [.int w1, .int (nI n), .int (nI k), .int w4, .ref ca, .ref cb, .long z1, .long z2])), (ca, .inl (cA, (600, .inr (.inl f2)))), (cb, .inl (cA, (40, .inr (.inl g2))))]) hD hS hA [0, 1, 2] rfl
    refine va_calll (va_runV (As := [.int p1]) (rest := []) ⟨hx, hb, hml, hown, hW⟩ (ct_M_head_no l dC dI o ca cb cA w1 n k w4 z1 z2 f2 g2 H.size p1 hq) (cwV 1 hW (tq_gV qm_322 qm_323 qm_324 qm_2 qm_325) rfl rfl rfl (by decide +kernel) ⟨Nat.le_of_ble_eq_true rfl, Nat.le_of_ble_eq_true rfl⟩) ⟨tq_b2, va_recv hKc hPc (ci := 1) (q0 := 0) rfl rfl, fun U hU hW9 => ⟨rfl, by rw [hU], by rw [hU]; exact hPc, va_K.moved hW9.alike hKc, hDc.weaken (fun _ _ _ _ => trivial)⟩⟩ rfl rfl hl.1 rfl (lv_room (Nat.le_of_ble_eq_true rfl)) qd_L_law_420 ⟨by show _ ≤ 601024; omega, by show _ ≤ 7293034; omega⟩) hS (fun q _ h => hFc q h) hFc (fun r9 u9 t9 H1 locs ht9 hvm hw hB hz1 hk1 hS => ?_)
    obtain ⟨hP1, hK1, hD1⟩ := hB
    rw [ht9] at hP1
    obtain ⟨hP, hD⟩ := va_join (wr := [(x, .inr (0, [.ref a, .int (nI n), .ref b, .int (nI k)])), (a, .inl (cA, (600, .inr (.inl f)))), (b, .inl (cA, (40, .inr (.inl g)))), (ao, .inl (cA, (1, .inr (.inl ow))))]) (w1 := [(o, .inr (1, [.int (nI 1), .int (nI n), .int (nI k), .int w4, .ref ca, .ref cb, .long z1, .long z2])), (ca, .inl (cA, (600, .inr (.inl f2)))), (cb, .inl (cA, (40, .inr (.inl g2))))]) hP hD [0, 1, 2] [3, 4, 5, 6] rfl rfl (by decide) (by decide) hk1 hFc hP1 hD1
    generalize H1 = H at hP hS ⊢
    have hP : va_P (dC, dI) tq_cl [(x, .inr (0, [.ref a, .int (nI n), .ref b, .int (nI k)])), (a, .inl (cA, (600, .inr (.inl f)))), (b, .inl (cA, (40, .inr (.inl g)))), (ao, .inl (cA, (1, .inr (.inl ow)))), (o, .inr (1, [.int (nI 1), .int (nI n), .int (nI k), .int w4, .ref ca, .ref cb, .long z1, .long z2])), (ca, .inl (cA, (600, .inr (.inl f2)))), (cb, .inl (cA, (40, .inr (.inl g2))))] H := hP
    have hD : va_D A [(x, .inr (0, [.ref a, .int (nI n), .ref b, .int (nI k)])), (a, .inl (cA, (600, .inr (.inl f)))), (b, .inl (cA, (40, .inr (.inl g)))), (ao, .inl (cA, (1, .inr (.inl ow)))), (o, .inr (1, [.int (nI 1), .int (nI n), .int (nI k), .int w4, .ref ca, .ref cb, .long z1, .long z2])), (ca, .inl (cA, (600, .inr (.inl f2)))), (cb, .inl (cA, (40, .inr (.inl g2))))] := hD
    have hw : r9 = 0 := hw
    subst hw
    refine lv_lstore (lv' := [(6, .long 0), (5, .int (nI 1)), (4, .int (nI ix)), (0, .ref sb), (1, .ref x), (2, .ref o), (3, .ref ao)]) hx hb qd_L_law_423 hl (by decide) rfl (fun ls hl => ?_)
    refine lv_aload_n hx hb qd_L_law_425 rfl (lv_at hl 5 rfl) ?_
    refine vp_callSi (W.runV (As := []) (rest := []) ⟨hx, hb, hml, hown, hW⟩ (ct_M_thrown l dC dI o ca cb cA (nI 1) n k w4 z1 z2 f2 g2) (cwV 0 hW (tq_gV qm_306 qm_307 qm_308 qm_2 qm_309) rfl rfl rfl (by decide +kernel) ⟨Nat.le_of_ble_eq_true rfl, Nat.le_of_ble_eq_true rfl⟩) ⟨tq_b1, va_recv hK hP (ci := 1) (q0 := 4) rfl rfl, fun U hU hW9 => ⟨rfl, by rw [hU]; exact hP.sub [4, 5, 6] rfl, va_K.moved hW9.alike (hK.sub [0] rfl)⟩⟩ rfl rfl hl.1 rfl (lv_room (Nat.le_of_ble_eq_true rfl)) qd_L_law_426 ⟨by show _ ≤ 601024; omega, by show _ ≤ 7293034; omega⟩) (fun r9 e9 => ?_)
    subst e9
    refine lv_iload hx hb qd_L_law_429 (lv_at hl 1 rfl) ?_
    refine tq_icmp_eq (x := 1) (y := 1) (tgt := 436) hx hb qd_L_law_431 (by decide) (by omega) (by omega) (fun c8 => ?_) (fun c9 => by omega)
    refine lv_iload hx hb qd_L_law_436 (lv_at hl 1 rfl) ?_
    refine tq_if_ne (x := 1) (tgt := 452) hx hb qd_L_law_438 (by decide) (by omega) (fun c7 => ?_) (fun c9 => by omega)
    refine lv_goto (tgt := 1247) hx hb qd_L_law_452 (by decide) ?_
    refine W.widen (k := cells + 1) (n := slots + 6) (by omega) (by omega) ?_
    exact cont n k f g (nI 1) w4 z1 z2 f2 g2 ow _ _ _ hR (hP.sub [0, 1, 2, 4, 5, 6, 3] rfl) (hD.sub [0, 1, 2, 4, 5, 6, 3] (by decide) rfl) hS (lv_sub hl [2, 3, 4, 5, 6] rfl)
  · obtain ⟨j, hj, rfl⟩ := tq_ok1 (by omega) hq
    refine lv_aload_n hx hb qd_L_law_400 rfl (lv_at hl 2 rfl) ?_
    refine lv_aload_n hx hb qd_L_law_401 rfl (lv_at hl 1 rfl) ?_
    refine lv_iload hx hb qd_L_law_402 (lv_at hl 0 rfl) ?_
    refine lv_iconst (v := nI 1) hx hb qd_L_law_404 (by decide +kernel) ?_
    refine lv_iadd hx hb qd_L_law_405 ?_
    refine tq_ti (y := nI (ix + 1)) (nI_add _ _) ?_
    refine tq_sld hx hb hX hbl hbA hS (j := ix + 1) (v := (nI j)) (by omega) (by omega) e1 qd_L_law_406 ?_
    refine lv_aload_n hx hb qd_L_law_407 rfl (lv_at hl 4 rfl) ?_
    have hPc := hP.sub (ws' := [(x, .inr (0, [.ref a, .int (nI n), .ref b, .int (nI k)])), (a, .inl (cA, (600, .inr (.inl f)))), (b, .inl (cA, (40, .inr (.inl g)))), (ao, .inl (cA, (1, .inr (.inl ow))))]) [0, 1, 2, 6] rfl
    have hDc := hD.sub (ws' := [(x, .inr (0, [.ref a, .int (nI n), .ref b, .int (nI k)])), (a, .inl (cA, (600, .inr (.inl f)))), (b, .inl (cA, (40, .inr (.inl g)))), (ao, .inl (cA, (1, .inr (.inl ow))))]) [0, 1, 2, 6] (by decide) rfl
    have hKc := hK.sub (tys' := [(cA, .long)]) [0] rfl
    have hFc := va_free (wc := [(x, .inr (0, [.ref a, .int (nI n), .ref b, .int (nI k)])), (a, .inl (cA, (600, .inr (.inl f)))), (b, .inl (cA, (40, .inr (.inl g)))), (ao, .inl (cA, (1, .inr (.inl ow))))]) hD hS hA [0, 1, 2, 6] rfl
    refine va_calli (vx_runSW (As := [.ref x, .int (nI j), .ref ao]) (rest := []) ⟨hx, hb, hml, hown, hW⟩ (ct_L_head l dC dI x a b cA n k f g ao ow H.size j hj hn6) (vx_cwSW 3 hW (tq_gSa qm_184 qm_185 qm_0 qm_186) rfl rfl rfl (by decide +kernel) ⟨Nat.le_of_ble_eq_true rfl, Nat.le_of_ble_eq_true rfl⟩) ⟨tq_b2, fun U hU hW9 => ⟨rfl, by rw [hU], by rw [hU]; exact hPc, va_K.moved hW9.alike hKc, hDc.weaken (fun _ _ _ _ => trivial)⟩⟩ rfl rfl hl.1 rfl (lv_room (Nat.le_of_ble_eq_true rfl)) qd_L_law_408 ⟨by show _ ≤ 601024; omega, by show _ ≤ 7293034; omega⟩) hS (fun q _ h => hFc q h) hFc (fun r9 u t9 H1 locs ht9 hvm hw hB hz1 hk1 hS => ?_)
    obtain ⟨hP1, hK1, hD1⟩ := hB
    rw [ht9] at hP1
    obtain ⟨hP, hD⟩ := va_join (wr := [(o, .inr (1, [.int w1, .int (nI n), .int (nI k), .int w4, .ref ca, .ref cb, .long z1, .long z2])), (ca, .inl (cA, (600, .inr (.inl f2)))), (cb, .inl (cA, (40, .inr (.inl g2))))]) (w1 := [(x, .inr (0, [.ref a, .int (nI n), .ref b, .int (nI k)])), (a, .inl (cA, (600, .inr (.inl f)))), (b, .inl (cA, (40, .inr (.inl g)))), (ao, .inl (cA, (1, .inr (.inl (vp_updL ow 0 (tq_hd f 0 j))))))]) hP hD [0, 1, 2, 6] [3, 4, 5] rfl rfl (by decide) (by decide) hk1 hFc hP1 hD1
    generalize H1 = H at hP hS ⊢
    have hP : va_P (dC, dI) tq_cl [(o, .inr (1, [.int w1, .int (nI n), .int (nI k), .int w4, .ref ca, .ref cb, .long z1, .long z2])), (ca, .inl (cA, (600, .inr (.inl f2)))), (cb, .inl (cA, (40, .inr (.inl g2)))), (x, .inr (0, [.ref a, .int (nI n), .ref b, .int (nI k)])), (a, .inl (cA, (600, .inr (.inl f)))), (b, .inl (cA, (40, .inr (.inl g)))), (ao, .inl (cA, (1, .inr (.inl (vp_updL ow 0 (tq_hd f 0 j))))))] H := hP
    have hD : va_D A [(o, .inr (1, [.int w1, .int (nI n), .int (nI k), .int w4, .ref ca, .ref cb, .long z1, .long z2])), (ca, .inl (cA, (600, .inr (.inl f2)))), (cb, .inl (cA, (40, .inr (.inl g2)))), (x, .inr (0, [.ref a, .int (nI n), .ref b, .int (nI k)])), (a, .inl (cA, (600, .inr (.inl f)))), (b, .inl (cA, (40, .inr (.inl g)))), (ao, .inl (cA, (1, .inr (.inl (vp_updL ow 0 (tq_hd f 0 j))))))] := hD
    have hw : r9 = nI 0 := hw
    subst hw
    refine lv_istore (lv' := [(5, .int (nI 0)), (4, .int (nI ix)), (0, .ref sb), (1, .ref x), (2, .ref o), (3, .ref ao)]) hx hb qd_L_law_411 hl (by decide) rfl (fun ls hl => ?_)
    refine lv_aload_n hx hb qd_L_law_413 rfl (lv_at hl 4 rfl) ?_
    refine lv_aload_n hx hb qd_L_law_414 rfl (lv_at hl 2 rfl) ?_
    refine lv_iload hx hb qd_L_law_415 (lv_at hl 1 rfl) ?_
    refine lv_iconst (v := nI 1) hx hb qd_L_law_417 (by decide +kernel) ?_
    refine lv_iadd hx hb qd_L_law_418 ?_
    refine tq_ti (y := nI (ix + 1)) (nI_add _ _) ?_
    refine tq_sld hx hb hX hbl hbA hS (j := ix + 1) (v := (nI j)) (by omega) (by omega) e1 qd_L_law_419 ?_
    have hPc := hP.sub (ws' := [(o, .inr (1, [.int w1, .int (nI n), .int (nI k), .int w4, .ref ca, .ref cb, .long z1, .long z2])), (ca, .inl (cA, (600, .inr (.inl f2)))), (cb, .inl (cA, (40, .inr (.inl g2))))]) [0, 1, 2] rfl
    have hDc := hD.sub (ws' := [(o, .inr (1, [.int w1, .int (nI n), .int (nI k), .int w4, .ref ca, .ref cb, .long z1, .long z2])), (ca, .inl (cA, (600, .inr (.inl f2)))), (cb, .inl (cA, (40, .inr (.inl g2))))]) [0, 1, 2] (by decide) rfl
    have hKc := hK.sub (tys' := [(cA, .long)]) [0] rfl
    have hFc := va_free (wc := [(o, .inr (1, [.int w1, .int (nI n), .int (nI k), .int w4, .ref ca, .ref cb, .long z1, .long z2])), (ca, .inl (cA, (600, .inr (.inl f2)))), (cb, .inl (cA, (40, .inr (.inl g2))))]) hD hS hA [0, 1, 2] rfl
    refine va_calll (va_runV (As := [.int (nI j)]) (rest := []) ⟨hx, hb, hml, hown, hW⟩ (ct_M_head l dC dI o ca cb cA w1 n k w4 z1 z2 f2 g2 H.size j hj hn6) (cwV 1 hW (tq_gV qm_322 qm_323 qm_324 qm_2 qm_325) rfl rfl rfl (by decide +kernel) ⟨Nat.le_of_ble_eq_true rfl, Nat.le_of_ble_eq_true rfl⟩) ⟨tq_b2, va_recv hKc hPc (ci := 1) (q0 := 0) rfl rfl, fun U hU hW9 => ⟨rfl, by rw [hU], by rw [hU]; exact hPc, va_K.moved hW9.alike hKc, hDc.weaken (fun _ _ _ _ => trivial)⟩⟩ rfl rfl hl.1 rfl (lv_room (Nat.le_of_ble_eq_true rfl)) qd_L_law_420 ⟨by show _ ≤ 601024; omega, by show _ ≤ 7293034; omega⟩) hS (fun q _ h => hFc q h) hFc (fun r9 u9 t9 H1 locs ht9 hvm hw hB hz1 hk1 hS => ?_)
    obtain ⟨hP1, hK1, hD1⟩ := hB
    rw [ht9] at hP1
    obtain ⟨hP, hD⟩ := va_join (wr := [(x, .inr (0, [.ref a, .int (nI n), .ref b, .int (nI k)])), (a, .inl (cA, (600, .inr (.inl f)))), (b, .inl (cA, (40, .inr (.inl g)))), (ao, .inl (cA, (1, .inr (.inl (vp_updL ow 0 (tq_hd f 0 j))))))]) (w1 := [(o, .inr (1, [.int (nI 0), .int (nI n), .int (nI k), .int w4, .ref ca, .ref cb, .long z1, .long z2])), (ca, .inl (cA, (600, .inr (.inl f2)))), (cb, .inl (cA, (40, .inr (.inl g2))))]) hP hD [0, 1, 2] [3, 4, 5, 6] rfl rfl (by decide) (by decide) hk1 hFc hP1 hD1
    generalize H1 = H at hP hS ⊢
    have hP : va_P (dC, dI) tq_cl [(x, .inr (0, [.ref a, .int (nI n), .ref b, .int (nI k)])), (a, .inl (cA, (600, .inr (.inl f)))), (b, .inl (cA, (40, .inr (.inl g)))), (ao, .inl (cA, (1, .inr (.inl (vp_updL ow 0 (tq_hd f 0 j)))))), (o, .inr (1, [.int (nI 0), .int (nI n), .int (nI k), .int w4, .ref ca, .ref cb, .long z1, .long z2])), (ca, .inl (cA, (600, .inr (.inl f2)))), (cb, .inl (cA, (40, .inr (.inl g2))))] H := hP
    have hD : va_D A [(x, .inr (0, [.ref a, .int (nI n), .ref b, .int (nI k)])), (a, .inl (cA, (600, .inr (.inl f)))), (b, .inl (cA, (40, .inr (.inl g)))), (ao, .inl (cA, (1, .inr (.inl (vp_updL ow 0 (tq_hd f 0 j)))))), (o, .inr (1, [.int (nI 0), .int (nI n), .int (nI k), .int w4, .ref ca, .ref cb, .long z1, .long z2])), (ca, .inl (cA, (600, .inr (.inl f2)))), (cb, .inl (cA, (40, .inr (.inl g2))))] := hD
    have hw : r9 = tq_hd (fun j => tq_leaf (f2 j)) 0 j := hw
    subst hw
    refine lv_lstore (lv' := [(6, .long (tq_hd (fun j => tq_leaf (f2 j)) 0 j)), (5, .int (nI 0)), (4, .int (nI ix)), (0, .ref sb), (1, .ref x), (2, .ref o), (3, .ref ao)]) hx hb qd_L_law_423 hl (by decide) rfl (fun ls hl => ?_)
    refine lv_aload_n hx hb qd_L_law_425 rfl (lv_at hl 5 rfl) ?_
    refine vp_callSi (W.runV (As := []) (rest := []) ⟨hx, hb, hml, hown, hW⟩ (ct_M_thrown l dC dI o ca cb cA (nI 0) n k w4 z1 z2 f2 g2) (cwV 0 hW (tq_gV qm_306 qm_307 qm_308 qm_2 qm_309) rfl rfl rfl (by decide +kernel) ⟨Nat.le_of_ble_eq_true rfl, Nat.le_of_ble_eq_true rfl⟩) ⟨tq_b1, va_recv hK hP (ci := 1) (q0 := 4) rfl rfl, fun U hU hW9 => ⟨rfl, by rw [hU]; exact hP.sub [4, 5, 6] rfl, va_K.moved hW9.alike (hK.sub [0] rfl)⟩⟩ rfl rfl hl.1 rfl (lv_room (Nat.le_of_ble_eq_true rfl)) qd_L_law_426 ⟨by show _ ≤ 601024; omega, by show _ ≤ 7293034; omega⟩) (fun r9 e9 => ?_)
    subst e9
    refine lv_iload hx hb qd_L_law_429 (lv_at hl 1 rfl) ?_
    refine tq_icmp_eq (x := 0) (y := 0) (tgt := 436) hx hb qd_L_law_431 (by decide) (by omega) (by omega) (fun c8 => ?_) (fun c9 => by omega)
    refine lv_iload hx hb qd_L_law_436 (lv_at hl 1 rfl) ?_
    refine tq_if_ne (x := 0) (tgt := 452) hx hb qd_L_law_438 (by decide) (by omega) (fun c9 => by omega) (fun c7 => ?_)
    refine lv_aload_n hx hb qd_L_law_441 rfl (lv_at hl 6 rfl) ?_
    refine lv_iconst (v := nI 0) hx hb qd_L_law_442 (by decide +kernel) ?_
    refine tq_lald hx hb hK hP 3 0 rfl rfl (j := 0) (by omega) (by decide) qd_L_law_443 ?_
    refine tq_tl (y := tq_hd f 0 j) (pk_uLs) ?_
    refine lv_lload hx hb qd_L_law_444 (lv_at hl 0 rfl) ?_
    refine tq_lc_eq (tgt := 452) hx hb qd_L_law_446 qd_L_law_447 (by decide) (fun c6 => ?_) (fun c9 => absurd (hR.hd (by omega)) c9)
    refine lv_goto (tgt := 1247) hx hb qd_L_law_452 (by decide) ?_
    refine W.widen (k := cells + 1) (n := slots + 6) (by omega) (by omega) ?_
    exact cont n k f g (nI 0) w4 z1 z2 f2 g2 (vp_updL ow 0 (tq_hd f 0 j)) _ _ _ hR (hP.sub [0, 1, 2, 4, 5, 6, 3] rfl) (hD.sub [0, 1, 2, 4, 5, 6, 3] (by decide) rfl) hS (lv_sub hl [2, 3, 4, 5, 6] rfl)
set_option maxHeartbeats 4000000 in
set_option maxRecDepth 100000 in
/-- part -/
theorem lq_c4 (p : Program) (l : Launch) (e : Env) (s : State) (m : MethodId) (below : List Frame) (meth : Method) (c : Code) (sb L : Nat) (xs : Nat → Int32) (dC : Nat → ClassId) (dI : Nat → Nat → Nat) (x a b o ca cb ao : Nat) (cA : ClassId) (A : Nat → Prop) (C9 : lq_F p l e s m below meth c sb L xs dC dI x a b o ca cb ao cA A) (ix cells slots : Nat) (hi : ix + 7 ≤ L) (hc1 : cells + 1 ≤ 601024) (hs1 : slots + 6 ≤ 7293034) (cont : lq_N p l e s m below meth c sb L xs dC dI x a b o ca cb ao cA A ix (cells + 1) (slots + 6) 1247) : lq_N p l e s m below meth c sb L xs dC dI x a b o ca cb ao cA A ix cells slots 455 := by
  intro n k f g w1 w4 z1 z2 f2 g2 ow H locs ls hR hP hD hS hl
  obtain ⟨hx, hb, hml, hown, hW, hst, hA, hX, hbl, hbA, hZ, hK, hL⟩ := id C9
  have hn6 := hR.1
  have hk4 := hR.2.1
  obtain ⟨p1, e1⟩ : ∃ z9 : Int32, xs (ix + 1) = z9 := ⟨_, rfl⟩
  obtain ⟨p2, e2⟩ : ∃ z9 : Int32, xs (ix + 2) = z9 := ⟨_, rfl⟩
  by_cases hq : p1 < 0 ∨ p2 < p1 ∨ nI n < p2
  · refine lv_aload_n hx hb qd_L_law_455 rfl (lv_at hl 2 rfl) ?_
    refine lv_aload_n hx hb qd_L_law_456 rfl (lv_at hl 1 rfl) ?_
    refine lv_iload hx hb qd_L_law_457 (lv_at hl 0 rfl) ?_
    refine lv_iconst (v := nI 1) hx hb qd_L_law_459 (by decide +kernel) ?_
    refine lv_iadd hx hb qd_L_law_460 ?_
    refine tq_ti (y := nI (ix + 1)) (nI_add _ _) ?_
    refine tq_sld hx hb hX hbl hbA hS (j := ix + 1) (v := p1) (by omega) (by omega) e1 qd_L_law_461 ?_
    refine lv_aload_n hx hb qd_L_law_462 rfl (lv_at hl 1 rfl) ?_
    refine lv_iload hx hb qd_L_law_463 (lv_at hl 0 rfl) ?_
    refine lv_iconst (v := nI 2) hx hb qd_L_law_465 (by decide +kernel) ?_
    refine lv_iadd hx hb qd_L_law_466 ?_
    refine tq_ti (y := nI (ix + 2)) (nI_add _ _) ?_
    refine tq_sld hx hb hX hbl hbA hS (j := ix + 2) (v := p2) (by omega) (by omega) e2 qd_L_law_467 ?_
    refine lv_aload_n hx hb qd_L_law_468 rfl (lv_at hl 4 rfl) ?_
    have hPc := hP.sub (ws' := [(x, .inr (0, [.ref a, .int (nI n), .ref b, .int (nI k)])), (a, .inl (cA, (600, .inr (.inl f)))), (b, .inl (cA, (40, .inr (.inl g)))), (ao, .inl (cA, (1, .inr (.inl ow))))]) [0, 1, 2, 6] rfl
    have hDc := hD.sub (ws' := [(x, .inr (0, [.ref a, .int (nI n), .ref b, .int (nI k)])), (a, .inl (cA, (600, .inr (.inl f)))), (b, .inl (cA, (40, .inr (.inl g)))), (ao, .inl (cA, (1, .inr (.inl ow))))]) [0, 1, 2, 6] (by decide) rfl
    have hKc := hK.sub (tys' := [(cA, .long)]) [0] rfl
    have hFc := va_free (wc := [(x, .inr (0, [.ref a, .int (nI n), .ref b, .int (nI k)])), (a, .inl (cA, (600, .inr (.inl f)))), (b, .inl (cA, (40, .inr (.inl g)))), (ao, .inl (cA, (1, .inr (.inl ow))))]) hD hS hA [0, 1, 2, 6] rfl
    refine va_calli (vx_runSW (As := [.ref x, .int p1, .int p2, .ref ao]) (rest := []) ⟨hx, hb, hml, hown, hW⟩ (cx_L_part l dC dI x a b cA n k f g ao ow H.size hst p1 p2 hq) (vx_cwSW 4 hW (tq_gSa qm_210 qm_211 qm_0 qm_212) rfl rfl rfl (by decide +kernel) ⟨Nat.le_of_ble_eq_true rfl, Nat.le_of_ble_eq_true rfl⟩) ⟨tq_b3, fun U hU hW9 => ⟨rfl, ⟨by rw [hU], by rw [hU]; exact hPc, va_K.moved hW9.alike hKc, hDc.weaken (fun _ _ _ _ => trivial)⟩, hZ.on hS hU hW9 hFc⟩⟩ rfl rfl hl.1 rfl (lv_room (Nat.le_of_ble_eq_true rfl)) qd_L_law_469 ⟨by show _ ≤ 601024; omega, by show _ ≤ 7293034; omega⟩) hS (fun q _ h => hFc q h) hFc (fun r9 u t9 H1 locs ht9 hvm hw hB hz1 hk1 hS => ?_)
    obtain ⟨hP1, hK1, hD1⟩ := hB
    rw [ht9] at hP1
    obtain ⟨hP, hD⟩ := va_join (wr := [(o, .inr (1, [.int w1, .int (nI n), .int (nI k), .int w4, .ref ca, .ref cb, .long z1, .long z2])), (ca, .inl (cA, (600, .inr (.inl f2)))), (cb, .inl (cA, (40, .inr (.inl g2))))]) (w1 := [(x, .inr (0, [.ref a, .int (nI n), .ref b, .int (nI k)])), (a, .inl (cA, (600, .inr (.inl f)))), (b, .inl (cA, (40, .inr (.inl g)))), (ao, .inl (cA, (1, .inr (.inl ow))))]) hP hD [0, 1, 2, 6] [3, 4, 5] rfl rfl (by decide) (by decide) hk1 hFc hP1 hD1
    generalize H1 = H at hP hS ⊢
    have hP : va_P (dC, dI) tq_cl [(o, .inr (1, [.int w1, .int (nI n), .int (nI k), .int w4, .ref ca, .ref cb, .long z1, .long z2])), (ca, .inl (cA, (600, .inr (.inl f2)))), (cb, .inl (cA, (40, .inr (.inl g2)))), (x, .inr (0, [.ref a, .int (nI n), .ref b, .int (nI k)])), (a, .inl (cA, (600, .inr (.inl f)))), (b, .inl (cA, (40, .inr (.inl g)))), (ao, .inl (cA, (1, .inr (.inl ow))))] H := hP
    have hD : va_D A [(o, .inr (1, [.int w1, .int (nI n), .int (nI k), .int w4, .ref ca, .ref cb, .long z1, .long z2])), (ca, .inl (cA, (600, .inr (.inl f2)))), (cb, .inl (cA, (40, .inr (.inl g2)))), (x, .inr (0, [.ref a, .int (nI n), .ref b, .int (nI k)])), (a, .inl (cA, (600, .inr (.inl f)))), (b, .inl (cA, (40, .inr (.inl g)))), (ao, .inl (cA, (1, .inr (.inl ow))))] := hD
    have hw : r9 = nI 1 := hw
    subst hw
    refine lv_istore (lv' := [(5, .int (nI 1)), (4, .int (nI ix)), (0, .ref sb), (1, .ref x), (2, .ref o), (3, .ref ao)]) hx hb qd_L_law_472 hl (by decide) rfl (fun ls hl => ?_)
    refine lv_aload_n hx hb qd_L_law_474 rfl (lv_at hl 4 rfl) ?_
    refine lv_aload_n hx hb qd_L_law_475 rfl (lv_at hl 2 rfl) ?_
    refine lv_iload hx hb qd_L_law_476 (lv_at hl 1 rfl) ?_
    refine lv_iconst (v := nI 1) hx hb qd_L_law_478 (by decide +kernel) ?_
    refine lv_iadd hx hb qd_L_law_479 ?_
    refine tq_ti (y := nI (ix + 1)) (nI_add _ _) ?_
    refine tq_sld hx hb hX hbl hbA hS (j := ix + 1) (v := p1) (by omega) (by omega) e1 qd_L_law_480 ?_
    refine lv_aload_n hx hb qd_L_law_481 rfl (lv_at hl 2 rfl) ?_
    refine lv_iload hx hb qd_L_law_482 (lv_at hl 1 rfl) ?_
    refine lv_iconst (v := nI 2) hx hb qd_L_law_484 (by decide +kernel) ?_
    refine lv_iadd hx hb qd_L_law_485 ?_
    refine tq_ti (y := nI (ix + 2)) (nI_add _ _) ?_
    refine tq_sld hx hb hX hbl hbA hS (j := ix + 2) (v := p2) (by omega) (by omega) e2 qd_L_law_486 ?_
    have hPc := hP.sub (ws' := [(o, .inr (1, [.int w1, .int (nI n), .int (nI k), .int w4, .ref ca, .ref cb, .long z1, .long z2])), (ca, .inl (cA, (600, .inr (.inl f2)))), (cb, .inl (cA, (40, .inr (.inl g2))))]) [0, 1, 2] rfl
    have hDc := hD.sub (ws' := [(o, .inr (1, [.int w1, .int (nI n), .int (nI k), .int w4, .ref ca, .ref cb, .long z1, .long z2])), (ca, .inl (cA, (600, .inr (.inl f2)))), (cb, .inl (cA, (40, .inr (.inl g2))))]) [0, 1, 2] (by decide) rfl
    have hKc := hK.sub (tys' := [(cA, .long)]) [0] rfl
    have hFc := va_free (wc := [(o, .inr (1, [.int w1, .int (nI n), .int (nI k), .int w4, .ref ca, .ref cb, .long z1, .long z2])), (ca, .inl (cA, (600, .inr (.inl f2)))), (cb, .inl (cA, (40, .inr (.inl g2))))]) hD hS hA [0, 1, 2] rfl
    refine va_calll (va_runV (As := [.int p1, .int p2]) (rest := []) ⟨hx, hb, hml, hown, hW⟩ (ct_M_part_no l dC dI o ca cb cA w1 n k w4 z1 z2 f2 g2 H.size p1 p2 hq) (cwV 2 hW (tq_gV qm_342 qm_343 qm_344 qm_2 qm_345) rfl rfl rfl (by decide +kernel) ⟨Nat.le_of_ble_eq_true rfl, Nat.le_of_ble_eq_true rfl⟩) ⟨tq_b2, va_recv hKc hPc (ci := 1) (q0 := 0) rfl rfl, fun U hU hW9 => ⟨rfl, by rw [hU], by rw [hU]; exact hPc, va_K.moved hW9.alike hKc, hDc.weaken (fun _ _ _ _ => trivial)⟩⟩ rfl rfl hl.1 rfl (lv_room (Nat.le_of_ble_eq_true rfl)) qd_L_law_487 ⟨by show _ ≤ 601024; omega, by show _ ≤ 7293034; omega⟩) hS (fun q _ h => hFc q h) hFc (fun r9 u9 t9 H1 locs ht9 hvm hw hB hz1 hk1 hS => ?_)
    obtain ⟨hP1, hK1, hD1⟩ := hB
    rw [ht9] at hP1
    obtain ⟨hP, hD⟩ := va_join (wr := [(x, .inr (0, [.ref a, .int (nI n), .ref b, .int (nI k)])), (a, .inl (cA, (600, .inr (.inl f)))), (b, .inl (cA, (40, .inr (.inl g)))), (ao, .inl (cA, (1, .inr (.inl ow))))]) (w1 := [(o, .inr (1, [.int (nI 1), .int (nI n), .int (nI k), .int w4, .ref ca, .ref cb, .long z1, .long z2])), (ca, .inl (cA, (600, .inr (.inl f2)))), (cb, .inl (cA, (40, .inr (.inl g2))))]) hP hD [0, 1, 2] [3, 4, 5, 6] rfl rfl (by decide) (by decide) hk1 hFc hP1 hD1
    generalize H1 = H at hP hS ⊢
    have hP : va_P (dC, dI) tq_cl [(x, .inr (0, [.ref a, .int (nI n), .ref b, .int (nI k)])), (a, .inl (cA, (600, .inr (.inl f)))), (b, .inl (cA, (40, .inr (.inl g)))), (ao, .inl (cA, (1, .inr (.inl ow)))), (o, .inr (1, [.int (nI 1), .int (nI n), .int (nI k), .int w4, .ref ca, .ref cb, .long z1, .long z2])), (ca, .inl (cA, (600, .inr (.inl f2)))), (cb, .inl (cA, (40, .inr (.inl g2))))] H := hP
    have hD : va_D A [(x, .inr (0, [.ref a, .int (nI n), .ref b, .int (nI k)])), (a, .inl (cA, (600, .inr (.inl f)))), (b, .inl (cA, (40, .inr (.inl g)))), (ao, .inl (cA, (1, .inr (.inl ow)))), (o, .inr (1, [.int (nI 1), .int (nI n), .int (nI k), .int w4, .ref ca, .ref cb, .long z1, .long z2])), (ca, .inl (cA, (600, .inr (.inl f2)))), (cb, .inl (cA, (40, .inr (.inl g2))))] := hD
    have hw : r9 = 0 := hw
    subst hw
    refine lv_lstore (lv' := [(6, .long 0), (5, .int (nI 1)), (4, .int (nI ix)), (0, .ref sb), (1, .ref x), (2, .ref o), (3, .ref ao)]) hx hb qd_L_law_490 hl (by decide) rfl (fun ls hl => ?_)
    refine lv_aload_n hx hb qd_L_law_492 rfl (lv_at hl 5 rfl) ?_
    refine vp_callSi (W.runV (As := []) (rest := []) ⟨hx, hb, hml, hown, hW⟩ (ct_M_thrown l dC dI o ca cb cA (nI 1) n k w4 z1 z2 f2 g2) (cwV 0 hW (tq_gV qm_306 qm_307 qm_308 qm_2 qm_309) rfl rfl rfl (by decide +kernel) ⟨Nat.le_of_ble_eq_true rfl, Nat.le_of_ble_eq_true rfl⟩) ⟨tq_b1, va_recv hK hP (ci := 1) (q0 := 4) rfl rfl, fun U hU hW9 => ⟨rfl, by rw [hU]; exact hP.sub [4, 5, 6] rfl, va_K.moved hW9.alike (hK.sub [0] rfl)⟩⟩ rfl rfl hl.1 rfl (lv_room (Nat.le_of_ble_eq_true rfl)) qd_L_law_493 ⟨by show _ ≤ 601024; omega, by show _ ≤ 7293034; omega⟩) (fun r9 e9 => ?_)
    subst e9
    refine lv_iload hx hb qd_L_law_496 (lv_at hl 1 rfl) ?_
    refine tq_icmp_eq (x := 1) (y := 1) (tgt := 503) hx hb qd_L_law_498 (by decide) (by omega) (by omega) (fun c8 => ?_) (fun c9 => by omega)
    refine lv_iload hx hb qd_L_law_503 (lv_at hl 1 rfl) ?_
    refine tq_if_ne (x := 1) (tgt := 519) hx hb qd_L_law_505 (by decide) (by omega) (fun c7 => ?_) (fun c9 => by omega)
    refine lv_goto (tgt := 1247) hx hb qd_L_law_519 (by decide) ?_
    refine W.widen (k := cells + 1) (n := slots + 6) (by omega) (by omega) ?_
    exact cont n k f g (nI 1) w4 z1 z2 f2 g2 ow _ _ _ hR (hP.sub [0, 1, 2, 4, 5, 6, 3] rfl) (hD.sub [0, 1, 2, 4, 5, 6, 3] (by decide) rfl) hS (lv_sub hl [2, 3, 4, 5, 6] rfl)
  · obtain ⟨y, j, h1, h2, rfl, rfl⟩ := tq_ok3 (by omega) hq
    refine lv_aload_n hx hb qd_L_law_455 rfl (lv_at hl 2 rfl) ?_
    refine lv_aload_n hx hb qd_L_law_456 rfl (lv_at hl 1 rfl) ?_
    refine lv_iload hx hb qd_L_law_457 (lv_at hl 0 rfl) ?_
    refine lv_iconst (v := nI 1) hx hb qd_L_law_459 (by decide +kernel) ?_
    refine lv_iadd hx hb qd_L_law_460 ?_
    refine tq_ti (y := nI (ix + 1)) (nI_add _ _) ?_
    refine tq_sld hx hb hX hbl hbA hS (j := ix + 1) (v := (nI y)) (by omega) (by omega) e1 qd_L_law_461 ?_
    refine lv_aload_n hx hb qd_L_law_462 rfl (lv_at hl 1 rfl) ?_
    refine lv_iload hx hb qd_L_law_463 (lv_at hl 0 rfl) ?_
    refine lv_iconst (v := nI 2) hx hb qd_L_law_465 (by decide +kernel) ?_
    refine lv_iadd hx hb qd_L_law_466 ?_
    refine tq_ti (y := nI (ix + 2)) (nI_add _ _) ?_
    refine tq_sld hx hb hX hbl hbA hS (j := ix + 2) (v := (nI j)) (by omega) (by omega) e2 qd_L_law_467 ?_
    refine lv_aload_n hx hb qd_L_law_468 rfl (lv_at hl 4 rfl) ?_
    have hPc := hP.sub (ws' := [(x, .inr (0, [.ref a, .int (nI n), .ref b, .int (nI k)])), (a, .inl (cA, (600, .inr (.inl f)))), (b, .inl (cA, (40, .inr (.inl g)))), (ao, .inl (cA, (1, .inr (.inl ow))))]) [0, 1, 2, 6] rfl
    have hDc := hD.sub (ws' := [(x, .inr (0, [.ref a, .int (nI n), .ref b, .int (nI k)])), (a, .inl (cA, (600, .inr (.inl f)))), (b, .inl (cA, (40, .inr (.inl g)))), (ao, .inl (cA, (1, .inr (.inl ow))))]) [0, 1, 2, 6] (by decide) rfl
    have hKc := hK.sub (tys' := [(cA, .long)]) [0] rfl
    have hFc := va_free (wc := [(x, .inr (0, [.ref a, .int (nI n), .ref b, .int (nI k)])), (a, .inl (cA, (600, .inr (.inl f)))), (b, .inl (cA, (40, .inr (.inl g)))), (ao, .inl (cA, (1, .inr (.inl ow))))]) hD hS hA [0, 1, 2, 6] rfl
    refine va_calli (vx_runSW (As := [.ref x, .int (nI y), .int (nI j), .ref ao]) (rest := []) ⟨hx, hb, hml, hown, hW⟩ (ct_L_part l dC dI x a b cA n k f g ao ow H.size y j h1 h2 hn6) (vx_cwSW 4 hW (tq_gSa qm_210 qm_211 qm_0 qm_212) rfl rfl rfl (by decide +kernel) ⟨Nat.le_of_ble_eq_true rfl, Nat.le_of_ble_eq_true rfl⟩) ⟨tq_b2, fun U hU hW9 => ⟨rfl, by rw [hU], by rw [hU]; exact hPc, va_K.moved hW9.alike hKc, hDc.weaken (fun _ _ _ _ => trivial)⟩⟩ rfl rfl hl.1 rfl (lv_room (Nat.le_of_ble_eq_true rfl)) qd_L_law_469 ⟨by show _ ≤ 601024; omega, by show _ ≤ 7293034; omega⟩) hS (fun q _ h => hFc q h) hFc (fun r9 u t9 H1 locs ht9 hvm hw hB hz1 hk1 hS => ?_)
    obtain ⟨hP1, hK1, hD1⟩ := hB
    rw [ht9] at hP1
    obtain ⟨hP, hD⟩ := va_join (wr := [(o, .inr (1, [.int w1, .int (nI n), .int (nI k), .int w4, .ref ca, .ref cb, .long z1, .long z2])), (ca, .inl (cA, (600, .inr (.inl f2)))), (cb, .inl (cA, (40, .inr (.inl g2))))]) (w1 := [(x, .inr (0, [.ref a, .int (nI n), .ref b, .int (nI k)])), (a, .inl (cA, (600, .inr (.inl f)))), (b, .inl (cA, (40, .inr (.inl g)))), (ao, .inl (cA, (1, .inr (.inl (vp_updL ow 0 (tq_hd f y (j - y)))))))]) hP hD [0, 1, 2, 6] [3, 4, 5] rfl rfl (by decide) (by decide) hk1 hFc hP1 hD1
    generalize H1 = H at hP hS ⊢
    have hP : va_P (dC, dI) tq_cl [(o, .inr (1, [.int w1, .int (nI n), .int (nI k), .int w4, .ref ca, .ref cb, .long z1, .long z2])), (ca, .inl (cA, (600, .inr (.inl f2)))), (cb, .inl (cA, (40, .inr (.inl g2)))), (x, .inr (0, [.ref a, .int (nI n), .ref b, .int (nI k)])), (a, .inl (cA, (600, .inr (.inl f)))), (b, .inl (cA, (40, .inr (.inl g)))), (ao, .inl (cA, (1, .inr (.inl (vp_updL ow 0 (tq_hd f y (j - y)))))))] H := hP
    have hD : va_D A [(o, .inr (1, [.int w1, .int (nI n), .int (nI k), .int w4, .ref ca, .ref cb, .long z1, .long z2])), (ca, .inl (cA, (600, .inr (.inl f2)))), (cb, .inl (cA, (40, .inr (.inl g2)))), (x, .inr (0, [.ref a, .int (nI n), .ref b, .int (nI k)])), (a, .inl (cA, (600, .inr (.inl f)))), (b, .inl (cA, (40, .inr (.inl g)))), (ao, .inl (cA, (1, .inr (.inl (vp_updL ow 0 (tq_hd f y (j - y)))))))] := hD
    have hw : r9 = nI 0 := hw
    subst hw
    refine lv_istore (lv' := [(5, .int (nI 0)), (4, .int (nI ix)), (0, .ref sb), (1, .ref x), (2, .ref o), (3, .ref ao)]) hx hb qd_L_law_472 hl (by decide) rfl (fun ls hl => ?_)
    refine lv_aload_n hx hb qd_L_law_474 rfl (lv_at hl 4 rfl) ?_
    refine lv_aload_n hx hb qd_L_law_475 rfl (lv_at hl 2 rfl) ?_
    refine lv_iload hx hb qd_L_law_476 (lv_at hl 1 rfl) ?_
    refine lv_iconst (v := nI 1) hx hb qd_L_law_478 (by decide +kernel) ?_
    refine lv_iadd hx hb qd_L_law_479 ?_
    refine tq_ti (y := nI (ix + 1)) (nI_add _ _) ?_
    refine tq_sld hx hb hX hbl hbA hS (j := ix + 1) (v := (nI y)) (by omega) (by omega) e1 qd_L_law_480 ?_
    refine lv_aload_n hx hb qd_L_law_481 rfl (lv_at hl 2 rfl) ?_
    refine lv_iload hx hb qd_L_law_482 (lv_at hl 1 rfl) ?_
    refine lv_iconst (v := nI 2) hx hb qd_L_law_484 (by decide +kernel) ?_
    refine lv_iadd hx hb qd_L_law_485 ?_
    refine tq_ti (y := nI (ix + 2)) (nI_add _ _) ?_
    refine tq_sld hx hb hX hbl hbA hS (j := ix + 2) (v := (nI j)) (by omega) (by omega) e2 qd_L_law_486 ?_
    have hPc := hP.sub (ws' := [(o, .inr (1, [.int w1, .int (nI n), .int (nI k), .int w4, .ref ca, .ref cb, .long z1, .long z2])), (ca, .inl (cA, (600, .inr (.inl f2)))), (cb, .inl (cA, (40, .inr (.inl g2))))]) [0, 1, 2] rfl
    have hDc := hD.sub (ws' := [(o, .inr (1, [.int w1, .int (nI n), .int (nI k), .int w4, .ref ca, .ref cb, .long z1, .long z2])), (ca, .inl (cA, (600, .inr (.inl f2)))), (cb, .inl (cA, (40, .inr (.inl g2))))]) [0, 1, 2] (by decide) rfl
    have hKc := hK.sub (tys' := [(cA, .long)]) [0] rfl
    have hFc := va_free (wc := [(o, .inr (1, [.int w1, .int (nI n), .int (nI k), .int w4, .ref ca, .ref cb, .long z1, .long z2])), (ca, .inl (cA, (600, .inr (.inl f2)))), (cb, .inl (cA, (40, .inr (.inl g2))))]) hD hS hA [0, 1, 2] rfl
    refine va_calll (va_runV (As := [.int (nI y), .int (nI j)]) (rest := []) ⟨hx, hb, hml, hown, hW⟩ (ct_M_part l dC dI o ca cb cA w1 n k w4 z1 z2 f2 g2 H.size y j h1 h2 hn6) (cwV 2 hW (tq_gV qm_342 qm_343 qm_344 qm_2 qm_345) rfl rfl rfl (by decide +kernel) ⟨Nat.le_of_ble_eq_true rfl, Nat.le_of_ble_eq_true rfl⟩) ⟨tq_b2, va_recv hKc hPc (ci := 1) (q0 := 0) rfl rfl, fun U hU hW9 => ⟨rfl, by rw [hU], by rw [hU]; exact hPc, va_K.moved hW9.alike hKc, hDc.weaken (fun _ _ _ _ => trivial)⟩⟩ rfl rfl hl.1 rfl (lv_room (Nat.le_of_ble_eq_true rfl)) qd_L_law_487 ⟨by show _ ≤ 601024; omega, by show _ ≤ 7293034; omega⟩) hS (fun q _ h => hFc q h) hFc (fun r9 u9 t9 H1 locs ht9 hvm hw hB hz1 hk1 hS => ?_)
    obtain ⟨hP1, hK1, hD1⟩ := hB
    rw [ht9] at hP1
    obtain ⟨hP, hD⟩ := va_join (wr := [(x, .inr (0, [.ref a, .int (nI n), .ref b, .int (nI k)])), (a, .inl (cA, (600, .inr (.inl f)))), (b, .inl (cA, (40, .inr (.inl g)))), (ao, .inl (cA, (1, .inr (.inl (vp_updL ow 0 (tq_hd f y (j - y)))))))]) (w1 := [(o, .inr (1, [.int (nI 0), .int (nI n), .int (nI k), .int w4, .ref ca, .ref cb, .long z1, .long z2])), (ca, .inl (cA, (600, .inr (.inl f2)))), (cb, .inl (cA, (40, .inr (.inl g2))))]) hP hD [0, 1, 2] [3, 4, 5, 6] rfl rfl (by decide) (by decide) hk1 hFc hP1 hD1
    generalize H1 = H at hP hS ⊢
    have hP : va_P (dC, dI) tq_cl [(x, .inr (0, [.ref a, .int (nI n), .ref b, .int (nI k)])), (a, .inl (cA, (600, .inr (.inl f)))), (b, .inl (cA, (40, .inr (.inl g)))), (ao, .inl (cA, (1, .inr (.inl (vp_updL ow 0 (tq_hd f y (j - y))))))), (o, .inr (1, [.int (nI 0), .int (nI n), .int (nI k), .int w4, .ref ca, .ref cb, .long z1, .long z2])), (ca, .inl (cA, (600, .inr (.inl f2)))), (cb, .inl (cA, (40, .inr (.inl g2))))] H := hP
    have hD : va_D A [(x, .inr (0, [.ref a, .int (nI n), .ref b, .int (nI k)])), (a, .inl (cA, (600, .inr (.inl f)))), (b, .inl (cA, (40, .inr (.inl g)))), (ao, .inl (cA, (1, .inr (.inl (vp_updL ow 0 (tq_hd f y (j - y))))))), (o, .inr (1, [.int (nI 0), .int (nI n), .int (nI k), .int w4, .ref ca, .ref cb, .long z1, .long z2])), (ca, .inl (cA, (600, .inr (.inl f2)))), (cb, .inl (cA, (40, .inr (.inl g2))))] := hD
    have hw : r9 = tq_hd (fun j => tq_leaf (f2 j)) y (j - y) := hw
    subst hw
    refine lv_lstore (lv' := [(6, .long (tq_hd (fun j => tq_leaf (f2 j)) y (j - y))), (5, .int (nI 0)), (4, .int (nI ix)), (0, .ref sb), (1, .ref x), (2, .ref o), (3, .ref ao)]) hx hb qd_L_law_490 hl (by decide) rfl (fun ls hl => ?_)
    refine lv_aload_n hx hb qd_L_law_492 rfl (lv_at hl 5 rfl) ?_
    refine vp_callSi (W.runV (As := []) (rest := []) ⟨hx, hb, hml, hown, hW⟩ (ct_M_thrown l dC dI o ca cb cA (nI 0) n k w4 z1 z2 f2 g2) (cwV 0 hW (tq_gV qm_306 qm_307 qm_308 qm_2 qm_309) rfl rfl rfl (by decide +kernel) ⟨Nat.le_of_ble_eq_true rfl, Nat.le_of_ble_eq_true rfl⟩) ⟨tq_b1, va_recv hK hP (ci := 1) (q0 := 4) rfl rfl, fun U hU hW9 => ⟨rfl, by rw [hU]; exact hP.sub [4, 5, 6] rfl, va_K.moved hW9.alike (hK.sub [0] rfl)⟩⟩ rfl rfl hl.1 rfl (lv_room (Nat.le_of_ble_eq_true rfl)) qd_L_law_493 ⟨by show _ ≤ 601024; omega, by show _ ≤ 7293034; omega⟩) (fun r9 e9 => ?_)
    subst e9
    refine lv_iload hx hb qd_L_law_496 (lv_at hl 1 rfl) ?_
    refine tq_icmp_eq (x := 0) (y := 0) (tgt := 503) hx hb qd_L_law_498 (by decide) (by omega) (by omega) (fun c8 => ?_) (fun c9 => by omega)
    refine lv_iload hx hb qd_L_law_503 (lv_at hl 1 rfl) ?_
    refine tq_if_ne (x := 0) (tgt := 519) hx hb qd_L_law_505 (by decide) (by omega) (fun c9 => by omega) (fun c7 => ?_)
    refine lv_aload_n hx hb qd_L_law_508 rfl (lv_at hl 6 rfl) ?_
    refine lv_iconst (v := nI 0) hx hb qd_L_law_509 (by decide +kernel) ?_
    refine tq_lald hx hb hK hP 3 0 rfl rfl (j := 0) (by omega) (by decide) qd_L_law_510 ?_
    refine tq_tl (y := tq_hd f y (j - y)) (pk_uLs) ?_
    refine lv_lload hx hb qd_L_law_511 (lv_at hl 0 rfl) ?_
    refine tq_lc_eq (tgt := 519) hx hb qd_L_law_513 qd_L_law_514 (by decide) (fun c6 => ?_) (fun c9 => absurd (hR.hd (by omega)) c9)
    refine lv_goto (tgt := 1247) hx hb qd_L_law_519 (by decide) ?_
    refine W.widen (k := cells + 1) (n := slots + 6) (by omega) (by omega) ?_
    exact cont n k f g (nI 0) w4 z1 z2 f2 g2 (vp_updL ow 0 (tq_hd f y (j - y))) _ _ _ hR (hP.sub [0, 1, 2, 4, 5, 6, 3] rfl) (hD.sub [0, 1, 2, 4, 5, 6, 3] (by decide) rfl) hS (lv_sub hl [2, 3, 4, 5, 6] rfl)
