set_option maxHeartbeats 4000000 in
set_option maxRecDepth 100000 in
/-- path -/
theorem lq_c5 (p : Program) (l : Launch) (e : Env) (s : State) (m : MethodId) (below : List Frame) (meth : Method) (c : Code) (sb L : Nat) (xs : Nat → Int32) (dC : Nat → ClassId) (dI : Nat → Nat → Nat) (x a b o ca cb ao : Nat) (cA : ClassId) (A : Nat → Prop) (C9 : lq_F p l e s m below meth c sb L xs dC dI x a b o ca cb ao cA A) (ix cells slots : Nat) (hi : ix + 7 ≤ L) (hc1 : cells + 1 ≤ 601024) (hs1 : slots + 6 ≤ 7293034) (cont : lq_N p l e s m below meth c sb L xs dC dI x a b o ca cb ao cA A ix (cells + 1) (slots + 6) 1247) : lq_N p l e s m below meth c sb L xs dC dI x a b o ca cb ao cA A ix cells slots 522 := by
  intro n k f g w1 w4 z1 z2 f2 g2 ow H locs ls hR hP hD hS hl
  obtain ⟨hx, hb, hml, hown, hW, hst, hA, hX, hbl, hbA, hZ, hK, hL⟩ := id C9
  have hn6 := hR.1
  have hk4 := hR.2.1
  obtain ⟨p1, e1⟩ : ∃ z9 : Int32, xs (ix + 1) = z9 := ⟨_, rfl⟩
  obtain ⟨p2, e2⟩ : ∃ z9 : Int32, xs (ix + 2) = z9 := ⟨_, rfl⟩
  by_cases hq : p1 < 0 ∨ p2 ≤ p1 ∨ nI n < p2
  · refine lv_aload_n hx hb qd_L_law_522 rfl (lv_at hl 2 rfl) ?_
    refine lv_aload_n hx hb qd_L_law_523 rfl (lv_at hl 1 rfl) ?_
    refine lv_iload hx hb qd_L_law_524 (lv_at hl 0 rfl) ?_
    refine lv_iconst (v := nI 1) hx hb qd_L_law_526 (by decide +kernel) ?_
    refine lv_iadd hx hb qd_L_law_527 ?_
    refine tq_ti (y := nI (ix + 1)) (nI_add _ _) ?_
    refine tq_sld hx hb hX hbl hbA hS (j := ix + 1) (v := p1) (by omega) (by omega) e1 qd_L_law_528 ?_
    refine lv_aload_n hx hb qd_L_law_529 rfl (lv_at hl 1 rfl) ?_
    refine lv_iload hx hb qd_L_law_530 (lv_at hl 0 rfl) ?_
    refine lv_iconst (v := nI 2) hx hb qd_L_law_532 (by decide +kernel) ?_
    refine lv_iadd hx hb qd_L_law_533 ?_
    refine tq_ti (y := nI (ix + 2)) (nI_add _ _) ?_
    refine tq_sld hx hb hX hbl hbA hS (j := ix + 2) (v := p2) (by omega) (by omega) e2 qd_L_law_534 ?_
    refine lv_aload_n hx hb qd_L_law_535 rfl (lv_at hl 4 rfl) ?_
    have hPc := hP.sub (ws' := [(x, .inr (0, [.ref a, .int (nI n), .ref b, .int (nI k)])), (a, .inl (cA, (600, .inr (.inl f)))), (b, .inl (cA, (40, .inr (.inl g)))), (ao, .inl (cA, (1, .inr (.inl ow))))]) [0, 1, 2, 6] rfl
    have hDc := hD.sub (ws' := [(x, .inr (0, [.ref a, .int (nI n), .ref b, .int (nI k)])), (a, .inl (cA, (600, .inr (.inl f)))), (b, .inl (cA, (40, .inr (.inl g)))), (ao, .inl (cA, (1, .inr (.inl ow))))]) [0, 1, 2, 6] (by decide) rfl
    have hKc := hK.sub (tys' := [(cA, .long)]) [0] rfl
    have hFc := va_free (wc := [(x, .inr (0, [.ref a, .int (nI n), .ref b, .int (nI k)])), (a, .inl (cA, (600, .inr (.inl f)))), (b, .inl (cA, (40, .inr (.inl g)))), (ao, .inl (cA, (1, .inr (.inl ow))))]) hD hS hA [0, 1, 2, 6] rfl
    refine va_calli (vx_runSW (As := [.ref x, .int p1, .int p2, .ref ao]) (rest := []) ⟨hx, hb, hml, hown, hW⟩ (cx_L_path l dC dI x a b cA n k f g ao ow H.size hst p1 p2 hq) (vx_cwSW 4 hW (tq_gSa qm_217 qm_218 qm_0 qm_219) rfl rfl rfl (by decide +kernel) ⟨Nat.le_of_ble_eq_true rfl, Nat.le_of_ble_eq_true rfl⟩) ⟨tq_b3, fun U hU hW9 => ⟨rfl, ⟨by rw [hU], by rw [hU]; exact hPc, va_K.moved hW9.alike hKc, hDc.weaken (fun _ _ _ _ => trivial)⟩, hZ.on hS hU hW9 hFc⟩⟩ rfl rfl hl.1 rfl (lv_room (Nat.le_of_ble_eq_true rfl)) qd_L_law_536 ⟨by show _ ≤ 601024; omega, by show _ ≤ 7293034; omega⟩) hS (fun q _ h => hFc q h) hFc (fun r9 u t9 H1 locs ht9 hvm hw hB hz1 hk1 hS => ?_)
    obtain ⟨hP1, hK1, hD1⟩ := hB
    rw [ht9] at hP1
    obtain ⟨hP, hD⟩ := va_join (wr := [(o, .inr (1, [.int w1, .int (nI n), .int (nI k), .int w4, .ref ca, .ref cb, .long z1, .long z2])), (ca, .inl (cA, (600, .inr (.inl f2)))), (cb, .inl (cA, (40, .inr (.inl g2))))]) (w1 := [(x, .inr (0, [.ref a, .int (nI n), .ref b, .int (nI k)])), (a, .inl (cA, (600, .inr (.inl f)))), (b, .inl (cA, (40, .inr (.inl g)))), (ao, .inl (cA, (1, .inr (.inl ow))))]) hP hD [0, 1, 2, 6] [3, 4, 5] rfl rfl (by decide) (by decide) hk1 hFc hP1 hD1
    generalize H1 = H at hP hS ⊢
    have hP : va_P (dC, dI) tq_cl [(o, .inr (1, [.int w1, .int (nI n), .int (nI k), .int w4, .ref ca, .ref cb, .long z1, .long z2])), (ca, .inl (cA, (600, .inr (.inl f2)))), (cb, .inl (cA, (40, .inr (.inl g2)))), (x, .inr (0, [.ref a, .int (nI n), .ref b, .int (nI k)])), (a, .inl (cA, (600, .inr (.inl f)))), (b, .inl (cA, (40, .inr (.inl g)))), (ao, .inl (cA, (1, .inr (.inl ow))))] H := hP
    have hD : va_D A [(o, .inr (1, [.int w1, .int (nI n), .int (nI k), .int w4, .ref ca, .ref cb, .long z1, .long z2])), (ca, .inl (cA, (600, .inr (.inl f2)))), (cb, .inl (cA, (40, .inr (.inl g2)))), (x, .inr (0, [.ref a, .int (nI n), .ref b, .int (nI k)])), (a, .inl (cA, (600, .inr (.inl f)))), (b, .inl (cA, (40, .inr (.inl g)))), (ao, .inl (cA, (1, .inr (.inl ow))))] := hD
    have hw : r9 = nI 1 := hw
    subst hw
    refine lv_istore (lv' := [(5, .int (nI 1)), (4, .int (nI ix)), (0, .ref sb), (1, .ref x), (2, .ref o), (3, .ref ao)]) hx hb qd_L_law_539 hl (by decide) rfl (fun ls hl => ?_)
    refine lv_aload_n hx hb qd_L_law_541 rfl (lv_at hl 4 rfl) ?_
    refine lv_aload_n hx hb qd_L_law_542 rfl (lv_at hl 2 rfl) ?_
    refine lv_iload hx hb qd_L_law_543 (lv_at hl 1 rfl) ?_
    refine lv_iconst (v := nI 1) hx hb qd_L_law_545 (by decide +kernel) ?_
    refine lv_iadd hx hb qd_L_law_546 ?_
    refine tq_ti (y := nI (ix + 1)) (nI_add _ _) ?_
    refine tq_sld hx hb hX hbl hbA hS (j := ix + 1) (v := p1) (by omega) (by omega) e1 qd_L_law_547 ?_
    refine lv_aload_n hx hb qd_L_law_548 rfl (lv_at hl 2 rfl) ?_
    refine lv_iload hx hb qd_L_law_549 (lv_at hl 1 rfl) ?_
    refine lv_iconst (v := nI 2) hx hb qd_L_law_551 (by decide +kernel) ?_
    refine lv_iadd hx hb qd_L_law_552 ?_
    refine tq_ti (y := nI (ix + 2)) (nI_add _ _) ?_
    refine tq_sld hx hb hX hbl hbA hS (j := ix + 2) (v := p2) (by omega) (by omega) e2 qd_L_law_553 ?_
    have hPc := hP.sub (ws' := [(o, .inr (1, [.int w1, .int (nI n), .int (nI k), .int w4, .ref ca, .ref cb, .long z1, .long z2])), (ca, .inl (cA, (600, .inr (.inl f2)))), (cb, .inl (cA, (40, .inr (.inl g2))))]) [0, 1, 2] rfl
    have hDc := hD.sub (ws' := [(o, .inr (1, [.int w1, .int (nI n), .int (nI k), .int w4, .ref ca, .ref cb, .long z1, .long z2])), (ca, .inl (cA, (600, .inr (.inl f2)))), (cb, .inl (cA, (40, .inr (.inl g2))))]) [0, 1, 2] (by decide) rfl
    have hKc := hK.sub (tys' := [(cA, .long)]) [0] rfl
    have hFc := va_free (wc := [(o, .inr (1, [.int w1, .int (nI n), .int (nI k), .int w4, .ref ca, .ref cb, .long z1, .long z2])), (ca, .inl (cA, (600, .inr (.inl f2)))), (cb, .inl (cA, (40, .inr (.inl g2))))]) hD hS hA [0, 1, 2] rfl
    refine va_calli (va_runV (As := [.int p1, .int p2]) (rest := []) ⟨hx, hb, hml, hown, hW⟩ (ct_M_path_no l dC dI o ca cb cA w1 n k w4 z1 z2 f2 g2 H.size p1 p2 hq) (cwV 2 hW (tq_gV qm_346 qm_347 qm_348 qm_2 qm_349) rfl rfl rfl (by decide +kernel) ⟨Nat.le_of_ble_eq_true rfl, Nat.le_of_ble_eq_true rfl⟩) ⟨tq_b2, va_recv hKc hPc (ci := 1) (q0 := 0) rfl rfl, fun U hU hW9 => ⟨rfl, by rw [hU], by rw [hU]; exact hPc, va_K.moved hW9.alike hKc, hDc.weaken (fun _ _ _ _ => trivial)⟩⟩ rfl rfl hl.1 rfl (lv_room (Nat.le_of_ble_eq_true rfl)) qd_L_law_554 ⟨by show _ ≤ 601024; omega, by show _ ≤ 7293034; omega⟩) hS (fun q _ h => hFc q h) hFc (fun r9 u9 t9 H1 locs ht9 hvm hw hB hz1 hk1 hS => ?_)
    obtain ⟨hP1, hK1, hD1⟩ := hB
    rw [ht9] at hP1
    obtain ⟨hP, hD⟩ := va_join (wr := [(x, .inr (0, [.ref a, .int (nI n), .ref b, .int (nI k)])), (a, .inl (cA, (600, .inr (.inl f)))), (b, .inl (cA, (40, .inr (.inl g)))), (ao, .inl (cA, (1, .inr (.inl ow))))]) (w1 := [(o, .inr (1, [.int (nI 1), .int (nI n), .int (nI k), .int w4, .ref ca, .ref cb, .long z1, .long z2])), (ca, .inl (cA, (600, .inr (.inl f2)))), (cb, .inl (cA, (40, .inr (.inl g2))))]) hP hD [0, 1, 2] [3, 4, 5, 6] rfl rfl (by decide) (by decide) hk1 hFc hP1 hD1
    generalize H1 = H at hP hS ⊢
    have hP : va_P (dC, dI) tq_cl [(x, .inr (0, [.ref a, .int (nI n), .ref b, .int (nI k)])), (a, .inl (cA, (600, .inr (.inl f)))), (b, .inl (cA, (40, .inr (.inl g)))), (ao, .inl (cA, (1, .inr (.inl ow)))), (o, .inr (1, [.int (nI 1), .int (nI n), .int (nI k), .int w4, .ref ca, .ref cb, .long z1, .long z2])), (ca, .inl (cA, (600, .inr (.inl f2)))), (cb, .inl (cA, (40, .inr (.inl g2))))] H := hP
    have hD : va_D A [(x, .inr (0, [.ref a, .int (nI n), .ref b, .int (nI k)])), (a, .inl (cA, (600, .inr (.inl f)))), (b, .inl (cA, (40, .inr (.inl g)))), (ao, .inl (cA, (1, .inr (.inl ow)))), (o, .inr (1, [.int (nI 1), .int (nI n), .int (nI k), .int w4, .ref ca, .ref cb, .long z1, .long z2])), (ca, .inl (cA, (600, .inr (.inl f2)))), (cb, .inl (cA, (40, .inr (.inl g2))))] := hD
    have hw : r9 = nI 0 := hw
    subst hw
    refine lv_istore (lv' := [(6, .int (nI 0)), (5, .int (nI 1)), (4, .int (nI ix)), (0, .ref sb), (1, .ref x), (2, .ref o), (3, .ref ao)]) hx hb qd_L_law_557 hl (by decide) rfl (fun ls hl => ?_)
    refine lv_aload_n hx hb qd_L_law_559 rfl (lv_at hl 5 rfl) ?_
    refine vp_callSi (W.runV (As := []) (rest := []) ⟨hx, hb, hml, hown, hW⟩ (ct_M_thrown l dC dI o ca cb cA (nI 1) n k w4 z1 z2 f2 g2) (cwV 0 hW (tq_gV qm_306 qm_307 qm_308 qm_2 qm_309) rfl rfl rfl (by decide +kernel) ⟨Nat.le_of_ble_eq_true rfl, Nat.le_of_ble_eq_true rfl⟩) ⟨tq_b1, va_recv hK hP (ci := 1) (q0 := 4) rfl rfl, fun U hU hW9 => ⟨rfl, by rw [hU]; exact hP.sub [4, 5, 6] rfl, va_K.moved hW9.alike (hK.sub [0] rfl)⟩⟩ rfl rfl hl.1 rfl (lv_room (Nat.le_of_ble_eq_true rfl)) qd_L_law_560 ⟨by show _ ≤ 601024; omega, by show _ ≤ 7293034; omega⟩) (fun r9 e9 => ?_)
    subst e9
    refine lv_iload hx hb qd_L_law_563 (lv_at hl 1 rfl) ?_
    refine tq_icmp_eq (x := 1) (y := 1) (tgt := 570) hx hb qd_L_law_565 (by decide) (by omega) (by omega) (fun c8 => ?_) (fun c9 => by omega)
    refine lv_iload hx hb qd_L_law_570 (lv_at hl 1 rfl) ?_
    refine tq_if_ne (x := 1) (tgt := 587) hx hb qd_L_law_572 (by decide) (by omega) (fun c7 => ?_) (fun c9 => by omega)
    refine lv_goto (tgt := 1247) hx hb qd_L_law_587 (by decide) ?_
    refine W.widen (k := cells + 1) (n := slots + 6) (by omega) (by omega) ?_
    exact cont n k f g (nI 1) w4 z1 z2 f2 g2 ow _ _ _ hR (hP.sub [0, 1, 2, 4, 5, 6, 3] rfl) (hD.sub [0, 1, 2, 4, 5, 6, 3] (by decide) rfl) hS (lv_sub hl [2, 3, 4, 5, 6] rfl)
  · obtain ⟨y, j, h1, h2, rfl, rfl⟩ := tq_ok4 (by omega) hq
    refine lv_aload_n hx hb qd_L_law_522 rfl (lv_at hl 2 rfl) ?_
    refine lv_aload_n hx hb qd_L_law_523 rfl (lv_at hl 1 rfl) ?_
    refine lv_iload hx hb qd_L_law_524 (lv_at hl 0 rfl) ?_
    refine lv_iconst (v := nI 1) hx hb qd_L_law_526 (by decide +kernel) ?_
    refine lv_iadd hx hb qd_L_law_527 ?_
    refine tq_ti (y := nI (ix + 1)) (nI_add _ _) ?_
    refine tq_sld hx hb hX hbl hbA hS (j := ix + 1) (v := (nI y)) (by omega) (by omega) e1 qd_L_law_528 ?_
    refine lv_aload_n hx hb qd_L_law_529 rfl (lv_at hl 1 rfl) ?_
    refine lv_iload hx hb qd_L_law_530 (lv_at hl 0 rfl) ?_
    refine lv_iconst (v := nI 2) hx hb qd_L_law_532 (by decide +kernel) ?_
    refine lv_iadd hx hb qd_L_law_533 ?_
    refine tq_ti (y := nI (ix + 2)) (nI_add _ _) ?_
    refine tq_sld hx hb hX hbl hbA hS (j := ix + 2) (v := (nI j)) (by omega) (by omega) e2 qd_L_law_534 ?_
    refine lv_aload_n hx hb qd_L_law_535 rfl (lv_at hl 4 rfl) ?_
    have hPc := hP.sub (ws' := [(x, .inr (0, [.ref a, .int (nI n), .ref b, .int (nI k)])), (a, .inl (cA, (600, .inr (.inl f)))), (b, .inl (cA, (40, .inr (.inl g)))), (ao, .inl (cA, (1, .inr (.inl ow))))]) [0, 1, 2, 6] rfl
    have hDc := hD.sub (ws' := [(x, .inr (0, [.ref a, .int (nI n), .ref b, .int (nI k)])), (a, .inl (cA, (600, .inr (.inl f)))), (b, .inl (cA, (40, .inr (.inl g)))), (ao, .inl (cA, (1, .inr (.inl ow))))]) [0, 1, 2, 6] (by decide) rfl
    have hKc := hK.sub (tys' := [(cA, .long)]) [0] rfl
    have hFc := va_free (wc := [(x, .inr (0, [.ref a, .int (nI n), .ref b, .int (nI k)])), (a, .inl (cA, (600, .inr (.inl f)))), (b, .inl (cA, (40, .inr (.inl g)))), (ao, .inl (cA, (1, .inr (.inl ow))))]) hD hS hA [0, 1, 2, 6] rfl
    refine va_calli (vx_runSW (As := [.ref x, .int (nI y), .int (nI j), .ref ao]) (rest := []) ⟨hx, hb, hml, hown, hW⟩ (ct_L_path l dC dI x a b cA n k f g ao ow H.size y j h1 h2 hn6) (vx_cwSW 4 hW (tq_gSa qm_217 qm_218 qm_0 qm_219) rfl rfl rfl (by decide +kernel) ⟨Nat.le_of_ble_eq_true rfl, Nat.le_of_ble_eq_true rfl⟩) ⟨tq_b2, fun U hU hW9 => ⟨rfl, by rw [hU], by rw [hU]; exact hPc, va_K.moved hW9.alike hKc, hDc.weaken (fun _ _ _ _ => trivial)⟩⟩ rfl rfl hl.1 rfl (lv_room (Nat.le_of_ble_eq_true rfl)) qd_L_law_536 ⟨by show _ ≤ 601024; omega, by show _ ≤ 7293034; omega⟩) hS (fun q _ h => hFc q h) hFc (fun r9 u t9 H1 locs ht9 hvm hw hB hz1 hk1 hS => ?_)
    obtain ⟨hP1, hK1, hD1⟩ := hB
    rw [ht9] at hP1
    obtain ⟨hP, hD⟩ := va_join (wr := [(o, .inr (1, [.int w1, .int (nI n), .int (nI k), .int w4, .ref ca, .ref cb, .long z1, .long z2])), (ca, .inl (cA, (600, .inr (.inl f2)))), (cb, .inl (cA, (40, .inr (.inl g2))))]) (w1 := [(x, .inr (0, [.ref a, .int (nI n), .ref b, .int (nI (tq_pl y j))])), (a, .inl (cA, (600, .inr (.inl f)))), (b, .inl (cA, (40, .inr (.inl u)))), (ao, .inl (cA, (1, .inr (.inl (vp_updL ow 0 ((nI (tq_pl y j)).toInt64))))))]) hP hD [0, 1, 2, 6] [3, 4, 5] rfl rfl (by decide) (by decide) hk1 hFc hP1 hD1
    generalize H1 = H at hP hS ⊢
    have hP : va_P (dC, dI) tq_cl [(o, .inr (1, [.int w1, .int (nI n), .int (nI k), .int w4, .ref ca, .ref cb, .long z1, .long z2])), (ca, .inl (cA, (600, .inr (.inl f2)))), (cb, .inl (cA, (40, .inr (.inl g2)))), (x, .inr (0, [.ref a, .int (nI n), .ref b, .int (nI (tq_pl y j))])), (a, .inl (cA, (600, .inr (.inl f)))), (b, .inl (cA, (40, .inr (.inl u)))), (ao, .inl (cA, (1, .inr (.inl (vp_updL ow 0 ((nI (tq_pl y j)).toInt64))))))] H := hP
    have hD : va_D A [(o, .inr (1, [.int w1, .int (nI n), .int (nI k), .int w4, .ref ca, .ref cb, .long z1, .long z2])), (ca, .inl (cA, (600, .inr (.inl f2)))), (cb, .inl (cA, (40, .inr (.inl g2)))), (x, .inr (0, [.ref a, .int (nI n), .ref b, .int (nI (tq_pl y j))])), (a, .inl (cA, (600, .inr (.inl f)))), (b, .inl (cA, (40, .inr (.inl u)))), (ao, .inl (cA, (1, .inr (.inl (vp_updL ow 0 ((nI (tq_pl y j)).toInt64))))))] := hD
    obtain ⟨hw, hu⟩ := hw
    have hw : r9 = nI 0 := hw
    subst hw
    refine lv_istore (lv' := [(5, .int (nI 0)), (4, .int (nI ix)), (0, .ref sb), (1, .ref x), (2, .ref o), (3, .ref ao)]) hx hb qd_L_law_539 hl (by decide) rfl (fun ls hl => ?_)
    refine lv_aload_n hx hb qd_L_law_541 rfl (lv_at hl 4 rfl) ?_
    refine lv_aload_n hx hb qd_L_law_542 rfl (lv_at hl 2 rfl) ?_
    refine lv_iload hx hb qd_L_law_543 (lv_at hl 1 rfl) ?_
    refine lv_iconst (v := nI 1) hx hb qd_L_law_545 (by decide +kernel) ?_
    refine lv_iadd hx hb qd_L_law_546 ?_
    refine tq_ti (y := nI (ix + 1)) (nI_add _ _) ?_
    refine tq_sld hx hb hX hbl hbA hS (j := ix + 1) (v := (nI y)) (by omega) (by omega) e1 qd_L_law_547 ?_
    refine lv_aload_n hx hb qd_L_law_548 rfl (lv_at hl 2 rfl) ?_
    refine lv_iload hx hb qd_L_law_549 (lv_at hl 1 rfl) ?_
    refine lv_iconst (v := nI 2) hx hb qd_L_law_551 (by decide +kernel) ?_
    refine lv_iadd hx hb qd_L_law_552 ?_
    refine tq_ti (y := nI (ix + 2)) (nI_add _ _) ?_
    refine tq_sld hx hb hX hbl hbA hS (j := ix + 2) (v := (nI j)) (by omega) (by omega) e2 qd_L_law_553 ?_
    have hPc := hP.sub (ws' := [(o, .inr (1, [.int w1, .int (nI n), .int (nI k), .int w4, .ref ca, .ref cb, .long z1, .long z2])), (ca, .inl (cA, (600, .inr (.inl f2)))), (cb, .inl (cA, (40, .inr (.inl g2))))]) [0, 1, 2] rfl
    have hDc := hD.sub (ws' := [(o, .inr (1, [.int w1, .int (nI n), .int (nI k), .int w4, .ref ca, .ref cb, .long z1, .long z2])), (ca, .inl (cA, (600, .inr (.inl f2)))), (cb, .inl (cA, (40, .inr (.inl g2))))]) [0, 1, 2] (by decide) rfl
    have hKc := hK.sub (tys' := [(cA, .long)]) [0] rfl
    have hFc := va_free (wc := [(o, .inr (1, [.int w1, .int (nI n), .int (nI k), .int w4, .ref ca, .ref cb, .long z1, .long z2])), (ca, .inl (cA, (600, .inr (.inl f2)))), (cb, .inl (cA, (40, .inr (.inl g2))))]) hD hS hA [0, 1, 2] rfl
    refine va_calli (va_runV (As := [.int (nI y), .int (nI j)]) (rest := []) ⟨hx, hb, hml, hown, hW⟩ (ct_M_path l dC dI o ca cb cA w1 n k w4 z1 z2 f2 g2 H.size y j h1 h2 hn6) (cwV 2 hW (tq_gV qm_346 qm_347 qm_348 qm_2 qm_349) rfl rfl rfl (by decide +kernel) ⟨Nat.le_of_ble_eq_true rfl, Nat.le_of_ble_eq_true rfl⟩) ⟨tq_b2, va_recv hKc hPc (ci := 1) (q0 := 0) rfl rfl, fun U hU hW9 => ⟨rfl, by rw [hU], by rw [hU]; exact hPc, va_K.moved hW9.alike hKc, hDc.weaken (fun _ _ _ _ => trivial)⟩⟩ rfl rfl hl.1 rfl (lv_room (Nat.le_of_ble_eq_true rfl)) qd_L_law_554 ⟨by show _ ≤ 601024; omega, by show _ ≤ 7293034; omega⟩) hS (fun q _ h => hFc q h) hFc (fun r9 u9 t9 H1 locs ht9 hvm hw hB hz1 hk1 hS => ?_)
    obtain ⟨hP1, hK1, hD1⟩ := hB
    rw [ht9] at hP1
    obtain ⟨hP, hD⟩ := va_join (wr := [(x, .inr (0, [.ref a, .int (nI n), .ref b, .int (nI (tq_pl y j))])), (a, .inl (cA, (600, .inr (.inl f)))), (b, .inl (cA, (40, .inr (.inl u)))), (ao, .inl (cA, (1, .inr (.inl (vp_updL ow 0 ((nI (tq_pl y j)).toInt64))))))]) (w1 := [(o, .inr (1, [.int (nI 0), .int (nI n), .int (nI (tq_pl y j)), .int w4, .ref ca, .ref cb, .long z1, .long z2])), (ca, .inl (cA, (600, .inr (.inl f2)))), (cb, .inl (cA, (40, .inr (.inl ((tq_wr g2 0 (tq_pt (fun j => tq_leaf (f2 j)) 0 y j)))))))]) hP hD [0, 1, 2] [3, 4, 5, 6] rfl rfl (by decide) (by decide) hk1 hFc hP1 hD1
    generalize H1 = H at hP hS ⊢
    have hP : va_P (dC, dI) tq_cl [(x, .inr (0, [.ref a, .int (nI n), .ref b, .int (nI (tq_pl y j))])), (a, .inl (cA, (600, .inr (.inl f)))), (b, .inl (cA, (40, .inr (.inl u)))), (ao, .inl (cA, (1, .inr (.inl (vp_updL ow 0 ((nI (tq_pl y j)).toInt64)))))), (o, .inr (1, [.int (nI 0), .int (nI n), .int (nI (tq_pl y j)), .int w4, .ref ca, .ref cb, .long z1, .long z2])), (ca, .inl (cA, (600, .inr (.inl f2)))), (cb, .inl (cA, (40, .inr (.inl ((tq_wr g2 0 (tq_pt (fun j => tq_leaf (f2 j)) 0 y j)))))))] H := hP
    have hD : va_D A [(x, .inr (0, [.ref a, .int (nI n), .ref b, .int (nI (tq_pl y j))])), (a, .inl (cA, (600, .inr (.inl f)))), (b, .inl (cA, (40, .inr (.inl u)))), (ao, .inl (cA, (1, .inr (.inl (vp_updL ow 0 ((nI (tq_pl y j)).toInt64)))))), (o, .inr (1, [.int (nI 0), .int (nI n), .int (nI (tq_pl y j)), .int w4, .ref ca, .ref cb, .long z1, .long z2])), (ca, .inl (cA, (600, .inr (.inl f2)))), (cb, .inl (cA, (40, .inr (.inl ((tq_wr g2 0 (tq_pt (fun j => tq_leaf (f2 j)) 0 y j)))))))] := hD
    have hw : r9 = nI (tq_pl y j) := hw
    subst hw
    refine lv_istore (lv' := [(6, .int (nI (tq_pl y j))), (5, .int (nI 0)), (4, .int (nI ix)), (0, .ref sb), (1, .ref x), (2, .ref o), (3, .ref ao)]) hx hb qd_L_law_557 hl (by decide) rfl (fun ls hl => ?_)
    refine lv_aload_n hx hb qd_L_law_559 rfl (lv_at hl 5 rfl) ?_
    refine vp_callSi (W.runV (As := []) (rest := []) ⟨hx, hb, hml, hown, hW⟩ (ct_M_thrown l dC dI o ca cb cA (nI 0) n ((tq_pl y j)) w4 z1 z2 f2 ((tq_wr g2 0 (tq_pt (fun j => tq_leaf (f2 j)) 0 y j)))) (cwV 0 hW (tq_gV qm_306 qm_307 qm_308 qm_2 qm_309) rfl rfl rfl (by decide +kernel) ⟨Nat.le_of_ble_eq_true rfl, Nat.le_of_ble_eq_true rfl⟩) ⟨tq_b1, va_recv hK hP (ci := 1) (q0 := 4) rfl rfl, fun U hU hW9 => ⟨rfl, by rw [hU]; exact hP.sub [4, 5, 6] rfl, va_K.moved hW9.alike (hK.sub [0] rfl)⟩⟩ rfl rfl hl.1 rfl (lv_room (Nat.le_of_ble_eq_true rfl)) qd_L_law_560 ⟨by show _ ≤ 601024; omega, by show _ ≤ 7293034; omega⟩) (fun r9 e9 => ?_)
    subst e9
    refine lv_iload hx hb qd_L_law_563 (lv_at hl 1 rfl) ?_
    refine tq_icmp_eq (x := 0) (y := 0) (tgt := 570) hx hb qd_L_law_565 (by decide) (by omega) (by omega) (fun c8 => ?_) (fun c9 => by omega)
    refine lv_iload hx hb qd_L_law_570 (lv_at hl 1 rfl) ?_
    refine tq_if_ne (x := 0) (tgt := 587) hx hb qd_L_law_572 (by decide) (by omega) (fun c9 => by omega) (fun c7 => ?_)
    refine lv_aload_n hx hb qd_L_law_575 rfl (lv_at hl 6 rfl) ?_
    refine lv_iconst (v := nI 0) hx hb qd_L_law_576 (by decide +kernel) ?_
    refine tq_lald hx hb hK hP 3 0 rfl rfl (j := 0) (by omega) (by decide) qd_L_law_577 ?_
    refine tq_tl (y := (nI (tq_pl y j)).toInt64) (pk_uLs) ?_
    refine lv_iload hx hb qd_L_law_578 (lv_at hl 0 rfl) ?_
    refine lv_i2l (v := (nI (tq_pl y j)).toInt64) hx hb qd_L_law_580 rfl ?_
    refine tq_lc_eq (tgt := 587) hx hb qd_L_law_581 qd_L_law_582 (by decide) (fun c6 => ?_) (fun c9 => absurd rfl c9)
    refine lv_goto (tgt := 1247) hx hb qd_L_law_587 (by decide) ?_
    refine W.widen (k := cells + 1) (n := slots + 6) (by omega) (by omega) ?_
    exact cont n ((tq_pl y j)) f u (nI 0) w4 z1 z2 f2 ((tq_wr g2 0 (tq_pt (fun j => tq_leaf (f2 j)) 0 y j))) (vp_updL ow 0 ((nI (tq_pl y j)).toInt64)) _ _ _ (hR.path h1 h2 hu) (hP.sub [0, 1, 2, 4, 5, 6, 3] rfl) (hD.sub [0, 1, 2, 4, 5, 6, 3] (by decide) rfl) hS (lv_sub hl [2, 3, 4, 5, 6] rfl)
set_option maxHeartbeats 4000000 in
set_option maxRecDepth 100000 in
/-- steps -/
theorem lq_c6 (p : Program) (l : Launch) (e : Env) (s : State) (m : MethodId) (below : List Frame) (meth : Method) (c : Code) (sb L : Nat) (xs : Nat → Int32) (dC : Nat → ClassId) (dI : Nat → Nat → Nat) (x a b o ca cb ao : Nat) (cA : ClassId) (A : Nat → Prop) (C9 : lq_F p l e s m below meth c sb L xs dC dI x a b o ca cb ao cA A) (ix cells slots : Nat) (hi : ix + 7 ≤ L) (hc1 : cells + 1 ≤ 601024) (hs1 : slots + 6 ≤ 7293034) (cont : lq_N p l e s m below meth c sb L xs dC dI x a b o ca cb ao cA A ix (cells + 1) (slots + 6) 1247) : lq_N p l e s m below meth c sb L xs dC dI x a b o ca cb ao cA A ix cells slots 590 := by
  intro n k f g w1 w4 z1 z2 f2 g2 ow H locs ls hR hP hD hS hl
  obtain ⟨hx, hb, hml, hown, hW, hst, hA, hX, hbl, hbA, hZ, hK, hL⟩ := id C9
  have hn6 := hR.1
  have hk4 := hR.2.1
  obtain ⟨p1, e1⟩ : ∃ z9 : Int32, xs (ix + 1) = z9 := ⟨_, rfl⟩
  obtain ⟨p2, e2⟩ : ∃ z9 : Int32, xs (ix + 2) = z9 := ⟨_, rfl⟩
  by_cases hq : p1 < nI 1 ∨ p2 < p1 ∨ nI n < p2
  · refine lv_aload_n hx hb qd_L_law_590 rfl (lv_at hl 2 rfl) ?_
    refine lv_aload_n hx hb qd_L_law_591 rfl (lv_at hl 1 rfl) ?_
    refine lv_iload hx hb qd_L_law_592 (lv_at hl 0 rfl) ?_
    refine lv_iconst (v := nI 1) hx hb qd_L_law_594 (by decide +kernel) ?_
    refine lv_iadd hx hb qd_L_law_595 ?_
    refine tq_ti (y := nI (ix + 1)) (nI_add _ _) ?_
    refine tq_sld hx hb hX hbl hbA hS (j := ix + 1) (v := p1) (by omega) (by omega) e1 qd_L_law_596 ?_
    refine lv_aload_n hx hb qd_L_law_597 rfl (lv_at hl 1 rfl) ?_
    refine lv_iload hx hb qd_L_law_598 (lv_at hl 0 rfl) ?_
    refine lv_iconst (v := nI 2) hx hb qd_L_law_600 (by decide +kernel) ?_
    refine lv_iadd hx hb qd_L_law_601 ?_
    refine tq_ti (y := nI (ix + 2)) (nI_add _ _) ?_
    refine tq_sld hx hb hX hbl hbA hS (j := ix + 2) (v := p2) (by omega) (by omega) e2 qd_L_law_602 ?_
    refine lv_aload_n hx hb qd_L_law_603 rfl (lv_at hl 4 rfl) ?_
    have hPc := hP.sub (ws' := [(x, .inr (0, [.ref a, .int (nI n), .ref b, .int (nI k)])), (a, .inl (cA, (600, .inr (.inl f)))), (b, .inl (cA, (40, .inr (.inl g)))), (ao, .inl (cA, (1, .inr (.inl ow))))]) [0, 1, 2, 6] rfl
    have hDc := hD.sub (ws' := [(x, .inr (0, [.ref a, .int (nI n), .ref b, .int (nI k)])), (a, .inl (cA, (600, .inr (.inl f)))), (b, .inl (cA, (40, .inr (.inl g)))), (ao, .inl (cA, (1, .inr (.inl ow))))]) [0, 1, 2, 6] (by decide) rfl
    have hKc := hK.sub (tys' := [(cA, .long)]) [0] rfl
    have hFc := va_free (wc := [(x, .inr (0, [.ref a, .int (nI n), .ref b, .int (nI k)])), (a, .inl (cA, (600, .inr (.inl f)))), (b, .inl (cA, (40, .inr (.inl g)))), (ao, .inl (cA, (1, .inr (.inl ow))))]) hD hS hA [0, 1, 2, 6] rfl
    refine va_calli (vx_runSW (As := [.ref x, .int p1, .int p2, .ref ao]) (rest := []) ⟨hx, hb, hml, hown, hW⟩ (cx_L_steps l dC dI x a b cA n k f g ao ow H.size hst p1 p2 hq) (vx_cwSW 4 hW (tq_gSa qm_224 qm_225 qm_0 qm_226) rfl rfl rfl (by decide +kernel) ⟨Nat.le_of_ble_eq_true rfl, Nat.le_of_ble_eq_true rfl⟩) ⟨tq_b3, fun U hU hW9 => ⟨rfl, ⟨by rw [hU], by rw [hU]; exact hPc, va_K.moved hW9.alike hKc, hDc.weaken (fun _ _ _ _ => trivial)⟩, hZ.on hS hU hW9 hFc⟩⟩ rfl rfl hl.1 rfl (lv_room (Nat.le_of_ble_eq_true rfl)) qd_L_law_604 ⟨by show _ ≤ 601024; omega, by show _ ≤ 7293034; omega⟩) hS (fun q _ h => hFc q h) hFc (fun r9 u t9 H1 locs ht9 hvm hw hB hz1 hk1 hS => ?_)
    obtain ⟨hP1, hK1, hD1⟩ := hB
    rw [ht9] at hP1
    obtain ⟨hP, hD⟩ := va_join (wr := [(o, .inr (1, [.int w1, .int (nI n), .int (nI k), .int w4, .ref ca, .ref cb, .long z1, .long z2])), (ca, .inl (cA, (600, .inr (.inl f2)))), (cb, .inl (cA, (40, .inr (.inl g2))))]) (w1 := [(x, .inr (0, [.ref a, .int (nI n), .ref b, .int (nI k)])), (a, .inl (cA, (600, .inr (.inl f)))), (b, .inl (cA, (40, .inr (.inl g)))), (ao, .inl (cA, (1, .inr (.inl ow))))]) hP hD [0, 1, 2, 6] [3, 4, 5] rfl rfl (by decide) (by decide) hk1 hFc hP1 hD1
    generalize H1 = H at hP hS ⊢
    have hP : va_P (dC, dI) tq_cl [(o, .inr (1, [.int w1, .int (nI n), .int (nI k), .int w4, .ref ca, .ref cb, .long z1, .long z2])), (ca, .inl (cA, (600, .inr (.inl f2)))), (cb, .inl (cA, (40, .inr (.inl g2)))), (x, .inr (0, [.ref a, .int (nI n), .ref b, .int (nI k)])), (a, .inl (cA, (600, .inr (.inl f)))), (b, .inl (cA, (40, .inr (.inl g)))), (ao, .inl (cA, (1, .inr (.inl ow))))] H := hP
    have hD : va_D A [(o, .inr (1, [.int w1, .int (nI n), .int (nI k), .int w4, .ref ca, .ref cb, .long z1, .long z2])), (ca, .inl (cA, (600, .inr (.inl f2)))), (cb, .inl (cA, (40, .inr (.inl g2)))), (x, .inr (0, [.ref a, .int (nI n), .ref b, .int (nI k)])), (a, .inl (cA, (600, .inr (.inl f)))), (b, .inl (cA, (40, .inr (.inl g)))), (ao, .inl (cA, (1, .inr (.inl ow))))] := hD
    have hw : r9 = nI 1 := hw
    subst hw
    refine lv_istore (lv' := [(5, .int (nI 1)), (4, .int (nI ix)), (0, .ref sb), (1, .ref x), (2, .ref o), (3, .ref ao)]) hx hb qd_L_law_607 hl (by decide) rfl (fun ls hl => ?_)
    refine lv_aload_n hx hb qd_L_law_609 rfl (lv_at hl 4 rfl) ?_
    refine lv_aload_n hx hb qd_L_law_610 rfl (lv_at hl 2 rfl) ?_
    refine lv_iload hx hb qd_L_law_611 (lv_at hl 1 rfl) ?_
    refine lv_iconst (v := nI 1) hx hb qd_L_law_613 (by decide +kernel) ?_
    refine lv_iadd hx hb qd_L_law_614 ?_
    refine tq_ti (y := nI (ix + 1)) (nI_add _ _) ?_
    refine tq_sld hx hb hX hbl hbA hS (j := ix + 1) (v := p1) (by omega) (by omega) e1 qd_L_law_615 ?_
    refine lv_aload_n hx hb qd_L_law_616 rfl (lv_at hl 2 rfl) ?_
    refine lv_iload hx hb qd_L_law_617 (lv_at hl 1 rfl) ?_
    refine lv_iconst (v := nI 2) hx hb qd_L_law_619 (by decide +kernel) ?_
    refine lv_iadd hx hb qd_L_law_620 ?_
    refine tq_ti (y := nI (ix + 2)) (nI_add _ _) ?_
    refine tq_sld hx hb hX hbl hbA hS (j := ix + 2) (v := p2) (by omega) (by omega) e2 qd_L_law_621 ?_
    have hPc := hP.sub (ws' := [(o, .inr (1, [.int w1, .int (nI n), .int (nI k), .int w4, .ref ca, .ref cb, .long z1, .long z2])), (ca, .inl (cA, (600, .inr (.inl f2)))), (cb, .inl (cA, (40, .inr (.inl g2))))]) [0, 1, 2] rfl
    have hDc := hD.sub (ws' := [(o, .inr (1, [.int w1, .int (nI n), .int (nI k), .int w4, .ref ca, .ref cb, .long z1, .long z2])), (ca, .inl (cA, (600, .inr (.inl f2)))), (cb, .inl (cA, (40, .inr (.inl g2))))]) [0, 1, 2] (by decide) rfl
    have hKc := hK.sub (tys' := [(cA, .long)]) [0] rfl
    have hFc := va_free (wc := [(o, .inr (1, [.int w1, .int (nI n), .int (nI k), .int w4, .ref ca, .ref cb, .long z1, .long z2])), (ca, .inl (cA, (600, .inr (.inl f2)))), (cb, .inl (cA, (40, .inr (.inl g2))))]) hD hS hA [0, 1, 2] rfl
    refine va_calli (va_runV (As := [.int p1, .int p2]) (rest := []) ⟨hx, hb, hml, hown, hW⟩ (ct_M_steps_no l dC dI o ca cb cA w1 n k w4 z1 z2 f2 g2 H.size p1 p2 hq) (cwV 2 hW (tq_gV qm_358 qm_359 qm_360 qm_2 qm_361) rfl rfl rfl (by decide +kernel) ⟨Nat.le_of_ble_eq_true rfl, Nat.le_of_ble_eq_true rfl⟩) ⟨tq_b2, va_recv hKc hPc (ci := 1) (q0 := 0) rfl rfl, fun U hU hW9 => ⟨rfl, by rw [hU], by rw [hU]; exact hPc, va_K.moved hW9.alike hKc, hDc.weaken (fun _ _ _ _ => trivial)⟩⟩ rfl rfl hl.1 rfl (lv_room (Nat.le_of_ble_eq_true rfl)) qd_L_law_622 ⟨by show _ ≤ 601024; omega, by show _ ≤ 7293034; omega⟩) hS (fun q _ h => hFc q h) hFc (fun r9 u9 t9 H1 locs ht9 hvm hw hB hz1 hk1 hS => ?_)
    obtain ⟨hP1, hK1, hD1⟩ := hB
    rw [ht9] at hP1
    obtain ⟨hP, hD⟩ := va_join (wr := [(x, .inr (0, [.ref a, .int (nI n), .ref b, .int (nI k)])), (a, .inl (cA, (600, .inr (.inl f)))), (b, .inl (cA, (40, .inr (.inl g)))), (ao, .inl (cA, (1, .inr (.inl ow))))]) (w1 := [(o, .inr (1, [.int (nI 1), .int (nI n), .int (nI k), .int w4, .ref ca, .ref cb, .long z1, .long z2])), (ca, .inl (cA, (600, .inr (.inl f2)))), (cb, .inl (cA, (40, .inr (.inl g2))))]) hP hD [0, 1, 2] [3, 4, 5, 6] rfl rfl (by decide) (by decide) hk1 hFc hP1 hD1
    generalize H1 = H at hP hS ⊢
    have hP : va_P (dC, dI) tq_cl [(x, .inr (0, [.ref a, .int (nI n), .ref b, .int (nI k)])), (a, .inl (cA, (600, .inr (.inl f)))), (b, .inl (cA, (40, .inr (.inl g)))), (ao, .inl (cA, (1, .inr (.inl ow)))), (o, .inr (1, [.int (nI 1), .int (nI n), .int (nI k), .int w4, .ref ca, .ref cb, .long z1, .long z2])), (ca, .inl (cA, (600, .inr (.inl f2)))), (cb, .inl (cA, (40, .inr (.inl g2))))] H := hP
    have hD : va_D A [(x, .inr (0, [.ref a, .int (nI n), .ref b, .int (nI k)])), (a, .inl (cA, (600, .inr (.inl f)))), (b, .inl (cA, (40, .inr (.inl g)))), (ao, .inl (cA, (1, .inr (.inl ow)))), (o, .inr (1, [.int (nI 1), .int (nI n), .int (nI k), .int w4, .ref ca, .ref cb, .long z1, .long z2])), (ca, .inl (cA, (600, .inr (.inl f2)))), (cb, .inl (cA, (40, .inr (.inl g2))))] := hD
    have hw : r9 = nI 0 := hw
    subst hw
    refine lv_istore (lv' := [(6, .int (nI 0)), (5, .int (nI 1)), (4, .int (nI ix)), (0, .ref sb), (1, .ref x), (2, .ref o), (3, .ref ao)]) hx hb qd_L_law_625 hl (by decide) rfl (fun ls hl => ?_)
    refine lv_aload_n hx hb qd_L_law_627 rfl (lv_at hl 5 rfl) ?_
    refine vp_callSi (W.runV (As := []) (rest := []) ⟨hx, hb, hml, hown, hW⟩ (ct_M_thrown l dC dI o ca cb cA (nI 1) n k w4 z1 z2 f2 g2) (cwV 0 hW (tq_gV qm_306 qm_307 qm_308 qm_2 qm_309) rfl rfl rfl (by decide +kernel) ⟨Nat.le_of_ble_eq_true rfl, Nat.le_of_ble_eq_true rfl⟩) ⟨tq_b1, va_recv hK hP (ci := 1) (q0 := 4) rfl rfl, fun U hU hW9 => ⟨rfl, by rw [hU]; exact hP.sub [4, 5, 6] rfl, va_K.moved hW9.alike (hK.sub [0] rfl)⟩⟩ rfl rfl hl.1 rfl (lv_room (Nat.le_of_ble_eq_true rfl)) qd_L_law_628 ⟨by show _ ≤ 601024; omega, by show _ ≤ 7293034; omega⟩) (fun r9 e9 => ?_)
    subst e9
    refine lv_iload hx hb qd_L_law_631 (lv_at hl 1 rfl) ?_
    refine tq_icmp_eq (x := 1) (y := 1) (tgt := 638) hx hb qd_L_law_633 (by decide) (by omega) (by omega) (fun c8 => ?_) (fun c9 => by omega)
    refine lv_iload hx hb qd_L_law_638 (lv_at hl 1 rfl) ?_
    refine tq_if_ne (x := 1) (tgt := 655) hx hb qd_L_law_640 (by decide) (by omega) (fun c7 => ?_) (fun c9 => by omega)
    refine lv_goto (tgt := 1247) hx hb qd_L_law_655 (by decide) ?_
    refine W.widen (k := cells + 1) (n := slots + 6) (by omega) (by omega) ?_
    exact cont n k f g (nI 1) w4 z1 z2 f2 g2 ow _ _ _ hR (hP.sub [0, 1, 2, 4, 5, 6, 3] rfl) (hD.sub [0, 1, 2, 4, 5, 6, 3] (by decide) rfl) hS (lv_sub hl [2, 3, 4, 5, 6] rfl)
  · obtain ⟨y, j, h0, h1, h2, rfl, rfl⟩ := tq_ok5 (by omega) hq
    refine lv_aload_n hx hb qd_L_law_590 rfl (lv_at hl 2 rfl) ?_
    refine lv_aload_n hx hb qd_L_law_591 rfl (lv_at hl 1 rfl) ?_
    refine lv_iload hx hb qd_L_law_592 (lv_at hl 0 rfl) ?_
    refine lv_iconst (v := nI 1) hx hb qd_L_law_594 (by decide +kernel) ?_
    refine lv_iadd hx hb qd_L_law_595 ?_
    refine tq_ti (y := nI (ix + 1)) (nI_add _ _) ?_
    refine tq_sld hx hb hX hbl hbA hS (j := ix + 1) (v := (nI y)) (by omega) (by omega) e1 qd_L_law_596 ?_
    refine lv_aload_n hx hb qd_L_law_597 rfl (lv_at hl 1 rfl) ?_
    refine lv_iload hx hb qd_L_law_598 (lv_at hl 0 rfl) ?_
    refine lv_iconst (v := nI 2) hx hb qd_L_law_600 (by decide +kernel) ?_
    refine lv_iadd hx hb qd_L_law_601 ?_
    refine tq_ti (y := nI (ix + 2)) (nI_add _ _) ?_
    refine tq_sld hx hb hX hbl hbA hS (j := ix + 2) (v := (nI j)) (by omega) (by omega) e2 qd_L_law_602 ?_
    refine lv_aload_n hx hb qd_L_law_603 rfl (lv_at hl 4 rfl) ?_
    have hPc := hP.sub (ws' := [(x, .inr (0, [.ref a, .int (nI n), .ref b, .int (nI k)])), (a, .inl (cA, (600, .inr (.inl f)))), (b, .inl (cA, (40, .inr (.inl g)))), (ao, .inl (cA, (1, .inr (.inl ow))))]) [0, 1, 2, 6] rfl
    have hDc := hD.sub (ws' := [(x, .inr (0, [.ref a, .int (nI n), .ref b, .int (nI k)])), (a, .inl (cA, (600, .inr (.inl f)))), (b, .inl (cA, (40, .inr (.inl g)))), (ao, .inl (cA, (1, .inr (.inl ow))))]) [0, 1, 2, 6] (by decide) rfl
    have hKc := hK.sub (tys' := [(cA, .long)]) [0] rfl
    have hFc := va_free (wc := [(x, .inr (0, [.ref a, .int (nI n), .ref b, .int (nI k)])), (a, .inl (cA, (600, .inr (.inl f)))), (b, .inl (cA, (40, .inr (.inl g)))), (ao, .inl (cA, (1, .inr (.inl ow))))]) hD hS hA [0, 1, 2, 6] rfl
    refine va_calli (vx_runSW (As := [.ref x, .int (nI y), .int (nI j), .ref ao]) (rest := []) ⟨hx, hb, hml, hown, hW⟩ (ct_L_steps l dC dI x a b cA n k f g ao ow H.size y j h0 h1 h2 hn6) (vx_cwSW 4 hW (tq_gSa qm_224 qm_225 qm_0 qm_226) rfl rfl rfl (by decide +kernel) ⟨Nat.le_of_ble_eq_true rfl, Nat.le_of_ble_eq_true rfl⟩) ⟨tq_b2, fun U hU hW9 => ⟨rfl, by rw [hU], by rw [hU]; exact hPc, va_K.moved hW9.alike hKc, hDc.weaken (fun _ _ _ _ => trivial)⟩⟩ rfl rfl hl.1 rfl (lv_room (Nat.le_of_ble_eq_true rfl)) qd_L_law_604 ⟨by show _ ≤ 601024; omega, by show _ ≤ 7293034; omega⟩) hS (fun q _ h => hFc q h) hFc (fun r9 u t9 H1 locs ht9 hvm hw hB hz1 hk1 hS => ?_)
    obtain ⟨hP1, hK1, hD1⟩ := hB
    rw [ht9] at hP1
    obtain ⟨hP, hD⟩ := va_join (wr := [(o, .inr (1, [.int w1, .int (nI n), .int (nI k), .int w4, .ref ca, .ref cb, .long z1, .long z2])), (ca, .inl (cA, (600, .inr (.inl f2)))), (cb, .inl (cA, (40, .inr (.inl g2))))]) (w1 := [(x, .inr (0, [.ref a, .int (nI n), .ref b, .int (nI (tq_sl true y j))])), (a, .inl (cA, (600, .inr (.inl f)))), (b, .inl (cA, (40, .inr (.inl u)))), (ao, .inl (cA, (1, .inr (.inl (vp_updL ow 0 ((nI (tq_sl true y j)).toInt64))))))]) hP hD [0, 1, 2, 6] [3, 4, 5] rfl rfl (by decide) (by decide) hk1 hFc hP1 hD1
    generalize H1 = H at hP hS ⊢
    have hP : va_P (dC, dI) tq_cl [(o, .inr (1, [.int w1, .int (nI n), .int (nI k), .int w4, .ref ca, .ref cb, .long z1, .long z2])), (ca, .inl (cA, (600, .inr (.inl f2)))), (cb, .inl (cA, (40, .inr (.inl g2)))), (x, .inr (0, [.ref a, .int (nI n), .ref b, .int (nI (tq_sl true y j))])), (a, .inl (cA, (600, .inr (.inl f)))), (b, .inl (cA, (40, .inr (.inl u)))), (ao, .inl (cA, (1, .inr (.inl (vp_updL ow 0 ((nI (tq_sl true y j)).toInt64))))))] H := hP
    have hD : va_D A [(o, .inr (1, [.int w1, .int (nI n), .int (nI k), .int w4, .ref ca, .ref cb, .long z1, .long z2])), (ca, .inl (cA, (600, .inr (.inl f2)))), (cb, .inl (cA, (40, .inr (.inl g2)))), (x, .inr (0, [.ref a, .int (nI n), .ref b, .int (nI (tq_sl true y j))])), (a, .inl (cA, (600, .inr (.inl f)))), (b, .inl (cA, (40, .inr (.inl u)))), (ao, .inl (cA, (1, .inr (.inl (vp_updL ow 0 ((nI (tq_sl true y j)).toInt64))))))] := hD
    obtain ⟨hw, hu⟩ := hw
    have hw : r9 = nI 0 := hw
    subst hw
    refine lv_istore (lv' := [(5, .int (nI 0)), (4, .int (nI ix)), (0, .ref sb), (1, .ref x), (2, .ref o), (3, .ref ao)]) hx hb qd_L_law_607 hl (by decide) rfl (fun ls hl => ?_)
    refine lv_aload_n hx hb qd_L_law_609 rfl (lv_at hl 4 rfl) ?_
    refine lv_aload_n hx hb qd_L_law_610 rfl (lv_at hl 2 rfl) ?_
    refine lv_iload hx hb qd_L_law_611 (lv_at hl 1 rfl) ?_
    refine lv_iconst (v := nI 1) hx hb qd_L_law_613 (by decide +kernel) ?_
    refine lv_iadd hx hb qd_L_law_614 ?_
    refine tq_ti (y := nI (ix + 1)) (nI_add _ _) ?_
    refine tq_sld hx hb hX hbl hbA hS (j := ix + 1) (v := (nI y)) (by omega) (by omega) e1 qd_L_law_615 ?_
    refine lv_aload_n hx hb qd_L_law_616 rfl (lv_at hl 2 rfl) ?_
    refine lv_iload hx hb qd_L_law_617 (lv_at hl 1 rfl) ?_
    refine lv_iconst (v := nI 2) hx hb qd_L_law_619 (by decide +kernel) ?_
    refine lv_iadd hx hb qd_L_law_620 ?_
    refine tq_ti (y := nI (ix + 2)) (nI_add _ _) ?_
    refine tq_sld hx hb hX hbl hbA hS (j := ix + 2) (v := (nI j)) (by omega) (by omega) e2 qd_L_law_621 ?_
    have hPc := hP.sub (ws' := [(o, .inr (1, [.int w1, .int (nI n), .int (nI k), .int w4, .ref ca, .ref cb, .long z1, .long z2])), (ca, .inl (cA, (600, .inr (.inl f2)))), (cb, .inl (cA, (40, .inr (.inl g2))))]) [0, 1, 2] rfl
    have hDc := hD.sub (ws' := [(o, .inr (1, [.int w1, .int (nI n), .int (nI k), .int w4, .ref ca, .ref cb, .long z1, .long z2])), (ca, .inl (cA, (600, .inr (.inl f2)))), (cb, .inl (cA, (40, .inr (.inl g2))))]) [0, 1, 2] (by decide) rfl
    have hKc := hK.sub (tys' := [(cA, .long)]) [0] rfl
    have hFc := va_free (wc := [(o, .inr (1, [.int w1, .int (nI n), .int (nI k), .int w4, .ref ca, .ref cb, .long z1, .long z2])), (ca, .inl (cA, (600, .inr (.inl f2)))), (cb, .inl (cA, (40, .inr (.inl g2))))]) hD hS hA [0, 1, 2] rfl
    refine va_calli (va_runV (As := [.int (nI y), .int (nI j)]) (rest := []) ⟨hx, hb, hml, hown, hW⟩ (ct_M_steps l dC dI o ca cb cA w1 n k w4 z1 z2 f2 g2 H.size y j h0 h1 h2 hn6) (cwV 2 hW (tq_gV qm_358 qm_359 qm_360 qm_2 qm_361) rfl rfl rfl (by decide +kernel) ⟨Nat.le_of_ble_eq_true rfl, Nat.le_of_ble_eq_true rfl⟩) ⟨tq_b2, va_recv hKc hPc (ci := 1) (q0 := 0) rfl rfl, fun U hU hW9 => ⟨rfl, by rw [hU], by rw [hU]; exact hPc, va_K.moved hW9.alike hKc, hDc.weaken (fun _ _ _ _ => trivial)⟩⟩ rfl rfl hl.1 rfl (lv_room (Nat.le_of_ble_eq_true rfl)) qd_L_law_622 ⟨by show _ ≤ 601024; omega, by show _ ≤ 7293034; omega⟩) hS (fun q _ h => hFc q h) hFc (fun r9 u9 t9 H1 locs ht9 hvm hw hB hz1 hk1 hS => ?_)
    obtain ⟨hP1, hK1, hD1⟩ := hB
    rw [ht9] at hP1
    obtain ⟨hP, hD⟩ := va_join (wr := [(x, .inr (0, [.ref a, .int (nI n), .ref b, .int (nI (tq_sl true y j))])), (a, .inl (cA, (600, .inr (.inl f)))), (b, .inl (cA, (40, .inr (.inl u)))), (ao, .inl (cA, (1, .inr (.inl (vp_updL ow 0 ((nI (tq_sl true y j)).toInt64))))))]) (w1 := [(o, .inr (1, [.int (nI 0), .int (nI n), .int (nI (tq_sl true y j)), .int w4, .ref ca, .ref cb, .long z1, .long z2])), (ca, .inl (cA, (600, .inr (.inl f2)))), (cb, .inl (cA, (40, .inr (.inl ((tq_wr g2 0 (tq_st (fun j => tq_leaf (f2 j)) true 0 y j)))))))]) hP hD [0, 1, 2] [3, 4, 5, 6] rfl rfl (by decide) (by decide) hk1 hFc hP1 hD1
    generalize H1 = H at hP hS ⊢
    have hP : va_P (dC, dI) tq_cl [(x, .inr (0, [.ref a, .int (nI n), .ref b, .int (nI (tq_sl true y j))])), (a, .inl (cA, (600, .inr (.inl f)))), (b, .inl (cA, (40, .inr (.inl u)))), (ao, .inl (cA, (1, .inr (.inl (vp_updL ow 0 ((nI (tq_sl true y j)).toInt64)))))), (o, .inr (1, [.int (nI 0), .int (nI n), .int (nI (tq_sl true y j)), .int w4, .ref ca, .ref cb, .long z1, .long z2])), (ca, .inl (cA, (600, .inr (.inl f2)))), (cb, .inl (cA, (40, .inr (.inl ((tq_wr g2 0 (tq_st (fun j => tq_leaf (f2 j)) true 0 y j)))))))] H := hP
    have hD : va_D A [(x, .inr (0, [.ref a, .int (nI n), .ref b, .int (nI (tq_sl true y j))])), (a, .inl (cA, (600, .inr (.inl f)))), (b, .inl (cA, (40, .inr (.inl u)))), (ao, .inl (cA, (1, .inr (.inl (vp_updL ow 0 ((nI (tq_sl true y j)).toInt64)))))), (o, .inr (1, [.int (nI 0), .int (nI n), .int (nI (tq_sl true y j)), .int w4, .ref ca, .ref cb, .long z1, .long z2])), (ca, .inl (cA, (600, .inr (.inl f2)))), (cb, .inl (cA, (40, .inr (.inl ((tq_wr g2 0 (tq_st (fun j => tq_leaf (f2 j)) true 0 y j)))))))] := hD
    have hw : r9 = nI (tq_sl true y j) := hw
    subst hw
    refine lv_istore (lv' := [(6, .int (nI (tq_sl true y j))), (5, .int (nI 0)), (4, .int (nI ix)), (0, .ref sb), (1, .ref x), (2, .ref o), (3, .ref ao)]) hx hb qd_L_law_625 hl (by decide) rfl (fun ls hl => ?_)
    refine lv_aload_n hx hb qd_L_law_627 rfl (lv_at hl 5 rfl) ?_
    refine vp_callSi (W.runV (As := []) (rest := []) ⟨hx, hb, hml, hown, hW⟩ (ct_M_thrown l dC dI o ca cb cA (nI 0) n ((tq_sl true y j)) w4 z1 z2 f2 ((tq_wr g2 0 (tq_st (fun j => tq_leaf (f2 j)) true 0 y j)))) (cwV 0 hW (tq_gV qm_306 qm_307 qm_308 qm_2 qm_309) rfl rfl rfl (by decide +kernel) ⟨Nat.le_of_ble_eq_true rfl, Nat.le_of_ble_eq_true rfl⟩) ⟨tq_b1, va_recv hK hP (ci := 1) (q0 := 4) rfl rfl, fun U hU hW9 => ⟨rfl, by rw [hU]; exact hP.sub [4, 5, 6] rfl, va_K.moved hW9.alike (hK.sub [0] rfl)⟩⟩ rfl rfl hl.1 rfl (lv_room (Nat.le_of_ble_eq_true rfl)) qd_L_law_628 ⟨by show _ ≤ 601024; omega, by show _ ≤ 7293034; omega⟩) (fun r9 e9 => ?_)
    subst e9
    refine lv_iload hx hb qd_L_law_631 (lv_at hl 1 rfl) ?_
    refine tq_icmp_eq (x := 0) (y := 0) (tgt := 638) hx hb qd_L_law_633 (by decide) (by omega) (by omega) (fun c8 => ?_) (fun c9 => by omega)
    refine lv_iload hx hb qd_L_law_638 (lv_at hl 1 rfl) ?_
    refine tq_if_ne (x := 0) (tgt := 655) hx hb qd_L_law_640 (by decide) (by omega) (fun c9 => by omega) (fun c7 => ?_)
    refine lv_aload_n hx hb qd_L_law_643 rfl (lv_at hl 6 rfl) ?_
    refine lv_iconst (v := nI 0) hx hb qd_L_law_644 (by decide +kernel) ?_
    refine tq_lald hx hb hK hP 3 0 rfl rfl (j := 0) (by omega) (by decide) qd_L_law_645 ?_
    refine tq_tl (y := (nI (tq_sl true y j)).toInt64) (pk_uLs) ?_
    refine lv_iload hx hb qd_L_law_646 (lv_at hl 0 rfl) ?_
    refine lv_i2l (v := (nI (tq_sl true y j)).toInt64) hx hb qd_L_law_648 rfl ?_
    refine tq_lc_eq (tgt := 655) hx hb qd_L_law_649 qd_L_law_650 (by decide) (fun c6 => ?_) (fun c9 => absurd rfl c9)
    refine lv_goto (tgt := 1247) hx hb qd_L_law_655 (by decide) ?_
    refine W.widen (k := cells + 1) (n := slots + 6) (by omega) (by omega) ?_
    exact cont n ((tq_sl true y j)) f u (nI 0) w4 z1 z2 f2 ((tq_wr g2 0 (tq_st (fun j => tq_leaf (f2 j)) true 0 y j))) (vp_updL ow 0 ((nI (tq_sl true y j)).toInt64)) _ _ _ (hR.steps h2 hu) (hP.sub [0, 1, 2, 4, 5, 6, 3] rfl) (hD.sub [0, 1, 2, 4, 5, 6, 3] (by decide) rfl) hS (lv_sub hl [2, 3, 4, 5, 6] rfl)
set_option maxHeartbeats 4000000 in
set_option maxRecDepth 100000 in
/-- proof -/
theorem lq_c7 (p : Program) (l : Launch) (e : Env) (s : State) (m : MethodId) (below : List Frame) (meth : Method) (c : Code) (sb L : Nat) (xs : Nat → Int32) (dC : Nat → ClassId) (dI : Nat → Nat → Nat) (x a b o ca cb ao : Nat) (cA : ClassId) (A : Nat → Prop) (C9 : lq_F p l e s m below meth c sb L xs dC dI x a b o ca cb ao cA A) (ix cells slots : Nat) (hi : ix + 7 ≤ L) (hc1 : cells + 1 ≤ 601024) (hs1 : slots + 6 ≤ 7293034) (cont : lq_N p l e s m below meth c sb L xs dC dI x a b o ca cb ao cA A ix (cells + 1) (slots + 6) 1247) : lq_N p l e s m below meth c sb L xs dC dI x a b o ca cb ao cA A ix cells slots 658 := by
  intro n k f g w1 w4 z1 z2 f2 g2 ow H locs ls hR hP hD hS hl
  obtain ⟨hx, hb, hml, hown, hW, hst, hA, hX, hbl, hbA, hZ, hK, hL⟩ := id C9
  have hn6 := hR.1
  have hk4 := hR.2.1
  obtain ⟨p1, e1⟩ : ∃ z9 : Int32, xs (ix + 1) = z9 := ⟨_, rfl⟩
  by_cases hq : p1 < 0 ∨ nI k ≤ p1
  · refine lv_aload_n hx hb qd_L_law_658 rfl (lv_at hl 2 rfl) ?_
    refine lv_aload_n hx hb qd_L_law_659 rfl (lv_at hl 1 rfl) ?_
    refine lv_iload hx hb qd_L_law_660 (lv_at hl 0 rfl) ?_
    refine lv_iconst (v := nI 1) hx hb qd_L_law_662 (by decide +kernel) ?_
    refine lv_iadd hx hb qd_L_law_663 ?_
    refine tq_ti (y := nI (ix + 1)) (nI_add _ _) ?_
    refine tq_sld hx hb hX hbl hbA hS (j := ix + 1) (v := p1) (by omega) (by omega) e1 qd_L_law_664 ?_
    refine lv_aload_n hx hb qd_L_law_665 rfl (lv_at hl 4 rfl) ?_
    have hPc := hP.sub (ws' := [(x, .inr (0, [.ref a, .int (nI n), .ref b, .int (nI k)])), (a, .inl (cA, (600, .inr (.inl f)))), (b, .inl (cA, (40, .inr (.inl g)))), (ao, .inl (cA, (1, .inr (.inl ow))))]) [0, 1, 2, 6] rfl
    have hDc := hD.sub (ws' := [(x, .inr (0, [.ref a, .int (nI n), .ref b, .int (nI k)])), (a, .inl (cA, (600, .inr (.inl f)))), (b, .inl (cA, (40, .inr (.inl g)))), (ao, .inl (cA, (1, .inr (.inl ow))))]) [0, 1, 2, 6] (by decide) rfl
    have hKc := hK.sub (tys' := [(cA, .long)]) [0] rfl
    have hFc := va_free (wc := [(x, .inr (0, [.ref a, .int (nI n), .ref b, .int (nI k)])), (a, .inl (cA, (600, .inr (.inl f)))), (b, .inl (cA, (40, .inr (.inl g)))), (ao, .inl (cA, (1, .inr (.inl ow))))]) hD hS hA [0, 1, 2, 6] rfl
    refine va_calli (vx_runSW (As := [.ref x, .int p1, .ref ao]) (rest := []) ⟨hx, hb, hml, hown, hW⟩ (cx_L_proof l dC dI x a b cA n k f g ao ow H.size hst p1 hq) (vx_cwSW 3 hW (tq_gSa qm_231 qm_232 qm_0 qm_233) rfl rfl rfl (by decide +kernel) ⟨Nat.le_of_ble_eq_true rfl, Nat.le_of_ble_eq_true rfl⟩) ⟨tq_b3, fun U hU hW9 => ⟨rfl, ⟨by rw [hU], by rw [hU]; exact hPc, va_K.moved hW9.alike hKc, hDc.weaken (fun _ _ _ _ => trivial)⟩, hZ.on hS hU hW9 hFc⟩⟩ rfl rfl hl.1 rfl (lv_room (Nat.le_of_ble_eq_true rfl)) qd_L_law_666 ⟨by show _ ≤ 601024; omega, by show _ ≤ 7293034; omega⟩) hS (fun q _ h => hFc q h) hFc (fun r9 u t9 H1 locs ht9 hvm hw hB hz1 hk1 hS => ?_)
    obtain ⟨hP1, hK1, hD1⟩ := hB
    rw [ht9] at hP1
    obtain ⟨hP, hD⟩ := va_join (wr := [(o, .inr (1, [.int w1, .int (nI n), .int (nI k), .int w4, .ref ca, .ref cb, .long z1, .long z2])), (ca, .inl (cA, (600, .inr (.inl f2)))), (cb, .inl (cA, (40, .inr (.inl g2))))]) (w1 := [(x, .inr (0, [.ref a, .int (nI n), .ref b, .int (nI k)])), (a, .inl (cA, (600, .inr (.inl f)))), (b, .inl (cA, (40, .inr (.inl g)))), (ao, .inl (cA, (1, .inr (.inl ow))))]) hP hD [0, 1, 2, 6] [3, 4, 5] rfl rfl (by decide) (by decide) hk1 hFc hP1 hD1
    generalize H1 = H at hP hS ⊢
    have hP : va_P (dC, dI) tq_cl [(o, .inr (1, [.int w1, .int (nI n), .int (nI k), .int w4, .ref ca, .ref cb, .long z1, .long z2])), (ca, .inl (cA, (600, .inr (.inl f2)))), (cb, .inl (cA, (40, .inr (.inl g2)))), (x, .inr (0, [.ref a, .int (nI n), .ref b, .int (nI k)])), (a, .inl (cA, (600, .inr (.inl f)))), (b, .inl (cA, (40, .inr (.inl g)))), (ao, .inl (cA, (1, .inr (.inl ow))))] H := hP
    have hD : va_D A [(o, .inr (1, [.int w1, .int (nI n), .int (nI k), .int w4, .ref ca, .ref cb, .long z1, .long z2])), (ca, .inl (cA, (600, .inr (.inl f2)))), (cb, .inl (cA, (40, .inr (.inl g2)))), (x, .inr (0, [.ref a, .int (nI n), .ref b, .int (nI k)])), (a, .inl (cA, (600, .inr (.inl f)))), (b, .inl (cA, (40, .inr (.inl g)))), (ao, .inl (cA, (1, .inr (.inl ow))))] := hD
    have hw : r9 = nI 1 := hw
    subst hw
    refine lv_istore (lv' := [(5, .int (nI 1)), (4, .int (nI ix)), (0, .ref sb), (1, .ref x), (2, .ref o), (3, .ref ao)]) hx hb qd_L_law_669 hl (by decide) rfl (fun ls hl => ?_)
    refine lv_aload_n hx hb qd_L_law_671 rfl (lv_at hl 4 rfl) ?_
    refine lv_aload_n hx hb qd_L_law_672 rfl (lv_at hl 2 rfl) ?_
    refine lv_iload hx hb qd_L_law_673 (lv_at hl 1 rfl) ?_
    refine lv_iconst (v := nI 1) hx hb qd_L_law_675 (by decide +kernel) ?_
    refine lv_iadd hx hb qd_L_law_676 ?_
    refine tq_ti (y := nI (ix + 1)) (nI_add _ _) ?_
    refine tq_sld hx hb hX hbl hbA hS (j := ix + 1) (v := p1) (by omega) (by omega) e1 qd_L_law_677 ?_
    have hPc := hP.sub (ws' := [(o, .inr (1, [.int w1, .int (nI n), .int (nI k), .int w4, .ref ca, .ref cb, .long z1, .long z2])), (ca, .inl (cA, (600, .inr (.inl f2)))), (cb, .inl (cA, (40, .inr (.inl g2))))]) [0, 1, 2] rfl
    have hDc := hD.sub (ws' := [(o, .inr (1, [.int w1, .int (nI n), .int (nI k), .int w4, .ref ca, .ref cb, .long z1, .long z2])), (ca, .inl (cA, (600, .inr (.inl f2)))), (cb, .inl (cA, (40, .inr (.inl g2))))]) [0, 1, 2] (by decide) rfl
    have hKc := hK.sub (tys' := [(cA, .long)]) [0] rfl
    have hFc := va_free (wc := [(o, .inr (1, [.int w1, .int (nI n), .int (nI k), .int w4, .ref ca, .ref cb, .long z1, .long z2])), (ca, .inl (cA, (600, .inr (.inl f2)))), (cb, .inl (cA, (40, .inr (.inl g2))))]) hD hS hA [0, 1, 2] rfl
    refine va_calll (va_runV (As := [.int p1]) (rest := []) ⟨hx, hb, hml, hown, hW⟩ (ct_M_proof_no l dC dI o ca cb cA w1 n k w4 z1 z2 f2 g2 H.size p1 hq) (cwV 1 hW (tq_gV qm_366 qm_367 qm_368 qm_2 qm_369) rfl rfl rfl (by decide +kernel) ⟨Nat.le_of_ble_eq_true rfl, Nat.le_of_ble_eq_true rfl⟩) ⟨tq_b2, va_recv hKc hPc (ci := 1) (q0 := 0) rfl rfl, fun U hU hW9 => ⟨rfl, by rw [hU], by rw [hU]; exact hPc, va_K.moved hW9.alike hKc, hDc.weaken (fun _ _ _ _ => trivial)⟩⟩ rfl rfl hl.1 rfl (lv_room (Nat.le_of_ble_eq_true rfl)) qd_L_law_678 ⟨by show _ ≤ 601024; omega, by show _ ≤ 7293034; omega⟩) hS (fun q _ h => hFc q h) hFc (fun r9 u9 t9 H1 locs ht9 hvm hw hB hz1 hk1 hS => ?_)
    obtain ⟨hP1, hK1, hD1⟩ := hB
    rw [ht9] at hP1
    obtain ⟨hP, hD⟩ := va_join (wr := [(x, .inr (0, [.ref a, .int (nI n), .ref b, .int (nI k)])), (a, .inl (cA, (600, .inr (.inl f)))), (b, .inl (cA, (40, .inr (.inl g)))), (ao, .inl (cA, (1, .inr (.inl ow))))]) (w1 := [(o, .inr (1, [.int (nI 1), .int (nI n), .int (nI k), .int w4, .ref ca, .ref cb, .long z1, .long z2])), (ca, .inl (cA, (600, .inr (.inl f2)))), (cb, .inl (cA, (40, .inr (.inl g2))))]) hP hD [0, 1, 2] [3, 4, 5, 6] rfl rfl (by decide) (by decide) hk1 hFc hP1 hD1
    generalize H1 = H at hP hS ⊢
    have hP : va_P (dC, dI) tq_cl [(x, .inr (0, [.ref a, .int (nI n), .ref b, .int (nI k)])), (a, .inl (cA, (600, .inr (.inl f)))), (b, .inl (cA, (40, .inr (.inl g)))), (ao, .inl (cA, (1, .inr (.inl ow)))), (o, .inr (1, [.int (nI 1), .int (nI n), .int (nI k), .int w4, .ref ca, .ref cb, .long z1, .long z2])), (ca, .inl (cA, (600, .inr (.inl f2)))), (cb, .inl (cA, (40, .inr (.inl g2))))] H := hP
    have hD : va_D A [(x, .inr (0, [.ref a, .int (nI n), .ref b, .int (nI k)])), (a, .inl (cA, (600, .inr (.inl f)))), (b, .inl (cA, (40, .inr (.inl g)))), (ao, .inl (cA, (1, .inr (.inl ow)))), (o, .inr (1, [.int (nI 1), .int (nI n), .int (nI k), .int w4, .ref ca, .ref cb, .long z1, .long z2])), (ca, .inl (cA, (600, .inr (.inl f2)))), (cb, .inl (cA, (40, .inr (.inl g2))))] := hD
    have hw : r9 = 0 := hw
    subst hw
    refine lv_lstore (lv' := [(6, .long 0), (5, .int (nI 1)), (4, .int (nI ix)), (0, .ref sb), (1, .ref x), (2, .ref o), (3, .ref ao)]) hx hb qd_L_law_681 hl (by decide) rfl (fun ls hl => ?_)
    refine lv_aload_n hx hb qd_L_law_683 rfl (lv_at hl 5 rfl) ?_
    refine vp_callSi (W.runV (As := []) (rest := []) ⟨hx, hb, hml, hown, hW⟩ (ct_M_thrown l dC dI o ca cb cA (nI 1) n k w4 z1 z2 f2 g2) (cwV 0 hW (tq_gV qm_306 qm_307 qm_308 qm_2 qm_309) rfl rfl rfl (by decide +kernel) ⟨Nat.le_of_ble_eq_true rfl, Nat.le_of_ble_eq_true rfl⟩) ⟨tq_b1, va_recv hK hP (ci := 1) (q0 := 4) rfl rfl, fun U hU hW9 => ⟨rfl, by rw [hU]; exact hP.sub [4, 5, 6] rfl, va_K.moved hW9.alike (hK.sub [0] rfl)⟩⟩ rfl rfl hl.1 rfl (lv_room (Nat.le_of_ble_eq_true rfl)) qd_L_law_684 ⟨by show _ ≤ 601024; omega, by show _ ≤ 7293034; omega⟩) (fun r9 e9 => ?_)
    subst e9
    refine lv_iload hx hb qd_L_law_687 (lv_at hl 1 rfl) ?_
    refine tq_icmp_eq (x := 1) (y := 1) (tgt := 694) hx hb qd_L_law_689 (by decide) (by omega) (by omega) (fun c8 => ?_) (fun c9 => by omega)
    refine lv_iload hx hb qd_L_law_694 (lv_at hl 1 rfl) ?_
    refine tq_if_ne (x := 1) (tgt := 710) hx hb qd_L_law_696 (by decide) (by omega) (fun c7 => ?_) (fun c9 => by omega)
    refine lv_goto (tgt := 1247) hx hb qd_L_law_710 (by decide) ?_
    refine W.widen (k := cells + 1) (n := slots + 6) (by omega) (by omega) ?_
    exact cont n k f g (nI 1) w4 z1 z2 f2 g2 ow _ _ _ hR (hP.sub [0, 1, 2, 4, 5, 6, 3] rfl) (hD.sub [0, 1, 2, 4, 5, 6, 3] (by decide) rfl) hS (lv_sub hl [2, 3, 4, 5, 6] rfl)
  · obtain ⟨j, hj, rfl⟩ := tq_ok2 (by omega) hq
    refine lv_aload_n hx hb qd_L_law_658 rfl (lv_at hl 2 rfl) ?_
    refine lv_aload_n hx hb qd_L_law_659 rfl (lv_at hl 1 rfl) ?_
    refine lv_iload hx hb qd_L_law_660 (lv_at hl 0 rfl) ?_
    refine lv_iconst (v := nI 1) hx hb qd_L_law_662 (by decide +kernel) ?_
    refine lv_iadd hx hb qd_L_law_663 ?_
    refine tq_ti (y := nI (ix + 1)) (nI_add _ _) ?_
    refine tq_sld hx hb hX hbl hbA hS (j := ix + 1) (v := (nI j)) (by omega) (by omega) e1 qd_L_law_664 ?_
    refine lv_aload_n hx hb qd_L_law_665 rfl (lv_at hl 4 rfl) ?_
    have hPc := hP.sub (ws' := [(x, .inr (0, [.ref a, .int (nI n), .ref b, .int (nI k)])), (a, .inl (cA, (600, .inr (.inl f)))), (b, .inl (cA, (40, .inr (.inl g)))), (ao, .inl (cA, (1, .inr (.inl ow))))]) [0, 1, 2, 6] rfl
    have hDc := hD.sub (ws' := [(x, .inr (0, [.ref a, .int (nI n), .ref b, .int (nI k)])), (a, .inl (cA, (600, .inr (.inl f)))), (b, .inl (cA, (40, .inr (.inl g)))), (ao, .inl (cA, (1, .inr (.inl ow))))]) [0, 1, 2, 6] (by decide) rfl
    have hKc := hK.sub (tys' := [(cA, .long)]) [0] rfl
    have hFc := va_free (wc := [(x, .inr (0, [.ref a, .int (nI n), .ref b, .int (nI k)])), (a, .inl (cA, (600, .inr (.inl f)))), (b, .inl (cA, (40, .inr (.inl g)))), (ao, .inl (cA, (1, .inr (.inl ow))))]) hD hS hA [0, 1, 2, 6] rfl
    refine va_calli (vx_runSW (As := [.ref x, .int (nI j), .ref ao]) (rest := []) ⟨hx, hb, hml, hown, hW⟩ (ct_L_proof l dC dI x a b cA n k f g ao ow H.size j hj hk4) (vx_cwSW 3 hW (tq_gSa qm_231 qm_232 qm_0 qm_233) rfl rfl rfl (by decide +kernel) ⟨Nat.le_of_ble_eq_true rfl, Nat.le_of_ble_eq_true rfl⟩) ⟨tq_b2, fun U hU hW9 => ⟨rfl, by rw [hU], by rw [hU]; exact hPc, va_K.moved hW9.alike hKc, hDc.weaken (fun _ _ _ _ => trivial)⟩⟩ rfl rfl hl.1 rfl (lv_room (Nat.le_of_ble_eq_true rfl)) qd_L_law_666 ⟨by show _ ≤ 601024; omega, by show _ ≤ 7293034; omega⟩) hS (fun q _ h => hFc q h) hFc (fun r9 u t9 H1 locs ht9 hvm hw hB hz1 hk1 hS => ?_)
    obtain ⟨hP1, hK1, hD1⟩ := hB
    rw [ht9] at hP1
    obtain ⟨hP, hD⟩ := va_join (wr := [(o, .inr (1, [.int w1, .int (nI n), .int (nI k), .int w4, .ref ca, .ref cb, .long z1, .long z2])), (ca, .inl (cA, (600, .inr (.inl f2)))), (cb, .inl (cA, (40, .inr (.inl g2))))]) (w1 := [(x, .inr (0, [.ref a, .int (nI n), .ref b, .int (nI k)])), (a, .inl (cA, (600, .inr (.inl f)))), (b, .inl (cA, (40, .inr (.inl g)))), (ao, .inl (cA, (1, .inr (.inl (vp_updL ow 0 (g j))))))]) hP hD [0, 1, 2, 6] [3, 4, 5] rfl rfl (by decide) (by decide) hk1 hFc hP1 hD1
    generalize H1 = H at hP hS ⊢
    have hP : va_P (dC, dI) tq_cl [(o, .inr (1, [.int w1, .int (nI n), .int (nI k), .int w4, .ref ca, .ref cb, .long z1, .long z2])), (ca, .inl (cA, (600, .inr (.inl f2)))), (cb, .inl (cA, (40, .inr (.inl g2)))), (x, .inr (0, [.ref a, .int (nI n), .ref b, .int (nI k)])), (a, .inl (cA, (600, .inr (.inl f)))), (b, .inl (cA, (40, .inr (.inl g)))), (ao, .inl (cA, (1, .inr (.inl (vp_updL ow 0 (g j))))))] H := hP
    have hD : va_D A [(o, .inr (1, [.int w1, .int (nI n), .int (nI k), .int w4, .ref ca, .ref cb, .long z1, .long z2])), (ca, .inl (cA, (600, .inr (.inl f2)))), (cb, .inl (cA, (40, .inr (.inl g2)))), (x, .inr (0, [.ref a, .int (nI n), .ref b, .int (nI k)])), (a, .inl (cA, (600, .inr (.inl f)))), (b, .inl (cA, (40, .inr (.inl g)))), (ao, .inl (cA, (1, .inr (.inl (vp_updL ow 0 (g j))))))] := hD
    have hw : r9 = nI 0 := hw
    subst hw
    refine lv_istore (lv' := [(5, .int (nI 0)), (4, .int (nI ix)), (0, .ref sb), (1, .ref x), (2, .ref o), (3, .ref ao)]) hx hb qd_L_law_669 hl (by decide) rfl (fun ls hl => ?_)
    refine lv_aload_n hx hb qd_L_law_671 rfl (lv_at hl 4 rfl) ?_
    refine lv_aload_n hx hb qd_L_law_672 rfl (lv_at hl 2 rfl) ?_
    refine lv_iload hx hb qd_L_law_673 (lv_at hl 1 rfl) ?_
    refine lv_iconst (v := nI 1) hx hb qd_L_law_675 (by decide +kernel) ?_
    refine lv_iadd hx hb qd_L_law_676 ?_
    refine tq_ti (y := nI (ix + 1)) (nI_add _ _) ?_
    refine tq_sld hx hb hX hbl hbA hS (j := ix + 1) (v := (nI j)) (by omega) (by omega) e1 qd_L_law_677 ?_
    have hPc := hP.sub (ws' := [(o, .inr (1, [.int w1, .int (nI n), .int (nI k), .int w4, .ref ca, .ref cb, .long z1, .long z2])), (ca, .inl (cA, (600, .inr (.inl f2)))), (cb, .inl (cA, (40, .inr (.inl g2))))]) [0, 1, 2] rfl
    have hDc := hD.sub (ws' := [(o, .inr (1, [.int w1, .int (nI n), .int (nI k), .int w4, .ref ca, .ref cb, .long z1, .long z2])), (ca, .inl (cA, (600, .inr (.inl f2)))), (cb, .inl (cA, (40, .inr (.inl g2))))]) [0, 1, 2] (by decide) rfl
    have hKc := hK.sub (tys' := [(cA, .long)]) [0] rfl
    have hFc := va_free (wc := [(o, .inr (1, [.int w1, .int (nI n), .int (nI k), .int w4, .ref ca, .ref cb, .long z1, .long z2])), (ca, .inl (cA, (600, .inr (.inl f2)))), (cb, .inl (cA, (40, .inr (.inl g2))))]) hD hS hA [0, 1, 2] rfl
    refine va_calll (va_runV (As := [.int (nI j)]) (rest := []) ⟨hx, hb, hml, hown, hW⟩ (ct_M_proof l dC dI o ca cb cA w1 n k w4 z1 z2 f2 g2 H.size j hj hk4) (cwV 1 hW (tq_gV qm_366 qm_367 qm_368 qm_2 qm_369) rfl rfl rfl (by decide +kernel) ⟨Nat.le_of_ble_eq_true rfl, Nat.le_of_ble_eq_true rfl⟩) ⟨tq_b2, va_recv hKc hPc (ci := 1) (q0 := 0) rfl rfl, fun U hU hW9 => ⟨rfl, by rw [hU], by rw [hU]; exact hPc, va_K.moved hW9.alike hKc, hDc.weaken (fun _ _ _ _ => trivial)⟩⟩ rfl rfl hl.1 rfl (lv_room (Nat.le_of_ble_eq_true rfl)) qd_L_law_678 ⟨by show _ ≤ 601024; omega, by show _ ≤ 7293034; omega⟩) hS (fun q _ h => hFc q h) hFc (fun r9 u9 t9 H1 locs ht9 hvm hw hB hz1 hk1 hS => ?_)
    obtain ⟨hP1, hK1, hD1⟩ := hB
    rw [ht9] at hP1
    obtain ⟨hP, hD⟩ := va_join (wr := [(x, .inr (0, [.ref a, .int (nI n), .ref b, .int (nI k)])), (a, .inl (cA, (600, .inr (.inl f)))), (b, .inl (cA, (40, .inr (.inl g)))), (ao, .inl (cA, (1, .inr (.inl (vp_updL ow 0 (g j))))))]) (w1 := [(o, .inr (1, [.int (nI 0), .int (nI n), .int (nI k), .int w4, .ref ca, .ref cb, .long z1, .long z2])), (ca, .inl (cA, (600, .inr (.inl f2)))), (cb, .inl (cA, (40, .inr (.inl g2))))]) hP hD [0, 1, 2] [3, 4, 5, 6] rfl rfl (by decide) (by decide) hk1 hFc hP1 hD1
    generalize H1 = H at hP hS ⊢
    have hP : va_P (dC, dI) tq_cl [(x, .inr (0, [.ref a, .int (nI n), .ref b, .int (nI k)])), (a, .inl (cA, (600, .inr (.inl f)))), (b, .inl (cA, (40, .inr (.inl g)))), (ao, .inl (cA, (1, .inr (.inl (vp_updL ow 0 (g j)))))), (o, .inr (1, [.int (nI 0), .int (nI n), .int (nI k), .int w4, .ref ca, .ref cb, .long z1, .long z2])), (ca, .inl (cA, (600, .inr (.inl f2)))), (cb, .inl (cA, (40, .inr (.inl g2))))] H := hP
    have hD : va_D A [(x, .inr (0, [.ref a, .int (nI n), .ref b, .int (nI k)])), (a, .inl (cA, (600, .inr (.inl f)))), (b, .inl (cA, (40, .inr (.inl g)))), (ao, .inl (cA, (1, .inr (.inl (vp_updL ow 0 (g j)))))), (o, .inr (1, [.int (nI 0), .int (nI n), .int (nI k), .int w4, .ref ca, .ref cb, .long z1, .long z2])), (ca, .inl (cA, (600, .inr (.inl f2)))), (cb, .inl (cA, (40, .inr (.inl g2))))] := hD
    have hw : r9 = g2 j := hw
    subst hw
    refine lv_lstore (lv' := [(6, .long (g2 j)), (5, .int (nI 0)), (4, .int (nI ix)), (0, .ref sb), (1, .ref x), (2, .ref o), (3, .ref ao)]) hx hb qd_L_law_681 hl (by decide) rfl (fun ls hl => ?_)
    refine lv_aload_n hx hb qd_L_law_683 rfl (lv_at hl 5 rfl) ?_
    refine vp_callSi (W.runV (As := []) (rest := []) ⟨hx, hb, hml, hown, hW⟩ (ct_M_thrown l dC dI o ca cb cA (nI 0) n k w4 z1 z2 f2 g2) (cwV 0 hW (tq_gV qm_306 qm_307 qm_308 qm_2 qm_309) rfl rfl rfl (by decide +kernel) ⟨Nat.le_of_ble_eq_true rfl, Nat.le_of_ble_eq_true rfl⟩) ⟨tq_b1, va_recv hK hP (ci := 1) (q0 := 4) rfl rfl, fun U hU hW9 => ⟨rfl, by rw [hU]; exact hP.sub [4, 5, 6] rfl, va_K.moved hW9.alike (hK.sub [0] rfl)⟩⟩ rfl rfl hl.1 rfl (lv_room (Nat.le_of_ble_eq_true rfl)) qd_L_law_684 ⟨by show _ ≤ 601024; omega, by show _ ≤ 7293034; omega⟩) (fun r9 e9 => ?_)
    subst e9
    refine lv_iload hx hb qd_L_law_687 (lv_at hl 1 rfl) ?_
    refine tq_icmp_eq (x := 0) (y := 0) (tgt := 694) hx hb qd_L_law_689 (by decide) (by omega) (by omega) (fun c8 => ?_) (fun c9 => by omega)
    refine lv_iload hx hb qd_L_law_694 (lv_at hl 1 rfl) ?_
    refine tq_if_ne (x := 0) (tgt := 710) hx hb qd_L_law_696 (by decide) (by omega) (fun c9 => by omega) (fun c7 => ?_)
    refine lv_aload_n hx hb qd_L_law_699 rfl (lv_at hl 6 rfl) ?_
    refine lv_iconst (v := nI 0) hx hb qd_L_law_700 (by decide +kernel) ?_
    refine tq_lald hx hb hK hP 3 0 rfl rfl (j := 0) (by omega) (by decide) qd_L_law_701 ?_
    refine tq_tl (y := g j) (pk_uLs) ?_
    refine lv_lload hx hb qd_L_law_702 (lv_at hl 0 rfl) ?_
    refine tq_lc_eq (tgt := 710) hx hb qd_L_law_704 qd_L_law_705 (by decide) (fun c6 => ?_) (fun c9 => absurd (hR.2.2.2 j hj) c9)
    refine lv_goto (tgt := 1247) hx hb qd_L_law_710 (by decide) ?_
    refine W.widen (k := cells + 1) (n := slots + 6) (by omega) (by omega) ?_
    exact cont n k f g (nI 0) w4 z1 z2 f2 g2 (vp_updL ow 0 (g j)) _ _ _ hR (hP.sub [0, 1, 2, 4, 5, 6, 3] rfl) (hD.sub [0, 1, 2, 4, 5, 6, 3] (by decide) rfl) hS (lv_sub hl [2, 3, 4, 5, 6] rfl)
set_option maxHeartbeats 4000000 in
set_option maxRecDepth 100000 in
/-- alter -/
theorem lq_c8 (p : Program) (l : Launch) (e : Env) (s : State) (m : MethodId) (below : List Frame) (meth : Method) (c : Code) (sb L : Nat) (xs : Nat → Int32) (dC : Nat → ClassId) (dI : Nat → Nat → Nat) (x a b o ca cb ao : Nat) (cA : ClassId) (A : Nat → Prop) (C9 : lq_F p l e s m below meth c sb L xs dC dI x a b o ca cb ao cA A) (ix cells slots : Nat) (hi : ix + 7 ≤ L) (hc1 : cells + 1 ≤ 601024) (hs1 : slots + 6 ≤ 7293034) (cont : lq_N p l e s m below meth c sb L xs dC dI x a b o ca cb ao cA A ix (cells + 1) (slots + 6) 1247) : lq_N p l e s m below meth c sb L xs dC dI x a b o ca cb ao cA A ix cells slots 713 := by
  intro n k f g w1 w4 z1 z2 f2 g2 ow H locs ls hR hP hD hS hl
  obtain ⟨hx, hb, hml, hown, hW, hst, hA, hX, hbl, hbA, hZ, hK, hL⟩ := id C9
  have hn6 := hR.1
  have hk4 := hR.2.1
  obtain ⟨p1, e1⟩ : ∃ z9 : Int32, xs (ix + 1) = z9 := ⟨_, rfl⟩
  obtain ⟨p2, e2⟩ : ∃ z9 : Int32, xs (ix + 2) = z9 := ⟨_, rfl⟩
  obtain ⟨p3, e3⟩ : ∃ z9 : Int32, xs (ix + 3) = z9 := ⟨_, rfl⟩
  by_cases hq : p1 < 0 ∨ nI k ≤ p1
  · refine lv_aload_n hx hb qd_L_law_713 rfl (lv_at hl 2 rfl) ?_
    refine lv_aload_n hx hb qd_L_law_714 rfl (lv_at hl 1 rfl) ?_
    refine lv_iload hx hb qd_L_law_715 (lv_at hl 0 rfl) ?_
    refine lv_iconst (v := nI 1) hx hb qd_L_law_717 (by decide +kernel) ?_
    refine lv_iadd hx hb qd_L_law_718 ?_
    refine tq_ti (y := nI (ix + 1)) (nI_add _ _) ?_
    refine tq_sld hx hb hX hbl hbA hS (j := ix + 1) (v := p1) (by omega) (by omega) e1 qd_L_law_719 ?_
    refine lv_aload_n hx hb qd_L_law_720 rfl (lv_at hl 1 rfl) ?_
    refine lv_iload hx hb qd_L_law_721 (lv_at hl 0 rfl) ?_
    refine lv_iconst (v := nI 2) hx hb qd_L_law_723 (by decide +kernel) ?_
    refine lv_iadd hx hb qd_L_law_724 ?_
    refine tq_ti (y := nI (ix + 2)) (nI_add _ _) ?_
    refine tq_sld hx hb hX hbl hbA hS (j := ix + 2) (v := p2) (by omega) (by omega) e2 qd_L_law_725 ?_
    refine lv_i2l (v := p2.toInt64) hx hb qd_L_law_726 rfl ?_
    refine lv_bipush (v := nI 32) hx hb qd_L_law_727 (by decide +kernel) ?_
    refine lv_lshl (v := p2.toInt64 <<< ((nI 32).toInt64 &&& 63)) hx hb qd_L_law_729 rfl ?_
    refine lv_aload_n hx hb qd_L_law_730 rfl (lv_at hl 1 rfl) ?_
    refine lv_iload hx hb qd_L_law_731 (lv_at hl 0 rfl) ?_
    refine lv_iconst (v := nI 3) hx hb qd_L_law_733 (by decide +kernel) ?_
    refine lv_iadd hx hb qd_L_law_734 ?_
    refine tq_ti (y := nI (ix + 3)) (nI_add _ _) ?_
    refine tq_sld hx hb hX hbl hbA hS (j := ix + 3) (v := p3) (by omega) (by omega) e3 qd_L_law_735 ?_
    refine lv_i2l (v := p3.toInt64) hx hb qd_L_law_736 rfl ?_
    refine lv_ldc2 (v := (4294967295)) hx hb hown (hW _ qm_407) qd_L_law_737 ?_
    refine lv_land hx hb qd_L_law_740 ?_
    refine lv_lor hx hb qd_L_law_741 ?_
    refine tq_tl (y := tq_lg p2 p3) (rfl) ?_
    refine lv_aload_n hx hb qd_L_law_742 rfl (lv_at hl 4 rfl) ?_
    have hPc := hP.sub (ws' := [(x, .inr (0, [.ref a, .int (nI n), .ref b, .int (nI k)])), (a, .inl (cA, (600, .inr (.inl f)))), (b, .inl (cA, (40, .inr (.inl g)))), (ao, .inl (cA, (1, .inr (.inl ow))))]) [0, 1, 2, 6] rfl
    have hDc := hD.sub (ws' := [(x, .inr (0, [.ref a, .int (nI n), .ref b, .int (nI k)])), (a, .inl (cA, (600, .inr (.inl f)))), (b, .inl (cA, (40, .inr (.inl g)))), (ao, .inl (cA, (1, .inr (.inl ow))))]) [0, 1, 2, 6] (by decide) rfl
    have hKc := hK.sub (tys' := [(cA, .long)]) [0] rfl
    have hFc := va_free (wc := [(x, .inr (0, [.ref a, .int (nI n), .ref b, .int (nI k)])), (a, .inl (cA, (600, .inr (.inl f)))), (b, .inl (cA, (40, .inr (.inl g)))), (ao, .inl (cA, (1, .inr (.inl ow))))]) hD hS hA [0, 1, 2, 6] rfl
    refine va_calli (vx_runSW (As := [.ref x, .int p1, .long (tq_lg p2 p3), .ref ao]) (rest := []) ⟨hx, hb, hml, hown, hW⟩ (cx_L_alter l dC dI x a b cA n k f g ao ow H.size hst p1 (tq_lg p2 p3) hq) (vx_cwSW 4 hW (tq_gSa qm_254 qm_255 qm_0 qm_256) rfl rfl rfl (by decide +kernel) ⟨Nat.le_of_ble_eq_true rfl, Nat.le_of_ble_eq_true rfl⟩) ⟨tq_b3, fun U hU hW9 => ⟨rfl, ⟨by rw [hU], by rw [hU]; exact hPc, va_K.moved hW9.alike hKc, hDc.weaken (fun _ _ _ _ => trivial)⟩, hZ.on hS hU hW9 hFc⟩⟩ rfl rfl hl.1 rfl (lv_room (Nat.le_of_ble_eq_true rfl)) qd_L_law_743 ⟨by show _ ≤ 601024; omega, by show _ ≤ 7293034; omega⟩) hS (fun q _ h => hFc q h) hFc (fun r9 u t9 H1 locs ht9 hvm hw hB hz1 hk1 hS => ?_)
    obtain ⟨hP1, hK1, hD1⟩ := hB
    rw [ht9] at hP1
    obtain ⟨hP, hD⟩ := va_join (wr := [(o, .inr (1, [.int w1, .int (nI n), .int (nI k), .int w4, .ref ca, .ref cb, .long z1, .long z2])), (ca, .inl (cA, (600, .inr (.inl f2)))), (cb, .inl (cA, (40, .inr (.inl g2))))]) (w1 := [(x, .inr (0, [.ref a, .int (nI n), .ref b, .int (nI k)])), (a, .inl (cA, (600, .inr (.inl f)))), (b, .inl (cA, (40, .inr (.inl g)))), (ao, .inl (cA, (1, .inr (.inl ow))))]) hP hD [0, 1, 2, 6] [3, 4, 5] rfl rfl (by decide) (by decide) hk1 hFc hP1 hD1
    generalize H1 = H at hP hS ⊢
    have hP : va_P (dC, dI) tq_cl [(o, .inr (1, [.int w1, .int (nI n), .int (nI k), .int w4, .ref ca, .ref cb, .long z1, .long z2])), (ca, .inl (cA, (600, .inr (.inl f2)))), (cb, .inl (cA, (40, .inr (.inl g2)))), (x, .inr (0, [.ref a, .int (nI n), .ref b, .int (nI k)])), (a, .inl (cA, (600, .inr (.inl f)))), (b, .inl (cA, (40, .inr (.inl g)))), (ao, .inl (cA, (1, .inr (.inl ow))))] H := hP
    have hD : va_D A [(o, .inr (1, [.int w1, .int (nI n), .int (nI k), .int w4, .ref ca, .ref cb, .long z1, .long z2])), (ca, .inl (cA, (600, .inr (.inl f2)))), (cb, .inl (cA, (40, .inr (.inl g2)))), (x, .inr (0, [.ref a, .int (nI n), .ref b, .int (nI k)])), (a, .inl (cA, (600, .inr (.inl f)))), (b, .inl (cA, (40, .inr (.inl g)))), (ao, .inl (cA, (1, .inr (.inl ow))))] := hD
    have hw : r9 = nI 1 := hw
    subst hw
    refine lv_istore (lv' := [(5, .int (nI 1)), (4, .int (nI ix)), (0, .ref sb), (1, .ref x), (2, .ref o), (3, .ref ao)]) hx hb qd_L_law_746 hl (by decide) rfl (fun ls hl => ?_)
    refine lv_aload_n hx hb qd_L_law_748 rfl (lv_at hl 4 rfl) ?_
    refine lv_aload_n hx hb qd_L_law_749 rfl (lv_at hl 2 rfl) ?_
    refine lv_iload hx hb qd_L_law_750 (lv_at hl 1 rfl) ?_
    refine lv_iconst (v := nI 1) hx hb qd_L_law_752 (by decide +kernel) ?_
    refine lv_iadd hx hb qd_L_law_753 ?_
    refine tq_ti (y := nI (ix + 1)) (nI_add _ _) ?_
    refine tq_sld hx hb hX hbl hbA hS (j := ix + 1) (v := p1) (by omega) (by omega) e1 qd_L_law_754 ?_
    refine lv_aload_n hx hb qd_L_law_755 rfl (lv_at hl 2 rfl) ?_
    refine lv_iload hx hb qd_L_law_756 (lv_at hl 1 rfl) ?_
    refine lv_iconst (v := nI 2) hx hb qd_L_law_758 (by decide +kernel) ?_
    refine lv_iadd hx hb qd_L_law_759 ?_
    refine tq_ti (y := nI (ix + 2)) (nI_add _ _) ?_
    refine tq_sld hx hb hX hbl hbA hS (j := ix + 2) (v := p2) (by omega) (by omega) e2 qd_L_law_760 ?_
    refine lv_i2l (v := p2.toInt64) hx hb qd_L_law_761 rfl ?_
    refine lv_bipush (v := nI 32) hx hb qd_L_law_762 (by decide +kernel) ?_
    refine lv_lshl (v := p2.toInt64 <<< ((nI 32).toInt64 &&& 63)) hx hb qd_L_law_764 rfl ?_
    refine lv_aload_n hx hb qd_L_law_765 rfl (lv_at hl 2 rfl) ?_
    refine lv_iload hx hb qd_L_law_766 (lv_at hl 1 rfl) ?_
    refine lv_iconst (v := nI 3) hx hb qd_L_law_768 (by decide +kernel) ?_
    refine lv_iadd hx hb qd_L_law_769 ?_
    refine tq_ti (y := nI (ix + 3)) (nI_add _ _) ?_
    refine tq_sld hx hb hX hbl hbA hS (j := ix + 3) (v := p3) (by omega) (by omega) e3 qd_L_law_770 ?_
    refine lv_i2l (v := p3.toInt64) hx hb qd_L_law_771 rfl ?_
    refine lv_ldc2 (v := (4294967295)) hx hb hown (hW _ qm_407) qd_L_law_772 ?_
    refine lv_land hx hb qd_L_law_775 ?_
    refine lv_lor hx hb qd_L_law_776 ?_
    refine tq_tl (y := tq_lg p2 p3) (rfl) ?_
    have hPc := hP.sub (ws' := [(o, .inr (1, [.int w1, .int (nI n), .int (nI k), .int w4, .ref ca, .ref cb, .long z1, .long z2])), (ca, .inl (cA, (600, .inr (.inl f2)))), (cb, .inl (cA, (40, .inr (.inl g2))))]) [0, 1, 2] rfl
    have hDc := hD.sub (ws' := [(o, .inr (1, [.int w1, .int (nI n), .int (nI k), .int w4, .ref ca, .ref cb, .long z1, .long z2])), (ca, .inl (cA, (600, .inr (.inl f2)))), (cb, .inl (cA, (40, .inr (.inl g2))))]) [0, 1, 2] (by decide) rfl
    have hKc := hK.sub (tys' := [(cA, .long)]) [0] rfl
    have hFc := va_free (wc := [(o, .inr (1, [.int w1, .int (nI n), .int (nI k), .int w4, .ref ca, .ref cb, .long z1, .long z2])), (ca, .inl (cA, (600, .inr (.inl f2)))), (cb, .inl (cA, (40, .inr (.inl g2))))]) hD hS hA [0, 1, 2] rfl
    refine va_calll (va_runV (As := [.int p1, .long (tq_lg p2 p3)]) (rest := []) ⟨hx, hb, hml, hown, hW⟩ (ct_M_alter_no l dC dI o ca cb cA w1 n k w4 z1 z2 f2 g2 H.size p1 (tq_lg p2 p3) hq) (cwV 2 hW (tq_gV qm_370 qm_371 qm_372 qm_2 qm_373) rfl rfl rfl (by decide +kernel) ⟨Nat.le_of_ble_eq_true rfl, Nat.le_of_ble_eq_true rfl⟩) ⟨tq_b2, va_recv hKc hPc (ci := 1) (q0 := 0) rfl rfl, fun U hU hW9 => ⟨rfl, by rw [hU], by rw [hU]; exact hPc, va_K.moved hW9.alike hKc, hDc.weaken (fun _ _ _ _ => trivial)⟩⟩ rfl rfl hl.1 rfl (lv_room (Nat.le_of_ble_eq_true rfl)) qd_L_law_777 ⟨by show _ ≤ 601024; omega, by show _ ≤ 7293034; omega⟩) hS (fun q _ h => hFc q h) hFc (fun r9 u9 t9 H1 locs ht9 hvm hw hB hz1 hk1 hS => ?_)
    obtain ⟨hP1, hK1, hD1⟩ := hB
    rw [ht9] at hP1
    obtain ⟨hP, hD⟩ := va_join (wr := [(x, .inr (0, [.ref a, .int (nI n), .ref b, .int (nI k)])), (a, .inl (cA, (600, .inr (.inl f)))), (b, .inl (cA, (40, .inr (.inl g)))), (ao, .inl (cA, (1, .inr (.inl ow))))]) (w1 := [(o, .inr (1, [.int (nI 1), .int (nI n), .int (nI k), .int w4, .ref ca, .ref cb, .long z1, .long z2])), (ca, .inl (cA, (600, .inr (.inl f2)))), (cb, .inl (cA, (40, .inr (.inl g2))))]) hP hD [0, 1, 2] [3, 4, 5, 6] rfl rfl (by decide) (by decide) hk1 hFc hP1 hD1
    generalize H1 = H at hP hS ⊢
    have hP : va_P (dC, dI) tq_cl [(x, .inr (0, [.ref a, .int (nI n), .ref b, .int (nI k)])), (a, .inl (cA, (600, .inr (.inl f)))), (b, .inl (cA, (40, .inr (.inl g)))), (ao, .inl (cA, (1, .inr (.inl ow)))), (o, .inr (1, [.int (nI 1), .int (nI n), .int (nI k), .int w4, .ref ca, .ref cb, .long z1, .long z2])), (ca, .inl (cA, (600, .inr (.inl f2)))), (cb, .inl (cA, (40, .inr (.inl g2))))] H := hP
    have hD : va_D A [(x, .inr (0, [.ref a, .int (nI n), .ref b, .int (nI k)])), (a, .inl (cA, (600, .inr (.inl f)))), (b, .inl (cA, (40, .inr (.inl g)))), (ao, .inl (cA, (1, .inr (.inl ow)))), (o, .inr (1, [.int (nI 1), .int (nI n), .int (nI k), .int w4, .ref ca, .ref cb, .long z1, .long z2])), (ca, .inl (cA, (600, .inr (.inl f2)))), (cb, .inl (cA, (40, .inr (.inl g2))))] := hD
    have hw : r9 = 0 := hw
    subst hw
    refine lv_lstore (lv' := [(6, .long 0), (5, .int (nI 1)), (4, .int (nI ix)), (0, .ref sb), (1, .ref x), (2, .ref o), (3, .ref ao)]) hx hb qd_L_law_780 hl (by decide) rfl (fun ls hl => ?_)
    refine lv_aload_n hx hb qd_L_law_782 rfl (lv_at hl 5 rfl) ?_
    refine vp_callSi (W.runV (As := []) (rest := []) ⟨hx, hb, hml, hown, hW⟩ (ct_M_thrown l dC dI o ca cb cA (nI 1) n k w4 z1 z2 f2 g2) (cwV 0 hW (tq_gV qm_306 qm_307 qm_308 qm_2 qm_309) rfl rfl rfl (by decide +kernel) ⟨Nat.le_of_ble_eq_true rfl, Nat.le_of_ble_eq_true rfl⟩) ⟨tq_b1, va_recv hK hP (ci := 1) (q0 := 4) rfl rfl, fun U hU hW9 => ⟨rfl, by rw [hU]; exact hP.sub [4, 5, 6] rfl, va_K.moved hW9.alike (hK.sub [0] rfl)⟩⟩ rfl rfl hl.1 rfl (lv_room (Nat.le_of_ble_eq_true rfl)) qd_L_law_783 ⟨by show _ ≤ 601024; omega, by show _ ≤ 7293034; omega⟩) (fun r9 e9 => ?_)
    subst e9
    refine lv_iload hx hb qd_L_law_786 (lv_at hl 1 rfl) ?_
    refine tq_icmp_eq (x := 1) (y := 1) (tgt := 793) hx hb qd_L_law_788 (by decide) (by omega) (by omega) (fun c8 => ?_) (fun c9 => by omega)
    refine lv_iload hx hb qd_L_law_793 (lv_at hl 1 rfl) ?_
    refine tq_if_ne (x := 1) (tgt := 809) hx hb qd_L_law_795 (by decide) (by omega) (fun c7 => ?_) (fun c9 => by omega)
    refine lv_goto (tgt := 1247) hx hb qd_L_law_809 (by decide) ?_
    refine W.widen (k := cells + 1) (n := slots + 6) (by omega) (by omega) ?_
    exact cont n k f g (nI 1) w4 z1 z2 f2 g2 ow _ _ _ hR (hP.sub [0, 1, 2, 4, 5, 6, 3] rfl) (hD.sub [0, 1, 2, 4, 5, 6, 3] (by decide) rfl) hS (lv_sub hl [2, 3, 4, 5, 6] rfl)
  · obtain ⟨j, hj, rfl⟩ := tq_ok2 (by omega) hq
    refine lv_aload_n hx hb qd_L_law_713 rfl (lv_at hl 2 rfl) ?_
    refine lv_aload_n hx hb qd_L_law_714 rfl (lv_at hl 1 rfl) ?_
    refine lv_iload hx hb qd_L_law_715 (lv_at hl 0 rfl) ?_
    refine lv_iconst (v := nI 1) hx hb qd_L_law_717 (by decide +kernel) ?_
    refine lv_iadd hx hb qd_L_law_718 ?_
    refine tq_ti (y := nI (ix + 1)) (nI_add _ _) ?_
    refine tq_sld hx hb hX hbl hbA hS (j := ix + 1) (v := (nI j)) (by omega) (by omega) e1 qd_L_law_719 ?_
    refine lv_aload_n hx hb qd_L_law_720 rfl (lv_at hl 1 rfl) ?_
    refine lv_iload hx hb qd_L_law_721 (lv_at hl 0 rfl) ?_
    refine lv_iconst (v := nI 2) hx hb qd_L_law_723 (by decide +kernel) ?_
    refine lv_iadd hx hb qd_L_law_724 ?_
    refine tq_ti (y := nI (ix + 2)) (nI_add _ _) ?_
    refine tq_sld hx hb hX hbl hbA hS (j := ix + 2) (v := p2) (by omega) (by omega) e2 qd_L_law_725 ?_
    refine lv_i2l (v := p2.toInt64) hx hb qd_L_law_726 rfl ?_
    refine lv_bipush (v := nI 32) hx hb qd_L_law_727 (by decide +kernel) ?_
    refine lv_lshl (v := p2.toInt64 <<< ((nI 32).toInt64 &&& 63)) hx hb qd_L_law_729 rfl ?_
    refine lv_aload_n hx hb qd_L_law_730 rfl (lv_at hl 1 rfl) ?_
    refine lv_iload hx hb qd_L_law_731 (lv_at hl 0 rfl) ?_
    refine lv_iconst (v := nI 3) hx hb qd_L_law_733 (by decide +kernel) ?_
    refine lv_iadd hx hb qd_L_law_734 ?_
    refine tq_ti (y := nI (ix + 3)) (nI_add _ _) ?_
    refine tq_sld hx hb hX hbl hbA hS (j := ix + 3) (v := p3) (by omega) (by omega) e3 qd_L_law_735 ?_
    refine lv_i2l (v := p3.toInt64) hx hb qd_L_law_736 rfl ?_
    refine lv_ldc2 (v := (4294967295)) hx hb hown (hW _ qm_407) qd_L_law_737 ?_
    refine lv_land hx hb qd_L_law_740 ?_
    refine lv_lor hx hb qd_L_law_741 ?_
    refine tq_tl (y := tq_lg p2 p3) (rfl) ?_
    refine lv_aload_n hx hb qd_L_law_742 rfl (lv_at hl 4 rfl) ?_
    have hPc := hP.sub (ws' := [(x, .inr (0, [.ref a, .int (nI n), .ref b, .int (nI k)])), (a, .inl (cA, (600, .inr (.inl f)))), (b, .inl (cA, (40, .inr (.inl g)))), (ao, .inl (cA, (1, .inr (.inl ow))))]) [0, 1, 2, 6] rfl
    have hDc := hD.sub (ws' := [(x, .inr (0, [.ref a, .int (nI n), .ref b, .int (nI k)])), (a, .inl (cA, (600, .inr (.inl f)))), (b, .inl (cA, (40, .inr (.inl g)))), (ao, .inl (cA, (1, .inr (.inl ow))))]) [0, 1, 2, 6] (by decide) rfl
    have hKc := hK.sub (tys' := [(cA, .long)]) [0] rfl
    have hFc := va_free (wc := [(x, .inr (0, [.ref a, .int (nI n), .ref b, .int (nI k)])), (a, .inl (cA, (600, .inr (.inl f)))), (b, .inl (cA, (40, .inr (.inl g)))), (ao, .inl (cA, (1, .inr (.inl ow))))]) hD hS hA [0, 1, 2, 6] rfl
    refine va_calli (vx_runSW (As := [.ref x, .int (nI j), .long (tq_lg p2 p3), .ref ao]) (rest := []) ⟨hx, hb, hml, hown, hW⟩ (ct_L_alter l dC dI x a b cA n k f g ao ow H.size j (tq_lg p2 p3) hj hk4) (vx_cwSW 4 hW (tq_gSa qm_254 qm_255 qm_0 qm_256) rfl rfl rfl (by decide +kernel) ⟨Nat.le_of_ble_eq_true rfl, Nat.le_of_ble_eq_true rfl⟩) ⟨tq_b2, fun U hU hW9 => ⟨rfl, by rw [hU], by rw [hU]; exact hPc, va_K.moved hW9.alike hKc, hDc.weaken (fun _ _ _ _ => trivial)⟩⟩ rfl rfl hl.1 rfl (lv_room (Nat.le_of_ble_eq_true rfl)) qd_L_law_743 ⟨by show _ ≤ 601024; omega, by show _ ≤ 7293034; omega⟩) hS (fun q _ h => hFc q h) hFc (fun r9 u t9 H1 locs ht9 hvm hw hB hz1 hk1 hS => ?_)
    obtain ⟨hP1, hK1, hD1⟩ := hB
    rw [ht9] at hP1
    obtain ⟨hP, hD⟩ := va_join (wr := [(o, .inr (1, [.int w1, .int (nI n), .int (nI k), .int w4, .ref ca, .ref cb, .long z1, .long z2])), (ca, .inl (cA, (600, .inr (.inl f2)))), (cb, .inl (cA, (40, .inr (.inl g2))))]) (w1 := [(x, .inr (0, [.ref a, .int (nI n), .ref b, .int (nI k)])), (a, .inl (cA, (600, .inr (.inl f)))), (b, .inl (cA, (40, .inr (.inl ((vp_updL g j (tq_lg p2 p3))))))), (ao, .inl (cA, (1, .inr (.inl (vp_updL ow 0 (g j))))))]) hP hD [0, 1, 2, 6] [3, 4, 5] rfl rfl (by decide) (by decide) hk1 hFc hP1 hD1
    generalize H1 = H at hP hS ⊢
    have hP : va_P (dC, dI) tq_cl [(o, .inr (1, [.int w1, .int (nI n), .int (nI k), .int w4, .ref ca, .ref cb, .long z1, .long z2])), (ca, .inl (cA, (600, .inr (.inl f2)))), (cb, .inl (cA, (40, .inr (.inl g2)))), (x, .inr (0, [.ref a, .int (nI n), .ref b, .int (nI k)])), (a, .inl (cA, (600, .inr (.inl f)))), (b, .inl (cA, (40, .inr (.inl ((vp_updL g j (tq_lg p2 p3))))))), (ao, .inl (cA, (1, .inr (.inl (vp_updL ow 0 (g j))))))] H := hP
    have hD : va_D A [(o, .inr (1, [.int w1, .int (nI n), .int (nI k), .int w4, .ref ca, .ref cb, .long z1, .long z2])), (ca, .inl (cA, (600, .inr (.inl f2)))), (cb, .inl (cA, (40, .inr (.inl g2)))), (x, .inr (0, [.ref a, .int (nI n), .ref b, .int (nI k)])), (a, .inl (cA, (600, .inr (.inl f)))), (b, .inl (cA, (40, .inr (.inl ((vp_updL g j (tq_lg p2 p3))))))), (ao, .inl (cA, (1, .inr (.inl (vp_updL ow 0 (g j))))))] := hD
    have hw : r9 = nI 0 := hw
    subst hw
    refine lv_istore (lv' := [(5, .int (nI 0)), (4, .int (nI ix)), (0, .ref sb), (1, .ref x), (2, .ref o), (3, .ref ao)]) hx hb qd_L_law_746 hl (by decide) rfl (fun ls hl => ?_)
    refine lv_aload_n hx hb qd_L_law_748 rfl (lv_at hl 4 rfl) ?_
    refine lv_aload_n hx hb qd_L_law_749 rfl (lv_at hl 2 rfl) ?_
    refine lv_iload hx hb qd_L_law_750 (lv_at hl 1 rfl) ?_
    refine lv_iconst (v := nI 1) hx hb qd_L_law_752 (by decide +kernel) ?_
    refine lv_iadd hx hb qd_L_law_753 ?_
    refine tq_ti (y := nI (ix + 1)) (nI_add _ _) ?_
    refine tq_sld hx hb hX hbl hbA hS (j := ix + 1) (v := (nI j)) (by omega) (by omega) e1 qd_L_law_754 ?_
    refine lv_aload_n hx hb qd_L_law_755 rfl (lv_at hl 2 rfl) ?_
    refine lv_iload hx hb qd_L_law_756 (lv_at hl 1 rfl) ?_
    refine lv_iconst (v := nI 2) hx hb qd_L_law_758 (by decide +kernel) ?_
    refine lv_iadd hx hb qd_L_law_759 ?_
    refine tq_ti (y := nI (ix + 2)) (nI_add _ _) ?_
    refine tq_sld hx hb hX hbl hbA hS (j := ix + 2) (v := p2) (by omega) (by omega) e2 qd_L_law_760 ?_
    refine lv_i2l (v := p2.toInt64) hx hb qd_L_law_761 rfl ?_
    refine lv_bipush (v := nI 32) hx hb qd_L_law_762 (by decide +kernel) ?_
    refine lv_lshl (v := p2.toInt64 <<< ((nI 32).toInt64 &&& 63)) hx hb qd_L_law_764 rfl ?_
    refine lv_aload_n hx hb qd_L_law_765 rfl (lv_at hl 2 rfl) ?_
    refine lv_iload hx hb qd_L_law_766 (lv_at hl 1 rfl) ?_
    refine lv_iconst (v := nI 3) hx hb qd_L_law_768 (by decide +kernel) ?_
    refine lv_iadd hx hb qd_L_law_769 ?_
    refine tq_ti (y := nI (ix + 3)) (nI_add _ _) ?_
    refine tq_sld hx hb hX hbl hbA hS (j := ix + 3) (v := p3) (by omega) (by omega) e3 qd_L_law_770 ?_
    refine lv_i2l (v := p3.toInt64) hx hb qd_L_law_771 rfl ?_
    refine lv_ldc2 (v := (4294967295)) hx hb hown (hW _ qm_407) qd_L_law_772 ?_
    refine lv_land hx hb qd_L_law_775 ?_
    refine lv_lor hx hb qd_L_law_776 ?_
    refine tq_tl (y := tq_lg p2 p3) (rfl) ?_
    have hPc := hP.sub (ws' := [(o, .inr (1, [.int w1, .int (nI n), .int (nI k), .int w4, .ref ca, .ref cb, .long z1, .long z2])), (ca, .inl (cA, (600, .inr (.inl f2)))), (cb, .inl (cA, (40, .inr (.inl g2))))]) [0, 1, 2] rfl
    have hDc := hD.sub (ws' := [(o, .inr (1, [.int w1, .int (nI n), .int (nI k), .int w4, .ref ca, .ref cb, .long z1, .long z2])), (ca, .inl (cA, (600, .inr (.inl f2)))), (cb, .inl (cA, (40, .inr (.inl g2))))]) [0, 1, 2] (by decide) rfl
    have hKc := hK.sub (tys' := [(cA, .long)]) [0] rfl
    have hFc := va_free (wc := [(o, .inr (1, [.int w1, .int (nI n), .int (nI k), .int w4, .ref ca, .ref cb, .long z1, .long z2])), (ca, .inl (cA, (600, .inr (.inl f2)))), (cb, .inl (cA, (40, .inr (.inl g2))))]) hD hS hA [0, 1, 2] rfl
    refine va_calll (va_runV (As := [.int (nI j), .long (tq_lg p2 p3)]) (rest := []) ⟨hx, hb, hml, hown, hW⟩ (ct_M_alter l dC dI o ca cb cA w1 n k w4 z1 z2 f2 g2 H.size j (tq_lg p2 p3) hj hk4) (cwV 2 hW (tq_gV qm_370 qm_371 qm_372 qm_2 qm_373) rfl rfl rfl (by decide +kernel) ⟨Nat.le_of_ble_eq_true rfl, Nat.le_of_ble_eq_true rfl⟩) ⟨tq_b2, va_recv hKc hPc (ci := 1) (q0 := 0) rfl rfl, fun U hU hW9 => ⟨rfl, by rw [hU], by rw [hU]; exact hPc, va_K.moved hW9.alike hKc, hDc.weaken (fun _ _ _ _ => trivial)⟩⟩ rfl rfl hl.1 rfl (lv_room (Nat.le_of_ble_eq_true rfl)) qd_L_law_777 ⟨by show _ ≤ 601024; omega, by show _ ≤ 7293034; omega⟩) hS (fun q _ h => hFc q h) hFc (fun r9 u9 t9 H1 locs ht9 hvm hw hB hz1 hk1 hS => ?_)
    obtain ⟨hP1, hK1, hD1⟩ := hB
    rw [ht9] at hP1
    obtain ⟨hP, hD⟩ := va_join (wr := [(x, .inr (0, [.ref a, .int (nI n), .ref b, .int (nI k)])), (a, .inl (cA, (600, .inr (.inl f)))), (b, .inl (cA, (40, .inr (.inl ((vp_updL g j (tq_lg p2 p3))))))), (ao, .inl (cA, (1, .inr (.inl (vp_updL ow 0 (g j))))))]) (w1 := [(o, .inr (1, [.int (nI 0), .int (nI n), .int (nI k), .int w4, .ref ca, .ref cb, .long z1, .long z2])), (ca, .inl (cA, (600, .inr (.inl f2)))), (cb, .inl (cA, (40, .inr (.inl ((vp_updL g2 j (tq_lg p2 p3)))))))]) hP hD [0, 1, 2] [3, 4, 5, 6] rfl rfl (by decide) (by decide) hk1 hFc hP1 hD1
    generalize H1 = H at hP hS ⊢
    have hP : va_P (dC, dI) tq_cl [(x, .inr (0, [.ref a, .int (nI n), .ref b, .int (nI k)])), (a, .inl (cA, (600, .inr (.inl f)))), (b, .inl (cA, (40, .inr (.inl ((vp_updL g j (tq_lg p2 p3))))))), (ao, .inl (cA, (1, .inr (.inl (vp_updL ow 0 (g j)))))), (o, .inr (1, [.int (nI 0), .int (nI n), .int (nI k), .int w4, .ref ca, .ref cb, .long z1, .long z2])), (ca, .inl (cA, (600, .inr (.inl f2)))), (cb, .inl (cA, (40, .inr (.inl ((vp_updL g2 j (tq_lg p2 p3)))))))] H := hP
    have hD : va_D A [(x, .inr (0, [.ref a, .int (nI n), .ref b, .int (nI k)])), (a, .inl (cA, (600, .inr (.inl f)))), (b, .inl (cA, (40, .inr (.inl ((vp_updL g j (tq_lg p2 p3))))))), (ao, .inl (cA, (1, .inr (.inl (vp_updL ow 0 (g j)))))), (o, .inr (1, [.int (nI 0), .int (nI n), .int (nI k), .int w4, .ref ca, .ref cb, .long z1, .long z2])), (ca, .inl (cA, (600, .inr (.inl f2)))), (cb, .inl (cA, (40, .inr (.inl ((vp_updL g2 j (tq_lg p2 p3)))))))] := hD
    have hw : r9 = g2 j := hw
    subst hw
    refine lv_lstore (lv' := [(6, .long (g2 j)), (5, .int (nI 0)), (4, .int (nI ix)), (0, .ref sb), (1, .ref x), (2, .ref o), (3, .ref ao)]) hx hb qd_L_law_780 hl (by decide) rfl (fun ls hl => ?_)
    refine lv_aload_n hx hb qd_L_law_782 rfl (lv_at hl 5 rfl) ?_
    refine vp_callSi (W.runV (As := []) (rest := []) ⟨hx, hb, hml, hown, hW⟩ (ct_M_thrown l dC dI o ca cb cA (nI 0) n k w4 z1 z2 f2 ((vp_updL g2 j (tq_lg p2 p3)))) (cwV 0 hW (tq_gV qm_306 qm_307 qm_308 qm_2 qm_309) rfl rfl rfl (by decide +kernel) ⟨Nat.le_of_ble_eq_true rfl, Nat.le_of_ble_eq_true rfl⟩) ⟨tq_b1, va_recv hK hP (ci := 1) (q0 := 4) rfl rfl, fun U hU hW9 => ⟨rfl, by rw [hU]; exact hP.sub [4, 5, 6] rfl, va_K.moved hW9.alike (hK.sub [0] rfl)⟩⟩ rfl rfl hl.1 rfl (lv_room (Nat.le_of_ble_eq_true rfl)) qd_L_law_783 ⟨by show _ ≤ 601024; omega, by show _ ≤ 7293034; omega⟩) (fun r9 e9 => ?_)
    subst e9
    refine lv_iload hx hb qd_L_law_786 (lv_at hl 1 rfl) ?_
    refine tq_icmp_eq (x := 0) (y := 0) (tgt := 793) hx hb qd_L_law_788 (by decide) (by omega) (by omega) (fun c8 => ?_) (fun c9 => by omega)
    refine lv_iload hx hb qd_L_law_793 (lv_at hl 1 rfl) ?_
    refine tq_if_ne (x := 0) (tgt := 809) hx hb qd_L_law_795 (by decide) (by omega) (fun c9 => by omega) (fun c7 => ?_)
    refine lv_aload_n hx hb qd_L_law_798 rfl (lv_at hl 6 rfl) ?_
    refine lv_iconst (v := nI 0) hx hb qd_L_law_799 (by decide +kernel) ?_
    refine tq_lald hx hb hK hP 3 0 rfl rfl (j := 0) (by omega) (by decide) qd_L_law_800 ?_
    refine tq_tl (y := g j) (pk_uLs) ?_
    refine lv_lload hx hb qd_L_law_801 (lv_at hl 0 rfl) ?_
    refine tq_lc_eq (tgt := 809) hx hb qd_L_law_803 qd_L_law_804 (by decide) (fun c6 => ?_) (fun c9 => absurd (hR.2.2.2 j hj) c9)
    refine lv_goto (tgt := 1247) hx hb qd_L_law_809 (by decide) ?_
    refine W.widen (k := cells + 1) (n := slots + 6) (by omega) (by omega) ?_
    exact cont n k f ((vp_updL g j (tq_lg p2 p3))) (nI 0) w4 z1 z2 f2 ((vp_updL g2 j (tq_lg p2 p3))) (vp_updL ow 0 (g j)) _ _ _ (hR.alter j (tq_lg p2 p3)) (hP.sub [0, 1, 2, 4, 5, 6, 3] rfl) (hD.sub [0, 1, 2, 4, 5, 6, 3] (by decide) rfl) hS (lv_sub hl [2, 3, 4, 5, 6] rfl)
set_option maxHeartbeats 4000000 in
set_option maxRecDepth 100000 in
/-- length -/
theorem lq_c9 (p : Program) (l : Launch) (e : Env) (s : State) (m : MethodId) (below : List Frame) (meth : Method) (c : Code) (sb L : Nat) (xs : Nat → Int32) (dC : Nat → ClassId) (dI : Nat → Nat → Nat) (x a b o ca cb ao : Nat) (cA : ClassId) (A : Nat → Prop) (C9 : lq_F p l e s m below meth c sb L xs dC dI x a b o ca cb ao cA A) (ix cells slots : Nat) (hi : ix + 7 ≤ L) (hc1 : cells + 1 ≤ 601024) (hs1 : slots + 6 ≤ 7293034) (cont : lq_N p l e s m below meth c sb L xs dC dI x a b o ca cb ao cA A ix (cells + 1) (slots + 6) 1247) : lq_N p l e s m below meth c sb L xs dC dI x a b o ca cb ao cA A ix cells slots 812 := by
  intro n k f g w1 w4 z1 z2 f2 g2 ow H locs ls hR hP hD hS hl
  obtain ⟨hx, hb, hml, hown, hW, hst, hA, hX, hbl, hbA, hZ, hK, hL⟩ := id C9
  have hn6 := hR.1
  have hk4 := hR.2.1
  obtain ⟨p1, e1⟩ : ∃ z9 : Int32, xs (ix + 1) = z9 := ⟨_, rfl⟩
  by_cases hq : p1 < 0 ∨ nI 40 < p1
  · refine lv_aload_n hx hb qd_L_law_812 rfl (lv_at hl 2 rfl) ?_
    refine lv_aload_n hx hb qd_L_law_813 rfl (lv_at hl 1 rfl) ?_
    refine lv_iload hx hb qd_L_law_814 (lv_at hl 0 rfl) ?_
    refine lv_iconst (v := nI 1) hx hb qd_L_law_816 (by decide +kernel) ?_
    refine lv_iadd hx hb qd_L_law_817 ?_
    refine tq_ti (y := nI (ix + 1)) (nI_add _ _) ?_
    refine tq_sld hx hb hX hbl hbA hS (j := ix + 1) (v := p1) (by omega) (by omega) e1 qd_L_law_818 ?_
    refine lv_aload_n hx hb qd_L_law_819 rfl (lv_at hl 4 rfl) ?_
    have hPc := hP.sub (ws' := [(x, .inr (0, [.ref a, .int (nI n), .ref b, .int (nI k)])), (a, .inl (cA, (600, .inr (.inl f)))), (b, .inl (cA, (40, .inr (.inl g)))), (ao, .inl (cA, (1, .inr (.inl ow))))]) [0, 1, 2, 6] rfl
    have hDc := hD.sub (ws' := [(x, .inr (0, [.ref a, .int (nI n), .ref b, .int (nI k)])), (a, .inl (cA, (600, .inr (.inl f)))), (b, .inl (cA, (40, .inr (.inl g)))), (ao, .inl (cA, (1, .inr (.inl ow))))]) [0, 1, 2, 6] (by decide) rfl
    have hKc := hK.sub (tys' := [(cA, .long)]) [0] rfl
    have hFc := va_free (wc := [(x, .inr (0, [.ref a, .int (nI n), .ref b, .int (nI k)])), (a, .inl (cA, (600, .inr (.inl f)))), (b, .inl (cA, (40, .inr (.inl g)))), (ao, .inl (cA, (1, .inr (.inl ow))))]) hD hS hA [0, 1, 2, 6] rfl
    refine va_calli (vx_runSW (As := [.ref x, .int p1, .ref ao]) (rest := []) ⟨hx, hb, hml, hown, hW⟩ (cx_L_length l dC dI x a b cA n k f g ao ow H.size hst p1 hq) (vx_cwSW 3 hW (tq_gSa qm_261 qm_262 qm_0 qm_263) rfl rfl rfl (by decide +kernel) ⟨Nat.le_of_ble_eq_true rfl, Nat.le_of_ble_eq_true rfl⟩) ⟨tq_b3, fun U hU hW9 => ⟨rfl, ⟨by rw [hU], by rw [hU]; exact hPc, va_K.moved hW9.alike hKc, hDc.weaken (fun _ _ _ _ => trivial)⟩, hZ.on hS hU hW9 hFc⟩⟩ rfl rfl hl.1 rfl (lv_room (Nat.le_of_ble_eq_true rfl)) qd_L_law_820 ⟨by show _ ≤ 601024; omega, by show _ ≤ 7293034; omega⟩) hS (fun q _ h => hFc q h) hFc (fun r9 u t9 H1 locs ht9 hvm hw hB hz1 hk1 hS => ?_)
    obtain ⟨hP1, hK1, hD1⟩ := hB
    rw [ht9] at hP1
    obtain ⟨hP, hD⟩ := va_join (wr := [(o, .inr (1, [.int w1, .int (nI n), .int (nI k), .int w4, .ref ca, .ref cb, .long z1, .long z2])), (ca, .inl (cA, (600, .inr (.inl f2)))), (cb, .inl (cA, (40, .inr (.inl g2))))]) (w1 := [(x, .inr (0, [.ref a, .int (nI n), .ref b, .int (nI k)])), (a, .inl (cA, (600, .inr (.inl f)))), (b, .inl (cA, (40, .inr (.inl g)))), (ao, .inl (cA, (1, .inr (.inl ow))))]) hP hD [0, 1, 2, 6] [3, 4, 5] rfl rfl (by decide) (by decide) hk1 hFc hP1 hD1
    generalize H1 = H at hP hS ⊢
    have hP : va_P (dC, dI) tq_cl [(o, .inr (1, [.int w1, .int (nI n), .int (nI k), .int w4, .ref ca, .ref cb, .long z1, .long z2])), (ca, .inl (cA, (600, .inr (.inl f2)))), (cb, .inl (cA, (40, .inr (.inl g2)))), (x, .inr (0, [.ref a, .int (nI n), .ref b, .int (nI k)])), (a, .inl (cA, (600, .inr (.inl f)))), (b, .inl (cA, (40, .inr (.inl g)))), (ao, .inl (cA, (1, .inr (.inl ow))))] H := hP
    have hD : va_D A [(o, .inr (1, [.int w1, .int (nI n), .int (nI k), .int w4, .ref ca, .ref cb, .long z1, .long z2])), (ca, .inl (cA, (600, .inr (.inl f2)))), (cb, .inl (cA, (40, .inr (.inl g2)))), (x, .inr (0, [.ref a, .int (nI n), .ref b, .int (nI k)])), (a, .inl (cA, (600, .inr (.inl f)))), (b, .inl (cA, (40, .inr (.inl g)))), (ao, .inl (cA, (1, .inr (.inl ow))))] := hD
    have hw : r9 = nI 1 := hw
    subst hw
    refine lv_istore (lv' := [(5, .int (nI 1)), (4, .int (nI ix)), (0, .ref sb), (1, .ref x), (2, .ref o), (3, .ref ao)]) hx hb qd_L_law_823 hl (by decide) rfl (fun ls hl => ?_)
    refine lv_aload_n hx hb qd_L_law_825 rfl (lv_at hl 4 rfl) ?_
    refine lv_aload_n hx hb qd_L_law_826 rfl (lv_at hl 2 rfl) ?_
    refine lv_iload hx hb qd_L_law_827 (lv_at hl 1 rfl) ?_
    refine lv_iconst (v := nI 1) hx hb qd_L_law_829 (by decide +kernel) ?_
    refine lv_iadd hx hb qd_L_law_830 ?_
    refine tq_ti (y := nI (ix + 1)) (nI_add _ _) ?_
    refine tq_sld hx hb hX hbl hbA hS (j := ix + 1) (v := p1) (by omega) (by omega) e1 qd_L_law_831 ?_
    have hPc := hP.sub (ws' := [(o, .inr (1, [.int w1, .int (nI n), .int (nI k), .int w4, .ref ca, .ref cb, .long z1, .long z2])), (ca, .inl (cA, (600, .inr (.inl f2)))), (cb, .inl (cA, (40, .inr (.inl g2))))]) [0, 1, 2] rfl
    have hDc := hD.sub (ws' := [(o, .inr (1, [.int w1, .int (nI n), .int (nI k), .int w4, .ref ca, .ref cb, .long z1, .long z2])), (ca, .inl (cA, (600, .inr (.inl f2)))), (cb, .inl (cA, (40, .inr (.inl g2))))]) [0, 1, 2] (by decide) rfl
    have hKc := hK.sub (tys' := [(cA, .long)]) [0] rfl
    have hFc := va_free (wc := [(o, .inr (1, [.int w1, .int (nI n), .int (nI k), .int w4, .ref ca, .ref cb, .long z1, .long z2])), (ca, .inl (cA, (600, .inr (.inl f2)))), (cb, .inl (cA, (40, .inr (.inl g2))))]) hD hS hA [0, 1, 2] rfl
    refine va_calli (va_runV (As := [.int p1]) (rest := []) ⟨hx, hb, hml, hown, hW⟩ (ct_M_length_no l dC dI o ca cb cA w1 n k w4 z1 z2 f2 g2 H.size p1 hq) (cwV 1 hW (tq_gV qm_374 qm_375 qm_376 qm_2 qm_377) rfl rfl rfl (by decide +kernel) ⟨Nat.le_of_ble_eq_true rfl, Nat.le_of_ble_eq_true rfl⟩) ⟨tq_b2, va_recv hKc hPc (ci := 1) (q0 := 0) rfl rfl, fun U hU hW9 => ⟨rfl, by rw [hU], by rw [hU]; exact hPc, va_K.moved hW9.alike hKc, hDc.weaken (fun _ _ _ _ => trivial)⟩⟩ rfl rfl hl.1 rfl (lv_room (Nat.le_of_ble_eq_true rfl)) qd_L_law_832 ⟨by show _ ≤ 601024; omega, by show _ ≤ 7293034; omega⟩) hS (fun q _ h => hFc q h) hFc (fun r9 u9 t9 H1 locs ht9 hvm hw hB hz1 hk1 hS => ?_)
    obtain ⟨hP1, hK1, hD1⟩ := hB
    rw [ht9] at hP1
    obtain ⟨hP, hD⟩ := va_join (wr := [(x, .inr (0, [.ref a, .int (nI n), .ref b, .int (nI k)])), (a, .inl (cA, (600, .inr (.inl f)))), (b, .inl (cA, (40, .inr (.inl g)))), (ao, .inl (cA, (1, .inr (.inl ow))))]) (w1 := [(o, .inr (1, [.int (nI 1), .int (nI n), .int (nI k), .int w4, .ref ca, .ref cb, .long z1, .long z2])), (ca, .inl (cA, (600, .inr (.inl f2)))), (cb, .inl (cA, (40, .inr (.inl g2))))]) hP hD [0, 1, 2] [3, 4, 5, 6] rfl rfl (by decide) (by decide) hk1 hFc hP1 hD1
    generalize H1 = H at hP hS ⊢
    have hP : va_P (dC, dI) tq_cl [(x, .inr (0, [.ref a, .int (nI n), .ref b, .int (nI k)])), (a, .inl (cA, (600, .inr (.inl f)))), (b, .inl (cA, (40, .inr (.inl g)))), (ao, .inl (cA, (1, .inr (.inl ow)))), (o, .inr (1, [.int (nI 1), .int (nI n), .int (nI k), .int w4, .ref ca, .ref cb, .long z1, .long z2])), (ca, .inl (cA, (600, .inr (.inl f2)))), (cb, .inl (cA, (40, .inr (.inl g2))))] H := hP
    have hD : va_D A [(x, .inr (0, [.ref a, .int (nI n), .ref b, .int (nI k)])), (a, .inl (cA, (600, .inr (.inl f)))), (b, .inl (cA, (40, .inr (.inl g)))), (ao, .inl (cA, (1, .inr (.inl ow)))), (o, .inr (1, [.int (nI 1), .int (nI n), .int (nI k), .int w4, .ref ca, .ref cb, .long z1, .long z2])), (ca, .inl (cA, (600, .inr (.inl f2)))), (cb, .inl (cA, (40, .inr (.inl g2))))] := hD
    have hw : r9 = nI 0 := hw
    subst hw
    refine lv_istore (lv' := [(6, .int (nI 0)), (5, .int (nI 1)), (4, .int (nI ix)), (0, .ref sb), (1, .ref x), (2, .ref o), (3, .ref ao)]) hx hb qd_L_law_835 hl (by decide) rfl (fun ls hl => ?_)
    refine lv_aload_n hx hb qd_L_law_837 rfl (lv_at hl 5 rfl) ?_
    refine vp_callSi (W.runV (As := []) (rest := []) ⟨hx, hb, hml, hown, hW⟩ (ct_M_thrown l dC dI o ca cb cA (nI 1) n k w4 z1 z2 f2 g2) (cwV 0 hW (tq_gV qm_306 qm_307 qm_308 qm_2 qm_309) rfl rfl rfl (by decide +kernel) ⟨Nat.le_of_ble_eq_true rfl, Nat.le_of_ble_eq_true rfl⟩) ⟨tq_b1, va_recv hK hP (ci := 1) (q0 := 4) rfl rfl, fun U hU hW9 => ⟨rfl, by rw [hU]; exact hP.sub [4, 5, 6] rfl, va_K.moved hW9.alike (hK.sub [0] rfl)⟩⟩ rfl rfl hl.1 rfl (lv_room (Nat.le_of_ble_eq_true rfl)) qd_L_law_838 ⟨by show _ ≤ 601024; omega, by show _ ≤ 7293034; omega⟩) (fun r9 e9 => ?_)
    subst e9
    refine lv_iload hx hb qd_L_law_841 (lv_at hl 1 rfl) ?_
    refine tq_icmp_eq (x := 1) (y := 1) (tgt := 848) hx hb qd_L_law_843 (by decide) (by omega) (by omega) (fun c8 => ?_) (fun c9 => by omega)
    refine lv_iload hx hb qd_L_law_848 (lv_at hl 1 rfl) ?_
    refine tq_if_ne (x := 1) (tgt := 865) hx hb qd_L_law_850 (by decide) (by omega) (fun c7 => ?_) (fun c9 => by omega)
    refine lv_goto (tgt := 1247) hx hb qd_L_law_865 (by decide) ?_
    refine W.widen (k := cells + 1) (n := slots + 6) (by omega) (by omega) ?_
    exact cont n k f g (nI 1) w4 z1 z2 f2 g2 ow _ _ _ hR (hP.sub [0, 1, 2, 4, 5, 6, 3] rfl) (hD.sub [0, 1, 2, 4, 5, 6, 3] (by decide) rfl) hS (lv_sub hl [2, 3, 4, 5, 6] rfl)
  · obtain ⟨j, hj, rfl⟩ := tq_ok1 (by omega) hq
    refine lv_aload_n hx hb qd_L_law_812 rfl (lv_at hl 2 rfl) ?_
    refine lv_aload_n hx hb qd_L_law_813 rfl (lv_at hl 1 rfl) ?_
    refine lv_iload hx hb qd_L_law_814 (lv_at hl 0 rfl) ?_
    refine lv_iconst (v := nI 1) hx hb qd_L_law_816 (by decide +kernel) ?_
    refine lv_iadd hx hb qd_L_law_817 ?_
    refine tq_ti (y := nI (ix + 1)) (nI_add _ _) ?_
    refine tq_sld hx hb hX hbl hbA hS (j := ix + 1) (v := (nI j)) (by omega) (by omega) e1 qd_L_law_818 ?_
    refine lv_aload_n hx hb qd_L_law_819 rfl (lv_at hl 4 rfl) ?_
    have hPc := hP.sub (ws' := [(x, .inr (0, [.ref a, .int (nI n), .ref b, .int (nI k)])), (a, .inl (cA, (600, .inr (.inl f)))), (b, .inl (cA, (40, .inr (.inl g)))), (ao, .inl (cA, (1, .inr (.inl ow))))]) [0, 1, 2, 6] rfl
    have hDc := hD.sub (ws' := [(x, .inr (0, [.ref a, .int (nI n), .ref b, .int (nI k)])), (a, .inl (cA, (600, .inr (.inl f)))), (b, .inl (cA, (40, .inr (.inl g)))), (ao, .inl (cA, (1, .inr (.inl ow))))]) [0, 1, 2, 6] (by decide) rfl
    have hKc := hK.sub (tys' := [(cA, .long)]) [0] rfl
    have hFc := va_free (wc := [(x, .inr (0, [.ref a, .int (nI n), .ref b, .int (nI k)])), (a, .inl (cA, (600, .inr (.inl f)))), (b, .inl (cA, (40, .inr (.inl g)))), (ao, .inl (cA, (1, .inr (.inl ow))))]) hD hS hA [0, 1, 2, 6] rfl
    refine va_calli (vx_runSW (As := [.ref x, .int (nI j), .ref ao]) (rest := []) ⟨hx, hb, hml, hown, hW⟩ (ct_L_length l dC dI x a b cA n k f g ao ow H.size j hj hk4) (vx_cwSW 3 hW (tq_gSa qm_261 qm_262 qm_0 qm_263) rfl rfl rfl (by decide +kernel) ⟨Nat.le_of_ble_eq_true rfl, Nat.le_of_ble_eq_true rfl⟩) ⟨tq_b2, fun U hU hW9 => ⟨rfl, by rw [hU], by rw [hU]; exact hPc, va_K.moved hW9.alike hKc, hDc.weaken (fun _ _ _ _ => trivial)⟩⟩ rfl rfl hl.1 rfl (lv_room (Nat.le_of_ble_eq_true rfl)) qd_L_law_820 ⟨by show _ ≤ 601024; omega, by show _ ≤ 7293034; omega⟩) hS (fun q _ h => hFc q h) hFc (fun r9 u t9 H1 locs ht9 hvm hw hB hz1 hk1 hS => ?_)
    obtain ⟨hP1, hK1, hD1⟩ := hB
    rw [ht9] at hP1
    obtain ⟨hP, hD⟩ := va_join (wr := [(o, .inr (1, [.int w1, .int (nI n), .int (nI k), .int w4, .ref ca, .ref cb, .long z1, .long z2])), (ca, .inl (cA, (600, .inr (.inl f2)))), (cb, .inl (cA, (40, .inr (.inl g2))))]) (w1 := [(x, .inr (0, [.ref a, .int (nI n), .ref b, .int (nI j)])), (a, .inl (cA, (600, .inr (.inl f)))), (b, .inl (cA, (40, .inr (.inl ((tq_fl g k (j - k) (fun _ => 0))))))), (ao, .inl (cA, (1, .inr (.inl (vp_updL ow 0 ((nI k).toInt64))))))]) hP hD [0, 1, 2, 6] [3, 4, 5] rfl rfl (by decide) (by decide) hk1 hFc hP1 hD1
    generalize H1 = H at hP hS ⊢
    have hP : va_P (dC, dI) tq_cl [(o, .inr (1, [.int w1, .int (nI n), .int (nI k), .int w4, .ref ca, .ref cb, .long z1, .long z2])), (ca, .inl (cA, (600, .inr (.inl f2)))), (cb, .inl (cA, (40, .inr (.inl g2)))), (x, .inr (0, [.ref a, .int (nI n), .ref b, .int (nI j)])), (a, .inl (cA, (600, .inr (.inl f)))), (b, .inl (cA, (40, .inr (.inl ((tq_fl g k (j - k) (fun _ => 0))))))), (ao, .inl (cA, (1, .inr (.inl (vp_updL ow 0 ((nI k).toInt64))))))] H := hP
    have hD : va_D A [(o, .inr (1, [.int w1, .int (nI n), .int (nI k), .int w4, .ref ca, .ref cb, .long z1, .long z2])), (ca, .inl (cA, (600, .inr (.inl f2)))), (cb, .inl (cA, (40, .inr (.inl g2)))), (x, .inr (0, [.ref a, .int (nI n), .ref b, .int (nI j)])), (a, .inl (cA, (600, .inr (.inl f)))), (b, .inl (cA, (40, .inr (.inl ((tq_fl g k (j - k) (fun _ => 0))))))), (ao, .inl (cA, (1, .inr (.inl (vp_updL ow 0 ((nI k).toInt64))))))] := hD
    have hw : r9 = nI 0 := hw
    subst hw
    refine lv_istore (lv' := [(5, .int (nI 0)), (4, .int (nI ix)), (0, .ref sb), (1, .ref x), (2, .ref o), (3, .ref ao)]) hx hb qd_L_law_823 hl (by decide) rfl (fun ls hl => ?_)
    refine lv_aload_n hx hb qd_L_law_825 rfl (lv_at hl 4 rfl) ?_
    refine lv_aload_n hx hb qd_L_law_826 rfl (lv_at hl 2 rfl) ?_
    refine lv_iload hx hb qd_L_law_827 (lv_at hl 1 rfl) ?_
    refine lv_iconst (v := nI 1) hx hb qd_L_law_829 (by decide +kernel) ?_
    refine lv_iadd hx hb qd_L_law_830 ?_
    refine tq_ti (y := nI (ix + 1)) (nI_add _ _) ?_
    refine tq_sld hx hb hX hbl hbA hS (j := ix + 1) (v := (nI j)) (by omega) (by omega) e1 qd_L_law_831 ?_
    have hPc := hP.sub (ws' := [(o, .inr (1, [.int w1, .int (nI n), .int (nI k), .int w4, .ref ca, .ref cb, .long z1, .long z2])), (ca, .inl (cA, (600, .inr (.inl f2)))), (cb, .inl (cA, (40, .inr (.inl g2))))]) [0, 1, 2] rfl
    have hDc := hD.sub (ws' := [(o, .inr (1, [.int w1, .int (nI n), .int (nI k), .int w4, .ref ca, .ref cb, .long z1, .long z2])), (ca, .inl (cA, (600, .inr (.inl f2)))), (cb, .inl (cA, (40, .inr (.inl g2))))]) [0, 1, 2] (by decide) rfl
    have hKc := hK.sub (tys' := [(cA, .long)]) [0] rfl
    have hFc := va_free (wc := [(o, .inr (1, [.int w1, .int (nI n), .int (nI k), .int w4, .ref ca, .ref cb, .long z1, .long z2])), (ca, .inl (cA, (600, .inr (.inl f2)))), (cb, .inl (cA, (40, .inr (.inl g2))))]) hD hS hA [0, 1, 2] rfl
    refine va_calli (va_runV (As := [.int (nI j)]) (rest := []) ⟨hx, hb, hml, hown, hW⟩ (ct_M_length l dC dI o ca cb cA w1 n k w4 z1 z2 f2 g2 H.size j hj hk4) (cwV 1 hW (tq_gV qm_374 qm_375 qm_376 qm_2 qm_377) rfl rfl rfl (by decide +kernel) ⟨Nat.le_of_ble_eq_true rfl, Nat.le_of_ble_eq_true rfl⟩) ⟨tq_b2, va_recv hKc hPc (ci := 1) (q0 := 0) rfl rfl, fun U hU hW9 => ⟨rfl, by rw [hU], by rw [hU]; exact hPc, va_K.moved hW9.alike hKc, hDc.weaken (fun _ _ _ _ => trivial)⟩⟩ rfl rfl hl.1 rfl (lv_room (Nat.le_of_ble_eq_true rfl)) qd_L_law_832 ⟨by show _ ≤ 601024; omega, by show _ ≤ 7293034; omega⟩) hS (fun q _ h => hFc q h) hFc (fun r9 u9 t9 H1 locs ht9 hvm hw hB hz1 hk1 hS => ?_)
    obtain ⟨hP1, hK1, hD1⟩ := hB
    rw [ht9] at hP1
    obtain ⟨hP, hD⟩ := va_join (wr := [(x, .inr (0, [.ref a, .int (nI n), .ref b, .int (nI j)])), (a, .inl (cA, (600, .inr (.inl f)))), (b, .inl (cA, (40, .inr (.inl ((tq_fl g k (j - k) (fun _ => 0))))))), (ao, .inl (cA, (1, .inr (.inl (vp_updL ow 0 ((nI k).toInt64))))))]) (w1 := [(o, .inr (1, [.int (nI 0), .int (nI n), .int (nI j), .int w4, .ref ca, .ref cb, .long z1, .long z2])), (ca, .inl (cA, (600, .inr (.inl f2)))), (cb, .inl (cA, (40, .inr (.inl ((tq_fl g2 k (j - k) (fun _ => 0)))))))]) hP hD [0, 1, 2] [3, 4, 5, 6] rfl rfl (by decide) (by decide) hk1 hFc hP1 hD1
    generalize H1 = H at hP hS ⊢
    have hP : va_P (dC, dI) tq_cl [(x, .inr (0, [.ref a, .int (nI n), .ref b, .int (nI j)])), (a, .inl (cA, (600, .inr (.inl f)))), (b, .inl (cA, (40, .inr (.inl ((tq_fl g k (j - k) (fun _ => 0))))))), (ao, .inl (cA, (1, .inr (.inl (vp_updL ow 0 ((nI k).toInt64)))))), (o, .inr (1, [.int (nI 0), .int (nI n), .int (nI j), .int w4, .ref ca, .ref cb, .long z1, .long z2])), (ca, .inl (cA, (600, .inr (.inl f2)))), (cb, .inl (cA, (40, .inr (.inl ((tq_fl g2 k (j - k) (fun _ => 0)))))))] H := hP
    have hD : va_D A [(x, .inr (0, [.ref a, .int (nI n), .ref b, .int (nI j)])), (a, .inl (cA, (600, .inr (.inl f)))), (b, .inl (cA, (40, .inr (.inl ((tq_fl g k (j - k) (fun _ => 0))))))), (ao, .inl (cA, (1, .inr (.inl (vp_updL ow 0 ((nI k).toInt64)))))), (o, .inr (1, [.int (nI 0), .int (nI n), .int (nI j), .int w4, .ref ca, .ref cb, .long z1, .long z2])), (ca, .inl (cA, (600, .inr (.inl f2)))), (cb, .inl (cA, (40, .inr (.inl ((tq_fl g2 k (j - k) (fun _ => 0)))))))] := hD
    have hw : r9 = nI k := hw
    subst hw
    refine lv_istore (lv' := [(6, .int (nI k)), (5, .int (nI 0)), (4, .int (nI ix)), (0, .ref sb), (1, .ref x), (2, .ref o), (3, .ref ao)]) hx hb qd_L_law_835 hl (by decide) rfl (fun ls hl => ?_)
    refine lv_aload_n hx hb qd_L_law_837 rfl (lv_at hl 5 rfl) ?_
    refine vp_callSi (W.runV (As := []) (rest := []) ⟨hx, hb, hml, hown, hW⟩ (ct_M_thrown l dC dI o ca cb cA (nI 0) n j w4 z1 z2 f2 ((tq_fl g2 k (j - k) (fun _ => 0)))) (cwV 0 hW (tq_gV qm_306 qm_307 qm_308 qm_2 qm_309) rfl rfl rfl (by decide +kernel) ⟨Nat.le_of_ble_eq_true rfl, Nat.le_of_ble_eq_true rfl⟩) ⟨tq_b1, va_recv hK hP (ci := 1) (q0 := 4) rfl rfl, fun U hU hW9 => ⟨rfl, by rw [hU]; exact hP.sub [4, 5, 6] rfl, va_K.moved hW9.alike (hK.sub [0] rfl)⟩⟩ rfl rfl hl.1 rfl (lv_room (Nat.le_of_ble_eq_true rfl)) qd_L_law_838 ⟨by show _ ≤ 601024; omega, by show _ ≤ 7293034; omega⟩) (fun r9 e9 => ?_)
    subst e9
    refine lv_iload hx hb qd_L_law_841 (lv_at hl 1 rfl) ?_
    refine tq_icmp_eq (x := 0) (y := 0) (tgt := 848) hx hb qd_L_law_843 (by decide) (by omega) (by omega) (fun c8 => ?_) (fun c9 => by omega)
    refine lv_iload hx hb qd_L_law_848 (lv_at hl 1 rfl) ?_
    refine tq_if_ne (x := 0) (tgt := 865) hx hb qd_L_law_850 (by decide) (by omega) (fun c9 => by omega) (fun c7 => ?_)
    refine lv_aload_n hx hb qd_L_law_853 rfl (lv_at hl 6 rfl) ?_
    refine lv_iconst (v := nI 0) hx hb qd_L_law_854 (by decide +kernel) ?_
    refine tq_lald hx hb hK hP 3 0 rfl rfl (j := 0) (by omega) (by decide) qd_L_law_855 ?_
    refine tq_tl (y := (nI k).toInt64) (pk_uLs) ?_
    refine lv_iload hx hb qd_L_law_856 (lv_at hl 0 rfl) ?_
    refine lv_i2l (v := (nI k).toInt64) hx hb qd_L_law_858 rfl ?_
    refine tq_lc_eq (tgt := 865) hx hb qd_L_law_859 qd_L_law_860 (by decide) (fun c6 => ?_) (fun c9 => absurd rfl c9)
    refine lv_goto (tgt := 1247) hx hb qd_L_law_865 (by decide) ?_
    refine W.widen (k := cells + 1) (n := slots + 6) (by omega) (by omega) ?_
    exact cont n j f ((tq_fl g k (j - k) (fun _ => 0))) (nI 0) w4 z1 z2 f2 ((tq_fl g2 k (j - k) (fun _ => 0))) (vp_updL ow 0 ((nI k).toInt64)) _ _ _ (hR.len hj) (hP.sub [0, 1, 2, 4, 5, 6, 3] rfl) (hD.sub [0, 1, 2, 4, 5, 6, 3] (by decide) rfl) hS (lv_sub hl [2, 3, 4, 5, 6] rfl)
