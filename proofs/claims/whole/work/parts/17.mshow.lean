set_option maxHeartbeats 4000000 in
set_option maxRecDepth 100000 in
theorem ct_M_next (l : Launch) (dC : Nat → ClassId) (dI : Nat → Nat → Nat) (o ca cb : Nat) (cA : ClassId) (w1 : Int32) (n k : Nat) (z1 z2 : Int64) (f g : Nat → Int64) (sz : Nat) (q : Nat) (hq : q ≤ 200) (hk : k ≤ 40) : Met l qy_M_next qw_M_next ({ frames := 0, cells := 0, slots := 0, locals := 0 }) (va_Pc [.ref o] (tq_rw (dC, dI) [(o, .inr (1, [.int w1, .int (nI n), .int (nI k), .int (nI q), .ref ca, .ref cb, .long z1, .long z2])), (ca, .inl (cA, (600, .inr (.inl f)))), (cb, .inl (cA, (40, .inr (.inl g))))] [(cA, .long)] sz)) (va_Ql (fun r (_ : Unit) => r = tq_q g k q) (fun _ t => tq_in (dC, dI) [(o, .inr (1, [.int w1, .int (nI n), .int (nI k), .int (nI (q + 1)), .ref ca, .ref cb, .long z1, .long z2])), (ca, .inl (cA, (600, .inr (.inl f)))), (cb, .inl (cA, (40, .inr (.inl g))))] [(cA, .long)] (va_A [(o, .inr (1, [.int w1, .int (nI n), .int (nI k), .int (nI q), .ref ca, .ref cb, .long z1, .long z2])), (ca, .inl (cA, (600, .inr (.inl f)))), (cb, .inl (cA, (40, .inr (.inl g))))] sz) t) (va_A [(o, .inr (1, [.int w1, .int (nI n), .int (nI k), .int (nI q), .ref ca, .ref cb, .long z1, .long z2])), (ca, .inl (cA, (600, .inr (.inl f)))), (cb, .inl (cA, (40, .inr (.inl g))))] sz)) 0 0 (va_A [(o, .inr (1, [.int w1, .int (nI n), .int (nI k), .int (nI q), .ref ca, .ref cb, .long z1, .long z2])), (ca, .inl (cA, (600, .inr (.inl f)))), (cb, .inl (cA, (40, .inr (.inl g))))] sz) := by
  refine Met.ofW (cc := qc_M_next) (maxL := 1) (ret := (some .long)) (by decide) rfl ?_
  intro p e s m args below meth c s₁ B hml hv
  obtain ⟨rfl, hsz, hP, hK, hD0⟩ := hv
  have hx := B.exec
  have hb := B.bytes
  have hr := B.returns
  have hts := atoms_spec (ws := qw_M_next) B.pre
  have hW : ∀ w ∈ tq_W, w.before ([.ref o] : List Value).toArray s = true := fun w h => hts w (List.mem_cons_of_mem _ h)
  have hown : s.vm.findClass RX1 = some m.cls := findClass_of_methodNamed B.named
  have hlocks := B.notSynchronized
  have hl := lv_entry ([.ref o]) (n := 1) (Nat.le_of_ble_eq_true rfl)
  rw [lg_entry_eq]
  generalize (lg_sl ([.ref o]) ++ List.replicate (1 - (lg_sl ([.ref o])).length) Slot.unset).toArray = ls at hl ⊢
  have hl : lv_has ls 1 [(0, .ref o)] := hl
  subst hsz
  have hD := hD0.self (sz := s.heap.size)
  generalize hAe : va_A [(o, .inr (1, [.int w1, .int (nI n), .int (nI k), .int (nI q), .ref ca, .ref cb, .long z1, .long z2])), (ca, .inl (cA, (600, .inr (.inl f)))), (cb, .inl (cA, (40, .inr (.inl g))))] s.heap.size = A at hD ⊢
  have hA : ∀ q : Nat, s.heap.size ≤ q → A q := fun q h => by rw [← hAe]; exact Or.inr h
  have hS : va_S A s.heap s.heap [] := va_S.rf
  refine lv_aload_n hx hb qd_M_next_0 rfl (lv_at hl 0 rfl) ?_
  refine lv_dup hx hb qd_M_next_1 rfl ?_
  refine va_get (D := (dC, dI)) (ci := 1) (v := .int (nI q)) (C := RX1) (T := TX1) (N := 8) hx hb hW inX1 hown hK hP 0 rfl rfl 3 (by decide) (hW _ qm_284) (fun _ h9 => h9) rfl qd_M_next_2 ?_
  refine lv_iconst (v := nI 1) hx hb qd_M_next_5 (by decide +kernel) ?_
  refine lv_iadd hx hb qd_M_next_6 ?_
  refine tq_ti (y := nI (q + 1)) (nI_1 q) ?_
  refine va_put (D := (dC, dI)) (ci := 1) (v := .int (nI (q + 1))) (ty := .int) (C := RX1) (T := TX1) (N := 8) hx hb hW inX1 tyX1 tyX1_ok nmX1 hown hK hP hD hS 0 rfl rfl 3 (by decide) (hW _ qm_284) (fun _ h9 => h9) rfl (by decide +kernel) rfl rfl (Nat.le_of_ble_eq_true rfl) qd_M_next_7 (fun H locs hP hD hS => ?_)
  have hP : va_P (dC, dI) tq_cl [(o, .inr (1, [.int w1, .int (nI n), .int (nI k), .int (nI (q + 1)), .ref ca, .ref cb, .long z1, .long z2])), (ca, .inl (cA, (600, .inr (.inl f)))), (cb, .inl (cA, (40, .inr (.inl g))))] H := hP
  have hD : va_D A [(o, .inr (1, [.int w1, .int (nI n), .int (nI k), .int (nI (q + 1)), .ref ca, .ref cb, .long z1, .long z2])), (ca, .inl (cA, (600, .inr (.inl f)))), (cb, .inl (cA, (40, .inr (.inl g))))] := hD
  refine lv_aload_n hx hb qd_M_next_10 rfl (lv_at hl 0 rfl) ?_
  refine va_get (D := (dC, dI)) (ci := 1) (v := .int (nI (q + 1))) (C := RX1) (T := TX1) (N := 8) hx hb hW inX1 hown hK hP 0 rfl rfl 3 (by decide) (hW _ qm_284) (fun _ h9 => h9) rfl qd_M_next_11 ?_
  refine lv_aload_n hx hb qd_M_next_14 rfl (lv_at hl 0 rfl) ?_
  refine va_get (D := (dC, dI)) (ci := 1) (v := .int (nI k)) (C := RX1) (T := TX1) (N := 8) hx hb hW inX1 hown hK hP 0 rfl rfl 2 (by decide) (hW _ qm_283) (fun _ h9 => h9) rfl qd_M_next_15 ?_
  refine tq_icmp_gt (x := (q + 1)) (y := k) (tgt := 35) hx hb qd_M_next_18 (by decide) (by omega) (by omega) (fun c9 => ?_) (fun c9 => ?_)
  · refine lv_lconst (v := 0) hx hb qd_M_next_35 (by decide) ?_
    exact W.lret hx hb hr (fun t ht hW9 => ⟨⟨_, (), rfl, (by unfold tq_q; rw [if_neg (by omega)]), by rw [ht]; exact hP, va_K.moved hW9.alike hK, hD⟩, hS.F ht⟩) hS.2.2 qd_M_next_36
  · refine lv_aload_n hx hb qd_M_next_21 rfl (lv_at hl 0 rfl) ?_
    refine va_get (D := (dC, dI)) (ci := 1) (v := .ref cb) (C := RX1) (T := TX1) (N := 8) hx hb hW inX1 hown hK hP 0 rfl rfl 5 (by decide) (hW _ qm_286) (fun _ h9 => h9) rfl qd_M_next_22 ?_
    refine lv_aload_n hx hb qd_M_next_25 rfl (lv_at hl 0 rfl) ?_
    refine va_get (D := (dC, dI)) (ci := 1) (v := .int (nI (q + 1))) (C := RX1) (T := TX1) (N := 8) hx hb hW inX1 hown hK hP 0 rfl rfl 3 (by decide) (hW _ qm_284) (fun _ h9 => h9) rfl qd_M_next_26 ?_
    refine lv_iconst (v := nI 1) hx hb qd_M_next_29 (by decide +kernel) ?_
    refine lv_isub hx hb qd_M_next_30 ?_
    refine tq_ti (y := nI q) (by rw [pk_sub (by omega)]; rfl) ?_
    refine tq_lald hx hb hK hP 2 0 rfl rfl (j := q) (by omega) (by decide) qd_M_next_31 ?_
    refine lv_goto (tgt := 36) hx hb qd_M_next_32 (by decide) ?_
    exact W.lret hx hb hr (fun t ht hW9 => ⟨⟨_, (), rfl, (by unfold tq_q; rw [if_pos (by omega)]), by rw [ht]; exact hP, va_K.moved hW9.alike hK, hD⟩, hS.F ht⟩) hS.2.2 qd_M_next_36
def tq_RO (l : Launch) (dC : Nat → ClassId) (dI : Nat → Nat → Nat) (o ca cb : Nat) (cA : ClassId) (w1 : Int32) (n k : Nat) (z1 z2 : Int64) (f g : Nat → Int64) (v : Int64) (d y z q : Nat) (sz : Nat) : Prop := Met l qy_M_rootOf qw_M_rootOf ({ frames := d + 2, cells := 0, slots := 0, locals := 27 * d + 50 }) (va_Pc [.ref o, .int (nI y), .int (nI z), .long v] (tq_rw (dC, dI) [(o, .inr (1, [.int w1, .int (nI n), .int (nI k), .int (nI q), .ref ca, .ref cb, .long z1, .long z2])), (ca, .inl (cA, (600, .inr (.inl f)))), (cb, .inl (cA, (40, .inr (.inl g))))] [(cA, .long)] sz)) (va_Ql (fun r (_ : Unit) => r = tq_rt (fun j => tq_q g k (q + j)) y z (tq_leaf v)) (fun _ t => tq_in (dC, dI) [(o, .inr (1, [.int w1, .int (nI n), .int (nI k), .int (nI (q + tq_pl y z)), .ref ca, .ref cb, .long z1, .long z2])), (ca, .inl (cA, (600, .inr (.inl f)))), (cb, .inl (cA, (40, .inr (.inl g))))] [(cA, .long)] (va_A [(o, .inr (1, [.int w1, .int (nI n), .int (nI k), .int (nI q), .ref ca, .ref cb, .long z1, .long z2])), (ca, .inl (cA, (600, .inr (.inl f)))), (cb, .inl (cA, (40, .inr (.inl g))))] sz) t) (va_A [(o, .inr (1, [.int w1, .int (nI n), .int (nI k), .int (nI q), .ref ca, .ref cb, .long z1, .long z2])), (ca, .inl (cA, (600, .inr (.inl f)))), (cb, .inl (cA, (40, .inr (.inl g))))] sz)) 0 0 (va_A [(o, .inr (1, [.int w1, .int (nI n), .int (nI k), .int (nI q), .ref ca, .ref cb, .long z1, .long z2])), (ca, .inl (cA, (600, .inr (.inl f)))), (cb, .inl (cA, (40, .inr (.inl g))))] sz)
set_option maxHeartbeats 4000000 in
set_option maxRecDepth 100000 in
/-- rootOf: what the PROOF makes, read on from number q -/
theorem ct_M_rootOf_s (l : Launch) (dC : Nat → ClassId) (dI : Nat → Nat → Nat) (o ca cb : Nat) (cA : ClassId) (w1 : Int32) (n k : Nat) (z1 z2 : Int64) (f g : Nat → Int64) (v : Int64) (d y z q : Nat) (sz : Nat) (ih : ∀ d1, d = d1 + 1 → ∀ (y z q : Nat) (sz : Nat), y < z → z ≤ 2 ^ d1 → d1 ≤ 30 → q + tq_pl y z ≤ 100 → k ≤ 40 → tq_RO l dC dI o ca cb cA w1 n k z1 z2 f g v d1 y z q sz) (h1 : y < z) (h2 : z ≤ 2 ^ d) (h3 : d ≤ 30) (h4 : q + tq_pl y z ≤ 100) (hk : k ≤ 40) : tq_RO l dC dI o ca cb cA w1 n k z1 z2 f g v d y z q sz := by
  refine Met.ofW (cc := qc_M_rootOf) (maxL := 8) (ret := (some .long)) (by decide) rfl ?_
  intro p e s m args below meth c s₁ B hml hv
  obtain ⟨rfl, hsz, hP, hK, hD0⟩ := hv
  have hx := B.exec
  have hb := B.bytes
  have hr := B.returns
  have hts := atoms_spec (ws := qw_M_rootOf) B.pre
  have hW : ∀ w ∈ tq_W, w.before ([.ref o, .int (nI y), .int (nI z), .long v] : List Value).toArray s = true := fun w h => hts w (List.mem_cons_of_mem _ h)
  have hown : s.vm.findClass RX1 = some m.cls := findClass_of_methodNamed B.named
  have hlocks := B.notSynchronized
  have hl := lv_entry ([.ref o, .int (nI y), .int (nI z), .long v]) (n := 8) (Nat.le_of_ble_eq_true rfl)
  rw [lg_entry_eq]
  generalize (lg_sl ([.ref o, .int (nI y), .int (nI z), .long v]) ++ List.replicate (8 - (lg_sl ([.ref o, .int (nI y), .int (nI z), .long v])).length) Slot.unset).toArray = ls at hl ⊢
  have hl : lv_has ls 8 [(0, .ref o), (1, .int (nI y)), (2, .int (nI z)), (3, .long v)] := hl
  subst hsz
  have hD := hD0.self (sz := s.heap.size)
  generalize hAe : va_A [(o, .inr (1, [.int w1, .int (nI n), .int (nI k), .int (nI q), .ref ca, .ref cb, .long z1, .long z2])), (ca, .inl (cA, (600, .inr (.inl f)))), (cb, .inl (cA, (40, .inr (.inl g))))] s.heap.size = A at hD ⊢
  have hA : ∀ q : Nat, s.heap.size ≤ q → A q := fun q h => by rw [← hAe]; exact Or.inr h
  have hS : va_S A s.heap s.heap [] := va_S.rf
  have hn30 : z ≤ 2 ^ 30 := Nat.le_trans h2 (Nat.pow_le_pow_right (by decide) h3)
  refine lv_iload_n hx hb qd_M_rootOf_0 rfl (lv_at hl 2 rfl) ?_
  refine lv_iconst (v := nI 1) hx hb qd_M_rootOf_1 (by decide +kernel) ?_
  refine tq_icmp_ne (x := z) (y := 1) (tgt := 11) hx hb qd_M_rootOf_2 (by decide) (by omega) (by omega) (fun c9 => ?_) (fun c9 => ?_)
  · obtain ⟨d1, rfl⟩ : ∃ d1, d = d1 + 1 := by
      cases d with
      | zero => omega
      | succ d1 => exact ⟨d1, rfl⟩
    have hlt := tq_pb_lt (n := z) (by omega)
    have hps := tq_pb_pos z
    have hh := tq_pb_half h2 (by omega)
    have hrr := tq_pb_rest h2 (by omega)
    refine lv_iload_n hx hb qd_M_rootOf_11 rfl (lv_at hl 2 rfl) ?_
    refine vp_callSi (W.runS (As := [.int (nI z)]) (rest := []) ⟨hx, hb, hml, hown, hW⟩ (ct_M_below l z (by omega) (by omega)) (cwS 1 hW (tq_gS qm_335 qm_336 qm_2 qm_337) rfl rfl rfl (by decide +kernel) ⟨(show 0 + 1 ≤ d1 + 1 + 2 from by omega), (show 8 + (2 + 11) + (0) ≤ 27 * (d1 + 1) + 50 from by omega)⟩) ⟨tq_b0, fun U hU hW9 => ⟨rfl, trivial⟩⟩ rfl rfl hl.1 rfl (lv_room (Nat.le_of_ble_eq_true rfl)) qd_M_rootOf_12 ⟨Nat.le_of_ble_eq_true rfl, Nat.le_of_ble_eq_true rfl⟩) (fun r9 e9 => ?_)
    subst e9
    refine lv_istore (lv' := [(5, .int (nI (tq_pb z))), (0, .ref o), (1, .int (nI y)), (2, .int (nI z)), (3, .long v)]) hx hb qd_M_rootOf_15 hl (by decide) rfl (fun ls hl => ?_)
    refine lv_iload_n hx hb qd_M_rootOf_17 rfl (lv_at hl 2 rfl) ?_
    refine lv_iload hx hb qd_M_rootOf_18 (lv_at hl 0 rfl) ?_
    refine tq_icmp_ge (x := y) (y := (tq_pb z)) (tgt := 43) hx hb qd_M_rootOf_20 (by decide) (by omega) (by omega) (fun c1 => ?_) (fun c1 => ?_)
    · have e4 := tq_pl_r (m := y) (n := z) (by omega) c1
      refine lv_aload_n hx hb qd_M_rootOf_43 rfl (lv_at hl 1 rfl) ?_
      refine lv_iload_n hx hb qd_M_rootOf_44 rfl (lv_at hl 2 rfl) ?_
      refine lv_iload hx hb qd_M_rootOf_45 (lv_at hl 0 rfl) ?_
      refine lv_isub hx hb qd_M_rootOf_47 ?_
      refine tq_ti (y := nI (y - tq_pb z)) (pk_sub (by omega)) ?_
      refine lv_iload_n hx hb qd_M_rootOf_48 rfl (lv_at hl 3 rfl) ?_
      refine lv_iload hx hb qd_M_rootOf_49 (lv_at hl 0 rfl) ?_
      refine lv_isub hx hb qd_M_rootOf_51 ?_
      refine tq_ti (y := nI (z - tq_pb z)) (pk_sub (by omega)) ?_
      refine lv_lload_n hx hb qd_M_rootOf_52 rfl (lv_at hl 4 rfl) ?_
      have hPc := hP.sub (ws' := [(o, .inr (1, [.int w1, .int (nI n), .int (nI k), .int (nI q), .ref ca, .ref cb, .long z1, .long z2])), (ca, .inl (cA, (600, .inr (.inl f)))), (cb, .inl (cA, (40, .inr (.inl g))))]) [0, 1, 2] rfl
      have hDc := hD.sub (ws' := [(o, .inr (1, [.int w1, .int (nI n), .int (nI k), .int (nI q), .ref ca, .ref cb, .long z1, .long z2])), (ca, .inl (cA, (600, .inr (.inl f)))), (cb, .inl (cA, (40, .inr (.inl g))))]) [0, 1, 2] (by decide) rfl
      have hKc := hK.sub (tys' := [(cA, .long)]) [0] rfl
      have hFc := va_free (wc := [(o, .inr (1, [.int w1, .int (nI n), .int (nI k), .int (nI q), .ref ca, .ref cb, .long z1, .long z2])), (ca, .inl (cA, (600, .inr (.inl f)))), (cb, .inl (cA, (40, .inr (.inl g))))]) hD hS hA [0, 1, 2] rfl
      refine va_calll (va_runV (As := [.int (nI (y - tq_pb z)), .int (nI (z - tq_pb z)), .long v]) (rest := []) ⟨hx, hb, hml, hown, hW⟩ (ih d1 rfl (y - tq_pb z) (z - tq_pb z) q s.heap.size (by omega) hrr (by omega) (by omega) hk) (cwV 3 hW (tq_gV qm_383 qm_385 qs_M_rootOf qm_2 qm_386) rfl rfl rfl (by decide +kernel) ⟨(show d1 + 2 + 1 ≤ d1 + 1 + 2 from by omega), (show 8 + (8 + 11) + (27 * d1 + 50) ≤ 27 * (d1 + 1) + 50 from by omega)⟩) ⟨tq_b2, va_recv hKc hPc (ci := 1) (q0 := 0) rfl rfl, fun U hU hW9 => ⟨rfl, by rw [hU], by rw [hU]; exact hPc, va_K.moved hW9.alike hKc, hDc.weaken (fun _ _ _ _ => trivial)⟩⟩ rfl rfl hl.1 rfl (lv_room (Nat.le_of_ble_eq_true rfl)) qd_M_rootOf_53 ⟨Nat.le_of_ble_eq_true rfl, Nat.le_of_ble_eq_true rfl⟩) hS (fun q _ h => hFc q h) hFc (fun r9 u t9 H1 locs ht9 hvm hw hB hz1 hk1 hS => ?_)
      obtain ⟨hP1, hK1, hD1⟩ := hB
      rw [ht9] at hP1
      obtain ⟨hP, hD⟩ := va_join (wr := []) (w1 := [(o, .inr (1, [.int w1, .int (nI n), .int (nI k), .int (nI (q + tq_pl (y - tq_pb z) (z - tq_pb z))), .ref ca, .ref cb, .long z1, .long z2])), (ca, .inl (cA, (600, .inr (.inl f)))), (cb, .inl (cA, (40, .inr (.inl g))))]) hP hD [0, 1, 2] [] rfl rfl (by decide) (by decide) hk1 hFc hP1 hD1
      generalize H1 = H at hP hS ⊢
      have hP : va_P (dC, dI) tq_cl [(o, .inr (1, [.int w1, .int (nI n), .int (nI k), .int (nI (q + tq_pl (y - tq_pb z) (z - tq_pb z))), .ref ca, .ref cb, .long z1, .long z2])), (ca, .inl (cA, (600, .inr (.inl f)))), (cb, .inl (cA, (40, .inr (.inl g))))] H := hP
      have hD : va_D A [(o, .inr (1, [.int w1, .int (nI n), .int (nI k), .int (nI (q + tq_pl (y - tq_pb z) (z - tq_pb z))), .ref ca, .ref cb, .long z1, .long z2])), (ca, .inl (cA, (600, .inr (.inl f)))), (cb, .inl (cA, (40, .inr (.inl g))))] := hD
      have hw : r9 = tq_rt (fun j => tq_q g k (q + j)) (y - tq_pb z) (z - tq_pb z) (tq_leaf v) := hw
      subst hw
      refine lv_lstore (lv' := [(6, .long (tq_rt (fun j => tq_q g k (q + j)) (y - tq_pb z) (z - tq_pb z) (tq_leaf v))), (5, .int (nI (tq_pb z))), (0, .ref o), (1, .int (nI y)), (2, .int (nI z)), (3, .long v)]) hx hb qd_M_rootOf_56 hl (by decide) rfl (fun ls hl => ?_)
      refine lv_aload_n hx hb qd_M_rootOf_58 rfl (lv_at hl 2 rfl) ?_
      have hPc := hP.sub (ws' := [(o, .inr (1, [.int w1, .int (nI n), .int (nI k), .int (nI (q + tq_pl (y - tq_pb z) (z - tq_pb z))), .ref ca, .ref cb, .long z1, .long z2])), (ca, .inl (cA, (600, .inr (.inl f)))), (cb, .inl (cA, (40, .inr (.inl g))))]) [0, 1, 2] rfl
      have hDc := hD.sub (ws' := [(o, .inr (1, [.int w1, .int (nI n), .int (nI k), .int (nI (q + tq_pl (y - tq_pb z) (z - tq_pb z))), .ref ca, .ref cb, .long z1, .long z2])), (ca, .inl (cA, (600, .inr (.inl f)))), (cb, .inl (cA, (40, .inr (.inl g))))]) [0, 1, 2] (by decide) rfl
      have hKc := hK.sub (tys' := [(cA, .long)]) [0] rfl
      have hFc := va_free (wc := [(o, .inr (1, [.int w1, .int (nI n), .int (nI k), .int (nI (q + tq_pl (y - tq_pb z) (z - tq_pb z))), .ref ca, .ref cb, .long z1, .long z2])), (ca, .inl (cA, (600, .inr (.inl f)))), (cb, .inl (cA, (40, .inr (.inl g))))]) hD hS hA [0, 1, 2] rfl
      refine va_calll (va_runV (As := []) (rest := []) ⟨hx, hb, hml, hown, hW⟩ (ct_M_next l dC dI o ca cb cA w1 n k z1 z2 f g H.size ((q + tq_pl (y - tq_pb z) (z - tq_pb z))) (by omega) (by omega)) (cwV 0 hW (tq_gV qm_387 qm_389 qs_M_next qm_2 qm_390) rfl rfl rfl (by decide +kernel) ⟨(show 0 + 1 ≤ d1 + 1 + 2 from by omega), (show 8 + (1 + 11) + (0) ≤ 27 * (d1 + 1) + 50 from by omega)⟩) ⟨tq_b2, va_recv hKc hPc (ci := 1) (q0 := 0) rfl rfl, fun U hU hW9 => ⟨rfl, by rw [hU], by rw [hU]; exact hPc, va_K.moved hW9.alike hKc, hDc.weaken (fun _ _ _ _ => trivial)⟩⟩ rfl rfl hl.1 rfl (lv_room (Nat.le_of_ble_eq_true rfl)) qd_M_rootOf_59 ⟨Nat.le_of_ble_eq_true rfl, Nat.le_of_ble_eq_true rfl⟩) hS (fun q _ h => hFc q h) hFc (fun r9 u t9 H1 locs ht9 hvm hw hB hz1 hk1 hS => ?_)
      obtain ⟨hP1, hK1, hD1⟩ := hB
      rw [ht9] at hP1
      obtain ⟨hP, hD⟩ := va_join (wr := []) (w1 := [(o, .inr (1, [.int w1, .int (nI n), .int (nI k), .int (nI (((q + tq_pl (y - tq_pb z) (z - tq_pb z))) + 1)), .ref ca, .ref cb, .long z1, .long z2])), (ca, .inl (cA, (600, .inr (.inl f)))), (cb, .inl (cA, (40, .inr (.inl g))))]) hP hD [0, 1, 2] [] rfl rfl (by decide) (by decide) hk1 hFc hP1 hD1
      generalize H1 = H at hP hS ⊢
      have hP : va_P (dC, dI) tq_cl [(o, .inr (1, [.int w1, .int (nI n), .int (nI k), .int (nI (((q + tq_pl (y - tq_pb z) (z - tq_pb z))) + 1)), .ref ca, .ref cb, .long z1, .long z2])), (ca, .inl (cA, (600, .inr (.inl f)))), (cb, .inl (cA, (40, .inr (.inl g))))] H := hP
      have hD : va_D A [(o, .inr (1, [.int w1, .int (nI n), .int (nI k), .int (nI (((q + tq_pl (y - tq_pb z) (z - tq_pb z))) + 1)), .ref ca, .ref cb, .long z1, .long z2])), (ca, .inl (cA, (600, .inr (.inl f)))), (cb, .inl (cA, (40, .inr (.inl g))))] := hD
      have hw : r9 = tq_q g k ((q + tq_pl (y - tq_pb z) (z - tq_pb z))) := hw
      subst hw
      refine lv_lload hx hb qd_M_rootOf_62 (lv_at hl 0 rfl) ?_
      refine vp_callSl (W.runS (As := [.long (tq_q g k ((q + tq_pl (y - tq_pb z) (z - tq_pb z)))), .long (tq_rt (fun j => tq_q g k (q + j)) (y - tq_pb z) (z - tq_pb z) (tq_leaf v))]) (rest := []) ⟨hx, hb, hml, hown, hW⟩ (ct_M_node l (tq_q g k ((q + tq_pl (y - tq_pb z) (z - tq_pb z)))) (tq_rt (fun j => tq_q g k (q + j)) (y - tq_pb z) (z - tq_pb z) (tq_leaf v))) (cwS 2 hW (tq_gS qm_338 qm_339 qm_2 qm_340) rfl rfl rfl (by decide +kernel) ⟨(show 1 + 1 ≤ d1 + 1 + 2 from by omega), (show 8 + (4 + 11) + (27) ≤ 27 * (d1 + 1) + 50 from by omega)⟩) ⟨tq_b0, fun U hU hW9 => ⟨rfl, trivial⟩⟩ rfl rfl hl.1 rfl (lv_room (Nat.le_of_ble_eq_true rfl)) qd_M_rootOf_64 ⟨Nat.le_of_ble_eq_true rfl, Nat.le_of_ble_eq_true rfl⟩) (fun r9 e9 => ?_)
      subst e9
      rw [tq_pl_r (by omega) c1, ← Nat.add_assoc]
      exact W.lret hx hb hr (fun t ht hW9 => ⟨⟨_, (), rfl, (by rw [tq_rt_r (by omega) c1]), by rw [ht]; exact hP, va_K.moved hW9.alike hK, hD⟩, hS.F ht⟩) hS.2.2 qd_M_rootOf_67
    · have e4 := tq_pl_l (m := y) (n := z) (by omega) c1
      refine lv_aload_n hx hb qd_M_rootOf_23 rfl (lv_at hl 1 rfl) ?_
      refine lv_iload_n hx hb qd_M_rootOf_24 rfl (lv_at hl 2 rfl) ?_
      refine lv_iload hx hb qd_M_rootOf_25 (lv_at hl 0 rfl) ?_
      refine lv_lload_n hx hb qd_M_rootOf_27 rfl (lv_at hl 4 rfl) ?_
      have hPc := hP.sub (ws' := [(o, .inr (1, [.int w1, .int (nI n), .int (nI k), .int (nI q), .ref ca, .ref cb, .long z1, .long z2])), (ca, .inl (cA, (600, .inr (.inl f)))), (cb, .inl (cA, (40, .inr (.inl g))))]) [0, 1, 2] rfl
      have hDc := hD.sub (ws' := [(o, .inr (1, [.int w1, .int (nI n), .int (nI k), .int (nI q), .ref ca, .ref cb, .long z1, .long z2])), (ca, .inl (cA, (600, .inr (.inl f)))), (cb, .inl (cA, (40, .inr (.inl g))))]) [0, 1, 2] (by decide) rfl
      have hKc := hK.sub (tys' := [(cA, .long)]) [0] rfl
      have hFc := va_free (wc := [(o, .inr (1, [.int w1, .int (nI n), .int (nI k), .int (nI q), .ref ca, .ref cb, .long z1, .long z2])), (ca, .inl (cA, (600, .inr (.inl f)))), (cb, .inl (cA, (40, .inr (.inl g))))]) hD hS hA [0, 1, 2] rfl
      refine va_calll (va_runV (As := [.int (nI y), .int (nI (tq_pb z)), .long v]) (rest := []) ⟨hx, hb, hml, hown, hW⟩ (ih d1 rfl y (tq_pb z) q s.heap.size c1 hh (by omega) (by omega) hk) (cwV 3 hW (tq_gV qm_383 qm_385 qs_M_rootOf qm_2 qm_386) rfl rfl rfl (by decide +kernel) ⟨(show d1 + 2 + 1 ≤ d1 + 1 + 2 from by omega), (show 8 + (8 + 11) + (27 * d1 + 50) ≤ 27 * (d1 + 1) + 50 from by omega)⟩) ⟨tq_b2, va_recv hKc hPc (ci := 1) (q0 := 0) rfl rfl, fun U hU hW9 => ⟨rfl, by rw [hU], by rw [hU]; exact hPc, va_K.moved hW9.alike hKc, hDc.weaken (fun _ _ _ _ => trivial)⟩⟩ rfl rfl hl.1 rfl (lv_room (Nat.le_of_ble_eq_true rfl)) qd_M_rootOf_28 ⟨Nat.le_of_ble_eq_true rfl, Nat.le_of_ble_eq_true rfl⟩) hS (fun q _ h => hFc q h) hFc (fun r9 u t9 H1 locs ht9 hvm hw hB hz1 hk1 hS => ?_)
      obtain ⟨hP1, hK1, hD1⟩ := hB
      rw [ht9] at hP1
      obtain ⟨hP, hD⟩ := va_join (wr := []) (w1 := [(o, .inr (1, [.int w1, .int (nI n), .int (nI k), .int (nI (q + tq_pl y (tq_pb z))), .ref ca, .ref cb, .long z1, .long z2])), (ca, .inl (cA, (600, .inr (.inl f)))), (cb, .inl (cA, (40, .inr (.inl g))))]) hP hD [0, 1, 2] [] rfl rfl (by decide) (by decide) hk1 hFc hP1 hD1
      generalize H1 = H at hP hS ⊢
      have hP : va_P (dC, dI) tq_cl [(o, .inr (1, [.int w1, .int (nI n), .int (nI k), .int (nI (q + tq_pl y (tq_pb z))), .ref ca, .ref cb, .long z1, .long z2])), (ca, .inl (cA, (600, .inr (.inl f)))), (cb, .inl (cA, (40, .inr (.inl g))))] H := hP
      have hD : va_D A [(o, .inr (1, [.int w1, .int (nI n), .int (nI k), .int (nI (q + tq_pl y (tq_pb z))), .ref ca, .ref cb, .long z1, .long z2])), (ca, .inl (cA, (600, .inr (.inl f)))), (cb, .inl (cA, (40, .inr (.inl g))))] := hD
      have hw : r9 = tq_rt (fun j => tq_q g k (q + j)) y (tq_pb z) (tq_leaf v) := hw
      subst hw
      refine lv_lstore (lv' := [(6, .long (tq_rt (fun j => tq_q g k (q + j)) y (tq_pb z) (tq_leaf v))), (5, .int (nI (tq_pb z))), (0, .ref o), (1, .int (nI y)), (2, .int (nI z)), (3, .long v)]) hx hb qd_M_rootOf_31 hl (by decide) rfl (fun ls hl => ?_)
      refine lv_lload hx hb qd_M_rootOf_33 (lv_at hl 0 rfl) ?_
      refine lv_aload_n hx hb qd_M_rootOf_35 rfl (lv_at hl 2 rfl) ?_
      have hPc := hP.sub (ws' := [(o, .inr (1, [.int w1, .int (nI n), .int (nI k), .int (nI (q + tq_pl y (tq_pb z))), .ref ca, .ref cb, .long z1, .long z2])), (ca, .inl (cA, (600, .inr (.inl f)))), (cb, .inl (cA, (40, .inr (.inl g))))]) [0, 1, 2] rfl
      have hDc := hD.sub (ws' := [(o, .inr (1, [.int w1, .int (nI n), .int (nI k), .int (nI (q + tq_pl y (tq_pb z))), .ref ca, .ref cb, .long z1, .long z2])), (ca, .inl (cA, (600, .inr (.inl f)))), (cb, .inl (cA, (40, .inr (.inl g))))]) [0, 1, 2] (by decide) rfl
      have hKc := hK.sub (tys' := [(cA, .long)]) [0] rfl
      have hFc := va_free (wc := [(o, .inr (1, [.int w1, .int (nI n), .int (nI k), .int (nI (q + tq_pl y (tq_pb z))), .ref ca, .ref cb, .long z1, .long z2])), (ca, .inl (cA, (600, .inr (.inl f)))), (cb, .inl (cA, (40, .inr (.inl g))))]) hD hS hA [0, 1, 2] rfl
      refine va_calll (va_runV (As := []) (rest := [.long (tq_rt (fun j => tq_q g k (q + j)) y (tq_pb z) (tq_leaf v))]) ⟨hx, hb, hml, hown, hW⟩ (ct_M_next l dC dI o ca cb cA w1 n k z1 z2 f g H.size ((q + tq_pl y (tq_pb z))) (by omega) (by omega)) (cwV 0 hW (tq_gV qm_387 qm_389 qs_M_next qm_2 qm_390) rfl rfl rfl (by decide +kernel) ⟨(show 0 + 1 ≤ d1 + 1 + 2 from by omega), (show 8 + (1 + 11) + (0) ≤ 27 * (d1 + 1) + 50 from by omega)⟩) ⟨tq_b2, va_recv hKc hPc (ci := 1) (q0 := 0) rfl rfl, fun U hU hW9 => ⟨rfl, by rw [hU], by rw [hU]; exact hPc, va_K.moved hW9.alike hKc, hDc.weaken (fun _ _ _ _ => trivial)⟩⟩ rfl rfl hl.1 rfl (lv_room (Nat.le_of_ble_eq_true rfl)) qd_M_rootOf_36 ⟨Nat.le_of_ble_eq_true rfl, Nat.le_of_ble_eq_true rfl⟩) hS (fun q _ h => hFc q h) hFc (fun r9 u t9 H1 locs ht9 hvm hw hB hz1 hk1 hS => ?_)
      obtain ⟨hP1, hK1, hD1⟩ := hB
      rw [ht9] at hP1
      obtain ⟨hP, hD⟩ := va_join (wr := []) (w1 := [(o, .inr (1, [.int w1, .int (nI n), .int (nI k), .int (nI (((q + tq_pl y (tq_pb z))) + 1)), .ref ca, .ref cb, .long z1, .long z2])), (ca, .inl (cA, (600, .inr (.inl f)))), (cb, .inl (cA, (40, .inr (.inl g))))]) hP hD [0, 1, 2] [] rfl rfl (by decide) (by decide) hk1 hFc hP1 hD1
      generalize H1 = H at hP hS ⊢
      have hP : va_P (dC, dI) tq_cl [(o, .inr (1, [.int w1, .int (nI n), .int (nI k), .int (nI (((q + tq_pl y (tq_pb z))) + 1)), .ref ca, .ref cb, .long z1, .long z2])), (ca, .inl (cA, (600, .inr (.inl f)))), (cb, .inl (cA, (40, .inr (.inl g))))] H := hP
      have hD : va_D A [(o, .inr (1, [.int w1, .int (nI n), .int (nI k), .int (nI (((q + tq_pl y (tq_pb z))) + 1)), .ref ca, .ref cb, .long z1, .long z2])), (ca, .inl (cA, (600, .inr (.inl f)))), (cb, .inl (cA, (40, .inr (.inl g))))] := hD
      have hw : r9 = tq_q g k ((q + tq_pl y (tq_pb z))) := hw
      subst hw
      refine vp_callSl (W.runS (As := [.long (tq_rt (fun j => tq_q g k (q + j)) y (tq_pb z) (tq_leaf v)), .long (tq_q g k ((q + tq_pl y (tq_pb z))))]) (rest := []) ⟨hx, hb, hml, hown, hW⟩ (ct_M_node l (tq_rt (fun j => tq_q g k (q + j)) y (tq_pb z) (tq_leaf v)) (tq_q g k ((q + tq_pl y (tq_pb z))))) (cwS 2 hW (tq_gS qm_338 qm_339 qm_2 qm_340) rfl rfl rfl (by decide +kernel) ⟨(show 1 + 1 ≤ d1 + 1 + 2 from by omega), (show 8 + (4 + 11) + (27) ≤ 27 * (d1 + 1) + 50 from by omega)⟩) ⟨tq_b0, fun U hU hW9 => ⟨rfl, trivial⟩⟩ rfl rfl hl.1 rfl (lv_room (Nat.le_of_ble_eq_true rfl)) qd_M_rootOf_39 ⟨Nat.le_of_ble_eq_true rfl, Nat.le_of_ble_eq_true rfl⟩) (fun r9 e9 => ?_)
      subst e9
      rw [tq_pl_l (by omega) c1, ← Nat.add_assoc]
      exact W.lret hx hb hr (fun t ht hW9 => ⟨⟨_, (), rfl, (by rw [tq_rt_l (by omega) c1]), by rw [ht]; exact hP, va_K.moved hW9.alike hK, hD⟩, hS.F ht⟩) hS.2.2 qd_M_rootOf_42
  · refine lv_lconst (v := 1) hx hb qd_M_rootOf_5 (by decide) ?_
    refine lv_lload_n hx hb qd_M_rootOf_6 rfl (lv_at hl 3 rfl) ?_
    refine vp_callSl (W.runS (As := [.long 1, .long v]) (rest := []) ⟨hx, hb, hml, hown, hW⟩ (ct_M_mix l 1 v) (cwS 2 hW (tq_gS qm_330 qm_331 qm_2 qm_332) rfl rfl rfl (by decide +kernel) ⟨(show 0 + 1 ≤ d + 2 from by omega), (show 8 + (8 + 11) + (0) ≤ 27 * d + 50 from by omega)⟩) ⟨tq_b0, fun U hU hW9 => ⟨rfl, trivial⟩⟩ rfl rfl hl.1 rfl (lv_room (Nat.le_of_ble_eq_true rfl)) qd_M_rootOf_7 ⟨Nat.le_of_ble_eq_true rfl, Nat.le_of_ble_eq_true rfl⟩) (fun r9 e9 => ?_)
    subst e9
    rw [tq_pl_0 (by omega)]
    exact W.lret hx hb hr (fun t ht hW9 => ⟨⟨_, (), rfl, (by rw [tq_rt_0 (by omega)]; rfl), by rw [ht]; exact hP, va_K.moved hW9.alike hK, hD⟩, hS.F ht⟩) hS.2.2 qd_M_rootOf_10
theorem ct_M_rootOf (l : Launch) (dC : Nat → ClassId) (dI : Nat → Nat → Nat) (o ca cb : Nat) (cA : ClassId) (w1 : Int32) (n k : Nat) (z1 z2 : Int64) (f g : Nat → Int64) (v : Int64) : ∀ (d y z q sz : Nat), y < z → z ≤ 2 ^ d → d ≤ 30 → q + tq_pl y z ≤ 100 → k ≤ 40 → tq_RO l dC dI o ca cb cA w1 n k z1 z2 f g v d y z q sz
  | 0, y, z, q, sz, h1, h2, h3, h4, hk => ct_M_rootOf_s l dC dI o ca cb cA w1 n k z1 z2 f g v 0 y z q sz (fun d1 h => by omega) h1 h2 h3 h4 hk
  | d + 1, y, z, q, sz, h1, h2, h3, h4, hk => ct_M_rootOf_s l dC dI o ca cb cA w1 n k z1 z2 f g v (d + 1) y z q sz (fun d1 h y z q sz a1 a2 a3 a4 a5 => by cases h; exact ct_M_rootOf l dC dI o ca cb cA w1 n k z1 z2 f g v d y z q sz a1 a2 a3 a4 a5) h1 h2 h3 h4 hk
set_option maxHeartbeats 4000000 in
set_option maxRecDepth 100000 in
theorem ct_M_shows_no (l : Launch) (dC : Nat → ClassId) (dI : Nat → Nat → Nat) (o ca cb : Nat) (cA : ClassId) (w1 : Int32) (n k : Nat) (w4 : Int32) (z1 z2 : Int64) (f g : Nat → Int64) (sz : Nat) (pm pn : Int32) (v hd : Int64) (hbad : pm < 0 ∨ pn ≤ pm ∨ nI 1073741824 < pn) : Met l qy_M_shows qw_M_shows ({ frames := 0, cells := 0, slots := 0, locals := 0 }) (va_Pc [.ref o, .int pm, .int pn, .long v, .long hd] (tq_rw (dC, dI) [(o, .inr (1, [.int w1, .int (nI n), .int (nI k), .int w4, .ref ca, .ref cb, .long z1, .long z2])), (ca, .inl (cA, (600, .inr (.inl f)))), (cb, .inl (cA, (40, .inr (.inl g))))] [(cA, .long)] sz)) (va_Qi (fun r (_ : Unit) => r = nI 0) (fun _ t => tq_in (dC, dI) [(o, .inr (1, [.int (nI 0), .int (nI n), .int (nI k), .int w4, .ref ca, .ref cb, .long z1, .long z2])), (ca, .inl (cA, (600, .inr (.inl f)))), (cb, .inl (cA, (40, .inr (.inl g))))] [(cA, .long)] (va_A [(o, .inr (1, [.int w1, .int (nI n), .int (nI k), .int w4, .ref ca, .ref cb, .long z1, .long z2])), (ca, .inl (cA, (600, .inr (.inl f)))), (cb, .inl (cA, (40, .inr (.inl g))))] sz) t) (va_A [(o, .inr (1, [.int w1, .int (nI n), .int (nI k), .int w4, .ref ca, .ref cb, .long z1, .long z2])), (ca, .inl (cA, (600, .inr (.inl f)))), (cb, .inl (cA, (40, .inr (.inl g))))] sz)) 0 0 (va_A [(o, .inr (1, [.int w1, .int (nI n), .int (nI k), .int w4, .ref ca, .ref cb, .long z1, .long z2])), (ca, .inl (cA, (600, .inr (.inl f)))), (cb, .inl (cA, (40, .inr (.inl g))))] sz) := by
  refine Met.ofW (cc := qc_M_shows) (maxL := 9) (ret := (some .boolean)) (by decide) rfl ?_
  intro p e s m args below meth c s₁ B hml hv
  obtain ⟨rfl, hsz, hP, hK, hD0⟩ := hv
  have hx := B.exec
  have hb := B.bytes
  have hr := B.returns
  have hts := atoms_spec (ws := qw_M_shows) B.pre
  have hW : ∀ w ∈ tq_W, w.before ([.ref o, .int pm, .int pn, .long v, .long hd] : List Value).toArray s = true := fun w h => hts w (List.mem_cons_of_mem _ h)
  have hown : s.vm.findClass RX1 = some m.cls := findClass_of_methodNamed B.named
  have hlocks := B.notSynchronized
  have hl := lv_entry ([.ref o, .int pm, .int pn, .long v, .long hd]) (n := 9) (Nat.le_of_ble_eq_true rfl)
  rw [lg_entry_eq]
  generalize (lg_sl ([.ref o, .int pm, .int pn, .long v, .long hd]) ++ List.replicate (9 - (lg_sl ([.ref o, .int pm, .int pn, .long v, .long hd])).length) Slot.unset).toArray = ls at hl ⊢
  have hl : lv_has ls 9 [(0, .ref o), (1, .int pm), (2, .int pn), (3, .long v), (5, .long hd)] := hl
  subst hsz
  have hD := hD0.self (sz := s.heap.size)
  generalize hAe : va_A [(o, .inr (1, [.int w1, .int (nI n), .int (nI k), .int w4, .ref ca, .ref cb, .long z1, .long z2])), (ca, .inl (cA, (600, .inr (.inl f)))), (cb, .inl (cA, (40, .inr (.inl g))))] s.heap.size = A at hD ⊢
  have hA : ∀ q : Nat, s.heap.size ≤ q → A q := fun q h => by rw [← hAe]; exact Or.inr h
  have hS : va_S A s.heap s.heap [] := va_S.rf
  refine lv_aload_n hx hb qd_M_shows_0 rfl (lv_at hl 0 rfl) ?_
  refine lv_iconst (v := nI 0) hx hb qd_M_shows_1 (by decide +kernel) ?_
  refine va_put (D := (dC, dI)) (ci := 1) (v := .int (nI 0)) (ty := .int) (C := RX1) (T := TX1) (N := 8) hx hb hW inX1 tyX1 tyX1_ok nmX1 hown hK hP hD hS 0 rfl rfl 0 (by decide) (hW _ qm_281) (fun _ h9 => h9) rfl (by decide +kernel) rfl rfl (Nat.le_of_ble_eq_true rfl) qd_M_shows_2 (fun H locs hP hD hS => ?_)
  have hP : va_P (dC, dI) tq_cl [(o, .inr (1, [.int (nI 0), .int (nI n), .int (nI k), .int w4, .ref ca, .ref cb, .long z1, .long z2])), (ca, .inl (cA, (600, .inr (.inl f)))), (cb, .inl (cA, (40, .inr (.inl g))))] H := hP
  have hD : va_D A [(o, .inr (1, [.int (nI 0), .int (nI n), .int (nI k), .int w4, .ref ca, .ref cb, .long z1, .long z2])), (ca, .inl (cA, (600, .inr (.inl f)))), (cb, .inl (cA, (40, .inr (.inl g))))] := hD
  refine lv_iload_n hx hb qd_M_shows_5 rfl (lv_at hl 1 rfl) ?_
  refine lv_if_lt (tgt := 20) hx hb qd_M_shows_6 (by decide) (fun c1 => ?_) (fun c1 => ?_)
  · refine lv_iconst (v := nI 0) hx hb qd_M_shows_20 (by decide +kernel) ?_
    exact W.zret hx hb hr (by decide +kernel) (fun t ht hW9 => ⟨⟨_, (), rfl, rfl, by rw [ht]; exact hP, va_K.moved hW9.alike hK, hD⟩, hS.F ht⟩) hS.2.2 qd_M_shows_21
  · refine lv_iload_n hx hb qd_M_shows_9 rfl (lv_at hl 1 rfl) ?_
    refine lv_iload_n hx hb qd_M_shows_10 rfl (lv_at hl 2 rfl) ?_
    refine lv_icmp_ge (tgt := 20) hx hb qd_M_shows_11 (by decide) (fun c2 => ?_) (fun c2 => ?_)
    · refine lv_iconst (v := nI 0) hx hb qd_M_shows_20 (by decide +kernel) ?_
      exact W.zret hx hb hr (by decide +kernel) (fun t ht hW9 => ⟨⟨_, (), rfl, rfl, by rw [ht]; exact hP, va_K.moved hW9.alike hK, hD⟩, hS.F ht⟩) hS.2.2 qd_M_shows_21
    · have h9 : ¬ pn ≤ nI 1073741824 := tq_nle (hbad.elim (fun h => absurd h c1) (fun h => h.elim (fun h => absurd h c2) id))
      refine lv_iload_n hx hb qd_M_shows_14 rfl (lv_at hl 2 rfl) ?_
      refine lv_ldc (v := (1073741824)) hx hb hown (hW _ qm_382) qd_M_shows_15 ?_
      refine tq_ti (y := nI 1073741824) (by decide +kernel) ?_
      refine lv_icmp_le (tgt := 22) hx hb qd_M_shows_17 (by decide) (fun c9 => absurd c9 (h9)) (fun c3 => ?_)
      refine lv_iconst (v := nI 0) hx hb qd_M_shows_20 (by decide +kernel) ?_
      exact W.zret hx hb hr (by decide +kernel) (fun t ht hW9 => ⟨⟨_, (), rfl, rfl, by rw [ht]; exact hP, va_K.moved hW9.alike hK, hD⟩, hS.F ht⟩) hS.2.2 qd_M_shows_21
set_option maxHeartbeats 4000000 in
set_option maxRecDepth 100000 in
theorem ct_M_grew_no (l : Launch) (dC : Nat → ClassId) (dI : Nat → Nat → Nat) (o ca cb : Nat) (cA : ClassId) (w1 : Int32) (n k : Nat) (w4 : Int32) (z1 z2 : Int64) (f g : Nat → Int64) (sz : Nat) (pm pn : Int32) (v hd : Int64) (hbad : pm < nI 1 ∨ pn < pm ∨ nI 1073741824 < pn) : Met l qy_M_grew qw_M_grew ({ frames := 0, cells := 0, slots := 0, locals := 0 }) (va_Pc [.ref o, .int pm, .int pn, .long v, .long hd] (tq_rw (dC, dI) [(o, .inr (1, [.int w1, .int (nI n), .int (nI k), .int w4, .ref ca, .ref cb, .long z1, .long z2])), (ca, .inl (cA, (600, .inr (.inl f)))), (cb, .inl (cA, (40, .inr (.inl g))))] [(cA, .long)] sz)) (va_Qi (fun r (_ : Unit) => r = nI 0) (fun _ t => tq_in (dC, dI) [(o, .inr (1, [.int (nI 0), .int (nI n), .int (nI k), .int w4, .ref ca, .ref cb, .long z1, .long z2])), (ca, .inl (cA, (600, .inr (.inl f)))), (cb, .inl (cA, (40, .inr (.inl g))))] [(cA, .long)] (va_A [(o, .inr (1, [.int w1, .int (nI n), .int (nI k), .int w4, .ref ca, .ref cb, .long z1, .long z2])), (ca, .inl (cA, (600, .inr (.inl f)))), (cb, .inl (cA, (40, .inr (.inl g))))] sz) t) (va_A [(o, .inr (1, [.int w1, .int (nI n), .int (nI k), .int w4, .ref ca, .ref cb, .long z1, .long z2])), (ca, .inl (cA, (600, .inr (.inl f)))), (cb, .inl (cA, (40, .inr (.inl g))))] sz)) 0 0 (va_A [(o, .inr (1, [.int w1, .int (nI n), .int (nI k), .int w4, .ref ca, .ref cb, .long z1, .long z2])), (ca, .inl (cA, (600, .inr (.inl f)))), (cb, .inl (cA, (40, .inr (.inl g))))] sz) := by
  refine Met.ofW (cc := qc_M_grew) (maxL := 7) (ret := (some .boolean)) (by decide) rfl ?_
  intro p e s m args below meth c s₁ B hml hv
  obtain ⟨rfl, hsz, hP, hK, hD0⟩ := hv
  have hx := B.exec
  have hb := B.bytes
  have hr := B.returns
  have hts := atoms_spec (ws := qw_M_grew) B.pre
  have hW : ∀ w ∈ tq_W, w.before ([.ref o, .int pm, .int pn, .long v, .long hd] : List Value).toArray s = true := fun w h => hts w (List.mem_cons_of_mem _ h)
  have hown : s.vm.findClass RX1 = some m.cls := findClass_of_methodNamed B.named
  have hlocks := B.notSynchronized
  have hl := lv_entry ([.ref o, .int pm, .int pn, .long v, .long hd]) (n := 7) (Nat.le_of_ble_eq_true rfl)
  rw [lg_entry_eq]
  generalize (lg_sl ([.ref o, .int pm, .int pn, .long v, .long hd]) ++ List.replicate (7 - (lg_sl ([.ref o, .int pm, .int pn, .long v, .long hd])).length) Slot.unset).toArray = ls at hl ⊢
  have hl : lv_has ls 7 [(0, .ref o), (1, .int pm), (2, .int pn), (3, .long v), (5, .long hd)] := hl
  subst hsz
  have hD := hD0.self (sz := s.heap.size)
  generalize hAe : va_A [(o, .inr (1, [.int w1, .int (nI n), .int (nI k), .int w4, .ref ca, .ref cb, .long z1, .long z2])), (ca, .inl (cA, (600, .inr (.inl f)))), (cb, .inl (cA, (40, .inr (.inl g))))] s.heap.size = A at hD ⊢
  have hA : ∀ q : Nat, s.heap.size ≤ q → A q := fun q h => by rw [← hAe]; exact Or.inr h
  have hS : va_S A s.heap s.heap [] := va_S.rf
  refine lv_aload_n hx hb qd_M_grew_0 rfl (lv_at hl 0 rfl) ?_
  refine lv_iconst (v := nI 0) hx hb qd_M_grew_1 (by decide +kernel) ?_
  refine va_put (D := (dC, dI)) (ci := 1) (v := .int (nI 0)) (ty := .int) (C := RX1) (T := TX1) (N := 8) hx hb hW inX1 tyX1 tyX1_ok nmX1 hown hK hP hD hS 0 rfl rfl 0 (by decide) (hW _ qm_281) (fun _ h9 => h9) rfl (by decide +kernel) rfl rfl (Nat.le_of_ble_eq_true rfl) qd_M_grew_2 (fun H locs hP hD hS => ?_)
  have hP : va_P (dC, dI) tq_cl [(o, .inr (1, [.int (nI 0), .int (nI n), .int (nI k), .int w4, .ref ca, .ref cb, .long z1, .long z2])), (ca, .inl (cA, (600, .inr (.inl f)))), (cb, .inl (cA, (40, .inr (.inl g))))] H := hP
  have hD : va_D A [(o, .inr (1, [.int (nI 0), .int (nI n), .int (nI k), .int w4, .ref ca, .ref cb, .long z1, .long z2])), (ca, .inl (cA, (600, .inr (.inl f)))), (cb, .inl (cA, (40, .inr (.inl g))))] := hD
  refine lv_iload_n hx hb qd_M_grew_5 rfl (lv_at hl 1 rfl) ?_
  refine lv_iconst (v := nI 1) hx hb qd_M_grew_6 (by decide +kernel) ?_
  refine lv_icmp_lt (tgt := 21) hx hb qd_M_grew_7 (by decide) (fun c1 => ?_) (fun c1 => ?_)
  · refine lv_iconst (v := nI 0) hx hb qd_M_grew_21 (by decide +kernel) ?_
    exact W.zret hx hb hr (by decide +kernel) (fun t ht hW9 => ⟨⟨_, (), rfl, rfl, by rw [ht]; exact hP, va_K.moved hW9.alike hK, hD⟩, hS.F ht⟩) hS.2.2 qd_M_grew_22
  · refine lv_iload_n hx hb qd_M_grew_10 rfl (lv_at hl 1 rfl) ?_
    refine lv_iload_n hx hb qd_M_grew_11 rfl (lv_at hl 2 rfl) ?_
    refine lv_icmp_gt (tgt := 21) hx hb qd_M_grew_12 (by decide) (fun c2 => ?_) (fun c2 => ?_)
    · refine lv_iconst (v := nI 0) hx hb qd_M_grew_21 (by decide +kernel) ?_
      exact W.zret hx hb hr (by decide +kernel) (fun t ht hW9 => ⟨⟨_, (), rfl, rfl, by rw [ht]; exact hP, va_K.moved hW9.alike hK, hD⟩, hS.F ht⟩) hS.2.2 qd_M_grew_22
    · have h9 : ¬ pn ≤ nI 1073741824 := tq_nle (hbad.elim (fun h => absurd h c1) (fun h => h.elim (fun h => absurd h c2) id))
      refine lv_iload_n hx hb qd_M_grew_15 rfl (lv_at hl 2 rfl) ?_
      refine lv_ldc (v := (1073741824)) hx hb hown (hW _ qm_382) qd_M_grew_16 ?_
      refine tq_ti (y := nI 1073741824) (by decide +kernel) ?_
      refine lv_icmp_le (tgt := 23) hx hb qd_M_grew_18 (by decide) (fun c9 => absurd c9 (h9)) (fun c3 => ?_)
      refine lv_iconst (v := nI 0) hx hb qd_M_grew_21 (by decide +kernel) ?_
      exact W.zret hx hb hr (by decide +kernel) (fun t ht hW9 => ⟨⟨_, (), rfl, rfl, by rw [ht]; exact hP, va_K.moved hW9.alike hK, hD⟩, hS.F ht⟩) hS.2.2 qd_M_grew_22
set_option maxHeartbeats 4000000 in
set_option maxRecDepth 100000 in
theorem ct_M_shows (l : Launch) (dC : Nat → ClassId) (dI : Nat → Nat → Nat) (o ca cb : Nat) (cA : ClassId) (w1 : Int32) (n k : Nat) (w4 : Int32) (z1 z2 : Int64) (f g : Nat → Int64) (sz : Nat) (i j : Nat) (v hd : Int64) (h1 : i < j) (h2 : j ≤ 2 ^ 30) (hk : k ≤ 40) : Met l qy_M_shows qw_M_shows ({ frames := 33, cells := 0, slots := 0, locals := 900 }) (va_Pc [.ref o, .int (nI i), .int (nI j), .long v, .long hd] (tq_rw (dC, dI) [(o, .inr (1, [.int w1, .int (nI n), .int (nI k), .int w4, .ref ca, .ref cb, .long z1, .long z2])), (ca, .inl (cA, (600, .inr (.inl f)))), (cb, .inl (cA, (40, .inr (.inl g))))] [(cA, .long)] sz)) (va_Qi (fun r (_ : Unit) => r = tq_b (decide (0 + tq_pl i j = k) && decide (tq_rt (fun q => tq_q g k (0 + q)) i j (tq_leaf v) = hd))) (fun _ t => tq_in (dC, dI) [(o, .inr (1, [.int (nI 0), .int (nI n), .int (nI k), .int (nI (0 + tq_pl i j)), .ref ca, .ref cb, .long z1, .long z2])), (ca, .inl (cA, (600, .inr (.inl f)))), (cb, .inl (cA, (40, .inr (.inl g))))] [(cA, .long)] (va_A [(o, .inr (1, [.int w1, .int (nI n), .int (nI k), .int w4, .ref ca, .ref cb, .long z1, .long z2])), (ca, .inl (cA, (600, .inr (.inl f)))), (cb, .inl (cA, (40, .inr (.inl g))))] sz) t) (va_A [(o, .inr (1, [.int w1, .int (nI n), .int (nI k), .int w4, .ref ca, .ref cb, .long z1, .long z2])), (ca, .inl (cA, (600, .inr (.inl f)))), (cb, .inl (cA, (40, .inr (.inl g))))] sz)) 0 0 (va_A [(o, .inr (1, [.int w1, .int (nI n), .int (nI k), .int w4, .ref ca, .ref cb, .long z1, .long z2])), (ca, .inl (cA, (600, .inr (.inl f)))), (cb, .inl (cA, (40, .inr (.inl g))))] sz) := by
  refine Met.ofW (cc := qc_M_shows) (maxL := 9) (ret := (some .boolean)) (by decide) rfl ?_
  intro p e s m args below meth c s₁ B hml hv
  obtain ⟨rfl, hsz, hP, hK, hD0⟩ := hv
  have hx := B.exec
  have hb := B.bytes
  have hr := B.returns
  have hts := atoms_spec (ws := qw_M_shows) B.pre
  have hW : ∀ w ∈ tq_W, w.before ([.ref o, .int (nI i), .int (nI j), .long v, .long hd] : List Value).toArray s = true := fun w h => hts w (List.mem_cons_of_mem _ h)
  have hown : s.vm.findClass RX1 = some m.cls := findClass_of_methodNamed B.named
  have hlocks := B.notSynchronized
  have hl := lv_entry ([.ref o, .int (nI i), .int (nI j), .long v, .long hd]) (n := 9) (Nat.le_of_ble_eq_true rfl)
  rw [lg_entry_eq]
  generalize (lg_sl ([.ref o, .int (nI i), .int (nI j), .long v, .long hd]) ++ List.replicate (9 - (lg_sl ([.ref o, .int (nI i), .int (nI j), .long v, .long hd])).length) Slot.unset).toArray = ls at hl ⊢
  have hl : lv_has ls 9 [(0, .ref o), (1, .int (nI i)), (2, .int (nI j)), (3, .long v), (5, .long hd)] := hl
  subst hsz
  have hD := hD0.self (sz := s.heap.size)
  generalize hAe : va_A [(o, .inr (1, [.int w1, .int (nI n), .int (nI k), .int w4, .ref ca, .ref cb, .long z1, .long z2])), (ca, .inl (cA, (600, .inr (.inl f)))), (cb, .inl (cA, (40, .inr (.inl g))))] s.heap.size = A at hD ⊢
  have hA : ∀ q : Nat, s.heap.size ≤ q → A q := fun q h => by rw [← hAe]; exact Or.inr h
  have hS : va_S A s.heap s.heap [] := va_S.rf
  have hpl := tq_pl_le 30 i j h2
  refine lv_aload_n hx hb qd_M_shows_0 rfl (lv_at hl 0 rfl) ?_
  refine lv_iconst (v := nI 0) hx hb qd_M_shows_1 (by decide +kernel) ?_
  refine va_put (D := (dC, dI)) (ci := 1) (v := .int (nI 0)) (ty := .int) (C := RX1) (T := TX1) (N := 8) hx hb hW inX1 tyX1 tyX1_ok nmX1 hown hK hP hD hS 0 rfl rfl 0 (by decide) (hW _ qm_281) (fun _ h9 => h9) rfl (by decide +kernel) rfl rfl (Nat.le_of_ble_eq_true rfl) qd_M_shows_2 (fun H locs hP hD hS => ?_)
  have hP : va_P (dC, dI) tq_cl [(o, .inr (1, [.int (nI 0), .int (nI n), .int (nI k), .int w4, .ref ca, .ref cb, .long z1, .long z2])), (ca, .inl (cA, (600, .inr (.inl f)))), (cb, .inl (cA, (40, .inr (.inl g))))] H := hP
  have hD : va_D A [(o, .inr (1, [.int (nI 0), .int (nI n), .int (nI k), .int w4, .ref ca, .ref cb, .long z1, .long z2])), (ca, .inl (cA, (600, .inr (.inl f)))), (cb, .inl (cA, (40, .inr (.inl g))))] := hD
  refine lv_iload_n hx hb qd_M_shows_5 rfl (lv_at hl 1 rfl) ?_
  refine tq_if_lt (x := i) (tgt := 20) hx hb qd_M_shows_6 (by decide) (by omega) ?_
  refine lv_iload_n hx hb qd_M_shows_9 rfl (lv_at hl 1 rfl) ?_
  refine lv_iload_n hx hb qd_M_shows_10 rfl (lv_at hl 2 rfl) ?_
  refine tq_icmp_ge (x := i) (y := j) (tgt := 20) hx hb qd_M_shows_11 (by decide) (by omega) (by omega) (fun c9 => by omega) (fun c9 => ?_)
  refine lv_iload_n hx hb qd_M_shows_14 rfl (lv_at hl 2 rfl) ?_
  refine lv_ldc (v := (1073741824)) hx hb hown (hW _ qm_382) qd_M_shows_15 ?_
  refine tq_ti (y := nI 1073741824) (by decide +kernel) ?_
  refine tq_icmp_le (x := j) (y := 1073741824) (tgt := 22) hx hb qd_M_shows_17 (by decide) (by omega) (by omega) (fun c9 => ?_) (fun c9 => by omega)
  refine lv_aload_n hx hb qd_M_shows_22 rfl (lv_at hl 0 rfl) ?_
  refine lv_iconst (v := nI 0) hx hb qd_M_shows_23 (by decide +kernel) ?_
  refine va_put (D := (dC, dI)) (ci := 1) (v := .int (nI 0)) (ty := .int) (C := RX1) (T := TX1) (N := 8) hx hb hW inX1 tyX1 tyX1_ok nmX1 hown hK hP hD hS 0 rfl rfl 3 (by decide) (hW _ qm_284) (fun _ h9 => h9) rfl (by decide +kernel) rfl rfl (Nat.le_of_ble_eq_true rfl) qd_M_shows_24 (fun H locs hP hD hS => ?_)
  have hP : va_P (dC, dI) tq_cl [(o, .inr (1, [.int (nI 0), .int (nI n), .int (nI k), .int (nI 0), .ref ca, .ref cb, .long z1, .long z2])), (ca, .inl (cA, (600, .inr (.inl f)))), (cb, .inl (cA, (40, .inr (.inl g))))] H := hP
  have hD : va_D A [(o, .inr (1, [.int (nI 0), .int (nI n), .int (nI k), .int (nI 0), .ref ca, .ref cb, .long z1, .long z2])), (ca, .inl (cA, (600, .inr (.inl f)))), (cb, .inl (cA, (40, .inr (.inl g))))] := hD
  refine lv_aload_n hx hb qd_M_shows_27 rfl (lv_at hl 0 rfl) ?_
  refine lv_iload_n hx hb qd_M_shows_28 rfl (lv_at hl 1 rfl) ?_
  refine lv_iload_n hx hb qd_M_shows_29 rfl (lv_at hl 2 rfl) ?_
  refine lv_lload_n hx hb qd_M_shows_30 rfl (lv_at hl 3 rfl) ?_
  have hPc := hP.sub (ws' := [(o, .inr (1, [.int (nI 0), .int (nI n), .int (nI k), .int (nI 0), .ref ca, .ref cb, .long z1, .long z2])), (ca, .inl (cA, (600, .inr (.inl f)))), (cb, .inl (cA, (40, .inr (.inl g))))]) [0, 1, 2] rfl
  have hDc := hD.sub (ws' := [(o, .inr (1, [.int (nI 0), .int (nI n), .int (nI k), .int (nI 0), .ref ca, .ref cb, .long z1, .long z2])), (ca, .inl (cA, (600, .inr (.inl f)))), (cb, .inl (cA, (40, .inr (.inl g))))]) [0, 1, 2] (by decide) rfl
  have hKc := hK.sub (tys' := [(cA, .long)]) [0] rfl
  have hFc := va_free (wc := [(o, .inr (1, [.int (nI 0), .int (nI n), .int (nI k), .int (nI 0), .ref ca, .ref cb, .long z1, .long z2])), (ca, .inl (cA, (600, .inr (.inl f)))), (cb, .inl (cA, (40, .inr (.inl g))))]) hD hS hA [0, 1, 2] rfl
  refine va_calll (va_runV (As := [.int (nI i), .int (nI j), .long v]) (rest := []) ⟨hx, hb, hml, hown, hW⟩ (ct_M_rootOf l dC dI o ca cb cA (nI 0) n k z1 z2 f g v 30 i j 0 H.size h1 h2 (by omega) (by omega) hk) (cwV 3 hW (tq_gV qm_383 qm_385 qs_M_rootOf qm_2 qm_386) rfl rfl rfl (by decide +kernel) ⟨Nat.le_of_ble_eq_true rfl, Nat.le_of_ble_eq_true rfl⟩) ⟨tq_b2, va_recv hKc hPc (ci := 1) (q0 := 0) rfl rfl, fun U hU hW9 => ⟨rfl, by rw [hU], by rw [hU]; exact hPc, va_K.moved hW9.alike hKc, hDc.weaken (fun _ _ _ _ => trivial)⟩⟩ rfl rfl hl.1 rfl (lv_room (Nat.le_of_ble_eq_true rfl)) qd_M_shows_31 ⟨Nat.le_of_ble_eq_true rfl, Nat.le_of_ble_eq_true rfl⟩) hS (fun q _ h => hFc q h) hFc (fun r9 u t9 H1 locs ht9 hvm hw hB hz1 hk1 hS => ?_)
  obtain ⟨hP1, hK1, hD1⟩ := hB
  rw [ht9] at hP1
  obtain ⟨hP, hD⟩ := va_join (wr := []) (w1 := [(o, .inr (1, [.int (nI 0), .int (nI n), .int (nI k), .int (nI (0 + tq_pl i j)), .ref ca, .ref cb, .long z1, .long z2])), (ca, .inl (cA, (600, .inr (.inl f)))), (cb, .inl (cA, (40, .inr (.inl g))))]) hP hD [0, 1, 2] [] rfl rfl (by decide) (by decide) hk1 hFc hP1 hD1
  generalize H1 = H at hP hS ⊢
  have hP : va_P (dC, dI) tq_cl [(o, .inr (1, [.int (nI 0), .int (nI n), .int (nI k), .int (nI (0 + tq_pl i j)), .ref ca, .ref cb, .long z1, .long z2])), (ca, .inl (cA, (600, .inr (.inl f)))), (cb, .inl (cA, (40, .inr (.inl g))))] H := hP
  have hD : va_D A [(o, .inr (1, [.int (nI 0), .int (nI n), .int (nI k), .int (nI (0 + tq_pl i j)), .ref ca, .ref cb, .long z1, .long z2])), (ca, .inl (cA, (600, .inr (.inl f)))), (cb, .inl (cA, (40, .inr (.inl g))))] := hD
  have hw : r9 = tq_rt (fun q => tq_q g k (0 + q)) i j (tq_leaf v) := hw
  subst hw
  refine lv_lstore (lv' := [(7, .long (tq_rt (fun q => tq_q g k (0 + q)) i j (tq_leaf v))), (0, .ref o), (1, .int (nI i)), (2, .int (nI j)), (3, .long v), (5, .long hd)]) hx hb qd_M_shows_34 hl (by decide) rfl (fun ls hl => ?_)
  refine lv_aload_n hx hb qd_M_shows_36 rfl (lv_at hl 1 rfl) ?_
  refine va_get (D := (dC, dI)) (ci := 1) (v := .int (nI (0 + tq_pl i j))) (C := RX1) (T := TX1) (N := 8) hx hb hW inX1 hown hK hP 0 rfl rfl 3 (by decide) (hW _ qm_284) (fun _ h9 => h9) rfl qd_M_shows_37 ?_
  refine lv_aload_n hx hb qd_M_shows_40 rfl (lv_at hl 1 rfl) ?_
  refine va_get (D := (dC, dI)) (ci := 1) (v := .int (nI k)) (C := RX1) (T := TX1) (N := 8) hx hb hW inX1 hown hK hP 0 rfl rfl 2 (by decide) (hW _ qm_283) (fun _ h9 => h9) rfl qd_M_shows_41 ?_
  refine tq_icmp_ne (x := (0 + tq_pl i j)) (y := k) (tgt := 59) hx hb qd_M_shows_44 (by decide) (by omega) (by omega) (fun c9 => ?_) (fun c9 => ?_)
  · refine lv_iconst (v := nI 0) hx hb qd_M_shows_59 (by decide +kernel) ?_
    exact W.zret hx hb hr (by decide +kernel) (fun t ht hW9 => ⟨⟨_, (), rfl, (by rw [decide_eq_false c9]; rfl), by rw [ht]; exact hP, va_K.moved hW9.alike hK, hD⟩, hS.F ht⟩) hS.2.2 qd_M_shows_60
  · refine lv_lload hx hb qd_M_shows_47 (lv_at hl 0 rfl) ?_
    refine lv_lload hx hb qd_M_shows_49 (lv_at hl 5 rfl) ?_
    refine tq_lc_ne (tgt := 59) hx hb qd_M_shows_51 qd_M_shows_52 (by decide) (fun c1 => ?_) (fun c1 => ?_)
    · refine lv_iconst (v := nI 0) hx hb qd_M_shows_59 (by decide +kernel) ?_
      exact W.zret hx hb hr (by decide +kernel) (fun t ht hW9 => ⟨⟨_, (), rfl, (by rw [decide_eq_false c1, Bool.and_false]; rfl), by rw [ht]; exact hP, va_K.moved hW9.alike hK, hD⟩, hS.F ht⟩) hS.2.2 qd_M_shows_60
    · refine lv_iconst (v := nI 1) hx hb qd_M_shows_55 (by decide +kernel) ?_
      refine lv_goto (tgt := 60) hx hb qd_M_shows_56 (by decide) ?_
      exact W.zret hx hb hr (by decide +kernel) (fun t ht hW9 => ⟨⟨_, (), rfl, (by rw [decide_eq_true c1, decide_eq_true c9]; rfl), by rw [ht]; exact hP, va_K.moved hW9.alike hK, hD⟩, hS.F ht⟩) hS.2.2 qd_M_shows_60
def tq_BO (l : Launch) (dC : Nat → ClassId) (dI : Nat → Nat → Nat) (o ca cb : Nat) (cA : ClassId) (w1 : Int32) (n k : Nat) (f g : Nat → Int64) (v : Int64) (d y z q : Nat) (kn : Bool) (z1 z2 : Int64) (sz : Nat) : Prop := Met l qy_M_both qw_M_both ({ frames := d + 2, cells := 0, slots := 0, locals := 28 * d + 50 }) (va_Pc [.ref o, .int (nI y), .int (nI z), .int (tq_b kn), .long v] (tq_rw (dC, dI) [(o, .inr (1, [.int w1, .int (nI n), .int (nI k), .int (nI q), .ref ca, .ref cb, .long z1, .long z2])), (ca, .inl (cA, (600, .inr (.inl f)))), (cb, .inl (cA, (40, .inr (.inl g))))] [(cA, .long)] sz)) (va_Qv (fun _ : Unit => True) (fun _ t => tq_in (dC, dI) [(o, .inr (1, [.int w1, .int (nI n), .int (nI k), .int (nI (q + tq_sl kn y z)), .ref ca, .ref cb, .long (tq_od (fun j => tq_q g k (q + j)) kn y z v), .long (tq_nw (fun j => tq_q g k (q + j)) kn y z v)])), (ca, .inl (cA, (600, .inr (.inl f)))), (cb, .inl (cA, (40, .inr (.inl g))))] [(cA, .long)] (va_A [(o, .inr (1, [.int w1, .int (nI n), .int (nI k), .int (nI q), .ref ca, .ref cb, .long z1, .long z2])), (ca, .inl (cA, (600, .inr (.inl f)))), (cb, .inl (cA, (40, .inr (.inl g))))] sz) t) (va_A [(o, .inr (1, [.int w1, .int (nI n), .int (nI k), .int (nI q), .ref ca, .ref cb, .long z1, .long z2])), (ca, .inl (cA, (600, .inr (.inl f)))), (cb, .inl (cA, (40, .inr (.inl g))))] sz)) 0 0 (va_A [(o, .inr (1, [.int w1, .int (nI n), .int (nI k), .int (nI q), .ref ca, .ref cb, .long z1, .long z2])), (ca, .inl (cA, (600, .inr (.inl f)))), (cb, .inl (cA, (40, .inr (.inl g))))] sz)
set_option maxHeartbeats 4000000 in
set_option maxRecDepth 100000 in
/-- both: the old HEAD and the new one, read on from number q -/
theorem ct_M_both_s (l : Launch) (dC : Nat → ClassId) (dI : Nat → Nat → Nat) (o ca cb : Nat) (cA : ClassId) (w1 : Int32) (n k : Nat) (f g : Nat → Int64) (v : Int64) (d y z q : Nat) (kn : Bool) (z1 z2 : Int64) (sz : Nat) (ih : ∀ d1, d = d1 + 1 → ∀ (y z q : Nat) (kn : Bool) (z1 z2 : Int64) (sz : Nat), 1 ≤ y → y ≤ z → z ≤ 2 ^ d1 → d1 ≤ 30 → q + tq_sl kn y z ≤ 100 → k ≤ 40 → tq_BO l dC dI o ca cb cA w1 n k f g v d1 y z q kn z1 z2 sz) (h0 : 1 ≤ y) (h1 : y ≤ z) (h2 : z ≤ 2 ^ d) (h3 : d ≤ 30) (h4 : q + tq_sl kn y z ≤ 100) (hk : k ≤ 40) : tq_BO l dC dI o ca cb cA w1 n k f g v d y z q kn z1 z2 sz := by
  refine Met.ofW (cc := qc_M_both) (maxL := 9) (ret := none) (by decide) rfl ?_
  intro p e s m args below meth c s₁ B hml hv
  obtain ⟨rfl, hsz, hP, hK, hD0⟩ := hv
  have hx := B.exec
  have hb := B.bytes
  have hr := B.returns
  have hts := atoms_spec (ws := qw_M_both) B.pre
  have hW : ∀ w ∈ tq_W, w.before ([.ref o, .int (nI y), .int (nI z), .int (tq_b kn), .long v] : List Value).toArray s = true := fun w h => hts w (List.mem_cons_of_mem _ h)
  have hown : s.vm.findClass RX1 = some m.cls := findClass_of_methodNamed B.named
  have hlocks := B.notSynchronized
  have hl := lv_entry ([.ref o, .int (nI y), .int (nI z), .int (tq_b kn), .long v]) (n := 9) (Nat.le_of_ble_eq_true rfl)
  rw [lg_entry_eq]
  generalize (lg_sl ([.ref o, .int (nI y), .int (nI z), .int (tq_b kn), .long v]) ++ List.replicate (9 - (lg_sl ([.ref o, .int (nI y), .int (nI z), .int (tq_b kn), .long v])).length) Slot.unset).toArray = ls at hl ⊢
  have hl : lv_has ls 9 [(0, .ref o), (1, .int (nI y)), (2, .int (nI z)), (3, .int (tq_b kn)), (4, .long v)] := hl
  subst hsz
  have hD := hD0.self (sz := s.heap.size)
  generalize hAe : va_A [(o, .inr (1, [.int w1, .int (nI n), .int (nI k), .int (nI q), .ref ca, .ref cb, .long z1, .long z2])), (ca, .inl (cA, (600, .inr (.inl f)))), (cb, .inl (cA, (40, .inr (.inl g))))] s.heap.size = A at hD ⊢
  have hA : ∀ q : Nat, s.heap.size ≤ q → A q := fun q h => by rw [← hAe]; exact Or.inr h
  have hS : va_S A s.heap s.heap [] := va_S.rf
  have hn30 : z ≤ 2 ^ 30 := Nat.le_trans h2 (Nat.pow_le_pow_right (by decide) h3)
  refine lv_iload_n hx hb qd_M_both_0 rfl (lv_at hl 1 rfl) ?_
  refine lv_iload_n hx hb qd_M_both_1 rfl (lv_at hl 2 rfl) ?_
  refine tq_icmp_ne (x := y) (y := z) (tgt := 31) hx hb qd_M_both_2 (by decide) (by omega) (by omega) (fun c9 => ?_) (fun c9 => ?_)
  · obtain ⟨d1, rfl⟩ : ∃ d1, d = d1 + 1 := by
      cases d with
      | zero => omega
      | succ d1 => exact ⟨d1, rfl⟩
    have hlt := tq_pb_lt (n := z) (by omega)
    have hps := tq_pb_pos z
    have hh := tq_pb_half h2 (by omega)
    have hrr := tq_pb_rest h2 (by omega)
    refine lv_iload_n hx hb qd_M_both_31 rfl (lv_at hl 2 rfl) ?_
    refine vp_callSi (W.runS (As := [.int (nI z)]) (rest := []) ⟨hx, hb, hml, hown, hW⟩ (ct_M_below l z (by omega) (by omega)) (cwS 1 hW (tq_gS qm_335 qm_336 qm_2 qm_337) rfl rfl rfl (by decide +kernel) ⟨(show 0 + 1 ≤ d1 + 1 + 2 from by omega), (show 8 + (2 + 11) + (0) ≤ 28 * (d1 + 1) + 50 from by omega)⟩) ⟨tq_b0, fun U hU hW9 => ⟨rfl, trivial⟩⟩ rfl rfl hl.1 rfl (lv_room (Nat.le_of_ble_eq_true rfl)) qd_M_both_32 ⟨Nat.le_of_ble_eq_true rfl, Nat.le_of_ble_eq_true rfl⟩) (fun r9 e9 => ?_)
    subst e9
    refine lv_istore (lv' := [(6, .int (nI (tq_pb z))), (0, .ref o), (1, .int (nI y)), (2, .int (nI z)), (3, .int (tq_b kn)), (4, .long v)]) hx hb qd_M_both_35 hl (by decide) rfl (fun ls hl => ?_)
    refine lv_iload_n hx hb qd_M_both_37 rfl (lv_at hl 2 rfl) ?_
    refine lv_iload hx hb qd_M_both_38 (lv_at hl 0 rfl) ?_
    refine tq_icmp_gt (x := y) (y := (tq_pb z)) (tgt := 71) hx hb qd_M_both_40 (by decide) (by omega) (by omega) (fun c1 => ?_) (fun c1 => ?_)
    · have e4 := tq_sl_r (b := kn) (m := y) (n := z) (by omega) c1 c9
      refine lv_aload_n hx hb qd_M_both_71 rfl (lv_at hl 1 rfl) ?_
      refine lv_iload_n hx hb qd_M_both_72 rfl (lv_at hl 2 rfl) ?_
      refine lv_iload hx hb qd_M_both_73 (lv_at hl 0 rfl) ?_
      refine lv_isub hx hb qd_M_both_75 ?_
      refine tq_ti (y := nI (y - tq_pb z)) (pk_sub (by omega)) ?_
      refine lv_iload_n hx hb qd_M_both_76 rfl (lv_at hl 3 rfl) ?_
      refine lv_iload hx hb qd_M_both_77 (lv_at hl 0 rfl) ?_
      refine lv_isub hx hb qd_M_both_79 ?_
      refine tq_ti (y := nI (z - tq_pb z)) (pk_sub (by omega)) ?_
      refine lv_iconst (v := nI 0) hx hb qd_M_both_80 (by decide +kernel) ?_
      refine tq_ti (y := tq_b false) (rfl) ?_
      refine lv_lload hx hb qd_M_both_81 (lv_at hl 5 rfl) ?_
      have hPc := hP.sub (ws' := [(o, .inr (1, [.int w1, .int (nI n), .int (nI k), .int (nI q), .ref ca, .ref cb, .long z1, .long z2])), (ca, .inl (cA, (600, .inr (.inl f)))), (cb, .inl (cA, (40, .inr (.inl g))))]) [0, 1, 2] rfl
      have hDc := hD.sub (ws' := [(o, .inr (1, [.int w1, .int (nI n), .int (nI k), .int (nI q), .ref ca, .ref cb, .long z1, .long z2])), (ca, .inl (cA, (600, .inr (.inl f)))), (cb, .inl (cA, (40, .inr (.inl g))))]) [0, 1, 2] (by decide) rfl
      have hKc := hK.sub (tys' := [(cA, .long)]) [0] rfl
      have hFc := va_free (wc := [(o, .inr (1, [.int w1, .int (nI n), .int (nI k), .int (nI q), .ref ca, .ref cb, .long z1, .long z2])), (ca, .inl (cA, (600, .inr (.inl f)))), (cb, .inl (cA, (40, .inr (.inl g))))]) hD hS hA [0, 1, 2] rfl
      refine va_callv (va_runV (As := [.int (nI (y - tq_pb z)), .int (nI (z - tq_pb z)), .int (tq_b false), .long v]) (rest := []) ⟨hx, hb, hml, hown, hW⟩ (ih d1 rfl (y - tq_pb z) (z - tq_pb z) q false z1 z2 s.heap.size (by omega) (by omega) hrr (by omega) (by omega) hk) (cwV 4 hW (tq_gV qm_395 qm_397 qs_M_both qm_2 qm_398) rfl rfl rfl (by decide +kernel) ⟨(show d1 + 2 + 1 ≤ d1 + 1 + 2 from by omega), (show 8 + (9 + 11) + (28 * d1 + 50) ≤ 28 * (d1 + 1) + 50 from by omega)⟩) ⟨tq_b2, va_recv hKc hPc (ci := 1) (q0 := 0) rfl rfl, fun U hU hW9 => ⟨rfl, by rw [hU], by rw [hU]; exact hPc, va_K.moved hW9.alike hKc, hDc.weaken (fun _ _ _ _ => trivial)⟩⟩ rfl rfl hl.1 rfl (lv_room (Nat.le_of_ble_eq_true rfl)) qd_M_both_83 ⟨Nat.le_of_ble_eq_true rfl, Nat.le_of_ble_eq_true rfl⟩) hS (fun q _ h => hFc q h) hFc (fun u t9 H1 locs ht9 hvm hw hB hz1 hk1 hS => ?_)
      obtain ⟨hP1, hK1, hD1⟩ := hB
      rw [ht9] at hP1
      obtain ⟨hP, hD⟩ := va_join (wr := []) (w1 := [(o, .inr (1, [.int w1, .int (nI n), .int (nI k), .int (nI (q + tq_sl false (y - tq_pb z) (z - tq_pb z))), .ref ca, .ref cb, .long (tq_od (fun j => tq_q g k (q + j)) false (y - tq_pb z) (z - tq_pb z) v), .long (tq_nw (fun j => tq_q g k (q + j)) false (y - tq_pb z) (z - tq_pb z) v)])), (ca, .inl (cA, (600, .inr (.inl f)))), (cb, .inl (cA, (40, .inr (.inl g))))]) hP hD [0, 1, 2] [] rfl rfl (by decide) (by decide) hk1 hFc hP1 hD1
      generalize H1 = H at hP hS ⊢
      have hP : va_P (dC, dI) tq_cl [(o, .inr (1, [.int w1, .int (nI n), .int (nI k), .int (nI (q + tq_sl false (y - tq_pb z) (z - tq_pb z))), .ref ca, .ref cb, .long (tq_od (fun j => tq_q g k (q + j)) false (y - tq_pb z) (z - tq_pb z) v), .long (tq_nw (fun j => tq_q g k (q + j)) false (y - tq_pb z) (z - tq_pb z) v)])), (ca, .inl (cA, (600, .inr (.inl f)))), (cb, .inl (cA, (40, .inr (.inl g))))] H := hP
      have hD : va_D A [(o, .inr (1, [.int w1, .int (nI n), .int (nI k), .int (nI (q + tq_sl false (y - tq_pb z) (z - tq_pb z))), .ref ca, .ref cb, .long (tq_od (fun j => tq_q g k (q + j)) false (y - tq_pb z) (z - tq_pb z) v), .long (tq_nw (fun j => tq_q g k (q + j)) false (y - tq_pb z) (z - tq_pb z) v)])), (ca, .inl (cA, (600, .inr (.inl f)))), (cb, .inl (cA, (40, .inr (.inl g))))] := hD
      refine lv_aload_n hx hb qd_M_both_86 rfl (lv_at hl 1 rfl) ?_
      have hPc := hP.sub (ws' := [(o, .inr (1, [.int w1, .int (nI n), .int (nI k), .int (nI (q + tq_sl false (y - tq_pb z) (z - tq_pb z))), .ref ca, .ref cb, .long (tq_od (fun j => tq_q g k (q + j)) false (y - tq_pb z) (z - tq_pb z) v), .long (tq_nw (fun j => tq_q g k (q + j)) false (y - tq_pb z) (z - tq_pb z) v)])), (ca, .inl (cA, (600, .inr (.inl f)))), (cb, .inl (cA, (40, .inr (.inl g))))]) [0, 1, 2] rfl
      have hDc := hD.sub (ws' := [(o, .inr (1, [.int w1, .int (nI n), .int (nI k), .int (nI (q + tq_sl false (y - tq_pb z) (z - tq_pb z))), .ref ca, .ref cb, .long (tq_od (fun j => tq_q g k (q + j)) false (y - tq_pb z) (z - tq_pb z) v), .long (tq_nw (fun j => tq_q g k (q + j)) false (y - tq_pb z) (z - tq_pb z) v)])), (ca, .inl (cA, (600, .inr (.inl f)))), (cb, .inl (cA, (40, .inr (.inl g))))]) [0, 1, 2] (by decide) rfl
      have hKc := hK.sub (tys' := [(cA, .long)]) [0] rfl
      have hFc := va_free (wc := [(o, .inr (1, [.int w1, .int (nI n), .int (nI k), .int (nI (q + tq_sl false (y - tq_pb z) (z - tq_pb z))), .ref ca, .ref cb, .long (tq_od (fun j => tq_q g k (q + j)) false (y - tq_pb z) (z - tq_pb z) v), .long (tq_nw (fun j => tq_q g k (q + j)) false (y - tq_pb z) (z - tq_pb z) v)])), (ca, .inl (cA, (600, .inr (.inl f)))), (cb, .inl (cA, (40, .inr (.inl g))))]) hD hS hA [0, 1, 2] rfl
      refine va_calll (va_runV (As := []) (rest := []) ⟨hx, hb, hml, hown, hW⟩ (ct_M_next l dC dI o ca cb cA w1 n k (tq_od (fun j => tq_q g k (q + j)) false (y - tq_pb z) (z - tq_pb z) v) (tq_nw (fun j => tq_q g k (q + j)) false (y - tq_pb z) (z - tq_pb z) v) f g H.size ((q + tq_sl false (y - tq_pb z) (z - tq_pb z))) (by omega) (by omega)) (cwV 0 hW (tq_gV qm_387 qm_389 qs_M_next qm_2 qm_390) rfl rfl rfl (by decide +kernel) ⟨(show 0 + 1 ≤ d1 + 1 + 2 from by omega), (show 8 + (1 + 11) + (0) ≤ 28 * (d1 + 1) + 50 from by omega)⟩) ⟨tq_b2, va_recv hKc hPc (ci := 1) (q0 := 0) rfl rfl, fun U hU hW9 => ⟨rfl, by rw [hU], by rw [hU]; exact hPc, va_K.moved hW9.alike hKc, hDc.weaken (fun _ _ _ _ => trivial)⟩⟩ rfl rfl hl.1 rfl (lv_room (Nat.le_of_ble_eq_true rfl)) qd_M_both_87 ⟨Nat.le_of_ble_eq_true rfl, Nat.le_of_ble_eq_true rfl⟩) hS (fun q _ h => hFc q h) hFc (fun r9 u t9 H1 locs ht9 hvm hw hB hz1 hk1 hS => ?_)
      obtain ⟨hP1, hK1, hD1⟩ := hB
      rw [ht9] at hP1
      obtain ⟨hP, hD⟩ := va_join (wr := []) (w1 := [(o, .inr (1, [.int w1, .int (nI n), .int (nI k), .int (nI (((q + tq_sl false (y - tq_pb z) (z - tq_pb z))) + 1)), .ref ca, .ref cb, .long (tq_od (fun j => tq_q g k (q + j)) false (y - tq_pb z) (z - tq_pb z) v), .long (tq_nw (fun j => tq_q g k (q + j)) false (y - tq_pb z) (z - tq_pb z) v)])), (ca, .inl (cA, (600, .inr (.inl f)))), (cb, .inl (cA, (40, .inr (.inl g))))]) hP hD [0, 1, 2] [] rfl rfl (by decide) (by decide) hk1 hFc hP1 hD1
      generalize H1 = H at hP hS ⊢
      have hP : va_P (dC, dI) tq_cl [(o, .inr (1, [.int w1, .int (nI n), .int (nI k), .int (nI (((q + tq_sl false (y - tq_pb z) (z - tq_pb z))) + 1)), .ref ca, .ref cb, .long (tq_od (fun j => tq_q g k (q + j)) false (y - tq_pb z) (z - tq_pb z) v), .long (tq_nw (fun j => tq_q g k (q + j)) false (y - tq_pb z) (z - tq_pb z) v)])), (ca, .inl (cA, (600, .inr (.inl f)))), (cb, .inl (cA, (40, .inr (.inl g))))] H := hP
      have hD : va_D A [(o, .inr (1, [.int w1, .int (nI n), .int (nI k), .int (nI (((q + tq_sl false (y - tq_pb z) (z - tq_pb z))) + 1)), .ref ca, .ref cb, .long (tq_od (fun j => tq_q g k (q + j)) false (y - tq_pb z) (z - tq_pb z) v), .long (tq_nw (fun j => tq_q g k (q + j)) false (y - tq_pb z) (z - tq_pb z) v)])), (ca, .inl (cA, (600, .inr (.inl f)))), (cb, .inl (cA, (40, .inr (.inl g))))] := hD
      have hw : r9 = tq_q g k ((q + tq_sl false (y - tq_pb z) (z - tq_pb z))) := hw
      subst hw
      refine lv_lstore (lv' := [(7, .long (tq_q g k ((q + tq_sl false (y - tq_pb z) (z - tq_pb z))))), (6, .int (nI (tq_pb z))), (0, .ref o), (1, .int (nI y)), (2, .int (nI z)), (3, .int (tq_b kn)), (4, .long v)]) hx hb qd_M_both_90 hl (by decide) rfl (fun ls hl => ?_)
      refine lv_aload_n hx hb qd_M_both_92 rfl (lv_at hl 2 rfl) ?_
      refine lv_lload hx hb qd_M_both_93 (lv_at hl 0 rfl) ?_
      refine lv_aload_n hx hb qd_M_both_95 rfl (lv_at hl 2 rfl) ?_
      refine va_get (D := (dC, dI)) (ci := 1) (v := .long (tq_od (fun j => tq_q g k (q + j)) false (y - tq_pb z) (z - tq_pb z) v)) (C := RX1) (T := TX1) (N := 8) hx hb hW inX1 hown hK hP 0 rfl rfl 6 (by decide) (hW _ qm_287) (fun _ h9 => h9) rfl qd_M_both_96 ?_
      refine vp_callSl (W.runS (As := [.long (tq_q g k ((q + tq_sl false (y - tq_pb z) (z - tq_pb z)))), .long (tq_od (fun j => tq_q g k (q + j)) false (y - tq_pb z) (z - tq_pb z) v)]) (rest := [.ref o]) ⟨hx, hb, hml, hown, hW⟩ (ct_M_node l (tq_q g k ((q + tq_sl false (y - tq_pb z) (z - tq_pb z)))) (tq_od (fun j => tq_q g k (q + j)) false (y - tq_pb z) (z - tq_pb z) v)) (cwS 2 hW (tq_gS qm_338 qm_339 qm_2 qm_340) rfl rfl rfl (by decide +kernel) ⟨(show 1 + 1 ≤ d1 + 1 + 2 from by omega), (show 8 + (4 + 11) + (27) ≤ 28 * (d1 + 1) + 50 from by omega)⟩) ⟨tq_b0, fun U hU hW9 => ⟨rfl, trivial⟩⟩ rfl rfl hl.1 rfl (lv_room (Nat.le_of_ble_eq_true rfl)) qd_M_both_99 ⟨Nat.le_of_ble_eq_true rfl, Nat.le_of_ble_eq_true rfl⟩) (fun r9 e9 => ?_)
      subst e9
      refine va_put (D := (dC, dI)) (ci := 1) (v := .long (tq_node (tq_q g k ((q + tq_sl false (y - tq_pb z) (z - tq_pb z)))) (tq_od (fun j => tq_q g k (q + j)) false (y - tq_pb z) (z - tq_pb z) v))) (ty := .long) (C := RX1) (T := TX1) (N := 8) hx hb hW inX1 tyX1 tyX1_ok nmX1 hown hK hP hD hS 0 rfl rfl 6 (by decide) (hW _ qm_287) (fun _ h9 => h9) rfl (by decide +kernel) rfl rfl (Nat.le_of_ble_eq_true rfl) qd_M_both_102 (fun H locs hP hD hS => ?_)
      have hP : va_P (dC, dI) tq_cl [(o, .inr (1, [.int w1, .int (nI n), .int (nI k), .int (nI (((q + tq_sl false (y - tq_pb z) (z - tq_pb z))) + 1)), .ref ca, .ref cb, .long (tq_node (tq_q g k ((q + tq_sl false (y - tq_pb z) (z - tq_pb z)))) (tq_od (fun j => tq_q g k (q + j)) false (y - tq_pb z) (z - tq_pb z) v)), .long (tq_nw (fun j => tq_q g k (q + j)) false (y - tq_pb z) (z - tq_pb z) v)])), (ca, .inl (cA, (600, .inr (.inl f)))), (cb, .inl (cA, (40, .inr (.inl g))))] H := hP
      have hD : va_D A [(o, .inr (1, [.int w1, .int (nI n), .int (nI k), .int (nI (((q + tq_sl false (y - tq_pb z) (z - tq_pb z))) + 1)), .ref ca, .ref cb, .long (tq_node (tq_q g k ((q + tq_sl false (y - tq_pb z) (z - tq_pb z)))) (tq_od (fun j => tq_q g k (q + j)) false (y - tq_pb z) (z - tq_pb z) v)), .long (tq_nw (fun j => tq_q g k (q + j)) false (y - tq_pb z) (z - tq_pb z) v)])), (ca, .inl (cA, (600, .inr (.inl f)))), (cb, .inl (cA, (40, .inr (.inl g))))] := hD
      refine lv_aload_n hx hb qd_M_both_105 rfl (lv_at hl 2 rfl) ?_
      refine lv_lload hx hb qd_M_both_106 (lv_at hl 0 rfl) ?_
      refine lv_aload_n hx hb qd_M_both_108 rfl (lv_at hl 2 rfl) ?_
      refine va_get (D := (dC, dI)) (ci := 1) (v := .long (tq_nw (fun j => tq_q g k (q + j)) false (y - tq_pb z) (z - tq_pb z) v)) (C := RX1) (T := TX1) (N := 8) hx hb hW inX1 hown hK hP 0 rfl rfl 7 (by decide) (hW _ qm_288) (fun _ h9 => h9) rfl qd_M_both_109 ?_
      refine vp_callSl (W.runS (As := [.long (tq_q g k ((q + tq_sl false (y - tq_pb z) (z - tq_pb z)))), .long (tq_nw (fun j => tq_q g k (q + j)) false (y - tq_pb z) (z - tq_pb z) v)]) (rest := [.ref o]) ⟨hx, hb, hml, hown, hW⟩ (ct_M_node l (tq_q g k ((q + tq_sl false (y - tq_pb z) (z - tq_pb z)))) (tq_nw (fun j => tq_q g k (q + j)) false (y - tq_pb z) (z - tq_pb z) v)) (cwS 2 hW (tq_gS qm_338 qm_339 qm_2 qm_340) rfl rfl rfl (by decide +kernel) ⟨(show 1 + 1 ≤ d1 + 1 + 2 from by omega), (show 8 + (4 + 11) + (27) ≤ 28 * (d1 + 1) + 50 from by omega)⟩) ⟨tq_b0, fun U hU hW9 => ⟨rfl, trivial⟩⟩ rfl rfl hl.1 rfl (lv_room (Nat.le_of_ble_eq_true rfl)) qd_M_both_112 ⟨Nat.le_of_ble_eq_true rfl, Nat.le_of_ble_eq_true rfl⟩) (fun r9 e9 => ?_)
      subst e9
      refine va_put (D := (dC, dI)) (ci := 1) (v := .long (tq_node (tq_q g k ((q + tq_sl false (y - tq_pb z) (z - tq_pb z)))) (tq_nw (fun j => tq_q g k (q + j)) false (y - tq_pb z) (z - tq_pb z) v))) (ty := .long) (C := RX1) (T := TX1) (N := 8) hx hb hW inX1 tyX1 tyX1_ok nmX1 hown hK hP hD hS 0 rfl rfl 7 (by decide) (hW _ qm_288) (fun _ h9 => h9) rfl (by decide +kernel) rfl rfl (Nat.le_of_ble_eq_true rfl) qd_M_both_115 (fun H locs hP hD hS => ?_)
      have hP : va_P (dC, dI) tq_cl [(o, .inr (1, [.int w1, .int (nI n), .int (nI k), .int (nI (((q + tq_sl false (y - tq_pb z) (z - tq_pb z))) + 1)), .ref ca, .ref cb, .long (tq_node (tq_q g k ((q + tq_sl false (y - tq_pb z) (z - tq_pb z)))) (tq_od (fun j => tq_q g k (q + j)) false (y - tq_pb z) (z - tq_pb z) v)), .long (tq_node (tq_q g k ((q + tq_sl false (y - tq_pb z) (z - tq_pb z)))) (tq_nw (fun j => tq_q g k (q + j)) false (y - tq_pb z) (z - tq_pb z) v))])), (ca, .inl (cA, (600, .inr (.inl f)))), (cb, .inl (cA, (40, .inr (.inl g))))] H := hP
      have hD : va_D A [(o, .inr (1, [.int w1, .int (nI n), .int (nI k), .int (nI (((q + tq_sl false (y - tq_pb z) (z - tq_pb z))) + 1)), .ref ca, .ref cb, .long (tq_node (tq_q g k ((q + tq_sl false (y - tq_pb z) (z - tq_pb z)))) (tq_od (fun j => tq_q g k (q + j)) false (y - tq_pb z) (z - tq_pb z) v)), .long (tq_node (tq_q g k ((q + tq_sl false (y - tq_pb z) (z - tq_pb z)))) (tq_nw (fun j => tq_q g k (q + j)) false (y - tq_pb z) (z - tq_pb z) v))])), (ca, .inl (cA, (600, .inr (.inl f)))), (cb, .inl (cA, (40, .inr (.inl g))))] := hD
      rw [tq_sl_r (by omega) c1 c9, ← Nat.add_assoc, tq_od_r (by omega) c1 c9, tq_nw_r (by omega) c1 c9]
      exact W.vret hx hb hr (fun t ht hW9 => ⟨⟨(), rfl, trivial, by rw [ht]; exact hP, va_K.moved hW9.alike hK, hD⟩, hS.F ht⟩) hS.2.2 qd_M_both_118
    · have e4 := tq_sl_l (b := kn) (m := y) (n := z) (by omega) c1
      refine lv_aload_n hx hb qd_M_both_43 rfl (lv_at hl 1 rfl) ?_
      refine lv_iload_n hx hb qd_M_both_44 rfl (lv_at hl 2 rfl) ?_
      refine lv_iload hx hb qd_M_both_45 (lv_at hl 0 rfl) ?_
      refine lv_iload_n hx hb qd_M_both_47 rfl (lv_at hl 4 rfl) ?_
      refine lv_lload hx hb qd_M_both_48 (lv_at hl 5 rfl) ?_
      have hPc := hP.sub (ws' := [(o, .inr (1, [.int w1, .int (nI n), .int (nI k), .int (nI q), .ref ca, .ref cb, .long z1, .long z2])), (ca, .inl (cA, (600, .inr (.inl f)))), (cb, .inl (cA, (40, .inr (.inl g))))]) [0, 1, 2] rfl
      have hDc := hD.sub (ws' := [(o, .inr (1, [.int w1, .int (nI n), .int (nI k), .int (nI q), .ref ca, .ref cb, .long z1, .long z2])), (ca, .inl (cA, (600, .inr (.inl f)))), (cb, .inl (cA, (40, .inr (.inl g))))]) [0, 1, 2] (by decide) rfl
      have hKc := hK.sub (tys' := [(cA, .long)]) [0] rfl
      have hFc := va_free (wc := [(o, .inr (1, [.int w1, .int (nI n), .int (nI k), .int (nI q), .ref ca, .ref cb, .long z1, .long z2])), (ca, .inl (cA, (600, .inr (.inl f)))), (cb, .inl (cA, (40, .inr (.inl g))))]) hD hS hA [0, 1, 2] rfl
      refine va_callv (va_runV (As := [.int (nI y), .int (nI (tq_pb z)), .int (tq_b kn), .long v]) (rest := []) ⟨hx, hb, hml, hown, hW⟩ (ih d1 rfl y (tq_pb z) q kn z1 z2 s.heap.size h0 c1 hh (by omega) (by omega) hk) (cwV 4 hW (tq_gV qm_395 qm_397 qs_M_both qm_2 qm_398) rfl rfl rfl (by decide +kernel) ⟨(show d1 + 2 + 1 ≤ d1 + 1 + 2 from by omega), (show 8 + (9 + 11) + (28 * d1 + 50) ≤ 28 * (d1 + 1) + 50 from by omega)⟩) ⟨tq_b2, va_recv hKc hPc (ci := 1) (q0 := 0) rfl rfl, fun U hU hW9 => ⟨rfl, by rw [hU], by rw [hU]; exact hPc, va_K.moved hW9.alike hKc, hDc.weaken (fun _ _ _ _ => trivial)⟩⟩ rfl rfl hl.1 rfl (lv_room (Nat.le_of_ble_eq_true rfl)) qd_M_both_50 ⟨Nat.le_of_ble_eq_true rfl, Nat.le_of_ble_eq_true rfl⟩) hS (fun q _ h => hFc q h) hFc (fun u t9 H1 locs ht9 hvm hw hB hz1 hk1 hS => ?_)
      obtain ⟨hP1, hK1, hD1⟩ := hB
      rw [ht9] at hP1
      obtain ⟨hP, hD⟩ := va_join (wr := []) (w1 := [(o, .inr (1, [.int w1, .int (nI n), .int (nI k), .int (nI (q + tq_sl kn y (tq_pb z))), .ref ca, .ref cb, .long (tq_od (fun j => tq_q g k (q + j)) kn y (tq_pb z) v), .long (tq_nw (fun j => tq_q g k (q + j)) kn y (tq_pb z) v)])), (ca, .inl (cA, (600, .inr (.inl f)))), (cb, .inl (cA, (40, .inr (.inl g))))]) hP hD [0, 1, 2] [] rfl rfl (by decide) (by decide) hk1 hFc hP1 hD1
      generalize H1 = H at hP hS ⊢
      have hP : va_P (dC, dI) tq_cl [(o, .inr (1, [.int w1, .int (nI n), .int (nI k), .int (nI (q + tq_sl kn y (tq_pb z))), .ref ca, .ref cb, .long (tq_od (fun j => tq_q g k (q + j)) kn y (tq_pb z) v), .long (tq_nw (fun j => tq_q g k (q + j)) kn y (tq_pb z) v)])), (ca, .inl (cA, (600, .inr (.inl f)))), (cb, .inl (cA, (40, .inr (.inl g))))] H := hP
      have hD : va_D A [(o, .inr (1, [.int w1, .int (nI n), .int (nI k), .int (nI (q + tq_sl kn y (tq_pb z))), .ref ca, .ref cb, .long (tq_od (fun j => tq_q g k (q + j)) kn y (tq_pb z) v), .long (tq_nw (fun j => tq_q g k (q + j)) kn y (tq_pb z) v)])), (ca, .inl (cA, (600, .inr (.inl f)))), (cb, .inl (cA, (40, .inr (.inl g))))] := hD
      refine lv_aload_n hx hb qd_M_both_53 rfl (lv_at hl 1 rfl) ?_
      refine lv_aload_n hx hb qd_M_both_54 rfl (lv_at hl 1 rfl) ?_
      refine va_get (D := (dC, dI)) (ci := 1) (v := .long (tq_nw (fun j => tq_q g k (q + j)) kn y (tq_pb z) v)) (C := RX1) (T := TX1) (N := 8) hx hb hW inX1 hown hK hP 0 rfl rfl 7 (by decide) (hW _ qm_288) (fun _ h9 => h9) rfl qd_M_both_55 ?_
      refine lv_aload_n hx hb qd_M_both_58 rfl (lv_at hl 1 rfl) ?_
      have hPc := hP.sub (ws' := [(o, .inr (1, [.int w1, .int (nI n), .int (nI k), .int (nI (q + tq_sl kn y (tq_pb z))), .ref ca, .ref cb, .long (tq_od (fun j => tq_q g k (q + j)) kn y (tq_pb z) v), .long (tq_nw (fun j => tq_q g k (q + j)) kn y (tq_pb z) v)])), (ca, .inl (cA, (600, .inr (.inl f)))), (cb, .inl (cA, (40, .inr (.inl g))))]) [0, 1, 2] rfl
      have hDc := hD.sub (ws' := [(o, .inr (1, [.int w1, .int (nI n), .int (nI k), .int (nI (q + tq_sl kn y (tq_pb z))), .ref ca, .ref cb, .long (tq_od (fun j => tq_q g k (q + j)) kn y (tq_pb z) v), .long (tq_nw (fun j => tq_q g k (q + j)) kn y (tq_pb z) v)])), (ca, .inl (cA, (600, .inr (.inl f)))), (cb, .inl (cA, (40, .inr (.inl g))))]) [0, 1, 2] (by decide) rfl
      have hKc := hK.sub (tys' := [(cA, .long)]) [0] rfl
      have hFc := va_free (wc := [(o, .inr (1, [.int w1, .int (nI n), .int (nI k), .int (nI (q + tq_sl kn y (tq_pb z))), .ref ca, .ref cb, .long (tq_od (fun j => tq_q g k (q + j)) kn y (tq_pb z) v), .long (tq_nw (fun j => tq_q g k (q + j)) kn y (tq_pb z) v)])), (ca, .inl (cA, (600, .inr (.inl f)))), (cb, .inl (cA, (40, .inr (.inl g))))]) hD hS hA [0, 1, 2] rfl
      refine va_calll (va_runV (As := []) (rest := [.long (tq_nw (fun j => tq_q g k (q + j)) kn y (tq_pb z) v), .ref o]) ⟨hx, hb, hml, hown, hW⟩ (ct_M_next l dC dI o ca cb cA w1 n k (tq_od (fun j => tq_q g k (q + j)) kn y (tq_pb z) v) (tq_nw (fun j => tq_q g k (q + j)) kn y (tq_pb z) v) f g H.size ((q + tq_sl kn y (tq_pb z))) (by omega) (by omega)) (cwV 0 hW (tq_gV qm_387 qm_389 qs_M_next qm_2 qm_390) rfl rfl rfl (by decide +kernel) ⟨(show 0 + 1 ≤ d1 + 1 + 2 from by omega), (show 8 + (1 + 11) + (0) ≤ 28 * (d1 + 1) + 50 from by omega)⟩) ⟨tq_b2, va_recv hKc hPc (ci := 1) (q0 := 0) rfl rfl, fun U hU hW9 => ⟨rfl, by rw [hU], by rw [hU]; exact hPc, va_K.moved hW9.alike hKc, hDc.weaken (fun _ _ _ _ => trivial)⟩⟩ rfl rfl hl.1 rfl (lv_room (Nat.le_of_ble_eq_true rfl)) qd_M_both_59 ⟨Nat.le_of_ble_eq_true rfl, Nat.le_of_ble_eq_true rfl⟩) hS (fun q _ h => hFc q h) hFc (fun r9 u t9 H1 locs ht9 hvm hw hB hz1 hk1 hS => ?_)
      obtain ⟨hP1, hK1, hD1⟩ := hB
      rw [ht9] at hP1
      obtain ⟨hP, hD⟩ := va_join (wr := []) (w1 := [(o, .inr (1, [.int w1, .int (nI n), .int (nI k), .int (nI (((q + tq_sl kn y (tq_pb z))) + 1)), .ref ca, .ref cb, .long (tq_od (fun j => tq_q g k (q + j)) kn y (tq_pb z) v), .long (tq_nw (fun j => tq_q g k (q + j)) kn y (tq_pb z) v)])), (ca, .inl (cA, (600, .inr (.inl f)))), (cb, .inl (cA, (40, .inr (.inl g))))]) hP hD [0, 1, 2] [] rfl rfl (by decide) (by decide) hk1 hFc hP1 hD1
      generalize H1 = H at hP hS ⊢
      have hP : va_P (dC, dI) tq_cl [(o, .inr (1, [.int w1, .int (nI n), .int (nI k), .int (nI (((q + tq_sl kn y (tq_pb z))) + 1)), .ref ca, .ref cb, .long (tq_od (fun j => tq_q g k (q + j)) kn y (tq_pb z) v), .long (tq_nw (fun j => tq_q g k (q + j)) kn y (tq_pb z) v)])), (ca, .inl (cA, (600, .inr (.inl f)))), (cb, .inl (cA, (40, .inr (.inl g))))] H := hP
      have hD : va_D A [(o, .inr (1, [.int w1, .int (nI n), .int (nI k), .int (nI (((q + tq_sl kn y (tq_pb z))) + 1)), .ref ca, .ref cb, .long (tq_od (fun j => tq_q g k (q + j)) kn y (tq_pb z) v), .long (tq_nw (fun j => tq_q g k (q + j)) kn y (tq_pb z) v)])), (ca, .inl (cA, (600, .inr (.inl f)))), (cb, .inl (cA, (40, .inr (.inl g))))] := hD
      have hw : r9 = tq_q g k ((q + tq_sl kn y (tq_pb z))) := hw
      subst hw
      refine vp_callSl (W.runS (As := [.long (tq_nw (fun j => tq_q g k (q + j)) kn y (tq_pb z) v), .long (tq_q g k ((q + tq_sl kn y (tq_pb z))))]) (rest := [.ref o]) ⟨hx, hb, hml, hown, hW⟩ (ct_M_node l (tq_nw (fun j => tq_q g k (q + j)) kn y (tq_pb z) v) (tq_q g k ((q + tq_sl kn y (tq_pb z))))) (cwS 2 hW (tq_gS qm_338 qm_339 qm_2 qm_340) rfl rfl rfl (by decide +kernel) ⟨(show 1 + 1 ≤ d1 + 1 + 2 from by omega), (show 8 + (4 + 11) + (27) ≤ 28 * (d1 + 1) + 50 from by omega)⟩) ⟨tq_b0, fun U hU hW9 => ⟨rfl, trivial⟩⟩ rfl rfl hl.1 rfl (lv_room (Nat.le_of_ble_eq_true rfl)) qd_M_both_62 ⟨Nat.le_of_ble_eq_true rfl, Nat.le_of_ble_eq_true rfl⟩) (fun r9 e9 => ?_)
      subst e9
      refine va_put (D := (dC, dI)) (ci := 1) (v := .long (tq_node (tq_nw (fun j => tq_q g k (q + j)) kn y (tq_pb z) v) (tq_q g k ((q + tq_sl kn y (tq_pb z)))))) (ty := .long) (C := RX1) (T := TX1) (N := 8) hx hb hW inX1 tyX1 tyX1_ok nmX1 hown hK hP hD hS 0 rfl rfl 7 (by decide) (hW _ qm_288) (fun _ h9 => h9) rfl (by decide +kernel) rfl rfl (Nat.le_of_ble_eq_true rfl) qd_M_both_65 (fun H locs hP hD hS => ?_)
      have hP : va_P (dC, dI) tq_cl [(o, .inr (1, [.int w1, .int (nI n), .int (nI k), .int (nI (((q + tq_sl kn y (tq_pb z))) + 1)), .ref ca, .ref cb, .long (tq_od (fun j => tq_q g k (q + j)) kn y (tq_pb z) v), .long (tq_node (tq_nw (fun j => tq_q g k (q + j)) kn y (tq_pb z) v) (tq_q g k ((q + tq_sl kn y (tq_pb z)))))])), (ca, .inl (cA, (600, .inr (.inl f)))), (cb, .inl (cA, (40, .inr (.inl g))))] H := hP
      have hD : va_D A [(o, .inr (1, [.int w1, .int (nI n), .int (nI k), .int (nI (((q + tq_sl kn y (tq_pb z))) + 1)), .ref ca, .ref cb, .long (tq_od (fun j => tq_q g k (q + j)) kn y (tq_pb z) v), .long (tq_node (tq_nw (fun j => tq_q g k (q + j)) kn y (tq_pb z) v) (tq_q g k ((q + tq_sl kn y (tq_pb z)))))])), (ca, .inl (cA, (600, .inr (.inl f)))), (cb, .inl (cA, (40, .inr (.inl g))))] := hD
      refine lv_goto (tgt := 118) hx hb qd_M_both_68 (by decide) ?_
      rw [tq_sl_l (by omega) c1, ← Nat.add_assoc, tq_od_l (by omega) c1, tq_nw_l (by omega) c1]
      exact W.vret hx hb hr (fun t ht hW9 => ⟨⟨(), rfl, trivial, by rw [ht]; exact hP, va_K.moved hW9.alike hK, hD⟩, hS.F ht⟩) hS.2.2 qd_M_both_118
  · subst c9
    cases kn with
    | true =>
      refine lv_aload_n hx hb qd_M_both_5 rfl (lv_at hl 0 rfl) ?_
      refine lv_iload_n hx hb qd_M_both_6 rfl (lv_at hl 3 rfl) ?_
      refine tq_ti (y := nI 1) (rfl) ?_
      refine tq_if_eq (x := 1) (tgt := 15) hx hb qd_M_both_7 (by decide) (by omega) (fun c9 => by omega) (fun c9 => ?_)
      refine lv_lload hx hb qd_M_both_10 (lv_at hl 4 rfl) ?_
      refine lv_goto (tgt := 19) hx hb qd_M_both_12 (by decide) ?_
      refine va_put (D := (dC, dI)) (ci := 1) (v := .long v) (ty := .long) (C := RX1) (T := TX1) (N := 8) hx hb hW inX1 tyX1 tyX1_ok nmX1 hown hK hP hD hS 0 rfl rfl 6 (by decide) (hW _ qm_287) (fun _ h9 => h9) rfl (by decide +kernel) rfl rfl (Nat.le_of_ble_eq_true rfl) qd_M_both_19 (fun H locs hP hD hS => ?_)
      have hP : va_P (dC, dI) tq_cl [(o, .inr (1, [.int w1, .int (nI n), .int (nI k), .int (nI q), .ref ca, .ref cb, .long v, .long z2])), (ca, .inl (cA, (600, .inr (.inl f)))), (cb, .inl (cA, (40, .inr (.inl g))))] H := hP
      have hD : va_D A [(o, .inr (1, [.int w1, .int (nI n), .int (nI k), .int (nI q), .ref ca, .ref cb, .long v, .long z2])), (ca, .inl (cA, (600, .inr (.inl f)))), (cb, .inl (cA, (40, .inr (.inl g))))] := hD
      refine lv_aload_n hx hb qd_M_both_22 rfl (lv_at hl 0 rfl) ?_
      refine lv_aload_n hx hb qd_M_both_23 rfl (lv_at hl 0 rfl) ?_
      refine va_get (D := (dC, dI)) (ci := 1) (v := .long v) (C := RX1) (T := TX1) (N := 8) hx hb hW inX1 hown hK hP 0 rfl rfl 6 (by decide) (hW _ qm_287) (fun _ h9 => h9) rfl qd_M_both_24 ?_
      refine va_put (D := (dC, dI)) (ci := 1) (v := .long v) (ty := .long) (C := RX1) (T := TX1) (N := 8) hx hb hW inX1 tyX1 tyX1_ok nmX1 hown hK hP hD hS 0 rfl rfl 7 (by decide) (hW _ qm_288) (fun _ h9 => h9) rfl (by decide +kernel) rfl rfl (Nat.le_of_ble_eq_true rfl) qd_M_both_27 (fun H locs hP hD hS => ?_)
      have hP : va_P (dC, dI) tq_cl [(o, .inr (1, [.int w1, .int (nI n), .int (nI k), .int (nI q), .ref ca, .ref cb, .long v, .long v])), (ca, .inl (cA, (600, .inr (.inl f)))), (cb, .inl (cA, (40, .inr (.inl g))))] H := hP
      have hD : va_D A [(o, .inr (1, [.int w1, .int (nI n), .int (nI k), .int (nI q), .ref ca, .ref cb, .long v, .long v])), (ca, .inl (cA, (600, .inr (.inl f)))), (cb, .inl (cA, (40, .inr (.inl g))))] := hD
      rw [tq_sl_e, tq_od_e, tq_nw_e]
      exact W.vret hx hb hr (fun t ht hW9 => ⟨⟨(), rfl, trivial, by rw [ht]; exact hP, va_K.moved hW9.alike hK, hD⟩, hS.F ht⟩) hS.2.2 qd_M_both_30
    | false =>
      rw [tq_sl_e] at h4
      have h4 : q + 1 ≤ 100 := h4
      refine lv_aload_n hx hb qd_M_both_5 rfl (lv_at hl 0 rfl) ?_
      refine lv_iload_n hx hb qd_M_both_6 rfl (lv_at hl 3 rfl) ?_
      refine tq_ti (y := nI 0) (rfl) ?_
      refine tq_if_eq (x := 0) (tgt := 15) hx hb qd_M_both_7 (by decide) (by omega) (fun c9 => ?_) (fun c9 => by omega)
      refine lv_aload_n hx hb qd_M_both_15 rfl (lv_at hl 0 rfl) ?_
      have hPc := hP.sub (ws' := [(o, .inr (1, [.int w1, .int (nI n), .int (nI k), .int (nI q), .ref ca, .ref cb, .long z1, .long z2])), (ca, .inl (cA, (600, .inr (.inl f)))), (cb, .inl (cA, (40, .inr (.inl g))))]) [0, 1, 2] rfl
      have hDc := hD.sub (ws' := [(o, .inr (1, [.int w1, .int (nI n), .int (nI k), .int (nI q), .ref ca, .ref cb, .long z1, .long z2])), (ca, .inl (cA, (600, .inr (.inl f)))), (cb, .inl (cA, (40, .inr (.inl g))))]) [0, 1, 2] (by decide) rfl
      have hKc := hK.sub (tys' := [(cA, .long)]) [0] rfl
      have hFc := va_free (wc := [(o, .inr (1, [.int w1, .int (nI n), .int (nI k), .int (nI q), .ref ca, .ref cb, .long z1, .long z2])), (ca, .inl (cA, (600, .inr (.inl f)))), (cb, .inl (cA, (40, .inr (.inl g))))]) hD hS hA [0, 1, 2] rfl
      refine va_calll (va_runV (As := []) (rest := [.ref o]) ⟨hx, hb, hml, hown, hW⟩ (ct_M_next l dC dI o ca cb cA w1 n k z1 z2 f g s.heap.size q (by omega) (by omega)) (cwV 0 hW (tq_gV qm_387 qm_389 qs_M_next qm_2 qm_390) rfl rfl rfl (by decide +kernel) ⟨(show 0 + 1 ≤ d + 2 from by omega), (show 8 + (1 + 11) + (0) ≤ 28 * d + 50 from by omega)⟩) ⟨tq_b2, va_recv hKc hPc (ci := 1) (q0 := 0) rfl rfl, fun U hU hW9 => ⟨rfl, by rw [hU], by rw [hU]; exact hPc, va_K.moved hW9.alike hKc, hDc.weaken (fun _ _ _ _ => trivial)⟩⟩ rfl rfl hl.1 rfl (lv_room (Nat.le_of_ble_eq_true rfl)) qd_M_both_16 ⟨Nat.le_of_ble_eq_true rfl, Nat.le_of_ble_eq_true rfl⟩) hS (fun q _ h => hFc q h) hFc (fun r9 u t9 H1 locs ht9 hvm hw hB hz1 hk1 hS => ?_)
      obtain ⟨hP1, hK1, hD1⟩ := hB
      rw [ht9] at hP1
      obtain ⟨hP, hD⟩ := va_join (wr := []) (w1 := [(o, .inr (1, [.int w1, .int (nI n), .int (nI k), .int (nI (q + 1)), .ref ca, .ref cb, .long z1, .long z2])), (ca, .inl (cA, (600, .inr (.inl f)))), (cb, .inl (cA, (40, .inr (.inl g))))]) hP hD [0, 1, 2] [] rfl rfl (by decide) (by decide) hk1 hFc hP1 hD1
      generalize H1 = H at hP hS ⊢
      have hP : va_P (dC, dI) tq_cl [(o, .inr (1, [.int w1, .int (nI n), .int (nI k), .int (nI (q + 1)), .ref ca, .ref cb, .long z1, .long z2])), (ca, .inl (cA, (600, .inr (.inl f)))), (cb, .inl (cA, (40, .inr (.inl g))))] H := hP
      have hD : va_D A [(o, .inr (1, [.int w1, .int (nI n), .int (nI k), .int (nI (q + 1)), .ref ca, .ref cb, .long z1, .long z2])), (ca, .inl (cA, (600, .inr (.inl f)))), (cb, .inl (cA, (40, .inr (.inl g))))] := hD
      have hw : r9 = tq_q g k q := hw
      subst hw
      refine va_put (D := (dC, dI)) (ci := 1) (v := .long (tq_q g k q)) (ty := .long) (C := RX1) (T := TX1) (N := 8) hx hb hW inX1 tyX1 tyX1_ok nmX1 hown hK hP hD hS 0 rfl rfl 6 (by decide) (hW _ qm_287) (fun _ h9 => h9) rfl (by decide +kernel) rfl rfl (Nat.le_of_ble_eq_true rfl) qd_M_both_19 (fun H locs hP hD hS => ?_)
      have hP : va_P (dC, dI) tq_cl [(o, .inr (1, [.int w1, .int (nI n), .int (nI k), .int (nI (q + 1)), .ref ca, .ref cb, .long (tq_q g k q), .long z2])), (ca, .inl (cA, (600, .inr (.inl f)))), (cb, .inl (cA, (40, .inr (.inl g))))] H := hP
      have hD : va_D A [(o, .inr (1, [.int w1, .int (nI n), .int (nI k), .int (nI (q + 1)), .ref ca, .ref cb, .long (tq_q g k q), .long z2])), (ca, .inl (cA, (600, .inr (.inl f)))), (cb, .inl (cA, (40, .inr (.inl g))))] := hD
      refine lv_aload_n hx hb qd_M_both_22 rfl (lv_at hl 0 rfl) ?_
      refine lv_aload_n hx hb qd_M_both_23 rfl (lv_at hl 0 rfl) ?_
      refine va_get (D := (dC, dI)) (ci := 1) (v := .long (tq_q g k q)) (C := RX1) (T := TX1) (N := 8) hx hb hW inX1 hown hK hP 0 rfl rfl 6 (by decide) (hW _ qm_287) (fun _ h9 => h9) rfl qd_M_both_24 ?_
      refine va_put (D := (dC, dI)) (ci := 1) (v := .long (tq_q g k q)) (ty := .long) (C := RX1) (T := TX1) (N := 8) hx hb hW inX1 tyX1 tyX1_ok nmX1 hown hK hP hD hS 0 rfl rfl 7 (by decide) (hW _ qm_288) (fun _ h9 => h9) rfl (by decide +kernel) rfl rfl (Nat.le_of_ble_eq_true rfl) qd_M_both_27 (fun H locs hP hD hS => ?_)
      have hP : va_P (dC, dI) tq_cl [(o, .inr (1, [.int w1, .int (nI n), .int (nI k), .int (nI (q + 1)), .ref ca, .ref cb, .long (tq_q g k q), .long (tq_q g k q)])), (ca, .inl (cA, (600, .inr (.inl f)))), (cb, .inl (cA, (40, .inr (.inl g))))] H := hP
      have hD : va_D A [(o, .inr (1, [.int w1, .int (nI n), .int (nI k), .int (nI (q + 1)), .ref ca, .ref cb, .long (tq_q g k q), .long (tq_q g k q)])), (ca, .inl (cA, (600, .inr (.inl f)))), (cb, .inl (cA, (40, .inr (.inl g))))] := hD
      rw [tq_sl_e, tq_od_e, tq_nw_e]
      exact W.vret hx hb hr (fun t ht hW9 => ⟨⟨(), rfl, trivial, by rw [ht]; exact hP, va_K.moved hW9.alike hK, hD⟩, hS.F ht⟩) hS.2.2 qd_M_both_30
theorem ct_M_both (l : Launch) (dC : Nat → ClassId) (dI : Nat → Nat → Nat) (o ca cb : Nat) (cA : ClassId) (w1 : Int32) (n k : Nat) (f g : Nat → Int64) (v : Int64) : ∀ (d y z q : Nat) (kn : Bool) (z1 z2 : Int64) (sz : Nat), 1 ≤ y → y ≤ z → z ≤ 2 ^ d → d ≤ 30 → q + tq_sl kn y z ≤ 100 → k ≤ 40 → tq_BO l dC dI o ca cb cA w1 n k f g v d y z q kn z1 z2 sz
  | 0, y, z, q, kn, z1, z2, sz, h0, h1, h2, h3, h4, hk => ct_M_both_s l dC dI o ca cb cA w1 n k f g v 0 y z q kn z1 z2 sz (fun d1 h => by omega) h0 h1 h2 h3 h4 hk
  | d + 1, y, z, q, kn, z1, z2, sz, h0, h1, h2, h3, h4, hk => ct_M_both_s l dC dI o ca cb cA w1 n k f g v (d + 1) y z q kn z1 z2 sz (fun d1 h y z q kn z1 z2 sz a0 a1 a2 a3 a4 a5 => by cases h; exact ct_M_both l dC dI o ca cb cA w1 n k f g v d y z q kn z1 z2 sz a0 a1 a2 a3 a4 a5) h0 h1 h2 h3 h4 hk
set_option maxHeartbeats 4000000 in
set_option maxRecDepth 100000 in
theorem ct_M_grew (l : Launch) (dC : Nat → ClassId) (dI : Nat → Nat → Nat) (o ca cb : Nat) (cA : ClassId) (w1 : Int32) (n k : Nat) (w4 : Int32) (z1 z2 : Int64) (f g : Nat → Int64) (sz : Nat) (i j : Nat) (v hd : Int64) (h0 : 1 ≤ i) (h1 : i ≤ j) (h2 : j ≤ 2 ^ 30) (hk : k ≤ 40) : Met l qy_M_grew qw_M_grew ({ frames := 33, cells := 0, slots := 0, locals := 930 }) (va_Pc [.ref o, .int (nI i), .int (nI j), .long v, .long hd] (tq_rw (dC, dI) [(o, .inr (1, [.int w1, .int (nI n), .int (nI k), .int w4, .ref ca, .ref cb, .long z1, .long z2])), (ca, .inl (cA, (600, .inr (.inl f)))), (cb, .inl (cA, (40, .inr (.inl g))))] [(cA, .long)] sz)) (va_Qi (fun r (_ : Unit) => r = tq_b (decide (0 + tq_sl true i j = k) && (decide (tq_od (fun q => tq_q g k (0 + q)) true i j v = v) && decide (tq_nw (fun q => tq_q g k (0 + q)) true i j v = hd)))) (fun _ t => tq_in (dC, dI) [(o, .inr (1, [.int (nI 0), .int (nI n), .int (nI k), .int (nI (0 + tq_sl true i j)), .ref ca, .ref cb, .long (tq_od (fun q => tq_q g k (0 + q)) true i j v), .long (tq_nw (fun q => tq_q g k (0 + q)) true i j v)])), (ca, .inl (cA, (600, .inr (.inl f)))), (cb, .inl (cA, (40, .inr (.inl g))))] [(cA, .long)] (va_A [(o, .inr (1, [.int w1, .int (nI n), .int (nI k), .int w4, .ref ca, .ref cb, .long z1, .long z2])), (ca, .inl (cA, (600, .inr (.inl f)))), (cb, .inl (cA, (40, .inr (.inl g))))] sz) t) (va_A [(o, .inr (1, [.int w1, .int (nI n), .int (nI k), .int w4, .ref ca, .ref cb, .long z1, .long z2])), (ca, .inl (cA, (600, .inr (.inl f)))), (cb, .inl (cA, (40, .inr (.inl g))))] sz)) 0 0 (va_A [(o, .inr (1, [.int w1, .int (nI n), .int (nI k), .int w4, .ref ca, .ref cb, .long z1, .long z2])), (ca, .inl (cA, (600, .inr (.inl f)))), (cb, .inl (cA, (40, .inr (.inl g))))] sz) := by
  refine Met.ofW (cc := qc_M_grew) (maxL := 7) (ret := (some .boolean)) (by decide) rfl ?_
  intro p e s m args below meth c s₁ B hml hv
  obtain ⟨rfl, hsz, hP, hK, hD0⟩ := hv
  have hx := B.exec
  have hb := B.bytes
  have hr := B.returns
  have hts := atoms_spec (ws := qw_M_grew) B.pre
  have hW : ∀ w ∈ tq_W, w.before ([.ref o, .int (nI i), .int (nI j), .long v, .long hd] : List Value).toArray s = true := fun w h => hts w (List.mem_cons_of_mem _ h)
  have hown : s.vm.findClass RX1 = some m.cls := findClass_of_methodNamed B.named
  have hlocks := B.notSynchronized
  have hl := lv_entry ([.ref o, .int (nI i), .int (nI j), .long v, .long hd]) (n := 7) (Nat.le_of_ble_eq_true rfl)
  rw [lg_entry_eq]
  generalize (lg_sl ([.ref o, .int (nI i), .int (nI j), .long v, .long hd]) ++ List.replicate (7 - (lg_sl ([.ref o, .int (nI i), .int (nI j), .long v, .long hd])).length) Slot.unset).toArray = ls at hl ⊢
  have hl : lv_has ls 7 [(0, .ref o), (1, .int (nI i)), (2, .int (nI j)), (3, .long v), (5, .long hd)] := hl
  subst hsz
  have hD := hD0.self (sz := s.heap.size)
  generalize hAe : va_A [(o, .inr (1, [.int w1, .int (nI n), .int (nI k), .int w4, .ref ca, .ref cb, .long z1, .long z2])), (ca, .inl (cA, (600, .inr (.inl f)))), (cb, .inl (cA, (40, .inr (.inl g))))] s.heap.size = A at hD ⊢
  have hA : ∀ q : Nat, s.heap.size ≤ q → A q := fun q h => by rw [← hAe]; exact Or.inr h
  have hS : va_S A s.heap s.heap [] := va_S.rf
  have hsl := tq_sl_le 30 true i j h2
  refine lv_aload_n hx hb qd_M_grew_0 rfl (lv_at hl 0 rfl) ?_
  refine lv_iconst (v := nI 0) hx hb qd_M_grew_1 (by decide +kernel) ?_
  refine va_put (D := (dC, dI)) (ci := 1) (v := .int (nI 0)) (ty := .int) (C := RX1) (T := TX1) (N := 8) hx hb hW inX1 tyX1 tyX1_ok nmX1 hown hK hP hD hS 0 rfl rfl 0 (by decide) (hW _ qm_281) (fun _ h9 => h9) rfl (by decide +kernel) rfl rfl (Nat.le_of_ble_eq_true rfl) qd_M_grew_2 (fun H locs hP hD hS => ?_)
  have hP : va_P (dC, dI) tq_cl [(o, .inr (1, [.int (nI 0), .int (nI n), .int (nI k), .int w4, .ref ca, .ref cb, .long z1, .long z2])), (ca, .inl (cA, (600, .inr (.inl f)))), (cb, .inl (cA, (40, .inr (.inl g))))] H := hP
  have hD : va_D A [(o, .inr (1, [.int (nI 0), .int (nI n), .int (nI k), .int w4, .ref ca, .ref cb, .long z1, .long z2])), (ca, .inl (cA, (600, .inr (.inl f)))), (cb, .inl (cA, (40, .inr (.inl g))))] := hD
  refine lv_iload_n hx hb qd_M_grew_5 rfl (lv_at hl 1 rfl) ?_
  refine lv_iconst (v := nI 1) hx hb qd_M_grew_6 (by decide +kernel) ?_
  refine tq_icmp_lt (x := i) (y := 1) (tgt := 21) hx hb qd_M_grew_7 (by decide) (by omega) (by omega) (fun c9 => by omega) (fun c9 => ?_)
  refine lv_iload_n hx hb qd_M_grew_10 rfl (lv_at hl 1 rfl) ?_
  refine lv_iload_n hx hb qd_M_grew_11 rfl (lv_at hl 2 rfl) ?_
  refine tq_icmp_gt (x := i) (y := j) (tgt := 21) hx hb qd_M_grew_12 (by decide) (by omega) (by omega) (fun c9 => by omega) (fun c9 => ?_)
  refine lv_iload_n hx hb qd_M_grew_15 rfl (lv_at hl 2 rfl) ?_
  refine lv_ldc (v := (1073741824)) hx hb hown (hW _ qm_382) qd_M_grew_16 ?_
  refine tq_ti (y := nI 1073741824) (by decide +kernel) ?_
  refine tq_icmp_le (x := j) (y := 1073741824) (tgt := 23) hx hb qd_M_grew_18 (by decide) (by omega) (by omega) (fun c9 => ?_) (fun c9 => by omega)
  refine lv_aload_n hx hb qd_M_grew_23 rfl (lv_at hl 0 rfl) ?_
  refine lv_iconst (v := nI 0) hx hb qd_M_grew_24 (by decide +kernel) ?_
  refine va_put (D := (dC, dI)) (ci := 1) (v := .int (nI 0)) (ty := .int) (C := RX1) (T := TX1) (N := 8) hx hb hW inX1 tyX1 tyX1_ok nmX1 hown hK hP hD hS 0 rfl rfl 3 (by decide) (hW _ qm_284) (fun _ h9 => h9) rfl (by decide +kernel) rfl rfl (Nat.le_of_ble_eq_true rfl) qd_M_grew_25 (fun H locs hP hD hS => ?_)
  have hP : va_P (dC, dI) tq_cl [(o, .inr (1, [.int (nI 0), .int (nI n), .int (nI k), .int (nI 0), .ref ca, .ref cb, .long z1, .long z2])), (ca, .inl (cA, (600, .inr (.inl f)))), (cb, .inl (cA, (40, .inr (.inl g))))] H := hP
  have hD : va_D A [(o, .inr (1, [.int (nI 0), .int (nI n), .int (nI k), .int (nI 0), .ref ca, .ref cb, .long z1, .long z2])), (ca, .inl (cA, (600, .inr (.inl f)))), (cb, .inl (cA, (40, .inr (.inl g))))] := hD
  refine lv_aload_n hx hb qd_M_grew_28 rfl (lv_at hl 0 rfl) ?_
  refine lv_iload_n hx hb qd_M_grew_29 rfl (lv_at hl 1 rfl) ?_
  refine lv_iload_n hx hb qd_M_grew_30 rfl (lv_at hl 2 rfl) ?_
  refine lv_iconst (v := nI 1) hx hb qd_M_grew_31 (by decide +kernel) ?_
  refine tq_ti (y := tq_b true) (rfl) ?_
  refine lv_lload_n hx hb qd_M_grew_32 rfl (lv_at hl 3 rfl) ?_
  have hPc := hP.sub (ws' := [(o, .inr (1, [.int (nI 0), .int (nI n), .int (nI k), .int (nI 0), .ref ca, .ref cb, .long z1, .long z2])), (ca, .inl (cA, (600, .inr (.inl f)))), (cb, .inl (cA, (40, .inr (.inl g))))]) [0, 1, 2] rfl
  have hDc := hD.sub (ws' := [(o, .inr (1, [.int (nI 0), .int (nI n), .int (nI k), .int (nI 0), .ref ca, .ref cb, .long z1, .long z2])), (ca, .inl (cA, (600, .inr (.inl f)))), (cb, .inl (cA, (40, .inr (.inl g))))]) [0, 1, 2] (by decide) rfl
  have hKc := hK.sub (tys' := [(cA, .long)]) [0] rfl
  have hFc := va_free (wc := [(o, .inr (1, [.int (nI 0), .int (nI n), .int (nI k), .int (nI 0), .ref ca, .ref cb, .long z1, .long z2])), (ca, .inl (cA, (600, .inr (.inl f)))), (cb, .inl (cA, (40, .inr (.inl g))))]) hD hS hA [0, 1, 2] rfl
  refine va_callv (va_runV (As := [.int (nI i), .int (nI j), .int (tq_b true), .long v]) (rest := []) ⟨hx, hb, hml, hown, hW⟩ (ct_M_both l dC dI o ca cb cA (nI 0) n k f g v 30 i j 0 true z1 z2 H.size h0 h1 h2 (by omega) (by omega) hk) (cwV 4 hW (tq_gV qm_395 qm_397 qs_M_both qm_2 qm_398) rfl rfl rfl (by decide +kernel) ⟨Nat.le_of_ble_eq_true rfl, Nat.le_of_ble_eq_true rfl⟩) ⟨tq_b2, va_recv hKc hPc (ci := 1) (q0 := 0) rfl rfl, fun U hU hW9 => ⟨rfl, by rw [hU], by rw [hU]; exact hPc, va_K.moved hW9.alike hKc, hDc.weaken (fun _ _ _ _ => trivial)⟩⟩ rfl rfl hl.1 rfl (lv_room (Nat.le_of_ble_eq_true rfl)) qd_M_grew_33 ⟨Nat.le_of_ble_eq_true rfl, Nat.le_of_ble_eq_true rfl⟩) hS (fun q _ h => hFc q h) hFc (fun u t9 H1 locs ht9 hvm hw hB hz1 hk1 hS => ?_)
  obtain ⟨hP1, hK1, hD1⟩ := hB
  rw [ht9] at hP1
  obtain ⟨hP, hD⟩ := va_join (wr := []) (w1 := [(o, .inr (1, [.int (nI 0), .int (nI n), .int (nI k), .int (nI (0 + tq_sl true i j)), .ref ca, .ref cb, .long (tq_od (fun q => tq_q g k (0 + q)) true i j v), .long (tq_nw (fun q => tq_q g k (0 + q)) true i j v)])), (ca, .inl (cA, (600, .inr (.inl f)))), (cb, .inl (cA, (40, .inr (.inl g))))]) hP hD [0, 1, 2] [] rfl rfl (by decide) (by decide) hk1 hFc hP1 hD1
  generalize H1 = H at hP hS ⊢
  have hP : va_P (dC, dI) tq_cl [(o, .inr (1, [.int (nI 0), .int (nI n), .int (nI k), .int (nI (0 + tq_sl true i j)), .ref ca, .ref cb, .long (tq_od (fun q => tq_q g k (0 + q)) true i j v), .long (tq_nw (fun q => tq_q g k (0 + q)) true i j v)])), (ca, .inl (cA, (600, .inr (.inl f)))), (cb, .inl (cA, (40, .inr (.inl g))))] H := hP
  have hD : va_D A [(o, .inr (1, [.int (nI 0), .int (nI n), .int (nI k), .int (nI (0 + tq_sl true i j)), .ref ca, .ref cb, .long (tq_od (fun q => tq_q g k (0 + q)) true i j v), .long (tq_nw (fun q => tq_q g k (0 + q)) true i j v)])), (ca, .inl (cA, (600, .inr (.inl f)))), (cb, .inl (cA, (40, .inr (.inl g))))] := hD
  refine lv_aload_n hx hb qd_M_grew_36 rfl (lv_at hl 0 rfl) ?_
  refine va_get (D := (dC, dI)) (ci := 1) (v := .int (nI (0 + tq_sl true i j))) (C := RX1) (T := TX1) (N := 8) hx hb hW inX1 hown hK hP 0 rfl rfl 3 (by decide) (hW _ qm_284) (fun _ h9 => h9) rfl qd_M_grew_37 ?_
  refine lv_aload_n hx hb qd_M_grew_40 rfl (lv_at hl 0 rfl) ?_
  refine va_get (D := (dC, dI)) (ci := 1) (v := .int (nI k)) (C := RX1) (T := TX1) (N := 8) hx hb hW inX1 hown hK hP 0 rfl rfl 2 (by decide) (hW _ qm_283) (fun _ h9 => h9) rfl qd_M_grew_41 ?_
  refine tq_icmp_ne (x := (0 + tq_sl true i j)) (y := k) (tgt := 70) hx hb qd_M_grew_44 (by decide) (by omega) (by omega) (fun c9 => ?_) (fun c9 => ?_)
  · refine lv_iconst (v := nI 0) hx hb qd_M_grew_70 (by decide +kernel) ?_
    exact W.zret hx hb hr (by decide +kernel) (fun t ht hW9 => ⟨⟨_, (), rfl, (by rw [decide_eq_false c9]; rfl), by rw [ht]; exact hP, va_K.moved hW9.alike hK, hD⟩, hS.F ht⟩) hS.2.2 qd_M_grew_71
  · refine lv_aload_n hx hb qd_M_grew_47 rfl (lv_at hl 0 rfl) ?_
    refine va_get (D := (dC, dI)) (ci := 1) (v := .long (tq_od (fun q => tq_q g k (0 + q)) true i j v)) (C := RX1) (T := TX1) (N := 8) hx hb hW inX1 hown hK hP 0 rfl rfl 6 (by decide) (hW _ qm_287) (fun _ h9 => h9) rfl qd_M_grew_48 ?_
    refine lv_lload_n hx hb qd_M_grew_51 rfl (lv_at hl 3 rfl) ?_
    refine tq_lc_ne (tgt := 70) hx hb qd_M_grew_52 qd_M_grew_53 (by decide) (fun c1 => ?_) (fun c1 => ?_)
    · refine lv_iconst (v := nI 0) hx hb qd_M_grew_70 (by decide +kernel) ?_
      exact W.zret hx hb hr (by decide +kernel) (fun t ht hW9 => ⟨⟨_, (), rfl, (by rw [decide_eq_false c1, Bool.false_and, Bool.and_false]; rfl), by rw [ht]; exact hP, va_K.moved hW9.alike hK, hD⟩, hS.F ht⟩) hS.2.2 qd_M_grew_71
    · refine lv_aload_n hx hb qd_M_grew_56 rfl (lv_at hl 0 rfl) ?_
      refine va_get (D := (dC, dI)) (ci := 1) (v := .long (tq_nw (fun q => tq_q g k (0 + q)) true i j v)) (C := RX1) (T := TX1) (N := 8) hx hb hW inX1 hown hK hP 0 rfl rfl 7 (by decide) (hW _ qm_288) (fun _ h9 => h9) rfl qd_M_grew_57 ?_
      refine lv_lload hx hb qd_M_grew_60 (lv_at hl 4 rfl) ?_
      refine tq_lc_ne (tgt := 70) hx hb qd_M_grew_62 qd_M_grew_63 (by decide) (fun c2 => ?_) (fun c2 => ?_)
      · refine lv_iconst (v := nI 0) hx hb qd_M_grew_70 (by decide +kernel) ?_
        exact W.zret hx hb hr (by decide +kernel) (fun t ht hW9 => ⟨⟨_, (), rfl, (by rw [decide_eq_false c2, Bool.and_false, Bool.and_false]; rfl), by rw [ht]; exact hP, va_K.moved hW9.alike hK, hD⟩, hS.F ht⟩) hS.2.2 qd_M_grew_71
      · refine lv_iconst (v := nI 1) hx hb qd_M_grew_66 (by decide +kernel) ?_
        refine lv_goto (tgt := 71) hx hb qd_M_grew_67 (by decide) ?_
        exact W.zret hx hb hr (by decide +kernel) (fun t ht hW9 => ⟨⟨_, (), rfl, (by rw [decide_eq_true c1, decide_eq_true c2, decide_eq_true c9]; rfl), by rw [ht]; exact hP, va_K.moved hW9.alike hK, hD⟩, hS.F ht⟩) hS.2.2 qd_M_grew_71
