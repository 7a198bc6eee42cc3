set_option maxHeartbeats 4000000 in
set_option maxRecDepth 100000 in
theorem ct_M_put (l : Launch) (dC : Nat → ClassId) (dI : Nat → Nat → Nat) (o ca cb : Nat) (cA : ClassId) (w1 : Int32) (n k : Nat) (w4 : Int32) (z1 z2 : Int64) (f g : Nat → Int64) (sz : Nat) (v : Int64) (hk : k < 40) : Met l qy_M_put qw_M_put ({ frames := 0, cells := 0, slots := 0, locals := 0 }) (va_Pc [.ref o, .long v] (tq_rw (dC, dI) [(o, .inr (1, [.int w1, .int (nI n), .int (nI k), .int w4, .ref ca, .ref cb, .long z1, .long z2])), (ca, .inl (cA, (600, .inr (.inl f)))), (cb, .inl (cA, (40, .inr (.inl g))))] [(cA, .long)] sz)) (va_Qv (fun _ : Unit => True) (fun _ t => tq_in (dC, dI) [(o, .inr (1, [.int w1, .int (nI n), .int (nI (k + 1)), .int w4, .ref ca, .ref cb, .long z1, .long z2])), (ca, .inl (cA, (600, .inr (.inl f)))), (cb, .inl (cA, (40, .inr (.inl ((vp_updL g k v))))))] [(cA, .long)] (va_A [(o, .inr (1, [.int w1, .int (nI n), .int (nI k), .int w4, .ref ca, .ref cb, .long z1, .long z2])), (ca, .inl (cA, (600, .inr (.inl f)))), (cb, .inl (cA, (40, .inr (.inl g))))] sz) t) (va_A [(o, .inr (1, [.int w1, .int (nI n), .int (nI k), .int w4, .ref ca, .ref cb, .long z1, .long z2])), (ca, .inl (cA, (600, .inr (.inl f)))), (cb, .inl (cA, (40, .inr (.inl g))))] sz)) 0 0 (va_A [(o, .inr (1, [.int w1, .int (nI n), .int (nI k), .int w4, .ref ca, .ref cb, .long z1, .long z2])), (ca, .inl (cA, (600, .inr (.inl f)))), (cb, .inl (cA, (40, .inr (.inl g))))] sz) := by
  refine Met.ofW (cc := qc_M_put) (maxL := 3) (ret := none) (by decide) rfl ?_
  intro p e s m args below meth c s₁ B hml hv
  obtain ⟨rfl, hsz, hP, hK, hD0⟩ := hv
  have hx := B.exec
  have hb := B.bytes
  have hr := B.returns
  have hts := atoms_spec (ws := qw_M_put) B.pre
  have hW : ∀ w ∈ tq_W, w.before ([.ref o, .long v] : List Value).toArray s = true := fun w h => hts w (List.mem_cons_of_mem _ h)
  have hown : s.vm.findClass RX1 = some m.cls := findClass_of_methodNamed B.named
  have hlocks := B.notSynchronized
  have hl := lv_entry ([.ref o, .long v]) (n := 3) (Nat.le_of_ble_eq_true rfl)
  rw [lg_entry_eq]
  generalize (lg_sl ([.ref o, .long v]) ++ List.replicate (3 - (lg_sl ([.ref o, .long v])).length) Slot.unset).toArray = ls at hl ⊢
  have hl : lv_has ls 3 [(0, .ref o), (1, .long v)] := hl
  subst hsz
  have hD := hD0.self (sz := s.heap.size)
  generalize hAe : va_A [(o, .inr (1, [.int w1, .int (nI n), .int (nI k), .int w4, .ref ca, .ref cb, .long z1, .long z2])), (ca, .inl (cA, (600, .inr (.inl f)))), (cb, .inl (cA, (40, .inr (.inl g))))] s.heap.size = A at hD ⊢
  have hA : ∀ q : Nat, s.heap.size ≤ q → A q := fun q h => by rw [← hAe]; exact Or.inr h
  have hS : va_S A s.heap s.heap [] := va_S.rf
  refine lv_aload_n hx hb qd_M_put_0 rfl (lv_at hl 0 rfl) ?_
  refine va_get (D := (dC, dI)) (ci := 1) (v := .ref cb) (C := RX1) (T := TX1) (N := 8) hx hb hW inX1 hown hK hP 0 rfl rfl 5 (by decide) (hW _ qm_286) (fun _ h9 => h9) rfl qd_M_put_1 ?_
  refine lv_aload_n hx hb qd_M_put_4 rfl (lv_at hl 0 rfl) ?_
  refine va_get (D := (dC, dI)) (ci := 1) (v := .int (nI k)) (C := RX1) (T := TX1) (N := 8) hx hb hW inX1 hown hK hP 0 rfl rfl 2 (by decide) (hW _ qm_283) (fun _ h9 => h9) rfl qd_M_put_5 ?_
  refine lv_lload_n hx hb qd_M_put_8 rfl (lv_at hl 1 rfl) ?_
  refine tq_last hx hb hK hP hD hS 2 0 rfl rfl (j := k) (x := v) (by omega) (by decide) qd_M_put_9 (fun H locs hP hD hS => ?_)
  have hP : va_P (dC, dI) tq_cl [(o, .inr (1, [.int w1, .int (nI n), .int (nI k), .int w4, .ref ca, .ref cb, .long z1, .long z2])), (ca, .inl (cA, (600, .inr (.inl f)))), (cb, .inl (cA, (40, .inr (.inl (vp_updL g k v)))))] H := hP
  have hD : va_D A [(o, .inr (1, [.int w1, .int (nI n), .int (nI k), .int w4, .ref ca, .ref cb, .long z1, .long z2])), (ca, .inl (cA, (600, .inr (.inl f)))), (cb, .inl (cA, (40, .inr (.inl (vp_updL g k v)))))] := hD
  refine lv_aload_n hx hb qd_M_put_10 rfl (lv_at hl 0 rfl) ?_
  refine lv_dup hx hb qd_M_put_11 rfl ?_
  refine va_get (D := (dC, dI)) (ci := 1) (v := .int (nI k)) (C := RX1) (T := TX1) (N := 8) hx hb hW inX1 hown hK hP 0 rfl rfl 2 (by decide) (hW _ qm_283) (fun _ h9 => h9) rfl qd_M_put_12 ?_
  refine lv_iconst (v := nI 1) hx hb qd_M_put_15 (by decide +kernel) ?_
  refine lv_iadd hx hb qd_M_put_16 ?_
  refine tq_ti (y := nI (k + 1)) (nI_1 k) ?_
  refine va_put (D := (dC, dI)) (ci := 1) (v := .int (nI (k + 1))) (ty := .int) (C := RX1) (T := TX1) (N := 8) hx hb hW inX1 tyX1 tyX1_ok nmX1 hown hK hP hD hS 0 rfl rfl 2 (by decide) (hW _ qm_283) (fun _ h9 => h9) rfl (by decide +kernel) rfl rfl (Nat.le_of_ble_eq_true rfl) qd_M_put_17 (fun H locs hP hD hS => ?_)
  have hP : va_P (dC, dI) tq_cl [(o, .inr (1, [.int w1, .int (nI n), .int (nI (k + 1)), .int w4, .ref ca, .ref cb, .long z1, .long z2])), (ca, .inl (cA, (600, .inr (.inl f)))), (cb, .inl (cA, (40, .inr (.inl (vp_updL g k v)))))] H := hP
  have hD : va_D A [(o, .inr (1, [.int w1, .int (nI n), .int (nI (k + 1)), .int w4, .ref ca, .ref cb, .long z1, .long z2])), (ca, .inl (cA, (600, .inr (.inl f)))), (cb, .inl (cA, (40, .inr (.inl (vp_updL g k v)))))] := hD
  exact W.vret hx hb hr (fun t ht hW9 => ⟨⟨(), rfl, trivial, by rw [ht]; exact hP, va_K.moved hW9.alike hK, hD⟩, hS.F ht⟩) hS.2.2 qd_M_put_20
def tq_PO (l : Launch) (dC : Nat → ClassId) (dI : Nat → Nat → Nat) (o ca cb : Nat) (cA : ClassId) (w1 : Int32) (n : Nat) (w4 : Int32) (z1 z2 : Int64) (f : Nat → Int64) (d i y z k : Nat) (g : Nat → Int64) (sz : Nat) : Prop := Met l qy_M_pathOf qw_M_pathOf ({ frames := d + 13, cells := 0, slots := 0, locals := 24 * d + 325 }) (va_Pc [.ref o, .int (nI i), .int (nI y), .int (nI z)] (tq_rw (dC, dI) [(o, .inr (1, [.int w1, .int (nI n), .int (nI k), .int w4, .ref ca, .ref cb, .long z1, .long z2])), (ca, .inl (cA, (600, .inr (.inl f)))), (cb, .inl (cA, (40, .inr (.inl g))))] [(cA, .long)] sz)) (va_Qv (fun _ : Unit => True) (fun _ t => tq_in (dC, dI) [(o, .inr (1, [.int w1, .int (nI n), .int (nI (k + (tq_pt (fun j => tq_leaf (f j)) i y z).length)), .int w4, .ref ca, .ref cb, .long z1, .long z2])), (ca, .inl (cA, (600, .inr (.inl f)))), (cb, .inl (cA, (40, .inr (.inl ((tq_wr g k (tq_pt (fun j => tq_leaf (f j)) i y z)))))))] [(cA, .long)] (va_A [(o, .inr (1, [.int w1, .int (nI n), .int (nI k), .int w4, .ref ca, .ref cb, .long z1, .long z2])), (ca, .inl (cA, (600, .inr (.inl f)))), (cb, .inl (cA, (40, .inr (.inl g))))] sz) t) (va_A [(o, .inr (1, [.int w1, .int (nI n), .int (nI k), .int w4, .ref ca, .ref cb, .long z1, .long z2])), (ca, .inl (cA, (600, .inr (.inl f)))), (cb, .inl (cA, (40, .inr (.inl g))))] sz)) 0 0 (va_A [(o, .inr (1, [.int w1, .int (nI n), .int (nI k), .int w4, .ref ca, .ref cb, .long z1, .long z2])), (ca, .inl (cA, (600, .inr (.inl f)))), (cb, .inl (cA, (40, .inr (.inl g))))] sz)
set_option maxHeartbeats 4000000 in
set_option maxRecDepth 100000 in
/-- pathOf: the PATH comes behind what stands -/
theorem ct_M_pathOf_s (l : Launch) (dC : Nat → ClassId) (dI : Nat → Nat → Nat) (o ca cb : Nat) (cA : ClassId) (w1 : Int32) (n : Nat) (w4 : Int32) (z1 z2 : Int64) (f : Nat → Int64) (d i y z k : Nat) (g : Nat → Int64) (sz : Nat) (ih : ∀ d1, d = d1 + 1 → ∀ (i y z k : Nat) (g : Nat → Int64) (sz : Nat), y < z → i + z ≤ 600 → z ≤ 2 ^ d1 → k + tq_pl y z ≤ 40 → tq_PO l dC dI o ca cb cA w1 n w4 z1 z2 f d1 i y z k g sz) (h1 : y < z) (h3 : i + z ≤ 600) (h2 : z ≤ 2 ^ d) (h4 : k + tq_pl y z ≤ 40) : tq_PO l dC dI o ca cb cA w1 n w4 z1 z2 f d i y z k g sz := by
  refine Met.ofW (cc := qc_M_pathOf) (maxL := 5) (ret := none) (by decide) rfl ?_
  intro p e s m args below meth c s₁ B hml hv
  obtain ⟨rfl, hsz, hP, hK, hD0⟩ := hv
  have hx := B.exec
  have hb := B.bytes
  have hr := B.returns
  have hts := atoms_spec (ws := qw_M_pathOf) B.pre
  have hW : ∀ w ∈ tq_W, w.before ([.ref o, .int (nI i), .int (nI y), .int (nI z)] : List Value).toArray s = true := fun w h => hts w (List.mem_cons_of_mem _ h)
  have hown : s.vm.findClass RX1 = some m.cls := findClass_of_methodNamed B.named
  have hlocks := B.notSynchronized
  have hl := lv_entry ([.ref o, .int (nI i), .int (nI y), .int (nI z)]) (n := 5) (Nat.le_of_ble_eq_true rfl)
  rw [lg_entry_eq]
  generalize (lg_sl ([.ref o, .int (nI i), .int (nI y), .int (nI z)]) ++ List.replicate (5 - (lg_sl ([.ref o, .int (nI i), .int (nI y), .int (nI z)])).length) Slot.unset).toArray = ls at hl ⊢
  have hl : lv_has ls 5 [(0, .ref o), (1, .int (nI i)), (2, .int (nI y)), (3, .int (nI z))] := hl
  subst hsz
  have hD := hD0.self (sz := s.heap.size)
  generalize hAe : va_A [(o, .inr (1, [.int w1, .int (nI n), .int (nI k), .int w4, .ref ca, .ref cb, .long z1, .long z2])), (ca, .inl (cA, (600, .inr (.inl f)))), (cb, .inl (cA, (40, .inr (.inl g))))] s.heap.size = A at hD ⊢
  have hA : ∀ q : Nat, s.heap.size ≤ q → A q := fun q h => by rw [← hAe]; exact Or.inr h
  have hS : va_S A s.heap s.heap [] := va_S.rf
  refine lv_iload_n hx hb qd_M_pathOf_0 rfl (lv_at hl 3 rfl) ?_
  refine lv_iconst (v := nI 1) hx hb qd_M_pathOf_1 (by decide +kernel) ?_
  refine tq_icmp_ne (x := z) (y := 1) (tgt := 6) hx hb qd_M_pathOf_2 (by decide) (by omega) (by omega) (fun c9 => ?_) (fun c9 => ?_)
  · obtain ⟨d1, rfl⟩ : ∃ d1, d = d1 + 1 := by
      cases d with
      | zero => omega
      | succ d1 => exact ⟨d1, rfl⟩
    have hlt := tq_pb_lt (n := z) (by omega)
    have hps := tq_pb_pos z
    have hh := tq_pb_half h2 (by omega)
    have hrr := tq_pb_rest h2 (by omega)
    refine lv_iload_n hx hb qd_M_pathOf_6 rfl (lv_at hl 3 rfl) ?_
    refine vp_callSi (W.runS (As := [.int (nI z)]) (rest := []) ⟨hx, hb, hml, hown, hW⟩ (ct_M_below l z (by omega) (by omega)) (cwS 1 hW (tq_gS qm_335 qm_336 qm_2 qm_337) rfl rfl rfl (by decide +kernel) ⟨(show 0 + 1 ≤ d1 + 1 + 13 from by omega), (show 8 + (2 + 11) + (0) ≤ 24 * (d1 + 1) + 325 from by omega)⟩) ⟨tq_b0, fun U hU hW9 => ⟨rfl, trivial⟩⟩ rfl rfl hl.1 rfl (lv_room (Nat.le_of_ble_eq_true rfl)) qd_M_pathOf_7 ⟨Nat.le_of_ble_eq_true rfl, Nat.le_of_ble_eq_true rfl⟩) (fun r9 e9 => ?_)
    subst e9
    refine lv_istore (lv' := [(4, .int (nI (tq_pb z))), (0, .ref o), (1, .int (nI i)), (2, .int (nI y)), (3, .int (nI z))]) hx hb qd_M_pathOf_10 hl (by decide) rfl (fun ls hl => ?_)
    refine lv_iload_n hx hb qd_M_pathOf_12 rfl (lv_at hl 3 rfl) ?_
    refine lv_iload hx hb qd_M_pathOf_13 (lv_at hl 0 rfl) ?_
    refine tq_icmp_ge (x := y) (y := (tq_pb z)) (tgt := 45) hx hb qd_M_pathOf_15 (by decide) (by omega) (by omega) (fun c1 => ?_) (fun c1 => ?_)
    · have e4 := tq_pl_r (m := y) (n := z) (by omega) c1
      refine lv_aload_n hx hb qd_M_pathOf_45 rfl (lv_at hl 1 rfl) ?_
      refine lv_iload_n hx hb qd_M_pathOf_46 rfl (lv_at hl 2 rfl) ?_
      refine lv_iload hx hb qd_M_pathOf_47 (lv_at hl 0 rfl) ?_
      refine lv_iadd hx hb qd_M_pathOf_49 ?_
      refine tq_ti (y := nI (i + tq_pb z)) (nI_add _ _) ?_
      refine lv_iload_n hx hb qd_M_pathOf_50 rfl (lv_at hl 3 rfl) ?_
      refine lv_iload hx hb qd_M_pathOf_51 (lv_at hl 0 rfl) ?_
      refine lv_isub hx hb qd_M_pathOf_53 ?_
      refine tq_ti (y := nI (y - tq_pb z)) (pk_sub (by omega)) ?_
      refine lv_iload_n hx hb qd_M_pathOf_54 rfl (lv_at hl 4 rfl) ?_
      refine lv_iload hx hb qd_M_pathOf_55 (lv_at hl 0 rfl) ?_
      refine lv_isub hx hb qd_M_pathOf_57 ?_
      refine tq_ti (y := nI (z - tq_pb z)) (pk_sub (by omega)) ?_
      have hPc := hP.sub (ws' := [(o, .inr (1, [.int w1, .int (nI n), .int (nI k), .int w4, .ref ca, .ref cb, .long z1, .long z2])), (ca, .inl (cA, (600, .inr (.inl f)))), (cb, .inl (cA, (40, .inr (.inl g))))]) [0, 1, 2] rfl
      have hDc := hD.sub (ws' := [(o, .inr (1, [.int w1, .int (nI n), .int (nI k), .int w4, .ref ca, .ref cb, .long z1, .long z2])), (ca, .inl (cA, (600, .inr (.inl f)))), (cb, .inl (cA, (40, .inr (.inl g))))]) [0, 1, 2] (by decide) rfl
      have hKc := hK.sub (tys' := [(cA, .long)]) [0] rfl
      have hFc := va_free (wc := [(o, .inr (1, [.int w1, .int (nI n), .int (nI k), .int w4, .ref ca, .ref cb, .long z1, .long z2])), (ca, .inl (cA, (600, .inr (.inl f)))), (cb, .inl (cA, (40, .inr (.inl g))))]) hD hS hA [0, 1, 2] rfl
      refine va_callv (va_runV (As := [.int (nI (i + tq_pb z)), .int (nI (y - tq_pb z)), .int (nI (z - tq_pb z))]) (rest := []) ⟨hx, hb, hml, hown, hW⟩ (ih d1 rfl (i + tq_pb z) (y - tq_pb z) (z - tq_pb z) k g s.heap.size (by omega) (by omega) hrr (by omega)) (cwV 3 hW (tq_gV qm_350 qm_352 qs_M_pathOf qm_2 qm_353) rfl rfl rfl (by decide +kernel) ⟨(show d1 + 13 + 1 ≤ d1 + 1 + 13 from by omega), (show 8 + (5 + 11) + (24 * d1 + 325) ≤ 24 * (d1 + 1) + 325 from by omega)⟩) ⟨tq_b2, va_recv hKc hPc (ci := 1) (q0 := 0) rfl rfl, fun U hU hW9 => ⟨rfl, by rw [hU], by rw [hU]; exact hPc, va_K.moved hW9.alike hKc, hDc.weaken (fun _ _ _ _ => trivial)⟩⟩ rfl rfl hl.1 rfl (lv_room (Nat.le_of_ble_eq_true rfl)) qd_M_pathOf_58 ⟨Nat.le_of_ble_eq_true rfl, Nat.le_of_ble_eq_true rfl⟩) hS (fun q _ h => hFc q h) hFc (fun u t9 H1 locs ht9 hvm hw hB hz1 hk1 hS => ?_)
      obtain ⟨hP1, hK1, hD1⟩ := hB
      rw [ht9] at hP1
      obtain ⟨hP, hD⟩ := va_join (wr := []) (w1 := [(o, .inr (1, [.int w1, .int (nI n), .int (nI (k + (tq_pt (fun j => tq_leaf (f j)) (i + tq_pb z) (y - tq_pb z) (z - tq_pb z)).length)), .int w4, .ref ca, .ref cb, .long z1, .long z2])), (ca, .inl (cA, (600, .inr (.inl f)))), (cb, .inl (cA, (40, .inr (.inl (tq_wr g k (tq_pt (fun j => tq_leaf (f j)) (i + tq_pb z) (y - tq_pb z) (z - tq_pb z)))))))]) hP hD [0, 1, 2] [] rfl rfl (by decide) (by decide) hk1 hFc hP1 hD1
      generalize H1 = H at hP hS ⊢
      have hP : va_P (dC, dI) tq_cl [(o, .inr (1, [.int w1, .int (nI n), .int (nI (k + (tq_pt (fun j => tq_leaf (f j)) (i + tq_pb z) (y - tq_pb z) (z - tq_pb z)).length)), .int w4, .ref ca, .ref cb, .long z1, .long z2])), (ca, .inl (cA, (600, .inr (.inl f)))), (cb, .inl (cA, (40, .inr (.inl (tq_wr g k (tq_pt (fun j => tq_leaf (f j)) (i + tq_pb z) (y - tq_pb z) (z - tq_pb z)))))))] H := hP
      have hD : va_D A [(o, .inr (1, [.int w1, .int (nI n), .int (nI (k + (tq_pt (fun j => tq_leaf (f j)) (i + tq_pb z) (y - tq_pb z) (z - tq_pb z)).length)), .int w4, .ref ca, .ref cb, .long z1, .long z2])), (ca, .inl (cA, (600, .inr (.inl f)))), (cb, .inl (cA, (40, .inr (.inl (tq_wr g k (tq_pt (fun j => tq_leaf (f j)) (i + tq_pb z) (y - tq_pb z) (z - tq_pb z)))))))] := hD
      have e5 : (tq_pt (fun j => tq_leaf (f j)) (i + tq_pb z) (y - tq_pb z) (z - tq_pb z)).length = tq_pl (y - tq_pb z) (z - tq_pb z) := tq_pt_len _ _ _
      refine lv_aload_n hx hb qd_M_pathOf_61 rfl (lv_at hl 1 rfl) ?_
      refine lv_aload_n hx hb qd_M_pathOf_62 rfl (lv_at hl 1 rfl) ?_
      refine lv_iload_n hx hb qd_M_pathOf_63 rfl (lv_at hl 2 rfl) ?_
      refine lv_iload hx hb qd_M_pathOf_64 (lv_at hl 0 rfl) ?_
      refine vp_callSl (W.runV (As := [.int (nI i), .int (nI (tq_pb z))]) (rest := [.ref o]) ⟨hx, hb, hml, hown, hW⟩ (ct_M_headOf l dC dI o ca cb cA w1 (nI n) (nI (k + (tq_pt (fun j => tq_leaf (f j)) (i + tq_pb z) (y - tq_pb z) (z - tq_pb z)).length)) w4 z1 z2 f 10 i ((tq_pb z)) (by omega) (by omega)) (cwV 2 hW (tq_gV qm_326 qm_328 qs_M_headOf qm_2 qm_329) rfl rfl rfl (by decide +kernel) ⟨(show 12 + 1 ≤ d1 + 1 + 13 from by omega), (show 8 + (6 + 11) + (300) ≤ 24 * (d1 + 1) + 325 from by omega)⟩) ⟨tq_b1, va_recv hK hP (ci := 1) (q0 := 0) rfl rfl, fun U hU hW9 => ⟨rfl, by rw [hU]; exact hP.sub [0, 1] rfl, va_K.moved hW9.alike (hK.sub [0] rfl)⟩⟩ rfl rfl hl.1 rfl (lv_room (Nat.le_of_ble_eq_true rfl)) qd_M_pathOf_66 ⟨Nat.le_of_ble_eq_true rfl, Nat.le_of_ble_eq_true rfl⟩) (fun r9 e9 => ?_)
      subst e9
      have hPc := hP.sub (ws' := [(o, .inr (1, [.int w1, .int (nI n), .int (nI (k + (tq_pt (fun j => tq_leaf (f j)) (i + tq_pb z) (y - tq_pb z) (z - tq_pb z)).length)), .int w4, .ref ca, .ref cb, .long z1, .long z2])), (ca, .inl (cA, (600, .inr (.inl f)))), (cb, .inl (cA, (40, .inr (.inl (tq_wr g k (tq_pt (fun j => tq_leaf (f j)) (i + tq_pb z) (y - tq_pb z) (z - tq_pb z)))))))]) [0, 1, 2] rfl
      have hDc := hD.sub (ws' := [(o, .inr (1, [.int w1, .int (nI n), .int (nI (k + (tq_pt (fun j => tq_leaf (f j)) (i + tq_pb z) (y - tq_pb z) (z - tq_pb z)).length)), .int w4, .ref ca, .ref cb, .long z1, .long z2])), (ca, .inl (cA, (600, .inr (.inl f)))), (cb, .inl (cA, (40, .inr (.inl (tq_wr g k (tq_pt (fun j => tq_leaf (f j)) (i + tq_pb z) (y - tq_pb z) (z - tq_pb z)))))))]) [0, 1, 2] (by decide) rfl
      have hKc := hK.sub (tys' := [(cA, .long)]) [0] rfl
      have hFc := va_free (wc := [(o, .inr (1, [.int w1, .int (nI n), .int (nI (k + (tq_pt (fun j => tq_leaf (f j)) (i + tq_pb z) (y - tq_pb z) (z - tq_pb z)).length)), .int w4, .ref ca, .ref cb, .long z1, .long z2])), (ca, .inl (cA, (600, .inr (.inl f)))), (cb, .inl (cA, (40, .inr (.inl (tq_wr g k (tq_pt (fun j => tq_leaf (f j)) (i + tq_pb z) (y - tq_pb z) (z - tq_pb z)))))))]) hD hS hA [0, 1, 2] rfl
      refine va_callv (va_runV (As := [.long (tq_hd (fun j => tq_leaf (f j)) i ((tq_pb z)))]) (rest := []) ⟨hx, hb, hml, hown, hW⟩ (ct_M_put l dC dI o ca cb cA w1 n ((k + (tq_pt (fun j => tq_leaf (f j)) (i + tq_pb z) (y - tq_pb z) (z - tq_pb z)).length)) w4 z1 z2 f (tq_wr g k (tq_pt (fun j => tq_leaf (f j)) (i + tq_pb z) (y - tq_pb z) (z - tq_pb z))) H.size (tq_hd (fun j => tq_leaf (f j)) i ((tq_pb z))) (by omega)) (cwV 1 hW (tq_gV qm_354 qm_356 qs_M_put qm_2 qm_357) rfl rfl rfl (by decide +kernel) ⟨(show 0 + 1 ≤ d1 + 1 + 13 from by omega), (show 8 + (3 + 11) + (0) ≤ 24 * (d1 + 1) + 325 from by omega)⟩) ⟨tq_b2, va_recv hKc hPc (ci := 1) (q0 := 0) rfl rfl, fun U hU hW9 => ⟨rfl, by rw [hU], by rw [hU]; exact hPc, va_K.moved hW9.alike hKc, hDc.weaken (fun _ _ _ _ => trivial)⟩⟩ rfl rfl hl.1 rfl (lv_room (Nat.le_of_ble_eq_true rfl)) qd_M_pathOf_69 ⟨Nat.le_of_ble_eq_true rfl, Nat.le_of_ble_eq_true rfl⟩) hS (fun q _ h => hFc q h) hFc (fun u t9 H1 locs ht9 hvm hw hB hz1 hk1 hS => ?_)
      obtain ⟨hP1, hK1, hD1⟩ := hB
      rw [ht9] at hP1
      obtain ⟨hP, hD⟩ := va_join (wr := []) (w1 := [(o, .inr (1, [.int w1, .int (nI n), .int (nI (((k + (tq_pt (fun j => tq_leaf (f j)) (i + tq_pb z) (y - tq_pb z) (z - tq_pb z)).length)) + 1)), .int w4, .ref ca, .ref cb, .long z1, .long z2])), (ca, .inl (cA, (600, .inr (.inl f)))), (cb, .inl (cA, (40, .inr (.inl (vp_updL (tq_wr g k (tq_pt (fun j => tq_leaf (f j)) (i + tq_pb z) (y - tq_pb z) (z - tq_pb z))) ((k + (tq_pt (fun j => tq_leaf (f j)) (i + tq_pb z) (y - tq_pb z) (z - tq_pb z)).length)) (tq_hd (fun j => tq_leaf (f j)) i ((tq_pb z))))))))]) hP hD [0, 1, 2] [] rfl rfl (by decide) (by decide) hk1 hFc hP1 hD1
      generalize H1 = H at hP hS ⊢
      have hP : va_P (dC, dI) tq_cl [(o, .inr (1, [.int w1, .int (nI n), .int (nI (((k + (tq_pt (fun j => tq_leaf (f j)) (i + tq_pb z) (y - tq_pb z) (z - tq_pb z)).length)) + 1)), .int w4, .ref ca, .ref cb, .long z1, .long z2])), (ca, .inl (cA, (600, .inr (.inl f)))), (cb, .inl (cA, (40, .inr (.inl (vp_updL (tq_wr g k (tq_pt (fun j => tq_leaf (f j)) (i + tq_pb z) (y - tq_pb z) (z - tq_pb z))) ((k + (tq_pt (fun j => tq_leaf (f j)) (i + tq_pb z) (y - tq_pb z) (z - tq_pb z)).length)) (tq_hd (fun j => tq_leaf (f j)) i ((tq_pb z))))))))] H := hP
      have hD : va_D A [(o, .inr (1, [.int w1, .int (nI n), .int (nI (((k + (tq_pt (fun j => tq_leaf (f j)) (i + tq_pb z) (y - tq_pb z) (z - tq_pb z)).length)) + 1)), .int w4, .ref ca, .ref cb, .long z1, .long z2])), (ca, .inl (cA, (600, .inr (.inl f)))), (cb, .inl (cA, (40, .inr (.inl (vp_updL (tq_wr g k (tq_pt (fun j => tq_leaf (f j)) (i + tq_pb z) (y - tq_pb z) (z - tq_pb z))) ((k + (tq_pt (fun j => tq_leaf (f j)) (i + tq_pb z) (y - tq_pb z) (z - tq_pb z)).length)) (tq_hd (fun j => tq_leaf (f j)) i ((tq_pb z))))))))] := hD
      rw [tq_pt_r (by omega) c1, tq_wr_snoc, List.length_append, ← Nat.add_assoc]
      exact W.vret hx hb hr (fun t ht hW9 => ⟨⟨(), rfl, trivial, by rw [ht]; exact hP, va_K.moved hW9.alike hK, hD⟩, hS.F ht⟩) hS.2.2 qd_M_pathOf_72
    · have e4 := tq_pl_l (m := y) (n := z) (by omega) c1
      refine lv_aload_n hx hb qd_M_pathOf_18 rfl (lv_at hl 1 rfl) ?_
      refine lv_iload_n hx hb qd_M_pathOf_19 rfl (lv_at hl 2 rfl) ?_
      refine lv_iload_n hx hb qd_M_pathOf_20 rfl (lv_at hl 3 rfl) ?_
      refine lv_iload hx hb qd_M_pathOf_21 (lv_at hl 0 rfl) ?_
      have hPc := hP.sub (ws' := [(o, .inr (1, [.int w1, .int (nI n), .int (nI k), .int w4, .ref ca, .ref cb, .long z1, .long z2])), (ca, .inl (cA, (600, .inr (.inl f)))), (cb, .inl (cA, (40, .inr (.inl g))))]) [0, 1, 2] rfl
      have hDc := hD.sub (ws' := [(o, .inr (1, [.int w1, .int (nI n), .int (nI k), .int w4, .ref ca, .ref cb, .long z1, .long z2])), (ca, .inl (cA, (600, .inr (.inl f)))), (cb, .inl (cA, (40, .inr (.inl g))))]) [0, 1, 2] (by decide) rfl
      have hKc := hK.sub (tys' := [(cA, .long)]) [0] rfl
      have hFc := va_free (wc := [(o, .inr (1, [.int w1, .int (nI n), .int (nI k), .int w4, .ref ca, .ref cb, .long z1, .long z2])), (ca, .inl (cA, (600, .inr (.inl f)))), (cb, .inl (cA, (40, .inr (.inl g))))]) hD hS hA [0, 1, 2] rfl
      refine va_callv (va_runV (As := [.int (nI i), .int (nI y), .int (nI (tq_pb z))]) (rest := []) ⟨hx, hb, hml, hown, hW⟩ (ih d1 rfl i y (tq_pb z) k g s.heap.size c1 (by omega) hh (by omega)) (cwV 3 hW (tq_gV qm_350 qm_352 qs_M_pathOf qm_2 qm_353) rfl rfl rfl (by decide +kernel) ⟨(show d1 + 13 + 1 ≤ d1 + 1 + 13 from by omega), (show 8 + (5 + 11) + (24 * d1 + 325) ≤ 24 * (d1 + 1) + 325 from by omega)⟩) ⟨tq_b2, va_recv hKc hPc (ci := 1) (q0 := 0) rfl rfl, fun U hU hW9 => ⟨rfl, by rw [hU], by rw [hU]; exact hPc, va_K.moved hW9.alike hKc, hDc.weaken (fun _ _ _ _ => trivial)⟩⟩ rfl rfl hl.1 rfl (lv_room (Nat.le_of_ble_eq_true rfl)) qd_M_pathOf_23 ⟨Nat.le_of_ble_eq_true rfl, Nat.le_of_ble_eq_true rfl⟩) hS (fun q _ h => hFc q h) hFc (fun u t9 H1 locs ht9 hvm hw hB hz1 hk1 hS => ?_)
      obtain ⟨hP1, hK1, hD1⟩ := hB
      rw [ht9] at hP1
      obtain ⟨hP, hD⟩ := va_join (wr := []) (w1 := [(o, .inr (1, [.int w1, .int (nI n), .int (nI (k + (tq_pt (fun j => tq_leaf (f j)) i y (tq_pb z)).length)), .int w4, .ref ca, .ref cb, .long z1, .long z2])), (ca, .inl (cA, (600, .inr (.inl f)))), (cb, .inl (cA, (40, .inr (.inl (tq_wr g k (tq_pt (fun j => tq_leaf (f j)) i y (tq_pb z)))))))]) hP hD [0, 1, 2] [] rfl rfl (by decide) (by decide) hk1 hFc hP1 hD1
      generalize H1 = H at hP hS ⊢
      have hP : va_P (dC, dI) tq_cl [(o, .inr (1, [.int w1, .int (nI n), .int (nI (k + (tq_pt (fun j => tq_leaf (f j)) i y (tq_pb z)).length)), .int w4, .ref ca, .ref cb, .long z1, .long z2])), (ca, .inl (cA, (600, .inr (.inl f)))), (cb, .inl (cA, (40, .inr (.inl (tq_wr g k (tq_pt (fun j => tq_leaf (f j)) i y (tq_pb z)))))))] H := hP
      have hD : va_D A [(o, .inr (1, [.int w1, .int (nI n), .int (nI (k + (tq_pt (fun j => tq_leaf (f j)) i y (tq_pb z)).length)), .int w4, .ref ca, .ref cb, .long z1, .long z2])), (ca, .inl (cA, (600, .inr (.inl f)))), (cb, .inl (cA, (40, .inr (.inl (tq_wr g k (tq_pt (fun j => tq_leaf (f j)) i y (tq_pb z)))))))] := hD
      have e5 : (tq_pt (fun j => tq_leaf (f j)) i y (tq_pb z)).length = tq_pl y (tq_pb z) := tq_pt_len _ _ _
      refine lv_aload_n hx hb qd_M_pathOf_26 rfl (lv_at hl 1 rfl) ?_
      refine lv_aload_n hx hb qd_M_pathOf_27 rfl (lv_at hl 1 rfl) ?_
      refine lv_iload_n hx hb qd_M_pathOf_28 rfl (lv_at hl 2 rfl) ?_
      refine lv_iload hx hb qd_M_pathOf_29 (lv_at hl 0 rfl) ?_
      refine lv_iadd hx hb qd_M_pathOf_31 ?_
      refine tq_ti (y := nI (i + tq_pb z)) (nI_add _ _) ?_
      refine lv_iload_n hx hb qd_M_pathOf_32 rfl (lv_at hl 4 rfl) ?_
      refine lv_iload hx hb qd_M_pathOf_33 (lv_at hl 0 rfl) ?_
      refine lv_isub hx hb qd_M_pathOf_35 ?_
      refine tq_ti (y := nI (z - tq_pb z)) (pk_sub (by omega)) ?_
      refine vp_callSl (W.runV (As := [.int (nI (i + tq_pb z)), .int (nI (z - tq_pb z))]) (rest := [.ref o]) ⟨hx, hb, hml, hown, hW⟩ (ct_M_headOf l dC dI o ca cb cA w1 (nI n) (nI (k + (tq_pt (fun j => tq_leaf (f j)) i y (tq_pb z)).length)) w4 z1 z2 f 10 ((i + tq_pb z)) ((z - tq_pb z)) (by omega) (by omega)) (cwV 2 hW (tq_gV qm_326 qm_328 qs_M_headOf qm_2 qm_329) rfl rfl rfl (by decide +kernel) ⟨(show 12 + 1 ≤ d1 + 1 + 13 from by omega), (show 8 + (6 + 11) + (300) ≤ 24 * (d1 + 1) + 325 from by omega)⟩) ⟨tq_b1, va_recv hK hP (ci := 1) (q0 := 0) rfl rfl, fun U hU hW9 => ⟨rfl, by rw [hU]; exact hP.sub [0, 1] rfl, va_K.moved hW9.alike (hK.sub [0] rfl)⟩⟩ rfl rfl hl.1 rfl (lv_room (Nat.le_of_ble_eq_true rfl)) qd_M_pathOf_36 ⟨Nat.le_of_ble_eq_true rfl, Nat.le_of_ble_eq_true rfl⟩) (fun r9 e9 => ?_)
      subst e9
      have hPc := hP.sub (ws' := [(o, .inr (1, [.int w1, .int (nI n), .int (nI (k + (tq_pt (fun j => tq_leaf (f j)) i y (tq_pb z)).length)), .int w4, .ref ca, .ref cb, .long z1, .long z2])), (ca, .inl (cA, (600, .inr (.inl f)))), (cb, .inl (cA, (40, .inr (.inl (tq_wr g k (tq_pt (fun j => tq_leaf (f j)) i y (tq_pb z)))))))]) [0, 1, 2] rfl
      have hDc := hD.sub (ws' := [(o, .inr (1, [.int w1, .int (nI n), .int (nI (k + (tq_pt (fun j => tq_leaf (f j)) i y (tq_pb z)).length)), .int w4, .ref ca, .ref cb, .long z1, .long z2])), (ca, .inl (cA, (600, .inr (.inl f)))), (cb, .inl (cA, (40, .inr (.inl (tq_wr g k (tq_pt (fun j => tq_leaf (f j)) i y (tq_pb z)))))))]) [0, 1, 2] (by decide) rfl
      have hKc := hK.sub (tys' := [(cA, .long)]) [0] rfl
      have hFc := va_free (wc := [(o, .inr (1, [.int w1, .int (nI n), .int (nI (k + (tq_pt (fun j => tq_leaf (f j)) i y (tq_pb z)).length)), .int w4, .ref ca, .ref cb, .long z1, .long z2])), (ca, .inl (cA, (600, .inr (.inl f)))), (cb, .inl (cA, (40, .inr (.inl (tq_wr g k (tq_pt (fun j => tq_leaf (f j)) i y (tq_pb z)))))))]) hD hS hA [0, 1, 2] rfl
      refine va_callv (va_runV (As := [.long (tq_hd (fun j => tq_leaf (f j)) ((i + tq_pb z)) ((z - tq_pb z)))]) (rest := []) ⟨hx, hb, hml, hown, hW⟩ (ct_M_put l dC dI o ca cb cA w1 n ((k + (tq_pt (fun j => tq_leaf (f j)) i y (tq_pb z)).length)) w4 z1 z2 f (tq_wr g k (tq_pt (fun j => tq_leaf (f j)) i y (tq_pb z))) H.size (tq_hd (fun j => tq_leaf (f j)) ((i + tq_pb z)) ((z - tq_pb z))) (by omega)) (cwV 1 hW (tq_gV qm_354 qm_356 qs_M_put qm_2 qm_357) rfl rfl rfl (by decide +kernel) ⟨(show 0 + 1 ≤ d1 + 1 + 13 from by omega), (show 8 + (3 + 11) + (0) ≤ 24 * (d1 + 1) + 325 from by omega)⟩) ⟨tq_b2, va_recv hKc hPc (ci := 1) (q0 := 0) rfl rfl, fun U hU hW9 => ⟨rfl, by rw [hU], by rw [hU]; exact hPc, va_K.moved hW9.alike hKc, hDc.weaken (fun _ _ _ _ => trivial)⟩⟩ rfl rfl hl.1 rfl (lv_room (Nat.le_of_ble_eq_true rfl)) qd_M_pathOf_39 ⟨Nat.le_of_ble_eq_true rfl, Nat.le_of_ble_eq_true rfl⟩) hS (fun q _ h => hFc q h) hFc (fun u t9 H1 locs ht9 hvm hw hB hz1 hk1 hS => ?_)
      obtain ⟨hP1, hK1, hD1⟩ := hB
      rw [ht9] at hP1
      obtain ⟨hP, hD⟩ := va_join (wr := []) (w1 := [(o, .inr (1, [.int w1, .int (nI n), .int (nI (((k + (tq_pt (fun j => tq_leaf (f j)) i y (tq_pb z)).length)) + 1)), .int w4, .ref ca, .ref cb, .long z1, .long z2])), (ca, .inl (cA, (600, .inr (.inl f)))), (cb, .inl (cA, (40, .inr (.inl (vp_updL (tq_wr g k (tq_pt (fun j => tq_leaf (f j)) i y (tq_pb z))) ((k + (tq_pt (fun j => tq_leaf (f j)) i y (tq_pb z)).length)) (tq_hd (fun j => tq_leaf (f j)) ((i + tq_pb z)) ((z - tq_pb z))))))))]) hP hD [0, 1, 2] [] rfl rfl (by decide) (by decide) hk1 hFc hP1 hD1
      generalize H1 = H at hP hS ⊢
      have hP : va_P (dC, dI) tq_cl [(o, .inr (1, [.int w1, .int (nI n), .int (nI (((k + (tq_pt (fun j => tq_leaf (f j)) i y (tq_pb z)).length)) + 1)), .int w4, .ref ca, .ref cb, .long z1, .long z2])), (ca, .inl (cA, (600, .inr (.inl f)))), (cb, .inl (cA, (40, .inr (.inl (vp_updL (tq_wr g k (tq_pt (fun j => tq_leaf (f j)) i y (tq_pb z))) ((k + (tq_pt (fun j => tq_leaf (f j)) i y (tq_pb z)).length)) (tq_hd (fun j => tq_leaf (f j)) ((i + tq_pb z)) ((z - tq_pb z))))))))] H := hP
      have hD : va_D A [(o, .inr (1, [.int w1, .int (nI n), .int (nI (((k + (tq_pt (fun j => tq_leaf (f j)) i y (tq_pb z)).length)) + 1)), .int w4, .ref ca, .ref cb, .long z1, .long z2])), (ca, .inl (cA, (600, .inr (.inl f)))), (cb, .inl (cA, (40, .inr (.inl (vp_updL (tq_wr g k (tq_pt (fun j => tq_leaf (f j)) i y (tq_pb z))) ((k + (tq_pt (fun j => tq_leaf (f j)) i y (tq_pb z)).length)) (tq_hd (fun j => tq_leaf (f j)) ((i + tq_pb z)) ((z - tq_pb z))))))))] := hD
      refine lv_goto (tgt := 72) hx hb qd_M_pathOf_42 (by decide) ?_
      rw [tq_pt_l (by omega) c1, tq_wr_snoc, List.length_append, ← Nat.add_assoc]
      exact W.vret hx hb hr (fun t ht hW9 => ⟨⟨(), rfl, trivial, by rw [ht]; exact hP, va_K.moved hW9.alike hK, hD⟩, hS.F ht⟩) hS.2.2 qd_M_pathOf_72
  · rw [tq_pt_0 (by omega)]
    exact W.vret hx hb hr (fun t ht hW9 => ⟨⟨(), rfl, trivial, by rw [ht]; exact hP, va_K.moved hW9.alike hK, hD⟩, hS.F ht⟩) hS.2.2 qd_M_pathOf_5
theorem ct_M_pathOf (l : Launch) (dC : Nat → ClassId) (dI : Nat → Nat → Nat) (o ca cb : Nat) (cA : ClassId) (w1 : Int32) (n : Nat) (w4 : Int32) (z1 z2 : Int64) (f : Nat → Int64) : ∀ (d i y z k : Nat) (g : Nat → Int64) (sz : Nat), y < z → i + z ≤ 600 → z ≤ 2 ^ d → k + tq_pl y z ≤ 40 → tq_PO l dC dI o ca cb cA w1 n w4 z1 z2 f d i y z k g sz
  | 0, i, y, z, k, g, sz, h1, h2, h3, h4 => ct_M_pathOf_s l dC dI o ca cb cA w1 n w4 z1 z2 f 0 i y z k g sz (fun d1 h => by omega) h1 h2 h3 h4
  | d + 1, i, y, z, k, g, sz, h1, h2, h3, h4 => ct_M_pathOf_s l dC dI o ca cb cA w1 n w4 z1 z2 f (d + 1) i y z k g sz (fun d1 h i y z k g sz a1 a2 a3 a4 => by cases h; exact ct_M_pathOf l dC dI o ca cb cA w1 n w4 z1 z2 f d i y z k g sz a1 a2 a3 a4) h1 h2 h3 h4
set_option maxHeartbeats 4000000 in
set_option maxRecDepth 100000 in
theorem ct_M_path (l : Launch) (dC : Nat → ClassId) (dI : Nat → Nat → Nat) (o ca cb : Nat) (cA : ClassId) (w1 : Int32) (n k : Nat) (w4 : Int32) (z1 z2 : Int64) (f g : Nat → Int64) (sz : Nat) (mm j : Nat) (h1 : mm < j) (hj : j ≤ n) (hn : n ≤ 600) : Met l qy_M_path qw_M_path ({ frames := 24, cells := 0, slots := 0, locals := 600 }) (va_Pc [.ref o, .int (nI mm), .int (nI j)] (tq_rw (dC, dI) [(o, .inr (1, [.int w1, .int (nI n), .int (nI k), .int w4, .ref ca, .ref cb, .long z1, .long z2])), (ca, .inl (cA, (600, .inr (.inl f)))), (cb, .inl (cA, (40, .inr (.inl g))))] [(cA, .long)] sz)) (va_Qi (fun r (_ : Unit) => r = nI (tq_pl mm j)) (fun _ t => tq_in (dC, dI) [(o, .inr (1, [.int (nI 0), .int (nI n), .int (nI (tq_pl mm j)), .int w4, .ref ca, .ref cb, .long z1, .long z2])), (ca, .inl (cA, (600, .inr (.inl f)))), (cb, .inl (cA, (40, .inr (.inl ((tq_wr g 0 (tq_pt (fun j => tq_leaf (f j)) 0 mm j)))))))] [(cA, .long)] (va_A [(o, .inr (1, [.int w1, .int (nI n), .int (nI k), .int w4, .ref ca, .ref cb, .long z1, .long z2])), (ca, .inl (cA, (600, .inr (.inl f)))), (cb, .inl (cA, (40, .inr (.inl g))))] sz) t) (va_A [(o, .inr (1, [.int w1, .int (nI n), .int (nI k), .int w4, .ref ca, .ref cb, .long z1, .long z2])), (ca, .inl (cA, (600, .inr (.inl f)))), (cb, .inl (cA, (40, .inr (.inl g))))] sz)) 0 0 (va_A [(o, .inr (1, [.int w1, .int (nI n), .int (nI k), .int w4, .ref ca, .ref cb, .long z1, .long z2])), (ca, .inl (cA, (600, .inr (.inl f)))), (cb, .inl (cA, (40, .inr (.inl g))))] sz) := by
  refine Met.ofW (cc := qc_M_path) (maxL := 3) (ret := (some .int)) (by decide) rfl ?_
  intro p e s m args below meth c s₁ B hml hv
  obtain ⟨rfl, hsz, hP, hK, hD0⟩ := hv
  have hx := B.exec
  have hb := B.bytes
  have hr := B.returns
  have hts := atoms_spec (ws := qw_M_path) B.pre
  have hW : ∀ w ∈ tq_W, w.before ([.ref o, .int (nI mm), .int (nI j)] : List Value).toArray s = true := fun w h => hts w (List.mem_cons_of_mem _ h)
  have hown : s.vm.findClass RX1 = some m.cls := findClass_of_methodNamed B.named
  have hlocks := B.notSynchronized
  have hl := lv_entry ([.ref o, .int (nI mm), .int (nI j)]) (n := 3) (Nat.le_of_ble_eq_true rfl)
  rw [lg_entry_eq]
  generalize (lg_sl ([.ref o, .int (nI mm), .int (nI j)]) ++ List.replicate (3 - (lg_sl ([.ref o, .int (nI mm), .int (nI j)])).length) Slot.unset).toArray = ls at hl ⊢
  have hl : lv_has ls 3 [(0, .ref o), (1, .int (nI mm)), (2, .int (nI j))] := hl
  subst hsz
  have hD := hD0.self (sz := s.heap.size)
  generalize hAe : va_A [(o, .inr (1, [.int w1, .int (nI n), .int (nI k), .int w4, .ref ca, .ref cb, .long z1, .long z2])), (ca, .inl (cA, (600, .inr (.inl f)))), (cb, .inl (cA, (40, .inr (.inl g))))] s.heap.size = A at hD ⊢
  have hA : ∀ q : Nat, s.heap.size ≤ q → A q := fun q h => by rw [← hAe]; exact Or.inr h
  have hS : va_S A s.heap s.heap [] := va_S.rf
  have hpl := tq_pl_le 10 mm j (by omega)
  have e5 : 0 + (tq_pt (fun j => tq_leaf (f j)) 0 mm j).length = tq_pl mm j := by rw [Nat.zero_add]; exact tq_pt_len _ _ _
  refine lv_aload_n hx hb qd_M_path_0 rfl (lv_at hl 0 rfl) ?_
  refine lv_iload_n hx hb qd_M_path_1 rfl (lv_at hl 1 rfl) ?_
  refine tq_if_lt (x := mm) (tgt := 18) hx hb qd_M_path_2 (by decide) (by omega) ?_
  refine lv_iload_n hx hb qd_M_path_5 rfl (lv_at hl 1 rfl) ?_
  refine lv_iload_n hx hb qd_M_path_6 rfl (lv_at hl 2 rfl) ?_
  refine tq_icmp_ge (x := mm) (y := j) (tgt := 18) hx hb qd_M_path_7 (by decide) (by omega) (by omega) (fun c9 => by omega) (fun c9 => ?_)
  refine lv_iload_n hx hb qd_M_path_10 rfl (lv_at hl 2 rfl) ?_
  refine lv_aload_n hx hb qd_M_path_11 rfl (lv_at hl 0 rfl) ?_
  refine va_get (D := (dC, dI)) (ci := 1) (v := .int (nI n)) (C := RX1) (T := TX1) (N := 8) hx hb hW inX1 hown hK hP 0 rfl rfl 1 (by decide) (hW _ qm_282) (fun _ h9 => h9) rfl qd_M_path_12 ?_
  refine tq_icmp_le (x := j) (y := n) (tgt := 22) hx hb qd_M_path_15 (by decide) (by omega) (by omega) (fun c9 => ?_) (fun c9 => by omega)
  refine lv_iconst (v := nI 0) hx hb qd_M_path_22 (by decide +kernel) ?_
  refine va_put (D := (dC, dI)) (ci := 1) (v := .int (nI 0)) (ty := .int) (C := RX1) (T := TX1) (N := 8) hx hb hW inX1 tyX1 tyX1_ok nmX1 hown hK hP hD hS 0 rfl rfl 0 (by decide) (hW _ qm_281) (fun _ h9 => h9) rfl (by decide +kernel) rfl rfl (Nat.le_of_ble_eq_true rfl) qd_M_path_23 (fun H locs hP hD hS => ?_)
  have hP : va_P (dC, dI) tq_cl [(o, .inr (1, [.int (nI 0), .int (nI n), .int (nI k), .int w4, .ref ca, .ref cb, .long z1, .long z2])), (ca, .inl (cA, (600, .inr (.inl f)))), (cb, .inl (cA, (40, .inr (.inl g))))] H := hP
  have hD : va_D A [(o, .inr (1, [.int (nI 0), .int (nI n), .int (nI k), .int w4, .ref ca, .ref cb, .long z1, .long z2])), (ca, .inl (cA, (600, .inr (.inl f)))), (cb, .inl (cA, (40, .inr (.inl g))))] := hD
  refine lv_aload_n hx hb qd_M_path_26 rfl (lv_at hl 0 rfl) ?_
  refine va_get (D := (dC, dI)) (ci := 1) (v := .int (nI 0)) (C := RX1) (T := TX1) (N := 8) hx hb hW inX1 hown hK hP 0 rfl rfl 0 (by decide) (hW _ qm_281) (fun _ h9 => h9) rfl qd_M_path_27 ?_
  refine tq_if_le (x := 0) (tgt := 35) hx hb qd_M_path_30 (by decide) (by omega) (fun c9 => ?_) (fun c9 => by omega)
  refine lv_aload_n hx hb qd_M_path_35 rfl (lv_at hl 0 rfl) ?_
  refine lv_iconst (v := nI 0) hx hb qd_M_path_36 (by decide +kernel) ?_
  refine va_put (D := (dC, dI)) (ci := 1) (v := .int (nI 0)) (ty := .int) (C := RX1) (T := TX1) (N := 8) hx hb hW inX1 tyX1 tyX1_ok nmX1 hown hK hP hD hS 0 rfl rfl 2 (by decide) (hW _ qm_283) (fun _ h9 => h9) rfl (by decide +kernel) rfl rfl (Nat.le_of_ble_eq_true rfl) qd_M_path_37 (fun H locs hP hD hS => ?_)
  have hP : va_P (dC, dI) tq_cl [(o, .inr (1, [.int (nI 0), .int (nI n), .int (nI 0), .int w4, .ref ca, .ref cb, .long z1, .long z2])), (ca, .inl (cA, (600, .inr (.inl f)))), (cb, .inl (cA, (40, .inr (.inl g))))] H := hP
  have hD : va_D A [(o, .inr (1, [.int (nI 0), .int (nI n), .int (nI 0), .int w4, .ref ca, .ref cb, .long z1, .long z2])), (ca, .inl (cA, (600, .inr (.inl f)))), (cb, .inl (cA, (40, .inr (.inl g))))] := hD
  refine lv_aload_n hx hb qd_M_path_40 rfl (lv_at hl 0 rfl) ?_
  refine lv_iconst (v := nI 0) hx hb qd_M_path_41 (by decide +kernel) ?_
  refine lv_iload_n hx hb qd_M_path_42 rfl (lv_at hl 1 rfl) ?_
  refine lv_iload_n hx hb qd_M_path_43 rfl (lv_at hl 2 rfl) ?_
  have hPc := hP.sub (ws' := [(o, .inr (1, [.int (nI 0), .int (nI n), .int (nI 0), .int w4, .ref ca, .ref cb, .long z1, .long z2])), (ca, .inl (cA, (600, .inr (.inl f)))), (cb, .inl (cA, (40, .inr (.inl g))))]) [0, 1, 2] rfl
  have hDc := hD.sub (ws' := [(o, .inr (1, [.int (nI 0), .int (nI n), .int (nI 0), .int w4, .ref ca, .ref cb, .long z1, .long z2])), (ca, .inl (cA, (600, .inr (.inl f)))), (cb, .inl (cA, (40, .inr (.inl g))))]) [0, 1, 2] (by decide) rfl
  have hKc := hK.sub (tys' := [(cA, .long)]) [0] rfl
  have hFc := va_free (wc := [(o, .inr (1, [.int (nI 0), .int (nI n), .int (nI 0), .int w4, .ref ca, .ref cb, .long z1, .long z2])), (ca, .inl (cA, (600, .inr (.inl f)))), (cb, .inl (cA, (40, .inr (.inl g))))]) hD hS hA [0, 1, 2] rfl
  refine va_callv (va_runV (As := [.int (nI 0), .int (nI mm), .int (nI j)]) (rest := []) ⟨hx, hb, hml, hown, hW⟩ (ct_M_pathOf l dC dI o ca cb cA (nI 0) n w4 z1 z2 f 10 0 mm j 0 g H.size h1 (by omega) (by omega) (by omega)) (cwV 3 hW (tq_gV qm_350 qm_352 qs_M_pathOf qm_2 qm_353) rfl rfl rfl (by decide +kernel) ⟨Nat.le_of_ble_eq_true rfl, Nat.le_of_ble_eq_true rfl⟩) ⟨tq_b2, va_recv hKc hPc (ci := 1) (q0 := 0) rfl rfl, fun U hU hW9 => ⟨rfl, by rw [hU], by rw [hU]; exact hPc, va_K.moved hW9.alike hKc, hDc.weaken (fun _ _ _ _ => trivial)⟩⟩ rfl rfl hl.1 rfl (lv_room (Nat.le_of_ble_eq_true rfl)) qd_M_path_44 ⟨Nat.le_of_ble_eq_true rfl, Nat.le_of_ble_eq_true rfl⟩) hS (fun q _ h => hFc q h) hFc (fun u t9 H1 locs ht9 hvm hw hB hz1 hk1 hS => ?_)
  obtain ⟨hP1, hK1, hD1⟩ := hB
  rw [ht9] at hP1
  obtain ⟨hP, hD⟩ := va_join (wr := []) (w1 := [(o, .inr (1, [.int (nI 0), .int (nI n), .int (nI (0 + (tq_pt (fun j => tq_leaf (f j)) 0 mm j).length)), .int w4, .ref ca, .ref cb, .long z1, .long z2])), (ca, .inl (cA, (600, .inr (.inl f)))), (cb, .inl (cA, (40, .inr (.inl (tq_wr g 0 (tq_pt (fun j => tq_leaf (f j)) 0 mm j))))))]) hP hD [0, 1, 2] [] rfl rfl (by decide) (by decide) hk1 hFc hP1 hD1
  generalize H1 = H at hP hS ⊢
  have hP : va_P (dC, dI) tq_cl [(o, .inr (1, [.int (nI 0), .int (nI n), .int (nI (0 + (tq_pt (fun j => tq_leaf (f j)) 0 mm j).length)), .int w4, .ref ca, .ref cb, .long z1, .long z2])), (ca, .inl (cA, (600, .inr (.inl f)))), (cb, .inl (cA, (40, .inr (.inl (tq_wr g 0 (tq_pt (fun j => tq_leaf (f j)) 0 mm j))))))] H := hP
  have hD : va_D A [(o, .inr (1, [.int (nI 0), .int (nI n), .int (nI (0 + (tq_pt (fun j => tq_leaf (f j)) 0 mm j).length)), .int w4, .ref ca, .ref cb, .long z1, .long z2])), (ca, .inl (cA, (600, .inr (.inl f)))), (cb, .inl (cA, (40, .inr (.inl (tq_wr g 0 (tq_pt (fun j => tq_leaf (f j)) 0 mm j))))))] := hD
  rw [e5] at hP hD
  refine lv_aload_n hx hb qd_M_path_47 rfl (lv_at hl 0 rfl) ?_
  refine va_get (D := (dC, dI)) (ci := 1) (v := .int (nI (tq_pl mm j))) (C := RX1) (T := TX1) (N := 8) hx hb hW inX1 hown hK hP 0 rfl rfl 2 (by decide) (hW _ qm_283) (fun _ h9 => h9) rfl qd_M_path_48 ?_
  exact W.iret hx hb hr (fun t ht hW9 => ⟨⟨_, (), rfl, rfl, by rw [ht]; exact hP, va_K.moved hW9.alike hK, hD⟩, hS.F ht⟩) hS.2.2 qd_M_path_51
def tq_SO (l : Launch) (dC : Nat → ClassId) (dI : Nat → Nat → Nat) (o ca cb : Nat) (cA : ClassId) (w1 : Int32) (n : Nat) (w4 : Int32) (z1 z2 : Int64) (f : Nat → Int64) (d i y z k : Nat) (kn : Bool) (g : Nat → Int64) (sz : Nat) : Prop := Met l qy_M_stepsOf qw_M_stepsOf ({ frames := d + 13, cells := 0, slots := 0, locals := 25 * d + 325 }) (va_Pc [.ref o, .int (nI i), .int (nI y), .int (nI z), .int (tq_b kn)] (tq_rw (dC, dI) [(o, .inr (1, [.int w1, .int (nI n), .int (nI k), .int w4, .ref ca, .ref cb, .long z1, .long z2])), (ca, .inl (cA, (600, .inr (.inl f)))), (cb, .inl (cA, (40, .inr (.inl g))))] [(cA, .long)] sz)) (va_Qv (fun _ : Unit => True) (fun _ t => tq_in (dC, dI) [(o, .inr (1, [.int w1, .int (nI n), .int (nI (k + (tq_st (fun j => tq_leaf (f j)) kn i y z).length)), .int w4, .ref ca, .ref cb, .long z1, .long z2])), (ca, .inl (cA, (600, .inr (.inl f)))), (cb, .inl (cA, (40, .inr (.inl ((tq_wr g k (tq_st (fun j => tq_leaf (f j)) kn i y z)))))))] [(cA, .long)] (va_A [(o, .inr (1, [.int w1, .int (nI n), .int (nI k), .int w4, .ref ca, .ref cb, .long z1, .long z2])), (ca, .inl (cA, (600, .inr (.inl f)))), (cb, .inl (cA, (40, .inr (.inl g))))] sz) t) (va_A [(o, .inr (1, [.int w1, .int (nI n), .int (nI k), .int w4, .ref ca, .ref cb, .long z1, .long z2])), (ca, .inl (cA, (600, .inr (.inl f)))), (cb, .inl (cA, (40, .inr (.inl g))))] sz)) 0 0 (va_A [(o, .inr (1, [.int w1, .int (nI n), .int (nI k), .int w4, .ref ca, .ref cb, .long z1, .long z2])), (ca, .inl (cA, (600, .inr (.inl f)))), (cb, .inl (cA, (40, .inr (.inl g))))] sz)
set_option maxHeartbeats 4000000 in
set_option maxRecDepth 100000 in
/-- stepsOf: the STEPS come behind what stands -/
theorem ct_M_stepsOf_s (l : Launch) (dC : Nat → ClassId) (dI : Nat → Nat → Nat) (o ca cb : Nat) (cA : ClassId) (w1 : Int32) (n : Nat) (w4 : Int32) (z1 z2 : Int64) (f : Nat → Int64) (d i y z k : Nat) (kn : Bool) (g : Nat → Int64) (sz : Nat) (ih : ∀ d1, d = d1 + 1 → ∀ (i y z k : Nat) (kn : Bool) (g : Nat → Int64) (sz : Nat), 1 ≤ y → y ≤ z → i + z ≤ 600 → z ≤ 2 ^ d1 → k + tq_sl kn y z ≤ 40 → tq_SO l dC dI o ca cb cA w1 n w4 z1 z2 f d1 i y z k kn g sz) (h0 : 1 ≤ y) (h1 : y ≤ z) (h3 : i + z ≤ 600) (h2 : z ≤ 2 ^ d) (h4 : k + tq_sl kn y z ≤ 40) : tq_SO l dC dI o ca cb cA w1 n w4 z1 z2 f d i y z k kn g sz := by
  refine Met.ofW (cc := qc_M_stepsOf) (maxL := 6) (ret := none) (by decide) rfl ?_
  intro p e s m args below meth c s₁ B hml hv
  obtain ⟨rfl, hsz, hP, hK, hD0⟩ := hv
  have hx := B.exec
  have hb := B.bytes
  have hr := B.returns
  have hts := atoms_spec (ws := qw_M_stepsOf) B.pre
  have hW : ∀ w ∈ tq_W, w.before ([.ref o, .int (nI i), .int (nI y), .int (nI z), .int (tq_b kn)] : List Value).toArray s = true := fun w h => hts w (List.mem_cons_of_mem _ h)
  have hown : s.vm.findClass RX1 = some m.cls := findClass_of_methodNamed B.named
  have hlocks := B.notSynchronized
  have hl := lv_entry ([.ref o, .int (nI i), .int (nI y), .int (nI z), .int (tq_b kn)]) (n := 6) (Nat.le_of_ble_eq_true rfl)
  rw [lg_entry_eq]
  generalize (lg_sl ([.ref o, .int (nI i), .int (nI y), .int (nI z), .int (tq_b kn)]) ++ List.replicate (6 - (lg_sl ([.ref o, .int (nI i), .int (nI y), .int (nI z), .int (tq_b kn)])).length) Slot.unset).toArray = ls at hl ⊢
  have hl : lv_has ls 6 [(0, .ref o), (1, .int (nI i)), (2, .int (nI y)), (3, .int (nI z)), (4, .int (tq_b kn))] := hl
  subst hsz
  have hD := hD0.self (sz := s.heap.size)
  generalize hAe : va_A [(o, .inr (1, [.int w1, .int (nI n), .int (nI k), .int w4, .ref ca, .ref cb, .long z1, .long z2])), (ca, .inl (cA, (600, .inr (.inl f)))), (cb, .inl (cA, (40, .inr (.inl g))))] s.heap.size = A at hD ⊢
  have hA : ∀ q : Nat, s.heap.size ≤ q → A q := fun q h => by rw [← hAe]; exact Or.inr h
  have hS : va_S A s.heap s.heap [] := va_S.rf
  refine lv_iload_n hx hb qd_M_stepsOf_0 rfl (lv_at hl 2 rfl) ?_
  refine lv_iload_n hx hb qd_M_stepsOf_1 rfl (lv_at hl 3 rfl) ?_
  refine tq_icmp_ne (x := y) (y := z) (tgt := 21) hx hb qd_M_stepsOf_2 (by decide) (by omega) (by omega) (fun c9 => ?_) (fun c9 => ?_)
  · obtain ⟨d1, rfl⟩ : ∃ d1, d = d1 + 1 := by
      cases d with
      | zero => omega
      | succ d1 => exact ⟨d1, rfl⟩
    have hlt := tq_pb_lt (n := z) (by omega)
    have hps := tq_pb_pos z
    have hh := tq_pb_half h2 (by omega)
    have hrr := tq_pb_rest h2 (by omega)
    refine lv_iload_n hx hb qd_M_stepsOf_21 rfl (lv_at hl 3 rfl) ?_
    refine vp_callSi (W.runS (As := [.int (nI z)]) (rest := []) ⟨hx, hb, hml, hown, hW⟩ (ct_M_below l z (by omega) (by omega)) (cwS 1 hW (tq_gS qm_335 qm_336 qm_2 qm_337) rfl rfl rfl (by decide +kernel) ⟨(show 0 + 1 ≤ d1 + 1 + 13 from by omega), (show 8 + (2 + 11) + (0) ≤ 25 * (d1 + 1) + 325 from by omega)⟩) ⟨tq_b0, fun U hU hW9 => ⟨rfl, trivial⟩⟩ rfl rfl hl.1 rfl (lv_room (Nat.le_of_ble_eq_true rfl)) qd_M_stepsOf_22 ⟨Nat.le_of_ble_eq_true rfl, Nat.le_of_ble_eq_true rfl⟩) (fun r9 e9 => ?_)
    subst e9
    refine lv_istore (lv' := [(5, .int (nI (tq_pb z))), (0, .ref o), (1, .int (nI i)), (2, .int (nI y)), (3, .int (nI z)), (4, .int (tq_b kn))]) hx hb qd_M_stepsOf_25 hl (by decide) rfl (fun ls hl => ?_)
    refine lv_iload_n hx hb qd_M_stepsOf_27 rfl (lv_at hl 3 rfl) ?_
    refine lv_iload hx hb qd_M_stepsOf_28 (lv_at hl 0 rfl) ?_
    refine tq_icmp_gt (x := y) (y := (tq_pb z)) (tgt := 62) hx hb qd_M_stepsOf_30 (by decide) (by omega) (by omega) (fun c1 => ?_) (fun c1 => ?_)
    · have e4 := tq_sl_r (b := kn) (m := y) (n := z) (by omega) c1 c9
      refine lv_aload_n hx hb qd_M_stepsOf_62 rfl (lv_at hl 1 rfl) ?_
      refine lv_iload_n hx hb qd_M_stepsOf_63 rfl (lv_at hl 2 rfl) ?_
      refine lv_iload hx hb qd_M_stepsOf_64 (lv_at hl 0 rfl) ?_
      refine lv_iadd hx hb qd_M_stepsOf_66 ?_
      refine tq_ti (y := nI (i + tq_pb z)) (nI_add _ _) ?_
      refine lv_iload_n hx hb qd_M_stepsOf_67 rfl (lv_at hl 3 rfl) ?_
      refine lv_iload hx hb qd_M_stepsOf_68 (lv_at hl 0 rfl) ?_
      refine lv_isub hx hb qd_M_stepsOf_70 ?_
      refine tq_ti (y := nI (y - tq_pb z)) (pk_sub (by omega)) ?_
      refine lv_iload_n hx hb qd_M_stepsOf_71 rfl (lv_at hl 4 rfl) ?_
      refine lv_iload hx hb qd_M_stepsOf_72 (lv_at hl 0 rfl) ?_
      refine lv_isub hx hb qd_M_stepsOf_74 ?_
      refine tq_ti (y := nI (z - tq_pb z)) (pk_sub (by omega)) ?_
      refine lv_iconst (v := nI 0) hx hb qd_M_stepsOf_75 (by decide +kernel) ?_
      refine tq_ti (y := tq_b false) (rfl) ?_
      have hPc := hP.sub (ws' := [(o, .inr (1, [.int w1, .int (nI n), .int (nI k), .int w4, .ref ca, .ref cb, .long z1, .long z2])), (ca, .inl (cA, (600, .inr (.inl f)))), (cb, .inl (cA, (40, .inr (.inl g))))]) [0, 1, 2] rfl
      have hDc := hD.sub (ws' := [(o, .inr (1, [.int w1, .int (nI n), .int (nI k), .int w4, .ref ca, .ref cb, .long z1, .long z2])), (ca, .inl (cA, (600, .inr (.inl f)))), (cb, .inl (cA, (40, .inr (.inl g))))]) [0, 1, 2] (by decide) rfl
      have hKc := hK.sub (tys' := [(cA, .long)]) [0] rfl
      have hFc := va_free (wc := [(o, .inr (1, [.int w1, .int (nI n), .int (nI k), .int w4, .ref ca, .ref cb, .long z1, .long z2])), (ca, .inl (cA, (600, .inr (.inl f)))), (cb, .inl (cA, (40, .inr (.inl g))))]) hD hS hA [0, 1, 2] rfl
      refine va_callv (va_runV (As := [.int (nI (i + tq_pb z)), .int (nI (y - tq_pb z)), .int (nI (z - tq_pb z)), .int (tq_b false)]) (rest := []) ⟨hx, hb, hml, hown, hW⟩ (ih d1 rfl (i + tq_pb z) (y - tq_pb z) (z - tq_pb z) k false g s.heap.size (by omega) (by omega) (by omega) hrr (by omega)) (cwV 4 hW (tq_gV qm_362 qm_364 qs_M_stepsOf qm_2 qm_365) rfl rfl rfl (by decide +kernel) ⟨(show d1 + 13 + 1 ≤ d1 + 1 + 13 from by omega), (show 8 + (6 + 11) + (25 * d1 + 325) ≤ 25 * (d1 + 1) + 325 from by omega)⟩) ⟨tq_b2, va_recv hKc hPc (ci := 1) (q0 := 0) rfl rfl, fun U hU hW9 => ⟨rfl, by rw [hU], by rw [hU]; exact hPc, va_K.moved hW9.alike hKc, hDc.weaken (fun _ _ _ _ => trivial)⟩⟩ rfl rfl hl.1 rfl (lv_room (Nat.le_of_ble_eq_true rfl)) qd_M_stepsOf_76 ⟨Nat.le_of_ble_eq_true rfl, Nat.le_of_ble_eq_true rfl⟩) hS (fun q _ h => hFc q h) hFc (fun u t9 H1 locs ht9 hvm hw hB hz1 hk1 hS => ?_)
      obtain ⟨hP1, hK1, hD1⟩ := hB
      rw [ht9] at hP1
      obtain ⟨hP, hD⟩ := va_join (wr := []) (w1 := [(o, .inr (1, [.int w1, .int (nI n), .int (nI (k + (tq_st (fun j => tq_leaf (f j)) false (i + tq_pb z) (y - tq_pb z) (z - tq_pb z)).length)), .int w4, .ref ca, .ref cb, .long z1, .long z2])), (ca, .inl (cA, (600, .inr (.inl f)))), (cb, .inl (cA, (40, .inr (.inl (tq_wr g k (tq_st (fun j => tq_leaf (f j)) false (i + tq_pb z) (y - tq_pb z) (z - tq_pb z)))))))]) hP hD [0, 1, 2] [] rfl rfl (by decide) (by decide) hk1 hFc hP1 hD1
      generalize H1 = H at hP hS ⊢
      have hP : va_P (dC, dI) tq_cl [(o, .inr (1, [.int w1, .int (nI n), .int (nI (k + (tq_st (fun j => tq_leaf (f j)) false (i + tq_pb z) (y - tq_pb z) (z - tq_pb z)).length)), .int w4, .ref ca, .ref cb, .long z1, .long z2])), (ca, .inl (cA, (600, .inr (.inl f)))), (cb, .inl (cA, (40, .inr (.inl (tq_wr g k (tq_st (fun j => tq_leaf (f j)) false (i + tq_pb z) (y - tq_pb z) (z - tq_pb z)))))))] H := hP
      have hD : va_D A [(o, .inr (1, [.int w1, .int (nI n), .int (nI (k + (tq_st (fun j => tq_leaf (f j)) false (i + tq_pb z) (y - tq_pb z) (z - tq_pb z)).length)), .int w4, .ref ca, .ref cb, .long z1, .long z2])), (ca, .inl (cA, (600, .inr (.inl f)))), (cb, .inl (cA, (40, .inr (.inl (tq_wr g k (tq_st (fun j => tq_leaf (f j)) false (i + tq_pb z) (y - tq_pb z) (z - tq_pb z)))))))] := hD
      have e5 : (tq_st (fun j => tq_leaf (f j)) false (i + tq_pb z) (y - tq_pb z) (z - tq_pb z)).length = tq_sl false (y - tq_pb z) (z - tq_pb z) := tq_st_len _ _ _ _
      refine lv_aload_n hx hb qd_M_stepsOf_79 rfl (lv_at hl 1 rfl) ?_
      refine lv_aload_n hx hb qd_M_stepsOf_80 rfl (lv_at hl 1 rfl) ?_
      refine lv_iload_n hx hb qd_M_stepsOf_81 rfl (lv_at hl 2 rfl) ?_
      refine lv_iload hx hb qd_M_stepsOf_82 (lv_at hl 0 rfl) ?_
      refine vp_callSl (W.runV (As := [.int (nI i), .int (nI (tq_pb z))]) (rest := [.ref o]) ⟨hx, hb, hml, hown, hW⟩ (ct_M_headOf l dC dI o ca cb cA w1 (nI n) (nI (k + (tq_st (fun j => tq_leaf (f j)) false (i + tq_pb z) (y - tq_pb z) (z - tq_pb z)).length)) w4 z1 z2 f 10 i ((tq_pb z)) (by omega) (by omega)) (cwV 2 hW (tq_gV qm_326 qm_328 qs_M_headOf qm_2 qm_329) rfl rfl rfl (by decide +kernel) ⟨(show 12 + 1 ≤ d1 + 1 + 13 from by omega), (show 8 + (6 + 11) + (300) ≤ 25 * (d1 + 1) + 325 from by omega)⟩) ⟨tq_b1, va_recv hK hP (ci := 1) (q0 := 0) rfl rfl, fun U hU hW9 => ⟨rfl, by rw [hU]; exact hP.sub [0, 1] rfl, va_K.moved hW9.alike (hK.sub [0] rfl)⟩⟩ rfl rfl hl.1 rfl (lv_room (Nat.le_of_ble_eq_true rfl)) qd_M_stepsOf_84 ⟨Nat.le_of_ble_eq_true rfl, Nat.le_of_ble_eq_true rfl⟩) (fun r9 e9 => ?_)
      subst e9
      have hPc := hP.sub (ws' := [(o, .inr (1, [.int w1, .int (nI n), .int (nI (k + (tq_st (fun j => tq_leaf (f j)) false (i + tq_pb z) (y - tq_pb z) (z - tq_pb z)).length)), .int w4, .ref ca, .ref cb, .long z1, .long z2])), (ca, .inl (cA, (600, .inr (.inl f)))), (cb, .inl (cA, (40, .inr (.inl (tq_wr g k (tq_st (fun j => tq_leaf (f j)) false (i + tq_pb z) (y - tq_pb z) (z - tq_pb z)))))))]) [0, 1, 2] rfl
      have hDc := hD.sub (ws' := [(o, .inr (1, [.int w1, .int (nI n), .int (nI (k + (tq_st (fun j => tq_leaf (f j)) false (i + tq_pb z) (y - tq_pb z) (z - tq_pb z)).length)), .int w4, .ref ca, .ref cb, .long z1, .long z2])), (ca, .inl (cA, (600, .inr (.inl f)))), (cb, .inl (cA, (40, .inr (.inl (tq_wr g k (tq_st (fun j => tq_leaf (f j)) false (i + tq_pb z) (y - tq_pb z) (z - tq_pb z)))))))]) [0, 1, 2] (by decide) rfl
      have hKc := hK.sub (tys' := [(cA, .long)]) [0] rfl
      have hFc := va_free (wc := [(o, .inr (1, [.int w1, .int (nI n), .int (nI (k + (tq_st (fun j => tq_leaf (f j)) false (i + tq_pb z) (y - tq_pb z) (z - tq_pb z)).length)), .int w4, .ref ca, .ref cb, .long z1, .long z2])), (ca, .inl (cA, (600, .inr (.inl f)))), (cb, .inl (cA, (40, .inr (.inl (tq_wr g k (tq_st (fun j => tq_leaf (f j)) false (i + tq_pb z) (y - tq_pb z) (z - tq_pb z)))))))]) hD hS hA [0, 1, 2] rfl
      refine va_callv (va_runV (As := [.long (tq_hd (fun j => tq_leaf (f j)) i ((tq_pb z)))]) (rest := []) ⟨hx, hb, hml, hown, hW⟩ (ct_M_put l dC dI o ca cb cA w1 n ((k + (tq_st (fun j => tq_leaf (f j)) false (i + tq_pb z) (y - tq_pb z) (z - tq_pb z)).length)) w4 z1 z2 f (tq_wr g k (tq_st (fun j => tq_leaf (f j)) false (i + tq_pb z) (y - tq_pb z) (z - tq_pb z))) H.size (tq_hd (fun j => tq_leaf (f j)) i ((tq_pb z))) (by omega)) (cwV 1 hW (tq_gV qm_354 qm_356 qs_M_put qm_2 qm_357) rfl rfl rfl (by decide +kernel) ⟨(show 0 + 1 ≤ d1 + 1 + 13 from by omega), (show 8 + (3 + 11) + (0) ≤ 25 * (d1 + 1) + 325 from by omega)⟩) ⟨tq_b2, va_recv hKc hPc (ci := 1) (q0 := 0) rfl rfl, fun U hU hW9 => ⟨rfl, by rw [hU], by rw [hU]; exact hPc, va_K.moved hW9.alike hKc, hDc.weaken (fun _ _ _ _ => trivial)⟩⟩ rfl rfl hl.1 rfl (lv_room (Nat.le_of_ble_eq_true rfl)) qd_M_stepsOf_87 ⟨Nat.le_of_ble_eq_true rfl, Nat.le_of_ble_eq_true rfl⟩) hS (fun q _ h => hFc q h) hFc (fun u t9 H1 locs ht9 hvm hw hB hz1 hk1 hS => ?_)
      obtain ⟨hP1, hK1, hD1⟩ := hB
      rw [ht9] at hP1
      obtain ⟨hP, hD⟩ := va_join (wr := []) (w1 := [(o, .inr (1, [.int w1, .int (nI n), .int (nI (((k + (tq_st (fun j => tq_leaf (f j)) false (i + tq_pb z) (y - tq_pb z) (z - tq_pb z)).length)) + 1)), .int w4, .ref ca, .ref cb, .long z1, .long z2])), (ca, .inl (cA, (600, .inr (.inl f)))), (cb, .inl (cA, (40, .inr (.inl (vp_updL (tq_wr g k (tq_st (fun j => tq_leaf (f j)) false (i + tq_pb z) (y - tq_pb z) (z - tq_pb z))) ((k + (tq_st (fun j => tq_leaf (f j)) false (i + tq_pb z) (y - tq_pb z) (z - tq_pb z)).length)) (tq_hd (fun j => tq_leaf (f j)) i ((tq_pb z))))))))]) hP hD [0, 1, 2] [] rfl rfl (by decide) (by decide) hk1 hFc hP1 hD1
      generalize H1 = H at hP hS ⊢
      have hP : va_P (dC, dI) tq_cl [(o, .inr (1, [.int w1, .int (nI n), .int (nI (((k + (tq_st (fun j => tq_leaf (f j)) false (i + tq_pb z) (y - tq_pb z) (z - tq_pb z)).length)) + 1)), .int w4, .ref ca, .ref cb, .long z1, .long z2])), (ca, .inl (cA, (600, .inr (.inl f)))), (cb, .inl (cA, (40, .inr (.inl (vp_updL (tq_wr g k (tq_st (fun j => tq_leaf (f j)) false (i + tq_pb z) (y - tq_pb z) (z - tq_pb z))) ((k + (tq_st (fun j => tq_leaf (f j)) false (i + tq_pb z) (y - tq_pb z) (z - tq_pb z)).length)) (tq_hd (fun j => tq_leaf (f j)) i ((tq_pb z))))))))] H := hP
      have hD : va_D A [(o, .inr (1, [.int w1, .int (nI n), .int (nI (((k + (tq_st (fun j => tq_leaf (f j)) false (i + tq_pb z) (y - tq_pb z) (z - tq_pb z)).length)) + 1)), .int w4, .ref ca, .ref cb, .long z1, .long z2])), (ca, .inl (cA, (600, .inr (.inl f)))), (cb, .inl (cA, (40, .inr (.inl (vp_updL (tq_wr g k (tq_st (fun j => tq_leaf (f j)) false (i + tq_pb z) (y - tq_pb z) (z - tq_pb z))) ((k + (tq_st (fun j => tq_leaf (f j)) false (i + tq_pb z) (y - tq_pb z) (z - tq_pb z)).length)) (tq_hd (fun j => tq_leaf (f j)) i ((tq_pb z))))))))] := hD
      rw [tq_st_r (by omega) c1 c9, tq_wr_snoc, List.length_append, ← Nat.add_assoc]
      exact W.vret hx hb hr (fun t ht hW9 => ⟨⟨(), rfl, trivial, by rw [ht]; exact hP, va_K.moved hW9.alike hK, hD⟩, hS.F ht⟩) hS.2.2 qd_M_stepsOf_90
    · have e4 := tq_sl_l (b := kn) (m := y) (n := z) (by omega) c1
      refine lv_aload_n hx hb qd_M_stepsOf_33 rfl (lv_at hl 1 rfl) ?_
      refine lv_iload_n hx hb qd_M_stepsOf_34 rfl (lv_at hl 2 rfl) ?_
      refine lv_iload_n hx hb qd_M_stepsOf_35 rfl (lv_at hl 3 rfl) ?_
      refine lv_iload hx hb qd_M_stepsOf_36 (lv_at hl 0 rfl) ?_
      refine lv_iload hx hb qd_M_stepsOf_38 (lv_at hl 5 rfl) ?_
      have hPc := hP.sub (ws' := [(o, .inr (1, [.int w1, .int (nI n), .int (nI k), .int w4, .ref ca, .ref cb, .long z1, .long z2])), (ca, .inl (cA, (600, .inr (.inl f)))), (cb, .inl (cA, (40, .inr (.inl g))))]) [0, 1, 2] rfl
      have hDc := hD.sub (ws' := [(o, .inr (1, [.int w1, .int (nI n), .int (nI k), .int w4, .ref ca, .ref cb, .long z1, .long z2])), (ca, .inl (cA, (600, .inr (.inl f)))), (cb, .inl (cA, (40, .inr (.inl g))))]) [0, 1, 2] (by decide) rfl
      have hKc := hK.sub (tys' := [(cA, .long)]) [0] rfl
      have hFc := va_free (wc := [(o, .inr (1, [.int w1, .int (nI n), .int (nI k), .int w4, .ref ca, .ref cb, .long z1, .long z2])), (ca, .inl (cA, (600, .inr (.inl f)))), (cb, .inl (cA, (40, .inr (.inl g))))]) hD hS hA [0, 1, 2] rfl
      refine va_callv (va_runV (As := [.int (nI i), .int (nI y), .int (nI (tq_pb z)), .int (tq_b kn)]) (rest := []) ⟨hx, hb, hml, hown, hW⟩ (ih d1 rfl i y (tq_pb z) k kn g s.heap.size h0 c1 (by omega) hh (by omega)) (cwV 4 hW (tq_gV qm_362 qm_364 qs_M_stepsOf qm_2 qm_365) rfl rfl rfl (by decide +kernel) ⟨(show d1 + 13 + 1 ≤ d1 + 1 + 13 from by omega), (show 8 + (6 + 11) + (25 * d1 + 325) ≤ 25 * (d1 + 1) + 325 from by omega)⟩) ⟨tq_b2, va_recv hKc hPc (ci := 1) (q0 := 0) rfl rfl, fun U hU hW9 => ⟨rfl, by rw [hU], by rw [hU]; exact hPc, va_K.moved hW9.alike hKc, hDc.weaken (fun _ _ _ _ => trivial)⟩⟩ rfl rfl hl.1 rfl (lv_room (Nat.le_of_ble_eq_true rfl)) qd_M_stepsOf_40 ⟨Nat.le_of_ble_eq_true rfl, Nat.le_of_ble_eq_true rfl⟩) hS (fun q _ h => hFc q h) hFc (fun u t9 H1 locs ht9 hvm hw hB hz1 hk1 hS => ?_)
      obtain ⟨hP1, hK1, hD1⟩ := hB
      rw [ht9] at hP1
      obtain ⟨hP, hD⟩ := va_join (wr := []) (w1 := [(o, .inr (1, [.int w1, .int (nI n), .int (nI (k + (tq_st (fun j => tq_leaf (f j)) kn i y (tq_pb z)).length)), .int w4, .ref ca, .ref cb, .long z1, .long z2])), (ca, .inl (cA, (600, .inr (.inl f)))), (cb, .inl (cA, (40, .inr (.inl (tq_wr g k (tq_st (fun j => tq_leaf (f j)) kn i y (tq_pb z)))))))]) hP hD [0, 1, 2] [] rfl rfl (by decide) (by decide) hk1 hFc hP1 hD1
      generalize H1 = H at hP hS ⊢
      have hP : va_P (dC, dI) tq_cl [(o, .inr (1, [.int w1, .int (nI n), .int (nI (k + (tq_st (fun j => tq_leaf (f j)) kn i y (tq_pb z)).length)), .int w4, .ref ca, .ref cb, .long z1, .long z2])), (ca, .inl (cA, (600, .inr (.inl f)))), (cb, .inl (cA, (40, .inr (.inl (tq_wr g k (tq_st (fun j => tq_leaf (f j)) kn i y (tq_pb z)))))))] H := hP
      have hD : va_D A [(o, .inr (1, [.int w1, .int (nI n), .int (nI (k + (tq_st (fun j => tq_leaf (f j)) kn i y (tq_pb z)).length)), .int w4, .ref ca, .ref cb, .long z1, .long z2])), (ca, .inl (cA, (600, .inr (.inl f)))), (cb, .inl (cA, (40, .inr (.inl (tq_wr g k (tq_st (fun j => tq_leaf (f j)) kn i y (tq_pb z)))))))] := hD
      have e5 : (tq_st (fun j => tq_leaf (f j)) kn i y (tq_pb z)).length = tq_sl kn y (tq_pb z) := tq_st_len _ _ _ _
      refine lv_aload_n hx hb qd_M_stepsOf_43 rfl (lv_at hl 1 rfl) ?_
      refine lv_aload_n hx hb qd_M_stepsOf_44 rfl (lv_at hl 1 rfl) ?_
      refine lv_iload_n hx hb qd_M_stepsOf_45 rfl (lv_at hl 2 rfl) ?_
      refine lv_iload hx hb qd_M_stepsOf_46 (lv_at hl 0 rfl) ?_
      refine lv_iadd hx hb qd_M_stepsOf_48 ?_
      refine tq_ti (y := nI (i + tq_pb z)) (nI_add _ _) ?_
      refine lv_iload_n hx hb qd_M_stepsOf_49 rfl (lv_at hl 4 rfl) ?_
      refine lv_iload hx hb qd_M_stepsOf_50 (lv_at hl 0 rfl) ?_
      refine lv_isub hx hb qd_M_stepsOf_52 ?_
      refine tq_ti (y := nI (z - tq_pb z)) (pk_sub (by omega)) ?_
      refine vp_callSl (W.runV (As := [.int (nI (i + tq_pb z)), .int (nI (z - tq_pb z))]) (rest := [.ref o]) ⟨hx, hb, hml, hown, hW⟩ (ct_M_headOf l dC dI o ca cb cA w1 (nI n) (nI (k + (tq_st (fun j => tq_leaf (f j)) kn i y (tq_pb z)).length)) w4 z1 z2 f 10 ((i + tq_pb z)) ((z - tq_pb z)) (by omega) (by omega)) (cwV 2 hW (tq_gV qm_326 qm_328 qs_M_headOf qm_2 qm_329) rfl rfl rfl (by decide +kernel) ⟨(show 12 + 1 ≤ d1 + 1 + 13 from by omega), (show 8 + (6 + 11) + (300) ≤ 25 * (d1 + 1) + 325 from by omega)⟩) ⟨tq_b1, va_recv hK hP (ci := 1) (q0 := 0) rfl rfl, fun U hU hW9 => ⟨rfl, by rw [hU]; exact hP.sub [0, 1] rfl, va_K.moved hW9.alike (hK.sub [0] rfl)⟩⟩ rfl rfl hl.1 rfl (lv_room (Nat.le_of_ble_eq_true rfl)) qd_M_stepsOf_53 ⟨Nat.le_of_ble_eq_true rfl, Nat.le_of_ble_eq_true rfl⟩) (fun r9 e9 => ?_)
      subst e9
      have hPc := hP.sub (ws' := [(o, .inr (1, [.int w1, .int (nI n), .int (nI (k + (tq_st (fun j => tq_leaf (f j)) kn i y (tq_pb z)).length)), .int w4, .ref ca, .ref cb, .long z1, .long z2])), (ca, .inl (cA, (600, .inr (.inl f)))), (cb, .inl (cA, (40, .inr (.inl (tq_wr g k (tq_st (fun j => tq_leaf (f j)) kn i y (tq_pb z)))))))]) [0, 1, 2] rfl
      have hDc := hD.sub (ws' := [(o, .inr (1, [.int w1, .int (nI n), .int (nI (k + (tq_st (fun j => tq_leaf (f j)) kn i y (tq_pb z)).length)), .int w4, .ref ca, .ref cb, .long z1, .long z2])), (ca, .inl (cA, (600, .inr (.inl f)))), (cb, .inl (cA, (40, .inr (.inl (tq_wr g k (tq_st (fun j => tq_leaf (f j)) kn i y (tq_pb z)))))))]) [0, 1, 2] (by decide) rfl
      have hKc := hK.sub (tys' := [(cA, .long)]) [0] rfl
      have hFc := va_free (wc := [(o, .inr (1, [.int w1, .int (nI n), .int (nI (k + (tq_st (fun j => tq_leaf (f j)) kn i y (tq_pb z)).length)), .int w4, .ref ca, .ref cb, .long z1, .long z2])), (ca, .inl (cA, (600, .inr (.inl f)))), (cb, .inl (cA, (40, .inr (.inl (tq_wr g k (tq_st (fun j => tq_leaf (f j)) kn i y (tq_pb z)))))))]) hD hS hA [0, 1, 2] rfl
      refine va_callv (va_runV (As := [.long (tq_hd (fun j => tq_leaf (f j)) ((i + tq_pb z)) ((z - tq_pb z)))]) (rest := []) ⟨hx, hb, hml, hown, hW⟩ (ct_M_put l dC dI o ca cb cA w1 n ((k + (tq_st (fun j => tq_leaf (f j)) kn i y (tq_pb z)).length)) w4 z1 z2 f (tq_wr g k (tq_st (fun j => tq_leaf (f j)) kn i y (tq_pb z))) H.size (tq_hd (fun j => tq_leaf (f j)) ((i + tq_pb z)) ((z - tq_pb z))) (by omega)) (cwV 1 hW (tq_gV qm_354 qm_356 qs_M_put qm_2 qm_357) rfl rfl rfl (by decide +kernel) ⟨(show 0 + 1 ≤ d1 + 1 + 13 from by omega), (show 8 + (3 + 11) + (0) ≤ 25 * (d1 + 1) + 325 from by omega)⟩) ⟨tq_b2, va_recv hKc hPc (ci := 1) (q0 := 0) rfl rfl, fun U hU hW9 => ⟨rfl, by rw [hU], by rw [hU]; exact hPc, va_K.moved hW9.alike hKc, hDc.weaken (fun _ _ _ _ => trivial)⟩⟩ rfl rfl hl.1 rfl (lv_room (Nat.le_of_ble_eq_true rfl)) qd_M_stepsOf_56 ⟨Nat.le_of_ble_eq_true rfl, Nat.le_of_ble_eq_true rfl⟩) hS (fun q _ h => hFc q h) hFc (fun u t9 H1 locs ht9 hvm hw hB hz1 hk1 hS => ?_)
      obtain ⟨hP1, hK1, hD1⟩ := hB
      rw [ht9] at hP1
      obtain ⟨hP, hD⟩ := va_join (wr := []) (w1 := [(o, .inr (1, [.int w1, .int (nI n), .int (nI (((k + (tq_st (fun j => tq_leaf (f j)) kn i y (tq_pb z)).length)) + 1)), .int w4, .ref ca, .ref cb, .long z1, .long z2])), (ca, .inl (cA, (600, .inr (.inl f)))), (cb, .inl (cA, (40, .inr (.inl (vp_updL (tq_wr g k (tq_st (fun j => tq_leaf (f j)) kn i y (tq_pb z))) ((k + (tq_st (fun j => tq_leaf (f j)) kn i y (tq_pb z)).length)) (tq_hd (fun j => tq_leaf (f j)) ((i + tq_pb z)) ((z - tq_pb z))))))))]) hP hD [0, 1, 2] [] rfl rfl (by decide) (by decide) hk1 hFc hP1 hD1
      generalize H1 = H at hP hS ⊢
      have hP : va_P (dC, dI) tq_cl [(o, .inr (1, [.int w1, .int (nI n), .int (nI (((k + (tq_st (fun j => tq_leaf (f j)) kn i y (tq_pb z)).length)) + 1)), .int w4, .ref ca, .ref cb, .long z1, .long z2])), (ca, .inl (cA, (600, .inr (.inl f)))), (cb, .inl (cA, (40, .inr (.inl (vp_updL (tq_wr g k (tq_st (fun j => tq_leaf (f j)) kn i y (tq_pb z))) ((k + (tq_st (fun j => tq_leaf (f j)) kn i y (tq_pb z)).length)) (tq_hd (fun j => tq_leaf (f j)) ((i + tq_pb z)) ((z - tq_pb z))))))))] H := hP
      have hD : va_D A [(o, .inr (1, [.int w1, .int (nI n), .int (nI (((k + (tq_st (fun j => tq_leaf (f j)) kn i y (tq_pb z)).length)) + 1)), .int w4, .ref ca, .ref cb, .long z1, .long z2])), (ca, .inl (cA, (600, .inr (.inl f)))), (cb, .inl (cA, (40, .inr (.inl (vp_updL (tq_wr g k (tq_st (fun j => tq_leaf (f j)) kn i y (tq_pb z))) ((k + (tq_st (fun j => tq_leaf (f j)) kn i y (tq_pb z)).length)) (tq_hd (fun j => tq_leaf (f j)) ((i + tq_pb z)) ((z - tq_pb z))))))))] := hD
      refine lv_goto (tgt := 90) hx hb qd_M_stepsOf_59 (by decide) ?_
      rw [tq_st_l (by omega) c1, tq_wr_snoc, List.length_append, ← Nat.add_assoc]
      exact W.vret hx hb hr (fun t ht hW9 => ⟨⟨(), rfl, trivial, by rw [ht]; exact hP, va_K.moved hW9.alike hK, hD⟩, hS.F ht⟩) hS.2.2 qd_M_stepsOf_90
  · subst c9
    rw [tq_sl_e] at h4
    cases kn with
    | true =>
      refine lv_iload hx hb qd_M_stepsOf_5 (lv_at hl 4 rfl) ?_
      refine tq_ti (y := nI 1) (rfl) ?_
      refine tq_if_ne (x := 1) (tgt := 20) hx hb qd_M_stepsOf_7 (by decide) (by omega) (fun c9 => ?_) (fun c9 => by omega)
      rw [tq_st_e]
      exact W.vret hx hb hr (fun t ht hW9 => ⟨⟨(), rfl, trivial, by rw [ht]; exact hP, va_K.moved hW9.alike hK, hD⟩, hS.F ht⟩) hS.2.2 qd_M_stepsOf_20
    | false =>
      have h4 : k + 1 ≤ 40 := h4
      refine lv_iload hx hb qd_M_stepsOf_5 (lv_at hl 4 rfl) ?_
      refine tq_ti (y := nI 0) (rfl) ?_
      refine tq_if_ne (x := 0) (tgt := 20) hx hb qd_M_stepsOf_7 (by decide) (by omega) (fun c9 => by omega) (fun c9 => ?_)
      refine lv_aload_n hx hb qd_M_stepsOf_10 rfl (lv_at hl 0 rfl) ?_
      refine lv_aload_n hx hb qd_M_stepsOf_11 rfl (lv_at hl 0 rfl) ?_
      refine lv_iload_n hx hb qd_M_stepsOf_12 rfl (lv_at hl 1 rfl) ?_
      refine lv_iload_n hx hb qd_M_stepsOf_13 rfl (lv_at hl 3 rfl) ?_
      refine vp_callSl (W.runV (As := [.int (nI i), .int (nI y)]) (rest := [.ref o]) ⟨hx, hb, hml, hown, hW⟩ (ct_M_headOf l dC dI o ca cb cA w1 (nI n) (nI k) w4 z1 z2 f 10 i y (by omega) (by omega)) (cwV 2 hW (tq_gV qm_326 qm_328 qs_M_headOf qm_2 qm_329) rfl rfl rfl (by decide +kernel) ⟨(show 12 + 1 ≤ d + 13 from by omega), (show 8 + (6 + 11) + (300) ≤ 25 * d + 325 from by omega)⟩) ⟨tq_b1, va_recv hK hP (ci := 1) (q0 := 0) rfl rfl, fun U hU hW9 => ⟨rfl, by rw [hU]; exact hP.sub [0, 1] rfl, va_K.moved hW9.alike (hK.sub [0] rfl)⟩⟩ rfl rfl hl.1 rfl (lv_room (Nat.le_of_ble_eq_true rfl)) qd_M_stepsOf_14 ⟨Nat.le_of_ble_eq_true rfl, Nat.le_of_ble_eq_true rfl⟩) (fun r9 e9 => ?_)
      subst e9
      have hPc := hP.sub (ws' := [(o, .inr (1, [.int w1, .int (nI n), .int (nI k), .int w4, .ref ca, .ref cb, .long z1, .long z2])), (ca, .inl (cA, (600, .inr (.inl f)))), (cb, .inl (cA, (40, .inr (.inl g))))]) [0, 1, 2] rfl
      have hDc := hD.sub (ws' := [(o, .inr (1, [.int w1, .int (nI n), .int (nI k), .int w4, .ref ca, .ref cb, .long z1, .long z2])), (ca, .inl (cA, (600, .inr (.inl f)))), (cb, .inl (cA, (40, .inr (.inl g))))]) [0, 1, 2] (by decide) rfl
      have hKc := hK.sub (tys' := [(cA, .long)]) [0] rfl
      have hFc := va_free (wc := [(o, .inr (1, [.int w1, .int (nI n), .int (nI k), .int w4, .ref ca, .ref cb, .long z1, .long z2])), (ca, .inl (cA, (600, .inr (.inl f)))), (cb, .inl (cA, (40, .inr (.inl g))))]) hD hS hA [0, 1, 2] rfl
      refine va_callv (va_runV (As := [.long (tq_hd (fun j => tq_leaf (f j)) i y)]) (rest := []) ⟨hx, hb, hml, hown, hW⟩ (ct_M_put l dC dI o ca cb cA w1 n k w4 z1 z2 f g s.heap.size (tq_hd (fun j => tq_leaf (f j)) i y) (by omega)) (cwV 1 hW (tq_gV qm_354 qm_356 qs_M_put qm_2 qm_357) rfl rfl rfl (by decide +kernel) ⟨(show 0 + 1 ≤ d + 13 from by omega), (show 8 + (3 + 11) + (0) ≤ 25 * d + 325 from by omega)⟩) ⟨tq_b2, va_recv hKc hPc (ci := 1) (q0 := 0) rfl rfl, fun U hU hW9 => ⟨rfl, by rw [hU], by rw [hU]; exact hPc, va_K.moved hW9.alike hKc, hDc.weaken (fun _ _ _ _ => trivial)⟩⟩ rfl rfl hl.1 rfl (lv_room (Nat.le_of_ble_eq_true rfl)) qd_M_stepsOf_17 ⟨Nat.le_of_ble_eq_true rfl, Nat.le_of_ble_eq_true rfl⟩) hS (fun q _ h => hFc q h) hFc (fun u t9 H1 locs ht9 hvm hw hB hz1 hk1 hS => ?_)
      obtain ⟨hP1, hK1, hD1⟩ := hB
      rw [ht9] at hP1
      obtain ⟨hP, hD⟩ := va_join (wr := []) (w1 := [(o, .inr (1, [.int w1, .int (nI n), .int (nI (k + 1)), .int w4, .ref ca, .ref cb, .long z1, .long z2])), (ca, .inl (cA, (600, .inr (.inl f)))), (cb, .inl (cA, (40, .inr (.inl (vp_updL g k (tq_hd (fun j => tq_leaf (f j)) i y))))))]) hP hD [0, 1, 2] [] rfl rfl (by decide) (by decide) hk1 hFc hP1 hD1
      generalize H1 = H at hP hS ⊢
      have hP : va_P (dC, dI) tq_cl [(o, .inr (1, [.int w1, .int (nI n), .int (nI (k + 1)), .int w4, .ref ca, .ref cb, .long z1, .long z2])), (ca, .inl (cA, (600, .inr (.inl f)))), (cb, .inl (cA, (40, .inr (.inl (vp_updL g k (tq_hd (fun j => tq_leaf (f j)) i y))))))] H := hP
      have hD : va_D A [(o, .inr (1, [.int w1, .int (nI n), .int (nI (k + 1)), .int w4, .ref ca, .ref cb, .long z1, .long z2])), (ca, .inl (cA, (600, .inr (.inl f)))), (cb, .inl (cA, (40, .inr (.inl (vp_updL g k (tq_hd (fun j => tq_leaf (f j)) i y))))))] := hD
      rw [tq_st_e]
      exact W.vret hx hb hr (fun t ht hW9 => ⟨⟨(), rfl, trivial, by rw [ht]; exact hP, va_K.moved hW9.alike hK, hD⟩, hS.F ht⟩) hS.2.2 qd_M_stepsOf_20
theorem ct_M_stepsOf (l : Launch) (dC : Nat → ClassId) (dI : Nat → Nat → Nat) (o ca cb : Nat) (cA : ClassId) (w1 : Int32) (n : Nat) (w4 : Int32) (z1 z2 : Int64) (f : Nat → Int64) : ∀ (d i y z k : Nat) (kn : Bool) (g : Nat → Int64) (sz : Nat), 1 ≤ y → y ≤ z → i + z ≤ 600 → z ≤ 2 ^ d → k + tq_sl kn y z ≤ 40 → tq_SO l dC dI o ca cb cA w1 n w4 z1 z2 f d i y z k kn g sz
  | 0, i, y, z, k, kn, g, sz, h0, h1, h2, h3, h4 => ct_M_stepsOf_s l dC dI o ca cb cA w1 n w4 z1 z2 f 0 i y z k kn g sz (fun d1 h => by omega) h0 h1 h2 h3 h4
  | d + 1, i, y, z, k, kn, g, sz, h0, h1, h2, h3, h4 => ct_M_stepsOf_s l dC dI o ca cb cA w1 n w4 z1 z2 f (d + 1) i y z k kn g sz (fun d1 h i y z k kn g sz a0 a1 a2 a3 a4 => by cases h; exact ct_M_stepsOf l dC dI o ca cb cA w1 n w4 z1 z2 f d i y z k kn g sz a0 a1 a2 a3 a4) h0 h1 h2 h3 h4
set_option maxHeartbeats 4000000 in
set_option maxRecDepth 100000 in
theorem ct_M_steps (l : Launch) (dC : Nat → ClassId) (dI : Nat → Nat → Nat) (o ca cb : Nat) (cA : ClassId) (w1 : Int32) (n k : Nat) (w4 : Int32) (z1 z2 : Int64) (f g : Nat → Int64) (sz : Nat) (mm j : Nat) (h0 : 1 ≤ mm) (h1 : mm ≤ j) (hj : j ≤ n) (hn : n ≤ 600) : Met l qy_M_steps qw_M_steps ({ frames := 24, cells := 0, slots := 0, locals := 620 }) (va_Pc [.ref o, .int (nI mm), .int (nI j)] (tq_rw (dC, dI) [(o, .inr (1, [.int w1, .int (nI n), .int (nI k), .int w4, .ref ca, .ref cb, .long z1, .long z2])), (ca, .inl (cA, (600, .inr (.inl f)))), (cb, .inl (cA, (40, .inr (.inl g))))] [(cA, .long)] sz)) (va_Qi (fun r (_ : Unit) => r = nI (tq_sl true mm j)) (fun _ t => tq_in (dC, dI) [(o, .inr (1, [.int (nI 0), .int (nI n), .int (nI (tq_sl true mm j)), .int w4, .ref ca, .ref cb, .long z1, .long z2])), (ca, .inl (cA, (600, .inr (.inl f)))), (cb, .inl (cA, (40, .inr (.inl ((tq_wr g 0 (tq_st (fun j => tq_leaf (f j)) true 0 mm j)))))))] [(cA, .long)] (va_A [(o, .inr (1, [.int w1, .int (nI n), .int (nI k), .int w4, .ref ca, .ref cb, .long z1, .long z2])), (ca, .inl (cA, (600, .inr (.inl f)))), (cb, .inl (cA, (40, .inr (.inl g))))] sz) t) (va_A [(o, .inr (1, [.int w1, .int (nI n), .int (nI k), .int w4, .ref ca, .ref cb, .long z1, .long z2])), (ca, .inl (cA, (600, .inr (.inl f)))), (cb, .inl (cA, (40, .inr (.inl g))))] sz)) 0 0 (va_A [(o, .inr (1, [.int w1, .int (nI n), .int (nI k), .int w4, .ref ca, .ref cb, .long z1, .long z2])), (ca, .inl (cA, (600, .inr (.inl f)))), (cb, .inl (cA, (40, .inr (.inl g))))] sz) := by
  refine Met.ofW (cc := qc_M_steps) (maxL := 3) (ret := (some .int)) (by decide) rfl ?_
  intro p e s m args below meth c s₁ B hml hv
  obtain ⟨rfl, hsz, hP, hK, hD0⟩ := hv
  have hx := B.exec
  have hb := B.bytes
  have hr := B.returns
  have hts := atoms_spec (ws := qw_M_steps) B.pre
  have hW : ∀ w ∈ tq_W, w.before ([.ref o, .int (nI mm), .int (nI j)] : List Value).toArray s = true := fun w h => hts w (List.mem_cons_of_mem _ h)
  have hown : s.vm.findClass RX1 = some m.cls := findClass_of_methodNamed B.named
  have hlocks := B.notSynchronized
  have hl := lv_entry ([.ref o, .int (nI mm), .int (nI j)]) (n := 3) (Nat.le_of_ble_eq_true rfl)
  rw [lg_entry_eq]
  generalize (lg_sl ([.ref o, .int (nI mm), .int (nI j)]) ++ List.replicate (3 - (lg_sl ([.ref o, .int (nI mm), .int (nI j)])).length) Slot.unset).toArray = ls at hl ⊢
  have hl : lv_has ls 3 [(0, .ref o), (1, .int (nI mm)), (2, .int (nI j))] := hl
  subst hsz
  have hD := hD0.self (sz := s.heap.size)
  generalize hAe : va_A [(o, .inr (1, [.int w1, .int (nI n), .int (nI k), .int w4, .ref ca, .ref cb, .long z1, .long z2])), (ca, .inl (cA, (600, .inr (.inl f)))), (cb, .inl (cA, (40, .inr (.inl g))))] s.heap.size = A at hD ⊢
  have hA : ∀ q : Nat, s.heap.size ≤ q → A q := fun q h => by rw [← hAe]; exact Or.inr h
  have hS : va_S A s.heap s.heap [] := va_S.rf
  have hsl := tq_sl_le 10 true mm j (by omega)
  have e5 : 0 + (tq_st (fun j => tq_leaf (f j)) true 0 mm j).length = tq_sl true mm j := by rw [Nat.zero_add]; exact tq_st_len _ _ _ _
  refine lv_aload_n hx hb qd_M_steps_0 rfl (lv_at hl 0 rfl) ?_
  refine lv_iload_n hx hb qd_M_steps_1 rfl (lv_at hl 1 rfl) ?_
  refine lv_iconst (v := nI 1) hx hb qd_M_steps_2 (by decide +kernel) ?_
  refine tq_icmp_lt (x := mm) (y := 1) (tgt := 19) hx hb qd_M_steps_3 (by decide) (by omega) (by omega) (fun c9 => by omega) (fun c9 => ?_)
  refine lv_iload_n hx hb qd_M_steps_6 rfl (lv_at hl 1 rfl) ?_
  refine lv_iload_n hx hb qd_M_steps_7 rfl (lv_at hl 2 rfl) ?_
  refine tq_icmp_gt (x := mm) (y := j) (tgt := 19) hx hb qd_M_steps_8 (by decide) (by omega) (by omega) (fun c9 => by omega) (fun c9 => ?_)
  refine lv_iload_n hx hb qd_M_steps_11 rfl (lv_at hl 2 rfl) ?_
  refine lv_aload_n hx hb qd_M_steps_12 rfl (lv_at hl 0 rfl) ?_
  refine va_get (D := (dC, dI)) (ci := 1) (v := .int (nI n)) (C := RX1) (T := TX1) (N := 8) hx hb hW inX1 hown hK hP 0 rfl rfl 1 (by decide) (hW _ qm_282) (fun _ h9 => h9) rfl qd_M_steps_13 ?_
  refine tq_icmp_le (x := j) (y := n) (tgt := 23) hx hb qd_M_steps_16 (by decide) (by omega) (by omega) (fun c9 => ?_) (fun c9 => by omega)
  refine lv_iconst (v := nI 0) hx hb qd_M_steps_23 (by decide +kernel) ?_
  refine va_put (D := (dC, dI)) (ci := 1) (v := .int (nI 0)) (ty := .int) (C := RX1) (T := TX1) (N := 8) hx hb hW inX1 tyX1 tyX1_ok nmX1 hown hK hP hD hS 0 rfl rfl 0 (by decide) (hW _ qm_281) (fun _ h9 => h9) rfl (by decide +kernel) rfl rfl (Nat.le_of_ble_eq_true rfl) qd_M_steps_24 (fun H locs hP hD hS => ?_)
  have hP : va_P (dC, dI) tq_cl [(o, .inr (1, [.int (nI 0), .int (nI n), .int (nI k), .int w4, .ref ca, .ref cb, .long z1, .long z2])), (ca, .inl (cA, (600, .inr (.inl f)))), (cb, .inl (cA, (40, .inr (.inl g))))] H := hP
  have hD : va_D A [(o, .inr (1, [.int (nI 0), .int (nI n), .int (nI k), .int w4, .ref ca, .ref cb, .long z1, .long z2])), (ca, .inl (cA, (600, .inr (.inl f)))), (cb, .inl (cA, (40, .inr (.inl g))))] := hD
  refine lv_aload_n hx hb qd_M_steps_27 rfl (lv_at hl 0 rfl) ?_
  refine va_get (D := (dC, dI)) (ci := 1) (v := .int (nI 0)) (C := RX1) (T := TX1) (N := 8) hx hb hW inX1 hown hK hP 0 rfl rfl 0 (by decide) (hW _ qm_281) (fun _ h9 => h9) rfl qd_M_steps_28 ?_
  refine tq_if_le (x := 0) (tgt := 36) hx hb qd_M_steps_31 (by decide) (by omega) (fun c9 => ?_) (fun c9 => by omega)
  refine lv_aload_n hx hb qd_M_steps_36 rfl (lv_at hl 0 rfl) ?_
  refine lv_iconst (v := nI 0) hx hb qd_M_steps_37 (by decide +kernel) ?_
  refine va_put (D := (dC, dI)) (ci := 1) (v := .int (nI 0)) (ty := .int) (C := RX1) (T := TX1) (N := 8) hx hb hW inX1 tyX1 tyX1_ok nmX1 hown hK hP hD hS 0 rfl rfl 2 (by decide) (hW _ qm_283) (fun _ h9 => h9) rfl (by decide +kernel) rfl rfl (Nat.le_of_ble_eq_true rfl) qd_M_steps_38 (fun H locs hP hD hS => ?_)
  have hP : va_P (dC, dI) tq_cl [(o, .inr (1, [.int (nI 0), .int (nI n), .int (nI 0), .int w4, .ref ca, .ref cb, .long z1, .long z2])), (ca, .inl (cA, (600, .inr (.inl f)))), (cb, .inl (cA, (40, .inr (.inl g))))] H := hP
  have hD : va_D A [(o, .inr (1, [.int (nI 0), .int (nI n), .int (nI 0), .int w4, .ref ca, .ref cb, .long z1, .long z2])), (ca, .inl (cA, (600, .inr (.inl f)))), (cb, .inl (cA, (40, .inr (.inl g))))] := hD
  refine lv_aload_n hx hb qd_M_steps_41 rfl (lv_at hl 0 rfl) ?_
  refine lv_iconst (v := nI 0) hx hb qd_M_steps_42 (by decide +kernel) ?_
  refine lv_iload_n hx hb qd_M_steps_43 rfl (lv_at hl 1 rfl) ?_
  refine lv_iload_n hx hb qd_M_steps_44 rfl (lv_at hl 2 rfl) ?_
  refine lv_iconst (v := nI 1) hx hb qd_M_steps_45 (by decide +kernel) ?_
  refine tq_ti (y := tq_b true) (rfl) ?_
  have hPc := hP.sub (ws' := [(o, .inr (1, [.int (nI 0), .int (nI n), .int (nI 0), .int w4, .ref ca, .ref cb, .long z1, .long z2])), (ca, .inl (cA, (600, .inr (.inl f)))), (cb, .inl (cA, (40, .inr (.inl g))))]) [0, 1, 2] rfl
  have hDc := hD.sub (ws' := [(o, .inr (1, [.int (nI 0), .int (nI n), .int (nI 0), .int w4, .ref ca, .ref cb, .long z1, .long z2])), (ca, .inl (cA, (600, .inr (.inl f)))), (cb, .inl (cA, (40, .inr (.inl g))))]) [0, 1, 2] (by decide) rfl
  have hKc := hK.sub (tys' := [(cA, .long)]) [0] rfl
  have hFc := va_free (wc := [(o, .inr (1, [.int (nI 0), .int (nI n), .int (nI 0), .int w4, .ref ca, .ref cb, .long z1, .long z2])), (ca, .inl (cA, (600, .inr (.inl f)))), (cb, .inl (cA, (40, .inr (.inl g))))]) hD hS hA [0, 1, 2] rfl
  refine va_callv (va_runV (As := [.int (nI 0), .int (nI mm), .int (nI j), .int (tq_b true)]) (rest := []) ⟨hx, hb, hml, hown, hW⟩ (ct_M_stepsOf l dC dI o ca cb cA (nI 0) n w4 z1 z2 f 10 0 mm j 0 true g H.size h0 h1 (by omega) (by omega) (by omega)) (cwV 4 hW (tq_gV qm_362 qm_364 qs_M_stepsOf qm_2 qm_365) rfl rfl rfl (by decide +kernel) ⟨Nat.le_of_ble_eq_true rfl, Nat.le_of_ble_eq_true rfl⟩) ⟨tq_b2, va_recv hKc hPc (ci := 1) (q0 := 0) rfl rfl, fun U hU hW9 => ⟨rfl, by rw [hU], by rw [hU]; exact hPc, va_K.moved hW9.alike hKc, hDc.weaken (fun _ _ _ _ => trivial)⟩⟩ rfl rfl hl.1 rfl (lv_room (Nat.le_of_ble_eq_true rfl)) qd_M_steps_46 ⟨Nat.le_of_ble_eq_true rfl, Nat.le_of_ble_eq_true rfl⟩) hS (fun q _ h => hFc q h) hFc (fun u t9 H1 locs ht9 hvm hw hB hz1 hk1 hS => ?_)
  obtain ⟨hP1, hK1, hD1⟩ := hB
  rw [ht9] at hP1
  obtain ⟨hP, hD⟩ := va_join (wr := []) (w1 := [(o, .inr (1, [.int (nI 0), .int (nI n), .int (nI (0 + (tq_st (fun j => tq_leaf (f j)) true 0 mm j).length)), .int w4, .ref ca, .ref cb, .long z1, .long z2])), (ca, .inl (cA, (600, .inr (.inl f)))), (cb, .inl (cA, (40, .inr (.inl (tq_wr g 0 (tq_st (fun j => tq_leaf (f j)) true 0 mm j))))))]) hP hD [0, 1, 2] [] rfl rfl (by decide) (by decide) hk1 hFc hP1 hD1
  generalize H1 = H at hP hS ⊢
  have hP : va_P (dC, dI) tq_cl [(o, .inr (1, [.int (nI 0), .int (nI n), .int (nI (0 + (tq_st (fun j => tq_leaf (f j)) true 0 mm j).length)), .int w4, .ref ca, .ref cb, .long z1, .long z2])), (ca, .inl (cA, (600, .inr (.inl f)))), (cb, .inl (cA, (40, .inr (.inl (tq_wr g 0 (tq_st (fun j => tq_leaf (f j)) true 0 mm j))))))] H := hP
  have hD : va_D A [(o, .inr (1, [.int (nI 0), .int (nI n), .int (nI (0 + (tq_st (fun j => tq_leaf (f j)) true 0 mm j).length)), .int w4, .ref ca, .ref cb, .long z1, .long z2])), (ca, .inl (cA, (600, .inr (.inl f)))), (cb, .inl (cA, (40, .inr (.inl (tq_wr g 0 (tq_st (fun j => tq_leaf (f j)) true 0 mm j))))))] := hD
  rw [e5] at hP hD
  refine lv_aload_n hx hb qd_M_steps_49 rfl (lv_at hl 0 rfl) ?_
  refine va_get (D := (dC, dI)) (ci := 1) (v := .int (nI (tq_sl true mm j))) (C := RX1) (T := TX1) (N := 8) hx hb hW inX1 hown hK hP 0 rfl rfl 2 (by decide) (hW _ qm_283) (fun _ h9 => h9) rfl qd_M_steps_50 ?_
  exact W.iret hx hb hr (fun t ht hW9 => ⟨⟨_, (), rfl, rfl, by rw [ht]; exact hP, va_K.moved hW9.alike hK, hD⟩, hS.F ht⟩) hS.2.2 qd_M_steps_53
