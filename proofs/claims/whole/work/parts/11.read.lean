def tq_HX (l : Launch) (dC : Nat → ClassId) (dI : Nat → Nat → Nat) (a : Nat) (cA : ClassId) (f : Nat → Int64) (d i n : Nat) : Prop := Met l qy_X_headOf qw_X_headOf ({ frames := d + 2, cells := 0, slots := 0, locals := 24 * d + 50 }) (va_Pc [.ref a, .int (nI i), .int (nI (i + n))] (tq_ro (dC, dI) tq_cl [(a, .inl (cA, (600, .inr (.inl f))))] [(cA, .long)])) (vp_Sl (fun r => r = tq_hd f i n)) 0 0 (fun _ => False)
set_option maxHeartbeats 4000000 in
set_option maxRecDepth 100000 in
/-- headOf: the HEAD of n LEAVES from i on -/
theorem ct_X_headOf_s (l : Launch) (dC : Nat → ClassId) (dI : Nat → Nat → Nat) (a : Nat) (cA : ClassId) (f : Nat → Int64) (d i n : Nat) (ih : ∀ d1, d = d1 + 1 → ∀ i n, i + n ≤ 600 → n ≤ 2 ^ d1 → tq_HX l dC dI a cA f d1 i n) (h1 : i + n ≤ 600) (h2 : n ≤ 2 ^ d) : tq_HX l dC dI a cA f d i n := by
  refine Met.ofW (cc := qc_X_headOf) (maxL := 5) (ret := (some .long)) (by decide) rfl ?_
  intro p e s m args below meth c s₁ B hml hv
  obtain ⟨rfl, hP, hK⟩ := hv
  have hx := B.exec
  have hb := B.bytes
  have hr := B.returns
  have hts := atoms_spec (ws := qw_X_headOf) B.pre
  have hW : ∀ w ∈ tq_W, w.before ([.ref a, .int (nI i), .int (nI (i + n))] : List Value).toArray s = true := fun w h => hts w (List.mem_cons_of_mem _ h)
  have hown : s.vm.findClass RX0 = some m.cls := findClass_of_methodNamed B.named
  have hlocks := B.notSynchronized
  have hl := lv_entry ([.ref a, .int (nI i), .int (nI (i + n))]) (n := 5) (Nat.le_of_ble_eq_true rfl)
  rw [lg_entry_eq]
  generalize (lg_sl ([.ref a, .int (nI i), .int (nI (i + n))]) ++ List.replicate (5 - (lg_sl ([.ref a, .int (nI i), .int (nI (i + n))])).length) Slot.unset).toArray = ls at hl ⊢
  have hl : lv_has ls 5 [(0, .ref a), (1, .int (nI i)), (2, .int (nI (i + n)))] := hl
  refine lv_iload_n hx hb qd_X_headOf_0 rfl (lv_at hl 2 rfl) ?_
  refine lv_iload_n hx hb qd_X_headOf_1 rfl (lv_at hl 1 rfl) ?_
  refine lv_isub hx hb qd_X_headOf_2 ?_
  refine tq_ti (y := nI n) (by rw [pk_sub (by omega)]; congr 1; omega) ?_
  refine lv_istore_n (lv' := [(3, .int (nI n)), (0, .ref a), (1, .int (nI i)), (2, .int (nI (i + n)))]) hx hb qd_X_headOf_3 rfl hl (by decide) rfl (fun ls hl => ?_)
  refine lv_iload_n hx hb qd_X_headOf_4 rfl (lv_at hl 0 rfl) ?_
  refine tq_if_gt (x := n) (tgt := 10) hx hb qd_X_headOf_5 (by decide) (by omega) (fun c9 => ?_) (fun c9 => ?_)
  · refine lv_iload_n hx hb qd_X_headOf_10 rfl (lv_at hl 0 rfl) ?_
    refine lv_iconst (v := nI 1) hx hb qd_X_headOf_11 (by decide +kernel) ?_
    refine tq_icmp_ne (x := n) (y := 1) (tgt := 19) hx hb qd_X_headOf_12 (by decide) (by omega) (by omega) (fun c10 => ?_) (fun c10 => ?_)
    · obtain ⟨d1, rfl⟩ : ∃ d1, d = d1 + 1 := by
        cases d with
        | zero => omega
        | succ d1 => exact ⟨d1, rfl⟩
      have hlt := tq_pb_lt (n := n) (by omega)
      have hps := tq_pb_pos n
      have hh := tq_pb_half h2 (by omega)
      have hrr := tq_pb_rest h2 (by omega)
      refine lv_iload_n hx hb qd_X_headOf_19 rfl (lv_at hl 2 rfl) ?_
      refine lv_iload_n hx hb qd_X_headOf_20 rfl (lv_at hl 0 rfl) ?_
      refine vp_callSi (W.runS (As := [.int (nI n)]) (rest := [.int (nI i)]) ⟨hx, hb, hml, hown, hW⟩ (ct_X_powerBelow l n (by omega) (by omega)) (cwS 1 hW (tq_gS qm_41 qm_42 qm_1 qm_43) rfl rfl rfl (by decide +kernel) ⟨(show 0 + 1 ≤ d1 + 1 + 2 from by omega), (show 8 + (2 + 11) + (0) ≤ 24 * (d1 + 1) + 50 from by omega)⟩) ⟨tq_b0, fun U hU hW9 => ⟨rfl, trivial⟩⟩ rfl rfl hl.1 rfl (lv_room (Nat.le_of_ble_eq_true rfl)) qd_X_headOf_21 ⟨Nat.le_of_ble_eq_true rfl, Nat.le_of_ble_eq_true rfl⟩) (fun r9 e9 => ?_)
      subst e9
      refine lv_iadd hx hb qd_X_headOf_24 ?_
      refine tq_ti (y := nI (i + tq_pb n)) (nI_add _ _) ?_
      refine lv_istore (lv' := [(4, .int (nI (i + tq_pb n))), (3, .int (nI n)), (0, .ref a), (1, .int (nI i)), (2, .int (nI (i + n)))]) hx hb qd_X_headOf_25 hl (by decide) rfl (fun ls hl => ?_)
      refine lv_aload_n hx hb qd_X_headOf_27 rfl (lv_at hl 2 rfl) ?_
      refine lv_iload_n hx hb qd_X_headOf_28 rfl (lv_at hl 3 rfl) ?_
      refine lv_iload hx hb qd_X_headOf_29 (lv_at hl 0 rfl) ?_
      refine vp_callSl (W.runS (As := [.ref a, .int (nI i), .int (nI (i + tq_pb n))]) (rest := []) ⟨hx, hb, hml, hown, hW⟩ (ih d1 rfl i (tq_pb n) (by omega) hh) (cwS 3 hW (tq_gS qm_207 qm_208 qm_1 qm_209) rfl rfl rfl (by decide +kernel) ⟨(show d1 + 2 + 1 ≤ d1 + 1 + 2 from by omega), (show 8 + (5 + 11) + (24 * d1 + 50) ≤ 24 * (d1 + 1) + 50 from by omega)⟩) ⟨tq_b1, fun U hU hW9 => ⟨rfl, by rw [hU]; exact hP.sub [0] rfl, va_K.moved hW9.alike (hK.sub [0] rfl)⟩⟩ rfl rfl hl.1 rfl (lv_room (Nat.le_of_ble_eq_true rfl)) qd_X_headOf_31 ⟨Nat.le_of_ble_eq_true rfl, Nat.le_of_ble_eq_true rfl⟩) (fun r9 e9 => ?_)
      subst e9
      refine lv_aload_n hx hb qd_X_headOf_34 rfl (lv_at hl 2 rfl) ?_
      refine lv_iload hx hb qd_X_headOf_35 (lv_at hl 0 rfl) ?_
      refine lv_iload_n hx hb qd_X_headOf_37 rfl (lv_at hl 4 rfl) ?_
      refine tq_ti (y := nI (i + tq_pb n + (n - tq_pb n))) (by congr 1; omega) ?_
      refine vp_callSl (W.runS (As := [.ref a, .int (nI (i + tq_pb n)), .int (nI (i + tq_pb n + (n - tq_pb n)))]) (rest := [.long (tq_hd f i (tq_pb n))]) ⟨hx, hb, hml, hown, hW⟩ (ih d1 rfl (i + tq_pb n) (n - tq_pb n) (by omega) hrr) (cwS 3 hW (tq_gS qm_207 qm_208 qm_1 qm_209) rfl rfl rfl (by decide +kernel) ⟨(show d1 + 2 + 1 ≤ d1 + 1 + 2 from by omega), (show 8 + (5 + 11) + (24 * d1 + 50) ≤ 24 * (d1 + 1) + 50 from by omega)⟩) ⟨tq_b1, fun U hU hW9 => ⟨rfl, by rw [hU]; exact hP.sub [0] rfl, va_K.moved hW9.alike (hK.sub [0] rfl)⟩⟩ rfl rfl hl.1 rfl (lv_room (Nat.le_of_ble_eq_true rfl)) qd_X_headOf_38 ⟨Nat.le_of_ble_eq_true rfl, Nat.le_of_ble_eq_true rfl⟩) (fun r9 e9 => ?_)
      subst e9
      refine vp_callSl (W.runS (As := [.long (tq_hd f i (tq_pb n)), .long (tq_hd f (i + tq_pb n) (n - tq_pb n))]) (rest := []) ⟨hx, hb, hml, hown, hW⟩ (ct_X_nodeOf l (tq_hd f i (tq_pb n)) (tq_hd f (i + tq_pb n) (n - tq_pb n))) (cwS 2 hW (tq_gS qm_55 qm_56 qm_1 qm_57) rfl rfl rfl (by decide +kernel) ⟨(show 1 + 1 ≤ d1 + 1 + 2 from by omega), (show 8 + (4 + 11) + (27) ≤ 24 * (d1 + 1) + 50 from by omega)⟩) ⟨tq_b0, fun U hU hW9 => ⟨rfl, trivial⟩⟩ rfl rfl hl.1 rfl (lv_room (Nat.le_of_ble_eq_true rfl)) qd_X_headOf_41 ⟨Nat.le_of_ble_eq_true rfl, Nat.le_of_ble_eq_true rfl⟩) (fun r9 e9 => ?_)
      subst e9
      exact W.lret hx hb hr (fun t ht hW9 => ⟨_, rfl, (tq_hd_n (by omega)).symm, ht⟩) (fun _ h => nomatch h) qd_X_headOf_44
    · refine lv_aload_n hx hb qd_X_headOf_15 rfl (lv_at hl 1 rfl) ?_
      refine lv_iload_n hx hb qd_X_headOf_16 rfl (lv_at hl 2 rfl) ?_
      refine tq_lald hx hb hK hP 0 0 rfl rfl (j := i) (by omega) (by decide) qd_X_headOf_17 ?_
      exact W.lret hx hb hr (fun t ht hW9 => ⟨_, rfl, by rw [c10, tq_hd_1], ht⟩) (fun _ h => nomatch h) qd_X_headOf_18
  · subst c9
    refine lv_lconst (v := 0) hx hb qd_X_headOf_8 (by decide) ?_
    exact W.lret hx hb hr (fun t ht hW9 => ⟨_, rfl, (tq_hd_0 f i).symm, ht⟩) (fun _ h => nomatch h) qd_X_headOf_9
theorem ct_X_headOf (l : Launch) (dC : Nat → ClassId) (dI : Nat → Nat → Nat) (a : Nat) (cA : ClassId) (f : Nat → Int64) : ∀ (d i n : Nat), i + n ≤ 600 → n ≤ 2 ^ d → tq_HX l dC dI a cA f d i n
  | 0, i, n, h1, h2 => ct_X_headOf_s l dC dI a cA f 0 i n (fun d1 h => by omega) h1 h2
  | d + 1, i, n, h1, h2 => ct_X_headOf_s l dC dI a cA f (d + 1) i n (fun d1 h i n h3 h4 => by cases h; exact ct_X_headOf l dC dI a cA f d i n h3 h4) h1 h2
def tq_HP (l : Launch) (dC : Nat → ClassId) (dI : Nat → Nat → Nat) (a : Nat) (cA : ClassId) (g : Nat → Int64) (v : Int64) (d k n : Nat) : Prop := Met l qy_X_headByPath qw_X_headByPath ({ frames := d + 2, cells := 0, slots := 0, locals := 28 * d + 50 }) (va_Pc [.ref a, .int (nI (tq_pl k n)), .int (nI k), .int (nI n), .long v] (tq_ro (dC, dI) tq_cl [(a, .inl (cA, (40, .inr (.inl g))))] [(cA, .long)])) (vp_Sl (fun r => r = tq_rt g k n v)) 0 0 (fun _ => False)
set_option maxHeartbeats 4000000 in
set_option maxRecDepth 100000 in
/-- headByPath: what a PROOF makes in the place of a PATH -/
theorem ct_X_headByPath_s (l : Launch) (dC : Nat → ClassId) (dI : Nat → Nat → Nat) (a : Nat) (cA : ClassId) (g : Nat → Int64) (v : Int64) (d k n : Nat) (ih : ∀ d1, d = d1 + 1 → ∀ k n, k < n → n ≤ 2 ^ d1 → d1 ≤ 30 → tq_HP l dC dI a cA g v d1 k n) (h1 : k < n) (h2 : n ≤ 2 ^ d) (h3 : d ≤ 30) : tq_HP l dC dI a cA g v d k n := by
  refine Met.ofW (cc := qc_X_headByPath) (maxL := 9) (ret := (some .long)) (by decide) rfl ?_
  intro p e s m args below meth c s₁ B hml hv
  obtain ⟨rfl, hP, hK⟩ := hv
  have hx := B.exec
  have hb := B.bytes
  have hr := B.returns
  have hts := atoms_spec (ws := qw_X_headByPath) B.pre
  have hW : ∀ w ∈ tq_W, w.before ([.ref a, .int (nI (tq_pl k n)), .int (nI k), .int (nI n), .long v] : List Value).toArray s = true := fun w h => hts w (List.mem_cons_of_mem _ h)
  have hown : s.vm.findClass RX0 = some m.cls := findClass_of_methodNamed B.named
  have hlocks := B.notSynchronized
  have hl := lv_entry ([.ref a, .int (nI (tq_pl k n)), .int (nI k), .int (nI n), .long v]) (n := 9) (Nat.le_of_ble_eq_true rfl)
  rw [lg_entry_eq]
  generalize (lg_sl ([.ref a, .int (nI (tq_pl k n)), .int (nI k), .int (nI n), .long v]) ++ List.replicate (9 - (lg_sl ([.ref a, .int (nI (tq_pl k n)), .int (nI k), .int (nI n), .long v])).length) Slot.unset).toArray = ls at hl ⊢
  have hl : lv_has ls 9 [(0, .ref a), (1, .int (nI (tq_pl k n))), (2, .int (nI k)), (3, .int (nI n)), (4, .long v)] := hl
  have hpl := tq_pl_le d k n h2
  have hn30 : n ≤ 2 ^ 30 := Nat.le_trans h2 (Nat.pow_le_pow_right (by decide) h3)
  by_cases hn : n < 2
  · have e0 := tq_pl_0 (m := k) hn
    refine lv_iload_n hx hb qd_X_headByPath_0 rfl (lv_at hl 1 rfl) ?_
    refine tq_if_le (x := (tq_pl k n)) (tgt := 9) hx hb qd_X_headByPath_1 (by decide) (by omega) (fun c9 => ?_) (fun c9 => by omega)
    refine lv_lload hx hb qd_X_headByPath_9 (lv_at hl 4 rfl) ?_
    exact W.lret hx hb hr (fun t ht hW9 => ⟨_, rfl, (tq_rt_0 hn).symm, ht⟩) (fun _ h => nomatch h) qd_X_headByPath_11
  · obtain ⟨d1, rfl⟩ : ∃ d1, d = d1 + 1 := by
      cases d with
      | zero => omega
      | succ d1 => exact ⟨d1, rfl⟩
    have hlt := tq_pb_lt (n := n) (by omega)
    have hps := tq_pb_pos n
    have hh := tq_pb_half h2 (by omega)
    have hrr := tq_pb_rest h2 (by omega)
    have hpp := tq_pl_pos (m := k) (n := n) (by omega)
    refine lv_iload_n hx hb qd_X_headByPath_0 rfl (lv_at hl 1 rfl) ?_
    refine tq_if_le (x := (tq_pl k n)) (tgt := 9) hx hb qd_X_headByPath_1 (by decide) (by omega) (fun c9 => by omega) (fun c9 => ?_)
    refine lv_iload_n hx hb qd_X_headByPath_4 rfl (lv_at hl 3 rfl) ?_
    refine lv_iconst (v := nI 1) hx hb qd_X_headByPath_5 (by decide +kernel) ?_
    refine tq_icmp_gt (x := n) (y := 1) (tgt := 12) hx hb qd_X_headByPath_6 (by decide) (by omega) (by omega) (fun c1 => ?_) (fun c9 => by omega)
    refine lv_aload_n hx hb qd_X_headByPath_12 rfl (lv_at hl 0 rfl) ?_
    refine lv_iload_n hx hb qd_X_headByPath_13 rfl (lv_at hl 1 rfl) ?_
    refine lv_iconst (v := nI 1) hx hb qd_X_headByPath_14 (by decide +kernel) ?_
    refine lv_isub hx hb qd_X_headByPath_15 ?_
    refine tq_ti (y := nI (tq_pl k n - 1)) (pk_sub (by omega)) ?_
    refine tq_lald hx hb hK hP 0 0 rfl rfl (j := ((tq_pl k n - 1))) (by omega) (by decide) qd_X_headByPath_16 ?_
    refine lv_lstore (lv' := [(6, .long (g ((tq_pl k n - 1)))), (0, .ref a), (1, .int (nI (tq_pl k n))), (2, .int (nI k)), (3, .int (nI n)), (4, .long v)]) hx hb qd_X_headByPath_17 hl (by decide) rfl (fun ls hl => ?_)
    refine lv_iload_n hx hb qd_X_headByPath_19 rfl (lv_at hl 4 rfl) ?_
    refine vp_callSi (W.runS (As := [.int (nI n)]) (rest := []) ⟨hx, hb, hml, hown, hW⟩ (ct_X_powerBelow l n (by omega) (by omega)) (cwS 1 hW (tq_gS qm_41 qm_42 qm_1 qm_43) rfl rfl rfl (by decide +kernel) ⟨(show 0 + 1 ≤ d1 + 1 + 2 from by omega), (show 8 + (2 + 11) + (0) ≤ 28 * (d1 + 1) + 50 from by omega)⟩) ⟨tq_b0, fun U hU hW9 => ⟨rfl, trivial⟩⟩ rfl rfl hl.1 rfl (lv_room (Nat.le_of_ble_eq_true rfl)) qd_X_headByPath_20 ⟨Nat.le_of_ble_eq_true rfl, Nat.le_of_ble_eq_true rfl⟩) (fun r9 e9 => ?_)
    subst e9
    refine lv_istore (lv' := [(8, .int (nI (tq_pb n))), (6, .long (g ((tq_pl k n - 1)))), (0, .ref a), (1, .int (nI (tq_pl k n))), (2, .int (nI k)), (3, .int (nI n)), (4, .long v)]) hx hb qd_X_headByPath_23 hl (by decide) rfl (fun ls hl => ?_)
    refine lv_iload_n hx hb qd_X_headByPath_25 rfl (lv_at hl 4 rfl) ?_
    refine lv_iload hx hb qd_X_headByPath_26 (lv_at hl 0 rfl) ?_
    refine tq_icmp_ge (x := k) (y := (tq_pb n)) (tgt := 49) hx hb qd_X_headByPath_28 (by decide) (by omega) (by omega) (fun c9 => ?_) (fun c9 => ?_)
    · have e1 : tq_pl k n - 1 = tq_pl (k - tq_pb n) (n - tq_pb n) := by have := tq_pl_r (m := k) (n := n) (by omega) c9; omega
      refine lv_lload hx hb qd_X_headByPath_49 (lv_at hl 1 rfl) ?_
      refine lv_aload_n hx hb qd_X_headByPath_51 rfl (lv_at hl 2 rfl) ?_
      refine lv_iload_n hx hb qd_X_headByPath_52 rfl (lv_at hl 3 rfl) ?_
      refine lv_iconst (v := nI 1) hx hb qd_X_headByPath_53 (by decide +kernel) ?_
      refine lv_isub hx hb qd_X_headByPath_54 ?_
      refine tq_ti (y := nI (tq_pl (k - tq_pb n) (n - tq_pb n))) (by rw [pk_sub (by omega)]; congr 1) ?_
      refine lv_iload_n hx hb qd_X_headByPath_55 rfl (lv_at hl 4 rfl) ?_
      refine lv_iload hx hb qd_X_headByPath_56 (lv_at hl 0 rfl) ?_
      refine lv_isub hx hb qd_X_headByPath_58 ?_
      refine tq_ti (y := nI (k - tq_pb n)) (pk_sub (by omega)) ?_
      refine lv_iload_n hx hb qd_X_headByPath_59 rfl (lv_at hl 5 rfl) ?_
      refine lv_iload hx hb qd_X_headByPath_60 (lv_at hl 0 rfl) ?_
      refine lv_isub hx hb qd_X_headByPath_62 ?_
      refine tq_ti (y := nI (n - tq_pb n)) (pk_sub (by omega)) ?_
      refine lv_lload hx hb qd_X_headByPath_63 (lv_at hl 6 rfl) ?_
      refine vp_callSl (W.runS (As := [.ref a, .int (nI (tq_pl (k - tq_pb n) (n - tq_pb n))), .int (nI (k - tq_pb n)), .int (nI (n - tq_pb n)), .long v]) (rest := [.long (g ((tq_pl k n - 1)))]) ⟨hx, hb, hml, hown, hW⟩ (ih d1 rfl (k - tq_pb n) (n - tq_pb n) (by omega) hrr (by omega)) (cwS 5 hW (tq_gS qm_52 qm_53 qm_1 qm_54) rfl rfl rfl (by decide +kernel) ⟨(show d1 + 2 + 1 ≤ d1 + 1 + 2 from by omega), (show 8 + (9 + 11) + (28 * d1 + 50) ≤ 28 * (d1 + 1) + 50 from by omega)⟩) ⟨tq_b1, fun U hU hW9 => ⟨rfl, by rw [hU]; exact hP.sub [0] rfl, va_K.moved hW9.alike (hK.sub [0] rfl)⟩⟩ rfl rfl hl.1 rfl (lv_room (Nat.le_of_ble_eq_true rfl)) qd_X_headByPath_65 ⟨Nat.le_of_ble_eq_true rfl, Nat.le_of_ble_eq_true rfl⟩) (fun r9 e9 => ?_)
      subst e9
      refine vp_callSl (W.runS (As := [.long (g ((tq_pl k n - 1))), .long (tq_rt g (k - tq_pb n) (n - tq_pb n) v)]) (rest := []) ⟨hx, hb, hml, hown, hW⟩ (ct_X_nodeOf l (g ((tq_pl k n - 1))) (tq_rt g (k - tq_pb n) (n - tq_pb n) v)) (cwS 2 hW (tq_gS qm_55 qm_56 qm_1 qm_57) rfl rfl rfl (by decide +kernel) ⟨(show 1 + 1 ≤ d1 + 1 + 2 from by omega), (show 8 + (4 + 11) + (27) ≤ 28 * (d1 + 1) + 50 from by omega)⟩) ⟨tq_b0, fun U hU hW9 => ⟨rfl, trivial⟩⟩ rfl rfl hl.1 rfl (lv_room (Nat.le_of_ble_eq_true rfl)) qd_X_headByPath_68 ⟨Nat.le_of_ble_eq_true rfl, Nat.le_of_ble_eq_true rfl⟩) (fun r9 e9 => ?_)
      subst e9
      exact W.lret hx hb hr (fun t ht hW9 => ⟨_, rfl, by rw [tq_rt_r (by omega) c9, e1], ht⟩) (fun _ h => nomatch h) qd_X_headByPath_71
    · have e1 : tq_pl k n - 1 = tq_pl k (tq_pb n) := by have := tq_pl_l (m := k) (n := n) (by omega) c9; omega
      refine lv_aload_n hx hb qd_X_headByPath_31 rfl (lv_at hl 2 rfl) ?_
      refine lv_iload_n hx hb qd_X_headByPath_32 rfl (lv_at hl 3 rfl) ?_
      refine lv_iconst (v := nI 1) hx hb qd_X_headByPath_33 (by decide +kernel) ?_
      refine lv_isub hx hb qd_X_headByPath_34 ?_
      refine tq_ti (y := nI (tq_pl k (tq_pb n))) (by rw [pk_sub (by omega)]; congr 1) ?_
      refine lv_iload_n hx hb qd_X_headByPath_35 rfl (lv_at hl 4 rfl) ?_
      refine lv_iload hx hb qd_X_headByPath_36 (lv_at hl 0 rfl) ?_
      refine lv_lload hx hb qd_X_headByPath_38 (lv_at hl 6 rfl) ?_
      refine vp_callSl (W.runS (As := [.ref a, .int (nI (tq_pl k (tq_pb n))), .int (nI k), .int (nI (tq_pb n)), .long v]) (rest := []) ⟨hx, hb, hml, hown, hW⟩ (ih d1 rfl k (tq_pb n) c9 hh (by omega)) (cwS 5 hW (tq_gS qm_52 qm_53 qm_1 qm_54) rfl rfl rfl (by decide +kernel) ⟨(show d1 + 2 + 1 ≤ d1 + 1 + 2 from by omega), (show 8 + (9 + 11) + (28 * d1 + 50) ≤ 28 * (d1 + 1) + 50 from by omega)⟩) ⟨tq_b1, fun U hU hW9 => ⟨rfl, by rw [hU]; exact hP.sub [0] rfl, va_K.moved hW9.alike (hK.sub [0] rfl)⟩⟩ rfl rfl hl.1 rfl (lv_room (Nat.le_of_ble_eq_true rfl)) qd_X_headByPath_40 ⟨Nat.le_of_ble_eq_true rfl, Nat.le_of_ble_eq_true rfl⟩) (fun r9 e9 => ?_)
      subst e9
      refine lv_lload hx hb qd_X_headByPath_43 (lv_at hl 1 rfl) ?_
      refine vp_callSl (W.runS (As := [.long (tq_rt g k (tq_pb n) v), .long (g ((tq_pl k n - 1)))]) (rest := []) ⟨hx, hb, hml, hown, hW⟩ (ct_X_nodeOf l (tq_rt g k (tq_pb n) v) (g ((tq_pl k n - 1)))) (cwS 2 hW (tq_gS qm_55 qm_56 qm_1 qm_57) rfl rfl rfl (by decide +kernel) ⟨(show 1 + 1 ≤ d1 + 1 + 2 from by omega), (show 8 + (4 + 11) + (27) ≤ 28 * (d1 + 1) + 50 from by omega)⟩) ⟨tq_b0, fun U hU hW9 => ⟨rfl, trivial⟩⟩ rfl rfl hl.1 rfl (lv_room (Nat.le_of_ble_eq_true rfl)) qd_X_headByPath_45 ⟨Nat.le_of_ble_eq_true rfl, Nat.le_of_ble_eq_true rfl⟩) (fun r9 e9 => ?_)
      subst e9
      exact W.lret hx hb hr (fun t ht hW9 => ⟨_, rfl, by rw [tq_rt_l (by omega) c9, e1], ht⟩) (fun _ h => nomatch h) qd_X_headByPath_48
theorem ct_X_headByPath (l : Launch) (dC : Nat → ClassId) (dI : Nat → Nat → Nat) (a : Nat) (cA : ClassId) (g : Nat → Int64) (v : Int64) : ∀ (d k n : Nat), k < n → n ≤ 2 ^ d → d ≤ 30 → tq_HP l dC dI a cA g v d k n
  | 0, k, n, h1, h2, h3 => ct_X_headByPath_s l dC dI a cA g v 0 k n (fun d1 h => by omega) h1 h2 h3
  | d + 1, k, n, h1, h2, h3 => ct_X_headByPath_s l dC dI a cA g v (d + 1) k n (fun d1 h k n h4 h5 h6 => by cases h; exact ct_X_headByPath l dC dI a cA g v d k n h4 h5 h6) h1 h2 h3
def tq_HO (l : Launch) (dC : Nat → ClassId) (dI : Nat → Nat → Nat) (a : Nat) (cA : ClassId) (g : Nat → Int64) (v : Int64) (d : Nat) (kn : Bool) (k n : Nat) : Prop := Met l qy_X_oldHeadBySteps qw_X_oldHeadBySteps ({ frames := d + 2, cells := 0, slots := 0, locals := 28 * d + 50 }) (va_Pc [.ref a, .int (nI (tq_sl kn k n)), .int (nI k), .int (nI n), .long v] (tq_ro (dC, dI) tq_cl [(a, .inl (cA, (40, .inr (.inl g))))] [(cA, .long)])) (vp_Sl (fun r => r = tq_od g kn k n v)) 0 0 (fun _ => False)
set_option maxHeartbeats 4000000 in
set_option maxRecDepth 100000 in
/-- X_oldHeadBySteps -/
theorem ct_X_oldHeadBySteps_s (l : Launch) (dC : Nat → ClassId) (dI : Nat → Nat → Nat) (a : Nat) (cA : ClassId) (g : Nat → Int64) (v : Int64) (d : Nat) (kn : Bool) (k n : Nat) (ih : ∀ d1, d = d1 + 1 → ∀ (kn : Bool) (k n : Nat), 1 ≤ k → k ≤ n → n ≤ 2 ^ d1 → d1 ≤ 30 → tq_HO l dC dI a cA g v d1 kn k n) (h0 : 1 ≤ k) (h1 : k ≤ n) (h2 : n ≤ 2 ^ d) (h3 : d ≤ 30) : tq_HO l dC dI a cA g v d kn k n := by
  refine Met.ofW (cc := qc_X_oldHeadBySteps) (maxL := 9) (ret := (some .long)) (by decide) rfl ?_
  intro p e s m args below meth c s₁ B hml hv
  obtain ⟨rfl, hP, hK⟩ := hv
  have hx := B.exec
  have hb := B.bytes
  have hr := B.returns
  have hts := atoms_spec (ws := qw_X_oldHeadBySteps) B.pre
  have hW : ∀ w ∈ tq_W, w.before ([.ref a, .int (nI (tq_sl kn k n)), .int (nI k), .int (nI n), .long v] : List Value).toArray s = true := fun w h => hts w (List.mem_cons_of_mem _ h)
  have hown : s.vm.findClass RX0 = some m.cls := findClass_of_methodNamed B.named
  have hlocks := B.notSynchronized
  have hl := lv_entry ([.ref a, .int (nI (tq_sl kn k n)), .int (nI k), .int (nI n), .long v]) (n := 9) (Nat.le_of_ble_eq_true rfl)
  rw [lg_entry_eq]
  generalize (lg_sl ([.ref a, .int (nI (tq_sl kn k n)), .int (nI k), .int (nI n), .long v]) ++ List.replicate (9 - (lg_sl ([.ref a, .int (nI (tq_sl kn k n)), .int (nI k), .int (nI n), .long v])).length) Slot.unset).toArray = ls at hl ⊢
  have hl : lv_has ls 9 [(0, .ref a), (1, .int (nI (tq_sl kn k n))), (2, .int (nI k)), (3, .int (nI n)), (4, .long v)] := hl
  have hsl := tq_sl_le d kn k n h2
  have hn30 : n ≤ 2 ^ 30 := Nat.le_trans h2 (Nat.pow_le_pow_right (by decide) h3)
  by_cases hkn : k = n
  · subst hkn
    cases kn with
    | true =>
      refine lv_iload_n hx hb qd_X_oldHeadBySteps_0 rfl (lv_at hl 1 rfl) ?_
      refine tq_ti (y := nI 0) (by rw [tq_sl_e]; rfl) ?_
      refine tq_if_gt (x := 0) (tgt := 7) hx hb qd_X_oldHeadBySteps_1 (by decide) (by omega) (fun c9 => by omega) (fun c9 => ?_)
      refine lv_lload hx hb qd_X_oldHeadBySteps_4 (lv_at hl 4 rfl) ?_
      exact W.lret hx hb hr (fun t ht hW9 => ⟨_, rfl, by rw [tq_od_e]; rfl, ht⟩) (fun _ h => nomatch h) qd_X_oldHeadBySteps_6
    | false =>
      refine lv_iload_n hx hb qd_X_oldHeadBySteps_0 rfl (lv_at hl 1 rfl) ?_
      refine tq_ti (y := nI 1) (by rw [tq_sl_e]; rfl) ?_
      refine tq_if_gt (x := 1) (tgt := 7) hx hb qd_X_oldHeadBySteps_1 (by decide) (by omega) (fun c9 => ?_) (fun c9 => by omega)
      refine lv_aload_n hx hb qd_X_oldHeadBySteps_7 rfl (lv_at hl 0 rfl) ?_
      refine lv_iload_n hx hb qd_X_oldHeadBySteps_8 rfl (lv_at hl 1 rfl) ?_
      refine lv_iconst (v := nI 1) hx hb qd_X_oldHeadBySteps_9 (by decide +kernel) ?_
      refine lv_isub hx hb qd_X_oldHeadBySteps_10 ?_
      refine tq_ti (y := nI 0) (by rw [tq_sl_e]; decide +kernel) ?_
      refine tq_lald hx hb hK hP 0 0 rfl rfl (j := 0) (by omega) (by decide) qd_X_oldHeadBySteps_11 ?_
      refine lv_lstore (lv' := [(6, .long (g 0)), (0, .ref a), (1, .int (nI (tq_sl false k k))), (2, .int (nI k)), (3, .int (nI k)), (4, .long v)]) hx hb qd_X_oldHeadBySteps_12 hl (by decide) rfl (fun ls hl => ?_)
      refine lv_iload_n hx hb qd_X_oldHeadBySteps_14 rfl (lv_at hl 3 rfl) ?_
      refine lv_iload_n hx hb qd_X_oldHeadBySteps_15 rfl (lv_at hl 4 rfl) ?_
      refine tq_icmp_lt (x := k) (y := k) (tgt := 22) hx hb qd_X_oldHeadBySteps_16 (by decide) (by omega) (by omega) (fun c9 => by omega) (fun c9 => ?_)
      refine lv_lload hx hb qd_X_oldHeadBySteps_19 (lv_at hl 0 rfl) ?_
      exact W.lret hx hb hr (fun t ht hW9 => ⟨_, rfl, by rw [tq_od_e]; rfl, ht⟩) (fun _ h => nomatch h) qd_X_oldHeadBySteps_21
  · obtain ⟨d1, rfl⟩ : ∃ d1, d = d1 + 1 := by
      cases d with
      | zero => omega
      | succ d1 => exact ⟨d1, rfl⟩
    have hlt := tq_pb_lt (n := n) (by omega)
    have hps := tq_pb_pos n
    have hh := tq_pb_half h2 (by omega)
    have hrr := tq_pb_rest h2 (by omega)
    have hpp : 0 < tq_sl kn k n := by
      by_cases q9 : k ≤ tq_pb n
      · rw [tq_sl_l (by omega) q9]; omega
      · rw [tq_sl_r (by omega) (by omega) hkn]; omega
    refine lv_iload_n hx hb qd_X_oldHeadBySteps_0 rfl (lv_at hl 1 rfl) ?_
    refine tq_if_gt (x := (tq_sl kn k n)) (tgt := 7) hx hb qd_X_oldHeadBySteps_1 (by decide) (by omega) (fun c9 => ?_) (fun c9 => by omega)
    refine lv_aload_n hx hb qd_X_oldHeadBySteps_7 rfl (lv_at hl 0 rfl) ?_
    refine lv_iload_n hx hb qd_X_oldHeadBySteps_8 rfl (lv_at hl 1 rfl) ?_
    refine lv_iconst (v := nI 1) hx hb qd_X_oldHeadBySteps_9 (by decide +kernel) ?_
    refine lv_isub hx hb qd_X_oldHeadBySteps_10 ?_
    refine tq_ti (y := nI (tq_sl kn k n - 1)) (pk_sub (by omega)) ?_
    refine tq_lald hx hb hK hP 0 0 rfl rfl (j := ((tq_sl kn k n - 1))) (by omega) (by decide) qd_X_oldHeadBySteps_11 ?_
    refine lv_lstore (lv' := [(6, .long (g ((tq_sl kn k n - 1)))), (0, .ref a), (1, .int (nI (tq_sl kn k n))), (2, .int (nI k)), (3, .int (nI n)), (4, .long v)]) hx hb qd_X_oldHeadBySteps_12 hl (by decide) rfl (fun ls hl => ?_)
    refine lv_iload_n hx hb qd_X_oldHeadBySteps_14 rfl (lv_at hl 3 rfl) ?_
    refine lv_iload_n hx hb qd_X_oldHeadBySteps_15 rfl (lv_at hl 4 rfl) ?_
    refine tq_icmp_lt (x := k) (y := n) (tgt := 22) hx hb qd_X_oldHeadBySteps_16 (by decide) (by omega) (by omega) (fun c1 => ?_) (fun c9 => by omega)
    refine lv_iload_n hx hb qd_X_oldHeadBySteps_22 rfl (lv_at hl 4 rfl) ?_
    refine vp_callSi (W.runS (As := [.int (nI n)]) (rest := []) ⟨hx, hb, hml, hown, hW⟩ (ct_X_powerBelow l n (by omega) (by omega)) (cwS 1 hW (tq_gS qm_41 qm_42 qm_1 qm_43) rfl rfl rfl (by decide +kernel) ⟨(show 0 + 1 ≤ d1 + 1 + 2 from by omega), (show 8 + (2 + 11) + (0) ≤ 28 * (d1 + 1) + 50 from by omega)⟩) ⟨tq_b0, fun U hU hW9 => ⟨rfl, trivial⟩⟩ rfl rfl hl.1 rfl (lv_room (Nat.le_of_ble_eq_true rfl)) qd_X_oldHeadBySteps_23 ⟨Nat.le_of_ble_eq_true rfl, Nat.le_of_ble_eq_true rfl⟩) (fun r9 e9 => ?_)
    subst e9
    refine lv_istore (lv' := [(8, .int (nI (tq_pb n))), (6, .long (g ((tq_sl kn k n - 1)))), (0, .ref a), (1, .int (nI (tq_sl kn k n))), (2, .int (nI k)), (3, .int (nI n)), (4, .long v)]) hx hb qd_X_oldHeadBySteps_26 hl (by decide) rfl (fun ls hl => ?_)
    refine lv_iload_n hx hb qd_X_oldHeadBySteps_28 rfl (lv_at hl 4 rfl) ?_
    refine lv_iload hx hb qd_X_oldHeadBySteps_29 (lv_at hl 0 rfl) ?_
    refine tq_icmp_gt (x := k) (y := (tq_pb n)) (tgt := 47) hx hb qd_X_oldHeadBySteps_31 (by decide) (by omega) (by omega) (fun c9 => ?_) (fun c9 => ?_)
    · have e1 : tq_sl kn k n - 1 = tq_sl false (k - tq_pb n) (n - tq_pb n) := by have := tq_sl_r (b := kn) (m := k) (n := n) (by omega) c9 hkn; omega
      refine lv_lload hx hb qd_X_oldHeadBySteps_47 (lv_at hl 1 rfl) ?_
      refine lv_aload_n hx hb qd_X_oldHeadBySteps_49 rfl (lv_at hl 2 rfl) ?_
      refine lv_iload_n hx hb qd_X_oldHeadBySteps_50 rfl (lv_at hl 3 rfl) ?_
      refine lv_iconst (v := nI 1) hx hb qd_X_oldHeadBySteps_51 (by decide +kernel) ?_
      refine lv_isub hx hb qd_X_oldHeadBySteps_52 ?_
      refine tq_ti (y := nI (tq_sl false (k - tq_pb n) (n - tq_pb n))) (by rw [pk_sub (by omega)]; congr 1) ?_
      refine lv_iload_n hx hb qd_X_oldHeadBySteps_53 rfl (lv_at hl 4 rfl) ?_
      refine lv_iload hx hb qd_X_oldHeadBySteps_54 (lv_at hl 0 rfl) ?_
      refine lv_isub hx hb qd_X_oldHeadBySteps_56 ?_
      refine tq_ti (y := nI (k - tq_pb n)) (pk_sub (by omega)) ?_
      refine lv_iload_n hx hb qd_X_oldHeadBySteps_57 rfl (lv_at hl 5 rfl) ?_
      refine lv_iload hx hb qd_X_oldHeadBySteps_58 (lv_at hl 0 rfl) ?_
      refine lv_isub hx hb qd_X_oldHeadBySteps_60 ?_
      refine tq_ti (y := nI (n - tq_pb n)) (pk_sub (by omega)) ?_
      refine lv_lload hx hb qd_X_oldHeadBySteps_61 (lv_at hl 6 rfl) ?_
      refine vp_callSl (W.runS (As := [.ref a, .int (nI (tq_sl false (k - tq_pb n) (n - tq_pb n))), .int (nI (k - tq_pb n)), .int (nI (n - tq_pb n)), .long v]) (rest := [.long (g ((tq_sl kn k n - 1)))]) ⟨hx, hb, hml, hown, hW⟩ (ih d1 rfl false (k - tq_pb n) (n - tq_pb n) (by omega) (by omega) hrr (by omega)) (cwS 5 hW (tq_gS qm_66 qm_67 qm_1 qm_68) rfl rfl rfl (by decide +kernel) ⟨(show d1 + 2 + 1 ≤ d1 + 1 + 2 from by omega), (show 8 + (9 + 11) + (28 * d1 + 50) ≤ 28 * (d1 + 1) + 50 from by omega)⟩) ⟨tq_b1, fun U hU hW9 => ⟨rfl, by rw [hU]; exact hP.sub [0] rfl, va_K.moved hW9.alike (hK.sub [0] rfl)⟩⟩ rfl rfl hl.1 rfl (lv_room (Nat.le_of_ble_eq_true rfl)) qd_X_oldHeadBySteps_63 ⟨Nat.le_of_ble_eq_true rfl, Nat.le_of_ble_eq_true rfl⟩) (fun r9 e9 => ?_)
      subst e9
      refine vp_callSl (W.runS (As := [.long (g ((tq_sl kn k n - 1))), .long (tq_od g false (k - tq_pb n) (n - tq_pb n) v)]) (rest := []) ⟨hx, hb, hml, hown, hW⟩ (ct_X_nodeOf l (g ((tq_sl kn k n - 1))) (tq_od g false (k - tq_pb n) (n - tq_pb n) v)) (cwS 2 hW (tq_gS qm_55 qm_56 qm_1 qm_57) rfl rfl rfl (by decide +kernel) ⟨(show 1 + 1 ≤ d1 + 1 + 2 from by omega), (show 8 + (4 + 11) + (27) ≤ 28 * (d1 + 1) + 50 from by omega)⟩) ⟨tq_b0, fun U hU hW9 => ⟨rfl, trivial⟩⟩ rfl rfl hl.1 rfl (lv_room (Nat.le_of_ble_eq_true rfl)) qd_X_oldHeadBySteps_66 ⟨Nat.le_of_ble_eq_true rfl, Nat.le_of_ble_eq_true rfl⟩) (fun r9 e9 => ?_)
      subst e9
      exact W.lret hx hb hr (fun t ht hW9 => ⟨_, rfl, by rw [tq_od_r (by omega) c9 hkn, e1], ht⟩) (fun _ h => nomatch h) qd_X_oldHeadBySteps_69
    · have e1 : tq_sl kn k n - 1 = tq_sl kn k (tq_pb n) := by have := tq_sl_l (b := kn) (m := k) (n := n) (by omega) c9; omega
      refine lv_aload_n hx hb qd_X_oldHeadBySteps_34 rfl (lv_at hl 2 rfl) ?_
      refine lv_iload_n hx hb qd_X_oldHeadBySteps_35 rfl (lv_at hl 3 rfl) ?_
      refine lv_iconst (v := nI 1) hx hb qd_X_oldHeadBySteps_36 (by decide +kernel) ?_
      refine lv_isub hx hb qd_X_oldHeadBySteps_37 ?_
      refine tq_ti (y := nI (tq_sl kn k (tq_pb n))) (by rw [pk_sub (by omega)]; congr 1) ?_
      refine lv_iload_n hx hb qd_X_oldHeadBySteps_38 rfl (lv_at hl 4 rfl) ?_
      refine lv_iload hx hb qd_X_oldHeadBySteps_39 (lv_at hl 0 rfl) ?_
      refine lv_lload hx hb qd_X_oldHeadBySteps_41 (lv_at hl 6 rfl) ?_
      refine vp_callSl (W.runS (As := [.ref a, .int (nI (tq_sl kn k (tq_pb n))), .int (nI k), .int (nI (tq_pb n)), .long v]) (rest := []) ⟨hx, hb, hml, hown, hW⟩ (ih d1 rfl kn k (tq_pb n) h0 c9 hh (by omega)) (cwS 5 hW (tq_gS qm_66 qm_67 qm_1 qm_68) rfl rfl rfl (by decide +kernel) ⟨(show d1 + 2 + 1 ≤ d1 + 1 + 2 from by omega), (show 8 + (9 + 11) + (28 * d1 + 50) ≤ 28 * (d1 + 1) + 50 from by omega)⟩) ⟨tq_b1, fun U hU hW9 => ⟨rfl, by rw [hU]; exact hP.sub [0] rfl, va_K.moved hW9.alike (hK.sub [0] rfl)⟩⟩ rfl rfl hl.1 rfl (lv_room (Nat.le_of_ble_eq_true rfl)) qd_X_oldHeadBySteps_43 ⟨Nat.le_of_ble_eq_true rfl, Nat.le_of_ble_eq_true rfl⟩) (fun r9 e9 => ?_)
      subst e9
      exact W.lret hx hb hr (fun t ht hW9 => ⟨_, rfl, by rw [tq_od_l (by omega) c9], ht⟩) (fun _ h => nomatch h) qd_X_oldHeadBySteps_46
theorem ct_X_oldHeadBySteps (l : Launch) (dC : Nat → ClassId) (dI : Nat → Nat → Nat) (a : Nat) (cA : ClassId) (g : Nat → Int64) (v : Int64) : ∀ (d : Nat) (kn : Bool) (k n : Nat), 1 ≤ k → k ≤ n → n ≤ 2 ^ d → d ≤ 30 → tq_HO l dC dI a cA g v d kn k n
  | 0, kn, k, n, h0, h1, h2, h3 => ct_X_oldHeadBySteps_s l dC dI a cA g v 0 kn k n (fun d1 h => by omega) h0 h1 h2 h3
  | d + 1, kn, k, n, h0, h1, h2, h3 => ct_X_oldHeadBySteps_s l dC dI a cA g v (d + 1) kn k n (fun d1 h kn k n h4 h5 h6 h7 => by cases h; exact ct_X_oldHeadBySteps l dC dI a cA g v d kn k n h4 h5 h6 h7) h0 h1 h2 h3
def tq_HN (l : Launch) (dC : Nat → ClassId) (dI : Nat → Nat → Nat) (a : Nat) (cA : ClassId) (g : Nat → Int64) (v : Int64) (d : Nat) (kn : Bool) (k n : Nat) : Prop := Met l qy_X_newHeadBySteps qw_X_newHeadBySteps ({ frames := d + 2, cells := 0, slots := 0, locals := 28 * d + 50 }) (va_Pc [.ref a, .int (nI (tq_sl kn k n)), .int (nI k), .int (nI n), .long v] (tq_ro (dC, dI) tq_cl [(a, .inl (cA, (40, .inr (.inl g))))] [(cA, .long)])) (vp_Sl (fun r => r = tq_nw g kn k n v)) 0 0 (fun _ => False)
set_option maxHeartbeats 4000000 in
set_option maxRecDepth 100000 in
/-- X_newHeadBySteps -/
theorem ct_X_newHeadBySteps_s (l : Launch) (dC : Nat → ClassId) (dI : Nat → Nat → Nat) (a : Nat) (cA : ClassId) (g : Nat → Int64) (v : Int64) (d : Nat) (kn : Bool) (k n : Nat) (ih : ∀ d1, d = d1 + 1 → ∀ (kn : Bool) (k n : Nat), 1 ≤ k → k ≤ n → n ≤ 2 ^ d1 → d1 ≤ 30 → tq_HN l dC dI a cA g v d1 kn k n) (h0 : 1 ≤ k) (h1 : k ≤ n) (h2 : n ≤ 2 ^ d) (h3 : d ≤ 30) : tq_HN l dC dI a cA g v d kn k n := by
  refine Met.ofW (cc := qc_X_newHeadBySteps) (maxL := 9) (ret := (some .long)) (by decide) rfl ?_
  intro p e s m args below meth c s₁ B hml hv
  obtain ⟨rfl, hP, hK⟩ := hv
  have hx := B.exec
  have hb := B.bytes
  have hr := B.returns
  have hts := atoms_spec (ws := qw_X_newHeadBySteps) B.pre
  have hW : ∀ w ∈ tq_W, w.before ([.ref a, .int (nI (tq_sl kn k n)), .int (nI k), .int (nI n), .long v] : List Value).toArray s = true := fun w h => hts w (List.mem_cons_of_mem _ h)
  have hown : s.vm.findClass RX0 = some m.cls := findClass_of_methodNamed B.named
  have hlocks := B.notSynchronized
  have hl := lv_entry ([.ref a, .int (nI (tq_sl kn k n)), .int (nI k), .int (nI n), .long v]) (n := 9) (Nat.le_of_ble_eq_true rfl)
  rw [lg_entry_eq]
  generalize (lg_sl ([.ref a, .int (nI (tq_sl kn k n)), .int (nI k), .int (nI n), .long v]) ++ List.replicate (9 - (lg_sl ([.ref a, .int (nI (tq_sl kn k n)), .int (nI k), .int (nI n), .long v])).length) Slot.unset).toArray = ls at hl ⊢
  have hl : lv_has ls 9 [(0, .ref a), (1, .int (nI (tq_sl kn k n))), (2, .int (nI k)), (3, .int (nI n)), (4, .long v)] := hl
  have hsl := tq_sl_le d kn k n h2
  have hn30 : n ≤ 2 ^ 30 := Nat.le_trans h2 (Nat.pow_le_pow_right (by decide) h3)
  by_cases hkn : k = n
  · subst hkn
    cases kn with
    | true =>
      refine lv_iload_n hx hb qd_X_newHeadBySteps_0 rfl (lv_at hl 1 rfl) ?_
      refine tq_ti (y := nI 0) (by rw [tq_sl_e]; rfl) ?_
      refine tq_if_gt (x := 0) (tgt := 7) hx hb qd_X_newHeadBySteps_1 (by decide) (by omega) (fun c9 => by omega) (fun c9 => ?_)
      refine lv_lload hx hb qd_X_newHeadBySteps_4 (lv_at hl 4 rfl) ?_
      exact W.lret hx hb hr (fun t ht hW9 => ⟨_, rfl, by rw [tq_nw_e]; rfl, ht⟩) (fun _ h => nomatch h) qd_X_newHeadBySteps_6
    | false =>
      refine lv_iload_n hx hb qd_X_newHeadBySteps_0 rfl (lv_at hl 1 rfl) ?_
      refine tq_ti (y := nI 1) (by rw [tq_sl_e]; rfl) ?_
      refine tq_if_gt (x := 1) (tgt := 7) hx hb qd_X_newHeadBySteps_1 (by decide) (by omega) (fun c9 => ?_) (fun c9 => by omega)
      refine lv_aload_n hx hb qd_X_newHeadBySteps_7 rfl (lv_at hl 0 rfl) ?_
      refine lv_iload_n hx hb qd_X_newHeadBySteps_8 rfl (lv_at hl 1 rfl) ?_
      refine lv_iconst (v := nI 1) hx hb qd_X_newHeadBySteps_9 (by decide +kernel) ?_
      refine lv_isub hx hb qd_X_newHeadBySteps_10 ?_
      refine tq_ti (y := nI 0) (by rw [tq_sl_e]; decide +kernel) ?_
      refine tq_lald hx hb hK hP 0 0 rfl rfl (j := 0) (by omega) (by decide) qd_X_newHeadBySteps_11 ?_
      refine lv_lstore (lv' := [(6, .long (g 0)), (0, .ref a), (1, .int (nI (tq_sl false k k))), (2, .int (nI k)), (3, .int (nI k)), (4, .long v)]) hx hb qd_X_newHeadBySteps_12 hl (by decide) rfl (fun ls hl => ?_)
      refine lv_iload_n hx hb qd_X_newHeadBySteps_14 rfl (lv_at hl 3 rfl) ?_
      refine lv_iload_n hx hb qd_X_newHeadBySteps_15 rfl (lv_at hl 4 rfl) ?_
      refine tq_icmp_lt (x := k) (y := k) (tgt := 22) hx hb qd_X_newHeadBySteps_16 (by decide) (by omega) (by omega) (fun c9 => by omega) (fun c9 => ?_)
      refine lv_lload hx hb qd_X_newHeadBySteps_19 (lv_at hl 0 rfl) ?_
      exact W.lret hx hb hr (fun t ht hW9 => ⟨_, rfl, by rw [tq_nw_e]; rfl, ht⟩) (fun _ h => nomatch h) qd_X_newHeadBySteps_21
  · obtain ⟨d1, rfl⟩ : ∃ d1, d = d1 + 1 := by
      cases d with
      | zero => omega
      | succ d1 => exact ⟨d1, rfl⟩
    have hlt := tq_pb_lt (n := n) (by omega)
    have hps := tq_pb_pos n
    have hh := tq_pb_half h2 (by omega)
    have hrr := tq_pb_rest h2 (by omega)
    have hpp : 0 < tq_sl kn k n := by
      by_cases q9 : k ≤ tq_pb n
      · rw [tq_sl_l (by omega) q9]; omega
      · rw [tq_sl_r (by omega) (by omega) hkn]; omega
    refine lv_iload_n hx hb qd_X_newHeadBySteps_0 rfl (lv_at hl 1 rfl) ?_
    refine tq_if_gt (x := (tq_sl kn k n)) (tgt := 7) hx hb qd_X_newHeadBySteps_1 (by decide) (by omega) (fun c9 => ?_) (fun c9 => by omega)
    refine lv_aload_n hx hb qd_X_newHeadBySteps_7 rfl (lv_at hl 0 rfl) ?_
    refine lv_iload_n hx hb qd_X_newHeadBySteps_8 rfl (lv_at hl 1 rfl) ?_
    refine lv_iconst (v := nI 1) hx hb qd_X_newHeadBySteps_9 (by decide +kernel) ?_
    refine lv_isub hx hb qd_X_newHeadBySteps_10 ?_
    refine tq_ti (y := nI (tq_sl kn k n - 1)) (pk_sub (by omega)) ?_
    refine tq_lald hx hb hK hP 0 0 rfl rfl (j := ((tq_sl kn k n - 1))) (by omega) (by decide) qd_X_newHeadBySteps_11 ?_
    refine lv_lstore (lv' := [(6, .long (g ((tq_sl kn k n - 1)))), (0, .ref a), (1, .int (nI (tq_sl kn k n))), (2, .int (nI k)), (3, .int (nI n)), (4, .long v)]) hx hb qd_X_newHeadBySteps_12 hl (by decide) rfl (fun ls hl => ?_)
    refine lv_iload_n hx hb qd_X_newHeadBySteps_14 rfl (lv_at hl 3 rfl) ?_
    refine lv_iload_n hx hb qd_X_newHeadBySteps_15 rfl (lv_at hl 4 rfl) ?_
    refine tq_icmp_lt (x := k) (y := n) (tgt := 22) hx hb qd_X_newHeadBySteps_16 (by decide) (by omega) (by omega) (fun c1 => ?_) (fun c9 => by omega)
    refine lv_iload_n hx hb qd_X_newHeadBySteps_22 rfl (lv_at hl 4 rfl) ?_
    refine vp_callSi (W.runS (As := [.int (nI n)]) (rest := []) ⟨hx, hb, hml, hown, hW⟩ (ct_X_powerBelow l n (by omega) (by omega)) (cwS 1 hW (tq_gS qm_41 qm_42 qm_1 qm_43) rfl rfl rfl (by decide +kernel) ⟨(show 0 + 1 ≤ d1 + 1 + 2 from by omega), (show 8 + (2 + 11) + (0) ≤ 28 * (d1 + 1) + 50 from by omega)⟩) ⟨tq_b0, fun U hU hW9 => ⟨rfl, trivial⟩⟩ rfl rfl hl.1 rfl (lv_room (Nat.le_of_ble_eq_true rfl)) qd_X_newHeadBySteps_23 ⟨Nat.le_of_ble_eq_true rfl, Nat.le_of_ble_eq_true rfl⟩) (fun r9 e9 => ?_)
    subst e9
    refine lv_istore (lv' := [(8, .int (nI (tq_pb n))), (6, .long (g ((tq_sl kn k n - 1)))), (0, .ref a), (1, .int (nI (tq_sl kn k n))), (2, .int (nI k)), (3, .int (nI n)), (4, .long v)]) hx hb qd_X_newHeadBySteps_26 hl (by decide) rfl (fun ls hl => ?_)
    refine lv_iload_n hx hb qd_X_newHeadBySteps_28 rfl (lv_at hl 4 rfl) ?_
    refine lv_iload hx hb qd_X_newHeadBySteps_29 (lv_at hl 0 rfl) ?_
    refine tq_icmp_gt (x := k) (y := (tq_pb n)) (tgt := 52) hx hb qd_X_newHeadBySteps_31 (by decide) (by omega) (by omega) (fun c9 => ?_) (fun c9 => ?_)
    · have e1 : tq_sl kn k n - 1 = tq_sl false (k - tq_pb n) (n - tq_pb n) := by have := tq_sl_r (b := kn) (m := k) (n := n) (by omega) c9 hkn; omega
      refine lv_lload hx hb qd_X_newHeadBySteps_52 (lv_at hl 1 rfl) ?_
      refine lv_aload_n hx hb qd_X_newHeadBySteps_54 rfl (lv_at hl 2 rfl) ?_
      refine lv_iload_n hx hb qd_X_newHeadBySteps_55 rfl (lv_at hl 3 rfl) ?_
      refine lv_iconst (v := nI 1) hx hb qd_X_newHeadBySteps_56 (by decide +kernel) ?_
      refine lv_isub hx hb qd_X_newHeadBySteps_57 ?_
      refine tq_ti (y := nI (tq_sl false (k - tq_pb n) (n - tq_pb n))) (by rw [pk_sub (by omega)]; congr 1) ?_
      refine lv_iload_n hx hb qd_X_newHeadBySteps_58 rfl (lv_at hl 4 rfl) ?_
      refine lv_iload hx hb qd_X_newHeadBySteps_59 (lv_at hl 0 rfl) ?_
      refine lv_isub hx hb qd_X_newHeadBySteps_61 ?_
      refine tq_ti (y := nI (k - tq_pb n)) (pk_sub (by omega)) ?_
      refine lv_iload_n hx hb qd_X_newHeadBySteps_62 rfl (lv_at hl 5 rfl) ?_
      refine lv_iload hx hb qd_X_newHeadBySteps_63 (lv_at hl 0 rfl) ?_
      refine lv_isub hx hb qd_X_newHeadBySteps_65 ?_
      refine tq_ti (y := nI (n - tq_pb n)) (pk_sub (by omega)) ?_
      refine lv_lload hx hb qd_X_newHeadBySteps_66 (lv_at hl 6 rfl) ?_
      refine vp_callSl (W.runS (As := [.ref a, .int (nI (tq_sl false (k - tq_pb n) (n - tq_pb n))), .int (nI (k - tq_pb n)), .int (nI (n - tq_pb n)), .long v]) (rest := [.long (g ((tq_sl kn k n - 1)))]) ⟨hx, hb, hml, hown, hW⟩ (ih d1 rfl false (k - tq_pb n) (n - tq_pb n) (by omega) (by omega) hrr (by omega)) (cwS 5 hW (tq_gS qm_69 qm_70 qm_1 qm_71) rfl rfl rfl (by decide +kernel) ⟨(show d1 + 2 + 1 ≤ d1 + 1 + 2 from by omega), (show 8 + (9 + 11) + (28 * d1 + 50) ≤ 28 * (d1 + 1) + 50 from by omega)⟩) ⟨tq_b1, fun U hU hW9 => ⟨rfl, by rw [hU]; exact hP.sub [0] rfl, va_K.moved hW9.alike (hK.sub [0] rfl)⟩⟩ rfl rfl hl.1 rfl (lv_room (Nat.le_of_ble_eq_true rfl)) qd_X_newHeadBySteps_68 ⟨Nat.le_of_ble_eq_true rfl, Nat.le_of_ble_eq_true rfl⟩) (fun r9 e9 => ?_)
      subst e9
      refine vp_callSl (W.runS (As := [.long (g ((tq_sl kn k n - 1))), .long (tq_nw g false (k - tq_pb n) (n - tq_pb n) v)]) (rest := []) ⟨hx, hb, hml, hown, hW⟩ (ct_X_nodeOf l (g ((tq_sl kn k n - 1))) (tq_nw g false (k - tq_pb n) (n - tq_pb n) v)) (cwS 2 hW (tq_gS qm_55 qm_56 qm_1 qm_57) rfl rfl rfl (by decide +kernel) ⟨(show 1 + 1 ≤ d1 + 1 + 2 from by omega), (show 8 + (4 + 11) + (27) ≤ 28 * (d1 + 1) + 50 from by omega)⟩) ⟨tq_b0, fun U hU hW9 => ⟨rfl, trivial⟩⟩ rfl rfl hl.1 rfl (lv_room (Nat.le_of_ble_eq_true rfl)) qd_X_newHeadBySteps_71 ⟨Nat.le_of_ble_eq_true rfl, Nat.le_of_ble_eq_true rfl⟩) (fun r9 e9 => ?_)
      subst e9
      exact W.lret hx hb hr (fun t ht hW9 => ⟨_, rfl, by rw [tq_nw_r (by omega) c9 hkn, e1], ht⟩) (fun _ h => nomatch h) qd_X_newHeadBySteps_74
    · have e1 : tq_sl kn k n - 1 = tq_sl kn k (tq_pb n) := by have := tq_sl_l (b := kn) (m := k) (n := n) (by omega) c9; omega
      refine lv_aload_n hx hb qd_X_newHeadBySteps_34 rfl (lv_at hl 2 rfl) ?_
      refine lv_iload_n hx hb qd_X_newHeadBySteps_35 rfl (lv_at hl 3 rfl) ?_
      refine lv_iconst (v := nI 1) hx hb qd_X_newHeadBySteps_36 (by decide +kernel) ?_
      refine lv_isub hx hb qd_X_newHeadBySteps_37 ?_
      refine tq_ti (y := nI (tq_sl kn k (tq_pb n))) (by rw [pk_sub (by omega)]; congr 1) ?_
      refine lv_iload_n hx hb qd_X_newHeadBySteps_38 rfl (lv_at hl 4 rfl) ?_
      refine lv_iload hx hb qd_X_newHeadBySteps_39 (lv_at hl 0 rfl) ?_
      refine lv_lload hx hb qd_X_newHeadBySteps_41 (lv_at hl 6 rfl) ?_
      refine vp_callSl (W.runS (As := [.ref a, .int (nI (tq_sl kn k (tq_pb n))), .int (nI k), .int (nI (tq_pb n)), .long v]) (rest := []) ⟨hx, hb, hml, hown, hW⟩ (ih d1 rfl kn k (tq_pb n) h0 c9 hh (by omega)) (cwS 5 hW (tq_gS qm_69 qm_70 qm_1 qm_71) rfl rfl rfl (by decide +kernel) ⟨(show d1 + 2 + 1 ≤ d1 + 1 + 2 from by omega), (show 8 + (9 + 11) + (28 * d1 + 50) ≤ 28 * (d1 + 1) + 50 from by omega)⟩) ⟨tq_b1, fun U hU hW9 => ⟨rfl, by rw [hU]; exact hP.sub [0] rfl, va_K.moved hW9.alike (hK.sub [0] rfl)⟩⟩ rfl rfl hl.1 rfl (lv_room (Nat.le_of_ble_eq_true rfl)) qd_X_newHeadBySteps_43 ⟨Nat.le_of_ble_eq_true rfl, Nat.le_of_ble_eq_true rfl⟩) (fun r9 e9 => ?_)
      subst e9
      refine lv_lload hx hb qd_X_newHeadBySteps_46 (lv_at hl 1 rfl) ?_
      refine vp_callSl (W.runS (As := [.long (tq_nw g kn k (tq_pb n) v), .long (g ((tq_sl kn k n - 1)))]) (rest := []) ⟨hx, hb, hml, hown, hW⟩ (ct_X_nodeOf l (tq_nw g kn k (tq_pb n) v) (g ((tq_sl kn k n - 1)))) (cwS 2 hW (tq_gS qm_55 qm_56 qm_1 qm_57) rfl rfl rfl (by decide +kernel) ⟨(show 1 + 1 ≤ d1 + 1 + 2 from by omega), (show 8 + (4 + 11) + (27) ≤ 28 * (d1 + 1) + 50 from by omega)⟩) ⟨tq_b0, fun U hU hW9 => ⟨rfl, trivial⟩⟩ rfl rfl hl.1 rfl (lv_room (Nat.le_of_ble_eq_true rfl)) qd_X_newHeadBySteps_48 ⟨Nat.le_of_ble_eq_true rfl, Nat.le_of_ble_eq_true rfl⟩) (fun r9 e9 => ?_)
      subst e9
      exact W.lret hx hb hr (fun t ht hW9 => ⟨_, rfl, by rw [tq_nw_l (by omega) c9, e1], ht⟩) (fun _ h => nomatch h) qd_X_newHeadBySteps_51
theorem ct_X_newHeadBySteps (l : Launch) (dC : Nat → ClassId) (dI : Nat → Nat → Nat) (a : Nat) (cA : ClassId) (g : Nat → Int64) (v : Int64) : ∀ (d : Nat) (kn : Bool) (k n : Nat), 1 ≤ k → k ≤ n → n ≤ 2 ^ d → d ≤ 30 → tq_HN l dC dI a cA g v d kn k n
  | 0, kn, k, n, h0, h1, h2, h3 => ct_X_newHeadBySteps_s l dC dI a cA g v 0 kn k n (fun d1 h => by omega) h0 h1 h2 h3
  | d + 1, kn, k, n, h0, h1, h2, h3 => ct_X_newHeadBySteps_s l dC dI a cA g v (d + 1) kn k n (fun d1 h kn k n h4 h5 h6 h7 => by cases h; exact ct_X_newHeadBySteps l dC dI a cA g v d kn k n h4 h5 h6 h7) h0 h1 h2 h3
def tq_HM (l : Launch) (dC : Nat → ClassId) (dI : Nat → Nat → Nat) (o ca cb : Nat) (cA : ClassId) (w1 w2 w3 w4 : Int32) (z1 z2 : Int64) (f : Nat → Int64) (d i n : Nat) : Prop := Met l qy_M_headOf qw_M_headOf ({ frames := d + 2, cells := 0, slots := 0, locals := 25 * d + 50 }) (va_Pc [.ref o, .int (nI i), .int (nI n)] (tq_ro (dC, dI) tq_cl [(o, .inr (1, [.int w1, .int w2, .int w3, .int w4, .ref ca, .ref cb, .long z1, .long z2])), (ca, .inl (cA, (600, .inr (.inl f))))] [(cA, .long)])) (vp_Sl (fun r => r = tq_hd (fun j => tq_leaf (f j)) i n)) 0 0 (fun _ => False)
set_option maxHeartbeats 4000000 in
set_option maxRecDepth 100000 in
/-- headOf of the reference -/
theorem ct_M_headOf_s (l : Launch) (dC : Nat → ClassId) (dI : Nat → Nat → Nat) (o ca cb : Nat) (cA : ClassId) (w1 w2 w3 w4 : Int32) (z1 z2 : Int64) (f : Nat → Int64) (d i n : Nat) (ih : ∀ d1, d = d1 + 1 → ∀ i n, i + n ≤ 600 → n ≤ 2 ^ d1 → tq_HM l dC dI o ca cb cA w1 w2 w3 w4 z1 z2 f d1 i n) (h1 : i + n ≤ 600) (h2 : n ≤ 2 ^ d) : tq_HM l dC dI o ca cb cA w1 w2 w3 w4 z1 z2 f d i n := by
  refine Met.ofW (cc := qc_M_headOf) (maxL := 6) (ret := (some .long)) (by decide) rfl ?_
  intro p e s m args below meth c s₁ B hml hv
  obtain ⟨rfl, hP, hK⟩ := hv
  have hx := B.exec
  have hb := B.bytes
  have hr := B.returns
  have hts := atoms_spec (ws := qw_M_headOf) B.pre
  have hW : ∀ w ∈ tq_W, w.before ([.ref o, .int (nI i), .int (nI n)] : List Value).toArray s = true := fun w h => hts w (List.mem_cons_of_mem _ h)
  have hown : s.vm.findClass RX1 = some m.cls := findClass_of_methodNamed B.named
  have hlocks := B.notSynchronized
  have hl := lv_entry ([.ref o, .int (nI i), .int (nI n)]) (n := 6) (Nat.le_of_ble_eq_true rfl)
  rw [lg_entry_eq]
  generalize (lg_sl ([.ref o, .int (nI i), .int (nI n)]) ++ List.replicate (6 - (lg_sl ([.ref o, .int (nI i), .int (nI n)])).length) Slot.unset).toArray = ls at hl ⊢
  have hl : lv_has ls 6 [(0, .ref o), (1, .int (nI i)), (2, .int (nI n))] := hl
  refine lv_iload_n hx hb qd_M_headOf_0 rfl (lv_at hl 2 rfl) ?_
  refine tq_if_ne (x := n) (tgt := 6) hx hb qd_M_headOf_1 (by decide) (by omega) (fun c9 => ?_) (fun c9 => ?_)
  · refine lv_iload_n hx hb qd_M_headOf_6 rfl (lv_at hl 2 rfl) ?_
    refine lv_iconst (v := nI 1) hx hb qd_M_headOf_7 (by decide +kernel) ?_
    refine tq_icmp_ne (x := n) (y := 1) (tgt := 22) hx hb qd_M_headOf_8 (by decide) (by omega) (by omega) (fun c10 => ?_) (fun c10 => ?_)
    · obtain ⟨d1, rfl⟩ : ∃ d1, d = d1 + 1 := by
        cases d with
        | zero => omega
        | succ d1 => exact ⟨d1, rfl⟩
      have hlt := tq_pb_lt (n := n) (by omega)
      have hps := tq_pb_pos n
      have hh := tq_pb_half h2 (by omega)
      have hrr := tq_pb_rest h2 (by omega)
      refine lv_iload_n hx hb qd_M_headOf_22 rfl (lv_at hl 2 rfl) ?_
      refine vp_callSi (W.runS (As := [.int (nI n)]) (rest := []) ⟨hx, hb, hml, hown, hW⟩ (ct_M_below l n (by omega) (by omega)) (cwS 1 hW (tq_gS qm_335 qm_336 qm_2 qm_337) rfl rfl rfl (by decide +kernel) ⟨(show 0 + 1 ≤ d1 + 1 + 2 from by omega), (show 8 + (2 + 11) + (0) ≤ 25 * (d1 + 1) + 50 from by omega)⟩) ⟨tq_b0, fun U hU hW9 => ⟨rfl, trivial⟩⟩ rfl rfl hl.1 rfl (lv_room (Nat.le_of_ble_eq_true rfl)) qd_M_headOf_23 ⟨Nat.le_of_ble_eq_true rfl, Nat.le_of_ble_eq_true rfl⟩) (fun r9 e9 => ?_)
      subst e9
      refine lv_istore_n (lv' := [(3, .int (nI (tq_pb n))), (0, .ref o), (1, .int (nI i)), (2, .int (nI n))]) hx hb qd_M_headOf_26 rfl hl (by decide) rfl (fun ls hl => ?_)
      refine lv_aload_n hx hb qd_M_headOf_27 rfl (lv_at hl 1 rfl) ?_
      refine lv_iload_n hx hb qd_M_headOf_28 rfl (lv_at hl 2 rfl) ?_
      refine lv_iload_n hx hb qd_M_headOf_29 rfl (lv_at hl 0 rfl) ?_
      refine vp_callSl (W.runV (As := [.int (nI i), .int (nI (tq_pb n))]) (rest := []) ⟨hx, hb, hml, hown, hW⟩ (ih d1 rfl i (tq_pb n) (by omega) hh) (cwV 2 hW (tq_gV qm_326 qm_328 qs_M_headOf qm_2 qm_329) rfl rfl rfl (by decide +kernel) ⟨(show d1 + 2 + 1 ≤ d1 + 1 + 2 from by omega), (show 8 + (6 + 11) + (25 * d1 + 50) ≤ 25 * (d1 + 1) + 50 from by omega)⟩) ⟨tq_b1, va_recv hK hP (ci := 1) (q0 := 0) rfl rfl, fun U hU hW9 => ⟨rfl, by rw [hU]; exact hP.sub [0, 1] rfl, va_K.moved hW9.alike (hK.sub [0] rfl)⟩⟩ rfl rfl hl.1 rfl (lv_room (Nat.le_of_ble_eq_true rfl)) qd_M_headOf_30 ⟨Nat.le_of_ble_eq_true rfl, Nat.le_of_ble_eq_true rfl⟩) (fun r9 e9 => ?_)
      subst e9
      refine lv_lstore (lv' := [(4, .long (tq_hd (fun j => tq_leaf (f j)) i (tq_pb n))), (3, .int (nI (tq_pb n))), (0, .ref o), (1, .int (nI i)), (2, .int (nI n))]) hx hb qd_M_headOf_33 hl (by decide) rfl (fun ls hl => ?_)
      refine lv_lload hx hb qd_M_headOf_35 (lv_at hl 0 rfl) ?_
      refine lv_aload_n hx hb qd_M_headOf_37 rfl (lv_at hl 2 rfl) ?_
      refine lv_iload_n hx hb qd_M_headOf_38 rfl (lv_at hl 3 rfl) ?_
      refine lv_iload_n hx hb qd_M_headOf_39 rfl (lv_at hl 1 rfl) ?_
      refine lv_iadd hx hb qd_M_headOf_40 ?_
      refine tq_ti (y := nI (i + tq_pb n)) (nI_add _ _) ?_
      refine lv_iload_n hx hb qd_M_headOf_41 rfl (lv_at hl 4 rfl) ?_
      refine lv_iload_n hx hb qd_M_headOf_42 rfl (lv_at hl 1 rfl) ?_
      refine lv_isub hx hb qd_M_headOf_43 ?_
      refine tq_ti (y := nI (n - tq_pb n)) (pk_sub (by omega)) ?_
      refine vp_callSl (W.runV (As := [.int (nI (i + tq_pb n)), .int (nI (n - tq_pb n))]) (rest := [.long (tq_hd (fun j => tq_leaf (f j)) i (tq_pb n))]) ⟨hx, hb, hml, hown, hW⟩ (ih d1 rfl (i + tq_pb n) (n - tq_pb n) (by omega) hrr) (cwV 2 hW (tq_gV qm_326 qm_328 qs_M_headOf qm_2 qm_329) rfl rfl rfl (by decide +kernel) ⟨(show d1 + 2 + 1 ≤ d1 + 1 + 2 from by omega), (show 8 + (6 + 11) + (25 * d1 + 50) ≤ 25 * (d1 + 1) + 50 from by omega)⟩) ⟨tq_b1, va_recv hK hP (ci := 1) (q0 := 0) rfl rfl, fun U hU hW9 => ⟨rfl, by rw [hU]; exact hP.sub [0, 1] rfl, va_K.moved hW9.alike (hK.sub [0] rfl)⟩⟩ rfl rfl hl.1 rfl (lv_room (Nat.le_of_ble_eq_true rfl)) qd_M_headOf_44 ⟨Nat.le_of_ble_eq_true rfl, Nat.le_of_ble_eq_true rfl⟩) (fun r9 e9 => ?_)
      subst e9
      refine vp_callSl (W.runS (As := [.long (tq_hd (fun j => tq_leaf (f j)) i (tq_pb n)), .long (tq_hd (fun j => tq_leaf (f j)) (i + tq_pb n) (n - tq_pb n))]) (rest := []) ⟨hx, hb, hml, hown, hW⟩ (ct_M_node l (tq_hd (fun j => tq_leaf (f j)) i (tq_pb n)) (tq_hd (fun j => tq_leaf (f j)) (i + tq_pb n) (n - tq_pb n))) (cwS 2 hW (tq_gS qm_338 qm_339 qm_2 qm_340) rfl rfl rfl (by decide +kernel) ⟨(show 1 + 1 ≤ d1 + 1 + 2 from by omega), (show 8 + (4 + 11) + (27) ≤ 25 * (d1 + 1) + 50 from by omega)⟩) ⟨tq_b0, fun U hU hW9 => ⟨rfl, trivial⟩⟩ rfl rfl hl.1 rfl (lv_room (Nat.le_of_ble_eq_true rfl)) qd_M_headOf_47 ⟨Nat.le_of_ble_eq_true rfl, Nat.le_of_ble_eq_true rfl⟩) (fun r9 e9 => ?_)
      subst e9
      exact W.lret hx hb hr (fun t ht hW9 => ⟨_, rfl, (tq_hd_n (by omega)).symm, ht⟩) (fun _ h => nomatch h) qd_M_headOf_50
    · refine lv_lconst (v := 1) hx hb qd_M_headOf_11 (by decide) ?_
      refine lv_aload_n hx hb qd_M_headOf_12 rfl (lv_at hl 0 rfl) ?_
      refine va_get (D := (dC, dI)) (ci := 1) (v := .ref ca) (C := RX1) (T := TX1) (N := 8) hx hb hW inX1 hown hK hP 0 rfl rfl 4 (by decide) (hW _ qm_285) (fun _ h9 => h9) rfl qd_M_headOf_13 ?_
      refine lv_iload_n hx hb qd_M_headOf_16 rfl (lv_at hl 1 rfl) ?_
      refine tq_lald hx hb hK hP 1 0 rfl rfl (j := i) (by omega) (by decide) qd_M_headOf_17 ?_
      refine vp_callSl (W.runS (As := [.long 1, .long (f i)]) (rest := []) ⟨hx, hb, hml, hown, hW⟩ (ct_M_mix l 1 (f i)) (cwS 2 hW (tq_gS qm_330 qm_331 qm_2 qm_332) rfl rfl rfl (by decide +kernel) ⟨(show 0 + 1 ≤ d + 2 from by omega), (show 8 + (8 + 11) + (0) ≤ 25 * d + 50 from by omega)⟩) ⟨tq_b0, fun U hU hW9 => ⟨rfl, trivial⟩⟩ rfl rfl hl.1 rfl (lv_room (Nat.le_of_ble_eq_true rfl)) qd_M_headOf_18 ⟨Nat.le_of_ble_eq_true rfl, Nat.le_of_ble_eq_true rfl⟩) (fun r9 e9 => ?_)
      subst e9
      exact W.lret hx hb hr (fun t ht hW9 => ⟨_, rfl, by rw [c10, tq_hd_1]; rfl, ht⟩) (fun _ h => nomatch h) qd_M_headOf_21
  · subst c9
    refine lv_lconst (v := 0) hx hb qd_M_headOf_4 (by decide) ?_
    exact W.lret hx hb hr (fun t ht hW9 => ⟨_, rfl, (tq_hd_0 _ i).symm, ht⟩) (fun _ h => nomatch h) qd_M_headOf_5
theorem ct_M_headOf (l : Launch) (dC : Nat → ClassId) (dI : Nat → Nat → Nat) (o ca cb : Nat) (cA : ClassId) (w1 w2 w3 w4 : Int32) (z1 z2 : Int64) (f : Nat → Int64) : ∀ (d i n : Nat), i + n ≤ 600 → n ≤ 2 ^ d → tq_HM l dC dI o ca cb cA w1 w2 w3 w4 z1 z2 f d i n
  | 0, i, n, h1, h2 => ct_M_headOf_s l dC dI o ca cb cA w1 w2 w3 w4 z1 z2 f 0 i n (fun d1 h => by omega) h1 h2
  | d + 1, i, n, h1, h2 => ct_M_headOf_s l dC dI o ca cb cA w1 w2 w3 w4 z1 z2 f (d + 1) i n (fun d1 h i n h3 h4 => by cases h; exact ct_M_headOf l dC dI o ca cb cA w1 w2 w3 w4 z1 z2 f d i n h3 h4) h1 h2
