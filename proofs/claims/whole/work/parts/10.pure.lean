set_option maxHeartbeats 4000000 in
set_option maxRecDepth 100000 in
/-- X_mix: MIX -/
theorem ct_X_mix (l : Launch) (h x : Int64) : Met l qy_X_mix qw_X_mix ({ frames := 0, cells := 0, slots := 0, locals := 0 }) (va_Pc [.long h, .long x] (fun _ => True)) (vp_Sl (fun r => r = tq_mix h x)) 0 0 (fun _ => False) := by
  refine Met.ofW (cc := qc_X_mix) (maxL := 8) (ret := (some .long)) (by decide) rfl ?_
  intro p e s m args below meth c s₁ B hml hv
  obtain ⟨rfl, -⟩ := hv
  have hx := B.exec
  have hb := B.bytes
  have hr := B.returns
  have hts := atoms_spec (ws := qw_X_mix) B.pre
  have hW : ∀ w ∈ tq_W, w.before ([.long h, .long x] : List Value).toArray s = true := fun w h => hts w (List.mem_cons_of_mem _ h)
  have hown : s.vm.findClass RX0 = some m.cls := findClass_of_methodNamed B.named
  have hlocks := B.notSynchronized
  have hl := lv_entry ([.long h, .long x]) (n := 8) (Nat.le_of_ble_eq_true rfl)
  rw [lg_entry_eq]
  generalize (lg_sl ([.long h, .long x]) ++ List.replicate (8 - (lg_sl ([.long h, .long x])).length) Slot.unset).toArray = ls at hl ⊢
  have hl : lv_has ls 8 [(0, .long h), (2, .long x)] := hl
  refine lv_lload_n hx hb qd_X_mix_0 rfl (lv_at hl 0 rfl) ?_
  refine lv_lload_n hx hb qd_X_mix_1 rfl (lv_at hl 1 rfl) ?_
  refine lv_lxor hx hb qd_X_mix_2 ?_
  refine lv_ldc2 (v := (-7046029254386353131)) hx hb hown (hW _ qm_50) qd_X_mix_3 ?_
  refine lv_lmul hx hb qd_X_mix_6 ?_
  refine tq_tl (y := tq_m1 h x) (rfl) ?_
  refine lv_lstore (lv' := [(4, .long (tq_m1 h x)), (0, .long h), (2, .long x)]) hx hb qd_X_mix_7 hl (by decide) rfl (fun ls hl => ?_)
  refine lv_lload hx hb qd_X_mix_9 (lv_at hl 0 rfl) ?_
  refine lv_lload hx hb qd_X_mix_11 (lv_at hl 0 rfl) ?_
  refine lv_bipush (v := nI 29) hx hb qd_X_mix_13 (by decide +kernel) ?_
  refine lv_lushr (v := tq_sh (tq_m1 h x) (nI 29)) hx hb qd_X_mix_15 rfl ?_
  refine lv_lxor hx hb qd_X_mix_16 ?_
  refine lv_ldc2 (v := (-4658895280553007687)) hx hb hown (hW _ qm_51) qd_X_mix_17 ?_
  refine lv_lmul hx hb qd_X_mix_20 ?_
  refine tq_tl (y := tq_m2 (tq_m1 h x)) (rfl) ?_
  refine lv_lstore (lv' := [(6, .long (tq_m2 (tq_m1 h x))), (4, .long (tq_m1 h x)), (0, .long h), (2, .long x)]) hx hb qd_X_mix_21 hl (by decide) rfl (fun ls hl => ?_)
  refine lv_lload hx hb qd_X_mix_23 (lv_at hl 0 rfl) ?_
  refine lv_lload hx hb qd_X_mix_25 (lv_at hl 0 rfl) ?_
  refine lv_bipush (v := nI 32) hx hb qd_X_mix_27 (by decide +kernel) ?_
  refine lv_lushr (v := tq_sh (tq_m2 (tq_m1 h x)) (nI 32)) hx hb qd_X_mix_29 rfl ?_
  refine lv_lxor hx hb qd_X_mix_30 ?_
  refine tq_tl (y := tq_mix h x) (rfl) ?_
  exact W.lret hx hb hr (fun t ht hW9 => ⟨_, rfl, rfl, ht⟩) (fun _ h => nomatch h) qd_X_mix_31
set_option maxHeartbeats 4000000 in
set_option maxRecDepth 100000 in
/-- M_mix: MIX -/
theorem ct_M_mix (l : Launch) (h x : Int64) : Met l qy_M_mix qw_M_mix ({ frames := 0, cells := 0, slots := 0, locals := 0 }) (va_Pc [.long h, .long x] (fun _ => True)) (vp_Sl (fun r => r = tq_mix h x)) 0 0 (fun _ => False) := by
  refine Met.ofW (cc := qc_M_mix) (maxL := 8) (ret := (some .long)) (by decide) rfl ?_
  intro p e s m args below meth c s₁ B hml hv
  obtain ⟨rfl, -⟩ := hv
  have hx := B.exec
  have hb := B.bytes
  have hr := B.returns
  have hts := atoms_spec (ws := qw_M_mix) B.pre
  have hW : ∀ w ∈ tq_W, w.before ([.long h, .long x] : List Value).toArray s = true := fun w h => hts w (List.mem_cons_of_mem _ h)
  have hown : s.vm.findClass RX1 = some m.cls := findClass_of_methodNamed B.named
  have hlocks := B.notSynchronized
  have hl := lv_entry ([.long h, .long x]) (n := 8) (Nat.le_of_ble_eq_true rfl)
  rw [lg_entry_eq]
  generalize (lg_sl ([.long h, .long x]) ++ List.replicate (8 - (lg_sl ([.long h, .long x])).length) Slot.unset).toArray = ls at hl ⊢
  have hl : lv_has ls 8 [(0, .long h), (2, .long x)] := hl
  refine lv_lload_n hx hb qd_M_mix_0 rfl (lv_at hl 0 rfl) ?_
  refine lv_lload_n hx hb qd_M_mix_1 rfl (lv_at hl 1 rfl) ?_
  refine lv_lxor hx hb qd_M_mix_2 ?_
  refine lv_ldc2 (v := (-7046029254386353131)) hx hb hown (hW _ qm_333) qd_M_mix_3 ?_
  refine lv_lmul hx hb qd_M_mix_6 ?_
  refine tq_tl (y := tq_m1 h x) (rfl) ?_
  refine lv_lstore (lv' := [(4, .long (tq_m1 h x)), (0, .long h), (2, .long x)]) hx hb qd_M_mix_7 hl (by decide) rfl (fun ls hl => ?_)
  refine lv_lload hx hb qd_M_mix_9 (lv_at hl 0 rfl) ?_
  refine lv_lload hx hb qd_M_mix_11 (lv_at hl 0 rfl) ?_
  refine lv_bipush (v := nI 29) hx hb qd_M_mix_13 (by decide +kernel) ?_
  refine lv_lushr (v := tq_sh (tq_m1 h x) (nI 29)) hx hb qd_M_mix_15 rfl ?_
  refine lv_lxor hx hb qd_M_mix_16 ?_
  refine lv_ldc2 (v := (-4658895280553007687)) hx hb hown (hW _ qm_334) qd_M_mix_17 ?_
  refine lv_lmul hx hb qd_M_mix_20 ?_
  refine tq_tl (y := tq_m2 (tq_m1 h x)) (rfl) ?_
  refine lv_lstore (lv' := [(6, .long (tq_m2 (tq_m1 h x))), (4, .long (tq_m1 h x)), (0, .long h), (2, .long x)]) hx hb qd_M_mix_21 hl (by decide) rfl (fun ls hl => ?_)
  refine lv_lload hx hb qd_M_mix_23 (lv_at hl 0 rfl) ?_
  refine lv_lload hx hb qd_M_mix_25 (lv_at hl 0 rfl) ?_
  refine lv_bipush (v := nI 32) hx hb qd_M_mix_27 (by decide +kernel) ?_
  refine lv_lushr (v := tq_sh (tq_m2 (tq_m1 h x)) (nI 32)) hx hb qd_M_mix_29 rfl ?_
  refine lv_lxor hx hb qd_M_mix_30 ?_
  refine tq_tl (y := tq_mix h x) (rfl) ?_
  exact W.lret hx hb hr (fun t ht hW9 => ⟨_, rfl, rfl, ht⟩) (fun _ h => nomatch h) qd_M_mix_31
set_option maxHeartbeats 4000000 in
set_option maxRecDepth 100000 in
theorem ct_X_leafOf (l : Launch) (v : Int64) : Met l qy_X_leafOf qw_X_leafOf ({ frames := 1, cells := 0, slots := 0, locals := 27 }) (va_Pc [.long v] (fun _ => True)) (vp_Sl (fun r => r = tq_leaf v)) 0 0 (fun _ => False) := by
  refine Met.ofW (cc := qc_X_leafOf) (maxL := 2) (ret := (some .long)) (by decide) rfl ?_
  intro p e s m args below meth c s₁ B hml hv
  obtain ⟨rfl, -⟩ := hv
  have hx := B.exec
  have hb := B.bytes
  have hr := B.returns
  have hts := atoms_spec (ws := qw_X_leafOf) B.pre
  have hW : ∀ w ∈ tq_W, w.before ([.long v] : List Value).toArray s = true := fun w h => hts w (List.mem_cons_of_mem _ h)
  have hown : s.vm.findClass RX0 = some m.cls := findClass_of_methodNamed B.named
  have hlocks := B.notSynchronized
  have hl := lv_entry ([.long v]) (n := 2) (Nat.le_of_ble_eq_true rfl)
  rw [lg_entry_eq]
  generalize (lg_sl ([.long v]) ++ List.replicate (2 - (lg_sl ([.long v])).length) Slot.unset).toArray = ls at hl ⊢
  have hl : lv_has ls 2 [(0, .long v)] := hl
  refine lv_lconst (v := 1) hx hb qd_X_leafOf_0 (by decide) ?_
  refine lv_lload_n hx hb qd_X_leafOf_1 rfl (lv_at hl 0 rfl) ?_
  refine vp_callSl (W.runS (As := [.long 1, .long v]) (rest := []) ⟨hx, hb, hml, hown, hW⟩ (ct_X_mix l 1 v) (cwS 2 hW (tq_gS qm_47 qm_48 qm_1 qm_49) rfl rfl rfl (by decide +kernel) ⟨Nat.le_of_ble_eq_true rfl, Nat.le_of_ble_eq_true rfl⟩) ⟨tq_b0, fun U hU hW9 => ⟨rfl, trivial⟩⟩ rfl rfl hl.1 rfl (lv_room (Nat.le_of_ble_eq_true rfl)) qd_X_leafOf_2 ⟨Nat.le_of_ble_eq_true rfl, Nat.le_of_ble_eq_true rfl⟩) (fun r9 e9 => ?_)
  subst e9
  exact W.lret hx hb hr (fun t ht hW9 => ⟨_, rfl, rfl, ht⟩) (fun _ h => nomatch h) qd_X_leafOf_5
set_option maxHeartbeats 4000000 in
set_option maxRecDepth 100000 in
theorem ct_X_nodeOf (l : Launch) (a b : Int64) : Met l qy_X_nodeOf qw_X_nodeOf ({ frames := 1, cells := 0, slots := 0, locals := 27 }) (va_Pc [.long a, .long b] (fun _ => True)) (vp_Sl (fun r => r = tq_node a b)) 0 0 (fun _ => False) := by
  refine Met.ofW (cc := qc_X_nodeOf) (maxL := 4) (ret := (some .long)) (by decide) rfl ?_
  intro p e s m args below meth c s₁ B hml hv
  obtain ⟨rfl, -⟩ := hv
  have hx := B.exec
  have hb := B.bytes
  have hr := B.returns
  have hts := atoms_spec (ws := qw_X_nodeOf) B.pre
  have hW : ∀ w ∈ tq_W, w.before ([.long a, .long b] : List Value).toArray s = true := fun w h => hts w (List.mem_cons_of_mem _ h)
  have hown : s.vm.findClass RX0 = some m.cls := findClass_of_methodNamed B.named
  have hlocks := B.notSynchronized
  have hl := lv_entry ([.long a, .long b]) (n := 4) (Nat.le_of_ble_eq_true rfl)
  rw [lg_entry_eq]
  generalize (lg_sl ([.long a, .long b]) ++ List.replicate (4 - (lg_sl ([.long a, .long b])).length) Slot.unset).toArray = ls at hl ⊢
  have hl : lv_has ls 4 [(0, .long a), (2, .long b)] := hl
  refine lv_ldc2 (v := (2)) hx hb hown (hW _ qm_58) qd_X_nodeOf_0 ?_
  refine lv_lload_n hx hb qd_X_nodeOf_3 rfl (lv_at hl 0 rfl) ?_
  refine vp_callSl (W.runS (As := [.long 2, .long a]) (rest := []) ⟨hx, hb, hml, hown, hW⟩ (ct_X_mix l 2 a) (cwS 2 hW (tq_gS qm_47 qm_48 qm_1 qm_49) rfl rfl rfl (by decide +kernel) ⟨Nat.le_of_ble_eq_true rfl, Nat.le_of_ble_eq_true rfl⟩) ⟨tq_b0, fun U hU hW9 => ⟨rfl, trivial⟩⟩ rfl rfl hl.1 rfl (lv_room (Nat.le_of_ble_eq_true rfl)) qd_X_nodeOf_4 ⟨Nat.le_of_ble_eq_true rfl, Nat.le_of_ble_eq_true rfl⟩) (fun r9 e9 => ?_)
  subst e9
  refine lv_lload_n hx hb qd_X_nodeOf_7 rfl (lv_at hl 1 rfl) ?_
  refine vp_callSl (W.runS (As := [.long (tq_mix 2 a), .long b]) (rest := []) ⟨hx, hb, hml, hown, hW⟩ (ct_X_mix l (tq_mix 2 a) b) (cwS 2 hW (tq_gS qm_47 qm_48 qm_1 qm_49) rfl rfl rfl (by decide +kernel) ⟨Nat.le_of_ble_eq_true rfl, Nat.le_of_ble_eq_true rfl⟩) ⟨tq_b0, fun U hU hW9 => ⟨rfl, trivial⟩⟩ rfl rfl hl.1 rfl (lv_room (Nat.le_of_ble_eq_true rfl)) qd_X_nodeOf_8 ⟨Nat.le_of_ble_eq_true rfl, Nat.le_of_ble_eq_true rfl⟩) (fun r9 e9 => ?_)
  subst e9
  exact W.lret hx hb hr (fun t ht hW9 => ⟨_, rfl, rfl, ht⟩) (fun _ h => nomatch h) qd_X_nodeOf_11
set_option maxHeartbeats 4000000 in
set_option maxRecDepth 100000 in
theorem ct_M_node (l : Launch) (a b : Int64) : Met l qy_M_node qw_M_node ({ frames := 1, cells := 0, slots := 0, locals := 27 }) (va_Pc [.long a, .long b] (fun _ => True)) (vp_Sl (fun r => r = tq_node a b)) 0 0 (fun _ => False) := by
  refine Met.ofW (cc := qc_M_node) (maxL := 4) (ret := (some .long)) (by decide) rfl ?_
  intro p e s m args below meth c s₁ B hml hv
  obtain ⟨rfl, -⟩ := hv
  have hx := B.exec
  have hb := B.bytes
  have hr := B.returns
  have hts := atoms_spec (ws := qw_M_node) B.pre
  have hW : ∀ w ∈ tq_W, w.before ([.long a, .long b] : List Value).toArray s = true := fun w h => hts w (List.mem_cons_of_mem _ h)
  have hown : s.vm.findClass RX1 = some m.cls := findClass_of_methodNamed B.named
  have hlocks := B.notSynchronized
  have hl := lv_entry ([.long a, .long b]) (n := 4) (Nat.le_of_ble_eq_true rfl)
  rw [lg_entry_eq]
  generalize (lg_sl ([.long a, .long b]) ++ List.replicate (4 - (lg_sl ([.long a, .long b])).length) Slot.unset).toArray = ls at hl ⊢
  have hl : lv_has ls 4 [(0, .long a), (2, .long b)] := hl
  refine lv_ldc2 (v := (2)) hx hb hown (hW _ qm_341) qd_M_node_0 ?_
  refine lv_lload_n hx hb qd_M_node_3 rfl (lv_at hl 0 rfl) ?_
  refine vp_callSl (W.runS (As := [.long 2, .long a]) (rest := []) ⟨hx, hb, hml, hown, hW⟩ (ct_M_mix l 2 a) (cwS 2 hW (tq_gS qm_330 qm_331 qm_2 qm_332) rfl rfl rfl (by decide +kernel) ⟨Nat.le_of_ble_eq_true rfl, Nat.le_of_ble_eq_true rfl⟩) ⟨tq_b0, fun U hU hW9 => ⟨rfl, trivial⟩⟩ rfl rfl hl.1 rfl (lv_room (Nat.le_of_ble_eq_true rfl)) qd_M_node_4 ⟨Nat.le_of_ble_eq_true rfl, Nat.le_of_ble_eq_true rfl⟩) (fun r9 e9 => ?_)
  subst e9
  refine lv_lload_n hx hb qd_M_node_7 rfl (lv_at hl 1 rfl) ?_
  refine vp_callSl (W.runS (As := [.long (tq_mix 2 a), .long b]) (rest := []) ⟨hx, hb, hml, hown, hW⟩ (ct_M_mix l (tq_mix 2 a) b) (cwS 2 hW (tq_gS qm_330 qm_331 qm_2 qm_332) rfl rfl rfl (by decide +kernel) ⟨Nat.le_of_ble_eq_true rfl, Nat.le_of_ble_eq_true rfl⟩) ⟨tq_b0, fun U hU hW9 => ⟨rfl, trivial⟩⟩ rfl rfl hl.1 rfl (lv_room (Nat.le_of_ble_eq_true rfl)) qd_M_node_8 ⟨Nat.le_of_ble_eq_true rfl, Nat.le_of_ble_eq_true rfl⟩) (fun r9 e9 => ?_)
  subst e9
  exact W.lret hx hb hr (fun t ht hW9 => ⟨_, rfl, rfl, ht⟩) (fun _ h => nomatch h) qd_M_node_11
set_option maxHeartbeats 4000000 in
set_option maxRecDepth 100000 in
/-- the greatest power of two below n -/
theorem ct_X_powerBelow (l : Launch) (n : Nat) (h1 : 1 ≤ n) (h2 : n ≤ 2 ^ 30) : Met l qy_X_powerBelow qw_X_powerBelow ({ frames := 0, cells := 0, slots := 0, locals := 0 }) (va_Pc [.int (nI n)] (fun _ => True)) (vp_Si (fun r => r = nI (tq_pb n))) 0 0 (fun _ => False) := by
  refine Met.ofW (cc := qc_X_powerBelow) (maxL := 2) (ret := (some .int)) (by decide) rfl ?_
  intro p e s m args below meth c s₁ B hml hv
  obtain ⟨rfl, -⟩ := hv
  have hx := B.exec
  have hb := B.bytes
  have hr := B.returns
  have hts := atoms_spec (ws := qw_X_powerBelow) B.pre
  have hW : ∀ w ∈ tq_W, w.before ([.int (nI n)] : List Value).toArray s = true := fun w h => hts w (List.mem_cons_of_mem _ h)
  have hown : s.vm.findClass RX0 = some m.cls := findClass_of_methodNamed B.named
  have hlocks := B.notSynchronized
  have hl := lv_entry ([.int (nI n)]) (n := 2) (Nat.le_of_ble_eq_true rfl)
  rw [lg_entry_eq]
  generalize (lg_sl ([.int (nI n)]) ++ List.replicate (2 - (lg_sl ([.int (nI n)])).length) Slot.unset).toArray = ls at hl ⊢
  have hl : lv_has ls 2 [(0, .int (nI n))] := hl
  have loop : ∀ (t j : Nat), j + t = 30 → (2 ^ j < n ∨ (n = 1 ∧ j = 0)) → ∀ ls : Array Slot, lv_has ls 2 [(1, .int (nI (2 ^ j))), (0, .int (nI n))] → W p l e (headSpec qw_X_powerBelow ({ frames := 0, cells := 0, slots := 0, locals := 0 })).room s m ([.int (nI n)] : List Value).toArray below meth c s.heap [] 0 0 (MQ below (vp_Si (fun r => r = nI (tq_pb n))) ([.int (nI n)] : List Value).toArray s 0 0 (fun _ => False)) (F0 m 2 ls []) := by
    intro t
    induction t with
    | zero =>
      intro j ht hj ls hl
      obtain rfl : j = 30 := by omega
      rcases hj with h | h <;> omega
    | succ t ih =>
      intro j ht hj ls hl
      have hp0 : 0 < 2 ^ j := Nat.two_pow_pos j
      have hp : 2 ^ j ≤ 2 ^ 29 := Nat.pow_le_pow_right (by decide) (by omega)
      have hle : 2 ^ j ≤ n := by
        rcases hj with h | ⟨h, h9⟩
        · omega
        · rw [h, h9]; decide
      refine lv_iload_n hx hb qd_X_powerBelow_2 rfl (lv_at hl 0 rfl) ?_
      refine lv_ldc (v := (1073741824)) hx hb hown (hW _ qm_37) qd_X_powerBelow_3 ?_
      refine tq_ti (y := nI 1073741824) (by decide +kernel) ?_
      refine tq_icmp_ge (x := (2 ^ j)) (y := 1073741824) (tgt := 22) hx hb qd_X_powerBelow_5 (by decide) (by omega) (by omega) (fun c9 => by omega) (fun c9 => ?_)
      refine lv_iload_n hx hb qd_X_powerBelow_8 rfl (lv_at hl 0 rfl) ?_
      refine lv_iload_n hx hb qd_X_powerBelow_9 rfl (lv_at hl 1 rfl) ?_
      refine lv_iload_n hx hb qd_X_powerBelow_10 rfl (lv_at hl 0 rfl) ?_
      refine lv_isub hx hb qd_X_powerBelow_11 ?_
      refine tq_ti (y := nI (n - 2 ^ j)) (pk_sub hle) ?_
      refine tq_icmp_ge (x := (2 ^ j)) (y := (n - 2 ^ j)) (tgt := 22) hx hb qd_X_powerBelow_12 (by decide) (by omega) (by omega) (fun c9 => ?_) (fun c9 => ?_)
      · have e9 : tq_pb n = 2 ^ j := by
          rcases hj with h | ⟨h, h9⟩
          · exact tq_pb_of h (by omega)
          · rw [h, h9]; exact tq_pb_1
        refine lv_iload_n hx hb qd_X_powerBelow_22 rfl (lv_at hl 0 rfl) ?_
        exact W.iret hx hb hr (fun t ht hW9 => ⟨_, rfl, by rw [e9], ht⟩) (fun _ h => nomatch h) qd_X_powerBelow_23
      · refine lv_iload_n hx hb qd_X_powerBelow_15 rfl (lv_at hl 0 rfl) ?_
        refine lv_iload_n hx hb qd_X_powerBelow_16 rfl (lv_at hl 0 rfl) ?_
        refine lv_iadd hx hb qd_X_powerBelow_17 ?_
        refine tq_ti (y := nI (2 ^ (j + 1))) (by rw [nI_add]; congr 1; rw [Nat.pow_succ]; omega) ?_
        refine lv_istore_n (lv' := [(1, .int (nI (2 ^ (j + 1)))), (0, .int (nI n))]) hx hb qd_X_powerBelow_18 rfl hl (by decide) rfl (fun ls hl => ?_)
        refine lv_goto (tgt := 2) hx hb qd_X_powerBelow_19 (by decide) ?_
        exact ih (j + 1) (by omega) (Or.inl (by rw [Nat.pow_succ]; omega)) ls (lv_sub hl [0, 1] rfl)
  refine lv_iconst (v := nI 1) hx hb qd_X_powerBelow_0 (by decide +kernel) ?_
  refine lv_istore_n (lv' := [(1, .int (nI 1)), (0, .int (nI n))]) hx hb qd_X_powerBelow_1 rfl hl (by decide) rfl (fun ls hl => ?_)
  exact loop 30 0 rfl (by rcases (by omega : n = 1 ∨ 1 < n) with h | h
                          · exact Or.inr ⟨h, rfl⟩
                          · exact Or.inl h) ls (lv_sub hl [0, 1] rfl)
set_option maxHeartbeats 4000000 in
set_option maxRecDepth 100000 in
/-- the greatest power of two below n -/
theorem ct_M_below (l : Launch) (n : Nat) (h1 : 1 ≤ n) (h2 : n ≤ 2 ^ 30) : Met l qy_M_below qw_M_below ({ frames := 0, cells := 0, slots := 0, locals := 0 }) (va_Pc [.int (nI n)] (fun _ => True)) (vp_Si (fun r => r = nI (tq_pb n))) 0 0 (fun _ => False) := by
  refine Met.ofW (cc := qc_M_below) (maxL := 2) (ret := (some .int)) (by decide) rfl ?_
  intro p e s m args below meth c s₁ B hml hv
  obtain ⟨rfl, -⟩ := hv
  have hx := B.exec
  have hb := B.bytes
  have hr := B.returns
  have hts := atoms_spec (ws := qw_M_below) B.pre
  have hW : ∀ w ∈ tq_W, w.before ([.int (nI n)] : List Value).toArray s = true := fun w h => hts w (List.mem_cons_of_mem _ h)
  have hown : s.vm.findClass RX1 = some m.cls := findClass_of_methodNamed B.named
  have hlocks := B.notSynchronized
  have hl := lv_entry ([.int (nI n)]) (n := 2) (Nat.le_of_ble_eq_true rfl)
  rw [lg_entry_eq]
  generalize (lg_sl ([.int (nI n)]) ++ List.replicate (2 - (lg_sl ([.int (nI n)])).length) Slot.unset).toArray = ls at hl ⊢
  have hl : lv_has ls 2 [(0, .int (nI n))] := hl
  have loop : ∀ (t j : Nat), j + t = 30 → (2 ^ j < n ∨ (n = 1 ∧ j = 0)) → ∀ ls : Array Slot, lv_has ls 2 [(1, .int (nI (2 ^ j))), (0, .int (nI n))] → W p l e (headSpec qw_M_below ({ frames := 0, cells := 0, slots := 0, locals := 0 })).room s m ([.int (nI n)] : List Value).toArray below meth c s.heap [] 0 0 (MQ below (vp_Si (fun r => r = nI (tq_pb n))) ([.int (nI n)] : List Value).toArray s 0 0 (fun _ => False)) (F0 m 2 ls []) := by
    intro t
    induction t with
    | zero =>
      intro j ht hj ls hl
      obtain rfl : j = 30 := by omega
      rcases hj with h | h <;> omega
    | succ t ih =>
      intro j ht hj ls hl
      have hp0 : 0 < 2 ^ j := Nat.two_pow_pos j
      have hp : 2 ^ j ≤ 2 ^ 29 := Nat.pow_le_pow_right (by decide) (by omega)
      have hle : 2 ^ j ≤ n := by
        rcases hj with h | ⟨h, h9⟩
        · omega
        · rw [h, h9]; decide
      refine lv_iload_n hx hb qd_M_below_2 rfl (lv_at hl 0 rfl) ?_
      refine lv_iload_n hx hb qd_M_below_3 rfl (lv_at hl 1 rfl) ?_
      refine lv_iload_n hx hb qd_M_below_4 rfl (lv_at hl 0 rfl) ?_
      refine lv_isub hx hb qd_M_below_5 ?_
      refine tq_ti (y := nI (n - 2 ^ j)) (pk_sub hle) ?_
      refine tq_icmp_ge (x := (2 ^ j)) (y := (n - 2 ^ j)) (tgt := 16) hx hb qd_M_below_6 (by decide) (by omega) (by omega) (fun c9 => ?_) (fun c9 => ?_)
      · have e9 : tq_pb n = 2 ^ j := by
          rcases hj with h | ⟨h, h9⟩
          · exact tq_pb_of h (by omega)
          · rw [h, h9]; exact tq_pb_1
        refine lv_iload_n hx hb qd_M_below_16 rfl (lv_at hl 0 rfl) ?_
        exact W.iret hx hb hr (fun t ht hW9 => ⟨_, rfl, by rw [e9], ht⟩) (fun _ h => nomatch h) qd_M_below_17
      · refine lv_iload_n hx hb qd_M_below_9 rfl (lv_at hl 0 rfl) ?_
        refine lv_iload_n hx hb qd_M_below_10 rfl (lv_at hl 0 rfl) ?_
        refine lv_iadd hx hb qd_M_below_11 ?_
        refine tq_ti (y := nI (2 ^ (j + 1))) (by rw [nI_add]; congr 1; rw [Nat.pow_succ]; omega) ?_
        refine lv_istore_n (lv' := [(1, .int (nI (2 ^ (j + 1)))), (0, .int (nI n))]) hx hb qd_M_below_12 rfl hl (by decide) rfl (fun ls hl => ?_)
        refine lv_goto (tgt := 2) hx hb qd_M_below_13 (by decide) ?_
        exact ih (j + 1) (by omega) (Or.inl (by rw [Nat.pow_succ]; omega)) ls (lv_sub hl [0, 1] rfl)
  refine lv_iconst (v := nI 1) hx hb qd_M_below_0 (by decide +kernel) ?_
  refine lv_istore_n (lv' := [(1, .int (nI 1)), (0, .int (nI n))]) hx hb qd_M_below_1 rfl hl (by decide) rfl (fun ls hl => ?_)
  exact loop 30 0 rfl (by rcases (by omega : n = 1 ∨ 1 < n) with h | h
                          · exact Or.inr ⟨h, rfl⟩
                          · exact Or.inl h) ls (lv_sub hl [0, 1] rfl)
set_option maxHeartbeats 4000000 in
set_option maxRecDepth 100000 in
/-- how long a PATH is -/
theorem ct_X_pathLength (l : Launch) (k0 n : Nat) (h1 : k0 < n) (h2 : n ≤ 2 ^ 30) : Met l qy_X_pathLength qw_X_pathLength ({ frames := 1, cells := 0, slots := 0, locals := 21 }) (va_Pc [.int (nI k0), .int (nI n)] (fun _ => True)) (vp_Si (fun r => r = nI (tq_pl k0 n))) 0 0 (fun _ => False) := by
  refine Met.ofW (cc := qc_X_pathLength) (maxL := 6) (ret := (some .int)) (by decide) rfl ?_
  intro p e s m args below meth c s₁ B hml hv
  obtain ⟨rfl, -⟩ := hv
  have hx := B.exec
  have hb := B.bytes
  have hr := B.returns
  have hts := atoms_spec (ws := qw_X_pathLength) B.pre
  have hW : ∀ w ∈ tq_W, w.before ([.int (nI k0), .int (nI n)] : List Value).toArray s = true := fun w h => hts w (List.mem_cons_of_mem _ h)
  have hown : s.vm.findClass RX0 = some m.cls := findClass_of_methodNamed B.named
  have hlocks := B.notSynchronized
  have hl := lv_entry ([.int (nI k0), .int (nI n)]) (n := 6) (Nat.le_of_ble_eq_true rfl)
  rw [lg_entry_eq]
  generalize (lg_sl ([.int (nI k0), .int (nI n)]) ++ List.replicate (6 - (lg_sl ([.int (nI k0), .int (nI n)])).length) Slot.unset).toArray = ls at hl ⊢
  have hl : lv_has ls 6 [(0, .int (nI k0)), (1, .int (nI n))] := hl
  have loop : ∀ (t a b q : Nat), b ≤ 2 ^ t → q + t ≤ 30 → a ≤ 2 ^ 30 → q + tq_pl a b = tq_pl k0 n → ∀ ls : Array Slot, lv_has ls 6 [(4, .int (nI q)), (3, .int (nI b)), (2, .int (nI a))] → W p l e (headSpec qw_X_pathLength ({ frames := 1, cells := 0, slots := 0, locals := 21 })).room s m ([.int (nI k0), .int (nI n)] : List Value).toArray below meth c s.heap [] 0 0 (MQ below (vp_Si (fun r => r = nI (tq_pl k0 n))) ([.int (nI k0), .int (nI n)] : List Value).toArray s 0 0 (fun _ => False)) (F0 m 7 ls []) := by
    intro t
    induction t with
    | zero =>
      intro a b q hb2 ht ha hq ls hl
      refine lv_iload_n hx hb qd_X_pathLength_7 rfl (lv_at hl 1 rfl) ?_
      refine lv_iconst (v := nI 1) hx hb qd_X_pathLength_8 (by decide +kernel) ?_
      refine tq_icmp_le (x := b) (y := 1) (tgt := 53) hx hb qd_X_pathLength_9 (by decide) (by omega) (by omega) (fun c9 => ?_) (fun c9 => by omega)
      refine lv_iload hx hb qd_X_pathLength_53 (lv_at hl 0 rfl) ?_
      exact W.iret hx hb hr (fun t ht hW9 => ⟨_, rfl, by rw [← hq, tq_pl_0 (by omega)]; rfl, ht⟩) (fun _ h => nomatch h) qd_X_pathLength_55
    | succ t ih =>
      intro a b q hb2 ht ha hq ls hl
      have hbb : b ≤ 2 ^ 30 := Nat.le_trans hb2 (Nat.pow_le_pow_right (by decide) (by omega))
      refine lv_iload_n hx hb qd_X_pathLength_7 rfl (lv_at hl 1 rfl) ?_
      refine lv_iconst (v := nI 1) hx hb qd_X_pathLength_8 (by decide +kernel) ?_
      refine tq_icmp_le (x := b) (y := 1) (tgt := 53) hx hb qd_X_pathLength_9 (by decide) (by omega) (by omega) (fun c9 => ?_) (fun c9 => ?_)
      · refine lv_iload hx hb qd_X_pathLength_53 (lv_at hl 0 rfl) ?_
        exact W.iret hx hb hr (fun t ht hW9 => ⟨_, rfl, by rw [← hq, tq_pl_0 (by omega)]; rfl, ht⟩) (fun _ h => nomatch h) qd_X_pathLength_55
      · have hlt := tq_pb_lt (n := b) (by omega)
        have hps := tq_pb_pos b
        have hh := tq_pb_half hb2 (by omega)
        have hrr := tq_pb_rest hb2 (by omega)
        refine lv_iload hx hb qd_X_pathLength_12 (lv_at hl 0 rfl) ?_
        refine lv_bipush (v := nI 40) hx hb qd_X_pathLength_14 (by decide +kernel) ?_
        refine tq_icmp_ge (x := q) (y := 40) (tgt := 53) hx hb qd_X_pathLength_16 (by decide) (by omega) (by omega) (fun c9 => by omega) (fun c9 => ?_)
        refine lv_iload_n hx hb qd_X_pathLength_19 rfl (lv_at hl 1 rfl) ?_
        refine vp_callSi (W.runS (As := [.int (nI b)]) (rest := []) ⟨hx, hb, hml, hown, hW⟩ (ct_X_powerBelow l b (by omega) (by omega)) (cwS 1 hW (tq_gS qm_41 qm_42 qm_1 qm_43) rfl rfl rfl (by decide +kernel) ⟨Nat.le_of_ble_eq_true rfl, Nat.le_of_ble_eq_true rfl⟩) ⟨tq_b0, fun U hU hW9 => ⟨rfl, trivial⟩⟩ rfl rfl hl.1 rfl (lv_room (Nat.le_of_ble_eq_true rfl)) qd_X_pathLength_20 ⟨Nat.le_of_ble_eq_true rfl, Nat.le_of_ble_eq_true rfl⟩) (fun r9 e9 => ?_)
        subst e9
        refine lv_istore (lv' := [(5, .int (nI (tq_pb b))), (4, .int (nI q)), (3, .int (nI b)), (2, .int (nI a))]) hx hb qd_X_pathLength_23 hl (by decide) rfl (fun ls hl => ?_)
        refine lv_iload_n hx hb qd_X_pathLength_25 rfl (lv_at hl 3 rfl) ?_
        refine lv_iload hx hb qd_X_pathLength_26 (lv_at hl 0 rfl) ?_
        refine tq_icmp_ge (x := a) (y := (tq_pb b)) (tgt := 37) hx hb qd_X_pathLength_28 (by decide) (by omega) (by omega) (fun c9 => ?_) (fun c9 => ?_)
        · refine lv_iload_n hx hb qd_X_pathLength_37 rfl (lv_at hl 3 rfl) ?_
          refine lv_iload hx hb qd_X_pathLength_38 (lv_at hl 0 rfl) ?_
          refine lv_isub hx hb qd_X_pathLength_40 ?_
          refine tq_ti (y := nI (a - tq_pb b)) (pk_sub (by omega)) ?_
          refine lv_istore_n (lv' := [(2, .int (nI (a - tq_pb b))), (5, .int (nI (tq_pb b))), (4, .int (nI q)), (3, .int (nI b))]) hx hb qd_X_pathLength_41 rfl hl (by decide) rfl (fun ls hl => ?_)
          refine lv_iload_n hx hb qd_X_pathLength_42 rfl (lv_at hl 3 rfl) ?_
          refine lv_iload hx hb qd_X_pathLength_43 (lv_at hl 1 rfl) ?_
          refine lv_isub hx hb qd_X_pathLength_45 ?_
          refine tq_ti (y := nI (b - tq_pb b)) (pk_sub (by omega)) ?_
          refine lv_istore_n (lv' := [(3, .int (nI (b - tq_pb b))), (2, .int (nI (a - tq_pb b))), (5, .int (nI (tq_pb b))), (4, .int (nI q))]) hx hb qd_X_pathLength_46 rfl hl (by decide) rfl (fun ls hl => ?_)
          refine lv_iinc (v := (nI (q + 1))) (lv' := [(4, .int (nI (q + 1))), (3, .int (nI (b - tq_pb b))), (2, .int (nI (a - tq_pb b))), (5, .int (nI (tq_pb b)))]) hx hb qd_X_pathLength_47 hl (k := 3) rfl (nI_1 q) (by decide) rfl (fun ls hl => ?_)
          refine lv_goto (tgt := 7) hx hb qd_X_pathLength_50 (by decide) ?_
          exact ih (a - tq_pb b) (b - tq_pb b) (q + 1) hrr (by omega) (by omega) (by have := tq_pl_r (m := a) (n := b) (by omega) (by omega); omega) ls (lv_sub hl [0, 1, 2] rfl)
        · refine lv_iload hx hb qd_X_pathLength_31 (lv_at hl 0 rfl) ?_
          refine lv_istore_n (lv' := [(3, .int (nI (tq_pb b))), (5, .int (nI (tq_pb b))), (4, .int (nI q)), (2, .int (nI a))]) hx hb qd_X_pathLength_33 rfl hl (by decide) rfl (fun ls hl => ?_)
          refine lv_goto (tgt := 47) hx hb qd_X_pathLength_34 (by decide) ?_
          refine lv_iinc (v := (nI (q + 1))) (lv' := [(4, .int (nI (q + 1))), (3, .int (nI (tq_pb b))), (5, .int (nI (tq_pb b))), (2, .int (nI a))]) hx hb qd_X_pathLength_47 hl (k := 2) rfl (nI_1 q) (by decide) rfl (fun ls hl => ?_)
          refine lv_goto (tgt := 7) hx hb qd_X_pathLength_50 (by decide) ?_
          exact ih a (tq_pb b) (q + 1) hh (by omega) ha (by have := tq_pl_l (m := a) (n := b) (by omega) (by omega); omega) ls (lv_sub hl [0, 1, 3] rfl)
  refine lv_iload_n hx hb qd_X_pathLength_0 rfl (lv_at hl 0 rfl) ?_
  refine lv_istore_n (lv' := [(2, .int (nI k0)), (0, .int (nI k0)), (1, .int (nI n))]) hx hb qd_X_pathLength_1 rfl hl (by decide) rfl (fun ls hl => ?_)
  refine lv_iload_n hx hb qd_X_pathLength_2 rfl (lv_at hl 2 rfl) ?_
  refine lv_istore_n (lv' := [(3, .int (nI n)), (2, .int (nI k0)), (0, .int (nI k0)), (1, .int (nI n))]) hx hb qd_X_pathLength_3 rfl hl (by decide) rfl (fun ls hl => ?_)
  refine lv_iconst (v := nI 0) hx hb qd_X_pathLength_4 (by decide +kernel) ?_
  refine lv_istore (lv' := [(4, .int (nI 0)), (3, .int (nI n)), (2, .int (nI k0)), (0, .int (nI k0)), (1, .int (nI n))]) hx hb qd_X_pathLength_5 hl (by decide) rfl (fun ls hl => ?_)
  exact loop 30 k0 n 0 h2 (by omega) (by omega) (Nat.zero_add _) ls (lv_sub hl [0, 1, 2] rfl)
set_option maxHeartbeats 4000000 in
set_option maxRecDepth 100000 in
/-- how long STEPS are -/
theorem ct_X_stepsLength (l : Launch) (k0 n : Nat) (h0 : 1 ≤ k0) (h1 : k0 ≤ n) (h2 : n ≤ 2 ^ 30) : Met l qy_X_stepsLength qw_X_stepsLength ({ frames := 1, cells := 0, slots := 0, locals := 21 }) (va_Pc [.int (nI k0), .int (nI n)] (fun _ => True)) (vp_Si (fun r => r = nI (tq_sl true k0 n))) 0 0 (fun _ => False) := by
  refine Met.ofW (cc := qc_X_stepsLength) (maxL := 7) (ret := (some .int)) (by decide) rfl ?_
  intro p e s m args below meth c s₁ B hml hv
  obtain ⟨rfl, -⟩ := hv
  have hx := B.exec
  have hb := B.bytes
  have hr := B.returns
  have hts := atoms_spec (ws := qw_X_stepsLength) B.pre
  have hW : ∀ w ∈ tq_W, w.before ([.int (nI k0), .int (nI n)] : List Value).toArray s = true := fun w h => hts w (List.mem_cons_of_mem _ h)
  have hown : s.vm.findClass RX0 = some m.cls := findClass_of_methodNamed B.named
  have hlocks := B.notSynchronized
  have hl := lv_entry ([.int (nI k0), .int (nI n)]) (n := 7) (Nat.le_of_ble_eq_true rfl)
  rw [lg_entry_eq]
  generalize (lg_sl ([.int (nI k0), .int (nI n)]) ++ List.replicate (7 - (lg_sl ([.int (nI k0), .int (nI n)])).length) Slot.unset).toArray = ls at hl ⊢
  have hl : lv_has ls 7 [(0, .int (nI k0)), (1, .int (nI n))] := hl
  have loop : ∀ (t a b q : Nat) (kn : Bool), 1 ≤ a → a ≤ b → b ≤ 2 ^ t → q + t ≤ 30 → q + tq_sl kn a b = tq_sl true k0 n → ∀ ls : Array Slot, lv_has ls 7 [(5, .int (nI q)), (4, .int (tq_b kn)), (3, .int (nI b)), (2, .int (nI a))] → W p l e (headSpec qw_X_stepsLength ({ frames := 1, cells := 0, slots := 0, locals := 21 })).room s m ([.int (nI k0), .int (nI n)] : List Value).toArray below meth c s.heap [] 0 0 (MQ below (vp_Si (fun r => r = nI (tq_sl true k0 n))) ([.int (nI k0), .int (nI n)] : List Value).toArray s 0 0 (fun _ => False)) (F0 m 10 ls []) := by
    intro t
    induction t with
    | zero =>
      intro a b q kn ha1 hab hb2 ht hq ls hl
      refine lv_iload_n hx hb qd_X_stepsLength_10 rfl (lv_at hl 3 rfl) ?_
      refine lv_iload_n hx hb qd_X_stepsLength_11 rfl (lv_at hl 2 rfl) ?_
      refine tq_icmp_eq (x := a) (y := b) (tgt := 59) hx hb qd_X_stepsLength_12 (by decide) (by omega) (by omega) (fun c9 => ?_) (fun c9 => by omega)
      subst c9
      rw [tq_sl_e] at hq
      refine lv_iload hx hb qd_X_stepsLength_59 (lv_at hl 1 rfl) ?_
      refine lv_if_eq (tgt := 69) hx hb qd_X_stepsLength_61 (by decide) (fun c9 => ?_) (fun c9 => ?_)
      · have e9 : kn = false := by cases kn with | false => rfl | true => exact absurd c9 (by decide)
        subst e9
        refine lv_iload hx hb qd_X_stepsLength_69 (lv_at hl 0 rfl) ?_
        refine lv_iconst (v := nI 1) hx hb qd_X_stepsLength_71 (by decide +kernel) ?_
        refine lv_iadd hx hb qd_X_stepsLength_72 ?_
        refine tq_ti (y := nI (q + 1)) (nI_1 q) ?_
        exact W.iret hx hb hr (fun t ht hW9 => ⟨_, rfl, by rw [← hq]; rfl, ht⟩) (fun _ h => nomatch h) qd_X_stepsLength_73
      · have e9 : kn = true := by cases kn with | true => rfl | false => exact absurd rfl c9
        subst e9
        refine lv_iload hx hb qd_X_stepsLength_64 (lv_at hl 0 rfl) ?_
        refine lv_goto (tgt := 73) hx hb qd_X_stepsLength_66 (by decide) ?_
        exact W.iret hx hb hr (fun t ht hW9 => ⟨_, rfl, by rw [← hq]; rfl, ht⟩) (fun _ h => nomatch h) qd_X_stepsLength_73
    | succ t ih =>
      intro a b q kn ha1 hab hb2 ht hq ls hl
      have hbb : b ≤ 2 ^ 30 := Nat.le_trans hb2 (Nat.pow_le_pow_right (by decide) (by omega))
      refine lv_iload_n hx hb qd_X_stepsLength_10 rfl (lv_at hl 3 rfl) ?_
      refine lv_iload_n hx hb qd_X_stepsLength_11 rfl (lv_at hl 2 rfl) ?_
      refine tq_icmp_eq (x := a) (y := b) (tgt := 59) hx hb qd_X_stepsLength_12 (by decide) (by omega) (by omega) (fun c9 => ?_) (fun c9 => ?_)
      · subst c9
        rw [tq_sl_e] at hq
        refine lv_iload hx hb qd_X_stepsLength_59 (lv_at hl 1 rfl) ?_
        refine lv_if_eq (tgt := 69) hx hb qd_X_stepsLength_61 (by decide) (fun c9 => ?_) (fun c9 => ?_)
        · have e9 : kn = false := by cases kn with | false => rfl | true => exact absurd c9 (by decide)
          subst e9
          refine lv_iload hx hb qd_X_stepsLength_69 (lv_at hl 0 rfl) ?_
          refine lv_iconst (v := nI 1) hx hb qd_X_stepsLength_71 (by decide +kernel) ?_
          refine lv_iadd hx hb qd_X_stepsLength_72 ?_
          refine tq_ti (y := nI (q + 1)) (nI_1 q) ?_
          exact W.iret hx hb hr (fun t ht hW9 => ⟨_, rfl, by rw [← hq]; rfl, ht⟩) (fun _ h => nomatch h) qd_X_stepsLength_73
        · have e9 : kn = true := by cases kn with | true => rfl | false => exact absurd rfl c9
          subst e9
          refine lv_iload hx hb qd_X_stepsLength_64 (lv_at hl 0 rfl) ?_
          refine lv_goto (tgt := 73) hx hb qd_X_stepsLength_66 (by decide) ?_
          exact W.iret hx hb hr (fun t ht hW9 => ⟨_, rfl, by rw [← hq]; rfl, ht⟩) (fun _ h => nomatch h) qd_X_stepsLength_73
      · have hlt := tq_pb_lt (n := b) (by omega)
        have hps := tq_pb_pos b
        have hh := tq_pb_half hb2 (by omega)
        have hrr := tq_pb_rest hb2 (by omega)
        refine lv_iload hx hb qd_X_stepsLength_15 (lv_at hl 0 rfl) ?_
        refine lv_bipush (v := nI 39) hx hb qd_X_stepsLength_17 (by decide +kernel) ?_
        refine tq_icmp_ge (x := q) (y := 39) (tgt := 59) hx hb qd_X_stepsLength_19 (by decide) (by omega) (by omega) (fun c9 => by omega) (fun c9 => ?_)
        refine lv_iload_n hx hb qd_X_stepsLength_22 rfl (lv_at hl 2 rfl) ?_
        refine vp_callSi (W.runS (As := [.int (nI b)]) (rest := []) ⟨hx, hb, hml, hown, hW⟩ (ct_X_powerBelow l b (by omega) (by omega)) (cwS 1 hW (tq_gS qm_41 qm_42 qm_1 qm_43) rfl rfl rfl (by decide +kernel) ⟨Nat.le_of_ble_eq_true rfl, Nat.le_of_ble_eq_true rfl⟩) ⟨tq_b0, fun U hU hW9 => ⟨rfl, trivial⟩⟩ rfl rfl hl.1 rfl (lv_room (Nat.le_of_ble_eq_true rfl)) qd_X_stepsLength_23 ⟨Nat.le_of_ble_eq_true rfl, Nat.le_of_ble_eq_true rfl⟩) (fun r9 e9 => ?_)
        subst e9
        refine lv_istore (lv' := [(6, .int (nI (tq_pb b))), (5, .int (nI q)), (4, .int (tq_b kn)), (3, .int (nI b)), (2, .int (nI a))]) hx hb qd_X_stepsLength_26 hl (by decide) rfl (fun ls hl => ?_)
        refine lv_iload_n hx hb qd_X_stepsLength_28 rfl (lv_at hl 4 rfl) ?_
        refine lv_iload hx hb qd_X_stepsLength_29 (lv_at hl 0 rfl) ?_
        refine tq_icmp_gt (x := a) (y := (tq_pb b)) (tgt := 40) hx hb qd_X_stepsLength_31 (by decide) (by omega) (by omega) (fun c9 => ?_) (fun c9 => ?_)
        · refine lv_iload_n hx hb qd_X_stepsLength_40 rfl (lv_at hl 4 rfl) ?_
          refine lv_iload hx hb qd_X_stepsLength_41 (lv_at hl 0 rfl) ?_
          refine lv_isub hx hb qd_X_stepsLength_43 ?_
          refine tq_ti (y := nI (a - tq_pb b)) (pk_sub (by omega)) ?_
          refine lv_istore_n (lv' := [(2, .int (nI (a - tq_pb b))), (6, .int (nI (tq_pb b))), (5, .int (nI q)), (4, .int (tq_b kn)), (3, .int (nI b))]) hx hb qd_X_stepsLength_44 rfl hl (by decide) rfl (fun ls hl => ?_)
          refine lv_iload_n hx hb qd_X_stepsLength_45 rfl (lv_at hl 4 rfl) ?_
          refine lv_iload hx hb qd_X_stepsLength_46 (lv_at hl 1 rfl) ?_
          refine lv_isub hx hb qd_X_stepsLength_48 ?_
          refine tq_ti (y := nI (b - tq_pb b)) (pk_sub (by omega)) ?_
          refine lv_istore_n (lv' := [(3, .int (nI (b - tq_pb b))), (2, .int (nI (a - tq_pb b))), (6, .int (nI (tq_pb b))), (5, .int (nI q)), (4, .int (tq_b kn))]) hx hb qd_X_stepsLength_49 rfl hl (by decide) rfl (fun ls hl => ?_)
          refine lv_iconst (v := nI 0) hx hb qd_X_stepsLength_50 (by decide +kernel) ?_
          refine tq_ti (y := tq_b false) (rfl) ?_
          refine lv_istore (lv' := [(4, .int (tq_b false)), (3, .int (nI (b - tq_pb b))), (2, .int (nI (a - tq_pb b))), (6, .int (nI (tq_pb b))), (5, .int (nI q))]) hx hb qd_X_stepsLength_51 hl (by decide) rfl (fun ls hl => ?_)
          refine lv_iinc (v := (nI (q + 1))) (lv' := [(5, .int (nI (q + 1))), (4, .int (tq_b false)), (3, .int (nI (b - tq_pb b))), (2, .int (nI (a - tq_pb b))), (6, .int (nI (tq_pb b)))]) hx hb qd_X_stepsLength_53 hl (k := 4) rfl (nI_1 q) (by decide) rfl (fun ls hl => ?_)
          refine lv_goto (tgt := 10) hx hb qd_X_stepsLength_56 (by decide) ?_
          exact ih (a - tq_pb b) (b - tq_pb b) (q + 1) false (by omega) (by omega) hrr (by omega) (by have := tq_sl_r (b := kn) (m := a) (n := b) (by omega) (by omega) (by omega); omega) ls (lv_sub hl [0, 1, 2, 3] rfl)
        · refine lv_iload hx hb qd_X_stepsLength_34 (lv_at hl 0 rfl) ?_
          refine lv_istore_n (lv' := [(3, .int (nI (tq_pb b))), (6, .int (nI (tq_pb b))), (5, .int (nI q)), (4, .int (tq_b kn)), (2, .int (nI a))]) hx hb qd_X_stepsLength_36 rfl hl (by decide) rfl (fun ls hl => ?_)
          refine lv_goto (tgt := 53) hx hb qd_X_stepsLength_37 (by decide) ?_
          refine lv_iinc (v := (nI (q + 1))) (lv' := [(5, .int (nI (q + 1))), (3, .int (nI (tq_pb b))), (6, .int (nI (tq_pb b))), (4, .int (tq_b kn)), (2, .int (nI a))]) hx hb qd_X_stepsLength_53 hl (k := 2) rfl (nI_1 q) (by decide) rfl (fun ls hl => ?_)
          refine lv_goto (tgt := 10) hx hb qd_X_stepsLength_56 (by decide) ?_
          exact ih a (tq_pb b) (q + 1) kn ha1 (by omega) hh (by omega) (by have := tq_sl_l (b := kn) (m := a) (n := b) (by omega) (by omega); omega) ls (lv_sub hl [0, 3, 1, 4] rfl)
  refine lv_iload_n hx hb qd_X_stepsLength_0 rfl (lv_at hl 0 rfl) ?_
  refine lv_istore_n (lv' := [(2, .int (nI k0)), (0, .int (nI k0)), (1, .int (nI n))]) hx hb qd_X_stepsLength_1 rfl hl (by decide) rfl (fun ls hl => ?_)
  refine lv_iload_n hx hb qd_X_stepsLength_2 rfl (lv_at hl 2 rfl) ?_
  refine lv_istore_n (lv' := [(3, .int (nI n)), (2, .int (nI k0)), (0, .int (nI k0)), (1, .int (nI n))]) hx hb qd_X_stepsLength_3 rfl hl (by decide) rfl (fun ls hl => ?_)
  refine lv_iconst (v := nI 1) hx hb qd_X_stepsLength_4 (by decide +kernel) ?_
  refine tq_ti (y := tq_b true) (rfl) ?_
  refine lv_istore (lv' := [(4, .int (tq_b true)), (3, .int (nI n)), (2, .int (nI k0)), (0, .int (nI k0)), (1, .int (nI n))]) hx hb qd_X_stepsLength_5 hl (by decide) rfl (fun ls hl => ?_)
  refine lv_iconst (v := nI 0) hx hb qd_X_stepsLength_7 (by decide +kernel) ?_
  refine lv_istore (lv' := [(5, .int (nI 0)), (4, .int (tq_b true)), (3, .int (nI n)), (2, .int (nI k0)), (0, .int (nI k0)), (1, .int (nI n))]) hx hb qd_X_stepsLength_8 hl (by decide) rfl (fun ls hl => ?_)
  exact loop 30 k0 n 0 true h0 h1 h2 (by omega) (Nat.zero_add _) ls (lv_sub hl [0, 1, 2, 3] rfl)
