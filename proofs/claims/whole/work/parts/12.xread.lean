theorem tq_nle {x y : Int32} (h : y < x) : ¬ x ≤ y := fun h8 => by rw [Int32.lt_iff_toInt_lt] at h; rw [Int32.le_iff_toInt_le] at h8; omega
set_option maxHeartbeats 4000000 in
set_option maxRecDepth 100000 in
/-- head -/
theorem ct_X_head (l : Launch) (dC : Nat → ClassId) (dI : Nat → Nat → Nat) (x a b : Nat) (cA : ClassId) (n k : Nat) (f g : Nat → Int64) (j : Nat) (hj : j ≤ n) (hn : n ≤ 600) : Met l qy_X_head qw_X_head ({ frames := 13, cells := 0, slots := 0, locals := 320 }) (va_Pc [.ref x, .int (nI j)] (tq_ro (dC, dI) tq_cl [(x, .inr (0, [.ref a, .int (nI n), .ref b, .int (nI k)])), (a, .inl (cA, (600, .inr (.inl f)))), (b, .inl (cA, (40, .inr (.inl g))))] [(cA, .long)])) (vp_Sl (fun r => r = tq_hd f 0 j)) 0 0 (fun _ => False) := by
  refine Met.ofW (cc := qc_X_head) (maxL := 2) (ret := (some .long)) (by decide) rfl ?_
  intro p e s m args below meth c s₁ B hml hv
  obtain ⟨rfl, hP, hK⟩ := hv
  have hx := B.exec
  have hb := B.bytes
  have hr := B.returns
  have hts := atoms_spec (ws := qw_X_head) B.pre
  have hW : ∀ w ∈ tq_W, w.before ([.ref x, .int (nI j)] : List Value).toArray s = true := fun w h => hts w (List.mem_cons_of_mem _ h)
  have hown : s.vm.findClass RX0 = some m.cls := findClass_of_methodNamed B.named
  have hlocks := B.notSynchronized
  have hl := lv_entry ([.ref x, .int (nI j)]) (n := 2) (Nat.le_of_ble_eq_true rfl)
  rw [lg_entry_eq]
  generalize (lg_sl ([.ref x, .int (nI j)]) ++ List.replicate (2 - (lg_sl ([.ref x, .int (nI j)])).length) Slot.unset).toArray = ls at hl ⊢
  have hl : lv_has ls 2 [(0, .ref x), (1, .int (nI j))] := hl
  refine lv_iload_n hx hb qd_X_head_0 rfl (lv_at hl 1 rfl) ?_
  refine tq_if_lt (x := j) (tgt := 12) hx hb qd_X_head_1 (by decide) (by omega) ?_
  refine lv_iload_n hx hb qd_X_head_4 rfl (lv_at hl 1 rfl) ?_
  refine lv_aload_n hx hb qd_X_head_5 rfl (lv_at hl 0 rfl) ?_
  refine va_get (D := (dC, dI)) (ci := 0) (v := .int (nI n)) (C := RX0) (T := TX0) (N := 4) hx hb hW inX0 hown hK hP 0 rfl rfl 1 (by decide) (hW _ qm_20) (fun _ h9 => h9) rfl qd_X_head_6 ?_
  refine tq_icmp_le (x := j) (y := n) (tgt := 20) hx hb qd_X_head_9 (by decide) (by omega) (by omega) (fun c9 => ?_) (fun c9 => by omega)
  refine lv_aload_n hx hb qd_X_head_20 rfl (lv_at hl 0 rfl) ?_
  refine va_get (D := (dC, dI)) (ci := 0) (v := .ref a) (C := RX0) (T := TX0) (N := 4) hx hb hW inX0 hown hK hP 0 rfl rfl 0 (by decide) (hW _ qm_19) (fun _ h9 => h9) rfl qd_X_head_21 ?_
  refine lv_iconst (v := nI 0) hx hb qd_X_head_24 (by decide +kernel) ?_
  refine lv_iload_n hx hb qd_X_head_25 rfl (lv_at hl 1 rfl) ?_
  refine tq_ti (y := nI (0 + j)) (by rw [Nat.zero_add]) ?_
  refine vp_callSl (W.runS (As := [.ref a, .int (nI 0), .int (nI (0 + j))]) (rest := []) ⟨hx, hb, hml, hown, hW⟩ (ct_X_headOf l dC dI a cA f 10 0 j (by omega) (by omega)) (cwS 3 hW (tq_gS qm_207 qm_208 qm_1 qm_209) rfl rfl rfl (by decide +kernel) ⟨Nat.le_of_ble_eq_true rfl, Nat.le_of_ble_eq_true rfl⟩) ⟨tq_b1, fun U hU hW9 => ⟨rfl, by rw [hU]; exact hP.sub [1] rfl, va_K.moved hW9.alike (hK.sub [0] rfl)⟩⟩ rfl rfl hl.1 rfl (lv_room (Nat.le_of_ble_eq_true rfl)) qd_X_head_26 ⟨Nat.le_of_ble_eq_true rfl, Nat.le_of_ble_eq_true rfl⟩) (fun r9 e9 => ?_)
  subst e9
  exact W.lret hx hb hr (fun t ht hW9 => ⟨_, rfl, rfl, ht⟩) (fun _ h => nomatch h) qd_X_head_29
set_option maxHeartbeats 4000000 in
set_option maxRecDepth 100000 in
/-- part -/
theorem ct_X_part (l : Launch) (dC : Nat → ClassId) (dI : Nat → Nat → Nat) (x a b : Nat) (cA : ClassId) (n k : Nat) (f g : Nat → Int64) (i j : Nat) (hi : i ≤ j) (hj : j ≤ n) (hn : n ≤ 600) : Met l qy_X_part qw_X_part ({ frames := 13, cells := 0, slots := 0, locals := 320 }) (va_Pc [.ref x, .int (nI i), .int (nI j)] (tq_ro (dC, dI) tq_cl [(x, .inr (0, [.ref a, .int (nI n), .ref b, .int (nI k)])), (a, .inl (cA, (600, .inr (.inl f)))), (b, .inl (cA, (40, .inr (.inl g))))] [(cA, .long)])) (vp_Sl (fun r => r = tq_hd f i (j - i))) 0 0 (fun _ => False) := by
  refine Met.ofW (cc := qc_X_part) (maxL := 3) (ret := (some .long)) (by decide) rfl ?_
  intro p e s m args below meth c s₁ B hml hv
  obtain ⟨rfl, hP, hK⟩ := hv
  have hx := B.exec
  have hb := B.bytes
  have hr := B.returns
  have hts := atoms_spec (ws := qw_X_part) B.pre
  have hW : ∀ w ∈ tq_W, w.before ([.ref x, .int (nI i), .int (nI j)] : List Value).toArray s = true := fun w h => hts w (List.mem_cons_of_mem _ h)
  have hown : s.vm.findClass RX0 = some m.cls := findClass_of_methodNamed B.named
  have hlocks := B.notSynchronized
  have hl := lv_entry ([.ref x, .int (nI i), .int (nI j)]) (n := 3) (Nat.le_of_ble_eq_true rfl)
  rw [lg_entry_eq]
  generalize (lg_sl ([.ref x, .int (nI i), .int (nI j)]) ++ List.replicate (3 - (lg_sl ([.ref x, .int (nI i), .int (nI j)])).length) Slot.unset).toArray = ls at hl ⊢
  have hl : lv_has ls 3 [(0, .ref x), (1, .int (nI i)), (2, .int (nI j))] := hl
  refine lv_iload_n hx hb qd_X_part_0 rfl (lv_at hl 1 rfl) ?_
  refine tq_if_lt (x := i) (tgt := 17) hx hb qd_X_part_1 (by decide) (by omega) ?_
  refine lv_iload_n hx hb qd_X_part_4 rfl (lv_at hl 1 rfl) ?_
  refine lv_iload_n hx hb qd_X_part_5 rfl (lv_at hl 2 rfl) ?_
  refine tq_icmp_gt (x := i) (y := j) (tgt := 17) hx hb qd_X_part_6 (by decide) (by omega) (by omega) (fun c9 => by omega) (fun c9 => ?_)
  refine lv_iload_n hx hb qd_X_part_9 rfl (lv_at hl 2 rfl) ?_
  refine lv_aload_n hx hb qd_X_part_10 rfl (lv_at hl 0 rfl) ?_
  refine va_get (D := (dC, dI)) (ci := 0) (v := .int (nI n)) (C := RX0) (T := TX0) (N := 4) hx hb hW inX0 hown hK hP 0 rfl rfl 1 (by decide) (hW _ qm_20) (fun _ h9 => h9) rfl qd_X_part_11 ?_
  refine tq_icmp_le (x := j) (y := n) (tgt := 25) hx hb qd_X_part_14 (by decide) (by omega) (by omega) (fun c9 => ?_) (fun c9 => by omega)
  refine lv_aload_n hx hb qd_X_part_25 rfl (lv_at hl 0 rfl) ?_
  refine va_get (D := (dC, dI)) (ci := 0) (v := .ref a) (C := RX0) (T := TX0) (N := 4) hx hb hW inX0 hown hK hP 0 rfl rfl 0 (by decide) (hW _ qm_19) (fun _ h9 => h9) rfl qd_X_part_26 ?_
  refine lv_iload_n hx hb qd_X_part_29 rfl (lv_at hl 1 rfl) ?_
  refine lv_iload_n hx hb qd_X_part_30 rfl (lv_at hl 2 rfl) ?_
  refine tq_ti (y := nI (i + (j - i))) (by congr 1; omega) ?_
  refine vp_callSl (W.runS (As := [.ref a, .int (nI i), .int (nI (i + (j - i)))]) (rest := []) ⟨hx, hb, hml, hown, hW⟩ (ct_X_headOf l dC dI a cA f 10 i (j - i) (by omega) (by omega)) (cwS 3 hW (tq_gS qm_207 qm_208 qm_1 qm_209) rfl rfl rfl (by decide +kernel) ⟨Nat.le_of_ble_eq_true rfl, Nat.le_of_ble_eq_true rfl⟩) ⟨tq_b1, fun U hU hW9 => ⟨rfl, by rw [hU]; exact hP.sub [1] rfl, va_K.moved hW9.alike (hK.sub [0] rfl)⟩⟩ rfl rfl hl.1 rfl (lv_room (Nat.le_of_ble_eq_true rfl)) qd_X_part_31 ⟨Nat.le_of_ble_eq_true rfl, Nat.le_of_ble_eq_true rfl⟩) (fun r9 e9 => ?_)
  subst e9
  exact W.lret hx hb hr (fun t ht hW9 => ⟨_, rfl, rfl, ht⟩) (fun _ h => nomatch h) qd_X_part_34
set_option maxHeartbeats 4000000 in
set_option maxRecDepth 100000 in
/-- proof -/
theorem ct_X_proof (l : Launch) (dC : Nat → ClassId) (dI : Nat → Nat → Nat) (x a b : Nat) (cA : ClassId) (n k : Nat) (f g : Nat → Int64) (j : Nat) (hj : j < k) (hk : k ≤ 40) : Met l qy_X_proof qw_X_proof ({ frames := 0, cells := 0, slots := 0, locals := 0 }) (va_Pc [.ref x, .int (nI j)] (tq_ro (dC, dI) tq_cl [(x, .inr (0, [.ref a, .int (nI n), .ref b, .int (nI k)])), (a, .inl (cA, (600, .inr (.inl f)))), (b, .inl (cA, (40, .inr (.inl g))))] [(cA, .long)])) (vp_Sl (fun r => r = g j)) 0 0 (fun _ => False) := by
  refine Met.ofW (cc := qc_X_proof) (maxL := 2) (ret := (some .long)) (by decide) rfl ?_
  intro p e s m args below meth c s₁ B hml hv
  obtain ⟨rfl, hP, hK⟩ := hv
  have hx := B.exec
  have hb := B.bytes
  have hr := B.returns
  have hts := atoms_spec (ws := qw_X_proof) B.pre
  have hW : ∀ w ∈ tq_W, w.before ([.ref x, .int (nI j)] : List Value).toArray s = true := fun w h => hts w (List.mem_cons_of_mem _ h)
  have hown : s.vm.findClass RX0 = some m.cls := findClass_of_methodNamed B.named
  have hlocks := B.notSynchronized
  have hl := lv_entry ([.ref x, .int (nI j)]) (n := 2) (Nat.le_of_ble_eq_true rfl)
  rw [lg_entry_eq]
  generalize (lg_sl ([.ref x, .int (nI j)]) ++ List.replicate (2 - (lg_sl ([.ref x, .int (nI j)])).length) Slot.unset).toArray = ls at hl ⊢
  have hl : lv_has ls 2 [(0, .ref x), (1, .int (nI j))] := hl
  refine lv_iload_n hx hb qd_X_proof_0 rfl (lv_at hl 1 rfl) ?_
  refine tq_if_lt (x := j) (tgt := 12) hx hb qd_X_proof_1 (by decide) (by omega) ?_
  refine lv_iload_n hx hb qd_X_proof_4 rfl (lv_at hl 1 rfl) ?_
  refine lv_aload_n hx hb qd_X_proof_5 rfl (lv_at hl 0 rfl) ?_
  refine va_get (D := (dC, dI)) (ci := 0) (v := .int (nI k)) (C := RX0) (T := TX0) (N := 4) hx hb hW inX0 hown hK hP 0 rfl rfl 3 (by decide) (hW _ qm_22) (fun _ h9 => h9) rfl qd_X_proof_6 ?_
  refine tq_icmp_lt (x := j) (y := k) (tgt := 20) hx hb qd_X_proof_9 (by decide) (by omega) (by omega) (fun c9 => ?_) (fun c9 => by omega)
  refine lv_aload_n hx hb qd_X_proof_20 rfl (lv_at hl 0 rfl) ?_
  refine va_get (D := (dC, dI)) (ci := 0) (v := .ref b) (C := RX0) (T := TX0) (N := 4) hx hb hW inX0 hown hK hP 0 rfl rfl 2 (by decide) (hW _ qm_21) (fun _ h9 => h9) rfl qd_X_proof_21 ?_
  refine lv_iload_n hx hb qd_X_proof_24 rfl (lv_at hl 1 rfl) ?_
  refine tq_lald hx hb hK hP 2 0 rfl rfl (j := j) (by omega) (by decide) qd_X_proof_25 ?_
  exact W.lret hx hb hr (fun t ht hW9 => ⟨_, rfl, rfl, ht⟩) (fun _ h => nomatch h) qd_X_proof_26
def tq_fd (f : Nat → Int64) (v : Int64) : Nat → Nat → Int32
  | 0, _ => -1
  | t + 1, i => if f i = v then nI i else tq_fd f v t (i + 1)
set_option maxHeartbeats 4000000 in
set_option maxRecDepth 100000 in
/-- find -/
theorem ct_X_find (l : Launch) (dC : Nat → ClassId) (dI : Nat → Nat → Nat) (x a b : Nat) (cA : ClassId) (n k : Nat) (f g : Nat → Int64) (j : Nat) (v : Int64) (hj : j ≤ n) (hn : n ≤ 600) : Met l qy_X_find qw_X_find ({ frames := 2, cells := 0, slots := 0, locals := 60 }) (va_Pc [.ref x, .int (nI j), .long v] (tq_ro (dC, dI) tq_cl [(x, .inr (0, [.ref a, .int (nI n), .ref b, .int (nI k)])), (a, .inl (cA, (600, .inr (.inl f)))), (b, .inl (cA, (40, .inr (.inl g))))] [(cA, .long)])) (vp_Si (fun r => r = tq_fd f (tq_leaf v) j 0)) 0 0 (fun _ => False) := by
  refine Met.ofW (cc := qc_X_find) (maxL := 7) (ret := (some .int)) (by decide) rfl ?_
  intro p e s m args below meth c s₁ B hml hv
  obtain ⟨rfl, hP, hK⟩ := hv
  have hx := B.exec
  have hb := B.bytes
  have hr := B.returns
  have hts := atoms_spec (ws := qw_X_find) B.pre
  have hW : ∀ w ∈ tq_W, w.before ([.ref x, .int (nI j), .long v] : List Value).toArray s = true := fun w h => hts w (List.mem_cons_of_mem _ h)
  have hown : s.vm.findClass RX0 = some m.cls := findClass_of_methodNamed B.named
  have hlocks := B.notSynchronized
  have hl := lv_entry ([.ref x, .int (nI j), .long v]) (n := 7) (Nat.le_of_ble_eq_true rfl)
  rw [lg_entry_eq]
  generalize (lg_sl ([.ref x, .int (nI j), .long v]) ++ List.replicate (7 - (lg_sl ([.ref x, .int (nI j), .long v])).length) Slot.unset).toArray = ls at hl ⊢
  have hl : lv_has ls 7 [(0, .ref x), (1, .int (nI j)), (2, .long v)] := hl
  have loop : ∀ (t i : Nat), i + t = j → tq_fd f (tq_leaf v) t i = tq_fd f (tq_leaf v) j 0 → ∀ ls : Array Slot, lv_has ls 7 [(6, .int (nI i)), (4, .long (tq_leaf v)), (0, .ref x), (1, .int (nI j))] → W p l e (headSpec qw_X_find ({ frames := 2, cells := 0, slots := 0, locals := 60 })).room s m ([.ref x, .int (nI j), .long v] : List Value).toArray below meth c s.heap [] 0 0 (MQ below (vp_Si (fun r => r = tq_fd f (tq_leaf v) j 0)) ([.ref x, .int (nI j), .long v] : List Value).toArray s 0 0 (fun _ => False)) (F0 m 29 ls []) := by
    intro t
    induction t with
    | zero =>
      intro i hi hq ls hl
      refine lv_iload hx hb qd_X_find_29 (lv_at hl 0 rfl) ?_
      refine lv_iload_n hx hb qd_X_find_31 rfl (lv_at hl 3 rfl) ?_
      refine tq_icmp_ge (x := i) (y := j) (tgt := 57) hx hb qd_X_find_32 (by decide) (by omega) (by omega) (fun c9 => ?_) (fun c9 => by omega)
      refine lv_iconst (v := (-1)) hx hb qd_X_find_57 (by decide +kernel) ?_
      exact W.iret hx hb hr (fun t ht hW9 => ⟨_, rfl, hq, ht⟩) (fun _ h => nomatch h) qd_X_find_58
    | succ t ih =>
      intro i hi hq ls hl
      refine lv_iload hx hb qd_X_find_29 (lv_at hl 0 rfl) ?_
      refine lv_iload_n hx hb qd_X_find_31 rfl (lv_at hl 3 rfl) ?_
      refine tq_icmp_ge (x := i) (y := j) (tgt := 57) hx hb qd_X_find_32 (by decide) (by omega) (by omega) (fun c9 => by omega) (fun c9 => ?_)
      refine lv_aload_n hx hb qd_X_find_35 rfl (lv_at hl 2 rfl) ?_
      refine va_get (D := (dC, dI)) (ci := 0) (v := .ref a) (C := RX0) (T := TX0) (N := 4) hx hb hW inX0 hown hK hP 0 rfl rfl 0 (by decide) (hW _ qm_19) (fun _ h9 => h9) rfl qd_X_find_36 ?_
      refine lv_iload hx hb qd_X_find_39 (lv_at hl 0 rfl) ?_
      refine tq_lald hx hb hK hP 1 0 rfl rfl (j := i) (by omega) (by decide) qd_X_find_41 ?_
      refine lv_lload hx hb qd_X_find_42 (lv_at hl 1 rfl) ?_
      refine tq_lc_ne (tgt := 51) hx hb qd_X_find_44 qd_X_find_45 (by decide) (fun c9 => ?_) (fun c9 => ?_)
      · refine lv_iinc (v := (nI (i + 1))) (lv' := [(6, .int (nI (i + 1))), (4, .long (tq_leaf v)), (0, .ref x), (1, .int (nI j))]) hx hb qd_X_find_51 hl (k := 0) rfl (nI_1 i) (by decide) rfl (fun ls hl => ?_)
        refine lv_goto (tgt := 29) hx hb qd_X_find_54 (by decide) ?_
        exact ih (i + 1) (by omega) (by rw [← hq]; show _ = (if f i = tq_leaf v then nI i else _); rw [if_neg c9]) ls (lv_sub hl [0, 1, 2, 3] rfl)
      · refine lv_iload hx hb qd_X_find_48 (lv_at hl 0 rfl) ?_
        exact W.iret hx hb hr (fun t ht hW9 => ⟨_, rfl, by rw [← hq]; show _ = (if f i = tq_leaf v then nI i else _); rw [if_pos c9], ht⟩) (fun _ h => nomatch h) qd_X_find_50
  refine lv_iload_n hx hb qd_X_find_0 rfl (lv_at hl 1 rfl) ?_
  refine tq_if_lt (x := j) (tgt := 12) hx hb qd_X_find_1 (by decide) (by omega) ?_
  refine lv_iload_n hx hb qd_X_find_4 rfl (lv_at hl 1 rfl) ?_
  refine lv_aload_n hx hb qd_X_find_5 rfl (lv_at hl 0 rfl) ?_
  refine va_get (D := (dC, dI)) (ci := 0) (v := .int (nI n)) (C := RX0) (T := TX0) (N := 4) hx hb hW inX0 hown hK hP 0 rfl rfl 1 (by decide) (hW _ qm_20) (fun _ h9 => h9) rfl qd_X_find_6 ?_
  refine tq_icmp_le (x := j) (y := n) (tgt := 20) hx hb qd_X_find_9 (by decide) (by omega) (by omega) (fun c9 => ?_) (fun c9 => by omega)
  refine lv_lload_n hx hb qd_X_find_20 rfl (lv_at hl 2 rfl) ?_
  refine vp_callSl (W.runS (As := [.long v]) (rest := []) ⟨hx, hb, hml, hown, hW⟩ (ct_X_leafOf l v) (cwS 1 hW (tq_gS qm_44 qm_45 qm_1 qm_46) rfl rfl rfl (by decide +kernel) ⟨Nat.le_of_ble_eq_true rfl, Nat.le_of_ble_eq_true rfl⟩) ⟨tq_b0, fun U hU hW9 => ⟨rfl, trivial⟩⟩ rfl rfl hl.1 rfl (lv_room (Nat.le_of_ble_eq_true rfl)) qd_X_find_21 ⟨Nat.le_of_ble_eq_true rfl, Nat.le_of_ble_eq_true rfl⟩) (fun r9 e9 => ?_)
  subst e9
  refine lv_lstore (lv' := [(4, .long (tq_leaf v)), (0, .ref x), (1, .int (nI j)), (2, .long v)]) hx hb qd_X_find_24 hl (by decide) rfl (fun ls hl => ?_)
  refine lv_iconst (v := nI 0) hx hb qd_X_find_26 (by decide +kernel) ?_
  refine lv_istore (lv' := [(6, .int (nI 0)), (4, .long (tq_leaf v)), (0, .ref x), (1, .int (nI j)), (2, .long v)]) hx hb qd_X_find_27 hl (by decide) rfl (fun ls hl => ?_)
  exact loop j 0 (Nat.zero_add j) rfl ls (lv_sub hl [0, 1, 2, 3] rfl)
set_option maxHeartbeats 4000000 in
set_option maxRecDepth 100000 in
/-- shows, refused -/
theorem ct_X_shows_no (l : Launch) (dC : Nat → ClassId) (dI : Nat → Nat → Nat) (x a b : Nat) (cA : ClassId) (n k : Nat) (f g : Nat → Int64) (pm pn : Int32) (v hd : Int64) (hbad : pm < 0 ∨ pn ≤ pm ∨ nI 1073741824 < pn) : Met l qy_X_shows qw_X_shows ({ frames := 33, cells := 0, slots := 0, locals := 940 }) (va_Pc [.ref x, .int pm, .int pn, .long v, .long hd] (tq_ro (dC, dI) tq_cl [(x, .inr (0, [.ref a, .int (nI n), .ref b, .int (nI k)])), (a, .inl (cA, (600, .inr (.inl f)))), (b, .inl (cA, (40, .inr (.inl g))))] [(cA, .long)])) (vp_Si (fun r => r = nI 0)) 0 0 (fun _ => False) := by
  refine Met.ofW (cc := qc_X_shows) (maxL := 7) (ret := (some .boolean)) (by decide) rfl ?_
  intro p e s m args below meth c s₁ B hml hv
  obtain ⟨rfl, hP, hK⟩ := hv
  have hx := B.exec
  have hb := B.bytes
  have hr := B.returns
  have hts := atoms_spec (ws := qw_X_shows) B.pre
  have hW : ∀ w ∈ tq_W, w.before ([.ref x, .int pm, .int pn, .long v, .long hd] : List Value).toArray s = true := fun w h => hts w (List.mem_cons_of_mem _ h)
  have hown : s.vm.findClass RX0 = some m.cls := findClass_of_methodNamed B.named
  have hlocks := B.notSynchronized
  have hl := lv_entry ([.ref x, .int pm, .int pn, .long v, .long hd]) (n := 7) (Nat.le_of_ble_eq_true rfl)
  rw [lg_entry_eq]
  generalize (lg_sl ([.ref x, .int pm, .int pn, .long v, .long hd]) ++ List.replicate (7 - (lg_sl ([.ref x, .int pm, .int pn, .long v, .long hd])).length) Slot.unset).toArray = ls at hl ⊢
  have hl : lv_has ls 7 [(0, .ref x), (1, .int pm), (2, .int pn), (3, .long v), (5, .long hd)] := hl
  refine lv_iload_n hx hb qd_X_shows_0 rfl (lv_at hl 1 rfl) ?_
  refine lv_if_lt (tgt := 15) hx hb qd_X_shows_1 (by decide) (fun c1 => ?_) (fun c1 => ?_)
  · refine lv_iconst (v := nI 0) hx hb qd_X_shows_15 (by decide +kernel) ?_
    exact W.zret hx hb hr (by decide) (fun t ht hW9 => ⟨_, rfl, rfl, ht⟩) (fun _ h => nomatch h) qd_X_shows_16
  · refine lv_iload_n hx hb qd_X_shows_4 rfl (lv_at hl 1 rfl) ?_
    refine lv_iload_n hx hb qd_X_shows_5 rfl (lv_at hl 2 rfl) ?_
    refine lv_icmp_ge (tgt := 15) hx hb qd_X_shows_6 (by decide) (fun c2 => ?_) (fun c2 => ?_)
    · refine lv_iconst (v := nI 0) hx hb qd_X_shows_15 (by decide +kernel) ?_
      exact W.zret hx hb hr (by decide) (fun t ht hW9 => ⟨_, rfl, rfl, ht⟩) (fun _ h => nomatch h) qd_X_shows_16
    · have h9 : ¬ pn ≤ nI 1073741824 := tq_nle (hbad.elim (fun h => absurd h c1) (fun h => h.elim (fun h => absurd h c2) id))
      refine lv_iload_n hx hb qd_X_shows_9 rfl (lv_at hl 2 rfl) ?_
      refine lv_ldc (v := (1073741824)) hx hb hown (hW _ qm_37) qd_X_shows_10 ?_
      refine tq_ti (y := nI 1073741824) (by decide +kernel) ?_
      refine lv_icmp_le (tgt := 17) hx hb qd_X_shows_12 (by decide) (fun c9 => absurd c9 (h9)) (fun c3 => ?_)
      refine lv_iconst (v := nI 0) hx hb qd_X_shows_15 (by decide +kernel) ?_
      exact W.zret hx hb hr (by decide) (fun t ht hW9 => ⟨_, rfl, rfl, ht⟩) (fun _ h => nomatch h) qd_X_shows_16
set_option maxHeartbeats 4000000 in
set_option maxRecDepth 100000 in
/-- shows -/
theorem ct_X_shows (l : Launch) (dC : Nat → ClassId) (dI : Nat → Nat → Nat) (x a b : Nat) (cA : ClassId) (n k : Nat) (f g : Nat → Int64) (i j : Nat) (v hd : Int64) (h1 : i < j) (h2 : j ≤ 2 ^ 30) (hk : k ≤ 40) : Met l qy_X_shows qw_X_shows ({ frames := 33, cells := 0, slots := 0, locals := 940 }) (va_Pc [.ref x, .int (nI i), .int (nI j), .long v, .long hd] (tq_ro (dC, dI) tq_cl [(x, .inr (0, [.ref a, .int (nI n), .ref b, .int (nI k)])), (a, .inl (cA, (600, .inr (.inl f)))), (b, .inl (cA, (40, .inr (.inl g))))] [(cA, .long)])) (vp_Si (fun r => r = tq_b (decide (k = tq_pl i j) && decide (tq_rt g i j (tq_leaf v) = hd)))) 0 0 (fun _ => False) := by
  refine Met.ofW (cc := qc_X_shows) (maxL := 7) (ret := (some .boolean)) (by decide) rfl ?_
  intro p e s m args below meth c s₁ B hml hv
  obtain ⟨rfl, hP, hK⟩ := hv
  have hx := B.exec
  have hb := B.bytes
  have hr := B.returns
  have hts := atoms_spec (ws := qw_X_shows) B.pre
  have hW : ∀ w ∈ tq_W, w.before ([.ref x, .int (nI i), .int (nI j), .long v, .long hd] : List Value).toArray s = true := fun w h => hts w (List.mem_cons_of_mem _ h)
  have hown : s.vm.findClass RX0 = some m.cls := findClass_of_methodNamed B.named
  have hlocks := B.notSynchronized
  have hl := lv_entry ([.ref x, .int (nI i), .int (nI j), .long v, .long hd]) (n := 7) (Nat.le_of_ble_eq_true rfl)
  rw [lg_entry_eq]
  generalize (lg_sl ([.ref x, .int (nI i), .int (nI j), .long v, .long hd]) ++ List.replicate (7 - (lg_sl ([.ref x, .int (nI i), .int (nI j), .long v, .long hd])).length) Slot.unset).toArray = ls at hl ⊢
  have hl : lv_has ls 7 [(0, .ref x), (1, .int (nI i)), (2, .int (nI j)), (3, .long v), (5, .long hd)] := hl
  have hpl := tq_pl_le 30 i j h2
  refine lv_iload_n hx hb qd_X_shows_0 rfl (lv_at hl 1 rfl) ?_
  refine tq_if_lt (x := i) (tgt := 15) hx hb qd_X_shows_1 (by decide) (by omega) ?_
  refine lv_iload_n hx hb qd_X_shows_4 rfl (lv_at hl 1 rfl) ?_
  refine lv_iload_n hx hb qd_X_shows_5 rfl (lv_at hl 2 rfl) ?_
  refine tq_icmp_ge (x := i) (y := j) (tgt := 15) hx hb qd_X_shows_6 (by decide) (by omega) (by omega) (fun c9 => by omega) (fun c9 => ?_)
  refine lv_iload_n hx hb qd_X_shows_9 rfl (lv_at hl 2 rfl) ?_
  refine lv_ldc (v := (1073741824)) hx hb hown (hW _ qm_37) qd_X_shows_10 ?_
  refine tq_ti (y := nI 1073741824) (by decide +kernel) ?_
  refine tq_icmp_le (x := j) (y := 1073741824) (tgt := 17) hx hb qd_X_shows_12 (by decide) (by omega) (by omega) (fun c9 => ?_) (fun c9 => by omega)
  refine lv_aload_n hx hb qd_X_shows_17 rfl (lv_at hl 0 rfl) ?_
  refine va_get (D := (dC, dI)) (ci := 0) (v := .int (nI k)) (C := RX0) (T := TX0) (N := 4) hx hb hW inX0 hown hK hP 0 rfl rfl 3 (by decide) (hW _ qm_22) (fun _ h9 => h9) rfl qd_X_shows_18 ?_
  refine lv_iload_n hx hb qd_X_shows_21 rfl (lv_at hl 1 rfl) ?_
  refine lv_iload_n hx hb qd_X_shows_22 rfl (lv_at hl 2 rfl) ?_
  refine vp_callSi (W.runS (As := [.int (nI i), .int (nI j)]) (rest := [.int (nI k)]) ⟨hx, hb, hml, hown, hW⟩ (ct_X_pathLength l i j (by omega) (by omega)) (cwS 2 hW (tq_gS qm_38 qm_39 qm_1 qm_40) rfl rfl rfl (by decide +kernel) ⟨Nat.le_of_ble_eq_true rfl, Nat.le_of_ble_eq_true rfl⟩) ⟨tq_b0, fun U hU hW9 => ⟨rfl, trivial⟩⟩ rfl rfl hl.1 rfl (lv_room (Nat.le_of_ble_eq_true rfl)) qd_X_shows_23 ⟨Nat.le_of_ble_eq_true rfl, Nat.le_of_ble_eq_true rfl⟩) (fun r9 e9 => ?_)
  subst e9
  refine tq_icmp_eq (x := k) (y := (tq_pl i j)) (tgt := 31) hx hb qd_X_shows_26 (by decide) (by omega) (by omega) (fun c9 => ?_) (fun c9 => ?_)
  · refine lv_aload_n hx hb qd_X_shows_31 rfl (lv_at hl 0 rfl) ?_
    refine va_get (D := (dC, dI)) (ci := 0) (v := .ref b) (C := RX0) (T := TX0) (N := 4) hx hb hW inX0 hown hK hP 0 rfl rfl 2 (by decide) (hW _ qm_21) (fun _ h9 => h9) rfl qd_X_shows_32 ?_
    refine lv_aload_n hx hb qd_X_shows_35 rfl (lv_at hl 0 rfl) ?_
    refine va_get (D := (dC, dI)) (ci := 0) (v := .int (nI k)) (C := RX0) (T := TX0) (N := 4) hx hb hW inX0 hown hK hP 0 rfl rfl 3 (by decide) (hW _ qm_22) (fun _ h9 => h9) rfl qd_X_shows_36 ?_
    refine tq_ti (y := nI (tq_pl i j)) (by rw [c9]) ?_
    refine lv_iload_n hx hb qd_X_shows_39 rfl (lv_at hl 1 rfl) ?_
    refine lv_iload_n hx hb qd_X_shows_40 rfl (lv_at hl 2 rfl) ?_
    refine lv_lload_n hx hb qd_X_shows_41 rfl (lv_at hl 3 rfl) ?_
    refine vp_callSl (W.runS (As := [.long v]) (rest := [.int (nI j), .int (nI i), .int (nI (tq_pl i j)), .ref b]) ⟨hx, hb, hml, hown, hW⟩ (ct_X_leafOf l v) (cwS 1 hW (tq_gS qm_44 qm_45 qm_1 qm_46) rfl rfl rfl (by decide +kernel) ⟨Nat.le_of_ble_eq_true rfl, Nat.le_of_ble_eq_true rfl⟩) ⟨tq_b0, fun U hU hW9 => ⟨rfl, trivial⟩⟩ rfl rfl hl.1 rfl (lv_room (Nat.le_of_ble_eq_true rfl)) qd_X_shows_42 ⟨Nat.le_of_ble_eq_true rfl, Nat.le_of_ble_eq_true rfl⟩) (fun r9 e9 => ?_)
    subst e9
    refine vp_callSl (W.runS (As := [.ref b, .int (nI (tq_pl i j)), .int (nI i), .int (nI j), .long (tq_leaf v)]) (rest := []) ⟨hx, hb, hml, hown, hW⟩ (ct_X_headByPath l dC dI b cA g (tq_leaf v) 30 i j h1 h2 (by omega)) (cwS 5 hW (tq_gS qm_52 qm_53 qm_1 qm_54) rfl rfl rfl (by decide +kernel) ⟨Nat.le_of_ble_eq_true rfl, Nat.le_of_ble_eq_true rfl⟩) ⟨tq_b1, fun U hU hW9 => ⟨rfl, by rw [hU]; exact hP.sub [2] rfl, va_K.moved hW9.alike (hK.sub [0] rfl)⟩⟩ rfl rfl hl.1 rfl (lv_room (Nat.le_of_ble_eq_true rfl)) qd_X_shows_45 ⟨Nat.le_of_ble_eq_true rfl, Nat.le_of_ble_eq_true rfl⟩) (fun r9 e9 => ?_)
    subst e9
    refine lv_lload hx hb qd_X_shows_48 (lv_at hl 4 rfl) ?_
    refine tq_lc_ne (tgt := 58) hx hb qd_X_shows_50 qd_X_shows_51 (by decide) (fun c1 => ?_) (fun c1 => ?_)
    · refine lv_iconst (v := nI 0) hx hb qd_X_shows_58 (by decide +kernel) ?_
      exact W.zret hx hb hr (by decide) (fun t ht hW9 => ⟨_, rfl, by rw [decide_eq_false c1, Bool.and_false]; rfl, ht⟩) (fun _ h => nomatch h) qd_X_shows_59
    · refine lv_iconst (v := nI 1) hx hb qd_X_shows_54 (by decide +kernel) ?_
      refine lv_goto (tgt := 59) hx hb qd_X_shows_55 (by decide) ?_
      exact W.zret hx hb hr (by decide) (fun t ht hW9 => ⟨_, rfl, by rw [decide_eq_true c1, decide_eq_true c9]; rfl, ht⟩) (fun _ h => nomatch h) qd_X_shows_59
  · refine lv_iconst (v := nI 0) hx hb qd_X_shows_29 (by decide +kernel) ?_
    exact W.zret hx hb hr (by decide) (fun t ht hW9 => ⟨_, rfl, by rw [decide_eq_false c9]; rfl, ht⟩) (fun _ h => nomatch h) qd_X_shows_30
set_option maxHeartbeats 4000000 in
set_option maxRecDepth 100000 in
/-- grew, refused -/
theorem ct_X_grew_no (l : Launch) (dC : Nat → ClassId) (dI : Nat → Nat → Nat) (x a b : Nat) (cA : ClassId) (n k : Nat) (f g : Nat → Int64) (pm pn : Int32) (v hd : Int64) (hbad : pm < nI 1 ∨ pn < pm ∨ nI 1073741824 < pn) : Met l qy_X_grew qw_X_grew ({ frames := 33, cells := 0, slots := 0, locals := 940 }) (va_Pc [.ref x, .int pm, .int pn, .long v, .long hd] (tq_ro (dC, dI) tq_cl [(x, .inr (0, [.ref a, .int (nI n), .ref b, .int (nI k)])), (a, .inl (cA, (600, .inr (.inl f)))), (b, .inl (cA, (40, .inr (.inl g))))] [(cA, .long)])) (vp_Si (fun r => r = nI 0)) 0 0 (fun _ => False) := by
  refine Met.ofW (cc := qc_X_grew) (maxL := 7) (ret := (some .boolean)) (by decide) rfl ?_
  intro p e s m args below meth c s₁ B hml hv
  obtain ⟨rfl, hP, hK⟩ := hv
  have hx := B.exec
  have hb := B.bytes
  have hr := B.returns
  have hts := atoms_spec (ws := qw_X_grew) B.pre
  have hW : ∀ w ∈ tq_W, w.before ([.ref x, .int pm, .int pn, .long v, .long hd] : List Value).toArray s = true := fun w h => hts w (List.mem_cons_of_mem _ h)
  have hown : s.vm.findClass RX0 = some m.cls := findClass_of_methodNamed B.named
  have hlocks := B.notSynchronized
  have hl := lv_entry ([.ref x, .int pm, .int pn, .long v, .long hd]) (n := 7) (Nat.le_of_ble_eq_true rfl)
  rw [lg_entry_eq]
  generalize (lg_sl ([.ref x, .int pm, .int pn, .long v, .long hd]) ++ List.replicate (7 - (lg_sl ([.ref x, .int pm, .int pn, .long v, .long hd])).length) Slot.unset).toArray = ls at hl ⊢
  have hl : lv_has ls 7 [(0, .ref x), (1, .int pm), (2, .int pn), (3, .long v), (5, .long hd)] := hl
  refine lv_iload_n hx hb qd_X_grew_0 rfl (lv_at hl 1 rfl) ?_
  refine lv_iconst (v := nI 1) hx hb qd_X_grew_1 (by decide +kernel) ?_
  refine lv_icmp_lt (tgt := 16) hx hb qd_X_grew_2 (by decide) (fun c1 => ?_) (fun c1 => ?_)
  · refine lv_iconst (v := nI 0) hx hb qd_X_grew_16 (by decide +kernel) ?_
    exact W.zret hx hb hr (by decide) (fun t ht hW9 => ⟨_, rfl, rfl, ht⟩) (fun _ h => nomatch h) qd_X_grew_17
  · refine lv_iload_n hx hb qd_X_grew_5 rfl (lv_at hl 1 rfl) ?_
    refine lv_iload_n hx hb qd_X_grew_6 rfl (lv_at hl 2 rfl) ?_
    refine lv_icmp_gt (tgt := 16) hx hb qd_X_grew_7 (by decide) (fun c2 => ?_) (fun c2 => ?_)
    · refine lv_iconst (v := nI 0) hx hb qd_X_grew_16 (by decide +kernel) ?_
      exact W.zret hx hb hr (by decide) (fun t ht hW9 => ⟨_, rfl, rfl, ht⟩) (fun _ h => nomatch h) qd_X_grew_17
    · have h9 : ¬ pn ≤ nI 1073741824 := tq_nle (hbad.elim (fun h => absurd h c1) (fun h => h.elim (fun h => absurd h c2) id))
      refine lv_iload_n hx hb qd_X_grew_10 rfl (lv_at hl 2 rfl) ?_
      refine lv_ldc (v := (1073741824)) hx hb hown (hW _ qm_37) qd_X_grew_11 ?_
      refine tq_ti (y := nI 1073741824) (by decide +kernel) ?_
      refine lv_icmp_le (tgt := 18) hx hb qd_X_grew_13 (by decide) (fun c9 => absurd c9 (h9)) (fun c3 => ?_)
      refine lv_iconst (v := nI 0) hx hb qd_X_grew_16 (by decide +kernel) ?_
      exact W.zret hx hb hr (by decide) (fun t ht hW9 => ⟨_, rfl, rfl, ht⟩) (fun _ h => nomatch h) qd_X_grew_17
set_option maxHeartbeats 4000000 in
set_option maxRecDepth 100000 in
/-- grew -/
theorem ct_X_grew (l : Launch) (dC : Nat → ClassId) (dI : Nat → Nat → Nat) (x a b : Nat) (cA : ClassId) (n k : Nat) (f g : Nat → Int64) (i j : Nat) (v hd : Int64) (h0 : 1 ≤ i) (h1 : i ≤ j) (h2 : j ≤ 2 ^ 30) (hk : k ≤ 40) : Met l qy_X_grew qw_X_grew ({ frames := 33, cells := 0, slots := 0, locals := 940 }) (va_Pc [.ref x, .int (nI i), .int (nI j), .long v, .long hd] (tq_ro (dC, dI) tq_cl [(x, .inr (0, [.ref a, .int (nI n), .ref b, .int (nI k)])), (a, .inl (cA, (600, .inr (.inl f)))), (b, .inl (cA, (40, .inr (.inl g))))] [(cA, .long)])) (vp_Si (fun r => r = tq_b (decide (k = tq_sl true i j) && (decide (tq_od g true i j v = v) && decide (tq_nw g true i j v = hd))))) 0 0 (fun _ => False) := by
  refine Met.ofW (cc := qc_X_grew) (maxL := 7) (ret := (some .boolean)) (by decide) rfl ?_
  intro p e s m args below meth c s₁ B hml hv
  obtain ⟨rfl, hP, hK⟩ := hv
  have hx := B.exec
  have hb := B.bytes
  have hr := B.returns
  have hts := atoms_spec (ws := qw_X_grew) B.pre
  have hW : ∀ w ∈ tq_W, w.before ([.ref x, .int (nI i), .int (nI j), .long v, .long hd] : List Value).toArray s = true := fun w h => hts w (List.mem_cons_of_mem _ h)
  have hown : s.vm.findClass RX0 = some m.cls := findClass_of_methodNamed B.named
  have hlocks := B.notSynchronized
  have hl := lv_entry ([.ref x, .int (nI i), .int (nI j), .long v, .long hd]) (n := 7) (Nat.le_of_ble_eq_true rfl)
  rw [lg_entry_eq]
  generalize (lg_sl ([.ref x, .int (nI i), .int (nI j), .long v, .long hd]) ++ List.replicate (7 - (lg_sl ([.ref x, .int (nI i), .int (nI j), .long v, .long hd])).length) Slot.unset).toArray = ls at hl ⊢
  have hl : lv_has ls 7 [(0, .ref x), (1, .int (nI i)), (2, .int (nI j)), (3, .long v), (5, .long hd)] := hl
  have hsl := tq_sl_le 30 true i j h2
  refine lv_iload_n hx hb qd_X_grew_0 rfl (lv_at hl 1 rfl) ?_
  refine lv_iconst (v := nI 1) hx hb qd_X_grew_1 (by decide +kernel) ?_
  refine tq_icmp_lt (x := i) (y := 1) (tgt := 16) hx hb qd_X_grew_2 (by decide) (by omega) (by omega) (fun c9 => by omega) (fun c9 => ?_)
  refine lv_iload_n hx hb qd_X_grew_5 rfl (lv_at hl 1 rfl) ?_
  refine lv_iload_n hx hb qd_X_grew_6 rfl (lv_at hl 2 rfl) ?_
  refine tq_icmp_gt (x := i) (y := j) (tgt := 16) hx hb qd_X_grew_7 (by decide) (by omega) (by omega) (fun c9 => by omega) (fun c9 => ?_)
  refine lv_iload_n hx hb qd_X_grew_10 rfl (lv_at hl 2 rfl) ?_
  refine lv_ldc (v := (1073741824)) hx hb hown (hW _ qm_37) qd_X_grew_11 ?_
  refine tq_ti (y := nI 1073741824) (by decide +kernel) ?_
  refine tq_icmp_le (x := j) (y := 1073741824) (tgt := 18) hx hb qd_X_grew_13 (by decide) (by omega) (by omega) (fun c9 => ?_) (fun c9 => by omega)
  refine lv_aload_n hx hb qd_X_grew_18 rfl (lv_at hl 0 rfl) ?_
  refine va_get (D := (dC, dI)) (ci := 0) (v := .int (nI k)) (C := RX0) (T := TX0) (N := 4) hx hb hW inX0 hown hK hP 0 rfl rfl 3 (by decide) (hW _ qm_22) (fun _ h9 => h9) rfl qd_X_grew_19 ?_
  refine lv_iload_n hx hb qd_X_grew_22 rfl (lv_at hl 1 rfl) ?_
  refine lv_iload_n hx hb qd_X_grew_23 rfl (lv_at hl 2 rfl) ?_
  refine vp_callSi (W.runS (As := [.int (nI i), .int (nI j)]) (rest := [.int (nI k)]) ⟨hx, hb, hml, hown, hW⟩ (ct_X_stepsLength l i j (by omega) (by omega) (by omega)) (cwS 2 hW (tq_gS qm_63 qm_64 qm_1 qm_65) rfl rfl rfl (by decide +kernel) ⟨Nat.le_of_ble_eq_true rfl, Nat.le_of_ble_eq_true rfl⟩) ⟨tq_b0, fun U hU hW9 => ⟨rfl, trivial⟩⟩ rfl rfl hl.1 rfl (lv_room (Nat.le_of_ble_eq_true rfl)) qd_X_grew_24 ⟨Nat.le_of_ble_eq_true rfl, Nat.le_of_ble_eq_true rfl⟩) (fun r9 e9 => ?_)
  subst e9
  refine tq_icmp_eq (x := k) (y := (tq_sl true i j)) (tgt := 32) hx hb qd_X_grew_27 (by decide) (by omega) (by omega) (fun c9 => ?_) (fun c9 => ?_)
  · refine lv_aload_n hx hb qd_X_grew_32 rfl (lv_at hl 0 rfl) ?_
    refine va_get (D := (dC, dI)) (ci := 0) (v := .ref b) (C := RX0) (T := TX0) (N := 4) hx hb hW inX0 hown hK hP 0 rfl rfl 2 (by decide) (hW _ qm_21) (fun _ h9 => h9) rfl qd_X_grew_33 ?_
    refine lv_aload_n hx hb qd_X_grew_36 rfl (lv_at hl 0 rfl) ?_
    refine va_get (D := (dC, dI)) (ci := 0) (v := .int (nI k)) (C := RX0) (T := TX0) (N := 4) hx hb hW inX0 hown hK hP 0 rfl rfl 3 (by decide) (hW _ qm_22) (fun _ h9 => h9) rfl qd_X_grew_37 ?_
    refine tq_ti (y := nI (tq_sl true i j)) (by rw [c9]) ?_
    refine lv_iload_n hx hb qd_X_grew_40 rfl (lv_at hl 1 rfl) ?_
    refine lv_iload_n hx hb qd_X_grew_41 rfl (lv_at hl 2 rfl) ?_
    refine lv_lload_n hx hb qd_X_grew_42 rfl (lv_at hl 3 rfl) ?_
    refine vp_callSl (W.runS (As := [.ref b, .int (nI (tq_sl true i j)), .int (nI i), .int (nI j), .long v]) (rest := []) ⟨hx, hb, hml, hown, hW⟩ (ct_X_oldHeadBySteps l dC dI b cA g v 30 true i j h0 h1 h2 (by omega)) (cwS 5 hW (tq_gS qm_66 qm_67 qm_1 qm_68) rfl rfl rfl (by decide +kernel) ⟨Nat.le_of_ble_eq_true rfl, Nat.le_of_ble_eq_true rfl⟩) ⟨tq_b1, fun U hU hW9 => ⟨rfl, by rw [hU]; exact hP.sub [2] rfl, va_K.moved hW9.alike (hK.sub [0] rfl)⟩⟩ rfl rfl hl.1 rfl (lv_room (Nat.le_of_ble_eq_true rfl)) qd_X_grew_43 ⟨Nat.le_of_ble_eq_true rfl, Nat.le_of_ble_eq_true rfl⟩) (fun r9 e9 => ?_)
    subst e9
    refine lv_lload_n hx hb qd_X_grew_46 rfl (lv_at hl 3 rfl) ?_
    refine tq_lc_ne (tgt := 75) hx hb qd_X_grew_47 qd_X_grew_48 (by decide) (fun c1 => ?_) (fun c1 => ?_)
    · refine lv_iconst (v := nI 0) hx hb qd_X_grew_75 (by decide +kernel) ?_
      exact W.zret hx hb hr (by decide) (fun t ht hW9 => ⟨_, rfl, by rw [decide_eq_false c1, Bool.false_and, Bool.and_false]; rfl, ht⟩) (fun _ h => nomatch h) qd_X_grew_76
    · refine lv_aload_n hx hb qd_X_grew_51 rfl (lv_at hl 0 rfl) ?_
      refine va_get (D := (dC, dI)) (ci := 0) (v := .ref b) (C := RX0) (T := TX0) (N := 4) hx hb hW inX0 hown hK hP 0 rfl rfl 2 (by decide) (hW _ qm_21) (fun _ h9 => h9) rfl qd_X_grew_52 ?_
      refine lv_aload_n hx hb qd_X_grew_55 rfl (lv_at hl 0 rfl) ?_
      refine va_get (D := (dC, dI)) (ci := 0) (v := .int (nI k)) (C := RX0) (T := TX0) (N := 4) hx hb hW inX0 hown hK hP 0 rfl rfl 3 (by decide) (hW _ qm_22) (fun _ h9 => h9) rfl qd_X_grew_56 ?_
      refine tq_ti (y := nI (tq_sl true i j)) (by rw [c9]) ?_
      refine lv_iload_n hx hb qd_X_grew_59 rfl (lv_at hl 1 rfl) ?_
      refine lv_iload_n hx hb qd_X_grew_60 rfl (lv_at hl 2 rfl) ?_
      refine lv_lload_n hx hb qd_X_grew_61 rfl (lv_at hl 3 rfl) ?_
      refine vp_callSl (W.runS (As := [.ref b, .int (nI (tq_sl true i j)), .int (nI i), .int (nI j), .long v]) (rest := []) ⟨hx, hb, hml, hown, hW⟩ (ct_X_newHeadBySteps l dC dI b cA g v 30 true i j h0 h1 h2 (by omega)) (cwS 5 hW (tq_gS qm_69 qm_70 qm_1 qm_71) rfl rfl rfl (by decide +kernel) ⟨Nat.le_of_ble_eq_true rfl, Nat.le_of_ble_eq_true rfl⟩) ⟨tq_b1, fun U hU hW9 => ⟨rfl, by rw [hU]; exact hP.sub [2] rfl, va_K.moved hW9.alike (hK.sub [0] rfl)⟩⟩ rfl rfl hl.1 rfl (lv_room (Nat.le_of_ble_eq_true rfl)) qd_X_grew_62 ⟨Nat.le_of_ble_eq_true rfl, Nat.le_of_ble_eq_true rfl⟩) (fun r9 e9 => ?_)
      subst e9
      refine lv_lload hx hb qd_X_grew_65 (lv_at hl 4 rfl) ?_
      refine tq_lc_ne (tgt := 75) hx hb qd_X_grew_67 qd_X_grew_68 (by decide) (fun c2 => ?_) (fun c2 => ?_)
      · refine lv_iconst (v := nI 0) hx hb qd_X_grew_75 (by decide +kernel) ?_
        exact W.zret hx hb hr (by decide) (fun t ht hW9 => ⟨_, rfl, by rw [decide_eq_false c2, Bool.and_false, Bool.and_false]; rfl, ht⟩) (fun _ h => nomatch h) qd_X_grew_76
      · refine lv_iconst (v := nI 1) hx hb qd_X_grew_71 (by decide +kernel) ?_
        refine lv_goto (tgt := 76) hx hb qd_X_grew_72 (by decide) ?_
        exact W.zret hx hb hr (by decide) (fun t ht hW9 => ⟨_, rfl, by rw [decide_eq_true c1, decide_eq_true c2, decide_eq_true c9]; rfl, ht⟩) (fun _ h => nomatch h) qd_X_grew_76
  · refine lv_iconst (v := nI 0) hx hb qd_X_grew_30 (by decide +kernel) ?_
    exact W.zret hx hb hr (by decide) (fun t ht hW9 => ⟨_, rfl, by rw [decide_eq_false c9]; rfl, ht⟩) (fun _ h => nomatch h) qd_X_grew_31
def tq_c1 (i : Int32) : Int32 := i - ((i.toUInt32 >>> ((nI 1).toUInt32 &&& Int32.toUInt32 31)).toInt32 &&& nI 1431655765)
def tq_c2 (i : Int32) : Int32 := (i &&& nI 858993459) + ((i.toUInt32 >>> ((nI 2).toUInt32 &&& Int32.toUInt32 31)).toInt32 &&& nI 858993459)
def tq_c3 (i : Int32) : Int32 := (i + (i.toUInt32 >>> ((nI 4).toUInt32 &&& Int32.toUInt32 31)).toInt32) &&& nI 252645135
def tq_c4 (i : Int32) : Int32 := i + (i.toUInt32 >>> ((nI 8).toUInt32 &&& Int32.toUInt32 31)).toInt32
def tq_c5 (i : Int32) : Int32 := i + (i.toUInt32 >>> ((nI 16).toUInt32 &&& Int32.toUInt32 31)).toInt32
def tq_bc (i : Int32) : Int32 := tq_c5 (tq_c4 (tq_c3 (tq_c2 (tq_c1 i)))) &&& nI 63
set_option maxRecDepth 100000 in
theorem tq_bc_ok : ∀ n, n < 601 → tq_bc (nI n) = nI (tq_pop n) := by decide +kernel
set_option maxHeartbeats 4000000 in
set_option maxRecDepth 100000 in
/-- Integer.bitCount -/
theorem ct_J_bitCount (l : Launch) (n : Nat) (hn : n ≤ 600) : Met l qy_J_bitCount qw_J_bitCount ({ frames := 0, cells := 0, slots := 0, locals := 0 }) (va_Pc [.int (nI n)] (fun _ => True)) (vp_Si (fun r => r = nI (tq_pop n))) 0 0 (fun _ => False) := by
  refine Met.ofW (cc := qc_J_bitCount) (maxL := 1) (ret := (some .int)) (by decide) rfl ?_
  intro p e s m args below meth c s₁ B hml hv
  obtain ⟨rfl, -⟩ := hv
  have hx := B.exec
  have hb := B.bytes
  have hr := B.returns
  have hts := atoms_spec (ws := qw_J_bitCount) B.pre
  have hW : ∀ w ∈ tq_W, w.before ([.int (nI n)] : List Value).toArray s = true := fun w h => hts w (List.mem_cons_of_mem _ h)
  have hown : s.vm.findClass RJ = some m.cls := findClass_of_methodNamed B.named
  have hlocks := B.notSynchronized
  have hl := lv_entry ([.int (nI n)]) (n := 1) (Nat.le_of_ble_eq_true rfl)
  rw [lg_entry_eq]
  generalize (lg_sl ([.int (nI n)]) ++ List.replicate (1 - (lg_sl ([.int (nI n)])).length) Slot.unset).toArray = ls at hl ⊢
  have hl : lv_has ls 1 [(0, .int (nI n))] := hl
  refine lv_iload_n hx hb qd_J_bitCount_0 rfl (lv_at hl 0 rfl) ?_
  refine lv_iload_n hx hb qd_J_bitCount_1 rfl (lv_at hl 0 rfl) ?_
  refine lv_iconst (v := nI 1) hx hb qd_J_bitCount_2 (by decide +kernel) ?_
  refine lv_iushr (v := ((nI n).toUInt32 >>> ((nI 1).toUInt32 &&& Int32.toUInt32 31)).toInt32) hx hb qd_J_bitCount_3 rfl ?_
  refine lv_ldcw (v := (1431655765)) hx hb hown (hW _ qm_79) qd_J_bitCount_4 ?_
  refine tq_ti (y := nI 1431655765) (by decide +kernel) ?_
  refine lv_iand hx hb qd_J_bitCount_7 ?_
  refine lv_isub hx hb qd_J_bitCount_8 ?_
  refine tq_ti (y := tq_c1 (nI n)) (rfl) ?_
  refine lv_istore_n (lv' := [(0, .int (tq_c1 (nI n)))]) hx hb qd_J_bitCount_9 rfl hl (by decide) rfl (fun ls hl => ?_)
  refine lv_iload_n hx hb qd_J_bitCount_10 rfl (lv_at hl 0 rfl) ?_
  refine lv_ldcw (v := (858993459)) hx hb hown (hW _ qm_80) qd_J_bitCount_11 ?_
  refine tq_ti (y := nI 858993459) (by decide +kernel) ?_
  refine lv_iand hx hb qd_J_bitCount_14 ?_
  refine lv_iload_n hx hb qd_J_bitCount_15 rfl (lv_at hl 0 rfl) ?_
  refine lv_iconst (v := nI 2) hx hb qd_J_bitCount_16 (by decide +kernel) ?_
  refine lv_iushr (v := ((tq_c1 (nI n)).toUInt32 >>> ((nI 2).toUInt32 &&& Int32.toUInt32 31)).toInt32) hx hb qd_J_bitCount_17 rfl ?_
  refine lv_ldcw (v := (858993459)) hx hb hown (hW _ qm_80) qd_J_bitCount_18 ?_
  refine tq_ti (y := nI 858993459) (by decide +kernel) ?_
  refine lv_iand hx hb qd_J_bitCount_21 ?_
  refine lv_iadd hx hb qd_J_bitCount_22 ?_
  refine tq_ti (y := tq_c2 (tq_c1 (nI n))) (rfl) ?_
  refine lv_istore_n (lv' := [(0, .int (tq_c2 (tq_c1 (nI n))))]) hx hb qd_J_bitCount_23 rfl hl (by decide) rfl (fun ls hl => ?_)
  refine lv_iload_n hx hb qd_J_bitCount_24 rfl (lv_at hl 0 rfl) ?_
  refine lv_iload_n hx hb qd_J_bitCount_25 rfl (lv_at hl 0 rfl) ?_
  refine lv_iconst (v := nI 4) hx hb qd_J_bitCount_26 (by decide +kernel) ?_
  refine lv_iushr (v := ((tq_c2 (tq_c1 (nI n))).toUInt32 >>> ((nI 4).toUInt32 &&& Int32.toUInt32 31)).toInt32) hx hb qd_J_bitCount_27 rfl ?_
  refine lv_iadd hx hb qd_J_bitCount_28 ?_
  refine lv_ldcw (v := (252645135)) hx hb hown (hW _ qm_81) qd_J_bitCount_29 ?_
  refine tq_ti (y := nI 252645135) (by decide +kernel) ?_
  refine lv_iand hx hb qd_J_bitCount_32 ?_
  refine tq_ti (y := tq_c3 (tq_c2 (tq_c1 (nI n)))) (rfl) ?_
  refine lv_istore_n (lv' := [(0, .int (tq_c3 (tq_c2 (tq_c1 (nI n)))))]) hx hb qd_J_bitCount_33 rfl hl (by decide) rfl (fun ls hl => ?_)
  refine lv_iload_n hx hb qd_J_bitCount_34 rfl (lv_at hl 0 rfl) ?_
  refine lv_iload_n hx hb qd_J_bitCount_35 rfl (lv_at hl 0 rfl) ?_
  refine lv_bipush (v := nI 8) hx hb qd_J_bitCount_36 (by decide +kernel) ?_
  refine lv_iushr (v := ((tq_c3 (tq_c2 (tq_c1 (nI n)))).toUInt32 >>> ((nI 8).toUInt32 &&& Int32.toUInt32 31)).toInt32) hx hb qd_J_bitCount_38 rfl ?_
  refine lv_iadd hx hb qd_J_bitCount_39 ?_
  refine tq_ti (y := tq_c4 (tq_c3 (tq_c2 (tq_c1 (nI n))))) (rfl) ?_
  refine lv_istore_n (lv' := [(0, .int (tq_c4 (tq_c3 (tq_c2 (tq_c1 (nI n))))))]) hx hb qd_J_bitCount_40 rfl hl (by decide) rfl (fun ls hl => ?_)
  refine lv_iload_n hx hb qd_J_bitCount_41 rfl (lv_at hl 0 rfl) ?_
  refine lv_iload_n hx hb qd_J_bitCount_42 rfl (lv_at hl 0 rfl) ?_
  refine lv_bipush (v := nI 16) hx hb qd_J_bitCount_43 (by decide +kernel) ?_
  refine lv_iushr (v := ((tq_c4 (tq_c3 (tq_c2 (tq_c1 (nI n))))).toUInt32 >>> ((nI 16).toUInt32 &&& Int32.toUInt32 31)).toInt32) hx hb qd_J_bitCount_45 rfl ?_
  refine lv_iadd hx hb qd_J_bitCount_46 ?_
  refine tq_ti (y := tq_c5 (tq_c4 (tq_c3 (tq_c2 (tq_c1 (nI n)))))) (rfl) ?_
  refine lv_istore_n (lv' := [(0, .int (tq_c5 (tq_c4 (tq_c3 (tq_c2 (tq_c1 (nI n)))))))]) hx hb qd_J_bitCount_47 rfl hl (by decide) rfl (fun ls hl => ?_)
  refine lv_iload_n hx hb qd_J_bitCount_48 rfl (lv_at hl 0 rfl) ?_
  refine lv_bipush (v := nI 63) hx hb qd_J_bitCount_49 (by decide +kernel) ?_
  refine lv_iand hx hb qd_J_bitCount_51 ?_
  refine tq_ti (y := tq_bc (nI n)) (rfl) ?_
  exact W.iret hx hb hr (fun t ht hW9 => ⟨_, rfl, tq_bc_ok n (by omega), ht⟩) (fun _ h => nomatch h) qd_J_bitCount_52
def tq_ct (n k : Nat) (w : Int32) : Int32 := if w = 0 then nI n else if w = 1 then nI k else if w = 2 then nI (tq_pop n) else -1
set_option maxHeartbeats 4000000 in
set_option maxRecDepth 100000 in
/-- count -/
theorem ct_X_count (l : Launch) (dC : Nat → ClassId) (dI : Nat → Nat → Nat) (x a b : Nat) (cA : ClassId) (n k : Nat) (f g : Nat → Int64) (q : Int32) (hn : n ≤ 600) : Met l qy_X_count qw_X_count ({ frames := 1, cells := 0, slots := 0, locals := 40 }) (va_Pc [.ref x, .int q] (tq_ro (dC, dI) tq_cl [(x, .inr (0, [.ref a, .int (nI n), .ref b, .int (nI k)])), (a, .inl (cA, (600, .inr (.inl f)))), (b, .inl (cA, (40, .inr (.inl g))))] [(cA, .long)])) (vp_Si (fun r => r = tq_ct n k q)) 0 0 (fun _ => False) := by
  refine Met.ofW (cc := qc_X_count) (maxL := 2) (ret := (some .int)) (by decide) rfl ?_
  intro p e s m args below meth c s₁ B hml hv
  obtain ⟨rfl, hP, hK⟩ := hv
  have hx := B.exec
  have hb := B.bytes
  have hr := B.returns
  have hts := atoms_spec (ws := qw_X_count) B.pre
  have hW : ∀ w ∈ tq_W, w.before ([.ref x, .int q] : List Value).toArray s = true := fun w h => hts w (List.mem_cons_of_mem _ h)
  have hown : s.vm.findClass RX0 = some m.cls := findClass_of_methodNamed B.named
  have hlocks := B.notSynchronized
  have hl := lv_entry ([.ref x, .int q]) (n := 2) (Nat.le_of_ble_eq_true rfl)
  rw [lg_entry_eq]
  generalize (lg_sl ([.ref x, .int q]) ++ List.replicate (2 - (lg_sl ([.ref x, .int q])).length) Slot.unset).toArray = ls at hl ⊢
  have hl : lv_has ls 2 [(0, .ref x), (1, .int q)] := hl
  refine lv_iload_n hx hb qd_X_count_0 rfl (lv_at hl 1 rfl) ?_
  by_cases c0 : q = 0
  · subst c0
    refine lv_tableIn (off := 27) (tgt := 28) hx hb qd_X_count_1 (by decide) (by decide) rfl (by decide) ?_
    refine lv_aload_n hx hb qd_X_count_28 rfl (lv_at hl 0 rfl) ?_
    refine va_get (D := (dC, dI)) (ci := 0) (v := .int (nI n)) (C := RX0) (T := TX0) (N := 4) hx hb hW inX0 hown hK hP 0 rfl rfl 1 (by decide) (hW _ qm_20) (fun _ h9 => h9) rfl qd_X_count_29 ?_
    exact W.iret hx hb hr (fun t ht hW9 => ⟨_, rfl, rfl, ht⟩) (fun _ h => nomatch h) qd_X_count_32
  by_cases c1 : q = 1
  · subst c1
    refine lv_tableIn (off := 32) (tgt := 33) hx hb qd_X_count_1 (by decide) (by decide) rfl (by decide) ?_
    refine lv_aload_n hx hb qd_X_count_33 rfl (lv_at hl 0 rfl) ?_
    refine va_get (D := (dC, dI)) (ci := 0) (v := .int (nI k)) (C := RX0) (T := TX0) (N := 4) hx hb hW inX0 hown hK hP 0 rfl rfl 3 (by decide) (hW _ qm_22) (fun _ h9 => h9) rfl qd_X_count_34 ?_
    exact W.iret hx hb hr (fun t ht hW9 => ⟨_, rfl, rfl, ht⟩) (fun _ h => nomatch h) qd_X_count_37
  by_cases c2 : q = 2
  · subst c2
    refine lv_tableIn (off := 37) (tgt := 38) hx hb qd_X_count_1 (by decide) (by decide) rfl (by decide) ?_
    refine lv_aload_n hx hb qd_X_count_38 rfl (lv_at hl 0 rfl) ?_
    refine va_get (D := (dC, dI)) (ci := 0) (v := .int (nI n)) (C := RX0) (T := TX0) (N := 4) hx hb hW inX0 hown hK hP 0 rfl rfl 1 (by decide) (hW _ qm_20) (fun _ h9 => h9) rfl qd_X_count_39 ?_
    refine vp_callSi (W.runS (As := [.int (nI n)]) (rest := []) ⟨hx, hb, hml, hown, hW⟩ (ct_J_bitCount l n (by omega)) (va_cwS 1 hW (tq_gSa qm_76 qm_77 qm_10 qm_78) rfl rfl rfl (by decide +kernel) ⟨Nat.le_of_ble_eq_true rfl, Nat.le_of_ble_eq_true rfl⟩) ⟨tq_b0, fun U hU hW9 => ⟨rfl, trivial⟩⟩ rfl rfl hl.1 rfl (lv_room (Nat.le_of_ble_eq_true rfl)) qd_X_count_42 ⟨Nat.le_of_ble_eq_true rfl, Nat.le_of_ble_eq_true rfl⟩) (fun r9 e9 => ?_)
    subst e9
    exact W.iret hx hb hr (fun t ht hW9 => ⟨_, rfl, rfl, ht⟩) (fun _ h => nomatch h) qd_X_count_45
  refine lv_tableOut (tgt := 46) hx hb qd_X_count_1 (by have h0 := lv_neT c0 (a := 0) (by decide); have h1 := lv_neT c1 (a := 1) (by decide); have h2 := lv_neT c2 (a := 2) (by decide); omega) (by decide) ?_
  refine lv_iconst (v := (-1)) hx hb qd_X_count_46 (by decide +kernel) ?_
  exact W.iret hx hb hr (fun t ht hW9 => ⟨_, rfl, by unfold tq_ct; rw [if_neg c0, if_neg c1, if_neg c2], ht⟩) (fun _ h => nomatch h) qd_X_count_47
