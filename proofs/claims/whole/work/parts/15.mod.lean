def tq_q (g : Nat → Int64) (k : Nat) : Nat → Int64 := fun q => if q < k then g q else 0
theorem tq_pf_0 : ∀ d, tq_pf d 0 = 0
  | 0 => rfl
  | d + 1 => by show 0 % 2 + tq_pf d (0 / 2) = 0; rw [show 0 / 2 = 0 from rfl, tq_pf_0 d]
set_option maxHeartbeats 4000000 in
set_option maxRecDepth 100000 in
/-- LogTreeModel() -/
theorem ct_M_init (l : Launch) (dC : Nat → ClassId) (dI : Nat → Nat → Nat) (o : Nat) (sz : Nat)  : Met l qy_M_init qw_M_init ({ frames := 1, cells := 2, slots := 640, locals := 12 }) (va_Pc [.ref o] (tq_rw (dC, dI) [(o, .inr (1, [.int 0, .int 0, .int 0, .int 0, .null, .null, .long 0, .long 0]))] [] sz)) (va_Qv (fun _ : Nat × Nat × ClassId => True) (fun u t => tq_in (dC, dI) [(o, .inr (1, [.int 0, .int 0, .int 0, .int 0, .ref u.1, .ref u.2.1, .long 0, .long 0])), (u.1, .inl (u.2.2, (600, .inr (.inl (fun _ => 0))))), (u.2.1, .inl (u.2.2, (40, .inr (.inl (fun _ => 0)))))] [(u.2.2, .long)] (va_A [(o, .inr (1, [.int 0, .int 0, .int 0, .int 0, .null, .null, .long 0, .long 0]))] sz) t) (va_A [(o, .inr (1, [.int 0, .int 0, .int 0, .int 0, .null, .null, .long 0, .long 0]))] sz)) 2 640 (va_A [(o, .inr (1, [.int 0, .int 0, .int 0, .int 0, .null, .null, .long 0, .long 0]))] sz) := by
  refine Met.ofW (cc := qc_M_init) (maxL := 1) (ret := none) (by decide) rfl ?_
  intro p e s m args below meth c s₁ B hml hv
  obtain ⟨rfl, hsz, hP, hK, hD0⟩ := hv
  have hx := B.exec
  have hb := B.bytes
  have hr := B.returns
  have hts := atoms_spec (ws := qw_M_init) B.pre
  have hW : ∀ w ∈ tq_W, w.before ([.ref o] : List Value).toArray s = true := fun w h => hts w (List.mem_cons_of_mem _ h)
  have hown : s.vm.findClass RX1 = some m.cls := findClass_of_methodNamed B.named
  have hlocks := B.notSynchronized
  have hl := lv_entry ([.ref o]) (n := 1) (Nat.le_of_ble_eq_true rfl)
  rw [lg_entry_eq]
  generalize (lg_sl ([.ref o]) ++ List.replicate (1 - (lg_sl ([.ref o])).length) Slot.unset).toArray = ls at hl ⊢
  have hl : lv_has ls 1 [(0, .ref o)] := hl
  subst hsz
  have hD := hD0.self (sz := s.heap.size)
  generalize hAe : va_A [(o, .inr (1, [.int 0, .int 0, .int 0, .int 0, .null, .null, .long 0, .long 0]))] s.heap.size = A at hD ⊢
  have hA : ∀ q : Nat, s.heap.size ≤ q → A q := fun q h => by rw [← hAe]; exact Or.inr h
  have hS : va_S A s.heap s.heap [] := va_S.rf
  have hin : meth.name = "<init>" := (name_of_methodNamed B.named B.method).1
  refine lv_aload_n hx hb qd_M_init_0 rfl (lv_at hl 0 rfl) ?_
  refine W.objInit hx hb hown (hW _ qm_280) (hW _ qm_17) (hW _ qm_18) rfl (by rw [hml]; exact hl.1) rfl qd_M_init_1 (Nat.le_of_ble_eq_true rfl) (Nat.le_of_ble_eq_true rfl) ?_
  refine W.eq (g2 := F0 m 4 ls []) rfl ?_
  refine lv_aload_n hx hb qd_M_init_4 rfl (lv_at hl 0 rfl) ?_
  refine lv_sipush (v := nI 600) hx hb qd_M_init_5 (by decide +kernel) ?_
  refine va_newa (atype := .long) (N' := 600) (a0 := (600, .inr (.inl (fun _ => 0)))) (ty := .long) (n := nI 600) hx hb (hW _ qm_32) rfl hK hP hD hS hA (fun _ => rfl) (by decide +kernel) (by decide +kernel) (by decide +kernel) (Nat.le_of_ble_eq_true rfl) (Nat.le_of_ble_eq_true rfl) qd_M_init_8 (fun qa cqa H hK hP hD hS => ?_)
  have hP : va_P (dC, dI) tq_cl [(o, .inr (1, [.int 0, .int 0, .int 0, .int 0, .null, .null, .long 0, .long 0])), (qa, .inl (cqa, (600, .inr (.inl (fun _ => 0)))))] H := hP
  have hD : va_D A [(o, .inr (1, [.int 0, .int 0, .int 0, .int 0, .null, .null, .long 0, .long 0])), (qa, .inl (cqa, (600, .inr (.inl (fun _ => 0)))))] := hD
  have hK : va_K (dC, dI) tq_cl [(cqa, .long)] s := hK
  refine W.widen (k := 1) (n := 600) (by omega) (by omega) ?_
  refine va_putF (D := (dC, dI)) (ci := 1) (v := .ref qa) (ty := .array .long) (C := RX1) (T := TX1) (N := 8) hx hb hW inX1 tyX1 tyX1_ok nmX1 hown hK hP hD hS 0 rfl rfl 4 (by decide) (hW _ qm_285) (fun _ h9 => h9) rfl hin rfl (by decide +kernel) rfl rfl (Nat.le_of_ble_eq_true rfl) qd_M_init_10 (fun H locs hP hD hS => ?_)
  have hP : va_P (dC, dI) tq_cl [(o, .inr (1, [.int 0, .int 0, .int 0, .int 0, .ref qa, .null, .long 0, .long 0])), (qa, .inl (cqa, (600, .inr (.inl (fun _ => 0)))))] H := hP
  have hD : va_D A [(o, .inr (1, [.int 0, .int 0, .int 0, .int 0, .ref qa, .null, .long 0, .long 0])), (qa, .inl (cqa, (600, .inr (.inl (fun _ => 0)))))] := hD
  refine lv_aload_n hx hb qd_M_init_13 rfl (lv_at hl 0 rfl) ?_
  refine lv_bipush (v := nI 40) hx hb qd_M_init_14 (by decide +kernel) ?_
  refine va_newa (atype := .long) (N' := 40) (a0 := (40, .inr (.inl (fun _ => 0)))) (ty := .long) (n := nI 40) hx hb (hW _ qm_32) rfl hK hP hD hS hA (fun _ => rfl) (by decide +kernel) (by decide +kernel) (by decide +kernel) (Nat.le_of_ble_eq_true rfl) (Nat.le_of_ble_eq_true rfl) qd_M_init_16 (fun qb cqb H hK hP hD hS => ?_)
  have hP : va_P (dC, dI) tq_cl [(o, .inr (1, [.int 0, .int 0, .int 0, .int 0, .ref qa, .null, .long 0, .long 0])), (qa, .inl (cqa, (600, .inr (.inl (fun _ => 0))))), (qb, .inl (cqb, (40, .inr (.inl (fun _ => 0)))))] H := hP
  have hD : va_D A [(o, .inr (1, [.int 0, .int 0, .int 0, .int 0, .ref qa, .null, .long 0, .long 0])), (qa, .inl (cqa, (600, .inr (.inl (fun _ => 0))))), (qb, .inl (cqb, (40, .inr (.inl (fun _ => 0)))))] := hD
  have hK : va_K (dC, dI) tq_cl [(cqa, .long), (cqb, .long)] s := hK
  refine W.widen (k := 2) (n := 640) (by omega) (by omega) ?_
  refine va_putF (D := (dC, dI)) (ci := 1) (v := .ref qb) (ty := .array .long) (C := RX1) (T := TX1) (N := 8) hx hb hW inX1 tyX1 tyX1_ok nmX1 hown hK hP hD hS 0 rfl rfl 5 (by decide) (hW _ qm_286) (fun _ h9 => h9) rfl hin rfl (by decide +kernel) rfl rfl (Nat.le_of_ble_eq_true rfl) qd_M_init_18 (fun H locs hP hD hS => ?_)
  have hP : va_P (dC, dI) tq_cl [(o, .inr (1, [.int 0, .int 0, .int 0, .int 0, .ref qa, .ref qb, .long 0, .long 0])), (qa, .inl (cqa, (600, .inr (.inl (fun _ => 0))))), (qb, .inl (cqb, (40, .inr (.inl (fun _ => 0)))))] H := hP
  have hD : va_D A [(o, .inr (1, [.int 0, .int 0, .int 0, .int 0, .ref qa, .ref qb, .long 0, .long 0])), (qa, .inl (cqa, (600, .inr (.inl (fun _ => 0))))), (qb, .inl (cqb, (40, .inr (.inl (fun _ => 0)))))] := hD
  obtain rfl := tq_oneA hK 0 1 rfl rfl
  have hK := hK.sub (tys' := [(cqa, .long)]) [0] rfl
  exact W.vret hx hb hr (fun t ht hW9 => ⟨⟨(qa, qb, cqa), rfl, trivial, by rw [ht]; exact hP, va_K.moved hW9.alike hK, hD⟩, hS.F ht⟩) hS.2.2 qd_M_init_21
set_option maxHeartbeats 4000000 in
set_option maxRecDepth 100000 in
theorem ct_M_thrown (l : Launch) (dC : Nat → ClassId) (dI : Nat → Nat → Nat) (o ca cb : Nat) (cA : ClassId) (w1 : Int32) (n k : Nat) (w4 : Int32) (z1 z2 : Int64) (f g : Nat → Int64) : Met l qy_M_thrown qw_M_thrown ({ frames := 0, cells := 0, slots := 0, locals := 0 }) (va_Pc [.ref o] (tq_ro (dC, dI) tq_cl [(o, .inr (1, [.int w1, .int (nI n), .int (nI k), .int w4, .ref ca, .ref cb, .long z1, .long z2])), (ca, .inl (cA, (600, .inr (.inl f)))), (cb, .inl (cA, (40, .inr (.inl g))))] [(cA, .long)])) (vp_Si (fun r => r = w1)) 0 0 (fun _ => False) := by
  refine Met.ofW (cc := qc_M_thrown) (maxL := 1) (ret := (some .int)) (by decide) rfl ?_
  intro p e s m args below meth c s₁ B hml hv
  obtain ⟨rfl, hP, hK⟩ := hv
  have hx := B.exec
  have hb := B.bytes
  have hr := B.returns
  have hts := atoms_spec (ws := qw_M_thrown) B.pre
  have hW : ∀ w ∈ tq_W, w.before ([.ref o] : List Value).toArray s = true := fun w h => hts w (List.mem_cons_of_mem _ h)
  have hown : s.vm.findClass RX1 = some m.cls := findClass_of_methodNamed B.named
  have hlocks := B.notSynchronized
  have hl := lv_entry ([.ref o]) (n := 1) (Nat.le_of_ble_eq_true rfl)
  rw [lg_entry_eq]
  generalize (lg_sl ([.ref o]) ++ List.replicate (1 - (lg_sl ([.ref o])).length) Slot.unset).toArray = ls at hl ⊢
  have hl : lv_has ls 1 [(0, .ref o)] := hl
  refine lv_aload_n hx hb qd_M_thrown_0 rfl (lv_at hl 0 rfl) ?_
  refine va_get (D := (dC, dI)) (ci := 1) (v := .int w1) (C := RX1) (T := TX1) (N := 8) hx hb hW inX1 hown hK hP 0 rfl rfl 0 (by decide) (hW _ qm_281) (fun _ h9 => h9) rfl qd_M_thrown_1 ?_
  exact W.iret hx hb hr (fun t ht hW9 => ⟨_, rfl, rfl, ht⟩) (fun _ h => nomatch h) qd_M_thrown_4
set_option maxHeartbeats 4000000 in
set_option maxRecDepth 100000 in
theorem ct_M_add (l : Launch) (dC : Nat → ClassId) (dI : Nat → Nat → Nat) (o ca cb : Nat) (cA : ClassId) (w1 : Int32) (n k : Nat) (w4 : Int32) (z1 z2 : Int64) (f g : Nat → Int64) (sz : Nat) (v : Int64) (hn : n < 600) : Met l qy_M_add qw_M_add ({ frames := 0, cells := 0, slots := 0, locals := 0 }) (va_Pc [.ref o, .long v] (tq_rw (dC, dI) [(o, .inr (1, [.int w1, .int (nI n), .int (nI k), .int w4, .ref ca, .ref cb, .long z1, .long z2])), (ca, .inl (cA, (600, .inr (.inl f)))), (cb, .inl (cA, (40, .inr (.inl g))))] [(cA, .long)] sz)) (va_Qi (fun r (_ : Unit) => r = nI (n + 1)) (fun _ t => tq_in (dC, dI) [(o, .inr (1, [.int (nI 0), .int (nI (n + 1)), .int (nI k), .int w4, .ref ca, .ref cb, .long z1, .long z2])), (ca, .inl (cA, (600, .inr (.inl ((vp_updL f n v)))))), (cb, .inl (cA, (40, .inr (.inl g))))] [(cA, .long)] (va_A [(o, .inr (1, [.int w1, .int (nI n), .int (nI k), .int w4, .ref ca, .ref cb, .long z1, .long z2])), (ca, .inl (cA, (600, .inr (.inl f)))), (cb, .inl (cA, (40, .inr (.inl g))))] sz) t) (va_A [(o, .inr (1, [.int w1, .int (nI n), .int (nI k), .int w4, .ref ca, .ref cb, .long z1, .long z2])), (ca, .inl (cA, (600, .inr (.inl f)))), (cb, .inl (cA, (40, .inr (.inl g))))] sz)) 0 0 (va_A [(o, .inr (1, [.int w1, .int (nI n), .int (nI k), .int w4, .ref ca, .ref cb, .long z1, .long z2])), (ca, .inl (cA, (600, .inr (.inl f)))), (cb, .inl (cA, (40, .inr (.inl g))))] sz) := by
  refine Met.ofW (cc := qc_M_add) (maxL := 3) (ret := (some .int)) (by decide) rfl ?_
  intro p e s m args below meth c s₁ B hml hv
  obtain ⟨rfl, hsz, hP, hK, hD0⟩ := hv
  have hx := B.exec
  have hb := B.bytes
  have hr := B.returns
  have hts := atoms_spec (ws := qw_M_add) B.pre
  have hW : ∀ w ∈ tq_W, w.before ([.ref o, .long v] : List Value).toArray s = true := fun w h => hts w (List.mem_cons_of_mem _ h)
  have hown : s.vm.findClass RX1 = some m.cls := findClass_of_methodNamed B.named
  have hlocks := B.notSynchronized
  have hl := lv_entry ([.ref o, .long v]) (n := 3) (Nat.le_of_ble_eq_true rfl)
  rw [lg_entry_eq]
  generalize (lg_sl ([.ref o, .long v]) ++ List.replicate (3 - (lg_sl ([.ref o, .long v])).length) Slot.unset).toArray = ls at hl ⊢
  have hl : lv_has ls 3 [(0, .ref o), (1, .long v)] := hl
  subst hsz
  have hD := hD0.self (sz := s.heap.size)
  generalize hAe : va_A [(o, .inr (1, [.int w1, .int (nI n), .int (nI k), .int w4, .ref ca, .ref cb, .long z1, .long z2])), (ca, .inl (cA, (600, .inr (.inl f)))), (cb, .inl (cA, (40, .inr (.inl g))))] s.heap.size = A at hD ⊢
  have hA : ∀ q : Nat, s.heap.size ≤ q → A q := fun q h => by rw [← hAe]; exact Or.inr h
  have hS : va_S A s.heap s.heap [] := va_S.rf
  refine lv_aload_n hx hb qd_M_add_0 rfl (lv_at hl 0 rfl) ?_
  refine lv_aload_n hx hb qd_M_add_1 rfl (lv_at hl 0 rfl) ?_
  refine va_get (D := (dC, dI)) (ci := 1) (v := .int (nI n)) (C := RX1) (T := TX1) (N := 8) hx hb hW inX1 hown hK hP 0 rfl rfl 1 (by decide) (hW _ qm_282) (fun _ h9 => h9) rfl qd_M_add_2 ?_
  refine lv_sipush (v := nI 600) hx hb qd_M_add_5 (by decide +kernel) ?_
  refine tq_icmp_ne (x := n) (y := 600) (tgt := 15) hx hb qd_M_add_8 (by decide) (by omega) (by omega) (fun c9 => ?_) (fun c9 => by omega)
  refine lv_iconst (v := nI 0) hx hb qd_M_add_15 (by decide +kernel) ?_
  refine va_put (D := (dC, dI)) (ci := 1) (v := .int (nI 0)) (ty := .int) (C := RX1) (T := TX1) (N := 8) hx hb hW inX1 tyX1 tyX1_ok nmX1 hown hK hP hD hS 0 rfl rfl 0 (by decide) (hW _ qm_281) (fun _ h9 => h9) rfl (by decide +kernel) rfl rfl (Nat.le_of_ble_eq_true rfl) qd_M_add_16 (fun H locs hP hD hS => ?_)
  have hP : va_P (dC, dI) tq_cl [(o, .inr (1, [.int (nI 0), .int (nI n), .int (nI k), .int w4, .ref ca, .ref cb, .long z1, .long z2])), (ca, .inl (cA, (600, .inr (.inl f)))), (cb, .inl (cA, (40, .inr (.inl g))))] H := hP
  have hD : va_D A [(o, .inr (1, [.int (nI 0), .int (nI n), .int (nI k), .int w4, .ref ca, .ref cb, .long z1, .long z2])), (ca, .inl (cA, (600, .inr (.inl f)))), (cb, .inl (cA, (40, .inr (.inl g))))] := hD
  refine lv_aload_n hx hb qd_M_add_19 rfl (lv_at hl 0 rfl) ?_
  refine va_get (D := (dC, dI)) (ci := 1) (v := .int (nI 0)) (C := RX1) (T := TX1) (N := 8) hx hb hW inX1 hown hK hP 0 rfl rfl 0 (by decide) (hW _ qm_281) (fun _ h9 => h9) rfl qd_M_add_20 ?_
  refine tq_if_le (x := 0) (tgt := 28) hx hb qd_M_add_23 (by decide) (by omega) (fun c9 => ?_) (fun c9 => by omega)
  refine lv_aload_n hx hb qd_M_add_28 rfl (lv_at hl 0 rfl) ?_
  refine va_get (D := (dC, dI)) (ci := 1) (v := .ref ca) (C := RX1) (T := TX1) (N := 8) hx hb hW inX1 hown hK hP 0 rfl rfl 4 (by decide) (hW _ qm_285) (fun _ h9 => h9) rfl qd_M_add_29 ?_
  refine lv_aload_n hx hb qd_M_add_32 rfl (lv_at hl 0 rfl) ?_
  refine va_get (D := (dC, dI)) (ci := 1) (v := .int (nI n)) (C := RX1) (T := TX1) (N := 8) hx hb hW inX1 hown hK hP 0 rfl rfl 1 (by decide) (hW _ qm_282) (fun _ h9 => h9) rfl qd_M_add_33 ?_
  refine lv_lload_n hx hb qd_M_add_36 rfl (lv_at hl 1 rfl) ?_
  refine tq_last hx hb hK hP hD hS 1 0 rfl rfl (j := n) (x := v) (by omega) (by decide) qd_M_add_37 (fun H locs hP hD hS => ?_)
  have hP : va_P (dC, dI) tq_cl [(o, .inr (1, [.int (nI 0), .int (nI n), .int (nI k), .int w4, .ref ca, .ref cb, .long z1, .long z2])), (ca, .inl (cA, (600, .inr (.inl (vp_updL f n v))))), (cb, .inl (cA, (40, .inr (.inl g))))] H := hP
  have hD : va_D A [(o, .inr (1, [.int (nI 0), .int (nI n), .int (nI k), .int w4, .ref ca, .ref cb, .long z1, .long z2])), (ca, .inl (cA, (600, .inr (.inl (vp_updL f n v))))), (cb, .inl (cA, (40, .inr (.inl g))))] := hD
  refine lv_aload_n hx hb qd_M_add_38 rfl (lv_at hl 0 rfl) ?_
  refine lv_dup hx hb qd_M_add_39 rfl ?_
  refine va_get (D := (dC, dI)) (ci := 1) (v := .int (nI n)) (C := RX1) (T := TX1) (N := 8) hx hb hW inX1 hown hK hP 0 rfl rfl 1 (by decide) (hW _ qm_282) (fun _ h9 => h9) rfl qd_M_add_40 ?_
  refine lv_iconst (v := nI 1) hx hb qd_M_add_43 (by decide +kernel) ?_
  refine lv_iadd hx hb qd_M_add_44 ?_
  refine tq_ti (y := nI (n + 1)) (nI_1 n) ?_
  refine va_put (D := (dC, dI)) (ci := 1) (v := .int (nI (n + 1))) (ty := .int) (C := RX1) (T := TX1) (N := 8) hx hb hW inX1 tyX1 tyX1_ok nmX1 hown hK hP hD hS 0 rfl rfl 1 (by decide) (hW _ qm_282) (fun _ h9 => h9) rfl (by decide +kernel) rfl rfl (Nat.le_of_ble_eq_true rfl) qd_M_add_45 (fun H locs hP hD hS => ?_)
  have hP : va_P (dC, dI) tq_cl [(o, .inr (1, [.int (nI 0), .int (nI (n + 1)), .int (nI k), .int w4, .ref ca, .ref cb, .long z1, .long z2])), (ca, .inl (cA, (600, .inr (.inl (vp_updL f n v))))), (cb, .inl (cA, (40, .inr (.inl g))))] H := hP
  have hD : va_D A [(o, .inr (1, [.int (nI 0), .int (nI (n + 1)), .int (nI k), .int w4, .ref ca, .ref cb, .long z1, .long z2])), (ca, .inl (cA, (600, .inr (.inl (vp_updL f n v))))), (cb, .inl (cA, (40, .inr (.inl g))))] := hD
  refine lv_aload_n hx hb qd_M_add_48 rfl (lv_at hl 0 rfl) ?_
  refine va_get (D := (dC, dI)) (ci := 1) (v := .int (nI (n + 1))) (C := RX1) (T := TX1) (N := 8) hx hb hW inX1 hown hK hP 0 rfl rfl 1 (by decide) (hW _ qm_282) (fun _ h9 => h9) rfl qd_M_add_49 ?_
  exact W.iret hx hb hr (fun t ht hW9 => ⟨⟨_, (), rfl, rfl, by rw [ht]; exact hP, va_K.moved hW9.alike hK, hD⟩, hS.F ht⟩) hS.2.2 qd_M_add_52
set_option maxHeartbeats 4000000 in
set_option maxRecDepth 100000 in
theorem ct_M_add_no (l : Launch) (dC : Nat → ClassId) (dI : Nat → Nat → Nat) (o ca cb : Nat) (cA : ClassId) (w1 : Int32) (n k : Nat) (w4 : Int32) (z1 z2 : Int64) (f g : Nat → Int64) (sz : Nat) (v : Int64) (hn : n = 600) : Met l qy_M_add qw_M_add ({ frames := 0, cells := 0, slots := 0, locals := 0 }) (va_Pc [.ref o, .long v] (tq_rw (dC, dI) [(o, .inr (1, [.int w1, .int (nI n), .int (nI k), .int w4, .ref ca, .ref cb, .long z1, .long z2])), (ca, .inl (cA, (600, .inr (.inl f)))), (cb, .inl (cA, (40, .inr (.inl g))))] [(cA, .long)] sz)) (va_Qi (fun r (_ : Unit) => r = nI 0) (fun _ t => tq_in (dC, dI) [(o, .inr (1, [.int (nI 1), .int (nI n), .int (nI k), .int w4, .ref ca, .ref cb, .long z1, .long z2])), (ca, .inl (cA, (600, .inr (.inl f)))), (cb, .inl (cA, (40, .inr (.inl g))))] [(cA, .long)] (va_A [(o, .inr (1, [.int w1, .int (nI n), .int (nI k), .int w4, .ref ca, .ref cb, .long z1, .long z2])), (ca, .inl (cA, (600, .inr (.inl f)))), (cb, .inl (cA, (40, .inr (.inl g))))] sz) t) (va_A [(o, .inr (1, [.int w1, .int (nI n), .int (nI k), .int w4, .ref ca, .ref cb, .long z1, .long z2])), (ca, .inl (cA, (600, .inr (.inl f)))), (cb, .inl (cA, (40, .inr (.inl g))))] sz)) 0 0 (va_A [(o, .inr (1, [.int w1, .int (nI n), .int (nI k), .int w4, .ref ca, .ref cb, .long z1, .long z2])), (ca, .inl (cA, (600, .inr (.inl f)))), (cb, .inl (cA, (40, .inr (.inl g))))] sz) := by
  refine Met.ofW (cc := qc_M_add) (maxL := 3) (ret := (some .int)) (by decide) rfl ?_
  intro p e s m args below meth c s₁ B hml hv
  obtain ⟨rfl, hsz, hP, hK, hD0⟩ := hv
  have hx := B.exec
  have hb := B.bytes
  have hr := B.returns
  have hts := atoms_spec (ws := qw_M_add) B.pre
  have hW : ∀ w ∈ tq_W, w.before ([.ref o, .long v] : List Value).toArray s = true := fun w h => hts w (List.mem_cons_of_mem _ h)
  have hown : s.vm.findClass RX1 = some m.cls := findClass_of_methodNamed B.named
  have hlocks := B.notSynchronized
  have hl := lv_entry ([.ref o, .long v]) (n := 3) (Nat.le_of_ble_eq_true rfl)
  rw [lg_entry_eq]
  generalize (lg_sl ([.ref o, .long v]) ++ List.replicate (3 - (lg_sl ([.ref o, .long v])).length) Slot.unset).toArray = ls at hl ⊢
  have hl : lv_has ls 3 [(0, .ref o), (1, .long v)] := hl
  subst hsz
  have hD := hD0.self (sz := s.heap.size)
  generalize hAe : va_A [(o, .inr (1, [.int w1, .int (nI n), .int (nI k), .int w4, .ref ca, .ref cb, .long z1, .long z2])), (ca, .inl (cA, (600, .inr (.inl f)))), (cb, .inl (cA, (40, .inr (.inl g))))] s.heap.size = A at hD ⊢
  have hA : ∀ q : Nat, s.heap.size ≤ q → A q := fun q h => by rw [← hAe]; exact Or.inr h
  have hS : va_S A s.heap s.heap [] := va_S.rf
  refine lv_aload_n hx hb qd_M_add_0 rfl (lv_at hl 0 rfl) ?_
  refine lv_aload_n hx hb qd_M_add_1 rfl (lv_at hl 0 rfl) ?_
  refine va_get (D := (dC, dI)) (ci := 1) (v := .int (nI n)) (C := RX1) (T := TX1) (N := 8) hx hb hW inX1 hown hK hP 0 rfl rfl 1 (by decide) (hW _ qm_282) (fun _ h9 => h9) rfl qd_M_add_2 ?_
  refine lv_sipush (v := nI 600) hx hb qd_M_add_5 (by decide +kernel) ?_
  refine tq_icmp_ne (x := n) (y := 600) (tgt := 15) hx hb qd_M_add_8 (by decide) (by omega) (by omega) (fun c9 => by omega) (fun c9 => ?_)
  refine lv_iconst (v := nI 1) hx hb qd_M_add_11 (by decide +kernel) ?_
  refine lv_goto (tgt := 16) hx hb qd_M_add_12 (by decide) ?_
  refine va_put (D := (dC, dI)) (ci := 1) (v := .int (nI 1)) (ty := .int) (C := RX1) (T := TX1) (N := 8) hx hb hW inX1 tyX1 tyX1_ok nmX1 hown hK hP hD hS 0 rfl rfl 0 (by decide) (hW _ qm_281) (fun _ h9 => h9) rfl (by decide +kernel) rfl rfl (Nat.le_of_ble_eq_true rfl) qd_M_add_16 (fun H locs hP hD hS => ?_)
  have hP : va_P (dC, dI) tq_cl [(o, .inr (1, [.int (nI 1), .int (nI n), .int (nI k), .int w4, .ref ca, .ref cb, .long z1, .long z2])), (ca, .inl (cA, (600, .inr (.inl f)))), (cb, .inl (cA, (40, .inr (.inl g))))] H := hP
  have hD : va_D A [(o, .inr (1, [.int (nI 1), .int (nI n), .int (nI k), .int w4, .ref ca, .ref cb, .long z1, .long z2])), (ca, .inl (cA, (600, .inr (.inl f)))), (cb, .inl (cA, (40, .inr (.inl g))))] := hD
  refine lv_aload_n hx hb qd_M_add_19 rfl (lv_at hl 0 rfl) ?_
  refine va_get (D := (dC, dI)) (ci := 1) (v := .int (nI 1)) (C := RX1) (T := TX1) (N := 8) hx hb hW inX1 hown hK hP 0 rfl rfl 0 (by decide) (hW _ qm_281) (fun _ h9 => h9) rfl qd_M_add_20 ?_
  refine tq_if_le (x := 1) (tgt := 28) hx hb qd_M_add_23 (by decide) (by omega) (fun c9 => by omega) (fun c9 => ?_)
  refine lv_iconst (v := nI 0) hx hb qd_M_add_26 (by decide +kernel) ?_
  exact W.iret hx hb hr (fun t ht hW9 => ⟨⟨_, (), rfl, rfl, by rw [ht]; exact hP, va_K.moved hW9.alike hK, hD⟩, hS.F ht⟩) hS.2.2 qd_M_add_27
set_option maxHeartbeats 4000000 in
set_option maxRecDepth 100000 in
theorem ct_M_fill (l : Launch) (dC : Nat → ClassId) (dI : Nat → Nat → Nat) (o ca cb : Nat) (cA : ClassId) (w1 : Int32) (n k : Nat) (w4 : Int32) (z1 z2 : Int64) (f g : Nat → Int64) (sz : Nat) (j : Nat) (v step : Int64) (h1 : 1 ≤ j) (h2 : j ≤ 200) (hn : n + j ≤ 600) : Met l qy_M_fill qw_M_fill ({ frames := 0, cells := 0, slots := 0, locals := 0 }) (va_Pc [.ref o, .int (nI j), .long v, .long step] (tq_rw (dC, dI) [(o, .inr (1, [.int w1, .int (nI n), .int (nI k), .int w4, .ref ca, .ref cb, .long z1, .long z2])), (ca, .inl (cA, (600, .inr (.inl f)))), (cb, .inl (cA, (40, .inr (.inl g))))] [(cA, .long)] sz)) (va_Qi (fun r (_ : Unit) => r = nI (n + j)) (fun _ t => tq_in (dC, dI) [(o, .inr (1, [.int (nI 0), .int (nI (n + j)), .int (nI k), .int w4, .ref ca, .ref cb, .long z1, .long z2])), (ca, .inl (cA, (600, .inr (.inl ((tq_fl f n j (tq_fv v step))))))), (cb, .inl (cA, (40, .inr (.inl g))))] [(cA, .long)] (va_A [(o, .inr (1, [.int w1, .int (nI n), .int (nI k), .int w4, .ref ca, .ref cb, .long z1, .long z2])), (ca, .inl (cA, (600, .inr (.inl f)))), (cb, .inl (cA, (40, .inr (.inl g))))] sz) t) (va_A [(o, .inr (1, [.int w1, .int (nI n), .int (nI k), .int w4, .ref ca, .ref cb, .long z1, .long z2])), (ca, .inl (cA, (600, .inr (.inl f)))), (cb, .inl (cA, (40, .inr (.inl g))))] sz)) 0 0 (va_A [(o, .inr (1, [.int w1, .int (nI n), .int (nI k), .int w4, .ref ca, .ref cb, .long z1, .long z2])), (ca, .inl (cA, (600, .inr (.inl f)))), (cb, .inl (cA, (40, .inr (.inl g))))] sz) := by
  refine Met.ofW (cc := qc_M_fill) (maxL := 7) (ret := (some .int)) (by decide) rfl ?_
  intro p e s m args below meth c s₁ B hml hv
  obtain ⟨rfl, hsz, hP, hK, hD0⟩ := hv
  have hx := B.exec
  have hb := B.bytes
  have hr := B.returns
  have hts := atoms_spec (ws := qw_M_fill) B.pre
  have hW : ∀ w ∈ tq_W, w.before ([.ref o, .int (nI j), .long v, .long step] : List Value).toArray s = true := fun w h => hts w (List.mem_cons_of_mem _ h)
  have hown : s.vm.findClass RX1 = some m.cls := findClass_of_methodNamed B.named
  have hlocks := B.notSynchronized
  have hl := lv_entry ([.ref o, .int (nI j), .long v, .long step]) (n := 7) (Nat.le_of_ble_eq_true rfl)
  rw [lg_entry_eq]
  generalize (lg_sl ([.ref o, .int (nI j), .long v, .long step]) ++ List.replicate (7 - (lg_sl ([.ref o, .int (nI j), .long v, .long step])).length) Slot.unset).toArray = ls at hl ⊢
  have hl : lv_has ls 7 [(0, .ref o), (1, .int (nI j)), (2, .long v), (4, .long step)] := hl
  subst hsz
  have hD := hD0.self (sz := s.heap.size)
  generalize hAe : va_A [(o, .inr (1, [.int w1, .int (nI n), .int (nI k), .int w4, .ref ca, .ref cb, .long z1, .long z2])), (ca, .inl (cA, (600, .inr (.inl f)))), (cb, .inl (cA, (40, .inr (.inl g))))] s.heap.size = A at hD ⊢
  have hA : ∀ q : Nat, s.heap.size ≤ q → A q := fun q h => by rw [← hAe]; exact Or.inr h
  have hS : va_S A s.heap s.heap [] := va_S.rf
  have loop : ∀ (t i : Nat), i + t = j → ∀ (H : Heap) (locs : List Loc), va_P (dC, dI) tq_cl [(o, .inr (1, [.int (nI 0), .int (nI n), .int (nI k), .int w4, .ref ca, .ref cb, .long z1, .long z2])), (ca, .inl (cA, (600, .inr (.inl ((tq_fl f n i (tq_fv v step))))))), (cb, .inl (cA, (40, .inr (.inl g))))] H → va_D A [(o, .inr (1, [.int (nI 0), .int (nI n), .int (nI k), .int w4, .ref ca, .ref cb, .long z1, .long z2])), (ca, .inl (cA, (600, .inr (.inl ((tq_fl f n i (tq_fv v step))))))), (cb, .inl (cA, (40, .inr (.inl g))))] → va_S A s.heap H locs → ∀ ls : Array Slot, lv_has ls 7 [(6, .int (nI i)), (0, .ref o), (1, .int (nI j)), (2, .long v), (4, .long step)] → W p l e (headSpec qw_M_fill ({ frames := 0, cells := 0, slots := 0, locals := 0 })).room s m ([.ref o, .int (nI j), .long v, .long step] : List Value).toArray below meth c H locs 0 0 (MQ below (va_Qi (fun r (_ : Unit) => r = nI (n + j)) (fun _ t => tq_in (dC, dI) [(o, .inr (1, [.int (nI 0), .int (nI (n + j)), .int (nI k), .int w4, .ref ca, .ref cb, .long z1, .long z2])), (ca, .inl (cA, (600, .inr (.inl ((tq_fl f n j (tq_fv v step))))))), (cb, .inl (cA, (40, .inr (.inl g))))] [(cA, .long)] A t) A) ([.ref o, .int (nI j), .long v, .long step] : List Value).toArray s 0 0 A) (F0 m 49 ls []) := by
    intro t
    induction t with
    | zero =>
      intro i hi H locs hP hD hS ls hl
      obtain rfl : i = j := by omega
      refine lv_iload hx hb qd_M_fill_49 (lv_at hl 0 rfl) ?_
      refine lv_iload_n hx hb qd_M_fill_51 rfl (lv_at hl 2 rfl) ?_
      refine tq_icmp_ge (x := i) (y := i) (tgt := 81) hx hb qd_M_fill_52 (by decide) (by omega) (by omega) (fun c9 => ?_) (fun c9 => by omega)
      refine lv_aload_n hx hb qd_M_fill_81 rfl (lv_at hl 1 rfl) ?_
      refine lv_dup hx hb qd_M_fill_82 rfl ?_
      refine va_get (D := (dC, dI)) (ci := 1) (v := .int (nI n)) (C := RX1) (T := TX1) (N := 8) hx hb hW inX1 hown hK hP 0 rfl rfl 1 (by decide) (hW _ qm_282) (fun _ h9 => h9) rfl qd_M_fill_83 ?_
      refine lv_iload_n hx hb qd_M_fill_86 rfl (lv_at hl 2 rfl) ?_
      refine lv_iadd hx hb qd_M_fill_87 ?_
      refine tq_ti (y := nI (n + i)) (nI_add _ _) ?_
      refine va_put (D := (dC, dI)) (ci := 1) (v := .int (nI (n + i))) (ty := .int) (C := RX1) (T := TX1) (N := 8) hx hb hW inX1 tyX1 tyX1_ok nmX1 hown hK hP hD hS 0 rfl rfl 1 (by decide) (hW _ qm_282) (fun _ h9 => h9) rfl (by decide +kernel) rfl rfl (Nat.le_of_ble_eq_true rfl) qd_M_fill_88 (fun H locs hP hD hS => ?_)
      have hP : va_P (dC, dI) tq_cl [(o, .inr (1, [.int (nI 0), .int (nI (n + i)), .int (nI k), .int w4, .ref ca, .ref cb, .long z1, .long z2])), (ca, .inl (cA, (600, .inr (.inl ((tq_fl f n i (tq_fv v step))))))), (cb, .inl (cA, (40, .inr (.inl g))))] H := hP
      have hD : va_D A [(o, .inr (1, [.int (nI 0), .int (nI (n + i)), .int (nI k), .int w4, .ref ca, .ref cb, .long z1, .long z2])), (ca, .inl (cA, (600, .inr (.inl ((tq_fl f n i (tq_fv v step))))))), (cb, .inl (cA, (40, .inr (.inl g))))] := hD
      refine lv_aload_n hx hb qd_M_fill_91 rfl (lv_at hl 1 rfl) ?_
      refine va_get (D := (dC, dI)) (ci := 1) (v := .int (nI (n + i))) (C := RX1) (T := TX1) (N := 8) hx hb hW inX1 hown hK hP 0 rfl rfl 1 (by decide) (hW _ qm_282) (fun _ h9 => h9) rfl qd_M_fill_92 ?_
      exact W.iret hx hb hr (fun t ht hW9 => ⟨⟨_, (), rfl, rfl, by rw [ht]; exact hP, va_K.moved hW9.alike hK, hD⟩, hS.F ht⟩) hS.2.2 qd_M_fill_95
    | succ t ih =>
      intro i hi H locs hP hD hS ls hl
      refine lv_iload hx hb qd_M_fill_49 (lv_at hl 0 rfl) ?_
      refine lv_iload_n hx hb qd_M_fill_51 rfl (lv_at hl 2 rfl) ?_
      refine tq_icmp_ge (x := i) (y := j) (tgt := 81) hx hb qd_M_fill_52 (by decide) (by omega) (by omega) (fun c9 => by omega) (fun c9 => ?_)
      refine lv_aload_n hx hb qd_M_fill_55 rfl (lv_at hl 1 rfl) ?_
      refine va_get (D := (dC, dI)) (ci := 1) (v := .ref ca) (C := RX1) (T := TX1) (N := 8) hx hb hW inX1 hown hK hP 0 rfl rfl 4 (by decide) (hW _ qm_285) (fun _ h9 => h9) rfl qd_M_fill_56 ?_
      refine lv_aload_n hx hb qd_M_fill_59 rfl (lv_at hl 1 rfl) ?_
      refine va_get (D := (dC, dI)) (ci := 1) (v := .int (nI n)) (C := RX1) (T := TX1) (N := 8) hx hb hW inX1 hown hK hP 0 rfl rfl 1 (by decide) (hW _ qm_282) (fun _ h9 => h9) rfl qd_M_fill_60 ?_
      refine lv_iload hx hb qd_M_fill_63 (lv_at hl 0 rfl) ?_
      refine lv_iadd hx hb qd_M_fill_65 ?_
      refine tq_ti (y := nI (n + i)) (nI_add _ _) ?_
      refine lv_lload_n hx hb qd_M_fill_66 rfl (lv_at hl 3 rfl) ?_
      refine lv_iload hx hb qd_M_fill_67 (lv_at hl 0 rfl) ?_
      refine lv_i2l (v := (nI i).toInt64) hx hb qd_M_fill_69 rfl ?_
      refine lv_lload hx hb qd_M_fill_70 (lv_at hl 4 rfl) ?_
      refine lv_lmul hx hb qd_M_fill_72 ?_
      refine lv_ladd hx hb qd_M_fill_73 ?_
      refine tq_tl (y := tq_fv v step i) (rfl) ?_
      refine tq_last hx hb hK hP hD hS 1 0 rfl rfl (j := ((n + i))) (x := (tq_fv v step i)) (by omega) (by decide) qd_M_fill_74 (fun H locs hP hD hS => ?_)
      have hP : va_P (dC, dI) tq_cl [(o, .inr (1, [.int (nI 0), .int (nI n), .int (nI k), .int w4, .ref ca, .ref cb, .long z1, .long z2])), (ca, .inl (cA, (600, .inr (.inl (vp_updL ((tq_fl f n i (tq_fv v step))) ((n + i)) (tq_fv v step i)))))), (cb, .inl (cA, (40, .inr (.inl g))))] H := hP
      have hD : va_D A [(o, .inr (1, [.int (nI 0), .int (nI n), .int (nI k), .int w4, .ref ca, .ref cb, .long z1, .long z2])), (ca, .inl (cA, (600, .inr (.inl (vp_updL ((tq_fl f n i (tq_fv v step))) ((n + i)) (tq_fv v step i)))))), (cb, .inl (cA, (40, .inr (.inl g))))] := hD
      rw [tq_fl_s f n i (tq_fv v step)] at hP hD
      refine lv_iinc (v := (nI (i + 1))) (lv' := [(6, .int (nI (i + 1))), (0, .ref o), (1, .int (nI j)), (2, .long v), (4, .long step)]) hx hb qd_M_fill_75 hl (k := 0) rfl (nI_1 i) (by decide) rfl (fun ls hl => ?_)
      refine lv_goto (tgt := 49) hx hb qd_M_fill_78 (by decide) ?_
      exact ih (i + 1) (by omega) _ _ hP hD hS ls (lv_sub hl [0, 1, 2, 3, 4] rfl)
  refine lv_aload_n hx hb qd_M_fill_0 rfl (lv_at hl 0 rfl) ?_
  refine lv_iload_n hx hb qd_M_fill_1 rfl (lv_at hl 1 rfl) ?_
  refine lv_iconst (v := nI 1) hx hb qd_M_fill_2 (by decide +kernel) ?_
  refine tq_icmp_lt (x := j) (y := 1) (tgt := 13) hx hb qd_M_fill_3 (by decide) (by omega) (by omega) (fun c9 => by omega) (fun c9 => ?_)
  refine lv_iload_n hx hb qd_M_fill_6 rfl (lv_at hl 1 rfl) ?_
  refine lv_sipush (v := nI 200) hx hb qd_M_fill_7 (by decide +kernel) ?_
  refine tq_icmp_le (x := j) (y := 200) (tgt := 17) hx hb qd_M_fill_10 (by decide) (by omega) (by omega) (fun c9 => ?_) (fun c9 => by omega)
  refine lv_aload_n hx hb qd_M_fill_17 rfl (lv_at hl 0 rfl) ?_
  refine va_get (D := (dC, dI)) (ci := 1) (v := .int (nI n)) (C := RX1) (T := TX1) (N := 8) hx hb hW inX1 hown hK hP 0 rfl rfl 1 (by decide) (hW _ qm_282) (fun _ h9 => h9) rfl qd_M_fill_18 ?_
  refine lv_iload_n hx hb qd_M_fill_21 rfl (lv_at hl 1 rfl) ?_
  refine lv_iadd hx hb qd_M_fill_22 ?_
  refine tq_ti (y := nI (n + j)) (nI_add _ _) ?_
  refine lv_sipush (v := nI 600) hx hb qd_M_fill_23 (by decide +kernel) ?_
  refine tq_icmp_le (x := (n + j)) (y := 600) (tgt := 33) hx hb qd_M_fill_26 (by decide) (by omega) (by omega) (fun c9 => ?_) (fun c9 => by omega)
  refine lv_iconst (v := nI 0) hx hb qd_M_fill_33 (by decide +kernel) ?_
  refine va_put (D := (dC, dI)) (ci := 1) (v := .int (nI 0)) (ty := .int) (C := RX1) (T := TX1) (N := 8) hx hb hW inX1 tyX1 tyX1_ok nmX1 hown hK hP hD hS 0 rfl rfl 0 (by decide) (hW _ qm_281) (fun _ h9 => h9) rfl (by decide +kernel) rfl rfl (Nat.le_of_ble_eq_true rfl) qd_M_fill_34 (fun H locs hP hD hS => ?_)
  have hP : va_P (dC, dI) tq_cl [(o, .inr (1, [.int (nI 0), .int (nI n), .int (nI k), .int w4, .ref ca, .ref cb, .long z1, .long z2])), (ca, .inl (cA, (600, .inr (.inl f)))), (cb, .inl (cA, (40, .inr (.inl g))))] H := hP
  have hD : va_D A [(o, .inr (1, [.int (nI 0), .int (nI n), .int (nI k), .int w4, .ref ca, .ref cb, .long z1, .long z2])), (ca, .inl (cA, (600, .inr (.inl f)))), (cb, .inl (cA, (40, .inr (.inl g))))] := hD
  refine lv_aload_n hx hb qd_M_fill_37 rfl (lv_at hl 0 rfl) ?_
  refine va_get (D := (dC, dI)) (ci := 1) (v := .int (nI 0)) (C := RX1) (T := TX1) (N := 8) hx hb hW inX1 hown hK hP 0 rfl rfl 0 (by decide) (hW _ qm_281) (fun _ h9 => h9) rfl qd_M_fill_38 ?_
  refine tq_if_le (x := 0) (tgt := 46) hx hb qd_M_fill_41 (by decide) (by omega) (fun c9 => ?_) (fun c9 => by omega)
  refine lv_iconst (v := nI 0) hx hb qd_M_fill_46 (by decide +kernel) ?_
  refine lv_istore (lv' := [(6, .int (nI 0)), (0, .ref o), (1, .int (nI j)), (2, .long v), (4, .long step)]) hx hb qd_M_fill_47 hl (by decide) rfl (fun ls hl => ?_)
  exact loop j 0 (Nat.zero_add j) _ _ (by rw [tq_fl_0]; exact hP) (by rw [tq_fl_0]; exact hD) hS ls (lv_sub hl [0, 1, 2, 3, 4] rfl)
set_option maxHeartbeats 4000000 in
set_option maxRecDepth 100000 in
theorem ct_M_fill_no (l : Launch) (dC : Nat → ClassId) (dI : Nat → Nat → Nat) (o ca cb : Nat) (cA : ClassId) (w1 : Int32) (n k : Nat) (w4 : Int32) (z1 z2 : Int64) (f g : Nat → Int64) (sz : Nat) (q : Int32) (v step : Int64) (hbad : q < nI 1 ∨ nI 200 < q) : Met l qy_M_fill qw_M_fill ({ frames := 0, cells := 0, slots := 0, locals := 0 }) (va_Pc [.ref o, .int q, .long v, .long step] (tq_rw (dC, dI) [(o, .inr (1, [.int w1, .int (nI n), .int (nI k), .int w4, .ref ca, .ref cb, .long z1, .long z2])), (ca, .inl (cA, (600, .inr (.inl f)))), (cb, .inl (cA, (40, .inr (.inl g))))] [(cA, .long)] sz)) (va_Qi (fun r (_ : Unit) => r = nI 0) (fun _ t => tq_in (dC, dI) [(o, .inr (1, [.int (nI 1), .int (nI n), .int (nI k), .int w4, .ref ca, .ref cb, .long z1, .long z2])), (ca, .inl (cA, (600, .inr (.inl f)))), (cb, .inl (cA, (40, .inr (.inl g))))] [(cA, .long)] (va_A [(o, .inr (1, [.int w1, .int (nI n), .int (nI k), .int w4, .ref ca, .ref cb, .long z1, .long z2])), (ca, .inl (cA, (600, .inr (.inl f)))), (cb, .inl (cA, (40, .inr (.inl g))))] sz) t) (va_A [(o, .inr (1, [.int w1, .int (nI n), .int (nI k), .int w4, .ref ca, .ref cb, .long z1, .long z2])), (ca, .inl (cA, (600, .inr (.inl f)))), (cb, .inl (cA, (40, .inr (.inl g))))] sz)) 0 0 (va_A [(o, .inr (1, [.int w1, .int (nI n), .int (nI k), .int w4, .ref ca, .ref cb, .long z1, .long z2])), (ca, .inl (cA, (600, .inr (.inl f)))), (cb, .inl (cA, (40, .inr (.inl g))))] sz) := by
  refine Met.ofW (cc := qc_M_fill) (maxL := 7) (ret := (some .int)) (by decide) rfl ?_
  intro p e s m args below meth c s₁ B hml hv
  obtain ⟨rfl, hsz, hP, hK, hD0⟩ := hv
  have hx := B.exec
  have hb := B.bytes
  have hr := B.returns
  have hts := atoms_spec (ws := qw_M_fill) B.pre
  have hW : ∀ w ∈ tq_W, w.before ([.ref o, .int q, .long v, .long step] : List Value).toArray s = true := fun w h => hts w (List.mem_cons_of_mem _ h)
  have hown : s.vm.findClass RX1 = some m.cls := findClass_of_methodNamed B.named
  have hlocks := B.notSynchronized
  have hl := lv_entry ([.ref o, .int q, .long v, .long step]) (n := 7) (Nat.le_of_ble_eq_true rfl)
  rw [lg_entry_eq]
  generalize (lg_sl ([.ref o, .int q, .long v, .long step]) ++ List.replicate (7 - (lg_sl ([.ref o, .int q, .long v, .long step])).length) Slot.unset).toArray = ls at hl ⊢
  have hl : lv_has ls 7 [(0, .ref o), (1, .int q), (2, .long v), (4, .long step)] := hl
  subst hsz
  have hD := hD0.self (sz := s.heap.size)
  generalize hAe : va_A [(o, .inr (1, [.int w1, .int (nI n), .int (nI k), .int w4, .ref ca, .ref cb, .long z1, .long z2])), (ca, .inl (cA, (600, .inr (.inl f)))), (cb, .inl (cA, (40, .inr (.inl g))))] s.heap.size = A at hD ⊢
  have hA : ∀ q : Nat, s.heap.size ≤ q → A q := fun q h => by rw [← hAe]; exact Or.inr h
  have hS : va_S A s.heap s.heap [] := va_S.rf
  refine lv_aload_n hx hb qd_M_fill_0 rfl (lv_at hl 0 rfl) ?_
  refine lv_iload_n hx hb qd_M_fill_1 rfl (lv_at hl 1 rfl) ?_
  refine lv_iconst (v := nI 1) hx hb qd_M_fill_2 (by decide +kernel) ?_
  refine lv_icmp_lt (tgt := 13) hx hb qd_M_fill_3 (by decide) (fun c1 => ?_) (fun c1 => ?_)
  · refine lv_iconst (v := nI 1) hx hb qd_M_fill_13 (by decide +kernel) ?_
    refine lv_goto (tgt := 34) hx hb qd_M_fill_14 (by decide) ?_
    refine va_put (D := (dC, dI)) (ci := 1) (v := .int (nI 1)) (ty := .int) (C := RX1) (T := TX1) (N := 8) hx hb hW inX1 tyX1 tyX1_ok nmX1 hown hK hP hD hS 0 rfl rfl 0 (by decide) (hW _ qm_281) (fun _ h9 => h9) rfl (by decide +kernel) rfl rfl (Nat.le_of_ble_eq_true rfl) qd_M_fill_34 (fun H locs hP hD hS => ?_)
    have hP : va_P (dC, dI) tq_cl [(o, .inr (1, [.int (nI 1), .int (nI n), .int (nI k), .int w4, .ref ca, .ref cb, .long z1, .long z2])), (ca, .inl (cA, (600, .inr (.inl f)))), (cb, .inl (cA, (40, .inr (.inl g))))] H := hP
    have hD : va_D A [(o, .inr (1, [.int (nI 1), .int (nI n), .int (nI k), .int w4, .ref ca, .ref cb, .long z1, .long z2])), (ca, .inl (cA, (600, .inr (.inl f)))), (cb, .inl (cA, (40, .inr (.inl g))))] := hD
    refine lv_aload_n hx hb qd_M_fill_37 rfl (lv_at hl 0 rfl) ?_
    refine va_get (D := (dC, dI)) (ci := 1) (v := .int (nI 1)) (C := RX1) (T := TX1) (N := 8) hx hb hW inX1 hown hK hP 0 rfl rfl 0 (by decide) (hW _ qm_281) (fun _ h9 => h9) rfl qd_M_fill_38 ?_
    refine tq_if_le (x := 1) (tgt := 46) hx hb qd_M_fill_41 (by decide) (by omega) (fun c9 => by omega) (fun c9 => ?_)
    refine lv_iconst (v := nI 0) hx hb qd_M_fill_44 (by decide +kernel) ?_
    exact W.iret hx hb hr (fun t ht hW9 => ⟨⟨_, (), rfl, rfl, by rw [ht]; exact hP, va_K.moved hW9.alike hK, hD⟩, hS.F ht⟩) hS.2.2 qd_M_fill_45
  · have h9 : ¬ q ≤ nI 200 := tq_nle (hbad.elim (fun h => absurd h c1) id)
    refine lv_iload_n hx hb qd_M_fill_6 rfl (lv_at hl 1 rfl) ?_
    refine lv_sipush (v := nI 200) hx hb qd_M_fill_7 (by decide +kernel) ?_
    refine lv_icmp_le (tgt := 17) hx hb qd_M_fill_10 (by decide) (fun c9 => absurd c9 (h9)) (fun c2 => ?_)
    refine lv_iconst (v := nI 1) hx hb qd_M_fill_13 (by decide +kernel) ?_
    refine lv_goto (tgt := 34) hx hb qd_M_fill_14 (by decide) ?_
    refine va_put (D := (dC, dI)) (ci := 1) (v := .int (nI 1)) (ty := .int) (C := RX1) (T := TX1) (N := 8) hx hb hW inX1 tyX1 tyX1_ok nmX1 hown hK hP hD hS 0 rfl rfl 0 (by decide) (hW _ qm_281) (fun _ h9 => h9) rfl (by decide +kernel) rfl rfl (Nat.le_of_ble_eq_true rfl) qd_M_fill_34 (fun H locs hP hD hS => ?_)
    have hP : va_P (dC, dI) tq_cl [(o, .inr (1, [.int (nI 1), .int (nI n), .int (nI k), .int w4, .ref ca, .ref cb, .long z1, .long z2])), (ca, .inl (cA, (600, .inr (.inl f)))), (cb, .inl (cA, (40, .inr (.inl g))))] H := hP
    have hD : va_D A [(o, .inr (1, [.int (nI 1), .int (nI n), .int (nI k), .int w4, .ref ca, .ref cb, .long z1, .long z2])), (ca, .inl (cA, (600, .inr (.inl f)))), (cb, .inl (cA, (40, .inr (.inl g))))] := hD
    refine lv_aload_n hx hb qd_M_fill_37 rfl (lv_at hl 0 rfl) ?_
    refine va_get (D := (dC, dI)) (ci := 1) (v := .int (nI 1)) (C := RX1) (T := TX1) (N := 8) hx hb hW inX1 hown hK hP 0 rfl rfl 0 (by decide) (hW _ qm_281) (fun _ h9 => h9) rfl qd_M_fill_38 ?_
    refine tq_if_le (x := 1) (tgt := 46) hx hb qd_M_fill_41 (by decide) (by omega) (fun c9 => by omega) (fun c9 => ?_)
    refine lv_iconst (v := nI 0) hx hb qd_M_fill_44 (by decide +kernel) ?_
    exact W.iret hx hb hr (fun t ht hW9 => ⟨⟨_, (), rfl, rfl, by rw [ht]; exact hP, va_K.moved hW9.alike hK, hD⟩, hS.F ht⟩) hS.2.2 qd_M_fill_45
set_option maxHeartbeats 4000000 in
set_option maxRecDepth 100000 in
theorem ct_M_fill_no2 (l : Launch) (dC : Nat → ClassId) (dI : Nat → Nat → Nat) (o ca cb : Nat) (cA : ClassId) (w1 : Int32) (n k : Nat) (w4 : Int32) (z1 z2 : Int64) (f g : Nat → Int64) (sz : Nat) (j : Nat) (v step : Int64) (h1 : 1 ≤ j) (h2 : j ≤ 200) (hn : 600 < n + j) (hn6 : n ≤ 600) : Met l qy_M_fill qw_M_fill ({ frames := 0, cells := 0, slots := 0, locals := 0 }) (va_Pc [.ref o, .int (nI j), .long v, .long step] (tq_rw (dC, dI) [(o, .inr (1, [.int w1, .int (nI n), .int (nI k), .int w4, .ref ca, .ref cb, .long z1, .long z2])), (ca, .inl (cA, (600, .inr (.inl f)))), (cb, .inl (cA, (40, .inr (.inl g))))] [(cA, .long)] sz)) (va_Qi (fun r (_ : Unit) => r = nI 0) (fun _ t => tq_in (dC, dI) [(o, .inr (1, [.int (nI 2), .int (nI n), .int (nI k), .int w4, .ref ca, .ref cb, .long z1, .long z2])), (ca, .inl (cA, (600, .inr (.inl f)))), (cb, .inl (cA, (40, .inr (.inl g))))] [(cA, .long)] (va_A [(o, .inr (1, [.int w1, .int (nI n), .int (nI k), .int w4, .ref ca, .ref cb, .long z1, .long z2])), (ca, .inl (cA, (600, .inr (.inl f)))), (cb, .inl (cA, (40, .inr (.inl g))))] sz) t) (va_A [(o, .inr (1, [.int w1, .int (nI n), .int (nI k), .int w4, .ref ca, .ref cb, .long z1, .long z2])), (ca, .inl (cA, (600, .inr (.inl f)))), (cb, .inl (cA, (40, .inr (.inl g))))] sz)) 0 0 (va_A [(o, .inr (1, [.int w1, .int (nI n), .int (nI k), .int w4, .ref ca, .ref cb, .long z1, .long z2])), (ca, .inl (cA, (600, .inr (.inl f)))), (cb, .inl (cA, (40, .inr (.inl g))))] sz) := by
  refine Met.ofW (cc := qc_M_fill) (maxL := 7) (ret := (some .int)) (by decide) rfl ?_
  intro p e s m args below meth c s₁ B hml hv
  obtain ⟨rfl, hsz, hP, hK, hD0⟩ := hv
  have hx := B.exec
  have hb := B.bytes
  have hr := B.returns
  have hts := atoms_spec (ws := qw_M_fill) B.pre
  have hW : ∀ w ∈ tq_W, w.before ([.ref o, .int (nI j), .long v, .long step] : List Value).toArray s = true := fun w h => hts w (List.mem_cons_of_mem _ h)
  have hown : s.vm.findClass RX1 = some m.cls := findClass_of_methodNamed B.named
  have hlocks := B.notSynchronized
  have hl := lv_entry ([.ref o, .int (nI j), .long v, .long step]) (n := 7) (Nat.le_of_ble_eq_true rfl)
  rw [lg_entry_eq]
  generalize (lg_sl ([.ref o, .int (nI j), .long v, .long step]) ++ List.replicate (7 - (lg_sl ([.ref o, .int (nI j), .long v, .long step])).length) Slot.unset).toArray = ls at hl ⊢
  have hl : lv_has ls 7 [(0, .ref o), (1, .int (nI j)), (2, .long v), (4, .long step)] := hl
  subst hsz
  have hD := hD0.self (sz := s.heap.size)
  generalize hAe : va_A [(o, .inr (1, [.int w1, .int (nI n), .int (nI k), .int w4, .ref ca, .ref cb, .long z1, .long z2])), (ca, .inl (cA, (600, .inr (.inl f)))), (cb, .inl (cA, (40, .inr (.inl g))))] s.heap.size = A at hD ⊢
  have hA : ∀ q : Nat, s.heap.size ≤ q → A q := fun q h => by rw [← hAe]; exact Or.inr h
  have hS : va_S A s.heap s.heap [] := va_S.rf
  refine lv_aload_n hx hb qd_M_fill_0 rfl (lv_at hl 0 rfl) ?_
  refine lv_iload_n hx hb qd_M_fill_1 rfl (lv_at hl 1 rfl) ?_
  refine lv_iconst (v := nI 1) hx hb qd_M_fill_2 (by decide +kernel) ?_
  refine tq_icmp_lt (x := j) (y := 1) (tgt := 13) hx hb qd_M_fill_3 (by decide) (by omega) (by omega) (fun c9 => by omega) (fun c9 => ?_)
  refine lv_iload_n hx hb qd_M_fill_6 rfl (lv_at hl 1 rfl) ?_
  refine lv_sipush (v := nI 200) hx hb qd_M_fill_7 (by decide +kernel) ?_
  refine tq_icmp_le (x := j) (y := 200) (tgt := 17) hx hb qd_M_fill_10 (by decide) (by omega) (by omega) (fun c9 => ?_) (fun c9 => by omega)
  refine lv_aload_n hx hb qd_M_fill_17 rfl (lv_at hl 0 rfl) ?_
  refine va_get (D := (dC, dI)) (ci := 1) (v := .int (nI n)) (C := RX1) (T := TX1) (N := 8) hx hb hW inX1 hown hK hP 0 rfl rfl 1 (by decide) (hW _ qm_282) (fun _ h9 => h9) rfl qd_M_fill_18 ?_
  refine lv_iload_n hx hb qd_M_fill_21 rfl (lv_at hl 1 rfl) ?_
  refine lv_iadd hx hb qd_M_fill_22 ?_
  refine tq_ti (y := nI (n + j)) (nI_add _ _) ?_
  refine lv_sipush (v := nI 600) hx hb qd_M_fill_23 (by decide +kernel) ?_
  refine tq_icmp_le (x := (n + j)) (y := 600) (tgt := 33) hx hb qd_M_fill_26 (by decide) (by omega) (by omega) (fun c9 => by omega) (fun c9 => ?_)
  refine lv_iconst (v := nI 2) hx hb qd_M_fill_29 (by decide +kernel) ?_
  refine lv_goto (tgt := 34) hx hb qd_M_fill_30 (by decide) ?_
  refine va_put (D := (dC, dI)) (ci := 1) (v := .int (nI 2)) (ty := .int) (C := RX1) (T := TX1) (N := 8) hx hb hW inX1 tyX1 tyX1_ok nmX1 hown hK hP hD hS 0 rfl rfl 0 (by decide) (hW _ qm_281) (fun _ h9 => h9) rfl (by decide +kernel) rfl rfl (Nat.le_of_ble_eq_true rfl) qd_M_fill_34 (fun H locs hP hD hS => ?_)
  have hP : va_P (dC, dI) tq_cl [(o, .inr (1, [.int (nI 2), .int (nI n), .int (nI k), .int w4, .ref ca, .ref cb, .long z1, .long z2])), (ca, .inl (cA, (600, .inr (.inl f)))), (cb, .inl (cA, (40, .inr (.inl g))))] H := hP
  have hD : va_D A [(o, .inr (1, [.int (nI 2), .int (nI n), .int (nI k), .int w4, .ref ca, .ref cb, .long z1, .long z2])), (ca, .inl (cA, (600, .inr (.inl f)))), (cb, .inl (cA, (40, .inr (.inl g))))] := hD
  refine lv_aload_n hx hb qd_M_fill_37 rfl (lv_at hl 0 rfl) ?_
  refine va_get (D := (dC, dI)) (ci := 1) (v := .int (nI 2)) (C := RX1) (T := TX1) (N := 8) hx hb hW inX1 hown hK hP 0 rfl rfl 0 (by decide) (hW _ qm_281) (fun _ h9 => h9) rfl qd_M_fill_38 ?_
  refine tq_if_le (x := 2) (tgt := 46) hx hb qd_M_fill_41 (by decide) (by omega) (fun c9 => by omega) (fun c9 => ?_)
  refine lv_iconst (v := nI 0) hx hb qd_M_fill_44 (by decide +kernel) ?_
  exact W.iret hx hb hr (fun t ht hW9 => ⟨⟨_, (), rfl, rfl, by rw [ht]; exact hP, va_K.moved hW9.alike hK, hD⟩, hS.F ht⟩) hS.2.2 qd_M_fill_45
set_option maxHeartbeats 4000000 in
set_option maxRecDepth 100000 in
theorem ct_M_cut (l : Launch) (dC : Nat → ClassId) (dI : Nat → Nat → Nat) (o ca cb : Nat) (cA : ClassId) (w1 : Int32) (n k : Nat) (w4 : Int32) (z1 z2 : Int64) (f g : Nat → Int64) (sz : Nat) (j : Nat) (hj : j ≤ n) (hn : n ≤ 600) : Met l qy_M_cut qw_M_cut ({ frames := 0, cells := 0, slots := 0, locals := 0 }) (va_Pc [.ref o, .int (nI j)] (tq_rw (dC, dI) [(o, .inr (1, [.int w1, .int (nI n), .int (nI k), .int w4, .ref ca, .ref cb, .long z1, .long z2])), (ca, .inl (cA, (600, .inr (.inl f)))), (cb, .inl (cA, (40, .inr (.inl g))))] [(cA, .long)] sz)) (va_Qi (fun r (_ : Unit) => r = nI (n - j)) (fun _ t => tq_in (dC, dI) [(o, .inr (1, [.int (nI 0), .int (nI j), .int (nI k), .int w4, .ref ca, .ref cb, .long z1, .long z2])), (ca, .inl (cA, (600, .inr (.inl f)))), (cb, .inl (cA, (40, .inr (.inl g))))] [(cA, .long)] (va_A [(o, .inr (1, [.int w1, .int (nI n), .int (nI k), .int w4, .ref ca, .ref cb, .long z1, .long z2])), (ca, .inl (cA, (600, .inr (.inl f)))), (cb, .inl (cA, (40, .inr (.inl g))))] sz) t) (va_A [(o, .inr (1, [.int w1, .int (nI n), .int (nI k), .int w4, .ref ca, .ref cb, .long z1, .long z2])), (ca, .inl (cA, (600, .inr (.inl f)))), (cb, .inl (cA, (40, .inr (.inl g))))] sz)) 0 0 (va_A [(o, .inr (1, [.int w1, .int (nI n), .int (nI k), .int w4, .ref ca, .ref cb, .long z1, .long z2])), (ca, .inl (cA, (600, .inr (.inl f)))), (cb, .inl (cA, (40, .inr (.inl g))))] sz) := by
  refine Met.ofW (cc := qc_M_cut) (maxL := 3) (ret := (some .int)) (by decide) rfl ?_
  intro p e s m args below meth c s₁ B hml hv
  obtain ⟨rfl, hsz, hP, hK, hD0⟩ := hv
  have hx := B.exec
  have hb := B.bytes
  have hr := B.returns
  have hts := atoms_spec (ws := qw_M_cut) B.pre
  have hW : ∀ w ∈ tq_W, w.before ([.ref o, .int (nI j)] : List Value).toArray s = true := fun w h => hts w (List.mem_cons_of_mem _ h)
  have hown : s.vm.findClass RX1 = some m.cls := findClass_of_methodNamed B.named
  have hlocks := B.notSynchronized
  have hl := lv_entry ([.ref o, .int (nI j)]) (n := 3) (Nat.le_of_ble_eq_true rfl)
  rw [lg_entry_eq]
  generalize (lg_sl ([.ref o, .int (nI j)]) ++ List.replicate (3 - (lg_sl ([.ref o, .int (nI j)])).length) Slot.unset).toArray = ls at hl ⊢
  have hl : lv_has ls 3 [(0, .ref o), (1, .int (nI j))] := hl
  subst hsz
  have hD := hD0.self (sz := s.heap.size)
  generalize hAe : va_A [(o, .inr (1, [.int w1, .int (nI n), .int (nI k), .int w4, .ref ca, .ref cb, .long z1, .long z2])), (ca, .inl (cA, (600, .inr (.inl f)))), (cb, .inl (cA, (40, .inr (.inl g))))] s.heap.size = A at hD ⊢
  have hA : ∀ q : Nat, s.heap.size ≤ q → A q := fun q h => by rw [← hAe]; exact Or.inr h
  have hS : va_S A s.heap s.heap [] := va_S.rf
  refine lv_aload_n hx hb qd_M_cut_0 rfl (lv_at hl 0 rfl) ?_
  refine lv_iload_n hx hb qd_M_cut_1 rfl (lv_at hl 1 rfl) ?_
  refine tq_if_lt (x := j) (tgt := 13) hx hb qd_M_cut_2 (by decide) (by omega) ?_
  refine lv_iload_n hx hb qd_M_cut_5 rfl (lv_at hl 1 rfl) ?_
  refine lv_aload_n hx hb qd_M_cut_6 rfl (lv_at hl 0 rfl) ?_
  refine va_get (D := (dC, dI)) (ci := 1) (v := .int (nI n)) (C := RX1) (T := TX1) (N := 8) hx hb hW inX1 hown hK hP 0 rfl rfl 1 (by decide) (hW _ qm_282) (fun _ h9 => h9) rfl qd_M_cut_7 ?_
  refine tq_icmp_le (x := j) (y := n) (tgt := 17) hx hb qd_M_cut_10 (by decide) (by omega) (by omega) (fun c9 => ?_) (fun c9 => by omega)
  refine lv_iconst (v := nI 0) hx hb qd_M_cut_17 (by decide +kernel) ?_
  refine va_put (D := (dC, dI)) (ci := 1) (v := .int (nI 0)) (ty := .int) (C := RX1) (T := TX1) (N := 8) hx hb hW inX1 tyX1 tyX1_ok nmX1 hown hK hP hD hS 0 rfl rfl 0 (by decide) (hW _ qm_281) (fun _ h9 => h9) rfl (by decide +kernel) rfl rfl (Nat.le_of_ble_eq_true rfl) qd_M_cut_18 (fun H locs hP hD hS => ?_)
  have hP : va_P (dC, dI) tq_cl [(o, .inr (1, [.int (nI 0), .int (nI n), .int (nI k), .int w4, .ref ca, .ref cb, .long z1, .long z2])), (ca, .inl (cA, (600, .inr (.inl f)))), (cb, .inl (cA, (40, .inr (.inl g))))] H := hP
  have hD : va_D A [(o, .inr (1, [.int (nI 0), .int (nI n), .int (nI k), .int w4, .ref ca, .ref cb, .long z1, .long z2])), (ca, .inl (cA, (600, .inr (.inl f)))), (cb, .inl (cA, (40, .inr (.inl g))))] := hD
  refine lv_aload_n hx hb qd_M_cut_21 rfl (lv_at hl 0 rfl) ?_
  refine va_get (D := (dC, dI)) (ci := 1) (v := .int (nI 0)) (C := RX1) (T := TX1) (N := 8) hx hb hW inX1 hown hK hP 0 rfl rfl 0 (by decide) (hW _ qm_281) (fun _ h9 => h9) rfl qd_M_cut_22 ?_
  refine tq_if_le (x := 0) (tgt := 30) hx hb qd_M_cut_25 (by decide) (by omega) (fun c9 => ?_) (fun c9 => by omega)
  refine lv_aload_n hx hb qd_M_cut_30 rfl (lv_at hl 0 rfl) ?_
  refine va_get (D := (dC, dI)) (ci := 1) (v := .int (nI n)) (C := RX1) (T := TX1) (N := 8) hx hb hW inX1 hown hK hP 0 rfl rfl 1 (by decide) (hW _ qm_282) (fun _ h9 => h9) rfl qd_M_cut_31 ?_
  refine lv_iload_n hx hb qd_M_cut_34 rfl (lv_at hl 1 rfl) ?_
  refine lv_isub hx hb qd_M_cut_35 ?_
  refine tq_ti (y := nI (n - j)) (pk_sub hj) ?_
  refine lv_istore_n (lv' := [(2, .int (nI (n - j))), (0, .ref o), (1, .int (nI j))]) hx hb qd_M_cut_36 rfl hl (by decide) rfl (fun ls hl => ?_)
  refine lv_aload_n hx hb qd_M_cut_37 rfl (lv_at hl 1 rfl) ?_
  refine lv_iload_n hx hb qd_M_cut_38 rfl (lv_at hl 2 rfl) ?_
  refine va_put (D := (dC, dI)) (ci := 1) (v := .int (nI j)) (ty := .int) (C := RX1) (T := TX1) (N := 8) hx hb hW inX1 tyX1 tyX1_ok nmX1 hown hK hP hD hS 0 rfl rfl 1 (by decide) (hW _ qm_282) (fun _ h9 => h9) rfl (by decide +kernel) rfl rfl (Nat.le_of_ble_eq_true rfl) qd_M_cut_39 (fun H locs hP hD hS => ?_)
  have hP : va_P (dC, dI) tq_cl [(o, .inr (1, [.int (nI 0), .int (nI j), .int (nI k), .int w4, .ref ca, .ref cb, .long z1, .long z2])), (ca, .inl (cA, (600, .inr (.inl f)))), (cb, .inl (cA, (40, .inr (.inl g))))] H := hP
  have hD : va_D A [(o, .inr (1, [.int (nI 0), .int (nI j), .int (nI k), .int w4, .ref ca, .ref cb, .long z1, .long z2])), (ca, .inl (cA, (600, .inr (.inl f)))), (cb, .inl (cA, (40, .inr (.inl g))))] := hD
  refine lv_iload_n hx hb qd_M_cut_42 rfl (lv_at hl 0 rfl) ?_
  exact W.iret hx hb hr (fun t ht hW9 => ⟨⟨_, (), rfl, rfl, by rw [ht]; exact hP, va_K.moved hW9.alike hK, hD⟩, hS.F ht⟩) hS.2.2 qd_M_cut_43
set_option maxHeartbeats 4000000 in
set_option maxRecDepth 100000 in
theorem ct_M_cut_no (l : Launch) (dC : Nat → ClassId) (dI : Nat → Nat → Nat) (o ca cb : Nat) (cA : ClassId) (w1 : Int32) (n k : Nat) (w4 : Int32) (z1 z2 : Int64) (f g : Nat → Int64) (sz : Nat) (q : Int32) (hbad : q < 0 ∨ nI n < q) : Met l qy_M_cut qw_M_cut ({ frames := 0, cells := 0, slots := 0, locals := 0 }) (va_Pc [.ref o, .int q] (tq_rw (dC, dI) [(o, .inr (1, [.int w1, .int (nI n), .int (nI k), .int w4, .ref ca, .ref cb, .long z1, .long z2])), (ca, .inl (cA, (600, .inr (.inl f)))), (cb, .inl (cA, (40, .inr (.inl g))))] [(cA, .long)] sz)) (va_Qi (fun r (_ : Unit) => r = nI 0) (fun _ t => tq_in (dC, dI) [(o, .inr (1, [.int (nI 1), .int (nI n), .int (nI k), .int w4, .ref ca, .ref cb, .long z1, .long z2])), (ca, .inl (cA, (600, .inr (.inl f)))), (cb, .inl (cA, (40, .inr (.inl g))))] [(cA, .long)] (va_A [(o, .inr (1, [.int w1, .int (nI n), .int (nI k), .int w4, .ref ca, .ref cb, .long z1, .long z2])), (ca, .inl (cA, (600, .inr (.inl f)))), (cb, .inl (cA, (40, .inr (.inl g))))] sz) t) (va_A [(o, .inr (1, [.int w1, .int (nI n), .int (nI k), .int w4, .ref ca, .ref cb, .long z1, .long z2])), (ca, .inl (cA, (600, .inr (.inl f)))), (cb, .inl (cA, (40, .inr (.inl g))))] sz)) 0 0 (va_A [(o, .inr (1, [.int w1, .int (nI n), .int (nI k), .int w4, .ref ca, .ref cb, .long z1, .long z2])), (ca, .inl (cA, (600, .inr (.inl f)))), (cb, .inl (cA, (40, .inr (.inl g))))] sz) := by
  refine Met.ofW (cc := qc_M_cut) (maxL := 3) (ret := (some .int)) (by decide) rfl ?_
  intro p e s m args below meth c s₁ B hml hv
  obtain ⟨rfl, hsz, hP, hK, hD0⟩ := hv
  have hx := B.exec
  have hb := B.bytes
  have hr := B.returns
  have hts := atoms_spec (ws := qw_M_cut) B.pre
  have hW : ∀ w ∈ tq_W, w.before ([.ref o, .int q] : List Value).toArray s = true := fun w h => hts w (List.mem_cons_of_mem _ h)
  have hown : s.vm.findClass RX1 = some m.cls := findClass_of_methodNamed B.named
  have hlocks := B.notSynchronized
  have hl := lv_entry ([.ref o, .int q]) (n := 3) (Nat.le_of_ble_eq_true rfl)
  rw [lg_entry_eq]
  generalize (lg_sl ([.ref o, .int q]) ++ List.replicate (3 - (lg_sl ([.ref o, .int q])).length) Slot.unset).toArray = ls at hl ⊢
  have hl : lv_has ls 3 [(0, .ref o), (1, .int q)] := hl
  subst hsz
  have hD := hD0.self (sz := s.heap.size)
  generalize hAe : va_A [(o, .inr (1, [.int w1, .int (nI n), .int (nI k), .int w4, .ref ca, .ref cb, .long z1, .long z2])), (ca, .inl (cA, (600, .inr (.inl f)))), (cb, .inl (cA, (40, .inr (.inl g))))] s.heap.size = A at hD ⊢
  have hA : ∀ q : Nat, s.heap.size ≤ q → A q := fun q h => by rw [← hAe]; exact Or.inr h
  have hS : va_S A s.heap s.heap [] := va_S.rf
  refine lv_aload_n hx hb qd_M_cut_0 rfl (lv_at hl 0 rfl) ?_
  refine lv_iload_n hx hb qd_M_cut_1 rfl (lv_at hl 1 rfl) ?_
  refine lv_if_lt (tgt := 13) hx hb qd_M_cut_2 (by decide) (fun c1 => ?_) (fun c1 => ?_)
  · refine lv_iconst (v := nI 1) hx hb qd_M_cut_13 (by decide +kernel) ?_
    refine lv_goto (tgt := 18) hx hb qd_M_cut_14 (by decide) ?_
    refine va_put (D := (dC, dI)) (ci := 1) (v := .int (nI 1)) (ty := .int) (C := RX1) (T := TX1) (N := 8) hx hb hW inX1 tyX1 tyX1_ok nmX1 hown hK hP hD hS 0 rfl rfl 0 (by decide) (hW _ qm_281) (fun _ h9 => h9) rfl (by decide +kernel) rfl rfl (Nat.le_of_ble_eq_true rfl) qd_M_cut_18 (fun H locs hP hD hS => ?_)
    have hP : va_P (dC, dI) tq_cl [(o, .inr (1, [.int (nI 1), .int (nI n), .int (nI k), .int w4, .ref ca, .ref cb, .long z1, .long z2])), (ca, .inl (cA, (600, .inr (.inl f)))), (cb, .inl (cA, (40, .inr (.inl g))))] H := hP
    have hD : va_D A [(o, .inr (1, [.int (nI 1), .int (nI n), .int (nI k), .int w4, .ref ca, .ref cb, .long z1, .long z2])), (ca, .inl (cA, (600, .inr (.inl f)))), (cb, .inl (cA, (40, .inr (.inl g))))] := hD
    refine lv_aload_n hx hb qd_M_cut_21 rfl (lv_at hl 0 rfl) ?_
    refine va_get (D := (dC, dI)) (ci := 1) (v := .int (nI 1)) (C := RX1) (T := TX1) (N := 8) hx hb hW inX1 hown hK hP 0 rfl rfl 0 (by decide) (hW _ qm_281) (fun _ h9 => h9) rfl qd_M_cut_22 ?_
    refine tq_if_le (x := 1) (tgt := 30) hx hb qd_M_cut_25 (by decide) (by omega) (fun c9 => by omega) (fun c9 => ?_)
    refine lv_iconst (v := nI 0) hx hb qd_M_cut_28 (by decide +kernel) ?_
    exact W.iret hx hb hr (fun t ht hW9 => ⟨⟨_, (), rfl, rfl, by rw [ht]; exact hP, va_K.moved hW9.alike hK, hD⟩, hS.F ht⟩) hS.2.2 qd_M_cut_29
  · have h9 : ¬ q ≤ nI n := tq_nle (hbad.elim (fun h => absurd h c1) id)
    refine lv_iload_n hx hb qd_M_cut_5 rfl (lv_at hl 1 rfl) ?_
    refine lv_aload_n hx hb qd_M_cut_6 rfl (lv_at hl 0 rfl) ?_
    refine va_get (D := (dC, dI)) (ci := 1) (v := .int (nI n)) (C := RX1) (T := TX1) (N := 8) hx hb hW inX1 hown hK hP 0 rfl rfl 1 (by decide) (hW _ qm_282) (fun _ h9 => h9) rfl qd_M_cut_7 ?_
    refine lv_icmp_le (tgt := 17) hx hb qd_M_cut_10 (by decide) (fun c9 => absurd c9 (h9)) (fun c2 => ?_)
    refine lv_iconst (v := nI 1) hx hb qd_M_cut_13 (by decide +kernel) ?_
    refine lv_goto (tgt := 18) hx hb qd_M_cut_14 (by decide) ?_
    refine va_put (D := (dC, dI)) (ci := 1) (v := .int (nI 1)) (ty := .int) (C := RX1) (T := TX1) (N := 8) hx hb hW inX1 tyX1 tyX1_ok nmX1 hown hK hP hD hS 0 rfl rfl 0 (by decide) (hW _ qm_281) (fun _ h9 => h9) rfl (by decide +kernel) rfl rfl (Nat.le_of_ble_eq_true rfl) qd_M_cut_18 (fun H locs hP hD hS => ?_)
    have hP : va_P (dC, dI) tq_cl [(o, .inr (1, [.int (nI 1), .int (nI n), .int (nI k), .int w4, .ref ca, .ref cb, .long z1, .long z2])), (ca, .inl (cA, (600, .inr (.inl f)))), (cb, .inl (cA, (40, .inr (.inl g))))] H := hP
    have hD : va_D A [(o, .inr (1, [.int (nI 1), .int (nI n), .int (nI k), .int w4, .ref ca, .ref cb, .long z1, .long z2])), (ca, .inl (cA, (600, .inr (.inl f)))), (cb, .inl (cA, (40, .inr (.inl g))))] := hD
    refine lv_aload_n hx hb qd_M_cut_21 rfl (lv_at hl 0 rfl) ?_
    refine va_get (D := (dC, dI)) (ci := 1) (v := .int (nI 1)) (C := RX1) (T := TX1) (N := 8) hx hb hW inX1 hown hK hP 0 rfl rfl 0 (by decide) (hW _ qm_281) (fun _ h9 => h9) rfl qd_M_cut_22 ?_
    refine tq_if_le (x := 1) (tgt := 30) hx hb qd_M_cut_25 (by decide) (by omega) (fun c9 => by omega) (fun c9 => ?_)
    refine lv_iconst (v := nI 0) hx hb qd_M_cut_28 (by decide +kernel) ?_
    exact W.iret hx hb hr (fun t ht hW9 => ⟨⟨_, (), rfl, rfl, by rw [ht]; exact hP, va_K.moved hW9.alike hK, hD⟩, hS.F ht⟩) hS.2.2 qd_M_cut_29
set_option maxHeartbeats 4000000 in
set_option maxRecDepth 100000 in
theorem ct_M_head (l : Launch) (dC : Nat → ClassId) (dI : Nat → Nat → Nat) (o ca cb : Nat) (cA : ClassId) (w1 : Int32) (n k : Nat) (w4 : Int32) (z1 z2 : Int64) (f g : Nat → Int64) (sz : Nat) (j : Nat) (hj : j ≤ n) (hn : n ≤ 600) : Met l qy_M_head qw_M_head ({ frames := 13, cells := 0, slots := 0, locals := 330 }) (va_Pc [.ref o, .int (nI j)] (tq_rw (dC, dI) [(o, .inr (1, [.int w1, .int (nI n), .int (nI k), .int w4, .ref ca, .ref cb, .long z1, .long z2])), (ca, .inl (cA, (600, .inr (.inl f)))), (cb, .inl (cA, (40, .inr (.inl g))))] [(cA, .long)] sz)) (va_Ql (fun r (_ : Unit) => r = tq_hd (fun j => tq_leaf (f j)) 0 j) (fun _ t => tq_in (dC, dI) [(o, .inr (1, [.int (nI 0), .int (nI n), .int (nI k), .int w4, .ref ca, .ref cb, .long z1, .long z2])), (ca, .inl (cA, (600, .inr (.inl f)))), (cb, .inl (cA, (40, .inr (.inl g))))] [(cA, .long)] (va_A [(o, .inr (1, [.int w1, .int (nI n), .int (nI k), .int w4, .ref ca, .ref cb, .long z1, .long z2])), (ca, .inl (cA, (600, .inr (.inl f)))), (cb, .inl (cA, (40, .inr (.inl g))))] sz) t) (va_A [(o, .inr (1, [.int w1, .int (nI n), .int (nI k), .int w4, .ref ca, .ref cb, .long z1, .long z2])), (ca, .inl (cA, (600, .inr (.inl f)))), (cb, .inl (cA, (40, .inr (.inl g))))] sz)) 0 0 (va_A [(o, .inr (1, [.int w1, .int (nI n), .int (nI k), .int w4, .ref ca, .ref cb, .long z1, .long z2])), (ca, .inl (cA, (600, .inr (.inl f)))), (cb, .inl (cA, (40, .inr (.inl g))))] sz) := by
  refine Met.ofW (cc := qc_M_head) (maxL := 2) (ret := (some .long)) (by decide) rfl ?_
  intro p e s m args below meth c s₁ B hml hv
  obtain ⟨rfl, hsz, hP, hK, hD0⟩ := hv
  have hx := B.exec
  have hb := B.bytes
  have hr := B.returns
  have hts := atoms_spec (ws := qw_M_head) B.pre
  have hW : ∀ w ∈ tq_W, w.before ([.ref o, .int (nI j)] : List Value).toArray s = true := fun w h => hts w (List.mem_cons_of_mem _ h)
  have hown : s.vm.findClass RX1 = some m.cls := findClass_of_methodNamed B.named
  have hlocks := B.notSynchronized
  have hl := lv_entry ([.ref o, .int (nI j)]) (n := 2) (Nat.le_of_ble_eq_true rfl)
  rw [lg_entry_eq]
  generalize (lg_sl ([.ref o, .int (nI j)]) ++ List.replicate (2 - (lg_sl ([.ref o, .int (nI j)])).length) Slot.unset).toArray = ls at hl ⊢
  have hl : lv_has ls 2 [(0, .ref o), (1, .int (nI j))] := hl
  subst hsz
  have hD := hD0.self (sz := s.heap.size)
  generalize hAe : va_A [(o, .inr (1, [.int w1, .int (nI n), .int (nI k), .int w4, .ref ca, .ref cb, .long z1, .long z2])), (ca, .inl (cA, (600, .inr (.inl f)))), (cb, .inl (cA, (40, .inr (.inl g))))] s.heap.size = A at hD ⊢
  have hA : ∀ q : Nat, s.heap.size ≤ q → A q := fun q h => by rw [← hAe]; exact Or.inr h
  have hS : va_S A s.heap s.heap [] := va_S.rf
  refine lv_aload_n hx hb qd_M_head_0 rfl (lv_at hl 0 rfl) ?_
  refine lv_iload_n hx hb qd_M_head_1 rfl (lv_at hl 1 rfl) ?_
  refine tq_if_lt (x := j) (tgt := 13) hx hb qd_M_head_2 (by decide) (by omega) ?_
  refine lv_iload_n hx hb qd_M_head_5 rfl (lv_at hl 1 rfl) ?_
  refine lv_aload_n hx hb qd_M_head_6 rfl (lv_at hl 0 rfl) ?_
  refine va_get (D := (dC, dI)) (ci := 1) (v := .int (nI n)) (C := RX1) (T := TX1) (N := 8) hx hb hW inX1 hown hK hP 0 rfl rfl 1 (by decide) (hW _ qm_282) (fun _ h9 => h9) rfl qd_M_head_7 ?_
  refine tq_icmp_le (x := j) (y := n) (tgt := 17) hx hb qd_M_head_10 (by decide) (by omega) (by omega) (fun c9 => ?_) (fun c9 => by omega)
  refine lv_iconst (v := nI 0) hx hb qd_M_head_17 (by decide +kernel) ?_
  refine va_put (D := (dC, dI)) (ci := 1) (v := .int (nI 0)) (ty := .int) (C := RX1) (T := TX1) (N := 8) hx hb hW inX1 tyX1 tyX1_ok nmX1 hown hK hP hD hS 0 rfl rfl 0 (by decide) (hW _ qm_281) (fun _ h9 => h9) rfl (by decide +kernel) rfl rfl (Nat.le_of_ble_eq_true rfl) qd_M_head_18 (fun H locs hP hD hS => ?_)
  have hP : va_P (dC, dI) tq_cl [(o, .inr (1, [.int (nI 0), .int (nI n), .int (nI k), .int w4, .ref ca, .ref cb, .long z1, .long z2])), (ca, .inl (cA, (600, .inr (.inl f)))), (cb, .inl (cA, (40, .inr (.inl g))))] H := hP
  have hD : va_D A [(o, .inr (1, [.int (nI 0), .int (nI n), .int (nI k), .int w4, .ref ca, .ref cb, .long z1, .long z2])), (ca, .inl (cA, (600, .inr (.inl f)))), (cb, .inl (cA, (40, .inr (.inl g))))] := hD
  refine lv_aload_n hx hb qd_M_head_21 rfl (lv_at hl 0 rfl) ?_
  refine va_get (D := (dC, dI)) (ci := 1) (v := .int (nI 0)) (C := RX1) (T := TX1) (N := 8) hx hb hW inX1 hown hK hP 0 rfl rfl 0 (by decide) (hW _ qm_281) (fun _ h9 => h9) rfl qd_M_head_22 ?_
  refine tq_if_le (x := 0) (tgt := 32) hx hb qd_M_head_25 (by decide) (by omega) (fun c9 => ?_) (fun c9 => by omega)
  refine lv_aload_n hx hb qd_M_head_32 rfl (lv_at hl 0 rfl) ?_
  refine lv_iconst (v := nI 0) hx hb qd_M_head_33 (by decide +kernel) ?_
  refine lv_iload_n hx hb qd_M_head_34 rfl (lv_at hl 1 rfl) ?_
  refine vp_callSl (W.runV (As := [.int (nI 0), .int (nI j)]) (rest := []) ⟨hx, hb, hml, hown, hW⟩ (ct_M_headOf l dC dI o ca cb cA (nI 0) (nI n) (nI k) w4 z1 z2 f 10 0 j (by omega) (by omega)) (cwV 2 hW (tq_gV qm_326 qm_328 qs_M_headOf qm_2 qm_329) rfl rfl rfl (by decide +kernel) ⟨Nat.le_of_ble_eq_true rfl, Nat.le_of_ble_eq_true rfl⟩) ⟨tq_b1, va_recv hK hP (ci := 1) (q0 := 0) rfl rfl, fun U hU hW9 => ⟨rfl, by rw [hU]; exact hP.sub [0, 1] rfl, va_K.moved hW9.alike (hK.sub [0] rfl)⟩⟩ rfl rfl hl.1 rfl (lv_room (Nat.le_of_ble_eq_true rfl)) qd_M_head_35 ⟨Nat.le_of_ble_eq_true rfl, Nat.le_of_ble_eq_true rfl⟩) (fun r9 e9 => ?_)
  subst e9
  exact W.lret hx hb hr (fun t ht hW9 => ⟨⟨_, (), rfl, rfl, by rw [ht]; exact hP, va_K.moved hW9.alike hK, hD⟩, hS.F ht⟩) hS.2.2 qd_M_head_38
set_option maxHeartbeats 4000000 in
set_option maxRecDepth 100000 in
theorem ct_M_head_no (l : Launch) (dC : Nat → ClassId) (dI : Nat → Nat → Nat) (o ca cb : Nat) (cA : ClassId) (w1 : Int32) (n k : Nat) (w4 : Int32) (z1 z2 : Int64) (f g : Nat → Int64) (sz : Nat) (q : Int32) (hbad : q < 0 ∨ nI n < q) : Met l qy_M_head qw_M_head ({ frames := 0, cells := 0, slots := 0, locals := 0 }) (va_Pc [.ref o, .int q] (tq_rw (dC, dI) [(o, .inr (1, [.int w1, .int (nI n), .int (nI k), .int w4, .ref ca, .ref cb, .long z1, .long z2])), (ca, .inl (cA, (600, .inr (.inl f)))), (cb, .inl (cA, (40, .inr (.inl g))))] [(cA, .long)] sz)) (va_Ql (fun r (_ : Unit) => r = 0) (fun _ t => tq_in (dC, dI) [(o, .inr (1, [.int (nI 1), .int (nI n), .int (nI k), .int w4, .ref ca, .ref cb, .long z1, .long z2])), (ca, .inl (cA, (600, .inr (.inl f)))), (cb, .inl (cA, (40, .inr (.inl g))))] [(cA, .long)] (va_A [(o, .inr (1, [.int w1, .int (nI n), .int (nI k), .int w4, .ref ca, .ref cb, .long z1, .long z2])), (ca, .inl (cA, (600, .inr (.inl f)))), (cb, .inl (cA, (40, .inr (.inl g))))] sz) t) (va_A [(o, .inr (1, [.int w1, .int (nI n), .int (nI k), .int w4, .ref ca, .ref cb, .long z1, .long z2])), (ca, .inl (cA, (600, .inr (.inl f)))), (cb, .inl (cA, (40, .inr (.inl g))))] sz)) 0 0 (va_A [(o, .inr (1, [.int w1, .int (nI n), .int (nI k), .int w4, .ref ca, .ref cb, .long z1, .long z2])), (ca, .inl (cA, (600, .inr (.inl f)))), (cb, .inl (cA, (40, .inr (.inl g))))] sz) := by
  refine Met.ofW (cc := qc_M_head) (maxL := 2) (ret := (some .long)) (by decide) rfl ?_
  intro p e s m args below meth c s₁ B hml hv
  obtain ⟨rfl, hsz, hP, hK, hD0⟩ := hv
  have hx := B.exec
  have hb := B.bytes
  have hr := B.returns
  have hts := atoms_spec (ws := qw_M_head) B.pre
  have hW : ∀ w ∈ tq_W, w.before ([.ref o, .int q] : List Value).toArray s = true := fun w h => hts w (List.mem_cons_of_mem _ h)
  have hown : s.vm.findClass RX1 = some m.cls := findClass_of_methodNamed B.named
  have hlocks := B.notSynchronized
  have hl := lv_entry ([.ref o, .int q]) (n := 2) (Nat.le_of_ble_eq_true rfl)
  rw [lg_entry_eq]
  generalize (lg_sl ([.ref o, .int q]) ++ List.replicate (2 - (lg_sl ([.ref o, .int q])).length) Slot.unset).toArray = ls at hl ⊢
  have hl : lv_has ls 2 [(0, .ref o), (1, .int q)] := hl
  subst hsz
  have hD := hD0.self (sz := s.heap.size)
  generalize hAe : va_A [(o, .inr (1, [.int w1, .int (nI n), .int (nI k), .int w4, .ref ca, .ref cb, .long z1, .long z2])), (ca, .inl (cA, (600, .inr (.inl f)))), (cb, .inl (cA, (40, .inr (.inl g))))] s.heap.size = A at hD ⊢
  have hA : ∀ q : Nat, s.heap.size ≤ q → A q := fun q h => by rw [← hAe]; exact Or.inr h
  have hS : va_S A s.heap s.heap [] := va_S.rf
  refine lv_aload_n hx hb qd_M_head_0 rfl (lv_at hl 0 rfl) ?_
  refine lv_iload_n hx hb qd_M_head_1 rfl (lv_at hl 1 rfl) ?_
  refine lv_if_lt (tgt := 13) hx hb qd_M_head_2 (by decide) (fun c1 => ?_) (fun c1 => ?_)
  · refine lv_iconst (v := nI 1) hx hb qd_M_head_13 (by decide +kernel) ?_
    refine lv_goto (tgt := 18) hx hb qd_M_head_14 (by decide) ?_
    refine va_put (D := (dC, dI)) (ci := 1) (v := .int (nI 1)) (ty := .int) (C := RX1) (T := TX1) (N := 8) hx hb hW inX1 tyX1 tyX1_ok nmX1 hown hK hP hD hS 0 rfl rfl 0 (by decide) (hW _ qm_281) (fun _ h9 => h9) rfl (by decide +kernel) rfl rfl (Nat.le_of_ble_eq_true rfl) qd_M_head_18 (fun H locs hP hD hS => ?_)
    have hP : va_P (dC, dI) tq_cl [(o, .inr (1, [.int (nI 1), .int (nI n), .int (nI k), .int w4, .ref ca, .ref cb, .long z1, .long z2])), (ca, .inl (cA, (600, .inr (.inl f)))), (cb, .inl (cA, (40, .inr (.inl g))))] H := hP
    have hD : va_D A [(o, .inr (1, [.int (nI 1), .int (nI n), .int (nI k), .int w4, .ref ca, .ref cb, .long z1, .long z2])), (ca, .inl (cA, (600, .inr (.inl f)))), (cb, .inl (cA, (40, .inr (.inl g))))] := hD
    refine lv_aload_n hx hb qd_M_head_21 rfl (lv_at hl 0 rfl) ?_
    refine va_get (D := (dC, dI)) (ci := 1) (v := .int (nI 1)) (C := RX1) (T := TX1) (N := 8) hx hb hW inX1 hown hK hP 0 rfl rfl 0 (by decide) (hW _ qm_281) (fun _ h9 => h9) rfl qd_M_head_22 ?_
    refine tq_if_le (x := 1) (tgt := 32) hx hb qd_M_head_25 (by decide) (by omega) (fun c9 => by omega) (fun c9 => ?_)
    refine lv_lconst (v := 0) hx hb qd_M_head_28 (by decide) ?_
    refine lv_goto (tgt := 38) hx hb qd_M_head_29 (by decide) ?_
    exact W.lret hx hb hr (fun t ht hW9 => ⟨⟨_, (), rfl, rfl, by rw [ht]; exact hP, va_K.moved hW9.alike hK, hD⟩, hS.F ht⟩) hS.2.2 qd_M_head_38
  · have h9 : ¬ q ≤ nI n := tq_nle (hbad.elim (fun h => absurd h c1) id)
    refine lv_iload_n hx hb qd_M_head_5 rfl (lv_at hl 1 rfl) ?_
    refine lv_aload_n hx hb qd_M_head_6 rfl (lv_at hl 0 rfl) ?_
    refine va_get (D := (dC, dI)) (ci := 1) (v := .int (nI n)) (C := RX1) (T := TX1) (N := 8) hx hb hW inX1 hown hK hP 0 rfl rfl 1 (by decide) (hW _ qm_282) (fun _ h9 => h9) rfl qd_M_head_7 ?_
    refine lv_icmp_le (tgt := 17) hx hb qd_M_head_10 (by decide) (fun c9 => absurd c9 (h9)) (fun c2 => ?_)
    refine lv_iconst (v := nI 1) hx hb qd_M_head_13 (by decide +kernel) ?_
    refine lv_goto (tgt := 18) hx hb qd_M_head_14 (by decide) ?_
    refine va_put (D := (dC, dI)) (ci := 1) (v := .int (nI 1)) (ty := .int) (C := RX1) (T := TX1) (N := 8) hx hb hW inX1 tyX1 tyX1_ok nmX1 hown hK hP hD hS 0 rfl rfl 0 (by decide) (hW _ qm_281) (fun _ h9 => h9) rfl (by decide +kernel) rfl rfl (Nat.le_of_ble_eq_true rfl) qd_M_head_18 (fun H locs hP hD hS => ?_)
    have hP : va_P (dC, dI) tq_cl [(o, .inr (1, [.int (nI 1), .int (nI n), .int (nI k), .int w4, .ref ca, .ref cb, .long z1, .long z2])), (ca, .inl (cA, (600, .inr (.inl f)))), (cb, .inl (cA, (40, .inr (.inl g))))] H := hP
    have hD : va_D A [(o, .inr (1, [.int (nI 1), .int (nI n), .int (nI k), .int w4, .ref ca, .ref cb, .long z1, .long z2])), (ca, .inl (cA, (600, .inr (.inl f)))), (cb, .inl (cA, (40, .inr (.inl g))))] := hD
    refine lv_aload_n hx hb qd_M_head_21 rfl (lv_at hl 0 rfl) ?_
    refine va_get (D := (dC, dI)) (ci := 1) (v := .int (nI 1)) (C := RX1) (T := TX1) (N := 8) hx hb hW inX1 hown hK hP 0 rfl rfl 0 (by decide) (hW _ qm_281) (fun _ h9 => h9) rfl qd_M_head_22 ?_
    refine tq_if_le (x := 1) (tgt := 32) hx hb qd_M_head_25 (by decide) (by omega) (fun c9 => by omega) (fun c9 => ?_)
    refine lv_lconst (v := 0) hx hb qd_M_head_28 (by decide) ?_
    refine lv_goto (tgt := 38) hx hb qd_M_head_29 (by decide) ?_
    exact W.lret hx hb hr (fun t ht hW9 => ⟨⟨_, (), rfl, rfl, by rw [ht]; exact hP, va_K.moved hW9.alike hK, hD⟩, hS.F ht⟩) hS.2.2 qd_M_head_38
set_option maxHeartbeats 4000000 in
set_option maxRecDepth 100000 in
theorem ct_M_part (l : Launch) (dC : Nat → ClassId) (dI : Nat → Nat → Nat) (o ca cb : Nat) (cA : ClassId) (w1 : Int32) (n k : Nat) (w4 : Int32) (z1 z2 : Int64) (f g : Nat → Int64) (sz : Nat) (i j : Nat) (hi : i ≤ j) (hj : j ≤ n) (hn : n ≤ 600) : Met l qy_M_part qw_M_part ({ frames := 13, cells := 0, slots := 0, locals := 330 }) (va_Pc [.ref o, .int (nI i), .int (nI j)] (tq_rw (dC, dI) [(o, .inr (1, [.int w1, .int (nI n), .int (nI k), .int w4, .ref ca, .ref cb, .long z1, .long z2])), (ca, .inl (cA, (600, .inr (.inl f)))), (cb, .inl (cA, (40, .inr (.inl g))))] [(cA, .long)] sz)) (va_Ql (fun r (_ : Unit) => r = tq_hd (fun j => tq_leaf (f j)) i (j - i)) (fun _ t => tq_in (dC, dI) [(o, .inr (1, [.int (nI 0), .int (nI n), .int (nI k), .int w4, .ref ca, .ref cb, .long z1, .long z2])), (ca, .inl (cA, (600, .inr (.inl f)))), (cb, .inl (cA, (40, .inr (.inl g))))] [(cA, .long)] (va_A [(o, .inr (1, [.int w1, .int (nI n), .int (nI k), .int w4, .ref ca, .ref cb, .long z1, .long z2])), (ca, .inl (cA, (600, .inr (.inl f)))), (cb, .inl (cA, (40, .inr (.inl g))))] sz) t) (va_A [(o, .inr (1, [.int w1, .int (nI n), .int (nI k), .int w4, .ref ca, .ref cb, .long z1, .long z2])), (ca, .inl (cA, (600, .inr (.inl f)))), (cb, .inl (cA, (40, .inr (.inl g))))] sz)) 0 0 (va_A [(o, .inr (1, [.int w1, .int (nI n), .int (nI k), .int w4, .ref ca, .ref cb, .long z1, .long z2])), (ca, .inl (cA, (600, .inr (.inl f)))), (cb, .inl (cA, (40, .inr (.inl g))))] sz) := by
  refine Met.ofW (cc := qc_M_part) (maxL := 3) (ret := (some .long)) (by decide) rfl ?_
  intro p e s m args below meth c s₁ B hml hv
  obtain ⟨rfl, hsz, hP, hK, hD0⟩ := hv
  have hx := B.exec
  have hb := B.bytes
  have hr := B.returns
  have hts := atoms_spec (ws := qw_M_part) B.pre
  have hW : ∀ w ∈ tq_W, w.before ([.ref o, .int (nI i), .int (nI j)] : List Value).toArray s = true := fun w h => hts w (List.mem_cons_of_mem _ h)
  have hown : s.vm.findClass RX1 = some m.cls := findClass_of_methodNamed B.named
  have hlocks := B.notSynchronized
  have hl := lv_entry ([.ref o, .int (nI i), .int (nI j)]) (n := 3) (Nat.le_of_ble_eq_true rfl)
  rw [lg_entry_eq]
  generalize (lg_sl ([.ref o, .int (nI i), .int (nI j)]) ++ List.replicate (3 - (lg_sl ([.ref o, .int (nI i), .int (nI j)])).length) Slot.unset).toArray = ls at hl ⊢
  have hl : lv_has ls 3 [(0, .ref o), (1, .int (nI i)), (2, .int (nI j))] := hl
  subst hsz
  have hD := hD0.self (sz := s.heap.size)
  generalize hAe : va_A [(o, .inr (1, [.int w1, .int (nI n), .int (nI k), .int w4, .ref ca, .ref cb, .long z1, .long z2])), (ca, .inl (cA, (600, .inr (.inl f)))), (cb, .inl (cA, (40, .inr (.inl g))))] s.heap.size = A at hD ⊢
  have hA : ∀ q : Nat, s.heap.size ≤ q → A q := fun q h => by rw [← hAe]; exact Or.inr h
  have hS : va_S A s.heap s.heap [] := va_S.rf
  refine lv_aload_n hx hb qd_M_part_0 rfl (lv_at hl 0 rfl) ?_
  refine lv_iload_n hx hb qd_M_part_1 rfl (lv_at hl 1 rfl) ?_
  refine tq_if_lt (x := i) (tgt := 18) hx hb qd_M_part_2 (by decide) (by omega) ?_
  refine lv_iload_n hx hb qd_M_part_5 rfl (lv_at hl 1 rfl) ?_
  refine lv_iload_n hx hb qd_M_part_6 rfl (lv_at hl 2 rfl) ?_
  refine tq_icmp_gt (x := i) (y := j) (tgt := 18) hx hb qd_M_part_7 (by decide) (by omega) (by omega) (fun c9 => by omega) (fun c9 => ?_)
  refine lv_iload_n hx hb qd_M_part_10 rfl (lv_at hl 2 rfl) ?_
  refine lv_aload_n hx hb qd_M_part_11 rfl (lv_at hl 0 rfl) ?_
  refine va_get (D := (dC, dI)) (ci := 1) (v := .int (nI n)) (C := RX1) (T := TX1) (N := 8) hx hb hW inX1 hown hK hP 0 rfl rfl 1 (by decide) (hW _ qm_282) (fun _ h9 => h9) rfl qd_M_part_12 ?_
  refine tq_icmp_le (x := j) (y := n) (tgt := 22) hx hb qd_M_part_15 (by decide) (by omega) (by omega) (fun c9 => ?_) (fun c9 => by omega)
  refine lv_iconst (v := nI 0) hx hb qd_M_part_22 (by decide +kernel) ?_
  refine va_put (D := (dC, dI)) (ci := 1) (v := .int (nI 0)) (ty := .int) (C := RX1) (T := TX1) (N := 8) hx hb hW inX1 tyX1 tyX1_ok nmX1 hown hK hP hD hS 0 rfl rfl 0 (by decide) (hW _ qm_281) (fun _ h9 => h9) rfl (by decide +kernel) rfl rfl (Nat.le_of_ble_eq_true rfl) qd_M_part_23 (fun H locs hP hD hS => ?_)
  have hP : va_P (dC, dI) tq_cl [(o, .inr (1, [.int (nI 0), .int (nI n), .int (nI k), .int w4, .ref ca, .ref cb, .long z1, .long z2])), (ca, .inl (cA, (600, .inr (.inl f)))), (cb, .inl (cA, (40, .inr (.inl g))))] H := hP
  have hD : va_D A [(o, .inr (1, [.int (nI 0), .int (nI n), .int (nI k), .int w4, .ref ca, .ref cb, .long z1, .long z2])), (ca, .inl (cA, (600, .inr (.inl f)))), (cb, .inl (cA, (40, .inr (.inl g))))] := hD
  refine lv_aload_n hx hb qd_M_part_26 rfl (lv_at hl 0 rfl) ?_
  refine va_get (D := (dC, dI)) (ci := 1) (v := .int (nI 0)) (C := RX1) (T := TX1) (N := 8) hx hb hW inX1 hown hK hP 0 rfl rfl 0 (by decide) (hW _ qm_281) (fun _ h9 => h9) rfl qd_M_part_27 ?_
  refine tq_if_le (x := 0) (tgt := 37) hx hb qd_M_part_30 (by decide) (by omega) (fun c9 => ?_) (fun c9 => by omega)
  refine lv_aload_n hx hb qd_M_part_37 rfl (lv_at hl 0 rfl) ?_
  refine lv_iload_n hx hb qd_M_part_38 rfl (lv_at hl 1 rfl) ?_
  refine lv_iload_n hx hb qd_M_part_39 rfl (lv_at hl 2 rfl) ?_
  refine lv_iload_n hx hb qd_M_part_40 rfl (lv_at hl 1 rfl) ?_
  refine lv_isub hx hb qd_M_part_41 ?_
  refine tq_ti (y := nI (j - i)) (pk_sub hi) ?_
  refine vp_callSl (W.runV (As := [.int (nI i), .int (nI (j - i))]) (rest := []) ⟨hx, hb, hml, hown, hW⟩ (ct_M_headOf l dC dI o ca cb cA (nI 0) (nI n) (nI k) w4 z1 z2 f 10 i ((j - i)) (by omega) (by omega)) (cwV 2 hW (tq_gV qm_326 qm_328 qs_M_headOf qm_2 qm_329) rfl rfl rfl (by decide +kernel) ⟨Nat.le_of_ble_eq_true rfl, Nat.le_of_ble_eq_true rfl⟩) ⟨tq_b1, va_recv hK hP (ci := 1) (q0 := 0) rfl rfl, fun U hU hW9 => ⟨rfl, by rw [hU]; exact hP.sub [0, 1] rfl, va_K.moved hW9.alike (hK.sub [0] rfl)⟩⟩ rfl rfl hl.1 rfl (lv_room (Nat.le_of_ble_eq_true rfl)) qd_M_part_42 ⟨Nat.le_of_ble_eq_true rfl, Nat.le_of_ble_eq_true rfl⟩) (fun r9 e9 => ?_)
  subst e9
  exact W.lret hx hb hr (fun t ht hW9 => ⟨⟨_, (), rfl, rfl, by rw [ht]; exact hP, va_K.moved hW9.alike hK, hD⟩, hS.F ht⟩) hS.2.2 qd_M_part_45
set_option maxHeartbeats 4000000 in
set_option maxRecDepth 100000 in
theorem ct_M_part_no (l : Launch) (dC : Nat → ClassId) (dI : Nat → Nat → Nat) (o ca cb : Nat) (cA : ClassId) (w1 : Int32) (n k : Nat) (w4 : Int32) (z1 z2 : Int64) (f g : Nat → Int64) (sz : Nat) (pm pn : Int32) (hbad : pm < 0 ∨ pn < pm ∨ nI n < pn) : Met l qy_M_part qw_M_part ({ frames := 0, cells := 0, slots := 0, locals := 0 }) (va_Pc [.ref o, .int pm, .int pn] (tq_rw (dC, dI) [(o, .inr (1, [.int w1, .int (nI n), .int (nI k), .int w4, .ref ca, .ref cb, .long z1, .long z2])), (ca, .inl (cA, (600, .inr (.inl f)))), (cb, .inl (cA, (40, .inr (.inl g))))] [(cA, .long)] sz)) (va_Ql (fun r (_ : Unit) => r = 0) (fun _ t => tq_in (dC, dI) [(o, .inr (1, [.int (nI 1), .int (nI n), .int (nI k), .int w4, .ref ca, .ref cb, .long z1, .long z2])), (ca, .inl (cA, (600, .inr (.inl f)))), (cb, .inl (cA, (40, .inr (.inl g))))] [(cA, .long)] (va_A [(o, .inr (1, [.int w1, .int (nI n), .int (nI k), .int w4, .ref ca, .ref cb, .long z1, .long z2])), (ca, .inl (cA, (600, .inr (.inl f)))), (cb, .inl (cA, (40, .inr (.inl g))))] sz) t) (va_A [(o, .inr (1, [.int w1, .int (nI n), .int (nI k), .int w4, .ref ca, .ref cb, .long z1, .long z2])), (ca, .inl (cA, (600, .inr (.inl f)))), (cb, .inl (cA, (40, .inr (.inl g))))] sz)) 0 0 (va_A [(o, .inr (1, [.int w1, .int (nI n), .int (nI k), .int w4, .ref ca, .ref cb, .long z1, .long z2])), (ca, .inl (cA, (600, .inr (.inl f)))), (cb, .inl (cA, (40, .inr (.inl g))))] sz) := by
  refine Met.ofW (cc := qc_M_part) (maxL := 3) (ret := (some .long)) (by decide) rfl ?_
  intro p e s m args below meth c s₁ B hml hv
  obtain ⟨rfl, hsz, hP, hK, hD0⟩ := hv
  have hx := B.exec
  have hb := B.bytes
  have hr := B.returns
  have hts := atoms_spec (ws := qw_M_part) B.pre
  have hW : ∀ w ∈ tq_W, w.before ([.ref o, .int pm, .int pn] : List Value).toArray s = true := fun w h => hts w (List.mem_cons_of_mem _ h)
  have hown : s.vm.findClass RX1 = some m.cls := findClass_of_methodNamed B.named
  have hlocks := B.notSynchronized
  have hl := lv_entry ([.ref o, .int pm, .int pn]) (n := 3) (Nat.le_of_ble_eq_true rfl)
  rw [lg_entry_eq]
  generalize (lg_sl ([.ref o, .int pm, .int pn]) ++ List.replicate (3 - (lg_sl ([.ref o, .int pm, .int pn])).length) Slot.unset).toArray = ls at hl ⊢
  have hl : lv_has ls 3 [(0, .ref o), (1, .int pm), (2, .int pn)] := hl
  subst hsz
  have hD := hD0.self (sz := s.heap.size)
  generalize hAe : va_A [(o, .inr (1, [.int w1, .int (nI n), .int (nI k), .int w4, .ref ca, .ref cb, .long z1, .long z2])), (ca, .inl (cA, (600, .inr (.inl f)))), (cb, .inl (cA, (40, .inr (.inl g))))] s.heap.size = A at hD ⊢
  have hA : ∀ q : Nat, s.heap.size ≤ q → A q := fun q h => by rw [← hAe]; exact Or.inr h
  have hS : va_S A s.heap s.heap [] := va_S.rf
  refine lv_aload_n hx hb qd_M_part_0 rfl (lv_at hl 0 rfl) ?_
  refine lv_iload_n hx hb qd_M_part_1 rfl (lv_at hl 1 rfl) ?_
  refine lv_if_lt (tgt := 18) hx hb qd_M_part_2 (by decide) (fun c1 => ?_) (fun c1 => ?_)
  · refine lv_iconst (v := nI 1) hx hb qd_M_part_18 (by decide +kernel) ?_
    refine lv_goto (tgt := 23) hx hb qd_M_part_19 (by decide) ?_
    refine va_put (D := (dC, dI)) (ci := 1) (v := .int (nI 1)) (ty := .int) (C := RX1) (T := TX1) (N := 8) hx hb hW inX1 tyX1 tyX1_ok nmX1 hown hK hP hD hS 0 rfl rfl 0 (by decide) (hW _ qm_281) (fun _ h9 => h9) rfl (by decide +kernel) rfl rfl (Nat.le_of_ble_eq_true rfl) qd_M_part_23 (fun H locs hP hD hS => ?_)
    have hP : va_P (dC, dI) tq_cl [(o, .inr (1, [.int (nI 1), .int (nI n), .int (nI k), .int w4, .ref ca, .ref cb, .long z1, .long z2])), (ca, .inl (cA, (600, .inr (.inl f)))), (cb, .inl (cA, (40, .inr (.inl g))))] H := hP
    have hD : va_D A [(o, .inr (1, [.int (nI 1), .int (nI n), .int (nI k), .int w4, .ref ca, .ref cb, .long z1, .long z2])), (ca, .inl (cA, (600, .inr (.inl f)))), (cb, .inl (cA, (40, .inr (.inl g))))] := hD
    refine lv_aload_n hx hb qd_M_part_26 rfl (lv_at hl 0 rfl) ?_
    refine va_get (D := (dC, dI)) (ci := 1) (v := .int (nI 1)) (C := RX1) (T := TX1) (N := 8) hx hb hW inX1 hown hK hP 0 rfl rfl 0 (by decide) (hW _ qm_281) (fun _ h9 => h9) rfl qd_M_part_27 ?_
    refine tq_if_le (x := 1) (tgt := 37) hx hb qd_M_part_30 (by decide) (by omega) (fun c9 => by omega) (fun c9 => ?_)
    refine lv_lconst (v := 0) hx hb qd_M_part_33 (by decide) ?_
    refine lv_goto (tgt := 45) hx hb qd_M_part_34 (by decide) ?_
    exact W.lret hx hb hr (fun t ht hW9 => ⟨⟨_, (), rfl, rfl, by rw [ht]; exact hP, va_K.moved hW9.alike hK, hD⟩, hS.F ht⟩) hS.2.2 qd_M_part_45
  · refine lv_iload_n hx hb qd_M_part_5 rfl (lv_at hl 1 rfl) ?_
    refine lv_iload_n hx hb qd_M_part_6 rfl (lv_at hl 2 rfl) ?_
    refine lv_icmp_gt (tgt := 18) hx hb qd_M_part_7 (by decide) (fun c2 => ?_) (fun c2 => ?_)
    · refine lv_iconst (v := nI 1) hx hb qd_M_part_18 (by decide +kernel) ?_
      refine lv_goto (tgt := 23) hx hb qd_M_part_19 (by decide) ?_
      refine va_put (D := (dC, dI)) (ci := 1) (v := .int (nI 1)) (ty := .int) (C := RX1) (T := TX1) (N := 8) hx hb hW inX1 tyX1 tyX1_ok nmX1 hown hK hP hD hS 0 rfl rfl 0 (by decide) (hW _ qm_281) (fun _ h9 => h9) rfl (by decide +kernel) rfl rfl (Nat.le_of_ble_eq_true rfl) qd_M_part_23 (fun H locs hP hD hS => ?_)
      have hP : va_P (dC, dI) tq_cl [(o, .inr (1, [.int (nI 1), .int (nI n), .int (nI k), .int w4, .ref ca, .ref cb, .long z1, .long z2])), (ca, .inl (cA, (600, .inr (.inl f)))), (cb, .inl (cA, (40, .inr (.inl g))))] H := hP
      have hD : va_D A [(o, .inr (1, [.int (nI 1), .int (nI n), .int (nI k), .int w4, .ref ca, .ref cb, .long z1, .long z2])), (ca, .inl (cA, (600, .inr (.inl f)))), (cb, .inl (cA, (40, .inr (.inl g))))] := hD
      refine lv_aload_n hx hb qd_M_part_26 rfl (lv_at hl 0 rfl) ?_
      refine va_get (D := (dC, dI)) (ci := 1) (v := .int (nI 1)) (C := RX1) (T := TX1) (N := 8) hx hb hW inX1 hown hK hP 0 rfl rfl 0 (by decide) (hW _ qm_281) (fun _ h9 => h9) rfl qd_M_part_27 ?_
      refine tq_if_le (x := 1) (tgt := 37) hx hb qd_M_part_30 (by decide) (by omega) (fun c9 => by omega) (fun c9 => ?_)
      refine lv_lconst (v := 0) hx hb qd_M_part_33 (by decide) ?_
      refine lv_goto (tgt := 45) hx hb qd_M_part_34 (by decide) ?_
      exact W.lret hx hb hr (fun t ht hW9 => ⟨⟨_, (), rfl, rfl, by rw [ht]; exact hP, va_K.moved hW9.alike hK, hD⟩, hS.F ht⟩) hS.2.2 qd_M_part_45
    · have h9 : ¬ pn ≤ nI n := tq_nle (hbad.elim (fun h => absurd h c1) (fun h => h.elim (fun h => absurd h c2) id))
      refine lv_iload_n hx hb qd_M_part_10 rfl (lv_at hl 2 rfl) ?_
      refine lv_aload_n hx hb qd_M_part_11 rfl (lv_at hl 0 rfl) ?_
      refine va_get (D := (dC, dI)) (ci := 1) (v := .int (nI n)) (C := RX1) (T := TX1) (N := 8) hx hb hW inX1 hown hK hP 0 rfl rfl 1 (by decide) (hW _ qm_282) (fun _ h9 => h9) rfl qd_M_part_12 ?_
      refine lv_icmp_le (tgt := 22) hx hb qd_M_part_15 (by decide) (fun c9 => absurd c9 (h9)) (fun c3 => ?_)
      refine lv_iconst (v := nI 1) hx hb qd_M_part_18 (by decide +kernel) ?_
      refine lv_goto (tgt := 23) hx hb qd_M_part_19 (by decide) ?_
      refine va_put (D := (dC, dI)) (ci := 1) (v := .int (nI 1)) (ty := .int) (C := RX1) (T := TX1) (N := 8) hx hb hW inX1 tyX1 tyX1_ok nmX1 hown hK hP hD hS 0 rfl rfl 0 (by decide) (hW _ qm_281) (fun _ h9 => h9) rfl (by decide +kernel) rfl rfl (Nat.le_of_ble_eq_true rfl) qd_M_part_23 (fun H locs hP hD hS => ?_)
      have hP : va_P (dC, dI) tq_cl [(o, .inr (1, [.int (nI 1), .int (nI n), .int (nI k), .int w4, .ref ca, .ref cb, .long z1, .long z2])), (ca, .inl (cA, (600, .inr (.inl f)))), (cb, .inl (cA, (40, .inr (.inl g))))] H := hP
      have hD : va_D A [(o, .inr (1, [.int (nI 1), .int (nI n), .int (nI k), .int w4, .ref ca, .ref cb, .long z1, .long z2])), (ca, .inl (cA, (600, .inr (.inl f)))), (cb, .inl (cA, (40, .inr (.inl g))))] := hD
      refine lv_aload_n hx hb qd_M_part_26 rfl (lv_at hl 0 rfl) ?_
      refine va_get (D := (dC, dI)) (ci := 1) (v := .int (nI 1)) (C := RX1) (T := TX1) (N := 8) hx hb hW inX1 hown hK hP 0 rfl rfl 0 (by decide) (hW _ qm_281) (fun _ h9 => h9) rfl qd_M_part_27 ?_
      refine tq_if_le (x := 1) (tgt := 37) hx hb qd_M_part_30 (by decide) (by omega) (fun c9 => by omega) (fun c9 => ?_)
      refine lv_lconst (v := 0) hx hb qd_M_part_33 (by decide) ?_
      refine lv_goto (tgt := 45) hx hb qd_M_part_34 (by decide) ?_
      exact W.lret hx hb hr (fun t ht hW9 => ⟨⟨_, (), rfl, rfl, by rw [ht]; exact hP, va_K.moved hW9.alike hK, hD⟩, hS.F ht⟩) hS.2.2 qd_M_part_45
set_option maxHeartbeats 4000000 in
set_option maxRecDepth 100000 in
theorem ct_M_path_no (l : Launch) (dC : Nat → ClassId) (dI : Nat → Nat → Nat) (o ca cb : Nat) (cA : ClassId) (w1 : Int32) (n k : Nat) (w4 : Int32) (z1 z2 : Int64) (f g : Nat → Int64) (sz : Nat) (pm pn : Int32) (hbad : pm < 0 ∨ pn ≤ pm ∨ nI n < pn) : Met l qy_M_path qw_M_path ({ frames := 0, cells := 0, slots := 0, locals := 0 }) (va_Pc [.ref o, .int pm, .int pn] (tq_rw (dC, dI) [(o, .inr (1, [.int w1, .int (nI n), .int (nI k), .int w4, .ref ca, .ref cb, .long z1, .long z2])), (ca, .inl (cA, (600, .inr (.inl f)))), (cb, .inl (cA, (40, .inr (.inl g))))] [(cA, .long)] sz)) (va_Qi (fun r (_ : Unit) => r = nI 0) (fun _ t => tq_in (dC, dI) [(o, .inr (1, [.int (nI 1), .int (nI n), .int (nI k), .int w4, .ref ca, .ref cb, .long z1, .long z2])), (ca, .inl (cA, (600, .inr (.inl f)))), (cb, .inl (cA, (40, .inr (.inl g))))] [(cA, .long)] (va_A [(o, .inr (1, [.int w1, .int (nI n), .int (nI k), .int w4, .ref ca, .ref cb, .long z1, .long z2])), (ca, .inl (cA, (600, .inr (.inl f)))), (cb, .inl (cA, (40, .inr (.inl g))))] sz) t) (va_A [(o, .inr (1, [.int w1, .int (nI n), .int (nI k), .int w4, .ref ca, .ref cb, .long z1, .long z2])), (ca, .inl (cA, (600, .inr (.inl f)))), (cb, .inl (cA, (40, .inr (.inl g))))] sz)) 0 0 (va_A [(o, .inr (1, [.int w1, .int (nI n), .int (nI k), .int w4, .ref ca, .ref cb, .long z1, .long z2])), (ca, .inl (cA, (600, .inr (.inl f)))), (cb, .inl (cA, (40, .inr (.inl g))))] sz) := by
  refine Met.ofW (cc := qc_M_path) (maxL := 3) (ret := (some .int)) (by decide) rfl ?_
  intro p e s m args below meth c s₁ B hml hv
  obtain ⟨rfl, hsz, hP, hK, hD0⟩ := hv
  have hx := B.exec
  have hb := B.bytes
  have hr := B.returns
  have hts := atoms_spec (ws := qw_M_path) B.pre
  have hW : ∀ w ∈ tq_W, w.before ([.ref o, .int pm, .int pn] : List Value).toArray s = true := fun w h => hts w (List.mem_cons_of_mem _ h)
  have hown : s.vm.findClass RX1 = some m.cls := findClass_of_methodNamed B.named
  have hlocks := B.notSynchronized
  have hl := lv_entry ([.ref o, .int pm, .int pn]) (n := 3) (Nat.le_of_ble_eq_true rfl)
  rw [lg_entry_eq]
  generalize (lg_sl ([.ref o, .int pm, .int pn]) ++ List.replicate (3 - (lg_sl ([.ref o, .int pm, .int pn])).length) Slot.unset).toArray = ls at hl ⊢
  have hl : lv_has ls 3 [(0, .ref o), (1, .int pm), (2, .int pn)] := hl
  subst hsz
  have hD := hD0.self (sz := s.heap.size)
  generalize hAe : va_A [(o, .inr (1, [.int w1, .int (nI n), .int (nI k), .int w4, .ref ca, .ref cb, .long z1, .long z2])), (ca, .inl (cA, (600, .inr (.inl f)))), (cb, .inl (cA, (40, .inr (.inl g))))] s.heap.size = A at hD ⊢
  have hA : ∀ q : Nat, s.heap.size ≤ q → A q := fun q h => by rw [← hAe]; exact Or.inr h
  have hS : va_S A s.heap s.heap [] := va_S.rf
  refine lv_aload_n hx hb qd_M_path_0 rfl (lv_at hl 0 rfl) ?_
  refine lv_iload_n hx hb qd_M_path_1 rfl (lv_at hl 1 rfl) ?_
  refine lv_if_lt (tgt := 18) hx hb qd_M_path_2 (by decide) (fun c1 => ?_) (fun c1 => ?_)
  · refine lv_iconst (v := nI 1) hx hb qd_M_path_18 (by decide +kernel) ?_
    refine lv_goto (tgt := 23) hx hb qd_M_path_19 (by decide) ?_
    refine va_put (D := (dC, dI)) (ci := 1) (v := .int (nI 1)) (ty := .int) (C := RX1) (T := TX1) (N := 8) hx hb hW inX1 tyX1 tyX1_ok nmX1 hown hK hP hD hS 0 rfl rfl 0 (by decide) (hW _ qm_281) (fun _ h9 => h9) rfl (by decide +kernel) rfl rfl (Nat.le_of_ble_eq_true rfl) qd_M_path_23 (fun H locs hP hD hS => ?_)
    have hP : va_P (dC, dI) tq_cl [(o, .inr (1, [.int (nI 1), .int (nI n), .int (nI k), .int w4, .ref ca, .ref cb, .long z1, .long z2])), (ca, .inl (cA, (600, .inr (.inl f)))), (cb, .inl (cA, (40, .inr (.inl g))))] H := hP
    have hD : va_D A [(o, .inr (1, [.int (nI 1), .int (nI n), .int (nI k), .int w4, .ref ca, .ref cb, .long z1, .long z2])), (ca, .inl (cA, (600, .inr (.inl f)))), (cb, .inl (cA, (40, .inr (.inl g))))] := hD
    refine lv_aload_n hx hb qd_M_path_26 rfl (lv_at hl 0 rfl) ?_
    refine va_get (D := (dC, dI)) (ci := 1) (v := .int (nI 1)) (C := RX1) (T := TX1) (N := 8) hx hb hW inX1 hown hK hP 0 rfl rfl 0 (by decide) (hW _ qm_281) (fun _ h9 => h9) rfl qd_M_path_27 ?_
    refine tq_if_le (x := 1) (tgt := 35) hx hb qd_M_path_30 (by decide) (by omega) (fun c9 => by omega) (fun c9 => ?_)
    refine lv_iconst (v := nI 0) hx hb qd_M_path_33 (by decide +kernel) ?_
    exact W.iret hx hb hr (fun t ht hW9 => ⟨⟨_, (), rfl, rfl, by rw [ht]; exact hP, va_K.moved hW9.alike hK, hD⟩, hS.F ht⟩) hS.2.2 qd_M_path_34
  · refine lv_iload_n hx hb qd_M_path_5 rfl (lv_at hl 1 rfl) ?_
    refine lv_iload_n hx hb qd_M_path_6 rfl (lv_at hl 2 rfl) ?_
    refine lv_icmp_ge (tgt := 18) hx hb qd_M_path_7 (by decide) (fun c2 => ?_) (fun c2 => ?_)
    · refine lv_iconst (v := nI 1) hx hb qd_M_path_18 (by decide +kernel) ?_
      refine lv_goto (tgt := 23) hx hb qd_M_path_19 (by decide) ?_
      refine va_put (D := (dC, dI)) (ci := 1) (v := .int (nI 1)) (ty := .int) (C := RX1) (T := TX1) (N := 8) hx hb hW inX1 tyX1 tyX1_ok nmX1 hown hK hP hD hS 0 rfl rfl 0 (by decide) (hW _ qm_281) (fun _ h9 => h9) rfl (by decide +kernel) rfl rfl (Nat.le_of_ble_eq_true rfl) qd_M_path_23 (fun H locs hP hD hS => ?_)
      have hP : va_P (dC, dI) tq_cl [(o, .inr (1, [.int (nI 1), .int (nI n), .int (nI k), .int w4, .ref ca, .ref cb, .long z1, .long z2])), (ca, .inl (cA, (600, .inr (.inl f)))), (cb, .inl (cA, (40, .inr (.inl g))))] H := hP
      have hD : va_D A [(o, .inr (1, [.int (nI 1), .int (nI n), .int (nI k), .int w4, .ref ca, .ref cb, .long z1, .long z2])), (ca, .inl (cA, (600, .inr (.inl f)))), (cb, .inl (cA, (40, .inr (.inl g))))] := hD
      refine lv_aload_n hx hb qd_M_path_26 rfl (lv_at hl 0 rfl) ?_
      refine va_get (D := (dC, dI)) (ci := 1) (v := .int (nI 1)) (C := RX1) (T := TX1) (N := 8) hx hb hW inX1 hown hK hP 0 rfl rfl 0 (by decide) (hW _ qm_281) (fun _ h9 => h9) rfl qd_M_path_27 ?_
      refine tq_if_le (x := 1) (tgt := 35) hx hb qd_M_path_30 (by decide) (by omega) (fun c9 => by omega) (fun c9 => ?_)
      refine lv_iconst (v := nI 0) hx hb qd_M_path_33 (by decide +kernel) ?_
      exact W.iret hx hb hr (fun t ht hW9 => ⟨⟨_, (), rfl, rfl, by rw [ht]; exact hP, va_K.moved hW9.alike hK, hD⟩, hS.F ht⟩) hS.2.2 qd_M_path_34
    · have h9 : ¬ pn ≤ nI n := tq_nle (hbad.elim (fun h => absurd h c1) (fun h => h.elim (fun h => absurd h c2) id))
      refine lv_iload_n hx hb qd_M_path_10 rfl (lv_at hl 2 rfl) ?_
      refine lv_aload_n hx hb qd_M_path_11 rfl (lv_at hl 0 rfl) ?_
      refine va_get (D := (dC, dI)) (ci := 1) (v := .int (nI n)) (C := RX1) (T := TX1) (N := 8) hx hb hW inX1 hown hK hP 0 rfl rfl 1 (by decide) (hW _ qm_282) (fun _ h9 => h9) rfl qd_M_path_12 ?_
      refine lv_icmp_le (tgt := 22) hx hb qd_M_path_15 (by decide) (fun c9 => absurd c9 (h9)) (fun c3 => ?_)
      refine lv_iconst (v := nI 1) hx hb qd_M_path_18 (by decide +kernel) ?_
      refine lv_goto (tgt := 23) hx hb qd_M_path_19 (by decide) ?_
      refine va_put (D := (dC, dI)) (ci := 1) (v := .int (nI 1)) (ty := .int) (C := RX1) (T := TX1) (N := 8) hx hb hW inX1 tyX1 tyX1_ok nmX1 hown hK hP hD hS 0 rfl rfl 0 (by decide) (hW _ qm_281) (fun _ h9 => h9) rfl (by decide +kernel) rfl rfl (Nat.le_of_ble_eq_true rfl) qd_M_path_23 (fun H locs hP hD hS => ?_)
      have hP : va_P (dC, dI) tq_cl [(o, .inr (1, [.int (nI 1), .int (nI n), .int (nI k), .int w4, .ref ca, .ref cb, .long z1, .long z2])), (ca, .inl (cA, (600, .inr (.inl f)))), (cb, .inl (cA, (40, .inr (.inl g))))] H := hP
      have hD : va_D A [(o, .inr (1, [.int (nI 1), .int (nI n), .int (nI k), .int w4, .ref ca, .ref cb, .long z1, .long z2])), (ca, .inl (cA, (600, .inr (.inl f)))), (cb, .inl (cA, (40, .inr (.inl g))))] := hD
      refine lv_aload_n hx hb qd_M_path_26 rfl (lv_at hl 0 rfl) ?_
      refine va_get (D := (dC, dI)) (ci := 1) (v := .int (nI 1)) (C := RX1) (T := TX1) (N := 8) hx hb hW inX1 hown hK hP 0 rfl rfl 0 (by decide) (hW _ qm_281) (fun _ h9 => h9) rfl qd_M_path_27 ?_
      refine tq_if_le (x := 1) (tgt := 35) hx hb qd_M_path_30 (by decide) (by omega) (fun c9 => by omega) (fun c9 => ?_)
      refine lv_iconst (v := nI 0) hx hb qd_M_path_33 (by decide +kernel) ?_
      exact W.iret hx hb hr (fun t ht hW9 => ⟨⟨_, (), rfl, rfl, by rw [ht]; exact hP, va_K.moved hW9.alike hK, hD⟩, hS.F ht⟩) hS.2.2 qd_M_path_34
set_option maxHeartbeats 4000000 in
set_option maxRecDepth 100000 in
theorem ct_M_steps_no (l : Launch) (dC : Nat → ClassId) (dI : Nat → Nat → Nat) (o ca cb : Nat) (cA : ClassId) (w1 : Int32) (n k : Nat) (w4 : Int32) (z1 z2 : Int64) (f g : Nat → Int64) (sz : Nat) (pm pn : Int32) (hbad : pm < nI 1 ∨ pn < pm ∨ nI n < pn) : Met l qy_M_steps qw_M_steps ({ frames := 0, cells := 0, slots := 0, locals := 0 }) (va_Pc [.ref o, .int pm, .int pn] (tq_rw (dC, dI) [(o, .inr (1, [.int w1, .int (nI n), .int (nI k), .int w4, .ref ca, .ref cb, .long z1, .long z2])), (ca, .inl (cA, (600, .inr (.inl f)))), (cb, .inl (cA, (40, .inr (.inl g))))] [(cA, .long)] sz)) (va_Qi (fun r (_ : Unit) => r = nI 0) (fun _ t => tq_in (dC, dI) [(o, .inr (1, [.int (nI 1), .int (nI n), .int (nI k), .int w4, .ref ca, .ref cb, .long z1, .long z2])), (ca, .inl (cA, (600, .inr (.inl f)))), (cb, .inl (cA, (40, .inr (.inl g))))] [(cA, .long)] (va_A [(o, .inr (1, [.int w1, .int (nI n), .int (nI k), .int w4, .ref ca, .ref cb, .long z1, .long z2])), (ca, .inl (cA, (600, .inr (.inl f)))), (cb, .inl (cA, (40, .inr (.inl g))))] sz) t) (va_A [(o, .inr (1, [.int w1, .int (nI n), .int (nI k), .int w4, .ref ca, .ref cb, .long z1, .long z2])), (ca, .inl (cA, (600, .inr (.inl f)))), (cb, .inl (cA, (40, .inr (.inl g))))] sz)) 0 0 (va_A [(o, .inr (1, [.int w1, .int (nI n), .int (nI k), .int w4, .ref ca, .ref cb, .long z1, .long z2])), (ca, .inl (cA, (600, .inr (.inl f)))), (cb, .inl (cA, (40, .inr (.inl g))))] sz) := by
  refine Met.ofW (cc := qc_M_steps) (maxL := 3) (ret := (some .int)) (by decide) rfl ?_
  intro p e s m args below meth c s₁ B hml hv
  obtain ⟨rfl, hsz, hP, hK, hD0⟩ := hv
  have hx := B.exec
  have hb := B.bytes
  have hr := B.returns
  have hts := atoms_spec (ws := qw_M_steps) B.pre
  have hW : ∀ w ∈ tq_W, w.before ([.ref o, .int pm, .int pn] : List Value).toArray s = true := fun w h => hts w (List.mem_cons_of_mem _ h)
  have hown : s.vm.findClass RX1 = some m.cls := findClass_of_methodNamed B.named
  have hlocks := B.notSynchronized
  have hl := lv_entry ([.ref o, .int pm, .int pn]) (n := 3) (Nat.le_of_ble_eq_true rfl)
  rw [lg_entry_eq]
  generalize (lg_sl ([.ref o, .int pm, .int pn]) ++ List.replicate (3 - (lg_sl ([.ref o, .int pm, .int pn])).length) Slot.unset).toArray = ls at hl ⊢
  have hl : lv_has ls 3 [(0, .ref o), (1, .int pm), (2, .int pn)] := hl
  subst hsz
  have hD := hD0.self (sz := s.heap.size)
  generalize hAe : va_A [(o, .inr (1, [.int w1, .int (nI n), .int (nI k), .int w4, .ref ca, .ref cb, .long z1, .long z2])), (ca, .inl (cA, (600, .inr (.inl f)))), (cb, .inl (cA, (40, .inr (.inl g))))] s.heap.size = A at hD ⊢
  have hA : ∀ q : Nat, s.heap.size ≤ q → A q := fun q h => by rw [← hAe]; exact Or.inr h
  have hS : va_S A s.heap s.heap [] := va_S.rf
  refine lv_aload_n hx hb qd_M_steps_0 rfl (lv_at hl 0 rfl) ?_
  refine lv_iload_n hx hb qd_M_steps_1 rfl (lv_at hl 1 rfl) ?_
  refine lv_iconst (v := nI 1) hx hb qd_M_steps_2 (by decide +kernel) ?_
  refine lv_icmp_lt (tgt := 19) hx hb qd_M_steps_3 (by decide) (fun c1 => ?_) (fun c1 => ?_)
  · refine lv_iconst (v := nI 1) hx hb qd_M_steps_19 (by decide +kernel) ?_
    refine lv_goto (tgt := 24) hx hb qd_M_steps_20 (by decide) ?_
    refine va_put (D := (dC, dI)) (ci := 1) (v := .int (nI 1)) (ty := .int) (C := RX1) (T := TX1) (N := 8) hx hb hW inX1 tyX1 tyX1_ok nmX1 hown hK hP hD hS 0 rfl rfl 0 (by decide) (hW _ qm_281) (fun _ h9 => h9) rfl (by decide +kernel) rfl rfl (Nat.le_of_ble_eq_true rfl) qd_M_steps_24 (fun H locs hP hD hS => ?_)
    have hP : va_P (dC, dI) tq_cl [(o, .inr (1, [.int (nI 1), .int (nI n), .int (nI k), .int w4, .ref ca, .ref cb, .long z1, .long z2])), (ca, .inl (cA, (600, .inr (.inl f)))), (cb, .inl (cA, (40, .inr (.inl g))))] H := hP
    have hD : va_D A [(o, .inr (1, [.int (nI 1), .int (nI n), .int (nI k), .int w4, .ref ca, .ref cb, .long z1, .long z2])), (ca, .inl (cA, (600, .inr (.inl f)))), (cb, .inl (cA, (40, .inr (.inl g))))] := hD
    refine lv_aload_n hx hb qd_M_steps_27 rfl (lv_at hl 0 rfl) ?_
    refine va_get (D := (dC, dI)) (ci := 1) (v := .int (nI 1)) (C := RX1) (T := TX1) (N := 8) hx hb hW inX1 hown hK hP 0 rfl rfl 0 (by decide) (hW _ qm_281) (fun _ h9 => h9) rfl qd_M_steps_28 ?_
    refine tq_if_le (x := 1) (tgt := 36) hx hb qd_M_steps_31 (by decide) (by omega) (fun c9 => by omega) (fun c9 => ?_)
    refine lv_iconst (v := nI 0) hx hb qd_M_steps_34 (by decide +kernel) ?_
    exact W.iret hx hb hr (fun t ht hW9 => ⟨⟨_, (), rfl, rfl, by rw [ht]; exact hP, va_K.moved hW9.alike hK, hD⟩, hS.F ht⟩) hS.2.2 qd_M_steps_35
  · refine lv_iload_n hx hb qd_M_steps_6 rfl (lv_at hl 1 rfl) ?_
    refine lv_iload_n hx hb qd_M_steps_7 rfl (lv_at hl 2 rfl) ?_
    refine lv_icmp_gt (tgt := 19) hx hb qd_M_steps_8 (by decide) (fun c2 => ?_) (fun c2 => ?_)
    · refine lv_iconst (v := nI 1) hx hb qd_M_steps_19 (by decide +kernel) ?_
      refine lv_goto (tgt := 24) hx hb qd_M_steps_20 (by decide) ?_
      refine va_put (D := (dC, dI)) (ci := 1) (v := .int (nI 1)) (ty := .int) (C := RX1) (T := TX1) (N := 8) hx hb hW inX1 tyX1 tyX1_ok nmX1 hown hK hP hD hS 0 rfl rfl 0 (by decide) (hW _ qm_281) (fun _ h9 => h9) rfl (by decide +kernel) rfl rfl (Nat.le_of_ble_eq_true rfl) qd_M_steps_24 (fun H locs hP hD hS => ?_)
      have hP : va_P (dC, dI) tq_cl [(o, .inr (1, [.int (nI 1), .int (nI n), .int (nI k), .int w4, .ref ca, .ref cb, .long z1, .long z2])), (ca, .inl (cA, (600, .inr (.inl f)))), (cb, .inl (cA, (40, .inr (.inl g))))] H := hP
      have hD : va_D A [(o, .inr (1, [.int (nI 1), .int (nI n), .int (nI k), .int w4, .ref ca, .ref cb, .long z1, .long z2])), (ca, .inl (cA, (600, .inr (.inl f)))), (cb, .inl (cA, (40, .inr (.inl g))))] := hD
      refine lv_aload_n hx hb qd_M_steps_27 rfl (lv_at hl 0 rfl) ?_
      refine va_get (D := (dC, dI)) (ci := 1) (v := .int (nI 1)) (C := RX1) (T := TX1) (N := 8) hx hb hW inX1 hown hK hP 0 rfl rfl 0 (by decide) (hW _ qm_281) (fun _ h9 => h9) rfl qd_M_steps_28 ?_
      refine tq_if_le (x := 1) (tgt := 36) hx hb qd_M_steps_31 (by decide) (by omega) (fun c9 => by omega) (fun c9 => ?_)
      refine lv_iconst (v := nI 0) hx hb qd_M_steps_34 (by decide +kernel) ?_
      exact W.iret hx hb hr (fun t ht hW9 => ⟨⟨_, (), rfl, rfl, by rw [ht]; exact hP, va_K.moved hW9.alike hK, hD⟩, hS.F ht⟩) hS.2.2 qd_M_steps_35
    · have h9 : ¬ pn ≤ nI n := tq_nle (hbad.elim (fun h => absurd h c1) (fun h => h.elim (fun h => absurd h c2) id))
      refine lv_iload_n hx hb qd_M_steps_11 rfl (lv_at hl 2 rfl) ?_
      refine lv_aload_n hx hb qd_M_steps_12 rfl (lv_at hl 0 rfl) ?_
      refine va_get (D := (dC, dI)) (ci := 1) (v := .int (nI n)) (C := RX1) (T := TX1) (N := 8) hx hb hW inX1 hown hK hP 0 rfl rfl 1 (by decide) (hW _ qm_282) (fun _ h9 => h9) rfl qd_M_steps_13 ?_
      refine lv_icmp_le (tgt := 23) hx hb qd_M_steps_16 (by decide) (fun c9 => absurd c9 (h9)) (fun c3 => ?_)
      refine lv_iconst (v := nI 1) hx hb qd_M_steps_19 (by decide +kernel) ?_
      refine lv_goto (tgt := 24) hx hb qd_M_steps_20 (by decide) ?_
      refine va_put (D := (dC, dI)) (ci := 1) (v := .int (nI 1)) (ty := .int) (C := RX1) (T := TX1) (N := 8) hx hb hW inX1 tyX1 tyX1_ok nmX1 hown hK hP hD hS 0 rfl rfl 0 (by decide) (hW _ qm_281) (fun _ h9 => h9) rfl (by decide +kernel) rfl rfl (Nat.le_of_ble_eq_true rfl) qd_M_steps_24 (fun H locs hP hD hS => ?_)
      have hP : va_P (dC, dI) tq_cl [(o, .inr (1, [.int (nI 1), .int (nI n), .int (nI k), .int w4, .ref ca, .ref cb, .long z1, .long z2])), (ca, .inl (cA, (600, .inr (.inl f)))), (cb, .inl (cA, (40, .inr (.inl g))))] H := hP
      have hD : va_D A [(o, .inr (1, [.int (nI 1), .int (nI n), .int (nI k), .int w4, .ref ca, .ref cb, .long z1, .long z2])), (ca, .inl (cA, (600, .inr (.inl f)))), (cb, .inl (cA, (40, .inr (.inl g))))] := hD
      refine lv_aload_n hx hb qd_M_steps_27 rfl (lv_at hl 0 rfl) ?_
      refine va_get (D := (dC, dI)) (ci := 1) (v := .int (nI 1)) (C := RX1) (T := TX1) (N := 8) hx hb hW inX1 hown hK hP 0 rfl rfl 0 (by decide) (hW _ qm_281) (fun _ h9 => h9) rfl qd_M_steps_28 ?_
      refine tq_if_le (x := 1) (tgt := 36) hx hb qd_M_steps_31 (by decide) (by omega) (fun c9 => by omega) (fun c9 => ?_)
      refine lv_iconst (v := nI 0) hx hb qd_M_steps_34 (by decide +kernel) ?_
      exact W.iret hx hb hr (fun t ht hW9 => ⟨⟨_, (), rfl, rfl, by rw [ht]; exact hP, va_K.moved hW9.alike hK, hD⟩, hS.F ht⟩) hS.2.2 qd_M_steps_35
set_option maxHeartbeats 4000000 in
set_option maxRecDepth 100000 in
theorem ct_M_proof (l : Launch) (dC : Nat → ClassId) (dI : Nat → Nat → Nat) (o ca cb : Nat) (cA : ClassId) (w1 : Int32) (n k : Nat) (w4 : Int32) (z1 z2 : Int64) (f g : Nat → Int64) (sz : Nat) (j : Nat) (hj : j < k) (hk : k ≤ 40) : Met l qy_M_proof qw_M_proof ({ frames := 0, cells := 0, slots := 0, locals := 0 }) (va_Pc [.ref o, .int (nI j)] (tq_rw (dC, dI) [(o, .inr (1, [.int w1, .int (nI n), .int (nI k), .int w4, .ref ca, .ref cb, .long z1, .long z2])), (ca, .inl (cA, (600, .inr (.inl f)))), (cb, .inl (cA, (40, .inr (.inl g))))] [(cA, .long)] sz)) (va_Ql (fun r (_ : Unit) => r = g j) (fun _ t => tq_in (dC, dI) [(o, .inr (1, [.int (nI 0), .int (nI n), .int (nI k), .int w4, .ref ca, .ref cb, .long z1, .long z2])), (ca, .inl (cA, (600, .inr (.inl f)))), (cb, .inl (cA, (40, .inr (.inl g))))] [(cA, .long)] (va_A [(o, .inr (1, [.int w1, .int (nI n), .int (nI k), .int w4, .ref ca, .ref cb, .long z1, .long z2])), (ca, .inl (cA, (600, .inr (.inl f)))), (cb, .inl (cA, (40, .inr (.inl g))))] sz) t) (va_A [(o, .inr (1, [.int w1, .int (nI n), .int (nI k), .int w4, .ref ca, .ref cb, .long z1, .long z2])), (ca, .inl (cA, (600, .inr (.inl f)))), (cb, .inl (cA, (40, .inr (.inl g))))] sz)) 0 0 (va_A [(o, .inr (1, [.int w1, .int (nI n), .int (nI k), .int w4, .ref ca, .ref cb, .long z1, .long z2])), (ca, .inl (cA, (600, .inr (.inl f)))), (cb, .inl (cA, (40, .inr (.inl g))))] sz) := by
  refine Met.ofW (cc := qc_M_proof) (maxL := 2) (ret := (some .long)) (by decide) rfl ?_
  intro p e s m args below meth c s₁ B hml hv
  obtain ⟨rfl, hsz, hP, hK, hD0⟩ := hv
  have hx := B.exec
  have hb := B.bytes
  have hr := B.returns
  have hts := atoms_spec (ws := qw_M_proof) B.pre
  have hW : ∀ w ∈ tq_W, w.before ([.ref o, .int (nI j)] : List Value).toArray s = true := fun w h => hts w (List.mem_cons_of_mem _ h)
  have hown : s.vm.findClass RX1 = some m.cls := findClass_of_methodNamed B.named
  have hlocks := B.notSynchronized
  have hl := lv_entry ([.ref o, .int (nI j)]) (n := 2) (Nat.le_of_ble_eq_true rfl)
  rw [lg_entry_eq]
  generalize (lg_sl ([.ref o, .int (nI j)]) ++ List.replicate (2 - (lg_sl ([.ref o, .int (nI j)])).length) Slot.unset).toArray = ls at hl ⊢
  have hl : lv_has ls 2 [(0, .ref o), (1, .int (nI j))] := hl
  subst hsz
  have hD := hD0.self (sz := s.heap.size)
  generalize hAe : va_A [(o, .inr (1, [.int w1, .int (nI n), .int (nI k), .int w4, .ref ca, .ref cb, .long z1, .long z2])), (ca, .inl (cA, (600, .inr (.inl f)))), (cb, .inl (cA, (40, .inr (.inl g))))] s.heap.size = A at hD ⊢
  have hA : ∀ q : Nat, s.heap.size ≤ q → A q := fun q h => by rw [← hAe]; exact Or.inr h
  have hS : va_S A s.heap s.heap [] := va_S.rf
  refine lv_aload_n hx hb qd_M_proof_0 rfl (lv_at hl 0 rfl) ?_
  refine lv_iload_n hx hb qd_M_proof_1 rfl (lv_at hl 1 rfl) ?_
  refine tq_if_lt (x := j) (tgt := 13) hx hb qd_M_proof_2 (by decide) (by omega) ?_
  refine lv_iload_n hx hb qd_M_proof_5 rfl (lv_at hl 1 rfl) ?_
  refine lv_aload_n hx hb qd_M_proof_6 rfl (lv_at hl 0 rfl) ?_
  refine va_get (D := (dC, dI)) (ci := 1) (v := .int (nI k)) (C := RX1) (T := TX1) (N := 8) hx hb hW inX1 hown hK hP 0 rfl rfl 2 (by decide) (hW _ qm_283) (fun _ h9 => h9) rfl qd_M_proof_7 ?_
  refine tq_icmp_lt (x := j) (y := k) (tgt := 17) hx hb qd_M_proof_10 (by decide) (by omega) (by omega) (fun c9 => ?_) (fun c9 => by omega)
  refine lv_iconst (v := nI 0) hx hb qd_M_proof_17 (by decide +kernel) ?_
  refine va_put (D := (dC, dI)) (ci := 1) (v := .int (nI 0)) (ty := .int) (C := RX1) (T := TX1) (N := 8) hx hb hW inX1 tyX1 tyX1_ok nmX1 hown hK hP hD hS 0 rfl rfl 0 (by decide) (hW _ qm_281) (fun _ h9 => h9) rfl (by decide +kernel) rfl rfl (Nat.le_of_ble_eq_true rfl) qd_M_proof_18 (fun H locs hP hD hS => ?_)
  have hP : va_P (dC, dI) tq_cl [(o, .inr (1, [.int (nI 0), .int (nI n), .int (nI k), .int w4, .ref ca, .ref cb, .long z1, .long z2])), (ca, .inl (cA, (600, .inr (.inl f)))), (cb, .inl (cA, (40, .inr (.inl g))))] H := hP
  have hD : va_D A [(o, .inr (1, [.int (nI 0), .int (nI n), .int (nI k), .int w4, .ref ca, .ref cb, .long z1, .long z2])), (ca, .inl (cA, (600, .inr (.inl f)))), (cb, .inl (cA, (40, .inr (.inl g))))] := hD
  refine lv_aload_n hx hb qd_M_proof_21 rfl (lv_at hl 0 rfl) ?_
  refine va_get (D := (dC, dI)) (ci := 1) (v := .int (nI 0)) (C := RX1) (T := TX1) (N := 8) hx hb hW inX1 hown hK hP 0 rfl rfl 0 (by decide) (hW _ qm_281) (fun _ h9 => h9) rfl qd_M_proof_22 ?_
  refine tq_if_le (x := 0) (tgt := 32) hx hb qd_M_proof_25 (by decide) (by omega) (fun c9 => ?_) (fun c9 => by omega)
  refine lv_aload_n hx hb qd_M_proof_32 rfl (lv_at hl 0 rfl) ?_
  refine va_get (D := (dC, dI)) (ci := 1) (v := .ref cb) (C := RX1) (T := TX1) (N := 8) hx hb hW inX1 hown hK hP 0 rfl rfl 5 (by decide) (hW _ qm_286) (fun _ h9 => h9) rfl qd_M_proof_33 ?_
  refine lv_iload_n hx hb qd_M_proof_36 rfl (lv_at hl 1 rfl) ?_
  refine tq_lald hx hb hK hP 2 0 rfl rfl (j := j) (by omega) (by decide) qd_M_proof_37 ?_
  exact W.lret hx hb hr (fun t ht hW9 => ⟨⟨_, (), rfl, rfl, by rw [ht]; exact hP, va_K.moved hW9.alike hK, hD⟩, hS.F ht⟩) hS.2.2 qd_M_proof_38
set_option maxHeartbeats 4000000 in
set_option maxRecDepth 100000 in
theorem ct_M_alter (l : Launch) (dC : Nat → ClassId) (dI : Nat → Nat → Nat) (o ca cb : Nat) (cA : ClassId) (w1 : Int32) (n k : Nat) (w4 : Int32) (z1 z2 : Int64) (f g : Nat → Int64) (sz : Nat) (j : Nat) (v : Int64) (hj : j < k) (hk : k ≤ 40) : Met l qy_M_alter qw_M_alter ({ frames := 0, cells := 0, slots := 0, locals := 0 }) (va_Pc [.ref o, .int (nI j), .long v] (tq_rw (dC, dI) [(o, .inr (1, [.int w1, .int (nI n), .int (nI k), .int w4, .ref ca, .ref cb, .long z1, .long z2])), (ca, .inl (cA, (600, .inr (.inl f)))), (cb, .inl (cA, (40, .inr (.inl g))))] [(cA, .long)] sz)) (va_Ql (fun r (_ : Unit) => r = g j) (fun _ t => tq_in (dC, dI) [(o, .inr (1, [.int (nI 0), .int (nI n), .int (nI k), .int w4, .ref ca, .ref cb, .long z1, .long z2])), (ca, .inl (cA, (600, .inr (.inl f)))), (cb, .inl (cA, (40, .inr (.inl ((vp_updL g j v))))))] [(cA, .long)] (va_A [(o, .inr (1, [.int w1, .int (nI n), .int (nI k), .int w4, .ref ca, .ref cb, .long z1, .long z2])), (ca, .inl (cA, (600, .inr (.inl f)))), (cb, .inl (cA, (40, .inr (.inl g))))] sz) t) (va_A [(o, .inr (1, [.int w1, .int (nI n), .int (nI k), .int w4, .ref ca, .ref cb, .long z1, .long z2])), (ca, .inl (cA, (600, .inr (.inl f)))), (cb, .inl (cA, (40, .inr (.inl g))))] sz)) 0 0 (va_A [(o, .inr (1, [.int w1, .int (nI n), .int (nI k), .int w4, .ref ca, .ref cb, .long z1, .long z2])), (ca, .inl (cA, (600, .inr (.inl f)))), (cb, .inl (cA, (40, .inr (.inl g))))] sz) := by
  refine Met.ofW (cc := qc_M_alter) (maxL := 6) (ret := (some .long)) (by decide) rfl ?_
  intro p e s m args below meth c s₁ B hml hv
  obtain ⟨rfl, hsz, hP, hK, hD0⟩ := hv
  have hx := B.exec
  have hb := B.bytes
  have hr := B.returns
  have hts := atoms_spec (ws := qw_M_alter) B.pre
  have hW : ∀ w ∈ tq_W, w.before ([.ref o, .int (nI j), .long v] : List Value).toArray s = true := fun w h => hts w (List.mem_cons_of_mem _ h)
  have hown : s.vm.findClass RX1 = some m.cls := findClass_of_methodNamed B.named
  have hlocks := B.notSynchronized
  have hl := lv_entry ([.ref o, .int (nI j), .long v]) (n := 6) (Nat.le_of_ble_eq_true rfl)
  rw [lg_entry_eq]
  generalize (lg_sl ([.ref o, .int (nI j), .long v]) ++ List.replicate (6 - (lg_sl ([.ref o, .int (nI j), .long v])).length) Slot.unset).toArray = ls at hl ⊢
  have hl : lv_has ls 6 [(0, .ref o), (1, .int (nI j)), (2, .long v)] := hl
  subst hsz
  have hD := hD0.self (sz := s.heap.size)
  generalize hAe : va_A [(o, .inr (1, [.int w1, .int (nI n), .int (nI k), .int w4, .ref ca, .ref cb, .long z1, .long z2])), (ca, .inl (cA, (600, .inr (.inl f)))), (cb, .inl (cA, (40, .inr (.inl g))))] s.heap.size = A at hD ⊢
  have hA : ∀ q : Nat, s.heap.size ≤ q → A q := fun q h => by rw [← hAe]; exact Or.inr h
  have hS : va_S A s.heap s.heap [] := va_S.rf
  refine lv_aload_n hx hb qd_M_alter_0 rfl (lv_at hl 0 rfl) ?_
  refine lv_iload_n hx hb qd_M_alter_1 rfl (lv_at hl 1 rfl) ?_
  refine tq_if_lt (x := j) (tgt := 13) hx hb qd_M_alter_2 (by decide) (by omega) ?_
  refine lv_iload_n hx hb qd_M_alter_5 rfl (lv_at hl 1 rfl) ?_
  refine lv_aload_n hx hb qd_M_alter_6 rfl (lv_at hl 0 rfl) ?_
  refine va_get (D := (dC, dI)) (ci := 1) (v := .int (nI k)) (C := RX1) (T := TX1) (N := 8) hx hb hW inX1 hown hK hP 0 rfl rfl 2 (by decide) (hW _ qm_283) (fun _ h9 => h9) rfl qd_M_alter_7 ?_
  refine tq_icmp_lt (x := j) (y := k) (tgt := 17) hx hb qd_M_alter_10 (by decide) (by omega) (by omega) (fun c9 => ?_) (fun c9 => by omega)
  refine lv_iconst (v := nI 0) hx hb qd_M_alter_17 (by decide +kernel) ?_
  refine va_put (D := (dC, dI)) (ci := 1) (v := .int (nI 0)) (ty := .int) (C := RX1) (T := TX1) (N := 8) hx hb hW inX1 tyX1 tyX1_ok nmX1 hown hK hP hD hS 0 rfl rfl 0 (by decide) (hW _ qm_281) (fun _ h9 => h9) rfl (by decide +kernel) rfl rfl (Nat.le_of_ble_eq_true rfl) qd_M_alter_18 (fun H locs hP hD hS => ?_)
  have hP : va_P (dC, dI) tq_cl [(o, .inr (1, [.int (nI 0), .int (nI n), .int (nI k), .int w4, .ref ca, .ref cb, .long z1, .long z2])), (ca, .inl (cA, (600, .inr (.inl f)))), (cb, .inl (cA, (40, .inr (.inl g))))] H := hP
  have hD : va_D A [(o, .inr (1, [.int (nI 0), .int (nI n), .int (nI k), .int w4, .ref ca, .ref cb, .long z1, .long z2])), (ca, .inl (cA, (600, .inr (.inl f)))), (cb, .inl (cA, (40, .inr (.inl g))))] := hD
  refine lv_aload_n hx hb qd_M_alter_21 rfl (lv_at hl 0 rfl) ?_
  refine va_get (D := (dC, dI)) (ci := 1) (v := .int (nI 0)) (C := RX1) (T := TX1) (N := 8) hx hb hW inX1 hown hK hP 0 rfl rfl 0 (by decide) (hW _ qm_281) (fun _ h9 => h9) rfl qd_M_alter_22 ?_
  refine tq_if_le (x := 0) (tgt := 30) hx hb qd_M_alter_25 (by decide) (by omega) (fun c9 => ?_) (fun c9 => by omega)
  refine lv_aload_n hx hb qd_M_alter_30 rfl (lv_at hl 0 rfl) ?_
  refine va_get (D := (dC, dI)) (ci := 1) (v := .ref cb) (C := RX1) (T := TX1) (N := 8) hx hb hW inX1 hown hK hP 0 rfl rfl 5 (by decide) (hW _ qm_286) (fun _ h9 => h9) rfl qd_M_alter_31 ?_
  refine lv_iload_n hx hb qd_M_alter_34 rfl (lv_at hl 1 rfl) ?_
  refine tq_lald hx hb hK hP 2 0 rfl rfl (j := j) (by omega) (by decide) qd_M_alter_35 ?_
  refine lv_lstore (lv' := [(4, .long (g j)), (0, .ref o), (1, .int (nI j)), (2, .long v)]) hx hb qd_M_alter_36 hl (by decide) rfl (fun ls hl => ?_)
  refine lv_aload_n hx hb qd_M_alter_38 rfl (lv_at hl 1 rfl) ?_
  refine va_get (D := (dC, dI)) (ci := 1) (v := .ref cb) (C := RX1) (T := TX1) (N := 8) hx hb hW inX1 hown hK hP 0 rfl rfl 5 (by decide) (hW _ qm_286) (fun _ h9 => h9) rfl qd_M_alter_39 ?_
  refine lv_iload_n hx hb qd_M_alter_42 rfl (lv_at hl 2 rfl) ?_
  refine lv_lload_n hx hb qd_M_alter_43 rfl (lv_at hl 3 rfl) ?_
  refine tq_last hx hb hK hP hD hS 2 0 rfl rfl (j := j) (x := v) (by omega) (by decide) qd_M_alter_44 (fun H locs hP hD hS => ?_)
  have hP : va_P (dC, dI) tq_cl [(o, .inr (1, [.int (nI 0), .int (nI n), .int (nI k), .int w4, .ref ca, .ref cb, .long z1, .long z2])), (ca, .inl (cA, (600, .inr (.inl f)))), (cb, .inl (cA, (40, .inr (.inl (vp_updL g j v)))))] H := hP
  have hD : va_D A [(o, .inr (1, [.int (nI 0), .int (nI n), .int (nI k), .int w4, .ref ca, .ref cb, .long z1, .long z2])), (ca, .inl (cA, (600, .inr (.inl f)))), (cb, .inl (cA, (40, .inr (.inl (vp_updL g j v)))))] := hD
  refine lv_lload hx hb qd_M_alter_45 (lv_at hl 0 rfl) ?_
  exact W.lret hx hb hr (fun t ht hW9 => ⟨⟨_, (), rfl, rfl, by rw [ht]; exact hP, va_K.moved hW9.alike hK, hD⟩, hS.F ht⟩) hS.2.2 qd_M_alter_47
set_option maxHeartbeats 4000000 in
set_option maxRecDepth 100000 in
theorem ct_M_proof_no (l : Launch) (dC : Nat → ClassId) (dI : Nat → Nat → Nat) (o ca cb : Nat) (cA : ClassId) (w1 : Int32) (n k : Nat) (w4 : Int32) (z1 z2 : Int64) (f g : Nat → Int64) (sz : Nat) (q : Int32) (hbad : q < 0 ∨ nI k ≤ q) : Met l qy_M_proof qw_M_proof ({ frames := 0, cells := 0, slots := 0, locals := 0 }) (va_Pc [.ref o, .int q] (tq_rw (dC, dI) [(o, .inr (1, [.int w1, .int (nI n), .int (nI k), .int w4, .ref ca, .ref cb, .long z1, .long z2])), (ca, .inl (cA, (600, .inr (.inl f)))), (cb, .inl (cA, (40, .inr (.inl g))))] [(cA, .long)] sz)) (va_Ql (fun r (_ : Unit) => r = 0) (fun _ t => tq_in (dC, dI) [(o, .inr (1, [.int (nI 1), .int (nI n), .int (nI k), .int w4, .ref ca, .ref cb, .long z1, .long z2])), (ca, .inl (cA, (600, .inr (.inl f)))), (cb, .inl (cA, (40, .inr (.inl g))))] [(cA, .long)] (va_A [(o, .inr (1, [.int w1, .int (nI n), .int (nI k), .int w4, .ref ca, .ref cb, .long z1, .long z2])), (ca, .inl (cA, (600, .inr (.inl f)))), (cb, .inl (cA, (40, .inr (.inl g))))] sz) t) (va_A [(o, .inr (1, [.int w1, .int (nI n), .int (nI k), .int w4, .ref ca, .ref cb, .long z1, .long z2])), (ca, .inl (cA, (600, .inr (.inl f)))), (cb, .inl (cA, (40, .inr (.inl g))))] sz)) 0 0 (va_A [(o, .inr (1, [.int w1, .int (nI n), .int (nI k), .int w4, .ref ca, .ref cb, .long z1, .long z2])), (ca, .inl (cA, (600, .inr (.inl f)))), (cb, .inl (cA, (40, .inr (.inl g))))] sz) := by
  refine Met.ofW (cc := qc_M_proof) (maxL := 2) (ret := (some .long)) (by decide) rfl ?_
  intro p e s m args below meth c s₁ B hml hv
  obtain ⟨rfl, hsz, hP, hK, hD0⟩ := hv
  have hx := B.exec
  have hb := B.bytes
  have hr := B.returns
  have hts := atoms_spec (ws := qw_M_proof) B.pre
  have hW : ∀ w ∈ tq_W, w.before ([.ref o, .int q] : List Value).toArray s = true := fun w h => hts w (List.mem_cons_of_mem _ h)
  have hown : s.vm.findClass RX1 = some m.cls := findClass_of_methodNamed B.named
  have hlocks := B.notSynchronized
  have hl := lv_entry ([.ref o, .int q]) (n := 2) (Nat.le_of_ble_eq_true rfl)
  rw [lg_entry_eq]
  generalize (lg_sl ([.ref o, .int q]) ++ List.replicate (2 - (lg_sl ([.ref o, .int q])).length) Slot.unset).toArray = ls at hl ⊢
  have hl : lv_has ls 2 [(0, .ref o), (1, .int q)] := hl
  subst hsz
  have hD := hD0.self (sz := s.heap.size)
  generalize hAe : va_A [(o, .inr (1, [.int w1, .int (nI n), .int (nI k), .int w4, .ref ca, .ref cb, .long z1, .long z2])), (ca, .inl (cA, (600, .inr (.inl f)))), (cb, .inl (cA, (40, .inr (.inl g))))] s.heap.size = A at hD ⊢
  have hA : ∀ q : Nat, s.heap.size ≤ q → A q := fun q h => by rw [← hAe]; exact Or.inr h
  have hS : va_S A s.heap s.heap [] := va_S.rf
  refine lv_aload_n hx hb qd_M_proof_0 rfl (lv_at hl 0 rfl) ?_
  refine lv_iload_n hx hb qd_M_proof_1 rfl (lv_at hl 1 rfl) ?_
  refine lv_if_lt (tgt := 13) hx hb qd_M_proof_2 (by decide) (fun c1 => ?_) (fun c1 => ?_)
  · refine lv_iconst (v := nI 1) hx hb qd_M_proof_13 (by decide +kernel) ?_
    refine lv_goto (tgt := 18) hx hb qd_M_proof_14 (by decide) ?_
    refine va_put (D := (dC, dI)) (ci := 1) (v := .int (nI 1)) (ty := .int) (C := RX1) (T := TX1) (N := 8) hx hb hW inX1 tyX1 tyX1_ok nmX1 hown hK hP hD hS 0 rfl rfl 0 (by decide) (hW _ qm_281) (fun _ h9 => h9) rfl (by decide +kernel) rfl rfl (Nat.le_of_ble_eq_true rfl) qd_M_proof_18 (fun H locs hP hD hS => ?_)
    have hP : va_P (dC, dI) tq_cl [(o, .inr (1, [.int (nI 1), .int (nI n), .int (nI k), .int w4, .ref ca, .ref cb, .long z1, .long z2])), (ca, .inl (cA, (600, .inr (.inl f)))), (cb, .inl (cA, (40, .inr (.inl g))))] H := hP
    have hD : va_D A [(o, .inr (1, [.int (nI 1), .int (nI n), .int (nI k), .int w4, .ref ca, .ref cb, .long z1, .long z2])), (ca, .inl (cA, (600, .inr (.inl f)))), (cb, .inl (cA, (40, .inr (.inl g))))] := hD
    refine lv_aload_n hx hb qd_M_proof_21 rfl (lv_at hl 0 rfl) ?_
    refine va_get (D := (dC, dI)) (ci := 1) (v := .int (nI 1)) (C := RX1) (T := TX1) (N := 8) hx hb hW inX1 hown hK hP 0 rfl rfl 0 (by decide) (hW _ qm_281) (fun _ h9 => h9) rfl qd_M_proof_22 ?_
    refine tq_if_le (x := 1) (tgt := 32) hx hb qd_M_proof_25 (by decide) (by omega) (fun c9 => by omega) (fun c9 => ?_)
    refine lv_lconst (v := 0) hx hb qd_M_proof_28 (by decide) ?_
    refine lv_goto (tgt := 38) hx hb qd_M_proof_29 (by decide) ?_
    exact W.lret hx hb hr (fun t ht hW9 => ⟨⟨_, (), rfl, rfl, by rw [ht]; exact hP, va_K.moved hW9.alike hK, hD⟩, hS.F ht⟩) hS.2.2 qd_M_proof_38
  · have h9 : ¬ q < nI k := fun h8 => tq_nle h8 (hbad.elim (fun h => absurd h c1) id)
    refine lv_iload_n hx hb qd_M_proof_5 rfl (lv_at hl 1 rfl) ?_
    refine lv_aload_n hx hb qd_M_proof_6 rfl (lv_at hl 0 rfl) ?_
    refine va_get (D := (dC, dI)) (ci := 1) (v := .int (nI k)) (C := RX1) (T := TX1) (N := 8) hx hb hW inX1 hown hK hP 0 rfl rfl 2 (by decide) (hW _ qm_283) (fun _ h9 => h9) rfl qd_M_proof_7 ?_
    refine lv_icmp_lt (tgt := 17) hx hb qd_M_proof_10 (by decide) (fun c9 => absurd c9 (h9)) (fun c2 => ?_)
    refine lv_iconst (v := nI 1) hx hb qd_M_proof_13 (by decide +kernel) ?_
    refine lv_goto (tgt := 18) hx hb qd_M_proof_14 (by decide) ?_
    refine va_put (D := (dC, dI)) (ci := 1) (v := .int (nI 1)) (ty := .int) (C := RX1) (T := TX1) (N := 8) hx hb hW inX1 tyX1 tyX1_ok nmX1 hown hK hP hD hS 0 rfl rfl 0 (by decide) (hW _ qm_281) (fun _ h9 => h9) rfl (by decide +kernel) rfl rfl (Nat.le_of_ble_eq_true rfl) qd_M_proof_18 (fun H locs hP hD hS => ?_)
    have hP : va_P (dC, dI) tq_cl [(o, .inr (1, [.int (nI 1), .int (nI n), .int (nI k), .int w4, .ref ca, .ref cb, .long z1, .long z2])), (ca, .inl (cA, (600, .inr (.inl f)))), (cb, .inl (cA, (40, .inr (.inl g))))] H := hP
    have hD : va_D A [(o, .inr (1, [.int (nI 1), .int (nI n), .int (nI k), .int w4, .ref ca, .ref cb, .long z1, .long z2])), (ca, .inl (cA, (600, .inr (.inl f)))), (cb, .inl (cA, (40, .inr (.inl g))))] := hD
    refine lv_aload_n hx hb qd_M_proof_21 rfl (lv_at hl 0 rfl) ?_
    refine va_get (D := (dC, dI)) (ci := 1) (v := .int (nI 1)) (C := RX1) (T := TX1) (N := 8) hx hb hW inX1 hown hK hP 0 rfl rfl 0 (by decide) (hW _ qm_281) (fun _ h9 => h9) rfl qd_M_proof_22 ?_
    refine tq_if_le (x := 1) (tgt := 32) hx hb qd_M_proof_25 (by decide) (by omega) (fun c9 => by omega) (fun c9 => ?_)
    refine lv_lconst (v := 0) hx hb qd_M_proof_28 (by decide) ?_
    refine lv_goto (tgt := 38) hx hb qd_M_proof_29 (by decide) ?_
    exact W.lret hx hb hr (fun t ht hW9 => ⟨⟨_, (), rfl, rfl, by rw [ht]; exact hP, va_K.moved hW9.alike hK, hD⟩, hS.F ht⟩) hS.2.2 qd_M_proof_38
set_option maxHeartbeats 4000000 in
set_option maxRecDepth 100000 in
theorem ct_M_alter_no (l : Launch) (dC : Nat → ClassId) (dI : Nat → Nat → Nat) (o ca cb : Nat) (cA : ClassId) (w1 : Int32) (n k : Nat) (w4 : Int32) (z1 z2 : Int64) (f g : Nat → Int64) (sz : Nat) (q : Int32) (v : Int64) (hbad : q < 0 ∨ nI k ≤ q) : Met l qy_M_alter qw_M_alter ({ frames := 0, cells := 0, slots := 0, locals := 0 }) (va_Pc [.ref o, .int q, .long v] (tq_rw (dC, dI) [(o, .inr (1, [.int w1, .int (nI n), .int (nI k), .int w4, .ref ca, .ref cb, .long z1, .long z2])), (ca, .inl (cA, (600, .inr (.inl f)))), (cb, .inl (cA, (40, .inr (.inl g))))] [(cA, .long)] sz)) (va_Ql (fun r (_ : Unit) => r = 0) (fun _ t => tq_in (dC, dI) [(o, .inr (1, [.int (nI 1), .int (nI n), .int (nI k), .int w4, .ref ca, .ref cb, .long z1, .long z2])), (ca, .inl (cA, (600, .inr (.inl f)))), (cb, .inl (cA, (40, .inr (.inl g))))] [(cA, .long)] (va_A [(o, .inr (1, [.int w1, .int (nI n), .int (nI k), .int w4, .ref ca, .ref cb, .long z1, .long z2])), (ca, .inl (cA, (600, .inr (.inl f)))), (cb, .inl (cA, (40, .inr (.inl g))))] sz) t) (va_A [(o, .inr (1, [.int w1, .int (nI n), .int (nI k), .int w4, .ref ca, .ref cb, .long z1, .long z2])), (ca, .inl (cA, (600, .inr (.inl f)))), (cb, .inl (cA, (40, .inr (.inl g))))] sz)) 0 0 (va_A [(o, .inr (1, [.int w1, .int (nI n), .int (nI k), .int w4, .ref ca, .ref cb, .long z1, .long z2])), (ca, .inl (cA, (600, .inr (.inl f)))), (cb, .inl (cA, (40, .inr (.inl g))))] sz) := by
  refine Met.ofW (cc := qc_M_alter) (maxL := 6) (ret := (some .long)) (by decide) rfl ?_
  intro p e s m args below meth c s₁ B hml hv
  obtain ⟨rfl, hsz, hP, hK, hD0⟩ := hv
  have hx := B.exec
  have hb := B.bytes
  have hr := B.returns
  have hts := atoms_spec (ws := qw_M_alter) B.pre
  have hW : ∀ w ∈ tq_W, w.before ([.ref o, .int q, .long v] : List Value).toArray s = true := fun w h => hts w (List.mem_cons_of_mem _ h)
  have hown : s.vm.findClass RX1 = some m.cls := findClass_of_methodNamed B.named
  have hlocks := B.notSynchronized
  have hl := lv_entry ([.ref o, .int q, .long v]) (n := 6) (Nat.le_of_ble_eq_true rfl)
  rw [lg_entry_eq]
  generalize (lg_sl ([.ref o, .int q, .long v]) ++ List.replicate (6 - (lg_sl ([.ref o, .int q, .long v])).length) Slot.unset).toArray = ls at hl ⊢
  have hl : lv_has ls 6 [(0, .ref o), (1, .int q), (2, .long v)] := hl
  subst hsz
  have hD := hD0.self (sz := s.heap.size)
  generalize hAe : va_A [(o, .inr (1, [.int w1, .int (nI n), .int (nI k), .int w4, .ref ca, .ref cb, .long z1, .long z2])), (ca, .inl (cA, (600, .inr (.inl f)))), (cb, .inl (cA, (40, .inr (.inl g))))] s.heap.size = A at hD ⊢
  have hA : ∀ q : Nat, s.heap.size ≤ q → A q := fun q h => by rw [← hAe]; exact Or.inr h
  have hS : va_S A s.heap s.heap [] := va_S.rf
  refine lv_aload_n hx hb qd_M_alter_0 rfl (lv_at hl 0 rfl) ?_
  refine lv_iload_n hx hb qd_M_alter_1 rfl (lv_at hl 1 rfl) ?_
  refine lv_if_lt (tgt := 13) hx hb qd_M_alter_2 (by decide) (fun c1 => ?_) (fun c1 => ?_)
  · refine lv_iconst (v := nI 1) hx hb qd_M_alter_13 (by decide +kernel) ?_
    refine lv_goto (tgt := 18) hx hb qd_M_alter_14 (by decide) ?_
    refine va_put (D := (dC, dI)) (ci := 1) (v := .int (nI 1)) (ty := .int) (C := RX1) (T := TX1) (N := 8) hx hb hW inX1 tyX1 tyX1_ok nmX1 hown hK hP hD hS 0 rfl rfl 0 (by decide) (hW _ qm_281) (fun _ h9 => h9) rfl (by decide +kernel) rfl rfl (Nat.le_of_ble_eq_true rfl) qd_M_alter_18 (fun H locs hP hD hS => ?_)
    have hP : va_P (dC, dI) tq_cl [(o, .inr (1, [.int (nI 1), .int (nI n), .int (nI k), .int w4, .ref ca, .ref cb, .long z1, .long z2])), (ca, .inl (cA, (600, .inr (.inl f)))), (cb, .inl (cA, (40, .inr (.inl g))))] H := hP
    have hD : va_D A [(o, .inr (1, [.int (nI 1), .int (nI n), .int (nI k), .int w4, .ref ca, .ref cb, .long z1, .long z2])), (ca, .inl (cA, (600, .inr (.inl f)))), (cb, .inl (cA, (40, .inr (.inl g))))] := hD
    refine lv_aload_n hx hb qd_M_alter_21 rfl (lv_at hl 0 rfl) ?_
    refine va_get (D := (dC, dI)) (ci := 1) (v := .int (nI 1)) (C := RX1) (T := TX1) (N := 8) hx hb hW inX1 hown hK hP 0 rfl rfl 0 (by decide) (hW _ qm_281) (fun _ h9 => h9) rfl qd_M_alter_22 ?_
    refine tq_if_le (x := 1) (tgt := 30) hx hb qd_M_alter_25 (by decide) (by omega) (fun c9 => by omega) (fun c9 => ?_)
    refine lv_lconst (v := 0) hx hb qd_M_alter_28 (by decide) ?_
    exact W.lret hx hb hr (fun t ht hW9 => ⟨⟨_, (), rfl, rfl, by rw [ht]; exact hP, va_K.moved hW9.alike hK, hD⟩, hS.F ht⟩) hS.2.2 qd_M_alter_29
  · have h9 : ¬ q < nI k := fun h8 => tq_nle h8 (hbad.elim (fun h => absurd h c1) id)
    refine lv_iload_n hx hb qd_M_alter_5 rfl (lv_at hl 1 rfl) ?_
    refine lv_aload_n hx hb qd_M_alter_6 rfl (lv_at hl 0 rfl) ?_
    refine va_get (D := (dC, dI)) (ci := 1) (v := .int (nI k)) (C := RX1) (T := TX1) (N := 8) hx hb hW inX1 hown hK hP 0 rfl rfl 2 (by decide) (hW _ qm_283) (fun _ h9 => h9) rfl qd_M_alter_7 ?_
    refine lv_icmp_lt (tgt := 17) hx hb qd_M_alter_10 (by decide) (fun c9 => absurd c9 (h9)) (fun c2 => ?_)
    refine lv_iconst (v := nI 1) hx hb qd_M_alter_13 (by decide +kernel) ?_
    refine lv_goto (tgt := 18) hx hb qd_M_alter_14 (by decide) ?_
    refine va_put (D := (dC, dI)) (ci := 1) (v := .int (nI 1)) (ty := .int) (C := RX1) (T := TX1) (N := 8) hx hb hW inX1 tyX1 tyX1_ok nmX1 hown hK hP hD hS 0 rfl rfl 0 (by decide) (hW _ qm_281) (fun _ h9 => h9) rfl (by decide +kernel) rfl rfl (Nat.le_of_ble_eq_true rfl) qd_M_alter_18 (fun H locs hP hD hS => ?_)
    have hP : va_P (dC, dI) tq_cl [(o, .inr (1, [.int (nI 1), .int (nI n), .int (nI k), .int w4, .ref ca, .ref cb, .long z1, .long z2])), (ca, .inl (cA, (600, .inr (.inl f)))), (cb, .inl (cA, (40, .inr (.inl g))))] H := hP
    have hD : va_D A [(o, .inr (1, [.int (nI 1), .int (nI n), .int (nI k), .int w4, .ref ca, .ref cb, .long z1, .long z2])), (ca, .inl (cA, (600, .inr (.inl f)))), (cb, .inl (cA, (40, .inr (.inl g))))] := hD
    refine lv_aload_n hx hb qd_M_alter_21 rfl (lv_at hl 0 rfl) ?_
    refine va_get (D := (dC, dI)) (ci := 1) (v := .int (nI 1)) (C := RX1) (T := TX1) (N := 8) hx hb hW inX1 hown hK hP 0 rfl rfl 0 (by decide) (hW _ qm_281) (fun _ h9 => h9) rfl qd_M_alter_22 ?_
    refine tq_if_le (x := 1) (tgt := 30) hx hb qd_M_alter_25 (by decide) (by omega) (fun c9 => by omega) (fun c9 => ?_)
    refine lv_lconst (v := 0) hx hb qd_M_alter_28 (by decide) ?_
    exact W.lret hx hb hr (fun t ht hW9 => ⟨⟨_, (), rfl, rfl, by rw [ht]; exact hP, va_K.moved hW9.alike hK, hD⟩, hS.F ht⟩) hS.2.2 qd_M_alter_29
set_option maxHeartbeats 4000000 in
set_option maxRecDepth 100000 in
theorem ct_M_length (l : Launch) (dC : Nat → ClassId) (dI : Nat → Nat → Nat) (o ca cb : Nat) (cA : ClassId) (w1 : Int32) (n k : Nat) (w4 : Int32) (z1 z2 : Int64) (f g : Nat → Int64) (sz : Nat) (j : Nat) (hj : j ≤ 40) (hk : k ≤ 40) : Met l qy_M_length qw_M_length ({ frames := 0, cells := 0, slots := 0, locals := 0 }) (va_Pc [.ref o, .int (nI j)] (tq_rw (dC, dI) [(o, .inr (1, [.int w1, .int (nI n), .int (nI k), .int w4, .ref ca, .ref cb, .long z1, .long z2])), (ca, .inl (cA, (600, .inr (.inl f)))), (cb, .inl (cA, (40, .inr (.inl g))))] [(cA, .long)] sz)) (va_Qi (fun r (_ : Unit) => r = nI k) (fun _ t => tq_in (dC, dI) [(o, .inr (1, [.int (nI 0), .int (nI n), .int (nI j), .int w4, .ref ca, .ref cb, .long z1, .long z2])), (ca, .inl (cA, (600, .inr (.inl f)))), (cb, .inl (cA, (40, .inr (.inl ((tq_fl g k (j - k) (fun _ => 0)))))))] [(cA, .long)] (va_A [(o, .inr (1, [.int w1, .int (nI n), .int (nI k), .int w4, .ref ca, .ref cb, .long z1, .long z2])), (ca, .inl (cA, (600, .inr (.inl f)))), (cb, .inl (cA, (40, .inr (.inl g))))] sz) t) (va_A [(o, .inr (1, [.int w1, .int (nI n), .int (nI k), .int w4, .ref ca, .ref cb, .long z1, .long z2])), (ca, .inl (cA, (600, .inr (.inl f)))), (cb, .inl (cA, (40, .inr (.inl g))))] sz)) 0 0 (va_A [(o, .inr (1, [.int w1, .int (nI n), .int (nI k), .int w4, .ref ca, .ref cb, .long z1, .long z2])), (ca, .inl (cA, (600, .inr (.inl f)))), (cb, .inl (cA, (40, .inr (.inl g))))] sz) := by
  refine Met.ofW (cc := qc_M_length) (maxL := 4) (ret := (some .int)) (by decide) rfl ?_
  intro p e s m args below meth c s₁ B hml hv
  obtain ⟨rfl, hsz, hP, hK, hD0⟩ := hv
  have hx := B.exec
  have hb := B.bytes
  have hr := B.returns
  have hts := atoms_spec (ws := qw_M_length) B.pre
  have hW : ∀ w ∈ tq_W, w.before ([.ref o, .int (nI j)] : List Value).toArray s = true := fun w h => hts w (List.mem_cons_of_mem _ h)
  have hown : s.vm.findClass RX1 = some m.cls := findClass_of_methodNamed B.named
  have hlocks := B.notSynchronized
  have hl := lv_entry ([.ref o, .int (nI j)]) (n := 4) (Nat.le_of_ble_eq_true rfl)
  rw [lg_entry_eq]
  generalize (lg_sl ([.ref o, .int (nI j)]) ++ List.replicate (4 - (lg_sl ([.ref o, .int (nI j)])).length) Slot.unset).toArray = ls at hl ⊢
  have hl : lv_has ls 4 [(0, .ref o), (1, .int (nI j))] := hl
  subst hsz
  have hD := hD0.self (sz := s.heap.size)
  generalize hAe : va_A [(o, .inr (1, [.int w1, .int (nI n), .int (nI k), .int w4, .ref ca, .ref cb, .long z1, .long z2])), (ca, .inl (cA, (600, .inr (.inl f)))), (cb, .inl (cA, (40, .inr (.inl g))))] s.heap.size = A at hD ⊢
  have hA : ∀ q : Nat, s.heap.size ≤ q → A q := fun q h => by rw [← hAe]; exact Or.inr h
  have hS : va_S A s.heap s.heap [] := va_S.rf
  have loop : ∀ (t i : Nat), i + t = j - k → ∀ (H : Heap) (locs : List Loc), va_P (dC, dI) tq_cl [(o, .inr (1, [.int (nI 0), .int (nI n), .int (nI k), .int w4, .ref ca, .ref cb, .long z1, .long z2])), (ca, .inl (cA, (600, .inr (.inl f)))), (cb, .inl (cA, (40, .inr (.inl ((tq_fl g k i (fun _ => 0)))))))] H → va_D A [(o, .inr (1, [.int (nI 0), .int (nI n), .int (nI k), .int w4, .ref ca, .ref cb, .long z1, .long z2])), (ca, .inl (cA, (600, .inr (.inl f)))), (cb, .inl (cA, (40, .inr (.inl ((tq_fl g k i (fun _ => 0)))))))] → va_S A s.heap H locs → ∀ ls : Array Slot, lv_has ls 4 [(3, .int (nI (k + i))), (2, .int (nI k)), (0, .ref o), (1, .int (nI j))] → W p l e (headSpec qw_M_length ({ frames := 0, cells := 0, slots := 0, locals := 0 })).room s m ([.ref o, .int (nI j)] : List Value).toArray below meth c H locs 0 0 (MQ below (va_Qi (fun r (_ : Unit) => r = nI k) (fun _ t => tq_in (dC, dI) [(o, .inr (1, [.int (nI 0), .int (nI n), .int (nI j), .int w4, .ref ca, .ref cb, .long z1, .long z2])), (ca, .inl (cA, (600, .inr (.inl f)))), (cb, .inl (cA, (40, .inr (.inl ((tq_fl g k (j - k) (fun _ => 0)))))))] [(cA, .long)] A t) A) ([.ref o, .int (nI j)] : List Value).toArray s 0 0 A) (F0 m 35 ls []) := by
    intro t
    induction t with
    | zero =>
      intro i hi H locs hP hD hS ls hl
      obtain rfl : i = j - k := by omega
      refine lv_iload_n hx hb qd_M_length_35 rfl (lv_at hl 0 rfl) ?_
      refine lv_iload_n hx hb qd_M_length_36 rfl (lv_at hl 3 rfl) ?_
      refine tq_icmp_ge (x := (k + (j - k))) (y := j) (tgt := 53) hx hb qd_M_length_37 (by decide) (by omega) (by omega) (fun c9 => ?_) (fun c9 => by omega)
      refine lv_aload_n hx hb qd_M_length_53 rfl (lv_at hl 2 rfl) ?_
      refine lv_iload_n hx hb qd_M_length_54 rfl (lv_at hl 3 rfl) ?_
      refine va_put (D := (dC, dI)) (ci := 1) (v := .int (nI j)) (ty := .int) (C := RX1) (T := TX1) (N := 8) hx hb hW inX1 tyX1 tyX1_ok nmX1 hown hK hP hD hS 0 rfl rfl 2 (by decide) (hW _ qm_283) (fun _ h9 => h9) rfl (by decide +kernel) rfl rfl (Nat.le_of_ble_eq_true rfl) qd_M_length_55 (fun H locs hP hD hS => ?_)
      have hP : va_P (dC, dI) tq_cl [(o, .inr (1, [.int (nI 0), .int (nI n), .int (nI j), .int w4, .ref ca, .ref cb, .long z1, .long z2])), (ca, .inl (cA, (600, .inr (.inl f)))), (cb, .inl (cA, (40, .inr (.inl ((tq_fl g k (j - k) (fun _ => 0)))))))] H := hP
      have hD : va_D A [(o, .inr (1, [.int (nI 0), .int (nI n), .int (nI j), .int w4, .ref ca, .ref cb, .long z1, .long z2])), (ca, .inl (cA, (600, .inr (.inl f)))), (cb, .inl (cA, (40, .inr (.inl ((tq_fl g k (j - k) (fun _ => 0)))))))] := hD
      refine lv_iload_n hx hb qd_M_length_58 rfl (lv_at hl 1 rfl) ?_
      exact W.iret hx hb hr (fun t ht hW9 => ⟨⟨_, (), rfl, rfl, by rw [ht]; exact hP, va_K.moved hW9.alike hK, hD⟩, hS.F ht⟩) hS.2.2 qd_M_length_59
    | succ t ih =>
      intro i hi H locs hP hD hS ls hl
      refine lv_iload_n hx hb qd_M_length_35 rfl (lv_at hl 0 rfl) ?_
      refine lv_iload_n hx hb qd_M_length_36 rfl (lv_at hl 3 rfl) ?_
      refine tq_icmp_ge (x := (k + i)) (y := j) (tgt := 53) hx hb qd_M_length_37 (by decide) (by omega) (by omega) (fun c9 => by omega) (fun c9 => ?_)
      refine lv_aload_n hx hb qd_M_length_40 rfl (lv_at hl 2 rfl) ?_
      refine va_get (D := (dC, dI)) (ci := 1) (v := .ref cb) (C := RX1) (T := TX1) (N := 8) hx hb hW inX1 hown hK hP 0 rfl rfl 5 (by decide) (hW _ qm_286) (fun _ h9 => h9) rfl qd_M_length_41 ?_
      refine lv_iload_n hx hb qd_M_length_44 rfl (lv_at hl 0 rfl) ?_
      refine lv_lconst (v := 0) hx hb qd_M_length_45 (by decide) ?_
      refine tq_last hx hb hK hP hD hS 2 0 rfl rfl (j := ((k + i))) (x := 0) (by omega) (by decide) qd_M_length_46 (fun H locs hP hD hS => ?_)
      have hP : va_P (dC, dI) tq_cl [(o, .inr (1, [.int (nI 0), .int (nI n), .int (nI k), .int w4, .ref ca, .ref cb, .long z1, .long z2])), (ca, .inl (cA, (600, .inr (.inl f)))), (cb, .inl (cA, (40, .inr (.inl (vp_updL ((tq_fl g k i (fun _ => 0))) ((k + i)) 0)))))] H := hP
      have hD : va_D A [(o, .inr (1, [.int (nI 0), .int (nI n), .int (nI k), .int w4, .ref ca, .ref cb, .long z1, .long z2])), (ca, .inl (cA, (600, .inr (.inl f)))), (cb, .inl (cA, (40, .inr (.inl (vp_updL ((tq_fl g k i (fun _ => 0))) ((k + i)) 0)))))] := hD
      rw [tq_fl_s g k i (fun _ => 0)] at hP hD
      refine lv_iinc (v := (nI (k + (i + 1)))) (lv' := [(3, .int (nI (k + (i + 1)))), (2, .int (nI k)), (0, .ref o), (1, .int (nI j))]) hx hb qd_M_length_47 hl (k := 0) rfl (nI_1 (k + i)) (by decide) rfl (fun ls hl => ?_)
      refine lv_goto (tgt := 35) hx hb qd_M_length_50 (by decide) ?_
      exact ih (i + 1) (by omega) _ _ hP hD hS ls (lv_sub hl [0, 1, 2, 3] rfl)
  refine lv_aload_n hx hb qd_M_length_0 rfl (lv_at hl 0 rfl) ?_
  refine lv_iload_n hx hb qd_M_length_1 rfl (lv_at hl 1 rfl) ?_
  refine tq_if_lt (x := j) (tgt := 11) hx hb qd_M_length_2 (by decide) (by omega) ?_
  refine lv_iload_n hx hb qd_M_length_5 rfl (lv_at hl 1 rfl) ?_
  refine lv_bipush (v := nI 40) hx hb qd_M_length_6 (by decide +kernel) ?_
  refine tq_icmp_le (x := j) (y := 40) (tgt := 15) hx hb qd_M_length_8 (by decide) (by omega) (by omega) (fun c9 => ?_) (fun c9 => by omega)
  refine lv_iconst (v := nI 0) hx hb qd_M_length_15 (by decide +kernel) ?_
  refine va_put (D := (dC, dI)) (ci := 1) (v := .int (nI 0)) (ty := .int) (C := RX1) (T := TX1) (N := 8) hx hb hW inX1 tyX1 tyX1_ok nmX1 hown hK hP hD hS 0 rfl rfl 0 (by decide) (hW _ qm_281) (fun _ h9 => h9) rfl (by decide +kernel) rfl rfl (Nat.le_of_ble_eq_true rfl) qd_M_length_16 (fun H locs hP hD hS => ?_)
  have hP : va_P (dC, dI) tq_cl [(o, .inr (1, [.int (nI 0), .int (nI n), .int (nI k), .int w4, .ref ca, .ref cb, .long z1, .long z2])), (ca, .inl (cA, (600, .inr (.inl f)))), (cb, .inl (cA, (40, .inr (.inl g))))] H := hP
  have hD : va_D A [(o, .inr (1, [.int (nI 0), .int (nI n), .int (nI k), .int w4, .ref ca, .ref cb, .long z1, .long z2])), (ca, .inl (cA, (600, .inr (.inl f)))), (cb, .inl (cA, (40, .inr (.inl g))))] := hD
  refine lv_aload_n hx hb qd_M_length_19 rfl (lv_at hl 0 rfl) ?_
  refine va_get (D := (dC, dI)) (ci := 1) (v := .int (nI 0)) (C := RX1) (T := TX1) (N := 8) hx hb hW inX1 hown hK hP 0 rfl rfl 0 (by decide) (hW _ qm_281) (fun _ h9 => h9) rfl qd_M_length_20 ?_
  refine tq_if_le (x := 0) (tgt := 28) hx hb qd_M_length_23 (by decide) (by omega) (fun c9 => ?_) (fun c9 => by omega)
  refine lv_aload_n hx hb qd_M_length_28 rfl (lv_at hl 0 rfl) ?_
  refine va_get (D := (dC, dI)) (ci := 1) (v := .int (nI k)) (C := RX1) (T := TX1) (N := 8) hx hb hW inX1 hown hK hP 0 rfl rfl 2 (by decide) (hW _ qm_283) (fun _ h9 => h9) rfl qd_M_length_29 ?_
  refine lv_istore_n (lv' := [(2, .int (nI k)), (0, .ref o), (1, .int (nI j))]) hx hb qd_M_length_32 rfl hl (by decide) rfl (fun ls hl => ?_)
  refine lv_iload_n hx hb qd_M_length_33 rfl (lv_at hl 0 rfl) ?_
  refine tq_ti (y := nI (k + 0)) (rfl) ?_
  refine lv_istore_n (lv' := [(3, .int (nI (k + 0))), (2, .int (nI k)), (0, .ref o), (1, .int (nI j))]) hx hb qd_M_length_34 rfl hl (by decide) rfl (fun ls hl => ?_)
  exact loop (j - k) 0 (Nat.zero_add _) _ _ (by rw [tq_fl_0]; exact hP) (by rw [tq_fl_0]; exact hD) hS ls (lv_sub hl [0, 1, 2, 3] rfl)
set_option maxHeartbeats 4000000 in
set_option maxRecDepth 100000 in
theorem ct_M_length_no (l : Launch) (dC : Nat → ClassId) (dI : Nat → Nat → Nat) (o ca cb : Nat) (cA : ClassId) (w1 : Int32) (n k : Nat) (w4 : Int32) (z1 z2 : Int64) (f g : Nat → Int64) (sz : Nat) (q : Int32) (hbad : q < 0 ∨ nI 40 < q) : Met l qy_M_length qw_M_length ({ frames := 0, cells := 0, slots := 0, locals := 0 }) (va_Pc [.ref o, .int q] (tq_rw (dC, dI) [(o, .inr (1, [.int w1, .int (nI n), .int (nI k), .int w4, .ref ca, .ref cb, .long z1, .long z2])), (ca, .inl (cA, (600, .inr (.inl f)))), (cb, .inl (cA, (40, .inr (.inl g))))] [(cA, .long)] sz)) (va_Qi (fun r (_ : Unit) => r = nI 0) (fun _ t => tq_in (dC, dI) [(o, .inr (1, [.int (nI 1), .int (nI n), .int (nI k), .int w4, .ref ca, .ref cb, .long z1, .long z2])), (ca, .inl (cA, (600, .inr (.inl f)))), (cb, .inl (cA, (40, .inr (.inl g))))] [(cA, .long)] (va_A [(o, .inr (1, [.int w1, .int (nI n), .int (nI k), .int w4, .ref ca, .ref cb, .long z1, .long z2])), (ca, .inl (cA, (600, .inr (.inl f)))), (cb, .inl (cA, (40, .inr (.inl g))))] sz) t) (va_A [(o, .inr (1, [.int w1, .int (nI n), .int (nI k), .int w4, .ref ca, .ref cb, .long z1, .long z2])), (ca, .inl (cA, (600, .inr (.inl f)))), (cb, .inl (cA, (40, .inr (.inl g))))] sz)) 0 0 (va_A [(o, .inr (1, [.int w1, .int (nI n), .int (nI k), .int w4, .ref ca, .ref cb, .long z1, .long z2])), (ca, .inl (cA, (600, .inr (.inl f)))), (cb, .inl (cA, (40, .inr (.inl g))))] sz) := by
  refine Met.ofW (cc := qc_M_length) (maxL := 4) (ret := (some .int)) (by decide) rfl ?_
  intro p e s m args below meth c s₁ B hml hv
  obtain ⟨rfl, hsz, hP, hK, hD0⟩ := hv
  have hx := B.exec
  have hb := B.bytes
  have hr := B.returns
  have hts := atoms_spec (ws := qw_M_length) B.pre
  have hW : ∀ w ∈ tq_W, w.before ([.ref o, .int q] : List Value).toArray s = true := fun w h => hts w (List.mem_cons_of_mem _ h)
  have hown : s.vm.findClass RX1 = some m.cls := findClass_of_methodNamed B.named
  have hlocks := B.notSynchronized
  have hl := lv_entry ([.ref o, .int q]) (n := 4) (Nat.le_of_ble_eq_true rfl)
  rw [lg_entry_eq]
  generalize (lg_sl ([.ref o, .int q]) ++ List.replicate (4 - (lg_sl ([.ref o, .int q])).length) Slot.unset).toArray = ls at hl ⊢
  have hl : lv_has ls 4 [(0, .ref o), (1, .int q)] := hl
  subst hsz
  have hD := hD0.self (sz := s.heap.size)
  generalize hAe : va_A [(o, .inr (1, [.int w1, .int (nI n), .int (nI k), .int w4, .ref ca, .ref cb, .long z1, .long z2])), (ca, .inl (cA, (600, .inr (.inl f)))), (cb, .inl (cA, (40, .inr (.inl g))))] s.heap.size = A at hD ⊢
  have hA : ∀ q : Nat, s.heap.size ≤ q → A q := fun q h => by rw [← hAe]; exact Or.inr h
  have hS : va_S A s.heap s.heap [] := va_S.rf
  refine lv_aload_n hx hb qd_M_length_0 rfl (lv_at hl 0 rfl) ?_
  refine lv_iload_n hx hb qd_M_length_1 rfl (lv_at hl 1 rfl) ?_
  refine lv_if_lt (tgt := 11) hx hb qd_M_length_2 (by decide) (fun c1 => ?_) (fun c1 => ?_)
  · refine lv_iconst (v := nI 1) hx hb qd_M_length_11 (by decide +kernel) ?_
    refine lv_goto (tgt := 16) hx hb qd_M_length_12 (by decide) ?_
    refine va_put (D := (dC, dI)) (ci := 1) (v := .int (nI 1)) (ty := .int) (C := RX1) (T := TX1) (N := 8) hx hb hW inX1 tyX1 tyX1_ok nmX1 hown hK hP hD hS 0 rfl rfl 0 (by decide) (hW _ qm_281) (fun _ h9 => h9) rfl (by decide +kernel) rfl rfl (Nat.le_of_ble_eq_true rfl) qd_M_length_16 (fun H locs hP hD hS => ?_)
    have hP : va_P (dC, dI) tq_cl [(o, .inr (1, [.int (nI 1), .int (nI n), .int (nI k), .int w4, .ref ca, .ref cb, .long z1, .long z2])), (ca, .inl (cA, (600, .inr (.inl f)))), (cb, .inl (cA, (40, .inr (.inl g))))] H := hP
    have hD : va_D A [(o, .inr (1, [.int (nI 1), .int (nI n), .int (nI k), .int w4, .ref ca, .ref cb, .long z1, .long z2])), (ca, .inl (cA, (600, .inr (.inl f)))), (cb, .inl (cA, (40, .inr (.inl g))))] := hD
    refine lv_aload_n hx hb qd_M_length_19 rfl (lv_at hl 0 rfl) ?_
    refine va_get (D := (dC, dI)) (ci := 1) (v := .int (nI 1)) (C := RX1) (T := TX1) (N := 8) hx hb hW inX1 hown hK hP 0 rfl rfl 0 (by decide) (hW _ qm_281) (fun _ h9 => h9) rfl qd_M_length_20 ?_
    refine tq_if_le (x := 1) (tgt := 28) hx hb qd_M_length_23 (by decide) (by omega) (fun c9 => by omega) (fun c9 => ?_)
    refine lv_iconst (v := nI 0) hx hb qd_M_length_26 (by decide +kernel) ?_
    exact W.iret hx hb hr (fun t ht hW9 => ⟨⟨_, (), rfl, rfl, by rw [ht]; exact hP, va_K.moved hW9.alike hK, hD⟩, hS.F ht⟩) hS.2.2 qd_M_length_27
  · have h9 : ¬ q ≤ nI 40 := tq_nle (hbad.elim (fun h => absurd h c1) id)
    refine lv_iload_n hx hb qd_M_length_5 rfl (lv_at hl 1 rfl) ?_
    refine lv_bipush (v := nI 40) hx hb qd_M_length_6 (by decide +kernel) ?_
    refine lv_icmp_le (tgt := 15) hx hb qd_M_length_8 (by decide) (fun c9 => absurd c9 (h9)) (fun c2 => ?_)
    refine lv_iconst (v := nI 1) hx hb qd_M_length_11 (by decide +kernel) ?_
    refine lv_goto (tgt := 16) hx hb qd_M_length_12 (by decide) ?_
    refine va_put (D := (dC, dI)) (ci := 1) (v := .int (nI 1)) (ty := .int) (C := RX1) (T := TX1) (N := 8) hx hb hW inX1 tyX1 tyX1_ok nmX1 hown hK hP hD hS 0 rfl rfl 0 (by decide) (hW _ qm_281) (fun _ h9 => h9) rfl (by decide +kernel) rfl rfl (Nat.le_of_ble_eq_true rfl) qd_M_length_16 (fun H locs hP hD hS => ?_)
    have hP : va_P (dC, dI) tq_cl [(o, .inr (1, [.int (nI 1), .int (nI n), .int (nI k), .int w4, .ref ca, .ref cb, .long z1, .long z2])), (ca, .inl (cA, (600, .inr (.inl f)))), (cb, .inl (cA, (40, .inr (.inl g))))] H := hP
    have hD : va_D A [(o, .inr (1, [.int (nI 1), .int (nI n), .int (nI k), .int w4, .ref ca, .ref cb, .long z1, .long z2])), (ca, .inl (cA, (600, .inr (.inl f)))), (cb, .inl (cA, (40, .inr (.inl g))))] := hD
    refine lv_aload_n hx hb qd_M_length_19 rfl (lv_at hl 0 rfl) ?_
    refine va_get (D := (dC, dI)) (ci := 1) (v := .int (nI 1)) (C := RX1) (T := TX1) (N := 8) hx hb hW inX1 hown hK hP 0 rfl rfl 0 (by decide) (hW _ qm_281) (fun _ h9 => h9) rfl qd_M_length_20 ?_
    refine tq_if_le (x := 1) (tgt := 28) hx hb qd_M_length_23 (by decide) (by omega) (fun c9 => by omega) (fun c9 => ?_)
    refine lv_iconst (v := nI 0) hx hb qd_M_length_26 (by decide +kernel) ?_
    exact W.iret hx hb hr (fun t ht hW9 => ⟨⟨_, (), rfl, rfl, by rw [ht]; exact hP, va_K.moved hW9.alike hK, hD⟩, hS.F ht⟩) hS.2.2 qd_M_length_27
set_option maxHeartbeats 4000000 in
set_option maxRecDepth 100000 in
theorem ct_M_find (l : Launch) (dC : Nat → ClassId) (dI : Nat → Nat → Nat) (o ca cb : Nat) (cA : ClassId) (w1 : Int32) (n k : Nat) (w4 : Int32) (z1 z2 : Int64) (f g : Nat → Int64) (sz : Nat) (j : Nat) (v : Int64) (hj : j ≤ n) (hn : n ≤ 600) : Met l qy_M_find qw_M_find ({ frames := 1, cells := 0, slots := 0, locals := 40 }) (va_Pc [.ref o, .int (nI j), .long v] (tq_rw (dC, dI) [(o, .inr (1, [.int w1, .int (nI n), .int (nI k), .int w4, .ref ca, .ref cb, .long z1, .long z2])), (ca, .inl (cA, (600, .inr (.inl f)))), (cb, .inl (cA, (40, .inr (.inl g))))] [(cA, .long)] sz)) (va_Qi (fun r (_ : Unit) => r = tq_fd (fun j => tq_leaf (f j)) (tq_leaf v) j 0) (fun _ t => tq_in (dC, dI) [(o, .inr (1, [.int (nI 0), .int (nI n), .int (nI k), .int w4, .ref ca, .ref cb, .long z1, .long z2])), (ca, .inl (cA, (600, .inr (.inl f)))), (cb, .inl (cA, (40, .inr (.inl g))))] [(cA, .long)] (va_A [(o, .inr (1, [.int w1, .int (nI n), .int (nI k), .int w4, .ref ca, .ref cb, .long z1, .long z2])), (ca, .inl (cA, (600, .inr (.inl f)))), (cb, .inl (cA, (40, .inr (.inl g))))] sz) t) (va_A [(o, .inr (1, [.int w1, .int (nI n), .int (nI k), .int w4, .ref ca, .ref cb, .long z1, .long z2])), (ca, .inl (cA, (600, .inr (.inl f)))), (cb, .inl (cA, (40, .inr (.inl g))))] sz)) 0 0 (va_A [(o, .inr (1, [.int w1, .int (nI n), .int (nI k), .int w4, .ref ca, .ref cb, .long z1, .long z2])), (ca, .inl (cA, (600, .inr (.inl f)))), (cb, .inl (cA, (40, .inr (.inl g))))] sz) := by
  refine Met.ofW (cc := qc_M_find) (maxL := 5) (ret := (some .int)) (by decide) rfl ?_
  intro p e s m args below meth c s₁ B hml hv
  obtain ⟨rfl, hsz, hP, hK, hD0⟩ := hv
  have hx := B.exec
  have hb := B.bytes
  have hr := B.returns
  have hts := atoms_spec (ws := qw_M_find) B.pre
  have hW : ∀ w ∈ tq_W, w.before ([.ref o, .int (nI j), .long v] : List Value).toArray s = true := fun w h => hts w (List.mem_cons_of_mem _ h)
  have hown : s.vm.findClass RX1 = some m.cls := findClass_of_methodNamed B.named
  have hlocks := B.notSynchronized
  have hl := lv_entry ([.ref o, .int (nI j), .long v]) (n := 5) (Nat.le_of_ble_eq_true rfl)
  rw [lg_entry_eq]
  generalize (lg_sl ([.ref o, .int (nI j), .long v]) ++ List.replicate (5 - (lg_sl ([.ref o, .int (nI j), .long v])).length) Slot.unset).toArray = ls at hl ⊢
  have hl : lv_has ls 5 [(0, .ref o), (1, .int (nI j)), (2, .long v)] := hl
  subst hsz
  have hD := hD0.self (sz := s.heap.size)
  generalize hAe : va_A [(o, .inr (1, [.int w1, .int (nI n), .int (nI k), .int w4, .ref ca, .ref cb, .long z1, .long z2])), (ca, .inl (cA, (600, .inr (.inl f)))), (cb, .inl (cA, (40, .inr (.inl g))))] s.heap.size = A at hD ⊢
  have hA : ∀ q : Nat, s.heap.size ≤ q → A q := fun q h => by rw [← hAe]; exact Or.inr h
  have hS : va_S A s.heap s.heap [] := va_S.rf
  have loop : ∀ (t i : Nat), i + t = j → tq_fd (fun j => tq_leaf (f j)) (tq_leaf v) t i = tq_fd (fun j => tq_leaf (f j)) (tq_leaf v) j 0 → ∀ (H : Heap) (locs : List Loc), va_P (dC, dI) tq_cl [(o, .inr (1, [.int (nI 0), .int (nI n), .int (nI k), .int w4, .ref ca, .ref cb, .long z1, .long z2])), (ca, .inl (cA, (600, .inr (.inl f)))), (cb, .inl (cA, (40, .inr (.inl g))))] H → va_D A [(o, .inr (1, [.int (nI 0), .int (nI n), .int (nI k), .int w4, .ref ca, .ref cb, .long z1, .long z2])), (ca, .inl (cA, (600, .inr (.inl f)))), (cb, .inl (cA, (40, .inr (.inl g))))] → va_S A s.heap H locs → ∀ ls : Array Slot, lv_has ls 5 [(4, .int (nI i)), (0, .ref o), (1, .int (nI j)), (2, .long v)] → W p l e (headSpec qw_M_find ({ frames := 1, cells := 0, slots := 0, locals := 40 })).room s m ([.ref o, .int (nI j), .long v] : List Value).toArray below meth c H locs 0 0 (MQ below (va_Qi (fun r (_ : Unit) => r = tq_fd (fun j => tq_leaf (f j)) (tq_leaf v) j 0) (fun _ t => tq_in (dC, dI) [(o, .inr (1, [.int (nI 0), .int (nI n), .int (nI k), .int w4, .ref ca, .ref cb, .long z1, .long z2])), (ca, .inl (cA, (600, .inr (.inl f)))), (cb, .inl (cA, (40, .inr (.inl g))))] [(cA, .long)] A t) A) ([.ref o, .int (nI j), .long v] : List Value).toArray s 0 0 A) (F0 m 24 ls []) := by
    intro t
    induction t with
    | zero =>
      intro i hi hq H locs hP hD hS ls hl
      refine lv_iload hx hb qd_M_find_24 (lv_at hl 0 rfl) ?_
      refine lv_iload_n hx hb qd_M_find_26 rfl (lv_at hl 2 rfl) ?_
      refine tq_icmp_ge (x := i) (y := j) (tgt := 66) hx hb qd_M_find_27 (by decide) (by omega) (by omega) (fun c9 => ?_) (fun c9 => by omega)
      refine lv_aload_n hx hb qd_M_find_66 rfl (lv_at hl 1 rfl) ?_
      refine va_get (D := (dC, dI)) (ci := 1) (v := .int (nI 0)) (C := RX1) (T := TX1) (N := 8) hx hb hW inX1 hown hK hP 0 rfl rfl 0 (by decide) (hW _ qm_281) (fun _ h9 => h9) rfl qd_M_find_67 ?_
      refine tq_if_le (x := 0) (tgt := 77) hx hb qd_M_find_70 (by decide) (by omega) (fun c9 => ?_) (fun c9 => by omega)
      refine lv_iconst (v := (-1)) hx hb qd_M_find_77 (by decide +kernel) ?_
      exact W.iret hx hb hr (fun t ht hW9 => ⟨⟨_, (), rfl, hq, by rw [ht]; exact hP, va_K.moved hW9.alike hK, hD⟩, hS.F ht⟩) hS.2.2 qd_M_find_78
    | succ t ih =>
      intro i hi hq H locs hP hD hS ls hl
      refine lv_iload hx hb qd_M_find_24 (lv_at hl 0 rfl) ?_
      refine lv_iload_n hx hb qd_M_find_26 rfl (lv_at hl 2 rfl) ?_
      refine tq_icmp_ge (x := i) (y := j) (tgt := 66) hx hb qd_M_find_27 (by decide) (by omega) (by omega) (fun c9 => by omega) (fun c9 => ?_)
      refine lv_aload_n hx hb qd_M_find_30 rfl (lv_at hl 1 rfl) ?_
      refine va_get (D := (dC, dI)) (ci := 1) (v := .int (nI 0)) (C := RX1) (T := TX1) (N := 8) hx hb hW inX1 hown hK hP 0 rfl rfl 0 (by decide) (hW _ qm_281) (fun _ h9 => h9) rfl qd_M_find_31 ?_
      refine tq_if_ne (x := 0) (tgt := 66) hx hb qd_M_find_34 (by decide) (by omega) (fun c9 => by omega) (fun c1 => ?_)
      refine lv_lconst (v := 1) hx hb qd_M_find_37 (by decide) ?_
      refine lv_aload_n hx hb qd_M_find_38 rfl (lv_at hl 1 rfl) ?_
      refine va_get (D := (dC, dI)) (ci := 1) (v := .ref ca) (C := RX1) (T := TX1) (N := 8) hx hb hW inX1 hown hK hP 0 rfl rfl 4 (by decide) (hW _ qm_285) (fun _ h9 => h9) rfl qd_M_find_39 ?_
      refine lv_iload hx hb qd_M_find_42 (lv_at hl 0 rfl) ?_
      refine tq_lald hx hb hK hP 1 0 rfl rfl (j := i) (by omega) (by decide) qd_M_find_44 ?_
      refine vp_callSl (W.runS (As := [.long 1, .long (f i)]) (rest := []) ⟨hx, hb, hml, hown, hW⟩ (ct_M_mix l 1 (f i)) (cwS 2 hW (tq_gS qm_330 qm_331 qm_2 qm_332) rfl rfl rfl (by decide +kernel) ⟨Nat.le_of_ble_eq_true rfl, Nat.le_of_ble_eq_true rfl⟩) ⟨tq_b0, fun U hU hW9 => ⟨rfl, trivial⟩⟩ rfl rfl hl.1 rfl (lv_room (Nat.le_of_ble_eq_true rfl)) qd_M_find_45 ⟨Nat.le_of_ble_eq_true rfl, Nat.le_of_ble_eq_true rfl⟩) (fun r9 e9 => ?_)
      subst e9
      refine lv_lconst (v := 1) hx hb qd_M_find_48 (by decide) ?_
      refine lv_lload_n hx hb qd_M_find_49 rfl (lv_at hl 3 rfl) ?_
      refine vp_callSl (W.runS (As := [.long 1, .long v]) (rest := [.long (tq_mix 1 (f i))]) ⟨hx, hb, hml, hown, hW⟩ (ct_M_mix l 1 v) (cwS 2 hW (tq_gS qm_330 qm_331 qm_2 qm_332) rfl rfl rfl (by decide +kernel) ⟨Nat.le_of_ble_eq_true rfl, Nat.le_of_ble_eq_true rfl⟩) ⟨tq_b0, fun U hU hW9 => ⟨rfl, trivial⟩⟩ rfl rfl hl.1 rfl (lv_room (Nat.le_of_ble_eq_true rfl)) qd_M_find_50 ⟨Nat.le_of_ble_eq_true rfl, Nat.le_of_ble_eq_true rfl⟩) (fun r9 e9 => ?_)
      subst e9
      refine tq_lc_ne (tgt := 60) hx hb qd_M_find_53 qd_M_find_54 (by decide) (fun c9 => ?_) (fun c9 => ?_)
      · have c9 : tq_leaf (f i) ≠ tq_leaf v := c9
        refine lv_iinc (v := (nI (i + 1))) (lv' := [(4, .int (nI (i + 1))), (0, .ref o), (1, .int (nI j)), (2, .long v)]) hx hb qd_M_find_60 hl (k := 0) rfl (nI_1 i) (by decide) rfl (fun ls hl => ?_)
        refine lv_goto (tgt := 24) hx hb qd_M_find_63 (by decide) ?_
        exact ih (i + 1) (by omega) (by rw [← hq]; show _ = (if tq_leaf (f i) = tq_leaf v then nI i else _); rw [if_neg c9]) _ _ hP hD hS ls (lv_sub hl [0, 1, 2, 3] rfl)
      · have c9 : tq_leaf (f i) = tq_leaf v := c9
        refine lv_iload hx hb qd_M_find_57 (lv_at hl 0 rfl) ?_
        exact W.iret hx hb hr (fun t ht hW9 => ⟨⟨_, (), rfl, (by rw [← hq]; show _ = (if tq_leaf (f i) = tq_leaf v then nI i else _); rw [if_pos c9]), by rw [ht]; exact hP, va_K.moved hW9.alike hK, hD⟩, hS.F ht⟩) hS.2.2 qd_M_find_59
  refine lv_aload_n hx hb qd_M_find_0 rfl (lv_at hl 0 rfl) ?_
  refine lv_iload_n hx hb qd_M_find_1 rfl (lv_at hl 1 rfl) ?_
  refine tq_if_lt (x := j) (tgt := 13) hx hb qd_M_find_2 (by decide) (by omega) ?_
  refine lv_iload_n hx hb qd_M_find_5 rfl (lv_at hl 1 rfl) ?_
  refine lv_aload_n hx hb qd_M_find_6 rfl (lv_at hl 0 rfl) ?_
  refine va_get (D := (dC, dI)) (ci := 1) (v := .int (nI n)) (C := RX1) (T := TX1) (N := 8) hx hb hW inX1 hown hK hP 0 rfl rfl 1 (by decide) (hW _ qm_282) (fun _ h9 => h9) rfl qd_M_find_7 ?_
  refine tq_icmp_le (x := j) (y := n) (tgt := 17) hx hb qd_M_find_10 (by decide) (by omega) (by omega) (fun c9 => ?_) (fun c9 => by omega)
  refine lv_iconst (v := nI 0) hx hb qd_M_find_17 (by decide +kernel) ?_
  refine va_put (D := (dC, dI)) (ci := 1) (v := .int (nI 0)) (ty := .int) (C := RX1) (T := TX1) (N := 8) hx hb hW inX1 tyX1 tyX1_ok nmX1 hown hK hP hD hS 0 rfl rfl 0 (by decide) (hW _ qm_281) (fun _ h9 => h9) rfl (by decide +kernel) rfl rfl (Nat.le_of_ble_eq_true rfl) qd_M_find_18 (fun H locs hP hD hS => ?_)
  have hP : va_P (dC, dI) tq_cl [(o, .inr (1, [.int (nI 0), .int (nI n), .int (nI k), .int w4, .ref ca, .ref cb, .long z1, .long z2])), (ca, .inl (cA, (600, .inr (.inl f)))), (cb, .inl (cA, (40, .inr (.inl g))))] H := hP
  have hD : va_D A [(o, .inr (1, [.int (nI 0), .int (nI n), .int (nI k), .int w4, .ref ca, .ref cb, .long z1, .long z2])), (ca, .inl (cA, (600, .inr (.inl f)))), (cb, .inl (cA, (40, .inr (.inl g))))] := hD
  refine lv_iconst (v := nI 0) hx hb qd_M_find_21 (by decide +kernel) ?_
  refine lv_istore (lv' := [(4, .int (nI 0)), (0, .ref o), (1, .int (nI j)), (2, .long v)]) hx hb qd_M_find_22 hl (by decide) rfl (fun ls hl => ?_)
  exact loop j 0 (Nat.zero_add j) rfl _ _ hP hD hS ls (lv_sub hl [0, 1, 2, 3] rfl)
set_option maxHeartbeats 4000000 in
set_option maxRecDepth 100000 in
theorem ct_M_find_no (l : Launch) (dC : Nat → ClassId) (dI : Nat → Nat → Nat) (o ca cb : Nat) (cA : ClassId) (w1 : Int32) (n k : Nat) (w4 : Int32) (z1 z2 : Int64) (f g : Nat → Int64) (sz : Nat) (q : Int32) (v : Int64) (hbad : q < 0 ∨ nI n < q) : Met l qy_M_find qw_M_find ({ frames := 0, cells := 0, slots := 0, locals := 0 }) (va_Pc [.ref o, .int q, .long v] (tq_rw (dC, dI) [(o, .inr (1, [.int w1, .int (nI n), .int (nI k), .int w4, .ref ca, .ref cb, .long z1, .long z2])), (ca, .inl (cA, (600, .inr (.inl f)))), (cb, .inl (cA, (40, .inr (.inl g))))] [(cA, .long)] sz)) (va_Qi (fun r (_ : Unit) => r = nI 0) (fun _ t => tq_in (dC, dI) [(o, .inr (1, [.int (nI 1), .int (nI n), .int (nI k), .int w4, .ref ca, .ref cb, .long z1, .long z2])), (ca, .inl (cA, (600, .inr (.inl f)))), (cb, .inl (cA, (40, .inr (.inl g))))] [(cA, .long)] (va_A [(o, .inr (1, [.int w1, .int (nI n), .int (nI k), .int w4, .ref ca, .ref cb, .long z1, .long z2])), (ca, .inl (cA, (600, .inr (.inl f)))), (cb, .inl (cA, (40, .inr (.inl g))))] sz) t) (va_A [(o, .inr (1, [.int w1, .int (nI n), .int (nI k), .int w4, .ref ca, .ref cb, .long z1, .long z2])), (ca, .inl (cA, (600, .inr (.inl f)))), (cb, .inl (cA, (40, .inr (.inl g))))] sz)) 0 0 (va_A [(o, .inr (1, [.int w1, .int (nI n), .int (nI k), .int w4, .ref ca, .ref cb, .long z1, .long z2])), (ca, .inl (cA, (600, .inr (.inl f)))), (cb, .inl (cA, (40, .inr (.inl g))))] sz) := by
  refine Met.ofW (cc := qc_M_find) (maxL := 5) (ret := (some .int)) (by decide) rfl ?_
  intro p e s m args below meth c s₁ B hml hv
  obtain ⟨rfl, hsz, hP, hK, hD0⟩ := hv
  have hx := B.exec
  have hb := B.bytes
  have hr := B.returns
  have hts := atoms_spec (ws := qw_M_find) B.pre
  have hW : ∀ w ∈ tq_W, w.before ([.ref o, .int q, .long v] : List Value).toArray s = true := fun w h => hts w (List.mem_cons_of_mem _ h)
  have hown : s.vm.findClass RX1 = some m.cls := findClass_of_methodNamed B.named
  have hlocks := B.notSynchronized
  have hl := lv_entry ([.ref o, .int q, .long v]) (n := 5) (Nat.le_of_ble_eq_true rfl)
  rw [lg_entry_eq]
  generalize (lg_sl ([.ref o, .int q, .long v]) ++ List.replicate (5 - (lg_sl ([.ref o, .int q, .long v])).length) Slot.unset).toArray = ls at hl ⊢
  have hl : lv_has ls 5 [(0, .ref o), (1, .int q), (2, .long v)] := hl
  subst hsz
  have hD := hD0.self (sz := s.heap.size)
  generalize hAe : va_A [(o, .inr (1, [.int w1, .int (nI n), .int (nI k), .int w4, .ref ca, .ref cb, .long z1, .long z2])), (ca, .inl (cA, (600, .inr (.inl f)))), (cb, .inl (cA, (40, .inr (.inl g))))] s.heap.size = A at hD ⊢
  have hA : ∀ q : Nat, s.heap.size ≤ q → A q := fun q h => by rw [← hAe]; exact Or.inr h
  have hS : va_S A s.heap s.heap [] := va_S.rf
  refine lv_aload_n hx hb qd_M_find_0 rfl (lv_at hl 0 rfl) ?_
  refine lv_iload_n hx hb qd_M_find_1 rfl (lv_at hl 1 rfl) ?_
  refine lv_if_lt (tgt := 13) hx hb qd_M_find_2 (by decide) (fun c1 => ?_) (fun c1 => ?_)
  · refine lv_iconst (v := nI 1) hx hb qd_M_find_13 (by decide +kernel) ?_
    refine lv_goto (tgt := 18) hx hb qd_M_find_14 (by decide) ?_
    refine va_put (D := (dC, dI)) (ci := 1) (v := .int (nI 1)) (ty := .int) (C := RX1) (T := TX1) (N := 8) hx hb hW inX1 tyX1 tyX1_ok nmX1 hown hK hP hD hS 0 rfl rfl 0 (by decide) (hW _ qm_281) (fun _ h9 => h9) rfl (by decide +kernel) rfl rfl (Nat.le_of_ble_eq_true rfl) qd_M_find_18 (fun H locs hP hD hS => ?_)
    have hP : va_P (dC, dI) tq_cl [(o, .inr (1, [.int (nI 1), .int (nI n), .int (nI k), .int w4, .ref ca, .ref cb, .long z1, .long z2])), (ca, .inl (cA, (600, .inr (.inl f)))), (cb, .inl (cA, (40, .inr (.inl g))))] H := hP
    have hD : va_D A [(o, .inr (1, [.int (nI 1), .int (nI n), .int (nI k), .int w4, .ref ca, .ref cb, .long z1, .long z2])), (ca, .inl (cA, (600, .inr (.inl f)))), (cb, .inl (cA, (40, .inr (.inl g))))] := hD
    refine lv_iconst (v := nI 0) hx hb qd_M_find_21 (by decide +kernel) ?_
    refine lv_istore (lv' := [(4, .int (nI 0)), (0, .ref o), (1, .int q), (2, .long v)]) hx hb qd_M_find_22 hl (by decide) rfl (fun ls hl => ?_)
    refine lv_iload hx hb qd_M_find_24 (lv_at hl 0 rfl) ?_
    refine lv_iload_n hx hb qd_M_find_26 rfl (lv_at hl 2 rfl) ?_
    refine lv_icmp_ge (tgt := 66) hx hb qd_M_find_27 (by decide) (fun c3 => ?_) (fun c3 => ?_)
    · refine lv_aload_n hx hb qd_M_find_66 rfl (lv_at hl 1 rfl) ?_
      refine va_get (D := (dC, dI)) (ci := 1) (v := .int (nI 1)) (C := RX1) (T := TX1) (N := 8) hx hb hW inX1 hown hK hP 0 rfl rfl 0 (by decide) (hW _ qm_281) (fun _ h9 => h9) rfl qd_M_find_67 ?_
      refine tq_if_le (x := 1) (tgt := 77) hx hb qd_M_find_70 (by decide) (by omega) (fun c9 => by omega) (fun c9 => ?_)
      refine lv_iconst (v := nI 0) hx hb qd_M_find_73 (by decide +kernel) ?_
      refine lv_goto (tgt := 78) hx hb qd_M_find_74 (by decide) ?_
      exact W.iret hx hb hr (fun t ht hW9 => ⟨⟨_, (), rfl, rfl, by rw [ht]; exact hP, va_K.moved hW9.alike hK, hD⟩, hS.F ht⟩) hS.2.2 qd_M_find_78
    · refine lv_aload_n hx hb qd_M_find_30 rfl (lv_at hl 1 rfl) ?_
      refine va_get (D := (dC, dI)) (ci := 1) (v := .int (nI 1)) (C := RX1) (T := TX1) (N := 8) hx hb hW inX1 hown hK hP 0 rfl rfl 0 (by decide) (hW _ qm_281) (fun _ h9 => h9) rfl qd_M_find_31 ?_
      refine tq_if_ne (x := 1) (tgt := 66) hx hb qd_M_find_34 (by decide) (by omega) (fun c4 => ?_) (fun c9 => by omega)
      refine lv_aload_n hx hb qd_M_find_66 rfl (lv_at hl 1 rfl) ?_
      refine va_get (D := (dC, dI)) (ci := 1) (v := .int (nI 1)) (C := RX1) (T := TX1) (N := 8) hx hb hW inX1 hown hK hP 0 rfl rfl 0 (by decide) (hW _ qm_281) (fun _ h9 => h9) rfl qd_M_find_67 ?_
      refine tq_if_le (x := 1) (tgt := 77) hx hb qd_M_find_70 (by decide) (by omega) (fun c9 => by omega) (fun c9 => ?_)
      refine lv_iconst (v := nI 0) hx hb qd_M_find_73 (by decide +kernel) ?_
      refine lv_goto (tgt := 78) hx hb qd_M_find_74 (by decide) ?_
      exact W.iret hx hb hr (fun t ht hW9 => ⟨⟨_, (), rfl, rfl, by rw [ht]; exact hP, va_K.moved hW9.alike hK, hD⟩, hS.F ht⟩) hS.2.2 qd_M_find_78
  · have h9 : ¬ q ≤ nI n := tq_nle (hbad.elim (fun h => absurd h c1) id)
    refine lv_iload_n hx hb qd_M_find_5 rfl (lv_at hl 1 rfl) ?_
    refine lv_aload_n hx hb qd_M_find_6 rfl (lv_at hl 0 rfl) ?_
    refine va_get (D := (dC, dI)) (ci := 1) (v := .int (nI n)) (C := RX1) (T := TX1) (N := 8) hx hb hW inX1 hown hK hP 0 rfl rfl 1 (by decide) (hW _ qm_282) (fun _ h9 => h9) rfl qd_M_find_7 ?_
    refine lv_icmp_le (tgt := 17) hx hb qd_M_find_10 (by decide) (fun c9 => absurd c9 (h9)) (fun c2 => ?_)
    refine lv_iconst (v := nI 1) hx hb qd_M_find_13 (by decide +kernel) ?_
    refine lv_goto (tgt := 18) hx hb qd_M_find_14 (by decide) ?_
    refine va_put (D := (dC, dI)) (ci := 1) (v := .int (nI 1)) (ty := .int) (C := RX1) (T := TX1) (N := 8) hx hb hW inX1 tyX1 tyX1_ok nmX1 hown hK hP hD hS 0 rfl rfl 0 (by decide) (hW _ qm_281) (fun _ h9 => h9) rfl (by decide +kernel) rfl rfl (Nat.le_of_ble_eq_true rfl) qd_M_find_18 (fun H locs hP hD hS => ?_)
    have hP : va_P (dC, dI) tq_cl [(o, .inr (1, [.int (nI 1), .int (nI n), .int (nI k), .int w4, .ref ca, .ref cb, .long z1, .long z2])), (ca, .inl (cA, (600, .inr (.inl f)))), (cb, .inl (cA, (40, .inr (.inl g))))] H := hP
    have hD : va_D A [(o, .inr (1, [.int (nI 1), .int (nI n), .int (nI k), .int w4, .ref ca, .ref cb, .long z1, .long z2])), (ca, .inl (cA, (600, .inr (.inl f)))), (cb, .inl (cA, (40, .inr (.inl g))))] := hD
    refine lv_iconst (v := nI 0) hx hb qd_M_find_21 (by decide +kernel) ?_
    refine lv_istore (lv' := [(4, .int (nI 0)), (0, .ref o), (1, .int q), (2, .long v)]) hx hb qd_M_find_22 hl (by decide) rfl (fun ls hl => ?_)
    refine lv_iload hx hb qd_M_find_24 (lv_at hl 0 rfl) ?_
    refine lv_iload_n hx hb qd_M_find_26 rfl (lv_at hl 2 rfl) ?_
    refine lv_icmp_ge (tgt := 66) hx hb qd_M_find_27 (by decide) (fun c3 => ?_) (fun c3 => ?_)
    · refine lv_aload_n hx hb qd_M_find_66 rfl (lv_at hl 1 rfl) ?_
      refine va_get (D := (dC, dI)) (ci := 1) (v := .int (nI 1)) (C := RX1) (T := TX1) (N := 8) hx hb hW inX1 hown hK hP 0 rfl rfl 0 (by decide) (hW _ qm_281) (fun _ h9 => h9) rfl qd_M_find_67 ?_
      refine tq_if_le (x := 1) (tgt := 77) hx hb qd_M_find_70 (by decide) (by omega) (fun c9 => by omega) (fun c9 => ?_)
      refine lv_iconst (v := nI 0) hx hb qd_M_find_73 (by decide +kernel) ?_
      refine lv_goto (tgt := 78) hx hb qd_M_find_74 (by decide) ?_
      exact W.iret hx hb hr (fun t ht hW9 => ⟨⟨_, (), rfl, rfl, by rw [ht]; exact hP, va_K.moved hW9.alike hK, hD⟩, hS.F ht⟩) hS.2.2 qd_M_find_78
    · refine lv_aload_n hx hb qd_M_find_30 rfl (lv_at hl 1 rfl) ?_
      refine va_get (D := (dC, dI)) (ci := 1) (v := .int (nI 1)) (C := RX1) (T := TX1) (N := 8) hx hb hW inX1 hown hK hP 0 rfl rfl 0 (by decide) (hW _ qm_281) (fun _ h9 => h9) rfl qd_M_find_31 ?_
      refine tq_if_ne (x := 1) (tgt := 66) hx hb qd_M_find_34 (by decide) (by omega) (fun c4 => ?_) (fun c9 => by omega)
      refine lv_aload_n hx hb qd_M_find_66 rfl (lv_at hl 1 rfl) ?_
      refine va_get (D := (dC, dI)) (ci := 1) (v := .int (nI 1)) (C := RX1) (T := TX1) (N := 8) hx hb hW inX1 hown hK hP 0 rfl rfl 0 (by decide) (hW _ qm_281) (fun _ h9 => h9) rfl qd_M_find_67 ?_
      refine tq_if_le (x := 1) (tgt := 77) hx hb qd_M_find_70 (by decide) (by omega) (fun c9 => by omega) (fun c9 => ?_)
      refine lv_iconst (v := nI 0) hx hb qd_M_find_73 (by decide +kernel) ?_
      refine lv_goto (tgt := 78) hx hb qd_M_find_74 (by decide) ?_
      exact W.iret hx hb hr (fun t ht hW9 => ⟨⟨_, (), rfl, rfl, by rw [ht]; exact hP, va_K.moved hW9.alike hK, hD⟩, hS.F ht⟩) hS.2.2 qd_M_find_78
set_option maxHeartbeats 4000000 in
set_option maxRecDepth 100000 in
theorem ct_M_count (l : Launch) (dC : Nat → ClassId) (dI : Nat → Nat → Nat) (o ca cb : Nat) (cA : ClassId) (w1 : Int32) (n k : Nat) (w4 : Int32) (z1 z2 : Int64) (f g : Nat → Int64) (sz : Nat) (q : Int32) (hn : n ≤ 600) : Met l qy_M_count qw_M_count ({ frames := 0, cells := 0, slots := 0, locals := 0 }) (va_Pc [.ref o, .int q] (tq_rw (dC, dI) [(o, .inr (1, [.int w1, .int (nI n), .int (nI k), .int w4, .ref ca, .ref cb, .long z1, .long z2])), (ca, .inl (cA, (600, .inr (.inl f)))), (cb, .inl (cA, (40, .inr (.inl g))))] [(cA, .long)] sz)) (va_Qi (fun r (_ : Unit) => r = tq_ct n k q) (fun _ t => tq_in (dC, dI) [(o, .inr (1, [.int (nI 0), .int (nI n), .int (nI k), .int w4, .ref ca, .ref cb, .long z1, .long z2])), (ca, .inl (cA, (600, .inr (.inl f)))), (cb, .inl (cA, (40, .inr (.inl g))))] [(cA, .long)] (va_A [(o, .inr (1, [.int w1, .int (nI n), .int (nI k), .int w4, .ref ca, .ref cb, .long z1, .long z2])), (ca, .inl (cA, (600, .inr (.inl f)))), (cb, .inl (cA, (40, .inr (.inl g))))] sz) t) (va_A [(o, .inr (1, [.int w1, .int (nI n), .int (nI k), .int w4, .ref ca, .ref cb, .long z1, .long z2])), (ca, .inl (cA, (600, .inr (.inl f)))), (cb, .inl (cA, (40, .inr (.inl g))))] sz)) 0 0 (va_A [(o, .inr (1, [.int w1, .int (nI n), .int (nI k), .int w4, .ref ca, .ref cb, .long z1, .long z2])), (ca, .inl (cA, (600, .inr (.inl f)))), (cb, .inl (cA, (40, .inr (.inl g))))] sz) := by
  refine Met.ofW (cc := qc_M_count) (maxL := 4) (ret := (some .int)) (by decide) rfl ?_
  intro p e s m args below meth c s₁ B hml hv
  obtain ⟨rfl, hsz, hP, hK, hD0⟩ := hv
  have hx := B.exec
  have hb := B.bytes
  have hr := B.returns
  have hts := atoms_spec (ws := qw_M_count) B.pre
  have hW : ∀ w ∈ tq_W, w.before ([.ref o, .int q] : List Value).toArray s = true := fun w h => hts w (List.mem_cons_of_mem _ h)
  have hown : s.vm.findClass RX1 = some m.cls := findClass_of_methodNamed B.named
  have hlocks := B.notSynchronized
  have hl := lv_entry ([.ref o, .int q]) (n := 4) (Nat.le_of_ble_eq_true rfl)
  rw [lg_entry_eq]
  generalize (lg_sl ([.ref o, .int q]) ++ List.replicate (4 - (lg_sl ([.ref o, .int q])).length) Slot.unset).toArray = ls at hl ⊢
  have hl : lv_has ls 4 [(0, .ref o), (1, .int q)] := hl
  subst hsz
  have hD := hD0.self (sz := s.heap.size)
  generalize hAe : va_A [(o, .inr (1, [.int w1, .int (nI n), .int (nI k), .int w4, .ref ca, .ref cb, .long z1, .long z2])), (ca, .inl (cA, (600, .inr (.inl f)))), (cb, .inl (cA, (40, .inr (.inl g))))] s.heap.size = A at hD ⊢
  have hA : ∀ q : Nat, s.heap.size ≤ q → A q := fun q h => by rw [← hAe]; exact Or.inr h
  have hS : va_S A s.heap s.heap [] := va_S.rf
  have loop : q = nI 2 → ∀ (t y i : Nat), y < 2 ^ t → y ≤ 600 → i + tq_pf t y = tq_pop n → ∀ (H : Heap) (locs : List Loc), va_P (dC, dI) tq_cl [(o, .inr (1, [.int (nI 0), .int (nI n), .int (nI k), .int w4, .ref ca, .ref cb, .long z1, .long z2])), (ca, .inl (cA, (600, .inr (.inl f)))), (cb, .inl (cA, (40, .inr (.inl g))))] H → va_D A [(o, .inr (1, [.int (nI 0), .int (nI n), .int (nI k), .int w4, .ref ca, .ref cb, .long z1, .long z2])), (ca, .inl (cA, (600, .inr (.inl f)))), (cb, .inl (cA, (40, .inr (.inl g))))] → va_S A s.heap H locs → ∀ ls : Array Slot, lv_has ls 4 [(3, .int (nI y)), (2, .int (nI i)), (0, .ref o)] → W p l e (headSpec qw_M_count ({ frames := 0, cells := 0, slots := 0, locals := 0 })).room s m ([.ref o, .int q] : List Value).toArray below meth c H locs 0 0 (MQ below (va_Qi (fun r (_ : Unit) => r = tq_ct n k q) (fun _ t => tq_in (dC, dI) [(o, .inr (1, [.int (nI 0), .int (nI n), .int (nI k), .int w4, .ref ca, .ref cb, .long z1, .long z2])), (ca, .inl (cA, (600, .inr (.inl f)))), (cb, .inl (cA, (40, .inr (.inl g))))] [(cA, .long)] A t) A) ([.ref o, .int q] : List Value).toArray s 0 0 A) (F0 m 38 ls []) := by
    intro hq2 t
    induction t with
    | zero =>
      intro y i hy hy6 hi H locs hP hD hS ls hl
      refine lv_iload_n hx hb qd_M_count_38 rfl (lv_at hl 0 rfl) ?_
      refine tq_if_le (x := y) (tgt := 55) hx hb qd_M_count_39 (by decide) (by omega) (fun c9 => ?_) (fun c9 => by omega)
      refine lv_iload_n hx hb qd_M_count_55 rfl (lv_at hl 1 rfl) ?_
      exact W.iret hx hb hr (fun t ht hW9 => ⟨⟨_, (), rfl, (by rw [hq2]; show nI i = nI (tq_pop n); rw [← hi]; rfl), by rw [ht]; exact hP, va_K.moved hW9.alike hK, hD⟩, hS.F ht⟩) hS.2.2 qd_M_count_56
    | succ t ih =>
      intro y i hy hy6 hi H locs hP hD hS ls hl
      refine lv_iload_n hx hb qd_M_count_38 rfl (lv_at hl 0 rfl) ?_
      refine tq_if_le (x := y) (tgt := 55) hx hb qd_M_count_39 (by decide) (by omega) (fun c9 => ?_) (fun c9 => ?_)
      · subst c9
        refine lv_iload_n hx hb qd_M_count_55 rfl (lv_at hl 1 rfl) ?_
        exact W.iret hx hb hr (fun t ht hW9 => ⟨⟨_, (), rfl, (by rw [hq2]; show nI i = nI (tq_pop n); rw [← hi]; congr 1; rw [tq_pf_0]; rfl), by rw [ht]; exact hP, va_K.moved hW9.alike hK, hD⟩, hS.F ht⟩) hS.2.2 qd_M_count_56
      · refine lv_iload_n hx hb qd_M_count_42 rfl (lv_at hl 1 rfl) ?_
        refine lv_iload_n hx hb qd_M_count_43 rfl (lv_at hl 0 rfl) ?_
        refine lv_iconst (v := nI 2) hx hb qd_M_count_44 (by decide +kernel) ?_
        refine lv_irem hx hb qd_M_count_45 (by decide +kernel) ?_
        refine tq_ti (y := nI (y % 2)) (pk_rem (by omega) (by omega) (by omega)) ?_
        refine lv_iadd hx hb qd_M_count_46 ?_
        refine tq_ti (y := nI (i + y % 2)) (nI_add _ _) ?_
        refine lv_istore_n (lv' := [(2, .int (nI (i + y % 2))), (3, .int (nI y)), (0, .ref o)]) hx hb qd_M_count_47 rfl hl (by decide) rfl (fun ls hl => ?_)
        refine lv_iload_n hx hb qd_M_count_48 rfl (lv_at hl 1 rfl) ?_
        refine lv_iconst (v := nI 2) hx hb qd_M_count_49 (by decide +kernel) ?_
        refine lv_idiv hx hb qd_M_count_50 (by decide +kernel) ?_
        refine tq_ti (y := nI (y / 2)) (pk_div (by omega) (by omega) (by omega)) ?_
        refine lv_istore_n (lv' := [(3, .int (nI (y / 2))), (2, .int (nI (i + y % 2))), (0, .ref o)]) hx hb qd_M_count_51 rfl hl (by decide) rfl (fun ls hl => ?_)
        refine lv_goto (tgt := 38) hx hb qd_M_count_52 (by decide) ?_
        exact ih (y / 2) (i + y % 2) (by rw [Nat.pow_succ] at hy; omega) (by omega) (by rw [← hi]; show _ = i + (y % 2 + tq_pf t (y / 2)); omega) _ _ hP hD hS ls (lv_sub hl [0, 1, 2] rfl)
  refine lv_aload_n hx hb qd_M_count_0 rfl (lv_at hl 0 rfl) ?_
  refine lv_iconst (v := nI 0) hx hb qd_M_count_1 (by decide +kernel) ?_
  refine va_put (D := (dC, dI)) (ci := 1) (v := .int (nI 0)) (ty := .int) (C := RX1) (T := TX1) (N := 8) hx hb hW inX1 tyX1 tyX1_ok nmX1 hown hK hP hD hS 0 rfl rfl 0 (by decide) (hW _ qm_281) (fun _ h9 => h9) rfl (by decide +kernel) rfl rfl (Nat.le_of_ble_eq_true rfl) qd_M_count_2 (fun H locs hP hD hS => ?_)
  have hP : va_P (dC, dI) tq_cl [(o, .inr (1, [.int (nI 0), .int (nI n), .int (nI k), .int w4, .ref ca, .ref cb, .long z1, .long z2])), (ca, .inl (cA, (600, .inr (.inl f)))), (cb, .inl (cA, (40, .inr (.inl g))))] H := hP
  have hD : va_D A [(o, .inr (1, [.int (nI 0), .int (nI n), .int (nI k), .int w4, .ref ca, .ref cb, .long z1, .long z2])), (ca, .inl (cA, (600, .inr (.inl f)))), (cb, .inl (cA, (40, .inr (.inl g))))] := hD
  refine lv_iload_n hx hb qd_M_count_5 rfl (lv_at hl 1 rfl) ?_
  refine lv_if_ne (tgt := 14) hx hb qd_M_count_6 (by decide) (fun c0 => ?_) (fun c0 => ?_)
  · refine lv_iload_n hx hb qd_M_count_14 rfl (lv_at hl 1 rfl) ?_
    refine lv_iconst (v := nI 1) hx hb qd_M_count_15 (by decide +kernel) ?_
    refine lv_icmp_ne (tgt := 24) hx hb qd_M_count_16 (by decide) (fun c1 => ?_) (fun c1 => ?_)
    · refine lv_iload_n hx hb qd_M_count_24 rfl (lv_at hl 1 rfl) ?_
      refine lv_iconst (v := nI 2) hx hb qd_M_count_25 (by decide +kernel) ?_
      refine lv_icmp_eq (tgt := 31) hx hb qd_M_count_26 (by decide) (fun c2 => ?_) (fun c2 => ?_)
      · refine lv_iconst (v := nI 0) hx hb qd_M_count_31 (by decide +kernel) ?_
        refine lv_istore_n (lv' := [(2, .int (nI 0)), (0, .ref o), (1, .int q)]) hx hb qd_M_count_32 rfl hl (by decide) rfl (fun ls hl => ?_)
        refine lv_aload_n hx hb qd_M_count_33 rfl (lv_at hl 1 rfl) ?_
        refine va_get (D := (dC, dI)) (ci := 1) (v := .int (nI n)) (C := RX1) (T := TX1) (N := 8) hx hb hW inX1 hown hK hP 0 rfl rfl 1 (by decide) (hW _ qm_282) (fun _ h9 => h9) rfl qd_M_count_34 ?_
        refine lv_istore_n (lv' := [(3, .int (nI n)), (2, .int (nI 0)), (0, .ref o), (1, .int q)]) hx hb qd_M_count_37 rfl hl (by decide) rfl (fun ls hl => ?_)
        exact loop c2 10 n 0 (by omega) hn (Nat.zero_add _) _ _ hP hD hS ls (lv_sub hl [0, 1, 2] rfl)
      · have c1 : ¬ q = 1 := c1
        have c2 : ¬ q = 2 := c2
        refine lv_iconst (v := (-1)) hx hb qd_M_count_29 (by decide +kernel) ?_
        exact W.iret hx hb hr (fun t ht hW9 => ⟨⟨_, (), rfl, (by unfold tq_ct; rw [if_neg c0, if_neg c1, if_neg c2]), by rw [ht]; exact hP, va_K.moved hW9.alike hK, hD⟩, hS.F ht⟩) hS.2.2 qd_M_count_30
    · have c1 : q = 1 := c1
      refine lv_aload_n hx hb qd_M_count_19 rfl (lv_at hl 0 rfl) ?_
      refine va_get (D := (dC, dI)) (ci := 1) (v := .int (nI k)) (C := RX1) (T := TX1) (N := 8) hx hb hW inX1 hown hK hP 0 rfl rfl 2 (by decide) (hW _ qm_283) (fun _ h9 => h9) rfl qd_M_count_20 ?_
      exact W.iret hx hb hr (fun t ht hW9 => ⟨⟨_, (), rfl, (by unfold tq_ct; rw [if_neg c0, if_pos c1]), by rw [ht]; exact hP, va_K.moved hW9.alike hK, hD⟩, hS.F ht⟩) hS.2.2 qd_M_count_23
  · refine lv_aload_n hx hb qd_M_count_9 rfl (lv_at hl 0 rfl) ?_
    refine va_get (D := (dC, dI)) (ci := 1) (v := .int (nI n)) (C := RX1) (T := TX1) (N := 8) hx hb hW inX1 hown hK hP 0 rfl rfl 1 (by decide) (hW _ qm_282) (fun _ h9 => h9) rfl qd_M_count_10 ?_
    exact W.iret hx hb hr (fun t ht hW9 => ⟨⟨_, (), rfl, (by unfold tq_ct; rw [if_pos c0]), by rw [ht]; exact hP, va_K.moved hW9.alike hK, hD⟩, hS.F ht⟩) hS.2.2 qd_M_count_13
