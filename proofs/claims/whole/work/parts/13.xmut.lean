def tq_rw (D : va_G) (ws : va_W) (tys : List (ClassId × FieldType)) (sz : Nat) (U : State) : Prop := U.heap.size = sz ∧ va_P D tq_cl ws U.heap ∧ va_K D tq_cl tys U ∧ va_D (fun _ => True) ws
abbrev tq_in (D : va_G) (ws : va_W) (tys : List (ClassId × FieldType)) (A : Nat → Prop) (t : State) : Prop := va_P D tq_cl ws t.heap ∧ va_K D tq_cl tys t ∧ va_D A ws
theorem tq_b2 {av : List Value} {D : va_G} {ws : va_W} {tys : List (ClassId × FieldType)} {sz : Nat} : FrameBlind (va_Pc av (tq_rw D ws tys sz)) := fun a U g mk q => ⟨q.1, q.2.1, q.2.2.1, va_K.moved (u := U) (U := U.calling g mk a) (Vm.Alike.refl U.vm) q.2.2.2.1, q.2.2.2.2⟩
theorem tq_oneA {D : va_G} {cl : List vw_C} {tys : List (ClassId × FieldType)} {U : State} {c1 c2 : ClassId} (h : va_K D cl tys U) (i j : Nat) (hi : tys[i]? = some (c1, .long)) (hj : tys[j]? = some (c2, .long)) : c1 = c2 := by
  have h1 : U.vm.findClass ("[" ++ FieldType.long.toString) = some c1 := (h.2 i _ hi).2
  have h2 : U.vm.findClass ("[" ++ FieldType.long.toString) = some c2 := (h.2 j _ hj).2
  exact Option.some.inj (h1.symm.trans h2)
def tq_pd (t : Nat) : Int32 := nI t + (-1)
theorem tq_pd_0 : tq_pd 0 < 0 := by decide +kernel
theorem tq_pd_s (t : Nat) : tq_pd (t + 1) = nI t := pk_m1 t
theorem tq_pd_1 (t : Nat) : nI t - nI 1 = tq_pd t := by
  unfold tq_pd
  rw [Int32.sub_eq_add_neg]
  rfl
theorem tq_pd_i (t : Nat) : nI t + Int32.ofInt (-1) = tq_pd t := rfl
set_option maxHeartbeats 4000000 in
set_option maxRecDepth 100000 in
/-- LogTree() -/
theorem ct_X_init (l : Launch) (dC : Nat → ClassId) (dI : Nat → Nat → Nat) (x : Nat) (sz : Nat)  : Met l qy_X_init qw_X_init ({ frames := 1, cells := 2, slots := 640, locals := 12 }) (va_Pc [.ref x] (tq_rw (dC, dI) [(x, .inr (0, [.null, .int 0, .null, .int 0]))] [] sz)) (va_Qv (fun _ : Nat × Nat × ClassId => True) (fun u t => tq_in (dC, dI) [(x, .inr (0, [.ref u.1, .int (nI 0), .ref u.2.1, .int (nI 0)])), (u.1, .inl (u.2.2, (600, .inr (.inl (fun _ => 0))))), (u.2.1, .inl (u.2.2, (40, .inr (.inl (fun _ => 0)))))] [(u.2.2, .long)] (va_A [(x, .inr (0, [.null, .int 0, .null, .int 0]))] sz) t) (va_A [(x, .inr (0, [.null, .int 0, .null, .int 0]))] sz)) 2 640 (va_A [(x, .inr (0, [.null, .int 0, .null, .int 0]))] sz) := by
  refine Met.ofW (cc := qc_X_init) (maxL := 1) (ret := none) (by decide) rfl ?_
  intro p e s m args below meth c s₁ B hml hv
  obtain ⟨rfl, hsz, hP, hK, hD0⟩ := hv
  have hx := B.exec
  have hb := B.bytes
  have hr := B.returns
  have hts := atoms_spec (ws := qw_X_init) B.pre
  have hW : ∀ w ∈ tq_W, w.before ([.ref x] : List Value).toArray s = true := fun w h => hts w (List.mem_cons_of_mem _ h)
  have hown : s.vm.findClass RX0 = some m.cls := findClass_of_methodNamed B.named
  have hlocks := B.notSynchronized
  have hl := lv_entry ([.ref x]) (n := 1) (Nat.le_of_ble_eq_true rfl)
  rw [lg_entry_eq]
  generalize (lg_sl ([.ref x]) ++ List.replicate (1 - (lg_sl ([.ref x])).length) Slot.unset).toArray = ls at hl ⊢
  have hl : lv_has ls 1 [(0, .ref x)] := hl
  subst hsz
  have hD := hD0.self (sz := s.heap.size)
  generalize hAe : va_A [(x, .inr (0, [.null, .int 0, .null, .int 0]))] s.heap.size = A at hD ⊢
  have hA : ∀ q : Nat, s.heap.size ≤ q → A q := fun q h => by rw [← hAe]; exact Or.inr h
  have hS : va_S A s.heap s.heap [] := va_S.rf
  have hin : meth.name = "<init>" := (name_of_methodNamed B.named B.method).1
  refine lv_aload_n hx hb qd_X_init_0 rfl (lv_at hl 0 rfl) ?_
  refine W.objInit hx hb hown (hW _ qm_16) (hW _ qm_17) (hW _ qm_18) rfl (by rw [hml]; exact hl.1) rfl qd_X_init_1 (Nat.le_of_ble_eq_true rfl) (Nat.le_of_ble_eq_true rfl) ?_
  refine W.eq (g2 := F0 m 4 ls []) rfl ?_
  refine lv_aload_n hx hb qd_X_init_4 rfl (lv_at hl 0 rfl) ?_
  refine lv_sipush (v := nI 600) hx hb qd_X_init_5 (by decide +kernel) ?_
  refine va_newa (atype := .long) (N' := 600) (a0 := (600, .inr (.inl (fun _ => 0)))) (ty := .long) (n := nI 600) hx hb (hW _ qm_32) rfl hK hP hD hS hA (fun _ => rfl) (by decide +kernel) (by decide +kernel) (by decide +kernel) (Nat.le_of_ble_eq_true rfl) (Nat.le_of_ble_eq_true rfl) qd_X_init_8 (fun qa cqa H hK hP hD hS => ?_)
  have hP : va_P (dC, dI) tq_cl [(x, .inr (0, [.null, .int 0, .null, .int 0])), (qa, .inl (cqa, (600, .inr (.inl (fun _ => 0)))))] H := hP
  have hD : va_D A [(x, .inr (0, [.null, .int 0, .null, .int 0])), (qa, .inl (cqa, (600, .inr (.inl (fun _ => 0)))))] := hD
  have hK : va_K (dC, dI) tq_cl [(cqa, .long)] s := hK
  refine W.widen (k := 1) (n := 600) (by omega) (by omega) ?_
  refine va_putF (D := (dC, dI)) (ci := 0) (v := .ref qa) (ty := .array .long) (C := RX0) (T := TX0) (N := 4) hx hb hW inX0 tyX0 tyX0_ok nmX0 hown hK hP hD hS 0 rfl rfl 0 (by decide) (hW _ qm_19) (fun _ h9 => h9) rfl hin rfl (by decide +kernel) rfl rfl (Nat.le_of_ble_eq_true rfl) qd_X_init_10 (fun H locs hP hD hS => ?_)
  have hP : va_P (dC, dI) tq_cl [(x, .inr (0, [.ref qa, .int 0, .null, .int 0])), (qa, .inl (cqa, (600, .inr (.inl (fun _ => 0)))))] H := hP
  have hD : va_D A [(x, .inr (0, [.ref qa, .int 0, .null, .int 0])), (qa, .inl (cqa, (600, .inr (.inl (fun _ => 0)))))] := hD
  refine lv_aload_n hx hb qd_X_init_13 rfl (lv_at hl 0 rfl) ?_
  refine lv_iconst (v := nI 0) hx hb qd_X_init_14 (by decide +kernel) ?_
  refine va_put (D := (dC, dI)) (ci := 0) (v := .int (nI 0)) (ty := .int) (C := RX0) (T := TX0) (N := 4) hx hb hW inX0 tyX0 tyX0_ok nmX0 hown hK hP hD hS 0 rfl rfl 1 (by decide) (hW _ qm_20) (fun _ h9 => h9) rfl (by decide +kernel) rfl rfl (Nat.le_of_ble_eq_true rfl) qd_X_init_15 (fun H locs hP hD hS => ?_)
  have hP : va_P (dC, dI) tq_cl [(x, .inr (0, [.ref qa, .int (nI 0), .null, .int 0])), (qa, .inl (cqa, (600, .inr (.inl (fun _ => 0)))))] H := hP
  have hD : va_D A [(x, .inr (0, [.ref qa, .int (nI 0), .null, .int 0])), (qa, .inl (cqa, (600, .inr (.inl (fun _ => 0)))))] := hD
  refine lv_aload_n hx hb qd_X_init_18 rfl (lv_at hl 0 rfl) ?_
  refine lv_bipush (v := nI 40) hx hb qd_X_init_19 (by decide +kernel) ?_
  refine va_newa (atype := .long) (N' := 40) (a0 := (40, .inr (.inl (fun _ => 0)))) (ty := .long) (n := nI 40) hx hb (hW _ qm_32) rfl hK hP hD hS hA (fun _ => rfl) (by decide +kernel) (by decide +kernel) (by decide +kernel) (Nat.le_of_ble_eq_true rfl) (Nat.le_of_ble_eq_true rfl) qd_X_init_21 (fun qb cqb H hK hP hD hS => ?_)
  have hP : va_P (dC, dI) tq_cl [(x, .inr (0, [.ref qa, .int (nI 0), .null, .int 0])), (qa, .inl (cqa, (600, .inr (.inl (fun _ => 0))))), (qb, .inl (cqb, (40, .inr (.inl (fun _ => 0)))))] H := hP
  have hD : va_D A [(x, .inr (0, [.ref qa, .int (nI 0), .null, .int 0])), (qa, .inl (cqa, (600, .inr (.inl (fun _ => 0))))), (qb, .inl (cqb, (40, .inr (.inl (fun _ => 0)))))] := hD
  have hK : va_K (dC, dI) tq_cl [(cqa, .long), (cqb, .long)] s := hK
  refine W.widen (k := 2) (n := 640) (by omega) (by omega) ?_
  refine va_putF (D := (dC, dI)) (ci := 0) (v := .ref qb) (ty := .array .long) (C := RX0) (T := TX0) (N := 4) hx hb hW inX0 tyX0 tyX0_ok nmX0 hown hK hP hD hS 0 rfl rfl 2 (by decide) (hW _ qm_21) (fun _ h9 => h9) rfl hin rfl (by decide +kernel) rfl rfl (Nat.le_of_ble_eq_true rfl) qd_X_init_23 (fun H locs hP hD hS => ?_)
  have hP : va_P (dC, dI) tq_cl [(x, .inr (0, [.ref qa, .int (nI 0), .ref qb, .int 0])), (qa, .inl (cqa, (600, .inr (.inl (fun _ => 0))))), (qb, .inl (cqb, (40, .inr (.inl (fun _ => 0)))))] H := hP
  have hD : va_D A [(x, .inr (0, [.ref qa, .int (nI 0), .ref qb, .int 0])), (qa, .inl (cqa, (600, .inr (.inl (fun _ => 0))))), (qb, .inl (cqb, (40, .inr (.inl (fun _ => 0)))))] := hD
  refine lv_aload_n hx hb qd_X_init_26 rfl (lv_at hl 0 rfl) ?_
  refine lv_iconst (v := nI 0) hx hb qd_X_init_27 (by decide +kernel) ?_
  refine va_put (D := (dC, dI)) (ci := 0) (v := .int (nI 0)) (ty := .int) (C := RX0) (T := TX0) (N := 4) hx hb hW inX0 tyX0 tyX0_ok nmX0 hown hK hP hD hS 0 rfl rfl 3 (by decide) (hW _ qm_22) (fun _ h9 => h9) rfl (by decide +kernel) rfl rfl (Nat.le_of_ble_eq_true rfl) qd_X_init_28 (fun H locs hP hD hS => ?_)
  have hP : va_P (dC, dI) tq_cl [(x, .inr (0, [.ref qa, .int (nI 0), .ref qb, .int (nI 0)])), (qa, .inl (cqa, (600, .inr (.inl (fun _ => 0))))), (qb, .inl (cqb, (40, .inr (.inl (fun _ => 0)))))] H := hP
  have hD : va_D A [(x, .inr (0, [.ref qa, .int (nI 0), .ref qb, .int (nI 0)])), (qa, .inl (cqa, (600, .inr (.inl (fun _ => 0))))), (qb, .inl (cqb, (40, .inr (.inl (fun _ => 0)))))] := hD
  obtain rfl := tq_oneA hK 0 1 rfl rfl
  have hK := hK.sub (tys' := [(cqa, .long)]) [0] rfl
  exact W.vret hx hb hr (fun t ht hW9 => ⟨⟨(qa, qb, cqa), rfl, trivial, by rw [ht]; exact hP, va_K.moved hW9.alike hK, hD⟩, hS.F ht⟩) hS.2.2 qd_X_init_31
set_option maxHeartbeats 4000000 in
set_option maxRecDepth 100000 in
/-- add -/
theorem ct_X_add (l : Launch) (dC : Nat → ClassId) (dI : Nat → Nat → Nat) (x a b : Nat) (cA : ClassId) (n k : Nat) (f g : Nat → Int64) (sz : Nat) (v : Int64) (hn : n < 600) : Met l qy_X_add qw_X_add ({ frames := 2, cells := 0, slots := 0, locals := 60 }) (va_Pc [.ref x, .long v] (tq_rw (dC, dI) [(x, .inr (0, [.ref a, .int (nI n), .ref b, .int (nI k)])), (a, .inl (cA, (600, .inr (.inl f)))), (b, .inl (cA, (40, .inr (.inl g))))] [(cA, .long)] sz)) (va_Qi (fun r (_ : Unit) => r = nI (n + 1)) (fun _ t => tq_in (dC, dI) [(x, .inr (0, [.ref a, .int (nI (n + 1)), .ref b, .int (nI k)])), (a, .inl (cA, (600, .inr (.inl ((vp_updL f n (tq_leaf v))))))), (b, .inl (cA, (40, .inr (.inl g))))] [(cA, .long)] (va_A [(x, .inr (0, [.ref a, .int (nI n), .ref b, .int (nI k)])), (a, .inl (cA, (600, .inr (.inl f)))), (b, .inl (cA, (40, .inr (.inl g))))] sz) t) (va_A [(x, .inr (0, [.ref a, .int (nI n), .ref b, .int (nI k)])), (a, .inl (cA, (600, .inr (.inl f)))), (b, .inl (cA, (40, .inr (.inl g))))] sz)) 0 0 (va_A [(x, .inr (0, [.ref a, .int (nI n), .ref b, .int (nI k)])), (a, .inl (cA, (600, .inr (.inl f)))), (b, .inl (cA, (40, .inr (.inl g))))] sz) := by
  refine Met.ofW (cc := qc_X_add) (maxL := 3) (ret := (some .int)) (by decide) rfl ?_
  intro p e s m args below meth c s₁ B hml hv
  obtain ⟨rfl, hsz, hP, hK, hD0⟩ := hv
  have hx := B.exec
  have hb := B.bytes
  have hr := B.returns
  have hts := atoms_spec (ws := qw_X_add) B.pre
  have hW : ∀ w ∈ tq_W, w.before ([.ref x, .long v] : List Value).toArray s = true := fun w h => hts w (List.mem_cons_of_mem _ h)
  have hown : s.vm.findClass RX0 = some m.cls := findClass_of_methodNamed B.named
  have hlocks := B.notSynchronized
  have hl := lv_entry ([.ref x, .long v]) (n := 3) (Nat.le_of_ble_eq_true rfl)
  rw [lg_entry_eq]
  generalize (lg_sl ([.ref x, .long v]) ++ List.replicate (3 - (lg_sl ([.ref x, .long v])).length) Slot.unset).toArray = ls at hl ⊢
  have hl : lv_has ls 3 [(0, .ref x), (1, .long v)] := hl
  subst hsz
  have hD := hD0.self (sz := s.heap.size)
  generalize hAe : va_A [(x, .inr (0, [.ref a, .int (nI n), .ref b, .int (nI k)])), (a, .inl (cA, (600, .inr (.inl f)))), (b, .inl (cA, (40, .inr (.inl g))))] s.heap.size = A at hD ⊢
  have hA : ∀ q : Nat, s.heap.size ≤ q → A q := fun q h => by rw [← hAe]; exact Or.inr h
  have hS : va_S A s.heap s.heap [] := va_S.rf
  refine lv_aload_n hx hb qd_X_add_0 rfl (lv_at hl 0 rfl) ?_
  refine va_get (D := (dC, dI)) (ci := 0) (v := .int (nI n)) (C := RX0) (T := TX0) (N := 4) hx hb hW inX0 hown hK hP 0 rfl rfl 1 (by decide) (hW _ qm_20) (fun _ h9 => h9) rfl qd_X_add_1 ?_
  refine lv_sipush (v := nI 600) hx hb qd_X_add_4 (by decide +kernel) ?_
  refine tq_icmp_lt (x := n) (y := 600) (tgt := 18) hx hb qd_X_add_7 (by decide) (by omega) (by omega) (fun c9 => ?_) (fun c9 => by omega)
  refine lv_aload_n hx hb qd_X_add_18 rfl (lv_at hl 0 rfl) ?_
  refine va_get (D := (dC, dI)) (ci := 0) (v := .ref a) (C := RX0) (T := TX0) (N := 4) hx hb hW inX0 hown hK hP 0 rfl rfl 0 (by decide) (hW _ qm_19) (fun _ h9 => h9) rfl qd_X_add_19 ?_
  refine lv_aload_n hx hb qd_X_add_22 rfl (lv_at hl 0 rfl) ?_
  refine va_get (D := (dC, dI)) (ci := 0) (v := .int (nI n)) (C := RX0) (T := TX0) (N := 4) hx hb hW inX0 hown hK hP 0 rfl rfl 1 (by decide) (hW _ qm_20) (fun _ h9 => h9) rfl qd_X_add_23 ?_
  refine lv_lload_n hx hb qd_X_add_26 rfl (lv_at hl 1 rfl) ?_
  refine vp_callSl (W.runS (As := [.long v]) (rest := [.int (nI n), .ref a]) ⟨hx, hb, hml, hown, hW⟩ (ct_X_leafOf l v) (cwS 1 hW (tq_gS qm_44 qm_45 qm_1 qm_46) rfl rfl rfl (by decide +kernel) ⟨Nat.le_of_ble_eq_true rfl, Nat.le_of_ble_eq_true rfl⟩) ⟨tq_b0, fun U hU hW9 => ⟨rfl, trivial⟩⟩ rfl rfl hl.1 rfl (lv_room (Nat.le_of_ble_eq_true rfl)) qd_X_add_27 ⟨Nat.le_of_ble_eq_true rfl, Nat.le_of_ble_eq_true rfl⟩) (fun r9 e9 => ?_)
  subst e9
  refine tq_last hx hb hK hP hD hS 1 0 rfl rfl (j := n) (x := (tq_leaf v)) (by omega) (by decide) qd_X_add_30 (fun H locs hP hD hS => ?_)
  have hP : va_P (dC, dI) tq_cl [(x, .inr (0, [.ref a, .int (nI n), .ref b, .int (nI k)])), (a, .inl (cA, (600, .inr (.inl (vp_updL f n (tq_leaf v)))))), (b, .inl (cA, (40, .inr (.inl g))))] H := hP
  have hD : va_D A [(x, .inr (0, [.ref a, .int (nI n), .ref b, .int (nI k)])), (a, .inl (cA, (600, .inr (.inl (vp_updL f n (tq_leaf v)))))), (b, .inl (cA, (40, .inr (.inl g))))] := hD
  refine lv_aload_n hx hb qd_X_add_31 rfl (lv_at hl 0 rfl) ?_
  refine lv_dup hx hb qd_X_add_32 rfl ?_
  refine va_get (D := (dC, dI)) (ci := 0) (v := .int (nI n)) (C := RX0) (T := TX0) (N := 4) hx hb hW inX0 hown hK hP 0 rfl rfl 1 (by decide) (hW _ qm_20) (fun _ h9 => h9) rfl qd_X_add_33 ?_
  refine lv_iconst (v := nI 1) hx hb qd_X_add_36 (by decide +kernel) ?_
  refine lv_iadd hx hb qd_X_add_37 ?_
  refine tq_ti (y := nI (n + 1)) (nI_1 n) ?_
  refine va_put (D := (dC, dI)) (ci := 0) (v := .int (nI (n + 1))) (ty := .int) (C := RX0) (T := TX0) (N := 4) hx hb hW inX0 tyX0 tyX0_ok nmX0 hown hK hP hD hS 0 rfl rfl 1 (by decide) (hW _ qm_20) (fun _ h9 => h9) rfl (by decide +kernel) rfl rfl (Nat.le_of_ble_eq_true rfl) qd_X_add_38 (fun H locs hP hD hS => ?_)
  have hP : va_P (dC, dI) tq_cl [(x, .inr (0, [.ref a, .int (nI (n + 1)), .ref b, .int (nI k)])), (a, .inl (cA, (600, .inr (.inl (vp_updL f n (tq_leaf v)))))), (b, .inl (cA, (40, .inr (.inl g))))] H := hP
  have hD : va_D A [(x, .inr (0, [.ref a, .int (nI (n + 1)), .ref b, .int (nI k)])), (a, .inl (cA, (600, .inr (.inl (vp_updL f n (tq_leaf v)))))), (b, .inl (cA, (40, .inr (.inl g))))] := hD
  refine lv_aload_n hx hb qd_X_add_41 rfl (lv_at hl 0 rfl) ?_
  refine va_get (D := (dC, dI)) (ci := 0) (v := .int (nI (n + 1))) (C := RX0) (T := TX0) (N := 4) hx hb hW inX0 hown hK hP 0 rfl rfl 1 (by decide) (hW _ qm_20) (fun _ h9 => h9) rfl qd_X_add_42 ?_
  exact W.iret hx hb hr (fun t ht hW9 => ⟨⟨_, (), rfl, rfl, by rw [ht]; exact hP, va_K.moved hW9.alike hK, hD⟩, hS.F ht⟩) hS.2.2 qd_X_add_45
def tq_fv (v step : Int64) (i : Nat) : Int64 := v + (nI i).toInt64 * step
set_option maxHeartbeats 4000000 in
set_option maxRecDepth 100000 in
/-- fill -/
theorem ct_X_fill (l : Launch) (dC : Nat → ClassId) (dI : Nat → Nat → Nat) (x a b : Nat) (cA : ClassId) (n k : Nat) (f g : Nat → Int64) (sz : Nat) (j : Nat) (v step : Int64) (h1 : 1 ≤ j) (h2 : j ≤ 200) (hn : n + j ≤ 600) : Met l qy_X_fill qw_X_fill ({ frames := 2, cells := 0, slots := 0, locals := 60 }) (va_Pc [.ref x, .int (nI j), .long v, .long step] (tq_rw (dC, dI) [(x, .inr (0, [.ref a, .int (nI n), .ref b, .int (nI k)])), (a, .inl (cA, (600, .inr (.inl f)))), (b, .inl (cA, (40, .inr (.inl g))))] [(cA, .long)] sz)) (va_Qi (fun r (_ : Unit) => r = nI (n + j)) (fun _ t => tq_in (dC, dI) [(x, .inr (0, [.ref a, .int (nI (n + j)), .ref b, .int (nI k)])), (a, .inl (cA, (600, .inr (.inl ((tq_fl f n j (fun i => tq_leaf (tq_fv v step i)))))))), (b, .inl (cA, (40, .inr (.inl g))))] [(cA, .long)] (va_A [(x, .inr (0, [.ref a, .int (nI n), .ref b, .int (nI k)])), (a, .inl (cA, (600, .inr (.inl f)))), (b, .inl (cA, (40, .inr (.inl g))))] sz) t) (va_A [(x, .inr (0, [.ref a, .int (nI n), .ref b, .int (nI k)])), (a, .inl (cA, (600, .inr (.inl f)))), (b, .inl (cA, (40, .inr (.inl g))))] sz)) 0 0 (va_A [(x, .inr (0, [.ref a, .int (nI n), .ref b, .int (nI k)])), (a, .inl (cA, (600, .inr (.inl f)))), (b, .inl (cA, (40, .inr (.inl g))))] sz) := by
  refine Met.ofW (cc := qc_X_fill) (maxL := 7) (ret := (some .int)) (by decide) rfl ?_
  intro p e s m args below meth c s₁ B hml hv
  obtain ⟨rfl, hsz, hP, hK, hD0⟩ := hv
  have hx := B.exec
  have hb := B.bytes
  have hr := B.returns
  have hts := atoms_spec (ws := qw_X_fill) B.pre
  have hW : ∀ w ∈ tq_W, w.before ([.ref x, .int (nI j), .long v, .long step] : List Value).toArray s = true := fun w h => hts w (List.mem_cons_of_mem _ h)
  have hown : s.vm.findClass RX0 = some m.cls := findClass_of_methodNamed B.named
  have hlocks := B.notSynchronized
  have hl := lv_entry ([.ref x, .int (nI j), .long v, .long step]) (n := 7) (Nat.le_of_ble_eq_true rfl)
  rw [lg_entry_eq]
  generalize (lg_sl ([.ref x, .int (nI j), .long v, .long step]) ++ List.replicate (7 - (lg_sl ([.ref x, .int (nI j), .long v, .long step])).length) Slot.unset).toArray = ls at hl ⊢
  have hl : lv_has ls 7 [(0, .ref x), (1, .int (nI j)), (2, .long v), (4, .long step)] := hl
  subst hsz
  have hD := hD0.self (sz := s.heap.size)
  generalize hAe : va_A [(x, .inr (0, [.ref a, .int (nI n), .ref b, .int (nI k)])), (a, .inl (cA, (600, .inr (.inl f)))), (b, .inl (cA, (40, .inr (.inl g))))] s.heap.size = A at hD ⊢
  have hA : ∀ q : Nat, s.heap.size ≤ q → A q := fun q h => by rw [← hAe]; exact Or.inr h
  have hS : va_S A s.heap s.heap [] := va_S.rf
  have loop : ∀ (t i : Nat), i + t = j → ∀ (H : Heap) (locs : List Loc), va_P (dC, dI) tq_cl [(x, .inr (0, [.ref a, .int (nI n), .ref b, .int (nI k)])), (a, .inl (cA, (600, .inr (.inl ((tq_fl f n i (fun i => tq_leaf (tq_fv v step i)))))))), (b, .inl (cA, (40, .inr (.inl g))))] H → va_D A [(x, .inr (0, [.ref a, .int (nI n), .ref b, .int (nI k)])), (a, .inl (cA, (600, .inr (.inl ((tq_fl f n i (fun i => tq_leaf (tq_fv v step i)))))))), (b, .inl (cA, (40, .inr (.inl g))))] → va_S A s.heap H locs → ∀ ls : Array Slot, lv_has ls 7 [(6, .int (nI i)), (0, .ref x), (1, .int (nI j)), (2, .long v), (4, .long step)] → W p l e (headSpec qw_X_fill ({ frames := 2, cells := 0, slots := 0, locals := 60 })).room s m ([.ref x, .int (nI j), .long v, .long step] : List Value).toArray below meth c H locs 0 0 (MQ below (va_Qi (fun r (_ : Unit) => r = nI (n + j)) (fun _ t => tq_in (dC, dI) [(x, .inr (0, [.ref a, .int (nI (n + j)), .ref b, .int (nI k)])), (a, .inl (cA, (600, .inr (.inl ((tq_fl f n j (fun i => tq_leaf (tq_fv v step i)))))))), (b, .inl (cA, (40, .inr (.inl g))))] [(cA, .long)] A t) A) ([.ref x, .int (nI j), .long v, .long step] : List Value).toArray s 0 0 A) (F0 m 43 ls []) := by
    intro t
    induction t with
    | zero =>
      intro i hi H locs hP hD hS ls hl
      obtain rfl : i = j := by omega
      refine lv_iload hx hb qd_X_fill_43 (lv_at hl 0 rfl) ?_
      refine lv_iload_n hx hb qd_X_fill_45 rfl (lv_at hl 2 rfl) ?_
      refine tq_icmp_ge (x := i) (y := i) (tgt := 78) hx hb qd_X_fill_46 (by decide) (by omega) (by omega) (fun c9 => ?_) (fun c9 => by omega)
      refine lv_aload_n hx hb qd_X_fill_78 rfl (lv_at hl 1 rfl) ?_
      refine lv_dup hx hb qd_X_fill_79 rfl ?_
      refine va_get (D := (dC, dI)) (ci := 0) (v := .int (nI n)) (C := RX0) (T := TX0) (N := 4) hx hb hW inX0 hown hK hP 0 rfl rfl 1 (by decide) (hW _ qm_20) (fun _ h9 => h9) rfl qd_X_fill_80 ?_
      refine lv_iload_n hx hb qd_X_fill_83 rfl (lv_at hl 2 rfl) ?_
      refine lv_iadd hx hb qd_X_fill_84 ?_
      refine tq_ti (y := nI (n + i)) (nI_add _ _) ?_
      refine va_put (D := (dC, dI)) (ci := 0) (v := .int (nI (n + i))) (ty := .int) (C := RX0) (T := TX0) (N := 4) hx hb hW inX0 tyX0 tyX0_ok nmX0 hown hK hP hD hS 0 rfl rfl 1 (by decide) (hW _ qm_20) (fun _ h9 => h9) rfl (by decide +kernel) rfl rfl (Nat.le_of_ble_eq_true rfl) qd_X_fill_85 (fun H locs hP hD hS => ?_)
      have hP : va_P (dC, dI) tq_cl [(x, .inr (0, [.ref a, .int (nI (n + i)), .ref b, .int (nI k)])), (a, .inl (cA, (600, .inr (.inl ((tq_fl f n i (fun i => tq_leaf (tq_fv v step i)))))))), (b, .inl (cA, (40, .inr (.inl g))))] H := hP
      have hD : va_D A [(x, .inr (0, [.ref a, .int (nI (n + i)), .ref b, .int (nI k)])), (a, .inl (cA, (600, .inr (.inl ((tq_fl f n i (fun i => tq_leaf (tq_fv v step i)))))))), (b, .inl (cA, (40, .inr (.inl g))))] := hD
      refine lv_aload_n hx hb qd_X_fill_88 rfl (lv_at hl 1 rfl) ?_
      refine va_get (D := (dC, dI)) (ci := 0) (v := .int (nI (n + i))) (C := RX0) (T := TX0) (N := 4) hx hb hW inX0 hown hK hP 0 rfl rfl 1 (by decide) (hW _ qm_20) (fun _ h9 => h9) rfl qd_X_fill_89 ?_
      exact W.iret hx hb hr (fun t ht hW9 => ⟨⟨_, (), rfl, rfl, by rw [ht]; exact hP, va_K.moved hW9.alike hK, hD⟩, hS.F ht⟩) hS.2.2 qd_X_fill_92
    | succ t ih =>
      intro i hi H locs hP hD hS ls hl
      refine lv_iload hx hb qd_X_fill_43 (lv_at hl 0 rfl) ?_
      refine lv_iload_n hx hb qd_X_fill_45 rfl (lv_at hl 2 rfl) ?_
      refine tq_icmp_ge (x := i) (y := j) (tgt := 78) hx hb qd_X_fill_46 (by decide) (by omega) (by omega) (fun c9 => by omega) (fun c9 => ?_)
      refine lv_aload_n hx hb qd_X_fill_49 rfl (lv_at hl 1 rfl) ?_
      refine va_get (D := (dC, dI)) (ci := 0) (v := .ref a) (C := RX0) (T := TX0) (N := 4) hx hb hW inX0 hown hK hP 0 rfl rfl 0 (by decide) (hW _ qm_19) (fun _ h9 => h9) rfl qd_X_fill_50 ?_
      refine lv_aload_n hx hb qd_X_fill_53 rfl (lv_at hl 1 rfl) ?_
      refine va_get (D := (dC, dI)) (ci := 0) (v := .int (nI n)) (C := RX0) (T := TX0) (N := 4) hx hb hW inX0 hown hK hP 0 rfl rfl 1 (by decide) (hW _ qm_20) (fun _ h9 => h9) rfl qd_X_fill_54 ?_
      refine lv_iload hx hb qd_X_fill_57 (lv_at hl 0 rfl) ?_
      refine lv_iadd hx hb qd_X_fill_59 ?_
      refine tq_ti (y := nI (n + i)) (nI_add _ _) ?_
      refine lv_lload_n hx hb qd_X_fill_60 rfl (lv_at hl 3 rfl) ?_
      refine lv_iload hx hb qd_X_fill_61 (lv_at hl 0 rfl) ?_
      refine lv_i2l (v := (nI i).toInt64) hx hb qd_X_fill_63 rfl ?_
      refine lv_lload hx hb qd_X_fill_64 (lv_at hl 4 rfl) ?_
      refine lv_lmul hx hb qd_X_fill_66 ?_
      refine lv_ladd hx hb qd_X_fill_67 ?_
      refine tq_tl (y := tq_fv v step i) (rfl) ?_
      refine vp_callSl (W.runS (As := [.long (tq_fv v step i)]) (rest := [.int (nI (n + i)), .ref a]) ⟨hx, hb, hml, hown, hW⟩ (ct_X_leafOf l (tq_fv v step i)) (cwS 1 hW (tq_gS qm_44 qm_45 qm_1 qm_46) rfl rfl rfl (by decide +kernel) ⟨Nat.le_of_ble_eq_true rfl, Nat.le_of_ble_eq_true rfl⟩) ⟨tq_b0, fun U hU hW9 => ⟨rfl, trivial⟩⟩ rfl rfl hl.1 rfl (lv_room (Nat.le_of_ble_eq_true rfl)) qd_X_fill_68 ⟨Nat.le_of_ble_eq_true rfl, Nat.le_of_ble_eq_true rfl⟩) (fun r9 e9 => ?_)
      subst e9
      refine tq_last hx hb hK hP hD hS 1 0 rfl rfl (j := ((n + i))) (x := (tq_leaf (tq_fv v step i))) (by omega) (by decide) qd_X_fill_71 (fun H locs hP hD hS => ?_)
      have hP : va_P (dC, dI) tq_cl [(x, .inr (0, [.ref a, .int (nI n), .ref b, .int (nI k)])), (a, .inl (cA, (600, .inr (.inl (vp_updL ((tq_fl f n i (fun i => tq_leaf (tq_fv v step i)))) ((n + i)) (tq_leaf (tq_fv v step i))))))), (b, .inl (cA, (40, .inr (.inl g))))] H := hP
      have hD : va_D A [(x, .inr (0, [.ref a, .int (nI n), .ref b, .int (nI k)])), (a, .inl (cA, (600, .inr (.inl (vp_updL ((tq_fl f n i (fun i => tq_leaf (tq_fv v step i)))) ((n + i)) (tq_leaf (tq_fv v step i))))))), (b, .inl (cA, (40, .inr (.inl g))))] := hD
      rw [tq_fl_s f n i (fun i => tq_leaf (tq_fv v step i))] at hP hD
      refine lv_iinc (v := (nI (i + 1))) (lv' := [(6, .int (nI (i + 1))), (0, .ref x), (1, .int (nI j)), (2, .long v), (4, .long step)]) hx hb qd_X_fill_72 hl (k := 0) rfl (nI_1 i) (by decide) rfl (fun ls hl => ?_)
      refine lv_goto (tgt := 43) hx hb qd_X_fill_75 (by decide) ?_
      exact ih (i + 1) (by omega) _ _ hP hD hS ls (lv_sub hl [0, 1, 2, 3, 4] rfl)
  refine lv_iload_n hx hb qd_X_fill_0 rfl (lv_at hl 1 rfl) ?_
  refine lv_iconst (v := nI 1) hx hb qd_X_fill_1 (by decide +kernel) ?_
  refine tq_icmp_lt (x := j) (y := 1) (tgt := 12) hx hb qd_X_fill_2 (by decide) (by omega) (by omega) (fun c9 => by omega) (fun c9 => ?_)
  refine lv_iload_n hx hb qd_X_fill_5 rfl (lv_at hl 1 rfl) ?_
  refine lv_sipush (v := nI 200) hx hb qd_X_fill_6 (by decide +kernel) ?_
  refine tq_icmp_le (x := j) (y := 200) (tgt := 20) hx hb qd_X_fill_9 (by decide) (by omega) (by omega) (fun c9 => ?_) (fun c9 => by omega)
  refine lv_aload_n hx hb qd_X_fill_20 rfl (lv_at hl 0 rfl) ?_
  refine va_get (D := (dC, dI)) (ci := 0) (v := .int (nI n)) (C := RX0) (T := TX0) (N := 4) hx hb hW inX0 hown hK hP 0 rfl rfl 1 (by decide) (hW _ qm_20) (fun _ h9 => h9) rfl qd_X_fill_21 ?_
  refine lv_iload_n hx hb qd_X_fill_24 rfl (lv_at hl 1 rfl) ?_
  refine lv_iadd hx hb qd_X_fill_25 ?_
  refine tq_ti (y := nI (n + j)) (nI_add _ _) ?_
  refine lv_sipush (v := nI 600) hx hb qd_X_fill_26 (by decide +kernel) ?_
  refine tq_icmp_le (x := (n + j)) (y := 600) (tgt := 40) hx hb qd_X_fill_29 (by decide) (by omega) (by omega) (fun c9 => ?_) (fun c9 => by omega)
  refine lv_iconst (v := nI 0) hx hb qd_X_fill_40 (by decide +kernel) ?_
  refine lv_istore (lv' := [(6, .int (nI 0)), (0, .ref x), (1, .int (nI j)), (2, .long v), (4, .long step)]) hx hb qd_X_fill_41 hl (by decide) rfl (fun ls hl => ?_)
  exact loop j 0 (Nat.zero_add j) _ _ (by rw [tq_fl_0]; exact hP) (by rw [tq_fl_0]; exact hD) hS ls (lv_sub hl [0, 1, 2, 3, 4] rfl)
set_option maxHeartbeats 4000000 in
set_option maxRecDepth 100000 in
/-- cut -/
theorem ct_X_cut (l : Launch) (dC : Nat → ClassId) (dI : Nat → Nat → Nat) (x a b : Nat) (cA : ClassId) (n k : Nat) (f g : Nat → Int64) (sz : Nat) (j : Nat) (hj : j ≤ n) (hn : n ≤ 600) : Met l qy_X_cut qw_X_cut ({ frames := 0, cells := 0, slots := 0, locals := 0 }) (va_Pc [.ref x, .int (nI j)] (tq_rw (dC, dI) [(x, .inr (0, [.ref a, .int (nI n), .ref b, .int (nI k)])), (a, .inl (cA, (600, .inr (.inl f)))), (b, .inl (cA, (40, .inr (.inl g))))] [(cA, .long)] sz)) (va_Qi (fun r (_ : Unit) => r = nI (n - j)) (fun _ t => tq_in (dC, dI) [(x, .inr (0, [.ref a, .int (nI j), .ref b, .int (nI k)])), (a, .inl (cA, (600, .inr (.inl f)))), (b, .inl (cA, (40, .inr (.inl g))))] [(cA, .long)] (va_A [(x, .inr (0, [.ref a, .int (nI n), .ref b, .int (nI k)])), (a, .inl (cA, (600, .inr (.inl f)))), (b, .inl (cA, (40, .inr (.inl g))))] sz) t) (va_A [(x, .inr (0, [.ref a, .int (nI n), .ref b, .int (nI k)])), (a, .inl (cA, (600, .inr (.inl f)))), (b, .inl (cA, (40, .inr (.inl g))))] sz)) 0 0 (va_A [(x, .inr (0, [.ref a, .int (nI n), .ref b, .int (nI k)])), (a, .inl (cA, (600, .inr (.inl f)))), (b, .inl (cA, (40, .inr (.inl g))))] sz) := by
  refine Met.ofW (cc := qc_X_cut) (maxL := 3) (ret := (some .int)) (by decide) rfl ?_
  intro p e s m args below meth c s₁ B hml hv
  obtain ⟨rfl, hsz, hP, hK, hD0⟩ := hv
  have hx := B.exec
  have hb := B.bytes
  have hr := B.returns
  have hts := atoms_spec (ws := qw_X_cut) B.pre
  have hW : ∀ w ∈ tq_W, w.before ([.ref x, .int (nI j)] : List Value).toArray s = true := fun w h => hts w (List.mem_cons_of_mem _ h)
  have hown : s.vm.findClass RX0 = some m.cls := findClass_of_methodNamed B.named
  have hlocks := B.notSynchronized
  have hl := lv_entry ([.ref x, .int (nI j)]) (n := 3) (Nat.le_of_ble_eq_true rfl)
  rw [lg_entry_eq]
  generalize (lg_sl ([.ref x, .int (nI j)]) ++ List.replicate (3 - (lg_sl ([.ref x, .int (nI j)])).length) Slot.unset).toArray = ls at hl ⊢
  have hl : lv_has ls 3 [(0, .ref x), (1, .int (nI j))] := hl
  subst hsz
  have hD := hD0.self (sz := s.heap.size)
  generalize hAe : va_A [(x, .inr (0, [.ref a, .int (nI n), .ref b, .int (nI k)])), (a, .inl (cA, (600, .inr (.inl f)))), (b, .inl (cA, (40, .inr (.inl g))))] s.heap.size = A at hD ⊢
  have hA : ∀ q : Nat, s.heap.size ≤ q → A q := fun q h => by rw [← hAe]; exact Or.inr h
  have hS : va_S A s.heap s.heap [] := va_S.rf
  refine lv_iload_n hx hb qd_X_cut_0 rfl (lv_at hl 1 rfl) ?_
  refine tq_if_lt (x := j) (tgt := 12) hx hb qd_X_cut_1 (by decide) (by omega) ?_
  refine lv_iload_n hx hb qd_X_cut_4 rfl (lv_at hl 1 rfl) ?_
  refine lv_aload_n hx hb qd_X_cut_5 rfl (lv_at hl 0 rfl) ?_
  refine va_get (D := (dC, dI)) (ci := 0) (v := .int (nI n)) (C := RX0) (T := TX0) (N := 4) hx hb hW inX0 hown hK hP 0 rfl rfl 1 (by decide) (hW _ qm_20) (fun _ h9 => h9) rfl qd_X_cut_6 ?_
  refine tq_icmp_le (x := j) (y := n) (tgt := 20) hx hb qd_X_cut_9 (by decide) (by omega) (by omega) (fun c9 => ?_) (fun c9 => by omega)
  refine lv_aload_n hx hb qd_X_cut_20 rfl (lv_at hl 0 rfl) ?_
  refine va_get (D := (dC, dI)) (ci := 0) (v := .int (nI n)) (C := RX0) (T := TX0) (N := 4) hx hb hW inX0 hown hK hP 0 rfl rfl 1 (by decide) (hW _ qm_20) (fun _ h9 => h9) rfl qd_X_cut_21 ?_
  refine lv_iload_n hx hb qd_X_cut_24 rfl (lv_at hl 1 rfl) ?_
  refine lv_isub hx hb qd_X_cut_25 ?_
  refine tq_ti (y := nI (n - j)) (pk_sub hj) ?_
  refine lv_istore_n (lv' := [(2, .int (nI (n - j))), (0, .ref x), (1, .int (nI j))]) hx hb qd_X_cut_26 rfl hl (by decide) rfl (fun ls hl => ?_)
  refine lv_aload_n hx hb qd_X_cut_27 rfl (lv_at hl 1 rfl) ?_
  refine lv_iload_n hx hb qd_X_cut_28 rfl (lv_at hl 2 rfl) ?_
  refine va_put (D := (dC, dI)) (ci := 0) (v := .int (nI j)) (ty := .int) (C := RX0) (T := TX0) (N := 4) hx hb hW inX0 tyX0 tyX0_ok nmX0 hown hK hP hD hS 0 rfl rfl 1 (by decide) (hW _ qm_20) (fun _ h9 => h9) rfl (by decide +kernel) rfl rfl (Nat.le_of_ble_eq_true rfl) qd_X_cut_29 (fun H locs hP hD hS => ?_)
  have hP : va_P (dC, dI) tq_cl [(x, .inr (0, [.ref a, .int (nI j), .ref b, .int (nI k)])), (a, .inl (cA, (600, .inr (.inl f)))), (b, .inl (cA, (40, .inr (.inl g))))] H := hP
  have hD : va_D A [(x, .inr (0, [.ref a, .int (nI j), .ref b, .int (nI k)])), (a, .inl (cA, (600, .inr (.inl f)))), (b, .inl (cA, (40, .inr (.inl g))))] := hD
  refine lv_iload_n hx hb qd_X_cut_32 rfl (lv_at hl 0 rfl) ?_
  exact W.iret hx hb hr (fun t ht hW9 => ⟨⟨_, (), rfl, rfl, by rw [ht]; exact hP, va_K.moved hW9.alike hK, hD⟩, hS.F ht⟩) hS.2.2 qd_X_cut_33
set_option maxHeartbeats 4000000 in
set_option maxRecDepth 100000 in
/-- alter -/
theorem ct_X_alter (l : Launch) (dC : Nat → ClassId) (dI : Nat → Nat → Nat) (x a b : Nat) (cA : ClassId) (n k : Nat) (f g : Nat → Int64) (sz : Nat) (j : Nat) (v : Int64) (hj : j < k) (hk : k ≤ 40) : Met l qy_X_alter qw_X_alter ({ frames := 0, cells := 0, slots := 0, locals := 0 }) (va_Pc [.ref x, .int (nI j), .long v] (tq_rw (dC, dI) [(x, .inr (0, [.ref a, .int (nI n), .ref b, .int (nI k)])), (a, .inl (cA, (600, .inr (.inl f)))), (b, .inl (cA, (40, .inr (.inl g))))] [(cA, .long)] sz)) (va_Ql (fun r (_ : Unit) => r = g j) (fun _ t => tq_in (dC, dI) [(x, .inr (0, [.ref a, .int (nI n), .ref b, .int (nI k)])), (a, .inl (cA, (600, .inr (.inl f)))), (b, .inl (cA, (40, .inr (.inl ((vp_updL g j v))))))] [(cA, .long)] (va_A [(x, .inr (0, [.ref a, .int (nI n), .ref b, .int (nI k)])), (a, .inl (cA, (600, .inr (.inl f)))), (b, .inl (cA, (40, .inr (.inl g))))] sz) t) (va_A [(x, .inr (0, [.ref a, .int (nI n), .ref b, .int (nI k)])), (a, .inl (cA, (600, .inr (.inl f)))), (b, .inl (cA, (40, .inr (.inl g))))] sz)) 0 0 (va_A [(x, .inr (0, [.ref a, .int (nI n), .ref b, .int (nI k)])), (a, .inl (cA, (600, .inr (.inl f)))), (b, .inl (cA, (40, .inr (.inl g))))] sz) := by
  refine Met.ofW (cc := qc_X_alter) (maxL := 6) (ret := (some .long)) (by decide) rfl ?_
  intro p e s m args below meth c s₁ B hml hv
  obtain ⟨rfl, hsz, hP, hK, hD0⟩ := hv
  have hx := B.exec
  have hb := B.bytes
  have hr := B.returns
  have hts := atoms_spec (ws := qw_X_alter) B.pre
  have hW : ∀ w ∈ tq_W, w.before ([.ref x, .int (nI j), .long v] : List Value).toArray s = true := fun w h => hts w (List.mem_cons_of_mem _ h)
  have hown : s.vm.findClass RX0 = some m.cls := findClass_of_methodNamed B.named
  have hlocks := B.notSynchronized
  have hl := lv_entry ([.ref x, .int (nI j), .long v]) (n := 6) (Nat.le_of_ble_eq_true rfl)
  rw [lg_entry_eq]
  generalize (lg_sl ([.ref x, .int (nI j), .long v]) ++ List.replicate (6 - (lg_sl ([.ref x, .int (nI j), .long v])).length) Slot.unset).toArray = ls at hl ⊢
  have hl : lv_has ls 6 [(0, .ref x), (1, .int (nI j)), (2, .long v)] := hl
  subst hsz
  have hD := hD0.self (sz := s.heap.size)
  generalize hAe : va_A [(x, .inr (0, [.ref a, .int (nI n), .ref b, .int (nI k)])), (a, .inl (cA, (600, .inr (.inl f)))), (b, .inl (cA, (40, .inr (.inl g))))] s.heap.size = A at hD ⊢
  have hA : ∀ q : Nat, s.heap.size ≤ q → A q := fun q h => by rw [← hAe]; exact Or.inr h
  have hS : va_S A s.heap s.heap [] := va_S.rf
  refine lv_iload_n hx hb qd_X_alter_0 rfl (lv_at hl 1 rfl) ?_
  refine tq_if_lt (x := j) (tgt := 12) hx hb qd_X_alter_1 (by decide) (by omega) ?_
  refine lv_iload_n hx hb qd_X_alter_4 rfl (lv_at hl 1 rfl) ?_
  refine lv_aload_n hx hb qd_X_alter_5 rfl (lv_at hl 0 rfl) ?_
  refine va_get (D := (dC, dI)) (ci := 0) (v := .int (nI k)) (C := RX0) (T := TX0) (N := 4) hx hb hW inX0 hown hK hP 0 rfl rfl 3 (by decide) (hW _ qm_22) (fun _ h9 => h9) rfl qd_X_alter_6 ?_
  refine tq_icmp_lt (x := j) (y := k) (tgt := 20) hx hb qd_X_alter_9 (by decide) (by omega) (by omega) (fun c9 => ?_) (fun c9 => by omega)
  refine lv_aload_n hx hb qd_X_alter_20 rfl (lv_at hl 0 rfl) ?_
  refine va_get (D := (dC, dI)) (ci := 0) (v := .ref b) (C := RX0) (T := TX0) (N := 4) hx hb hW inX0 hown hK hP 0 rfl rfl 2 (by decide) (hW _ qm_21) (fun _ h9 => h9) rfl qd_X_alter_21 ?_
  refine lv_iload_n hx hb qd_X_alter_24 rfl (lv_at hl 1 rfl) ?_
  refine tq_lald hx hb hK hP 2 0 rfl rfl (j := j) (by omega) (by decide) qd_X_alter_25 ?_
  refine lv_lstore (lv' := [(4, .long (g j)), (0, .ref x), (1, .int (nI j)), (2, .long v)]) hx hb qd_X_alter_26 hl (by decide) rfl (fun ls hl => ?_)
  refine lv_aload_n hx hb qd_X_alter_28 rfl (lv_at hl 1 rfl) ?_
  refine va_get (D := (dC, dI)) (ci := 0) (v := .ref b) (C := RX0) (T := TX0) (N := 4) hx hb hW inX0 hown hK hP 0 rfl rfl 2 (by decide) (hW _ qm_21) (fun _ h9 => h9) rfl qd_X_alter_29 ?_
  refine lv_iload_n hx hb qd_X_alter_32 rfl (lv_at hl 2 rfl) ?_
  refine lv_lload_n hx hb qd_X_alter_33 rfl (lv_at hl 3 rfl) ?_
  refine tq_last hx hb hK hP hD hS 2 0 rfl rfl (j := j) (x := v) (by omega) (by decide) qd_X_alter_34 (fun H locs hP hD hS => ?_)
  have hP : va_P (dC, dI) tq_cl [(x, .inr (0, [.ref a, .int (nI n), .ref b, .int (nI k)])), (a, .inl (cA, (600, .inr (.inl f)))), (b, .inl (cA, (40, .inr (.inl (vp_updL g j v)))))] H := hP
  have hD : va_D A [(x, .inr (0, [.ref a, .int (nI n), .ref b, .int (nI k)])), (a, .inl (cA, (600, .inr (.inl f)))), (b, .inl (cA, (40, .inr (.inl (vp_updL g j v)))))] := hD
  refine lv_lload hx hb qd_X_alter_35 (lv_at hl 0 rfl) ?_
  exact W.lret hx hb hr (fun t ht hW9 => ⟨⟨_, (), rfl, rfl, by rw [ht]; exact hP, va_K.moved hW9.alike hK, hD⟩, hS.F ht⟩) hS.2.2 qd_X_alter_37
set_option maxHeartbeats 4000000 in
set_option maxRecDepth 100000 in
/-- length -/
theorem ct_X_length (l : Launch) (dC : Nat → ClassId) (dI : Nat → Nat → Nat) (x a b : Nat) (cA : ClassId) (n k : Nat) (f g : Nat → Int64) (sz : Nat) (j : Nat) (hj : j ≤ 40) (hk : k ≤ 40) : Met l qy_X_length qw_X_length ({ frames := 0, cells := 0, slots := 0, locals := 0 }) (va_Pc [.ref x, .int (nI j)] (tq_rw (dC, dI) [(x, .inr (0, [.ref a, .int (nI n), .ref b, .int (nI k)])), (a, .inl (cA, (600, .inr (.inl f)))), (b, .inl (cA, (40, .inr (.inl g))))] [(cA, .long)] sz)) (va_Qi (fun r (_ : Unit) => r = nI k) (fun _ t => tq_in (dC, dI) [(x, .inr (0, [.ref a, .int (nI n), .ref b, .int (nI j)])), (a, .inl (cA, (600, .inr (.inl f)))), (b, .inl (cA, (40, .inr (.inl ((tq_fl g k (j - k) (fun _ => 0)))))))] [(cA, .long)] (va_A [(x, .inr (0, [.ref a, .int (nI n), .ref b, .int (nI k)])), (a, .inl (cA, (600, .inr (.inl f)))), (b, .inl (cA, (40, .inr (.inl g))))] sz) t) (va_A [(x, .inr (0, [.ref a, .int (nI n), .ref b, .int (nI k)])), (a, .inl (cA, (600, .inr (.inl f)))), (b, .inl (cA, (40, .inr (.inl g))))] sz)) 0 0 (va_A [(x, .inr (0, [.ref a, .int (nI n), .ref b, .int (nI k)])), (a, .inl (cA, (600, .inr (.inl f)))), (b, .inl (cA, (40, .inr (.inl g))))] sz) := by
  refine Met.ofW (cc := qc_X_length) (maxL := 4) (ret := (some .int)) (by decide) rfl ?_
  intro p e s m args below meth c s₁ B hml hv
  obtain ⟨rfl, hsz, hP, hK, hD0⟩ := hv
  have hx := B.exec
  have hb := B.bytes
  have hr := B.returns
  have hts := atoms_spec (ws := qw_X_length) B.pre
  have hW : ∀ w ∈ tq_W, w.before ([.ref x, .int (nI j)] : List Value).toArray s = true := fun w h => hts w (List.mem_cons_of_mem _ h)
  have hown : s.vm.findClass RX0 = some m.cls := findClass_of_methodNamed B.named
  have hlocks := B.notSynchronized
  have hl := lv_entry ([.ref x, .int (nI j)]) (n := 4) (Nat.le_of_ble_eq_true rfl)
  rw [lg_entry_eq]
  generalize (lg_sl ([.ref x, .int (nI j)]) ++ List.replicate (4 - (lg_sl ([.ref x, .int (nI j)])).length) Slot.unset).toArray = ls at hl ⊢
  have hl : lv_has ls 4 [(0, .ref x), (1, .int (nI j))] := hl
  subst hsz
  have hD := hD0.self (sz := s.heap.size)
  generalize hAe : va_A [(x, .inr (0, [.ref a, .int (nI n), .ref b, .int (nI k)])), (a, .inl (cA, (600, .inr (.inl f)))), (b, .inl (cA, (40, .inr (.inl g))))] s.heap.size = A at hD ⊢
  have hA : ∀ q : Nat, s.heap.size ≤ q → A q := fun q h => by rw [← hAe]; exact Or.inr h
  have hS : va_S A s.heap s.heap [] := va_S.rf
  have loop : ∀ (t i : Nat), i + t = j - k → ∀ (H : Heap) (locs : List Loc), va_P (dC, dI) tq_cl [(x, .inr (0, [.ref a, .int (nI n), .ref b, .int (nI k)])), (a, .inl (cA, (600, .inr (.inl f)))), (b, .inl (cA, (40, .inr (.inl ((tq_fl g k i (fun _ => 0)))))))] H → va_D A [(x, .inr (0, [.ref a, .int (nI n), .ref b, .int (nI k)])), (a, .inl (cA, (600, .inr (.inl f)))), (b, .inl (cA, (40, .inr (.inl ((tq_fl g k i (fun _ => 0)))))))] → va_S A s.heap H locs → ∀ ls : Array Slot, lv_has ls 4 [(3, .int (nI (k + i))), (2, .int (nI k)), (0, .ref x), (1, .int (nI j))] → W p l e (headSpec qw_X_length ({ frames := 0, cells := 0, slots := 0, locals := 0 })).room s m ([.ref x, .int (nI j)] : List Value).toArray below meth c H locs 0 0 (MQ below (va_Qi (fun r (_ : Unit) => r = nI k) (fun _ t => tq_in (dC, dI) [(x, .inr (0, [.ref a, .int (nI n), .ref b, .int (nI j)])), (a, .inl (cA, (600, .inr (.inl f)))), (b, .inl (cA, (40, .inr (.inl ((tq_fl g k (j - k) (fun _ => 0)))))))] [(cA, .long)] A t) A) ([.ref x, .int (nI j)] : List Value).toArray s 0 0 A) (F0 m 25 ls []) := by
    intro t
    induction t with
    | zero =>
      intro i hi H locs hP hD hS ls hl
      obtain rfl : i = j - k := by omega
      refine lv_iload_n hx hb qd_X_length_25 rfl (lv_at hl 0 rfl) ?_
      refine lv_iload_n hx hb qd_X_length_26 rfl (lv_at hl 3 rfl) ?_
      refine tq_icmp_ge (x := (k + (j - k))) (y := j) (tgt := 43) hx hb qd_X_length_27 (by decide) (by omega) (by omega) (fun c9 => ?_) (fun c9 => by omega)
      refine lv_aload_n hx hb qd_X_length_43 rfl (lv_at hl 2 rfl) ?_
      refine lv_iload_n hx hb qd_X_length_44 rfl (lv_at hl 3 rfl) ?_
      refine va_put (D := (dC, dI)) (ci := 0) (v := .int (nI j)) (ty := .int) (C := RX0) (T := TX0) (N := 4) hx hb hW inX0 tyX0 tyX0_ok nmX0 hown hK hP hD hS 0 rfl rfl 3 (by decide) (hW _ qm_22) (fun _ h9 => h9) rfl (by decide +kernel) rfl rfl (Nat.le_of_ble_eq_true rfl) qd_X_length_45 (fun H locs hP hD hS => ?_)
      have hP : va_P (dC, dI) tq_cl [(x, .inr (0, [.ref a, .int (nI n), .ref b, .int (nI j)])), (a, .inl (cA, (600, .inr (.inl f)))), (b, .inl (cA, (40, .inr (.inl ((tq_fl g k (j - k) (fun _ => 0)))))))] H := hP
      have hD : va_D A [(x, .inr (0, [.ref a, .int (nI n), .ref b, .int (nI j)])), (a, .inl (cA, (600, .inr (.inl f)))), (b, .inl (cA, (40, .inr (.inl ((tq_fl g k (j - k) (fun _ => 0)))))))] := hD
      refine lv_iload_n hx hb qd_X_length_48 rfl (lv_at hl 1 rfl) ?_
      exact W.iret hx hb hr (fun t ht hW9 => ⟨⟨_, (), rfl, rfl, by rw [ht]; exact hP, va_K.moved hW9.alike hK, hD⟩, hS.F ht⟩) hS.2.2 qd_X_length_49
    | succ t ih =>
      intro i hi H locs hP hD hS ls hl
      refine lv_iload_n hx hb qd_X_length_25 rfl (lv_at hl 0 rfl) ?_
      refine lv_iload_n hx hb qd_X_length_26 rfl (lv_at hl 3 rfl) ?_
      refine tq_icmp_ge (x := (k + i)) (y := j) (tgt := 43) hx hb qd_X_length_27 (by decide) (by omega) (by omega) (fun c9 => by omega) (fun c9 => ?_)
      refine lv_aload_n hx hb qd_X_length_30 rfl (lv_at hl 2 rfl) ?_
      refine va_get (D := (dC, dI)) (ci := 0) (v := .ref b) (C := RX0) (T := TX0) (N := 4) hx hb hW inX0 hown hK hP 0 rfl rfl 2 (by decide) (hW _ qm_21) (fun _ h9 => h9) rfl qd_X_length_31 ?_
      refine lv_iload_n hx hb qd_X_length_34 rfl (lv_at hl 0 rfl) ?_
      refine lv_lconst (v := 0) hx hb qd_X_length_35 (by decide) ?_
      refine tq_last hx hb hK hP hD hS 2 0 rfl rfl (j := ((k + i))) (x := 0) (by omega) (by decide) qd_X_length_36 (fun H locs hP hD hS => ?_)
      have hP : va_P (dC, dI) tq_cl [(x, .inr (0, [.ref a, .int (nI n), .ref b, .int (nI k)])), (a, .inl (cA, (600, .inr (.inl f)))), (b, .inl (cA, (40, .inr (.inl (vp_updL ((tq_fl g k i (fun _ => 0))) ((k + i)) 0)))))] H := hP
      have hD : va_D A [(x, .inr (0, [.ref a, .int (nI n), .ref b, .int (nI k)])), (a, .inl (cA, (600, .inr (.inl f)))), (b, .inl (cA, (40, .inr (.inl (vp_updL ((tq_fl g k i (fun _ => 0))) ((k + i)) 0)))))] := hD
      rw [tq_fl_s g k i (fun _ => 0)] at hP hD
      refine lv_iinc (v := (nI (k + (i + 1)))) (lv' := [(3, .int (nI (k + (i + 1)))), (2, .int (nI k)), (0, .ref x), (1, .int (nI j))]) hx hb qd_X_length_37 hl (k := 0) rfl (nI_1 (k + i)) (by decide) rfl (fun ls hl => ?_)
      refine lv_goto (tgt := 25) hx hb qd_X_length_40 (by decide) ?_
      exact ih (i + 1) (by omega) _ _ hP hD hS ls (lv_sub hl [0, 1, 2, 3] rfl)
  refine lv_iload_n hx hb qd_X_length_0 rfl (lv_at hl 1 rfl) ?_
  refine tq_if_lt (x := j) (tgt := 10) hx hb qd_X_length_1 (by decide) (by omega) ?_
  refine lv_iload_n hx hb qd_X_length_4 rfl (lv_at hl 1 rfl) ?_
  refine lv_bipush (v := nI 40) hx hb qd_X_length_5 (by decide +kernel) ?_
  refine tq_icmp_le (x := j) (y := 40) (tgt := 18) hx hb qd_X_length_7 (by decide) (by omega) (by omega) (fun c9 => ?_) (fun c9 => by omega)
  refine lv_aload_n hx hb qd_X_length_18 rfl (lv_at hl 0 rfl) ?_
  refine va_get (D := (dC, dI)) (ci := 0) (v := .int (nI k)) (C := RX0) (T := TX0) (N := 4) hx hb hW inX0 hown hK hP 0 rfl rfl 3 (by decide) (hW _ qm_22) (fun _ h9 => h9) rfl qd_X_length_19 ?_
  refine lv_istore_n (lv' := [(2, .int (nI k)), (0, .ref x), (1, .int (nI j))]) hx hb qd_X_length_22 rfl hl (by decide) rfl (fun ls hl => ?_)
  refine lv_iload_n hx hb qd_X_length_23 rfl (lv_at hl 0 rfl) ?_
  refine tq_ti (y := nI (k + 0)) (rfl) ?_
  refine lv_istore_n (lv' := [(3, .int (nI (k + 0))), (2, .int (nI k)), (0, .ref x), (1, .int (nI j))]) hx hb qd_X_length_24 rfl hl (by decide) rfl (fun ls hl => ?_)
  exact loop (j - k) 0 (Nat.zero_add _) _ _ (by rw [tq_fl_0]; exact hP) (by rw [tq_fl_0]; exact hD) hS ls (lv_sub hl [0, 1, 2, 3] rfl)
