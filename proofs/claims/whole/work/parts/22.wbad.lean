set_option maxHeartbeats 4000000 in
set_option maxRecDepth 100000 in
/-- L_add, through the law, refused -/
theorem cx_L_add (l : Launch) (dC : Nat → ClassId) (dI : Nat → Nat → Nat) (x a b : Nat) (cA : ClassId) (n k : Nat) (f g : Nat → Int64) (ao : Nat) (ow : Nat → Int64) (sz : Nat) (hst : l.stackTraces = false) (v : Int64) (hn : n = 600) : Met l qy_L_add qw_L_add ({ frames := 7, cells := 1, slots := 6, locals := 130 }) (va_Pc [.ref x, .long v, .ref ao] (tq_rz (dC, dI) [(x, .inr (0, [.ref a, .int (nI n), .ref b, .int (nI k)])), (a, .inl (cA, (600, .inr (.inl f)))), (b, .inl (cA, (40, .inr (.inl g)))), (ao, .inl (cA, (1, .inr (.inl ow))))] [(cA, .long)] sz)) (va_Qi (fun r (_ : Unit) => r = nI 1) (fun _ t => tq_in (dC, dI) [(x, .inr (0, [.ref a, .int (nI n), .ref b, .int (nI k)])), (a, .inl (cA, (600, .inr (.inl f)))), (b, .inl (cA, (40, .inr (.inl g)))), (ao, .inl (cA, (1, .inr (.inl ow))))] [(cA, .long)] (va_A [(x, .inr (0, [.ref a, .int (nI n), .ref b, .int (nI k)])), (a, .inl (cA, (600, .inr (.inl f)))), (b, .inl (cA, (40, .inr (.inl g)))), (ao, .inl (cA, (1, .inr (.inl ow))))] sz) t) (va_A [(x, .inr (0, [.ref a, .int (nI n), .ref b, .int (nI k)])), (a, .inl (cA, (600, .inr (.inl f)))), (b, .inl (cA, (40, .inr (.inl g)))), (ao, .inl (cA, (1, .inr (.inl ow))))] sz)) 1 6 (va_A [(x, .inr (0, [.ref a, .int (nI n), .ref b, .int (nI k)])), (a, .inl (cA, (600, .inr (.inl f)))), (b, .inl (cA, (40, .inr (.inl g)))), (ao, .inl (cA, (1, .inr (.inl ow))))] sz) := by
  refine va_MetW (hh := [(0, 9, 12, 13)]) (cc := qc_L_add) (maxL := 5) (ret := (some .int)) (by decide) rfl ?_
  intro p e s m args below meth c s₁ B hml hv
  obtain ⟨rfl, ⟨hsz, hP, hK, hD0⟩, hZ⟩ := hv
  have hx := B.exec
  have hb := B.bytes
  have hr := B.returns
  have hts := atoms_spec (ws := qw_L_add) B.pre
  have hW : ∀ w ∈ tq_W, w.before ([.ref x, .long v, .ref ao] : List Value).toArray s = true := fun w h => hts w (List.mem_cons_of_mem _ h)
  have hown : s.vm.findClass RL = some m.cls := findClass_of_methodNamed B.named
  have hlocks := B.notSynchronized
  have hl := lv_entry ([.ref x, .long v, .ref ao]) (n := 5) (Nat.le_of_ble_eq_true rfl)
  rw [lg_entry_eq]
  generalize (lg_sl ([.ref x, .long v, .ref ao]) ++ List.replicate (5 - (lg_sl ([.ref x, .long v, .ref ao])).length) Slot.unset).toArray = ls at hl ⊢
  have hl : lv_has ls 5 [(0, .ref x), (1, .long v), (3, .ref ao)] := hl
  have hTab : c.exceptionTable.toList = tableOf [(0, 9, 12, 13)] := vx_table (x := qy_L_add) B (hts _ List.mem_cons_self)
  subst hsz
  have hD := hD0.self (sz := s.heap.size)
  generalize hAe : va_A [(x, .inr (0, [.ref a, .int (nI n), .ref b, .int (nI k)])), (a, .inl (cA, (600, .inr (.inl f)))), (b, .inl (cA, (40, .inr (.inl g)))), (ao, .inl (cA, (1, .inr (.inl ow))))] s.heap.size = A at hD hZ ⊢
  have hA : ∀ q : Nat, s.heap.size ≤ q → A q := fun q h => by rw [← hAe]; exact Or.inr h
  have hS : va_S A s.heap s.heap [] := va_S.rf
  refine lv_aload_n hx hb qd_L_add_0 rfl (lv_at hl 2 rfl) ?_
  refine lv_iconst (v := nI 0) hx hb qd_L_add_1 (by decide +kernel) ?_
  refine lv_aload_n hx hb qd_L_add_2 rfl (lv_at hl 0 rfl) ?_
  refine lv_lload_n hx hb qd_L_add_3 rfl (lv_at hl 1 rfl) ?_
  have hPc := hP.sub (ws' := [(x, .inr (0, [.ref a, .int (nI n), .ref b, .int (nI k)])), (a, .inl (cA, (600, .inr (.inl f)))), (b, .inl (cA, (40, .inr (.inl g))))]) [0, 1, 2] rfl
  have hDc := hD.sub (ws' := [(x, .inr (0, [.ref a, .int (nI n), .ref b, .int (nI k)])), (a, .inl (cA, (600, .inr (.inl f)))), (b, .inl (cA, (40, .inr (.inl g))))]) [0, 1, 2] (by decide) rfl
  have hKc := hK.sub (tys' := [(cA, .long)]) [0] rfl
  have hFc := va_free (wc := [(x, .inr (0, [.ref a, .int (nI n), .ref b, .int (nI k)])), (a, .inl (cA, (600, .inr (.inl f)))), (b, .inl (cA, (40, .inr (.inl g))))]) hD hS hA [0, 1, 2] rfl
  refine vx_calli (vx_runV (As := [.long v]) (rest := [.int (nI 0), .ref ao]) ⟨hx, hb, hml, hown, hW⟩ (cx_X_add l dC dI x a b cA n k f g s.heap.size hst v hn) (cwV 1 hW (tq_gV qm_86 qm_87 qm_88 qm_1 qm_89) rfl rfl rfl (by decide +kernel) ⟨Nat.le_of_ble_eq_true rfl, Nat.le_of_ble_eq_true rfl⟩) ⟨tq_b3, va_recv hKc hPc (ci := 0) (q0 := 0) rfl rfl, fun U hU hW9 => ⟨rfl, ⟨by rw [hU], by rw [hU]; exact hPc, va_K.moved hW9.alike hKc, hDc.weaken (fun _ _ _ _ => trivial)⟩, hZ.on hS hU hW9 hFc⟩⟩ rfl rfl hl.1 rfl (lv_room (Nat.le_of_ble_eq_true rfl)) qd_L_add_4 ⟨Nat.le_of_ble_eq_true rfl, Nat.le_of_ble_eq_true rfl⟩) hS (fun q _ h => hFc q h) hFc (fun q _ h => hFc q h) (fun E ce q9 u t9 H1 locs ht9 hvm hw hB hz1 hk1 hS hce hcv hcl => ?_) (fun r9 u t9 H1 locs ht9 hvm hw hB hz1 hk1 hS => False.elim hw)
  obtain ⟨rfl, hP1, hK1, hD1⟩ := hB
  rw [ht9] at hP1
  obtain ⟨hP, hD⟩ := va_join (wr := [(ao, .inl (cA, (1, .inr (.inl ow))))]) (w1 := [(x, .inr (0, [.ref a, .int (nI n), .ref b, .int (nI k)])), (a, .inl (cA, (600, .inr (.inl f)))), (b, .inl (cA, (40, .inr (.inl g))))]) hP hD [0, 1, 2] [3] rfl rfl (by decide) (by decide) hk1 hFc hP1 hD1
  generalize H1 = H at hP hS hce ⊢
  have hP : va_P (dC, dI) tq_cl [(ao, .inl (cA, (1, .inr (.inl ow)))), (x, .inr (0, [.ref a, .int (nI n), .ref b, .int (nI k)])), (a, .inl (cA, (600, .inr (.inl f)))), (b, .inl (cA, (40, .inr (.inl g))))] H := hP
  have hD : va_D A [(ao, .inl (cA, (1, .inr (.inl ow)))), (x, .inr (0, [.ref a, .int (nI n), .ref b, .int (nI k)])), (a, .inl (cA, (600, .inr (.inl f)))), (b, .inl (cA, (40, .inr (.inl g))))] := hD
  refine vx_catch (own := RL) (name := "java/lang/IllegalStateException") (E := "java/lang/IllegalStateException") hown [] ⟨0, 9, 12, 13⟩ [] (by rw [hTab]; rfl) (fun z hz => nomatch hz) (by decide) (by decide) (hW _ qm_85) (va_Nw.use rfl (hZ.2.2.1 (.castable "java/lang/IllegalStateException" "java/lang/IllegalStateException") (by decide +kernel))) hce hcv hcl ?_
  refine W.eq (g2 := F0 m 12 ls [.ref q9]) rfl ?_
  refine lv_astore (lv' := [(4, .ref q9), (0, .ref x), (1, .long v), (3, .ref ao)]) hx hb qd_L_add_12 hl (by decide) rfl (fun ls hl => ?_)
  refine lv_iconst (v := nI 1) hx hb qd_L_add_14 (by decide +kernel) ?_
  exact W.iret hx hb hr (fun t ht hW9 => ⟨⟨_, (), rfl, rfl, by rw [ht]; exact hP.sub [1, 2, 3, 0] rfl, va_K.moved hW9.alike hK, hD.sub [1, 2, 3, 0] (by decide) rfl⟩, hS.F ht⟩) hS.2.2 qd_L_add_15
set_option maxHeartbeats 4000000 in
set_option maxRecDepth 100000 in
/-- L_fill, through the law, refused -/
theorem cx_L_fill (l : Launch) (dC : Nat → ClassId) (dI : Nat → Nat → Nat) (x a b : Nat) (cA : ClassId) (n k : Nat) (f g : Nat → Int64) (ao : Nat) (ow : Nat → Int64) (sz : Nat) (hst : l.stackTraces = false) (q : Int32) (v step : Int64) (hbad : q < nI 1 ∨ nI 200 < q) : Met l qy_L_fill qw_L_fill ({ frames := 7, cells := 1, slots := 6, locals := 130 }) (va_Pc [.ref x, .int q, .long v, .long step, .ref ao] (tq_rz (dC, dI) [(x, .inr (0, [.ref a, .int (nI n), .ref b, .int (nI k)])), (a, .inl (cA, (600, .inr (.inl f)))), (b, .inl (cA, (40, .inr (.inl g)))), (ao, .inl (cA, (1, .inr (.inl ow))))] [(cA, .long)] sz)) (va_Qi (fun r (_ : Unit) => r = nI 1) (fun _ t => tq_in (dC, dI) [(x, .inr (0, [.ref a, .int (nI n), .ref b, .int (nI k)])), (a, .inl (cA, (600, .inr (.inl f)))), (b, .inl (cA, (40, .inr (.inl g)))), (ao, .inl (cA, (1, .inr (.inl ow))))] [(cA, .long)] (va_A [(x, .inr (0, [.ref a, .int (nI n), .ref b, .int (nI k)])), (a, .inl (cA, (600, .inr (.inl f)))), (b, .inl (cA, (40, .inr (.inl g)))), (ao, .inl (cA, (1, .inr (.inl ow))))] sz) t) (va_A [(x, .inr (0, [.ref a, .int (nI n), .ref b, .int (nI k)])), (a, .inl (cA, (600, .inr (.inl f)))), (b, .inl (cA, (40, .inr (.inl g)))), (ao, .inl (cA, (1, .inr (.inl ow))))] sz)) 1 6 (va_A [(x, .inr (0, [.ref a, .int (nI n), .ref b, .int (nI k)])), (a, .inl (cA, (600, .inr (.inl f)))), (b, .inl (cA, (40, .inr (.inl g)))), (ao, .inl (cA, (1, .inr (.inl ow))))] sz) := by
  refine va_MetW (hh := [(0, 13, 16, 19), (0, 13, 20, 13)]) (cc := qc_L_fill) (maxL := 8) (ret := (some .int)) (by decide) rfl ?_
  intro p e s m args below meth c s₁ B hml hv
  obtain ⟨rfl, ⟨hsz, hP, hK, hD0⟩, hZ⟩ := hv
  have hx := B.exec
  have hb := B.bytes
  have hr := B.returns
  have hts := atoms_spec (ws := qw_L_fill) B.pre
  have hW : ∀ w ∈ tq_W, w.before ([.ref x, .int q, .long v, .long step, .ref ao] : List Value).toArray s = true := fun w h => hts w (List.mem_cons_of_mem _ h)
  have hown : s.vm.findClass RL = some m.cls := findClass_of_methodNamed B.named
  have hlocks := B.notSynchronized
  have hl := lv_entry ([.ref x, .int q, .long v, .long step, .ref ao]) (n := 8) (Nat.le_of_ble_eq_true rfl)
  rw [lg_entry_eq]
  generalize (lg_sl ([.ref x, .int q, .long v, .long step, .ref ao]) ++ List.replicate (8 - (lg_sl ([.ref x, .int q, .long v, .long step, .ref ao])).length) Slot.unset).toArray = ls at hl ⊢
  have hl : lv_has ls 8 [(0, .ref x), (1, .int q), (2, .long v), (4, .long step), (6, .ref ao)] := hl
  have hTab : c.exceptionTable.toList = tableOf [(0, 13, 16, 19), (0, 13, 20, 13)] := vx_table (x := qy_L_fill) B (hts _ List.mem_cons_self)
  subst hsz
  have hD := hD0.self (sz := s.heap.size)
  generalize hAe : va_A [(x, .inr (0, [.ref a, .int (nI n), .ref b, .int (nI k)])), (a, .inl (cA, (600, .inr (.inl f)))), (b, .inl (cA, (40, .inr (.inl g)))), (ao, .inl (cA, (1, .inr (.inl ow))))] s.heap.size = A at hD hZ ⊢
  have hA : ∀ q : Nat, s.heap.size ≤ q → A q := fun q h => by rw [← hAe]; exact Or.inr h
  have hS : va_S A s.heap s.heap [] := va_S.rf
  refine lv_aload hx hb qd_L_fill_0 (lv_at hl 4 rfl) ?_
  refine lv_iconst (v := nI 0) hx hb qd_L_fill_2 (by decide +kernel) ?_
  refine lv_aload_n hx hb qd_L_fill_3 rfl (lv_at hl 0 rfl) ?_
  refine lv_iload_n hx hb qd_L_fill_4 rfl (lv_at hl 1 rfl) ?_
  refine lv_lload_n hx hb qd_L_fill_5 rfl (lv_at hl 2 rfl) ?_
  refine lv_lload hx hb qd_L_fill_6 (lv_at hl 3 rfl) ?_
  have hPc := hP.sub (ws' := [(x, .inr (0, [.ref a, .int (nI n), .ref b, .int (nI k)])), (a, .inl (cA, (600, .inr (.inl f)))), (b, .inl (cA, (40, .inr (.inl g))))]) [0, 1, 2] rfl
  have hDc := hD.sub (ws' := [(x, .inr (0, [.ref a, .int (nI n), .ref b, .int (nI k)])), (a, .inl (cA, (600, .inr (.inl f)))), (b, .inl (cA, (40, .inr (.inl g))))]) [0, 1, 2] (by decide) rfl
  have hKc := hK.sub (tys' := [(cA, .long)]) [0] rfl
  have hFc := va_free (wc := [(x, .inr (0, [.ref a, .int (nI n), .ref b, .int (nI k)])), (a, .inl (cA, (600, .inr (.inl f)))), (b, .inl (cA, (40, .inr (.inl g))))]) hD hS hA [0, 1, 2] rfl
  refine vx_calli (vx_runV (As := [.int q, .long v, .long step]) (rest := [.int (nI 0), .ref ao]) ⟨hx, hb, hml, hown, hW⟩ (cx_X_fill l dC dI x a b cA n k f g s.heap.size hst q v step hbad) (cwV 3 hW (tq_gV qm_158 qm_159 qm_160 qm_1 qm_161) rfl rfl rfl (by decide +kernel) ⟨Nat.le_of_ble_eq_true rfl, Nat.le_of_ble_eq_true rfl⟩) ⟨tq_b3, va_recv hKc hPc (ci := 0) (q0 := 0) rfl rfl, fun U hU hW9 => ⟨rfl, ⟨by rw [hU], by rw [hU]; exact hPc, va_K.moved hW9.alike hKc, hDc.weaken (fun _ _ _ _ => trivial)⟩, hZ.on hS hU hW9 hFc⟩⟩ rfl rfl hl.1 rfl (lv_room (Nat.le_of_ble_eq_true rfl)) qd_L_fill_8 ⟨Nat.le_of_ble_eq_true rfl, Nat.le_of_ble_eq_true rfl⟩) hS (fun q _ h => hFc q h) hFc (fun q _ h => hFc q h) (fun E ce q9 u t9 H1 locs ht9 hvm hw hB hz1 hk1 hS hce hcv hcl => ?_) (fun r9 u t9 H1 locs ht9 hvm hw hB hz1 hk1 hS => False.elim hw)
  obtain ⟨rfl, hP1, hK1, hD1⟩ := hB
  rw [ht9] at hP1
  obtain ⟨hP, hD⟩ := va_join (wr := [(ao, .inl (cA, (1, .inr (.inl ow))))]) (w1 := [(x, .inr (0, [.ref a, .int (nI n), .ref b, .int (nI k)])), (a, .inl (cA, (600, .inr (.inl f)))), (b, .inl (cA, (40, .inr (.inl g))))]) hP hD [0, 1, 2] [3] rfl rfl (by decide) (by decide) hk1 hFc hP1 hD1
  generalize H1 = H at hP hS hce ⊢
  have hP : va_P (dC, dI) tq_cl [(ao, .inl (cA, (1, .inr (.inl ow)))), (x, .inr (0, [.ref a, .int (nI n), .ref b, .int (nI k)])), (a, .inl (cA, (600, .inr (.inl f)))), (b, .inl (cA, (40, .inr (.inl g))))] H := hP
  have hD : va_D A [(ao, .inl (cA, (1, .inr (.inl ow)))), (x, .inr (0, [.ref a, .int (nI n), .ref b, .int (nI k)])), (a, .inl (cA, (600, .inr (.inl f)))), (b, .inl (cA, (40, .inr (.inl g))))] := hD
  refine vx_catch (own := RL) (name := "java/lang/IllegalArgumentException") (E := "java/lang/IllegalArgumentException") hown [] ⟨0, 13, 16, 19⟩ [⟨0, 13, 20, 13⟩] (by rw [hTab]; rfl) (fun z hz => nomatch hz) (by decide) (by decide) (hW _ qm_157) (va_Nw.use rfl (hZ.2.2.1 (.castable "java/lang/IllegalArgumentException" "java/lang/IllegalArgumentException") (by decide +kernel))) hce hcv hcl ?_
  refine W.eq (g2 := F0 m 16 ls [.ref q9]) rfl ?_
  refine lv_astore (lv' := [(7, .ref q9), (0, .ref x), (1, .int q), (2, .long v), (4, .long step), (6, .ref ao)]) hx hb qd_L_fill_16 hl (by decide) rfl (fun ls hl => ?_)
  refine lv_iconst (v := nI 1) hx hb qd_L_fill_18 (by decide +kernel) ?_
  exact W.iret hx hb hr (fun t ht hW9 => ⟨⟨_, (), rfl, rfl, by rw [ht]; exact hP.sub [1, 2, 3, 0] rfl, va_K.moved hW9.alike hK, hD.sub [1, 2, 3, 0] (by decide) rfl⟩, hS.F ht⟩) hS.2.2 qd_L_fill_19
set_option maxHeartbeats 4000000 in
set_option maxRecDepth 100000 in
/-- L_fill, through the law, refused -/
theorem cx_L_fill2 (l : Launch) (dC : Nat → ClassId) (dI : Nat → Nat → Nat) (x a b : Nat) (cA : ClassId) (n k : Nat) (f g : Nat → Int64) (ao : Nat) (ow : Nat → Int64) (sz : Nat) (hst : l.stackTraces = false) (j : Nat) (v step : Int64) (h1 : 1 ≤ j) (h2 : j ≤ 200) (hn : 600 < n + j) (hn6 : n ≤ 600) : Met l qy_L_fill qw_L_fill ({ frames := 7, cells := 1, slots := 6, locals := 130 }) (va_Pc [.ref x, .int (nI j), .long v, .long step, .ref ao] (tq_rz (dC, dI) [(x, .inr (0, [.ref a, .int (nI n), .ref b, .int (nI k)])), (a, .inl (cA, (600, .inr (.inl f)))), (b, .inl (cA, (40, .inr (.inl g)))), (ao, .inl (cA, (1, .inr (.inl ow))))] [(cA, .long)] sz)) (va_Qi (fun r (_ : Unit) => r = nI 2) (fun _ t => tq_in (dC, dI) [(x, .inr (0, [.ref a, .int (nI n), .ref b, .int (nI k)])), (a, .inl (cA, (600, .inr (.inl f)))), (b, .inl (cA, (40, .inr (.inl g)))), (ao, .inl (cA, (1, .inr (.inl ow))))] [(cA, .long)] (va_A [(x, .inr (0, [.ref a, .int (nI n), .ref b, .int (nI k)])), (a, .inl (cA, (600, .inr (.inl f)))), (b, .inl (cA, (40, .inr (.inl g)))), (ao, .inl (cA, (1, .inr (.inl ow))))] sz) t) (va_A [(x, .inr (0, [.ref a, .int (nI n), .ref b, .int (nI k)])), (a, .inl (cA, (600, .inr (.inl f)))), (b, .inl (cA, (40, .inr (.inl g)))), (ao, .inl (cA, (1, .inr (.inl ow))))] sz)) 1 6 (va_A [(x, .inr (0, [.ref a, .int (nI n), .ref b, .int (nI k)])), (a, .inl (cA, (600, .inr (.inl f)))), (b, .inl (cA, (40, .inr (.inl g)))), (ao, .inl (cA, (1, .inr (.inl ow))))] sz) := by
  refine va_MetW (hh := [(0, 13, 16, 19), (0, 13, 20, 13)]) (cc := qc_L_fill) (maxL := 8) (ret := (some .int)) (by decide) rfl ?_
  intro p e s m args below meth c s₁ B hml hv
  obtain ⟨rfl, ⟨hsz, hP, hK, hD0⟩, hZ⟩ := hv
  have hx := B.exec
  have hb := B.bytes
  have hr := B.returns
  have hts := atoms_spec (ws := qw_L_fill) B.pre
  have hW : ∀ w ∈ tq_W, w.before ([.ref x, .int (nI j), .long v, .long step, .ref ao] : List Value).toArray s = true := fun w h => hts w (List.mem_cons_of_mem _ h)
  have hown : s.vm.findClass RL = some m.cls := findClass_of_methodNamed B.named
  have hlocks := B.notSynchronized
  have hl := lv_entry ([.ref x, .int (nI j), .long v, .long step, .ref ao]) (n := 8) (Nat.le_of_ble_eq_true rfl)
  rw [lg_entry_eq]
  generalize (lg_sl ([.ref x, .int (nI j), .long v, .long step, .ref ao]) ++ List.replicate (8 - (lg_sl ([.ref x, .int (nI j), .long v, .long step, .ref ao])).length) Slot.unset).toArray = ls at hl ⊢
  have hl : lv_has ls 8 [(0, .ref x), (1, .int (nI j)), (2, .long v), (4, .long step), (6, .ref ao)] := hl
  have hTab : c.exceptionTable.toList = tableOf [(0, 13, 16, 19), (0, 13, 20, 13)] := vx_table (x := qy_L_fill) B (hts _ List.mem_cons_self)
  subst hsz
  have hD := hD0.self (sz := s.heap.size)
  generalize hAe : va_A [(x, .inr (0, [.ref a, .int (nI n), .ref b, .int (nI k)])), (a, .inl (cA, (600, .inr (.inl f)))), (b, .inl (cA, (40, .inr (.inl g)))), (ao, .inl (cA, (1, .inr (.inl ow))))] s.heap.size = A at hD hZ ⊢
  have hA : ∀ q : Nat, s.heap.size ≤ q → A q := fun q h => by rw [← hAe]; exact Or.inr h
  have hS : va_S A s.heap s.heap [] := va_S.rf
  refine lv_aload hx hb qd_L_fill_0 (lv_at hl 4 rfl) ?_
  refine lv_iconst (v := nI 0) hx hb qd_L_fill_2 (by decide +kernel) ?_
  refine lv_aload_n hx hb qd_L_fill_3 rfl (lv_at hl 0 rfl) ?_
  refine lv_iload_n hx hb qd_L_fill_4 rfl (lv_at hl 1 rfl) ?_
  refine lv_lload_n hx hb qd_L_fill_5 rfl (lv_at hl 2 rfl) ?_
  refine lv_lload hx hb qd_L_fill_6 (lv_at hl 3 rfl) ?_
  have hPc := hP.sub (ws' := [(x, .inr (0, [.ref a, .int (nI n), .ref b, .int (nI k)])), (a, .inl (cA, (600, .inr (.inl f)))), (b, .inl (cA, (40, .inr (.inl g))))]) [0, 1, 2] rfl
  have hDc := hD.sub (ws' := [(x, .inr (0, [.ref a, .int (nI n), .ref b, .int (nI k)])), (a, .inl (cA, (600, .inr (.inl f)))), (b, .inl (cA, (40, .inr (.inl g))))]) [0, 1, 2] (by decide) rfl
  have hKc := hK.sub (tys' := [(cA, .long)]) [0] rfl
  have hFc := va_free (wc := [(x, .inr (0, [.ref a, .int (nI n), .ref b, .int (nI k)])), (a, .inl (cA, (600, .inr (.inl f)))), (b, .inl (cA, (40, .inr (.inl g))))]) hD hS hA [0, 1, 2] rfl
  refine vx_calli (vx_runV (As := [.int (nI j), .long v, .long step]) (rest := [.int (nI 0), .ref ao]) ⟨hx, hb, hml, hown, hW⟩ (cx_X_fill2 l dC dI x a b cA n k f g s.heap.size hst j v step h1 h2 hn hn6) (cwV 3 hW (tq_gV qm_158 qm_159 qm_160 qm_1 qm_161) rfl rfl rfl (by decide +kernel) ⟨Nat.le_of_ble_eq_true rfl, Nat.le_of_ble_eq_true rfl⟩) ⟨tq_b3, va_recv hKc hPc (ci := 0) (q0 := 0) rfl rfl, fun U hU hW9 => ⟨rfl, ⟨by rw [hU], by rw [hU]; exact hPc, va_K.moved hW9.alike hKc, hDc.weaken (fun _ _ _ _ => trivial)⟩, hZ.on hS hU hW9 hFc⟩⟩ rfl rfl hl.1 rfl (lv_room (Nat.le_of_ble_eq_true rfl)) qd_L_fill_8 ⟨Nat.le_of_ble_eq_true rfl, Nat.le_of_ble_eq_true rfl⟩) hS (fun q _ h => hFc q h) hFc (fun q _ h => hFc q h) (fun E ce q9 u t9 H1 locs ht9 hvm hw hB hz1 hk1 hS hce hcv hcl => ?_) (fun r9 u t9 H1 locs ht9 hvm hw hB hz1 hk1 hS => False.elim hw)
  obtain ⟨rfl, hP1, hK1, hD1⟩ := hB
  rw [ht9] at hP1
  obtain ⟨hP, hD⟩ := va_join (wr := [(ao, .inl (cA, (1, .inr (.inl ow))))]) (w1 := [(x, .inr (0, [.ref a, .int (nI n), .ref b, .int (nI k)])), (a, .inl (cA, (600, .inr (.inl f)))), (b, .inl (cA, (40, .inr (.inl g))))]) hP hD [0, 1, 2] [3] rfl rfl (by decide) (by decide) hk1 hFc hP1 hD1
  generalize H1 = H at hP hS hce ⊢
  have hP : va_P (dC, dI) tq_cl [(ao, .inl (cA, (1, .inr (.inl ow)))), (x, .inr (0, [.ref a, .int (nI n), .ref b, .int (nI k)])), (a, .inl (cA, (600, .inr (.inl f)))), (b, .inl (cA, (40, .inr (.inl g))))] H := hP
  have hD : va_D A [(ao, .inl (cA, (1, .inr (.inl ow)))), (x, .inr (0, [.ref a, .int (nI n), .ref b, .int (nI k)])), (a, .inl (cA, (600, .inr (.inl f)))), (b, .inl (cA, (40, .inr (.inl g))))] := hD
  refine vx_catch (own := RL) (name := "java/lang/IllegalStateException") (E := "java/lang/IllegalStateException") hown [⟨0, 13, 16, 19⟩] ⟨0, 13, 20, 13⟩ [] (by rw [hTab]; rfl) (fun z hz => by rcases List.mem_singleton.mp hz with rfl; exact Or.inr ⟨by decide, "java/lang/IllegalArgumentException", hW _ qm_157, hZ.2.2.2⟩) (by decide) (by decide) (hW _ qm_85) (va_Nw.use rfl (hZ.2.2.1 (.castable "java/lang/IllegalStateException" "java/lang/IllegalStateException") (by decide +kernel))) hce hcv hcl ?_
  refine W.eq (g2 := F0 m 20 ls [.ref q9]) rfl ?_
  refine lv_astore (lv' := [(7, .ref q9), (0, .ref x), (1, .int (nI j)), (2, .long v), (4, .long step), (6, .ref ao)]) hx hb qd_L_fill_20 hl (by decide) rfl (fun ls hl => ?_)
  refine lv_iconst (v := nI 2) hx hb qd_L_fill_22 (by decide +kernel) ?_
  exact W.iret hx hb hr (fun t ht hW9 => ⟨⟨_, (), rfl, rfl, by rw [ht]; exact hP.sub [1, 2, 3, 0] rfl, va_K.moved hW9.alike hK, hD.sub [1, 2, 3, 0] (by decide) rfl⟩, hS.F ht⟩) hS.2.2 qd_L_fill_23
set_option maxHeartbeats 4000000 in
set_option maxRecDepth 100000 in
/-- L_cut, through the law, refused -/
theorem cx_L_cut (l : Launch) (dC : Nat → ClassId) (dI : Nat → Nat → Nat) (x a b : Nat) (cA : ClassId) (n k : Nat) (f g : Nat → Int64) (ao : Nat) (ow : Nat → Int64) (sz : Nat) (hst : l.stackTraces = false) (q : Int32) (hbad : q < 0 ∨ nI n < q) : Met l qy_L_cut qw_L_cut ({ frames := 7, cells := 1, slots := 6, locals := 130 }) (va_Pc [.ref x, .int q, .ref ao] (tq_rz (dC, dI) [(x, .inr (0, [.ref a, .int (nI n), .ref b, .int (nI k)])), (a, .inl (cA, (600, .inr (.inl f)))), (b, .inl (cA, (40, .inr (.inl g)))), (ao, .inl (cA, (1, .inr (.inl ow))))] [(cA, .long)] sz)) (va_Qi (fun r (_ : Unit) => r = nI 1) (fun _ t => tq_in (dC, dI) [(x, .inr (0, [.ref a, .int (nI n), .ref b, .int (nI k)])), (a, .inl (cA, (600, .inr (.inl f)))), (b, .inl (cA, (40, .inr (.inl g)))), (ao, .inl (cA, (1, .inr (.inl ow))))] [(cA, .long)] (va_A [(x, .inr (0, [.ref a, .int (nI n), .ref b, .int (nI k)])), (a, .inl (cA, (600, .inr (.inl f)))), (b, .inl (cA, (40, .inr (.inl g)))), (ao, .inl (cA, (1, .inr (.inl ow))))] sz) t) (va_A [(x, .inr (0, [.ref a, .int (nI n), .ref b, .int (nI k)])), (a, .inl (cA, (600, .inr (.inl f)))), (b, .inl (cA, (40, .inr (.inl g)))), (ao, .inl (cA, (1, .inr (.inl ow))))] sz)) 1 6 (va_A [(x, .inr (0, [.ref a, .int (nI n), .ref b, .int (nI k)])), (a, .inl (cA, (600, .inr (.inl f)))), (b, .inl (cA, (40, .inr (.inl g)))), (ao, .inl (cA, (1, .inr (.inl ow))))] sz) := by
  refine va_MetW (hh := [(0, 9, 12, 19)]) (cc := qc_L_cut) (maxL := 4) (ret := (some .int)) (by decide) rfl ?_
  intro p e s m args below meth c s₁ B hml hv
  obtain ⟨rfl, ⟨hsz, hP, hK, hD0⟩, hZ⟩ := hv
  have hx := B.exec
  have hb := B.bytes
  have hr := B.returns
  have hts := atoms_spec (ws := qw_L_cut) B.pre
  have hW : ∀ w ∈ tq_W, w.before ([.ref x, .int q, .ref ao] : List Value).toArray s = true := fun w h => hts w (List.mem_cons_of_mem _ h)
  have hown : s.vm.findClass RL = some m.cls := findClass_of_methodNamed B.named
  have hlocks := B.notSynchronized
  have hl := lv_entry ([.ref x, .int q, .ref ao]) (n := 4) (Nat.le_of_ble_eq_true rfl)
  rw [lg_entry_eq]
  generalize (lg_sl ([.ref x, .int q, .ref ao]) ++ List.replicate (4 - (lg_sl ([.ref x, .int q, .ref ao])).length) Slot.unset).toArray = ls at hl ⊢
  have hl : lv_has ls 4 [(0, .ref x), (1, .int q), (2, .ref ao)] := hl
  have hTab : c.exceptionTable.toList = tableOf [(0, 9, 12, 19)] := vx_table (x := qy_L_cut) B (hts _ List.mem_cons_self)
  subst hsz
  have hD := hD0.self (sz := s.heap.size)
  generalize hAe : va_A [(x, .inr (0, [.ref a, .int (nI n), .ref b, .int (nI k)])), (a, .inl (cA, (600, .inr (.inl f)))), (b, .inl (cA, (40, .inr (.inl g)))), (ao, .inl (cA, (1, .inr (.inl ow))))] s.heap.size = A at hD hZ ⊢
  have hA : ∀ q : Nat, s.heap.size ≤ q → A q := fun q h => by rw [← hAe]; exact Or.inr h
  have hS : va_S A s.heap s.heap [] := va_S.rf
  refine lv_aload_n hx hb qd_L_cut_0 rfl (lv_at hl 2 rfl) ?_
  refine lv_iconst (v := nI 0) hx hb qd_L_cut_1 (by decide +kernel) ?_
  refine lv_aload_n hx hb qd_L_cut_2 rfl (lv_at hl 0 rfl) ?_
  refine lv_iload_n hx hb qd_L_cut_3 rfl (lv_at hl 1 rfl) ?_
  have hPc := hP.sub (ws' := [(x, .inr (0, [.ref a, .int (nI n), .ref b, .int (nI k)])), (a, .inl (cA, (600, .inr (.inl f)))), (b, .inl (cA, (40, .inr (.inl g))))]) [0, 1, 2] rfl
  have hDc := hD.sub (ws' := [(x, .inr (0, [.ref a, .int (nI n), .ref b, .int (nI k)])), (a, .inl (cA, (600, .inr (.inl f)))), (b, .inl (cA, (40, .inr (.inl g))))]) [0, 1, 2] (by decide) rfl
  have hKc := hK.sub (tys' := [(cA, .long)]) [0] rfl
  have hFc := va_free (wc := [(x, .inr (0, [.ref a, .int (nI n), .ref b, .int (nI k)])), (a, .inl (cA, (600, .inr (.inl f)))), (b, .inl (cA, (40, .inr (.inl g))))]) hD hS hA [0, 1, 2] rfl
  refine vx_calli (vx_runV (As := [.int q]) (rest := [.int (nI 0), .ref ao]) ⟨hx, hb, hml, hown, hW⟩ (cx_X_cut l dC dI x a b cA n k f g s.heap.size hst q hbad) (cwV 1 hW (tq_gV qm_180 qm_181 qm_182 qm_1 qm_183) rfl rfl rfl (by decide +kernel) ⟨Nat.le_of_ble_eq_true rfl, Nat.le_of_ble_eq_true rfl⟩) ⟨tq_b3, va_recv hKc hPc (ci := 0) (q0 := 0) rfl rfl, fun U hU hW9 => ⟨rfl, ⟨by rw [hU], by rw [hU]; exact hPc, va_K.moved hW9.alike hKc, hDc.weaken (fun _ _ _ _ => trivial)⟩, hZ.on hS hU hW9 hFc⟩⟩ rfl rfl hl.1 rfl (lv_room (Nat.le_of_ble_eq_true rfl)) qd_L_cut_4 ⟨Nat.le_of_ble_eq_true rfl, Nat.le_of_ble_eq_true rfl⟩) hS (fun q _ h => hFc q h) hFc (fun q _ h => hFc q h) (fun E ce q9 u t9 H1 locs ht9 hvm hw hB hz1 hk1 hS hce hcv hcl => ?_) (fun r9 u t9 H1 locs ht9 hvm hw hB hz1 hk1 hS => False.elim hw)
  obtain ⟨rfl, hP1, hK1, hD1⟩ := hB
  rw [ht9] at hP1
  obtain ⟨hP, hD⟩ := va_join (wr := [(ao, .inl (cA, (1, .inr (.inl ow))))]) (w1 := [(x, .inr (0, [.ref a, .int (nI n), .ref b, .int (nI k)])), (a, .inl (cA, (600, .inr (.inl f)))), (b, .inl (cA, (40, .inr (.inl g))))]) hP hD [0, 1, 2] [3] rfl rfl (by decide) (by decide) hk1 hFc hP1 hD1
  generalize H1 = H at hP hS hce ⊢
  have hP : va_P (dC, dI) tq_cl [(ao, .inl (cA, (1, .inr (.inl ow)))), (x, .inr (0, [.ref a, .int (nI n), .ref b, .int (nI k)])), (a, .inl (cA, (600, .inr (.inl f)))), (b, .inl (cA, (40, .inr (.inl g))))] H := hP
  have hD : va_D A [(ao, .inl (cA, (1, .inr (.inl ow)))), (x, .inr (0, [.ref a, .int (nI n), .ref b, .int (nI k)])), (a, .inl (cA, (600, .inr (.inl f)))), (b, .inl (cA, (40, .inr (.inl g))))] := hD
  refine vx_catch (own := RL) (name := "java/lang/IllegalArgumentException") (E := "java/lang/IllegalArgumentException") hown [] ⟨0, 9, 12, 19⟩ [] (by rw [hTab]; rfl) (fun z hz => nomatch hz) (by decide) (by decide) (hW _ qm_157) (va_Nw.use rfl (hZ.2.2.1 (.castable "java/lang/IllegalArgumentException" "java/lang/IllegalArgumentException") (by decide +kernel))) hce hcv hcl ?_
  refine W.eq (g2 := F0 m 12 ls [.ref q9]) rfl ?_
  refine lv_astore_n (lv' := [(3, .ref q9), (0, .ref x), (1, .int q), (2, .ref ao)]) hx hb qd_L_cut_12 rfl hl (by decide) rfl (fun ls hl => ?_)
  refine lv_iconst (v := nI 1) hx hb qd_L_cut_13 (by decide +kernel) ?_
  exact W.iret hx hb hr (fun t ht hW9 => ⟨⟨_, (), rfl, rfl, by rw [ht]; exact hP.sub [1, 2, 3, 0] rfl, va_K.moved hW9.alike hK, hD.sub [1, 2, 3, 0] (by decide) rfl⟩, hS.F ht⟩) hS.2.2 qd_L_cut_14
set_option maxHeartbeats 4000000 in
set_option maxRecDepth 100000 in
/-- L_head, through the law, refused -/
theorem cx_L_head (l : Launch) (dC : Nat → ClassId) (dI : Nat → Nat → Nat) (x a b : Nat) (cA : ClassId) (n k : Nat) (f g : Nat → Int64) (ao : Nat) (ow : Nat → Int64) (sz : Nat) (hst : l.stackTraces = false) (q : Int32) (hbad : q < 0 ∨ nI n < q) : Met l qy_L_head qw_L_head ({ frames := 7, cells := 1, slots := 6, locals := 130 }) (va_Pc [.ref x, .int q, .ref ao] (tq_rz (dC, dI) [(x, .inr (0, [.ref a, .int (nI n), .ref b, .int (nI k)])), (a, .inl (cA, (600, .inr (.inl f)))), (b, .inl (cA, (40, .inr (.inl g)))), (ao, .inl (cA, (1, .inr (.inl ow))))] [(cA, .long)] sz)) (va_Qi (fun r (_ : Unit) => r = nI 1) (fun _ t => tq_in (dC, dI) [(x, .inr (0, [.ref a, .int (nI n), .ref b, .int (nI k)])), (a, .inl (cA, (600, .inr (.inl f)))), (b, .inl (cA, (40, .inr (.inl g)))), (ao, .inl (cA, (1, .inr (.inl ow))))] [(cA, .long)] (va_A [(x, .inr (0, [.ref a, .int (nI n), .ref b, .int (nI k)])), (a, .inl (cA, (600, .inr (.inl f)))), (b, .inl (cA, (40, .inr (.inl g)))), (ao, .inl (cA, (1, .inr (.inl ow))))] sz) t) (va_A [(x, .inr (0, [.ref a, .int (nI n), .ref b, .int (nI k)])), (a, .inl (cA, (600, .inr (.inl f)))), (b, .inl (cA, (40, .inr (.inl g)))), (ao, .inl (cA, (1, .inr (.inl ow))))] sz)) 1 6 (va_A [(x, .inr (0, [.ref a, .int (nI n), .ref b, .int (nI k)])), (a, .inl (cA, (600, .inr (.inl f)))), (b, .inl (cA, (40, .inr (.inl g)))), (ao, .inl (cA, (1, .inr (.inl ow))))] sz) := by
  refine va_MetW (hh := [(0, 8, 11, 29)]) (cc := qc_L_head) (maxL := 4) (ret := (some .int)) (by decide) rfl ?_
  intro p e s m args below meth c s₁ B hml hv
  obtain ⟨rfl, ⟨hsz, hP, hK, hD0⟩, hZ⟩ := hv
  have hx := B.exec
  have hb := B.bytes
  have hr := B.returns
  have hts := atoms_spec (ws := qw_L_head) B.pre
  have hW : ∀ w ∈ tq_W, w.before ([.ref x, .int q, .ref ao] : List Value).toArray s = true := fun w h => hts w (List.mem_cons_of_mem _ h)
  have hown : s.vm.findClass RL = some m.cls := findClass_of_methodNamed B.named
  have hlocks := B.notSynchronized
  have hl := lv_entry ([.ref x, .int q, .ref ao]) (n := 4) (Nat.le_of_ble_eq_true rfl)
  rw [lg_entry_eq]
  generalize (lg_sl ([.ref x, .int q, .ref ao]) ++ List.replicate (4 - (lg_sl ([.ref x, .int q, .ref ao])).length) Slot.unset).toArray = ls at hl ⊢
  have hl : lv_has ls 4 [(0, .ref x), (1, .int q), (2, .ref ao)] := hl
  have hTab : c.exceptionTable.toList = tableOf [(0, 8, 11, 29)] := vx_table (x := qy_L_head) B (hts _ List.mem_cons_self)
  subst hsz
  have hD := hD0.self (sz := s.heap.size)
  generalize hAe : va_A [(x, .inr (0, [.ref a, .int (nI n), .ref b, .int (nI k)])), (a, .inl (cA, (600, .inr (.inl f)))), (b, .inl (cA, (40, .inr (.inl g)))), (ao, .inl (cA, (1, .inr (.inl ow))))] s.heap.size = A at hD hZ ⊢
  have hA : ∀ q : Nat, s.heap.size ≤ q → A q := fun q h => by rw [← hAe]; exact Or.inr h
  have hS : va_S A s.heap s.heap [] := va_S.rf
  refine lv_aload_n hx hb qd_L_head_0 rfl (lv_at hl 2 rfl) ?_
  refine lv_iconst (v := nI 0) hx hb qd_L_head_1 (by decide +kernel) ?_
  refine lv_aload_n hx hb qd_L_head_2 rfl (lv_at hl 0 rfl) ?_
  refine lv_iload_n hx hb qd_L_head_3 rfl (lv_at hl 1 rfl) ?_
  have hPc := hP.sub (ws' := [(x, .inr (0, [.ref a, .int (nI n), .ref b, .int (nI k)])), (a, .inl (cA, (600, .inr (.inl f)))), (b, .inl (cA, (40, .inr (.inl g))))]) [0, 1, 2] rfl
  have hDc := hD.sub (ws' := [(x, .inr (0, [.ref a, .int (nI n), .ref b, .int (nI k)])), (a, .inl (cA, (600, .inr (.inl f)))), (b, .inl (cA, (40, .inr (.inl g))))]) [0, 1, 2] (by decide) rfl
  have hKc := hK.sub (tys' := [(cA, .long)]) [0] rfl
  have hFc := va_free (wc := [(x, .inr (0, [.ref a, .int (nI n), .ref b, .int (nI k)])), (a, .inl (cA, (600, .inr (.inl f)))), (b, .inl (cA, (40, .inr (.inl g))))]) hD hS hA [0, 1, 2] rfl
  refine vx_calll (vx_runV (As := [.int q]) (rest := [.int (nI 0), .ref ao]) ⟨hx, hb, hml, hown, hW⟩ (cx_X_head l dC dI x a b cA n k f g s.heap.size hst q hbad) (cwV 1 hW (tq_gV qm_188 qm_189 qm_190 qm_1 qm_191) rfl rfl rfl (by decide +kernel) ⟨Nat.le_of_ble_eq_true rfl, Nat.le_of_ble_eq_true rfl⟩) ⟨tq_b3, va_recv hKc hPc (ci := 0) (q0 := 0) rfl rfl, fun U hU hW9 => ⟨rfl, ⟨by rw [hU], by rw [hU]; exact hPc, va_K.moved hW9.alike hKc, hDc.weaken (fun _ _ _ _ => trivial)⟩, hZ.on hS hU hW9 hFc⟩⟩ rfl rfl hl.1 rfl (lv_room (Nat.le_of_ble_eq_true rfl)) qd_L_head_4 ⟨Nat.le_of_ble_eq_true rfl, Nat.le_of_ble_eq_true rfl⟩) hS (fun q _ h => hFc q h) hFc (fun q _ h => hFc q h) (fun E ce q9 u t9 H1 locs ht9 hvm hw hB hz1 hk1 hS hce hcv hcl => ?_) (fun r9 u t9 H1 locs ht9 hvm hw hB hz1 hk1 hS => False.elim hw)
  obtain ⟨rfl, hP1, hK1, hD1⟩ := hB
  rw [ht9] at hP1
  obtain ⟨hP, hD⟩ := va_join (wr := [(ao, .inl (cA, (1, .inr (.inl ow))))]) (w1 := [(x, .inr (0, [.ref a, .int (nI n), .ref b, .int (nI k)])), (a, .inl (cA, (600, .inr (.inl f)))), (b, .inl (cA, (40, .inr (.inl g))))]) hP hD [0, 1, 2] [3] rfl rfl (by decide) (by decide) hk1 hFc hP1 hD1
  generalize H1 = H at hP hS hce ⊢
  have hP : va_P (dC, dI) tq_cl [(ao, .inl (cA, (1, .inr (.inl ow)))), (x, .inr (0, [.ref a, .int (nI n), .ref b, .int (nI k)])), (a, .inl (cA, (600, .inr (.inl f)))), (b, .inl (cA, (40, .inr (.inl g))))] H := hP
  have hD : va_D A [(ao, .inl (cA, (1, .inr (.inl ow)))), (x, .inr (0, [.ref a, .int (nI n), .ref b, .int (nI k)])), (a, .inl (cA, (600, .inr (.inl f)))), (b, .inl (cA, (40, .inr (.inl g))))] := hD
  refine vx_catch (own := RL) (name := "java/util/NoSuchElementException") (E := "java/util/NoSuchElementException") hown [] ⟨0, 8, 11, 29⟩ [] (by rw [hTab]; rfl) (fun z hz => nomatch hz) (by decide) (by decide) (hW _ qm_187) (va_Nw.use rfl (hZ.2.2.1 (.castable "java/util/NoSuchElementException" "java/util/NoSuchElementException") (by decide +kernel))) hce hcv hcl ?_
  refine W.eq (g2 := F0 m 11 ls [.ref q9]) rfl ?_
  refine lv_astore_n (lv' := [(3, .ref q9), (0, .ref x), (1, .int q), (2, .ref ao)]) hx hb qd_L_head_11 rfl hl (by decide) rfl (fun ls hl => ?_)
  refine lv_iconst (v := nI 1) hx hb qd_L_head_12 (by decide +kernel) ?_
  exact W.iret hx hb hr (fun t ht hW9 => ⟨⟨_, (), rfl, rfl, by rw [ht]; exact hP.sub [1, 2, 3, 0] rfl, va_K.moved hW9.alike hK, hD.sub [1, 2, 3, 0] (by decide) rfl⟩, hS.F ht⟩) hS.2.2 qd_L_head_13
set_option maxHeartbeats 4000000 in
set_option maxRecDepth 100000 in
/-- L_length, through the law, refused -/
theorem cx_L_length (l : Launch) (dC : Nat → ClassId) (dI : Nat → Nat → Nat) (x a b : Nat) (cA : ClassId) (n k : Nat) (f g : Nat → Int64) (ao : Nat) (ow : Nat → Int64) (sz : Nat) (hst : l.stackTraces = false) (q : Int32) (hbad : q < 0 ∨ nI 40 < q) : Met l qy_L_length qw_L_length ({ frames := 7, cells := 1, slots := 6, locals := 130 }) (va_Pc [.ref x, .int q, .ref ao] (tq_rz (dC, dI) [(x, .inr (0, [.ref a, .int (nI n), .ref b, .int (nI k)])), (a, .inl (cA, (600, .inr (.inl f)))), (b, .inl (cA, (40, .inr (.inl g)))), (ao, .inl (cA, (1, .inr (.inl ow))))] [(cA, .long)] sz)) (va_Qi (fun r (_ : Unit) => r = nI 1) (fun _ t => tq_in (dC, dI) [(x, .inr (0, [.ref a, .int (nI n), .ref b, .int (nI k)])), (a, .inl (cA, (600, .inr (.inl f)))), (b, .inl (cA, (40, .inr (.inl g)))), (ao, .inl (cA, (1, .inr (.inl ow))))] [(cA, .long)] (va_A [(x, .inr (0, [.ref a, .int (nI n), .ref b, .int (nI k)])), (a, .inl (cA, (600, .inr (.inl f)))), (b, .inl (cA, (40, .inr (.inl g)))), (ao, .inl (cA, (1, .inr (.inl ow))))] sz) t) (va_A [(x, .inr (0, [.ref a, .int (nI n), .ref b, .int (nI k)])), (a, .inl (cA, (600, .inr (.inl f)))), (b, .inl (cA, (40, .inr (.inl g)))), (ao, .inl (cA, (1, .inr (.inl ow))))] sz)) 1 6 (va_A [(x, .inr (0, [.ref a, .int (nI n), .ref b, .int (nI k)])), (a, .inl (cA, (600, .inr (.inl f)))), (b, .inl (cA, (40, .inr (.inl g)))), (ao, .inl (cA, (1, .inr (.inl ow))))] sz) := by
  refine va_MetW (hh := [(0, 9, 12, 19)]) (cc := qc_L_length) (maxL := 4) (ret := (some .int)) (by decide) rfl ?_
  intro p e s m args below meth c s₁ B hml hv
  obtain ⟨rfl, ⟨hsz, hP, hK, hD0⟩, hZ⟩ := hv
  have hx := B.exec
  have hb := B.bytes
  have hr := B.returns
  have hts := atoms_spec (ws := qw_L_length) B.pre
  have hW : ∀ w ∈ tq_W, w.before ([.ref x, .int q, .ref ao] : List Value).toArray s = true := fun w h => hts w (List.mem_cons_of_mem _ h)
  have hown : s.vm.findClass RL = some m.cls := findClass_of_methodNamed B.named
  have hlocks := B.notSynchronized
  have hl := lv_entry ([.ref x, .int q, .ref ao]) (n := 4) (Nat.le_of_ble_eq_true rfl)
  rw [lg_entry_eq]
  generalize (lg_sl ([.ref x, .int q, .ref ao]) ++ List.replicate (4 - (lg_sl ([.ref x, .int q, .ref ao])).length) Slot.unset).toArray = ls at hl ⊢
  have hl : lv_has ls 4 [(0, .ref x), (1, .int q), (2, .ref ao)] := hl
  have hTab : c.exceptionTable.toList = tableOf [(0, 9, 12, 19)] := vx_table (x := qy_L_length) B (hts _ List.mem_cons_self)
  subst hsz
  have hD := hD0.self (sz := s.heap.size)
  generalize hAe : va_A [(x, .inr (0, [.ref a, .int (nI n), .ref b, .int (nI k)])), (a, .inl (cA, (600, .inr (.inl f)))), (b, .inl (cA, (40, .inr (.inl g)))), (ao, .inl (cA, (1, .inr (.inl ow))))] s.heap.size = A at hD hZ ⊢
  have hA : ∀ q : Nat, s.heap.size ≤ q → A q := fun q h => by rw [← hAe]; exact Or.inr h
  have hS : va_S A s.heap s.heap [] := va_S.rf
  refine lv_aload_n hx hb qd_L_length_0 rfl (lv_at hl 2 rfl) ?_
  refine lv_iconst (v := nI 0) hx hb qd_L_length_1 (by decide +kernel) ?_
  refine lv_aload_n hx hb qd_L_length_2 rfl (lv_at hl 0 rfl) ?_
  refine lv_iload_n hx hb qd_L_length_3 rfl (lv_at hl 1 rfl) ?_
  have hPc := hP.sub (ws' := [(x, .inr (0, [.ref a, .int (nI n), .ref b, .int (nI k)])), (a, .inl (cA, (600, .inr (.inl f)))), (b, .inl (cA, (40, .inr (.inl g))))]) [0, 1, 2] rfl
  have hDc := hD.sub (ws' := [(x, .inr (0, [.ref a, .int (nI n), .ref b, .int (nI k)])), (a, .inl (cA, (600, .inr (.inl f)))), (b, .inl (cA, (40, .inr (.inl g))))]) [0, 1, 2] (by decide) rfl
  have hKc := hK.sub (tys' := [(cA, .long)]) [0] rfl
  have hFc := va_free (wc := [(x, .inr (0, [.ref a, .int (nI n), .ref b, .int (nI k)])), (a, .inl (cA, (600, .inr (.inl f)))), (b, .inl (cA, (40, .inr (.inl g))))]) hD hS hA [0, 1, 2] rfl
  refine vx_calli (vx_runV (As := [.int q]) (rest := [.int (nI 0), .ref ao]) ⟨hx, hb, hml, hown, hW⟩ (cx_X_length l dC dI x a b cA n k f g s.heap.size hst q hbad) (cwV 1 hW (tq_gV qm_264 qm_265 qm_266 qm_1 qm_267) rfl rfl rfl (by decide +kernel) ⟨Nat.le_of_ble_eq_true rfl, Nat.le_of_ble_eq_true rfl⟩) ⟨tq_b3, va_recv hKc hPc (ci := 0) (q0 := 0) rfl rfl, fun U hU hW9 => ⟨rfl, ⟨by rw [hU], by rw [hU]; exact hPc, va_K.moved hW9.alike hKc, hDc.weaken (fun _ _ _ _ => trivial)⟩, hZ.on hS hU hW9 hFc⟩⟩ rfl rfl hl.1 rfl (lv_room (Nat.le_of_ble_eq_true rfl)) qd_L_length_4 ⟨Nat.le_of_ble_eq_true rfl, Nat.le_of_ble_eq_true rfl⟩) hS (fun q _ h => hFc q h) hFc (fun q _ h => hFc q h) (fun E ce q9 u t9 H1 locs ht9 hvm hw hB hz1 hk1 hS hce hcv hcl => ?_) (fun r9 u t9 H1 locs ht9 hvm hw hB hz1 hk1 hS => False.elim hw)
  obtain ⟨rfl, hP1, hK1, hD1⟩ := hB
  rw [ht9] at hP1
  obtain ⟨hP, hD⟩ := va_join (wr := [(ao, .inl (cA, (1, .inr (.inl ow))))]) (w1 := [(x, .inr (0, [.ref a, .int (nI n), .ref b, .int (nI k)])), (a, .inl (cA, (600, .inr (.inl f)))), (b, .inl (cA, (40, .inr (.inl g))))]) hP hD [0, 1, 2] [3] rfl rfl (by decide) (by decide) hk1 hFc hP1 hD1
  generalize H1 = H at hP hS hce ⊢
  have hP : va_P (dC, dI) tq_cl [(ao, .inl (cA, (1, .inr (.inl ow)))), (x, .inr (0, [.ref a, .int (nI n), .ref b, .int (nI k)])), (a, .inl (cA, (600, .inr (.inl f)))), (b, .inl (cA, (40, .inr (.inl g))))] H := hP
  have hD : va_D A [(ao, .inl (cA, (1, .inr (.inl ow)))), (x, .inr (0, [.ref a, .int (nI n), .ref b, .int (nI k)])), (a, .inl (cA, (600, .inr (.inl f)))), (b, .inl (cA, (40, .inr (.inl g))))] := hD
  refine vx_catch (own := RL) (name := "java/lang/IllegalArgumentException") (E := "java/lang/IllegalArgumentException") hown [] ⟨0, 9, 12, 19⟩ [] (by rw [hTab]; rfl) (fun z hz => nomatch hz) (by decide) (by decide) (hW _ qm_157) (va_Nw.use rfl (hZ.2.2.1 (.castable "java/lang/IllegalArgumentException" "java/lang/IllegalArgumentException") (by decide +kernel))) hce hcv hcl ?_
  refine W.eq (g2 := F0 m 12 ls [.ref q9]) rfl ?_
  refine lv_astore_n (lv' := [(3, .ref q9), (0, .ref x), (1, .int q), (2, .ref ao)]) hx hb qd_L_length_12 rfl hl (by decide) rfl (fun ls hl => ?_)
  refine lv_iconst (v := nI 1) hx hb qd_L_length_13 (by decide +kernel) ?_
  exact W.iret hx hb hr (fun t ht hW9 => ⟨⟨_, (), rfl, rfl, by rw [ht]; exact hP.sub [1, 2, 3, 0] rfl, va_K.moved hW9.alike hK, hD.sub [1, 2, 3, 0] (by decide) rfl⟩, hS.F ht⟩) hS.2.2 qd_L_length_14
set_option maxHeartbeats 4000000 in
set_option maxRecDepth 100000 in
/-- L_proof, through the law, refused -/
theorem cx_L_proof (l : Launch) (dC : Nat → ClassId) (dI : Nat → Nat → Nat) (x a b : Nat) (cA : ClassId) (n k : Nat) (f g : Nat → Int64) (ao : Nat) (ow : Nat → Int64) (sz : Nat) (hst : l.stackTraces = false) (q : Int32) (hbad : q < 0 ∨ nI k ≤ q) : Met l qy_L_proof qw_L_proof ({ frames := 7, cells := 1, slots := 6, locals := 130 }) (va_Pc [.ref x, .int q, .ref ao] (tq_rz (dC, dI) [(x, .inr (0, [.ref a, .int (nI n), .ref b, .int (nI k)])), (a, .inl (cA, (600, .inr (.inl f)))), (b, .inl (cA, (40, .inr (.inl g)))), (ao, .inl (cA, (1, .inr (.inl ow))))] [(cA, .long)] sz)) (va_Qi (fun r (_ : Unit) => r = nI 1) (fun _ t => tq_in (dC, dI) [(x, .inr (0, [.ref a, .int (nI n), .ref b, .int (nI k)])), (a, .inl (cA, (600, .inr (.inl f)))), (b, .inl (cA, (40, .inr (.inl g)))), (ao, .inl (cA, (1, .inr (.inl ow))))] [(cA, .long)] (va_A [(x, .inr (0, [.ref a, .int (nI n), .ref b, .int (nI k)])), (a, .inl (cA, (600, .inr (.inl f)))), (b, .inl (cA, (40, .inr (.inl g)))), (ao, .inl (cA, (1, .inr (.inl ow))))] sz) t) (va_A [(x, .inr (0, [.ref a, .int (nI n), .ref b, .int (nI k)])), (a, .inl (cA, (600, .inr (.inl f)))), (b, .inl (cA, (40, .inr (.inl g)))), (ao, .inl (cA, (1, .inr (.inl ow))))] sz)) 1 6 (va_A [(x, .inr (0, [.ref a, .int (nI n), .ref b, .int (nI k)])), (a, .inl (cA, (600, .inr (.inl f)))), (b, .inl (cA, (40, .inr (.inl g)))), (ao, .inl (cA, (1, .inr (.inl ow))))] sz) := by
  refine va_MetW (hh := [(0, 8, 11, 45)]) (cc := qc_L_proof) (maxL := 4) (ret := (some .int)) (by decide) rfl ?_
  intro p e s m args below meth c s₁ B hml hv
  obtain ⟨rfl, ⟨hsz, hP, hK, hD0⟩, hZ⟩ := hv
  have hx := B.exec
  have hb := B.bytes
  have hr := B.returns
  have hts := atoms_spec (ws := qw_L_proof) B.pre
  have hW : ∀ w ∈ tq_W, w.before ([.ref x, .int q, .ref ao] : List Value).toArray s = true := fun w h => hts w (List.mem_cons_of_mem _ h)
  have hown : s.vm.findClass RL = some m.cls := findClass_of_methodNamed B.named
  have hlocks := B.notSynchronized
  have hl := lv_entry ([.ref x, .int q, .ref ao]) (n := 4) (Nat.le_of_ble_eq_true rfl)
  rw [lg_entry_eq]
  generalize (lg_sl ([.ref x, .int q, .ref ao]) ++ List.replicate (4 - (lg_sl ([.ref x, .int q, .ref ao])).length) Slot.unset).toArray = ls at hl ⊢
  have hl : lv_has ls 4 [(0, .ref x), (1, .int q), (2, .ref ao)] := hl
  have hTab : c.exceptionTable.toList = tableOf [(0, 8, 11, 45)] := vx_table (x := qy_L_proof) B (hts _ List.mem_cons_self)
  subst hsz
  have hD := hD0.self (sz := s.heap.size)
  generalize hAe : va_A [(x, .inr (0, [.ref a, .int (nI n), .ref b, .int (nI k)])), (a, .inl (cA, (600, .inr (.inl f)))), (b, .inl (cA, (40, .inr (.inl g)))), (ao, .inl (cA, (1, .inr (.inl ow))))] s.heap.size = A at hD hZ ⊢
  have hA : ∀ q : Nat, s.heap.size ≤ q → A q := fun q h => by rw [← hAe]; exact Or.inr h
  have hS : va_S A s.heap s.heap [] := va_S.rf
  refine lv_aload_n hx hb qd_L_proof_0 rfl (lv_at hl 2 rfl) ?_
  refine lv_iconst (v := nI 0) hx hb qd_L_proof_1 (by decide +kernel) ?_
  refine lv_aload_n hx hb qd_L_proof_2 rfl (lv_at hl 0 rfl) ?_
  refine lv_iload_n hx hb qd_L_proof_3 rfl (lv_at hl 1 rfl) ?_
  have hPc := hP.sub (ws' := [(x, .inr (0, [.ref a, .int (nI n), .ref b, .int (nI k)])), (a, .inl (cA, (600, .inr (.inl f)))), (b, .inl (cA, (40, .inr (.inl g))))]) [0, 1, 2] rfl
  have hDc := hD.sub (ws' := [(x, .inr (0, [.ref a, .int (nI n), .ref b, .int (nI k)])), (a, .inl (cA, (600, .inr (.inl f)))), (b, .inl (cA, (40, .inr (.inl g))))]) [0, 1, 2] (by decide) rfl
  have hKc := hK.sub (tys' := [(cA, .long)]) [0] rfl
  have hFc := va_free (wc := [(x, .inr (0, [.ref a, .int (nI n), .ref b, .int (nI k)])), (a, .inl (cA, (600, .inr (.inl f)))), (b, .inl (cA, (40, .inr (.inl g))))]) hD hS hA [0, 1, 2] rfl
  refine vx_calll (vx_runV (As := [.int q]) (rest := [.int (nI 0), .ref ao]) ⟨hx, hb, hml, hown, hW⟩ (cx_X_proof l dC dI x a b cA n k f g s.heap.size hst q hbad) (cwV 1 hW (tq_gV qm_235 qm_236 qm_237 qm_1 qm_238) rfl rfl rfl (by decide +kernel) ⟨Nat.le_of_ble_eq_true rfl, Nat.le_of_ble_eq_true rfl⟩) ⟨tq_b3, va_recv hKc hPc (ci := 0) (q0 := 0) rfl rfl, fun U hU hW9 => ⟨rfl, ⟨by rw [hU], by rw [hU]; exact hPc, va_K.moved hW9.alike hKc, hDc.weaken (fun _ _ _ _ => trivial)⟩, hZ.on hS hU hW9 hFc⟩⟩ rfl rfl hl.1 rfl (lv_room (Nat.le_of_ble_eq_true rfl)) qd_L_proof_4 ⟨Nat.le_of_ble_eq_true rfl, Nat.le_of_ble_eq_true rfl⟩) hS (fun q _ h => hFc q h) hFc (fun q _ h => hFc q h) (fun E ce q9 u t9 H1 locs ht9 hvm hw hB hz1 hk1 hS hce hcv hcl => ?_) (fun r9 u t9 H1 locs ht9 hvm hw hB hz1 hk1 hS => False.elim hw)
  obtain ⟨rfl, hP1, hK1, hD1⟩ := hB
  rw [ht9] at hP1
  obtain ⟨hP, hD⟩ := va_join (wr := [(ao, .inl (cA, (1, .inr (.inl ow))))]) (w1 := [(x, .inr (0, [.ref a, .int (nI n), .ref b, .int (nI k)])), (a, .inl (cA, (600, .inr (.inl f)))), (b, .inl (cA, (40, .inr (.inl g))))]) hP hD [0, 1, 2] [3] rfl rfl (by decide) (by decide) hk1 hFc hP1 hD1
  generalize H1 = H at hP hS hce ⊢
  have hP : va_P (dC, dI) tq_cl [(ao, .inl (cA, (1, .inr (.inl ow)))), (x, .inr (0, [.ref a, .int (nI n), .ref b, .int (nI k)])), (a, .inl (cA, (600, .inr (.inl f)))), (b, .inl (cA, (40, .inr (.inl g))))] H := hP
  have hD : va_D A [(ao, .inl (cA, (1, .inr (.inl ow)))), (x, .inr (0, [.ref a, .int (nI n), .ref b, .int (nI k)])), (a, .inl (cA, (600, .inr (.inl f)))), (b, .inl (cA, (40, .inr (.inl g))))] := hD
  refine vx_catch (own := RL) (name := "java/lang/IndexOutOfBoundsException") (E := "java/lang/IndexOutOfBoundsException") hown [] ⟨0, 8, 11, 45⟩ [] (by rw [hTab]; rfl) (fun z hz => nomatch hz) (by decide) (by decide) (hW _ qm_234) (va_Nw.use rfl (hZ.2.2.1 (.castable "java/lang/IndexOutOfBoundsException" "java/lang/IndexOutOfBoundsException") (by decide +kernel))) hce hcv hcl ?_
  refine W.eq (g2 := F0 m 11 ls [.ref q9]) rfl ?_
  refine lv_astore_n (lv' := [(3, .ref q9), (0, .ref x), (1, .int q), (2, .ref ao)]) hx hb qd_L_proof_11 rfl hl (by decide) rfl (fun ls hl => ?_)
  refine lv_iconst (v := nI 1) hx hb qd_L_proof_12 (by decide +kernel) ?_
  exact W.iret hx hb hr (fun t ht hW9 => ⟨⟨_, (), rfl, rfl, by rw [ht]; exact hP.sub [1, 2, 3, 0] rfl, va_K.moved hW9.alike hK, hD.sub [1, 2, 3, 0] (by decide) rfl⟩, hS.F ht⟩) hS.2.2 qd_L_proof_13
set_option maxHeartbeats 4000000 in
set_option maxRecDepth 100000 in
/-- L_find, through the law, refused -/
theorem cx_L_find (l : Launch) (dC : Nat → ClassId) (dI : Nat → Nat → Nat) (x a b : Nat) (cA : ClassId) (n k : Nat) (f g : Nat → Int64) (ao : Nat) (ow : Nat → Int64) (sz : Nat) (hst : l.stackTraces = false) (q : Int32) (v : Int64) (hbad : q < 0 ∨ nI n < q) : Met l qy_L_find qw_L_find ({ frames := 7, cells := 1, slots := 6, locals := 130 }) (va_Pc [.ref x, .int q, .long v, .ref ao] (tq_rz (dC, dI) [(x, .inr (0, [.ref a, .int (nI n), .ref b, .int (nI k)])), (a, .inl (cA, (600, .inr (.inl f)))), (b, .inl (cA, (40, .inr (.inl g)))), (ao, .inl (cA, (1, .inr (.inl ow))))] [(cA, .long)] sz)) (va_Qi (fun r (_ : Unit) => r = nI 1) (fun _ t => tq_in (dC, dI) [(x, .inr (0, [.ref a, .int (nI n), .ref b, .int (nI k)])), (a, .inl (cA, (600, .inr (.inl f)))), (b, .inl (cA, (40, .inr (.inl g)))), (ao, .inl (cA, (1, .inr (.inl ow))))] [(cA, .long)] (va_A [(x, .inr (0, [.ref a, .int (nI n), .ref b, .int (nI k)])), (a, .inl (cA, (600, .inr (.inl f)))), (b, .inl (cA, (40, .inr (.inl g)))), (ao, .inl (cA, (1, .inr (.inl ow))))] sz) t) (va_A [(x, .inr (0, [.ref a, .int (nI n), .ref b, .int (nI k)])), (a, .inl (cA, (600, .inr (.inl f)))), (b, .inl (cA, (40, .inr (.inl g)))), (ao, .inl (cA, (1, .inr (.inl ow))))] sz)) 1 6 (va_A [(x, .inr (0, [.ref a, .int (nI n), .ref b, .int (nI k)])), (a, .inl (cA, (600, .inr (.inl f)))), (b, .inl (cA, (40, .inr (.inl g)))), (ao, .inl (cA, (1, .inr (.inl ow))))] sz) := by
  refine va_MetW (hh := [(0, 11, 14, 29)]) (cc := qc_L_find) (maxL := 6) (ret := (some .int)) (by decide) rfl ?_
  intro p e s m args below meth c s₁ B hml hv
  obtain ⟨rfl, ⟨hsz, hP, hK, hD0⟩, hZ⟩ := hv
  have hx := B.exec
  have hb := B.bytes
  have hr := B.returns
  have hts := atoms_spec (ws := qw_L_find) B.pre
  have hW : ∀ w ∈ tq_W, w.before ([.ref x, .int q, .long v, .ref ao] : List Value).toArray s = true := fun w h => hts w (List.mem_cons_of_mem _ h)
  have hown : s.vm.findClass RL = some m.cls := findClass_of_methodNamed B.named
  have hlocks := B.notSynchronized
  have hl := lv_entry ([.ref x, .int q, .long v, .ref ao]) (n := 6) (Nat.le_of_ble_eq_true rfl)
  rw [lg_entry_eq]
  generalize (lg_sl ([.ref x, .int q, .long v, .ref ao]) ++ List.replicate (6 - (lg_sl ([.ref x, .int q, .long v, .ref ao])).length) Slot.unset).toArray = ls at hl ⊢
  have hl : lv_has ls 6 [(0, .ref x), (1, .int q), (2, .long v), (4, .ref ao)] := hl
  have hTab : c.exceptionTable.toList = tableOf [(0, 11, 14, 29)] := vx_table (x := qy_L_find) B (hts _ List.mem_cons_self)
  subst hsz
  have hD := hD0.self (sz := s.heap.size)
  generalize hAe : va_A [(x, .inr (0, [.ref a, .int (nI n), .ref b, .int (nI k)])), (a, .inl (cA, (600, .inr (.inl f)))), (b, .inl (cA, (40, .inr (.inl g)))), (ao, .inl (cA, (1, .inr (.inl ow))))] s.heap.size = A at hD hZ ⊢
  have hA : ∀ q : Nat, s.heap.size ≤ q → A q := fun q h => by rw [← hAe]; exact Or.inr h
  have hS : va_S A s.heap s.heap [] := va_S.rf
  refine lv_aload hx hb qd_L_find_0 (lv_at hl 3 rfl) ?_
  refine lv_iconst (v := nI 0) hx hb qd_L_find_2 (by decide +kernel) ?_
  refine lv_aload_n hx hb qd_L_find_3 rfl (lv_at hl 0 rfl) ?_
  refine lv_iload_n hx hb qd_L_find_4 rfl (lv_at hl 1 rfl) ?_
  refine lv_lload_n hx hb qd_L_find_5 rfl (lv_at hl 2 rfl) ?_
  have hPc := hP.sub (ws' := [(x, .inr (0, [.ref a, .int (nI n), .ref b, .int (nI k)])), (a, .inl (cA, (600, .inr (.inl f)))), (b, .inl (cA, (40, .inr (.inl g))))]) [0, 1, 2] rfl
  have hDc := hD.sub (ws' := [(x, .inr (0, [.ref a, .int (nI n), .ref b, .int (nI k)])), (a, .inl (cA, (600, .inr (.inl f)))), (b, .inl (cA, (40, .inr (.inl g))))]) [0, 1, 2] (by decide) rfl
  have hKc := hK.sub (tys' := [(cA, .long)]) [0] rfl
  have hFc := va_free (wc := [(x, .inr (0, [.ref a, .int (nI n), .ref b, .int (nI k)])), (a, .inl (cA, (600, .inr (.inl f)))), (b, .inl (cA, (40, .inr (.inl g))))]) hD hS hA [0, 1, 2] rfl
  refine vx_calli (vx_runV (As := [.int q, .long v]) (rest := [.int (nI 0), .ref ao]) ⟨hx, hb, hml, hown, hW⟩ (cx_X_find l dC dI x a b cA n k f g s.heap.size hst q v hbad) (cwV 2 hW (tq_gV qm_271 qm_272 qm_273 qm_1 qm_274) rfl rfl rfl (by decide +kernel) ⟨Nat.le_of_ble_eq_true rfl, Nat.le_of_ble_eq_true rfl⟩) ⟨tq_b3, va_recv hKc hPc (ci := 0) (q0 := 0) rfl rfl, fun U hU hW9 => ⟨rfl, ⟨by rw [hU], by rw [hU]; exact hPc, va_K.moved hW9.alike hKc, hDc.weaken (fun _ _ _ _ => trivial)⟩, hZ.on hS hU hW9 hFc⟩⟩ rfl rfl hl.1 rfl (lv_room (Nat.le_of_ble_eq_true rfl)) qd_L_find_6 ⟨Nat.le_of_ble_eq_true rfl, Nat.le_of_ble_eq_true rfl⟩) hS (fun q _ h => hFc q h) hFc (fun q _ h => hFc q h) (fun E ce q9 u t9 H1 locs ht9 hvm hw hB hz1 hk1 hS hce hcv hcl => ?_) (fun r9 u t9 H1 locs ht9 hvm hw hB hz1 hk1 hS => False.elim hw)
  obtain ⟨rfl, hP1, hK1, hD1⟩ := hB
  rw [ht9] at hP1
  obtain ⟨hP, hD⟩ := va_join (wr := [(ao, .inl (cA, (1, .inr (.inl ow))))]) (w1 := [(x, .inr (0, [.ref a, .int (nI n), .ref b, .int (nI k)])), (a, .inl (cA, (600, .inr (.inl f)))), (b, .inl (cA, (40, .inr (.inl g))))]) hP hD [0, 1, 2] [3] rfl rfl (by decide) (by decide) hk1 hFc hP1 hD1
  generalize H1 = H at hP hS hce ⊢
  have hP : va_P (dC, dI) tq_cl [(ao, .inl (cA, (1, .inr (.inl ow)))), (x, .inr (0, [.ref a, .int (nI n), .ref b, .int (nI k)])), (a, .inl (cA, (600, .inr (.inl f)))), (b, .inl (cA, (40, .inr (.inl g))))] H := hP
  have hD : va_D A [(ao, .inl (cA, (1, .inr (.inl ow)))), (x, .inr (0, [.ref a, .int (nI n), .ref b, .int (nI k)])), (a, .inl (cA, (600, .inr (.inl f)))), (b, .inl (cA, (40, .inr (.inl g))))] := hD
  refine vx_catch (own := RL) (name := "java/util/NoSuchElementException") (E := "java/util/NoSuchElementException") hown [] ⟨0, 11, 14, 29⟩ [] (by rw [hTab]; rfl) (fun z hz => nomatch hz) (by decide) (by decide) (hW _ qm_187) (va_Nw.use rfl (hZ.2.2.1 (.castable "java/util/NoSuchElementException" "java/util/NoSuchElementException") (by decide +kernel))) hce hcv hcl ?_
  refine W.eq (g2 := F0 m 14 ls [.ref q9]) rfl ?_
  refine lv_astore (lv' := [(5, .ref q9), (0, .ref x), (1, .int q), (2, .long v), (4, .ref ao)]) hx hb qd_L_find_14 hl (by decide) rfl (fun ls hl => ?_)
  refine lv_iconst (v := nI 1) hx hb qd_L_find_16 (by decide +kernel) ?_
  exact W.iret hx hb hr (fun t ht hW9 => ⟨⟨_, (), rfl, rfl, by rw [ht]; exact hP.sub [1, 2, 3, 0] rfl, va_K.moved hW9.alike hK, hD.sub [1, 2, 3, 0] (by decide) rfl⟩, hS.F ht⟩) hS.2.2 qd_L_find_17
set_option maxHeartbeats 4000000 in
set_option maxRecDepth 100000 in
/-- L_alter, through the law, refused -/
theorem cx_L_alter (l : Launch) (dC : Nat → ClassId) (dI : Nat → Nat → Nat) (x a b : Nat) (cA : ClassId) (n k : Nat) (f g : Nat → Int64) (ao : Nat) (ow : Nat → Int64) (sz : Nat) (hst : l.stackTraces = false) (q : Int32) (v : Int64) (hbad : q < 0 ∨ nI k ≤ q) : Met l qy_L_alter qw_L_alter ({ frames := 7, cells := 1, slots := 6, locals := 130 }) (va_Pc [.ref x, .int q, .long v, .ref ao] (tq_rz (dC, dI) [(x, .inr (0, [.ref a, .int (nI n), .ref b, .int (nI k)])), (a, .inl (cA, (600, .inr (.inl f)))), (b, .inl (cA, (40, .inr (.inl g)))), (ao, .inl (cA, (1, .inr (.inl ow))))] [(cA, .long)] sz)) (va_Qi (fun r (_ : Unit) => r = nI 1) (fun _ t => tq_in (dC, dI) [(x, .inr (0, [.ref a, .int (nI n), .ref b, .int (nI k)])), (a, .inl (cA, (600, .inr (.inl f)))), (b, .inl (cA, (40, .inr (.inl g)))), (ao, .inl (cA, (1, .inr (.inl ow))))] [(cA, .long)] (va_A [(x, .inr (0, [.ref a, .int (nI n), .ref b, .int (nI k)])), (a, .inl (cA, (600, .inr (.inl f)))), (b, .inl (cA, (40, .inr (.inl g)))), (ao, .inl (cA, (1, .inr (.inl ow))))] sz) t) (va_A [(x, .inr (0, [.ref a, .int (nI n), .ref b, .int (nI k)])), (a, .inl (cA, (600, .inr (.inl f)))), (b, .inl (cA, (40, .inr (.inl g)))), (ao, .inl (cA, (1, .inr (.inl ow))))] sz)) 1 6 (va_A [(x, .inr (0, [.ref a, .int (nI n), .ref b, .int (nI k)])), (a, .inl (cA, (600, .inr (.inl f)))), (b, .inl (cA, (40, .inr (.inl g)))), (ao, .inl (cA, (1, .inr (.inl ow))))] sz) := by
  refine va_MetW (hh := [(0, 10, 13, 45)]) (cc := qc_L_alter) (maxL := 6) (ret := (some .int)) (by decide) rfl ?_
  intro p e s m args below meth c s₁ B hml hv
  obtain ⟨rfl, ⟨hsz, hP, hK, hD0⟩, hZ⟩ := hv
  have hx := B.exec
  have hb := B.bytes
  have hr := B.returns
  have hts := atoms_spec (ws := qw_L_alter) B.pre
  have hW : ∀ w ∈ tq_W, w.before ([.ref x, .int q, .long v, .ref ao] : List Value).toArray s = true := fun w h => hts w (List.mem_cons_of_mem _ h)
  have hown : s.vm.findClass RL = some m.cls := findClass_of_methodNamed B.named
  have hlocks := B.notSynchronized
  have hl := lv_entry ([.ref x, .int q, .long v, .ref ao]) (n := 6) (Nat.le_of_ble_eq_true rfl)
  rw [lg_entry_eq]
  generalize (lg_sl ([.ref x, .int q, .long v, .ref ao]) ++ List.replicate (6 - (lg_sl ([.ref x, .int q, .long v, .ref ao])).length) Slot.unset).toArray = ls at hl ⊢
  have hl : lv_has ls 6 [(0, .ref x), (1, .int q), (2, .long v), (4, .ref ao)] := hl
  have hTab : c.exceptionTable.toList = tableOf [(0, 10, 13, 45)] := vx_table (x := qy_L_alter) B (hts _ List.mem_cons_self)
  subst hsz
  have hD := hD0.self (sz := s.heap.size)
  generalize hAe : va_A [(x, .inr (0, [.ref a, .int (nI n), .ref b, .int (nI k)])), (a, .inl (cA, (600, .inr (.inl f)))), (b, .inl (cA, (40, .inr (.inl g)))), (ao, .inl (cA, (1, .inr (.inl ow))))] s.heap.size = A at hD hZ ⊢
  have hA : ∀ q : Nat, s.heap.size ≤ q → A q := fun q h => by rw [← hAe]; exact Or.inr h
  have hS : va_S A s.heap s.heap [] := va_S.rf
  refine lv_aload hx hb qd_L_alter_0 (lv_at hl 3 rfl) ?_
  refine lv_iconst (v := nI 0) hx hb qd_L_alter_2 (by decide +kernel) ?_
  refine lv_aload_n hx hb qd_L_alter_3 rfl (lv_at hl 0 rfl) ?_
  refine lv_iload_n hx hb qd_L_alter_4 rfl (lv_at hl 1 rfl) ?_
  refine lv_lload_n hx hb qd_L_alter_5 rfl (lv_at hl 2 rfl) ?_
  have hPc := hP.sub (ws' := [(x, .inr (0, [.ref a, .int (nI n), .ref b, .int (nI k)])), (a, .inl (cA, (600, .inr (.inl f)))), (b, .inl (cA, (40, .inr (.inl g))))]) [0, 1, 2] rfl
  have hDc := hD.sub (ws' := [(x, .inr (0, [.ref a, .int (nI n), .ref b, .int (nI k)])), (a, .inl (cA, (600, .inr (.inl f)))), (b, .inl (cA, (40, .inr (.inl g))))]) [0, 1, 2] (by decide) rfl
  have hKc := hK.sub (tys' := [(cA, .long)]) [0] rfl
  have hFc := va_free (wc := [(x, .inr (0, [.ref a, .int (nI n), .ref b, .int (nI k)])), (a, .inl (cA, (600, .inr (.inl f)))), (b, .inl (cA, (40, .inr (.inl g))))]) hD hS hA [0, 1, 2] rfl
  refine vx_calll (vx_runV (As := [.int q, .long v]) (rest := [.int (nI 0), .ref ao]) ⟨hx, hb, hml, hown, hW⟩ (cx_X_alter l dC dI x a b cA n k f g s.heap.size hst q v hbad) (cwV 2 hW (tq_gV qm_257 qm_258 qm_259 qm_1 qm_260) rfl rfl rfl (by decide +kernel) ⟨Nat.le_of_ble_eq_true rfl, Nat.le_of_ble_eq_true rfl⟩) ⟨tq_b3, va_recv hKc hPc (ci := 0) (q0 := 0) rfl rfl, fun U hU hW9 => ⟨rfl, ⟨by rw [hU], by rw [hU]; exact hPc, va_K.moved hW9.alike hKc, hDc.weaken (fun _ _ _ _ => trivial)⟩, hZ.on hS hU hW9 hFc⟩⟩ rfl rfl hl.1 rfl (lv_room (Nat.le_of_ble_eq_true rfl)) qd_L_alter_6 ⟨Nat.le_of_ble_eq_true rfl, Nat.le_of_ble_eq_true rfl⟩) hS (fun q _ h => hFc q h) hFc (fun q _ h => hFc q h) (fun E ce q9 u t9 H1 locs ht9 hvm hw hB hz1 hk1 hS hce hcv hcl => ?_) (fun r9 u t9 H1 locs ht9 hvm hw hB hz1 hk1 hS => False.elim hw)
  obtain ⟨rfl, hP1, hK1, hD1⟩ := hB
  rw [ht9] at hP1
  obtain ⟨hP, hD⟩ := va_join (wr := [(ao, .inl (cA, (1, .inr (.inl ow))))]) (w1 := [(x, .inr (0, [.ref a, .int (nI n), .ref b, .int (nI k)])), (a, .inl (cA, (600, .inr (.inl f)))), (b, .inl (cA, (40, .inr (.inl g))))]) hP hD [0, 1, 2] [3] rfl rfl (by decide) (by decide) hk1 hFc hP1 hD1
  generalize H1 = H at hP hS hce ⊢
  have hP : va_P (dC, dI) tq_cl [(ao, .inl (cA, (1, .inr (.inl ow)))), (x, .inr (0, [.ref a, .int (nI n), .ref b, .int (nI k)])), (a, .inl (cA, (600, .inr (.inl f)))), (b, .inl (cA, (40, .inr (.inl g))))] H := hP
  have hD : va_D A [(ao, .inl (cA, (1, .inr (.inl ow)))), (x, .inr (0, [.ref a, .int (nI n), .ref b, .int (nI k)])), (a, .inl (cA, (600, .inr (.inl f)))), (b, .inl (cA, (40, .inr (.inl g))))] := hD
  refine vx_catch (own := RL) (name := "java/lang/IndexOutOfBoundsException") (E := "java/lang/IndexOutOfBoundsException") hown [] ⟨0, 10, 13, 45⟩ [] (by rw [hTab]; rfl) (fun z hz => nomatch hz) (by decide) (by decide) (hW _ qm_234) (va_Nw.use rfl (hZ.2.2.1 (.castable "java/lang/IndexOutOfBoundsException" "java/lang/IndexOutOfBoundsException") (by decide +kernel))) hce hcv hcl ?_
  refine W.eq (g2 := F0 m 13 ls [.ref q9]) rfl ?_
  refine lv_astore (lv' := [(5, .ref q9), (0, .ref x), (1, .int q), (2, .long v), (4, .ref ao)]) hx hb qd_L_alter_13 hl (by decide) rfl (fun ls hl => ?_)
  refine lv_iconst (v := nI 1) hx hb qd_L_alter_15 (by decide +kernel) ?_
  exact W.iret hx hb hr (fun t ht hW9 => ⟨⟨_, (), rfl, rfl, by rw [ht]; exact hP.sub [1, 2, 3, 0] rfl, va_K.moved hW9.alike hK, hD.sub [1, 2, 3, 0] (by decide) rfl⟩, hS.F ht⟩) hS.2.2 qd_L_alter_16
set_option maxHeartbeats 4000000 in
set_option maxRecDepth 100000 in
/-- L_part, through the law, refused -/
theorem cx_L_part (l : Launch) (dC : Nat → ClassId) (dI : Nat → Nat → Nat) (x a b : Nat) (cA : ClassId) (n k : Nat) (f g : Nat → Int64) (ao : Nat) (ow : Nat → Int64) (sz : Nat) (hst : l.stackTraces = false) (pm pn : Int32) (hbad : pm < 0 ∨ pn < pm ∨ nI n < pn) : Met l qy_L_part qw_L_part ({ frames := 7, cells := 1, slots := 6, locals := 130 }) (va_Pc [.ref x, .int pm, .int pn, .ref ao] (tq_rz (dC, dI) [(x, .inr (0, [.ref a, .int (nI n), .ref b, .int (nI k)])), (a, .inl (cA, (600, .inr (.inl f)))), (b, .inl (cA, (40, .inr (.inl g)))), (ao, .inl (cA, (1, .inr (.inl ow))))] [(cA, .long)] sz)) (va_Qi (fun r (_ : Unit) => r = nI 1) (fun _ t => tq_in (dC, dI) [(x, .inr (0, [.ref a, .int (nI n), .ref b, .int (nI k)])), (a, .inl (cA, (600, .inr (.inl f)))), (b, .inl (cA, (40, .inr (.inl g)))), (ao, .inl (cA, (1, .inr (.inl ow))))] [(cA, .long)] (va_A [(x, .inr (0, [.ref a, .int (nI n), .ref b, .int (nI k)])), (a, .inl (cA, (600, .inr (.inl f)))), (b, .inl (cA, (40, .inr (.inl g)))), (ao, .inl (cA, (1, .inr (.inl ow))))] sz) t) (va_A [(x, .inr (0, [.ref a, .int (nI n), .ref b, .int (nI k)])), (a, .inl (cA, (600, .inr (.inl f)))), (b, .inl (cA, (40, .inr (.inl g)))), (ao, .inl (cA, (1, .inr (.inl ow))))] sz)) 1 6 (va_A [(x, .inr (0, [.ref a, .int (nI n), .ref b, .int (nI k)])), (a, .inl (cA, (600, .inr (.inl f)))), (b, .inl (cA, (40, .inr (.inl g)))), (ao, .inl (cA, (1, .inr (.inl ow))))] sz) := by
  refine va_MetW (hh := [(0, 9, 12, 29)]) (cc := qc_L_part) (maxL := 5) (ret := (some .int)) (by decide) rfl ?_
  intro p e s m args below meth c s₁ B hml hv
  obtain ⟨rfl, ⟨hsz, hP, hK, hD0⟩, hZ⟩ := hv
  have hx := B.exec
  have hb := B.bytes
  have hr := B.returns
  have hts := atoms_spec (ws := qw_L_part) B.pre
  have hW : ∀ w ∈ tq_W, w.before ([.ref x, .int pm, .int pn, .ref ao] : List Value).toArray s = true := fun w h => hts w (List.mem_cons_of_mem _ h)
  have hown : s.vm.findClass RL = some m.cls := findClass_of_methodNamed B.named
  have hlocks := B.notSynchronized
  have hl := lv_entry ([.ref x, .int pm, .int pn, .ref ao]) (n := 5) (Nat.le_of_ble_eq_true rfl)
  rw [lg_entry_eq]
  generalize (lg_sl ([.ref x, .int pm, .int pn, .ref ao]) ++ List.replicate (5 - (lg_sl ([.ref x, .int pm, .int pn, .ref ao])).length) Slot.unset).toArray = ls at hl ⊢
  have hl : lv_has ls 5 [(0, .ref x), (1, .int pm), (2, .int pn), (3, .ref ao)] := hl
  have hTab : c.exceptionTable.toList = tableOf [(0, 9, 12, 29)] := vx_table (x := qy_L_part) B (hts _ List.mem_cons_self)
  subst hsz
  have hD := hD0.self (sz := s.heap.size)
  generalize hAe : va_A [(x, .inr (0, [.ref a, .int (nI n), .ref b, .int (nI k)])), (a, .inl (cA, (600, .inr (.inl f)))), (b, .inl (cA, (40, .inr (.inl g)))), (ao, .inl (cA, (1, .inr (.inl ow))))] s.heap.size = A at hD hZ ⊢
  have hA : ∀ q : Nat, s.heap.size ≤ q → A q := fun q h => by rw [← hAe]; exact Or.inr h
  have hS : va_S A s.heap s.heap [] := va_S.rf
  refine lv_aload_n hx hb qd_L_part_0 rfl (lv_at hl 3 rfl) ?_
  refine lv_iconst (v := nI 0) hx hb qd_L_part_1 (by decide +kernel) ?_
  refine lv_aload_n hx hb qd_L_part_2 rfl (lv_at hl 0 rfl) ?_
  refine lv_iload_n hx hb qd_L_part_3 rfl (lv_at hl 1 rfl) ?_
  refine lv_iload_n hx hb qd_L_part_4 rfl (lv_at hl 2 rfl) ?_
  have hPc := hP.sub (ws' := [(x, .inr (0, [.ref a, .int (nI n), .ref b, .int (nI k)])), (a, .inl (cA, (600, .inr (.inl f)))), (b, .inl (cA, (40, .inr (.inl g))))]) [0, 1, 2] rfl
  have hDc := hD.sub (ws' := [(x, .inr (0, [.ref a, .int (nI n), .ref b, .int (nI k)])), (a, .inl (cA, (600, .inr (.inl f)))), (b, .inl (cA, (40, .inr (.inl g))))]) [0, 1, 2] (by decide) rfl
  have hKc := hK.sub (tys' := [(cA, .long)]) [0] rfl
  have hFc := va_free (wc := [(x, .inr (0, [.ref a, .int (nI n), .ref b, .int (nI k)])), (a, .inl (cA, (600, .inr (.inl f)))), (b, .inl (cA, (40, .inr (.inl g))))]) hD hS hA [0, 1, 2] rfl
  refine vx_calll (vx_runV (As := [.int pm, .int pn]) (rest := [.int (nI 0), .ref ao]) ⟨hx, hb, hml, hown, hW⟩ (cx_X_part l dC dI x a b cA n k f g s.heap.size hst pm pn hbad) (cwV 2 hW (tq_gV qm_213 qm_214 qm_215 qm_1 qm_216) rfl rfl rfl (by decide +kernel) ⟨Nat.le_of_ble_eq_true rfl, Nat.le_of_ble_eq_true rfl⟩) ⟨tq_b3, va_recv hKc hPc (ci := 0) (q0 := 0) rfl rfl, fun U hU hW9 => ⟨rfl, ⟨by rw [hU], by rw [hU]; exact hPc, va_K.moved hW9.alike hKc, hDc.weaken (fun _ _ _ _ => trivial)⟩, hZ.on hS hU hW9 hFc⟩⟩ rfl rfl hl.1 rfl (lv_room (Nat.le_of_ble_eq_true rfl)) qd_L_part_5 ⟨Nat.le_of_ble_eq_true rfl, Nat.le_of_ble_eq_true rfl⟩) hS (fun q _ h => hFc q h) hFc (fun q _ h => hFc q h) (fun E ce q9 u t9 H1 locs ht9 hvm hw hB hz1 hk1 hS hce hcv hcl => ?_) (fun r9 u t9 H1 locs ht9 hvm hw hB hz1 hk1 hS => False.elim hw)
  obtain ⟨rfl, hP1, hK1, hD1⟩ := hB
  rw [ht9] at hP1
  obtain ⟨hP, hD⟩ := va_join (wr := [(ao, .inl (cA, (1, .inr (.inl ow))))]) (w1 := [(x, .inr (0, [.ref a, .int (nI n), .ref b, .int (nI k)])), (a, .inl (cA, (600, .inr (.inl f)))), (b, .inl (cA, (40, .inr (.inl g))))]) hP hD [0, 1, 2] [3] rfl rfl (by decide) (by decide) hk1 hFc hP1 hD1
  generalize H1 = H at hP hS hce ⊢
  have hP : va_P (dC, dI) tq_cl [(ao, .inl (cA, (1, .inr (.inl ow)))), (x, .inr (0, [.ref a, .int (nI n), .ref b, .int (nI k)])), (a, .inl (cA, (600, .inr (.inl f)))), (b, .inl (cA, (40, .inr (.inl g))))] H := hP
  have hD : va_D A [(ao, .inl (cA, (1, .inr (.inl ow)))), (x, .inr (0, [.ref a, .int (nI n), .ref b, .int (nI k)])), (a, .inl (cA, (600, .inr (.inl f)))), (b, .inl (cA, (40, .inr (.inl g))))] := hD
  refine vx_catch (own := RL) (name := "java/util/NoSuchElementException") (E := "java/util/NoSuchElementException") hown [] ⟨0, 9, 12, 29⟩ [] (by rw [hTab]; rfl) (fun z hz => nomatch hz) (by decide) (by decide) (hW _ qm_187) (va_Nw.use rfl (hZ.2.2.1 (.castable "java/util/NoSuchElementException" "java/util/NoSuchElementException") (by decide +kernel))) hce hcv hcl ?_
  refine W.eq (g2 := F0 m 12 ls [.ref q9]) rfl ?_
  refine lv_astore (lv' := [(4, .ref q9), (0, .ref x), (1, .int pm), (2, .int pn), (3, .ref ao)]) hx hb qd_L_part_12 hl (by decide) rfl (fun ls hl => ?_)
  refine lv_iconst (v := nI 1) hx hb qd_L_part_14 (by decide +kernel) ?_
  exact W.iret hx hb hr (fun t ht hW9 => ⟨⟨_, (), rfl, rfl, by rw [ht]; exact hP.sub [1, 2, 3, 0] rfl, va_K.moved hW9.alike hK, hD.sub [1, 2, 3, 0] (by decide) rfl⟩, hS.F ht⟩) hS.2.2 qd_L_part_15
set_option maxHeartbeats 4000000 in
set_option maxRecDepth 100000 in
/-- L_path, through the law, refused -/
theorem cx_L_path (l : Launch) (dC : Nat → ClassId) (dI : Nat → Nat → Nat) (x a b : Nat) (cA : ClassId) (n k : Nat) (f g : Nat → Int64) (ao : Nat) (ow : Nat → Int64) (sz : Nat) (hst : l.stackTraces = false) (pm pn : Int32) (hbad : pm < 0 ∨ pn ≤ pm ∨ nI n < pn) : Met l qy_L_path qw_L_path ({ frames := 7, cells := 1, slots := 6, locals := 130 }) (va_Pc [.ref x, .int pm, .int pn, .ref ao] (tq_rz (dC, dI) [(x, .inr (0, [.ref a, .int (nI n), .ref b, .int (nI k)])), (a, .inl (cA, (600, .inr (.inl f)))), (b, .inl (cA, (40, .inr (.inl g)))), (ao, .inl (cA, (1, .inr (.inl ow))))] [(cA, .long)] sz)) (va_Qi (fun r (_ : Unit) => r = nI 1) (fun _ t => tq_in (dC, dI) [(x, .inr (0, [.ref a, .int (nI n), .ref b, .int (nI k)])), (a, .inl (cA, (600, .inr (.inl f)))), (b, .inl (cA, (40, .inr (.inl g)))), (ao, .inl (cA, (1, .inr (.inl ow))))] [(cA, .long)] (va_A [(x, .inr (0, [.ref a, .int (nI n), .ref b, .int (nI k)])), (a, .inl (cA, (600, .inr (.inl f)))), (b, .inl (cA, (40, .inr (.inl g)))), (ao, .inl (cA, (1, .inr (.inl ow))))] sz) t) (va_A [(x, .inr (0, [.ref a, .int (nI n), .ref b, .int (nI k)])), (a, .inl (cA, (600, .inr (.inl f)))), (b, .inl (cA, (40, .inr (.inl g)))), (ao, .inl (cA, (1, .inr (.inl ow))))] sz)) 1 6 (va_A [(x, .inr (0, [.ref a, .int (nI n), .ref b, .int (nI k)])), (a, .inl (cA, (600, .inr (.inl f)))), (b, .inl (cA, (40, .inr (.inl g)))), (ao, .inl (cA, (1, .inr (.inl ow))))] sz) := by
  refine va_MetW (hh := [(0, 10, 13, 29)]) (cc := qc_L_path) (maxL := 5) (ret := (some .int)) (by decide) rfl ?_
  intro p e s m args below meth c s₁ B hml hv
  obtain ⟨rfl, ⟨hsz, hP, hK, hD0⟩, hZ⟩ := hv
  have hx := B.exec
  have hb := B.bytes
  have hr := B.returns
  have hts := atoms_spec (ws := qw_L_path) B.pre
  have hW : ∀ w ∈ tq_W, w.before ([.ref x, .int pm, .int pn, .ref ao] : List Value).toArray s = true := fun w h => hts w (List.mem_cons_of_mem _ h)
  have hown : s.vm.findClass RL = some m.cls := findClass_of_methodNamed B.named
  have hlocks := B.notSynchronized
  have hl := lv_entry ([.ref x, .int pm, .int pn, .ref ao]) (n := 5) (Nat.le_of_ble_eq_true rfl)
  rw [lg_entry_eq]
  generalize (lg_sl ([.ref x, .int pm, .int pn, .ref ao]) ++ List.replicate (5 - (lg_sl ([.ref x, .int pm, .int pn, .ref ao])).length) Slot.unset).toArray = ls at hl ⊢
  have hl : lv_has ls 5 [(0, .ref x), (1, .int pm), (2, .int pn), (3, .ref ao)] := hl
  have hTab : c.exceptionTable.toList = tableOf [(0, 10, 13, 29)] := vx_table (x := qy_L_path) B (hts _ List.mem_cons_self)
  subst hsz
  have hD := hD0.self (sz := s.heap.size)
  generalize hAe : va_A [(x, .inr (0, [.ref a, .int (nI n), .ref b, .int (nI k)])), (a, .inl (cA, (600, .inr (.inl f)))), (b, .inl (cA, (40, .inr (.inl g)))), (ao, .inl (cA, (1, .inr (.inl ow))))] s.heap.size = A at hD hZ ⊢
  have hA : ∀ q : Nat, s.heap.size ≤ q → A q := fun q h => by rw [← hAe]; exact Or.inr h
  have hS : va_S A s.heap s.heap [] := va_S.rf
  refine lv_aload_n hx hb qd_L_path_0 rfl (lv_at hl 3 rfl) ?_
  refine lv_iconst (v := nI 0) hx hb qd_L_path_1 (by decide +kernel) ?_
  refine lv_aload_n hx hb qd_L_path_2 rfl (lv_at hl 0 rfl) ?_
  refine lv_iload_n hx hb qd_L_path_3 rfl (lv_at hl 1 rfl) ?_
  refine lv_iload_n hx hb qd_L_path_4 rfl (lv_at hl 2 rfl) ?_
  have hPc := hP.sub (ws' := [(x, .inr (0, [.ref a, .int (nI n), .ref b, .int (nI k)])), (a, .inl (cA, (600, .inr (.inl f)))), (b, .inl (cA, (40, .inr (.inl g))))]) [0, 1, 2] rfl
  have hDc := hD.sub (ws' := [(x, .inr (0, [.ref a, .int (nI n), .ref b, .int (nI k)])), (a, .inl (cA, (600, .inr (.inl f)))), (b, .inl (cA, (40, .inr (.inl g))))]) [0, 1, 2] (by decide) rfl
  have hKc := hK.sub (tys' := [(cA, .long)]) [0] rfl
  have hFc := va_free (wc := [(x, .inr (0, [.ref a, .int (nI n), .ref b, .int (nI k)])), (a, .inl (cA, (600, .inr (.inl f)))), (b, .inl (cA, (40, .inr (.inl g))))]) hD hS hA [0, 1, 2] rfl
  refine vx_calli (vx_runV (As := [.int pm, .int pn]) (rest := [.int (nI 0), .ref ao]) ⟨hx, hb, hml, hown, hW⟩ (cx_X_path l dC dI x a b cA n k f g s.heap.size hst pm pn hbad) (cwV 2 hW (tq_gV qm_220 qm_221 qm_222 qm_1 qm_223) rfl rfl rfl (by decide +kernel) ⟨Nat.le_of_ble_eq_true rfl, Nat.le_of_ble_eq_true rfl⟩) ⟨tq_b3, va_recv hKc hPc (ci := 0) (q0 := 0) rfl rfl, fun U hU hW9 => ⟨rfl, ⟨by rw [hU], by rw [hU]; exact hPc, va_K.moved hW9.alike hKc, hDc.weaken (fun _ _ _ _ => trivial)⟩, hZ.on hS hU hW9 hFc⟩⟩ rfl rfl hl.1 rfl (lv_room (Nat.le_of_ble_eq_true rfl)) qd_L_path_5 ⟨Nat.le_of_ble_eq_true rfl, Nat.le_of_ble_eq_true rfl⟩) hS (fun q _ h => hFc q h) hFc (fun q _ h => hFc q h) (fun E ce q9 u t9 H1 locs ht9 hvm hw hB hz1 hk1 hS hce hcv hcl => ?_) (fun r9 u t9 H1 locs ht9 hvm hw hB hz1 hk1 hS => False.elim hw)
  obtain ⟨rfl, hP1, hK1, hD1⟩ := hB
  rw [ht9] at hP1
  obtain ⟨hP, hD⟩ := va_join (wr := [(ao, .inl (cA, (1, .inr (.inl ow))))]) (w1 := [(x, .inr (0, [.ref a, .int (nI n), .ref b, .int (nI k)])), (a, .inl (cA, (600, .inr (.inl f)))), (b, .inl (cA, (40, .inr (.inl g))))]) hP hD [0, 1, 2] [3] rfl rfl (by decide) (by decide) hk1 hFc hP1 hD1
  generalize H1 = H at hP hS hce ⊢
  have hP : va_P (dC, dI) tq_cl [(ao, .inl (cA, (1, .inr (.inl ow)))), (x, .inr (0, [.ref a, .int (nI n), .ref b, .int (nI k)])), (a, .inl (cA, (600, .inr (.inl f)))), (b, .inl (cA, (40, .inr (.inl g))))] H := hP
  have hD : va_D A [(ao, .inl (cA, (1, .inr (.inl ow)))), (x, .inr (0, [.ref a, .int (nI n), .ref b, .int (nI k)])), (a, .inl (cA, (600, .inr (.inl f)))), (b, .inl (cA, (40, .inr (.inl g))))] := hD
  refine vx_catch (own := RL) (name := "java/util/NoSuchElementException") (E := "java/util/NoSuchElementException") hown [] ⟨0, 10, 13, 29⟩ [] (by rw [hTab]; rfl) (fun z hz => nomatch hz) (by decide) (by decide) (hW _ qm_187) (va_Nw.use rfl (hZ.2.2.1 (.castable "java/util/NoSuchElementException" "java/util/NoSuchElementException") (by decide +kernel))) hce hcv hcl ?_
  refine W.eq (g2 := F0 m 13 ls [.ref q9]) rfl ?_
  refine lv_astore (lv' := [(4, .ref q9), (0, .ref x), (1, .int pm), (2, .int pn), (3, .ref ao)]) hx hb qd_L_path_13 hl (by decide) rfl (fun ls hl => ?_)
  refine lv_iconst (v := nI 1) hx hb qd_L_path_15 (by decide +kernel) ?_
  exact W.iret hx hb hr (fun t ht hW9 => ⟨⟨_, (), rfl, rfl, by rw [ht]; exact hP.sub [1, 2, 3, 0] rfl, va_K.moved hW9.alike hK, hD.sub [1, 2, 3, 0] (by decide) rfl⟩, hS.F ht⟩) hS.2.2 qd_L_path_16
set_option maxHeartbeats 4000000 in
set_option maxRecDepth 100000 in
/-- L_steps, through the law, refused -/
theorem cx_L_steps (l : Launch) (dC : Nat → ClassId) (dI : Nat → Nat → Nat) (x a b : Nat) (cA : ClassId) (n k : Nat) (f g : Nat → Int64) (ao : Nat) (ow : Nat → Int64) (sz : Nat) (hst : l.stackTraces = false) (pm pn : Int32) (hbad : pm < nI 1 ∨ pn < pm ∨ nI n < pn) : Met l qy_L_steps qw_L_steps ({ frames := 7, cells := 1, slots := 6, locals := 130 }) (va_Pc [.ref x, .int pm, .int pn, .ref ao] (tq_rz (dC, dI) [(x, .inr (0, [.ref a, .int (nI n), .ref b, .int (nI k)])), (a, .inl (cA, (600, .inr (.inl f)))), (b, .inl (cA, (40, .inr (.inl g)))), (ao, .inl (cA, (1, .inr (.inl ow))))] [(cA, .long)] sz)) (va_Qi (fun r (_ : Unit) => r = nI 1) (fun _ t => tq_in (dC, dI) [(x, .inr (0, [.ref a, .int (nI n), .ref b, .int (nI k)])), (a, .inl (cA, (600, .inr (.inl f)))), (b, .inl (cA, (40, .inr (.inl g)))), (ao, .inl (cA, (1, .inr (.inl ow))))] [(cA, .long)] (va_A [(x, .inr (0, [.ref a, .int (nI n), .ref b, .int (nI k)])), (a, .inl (cA, (600, .inr (.inl f)))), (b, .inl (cA, (40, .inr (.inl g)))), (ao, .inl (cA, (1, .inr (.inl ow))))] sz) t) (va_A [(x, .inr (0, [.ref a, .int (nI n), .ref b, .int (nI k)])), (a, .inl (cA, (600, .inr (.inl f)))), (b, .inl (cA, (40, .inr (.inl g)))), (ao, .inl (cA, (1, .inr (.inl ow))))] sz)) 1 6 (va_A [(x, .inr (0, [.ref a, .int (nI n), .ref b, .int (nI k)])), (a, .inl (cA, (600, .inr (.inl f)))), (b, .inl (cA, (40, .inr (.inl g)))), (ao, .inl (cA, (1, .inr (.inl ow))))] sz) := by
  refine va_MetW (hh := [(0, 10, 13, 29)]) (cc := qc_L_steps) (maxL := 5) (ret := (some .int)) (by decide) rfl ?_
  intro p e s m args below meth c s₁ B hml hv
  obtain ⟨rfl, ⟨hsz, hP, hK, hD0⟩, hZ⟩ := hv
  have hx := B.exec
  have hb := B.bytes
  have hr := B.returns
  have hts := atoms_spec (ws := qw_L_steps) B.pre
  have hW : ∀ w ∈ tq_W, w.before ([.ref x, .int pm, .int pn, .ref ao] : List Value).toArray s = true := fun w h => hts w (List.mem_cons_of_mem _ h)
  have hown : s.vm.findClass RL = some m.cls := findClass_of_methodNamed B.named
  have hlocks := B.notSynchronized
  have hl := lv_entry ([.ref x, .int pm, .int pn, .ref ao]) (n := 5) (Nat.le_of_ble_eq_true rfl)
  rw [lg_entry_eq]
  generalize (lg_sl ([.ref x, .int pm, .int pn, .ref ao]) ++ List.replicate (5 - (lg_sl ([.ref x, .int pm, .int pn, .ref ao])).length) Slot.unset).toArray = ls at hl ⊢
  have hl : lv_has ls 5 [(0, .ref x), (1, .int pm), (2, .int pn), (3, .ref ao)] := hl
  have hTab : c.exceptionTable.toList = tableOf [(0, 10, 13, 29)] := vx_table (x := qy_L_steps) B (hts _ List.mem_cons_self)
  subst hsz
  have hD := hD0.self (sz := s.heap.size)
  generalize hAe : va_A [(x, .inr (0, [.ref a, .int (nI n), .ref b, .int (nI k)])), (a, .inl (cA, (600, .inr (.inl f)))), (b, .inl (cA, (40, .inr (.inl g)))), (ao, .inl (cA, (1, .inr (.inl ow))))] s.heap.size = A at hD hZ ⊢
  have hA : ∀ q : Nat, s.heap.size ≤ q → A q := fun q h => by rw [← hAe]; exact Or.inr h
  have hS : va_S A s.heap s.heap [] := va_S.rf
  refine lv_aload_n hx hb qd_L_steps_0 rfl (lv_at hl 3 rfl) ?_
  refine lv_iconst (v := nI 0) hx hb qd_L_steps_1 (by decide +kernel) ?_
  refine lv_aload_n hx hb qd_L_steps_2 rfl (lv_at hl 0 rfl) ?_
  refine lv_iload_n hx hb qd_L_steps_3 rfl (lv_at hl 1 rfl) ?_
  refine lv_iload_n hx hb qd_L_steps_4 rfl (lv_at hl 2 rfl) ?_
  have hPc := hP.sub (ws' := [(x, .inr (0, [.ref a, .int (nI n), .ref b, .int (nI k)])), (a, .inl (cA, (600, .inr (.inl f)))), (b, .inl (cA, (40, .inr (.inl g))))]) [0, 1, 2] rfl
  have hDc := hD.sub (ws' := [(x, .inr (0, [.ref a, .int (nI n), .ref b, .int (nI k)])), (a, .inl (cA, (600, .inr (.inl f)))), (b, .inl (cA, (40, .inr (.inl g))))]) [0, 1, 2] (by decide) rfl
  have hKc := hK.sub (tys' := [(cA, .long)]) [0] rfl
  have hFc := va_free (wc := [(x, .inr (0, [.ref a, .int (nI n), .ref b, .int (nI k)])), (a, .inl (cA, (600, .inr (.inl f)))), (b, .inl (cA, (40, .inr (.inl g))))]) hD hS hA [0, 1, 2] rfl
  refine vx_calli (vx_runV (As := [.int pm, .int pn]) (rest := [.int (nI 0), .ref ao]) ⟨hx, hb, hml, hown, hW⟩ (cx_X_steps l dC dI x a b cA n k f g s.heap.size hst pm pn hbad) (cwV 2 hW (tq_gV qm_227 qm_228 qm_229 qm_1 qm_230) rfl rfl rfl (by decide +kernel) ⟨Nat.le_of_ble_eq_true rfl, Nat.le_of_ble_eq_true rfl⟩) ⟨tq_b3, va_recv hKc hPc (ci := 0) (q0 := 0) rfl rfl, fun U hU hW9 => ⟨rfl, ⟨by rw [hU], by rw [hU]; exact hPc, va_K.moved hW9.alike hKc, hDc.weaken (fun _ _ _ _ => trivial)⟩, hZ.on hS hU hW9 hFc⟩⟩ rfl rfl hl.1 rfl (lv_room (Nat.le_of_ble_eq_true rfl)) qd_L_steps_5 ⟨Nat.le_of_ble_eq_true rfl, Nat.le_of_ble_eq_true rfl⟩) hS (fun q _ h => hFc q h) hFc (fun q _ h => hFc q h) (fun E ce q9 u t9 H1 locs ht9 hvm hw hB hz1 hk1 hS hce hcv hcl => ?_) (fun r9 u t9 H1 locs ht9 hvm hw hB hz1 hk1 hS => False.elim hw)
  obtain ⟨rfl, hP1, hK1, hD1⟩ := hB
  rw [ht9] at hP1
  obtain ⟨hP, hD⟩ := va_join (wr := [(ao, .inl (cA, (1, .inr (.inl ow))))]) (w1 := [(x, .inr (0, [.ref a, .int (nI n), .ref b, .int (nI k)])), (a, .inl (cA, (600, .inr (.inl f)))), (b, .inl (cA, (40, .inr (.inl g))))]) hP hD [0, 1, 2] [3] rfl rfl (by decide) (by decide) hk1 hFc hP1 hD1
  generalize H1 = H at hP hS hce ⊢
  have hP : va_P (dC, dI) tq_cl [(ao, .inl (cA, (1, .inr (.inl ow)))), (x, .inr (0, [.ref a, .int (nI n), .ref b, .int (nI k)])), (a, .inl (cA, (600, .inr (.inl f)))), (b, .inl (cA, (40, .inr (.inl g))))] H := hP
  have hD : va_D A [(ao, .inl (cA, (1, .inr (.inl ow)))), (x, .inr (0, [.ref a, .int (nI n), .ref b, .int (nI k)])), (a, .inl (cA, (600, .inr (.inl f)))), (b, .inl (cA, (40, .inr (.inl g))))] := hD
  refine vx_catch (own := RL) (name := "java/util/NoSuchElementException") (E := "java/util/NoSuchElementException") hown [] ⟨0, 10, 13, 29⟩ [] (by rw [hTab]; rfl) (fun z hz => nomatch hz) (by decide) (by decide) (hW _ qm_187) (va_Nw.use rfl (hZ.2.2.1 (.castable "java/util/NoSuchElementException" "java/util/NoSuchElementException") (by decide +kernel))) hce hcv hcl ?_
  refine W.eq (g2 := F0 m 13 ls [.ref q9]) rfl ?_
  refine lv_astore (lv' := [(4, .ref q9), (0, .ref x), (1, .int pm), (2, .int pn), (3, .ref ao)]) hx hb qd_L_steps_13 hl (by decide) rfl (fun ls hl => ?_)
  refine lv_iconst (v := nI 1) hx hb qd_L_steps_15 (by decide +kernel) ?_
  exact W.iret hx hb hr (fun t ht hW9 => ⟨⟨_, (), rfl, rfl, by rw [ht]; exact hP.sub [1, 2, 3, 0] rfl, va_K.moved hW9.alike hK, hD.sub [1, 2, 3, 0] (by decide) rfl⟩, hS.F ht⟩) hS.2.2 qd_L_steps_16
