set_option maxHeartbeats 4000000 in
set_option maxRecDepth 100000 in
/-- add, through the law -/
theorem ct_L_add (l : Launch) (dC : Nat → ClassId) (dI : Nat → Nat → Nat) (x a b : Nat) (cA : ClassId) (n k : Nat) (f g : Nat → Int64) (ao : Nat) (ow : Nat → Int64) (sz : Nat) (v : Int64) (hn : n < 600) : Met l qy_L_add qw_L_add ({ frames := 3, cells := 0, slots := 0, locals := 100 }) (va_Pc [.ref x, .long v, .ref ao] (tq_rw (dC, dI) [(x, .inr (0, [.ref a, .int (nI n), .ref b, .int (nI k)])), (a, .inl (cA, (600, .inr (.inl f)))), (b, .inl (cA, (40, .inr (.inl g)))), (ao, .inl (cA, (1, .inr (.inl ow))))] [(cA, .long)] sz)) (va_Qi (fun r (_ : Unit) => r = nI 0) (fun _ t => tq_in (dC, dI) [(x, .inr (0, [.ref a, .int (nI (n + 1)), .ref b, .int (nI k)])), (a, .inl (cA, (600, .inr (.inl ((vp_updL f n (tq_leaf v))))))), (b, .inl (cA, (40, .inr (.inl g)))), (ao, .inl (cA, (1, .inr (.inl ((vp_updL ow 0 (nI (n + 1)).toInt64))))))] [(cA, .long)] (va_A [(x, .inr (0, [.ref a, .int (nI n), .ref b, .int (nI k)])), (a, .inl (cA, (600, .inr (.inl f)))), (b, .inl (cA, (40, .inr (.inl g)))), (ao, .inl (cA, (1, .inr (.inl ow))))] sz) t) (va_A [(x, .inr (0, [.ref a, .int (nI n), .ref b, .int (nI k)])), (a, .inl (cA, (600, .inr (.inl f)))), (b, .inl (cA, (40, .inr (.inl g)))), (ao, .inl (cA, (1, .inr (.inl ow))))] sz)) 0 0 (va_A [(x, .inr (0, [.ref a, .int (nI n), .ref b, .int (nI k)])), (a, .inl (cA, (600, .inr (.inl f)))), (b, .inl (cA, (40, .inr (.inl g)))), (ao, .inl (cA, (1, .inr (.inl ow))))] sz) := by
  refine va_MetW (hh := [(0, 9, 12, 13)]) (cc := qc_L_add) (maxL := 5) (ret := (some .int)) (by decide) rfl ?_
  intro p e s m args below meth c s₁ B hml hv
  obtain ⟨rfl, hsz, hP, hK, hD0⟩ := hv
  have hx := B.exec
  have hb := B.bytes
  have hr := B.returns
  have hts := atoms_spec (ws := qw_L_add) B.pre
  have hW : ∀ w ∈ tq_W, w.before ([.ref x, .long v, .ref ao] : List Value).toArray s = true := fun w h => hts w (List.mem_cons_of_mem _ h)
  have hown : s.vm.findClass RL = some m.cls := findClass_of_methodNamed B.named
  have hlocks := B.notSynchronized
  have hl := lv_entry ([.ref x, .long v, .ref ao]) (n := 5) (Nat.le_of_ble_eq_true rfl)
  rw [lg_entry_eq]
  generalize (lg_sl ([.ref x, .long v, .ref ao]) ++ List.replicate (5 - (lg_sl ([.ref x, .long v, .ref ao])).length) Slot.unset).toArray = ls at hl ⊢
  have hl : lv_has ls 5 [(0, .ref x), (1, .long v), (3, .ref ao)] := hl
  subst hsz
  have hD := hD0.self (sz := s.heap.size)
  generalize hAe : va_A [(x, .inr (0, [.ref a, .int (nI n), .ref b, .int (nI k)])), (a, .inl (cA, (600, .inr (.inl f)))), (b, .inl (cA, (40, .inr (.inl g)))), (ao, .inl (cA, (1, .inr (.inl ow))))] s.heap.size = A at hD ⊢
  have hA : ∀ q : Nat, s.heap.size ≤ q → A q := fun q h => by rw [← hAe]; exact Or.inr h
  have hS : va_S A s.heap s.heap [] := va_S.rf
  refine lv_aload_n hx hb qd_L_add_0 rfl (lv_at hl 2 rfl) ?_
  refine lv_iconst (v := nI 0) hx hb qd_L_add_1 (by decide +kernel) ?_
  refine lv_aload_n hx hb qd_L_add_2 rfl (lv_at hl 0 rfl) ?_
  refine lv_lload_n hx hb qd_L_add_3 rfl (lv_at hl 1 rfl) ?_
  have hPc := hP.sub (ws' := [(x, .inr (0, [.ref a, .int (nI n), .ref b, .int (nI k)])), (a, .inl (cA, (600, .inr (.inl f)))), (b, .inl (cA, (40, .inr (.inl g))))]) [0, 1, 2] rfl
  have hDc := hD.sub (ws' := [(x, .inr (0, [.ref a, .int (nI n), .ref b, .int (nI k)])), (a, .inl (cA, (600, .inr (.inl f)))), (b, .inl (cA, (40, .inr (.inl g))))]) [0, 1, 2] (by decide) rfl
  have hKc := hK.sub (tys' := [(cA, .long)]) [0] rfl
  have hFc := va_free (wc := [(x, .inr (0, [.ref a, .int (nI n), .ref b, .int (nI k)])), (a, .inl (cA, (600, .inr (.inl f)))), (b, .inl (cA, (40, .inr (.inl g))))]) hD hS hA [0, 1, 2] rfl
  refine va_calli (va_runV (As := [.long v]) (rest := [.int (nI 0), .ref ao]) ⟨hx, hb, hml, hown, hW⟩ (ct_X_add l dC dI x a b cA n k f g s.heap.size v hn) (cwV 1 hW (tq_gV qm_86 qm_87 qm_88 qm_1 qm_89) rfl rfl rfl (by decide +kernel) ⟨Nat.le_of_ble_eq_true rfl, Nat.le_of_ble_eq_true rfl⟩) ⟨tq_b2, va_recv hKc hPc (ci := 0) (q0 := 0) rfl rfl, fun U hU hW9 => ⟨rfl, by rw [hU], by rw [hU]; exact hPc, va_K.moved hW9.alike hKc, hDc.weaken (fun _ _ _ _ => trivial)⟩⟩ rfl rfl hl.1 rfl (lv_room (Nat.le_of_ble_eq_true rfl)) qd_L_add_4 ⟨Nat.le_of_ble_eq_true rfl, Nat.le_of_ble_eq_true rfl⟩) hS (fun q _ h => hFc q h) hFc (fun r9 u t9 H1 locs ht9 hvm hw hB hz1 hk1 hS => ?_)
  obtain ⟨hP1, hK1, hD1⟩ := hB
  rw [ht9] at hP1
  obtain ⟨hP, hD⟩ := va_join (wr := [(ao, .inl (cA, (1, .inr (.inl ow))))]) (w1 := [(x, .inr (0, [.ref a, .int (nI (n + 1)), .ref b, .int (nI k)])), (a, .inl (cA, (600, .inr (.inl ((vp_updL f n (tq_leaf v))))))), (b, .inl (cA, (40, .inr (.inl g))))]) hP hD [0, 1, 2] [3] rfl rfl (by decide) (by decide) hk1 hFc hP1 hD1
  generalize H1 = H at hP hS ⊢
  have hP : va_P (dC, dI) tq_cl [(ao, .inl (cA, (1, .inr (.inl ow)))), (x, .inr (0, [.ref a, .int (nI (n + 1)), .ref b, .int (nI k)])), (a, .inl (cA, (600, .inr (.inl ((vp_updL f n (tq_leaf v))))))), (b, .inl (cA, (40, .inr (.inl g))))] H := hP
  have hD : va_D A [(ao, .inl (cA, (1, .inr (.inl ow)))), (x, .inr (0, [.ref a, .int (nI (n + 1)), .ref b, .int (nI k)])), (a, .inl (cA, (600, .inr (.inl ((vp_updL f n (tq_leaf v))))))), (b, .inl (cA, (40, .inr (.inl g))))] := hD
  have hw : r9 = nI (n + 1) := hw
  subst hw
  refine lv_i2l (v := (nI (n + 1)).toInt64) hx hb qd_L_add_7 rfl ?_
  refine tq_last hx hb hK hP hD hS 0 0 rfl rfl (j := 0) (x := ((nI (n + 1)).toInt64)) (by omega) (by decide) qd_L_add_8 (fun H locs hP hD hS => ?_)
  have hP : va_P (dC, dI) tq_cl [(ao, .inl (cA, (1, .inr (.inl (vp_updL ow 0 ((nI (n + 1)).toInt64)))))), (x, .inr (0, [.ref a, .int (nI (n + 1)), .ref b, .int (nI k)])), (a, .inl (cA, (600, .inr (.inl ((vp_updL f n (tq_leaf v))))))), (b, .inl (cA, (40, .inr (.inl g))))] H := hP
  have hD : va_D A [(ao, .inl (cA, (1, .inr (.inl (vp_updL ow 0 ((nI (n + 1)).toInt64)))))), (x, .inr (0, [.ref a, .int (nI (n + 1)), .ref b, .int (nI k)])), (a, .inl (cA, (600, .inr (.inl ((vp_updL f n (tq_leaf v))))))), (b, .inl (cA, (40, .inr (.inl g))))] := hD
  refine lv_goto (tgt := 16) hx hb qd_L_add_9 (by decide) ?_
  refine lv_iconst (v := nI 0) hx hb qd_L_add_16 (by decide +kernel) ?_
  exact W.iret hx hb hr (fun t ht hW9 => ⟨⟨_, (), rfl, rfl, by rw [ht]; exact hP.sub [1, 2, 3, 0] rfl, va_K.moved hW9.alike hK, hD.sub [1, 2, 3, 0] (by decide) rfl⟩, hS.F ht⟩) hS.2.2 qd_L_add_17
set_option maxHeartbeats 4000000 in
set_option maxRecDepth 100000 in
/-- fill, through the law -/
theorem ct_L_fill (l : Launch) (dC : Nat → ClassId) (dI : Nat → Nat → Nat) (x a b : Nat) (cA : ClassId) (n k : Nat) (f g : Nat → Int64) (ao : Nat) (ow : Nat → Int64) (sz : Nat) (j : Nat) (v step : Int64) (h1 : 1 ≤ j) (h2 : j ≤ 200) (hn : n + j ≤ 600) : Met l qy_L_fill qw_L_fill ({ frames := 3, cells := 0, slots := 0, locals := 100 }) (va_Pc [.ref x, .int (nI j), .long v, .long step, .ref ao] (tq_rw (dC, dI) [(x, .inr (0, [.ref a, .int (nI n), .ref b, .int (nI k)])), (a, .inl (cA, (600, .inr (.inl f)))), (b, .inl (cA, (40, .inr (.inl g)))), (ao, .inl (cA, (1, .inr (.inl ow))))] [(cA, .long)] sz)) (va_Qi (fun r (_ : Unit) => r = nI 0) (fun _ t => tq_in (dC, dI) [(x, .inr (0, [.ref a, .int (nI (n + j)), .ref b, .int (nI k)])), (a, .inl (cA, (600, .inr (.inl ((tq_fl f n j (fun i => tq_leaf (tq_fv v step i)))))))), (b, .inl (cA, (40, .inr (.inl g)))), (ao, .inl (cA, (1, .inr (.inl ((vp_updL ow 0 (nI (n + j)).toInt64))))))] [(cA, .long)] (va_A [(x, .inr (0, [.ref a, .int (nI n), .ref b, .int (nI k)])), (a, .inl (cA, (600, .inr (.inl f)))), (b, .inl (cA, (40, .inr (.inl g)))), (ao, .inl (cA, (1, .inr (.inl ow))))] sz) t) (va_A [(x, .inr (0, [.ref a, .int (nI n), .ref b, .int (nI k)])), (a, .inl (cA, (600, .inr (.inl f)))), (b, .inl (cA, (40, .inr (.inl g)))), (ao, .inl (cA, (1, .inr (.inl ow))))] sz)) 0 0 (va_A [(x, .inr (0, [.ref a, .int (nI n), .ref b, .int (nI k)])), (a, .inl (cA, (600, .inr (.inl f)))), (b, .inl (cA, (40, .inr (.inl g)))), (ao, .inl (cA, (1, .inr (.inl ow))))] sz) := by
  refine va_MetW (hh := [(0, 13, 16, 19), (0, 13, 20, 13)]) (cc := qc_L_fill) (maxL := 8) (ret := (some .int)) (by decide) rfl ?_
  intro p e s m args below meth c s₁ B hml hv
  obtain ⟨rfl, hsz, hP, hK, hD0⟩ := hv
  have hx := B.exec
  have hb := B.bytes
  have hr := B.returns
  have hts := atoms_spec (ws := qw_L_fill) B.pre
  have hW : ∀ w ∈ tq_W, w.before ([.ref x, .int (nI j), .long v, .long step, .ref ao] : List Value).toArray s = true := fun w h => hts w (List.mem_cons_of_mem _ h)
  have hown : s.vm.findClass RL = some m.cls := findClass_of_methodNamed B.named
  have hlocks := B.notSynchronized
  have hl := lv_entry ([.ref x, .int (nI j), .long v, .long step, .ref ao]) (n := 8) (Nat.le_of_ble_eq_true rfl)
  rw [lg_entry_eq]
  generalize (lg_sl ([.ref x, .int (nI j), .long v, .long step, .ref ao]) ++ List.replicate (8 - (lg_sl ([.ref x, .int (nI j), .long v, .long step, .ref ao])).length) Slot.unset).toArray = ls at hl ⊢
  have hl : lv_has ls 8 [(0, .ref x), (1, .int (nI j)), (2, .long v), (4, .long step), (6, .ref ao)] := hl
  subst hsz
  have hD := hD0.self (sz := s.heap.size)
  generalize hAe : va_A [(x, .inr (0, [.ref a, .int (nI n), .ref b, .int (nI k)])), (a, .inl (cA, (600, .inr (.inl f)))), (b, .inl (cA, (40, .inr (.inl g)))), (ao, .inl (cA, (1, .inr (.inl ow))))] s.heap.size = A at hD ⊢
  have hA : ∀ q : Nat, s.heap.size ≤ q → A q := fun q h => by rw [← hAe]; exact Or.inr h
  have hS : va_S A s.heap s.heap [] := va_S.rf
  refine lv_aload hx hb qd_L_fill_0 (lv_at hl 4 rfl) ?_
  refine lv_iconst (v := nI 0) hx hb qd_L_fill_2 (by decide +kernel) ?_
  refine lv_aload_n hx hb qd_L_fill_3 rfl (lv_at hl 0 rfl) ?_
  refine lv_iload_n hx hb qd_L_fill_4 rfl (lv_at hl 1 rfl) ?_
  refine lv_lload_n hx hb qd_L_fill_5 rfl (lv_at hl 2 rfl) ?_
  refine lv_lload hx hb qd_L_fill_6 (lv_at hl 3 rfl) ?_
  have hPc := hP.sub (ws' := [(x, .inr (0, [.ref a, .int (nI n), .ref b, .int (nI k)])), (a, .inl (cA, (600, .inr (.inl f)))), (b, .inl (cA, (40, .inr (.inl g))))]) [0, 1, 2] rfl
  have hDc := hD.sub (ws' := [(x, .inr (0, [.ref a, .int (nI n), .ref b, .int (nI k)])), (a, .inl (cA, (600, .inr (.inl f)))), (b, .inl (cA, (40, .inr (.inl g))))]) [0, 1, 2] (by decide) rfl
  have hKc := hK.sub (tys' := [(cA, .long)]) [0] rfl
  have hFc := va_free (wc := [(x, .inr (0, [.ref a, .int (nI n), .ref b, .int (nI k)])), (a, .inl (cA, (600, .inr (.inl f)))), (b, .inl (cA, (40, .inr (.inl g))))]) hD hS hA [0, 1, 2] rfl
  refine va_calli (va_runV (As := [.int (nI j), .long v, .long step]) (rest := [.int (nI 0), .ref ao]) ⟨hx, hb, hml, hown, hW⟩ (ct_X_fill l dC dI x a b cA n k f g s.heap.size j v step h1 h2 hn) (cwV 3 hW (tq_gV qm_158 qm_159 qm_160 qm_1 qm_161) rfl rfl rfl (by decide +kernel) ⟨Nat.le_of_ble_eq_true rfl, Nat.le_of_ble_eq_true rfl⟩) ⟨tq_b2, va_recv hKc hPc (ci := 0) (q0 := 0) rfl rfl, fun U hU hW9 => ⟨rfl, by rw [hU], by rw [hU]; exact hPc, va_K.moved hW9.alike hKc, hDc.weaken (fun _ _ _ _ => trivial)⟩⟩ rfl rfl hl.1 rfl (lv_room (Nat.le_of_ble_eq_true rfl)) qd_L_fill_8 ⟨Nat.le_of_ble_eq_true rfl, Nat.le_of_ble_eq_true rfl⟩) hS (fun q _ h => hFc q h) hFc (fun r9 u t9 H1 locs ht9 hvm hw hB hz1 hk1 hS => ?_)
  obtain ⟨hP1, hK1, hD1⟩ := hB
  rw [ht9] at hP1
  obtain ⟨hP, hD⟩ := va_join (wr := [(ao, .inl (cA, (1, .inr (.inl ow))))]) (w1 := [(x, .inr (0, [.ref a, .int (nI (n + j)), .ref b, .int (nI k)])), (a, .inl (cA, (600, .inr (.inl ((tq_fl f n j (fun i => tq_leaf (tq_fv v step i)))))))), (b, .inl (cA, (40, .inr (.inl g))))]) hP hD [0, 1, 2] [3] rfl rfl (by decide) (by decide) hk1 hFc hP1 hD1
  generalize H1 = H at hP hS ⊢
  have hP : va_P (dC, dI) tq_cl [(ao, .inl (cA, (1, .inr (.inl ow)))), (x, .inr (0, [.ref a, .int (nI (n + j)), .ref b, .int (nI k)])), (a, .inl (cA, (600, .inr (.inl ((tq_fl f n j (fun i => tq_leaf (tq_fv v step i)))))))), (b, .inl (cA, (40, .inr (.inl g))))] H := hP
  have hD : va_D A [(ao, .inl (cA, (1, .inr (.inl ow)))), (x, .inr (0, [.ref a, .int (nI (n + j)), .ref b, .int (nI k)])), (a, .inl (cA, (600, .inr (.inl ((tq_fl f n j (fun i => tq_leaf (tq_fv v step i)))))))), (b, .inl (cA, (40, .inr (.inl g))))] := hD
  have hw : r9 = nI (n + j) := hw
  subst hw
  refine lv_i2l (v := (nI (n + j)).toInt64) hx hb qd_L_fill_11 rfl ?_
  refine tq_last hx hb hK hP hD hS 0 0 rfl rfl (j := 0) (x := ((nI (n + j)).toInt64)) (by omega) (by decide) qd_L_fill_12 (fun H locs hP hD hS => ?_)
  have hP : va_P (dC, dI) tq_cl [(ao, .inl (cA, (1, .inr (.inl (vp_updL ow 0 ((nI (n + j)).toInt64)))))), (x, .inr (0, [.ref a, .int (nI (n + j)), .ref b, .int (nI k)])), (a, .inl (cA, (600, .inr (.inl ((tq_fl f n j (fun i => tq_leaf (tq_fv v step i)))))))), (b, .inl (cA, (40, .inr (.inl g))))] H := hP
  have hD : va_D A [(ao, .inl (cA, (1, .inr (.inl (vp_updL ow 0 ((nI (n + j)).toInt64)))))), (x, .inr (0, [.ref a, .int (nI (n + j)), .ref b, .int (nI k)])), (a, .inl (cA, (600, .inr (.inl ((tq_fl f n j (fun i => tq_leaf (tq_fv v step i)))))))), (b, .inl (cA, (40, .inr (.inl g))))] := hD
  refine lv_goto (tgt := 24) hx hb qd_L_fill_13 (by decide) ?_
  refine lv_iconst (v := nI 0) hx hb qd_L_fill_24 (by decide +kernel) ?_
  exact W.iret hx hb hr (fun t ht hW9 => ⟨⟨_, (), rfl, rfl, by rw [ht]; exact hP.sub [1, 2, 3, 0] rfl, va_K.moved hW9.alike hK, hD.sub [1, 2, 3, 0] (by decide) rfl⟩, hS.F ht⟩) hS.2.2 qd_L_fill_25
set_option maxHeartbeats 4000000 in
set_option maxRecDepth 100000 in
/-- cut, through the law -/
theorem ct_L_cut (l : Launch) (dC : Nat → ClassId) (dI : Nat → Nat → Nat) (x a b : Nat) (cA : ClassId) (n k : Nat) (f g : Nat → Int64) (ao : Nat) (ow : Nat → Int64) (sz : Nat) (j : Nat) (hj : j ≤ n) (hn : n ≤ 600) : Met l qy_L_cut qw_L_cut ({ frames := 1, cells := 0, slots := 0, locals := 40 }) (va_Pc [.ref x, .int (nI j), .ref ao] (tq_rw (dC, dI) [(x, .inr (0, [.ref a, .int (nI n), .ref b, .int (nI k)])), (a, .inl (cA, (600, .inr (.inl f)))), (b, .inl (cA, (40, .inr (.inl g)))), (ao, .inl (cA, (1, .inr (.inl ow))))] [(cA, .long)] sz)) (va_Qi (fun r (_ : Unit) => r = nI 0) (fun _ t => tq_in (dC, dI) [(x, .inr (0, [.ref a, .int (nI j), .ref b, .int (nI k)])), (a, .inl (cA, (600, .inr (.inl f)))), (b, .inl (cA, (40, .inr (.inl g)))), (ao, .inl (cA, (1, .inr (.inl ((vp_updL ow 0 (nI (n - j)).toInt64))))))] [(cA, .long)] (va_A [(x, .inr (0, [.ref a, .int (nI n), .ref b, .int (nI k)])), (a, .inl (cA, (600, .inr (.inl f)))), (b, .inl (cA, (40, .inr (.inl g)))), (ao, .inl (cA, (1, .inr (.inl ow))))] sz) t) (va_A [(x, .inr (0, [.ref a, .int (nI n), .ref b, .int (nI k)])), (a, .inl (cA, (600, .inr (.inl f)))), (b, .inl (cA, (40, .inr (.inl g)))), (ao, .inl (cA, (1, .inr (.inl ow))))] sz)) 0 0 (va_A [(x, .inr (0, [.ref a, .int (nI n), .ref b, .int (nI k)])), (a, .inl (cA, (600, .inr (.inl f)))), (b, .inl (cA, (40, .inr (.inl g)))), (ao, .inl (cA, (1, .inr (.inl ow))))] sz) := by
  refine va_MetW (hh := [(0, 9, 12, 19)]) (cc := qc_L_cut) (maxL := 4) (ret := (some .int)) (by decide) rfl ?_
  intro p e s m args below meth c s₁ B hml hv
  obtain ⟨rfl, hsz, hP, hK, hD0⟩ := hv
  have hx := B.exec
  have hb := B.bytes
  have hr := B.returns
  have hts := atoms_spec (ws := qw_L_cut) B.pre
  have hW : ∀ w ∈ tq_W, w.before ([.ref x, .int (nI j), .ref ao] : List Value).toArray s = true := fun w h => hts w (List.mem_cons_of_mem _ h)
  have hown : s.vm.findClass RL = some m.cls := findClass_of_methodNamed B.named
  have hlocks := B.notSynchronized
  have hl := lv_entry ([.ref x, .int (nI j), .ref ao]) (n := 4) (Nat.le_of_ble_eq_true rfl)
  rw [lg_entry_eq]
  generalize (lg_sl ([.ref x, .int (nI j), .ref ao]) ++ List.replicate (4 - (lg_sl ([.ref x, .int (nI j), .ref ao])).length) Slot.unset).toArray = ls at hl ⊢
  have hl : lv_has ls 4 [(0, .ref x), (1, .int (nI j)), (2, .ref ao)] := hl
  subst hsz
  have hD := hD0.self (sz := s.heap.size)
  generalize hAe : va_A [(x, .inr (0, [.ref a, .int (nI n), .ref b, .int (nI k)])), (a, .inl (cA, (600, .inr (.inl f)))), (b, .inl (cA, (40, .inr (.inl g)))), (ao, .inl (cA, (1, .inr (.inl ow))))] s.heap.size = A at hD ⊢
  have hA : ∀ q : Nat, s.heap.size ≤ q → A q := fun q h => by rw [← hAe]; exact Or.inr h
  have hS : va_S A s.heap s.heap [] := va_S.rf
  refine lv_aload_n hx hb qd_L_cut_0 rfl (lv_at hl 2 rfl) ?_
  refine lv_iconst (v := nI 0) hx hb qd_L_cut_1 (by decide +kernel) ?_
  refine lv_aload_n hx hb qd_L_cut_2 rfl (lv_at hl 0 rfl) ?_
  refine lv_iload_n hx hb qd_L_cut_3 rfl (lv_at hl 1 rfl) ?_
  have hPc := hP.sub (ws' := [(x, .inr (0, [.ref a, .int (nI n), .ref b, .int (nI k)])), (a, .inl (cA, (600, .inr (.inl f)))), (b, .inl (cA, (40, .inr (.inl g))))]) [0, 1, 2] rfl
  have hDc := hD.sub (ws' := [(x, .inr (0, [.ref a, .int (nI n), .ref b, .int (nI k)])), (a, .inl (cA, (600, .inr (.inl f)))), (b, .inl (cA, (40, .inr (.inl g))))]) [0, 1, 2] (by decide) rfl
  have hKc := hK.sub (tys' := [(cA, .long)]) [0] rfl
  have hFc := va_free (wc := [(x, .inr (0, [.ref a, .int (nI n), .ref b, .int (nI k)])), (a, .inl (cA, (600, .inr (.inl f)))), (b, .inl (cA, (40, .inr (.inl g))))]) hD hS hA [0, 1, 2] rfl
  refine va_calli (va_runV (As := [.int (nI j)]) (rest := [.int (nI 0), .ref ao]) ⟨hx, hb, hml, hown, hW⟩ (ct_X_cut l dC dI x a b cA n k f g s.heap.size j hj hn) (cwV 1 hW (tq_gV qm_180 qm_181 qm_182 qm_1 qm_183) rfl rfl rfl (by decide +kernel) ⟨Nat.le_of_ble_eq_true rfl, Nat.le_of_ble_eq_true rfl⟩) ⟨tq_b2, va_recv hKc hPc (ci := 0) (q0 := 0) rfl rfl, fun U hU hW9 => ⟨rfl, by rw [hU], by rw [hU]; exact hPc, va_K.moved hW9.alike hKc, hDc.weaken (fun _ _ _ _ => trivial)⟩⟩ rfl rfl hl.1 rfl (lv_room (Nat.le_of_ble_eq_true rfl)) qd_L_cut_4 ⟨Nat.le_of_ble_eq_true rfl, Nat.le_of_ble_eq_true rfl⟩) hS (fun q _ h => hFc q h) hFc (fun r9 u t9 H1 locs ht9 hvm hw hB hz1 hk1 hS => ?_)
  obtain ⟨hP1, hK1, hD1⟩ := hB
  rw [ht9] at hP1
  obtain ⟨hP, hD⟩ := va_join (wr := [(ao, .inl (cA, (1, .inr (.inl ow))))]) (w1 := [(x, .inr (0, [.ref a, .int (nI j), .ref b, .int (nI k)])), (a, .inl (cA, (600, .inr (.inl f)))), (b, .inl (cA, (40, .inr (.inl g))))]) hP hD [0, 1, 2] [3] rfl rfl (by decide) (by decide) hk1 hFc hP1 hD1
  generalize H1 = H at hP hS ⊢
  have hP : va_P (dC, dI) tq_cl [(ao, .inl (cA, (1, .inr (.inl ow)))), (x, .inr (0, [.ref a, .int (nI j), .ref b, .int (nI k)])), (a, .inl (cA, (600, .inr (.inl f)))), (b, .inl (cA, (40, .inr (.inl g))))] H := hP
  have hD : va_D A [(ao, .inl (cA, (1, .inr (.inl ow)))), (x, .inr (0, [.ref a, .int (nI j), .ref b, .int (nI k)])), (a, .inl (cA, (600, .inr (.inl f)))), (b, .inl (cA, (40, .inr (.inl g))))] := hD
  have hw : r9 = nI (n - j) := hw
  subst hw
  refine lv_i2l (v := (nI (n - j)).toInt64) hx hb qd_L_cut_7 rfl ?_
  refine tq_last hx hb hK hP hD hS 0 0 rfl rfl (j := 0) (x := ((nI (n - j)).toInt64)) (by omega) (by decide) qd_L_cut_8 (fun H locs hP hD hS => ?_)
  have hP : va_P (dC, dI) tq_cl [(ao, .inl (cA, (1, .inr (.inl (vp_updL ow 0 ((nI (n - j)).toInt64)))))), (x, .inr (0, [.ref a, .int (nI j), .ref b, .int (nI k)])), (a, .inl (cA, (600, .inr (.inl f)))), (b, .inl (cA, (40, .inr (.inl g))))] H := hP
  have hD : va_D A [(ao, .inl (cA, (1, .inr (.inl (vp_updL ow 0 ((nI (n - j)).toInt64)))))), (x, .inr (0, [.ref a, .int (nI j), .ref b, .int (nI k)])), (a, .inl (cA, (600, .inr (.inl f)))), (b, .inl (cA, (40, .inr (.inl g))))] := hD
  refine lv_goto (tgt := 15) hx hb qd_L_cut_9 (by decide) ?_
  refine lv_iconst (v := nI 0) hx hb qd_L_cut_15 (by decide +kernel) ?_
  exact W.iret hx hb hr (fun t ht hW9 => ⟨⟨_, (), rfl, rfl, by rw [ht]; exact hP.sub [1, 2, 3, 0] rfl, va_K.moved hW9.alike hK, hD.sub [1, 2, 3, 0] (by decide) rfl⟩, hS.F ht⟩) hS.2.2 qd_L_cut_16
set_option maxHeartbeats 4000000 in
set_option maxRecDepth 100000 in
/-- alter, through the law -/
theorem ct_L_alter (l : Launch) (dC : Nat → ClassId) (dI : Nat → Nat → Nat) (x a b : Nat) (cA : ClassId) (n k : Nat) (f g : Nat → Int64) (ao : Nat) (ow : Nat → Int64) (sz : Nat) (j : Nat) (v : Int64) (hj : j < k) (hk : k ≤ 40) : Met l qy_L_alter qw_L_alter ({ frames := 1, cells := 0, slots := 0, locals := 40 }) (va_Pc [.ref x, .int (nI j), .long v, .ref ao] (tq_rw (dC, dI) [(x, .inr (0, [.ref a, .int (nI n), .ref b, .int (nI k)])), (a, .inl (cA, (600, .inr (.inl f)))), (b, .inl (cA, (40, .inr (.inl g)))), (ao, .inl (cA, (1, .inr (.inl ow))))] [(cA, .long)] sz)) (va_Qi (fun r (_ : Unit) => r = nI 0) (fun _ t => tq_in (dC, dI) [(x, .inr (0, [.ref a, .int (nI n), .ref b, .int (nI k)])), (a, .inl (cA, (600, .inr (.inl f)))), (b, .inl (cA, (40, .inr (.inl ((vp_updL g j v)))))), (ao, .inl (cA, (1, .inr (.inl ((vp_updL ow 0 (g j)))))))] [(cA, .long)] (va_A [(x, .inr (0, [.ref a, .int (nI n), .ref b, .int (nI k)])), (a, .inl (cA, (600, .inr (.inl f)))), (b, .inl (cA, (40, .inr (.inl g)))), (ao, .inl (cA, (1, .inr (.inl ow))))] sz) t) (va_A [(x, .inr (0, [.ref a, .int (nI n), .ref b, .int (nI k)])), (a, .inl (cA, (600, .inr (.inl f)))), (b, .inl (cA, (40, .inr (.inl g)))), (ao, .inl (cA, (1, .inr (.inl ow))))] sz)) 0 0 (va_A [(x, .inr (0, [.ref a, .int (nI n), .ref b, .int (nI k)])), (a, .inl (cA, (600, .inr (.inl f)))), (b, .inl (cA, (40, .inr (.inl g)))), (ao, .inl (cA, (1, .inr (.inl ow))))] sz) := by
  refine va_MetW (hh := [(0, 10, 13, 45)]) (cc := qc_L_alter) (maxL := 6) (ret := (some .int)) (by decide) rfl ?_
  intro p e s m args below meth c s₁ B hml hv
  obtain ⟨rfl, hsz, hP, hK, hD0⟩ := hv
  have hx := B.exec
  have hb := B.bytes
  have hr := B.returns
  have hts := atoms_spec (ws := qw_L_alter) B.pre
  have hW : ∀ w ∈ tq_W, w.before ([.ref x, .int (nI j), .long v, .ref ao] : List Value).toArray s = true := fun w h => hts w (List.mem_cons_of_mem _ h)
  have hown : s.vm.findClass RL = some m.cls := findClass_of_methodNamed B.named
  have hlocks := B.notSynchronized
  have hl := lv_entry ([.ref x, .int (nI j), .long v, .ref ao]) (n := 6) (Nat.le_of_ble_eq_true rfl)
  rw [lg_entry_eq]
  generalize (lg_sl ([.ref x, .int (nI j), .long v, .ref ao]) ++ List.replicate (6 - (lg_sl ([.ref x, .int (nI j), .long v, .ref ao])).length) Slot.unset).toArray = ls at hl ⊢
  have hl : lv_has ls 6 [(0, .ref x), (1, .int (nI j)), (2, .long v), (4, .ref ao)] := hl
  subst hsz
  have hD := hD0.self (sz := s.heap.size)
  generalize hAe : va_A [(x, .inr (0, [.ref a, .int (nI n), .ref b, .int (nI k)])), (a, .inl (cA, (600, .inr (.inl f)))), (b, .inl (cA, (40, .inr (.inl g)))), (ao, .inl (cA, (1, .inr (.inl ow))))] s.heap.size = A at hD ⊢
  have hA : ∀ q : Nat, s.heap.size ≤ q → A q := fun q h => by rw [← hAe]; exact Or.inr h
  have hS : va_S A s.heap s.heap [] := va_S.rf
  refine lv_aload hx hb qd_L_alter_0 (lv_at hl 3 rfl) ?_
  refine lv_iconst (v := nI 0) hx hb qd_L_alter_2 (by decide +kernel) ?_
  refine lv_aload_n hx hb qd_L_alter_3 rfl (lv_at hl 0 rfl) ?_
  refine lv_iload_n hx hb qd_L_alter_4 rfl (lv_at hl 1 rfl) ?_
  refine lv_lload_n hx hb qd_L_alter_5 rfl (lv_at hl 2 rfl) ?_
  have hPc := hP.sub (ws' := [(x, .inr (0, [.ref a, .int (nI n), .ref b, .int (nI k)])), (a, .inl (cA, (600, .inr (.inl f)))), (b, .inl (cA, (40, .inr (.inl g))))]) [0, 1, 2] rfl
  have hDc := hD.sub (ws' := [(x, .inr (0, [.ref a, .int (nI n), .ref b, .int (nI k)])), (a, .inl (cA, (600, .inr (.inl f)))), (b, .inl (cA, (40, .inr (.inl g))))]) [0, 1, 2] (by decide) rfl
  have hKc := hK.sub (tys' := [(cA, .long)]) [0] rfl
  have hFc := va_free (wc := [(x, .inr (0, [.ref a, .int (nI n), .ref b, .int (nI k)])), (a, .inl (cA, (600, .inr (.inl f)))), (b, .inl (cA, (40, .inr (.inl g))))]) hD hS hA [0, 1, 2] rfl
  refine va_calll (va_runV (As := [.int (nI j), .long v]) (rest := [.int (nI 0), .ref ao]) ⟨hx, hb, hml, hown, hW⟩ (ct_X_alter l dC dI x a b cA n k f g s.heap.size j v hj hk) (cwV 2 hW (tq_gV qm_257 qm_258 qm_259 qm_1 qm_260) rfl rfl rfl (by decide +kernel) ⟨Nat.le_of_ble_eq_true rfl, Nat.le_of_ble_eq_true rfl⟩) ⟨tq_b2, va_recv hKc hPc (ci := 0) (q0 := 0) rfl rfl, fun U hU hW9 => ⟨rfl, by rw [hU], by rw [hU]; exact hPc, va_K.moved hW9.alike hKc, hDc.weaken (fun _ _ _ _ => trivial)⟩⟩ rfl rfl hl.1 rfl (lv_room (Nat.le_of_ble_eq_true rfl)) qd_L_alter_6 ⟨Nat.le_of_ble_eq_true rfl, Nat.le_of_ble_eq_true rfl⟩) hS (fun q _ h => hFc q h) hFc (fun r9 u t9 H1 locs ht9 hvm hw hB hz1 hk1 hS => ?_)
  obtain ⟨hP1, hK1, hD1⟩ := hB
  rw [ht9] at hP1
  obtain ⟨hP, hD⟩ := va_join (wr := [(ao, .inl (cA, (1, .inr (.inl ow))))]) (w1 := [(x, .inr (0, [.ref a, .int (nI n), .ref b, .int (nI k)])), (a, .inl (cA, (600, .inr (.inl f)))), (b, .inl (cA, (40, .inr (.inl ((vp_updL g j v))))))]) hP hD [0, 1, 2] [3] rfl rfl (by decide) (by decide) hk1 hFc hP1 hD1
  generalize H1 = H at hP hS ⊢
  have hP : va_P (dC, dI) tq_cl [(ao, .inl (cA, (1, .inr (.inl ow)))), (x, .inr (0, [.ref a, .int (nI n), .ref b, .int (nI k)])), (a, .inl (cA, (600, .inr (.inl f)))), (b, .inl (cA, (40, .inr (.inl ((vp_updL g j v))))))] H := hP
  have hD : va_D A [(ao, .inl (cA, (1, .inr (.inl ow)))), (x, .inr (0, [.ref a, .int (nI n), .ref b, .int (nI k)])), (a, .inl (cA, (600, .inr (.inl f)))), (b, .inl (cA, (40, .inr (.inl ((vp_updL g j v))))))] := hD
  have hw : r9 = g j := hw
  subst hw
  refine tq_last hx hb hK hP hD hS 0 0 rfl rfl (j := 0) (x := (g j)) (by omega) (by decide) qd_L_alter_9 (fun H locs hP hD hS => ?_)
  have hP : va_P (dC, dI) tq_cl [(ao, .inl (cA, (1, .inr (.inl (vp_updL ow 0 (g j)))))), (x, .inr (0, [.ref a, .int (nI n), .ref b, .int (nI k)])), (a, .inl (cA, (600, .inr (.inl f)))), (b, .inl (cA, (40, .inr (.inl ((vp_updL g j v))))))] H := hP
  have hD : va_D A [(ao, .inl (cA, (1, .inr (.inl (vp_updL ow 0 (g j)))))), (x, .inr (0, [.ref a, .int (nI n), .ref b, .int (nI k)])), (a, .inl (cA, (600, .inr (.inl f)))), (b, .inl (cA, (40, .inr (.inl ((vp_updL g j v))))))] := hD
  refine lv_goto (tgt := 17) hx hb qd_L_alter_10 (by decide) ?_
  refine lv_iconst (v := nI 0) hx hb qd_L_alter_17 (by decide +kernel) ?_
  exact W.iret hx hb hr (fun t ht hW9 => ⟨⟨_, (), rfl, rfl, by rw [ht]; exact hP.sub [1, 2, 3, 0] rfl, va_K.moved hW9.alike hK, hD.sub [1, 2, 3, 0] (by decide) rfl⟩, hS.F ht⟩) hS.2.2 qd_L_alter_18
set_option maxHeartbeats 4000000 in
set_option maxRecDepth 100000 in
/-- length, through the law -/
theorem ct_L_length (l : Launch) (dC : Nat → ClassId) (dI : Nat → Nat → Nat) (x a b : Nat) (cA : ClassId) (n k : Nat) (f g : Nat → Int64) (ao : Nat) (ow : Nat → Int64) (sz : Nat) (j : Nat) (hj : j ≤ 40) (hk : k ≤ 40) : Met l qy_L_length qw_L_length ({ frames := 1, cells := 0, slots := 0, locals := 40 }) (va_Pc [.ref x, .int (nI j), .ref ao] (tq_rw (dC, dI) [(x, .inr (0, [.ref a, .int (nI n), .ref b, .int (nI k)])), (a, .inl (cA, (600, .inr (.inl f)))), (b, .inl (cA, (40, .inr (.inl g)))), (ao, .inl (cA, (1, .inr (.inl ow))))] [(cA, .long)] sz)) (va_Qi (fun r (_ : Unit) => r = nI 0) (fun _ t => tq_in (dC, dI) [(x, .inr (0, [.ref a, .int (nI n), .ref b, .int (nI j)])), (a, .inl (cA, (600, .inr (.inl f)))), (b, .inl (cA, (40, .inr (.inl ((tq_fl g k (j - k) (fun _ => 0))))))), (ao, .inl (cA, (1, .inr (.inl ((vp_updL ow 0 (nI k).toInt64))))))] [(cA, .long)] (va_A [(x, .inr (0, [.ref a, .int (nI n), .ref b, .int (nI k)])), (a, .inl (cA, (600, .inr (.inl f)))), (b, .inl (cA, (40, .inr (.inl g)))), (ao, .inl (cA, (1, .inr (.inl ow))))] sz) t) (va_A [(x, .inr (0, [.ref a, .int (nI n), .ref b, .int (nI k)])), (a, .inl (cA, (600, .inr (.inl f)))), (b, .inl (cA, (40, .inr (.inl g)))), (ao, .inl (cA, (1, .inr (.inl ow))))] sz)) 0 0 (va_A [(x, .inr (0, [.ref a, .int (nI n), .ref b, .int (nI k)])), (a, .inl (cA, (600, .inr (.inl f)))), (b, .inl (cA, (40, .inr (.inl g)))), (ao, .inl (cA, (1, .inr (.inl ow))))] sz) := by
  refine va_MetW (hh := [(0, 9, 12, 19)]) (cc := qc_L_length) (maxL := 4) (ret := (some .int)) (by decide) rfl ?_
  intro p e s m args below meth c s₁ B hml hv
  obtain ⟨rfl, hsz, hP, hK, hD0⟩ := hv
  have hx := B.exec
  have hb := B.bytes
  have hr := B.returns
  have hts := atoms_spec (ws := qw_L_length) B.pre
  have hW : ∀ w ∈ tq_W, w.before ([.ref x, .int (nI j), .ref ao] : List Value).toArray s = true := fun w h => hts w (List.mem_cons_of_mem _ h)
  have hown : s.vm.findClass RL = some m.cls := findClass_of_methodNamed B.named
  have hlocks := B.notSynchronized
  have hl := lv_entry ([.ref x, .int (nI j), .ref ao]) (n := 4) (Nat.le_of_ble_eq_true rfl)
  rw [lg_entry_eq]
  generalize (lg_sl ([.ref x, .int (nI j), .ref ao]) ++ List.replicate (4 - (lg_sl ([.ref x, .int (nI j), .ref ao])).length) Slot.unset).toArray = ls at hl ⊢
  have hl : lv_has ls 4 [(0, .ref x), (1, .int (nI j)), (2, .ref ao)] := hl
  subst hsz
  have hD := hD0.self (sz := s.heap.size)
  generalize hAe : va_A [(x, .inr (0, [.ref a, .int (nI n), .ref b, .int (nI k)])), (a, .inl (cA, (600, .inr (.inl f)))), (b, .inl (cA, (40, .inr (.inl g)))), (ao, .inl (cA, (1, .inr (.inl ow))))] s.heap.size = A at hD ⊢
  have hA : ∀ q : Nat, s.heap.size ≤ q → A q := fun q h => by rw [← hAe]; exact Or.inr h
  have hS : va_S A s.heap s.heap [] := va_S.rf
  refine lv_aload_n hx hb qd_L_length_0 rfl (lv_at hl 2 rfl) ?_
  refine lv_iconst (v := nI 0) hx hb qd_L_length_1 (by decide +kernel) ?_
  refine lv_aload_n hx hb qd_L_length_2 rfl (lv_at hl 0 rfl) ?_
  refine lv_iload_n hx hb qd_L_length_3 rfl (lv_at hl 1 rfl) ?_
  have hPc := hP.sub (ws' := [(x, .inr (0, [.ref a, .int (nI n), .ref b, .int (nI k)])), (a, .inl (cA, (600, .inr (.inl f)))), (b, .inl (cA, (40, .inr (.inl g))))]) [0, 1, 2] rfl
  have hDc := hD.sub (ws' := [(x, .inr (0, [.ref a, .int (nI n), .ref b, .int (nI k)])), (a, .inl (cA, (600, .inr (.inl f)))), (b, .inl (cA, (40, .inr (.inl g))))]) [0, 1, 2] (by decide) rfl
  have hKc := hK.sub (tys' := [(cA, .long)]) [0] rfl
  have hFc := va_free (wc := [(x, .inr (0, [.ref a, .int (nI n), .ref b, .int (nI k)])), (a, .inl (cA, (600, .inr (.inl f)))), (b, .inl (cA, (40, .inr (.inl g))))]) hD hS hA [0, 1, 2] rfl
  refine va_calli (va_runV (As := [.int (nI j)]) (rest := [.int (nI 0), .ref ao]) ⟨hx, hb, hml, hown, hW⟩ (ct_X_length l dC dI x a b cA n k f g s.heap.size j hj hk) (cwV 1 hW (tq_gV qm_264 qm_265 qm_266 qm_1 qm_267) rfl rfl rfl (by decide +kernel) ⟨Nat.le_of_ble_eq_true rfl, Nat.le_of_ble_eq_true rfl⟩) ⟨tq_b2, va_recv hKc hPc (ci := 0) (q0 := 0) rfl rfl, fun U hU hW9 => ⟨rfl, by rw [hU], by rw [hU]; exact hPc, va_K.moved hW9.alike hKc, hDc.weaken (fun _ _ _ _ => trivial)⟩⟩ rfl rfl hl.1 rfl (lv_room (Nat.le_of_ble_eq_true rfl)) qd_L_length_4 ⟨Nat.le_of_ble_eq_true rfl, Nat.le_of_ble_eq_true rfl⟩) hS (fun q _ h => hFc q h) hFc (fun r9 u t9 H1 locs ht9 hvm hw hB hz1 hk1 hS => ?_)
  obtain ⟨hP1, hK1, hD1⟩ := hB
  rw [ht9] at hP1
  obtain ⟨hP, hD⟩ := va_join (wr := [(ao, .inl (cA, (1, .inr (.inl ow))))]) (w1 := [(x, .inr (0, [.ref a, .int (nI n), .ref b, .int (nI j)])), (a, .inl (cA, (600, .inr (.inl f)))), (b, .inl (cA, (40, .inr (.inl ((tq_fl g k (j - k) (fun _ => 0)))))))]) hP hD [0, 1, 2] [3] rfl rfl (by decide) (by decide) hk1 hFc hP1 hD1
  generalize H1 = H at hP hS ⊢
  have hP : va_P (dC, dI) tq_cl [(ao, .inl (cA, (1, .inr (.inl ow)))), (x, .inr (0, [.ref a, .int (nI n), .ref b, .int (nI j)])), (a, .inl (cA, (600, .inr (.inl f)))), (b, .inl (cA, (40, .inr (.inl ((tq_fl g k (j - k) (fun _ => 0)))))))] H := hP
  have hD : va_D A [(ao, .inl (cA, (1, .inr (.inl ow)))), (x, .inr (0, [.ref a, .int (nI n), .ref b, .int (nI j)])), (a, .inl (cA, (600, .inr (.inl f)))), (b, .inl (cA, (40, .inr (.inl ((tq_fl g k (j - k) (fun _ => 0)))))))] := hD
  have hw : r9 = nI k := hw
  subst hw
  refine lv_i2l (v := (nI k).toInt64) hx hb qd_L_length_7 rfl ?_
  refine tq_last hx hb hK hP hD hS 0 0 rfl rfl (j := 0) (x := ((nI k).toInt64)) (by omega) (by decide) qd_L_length_8 (fun H locs hP hD hS => ?_)
  have hP : va_P (dC, dI) tq_cl [(ao, .inl (cA, (1, .inr (.inl (vp_updL ow 0 ((nI k).toInt64)))))), (x, .inr (0, [.ref a, .int (nI n), .ref b, .int (nI j)])), (a, .inl (cA, (600, .inr (.inl f)))), (b, .inl (cA, (40, .inr (.inl ((tq_fl g k (j - k) (fun _ => 0)))))))] H := hP
  have hD : va_D A [(ao, .inl (cA, (1, .inr (.inl (vp_updL ow 0 ((nI k).toInt64)))))), (x, .inr (0, [.ref a, .int (nI n), .ref b, .int (nI j)])), (a, .inl (cA, (600, .inr (.inl f)))), (b, .inl (cA, (40, .inr (.inl ((tq_fl g k (j - k) (fun _ => 0)))))))] := hD
  refine lv_goto (tgt := 15) hx hb qd_L_length_9 (by decide) ?_
  refine lv_iconst (v := nI 0) hx hb qd_L_length_15 (by decide +kernel) ?_
  exact W.iret hx hb hr (fun t ht hW9 => ⟨⟨_, (), rfl, rfl, by rw [ht]; exact hP.sub [1, 2, 3, 0] rfl, va_K.moved hW9.alike hK, hD.sub [1, 2, 3, 0] (by decide) rfl⟩, hS.F ht⟩) hS.2.2 qd_L_length_16
set_option maxHeartbeats 4000000 in
set_option maxRecDepth 100000 in
/-- path, through the law -/
theorem ct_L_path (l : Launch) (dC : Nat → ClassId) (dI : Nat → Nat → Nat) (x a b : Nat) (cA : ClassId) (n k : Nat) (f g : Nat → Int64) (ao : Nat) (ow : Nat → Int64) (sz : Nat) (mm j : Nat) (h1 : mm < j) (hj : j ≤ n) (hn : n ≤ 600) : Met l qy_L_path qw_L_path ({ frames := 14, cells := 0, slots := 0, locals := 360 }) (va_Pc [.ref x, .int (nI mm), .int (nI j), .ref ao] (tq_rw (dC, dI) [(x, .inr (0, [.ref a, .int (nI n), .ref b, .int (nI k)])), (a, .inl (cA, (600, .inr (.inl f)))), (b, .inl (cA, (40, .inr (.inl g)))), (ao, .inl (cA, (1, .inr (.inl ow))))] [(cA, .long)] sz)) (va_Qi (fun r (u : Nat → Int64) => r = nI 0 ∧ ∀ q, q < (tq_pt f 0 mm j).length → u q = (tq_pt f 0 mm j).getD q 0) (fun u t => tq_in (dC, dI) [(x, .inr (0, [.ref a, .int (nI n), .ref b, .int (nI (tq_pl mm j))])), (a, .inl (cA, (600, .inr (.inl f)))), (b, .inl (cA, (40, .inr (.inl u)))), (ao, .inl (cA, (1, .inr (.inl ((vp_updL ow 0 (nI (tq_pl mm j)).toInt64))))))] [(cA, .long)] (va_A [(x, .inr (0, [.ref a, .int (nI n), .ref b, .int (nI k)])), (a, .inl (cA, (600, .inr (.inl f)))), (b, .inl (cA, (40, .inr (.inl g)))), (ao, .inl (cA, (1, .inr (.inl ow))))] sz) t) (va_A [(x, .inr (0, [.ref a, .int (nI n), .ref b, .int (nI k)])), (a, .inl (cA, (600, .inr (.inl f)))), (b, .inl (cA, (40, .inr (.inl g)))), (ao, .inl (cA, (1, .inr (.inl ow))))] sz)) 0 0 (va_A [(x, .inr (0, [.ref a, .int (nI n), .ref b, .int (nI k)])), (a, .inl (cA, (600, .inr (.inl f)))), (b, .inl (cA, (40, .inr (.inl g)))), (ao, .inl (cA, (1, .inr (.inl ow))))] sz) := by
  refine va_MetW (hh := [(0, 10, 13, 29)]) (cc := qc_L_path) (maxL := 5) (ret := (some .int)) (by decide) rfl ?_
  intro p e s m args below meth c s₁ B hml hv
  obtain ⟨rfl, hsz, hP, hK, hD0⟩ := hv
  have hx := B.exec
  have hb := B.bytes
  have hr := B.returns
  have hts := atoms_spec (ws := qw_L_path) B.pre
  have hW : ∀ w ∈ tq_W, w.before ([.ref x, .int (nI mm), .int (nI j), .ref ao] : List Value).toArray s = true := fun w h => hts w (List.mem_cons_of_mem _ h)
  have hown : s.vm.findClass RL = some m.cls := findClass_of_methodNamed B.named
  have hlocks := B.notSynchronized
  have hl := lv_entry ([.ref x, .int (nI mm), .int (nI j), .ref ao]) (n := 5) (Nat.le_of_ble_eq_true rfl)
  rw [lg_entry_eq]
  generalize (lg_sl ([.ref x, .int (nI mm), .int (nI j), .ref ao]) ++ List.replicate (5 - (lg_sl ([.ref x, .int (nI mm), .int (nI j), .ref ao])).length) Slot.unset).toArray = ls at hl ⊢
  have hl : lv_has ls 5 [(0, .ref x), (1, .int (nI mm)), (2, .int (nI j)), (3, .ref ao)] := hl
  subst hsz
  have hD := hD0.self (sz := s.heap.size)
  generalize hAe : va_A [(x, .inr (0, [.ref a, .int (nI n), .ref b, .int (nI k)])), (a, .inl (cA, (600, .inr (.inl f)))), (b, .inl (cA, (40, .inr (.inl g)))), (ao, .inl (cA, (1, .inr (.inl ow))))] s.heap.size = A at hD ⊢
  have hA : ∀ q : Nat, s.heap.size ≤ q → A q := fun q h => by rw [← hAe]; exact Or.inr h
  have hS : va_S A s.heap s.heap [] := va_S.rf
  refine lv_aload_n hx hb qd_L_path_0 rfl (lv_at hl 3 rfl) ?_
  refine lv_iconst (v := nI 0) hx hb qd_L_path_1 (by decide +kernel) ?_
  refine lv_aload_n hx hb qd_L_path_2 rfl (lv_at hl 0 rfl) ?_
  refine lv_iload_n hx hb qd_L_path_3 rfl (lv_at hl 1 rfl) ?_
  refine lv_iload_n hx hb qd_L_path_4 rfl (lv_at hl 2 rfl) ?_
  have hPc := hP.sub (ws' := [(x, .inr (0, [.ref a, .int (nI n), .ref b, .int (nI k)])), (a, .inl (cA, (600, .inr (.inl f)))), (b, .inl (cA, (40, .inr (.inl g))))]) [0, 1, 2] rfl
  have hDc := hD.sub (ws' := [(x, .inr (0, [.ref a, .int (nI n), .ref b, .int (nI k)])), (a, .inl (cA, (600, .inr (.inl f)))), (b, .inl (cA, (40, .inr (.inl g))))]) [0, 1, 2] (by decide) rfl
  have hKc := hK.sub (tys' := [(cA, .long)]) [0] rfl
  have hFc := va_free (wc := [(x, .inr (0, [.ref a, .int (nI n), .ref b, .int (nI k)])), (a, .inl (cA, (600, .inr (.inl f)))), (b, .inl (cA, (40, .inr (.inl g))))]) hD hS hA [0, 1, 2] rfl
  refine va_calli (va_runV (As := [.int (nI mm), .int (nI j)]) (rest := [.int (nI 0), .ref ao]) ⟨hx, hb, hml, hown, hW⟩ (ct_X_path l dC dI x a b cA n k f g s.heap.size mm j h1 hj hn) (cwV 2 hW (tq_gV qm_220 qm_221 qm_222 qm_1 qm_223) rfl rfl rfl (by decide +kernel) ⟨Nat.le_of_ble_eq_true rfl, Nat.le_of_ble_eq_true rfl⟩) ⟨tq_b2, va_recv hKc hPc (ci := 0) (q0 := 0) rfl rfl, fun U hU hW9 => ⟨rfl, by rw [hU], by rw [hU]; exact hPc, va_K.moved hW9.alike hKc, hDc.weaken (fun _ _ _ _ => trivial)⟩⟩ rfl rfl hl.1 rfl (lv_room (Nat.le_of_ble_eq_true rfl)) qd_L_path_5 ⟨Nat.le_of_ble_eq_true rfl, Nat.le_of_ble_eq_true rfl⟩) hS (fun q _ h => hFc q h) hFc (fun r9 u t9 H1 locs ht9 hvm hw hB hz1 hk1 hS => ?_)
  obtain ⟨hP1, hK1, hD1⟩ := hB
  rw [ht9] at hP1
  obtain ⟨hP, hD⟩ := va_join (wr := [(ao, .inl (cA, (1, .inr (.inl ow))))]) (w1 := [(x, .inr (0, [.ref a, .int (nI n), .ref b, .int (nI (tq_pl mm j))])), (a, .inl (cA, (600, .inr (.inl f)))), (b, .inl (cA, (40, .inr (.inl u))))]) hP hD [0, 1, 2] [3] rfl rfl (by decide) (by decide) hk1 hFc hP1 hD1
  generalize H1 = H at hP hS ⊢
  have hP : va_P (dC, dI) tq_cl [(ao, .inl (cA, (1, .inr (.inl ow)))), (x, .inr (0, [.ref a, .int (nI n), .ref b, .int (nI (tq_pl mm j))])), (a, .inl (cA, (600, .inr (.inl f)))), (b, .inl (cA, (40, .inr (.inl u))))] H := hP
  have hD : va_D A [(ao, .inl (cA, (1, .inr (.inl ow)))), (x, .inr (0, [.ref a, .int (nI n), .ref b, .int (nI (tq_pl mm j))])), (a, .inl (cA, (600, .inr (.inl f)))), (b, .inl (cA, (40, .inr (.inl u))))] := hD
  obtain ⟨hw, hu⟩ := hw
  have hw : r9 = nI (tq_pl mm j) := hw
  subst hw
  refine lv_i2l (v := (nI (tq_pl mm j)).toInt64) hx hb qd_L_path_8 rfl ?_
  refine tq_last hx hb hK hP hD hS 0 0 rfl rfl (j := 0) (x := ((nI (tq_pl mm j)).toInt64)) (by omega) (by decide) qd_L_path_9 (fun H locs hP hD hS => ?_)
  have hP : va_P (dC, dI) tq_cl [(ao, .inl (cA, (1, .inr (.inl (vp_updL ow 0 ((nI (tq_pl mm j)).toInt64)))))), (x, .inr (0, [.ref a, .int (nI n), .ref b, .int (nI (tq_pl mm j))])), (a, .inl (cA, (600, .inr (.inl f)))), (b, .inl (cA, (40, .inr (.inl u))))] H := hP
  have hD : va_D A [(ao, .inl (cA, (1, .inr (.inl (vp_updL ow 0 ((nI (tq_pl mm j)).toInt64)))))), (x, .inr (0, [.ref a, .int (nI n), .ref b, .int (nI (tq_pl mm j))])), (a, .inl (cA, (600, .inr (.inl f)))), (b, .inl (cA, (40, .inr (.inl u))))] := hD
  refine lv_goto (tgt := 17) hx hb qd_L_path_10 (by decide) ?_
  refine lv_iconst (v := nI 0) hx hb qd_L_path_17 (by decide +kernel) ?_
  exact W.iret hx hb hr (fun t ht hW9 => ⟨⟨_, u, rfl, ⟨rfl, hu⟩, by rw [ht]; exact hP.sub [1, 2, 3, 0] rfl, va_K.moved hW9.alike hK, hD.sub [1, 2, 3, 0] (by decide) rfl⟩, hS.F ht⟩) hS.2.2 qd_L_path_18
set_option maxHeartbeats 4000000 in
set_option maxRecDepth 100000 in
/-- steps, through the law -/
theorem ct_L_steps (l : Launch) (dC : Nat → ClassId) (dI : Nat → Nat → Nat) (x a b : Nat) (cA : ClassId) (n k : Nat) (f g : Nat → Int64) (ao : Nat) (ow : Nat → Int64) (sz : Nat) (mm j : Nat) (h0 : 1 ≤ mm) (h1 : mm ≤ j) (hj : j ≤ n) (hn : n ≤ 600) : Met l qy_L_steps qw_L_steps ({ frames := 14, cells := 0, slots := 0, locals := 360 }) (va_Pc [.ref x, .int (nI mm), .int (nI j), .ref ao] (tq_rw (dC, dI) [(x, .inr (0, [.ref a, .int (nI n), .ref b, .int (nI k)])), (a, .inl (cA, (600, .inr (.inl f)))), (b, .inl (cA, (40, .inr (.inl g)))), (ao, .inl (cA, (1, .inr (.inl ow))))] [(cA, .long)] sz)) (va_Qi (fun r (u : Nat → Int64) => r = nI 0 ∧ ∀ q, q < (tq_st f true 0 mm j).length → u q = (tq_st f true 0 mm j).getD q 0) (fun u t => tq_in (dC, dI) [(x, .inr (0, [.ref a, .int (nI n), .ref b, .int (nI (tq_sl true mm j))])), (a, .inl (cA, (600, .inr (.inl f)))), (b, .inl (cA, (40, .inr (.inl u)))), (ao, .inl (cA, (1, .inr (.inl ((vp_updL ow 0 (nI (tq_sl true mm j)).toInt64))))))] [(cA, .long)] (va_A [(x, .inr (0, [.ref a, .int (nI n), .ref b, .int (nI k)])), (a, .inl (cA, (600, .inr (.inl f)))), (b, .inl (cA, (40, .inr (.inl g)))), (ao, .inl (cA, (1, .inr (.inl ow))))] sz) t) (va_A [(x, .inr (0, [.ref a, .int (nI n), .ref b, .int (nI k)])), (a, .inl (cA, (600, .inr (.inl f)))), (b, .inl (cA, (40, .inr (.inl g)))), (ao, .inl (cA, (1, .inr (.inl ow))))] sz)) 0 0 (va_A [(x, .inr (0, [.ref a, .int (nI n), .ref b, .int (nI k)])), (a, .inl (cA, (600, .inr (.inl f)))), (b, .inl (cA, (40, .inr (.inl g)))), (ao, .inl (cA, (1, .inr (.inl ow))))] sz) := by
  refine va_MetW (hh := [(0, 10, 13, 29)]) (cc := qc_L_steps) (maxL := 5) (ret := (some .int)) (by decide) rfl ?_
  intro p e s m args below meth c s₁ B hml hv
  obtain ⟨rfl, hsz, hP, hK, hD0⟩ := hv
  have hx := B.exec
  have hb := B.bytes
  have hr := B.returns
  have hts := atoms_spec (ws := qw_L_steps) B.pre
  have hW : ∀ w ∈ tq_W, w.before ([.ref x, .int (nI mm), .int (nI j), .ref ao] : List Value).toArray s = true := fun w h => hts w (List.mem_cons_of_mem _ h)
  have hown : s.vm.findClass RL = some m.cls := findClass_of_methodNamed B.named
  have hlocks := B.notSynchronized
  have hl := lv_entry ([.ref x, .int (nI mm), .int (nI j), .ref ao]) (n := 5) (Nat.le_of_ble_eq_true rfl)
  rw [lg_entry_eq]
  generalize (lg_sl ([.ref x, .int (nI mm), .int (nI j), .ref ao]) ++ List.replicate (5 - (lg_sl ([.ref x, .int (nI mm), .int (nI j), .ref ao])).length) Slot.unset).toArray = ls at hl ⊢
  have hl : lv_has ls 5 [(0, .ref x), (1, .int (nI mm)), (2, .int (nI j)), (3, .ref ao)] := hl
  subst hsz
  have hD := hD0.self (sz := s.heap.size)
  generalize hAe : va_A [(x, .inr (0, [.ref a, .int (nI n), .ref b, .int (nI k)])), (a, .inl (cA, (600, .inr (.inl f)))), (b, .inl (cA, (40, .inr (.inl g)))), (ao, .inl (cA, (1, .inr (.inl ow))))] s.heap.size = A at hD ⊢
  have hA : ∀ q : Nat, s.heap.size ≤ q → A q := fun q h => by rw [← hAe]; exact Or.inr h
  have hS : va_S A s.heap s.heap [] := va_S.rf
  refine lv_aload_n hx hb qd_L_steps_0 rfl (lv_at hl 3 rfl) ?_
  refine lv_iconst (v := nI 0) hx hb qd_L_steps_1 (by decide +kernel) ?_
  refine lv_aload_n hx hb qd_L_steps_2 rfl (lv_at hl 0 rfl) ?_
  refine lv_iload_n hx hb qd_L_steps_3 rfl (lv_at hl 1 rfl) ?_
  refine lv_iload_n hx hb qd_L_steps_4 rfl (lv_at hl 2 rfl) ?_
  have hPc := hP.sub (ws' := [(x, .inr (0, [.ref a, .int (nI n), .ref b, .int (nI k)])), (a, .inl (cA, (600, .inr (.inl f)))), (b, .inl (cA, (40, .inr (.inl g))))]) [0, 1, 2] rfl
  have hDc := hD.sub (ws' := [(x, .inr (0, [.ref a, .int (nI n), .ref b, .int (nI k)])), (a, .inl (cA, (600, .inr (.inl f)))), (b, .inl (cA, (40, .inr (.inl g))))]) [0, 1, 2] (by decide) rfl
  have hKc := hK.sub (tys' := [(cA, .long)]) [0] rfl
  have hFc := va_free (wc := [(x, .inr (0, [.ref a, .int (nI n), .ref b, .int (nI k)])), (a, .inl (cA, (600, .inr (.inl f)))), (b, .inl (cA, (40, .inr (.inl g))))]) hD hS hA [0, 1, 2] rfl
  refine va_calli (va_runV (As := [.int (nI mm), .int (nI j)]) (rest := [.int (nI 0), .ref ao]) ⟨hx, hb, hml, hown, hW⟩ (ct_X_steps l dC dI x a b cA n k f g s.heap.size mm j h0 h1 hj hn) (cwV 2 hW (tq_gV qm_227 qm_228 qm_229 qm_1 qm_230) rfl rfl rfl (by decide +kernel) ⟨Nat.le_of_ble_eq_true rfl, Nat.le_of_ble_eq_true rfl⟩) ⟨tq_b2, va_recv hKc hPc (ci := 0) (q0 := 0) rfl rfl, fun U hU hW9 => ⟨rfl, by rw [hU], by rw [hU]; exact hPc, va_K.moved hW9.alike hKc, hDc.weaken (fun _ _ _ _ => trivial)⟩⟩ rfl rfl hl.1 rfl (lv_room (Nat.le_of_ble_eq_true rfl)) qd_L_steps_5 ⟨Nat.le_of_ble_eq_true rfl, Nat.le_of_ble_eq_true rfl⟩) hS (fun q _ h => hFc q h) hFc (fun r9 u t9 H1 locs ht9 hvm hw hB hz1 hk1 hS => ?_)
  obtain ⟨hP1, hK1, hD1⟩ := hB
  rw [ht9] at hP1
  obtain ⟨hP, hD⟩ := va_join (wr := [(ao, .inl (cA, (1, .inr (.inl ow))))]) (w1 := [(x, .inr (0, [.ref a, .int (nI n), .ref b, .int (nI (tq_sl true mm j))])), (a, .inl (cA, (600, .inr (.inl f)))), (b, .inl (cA, (40, .inr (.inl u))))]) hP hD [0, 1, 2] [3] rfl rfl (by decide) (by decide) hk1 hFc hP1 hD1
  generalize H1 = H at hP hS ⊢
  have hP : va_P (dC, dI) tq_cl [(ao, .inl (cA, (1, .inr (.inl ow)))), (x, .inr (0, [.ref a, .int (nI n), .ref b, .int (nI (tq_sl true mm j))])), (a, .inl (cA, (600, .inr (.inl f)))), (b, .inl (cA, (40, .inr (.inl u))))] H := hP
  have hD : va_D A [(ao, .inl (cA, (1, .inr (.inl ow)))), (x, .inr (0, [.ref a, .int (nI n), .ref b, .int (nI (tq_sl true mm j))])), (a, .inl (cA, (600, .inr (.inl f)))), (b, .inl (cA, (40, .inr (.inl u))))] := hD
  obtain ⟨hw, hu⟩ := hw
  have hw : r9 = nI (tq_sl true mm j) := hw
  subst hw
  refine lv_i2l (v := (nI (tq_sl true mm j)).toInt64) hx hb qd_L_steps_8 rfl ?_
  refine tq_last hx hb hK hP hD hS 0 0 rfl rfl (j := 0) (x := ((nI (tq_sl true mm j)).toInt64)) (by omega) (by decide) qd_L_steps_9 (fun H locs hP hD hS => ?_)
  have hP : va_P (dC, dI) tq_cl [(ao, .inl (cA, (1, .inr (.inl (vp_updL ow 0 ((nI (tq_sl true mm j)).toInt64)))))), (x, .inr (0, [.ref a, .int (nI n), .ref b, .int (nI (tq_sl true mm j))])), (a, .inl (cA, (600, .inr (.inl f)))), (b, .inl (cA, (40, .inr (.inl u))))] H := hP
  have hD : va_D A [(ao, .inl (cA, (1, .inr (.inl (vp_updL ow 0 ((nI (tq_sl true mm j)).toInt64)))))), (x, .inr (0, [.ref a, .int (nI n), .ref b, .int (nI (tq_sl true mm j))])), (a, .inl (cA, (600, .inr (.inl f)))), (b, .inl (cA, (40, .inr (.inl u))))] := hD
  refine lv_goto (tgt := 17) hx hb qd_L_steps_10 (by decide) ?_
  refine lv_iconst (v := nI 0) hx hb qd_L_steps_17 (by decide +kernel) ?_
  exact W.iret hx hb hr (fun t ht hW9 => ⟨⟨_, u, rfl, ⟨rfl, hu⟩, by rw [ht]; exact hP.sub [1, 2, 3, 0] rfl, va_K.moved hW9.alike hK, hD.sub [1, 2, 3, 0] (by decide) rfl⟩, hS.F ht⟩) hS.2.2 qd_L_steps_18
set_option maxHeartbeats 4000000 in
set_option maxRecDepth 100000 in
/-- head, through the law -/
theorem ct_L_head (l : Launch) (dC : Nat → ClassId) (dI : Nat → Nat → Nat) (x a b : Nat) (cA : ClassId) (n k : Nat) (f g : Nat → Int64) (ao : Nat) (ow : Nat → Int64) (sz : Nat) (j : Nat) (hj : j ≤ n) (hn : n ≤ 600) : Met l qy_L_head qw_L_head ({ frames := 14, cells := 0, slots := 0, locals := 360 }) (va_Pc [.ref x, .int (nI j), .ref ao] (tq_rw (dC, dI) [(x, .inr (0, [.ref a, .int (nI n), .ref b, .int (nI k)])), (a, .inl (cA, (600, .inr (.inl f)))), (b, .inl (cA, (40, .inr (.inl g)))), (ao, .inl (cA, (1, .inr (.inl ow))))] [(cA, .long)] sz)) (va_Qi (fun r (_ : Unit) => r = nI 0) (fun _ t => tq_in (dC, dI) [(x, .inr (0, [.ref a, .int (nI n), .ref b, .int (nI k)])), (a, .inl (cA, (600, .inr (.inl f)))), (b, .inl (cA, (40, .inr (.inl g)))), (ao, .inl (cA, (1, .inr (.inl ((vp_updL ow 0 (tq_hd f 0 j)))))))] [(cA, .long)] (va_A [(x, .inr (0, [.ref a, .int (nI n), .ref b, .int (nI k)])), (a, .inl (cA, (600, .inr (.inl f)))), (b, .inl (cA, (40, .inr (.inl g)))), (ao, .inl (cA, (1, .inr (.inl ow))))] sz) t) (va_A [(x, .inr (0, [.ref a, .int (nI n), .ref b, .int (nI k)])), (a, .inl (cA, (600, .inr (.inl f)))), (b, .inl (cA, (40, .inr (.inl g)))), (ao, .inl (cA, (1, .inr (.inl ow))))] sz)) 0 0 (va_A [(x, .inr (0, [.ref a, .int (nI n), .ref b, .int (nI k)])), (a, .inl (cA, (600, .inr (.inl f)))), (b, .inl (cA, (40, .inr (.inl g)))), (ao, .inl (cA, (1, .inr (.inl ow))))] sz) := by
  refine va_MetW (hh := [(0, 8, 11, 29)]) (cc := qc_L_head) (maxL := 4) (ret := (some .int)) (by decide) rfl ?_
  intro p e s m args below meth c s₁ B hml hv
  obtain ⟨rfl, hsz, hP, hK, hD0⟩ := hv
  have hx := B.exec
  have hb := B.bytes
  have hr := B.returns
  have hts := atoms_spec (ws := qw_L_head) B.pre
  have hW : ∀ w ∈ tq_W, w.before ([.ref x, .int (nI j), .ref ao] : List Value).toArray s = true := fun w h => hts w (List.mem_cons_of_mem _ h)
  have hown : s.vm.findClass RL = some m.cls := findClass_of_methodNamed B.named
  have hlocks := B.notSynchronized
  have hl := lv_entry ([.ref x, .int (nI j), .ref ao]) (n := 4) (Nat.le_of_ble_eq_true rfl)
  rw [lg_entry_eq]
  generalize (lg_sl ([.ref x, .int (nI j), .ref ao]) ++ List.replicate (4 - (lg_sl ([.ref x, .int (nI j), .ref ao])).length) Slot.unset).toArray = ls at hl ⊢
  have hl : lv_has ls 4 [(0, .ref x), (1, .int (nI j)), (2, .ref ao)] := hl
  subst hsz
  have hD := hD0.self (sz := s.heap.size)
  generalize hAe : va_A [(x, .inr (0, [.ref a, .int (nI n), .ref b, .int (nI k)])), (a, .inl (cA, (600, .inr (.inl f)))), (b, .inl (cA, (40, .inr (.inl g)))), (ao, .inl (cA, (1, .inr (.inl ow))))] s.heap.size = A at hD ⊢
  have hA : ∀ q : Nat, s.heap.size ≤ q → A q := fun q h => by rw [← hAe]; exact Or.inr h
  have hS : va_S A s.heap s.heap [] := va_S.rf
  refine lv_aload_n hx hb qd_L_head_0 rfl (lv_at hl 2 rfl) ?_
  refine lv_iconst (v := nI 0) hx hb qd_L_head_1 (by decide +kernel) ?_
  refine lv_aload_n hx hb qd_L_head_2 rfl (lv_at hl 0 rfl) ?_
  refine lv_iload_n hx hb qd_L_head_3 rfl (lv_at hl 1 rfl) ?_
  refine vp_callSl (W.runV (As := [.int (nI j)]) (rest := [.int (nI 0), .ref ao]) ⟨hx, hb, hml, hown, hW⟩ (ct_X_head l dC dI x a b cA n k f g j hj hn) (cwV 1 hW (tq_gV qm_188 qm_189 qm_190 qm_1 qm_191) rfl rfl rfl (by decide +kernel) ⟨Nat.le_of_ble_eq_true rfl, Nat.le_of_ble_eq_true rfl⟩) ⟨tq_b1, va_recv hK hP (ci := 0) (q0 := 0) rfl rfl, fun U hU hW9 => ⟨rfl, by rw [hU]; exact hP.sub [0, 1, 2] rfl, va_K.moved hW9.alike (hK.sub [0] rfl)⟩⟩ rfl rfl hl.1 rfl (lv_room (Nat.le_of_ble_eq_true rfl)) qd_L_head_4 ⟨Nat.le_of_ble_eq_true rfl, Nat.le_of_ble_eq_true rfl⟩) (fun r9 e9 => ?_)
  subst e9
  refine tq_last hx hb hK hP hD hS 3 0 rfl rfl (j := 0) (x := (tq_hd f 0 j)) (by omega) (by decide) qd_L_head_7 (fun H locs hP hD hS => ?_)
  have hP : va_P (dC, dI) tq_cl [(x, .inr (0, [.ref a, .int (nI n), .ref b, .int (nI k)])), (a, .inl (cA, (600, .inr (.inl f)))), (b, .inl (cA, (40, .inr (.inl g)))), (ao, .inl (cA, (1, .inr (.inl (vp_updL ow 0 (tq_hd f 0 j))))))] H := hP
  have hD : va_D A [(x, .inr (0, [.ref a, .int (nI n), .ref b, .int (nI k)])), (a, .inl (cA, (600, .inr (.inl f)))), (b, .inl (cA, (40, .inr (.inl g)))), (ao, .inl (cA, (1, .inr (.inl (vp_updL ow 0 (tq_hd f 0 j))))))] := hD
  refine lv_goto (tgt := 14) hx hb qd_L_head_8 (by decide) ?_
  refine lv_iconst (v := nI 0) hx hb qd_L_head_14 (by decide +kernel) ?_
  exact W.iret hx hb hr (fun t ht hW9 => ⟨⟨_, (), rfl, rfl, by rw [ht]; exact hP.sub [0, 1, 2, 3] rfl, va_K.moved hW9.alike hK, hD.sub [0, 1, 2, 3] (by decide) rfl⟩, hS.F ht⟩) hS.2.2 qd_L_head_15
set_option maxHeartbeats 4000000 in
set_option maxRecDepth 100000 in
/-- part, through the law -/
theorem ct_L_part (l : Launch) (dC : Nat → ClassId) (dI : Nat → Nat → Nat) (x a b : Nat) (cA : ClassId) (n k : Nat) (f g : Nat → Int64) (ao : Nat) (ow : Nat → Int64) (sz : Nat) (i j : Nat) (hi : i ≤ j) (hj : j ≤ n) (hn : n ≤ 600) : Met l qy_L_part qw_L_part ({ frames := 14, cells := 0, slots := 0, locals := 360 }) (va_Pc [.ref x, .int (nI i), .int (nI j), .ref ao] (tq_rw (dC, dI) [(x, .inr (0, [.ref a, .int (nI n), .ref b, .int (nI k)])), (a, .inl (cA, (600, .inr (.inl f)))), (b, .inl (cA, (40, .inr (.inl g)))), (ao, .inl (cA, (1, .inr (.inl ow))))] [(cA, .long)] sz)) (va_Qi (fun r (_ : Unit) => r = nI 0) (fun _ t => tq_in (dC, dI) [(x, .inr (0, [.ref a, .int (nI n), .ref b, .int (nI k)])), (a, .inl (cA, (600, .inr (.inl f)))), (b, .inl (cA, (40, .inr (.inl g)))), (ao, .inl (cA, (1, .inr (.inl ((vp_updL ow 0 (tq_hd f i (j - i))))))))] [(cA, .long)] (va_A [(x, .inr (0, [.ref a, .int (nI n), .ref b, .int (nI k)])), (a, .inl (cA, (600, .inr (.inl f)))), (b, .inl (cA, (40, .inr (.inl g)))), (ao, .inl (cA, (1, .inr (.inl ow))))] sz) t) (va_A [(x, .inr (0, [.ref a, .int (nI n), .ref b, .int (nI k)])), (a, .inl (cA, (600, .inr (.inl f)))), (b, .inl (cA, (40, .inr (.inl g)))), (ao, .inl (cA, (1, .inr (.inl ow))))] sz)) 0 0 (va_A [(x, .inr (0, [.ref a, .int (nI n), .ref b, .int (nI k)])), (a, .inl (cA, (600, .inr (.inl f)))), (b, .inl (cA, (40, .inr (.inl g)))), (ao, .inl (cA, (1, .inr (.inl ow))))] sz) := by
  refine va_MetW (hh := [(0, 9, 12, 29)]) (cc := qc_L_part) (maxL := 5) (ret := (some .int)) (by decide) rfl ?_
  intro p e s m args below meth c s₁ B hml hv
  obtain ⟨rfl, hsz, hP, hK, hD0⟩ := hv
  have hx := B.exec
  have hb := B.bytes
  have hr := B.returns
  have hts := atoms_spec (ws := qw_L_part) B.pre
  have hW : ∀ w ∈ tq_W, w.before ([.ref x, .int (nI i), .int (nI j), .ref ao] : List Value).toArray s = true := fun w h => hts w (List.mem_cons_of_mem _ h)
  have hown : s.vm.findClass RL = some m.cls := findClass_of_methodNamed B.named
  have hlocks := B.notSynchronized
  have hl := lv_entry ([.ref x, .int (nI i), .int (nI j), .ref ao]) (n := 5) (Nat.le_of_ble_eq_true rfl)
  rw [lg_entry_eq]
  generalize (lg_sl ([.ref x, .int (nI i), .int (nI j), .ref ao]) ++ List.replicate (5 - (lg_sl ([.ref x, .int (nI i), .int (nI j), .ref ao])).length) Slot.unset).toArray = ls at hl ⊢
  have hl : lv_has ls 5 [(0, .ref x), (1, .int (nI i)), (2, .int (nI j)), (3, .ref ao)] := hl
  subst hsz
  have hD := hD0.self (sz := s.heap.size)
  generalize hAe : va_A [(x, .inr (0, [.ref a, .int (nI n), .ref b, .int (nI k)])), (a, .inl (cA, (600, .inr (.inl f)))), (b, .inl (cA, (40, .inr (.inl g)))), (ao, .inl (cA, (1, .inr (.inl ow))))] s.heap.size = A at hD ⊢
  have hA : ∀ q : Nat, s.heap.size ≤ q → A q := fun q h => by rw [← hAe]; exact Or.inr h
  have hS : va_S A s.heap s.heap [] := va_S.rf
  refine lv_aload_n hx hb qd_L_part_0 rfl (lv_at hl 3 rfl) ?_
  refine lv_iconst (v := nI 0) hx hb qd_L_part_1 (by decide +kernel) ?_
  refine lv_aload_n hx hb qd_L_part_2 rfl (lv_at hl 0 rfl) ?_
  refine lv_iload_n hx hb qd_L_part_3 rfl (lv_at hl 1 rfl) ?_
  refine lv_iload_n hx hb qd_L_part_4 rfl (lv_at hl 2 rfl) ?_
  refine vp_callSl (W.runV (As := [.int (nI i), .int (nI j)]) (rest := [.int (nI 0), .ref ao]) ⟨hx, hb, hml, hown, hW⟩ (ct_X_part l dC dI x a b cA n k f g i j hi hj hn) (cwV 2 hW (tq_gV qm_213 qm_214 qm_215 qm_1 qm_216) rfl rfl rfl (by decide +kernel) ⟨Nat.le_of_ble_eq_true rfl, Nat.le_of_ble_eq_true rfl⟩) ⟨tq_b1, va_recv hK hP (ci := 0) (q0 := 0) rfl rfl, fun U hU hW9 => ⟨rfl, by rw [hU]; exact hP.sub [0, 1, 2] rfl, va_K.moved hW9.alike (hK.sub [0] rfl)⟩⟩ rfl rfl hl.1 rfl (lv_room (Nat.le_of_ble_eq_true rfl)) qd_L_part_5 ⟨Nat.le_of_ble_eq_true rfl, Nat.le_of_ble_eq_true rfl⟩) (fun r9 e9 => ?_)
  subst e9
  refine tq_last hx hb hK hP hD hS 3 0 rfl rfl (j := 0) (x := (tq_hd f i (j - i))) (by omega) (by decide) qd_L_part_8 (fun H locs hP hD hS => ?_)
  have hP : va_P (dC, dI) tq_cl [(x, .inr (0, [.ref a, .int (nI n), .ref b, .int (nI k)])), (a, .inl (cA, (600, .inr (.inl f)))), (b, .inl (cA, (40, .inr (.inl g)))), (ao, .inl (cA, (1, .inr (.inl (vp_updL ow 0 (tq_hd f i (j - i)))))))] H := hP
  have hD : va_D A [(x, .inr (0, [.ref a, .int (nI n), .ref b, .int (nI k)])), (a, .inl (cA, (600, .inr (.inl f)))), (b, .inl (cA, (40, .inr (.inl g)))), (ao, .inl (cA, (1, .inr (.inl (vp_updL ow 0 (tq_hd f i (j - i)))))))] := hD
  refine lv_goto (tgt := 16) hx hb qd_L_part_9 (by decide) ?_
  refine lv_iconst (v := nI 0) hx hb qd_L_part_16 (by decide +kernel) ?_
  exact W.iret hx hb hr (fun t ht hW9 => ⟨⟨_, (), rfl, rfl, by rw [ht]; exact hP.sub [0, 1, 2, 3] rfl, va_K.moved hW9.alike hK, hD.sub [0, 1, 2, 3] (by decide) rfl⟩, hS.F ht⟩) hS.2.2 qd_L_part_17
set_option maxHeartbeats 4000000 in
set_option maxRecDepth 100000 in
/-- proof, through the law -/
theorem ct_L_proof (l : Launch) (dC : Nat → ClassId) (dI : Nat → Nat → Nat) (x a b : Nat) (cA : ClassId) (n k : Nat) (f g : Nat → Int64) (ao : Nat) (ow : Nat → Int64) (sz : Nat) (j : Nat) (hj : j < k) (hk : k ≤ 40) : Met l qy_L_proof qw_L_proof ({ frames := 1, cells := 0, slots := 0, locals := 40 }) (va_Pc [.ref x, .int (nI j), .ref ao] (tq_rw (dC, dI) [(x, .inr (0, [.ref a, .int (nI n), .ref b, .int (nI k)])), (a, .inl (cA, (600, .inr (.inl f)))), (b, .inl (cA, (40, .inr (.inl g)))), (ao, .inl (cA, (1, .inr (.inl ow))))] [(cA, .long)] sz)) (va_Qi (fun r (_ : Unit) => r = nI 0) (fun _ t => tq_in (dC, dI) [(x, .inr (0, [.ref a, .int (nI n), .ref b, .int (nI k)])), (a, .inl (cA, (600, .inr (.inl f)))), (b, .inl (cA, (40, .inr (.inl g)))), (ao, .inl (cA, (1, .inr (.inl ((vp_updL ow 0 (g j)))))))] [(cA, .long)] (va_A [(x, .inr (0, [.ref a, .int (nI n), .ref b, .int (nI k)])), (a, .inl (cA, (600, .inr (.inl f)))), (b, .inl (cA, (40, .inr (.inl g)))), (ao, .inl (cA, (1, .inr (.inl ow))))] sz) t) (va_A [(x, .inr (0, [.ref a, .int (nI n), .ref b, .int (nI k)])), (a, .inl (cA, (600, .inr (.inl f)))), (b, .inl (cA, (40, .inr (.inl g)))), (ao, .inl (cA, (1, .inr (.inl ow))))] sz)) 0 0 (va_A [(x, .inr (0, [.ref a, .int (nI n), .ref b, .int (nI k)])), (a, .inl (cA, (600, .inr (.inl f)))), (b, .inl (cA, (40, .inr (.inl g)))), (ao, .inl (cA, (1, .inr (.inl ow))))] sz) := by
  refine va_MetW (hh := [(0, 8, 11, 45)]) (cc := qc_L_proof) (maxL := 4) (ret := (some .int)) (by decide) rfl ?_
  intro p e s m args below meth c s₁ B hml hv
  obtain ⟨rfl, hsz, hP, hK, hD0⟩ := hv
  have hx := B.exec
  have hb := B.bytes
  have hr := B.returns
  have hts := atoms_spec (ws := qw_L_proof) B.pre
  have hW : ∀ w ∈ tq_W, w.before ([.ref x, .int (nI j), .ref ao] : List Value).toArray s = true := fun w h => hts w (List.mem_cons_of_mem _ h)
  have hown : s.vm.findClass RL = some m.cls := findClass_of_methodNamed B.named
  have hlocks := B.notSynchronized
  have hl := lv_entry ([.ref x, .int (nI j), .ref ao]) (n := 4) (Nat.le_of_ble_eq_true rfl)
  rw [lg_entry_eq]
  generalize (lg_sl ([.ref x, .int (nI j), .ref ao]) ++ List.replicate (4 - (lg_sl ([.ref x, .int (nI j), .ref ao])).length) Slot.unset).toArray = ls at hl ⊢
  have hl : lv_has ls 4 [(0, .ref x), (1, .int (nI j)), (2, .ref ao)] := hl
  subst hsz
  have hD := hD0.self (sz := s.heap.size)
  generalize hAe : va_A [(x, .inr (0, [.ref a, .int (nI n), .ref b, .int (nI k)])), (a, .inl (cA, (600, .inr (.inl f)))), (b, .inl (cA, (40, .inr (.inl g)))), (ao, .inl (cA, (1, .inr (.inl ow))))] s.heap.size = A at hD ⊢
  have hA : ∀ q : Nat, s.heap.size ≤ q → A q := fun q h => by rw [← hAe]; exact Or.inr h
  have hS : va_S A s.heap s.heap [] := va_S.rf
  refine lv_aload_n hx hb qd_L_proof_0 rfl (lv_at hl 2 rfl) ?_
  refine lv_iconst (v := nI 0) hx hb qd_L_proof_1 (by decide +kernel) ?_
  refine lv_aload_n hx hb qd_L_proof_2 rfl (lv_at hl 0 rfl) ?_
  refine lv_iload_n hx hb qd_L_proof_3 rfl (lv_at hl 1 rfl) ?_
  refine vp_callSl (W.runV (As := [.int (nI j)]) (rest := [.int (nI 0), .ref ao]) ⟨hx, hb, hml, hown, hW⟩ (ct_X_proof l dC dI x a b cA n k f g j hj hk) (cwV 1 hW (tq_gV qm_235 qm_236 qm_237 qm_1 qm_238) rfl rfl rfl (by decide +kernel) ⟨Nat.le_of_ble_eq_true rfl, Nat.le_of_ble_eq_true rfl⟩) ⟨tq_b1, va_recv hK hP (ci := 0) (q0 := 0) rfl rfl, fun U hU hW9 => ⟨rfl, by rw [hU]; exact hP.sub [0, 1, 2] rfl, va_K.moved hW9.alike (hK.sub [0] rfl)⟩⟩ rfl rfl hl.1 rfl (lv_room (Nat.le_of_ble_eq_true rfl)) qd_L_proof_4 ⟨Nat.le_of_ble_eq_true rfl, Nat.le_of_ble_eq_true rfl⟩) (fun r9 e9 => ?_)
  subst e9
  refine tq_last hx hb hK hP hD hS 3 0 rfl rfl (j := 0) (x := (g j)) (by omega) (by decide) qd_L_proof_7 (fun H locs hP hD hS => ?_)
  have hP : va_P (dC, dI) tq_cl [(x, .inr (0, [.ref a, .int (nI n), .ref b, .int (nI k)])), (a, .inl (cA, (600, .inr (.inl f)))), (b, .inl (cA, (40, .inr (.inl g)))), (ao, .inl (cA, (1, .inr (.inl (vp_updL ow 0 (g j))))))] H := hP
  have hD : va_D A [(x, .inr (0, [.ref a, .int (nI n), .ref b, .int (nI k)])), (a, .inl (cA, (600, .inr (.inl f)))), (b, .inl (cA, (40, .inr (.inl g)))), (ao, .inl (cA, (1, .inr (.inl (vp_updL ow 0 (g j))))))] := hD
  refine lv_goto (tgt := 14) hx hb qd_L_proof_8 (by decide) ?_
  refine lv_iconst (v := nI 0) hx hb qd_L_proof_14 (by decide +kernel) ?_
  exact W.iret hx hb hr (fun t ht hW9 => ⟨⟨_, (), rfl, rfl, by rw [ht]; exact hP.sub [0, 1, 2, 3] rfl, va_K.moved hW9.alike hK, hD.sub [0, 1, 2, 3] (by decide) rfl⟩, hS.F ht⟩) hS.2.2 qd_L_proof_15
set_option maxHeartbeats 4000000 in
set_option maxRecDepth 100000 in
/-- find, through the law -/
theorem ct_L_find (l : Launch) (dC : Nat → ClassId) (dI : Nat → Nat → Nat) (x a b : Nat) (cA : ClassId) (n k : Nat) (f g : Nat → Int64) (ao : Nat) (ow : Nat → Int64) (sz : Nat) (j : Nat) (v : Int64) (hj : j ≤ n) (hn : n ≤ 600) : Met l qy_L_find qw_L_find ({ frames := 3, cells := 0, slots := 0, locals := 100 }) (va_Pc [.ref x, .int (nI j), .long v, .ref ao] (tq_rw (dC, dI) [(x, .inr (0, [.ref a, .int (nI n), .ref b, .int (nI k)])), (a, .inl (cA, (600, .inr (.inl f)))), (b, .inl (cA, (40, .inr (.inl g)))), (ao, .inl (cA, (1, .inr (.inl ow))))] [(cA, .long)] sz)) (va_Qi (fun r (_ : Unit) => r = nI 0) (fun _ t => tq_in (dC, dI) [(x, .inr (0, [.ref a, .int (nI n), .ref b, .int (nI k)])), (a, .inl (cA, (600, .inr (.inl f)))), (b, .inl (cA, (40, .inr (.inl g)))), (ao, .inl (cA, (1, .inr (.inl ((vp_updL ow 0 (tq_fd f (tq_leaf v) j 0).toInt64))))))] [(cA, .long)] (va_A [(x, .inr (0, [.ref a, .int (nI n), .ref b, .int (nI k)])), (a, .inl (cA, (600, .inr (.inl f)))), (b, .inl (cA, (40, .inr (.inl g)))), (ao, .inl (cA, (1, .inr (.inl ow))))] sz) t) (va_A [(x, .inr (0, [.ref a, .int (nI n), .ref b, .int (nI k)])), (a, .inl (cA, (600, .inr (.inl f)))), (b, .inl (cA, (40, .inr (.inl g)))), (ao, .inl (cA, (1, .inr (.inl ow))))] sz)) 0 0 (va_A [(x, .inr (0, [.ref a, .int (nI n), .ref b, .int (nI k)])), (a, .inl (cA, (600, .inr (.inl f)))), (b, .inl (cA, (40, .inr (.inl g)))), (ao, .inl (cA, (1, .inr (.inl ow))))] sz) := by
  refine va_MetW (hh := [(0, 11, 14, 29)]) (cc := qc_L_find) (maxL := 6) (ret := (some .int)) (by decide) rfl ?_
  intro p e s m args below meth c s₁ B hml hv
  obtain ⟨rfl, hsz, hP, hK, hD0⟩ := hv
  have hx := B.exec
  have hb := B.bytes
  have hr := B.returns
  have hts := atoms_spec (ws := qw_L_find) B.pre
  have hW : ∀ w ∈ tq_W, w.before ([.ref x, .int (nI j), .long v, .ref ao] : List Value).toArray s = true := fun w h => hts w (List.mem_cons_of_mem _ h)
  have hown : s.vm.findClass RL = some m.cls := findClass_of_methodNamed B.named
  have hlocks := B.notSynchronized
  have hl := lv_entry ([.ref x, .int (nI j), .long v, .ref ao]) (n := 6) (Nat.le_of_ble_eq_true rfl)
  rw [lg_entry_eq]
  generalize (lg_sl ([.ref x, .int (nI j), .long v, .ref ao]) ++ List.replicate (6 - (lg_sl ([.ref x, .int (nI j), .long v, .ref ao])).length) Slot.unset).toArray = ls at hl ⊢
  have hl : lv_has ls 6 [(0, .ref x), (1, .int (nI j)), (2, .long v), (4, .ref ao)] := hl
  subst hsz
  have hD := hD0.self (sz := s.heap.size)
  generalize hAe : va_A [(x, .inr (0, [.ref a, .int (nI n), .ref b, .int (nI k)])), (a, .inl (cA, (600, .inr (.inl f)))), (b, .inl (cA, (40, .inr (.inl g)))), (ao, .inl (cA, (1, .inr (.inl ow))))] s.heap.size = A at hD ⊢
  have hA : ∀ q : Nat, s.heap.size ≤ q → A q := fun q h => by rw [← hAe]; exact Or.inr h
  have hS : va_S A s.heap s.heap [] := va_S.rf
  refine lv_aload hx hb qd_L_find_0 (lv_at hl 3 rfl) ?_
  refine lv_iconst (v := nI 0) hx hb qd_L_find_2 (by decide +kernel) ?_
  refine lv_aload_n hx hb qd_L_find_3 rfl (lv_at hl 0 rfl) ?_
  refine lv_iload_n hx hb qd_L_find_4 rfl (lv_at hl 1 rfl) ?_
  refine lv_lload_n hx hb qd_L_find_5 rfl (lv_at hl 2 rfl) ?_
  refine vp_callSi (W.runV (As := [.int (nI j), .long v]) (rest := [.int (nI 0), .ref ao]) ⟨hx, hb, hml, hown, hW⟩ (ct_X_find l dC dI x a b cA n k f g j v hj hn) (cwV 2 hW (tq_gV qm_271 qm_272 qm_273 qm_1 qm_274) rfl rfl rfl (by decide +kernel) ⟨Nat.le_of_ble_eq_true rfl, Nat.le_of_ble_eq_true rfl⟩) ⟨tq_b1, va_recv hK hP (ci := 0) (q0 := 0) rfl rfl, fun U hU hW9 => ⟨rfl, by rw [hU]; exact hP.sub [0, 1, 2] rfl, va_K.moved hW9.alike (hK.sub [0] rfl)⟩⟩ rfl rfl hl.1 rfl (lv_room (Nat.le_of_ble_eq_true rfl)) qd_L_find_6 ⟨Nat.le_of_ble_eq_true rfl, Nat.le_of_ble_eq_true rfl⟩) (fun r9 e9 => ?_)
  subst e9
  refine lv_i2l (v := (tq_fd f (tq_leaf v) j 0).toInt64) hx hb qd_L_find_9 rfl ?_
  refine tq_last hx hb hK hP hD hS 3 0 rfl rfl (j := 0) (x := ((tq_fd f (tq_leaf v) j 0).toInt64)) (by omega) (by decide) qd_L_find_10 (fun H locs hP hD hS => ?_)
  have hP : va_P (dC, dI) tq_cl [(x, .inr (0, [.ref a, .int (nI n), .ref b, .int (nI k)])), (a, .inl (cA, (600, .inr (.inl f)))), (b, .inl (cA, (40, .inr (.inl g)))), (ao, .inl (cA, (1, .inr (.inl (vp_updL ow 0 ((tq_fd f (tq_leaf v) j 0).toInt64))))))] H := hP
  have hD : va_D A [(x, .inr (0, [.ref a, .int (nI n), .ref b, .int (nI k)])), (a, .inl (cA, (600, .inr (.inl f)))), (b, .inl (cA, (40, .inr (.inl g)))), (ao, .inl (cA, (1, .inr (.inl (vp_updL ow 0 ((tq_fd f (tq_leaf v) j 0).toInt64))))))] := hD
  refine lv_goto (tgt := 18) hx hb qd_L_find_11 (by decide) ?_
  refine lv_iconst (v := nI 0) hx hb qd_L_find_18 (by decide +kernel) ?_
  exact W.iret hx hb hr (fun t ht hW9 => ⟨⟨_, (), rfl, rfl, by rw [ht]; exact hP.sub [0, 1, 2, 3] rfl, va_K.moved hW9.alike hK, hD.sub [0, 1, 2, 3] (by decide) rfl⟩, hS.F ht⟩) hS.2.2 qd_L_find_19
