def tq_bad : List Cond := [.castable "java/lang/IllegalStateException" "java/lang/IllegalStateException", .castable "java/lang/IllegalArgumentException" "java/lang/IllegalArgumentException", .castable "java/util/NoSuchElementException" "java/util/NoSuchElementException", .castable "java/lang/IndexOutOfBoundsException" "java/lang/IndexOutOfBoundsException", .declares ⟨"java/lang/RuntimeException", "<init>", "()V"⟩, .declares ⟨"java/lang/Exception", "<init>", "()V"⟩, .declares ⟨"java/lang/Throwable", "<init>", "()V"⟩]
theorem tq_bad_t : ∀ w ∈ tq_bad, w.onTables = true := by decide +kernel
theorem tx_ISE_g : ∀ w ∈ (vx_at0 RX0 25 "java/lang/IllegalStateException" ["java/lang/RuntimeException", "java/lang/Exception"]).filter goodWord, w ∈ tq_W := fun w h => List.mem_filter.mpr ⟨(by decide +kernel : ∀ w ∈ (vx_at0 RX0 25 "java/lang/IllegalStateException" ["java/lang/RuntimeException", "java/lang/Exception"]).filter goodWord, w ∈ lw_tbl) w h, (List.mem_filter.mp h).2⟩
theorem tx_ISE_b : ∀ w ∈ (vx_at0 RX0 25 "java/lang/IllegalStateException" ["java/lang/RuntimeException", "java/lang/Exception"]).filter (fun w => !goodWord w), w ∈ tq_bad := by decide +kernel
theorem tx_ISE_o : ∀ w ∈ Cond.classLink RX0 23 "java/lang/IllegalStateException" :: Cond.initialized "java/lang/IllegalStateException" :: vx_at0 RX0 25 "java/lang/IllegalStateException" ["java/lang/RuntimeException", "java/lang/Exception"], vx_ot w = true := by decide +kernel
theorem tx_IAE_g : ∀ w ∈ (vx_at0 RX0 32 "java/lang/IllegalArgumentException" ["java/lang/RuntimeException", "java/lang/Exception"]).filter goodWord, w ∈ tq_W := fun w h => List.mem_filter.mpr ⟨(by decide +kernel : ∀ w ∈ (vx_at0 RX0 32 "java/lang/IllegalArgumentException" ["java/lang/RuntimeException", "java/lang/Exception"]).filter goodWord, w ∈ lw_tbl) w h, (List.mem_filter.mp h).2⟩
theorem tx_IAE_b : ∀ w ∈ (vx_at0 RX0 32 "java/lang/IllegalArgumentException" ["java/lang/RuntimeException", "java/lang/Exception"]).filter (fun w => !goodWord w), w ∈ tq_bad := by decide +kernel
theorem tx_IAE_o : ∀ w ∈ Cond.classLink RX0 30 "java/lang/IllegalArgumentException" :: Cond.initialized "java/lang/IllegalArgumentException" :: vx_at0 RX0 32 "java/lang/IllegalArgumentException" ["java/lang/RuntimeException", "java/lang/Exception"], vx_ot w = true := by decide +kernel
theorem tx_NSE_g : ∀ w ∈ (vx_at0 RX0 35 "java/util/NoSuchElementException" ["java/lang/RuntimeException", "java/lang/Exception"]).filter goodWord, w ∈ tq_W := fun w h => List.mem_filter.mpr ⟨(by decide +kernel : ∀ w ∈ (vx_at0 RX0 35 "java/util/NoSuchElementException" ["java/lang/RuntimeException", "java/lang/Exception"]).filter goodWord, w ∈ lw_tbl) w h, (List.mem_filter.mp h).2⟩
theorem tx_NSE_b : ∀ w ∈ (vx_at0 RX0 35 "java/util/NoSuchElementException" ["java/lang/RuntimeException", "java/lang/Exception"]).filter (fun w => !goodWord w), w ∈ tq_bad := by decide +kernel
theorem tx_NSE_o : ∀ w ∈ Cond.classLink RX0 33 "java/util/NoSuchElementException" :: Cond.initialized "java/util/NoSuchElementException" :: vx_at0 RX0 35 "java/util/NoSuchElementException" ["java/lang/RuntimeException", "java/lang/Exception"], vx_ot w = true := by decide +kernel
theorem tx_IOB_g : ∀ w ∈ (vx_at0 RX0 53 "java/lang/IndexOutOfBoundsException" ["java/lang/RuntimeException", "java/lang/Exception"]).filter goodWord, w ∈ tq_W := fun w h => List.mem_filter.mpr ⟨(by decide +kernel : ∀ w ∈ (vx_at0 RX0 53 "java/lang/IndexOutOfBoundsException" ["java/lang/RuntimeException", "java/lang/Exception"]).filter goodWord, w ∈ lw_tbl) w h, (List.mem_filter.mp h).2⟩
theorem tx_IOB_b : ∀ w ∈ (vx_at0 RX0 53 "java/lang/IndexOutOfBoundsException" ["java/lang/RuntimeException", "java/lang/Exception"]).filter (fun w => !goodWord w), w ∈ tq_bad := by decide +kernel
theorem tx_IOB_o : ∀ w ∈ Cond.classLink RX0 51 "java/lang/IndexOutOfBoundsException" :: Cond.initialized "java/lang/IndexOutOfBoundsException" :: vx_at0 RX0 53 "java/lang/IndexOutOfBoundsException" ["java/lang/RuntimeException", "java/lang/Exception"], vx_ot w = true := by decide +kernel
def tq_Z (A : Nat → Prop) (U : State) : Prop := vx_Zq Bundle.tN "UNASSIGNED_STACK" Bundle.steD A U U.heap ∧ vx_Zq Bundle.tN "SUPPRESSED_SENTINEL" Bundle.listD A U U.heap ∧ (∀ w ∈ tq_bad, va_Nw w U) ∧ va_Nc "java/lang/IllegalStateException" "java/lang/IllegalArgumentException" U
theorem tq_badW {s U : State} (hW : s.WarmedH U.vm) (h : ∀ w ∈ tq_bad, va_Nw w s) : ∀ w ∈ tq_bad, va_Nw w U := by
  intro w hw
  have h1 := h w hw
  simp only [tq_bad, List.mem_cons, List.not_mem_nil, or_false] at hw
  rcases hw with rfl | rfl | rfl | rfl | rfl | rfl | rfl
  · exact va_Nw.warmC hW h1
  · exact va_Nw.warmC hW h1
  · exact va_Nw.warmC hW h1
  · exact va_Nw.warmC hW h1
  · exact va_Nw.warmD hW h1
  · exact va_Nw.warmD hW h1
  · exact va_Nw.warmD hW h1
theorem tq_Z.call {A : Nat → Prop} {U : State} {g : JFrame} {mk : MethodId} {a : Array Value} (h : tq_Z A U) : tq_Z A (U.calling g mk a) :=
  ⟨vx_Zq.moved (u := U) (U := U.calling g mk a) (Vm.Alike.refl U.vm) h.1, vx_Zq.moved (u := U) (U := U.calling g mk a) (Vm.Alike.refl U.vm) h.2.1, fun w hw => va_Nw.same (u := U) (U := U.calling g mk a) (tq_bad_t w hw) rfl (h.2.2.1 w hw), va_Nc.moved (u := U) (U := U.calling g mk a) (Vm.Alike.refl U.vm) h.2.2.2⟩
/-- the same, in a later heap, for a smaller part -/
theorem tq_Z.on {A A' : Nat → Prop} {s U : State} {H : Heap} {locs : List Loc} (h : tq_Z A s) (hS : va_S A s.heap H locs) (hU : U.heap = H) (hW : s.WarmedH U.vm) (hAA : ∀ q, A' q → A q) : tq_Z A' U := by
  refine ⟨?_, ?_, tq_badW hW h.2.2.1, h.2.2.2.moved hW.alike⟩
  · rw [hU]; exact ((h.1.kept hS.2.1).moved hW.alike).narrow hAA
  · rw [hU]; exact ((h.2.1.kept hS.2.1).moved hW.alike).narrow hAA
def tq_rz (D : va_G) (ws : va_W) (tys : List (ClassId × FieldType)) (sz : Nat) (U : State) : Prop := tq_rw D ws tys sz U ∧ tq_Z (va_A ws sz) U
theorem tq_b3 {av : List Value} {D : va_G} {ws : va_W} {tys : List (ClassId × FieldType)} {sz : Nat} : FrameBlind (va_Pc av (tq_rz D ws tys sz)) := fun a U g mk q => ⟨q.1, (tq_b2 (av := av) (D := D) (ws := ws) (tys := tys) (sz := sz) a U g mk ⟨q.1, q.2.1⟩).2, q.2.2.call⟩
theorem tx_ISE_h {args : Array Value} {s : State} (hW : ∀ w ∈ tq_W, w.before args s = true) (hN : ∀ w ∈ tq_bad, va_Nw w s) : ∀ w ∈ vx_at0 RX0 25 "java/lang/IllegalStateException" ["java/lang/RuntimeException", "java/lang/Exception"], w.before args s = true := vx_hat (B := tq_bad) (fun w hw => hW w (tx_ISE_g w hw)) tx_ISE_b (fun w hw => va_Nw.use (tq_bad_t w hw) (hN w hw))
theorem tx_IAE_h {args : Array Value} {s : State} (hW : ∀ w ∈ tq_W, w.before args s = true) (hN : ∀ w ∈ tq_bad, va_Nw w s) : ∀ w ∈ vx_at0 RX0 32 "java/lang/IllegalArgumentException" ["java/lang/RuntimeException", "java/lang/Exception"], w.before args s = true := vx_hat (B := tq_bad) (fun w hw => hW w (tx_IAE_g w hw)) tx_IAE_b (fun w hw => va_Nw.use (tq_bad_t w hw) (hN w hw))
theorem tx_NSE_h {args : Array Value} {s : State} (hW : ∀ w ∈ tq_W, w.before args s = true) (hN : ∀ w ∈ tq_bad, va_Nw w s) : ∀ w ∈ vx_at0 RX0 35 "java/util/NoSuchElementException" ["java/lang/RuntimeException", "java/lang/Exception"], w.before args s = true := vx_hat (B := tq_bad) (fun w hw => hW w (tx_NSE_g w hw)) tx_NSE_b (fun w hw => va_Nw.use (tq_bad_t w hw) (hN w hw))
theorem tx_IOB_h {args : Array Value} {s : State} (hW : ∀ w ∈ tq_W, w.before args s = true) (hN : ∀ w ∈ tq_bad, va_Nw w s) : ∀ w ∈ vx_at0 RX0 53 "java/lang/IndexOutOfBoundsException" ["java/lang/RuntimeException", "java/lang/Exception"], w.before args s = true := vx_hat (B := tq_bad) (fun w hw => hW w (tx_IOB_g w hw)) tx_IOB_b (fun w hw => va_Nw.use (tq_bad_t w hw) (hN w hw))
set_option maxHeartbeats 4000000 in
set_option maxRecDepth 100000 in
/-- X_add: refused -/
theorem cx_X_add (l : Launch) (dC : Nat → ClassId) (dI : Nat → Nat → Nat) (x a b : Nat) (cA : ClassId) (n k : Nat) (f g : Nat → Int64) (sz : Nat) (hst : l.stackTraces = false) (v : Int64) (hn : n = 600) : vx_Met l qy_X_add qw_X_add ({ frames := 6, cells := 1, slots := 6, locals := 90 }) (va_Pc [.ref x, .long v] (tq_rz (dC, dI) [(x, .inr (0, [.ref a, .int (nI n), .ref b, .int (nI k)])), (a, .inl (cA, (600, .inr (.inl f)))), (b, .inl (cA, (40, .inr (.inl g))))] [(cA, .long)] sz)) (va_Qi (fun _ (_ : Unit) => False) (fun _ _ => True) (va_A [(x, .inr (0, [.ref a, .int (nI n), .ref b, .int (nI k)])), (a, .inl (cA, (600, .inr (.inl f)))), (b, .inl (cA, (40, .inr (.inl g))))] sz)) (vx_X (fun _ : Unit => True) (fun E _ t => E = "java/lang/IllegalStateException" ∧ tq_in (dC, dI) [(x, .inr (0, [.ref a, .int (nI n), .ref b, .int (nI k)])), (a, .inl (cA, (600, .inr (.inl f)))), (b, .inl (cA, (40, .inr (.inl g))))] [(cA, .long)] (va_A [(x, .inr (0, [.ref a, .int (nI n), .ref b, .int (nI k)])), (a, .inl (cA, (600, .inr (.inl f)))), (b, .inl (cA, (40, .inr (.inl g))))] sz) t) (va_A [(x, .inr (0, [.ref a, .int (nI n), .ref b, .int (nI k)])), (a, .inl (cA, (600, .inr (.inl f)))), (b, .inl (cA, (40, .inr (.inl g))))] sz)) 1 6 (va_A [(x, .inr (0, [.ref a, .int (nI n), .ref b, .int (nI k)])), (a, .inl (cA, (600, .inr (.inl f)))), (b, .inl (cA, (40, .inr (.inl g))))] sz) := by
  refine vx_ofW (cc := qc_X_add) (maxL := 3) (ret := (some .int)) (by decide) rfl ?_
  intro p e s m args below meth c s₁ B hml hnoH hv
  obtain ⟨rfl, ⟨hsz, hP, hK, hD0⟩, hZ⟩ := hv
  have hx := B.exec
  have hb := B.bytes
  have hr := B.returns
  have hts := atoms_spec (ws := qw_X_add) B.pre
  have hW : ∀ w ∈ tq_W, w.before ([.ref x, .long v] : List Value).toArray s = true := fun w h => hts w (List.mem_cons_of_mem _ h)
  have hown : s.vm.findClass RX0 = some m.cls := findClass_of_methodNamed B.named
  have hlocks := B.notSynchronized
  have hl := lv_entry ([.ref x, .long v]) (n := 3) (Nat.le_of_ble_eq_true rfl)
  rw [lg_entry_eq]
  generalize (lg_sl ([.ref x, .long v]) ++ List.replicate (3 - (lg_sl ([.ref x, .long v])).length) Slot.unset).toArray = ls at hl ⊢
  have hl : lv_has ls 3 [(0, .ref x), (1, .long v)] := hl
  subst hsz
  have hD := hD0.self (sz := s.heap.size)
  generalize hAe : va_A [(x, .inr (0, [.ref a, .int (nI n), .ref b, .int (nI k)])), (a, .inl (cA, (600, .inr (.inl f)))), (b, .inl (cA, (40, .inr (.inl g))))] s.heap.size = A at hD hZ ⊢
  have hA : ∀ q : Nat, s.heap.size ≤ q → A q := fun q h => by rw [← hAe]; exact Or.inr h
  have hS : va_S A s.heap s.heap [] := va_S.rf
  refine lv_aload_n hx hb qd_X_add_0 rfl (lv_at hl 0 rfl) ?_
  refine va_get (D := (dC, dI)) (ci := 0) (v := .int (nI n)) (C := RX0) (T := TX0) (N := 4) hx hb hW inX0 hown hK hP 0 rfl rfl 1 (by decide) (hW _ qm_20) (fun _ h9 => h9) rfl qd_X_add_1 ?_
  refine lv_sipush (v := nI 600) hx hb qd_X_add_4 (by decide +kernel) ?_
  refine tq_icmp_lt (x := n) (y := 600) (tgt := 18) hx hb qd_X_add_7 (by decide) (by omega) (by omega) (fun c9 => by omega) (fun c9 => ?_)
  refine vx_throw0 hx hb hst (own := RX0) (cls := "java/lang/IllegalStateException") (names := ["java/lang/RuntimeException", "java/lang/Exception"]) (ik := 23) (ic := 25) (A := A) hown (by decide +kernel) (by decide +kernel) (hW _ qm_90) (hW _ qm_6) (tx_ISE_h hW hZ.2.2.1) tx_ISE_o hZ.1 hZ.2.1 hS (hl.1.trans hml.symm) qd_X_add_10 qd_X_add_13 qd_X_add_14 qd_X_add_17 (fun z9 h9 => (hnoH z9 h9).elim) (Nat.le_of_ble_eq_true rfl) (Nat.le_of_ble_eq_true rfl) (Nat.le_of_ble_eq_true rfl) (Nat.le_of_ble_eq_true rfl) hlocks (fun t hvm hz hk => ⟨(), trivial, ⟨rfl, hP.kept (fun k9 q9 h9 => hk q9.1 ((hP k9 q9 h9).lt)), va_K.moved hvm hK, hD⟩, Nat.le_trans hS.1 hz, fun q h1 h2 => (hk q (Nat.lt_of_lt_of_le h1 hS.1)).trans (hS.2.1 q h1 h2)⟩) hS.2.2 (Nat.le_of_ble_eq_true rfl) (Nat.le_of_ble_eq_true rfl)
set_option maxHeartbeats 4000000 in
set_option maxRecDepth 100000 in
/-- X_fill: refused -/
theorem cx_X_fill (l : Launch) (dC : Nat → ClassId) (dI : Nat → Nat → Nat) (x a b : Nat) (cA : ClassId) (n k : Nat) (f g : Nat → Int64) (sz : Nat) (hst : l.stackTraces = false) (q : Int32) (v step : Int64) (hbad : q < nI 1 ∨ nI 200 < q) : vx_Met l qy_X_fill qw_X_fill ({ frames := 6, cells := 1, slots := 6, locals := 90 }) (va_Pc [.ref x, .int q, .long v, .long step] (tq_rz (dC, dI) [(x, .inr (0, [.ref a, .int (nI n), .ref b, .int (nI k)])), (a, .inl (cA, (600, .inr (.inl f)))), (b, .inl (cA, (40, .inr (.inl g))))] [(cA, .long)] sz)) (va_Qi (fun _ (_ : Unit) => False) (fun _ _ => True) (va_A [(x, .inr (0, [.ref a, .int (nI n), .ref b, .int (nI k)])), (a, .inl (cA, (600, .inr (.inl f)))), (b, .inl (cA, (40, .inr (.inl g))))] sz)) (vx_X (fun _ : Unit => True) (fun E _ t => E = "java/lang/IllegalArgumentException" ∧ tq_in (dC, dI) [(x, .inr (0, [.ref a, .int (nI n), .ref b, .int (nI k)])), (a, .inl (cA, (600, .inr (.inl f)))), (b, .inl (cA, (40, .inr (.inl g))))] [(cA, .long)] (va_A [(x, .inr (0, [.ref a, .int (nI n), .ref b, .int (nI k)])), (a, .inl (cA, (600, .inr (.inl f)))), (b, .inl (cA, (40, .inr (.inl g))))] sz) t) (va_A [(x, .inr (0, [.ref a, .int (nI n), .ref b, .int (nI k)])), (a, .inl (cA, (600, .inr (.inl f)))), (b, .inl (cA, (40, .inr (.inl g))))] sz)) 1 6 (va_A [(x, .inr (0, [.ref a, .int (nI n), .ref b, .int (nI k)])), (a, .inl (cA, (600, .inr (.inl f)))), (b, .inl (cA, (40, .inr (.inl g))))] sz) := by
  refine vx_ofW (cc := qc_X_fill) (maxL := 7) (ret := (some .int)) (by decide) rfl ?_
  intro p e s m args below meth c s₁ B hml hnoH hv
  obtain ⟨rfl, ⟨hsz, hP, hK, hD0⟩, hZ⟩ := hv
  have hx := B.exec
  have hb := B.bytes
  have hr := B.returns
  have hts := atoms_spec (ws := qw_X_fill) B.pre
  have hW : ∀ w ∈ tq_W, w.before ([.ref x, .int q, .long v, .long step] : List Value).toArray s = true := fun w h => hts w (List.mem_cons_of_mem _ h)
  have hown : s.vm.findClass RX0 = some m.cls := findClass_of_methodNamed B.named
  have hlocks := B.notSynchronized
  have hl := lv_entry ([.ref x, .int q, .long v, .long step]) (n := 7) (Nat.le_of_ble_eq_true rfl)
  rw [lg_entry_eq]
  generalize (lg_sl ([.ref x, .int q, .long v, .long step]) ++ List.replicate (7 - (lg_sl ([.ref x, .int q, .long v, .long step])).length) Slot.unset).toArray = ls at hl ⊢
  have hl : lv_has ls 7 [(0, .ref x), (1, .int q), (2, .long v), (4, .long step)] := hl
  subst hsz
  have hD := hD0.self (sz := s.heap.size)
  generalize hAe : va_A [(x, .inr (0, [.ref a, .int (nI n), .ref b, .int (nI k)])), (a, .inl (cA, (600, .inr (.inl f)))), (b, .inl (cA, (40, .inr (.inl g))))] s.heap.size = A at hD hZ ⊢
  have hA : ∀ q : Nat, s.heap.size ≤ q → A q := fun q h => by rw [← hAe]; exact Or.inr h
  have hS : va_S A s.heap s.heap [] := va_S.rf
  refine lv_iload_n hx hb qd_X_fill_0 rfl (lv_at hl 1 rfl) ?_
  refine lv_iconst (v := nI 1) hx hb qd_X_fill_1 (by decide +kernel) ?_
  refine lv_icmp_lt (tgt := 12) hx hb qd_X_fill_2 (by decide) (fun c1 => ?_) (fun c1 => ?_)
  · refine vx_throw0 hx hb hst (own := RX0) (cls := "java/lang/IllegalArgumentException") (names := ["java/lang/RuntimeException", "java/lang/Exception"]) (ik := 30) (ic := 32) (A := A) hown (by decide +kernel) (by decide +kernel) (hW _ qm_162) (hW _ qm_7) (tx_IAE_h hW hZ.2.2.1) tx_IAE_o hZ.1 hZ.2.1 hS (hl.1.trans hml.symm) qd_X_fill_12 qd_X_fill_15 qd_X_fill_16 qd_X_fill_19 (fun z9 h9 => (hnoH z9 h9).elim) (Nat.le_of_ble_eq_true rfl) (Nat.le_of_ble_eq_true rfl) (Nat.le_of_ble_eq_true rfl) (Nat.le_of_ble_eq_true rfl) hlocks (fun t hvm hz hk => ⟨(), trivial, ⟨rfl, hP.kept (fun k9 q9 h9 => hk q9.1 ((hP k9 q9 h9).lt)), va_K.moved hvm hK, hD⟩, Nat.le_trans hS.1 hz, fun q h1 h2 => (hk q (Nat.lt_of_lt_of_le h1 hS.1)).trans (hS.2.1 q h1 h2)⟩) hS.2.2 (Nat.le_of_ble_eq_true rfl) (Nat.le_of_ble_eq_true rfl)
  · have h9 : ¬ q ≤ nI 200 := tq_nle (hbad.elim (fun h => absurd h c1) id)
    refine lv_iload_n hx hb qd_X_fill_5 rfl (lv_at hl 1 rfl) ?_
    refine lv_sipush (v := nI 200) hx hb qd_X_fill_6 (by decide +kernel) ?_
    refine lv_icmp_le (tgt := 20) hx hb qd_X_fill_9 (by decide) (fun c9 => absurd c9 (h9)) (fun c2 => ?_)
    refine vx_throw0 hx hb hst (own := RX0) (cls := "java/lang/IllegalArgumentException") (names := ["java/lang/RuntimeException", "java/lang/Exception"]) (ik := 30) (ic := 32) (A := A) hown (by decide +kernel) (by decide +kernel) (hW _ qm_162) (hW _ qm_7) (tx_IAE_h hW hZ.2.2.1) tx_IAE_o hZ.1 hZ.2.1 hS (hl.1.trans hml.symm) qd_X_fill_12 qd_X_fill_15 qd_X_fill_16 qd_X_fill_19 (fun z9 h9 => (hnoH z9 h9).elim) (Nat.le_of_ble_eq_true rfl) (Nat.le_of_ble_eq_true rfl) (Nat.le_of_ble_eq_true rfl) (Nat.le_of_ble_eq_true rfl) hlocks (fun t hvm hz hk => ⟨(), trivial, ⟨rfl, hP.kept (fun k9 q9 h9 => hk q9.1 ((hP k9 q9 h9).lt)), va_K.moved hvm hK, hD⟩, Nat.le_trans hS.1 hz, fun q h1 h2 => (hk q (Nat.lt_of_lt_of_le h1 hS.1)).trans (hS.2.1 q h1 h2)⟩) hS.2.2 (Nat.le_of_ble_eq_true rfl) (Nat.le_of_ble_eq_true rfl)
set_option maxHeartbeats 4000000 in
set_option maxRecDepth 100000 in
/-- X_fill: refused -/
theorem cx_X_fill2 (l : Launch) (dC : Nat → ClassId) (dI : Nat → Nat → Nat) (x a b : Nat) (cA : ClassId) (n k : Nat) (f g : Nat → Int64) (sz : Nat) (hst : l.stackTraces = false) (j : Nat) (v step : Int64) (h1 : 1 ≤ j) (h2 : j ≤ 200) (hn : 600 < n + j) (hn6 : n ≤ 600) : vx_Met l qy_X_fill qw_X_fill ({ frames := 6, cells := 1, slots := 6, locals := 90 }) (va_Pc [.ref x, .int (nI j), .long v, .long step] (tq_rz (dC, dI) [(x, .inr (0, [.ref a, .int (nI n), .ref b, .int (nI k)])), (a, .inl (cA, (600, .inr (.inl f)))), (b, .inl (cA, (40, .inr (.inl g))))] [(cA, .long)] sz)) (va_Qi (fun _ (_ : Unit) => False) (fun _ _ => True) (va_A [(x, .inr (0, [.ref a, .int (nI n), .ref b, .int (nI k)])), (a, .inl (cA, (600, .inr (.inl f)))), (b, .inl (cA, (40, .inr (.inl g))))] sz)) (vx_X (fun _ : Unit => True) (fun E _ t => E = "java/lang/IllegalStateException" ∧ tq_in (dC, dI) [(x, .inr (0, [.ref a, .int (nI n), .ref b, .int (nI k)])), (a, .inl (cA, (600, .inr (.inl f)))), (b, .inl (cA, (40, .inr (.inl g))))] [(cA, .long)] (va_A [(x, .inr (0, [.ref a, .int (nI n), .ref b, .int (nI k)])), (a, .inl (cA, (600, .inr (.inl f)))), (b, .inl (cA, (40, .inr (.inl g))))] sz) t) (va_A [(x, .inr (0, [.ref a, .int (nI n), .ref b, .int (nI k)])), (a, .inl (cA, (600, .inr (.inl f)))), (b, .inl (cA, (40, .inr (.inl g))))] sz)) 1 6 (va_A [(x, .inr (0, [.ref a, .int (nI n), .ref b, .int (nI k)])), (a, .inl (cA, (600, .inr (.inl f)))), (b, .inl (cA, (40, .inr (.inl g))))] sz) := by
  refine vx_ofW (cc := qc_X_fill) (maxL := 7) (ret := (some .int)) (by decide) rfl ?_
  intro p e s m args below meth c s₁ B hml hnoH hv
  obtain ⟨rfl, ⟨hsz, hP, hK, hD0⟩, hZ⟩ := hv
  have hx := B.exec
  have hb := B.bytes
  have hr := B.returns
  have hts := atoms_spec (ws := qw_X_fill) B.pre
  have hW : ∀ w ∈ tq_W, w.before ([.ref x, .int (nI j), .long v, .long step] : List Value).toArray s = true := fun w h => hts w (List.mem_cons_of_mem _ h)
  have hown : s.vm.findClass RX0 = some m.cls := findClass_of_methodNamed B.named
  have hlocks := B.notSynchronized
  have hl := lv_entry ([.ref x, .int (nI j), .long v, .long step]) (n := 7) (Nat.le_of_ble_eq_true rfl)
  rw [lg_entry_eq]
  generalize (lg_sl ([.ref x, .int (nI j), .long v, .long step]) ++ List.replicate (7 - (lg_sl ([.ref x, .int (nI j), .long v, .long step])).length) Slot.unset).toArray = ls at hl ⊢
  have hl : lv_has ls 7 [(0, .ref x), (1, .int (nI j)), (2, .long v), (4, .long step)] := hl
  subst hsz
  have hD := hD0.self (sz := s.heap.size)
  generalize hAe : va_A [(x, .inr (0, [.ref a, .int (nI n), .ref b, .int (nI k)])), (a, .inl (cA, (600, .inr (.inl f)))), (b, .inl (cA, (40, .inr (.inl g))))] s.heap.size = A at hD hZ ⊢
  have hA : ∀ q : Nat, s.heap.size ≤ q → A q := fun q h => by rw [← hAe]; exact Or.inr h
  have hS : va_S A s.heap s.heap [] := va_S.rf
  refine lv_iload_n hx hb qd_X_fill_0 rfl (lv_at hl 1 rfl) ?_
  refine lv_iconst (v := nI 1) hx hb qd_X_fill_1 (by decide +kernel) ?_
  refine tq_icmp_lt (x := j) (y := 1) (tgt := 12) hx hb qd_X_fill_2 (by decide) (by omega) (by omega) (fun c9 => by omega) (fun c9 => ?_)
  refine lv_iload_n hx hb qd_X_fill_5 rfl (lv_at hl 1 rfl) ?_
  refine lv_sipush (v := nI 200) hx hb qd_X_fill_6 (by decide +kernel) ?_
  refine tq_icmp_le (x := j) (y := 200) (tgt := 20) hx hb qd_X_fill_9 (by decide) (by omega) (by omega) (fun c9 => ?_) (fun c9 => by omega)
  refine lv_aload_n hx hb qd_X_fill_20 rfl (lv_at hl 0 rfl) ?_
  refine va_get (D := (dC, dI)) (ci := 0) (v := .int (nI n)) (C := RX0) (T := TX0) (N := 4) hx hb hW inX0 hown hK hP 0 rfl rfl 1 (by decide) (hW _ qm_20) (fun _ h9 => h9) rfl qd_X_fill_21 ?_
  refine lv_iload_n hx hb qd_X_fill_24 rfl (lv_at hl 1 rfl) ?_
  refine lv_iadd hx hb qd_X_fill_25 ?_
  refine tq_ti (y := nI (n + j)) (nI_add _ _) ?_
  refine lv_sipush (v := nI 600) hx hb qd_X_fill_26 (by decide +kernel) ?_
  refine tq_icmp_le (x := (n + j)) (y := 600) (tgt := 40) hx hb qd_X_fill_29 (by decide) (by omega) (by omega) (fun c9 => by omega) (fun c9 => ?_)
  refine vx_throw0 hx hb hst (own := RX0) (cls := "java/lang/IllegalStateException") (names := ["java/lang/RuntimeException", "java/lang/Exception"]) (ik := 23) (ic := 25) (A := A) hown (by decide +kernel) (by decide +kernel) (hW _ qm_90) (hW _ qm_6) (tx_ISE_h hW hZ.2.2.1) tx_ISE_o hZ.1 hZ.2.1 hS (hl.1.trans hml.symm) qd_X_fill_32 qd_X_fill_35 qd_X_fill_36 qd_X_fill_39 (fun z9 h9 => (hnoH z9 h9).elim) (Nat.le_of_ble_eq_true rfl) (Nat.le_of_ble_eq_true rfl) (Nat.le_of_ble_eq_true rfl) (Nat.le_of_ble_eq_true rfl) hlocks (fun t hvm hz hk => ⟨(), trivial, ⟨rfl, hP.kept (fun k9 q9 h9 => hk q9.1 ((hP k9 q9 h9).lt)), va_K.moved hvm hK, hD⟩, Nat.le_trans hS.1 hz, fun q h1 h2 => (hk q (Nat.lt_of_lt_of_le h1 hS.1)).trans (hS.2.1 q h1 h2)⟩) hS.2.2 (Nat.le_of_ble_eq_true rfl) (Nat.le_of_ble_eq_true rfl)
set_option maxHeartbeats 4000000 in
set_option maxRecDepth 100000 in
/-- X_cut: refused -/
theorem cx_X_cut (l : Launch) (dC : Nat → ClassId) (dI : Nat → Nat → Nat) (x a b : Nat) (cA : ClassId) (n k : Nat) (f g : Nat → Int64) (sz : Nat) (hst : l.stackTraces = false) (q : Int32) (hbad : q < 0 ∨ nI n < q) : vx_Met l qy_X_cut qw_X_cut ({ frames := 6, cells := 1, slots := 6, locals := 90 }) (va_Pc [.ref x, .int q] (tq_rz (dC, dI) [(x, .inr (0, [.ref a, .int (nI n), .ref b, .int (nI k)])), (a, .inl (cA, (600, .inr (.inl f)))), (b, .inl (cA, (40, .inr (.inl g))))] [(cA, .long)] sz)) (va_Qi (fun _ (_ : Unit) => False) (fun _ _ => True) (va_A [(x, .inr (0, [.ref a, .int (nI n), .ref b, .int (nI k)])), (a, .inl (cA, (600, .inr (.inl f)))), (b, .inl (cA, (40, .inr (.inl g))))] sz)) (vx_X (fun _ : Unit => True) (fun E _ t => E = "java/lang/IllegalArgumentException" ∧ tq_in (dC, dI) [(x, .inr (0, [.ref a, .int (nI n), .ref b, .int (nI k)])), (a, .inl (cA, (600, .inr (.inl f)))), (b, .inl (cA, (40, .inr (.inl g))))] [(cA, .long)] (va_A [(x, .inr (0, [.ref a, .int (nI n), .ref b, .int (nI k)])), (a, .inl (cA, (600, .inr (.inl f)))), (b, .inl (cA, (40, .inr (.inl g))))] sz) t) (va_A [(x, .inr (0, [.ref a, .int (nI n), .ref b, .int (nI k)])), (a, .inl (cA, (600, .inr (.inl f)))), (b, .inl (cA, (40, .inr (.inl g))))] sz)) 1 6 (va_A [(x, .inr (0, [.ref a, .int (nI n), .ref b, .int (nI k)])), (a, .inl (cA, (600, .inr (.inl f)))), (b, .inl (cA, (40, .inr (.inl g))))] sz) := by
  refine vx_ofW (cc := qc_X_cut) (maxL := 3) (ret := (some .int)) (by decide) rfl ?_
  intro p e s m args below meth c s₁ B hml hnoH hv
  obtain ⟨rfl, ⟨hsz, hP, hK, hD0⟩, hZ⟩ := hv
  have hx := B.exec
  have hb := B.bytes
  have hr := B.returns
  have hts := atoms_spec (ws := qw_X_cut) B.pre
  have hW : ∀ w ∈ tq_W, w.before ([.ref x, .int q] : List Value).toArray s = true := fun w h => hts w (List.mem_cons_of_mem _ h)
  have hown : s.vm.findClass RX0 = some m.cls := findClass_of_methodNamed B.named
  have hlocks := B.notSynchronized
  have hl := lv_entry ([.ref x, .int q]) (n := 3) (Nat.le_of_ble_eq_true rfl)
  rw [lg_entry_eq]
  generalize (lg_sl ([.ref x, .int q]) ++ List.replicate (3 - (lg_sl ([.ref x, .int q])).length) Slot.unset).toArray = ls at hl ⊢
  have hl : lv_has ls 3 [(0, .ref x), (1, .int q)] := hl
  subst hsz
  have hD := hD0.self (sz := s.heap.size)
  generalize hAe : va_A [(x, .inr (0, [.ref a, .int (nI n), .ref b, .int (nI k)])), (a, .inl (cA, (600, .inr (.inl f)))), (b, .inl (cA, (40, .inr (.inl g))))] s.heap.size = A at hD hZ ⊢
  have hA : ∀ q : Nat, s.heap.size ≤ q → A q := fun q h => by rw [← hAe]; exact Or.inr h
  have hS : va_S A s.heap s.heap [] := va_S.rf
  refine lv_iload_n hx hb qd_X_cut_0 rfl (lv_at hl 1 rfl) ?_
  refine lv_if_lt (tgt := 12) hx hb qd_X_cut_1 (by decide) (fun c1 => ?_) (fun c1 => ?_)
  · refine vx_throw0 hx hb hst (own := RX0) (cls := "java/lang/IllegalArgumentException") (names := ["java/lang/RuntimeException", "java/lang/Exception"]) (ik := 30) (ic := 32) (A := A) hown (by decide +kernel) (by decide +kernel) (hW _ qm_162) (hW _ qm_7) (tx_IAE_h hW hZ.2.2.1) tx_IAE_o hZ.1 hZ.2.1 hS (hl.1.trans hml.symm) qd_X_cut_12 qd_X_cut_15 qd_X_cut_16 qd_X_cut_19 (fun z9 h9 => (hnoH z9 h9).elim) (Nat.le_of_ble_eq_true rfl) (Nat.le_of_ble_eq_true rfl) (Nat.le_of_ble_eq_true rfl) (Nat.le_of_ble_eq_true rfl) hlocks (fun t hvm hz hk => ⟨(), trivial, ⟨rfl, hP.kept (fun k9 q9 h9 => hk q9.1 ((hP k9 q9 h9).lt)), va_K.moved hvm hK, hD⟩, Nat.le_trans hS.1 hz, fun q h1 h2 => (hk q (Nat.lt_of_lt_of_le h1 hS.1)).trans (hS.2.1 q h1 h2)⟩) hS.2.2 (Nat.le_of_ble_eq_true rfl) (Nat.le_of_ble_eq_true rfl)
  · have h9 : ¬ q ≤ nI n := tq_nle (hbad.elim (fun h => absurd h c1) id)
    refine lv_iload_n hx hb qd_X_cut_4 rfl (lv_at hl 1 rfl) ?_
    refine lv_aload_n hx hb qd_X_cut_5 rfl (lv_at hl 0 rfl) ?_
    refine va_get (D := (dC, dI)) (ci := 0) (v := .int (nI n)) (C := RX0) (T := TX0) (N := 4) hx hb hW inX0 hown hK hP 0 rfl rfl 1 (by decide) (hW _ qm_20) (fun _ h9 => h9) rfl qd_X_cut_6 ?_
    refine lv_icmp_le (tgt := 20) hx hb qd_X_cut_9 (by decide) (fun c9 => absurd c9 (h9)) (fun c2 => ?_)
    refine vx_throw0 hx hb hst (own := RX0) (cls := "java/lang/IllegalArgumentException") (names := ["java/lang/RuntimeException", "java/lang/Exception"]) (ik := 30) (ic := 32) (A := A) hown (by decide +kernel) (by decide +kernel) (hW _ qm_162) (hW _ qm_7) (tx_IAE_h hW hZ.2.2.1) tx_IAE_o hZ.1 hZ.2.1 hS (hl.1.trans hml.symm) qd_X_cut_12 qd_X_cut_15 qd_X_cut_16 qd_X_cut_19 (fun z9 h9 => (hnoH z9 h9).elim) (Nat.le_of_ble_eq_true rfl) (Nat.le_of_ble_eq_true rfl) (Nat.le_of_ble_eq_true rfl) (Nat.le_of_ble_eq_true rfl) hlocks (fun t hvm hz hk => ⟨(), trivial, ⟨rfl, hP.kept (fun k9 q9 h9 => hk q9.1 ((hP k9 q9 h9).lt)), va_K.moved hvm hK, hD⟩, Nat.le_trans hS.1 hz, fun q h1 h2 => (hk q (Nat.lt_of_lt_of_le h1 hS.1)).trans (hS.2.1 q h1 h2)⟩) hS.2.2 (Nat.le_of_ble_eq_true rfl) (Nat.le_of_ble_eq_true rfl)
set_option maxHeartbeats 4000000 in
set_option maxRecDepth 100000 in
/-- X_head: refused -/
theorem cx_X_head (l : Launch) (dC : Nat → ClassId) (dI : Nat → Nat → Nat) (x a b : Nat) (cA : ClassId) (n k : Nat) (f g : Nat → Int64) (sz : Nat) (hst : l.stackTraces = false) (q : Int32) (hbad : q < 0 ∨ nI n < q) : vx_Met l qy_X_head qw_X_head ({ frames := 6, cells := 1, slots := 6, locals := 90 }) (va_Pc [.ref x, .int q] (tq_rz (dC, dI) [(x, .inr (0, [.ref a, .int (nI n), .ref b, .int (nI k)])), (a, .inl (cA, (600, .inr (.inl f)))), (b, .inl (cA, (40, .inr (.inl g))))] [(cA, .long)] sz)) (va_Ql (fun _ (_ : Unit) => False) (fun _ _ => True) (va_A [(x, .inr (0, [.ref a, .int (nI n), .ref b, .int (nI k)])), (a, .inl (cA, (600, .inr (.inl f)))), (b, .inl (cA, (40, .inr (.inl g))))] sz)) (vx_X (fun _ : Unit => True) (fun E _ t => E = "java/util/NoSuchElementException" ∧ tq_in (dC, dI) [(x, .inr (0, [.ref a, .int (nI n), .ref b, .int (nI k)])), (a, .inl (cA, (600, .inr (.inl f)))), (b, .inl (cA, (40, .inr (.inl g))))] [(cA, .long)] (va_A [(x, .inr (0, [.ref a, .int (nI n), .ref b, .int (nI k)])), (a, .inl (cA, (600, .inr (.inl f)))), (b, .inl (cA, (40, .inr (.inl g))))] sz) t) (va_A [(x, .inr (0, [.ref a, .int (nI n), .ref b, .int (nI k)])), (a, .inl (cA, (600, .inr (.inl f)))), (b, .inl (cA, (40, .inr (.inl g))))] sz)) 1 6 (va_A [(x, .inr (0, [.ref a, .int (nI n), .ref b, .int (nI k)])), (a, .inl (cA, (600, .inr (.inl f)))), (b, .inl (cA, (40, .inr (.inl g))))] sz) := by
  refine vx_ofW (cc := qc_X_head) (maxL := 2) (ret := (some .long)) (by decide) rfl ?_
  intro p e s m args below meth c s₁ B hml hnoH hv
  obtain ⟨rfl, ⟨hsz, hP, hK, hD0⟩, hZ⟩ := hv
  have hx := B.exec
  have hb := B.bytes
  have hr := B.returns
  have hts := atoms_spec (ws := qw_X_head) B.pre
  have hW : ∀ w ∈ tq_W, w.before ([.ref x, .int q] : List Value).toArray s = true := fun w h => hts w (List.mem_cons_of_mem _ h)
  have hown : s.vm.findClass RX0 = some m.cls := findClass_of_methodNamed B.named
  have hlocks := B.notSynchronized
  have hl := lv_entry ([.ref x, .int q]) (n := 2) (Nat.le_of_ble_eq_true rfl)
  rw [lg_entry_eq]
  generalize (lg_sl ([.ref x, .int q]) ++ List.replicate (2 - (lg_sl ([.ref x, .int q])).length) Slot.unset).toArray = ls at hl ⊢
  have hl : lv_has ls 2 [(0, .ref x), (1, .int q)] := hl
  subst hsz
  have hD := hD0.self (sz := s.heap.size)
  generalize hAe : va_A [(x, .inr (0, [.ref a, .int (nI n), .ref b, .int (nI k)])), (a, .inl (cA, (600, .inr (.inl f)))), (b, .inl (cA, (40, .inr (.inl g))))] s.heap.size = A at hD hZ ⊢
  have hA : ∀ q : Nat, s.heap.size ≤ q → A q := fun q h => by rw [← hAe]; exact Or.inr h
  have hS : va_S A s.heap s.heap [] := va_S.rf
  refine lv_iload_n hx hb qd_X_head_0 rfl (lv_at hl 1 rfl) ?_
  refine lv_if_lt (tgt := 12) hx hb qd_X_head_1 (by decide) (fun c1 => ?_) (fun c1 => ?_)
  · refine vx_throw0 hx hb hst (own := RX0) (cls := "java/util/NoSuchElementException") (names := ["java/lang/RuntimeException", "java/lang/Exception"]) (ik := 33) (ic := 35) (A := A) hown (by decide +kernel) (by decide +kernel) (hW _ qm_192) (hW _ qm_8) (tx_NSE_h hW hZ.2.2.1) tx_NSE_o hZ.1 hZ.2.1 hS (hl.1.trans hml.symm) qd_X_head_12 qd_X_head_15 qd_X_head_16 qd_X_head_19 (fun z9 h9 => (hnoH z9 h9).elim) (Nat.le_of_ble_eq_true rfl) (Nat.le_of_ble_eq_true rfl) (Nat.le_of_ble_eq_true rfl) (Nat.le_of_ble_eq_true rfl) hlocks (fun t hvm hz hk => ⟨(), trivial, ⟨rfl, hP.kept (fun k9 q9 h9 => hk q9.1 ((hP k9 q9 h9).lt)), va_K.moved hvm hK, hD⟩, Nat.le_trans hS.1 hz, fun q h1 h2 => (hk q (Nat.lt_of_lt_of_le h1 hS.1)).trans (hS.2.1 q h1 h2)⟩) hS.2.2 (Nat.le_of_ble_eq_true rfl) (Nat.le_of_ble_eq_true rfl)
  · have h9 : ¬ q ≤ nI n := tq_nle (hbad.elim (fun h => absurd h c1) id)
    refine lv_iload_n hx hb qd_X_head_4 rfl (lv_at hl 1 rfl) ?_
    refine lv_aload_n hx hb qd_X_head_5 rfl (lv_at hl 0 rfl) ?_
    refine va_get (D := (dC, dI)) (ci := 0) (v := .int (nI n)) (C := RX0) (T := TX0) (N := 4) hx hb hW inX0 hown hK hP 0 rfl rfl 1 (by decide) (hW _ qm_20) (fun _ h9 => h9) rfl qd_X_head_6 ?_
    refine lv_icmp_le (tgt := 20) hx hb qd_X_head_9 (by decide) (fun c9 => absurd c9 (h9)) (fun c2 => ?_)
    refine vx_throw0 hx hb hst (own := RX0) (cls := "java/util/NoSuchElementException") (names := ["java/lang/RuntimeException", "java/lang/Exception"]) (ik := 33) (ic := 35) (A := A) hown (by decide +kernel) (by decide +kernel) (hW _ qm_192) (hW _ qm_8) (tx_NSE_h hW hZ.2.2.1) tx_NSE_o hZ.1 hZ.2.1 hS (hl.1.trans hml.symm) qd_X_head_12 qd_X_head_15 qd_X_head_16 qd_X_head_19 (fun z9 h9 => (hnoH z9 h9).elim) (Nat.le_of_ble_eq_true rfl) (Nat.le_of_ble_eq_true rfl) (Nat.le_of_ble_eq_true rfl) (Nat.le_of_ble_eq_true rfl) hlocks (fun t hvm hz hk => ⟨(), trivial, ⟨rfl, hP.kept (fun k9 q9 h9 => hk q9.1 ((hP k9 q9 h9).lt)), va_K.moved hvm hK, hD⟩, Nat.le_trans hS.1 hz, fun q h1 h2 => (hk q (Nat.lt_of_lt_of_le h1 hS.1)).trans (hS.2.1 q h1 h2)⟩) hS.2.2 (Nat.le_of_ble_eq_true rfl) (Nat.le_of_ble_eq_true rfl)
set_option maxHeartbeats 4000000 in
set_option maxRecDepth 100000 in
/-- X_length: refused -/
theorem cx_X_length (l : Launch) (dC : Nat → ClassId) (dI : Nat → Nat → Nat) (x a b : Nat) (cA : ClassId) (n k : Nat) (f g : Nat → Int64) (sz : Nat) (hst : l.stackTraces = false) (q : Int32) (hbad : q < 0 ∨ nI 40 < q) : vx_Met l qy_X_length qw_X_length ({ frames := 6, cells := 1, slots := 6, locals := 90 }) (va_Pc [.ref x, .int q] (tq_rz (dC, dI) [(x, .inr (0, [.ref a, .int (nI n), .ref b, .int (nI k)])), (a, .inl (cA, (600, .inr (.inl f)))), (b, .inl (cA, (40, .inr (.inl g))))] [(cA, .long)] sz)) (va_Qi (fun _ (_ : Unit) => False) (fun _ _ => True) (va_A [(x, .inr (0, [.ref a, .int (nI n), .ref b, .int (nI k)])), (a, .inl (cA, (600, .inr (.inl f)))), (b, .inl (cA, (40, .inr (.inl g))))] sz)) (vx_X (fun _ : Unit => True) (fun E _ t => E = "java/lang/IllegalArgumentException" ∧ tq_in (dC, dI) [(x, .inr (0, [.ref a, .int (nI n), .ref b, .int (nI k)])), (a, .inl (cA, (600, .inr (.inl f)))), (b, .inl (cA, (40, .inr (.inl g))))] [(cA, .long)] (va_A [(x, .inr (0, [.ref a, .int (nI n), .ref b, .int (nI k)])), (a, .inl (cA, (600, .inr (.inl f)))), (b, .inl (cA, (40, .inr (.inl g))))] sz) t) (va_A [(x, .inr (0, [.ref a, .int (nI n), .ref b, .int (nI k)])), (a, .inl (cA, (600, .inr (.inl f)))), (b, .inl (cA, (40, .inr (.inl g))))] sz)) 1 6 (va_A [(x, .inr (0, [.ref a, .int (nI n), .ref b, .int (nI k)])), (a, .inl (cA, (600, .inr (.inl f)))), (b, .inl (cA, (40, .inr (.inl g))))] sz) := by
  refine vx_ofW (cc := qc_X_length) (maxL := 4) (ret := (some .int)) (by decide) rfl ?_
  intro p e s m args below meth c s₁ B hml hnoH hv
  obtain ⟨rfl, ⟨hsz, hP, hK, hD0⟩, hZ⟩ := hv
  have hx := B.exec
  have hb := B.bytes
  have hr := B.returns
  have hts := atoms_spec (ws := qw_X_length) B.pre
  have hW : ∀ w ∈ tq_W, w.before ([.ref x, .int q] : List Value).toArray s = true := fun w h => hts w (List.mem_cons_of_mem _ h)
  have hown : s.vm.findClass RX0 = some m.cls := findClass_of_methodNamed B.named
  have hlocks := B.notSynchronized
  have hl := lv_entry ([.ref x, .int q]) (n := 4) (Nat.le_of_ble_eq_true rfl)
  rw [lg_entry_eq]
  generalize (lg_sl ([.ref x, .int q]) ++ List.replicate (4 - (lg_sl ([.ref x, .int q])).length) Slot.unset).toArray = ls at hl ⊢
  have hl : lv_has ls 4 [(0, .ref x), (1, .int q)] := hl
  subst hsz
  have hD := hD0.self (sz := s.heap.size)
  generalize hAe : va_A [(x, .inr (0, [.ref a, .int (nI n), .ref b, .int (nI k)])), (a, .inl (cA, (600, .inr (.inl f)))), (b, .inl (cA, (40, .inr (.inl g))))] s.heap.size = A at hD hZ ⊢
  have hA : ∀ q : Nat, s.heap.size ≤ q → A q := fun q h => by rw [← hAe]; exact Or.inr h
  have hS : va_S A s.heap s.heap [] := va_S.rf
  refine lv_iload_n hx hb qd_X_length_0 rfl (lv_at hl 1 rfl) ?_
  refine lv_if_lt (tgt := 10) hx hb qd_X_length_1 (by decide) (fun c1 => ?_) (fun c1 => ?_)
  · refine vx_throw0 hx hb hst (own := RX0) (cls := "java/lang/IllegalArgumentException") (names := ["java/lang/RuntimeException", "java/lang/Exception"]) (ik := 30) (ic := 32) (A := A) hown (by decide +kernel) (by decide +kernel) (hW _ qm_162) (hW _ qm_7) (tx_IAE_h hW hZ.2.2.1) tx_IAE_o hZ.1 hZ.2.1 hS (hl.1.trans hml.symm) qd_X_length_10 qd_X_length_13 qd_X_length_14 qd_X_length_17 (fun z9 h9 => (hnoH z9 h9).elim) (Nat.le_of_ble_eq_true rfl) (Nat.le_of_ble_eq_true rfl) (Nat.le_of_ble_eq_true rfl) (Nat.le_of_ble_eq_true rfl) hlocks (fun t hvm hz hk => ⟨(), trivial, ⟨rfl, hP.kept (fun k9 q9 h9 => hk q9.1 ((hP k9 q9 h9).lt)), va_K.moved hvm hK, hD⟩, Nat.le_trans hS.1 hz, fun q h1 h2 => (hk q (Nat.lt_of_lt_of_le h1 hS.1)).trans (hS.2.1 q h1 h2)⟩) hS.2.2 (Nat.le_of_ble_eq_true rfl) (Nat.le_of_ble_eq_true rfl)
  · have h9 : ¬ q ≤ nI 40 := tq_nle (hbad.elim (fun h => absurd h c1) id)
    refine lv_iload_n hx hb qd_X_length_4 rfl (lv_at hl 1 rfl) ?_
    refine lv_bipush (v := nI 40) hx hb qd_X_length_5 (by decide +kernel) ?_
    refine lv_icmp_le (tgt := 18) hx hb qd_X_length_7 (by decide) (fun c9 => absurd c9 (h9)) (fun c2 => ?_)
    refine vx_throw0 hx hb hst (own := RX0) (cls := "java/lang/IllegalArgumentException") (names := ["java/lang/RuntimeException", "java/lang/Exception"]) (ik := 30) (ic := 32) (A := A) hown (by decide +kernel) (by decide +kernel) (hW _ qm_162) (hW _ qm_7) (tx_IAE_h hW hZ.2.2.1) tx_IAE_o hZ.1 hZ.2.1 hS (hl.1.trans hml.symm) qd_X_length_10 qd_X_length_13 qd_X_length_14 qd_X_length_17 (fun z9 h9 => (hnoH z9 h9).elim) (Nat.le_of_ble_eq_true rfl) (Nat.le_of_ble_eq_true rfl) (Nat.le_of_ble_eq_true rfl) (Nat.le_of_ble_eq_true rfl) hlocks (fun t hvm hz hk => ⟨(), trivial, ⟨rfl, hP.kept (fun k9 q9 h9 => hk q9.1 ((hP k9 q9 h9).lt)), va_K.moved hvm hK, hD⟩, Nat.le_trans hS.1 hz, fun q h1 h2 => (hk q (Nat.lt_of_lt_of_le h1 hS.1)).trans (hS.2.1 q h1 h2)⟩) hS.2.2 (Nat.le_of_ble_eq_true rfl) (Nat.le_of_ble_eq_true rfl)
set_option maxHeartbeats 4000000 in
set_option maxRecDepth 100000 in
/-- X_find: refused -/
theorem cx_X_find (l : Launch) (dC : Nat → ClassId) (dI : Nat → Nat → Nat) (x a b : Nat) (cA : ClassId) (n k : Nat) (f g : Nat → Int64) (sz : Nat) (hst : l.stackTraces = false) (q : Int32) (v : Int64) (hbad : q < 0 ∨ nI n < q) : vx_Met l qy_X_find qw_X_find ({ frames := 6, cells := 1, slots := 6, locals := 90 }) (va_Pc [.ref x, .int q, .long v] (tq_rz (dC, dI) [(x, .inr (0, [.ref a, .int (nI n), .ref b, .int (nI k)])), (a, .inl (cA, (600, .inr (.inl f)))), (b, .inl (cA, (40, .inr (.inl g))))] [(cA, .long)] sz)) (va_Qi (fun _ (_ : Unit) => False) (fun _ _ => True) (va_A [(x, .inr (0, [.ref a, .int (nI n), .ref b, .int (nI k)])), (a, .inl (cA, (600, .inr (.inl f)))), (b, .inl (cA, (40, .inr (.inl g))))] sz)) (vx_X (fun _ : Unit => True) (fun E _ t => E = "java/util/NoSuchElementException" ∧ tq_in (dC, dI) [(x, .inr (0, [.ref a, .int (nI n), .ref b, .int (nI k)])), (a, .inl (cA, (600, .inr (.inl f)))), (b, .inl (cA, (40, .inr (.inl g))))] [(cA, .long)] (va_A [(x, .inr (0, [.ref a, .int (nI n), .ref b, .int (nI k)])), (a, .inl (cA, (600, .inr (.inl f)))), (b, .inl (cA, (40, .inr (.inl g))))] sz) t) (va_A [(x, .inr (0, [.ref a, .int (nI n), .ref b, .int (nI k)])), (a, .inl (cA, (600, .inr (.inl f)))), (b, .inl (cA, (40, .inr (.inl g))))] sz)) 1 6 (va_A [(x, .inr (0, [.ref a, .int (nI n), .ref b, .int (nI k)])), (a, .inl (cA, (600, .inr (.inl f)))), (b, .inl (cA, (40, .inr (.inl g))))] sz) := by
  refine vx_ofW (cc := qc_X_find) (maxL := 7) (ret := (some .int)) (by decide) rfl ?_
  intro p e s m args below meth c s₁ B hml hnoH hv
  obtain ⟨rfl, ⟨hsz, hP, hK, hD0⟩, hZ⟩ := hv
  have hx := B.exec
  have hb := B.bytes
  have hr := B.returns
  have hts := atoms_spec (ws := qw_X_find) B.pre
  have hW : ∀ w ∈ tq_W, w.before ([.ref x, .int q, .long v] : List Value).toArray s = true := fun w h => hts w (List.mem_cons_of_mem _ h)
  have hown : s.vm.findClass RX0 = some m.cls := findClass_of_methodNamed B.named
  have hlocks := B.notSynchronized
  have hl := lv_entry ([.ref x, .int q, .long v]) (n := 7) (Nat.le_of_ble_eq_true rfl)
  rw [lg_entry_eq]
  generalize (lg_sl ([.ref x, .int q, .long v]) ++ List.replicate (7 - (lg_sl ([.ref x, .int q, .long v])).length) Slot.unset).toArray = ls at hl ⊢
  have hl : lv_has ls 7 [(0, .ref x), (1, .int q), (2, .long v)] := hl
  subst hsz
  have hD := hD0.self (sz := s.heap.size)
  generalize hAe : va_A [(x, .inr (0, [.ref a, .int (nI n), .ref b, .int (nI k)])), (a, .inl (cA, (600, .inr (.inl f)))), (b, .inl (cA, (40, .inr (.inl g))))] s.heap.size = A at hD hZ ⊢
  have hA : ∀ q : Nat, s.heap.size ≤ q → A q := fun q h => by rw [← hAe]; exact Or.inr h
  have hS : va_S A s.heap s.heap [] := va_S.rf
  refine lv_iload_n hx hb qd_X_find_0 rfl (lv_at hl 1 rfl) ?_
  refine lv_if_lt (tgt := 12) hx hb qd_X_find_1 (by decide) (fun c1 => ?_) (fun c1 => ?_)
  · refine vx_throw0 hx hb hst (own := RX0) (cls := "java/util/NoSuchElementException") (names := ["java/lang/RuntimeException", "java/lang/Exception"]) (ik := 33) (ic := 35) (A := A) hown (by decide +kernel) (by decide +kernel) (hW _ qm_192) (hW _ qm_8) (tx_NSE_h hW hZ.2.2.1) tx_NSE_o hZ.1 hZ.2.1 hS (hl.1.trans hml.symm) qd_X_find_12 qd_X_find_15 qd_X_find_16 qd_X_find_19 (fun z9 h9 => (hnoH z9 h9).elim) (Nat.le_of_ble_eq_true rfl) (Nat.le_of_ble_eq_true rfl) (Nat.le_of_ble_eq_true rfl) (Nat.le_of_ble_eq_true rfl) hlocks (fun t hvm hz hk => ⟨(), trivial, ⟨rfl, hP.kept (fun k9 q9 h9 => hk q9.1 ((hP k9 q9 h9).lt)), va_K.moved hvm hK, hD⟩, Nat.le_trans hS.1 hz, fun q h1 h2 => (hk q (Nat.lt_of_lt_of_le h1 hS.1)).trans (hS.2.1 q h1 h2)⟩) hS.2.2 (Nat.le_of_ble_eq_true rfl) (Nat.le_of_ble_eq_true rfl)
  · have h9 : ¬ q ≤ nI n := tq_nle (hbad.elim (fun h => absurd h c1) id)
    refine lv_iload_n hx hb qd_X_find_4 rfl (lv_at hl 1 rfl) ?_
    refine lv_aload_n hx hb qd_X_find_5 rfl (lv_at hl 0 rfl) ?_
    refine va_get (D := (dC, dI)) (ci := 0) (v := .int (nI n)) (C := RX0) (T := TX0) (N := 4) hx hb hW inX0 hown hK hP 0 rfl rfl 1 (by decide) (hW _ qm_20) (fun _ h9 => h9) rfl qd_X_find_6 ?_
    refine lv_icmp_le (tgt := 20) hx hb qd_X_find_9 (by decide) (fun c9 => absurd c9 (h9)) (fun c2 => ?_)
    refine vx_throw0 hx hb hst (own := RX0) (cls := "java/util/NoSuchElementException") (names := ["java/lang/RuntimeException", "java/lang/Exception"]) (ik := 33) (ic := 35) (A := A) hown (by decide +kernel) (by decide +kernel) (hW _ qm_192) (hW _ qm_8) (tx_NSE_h hW hZ.2.2.1) tx_NSE_o hZ.1 hZ.2.1 hS (hl.1.trans hml.symm) qd_X_find_12 qd_X_find_15 qd_X_find_16 qd_X_find_19 (fun z9 h9 => (hnoH z9 h9).elim) (Nat.le_of_ble_eq_true rfl) (Nat.le_of_ble_eq_true rfl) (Nat.le_of_ble_eq_true rfl) (Nat.le_of_ble_eq_true rfl) hlocks (fun t hvm hz hk => ⟨(), trivial, ⟨rfl, hP.kept (fun k9 q9 h9 => hk q9.1 ((hP k9 q9 h9).lt)), va_K.moved hvm hK, hD⟩, Nat.le_trans hS.1 hz, fun q h1 h2 => (hk q (Nat.lt_of_lt_of_le h1 hS.1)).trans (hS.2.1 q h1 h2)⟩) hS.2.2 (Nat.le_of_ble_eq_true rfl) (Nat.le_of_ble_eq_true rfl)
set_option maxHeartbeats 4000000 in
set_option maxRecDepth 100000 in
/-- X_proof: refused -/
theorem cx_X_proof (l : Launch) (dC : Nat → ClassId) (dI : Nat → Nat → Nat) (x a b : Nat) (cA : ClassId) (n k : Nat) (f g : Nat → Int64) (sz : Nat) (hst : l.stackTraces = false) (q : Int32) (hbad : q < 0 ∨ nI k ≤ q) : vx_Met l qy_X_proof qw_X_proof ({ frames := 6, cells := 1, slots := 6, locals := 90 }) (va_Pc [.ref x, .int q] (tq_rz (dC, dI) [(x, .inr (0, [.ref a, .int (nI n), .ref b, .int (nI k)])), (a, .inl (cA, (600, .inr (.inl f)))), (b, .inl (cA, (40, .inr (.inl g))))] [(cA, .long)] sz)) (va_Ql (fun _ (_ : Unit) => False) (fun _ _ => True) (va_A [(x, .inr (0, [.ref a, .int (nI n), .ref b, .int (nI k)])), (a, .inl (cA, (600, .inr (.inl f)))), (b, .inl (cA, (40, .inr (.inl g))))] sz)) (vx_X (fun _ : Unit => True) (fun E _ t => E = "java/lang/IndexOutOfBoundsException" ∧ tq_in (dC, dI) [(x, .inr (0, [.ref a, .int (nI n), .ref b, .int (nI k)])), (a, .inl (cA, (600, .inr (.inl f)))), (b, .inl (cA, (40, .inr (.inl g))))] [(cA, .long)] (va_A [(x, .inr (0, [.ref a, .int (nI n), .ref b, .int (nI k)])), (a, .inl (cA, (600, .inr (.inl f)))), (b, .inl (cA, (40, .inr (.inl g))))] sz) t) (va_A [(x, .inr (0, [.ref a, .int (nI n), .ref b, .int (nI k)])), (a, .inl (cA, (600, .inr (.inl f)))), (b, .inl (cA, (40, .inr (.inl g))))] sz)) 1 6 (va_A [(x, .inr (0, [.ref a, .int (nI n), .ref b, .int (nI k)])), (a, .inl (cA, (600, .inr (.inl f)))), (b, .inl (cA, (40, .inr (.inl g))))] sz) := by
  refine vx_ofW (cc := qc_X_proof) (maxL := 2) (ret := (some .long)) (by decide) rfl ?_
  intro p e s m args below meth c s₁ B hml hnoH hv
  obtain ⟨rfl, ⟨hsz, hP, hK, hD0⟩, hZ⟩ := hv
  have hx := B.exec
  have hb := B.bytes
  have hr := B.returns
  have hts := atoms_spec (ws := qw_X_proof) B.pre
  have hW : ∀ w ∈ tq_W, w.before ([.ref x, .int q] : List Value).toArray s = true := fun w h => hts w (List.mem_cons_of_mem _ h)
  have hown : s.vm.findClass RX0 = some m.cls := findClass_of_methodNamed B.named
  have hlocks := B.notSynchronized
  have hl := lv_entry ([.ref x, .int q]) (n := 2) (Nat.le_of_ble_eq_true rfl)
  rw [lg_entry_eq]
  generalize (lg_sl ([.ref x, .int q]) ++ List.replicate (2 - (lg_sl ([.ref x, .int q])).length) Slot.unset).toArray = ls at hl ⊢
  have hl : lv_has ls 2 [(0, .ref x), (1, .int q)] := hl
  subst hsz
  have hD := hD0.self (sz := s.heap.size)
  generalize hAe : va_A [(x, .inr (0, [.ref a, .int (nI n), .ref b, .int (nI k)])), (a, .inl (cA, (600, .inr (.inl f)))), (b, .inl (cA, (40, .inr (.inl g))))] s.heap.size = A at hD hZ ⊢
  have hA : ∀ q : Nat, s.heap.size ≤ q → A q := fun q h => by rw [← hAe]; exact Or.inr h
  have hS : va_S A s.heap s.heap [] := va_S.rf
  refine lv_iload_n hx hb qd_X_proof_0 rfl (lv_at hl 1 rfl) ?_
  refine lv_if_lt (tgt := 12) hx hb qd_X_proof_1 (by decide) (fun c1 => ?_) (fun c1 => ?_)
  · refine vx_throw0 hx hb hst (own := RX0) (cls := "java/lang/IndexOutOfBoundsException") (names := ["java/lang/RuntimeException", "java/lang/Exception"]) (ik := 51) (ic := 53) (A := A) hown (by decide +kernel) (by decide +kernel) (hW _ qm_239) (hW _ qm_9) (tx_IOB_h hW hZ.2.2.1) tx_IOB_o hZ.1 hZ.2.1 hS (hl.1.trans hml.symm) qd_X_proof_12 qd_X_proof_15 qd_X_proof_16 qd_X_proof_19 (fun z9 h9 => (hnoH z9 h9).elim) (Nat.le_of_ble_eq_true rfl) (Nat.le_of_ble_eq_true rfl) (Nat.le_of_ble_eq_true rfl) (Nat.le_of_ble_eq_true rfl) hlocks (fun t hvm hz hk => ⟨(), trivial, ⟨rfl, hP.kept (fun k9 q9 h9 => hk q9.1 ((hP k9 q9 h9).lt)), va_K.moved hvm hK, hD⟩, Nat.le_trans hS.1 hz, fun q h1 h2 => (hk q (Nat.lt_of_lt_of_le h1 hS.1)).trans (hS.2.1 q h1 h2)⟩) hS.2.2 (Nat.le_of_ble_eq_true rfl) (Nat.le_of_ble_eq_true rfl)
  · have h9 : ¬ q < nI k := fun h8 => tq_nle h8 (hbad.elim (fun h => absurd h c1) id)
    refine lv_iload_n hx hb qd_X_proof_4 rfl (lv_at hl 1 rfl) ?_
    refine lv_aload_n hx hb qd_X_proof_5 rfl (lv_at hl 0 rfl) ?_
    refine va_get (D := (dC, dI)) (ci := 0) (v := .int (nI k)) (C := RX0) (T := TX0) (N := 4) hx hb hW inX0 hown hK hP 0 rfl rfl 3 (by decide) (hW _ qm_22) (fun _ h9 => h9) rfl qd_X_proof_6 ?_
    refine lv_icmp_lt (tgt := 20) hx hb qd_X_proof_9 (by decide) (fun c9 => absurd c9 (h9)) (fun c2 => ?_)
    refine vx_throw0 hx hb hst (own := RX0) (cls := "java/lang/IndexOutOfBoundsException") (names := ["java/lang/RuntimeException", "java/lang/Exception"]) (ik := 51) (ic := 53) (A := A) hown (by decide +kernel) (by decide +kernel) (hW _ qm_239) (hW _ qm_9) (tx_IOB_h hW hZ.2.2.1) tx_IOB_o hZ.1 hZ.2.1 hS (hl.1.trans hml.symm) qd_X_proof_12 qd_X_proof_15 qd_X_proof_16 qd_X_proof_19 (fun z9 h9 => (hnoH z9 h9).elim) (Nat.le_of_ble_eq_true rfl) (Nat.le_of_ble_eq_true rfl) (Nat.le_of_ble_eq_true rfl) (Nat.le_of_ble_eq_true rfl) hlocks (fun t hvm hz hk => ⟨(), trivial, ⟨rfl, hP.kept (fun k9 q9 h9 => hk q9.1 ((hP k9 q9 h9).lt)), va_K.moved hvm hK, hD⟩, Nat.le_trans hS.1 hz, fun q h1 h2 => (hk q (Nat.lt_of_lt_of_le h1 hS.1)).trans (hS.2.1 q h1 h2)⟩) hS.2.2 (Nat.le_of_ble_eq_true rfl) (Nat.le_of_ble_eq_true rfl)
set_option maxHeartbeats 4000000 in
set_option maxRecDepth 100000 in
/-- X_alter: refused -/
theorem cx_X_alter (l : Launch) (dC : Nat → ClassId) (dI : Nat → Nat → Nat) (x a b : Nat) (cA : ClassId) (n k : Nat) (f g : Nat → Int64) (sz : Nat) (hst : l.stackTraces = false) (q : Int32) (v : Int64) (hbad : q < 0 ∨ nI k ≤ q) : vx_Met l qy_X_alter qw_X_alter ({ frames := 6, cells := 1, slots := 6, locals := 90 }) (va_Pc [.ref x, .int q, .long v] (tq_rz (dC, dI) [(x, .inr (0, [.ref a, .int (nI n), .ref b, .int (nI k)])), (a, .inl (cA, (600, .inr (.inl f)))), (b, .inl (cA, (40, .inr (.inl g))))] [(cA, .long)] sz)) (va_Ql (fun _ (_ : Unit) => False) (fun _ _ => True) (va_A [(x, .inr (0, [.ref a, .int (nI n), .ref b, .int (nI k)])), (a, .inl (cA, (600, .inr (.inl f)))), (b, .inl (cA, (40, .inr (.inl g))))] sz)) (vx_X (fun _ : Unit => True) (fun E _ t => E = "java/lang/IndexOutOfBoundsException" ∧ tq_in (dC, dI) [(x, .inr (0, [.ref a, .int (nI n), .ref b, .int (nI k)])), (a, .inl (cA, (600, .inr (.inl f)))), (b, .inl (cA, (40, .inr (.inl g))))] [(cA, .long)] (va_A [(x, .inr (0, [.ref a, .int (nI n), .ref b, .int (nI k)])), (a, .inl (cA, (600, .inr (.inl f)))), (b, .inl (cA, (40, .inr (.inl g))))] sz) t) (va_A [(x, .inr (0, [.ref a, .int (nI n), .ref b, .int (nI k)])), (a, .inl (cA, (600, .inr (.inl f)))), (b, .inl (cA, (40, .inr (.inl g))))] sz)) 1 6 (va_A [(x, .inr (0, [.ref a, .int (nI n), .ref b, .int (nI k)])), (a, .inl (cA, (600, .inr (.inl f)))), (b, .inl (cA, (40, .inr (.inl g))))] sz) := by
  refine vx_ofW (cc := qc_X_alter) (maxL := 6) (ret := (some .long)) (by decide) rfl ?_
  intro p e s m args below meth c s₁ B hml hnoH hv
  obtain ⟨rfl, ⟨hsz, hP, hK, hD0⟩, hZ⟩ := hv
  have hx := B.exec
  have hb := B.bytes
  have hr := B.returns
  have hts := atoms_spec (ws := qw_X_alter) B.pre
  have hW : ∀ w ∈ tq_W, w.before ([.ref x, .int q, .long v] : List Value).toArray s = true := fun w h => hts w (List.mem_cons_of_mem _ h)
  have hown : s.vm.findClass RX0 = some m.cls := findClass_of_methodNamed B.named
  have hlocks := B.notSynchronized
  have hl := lv_entry ([.ref x, .int q, .long v]) (n := 6) (Nat.le_of_ble_eq_true rfl)
  rw [lg_entry_eq]
  generalize (lg_sl ([.ref x, .int q, .long v]) ++ List.replicate (6 - (lg_sl ([.ref x, .int q, .long v])).length) Slot.unset).toArray = ls at hl ⊢
  have hl : lv_has ls 6 [(0, .ref x), (1, .int q), (2, .long v)] := hl
  subst hsz
  have hD := hD0.self (sz := s.heap.size)
  generalize hAe : va_A [(x, .inr (0, [.ref a, .int (nI n), .ref b, .int (nI k)])), (a, .inl (cA, (600, .inr (.inl f)))), (b, .inl (cA, (40, .inr (.inl g))))] s.heap.size = A at hD hZ ⊢
  have hA : ∀ q : Nat, s.heap.size ≤ q → A q := fun q h => by rw [← hAe]; exact Or.inr h
  have hS : va_S A s.heap s.heap [] := va_S.rf
  refine lv_iload_n hx hb qd_X_alter_0 rfl (lv_at hl 1 rfl) ?_
  refine lv_if_lt (tgt := 12) hx hb qd_X_alter_1 (by decide) (fun c1 => ?_) (fun c1 => ?_)
  · refine vx_throw0 hx hb hst (own := RX0) (cls := "java/lang/IndexOutOfBoundsException") (names := ["java/lang/RuntimeException", "java/lang/Exception"]) (ik := 51) (ic := 53) (A := A) hown (by decide +kernel) (by decide +kernel) (hW _ qm_239) (hW _ qm_9) (tx_IOB_h hW hZ.2.2.1) tx_IOB_o hZ.1 hZ.2.1 hS (hl.1.trans hml.symm) qd_X_alter_12 qd_X_alter_15 qd_X_alter_16 qd_X_alter_19 (fun z9 h9 => (hnoH z9 h9).elim) (Nat.le_of_ble_eq_true rfl) (Nat.le_of_ble_eq_true rfl) (Nat.le_of_ble_eq_true rfl) (Nat.le_of_ble_eq_true rfl) hlocks (fun t hvm hz hk => ⟨(), trivial, ⟨rfl, hP.kept (fun k9 q9 h9 => hk q9.1 ((hP k9 q9 h9).lt)), va_K.moved hvm hK, hD⟩, Nat.le_trans hS.1 hz, fun q h1 h2 => (hk q (Nat.lt_of_lt_of_le h1 hS.1)).trans (hS.2.1 q h1 h2)⟩) hS.2.2 (Nat.le_of_ble_eq_true rfl) (Nat.le_of_ble_eq_true rfl)
  · have h9 : ¬ q < nI k := fun h8 => tq_nle h8 (hbad.elim (fun h => absurd h c1) id)
    refine lv_iload_n hx hb qd_X_alter_4 rfl (lv_at hl 1 rfl) ?_
    refine lv_aload_n hx hb qd_X_alter_5 rfl (lv_at hl 0 rfl) ?_
    refine va_get (D := (dC, dI)) (ci := 0) (v := .int (nI k)) (C := RX0) (T := TX0) (N := 4) hx hb hW inX0 hown hK hP 0 rfl rfl 3 (by decide) (hW _ qm_22) (fun _ h9 => h9) rfl qd_X_alter_6 ?_
    refine lv_icmp_lt (tgt := 20) hx hb qd_X_alter_9 (by decide) (fun c9 => absurd c9 (h9)) (fun c2 => ?_)
    refine vx_throw0 hx hb hst (own := RX0) (cls := "java/lang/IndexOutOfBoundsException") (names := ["java/lang/RuntimeException", "java/lang/Exception"]) (ik := 51) (ic := 53) (A := A) hown (by decide +kernel) (by decide +kernel) (hW _ qm_239) (hW _ qm_9) (tx_IOB_h hW hZ.2.2.1) tx_IOB_o hZ.1 hZ.2.1 hS (hl.1.trans hml.symm) qd_X_alter_12 qd_X_alter_15 qd_X_alter_16 qd_X_alter_19 (fun z9 h9 => (hnoH z9 h9).elim) (Nat.le_of_ble_eq_true rfl) (Nat.le_of_ble_eq_true rfl) (Nat.le_of_ble_eq_true rfl) (Nat.le_of_ble_eq_true rfl) hlocks (fun t hvm hz hk => ⟨(), trivial, ⟨rfl, hP.kept (fun k9 q9 h9 => hk q9.1 ((hP k9 q9 h9).lt)), va_K.moved hvm hK, hD⟩, Nat.le_trans hS.1 hz, fun q h1 h2 => (hk q (Nat.lt_of_lt_of_le h1 hS.1)).trans (hS.2.1 q h1 h2)⟩) hS.2.2 (Nat.le_of_ble_eq_true rfl) (Nat.le_of_ble_eq_true rfl)
set_option maxHeartbeats 4000000 in
set_option maxRecDepth 100000 in
/-- X_part: refused -/
theorem cx_X_part (l : Launch) (dC : Nat → ClassId) (dI : Nat → Nat → Nat) (x a b : Nat) (cA : ClassId) (n k : Nat) (f g : Nat → Int64) (sz : Nat) (hst : l.stackTraces = false) (pm pn : Int32) (hbad : pm < 0 ∨ pn < pm ∨ nI n < pn) : vx_Met l qy_X_part qw_X_part ({ frames := 6, cells := 1, slots := 6, locals := 90 }) (va_Pc [.ref x, .int pm, .int pn] (tq_rz (dC, dI) [(x, .inr (0, [.ref a, .int (nI n), .ref b, .int (nI k)])), (a, .inl (cA, (600, .inr (.inl f)))), (b, .inl (cA, (40, .inr (.inl g))))] [(cA, .long)] sz)) (va_Ql (fun _ (_ : Unit) => False) (fun _ _ => True) (va_A [(x, .inr (0, [.ref a, .int (nI n), .ref b, .int (nI k)])), (a, .inl (cA, (600, .inr (.inl f)))), (b, .inl (cA, (40, .inr (.inl g))))] sz)) (vx_X (fun _ : Unit => True) (fun E _ t => E = "java/util/NoSuchElementException" ∧ tq_in (dC, dI) [(x, .inr (0, [.ref a, .int (nI n), .ref b, .int (nI k)])), (a, .inl (cA, (600, .inr (.inl f)))), (b, .inl (cA, (40, .inr (.inl g))))] [(cA, .long)] (va_A [(x, .inr (0, [.ref a, .int (nI n), .ref b, .int (nI k)])), (a, .inl (cA, (600, .inr (.inl f)))), (b, .inl (cA, (40, .inr (.inl g))))] sz) t) (va_A [(x, .inr (0, [.ref a, .int (nI n), .ref b, .int (nI k)])), (a, .inl (cA, (600, .inr (.inl f)))), (b, .inl (cA, (40, .inr (.inl g))))] sz)) 1 6 (va_A [(x, .inr (0, [.ref a, .int (nI n), .ref b, .int (nI k)])), (a, .inl (cA, (600, .inr (.inl f)))), (b, .inl (cA, (40, .inr (.inl g))))] sz) := by
  refine vx_ofW (cc := qc_X_part) (maxL := 3) (ret := (some .long)) (by decide) rfl ?_
  intro p e s m args below meth c s₁ B hml hnoH hv
  obtain ⟨rfl, ⟨hsz, hP, hK, hD0⟩, hZ⟩ := hv
  have hx := B.exec
  have hb := B.bytes
  have hr := B.returns
  have hts := atoms_spec (ws := qw_X_part) B.pre
  have hW : ∀ w ∈ tq_W, w.before ([.ref x, .int pm, .int pn] : List Value).toArray s = true := fun w h => hts w (List.mem_cons_of_mem _ h)
  have hown : s.vm.findClass RX0 = some m.cls := findClass_of_methodNamed B.named
  have hlocks := B.notSynchronized
  have hl := lv_entry ([.ref x, .int pm, .int pn]) (n := 3) (Nat.le_of_ble_eq_true rfl)
  rw [lg_entry_eq]
  generalize (lg_sl ([.ref x, .int pm, .int pn]) ++ List.replicate (3 - (lg_sl ([.ref x, .int pm, .int pn])).length) Slot.unset).toArray = ls at hl ⊢
  have hl : lv_has ls 3 [(0, .ref x), (1, .int pm), (2, .int pn)] := hl
  subst hsz
  have hD := hD0.self (sz := s.heap.size)
  generalize hAe : va_A [(x, .inr (0, [.ref a, .int (nI n), .ref b, .int (nI k)])), (a, .inl (cA, (600, .inr (.inl f)))), (b, .inl (cA, (40, .inr (.inl g))))] s.heap.size = A at hD hZ ⊢
  have hA : ∀ q : Nat, s.heap.size ≤ q → A q := fun q h => by rw [← hAe]; exact Or.inr h
  have hS : va_S A s.heap s.heap [] := va_S.rf
  refine lv_iload_n hx hb qd_X_part_0 rfl (lv_at hl 1 rfl) ?_
  refine lv_if_lt (tgt := 17) hx hb qd_X_part_1 (by decide) (fun c1 => ?_) (fun c1 => ?_)
  · refine vx_throw0 hx hb hst (own := RX0) (cls := "java/util/NoSuchElementException") (names := ["java/lang/RuntimeException", "java/lang/Exception"]) (ik := 33) (ic := 35) (A := A) hown (by decide +kernel) (by decide +kernel) (hW _ qm_192) (hW _ qm_8) (tx_NSE_h hW hZ.2.2.1) tx_NSE_o hZ.1 hZ.2.1 hS (hl.1.trans hml.symm) qd_X_part_17 qd_X_part_20 qd_X_part_21 qd_X_part_24 (fun z9 h9 => (hnoH z9 h9).elim) (Nat.le_of_ble_eq_true rfl) (Nat.le_of_ble_eq_true rfl) (Nat.le_of_ble_eq_true rfl) (Nat.le_of_ble_eq_true rfl) hlocks (fun t hvm hz hk => ⟨(), trivial, ⟨rfl, hP.kept (fun k9 q9 h9 => hk q9.1 ((hP k9 q9 h9).lt)), va_K.moved hvm hK, hD⟩, Nat.le_trans hS.1 hz, fun q h1 h2 => (hk q (Nat.lt_of_lt_of_le h1 hS.1)).trans (hS.2.1 q h1 h2)⟩) hS.2.2 (Nat.le_of_ble_eq_true rfl) (Nat.le_of_ble_eq_true rfl)
  · refine lv_iload_n hx hb qd_X_part_4 rfl (lv_at hl 1 rfl) ?_
    refine lv_iload_n hx hb qd_X_part_5 rfl (lv_at hl 2 rfl) ?_
    refine lv_icmp_gt (tgt := 17) hx hb qd_X_part_6 (by decide) (fun c2 => ?_) (fun c2 => ?_)
    · refine vx_throw0 hx hb hst (own := RX0) (cls := "java/util/NoSuchElementException") (names := ["java/lang/RuntimeException", "java/lang/Exception"]) (ik := 33) (ic := 35) (A := A) hown (by decide +kernel) (by decide +kernel) (hW _ qm_192) (hW _ qm_8) (tx_NSE_h hW hZ.2.2.1) tx_NSE_o hZ.1 hZ.2.1 hS (hl.1.trans hml.symm) qd_X_part_17 qd_X_part_20 qd_X_part_21 qd_X_part_24 (fun z9 h9 => (hnoH z9 h9).elim) (Nat.le_of_ble_eq_true rfl) (Nat.le_of_ble_eq_true rfl) (Nat.le_of_ble_eq_true rfl) (Nat.le_of_ble_eq_true rfl) hlocks (fun t hvm hz hk => ⟨(), trivial, ⟨rfl, hP.kept (fun k9 q9 h9 => hk q9.1 ((hP k9 q9 h9).lt)), va_K.moved hvm hK, hD⟩, Nat.le_trans hS.1 hz, fun q h1 h2 => (hk q (Nat.lt_of_lt_of_le h1 hS.1)).trans (hS.2.1 q h1 h2)⟩) hS.2.2 (Nat.le_of_ble_eq_true rfl) (Nat.le_of_ble_eq_true rfl)
    · have h9 : ¬ pn ≤ nI n := tq_nle (hbad.elim (fun h => absurd h c1) (fun h => h.elim (fun h => absurd h c2) id))
      refine lv_iload_n hx hb qd_X_part_9 rfl (lv_at hl 2 rfl) ?_
      refine lv_aload_n hx hb qd_X_part_10 rfl (lv_at hl 0 rfl) ?_
      refine va_get (D := (dC, dI)) (ci := 0) (v := .int (nI n)) (C := RX0) (T := TX0) (N := 4) hx hb hW inX0 hown hK hP 0 rfl rfl 1 (by decide) (hW _ qm_20) (fun _ h9 => h9) rfl qd_X_part_11 ?_
      refine lv_icmp_le (tgt := 25) hx hb qd_X_part_14 (by decide) (fun c9 => absurd c9 (h9)) (fun c3 => ?_)
      refine vx_throw0 hx hb hst (own := RX0) (cls := "java/util/NoSuchElementException") (names := ["java/lang/RuntimeException", "java/lang/Exception"]) (ik := 33) (ic := 35) (A := A) hown (by decide +kernel) (by decide +kernel) (hW _ qm_192) (hW _ qm_8) (tx_NSE_h hW hZ.2.2.1) tx_NSE_o hZ.1 hZ.2.1 hS (hl.1.trans hml.symm) qd_X_part_17 qd_X_part_20 qd_X_part_21 qd_X_part_24 (fun z9 h9 => (hnoH z9 h9).elim) (Nat.le_of_ble_eq_true rfl) (Nat.le_of_ble_eq_true rfl) (Nat.le_of_ble_eq_true rfl) (Nat.le_of_ble_eq_true rfl) hlocks (fun t hvm hz hk => ⟨(), trivial, ⟨rfl, hP.kept (fun k9 q9 h9 => hk q9.1 ((hP k9 q9 h9).lt)), va_K.moved hvm hK, hD⟩, Nat.le_trans hS.1 hz, fun q h1 h2 => (hk q (Nat.lt_of_lt_of_le h1 hS.1)).trans (hS.2.1 q h1 h2)⟩) hS.2.2 (Nat.le_of_ble_eq_true rfl) (Nat.le_of_ble_eq_true rfl)
set_option maxHeartbeats 4000000 in
set_option maxRecDepth 100000 in
/-- X_path: refused -/
theorem cx_X_path (l : Launch) (dC : Nat → ClassId) (dI : Nat → Nat → Nat) (x a b : Nat) (cA : ClassId) (n k : Nat) (f g : Nat → Int64) (sz : Nat) (hst : l.stackTraces = false) (pm pn : Int32) (hbad : pm < 0 ∨ pn ≤ pm ∨ nI n < pn) : vx_Met l qy_X_path qw_X_path ({ frames := 6, cells := 1, slots := 6, locals := 90 }) (va_Pc [.ref x, .int pm, .int pn] (tq_rz (dC, dI) [(x, .inr (0, [.ref a, .int (nI n), .ref b, .int (nI k)])), (a, .inl (cA, (600, .inr (.inl f)))), (b, .inl (cA, (40, .inr (.inl g))))] [(cA, .long)] sz)) (va_Qi (fun _ (_ : Unit) => False) (fun _ _ => True) (va_A [(x, .inr (0, [.ref a, .int (nI n), .ref b, .int (nI k)])), (a, .inl (cA, (600, .inr (.inl f)))), (b, .inl (cA, (40, .inr (.inl g))))] sz)) (vx_X (fun _ : Unit => True) (fun E _ t => E = "java/util/NoSuchElementException" ∧ tq_in (dC, dI) [(x, .inr (0, [.ref a, .int (nI n), .ref b, .int (nI k)])), (a, .inl (cA, (600, .inr (.inl f)))), (b, .inl (cA, (40, .inr (.inl g))))] [(cA, .long)] (va_A [(x, .inr (0, [.ref a, .int (nI n), .ref b, .int (nI k)])), (a, .inl (cA, (600, .inr (.inl f)))), (b, .inl (cA, (40, .inr (.inl g))))] sz) t) (va_A [(x, .inr (0, [.ref a, .int (nI n), .ref b, .int (nI k)])), (a, .inl (cA, (600, .inr (.inl f)))), (b, .inl (cA, (40, .inr (.inl g))))] sz)) 1 6 (va_A [(x, .inr (0, [.ref a, .int (nI n), .ref b, .int (nI k)])), (a, .inl (cA, (600, .inr (.inl f)))), (b, .inl (cA, (40, .inr (.inl g))))] sz) := by
  refine vx_ofW (cc := qc_X_path) (maxL := 7) (ret := (some .int)) (by decide) rfl ?_
  intro p e s m args below meth c s₁ B hml hnoH hv
  obtain ⟨rfl, ⟨hsz, hP, hK, hD0⟩, hZ⟩ := hv
  have hx := B.exec
  have hb := B.bytes
  have hr := B.returns
  have hts := atoms_spec (ws := qw_X_path) B.pre
  have hW : ∀ w ∈ tq_W, w.before ([.ref x, .int pm, .int pn] : List Value).toArray s = true := fun w h => hts w (List.mem_cons_of_mem _ h)
  have hown : s.vm.findClass RX0 = some m.cls := findClass_of_methodNamed B.named
  have hlocks := B.notSynchronized
  have hl := lv_entry ([.ref x, .int pm, .int pn]) (n := 7) (Nat.le_of_ble_eq_true rfl)
  rw [lg_entry_eq]
  generalize (lg_sl ([.ref x, .int pm, .int pn]) ++ List.replicate (7 - (lg_sl ([.ref x, .int pm, .int pn])).length) Slot.unset).toArray = ls at hl ⊢
  have hl : lv_has ls 7 [(0, .ref x), (1, .int pm), (2, .int pn)] := hl
  subst hsz
  have hD := hD0.self (sz := s.heap.size)
  generalize hAe : va_A [(x, .inr (0, [.ref a, .int (nI n), .ref b, .int (nI k)])), (a, .inl (cA, (600, .inr (.inl f)))), (b, .inl (cA, (40, .inr (.inl g))))] s.heap.size = A at hD hZ ⊢
  have hA : ∀ q : Nat, s.heap.size ≤ q → A q := fun q h => by rw [← hAe]; exact Or.inr h
  have hS : va_S A s.heap s.heap [] := va_S.rf
  refine lv_iload_n hx hb qd_X_path_0 rfl (lv_at hl 1 rfl) ?_
  refine lv_if_lt (tgt := 17) hx hb qd_X_path_1 (by decide) (fun c1 => ?_) (fun c1 => ?_)
  · refine vx_throw0 hx hb hst (own := RX0) (cls := "java/util/NoSuchElementException") (names := ["java/lang/RuntimeException", "java/lang/Exception"]) (ik := 33) (ic := 35) (A := A) hown (by decide +kernel) (by decide +kernel) (hW _ qm_192) (hW _ qm_8) (tx_NSE_h hW hZ.2.2.1) tx_NSE_o hZ.1 hZ.2.1 hS (hl.1.trans hml.symm) qd_X_path_17 qd_X_path_20 qd_X_path_21 qd_X_path_24 (fun z9 h9 => (hnoH z9 h9).elim) (Nat.le_of_ble_eq_true rfl) (Nat.le_of_ble_eq_true rfl) (Nat.le_of_ble_eq_true rfl) (Nat.le_of_ble_eq_true rfl) hlocks (fun t hvm hz hk => ⟨(), trivial, ⟨rfl, hP.kept (fun k9 q9 h9 => hk q9.1 ((hP k9 q9 h9).lt)), va_K.moved hvm hK, hD⟩, Nat.le_trans hS.1 hz, fun q h1 h2 => (hk q (Nat.lt_of_lt_of_le h1 hS.1)).trans (hS.2.1 q h1 h2)⟩) hS.2.2 (Nat.le_of_ble_eq_true rfl) (Nat.le_of_ble_eq_true rfl)
  · refine lv_iload_n hx hb qd_X_path_4 rfl (lv_at hl 1 rfl) ?_
    refine lv_iload_n hx hb qd_X_path_5 rfl (lv_at hl 2 rfl) ?_
    refine lv_icmp_ge (tgt := 17) hx hb qd_X_path_6 (by decide) (fun c2 => ?_) (fun c2 => ?_)
    · refine vx_throw0 hx hb hst (own := RX0) (cls := "java/util/NoSuchElementException") (names := ["java/lang/RuntimeException", "java/lang/Exception"]) (ik := 33) (ic := 35) (A := A) hown (by decide +kernel) (by decide +kernel) (hW _ qm_192) (hW _ qm_8) (tx_NSE_h hW hZ.2.2.1) tx_NSE_o hZ.1 hZ.2.1 hS (hl.1.trans hml.symm) qd_X_path_17 qd_X_path_20 qd_X_path_21 qd_X_path_24 (fun z9 h9 => (hnoH z9 h9).elim) (Nat.le_of_ble_eq_true rfl) (Nat.le_of_ble_eq_true rfl) (Nat.le_of_ble_eq_true rfl) (Nat.le_of_ble_eq_true rfl) hlocks (fun t hvm hz hk => ⟨(), trivial, ⟨rfl, hP.kept (fun k9 q9 h9 => hk q9.1 ((hP k9 q9 h9).lt)), va_K.moved hvm hK, hD⟩, Nat.le_trans hS.1 hz, fun q h1 h2 => (hk q (Nat.lt_of_lt_of_le h1 hS.1)).trans (hS.2.1 q h1 h2)⟩) hS.2.2 (Nat.le_of_ble_eq_true rfl) (Nat.le_of_ble_eq_true rfl)
    · have h9 : ¬ pn ≤ nI n := tq_nle (hbad.elim (fun h => absurd h c1) (fun h => h.elim (fun h => absurd h c2) id))
      refine lv_iload_n hx hb qd_X_path_9 rfl (lv_at hl 2 rfl) ?_
      refine lv_aload_n hx hb qd_X_path_10 rfl (lv_at hl 0 rfl) ?_
      refine va_get (D := (dC, dI)) (ci := 0) (v := .int (nI n)) (C := RX0) (T := TX0) (N := 4) hx hb hW inX0 hown hK hP 0 rfl rfl 1 (by decide) (hW _ qm_20) (fun _ h9 => h9) rfl qd_X_path_11 ?_
      refine lv_icmp_le (tgt := 25) hx hb qd_X_path_14 (by decide) (fun c9 => absurd c9 (h9)) (fun c3 => ?_)
      refine vx_throw0 hx hb hst (own := RX0) (cls := "java/util/NoSuchElementException") (names := ["java/lang/RuntimeException", "java/lang/Exception"]) (ik := 33) (ic := 35) (A := A) hown (by decide +kernel) (by decide +kernel) (hW _ qm_192) (hW _ qm_8) (tx_NSE_h hW hZ.2.2.1) tx_NSE_o hZ.1 hZ.2.1 hS (hl.1.trans hml.symm) qd_X_path_17 qd_X_path_20 qd_X_path_21 qd_X_path_24 (fun z9 h9 => (hnoH z9 h9).elim) (Nat.le_of_ble_eq_true rfl) (Nat.le_of_ble_eq_true rfl) (Nat.le_of_ble_eq_true rfl) (Nat.le_of_ble_eq_true rfl) hlocks (fun t hvm hz hk => ⟨(), trivial, ⟨rfl, hP.kept (fun k9 q9 h9 => hk q9.1 ((hP k9 q9 h9).lt)), va_K.moved hvm hK, hD⟩, Nat.le_trans hS.1 hz, fun q h1 h2 => (hk q (Nat.lt_of_lt_of_le h1 hS.1)).trans (hS.2.1 q h1 h2)⟩) hS.2.2 (Nat.le_of_ble_eq_true rfl) (Nat.le_of_ble_eq_true rfl)
set_option maxHeartbeats 4000000 in
set_option maxRecDepth 100000 in
/-- X_steps: refused -/
theorem cx_X_steps (l : Launch) (dC : Nat → ClassId) (dI : Nat → Nat → Nat) (x a b : Nat) (cA : ClassId) (n k : Nat) (f g : Nat → Int64) (sz : Nat) (hst : l.stackTraces = false) (pm pn : Int32) (hbad : pm < nI 1 ∨ pn < pm ∨ nI n < pn) : vx_Met l qy_X_steps qw_X_steps ({ frames := 6, cells := 1, slots := 6, locals := 90 }) (va_Pc [.ref x, .int pm, .int pn] (tq_rz (dC, dI) [(x, .inr (0, [.ref a, .int (nI n), .ref b, .int (nI k)])), (a, .inl (cA, (600, .inr (.inl f)))), (b, .inl (cA, (40, .inr (.inl g))))] [(cA, .long)] sz)) (va_Qi (fun _ (_ : Unit) => False) (fun _ _ => True) (va_A [(x, .inr (0, [.ref a, .int (nI n), .ref b, .int (nI k)])), (a, .inl (cA, (600, .inr (.inl f)))), (b, .inl (cA, (40, .inr (.inl g))))] sz)) (vx_X (fun _ : Unit => True) (fun E _ t => E = "java/util/NoSuchElementException" ∧ tq_in (dC, dI) [(x, .inr (0, [.ref a, .int (nI n), .ref b, .int (nI k)])), (a, .inl (cA, (600, .inr (.inl f)))), (b, .inl (cA, (40, .inr (.inl g))))] [(cA, .long)] (va_A [(x, .inr (0, [.ref a, .int (nI n), .ref b, .int (nI k)])), (a, .inl (cA, (600, .inr (.inl f)))), (b, .inl (cA, (40, .inr (.inl g))))] sz) t) (va_A [(x, .inr (0, [.ref a, .int (nI n), .ref b, .int (nI k)])), (a, .inl (cA, (600, .inr (.inl f)))), (b, .inl (cA, (40, .inr (.inl g))))] sz)) 1 6 (va_A [(x, .inr (0, [.ref a, .int (nI n), .ref b, .int (nI k)])), (a, .inl (cA, (600, .inr (.inl f)))), (b, .inl (cA, (40, .inr (.inl g))))] sz) := by
  refine vx_ofW (cc := qc_X_steps) (maxL := 7) (ret := (some .int)) (by decide) rfl ?_
  intro p e s m args below meth c s₁ B hml hnoH hv
  obtain ⟨rfl, ⟨hsz, hP, hK, hD0⟩, hZ⟩ := hv
  have hx := B.exec
  have hb := B.bytes
  have hr := B.returns
  have hts := atoms_spec (ws := qw_X_steps) B.pre
  have hW : ∀ w ∈ tq_W, w.before ([.ref x, .int pm, .int pn] : List Value).toArray s = true := fun w h => hts w (List.mem_cons_of_mem _ h)
  have hown : s.vm.findClass RX0 = some m.cls := findClass_of_methodNamed B.named
  have hlocks := B.notSynchronized
  have hl := lv_entry ([.ref x, .int pm, .int pn]) (n := 7) (Nat.le_of_ble_eq_true rfl)
  rw [lg_entry_eq]
  generalize (lg_sl ([.ref x, .int pm, .int pn]) ++ List.replicate (7 - (lg_sl ([.ref x, .int pm, .int pn])).length) Slot.unset).toArray = ls at hl ⊢
  have hl : lv_has ls 7 [(0, .ref x), (1, .int pm), (2, .int pn)] := hl
  subst hsz
  have hD := hD0.self (sz := s.heap.size)
  generalize hAe : va_A [(x, .inr (0, [.ref a, .int (nI n), .ref b, .int (nI k)])), (a, .inl (cA, (600, .inr (.inl f)))), (b, .inl (cA, (40, .inr (.inl g))))] s.heap.size = A at hD hZ ⊢
  have hA : ∀ q : Nat, s.heap.size ≤ q → A q := fun q h => by rw [← hAe]; exact Or.inr h
  have hS : va_S A s.heap s.heap [] := va_S.rf
  refine lv_iload_n hx hb qd_X_steps_0 rfl (lv_at hl 1 rfl) ?_
  refine lv_iconst (v := nI 1) hx hb qd_X_steps_1 (by decide +kernel) ?_
  refine lv_icmp_lt (tgt := 18) hx hb qd_X_steps_2 (by decide) (fun c1 => ?_) (fun c1 => ?_)
  · refine vx_throw0 hx hb hst (own := RX0) (cls := "java/util/NoSuchElementException") (names := ["java/lang/RuntimeException", "java/lang/Exception"]) (ik := 33) (ic := 35) (A := A) hown (by decide +kernel) (by decide +kernel) (hW _ qm_192) (hW _ qm_8) (tx_NSE_h hW hZ.2.2.1) tx_NSE_o hZ.1 hZ.2.1 hS (hl.1.trans hml.symm) qd_X_steps_18 qd_X_steps_21 qd_X_steps_22 qd_X_steps_25 (fun z9 h9 => (hnoH z9 h9).elim) (Nat.le_of_ble_eq_true rfl) (Nat.le_of_ble_eq_true rfl) (Nat.le_of_ble_eq_true rfl) (Nat.le_of_ble_eq_true rfl) hlocks (fun t hvm hz hk => ⟨(), trivial, ⟨rfl, hP.kept (fun k9 q9 h9 => hk q9.1 ((hP k9 q9 h9).lt)), va_K.moved hvm hK, hD⟩, Nat.le_trans hS.1 hz, fun q h1 h2 => (hk q (Nat.lt_of_lt_of_le h1 hS.1)).trans (hS.2.1 q h1 h2)⟩) hS.2.2 (Nat.le_of_ble_eq_true rfl) (Nat.le_of_ble_eq_true rfl)
  · refine lv_iload_n hx hb qd_X_steps_5 rfl (lv_at hl 1 rfl) ?_
    refine lv_iload_n hx hb qd_X_steps_6 rfl (lv_at hl 2 rfl) ?_
    refine lv_icmp_gt (tgt := 18) hx hb qd_X_steps_7 (by decide) (fun c2 => ?_) (fun c2 => ?_)
    · refine vx_throw0 hx hb hst (own := RX0) (cls := "java/util/NoSuchElementException") (names := ["java/lang/RuntimeException", "java/lang/Exception"]) (ik := 33) (ic := 35) (A := A) hown (by decide +kernel) (by decide +kernel) (hW _ qm_192) (hW _ qm_8) (tx_NSE_h hW hZ.2.2.1) tx_NSE_o hZ.1 hZ.2.1 hS (hl.1.trans hml.symm) qd_X_steps_18 qd_X_steps_21 qd_X_steps_22 qd_X_steps_25 (fun z9 h9 => (hnoH z9 h9).elim) (Nat.le_of_ble_eq_true rfl) (Nat.le_of_ble_eq_true rfl) (Nat.le_of_ble_eq_true rfl) (Nat.le_of_ble_eq_true rfl) hlocks (fun t hvm hz hk => ⟨(), trivial, ⟨rfl, hP.kept (fun k9 q9 h9 => hk q9.1 ((hP k9 q9 h9).lt)), va_K.moved hvm hK, hD⟩, Nat.le_trans hS.1 hz, fun q h1 h2 => (hk q (Nat.lt_of_lt_of_le h1 hS.1)).trans (hS.2.1 q h1 h2)⟩) hS.2.2 (Nat.le_of_ble_eq_true rfl) (Nat.le_of_ble_eq_true rfl)
    · have h9 : ¬ pn ≤ nI n := tq_nle (hbad.elim (fun h => absurd h c1) (fun h => h.elim (fun h => absurd h c2) id))
      refine lv_iload_n hx hb qd_X_steps_10 rfl (lv_at hl 2 rfl) ?_
      refine lv_aload_n hx hb qd_X_steps_11 rfl (lv_at hl 0 rfl) ?_
      refine va_get (D := (dC, dI)) (ci := 0) (v := .int (nI n)) (C := RX0) (T := TX0) (N := 4) hx hb hW inX0 hown hK hP 0 rfl rfl 1 (by decide) (hW _ qm_20) (fun _ h9 => h9) rfl qd_X_steps_12 ?_
      refine lv_icmp_le (tgt := 26) hx hb qd_X_steps_15 (by decide) (fun c9 => absurd c9 (h9)) (fun c3 => ?_)
      refine vx_throw0 hx hb hst (own := RX0) (cls := "java/util/NoSuchElementException") (names := ["java/lang/RuntimeException", "java/lang/Exception"]) (ik := 33) (ic := 35) (A := A) hown (by decide +kernel) (by decide +kernel) (hW _ qm_192) (hW _ qm_8) (tx_NSE_h hW hZ.2.2.1) tx_NSE_o hZ.1 hZ.2.1 hS (hl.1.trans hml.symm) qd_X_steps_18 qd_X_steps_21 qd_X_steps_22 qd_X_steps_25 (fun z9 h9 => (hnoH z9 h9).elim) (Nat.le_of_ble_eq_true rfl) (Nat.le_of_ble_eq_true rfl) (Nat.le_of_ble_eq_true rfl) (Nat.le_of_ble_eq_true rfl) hlocks (fun t hvm hz hk => ⟨(), trivial, ⟨rfl, hP.kept (fun k9 q9 h9 => hk q9.1 ((hP k9 q9 h9).lt)), va_K.moved hvm hK, hD⟩, Nat.le_trans hS.1 hz, fun q h1 h2 => (hk q (Nat.lt_of_lt_of_le h1 hS.1)).trans (hS.2.1 q h1 h2)⟩) hS.2.2 (Nat.le_of_ble_eq_true rfl) (Nat.le_of_ble_eq_true rfl)
