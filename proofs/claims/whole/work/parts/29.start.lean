set_option maxHeartbeats 4000000 in
set_option maxRecDepth 100000 in
/-- THE LAW, from its entry -/
theorem whole_start {p : Program} {e : Env} {s : State} {m : MethodId} {below : List Frame} {meth : Method} {c : Code} (l : Launch) (hst : l.stackTraces = false) {b L : Nat} {xs : Nat → Int32} (hL : L ≤ 3584) (C0 : lw_At p s m meth c b L xs) : W p l e room_1 s m #[Value.ref b] below meth c s.heap [] 0 0 (lw_Z below #[Value.ref b] s) (entryFrame m ([Value.ref b] : List Value).toArray 8) := by
  obtain ⟨hx, hb, hr, hml, hown, hts, hX, hbl, hlocks, hgv⟩ := id C0
  have hown : s.vm.findClass RL = some m.cls := hown
  have hW : ∀ w ∈ tq_W, w.before #[Value.ref b] s = true := fun w h => hts w (List.mem_filter.mp h).1
  have hg := flat_of_before _ hgv
  obtain ⟨A, hAe⟩ : ∃ A : Nat → Prop, A = (fun q : Nat => s.heap.size ≤ q) := ⟨_, rfl⟩
  have hA : ∀ q : Nat, s.heap.size ≤ q → A q := fun q h => by rw [hAe]; exact h
  have hA2 : ∀ q : Nat, A q → s.heap.size ≤ q := fun q h => by rw [hAe] at h; exact h
  have hbA : ¬ A b := fun h => Nat.not_le.mpr hbl (hA2 b h)
  have hAn : ∀ q : Nat, q < s.heap.size → ¬ A q := fun q h h1 => Nat.not_le.mpr h (hA2 q h1)
  have hZ : tq_Z A s := by
    refine ⟨vx_Zqof (args := #[Value.ref b]) (hts (.laysStatic "java/lang/Throwable" "UNASSIGNED_STACK" "[Ljava/lang/StackTraceElement;") (by decide +kernel)) (hts (.initialized "java/lang/Throwable") (by decide +kernel)) (hg (.isRef (.static "java/lang/Throwable" "UNASSIGNED_STACK" "[Ljava/lang/StackTraceElement;")) (by decide +kernel)) hAn, vx_Zqof (args := #[Value.ref b]) (hts (.laysStatic "java/lang/Throwable" "SUPPRESSED_SENTINEL" "Ljava/util/List;") (by decide +kernel)) (hts (.initialized "java/lang/Throwable") (by decide +kernel)) (hg (.isRef (.static "java/lang/Throwable" "SUPPRESSED_SENTINEL" "Ljava/util/List;")) (by decide +kernel)) hAn, fun w hw => va_Nw.of (tq_bad_t w hw) (hts w ((by decide +kernel : ∀ w ∈ tq_bad, w ∈ lw_tbl) w hw)), va_Nc.of (hg (.not (.castable "java/lang/IllegalStateException" "java/lang/IllegalArgumentException")) (by decide +kernel))⟩
  obtain ⟨c0, iS0, hKn0⟩ := u_known (C := RX0) (T := TX0) (N := 4) (n := 4) hW inX0 (hW _ qm_12)
  obtain ⟨c1, iS1, hKn1⟩ := u_known (C := RX1) (T := TX1) (N := 8) (n := 8) hW inX1 (hW _ qm_276)
  obtain ⟨dC, dI, hKc⟩ : ∃ (dC : Nat → ClassId) (dI : Nat → Nat → Nat), ∀ (k : Nat) (q : vw_C), tq_cl[k]? = some q → u_Kn s q.1 q.2.1 q.2.2 (dC k) (dI k) := by
    refine ⟨fun k => if k = 0 then c0 else c1, fun k => if k = 0 then iS0 else iS1, ?_⟩
    intro k q hq
    match k, hq with
    | 0, hq => cases hq; exact hKn0
    | 1, hq => cases hq; exact hKn1
    | k + 2, hq => simp [tq_cl] at hq
  have hS : va_S A s.heap s.heap [] := va_S.rf
  have hK : va_K (dC, dI) tq_cl [] s := ⟨hKc, fun k q h => by simp at h⟩
  have hP : va_P (dC, dI) tq_cl [] s.heap := fun k q h => by simp at h
  have hD : va_D A [] := ⟨fun i j p q h => by simp at h, fun k q h => by simp at h⟩
  have hl := lv_entry ([.ref b]) (n := 8) (Nat.le_of_ble_eq_true rfl)
  rw [lg_entry_eq]
  generalize (lg_sl ([.ref b]) ++ List.replicate (8 - (lg_sl ([.ref b])).length) Slot.unset).toArray = ls at hl ⊢
  have hl : lv_has ls 8 [(0, .ref b)] := hl
  refine va_new (ci := 0) (fs := [.null, .int 0, .null, .int 0]) (C := RX0) (T := TX0) (N := 4) hx hb hW inX0 tyX0 tyX0_ok hown (hW _ qm_11) (hW _ qm_12) (hW _ qm_1) hK hP hD hS hA rfl (fun j hj => by rcases (show j = 0 ∨ j = 1 ∨ j = 2 ∨ j = 3 by omega) with rfl | rfl | rfl | rfl <;> rfl) (by show _ ≤ 601024; omega) (by show _ ≤ 7293034; omega) qd_L_law_0 (fun x H hP hD hS => ?_)
  have hP : va_P (dC, dI) tq_cl [(x, .inr (0, [.null, .int 0, .null, .int 0]))] H := hP
  have hD : va_D A [(x, .inr (0, [.null, .int 0, .null, .int 0]))] := hD
  refine W.widen (k := 1) (n := 4) (by omega) (by omega) ?_
  refine lv_dup hx hb qd_L_law_3 rfl ?_
  have hPc := hP.sub (ws' := [(x, .inr (0, [.null, .int 0, .null, .int 0]))]) [0] rfl
  have hDc := hD.sub (ws' := [(x, .inr (0, [.null, .int 0, .null, .int 0]))]) [0] (by decide) rfl
  have hKc := hK.sub (tys' := []) [] rfl
  have hFc := va_free (wc := [(x, .inr (0, [.null, .int 0, .null, .int 0]))]) hD hS hA [0] rfl
  refine va_callv (va_runI (As := []) (rest := [.ref x]) ⟨hx, hb, hml, hown, hW⟩ (ct_X_init l dC dI x H.size) (cwI 0 hW (tq_gC qm_15) rfl rfl rfl (hW _ qm_1) (hW _ qm_13) (hW _ qm_14) rfl (by decide +kernel) ⟨Nat.le_of_ble_eq_true rfl, Nat.le_of_ble_eq_true rfl⟩) ⟨tq_b2, fun U hU hW9 => ⟨rfl, by rw [hU], by rw [hU]; exact hPc, va_K.moved hW9.alike hKc, hDc.weaken (fun _ _ _ _ => trivial)⟩⟩ rfl rfl hl.1 rfl (lv_room (Nat.le_of_ble_eq_true rfl)) qd_L_law_4 ⟨by show _ ≤ 601024; omega, by show _ ≤ 7293034; omega⟩) hS (fun q _ h => hFc q h) hFc (fun u t9 H1 locs ht9 hvm hw hB hz1 hk1 hS => ?_)
  obtain ⟨a, b2, cA⟩ := u
  obtain ⟨hP1, hK1, hD1⟩ := hB
  rw [ht9] at hP1
  have hK1 := va_K.moved hvm.symm hK1
  obtain ⟨hP, hD⟩ := va_join (wr := []) (w1 := [(x, .inr (0, [.ref a, .int (nI 0), .ref b2, .int (nI 0)])), (a, .inl (cA, (600, .inr (.inl (fun _ => 0))))), (b2, .inl (cA, (40, .inr (.inl (fun _ => 0)))))]) hP hD [0] [] rfl rfl (by decide) (by decide) hk1 hFc hP1 hD1
  have hK : va_K (dC, dI) tq_cl [(cA, .long)] s := hK.app hK1
  generalize H1 = H at hP hS ⊢
  have hP : va_P (dC, dI) tq_cl [(x, .inr (0, [.ref a, .int (nI 0), .ref b2, .int (nI 0)])), (a, .inl (cA, (600, .inr (.inl (fun _ => 0))))), (b2, .inl (cA, (40, .inr (.inl (fun _ => 0)))))] H := hP
  have hD : va_D A [(x, .inr (0, [.ref a, .int (nI 0), .ref b2, .int (nI 0)])), (a, .inl (cA, (600, .inr (.inl (fun _ => 0))))), (b2, .inl (cA, (40, .inr (.inl (fun _ => 0)))))] := hD
  refine W.widen (k := 3) (n := 644) (by omega) (by omega) ?_
  refine lv_astore_n (lv' := [(1, .ref x), (0, .ref b)]) hx hb qd_L_law_7 rfl hl (by decide) rfl (fun ls hl => ?_)
  refine va_new (ci := 1) (fs := [.int 0, .int 0, .int 0, .int 0, .null, .null, .long 0, .long 0]) (C := RX1) (T := TX1) (N := 8) hx hb hW inX1 tyX1 tyX1_ok hown (hW _ qm_275) (hW _ qm_276) (hW _ qm_2) hK hP hD hS hA rfl (fun j hj => by rcases (show j = 0 ∨ j = 1 ∨ j = 2 ∨ j = 3 ∨ j = 4 ∨ j = 5 ∨ j = 6 ∨ j = 7 by omega) with rfl | rfl | rfl | rfl | rfl | rfl | rfl | rfl <;> rfl) (by show _ ≤ 601024; omega) (by show _ ≤ 7293034; omega) qd_L_law_8 (fun o H hP hD hS => ?_)
  have hP : va_P (dC, dI) tq_cl [(x, .inr (0, [.ref a, .int (nI 0), .ref b2, .int (nI 0)])), (a, .inl (cA, (600, .inr (.inl (fun _ => 0))))), (b2, .inl (cA, (40, .inr (.inl (fun _ => 0))))), (o, .inr (1, [.int 0, .int 0, .int 0, .int 0, .null, .null, .long 0, .long 0]))] H := hP
  have hD : va_D A [(x, .inr (0, [.ref a, .int (nI 0), .ref b2, .int (nI 0)])), (a, .inl (cA, (600, .inr (.inl (fun _ => 0))))), (b2, .inl (cA, (40, .inr (.inl (fun _ => 0))))), (o, .inr (1, [.int 0, .int 0, .int 0, .int 0, .null, .null, .long 0, .long 0]))] := hD
  refine W.widen (k := 4) (n := 652) (by omega) (by omega) ?_
  refine lv_dup hx hb qd_L_law_11 rfl ?_
  have hPc := hP.sub (ws' := [(o, .inr (1, [.int 0, .int 0, .int 0, .int 0, .null, .null, .long 0, .long 0]))]) [3] rfl
  have hDc := hD.sub (ws' := [(o, .inr (1, [.int 0, .int 0, .int 0, .int 0, .null, .null, .long 0, .long 0]))]) [3] (by decide) rfl
  have hKc := hK.sub (tys' := []) [] rfl
  have hFc := va_free (wc := [(o, .inr (1, [.int 0, .int 0, .int 0, .int 0, .null, .null, .long 0, .long 0]))]) hD hS hA [3] rfl
  refine va_callv (va_runI (As := []) (rest := [.ref o]) ⟨hx, hb, hml, hown, hW⟩ (ct_M_init l dC dI o H.size) (cwI 0 hW (tq_gC qm_279) rfl rfl rfl (hW _ qm_2) (hW _ qm_277) (hW _ qm_278) rfl (by decide +kernel) ⟨Nat.le_of_ble_eq_true rfl, Nat.le_of_ble_eq_true rfl⟩) ⟨tq_b2, fun U hU hW9 => ⟨rfl, by rw [hU], by rw [hU]; exact hPc, va_K.moved hW9.alike hKc, hDc.weaken (fun _ _ _ _ => trivial)⟩⟩ rfl rfl hl.1 rfl (lv_room (Nat.le_of_ble_eq_true rfl)) qd_L_law_12 ⟨by show _ ≤ 601024; omega, by show _ ≤ 7293034; omega⟩) hS (fun q _ h => hFc q h) hFc (fun u t9 H1 locs ht9 hvm hw hB hz1 hk1 hS => ?_)
  obtain ⟨ca, cb, cB⟩ := u
  obtain ⟨hP1, hK1, hD1⟩ := hB
  rw [ht9] at hP1
  have hK1 := va_K.moved hvm.symm hK1
  obtain ⟨hP, hD⟩ := va_join (wr := [(x, .inr (0, [.ref a, .int (nI 0), .ref b2, .int (nI 0)])), (a, .inl (cA, (600, .inr (.inl (fun _ => 0))))), (b2, .inl (cA, (40, .inr (.inl (fun _ => 0)))))]) (w1 := [(o, .inr (1, [.int 0, .int 0, .int 0, .int 0, .ref ca, .ref cb, .long 0, .long 0])), (ca, .inl (cB, (600, .inr (.inl (fun _ => 0))))), (cb, .inl (cB, (40, .inr (.inl (fun _ => 0)))))]) hP hD [3] [0, 1, 2] rfl rfl (by decide) (by decide) hk1 hFc hP1 hD1
  have hK : va_K (dC, dI) tq_cl [(cA, .long), (cB, .long)] s := hK.app hK1
  generalize H1 = H at hP hS ⊢
  have hP : va_P (dC, dI) tq_cl [(x, .inr (0, [.ref a, .int (nI 0), .ref b2, .int (nI 0)])), (a, .inl (cA, (600, .inr (.inl (fun _ => 0))))), (b2, .inl (cA, (40, .inr (.inl (fun _ => 0))))), (o, .inr (1, [.int 0, .int 0, .int 0, .int 0, .ref ca, .ref cb, .long 0, .long 0])), (ca, .inl (cB, (600, .inr (.inl (fun _ => 0))))), (cb, .inl (cB, (40, .inr (.inl (fun _ => 0)))))] H := hP
  have hD : va_D A [(x, .inr (0, [.ref a, .int (nI 0), .ref b2, .int (nI 0)])), (a, .inl (cA, (600, .inr (.inl (fun _ => 0))))), (b2, .inl (cA, (40, .inr (.inl (fun _ => 0))))), (o, .inr (1, [.int 0, .int 0, .int 0, .int 0, .ref ca, .ref cb, .long 0, .long 0])), (ca, .inl (cB, (600, .inr (.inl (fun _ => 0))))), (cb, .inl (cB, (40, .inr (.inl (fun _ => 0)))))] := hD
  refine W.widen (k := 6) (n := 1292) (by omega) (by omega) ?_
  refine lv_astore_n (lv' := [(2, .ref o), (1, .ref x), (0, .ref b)]) hx hb qd_L_law_15 rfl hl (by decide) rfl (fun ls hl => ?_)
  refine lv_iconst (v := nI 1) hx hb qd_L_law_16 (by decide +kernel) ?_
  refine va_newa (atype := .long) (N' := 1) (a0 := (1, .inr (.inl (fun _ => 0)))) (ty := .long) (n := nI 1) hx hb (hW _ qm_32) rfl hK hP hD hS hA (fun _ => rfl) (by decide +kernel) (by decide +kernel) (by decide +kernel) (by show _ ≤ 601024; omega) (by show _ ≤ 7293034; omega) qd_L_law_17 (fun ao cao H hK hP hD hS => ?_)
  have hP : va_P (dC, dI) tq_cl [(x, .inr (0, [.ref a, .int (nI 0), .ref b2, .int (nI 0)])), (a, .inl (cA, (600, .inr (.inl (fun _ => 0))))), (b2, .inl (cA, (40, .inr (.inl (fun _ => 0))))), (o, .inr (1, [.int 0, .int 0, .int 0, .int 0, .ref ca, .ref cb, .long 0, .long 0])), (ca, .inl (cB, (600, .inr (.inl (fun _ => 0))))), (cb, .inl (cB, (40, .inr (.inl (fun _ => 0))))), (ao, .inl (cao, (1, .inr (.inl (fun _ => 0)))))] H := hP
  have hD : va_D A [(x, .inr (0, [.ref a, .int (nI 0), .ref b2, .int (nI 0)])), (a, .inl (cA, (600, .inr (.inl (fun _ => 0))))), (b2, .inl (cA, (40, .inr (.inl (fun _ => 0))))), (o, .inr (1, [.int 0, .int 0, .int 0, .int 0, .ref ca, .ref cb, .long 0, .long 0])), (ca, .inl (cB, (600, .inr (.inl (fun _ => 0))))), (cb, .inl (cB, (40, .inr (.inl (fun _ => 0))))), (ao, .inl (cao, (1, .inr (.inl (fun _ => 0)))))] := hD
  have hK : va_K (dC, dI) tq_cl [(cA, .long), (cB, .long), (cao, .long)] s := hK
  refine W.widen (k := 7) (n := 1293) (by omega) (by omega) ?_
  obtain rfl := tq_oneA hK 0 1 rfl rfl
  obtain rfl := tq_oneA hK 0 2 rfl rfl
  have hK := hK.sub (tys' := [(cA, .long)]) [0] rfl
  refine lv_astore_n (lv' := [(3, .ref ao), (2, .ref o), (1, .ref x), (0, .ref b)]) hx hb qd_L_law_19 rfl hl (by decide) rfl (fun ls hl => ?_)
  refine lv_iconst (v := nI 0) hx hb qd_L_law_20 (by decide +kernel) ?_
  refine lv_istore (lv' := [(4, .int (nI 0)), (3, .ref ao), (2, .ref o), (1, .ref x), (0, .ref b)]) hx hb qd_L_law_21 hl (by decide) rfl (fun ls hl => ?_)
  exact lq_loop p l e s m below meth c b L xs dC dI x a b2 o ca cb ao cA A ⟨hx, hb, hml, hown, hW, hst, hA, hX, hbl, hbA, hZ, hK, hL⟩ hA2 hr hlocks 512 0 7 1293 (by omega) (by omega) (by omega) (by omega) 0 0 (fun _ => 0) (fun _ => 0) 0 0 0 0 (fun _ => 0) (fun _ => 0) (fun _ => 0) H locs ls ⟨by omega, by omega, fun j hj => absurd hj (Nat.not_lt_zero j), fun j hj => absurd hj (Nat.not_lt_zero j)⟩ (hP.sub [0, 1, 2, 3, 4, 5, 6] rfl) (hD.sub [0, 1, 2, 3, 4, 5, 6] (by decide) rfl) hS (lv_sub hl [0, 4, 3, 2, 1] rfl)
