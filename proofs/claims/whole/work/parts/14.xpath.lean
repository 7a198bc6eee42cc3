theorem tq_sh1 {g : Nat → Int64} {S : List Int64} {t : Nat} {x : Int64} (h : ∀ q, q < S.length → g (t + 1 + q) = S.getD q 0) : ∀ q, q < (x :: S).length → vp_updL g t x (t + q) = (x :: S).getD q 0 := by
  intro q hq
  cases q with
  | zero => simp [vp_updL]
  | succ q =>
    have h1 := h q (by simpa using hq)
    rw [show t + 1 + q = t + (q + 1) by omega] at h1
    simp only [vp_updL]
    rw [if_neg (by omega), h1]
    simp
theorem tq_sh2 {g : Nat → Int64} {L S : List Int64} (e : L = S) (h : ∀ q, q < S.length → g (0 + q) = S.getD q 0) : ∀ q, q < L.length → g q = L.getD q 0 := by
  subst e
  intro q hq
  have := h q hq
  rw [Nat.zero_add] at this
  exact this
set_option maxHeartbeats 4000000 in
set_option maxRecDepth 100000 in
/-- path -/
theorem ct_X_path (l : Launch) (dC : Nat → ClassId) (dI : Nat → Nat → Nat) (x a b : Nat) (cA : ClassId) (n k : Nat) (f g : Nat → Int64) (sz : Nat) (mm j : Nat) (h1 : mm < j) (hj : j ≤ n) (hn : n ≤ 600) : Met l qy_X_path qw_X_path ({ frames := 13, cells := 0, slots := 0, locals := 320 }) (va_Pc [.ref x, .int (nI mm), .int (nI j)] (tq_rw (dC, dI) [(x, .inr (0, [.ref a, .int (nI n), .ref b, .int (nI k)])), (a, .inl (cA, (600, .inr (.inl f)))), (b, .inl (cA, (40, .inr (.inl g))))] [(cA, .long)] sz)) (va_Qi (fun r (u : Nat → Int64) => r = nI (tq_pl mm j) ∧ ∀ q, q < (tq_pt f 0 mm j).length → u q = (tq_pt f 0 mm j).getD q 0) (fun u t => tq_in (dC, dI) [(x, .inr (0, [.ref a, .int (nI n), .ref b, .int (nI (tq_pl mm j))])), (a, .inl (cA, (600, .inr (.inl f)))), (b, .inl (cA, (40, .inr (.inl u))))] [(cA, .long)] (va_A [(x, .inr (0, [.ref a, .int (nI n), .ref b, .int (nI k)])), (a, .inl (cA, (600, .inr (.inl f)))), (b, .inl (cA, (40, .inr (.inl g))))] sz) t) (va_A [(x, .inr (0, [.ref a, .int (nI n), .ref b, .int (nI k)])), (a, .inl (cA, (600, .inr (.inl f)))), (b, .inl (cA, (40, .inr (.inl g))))] sz)) 0 0 (va_A [(x, .inr (0, [.ref a, .int (nI n), .ref b, .int (nI k)])), (a, .inl (cA, (600, .inr (.inl f)))), (b, .inl (cA, (40, .inr (.inl g))))] sz) := by
  refine Met.ofW (cc := qc_X_path) (maxL := 7) (ret := (some .int)) (by decide) rfl ?_
  intro p e s m args below meth c s₁ B hml hv
  obtain ⟨rfl, hsz, hP, hK, hD0⟩ := hv
  have hx := B.exec
  have hb := B.bytes
  have hr := B.returns
  have hts := atoms_spec (ws := qw_X_path) B.pre
  have hW : ∀ w ∈ tq_W, w.before ([.ref x, .int (nI mm), .int (nI j)] : List Value).toArray s = true := fun w h => hts w (List.mem_cons_of_mem _ h)
  have hown : s.vm.findClass RX0 = some m.cls := findClass_of_methodNamed B.named
  have hlocks := B.notSynchronized
  have hl := lv_entry ([.ref x, .int (nI mm), .int (nI j)]) (n := 7) (Nat.le_of_ble_eq_true rfl)
  rw [lg_entry_eq]
  generalize (lg_sl ([.ref x, .int (nI mm), .int (nI j)]) ++ List.replicate (7 - (lg_sl ([.ref x, .int (nI mm), .int (nI j)])).length) Slot.unset).toArray = ls at hl ⊢
  have hl : lv_has ls 7 [(0, .ref x), (1, .int (nI mm)), (2, .int (nI j))] := hl
  subst hsz
  have hD := hD0.self (sz := s.heap.size)
  generalize hAe : va_A [(x, .inr (0, [.ref a, .int (nI n), .ref b, .int (nI k)])), (a, .inl (cA, (600, .inr (.inl f)))), (b, .inl (cA, (40, .inr (.inl g))))] s.heap.size = A at hD ⊢
  have hA : ∀ q : Nat, s.heap.size ≤ q → A q := fun q h => by rw [← hAe]; exact Or.inr h
  have hS : va_S A s.heap s.heap [] := va_S.rf
  have loop : ∀ (t i y z : Nat) (S : List Int64) (g1 : Nat → Int64), i + y = mm → y < z → i + z ≤ j → t = tq_pl y z → tq_pt f 0 mm j = tq_pt f i y z ++ S → (∀ q, q < S.length → g1 (t + q) = S.getD q 0) → ∀ (H : Heap) (locs : List Loc), va_P (dC, dI) tq_cl [(x, .inr (0, [.ref a, .int (nI n), .ref b, .int (nI (tq_pl mm j))])), (a, .inl (cA, (600, .inr (.inl f)))), (b, .inl (cA, (40, .inr (.inl g1))))] H → va_D A [(x, .inr (0, [.ref a, .int (nI n), .ref b, .int (nI (tq_pl mm j))])), (a, .inl (cA, (600, .inr (.inl f)))), (b, .inl (cA, (40, .inr (.inl g1))))] → va_S A s.heap H locs → ∀ ls : Array Slot, lv_has ls 7 [(5, .int (tq_pd t)), (4, .int (nI (i + z))), (3, .int (nI i)), (0, .ref x), (1, .int (nI mm))] → W p l e (headSpec qw_X_path ({ frames := 13, cells := 0, slots := 0, locals := 320 })).room s m ([.ref x, .int (nI mm), .int (nI j)] : List Value).toArray below meth c H locs 0 0 (MQ below (va_Qi (fun r (u : Nat → Int64) => r = nI (tq_pl mm j) ∧ ∀ q, q < (tq_pt f 0 mm j).length → u q = (tq_pt f 0 mm j).getD q 0) (fun u t => tq_in (dC, dI) [(x, .inr (0, [.ref a, .int (nI n), .ref b, .int (nI (tq_pl mm j))])), (a, .inl (cA, (600, .inr (.inl f)))), (b, .inl (cA, (40, .inr (.inl u))))] [(cA, .long)] A t) A) ([.ref x, .int (nI mm), .int (nI j)] : List Value).toArray s 0 0 A) (F0 m 47 ls []) := by
    intro t
    induction t with
    | zero =>
      intro i y z S g1 hi hy hz ht hL hg H locs hP hD hS ls hl
      have e0 : tq_pt f i y z = [] := List.eq_nil_of_length_eq_zero (by rw [tq_pt_len, ← ht])
      rw [e0, List.nil_append] at hL
      refine lv_iload hx hb qd_X_path_47 (lv_at hl 0 rfl) ?_
      refine lv_if_lt (tgt := 120) hx hb qd_X_path_49 (by decide) (fun c9 => ?_) (fun c9 => absurd tq_pd_0 c9)
      refine lv_aload_n hx hb qd_X_path_120 rfl (lv_at hl 3 rfl) ?_
      refine va_get (D := (dC, dI)) (ci := 0) (v := .int (nI (tq_pl mm j))) (C := RX0) (T := TX0) (N := 4) hx hb hW inX0 hown hK hP 0 rfl rfl 3 (by decide) (hW _ qm_22) (fun _ h9 => h9) rfl qd_X_path_121 ?_
      exact W.iret hx hb hr (fun t ht hW9 => ⟨⟨_, g1, rfl, ⟨rfl, tq_sh2 hL hg⟩, by rw [ht]; exact hP, va_K.moved hW9.alike hK, hD⟩, hS.F ht⟩) hS.2.2 qd_X_path_124
    | succ t ih =>
      intro i y z S g1 hi hy hz ht hL hg H locs hP hD hS ls hl
      rw [tq_pd_s] at hl
      have h2 : 2 ≤ z := by
        rcases Nat.lt_or_ge z 2 with h9 | h9
        · have := tq_pl_0 (m := y) h9; omega
        · exact h9
      have hlt := tq_pb_lt h2
      have hps := tq_pb_pos z
      have hpl := tq_pl_le 10 y z (by omega)
      have ht40 : t < 40 := by omega
      refine lv_iload hx hb qd_X_path_47 (lv_at hl 0 rfl) ?_
      refine tq_if_lt (x := t) (tgt := 120) hx hb qd_X_path_49 (by decide) (by omega) ?_
      refine lv_iload_n hx hb qd_X_path_52 rfl (lv_at hl 2 rfl) ?_
      refine lv_iload hx hb qd_X_path_53 (lv_at hl 1 rfl) ?_
      refine lv_iload_n hx hb qd_X_path_55 rfl (lv_at hl 2 rfl) ?_
      refine lv_isub hx hb qd_X_path_56 ?_
      refine tq_ti (y := nI z) (by rw [pk_sub (by omega)]; congr 1; omega) ?_
      refine vp_callSi (W.runS (As := [.int (nI z)]) (rest := [.int (nI i)]) ⟨hx, hb, hml, hown, hW⟩ (ct_X_powerBelow l z (by omega) (by omega)) (cwS 1 hW (tq_gS qm_41 qm_42 qm_1 qm_43) rfl rfl rfl (by decide +kernel) ⟨Nat.le_of_ble_eq_true rfl, Nat.le_of_ble_eq_true rfl⟩) ⟨tq_b0, fun U hU hW9 => ⟨rfl, trivial⟩⟩ rfl rfl hl.1 rfl (lv_room (Nat.le_of_ble_eq_true rfl)) qd_X_path_57 ⟨Nat.le_of_ble_eq_true rfl, Nat.le_of_ble_eq_true rfl⟩) (fun r9 e9 => ?_)
      subst e9
      refine lv_iadd hx hb qd_X_path_60 ?_
      refine tq_ti (y := nI (i + tq_pb z)) (nI_add _ _) ?_
      refine lv_istore (lv' := [(6, .int (nI (i + tq_pb z))), (5, .int (nI t)), (4, .int (nI (i + z))), (3, .int (nI i)), (0, .ref x), (1, .int (nI mm))]) hx hb qd_X_path_61 hl (by decide) rfl (fun ls hl => ?_)
      refine lv_iload_n hx hb qd_X_path_63 rfl (lv_at hl 5 rfl) ?_
      refine lv_iload hx hb qd_X_path_64 (lv_at hl 0 rfl) ?_
      refine tq_icmp_ge (x := mm) (y := (i + tq_pb z)) (tgt := 94) hx hb qd_X_path_66 (by decide) (by omega) (by omega) (fun c9 => ?_) (fun c9 => ?_)
      · rw [tq_pt_r h2 (by omega), List.append_assoc] at hL
        rw [tq_pl_r h2 (by omega)] at ht
        refine lv_aload_n hx hb qd_X_path_94 rfl (lv_at hl 4 rfl) ?_
        refine va_get (D := (dC, dI)) (ci := 0) (v := .ref b) (C := RX0) (T := TX0) (N := 4) hx hb hW inX0 hown hK hP 0 rfl rfl 2 (by decide) (hW _ qm_21) (fun _ h9 => h9) rfl qd_X_path_95 ?_
        refine lv_iload hx hb qd_X_path_98 (lv_at hl 1 rfl) ?_
        refine lv_aload_n hx hb qd_X_path_100 rfl (lv_at hl 4 rfl) ?_
        refine va_get (D := (dC, dI)) (ci := 0) (v := .ref a) (C := RX0) (T := TX0) (N := 4) hx hb hW inX0 hown hK hP 0 rfl rfl 0 (by decide) (hW _ qm_19) (fun _ h9 => h9) rfl qd_X_path_101 ?_
        refine lv_iload_n hx hb qd_X_path_104 rfl (lv_at hl 3 rfl) ?_
        refine lv_iload hx hb qd_X_path_105 (lv_at hl 0 rfl) ?_
        refine vp_callSl (W.runS (As := [.ref a, .int (nI i), .int (nI (i + tq_pb z))]) (rest := [.int (nI t), .ref b]) ⟨hx, hb, hml, hown, hW⟩ (ct_X_headOf l dC dI a cA f 10 i (tq_pb z) (by omega) (by omega)) (cwS 3 hW (tq_gS qm_207 qm_208 qm_1 qm_209) rfl rfl rfl (by decide +kernel) ⟨Nat.le_of_ble_eq_true rfl, Nat.le_of_ble_eq_true rfl⟩) ⟨tq_b1, fun U hU hW9 => ⟨rfl, by rw [hU]; exact hP.sub [1] rfl, va_K.moved hW9.alike (hK.sub [0] rfl)⟩⟩ rfl rfl hl.1 rfl (lv_room (Nat.le_of_ble_eq_true rfl)) qd_X_path_107 ⟨Nat.le_of_ble_eq_true rfl, Nat.le_of_ble_eq_true rfl⟩) (fun r9 e9 => ?_)
        subst e9
        refine tq_last hx hb hK hP hD hS 2 0 rfl rfl (j := t) (x := (tq_hd f i (tq_pb z))) (by omega) (by decide) qd_X_path_110 (fun H locs hP hD hS => ?_)
        have hP : va_P (dC, dI) tq_cl [(x, .inr (0, [.ref a, .int (nI n), .ref b, .int (nI (tq_pl mm j))])), (a, .inl (cA, (600, .inr (.inl f)))), (b, .inl (cA, (40, .inr (.inl (vp_updL g1 t (tq_hd f i (tq_pb z)))))))] H := hP
        have hD : va_D A [(x, .inr (0, [.ref a, .int (nI n), .ref b, .int (nI (tq_pl mm j))])), (a, .inl (cA, (600, .inr (.inl f)))), (b, .inl (cA, (40, .inr (.inl (vp_updL g1 t (tq_hd f i (tq_pb z)))))))] := hD
        refine lv_iload hx hb qd_X_path_111 (lv_at hl 0 rfl) ?_
        refine lv_istore_n (lv' := [(3, .int (nI (i + tq_pb z))), (6, .int (nI (i + tq_pb z))), (5, .int (nI t)), (4, .int (nI (i + z))), (0, .ref x), (1, .int (nI mm))]) hx hb qd_X_path_113 rfl hl (by decide) rfl (fun ls hl => ?_)
        refine lv_iinc (v := (tq_pd t)) (lv' := [(5, .int (tq_pd t)), (3, .int (nI (i + tq_pb z))), (6, .int (nI (i + tq_pb z))), (4, .int (nI (i + z))), (0, .ref x), (1, .int (nI mm))]) hx hb qd_X_path_114 hl (k := 2) rfl (tq_pd_i t) (by decide) rfl (fun ls hl => ?_)
        refine lv_goto (tgt := 47) hx hb qd_X_path_117 (by decide) ?_
        exact ih (i + tq_pb z) (y - tq_pb z) (z - tq_pb z) _ _ (by omega) (by omega) (by omega) (by omega) hL (tq_sh1 hg) _ _ hP hD hS ls (by rw [show i + tq_pb z + (z - tq_pb z) = i + z by omega]; exact lv_sub hl [0, 3, 1, 4, 5] rfl)
      · rw [tq_pt_l h2 (by omega), List.append_assoc] at hL
        rw [tq_pl_l h2 (by omega)] at ht
        refine lv_aload_n hx hb qd_X_path_69 rfl (lv_at hl 4 rfl) ?_
        refine va_get (D := (dC, dI)) (ci := 0) (v := .ref b) (C := RX0) (T := TX0) (N := 4) hx hb hW inX0 hown hK hP 0 rfl rfl 2 (by decide) (hW _ qm_21) (fun _ h9 => h9) rfl qd_X_path_70 ?_
        refine lv_iload hx hb qd_X_path_73 (lv_at hl 1 rfl) ?_
        refine lv_aload_n hx hb qd_X_path_75 rfl (lv_at hl 4 rfl) ?_
        refine va_get (D := (dC, dI)) (ci := 0) (v := .ref a) (C := RX0) (T := TX0) (N := 4) hx hb hW inX0 hown hK hP 0 rfl rfl 0 (by decide) (hW _ qm_19) (fun _ h9 => h9) rfl qd_X_path_76 ?_
        refine lv_iload hx hb qd_X_path_79 (lv_at hl 0 rfl) ?_
        refine lv_iload hx hb qd_X_path_81 (lv_at hl 2 rfl) ?_
        refine tq_ti (y := nI (i + tq_pb z + (z - tq_pb z))) (by congr 1; omega) ?_
        refine vp_callSl (W.runS (As := [.ref a, .int (nI (i + tq_pb z)), .int (nI (i + tq_pb z + (z - tq_pb z)))]) (rest := [.int (nI t), .ref b]) ⟨hx, hb, hml, hown, hW⟩ (ct_X_headOf l dC dI a cA f 10 (i + tq_pb z) (z - tq_pb z) (by omega) (by omega)) (cwS 3 hW (tq_gS qm_207 qm_208 qm_1 qm_209) rfl rfl rfl (by decide +kernel) ⟨Nat.le_of_ble_eq_true rfl, Nat.le_of_ble_eq_true rfl⟩) ⟨tq_b1, fun U hU hW9 => ⟨rfl, by rw [hU]; exact hP.sub [1] rfl, va_K.moved hW9.alike (hK.sub [0] rfl)⟩⟩ rfl rfl hl.1 rfl (lv_room (Nat.le_of_ble_eq_true rfl)) qd_X_path_83 ⟨Nat.le_of_ble_eq_true rfl, Nat.le_of_ble_eq_true rfl⟩) (fun r9 e9 => ?_)
        subst e9
        refine tq_last hx hb hK hP hD hS 2 0 rfl rfl (j := t) (x := (tq_hd f (i + tq_pb z) (z - tq_pb z))) (by omega) (by decide) qd_X_path_86 (fun H locs hP hD hS => ?_)
        have hP : va_P (dC, dI) tq_cl [(x, .inr (0, [.ref a, .int (nI n), .ref b, .int (nI (tq_pl mm j))])), (a, .inl (cA, (600, .inr (.inl f)))), (b, .inl (cA, (40, .inr (.inl (vp_updL g1 t (tq_hd f (i + tq_pb z) (z - tq_pb z)))))))] H := hP
        have hD : va_D A [(x, .inr (0, [.ref a, .int (nI n), .ref b, .int (nI (tq_pl mm j))])), (a, .inl (cA, (600, .inr (.inl f)))), (b, .inl (cA, (40, .inr (.inl (vp_updL g1 t (tq_hd f (i + tq_pb z) (z - tq_pb z)))))))] := hD
        refine lv_iload hx hb qd_X_path_87 (lv_at hl 0 rfl) ?_
        refine lv_istore (lv' := [(4, .int (nI (i + tq_pb z))), (6, .int (nI (i + tq_pb z))), (5, .int (nI t)), (3, .int (nI i)), (0, .ref x), (1, .int (nI mm))]) hx hb qd_X_path_89 hl (by decide) rfl (fun ls hl => ?_)
        refine lv_goto (tgt := 114) hx hb qd_X_path_91 (by decide) ?_
        refine lv_iinc (v := (tq_pd t)) (lv' := [(5, .int (tq_pd t)), (4, .int (nI (i + tq_pb z))), (6, .int (nI (i + tq_pb z))), (3, .int (nI i)), (0, .ref x), (1, .int (nI mm))]) hx hb qd_X_path_114 hl (k := 2) rfl (tq_pd_i t) (by decide) rfl (fun ls hl => ?_)
        refine lv_goto (tgt := 47) hx hb qd_X_path_117 (by decide) ?_
        exact ih i y (tq_pb z) _ _ hi (by omega) (by omega) (by omega) hL (tq_sh1 hg) _ _ hP hD hS ls (lv_sub hl [0, 1, 3, 4, 5] rfl)
  refine lv_iload_n hx hb qd_X_path_0 rfl (lv_at hl 1 rfl) ?_
  refine tq_if_lt (x := mm) (tgt := 17) hx hb qd_X_path_1 (by decide) (by omega) ?_
  refine lv_iload_n hx hb qd_X_path_4 rfl (lv_at hl 1 rfl) ?_
  refine lv_iload_n hx hb qd_X_path_5 rfl (lv_at hl 2 rfl) ?_
  refine tq_icmp_ge (x := mm) (y := j) (tgt := 17) hx hb qd_X_path_6 (by decide) (by omega) (by omega) (fun c9 => by omega) (fun c9 => ?_)
  refine lv_iload_n hx hb qd_X_path_9 rfl (lv_at hl 2 rfl) ?_
  refine lv_aload_n hx hb qd_X_path_10 rfl (lv_at hl 0 rfl) ?_
  refine va_get (D := (dC, dI)) (ci := 0) (v := .int (nI n)) (C := RX0) (T := TX0) (N := 4) hx hb hW inX0 hown hK hP 0 rfl rfl 1 (by decide) (hW _ qm_20) (fun _ h9 => h9) rfl qd_X_path_11 ?_
  refine tq_icmp_le (x := j) (y := n) (tgt := 25) hx hb qd_X_path_14 (by decide) (by omega) (by omega) (fun c9 => ?_) (fun c9 => by omega)
  have hpl := tq_pl_le 10 mm j (by omega)
  refine lv_aload_n hx hb qd_X_path_25 rfl (lv_at hl 0 rfl) ?_
  refine lv_iload_n hx hb qd_X_path_26 rfl (lv_at hl 1 rfl) ?_
  refine lv_iload_n hx hb qd_X_path_27 rfl (lv_at hl 2 rfl) ?_
  refine vp_callSi (W.runS (As := [.int (nI mm), .int (nI j)]) (rest := [.ref x]) ⟨hx, hb, hml, hown, hW⟩ (ct_X_pathLength l mm j (by omega) (by omega)) (cwS 2 hW (tq_gS qm_38 qm_39 qm_1 qm_40) rfl rfl rfl (by decide +kernel) ⟨Nat.le_of_ble_eq_true rfl, Nat.le_of_ble_eq_true rfl⟩) ⟨tq_b0, fun U hU hW9 => ⟨rfl, trivial⟩⟩ rfl rfl hl.1 rfl (lv_room (Nat.le_of_ble_eq_true rfl)) qd_X_path_28 ⟨Nat.le_of_ble_eq_true rfl, Nat.le_of_ble_eq_true rfl⟩) (fun r9 e9 => ?_)
  subst e9
  refine va_put (D := (dC, dI)) (ci := 0) (v := .int (nI (tq_pl mm j))) (ty := .int) (C := RX0) (T := TX0) (N := 4) hx hb hW inX0 tyX0 tyX0_ok nmX0 hown hK hP hD hS 0 rfl rfl 3 (by decide) (hW _ qm_22) (fun _ h9 => h9) rfl (by decide +kernel) rfl rfl (Nat.le_of_ble_eq_true rfl) qd_X_path_31 (fun H locs hP hD hS => ?_)
  have hP : va_P (dC, dI) tq_cl [(x, .inr (0, [.ref a, .int (nI n), .ref b, .int (nI (tq_pl mm j))])), (a, .inl (cA, (600, .inr (.inl f)))), (b, .inl (cA, (40, .inr (.inl g))))] H := hP
  have hD : va_D A [(x, .inr (0, [.ref a, .int (nI n), .ref b, .int (nI (tq_pl mm j))])), (a, .inl (cA, (600, .inr (.inl f)))), (b, .inl (cA, (40, .inr (.inl g))))] := hD
  refine lv_iconst (v := nI 0) hx hb qd_X_path_34 (by decide +kernel) ?_
  refine tq_ti (y := nI 0) (rfl) ?_
  refine lv_istore_n (lv' := [(3, .int (nI 0)), (0, .ref x), (1, .int (nI mm)), (2, .int (nI j))]) hx hb qd_X_path_35 rfl hl (by decide) rfl (fun ls hl => ?_)
  refine lv_iload_n hx hb qd_X_path_36 rfl (lv_at hl 3 rfl) ?_
  refine tq_ti (y := nI (0 + j)) (by rw [Nat.zero_add]) ?_
  refine lv_istore (lv' := [(4, .int (nI (0 + j))), (3, .int (nI 0)), (0, .ref x), (1, .int (nI mm)), (2, .int (nI j))]) hx hb qd_X_path_37 hl (by decide) rfl (fun ls hl => ?_)
  refine lv_aload_n hx hb qd_X_path_39 rfl (lv_at hl 2 rfl) ?_
  refine va_get (D := (dC, dI)) (ci := 0) (v := .int (nI (tq_pl mm j))) (C := RX0) (T := TX0) (N := 4) hx hb hW inX0 hown hK hP 0 rfl rfl 3 (by decide) (hW _ qm_22) (fun _ h9 => h9) rfl qd_X_path_40 ?_
  refine lv_iconst (v := nI 1) hx hb qd_X_path_43 (by decide +kernel) ?_
  refine lv_isub hx hb qd_X_path_44 ?_
  refine tq_ti (y := tq_pd (tq_pl mm j)) (tq_pd_1 _) ?_
  refine lv_istore (lv' := [(5, .int (tq_pd (tq_pl mm j))), (4, .int (nI (0 + j))), (3, .int (nI 0)), (0, .ref x), (1, .int (nI mm)), (2, .int (nI j))]) hx hb qd_X_path_45 hl (by decide) rfl (fun ls hl => ?_)
  exact loop (tq_pl mm j) 0 mm j [] g (Nat.zero_add mm) h1 (by omega) rfl (List.append_nil _).symm (fun q h9 => absurd h9 (Nat.not_lt_zero q)) _ _ hP hD hS ls (lv_sub hl [0, 1, 2, 3, 4] rfl)
set_option maxHeartbeats 4000000 in
set_option maxRecDepth 100000 in
/-- steps -/
theorem ct_X_steps (l : Launch) (dC : Nat → ClassId) (dI : Nat → Nat → Nat) (x a b : Nat) (cA : ClassId) (n k : Nat) (f g : Nat → Int64) (sz : Nat) (mm j : Nat) (h0 : 1 ≤ mm) (h1 : mm ≤ j) (hj : j ≤ n) (hn : n ≤ 600) : Met l qy_X_steps qw_X_steps ({ frames := 13, cells := 0, slots := 0, locals := 320 }) (va_Pc [.ref x, .int (nI mm), .int (nI j)] (tq_rw (dC, dI) [(x, .inr (0, [.ref a, .int (nI n), .ref b, .int (nI k)])), (a, .inl (cA, (600, .inr (.inl f)))), (b, .inl (cA, (40, .inr (.inl g))))] [(cA, .long)] sz)) (va_Qi (fun r (u : Nat → Int64) => r = nI (tq_sl true mm j) ∧ ∀ q, q < (tq_st f true 0 mm j).length → u q = (tq_st f true 0 mm j).getD q 0) (fun u t => tq_in (dC, dI) [(x, .inr (0, [.ref a, .int (nI n), .ref b, .int (nI (tq_sl true mm j))])), (a, .inl (cA, (600, .inr (.inl f)))), (b, .inl (cA, (40, .inr (.inl u))))] [(cA, .long)] (va_A [(x, .inr (0, [.ref a, .int (nI n), .ref b, .int (nI k)])), (a, .inl (cA, (600, .inr (.inl f)))), (b, .inl (cA, (40, .inr (.inl g))))] sz) t) (va_A [(x, .inr (0, [.ref a, .int (nI n), .ref b, .int (nI k)])), (a, .inl (cA, (600, .inr (.inl f)))), (b, .inl (cA, (40, .inr (.inl g))))] sz)) 0 0 (va_A [(x, .inr (0, [.ref a, .int (nI n), .ref b, .int (nI k)])), (a, .inl (cA, (600, .inr (.inl f)))), (b, .inl (cA, (40, .inr (.inl g))))] sz) := by
  refine Met.ofW (cc := qc_X_steps) (maxL := 7) (ret := (some .int)) (by decide) rfl ?_
  intro p e s m args below meth c s₁ B hml hv
  obtain ⟨rfl, hsz, hP, hK, hD0⟩ := hv
  have hx := B.exec
  have hb := B.bytes
  have hr := B.returns
  have hts := atoms_spec (ws := qw_X_steps) B.pre
  have hW : ∀ w ∈ tq_W, w.before ([.ref x, .int (nI mm), .int (nI j)] : List Value).toArray s = true := fun w h => hts w (List.mem_cons_of_mem _ h)
  have hown : s.vm.findClass RX0 = some m.cls := findClass_of_methodNamed B.named
  have hlocks := B.notSynchronized
  have hl := lv_entry ([.ref x, .int (nI mm), .int (nI j)]) (n := 7) (Nat.le_of_ble_eq_true rfl)
  rw [lg_entry_eq]
  generalize (lg_sl ([.ref x, .int (nI mm), .int (nI j)]) ++ List.replicate (7 - (lg_sl ([.ref x, .int (nI mm), .int (nI j)])).length) Slot.unset).toArray = ls at hl ⊢
  have hl : lv_has ls 7 [(0, .ref x), (1, .int (nI mm)), (2, .int (nI j))] := hl
  subst hsz
  have hD := hD0.self (sz := s.heap.size)
  generalize hAe : va_A [(x, .inr (0, [.ref a, .int (nI n), .ref b, .int (nI k)])), (a, .inl (cA, (600, .inr (.inl f)))), (b, .inl (cA, (40, .inr (.inl g))))] s.heap.size = A at hD ⊢
  have hA : ∀ q : Nat, s.heap.size ≤ q → A q := fun q h => by rw [← hAe]; exact Or.inr h
  have hS : va_S A s.heap s.heap [] := va_S.rf
  have loop : ∀ (t i y z : Nat) (kn : Bool) (S : List Int64) (g1 : Nat → Int64), i + y = mm → 1 ≤ y → y ≤ z → i + z ≤ j → t = tq_sl kn y z → tq_st f true 0 mm j = tq_st f kn i y z ++ S → (∀ q, q < S.length → g1 (t + q) = S.getD q 0) → ∀ (H : Heap) (locs : List Loc), va_P (dC, dI) tq_cl [(x, .inr (0, [.ref a, .int (nI n), .ref b, .int (nI (tq_sl true mm j))])), (a, .inl (cA, (600, .inr (.inl f)))), (b, .inl (cA, (40, .inr (.inl g1))))] H → va_D A [(x, .inr (0, [.ref a, .int (nI n), .ref b, .int (nI (tq_sl true mm j))])), (a, .inl (cA, (600, .inr (.inl f)))), (b, .inl (cA, (40, .inr (.inl g1))))] → va_S A s.heap H locs → ∀ ls : Array Slot, lv_has ls 7 [(5, .int (tq_pd t)), (4, .int (nI (i + z))), (3, .int (nI i)), (0, .ref x), (1, .int (nI mm))] → W p l e (headSpec qw_X_steps ({ frames := 13, cells := 0, slots := 0, locals := 320 })).room s m ([.ref x, .int (nI mm), .int (nI j)] : List Value).toArray below meth c H locs 0 0 (MQ below (va_Qi (fun r (u : Nat → Int64) => r = nI (tq_sl true mm j) ∧ ∀ q, q < (tq_st f true 0 mm j).length → u q = (tq_st f true 0 mm j).getD q 0) (fun u t => tq_in (dC, dI) [(x, .inr (0, [.ref a, .int (nI n), .ref b, .int (nI (tq_sl true mm j))])), (a, .inl (cA, (600, .inr (.inl f)))), (b, .inl (cA, (40, .inr (.inl u))))] [(cA, .long)] A t) A) ([.ref x, .int (nI mm), .int (nI j)] : List Value).toArray s 0 0 A) (F0 m 48 ls []) := by
    intro t
    induction t with
    | zero =>
      intro i y z kn S g1 hi hy0 hy hz ht hL hg H locs hP hD hS ls hl
      have e0 : tq_st f kn i y z = [] := List.eq_nil_of_length_eq_zero (by rw [tq_st_len, ← ht])
      rw [e0, List.nil_append] at hL
      refine lv_iload hx hb qd_X_steps_48 (lv_at hl 0 rfl) ?_
      refine lv_if_lt (tgt := 147) hx hb qd_X_steps_50 (by decide) (fun c9 => ?_) (fun c9 => absurd tq_pd_0 c9)
      refine lv_aload_n hx hb qd_X_steps_147 rfl (lv_at hl 3 rfl) ?_
      refine va_get (D := (dC, dI)) (ci := 0) (v := .int (nI (tq_sl true mm j))) (C := RX0) (T := TX0) (N := 4) hx hb hW inX0 hown hK hP 0 rfl rfl 3 (by decide) (hW _ qm_22) (fun _ h9 => h9) rfl qd_X_steps_148 ?_
      exact W.iret hx hb hr (fun t ht hW9 => ⟨⟨_, g1, rfl, ⟨rfl, tq_sh2 hL hg⟩, by rw [ht]; exact hP, va_K.moved hW9.alike hK, hD⟩, hS.F ht⟩) hS.2.2 qd_X_steps_151
    | succ t ih =>
      intro i y z kn S g1 hi hy0 hy hz ht hL hg H locs hP hD hS ls hl
      rw [tq_pd_s] at hl
      have hps := tq_pb_pos z
      have hsl := tq_sl_le 10 kn y z (by omega)
      have ht40 : t < 40 := by omega
      refine lv_iload hx hb qd_X_steps_48 (lv_at hl 0 rfl) ?_
      refine tq_if_lt (x := t) (tgt := 147) hx hb qd_X_steps_50 (by decide) (by omega) ?_
      refine lv_iload_n hx hb qd_X_steps_53 rfl (lv_at hl 2 rfl) ?_
      refine lv_iload hx hb qd_X_steps_54 (lv_at hl 1 rfl) ?_
      refine lv_iload_n hx hb qd_X_steps_56 rfl (lv_at hl 2 rfl) ?_
      refine lv_isub hx hb qd_X_steps_57 ?_
      refine tq_ti (y := nI z) (by rw [pk_sub (by omega)]; congr 1; omega) ?_
      refine vp_callSi (W.runS (As := [.int (nI z)]) (rest := [.int (nI i)]) ⟨hx, hb, hml, hown, hW⟩ (ct_X_powerBelow l z (by omega) (by omega)) (cwS 1 hW (tq_gS qm_41 qm_42 qm_1 qm_43) rfl rfl rfl (by decide +kernel) ⟨Nat.le_of_ble_eq_true rfl, Nat.le_of_ble_eq_true rfl⟩) ⟨tq_b0, fun U hU hW9 => ⟨rfl, trivial⟩⟩ rfl rfl hl.1 rfl (lv_room (Nat.le_of_ble_eq_true rfl)) qd_X_steps_58 ⟨Nat.le_of_ble_eq_true rfl, Nat.le_of_ble_eq_true rfl⟩) (fun r9 e9 => ?_)
      subst e9
      refine lv_iadd hx hb qd_X_steps_61 ?_
      refine tq_ti (y := nI (i + tq_pb z)) (nI_add _ _) ?_
      refine lv_istore (lv' := [(6, .int (nI (i + tq_pb z))), (5, .int (nI t)), (4, .int (nI (i + z))), (3, .int (nI i)), (0, .ref x), (1, .int (nI mm))]) hx hb qd_X_steps_62 hl (by decide) rfl (fun ls hl => ?_)
      refine lv_iload_n hx hb qd_X_steps_64 rfl (lv_at hl 5 rfl) ?_
      refine lv_iload hx hb qd_X_steps_65 (lv_at hl 2 rfl) ?_
      refine tq_icmp_ne (x := mm) (y := (i + z)) (tgt := 90) hx hb qd_X_steps_67 (by decide) (by omega) (by omega) (fun c1 => ?_) (fun c1 => ?_)
      · have h2 : 2 ≤ z := by omega
        have hlt := tq_pb_lt h2
        refine lv_iload_n hx hb qd_X_steps_90 rfl (lv_at hl 5 rfl) ?_
        refine lv_iload hx hb qd_X_steps_91 (lv_at hl 0 rfl) ?_
        refine tq_icmp_gt (x := mm) (y := (i + tq_pb z)) (tgt := 121) hx hb qd_X_steps_93 (by decide) (by omega) (by omega) (fun c9 => ?_) (fun c9 => ?_)
        · rw [tq_st_r h2 (by omega) (by omega), List.append_assoc] at hL
          rw [tq_sl_r h2 (by omega) (by omega)] at ht
          refine lv_aload_n hx hb qd_X_steps_121 rfl (lv_at hl 4 rfl) ?_
          refine va_get (D := (dC, dI)) (ci := 0) (v := .ref b) (C := RX0) (T := TX0) (N := 4) hx hb hW inX0 hown hK hP 0 rfl rfl 2 (by decide) (hW _ qm_21) (fun _ h9 => h9) rfl qd_X_steps_122 ?_
          refine lv_iload hx hb qd_X_steps_125 (lv_at hl 1 rfl) ?_
          refine lv_aload_n hx hb qd_X_steps_127 rfl (lv_at hl 4 rfl) ?_
          refine va_get (D := (dC, dI)) (ci := 0) (v := .ref a) (C := RX0) (T := TX0) (N := 4) hx hb hW inX0 hown hK hP 0 rfl rfl 0 (by decide) (hW _ qm_19) (fun _ h9 => h9) rfl qd_X_steps_128 ?_
          refine lv_iload_n hx hb qd_X_steps_131 rfl (lv_at hl 3 rfl) ?_
          refine lv_iload hx hb qd_X_steps_132 (lv_at hl 0 rfl) ?_
          refine vp_callSl (W.runS (As := [.ref a, .int (nI i), .int (nI (i + tq_pb z))]) (rest := [.int (nI t), .ref b]) ⟨hx, hb, hml, hown, hW⟩ (ct_X_headOf l dC dI a cA f 10 i (tq_pb z) (by omega) (by omega)) (cwS 3 hW (tq_gS qm_207 qm_208 qm_1 qm_209) rfl rfl rfl (by decide +kernel) ⟨Nat.le_of_ble_eq_true rfl, Nat.le_of_ble_eq_true rfl⟩) ⟨tq_b1, fun U hU hW9 => ⟨rfl, by rw [hU]; exact hP.sub [1] rfl, va_K.moved hW9.alike (hK.sub [0] rfl)⟩⟩ rfl rfl hl.1 rfl (lv_room (Nat.le_of_ble_eq_true rfl)) qd_X_steps_134 ⟨Nat.le_of_ble_eq_true rfl, Nat.le_of_ble_eq_true rfl⟩) (fun r9 e9 => ?_)
          subst e9
          refine tq_last hx hb hK hP hD hS 2 0 rfl rfl (j := t) (x := (tq_hd f i (tq_pb z))) (by omega) (by decide) qd_X_steps_137 (fun H locs hP hD hS => ?_)
          have hP : va_P (dC, dI) tq_cl [(x, .inr (0, [.ref a, .int (nI n), .ref b, .int (nI (tq_sl true mm j))])), (a, .inl (cA, (600, .inr (.inl f)))), (b, .inl (cA, (40, .inr (.inl (vp_updL g1 t (tq_hd f i (tq_pb z)))))))] H := hP
          have hD : va_D A [(x, .inr (0, [.ref a, .int (nI n), .ref b, .int (nI (tq_sl true mm j))])), (a, .inl (cA, (600, .inr (.inl f)))), (b, .inl (cA, (40, .inr (.inl (vp_updL g1 t (tq_hd f i (tq_pb z)))))))] := hD
          refine lv_iload hx hb qd_X_steps_138 (lv_at hl 0 rfl) ?_
          refine lv_istore_n (lv' := [(3, .int (nI (i + tq_pb z))), (6, .int (nI (i + tq_pb z))), (5, .int (nI t)), (4, .int (nI (i + z))), (0, .ref x), (1, .int (nI mm))]) hx hb qd_X_steps_140 rfl hl (by decide) rfl (fun ls hl => ?_)
          refine lv_iinc (v := (tq_pd t)) (lv' := [(5, .int (tq_pd t)), (3, .int (nI (i + tq_pb z))), (6, .int (nI (i + tq_pb z))), (4, .int (nI (i + z))), (0, .ref x), (1, .int (nI mm))]) hx hb qd_X_steps_141 hl (k := 2) rfl (tq_pd_i t) (by decide) rfl (fun ls hl => ?_)
          refine lv_goto (tgt := 48) hx hb qd_X_steps_144 (by decide) ?_
          exact ih (i + tq_pb z) (y - tq_pb z) (z - tq_pb z) false _ _ (by omega) (by omega) (by omega) (by omega) (by omega) hL (tq_sh1 hg) _ _ hP hD hS ls (by rw [show i + tq_pb z + (z - tq_pb z) = i + z by omega]; exact lv_sub hl [0, 3, 1, 4, 5] rfl)
        · rw [tq_st_l h2 (by omega), List.append_assoc] at hL
          rw [tq_sl_l h2 (by omega)] at ht
          refine lv_aload_n hx hb qd_X_steps_96 rfl (lv_at hl 4 rfl) ?_
          refine va_get (D := (dC, dI)) (ci := 0) (v := .ref b) (C := RX0) (T := TX0) (N := 4) hx hb hW inX0 hown hK hP 0 rfl rfl 2 (by decide) (hW _ qm_21) (fun _ h9 => h9) rfl qd_X_steps_97 ?_
          refine lv_iload hx hb qd_X_steps_100 (lv_at hl 1 rfl) ?_
          refine lv_aload_n hx hb qd_X_steps_102 rfl (lv_at hl 4 rfl) ?_
          refine va_get (D := (dC, dI)) (ci := 0) (v := .ref a) (C := RX0) (T := TX0) (N := 4) hx hb hW inX0 hown hK hP 0 rfl rfl 0 (by decide) (hW _ qm_19) (fun _ h9 => h9) rfl qd_X_steps_103 ?_
          refine lv_iload hx hb qd_X_steps_106 (lv_at hl 0 rfl) ?_
          refine lv_iload hx hb qd_X_steps_108 (lv_at hl 2 rfl) ?_
          refine tq_ti (y := nI (i + tq_pb z + (z - tq_pb z))) (by congr 1; omega) ?_
          refine vp_callSl (W.runS (As := [.ref a, .int (nI (i + tq_pb z)), .int (nI (i + tq_pb z + (z - tq_pb z)))]) (rest := [.int (nI t), .ref b]) ⟨hx, hb, hml, hown, hW⟩ (ct_X_headOf l dC dI a cA f 10 (i + tq_pb z) (z - tq_pb z) (by omega) (by omega)) (cwS 3 hW (tq_gS qm_207 qm_208 qm_1 qm_209) rfl rfl rfl (by decide +kernel) ⟨Nat.le_of_ble_eq_true rfl, Nat.le_of_ble_eq_true rfl⟩) ⟨tq_b1, fun U hU hW9 => ⟨rfl, by rw [hU]; exact hP.sub [1] rfl, va_K.moved hW9.alike (hK.sub [0] rfl)⟩⟩ rfl rfl hl.1 rfl (lv_room (Nat.le_of_ble_eq_true rfl)) qd_X_steps_110 ⟨Nat.le_of_ble_eq_true rfl, Nat.le_of_ble_eq_true rfl⟩) (fun r9 e9 => ?_)
          subst e9
          refine tq_last hx hb hK hP hD hS 2 0 rfl rfl (j := t) (x := (tq_hd f (i + tq_pb z) (z - tq_pb z))) (by omega) (by decide) qd_X_steps_113 (fun H locs hP hD hS => ?_)
          have hP : va_P (dC, dI) tq_cl [(x, .inr (0, [.ref a, .int (nI n), .ref b, .int (nI (tq_sl true mm j))])), (a, .inl (cA, (600, .inr (.inl f)))), (b, .inl (cA, (40, .inr (.inl (vp_updL g1 t (tq_hd f (i + tq_pb z) (z - tq_pb z)))))))] H := hP
          have hD : va_D A [(x, .inr (0, [.ref a, .int (nI n), .ref b, .int (nI (tq_sl true mm j))])), (a, .inl (cA, (600, .inr (.inl f)))), (b, .inl (cA, (40, .inr (.inl (vp_updL g1 t (tq_hd f (i + tq_pb z) (z - tq_pb z)))))))] := hD
          refine lv_iload hx hb qd_X_steps_114 (lv_at hl 0 rfl) ?_
          refine lv_istore (lv' := [(4, .int (nI (i + tq_pb z))), (6, .int (nI (i + tq_pb z))), (5, .int (nI t)), (3, .int (nI i)), (0, .ref x), (1, .int (nI mm))]) hx hb qd_X_steps_116 hl (by decide) rfl (fun ls hl => ?_)
          refine lv_goto (tgt := 141) hx hb qd_X_steps_118 (by decide) ?_
          refine lv_iinc (v := (tq_pd t)) (lv' := [(5, .int (tq_pd t)), (4, .int (nI (i + tq_pb z))), (6, .int (nI (i + tq_pb z))), (3, .int (nI i)), (0, .ref x), (1, .int (nI mm))]) hx hb qd_X_steps_141 hl (k := 2) rfl (tq_pd_i t) (by decide) rfl (fun ls hl => ?_)
          refine lv_goto (tgt := 48) hx hb qd_X_steps_144 (by decide) ?_
          exact ih i y (tq_pb z) kn _ _ hi hy0 (by omega) (by omega) (by omega) hL (tq_sh1 hg) _ _ hP hD hS ls (lv_sub hl [0, 1, 3, 4, 5] rfl)
      · obtain rfl : y = z := by omega
        have ek : kn = false ∧ t = 0 := by
          rw [tq_sl_e] at ht
          cases kn with
          | true => exact absurd ht (by simp)
          | false => exact ⟨rfl, by simpa using ht⟩
        obtain ⟨rfl, rfl⟩ := ek
        rw [tq_st_e] at hL
        refine lv_aload_n hx hb qd_X_steps_70 rfl (lv_at hl 4 rfl) ?_
        refine va_get (D := (dC, dI)) (ci := 0) (v := .ref b) (C := RX0) (T := TX0) (N := 4) hx hb hW inX0 hown hK hP 0 rfl rfl 2 (by decide) (hW _ qm_21) (fun _ h9 => h9) rfl qd_X_steps_71 ?_
        refine lv_iload hx hb qd_X_steps_74 (lv_at hl 1 rfl) ?_
        refine lv_aload_n hx hb qd_X_steps_76 rfl (lv_at hl 4 rfl) ?_
        refine va_get (D := (dC, dI)) (ci := 0) (v := .ref a) (C := RX0) (T := TX0) (N := 4) hx hb hW inX0 hown hK hP 0 rfl rfl 0 (by decide) (hW _ qm_19) (fun _ h9 => h9) rfl qd_X_steps_77 ?_
        refine lv_iload_n hx hb qd_X_steps_80 rfl (lv_at hl 3 rfl) ?_
        refine lv_iload hx hb qd_X_steps_81 (lv_at hl 2 rfl) ?_
        refine vp_callSl (W.runS (As := [.ref a, .int (nI i), .int (nI (i + y))]) (rest := [.int (nI 0), .ref b]) ⟨hx, hb, hml, hown, hW⟩ (ct_X_headOf l dC dI a cA f 10 i y (by omega) (by omega)) (cwS 3 hW (tq_gS qm_207 qm_208 qm_1 qm_209) rfl rfl rfl (by decide +kernel) ⟨Nat.le_of_ble_eq_true rfl, Nat.le_of_ble_eq_true rfl⟩) ⟨tq_b1, fun U hU hW9 => ⟨rfl, by rw [hU]; exact hP.sub [1] rfl, va_K.moved hW9.alike (hK.sub [0] rfl)⟩⟩ rfl rfl hl.1 rfl (lv_room (Nat.le_of_ble_eq_true rfl)) qd_X_steps_83 ⟨Nat.le_of_ble_eq_true rfl, Nat.le_of_ble_eq_true rfl⟩) (fun r9 e9 => ?_)
        subst e9
        refine tq_last hx hb hK hP hD hS 2 0 rfl rfl (j := 0) (x := (tq_hd f i y)) (by omega) (by decide) qd_X_steps_86 (fun H locs hP hD hS => ?_)
        have hP : va_P (dC, dI) tq_cl [(x, .inr (0, [.ref a, .int (nI n), .ref b, .int (nI (tq_sl true mm j))])), (a, .inl (cA, (600, .inr (.inl f)))), (b, .inl (cA, (40, .inr (.inl (vp_updL g1 0 (tq_hd f i y))))))] H := hP
        have hD : va_D A [(x, .inr (0, [.ref a, .int (nI n), .ref b, .int (nI (tq_sl true mm j))])), (a, .inl (cA, (600, .inr (.inl f)))), (b, .inl (cA, (40, .inr (.inl (vp_updL g1 0 (tq_hd f i y))))))] := hD
        refine lv_goto (tgt := 141) hx hb qd_X_steps_87 (by decide) ?_
        refine lv_iinc (v := (tq_pd 0)) (lv' := [(5, .int (tq_pd 0)), (6, .int (nI (i + tq_pb y))), (4, .int (nI (i + y))), (3, .int (nI i)), (0, .ref x), (1, .int (nI mm))]) hx hb qd_X_steps_141 hl (k := 1) rfl (tq_pd_i 0) (by decide) rfl (fun ls hl => ?_)
        refine lv_goto (tgt := 48) hx hb qd_X_steps_144 (by decide) ?_
        refine lv_iload hx hb qd_X_steps_48 (lv_at hl 0 rfl) ?_
        refine lv_if_lt (tgt := 147) hx hb qd_X_steps_50 (by decide) (fun c9 => ?_) (fun c9 => absurd tq_pd_0 c9)
        refine lv_aload_n hx hb qd_X_steps_147 rfl (lv_at hl 4 rfl) ?_
        refine va_get (D := (dC, dI)) (ci := 0) (v := .int (nI (tq_sl true mm j))) (C := RX0) (T := TX0) (N := 4) hx hb hW inX0 hown hK hP 0 rfl rfl 3 (by decide) (hW _ qm_22) (fun _ h9 => h9) rfl qd_X_steps_148 ?_
        exact W.iret hx hb hr (fun t ht hW9 => ⟨⟨_, _, rfl, ⟨rfl, tq_sh2 hL (tq_sh1 hg)⟩, by rw [ht]; exact hP, va_K.moved hW9.alike hK, hD⟩, hS.F ht⟩) hS.2.2 qd_X_steps_151
  refine lv_iload_n hx hb qd_X_steps_0 rfl (lv_at hl 1 rfl) ?_
  refine lv_iconst (v := nI 1) hx hb qd_X_steps_1 (by decide +kernel) ?_
  refine tq_icmp_lt (x := mm) (y := 1) (tgt := 18) hx hb qd_X_steps_2 (by decide) (by omega) (by omega) (fun c9 => by omega) (fun c9 => ?_)
  refine lv_iload_n hx hb qd_X_steps_5 rfl (lv_at hl 1 rfl) ?_
  refine lv_iload_n hx hb qd_X_steps_6 rfl (lv_at hl 2 rfl) ?_
  refine tq_icmp_gt (x := mm) (y := j) (tgt := 18) hx hb qd_X_steps_7 (by decide) (by omega) (by omega) (fun c9 => by omega) (fun c9 => ?_)
  refine lv_iload_n hx hb qd_X_steps_10 rfl (lv_at hl 2 rfl) ?_
  refine lv_aload_n hx hb qd_X_steps_11 rfl (lv_at hl 0 rfl) ?_
  refine va_get (D := (dC, dI)) (ci := 0) (v := .int (nI n)) (C := RX0) (T := TX0) (N := 4) hx hb hW inX0 hown hK hP 0 rfl rfl 1 (by decide) (hW _ qm_20) (fun _ h9 => h9) rfl qd_X_steps_12 ?_
  refine tq_icmp_le (x := j) (y := n) (tgt := 26) hx hb qd_X_steps_15 (by decide) (by omega) (by omega) (fun c9 => ?_) (fun c9 => by omega)
  have hsl := tq_sl_le 10 true mm j (by omega)
  refine lv_aload_n hx hb qd_X_steps_26 rfl (lv_at hl 0 rfl) ?_
  refine lv_iload_n hx hb qd_X_steps_27 rfl (lv_at hl 1 rfl) ?_
  refine lv_iload_n hx hb qd_X_steps_28 rfl (lv_at hl 2 rfl) ?_
  refine vp_callSi (W.runS (As := [.int (nI mm), .int (nI j)]) (rest := [.ref x]) ⟨hx, hb, hml, hown, hW⟩ (ct_X_stepsLength l mm j (by omega) (by omega) (by omega)) (cwS 2 hW (tq_gS qm_63 qm_64 qm_1 qm_65) rfl rfl rfl (by decide +kernel) ⟨Nat.le_of_ble_eq_true rfl, Nat.le_of_ble_eq_true rfl⟩) ⟨tq_b0, fun U hU hW9 => ⟨rfl, trivial⟩⟩ rfl rfl hl.1 rfl (lv_room (Nat.le_of_ble_eq_true rfl)) qd_X_steps_29 ⟨Nat.le_of_ble_eq_true rfl, Nat.le_of_ble_eq_true rfl⟩) (fun r9 e9 => ?_)
  subst e9
  refine va_put (D := (dC, dI)) (ci := 0) (v := .int (nI (tq_sl true mm j))) (ty := .int) (C := RX0) (T := TX0) (N := 4) hx hb hW inX0 tyX0 tyX0_ok nmX0 hown hK hP hD hS 0 rfl rfl 3 (by decide) (hW _ qm_22) (fun _ h9 => h9) rfl (by decide +kernel) rfl rfl (Nat.le_of_ble_eq_true rfl) qd_X_steps_32 (fun H locs hP hD hS => ?_)
  have hP : va_P (dC, dI) tq_cl [(x, .inr (0, [.ref a, .int (nI n), .ref b, .int (nI (tq_sl true mm j))])), (a, .inl (cA, (600, .inr (.inl f)))), (b, .inl (cA, (40, .inr (.inl g))))] H := hP
  have hD : va_D A [(x, .inr (0, [.ref a, .int (nI n), .ref b, .int (nI (tq_sl true mm j))])), (a, .inl (cA, (600, .inr (.inl f)))), (b, .inl (cA, (40, .inr (.inl g))))] := hD
  refine lv_iconst (v := nI 0) hx hb qd_X_steps_35 (by decide +kernel) ?_
  refine lv_istore_n (lv' := [(3, .int (nI 0)), (0, .ref x), (1, .int (nI mm)), (2, .int (nI j))]) hx hb qd_X_steps_36 rfl hl (by decide) rfl (fun ls hl => ?_)
  refine lv_iload_n hx hb qd_X_steps_37 rfl (lv_at hl 3 rfl) ?_
  refine tq_ti (y := nI (0 + j)) (by rw [Nat.zero_add]) ?_
  refine lv_istore (lv' := [(4, .int (nI (0 + j))), (3, .int (nI 0)), (0, .ref x), (1, .int (nI mm)), (2, .int (nI j))]) hx hb qd_X_steps_38 hl (by decide) rfl (fun ls hl => ?_)
  refine lv_aload_n hx hb qd_X_steps_40 rfl (lv_at hl 2 rfl) ?_
  refine va_get (D := (dC, dI)) (ci := 0) (v := .int (nI (tq_sl true mm j))) (C := RX0) (T := TX0) (N := 4) hx hb hW inX0 hown hK hP 0 rfl rfl 3 (by decide) (hW _ qm_22) (fun _ h9 => h9) rfl qd_X_steps_41 ?_
  refine lv_iconst (v := nI 1) hx hb qd_X_steps_44 (by decide +kernel) ?_
  refine lv_isub hx hb qd_X_steps_45 ?_
  refine tq_ti (y := tq_pd (tq_sl true mm j)) (tq_pd_1 _) ?_
  refine lv_istore (lv' := [(5, .int (tq_pd (tq_sl true mm j))), (4, .int (nI (0 + j))), (3, .int (nI 0)), (0, .ref x), (1, .int (nI mm)), (2, .int (nI j))]) hx hb qd_X_steps_46 hl (by decide) rfl (fun ls hl => ?_)
  exact loop (tq_sl true mm j) 0 mm j true [] g (Nat.zero_add mm) h0 h1 (by omega) rfl (List.append_nil _).symm (fun q h9 => absurd h9 (Nat.not_lt_zero q)) _ _ hP hD hS ls (lv_sub hl [0, 1, 2, 3, 4] rfl)
