-- ===== end of PART A; then your names; then what follows =====
/-! THE CLAIM OUT OF ONE WALK OF THE LAW'S BODY. Your part is whole_start (and what it stands on); all else here is the same for every law, but numbers. -/
def R_law : String := "LogTreeLaw"
def lw_P (b : Addr) (xs : List Int32) (args : Array Value) (s : State) : Prop := args = #[.ref b] ∧ s.IntsAt b xs ∧ xs.length ≤ 3584 ∧ (Jvm.Cond.and given_1 narrow_1).before args s = true
def lw_Q (_ : Array Value) (s : State) (o : Outcome) (t : State) : Prop := o = .returned (some (.int 1)) ∧ Framed s o t [] 601024 7293034
def lw_Z (below : List Frame) (a : Array Value) (s : State) : State → Prop := fun t => ∃ o, t.status = .running ∧ Ended t below o ∧ lw_Q a s o t
/-- the law's own end, with 1 on the stack, nothing written that was there before, its room as the claim has it -/
theorem lw_ret {p : Program} {l : Launch} {e : Env} {s : State} {m : MethodId} {below : List Frame} {meth : Method} {c : Code} {b : Nat} (hx : p.tables.exec = Jvm.exec) (hb : c.code = code) (hr : meth.sig.returnType = ret) (hlocks : meth.locks = false) {pc : Nat} {H : Heap} {ls : Array Slot} (hdg : decode code pc = .ok (.ireturn, 1)) : W p l e room_1 s m #[Value.ref b] below meth c H [] 601024 7293034 (lw_Z below #[Value.ref b] s) (F0 m pc ls [.int 1]) := by
  intro T hT X
  obtain ⟨fs, hret, hrun, hended, hW, hframe⟩ := X.leave (v := some (.int 1)) (hlocks := hlocks) (fun h => by rw [hr] at h; cases h)
  have hmeth' : T.vm.method? m = some meth := X.method'
  refine ⟨T.setFrames fs, ?_, .returned (some (.int 1)), hrun, hended, rfl, ⟨_, rfl⟩, hW, hframe⟩
  jvm_step X.here [X.here.top, hx, hb, hdg, hmeth', hr, ret, narrow_b1]
  (try refine ⟨rfl, ?_⟩); (try refine ⟨rfl, ?_⟩)
  first | (intro acts; rw [hret _ acts rfl rfl rfl]) | rw [hret _ _ rfl rfl rfl]
  exact Steps.refl _
/-- what holds at the law's entry: the machine, the code, the tables' words (any of lw_tbl by 'hts w (by decide +kernel)'), the script of L ints xs at the cell b, what the Statement gives of the start (any of its parts by flat_of_before) -/
def lw_At (p : Program) (s : State) (m : MethodId) (meth : Method) (c : Code) (b L : Nat) (xs : Nat → Int32) : Prop :=
  p.tables.exec = Jvm.exec ∧ c.code = code ∧ meth.sig.returnType = ret ∧ c.maxLocals = 8 ∧ s.vm.findClass R_law = some m.cls ∧ (∀ w ∈ lw_tbl, w.before #[Value.ref b] s = true) ∧ va_X b L xs s s.heap ∧ b < s.heap.size ∧ meth.locks = false ∧ (Jvm.Cond.and given_1 narrow_1).before #[Value.ref b] s = true
def lq_F (p : Program) (l : Launch) (e : Env) (s : State) (m : MethodId) (below : List Frame) (meth : Method) (c : Code) (sb L : Nat) (xs : Nat → Int32) (dC : Nat → ClassId) (dI : Nat → Nat → Nat) (x a b o ca cb ao : Nat) (cA : ClassId) (A : Nat → Prop) : Prop := p.tables.exec = Jvm.exec ∧ c.code = qc_L_law ∧ c.maxLocals = 8 ∧ s.vm.findClass RL = some m.cls ∧ (∀ w ∈ tq_W, w.before #[Value.ref sb] s = true) ∧ l.stackTraces = false ∧ (∀ q : Nat, s.heap.size ≤ q → A q) ∧ va_X sb L xs s s.heap ∧ sb < s.heap.size ∧ ¬ A sb ∧ tq_Z A s ∧ va_K (dC, dI) tq_cl [(cA, .long)] s ∧ L ≤ 3584
def lq_N (p : Program) (l : Launch) (e : Env) (s : State) (m : MethodId) (below : List Frame) (meth : Method) (c : Code) (sb L : Nat) (xs : Nat → Int32) (dC : Nat → ClassId) (dI : Nat → Nat → Nat) (x a b o ca cb ao : Nat) (cA : ClassId) (A : Nat → Prop) (ix cells slots pc : Nat) : Prop := ∀ (n k : Nat) (f g : Nat → Int64) (w1 w4 : Int32) (z1 z2 : Int64) (f2 g2 ow : Nat → Int64) (H : Heap) (locs : List Loc) (ls : Array Slot), tq_R n k f g f2 g2 → va_P (dC, dI) tq_cl [(x, .inr (0, [.ref a, .int (nI n), .ref b, .int (nI k)])), (a, .inl (cA, (600, .inr (.inl f)))), (b, .inl (cA, (40, .inr (.inl g)))), (o, .inr (1, [.int w1, .int (nI n), .int (nI k), .int w4, .ref ca, .ref cb, .long z1, .long z2])), (ca, .inl (cA, (600, .inr (.inl f2)))), (cb, .inl (cA, (40, .inr (.inl g2)))), (ao, .inl (cA, (1, .inr (.inl ow))))] H → va_D A [(x, .inr (0, [.ref a, .int (nI n), .ref b, .int (nI k)])), (a, .inl (cA, (600, .inr (.inl f)))), (b, .inl (cA, (40, .inr (.inl g)))), (o, .inr (1, [.int w1, .int (nI n), .int (nI k), .int w4, .ref ca, .ref cb, .long z1, .long z2])), (ca, .inl (cA, (600, .inr (.inl f2)))), (cb, .inl (cA, (40, .inr (.inl g2)))), (ao, .inl (cA, (1, .inr (.inl ow))))] → va_S A s.heap H locs → lv_has ls 8 [(4, .int (nI ix)), (0, .ref sb), (1, .ref x), (2, .ref o), (3, .ref ao)] → W p l e room_1 s m #[Value.ref sb] below meth c H locs cells slots (lw_Z below #[Value.ref sb] s) (F0 m pc ls [])
set_option maxHeartbeats 4000000 in
set_option maxRecDepth 100000 in
/-- add -/
theorem lq_c0 (p : Program) (l : Launch) (e : Env) (s : State) (m : MethodId) (below : List Frame) (meth : Method) (c : Code) (sb L : Nat) (xs : Nat → Int32) (dC : Nat → ClassId) (dI : Nat → Nat → Nat) (x a b o ca cb ao : Nat) (cA : ClassId) (A : Nat → Prop) (C9 : lq_F p l e s m below meth c sb L xs dC dI x a b o ca cb ao cA A) (ix cells slots : Nat) (hi : ix + 7 ≤ L) (hc1 : cells + 1 ≤ 601024) (hs1 : slots + 6 ≤ 7293034) (cont : lq_N p l e s m below meth c sb L xs dC dI x a b o ca cb ao cA A ix (cells + 1) (slots + 6) 1247) : lq_N p l e s m below meth c sb L xs dC dI x a b o ca cb ao cA A ix cells slots 112 := by
  intro n k f g w1 w4 z1 z2 f2 g2 ow H locs ls hR hP hD hS hl
  obtain ⟨hx, hb, hml, hown, hW, hst, hA, hX, hbl, hbA, hZ, hK, hL⟩ := id C9
  have hn6 := hR.1
  have hk4 := hR.2.1
  obtain ⟨p1, e1⟩ : ∃ z9 : Int32, xs (ix + 1) = z9 := ⟨_, rfl⟩
  obtain ⟨p2, e2⟩ : ∃ z9 : Int32, xs (ix + 2) = z9 := ⟨_, rfl⟩
  by_cases hn : n < 600
  · refine lv_aload_n hx hb qd_L_law_112 rfl (lv_at hl 2 rfl) ?_
    refine lv_aload_n hx hb qd_L_law_113 rfl (lv_at hl 1 rfl) ?_
    refine lv_iload hx hb qd_L_law_114 (lv_at hl 0 rfl) ?_
    refine lv_iconst (v := nI 1) hx hb qd_L_law_116 (by decide +kernel) ?_
    refine lv_iadd hx hb qd_L_law_117 ?_
    refine tq_ti (y := nI (ix + 1)) (nI_add _ _) ?_
    refine tq_sld hx hb hX hbl hbA hS (j := ix + 1) (v := p1) (by omega) (by omega) e1 qd_L_law_118 ?_
    refine lv_i2l (v := p1.toInt64) hx hb qd_L_law_119 rfl ?_
    refine lv_bipush (v := nI 32) hx hb qd_L_law_120 (by decide +kernel) ?_
    refine lv_lshl (v := p1.toInt64 <<< ((nI 32).toInt64 &&& 63)) hx hb qd_L_law_122 rfl ?_
    refine lv_aload_n hx hb qd_L_law_123 rfl (lv_at hl 1 rfl) ?_
    refine lv_iload hx hb qd_L_law_124 (lv_at hl 0 rfl) ?_
    refine lv_iconst (v := nI 2) hx hb qd_L_law_126 (by decide +kernel) ?_
    refine lv_iadd hx hb qd_L_law_127 ?_
    refine tq_ti (y := nI (ix + 2)) (nI_add _ _) ?_
    refine tq_sld hx hb hX hbl hbA hS (j := ix + 2) (v := p2) (by omega) (by omega) e2 qd_L_law_128 ?_
    refine lv_i2l (v := p2.toInt64) hx hb qd_L_law_129 rfl ?_
    refine lv_ldc2 (v := (4294967295)) hx hb hown (hW _ qm_407) qd_L_law_130 ?_
    refine lv_land hx hb qd_L_law_133 ?_
    refine lv_lor hx hb qd_L_law_134 ?_
    refine tq_tl (y := tq_lg p1 p2) (rfl) ?_
    refine lv_aload_n hx hb qd_L_law_135 rfl (lv_at hl 4 rfl) ?_
    have hPc := hP.sub (ws' := [(x, .inr (0, [.ref a, .int (nI n), .ref b, .int (nI k)])), (a, .inl (cA, (600, .inr (.inl f)))), (b, .inl (cA, (40, .inr (.inl g)))), (ao, .inl (cA, (1, .inr (.inl ow))))]) [0, 1, 2, 6] rfl
    have hDc := hD.sub (ws' := [(x, .inr (0, [.ref a, .int (nI n), .ref b, .int (nI k)])), (a, .inl (cA, (600, .inr (.inl f)))), (b, .inl (cA, (40, .inr (.inl g)))), (ao, .inl (cA, (1, .inr (.inl ow))))]) [0, 1, 2, 6] (by decide) rfl
    have hKc := hK.sub (tys' := [(cA, .long)]) [0] rfl
    have hFc := va_free (wc := [(x, .inr (0, [.ref a, .int (nI n), .ref b, .int (nI k)])), (a, .inl (cA, (600, .inr (.inl f)))), (b, .inl (cA, (40, .inr (.inl g)))), (ao, .inl (cA, (1, .inr (.inl ow))))]) hD hS hA [0, 1, 2, 6] rfl
    refine va_calli (vx_runSW (As := [.ref x, .long (tq_lg p1 p2), .ref ao]) (rest := []) ⟨hx, hb, hml, hown, hW⟩ (ct_L_add l dC dI x a b cA n k f g ao ow H.size (tq_lg p1 p2) hn) (vx_cwSW 3 hW (tq_gSa qm_82 qm_83 qm_0 qm_84) rfl rfl rfl (by decide +kernel) ⟨Nat.le_of_ble_eq_true rfl, Nat.le_of_ble_eq_true rfl⟩) ⟨tq_b2, fun U hU hW9 => ⟨rfl, by rw [hU], by rw [hU]; exact hPc, va_K.moved hW9.alike hKc, hDc.weaken (fun _ _ _ _ => trivial)⟩⟩ rfl rfl hl.1 rfl (lv_room (Nat.le_of_ble_eq_true rfl)) qd_L_law_136 ⟨by show _ ≤ 601024; omega, by show _ ≤ 7293034; omega⟩) hS (fun q _ h => hFc q h) hFc (fun r9 u t9 H1 locs ht9 hvm hw hB hz1 hk1 hS => ?_)
    obtain ⟨hP1, hK1, hD1⟩ := hB
    rw [ht9] at hP1
    obtain ⟨hP, hD⟩ := va_join (wr := [(o, .inr (1, [.int w1, .int (nI n), .int (nI k), .int w4, .ref ca, .ref cb, .long z1, .long z2])), (ca, .inl (cA, (600, .inr (.inl f2)))), (cb, .inl (cA, (40, .inr (.inl g2))))]) (w1 := [(x, .inr (0, [.ref a, .int (nI (n + 1)), .ref b, .int (nI k)])), (a, .inl (cA, (600, .inr (.inl ((vp_updL f n (tq_leaf (tq_lg p1 p2)))))))), (b, .inl (cA, (40, .inr (.inl g)))), (ao, .inl (cA, (1, .inr (.inl (vp_updL ow 0 ((nI (n + 1)).toInt64))))))]) hP hD [0, 1, 2, 6] [3, 4, 5] rfl rfl (by decide) (by decide) hk1 hFc hP1 hD1
    generalize H1 = H at hP hS ⊢
    have hP : va_P (dC, dI) tq_cl [(o, .inr (1, [.int w1, .int (nI n), .int (nI k), .int w4, .ref ca, .ref cb, .long z1, .long z2])), (ca, .inl (cA, (600, .inr (.inl f2)))), (cb, .inl (cA, (40, .inr (.inl g2)))), (x, .inr (0, [.ref a, .int (nI (n + 1)), .ref b, .int (nI k)])), (a, .inl (cA, (600, .inr (.inl ((vp_updL f n (tq_leaf (tq_lg p1 p2)))))))), (b, .inl (cA, (40, .inr (.inl g)))), (ao, .inl (cA, (1, .inr (.inl (vp_updL ow 0 ((nI (n + 1)).toInt64))))))] H := hP
    have hD : va_D A [(o, .inr (1, [.int w1, .int (nI n), .int (nI k), .int w4, .ref ca, .ref cb, .long z1, .long z2])), (ca, .inl (cA, (600, .inr (.inl f2)))), (cb, .inl (cA, (40, .inr (.inl g2)))), (x, .inr (0, [.ref a, .int (nI (n + 1)), .ref b, .int (nI k)])), (a, .inl (cA, (600, .inr (.inl ((vp_updL f n (tq_leaf (tq_lg p1 p2)))))))), (b, .inl (cA, (40, .inr (.inl g)))), (ao, .inl (cA, (1, .inr (.inl (vp_updL ow 0 ((nI (n + 1)).toInt64))))))] := hD
    have hw : r9 = nI 0 := hw
    subst hw
    refine lv_istore (lv' := [(5, .int (nI 0)), (4, .int (nI ix)), (0, .ref sb), (1, .ref x), (2, .ref o), (3, .ref ao)]) hx hb qd_L_law_139 hl (by decide) rfl (fun ls hl => ?_)
    refine lv_aload_n hx hb qd_L_law_141 rfl (lv_at hl 4 rfl) ?_
    refine lv_aload_n hx hb qd_L_law_142 rfl (lv_at hl 2 rfl) ?_
    refine lv_iload hx hb qd_L_law_143 (lv_at hl 1 rfl) ?_
    refine lv_iconst (v := nI 1) hx hb qd_L_law_145 (by decide +kernel) ?_
    refine lv_iadd hx hb qd_L_law_146 ?_
    refine tq_ti (y := nI (ix + 1)) (nI_add _ _) ?_
    refine tq_sld hx hb hX hbl hbA hS (j := ix + 1) (v := p1) (by omega) (by omega) e1 qd_L_law_147 ?_
    refine lv_i2l (v := p1.toInt64) hx hb qd_L_law_148 rfl ?_
    refine lv_bipush (v := nI 32) hx hb qd_L_law_149 (by decide +kernel) ?_
    refine lv_lshl (v := p1.toInt64 <<< ((nI 32).toInt64 &&& 63)) hx hb qd_L_law_151 rfl ?_
    refine lv_aload_n hx hb qd_L_law_152 rfl (lv_at hl 2 rfl) ?_
    refine lv_iload hx hb qd_L_law_153 (lv_at hl 1 rfl) ?_
    refine lv_iconst (v := nI 2) hx hb qd_L_law_155 (by decide +kernel) ?_
    refine lv_iadd hx hb qd_L_law_156 ?_
    refine tq_ti (y := nI (ix + 2)) (nI_add _ _) ?_
    refine tq_sld hx hb hX hbl hbA hS (j := ix + 2) (v := p2) (by omega) (by omega) e2 qd_L_law_157 ?_
    refine lv_i2l (v := p2.toInt64) hx hb qd_L_law_158 rfl ?_
    refine lv_ldc2 (v := (4294967295)) hx hb hown (hW _ qm_407) qd_L_law_159 ?_
    refine lv_land hx hb qd_L_law_162 ?_
    refine lv_lor hx hb qd_L_law_163 ?_
    refine tq_tl (y := tq_lg p1 p2) (rfl) ?_
    have hPc := hP.sub (ws' := [(o, .inr (1, [.int w1, .int (nI n), .int (nI k), .int w4, .ref ca, .ref cb, .long z1, .long z2])), (ca, .inl (cA, (600, .inr (.inl f2)))), (cb, .inl (cA, (40, .inr (.inl g2))))]) [0, 1, 2] rfl
    have hDc := hD.sub (ws' := [(o, .inr (1, [.int w1, .int (nI n), .int (nI k), .int w4, .ref ca, .ref cb, .long z1, .long z2])), (ca, .inl (cA, (600, .inr (.inl f2)))), (cb, .inl (cA, (40, .inr (.inl g2))))]) [0, 1, 2] (by decide) rfl
    have hKc := hK.sub (tys' := [(cA, .long)]) [0] rfl
    have hFc := va_free (wc := [(o, .inr (1, [.int w1, .int (nI n), .int (nI k), .int w4, .ref ca, .ref cb, .long z1, .long z2])), (ca, .inl (cA, (600, .inr (.inl f2)))), (cb, .inl (cA, (40, .inr (.inl g2))))]) hD hS hA [0, 1, 2] rfl
    refine va_calli (va_runV (As := [.long (tq_lg p1 p2)]) (rest := []) ⟨hx, hb, hml, hown, hW⟩ (ct_M_add l dC dI o ca cb cA w1 n k w4 z1 z2 f2 g2 H.size (tq_lg p1 p2) hn) (cwV 1 hW (tq_gV qm_310 qm_311 qm_312 qm_2 qm_313) rfl rfl rfl (by decide +kernel) ⟨Nat.le_of_ble_eq_true rfl, Nat.le_of_ble_eq_true rfl⟩) ⟨tq_b2, va_recv hKc hPc (ci := 1) (q0 := 0) rfl rfl, fun U hU hW9 => ⟨rfl, by rw [hU], by rw [hU]; exact hPc, va_K.moved hW9.alike hKc, hDc.weaken (fun _ _ _ _ => trivial)⟩⟩ rfl rfl hl.1 rfl (lv_room (Nat.le_of_ble_eq_true rfl)) qd_L_law_164 ⟨by show _ ≤ 601024; omega, by show _ ≤ 7293034; omega⟩) hS (fun q _ h => hFc q h) hFc (fun r9 u9 t9 H1 locs ht9 hvm hw hB hz1 hk1 hS => ?_)
    obtain ⟨hP1, hK1, hD1⟩ := hB
    rw [ht9] at hP1
    obtain ⟨hP, hD⟩ := va_join (wr := [(x, .inr (0, [.ref a, .int (nI (n + 1)), .ref b, .int (nI k)])), (a, .inl (cA, (600, .inr (.inl ((vp_updL f n (tq_leaf (tq_lg p1 p2)))))))), (b, .inl (cA, (40, .inr (.inl g)))), (ao, .inl (cA, (1, .inr (.inl (vp_updL ow 0 ((nI (n + 1)).toInt64))))))]) (w1 := [(o, .inr (1, [.int (nI 0), .int (nI (n + 1)), .int (nI k), .int w4, .ref ca, .ref cb, .long z1, .long z2])), (ca, .inl (cA, (600, .inr (.inl ((vp_updL f2 n (tq_lg p1 p2))))))), (cb, .inl (cA, (40, .inr (.inl g2))))]) hP hD [0, 1, 2] [3, 4, 5, 6] rfl rfl (by decide) (by decide) hk1 hFc hP1 hD1
    generalize H1 = H at hP hS ⊢
    have hP : va_P (dC, dI) tq_cl [(x, .inr (0, [.ref a, .int (nI (n + 1)), .ref b, .int (nI k)])), (a, .inl (cA, (600, .inr (.inl ((vp_updL f n (tq_leaf (tq_lg p1 p2)))))))), (b, .inl (cA, (40, .inr (.inl g)))), (ao, .inl (cA, (1, .inr (.inl (vp_updL ow 0 ((nI (n + 1)).toInt64)))))), (o, .inr (1, [.int (nI 0), .int (nI (n + 1)), .int (nI k), .int w4, .ref ca, .ref cb, .long z1, .long z2])), (ca, .inl (cA, (600, .inr (.inl ((vp_updL f2 n (tq_lg p1 p2))))))), (cb, .inl (cA, (40, .inr (.inl g2))))] H := hP
    have hD : va_D A [(x, .inr (0, [.ref a, .int (nI (n + 1)), .ref b, .int (nI k)])), (a, .inl (cA, (600, .inr (.inl ((vp_updL f n (tq_leaf (tq_lg p1 p2)))))))), (b, .inl (cA, (40, .inr (.inl g)))), (ao, .inl (cA, (1, .inr (.inl (vp_updL ow 0 ((nI (n + 1)).toInt64)))))), (o, .inr (1, [.int (nI 0), .int (nI (n + 1)), .int (nI k), .int w4, .ref ca, .ref cb, .long z1, .long z2])), (ca, .inl (cA, (600, .inr (.inl ((vp_updL f2 n (tq_lg p1 p2))))))), (cb, .inl (cA, (40, .inr (.inl g2))))] := hD
    have hw : r9 = nI (n + 1) := hw
    subst hw
    refine lv_istore (lv' := [(6, .int (nI (n + 1))), (5, .int (nI 0)), (4, .int (nI ix)), (0, .ref sb), (1, .ref x), (2, .ref o), (3, .ref ao)]) hx hb qd_L_law_167 hl (by decide) rfl (fun ls hl => ?_)
    refine lv_aload_n hx hb qd_L_law_169 rfl (lv_at hl 5 rfl) ?_
    refine vp_callSi (W.runV (As := []) (rest := []) ⟨hx, hb, hml, hown, hW⟩ (ct_M_thrown l dC dI o ca cb cA (nI 0) ((n + 1)) k w4 z1 z2 ((vp_updL f2 n (tq_lg p1 p2))) g2) (cwV 0 hW (tq_gV qm_306 qm_307 qm_308 qm_2 qm_309) rfl rfl rfl (by decide +kernel) ⟨Nat.le_of_ble_eq_true rfl, Nat.le_of_ble_eq_true rfl⟩) ⟨tq_b1, va_recv hK hP (ci := 1) (q0 := 4) rfl rfl, fun U hU hW9 => ⟨rfl, by rw [hU]; exact hP.sub [4, 5, 6] rfl, va_K.moved hW9.alike (hK.sub [0] rfl)⟩⟩ rfl rfl hl.1 rfl (lv_room (Nat.le_of_ble_eq_true rfl)) qd_L_law_170 ⟨by show _ ≤ 601024; omega, by show _ ≤ 7293034; omega⟩) (fun r9 e9 => ?_)
    subst e9
    refine lv_iload hx hb qd_L_law_173 (lv_at hl 1 rfl) ?_
    refine tq_icmp_eq (x := 0) (y := 0) (tgt := 180) hx hb qd_L_law_175 (by decide) (by omega) (by omega) (fun c8 => ?_) (fun c9 => by omega)
    refine lv_iload hx hb qd_L_law_180 (lv_at hl 1 rfl) ?_
    refine tq_if_ne (x := 0) (tgt := 197) hx hb qd_L_law_182 (by decide) (by omega) (fun c9 => by omega) (fun c7 => ?_)
    refine lv_aload_n hx hb qd_L_law_185 rfl (lv_at hl 6 rfl) ?_
    refine lv_iconst (v := nI 0) hx hb qd_L_law_186 (by decide +kernel) ?_
    refine tq_lald hx hb hK hP 3 0 rfl rfl (j := 0) (by omega) (by decide) qd_L_law_187 ?_
    refine tq_tl (y := (nI (n + 1)).toInt64) (pk_uLs) ?_
    refine lv_iload hx hb qd_L_law_188 (lv_at hl 0 rfl) ?_
    refine lv_i2l (v := (nI (n + 1)).toInt64) hx hb qd_L_law_190 rfl ?_
    refine tq_lc_eq (tgt := 197) hx hb qd_L_law_191 qd_L_law_192 (by decide) (fun c6 => ?_) (fun c9 => absurd rfl c9)
    refine lv_goto (tgt := 1247) hx hb qd_L_law_197 (by decide) ?_
    refine W.widen (k := cells + 1) (n := slots + 6) (by omega) (by omega) ?_
    exact cont ((n + 1)) k ((vp_updL f n (tq_leaf (tq_lg p1 p2)))) g (nI 0) w4 z1 z2 ((vp_updL f2 n (tq_lg p1 p2))) g2 (vp_updL ow 0 ((nI (n + 1)).toInt64)) _ _ _ (hR.add hn (tq_lg p1 p2)) (hP.sub [0, 1, 2, 4, 5, 6, 3] rfl) (hD.sub [0, 1, 2, 4, 5, 6, 3] (by decide) rfl) hS (lv_sub hl [2, 3, 4, 5, 6] rfl)
  · have hn9 : n = 600 := by omega
    refine lv_aload_n hx hb qd_L_law_112 rfl (lv_at hl 2 rfl) ?_
    refine lv_aload_n hx hb qd_L_law_113 rfl (lv_at hl 1 rfl) ?_
    refine lv_iload hx hb qd_L_law_114 (lv_at hl 0 rfl) ?_
    refine lv_iconst (v := nI 1) hx hb qd_L_law_116 (by decide +kernel) ?_
    refine lv_iadd hx hb qd_L_law_117 ?_
    refine tq_ti (y := nI (ix + 1)) (nI_add _ _) ?_
    refine tq_sld hx hb hX hbl hbA hS (j := ix + 1) (v := p1) (by omega) (by omega) e1 qd_L_law_118 ?_
    refine lv_i2l (v := p1.toInt64) hx hb qd_L_law_119 rfl ?_
    refine lv_bipush (v := nI 32) hx hb qd_L_law_120 (by decide +kernel) ?_
    refine lv_lshl (v := p1.toInt64 <<< ((nI 32).toInt64 &&& 63)) hx hb qd_L_law_122 rfl ?_
    refine lv_aload_n hx hb qd_L_law_123 rfl (lv_at hl 1 rfl) ?_
    refine lv_iload hx hb qd_L_law_124 (lv_at hl 0 rfl) ?_
    refine lv_iconst (v := nI 2) hx hb qd_L_law_126 (by decide +kernel) ?_
    refine lv_iadd hx hb qd_L_law_127 ?_
    refine tq_ti (y := nI (ix + 2)) (nI_add _ _) ?_
    refine tq_sld hx hb hX hbl hbA hS (j := ix + 2) (v := p2) (by omega) (by omega) e2 qd_L_law_128 ?_
    refine lv_i2l (v := p2.toInt64) hx hb qd_L_law_129 rfl ?_
    refine lv_ldc2 (v := (4294967295)) hx hb hown (hW _ qm_407) qd_L_law_130 ?_
    refine lv_land hx hb qd_L_law_133 ?_
    refine lv_lor hx hb qd_L_law_134 ?_
    refine tq_tl (y := tq_lg p1 p2) (rfl) ?_
    refine lv_aload_n hx hb qd_L_law_135 rfl (lv_at hl 4 rfl) ?_
    have hPc := hP.sub (ws' := [(x, .inr (0, [.ref a, .int (nI n), .ref b, .int (nI k)])), (a, .inl (cA, (600, .inr (.inl f)))), (b, .inl (cA, (40, .inr (.inl g)))), (ao, .inl (cA, (1, .inr (.inl ow))))]) [0, 1, 2, 6] rfl
    have hDc := hD.sub (ws' := [(x, .inr (0, [.ref a, .int (nI n), .ref b, .int (nI k)])), (a, .inl (cA, (600, .inr (.inl f)))), (b, .inl (cA, (40, .inr (.inl g)))), (ao, .inl (cA, (1, .inr (.inl ow))))]) [0, 1, 2, 6] (by decide) rfl
    have hKc := hK.sub (tys' := [(cA, .long)]) [0] rfl
    have hFc := va_free (wc := [(x, .inr (0, [.ref a, .int (nI n), .ref b, .int (nI k)])), (a, .inl (cA, (600, .inr (.inl f)))), (b, .inl (cA, (40, .inr (.inl g)))), (ao, .inl (cA, (1, .inr (.inl ow))))]) hD hS hA [0, 1, 2, 6] rfl
    refine va_calli (vx_runSW (As := [.ref x, .long (tq_lg p1 p2), .ref ao]) (rest := []) ⟨hx, hb, hml, hown, hW⟩ (cx_L_add l dC dI x a b cA n k f g ao ow H.size hst (tq_lg p1 p2) hn9) (vx_cwSW 3 hW (tq_gSa qm_82 qm_83 qm_0 qm_84) rfl rfl rfl (by decide +kernel) ⟨Nat.le_of_ble_eq_true rfl, Nat.le_of_ble_eq_true rfl⟩) ⟨tq_b3, fun U hU hW9 => ⟨rfl, ⟨by rw [hU], by rw [hU]; exact hPc, va_K.moved hW9.alike hKc, hDc.weaken (fun _ _ _ _ => trivial)⟩, hZ.on hS hU hW9 hFc⟩⟩ rfl rfl hl.1 rfl (lv_room (Nat.le_of_ble_eq_true rfl)) qd_L_law_136 ⟨by show _ ≤ 601024; omega, by show _ ≤ 7293034; omega⟩) hS (fun q _ h => hFc q h) hFc (fun r9 u t9 H1 locs ht9 hvm hw hB hz1 hk1 hS => ?_)
    obtain ⟨hP1, hK1, hD1⟩ := hB
    rw [ht9] at hP1
    obtain ⟨hP, hD⟩ := va_join (wr := [(o, .inr (1, [.int w1, .int (nI n), .int (nI k), .int w4, .ref ca, .ref cb, .long z1, .long z2])), (ca, .inl (cA, (600, .inr (.inl f2)))), (cb, .inl (cA, (40, .inr (.inl g2))))]) (w1 := [(x, .inr (0, [.ref a, .int (nI n), .ref b, .int (nI k)])), (a, .inl (cA, (600, .inr (.inl f)))), (b, .inl (cA, (40, .inr (.inl g)))), (ao, .inl (cA, (1, .inr (.inl ow))))]) hP hD [0, 1, 2, 6] [3, 4, 5] rfl rfl (by decide) (by decide) hk1 hFc hP1 hD1
    generalize H1 = H at hP hS ⊢
    have hP : va_P (dC, dI) tq_cl [(o, .inr (1, [.int w1, .int (nI n), .int (nI k), .int w4, .ref ca, .ref cb, .long z1, .long z2])), (ca, .inl (cA, (600, .inr (.inl f2)))), (cb, .inl (cA, (40, .inr (.inl g2)))), (x, .inr (0, [.ref a, .int (nI n), .ref b, .int (nI k)])), (a, .inl (cA, (600, .inr (.inl f)))), (b, .inl (cA, (40, .inr (.inl g)))), (ao, .inl (cA, (1, .inr (.inl ow))))] H := hP
    have hD : va_D A [(o, .inr (1, [.int w1, .int (nI n), .int (nI k), .int w4, .ref ca, .ref cb, .long z1, .long z2])), (ca, .inl (cA, (600, .inr (.inl f2)))), (cb, .inl (cA, (40, .inr (.inl g2)))), (x, .inr (0, [.ref a, .int (nI n), .ref b, .int (nI k)])), (a, .inl (cA, (600, .inr (.inl f)))), (b, .inl (cA, (40, .inr (.inl g)))), (ao, .inl (cA, (1, .inr (.inl ow))))] := hD
    have hw : r9 = nI 1 := hw
    subst hw
    refine lv_istore (lv' := [(5, .int (nI 1)), (4, .int (nI ix)), (0, .ref sb), (1, .ref x), (2, .ref o), (3, .ref ao)]) hx hb qd_L_law_139 hl (by decide) rfl (fun ls hl => ?_)
    refine lv_aload_n hx hb qd_L_law_141 rfl (lv_at hl 4 rfl) ?_
    refine lv_aload_n hx hb qd_L_law_142 rfl (lv_at hl 2 rfl) ?_
    refine lv_iload hx hb qd_L_law_143 (lv_at hl 1 rfl) ?_
    refine lv_iconst (v := nI 1) hx hb qd_L_law_145 (by decide +kernel) ?_
    refine lv_iadd hx hb qd_L_law_146 ?_
    refine tq_ti (y := nI (ix + 1)) (nI_add _ _) ?_
    refine tq_sld hx hb hX hbl hbA hS (j := ix + 1) (v := p1) (by omega) (by omega) e1 qd_L_law_147 ?_
    refine lv_i2l (v := p1.toInt64) hx hb qd_L_law_148 rfl ?_
    refine lv_bipush (v := nI 32) hx hb qd_L_law_149 (by decide +kernel) ?_
    refine lv_lshl (v := p1.toInt64 <<< ((nI 32).toInt64 &&& 63)) hx hb qd_L_law_151 rfl ?_
    refine lv_aload_n hx hb qd_L_law_152 rfl (lv_at hl 2 rfl) ?_
    refine lv_iload hx hb qd_L_law_153 (lv_at hl 1 rfl) ?_
    refine lv_iconst (v := nI 2) hx hb qd_L_law_155 (by decide +kernel) ?_
    refine lv_iadd hx hb qd_L_law_156 ?_
    refine tq_ti (y := nI (ix + 2)) (nI_add _ _) ?_
    refine tq_sld hx hb hX hbl hbA hS (j := ix + 2) (v := p2) (by omega) (by omega) e2 qd_L_law_157 ?_
    refine lv_i2l (v := p2.toInt64) hx hb qd_L_law_158 rfl ?_
    refine lv_ldc2 (v := (4294967295)) hx hb hown (hW _ qm_407) qd_L_law_159 ?_
    refine lv_land hx hb qd_L_law_162 ?_
    refine lv_lor hx hb qd_L_law_163 ?_
    refine tq_tl (y := tq_lg p1 p2) (rfl) ?_
    have hPc := hP.sub (ws' := [(o, .inr (1, [.int w1, .int (nI n), .int (nI k), .int w4, .ref ca, .ref cb, .long z1, .long z2])), (ca, .inl (cA, (600, .inr (.inl f2)))), (cb, .inl (cA, (40, .inr (.inl g2))))]) [0, 1, 2] rfl
    have hDc := hD.sub (ws' := [(o, .inr (1, [.int w1, .int (nI n), .int (nI k), .int w4, .ref ca, .ref cb, .long z1, .long z2])), (ca, .inl (cA, (600, .inr (.inl f2)))), (cb, .inl (cA, (40, .inr (.inl g2))))]) [0, 1, 2] (by decide) rfl
    have hKc := hK.sub (tys' := [(cA, .long)]) [0] rfl
    have hFc := va_free (wc := [(o, .inr (1, [.int w1, .int (nI n), .int (nI k), .int w4, .ref ca, .ref cb, .long z1, .long z2])), (ca, .inl (cA, (600, .inr (.inl f2)))), (cb, .inl (cA, (40, .inr (.inl g2))))]) hD hS hA [0, 1, 2] rfl
    refine va_calli (va_runV (As := [.long (tq_lg p1 p2)]) (rest := []) ⟨hx, hb, hml, hown, hW⟩ (ct_M_add_no l dC dI o ca cb cA w1 n k w4 z1 z2 f2 g2 H.size (tq_lg p1 p2) hn9) (cwV 1 hW (tq_gV qm_310 qm_311 qm_312 qm_2 qm_313) rfl rfl rfl (by decide +kernel) ⟨Nat.le_of_ble_eq_true rfl, Nat.le_of_ble_eq_true rfl⟩) ⟨tq_b2, va_recv hKc hPc (ci := 1) (q0 := 0) rfl rfl, fun U hU hW9 => ⟨rfl, by rw [hU], by rw [hU]; exact hPc, va_K.moved hW9.alike hKc, hDc.weaken (fun _ _ _ _ => trivial)⟩⟩ rfl rfl hl.1 rfl (lv_room (Nat.le_of_ble_eq_true rfl)) qd_L_law_164 ⟨by show _ ≤ 601024; omega, by show _ ≤ 7293034; omega⟩) hS (fun q _ h => hFc q h) hFc (fun r9 u9 t9 H1 locs ht9 hvm hw hB hz1 hk1 hS => ?_)
    obtain ⟨hP1, hK1, hD1⟩ := hB
    rw [ht9] at hP1
    obtain ⟨hP, hD⟩ := va_join (wr := [(x, .inr (0, [.ref a, .int (nI n), .ref b, .int (nI k)])), (a, .inl (cA, (600, .inr (.inl f)))), (b, .inl (cA, (40, .inr (.inl g)))), (ao, .inl (cA, (1, .inr (.inl ow))))]) (w1 := [(o, .inr (1, [.int (nI 1), .int (nI n), .int (nI k), .int w4, .ref ca, .ref cb, .long z1, .long z2])), (ca, .inl (cA, (600, .inr (.inl f2)))), (cb, .inl (cA, (40, .inr (.inl g2))))]) hP hD [0, 1, 2] [3, 4, 5, 6] rfl rfl (by decide) (by decide) hk1 hFc hP1 hD1
    generalize H1 = H at hP hS ⊢
    have hP : va_P (dC, dI) tq_cl [(x, .inr (0, [.ref a, .int (nI n), .ref b, .int (nI k)])), (a, .inl (cA, (600, .inr (.inl f)))), (b, .inl (cA, (40, .inr (.inl g)))), (ao, .inl (cA, (1, .inr (.inl ow)))), (o, .inr (1, [.int (nI 1), .int (nI n), .int (nI k), .int w4, .ref ca, .ref cb, .long z1, .long z2])), (ca, .inl (cA, (600, .inr (.inl f2)))), (cb, .inl (cA, (40, .inr (.inl g2))))] H := hP
    have hD : va_D A [(x, .inr (0, [.ref a, .int (nI n), .ref b, .int (nI k)])), (a, .inl (cA, (600, .inr (.inl f)))), (b, .inl (cA, (40, .inr (.inl g)))), (ao, .inl (cA, (1, .inr (.inl ow)))), (o, .inr (1, [.int (nI 1), .int (nI n), .int (nI k), .int w4, .ref ca, .ref cb, .long z1, .long z2])), (ca, .inl (cA, (600, .inr (.inl f2)))), (cb, .inl (cA, (40, .inr (.inl g2))))] := hD
    have hw : r9 = nI 0 := hw
    subst hw
    refine lv_istore (lv' := [(6, .int (nI 0)), (5, .int (nI 1)), (4, .int (nI ix)), (0, .ref sb), (1, .ref x), (2, .ref o), (3, .ref ao)]) hx hb qd_L_law_167 hl (by decide) rfl (fun ls hl => ?_)
    refine lv_aload_n hx hb qd_L_law_169 rfl (lv_at hl 5 rfl) ?_
    refine vp_callSi (W.runV (As := []) (rest := []) ⟨hx, hb, hml, hown, hW⟩ (ct_M_thrown l dC dI o ca cb cA (nI 1) n k w4 z1 z2 f2 g2) (cwV 0 hW (tq_gV qm_306 qm_307 qm_308 qm_2 qm_309) rfl rfl rfl (by decide +kernel) ⟨Nat.le_of_ble_eq_true rfl, Nat.le_of_ble_eq_true rfl⟩) ⟨tq_b1, va_recv hK hP (ci := 1) (q0 := 4) rfl rfl, fun U hU hW9 => ⟨rfl, by rw [hU]; exact hP.sub [4, 5, 6] rfl, va_K.moved hW9.alike (hK.sub [0] rfl)⟩⟩ rfl rfl hl.1 rfl (lv_room (Nat.le_of_ble_eq_true rfl)) qd_L_law_170 ⟨by show _ ≤ 601024; omega, by show _ ≤ 7293034; omega⟩) (fun r9 e9 => ?_)
    subst e9
    refine lv_iload hx hb qd_L_law_173 (lv_at hl 1 rfl) ?_
    refine tq_icmp_eq (x := 1) (y := 1) (tgt := 180) hx hb qd_L_law_175 (by decide) (by omega) (by omega) (fun c8 => ?_) (fun c9 => by omega)
    refine lv_iload hx hb qd_L_law_180 (lv_at hl 1 rfl) ?_
    refine tq_if_ne (x := 1) (tgt := 197) hx hb qd_L_law_182 (by decide) (by omega) (fun c7 => ?_) (fun c9 => by omega)
    refine lv_goto (tgt := 1247) hx hb qd_L_law_197 (by decide) ?_
    refine W.widen (k := cells + 1) (n := slots + 6) (by omega) (by omega) ?_
    exact cont n k f g (nI 1) w4 z1 z2 f2 g2 ow _ _ _ hR (hP.sub [0, 1, 2, 4, 5, 6, 3] rfl) (hD.sub [0, 1, 2, 4, 5, 6, 3] (by decide) rfl) hS (lv_sub hl [2, 3, 4, 5, 6] rfl)
