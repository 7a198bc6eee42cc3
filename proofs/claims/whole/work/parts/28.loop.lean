theorem tq_lcond {L ix : Nat} (hL : L ≤ 3584) (hi : ix ≤ 10000) : nI L - nI 7 < nI ix ↔ L < ix + 7 := by
  rw [Int32.lt_iff_toInt_lt, pk_sub_toInt (by omega) (by decide), nI_toInt (by omega)]
  omega
set_option maxHeartbeats 4000000 in
set_option maxRecDepth 100000 in
/-- THE LAW's LOOP -/
theorem lq_loop (p : Program) (l : Launch) (e : Env) (s : State) (m : MethodId) (below : List Frame) (meth : Method) (c : Code) (sb L : Nat) (xs : Nat → Int32) (dC : Nat → ClassId) (dI : Nat → Nat → Nat) (x a b o ca cb ao : Nat) (cA : ClassId) (A : Nat → Prop) (C9 : lq_F p l e s m below meth c sb L xs dC dI x a b o ca cb ao cA A) (hA2 : ∀ q : Nat, A q → s.heap.size ≤ q) (hr : meth.sig.returnType = ret) (hlocks : meth.locks = false) : ∀ (t ix cells slots : Nat), L ≤ ix + 7 * t + 6 → ix ≤ 10000 → cells + t ≤ 601024 → slots + 6 * t ≤ 7293034 → lq_N p l e s m below meth c sb L xs dC dI x a b o ca cb ao cA A ix cells slots 23 := by
  obtain ⟨hx, hb, hml, hown, hW, hst, hA, hX, hbl, hbA, hZ, hK, hL⟩ := id C9
  intro t
  induction t with
  | zero =>
    intro ix cells slots hf hi hc hs n k f g w1 w4 z1 z2 f2 g2 ow H locs ls hR hP hD hS hl
    refine lv_iload hx hb qd_L_law_23 (lv_at hl 0 rfl) ?_
    refine lv_aload_n hx hb qd_L_law_25 rfl (lv_at hl 1 rfl) ?_
    refine va_slen hx hb hX hbl hbA hS qd_L_law_26 ?_
    refine tq_ti (y := nI L) (rfl) ?_
    refine lv_bipush (v := nI 7) hx hb qd_L_law_27 (by decide +kernel) ?_
    refine lv_isub hx hb qd_L_law_29 ?_
    refine lv_icmp_gt (tgt := 1253) hx hb qd_L_law_30 (by decide) (fun c9 => ?_) (fun c9 => absurd ((tq_lcond hL hi).mpr (by omega)) c9)
    refine lv_iconst (v := 1) hx hb qd_L_law_1253 (by decide) ?_
    refine va_forget (fun q h => hA2 _ (hS.2.2 q h)) ?_
    refine W.widen (k := 601024) (n := 7293034) (by omega) (by omega) ?_
    exact lw_ret hx hb hr hlocks qd_L_law_1254
  | succ t ih =>
    intro ix cells slots hf hi hc hs n k f g w1 w4 z1 z2 f2 g2 ow H locs ls hR hP hD hS hl
    refine lv_iload hx hb qd_L_law_23 (lv_at hl 0 rfl) ?_
    refine lv_aload_n hx hb qd_L_law_25 rfl (lv_at hl 1 rfl) ?_
    refine va_slen hx hb hX hbl hbA hS qd_L_law_26 ?_
    refine tq_ti (y := nI L) (rfl) ?_
    refine lv_bipush (v := nI 7) hx hb qd_L_law_27 (by decide +kernel) ?_
    refine lv_isub hx hb qd_L_law_29 ?_
    refine lv_icmp_gt (tgt := 1253) hx hb qd_L_law_30 (by decide) (fun c0 => ?_) (fun c0 => ?_)
    · refine lv_iconst (v := 1) hx hb qd_L_law_1253 (by decide) ?_
      refine va_forget (fun q h => hA2 _ (hS.2.2 q h)) ?_
      refine W.widen (k := 601024) (n := 7293034) (by omega) (by omega) ?_
      exact lw_ret hx hb hr hlocks qd_L_law_1254
    · have hi7 : ix + 7 ≤ L := Nat.le_of_not_lt (fun h => c0 ((tq_lcond hL hi).mpr h))
      have cont : lq_N p l e s m below meth c sb L xs dC dI x a b o ca cb ao cA A ix (cells + 1) (slots + 6) 1247 := by
        intro n k f g w1 w4 z1 z2 f2 g2 ow H locs ls hR hP hD hS hl
        refine lv_iinc (v := (nI (ix + 7))) (lv' := [(4, .int (nI (ix + 7))), (0, .ref sb), (1, .ref x), (2, .ref o), (3, .ref ao)]) hx hb qd_L_law_1247 hl (k := 0) rfl (by rw [show Int32.ofInt 7 = nI 7 from by decide +kernel]; exact nI_add ix 7) (by decide) rfl (fun ls hl => ?_)
        refine lv_goto (tgt := 23) hx hb qd_L_law_1250 (by decide) ?_
        exact ih (ix + 7) (cells + 1) (slots + 6) (by omega) (by omega) (by omega) (by omega) n k f g w1 w4 z1 z2 f2 g2 ow H locs ls hR hP hD hS (lv_sub hl [0, 1, 2, 3, 4] rfl)
      obtain ⟨p0, e0⟩ : ∃ z9 : Int32, xs ix = z9 := ⟨_, rfl⟩
      refine lv_aload_n hx hb qd_L_law_33 rfl (lv_at hl 1 rfl) ?_
      refine lv_iload hx hb qd_L_law_34 (lv_at hl 0 rfl) ?_
      refine tq_sld hx hb hX hbl hbA hS (j := ix) (v := p0) (by omega) (by omega) e0 qd_L_law_36 ?_
      refine lv_bipush (v := nI 15) hx hb qd_L_law_37 (by decide +kernel) ?_
      refine lv_iand hx hb qd_L_law_39 ?_
      obtain ⟨j, hj, ej⟩ := pk_andE p0 (m := nI 15) 4 (by decide +kernel)
      refine tq_ti (y := nI j) (ej) ?_
      have hj : j < 16 := hj
      have hjc : j = 0 ∨ j = 1 ∨ j = 2 ∨ j = 3 ∨ j = 4 ∨ j = 5 ∨ j = 6 ∨ j = 7 ∨ j = 8 ∨ j = 9 ∨ j = 10 ∨ j = 11 ∨ j = 12 ∨ j = 13 ∨ j = 14 ∨ j = 15 := by omega
      rcases hjc with rfl | rfl | rfl | rfl | rfl | rfl | rfl | rfl | rfl | rfl | rfl | rfl | rfl | rfl | rfl | rfl
      · refine lv_tableIn (off := 72) (tgt := 112) hx hb qd_L_law_40 (by decide +kernel) (by decide +kernel) (by decide +kernel) (by decide) ?_
        exact lq_c0 p l e s m below meth c sb L xs dC dI x a b o ca cb ao cA A C9 ix cells slots hi7 (by omega) (by omega) cont n k f g w1 w4 z1 z2 f2 g2 ow H locs ls hR hP hD hS hl
      · refine lv_tableIn (off := 160) (tgt := 200) hx hb qd_L_law_40 (by decide +kernel) (by decide +kernel) (by decide +kernel) (by decide) ?_
        exact lq_c1 p l e s m below meth c sb L xs dC dI x a b o ca cb ao cA A C9 ix cells slots hi7 (by omega) (by omega) cont n k f g w1 w4 z1 z2 f2 g2 ow H locs ls hR hP hD hS hl
      · refine lv_tableIn (off := 304) (tgt := 344) hx hb qd_L_law_40 (by decide +kernel) (by decide +kernel) (by decide +kernel) (by decide) ?_
        exact lq_c2 p l e s m below meth c sb L xs dC dI x a b o ca cb ao cA A C9 ix cells slots hi7 (by omega) (by omega) cont n k f g w1 w4 z1 z2 f2 g2 ow H locs ls hR hP hD hS hl
      · refine lv_tableIn (off := 360) (tgt := 400) hx hb qd_L_law_40 (by decide +kernel) (by decide +kernel) (by decide +kernel) (by decide) ?_
        exact lq_c3 p l e s m below meth c sb L xs dC dI x a b o ca cb ao cA A C9 ix cells slots hi7 (by omega) (by omega) cont n k f g w1 w4 z1 z2 f2 g2 ow H locs ls hR hP hD hS hl
      · refine lv_tableIn (off := 415) (tgt := 455) hx hb qd_L_law_40 (by decide +kernel) (by decide +kernel) (by decide +kernel) (by decide) ?_
        exact lq_c4 p l e s m below meth c sb L xs dC dI x a b o ca cb ao cA A C9 ix cells slots hi7 (by omega) (by omega) cont n k f g w1 w4 z1 z2 f2 g2 ow H locs ls hR hP hD hS hl
      · refine lv_tableIn (off := 482) (tgt := 522) hx hb qd_L_law_40 (by decide +kernel) (by decide +kernel) (by decide +kernel) (by decide) ?_
        exact lq_c5 p l e s m below meth c sb L xs dC dI x a b o ca cb ao cA A C9 ix cells slots hi7 (by omega) (by omega) cont n k f g w1 w4 z1 z2 f2 g2 ow H locs ls hR hP hD hS hl
      · refine lv_tableIn (off := 550) (tgt := 590) hx hb qd_L_law_40 (by decide +kernel) (by decide +kernel) (by decide +kernel) (by decide) ?_
        exact lq_c6 p l e s m below meth c sb L xs dC dI x a b o ca cb ao cA A C9 ix cells slots hi7 (by omega) (by omega) cont n k f g w1 w4 z1 z2 f2 g2 ow H locs ls hR hP hD hS hl
      · refine lv_tableIn (off := 618) (tgt := 658) hx hb qd_L_law_40 (by decide +kernel) (by decide +kernel) (by decide +kernel) (by decide) ?_
        exact lq_c7 p l e s m below meth c sb L xs dC dI x a b o ca cb ao cA A C9 ix cells slots hi7 (by omega) (by omega) cont n k f g w1 w4 z1 z2 f2 g2 ow H locs ls hR hP hD hS hl
      · refine lv_tableIn (off := 673) (tgt := 713) hx hb qd_L_law_40 (by decide +kernel) (by decide +kernel) (by decide +kernel) (by decide) ?_
        exact lq_c8 p l e s m below meth c sb L xs dC dI x a b o ca cb ao cA A C9 ix cells slots hi7 (by omega) (by omega) cont n k f g w1 w4 z1 z2 f2 g2 ow H locs ls hR hP hD hS hl
      · refine lv_tableIn (off := 772) (tgt := 812) hx hb qd_L_law_40 (by decide +kernel) (by decide +kernel) (by decide +kernel) (by decide) ?_
        exact lq_c9 p l e s m below meth c sb L xs dC dI x a b o ca cb ao cA A C9 ix cells slots hi7 (by omega) (by omega) cont n k f g w1 w4 z1 z2 f2 g2 ow H locs ls hR hP hD hS hl
      · refine lv_tableIn (off := 828) (tgt := 868) hx hb qd_L_law_40 (by decide +kernel) (by decide +kernel) (by decide +kernel) (by decide) ?_
        exact lq_c10 p l e s m below meth c sb L xs dC dI x a b o ca cb ao cA A C9 ix cells slots hi7 (by omega) (by omega) cont n k f g w1 w4 z1 z2 f2 g2 ow H locs ls hR hP hD hS hl
      · refine lv_tableIn (off := 955) (tgt := 995) hx hb qd_L_law_40 (by decide +kernel) (by decide +kernel) (by decide +kernel) (by decide) ?_
        exact lq_c11 p l e s m below meth c sb L xs dC dI x a b o ca cb ao cA A C9 ix cells slots hi7 (by omega) (by omega) cont n k f g w1 w4 z1 z2 f2 g2 ow H locs ls hR hP hD hS hl
      · refine lv_tableIn (off := 1082) (tgt := 1122) hx hb qd_L_law_40 (by decide +kernel) (by decide +kernel) (by decide +kernel) (by decide) ?_
        exact lq_c12 p l e s m below meth c sb L xs dC dI x a b o ca cb ao cA A C9 ix cells slots hi7 (by omega) (by omega) cont n k f g w1 w4 z1 z2 f2 g2 ow H locs ls hR hP hD hS hl
      · refine lv_tableIn (off := 1182) (tgt := 1222) hx hb qd_L_law_40 (by decide +kernel) (by decide +kernel) (by decide +kernel) (by decide) ?_
        exact lq_c13 p l e s m below meth c sb L xs dC dI x a b o ca cb ao cA A C9 ix cells slots hi7 (by omega) (by omega) cont n k f g w1 w4 z1 z2 f2 g2 ow H locs ls hR hP hD hS hl
      · refine lv_tableOut (tgt := 1247) hx hb qd_L_law_40 (by decide +kernel) (by decide) ?_
        refine W.widen (k := cells + 1) (n := slots + 6) (by omega) (by omega) ?_
        exact cont n k f g w1 w4 z1 z2 f2 g2 ow H locs ls hR hP hD hS hl
      · refine lv_tableOut (tgt := 1247) hx hb qd_L_law_40 (by decide +kernel) (by decide) ?_
        refine W.widen (k := cells + 1) (n := slots + 6) (by omega) (by omega) ?_
        exact cont n k f g w1 w4 z1 z2 f2 g2 ow H locs ls hR hP hD hS hl
