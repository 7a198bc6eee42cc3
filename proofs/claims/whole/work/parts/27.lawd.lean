set_option maxHeartbeats 4000000 in
set_option maxRecDepth 100000 in
/-- shows -/
theorem lq_c10 (p : Program) (l : Launch) (e : Env) (s : State) (m : MethodId) (below : List Frame) (meth : Method) (c : Code) (sb L : Nat) (xs : Nat → Int32) (dC : Nat → ClassId) (dI : Nat → Nat → Nat) (x a b o ca cb ao : Nat) (cA : ClassId) (A : Nat → Prop) (C9 : lq_F p l e s m below meth c sb L xs dC dI x a b o ca cb ao cA A) (ix cells slots : Nat) (hi : ix + 7 ≤ L) (hc1 : cells + 1 ≤ 601024) (hs1 : slots + 6 ≤ 7293034) (cont : lq_N p l e s m below meth c sb L xs dC dI x a b o ca cb ao cA A ix (cells + 1) (slots + 6) 1247) : lq_N p l e s m below meth c sb L xs dC dI x a b o ca cb ao cA A ix cells slots 868 := by
  intro n k f g w1 w4 z1 z2 f2 g2 ow H locs ls hR hP hD hS hl
  obtain ⟨hx, hb, hml, hown, hW, hst, hA, hX, hbl, hbA, hZ, hK, hL⟩ := id C9
  have hn6 := hR.1
  have hk4 := hR.2.1
  obtain ⟨p1, e1⟩ : ∃ z9 : Int32, xs (ix + 1) = z9 := ⟨_, rfl⟩
  obtain ⟨p2, e2⟩ : ∃ z9 : Int32, xs (ix + 2) = z9 := ⟨_, rfl⟩
  obtain ⟨p3, e3⟩ : ∃ z9 : Int32, xs (ix + 3) = z9 := ⟨_, rfl⟩
  obtain ⟨p4, e4⟩ : ∃ z9 : Int32, xs (ix + 4) = z9 := ⟨_, rfl⟩
  obtain ⟨p5, e5⟩ : ∃ z9 : Int32, xs (ix + 5) = z9 := ⟨_, rfl⟩
  obtain ⟨p6, e6⟩ : ∃ z9 : Int32, xs (ix + 6) = z9 := ⟨_, rfl⟩
  by_cases hq : p1 < 0 ∨ p2 ≤ p1 ∨ nI 1073741824 < p2
  · refine lv_aload_n hx hb qd_L_law_868 rfl (lv_at hl 2 rfl) ?_
    refine lv_aload_n hx hb qd_L_law_869 rfl (lv_at hl 1 rfl) ?_
    refine lv_iload hx hb qd_L_law_870 (lv_at hl 0 rfl) ?_
    refine lv_iconst (v := nI 1) hx hb qd_L_law_872 (by decide +kernel) ?_
    refine lv_iadd hx hb qd_L_law_873 ?_
    refine tq_ti (y := nI (ix + 1)) (nI_add _ _) ?_
    refine tq_sld hx hb hX hbl hbA hS (j := ix + 1) (v := p1) (by omega) (by omega) e1 qd_L_law_874 ?_
    refine lv_aload_n hx hb qd_L_law_875 rfl (lv_at hl 1 rfl) ?_
    refine lv_iload hx hb qd_L_law_876 (lv_at hl 0 rfl) ?_
    refine lv_iconst (v := nI 2) hx hb qd_L_law_878 (by decide +kernel) ?_
    refine lv_iadd hx hb qd_L_law_879 ?_
    refine tq_ti (y := nI (ix + 2)) (nI_add _ _) ?_
    refine tq_sld hx hb hX hbl hbA hS (j := ix + 2) (v := p2) (by omega) (by omega) e2 qd_L_law_880 ?_
    refine lv_aload_n hx hb qd_L_law_881 rfl (lv_at hl 1 rfl) ?_
    refine lv_iload hx hb qd_L_law_882 (lv_at hl 0 rfl) ?_
    refine lv_iconst (v := nI 3) hx hb qd_L_law_884 (by decide +kernel) ?_
    refine lv_iadd hx hb qd_L_law_885 ?_
    refine tq_ti (y := nI (ix + 3)) (nI_add _ _) ?_
    refine tq_sld hx hb hX hbl hbA hS (j := ix + 3) (v := p3) (by omega) (by omega) e3 qd_L_law_886 ?_
    refine lv_i2l (v := p3.toInt64) hx hb qd_L_law_887 rfl ?_
    refine lv_bipush (v := nI 32) hx hb qd_L_law_888 (by decide +kernel) ?_
    refine lv_lshl (v := p3.toInt64 <<< ((nI 32).toInt64 &&& 63)) hx hb qd_L_law_890 rfl ?_
    refine lv_aload_n hx hb qd_L_law_891 rfl (lv_at hl 1 rfl) ?_
    refine lv_iload hx hb qd_L_law_892 (lv_at hl 0 rfl) ?_
    refine lv_iconst (v := nI 4) hx hb qd_L_law_894 (by decide +kernel) ?_
    refine lv_iadd hx hb qd_L_law_895 ?_
    refine tq_ti (y := nI (ix + 4)) (nI_add _ _) ?_
    refine tq_sld hx hb hX hbl hbA hS (j := ix + 4) (v := p4) (by omega) (by omega) e4 qd_L_law_896 ?_
    refine lv_i2l (v := p4.toInt64) hx hb qd_L_law_897 rfl ?_
    refine lv_ldc2 (v := (4294967295)) hx hb hown (hW _ qm_407) qd_L_law_898 ?_
    refine lv_land hx hb qd_L_law_901 ?_
    refine lv_lor hx hb qd_L_law_902 ?_
    refine tq_tl (y := tq_lg p3 p4) (rfl) ?_
    refine lv_aload_n hx hb qd_L_law_903 rfl (lv_at hl 1 rfl) ?_
    refine lv_iload hx hb qd_L_law_904 (lv_at hl 0 rfl) ?_
    refine lv_iconst (v := nI 5) hx hb qd_L_law_906 (by decide +kernel) ?_
    refine lv_iadd hx hb qd_L_law_907 ?_
    refine tq_ti (y := nI (ix + 5)) (nI_add _ _) ?_
    refine tq_sld hx hb hX hbl hbA hS (j := ix + 5) (v := p5) (by omega) (by omega) e5 qd_L_law_908 ?_
    refine lv_i2l (v := p5.toInt64) hx hb qd_L_law_909 rfl ?_
    refine lv_bipush (v := nI 32) hx hb qd_L_law_910 (by decide +kernel) ?_
    refine lv_lshl (v := p5.toInt64 <<< ((nI 32).toInt64 &&& 63)) hx hb qd_L_law_912 rfl ?_
    refine lv_aload_n hx hb qd_L_law_913 rfl (lv_at hl 1 rfl) ?_
    refine lv_iload hx hb qd_L_law_914 (lv_at hl 0 rfl) ?_
    refine lv_bipush (v := nI 6) hx hb qd_L_law_916 (by decide +kernel) ?_
    refine lv_iadd hx hb qd_L_law_918 ?_
    refine tq_ti (y := nI (ix + 6)) (nI_add _ _) ?_
    refine tq_sld hx hb hX hbl hbA hS (j := ix + 6) (v := p6) (by omega) (by omega) e6 qd_L_law_919 ?_
    refine lv_i2l (v := p6.toInt64) hx hb qd_L_law_920 rfl ?_
    refine lv_ldc2 (v := (4294967295)) hx hb hown (hW _ qm_407) qd_L_law_921 ?_
    refine lv_land hx hb qd_L_law_924 ?_
    refine lv_lor hx hb qd_L_law_925 ?_
    refine tq_tl (y := tq_lg p5 p6) (rfl) ?_
    refine vp_callSi (W.runV (As := [.int p1, .int p2, .long (tq_lg p3 p4), .long (tq_lg p5 p6)]) (rest := []) ⟨hx, hb, hml, hown, hW⟩ (ct_X_shows_no l dC dI x a b cA n k f g p1 p2 (tq_lg p3 p4) (tq_lg p5 p6) hq) (cwV 4 hW (tq_gV qm_33 qm_34 qm_35 qm_1 qm_36) rfl rfl rfl (by decide +kernel) ⟨Nat.le_of_ble_eq_true rfl, Nat.le_of_ble_eq_true rfl⟩) ⟨tq_b1, va_recv hK hP (ci := 0) (q0 := 0) rfl rfl, fun U hU hW9 => ⟨rfl, by rw [hU]; exact hP.sub [0, 1, 2] rfl, va_K.moved hW9.alike (hK.sub [0] rfl)⟩⟩ rfl rfl hl.1 rfl (lv_room (Nat.le_of_ble_eq_true rfl)) qd_L_law_926 ⟨by show _ ≤ 601024; omega, by show _ ≤ 7293034; omega⟩) (fun r9 e9 => ?_)
    subst e9
    refine lv_aload_n hx hb qd_L_law_929 rfl (lv_at hl 3 rfl) ?_
    refine lv_aload_n hx hb qd_L_law_930 rfl (lv_at hl 1 rfl) ?_
    refine lv_iload hx hb qd_L_law_931 (lv_at hl 0 rfl) ?_
    refine lv_iconst (v := nI 1) hx hb qd_L_law_933 (by decide +kernel) ?_
    refine lv_iadd hx hb qd_L_law_934 ?_
    refine tq_ti (y := nI (ix + 1)) (nI_add _ _) ?_
    refine tq_sld hx hb hX hbl hbA hS (j := ix + 1) (v := p1) (by omega) (by omega) e1 qd_L_law_935 ?_
    refine lv_aload_n hx hb qd_L_law_936 rfl (lv_at hl 1 rfl) ?_
    refine lv_iload hx hb qd_L_law_937 (lv_at hl 0 rfl) ?_
    refine lv_iconst (v := nI 2) hx hb qd_L_law_939 (by decide +kernel) ?_
    refine lv_iadd hx hb qd_L_law_940 ?_
    refine tq_ti (y := nI (ix + 2)) (nI_add _ _) ?_
    refine tq_sld hx hb hX hbl hbA hS (j := ix + 2) (v := p2) (by omega) (by omega) e2 qd_L_law_941 ?_
    refine lv_aload_n hx hb qd_L_law_942 rfl (lv_at hl 1 rfl) ?_
    refine lv_iload hx hb qd_L_law_943 (lv_at hl 0 rfl) ?_
    refine lv_iconst (v := nI 3) hx hb qd_L_law_945 (by decide +kernel) ?_
    refine lv_iadd hx hb qd_L_law_946 ?_
    refine tq_ti (y := nI (ix + 3)) (nI_add _ _) ?_
    refine tq_sld hx hb hX hbl hbA hS (j := ix + 3) (v := p3) (by omega) (by omega) e3 qd_L_law_947 ?_
    refine lv_i2l (v := p3.toInt64) hx hb qd_L_law_948 rfl ?_
    refine lv_bipush (v := nI 32) hx hb qd_L_law_949 (by decide +kernel) ?_
    refine lv_lshl (v := p3.toInt64 <<< ((nI 32).toInt64 &&& 63)) hx hb qd_L_law_951 rfl ?_
    refine lv_aload_n hx hb qd_L_law_952 rfl (lv_at hl 1 rfl) ?_
    refine lv_iload hx hb qd_L_law_953 (lv_at hl 0 rfl) ?_
    refine lv_iconst (v := nI 4) hx hb qd_L_law_955 (by decide +kernel) ?_
    refine lv_iadd hx hb qd_L_law_956 ?_
    refine tq_ti (y := nI (ix + 4)) (nI_add _ _) ?_
    refine tq_sld hx hb hX hbl hbA hS (j := ix + 4) (v := p4) (by omega) (by omega) e4 qd_L_law_957 ?_
    refine lv_i2l (v := p4.toInt64) hx hb qd_L_law_958 rfl ?_
    refine lv_ldc2 (v := (4294967295)) hx hb hown (hW _ qm_407) qd_L_law_959 ?_
    refine lv_land hx hb qd_L_law_962 ?_
    refine lv_lor hx hb qd_L_law_963 ?_
    refine tq_tl (y := tq_lg p3 p4) (rfl) ?_
    refine lv_aload_n hx hb qd_L_law_964 rfl (lv_at hl 1 rfl) ?_
    refine lv_iload hx hb qd_L_law_965 (lv_at hl 0 rfl) ?_
    refine lv_iconst (v := nI 5) hx hb qd_L_law_967 (by decide +kernel) ?_
    refine lv_iadd hx hb qd_L_law_968 ?_
    refine tq_ti (y := nI (ix + 5)) (nI_add _ _) ?_
    refine tq_sld hx hb hX hbl hbA hS (j := ix + 5) (v := p5) (by omega) (by omega) e5 qd_L_law_969 ?_
    refine lv_i2l (v := p5.toInt64) hx hb qd_L_law_970 rfl ?_
    refine lv_bipush (v := nI 32) hx hb qd_L_law_971 (by decide +kernel) ?_
    refine lv_lshl (v := p5.toInt64 <<< ((nI 32).toInt64 &&& 63)) hx hb qd_L_law_973 rfl ?_
    refine lv_aload_n hx hb qd_L_law_974 rfl (lv_at hl 1 rfl) ?_
    refine lv_iload hx hb qd_L_law_975 (lv_at hl 0 rfl) ?_
    refine lv_bipush (v := nI 6) hx hb qd_L_law_977 (by decide +kernel) ?_
    refine lv_iadd hx hb qd_L_law_979 ?_
    refine tq_ti (y := nI (ix + 6)) (nI_add _ _) ?_
    refine tq_sld hx hb hX hbl hbA hS (j := ix + 6) (v := p6) (by omega) (by omega) e6 qd_L_law_980 ?_
    refine lv_i2l (v := p6.toInt64) hx hb qd_L_law_981 rfl ?_
    refine lv_ldc2 (v := (4294967295)) hx hb hown (hW _ qm_407) qd_L_law_982 ?_
    refine lv_land hx hb qd_L_law_985 ?_
    refine lv_lor hx hb qd_L_law_986 ?_
    refine tq_tl (y := tq_lg p5 p6) (rfl) ?_
    have hPc := hP.sub (ws' := [(o, .inr (1, [.int w1, .int (nI n), .int (nI k), .int w4, .ref ca, .ref cb, .long z1, .long z2])), (ca, .inl (cA, (600, .inr (.inl f2)))), (cb, .inl (cA, (40, .inr (.inl g2))))]) [3, 4, 5] rfl
    have hDc := hD.sub (ws' := [(o, .inr (1, [.int w1, .int (nI n), .int (nI k), .int w4, .ref ca, .ref cb, .long z1, .long z2])), (ca, .inl (cA, (600, .inr (.inl f2)))), (cb, .inl (cA, (40, .inr (.inl g2))))]) [3, 4, 5] (by decide) rfl
    have hKc := hK.sub (tys' := [(cA, .long)]) [0] rfl
    have hFc := va_free (wc := [(o, .inr (1, [.int w1, .int (nI n), .int (nI k), .int w4, .ref ca, .ref cb, .long z1, .long z2])), (ca, .inl (cA, (600, .inr (.inl f2)))), (cb, .inl (cA, (40, .inr (.inl g2))))]) hD hS hA [3, 4, 5] rfl
    refine va_calli (va_runV (As := [.int p1, .int p2, .long (tq_lg p3 p4), .long (tq_lg p5 p6)]) (rest := [.int (nI 0)]) ⟨hx, hb, hml, hown, hW⟩ (ct_M_shows_no l dC dI o ca cb cA w1 n k w4 z1 z2 f2 g2 H.size p1 p2 (tq_lg p3 p4) (tq_lg p5 p6) hq) (cwV 4 hW (tq_gV qm_378 qm_379 qm_380 qm_2 qm_381) rfl rfl rfl (by decide +kernel) ⟨Nat.le_of_ble_eq_true rfl, Nat.le_of_ble_eq_true rfl⟩) ⟨tq_b2, va_recv hKc hPc (ci := 1) (q0 := 0) rfl rfl, fun U hU hW9 => ⟨rfl, by rw [hU], by rw [hU]; exact hPc, va_K.moved hW9.alike hKc, hDc.weaken (fun _ _ _ _ => trivial)⟩⟩ rfl rfl hl.1 rfl (lv_room (Nat.le_of_ble_eq_true rfl)) qd_L_law_987 ⟨by show _ ≤ 601024; omega, by show _ ≤ 7293034; omega⟩) hS (fun q _ h => hFc q h) hFc (fun r9 u9 t9 H1 locs ht9 hvm hw hB hz1 hk1 hS => ?_)
    obtain ⟨hP1, hK1, hD1⟩ := hB
    rw [ht9] at hP1
    obtain ⟨hP, hD⟩ := va_join (wr := [(x, .inr (0, [.ref a, .int (nI n), .ref b, .int (nI k)])), (a, .inl (cA, (600, .inr (.inl f)))), (b, .inl (cA, (40, .inr (.inl g)))), (ao, .inl (cA, (1, .inr (.inl ow))))]) (w1 := [(o, .inr (1, [.int (nI 0), .int (nI n), .int (nI k), .int w4, .ref ca, .ref cb, .long z1, .long z2])), (ca, .inl (cA, (600, .inr (.inl f2)))), (cb, .inl (cA, (40, .inr (.inl g2))))]) hP hD [3, 4, 5] [0, 1, 2, 6] rfl rfl (by decide) (by decide) hk1 hFc hP1 hD1
    generalize H1 = H at hP hS ⊢
    have hP : va_P (dC, dI) tq_cl [(x, .inr (0, [.ref a, .int (nI n), .ref b, .int (nI k)])), (a, .inl (cA, (600, .inr (.inl f)))), (b, .inl (cA, (40, .inr (.inl g)))), (ao, .inl (cA, (1, .inr (.inl ow)))), (o, .inr (1, [.int (nI 0), .int (nI n), .int (nI k), .int w4, .ref ca, .ref cb, .long z1, .long z2])), (ca, .inl (cA, (600, .inr (.inl f2)))), (cb, .inl (cA, (40, .inr (.inl g2))))] H := hP
    have hD : va_D A [(x, .inr (0, [.ref a, .int (nI n), .ref b, .int (nI k)])), (a, .inl (cA, (600, .inr (.inl f)))), (b, .inl (cA, (40, .inr (.inl g)))), (ao, .inl (cA, (1, .inr (.inl ow)))), (o, .inr (1, [.int (nI 0), .int (nI n), .int (nI k), .int w4, .ref ca, .ref cb, .long z1, .long z2])), (ca, .inl (cA, (600, .inr (.inl f2)))), (cb, .inl (cA, (40, .inr (.inl g2))))] := hD
    have hw : r9 = nI 0 := hw
    subst hw
    refine lv_icmp_eq (tgt := 1247) hx hb qd_L_law_990 (by decide) (fun c8 => ?_) (fun c9 => absurd rfl c9)
    refine W.widen (k := cells + 1) (n := slots + 6) (by omega) (by omega) ?_
    exact cont n k f g (nI 0) w4 z1 z2 f2 g2 ow _ _ _ hR (hP.sub [0, 1, 2, 4, 5, 6, 3] rfl) (hD.sub [0, 1, 2, 4, 5, 6, 3] (by decide) rfl) hS (lv_sub hl [0, 1, 2, 3, 4] rfl)
  · obtain ⟨y, j, h1, h2, rfl, rfl⟩ := tq_ok4 (by omega) hq
    refine lv_aload_n hx hb qd_L_law_868 rfl (lv_at hl 2 rfl) ?_
    refine lv_aload_n hx hb qd_L_law_869 rfl (lv_at hl 1 rfl) ?_
    refine lv_iload hx hb qd_L_law_870 (lv_at hl 0 rfl) ?_
    refine lv_iconst (v := nI 1) hx hb qd_L_law_872 (by decide +kernel) ?_
    refine lv_iadd hx hb qd_L_law_873 ?_
    refine tq_ti (y := nI (ix + 1)) (nI_add _ _) ?_
    refine tq_sld hx hb hX hbl hbA hS (j := ix + 1) (v := (nI y)) (by omega) (by omega) e1 qd_L_law_874 ?_
    refine lv_aload_n hx hb qd_L_law_875 rfl (lv_at hl 1 rfl) ?_
    refine lv_iload hx hb qd_L_law_876 (lv_at hl 0 rfl) ?_
    refine lv_iconst (v := nI 2) hx hb qd_L_law_878 (by decide +kernel) ?_
    refine lv_iadd hx hb qd_L_law_879 ?_
    refine tq_ti (y := nI (ix + 2)) (nI_add _ _) ?_
    refine tq_sld hx hb hX hbl hbA hS (j := ix + 2) (v := (nI j)) (by omega) (by omega) e2 qd_L_law_880 ?_
    refine lv_aload_n hx hb qd_L_law_881 rfl (lv_at hl 1 rfl) ?_
    refine lv_iload hx hb qd_L_law_882 (lv_at hl 0 rfl) ?_
    refine lv_iconst (v := nI 3) hx hb qd_L_law_884 (by decide +kernel) ?_
    refine lv_iadd hx hb qd_L_law_885 ?_
    refine tq_ti (y := nI (ix + 3)) (nI_add _ _) ?_
    refine tq_sld hx hb hX hbl hbA hS (j := ix + 3) (v := p3) (by omega) (by omega) e3 qd_L_law_886 ?_
    refine lv_i2l (v := p3.toInt64) hx hb qd_L_law_887 rfl ?_
    refine lv_bipush (v := nI 32) hx hb qd_L_law_888 (by decide +kernel) ?_
    refine lv_lshl (v := p3.toInt64 <<< ((nI 32).toInt64 &&& 63)) hx hb qd_L_law_890 rfl ?_
    refine lv_aload_n hx hb qd_L_law_891 rfl (lv_at hl 1 rfl) ?_
    refine lv_iload hx hb qd_L_law_892 (lv_at hl 0 rfl) ?_
    refine lv_iconst (v := nI 4) hx hb qd_L_law_894 (by decide +kernel) ?_
    refine lv_iadd hx hb qd_L_law_895 ?_
    refine tq_ti (y := nI (ix + 4)) (nI_add _ _) ?_
    refine tq_sld hx hb hX hbl hbA hS (j := ix + 4) (v := p4) (by omega) (by omega) e4 qd_L_law_896 ?_
    refine lv_i2l (v := p4.toInt64) hx hb qd_L_law_897 rfl ?_
    refine lv_ldc2 (v := (4294967295)) hx hb hown (hW _ qm_407) qd_L_law_898 ?_
    refine lv_land hx hb qd_L_law_901 ?_
    refine lv_lor hx hb qd_L_law_902 ?_
    refine tq_tl (y := tq_lg p3 p4) (rfl) ?_
    refine lv_aload_n hx hb qd_L_law_903 rfl (lv_at hl 1 rfl) ?_
    refine lv_iload hx hb qd_L_law_904 (lv_at hl 0 rfl) ?_
    refine lv_iconst (v := nI 5) hx hb qd_L_law_906 (by decide +kernel) ?_
    refine lv_iadd hx hb qd_L_law_907 ?_
    refine tq_ti (y := nI (ix + 5)) (nI_add _ _) ?_
    refine tq_sld hx hb hX hbl hbA hS (j := ix + 5) (v := p5) (by omega) (by omega) e5 qd_L_law_908 ?_
    refine lv_i2l (v := p5.toInt64) hx hb qd_L_law_909 rfl ?_
    refine lv_bipush (v := nI 32) hx hb qd_L_law_910 (by decide +kernel) ?_
    refine lv_lshl (v := p5.toInt64 <<< ((nI 32).toInt64 &&& 63)) hx hb qd_L_law_912 rfl ?_
    refine lv_aload_n hx hb qd_L_law_913 rfl (lv_at hl 1 rfl) ?_
    refine lv_iload hx hb qd_L_law_914 (lv_at hl 0 rfl) ?_
    refine lv_bipush (v := nI 6) hx hb qd_L_law_916 (by decide +kernel) ?_
    refine lv_iadd hx hb qd_L_law_918 ?_
    refine tq_ti (y := nI (ix + 6)) (nI_add _ _) ?_
    refine tq_sld hx hb hX hbl hbA hS (j := ix + 6) (v := p6) (by omega) (by omega) e6 qd_L_law_919 ?_
    refine lv_i2l (v := p6.toInt64) hx hb qd_L_law_920 rfl ?_
    refine lv_ldc2 (v := (4294967295)) hx hb hown (hW _ qm_407) qd_L_law_921 ?_
    refine lv_land hx hb qd_L_law_924 ?_
    refine lv_lor hx hb qd_L_law_925 ?_
    refine tq_tl (y := tq_lg p5 p6) (rfl) ?_
    refine vp_callSi (W.runV (As := [.int (nI y), .int (nI j), .long (tq_lg p3 p4), .long (tq_lg p5 p6)]) (rest := []) ⟨hx, hb, hml, hown, hW⟩ (ct_X_shows l dC dI x a b cA n k f g y j (tq_lg p3 p4) (tq_lg p5 p6) h1 (by omega) hk4) (cwV 4 hW (tq_gV qm_33 qm_34 qm_35 qm_1 qm_36) rfl rfl rfl (by decide +kernel) ⟨Nat.le_of_ble_eq_true rfl, Nat.le_of_ble_eq_true rfl⟩) ⟨tq_b1, va_recv hK hP (ci := 0) (q0 := 0) rfl rfl, fun U hU hW9 => ⟨rfl, by rw [hU]; exact hP.sub [0, 1, 2] rfl, va_K.moved hW9.alike (hK.sub [0] rfl)⟩⟩ rfl rfl hl.1 rfl (lv_room (Nat.le_of_ble_eq_true rfl)) qd_L_law_926 ⟨by show _ ≤ 601024; omega, by show _ ≤ 7293034; omega⟩) (fun r9 e9 => ?_)
    subst e9
    refine lv_aload_n hx hb qd_L_law_929 rfl (lv_at hl 3 rfl) ?_
    refine lv_aload_n hx hb qd_L_law_930 rfl (lv_at hl 1 rfl) ?_
    refine lv_iload hx hb qd_L_law_931 (lv_at hl 0 rfl) ?_
    refine lv_iconst (v := nI 1) hx hb qd_L_law_933 (by decide +kernel) ?_
    refine lv_iadd hx hb qd_L_law_934 ?_
    refine tq_ti (y := nI (ix + 1)) (nI_add _ _) ?_
    refine tq_sld hx hb hX hbl hbA hS (j := ix + 1) (v := (nI y)) (by omega) (by omega) e1 qd_L_law_935 ?_
    refine lv_aload_n hx hb qd_L_law_936 rfl (lv_at hl 1 rfl) ?_
    refine lv_iload hx hb qd_L_law_937 (lv_at hl 0 rfl) ?_
    refine lv_iconst (v := nI 2) hx hb qd_L_law_939 (by decide +kernel) ?_
    refine lv_iadd hx hb qd_L_law_940 ?_
    refine tq_ti (y := nI (ix + 2)) (nI_add _ _) ?_
    refine tq_sld hx hb hX hbl hbA hS (j := ix + 2) (v := (nI j)) (by omega) (by omega) e2 qd_L_law_941 ?_
    refine lv_aload_n hx hb qd_L_law_942 rfl (lv_at hl 1 rfl) ?_
    refine lv_iload hx hb qd_L_law_943 (lv_at hl 0 rfl) ?_
    refine lv_iconst (v := nI 3) hx hb qd_L_law_945 (by decide +kernel) ?_
    refine lv_iadd hx hb qd_L_law_946 ?_
    refine tq_ti (y := nI (ix + 3)) (nI_add _ _) ?_
    refine tq_sld hx hb hX hbl hbA hS (j := ix + 3) (v := p3) (by omega) (by omega) e3 qd_L_law_947 ?_
    refine lv_i2l (v := p3.toInt64) hx hb qd_L_law_948 rfl ?_
    refine lv_bipush (v := nI 32) hx hb qd_L_law_949 (by decide +kernel) ?_
    refine lv_lshl (v := p3.toInt64 <<< ((nI 32).toInt64 &&& 63)) hx hb qd_L_law_951 rfl ?_
    refine lv_aload_n hx hb qd_L_law_952 rfl (lv_at hl 1 rfl) ?_
    refine lv_iload hx hb qd_L_law_953 (lv_at hl 0 rfl) ?_
    refine lv_iconst (v := nI 4) hx hb qd_L_law_955 (by decide +kernel) ?_
    refine lv_iadd hx hb qd_L_law_956 ?_
    refine tq_ti (y := nI (ix + 4)) (nI_add _ _) ?_
    refine tq_sld hx hb hX hbl hbA hS (j := ix + 4) (v := p4) (by omega) (by omega) e4 qd_L_law_957 ?_
    refine lv_i2l (v := p4.toInt64) hx hb qd_L_law_958 rfl ?_
    refine lv_ldc2 (v := (4294967295)) hx hb hown (hW _ qm_407) qd_L_law_959 ?_
    refine lv_land hx hb qd_L_law_962 ?_
    refine lv_lor hx hb qd_L_law_963 ?_
    refine tq_tl (y := tq_lg p3 p4) (rfl) ?_
    refine lv_aload_n hx hb qd_L_law_964 rfl (lv_at hl 1 rfl) ?_
    refine lv_iload hx hb qd_L_law_965 (lv_at hl 0 rfl) ?_
    refine lv_iconst (v := nI 5) hx hb qd_L_law_967 (by decide +kernel) ?_
    refine lv_iadd hx hb qd_L_law_968 ?_
    refine tq_ti (y := nI (ix + 5)) (nI_add _ _) ?_
    refine tq_sld hx hb hX hbl hbA hS (j := ix + 5) (v := p5) (by omega) (by omega) e5 qd_L_law_969 ?_
    refine lv_i2l (v := p5.toInt64) hx hb qd_L_law_970 rfl ?_
    refine lv_bipush (v := nI 32) hx hb qd_L_law_971 (by decide +kernel) ?_
    refine lv_lshl (v := p5.toInt64 <<< ((nI 32).toInt64 &&& 63)) hx hb qd_L_law_973 rfl ?_
    refine lv_aload_n hx hb qd_L_law_974 rfl (lv_at hl 1 rfl) ?_
    refine lv_iload hx hb qd_L_law_975 (lv_at hl 0 rfl) ?_
    refine lv_bipush (v := nI 6) hx hb qd_L_law_977 (by decide +kernel) ?_
    refine lv_iadd hx hb qd_L_law_979 ?_
    refine tq_ti (y := nI (ix + 6)) (nI_add _ _) ?_
    refine tq_sld hx hb hX hbl hbA hS (j := ix + 6) (v := p6) (by omega) (by omega) e6 qd_L_law_980 ?_
    refine lv_i2l (v := p6.toInt64) hx hb qd_L_law_981 rfl ?_
    refine lv_ldc2 (v := (4294967295)) hx hb hown (hW _ qm_407) qd_L_law_982 ?_
    refine lv_land hx hb qd_L_law_985 ?_
    refine lv_lor hx hb qd_L_law_986 ?_
    refine tq_tl (y := tq_lg p5 p6) (rfl) ?_
    have hPc := hP.sub (ws' := [(o, .inr (1, [.int w1, .int (nI n), .int (nI k), .int w4, .ref ca, .ref cb, .long z1, .long z2])), (ca, .inl (cA, (600, .inr (.inl f2)))), (cb, .inl (cA, (40, .inr (.inl g2))))]) [3, 4, 5] rfl
    have hDc := hD.sub (ws' := [(o, .inr (1, [.int w1, .int (nI n), .int (nI k), .int w4, .ref ca, .ref cb, .long z1, .long z2])), (ca, .inl (cA, (600, .inr (.inl f2)))), (cb, .inl (cA, (40, .inr (.inl g2))))]) [3, 4, 5] (by decide) rfl
    have hKc := hK.sub (tys' := [(cA, .long)]) [0] rfl
    have hFc := va_free (wc := [(o, .inr (1, [.int w1, .int (nI n), .int (nI k), .int w4, .ref ca, .ref cb, .long z1, .long z2])), (ca, .inl (cA, (600, .inr (.inl f2)))), (cb, .inl (cA, (40, .inr (.inl g2))))]) hD hS hA [3, 4, 5] rfl
    refine va_calli (va_runV (As := [.int (nI y), .int (nI j), .long (tq_lg p3 p4), .long (tq_lg p5 p6)]) (rest := [.int (tq_b (decide (k = tq_pl y j) && decide (tq_rt g y j (tq_leaf (tq_lg p3 p4)) = (tq_lg p5 p6))))]) ⟨hx, hb, hml, hown, hW⟩ (ct_M_shows l dC dI o ca cb cA w1 n k w4 z1 z2 f2 g2 H.size y j (tq_lg p3 p4) (tq_lg p5 p6) h1 (by omega) hk4) (cwV 4 hW (tq_gV qm_378 qm_379 qm_380 qm_2 qm_381) rfl rfl rfl (by decide +kernel) ⟨Nat.le_of_ble_eq_true rfl, Nat.le_of_ble_eq_true rfl⟩) ⟨tq_b2, va_recv hKc hPc (ci := 1) (q0 := 0) rfl rfl, fun U hU hW9 => ⟨rfl, by rw [hU], by rw [hU]; exact hPc, va_K.moved hW9.alike hKc, hDc.weaken (fun _ _ _ _ => trivial)⟩⟩ rfl rfl hl.1 rfl (lv_room (Nat.le_of_ble_eq_true rfl)) qd_L_law_987 ⟨by show _ ≤ 601024; omega, by show _ ≤ 7293034; omega⟩) hS (fun q _ h => hFc q h) hFc (fun r9 u9 t9 H1 locs ht9 hvm hw hB hz1 hk1 hS => ?_)
    obtain ⟨hP1, hK1, hD1⟩ := hB
    rw [ht9] at hP1
    obtain ⟨hP, hD⟩ := va_join (wr := [(x, .inr (0, [.ref a, .int (nI n), .ref b, .int (nI k)])), (a, .inl (cA, (600, .inr (.inl f)))), (b, .inl (cA, (40, .inr (.inl g)))), (ao, .inl (cA, (1, .inr (.inl ow))))]) (w1 := [(o, .inr (1, [.int (nI 0), .int (nI n), .int (nI k), .int (nI (0 + tq_pl y j)), .ref ca, .ref cb, .long z1, .long z2])), (ca, .inl (cA, (600, .inr (.inl f2)))), (cb, .inl (cA, (40, .inr (.inl g2))))]) hP hD [3, 4, 5] [0, 1, 2, 6] rfl rfl (by decide) (by decide) hk1 hFc hP1 hD1
    generalize H1 = H at hP hS ⊢
    have hP : va_P (dC, dI) tq_cl [(x, .inr (0, [.ref a, .int (nI n), .ref b, .int (nI k)])), (a, .inl (cA, (600, .inr (.inl f)))), (b, .inl (cA, (40, .inr (.inl g)))), (ao, .inl (cA, (1, .inr (.inl ow)))), (o, .inr (1, [.int (nI 0), .int (nI n), .int (nI k), .int (nI (0 + tq_pl y j)), .ref ca, .ref cb, .long z1, .long z2])), (ca, .inl (cA, (600, .inr (.inl f2)))), (cb, .inl (cA, (40, .inr (.inl g2))))] H := hP
    have hD : va_D A [(x, .inr (0, [.ref a, .int (nI n), .ref b, .int (nI k)])), (a, .inl (cA, (600, .inr (.inl f)))), (b, .inl (cA, (40, .inr (.inl g)))), (ao, .inl (cA, (1, .inr (.inl ow)))), (o, .inr (1, [.int (nI 0), .int (nI n), .int (nI k), .int (nI (0 + tq_pl y j)), .ref ca, .ref cb, .long z1, .long z2])), (ca, .inl (cA, (600, .inr (.inl f2)))), (cb, .inl (cA, (40, .inr (.inl g2))))] := hD
    have hw : r9 = tq_b (decide (0 + tq_pl y j = k) && decide (tq_rt (fun q => tq_q g2 k (0 + q)) y j (tq_leaf (tq_lg p3 p4)) = (tq_lg p5 p6))) := hw
    subst hw
    refine lv_icmp_eq (tgt := 1247) hx hb qd_L_law_990 (by decide) (fun c8 => ?_) (fun c9 => absurd (congrArg tq_b (hR.shows y j (tq_leaf (tq_lg p3 p4)) (tq_lg p5 p6))) c9)
    refine W.widen (k := cells + 1) (n := slots + 6) (by omega) (by omega) ?_
    exact cont n k f g (nI 0) (nI (0 + tq_pl y j)) z1 z2 f2 g2 ow _ _ _ hR (hP.sub [0, 1, 2, 4, 5, 6, 3] rfl) (hD.sub [0, 1, 2, 4, 5, 6, 3] (by decide) rfl) hS (lv_sub hl [0, 1, 2, 3, 4] rfl)
set_option maxHeartbeats 4000000 in
set_option maxRecDepth 100000 in
/-- grew -/
theorem lq_c11 (p : Program) (l : Launch) (e : Env) (s : State) (m : MethodId) (below : List Frame) (meth : Method) (c : Code) (sb L : Nat) (xs : Nat → Int32) (dC : Nat → ClassId) (dI : Nat → Nat → Nat) (x a b o ca cb ao : Nat) (cA : ClassId) (A : Nat → Prop) (C9 : lq_F p l e s m below meth c sb L xs dC dI x a b o ca cb ao cA A) (ix cells slots : Nat) (hi : ix + 7 ≤ L) (hc1 : cells + 1 ≤ 601024) (hs1 : slots + 6 ≤ 7293034) (cont : lq_N p l e s m below meth c sb L xs dC dI x a b o ca cb ao cA A ix (cells + 1) (slots + 6) 1247) : lq_N p l e s m below meth c sb L xs dC dI x a b o ca cb ao cA A ix cells slots 995 := by
  intro n k f g w1 w4 z1 z2 f2 g2 ow H locs ls hR hP hD hS hl
  obtain ⟨hx, hb, hml, hown, hW, hst, hA, hX, hbl, hbA, hZ, hK, hL⟩ := id C9
  have hn6 := hR.1
  have hk4 := hR.2.1
  obtain ⟨p1, e1⟩ : ∃ z9 : Int32, xs (ix + 1) = z9 := ⟨_, rfl⟩
  obtain ⟨p2, e2⟩ : ∃ z9 : Int32, xs (ix + 2) = z9 := ⟨_, rfl⟩
  obtain ⟨p3, e3⟩ : ∃ z9 : Int32, xs (ix + 3) = z9 := ⟨_, rfl⟩
  obtain ⟨p4, e4⟩ : ∃ z9 : Int32, xs (ix + 4) = z9 := ⟨_, rfl⟩
  obtain ⟨p5, e5⟩ : ∃ z9 : Int32, xs (ix + 5) = z9 := ⟨_, rfl⟩
  obtain ⟨p6, e6⟩ : ∃ z9 : Int32, xs (ix + 6) = z9 := ⟨_, rfl⟩
  by_cases hq : p1 < nI 1 ∨ p2 < p1 ∨ nI 1073741824 < p2
  · refine lv_aload_n hx hb qd_L_law_995 rfl (lv_at hl 2 rfl) ?_
    refine lv_aload_n hx hb qd_L_law_996 rfl (lv_at hl 1 rfl) ?_
    refine lv_iload hx hb qd_L_law_997 (lv_at hl 0 rfl) ?_
    refine lv_iconst (v := nI 1) hx hb qd_L_law_999 (by decide +kernel) ?_
    refine lv_iadd hx hb qd_L_law_1000 ?_
    refine tq_ti (y := nI (ix + 1)) (nI_add _ _) ?_
    refine tq_sld hx hb hX hbl hbA hS (j := ix + 1) (v := p1) (by omega) (by omega) e1 qd_L_law_1001 ?_
    refine lv_aload_n hx hb qd_L_law_1002 rfl (lv_at hl 1 rfl) ?_
    refine lv_iload hx hb qd_L_law_1003 (lv_at hl 0 rfl) ?_
    refine lv_iconst (v := nI 2) hx hb qd_L_law_1005 (by decide +kernel) ?_
    refine lv_iadd hx hb qd_L_law_1006 ?_
    refine tq_ti (y := nI (ix + 2)) (nI_add _ _) ?_
    refine tq_sld hx hb hX hbl hbA hS (j := ix + 2) (v := p2) (by omega) (by omega) e2 qd_L_law_1007 ?_
    refine lv_aload_n hx hb qd_L_law_1008 rfl (lv_at hl 1 rfl) ?_
    refine lv_iload hx hb qd_L_law_1009 (lv_at hl 0 rfl) ?_
    refine lv_iconst (v := nI 3) hx hb qd_L_law_1011 (by decide +kernel) ?_
    refine lv_iadd hx hb qd_L_law_1012 ?_
    refine tq_ti (y := nI (ix + 3)) (nI_add _ _) ?_
    refine tq_sld hx hb hX hbl hbA hS (j := ix + 3) (v := p3) (by omega) (by omega) e3 qd_L_law_1013 ?_
    refine lv_i2l (v := p3.toInt64) hx hb qd_L_law_1014 rfl ?_
    refine lv_bipush (v := nI 32) hx hb qd_L_law_1015 (by decide +kernel) ?_
    refine lv_lshl (v := p3.toInt64 <<< ((nI 32).toInt64 &&& 63)) hx hb qd_L_law_1017 rfl ?_
    refine lv_aload_n hx hb qd_L_law_1018 rfl (lv_at hl 1 rfl) ?_
    refine lv_iload hx hb qd_L_law_1019 (lv_at hl 0 rfl) ?_
    refine lv_iconst (v := nI 4) hx hb qd_L_law_1021 (by decide +kernel) ?_
    refine lv_iadd hx hb qd_L_law_1022 ?_
    refine tq_ti (y := nI (ix + 4)) (nI_add _ _) ?_
    refine tq_sld hx hb hX hbl hbA hS (j := ix + 4) (v := p4) (by omega) (by omega) e4 qd_L_law_1023 ?_
    refine lv_i2l (v := p4.toInt64) hx hb qd_L_law_1024 rfl ?_
    refine lv_ldc2 (v := (4294967295)) hx hb hown (hW _ qm_407) qd_L_law_1025 ?_
    refine lv_land hx hb qd_L_law_1028 ?_
    refine lv_lor hx hb qd_L_law_1029 ?_
    refine tq_tl (y := tq_lg p3 p4) (rfl) ?_
    refine lv_aload_n hx hb qd_L_law_1030 rfl (lv_at hl 1 rfl) ?_
    refine lv_iload hx hb qd_L_law_1031 (lv_at hl 0 rfl) ?_
    refine lv_iconst (v := nI 5) hx hb qd_L_law_1033 (by decide +kernel) ?_
    refine lv_iadd hx hb qd_L_law_1034 ?_
    refine tq_ti (y := nI (ix + 5)) (nI_add _ _) ?_
    refine tq_sld hx hb hX hbl hbA hS (j := ix + 5) (v := p5) (by omega) (by omega) e5 qd_L_law_1035 ?_
    refine lv_i2l (v := p5.toInt64) hx hb qd_L_law_1036 rfl ?_
    refine lv_bipush (v := nI 32) hx hb qd_L_law_1037 (by decide +kernel) ?_
    refine lv_lshl (v := p5.toInt64 <<< ((nI 32).toInt64 &&& 63)) hx hb qd_L_law_1039 rfl ?_
    refine lv_aload_n hx hb qd_L_law_1040 rfl (lv_at hl 1 rfl) ?_
    refine lv_iload hx hb qd_L_law_1041 (lv_at hl 0 rfl) ?_
    refine lv_bipush (v := nI 6) hx hb qd_L_law_1043 (by decide +kernel) ?_
    refine lv_iadd hx hb qd_L_law_1045 ?_
    refine tq_ti (y := nI (ix + 6)) (nI_add _ _) ?_
    refine tq_sld hx hb hX hbl hbA hS (j := ix + 6) (v := p6) (by omega) (by omega) e6 qd_L_law_1046 ?_
    refine lv_i2l (v := p6.toInt64) hx hb qd_L_law_1047 rfl ?_
    refine lv_ldc2 (v := (4294967295)) hx hb hown (hW _ qm_407) qd_L_law_1048 ?_
    refine lv_land hx hb qd_L_law_1051 ?_
    refine lv_lor hx hb qd_L_law_1052 ?_
    refine tq_tl (y := tq_lg p5 p6) (rfl) ?_
    refine vp_callSi (W.runV (As := [.int p1, .int p2, .long (tq_lg p3 p4), .long (tq_lg p5 p6)]) (rest := []) ⟨hx, hb, hml, hown, hW⟩ (ct_X_grew_no l dC dI x a b cA n k f g p1 p2 (tq_lg p3 p4) (tq_lg p5 p6) hq) (cwV 4 hW (tq_gV qm_59 qm_60 qm_61 qm_1 qm_62) rfl rfl rfl (by decide +kernel) ⟨Nat.le_of_ble_eq_true rfl, Nat.le_of_ble_eq_true rfl⟩) ⟨tq_b1, va_recv hK hP (ci := 0) (q0 := 0) rfl rfl, fun U hU hW9 => ⟨rfl, by rw [hU]; exact hP.sub [0, 1, 2] rfl, va_K.moved hW9.alike (hK.sub [0] rfl)⟩⟩ rfl rfl hl.1 rfl (lv_room (Nat.le_of_ble_eq_true rfl)) qd_L_law_1053 ⟨by show _ ≤ 601024; omega, by show _ ≤ 7293034; omega⟩) (fun r9 e9 => ?_)
    subst e9
    refine lv_aload_n hx hb qd_L_law_1056 rfl (lv_at hl 3 rfl) ?_
    refine lv_aload_n hx hb qd_L_law_1057 rfl (lv_at hl 1 rfl) ?_
    refine lv_iload hx hb qd_L_law_1058 (lv_at hl 0 rfl) ?_
    refine lv_iconst (v := nI 1) hx hb qd_L_law_1060 (by decide +kernel) ?_
    refine lv_iadd hx hb qd_L_law_1061 ?_
    refine tq_ti (y := nI (ix + 1)) (nI_add _ _) ?_
    refine tq_sld hx hb hX hbl hbA hS (j := ix + 1) (v := p1) (by omega) (by omega) e1 qd_L_law_1062 ?_
    refine lv_aload_n hx hb qd_L_law_1063 rfl (lv_at hl 1 rfl) ?_
    refine lv_iload hx hb qd_L_law_1064 (lv_at hl 0 rfl) ?_
    refine lv_iconst (v := nI 2) hx hb qd_L_law_1066 (by decide +kernel) ?_
    refine lv_iadd hx hb qd_L_law_1067 ?_
    refine tq_ti (y := nI (ix + 2)) (nI_add _ _) ?_
    refine tq_sld hx hb hX hbl hbA hS (j := ix + 2) (v := p2) (by omega) (by omega) e2 qd_L_law_1068 ?_
    refine lv_aload_n hx hb qd_L_law_1069 rfl (lv_at hl 1 rfl) ?_
    refine lv_iload hx hb qd_L_law_1070 (lv_at hl 0 rfl) ?_
    refine lv_iconst (v := nI 3) hx hb qd_L_law_1072 (by decide +kernel) ?_
    refine lv_iadd hx hb qd_L_law_1073 ?_
    refine tq_ti (y := nI (ix + 3)) (nI_add _ _) ?_
    refine tq_sld hx hb hX hbl hbA hS (j := ix + 3) (v := p3) (by omega) (by omega) e3 qd_L_law_1074 ?_
    refine lv_i2l (v := p3.toInt64) hx hb qd_L_law_1075 rfl ?_
    refine lv_bipush (v := nI 32) hx hb qd_L_law_1076 (by decide +kernel) ?_
    refine lv_lshl (v := p3.toInt64 <<< ((nI 32).toInt64 &&& 63)) hx hb qd_L_law_1078 rfl ?_
    refine lv_aload_n hx hb qd_L_law_1079 rfl (lv_at hl 1 rfl) ?_
    refine lv_iload hx hb qd_L_law_1080 (lv_at hl 0 rfl) ?_
    refine lv_iconst (v := nI 4) hx hb qd_L_law_1082 (by decide +kernel) ?_
    refine lv_iadd hx hb qd_L_law_1083 ?_
    refine tq_ti (y := nI (ix + 4)) (nI_add _ _) ?_
    refine tq_sld hx hb hX hbl hbA hS (j := ix + 4) (v := p4) (by omega) (by omega) e4 qd_L_law_1084 ?_
    refine lv_i2l (v := p4.toInt64) hx hb qd_L_law_1085 rfl ?_
    refine lv_ldc2 (v := (4294967295)) hx hb hown (hW _ qm_407) qd_L_law_1086 ?_
    refine lv_land hx hb qd_L_law_1089 ?_
    refine lv_lor hx hb qd_L_law_1090 ?_
    refine tq_tl (y := tq_lg p3 p4) (rfl) ?_
    refine lv_aload_n hx hb qd_L_law_1091 rfl (lv_at hl 1 rfl) ?_
    refine lv_iload hx hb qd_L_law_1092 (lv_at hl 0 rfl) ?_
    refine lv_iconst (v := nI 5) hx hb qd_L_law_1094 (by decide +kernel) ?_
    refine lv_iadd hx hb qd_L_law_1095 ?_
    refine tq_ti (y := nI (ix + 5)) (nI_add _ _) ?_
    refine tq_sld hx hb hX hbl hbA hS (j := ix + 5) (v := p5) (by omega) (by omega) e5 qd_L_law_1096 ?_
    refine lv_i2l (v := p5.toInt64) hx hb qd_L_law_1097 rfl ?_
    refine lv_bipush (v := nI 32) hx hb qd_L_law_1098 (by decide +kernel) ?_
    refine lv_lshl (v := p5.toInt64 <<< ((nI 32).toInt64 &&& 63)) hx hb qd_L_law_1100 rfl ?_
    refine lv_aload_n hx hb qd_L_law_1101 rfl (lv_at hl 1 rfl) ?_
    refine lv_iload hx hb qd_L_law_1102 (lv_at hl 0 rfl) ?_
    refine lv_bipush (v := nI 6) hx hb qd_L_law_1104 (by decide +kernel) ?_
    refine lv_iadd hx hb qd_L_law_1106 ?_
    refine tq_ti (y := nI (ix + 6)) (nI_add _ _) ?_
    refine tq_sld hx hb hX hbl hbA hS (j := ix + 6) (v := p6) (by omega) (by omega) e6 qd_L_law_1107 ?_
    refine lv_i2l (v := p6.toInt64) hx hb qd_L_law_1108 rfl ?_
    refine lv_ldc2 (v := (4294967295)) hx hb hown (hW _ qm_407) qd_L_law_1109 ?_
    refine lv_land hx hb qd_L_law_1112 ?_
    refine lv_lor hx hb qd_L_law_1113 ?_
    refine tq_tl (y := tq_lg p5 p6) (rfl) ?_
    have hPc := hP.sub (ws' := [(o, .inr (1, [.int w1, .int (nI n), .int (nI k), .int w4, .ref ca, .ref cb, .long z1, .long z2])), (ca, .inl (cA, (600, .inr (.inl f2)))), (cb, .inl (cA, (40, .inr (.inl g2))))]) [3, 4, 5] rfl
    have hDc := hD.sub (ws' := [(o, .inr (1, [.int w1, .int (nI n), .int (nI k), .int w4, .ref ca, .ref cb, .long z1, .long z2])), (ca, .inl (cA, (600, .inr (.inl f2)))), (cb, .inl (cA, (40, .inr (.inl g2))))]) [3, 4, 5] (by decide) rfl
    have hKc := hK.sub (tys' := [(cA, .long)]) [0] rfl
    have hFc := va_free (wc := [(o, .inr (1, [.int w1, .int (nI n), .int (nI k), .int w4, .ref ca, .ref cb, .long z1, .long z2])), (ca, .inl (cA, (600, .inr (.inl f2)))), (cb, .inl (cA, (40, .inr (.inl g2))))]) hD hS hA [3, 4, 5] rfl
    refine va_calli (va_runV (As := [.int p1, .int p2, .long (tq_lg p3 p4), .long (tq_lg p5 p6)]) (rest := [.int (nI 0)]) ⟨hx, hb, hml, hown, hW⟩ (ct_M_grew_no l dC dI o ca cb cA w1 n k w4 z1 z2 f2 g2 H.size p1 p2 (tq_lg p3 p4) (tq_lg p5 p6) hq) (cwV 4 hW (tq_gV qm_391 qm_392 qm_393 qm_2 qm_394) rfl rfl rfl (by decide +kernel) ⟨Nat.le_of_ble_eq_true rfl, Nat.le_of_ble_eq_true rfl⟩) ⟨tq_b2, va_recv hKc hPc (ci := 1) (q0 := 0) rfl rfl, fun U hU hW9 => ⟨rfl, by rw [hU], by rw [hU]; exact hPc, va_K.moved hW9.alike hKc, hDc.weaken (fun _ _ _ _ => trivial)⟩⟩ rfl rfl hl.1 rfl (lv_room (Nat.le_of_ble_eq_true rfl)) qd_L_law_1114 ⟨by show _ ≤ 601024; omega, by show _ ≤ 7293034; omega⟩) hS (fun q _ h => hFc q h) hFc (fun r9 u9 t9 H1 locs ht9 hvm hw hB hz1 hk1 hS => ?_)
    obtain ⟨hP1, hK1, hD1⟩ := hB
    rw [ht9] at hP1
    obtain ⟨hP, hD⟩ := va_join (wr := [(x, .inr (0, [.ref a, .int (nI n), .ref b, .int (nI k)])), (a, .inl (cA, (600, .inr (.inl f)))), (b, .inl (cA, (40, .inr (.inl g)))), (ao, .inl (cA, (1, .inr (.inl ow))))]) (w1 := [(o, .inr (1, [.int (nI 0), .int (nI n), .int (nI k), .int w4, .ref ca, .ref cb, .long z1, .long z2])), (ca, .inl (cA, (600, .inr (.inl f2)))), (cb, .inl (cA, (40, .inr (.inl g2))))]) hP hD [3, 4, 5] [0, 1, 2, 6] rfl rfl (by decide) (by decide) hk1 hFc hP1 hD1
    generalize H1 = H at hP hS ⊢
    have hP : va_P (dC, dI) tq_cl [(x, .inr (0, [.ref a, .int (nI n), .ref b, .int (nI k)])), (a, .inl (cA, (600, .inr (.inl f)))), (b, .inl (cA, (40, .inr (.inl g)))), (ao, .inl (cA, (1, .inr (.inl ow)))), (o, .inr (1, [.int (nI 0), .int (nI n), .int (nI k), .int w4, .ref ca, .ref cb, .long z1, .long z2])), (ca, .inl (cA, (600, .inr (.inl f2)))), (cb, .inl (cA, (40, .inr (.inl g2))))] H := hP
    have hD : va_D A [(x, .inr (0, [.ref a, .int (nI n), .ref b, .int (nI k)])), (a, .inl (cA, (600, .inr (.inl f)))), (b, .inl (cA, (40, .inr (.inl g)))), (ao, .inl (cA, (1, .inr (.inl ow)))), (o, .inr (1, [.int (nI 0), .int (nI n), .int (nI k), .int w4, .ref ca, .ref cb, .long z1, .long z2])), (ca, .inl (cA, (600, .inr (.inl f2)))), (cb, .inl (cA, (40, .inr (.inl g2))))] := hD
    have hw : r9 = nI 0 := hw
    subst hw
    refine lv_icmp_eq (tgt := 1247) hx hb qd_L_law_1117 (by decide) (fun c8 => ?_) (fun c9 => absurd rfl c9)
    refine W.widen (k := cells + 1) (n := slots + 6) (by omega) (by omega) ?_
    exact cont n k f g (nI 0) w4 z1 z2 f2 g2 ow _ _ _ hR (hP.sub [0, 1, 2, 4, 5, 6, 3] rfl) (hD.sub [0, 1, 2, 4, 5, 6, 3] (by decide) rfl) hS (lv_sub hl [0, 1, 2, 3, 4] rfl)
  · obtain ⟨y, j, h0, h1, h2, rfl, rfl⟩ := tq_ok5 (by omega) hq
    refine lv_aload_n hx hb qd_L_law_995 rfl (lv_at hl 2 rfl) ?_
    refine lv_aload_n hx hb qd_L_law_996 rfl (lv_at hl 1 rfl) ?_
    refine lv_iload hx hb qd_L_law_997 (lv_at hl 0 rfl) ?_
    refine lv_iconst (v := nI 1) hx hb qd_L_law_999 (by decide +kernel) ?_
    refine lv_iadd hx hb qd_L_law_1000 ?_
    refine tq_ti (y := nI (ix + 1)) (nI_add _ _) ?_
    refine tq_sld hx hb hX hbl hbA hS (j := ix + 1) (v := (nI y)) (by omega) (by omega) e1 qd_L_law_1001 ?_
    refine lv_aload_n hx hb qd_L_law_1002 rfl (lv_at hl 1 rfl) ?_
    refine lv_iload hx hb qd_L_law_1003 (lv_at hl 0 rfl) ?_
    refine lv_iconst (v := nI 2) hx hb qd_L_law_1005 (by decide +kernel) ?_
    refine lv_iadd hx hb qd_L_law_1006 ?_
    refine tq_ti (y := nI (ix + 2)) (nI_add _ _) ?_
    refine tq_sld hx hb hX hbl hbA hS (j := ix + 2) (v := (nI j)) (by omega) (by omega) e2 qd_L_law_1007 ?_
    refine lv_aload_n hx hb qd_L_law_1008 rfl (lv_at hl 1 rfl) ?_
    refine lv_iload hx hb qd_L_law_1009 (lv_at hl 0 rfl) ?_
    refine lv_iconst (v := nI 3) hx hb qd_L_law_1011 (by decide +kernel) ?_
    refine lv_iadd hx hb qd_L_law_1012 ?_
    refine tq_ti (y := nI (ix + 3)) (nI_add _ _) ?_
    refine tq_sld hx hb hX hbl hbA hS (j := ix + 3) (v := p3) (by omega) (by omega) e3 qd_L_law_1013 ?_
    refine lv_i2l (v := p3.toInt64) hx hb qd_L_law_1014 rfl ?_
    refine lv_bipush (v := nI 32) hx hb qd_L_law_1015 (by decide +kernel) ?_
    refine lv_lshl (v := p3.toInt64 <<< ((nI 32).toInt64 &&& 63)) hx hb qd_L_law_1017 rfl ?_
    refine lv_aload_n hx hb qd_L_law_1018 rfl (lv_at hl 1 rfl) ?_
    refine lv_iload hx hb qd_L_law_1019 (lv_at hl 0 rfl) ?_
    refine lv_iconst (v := nI 4) hx hb qd_L_law_1021 (by decide +kernel) ?_
    refine lv_iadd hx hb qd_L_law_1022 ?_
    refine tq_ti (y := nI (ix + 4)) (nI_add _ _) ?_
    refine tq_sld hx hb hX hbl hbA hS (j := ix + 4) (v := p4) (by omega) (by omega) e4 qd_L_law_1023 ?_
    refine lv_i2l (v := p4.toInt64) hx hb qd_L_law_1024 rfl ?_
    refine lv_ldc2 (v := (4294967295)) hx hb hown (hW _ qm_407) qd_L_law_1025 ?_
    refine lv_land hx hb qd_L_law_1028 ?_
    refine lv_lor hx hb qd_L_law_1029 ?_
    refine tq_tl (y := tq_lg p3 p4) (rfl) ?_
    refine lv_aload_n hx hb qd_L_law_1030 rfl (lv_at hl 1 rfl) ?_
    refine lv_iload hx hb qd_L_law_1031 (lv_at hl 0 rfl) ?_
    refine lv_iconst (v := nI 5) hx hb qd_L_law_1033 (by decide +kernel) ?_
    refine lv_iadd hx hb qd_L_law_1034 ?_
    refine tq_ti (y := nI (ix + 5)) (nI_add _ _) ?_
    refine tq_sld hx hb hX hbl hbA hS (j := ix + 5) (v := p5) (by omega) (by omega) e5 qd_L_law_1035 ?_
    refine lv_i2l (v := p5.toInt64) hx hb qd_L_law_1036 rfl ?_
    refine lv_bipush (v := nI 32) hx hb qd_L_law_1037 (by decide +kernel) ?_
    refine lv_lshl (v := p5.toInt64 <<< ((nI 32).toInt64 &&& 63)) hx hb qd_L_law_1039 rfl ?_
    refine lv_aload_n hx hb qd_L_law_1040 rfl (lv_at hl 1 rfl) ?_
    refine lv_iload hx hb qd_L_law_1041 (lv_at hl 0 rfl) ?_
    refine lv_bipush (v := nI 6) hx hb qd_L_law_1043 (by decide +kernel) ?_
    refine lv_iadd hx hb qd_L_law_1045 ?_
    refine tq_ti (y := nI (ix + 6)) (nI_add _ _) ?_
    refine tq_sld hx hb hX hbl hbA hS (j := ix + 6) (v := p6) (by omega) (by omega) e6 qd_L_law_1046 ?_
    refine lv_i2l (v := p6.toInt64) hx hb qd_L_law_1047 rfl ?_
    refine lv_ldc2 (v := (4294967295)) hx hb hown (hW _ qm_407) qd_L_law_1048 ?_
    refine lv_land hx hb qd_L_law_1051 ?_
    refine lv_lor hx hb qd_L_law_1052 ?_
    refine tq_tl (y := tq_lg p5 p6) (rfl) ?_
    refine vp_callSi (W.runV (As := [.int (nI y), .int (nI j), .long (tq_lg p3 p4), .long (tq_lg p5 p6)]) (rest := []) ⟨hx, hb, hml, hown, hW⟩ (ct_X_grew l dC dI x a b cA n k f g y j (tq_lg p3 p4) (tq_lg p5 p6) h0 h1 (by omega) hk4) (cwV 4 hW (tq_gV qm_59 qm_60 qm_61 qm_1 qm_62) rfl rfl rfl (by decide +kernel) ⟨Nat.le_of_ble_eq_true rfl, Nat.le_of_ble_eq_true rfl⟩) ⟨tq_b1, va_recv hK hP (ci := 0) (q0 := 0) rfl rfl, fun U hU hW9 => ⟨rfl, by rw [hU]; exact hP.sub [0, 1, 2] rfl, va_K.moved hW9.alike (hK.sub [0] rfl)⟩⟩ rfl rfl hl.1 rfl (lv_room (Nat.le_of_ble_eq_true rfl)) qd_L_law_1053 ⟨by show _ ≤ 601024; omega, by show _ ≤ 7293034; omega⟩) (fun r9 e9 => ?_)
    subst e9
    refine lv_aload_n hx hb qd_L_law_1056 rfl (lv_at hl 3 rfl) ?_
    refine lv_aload_n hx hb qd_L_law_1057 rfl (lv_at hl 1 rfl) ?_
    refine lv_iload hx hb qd_L_law_1058 (lv_at hl 0 rfl) ?_
    refine lv_iconst (v := nI 1) hx hb qd_L_law_1060 (by decide +kernel) ?_
    refine lv_iadd hx hb qd_L_law_1061 ?_
    refine tq_ti (y := nI (ix + 1)) (nI_add _ _) ?_
    refine tq_sld hx hb hX hbl hbA hS (j := ix + 1) (v := (nI y)) (by omega) (by omega) e1 qd_L_law_1062 ?_
    refine lv_aload_n hx hb qd_L_law_1063 rfl (lv_at hl 1 rfl) ?_
    refine lv_iload hx hb qd_L_law_1064 (lv_at hl 0 rfl) ?_
    refine lv_iconst (v := nI 2) hx hb qd_L_law_1066 (by decide +kernel) ?_
    refine lv_iadd hx hb qd_L_law_1067 ?_
    refine tq_ti (y := nI (ix + 2)) (nI_add _ _) ?_
    refine tq_sld hx hb hX hbl hbA hS (j := ix + 2) (v := (nI j)) (by omega) (by omega) e2 qd_L_law_1068 ?_
    refine lv_aload_n hx hb qd_L_law_1069 rfl (lv_at hl 1 rfl) ?_
    refine lv_iload hx hb qd_L_law_1070 (lv_at hl 0 rfl) ?_
    refine lv_iconst (v := nI 3) hx hb qd_L_law_1072 (by decide +kernel) ?_
    refine lv_iadd hx hb qd_L_law_1073 ?_
    refine tq_ti (y := nI (ix + 3)) (nI_add _ _) ?_
    refine tq_sld hx hb hX hbl hbA hS (j := ix + 3) (v := p3) (by omega) (by omega) e3 qd_L_law_1074 ?_
    refine lv_i2l (v := p3.toInt64) hx hb qd_L_law_1075 rfl ?_
    refine lv_bipush (v := nI 32) hx hb qd_L_law_1076 (by decide +kernel) ?_
    refine lv_lshl (v := p3.toInt64 <<< ((nI 32).toInt64 &&& 63)) hx hb qd_L_law_1078 rfl ?_
    refine lv_aload_n hx hb qd_L_law_1079 rfl (lv_at hl 1 rfl) ?_
    refine lv_iload hx hb qd_L_law_1080 (lv_at hl 0 rfl) ?_
    refine lv_iconst (v := nI 4) hx hb qd_L_law_1082 (by decide +kernel) ?_
    refine lv_iadd hx hb qd_L_law_1083 ?_
    refine tq_ti (y := nI (ix + 4)) (nI_add _ _) ?_
    refine tq_sld hx hb hX hbl hbA hS (j := ix + 4) (v := p4) (by omega) (by omega) e4 qd_L_law_1084 ?_
    refine lv_i2l (v := p4.toInt64) hx hb qd_L_law_1085 rfl ?_
    refine lv_ldc2 (v := (4294967295)) hx hb hown (hW _ qm_407) qd_L_law_1086 ?_
    refine lv_land hx hb qd_L_law_1089 ?_
    refine lv_lor hx hb qd_L_law_1090 ?_
    refine tq_tl (y := tq_lg p3 p4) (rfl) ?_
    refine lv_aload_n hx hb qd_L_law_1091 rfl (lv_at hl 1 rfl) ?_
    refine lv_iload hx hb qd_L_law_1092 (lv_at hl 0 rfl) ?_
    refine lv_iconst (v := nI 5) hx hb qd_L_law_1094 (by decide +kernel) ?_
    refine lv_iadd hx hb qd_L_law_1095 ?_
    refine tq_ti (y := nI (ix + 5)) (nI_add _ _) ?_
    refine tq_sld hx hb hX hbl hbA hS (j := ix + 5) (v := p5) (by omega) (by omega) e5 qd_L_law_1096 ?_
    refine lv_i2l (v := p5.toInt64) hx hb qd_L_law_1097 rfl ?_
    refine lv_bipush (v := nI 32) hx hb qd_L_law_1098 (by decide +kernel) ?_
    refine lv_lshl (v := p5.toInt64 <<< ((nI 32).toInt64 &&& 63)) hx hb qd_L_law_1100 rfl ?_
    refine lv_aload_n hx hb qd_L_law_1101 rfl (lv_at hl 1 rfl) ?_
    refine lv_iload hx hb qd_L_law_1102 (lv_at hl 0 rfl) ?_
    refine lv_bipush (v := nI 6) hx hb qd_L_law_1104 (by decide +kernel) ?_
    refine lv_iadd hx hb qd_L_law_1106 ?_
    refine tq_ti (y := nI (ix + 6)) (nI_add _ _) ?_
    refine tq_sld hx hb hX hbl hbA hS (j := ix + 6) (v := p6) (by omega) (by omega) e6 qd_L_law_1107 ?_
    refine lv_i2l (v := p6.toInt64) hx hb qd_L_law_1108 rfl ?_
    refine lv_ldc2 (v := (4294967295)) hx hb hown (hW _ qm_407) qd_L_law_1109 ?_
    refine lv_land hx hb qd_L_law_1112 ?_
    refine lv_lor hx hb qd_L_law_1113 ?_
    refine tq_tl (y := tq_lg p5 p6) (rfl) ?_
    have hPc := hP.sub (ws' := [(o, .inr (1, [.int w1, .int (nI n), .int (nI k), .int w4, .ref ca, .ref cb, .long z1, .long z2])), (ca, .inl (cA, (600, .inr (.inl f2)))), (cb, .inl (cA, (40, .inr (.inl g2))))]) [3, 4, 5] rfl
    have hDc := hD.sub (ws' := [(o, .inr (1, [.int w1, .int (nI n), .int (nI k), .int w4, .ref ca, .ref cb, .long z1, .long z2])), (ca, .inl (cA, (600, .inr (.inl f2)))), (cb, .inl (cA, (40, .inr (.inl g2))))]) [3, 4, 5] (by decide) rfl
    have hKc := hK.sub (tys' := [(cA, .long)]) [0] rfl
    have hFc := va_free (wc := [(o, .inr (1, [.int w1, .int (nI n), .int (nI k), .int w4, .ref ca, .ref cb, .long z1, .long z2])), (ca, .inl (cA, (600, .inr (.inl f2)))), (cb, .inl (cA, (40, .inr (.inl g2))))]) hD hS hA [3, 4, 5] rfl
    refine va_calli (va_runV (As := [.int (nI y), .int (nI j), .long (tq_lg p3 p4), .long (tq_lg p5 p6)]) (rest := [.int (tq_b (decide (k = tq_sl true y j) && (decide (tq_od g true y j (tq_lg p3 p4) = (tq_lg p3 p4)) && decide (tq_nw g true y j (tq_lg p3 p4) = (tq_lg p5 p6)))))]) ⟨hx, hb, hml, hown, hW⟩ (ct_M_grew l dC dI o ca cb cA w1 n k w4 z1 z2 f2 g2 H.size y j (tq_lg p3 p4) (tq_lg p5 p6) h0 h1 (by omega) hk4) (cwV 4 hW (tq_gV qm_391 qm_392 qm_393 qm_2 qm_394) rfl rfl rfl (by decide +kernel) ⟨Nat.le_of_ble_eq_true rfl, Nat.le_of_ble_eq_true rfl⟩) ⟨tq_b2, va_recv hKc hPc (ci := 1) (q0 := 0) rfl rfl, fun U hU hW9 => ⟨rfl, by rw [hU], by rw [hU]; exact hPc, va_K.moved hW9.alike hKc, hDc.weaken (fun _ _ _ _ => trivial)⟩⟩ rfl rfl hl.1 rfl (lv_room (Nat.le_of_ble_eq_true rfl)) qd_L_law_1114 ⟨by show _ ≤ 601024; omega, by show _ ≤ 7293034; omega⟩) hS (fun q _ h => hFc q h) hFc (fun r9 u9 t9 H1 locs ht9 hvm hw hB hz1 hk1 hS => ?_)
    obtain ⟨hP1, hK1, hD1⟩ := hB
    rw [ht9] at hP1
    obtain ⟨hP, hD⟩ := va_join (wr := [(x, .inr (0, [.ref a, .int (nI n), .ref b, .int (nI k)])), (a, .inl (cA, (600, .inr (.inl f)))), (b, .inl (cA, (40, .inr (.inl g)))), (ao, .inl (cA, (1, .inr (.inl ow))))]) (w1 := [(o, .inr (1, [.int (nI 0), .int (nI n), .int (nI k), .int (nI (0 + tq_sl true y j)), .ref ca, .ref cb, .long (tq_od (fun q => tq_q g2 k (0 + q)) true y j (tq_lg p3 p4)), .long (tq_nw (fun q => tq_q g2 k (0 + q)) true y j (tq_lg p3 p4))])), (ca, .inl (cA, (600, .inr (.inl f2)))), (cb, .inl (cA, (40, .inr (.inl g2))))]) hP hD [3, 4, 5] [0, 1, 2, 6] rfl rfl (by decide) (by decide) hk1 hFc hP1 hD1
    generalize H1 = H at hP hS ⊢
    have hP : va_P (dC, dI) tq_cl [(x, .inr (0, [.ref a, .int (nI n), .ref b, .int (nI k)])), (a, .inl (cA, (600, .inr (.inl f)))), (b, .inl (cA, (40, .inr (.inl g)))), (ao, .inl (cA, (1, .inr (.inl ow)))), (o, .inr (1, [.int (nI 0), .int (nI n), .int (nI k), .int (nI (0 + tq_sl true y j)), .ref ca, .ref cb, .long (tq_od (fun q => tq_q g2 k (0 + q)) true y j (tq_lg p3 p4)), .long (tq_nw (fun q => tq_q g2 k (0 + q)) true y j (tq_lg p3 p4))])), (ca, .inl (cA, (600, .inr (.inl f2)))), (cb, .inl (cA, (40, .inr (.inl g2))))] H := hP
    have hD : va_D A [(x, .inr (0, [.ref a, .int (nI n), .ref b, .int (nI k)])), (a, .inl (cA, (600, .inr (.inl f)))), (b, .inl (cA, (40, .inr (.inl g)))), (ao, .inl (cA, (1, .inr (.inl ow)))), (o, .inr (1, [.int (nI 0), .int (nI n), .int (nI k), .int (nI (0 + tq_sl true y j)), .ref ca, .ref cb, .long (tq_od (fun q => tq_q g2 k (0 + q)) true y j (tq_lg p3 p4)), .long (tq_nw (fun q => tq_q g2 k (0 + q)) true y j (tq_lg p3 p4))])), (ca, .inl (cA, (600, .inr (.inl f2)))), (cb, .inl (cA, (40, .inr (.inl g2))))] := hD
    have hw : r9 = tq_b (decide (0 + tq_sl true y j = k) && (decide (tq_od (fun q => tq_q g2 k (0 + q)) true y j (tq_lg p3 p4) = (tq_lg p3 p4)) && decide (tq_nw (fun q => tq_q g2 k (0 + q)) true y j (tq_lg p3 p4) = (tq_lg p5 p6)))) := hw
    subst hw
    refine lv_icmp_eq (tgt := 1247) hx hb qd_L_law_1117 (by decide) (fun c8 => ?_) (fun c9 => absurd (congrArg tq_b (hR.grew y j (tq_lg p3 p4) (tq_lg p5 p6))) c9)
    refine W.widen (k := cells + 1) (n := slots + 6) (by omega) (by omega) ?_
    exact cont n k f g (nI 0) (nI (0 + tq_sl true y j)) (tq_od (fun q => tq_q g2 k (0 + q)) true y j (tq_lg p3 p4)) (tq_nw (fun q => tq_q g2 k (0 + q)) true y j (tq_lg p3 p4)) f2 g2 ow _ _ _ hR (hP.sub [0, 1, 2, 4, 5, 6, 3] rfl) (hD.sub [0, 1, 2, 4, 5, 6, 3] (by decide) rfl) hS (lv_sub hl [0, 1, 2, 3, 4] rfl)
set_option maxHeartbeats 4000000 in
set_option maxRecDepth 100000 in
/-- find -/
theorem lq_c12 (p : Program) (l : Launch) (e : Env) (s : State) (m : MethodId) (below : List Frame) (meth : Method) (c : Code) (sb L : Nat) (xs : Nat → Int32) (dC : Nat → ClassId) (dI : Nat → Nat → Nat) (x a b o ca cb ao : Nat) (cA : ClassId) (A : Nat → Prop) (C9 : lq_F p l e s m below meth c sb L xs dC dI x a b o ca cb ao cA A) (ix cells slots : Nat) (hi : ix + 7 ≤ L) (hc1 : cells + 1 ≤ 601024) (hs1 : slots + 6 ≤ 7293034) (cont : lq_N p l e s m below meth c sb L xs dC dI x a b o ca cb ao cA A ix (cells + 1) (slots + 6) 1247) : lq_N p l e s m below meth c sb L xs dC dI x a b o ca cb ao cA A ix cells slots 1122 := by
  intro n k f g w1 w4 z1 z2 f2 g2 ow H locs ls hR hP hD hS hl
  obtain ⟨hx, hb, hml, hown, hW, hst, hA, hX, hbl, hbA, hZ, hK, hL⟩ := id C9
  have hn6 := hR.1
  have hk4 := hR.2.1
  obtain ⟨p1, e1⟩ : ∃ z9 : Int32, xs (ix + 1) = z9 := ⟨_, rfl⟩
  obtain ⟨p2, e2⟩ : ∃ z9 : Int32, xs (ix + 2) = z9 := ⟨_, rfl⟩
  obtain ⟨p3, e3⟩ : ∃ z9 : Int32, xs (ix + 3) = z9 := ⟨_, rfl⟩
  by_cases hq : p1 < 0 ∨ nI n < p1
  · refine lv_aload_n hx hb qd_L_law_1122 rfl (lv_at hl 2 rfl) ?_
    refine lv_aload_n hx hb qd_L_law_1123 rfl (lv_at hl 1 rfl) ?_
    refine lv_iload hx hb qd_L_law_1124 (lv_at hl 0 rfl) ?_
    refine lv_iconst (v := nI 1) hx hb qd_L_law_1126 (by decide +kernel) ?_
    refine lv_iadd hx hb qd_L_law_1127 ?_
    refine tq_ti (y := nI (ix + 1)) (nI_add _ _) ?_
    refine tq_sld hx hb hX hbl hbA hS (j := ix + 1) (v := p1) (by omega) (by omega) e1 qd_L_law_1128 ?_
    refine lv_aload_n hx hb qd_L_law_1129 rfl (lv_at hl 1 rfl) ?_
    refine lv_iload hx hb qd_L_law_1130 (lv_at hl 0 rfl) ?_
    refine lv_iconst (v := nI 2) hx hb qd_L_law_1132 (by decide +kernel) ?_
    refine lv_iadd hx hb qd_L_law_1133 ?_
    refine tq_ti (y := nI (ix + 2)) (nI_add _ _) ?_
    refine tq_sld hx hb hX hbl hbA hS (j := ix + 2) (v := p2) (by omega) (by omega) e2 qd_L_law_1134 ?_
    refine lv_i2l (v := p2.toInt64) hx hb qd_L_law_1135 rfl ?_
    refine lv_bipush (v := nI 32) hx hb qd_L_law_1136 (by decide +kernel) ?_
    refine lv_lshl (v := p2.toInt64 <<< ((nI 32).toInt64 &&& 63)) hx hb qd_L_law_1138 rfl ?_
    refine lv_aload_n hx hb qd_L_law_1139 rfl (lv_at hl 1 rfl) ?_
    refine lv_iload hx hb qd_L_law_1140 (lv_at hl 0 rfl) ?_
    refine lv_iconst (v := nI 3) hx hb qd_L_law_1142 (by decide +kernel) ?_
    refine lv_iadd hx hb qd_L_law_1143 ?_
    refine tq_ti (y := nI (ix + 3)) (nI_add _ _) ?_
    refine tq_sld hx hb hX hbl hbA hS (j := ix + 3) (v := p3) (by omega) (by omega) e3 qd_L_law_1144 ?_
    refine lv_i2l (v := p3.toInt64) hx hb qd_L_law_1145 rfl ?_
    refine lv_ldc2 (v := (4294967295)) hx hb hown (hW _ qm_407) qd_L_law_1146 ?_
    refine lv_land hx hb qd_L_law_1149 ?_
    refine lv_lor hx hb qd_L_law_1150 ?_
    refine tq_tl (y := tq_lg p2 p3) (rfl) ?_
    refine lv_aload_n hx hb qd_L_law_1151 rfl (lv_at hl 4 rfl) ?_
    have hPc := hP.sub (ws' := [(x, .inr (0, [.ref a, .int (nI n), .ref b, .int (nI k)])), (a, .inl (cA, (600, .inr (.inl f)))), (b, .inl (cA, (40, .inr (.inl g)))), (ao, .inl (cA, (1, .inr (.inl ow))))]) [0, 1, 2, 6] rfl
    have hDc := hD.sub (ws' := [(x, .inr (0, [.ref a, .int (nI n), .ref b, .int (nI k)])), (a, .inl (cA, (600, .inr (.inl f)))), (b, .inl (cA, (40, .inr (.inl g)))), (ao, .inl (cA, (1, .inr (.inl ow))))]) [0, 1, 2, 6] (by decide) rfl
    have hKc := hK.sub (tys' := [(cA, .long)]) [0] rfl
    have hFc := va_free (wc := [(x, .inr (0, [.ref a, .int (nI n), .ref b, .int (nI k)])), (a, .inl (cA, (600, .inr (.inl f)))), (b, .inl (cA, (40, .inr (.inl g)))), (ao, .inl (cA, (1, .inr (.inl ow))))]) hD hS hA [0, 1, 2, 6] rfl
    refine va_calli (vx_runSW (As := [.ref x, .int p1, .long (tq_lg p2 p3), .ref ao]) (rest := []) ⟨hx, hb, hml, hown, hW⟩ (cx_L_find l dC dI x a b cA n k f g ao ow H.size hst p1 (tq_lg p2 p3) hq) (vx_cwSW 4 hW (tq_gSa qm_268 qm_269 qm_0 qm_270) rfl rfl rfl (by decide +kernel) ⟨Nat.le_of_ble_eq_true rfl, Nat.le_of_ble_eq_true rfl⟩) ⟨tq_b3, fun U hU hW9 => ⟨rfl, ⟨by rw [hU], by rw [hU]; exact hPc, va_K.moved hW9.alike hKc, hDc.weaken (fun _ _ _ _ => trivial)⟩, hZ.on hS hU hW9 hFc⟩⟩ rfl rfl hl.1 rfl (lv_room (Nat.le_of_ble_eq_true rfl)) qd_L_law_1152 ⟨by show _ ≤ 601024; omega, by show _ ≤ 7293034; omega⟩) hS (fun q _ h => hFc q h) hFc (fun r9 u t9 H1 locs ht9 hvm hw hB hz1 hk1 hS => ?_)
    obtain ⟨hP1, hK1, hD1⟩ := hB
    rw [ht9] at hP1
    obtain ⟨hP, hD⟩ := va_join (wr := [(o, .inr (1, [.int w1, .int (nI n), .int (nI k), .int w4, .ref ca, .ref cb, .long z1, .long z2])), (ca, .inl (cA, (600, .inr (.inl f2)))), (cb, .inl (cA, (40, .inr (.inl g2))))]) (w1 := [(x, .inr (0, [.ref a, .int (nI n), .ref b, .int (nI k)])), (a, .inl (cA, (600, .inr (.inl f)))), (b, .inl (cA, (40, .inr (.inl g)))), (ao, .inl (cA, (1, .inr (.inl ow))))]) hP hD [0, 1, 2, 6] [3, 4, 5] rfl rfl (by decide) (by decide) hk1 hFc hP1 hD1
    generalize H1 = H at hP hS ⊢
    have hP : va_P (dC, dI) tq_cl [(o, .inr (1, [.int w1, .int (nI n), .int (nI k), .int w4, .ref ca, .ref cb, .long z1, .long z2])), (ca, .inl (cA, (600, .inr (.inl f2)))), (cb, .inl (cA, (40, .inr (.inl g2)))), (x, .inr (0, [.ref a, .int (nI n), .ref b, .int (nI k)])), (a, .inl (cA, (600, .inr (.inl f)))), (b, .inl (cA, (40, .inr (.inl g)))), (ao, .inl (cA, (1, .inr (.inl ow))))] H := hP
    have hD : va_D A [(o, .inr (1, [.int w1, .int (nI n), .int (nI k), .int w4, .ref ca, .ref cb, .long z1, .long z2])), (ca, .inl (cA, (600, .inr (.inl f2)))), (cb, .inl (cA, (40, .inr (.inl g2)))), (x, .inr (0, [.ref a, .int (nI n), .ref b, .int (nI k)])), (a, .inl (cA, (600, .inr (.inl f)))), (b, .inl (cA, (40, .inr (.inl g)))), (ao, .inl (cA, (1, .inr (.inl ow))))] := hD
    have hw : r9 = nI 1 := hw
    subst hw
    refine lv_istore (lv' := [(5, .int (nI 1)), (4, .int (nI ix)), (0, .ref sb), (1, .ref x), (2, .ref o), (3, .ref ao)]) hx hb qd_L_law_1155 hl (by decide) rfl (fun ls hl => ?_)
    refine lv_aload_n hx hb qd_L_law_1157 rfl (lv_at hl 4 rfl) ?_
    refine lv_aload_n hx hb qd_L_law_1158 rfl (lv_at hl 2 rfl) ?_
    refine lv_iload hx hb qd_L_law_1159 (lv_at hl 1 rfl) ?_
    refine lv_iconst (v := nI 1) hx hb qd_L_law_1161 (by decide +kernel) ?_
    refine lv_iadd hx hb qd_L_law_1162 ?_
    refine tq_ti (y := nI (ix + 1)) (nI_add _ _) ?_
    refine tq_sld hx hb hX hbl hbA hS (j := ix + 1) (v := p1) (by omega) (by omega) e1 qd_L_law_1163 ?_
    refine lv_aload_n hx hb qd_L_law_1164 rfl (lv_at hl 2 rfl) ?_
    refine lv_iload hx hb qd_L_law_1165 (lv_at hl 1 rfl) ?_
    refine lv_iconst (v := nI 2) hx hb qd_L_law_1167 (by decide +kernel) ?_
    refine lv_iadd hx hb qd_L_law_1168 ?_
    refine tq_ti (y := nI (ix + 2)) (nI_add _ _) ?_
    refine tq_sld hx hb hX hbl hbA hS (j := ix + 2) (v := p2) (by omega) (by omega) e2 qd_L_law_1169 ?_
    refine lv_i2l (v := p2.toInt64) hx hb qd_L_law_1170 rfl ?_
    refine lv_bipush (v := nI 32) hx hb qd_L_law_1171 (by decide +kernel) ?_
    refine lv_lshl (v := p2.toInt64 <<< ((nI 32).toInt64 &&& 63)) hx hb qd_L_law_1173 rfl ?_
    refine lv_aload_n hx hb qd_L_law_1174 rfl (lv_at hl 2 rfl) ?_
    refine lv_iload hx hb qd_L_law_1175 (lv_at hl 1 rfl) ?_
    refine lv_iconst (v := nI 3) hx hb qd_L_law_1177 (by decide +kernel) ?_
    refine lv_iadd hx hb qd_L_law_1178 ?_
    refine tq_ti (y := nI (ix + 3)) (nI_add _ _) ?_
    refine tq_sld hx hb hX hbl hbA hS (j := ix + 3) (v := p3) (by omega) (by omega) e3 qd_L_law_1179 ?_
    refine lv_i2l (v := p3.toInt64) hx hb qd_L_law_1180 rfl ?_
    refine lv_ldc2 (v := (4294967295)) hx hb hown (hW _ qm_407) qd_L_law_1181 ?_
    refine lv_land hx hb qd_L_law_1184 ?_
    refine lv_lor hx hb qd_L_law_1185 ?_
    refine tq_tl (y := tq_lg p2 p3) (rfl) ?_
    have hPc := hP.sub (ws' := [(o, .inr (1, [.int w1, .int (nI n), .int (nI k), .int w4, .ref ca, .ref cb, .long z1, .long z2])), (ca, .inl (cA, (600, .inr (.inl f2)))), (cb, .inl (cA, (40, .inr (.inl g2))))]) [0, 1, 2] rfl
    have hDc := hD.sub (ws' := [(o, .inr (1, [.int w1, .int (nI n), .int (nI k), .int w4, .ref ca, .ref cb, .long z1, .long z2])), (ca, .inl (cA, (600, .inr (.inl f2)))), (cb, .inl (cA, (40, .inr (.inl g2))))]) [0, 1, 2] (by decide) rfl
    have hKc := hK.sub (tys' := [(cA, .long)]) [0] rfl
    have hFc := va_free (wc := [(o, .inr (1, [.int w1, .int (nI n), .int (nI k), .int w4, .ref ca, .ref cb, .long z1, .long z2])), (ca, .inl (cA, (600, .inr (.inl f2)))), (cb, .inl (cA, (40, .inr (.inl g2))))]) hD hS hA [0, 1, 2] rfl
    refine va_calli (va_runV (As := [.int p1, .long (tq_lg p2 p3)]) (rest := []) ⟨hx, hb, hml, hown, hW⟩ (ct_M_find_no l dC dI o ca cb cA w1 n k w4 z1 z2 f2 g2 H.size p1 (tq_lg p2 p3) hq) (cwV 2 hW (tq_gV qm_399 qm_400 qm_401 qm_2 qm_402) rfl rfl rfl (by decide +kernel) ⟨Nat.le_of_ble_eq_true rfl, Nat.le_of_ble_eq_true rfl⟩) ⟨tq_b2, va_recv hKc hPc (ci := 1) (q0 := 0) rfl rfl, fun U hU hW9 => ⟨rfl, by rw [hU], by rw [hU]; exact hPc, va_K.moved hW9.alike hKc, hDc.weaken (fun _ _ _ _ => trivial)⟩⟩ rfl rfl hl.1 rfl (lv_room (Nat.le_of_ble_eq_true rfl)) qd_L_law_1186 ⟨by show _ ≤ 601024; omega, by show _ ≤ 7293034; omega⟩) hS (fun q _ h => hFc q h) hFc (fun r9 u9 t9 H1 locs ht9 hvm hw hB hz1 hk1 hS => ?_)
    obtain ⟨hP1, hK1, hD1⟩ := hB
    rw [ht9] at hP1
    obtain ⟨hP, hD⟩ := va_join (wr := [(x, .inr (0, [.ref a, .int (nI n), .ref b, .int (nI k)])), (a, .inl (cA, (600, .inr (.inl f)))), (b, .inl (cA, (40, .inr (.inl g)))), (ao, .inl (cA, (1, .inr (.inl ow))))]) (w1 := [(o, .inr (1, [.int (nI 1), .int (nI n), .int (nI k), .int w4, .ref ca, .ref cb, .long z1, .long z2])), (ca, .inl (cA, (600, .inr (.inl f2)))), (cb, .inl (cA, (40, .inr (.inl g2))))]) hP hD [0, 1, 2] [3, 4, 5, 6] rfl rfl (by decide) (by decide) hk1 hFc hP1 hD1
    generalize H1 = H at hP hS ⊢
    have hP : va_P (dC, dI) tq_cl [(x, .inr (0, [.ref a, .int (nI n), .ref b, .int (nI k)])), (a, .inl (cA, (600, .inr (.inl f)))), (b, .inl (cA, (40, .inr (.inl g)))), (ao, .inl (cA, (1, .inr (.inl ow)))), (o, .inr (1, [.int (nI 1), .int (nI n), .int (nI k), .int w4, .ref ca, .ref cb, .long z1, .long z2])), (ca, .inl (cA, (600, .inr (.inl f2)))), (cb, .inl (cA, (40, .inr (.inl g2))))] H := hP
    have hD : va_D A [(x, .inr (0, [.ref a, .int (nI n), .ref b, .int (nI k)])), (a, .inl (cA, (600, .inr (.inl f)))), (b, .inl (cA, (40, .inr (.inl g)))), (ao, .inl (cA, (1, .inr (.inl ow)))), (o, .inr (1, [.int (nI 1), .int (nI n), .int (nI k), .int w4, .ref ca, .ref cb, .long z1, .long z2])), (ca, .inl (cA, (600, .inr (.inl f2)))), (cb, .inl (cA, (40, .inr (.inl g2))))] := hD
    have hw : r9 = nI 0 := hw
    subst hw
    refine lv_istore (lv' := [(6, .int (nI 0)), (5, .int (nI 1)), (4, .int (nI ix)), (0, .ref sb), (1, .ref x), (2, .ref o), (3, .ref ao)]) hx hb qd_L_law_1189 hl (by decide) rfl (fun ls hl => ?_)
    refine lv_aload_n hx hb qd_L_law_1191 rfl (lv_at hl 5 rfl) ?_
    refine vp_callSi (W.runV (As := []) (rest := []) ⟨hx, hb, hml, hown, hW⟩ (ct_M_thrown l dC dI o ca cb cA (nI 1) n k w4 z1 z2 f2 g2) (cwV 0 hW (tq_gV qm_306 qm_307 qm_308 qm_2 qm_309) rfl rfl rfl (by decide +kernel) ⟨Nat.le_of_ble_eq_true rfl, Nat.le_of_ble_eq_true rfl⟩) ⟨tq_b1, va_recv hK hP (ci := 1) (q0 := 4) rfl rfl, fun U hU hW9 => ⟨rfl, by rw [hU]; exact hP.sub [4, 5, 6] rfl, va_K.moved hW9.alike (hK.sub [0] rfl)⟩⟩ rfl rfl hl.1 rfl (lv_room (Nat.le_of_ble_eq_true rfl)) qd_L_law_1192 ⟨by show _ ≤ 601024; omega, by show _ ≤ 7293034; omega⟩) (fun r9 e9 => ?_)
    subst e9
    refine lv_iload hx hb qd_L_law_1195 (lv_at hl 1 rfl) ?_
    refine tq_icmp_eq (x := 1) (y := 1) (tgt := 1202) hx hb qd_L_law_1197 (by decide) (by omega) (by omega) (fun c8 => ?_) (fun c9 => by omega)
    refine lv_iload hx hb qd_L_law_1202 (lv_at hl 1 rfl) ?_
    refine tq_if_ne (x := 1) (tgt := 1219) hx hb qd_L_law_1204 (by decide) (by omega) (fun c7 => ?_) (fun c9 => by omega)
    refine lv_goto (tgt := 1247) hx hb qd_L_law_1219 (by decide) ?_
    refine W.widen (k := cells + 1) (n := slots + 6) (by omega) (by omega) ?_
    exact cont n k f g (nI 1) w4 z1 z2 f2 g2 ow _ _ _ hR (hP.sub [0, 1, 2, 4, 5, 6, 3] rfl) (hD.sub [0, 1, 2, 4, 5, 6, 3] (by decide) rfl) hS (lv_sub hl [2, 3, 4, 5, 6] rfl)
  · obtain ⟨j, hj, rfl⟩ := tq_ok1 (by omega) hq
    refine lv_aload_n hx hb qd_L_law_1122 rfl (lv_at hl 2 rfl) ?_
    refine lv_aload_n hx hb qd_L_law_1123 rfl (lv_at hl 1 rfl) ?_
    refine lv_iload hx hb qd_L_law_1124 (lv_at hl 0 rfl) ?_
    refine lv_iconst (v := nI 1) hx hb qd_L_law_1126 (by decide +kernel) ?_
    refine lv_iadd hx hb qd_L_law_1127 ?_
    refine tq_ti (y := nI (ix + 1)) (nI_add _ _) ?_
    refine tq_sld hx hb hX hbl hbA hS (j := ix + 1) (v := (nI j)) (by omega) (by omega) e1 qd_L_law_1128 ?_
    refine lv_aload_n hx hb qd_L_law_1129 rfl (lv_at hl 1 rfl) ?_
    refine lv_iload hx hb qd_L_law_1130 (lv_at hl 0 rfl) ?_
    refine lv_iconst (v := nI 2) hx hb qd_L_law_1132 (by decide +kernel) ?_
    refine lv_iadd hx hb qd_L_law_1133 ?_
    refine tq_ti (y := nI (ix + 2)) (nI_add _ _) ?_
    refine tq_sld hx hb hX hbl hbA hS (j := ix + 2) (v := p2) (by omega) (by omega) e2 qd_L_law_1134 ?_
    refine lv_i2l (v := p2.toInt64) hx hb qd_L_law_1135 rfl ?_
    refine lv_bipush (v := nI 32) hx hb qd_L_law_1136 (by decide +kernel) ?_
    refine lv_lshl (v := p2.toInt64 <<< ((nI 32).toInt64 &&& 63)) hx hb qd_L_law_1138 rfl ?_
    refine lv_aload_n hx hb qd_L_law_1139 rfl (lv_at hl 1 rfl) ?_
    refine lv_iload hx hb qd_L_law_1140 (lv_at hl 0 rfl) ?_
    refine lv_iconst (v := nI 3) hx hb qd_L_law_1142 (by decide +kernel) ?_
    refine lv_iadd hx hb qd_L_law_1143 ?_
    refine tq_ti (y := nI (ix + 3)) (nI_add _ _) ?_
    refine tq_sld hx hb hX hbl hbA hS (j := ix + 3) (v := p3) (by omega) (by omega) e3 qd_L_law_1144 ?_
    refine lv_i2l (v := p3.toInt64) hx hb qd_L_law_1145 rfl ?_
    refine lv_ldc2 (v := (4294967295)) hx hb hown (hW _ qm_407) qd_L_law_1146 ?_
    refine lv_land hx hb qd_L_law_1149 ?_
    refine lv_lor hx hb qd_L_law_1150 ?_
    refine tq_tl (y := tq_lg p2 p3) (rfl) ?_
    refine lv_aload_n hx hb qd_L_law_1151 rfl (lv_at hl 4 rfl) ?_
    have hPc := hP.sub (ws' := [(x, .inr (0, [.ref a, .int (nI n), .ref b, .int (nI k)])), (a, .inl (cA, (600, .inr (.inl f)))), (b, .inl (cA, (40, .inr (.inl g)))), (ao, .inl (cA, (1, .inr (.inl ow))))]) [0, 1, 2, 6] rfl
    have hDc := hD.sub (ws' := [(x, .inr (0, [.ref a, .int (nI n), .ref b, .int (nI k)])), (a, .inl (cA, (600, .inr (.inl f)))), (b, .inl (cA, (40, .inr (.inl g)))), (ao, .inl (cA, (1, .inr (.inl ow))))]) [0, 1, 2, 6] (by decide) rfl
    have hKc := hK.sub (tys' := [(cA, .long)]) [0] rfl
    have hFc := va_free (wc := [(x, .inr (0, [.ref a, .int (nI n), .ref b, .int (nI k)])), (a, .inl (cA, (600, .inr (.inl f)))), (b, .inl (cA, (40, .inr (.inl g)))), (ao, .inl (cA, (1, .inr (.inl ow))))]) hD hS hA [0, 1, 2, 6] rfl
    refine va_calli (vx_runSW (As := [.ref x, .int (nI j), .long (tq_lg p2 p3), .ref ao]) (rest := []) ⟨hx, hb, hml, hown, hW⟩ (ct_L_find l dC dI x a b cA n k f g ao ow H.size j (tq_lg p2 p3) hj hn6) (vx_cwSW 4 hW (tq_gSa qm_268 qm_269 qm_0 qm_270) rfl rfl rfl (by decide +kernel) ⟨Nat.le_of_ble_eq_true rfl, Nat.le_of_ble_eq_true rfl⟩) ⟨tq_b2, fun U hU hW9 => ⟨rfl, by rw [hU], by rw [hU]; exact hPc, va_K.moved hW9.alike hKc, hDc.weaken (fun _ _ _ _ => trivial)⟩⟩ rfl rfl hl.1 rfl (lv_room (Nat.le_of_ble_eq_true rfl)) qd_L_law_1152 ⟨by show _ ≤ 601024; omega, by show _ ≤ 7293034; omega⟩) hS (fun q _ h => hFc q h) hFc (fun r9 u t9 H1 locs ht9 hvm hw hB hz1 hk1 hS => ?_)
    obtain ⟨hP1, hK1, hD1⟩ := hB
    rw [ht9] at hP1
    obtain ⟨hP, hD⟩ := va_join (wr := [(o, .inr (1, [.int w1, .int (nI n), .int (nI k), .int w4, .ref ca, .ref cb, .long z1, .long z2])), (ca, .inl (cA, (600, .inr (.inl f2)))), (cb, .inl (cA, (40, .inr (.inl g2))))]) (w1 := [(x, .inr (0, [.ref a, .int (nI n), .ref b, .int (nI k)])), (a, .inl (cA, (600, .inr (.inl f)))), (b, .inl (cA, (40, .inr (.inl g)))), (ao, .inl (cA, (1, .inr (.inl (vp_updL ow 0 ((tq_fd f (tq_leaf (tq_lg p2 p3)) j 0).toInt64))))))]) hP hD [0, 1, 2, 6] [3, 4, 5] rfl rfl (by decide) (by decide) hk1 hFc hP1 hD1
    generalize H1 = H at hP hS ⊢
    have hP : va_P (dC, dI) tq_cl [(o, .inr (1, [.int w1, .int (nI n), .int (nI k), .int w4, .ref ca, .ref cb, .long z1, .long z2])), (ca, .inl (cA, (600, .inr (.inl f2)))), (cb, .inl (cA, (40, .inr (.inl g2)))), (x, .inr (0, [.ref a, .int (nI n), .ref b, .int (nI k)])), (a, .inl (cA, (600, .inr (.inl f)))), (b, .inl (cA, (40, .inr (.inl g)))), (ao, .inl (cA, (1, .inr (.inl (vp_updL ow 0 ((tq_fd f (tq_leaf (tq_lg p2 p3)) j 0).toInt64))))))] H := hP
    have hD : va_D A [(o, .inr (1, [.int w1, .int (nI n), .int (nI k), .int w4, .ref ca, .ref cb, .long z1, .long z2])), (ca, .inl (cA, (600, .inr (.inl f2)))), (cb, .inl (cA, (40, .inr (.inl g2)))), (x, .inr (0, [.ref a, .int (nI n), .ref b, .int (nI k)])), (a, .inl (cA, (600, .inr (.inl f)))), (b, .inl (cA, (40, .inr (.inl g)))), (ao, .inl (cA, (1, .inr (.inl (vp_updL ow 0 ((tq_fd f (tq_leaf (tq_lg p2 p3)) j 0).toInt64))))))] := hD
    have hw : r9 = nI 0 := hw
    subst hw
    refine lv_istore (lv' := [(5, .int (nI 0)), (4, .int (nI ix)), (0, .ref sb), (1, .ref x), (2, .ref o), (3, .ref ao)]) hx hb qd_L_law_1155 hl (by decide) rfl (fun ls hl => ?_)
    refine lv_aload_n hx hb qd_L_law_1157 rfl (lv_at hl 4 rfl) ?_
    refine lv_aload_n hx hb qd_L_law_1158 rfl (lv_at hl 2 rfl) ?_
    refine lv_iload hx hb qd_L_law_1159 (lv_at hl 1 rfl) ?_
    refine lv_iconst (v := nI 1) hx hb qd_L_law_1161 (by decide +kernel) ?_
    refine lv_iadd hx hb qd_L_law_1162 ?_
    refine tq_ti (y := nI (ix + 1)) (nI_add _ _) ?_
    refine tq_sld hx hb hX hbl hbA hS (j := ix + 1) (v := (nI j)) (by omega) (by omega) e1 qd_L_law_1163 ?_
    refine lv_aload_n hx hb qd_L_law_1164 rfl (lv_at hl 2 rfl) ?_
    refine lv_iload hx hb qd_L_law_1165 (lv_at hl 1 rfl) ?_
    refine lv_iconst (v := nI 2) hx hb qd_L_law_1167 (by decide +kernel) ?_
    refine lv_iadd hx hb qd_L_law_1168 ?_
    refine tq_ti (y := nI (ix + 2)) (nI_add _ _) ?_
    refine tq_sld hx hb hX hbl hbA hS (j := ix + 2) (v := p2) (by omega) (by omega) e2 qd_L_law_1169 ?_
    refine lv_i2l (v := p2.toInt64) hx hb qd_L_law_1170 rfl ?_
    refine lv_bipush (v := nI 32) hx hb qd_L_law_1171 (by decide +kernel) ?_
    refine lv_lshl (v := p2.toInt64 <<< ((nI 32).toInt64 &&& 63)) hx hb qd_L_law_1173 rfl ?_
    refine lv_aload_n hx hb qd_L_law_1174 rfl (lv_at hl 2 rfl) ?_
    refine lv_iload hx hb qd_L_law_1175 (lv_at hl 1 rfl) ?_
    refine lv_iconst (v := nI 3) hx hb qd_L_law_1177 (by decide +kernel) ?_
    refine lv_iadd hx hb qd_L_law_1178 ?_
    refine tq_ti (y := nI (ix + 3)) (nI_add _ _) ?_
    refine tq_sld hx hb hX hbl hbA hS (j := ix + 3) (v := p3) (by omega) (by omega) e3 qd_L_law_1179 ?_
    refine lv_i2l (v := p3.toInt64) hx hb qd_L_law_1180 rfl ?_
    refine lv_ldc2 (v := (4294967295)) hx hb hown (hW _ qm_407) qd_L_law_1181 ?_
    refine lv_land hx hb qd_L_law_1184 ?_
    refine lv_lor hx hb qd_L_law_1185 ?_
    refine tq_tl (y := tq_lg p2 p3) (rfl) ?_
    have hPc := hP.sub (ws' := [(o, .inr (1, [.int w1, .int (nI n), .int (nI k), .int w4, .ref ca, .ref cb, .long z1, .long z2])), (ca, .inl (cA, (600, .inr (.inl f2)))), (cb, .inl (cA, (40, .inr (.inl g2))))]) [0, 1, 2] rfl
    have hDc := hD.sub (ws' := [(o, .inr (1, [.int w1, .int (nI n), .int (nI k), .int w4, .ref ca, .ref cb, .long z1, .long z2])), (ca, .inl (cA, (600, .inr (.inl f2)))), (cb, .inl (cA, (40, .inr (.inl g2))))]) [0, 1, 2] (by decide) rfl
    have hKc := hK.sub (tys' := [(cA, .long)]) [0] rfl
    have hFc := va_free (wc := [(o, .inr (1, [.int w1, .int (nI n), .int (nI k), .int w4, .ref ca, .ref cb, .long z1, .long z2])), (ca, .inl (cA, (600, .inr (.inl f2)))), (cb, .inl (cA, (40, .inr (.inl g2))))]) hD hS hA [0, 1, 2] rfl
    refine va_calli (va_runV (As := [.int (nI j), .long (tq_lg p2 p3)]) (rest := []) ⟨hx, hb, hml, hown, hW⟩ (ct_M_find l dC dI o ca cb cA w1 n k w4 z1 z2 f2 g2 H.size j (tq_lg p2 p3) hj hn6) (cwV 2 hW (tq_gV qm_399 qm_400 qm_401 qm_2 qm_402) rfl rfl rfl (by decide +kernel) ⟨Nat.le_of_ble_eq_true rfl, Nat.le_of_ble_eq_true rfl⟩) ⟨tq_b2, va_recv hKc hPc (ci := 1) (q0 := 0) rfl rfl, fun U hU hW9 => ⟨rfl, by rw [hU], by rw [hU]; exact hPc, va_K.moved hW9.alike hKc, hDc.weaken (fun _ _ _ _ => trivial)⟩⟩ rfl rfl hl.1 rfl (lv_room (Nat.le_of_ble_eq_true rfl)) qd_L_law_1186 ⟨by show _ ≤ 601024; omega, by show _ ≤ 7293034; omega⟩) hS (fun q _ h => hFc q h) hFc (fun r9 u9 t9 H1 locs ht9 hvm hw hB hz1 hk1 hS => ?_)
    obtain ⟨hP1, hK1, hD1⟩ := hB
    rw [ht9] at hP1
    obtain ⟨hP, hD⟩ := va_join (wr := [(x, .inr (0, [.ref a, .int (nI n), .ref b, .int (nI k)])), (a, .inl (cA, (600, .inr (.inl f)))), (b, .inl (cA, (40, .inr (.inl g)))), (ao, .inl (cA, (1, .inr (.inl (vp_updL ow 0 ((tq_fd f (tq_leaf (tq_lg p2 p3)) j 0).toInt64))))))]) (w1 := [(o, .inr (1, [.int (nI 0), .int (nI n), .int (nI k), .int w4, .ref ca, .ref cb, .long z1, .long z2])), (ca, .inl (cA, (600, .inr (.inl f2)))), (cb, .inl (cA, (40, .inr (.inl g2))))]) hP hD [0, 1, 2] [3, 4, 5, 6] rfl rfl (by decide) (by decide) hk1 hFc hP1 hD1
    generalize H1 = H at hP hS ⊢
    have hP : va_P (dC, dI) tq_cl [(x, .inr (0, [.ref a, .int (nI n), .ref b, .int (nI k)])), (a, .inl (cA, (600, .inr (.inl f)))), (b, .inl (cA, (40, .inr (.inl g)))), (ao, .inl (cA, (1, .inr (.inl (vp_updL ow 0 ((tq_fd f (tq_leaf (tq_lg p2 p3)) j 0).toInt64)))))), (o, .inr (1, [.int (nI 0), .int (nI n), .int (nI k), .int w4, .ref ca, .ref cb, .long z1, .long z2])), (ca, .inl (cA, (600, .inr (.inl f2)))), (cb, .inl (cA, (40, .inr (.inl g2))))] H := hP
    have hD : va_D A [(x, .inr (0, [.ref a, .int (nI n), .ref b, .int (nI k)])), (a, .inl (cA, (600, .inr (.inl f)))), (b, .inl (cA, (40, .inr (.inl g)))), (ao, .inl (cA, (1, .inr (.inl (vp_updL ow 0 ((tq_fd f (tq_leaf (tq_lg p2 p3)) j 0).toInt64)))))), (o, .inr (1, [.int (nI 0), .int (nI n), .int (nI k), .int w4, .ref ca, .ref cb, .long z1, .long z2])), (ca, .inl (cA, (600, .inr (.inl f2)))), (cb, .inl (cA, (40, .inr (.inl g2))))] := hD
    have hw : r9 = tq_fd (fun j => tq_leaf (f2 j)) (tq_leaf (tq_lg p2 p3)) j 0 := hw
    subst hw
    refine lv_istore (lv' := [(6, .int (tq_fd (fun j => tq_leaf (f2 j)) (tq_leaf (tq_lg p2 p3)) j 0)), (5, .int (nI 0)), (4, .int (nI ix)), (0, .ref sb), (1, .ref x), (2, .ref o), (3, .ref ao)]) hx hb qd_L_law_1189 hl (by decide) rfl (fun ls hl => ?_)
    refine lv_aload_n hx hb qd_L_law_1191 rfl (lv_at hl 5 rfl) ?_
    refine vp_callSi (W.runV (As := []) (rest := []) ⟨hx, hb, hml, hown, hW⟩ (ct_M_thrown l dC dI o ca cb cA (nI 0) n k w4 z1 z2 f2 g2) (cwV 0 hW (tq_gV qm_306 qm_307 qm_308 qm_2 qm_309) rfl rfl rfl (by decide +kernel) ⟨Nat.le_of_ble_eq_true rfl, Nat.le_of_ble_eq_true rfl⟩) ⟨tq_b1, va_recv hK hP (ci := 1) (q0 := 4) rfl rfl, fun U hU hW9 => ⟨rfl, by rw [hU]; exact hP.sub [4, 5, 6] rfl, va_K.moved hW9.alike (hK.sub [0] rfl)⟩⟩ rfl rfl hl.1 rfl (lv_room (Nat.le_of_ble_eq_true rfl)) qd_L_law_1192 ⟨by show _ ≤ 601024; omega, by show _ ≤ 7293034; omega⟩) (fun r9 e9 => ?_)
    subst e9
    refine lv_iload hx hb qd_L_law_1195 (lv_at hl 1 rfl) ?_
    refine tq_icmp_eq (x := 0) (y := 0) (tgt := 1202) hx hb qd_L_law_1197 (by decide) (by omega) (by omega) (fun c8 => ?_) (fun c9 => by omega)
    refine lv_iload hx hb qd_L_law_1202 (lv_at hl 1 rfl) ?_
    refine tq_if_ne (x := 0) (tgt := 1219) hx hb qd_L_law_1204 (by decide) (by omega) (fun c9 => by omega) (fun c7 => ?_)
    refine lv_aload_n hx hb qd_L_law_1207 rfl (lv_at hl 6 rfl) ?_
    refine lv_iconst (v := nI 0) hx hb qd_L_law_1208 (by decide +kernel) ?_
    refine tq_lald hx hb hK hP 3 0 rfl rfl (j := 0) (by omega) (by decide) qd_L_law_1209 ?_
    refine tq_tl (y := (tq_fd f (tq_leaf (tq_lg p2 p3)) j 0).toInt64) (pk_uLs) ?_
    refine lv_iload hx hb qd_L_law_1210 (lv_at hl 0 rfl) ?_
    refine lv_i2l (v := (tq_fd (fun j => tq_leaf (f2 j)) (tq_leaf (tq_lg p2 p3)) j 0).toInt64) hx hb qd_L_law_1212 rfl ?_
    refine tq_lc_eq (tgt := 1219) hx hb qd_L_law_1213 qd_L_law_1214 (by decide) (fun c6 => ?_) (fun c9 => absurd (congrArg Int32.toInt64 (hR.find hj (tq_lg p2 p3))) c9)
    refine lv_goto (tgt := 1247) hx hb qd_L_law_1219 (by decide) ?_
    refine W.widen (k := cells + 1) (n := slots + 6) (by omega) (by omega) ?_
    exact cont n k f g (nI 0) w4 z1 z2 f2 g2 (vp_updL ow 0 ((tq_fd f (tq_leaf (tq_lg p2 p3)) j 0).toInt64)) _ _ _ hR (hP.sub [0, 1, 2, 4, 5, 6, 3] rfl) (hD.sub [0, 1, 2, 4, 5, 6, 3] (by decide) rfl) hS (lv_sub hl [2, 3, 4, 5, 6] rfl)
set_option maxHeartbeats 4000000 in
set_option maxRecDepth 100000 in
/-- count -/
theorem lq_c13 (p : Program) (l : Launch) (e : Env) (s : State) (m : MethodId) (below : List Frame) (meth : Method) (c : Code) (sb L : Nat) (xs : Nat → Int32) (dC : Nat → ClassId) (dI : Nat → Nat → Nat) (x a b o ca cb ao : Nat) (cA : ClassId) (A : Nat → Prop) (C9 : lq_F p l e s m below meth c sb L xs dC dI x a b o ca cb ao cA A) (ix cells slots : Nat) (hi : ix + 7 ≤ L) (hc1 : cells + 1 ≤ 601024) (hs1 : slots + 6 ≤ 7293034) (cont : lq_N p l e s m below meth c sb L xs dC dI x a b o ca cb ao cA A ix (cells + 1) (slots + 6) 1247) : lq_N p l e s m below meth c sb L xs dC dI x a b o ca cb ao cA A ix cells slots 1222 := by
  intro n k f g w1 w4 z1 z2 f2 g2 ow H locs ls hR hP hD hS hl
  obtain ⟨hx, hb, hml, hown, hW, hst, hA, hX, hbl, hbA, hZ, hK, hL⟩ := id C9
  have hn6 := hR.1
  have hk4 := hR.2.1
  obtain ⟨p1, e1⟩ : ∃ z9 : Int32, xs (ix + 1) = z9 := ⟨_, rfl⟩
  refine lv_aload_n hx hb qd_L_law_1222 rfl (lv_at hl 2 rfl) ?_
  refine lv_aload_n hx hb qd_L_law_1223 rfl (lv_at hl 1 rfl) ?_
  refine lv_iload hx hb qd_L_law_1224 (lv_at hl 0 rfl) ?_
  refine lv_iconst (v := nI 1) hx hb qd_L_law_1226 (by decide +kernel) ?_
  refine lv_iadd hx hb qd_L_law_1227 ?_
  refine tq_ti (y := nI (ix + 1)) (nI_add _ _) ?_
  refine tq_sld hx hb hX hbl hbA hS (j := ix + 1) (v := p1) (by omega) (by omega) e1 qd_L_law_1228 ?_
  refine vp_callSi (W.runV (As := [.int p1]) (rest := []) ⟨hx, hb, hml, hown, hW⟩ (ct_X_count l dC dI x a b cA n k f g p1 hn6) (cwV 1 hW (tq_gV qm_72 qm_73 qm_74 qm_1 qm_75) rfl rfl rfl (by decide +kernel) ⟨Nat.le_of_ble_eq_true rfl, Nat.le_of_ble_eq_true rfl⟩) ⟨tq_b1, va_recv hK hP (ci := 0) (q0 := 0) rfl rfl, fun U hU hW9 => ⟨rfl, by rw [hU]; exact hP.sub [0, 1, 2] rfl, va_K.moved hW9.alike (hK.sub [0] rfl)⟩⟩ rfl rfl hl.1 rfl (lv_room (Nat.le_of_ble_eq_true rfl)) qd_L_law_1229 ⟨by show _ ≤ 601024; omega, by show _ ≤ 7293034; omega⟩) (fun r9 e9 => ?_)
  subst e9
  refine lv_aload_n hx hb qd_L_law_1232 rfl (lv_at hl 3 rfl) ?_
  refine lv_aload_n hx hb qd_L_law_1233 rfl (lv_at hl 1 rfl) ?_
  refine lv_iload hx hb qd_L_law_1234 (lv_at hl 0 rfl) ?_
  refine lv_iconst (v := nI 1) hx hb qd_L_law_1236 (by decide +kernel) ?_
  refine lv_iadd hx hb qd_L_law_1237 ?_
  refine tq_ti (y := nI (ix + 1)) (nI_add _ _) ?_
  refine tq_sld hx hb hX hbl hbA hS (j := ix + 1) (v := p1) (by omega) (by omega) e1 qd_L_law_1238 ?_
  have hPc := hP.sub (ws' := [(o, .inr (1, [.int w1, .int (nI n), .int (nI k), .int w4, .ref ca, .ref cb, .long z1, .long z2])), (ca, .inl (cA, (600, .inr (.inl f2)))), (cb, .inl (cA, (40, .inr (.inl g2))))]) [3, 4, 5] rfl
  have hDc := hD.sub (ws' := [(o, .inr (1, [.int w1, .int (nI n), .int (nI k), .int w4, .ref ca, .ref cb, .long z1, .long z2])), (ca, .inl (cA, (600, .inr (.inl f2)))), (cb, .inl (cA, (40, .inr (.inl g2))))]) [3, 4, 5] (by decide) rfl
  have hKc := hK.sub (tys' := [(cA, .long)]) [0] rfl
  have hFc := va_free (wc := [(o, .inr (1, [.int w1, .int (nI n), .int (nI k), .int w4, .ref ca, .ref cb, .long z1, .long z2])), (ca, .inl (cA, (600, .inr (.inl f2)))), (cb, .inl (cA, (40, .inr (.inl g2))))]) hD hS hA [3, 4, 5] rfl
  refine va_calli (va_runV (As := [.int p1]) (rest := [.int (tq_ct n k p1)]) ⟨hx, hb, hml, hown, hW⟩ (ct_M_count l dC dI o ca cb cA w1 n k w4 z1 z2 f2 g2 H.size p1 hn6) (cwV 1 hW (tq_gV qm_403 qm_404 qm_405 qm_2 qm_406) rfl rfl rfl (by decide +kernel) ⟨Nat.le_of_ble_eq_true rfl, Nat.le_of_ble_eq_true rfl⟩) ⟨tq_b2, va_recv hKc hPc (ci := 1) (q0 := 0) rfl rfl, fun U hU hW9 => ⟨rfl, by rw [hU], by rw [hU]; exact hPc, va_K.moved hW9.alike hKc, hDc.weaken (fun _ _ _ _ => trivial)⟩⟩ rfl rfl hl.1 rfl (lv_room (Nat.le_of_ble_eq_true rfl)) qd_L_law_1239 ⟨by show _ ≤ 601024; omega, by show _ ≤ 7293034; omega⟩) hS (fun q _ h => hFc q h) hFc (fun r9 u9 t9 H1 locs ht9 hvm hw hB hz1 hk1 hS => ?_)
  obtain ⟨hP1, hK1, hD1⟩ := hB
  rw [ht9] at hP1
  obtain ⟨hP, hD⟩ := va_join (wr := [(x, .inr (0, [.ref a, .int (nI n), .ref b, .int (nI k)])), (a, .inl (cA, (600, .inr (.inl f)))), (b, .inl (cA, (40, .inr (.inl g)))), (ao, .inl (cA, (1, .inr (.inl ow))))]) (w1 := [(o, .inr (1, [.int (nI 0), .int (nI n), .int (nI k), .int w4, .ref ca, .ref cb, .long z1, .long z2])), (ca, .inl (cA, (600, .inr (.inl f2)))), (cb, .inl (cA, (40, .inr (.inl g2))))]) hP hD [3, 4, 5] [0, 1, 2, 6] rfl rfl (by decide) (by decide) hk1 hFc hP1 hD1
  generalize H1 = H at hP hS ⊢
  have hP : va_P (dC, dI) tq_cl [(x, .inr (0, [.ref a, .int (nI n), .ref b, .int (nI k)])), (a, .inl (cA, (600, .inr (.inl f)))), (b, .inl (cA, (40, .inr (.inl g)))), (ao, .inl (cA, (1, .inr (.inl ow)))), (o, .inr (1, [.int (nI 0), .int (nI n), .int (nI k), .int w4, .ref ca, .ref cb, .long z1, .long z2])), (ca, .inl (cA, (600, .inr (.inl f2)))), (cb, .inl (cA, (40, .inr (.inl g2))))] H := hP
  have hD : va_D A [(x, .inr (0, [.ref a, .int (nI n), .ref b, .int (nI k)])), (a, .inl (cA, (600, .inr (.inl f)))), (b, .inl (cA, (40, .inr (.inl g)))), (ao, .inl (cA, (1, .inr (.inl ow)))), (o, .inr (1, [.int (nI 0), .int (nI n), .int (nI k), .int w4, .ref ca, .ref cb, .long z1, .long z2])), (ca, .inl (cA, (600, .inr (.inl f2)))), (cb, .inl (cA, (40, .inr (.inl g2))))] := hD
  have hw : r9 = tq_ct n k p1 := hw
  subst hw
  refine lv_icmp_eq (tgt := 1247) hx hb qd_L_law_1242 (by decide) (fun c8 => ?_) (fun c9 => absurd rfl c9)
  refine W.widen (k := cells + 1) (n := slots + 6) (by omega) (by omega) ?_
  exact cont n k f g (nI 0) w4 z1 z2 f2 g2 ow _ _ _ hR (hP.sub [0, 1, 2, 4, 5, 6, 3] rfl) (hD.sub [0, 1, 2, 4, 5, 6, 3] (by decide) rfl) hS (lv_sub hl [0, 1, 2, 3, 4] rfl)
