theorem cC_giveAll (d : Nat) {E : zv_E} {sh : zv_S} {I : zv_I} {J : zv_J} {R : zv_R} {F r nm nc nl : Nat} {a : zv_I} (hP : iP r a nm nc nl) (ht : rm_gvt r F a = true) (RL : cr_R sh I J R a nm nc nl) (FR : cr_F sh nm nc nl) : zv_V E mX7_giveAll (d + 5) (3 * (rm_NL (rm_gvs r F a 0).1 - nl)) (18 * (rm_NL (rm_gvs r F a 0).1 - nl)) 0 [.ref 40, .int (nI r)] [] sh I J R (cr_Q (nI (rm_gvs r F a 0).2) (rm_gvs r F a 0).1 nm nc (rm_NL (rm_gvs r F a 0).1) sh I R) := by
  have hr := hP.2.1
  have W := (xR_B RL).1
  have b5 := (xR_B RL).2.2.1
  refine zv_aload_n dX7_giveAll_0 rfl rfl ?_
  refine zv_getr 6 0 (u := 41) dX7_giveAll_1 flX7_11 (wW0_s40 W.1) rfl (wW0_r0 W.1) ?_
  refine zv_iload_n dX7_giveAll_4 rfl rfl ?_
  refine zv_aald (j := r) (o := some (100 + 20 * r)) dX7_giveAll_5 (wW0_s41 W.1) (by decide) (by decide) (rfl) (show r < 8 from by omega) (by decide) ((W.2.1 r hr).1) ?_
  show zv_V _ _ _ _ _ 6 [.ref 40, .int (nI (r))] [.ref (100 + 20 * r)] _ _ _ _ _
  refine zv_astore_n (lv' := [.ref 40, .int (nI (r)), .ref (100 + 20 * r)]) dX7_giveAll_6 rfl (by decide) rfl ?_
  refine zv_iconst (v := nI (0)) dX7_giveAll_7 (by decide) ?_
  refine zv_istore_n (lv' := [.ref 40, .int (nI (r)), .ref (100 + 20 * r), .int (nI (0))]) dX7_giveAll_8 rfl (by decide) rfl ?_
  refine zv_iconst (v := nI (0)) dX7_giveAll_9 (by decide) ?_
  refine zv_istore (lv' := [.ref 40, .int (nI (r)), .ref (100 + 20 * r), .int (nI (0)), .int (nI (0))]) dX7_giveAll_10 (by decide) rfl ?_
  obtain ⟨n, h, g1, g2⟩ := xM_h (xR_M RL r hr)
  exact cC_giveAll_l d F a nl sh I J R 0 hP ht RL FR (Nat.zero_le _) (fun t _ => ⟨rfl, rfl, rfl⟩) n h g1 g2 n 0 (by omega) (fun i hi => absurd hi (by omega)) []
theorem cC_bring (d : Nat) {E : zv_E} {sh : zv_S} {I : zv_I} {J : zv_J} {R : zv_R} {F m l nm nc nl : Nat} {a : zv_I} (hQ : iQ a nm nc nl) (hm : m < nm) (hl : l < nl) (hs : a 20 (200 * m + l) = nI 1) (ht : rm_gvt m F (rm_hld a m l) = true) (RL : cr_R sh I J R a nm nc nl) (FR : cr_F sh nm nc nl) : zv_V E mX7_bring (d + 6) (3 * (rm_NL (rm_gvs m F (rm_hld a m l) 0).1 - nl)) (18 * (rm_NL (rm_gvs m F (rm_hld a m l) 0).1 - nl)) 0 [.ref 40, .ref (300 + 3 * l), .int (nI m)] [] sh I J R (cr_Q (nI (rm_gvs m F (rm_hld a m l) 0).2) (rm_gvs m F (rm_hld a m l) 0).1 nm nc (rm_NL (rm_gvs m F (rm_hld a m l) 0).1) sh I R) := by
  have H := hQ.1
  obtain ⟨W, n5, b5, n6, b6, n7, b7, LF⟩ := xR_B RL
  obtain ⟨n, h, g1, g2⟩ := xM_h (xR_M RL m hm)
  have hns : ¬ a 20 (200 * m + l) = nI 2 := fun q => by rw [hs] at q; exact absurd q (by decide)
  have hnl := cr_H_lt g2 hl hns
  obtain ⟨p, p1, p2, p3⟩ := pos_of (l := l) n g2.2.1 (fun i hi q => hns (by rw [← q]; exact (g2.1 i hi).2.2))
  have RL2 := cr_hold RL H hm hl hs g2 p1 p2 p3
  have hP := iQ_hold hQ hm hl hs
  have hnum : ∀ i, i < n → (zv_u I (300 + 3 * l) 11 (I (300 + 3 * l) 11 &&& (nI 1 <<< (nI m &&& 31) ^^^ -1))) (300 + 3 * h i) 0 = nI (h i) := fun i hi => by
    have hx := (g2.1 i hi).2.1
    rw [zv_u_j _ _ (by decide)]
    exact (LF _ hx).1
  refine zv_aload_n dX7_bring_0 rfl rfl ?_
  refine zv_iload_n dX7_bring_1 rfl rfl ?_
  refine cc_callV (As := [.int (nI (m))]) (st := []) (c := 6) dX7_bring_2 cvX7_75 (wW0_s40 W.1) rfl rfl rfl (by decide) (cc_c1 rfl cc_c0) (Nat.le_of_ble_eq_true rfl) (cC_isMember (d + 5) W.1 n5 (by omega) (nI m)) (fun v s1 I1 J1 R1 q => ?_)
  obtain ⟨rfl, rfl, rfl, rfl, rfl⟩ := q
  show zv_V _ _ _ _ _ 5 [.ref 40, .ref (300 + 3 * l), .int (nI (m))] [.int (rm_b (rm_lt (nI m) nm))] _ _ _ _ _
  refine zv_ifB_ne (tgt := 10) dX7_bring_5 (by decide) (fun h5 => ?_) (fun h5 => (absurd h5 (by rw [rm_lt_n (by omega), decide_eq_true hm]; decide)))
  refine zv_aload_n dX7_bring_10 rfl rfl ?_
  refine zv_dup dX7_bring_11 rfl ?_
  refine zv_geti 2 11 (x := (I (300 + 3 * l) 11)) dX7_bring_12 flX7_92 (wWL_s (W.2.2.2 l hl).2) rfl (rfl) ?_
  refine zv_iconst (v := nI (1)) dX7_bring_15 (by decide) ?_
  refine zv_iload_n dX7_bring_16 rfl rfl ?_
  refine zv_ishl dX7_bring_17 ?_
  refine zv_iconst (v := (-1 : Int32)) dX7_bring_18 (by decide) ?_
  refine zv_ixor dX7_bring_19 ?_
  refine zv_iand dX7_bring_20 ?_
  refine zv_puti 2 11 dX7_bring_21 fwX7_92 (wWL_s (W.2.2.2 l hl).2) rfl ?_
  refine zv_aload_n dX7_bring_24 rfl rfl ?_
  refine zv_getr 6 0 (u := 41) dX7_bring_25 flX7_11 (wW0_s40 W.1) rfl (wW0_r0 W.1) ?_
  refine zv_iload_n dX7_bring_28 rfl rfl ?_
  refine zv_aald (j := m) (o := some (100 + 20 * m)) dX7_bring_29 (wW0_s41 W.1) (by decide) (by decide) (rfl) (show m < 8 from by omega) (by decide) ((W.2.1 m hm).1) ?_
  show zv_V _ _ _ _ _ 30 [.ref 40, .ref (300 + 3 * l), .int (nI (m))] [.ref (100 + 20 * m)] _ _ _ _ _
  refine zv_aload_n dX7_bring_30 rfl rfl ?_
  refine cc_callV (As := [.ref (300 + 3 * l)]) (st := []) (c := 3) dX7_bring_31 cvX7_275 (wWM_s (W.2.1 m hm).2) rfl rfl rfl (by decide) (cc_c1 rfl cc_c0) (Nat.le_of_ble_eq_true rfl) (cC_hold (d + 4) (W.2.1 m hm).2 (l := l) (n := n) (p := p) (h := h) (wWL_s (W.2.2.2 l hl).2) ((zv_u_j _ _ (by decide)).trans (LF l hl).1) (by omega) ((zv_u_t _ _ (by omega)).trans g1) (by omega) (fun i hi => ⟨(g2.1 i hi).1, wWL_s (W.2.2.2 (h i) (g2.1 i hi).2.1).2, hnum i hi, by have := (g2.1 i hi).2.1; omega⟩) p1 p3 (fun i hi => Nat.le_of_lt (p2 i (by omega))) (by omega)) (fun v s1 I1 J1 R1 q => ?_)
  obtain ⟨rfl, rfl, rfl, rfl, rfl⟩ := q
  show zv_V _ _ _ _ _ 34 [.ref 40, .ref (300 + 3 * l), .int (nI (m))] [] _ _ _ _ _
  have W2 := (xR_B RL2).1
  refine zv_aload_n dX7_bring_34 rfl rfl ?_
  refine zv_iload_n dX7_bring_35 rfl rfl ?_
  refine cc_callVk (As := [.int (nI (m))]) (st := []) (c := 6) (kc1 := (3 * (rm_NL (rm_gvs m F (rm_hld a m l) 0).1 - nl))) (ks1 := (18 * (rm_NL (rm_gvs m F (rm_hld a m l) 0).1 - nl))) (kc := 0) (ks := 0) dX7_bring_36 cvX7_250 (wW0_s40 W2.1) rfl rfl rfl (by decide) (cc_c1 rfl cc_c0) (Nat.le_of_ble_eq_true rfl) (cC_giveAll d hP ht RL2 FR) (fun v s1 I1 J1 R1 q => ?_)
  obtain ⟨rfl, q1, q2, q3⟩ := q
  show zv_V _ _ _ _ _ 39 [.ref 40, .ref (300 + 3 * l), .int (nI (m))] [.int ((nI (rm_gvs m F (rm_hld a m l) 0).2))] _ _ _ _ _
  refine zv_iret dX7_bring_39 rfl rfl ?_
  exact ⟨rfl, q1, q2, fun t ht9 => ⟨(q3 t ht9).1, (q3 t ht9).2.1.trans ((zv_u_row _ _ _ _ (by omega)).trans (zv_u_row _ _ _ _ (by omega))), (q3 t ht9).2.2.trans (hd_o (by omega) (by omega))⟩⟩
