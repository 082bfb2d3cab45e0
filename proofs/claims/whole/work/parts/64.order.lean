theorem cc_W_ln {sh sh' : zv_S} {R R' : zv_R} {nm nc nl : Nat} (w : cc_W sh R nm nc nl) (h5 : nm ≤ 8) (h6 : nc ≤ 6) (h : ∀ t, t < 300 + 3 * nl → sh' t = sh t ∧ R' t = R t) : cc_W sh' R' nm nc nl := by
  have hs : ∀ t, t < 300 + 3 * nl → sh' t = sh t := fun t ht => (h t ht).1
  have hr : ∀ t, t < 300 + 3 * nl → R' t = R t := fun t ht => (h t ht).2
  refine ⟨?_, fun m hm => ?_, fun c hc => ?_, fun l hl => ?_⟩
  · have w := w.1
    unfold cc_W0 at w ⊢
    rw [hs 40 (by omega), hs 41 (by omega), hs 42 (by omega), hs 43 (by omega), hs 44 (by omega), hs 45 (by omega), hs 46 (by omega), hr 40 (by omega), hr 45 (by omega)]
    exact w
  · have w := w.2.1 m hm
    rw [hr 41 (by omega)]
    refine ⟨w.1, ?_⟩
    have w := w.2
    unfold cc_WM at w ⊢
    rw [hs (100 + 20 * m) (by omega), hs (101 + 20 * m) (by omega), hs (108 + 20 * m) (by omega), hs (109 + 20 * m) (by omega), hs (110 + 20 * m) (by omega), hs (111 + 20 * m) (by omega), hs (112 + 20 * m) (by omega), hs (113 + 20 * m) (by omega), hs (114 + 20 * m) (by omega), hs (115 + 20 * m) (by omega), hr (100 + 20 * m) (by omega), hr (101 + 20 * m) (by omega), hr (114 + 20 * m) (by omega)]
    obtain ⟨w1, w2, w3, w4, w5, w6, w7, w8, w9, w10, w11, w12, w13, w14, w15, w16, w17, w18, w19, w20⟩ := w
    exact ⟨w1, w2, w3, w4, w5, w6, w7, w8, w9, w10, w11, w12, w13, w14, w15, w16, w17, w18, w19, fun e he => by rw [hs (102 + 20 * m + e) (by omega)]; exact w20 e he⟩
  · rw [hr 42 (by omega), hs (50 + c) (by omega)]
    exact w.2.2.1 c hc
  · have w := w.2.2.2 l hl
    rw [hr 43 (by omega)]
    refine ⟨w.1, ?_⟩
    have w := w.2
    unfold cc_WL at w ⊢
    rw [hs (300 + 3 * l) (by omega), hs (301 + 3 * l) (by omega), hs (302 + 3 * l) (by omega), hr (300 + 3 * l) (by omega), hr (301 + 3 * l) (by omega)]
    exact w
theorem cC_order_0 (d : Nat) {E : zv_E} {sh : zv_S} {I : zv_I} {J : zv_J} {R : zv_R} {nm nc nl r l c : Nat} {kk e : Int32} (W : cc_W sh R nm nc nl) (hl : l < nl) (hc : c < nc) (b6 : nc ≤ 6) (hr8 : r < 8) (i1 : I (300 + 3 * l) 1 = kk) (i2 : I (300 + 3 * l) 2 = nI c) (ie : I (50 + c) 1 = e) (hno : ¬ (kk = nI 2 ∧ nI r = e)) : zv_V E mX7_writeOrderIfDue d 0 0 0 [.ref 40, .int (nI r), .ref (300 + 3 * l)] [] sh I J R (cc_q sh I J R) := by
  refine zv_aload_n dX7_writeOrderIfDue_0 rfl rfl ?_
  refine zv_getr 6 1 (u := 42) dX7_writeOrderIfDue_1 flX7_17 (wW0_s40 W.1) rfl (wW0_r1 W.1) ?_
  refine zv_aload_n dX7_writeOrderIfDue_4 rfl rfl ?_
  refine zv_geti 2 2 (x := nI (c)) dX7_writeOrderIfDue_5 flX7_105 (wWL_s (W.2.2.2 l hl).2) rfl (i2) ?_
  refine zv_aald (j := c) (o := some (50 + c)) dX7_writeOrderIfDue_8 (wW0_s42 W.1) (by decide) (by decide) (rfl) (show c < 6 from by omega) (by decide) ((W.2.2.1 c hc).1) ?_
  show zv_V _ _ _ _ _ 9 [.ref 40, .int (nI (r)), .ref (300 + 3 * l)] [.ref (50 + c)] _ _ _ _ _
  refine zv_astore_n (lv' := [.ref 40, .int (nI (r)), .ref (300 + 3 * l), .ref (50 + c)]) dX7_writeOrderIfDue_9 rfl (by decide) rfl ?_
  refine zv_aload_n dX7_writeOrderIfDue_10 rfl rfl ?_
  refine zv_geti 2 1 (x := kk) dX7_writeOrderIfDue_11 flX7_102 (wWL_s (W.2.2.2 l hl).2) rfl (i1) ?_
  refine zv_iconst (v := nI (2)) dX7_writeOrderIfDue_14 (by decide) ?_
  refine zv_icmp_ne (tgt := 26) dX7_writeOrderIfDue_15 (by decide) (fun h15 => ?_) (fun h15 => ?_)
  · refine zv_vret dX7_writeOrderIfDue_26 rfl ?_
    exact ⟨rfl, rfl, rfl, rfl, rfl⟩
  · refine zv_iload_n dX7_writeOrderIfDue_18 rfl rfl ?_
    refine zv_aload_n dX7_writeOrderIfDue_19 rfl rfl ?_
    refine zv_geti 0 1 (x := e) dX7_writeOrderIfDue_20 flX7_135 ((W.2.2.1 c hc).2) rfl (ie) ?_
    refine zv_icmp_eq (tgt := 27) dX7_writeOrderIfDue_23 (by decide) (fun h23 => (absurd ⟨h15, h23⟩ hno)) (fun h23 => ?_)
    refine zv_vret dX7_writeOrderIfDue_26 rfl ?_
    exact ⟨rfl, rfl, rfl, rfl, rfl⟩
theorem cC_order_1 (d : Nat) {E : zv_E} {sh : zv_S} {I : zv_I} {J : zv_J} {R : zv_R} {nm nc nl r l c n k : Nat} {y x6 : Int32} {h : Nat → Nat} (W : cc_W sh R nm nc nl) (b5 : nm ≤ 8) (b6 : nc ≤ 6) (n7 : I 40 7 = nI nl) (hnl : nl < 200) (hl : l < nl) (hr : r < nm) (hc : c < nc) (i0 : I (300 + 3 * l) 0 = nI l) (i1 : I (300 + 3 * l) 1 = nI 2) (i2 : I (300 + 3 * l) 2 = nI c) (hk : R (300 + 3 * l) 6 = some (1000 + 8 * k)) (ie : I (50 + c) 1 = nI r) (iy : I (50 + c) 2 = y) (ix : I (50 + c) 0 = x6) (hh : I (100 + 20 * r) 9 = nI n) (hn : n < 200) (hg : ∀ i, i < n → R (112 + 20 * r) i = some (300 + 3 * h i) ∧ h i < nl ∧ I (300 + 3 * h i) 0 = nI (h i)) (hf : ∀ t, 300 + 3 * nl ≤ t → t ≤ 302 + 3 * nl → sh t = none) : zv_V E mX7_writeOrderIfDue (d + 4) 3 18 0 [.ref 40, .int (nI r), .ref (300 + 3 * l)] [] sh I J R (cc_q (cn_sL (zv_sn sh (300 + 3 * nl) (12, 0)) nl) (cs_I (cn_IL (zv_n (zv_u (zv_u (zv_u (zv_u I (300 + 3 * l) 8 y) (50 + c) 2 (y + nI 1)) (300 + 3 * l) 9 (nI nl)) (108 + 20 * r) c (I (108 + 20 * r) c + nI 1)) (300 + 3 * nl) (fun _ => 0)) nl (nI nl) (nI 3) (nI c) (nI r) (I (108 + 20 * r) c + nI 1) (nI l)) nl r n x6) (cs_J (cn_JL (zv_n J (300 + 3 * nl) (fun _ => 0)) nl) nl r) (cs_R (cn_RL (zv_n R (300 + 3 * nl) (fun _ => none)) nl (1000 + 8 * k)) nl r n)) := by
  have o_num : ∀ i, i < n → (cn_IL (zv_n (zv_u (zv_u (zv_u (zv_u I (300 + 3 * l) 8 y) (50 + c) 2 (y + nI 1)) (300 + 3 * l) 9 (nI nl)) (108 + 20 * r) c (I (108 + 20 * r) c + nI 1)) (300 + 3 * nl) (fun _ => 0)) nl (nI nl) (nI 3) (nI c) (nI r) (I (108 + 20 * r) c + nI 1) (nI l)) (300 + 3 * h i) 0 = nI (h i) := fun i hi => by
    have := (hg i hi).2.1
    rw [cnI_o (by omega) (by omega) (by omega), zv_n_t _ _ (by omega), zv_u_row _ _ _ _ (by omega)]
    rw [zv_u_j _ _ (by decide), zv_u_row _ _ _ _ (by omega), zv_u_j _ _ (by decide)]
    exact (hg i hi).2.2
  refine zv_aload_n dX7_writeOrderIfDue_0 rfl rfl ?_
  refine zv_getr 6 1 (u := 42) dX7_writeOrderIfDue_1 flX7_17 (wW0_s40 W.1) rfl (wW0_r1 W.1) ?_
  refine zv_aload_n dX7_writeOrderIfDue_4 rfl rfl ?_
  refine zv_geti 2 2 (x := nI (c)) dX7_writeOrderIfDue_5 flX7_105 (wWL_s (W.2.2.2 l hl).2) rfl (i2) ?_
  refine zv_aald (j := c) (o := some (50 + c)) dX7_writeOrderIfDue_8 (wW0_s42 W.1) (by decide) (by decide) (rfl) (show c < 6 from by omega) (by decide) ((W.2.2.1 c hc).1) ?_
  show zv_V _ _ _ _ _ 9 [.ref 40, .int (nI (r)), .ref (300 + 3 * l)] [.ref (50 + c)] _ _ _ _ _
  refine zv_astore_n (lv' := [.ref 40, .int (nI (r)), .ref (300 + 3 * l), .ref (50 + c)]) dX7_writeOrderIfDue_9 rfl (by decide) rfl ?_
  refine zv_aload_n dX7_writeOrderIfDue_10 rfl rfl ?_
  refine zv_geti 2 1 (x := nI (2)) dX7_writeOrderIfDue_11 flX7_102 (wWL_s (W.2.2.2 l hl).2) rfl (i1) ?_
  refine zv_iconst (v := nI (2)) dX7_writeOrderIfDue_14 (by decide) ?_
  refine zv_icN_ne (tgt := 26) dX7_writeOrderIfDue_15 (by decide) (by omega) (by omega) (fun h15 => (absurd rfl h15)) (fun h15 => ?_)
  refine zv_iload_n dX7_writeOrderIfDue_18 rfl rfl ?_
  refine zv_aload_n dX7_writeOrderIfDue_19 rfl rfl ?_
  refine zv_geti 0 1 (x := nI (r)) dX7_writeOrderIfDue_20 flX7_135 ((W.2.2.1 c hc).2) rfl (ie) ?_
  refine zv_icN_eq (tgt := 27) dX7_writeOrderIfDue_23 (by decide) (by omega) (by omega) (fun h23 => ?_) (fun h23 => (absurd rfl h23))
  refine zv_aload_n dX7_writeOrderIfDue_27 rfl rfl ?_
  refine zv_aload_n dX7_writeOrderIfDue_28 rfl rfl ?_
  refine zv_geti 0 2 (x := y) dX7_writeOrderIfDue_29 flX7_138 ((W.2.2.1 c hc).2) rfl (iy) ?_
  refine zv_puti 2 8 dX7_writeOrderIfDue_32 fwX7_117 (wWL_s (W.2.2.2 l hl).2) rfl ?_
  refine zv_aload_n dX7_writeOrderIfDue_35 rfl rfl ?_
  refine zv_dup dX7_writeOrderIfDue_36 rfl ?_
  refine zv_geti 0 2 (x := y) dX7_writeOrderIfDue_37 flX7_138 ((W.2.2.1 c hc).2) rfl ((zv_u_t _ _ (by omega)).trans (iy)) ?_
  refine zv_iconst (v := nI (1)) dX7_writeOrderIfDue_40 (by decide) ?_
  refine zv_iadd dX7_writeOrderIfDue_41 ?_
  refine zv_puti 0 2 dX7_writeOrderIfDue_42 fwX7_138 ((W.2.2.1 c hc).2) rfl ?_
  refine zv_aload_n dX7_writeOrderIfDue_45 rfl rfl ?_
  refine zv_aload_n dX7_writeOrderIfDue_46 rfl rfl ?_
  refine zv_geti 6 7 (x := nI (nl)) dX7_writeOrderIfDue_47 flX7_95 (wW0_s40 W.1) rfl ((zv_u_t _ _ (by omega)).trans ((zv_u_t _ _ (by omega)).trans (n7))) ?_
  refine zv_puti 2 9 dX7_writeOrderIfDue_50 fwX7_311 (wWL_s (W.2.2.2 l hl).2) rfl ?_
  refine zv_aload_n dX7_writeOrderIfDue_53 rfl rfl ?_
  refine zv_getr 6 0 (u := 41) dX7_writeOrderIfDue_54 flX7_11 (wW0_s40 W.1) rfl (wW0_r0 W.1) ?_
  refine zv_iload_n dX7_writeOrderIfDue_57 rfl rfl ?_
  refine zv_aald (j := r) (o := some (100 + 20 * r)) dX7_writeOrderIfDue_58 (wW0_s41 W.1) (by decide) (by decide) (rfl) (show r < 8 from by omega) (by decide) ((W.2.1 r hr).1) ?_
  show zv_V _ _ _ _ _ 59 [.ref 40, .int (nI (r)), .ref (300 + 3 * l), .ref (50 + c)] [.ref (100 + 20 * r)] _ _ _ _ _
  refine zv_aload_n dX7_writeOrderIfDue_59 rfl rfl ?_
  refine zv_geti 2 2 (x := nI (c)) dX7_writeOrderIfDue_60 flX7_105 (wWL_s (W.2.2.2 l hl).2) rfl ((zv_u_j _ _ (by omega)).trans ((zv_u_t _ _ (by omega)).trans ((zv_u_j _ _ (by omega)).trans (i2)))) ?_
  refine cc_callV (As := [.int (nI (c))]) (st := []) (c := 3) dX7_writeOrderIfDue_63 cvX7_228 (wWM_s (W.2.1 r hr).2) rfl rfl rfl (by decide) (cc_c1 rfl cc_c0) (Nat.le_of_ble_eq_true rfl) (cC_nextSerial (d + 3) (W.2.1 r hr).2 (c := c) (by omega)) (fun v s1 I1 J1 R1 q => ?_)
  obtain ⟨rfl, rfl, rfl, rfl, rfl⟩ := q
  rw [show (zv_u (zv_u (zv_u I (300 + 3 * l) 8 y) (50 + c) 2 (y + nI 1)) (300 + 3 * l) 9 (nI nl)) (108 + 20 * r) c = I (108 + 20 * r) c from (zv_u_t _ _ (by omega)).trans ((zv_u_t _ _ (by omega)).trans ((zv_u_t _ _ (by omega)).trans (rfl)))]
  show zv_V _ _ _ _ _ 66 [.ref 40, .int (nI (r)), .ref (300 + 3 * l), .ref (50 + c)] [.int ((I (108 + 20 * r) c + nI 1))] _ _ _ _ _
  refine zv_istore (lv' := [.ref 40, .int (nI (r)), .ref (300 + 3 * l), .ref (50 + c), .int ((I (108 + 20 * r) c + nI 1))]) dX7_writeOrderIfDue_66 (by decide) rfl ?_
  refine zv_aload_n dX7_writeOrderIfDue_68 rfl rfl ?_
  refine zv_new (t := 300 + 3 * nl) (kc := 2) (ks := 5) 2 dX7_writeOrderIfDue_69 (⟨RX2, TX2, 13, rfl, rfl, by decide, inX2, tyX2_ok, clX7_21, insX2, iniX2⟩) (hf _ (by omega) (by omega)) (by omega) ?_
  refine zv_dup dX7_writeOrderIfDue_72 rfl ?_
  refine zv_aload_n dX7_writeOrderIfDue_73 rfl rfl ?_
  refine zv_geti 6 7 (x := nI (nl)) dX7_writeOrderIfDue_74 flX7_95 ((zv_sn_t _ _ (by omega)).trans (wW0_s40 W.1)) rfl ((congrFun (zv_n_t _ _ (by omega)) _).trans ((zv_u_t _ _ (by omega)).trans ((zv_u_t _ _ (by omega)).trans ((zv_u_t _ _ (by omega)).trans ((zv_u_t _ _ (by omega)).trans (n7)))))) ?_
  refine zv_iconst (v := nI (3)) dX7_writeOrderIfDue_77 (by decide) ?_
  refine zv_aload_n dX7_writeOrderIfDue_78 rfl rfl ?_
  refine zv_geti 2 2 (x := nI (c)) dX7_writeOrderIfDue_79 flX7_105 ((zv_sn_t _ _ (by omega)).trans (wWL_s (W.2.2.2 l hl).2)) rfl ((congrFun (zv_n_t _ _ (by omega)) _).trans ((zv_u_t _ _ (by omega)).trans ((zv_u_j _ _ (by omega)).trans ((zv_u_t _ _ (by omega)).trans ((zv_u_j _ _ (by omega)).trans (i2)))))) ?_
  refine zv_iload_n dX7_writeOrderIfDue_82 rfl rfl ?_
  refine zv_iload dX7_writeOrderIfDue_83 rfl ?_
  refine zv_aload_n dX7_writeOrderIfDue_85 rfl rfl ?_
  refine zv_geti 2 0 (x := nI (l)) dX7_writeOrderIfDue_86 flX7_253 ((zv_sn_t _ _ (by omega)).trans (wWL_s (W.2.2.2 l hl).2)) rfl ((congrFun (zv_n_t _ _ (by omega)) _).trans ((zv_u_t _ _ (by omega)).trans ((zv_u_j _ _ (by omega)).trans ((zv_u_t _ _ (by omega)).trans ((zv_u_j _ _ (by omega)).trans (i0)))))) ?_
  refine zv_aload_n dX7_writeOrderIfDue_89 rfl rfl ?_
  refine zv_getr 2 6 (u := 1000 + 8 * k) dX7_writeOrderIfDue_90 flX7_120 ((zv_sn_t _ _ (by omega)).trans (wWL_s (W.2.2.2 l hl).2)) rfl ((congrFun (zv_n_t _ _ (by omega)) _).trans (hk)) ?_
  refine cc_callI (As := [.int (nI (nl)), .int (nI (3)), .int (nI (c)), .int (nI (r)), .int ((I (108 + 20 * r) c + nI 1)), .int (nI (l)), .ref (1000 + 8 * k)]) (st := [.ref (300 + 3 * nl), .ref 40]) (b := 300 + 3 * nl) (kc1 := 2) (ks1 := 5) (kc := 0) (ks := 0) dX7_writeOrderIfDue_93 ciX7_235 rfl (by decide) (cc_c1 rfl (cc_c1 rfl (cc_c1 rfl (cc_c1 rfl (cc_c1 rfl (cc_c1 rfl (cc_c1 rfl cc_c0))))))) (Nat.le_of_ble_eq_true rfl) (cC_letterI (d + 1) (l := nl) (ck := 1000 + 8 * k) (zv_sn_s _ _ _) (fun t h1 h2 => (zv_sn_t _ _ (by omega)).trans (hf t (by omega) h2)) (by omega)) (fun v s1 I1 J1 R1 q => ?_)
  obtain ⟨rfl, rfl, rfl, rfl, rfl⟩ := q
  show zv_V _ _ _ _ _ 96 [.ref 40, .int (nI (r)), .ref (300 + 3 * l), .ref (50 + c), .int ((I (108 + 20 * r) c + nI 1))] [.ref (300 + 3 * nl), .ref 40] _ _ _ _ _
  skip
  refine cc_callV (As := [.ref (300 + 3 * nl)]) (st := []) (c := 6) dX7_writeOrderIfDue_96 cvX7_246 ((cnS_o (by omega) (by omega) (by omega)).trans (wW0_s40 W.1)) rfl rfl rfl (by decide) (cc_c1 rfl cc_c0) (Nat.le_of_ble_eq_true rfl) (cC_send (d + 1) (nm := nm) (nc := nc) (nl := nl) (w := r) (c := c) (n := n) (x := x6) (h := h) (cc_W_ln W b5 b6 (fun t ht => ⟨cnS_o (by omega) (by omega) (by omega), cnR_o (by omega) (by omega) (by omega)⟩)) b5 b6 ((congrFun (cnI_o (by omega) (by omega) (by omega)) _).trans ((congrFun (zv_n_t _ _ (by omega)) _).trans ((zv_u_t _ _ (by omega)).trans ((zv_u_t _ _ (by omega)).trans ((zv_u_t _ _ (by omega)).trans ((zv_u_t _ _ (by omega)).trans (n7))))))) hnl cn_WLs cnI_l.1 cnI_l.2.2.1 cnI_l.2.2.2.1 hc hr ((congrFun (cnI_o (by omega) (by omega) (by omega)) _).trans ((congrFun (zv_n_t _ _ (by omega)) _).trans ((zv_u_t _ _ (by omega)).trans ((zv_u_t _ _ (by omega)).trans ((zv_u_j _ _ (by omega)).trans ((zv_u_t _ _ (by omega)).trans (ix))))))) ((congrFun (cnI_o (by omega) (by omega) (by omega)) _).trans ((congrFun (zv_n_t _ _ (by omega)) _).trans ((zv_u_t _ _ (by omega)).trans ((zv_u_t _ _ (by omega)).trans ((zv_u_t _ _ (by omega)).trans ((zv_u_t _ _ (by omega)).trans (hh))))))) hn (fun i hi => ⟨(congrFun (cnR_o (by omega) (by omega) (by omega)) _).trans (hg i hi).1, (hg i hi).2.1, o_num i hi⟩)) (fun v s1 I1 J1 R1 q => ?_)
  obtain ⟨rfl, rfl, rfl, rfl, rfl⟩ := q
  show zv_V _ _ _ _ _ 99 [.ref 40, .int (nI (r)), .ref (300 + 3 * l), .ref (50 + c), .int ((I (108 + 20 * r) c + nI 1))] [] _ _ _ _ _
  refine zv_vret dX7_writeOrderIfDue_99 rfl ?_
  exact ⟨rfl, rfl, rfl, rfl, rfl⟩
