theorem cC_wbc_0 (d : Nat) {E : zv_E} {sh : zv_S} {I : zv_I} {J : zv_J} {R : zv_R} {F nm nc nl w c : Nat} {kk x : Int32} {a : zv_I} (hQ : iQ a nm nc nl) (RL : cr_R sh I J R a nm nc nl) (FR : cr_F sh nm nc nl) (hw : w < nm) (hc : c < nc) (hA : rm_NA a < 100) (hin : rm_in a w c = true) (hmay : cr_may a nl w x = true) (hP : iP w (rm_c4 a nm nc nl kk w c x) nm nc (nl + 1)) (ht : rm_gvt w F (rm_c4 a nm nc nl kk w c x) = true) : zv_V E mX7_writeByCall (d + 6) (11 + 3 * (rm_NL (rm_gvs w F (rm_c4 a nm nc nl kk w c x) 0).1 - (nl + 1))) (74 + 18 * (rm_NL (rm_gvs w F (rm_c4 a nm nc nl kk w c x) 0).1 - (nl + 1))) 0 [.ref 40, .int (nI w), .int (nI c), .int kk, .int x] [] sh I J R (cr_Q (nI nl) (zv_u (rm_gvs w F (rm_c4 a nm nc nl kk w c x) 0).1 3 24 (nI 0)) nm nc (rm_NL (rm_gvs w F (rm_c4 a nm nc nl kk w c x) 0).1) sh I R) := by
  have H := hQ.1
  have RT := xR_T RL
  have RC := xR_C RL
  have RLt := xR_L RL
  have RM := xR_M RL
  have B0 := xR_B RL
  obtain ⟨W, n5, b5, n6, b6, n7, b7, LF⟩ := xR_B RL
  have hnl := iv_room1 H hA
  obtain ⟨n, h, g1, g2⟩ := xM_h (RM w hw)
  have hnn := cr_H_le g2
  have B1 : cc_B sh (zv_u I (108 + 20 * w) c (I (108 + 20 * w) c + nI 1)) R nm nc nl := cc_B_o B0 (fun t _ => rfl) (fun j _ => congrFun (zv_u_row _ _ _ _ (by omega)) j) (fun l j _ _ => congrFun (zv_u_row _ _ _ _ (by omega)) j)
  have hby : ∀ e, e < nc → cr_by ((zv_u I (108 + 20 * w) c (I (108 + 20 * w) c + nI 1)) (50 + e) 0) := fun e he => by
    rw [zv_u_row _ _ _ _ (by omega), xC_b (RC e he)]
    exact xI_cy H e he
  have hgv := gvs_iQ (g := 0) hP ht
  have hend := hgv.2
  refine zv_aload_n dX7_writeByCall_0 rfl rfl ?_
  refine zv_iload_n dX7_writeByCall_1 rfl rfl ?_
  refine cc_callV (As := [.int (nI (w))]) (st := []) (c := 6) dX7_writeByCall_2 cvX7_75 (wW0_s40 W.1) rfl rfl rfl (by decide) (cc_c1 rfl cc_c0) (Nat.le_of_ble_eq_true rfl) (cC_isMember (d + 5) W.1 n5 (by omega) (nI (w))) (fun v s1 I1 J1 R1 q => ?_)
  obtain ⟨rfl, rfl, rfl, rfl, rfl⟩ := q
  show zv_V _ _ _ _ _ 5 [.ref 40, .int (nI (w)), .int (nI (c)), .int (kk), .int (x)] [.int (rm_b (rm_lt (nI (w)) nm))] _ _ _ _ _
  refine zv_ifB_eq (tgt := 16) dX7_writeByCall_5 (by decide) (fun h5 => (absurd h5 (by rw [rm_lt_n (by omega), decide_eq_true hw]; decide))) (fun h5 => ?_)
  refine zv_aload_n dX7_writeByCall_8 rfl rfl ?_
  refine zv_iload_n dX7_writeByCall_9 rfl rfl ?_
  refine cc_callV (As := [.int (nI (c))]) (st := []) (c := 6) dX7_writeByCall_10 cvX7_85 (wW0_s40 W.1) rfl rfl rfl (by decide) (cc_c1 rfl cc_c0) (Nat.le_of_ble_eq_true rfl) (cC_isCircle (d + 5) W.1 n6 (by omega) (nI (c))) (fun v s1 I1 J1 R1 q => ?_)
  obtain ⟨rfl, rfl, rfl, rfl, rfl⟩ := q
  show zv_V _ _ _ _ _ 13 [.ref 40, .int (nI (w)), .int (nI (c)), .int (kk), .int (x)] [.int (rm_b (rm_lt (nI (c)) nc))] _ _ _ _ _
  refine zv_ifB_ne (tgt := 22) dX7_writeByCall_13 (by decide) (fun h13 => ?_) (fun h13 => (absurd h13 (by rw [rm_lt_n (by omega), decide_eq_true hc]; decide)))
  refine zv_aload_n dX7_writeByCall_22 rfl rfl ?_
  refine zv_geti 6 8 (x := nI (rm_NA a)) dX7_writeByCall_23 flX7_222 (wW0_s40 W.1) rfl ((xT_na RT).trans (xI_n5 H).1) ?_
  refine zv_bipush (v := nI (100)) dX7_writeByCall_26 (by decide) ?_
  refine zv_icN_lt (tgt := 37) dX7_writeByCall_28 (by decide) (by omega) (by omega) (fun h28 => ?_) (fun h28 => (absurd h28 (by omega)))
  refine zv_aload_n dX7_writeByCall_37 rfl rfl ?_
  refine zv_getr 6 1 (u := 42) dX7_writeByCall_38 flX7_17 (wW0_s40 W.1) rfl (wW0_r1 W.1) ?_
  refine zv_iload_n dX7_writeByCall_41 rfl rfl ?_
  refine zv_aald (j := c) (o := some (50 + c)) dX7_writeByCall_42 (wW0_s42 W.1) (by decide) (by decide) (rfl) (show c < 6 from by omega) (by decide) ((W.2.2.1 c (by omega)).1) ?_
  show zv_V _ _ _ _ _ 43 [.ref 40, .int (nI (w)), .int (nI (c)), .int (kk), .int (x)] [.ref (50 + c)] _ _ _ _ _
  refine zv_geti 0 0 (x := (a 6 c)) dX7_writeByCall_43 flX7_132 ((W.2.2.1 c (by omega)).2) rfl (xC_b (RC c (by omega))) ?_
  refine zv_iload_n dX7_writeByCall_46 rfl rfl ?_
  refine cc_callS (As := [.int ((a 6 c)), .int (nI (w))]) (st := []) dX7_writeByCall_47 csX7_218 rfl (by decide) (cc_c1 rfl (cc_c1 rfl cc_c0)) (Nat.le_of_ble_eq_true rfl) (cC_hasBit (d + 5) ((a 6 c)) w) (fun v s1 I1 J1 R1 q => ?_)
  obtain ⟨rfl, rfl, rfl, rfl, rfl⟩ := q
  show zv_V _ _ _ _ _ 50 [.ref 40, .int (nI (w)), .int (nI (c)), .int (kk), .int (x)] [.int (rm_b (cb ((a 6 c)) w))] _ _ _ _ _
  refine zv_ifB_eq (tgt := 63) dX7_writeByCall_50 (by decide) (fun h50 => (absurd (h50.symm.trans hin) (by decide))) (fun h50 => ?_)
  refine zv_aload_n dX7_writeByCall_53 rfl rfl ?_
  refine zv_iload_n dX7_writeByCall_54 rfl rfl ?_
  refine zv_iload dX7_writeByCall_55 rfl ?_
  refine cc_callV (As := [.int (nI (w)), .int (x)]) (st := []) (c := 6) dX7_writeByCall_57 cvX7_225 (wW0_s40 W.1) rfl rfl rfl (by decide) (cc_c1 rfl (cc_c1 rfl cc_c0)) (Nat.le_of_ble_eq_true rfl) (cC_mayAnswer (d + 3) RL hw x) (fun v s1 I1 J1 R1 q => ?_)
  obtain ⟨rfl, rfl, rfl, rfl, rfl⟩ := q
  show zv_V _ _ _ _ _ 60 [.ref 40, .int (nI (w)), .int (nI (c)), .int (kk), .int (x)] [.int (rm_b (cr_may a nl w x))] _ _ _ _ _
  refine zv_ifB_ne (tgt := 69) dX7_writeByCall_60 (by decide) (fun h60 => ?_) (fun h60 => (absurd (h60.symm.trans hmay) (by decide)))
  refine zv_aload_n dX7_writeByCall_69 rfl rfl ?_
  refine zv_getr 6 0 (u := 41) dX7_writeByCall_70 flX7_11 (wW0_s40 W.1) rfl (wW0_r0 W.1) ?_
  refine zv_iload_n dX7_writeByCall_73 rfl rfl ?_
  refine zv_aald (j := w) (o := some (100 + 20 * w)) dX7_writeByCall_74 (wW0_s41 W.1) (by decide) (by decide) (rfl) (show w < 8 from by omega) (by decide) ((W.2.1 w (by omega)).1) ?_
  show zv_V _ _ _ _ _ 75 [.ref 40, .int (nI (w)), .int (nI (c)), .int (kk), .int (x)] [.ref (100 + 20 * w)] _ _ _ _ _
  refine zv_astore (lv' := [.ref 40, .int (nI (w)), .int (nI (c)), .int (kk), .int (x), .ref (100 + 20 * w)]) dX7_writeByCall_75 (by decide) rfl ?_
  refine zv_aload dX7_writeByCall_77 rfl ?_
  refine zv_iload_n dX7_writeByCall_79 rfl rfl ?_
  refine cc_callV (As := [.int (nI (c))]) (st := []) (c := 3) dX7_writeByCall_80 cvX7_228 (wWM_s (W.2.1 w (by omega)).2) rfl rfl rfl (by decide) (cc_c1 rfl cc_c0) (Nat.le_of_ble_eq_true rfl) (cC_nextSerial (d + 5) (W.2.1 w hw).2 (c := c) (by omega)) (fun v s1 I1 J1 R1 q => ?_)
  obtain ⟨rfl, rfl, rfl, rfl, rfl⟩ := q
  show zv_V _ _ _ _ _ 83 [.ref 40, .int (nI (w)), .int (nI (c)), .int (kk), .int (x), .ref (100 + 20 * w)] [.int ((I (108 + 20 * w) c + nI 1))] _ _ _ _ _
  refine zv_istore (lv' := [.ref 40, .int (nI (w)), .int (nI (c)), .int (kk), .int (x), .ref (100 + 20 * w), .int ((I (108 + 20 * w) c + nI 1))]) dX7_writeByCall_83 (by decide) rfl ?_
  refine zv_aload_n dX7_writeByCall_85 rfl rfl ?_
  refine zv_iload_n dX7_writeByCall_86 rfl rfl ?_
  rw [show 11 + 3 * (rm_NL (rm_gvs w F (rm_c4 a nm nc nl kk w c x) 0).1 - (nl + 1)) = 8 + (3 + 3 * (rm_NL (rm_gvs w F (rm_c4 a nm nc nl kk w c x) 0).1 - (nl + 1))) by omega, show 74 + 18 * (rm_NL (rm_gvs w F (rm_c4 a nm nc nl kk w c x) 0).1 - (nl + 1)) = 56 + (18 + 18 * (rm_NL (rm_gvs w F (rm_c4 a nm nc nl kk w c x) 0).1 - (nl + 1))) by omega]
  refine cc_callVk (As := [.int (nI (w))]) (st := []) (c := 6) (kc1 := 8) (ks1 := 56) (kc := (3 + 3 * (rm_NL (rm_gvs w F (rm_c4 a nm nc nl kk w c x) 0).1 - (nl + 1)))) (ks := (18 + 18 * (rm_NL (rm_gvs w F (rm_c4 a nm nc nl kk w c x) 0).1 - (nl + 1)))) dX7_writeByCall_87 cvX7_231 (wW0_s40 W.1) rfl rfl rfl (by decide) (cc_c1 rfl cc_c0) (Nat.le_of_ble_eq_true rfl) (cC_clockNow (d + 3) (k := nl) B1 hw hnl hby (fun t h1 h2 => cr_F_n FR (by omega))) (fun v s1 I1 J1 R1 q => ?_)
  obtain ⟨rfl, K⟩ := q
  show zv_V _ _ _ _ _ 90 [.ref 40, .int (nI (w)), .int (nI (c)), .int (kk), .int (x), .ref (100 + 20 * w), .int ((I (108 + 20 * w) c + nI 1))] [.ref (1000 + 8 * nl)] _ _ _ _ _
  refine zv_astore (lv' := [.ref 40, .int (nI (w)), .int (nI (c)), .int (kk), .int (x), .ref (100 + 20 * w), .int ((I (108 + 20 * w) c + nI 1)), .ref (1000 + 8 * nl)]) dX7_writeByCall_90 (by decide) rfl ?_
  have eK : ∀ t, t < 1000 → s1 t = sh t ∧ I1 t = (zv_u I (108 + 20 * w) c (I (108 + 20 * w) c + nI 1)) t ∧ R1 t = R t := fun t ht => ⟨(xK_fr K t (by omega)).1, (xK_fr K t (by omega)).2.1, (xK_fr K t (by omega)).2.2.2⟩
  rw [show (3 + 3 * (rm_NL (rm_gvs w F (rm_c4 a nm nc nl kk w c x) 0).1 - (nl + 1))) = (2 + 3 * (rm_NL (rm_gvs w F (rm_c4 a nm nc nl kk w c x) 0).1 - (nl + 1))) + 1 by omega, show (18 + 18 * (rm_NL (rm_gvs w F (rm_c4 a nm nc nl kk w c x) 0).1 - (nl + 1))) = (5 + 18 * (rm_NL (rm_gvs w F (rm_c4 a nm nc nl kk w c x) 0).1 - (nl + 1))) + zv_nf 2 from by show _ = _ + 13; omega]
  refine zv_new (t := 300 + 3 * nl) 2 dX7_writeByCall_92 ⟨RX2, TX2, 13, rfl, rfl, by decide, inX2, tyX2_ok, clX7_21, insX2, iniX2⟩ ((eK _ (by omega)).1.trans (cr_F_n FR (by omega))) (by omega) ?_
  refine zv_dup dX7_writeByCall_95 rfl ?_
  refine zv_aload_n dX7_writeByCall_96 rfl rfl ?_
  refine zv_geti 6 7 (x := nI (nl)) dX7_writeByCall_97 flX7_95 ((zv_sn_t _ _ (by omega)).trans ((eK 40 (by omega)).1.trans (wW0_s40 W.1))) rfl ((congrFun (zv_n_t _ _ (by omega)) _).trans ((congrFun (eK 40 (by omega)).2.1 7).trans ((zv_u_t _ _ (by omega)).trans n7))) ?_
  refine zv_iload_n dX7_writeByCall_100 rfl rfl ?_
  refine zv_iload_n dX7_writeByCall_101 rfl rfl ?_
  refine zv_iload_n dX7_writeByCall_102 rfl rfl ?_
  refine zv_iload dX7_writeByCall_103 rfl ?_
  refine zv_iload dX7_writeByCall_105 rfl ?_
  refine zv_aload dX7_writeByCall_107 rfl ?_
  refine cc_callI (As := [.int (nI (nl)), .int (kk), .int (nI (c)), .int (nI (w)), .int ((I (108 + 20 * w) c + nI 1)), .int (x), .ref (1000 + 8 * nl)]) (st := [.ref (300 + 3 * nl)]) (b := 300 + 3 * nl) (kc1 := 2) (ks1 := 5) (kc := (3 * (rm_NL (rm_gvs w F (rm_c4 a nm nc nl kk w c x) 0).1 - (nl + 1)))) (ks := (18 * (rm_NL (rm_gvs w F (rm_c4 a nm nc nl kk w c x) 0).1 - (nl + 1)))) dX7_writeByCall_109 ciX7_235 rfl (by decide) (cc_c1 rfl (cc_c1 rfl (cc_c1 rfl (cc_c1 rfl (cc_c1 rfl (cc_c1 rfl (cc_c1 rfl cc_c0))))))) (Nat.le_of_ble_eq_true rfl) (cC_letterI (d + 3) (l := nl) (ck := 1000 + 8 * nl) (zv_sn_s _ _ _) (fun t h1 h2 => (zv_sn_t _ _ (by omega)).trans ((eK t (by omega)).1.trans (cr_F_n FR (by omega)))) (by omega)) (fun v s1 I1 J1 R1 q => ?_)
  obtain ⟨rfl, rfl, rfl, rfl, rfl⟩ := q
  show zv_V _ _ _ _ _ 112 [.ref 40, .int (nI (w)), .int (nI (c)), .int (kk), .int (x), .ref (100 + 20 * w), .int ((I (108 + 20 * w) c + nI 1)), .ref (1000 + 8 * nl)] [.ref (300 + 3 * nl)] _ _ _ _ _
  have W2 : cc_W (cn_sL (zv_sn s1 (300 + 3 * nl) (12, 0)) nl) (cn_RL (zv_n R1 (300 + 3 * nl) (fun _ => none)) nl (1000 + 8 * nl)) nm nc nl := cc_W_ln W b5 b6 (fun t ht => ⟨(cnS_o (by omega) (by omega) (by omega)).trans (eK t (by omega)).1, (cnR_o (by omega) (by omega) (by omega)).trans (eK t (by omega)).2.2⟩)
  have wl2 : cc_WL (cn_sL (zv_sn s1 (300 + 3 * nl) (12, 0)) nl) (cn_RL (zv_n R1 (300 + 3 * nl) (fun _ => none)) nl (1000 + 8 * nl)) nl := cn_WLs
  have wk2 : cc_WK (cn_sL (zv_sn s1 (300 + 3 * nl) (12, 0)) nl) (cn_RL (zv_n R1 (300 + 3 * nl) (fun _ => none)) nl (1000 + 8 * nl)) nl := by
    obtain ⟨w1, w2, w3, w4⟩ := ck_WK K
    have q1 : ∀ t, 1000 ≤ t → (cn_sL (zv_sn s1 (300 + 3 * nl) (12, 0)) nl) t = s1 t := fun t ht => cnS_o (by omega) (by omega) (by omega)
    have q2 : ∀ t, 1000 ≤ t → (cn_RL (zv_n R1 (300 + 3 * nl) (fun _ => none)) nl (1000 + 8 * nl)) t = R1 t := fun t ht => cnR_o (by omega) (by omega) (by omega)
    unfold cc_WK
    rw [q1 _ (by omega), q1 (1001 + 8 * nl) (by omega), q2 _ (by omega), q2 (1001 + 8 * nl) (by omega)]
    exact ⟨w1, w2, w3, fun e he => by rw [q1 _ (by omega)]; exact w4 e he⟩
  have e110 : (cn_RL (zv_n R1 (300 + 3 * nl) (fun _ => none)) nl (1000 + 8 * nl)) (110 + 20 * w) c = cr_lc R (a 23 (6 * w + c)) := by rw [cnR_o (by omega) (by omega) (by omega), (eK _ (by omega)).2.2]; exact xM_l (RM w hw) c (by omega)
  have RW0 := (cr_write (sv := rm_c4 a nm nc nl kk w c x 17 nl) RL FR H hA hw hc hin K rfl g1 g2).1
  have L9 := xR_L RW0 nl (by omega)
  have ck9 : cc_ck (cs_R (wY R1 nl w c) nl w n) nl = nl := ck_of (by rw [csR_o (by omega) (by omega) (by omega)]; unfold wY; rw [zv_u_row _ _ _ _ (by omega)]; exact cnR_l.1)
  have hckl := cr_ckl B0 FR
  rcases xI_la H w c (by omega) (by omega) with z | ⟨la, hla, z⟩
  · have hsv : (nI 0 : Int32) = rm_c4 a nm nc nl kk w c x 17 nl := by rw [c4_17, c4_sav H (by omega) (by omega) hnl, if_pos z]
    have RW := cr_write (sv := (nI 0)) RL FR H hA hw hc hin K hsv g1 g2
    have o_num : ∀ i, i < n → (wX I1 nl w c kk (I (108 + 20 * w) c + nI 1) x (nI 0) (nI (rm_NA a + 1))) (300 + 3 * h i) 0 = nI (h i) := fun i hi => by
      have hx := (g2.1 i hi).2.1
      unfold wX
      rw [zv_u_row _ _ _ _ (by omega), zv_u_row _ _ _ _ (by omega), cnI_o (by omega) (by omega) (by omega), zv_n_t _ _ (by omega), (eK _ (by omega)).2.1, zv_u_row _ _ _ _ (by omega)]
      exact (LF _ hx).1
    have w_fr : ∀ t, t < 40 → cs_I (wX I1 nl w c kk (I (108 + 20 * w) c + nI 1) x (nI 0) (nI (rm_NA a + 1))) nl w n (I (50 + c) 0) t = I t := fun t ht9 => by
      rw [csI_o (by omega) (by omega) (by omega)]
      unfold wX
      rw [zv_u_row _ _ _ _ (by omega), zv_u_row _ _ _ _ (by omega), cnI_o (by omega) (by omega) (by omega), zv_n_t _ _ (by omega), (eK _ (by omega)).2.1, zv_u_row _ _ _ _ (by omega)]
    refine zv_astore (lv' := [.ref 40, .int (nI (w)), .int (nI (c)), .int (kk), .int (x), .ref (100 + 20 * w), .int ((I (108 + 20 * w) c + nI 1)), .ref (1000 + 8 * nl), .ref (300 + 3 * nl)]) dX7_writeByCall_112 (by decide) rfl ?_
    refine zv_aload dX7_writeByCall_114 rfl ?_
    refine zv_aload dX7_writeByCall_116 rfl ?_
    refine zv_aload dX7_writeByCall_118 rfl ?_
    refine zv_getr 3 3 (u := 110 + 20 * w) dX7_writeByCall_120 flX7_238 (wWM_s (W2.2.1 w hw).2) rfl (wWM_r3 (W2.2.1 w hw).2) ?_
    refine zv_iload_n dX7_writeByCall_123 rfl rfl ?_
    refine zv_aald (j := c) (o := none) dX7_writeByCall_124 (wWM_s3 (W2.2.1 w hw).2) (by decide) (by decide) (rfl) (show c < 6 from by omega) (by decide) (e110.trans (by rw [z]; exact if_pos rfl)) ?_
    show zv_V _ _ _ _ _ 125 [.ref 40, .int (nI (w)), .int (nI (c)), .int (kk), .int (x), .ref (100 + 20 * w), .int ((I (108 + 20 * w) c + nI 1)), .ref (1000 + 8 * nl), .ref (300 + 3 * nl)] [.null, .ref (1000 + 8 * nl), .ref (300 + 3 * nl)] _ _ _ _ _
    refine zv_aload_n dX7_writeByCall_125 rfl rfl ?_
    refine zv_getr 6 1 (u := 42) dX7_writeByCall_126 flX7_17 (wW0_s40 W2.1) rfl (wW0_r1 W2.1) ?_
    refine cc_callV (As := [.null, .ref 42]) (st := [.ref (300 + 3 * nl)]) (c := 1) dX7_writeByCall_129 cvX7_242 (wWK_s wk2) rfl rfl rfl (by decide) (cc_c1 rfl (cc_c1 rfl cc_c0)) (Nat.le_of_ble_eq_true rfl) (cC_sameCounts_0 (d + 3)) (fun v s1 I1 J1 R1 q => ?_)
    obtain ⟨rfl, rfl, rfl, rfl, rfl⟩ := q
    show zv_V _ _ _ _ _ 132 [.ref 40, .int (nI (w)), .int (nI (c)), .int (kk), .int (x), .ref (100 + 20 * w), .int ((I (108 + 20 * w) c + nI 1)), .ref (1000 + 8 * nl), .ref (300 + 3 * nl)] [.int (nI (0)), .ref (300 + 3 * nl)] _ _ _ _ _
    refine zv_puti 2 10 dX7_writeByCall_132 fwX7_129 (wWL_s wl2) rfl ?_
    refine zv_aload dX7_writeByCall_135 rfl ?_
    refine zv_getr 3 3 (u := 110 + 20 * w) dX7_writeByCall_137 flX7_238 (wWM_s (W2.2.1 w hw).2) rfl (wWM_r3 (W2.2.1 w hw).2) ?_
    refine zv_iload_n dX7_writeByCall_140 rfl rfl ?_
    refine zv_aload dX7_writeByCall_141 rfl ?_
    refine zv_aast (j := c) (o := some (1000 + 8 * nl)) dX7_writeByCall_143 (wWM_s3 (W2.2.1 w hw).2) (by decide) (Or.inr ⟨_, Or.inr (Or.inr (Or.inr (Or.inl ⟨rfl, wWK_s wk2⟩)))⟩) (fun h => absurd h (by decide)) (rfl) (show c < 6 from by omega) (by decide) ?_
    have W3 : cc_W (cn_sL (zv_sn s1 (300 + 3 * nl) (12, 0)) nl) (wY R1 nl w c) nm nc nl := cc_W_o W2 (fun t ht => zv_u_row _ _ _ _ (fun q => ht ⟨w, Or.inl ⟨q, by omega⟩⟩))
    have wl3 : cc_WL (cn_sL (zv_sn s1 (300 + 3 * nl) (12, 0)) nl) (wY R1 nl w c) nl := cc_WL_o wl2 (zv_u_row _ _ _ _ (by omega)) (zv_u_row _ _ _ _ (by omega))
    refine zv_aload_n dX7_writeByCall_144 rfl rfl ?_
    refine zv_dup dX7_writeByCall_145 rfl ?_
    refine zv_geti 6 8 (x := nI (rm_NA a)) dX7_writeByCall_146 flX7_222 (wW0_s40 W3.1) rfl ((congrFun (zv_u_row _ _ _ _ (by omega)) _).trans ((congrFun (cnI_o (by omega) (by omega) (by omega)) _).trans ((congrFun (zv_n_t _ _ (by omega)) _).trans ((congrFun (eK 40 (by omega)).2.1 8).trans ((zv_u_t _ _ (by omega)).trans ((xT_na RT).trans (xI_n5 H).1)))))) ?_
    refine zv_iconst (v := nI (1)) dX7_writeByCall_149 (by decide) ?_
    refine zv_iadd dX7_writeByCall_150 ?_
    refine cc_top (nI_add (rm_NA a) (1)) ?_
    refine zv_puti 6 8 dX7_writeByCall_151 fwX7_222 (wW0_s40 W3.1) rfl ?_
    refine zv_aload_n dX7_writeByCall_154 rfl rfl ?_
    refine zv_aload dX7_writeByCall_155 rfl ?_
    refine cc_callV (As := [.ref (300 + 3 * nl)]) (st := []) (c := 6) dX7_writeByCall_157 cvX7_246 (wW0_s40 W3.1) rfl rfl rfl (by decide) (cc_c1 rfl cc_c0) (Nat.le_of_ble_eq_true rfl) (cC_send (d + 3) (nm := nm) (nc := nc) (nl := nl) (w := w) (c := c) (n := n) (x := I (50 + c) 0) (h := h) W3 b5 b6 ((zv_u_j _ _ (by decide)).trans ((congrFun (zv_u_row _ _ _ _ (by omega)) _).trans ((congrFun (cnI_o (by omega) (by omega) (by omega)) _).trans ((congrFun (zv_n_t _ _ (by omega)) _).trans ((congrFun (eK 40 (by omega)).2.1 7).trans ((zv_u_t _ _ (by omega)).trans n7)))))) hnl wl3 ((congrFun (zv_u_row _ _ _ _ (by omega)) _).trans ((zv_u_j _ _ (by decide)).trans cnI_l.1)) ((congrFun (zv_u_row _ _ _ _ (by omega)) _).trans ((zv_u_j _ _ (by decide)).trans cnI_l.2.2.1)) ((congrFun (zv_u_row _ _ _ _ (by omega)) _).trans ((zv_u_j _ _ (by decide)).trans cnI_l.2.2.2.1)) hc hw ((congrFun (zv_u_row _ _ _ _ (by omega)) _).trans ((congrFun (zv_u_row _ _ _ _ (by omega)) _).trans ((congrFun (cnI_o (by omega) (by omega) (by omega)) _).trans ((congrFun (zv_n_t _ _ (by omega)) _).trans ((congrFun (eK _ (by omega)).2.1 _).trans ((zv_u_t _ _ (by omega)).trans (rfl))))))) ((congrFun (zv_u_row _ _ _ _ (by omega)) _).trans ((congrFun (zv_u_row _ _ _ _ (by omega)) _).trans ((congrFun (cnI_o (by omega) (by omega) (by omega)) _).trans ((congrFun (zv_n_t _ _ (by omega)) _).trans ((congrFun (eK _ (by omega)).2.1 _).trans ((zv_u_t _ _ (by omega)).trans (g1))))))) (by omega) (fun i hi => ⟨(congrFun ((zv_u_row _ _ _ _ (by omega)).trans ((cnR_o (by omega) (by omega) (by omega)).trans (eK _ (by omega)).2.2)) _).trans (g2.1 i hi).1, (g2.1 i hi).2.1, o_num i hi⟩)) (fun v s1 I1 J1 R1 q => ?_)
    obtain ⟨rfl, rfl, rfl, rfl, rfl⟩ := q
    show zv_V _ _ _ _ _ 160 [.ref 40, .int (nI (w)), .int (nI (c)), .int (kk), .int (x), .ref (100 + 20 * w), .int ((I (108 + 20 * w) c + nI 1)), .ref (1000 + 8 * nl), .ref (300 + 3 * nl)] [] _ _ _ _ _
    have W4 := (xR_B RW.1).1
    refine zv_aload_n dX7_writeByCall_160 rfl rfl ?_
    refine zv_iload_n dX7_writeByCall_161 rfl rfl ?_
    refine cc_callVk (As := [.int (nI (w))]) (st := []) (c := 6) (kc1 := (3 * (rm_NL (rm_gvs w F (rm_c4 a nm nc nl kk w c x) 0).1 - (nl + 1)))) (ks1 := (18 * (rm_NL (rm_gvs w F (rm_c4 a nm nc nl kk w c x) 0).1 - (nl + 1)))) (kc := 0) (ks := 0) dX7_writeByCall_162 cvX7_250 (wW0_s40 W4.1) rfl rfl rfl (by decide) (cc_c1 rfl cc_c0) (Nat.le_of_ble_eq_true rfl) (cC_giveAll d hP ht RW.1 RW.2) (fun v s1 I1 J1 R1 q => ?_)
    obtain ⟨rfl, y1, y2, y3⟩ := q
    show zv_V _ _ _ _ _ 165 [.ref 40, .int (nI (w)), .int (nI (c)), .int (kk), .int (x), .ref (100 + 20 * w), .int ((I (108 + 20 * w) c + nI 1)), .ref (1000 + 8 * nl), .ref (300 + 3 * nl)] [.int ((nI (rm_gvs w F (rm_c4 a nm nc nl kk w c x) 0).2))] _ _ _ _ _
    have W5 := (xR_B y1).1
    have LF5 := (xR_B y1).2.2.2.2.2.2.2 nl (by omega)
    refine zv_pop dX7_writeByCall_165 rfl ?_
    refine zv_aload_n dX7_writeByCall_166 rfl rfl ?_
    refine zv_aload dX7_writeByCall_167 rfl ?_
    refine zv_geti 2 0 (x := nI (nl)) dX7_writeByCall_169 flX7_253 (wWL_s (W5.2.2.2 nl (by omega)).2) rfl (LF5.1) ?_
    refine cc_callV (As := [.int (nI (nl))]) (st := []) (c := 6) dX7_writeByCall_172 cvX7_50 (wW0_s40 W5.1) rfl rfl rfl (by decide) (cc_c1 rfl cc_c0) (Nat.le_of_ble_eq_true rfl) (cC_done (d + 5) W5.1 (nI nl)) (fun v s1 I1 J1 R1 q => ?_)
    obtain ⟨rfl, rfl, rfl, rfl, rfl⟩ := q
    show zv_V _ _ _ _ _ 175 [.ref 40, .int (nI (w)), .int (nI (c)), .int (kk), .int (x), .ref (100 + 20 * w), .int ((I (108 + 20 * w) c + nI 1)), .ref (1000 + 8 * nl), .ref (300 + 3 * nl)] [.int (nI (nl))] _ _ _ _ _
    refine zv_iret dX7_writeByCall_175 rfl rfl ?_
    exact ⟨rfl, cr_sts y1 hgv.1.1 (nI 0), y2, fun t ht9 => ⟨(y3 t ht9).1.trans ((cnS_o (by omega) (by omega) (by omega)).trans (eK t (by omega)).1), (zv_u_row _ _ _ _ (by omega)).trans ((y3 t ht9).2.1.trans (w_fr t ht9)), (y3 t ht9).2.2.trans ((csR_o (by omega) (by omega) (by omega)).trans ((zv_u_row _ _ _ _ (by omega)).trans ((cnR_o (by omega) (by omega) (by omega)).trans (eK t (by omega)).2.2)))⟩⟩
  · have hcla := hckl la hla
    have q1 : ∀ t, 1000 ≤ t → (cn_sL (zv_sn s1 (300 + 3 * nl) (12, 0)) nl) t = s1 t := fun t ht => cnS_o (by omega) (by omega) (by omega)
    have q2 : ∀ t, 1000 ≤ t → (cn_RL (zv_n R1 (300 + 3 * nl) (fun _ => none)) nl (1000 + 8 * nl)) t = R1 t := fun t ht => cnR_o (by omega) (by omega) (by omega)
    have q3 : ∀ t, 1000 ≤ t → (cn_IL (zv_n I1 (300 + 3 * nl) (fun _ => 0)) nl (nI nl) kk (nI c) (nI w) (I (108 + 20 * w) c + nI 1) x) t = I1 t := fun t ht => (cnI_o (by omega) (by omega) (by omega)).trans (zv_n_t _ _ (by omega))
    have eJ : ∀ t, 1000 + 8 * cc_ck R la ≤ t → t < 1008 + 8 * cc_ck R la → s1 t = sh t ∧ I1 t = I t ∧ R1 t = R t := fun t h1 h2 => ⟨(xK_fr K t (by omega)).1, ((xK_fr K t (by omega)).2.1).trans (zv_u_row _ _ _ _ (by omega)), (xK_fr K t (by omega)).2.2.2⟩
    have wj2 : cc_WK (cn_sL (zv_sn s1 (300 + 3 * nl) (12, 0)) nl) (cn_RL (zv_n R1 (300 + 3 * nl) (fun _ => none)) nl (1000 + 8 * nl)) (cc_ck R la) := by
      obtain ⟨w1, w2, w3, w4⟩ := (LF la hla).2.2.2.2.2.2
      unfold cc_WK
      rw [q1 _ (by omega), q1 (1001 + 8 * cc_ck R la) (by omega), q2 _ (by omega), q2 (1001 + 8 * cc_ck R la) (by omega), (eJ _ (by omega) (by omega)).1, (eJ (1001 + 8 * cc_ck R la) (by omega) (by omega)).1, (eJ _ (by omega) (by omega)).2.2, (eJ (1001 + 8 * cc_ck R la) (by omega) (by omega)).2.2]
      exact ⟨w1, w2, w3, fun e he => by rw [q1 _ (by omega), (eJ _ (by omega) (by omega)).1]; exact w4 e he⟩
    have S9 := c4_nS (kk := kk) (x := x) H hnl hw hc
    have hr1 : ∀ e, e < 6 → ((cn_RL (zv_n R1 (300 + 3 * nl) (fun _ => none)) nl (1000 + 8 * nl)) (1001 + 8 * nl) e).isSome = rm_row (rm_c4 a nm nc nl kk w c x) nl e := fun e he => by
      have h1 := xL_r L9 e he
      rw [ck9, csR_o (by omega) (by omega) (by omega)] at h1
      unfold wY at h1
      rw [zv_u_row _ _ _ _ (by omega)] at h1
      exact h1
    have hrla : ∀ e, rm_row (rm_c4 a nm nc nl kk w c x) la e = rm_row a la e := fun e => by unfold rm_row; rw [xN_l S9 18 la (by omega) (by omega) (by omega)]
    have hsv : nI (cc_smS (cc_sm (cn_IL (zv_n I1 (300 + 3 * nl) (fun _ => 0)) nl (nI nl) kk (nI c) (nI w) (I (108 + 20 * w) c + nI 1) x) (cn_RL (zv_n R1 (300 + 3 * nl) (fun _ => none)) nl (1000 + 8 * nl)) nl (cc_ck R la)) 6) = rm_c4 a nm nc nl kk w c x 17 nl := by
      rw [c4_17, c4_sav H (by omega) (by omega) hnl, if_neg (by rw [z]; exact nI_m1 (by omega)), z, rm_nv_n (by omega)]
      congr 1
      refine sav_eq hr1 (fun e he => ?_) (fun e he h1 => xI_rn hP.1 nl e (by omega) he h1) (fun e m he hm h1 => ?_) (fun e m he hm h1 => ?_) (fun e he => ?_)
      · rw [hrla, q2 _ (by omega), (eJ _ (by omega) (by omega)).2.2]; exact xL_r (RLt la hla) e he
      · have h2 := xL_cv L9 e m he hm
        obtain ⟨k1, k2, k3⟩ := cr_rws L9 ((xR_B RW0).2.2.2.2.2.2.2 nl (by omega)).2.2.2.2.2.2 he h1
        have h3 := k3 m hm
        rw [ck9, csI_o (by omega) (by omega) (by omega)] at h3
        unfold wX at h3
        rw [zv_u_row _ _ _ _ (by omega), zv_u_row _ _ _ _ (by omega)] at h3
        exact h3
      · rw [hrla] at h1
        obtain ⟨k1, k2, k3⟩ := cr_rws (RLt la hla) (LF la hla).2.2.2.2.2.2 he h1
        rw [q3 _ (by omega), (eJ _ (by omega) (by omega)).2.1, k3 m hm]
        have h4 := xN_t S9 la (8 * e + m) (by omega) (by omega) (by omega)
        rw [← Nat.add_assoc] at h4
        exact h4.symm
      · rw [cnI_o (by omega) (by omega) (by omega), zv_n_t _ _ (by omega), (eK _ (by omega)).2.1, zv_u_row _ _ _ _ (by omega), xC_b (RC e he), xN_o S9 6 (by omega)]
    have RW := cr_write (sv := (nI (cc_smS (cc_sm (cn_IL (zv_n I1 (300 + 3 * nl) (fun _ => 0)) nl (nI nl) kk (nI c) (nI w) (I (108 + 20 * w) c + nI 1) x) (cn_RL (zv_n R1 (300 + 3 * nl) (fun _ => none)) nl (1000 + 8 * nl)) nl (cc_ck R la)) 6))) RL FR H hA hw hc hin K hsv g1 g2
    have o_num : ∀ i, i < n → (wX I1 nl w c kk (I (108 + 20 * w) c + nI 1) x (nI (cc_smS (cc_sm (cn_IL (zv_n I1 (300 + 3 * nl) (fun _ => 0)) nl (nI nl) kk (nI c) (nI w) (I (108 + 20 * w) c + nI 1) x) (cn_RL (zv_n R1 (300 + 3 * nl) (fun _ => none)) nl (1000 + 8 * nl)) nl (cc_ck R la)) 6)) (nI (rm_NA a + 1))) (300 + 3 * h i) 0 = nI (h i) := fun i hi => by
      have hx := (g2.1 i hi).2.1
      unfold wX
      rw [zv_u_row _ _ _ _ (by omega), zv_u_row _ _ _ _ (by omega), cnI_o (by omega) (by omega) (by omega), zv_n_t _ _ (by omega), (eK _ (by omega)).2.1, zv_u_row _ _ _ _ (by omega)]
      exact (LF _ hx).1
    have w_fr : ∀ t, t < 40 → cs_I (wX I1 nl w c kk (I (108 + 20 * w) c + nI 1) x (nI (cc_smS (cc_sm (cn_IL (zv_n I1 (300 + 3 * nl) (fun _ => 0)) nl (nI nl) kk (nI c) (nI w) (I (108 + 20 * w) c + nI 1) x) (cn_RL (zv_n R1 (300 + 3 * nl) (fun _ => none)) nl (1000 + 8 * nl)) nl (cc_ck R la)) 6)) (nI (rm_NA a + 1))) nl w n (I (50 + c) 0) t = I t := fun t ht9 => by
      rw [csI_o (by omega) (by omega) (by omega)]
      unfold wX
      rw [zv_u_row _ _ _ _ (by omega), zv_u_row _ _ _ _ (by omega), cnI_o (by omega) (by omega) (by omega), zv_n_t _ _ (by omega), (eK _ (by omega)).2.1, zv_u_row _ _ _ _ (by omega)]
    refine zv_astore (lv' := [.ref 40, .int (nI (w)), .int (nI (c)), .int (kk), .int (x), .ref (100 + 20 * w), .int ((I (108 + 20 * w) c + nI 1)), .ref (1000 + 8 * nl), .ref (300 + 3 * nl)]) dX7_writeByCall_112 (by decide) rfl ?_
    refine zv_aload dX7_writeByCall_114 rfl ?_
    refine zv_aload dX7_writeByCall_116 rfl ?_
    refine zv_aload dX7_writeByCall_118 rfl ?_
    refine zv_getr 3 3 (u := 110 + 20 * w) dX7_writeByCall_120 flX7_238 (wWM_s (W2.2.1 w hw).2) rfl (wWM_r3 (W2.2.1 w hw).2) ?_
    refine zv_iload_n dX7_writeByCall_123 rfl rfl ?_
    refine zv_aald (j := c) (o := some (1000 + 8 * cc_ck R la)) dX7_writeByCall_124 (wWM_s3 (W2.2.1 w hw).2) (by decide) (by decide) (rfl) (show c < 6 from by omega) (by decide) (e110.trans (by rw [z]; unfold cr_lc; rw [if_neg (nI_m1 (by omega)), rm_nv_n (by omega)])) ?_
    show zv_V _ _ _ _ _ 125 [.ref 40, .int (nI (w)), .int (nI (c)), .int (kk), .int (x), .ref (100 + 20 * w), .int ((I (108 + 20 * w) c + nI 1)), .ref (1000 + 8 * nl), .ref (300 + 3 * nl)] [.ref (1000 + 8 * cc_ck R la), .ref (1000 + 8 * nl), .ref (300 + 3 * nl)] _ _ _ _ _
    refine zv_aload_n dX7_writeByCall_125 rfl rfl ?_
    refine zv_getr 6 1 (u := 42) dX7_writeByCall_126 flX7_17 (wW0_s40 W2.1) rfl (wW0_r1 W2.1) ?_
    refine cc_callV (As := [.ref (1000 + 8 * cc_ck R la), .ref 42]) (st := [.ref (300 + 3 * nl)]) (c := 1) dX7_writeByCall_129 cvX7_242 (wWK_s wk2) rfl rfl rfl (by decide) (cc_c1 rfl (cc_c1 rfl cc_c0)) (Nat.le_of_ble_eq_true rfl) (cC_sameCounts (d + 3) W2 wk2 wj2 (fun e he hne => xI_rn hP.1 nl e (by omega) he (by rw [← hr1 e he]; exact Option.isSome_iff_ne_none.mpr hne))) (fun v s1 I1 J1 R1 q => ?_)
    obtain ⟨rfl, rfl, rfl, rfl, rfl⟩ := q
    show zv_V _ _ _ _ _ 132 [.ref 40, .int (nI (w)), .int (nI (c)), .int (kk), .int (x), .ref (100 + 20 * w), .int ((I (108 + 20 * w) c + nI 1)), .ref (1000 + 8 * nl), .ref (300 + 3 * nl)] [.int (nI (cc_smS (cc_sm (cn_IL (zv_n I1 (300 + 3 * nl) (fun _ => 0)) nl (nI nl) kk (nI c) (nI w) (I (108 + 20 * w) c + nI 1) x) (cn_RL (zv_n R1 (300 + 3 * nl) (fun _ => none)) nl (1000 + 8 * nl)) nl (cc_ck R la)) 6)), .ref (300 + 3 * nl)] _ _ _ _ _
    refine zv_puti 2 10 dX7_writeByCall_132 fwX7_129 (wWL_s wl2) rfl ?_
    refine zv_aload dX7_writeByCall_135 rfl ?_
    refine zv_getr 3 3 (u := 110 + 20 * w) dX7_writeByCall_137 flX7_238 (wWM_s (W2.2.1 w hw).2) rfl (wWM_r3 (W2.2.1 w hw).2) ?_
    refine zv_iload_n dX7_writeByCall_140 rfl rfl ?_
    refine zv_aload dX7_writeByCall_141 rfl ?_
    refine zv_aast (j := c) (o := some (1000 + 8 * nl)) dX7_writeByCall_143 (wWM_s3 (W2.2.1 w hw).2) (by decide) (Or.inr ⟨_, Or.inr (Or.inr (Or.inr (Or.inl ⟨rfl, wWK_s wk2⟩)))⟩) (fun h => absurd h (by decide)) (rfl) (show c < 6 from by omega) (by decide) ?_
    have W3 : cc_W (cn_sL (zv_sn s1 (300 + 3 * nl) (12, 0)) nl) (wY R1 nl w c) nm nc nl := cc_W_o W2 (fun t ht => zv_u_row _ _ _ _ (fun q => ht ⟨w, Or.inl ⟨q, by omega⟩⟩))
    have wl3 : cc_WL (cn_sL (zv_sn s1 (300 + 3 * nl) (12, 0)) nl) (wY R1 nl w c) nl := cc_WL_o wl2 (zv_u_row _ _ _ _ (by omega)) (zv_u_row _ _ _ _ (by omega))
    refine zv_aload_n dX7_writeByCall_144 rfl rfl ?_
    refine zv_dup dX7_writeByCall_145 rfl ?_
    refine zv_geti 6 8 (x := nI (rm_NA a)) dX7_writeByCall_146 flX7_222 (wW0_s40 W3.1) rfl ((congrFun (zv_u_row _ _ _ _ (by omega)) _).trans ((congrFun (cnI_o (by omega) (by omega) (by omega)) _).trans ((congrFun (zv_n_t _ _ (by omega)) _).trans ((congrFun (eK 40 (by omega)).2.1 8).trans ((zv_u_t _ _ (by omega)).trans ((xT_na RT).trans (xI_n5 H).1)))))) ?_
    refine zv_iconst (v := nI (1)) dX7_writeByCall_149 (by decide) ?_
    refine zv_iadd dX7_writeByCall_150 ?_
    refine cc_top (nI_add (rm_NA a) (1)) ?_
    refine zv_puti 6 8 dX7_writeByCall_151 fwX7_222 (wW0_s40 W3.1) rfl ?_
    refine zv_aload_n dX7_writeByCall_154 rfl rfl ?_
    refine zv_aload dX7_writeByCall_155 rfl ?_
    refine cc_callV (As := [.ref (300 + 3 * nl)]) (st := []) (c := 6) dX7_writeByCall_157 cvX7_246 (wW0_s40 W3.1) rfl rfl rfl (by decide) (cc_c1 rfl cc_c0) (Nat.le_of_ble_eq_true rfl) (cC_send (d + 3) (nm := nm) (nc := nc) (nl := nl) (w := w) (c := c) (n := n) (x := I (50 + c) 0) (h := h) W3 b5 b6 ((zv_u_j _ _ (by decide)).trans ((congrFun (zv_u_row _ _ _ _ (by omega)) _).trans ((congrFun (cnI_o (by omega) (by omega) (by omega)) _).trans ((congrFun (zv_n_t _ _ (by omega)) _).trans ((congrFun (eK 40 (by omega)).2.1 7).trans ((zv_u_t _ _ (by omega)).trans n7)))))) hnl wl3 ((congrFun (zv_u_row _ _ _ _ (by omega)) _).trans ((zv_u_j _ _ (by decide)).trans cnI_l.1)) ((congrFun (zv_u_row _ _ _ _ (by omega)) _).trans ((zv_u_j _ _ (by decide)).trans cnI_l.2.2.1)) ((congrFun (zv_u_row _ _ _ _ (by omega)) _).trans ((zv_u_j _ _ (by decide)).trans cnI_l.2.2.2.1)) hc hw ((congrFun (zv_u_row _ _ _ _ (by omega)) _).trans ((congrFun (zv_u_row _ _ _ _ (by omega)) _).trans ((congrFun (cnI_o (by omega) (by omega) (by omega)) _).trans ((congrFun (zv_n_t _ _ (by omega)) _).trans ((congrFun (eK _ (by omega)).2.1 _).trans ((zv_u_t _ _ (by omega)).trans (rfl))))))) ((congrFun (zv_u_row _ _ _ _ (by omega)) _).trans ((congrFun (zv_u_row _ _ _ _ (by omega)) _).trans ((congrFun (cnI_o (by omega) (by omega) (by omega)) _).trans ((congrFun (zv_n_t _ _ (by omega)) _).trans ((congrFun (eK _ (by omega)).2.1 _).trans ((zv_u_t _ _ (by omega)).trans (g1))))))) (by omega) (fun i hi => ⟨(congrFun ((zv_u_row _ _ _ _ (by omega)).trans ((cnR_o (by omega) (by omega) (by omega)).trans (eK _ (by omega)).2.2)) _).trans (g2.1 i hi).1, (g2.1 i hi).2.1, o_num i hi⟩)) (fun v s1 I1 J1 R1 q => ?_)
    obtain ⟨rfl, rfl, rfl, rfl, rfl⟩ := q
    show zv_V _ _ _ _ _ 160 [.ref 40, .int (nI (w)), .int (nI (c)), .int (kk), .int (x), .ref (100 + 20 * w), .int ((I (108 + 20 * w) c + nI 1)), .ref (1000 + 8 * nl), .ref (300 + 3 * nl)] [] _ _ _ _ _
    have W4 := (xR_B RW.1).1
    refine zv_aload_n dX7_writeByCall_160 rfl rfl ?_
    refine zv_iload_n dX7_writeByCall_161 rfl rfl ?_
    refine cc_callVk (As := [.int (nI (w))]) (st := []) (c := 6) (kc1 := (3 * (rm_NL (rm_gvs w F (rm_c4 a nm nc nl kk w c x) 0).1 - (nl + 1)))) (ks1 := (18 * (rm_NL (rm_gvs w F (rm_c4 a nm nc nl kk w c x) 0).1 - (nl + 1)))) (kc := 0) (ks := 0) dX7_writeByCall_162 cvX7_250 (wW0_s40 W4.1) rfl rfl rfl (by decide) (cc_c1 rfl cc_c0) (Nat.le_of_ble_eq_true rfl) (cC_giveAll d hP ht RW.1 RW.2) (fun v s1 I1 J1 R1 q => ?_)
    obtain ⟨rfl, y1, y2, y3⟩ := q
    show zv_V _ _ _ _ _ 165 [.ref 40, .int (nI (w)), .int (nI (c)), .int (kk), .int (x), .ref (100 + 20 * w), .int ((I (108 + 20 * w) c + nI 1)), .ref (1000 + 8 * nl), .ref (300 + 3 * nl)] [.int ((nI (rm_gvs w F (rm_c4 a nm nc nl kk w c x) 0).2))] _ _ _ _ _
    have W5 := (xR_B y1).1
    have LF5 := (xR_B y1).2.2.2.2.2.2.2 nl (by omega)
    refine zv_pop dX7_writeByCall_165 rfl ?_
    refine zv_aload_n dX7_writeByCall_166 rfl rfl ?_
    refine zv_aload dX7_writeByCall_167 rfl ?_
    refine zv_geti 2 0 (x := nI (nl)) dX7_writeByCall_169 flX7_253 (wWL_s (W5.2.2.2 nl (by omega)).2) rfl (LF5.1) ?_
    refine cc_callV (As := [.int (nI (nl))]) (st := []) (c := 6) dX7_writeByCall_172 cvX7_50 (wW0_s40 W5.1) rfl rfl rfl (by decide) (cc_c1 rfl cc_c0) (Nat.le_of_ble_eq_true rfl) (cC_done (d + 5) W5.1 (nI nl)) (fun v s1 I1 J1 R1 q => ?_)
    obtain ⟨rfl, rfl, rfl, rfl, rfl⟩ := q
    show zv_V _ _ _ _ _ 175 [.ref 40, .int (nI (w)), .int (nI (c)), .int (kk), .int (x), .ref (100 + 20 * w), .int ((I (108 + 20 * w) c + nI 1)), .ref (1000 + 8 * nl), .ref (300 + 3 * nl)] [.int (nI (nl))] _ _ _ _ _
    refine zv_iret dX7_writeByCall_175 rfl rfl ?_
    exact ⟨rfl, cr_sts y1 hgv.1.1 (nI 0), y2, fun t ht9 => ⟨(y3 t ht9).1.trans ((cnS_o (by omega) (by omega) (by omega)).trans (eK t (by omega)).1), (zv_u_row _ _ _ _ (by omega)).trans ((y3 t ht9).2.1.trans (w_fr t ht9)), (y3 t ht9).2.2.trans ((csR_o (by omega) (by omega) (by omega)).trans ((zv_u_row _ _ _ _ (by omega)).trans ((cnR_o (by omega) (by omega) (by omega)).trans (eK t (by omega)).2.2)))⟩⟩
