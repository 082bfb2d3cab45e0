theorem cC_deliver_1 (d : Nat) {E : zv_E} {sh : zv_S} {I : zv_I} {J : zv_J} {R : zv_R} {nm nc nl : Nat} {a : zv_I} (hQ : iQ a nm nc nl) (RL : cr_R sh I J R a nm nc nl) (FR : cr_F sh nm nc nl) {x y : Int32} (hbad : (rm_lt x nl && rm_lt y nm) = false) : zv_V E mX7_deliver (d + 1) 0 0 0 [.ref 40, .int x, .int y] [] sh I J R (cr_Q (-1) (zv_u a 3 24 (nI 1)) nm nc nl sh I R) := by
  have H := hQ.1
  obtain ⟨W, n5, b5, n6, b6, n7, b7, LF⟩ := xR_B RL
  have RLt := xR_L RL
  refine zv_aload_n dX7_deliver_0 rfl rfl ?_
  refine zv_iload_n dX7_deliver_1 rfl rfl ?_
  refine cc_callV (As := [.int (x)]) (st := []) (c := 6) dX7_deliver_2 cvX7_71 (wW0_s40 W.1) rfl rfl rfl (by decide) (cc_c1 rfl cc_c0) (Nat.le_of_ble_eq_true rfl) (cC_isLetter (d) W.1 n7 (by omega) x) (fun v s1 I1 J1 R1 q => ?_)
  obtain ⟨rfl, rfl, rfl, rfl, rfl⟩ := q
  show zv_V _ _ _ _ _ 5 [.ref 40, .int (x), .int (y)] [.int (rm_b (rm_lt x nl))] _ _ _ _ _
  refine zv_ifB_eq (tgt := 16) dX7_deliver_5 (by decide) (fun h5 => ?_) (fun h5 => ?_)
  · refine zv_aload_n dX7_deliver_16 rfl rfl ?_
    refine zv_iconst (v := nI (1)) dX7_deliver_17 (by decide) ?_
    refine cc_callV (As := [.int (nI (1))]) (st := []) (c := 6) dX7_deliver_18 cvX7_45 (wW0_s40 W.1) rfl rfl rfl (by decide) (cc_c1 rfl cc_c0) (Nat.le_of_ble_eq_true rfl) (cC_refuse (d) W.1 (nI (1))) (fun v s1 I1 J1 R1 q => ?_)
    obtain ⟨rfl, rfl, rfl, rfl, rfl⟩ := q
    show zv_V _ _ _ _ _ 21 [.ref 40, .int (x), .int (y)] [.int ((-1 : Int32))] _ _ _ _ _
    refine zv_iret dX7_deliver_21 rfl rfl ?_
    exact ⟨rfl, cr_sts RL H (nI 1), FR, fun t ht9 => ⟨rfl, zv_u_row _ _ _ _ (by omega), rfl⟩⟩
  · refine zv_aload_n dX7_deliver_8 rfl rfl ?_
    refine zv_iload_n dX7_deliver_9 rfl rfl ?_
    refine cc_callV (As := [.int (y)]) (st := []) (c := 6) dX7_deliver_10 cvX7_75 (wW0_s40 W.1) rfl rfl rfl (by decide) (cc_c1 rfl cc_c0) (Nat.le_of_ble_eq_true rfl) (cC_isMember (d) W.1 n5 (by omega) y) (fun v s1 I1 J1 R1 q => ?_)
    obtain ⟨rfl, rfl, rfl, rfl, rfl⟩ := q
    show zv_V _ _ _ _ _ 13 [.ref 40, .int (x), .int (y)] [.int (rm_b (rm_lt y nm))] _ _ _ _ _
    refine zv_ifB_ne (tgt := 22) dX7_deliver_13 (by decide) (fun h13 => (absurd hbad (by rw [h5, h13]; decide))) (fun h13 => ?_)
    refine zv_aload_n dX7_deliver_16 rfl rfl ?_
    refine zv_iconst (v := nI (1)) dX7_deliver_17 (by decide) ?_
    refine cc_callV (As := [.int (nI (1))]) (st := []) (c := 6) dX7_deliver_18 cvX7_45 (wW0_s40 W.1) rfl rfl rfl (by decide) (cc_c1 rfl cc_c0) (Nat.le_of_ble_eq_true rfl) (cC_refuse (d) W.1 (nI (1))) (fun v s1 I1 J1 R1 q => ?_)
    obtain ⟨rfl, rfl, rfl, rfl, rfl⟩ := q
    show zv_V _ _ _ _ _ 21 [.ref 40, .int (x), .int (y)] [.int ((-1 : Int32))] _ _ _ _ _
    refine zv_iret dX7_deliver_21 rfl rfl ?_
    exact ⟨rfl, cr_sts RL H (nI 1), FR, fun t ht9 => ⟨rfl, zv_u_row _ _ _ _ (by omega), rfl⟩⟩
theorem cC_deliver_3 (d : Nat) {E : zv_E} {sh : zv_S} {I : zv_I} {J : zv_J} {R : zv_R} {nm nc nl : Nat} {a : zv_I} (hQ : iQ a nm nc nl) (RL : cr_R sh I J R a nm nc nl) (FR : cr_F sh nm nc nl) {l m : Nat} (hl : l < nl) (hm : m < nm) (hs : ¬ a 20 (200 * m + l) = nI 1) : zv_V E mX7_deliver (d + 2) 0 0 0 [.ref 40, .int (nI l), .int (nI m)] [] sh I J R (cr_Q (-1) (zv_u a 3 24 (nI 3)) nm nc nl sh I R) := by
  have H := hQ.1
  obtain ⟨W, n5, b5, n6, b6, n7, b7, LF⟩ := xR_B RL
  have RLt := xR_L RL
  refine zv_aload_n dX7_deliver_0 rfl rfl ?_
  refine zv_iload_n dX7_deliver_1 rfl rfl ?_
  refine cc_callV (As := [.int (nI (l))]) (st := []) (c := 6) dX7_deliver_2 cvX7_71 (wW0_s40 W.1) rfl rfl rfl (by decide) (cc_c1 rfl cc_c0) (Nat.le_of_ble_eq_true rfl) (cC_isLetter (d + 1) W.1 n7 (by omega) (nI (l))) (fun v s1 I1 J1 R1 q => ?_)
  obtain ⟨rfl, rfl, rfl, rfl, rfl⟩ := q
  show zv_V _ _ _ _ _ 5 [.ref 40, .int (nI (l)), .int (nI (m))] [.int (rm_b (rm_lt (nI (l)) nl))] _ _ _ _ _
  refine zv_ifB_eq (tgt := 16) dX7_deliver_5 (by decide) (fun h5 => (absurd h5 (by rw [rm_lt_n (by omega), decide_eq_true hl]; decide))) (fun h5 => ?_)
  refine zv_aload_n dX7_deliver_8 rfl rfl ?_
  refine zv_iload_n dX7_deliver_9 rfl rfl ?_
  refine cc_callV (As := [.int (nI (m))]) (st := []) (c := 6) dX7_deliver_10 cvX7_75 (wW0_s40 W.1) rfl rfl rfl (by decide) (cc_c1 rfl cc_c0) (Nat.le_of_ble_eq_true rfl) (cC_isMember (d + 1) W.1 n5 (by omega) (nI (m))) (fun v s1 I1 J1 R1 q => ?_)
  obtain ⟨rfl, rfl, rfl, rfl, rfl⟩ := q
  show zv_V _ _ _ _ _ 13 [.ref 40, .int (nI (l)), .int (nI (m))] [.int (rm_b (rm_lt (nI (m)) nm))] _ _ _ _ _
  refine zv_ifB_ne (tgt := 22) dX7_deliver_13 (by decide) (fun h13 => ?_) (fun h13 => (absurd h13 (by rw [rm_lt_n (by omega), decide_eq_true hm]; decide)))
  refine zv_aload_n dX7_deliver_22 rfl rfl ?_
  refine zv_getr 6 2 (u := 43) dX7_deliver_23 flX7_23 (wW0_s40 W.1) rfl (wW0_r2 W.1) ?_
  refine zv_iload_n dX7_deliver_26 rfl rfl ?_
  refine zv_aald (j := l) (o := some (300 + 3 * l)) dX7_deliver_27 (wW0_s43 W.1) (by decide) (by decide) (rfl) (show l < 200 from by omega) (by decide) ((W.2.2.2 l hl).1) ?_
  show zv_V _ _ _ _ _ 28 [.ref 40, .int (nI (l)), .int (nI (m))] [.ref (300 + 3 * l)] _ _ _ _ _
  refine zv_iload_n dX7_deliver_28 rfl rfl ?_
  refine cc_callV (As := [.int (nI (m))]) (st := []) (c := 2) dX7_deliver_29 cvX7_78 (wWL_s (W.2.2.2 l hl).2) rfl rfl rfl (by decide) (cc_c1 rfl cc_c0) (Nat.le_of_ble_eq_true rfl) (cC_isOnLineTo (d) (m := m) ((W.2.2.2 l (by omega)).2)) (fun v s1 I1 J1 R1 q => ?_)
  obtain ⟨rfl, rfl, rfl, rfl, rfl⟩ := q
  rw [xL_lb (RLt l (by omega)) m (by omega)]
  show zv_V _ _ _ _ _ 32 [.ref 40, .int (nI (l)), .int (nI (m))] [.int (rm_b (decide (a 20 (200 * m + l) = nI 1)))] _ _ _ _ _
  refine zv_ifB_ne (tgt := 41) dX7_deliver_32 (by decide) (fun h32 => (absurd (of_decide_eq_true h32) hs)) (fun h32 => ?_)
  refine zv_aload_n dX7_deliver_35 rfl rfl ?_
  refine zv_iconst (v := nI (3)) dX7_deliver_36 (by decide) ?_
  refine cc_callV (As := [.int (nI (3))]) (st := []) (c := 6) dX7_deliver_37 cvX7_45 (wW0_s40 W.1) rfl rfl rfl (by decide) (cc_c1 rfl cc_c0) (Nat.le_of_ble_eq_true rfl) (cC_refuse (d + 1) W.1 (nI (3))) (fun v s1 I1 J1 R1 q => ?_)
  obtain ⟨rfl, rfl, rfl, rfl, rfl⟩ := q
  show zv_V _ _ _ _ _ 40 [.ref 40, .int (nI (l)), .int (nI (m))] [.int ((-1 : Int32))] _ _ _ _ _
  refine zv_iret dX7_deliver_40 rfl rfl ?_
  exact ⟨rfl, cr_sts RL H (nI 3), FR, fun t ht9 => ⟨rfl, zv_u_row _ _ _ _ (by omega), rfl⟩⟩
theorem cC_deliver_0 (d : Nat) {E : zv_E} {sh : zv_S} {I : zv_I} {J : zv_J} {R : zv_R} {nm nc nl : Nat} {a : zv_I} (hQ : iQ a nm nc nl) (RL : cr_R sh I J R a nm nc nl) (FR : cr_F sh nm nc nl) {F l m : Nat} (hl : l < nl) (hm : m < nm) (hs : a 20 (200 * m + l) = nI 1) (ht : rm_gvt m F (rm_hld a m l) = true) : zv_V E mX7_deliver (d + 7) (3 * (rm_NL (rm_gvs m F (rm_hld a m l) 0).1 - nl)) (18 * (rm_NL (rm_gvs m F (rm_hld a m l) 0).1 - nl)) 0 [.ref 40, .int (nI l), .int (nI m)] [] sh I J R (cr_Q (nI (rm_gvs m F (rm_hld a m l) 0).2) (zv_u (rm_gvs m F (rm_hld a m l) 0).1 3 24 (nI 0)) nm nc (rm_NL (rm_gvs m F (rm_hld a m l) 0).1) sh I R) := by
  have H := hQ.1
  obtain ⟨W, n5, b5, n6, b6, n7, b7, LF⟩ := xR_B RL
  have RLt := xR_L RL
  obtain ⟨nl2, hnl2, hP2⟩ := gvs_P F (rm_hld a m l) nm nc nl 0 (iQ_hold hQ hm hl hs)
  have H2 : iv (rm_gvs m F (rm_hld a m l) 0).1 nm nc (rm_NL (rm_gvs m F (rm_hld a m l) 0).1) 0 := by rw [(iv_NM hP2.1).2.2]; exact hP2.1
  refine zv_aload_n dX7_deliver_0 rfl rfl ?_
  refine zv_iload_n dX7_deliver_1 rfl rfl ?_
  refine cc_callV (As := [.int (nI (l))]) (st := []) (c := 6) dX7_deliver_2 cvX7_71 (wW0_s40 W.1) rfl rfl rfl (by decide) (cc_c1 rfl cc_c0) (Nat.le_of_ble_eq_true rfl) (cC_isLetter (d + 6) W.1 n7 (by omega) (nI (l))) (fun v s1 I1 J1 R1 q => ?_)
  obtain ⟨rfl, rfl, rfl, rfl, rfl⟩ := q
  show zv_V _ _ _ _ _ 5 [.ref 40, .int (nI (l)), .int (nI (m))] [.int (rm_b (rm_lt (nI (l)) nl))] _ _ _ _ _
  refine zv_ifB_eq (tgt := 16) dX7_deliver_5 (by decide) (fun h5 => (absurd h5 (by rw [rm_lt_n (by omega), decide_eq_true hl]; decide))) (fun h5 => ?_)
  refine zv_aload_n dX7_deliver_8 rfl rfl ?_
  refine zv_iload_n dX7_deliver_9 rfl rfl ?_
  refine cc_callV (As := [.int (nI (m))]) (st := []) (c := 6) dX7_deliver_10 cvX7_75 (wW0_s40 W.1) rfl rfl rfl (by decide) (cc_c1 rfl cc_c0) (Nat.le_of_ble_eq_true rfl) (cC_isMember (d + 6) W.1 n5 (by omega) (nI (m))) (fun v s1 I1 J1 R1 q => ?_)
  obtain ⟨rfl, rfl, rfl, rfl, rfl⟩ := q
  show zv_V _ _ _ _ _ 13 [.ref 40, .int (nI (l)), .int (nI (m))] [.int (rm_b (rm_lt (nI (m)) nm))] _ _ _ _ _
  refine zv_ifB_ne (tgt := 22) dX7_deliver_13 (by decide) (fun h13 => ?_) (fun h13 => (absurd h13 (by rw [rm_lt_n (by omega), decide_eq_true hm]; decide)))
  refine zv_aload_n dX7_deliver_22 rfl rfl ?_
  refine zv_getr 6 2 (u := 43) dX7_deliver_23 flX7_23 (wW0_s40 W.1) rfl (wW0_r2 W.1) ?_
  refine zv_iload_n dX7_deliver_26 rfl rfl ?_
  refine zv_aald (j := l) (o := some (300 + 3 * l)) dX7_deliver_27 (wW0_s43 W.1) (by decide) (by decide) (rfl) (show l < 200 from by omega) (by decide) ((W.2.2.2 l hl).1) ?_
  show zv_V _ _ _ _ _ 28 [.ref 40, .int (nI (l)), .int (nI (m))] [.ref (300 + 3 * l)] _ _ _ _ _
  refine zv_iload_n dX7_deliver_28 rfl rfl ?_
  refine cc_callV (As := [.int (nI (m))]) (st := []) (c := 2) dX7_deliver_29 cvX7_78 (wWL_s (W.2.2.2 l hl).2) rfl rfl rfl (by decide) (cc_c1 rfl cc_c0) (Nat.le_of_ble_eq_true rfl) (cC_isOnLineTo (d + 5) (m := m) ((W.2.2.2 l (by omega)).2)) (fun v s1 I1 J1 R1 q => ?_)
  obtain ⟨rfl, rfl, rfl, rfl, rfl⟩ := q
  rw [xL_lb (RLt l (by omega)) m (by omega)]
  show zv_V _ _ _ _ _ 32 [.ref 40, .int (nI (l)), .int (nI (m))] [.int (rm_b (decide (a 20 (200 * m + l) = nI 1)))] _ _ _ _ _
  refine zv_ifB_ne (tgt := 41) dX7_deliver_32 (by decide) (fun h32 => ?_) (fun h32 => (absurd (decide_eq_true hs) (by rw [h32]; decide)))
  refine zv_aload_n dX7_deliver_41 rfl rfl ?_
  refine zv_aload_n dX7_deliver_42 rfl rfl ?_
  refine zv_aload_n dX7_deliver_43 rfl rfl ?_
  refine zv_getr 6 2 (u := 43) dX7_deliver_44 flX7_23 (wW0_s40 W.1) rfl (wW0_r2 W.1) ?_
  refine zv_iload_n dX7_deliver_47 rfl rfl ?_
  refine zv_aald (j := l) (o := some (300 + 3 * l)) dX7_deliver_48 (wW0_s43 W.1) (by decide) (by decide) (rfl) (show l < 200 from by omega) (by decide) ((W.2.2.2 l hl).1) ?_
  show zv_V _ _ _ _ _ 49 [.ref 40, .int (nI (l)), .int (nI (m))] [.ref (300 + 3 * l), .ref 40, .ref 40] _ _ _ _ _
  refine zv_iload_n dX7_deliver_49 rfl rfl ?_
  refine cc_callVk (As := [.ref (300 + 3 * l), .int (nI (m))]) (st := [.ref 40]) (c := 6) (kc1 := (3 * (rm_NL (rm_gvs m F (rm_hld a m l) 0).1 - nl))) (ks1 := (18 * (rm_NL (rm_gvs m F (rm_hld a m l) 0).1 - nl))) (kc := 0) (ks := 0) dX7_deliver_50 cvX7_81 (wW0_s40 W.1) rfl rfl rfl (by decide) (cc_c1 rfl (cc_c1 rfl cc_c0)) (Nat.le_of_ble_eq_true rfl) (cC_bring d hQ hm hl hs ht RL FR) (fun v s1 I1 J1 R1 q => ?_)
  obtain ⟨rfl, q1, q2, q3⟩ := q
  show zv_V _ _ _ _ _ 53 [.ref 40, .int (nI (l)), .int (nI (m))] [.int ((nI (rm_gvs m F (rm_hld a m l) 0).2)), .ref 40] _ _ _ _ _
  have W2 := (xR_B q1).1
  refine cc_callV (As := [.int ((nI (rm_gvs m F (rm_hld a m l) 0).2))]) (st := []) (c := 6) dX7_deliver_53 cvX7_50 (wW0_s40 W2.1) rfl rfl rfl (by decide) (cc_c1 rfl cc_c0) (Nat.le_of_ble_eq_true rfl) (cC_done (d + 6) W2.1 (nI (rm_gvs m F (rm_hld a m l) 0).2)) (fun v s1 I1 J1 R1 q => ?_)
  obtain ⟨rfl, rfl, rfl, rfl, rfl⟩ := q
  show zv_V _ _ _ _ _ 56 [.ref 40, .int (nI (l)), .int (nI (m))] [.int ((nI (rm_gvs m F (rm_hld a m l) 0).2))] _ _ _ _ _
  refine zv_iret dX7_deliver_56 rfl rfl ?_
  exact ⟨rfl, cr_sts q1 H2 (nI 0), q2, fun t ht9 => ⟨(q3 t ht9).1, (zv_u_row _ _ _ _ (by omega)).trans (q3 t ht9).2.1, (q3 t ht9).2.2⟩⟩
/-- behind the giving all are quiet -/
theorem gvs_iQ {a : zv_I} {r F g nm nc nl : Nat} (hP : iP r a nm nc nl) (ht : rm_gvt r F a = true) : iQ (rm_gvs r F a g).1 nm nc (rm_NL (rm_gvs r F a g).1) ∧ nl ≤ rm_NL (rm_gvs r F a g).1 := by
  obtain ⟨nl2, hnl2, hP2⟩ := gvs_P F a nm nc nl g hP
  obtain ⟨e0, e1, e4⟩ := iv_NM hP2.1
  have hx := gvs_Q F a nm nc nl g hP ht
  unfold rm_nx at hx
  rw [e1, e4] at hx
  rw [e4]
  exact ⟨iP_Q hP2 hx, hnl2⟩
theorem gvt_201 {a : zv_I} {r nm nc nl : Nat} (hP : iP r a nm nc nl) : rm_gvt r 201 a = true := gvt_ok 201 a nm nc nl hP (by omega)
