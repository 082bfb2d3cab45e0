theorem cC_wbc_1 (d : Nat) {E : zv_E} {sh : zv_S} {I : zv_I} {J : zv_J} {R : zv_R} {nm nc nl : Nat} {a : zv_I} (hQ : iQ a nm nc nl) (RL : cr_R sh I J R a nm nc nl) (FR : cr_F sh nm nc nl) {m e kk x : Int32} (hbad : (rm_lt m nm && rm_lt e nc) = false) : zv_V E mX7_writeByCall (d + 1) 0 0 0 [.ref 40, .int m, .int e, .int kk, .int x] [] sh I J R (cr_Q (-1) (zv_u a 3 24 (nI 1)) nm nc nl sh I R) := by
  have H := hQ.1
  have RT := xR_T RL
  have RC := xR_C RL
  have RLt := xR_L RL
  have RM := xR_M RL
  obtain ⟨W, n5, b5, n6, b6, n7, b7, LF⟩ := xR_B RL
  refine zv_aload_n dX7_writeByCall_0 rfl rfl ?_
  refine zv_iload_n dX7_writeByCall_1 rfl rfl ?_
  refine cc_callV (As := [.int (m)]) (st := []) (c := 6) dX7_writeByCall_2 cvX7_75 (wW0_s40 W.1) rfl rfl rfl (by decide) (cc_c1 rfl cc_c0) (Nat.le_of_ble_eq_true rfl) (cC_isMember (d) W.1 n5 (by omega) m) (fun v s1 I1 J1 R1 q => ?_)
  obtain ⟨rfl, rfl, rfl, rfl, rfl⟩ := q
  show zv_V _ _ _ _ _ 5 [.ref 40, .int (m), .int (e), .int (kk), .int (x)] [.int (rm_b (rm_lt m nm))] _ _ _ _ _
  refine zv_ifB_eq (tgt := 16) dX7_writeByCall_5 (by decide) (fun h5 => ?_) (fun h5 => ?_)
  · refine zv_aload_n dX7_writeByCall_16 rfl rfl ?_
    refine zv_iconst (v := nI (1)) dX7_writeByCall_17 (by decide) ?_
    refine cc_callV (As := [.int (nI (1))]) (st := []) (c := 6) dX7_writeByCall_18 cvX7_45 (wW0_s40 W.1) rfl rfl rfl (by decide) (cc_c1 rfl cc_c0) (Nat.le_of_ble_eq_true rfl) (cC_refuse (d) W.1 (nI (1))) (fun v s1 I1 J1 R1 q => ?_)
    obtain ⟨rfl, rfl, rfl, rfl, rfl⟩ := q
    show zv_V _ _ _ _ _ 21 [.ref 40, .int (m), .int (e), .int (kk), .int (x)] [.int ((-1 : Int32))] _ _ _ _ _
    refine zv_iret dX7_writeByCall_21 rfl rfl ?_
    exact ⟨rfl, cr_sts RL H (nI 1), FR, fun t ht9 => ⟨rfl, zv_u_row _ _ _ _ (by omega), rfl⟩⟩
  · refine zv_aload_n dX7_writeByCall_8 rfl rfl ?_
    refine zv_iload_n dX7_writeByCall_9 rfl rfl ?_
    refine cc_callV (As := [.int (e)]) (st := []) (c := 6) dX7_writeByCall_10 cvX7_85 (wW0_s40 W.1) rfl rfl rfl (by decide) (cc_c1 rfl cc_c0) (Nat.le_of_ble_eq_true rfl) (cC_isCircle (d) W.1 n6 (by omega) e) (fun v s1 I1 J1 R1 q => ?_)
    obtain ⟨rfl, rfl, rfl, rfl, rfl⟩ := q
    show zv_V _ _ _ _ _ 13 [.ref 40, .int (m), .int (e), .int (kk), .int (x)] [.int (rm_b (rm_lt e nc))] _ _ _ _ _
    refine zv_ifB_ne (tgt := 22) dX7_writeByCall_13 (by decide) (fun h13 => (absurd hbad (by rw [h5, h13]; decide))) (fun h13 => ?_)
    refine zv_aload_n dX7_writeByCall_16 rfl rfl ?_
    refine zv_iconst (v := nI (1)) dX7_writeByCall_17 (by decide) ?_
    refine cc_callV (As := [.int (nI (1))]) (st := []) (c := 6) dX7_writeByCall_18 cvX7_45 (wW0_s40 W.1) rfl rfl rfl (by decide) (cc_c1 rfl cc_c0) (Nat.le_of_ble_eq_true rfl) (cC_refuse (d) W.1 (nI (1))) (fun v s1 I1 J1 R1 q => ?_)
    obtain ⟨rfl, rfl, rfl, rfl, rfl⟩ := q
    show zv_V _ _ _ _ _ 21 [.ref 40, .int (m), .int (e), .int (kk), .int (x)] [.int ((-1 : Int32))] _ _ _ _ _
    refine zv_iret dX7_writeByCall_21 rfl rfl ?_
    exact ⟨rfl, cr_sts RL H (nI 1), FR, fun t ht9 => ⟨rfl, zv_u_row _ _ _ _ (by omega), rfl⟩⟩
theorem cC_wbc_2 (d : Nat) {E : zv_E} {sh : zv_S} {I : zv_I} {J : zv_J} {R : zv_R} {nm nc nl : Nat} {a : zv_I} (hQ : iQ a nm nc nl) (RL : cr_R sh I J R a nm nc nl) (FR : cr_F sh nm nc nl) {w c : Nat} {kk x : Int32} (hw : w < nm) (hc : c < nc) (h100 : rm_NA a = 100) : zv_V E mX7_writeByCall (d + 1) 0 0 0 [.ref 40, .int (nI w), .int (nI c), .int kk, .int x] [] sh I J R (cr_Q (-1) (zv_u a 3 24 (nI 2)) nm nc nl sh I R) := by
  have H := hQ.1
  have RT := xR_T RL
  have RC := xR_C RL
  have RLt := xR_L RL
  have RM := xR_M RL
  obtain ⟨W, n5, b5, n6, b6, n7, b7, LF⟩ := xR_B RL
  refine zv_aload_n dX7_writeByCall_0 rfl rfl ?_
  refine zv_iload_n dX7_writeByCall_1 rfl rfl ?_
  refine cc_callV (As := [.int (nI (w))]) (st := []) (c := 6) dX7_writeByCall_2 cvX7_75 (wW0_s40 W.1) rfl rfl rfl (by decide) (cc_c1 rfl cc_c0) (Nat.le_of_ble_eq_true rfl) (cC_isMember (d) W.1 n5 (by omega) (nI (w))) (fun v s1 I1 J1 R1 q => ?_)
  obtain ⟨rfl, rfl, rfl, rfl, rfl⟩ := q
  show zv_V _ _ _ _ _ 5 [.ref 40, .int (nI (w)), .int (nI (c)), .int (kk), .int (x)] [.int (rm_b (rm_lt (nI (w)) nm))] _ _ _ _ _
  refine zv_ifB_eq (tgt := 16) dX7_writeByCall_5 (by decide) (fun h5 => (absurd h5 (by rw [rm_lt_n (by omega), decide_eq_true hw]; decide))) (fun h5 => ?_)
  refine zv_aload_n dX7_writeByCall_8 rfl rfl ?_
  refine zv_iload_n dX7_writeByCall_9 rfl rfl ?_
  refine cc_callV (As := [.int (nI (c))]) (st := []) (c := 6) dX7_writeByCall_10 cvX7_85 (wW0_s40 W.1) rfl rfl rfl (by decide) (cc_c1 rfl cc_c0) (Nat.le_of_ble_eq_true rfl) (cC_isCircle (d) W.1 n6 (by omega) (nI (c))) (fun v s1 I1 J1 R1 q => ?_)
  obtain ⟨rfl, rfl, rfl, rfl, rfl⟩ := q
  show zv_V _ _ _ _ _ 13 [.ref 40, .int (nI (w)), .int (nI (c)), .int (kk), .int (x)] [.int (rm_b (rm_lt (nI (c)) nc))] _ _ _ _ _
  refine zv_ifB_ne (tgt := 22) dX7_writeByCall_13 (by decide) (fun h13 => ?_) (fun h13 => (absurd h13 (by rw [rm_lt_n (by omega), decide_eq_true hc]; decide)))
  refine zv_aload_n dX7_writeByCall_22 rfl rfl ?_
  refine zv_geti 6 8 (x := nI (rm_NA a)) dX7_writeByCall_23 flX7_222 (wW0_s40 W.1) rfl ((xT_na RT).trans (xI_n5 H).1) ?_
  refine zv_bipush (v := nI (100)) dX7_writeByCall_26 (by decide) ?_
  refine zv_icN_lt (tgt := 37) dX7_writeByCall_28 (by decide) (by omega) (by omega) (fun h28 => (absurd h28 (by omega))) (fun h28 => ?_)
  refine zv_aload_n dX7_writeByCall_31 rfl rfl ?_
  refine zv_iconst (v := nI (2)) dX7_writeByCall_32 (by decide) ?_
  refine cc_callV (As := [.int (nI (2))]) (st := []) (c := 6) dX7_writeByCall_33 cvX7_45 (wW0_s40 W.1) rfl rfl rfl (by decide) (cc_c1 rfl cc_c0) (Nat.le_of_ble_eq_true rfl) (cC_refuse (d) W.1 (nI (2))) (fun v s1 I1 J1 R1 q => ?_)
  obtain ⟨rfl, rfl, rfl, rfl, rfl⟩ := q
  show zv_V _ _ _ _ _ 36 [.ref 40, .int (nI (w)), .int (nI (c)), .int (kk), .int (x)] [.int ((-1 : Int32))] _ _ _ _ _
  refine zv_iret dX7_writeByCall_36 rfl rfl ?_
  exact ⟨rfl, cr_sts RL H (nI 2), FR, fun t ht9 => ⟨rfl, zv_u_row _ _ _ _ (by omega), rfl⟩⟩
theorem cC_wbc_3 (d : Nat) {E : zv_E} {sh : zv_S} {I : zv_I} {J : zv_J} {R : zv_R} {nm nc nl : Nat} {a : zv_I} (hQ : iQ a nm nc nl) (RL : cr_R sh I J R a nm nc nl) (FR : cr_F sh nm nc nl) {w c : Nat} {kk x : Int32} (hw : w < nm) (hc : c < nc) (hA : rm_NA a < 100) (hbad : (rm_in a w c && cr_may a nl w x) = false) : zv_V E mX7_writeByCall (d + 3) 0 0 0 [.ref 40, .int (nI w), .int (nI c), .int kk, .int x] [] sh I J R (cr_Q (-1) (zv_u a 3 24 (nI 3)) nm nc nl sh I R) := by
  have H := hQ.1
  have RT := xR_T RL
  have RC := xR_C RL
  have RLt := xR_L RL
  have RM := xR_M RL
  obtain ⟨W, n5, b5, n6, b6, n7, b7, LF⟩ := xR_B RL
  refine zv_aload_n dX7_writeByCall_0 rfl rfl ?_
  refine zv_iload_n dX7_writeByCall_1 rfl rfl ?_
  refine cc_callV (As := [.int (nI (w))]) (st := []) (c := 6) dX7_writeByCall_2 cvX7_75 (wW0_s40 W.1) rfl rfl rfl (by decide) (cc_c1 rfl cc_c0) (Nat.le_of_ble_eq_true rfl) (cC_isMember (d + 2) W.1 n5 (by omega) (nI (w))) (fun v s1 I1 J1 R1 q => ?_)
  obtain ⟨rfl, rfl, rfl, rfl, rfl⟩ := q
  show zv_V _ _ _ _ _ 5 [.ref 40, .int (nI (w)), .int (nI (c)), .int (kk), .int (x)] [.int (rm_b (rm_lt (nI (w)) nm))] _ _ _ _ _
  refine zv_ifB_eq (tgt := 16) dX7_writeByCall_5 (by decide) (fun h5 => (absurd h5 (by rw [rm_lt_n (by omega), decide_eq_true hw]; decide))) (fun h5 => ?_)
  refine zv_aload_n dX7_writeByCall_8 rfl rfl ?_
  refine zv_iload_n dX7_writeByCall_9 rfl rfl ?_
  refine cc_callV (As := [.int (nI (c))]) (st := []) (c := 6) dX7_writeByCall_10 cvX7_85 (wW0_s40 W.1) rfl rfl rfl (by decide) (cc_c1 rfl cc_c0) (Nat.le_of_ble_eq_true rfl) (cC_isCircle (d + 2) W.1 n6 (by omega) (nI (c))) (fun v s1 I1 J1 R1 q => ?_)
  obtain ⟨rfl, rfl, rfl, rfl, rfl⟩ := q
  show zv_V _ _ _ _ _ 13 [.ref 40, .int (nI (w)), .int (nI (c)), .int (kk), .int (x)] [.int (rm_b (rm_lt (nI (c)) nc))] _ _ _ _ _
  refine zv_ifB_ne (tgt := 22) dX7_writeByCall_13 (by decide) (fun h13 => ?_) (fun h13 => (absurd h13 (by rw [rm_lt_n (by omega), decide_eq_true hc]; decide)))
  refine zv_aload_n dX7_writeByCall_22 rfl rfl ?_
  refine zv_geti 6 8 (x := nI (rm_NA a)) dX7_writeByCall_23 flX7_222 (wW0_s40 W.1) rfl ((xT_na RT).trans (xI_n5 H).1) ?_
  refine zv_bipush (v := nI (100)) dX7_writeByCall_26 (by decide) ?_
  refine zv_icN_lt (tgt := 37) dX7_writeByCall_28 (by decide) (by omega) (by omega) (fun h28 => ?_) (fun h28 => (absurd h28 (by omega)))
  refine zv_aload_n dX7_writeByCall_37 rfl rfl ?_
  refine zv_getr 6 1 (u := 42) dX7_writeByCall_38 flX7_17 (wW0_s40 W.1) rfl (wW0_r1 W.1) ?_
  refine zv_iload_n dX7_writeByCall_41 rfl rfl ?_
  refine zv_aald (j := c) (o := some (50 + c)) dX7_writeByCall_42 (wW0_s42 W.1) (by decide) (by decide) (rfl) (show c < 6 from by omega) (by decide) ((W.2.2.1 c (by omega)).1) ?_
  show zv_V _ _ _ _ _ 43 [.ref 40, .int (nI (w)), .int (nI (c)), .int (kk), .int (x)] [.ref (50 + c)] _ _ _ _ _
  refine zv_geti 0 0 (x := (a 6 c)) dX7_writeByCall_43 flX7_132 ((W.2.2.1 c (by omega)).2) rfl (xC_b (RC c (by omega))) ?_
  refine zv_iload_n dX7_writeByCall_46 rfl rfl ?_
  refine cc_callS (As := [.int ((a 6 c)), .int (nI (w))]) (st := []) dX7_writeByCall_47 csX7_218 rfl (by decide) (cc_c1 rfl (cc_c1 rfl cc_c0)) (Nat.le_of_ble_eq_true rfl) (cC_hasBit (d + 2) ((a 6 c)) w) (fun v s1 I1 J1 R1 q => ?_)
  obtain ⟨rfl, rfl, rfl, rfl, rfl⟩ := q
  show zv_V _ _ _ _ _ 50 [.ref 40, .int (nI (w)), .int (nI (c)), .int (kk), .int (x)] [.int (rm_b (cb ((a 6 c)) w))] _ _ _ _ _
  refine zv_ifB_eq (tgt := 63) dX7_writeByCall_50 (by decide) (fun h50 => ?_) (fun h50 => ?_)
  · refine zv_aload_n dX7_writeByCall_63 rfl rfl ?_
    refine zv_iconst (v := nI (3)) dX7_writeByCall_64 (by decide) ?_
    refine cc_callV (As := [.int (nI (3))]) (st := []) (c := 6) dX7_writeByCall_65 cvX7_45 (wW0_s40 W.1) rfl rfl rfl (by decide) (cc_c1 rfl cc_c0) (Nat.le_of_ble_eq_true rfl) (cC_refuse (d + 2) W.1 (nI (3))) (fun v s1 I1 J1 R1 q => ?_)
    obtain ⟨rfl, rfl, rfl, rfl, rfl⟩ := q
    show zv_V _ _ _ _ _ 68 [.ref 40, .int (nI (w)), .int (nI (c)), .int (kk), .int (x)] [.int ((-1 : Int32))] _ _ _ _ _
    refine zv_iret dX7_writeByCall_68 rfl rfl ?_
    exact ⟨rfl, cr_sts RL H (nI 3), FR, fun t ht9 => ⟨rfl, zv_u_row _ _ _ _ (by omega), rfl⟩⟩
  · refine zv_aload_n dX7_writeByCall_53 rfl rfl ?_
    refine zv_iload_n dX7_writeByCall_54 rfl rfl ?_
    refine zv_iload dX7_writeByCall_55 rfl ?_
    refine cc_callV (As := [.int (nI (w)), .int (x)]) (st := []) (c := 6) dX7_writeByCall_57 cvX7_225 (wW0_s40 W.1) rfl rfl rfl (by decide) (cc_c1 rfl (cc_c1 rfl cc_c0)) (Nat.le_of_ble_eq_true rfl) (cC_mayAnswer d RL hw x) (fun v s1 I1 J1 R1 q => ?_)
    obtain ⟨rfl, rfl, rfl, rfl, rfl⟩ := q
    show zv_V _ _ _ _ _ 60 [.ref 40, .int (nI (w)), .int (nI (c)), .int (kk), .int (x)] [.int (rm_b (cr_may a nl w x))] _ _ _ _ _
    refine zv_ifB_ne (tgt := 69) dX7_writeByCall_60 (by decide) (fun h60 => (absurd hbad (by rw [show rm_in a w c = true from h50, h60]; decide))) (fun h60 => ?_)
    refine zv_aload_n dX7_writeByCall_63 rfl rfl ?_
    refine zv_iconst (v := nI (3)) dX7_writeByCall_64 (by decide) ?_
    refine cc_callV (As := [.int (nI (3))]) (st := []) (c := 6) dX7_writeByCall_65 cvX7_45 (wW0_s40 W.1) rfl rfl rfl (by decide) (cc_c1 rfl cc_c0) (Nat.le_of_ble_eq_true rfl) (cC_refuse (d + 2) W.1 (nI (3))) (fun v s1 I1 J1 R1 q => ?_)
    obtain ⟨rfl, rfl, rfl, rfl, rfl⟩ := q
    show zv_V _ _ _ _ _ 68 [.ref 40, .int (nI (w)), .int (nI (c)), .int (kk), .int (x)] [.int ((-1 : Int32))] _ _ _ _ _
    refine zv_iret dX7_writeByCall_68 rfl rfl ?_
    exact ⟨rfl, cr_sts RL H (nI 3), FR, fun t ht9 => ⟨rfl, zv_u_row _ _ _ _ (by omega), rfl⟩⟩
