theorem cC_circle_1 (d : Nat) {E : zv_E} {sh : zv_S} {I : zv_I} {J : zv_J} {R : zv_R} {nm nc nl : Nat} {a : zv_I} (hQ : iQ a nm nc nl) (RL : cr_R sh I J R a nm nc nl) (FR : cr_F sh nm nc nl) {x : Int32} (hbad : ¬ (x &&& ((-1 : Int32) <<< (nI nm &&& 31)) = 0 ∧ nI 2 ≤ cbc x)) : zv_V E mX7_circle (d + 1) 0 0 0 [.ref 40, .int x] [] sh I J R (cr_Q (-1) (zv_u a 3 24 (nI 1)) nm nc nl sh I R) := by
  have H := hQ.1
  obtain ⟨W, n5, b5, n6, b6, n7, b7, LF⟩ := xR_B RL
  refine zv_iconst (v := (-1 : Int32)) dX7_circle_0 (by decide) ?_
  refine zv_aload_n dX7_circle_1 rfl rfl ?_
  refine zv_geti 6 5 (x := nI (nm)) dX7_circle_2 flX7_42 (wW0_s40 W.1) rfl (n5) ?_
  refine zv_ishl dX7_circle_5 ?_
  refine zv_istore_n (lv' := [.ref 40, .int (x), .int ((((-1 : Int32)) <<< ((nI (nm)) &&& 31)))]) dX7_circle_6 rfl (by decide) rfl ?_
  refine zv_iload_n dX7_circle_7 rfl rfl ?_
  refine zv_iload_n dX7_circle_8 rfl rfl ?_
  refine zv_iand dX7_circle_9 ?_
  refine zv_if_ne (tgt := 21) dX7_circle_10 (by decide) (fun h10 => ?_) (fun h10 => ?_)
  · refine zv_aload_n dX7_circle_21 rfl rfl ?_
    refine zv_iconst (v := nI (1)) dX7_circle_22 (by decide) ?_
    refine cc_callV (As := [.int (nI (1))]) (st := []) (c := 6) dX7_circle_23 cvX7_45 (wW0_s40 W.1) rfl rfl rfl (by decide) (cc_c1 rfl cc_c0) (Nat.le_of_ble_eq_true rfl) (cC_refuse (d) W.1 (nI (1))) (fun v s1 I1 J1 R1 q => ?_)
    obtain ⟨rfl, rfl, rfl, rfl, rfl⟩ := q
    show zv_V _ _ _ _ _ 26 [.ref 40, .int (x), .int ((((-1 : Int32)) <<< ((nI (nm)) &&& 31)))] [.int ((-1 : Int32))] _ _ _ _ _
    refine zv_iret dX7_circle_26 rfl rfl ?_
    exact ⟨rfl, cr_sts RL H (nI 1), FR, fun t ht9 => ⟨rfl, zv_u_row _ _ _ _ (by omega), rfl⟩⟩
  · refine zv_iload_n dX7_circle_13 rfl rfl ?_
    refine cc_callS (As := [.int (x)]) (st := []) dX7_circle_14 csX7_53 rfl (by decide) (cc_c1 rfl cc_c0) (Nat.le_of_ble_eq_true rfl) (cC_bitCount (d) x) (fun v s1 I1 J1 R1 q => ?_)
    obtain ⟨rfl, rfl, rfl, rfl, rfl⟩ := q
    show zv_V _ _ _ _ _ 17 [.ref 40, .int (x), .int ((((-1 : Int32)) <<< ((nI (nm)) &&& 31)))] [.int ((cbc x))] _ _ _ _ _
    refine zv_iconst (v := nI (2)) dX7_circle_17 (by decide) ?_
    refine zv_icmp_ge (tgt := 27) dX7_circle_18 (by decide) (fun h18 => (absurd ⟨h10, h18⟩ hbad)) (fun h18 => ?_)
    refine zv_aload_n dX7_circle_21 rfl rfl ?_
    refine zv_iconst (v := nI (1)) dX7_circle_22 (by decide) ?_
    refine cc_callV (As := [.int (nI (1))]) (st := []) (c := 6) dX7_circle_23 cvX7_45 (wW0_s40 W.1) rfl rfl rfl (by decide) (cc_c1 rfl cc_c0) (Nat.le_of_ble_eq_true rfl) (cC_refuse (d) W.1 (nI (1))) (fun v s1 I1 J1 R1 q => ?_)
    obtain ⟨rfl, rfl, rfl, rfl, rfl⟩ := q
    show zv_V _ _ _ _ _ 26 [.ref 40, .int (x), .int ((((-1 : Int32)) <<< ((nI (nm)) &&& 31)))] [.int ((-1 : Int32))] _ _ _ _ _
    refine zv_iret dX7_circle_26 rfl rfl ?_
    exact ⟨rfl, cr_sts RL H (nI 1), FR, fun t ht9 => ⟨rfl, zv_u_row _ _ _ _ (by omega), rfl⟩⟩
theorem cC_circle_2 (d : Nat) {E : zv_E} {sh : zv_S} {I : zv_I} {J : zv_J} {R : zv_R} {nm nc nl : Nat} {a : zv_I} (hQ : iQ a nm nc nl) (RL : cr_R sh I J R a nm nc nl) (FR : cr_F sh nm nc nl) {x : Int32} (hok : x &&& ((-1 : Int32) <<< (nI nm &&& 31)) = 0 ∧ nI 2 ≤ cbc x) (h6 : nc = 6) : zv_V E mX7_circle (d + 1) 0 0 0 [.ref 40, .int x] [] sh I J R (cr_Q (-1) (zv_u a 3 24 (nI 2)) nm nc nl sh I R) := by
  have H := hQ.1
  obtain ⟨W, n5, b5, n6, b6, n7, b7, LF⟩ := xR_B RL
  refine zv_iconst (v := (-1 : Int32)) dX7_circle_0 (by decide) ?_
  refine zv_aload_n dX7_circle_1 rfl rfl ?_
  refine zv_geti 6 5 (x := nI (nm)) dX7_circle_2 flX7_42 (wW0_s40 W.1) rfl (n5) ?_
  refine zv_ishl dX7_circle_5 ?_
  refine zv_istore_n (lv' := [.ref 40, .int (x), .int ((((-1 : Int32)) <<< ((nI (nm)) &&& 31)))]) dX7_circle_6 rfl (by decide) rfl ?_
  refine zv_iload_n dX7_circle_7 rfl rfl ?_
  refine zv_iload_n dX7_circle_8 rfl rfl ?_
  refine zv_iand dX7_circle_9 ?_
  refine zv_if_ne (tgt := 21) dX7_circle_10 (by decide) (fun h10 => (absurd hok.1 h10)) (fun h10 => ?_)
  refine zv_iload_n dX7_circle_13 rfl rfl ?_
  refine cc_callS (As := [.int (x)]) (st := []) dX7_circle_14 csX7_53 rfl (by decide) (cc_c1 rfl cc_c0) (Nat.le_of_ble_eq_true rfl) (cC_bitCount (d) x) (fun v s1 I1 J1 R1 q => ?_)
  obtain ⟨rfl, rfl, rfl, rfl, rfl⟩ := q
  show zv_V _ _ _ _ _ 17 [.ref 40, .int (x), .int ((((-1 : Int32)) <<< ((nI (nm)) &&& 31)))] [.int ((cbc x))] _ _ _ _ _
  refine zv_iconst (v := nI (2)) dX7_circle_17 (by decide) ?_
  refine zv_icmp_ge (tgt := 27) dX7_circle_18 (by decide) (fun h18 => ?_) (fun h18 => (absurd hok.2 h18))
  refine zv_aload_n dX7_circle_27 rfl rfl ?_
  refine zv_geti 6 6 (x := nI (nc)) dX7_circle_28 flX7_58 (wW0_s40 W.1) rfl (n6) ?_
  refine zv_bipush (v := nI (6)) dX7_circle_31 (by decide) ?_
  refine zv_icN_lt (tgt := 42) dX7_circle_33 (by decide) (by omega) (by omega) (fun h33 => (absurd h33 (by omega))) (fun h33 => ?_)
  refine zv_aload_n dX7_circle_36 rfl rfl ?_
  refine zv_iconst (v := nI (2)) dX7_circle_37 (by decide) ?_
  refine cc_callV (As := [.int (nI (2))]) (st := []) (c := 6) dX7_circle_38 cvX7_45 (wW0_s40 W.1) rfl rfl rfl (by decide) (cc_c1 rfl cc_c0) (Nat.le_of_ble_eq_true rfl) (cC_refuse (d) W.1 (nI (2))) (fun v s1 I1 J1 R1 q => ?_)
  obtain ⟨rfl, rfl, rfl, rfl, rfl⟩ := q
  show zv_V _ _ _ _ _ 41 [.ref 40, .int (x), .int ((((-1 : Int32)) <<< ((nI (nm)) &&& 31)))] [.int ((-1 : Int32))] _ _ _ _ _
  refine zv_iret dX7_circle_41 rfl rfl ?_
  exact ⟨rfl, cr_sts RL H (nI 2), FR, fun t ht9 => ⟨rfl, zv_u_row _ _ _ _ (by omega), rfl⟩⟩
