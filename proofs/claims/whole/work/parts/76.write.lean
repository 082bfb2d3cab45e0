theorem cC_write_y (d : Nat) {E : zv_E} {sh : zv_S} {I : zv_I} {J : zv_J} {R : zv_R} {nm nc nl : Nat} {a : zv_I} (hQ : iQ a nm nc nl) (RL : cr_R sh I J R a nm nc nl) (FR : cr_F sh nm nc nl) {X : Int32} {b : zv_I} {nm' nc' nl' kc ks : Nat} {m e k : Int32} (hk : k = 0 ∨ k = nI 4 ∨ k = nI 5) (hV : zv_V E mX7_writeByCall d kc ks 0 [.ref 40, .int m, .int e, .int k, .int (-1 : Int32)] [] sh I J R (cr_Q X b nm' nc' nl' sh I R)) : zv_V E mX7_write (d + 1) kc ks 0 [.ref 40, .int m, .int e, .int k] [] sh I J R (cr_Q X b nm' nc' nl' sh I R) := by
  have H := hQ.1
  obtain ⟨W, n5, b5, n6, b6, n7, b7, LF⟩ := xR_B RL
  refine zv_iload_n dX7_write_0 rfl rfl ?_
  refine zv_if_eq (tgt := 20) dX7_write_1 (by decide) (fun h1 => ?_) (fun h1 => ?_)
  · refine zv_aload_n dX7_write_20 rfl rfl ?_
    refine zv_iload_n dX7_write_21 rfl rfl ?_
    refine zv_iload_n dX7_write_22 rfl rfl ?_
    refine zv_iload_n dX7_write_23 rfl rfl ?_
    refine zv_iconst (v := (-1 : Int32)) dX7_write_24 (by decide) ?_
    refine cc_callVk (As := [.int (m), .int (e), .int (k), .int ((-1 : Int32))]) (st := []) (c := 6) (kc1 := kc) (ks1 := ks) (kc := 0) (ks := 0) dX7_write_25 cvX7_67 (wW0_s40 W.1) rfl rfl rfl (by decide) (cc_c1 rfl (cc_c1 rfl (cc_c1 rfl (cc_c1 rfl cc_c0)))) (Nat.le_of_ble_eq_true rfl) (hV) (fun v s1 I1 J1 R1 q => ?_)
    obtain ⟨rfl, y1⟩ := q
    show zv_V _ _ _ _ _ 28 [.ref 40, .int (m), .int (e), .int (k)] [.int (X)] _ _ _ _ _
    refine zv_iret dX7_write_28 rfl rfl ?_
    exact ⟨rfl, y1⟩
  · refine zv_iload_n dX7_write_4 rfl rfl ?_
    refine zv_iconst (v := nI (4)) dX7_write_5 (by decide) ?_
    refine zv_icmp_eq (tgt := 20) dX7_write_6 (by decide) (fun h6 => ?_) (fun h6 => ?_)
    · refine zv_aload_n dX7_write_20 rfl rfl ?_
      refine zv_iload_n dX7_write_21 rfl rfl ?_
      refine zv_iload_n dX7_write_22 rfl rfl ?_
      refine zv_iload_n dX7_write_23 rfl rfl ?_
      refine zv_iconst (v := (-1 : Int32)) dX7_write_24 (by decide) ?_
      refine cc_callVk (As := [.int (m), .int (e), .int (k), .int ((-1 : Int32))]) (st := []) (c := 6) (kc1 := kc) (ks1 := ks) (kc := 0) (ks := 0) dX7_write_25 cvX7_67 (wW0_s40 W.1) rfl rfl rfl (by decide) (cc_c1 rfl (cc_c1 rfl (cc_c1 rfl (cc_c1 rfl cc_c0)))) (Nat.le_of_ble_eq_true rfl) (hV) (fun v s1 I1 J1 R1 q => ?_)
      obtain ⟨rfl, y1⟩ := q
      show zv_V _ _ _ _ _ 28 [.ref 40, .int (m), .int (e), .int (k)] [.int (X)] _ _ _ _ _
      refine zv_iret dX7_write_28 rfl rfl ?_
      exact ⟨rfl, y1⟩
    · refine zv_iload_n dX7_write_9 rfl rfl ?_
      refine zv_iconst (v := nI (5)) dX7_write_10 (by decide) ?_
      refine zv_icmp_eq (tgt := 20) dX7_write_11 (by decide) (fun h11 => ?_) (fun h11 => (absurd hk (fun q => q.elim h1 (fun q => q.elim h6 h11))))
      refine zv_aload_n dX7_write_20 rfl rfl ?_
      refine zv_iload_n dX7_write_21 rfl rfl ?_
      refine zv_iload_n dX7_write_22 rfl rfl ?_
      refine zv_iload_n dX7_write_23 rfl rfl ?_
      refine zv_iconst (v := (-1 : Int32)) dX7_write_24 (by decide) ?_
      refine cc_callVk (As := [.int (m), .int (e), .int (k), .int ((-1 : Int32))]) (st := []) (c := 6) (kc1 := kc) (ks1 := ks) (kc := 0) (ks := 0) dX7_write_25 cvX7_67 (wW0_s40 W.1) rfl rfl rfl (by decide) (cc_c1 rfl (cc_c1 rfl (cc_c1 rfl (cc_c1 rfl cc_c0)))) (Nat.le_of_ble_eq_true rfl) (hV) (fun v s1 I1 J1 R1 q => ?_)
      obtain ⟨rfl, y1⟩ := q
      show zv_V _ _ _ _ _ 28 [.ref 40, .int (m), .int (e), .int (k)] [.int (X)] _ _ _ _ _
      refine zv_iret dX7_write_28 rfl rfl ?_
      exact ⟨rfl, y1⟩
theorem cC_write_n (d : Nat) {E : zv_E} {sh : zv_S} {I : zv_I} {J : zv_J} {R : zv_R} {nm nc nl : Nat} {a : zv_I} (hQ : iQ a nm nc nl) (RL : cr_R sh I J R a nm nc nl) (FR : cr_F sh nm nc nl) {m e k : Int32} (hk : ¬ (k = 0 ∨ k = nI 4 ∨ k = nI 5)) : zv_V E mX7_write (d + 1) 0 0 0 [.ref 40, .int m, .int e, .int k] [] sh I J R (cr_Q (-1) (zv_u a 3 24 (nI 1)) nm nc nl sh I R) := by
  have H := hQ.1
  obtain ⟨W, n5, b5, n6, b6, n7, b7, LF⟩ := xR_B RL
  refine zv_iload_n dX7_write_0 rfl rfl ?_
  refine zv_if_eq (tgt := 20) dX7_write_1 (by decide) (fun h1 => (absurd (Or.inl h1) hk)) (fun h1 => ?_)
  refine zv_iload_n dX7_write_4 rfl rfl ?_
  refine zv_iconst (v := nI (4)) dX7_write_5 (by decide) ?_
  refine zv_icmp_eq (tgt := 20) dX7_write_6 (by decide) (fun h6 => (absurd (Or.inr (Or.inl h6)) hk)) (fun h6 => ?_)
  refine zv_iload_n dX7_write_9 rfl rfl ?_
  refine zv_iconst (v := nI (5)) dX7_write_10 (by decide) ?_
  refine zv_icmp_eq (tgt := 20) dX7_write_11 (by decide) (fun h11 => (absurd (Or.inr (Or.inr h11)) hk)) (fun h11 => ?_)
  refine zv_aload_n dX7_write_14 rfl rfl ?_
  refine zv_iconst (v := nI (1)) dX7_write_15 (by decide) ?_
  refine cc_callV (As := [.int (nI (1))]) (st := []) (c := 6) dX7_write_16 cvX7_45 (wW0_s40 W.1) rfl rfl rfl (by decide) (cc_c1 rfl cc_c0) (Nat.le_of_ble_eq_true rfl) (cC_refuse (d) W.1 (nI (1))) (fun v s1 I1 J1 R1 q => ?_)
  obtain ⟨rfl, rfl, rfl, rfl, rfl⟩ := q
  show zv_V _ _ _ _ _ 19 [.ref 40, .int (m), .int (e), .int (k)] [.int ((-1 : Int32))] _ _ _ _ _
  refine zv_iret dX7_write_19 rfl rfl ?_
  exact ⟨rfl, cr_sts RL H (nI 1), FR, fun t ht9 => ⟨rfl, zv_u_row _ _ _ _ (by omega), rfl⟩⟩
theorem cC_reply_y (d : Nat) {E : zv_E} {sh : zv_S} {I : zv_I} {J : zv_J} {R : zv_R} {nm nc nl : Nat} {a : zv_I} (hQ : iQ a nm nc nl) (RL : cr_R sh I J R a nm nc nl) (FR : cr_F sh nm nc nl) {X : Int32} {b : zv_I} {nm' nc' nl' kc ks : Nat} {m e k : Int32} (hk : rm_lt k nl = true) (hV : zv_V E mX7_writeByCall d kc ks 0 [.ref 40, .int m, .int e, .int (nI 1), .int k] [] sh I J R (cr_Q X b nm' nc' nl' sh I R)) : zv_V E mX7_reply (d + 1) kc ks 0 [.ref 40, .int m, .int e, .int k] [] sh I J R (cr_Q X b nm' nc' nl' sh I R) := by
  have H := hQ.1
  obtain ⟨W, n5, b5, n6, b6, n7, b7, LF⟩ := xR_B RL
  refine zv_aload_n dX7_reply_0 rfl rfl ?_
  refine zv_iload_n dX7_reply_1 rfl rfl ?_
  refine cc_callV (As := [.int (k)]) (st := []) (c := 6) dX7_reply_2 cvX7_71 (wW0_s40 W.1) rfl rfl rfl (by decide) (cc_c1 rfl cc_c0) (Nat.le_of_ble_eq_true rfl) (cC_isLetter (d) W.1 n7 (by omega) k) (fun v s1 I1 J1 R1 q => ?_)
  obtain ⟨rfl, rfl, rfl, rfl, rfl⟩ := q
  show zv_V _ _ _ _ _ 5 [.ref 40, .int (m), .int (e), .int (k)] [.int (rm_b (rm_lt k nl))] _ _ _ _ _
  refine zv_ifB_ne (tgt := 14) dX7_reply_5 (by decide) (fun h5 => ?_) (fun h5 => (absurd (h5.symm.trans hk) (by decide)))
  refine zv_aload_n dX7_reply_14 rfl rfl ?_
  refine zv_iload_n dX7_reply_15 rfl rfl ?_
  refine zv_iload_n dX7_reply_16 rfl rfl ?_
  refine zv_iconst (v := nI (1)) dX7_reply_17 (by decide) ?_
  refine zv_iload_n dX7_reply_18 rfl rfl ?_
  refine cc_callVk (As := [.int (m), .int (e), .int (nI (1)), .int (k)]) (st := []) (c := 6) (kc1 := kc) (ks1 := ks) (kc := 0) (ks := 0) dX7_reply_19 cvX7_67 (wW0_s40 W.1) rfl rfl rfl (by decide) (cc_c1 rfl (cc_c1 rfl (cc_c1 rfl (cc_c1 rfl cc_c0)))) (Nat.le_of_ble_eq_true rfl) (hV) (fun v s1 I1 J1 R1 q => ?_)
  obtain ⟨rfl, y1⟩ := q
  show zv_V _ _ _ _ _ 22 [.ref 40, .int (m), .int (e), .int (k)] [.int (X)] _ _ _ _ _
  refine zv_iret dX7_reply_22 rfl rfl ?_
  exact ⟨rfl, y1⟩
theorem cC_reply_n (d : Nat) {E : zv_E} {sh : zv_S} {I : zv_I} {J : zv_J} {R : zv_R} {nm nc nl : Nat} {a : zv_I} (hQ : iQ a nm nc nl) (RL : cr_R sh I J R a nm nc nl) (FR : cr_F sh nm nc nl) {m e k : Int32} (hk : rm_lt k nl = false) : zv_V E mX7_reply (d + 1) 0 0 0 [.ref 40, .int m, .int e, .int k] [] sh I J R (cr_Q (-1) (zv_u a 3 24 (nI 1)) nm nc nl sh I R) := by
  have H := hQ.1
  obtain ⟨W, n5, b5, n6, b6, n7, b7, LF⟩ := xR_B RL
  refine zv_aload_n dX7_reply_0 rfl rfl ?_
  refine zv_iload_n dX7_reply_1 rfl rfl ?_
  refine cc_callV (As := [.int (k)]) (st := []) (c := 6) dX7_reply_2 cvX7_71 (wW0_s40 W.1) rfl rfl rfl (by decide) (cc_c1 rfl cc_c0) (Nat.le_of_ble_eq_true rfl) (cC_isLetter (d) W.1 n7 (by omega) k) (fun v s1 I1 J1 R1 q => ?_)
  obtain ⟨rfl, rfl, rfl, rfl, rfl⟩ := q
  show zv_V _ _ _ _ _ 5 [.ref 40, .int (m), .int (e), .int (k)] [.int (rm_b (rm_lt k nl))] _ _ _ _ _
  refine zv_ifB_ne (tgt := 14) dX7_reply_5 (by decide) (fun h5 => (absurd (h5.symm.trans hk) (by decide))) (fun h5 => ?_)
  refine zv_aload_n dX7_reply_8 rfl rfl ?_
  refine zv_iconst (v := nI (1)) dX7_reply_9 (by decide) ?_
  refine cc_callV (As := [.int (nI (1))]) (st := []) (c := 6) dX7_reply_10 cvX7_45 (wW0_s40 W.1) rfl rfl rfl (by decide) (cc_c1 rfl cc_c0) (Nat.le_of_ble_eq_true rfl) (cC_refuse (d) W.1 (nI (1))) (fun v s1 I1 J1 R1 q => ?_)
  obtain ⟨rfl, rfl, rfl, rfl, rfl⟩ := q
  show zv_V _ _ _ _ _ 13 [.ref 40, .int (m), .int (e), .int (k)] [.int ((-1 : Int32))] _ _ _ _ _
  refine zv_iret dX7_reply_13 rfl rfl ?_
  exact ⟨rfl, cr_sts RL H (nI 1), FR, fun t ht9 => ⟨rfl, zv_u_row _ _ _ _ (by omega), rfl⟩⟩
theorem cC_seal_y (d : Nat) {E : zv_E} {sh : zv_S} {I : zv_I} {J : zv_J} {R : zv_R} {nm nc nl : Nat} {a : zv_I} (hQ : iQ a nm nc nl) (RL : cr_R sh I J R a nm nc nl) (FR : cr_F sh nm nc nl) {X : Int32} {b : zv_I} {nm' nc' nl' kc ks : Nat} {m e k : Int32} (hk : k = -1 ∨ rm_lt k nl = true) (hV : zv_V E mX7_writeByCall d kc ks 0 [.ref 40, .int m, .int e, .int (nI 2), .int k] [] sh I J R (cr_Q X b nm' nc' nl' sh I R)) : zv_V E mX7_seal (d + 1) kc ks 0 [.ref 40, .int m, .int e, .int k] [] sh I J R (cr_Q X b nm' nc' nl' sh I R) := by
  have H := hQ.1
  obtain ⟨W, n5, b5, n6, b6, n7, b7, LF⟩ := xR_B RL
  refine zv_iload_n dX7_seal_0 rfl rfl ?_
  refine zv_iconst (v := (-1 : Int32)) dX7_seal_1 (by decide) ?_
  refine zv_icmp_eq (tgt := 19) dX7_seal_2 (by decide) (fun h2 => ?_) (fun h2 => ?_)
  · refine zv_aload_n dX7_seal_19 rfl rfl ?_
    refine zv_iload_n dX7_seal_20 rfl rfl ?_
    refine zv_iload_n dX7_seal_21 rfl rfl ?_
    refine zv_iconst (v := nI (2)) dX7_seal_22 (by decide) ?_
    refine zv_iload_n dX7_seal_23 rfl rfl ?_
    refine cc_callVk (As := [.int (m), .int (e), .int (nI (2)), .int (k)]) (st := []) (c := 6) (kc1 := kc) (ks1 := ks) (kc := 0) (ks := 0) dX7_seal_24 cvX7_67 (wW0_s40 W.1) rfl rfl rfl (by decide) (cc_c1 rfl (cc_c1 rfl (cc_c1 rfl (cc_c1 rfl cc_c0)))) (Nat.le_of_ble_eq_true rfl) (hV) (fun v s1 I1 J1 R1 q => ?_)
    obtain ⟨rfl, y1⟩ := q
    show zv_V _ _ _ _ _ 27 [.ref 40, .int (m), .int (e), .int (k)] [.int (X)] _ _ _ _ _
    refine zv_iret dX7_seal_27 rfl rfl ?_
    exact ⟨rfl, y1⟩
  · refine zv_aload_n dX7_seal_5 rfl rfl ?_
    refine zv_iload_n dX7_seal_6 rfl rfl ?_
    refine cc_callV (As := [.int (k)]) (st := []) (c := 6) dX7_seal_7 cvX7_71 (wW0_s40 W.1) rfl rfl rfl (by decide) (cc_c1 rfl cc_c0) (Nat.le_of_ble_eq_true rfl) (cC_isLetter (d) W.1 n7 (by omega) k) (fun v s1 I1 J1 R1 q => ?_)
    obtain ⟨rfl, rfl, rfl, rfl, rfl⟩ := q
    show zv_V _ _ _ _ _ 10 [.ref 40, .int (m), .int (e), .int (k)] [.int (rm_b (rm_lt k nl))] _ _ _ _ _
    refine zv_ifB_ne (tgt := 19) dX7_seal_10 (by decide) (fun h10 => ?_) (fun h10 => (hk.elim (fun q => absurd q h2) (fun q => absurd (h10.symm.trans q) (by decide))))
    refine zv_aload_n dX7_seal_19 rfl rfl ?_
    refine zv_iload_n dX7_seal_20 rfl rfl ?_
    refine zv_iload_n dX7_seal_21 rfl rfl ?_
    refine zv_iconst (v := nI (2)) dX7_seal_22 (by decide) ?_
    refine zv_iload_n dX7_seal_23 rfl rfl ?_
    refine cc_callVk (As := [.int (m), .int (e), .int (nI (2)), .int (k)]) (st := []) (c := 6) (kc1 := kc) (ks1 := ks) (kc := 0) (ks := 0) dX7_seal_24 cvX7_67 (wW0_s40 W.1) rfl rfl rfl (by decide) (cc_c1 rfl (cc_c1 rfl (cc_c1 rfl (cc_c1 rfl cc_c0)))) (Nat.le_of_ble_eq_true rfl) (hV) (fun v s1 I1 J1 R1 q => ?_)
    obtain ⟨rfl, y1⟩ := q
    show zv_V _ _ _ _ _ 27 [.ref 40, .int (m), .int (e), .int (k)] [.int (X)] _ _ _ _ _
    refine zv_iret dX7_seal_27 rfl rfl ?_
    exact ⟨rfl, y1⟩
theorem cC_seal_n (d : Nat) {E : zv_E} {sh : zv_S} {I : zv_I} {J : zv_J} {R : zv_R} {nm nc nl : Nat} {a : zv_I} (hQ : iQ a nm nc nl) (RL : cr_R sh I J R a nm nc nl) (FR : cr_F sh nm nc nl) {m e k : Int32} (hk : ¬ k = -1 ∧ rm_lt k nl = false) : zv_V E mX7_seal (d + 1) 0 0 0 [.ref 40, .int m, .int e, .int k] [] sh I J R (cr_Q (-1) (zv_u a 3 24 (nI 1)) nm nc nl sh I R) := by
  have H := hQ.1
  obtain ⟨W, n5, b5, n6, b6, n7, b7, LF⟩ := xR_B RL
  refine zv_iload_n dX7_seal_0 rfl rfl ?_
  refine zv_iconst (v := (-1 : Int32)) dX7_seal_1 (by decide) ?_
  refine zv_icmp_eq (tgt := 19) dX7_seal_2 (by decide) (fun h2 => (absurd h2 hk.1)) (fun h2 => ?_)
  refine zv_aload_n dX7_seal_5 rfl rfl ?_
  refine zv_iload_n dX7_seal_6 rfl rfl ?_
  refine cc_callV (As := [.int (k)]) (st := []) (c := 6) dX7_seal_7 cvX7_71 (wW0_s40 W.1) rfl rfl rfl (by decide) (cc_c1 rfl cc_c0) (Nat.le_of_ble_eq_true rfl) (cC_isLetter (d) W.1 n7 (by omega) k) (fun v s1 I1 J1 R1 q => ?_)
  obtain ⟨rfl, rfl, rfl, rfl, rfl⟩ := q
  show zv_V _ _ _ _ _ 10 [.ref 40, .int (m), .int (e), .int (k)] [.int (rm_b (rm_lt k nl))] _ _ _ _ _
  refine zv_ifB_ne (tgt := 19) dX7_seal_10 (by decide) (fun h10 => (absurd (h10.symm.trans hk.2) (by decide))) (fun h10 => ?_)
  refine zv_aload_n dX7_seal_13 rfl rfl ?_
  refine zv_iconst (v := nI (1)) dX7_seal_14 (by decide) ?_
  refine cc_callV (As := [.int (nI (1))]) (st := []) (c := 6) dX7_seal_15 cvX7_45 (wW0_s40 W.1) rfl rfl rfl (by decide) (cc_c1 rfl cc_c0) (Nat.le_of_ble_eq_true rfl) (cC_refuse (d) W.1 (nI (1))) (fun v s1 I1 J1 R1 q => ?_)
  obtain ⟨rfl, rfl, rfl, rfl, rfl⟩ := q
  show zv_V _ _ _ _ _ 18 [.ref 40, .int (m), .int (e), .int (k)] [.int ((-1 : Int32))] _ _ _ _ _
  refine zv_iret dX7_seal_18 rfl rfl ?_
  exact ⟨rfl, cr_sts RL H (nI 1), FR, fun t ht9 => ⟨rfl, zv_u_row _ _ _ _ (by omega), rfl⟩⟩
