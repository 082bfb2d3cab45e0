theorem cn_sM_o {sh : zv_S} {m t : Nat} {u : Nat × Nat} (h : t < 100 + 20 * m ∨ 115 + 20 * m < t) : cn_sM (zv_sn sh (100 + 20 * m) u) m t = sh t := by
  unfold cn_sM
  exact (zv_sn_t _ _ (by omega)).trans ((zv_sn_t _ _ (by omega)).trans ((zv_sn_t _ _ (by omega)).trans ((zv_sn_t _ _ (by omega)).trans ((zv_sn_t _ _ (by omega)).trans ((zv_sn_t _ _ (by omega)).trans ((zv_sn_t _ _ (by omega)).trans ((zv_sn_t _ _ (by omega)).trans ((zv_mS_o (by omega)).trans ((zv_sn_t _ _ (by omega)).trans rfl)))))))))
theorem cn_IM_o {I : zv_I} {m t : Nat} {u : Nat → Int32} (h : t < 100 + 20 * m ∨ 115 + 20 * m < t) : cn_IM (zv_n I (100 + 20 * m) u) m t = I t := by
  unfold cn_IM
  exact (zv_n_t _ _ (by omega)).trans ((zv_n_t _ _ (by omega)).trans ((zv_n_t _ _ (by omega)).trans ((zv_n_t _ _ (by omega)).trans ((zv_n_t _ _ (by omega)).trans ((zv_n_t _ _ (by omega)).trans ((zv_n_t _ _ (by omega)).trans ((zv_n_t _ _ (by omega)).trans ((zv_m0_o (by omega)).trans ((zv_n_t _ _ (by omega)).trans rfl)))))))))
theorem cn_JM_o {J : zv_J} {m t : Nat} {u : Nat → Int64} (h : t < 100 + 20 * m ∨ 115 + 20 * m < t) : cn_JM (zv_n J (100 + 20 * m) u) m t = J t := by
  unfold cn_JM
  exact (zv_n_t _ _ (by omega)).trans ((zv_n_t _ _ (by omega)).trans ((zv_n_t _ _ (by omega)).trans ((zv_n_t _ _ (by omega)).trans ((zv_n_t _ _ (by omega)).trans ((zv_n_t _ _ (by omega)).trans ((zv_n_t _ _ (by omega)).trans ((zv_n_t _ _ (by omega)).trans ((zv_m0_o (by omega)).trans ((zv_n_t _ _ (by omega)).trans rfl)))))))))
theorem cn_RM_o {R : zv_R} {m t : Nat} {u : Nat → Option Nat} (h : t < 100 + 20 * m ∨ 115 + 20 * m < t) : cn_RM (zv_n R (100 + 20 * m) u) m t = R t := by
  unfold cn_RM
  exact (zv_u_row _ _ _ _ (by omega)).trans ((zv_u_row _ _ _ _ (by omega)).trans ((zv_n_t _ _ (by omega)).trans ((zv_n_t _ _ (by omega)).trans ((zv_u_row _ _ _ _ (by omega)).trans ((zv_n_t _ _ (by omega)).trans ((zv_u_row _ _ _ _ (by omega)).trans ((zv_n_t _ _ (by omega)).trans ((zv_u_row _ _ _ _ (by omega)).trans ((zv_n_t _ _ (by omega)).trans ((zv_u_row _ _ _ _ (by omega)).trans ((zv_n_t _ _ (by omega)).trans ((zv_u_row _ _ _ _ (by omega)).trans ((zv_n_t _ _ (by omega)).trans ((zv_u_row _ _ _ _ (by omega)).trans ((zv_n_t _ _ (by omega)).trans ((zv_u_row _ _ _ _ (by omega)).trans ((zv_mR_o (by omega)).trans ((zv_n_t _ _ (by omega)).trans rfl))))))))))))))))))
theorem cC_member_2 (d : Nat) {E : zv_E} {sh : zv_S} {I : zv_I} {J : zv_J} {R : zv_R} {nm nc nl : Nat} {a : zv_I} (hQ : iQ a nm nc nl) (RL : cr_R sh I J R a nm nc nl) (FR : cr_F sh nm nc nl) (h8 : nm = 8) : zv_V E mX7_member (d + 1) 0 0 0 [.ref 40] [] sh I J R (cr_Q (-1) (zv_u a 3 24 (nI 2)) nm nc nl sh I R) := by
  have H := hQ.1
  obtain ⟨W, n5, b5, n6, b6, n7, b7, LF⟩ := xR_B RL
  refine zv_aload_n dX7_member_0 rfl rfl ?_
  refine zv_geti 6 5 (x := nI (nm)) dX7_member_1 flX7_42 (wW0_s40 W.1) rfl (n5) ?_
  refine zv_bipush (v := nI (8)) dX7_member_4 (by decide) ?_
  refine zv_icN_lt (tgt := 15) dX7_member_6 (by decide) (by omega) (by omega) (fun h6 => (absurd h6 (by omega))) (fun h6 => ?_)
  refine zv_aload_n dX7_member_9 rfl rfl ?_
  refine zv_iconst (v := nI (2)) dX7_member_10 (by decide) ?_
  refine cc_callV (As := [.int (nI (2))]) (st := []) (c := 6) dX7_member_11 cvX7_45 (wW0_s40 W.1) rfl rfl rfl (by decide) (cc_c1 rfl cc_c0) (Nat.le_of_ble_eq_true rfl) (cC_refuse (d) W.1 (nI (2))) (fun v s1 I1 J1 R1 q => ?_)
  obtain ⟨rfl, rfl, rfl, rfl, rfl⟩ := q
  show zv_V _ _ _ _ _ 14 [.ref 40] [.int ((-1 : Int32))] _ _ _ _ _
  refine zv_iret dX7_member_14 rfl rfl ?_
  exact ⟨rfl, cr_sts RL H (nI 2), FR, fun t ht9 => ⟨rfl, zv_u_row _ _ _ _ (by omega), rfl⟩⟩
theorem cn_sM_T {sh : zv_S} {m : Nat} {u : Nat × Nat} : cn_sM (zv_sn sh (100 + 20 * m) u) m (100 + 20 * m) = some u := by
  unfold cn_sM
  exact (zv_sn_t _ _ (by omega)).trans ((zv_sn_t _ _ (by omega)).trans ((zv_sn_t _ _ (by omega)).trans ((zv_sn_t _ _ (by omega)).trans ((zv_sn_t _ _ (by omega)).trans ((zv_sn_t _ _ (by omega)).trans ((zv_sn_t _ _ (by omega)).trans ((zv_sn_t _ _ (by omega)).trans ((zv_mS_o (by omega)).trans (zv_sn_s _ _ _)))))))))
theorem cC_member_w (d : Nat) {E : zv_E} {sh : zv_S} {I : zv_I} {J : zv_J} {R : zv_R} {nm nc nl : Nat} {a : zv_I} (hQ : iQ a nm nc nl) (RL : cr_R sh I J R a nm nc nl) (FR : cr_F sh nm nc nl) (h8 : nm < 8) : zv_V E mX7_member (d + 4) 16 527 0 [.ref 40] [] sh I J R (cc_p (nI nm) (cn_sM (zv_sn sh (100 + 20 * nm) (13, 0)) nm) (zv_u (zv_u (cn_IM (zv_n I (100 + 20 * nm) (fun _ => 0)) nm) 40 5 (nI (nm + 1))) 40 9 (nI 0)) (cn_JM (zv_n J (100 + 20 * nm) (fun _ => 0)) nm) (zv_u (cn_RM (zv_n R (100 + 20 * nm) (fun _ => none)) nm) 41 nm (some (100 + 20 * nm)))) := by
  have H := hQ.1
  obtain ⟨W, n5, b5, n6, b6, n7, b7, LF⟩ := xR_B RL
  refine zv_aload_n dX7_member_0 rfl rfl ?_
  refine zv_geti 6 5 (x := nI (nm)) dX7_member_1 flX7_42 (wW0_s40 W.1) rfl (n5) ?_
  refine zv_bipush (v := nI (8)) dX7_member_4 (by decide) ?_
  refine zv_icN_lt (tgt := 15) dX7_member_6 (by decide) (by omega) (by omega) (fun h6 => ?_) (fun h6 => (absurd h6 (by omega)))
  refine zv_aload_n dX7_member_15 rfl rfl ?_
  refine zv_getr 6 0 (u := 41) dX7_member_16 flX7_11 (wW0_s40 W.1) rfl (wW0_r0 W.1) ?_
  refine zv_aload_n dX7_member_19 rfl rfl ?_
  refine zv_geti 6 5 (x := nI (nm)) dX7_member_20 flX7_42 (wW0_s40 W.1) rfl (n5) ?_
  refine zv_new (t := 100 + 20 * nm) (kc := 15) (ks := 517) 3 dX7_member_23 (⟨RX3, TX3, 10, rfl, rfl, by decide, inX3, tyX3_ok, clX7_9, insX3, iniX3⟩) (cr_F_n FR (by omega)) (by omega) ?_
  refine zv_dup dX7_member_26 rfl ?_
  refine cc_callI (As := []) (st := [.ref (100 + 20 * nm), .int (nI (nm)), .ref 41]) (b := 100 + 20 * nm) (kc1 := 15) (ks1 := 517) (kc := 0) (ks := 0) dX7_member_27 ciX7_49 rfl (by decide) (cc_c0) (Nat.le_of_ble_eq_true rfl) (cC_memberI (d + 1) (m := nm) (zv_sn_s _ _ _) (fun t h1 h2 => (zv_sn_t _ _ (by omega)).trans (cr_F_n FR (by omega)))) (fun v s1 I1 J1 R1 q => ?_)
  obtain ⟨rfl, rfl, rfl, rfl, rfl⟩ := q
  show zv_V _ _ _ _ _ 30 [.ref 40] [.ref (100 + 20 * nm), .int (nI (nm)), .ref 41] _ _ _ _ _
  have s40 : (cn_sM (zv_sn sh (100 + 20 * nm) (13, 0)) nm) 40 = some (16, 0) := (cn_sM_o (by omega)).trans (wW0_s40 W.1)
  have s41 : (cn_sM (zv_sn sh (100 + 20 * nm) (13, 0)) nm) 41 = some (4, 8) := (cn_sM_o (by omega)).trans (wW0_s41 W.1)
  have sT : (cn_sM (zv_sn sh (100 + 20 * nm) (13, 0)) nm) (100 + 20 * nm) = some (13, 0) := cn_sM_T
  have r400 : (cn_RM (zv_n R (100 + 20 * nm) (fun _ => none)) nm) 40 0 = some 41 := (congrFun (cn_RM_o (by omega)) _).trans (wW0_r0 W.1)
  refine zv_aast (j := nm) (o := some (100 + 20 * nm)) dX7_member_30 (s41) (by decide) (Or.inr ⟨_, Or.inl ⟨rfl, sT⟩⟩) (fun h => absurd h (by decide)) (rfl) (show nm < 8 from by omega) (by decide) ?_
  refine zv_aload_n dX7_member_31 rfl rfl ?_
  refine zv_dup dX7_member_32 rfl ?_
  refine zv_geti 6 5 (x := nI (nm)) dX7_member_33 flX7_42 (s40) rfl ((congrFun (cn_IM_o (by omega)) _).trans n5) ?_
  refine zv_iconst (v := nI (1)) dX7_member_36 (by decide) ?_
  refine zv_iadd dX7_member_37 ?_
  refine cc_top (nI_add (nm) (1)) ?_
  refine zv_puti 6 5 dX7_member_38 fwX7_42 (s40) rfl ?_
  refine zv_aload_n dX7_member_41 rfl rfl ?_
  refine zv_aload_n dX7_member_42 rfl rfl ?_
  refine zv_geti 6 5 (x := nI (nm + 1)) dX7_member_43 flX7_42 (s40) rfl (zv_u_s _ _ _ _) ?_
  refine zv_iconst (v := nI (1)) dX7_member_46 (by decide) ?_
  refine zv_isub dX7_member_47 ?_
  refine cc_top (y := nI (nm)) (nI_pred nm) ?_
  refine cc_callV (As := [.int (nI (nm))]) (st := []) (c := 6) dX7_member_48 cvX7_50 (s40) rfl rfl rfl (by decide) (cc_c1 rfl cc_c0) (Nat.le_of_ble_eq_true rfl) (cC_done (d + 3) (cc_W0_o (R := (cn_RM (zv_n R (100 + 20 * nm) (fun _ => none)) nm)) ⟨s40, r400, s41, (congrFun (cn_RM_o (by omega)) _).trans (wW0_r1 W.1), (cn_sM_o (by omega)).trans (wW0_s42 W.1), (congrFun (cn_RM_o (by omega)) _).trans (wW0_r2 W.1), (cn_sM_o (by omega)).trans (wW0_s43 W.1), (congrFun (cn_RM_o (by omega)) _).trans (wW0_r3 W.1), (cn_sM_o (by omega)).trans (wW0_s44 W.1), (congrFun (cn_RM_o (by omega)) _).trans (wW0_r4 W.1), (cn_sM_o (by omega)).trans (wW0_s45 W.1), (congrFun (cn_RM_o (by omega)) _).trans (wW0_b W.1), (cn_sM_o (by omega)).trans (wW0_s46 W.1)⟩ (zv_u_row _ _ _ _ (by decide)) (zv_u_row _ _ _ _ (by decide))) (nI nm)) (fun v s1 I1 J1 R1 q => ?_)
  obtain ⟨rfl, rfl, rfl, rfl, rfl⟩ := q
  show zv_V _ _ _ _ _ 51 [.ref 40] [.int (nI (nm))] _ _ _ _ _
  refine zv_iret dX7_member_51 rfl rfl ?_
  exact ⟨rfl, rfl, rfl, rfl, rfl⟩
