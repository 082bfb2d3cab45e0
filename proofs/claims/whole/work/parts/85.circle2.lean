theorem cc_W0_s {sh : zv_S} {R : zv_R} (sh' : zv_S) (R' : zv_R) (w : cc_W0 sh R) (hs : ∀ t, t < 47 → sh' t = sh t) (hr : ∀ t, t = 40 ∨ t = 45 → R' t = R t) : cc_W0 sh' R' := by
  unfold cc_W0 at w ⊢
  rw [hs 40 (by omega), hs 41 (by omega), hs 42 (by omega), hs 43 (by omega), hs 44 (by omega), hs 45 (by omega), hs 46 (by omega), hr 40 (by omega), hr 45 (by omega)]
  exact w
theorem cC_circle_w (d : Nat) {E : zv_E} {sh : zv_S} {I : zv_I} {J : zv_J} {R : zv_R} {nm nc nl : Nat} {a : zv_I} (hQ : iQ a nm nc nl) (RL : cr_R sh I J R a nm nc nl) (FR : cr_F sh nm nc nl) {x : Int32} (hok : x &&& ((-1 : Int32) <<< (nI nm &&& 31)) = 0 ∧ nI 2 ≤ cbc x) (h6 : nc < 6) : zv_V E mX7_circle (d + 2) 1 3 0 [.ref 40, .int x] [] sh I J R (cc_p (nI nc) (zv_sn sh (50 + nc) (10, 0)) (zv_u (zv_u ((zv_u (zv_u (zv_n I (50 + nc) (fun _ => 0)) (50 + nc) 0 x) (50 + nc) 1 (rm_o (rm_fst (cb x) 8 0)))) (40) 6 (nI (nc + 1))) 40 9 (nI 0)) (zv_n J (50 + nc) (fun _ => 0)) (zv_u ((zv_n R (50 + nc) (fun _ => none))) (42) (nc) (some (50 + nc)))) := by
  have H := hQ.1
  obtain ⟨W, n5, b5, n6, b6, n7, b7, LF⟩ := xR_B RL
  refine zv_iconst (v := (-1 : Int32)) dX7_circle_0 (by decide) ?_
  refine zv_aload_n dX7_circle_1 rfl rfl ?_
  refine zv_geti 6 5 (x := nI (nm)) dX7_circle_2 flX7_42 (wW0_s40 W.1) rfl (n5) ?_
  refine zv_ishl dX7_circle_5 ?_
  refine zv_istore_n (lv' := [.ref 40, .int (x), .int ((((-1 : Int32)) <<< ((nI (nm)) &&& 31)))]) dX7_circle_6 rfl (by decide) rfl ?_
  refine zv_iload_n dX7_circle_7 rfl rfl ?_
  refine zv_iload_n dX7_circle_8 rfl rfl ?_
  refine zv_iand dX7_circle_9 ?_
  refine zv_if_ne (tgt := 21) dX7_circle_10 (by decide) (fun h10 => (absurd hok.1 h10)) (fun h10 => ?_)
  refine zv_iload_n dX7_circle_13 rfl rfl ?_
  refine cc_callS (As := [.int (x)]) (st := []) dX7_circle_14 csX7_53 rfl (by decide) (cc_c1 rfl cc_c0) (Nat.le_of_ble_eq_true rfl) (cC_bitCount (d + 1) x) (fun v s1 I1 J1 R1 q => ?_)
  obtain ⟨rfl, rfl, rfl, rfl, rfl⟩ := q
  show zv_V _ _ _ _ _ 17 [.ref 40, .int (x), .int ((((-1 : Int32)) <<< ((nI (nm)) &&& 31)))] [.int ((cbc x))] _ _ _ _ _
  refine zv_iconst (v := nI (2)) dX7_circle_17 (by decide) ?_
  refine zv_icmp_ge (tgt := 27) dX7_circle_18 (by decide) (fun h18 => ?_) (fun h18 => (absurd hok.2 h18))
  refine zv_aload_n dX7_circle_27 rfl rfl ?_
  refine zv_geti 6 6 (x := nI (nc)) dX7_circle_28 flX7_58 (wW0_s40 W.1) rfl (n6) ?_
  refine zv_bipush (v := nI (6)) dX7_circle_31 (by decide) ?_
  refine zv_icN_lt (tgt := 42) dX7_circle_33 (by decide) (by omega) (by omega) (fun h33 => ?_) (fun h33 => (absurd h33 (by omega)))
  refine zv_aload_n dX7_circle_42 rfl rfl ?_
  refine zv_getr 6 1 (u := 42) dX7_circle_43 flX7_17 (wW0_s40 W.1) rfl (wW0_r1 W.1) ?_
  refine zv_aload_n dX7_circle_46 rfl rfl ?_
  refine zv_geti 6 6 (x := nI (nc)) dX7_circle_47 flX7_58 (wW0_s40 W.1) rfl (n6) ?_
  refine zv_new (t := 50 + nc) (kc := 0) (ks := 0) 0 dX7_circle_50 (⟨RX0, TX0, 3, rfl, rfl, by decide, inX0, tyX0_ok, clX7_15, insX0, iniX0⟩) (cr_F_n FR (by omega)) (by omega) ?_
  refine zv_dup dX7_circle_53 rfl ?_
  refine zv_iload_n dX7_circle_54 rfl rfl ?_
  refine zv_iload_n dX7_circle_55 rfl rfl ?_
  refine cc_callS (As := [.int (x)]) (st := [.int (x), .ref (50 + nc), .ref (50 + nc), .int (nI (nc)), .ref 42]) dX7_circle_56 csX7_61 rfl (by decide) (cc_c1 rfl cc_c0) (Nat.le_of_ble_eq_true rfl) (cC_lowestMember d x) (fun v s1 I1 J1 R1 q => ?_)
  obtain ⟨rfl, rfl, rfl, rfl, rfl⟩ := q
  show zv_V _ _ _ _ _ 59 [.ref 40, .int (x), .int ((((-1 : Int32)) <<< ((nI (nm)) &&& 31)))] [.int ((rm_o (rm_fst (cb x) 8 0))), .int (x), .ref (50 + nc), .ref (50 + nc), .int (nI (nc)), .ref 42] _ _ _ _ _
  refine cc_callI (As := [.int (x), .int ((rm_o (rm_fst (cb x) 8 0)))]) (st := [.ref (50 + nc), .int (nI (nc)), .ref 42]) (b := 50 + nc) (kc1 := 0) (ks1 := 0) (kc := 0) (ks := 0) dX7_circle_59 ciX7_64 rfl (by decide) (cc_c1 rfl (cc_c1 rfl cc_c0)) (Nat.le_of_ble_eq_true rfl) (cC_circleI d (c := nc) (zv_sn_s _ _ _)) (fun v s1 I1 J1 R1 q => ?_)
  obtain ⟨rfl, rfl, rfl, rfl, rfl⟩ := q
  show zv_V _ _ _ _ _ 62 [.ref 40, .int (x), .int ((((-1 : Int32)) <<< ((nI (nm)) &&& 31)))] [.ref (50 + nc), .int (nI (nc)), .ref 42] _ _ _ _ _
  refine zv_aast (j := nc) (o := some (50 + nc)) dX7_circle_62 ((zv_sn_t _ _ (by omega)).trans (wW0_s42 W.1)) (by decide) (Or.inr ⟨_, Or.inr (Or.inl ⟨rfl, zv_sn_s _ _ _⟩)⟩) (fun h => absurd h (by decide)) (rfl) (show nc < 6 from by omega) (by decide) ?_
  refine zv_aload_n dX7_circle_63 rfl rfl ?_
  refine zv_dup dX7_circle_64 rfl ?_
  refine zv_geti 6 6 (x := nI (nc)) dX7_circle_65 flX7_58 ((zv_sn_t _ _ (by omega)).trans (wW0_s40 W.1)) rfl ((zv_u_t _ _ (by omega)).trans ((zv_u_t _ _ (by omega)).trans ((congrFun (zv_n_t _ _ (by omega)) _).trans (n6)))) ?_
  refine zv_iconst (v := nI (1)) dX7_circle_68 (by decide) ?_
  refine zv_iadd dX7_circle_69 ?_
  refine cc_top (nI_add (nc) (1)) ?_
  refine zv_puti 6 6 dX7_circle_70 fwX7_58 ((zv_sn_t _ _ (by omega)).trans (wW0_s40 W.1)) rfl ?_
  refine zv_aload_n dX7_circle_73 rfl rfl ?_
  refine zv_aload_n dX7_circle_74 rfl rfl ?_
  refine zv_geti 6 6 (x := nI (nc + 1)) dX7_circle_75 flX7_58 ((zv_sn_t _ _ (by omega)).trans (wW0_s40 W.1)) rfl (zv_u_s _ _ _ _) ?_
  refine zv_iconst (v := nI (1)) dX7_circle_78 (by decide) ?_
  refine zv_isub dX7_circle_79 ?_
  refine cc_top (y := nI (nc)) (nI_pred nc) ?_
  refine cc_callV (As := [.int (nI (nc))]) (st := []) (c := 6) dX7_circle_80 cvX7_50 ((zv_sn_t _ _ (by omega)).trans (wW0_s40 W.1)) rfl rfl rfl (by decide) (cc_c1 rfl cc_c0) (Nat.le_of_ble_eq_true rfl) (cC_done (d + 1) (cc_W0_s (zv_sn sh (50 + nc) (10, 0)) _ W.1 (fun t ht => zv_sn_t _ _ (by omega)) (fun t ht => by rw [zv_u_row _ _ _ _ (by omega)]; exact zv_n_t _ _ (by omega))) (nI nc)) (fun v s1 I1 J1 R1 q => ?_)
  obtain ⟨rfl, rfl, rfl, rfl, rfl⟩ := q
  show zv_V _ _ _ _ _ 83 [.ref 40, .int (x), .int ((((-1 : Int32)) <<< ((nI (nm)) &&& 31)))] [.int (nI (nc))] _ _ _ _ _
  refine zv_iret dX7_circle_83 rfl rfl ?_
  exact ⟨rfl, rfl, rfl, rfl, rfl⟩
