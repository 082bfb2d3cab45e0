theorem zv_mS_o {sh : zv_S} {t N K a : Nat} (h : a < t ∨ t + N < a) : zv_mS sh t N K a = sh a := by unfold zv_mS; rw [if_neg (by omega), if_neg (by omega)]
theorem zv_m0_o {α : Type} {f : Nat → Nat → α} {t N a : Nat} {z : α} (h : a < t ∨ t + N < a) : zv_m0 f t N z a = f a := by unfold zv_m0; rw [if_neg (by omega)]
theorem zv_mR_o {R : zv_R} {t N a : Nat} (h : a < t ∨ t + N < a) : zv_mR R t N a = R a := by unfold zv_mR; rw [if_neg (by omega), if_neg (by omega)]
theorem cC_setI (d : Nat) {E : zv_E} {sh : zv_S} {I : zv_I} {J : zv_J} {R : zv_R} {t u : Nat} (hs : sh t = some (14, 0)) (hu : sh u = none) (h3 : 3 ≤ u) (hne : t ≠ u) : zv_V E mX4_init (d + 1) 1 4 0 [.ref t] [] sh I J R (cc_q (zv_sn sh (u) (1, 4)) (zv_n I (u) (fun _ => 0)) (zv_n J (u) (fun _ => 0)) (zv_u ((zv_n R (u) (fun _ => none))) (t) 0 (some (u)))) := by
  refine zv_aload_n dX4_init_0 rfl rfl ?_
  refine zv_objI dX4_init_1 oiX4_3 oi_in oi_co (by omega) (by decide) ?_
  refine zv_aload_n dX4_init_4 rfl rfl ?_
  refine zv_iconst (v := nI (4)) dX4_init_5 (by decide) ?_
  refine zv_newa (t := u) (k' := 1) (N := 4) (kc := 0) (ks := 0) dX4_init_6 rfl (by decide) ac_long rfl (by decide) (hu) (by omega) ?_
  refine zv_putr 4 0 (u := u) dX4_init_8 fwX4_11 ((zv_sn_t _ _ (by omega)).trans (hs)) rfl (Or.inr ⟨_, rfl⟩) (by omega) ?_
  refine zv_vret dX4_init_11 rfl ?_
  exact ⟨rfl, rfl, rfl, rfl, rfl⟩
def cn_sL (sh : zv_S) (l : Nat) : zv_S := (zv_sn ((zv_sn sh (301 + 3 * l) (14, 0))) (302 + 3 * l) (1, 4))
def cn_IL (I : zv_I) (l : Nat) (x0 x1 x2 x3 x4 x5 : Int32) : zv_I := (zv_u ((zv_u ((zv_u ((zv_u ((zv_u ((zv_u ((zv_u ((zv_u ((zv_n ((zv_n I (301 + 3 * l) (fun _ => 0))) (302 + 3 * l) (fun _ => 0))) (300 + 3 * l) 8 ((-1 : Int32)))) (300 + 3 * l) 9 ((-1 : Int32)))) (300 + 3 * l) 0 (x0))) (300 + 3 * l) 1 (x1))) (300 + 3 * l) 2 (x2))) (300 + 3 * l) 3 (x3))) (300 + 3 * l) 4 (x4))) (300 + 3 * l) 5 (x5))
def cn_JL (J : zv_J) (l : Nat) : zv_J := (zv_n ((zv_n J (301 + 3 * l) (fun _ => 0))) (302 + 3 * l) (fun _ => 0))
def cn_RL (R : zv_R) (l ck : Nat) : zv_R := (zv_u ((zv_u ((zv_u (zv_n ((zv_n R (301 + 3 * l) (fun _ => none))) (302 + 3 * l) (fun _ => none)) (301 + 3 * l) 0 (some (302 + 3 * l)))) (300 + 3 * l) 7 (some (301 + 3 * l)))) (300 + 3 * l) 6 (some (ck)))
theorem cC_letterI (d : Nat) {E : zv_E} {sh : zv_S} {I : zv_I} {J : zv_J} {R : zv_R} {l ck : Nat} {x0 x1 x2 x3 x4 x5 : Int32} (hs : sh (300 + 3 * l) = some (12, 0)) (hf : ∀ t, 301 + 3 * l ≤ t → t ≤ 302 + 3 * l → sh t = none) (hck : 3 ≤ ck) : zv_V E mX2_init (d + 2) 2 5 0 [.ref (300 + 3 * l), .int x0, .int x1, .int x2, .int x3, .int x4, .int x5, .ref ck] [] sh I J R (cc_q (cn_sL sh l) (cn_IL I l x0 x1 x2 x3 x4 x5) (cn_JL J l) (cn_RL R l ck)) := by
  refine zv_aload_n dX2_init_0 rfl rfl ?_
  refine zv_objI dX2_init_1 oiX2_3 oi_in oi_co (by omega) (by decide) ?_
  refine zv_aload_n dX2_init_4 rfl rfl ?_
  refine zv_new (t := 301 + 3 * l) (kc := 1) (ks := 4) 4 dX2_init_5 (⟨RX4, TX4, 1, rfl, rfl, by decide, inX4, tyX4_ok, clX2_9, insX4, iniX4⟩) (hf _ (by omega) (by omega)) (by omega) ?_
  refine zv_dup dX2_init_8 rfl ?_
  refine cc_callI (As := []) (st := [.ref (301 + 3 * l), .ref (300 + 3 * l)]) (b := 301 + 3 * l) (kc1 := 1) (ks1 := 4) (kc := 0) (ks := 0) dX2_init_9 ciX2_11 rfl (by decide) (cc_c0) (Nat.le_of_ble_eq_true rfl) (cC_setI d (t := 301 + 3 * l) (u := 302 + 3 * l) (zv_sn_s _ _ _) ((zv_sn_t _ _ (by omega)).trans (hf (302 + 3 * l) (by omega) (by omega))) (by omega) (by omega)) (fun v s1 I1 J1 R1 q => ?_)
  obtain ⟨rfl, rfl, rfl, rfl, rfl⟩ := q
  show zv_V _ _ _ _ _ 12 [.ref (300 + 3 * l), .int (x0), .int (x1), .int (x2), .int (x3), .int (x4), .int (x5), .ref (ck)] [.ref (301 + 3 * l), .ref (300 + 3 * l)] _ _ _ _ _
  refine zv_putr 2 7 (u := 301 + 3 * l) dX2_init_12 fwX2_12 ((zv_sn_t _ _ (by omega)).trans ((zv_sn_t _ _ (by omega)).trans (hs))) rfl (Or.inl ⟨_, rfl⟩) (by omega) ?_
  refine zv_aload_n dX2_init_15 rfl rfl ?_
  refine zv_iconst (v := (-1 : Int32)) dX2_init_16 (by decide) ?_
  refine zv_puti 2 8 dX2_init_17 fwX2_18 ((zv_sn_t _ _ (by omega)).trans ((zv_sn_t _ _ (by omega)).trans (hs))) rfl ?_
  refine zv_aload_n dX2_init_20 rfl rfl ?_
  refine zv_iconst (v := (-1 : Int32)) dX2_init_21 (by decide) ?_
  refine zv_puti 2 9 dX2_init_22 fwX2_22 ((zv_sn_t _ _ (by omega)).trans ((zv_sn_t _ _ (by omega)).trans (hs))) rfl ?_
  refine zv_aload_n dX2_init_25 rfl rfl ?_
  refine zv_iload_n dX2_init_26 rfl rfl ?_
  refine zv_puti 2 0 dX2_init_27 fwX2_25 ((zv_sn_t _ _ (by omega)).trans ((zv_sn_t _ _ (by omega)).trans (hs))) rfl ?_
  refine zv_aload_n dX2_init_30 rfl rfl ?_
  refine zv_iload_n dX2_init_31 rfl rfl ?_
  refine zv_puti 2 1 dX2_init_32 fwX2_28 ((zv_sn_t _ _ (by omega)).trans ((zv_sn_t _ _ (by omega)).trans (hs))) rfl ?_
  refine zv_aload_n dX2_init_35 rfl rfl ?_
  refine zv_iload_n dX2_init_36 rfl rfl ?_
  refine zv_puti 2 2 dX2_init_37 fwX2_31 ((zv_sn_t _ _ (by omega)).trans ((zv_sn_t _ _ (by omega)).trans (hs))) rfl ?_
  refine zv_aload_n dX2_init_40 rfl rfl ?_
  refine zv_iload dX2_init_41 rfl ?_
  refine zv_puti 2 3 dX2_init_43 fwX2_34 ((zv_sn_t _ _ (by omega)).trans ((zv_sn_t _ _ (by omega)).trans (hs))) rfl ?_
  refine zv_aload_n dX2_init_46 rfl rfl ?_
  refine zv_iload dX2_init_47 rfl ?_
  refine zv_puti 2 4 dX2_init_49 fwX2_37 ((zv_sn_t _ _ (by omega)).trans ((zv_sn_t _ _ (by omega)).trans (hs))) rfl ?_
  refine zv_aload_n dX2_init_52 rfl rfl ?_
  refine zv_iload dX2_init_53 rfl ?_
  refine zv_puti 2 5 dX2_init_55 fwX2_40 ((zv_sn_t _ _ (by omega)).trans ((zv_sn_t _ _ (by omega)).trans (hs))) rfl ?_
  refine zv_aload_n dX2_init_58 rfl rfl ?_
  refine zv_aload dX2_init_59 rfl ?_
  refine zv_putr 2 6 (u := ck) dX2_init_61 fwX2_43 ((zv_sn_t _ _ (by omega)).trans ((zv_sn_t _ _ (by omega)).trans (hs))) rfl (Or.inl ⟨_, rfl⟩) (by omega) ?_
  refine zv_vret dX2_init_64 rfl ?_
  exact ⟨rfl, rfl, rfl, rfl, rfl⟩
theorem cC_clockI (d : Nat) {E : zv_E} {sh : zv_S} {I : zv_I} {J : zv_J} {R : zv_R} {k : Nat} (hs : sh (1000 + 8 * k) = some (11, 0)) (hu : sh (1001 + 8 * k) = none) : zv_V E mX1_init (d + 1) 1 6 0 [.ref (1000 + 8 * k)] [] sh I J R (cc_q (zv_sn sh (1001 + 8 * k) (3, 6)) (zv_n I (1001 + 8 * k) (fun _ => 0)) (zv_n J (1001 + 8 * k) (fun _ => 0)) (zv_u ((zv_n R (1001 + 8 * k) (fun _ => none))) (1000 + 8 * k) 0 (some (1001 + 8 * k)))) := by
  refine zv_aload_n dX1_init_0 rfl rfl ?_
  refine zv_objI dX1_init_1 oiX1_3 oi_in oi_co (by omega) (by decide) ?_
  refine zv_aload_n dX1_init_4 rfl rfl ?_
  refine zv_bipush (v := nI (6)) dX1_init_5 (by decide) ?_
  refine zv_newA (t := 1001 + 8 * k) (N := 6) (kc := 0) (ks := 0) dX1_init_7 clX1_9 rfl (by decide) (hu) (by omega) ?_
  refine zv_putr 1 0 (u := 1001 + 8 * k) dX1_init_10 fwX1_11 ((zv_sn_t _ _ (by omega)).trans (hs)) rfl (Or.inr ⟨_, rfl⟩) (by omega) ?_
  refine zv_vret dX1_init_13 rfl ?_
  exact ⟨rfl, rfl, rfl, rfl, rfl⟩
theorem cC_circleI (d : Nat) {E : zv_E} {sh : zv_S} {I : zv_I} {J : zv_J} {R : zv_R} {c : Nat} {x y : Int32} (hs : sh (50 + c) = some (10, 0)) : zv_V E mX0_init (d + 1) 0 0 0 [.ref (50 + c), .int x, .int y] [] sh I J R (cc_q sh (zv_u ((zv_u I (50 + c) 0 (x))) (50 + c) 1 (y)) J R) := by
  refine zv_aload_n dX0_init_0 rfl rfl ?_
  refine zv_objI dX0_init_1 oiX0_1 oi_in oi_co (by omega) (by decide) ?_
  refine zv_aload_n dX0_init_4 rfl rfl ?_
  refine zv_iload_n dX0_init_5 rfl rfl ?_
  refine zv_puti 0 0 dX0_init_6 fwX0_7 (hs) rfl ?_
  refine zv_aload_n dX0_init_9 rfl rfl ?_
  refine zv_iload_n dX0_init_10 rfl rfl ?_
  refine zv_puti 0 1 dX0_init_11 fwX0_13 (hs) rfl ?_
  refine zv_vret dX0_init_14 rfl ?_
  exact ⟨rfl, rfl, rfl, rfl, rfl⟩
theorem cC_traceI (d : Nat) {E : zv_E} {sh : zv_S} {I : zv_I} {J : zv_J} {R : zv_R} (hs : sh 45 = some (15, 0)) (hu : sh 46 = none) : zv_V E mX6_init (d + 1) 1 60 0 [.ref 45] [] sh I J R (cc_q (zv_sn sh (46) (0, 60)) (zv_n I (46) (fun _ => 0)) (zv_n J (46) (fun _ => 0)) (zv_u ((zv_n R (46) (fun _ => none))) (45) 0 (some (46)))) := by
  refine zv_aload_n dX6_init_0 rfl rfl ?_
  refine zv_objI dX6_init_1 oiX6_3 oi_in oi_co (by omega) (by decide) ?_
  refine zv_aload_n dX6_init_4 rfl rfl ?_
  refine zv_bipush (v := nI (60)) dX6_init_5 (by decide) ?_
  refine zv_newa (t := 46) (k' := 0) (N := 60) (kc := 0) (ks := 0) dX6_init_7 rfl (by decide) ac_int rfl (by decide) (hu) (by omega) ?_
  refine zv_putr 5 0 (u := 46) dX6_init_9 fwX6_9 ((zv_sn_t _ _ (by omega)).trans (hs)) rfl (Or.inr ⟨_, rfl⟩) (by omega) ?_
  refine zv_vret dX6_init_12 rfl ?_
  exact ⟨rfl, rfl, rfl, rfl, rfl⟩
def cn_sM (sh : zv_S) (m : Nat) : zv_S := (zv_sn ((zv_sn ((zv_sn ((zv_sn ((zv_sn ((zv_sn ((zv_sn ((zv_sn ((zv_mS sh (101 + 20 * m) 6 8)) (108 + 20 * m) (0, 6))) (109 + 20 * m) (0, 6))) (110 + 20 * m) (7, 6))) (111 + 20 * m) (0, 200))) (112 + 20 * m) (6, 200))) (113 + 20 * m) (8, 40))) (114 + 20 * m) (14, 0))) (115 + 20 * m) (1, 4))
def cn_IM (I : zv_I) (m : Nat) : zv_I := (zv_n ((zv_n ((zv_n ((zv_n ((zv_n ((zv_n ((zv_n ((zv_n ((zv_m0 I (101 + 20 * m) 6 0)) (108 + 20 * m) (fun _ => 0))) (109 + 20 * m) (fun _ => 0))) (110 + 20 * m) (fun _ => 0))) (111 + 20 * m) (fun _ => 0))) (112 + 20 * m) (fun _ => 0))) (113 + 20 * m) (fun _ => 0))) (114 + 20 * m) (fun _ => 0))) (115 + 20 * m) (fun _ => 0))
def cn_JM (J : zv_J) (m : Nat) : zv_J := (zv_n ((zv_n ((zv_n ((zv_n ((zv_n ((zv_n ((zv_n ((zv_n ((zv_m0 J (101 + 20 * m) 6 0)) (108 + 20 * m) (fun _ => 0))) (109 + 20 * m) (fun _ => 0))) (110 + 20 * m) (fun _ => 0))) (111 + 20 * m) (fun _ => 0))) (112 + 20 * m) (fun _ => 0))) (113 + 20 * m) (fun _ => 0))) (114 + 20 * m) (fun _ => 0))) (115 + 20 * m) (fun _ => 0))
def cn_RM (R : zv_R) (m : Nat) : zv_R := (zv_u ((zv_u (zv_n ((zv_n ((zv_u ((zv_n ((zv_u ((zv_n ((zv_u ((zv_n ((zv_u ((zv_n ((zv_u ((zv_n ((zv_u ((zv_n ((zv_u ((zv_mR R (101 + 20 * m) 6)) (100 + 20 * m) 0 (some (101 + 20 * m)))) (108 + 20 * m) (fun _ => none))) (100 + 20 * m) 1 (some (108 + 20 * m)))) (109 + 20 * m) (fun _ => none))) (100 + 20 * m) 2 (some (109 + 20 * m)))) (110 + 20 * m) (fun _ => none))) (100 + 20 * m) 3 (some (110 + 20 * m)))) (111 + 20 * m) (fun _ => none))) (100 + 20 * m) 4 (some (111 + 20 * m)))) (112 + 20 * m) (fun _ => none))) (100 + 20 * m) 5 (some (112 + 20 * m)))) (113 + 20 * m) (fun _ => none))) (100 + 20 * m) 6 (some (113 + 20 * m)))) (114 + 20 * m) (fun _ => none))) (115 + 20 * m) (fun _ => none)) (114 + 20 * m) 0 (some (115 + 20 * m)))) (100 + 20 * m) 7 (some (114 + 20 * m)))
theorem cC_memberI (d : Nat) {E : zv_E} {sh : zv_S} {I : zv_I} {J : zv_J} {R : zv_R} {m : Nat} (hs : sh (100 + 20 * m) = some (13, 0)) (hf : ∀ t, 101 + 20 * m ≤ t → t ≤ 115 + 20 * m → sh t = none) : zv_V E mX3_init (d + 2) 15 517 0 [.ref (100 + 20 * m)] [] sh I J R (cc_q (cn_sM sh m) (cn_IM I m) (cn_JM J m) (cn_RM R m)) := by
  refine zv_aload_n dX3_init_0 rfl rfl ?_
  refine zv_objI dX3_init_1 oiX3_3 oi_in oi_co (by omega) (by decide) ?_
  refine zv_aload_n dX3_init_4 rfl rfl ?_
  refine zv_bipush (v := nI (6)) dX3_init_5 (by decide) ?_
  refine zv_bipush (v := nI (8)) dX3_init_7 (by decide) ?_
  refine zv_mna (t := 101 + 20 * m) (N := 6) (K := 8) (kc := 8) (ks := 463) dX3_init_9 clX3_9 ac_int rfl rfl (by decide) (by decide) (fun a h1 h2 => hf a (by omega) (by omega)) (by omega) ?_
  refine zv_putr 3 0 (u := 101 + 20 * m) dX3_init_13 fwX3_11 ((zv_mS_o (by omega)).trans (hs)) rfl (Or.inr ⟨_, rfl⟩) (by omega) ?_
  refine zv_aload_n dX3_init_16 rfl rfl ?_
  refine zv_bipush (v := nI (6)) dX3_init_17 (by decide) ?_
  refine zv_newa (t := 108 + 20 * m) (k' := 0) (N := 6) (kc := 7) (ks := 457) dX3_init_19 rfl (by decide) ac_int rfl (by decide) ((zv_mS_o (by omega)).trans (hf (108 + 20 * m) (by omega) (by omega))) (by omega) ?_
  refine zv_putr 3 1 (u := 108 + 20 * m) dX3_init_21 fwX3_16 ((zv_sn_t _ _ (by omega)).trans ((zv_mS_o (by omega)).trans (hs))) rfl (Or.inr ⟨_, rfl⟩) (by omega) ?_
  refine zv_aload_n dX3_init_24 rfl rfl ?_
  refine zv_bipush (v := nI (6)) dX3_init_25 (by decide) ?_
  refine zv_newa (t := 109 + 20 * m) (k' := 0) (N := 6) (kc := 6) (ks := 451) dX3_init_27 rfl (by decide) ac_int rfl (by decide) ((zv_sn_t _ _ (by omega)).trans ((zv_mS_o (by omega)).trans (hf (109 + 20 * m) (by omega) (by omega)))) (by omega) ?_
  refine zv_putr 3 2 (u := 109 + 20 * m) dX3_init_29 fwX3_20 ((zv_sn_t _ _ (by omega)).trans ((zv_sn_t _ _ (by omega)).trans ((zv_mS_o (by omega)).trans (hs)))) rfl (Or.inr ⟨_, rfl⟩) (by omega) ?_
  refine zv_aload_n dX3_init_32 rfl rfl ?_
  refine zv_bipush (v := nI (6)) dX3_init_33 (by decide) ?_
  refine zv_newq (t := 110 + 20 * m) (k' := 7) (N := 6) (kc := 5) (ks := 445) dX3_init_35 rfl (by decide) (by decide) clX3_23 (by decide) rfl (by decide) ((zv_sn_t _ _ (by omega)).trans ((zv_sn_t _ _ (by omega)).trans ((zv_mS_o (by omega)).trans (hf (110 + 20 * m) (by omega) (by omega))))) (by omega) ?_
  refine zv_putr 3 3 (u := 110 + 20 * m) dX3_init_38 fwX3_25 ((zv_sn_t _ _ (by omega)).trans ((zv_sn_t _ _ (by omega)).trans ((zv_sn_t _ _ (by omega)).trans ((zv_mS_o (by omega)).trans (hs))))) rfl (Or.inr ⟨_, rfl⟩) (by omega) ?_
  refine zv_aload_n dX3_init_41 rfl rfl ?_
  refine zv_sipush (v := nI (200)) dX3_init_42 (by decide) ?_
  refine zv_newa (t := 111 + 20 * m) (k' := 0) (N := 200) (kc := 4) (ks := 245) dX3_init_45 rfl (by decide) ac_int rfl (by decide) ((zv_sn_t _ _ (by omega)).trans ((zv_sn_t _ _ (by omega)).trans ((zv_sn_t _ _ (by omega)).trans ((zv_mS_o (by omega)).trans (hf (111 + 20 * m) (by omega) (by omega)))))) (by omega) ?_
  refine zv_putr 3 4 (u := 111 + 20 * m) dX3_init_47 fwX3_29 ((zv_sn_t _ _ (by omega)).trans ((zv_sn_t _ _ (by omega)).trans ((zv_sn_t _ _ (by omega)).trans ((zv_sn_t _ _ (by omega)).trans ((zv_mS_o (by omega)).trans (hs)))))) rfl (Or.inr ⟨_, rfl⟩) (by omega) ?_
  refine zv_aload_n dX3_init_50 rfl rfl ?_
  refine zv_sipush (v := nI (200)) dX3_init_51 (by decide) ?_
  refine zv_newq (t := 112 + 20 * m) (k' := 6) (N := 200) (kc := 3) (ks := 45) dX3_init_54 rfl (by decide) (by decide) clX3_32 (by decide) rfl (by decide) ((zv_sn_t _ _ (by omega)).trans ((zv_sn_t _ _ (by omega)).trans ((zv_sn_t _ _ (by omega)).trans ((zv_sn_t _ _ (by omega)).trans ((zv_mS_o (by omega)).trans (hf (112 + 20 * m) (by omega) (by omega))))))) (by omega) ?_
  refine zv_putr 3 5 (u := 112 + 20 * m) dX3_init_57 fwX3_34 ((zv_sn_t _ _ (by omega)).trans ((zv_sn_t _ _ (by omega)).trans ((zv_sn_t _ _ (by omega)).trans ((zv_sn_t _ _ (by omega)).trans ((zv_sn_t _ _ (by omega)).trans ((zv_mS_o (by omega)).trans (hs))))))) rfl (Or.inr ⟨_, rfl⟩) (by omega) ?_
  refine zv_aload_n dX3_init_60 rfl rfl ?_
  refine zv_bipush (v := nI (40)) dX3_init_61 (by decide) ?_
  refine zv_newq (t := 113 + 20 * m) (k' := 8) (N := 40) (kc := 2) (ks := 5) dX3_init_63 rfl (by decide) (by decide) clX3_38 (by decide) rfl (by decide) ((zv_sn_t _ _ (by omega)).trans ((zv_sn_t _ _ (by omega)).trans ((zv_sn_t _ _ (by omega)).trans ((zv_sn_t _ _ (by omega)).trans ((zv_sn_t _ _ (by omega)).trans ((zv_mS_o (by omega)).trans (hf (113 + 20 * m) (by omega) (by omega)))))))) (by omega) ?_
  refine zv_putr 3 6 (u := 113 + 20 * m) dX3_init_66 fwX3_40 ((zv_sn_t _ _ (by omega)).trans ((zv_sn_t _ _ (by omega)).trans ((zv_sn_t _ _ (by omega)).trans ((zv_sn_t _ _ (by omega)).trans ((zv_sn_t _ _ (by omega)).trans ((zv_sn_t _ _ (by omega)).trans ((zv_mS_o (by omega)).trans (hs)))))))) rfl (Or.inr ⟨_, rfl⟩) (by omega) ?_
  refine zv_aload_n dX3_init_69 rfl rfl ?_
  refine zv_new (t := 114 + 20 * m) (kc := 1) (ks := 4) 4 dX3_init_70 (⟨RX4, TX4, 1, rfl, rfl, by decide, inX4, tyX4_ok, clX3_44, insX4, iniX4⟩) ((zv_sn_t _ _ (by omega)).trans ((zv_sn_t _ _ (by omega)).trans ((zv_sn_t _ _ (by omega)).trans ((zv_sn_t _ _ (by omega)).trans ((zv_sn_t _ _ (by omega)).trans ((zv_sn_t _ _ (by omega)).trans ((zv_mS_o (by omega)).trans (hf (114 + 20 * m) (by omega) (by omega))))))))) (by omega) ?_
  refine zv_dup dX3_init_73 rfl ?_
  refine cc_callI (As := []) (st := [.ref (114 + 20 * m), .ref (100 + 20 * m)]) (b := 114 + 20 * m) (kc1 := 1) (ks1 := 4) (kc := 0) (ks := 0) dX3_init_74 ciX3_46 rfl (by decide) (cc_c0) (Nat.le_of_ble_eq_true rfl) (cC_setI d (t := 114 + 20 * m) (u := 115 + 20 * m) (zv_sn_s _ _ _) ((zv_sn_t _ _ (by omega)).trans ((zv_sn_t _ _ (by omega)).trans ((zv_sn_t _ _ (by omega)).trans ((zv_sn_t _ _ (by omega)).trans ((zv_sn_t _ _ (by omega)).trans ((zv_sn_t _ _ (by omega)).trans ((zv_sn_t _ _ (by omega)).trans ((zv_mS_o (by omega)).trans (hf (115 + 20 * m) (by omega) (by omega)))))))))) (by omega) (by omega)) (fun v s1 I1 J1 R1 q => ?_)
  obtain ⟨rfl, rfl, rfl, rfl, rfl⟩ := q
  show zv_V _ _ _ _ _ 77 [.ref (100 + 20 * m)] [.ref (114 + 20 * m), .ref (100 + 20 * m)] _ _ _ _ _
  refine zv_putr 3 7 (u := 114 + 20 * m) dX3_init_77 fwX3_47 ((zv_sn_t _ _ (by omega)).trans ((zv_sn_t _ _ (by omega)).trans ((zv_sn_t _ _ (by omega)).trans ((zv_sn_t _ _ (by omega)).trans ((zv_sn_t _ _ (by omega)).trans ((zv_sn_t _ _ (by omega)).trans ((zv_sn_t _ _ (by omega)).trans ((zv_sn_t _ _ (by omega)).trans ((zv_mS_o (by omega)).trans (hs)))))))))) rfl (Or.inl ⟨_, rfl⟩) (by omega) ?_
  refine zv_vret dX3_init_80 rfl ?_
  exact ⟨rfl, rfl, rfl, rfl, rfl⟩
