theorem cr_l2 {x : Int32} (h0 : ¬ x < 0) (h : x ≤ nI 1) : rm_lt x 2 = true := by
  refine cl_2 (by decide) h0 (fun q => ?_)
  rw [Int32.le_iff_toInt_le] at h q
  have e2 : (nI 1).toInt = 1 := by decide
  have e3 : (nI 2).toInt = 2 := by decide
  omega
theorem iv_on {a : zv_I} {nm nc nl q : Nat} (H : iv a nm nc nl q) : ∀ l, l < nl → ∀ m, m < 8 → a 20 (200 * m + l) = nI 1 → m < nm := fun l hl m hm h => by
  rcases xI_st H m l hm hl with ⟨_, z⟩ | ⟨z, _⟩
  · rw [h] at z; exact absurd z (by decide)
  · exact xI_ci H _ (xI_lc H l hl).2 m hm z
theorem lo_fst {I : zv_I} {J : zv_J} {R : zv_R} {a : zv_I} {nm nc nl q l m : Nat} (L : cr_L I J R a nc l) (H : iv a nm nc nl q) (hl : l < nl) (h : rm_lof a nm l = some m) : rm_fst (cb (I (300 + 3 * l) 11)) 8 0 = some m := by
  rw [← h]
  unfold rm_lof
  refine (fst_cut (xI_n0 H).2 (fun i hi => ?_) (fun i g1 g2 => ?_)).symm
  · show decide _ = _
    rw [xL_lb L i (by have := (xI_n0 H).2; omega)]
  · rw [xL_lb L i g2]
    exact decide_eq_false fun z => by have := iv_on H l hl i g2 z; omega
theorem cC_deliverAll_1 (d : Nat) {E : zv_E} {sh : zv_S} {I : zv_I} {J : zv_J} {R : zv_R} {nm nc nl : Nat} {a : zv_I} (hQ : iQ a nm nc nl) (RL : cr_R sh I J R a nm nc nl) (FR : cr_F sh nm nc nl) {x y : Int32} (hbad : (rm_lt x nc && rm_lt y 2) = false) : zv_V E mX7_deliverAll (d + 1) 0 0 0 [.ref 40, .int x, .int y] [] sh I J R (cr_Q (-1) (zv_u a 3 24 (nI 1)) nm nc nl sh I R) := by
  have H := hQ.1
  obtain ⟨W, n5, b5, n6, b6, n7, b7, LF⟩ := xR_B RL
  have RLt := xR_L RL
  refine zv_aload_n dX7_deliverAll_0 rfl rfl ?_
  refine zv_iload_n dX7_deliverAll_1 rfl rfl ?_
  refine cc_callV (As := [.int (x)]) (st := []) (c := 6) dX7_deliverAll_2 cvX7_85 (wW0_s40 W.1) rfl rfl rfl (by decide) (cc_c1 rfl cc_c0) (Nat.le_of_ble_eq_true rfl) (cC_isCircle (d) W.1 n6 (by omega) x) (fun v s1 I1 J1 R1 q => ?_)
  obtain ⟨rfl, rfl, rfl, rfl, rfl⟩ := q
  show zv_V _ _ _ _ _ 5 [.ref 40, .int (x), .int (y)] [.int (rm_b (rm_lt x nc))] _ _ _ _ _
  refine zv_ifB_eq (tgt := 17) dX7_deliverAll_5 (by decide) (fun h5 => ?_) (fun h5 => ?_)
  · refine zv_aload_n dX7_deliverAll_17 rfl rfl ?_
    refine zv_iconst (v := nI (1)) dX7_deliverAll_18 (by decide) ?_
    refine cc_callV (As := [.int (nI (1))]) (st := []) (c := 6) dX7_deliverAll_19 cvX7_45 (wW0_s40 W.1) rfl rfl rfl (by decide) (cc_c1 rfl cc_c0) (Nat.le_of_ble_eq_true rfl) (cC_refuse (d) W.1 (nI (1))) (fun v s1 I1 J1 R1 q => ?_)
    obtain ⟨rfl, rfl, rfl, rfl, rfl⟩ := q
    show zv_V _ _ _ _ _ 22 [.ref 40, .int (x), .int (y)] [.int ((-1 : Int32))] _ _ _ _ _
    refine zv_iret dX7_deliverAll_22 rfl rfl ?_
    exact ⟨rfl, cr_sts RL H (nI 1), FR, fun t ht9 => ⟨rfl, zv_u_row _ _ _ _ (by omega), rfl⟩⟩
  · refine zv_iload_n dX7_deliverAll_8 rfl rfl ?_
    refine zv_if_lt (tgt := 17) dX7_deliverAll_9 (by decide) (fun h9 => ?_) (fun h9 => ?_)
    · refine zv_aload_n dX7_deliverAll_17 rfl rfl ?_
      refine zv_iconst (v := nI (1)) dX7_deliverAll_18 (by decide) ?_
      refine cc_callV (As := [.int (nI (1))]) (st := []) (c := 6) dX7_deliverAll_19 cvX7_45 (wW0_s40 W.1) rfl rfl rfl (by decide) (cc_c1 rfl cc_c0) (Nat.le_of_ble_eq_true rfl) (cC_refuse (d) W.1 (nI (1))) (fun v s1 I1 J1 R1 q => ?_)
      obtain ⟨rfl, rfl, rfl, rfl, rfl⟩ := q
      show zv_V _ _ _ _ _ 22 [.ref 40, .int (x), .int (y)] [.int ((-1 : Int32))] _ _ _ _ _
      refine zv_iret dX7_deliverAll_22 rfl rfl ?_
      exact ⟨rfl, cr_sts RL H (nI 1), FR, fun t ht9 => ⟨rfl, zv_u_row _ _ _ _ (by omega), rfl⟩⟩
    · refine zv_iload_n dX7_deliverAll_12 rfl rfl ?_
      refine zv_iconst (v := nI (1)) dX7_deliverAll_13 (by decide) ?_
      refine zv_icmp_le (tgt := 23) dX7_deliverAll_14 (by decide) (fun h14 => (absurd hbad (by rw [h5, cr_l2 h9 h14]; decide))) (fun h14 => ?_)
      refine zv_aload_n dX7_deliverAll_17 rfl rfl ?_
      refine zv_iconst (v := nI (1)) dX7_deliverAll_18 (by decide) ?_
      refine cc_callV (As := [.int (nI (1))]) (st := []) (c := 6) dX7_deliverAll_19 cvX7_45 (wW0_s40 W.1) rfl rfl rfl (by decide) (cc_c1 rfl cc_c0) (Nat.le_of_ble_eq_true rfl) (cC_refuse (d) W.1 (nI (1))) (fun v s1 I1 J1 R1 q => ?_)
      obtain ⟨rfl, rfl, rfl, rfl, rfl⟩ := q
      show zv_V _ _ _ _ _ 22 [.ref 40, .int (x), .int (y)] [.int ((-1 : Int32))] _ _ _ _ _
      refine zv_iret dX7_deliverAll_22 rfl rfl ?_
      exact ⟨rfl, cr_sts RL H (nI 1), FR, fun t ht9 => ⟨rfl, zv_u_row _ _ _ _ (by omega), rfl⟩⟩
theorem cC_deliverAll_l (d : Nat) {E : zv_E} {c wy nm nc : Nat} {sh0 : zv_S} {I0 : zv_I} {R0 : zv_R} (hc : c < nc) (hw : wy < 2) : ∀ f a nl sh I J R n, iQ a nm nc nl → rm_dlt 201 c wy f a = true → cr_R sh I J R a nm nc nl → cr_F sh nm nc nl → n ≤ dD a → (∀ t, t < 40 → sh t = sh0 t ∧ I t = I0 t ∧ R t = R0 t) → zv_V E mX7_deliverAll (d + 7) (3 * (rm_NL (rm_dls 201 c wy f a n).1 - nl)) (18 * (rm_NL (rm_dls 201 c wy f a n).1 - nl)) 33 [.ref 40, .int (nI c), .int (nI wy), .int (nI n), va_rf (cr_lt (rm_ln a c wy))] [] sh I J R (cr_Q (nI (rm_dls 201 c wy f a n).2) (zv_u (rm_dls 201 c wy f a n).1 3 24 (nI 0)) nm nc (rm_NL (rm_dls 201 c wy f a n).1) sh0 I0 R0) := by
  intro f
  induction f with
  | zero => intro a nl sh I J R n _ ht; cases ht
  | succ f ih =>
    intro a nl sh I J R n hQ ht RL FR hn hfr
    have H := hQ.1
    obtain ⟨e0, e1, e4⟩ := iv_NM H
    obtain ⟨W, n5, b5, n6, b6, n7, b7, LF⟩ := xR_B RL
    have RLt := xR_L RL
    have hD := rm_cnt_le (fun k => decide (a 20 k = nI 2 ∨ a 20 k = nI 3)) 1600
    have hD : dD a ≤ 1600 := hD
    have ht : (match rm_ln a c wy with | none => true | some l => rm_dlt 201 c wy f (rm_dl1 201 a l)) = true := ht
    cases hx : rm_ln a c wy with
    | none =>
      rw [dls_n hx]
      show zv_V _ _ _ (3 * (rm_NL a - nl)) (18 * (rm_NL a - nl)) _ [.ref 40, .int (nI c), .int (nI wy), .int (nI n), .null] _ _ _ _ _ (cr_Q (nI n) (zv_u a 3 24 (nI 0)) nm nc (rm_NL a) sh0 I0 R0)
      rw [e4]
      refine zv_aloadN dX7_deliverAll_33 rfl ?_
      refine zv_ifnullN (tgt := 74) dX7_deliverAll_35 (by decide) ?_
      refine zv_aload_n dX7_deliverAll_74 rfl rfl ?_
      refine zv_iload_n dX7_deliverAll_75 rfl rfl ?_
      refine cc_callV (As := [.int (nI (n))]) (st := []) (c := 6) dX7_deliverAll_76 cvX7_50 (wW0_s40 W.1) rfl rfl rfl (by decide) (cc_c1 rfl cc_c0) (Nat.le_of_ble_eq_true rfl) (cC_done (d + 6) W.1 (nI (n))) (fun v s1 I1 J1 R1 q => ?_)
      obtain ⟨rfl, rfl, rfl, rfl, rfl⟩ := q
      show zv_V _ _ _ _ _ 79 [.ref 40, .int (nI (c)), .int (nI (wy)), .int (nI (n)), .null] [.int (nI (n))] _ _ _ _ _
      refine zv_iret dX7_deliverAll_79 rfl rfl ?_
      exact ⟨rfl, cr_sts RL H (nI 0), FR, fun t ht9 => ⟨(hfr t ht9).1, (zv_u_row _ _ _ _ (by omega)).trans (hfr t ht9).2.1, (hfr t ht9).2.2⟩⟩
    | some l =>
      rw [hx] at ht
      have ht : rm_dlt 201 c wy f (rm_dl1 201 a l) = true := ht
      obtain ⟨hl, hlo, hm, hs, hP, hQ2, hnl2, hdd⟩ := dl1_ok hQ hw hx
      have hD2 := rm_cnt_le (fun k => decide (rm_dl1 201 a l 20 k = nI 2 ∨ rm_dl1 201 a l 20 k = nI 3)) 1600
      have hD2 : dD (rm_dl1 201 a l) ≤ 1600 := hD2
      have hend := (dls_Q (c := c) hw f _ nm nc _ (n + 1) hQ2).2
      rw [dls_s hx]
      show zv_V _ _ _ _ _ _ [.ref 40, .int (nI c), .int (nI wy), .int (nI n), .ref (300 + 3 * l)] _ _ _ _ _ _
      rw [show 3 * (rm_NL (rm_dls 201 c wy f (rm_dl1 201 a l) (n + 1)).1 - nl) = 3 * (rm_NL (rm_dl1 201 a l) - nl) + 3 * (rm_NL (rm_dls 201 c wy f (rm_dl1 201 a l) (n + 1)).1 - rm_NL (rm_dl1 201 a l)) by omega, show 18 * (rm_NL (rm_dls 201 c wy f (rm_dl1 201 a l) (n + 1)).1 - nl) = 18 * (rm_NL (rm_dl1 201 a l) - nl) + 18 * (rm_NL (rm_dls 201 c wy f (rm_dl1 201 a l) (n + 1)).1 - rm_NL (rm_dl1 201 a l)) by omega]
      refine zv_aload dX7_deliverAll_33 rfl ?_
      refine zv_ifnull dX7_deliverAll_35 ?_
      refine zv_iload_n dX7_deliverAll_38 rfl rfl ?_
      refine zv_sipush (v := nI (1600)) dX7_deliverAll_39 (by decide) ?_
      refine zv_icN_ge (tgt := 74) dX7_deliverAll_42 (by decide) (by omega) (by omega) (fun h42 => (absurd h42 (by omega))) (fun h42 => ?_)
      refine zv_aload_n dX7_deliverAll_45 rfl rfl ?_
      refine zv_aload dX7_deliverAll_46 rfl ?_
      refine zv_aload dX7_deliverAll_48 rfl ?_
      refine zv_geti 2 11 (x := (I (300 + 3 * l) 11)) dX7_deliverAll_50 flX7_92 (wWL_s (W.2.2.2 l hl).2) rfl (rfl) ?_
      refine cc_callS (As := [.int ((I (300 + 3 * l) 11))]) (st := [.ref (300 + 3 * l), .ref 40]) dX7_deliverAll_53 csX7_61 rfl (by decide) (cc_c1 rfl cc_c0) (Nat.le_of_ble_eq_true rfl) (cC_lowestMember (d + 5) (I (300 + 3 * l) 11)) (fun v s1 I1 J1 R1 q => ?_)
      obtain ⟨rfl, rfl, rfl, rfl, rfl⟩ := q
      rw [lo_fst (RLt l hl) H hl hlo]
      show zv_V _ _ _ _ _ 56 [.ref 40, .int (nI (c)), .int (nI (wy)), .int (nI (n)), .ref (300 + 3 * l)] [.int (nI (rm_lo a l)), .ref (300 + 3 * l), .ref 40] _ _ _ _ _
      refine cc_callVk (As := [.ref (300 + 3 * l), .int (nI (rm_lo a l))]) (st := []) (c := 6) (kc1 := (3 * (rm_NL (rm_dl1 201 a l) - nl))) (ks1 := (18 * (rm_NL (rm_dl1 201 a l) - nl))) (kc := (3 * (rm_NL (rm_dls 201 c wy f (rm_dl1 201 a l) (n + 1)).1 - rm_NL (rm_dl1 201 a l)))) (ks := (18 * (rm_NL (rm_dls 201 c wy f (rm_dl1 201 a l) (n + 1)).1 - rm_NL (rm_dl1 201 a l)))) dX7_deliverAll_56 cvX7_81 (wW0_s40 W.1) rfl rfl rfl (by decide) (cc_c1 rfl (cc_c1 rfl cc_c0)) (Nat.le_of_ble_eq_true rfl) (cC_bring d (F := 201) hQ hm hl hs (gvt_201 hP) RL FR) (fun v s1 I1 J1 R1 q => ?_)
      obtain ⟨rfl, q1, q2, q3⟩ := q
      show zv_V _ _ _ _ _ 59 [.ref 40, .int (nI (c)), .int (nI (wy)), .int (nI (n)), .ref (300 + 3 * l)] [.int ((nI (rm_gvs (rm_lo a l) 201 (rm_hld a (rm_lo a l) l) 0).2))] _ _ _ _ _
      have q1 : cr_R s1 I1 J1 R1 (rm_dl1 201 a l) nm nc (rm_NL (rm_dl1 201 a l)) := q1
      have W2 := (xR_B q1).1
      refine zv_pop dX7_deliverAll_59 rfl ?_
      refine zv_iinc (v := nI (n + 1)) (lv' := [.ref 40, .int (nI (c)), .int (nI (wy)), .int (nI (n + 1)), .ref (300 + 3 * l)]) dX7_deliverAll_60 rfl (nI_add (n) 1) (by decide) rfl ?_
      refine zv_aload_n dX7_deliverAll_63 rfl rfl ?_
      refine zv_iload_n dX7_deliverAll_64 rfl rfl ?_
      refine zv_iload_n dX7_deliverAll_65 rfl rfl ?_
      refine cc_callV (As := [.int (nI (c)), .int (nI (wy))]) (st := []) (c := 6) dX7_deliverAll_66 cvX7_88 (wW0_s40 W2.1) rfl rfl rfl (by decide) (cc_c1 rfl (cc_c1 rfl cc_c0)) (Nat.le_of_ble_eq_true rfl) (cC_nextOnLine (d + 6) q1 (iv_on hQ2.1) hc hw) (fun v s1 I1 J1 R1 q => ?_)
      obtain ⟨rfl, rfl, rfl, rfl, rfl⟩ := q
      rw [nw_ln hw, show rm_lnd (rm_dl1 201 a l) nm (rm_NL (rm_dl1 201 a l)) c wy = rm_ln (rm_dl1 201 a l) c wy from by unfold rm_ln; rw [(iv_NM hQ2.1).1]]
      show zv_V _ _ _ _ _ 69 [.ref 40, .int (nI (c)), .int (nI (wy)), .int (nI (n + 1)), .ref (300 + 3 * l)] [va_rf (cr_lt (rm_ln (rm_dl1 201 a l) c wy))] _ _ _ _ _
      have ih2 := ih (rm_dl1 201 a l) (rm_NL (rm_dl1 201 a l)) _ _ _ _ (n + 1) hQ2 ht q1 q2 (by omega) (fun t ht9 => ⟨(q3 t ht9).1.trans (hfr t ht9).1, (q3 t ht9).2.1.trans (hfr t ht9).2.1, (q3 t ht9).2.2.trans (hfr t ht9).2.2⟩)
      cases hx2 : rm_ln (rm_dl1 201 a l) c wy with
      | none =>
        show zv_V _ _ _ _ _ 69 [.ref 40, .int (nI (c)), .int (nI (wy)), .int (nI (n + 1)), .ref (300 + 3 * l)] [.null] _ _ _ _ _
        refine zv_astoreN (lv' := [.ref 40, .int (nI (c)), .int (nI (wy)), .int (nI (n + 1)), .null]) dX7_deliverAll_69 (by decide) rfl ?_
        refine zv_goto (tgt := 33) dX7_deliverAll_71 (by decide) ?_
        rw [hx2] at ih2
        exact ih2
      | some l2 =>
        show zv_V _ _ _ _ _ 69 [.ref 40, .int (nI (c)), .int (nI (wy)), .int (nI (n + 1)), .ref (300 + 3 * l)] [.ref (300 + 3 * l2)] _ _ _ _ _
        refine zv_astore (lv' := [.ref 40, .int (nI (c)), .int (nI (wy)), .int (nI (n + 1)), .ref (300 + 3 * l2)]) dX7_deliverAll_69 (by decide) rfl ?_
        refine zv_goto (tgt := 33) dX7_deliverAll_71 (by decide) ?_
        rw [hx2] at ih2
        exact ih2
theorem cC_deliverAll_0 (d : Nat) {E : zv_E} {sh : zv_S} {I : zv_I} {J : zv_J} {R : zv_R} {nm nc nl : Nat} {a : zv_I} (hQ : iQ a nm nc nl) (RL : cr_R sh I J R a nm nc nl) (FR : cr_F sh nm nc nl) {f c wy : Nat} (hc : c < nc) (hw : wy < 2) (ht : rm_dlt 201 c wy f a = true) : zv_V E mX7_deliverAll (d + 7) (3 * (rm_NL (rm_dls 201 c wy f a 0).1 - nl)) (18 * (rm_NL (rm_dls 201 c wy f a 0).1 - nl)) 0 [.ref 40, .int (nI c), .int (nI wy)] [] sh I J R (cr_Q (nI (rm_dls 201 c wy f a 0).2) (zv_u (rm_dls 201 c wy f a 0).1 3 24 (nI 0)) nm nc (rm_NL (rm_dls 201 c wy f a 0).1) sh I R) := by
  have H := hQ.1
  obtain ⟨W, n5, b5, n6, b6, n7, b7, LF⟩ := xR_B RL
  have RLt := xR_L RL
  refine zv_aload_n dX7_deliverAll_0 rfl rfl ?_
  refine zv_iload_n dX7_deliverAll_1 rfl rfl ?_
  refine cc_callV (As := [.int (nI (c))]) (st := []) (c := 6) dX7_deliverAll_2 cvX7_85 (wW0_s40 W.1) rfl rfl rfl (by decide) (cc_c1 rfl cc_c0) (Nat.le_of_ble_eq_true rfl) (cC_isCircle (d + 6) W.1 n6 (by omega) (nI (c))) (fun v s1 I1 J1 R1 q => ?_)
  obtain ⟨rfl, rfl, rfl, rfl, rfl⟩ := q
  show zv_V _ _ _ _ _ 5 [.ref 40, .int (nI (c)), .int (nI (wy))] [.int (rm_b (rm_lt (nI (c)) nc))] _ _ _ _ _
  refine zv_ifB_eq (tgt := 17) dX7_deliverAll_5 (by decide) (fun h5 => (absurd h5 (by rw [rm_lt_n (by omega), decide_eq_true hc]; decide))) (fun h5 => ?_)
  refine zv_iload_n dX7_deliverAll_8 rfl rfl ?_
  refine zv_if_lt (tgt := 17) dX7_deliverAll_9 (by decide) (fun h9 => (absurd h9 (cl_nn (by omega)))) (fun h9 => ?_)
  refine zv_iload_n dX7_deliverAll_12 rfl rfl ?_
  refine zv_iconst (v := nI (1)) dX7_deliverAll_13 (by decide) ?_
  refine zv_icN_le (tgt := 23) dX7_deliverAll_14 (by decide) (by omega) (by omega) (fun h14 => ?_) (fun h14 => (absurd h14 (by omega)))
  refine zv_iconst (v := nI (0)) dX7_deliverAll_23 (by decide) ?_
  refine zv_istore_n (lv' := [.ref 40, .int (nI (c)), .int (nI (wy)), .int (nI (0))]) dX7_deliverAll_24 rfl (by decide) rfl ?_
  refine zv_aload_n dX7_deliverAll_25 rfl rfl ?_
  refine zv_iload_n dX7_deliverAll_26 rfl rfl ?_
  refine zv_iload_n dX7_deliverAll_27 rfl rfl ?_
  refine cc_callV (As := [.int (nI (c)), .int (nI (wy))]) (st := []) (c := 6) dX7_deliverAll_28 cvX7_88 (wW0_s40 W.1) rfl rfl rfl (by decide) (cc_c1 rfl (cc_c1 rfl cc_c0)) (Nat.le_of_ble_eq_true rfl) (cC_nextOnLine (d + 6) RL (iv_on H) hc hw) (fun v s1 I1 J1 R1 q => ?_)
  obtain ⟨rfl, rfl, rfl, rfl, rfl⟩ := q
  rw [nw_ln hw, show rm_lnd a nm nl c wy = rm_ln a c wy from by unfold rm_ln; rw [(iv_NM H).1, (iv_NM H).2.2]]
  show zv_V _ _ _ _ _ 31 [.ref 40, .int (nI (c)), .int (nI (wy)), .int (nI (0))] [va_rf (cr_lt (rm_ln a c wy))] _ _ _ _ _
  have ih2 := cC_deliverAll_l d (E := E) (sh0 := sh) (I0 := I) (R0 := R) hc hw f a nl sh I J R 0 hQ ht RL FR (Nat.zero_le _) (fun t _ => ⟨rfl, rfl, rfl⟩)
  cases hx2 : rm_ln a c wy with
  | none =>
    show zv_V _ _ _ _ _ 31 [.ref 40, .int (nI (c)), .int (nI (wy)), .int (nI (0))] [.null] _ _ _ _ _
    refine zv_astoreN (lv' := [.ref 40, .int (nI (c)), .int (nI (wy)), .int (nI (0)), .null]) dX7_deliverAll_31 (by decide) rfl ?_
    rw [hx2] at ih2
    exact ih2
  | some l2 =>
    show zv_V _ _ _ _ _ 31 [.ref 40, .int (nI (c)), .int (nI (wy)), .int (nI (0))] [.ref (300 + 3 * l2)] _ _ _ _ _
    refine zv_astore (lv' := [.ref 40, .int (nI (c)), .int (nI (wy)), .int (nI (0)), .ref (300 + 3 * l2)]) dX7_deliverAll_31 (by decide) rfl ?_
    rw [hx2] at ih2
    exact ih2
