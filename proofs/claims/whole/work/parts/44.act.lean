def cr_aI (I a : zv_I) (nc nl : Nat) (l y x : Int32) : zv_I := if (rm_lt l nl && rm_lt y 4) = true then zv_u (ct_l (zv_u I 45 1 (nI 0)) 0 (p_act a nc (rm_nv l) (rm_nv (a 10 (rm_nv l))) x (rm_nv y)).2) 40 9 (nI 0) else zv_u I 40 9 (nI 1)
theorem cr_actn {a : zv_I} {nc nl : Nat} {l y x : Int32} {I : zv_I} (h : (rm_lt l nl && rm_lt y 4) = false) : q_actR a nc nl l y x = -1 ∧ cr_aI I a nc nl l y x = zv_u I 40 9 (nI 1) := by
  unfold q_actR cr_aI
  rw [h]
  exact ⟨rfl, rfl⟩
theorem cr_acty {a : zv_I} {nc nl l y : Nat} {x : Int32} {I : zv_I} (hl : l < nl) (hn : nl ≤ 200) (hy : y < 4) : q_actR a nc nl (nI l) (nI y) x = (p_act a nc l (rm_nv (a 10 l)) x y).1 ∧ cr_aI I a nc nl (nI l) (nI y) x = zv_u (ct_l (zv_u I 45 1 (nI 0)) 0 (p_act a nc l (rm_nv (a 10 l)) x y).2) 40 9 (nI 0) := by
  unfold q_actR cr_aI
  rw [rm_lt_n (by omega), rm_lt_n (by omega), decide_eq_true hl, decide_eq_true hy, rm_nv_n (n := l) (by omega), rm_nv_n (n := y) (by omega)]
  exact ⟨rfl, rfl⟩
theorem cC_act (d : Nat) {E : zv_E} {sh : zv_S} {I : zv_I} {J : zv_J} {R : zv_R} {a : zv_I} {nm nc nl : Nat} (RL : cr_R sh I J R a nm nc nl) (hkd : ∀ l, l < nl → a 10 l = nI (rm_nv (a 10 l)) ∧ rm_nv (a 10 l) < 6) (x w z : Int32) : zv_V E mX7_act (d + 9) 0 0 0 [.ref 40, .int x, .int w, .int z] [] sh I J R (cc_p (q_actR a nc nl x w z) sh (cr_aI I a nc nl x w z) J R) := by
  obtain ⟨B, RT, RC, RLt, RM⟩ := RL
  have B0 := B
  obtain ⟨W, n5, b5, n6, b6, n7, b7, LF⟩ := B
  have LC : ∀ l, l < nl → I (300 + 3 * l) 2 = nI (rm_ci a l) ∧ rm_ci a l < nc := cr_lci B0 RLt
  have LW : ∀ l, l < nl → I (300 + 3 * l) 3 = nI (rm_wr a l) ∧ rm_wr a l < nm := cr_lwi B0 RLt
  refine zv_aload_n dX7_act_0 rfl rfl ?_
  refine zv_iload_n dX7_act_1 rfl rfl ?_
  refine cc_callV (As := [.int (x)]) (st := []) (c := 6) dX7_act_2 cvX7_71 (wW0_s40 W.1) rfl rfl rfl (by decide) (cc_c1 rfl cc_c0) (Nat.le_of_ble_eq_true rfl) (cC_isLetter (d + 8) W.1 n7 (by omega) x) (fun v s1 I1 J1 R1 q => ?_)
  obtain ⟨rfl, rfl, rfl, rfl, rfl⟩ := q
  show zv_V _ _ _ _ _ 5 [.ref 40, .int (x), .int (w), .int (z)] [.int (rm_b (rm_lt x nl))] _ _ _ _ _
  refine zv_ifB_eq (tgt := 17) dX7_act_5 (by decide) (fun h5 => ?_) (fun h5 => ?_)
  · refine zv_aload_n dX7_act_17 rfl rfl ?_
    refine zv_iconst (v := nI (1)) dX7_act_18 (by decide) ?_
    refine cc_callV (As := [.int (nI (1))]) (st := []) (c := 6) dX7_act_19 cvX7_45 (wW0_s40 W.1) rfl rfl rfl (by decide) (cc_c1 rfl cc_c0) (Nat.le_of_ble_eq_true rfl) (cC_refuse (d + 8) W.1 (nI (1))) (fun v s1 I1 J1 R1 q => ?_)
    obtain ⟨rfl, rfl, rfl, rfl, rfl⟩ := q
    show zv_V _ _ _ _ _ 22 [.ref 40, .int (x), .int (w), .int (z)] [.int ((-1 : Int32))] _ _ _ _ _
    refine zv_iret dX7_act_22 rfl rfl ?_
    rw [(cr_actn (a := a) (nc := nc) (x := z) (I := I) (by rw [h5]; rfl)).1, (cr_actn (a := a) (nc := nc) (x := z) (I := I) (by rw [h5]; rfl)).2]
    exact ⟨rfl, rfl, rfl, rfl, rfl⟩
  · obtain ⟨l, hl, rfl⟩ := rm_lt_t h5 (by omega)
    refine zv_iload_n dX7_act_8 rfl rfl ?_
    refine zv_if_lt (tgt := 17) dX7_act_9 (by decide) (fun h9 => ?_) (fun h9 => ?_)
    · refine zv_aload_n dX7_act_17 rfl rfl ?_
      refine zv_iconst (v := nI (1)) dX7_act_18 (by decide) ?_
      refine cc_callV (As := [.int (nI (1))]) (st := []) (c := 6) dX7_act_19 cvX7_45 (wW0_s40 W.1) rfl rfl rfl (by decide) (cc_c1 rfl cc_c0) (Nat.le_of_ble_eq_true rfl) (cC_refuse (d + 8) W.1 (nI (1))) (fun v s1 I1 J1 R1 q => ?_)
      obtain ⟨rfl, rfl, rfl, rfl, rfl⟩ := q
      show zv_V _ _ _ _ _ 22 [.ref 40, .int (nI (l)), .int (w), .int (z)] [.int ((-1 : Int32))] _ _ _ _ _
      refine zv_iret dX7_act_22 rfl rfl ?_
      rw [(cr_actn (a := a) (nc := nc) (x := z) (I := I) (by rw [cl_0 h9]; exact Bool.and_false _)).1, (cr_actn (a := a) (nc := nc) (x := z) (I := I) (by rw [cl_0 h9]; exact Bool.and_false _)).2]
      exact ⟨rfl, rfl, rfl, rfl, rfl⟩
    · refine zv_iload_n dX7_act_12 rfl rfl ?_
      refine zv_iconst (v := nI (4)) dX7_act_13 (by decide) ?_
      refine zv_icmp_lt (tgt := 23) dX7_act_14 (by decide) (fun h14 => ?_) (fun h14 => ?_)
      · have h14b := cl_2 (n := 4) (by decide) h9 (Int32.not_le.mpr h14)
        obtain ⟨y, hy, rfl⟩ := rm_lt_t h14b (by decide)
        refine zv_aload_n dX7_act_23 rfl rfl ?_
        refine zv_getr 6 4 (u := 45) dX7_act_24 flX7_34 (wW0_s40 W.1) rfl (wW0_r4 W.1) ?_
        refine cc_callV (As := []) (st := []) (c := 5) dX7_act_27 cvX7_184 (wW0_s45 W.1) rfl rfl rfl (by decide) cc_c0 (Nat.le_of_ble_eq_true rfl) (cC_restart (d + 8) W.1) (fun v s1 I1 J1 R1 q => ?_)
        obtain ⟨rfl, rfl, rfl, rfl, rfl⟩ := q
        show zv_V _ _ _ _ _ 30 [.ref 40, .int (nI (l)), .int (nI (y)), .int (z)] [] _ _ _ _ _
        refine zv_aload_n dX7_act_30 rfl rfl ?_
        refine zv_aload_n dX7_act_31 rfl rfl ?_
        refine zv_getr 6 2 (u := 43) dX7_act_32 flX7_23 (wW0_s40 W.1) rfl (wW0_r2 W.1) ?_
        refine zv_iload_n dX7_act_35 rfl rfl ?_
        refine zv_aald (j := l) (o := some (300 + 3 * l)) dX7_act_36 (wW0_s43 W.1) (by decide) (by decide) (rfl) (show l < 200 from by omega) (by decide) ((W.2.2.2 l (by omega)).1) ?_
        show zv_V _ _ _ _ _ 37 [.ref 40, .int (nI (l)), .int (nI (y)), .int (z)] [.ref (300 + 3 * l), .ref 40] _ _ _ _ _
        refine zv_aload_n dX7_act_37 rfl rfl ?_
        refine zv_getr 6 4 (u := 45) dX7_act_38 flX7_34 (wW0_s40 W.1) rfl (wW0_r4 W.1) ?_
        refine zv_aload_n dX7_act_41 rfl rfl ?_
        refine zv_getr 6 2 (u := 43) dX7_act_42 flX7_23 (wW0_s40 W.1) rfl (wW0_r2 W.1) ?_
        refine zv_iload_n dX7_act_45 rfl rfl ?_
        refine zv_aald (j := l) (o := some (300 + 3 * l)) dX7_act_46 (wW0_s43 W.1) (by decide) (by decide) (rfl) (show l < 200 from by omega) (by decide) ((W.2.2.2 l (by omega)).1) ?_
        show zv_V _ _ _ _ _ 47 [.ref 40, .int (nI (l)), .int (nI (y)), .int (z)] [.ref (300 + 3 * l), .ref 45, .ref (300 + 3 * l), .ref 40] _ _ _ _ _
        refine zv_geti 2 1 (x := nI (rm_nv (a 10 l))) dX7_act_47 flX7_102 (wWL_s (W.2.2.2 l (by omega)).2) rfl ((congrFun (zv_u_row I 45 1 (nI 0) (show 300 + 3 * l ≠ 45 by omega)) 1).trans ((xL_k (RLt l hl)).trans (hkd l hl).1)) ?_
        refine zv_iload_n dX7_act_50 rfl rfl ?_
        refine zv_iload_n dX7_act_51 rfl rfl ?_
        refine zv_iconst (v := nI (0)) dX7_act_52 (by decide) ?_
        rw [(cr_acty (a := a) (nc := nc) (x := z) (I := I) hl b7 hy).1, (cr_acty (a := a) (nc := nc) (x := z) (I := I) hl b7 hy).2]
        have P : cp_l (zv_u I 45 1 (nI 0)) R l (rm_nv (a 10 l)) (a 13 l) (a 14 l) (a 15 l) (nI (rm_cof a nc l)) := by
          unfold cp_l
          rw [zv_u_row I 45 1 (nI 0) (show 300 + 3 * l ≠ 45 by omega), zv_u_row I 45 1 (nI 0) (show 1000 + 8 * cc_ck R l ≠ 45 by omega)]
          exact ⟨(xL_k (RLt l hl)).trans (hkd l hl).1, xL_s (RLt l hl), xL_n (RLt l hl), xL_p (RLt l hl), xL_ct (RLt l hl)⟩
        have w : cp_w sh R l := ⟨W.1, (W.2.2.2 l hl).2, (LF l hl).2.2.2.2.2.1, (LF l hl).2.2.2.2.2.2⟩
        have ht : zv_u I 45 1 (nI 0) 45 1 = nI 0 := zv_u_s _ _ _ _
        rcases (show y = 0 ∨ y = 1 ∨ y = 2 ∨ y = 3 by omega) with rfl | rfl | rfl | rfl
        · refine cc_callS (As := [.ref (300 + 3 * l), .ref 45, .int (nI (rm_nv (a 10 l))), .int (nI (0)), .int (z), .int (nI (0))]) (st := [.ref 40]) dX7_act_53 csX7_187 rfl (by decide) (cc_c1 rfl (cc_c1 rfl (cc_c1 rfl (cc_c1 rfl (cc_c1 rfl (cc_c1 rfl cc_c0)))))) (Nat.le_of_ble_eq_true rfl) (cP_age (d + 6) (hkd l hl).2 w (hkd l hl).2 P ht (n := 0) (dp := 0) (by omega) (by omega) z) (fun v s1 I1 J1 R1 q => ?_)
          obtain ⟨rfl, rfl, rfl, rfl, rfl⟩ := q
          show zv_V _ _ _ _ _ 56 [.ref 40, .int (nI (l)), .int (nI (0)), .int (z)] [.int ((p_act a nc l (rm_nv (a 10 l)) z 0).1), .ref 40] _ _ _ _ _
          refine cc_callV (As := [.int ((p_act a nc l (rm_nv (a 10 l)) z 0).1)]) (st := []) (c := 6) dX7_act_56 cvX7_50 (wW0_s40 W.1) rfl rfl rfl (by decide) (cc_c1 rfl cc_c0) (Nat.le_of_ble_eq_true rfl) (cC_done (d + 8) W.1 ((p_act a nc l (rm_nv (a 10 l)) z 0).1)) (fun v s1 I1 J1 R1 q => ?_)
          obtain ⟨rfl, rfl, rfl, rfl, rfl⟩ := q
          show zv_V _ _ _ _ _ 59 [.ref 40, .int (nI (l)), .int (nI (0)), .int (z)] [.int ((p_act a nc l (rm_nv (a 10 l)) z 0).1)] _ _ _ _ _
          refine zv_iret dX7_act_59 rfl rfl ?_
          exact ⟨rfl, rfl, rfl, rfl, rfl⟩
        · refine cc_callS (As := [.ref (300 + 3 * l), .ref 45, .int (nI (rm_nv (a 10 l))), .int (nI (1)), .int (z), .int (nI (0))]) (st := [.ref 40]) dX7_act_53 csX7_187 rfl (by decide) (cc_c1 rfl (cc_c1 rfl (cc_c1 rfl (cc_c1 rfl (cc_c1 rfl (cc_c1 rfl cc_c0)))))) (Nat.le_of_ble_eq_true rfl) (cP_bear (d + 5) (hkd l hl).2 w (hkd l hl).2 P ht (n := 0) (dp := 0) (by omega) (by omega) z) (fun v s1 I1 J1 R1 q => ?_)
          obtain ⟨rfl, rfl, rfl, rfl, rfl⟩ := q
          show zv_V _ _ _ _ _ 56 [.ref 40, .int (nI (l)), .int (nI (1)), .int (z)] [.int ((p_act a nc l (rm_nv (a 10 l)) z 1).1), .ref 40] _ _ _ _ _
          refine cc_callV (As := [.int ((p_act a nc l (rm_nv (a 10 l)) z 1).1)]) (st := []) (c := 6) dX7_act_56 cvX7_50 (wW0_s40 W.1) rfl rfl rfl (by decide) (cc_c1 rfl cc_c0) (Nat.le_of_ble_eq_true rfl) (cC_done (d + 8) W.1 ((p_act a nc l (rm_nv (a 10 l)) z 1).1)) (fun v s1 I1 J1 R1 q => ?_)
          obtain ⟨rfl, rfl, rfl, rfl, rfl⟩ := q
          show zv_V _ _ _ _ _ 59 [.ref 40, .int (nI (l)), .int (nI (1)), .int (z)] [.int ((p_act a nc l (rm_nv (a 10 l)) z 1).1)] _ _ _ _ _
          refine zv_iret dX7_act_59 rfl rfl ?_
          exact ⟨rfl, rfl, rfl, rfl, rfl⟩
        · refine cc_callS (As := [.ref (300 + 3 * l), .ref 45, .int (nI (rm_nv (a 10 l))), .int (nI (2)), .int (z), .int (nI (0))]) (st := [.ref 40]) dX7_act_53 csX7_187 rfl (by decide) (cc_c1 rfl (cc_c1 rfl (cc_c1 rfl (cc_c1 rfl (cc_c1 rfl (cc_c1 rfl cc_c0)))))) (Nat.le_of_ble_eq_true rfl) (cP_give (d + 3) (hkd l hl).2 w (hkd l hl).2 P ht (n := 0) (dp := 0) (by omega) (by omega) z) (fun v s1 I1 J1 R1 q => ?_)
          obtain ⟨rfl, rfl, rfl, rfl, rfl⟩ := q
          show zv_V _ _ _ _ _ 56 [.ref 40, .int (nI (l)), .int (nI (2)), .int (z)] [.int ((p_act a nc l (rm_nv (a 10 l)) z 2).1), .ref 40] _ _ _ _ _
          refine cc_callV (As := [.int ((p_act a nc l (rm_nv (a 10 l)) z 2).1)]) (st := []) (c := 6) dX7_act_56 cvX7_50 (wW0_s40 W.1) rfl rfl rfl (by decide) (cc_c1 rfl cc_c0) (Nat.le_of_ble_eq_true rfl) (cC_done (d + 8) W.1 ((p_act a nc l (rm_nv (a 10 l)) z 2).1)) (fun v s1 I1 J1 R1 q => ?_)
          obtain ⟨rfl, rfl, rfl, rfl, rfl⟩ := q
          show zv_V _ _ _ _ _ 59 [.ref 40, .int (nI (l)), .int (nI (2)), .int (z)] [.int ((p_act a nc l (rm_nv (a 10 l)) z 2).1)] _ _ _ _ _
          refine zv_iret dX7_act_59 rfl rfl ?_
          exact ⟨rfl, rfl, rfl, rfl, rfl⟩
        · refine cc_callS (As := [.ref (300 + 3 * l), .ref 45, .int (nI (rm_nv (a 10 l))), .int (nI (3)), .int (z), .int (nI (0))]) (st := [.ref 40]) dX7_act_53 csX7_187 rfl (by decide) (cc_c1 rfl (cc_c1 rfl (cc_c1 rfl (cc_c1 rfl (cc_c1 rfl (cc_c1 rfl cc_c0)))))) (Nat.le_of_ble_eq_true rfl) (cP_wait (d + 1) (hkd l hl).2 w (hkd l hl).2 P ht (n := 0) (dp := 0) (by omega) (by omega) z) (fun v s1 I1 J1 R1 q => ?_)
          obtain ⟨rfl, rfl, rfl, rfl, rfl⟩ := q
          show zv_V _ _ _ _ _ 56 [.ref 40, .int (nI (l)), .int (nI (3)), .int (z)] [.int ((p_act a nc l (rm_nv (a 10 l)) z 3).1), .ref 40] _ _ _ _ _
          refine cc_callV (As := [.int ((p_act a nc l (rm_nv (a 10 l)) z 3).1)]) (st := []) (c := 6) dX7_act_56 cvX7_50 (wW0_s40 W.1) rfl rfl rfl (by decide) (cc_c1 rfl cc_c0) (Nat.le_of_ble_eq_true rfl) (cC_done (d + 8) W.1 ((p_act a nc l (rm_nv (a 10 l)) z 3).1)) (fun v s1 I1 J1 R1 q => ?_)
          obtain ⟨rfl, rfl, rfl, rfl, rfl⟩ := q
          show zv_V _ _ _ _ _ 59 [.ref 40, .int (nI (l)), .int (nI (3)), .int (z)] [.int ((p_act a nc l (rm_nv (a 10 l)) z 3).1)] _ _ _ _ _
          refine zv_iret dX7_act_59 rfl rfl ?_
          exact ⟨rfl, rfl, rfl, rfl, rfl⟩
      · refine zv_aload_n dX7_act_17 rfl rfl ?_
        refine zv_iconst (v := nI (1)) dX7_act_18 (by decide) ?_
        refine cc_callV (As := [.int (nI (1))]) (st := []) (c := 6) dX7_act_19 cvX7_45 (wW0_s40 W.1) rfl rfl rfl (by decide) (cc_c1 rfl cc_c0) (Nat.le_of_ble_eq_true rfl) (cC_refuse (d + 8) W.1 (nI (1))) (fun v s1 I1 J1 R1 q => ?_)
        obtain ⟨rfl, rfl, rfl, rfl, rfl⟩ := q
        show zv_V _ _ _ _ _ 22 [.ref 40, .int (nI (l)), .int (w), .int (z)] [.int ((-1 : Int32))] _ _ _ _ _
        refine zv_iret dX7_act_22 rfl rfl ?_
        rw [(cr_actn (a := a) (nc := nc) (x := z) (I := I) (by rw [cl_1 (by decide) (Int32.not_lt.mp h14)]; exact Bool.and_false _)).1, (cr_actn (a := a) (nc := nc) (x := z) (I := I) (by rw [cl_1 (by decide) (Int32.not_lt.mp h14)]; exact Bool.and_false _)).2]
        exact ⟨rfl, rfl, rfl, rfl, rfl⟩
def cr_bI (I a : zv_I) (nm nl : Nat) (m s l : Int32) : zv_I := if (rm_lt m nm && (rm_lt s 40 && rm_lt l nl)) = true then (if a 27 (40 * rm_nv m + rm_nv s) = 0 then zv_u I 40 9 (nI 0) else zv_u I 40 9 (nI 3)) else zv_u I 40 9 (nI 1)
def cr_bR (R : zv_R) (a : zv_I) (nm nl : Nat) (m s l : Int32) : zv_R := if (rm_lt m nm && (rm_lt s 40 && rm_lt l nl)) = true then (if a 27 (40 * rm_nv m + rm_nv s) = 0 then zv_u R (113 + 20 * rm_nv m) (rm_nv s) (some (1000 + 8 * cc_ck R (rm_nv l))) else R) else R
theorem cr_bn {I : zv_I} {R : zv_R} {a : zv_I} {nm nl : Nat} {m s l : Int32} (h : (rm_lt m nm && (rm_lt s 40 && rm_lt l nl)) = false) : q_bareR a nm nl m s l = -1 ∧ cr_bI I a nm nl m s l = zv_u I 40 9 (nI 1) ∧ cr_bR R a nm nl m s l = R := by
  unfold q_bareR cr_bI cr_bR
  rw [h]
  exact ⟨rfl, rfl, rfl⟩
theorem cr_bh {nm nl m s l : Nat} (hm : m < nm) (hs : s < 40) (hl : l < nl) (h8 : nm ≤ 8) (h2 : nl ≤ 200) : (rm_lt (nI m) nm && (rm_lt (nI s) 40 && rm_lt (nI l) nl)) = true := by
  rw [rm_lt_n (by omega), rm_lt_n (by omega), rm_lt_n (by omega), decide_eq_true hm, decide_eq_true hs, decide_eq_true hl]
  rfl
theorem cr_bx {I : zv_I} {R : zv_R} {a : zv_I} {nm nl m s l : Nat} (hm : m < nm) (hs : s < 40) (hl : l < nl) (h8 : nm ≤ 8) (h2 : nl ≤ 200) (h0 : ¬ a 27 (40 * m + s) = 0) : q_bareR a nm nl (nI m) (nI s) (nI l) = -1 ∧ cr_bI I a nm nl (nI m) (nI s) (nI l) = zv_u I 40 9 (nI 3) ∧ cr_bR R a nm nl (nI m) (nI s) (nI l) = R := by
  unfold q_bareR cr_bI cr_bR
  rw [cr_bh hm hs hl h8 h2, rm_nv_n (n := m) (by omega), rm_nv_n (n := s) (by omega), rm_nv_n (n := l) (by omega), if_neg h0, if_neg h0, if_neg h0]
  exact ⟨rfl, rfl, rfl⟩
theorem cr_by0 {I : zv_I} {R : zv_R} {a : zv_I} {nm nl m s l : Nat} (hm : m < nm) (hs : s < 40) (hl : l < nl) (h8 : nm ≤ 8) (h2 : nl ≤ 200) (h0 : a 27 (40 * m + s) = 0) : q_bareR a nm nl (nI m) (nI s) (nI l) = nI 1 ∧ cr_bI I a nm nl (nI m) (nI s) (nI l) = zv_u I 40 9 (nI 0) ∧ cr_bR R a nm nl (nI m) (nI s) (nI l) = zv_u R (113 + 20 * m) s (some (1000 + 8 * cc_ck R l)) := by
  unfold q_bareR cr_bI cr_bR
  rw [cr_bh hm hs hl h8 h2, rm_nv_n (n := m) (by omega), rm_nv_n (n := s) (by omega), rm_nv_n (n := l) (by omega), if_pos h0, if_pos h0, if_pos h0]
  exact ⟨rfl, rfl, rfl⟩
theorem cr_th0 {a : zv_I} {m s : Nat} (h : rm_th a m s = none) : a 27 (40 * m + s) = 0 := by
  unfold rm_th rm_thw at h
  by_cases e : a 27 (40 * m + s) = 0
  · exact e
  · rw [if_neg e] at h
    split at h <;> cases h
theorem cr_thn {a : zv_I} {m s : Nat} {x : Bool × Nat} (h : rm_th a m s = some x) : ¬ a 27 (40 * m + s) = 0 := fun q => by
  unfold rm_th at h
  rw [q, rm_thw_0] at h
  cases h
theorem cC_bare (d : Nat) {E : zv_E} {sh : zv_S} {I : zv_I} {J : zv_J} {R : zv_R} {a : zv_I} {nm nc nl : Nat} (RL : cr_R sh I J R a nm nc nl) (hsl : ∀ m s, m < nm → s < 40 → rm_sl a nl m s) (x y z : Int32) : zv_V E mX7_bare (d + 1) 0 0 0 [.ref 40, .int x, .int y, .int z] [] sh I J R (cc_p (q_bareR a nm nl x y z) sh (cr_bI I a nm nl x y z) J (cr_bR R a nm nl x y z)) := by
  obtain ⟨B, RT, RC, RLt, RM⟩ := RL
  have B0 := B
  obtain ⟨W, n5, b5, n6, b6, n7, b7, LF⟩ := B
  have LC : ∀ l, l < nl → I (300 + 3 * l) 2 = nI (rm_ci a l) ∧ rm_ci a l < nc := cr_lci B0 RLt
  have LW : ∀ l, l < nl → I (300 + 3 * l) 3 = nI (rm_wr a l) ∧ rm_wr a l < nm := cr_lwi B0 RLt
  refine zv_aload_n dX7_bare_0 rfl rfl ?_
  refine zv_iload_n dX7_bare_1 rfl rfl ?_
  refine cc_callV (As := [.int (x)]) (st := []) (c := 6) dX7_bare_2 cvX7_75 (wW0_s40 W.1) rfl rfl rfl (by decide) (cc_c1 rfl cc_c0) (Nat.le_of_ble_eq_true rfl) (cC_isMember (d) W.1 n5 (by omega) x) (fun v s1 I1 J1 R1 q => ?_)
  obtain ⟨rfl, rfl, rfl, rfl, rfl⟩ := q
  show zv_V _ _ _ _ _ 5 [.ref 40, .int (x), .int (y), .int (z)] [.int (rm_b (rm_lt x nm))] _ _ _ _ _
  refine zv_ifB_eq (tgt := 23) dX7_bare_5 (by decide) (fun h5 => ?_) (fun h5 => ?_)
  · refine zv_aload_n dX7_bare_23 rfl rfl ?_
    refine zv_iconst (v := nI (1)) dX7_bare_24 (by decide) ?_
    refine cc_callV (As := [.int (nI (1))]) (st := []) (c := 6) dX7_bare_25 cvX7_45 (wW0_s40 W.1) rfl rfl rfl (by decide) (cc_c1 rfl cc_c0) (Nat.le_of_ble_eq_true rfl) (cC_refuse (d) W.1 (nI (1))) (fun v s1 I1 J1 R1 q => ?_)
    obtain ⟨rfl, rfl, rfl, rfl, rfl⟩ := q
    show zv_V _ _ _ _ _ 28 [.ref 40, .int (x), .int (y), .int (z)] [.int ((-1 : Int32))] _ _ _ _ _
    refine zv_iret dX7_bare_28 rfl rfl ?_
    rw [(cr_bn (I := I) (R := R) (a := a) (by rw [h5]; rfl)).1, (cr_bn (I := I) (R := R) (a := a) (by rw [h5]; rfl)).2.1, (cr_bn (I := I) (R := R) (a := a) (by rw [h5]; rfl)).2.2]
    exact ⟨rfl, rfl, rfl, rfl, rfl⟩
  · obtain ⟨r, hr, rfl⟩ := rm_lt_t h5 (by omega)
    refine zv_iload_n dX7_bare_8 rfl rfl ?_
    refine cc_callS (As := [.int (y)]) (st := []) dX7_bare_9 csX7_194 rfl (by decide) (cc_c1 rfl cc_c0) (Nat.le_of_ble_eq_true rfl) (cC_isSlot (d) y) (fun v s1 I1 J1 R1 q => ?_)
    obtain ⟨rfl, rfl, rfl, rfl, rfl⟩ := q
    show zv_V _ _ _ _ _ 12 [.ref 40, .int (nI (r)), .int (y), .int (z)] [.int (rm_b (rm_lt y 40))] _ _ _ _ _
    refine zv_ifB_eq (tgt := 23) dX7_bare_12 (by decide) (fun h12 => ?_) (fun h12 => ?_)
    · refine zv_aload_n dX7_bare_23 rfl rfl ?_
      refine zv_iconst (v := nI (1)) dX7_bare_24 (by decide) ?_
      refine cc_callV (As := [.int (nI (1))]) (st := []) (c := 6) dX7_bare_25 cvX7_45 (wW0_s40 W.1) rfl rfl rfl (by decide) (cc_c1 rfl cc_c0) (Nat.le_of_ble_eq_true rfl) (cC_refuse (d) W.1 (nI (1))) (fun v s1 I1 J1 R1 q => ?_)
      obtain ⟨rfl, rfl, rfl, rfl, rfl⟩ := q
      show zv_V _ _ _ _ _ 28 [.ref 40, .int (nI (r)), .int (y), .int (z)] [.int ((-1 : Int32))] _ _ _ _ _
      refine zv_iret dX7_bare_28 rfl rfl ?_
      rw [(cr_bn (I := I) (R := R) (a := a) (by rw [h12]; exact Bool.and_false _)).1, (cr_bn (I := I) (R := R) (a := a) (by rw [h12]; exact Bool.and_false _)).2.1, (cr_bn (I := I) (R := R) (a := a) (by rw [h12]; exact Bool.and_false _)).2.2]
      exact ⟨rfl, rfl, rfl, rfl, rfl⟩
    · obtain ⟨i, hi, rfl⟩ := rm_lt_t h12 (by omega)
      refine zv_aload_n dX7_bare_15 rfl rfl ?_
      refine zv_iload_n dX7_bare_16 rfl rfl ?_
      refine cc_callV (As := [.int (z)]) (st := []) (c := 6) dX7_bare_17 cvX7_71 (wW0_s40 W.1) rfl rfl rfl (by decide) (cc_c1 rfl cc_c0) (Nat.le_of_ble_eq_true rfl) (cC_isLetter (d) W.1 n7 (by omega) z) (fun v s1 I1 J1 R1 q => ?_)
      obtain ⟨rfl, rfl, rfl, rfl, rfl⟩ := q
      show zv_V _ _ _ _ _ 20 [.ref 40, .int (nI (r)), .int (nI (i)), .int (z)] [.int (rm_b (rm_lt z nl))] _ _ _ _ _
      refine zv_ifB_ne (tgt := 29) dX7_bare_20 (by decide) (fun h20 => ?_) (fun h20 => ?_)
      · obtain ⟨l, hl, rfl⟩ := rm_lt_t h20 (by omega)
        refine zv_aload_n dX7_bare_29 rfl rfl ?_
        refine zv_getr 6 0 (u := 41) dX7_bare_30 flX7_11 (wW0_s40 W.1) rfl (wW0_r0 W.1) ?_
        refine zv_iload_n dX7_bare_33 rfl rfl ?_
        refine zv_aald (j := r) (o := some (100 + 20 * r)) dX7_bare_34 (wW0_s41 W.1) (by decide) (by decide) (rfl) (show r < 8 from by omega) (by decide) ((W.2.1 r (by omega)).1) ?_
        show zv_V _ _ _ _ _ 35 [.ref 40, .int (nI (r)), .int (nI (i)), .int (nI (l))] [.ref (100 + 20 * r)] _ _ _ _ _
        refine zv_getr 3 6 (u := 113 + 20 * r) dX7_bare_35 flX7_197 (wWM_s (W.2.1 r (by omega)).2) rfl (wWM_r6 (W.2.1 r (by omega)).2) ?_
        refine zv_iload_n dX7_bare_38 rfl rfl ?_
        rcases cr_slc b7 (hsl r i hr hi) with e0 | ⟨t, ht, e0⟩ | ⟨t, ht, e0⟩
        · refine zv_aald (j := i) (o := none) dX7_bare_39 (wWM_s6 (W.2.1 r (by omega)).2) (by decide) (by decide) (rfl) (show i < 40 from by omega) (by decide) (by rw [xM_t (RM r hr) i hi, e0]; rfl) ?_
          show zv_V _ _ _ _ _ 40 [.ref 40, .int (nI (r)), .int (nI (i)), .int (nI (l))] [.null] _ _ _ _ _
          refine zv_ifnullN (tgt := 49) dX7_bare_40 (by decide) ?_
          refine zv_aload_n dX7_bare_49 rfl rfl ?_
          refine zv_getr 6 0 (u := 41) dX7_bare_50 flX7_11 (wW0_s40 W.1) rfl (wW0_r0 W.1) ?_
          refine zv_iload_n dX7_bare_53 rfl rfl ?_
          refine zv_aald (j := r) (o := some (100 + 20 * r)) dX7_bare_54 (wW0_s41 W.1) (by decide) (by decide) (rfl) (show r < 8 from by omega) (by decide) ((W.2.1 r (by omega)).1) ?_
          show zv_V _ _ _ _ _ 55 [.ref 40, .int (nI (r)), .int (nI (i)), .int (nI (l))] [.ref (100 + 20 * r)] _ _ _ _ _
          refine zv_getr 3 6 (u := 113 + 20 * r) dX7_bare_55 flX7_197 (wWM_s (W.2.1 r (by omega)).2) rfl (wWM_r6 (W.2.1 r (by omega)).2) ?_
          refine zv_iload_n dX7_bare_58 rfl rfl ?_
          refine zv_aload_n dX7_bare_59 rfl rfl ?_
          refine zv_getr 6 2 (u := 43) dX7_bare_60 flX7_23 (wW0_s40 W.1) rfl (wW0_r2 W.1) ?_
          refine zv_iload_n dX7_bare_63 rfl rfl ?_
          refine zv_aald (j := l) (o := some (300 + 3 * l)) dX7_bare_64 (wW0_s43 W.1) (by decide) (by decide) (rfl) (show l < 200 from by omega) (by decide) ((W.2.2.2 l (by omega)).1) ?_
          show zv_V _ _ _ _ _ 65 [.ref 40, .int (nI (r)), .int (nI (i)), .int (nI (l))] [.ref (300 + 3 * l), .int (nI (i)), .ref (113 + 20 * r)] _ _ _ _ _
          refine zv_getr 2 6 (u := 1000 + 8 * cc_ck R l) dX7_bare_65 flX7_120 (wWL_s (W.2.2.2 l (by omega)).2) rfl ((LF l (by omega)).2.2.2.2.2.1) ?_
          refine zv_aast (j := i) (o := some (1000 + 8 * cc_ck R l)) dX7_bare_68 (wWM_s6 (W.2.1 r (by omega)).2) (by decide) (Or.inr ⟨_, Or.inr (Or.inr (Or.inr (Or.inr ⟨rfl, Or.inr (wWK_s (LF l (by omega)).2.2.2.2.2.2)⟩)))⟩) (fun _ => ⟨ca_933, ca_932⟩) (rfl) (show i < 40 from by omega) (by decide) ?_
          refine zv_aload_n dX7_bare_69 rfl rfl ?_
          refine zv_iconst (v := nI (1)) dX7_bare_70 (by decide) ?_
          refine cc_callV (As := [.int (nI (1))]) (st := []) (c := 6) dX7_bare_71 cvX7_50 (wW0_s40 W.1) rfl rfl rfl (by decide) (cc_c1 rfl cc_c0) (Nat.le_of_ble_eq_true rfl) (cC_done (d) (cc_W0_o W.1 (zv_u_row _ _ _ _ (by omega)) (zv_u_row _ _ _ _ (by omega))) (nI (1))) (fun v s1 I1 J1 R1 q => ?_)
          obtain ⟨rfl, rfl, rfl, rfl, rfl⟩ := q
          show zv_V _ _ _ _ _ 74 [.ref 40, .int (nI (r)), .int (nI (i)), .int (nI (l))] [.int (nI (1))] _ _ _ _ _
          refine zv_iret dX7_bare_74 rfl rfl ?_
          rw [(cr_by0 (I := I) (R := R) hr hi hl b5 b7 (cr_th0 e0)).1, (cr_by0 (I := I) (R := R) hr hi hl b5 b7 (cr_th0 e0)).2.1, (cr_by0 (I := I) (R := R) hr hi hl b5 b7 (cr_th0 e0)).2.2]
          exact ⟨rfl, rfl, rfl, rfl, rfl⟩
        · refine zv_aald (j := i) (o := some (300 + 3 * t)) dX7_bare_39 (wWM_s6 (W.2.1 r (by omega)).2) (by decide) (by decide) (rfl) (show i < 40 from by omega) (by decide) (by rw [xM_t (RM r hr) i hi, e0]; rfl) ?_
          show zv_V _ _ _ _ _ 40 [.ref 40, .int (nI (r)), .int (nI (i)), .int (nI (l))] [.ref (300 + 3 * t)] _ _ _ _ _
          refine zv_ifnull dX7_bare_40 ?_
          refine zv_aload_n dX7_bare_43 rfl rfl ?_
          refine zv_iconst (v := nI (3)) dX7_bare_44 (by decide) ?_
          refine cc_callV (As := [.int (nI (3))]) (st := []) (c := 6) dX7_bare_45 cvX7_45 (wW0_s40 W.1) rfl rfl rfl (by decide) (cc_c1 rfl cc_c0) (Nat.le_of_ble_eq_true rfl) (cC_refuse (d) W.1 (nI (3))) (fun v s1 I1 J1 R1 q => ?_)
          obtain ⟨rfl, rfl, rfl, rfl, rfl⟩ := q
          show zv_V _ _ _ _ _ 48 [.ref 40, .int (nI (r)), .int (nI (i)), .int (nI (l))] [.int ((-1 : Int32))] _ _ _ _ _
          refine zv_iret dX7_bare_48 rfl rfl ?_
          rw [(cr_bx (I := I) (R := R) hr hi hl b5 b7 (cr_thn e0)).1, (cr_bx (I := I) (R := R) hr hi hl b5 b7 (cr_thn e0)).2.1, (cr_bx (I := I) (R := R) hr hi hl b5 b7 (cr_thn e0)).2.2]
          exact ⟨rfl, rfl, rfl, rfl, rfl⟩
        · refine zv_aald (j := i) (o := some (1000 + 8 * cc_ck R t)) dX7_bare_39 (wWM_s6 (W.2.1 r (by omega)).2) (by decide) (by decide) (rfl) (show i < 40 from by omega) (by decide) (by rw [xM_t (RM r hr) i hi, e0]; rfl) ?_
          show zv_V _ _ _ _ _ 40 [.ref 40, .int (nI (r)), .int (nI (i)), .int (nI (l))] [.ref (1000 + 8 * cc_ck R t)] _ _ _ _ _
          refine zv_ifnull dX7_bare_40 ?_
          refine zv_aload_n dX7_bare_43 rfl rfl ?_
          refine zv_iconst (v := nI (3)) dX7_bare_44 (by decide) ?_
          refine cc_callV (As := [.int (nI (3))]) (st := []) (c := 6) dX7_bare_45 cvX7_45 (wW0_s40 W.1) rfl rfl rfl (by decide) (cc_c1 rfl cc_c0) (Nat.le_of_ble_eq_true rfl) (cC_refuse (d) W.1 (nI (3))) (fun v s1 I1 J1 R1 q => ?_)
          obtain ⟨rfl, rfl, rfl, rfl, rfl⟩ := q
          show zv_V _ _ _ _ _ 48 [.ref 40, .int (nI (r)), .int (nI (i)), .int (nI (l))] [.int ((-1 : Int32))] _ _ _ _ _
          refine zv_iret dX7_bare_48 rfl rfl ?_
          rw [(cr_bx (I := I) (R := R) hr hi hl b5 b7 (cr_thn e0)).1, (cr_bx (I := I) (R := R) hr hi hl b5 b7 (cr_thn e0)).2.1, (cr_bx (I := I) (R := R) hr hi hl b5 b7 (cr_thn e0)).2.2]
          exact ⟨rfl, rfl, rfl, rfl, rfl⟩
      · refine zv_aload_n dX7_bare_23 rfl rfl ?_
        refine zv_iconst (v := nI (1)) dX7_bare_24 (by decide) ?_
        refine cc_callV (As := [.int (nI (1))]) (st := []) (c := 6) dX7_bare_25 cvX7_45 (wW0_s40 W.1) rfl rfl rfl (by decide) (cc_c1 rfl cc_c0) (Nat.le_of_ble_eq_true rfl) (cC_refuse (d) W.1 (nI (1))) (fun v s1 I1 J1 R1 q => ?_)
        obtain ⟨rfl, rfl, rfl, rfl, rfl⟩ := q
        show zv_V _ _ _ _ _ 28 [.ref 40, .int (nI (r)), .int (nI (i)), .int (z)] [.int ((-1 : Int32))] _ _ _ _ _
        refine zv_iret dX7_bare_28 rfl rfl ?_
        rw [(cr_bn (I := I) (R := R) (a := a) (by rw [h20]; rw [Bool.and_false]; exact Bool.and_false _)).1, (cr_bn (I := I) (R := R) (a := a) (by rw [h20]; rw [Bool.and_false]; exact Bool.and_false _)).2.1, (cr_bn (I := I) (R := R) (a := a) (by rw [h20]; rw [Bool.and_false]; exact Bool.and_false _)).2.2]
        exact ⟨rfl, rfl, rfl, rfl, rfl⟩
