theorem cr_lci {sh : zv_S} {I : zv_I} {J : zv_J} {R : zv_R} {a : zv_I} {nm nc nl : Nat} (B : cc_B sh I R nm nc nl) (L : ∀ l, l < nl → cr_L I J R a nc l) : ∀ l, l < nl → I (300 + 3 * l) 2 = nI (rm_ci a l) ∧ rm_ci a l < nc := by
  intro l hl
  have h1 := (B.2.2.2.2.2.2.2 l hl)
  have h2 : cc_ci I l = rm_ci a l := by unfold cc_ci rm_ci; rw [xL_c (L l hl)]
  rw [← h2]
  exact ⟨h1.2.1, h1.2.2.1⟩
theorem cr_lwi {sh : zv_S} {I : zv_I} {J : zv_J} {R : zv_R} {a : zv_I} {nm nc nl : Nat} (B : cc_B sh I R nm nc nl) (L : ∀ l, l < nl → cr_L I J R a nc l) : ∀ l, l < nl → I (300 + 3 * l) 3 = nI (rm_wr a l) ∧ rm_wr a l < nm := by
  intro l hl
  have h1 := (B.2.2.2.2.2.2.2 l hl)
  have h2 : cc_wi I l = rm_wr a l := by unfold cc_wi rm_wr; rw [xL_w (L l hl)]
  rw [← h2]
  exact ⟨h1.2.2.2.1, h1.2.2.2.2.1⟩
def cr_st (a : zv_I) (m l : Nat) : Prop := (rm_in a m (rm_ci a l) = false ∧ a 20 (200 * m + l) = nI 0) ∨ (rm_in a m (rm_ci a l) = true ∧ (a 20 (200 * m + l) = nI 1 ∨ a 20 (200 * m + l) = nI 2 ∨ a 20 (200 * m + l) = nI 3))
theorem cC_standing (d : Nat) {E : zv_E} {sh : zv_S} {I : zv_I} {J : zv_J} {R : zv_R} {a : zv_I} {nm nc nl : Nat} (RL : cr_R sh I J R a nm nc nl) {r l : Nat} (hr : r < nm) (hl : l < nl) (hst : cr_st a r l) : zv_V E mX7_standing (d + 2) 0 0 0 [.ref 40, .int (nI r), .ref (300 + 3 * l)] [] sh I J R (cc_p (a 20 (200 * r + l)) sh I J R) := by
  obtain ⟨B, RT, RC, RLt, RM⟩ := RL
  have B0 := B
  obtain ⟨W, n5, b5, n6, b6, n7, b7, LF⟩ := B
  have LC : ∀ l, l < nl → I (300 + 3 * l) 2 = nI (rm_ci a l) ∧ rm_ci a l < nc := cr_lci B0 RLt
  have LW : ∀ l, l < nl → I (300 + 3 * l) 3 = nI (rm_wr a l) ∧ rm_wr a l < nm := cr_lwi B0 RLt
  have f2 := (LC l hl).2
  refine zv_aload_n dX7_standing_0 rfl rfl ?_
  refine zv_getr 6 1 (u := 42) dX7_standing_1 flX7_17 (wW0_s40 W.1) rfl (wW0_r1 W.1) ?_
  refine zv_aload_n dX7_standing_4 rfl rfl ?_
  refine zv_geti 2 2 (x := nI (rm_ci a l)) dX7_standing_5 flX7_105 (wWL_s (W.2.2.2 l (by omega)).2) rfl ((LC l (by omega)).1) ?_
  refine zv_aald (j := rm_ci a l) (o := some (50 + (rm_ci a l))) dX7_standing_8 (wW0_s42 W.1) (by decide) (by decide) (rfl) (show rm_ci a l < 6 from by omega) (by decide) ((W.2.2.1 (rm_ci a l) (by omega)).1) ?_
  show zv_V _ _ _ _ _ 9 [.ref 40, .int (nI (r)), .ref (300 + 3 * l)] [.ref (50 + (rm_ci a l))] _ _ _ _ _
  refine zv_geti 0 0 (x := (a 6 (rm_ci a l))) dX7_standing_9 flX7_132 ((W.2.2.1 (rm_ci a l) (by omega)).2) rfl (xC_b (RC (rm_ci a l) (by omega))) ?_
  refine zv_iload_n dX7_standing_12 rfl rfl ?_
  refine cc_callS (As := [.int ((a 6 (rm_ci a l))), .int (nI (r))]) (st := []) dX7_standing_13 csX7_218 rfl (by decide) (cc_c1 rfl (cc_c1 rfl cc_c0)) (Nat.le_of_ble_eq_true rfl) (cC_hasBit (d + 1) ((a 6 (rm_ci a l))) r) (fun v s1 I1 J1 R1 q => ?_)
  obtain ⟨rfl, rfl, rfl, rfl, rfl⟩ := q
  show zv_V _ _ _ _ _ 16 [.ref 40, .int (nI (r)), .ref (300 + 3 * l)] [.int (rm_b (cb ((a 6 (rm_ci a l))) r))] _ _ _ _ _
  refine zv_ifB_ne (tgt := 21) dX7_standing_16 (by decide) (fun h16 => ?_) (fun h16 => ?_)
  · refine zv_aload_n dX7_standing_21 rfl rfl ?_
    refine zv_iload_n dX7_standing_22 rfl rfl ?_
    refine cc_callV (As := [.int (nI (r))]) (st := []) (c := 2) dX7_standing_23 cvX7_78 (wWL_s (W.2.2.2 l (by omega)).2) rfl rfl rfl (by decide) (cc_c1 rfl cc_c0) (Nat.le_of_ble_eq_true rfl) (cC_isOnLineTo (d) (m := r) ((W.2.2.2 l (by omega)).2)) (fun v s1 I1 J1 R1 q => ?_)
    obtain ⟨rfl, rfl, rfl, rfl, rfl⟩ := q
    rw [xL_lb (RLt l (by omega)) r (by omega)]
    show zv_V _ _ _ _ _ 26 [.ref 40, .int (nI (r)), .ref (300 + 3 * l)] [.int (rm_b (decide (a 20 (200 * r + l) = nI 1)))] _ _ _ _ _
    refine zv_ifB_eq (tgt := 31) dX7_standing_26 (by decide) (fun h26 => ?_) (fun h26 => ?_)
    · refine zv_aload_n dX7_standing_31 rfl rfl ?_
      refine zv_iload_n dX7_standing_32 rfl rfl ?_
      refine cc_callV (As := [.int (nI (r))]) (st := []) (c := 2) dX7_standing_33 cvX7_256 (wWL_s (W.2.2.2 l (by omega)).2) rfl rfl rfl (by decide) (cc_c1 rfl cc_c0) (Nat.le_of_ble_eq_true rfl) (cC_isGivenBy (d) (m := r) ((W.2.2.2 l (by omega)).2)) (fun v s1 I1 J1 R1 q => ?_)
      obtain ⟨rfl, rfl, rfl, rfl, rfl⟩ := q
      rw [xL_gb (RLt l (by omega)) r (by omega)]
      show zv_V _ _ _ _ _ 36 [.ref 40, .int (nI (r)), .ref (300 + 3 * l)] [.int (rm_b (decide (a 20 (200 * r + l) = nI 3)))] _ _ _ _ _
      refine zv_ifB_eq (tgt := 43) dX7_standing_36 (by decide) (fun h36 => ?_) (fun h36 => ?_)
      · refine zv_iconst (v := nI (2)) dX7_standing_43 (by decide) ?_
        refine zv_iret dX7_standing_44 rfl rfl ?_
        exact ⟨congrArg (fun z => some (Value.int z)) (by exact hst.elim (fun q => absurd (q.1.symm.trans h16) (by decide)) (fun q => q.2.elim (fun z => absurd z (of_decide_eq_false h26)) (fun z => z.elim (fun y => y.symm) (fun y => absurd y (of_decide_eq_false h36))))), rfl, rfl, rfl, rfl⟩
      · refine zv_iconst (v := nI (3)) dX7_standing_39 (by decide) ?_
        refine zv_goto (tgt := 44) dX7_standing_40 (by decide) ?_
        refine zv_iret dX7_standing_44 rfl rfl ?_
        exact ⟨congrArg (fun z => some (Value.int z)) (by exact (of_decide_eq_true h36).symm), rfl, rfl, rfl, rfl⟩
    · refine zv_iconst (v := nI (1)) dX7_standing_29 (by decide) ?_
      refine zv_iret dX7_standing_30 rfl rfl ?_
      exact ⟨congrArg (fun z => some (Value.int z)) (by exact (of_decide_eq_true h26).symm), rfl, rfl, rfl, rfl⟩
  · refine zv_iconst (v := nI (0)) dX7_standing_19 (by decide) ?_
    refine zv_iret dX7_standing_20 rfl rfl ?_
    exact ⟨congrArg (fun z => some (Value.int z)) (by exact hst.elim (fun q => q.2.symm) (fun q => absurd (h16.symm.trans q.1) (by decide))), rfl, rfl, rfl, rfl⟩
theorem cC_state (d : Nat) {E : zv_E} {sh : zv_S} {I : zv_I} {J : zv_J} {R : zv_R} {a : zv_I} {nm nc nl : Nat} (RL : cr_R sh I J R a nm nc nl) (hst : ∀ r l, r < nm → l < nl → cr_st a r l) (m x : Int32) : zv_V E mX7_state (d + 3) 0 0 0 [.ref 40, .int m, .int x] [] sh I J R (cc_p (q_state a nm nl m x) sh I J R) := by
  have RL0 := RL
  obtain ⟨B, RT, RC, RLt, RM⟩ := RL
  have B0 := B
  obtain ⟨W, n5, b5, n6, b6, n7, b7, LF⟩ := B
  have LC : ∀ l, l < nl → I (300 + 3 * l) 2 = nI (rm_ci a l) ∧ rm_ci a l < nc := cr_lci B0 RLt
  have LW : ∀ l, l < nl → I (300 + 3 * l) 3 = nI (rm_wr a l) ∧ rm_wr a l < nm := cr_lwi B0 RLt
  refine zv_aload_n dX7_state_0 rfl rfl ?_
  refine zv_iload_n dX7_state_1 rfl rfl ?_
  refine cc_callV (As := [.int (m)]) (st := []) (c := 6) dX7_state_2 cvX7_75 (wW0_s40 W.1) rfl rfl rfl (by decide) (cc_c1 rfl cc_c0) (Nat.le_of_ble_eq_true rfl) (cC_isMember (d + 2) W.1 n5 (by omega) m) (fun v s1 I1 J1 R1 q => ?_)
  obtain ⟨rfl, rfl, rfl, rfl, rfl⟩ := q
  show zv_V _ _ _ _ _ 5 [.ref 40, .int (m), .int (x)] [.int (rm_b (rm_lt m nm))] _ _ _ _ _
  refine zv_ifB_eq (tgt := 16) dX7_state_5 (by decide) (fun h5 => ?_) (fun h5 => ?_)
  · refine zv_iconst (v := (-1 : Int32)) dX7_state_16 (by decide) ?_
    refine zv_iret dX7_state_17 rfl rfl ?_
    exact ⟨congrArg (fun z => some (Value.int z)) (by unfold q_state; rw [h5]; rfl), rfl, rfl, rfl, rfl⟩
  · obtain ⟨r, hr, rfl⟩ := rm_lt_t h5 (by omega)
    refine zv_aload_n dX7_state_8 rfl rfl ?_
    refine zv_iload_n dX7_state_9 rfl rfl ?_
    refine cc_callV (As := [.int (x)]) (st := []) (c := 6) dX7_state_10 cvX7_71 (wW0_s40 W.1) rfl rfl rfl (by decide) (cc_c1 rfl cc_c0) (Nat.le_of_ble_eq_true rfl) (cC_isLetter (d + 2) W.1 n7 (by omega) x) (fun v s1 I1 J1 R1 q => ?_)
    obtain ⟨rfl, rfl, rfl, rfl, rfl⟩ := q
    show zv_V _ _ _ _ _ 13 [.ref 40, .int (nI (r)), .int (x)] [.int (rm_b (rm_lt x nl))] _ _ _ _ _
    refine zv_ifB_ne (tgt := 18) dX7_state_13 (by decide) (fun h13 => ?_) (fun h13 => ?_)
    · obtain ⟨l, hl, rfl⟩ := rm_lt_t h13 (by omega)
      refine zv_aload_n dX7_state_18 rfl rfl ?_
      refine zv_iload_n dX7_state_19 rfl rfl ?_
      refine zv_aload_n dX7_state_20 rfl rfl ?_
      refine zv_getr 6 2 (u := 43) dX7_state_21 flX7_23 (wW0_s40 W.1) rfl (wW0_r2 W.1) ?_
      refine zv_iload_n dX7_state_24 rfl rfl ?_
      refine zv_aald (j := l) (o := some (300 + 3 * l)) dX7_state_25 (wW0_s43 W.1) (by decide) (by decide) (rfl) (show l < 200 from by omega) (by decide) ((W.2.2.2 l (by omega)).1) ?_
      show zv_V _ _ _ _ _ 26 [.ref 40, .int (nI (r)), .int (nI (l))] [.ref (300 + 3 * l), .int (nI (r)), .ref 40] _ _ _ _ _
      refine cc_callV (As := [.int (nI (r)), .ref (300 + 3 * l)]) (st := []) (c := 6) dX7_state_26 cvX7_144 (wW0_s40 W.1) rfl rfl rfl (by decide) (cc_c1 rfl (cc_c1 rfl cc_c0)) (Nat.le_of_ble_eq_true rfl) (cC_standing (d) RL0 (r := r) (l := l) (by omega) (by omega) (hst _ _ (by omega) (by omega))) (fun v s1 I1 J1 R1 q => ?_)
      obtain ⟨rfl, rfl, rfl, rfl, rfl⟩ := q
      show zv_V _ _ _ _ _ 29 [.ref 40, .int (nI (r)), .int (nI (l))] [.int ((a 20 (200 * r + l)))] _ _ _ _ _
      refine zv_iret dX7_state_29 rfl rfl ?_
      exact ⟨congrArg (fun z => some (Value.int z)) (by unfold q_state; rw [h5, h13, rm_nv_n (n := r) (by omega), rm_nv_n (n := l) (by omega)]; rfl), rfl, rfl, rfl, rfl⟩
    · refine zv_iconst (v := (-1 : Int32)) dX7_state_16 (by decide) ?_
      refine zv_iret dX7_state_17 rfl rfl ?_
      exact ⟨congrArg (fun z => some (Value.int z)) (by unfold q_state; rw [h5, h13]; rfl), rfl, rfl, rfl, rfl⟩
theorem cC_given (d : Nat) {E : zv_E} {sh : zv_S} {I : zv_I} {J : zv_J} {R : zv_R} {a : zv_I} {nm nc nl : Nat} (RL : cr_R sh I J R a nm nc nl) (x y z : Int32) : zv_V E mX7_given (d + 1) 0 0 0 [.ref 40, .int x, .int y, .int z] [] sh I J R (cc_p (q_given a nm nc x y z) sh I J R) := by
  obtain ⟨B, RT, RC, RLt, RM⟩ := RL
  have B0 := B
  obtain ⟨W, n5, b5, n6, b6, n7, b7, LF⟩ := B
  have LC : ∀ l, l < nl → I (300 + 3 * l) 2 = nI (rm_ci a l) ∧ rm_ci a l < nc := cr_lci B0 RLt
  have LW : ∀ l, l < nl → I (300 + 3 * l) 3 = nI (rm_wr a l) ∧ rm_wr a l < nm := cr_lwi B0 RLt
  refine zv_aload_n dX7_given_0 rfl rfl ?_
  refine zv_iload_n dX7_given_1 rfl rfl ?_
  refine cc_callV (As := [.int (x)]) (st := []) (c := 6) dX7_given_2 cvX7_75 (wW0_s40 W.1) rfl rfl rfl (by decide) (cc_c1 rfl cc_c0) (Nat.le_of_ble_eq_true rfl) (cC_isMember (d) W.1 n5 (by omega) x) (fun v s1 I1 J1 R1 q => ?_)
  obtain ⟨rfl, rfl, rfl, rfl, rfl⟩ := q
  show zv_V _ _ _ _ _ 5 [.ref 40, .int (x), .int (y), .int (z)] [.int (rm_b (rm_lt x nm))] _ _ _ _ _
  refine zv_ifB_eq (tgt := 24) dX7_given_5 (by decide) (fun h5 => ?_) (fun h5 => ?_)
  · refine zv_iconst (v := (-1 : Int32)) dX7_given_24 (by decide) ?_
    refine zv_iret dX7_given_25 rfl rfl ?_
    exact ⟨congrArg (fun z => some (Value.int z)) (by unfold q_given; rw [h5]; rfl), rfl, rfl, rfl, rfl⟩
  · obtain ⟨r, hr, rfl⟩ := rm_lt_t h5 (by omega)
    refine zv_aload_n dX7_given_8 rfl rfl ?_
    refine zv_iload_n dX7_given_9 rfl rfl ?_
    refine cc_callV (As := [.int (y)]) (st := []) (c := 6) dX7_given_10 cvX7_85 (wW0_s40 W.1) rfl rfl rfl (by decide) (cc_c1 rfl cc_c0) (Nat.le_of_ble_eq_true rfl) (cC_isCircle (d) W.1 n6 (by omega) y) (fun v s1 I1 J1 R1 q => ?_)
    obtain ⟨rfl, rfl, rfl, rfl, rfl⟩ := q
    show zv_V _ _ _ _ _ 13 [.ref 40, .int (nI (r)), .int (y), .int (z)] [.int (rm_b (rm_lt y nc))] _ _ _ _ _
    refine zv_ifB_eq (tgt := 24) dX7_given_13 (by decide) (fun h13 => ?_) (fun h13 => ?_)
    · refine zv_iconst (v := (-1 : Int32)) dX7_given_24 (by decide) ?_
      refine zv_iret dX7_given_25 rfl rfl ?_
      exact ⟨congrArg (fun z => some (Value.int z)) (by unfold q_given; rw [h5, h13]; rfl), rfl, rfl, rfl, rfl⟩
    · obtain ⟨c, hc, rfl⟩ := rm_lt_t h13 (by omega)
      refine zv_aload_n dX7_given_16 rfl rfl ?_
      refine zv_iload_n dX7_given_17 rfl rfl ?_
      refine cc_callV (As := [.int (z)]) (st := []) (c := 6) dX7_given_18 cvX7_75 (wW0_s40 W.1) rfl rfl rfl (by decide) (cc_c1 rfl cc_c0) (Nat.le_of_ble_eq_true rfl) (cC_isMember (d) W.1 n5 (by omega) z) (fun v s1 I1 J1 R1 q => ?_)
      obtain ⟨rfl, rfl, rfl, rfl, rfl⟩ := q
      show zv_V _ _ _ _ _ 21 [.ref 40, .int (nI (r)), .int (nI (c)), .int (z)] [.int (rm_b (rm_lt z nm))] _ _ _ _ _
      refine zv_ifB_ne (tgt := 26) dX7_given_21 (by decide) (fun h21 => ?_) (fun h21 => ?_)
      · obtain ⟨w, hw, rfl⟩ := rm_lt_t h21 (by omega)
        refine zv_aload_n dX7_given_26 rfl rfl ?_
        refine zv_getr 6 0 (u := 41) dX7_given_27 flX7_11 (wW0_s40 W.1) rfl (wW0_r0 W.1) ?_
        refine zv_iload_n dX7_given_30 rfl rfl ?_
        refine zv_aald (j := r) (o := some (100 + 20 * r)) dX7_given_31 (wW0_s41 W.1) (by decide) (by decide) (rfl) (show r < 8 from by omega) (by decide) ((W.2.1 r (by omega)).1) ?_
        show zv_V _ _ _ _ _ 32 [.ref 40, .int (nI (r)), .int (nI (c)), .int (nI (w))] [.ref (100 + 20 * r)] _ _ _ _ _
        refine zv_getr 3 0 (u := 101 + 20 * r) dX7_given_32 flX7_148 (wWM_s (W.2.1 r (by omega)).2) rfl (wWM_r0 (W.2.1 r (by omega)).2) ?_
        refine zv_iload_n dX7_given_35 rfl rfl ?_
        refine zv_aald (j := c) (o := some (102 + 20 * r + c)) dX7_given_36 (wWM_s0 (W.2.1 r (by omega)).2) (by decide) (by decide) (rfl) (show c < 6 from by omega) (by decide) ((wWM_g (W.2.1 r (by omega)).2 c (by omega)).1) ?_
        show zv_V _ _ _ _ _ 37 [.ref 40, .int (nI (r)), .int (nI (c)), .int (nI (w))] [.ref (102 + 20 * r + c)] _ _ _ _ _
        refine zv_iload_n dX7_given_37 rfl rfl ?_
        refine zv_iald (j := w) (x := (a 21 (48 * r + 8 * c + w))) dX7_given_38 ((wWM_g (W.2.1 r (by omega)).2 c (by omega)).2) (rfl) (show w < 8 from by omega) (by decide) (xM_g (RM r (by omega)) c w (by omega) (by omega)) ?_
        refine zv_iret dX7_given_39 rfl rfl ?_
        exact ⟨congrArg (fun z => some (Value.int z)) (by unfold q_given; rw [h5, h13, h21, rm_nv_n (n := r) (by omega), rm_nv_n (n := c) (by omega), rm_nv_n (n := w) (by omega)]; rfl), rfl, rfl, rfl, rfl⟩
      · refine zv_iconst (v := (-1 : Int32)) dX7_given_24 (by decide) ?_
        refine zv_iret dX7_given_25 rfl rfl ?_
        exact ⟨congrArg (fun z => some (Value.int z)) (by unfold q_given; rw [h5, h13, h21]; rfl), rfl, rfl, rfl, rfl⟩
theorem cC_read (d : Nat) {E : zv_E} {sh : zv_S} {I : zv_I} {J : zv_J} {R : zv_R} {a : zv_I} {nm nc nl : Nat} (RL : cr_R sh I J R a nm nc nl) (hrd : ∀ r, r < nm → a 25 r = nI (rm_nv (a 25 r)) ∧ rm_nv (a 25 r) ≤ 200) (x y : Int32) : zv_V E mX7_read (d + 1) 0 0 0 [.ref 40, .int x, .int y] [] sh I J R (cc_p (q_read a nm x y) sh I J R) := by
  obtain ⟨B, RT, RC, RLt, RM⟩ := RL
  have B0 := B
  obtain ⟨W, n5, b5, n6, b6, n7, b7, LF⟩ := B
  have LC : ∀ l, l < nl → I (300 + 3 * l) 2 = nI (rm_ci a l) ∧ rm_ci a l < nc := cr_lci B0 RLt
  have LW : ∀ l, l < nl → I (300 + 3 * l) 3 = nI (rm_wr a l) ∧ rm_wr a l < nm := cr_lwi B0 RLt
  refine zv_aload_n dX7_read_0 rfl rfl ?_
  refine zv_iload_n dX7_read_1 rfl rfl ?_
  refine cc_callV (As := [.int (x)]) (st := []) (c := 6) dX7_read_2 cvX7_75 (wW0_s40 W.1) rfl rfl rfl (by decide) (cc_c1 rfl cc_c0) (Nat.le_of_ble_eq_true rfl) (cC_isMember (d) W.1 n5 (by omega) x) (fun v s1 I1 J1 R1 q => ?_)
  obtain ⟨rfl, rfl, rfl, rfl, rfl⟩ := q
  show zv_V _ _ _ _ _ 5 [.ref 40, .int (x), .int (y)] [.int (rm_b (rm_lt x nm))] _ _ _ _ _
  refine zv_ifB_eq (tgt := 25) dX7_read_5 (by decide) (fun h5 => ?_) (fun h5 => ?_)
  · refine zv_iconst (v := (-1 : Int32)) dX7_read_25 (by decide) ?_
    refine zv_iret dX7_read_26 rfl rfl ?_
    exact ⟨congrArg (fun z => some (Value.int z)) (by unfold q_read; rw [h5]; rfl), rfl, rfl, rfl, rfl⟩
  · obtain ⟨r, hr, rfl⟩ := rm_lt_t h5 (by omega)
    refine zv_iload_n dX7_read_8 rfl rfl ?_
    refine zv_if_lt (tgt := 25) dX7_read_9 (by decide) (fun h9 => ?_) (fun h9 => ?_)
    · refine zv_iconst (v := (-1 : Int32)) dX7_read_25 (by decide) ?_
      refine zv_iret dX7_read_26 rfl rfl ?_
      exact ⟨congrArg (fun z => some (Value.int z)) (by unfold q_read; rw [h5, rm_nv_n (n := r) (by omega), cl_0 h9]; rfl), rfl, rfl, rfl, rfl⟩
    · refine zv_iload_n dX7_read_12 rfl rfl ?_
      refine zv_aload_n dX7_read_13 rfl rfl ?_
      refine zv_getr 6 0 (u := 41) dX7_read_14 flX7_11 (wW0_s40 W.1) rfl (wW0_r0 W.1) ?_
      refine zv_iload_n dX7_read_17 rfl rfl ?_
      refine zv_aald (j := r) (o := some (100 + 20 * r)) dX7_read_18 (wW0_s41 W.1) (by decide) (by decide) (rfl) (show r < 8 from by omega) (by decide) ((W.2.1 r (by omega)).1) ?_
      show zv_V _ _ _ _ _ 19 [.ref 40, .int (nI (r)), .int (y)] [.ref (100 + 20 * r), .int (y)] _ _ _ _ _
      refine zv_geti 3 8 (x := (a 25 r)) dX7_read_19 flX7_152 (wWM_s (W.2.1 r (by omega)).2) rfl (xM_n (RM r (by omega))) ?_
      refine zv_icmp_lt (tgt := 27) dX7_read_22 (by decide) (fun h22 => ?_) (fun h22 => ?_)
      · have hrr := (hrd r hr).2
        have h22b : rm_lt y (rm_nv (a 25 r)) = true := cl_2 (by omega) h9 (by rw [← (hrd r hr).1]; exact Int32.not_le.mpr h22)
        obtain ⟨i, hi, rfl⟩ := rm_lt_t h22b (by omega)
        refine zv_aload_n dX7_read_27 rfl rfl ?_
        refine zv_getr 6 0 (u := 41) dX7_read_28 flX7_11 (wW0_s40 W.1) rfl (wW0_r0 W.1) ?_
        refine zv_iload_n dX7_read_31 rfl rfl ?_
        refine zv_aald (j := r) (o := some (100 + 20 * r)) dX7_read_32 (wW0_s41 W.1) (by decide) (by decide) (rfl) (show r < 8 from by omega) (by decide) ((W.2.1 r (by omega)).1) ?_
        show zv_V _ _ _ _ _ 33 [.ref 40, .int (nI (r)), .int (nI (i))] [.ref (100 + 20 * r)] _ _ _ _ _
        refine zv_getr 3 4 (u := 111 + 20 * r) dX7_read_33 flX7_155 (wWM_s (W.2.1 r (by omega)).2) rfl (wWM_r4 (W.2.1 r (by omega)).2) ?_
        refine zv_iload_n dX7_read_36 rfl rfl ?_
        refine zv_iald (j := i) (x := (a 24 (200 * r + i))) dX7_read_37 (wWM_s4 (W.2.1 r (by omega)).2) (rfl) (show i < 200 from by omega) (by decide) (xM_r (RM r (by omega)) i (by omega)) ?_
        refine zv_iret dX7_read_38 rfl rfl ?_
        exact ⟨congrArg (fun z => some (Value.int z)) (by unfold q_read; rw [h5, rm_nv_n (n := r) (by omega), h22b, rm_nv_n (n := i) (by omega)]; rfl), rfl, rfl, rfl, rfl⟩
      · refine zv_iconst (v := (-1 : Int32)) dX7_read_25 (by decide) ?_
        refine zv_iret dX7_read_26 rfl rfl ?_
        exact ⟨congrArg (fun z => some (Value.int z)) (by unfold q_read; rw [h5, rm_nv_n (n := r) (by omega), cl_1 (by have := (hrd r hr).2; omega) (by rw [← (hrd r hr).1]; exact Int32.not_lt.mp h22)]; rfl), rfl, rfl, rfl, rfl⟩
theorem cr_bz {a : zv_I} {nl b r : Nat} (hib : ∀ x y, x < nl → x ≤ y → y < nl → a 26 (200 * x + y) = 0) (hb : b < nl) (h : (decide (r < b) && rm_ib a b r) = false) (hr : r < nl := by assumption) : a 26 (200 * b + r) = 0 := by
  by_cases e : r < b
  · rw [decide_eq_true e] at h
    exact Decidable.not_not.mp (of_decide_eq_false (h : rm_ib a b r = false))
  · exact hib b r hb (by omega) hr
theorem cC_behind (d : Nat) {E : zv_E} {sh : zv_S} {I : zv_I} {J : zv_J} {R : zv_R} {a : zv_I} {nm nc nl : Nat} (RL : cr_R sh I J R a nm nc nl) (hib : ∀ x y, x < nl → x ≤ y → y < nl → a 26 (200 * x + y) = 0) (x y : Int32) : zv_V E mX7_behind (d + 1) 0 0 0 [.ref 40, .int x, .int y] [] sh I J R (cc_p (q_behind a nl x y) sh I J R) := by
  obtain ⟨B, RT, RC, RLt, RM⟩ := RL
  have B0 := B
  obtain ⟨W, n5, b5, n6, b6, n7, b7, LF⟩ := B
  have LC : ∀ l, l < nl → I (300 + 3 * l) 2 = nI (rm_ci a l) ∧ rm_ci a l < nc := cr_lci B0 RLt
  have LW : ∀ l, l < nl → I (300 + 3 * l) 3 = nI (rm_wr a l) ∧ rm_wr a l < nm := cr_lwi B0 RLt
  refine zv_aload_n dX7_behind_0 rfl rfl ?_
  refine zv_iload_n dX7_behind_1 rfl rfl ?_
  refine cc_callV (As := [.int (x)]) (st := []) (c := 6) dX7_behind_2 cvX7_71 (wW0_s40 W.1) rfl rfl rfl (by decide) (cc_c1 rfl cc_c0) (Nat.le_of_ble_eq_true rfl) (cC_isLetter (d) W.1 n7 (by omega) x) (fun v s1 I1 J1 R1 q => ?_)
  obtain ⟨rfl, rfl, rfl, rfl, rfl⟩ := q
  show zv_V _ _ _ _ _ 5 [.ref 40, .int (x), .int (y)] [.int (rm_b (rm_lt x nl))] _ _ _ _ _
  refine zv_ifB_eq (tgt := 16) dX7_behind_5 (by decide) (fun h5 => ?_) (fun h5 => ?_)
  · refine zv_iconst (v := (-1 : Int32)) dX7_behind_16 (by decide) ?_
    refine zv_iret dX7_behind_17 rfl rfl ?_
    exact ⟨congrArg (fun z => some (Value.int z)) (by unfold q_behind; rw [h5]; rfl), rfl, rfl, rfl, rfl⟩
  · obtain ⟨r, hr, rfl⟩ := rm_lt_t h5 (by omega)
    refine zv_aload_n dX7_behind_8 rfl rfl ?_
    refine zv_iload_n dX7_behind_9 rfl rfl ?_
    refine cc_callV (As := [.int (y)]) (st := []) (c := 6) dX7_behind_10 cvX7_71 (wW0_s40 W.1) rfl rfl rfl (by decide) (cc_c1 rfl cc_c0) (Nat.le_of_ble_eq_true rfl) (cC_isLetter (d) W.1 n7 (by omega) y) (fun v s1 I1 J1 R1 q => ?_)
    obtain ⟨rfl, rfl, rfl, rfl, rfl⟩ := q
    show zv_V _ _ _ _ _ 13 [.ref 40, .int (nI (r)), .int (y)] [.int (rm_b (rm_lt y nl))] _ _ _ _ _
    refine zv_ifB_ne (tgt := 18) dX7_behind_13 (by decide) (fun h13 => ?_) (fun h13 => ?_)
    · obtain ⟨b, hb, rfl⟩ := rm_lt_t h13 (by omega)
      refine zv_aload_n dX7_behind_18 rfl rfl ?_
      refine zv_getr 6 2 (u := 43) dX7_behind_19 flX7_23 (wW0_s40 W.1) rfl (wW0_r2 W.1) ?_
      refine zv_iload_n dX7_behind_22 rfl rfl ?_
      refine zv_aald (j := b) (o := some (300 + 3 * b)) dX7_behind_23 (wW0_s43 W.1) (by decide) (by decide) (rfl) (show b < 200 from by omega) (by decide) ((W.2.2.2 b (by omega)).1) ?_
      show zv_V _ _ _ _ _ 24 [.ref 40, .int (nI (r)), .int (nI (b))] [.ref (300 + 3 * b)] _ _ _ _ _
      refine zv_getr 2 7 (u := 301 + 3 * b) dX7_behind_24 flX7_169 (wWL_s (W.2.2.2 b (by omega)).2) rfl (wWL_r7 (W.2.2.2 b (by omega)).2) ?_
      refine zv_iload_n dX7_behind_27 rfl rfl ?_
      refine cc_callV (As := [.int (nI (r))]) (st := []) (c := 4) dX7_behind_28 cvX7_173 (wWL_s7 (W.2.2.2 b (by omega)).2) rfl rfl rfl (by decide) (cc_c1 rfl cc_c0) (Nat.le_of_ble_eq_true rfl) (cC_has (d) (wWL_s7 (W.2.2.2 b (by omega)).2) (wWL_w (W.2.2.2 b (by omega)).2) (wWL_sw (W.2.2.2 b (by omega)).2) (n := r) (by omega)) (fun v s1 I1 J1 R1 q => ?_)
      obtain ⟨rfl, rfl, rfl, rfl, rfl⟩ := q
      rw [xL_bf (RLt b (by omega)) r (by omega)]
      show zv_V _ _ _ _ _ 31 [.ref 40, .int (nI (r)), .int (nI (b))] [.int (rm_b ((decide (r < b) && rm_ib a b r)))] _ _ _ _ _
      refine zv_ifB_eq (tgt := 38) dX7_behind_31 (by decide) (fun h31 => ?_) (fun h31 => ?_)
      · refine zv_iconst (v := nI (0)) dX7_behind_38 (by decide) ?_
        refine zv_iret dX7_behind_39 rfl rfl ?_
        exact ⟨congrArg (fun z => some (Value.int z)) (by unfold q_behind; rw [h5, h13, rm_nv_n (n := r) (by omega), rm_nv_n (n := b) (by omega), if_pos (show (true && true) = true from rfl), if_pos (cr_bz hib hb h31)]), rfl, rfl, rfl, rfl⟩
      · refine zv_iconst (v := nI (1)) dX7_behind_34 (by decide) ?_
        refine zv_goto (tgt := 39) dX7_behind_35 (by decide) ?_
        refine zv_iret dX7_behind_39 rfl rfl ?_
        exact ⟨congrArg (fun z => some (Value.int z)) (by unfold q_behind; rw [h5, h13, rm_nv_n (n := r) (by omega), rm_nv_n (n := b) (by omega), if_pos (show (true && true) = true from rfl), if_neg (of_decide_eq_true ((Bool.and_eq_true _ _).mp h31).2)]), rfl, rfl, rfl, rfl⟩
    · refine zv_iconst (v := (-1 : Int32)) dX7_behind_16 (by decide) ?_
      refine zv_iret dX7_behind_17 rfl rfl ?_
      exact ⟨congrArg (fun z => some (Value.int z)) (by unfold q_behind; rw [h5, h13]; rfl), rfl, rfl, rfl, rfl⟩
theorem cr_tr {I a : zv_I} {n : Nat} {i : Int32} (hn : n ≤ 60) (h : ∀ i, i < 60 → I 46 i = a 29 i) : (if rm_lt i n = true then I 46 (rm_nv i) else -1) = (if rm_lt i n = true then a 29 (rm_nv i) else -1) := by
  cases hx : rm_lt i n with
  | false => rfl
  | true =>
    obtain ⟨j, hj, rfl⟩ := rm_lt_t hx (by omega)
    rw [rm_nv_n (n := j) (by omega), if_pos rfl, if_pos rfl]
    exact h j (by omega)
theorem cC_trace (d : Nat) {E : zv_E} {sh : zv_S} {I : zv_I} {J : zv_J} {R : zv_R} {a : zv_I} {nm nc nl : Nat} (RL : cr_R sh I J R a nm nc nl) (hnt : a 3 26 = nI (rm_NT a) ∧ rm_NT a ≤ 60) (i : Int32) : zv_V E mX7_trace (d + 1) 0 0 0 [.ref 40, .int i] [] sh I J R (cc_p (q_trace a i) sh I J R) := by
  obtain ⟨B, RT, RC, RLt, RM⟩ := RL
  have B0 := B
  obtain ⟨W, n5, b5, n6, b6, n7, b7, LF⟩ := B
  have LC : ∀ l, l < nl → I (300 + 3 * l) 2 = nI (rm_ci a l) ∧ rm_ci a l < nc := cr_lci B0 RLt
  have LW : ∀ l, l < nl → I (300 + 3 * l) 3 = nI (rm_wr a l) ∧ rm_wr a l < nm := cr_lwi B0 RLt
  refine zv_aload_n dX7_trace_0 rfl rfl ?_
  refine zv_getr 6 4 (u := 45) dX7_trace_1 flX7_34 (wW0_s40 W.1) rfl (wW0_r4 W.1) ?_
  refine zv_iload_n dX7_trace_4 rfl rfl ?_
  refine cc_callV (As := [.int (i)]) (st := []) (c := 5) dX7_trace_5 cvX7_191 (wW0_s45 W.1) rfl rfl rfl (by decide) (cc_c1 rfl cc_c0) (Nat.le_of_ble_eq_true rfl) (cC_bodyAt d W.1 (n := rm_NT a) ((xT_nt RT).trans hnt.1) hnt.2 i) (fun v s1 I1 J1 R1 q => ?_)
  obtain ⟨rfl, rfl, rfl, rfl, rfl⟩ := q
  rw [show (if rm_lt i (rm_NT a) = true then I 46 (rm_nv i) else -1) = q_trace a i from cr_tr hnt.2 (xT_tr RT)]
  show zv_V _ _ _ _ _ 8 [.ref 40, .int (i)] [.int ((q_trace a i))] _ _ _ _ _
  refine zv_iret dX7_trace_8 rfl rfl ?_
  exact ⟨rfl, rfl, rfl, rfl, rfl⟩
theorem cC_count (d : Nat) {E : zv_E} {sh : zv_S} {I : zv_I} {J : zv_J} {R : zv_R} {a : zv_I} {nm nc nl : Nat} (RL : cr_R sh I J R a nm nc nl) (hN : a 3 0 = nI nm ∧ a 3 1 = nI nc ∧ a 3 4 = nI nl) (x : Int32) : zv_V E mX7_count (d + 1) 0 0 0 [.ref 40, .int x] [] sh I J R (cc_p (q_count a x) sh I J R) := by
  obtain ⟨B, RT, RC, RLt, RM⟩ := RL
  have B0 := B
  obtain ⟨W, n5, b5, n6, b6, n7, b7, LF⟩ := B
  have LC : ∀ l, l < nl → I (300 + 3 * l) 2 = nI (rm_ci a l) ∧ rm_ci a l < nc := cr_lci B0 RLt
  have LW : ∀ l, l < nl → I (300 + 3 * l) 3 = nI (rm_wr a l) ∧ rm_wr a l < nm := cr_lwi B0 RLt
  refine zv_iload_n dX7_count_0 rfl rfl ?_
  cases hsw : rm_lt x 4 with
  | false =>
    refine zv_tableOut (tgt := 55) dX7_count_1 (rm_lt_out hsw) (by decide) ?_
    refine zv_iconst (v := (-1 : Int32)) dX7_count_55 (by decide) ?_
    refine zv_iret dX7_count_56 rfl rfl ?_
    exact ⟨congrArg (fun z => some (Value.int z)) (by unfold q_count; rw [if_neg (fun q => by rw [q] at hsw; exact absurd hsw (by decide)), if_neg (fun q => by rw [q] at hsw; exact absurd hsw (by decide)), if_neg (fun q => by rw [q] at hsw; exact absurd hsw (by decide)), if_neg (fun q => by rw [q] at hsw; exact absurd hsw (by decide))]), rfl, rfl, rfl, rfl⟩
  | true =>
    obtain ⟨jsw, hjsw, rfl⟩ := rm_lt_t hsw (by decide)
    rcases (show jsw = 0 ∨ jsw = 1 ∨ jsw = 2 ∨ jsw = 3 by omega) with rfl | rfl | rfl | rfl
    · refine zv_tableIn (off := 31) (tgt := 32) dX7_count_1 (by decide) (by decide) (by decide) (by decide) ?_
      refine zv_aload_n dX7_count_32 rfl rfl ?_
      refine zv_geti 6 5 (x := nI (nm)) dX7_count_33 flX7_42 (wW0_s40 W.1) rfl (n5) ?_
      refine zv_iret dX7_count_36 rfl rfl ?_
      exact ⟨congrArg (fun z => some (Value.int z)) (by exact hN.1.symm), rfl, rfl, rfl, rfl⟩
    · refine zv_tableIn (off := 36) (tgt := 37) dX7_count_1 (by decide) (by decide) (by decide) (by decide) ?_
      refine zv_aload_n dX7_count_37 rfl rfl ?_
      refine zv_geti 6 6 (x := nI (nc)) dX7_count_38 flX7_58 (wW0_s40 W.1) rfl (n6) ?_
      refine zv_iret dX7_count_41 rfl rfl ?_
      exact ⟨congrArg (fun z => some (Value.int z)) (by exact hN.2.1.symm), rfl, rfl, rfl, rfl⟩
    · refine zv_tableIn (off := 41) (tgt := 42) dX7_count_1 (by decide) (by decide) (by decide) (by decide) ?_
      refine zv_aload_n dX7_count_42 rfl rfl ?_
      refine zv_geti 6 7 (x := nI (nl)) dX7_count_43 flX7_95 (wW0_s40 W.1) rfl (n7) ?_
      refine zv_iret dX7_count_46 rfl rfl ?_
      exact ⟨congrArg (fun z => some (Value.int z)) (by exact hN.2.2.symm), rfl, rfl, rfl, rfl⟩
    · refine zv_tableIn (off := 46) (tgt := 47) dX7_count_1 (by decide) (by decide) (by decide) (by decide) ?_
      refine zv_aload_n dX7_count_47 rfl rfl ?_
      refine zv_getr 6 4 (u := 45) dX7_count_48 flX7_34 (wW0_s40 W.1) rfl (wW0_r4 W.1) ?_
      refine cc_callV (As := []) (st := []) (c := 5) dX7_count_51 cvX7_98 (wW0_s45 W.1) rfl rfl rfl (by decide) cc_c0 (Nat.le_of_ble_eq_true rfl) (cC_begunCount (d) W.1 (x := a 3 26) (xT_nt RT)) (fun v s1 I1 J1 R1 q => ?_)
      obtain ⟨rfl, rfl, rfl, rfl, rfl⟩ := q
      show zv_V _ _ _ _ _ 54 [.ref 40, .int (nI (3))] [.int (a 3 26)] _ _ _ _ _
      refine zv_iret dX7_count_54 rfl rfl ?_
      exact ⟨congrArg (fun z => some (Value.int z)) (by rfl), rfl, rfl, rfl, rfl⟩
theorem cC_told (d : Nat) {E : zv_E} {sh : zv_S} {I : zv_I} {J : zv_J} {R : zv_R} {a : zv_I} {nm nc nl : Nat} (RL : cr_R sh I J R a nm nc nl) (x y : Int32) : zv_V E mX7_told (d + 1) 0 0 0 [.ref 40, .int x, .int y] [] sh I J R (cc_p (q_told a nc nl x y) sh I J R) := by
  obtain ⟨B, RT, RC, RLt, RM⟩ := RL
  have B0 := B
  obtain ⟨W, n5, b5, n6, b6, n7, b7, LF⟩ := B
  have LC : ∀ l, l < nl → I (300 + 3 * l) 2 = nI (rm_ci a l) ∧ rm_ci a l < nc := cr_lci B0 RLt
  have LW : ∀ l, l < nl → I (300 + 3 * l) 3 = nI (rm_wr a l) ∧ rm_wr a l < nm := cr_lwi B0 RLt
  refine zv_aload_n dX7_told_0 rfl rfl ?_
  refine zv_iload_n dX7_told_1 rfl rfl ?_
  refine cc_callV (As := [.int (x)]) (st := []) (c := 6) dX7_told_2 cvX7_71 (wW0_s40 W.1) rfl rfl rfl (by decide) (cc_c1 rfl cc_c0) (Nat.le_of_ble_eq_true rfl) (cC_isLetter (d) W.1 n7 (by omega) x) (fun v s1 I1 J1 R1 q => ?_)
  obtain ⟨rfl, rfl, rfl, rfl, rfl⟩ := q
  show zv_V _ _ _ _ _ 5 [.ref 40, .int (x), .int (y)] [.int (rm_b (rm_lt x nl))] _ _ _ _ _
  refine zv_ifB_ne (tgt := 10) dX7_told_5 (by decide) (fun h5 => ?_) (fun h5 => ?_)
  · obtain ⟨l, hl, rfl⟩ := rm_lt_t h5 (by omega)
    refine zv_aload_n dX7_told_10 rfl rfl ?_
    refine zv_getr 6 2 (u := 43) dX7_told_11 flX7_23 (wW0_s40 W.1) rfl (wW0_r2 W.1) ?_
    refine zv_iload_n dX7_told_14 rfl rfl ?_
    refine zv_aald (j := l) (o := some (300 + 3 * l)) dX7_told_15 (wW0_s43 W.1) (by decide) (by decide) (rfl) (show l < 200 from by omega) (by decide) ((W.2.2.2 l (by omega)).1) ?_
    show zv_V _ _ _ _ _ 16 [.ref 40, .int (nI (l)), .int (y)] [.ref (300 + 3 * l)] _ _ _ _ _
    refine zv_astore_n (lv' := [.ref 40, .int (nI (l)), .int (y), .ref (300 + 3 * l)]) dX7_told_16 rfl (by decide) rfl ?_
    refine zv_iload_n dX7_told_17 rfl rfl ?_
    cases hsw : rm_lt y 8 with
    | false =>
      refine zv_tableOut (tgt := 107) dX7_told_18 (rm_lt_out hsw) (by decide) ?_
      refine zv_iconst (v := (-1 : Int32)) dX7_told_107 (by decide) ?_
      refine zv_iret dX7_told_108 rfl rfl ?_
      exact ⟨congrArg (fun z => some (Value.int z)) (by unfold q_told; rw [h5, hsw]; rfl), rfl, rfl, rfl, rfl⟩
    | true =>
      obtain ⟨jsw, hjsw, rfl⟩ := rm_lt_t hsw (by decide)
      rcases (show jsw = 0 ∨ jsw = 1 ∨ jsw = 2 ∨ jsw = 3 ∨ jsw = 4 ∨ jsw = 5 ∨ jsw = 6 ∨ jsw = 7 by omega) with rfl | rfl | rfl | rfl | rfl | rfl | rfl | rfl
      · refine zv_tableIn (off := 46) (tgt := 64) dX7_told_18 (by decide) (by decide) (by decide) (by decide) ?_
        refine zv_aload_n dX7_told_64 rfl rfl ?_
        refine zv_geti 2 1 (x := (a 10 l)) dX7_told_65 flX7_102 (wWL_s (W.2.2.2 l (by omega)).2) rfl (xL_k (RLt l (by omega))) ?_
        refine zv_iret dX7_told_68 rfl rfl ?_
        exact ⟨congrArg (fun z => some (Value.int z)) (by unfold q_told; rw [h5, rm_nv_n (n := l) (by omega)]; rfl), rfl, rfl, rfl, rfl⟩
      · refine zv_tableIn (off := 51) (tgt := 69) dX7_told_18 (by decide) (by decide) (by decide) (by decide) ?_
        refine zv_aload_n dX7_told_69 rfl rfl ?_
        refine zv_geti 2 2 (x := nI (rm_ci a l)) dX7_told_70 flX7_105 (wWL_s (W.2.2.2 l (by omega)).2) rfl ((LC l (by omega)).1) ?_
        refine zv_iret dX7_told_73 rfl rfl ?_
        exact ⟨congrArg (fun z => some (Value.int z)) (by unfold q_told; rw [h5, rm_nv_n (n := l) (by omega)]; exact (LC l hl).1.symm.trans (xL_c (RLt l hl))), rfl, rfl, rfl, rfl⟩
      · refine zv_tableIn (off := 56) (tgt := 74) dX7_told_18 (by decide) (by decide) (by decide) (by decide) ?_
        refine zv_aload_n dX7_told_74 rfl rfl ?_
        refine zv_geti 2 3 (x := nI (rm_wr a l)) dX7_told_75 flX7_108 (wWL_s (W.2.2.2 l (by omega)).2) rfl ((LW l (by omega)).1) ?_
        refine zv_iret dX7_told_78 rfl rfl ?_
        exact ⟨congrArg (fun z => some (Value.int z)) (by unfold q_told; rw [h5, rm_nv_n (n := l) (by omega)]; exact (LW l hl).1.symm.trans (xL_w (RLt l hl))), rfl, rfl, rfl, rfl⟩
      · refine zv_tableIn (off := 61) (tgt := 79) dX7_told_18 (by decide) (by decide) (by decide) (by decide) ?_
        refine zv_aload_n dX7_told_79 rfl rfl ?_
        refine zv_geti 2 4 (x := (a 13 l)) dX7_told_80 flX7_111 (wWL_s (W.2.2.2 l (by omega)).2) rfl (xL_s (RLt l (by omega))) ?_
        refine zv_iret dX7_told_83 rfl rfl ?_
        exact ⟨congrArg (fun z => some (Value.int z)) (by unfold q_told; rw [h5, rm_nv_n (n := l) (by omega)]; rfl), rfl, rfl, rfl, rfl⟩
      · refine zv_tableIn (off := 66) (tgt := 84) dX7_told_18 (by decide) (by decide) (by decide) (by decide) ?_
        refine zv_aload_n dX7_told_84 rfl rfl ?_
        refine zv_geti 2 5 (x := (a 14 l)) dX7_told_85 flX7_114 (wWL_s (W.2.2.2 l (by omega)).2) rfl (xL_n (RLt l (by omega))) ?_
        refine zv_iret dX7_told_88 rfl rfl ?_
        exact ⟨congrArg (fun z => some (Value.int z)) (by unfold q_told; rw [h5, rm_nv_n (n := l) (by omega)]; rfl), rfl, rfl, rfl, rfl⟩
      · refine zv_tableIn (off := 71) (tgt := 89) dX7_told_18 (by decide) (by decide) (by decide) (by decide) ?_
        refine zv_aload_n dX7_told_89 rfl rfl ?_
        refine zv_geti 2 8 (x := (a 15 l)) dX7_told_90 flX7_117 (wWL_s (W.2.2.2 l (by omega)).2) rfl (xL_p (RLt l (by omega))) ?_
        refine zv_iret dX7_told_93 rfl rfl ?_
        exact ⟨congrArg (fun z => some (Value.int z)) (by unfold q_told; rw [h5, rm_nv_n (n := l) (by omega)]; rfl), rfl, rfl, rfl, rfl⟩
      · refine zv_tableIn (off := 76) (tgt := 94) dX7_told_18 (by decide) (by decide) (by decide) (by decide) ?_
        refine zv_aload_n dX7_told_94 rfl rfl ?_
        refine zv_getr 2 6 (u := 1000 + 8 * cc_ck R l) dX7_told_95 flX7_120 (wWL_s (W.2.2.2 l (by omega)).2) rfl ((LF l (by omega)).2.2.2.2.2.1) ?_
        refine zv_geti 1 1 (x := nI (rm_cof a nc l)) dX7_told_98 flX7_124 (wWK_s (LF l (by omega)).2.2.2.2.2.2) rfl (xL_ct (RLt l hl)) ?_
        refine zv_iret dX7_told_101 rfl rfl ?_
        exact ⟨congrArg (fun z => some (Value.int z)) (by unfold q_told; rw [h5, rm_nv_n (n := l) (by omega)]; rfl), rfl, rfl, rfl, rfl⟩
      · refine zv_tableIn (off := 84) (tgt := 102) dX7_told_18 (by decide) (by decide) (by decide) (by decide) ?_
        refine zv_aload_n dX7_told_102 rfl rfl ?_
        refine zv_geti 2 10 (x := (a 17 l)) dX7_told_103 flX7_129 (wWL_s (W.2.2.2 l (by omega)).2) rfl (xL_v (RLt l (by omega))) ?_
        refine zv_iret dX7_told_106 rfl rfl ?_
        exact ⟨congrArg (fun z => some (Value.int z)) (by unfold q_told; rw [h5, rm_nv_n (n := l) (by omega)]; rfl), rfl, rfl, rfl, rfl⟩
  · refine zv_iconst (v := (-1 : Int32)) dX7_told_8 (by decide) ?_
    refine zv_iret dX7_told_9 rfl rfl ?_
    exact ⟨congrArg (fun z => some (Value.int z)) (by unfold q_told; rw [h5]; rfl), rfl, rfl, rfl, rfl⟩
def cr_may (a : zv_I) (nl r : Nat) (x : Int32) : Bool := if rm_lt x nl = true then (decide (a 12 (rm_nv x) = nI r ∨ a 20 (200 * r + rm_nv x) = nI 3)) else decide (x = -1)
theorem cC_mayAnswer (d : Nat) {E : zv_E} {sh : zv_S} {I : zv_I} {J : zv_J} {R : zv_R} {a : zv_I} {nm nc nl : Nat} (RL : cr_R sh I J R a nm nc nl) {r : Nat} (hr : r < nm) (x : Int32) : zv_V E mX7_mayAnswer (d + 2) 0 0 0 [.ref 40, .int (nI r), .int x] [] sh I J R (cc_p (rm_b (cr_may a nl r x)) sh I J R) := by
  obtain ⟨B, RT, RC, RLt, RM⟩ := RL
  have B0 := B
  obtain ⟨W, n5, b5, n6, b6, n7, b7, LF⟩ := B
  have LC : ∀ l, l < nl → I (300 + 3 * l) 2 = nI (rm_ci a l) ∧ rm_ci a l < nc := cr_lci B0 RLt
  have LW : ∀ l, l < nl → I (300 + 3 * l) 3 = nI (rm_wr a l) ∧ rm_wr a l < nm := cr_lwi B0 RLt
  refine zv_aload_n dX7_mayAnswer_0 rfl rfl ?_
  refine zv_iload_n dX7_mayAnswer_1 rfl rfl ?_
  refine cc_callV (As := [.int (x)]) (st := []) (c := 6) dX7_mayAnswer_2 cvX7_71 (wW0_s40 W.1) rfl rfl rfl (by decide) (cc_c1 rfl cc_c0) (Nat.le_of_ble_eq_true rfl) (cC_isLetter (d + 1) W.1 n7 (by omega) x) (fun v s1 I1 J1 R1 q => ?_)
  obtain ⟨rfl, rfl, rfl, rfl, rfl⟩ := q
  show zv_V _ _ _ _ _ 5 [.ref 40, .int (nI (r)), .int (x)] [.int (rm_b (rm_lt x nl))] _ _ _ _ _
  refine zv_ifB_ne (tgt := 19) dX7_mayAnswer_5 (by decide) (fun h5 => ?_) (fun h5 => ?_)
  · obtain ⟨l, hl, rfl⟩ := rm_lt_t h5 (by omega)
    refine zv_aload_n dX7_mayAnswer_19 rfl rfl ?_
    refine zv_getr 6 2 (u := 43) dX7_mayAnswer_20 flX7_23 (wW0_s40 W.1) rfl (wW0_r2 W.1) ?_
    refine zv_iload_n dX7_mayAnswer_23 rfl rfl ?_
    refine zv_aald (j := l) (o := some (300 + 3 * l)) dX7_mayAnswer_24 (wW0_s43 W.1) (by decide) (by decide) (rfl) (show l < 200 from by omega) (by decide) ((W.2.2.2 l (by omega)).1) ?_
    show zv_V _ _ _ _ _ 25 [.ref 40, .int (nI (r)), .int (nI (l))] [.ref (300 + 3 * l)] _ _ _ _ _
    refine zv_geti 2 3 (x := nI (rm_wr a l)) dX7_mayAnswer_25 flX7_108 (wWL_s (W.2.2.2 l (by omega)).2) rfl ((LW l (by omega)).1) ?_
    refine zv_iload_n dX7_mayAnswer_28 rfl rfl ?_
    have f4 := (LW l hl).2
    refine zv_icN_eq (tgt := 45) dX7_mayAnswer_29 (by decide) (by omega) (by omega) (fun h29 => ?_) (fun h29 => ?_)
    · refine zv_iconst (v := nI (1)) dX7_mayAnswer_45 (by decide) ?_
      refine zv_goto (tgt := 50) dX7_mayAnswer_46 (by decide) ?_
      refine zv_iret dX7_mayAnswer_50 rfl rfl ?_
      exact ⟨congrArg (fun z => some (Value.int z)) (by unfold cr_may; rw [h5, rm_nv_n (n := l) (by omega), if_pos rfl, decide_eq_true (Or.inl (((xL_w (RLt l hl)).symm.trans (LW l hl).1).trans (congrArg nI h29)))]; rfl), rfl, rfl, rfl, rfl⟩
    · refine zv_aload_n dX7_mayAnswer_32 rfl rfl ?_
      refine zv_getr 6 2 (u := 43) dX7_mayAnswer_33 flX7_23 (wW0_s40 W.1) rfl (wW0_r2 W.1) ?_
      refine zv_iload_n dX7_mayAnswer_36 rfl rfl ?_
      refine zv_aald (j := l) (o := some (300 + 3 * l)) dX7_mayAnswer_37 (wW0_s43 W.1) (by decide) (by decide) (rfl) (show l < 200 from by omega) (by decide) ((W.2.2.2 l (by omega)).1) ?_
      show zv_V _ _ _ _ _ 38 [.ref 40, .int (nI (r)), .int (nI (l))] [.ref (300 + 3 * l)] _ _ _ _ _
      refine zv_iload_n dX7_mayAnswer_38 rfl rfl ?_
      refine cc_callV (As := [.int (nI (r))]) (st := []) (c := 2) dX7_mayAnswer_39 cvX7_256 (wWL_s (W.2.2.2 l (by omega)).2) rfl rfl rfl (by decide) (cc_c1 rfl cc_c0) (Nat.le_of_ble_eq_true rfl) (cC_isGivenBy (d) (m := r) ((W.2.2.2 l (by omega)).2)) (fun v s1 I1 J1 R1 q => ?_)
      obtain ⟨rfl, rfl, rfl, rfl, rfl⟩ := q
      rw [xL_gb (RLt l (by omega)) r (by omega)]
      show zv_V _ _ _ _ _ 42 [.ref 40, .int (nI (r)), .int (nI (l))] [.int (rm_b (decide (a 20 (200 * r + l) = nI 3)))] _ _ _ _ _
      refine zv_ifB_eq (tgt := 49) dX7_mayAnswer_42 (by decide) (fun h42 => ?_) (fun h42 => ?_)
      · refine zv_iconst (v := nI (0)) dX7_mayAnswer_49 (by decide) ?_
        refine zv_iret dX7_mayAnswer_50 rfl rfl ?_
        exact ⟨congrArg (fun z => some (Value.int z)) (by unfold cr_may; rw [h5, rm_nv_n (n := l) (by omega), if_pos rfl, decide_eq_false (fun q => q.elim (fun q => h29 ((nI_eq (by omega) (by omega)).mp (((xL_w (RLt l hl)).symm.trans (LW l hl).1).symm.trans q))) (of_decide_eq_false h42))]; rfl), rfl, rfl, rfl, rfl⟩
      · refine zv_iconst (v := nI (1)) dX7_mayAnswer_45 (by decide) ?_
        refine zv_goto (tgt := 50) dX7_mayAnswer_46 (by decide) ?_
        refine zv_iret dX7_mayAnswer_50 rfl rfl ?_
        exact ⟨congrArg (fun z => some (Value.int z)) (by unfold cr_may; rw [h5, rm_nv_n (n := l) (by omega), if_pos rfl, decide_eq_true (Or.inr (of_decide_eq_true h42))]; rfl), rfl, rfl, rfl, rfl⟩
  · refine zv_iload_n dX7_mayAnswer_8 rfl rfl ?_
    refine zv_iconst (v := (-1 : Int32)) dX7_mayAnswer_9 (by decide) ?_
    refine zv_icmp_ne (tgt := 17) dX7_mayAnswer_10 (by decide) (fun h10 => ?_) (fun h10 => ?_)
    · refine zv_iconst (v := nI (0)) dX7_mayAnswer_17 (by decide) ?_
      refine zv_iret dX7_mayAnswer_18 rfl rfl ?_
      exact ⟨congrArg (fun z => some (Value.int z)) (by unfold cr_may; rw [h5]; exact (congrArg rm_b (decide_eq_false h10)).symm), rfl, rfl, rfl, rfl⟩
    · refine zv_iconst (v := nI (1)) dX7_mayAnswer_13 (by decide) ?_
      refine zv_goto (tgt := 18) dX7_mayAnswer_14 (by decide) ?_
      refine zv_iret dX7_mayAnswer_18 rfl rfl ?_
      exact ⟨congrArg (fun z => some (Value.int z)) (by unfold cr_may; rw [h5]; exact (congrArg rm_b (decide_eq_true h10)).symm), rfl, rfl, rfl, rfl⟩
