def cc_ci (I : zv_I) (l : Nat) : Nat := rm_nv (I (300 + 3 * l) 2)
def cc_wi (I : zv_I) (l : Nat) : Nat := rm_nv (I (300 + 3 * l) 3)
def cc_ck (R : zv_R) (l : Nat) : Nat := ((R (300 + 3 * l) 6).getD 0 - 1000) / 8
def cc_B (sh : zv_S) (I : zv_I) (R : zv_R) (nm nc nl : Nat) : Prop := cc_W sh R nm nc nl ∧ I 40 5 = nI nm ∧ nm ≤ 8 ∧ I 40 6 = nI nc ∧ nc ≤ 6 ∧ I 40 7 = nI nl ∧ nl ≤ 200 ∧ ∀ l, l < nl → (I (300 + 3 * l) 0 = nI l ∧ I (300 + 3 * l) 2 = nI (cc_ci I l) ∧ cc_ci I l < nc ∧ I (300 + 3 * l) 3 = nI (cc_wi I l) ∧ cc_wi I l < nm ∧ R (300 + 3 * l) 6 = some (1000 + 8 * cc_ck R l) ∧ cc_WK sh R (cc_ck R l))
/-- a clock's count -/
def cc_cv (I : zv_I) (R : zv_R) (k e m : Nat) : Int32 := match R (1001 + 8 * k) e with
  | none => nI 0
  | some _ => I (1002 + 8 * k + e) m
def cc_need (I : zv_I) (R : zv_R) (l e m : Nat) : Int32 := if e = cc_ci I l ∧ m = cc_wi I l then I (300 + 3 * l) 4 - nI 1 else cc_cv I R (cc_ck R l) e m
def cc_rw (R : zv_R) (k e : Nat) : Option Nat := R (1001 + 8 * k) e
theorem cC_rowAt (d : Nat) {E : zv_E} {sh : zv_S} {I : zv_I} {J : zv_J} {R : zv_R} {k e : Nat} (w : cc_WK sh R k) (he : e < 6) : zv_V E mX1_rowAt d 0 0 0 [.ref (1000 + 8 * k), .int (nI e)] [] sh I J R (cc_r (cc_rw R k e) sh I J R) := by
  rcases wWK_g w e he with g1 | ⟨g1, g2⟩
  · refine zv_iload_n dX1_rowAt_0 rfl rfl ?_
    refine zv_if_lt (tgt := 22) dX1_rowAt_1 (by decide) (fun h1 => (absurd h1 (cl_nn (by omega)))) (fun h1 => ?_)
    refine zv_iload_n dX1_rowAt_4 rfl rfl ?_
    refine zv_aload_n dX1_rowAt_5 rfl rfl ?_
    refine zv_getr 1 0 (u := 1001 + 8 * k) dX1_rowAt_6 flX1_11 (wWK_s w) rfl (wWK_r0 w) ?_
    refine zv_alen dX1_rowAt_9 (wWK_s0 w) (by decide) ?_
    refine zv_icN_ge (tgt := 22) dX1_rowAt_10 (by decide) (by omega) (by omega) (fun h10 => (absurd h10 (by omega))) (fun h10 => ?_)
    refine zv_aload_n dX1_rowAt_13 rfl rfl ?_
    refine zv_getr 1 0 (u := 1001 + 8 * k) dX1_rowAt_14 flX1_11 (wWK_s w) rfl (wWK_r0 w) ?_
    refine zv_iload_n dX1_rowAt_17 rfl rfl ?_
    refine zv_aald (j := e) (o := none) dX1_rowAt_18 (wWK_s0 w) (by decide) (by decide) (rfl) (show e < 6 from by omega) (by decide) (g1) ?_
    show zv_V _ _ _ _ _ 19 [.ref (1000 + 8 * k), .int (nI (e))] [.null] _ _ _ _ _
    refine zv_goto (tgt := 23) dX1_rowAt_19 (by decide) ?_
    refine zv_aretN dX1_rowAt_23 rfl (Or.inr ⟨_, rfl⟩) ?_
    exact ⟨by unfold cc_rw; rw [g1]; rfl, rfl, rfl, rfl, rfl⟩
  · refine zv_iload_n dX1_rowAt_0 rfl rfl ?_
    refine zv_if_lt (tgt := 22) dX1_rowAt_1 (by decide) (fun h1 => (absurd h1 (cl_nn (by omega)))) (fun h1 => ?_)
    refine zv_iload_n dX1_rowAt_4 rfl rfl ?_
    refine zv_aload_n dX1_rowAt_5 rfl rfl ?_
    refine zv_getr 1 0 (u := 1001 + 8 * k) dX1_rowAt_6 flX1_11 (wWK_s w) rfl (wWK_r0 w) ?_
    refine zv_alen dX1_rowAt_9 (wWK_s0 w) (by decide) ?_
    refine zv_icN_ge (tgt := 22) dX1_rowAt_10 (by decide) (by omega) (by omega) (fun h10 => (absurd h10 (by omega))) (fun h10 => ?_)
    refine zv_aload_n dX1_rowAt_13 rfl rfl ?_
    refine zv_getr 1 0 (u := 1001 + 8 * k) dX1_rowAt_14 flX1_11 (wWK_s w) rfl (wWK_r0 w) ?_
    refine zv_iload_n dX1_rowAt_17 rfl rfl ?_
    refine zv_aald (j := e) (o := some (1002 + 8 * k + e)) dX1_rowAt_18 (wWK_s0 w) (by decide) (by decide) (rfl) (show e < 6 from by omega) (by decide) (g1) ?_
    show zv_V _ _ _ _ _ 19 [.ref (1000 + 8 * k), .int (nI (e))] [.ref (1002 + 8 * k + e)] _ _ _ _ _
    refine zv_goto (tgt := 23) dX1_rowAt_19 (by decide) ?_
    refine zv_aret dX1_rowAt_23 rfl (Or.inr ⟨_, rfl⟩) ?_
    exact ⟨by unfold cc_rw; rw [g1]; rfl, rfl, rfl, rfl, rfl⟩
theorem cC_needed (d : Nat) {E : zv_E} {sh : zv_S} {I : zv_I} {J : zv_J} {R : zv_R} {nm nc nl : Nat} (B : cc_B sh I R nm nc nl) {l e m : Nat} (hl : l < nl) (he : e < 6) (hm : m < 8) : zv_V E mX2_needed d 0 0 0 [.ref (300 + 3 * l), .int (nI e), .int (nI m)] [] sh I J R (cc_p (cc_need I R l e m) sh I J R) := by
  obtain ⟨W, n5, b5, n6, b6, n7, b7, LF⟩ := B
  have f2 := (LF l hl).2.2.1
  have f4 := (LF l hl).2.2.2.2.1
  refine zv_iload_n dX2_needed_0 rfl rfl ?_
  refine zv_aload_n dX2_needed_1 rfl rfl ?_
  refine zv_geti 2 2 (x := nI (cc_ci I l)) dX2_needed_2 flX2_31 (wWL_s (W.2.2.2 l (by omega)).2) rfl ((LF l (by omega)).2.1) ?_
  refine zv_icN_ne (tgt := 23) dX2_needed_5 (by decide) (by omega) (by omega) (fun h5 => ?_) (fun h5 => ?_)
  · have e0 : cc_need I R l e m = cc_cv I R (cc_ck R l) e m := if_neg (fun q => h5 q.1)
    rcases wWK_g (LF l hl).2.2.2.2.2.2 e he with g1 | ⟨g1, g2⟩
    · refine zv_iload_n dX2_needed_23 rfl rfl ?_
      refine zv_if_lt (tgt := 45) dX2_needed_24 (by decide) (fun h24 => (absurd h24 (cl_nn (by omega)))) (fun h24 => ?_)
      refine zv_iload_n dX2_needed_27 rfl rfl ?_
      refine zv_bipush (v := nI (6)) dX2_needed_28 (by decide) ?_
      refine zv_icN_ge (tgt := 45) dX2_needed_30 (by decide) (by omega) (by omega) (fun h30 => (absurd h30 (by omega))) (fun h30 => ?_)
      refine zv_aload_n dX2_needed_33 rfl rfl ?_
      refine zv_getr 2 6 (u := 1000 + 8 * cc_ck R l) dX2_needed_34 flX2_43 (wWL_s (W.2.2.2 l (by omega)).2) rfl ((LF l (by omega)).2.2.2.2.2.1) ?_
      refine zv_getr 1 0 (u := 1001 + 8 * cc_ck R l) dX2_needed_37 flX2_57 (wWK_s (LF l (by omega)).2.2.2.2.2.2) rfl (wWK_r0 (LF l (by omega)).2.2.2.2.2.2) ?_
      refine zv_iload_n dX2_needed_40 rfl rfl ?_
      refine zv_aald (j := e) (o := none) dX2_needed_41 (wWK_s0 (LF l (by omega)).2.2.2.2.2.2) (by decide) (by decide) (rfl) (show e < 6 from by omega) (by decide) (g1) ?_
      show zv_V _ _ _ _ _ 42 [.ref (300 + 3 * l), .int (nI (e)), .int (nI (m))] [.null] _ _ _ _ _
      refine zv_goto (tgt := 46) dX2_needed_42 (by decide) ?_
      refine zv_astore_nN (lv' := [.ref (300 + 3 * l), .int (nI (e)), .int (nI (m)), .null]) dX2_needed_46 rfl (by decide) rfl ?_
      refine zv_aload_nN dX2_needed_47 rfl rfl ?_
      refine zv_ifnullN (tgt := 61) dX2_needed_48 (by decide) ?_
      refine zv_iconst (v := nI (0)) dX2_needed_61 (by decide) ?_
      refine zv_goto (tgt := 68) dX2_needed_62 (by decide) ?_
      refine zv_iret dX2_needed_68 rfl rfl ?_
      exact ⟨by rw [e0]; unfold cc_cv; rw [g1], rfl, rfl, rfl, rfl⟩
    · refine zv_iload_n dX2_needed_23 rfl rfl ?_
      refine zv_if_lt (tgt := 45) dX2_needed_24 (by decide) (fun h24 => (absurd h24 (cl_nn (by omega)))) (fun h24 => ?_)
      refine zv_iload_n dX2_needed_27 rfl rfl ?_
      refine zv_bipush (v := nI (6)) dX2_needed_28 (by decide) ?_
      refine zv_icN_ge (tgt := 45) dX2_needed_30 (by decide) (by omega) (by omega) (fun h30 => (absurd h30 (by omega))) (fun h30 => ?_)
      refine zv_aload_n dX2_needed_33 rfl rfl ?_
      refine zv_getr 2 6 (u := 1000 + 8 * cc_ck R l) dX2_needed_34 flX2_43 (wWL_s (W.2.2.2 l (by omega)).2) rfl ((LF l (by omega)).2.2.2.2.2.1) ?_
      refine zv_getr 1 0 (u := 1001 + 8 * cc_ck R l) dX2_needed_37 flX2_57 (wWK_s (LF l (by omega)).2.2.2.2.2.2) rfl (wWK_r0 (LF l (by omega)).2.2.2.2.2.2) ?_
      refine zv_iload_n dX2_needed_40 rfl rfl ?_
      refine zv_aald (j := e) (o := some (1002 + 8 * cc_ck R l + e)) dX2_needed_41 (wWK_s0 (LF l (by omega)).2.2.2.2.2.2) (by decide) (by decide) (rfl) (show e < 6 from by omega) (by decide) (g1) ?_
      show zv_V _ _ _ _ _ 42 [.ref (300 + 3 * l), .int (nI (e)), .int (nI (m))] [.ref (1002 + 8 * cc_ck R l + e)] _ _ _ _ _
      refine zv_goto (tgt := 46) dX2_needed_42 (by decide) ?_
      refine zv_astore_n (lv' := [.ref (300 + 3 * l), .int (nI (e)), .int (nI (m)), .ref (1002 + 8 * cc_ck R l + e)]) dX2_needed_46 rfl (by decide) rfl ?_
      refine zv_aload_n dX2_needed_47 rfl rfl ?_
      refine zv_ifnull dX2_needed_48 ?_
      refine zv_iload_n dX2_needed_51 rfl rfl ?_
      refine zv_if_lt (tgt := 61) dX2_needed_52 (by decide) (fun h52 => (absurd h52 (cl_nn (by omega)))) (fun h52 => ?_)
      refine zv_iload_n dX2_needed_55 rfl rfl ?_
      refine zv_aload_n dX2_needed_56 rfl rfl ?_
      refine zv_alen dX2_needed_57 (g2) (by decide) ?_
      refine zv_icN_lt (tgt := 65) dX2_needed_58 (by decide) (by omega) (by omega) (fun h58 => ?_) (fun h58 => (absurd h58 (by omega)))
      refine zv_aload_n dX2_needed_65 rfl rfl ?_
      refine zv_iload_n dX2_needed_66 rfl rfl ?_
      refine zv_iald (j := m) (x := (I (1002 + 8 * cc_ck R l + e) (m))) dX2_needed_67 (g2) (rfl) (show m < 8 from by omega) (by decide) (rfl) ?_
      refine zv_iret dX2_needed_68 rfl rfl ?_
      exact ⟨by rw [e0]; unfold cc_cv; rw [g1], rfl, rfl, rfl, rfl⟩
  · refine zv_iload_n dX2_needed_8 rfl rfl ?_
    refine zv_aload_n dX2_needed_9 rfl rfl ?_
    refine zv_geti 2 3 (x := nI (cc_wi I l)) dX2_needed_10 flX2_34 (wWL_s (W.2.2.2 l (by omega)).2) rfl ((LF l (by omega)).2.2.2.1) ?_
    refine zv_icN_ne (tgt := 23) dX2_needed_13 (by decide) (by omega) (by omega) (fun h13 => ?_) (fun h13 => ?_)
    · have e0 : cc_need I R l e m = cc_cv I R (cc_ck R l) e m := if_neg (fun q => h13 q.2)
      rcases wWK_g (LF l hl).2.2.2.2.2.2 e he with g1 | ⟨g1, g2⟩
      · refine zv_iload_n dX2_needed_23 rfl rfl ?_
        refine zv_if_lt (tgt := 45) dX2_needed_24 (by decide) (fun h24 => (absurd h24 (cl_nn (by omega)))) (fun h24 => ?_)
        refine zv_iload_n dX2_needed_27 rfl rfl ?_
        refine zv_bipush (v := nI (6)) dX2_needed_28 (by decide) ?_
        refine zv_icN_ge (tgt := 45) dX2_needed_30 (by decide) (by omega) (by omega) (fun h30 => (absurd h30 (by omega))) (fun h30 => ?_)
        refine zv_aload_n dX2_needed_33 rfl rfl ?_
        refine zv_getr 2 6 (u := 1000 + 8 * cc_ck R l) dX2_needed_34 flX2_43 (wWL_s (W.2.2.2 l (by omega)).2) rfl ((LF l (by omega)).2.2.2.2.2.1) ?_
        refine zv_getr 1 0 (u := 1001 + 8 * cc_ck R l) dX2_needed_37 flX2_57 (wWK_s (LF l (by omega)).2.2.2.2.2.2) rfl (wWK_r0 (LF l (by omega)).2.2.2.2.2.2) ?_
        refine zv_iload_n dX2_needed_40 rfl rfl ?_
        refine zv_aald (j := e) (o := none) dX2_needed_41 (wWK_s0 (LF l (by omega)).2.2.2.2.2.2) (by decide) (by decide) (rfl) (show e < 6 from by omega) (by decide) (g1) ?_
        show zv_V _ _ _ _ _ 42 [.ref (300 + 3 * l), .int (nI (e)), .int (nI (m))] [.null] _ _ _ _ _
        refine zv_goto (tgt := 46) dX2_needed_42 (by decide) ?_
        refine zv_astore_nN (lv' := [.ref (300 + 3 * l), .int (nI (e)), .int (nI (m)), .null]) dX2_needed_46 rfl (by decide) rfl ?_
        refine zv_aload_nN dX2_needed_47 rfl rfl ?_
        refine zv_ifnullN (tgt := 61) dX2_needed_48 (by decide) ?_
        refine zv_iconst (v := nI (0)) dX2_needed_61 (by decide) ?_
        refine zv_goto (tgt := 68) dX2_needed_62 (by decide) ?_
        refine zv_iret dX2_needed_68 rfl rfl ?_
        exact ⟨by rw [e0]; unfold cc_cv; rw [g1], rfl, rfl, rfl, rfl⟩
      · refine zv_iload_n dX2_needed_23 rfl rfl ?_
        refine zv_if_lt (tgt := 45) dX2_needed_24 (by decide) (fun h24 => (absurd h24 (cl_nn (by omega)))) (fun h24 => ?_)
        refine zv_iload_n dX2_needed_27 rfl rfl ?_
        refine zv_bipush (v := nI (6)) dX2_needed_28 (by decide) ?_
        refine zv_icN_ge (tgt := 45) dX2_needed_30 (by decide) (by omega) (by omega) (fun h30 => (absurd h30 (by omega))) (fun h30 => ?_)
        refine zv_aload_n dX2_needed_33 rfl rfl ?_
        refine zv_getr 2 6 (u := 1000 + 8 * cc_ck R l) dX2_needed_34 flX2_43 (wWL_s (W.2.2.2 l (by omega)).2) rfl ((LF l (by omega)).2.2.2.2.2.1) ?_
        refine zv_getr 1 0 (u := 1001 + 8 * cc_ck R l) dX2_needed_37 flX2_57 (wWK_s (LF l (by omega)).2.2.2.2.2.2) rfl (wWK_r0 (LF l (by omega)).2.2.2.2.2.2) ?_
        refine zv_iload_n dX2_needed_40 rfl rfl ?_
        refine zv_aald (j := e) (o := some (1002 + 8 * cc_ck R l + e)) dX2_needed_41 (wWK_s0 (LF l (by omega)).2.2.2.2.2.2) (by decide) (by decide) (rfl) (show e < 6 from by omega) (by decide) (g1) ?_
        show zv_V _ _ _ _ _ 42 [.ref (300 + 3 * l), .int (nI (e)), .int (nI (m))] [.ref (1002 + 8 * cc_ck R l + e)] _ _ _ _ _
        refine zv_goto (tgt := 46) dX2_needed_42 (by decide) ?_
        refine zv_astore_n (lv' := [.ref (300 + 3 * l), .int (nI (e)), .int (nI (m)), .ref (1002 + 8 * cc_ck R l + e)]) dX2_needed_46 rfl (by decide) rfl ?_
        refine zv_aload_n dX2_needed_47 rfl rfl ?_
        refine zv_ifnull dX2_needed_48 ?_
        refine zv_iload_n dX2_needed_51 rfl rfl ?_
        refine zv_if_lt (tgt := 61) dX2_needed_52 (by decide) (fun h52 => (absurd h52 (cl_nn (by omega)))) (fun h52 => ?_)
        refine zv_iload_n dX2_needed_55 rfl rfl ?_
        refine zv_aload_n dX2_needed_56 rfl rfl ?_
        refine zv_alen dX2_needed_57 (g2) (by decide) ?_
        refine zv_icN_lt (tgt := 65) dX2_needed_58 (by decide) (by omega) (by omega) (fun h58 => ?_) (fun h58 => (absurd h58 (by omega)))
        refine zv_aload_n dX2_needed_65 rfl rfl ?_
        refine zv_iload_n dX2_needed_66 rfl rfl ?_
        refine zv_iald (j := m) (x := (I (1002 + 8 * cc_ck R l + e) (m))) dX2_needed_67 (g2) (rfl) (show m < 8 from by omega) (by decide) (rfl) ?_
        refine zv_iret dX2_needed_68 rfl rfl ?_
        exact ⟨by rw [e0]; unfold cc_cv; rw [g1], rfl, rfl, rfl, rfl⟩
    · refine zv_aload_n dX2_needed_16 rfl rfl ?_
      refine zv_geti 2 4 (x := (I (300 + 3 * l) 4)) dX2_needed_17 flX2_37 (wWL_s (W.2.2.2 l (by omega)).2) rfl (rfl) ?_
      refine zv_iconst (v := nI (1)) dX2_needed_20 (by decide) ?_
      refine zv_isub dX2_needed_21 ?_
      refine zv_iret dX2_needed_22 rfl rfl ?_
      exact ⟨by unfold cc_need; rw [if_pos ⟨h5, h13⟩], rfl, rfl, rfl, rfl⟩
def cc_lkp (I : zv_I) (R : zv_R) (r l e m : Nat) : Bool := cb (I (50 + e) 0) m && decide (I (102 + 20 * r + e) m < cc_need I R l e m)
theorem cC_firstLackIn_l (d : Nat) {E : zv_E} {sh : zv_S} {I : zv_I} {J : zv_J} {R : zv_R} {nm nc nl : Nat} (B : cc_B sh I R nm nc nl) {r l e : Nat} (hr : r < nm) (hl : l < nl) (he : e < nc) : ∀ n k, k + n = nm → zv_V E mX7_firstLackIn (d + 1) 0 0 16 [.ref 40, .int (nI r), .ref (300 + 3 * l), .int (nI e), .ref (102 + 20 * r + e), .int (nI k)] [] sh I J R (cc_p (rm_o (rm_fst (cc_lkp I R r l e) n k)) sh I J R) := by
  have B0 := B
  obtain ⟨W, n5, b5, n6, b6, n7, b7, LF⟩ := B
  have f2 := (LF l hl).2.2.1
  have f4 := (LF l hl).2.2.2.2.1
  intro n
  induction n with
  | zero =>
    intro k hk
    have hk2 : k = nm := by omega
    subst hk2
    refine zv_iload dX7_firstLackIn_16 rfl ?_
    refine zv_aload_n dX7_firstLackIn_18 rfl rfl ?_
    refine zv_geti 6 5 (x := nI (k)) dX7_firstLackIn_19 flX7_42 (wW0_s40 W.1) rfl (n5) ?_
    refine zv_icN_ge (tgt := 66) dX7_firstLackIn_22 (by decide) (by omega) (by omega) (fun h22 => ?_) (fun h22 => (absurd h22 (by omega)))
    refine zv_iconst (v := (-1 : Int32)) dX7_firstLackIn_66 (by decide) ?_
    refine zv_iret dX7_firstLackIn_67 rfl rfl ?_
    exact ⟨rfl, rfl, rfl, rfl, rfl⟩
  | succ n ih =>
    intro k hk
    refine zv_iload dX7_firstLackIn_16 rfl ?_
    refine zv_aload_n dX7_firstLackIn_18 rfl rfl ?_
    refine zv_geti 6 5 (x := nI (nm)) dX7_firstLackIn_19 flX7_42 (wW0_s40 W.1) rfl (n5) ?_
    refine zv_icN_ge (tgt := 66) dX7_firstLackIn_22 (by decide) (by omega) (by omega) (fun h22 => (absurd h22 (by omega))) (fun h22 => ?_)
    refine zv_aload_n dX7_firstLackIn_25 rfl rfl ?_
    refine zv_getr 6 1 (u := 42) dX7_firstLackIn_26 flX7_17 (wW0_s40 W.1) rfl (wW0_r1 W.1) ?_
    refine zv_iload_n dX7_firstLackIn_29 rfl rfl ?_
    refine zv_aald (j := e) (o := some (50 + e)) dX7_firstLackIn_30 (wW0_s42 W.1) (by decide) (by decide) (rfl) (show e < 6 from by omega) (by decide) ((W.2.2.1 e (by omega)).1) ?_
    show zv_V _ _ _ _ _ 31 [.ref 40, .int (nI (r)), .ref (300 + 3 * l), .int (nI (e)), .ref (102 + 20 * r + e), .int (nI (k))] [.ref (50 + e)] _ _ _ _ _
    refine zv_geti 0 0 (x := (I (50 + e) 0)) dX7_firstLackIn_31 flX7_132 ((W.2.2.1 e (by omega)).2) rfl (rfl) ?_
    refine zv_iload dX7_firstLackIn_34 rfl ?_
    refine cc_callS (As := [.int ((I (50 + e) 0)), .int (nI (k))]) (st := []) dX7_firstLackIn_36 csX7_218 rfl (by decide) (cc_c1 rfl (cc_c1 rfl cc_c0)) (Nat.le_of_ble_eq_true rfl) (cC_hasBit (d) ((I (50 + e) 0)) k) (fun v s1 I1 J1 R1 q => ?_)
    obtain ⟨rfl, rfl, rfl, rfl, rfl⟩ := q
    show zv_V _ _ _ _ _ 39 [.ref 40, .int (nI (r)), .ref (300 + 3 * l), .int (nI (e)), .ref (102 + 20 * r + e), .int (nI (k))] [.int (rm_b (cb ((I (50 + e) 0)) k))] _ _ _ _ _
    refine zv_ifB_eq (tgt := 60) dX7_firstLackIn_39 (by decide) (fun h39 => ?_) (fun h39 => ?_)
    · refine zv_iinc (v := nI (k + 1)) (lv' := [.ref 40, .int (nI (r)), .ref (300 + 3 * l), .int (nI (e)), .ref (102 + 20 * r + e), .int (nI (k + 1))]) dX7_firstLackIn_60 rfl (nI_add (k) 1) (by decide) rfl ?_
      refine zv_goto (tgt := 16) dX7_firstLackIn_63 (by decide) ?_
      rw [rm_fst_f (show cc_lkp I R r l e k = false from by unfold cc_lkp; rw [h39]; rfl)]
      exact ih (k + 1) (by omega)
    · refine zv_aload dX7_firstLackIn_42 rfl ?_
      refine zv_iload dX7_firstLackIn_44 rfl ?_
      refine zv_iald (j := k) (x := (I (102 + 20 * r + e) (k))) dX7_firstLackIn_46 ((wWM_g (W.2.1 r hr).2 e (by omega)).2) (rfl) (show k < 8 from by omega) (by decide) (rfl) ?_
      refine zv_aload_n dX7_firstLackIn_47 rfl rfl ?_
      refine zv_iload_n dX7_firstLackIn_48 rfl rfl ?_
      refine zv_iload dX7_firstLackIn_49 rfl ?_
      refine cc_callV (As := [.int (nI (e)), .int (nI (k))]) (st := [.int ((I (102 + 20 * r + e) (k)))]) (c := 2) dX7_firstLackIn_51 cvX7_165 (wWL_s (W.2.2.2 l (by omega)).2) rfl rfl rfl (by decide) (cc_c1 rfl (cc_c1 rfl cc_c0)) (Nat.le_of_ble_eq_true rfl) (cC_needed (d) B0 (l := l) (e := e) (m := k) hl (by omega) (by omega)) (fun v s1 I1 J1 R1 q => ?_)
      obtain ⟨rfl, rfl, rfl, rfl, rfl⟩ := q
      show zv_V _ _ _ _ _ 54 [.ref 40, .int (nI (r)), .ref (300 + 3 * l), .int (nI (e)), .ref (102 + 20 * r + e), .int (nI (k))] [.int ((cc_need I R l e k)), .int ((I (102 + 20 * r + e) (k)))] _ _ _ _ _
      refine zv_icmp_ge (tgt := 60) dX7_firstLackIn_54 (by decide) (fun h54 => ?_) (fun h54 => ?_)
      · refine zv_iinc (v := nI (k + 1)) (lv' := [.ref 40, .int (nI (r)), .ref (300 + 3 * l), .int (nI (e)), .ref (102 + 20 * r + e), .int (nI (k + 1))]) dX7_firstLackIn_60 rfl (nI_add (k) 1) (by decide) rfl ?_
        refine zv_goto (tgt := 16) dX7_firstLackIn_63 (by decide) ?_
        rw [rm_fst_f (show cc_lkp I R r l e k = false from by unfold cc_lkp; rw [decide_eq_false (Int32.not_lt.mpr h54)]; exact Bool.and_false _)]
        exact ih (k + 1) (by omega)
      · refine zv_iload dX7_firstLackIn_57 rfl ?_
        refine zv_iret dX7_firstLackIn_59 rfl rfl ?_
        exact ⟨by rw [rm_fst_t (show cc_lkp I R r l e k = true from by unfold cc_lkp; rw [h39, decide_eq_true (Int32.not_le.mp h54)]; rfl)]; rfl, rfl, rfl, rfl, rfl⟩
theorem cC_firstLackIn (d : Nat) {E : zv_E} {sh : zv_S} {I : zv_I} {J : zv_J} {R : zv_R} {nm nc nl : Nat} (B : cc_B sh I R nm nc nl) {r l e : Nat} (hr : r < nm) (hl : l < nl) (he : e < nc) : zv_V E mX7_firstLackIn (d + 1) 0 0 0 [.ref 40, .int (nI r), .ref (300 + 3 * l), .int (nI e)] [] sh I J R (cc_p (rm_o (rm_fst (cc_lkp I R r l e) nm 0)) sh I J R) := by
  have B0 := B
  obtain ⟨W, n5, b5, n6, b6, n7, b7, LF⟩ := B
  refine zv_aload_n dX7_firstLackIn_0 rfl rfl ?_
  refine zv_getr 6 0 (u := 41) dX7_firstLackIn_1 flX7_11 (wW0_s40 W.1) rfl (wW0_r0 W.1) ?_
  refine zv_iload_n dX7_firstLackIn_4 rfl rfl ?_
  refine zv_aald (j := r) (o := some (100 + 20 * r)) dX7_firstLackIn_5 (wW0_s41 W.1) (by decide) (by decide) (rfl) (show r < 8 from by omega) (by decide) ((W.2.1 r (by omega)).1) ?_
  show zv_V _ _ _ _ _ 6 [.ref 40, .int (nI (r)), .ref (300 + 3 * l), .int (nI (e))] [.ref (100 + 20 * r)] _ _ _ _ _
  refine zv_getr 3 0 (u := 101 + 20 * r) dX7_firstLackIn_6 flX7_148 (wWM_s (W.2.1 r (by omega)).2) rfl (wWM_r0 (W.2.1 r (by omega)).2) ?_
  refine zv_iload_n dX7_firstLackIn_9 rfl rfl ?_
  refine zv_aald (j := e) (o := some (102 + 20 * r + e)) dX7_firstLackIn_10 (wWM_s0 (W.2.1 r (by omega)).2) (by decide) (by decide) (rfl) (show e < 6 from by omega) (by decide) ((wWM_g (W.2.1 r (by omega)).2 e (by omega)).1) ?_
  show zv_V _ _ _ _ _ 11 [.ref 40, .int (nI (r)), .ref (300 + 3 * l), .int (nI (e))] [.ref (102 + 20 * r + e)] _ _ _ _ _
  refine zv_astore (lv' := [.ref 40, .int (nI (r)), .ref (300 + 3 * l), .int (nI (e)), .ref (102 + 20 * r + e)]) dX7_firstLackIn_11 (by decide) rfl ?_
  refine zv_iconst (v := nI (0)) dX7_firstLackIn_13 (by decide) ?_
  refine zv_istore (lv' := [.ref 40, .int (nI (r)), .ref (300 + 3 * l), .int (nI (e)), .ref (102 + 20 * r + e), .int (nI (0))]) dX7_firstLackIn_14 (by decide) rfl ?_
  exact cC_firstLackIn_l d B0 hr hl he nm 0 (by omega)
def cc_fls (p : Nat → Option Nat) : Nat → Nat → Option Nat
  | 0, _ => none
  | n + 1, e => match p e with
    | some m => some (e * 8 + m)
    | none => cc_fls p n (e + 1)
def cc_flp (I : zv_I) (R : zv_R) (nm r l e : Nat) : Option Nat := if ((cc_rw R (cc_ck R l) e).isSome && cb (I (50 + e) 0) r) = true then rm_fst (cc_lkp I R r l e) nm 0 else none
def cc_flk (I : zv_I) (R : zv_R) (nm nc r l : Nat) : Option Nat := cc_fls (cc_flp I R nm r l) nc 0
theorem cc_fls_s {p : Nat → Option Nat} {n e m : Nat} (h : p e = some m) : cc_fls p (n + 1) e = some (e * 8 + m) := by show (match p e with | some m => some (e * 8 + m) | none => cc_fls p n (e + 1)) = _; rw [h]
theorem cc_fls_n {p : Nat → Option Nat} {n e : Nat} (h : p e = none) : cc_fls p (n + 1) e = cc_fls p n (e + 1) := by show (match p e with | some m => some (e * 8 + m) | none => cc_fls p n (e + 1)) = _; rw [h]
theorem cC_firstLack_l (d : Nat) {E : zv_E} {sh : zv_S} {I : zv_I} {J : zv_J} {R : zv_R} {nm nc nl : Nat} (B : cc_B sh I R nm nc nl) {r l : Nat} (hr : r < nm) (hl : l < nl) : ∀ n k, k + n = nc → ∀ rest, zv_V E mX7_firstLack (d + 2) 0 0 2 ([.ref 40, .int (nI r), .ref (300 + 3 * l), .int (nI k)] ++ rest) [] sh I J R (cc_p (rm_o (cc_fls (cc_flp I R nm r l) n k)) sh I J R) := by
  have B0 := B
  obtain ⟨W, n5, b5, n6, b6, n7, b7, LF⟩ := B
  have f2 := (LF l hl).2.2.1
  have f4 := (LF l hl).2.2.2.2.1
  intro n
  induction n with
  | zero =>
    intro k hk rest
    refine zv_less ⟨rest, rfl⟩ ?_
    have hk2 : k = nc := by omega
    subst hk2
    refine zv_iload_n dX7_firstLack_2 rfl rfl ?_
    refine zv_aload_n dX7_firstLack_3 rfl rfl ?_
    refine zv_geti 6 6 (x := nI (k)) dX7_firstLack_4 flX7_58 (wW0_s40 W.1) rfl (n6) ?_
    refine zv_icN_ge (tgt := 66) dX7_firstLack_7 (by decide) (by omega) (by omega) (fun h7 => ?_) (fun h7 => (absurd h7 (by omega)))
    refine zv_iconst (v := (-1 : Int32)) dX7_firstLack_66 (by decide) ?_
    refine zv_iret dX7_firstLack_67 rfl rfl ?_
    exact ⟨rfl, rfl, rfl, rfl, rfl⟩
  | succ n ih =>
    intro k hk rest
    refine zv_less ⟨rest, rfl⟩ ?_
    rcases wWK_g (LF l hl).2.2.2.2.2.2 k (by omega) with g1 | ⟨g1, g2⟩
    · refine zv_iload_n dX7_firstLack_2 rfl rfl ?_
      refine zv_aload_n dX7_firstLack_3 rfl rfl ?_
      refine zv_geti 6 6 (x := nI (nc)) dX7_firstLack_4 flX7_58 (wW0_s40 W.1) rfl (n6) ?_
      refine zv_icN_ge (tgt := 66) dX7_firstLack_7 (by decide) (by omega) (by omega) (fun h7 => (absurd h7 (by omega))) (fun h7 => ?_)
      refine zv_aload_n dX7_firstLack_10 rfl rfl ?_
      refine zv_getr 2 6 (u := 1000 + 8 * cc_ck R l) dX7_firstLack_11 flX7_120 (wWL_s (W.2.2.2 l (by omega)).2) rfl ((LF l (by omega)).2.2.2.2.2.1) ?_
      refine zv_iload_n dX7_firstLack_14 rfl rfl ?_
      refine cc_callV (As := [.int (nI (k))]) (st := []) (c := 1) dX7_firstLack_15 cvX7_304 (wWK_s (LF l (by omega)).2.2.2.2.2.2) rfl rfl rfl (by decide) (cc_c1 rfl cc_c0) (Nat.le_of_ble_eq_true rfl) (cC_rowAt (d + 1) (k := cc_ck R l) (e := k) (LF l hl).2.2.2.2.2.2 (by omega)) (fun v s1 I1 J1 R1 q => ?_)
      obtain ⟨rfl, rfl, rfl, rfl, rfl⟩ := q
      unfold cc_rw
      rw [g1]
      show zv_V _ _ _ _ _ 18 [.ref 40, .int (nI (r)), .ref (300 + 3 * l), .int (nI (k))] [.null] _ _ _ _ _
      refine zv_ifnullN (tgt := 60) dX7_firstLack_18 (by decide) ?_
      refine zv_iinc (v := nI (k + 1)) (lv' := [.ref 40, .int (nI (r)), .ref (300 + 3 * l), .int (nI (k + 1))]) dX7_firstLack_60 rfl (nI_add (k) 1) (by decide) rfl ?_
      refine zv_goto (tgt := 2) dX7_firstLack_63 (by decide) ?_
      rw [cc_fls_n (show cc_flp I R nm r l k = none from by unfold cc_flp cc_rw; rw [g1]; rfl)]
      exact ih (k + 1) (by omega) []
    · refine zv_iload_n dX7_firstLack_2 rfl rfl ?_
      refine zv_aload_n dX7_firstLack_3 rfl rfl ?_
      refine zv_geti 6 6 (x := nI (nc)) dX7_firstLack_4 flX7_58 (wW0_s40 W.1) rfl (n6) ?_
      refine zv_icN_ge (tgt := 66) dX7_firstLack_7 (by decide) (by omega) (by omega) (fun h7 => (absurd h7 (by omega))) (fun h7 => ?_)
      refine zv_aload_n dX7_firstLack_10 rfl rfl ?_
      refine zv_getr 2 6 (u := 1000 + 8 * cc_ck R l) dX7_firstLack_11 flX7_120 (wWL_s (W.2.2.2 l (by omega)).2) rfl ((LF l (by omega)).2.2.2.2.2.1) ?_
      refine zv_iload_n dX7_firstLack_14 rfl rfl ?_
      refine cc_callV (As := [.int (nI (k))]) (st := []) (c := 1) dX7_firstLack_15 cvX7_304 (wWK_s (LF l (by omega)).2.2.2.2.2.2) rfl rfl rfl (by decide) (cc_c1 rfl cc_c0) (Nat.le_of_ble_eq_true rfl) (cC_rowAt (d + 1) (k := cc_ck R l) (e := k) (LF l hl).2.2.2.2.2.2 (by omega)) (fun v s1 I1 J1 R1 q => ?_)
      obtain ⟨rfl, rfl, rfl, rfl, rfl⟩ := q
      unfold cc_rw
      rw [g1]
      show zv_V _ _ _ _ _ 18 [.ref 40, .int (nI (r)), .ref (300 + 3 * l), .int (nI (k))] [.ref (1002 + 8 * cc_ck R l + k)] _ _ _ _ _
      refine zv_ifnull dX7_firstLack_18 ?_
      refine zv_aload_n dX7_firstLack_21 rfl rfl ?_
      refine zv_getr 6 1 (u := 42) dX7_firstLack_22 flX7_17 (wW0_s40 W.1) rfl (wW0_r1 W.1) ?_
      refine zv_iload_n dX7_firstLack_25 rfl rfl ?_
      refine zv_aald (j := k) (o := some (50 + k)) dX7_firstLack_26 (wW0_s42 W.1) (by decide) (by decide) (rfl) (show k < 6 from by omega) (by decide) ((W.2.2.1 k (by omega)).1) ?_
      show zv_V _ _ _ _ _ 27 [.ref 40, .int (nI (r)), .ref (300 + 3 * l), .int (nI (k))] [.ref (50 + k)] _ _ _ _ _
      refine zv_geti 0 0 (x := (I (50 + k) 0)) dX7_firstLack_27 flX7_132 ((W.2.2.1 k (by omega)).2) rfl (rfl) ?_
      refine zv_iload_n dX7_firstLack_30 rfl rfl ?_
      refine cc_callS (As := [.int ((I (50 + k) 0)), .int (nI (r))]) (st := []) dX7_firstLack_31 csX7_218 rfl (by decide) (cc_c1 rfl (cc_c1 rfl cc_c0)) (Nat.le_of_ble_eq_true rfl) (cC_hasBit (d + 1) ((I (50 + k) 0)) r) (fun v s1 I1 J1 R1 q => ?_)
      obtain ⟨rfl, rfl, rfl, rfl, rfl⟩ := q
      show zv_V _ _ _ _ _ 34 [.ref 40, .int (nI (r)), .ref (300 + 3 * l), .int (nI (k))] [.int (rm_b (cb ((I (50 + k) 0)) r))] _ _ _ _ _
      refine zv_ifB_eq (tgt := 60) dX7_firstLack_34 (by decide) (fun h34 => ?_) (fun h34 => ?_)
      · refine zv_iinc (v := nI (k + 1)) (lv' := [.ref 40, .int (nI (r)), .ref (300 + 3 * l), .int (nI (k + 1))]) dX7_firstLack_60 rfl (nI_add (k) 1) (by decide) rfl ?_
        refine zv_goto (tgt := 2) dX7_firstLack_63 (by decide) ?_
        rw [cc_fls_n (show cc_flp I R nm r l k = none from by unfold cc_flp cc_rw; rw [g1, h34]; rfl)]
        exact ih (k + 1) (by omega) []
      · refine zv_aload_n dX7_firstLack_37 rfl rfl ?_
        refine zv_iload_n dX7_firstLack_38 rfl rfl ?_
        refine zv_aload_n dX7_firstLack_39 rfl rfl ?_
        refine zv_iload_n dX7_firstLack_40 rfl rfl ?_
        refine cc_callV (As := [.int (nI (r)), .ref (300 + 3 * l), .int (nI (k))]) (st := []) (c := 6) dX7_firstLack_41 cvX7_308 (wW0_s40 W.1) rfl rfl rfl (by decide) (cc_c1 rfl (cc_c1 rfl (cc_c1 rfl cc_c0))) (Nat.le_of_ble_eq_true rfl) (cC_firstLackIn d B0 hr hl (e := k) (by omega)) (fun v s1 I1 J1 R1 q => ?_)
        obtain ⟨rfl, rfl, rfl, rfl, rfl⟩ := q
        show zv_V _ _ _ _ _ 44 [.ref 40, .int (nI (r)), .ref (300 + 3 * l), .int (nI (k))] [.int ((rm_o (rm_fst (cc_lkp I R r l k) nm 0)))] _ _ _ _ _
        have e0 : cc_flp I R nm r l k = rm_fst (cc_lkp I R r l k) nm 0 := by unfold cc_flp cc_rw; rw [g1, h34]; rfl
        cases hx : rm_fst (cc_lkp I R r l k) nm 0 with
        | none =>
          rw [cc_fls_n (e0.trans hx)]
          refine zv_istore (lv' := [.ref 40, .int (nI (r)), .ref (300 + 3 * l), .int (nI (k)), .int ((-1 : Int32))]) dX7_firstLack_44 (by decide) rfl ?_
          refine zv_iload dX7_firstLack_46 rfl ?_
          refine zv_iconst (v := (-1 : Int32)) dX7_firstLack_48 (by decide) ?_
          refine zv_icmp_eq (tgt := 60) dX7_firstLack_49 (by decide) (fun h49 => ?_) (fun h49 => (absurd rfl h49))
          refine zv_iinc (v := nI (k + 1)) (lv' := [.ref 40, .int (nI (r)), .ref (300 + 3 * l), .int (nI (k + 1)), .int ((-1 : Int32))]) dX7_firstLack_60 rfl (nI_add (k) 1) (by decide) rfl ?_
          refine zv_goto (tgt := 2) dX7_firstLack_63 (by decide) ?_
          exact ih (k + 1) (by omega) [.int (-1 : Int32)]
        | some m =>
          have hm9 := (rm_fst_some hx).2.1
          rw [cc_fls_s (e0.trans hx)]
          refine zv_istore (lv' := [.ref 40, .int (nI (r)), .ref (300 + 3 * l), .int (nI (k)), .int (nI (m))]) dX7_firstLack_44 (by decide) rfl ?_
          refine zv_iload dX7_firstLack_46 rfl ?_
          refine zv_iconst (v := (-1 : Int32)) dX7_firstLack_48 (by decide) ?_
          refine zv_icmp_eq (tgt := 60) dX7_firstLack_49 (by decide) (fun h49 => (absurd h49 (rm_ni1 (by omega)))) (fun h49 => ?_)
          refine zv_iload_n dX7_firstLack_52 rfl rfl ?_
          refine zv_bipush (v := nI (8)) dX7_firstLack_53 (by decide) ?_
          refine zv_imul dX7_firstLack_55 ?_
          refine cc_top (pk_mul (k) (8)) ?_
          refine zv_iload dX7_firstLack_56 rfl ?_
          refine zv_iadd dX7_firstLack_58 ?_
          refine cc_top (nI_add (k * 8) (m)) ?_
          refine zv_iret dX7_firstLack_59 rfl rfl ?_
          exact ⟨rfl, rfl, rfl, rfl, rfl⟩
theorem cC_firstLack (d : Nat) {E : zv_E} {sh : zv_S} {I : zv_I} {J : zv_J} {R : zv_R} {nm nc nl : Nat} (B : cc_B sh I R nm nc nl) {r l : Nat} (hr : r < nm) (hl : l < nl) : zv_V E mX7_firstLack (d + 2) 0 0 0 [.ref 40, .int (nI r), .ref (300 + 3 * l)] [] sh I J R (cc_p (rm_o (cc_flk I R nm nc r l)) sh I J R) := by
  refine zv_iconst (v := nI (0)) dX7_firstLack_0 (by decide) ?_
  refine zv_istore_n (lv' := [.ref 40, .int (nI (r)), .ref (300 + 3 * l), .int (nI (0))]) dX7_firstLack_1 rfl (by decide) rfl ?_
  exact cC_firstLack_l d B hr hl nc 0 (by omega) []
def cc_lor (I : zv_I) (nl r l : Nat) : Bool := if I (300 + 3 * l) 1 = nI 2 ∧ ¬ nI r = I (50 + cc_ci I l) 1 ∧ ¬ I (300 + 3 * l) 3 = I (50 + cc_ci I l) 1 then !(rm_lt (I (300 + 3 * l) 9) nl && cb (I (300 + 3 * rm_nv (I (300 + 3 * l) 9)) 12) r) else false
theorem cC_lacksOrder (d : Nat) {E : zv_E} {sh : zv_S} {I : zv_I} {J : zv_J} {R : zv_R} {nm nc nl : Nat} (B : cc_B sh I R nm nc nl) {r l : Nat} (hr : r < nm) (hl : l < nl) : zv_V E mX7_lacksOrder (d + 2) 0 0 0 [.ref 40, .int (nI r), .ref (300 + 3 * l)] [] sh I J R (cc_p (rm_b (cc_lor I nl r l)) sh I J R) := by
  obtain ⟨W, n5, b5, n6, b6, n7, b7, LF⟩ := B
  have f2 := (LF l hl).2.2.1
  have f4 := (LF l hl).2.2.2.2.1
  refine zv_aload_n dX7_lacksOrder_0 rfl rfl ?_
  refine zv_getr 6 1 (u := 42) dX7_lacksOrder_1 flX7_17 (wW0_s40 W.1) rfl (wW0_r1 W.1) ?_
  refine zv_aload_n dX7_lacksOrder_4 rfl rfl ?_
  refine zv_geti 2 2 (x := nI (cc_ci I l)) dX7_lacksOrder_5 flX7_105 (wWL_s (W.2.2.2 l (by omega)).2) rfl ((LF l (by omega)).2.1) ?_
  refine zv_aald (j := cc_ci I l) (o := some (50 + (cc_ci I l))) dX7_lacksOrder_8 (wW0_s42 W.1) (by decide) (by decide) (rfl) (show cc_ci I l < 6 from by omega) (by decide) ((W.2.2.1 (cc_ci I l) (by omega)).1) ?_
  show zv_V _ _ _ _ _ 9 [.ref 40, .int (nI (r)), .ref (300 + 3 * l)] [.ref (50 + (cc_ci I l))] _ _ _ _ _
  refine zv_geti 0 1 (x := (I (50 + (cc_ci I l)) 1)) dX7_lacksOrder_9 flX7_135 ((W.2.2.1 (cc_ci I l) (by omega)).2) rfl (rfl) ?_
  refine zv_istore_n (lv' := [.ref 40, .int (nI (r)), .ref (300 + 3 * l), .int ((I (50 + (cc_ci I l)) 1))]) dX7_lacksOrder_12 rfl (by decide) rfl ?_
  refine zv_aload_n dX7_lacksOrder_13 rfl rfl ?_
  refine zv_geti 2 1 (x := (I (300 + 3 * l) 1)) dX7_lacksOrder_14 flX7_102 (wWL_s (W.2.2.2 l (by omega)).2) rfl (rfl) ?_
  refine zv_iconst (v := nI (2)) dX7_lacksOrder_17 (by decide) ?_
  refine zv_icmp_ne (tgt := 34) dX7_lacksOrder_18 (by decide) (fun h18 => ?_) (fun h18 => ?_)
  · refine zv_iconst (v := nI (0)) dX7_lacksOrder_34 (by decide) ?_
    refine zv_iret dX7_lacksOrder_35 rfl rfl ?_
    exact ⟨by unfold cc_lor; rw [if_neg (fun q => h18 q.1)]; rfl, rfl, rfl, rfl, rfl⟩
  · refine zv_iload_n dX7_lacksOrder_21 rfl rfl ?_
    refine zv_iload_n dX7_lacksOrder_22 rfl rfl ?_
    refine zv_icmp_eq (tgt := 34) dX7_lacksOrder_23 (by decide) (fun h23 => ?_) (fun h23 => ?_)
    · refine zv_iconst (v := nI (0)) dX7_lacksOrder_34 (by decide) ?_
      refine zv_iret dX7_lacksOrder_35 rfl rfl ?_
      exact ⟨by unfold cc_lor; rw [if_neg (fun q => q.2.1 h23)]; rfl, rfl, rfl, rfl, rfl⟩
    · refine zv_aload_n dX7_lacksOrder_26 rfl rfl ?_
      refine zv_geti 2 3 (x := nI (cc_wi I l)) dX7_lacksOrder_27 flX7_108 (wWL_s (W.2.2.2 l (by omega)).2) rfl ((LF l (by omega)).2.2.2.1) ?_
      refine zv_iload_n dX7_lacksOrder_30 rfl rfl ?_
      refine zv_icmp_ne (tgt := 36) dX7_lacksOrder_31 (by decide) (fun h31 => ?_) (fun h31 => ?_)
      · refine zv_aload_n dX7_lacksOrder_36 rfl rfl ?_
        refine zv_aload_n dX7_lacksOrder_37 rfl rfl ?_
        refine zv_geti 2 9 (x := (I (300 + 3 * l) 9)) dX7_lacksOrder_38 flX7_311 (wWL_s (W.2.2.2 l (by omega)).2) rfl (rfl) ?_
        refine cc_callV (As := [.int ((I (300 + 3 * l) 9))]) (st := []) (c := 6) dX7_lacksOrder_41 cvX7_71 (wW0_s40 W.1) rfl rfl rfl (by decide) (cc_c1 rfl cc_c0) (Nat.le_of_ble_eq_true rfl) (cC_isLetter (d + 1) W.1 n7 (by omega) ((I (300 + 3 * l) 9))) (fun v s1 I1 J1 R1 q => ?_)
        obtain ⟨rfl, rfl, rfl, rfl, rfl⟩ := q
        show zv_V _ _ _ _ _ 44 [.ref 40, .int (nI (r)), .ref (300 + 3 * l), .int ((I (50 + (cc_ci I l)) 1))] [.int (rm_b (rm_lt ((I (300 + 3 * l) 9)) nl))] _ _ _ _ _
        refine zv_ifB_eq (tgt := 63) dX7_lacksOrder_44 (by decide) (fun h44 => ?_) (fun h44 => ?_)
        · refine zv_iconst (v := nI (1)) dX7_lacksOrder_63 (by decide) ?_
          refine zv_goto (tgt := 68) dX7_lacksOrder_64 (by decide) ?_
          refine zv_iret dX7_lacksOrder_68 rfl rfl ?_
          exact ⟨by unfold cc_lor; rw [if_pos ⟨h18, h23, fun q => h31 ((LF l hl).2.2.2.1.symm.trans q)⟩, h44]; rfl, rfl, rfl, rfl, rfl⟩
        · obtain ⟨o, ho, hor⟩ := rm_lt_t h44 (by omega)
          rw [hor] at h44
          refine zv_aload_n dX7_lacksOrder_47 rfl rfl ?_
          refine zv_getr 6 2 (u := 43) dX7_lacksOrder_48 flX7_23 (wW0_s40 W.1) rfl (wW0_r2 W.1) ?_
          refine zv_aload_n dX7_lacksOrder_51 rfl rfl ?_
          refine zv_geti 2 9 (x := nI (o)) dX7_lacksOrder_52 flX7_311 (wWL_s (W.2.2.2 l (by omega)).2) rfl (hor) ?_
          refine zv_aald (j := o) (o := some (300 + 3 * o)) dX7_lacksOrder_55 (wW0_s43 W.1) (by decide) (by decide) (rfl) (show o < 200 from by omega) (by decide) ((W.2.2.2 o (by omega)).1) ?_
          show zv_V _ _ _ _ _ 56 [.ref 40, .int (nI (r)), .ref (300 + 3 * l), .int ((I (50 + (cc_ci I l)) 1))] [.ref (300 + 3 * o)] _ _ _ _ _
          refine zv_iload_n dX7_lacksOrder_56 rfl rfl ?_
          refine cc_callV (As := [.int (nI (r))]) (st := []) (c := 2) dX7_lacksOrder_57 cvX7_256 (wWL_s (W.2.2.2 o (by omega)).2) rfl rfl rfl (by decide) (cc_c1 rfl cc_c0) (Nat.le_of_ble_eq_true rfl) (cC_isGivenBy (d) (m := r) ((W.2.2.2 o (by omega)).2)) (fun v s1 I1 J1 R1 q => ?_)
          obtain ⟨rfl, rfl, rfl, rfl, rfl⟩ := q
          show zv_V _ _ _ _ _ 60 [.ref 40, .int (nI (r)), .ref (300 + 3 * l), .int ((I (50 + (cc_ci I l)) 1))] [.int (rm_b (cb (I (300 + 3 * o) 12) r))] _ _ _ _ _
          refine zv_ifB_ne (tgt := 67) dX7_lacksOrder_60 (by decide) (fun h60 => ?_) (fun h60 => ?_)
          · refine zv_iconst (v := nI (0)) dX7_lacksOrder_67 (by decide) ?_
            refine zv_iret dX7_lacksOrder_68 rfl rfl ?_
            exact ⟨by unfold cc_lor; rw [if_pos ⟨h18, h23, fun q => h31 ((LF l hl).2.2.2.1.symm.trans q)⟩, hor, h44, rm_nv_n (n := o) (by omega), h60]; rfl, rfl, rfl, rfl, rfl⟩
          · refine zv_iconst (v := nI (1)) dX7_lacksOrder_63 (by decide) ?_
            refine zv_goto (tgt := 68) dX7_lacksOrder_64 (by decide) ?_
            refine zv_iret dX7_lacksOrder_68 rfl rfl ?_
            exact ⟨by unfold cc_lor; rw [if_pos ⟨h18, h23, fun q => h31 ((LF l hl).2.2.2.1.symm.trans q)⟩, hor, h44, rm_nv_n (n := o) (by omega), h60]; rfl, rfl, rfl, rfl, rfl⟩
      · refine zv_iconst (v := nI (0)) dX7_lacksOrder_34 (by decide) ?_
        refine zv_iret dX7_lacksOrder_35 rfl rfl ?_
        exact ⟨by unfold cc_lor; rw [if_neg (fun q => q.2.2 ((LF l hl).2.2.2.1.trans h31))]; rfl, rfl, rfl, rfl, rfl⟩
def cc_llp (I : zv_I) (r l : Nat) : Bool := if I (300 + 3 * l) 1 = nI 2 ∧ ¬ nI r = I (50 + cc_ci I l) 1 then decide (I (109 + 20 * r) (cc_ci I l) < I (300 + 3 * l) 8) else false
theorem cC_lacksLowerPlace (d : Nat) {E : zv_E} {sh : zv_S} {I : zv_I} {J : zv_J} {R : zv_R} {nm nc nl : Nat} (B : cc_B sh I R nm nc nl) {r l : Nat} (hr : r < nm) (hl : l < nl) : zv_V E mX7_lacksLowerPlace d 0 0 0 [.ref 40, .int (nI r), .ref (300 + 3 * l)] [] sh I J R (cc_p (rm_b (cc_llp I r l)) sh I J R) := by
  obtain ⟨W, n5, b5, n6, b6, n7, b7, LF⟩ := B
  have f2 := (LF l hl).2.2.1
  have f4 := (LF l hl).2.2.2.2.1
  refine zv_aload_n dX7_lacksLowerPlace_0 rfl rfl ?_
  refine zv_geti 2 1 (x := (I (300 + 3 * l) 1)) dX7_lacksLowerPlace_1 flX7_102 (wWL_s (W.2.2.2 l (by omega)).2) rfl (rfl) ?_
  refine zv_iconst (v := nI (2)) dX7_lacksLowerPlace_4 (by decide) ?_
  refine zv_icmp_ne (tgt := 24) dX7_lacksLowerPlace_5 (by decide) (fun h5 => ?_) (fun h5 => ?_)
  · refine zv_iconst (v := nI (0)) dX7_lacksLowerPlace_24 (by decide) ?_
    refine zv_iret dX7_lacksLowerPlace_25 rfl rfl ?_
    exact ⟨by unfold cc_llp; rw [if_neg (fun q => h5 q.1)]; rfl, rfl, rfl, rfl, rfl⟩
  · refine zv_iload_n dX7_lacksLowerPlace_8 rfl rfl ?_
    refine zv_aload_n dX7_lacksLowerPlace_9 rfl rfl ?_
    refine zv_getr 6 1 (u := 42) dX7_lacksLowerPlace_10 flX7_17 (wW0_s40 W.1) rfl (wW0_r1 W.1) ?_
    refine zv_aload_n dX7_lacksLowerPlace_13 rfl rfl ?_
    refine zv_geti 2 2 (x := nI (cc_ci I l)) dX7_lacksLowerPlace_14 flX7_105 (wWL_s (W.2.2.2 l (by omega)).2) rfl ((LF l (by omega)).2.1) ?_
    refine zv_aald (j := cc_ci I l) (o := some (50 + (cc_ci I l))) dX7_lacksLowerPlace_17 (wW0_s42 W.1) (by decide) (by decide) (rfl) (show cc_ci I l < 6 from by omega) (by decide) ((W.2.2.1 (cc_ci I l) (by omega)).1) ?_
    show zv_V _ _ _ _ _ 18 [.ref 40, .int (nI (r)), .ref (300 + 3 * l)] [.ref (50 + (cc_ci I l)), .int (nI (r))] _ _ _ _ _
    refine zv_geti 0 1 (x := (I (50 + (cc_ci I l)) 1)) dX7_lacksLowerPlace_18 flX7_135 ((W.2.2.1 (cc_ci I l) (by omega)).2) rfl (rfl) ?_
    refine zv_icmp_ne (tgt := 26) dX7_lacksLowerPlace_21 (by decide) (fun h21 => ?_) (fun h21 => ?_)
    · refine zv_aload_n dX7_lacksLowerPlace_26 rfl rfl ?_
      refine zv_getr 6 0 (u := 41) dX7_lacksLowerPlace_27 flX7_11 (wW0_s40 W.1) rfl (wW0_r0 W.1) ?_
      refine zv_iload_n dX7_lacksLowerPlace_30 rfl rfl ?_
      refine zv_aald (j := r) (o := some (100 + 20 * r)) dX7_lacksLowerPlace_31 (wW0_s41 W.1) (by decide) (by decide) (rfl) (show r < 8 from by omega) (by decide) ((W.2.1 r (by omega)).1) ?_
      show zv_V _ _ _ _ _ 32 [.ref 40, .int (nI (r)), .ref (300 + 3 * l)] [.ref (100 + 20 * r)] _ _ _ _ _
      refine zv_getr 3 2 (u := 109 + 20 * r) dX7_lacksLowerPlace_32 flX7_314 (wWM_s (W.2.1 r (by omega)).2) rfl (wWM_r2 (W.2.1 r (by omega)).2) ?_
      refine zv_aload_n dX7_lacksLowerPlace_35 rfl rfl ?_
      refine zv_geti 2 2 (x := nI (cc_ci I l)) dX7_lacksLowerPlace_36 flX7_105 (wWL_s (W.2.2.2 l (by omega)).2) rfl ((LF l (by omega)).2.1) ?_
      refine zv_iald (j := cc_ci I l) (x := (I (109 + 20 * r) (cc_ci I l))) dX7_lacksLowerPlace_39 (wWM_s2 (W.2.1 r (by omega)).2) (rfl) (show cc_ci I l < 6 from by omega) (by decide) (rfl) ?_
      refine zv_aload_n dX7_lacksLowerPlace_40 rfl rfl ?_
      refine zv_geti 2 8 (x := (I (300 + 3 * l) 8)) dX7_lacksLowerPlace_41 flX7_117 (wWL_s (W.2.2.2 l (by omega)).2) rfl (rfl) ?_
      refine zv_icmp_ge (tgt := 51) dX7_lacksLowerPlace_44 (by decide) (fun h44 => ?_) (fun h44 => ?_)
      · refine zv_iconst (v := nI (0)) dX7_lacksLowerPlace_51 (by decide) ?_
        refine zv_iret dX7_lacksLowerPlace_52 rfl rfl ?_
        exact ⟨by unfold cc_llp; rw [if_pos ⟨h5, h21⟩, decide_eq_false (Int32.not_lt.mpr h44)]; rfl, rfl, rfl, rfl, rfl⟩
      · refine zv_iconst (v := nI (1)) dX7_lacksLowerPlace_47 (by decide) ?_
        refine zv_goto (tgt := 52) dX7_lacksLowerPlace_48 (by decide) ?_
        refine zv_iret dX7_lacksLowerPlace_52 rfl rfl ?_
        exact ⟨by unfold cc_llp; rw [if_pos ⟨h5, h21⟩, decide_eq_true (Int32.not_le.mp h44)]; rfl, rfl, rfl, rfl, rfl⟩
    · refine zv_iconst (v := nI (0)) dX7_lacksLowerPlace_24 (by decide) ?_
      refine zv_iret dX7_lacksLowerPlace_25 rfl rfl ?_
      exact ⟨by unfold cc_llp; rw [if_neg (fun q => q.2 h21)]; rfl, rfl, rfl, rfl, rfl⟩
def cc_can (I : zv_I) (R : zv_R) (nm nc nl r l : Nat) : Bool := decide (I (102 + 20 * r + cc_ci I l) (cc_wi I l) = I (300 + 3 * l) 4 - nI 1) && ((cc_flk I R nm nc r l).isNone && (!cc_lor I nl r l && !cc_llp I r l))
theorem cc_fls_lt {p : Nat → Option Nat} (hp : ∀ e m, p e = some m → m < 8) : ∀ n k j, cc_fls p n k = some j → j < 8 * (k + n)
  | 0, _, _, h => by cases h
  | n + 1, k, j, h => by
    cases hx : p k with
    | none =>
      rw [cc_fls_n hx] at h
      have := cc_fls_lt hp n (k + 1) j h
      omega
    | some m =>
      rw [cc_fls_s hx] at h
      have := hp k m hx
      cases h
      omega
theorem cc_flk_lt {I : zv_I} {R : zv_R} {nm nc r l : Nat} (hb : nm ≤ 8) : ∀ j, cc_flk I R nm nc r l = some j → j < 8 * nc := fun j h => by
  have := cc_fls_lt (p := cc_flp I R nm r l) (fun e m q => by
    unfold cc_flp at q
    split at q
    · have := (rm_fst_some q).2.1; omega
    · cases q) nc 0 j h
  omega
theorem cC_canGive (d : Nat) {E : zv_E} {sh : zv_S} {I : zv_I} {J : zv_J} {R : zv_R} {nm nc nl : Nat} (B : cc_B sh I R nm nc nl) {r l : Nat} (hr : r < nm) (hl : l < nl) : zv_V E mX7_canGive (d + 3) 0 0 0 [.ref 40, .int (nI r), .ref (300 + 3 * l)] [] sh I J R (cc_p (rm_b (cc_can I R nm nc nl r l)) sh I J R) := by
  have B0 := B
  obtain ⟨W, n5, b5, n6, b6, n7, b7, LF⟩ := B
  have f2 := (LF l hl).2.2.1
  have f4 := (LF l hl).2.2.2.2.1
  refine zv_aload_n dX7_canGive_0 rfl rfl ?_
  refine zv_getr 6 0 (u := 41) dX7_canGive_1 flX7_11 (wW0_s40 W.1) rfl (wW0_r0 W.1) ?_
  refine zv_iload_n dX7_canGive_4 rfl rfl ?_
  refine zv_aald (j := r) (o := some (100 + 20 * r)) dX7_canGive_5 (wW0_s41 W.1) (by decide) (by decide) (rfl) (show r < 8 from by omega) (by decide) ((W.2.1 r (by omega)).1) ?_
  show zv_V _ _ _ _ _ 6 [.ref 40, .int (nI (r)), .ref (300 + 3 * l)] [.ref (100 + 20 * r)] _ _ _ _ _
  refine zv_getr 3 0 (u := 101 + 20 * r) dX7_canGive_6 flX7_148 (wWM_s (W.2.1 r (by omega)).2) rfl (wWM_r0 (W.2.1 r (by omega)).2) ?_
  refine zv_aload_n dX7_canGive_9 rfl rfl ?_
  refine zv_geti 2 2 (x := nI (cc_ci I l)) dX7_canGive_10 flX7_105 (wWL_s (W.2.2.2 l (by omega)).2) rfl ((LF l (by omega)).2.1) ?_
  refine zv_aald (j := cc_ci I l) (o := some (102 + 20 * r + (cc_ci I l))) dX7_canGive_13 (wWM_s0 (W.2.1 r (by omega)).2) (by decide) (by decide) (rfl) (show cc_ci I l < 6 from by omega) (by decide) ((wWM_g (W.2.1 r (by omega)).2 (cc_ci I l) (by omega)).1) ?_
  show zv_V _ _ _ _ _ 14 [.ref 40, .int (nI (r)), .ref (300 + 3 * l)] [.ref (102 + 20 * r + (cc_ci I l))] _ _ _ _ _
  refine zv_aload_n dX7_canGive_14 rfl rfl ?_
  refine zv_geti 2 3 (x := nI (cc_wi I l)) dX7_canGive_15 flX7_108 (wWL_s (W.2.2.2 l (by omega)).2) rfl ((LF l (by omega)).2.2.2.1) ?_
  refine zv_iald (j := cc_wi I l) (x := (I (102 + 20 * r + (cc_ci I l)) (cc_wi I l))) dX7_canGive_18 ((wWM_g (W.2.1 r (by omega)).2 (cc_ci I l) (by omega)).2) (rfl) (show cc_wi I l < 8 from by omega) (by decide) (rfl) ?_
  refine zv_aload_n dX7_canGive_19 rfl rfl ?_
  refine zv_geti 2 4 (x := (I (300 + 3 * l) 4)) dX7_canGive_20 flX7_111 (wWL_s (W.2.2.2 l (by omega)).2) rfl (rfl) ?_
  refine zv_iconst (v := nI (1)) dX7_canGive_23 (by decide) ?_
  refine zv_isub dX7_canGive_24 ?_
  refine zv_icmp_eq (tgt := 30) dX7_canGive_25 (by decide) (fun h25 => ?_) (fun h25 => ?_)
  · refine zv_aload_n dX7_canGive_30 rfl rfl ?_
    refine zv_iload_n dX7_canGive_31 rfl rfl ?_
    refine zv_aload_n dX7_canGive_32 rfl rfl ?_
    refine cc_callV (As := [.int (nI (r)), .ref (300 + 3 * l)]) (st := []) (c := 6) dX7_canGive_33 cvX7_158 (wW0_s40 W.1) rfl rfl rfl (by decide) (cc_c1 rfl (cc_c1 rfl cc_c0)) (Nat.le_of_ble_eq_true rfl) (cC_firstLack d B0 hr hl) (fun v s1 I1 J1 R1 q => ?_)
    obtain ⟨rfl, rfl, rfl, rfl, rfl⟩ := q
    show zv_V _ _ _ _ _ 36 [.ref 40, .int (nI (r)), .ref (300 + 3 * l)] [.int ((rm_o (cc_flk I R nm nc r l)))] _ _ _ _ _
    refine zv_iconst (v := (-1 : Int32)) dX7_canGive_36 (by decide) ?_
    refine zv_icmp_ne (tgt := 62) dX7_canGive_37 (by decide) (fun h37 => ?_) (fun h37 => ?_)
    · refine zv_iconst (v := nI (0)) dX7_canGive_62 (by decide) ?_
      refine zv_iret dX7_canGive_63 rfl rfl ?_
      exact ⟨by unfold cc_can; rw [decide_eq_true h25, show (cc_flk I R nm nc r l).isNone = false from by cases hx : cc_flk I R nm nc r l with | none => exact absurd (by rw [hx]; rfl) h37 | some j => rfl]; rfl, rfl, rfl, rfl, rfl⟩
    · refine zv_aload_n dX7_canGive_40 rfl rfl ?_
      refine zv_iload_n dX7_canGive_41 rfl rfl ?_
      refine zv_aload_n dX7_canGive_42 rfl rfl ?_
      refine cc_callV (As := [.int (nI (r)), .ref (300 + 3 * l)]) (st := []) (c := 6) dX7_canGive_43 cvX7_298 (wW0_s40 W.1) rfl rfl rfl (by decide) (cc_c1 rfl (cc_c1 rfl cc_c0)) (Nat.le_of_ble_eq_true rfl) (cC_lacksOrder d B0 hr hl) (fun v s1 I1 J1 R1 q => ?_)
      obtain ⟨rfl, rfl, rfl, rfl, rfl⟩ := q
      show zv_V _ _ _ _ _ 46 [.ref 40, .int (nI (r)), .ref (300 + 3 * l)] [.int (rm_b (cc_lor I nl r l))] _ _ _ _ _
      refine zv_ifB_ne (tgt := 62) dX7_canGive_46 (by decide) (fun h46 => ?_) (fun h46 => ?_)
      · refine zv_iconst (v := nI (0)) dX7_canGive_62 (by decide) ?_
        refine zv_iret dX7_canGive_63 rfl rfl ?_
        exact ⟨by unfold cc_can; rw [decide_eq_true h25, (rm_o_neg _ (fun j hj => by have := cc_flk_lt b5 j hj; omega)).mp h37, h46]; rfl, rfl, rfl, rfl, rfl⟩
      · refine zv_aload_n dX7_canGive_49 rfl rfl ?_
        refine zv_iload_n dX7_canGive_50 rfl rfl ?_
        refine zv_aload_n dX7_canGive_51 rfl rfl ?_
        refine cc_callV (As := [.int (nI (r)), .ref (300 + 3 * l)]) (st := []) (c := 6) dX7_canGive_52 cvX7_301 (wW0_s40 W.1) rfl rfl rfl (by decide) (cc_c1 rfl (cc_c1 rfl cc_c0)) (Nat.le_of_ble_eq_true rfl) (cC_lacksLowerPlace (d + 2) B0 hr hl) (fun v s1 I1 J1 R1 q => ?_)
        obtain ⟨rfl, rfl, rfl, rfl, rfl⟩ := q
        show zv_V _ _ _ _ _ 55 [.ref 40, .int (nI (r)), .ref (300 + 3 * l)] [.int (rm_b (cc_llp I r l))] _ _ _ _ _
        refine zv_ifB_ne (tgt := 62) dX7_canGive_55 (by decide) (fun h55 => ?_) (fun h55 => ?_)
        · refine zv_iconst (v := nI (0)) dX7_canGive_62 (by decide) ?_
          refine zv_iret dX7_canGive_63 rfl rfl ?_
          exact ⟨by unfold cc_can; rw [decide_eq_true h25, (rm_o_neg _ (fun j hj => by have := cc_flk_lt b5 j hj; omega)).mp h37, h46, h55]; rfl, rfl, rfl, rfl, rfl⟩
        · refine zv_iconst (v := nI (1)) dX7_canGive_58 (by decide) ?_
          refine zv_goto (tgt := 63) dX7_canGive_59 (by decide) ?_
          refine zv_iret dX7_canGive_63 rfl rfl ?_
          exact ⟨by unfold cc_can; rw [decide_eq_true h25, (rm_o_neg _ (fun j hj => by have := cc_flk_lt b5 j hj; omega)).mp h37, h46, h55]; rfl, rfl, rfl, rfl, rfl⟩
  · refine zv_iconst (v := nI (0)) dX7_canGive_28 (by decide) ?_
    refine zv_iret dX7_canGive_29 rfl rfl ?_
    exact ⟨by unfold cc_can; rw [decide_eq_false h25]; rfl, rfl, rfl, rfl, rfl⟩
