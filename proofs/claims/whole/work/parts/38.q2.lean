theorem cr_cnt_t {p : Nat → Bool} {k : Nat} (h : p k = true) : rm_cnt p (k + 1) = rm_cnt p k + 1 := by show rm_cnt p k + (if p k = true then 1 else 0) = _; rw [if_pos h]
theorem cr_cnt_f {p : Nat → Bool} {k : Nat} (h : p k = false) : rm_cnt p (k + 1) = rm_cnt p k := by show rm_cnt p k + (if p k = true then 1 else 0) = _; rw [if_neg (by rw [h]; decide)]; rfl
theorem cC_late_l (d : Nat) {E : zv_E} {sh : zv_S} {I : zv_I} {J : zv_J} {R : zv_R} {a : zv_I} {nm nc nl : Nat} (RL : cr_R sh I J R a nm nc nl) {r : Nat} (hr : r < nm) : ∀ n k, k + n = nl → zv_V E mX7_late (d + 2) 0 0 14 [.ref 40, .int (nI r), .int (nI (rm_cnt (fun k => decide (a 20 (200 * r + k) = nI 1)) k)), .int (nI k)] [] sh I J R (cc_p (nI (rm_cnt (fun k => decide (a 20 (200 * r + k) = nI 1)) nl)) sh I J R) := by
  obtain ⟨B, RT, RC, RLt, RM⟩ := RL
  have B0 := B
  obtain ⟨W, n5, b5, n6, b6, n7, b7, LF⟩ := B
  have LC : ∀ l, l < nl → I (300 + 3 * l) 2 = nI (rm_ci a l) ∧ rm_ci a l < nc := cr_lci B0 RLt
  have LW : ∀ l, l < nl → I (300 + 3 * l) 3 = nI (rm_wr a l) ∧ rm_wr a l < nm := cr_lwi B0 RLt
  intro n
  induction n with
  | zero =>
    intro k hk
    have hk2 : k = nl := by omega
    subst hk2
    refine zv_iload_n dX7_late_14 rfl rfl ?_
    refine zv_aload_n dX7_late_15 rfl rfl ?_
    refine zv_geti 6 7 (x := nI (k)) dX7_late_16 flX7_95 (wW0_s40 W.1) rfl (n7) ?_
    refine zv_icN_ge (tgt := 44) dX7_late_19 (by decide) (by omega) (by omega) (fun h19 => ?_) (fun h19 => (absurd h19 (by omega)))
    refine zv_iload_n dX7_late_44 rfl rfl ?_
    refine zv_iret dX7_late_45 rfl rfl ?_
    exact ⟨rfl, rfl, rfl, rfl, rfl⟩
  | succ n ih =>
    intro k hk
    refine zv_iload_n dX7_late_14 rfl rfl ?_
    refine zv_aload_n dX7_late_15 rfl rfl ?_
    refine zv_geti 6 7 (x := nI (nl)) dX7_late_16 flX7_95 (wW0_s40 W.1) rfl (n7) ?_
    refine zv_icN_ge (tgt := 44) dX7_late_19 (by decide) (by omega) (by omega) (fun h19 => (absurd h19 (by omega))) (fun h19 => ?_)
    refine zv_aload_n dX7_late_22 rfl rfl ?_
    refine zv_getr 6 2 (u := 43) dX7_late_23 flX7_23 (wW0_s40 W.1) rfl (wW0_r2 W.1) ?_
    refine zv_iload_n dX7_late_26 rfl rfl ?_
    refine zv_aald (j := k) (o := some (300 + 3 * k)) dX7_late_27 (wW0_s43 W.1) (by decide) (by decide) (rfl) (show k < 200 from by omega) (by decide) ((W.2.2.2 k (by omega)).1) ?_
    show zv_V _ _ _ _ _ 28 [.ref 40, .int (nI (r)), .int (nI (rm_cnt (fun k => decide (a 20 (200 * r + k) = nI 1)) k)), .int (nI (k))] [.ref (300 + 3 * k)] _ _ _ _ _
    refine zv_iload_n dX7_late_28 rfl rfl ?_
    refine cc_callV (As := [.int (nI (r))]) (st := []) (c := 2) dX7_late_29 cvX7_78 (wWL_s (W.2.2.2 k (by omega)).2) rfl rfl rfl (by decide) (cc_c1 rfl cc_c0) (Nat.le_of_ble_eq_true rfl) (cC_isOnLineTo (d) (m := r) ((W.2.2.2 k (by omega)).2)) (fun v s1 I1 J1 R1 q => ?_)
    obtain ⟨rfl, rfl, rfl, rfl, rfl⟩ := q
    rw [xL_lb (RLt k (by omega)) r (by omega)]
    show zv_V _ _ _ _ _ 32 [.ref 40, .int (nI (r)), .int (nI (rm_cnt (fun k => decide (a 20 (200 * r + k) = nI 1)) k)), .int (nI (k))] [.int (rm_b (decide (a 20 (200 * r + k) = nI 1)))] _ _ _ _ _
    refine zv_ifB_eq (tgt := 38) dX7_late_32 (by decide) (fun h32 => ?_) (fun h32 => ?_)
    · refine zv_iinc (v := nI (k + 1)) (lv' := [.ref 40, .int (nI (r)), .int (nI (rm_cnt (fun k => decide (a 20 (200 * r + k) = nI 1)) k)), .int (nI (k + 1))]) dX7_late_38 rfl (nI_add (k) 1) (by decide) rfl ?_
      refine zv_goto (tgt := 14) dX7_late_41 (by decide) ?_
      rw [← cr_cnt_f (p := (fun k => decide (a 20 (200 * r + k) = nI 1))) (k := k) h32]
      exact ih (k + 1) (by omega)
    · refine zv_iinc (v := nI (rm_cnt (fun k => decide (a 20 (200 * r + k) = nI 1)) k + 1)) (lv' := [.ref 40, .int (nI (r)), .int (nI (rm_cnt (fun k => decide (a 20 (200 * r + k) = nI 1)) k + 1)), .int (nI (k))]) dX7_late_35 rfl (nI_add (rm_cnt (fun k => decide (a 20 (200 * r + k) = nI 1)) k) 1) (by decide) rfl ?_
      refine zv_iinc (v := nI (k + 1)) (lv' := [.ref 40, .int (nI (r)), .int (nI (rm_cnt (fun k => decide (a 20 (200 * r + k) = nI 1)) k + 1)), .int (nI (k + 1))]) dX7_late_38 rfl (nI_add (k) 1) (by decide) rfl ?_
      refine zv_goto (tgt := 14) dX7_late_41 (by decide) ?_
      rw [← cr_cnt_t (p := (fun k => decide (a 20 (200 * r + k) = nI 1))) (k := k) h32]
      exact ih (k + 1) (by omega)
theorem cC_late (d : Nat) {E : zv_E} {sh : zv_S} {I : zv_I} {J : zv_J} {R : zv_R} {a : zv_I} {nm nc nl : Nat} (RL : cr_R sh I J R a nm nc nl) (x : Int32) : zv_V E mX7_late (d + 2) 0 0 0 [.ref 40, .int x] [] sh I J R (cc_p (q_late a nm nl x) sh I J R) := by
  have RL0 := RL
  obtain ⟨B, RT, RC, RLt, RM⟩ := RL
  have B0 := B
  obtain ⟨W, n5, b5, n6, b6, n7, b7, LF⟩ := B
  have LC : ∀ l, l < nl → I (300 + 3 * l) 2 = nI (rm_ci a l) ∧ rm_ci a l < nc := cr_lci B0 RLt
  have LW : ∀ l, l < nl → I (300 + 3 * l) 3 = nI (rm_wr a l) ∧ rm_wr a l < nm := cr_lwi B0 RLt
  refine zv_aload_n dX7_late_0 rfl rfl ?_
  refine zv_iload_n dX7_late_1 rfl rfl ?_
  refine cc_callV (As := [.int (x)]) (st := []) (c := 6) dX7_late_2 cvX7_75 (wW0_s40 W.1) rfl rfl rfl (by decide) (cc_c1 rfl cc_c0) (Nat.le_of_ble_eq_true rfl) (cC_isMember (d + 1) W.1 n5 (by omega) x) (fun v s1 I1 J1 R1 q => ?_)
  obtain ⟨rfl, rfl, rfl, rfl, rfl⟩ := q
  show zv_V _ _ _ _ _ 5 [.ref 40, .int (x)] [.int (rm_b (rm_lt x nm))] _ _ _ _ _
  refine zv_ifB_ne (tgt := 10) dX7_late_5 (by decide) (fun h5 => ?_) (fun h5 => ?_)
  · obtain ⟨r, hr, rfl⟩ := rm_lt_t h5 (by omega)
    refine zv_iconst (v := nI (0)) dX7_late_10 (by decide) ?_
    refine zv_istore_n (lv' := [.ref 40, .int (nI (r)), .int (nI (0))]) dX7_late_11 rfl (by decide) rfl ?_
    refine zv_iconst (v := nI (0)) dX7_late_12 (by decide) ?_
    refine zv_istore_n (lv' := [.ref 40, .int (nI (r)), .int (nI (0)), .int (nI (0))]) dX7_late_13 rfl (by decide) rfl ?_
    rw [show q_late a nm nl (nI r) = nI (rm_cnt (fun k => decide (a 20 (200 * r + k) = nI 1)) nl) from by unfold q_late; rw [h5, rm_nv_n (n := r) (by omega)]; rfl]
    exact cC_late_l d RL0 hr nl 0 (by omega)
  · refine zv_iconst (v := (-1 : Int32)) dX7_late_8 (by decide) ?_
    refine zv_iret dX7_late_9 rfl rfl ?_
    exact ⟨congrArg (fun z => some (Value.int z)) (by unfold q_late; rw [h5]; rfl), rfl, rfl, rfl, rfl⟩
theorem cr_tb_i : ∀ i : Fin 256, ∀ m : Fin 8, cb (nI i.1) m.1 = i.1.testBit m.1 := by decide +kernel
theorem cr_tb {i m : Nat} (hi : i < 256) (hm : m < 8) : cb (nI i) m = i.testBit m := cr_tb_i ⟨i, hi⟩ ⟨m, hm⟩
theorem cr_by_eq {x y : Int32} (hx : cr_by x) (hy : cr_by y) (h : ∀ m, m < 8 → cb x m = cb y m) : x = y := by
  obtain ⟨i, hi, rfl⟩ := hx
  obtain ⟨j, hj, rfl⟩ := hy
  have H : ∀ i j : Fin 256, (∀ m : Fin 8, (i.1.testBit m.1) = (j.1.testBit m.1)) → i = j := by
    intro i j q
    apply Fin.ext
    apply Nat.eq_of_testBit_eq
    intro k
    by_cases hk : k < 8
    · exact q ⟨k, hk⟩
    · rw [Nat.testBit_lt_two_pow (Nat.lt_of_lt_of_le i.2 (show 2 ^ 8 ≤ 2 ^ k from Nat.pow_le_pow_right (by omega) (by omega))), Nat.testBit_lt_two_pow (Nat.lt_of_lt_of_le j.2 (show 2 ^ 8 ≤ 2 ^ k from Nat.pow_le_pow_right (by omega) (by omega)))]
  have G := H ⟨i, hi⟩ ⟨j, hj⟩ (fun m => by rw [← cr_tb hi m.2, ← cr_tb hj m.2]; exact h m.1 m.2)
  rw [show i = j from congrArg Fin.val G]
def cr_cp (a : zv_I) (nm c l : Nat) : Bool := rm_all (rm_clp a c l) nm 0
theorem cr_cp_n {a : zv_I} {nm c l : Nat} (h : ¬ a 11 l = nI c) : cr_cp a nm c l = true := rm_all_iff.mpr fun i _ _ => by unfold rm_clp; rw [decide_eq_true h]; rfl
theorem cr_cp_y {a : zv_I} {nm c l : Nat} {x y : Int32} (hc : a 11 l = nI c) (hx : cr_by x) (hy : cr_by (a 6 c)) (e : x = a 6 c) (hb : ∀ m, m < 8 → cb x m = decide (a 20 (200 * m + l) = nI 3)) (hm : nm ≤ 8) : cr_cp a nm c l = true := rm_all_iff.mpr fun m _ h2 => by
  unfold rm_clp
  cases hi : rm_in a m c with
  | false => rw [Bool.not_false, Bool.true_or, Bool.or_true]
  | true =>
    have h3 : cb (a 6 c) m = true := hi
    rw [← e, hb m (by omega)] at h3
    rw [h3, Bool.or_true, Bool.or_true]
theorem cr_cp_f {a : zv_I} {nm c l : Nat} {x : Int32} (hc : a 11 l = nI c) (hx : cr_by x) (hy : cr_by (a 6 c)) (e : ¬ x = a 6 c) (hb : ∀ m, m < 8 → cb x m = decide (a 20 (200 * m + l) = nI 3)) (hin : ∀ m, m < 8 → rm_in a m c = true → m < nm) (hs : ∀ m, m < 8 → a 20 (200 * m + l) = nI 3 → rm_in a m c = true) : cr_cp a nm c l = false := by
  cases hq : cr_cp a nm c l with
  | false => rfl
  | true =>
    refine absurd (cr_by_eq hx hy fun m hm => ?_) e
    rw [hb m hm]
    show _ = rm_in a m c
    cases hi : rm_in a m c with
    | false => exact decide_eq_false fun q => by rw [hs m hm q] at hi; cases hi
    | true =>
      have h1 := rm_all_iff.mp hq m (Nat.zero_le _) (by rw [Nat.zero_add]; exact hin m hm hi)
      unfold rm_clp at h1
      rw [hi, decide_eq_false (fun q => q hc)] at h1
      exact h1
theorem cC_isCalm_l (d : Nat) {E : zv_E} {sh : zv_S} {I : zv_I} {J : zv_J} {R : zv_R} {a : zv_I} {nm nc nl : Nat} (RL : cr_R sh I J R a nm nc nl) (hby : ∀ c, c < nc → cr_by (a 6 c)) (hin : ∀ c, c < nc → ∀ m, m < 8 → rm_in a m c = true → m < nm) (hst : ∀ r l, r < 8 → l < nl → cr_st a r l) {c : Nat} (hc : c < nc) : ∀ n k, k + n = nl → zv_V E mX7_isCalm d 0 0 2 [.ref 40, .int (nI c), .int (nI k)] [] sh I J R (cc_p (rm_b (rm_all (fun l => rm_all (rm_clp a c l) nm 0) n k)) sh I J R) := by
  obtain ⟨B, RT, RC, RLt, RM⟩ := RL
  have B0 := B
  obtain ⟨W, n5, b5, n6, b6, n7, b7, LF⟩ := B
  have LC : ∀ l, l < nl → I (300 + 3 * l) 2 = nI (rm_ci a l) ∧ rm_ci a l < nc := cr_lci B0 RLt
  have LW : ∀ l, l < nl → I (300 + 3 * l) 3 = nI (rm_wr a l) ∧ rm_wr a l < nm := cr_lwi B0 RLt
  intro n
  induction n with
  | zero =>
    intro k hk
    have hk2 : k = nl := by omega
    subst hk2
    refine zv_iload_n dX7_isCalm_2 rfl rfl ?_
    refine zv_aload_n dX7_isCalm_3 rfl rfl ?_
    refine zv_geti 6 7 (x := nI (k)) dX7_isCalm_4 flX7_95 (wW0_s40 W.1) rfl (n7) ?_
    refine zv_icN_ge (tgt := 52) dX7_isCalm_7 (by decide) (by omega) (by omega) (fun h7 => ?_) (fun h7 => (absurd h7 (by omega)))
    refine zv_iconst (v := nI (1)) dX7_isCalm_52 (by decide) ?_
    refine zv_iret dX7_isCalm_53 rfl rfl ?_
    exact ⟨rfl, rfl, rfl, rfl, rfl⟩
  | succ n ih =>
    intro k hk
    have f2 := (LC k (by omega)).2
    have e11 : a 11 k = nI (rm_ci a k) := (xL_c (RLt k (by omega))).symm.trans (LC k (by omega)).1
    refine zv_iload_n dX7_isCalm_2 rfl rfl ?_
    refine zv_aload_n dX7_isCalm_3 rfl rfl ?_
    refine zv_geti 6 7 (x := nI (nl)) dX7_isCalm_4 flX7_95 (wW0_s40 W.1) rfl (n7) ?_
    refine zv_icN_ge (tgt := 52) dX7_isCalm_7 (by decide) (by omega) (by omega) (fun h7 => (absurd h7 (by omega))) (fun h7 => ?_)
    refine zv_aload_n dX7_isCalm_10 rfl rfl ?_
    refine zv_getr 6 2 (u := 43) dX7_isCalm_11 flX7_23 (wW0_s40 W.1) rfl (wW0_r2 W.1) ?_
    refine zv_iload_n dX7_isCalm_14 rfl rfl ?_
    refine zv_aald (j := k) (o := some (300 + 3 * k)) dX7_isCalm_15 (wW0_s43 W.1) (by decide) (by decide) (rfl) (show k < 200 from by omega) (by decide) ((W.2.2.2 k (by omega)).1) ?_
    show zv_V _ _ _ _ _ 16 [.ref 40, .int (nI (c)), .int (nI (k))] [.ref (300 + 3 * k)] _ _ _ _ _
    refine zv_geti 2 2 (x := nI (rm_ci a k)) dX7_isCalm_16 flX7_105 (wWL_s (W.2.2.2 k (by omega)).2) rfl ((LC k (by omega)).1) ?_
    refine zv_iload_n dX7_isCalm_19 rfl rfl ?_
    refine zv_icN_ne (tgt := 46) dX7_isCalm_20 (by decide) (by omega) (by omega) (fun h20 => ?_) (fun h20 => ?_)
    · refine zv_iinc (v := nI (k + 1)) (lv' := [.ref 40, .int (nI (c)), .int (nI (k + 1))]) dX7_isCalm_46 rfl (nI_add (k) 1) (by decide) rfl ?_
      refine zv_goto (tgt := 2) dX7_isCalm_49 (by decide) ?_
      rw [show rm_all (fun l => rm_all (rm_clp a c l) nm 0) (n + 1) k = rm_all (fun l => rm_all (rm_clp a c l) nm 0) n (k + 1) from by show ((fun l => rm_all (rm_clp a c l) nm 0) k && rm_all (fun l => rm_all (rm_clp a c l) nm 0) n (k + 1)) = _; rw [show (fun l => rm_all (rm_clp a c l) nm 0) k = true from cr_cp_n (fun q => h20 ((nI_eq (by omega) (by omega)).mp (e11.symm.trans q)))]; rfl]
      exact ih (k + 1) (by omega)
    · refine zv_aload_n dX7_isCalm_23 rfl rfl ?_
      refine zv_getr 6 2 (u := 43) dX7_isCalm_24 flX7_23 (wW0_s40 W.1) rfl (wW0_r2 W.1) ?_
      refine zv_iload_n dX7_isCalm_27 rfl rfl ?_
      refine zv_aald (j := k) (o := some (300 + 3 * k)) dX7_isCalm_28 (wW0_s43 W.1) (by decide) (by decide) (rfl) (show k < 200 from by omega) (by decide) ((W.2.2.2 k (by omega)).1) ?_
      show zv_V _ _ _ _ _ 29 [.ref 40, .int (nI (c)), .int (nI (k))] [.ref (300 + 3 * k)] _ _ _ _ _
      refine zv_geti 2 12 (x := (I (300 + 3 * k) 12)) dX7_isCalm_29 flX7_291 (wWL_s (W.2.2.2 k (by omega)).2) rfl (rfl) ?_
      refine zv_aload_n dX7_isCalm_32 rfl rfl ?_
      refine zv_getr 6 1 (u := 42) dX7_isCalm_33 flX7_17 (wW0_s40 W.1) rfl (wW0_r1 W.1) ?_
      refine zv_iload_n dX7_isCalm_36 rfl rfl ?_
      refine zv_aald (j := c) (o := some (50 + c)) dX7_isCalm_37 (wW0_s42 W.1) (by decide) (by decide) (rfl) (show c < 6 from by omega) (by decide) ((W.2.2.1 c (by omega)).1) ?_
      show zv_V _ _ _ _ _ 38 [.ref 40, .int (nI (c)), .int (nI (k))] [.ref (50 + c), .int ((I (300 + 3 * k) 12))] _ _ _ _ _
      refine zv_geti 0 0 (x := (a 6 c)) dX7_isCalm_38 flX7_132 ((W.2.2.1 c (by omega)).2) rfl (xC_b (RC c (by omega))) ?_
      refine zv_icmp_eq (tgt := 46) dX7_isCalm_41 (by decide) (fun h41 => ?_) (fun h41 => ?_)
      · refine zv_iinc (v := nI (k + 1)) (lv' := [.ref 40, .int (nI (c)), .int (nI (k + 1))]) dX7_isCalm_46 rfl (nI_add (k) 1) (by decide) rfl ?_
        refine zv_goto (tgt := 2) dX7_isCalm_49 (by decide) ?_
        rw [show rm_all (fun l => rm_all (rm_clp a c l) nm 0) (n + 1) k = rm_all (fun l => rm_all (rm_clp a c l) nm 0) n (k + 1) from by show ((fun l => rm_all (rm_clp a c l) nm 0) k && rm_all (fun l => rm_all (rm_clp a c l) nm 0) n (k + 1)) = _; rw [show (fun l => rm_all (rm_clp a c l) nm 0) k = true from cr_cp_y (y := 0) (by rw [e11, h20]) (xL_gy (RLt k (by omega))) (hby c hc) h41 (xL_gb (RLt k (by omega))) b5]; rfl]
        exact ih (k + 1) (by omega)
      · refine zv_iconst (v := nI (0)) dX7_isCalm_44 (by decide) ?_
        refine zv_iret dX7_isCalm_45 rfl rfl ?_
        exact ⟨congrArg (fun z => some (Value.int z)) (by rw [show rm_all (fun l => rm_all (rm_clp a c l) nm 0) (n + 1) k = false from by show ((fun l => rm_all (rm_clp a c l) nm 0) k && rm_all (fun l => rm_all (rm_clp a c l) nm 0) n (k + 1)) = false; rw [show (fun l => rm_all (rm_clp a c l) nm 0) k = false from cr_cp_f (by rw [e11, h20]) (xL_gy (RLt k (by omega))) (hby c hc) h41 (xL_gb (RLt k (by omega))) (hin c hc) (fun m hm q => (hst m k hm (by omega)).elim (fun z => absurd (z.2.symm.trans q) (by decide)) (fun z => by rw [← h20]; exact z.1))]; rfl]; rfl), rfl, rfl, rfl, rfl⟩
theorem cC_isCalm (d : Nat) {E : zv_E} {sh : zv_S} {I : zv_I} {J : zv_J} {R : zv_R} {a : zv_I} {nm nc nl : Nat} (RL : cr_R sh I J R a nm nc nl) (hby : ∀ c, c < nc → cr_by (a 6 c)) (hin : ∀ c, c < nc → ∀ m, m < 8 → rm_in a m c = true → m < nm) (hst : ∀ r l, r < 8 → l < nl → cr_st a r l) {c : Nat} (hc : c < nc) : zv_V E mX7_isCalm d 0 0 0 [.ref 40, .int (nI c)] [] sh I J R (cc_p (rm_b (rm_cal a nm nl c)) sh I J R) := by
  refine zv_iconst (v := nI (0)) dX7_isCalm_0 (by decide) ?_
  refine zv_istore_n (lv' := [.ref 40, .int (nI (c)), .int (nI (0))]) dX7_isCalm_1 rfl (by decide) rfl ?_
  exact cC_isCalm_l d RL hby hin hst hc nl 0 (by omega)
theorem cC_circleTold (d : Nat) {E : zv_E} {sh : zv_S} {I : zv_I} {J : zv_J} {R : zv_R} {a : zv_I} {nm nc nl : Nat} (RL : cr_R sh I J R a nm nc nl) (hby : ∀ c, c < nc → cr_by (a 6 c)) (hin : ∀ c, c < nc → ∀ m, m < 8 → rm_in a m c = true → m < nm) (hst : ∀ r l, r < 8 → l < nl → cr_st a r l) (x y : Int32) : zv_V E mX7_circleTold (d + 1) 0 0 0 [.ref 40, .int x, .int y] [] sh I J R (cc_p (q_cTold a nm nc nl x y) sh I J R) := by
  have RL0 := RL
  obtain ⟨B, RT, RC, RLt, RM⟩ := RL
  have B0 := B
  obtain ⟨W, n5, b5, n6, b6, n7, b7, LF⟩ := B
  have LC : ∀ l, l < nl → I (300 + 3 * l) 2 = nI (rm_ci a l) ∧ rm_ci a l < nc := cr_lci B0 RLt
  have LW : ∀ l, l < nl → I (300 + 3 * l) 3 = nI (rm_wr a l) ∧ rm_wr a l < nm := cr_lwi B0 RLt
  refine zv_aload_n dX7_circleTold_0 rfl rfl ?_
  refine zv_iload_n dX7_circleTold_1 rfl rfl ?_
  refine cc_callV (As := [.int (x)]) (st := []) (c := 6) dX7_circleTold_2 cvX7_85 (wW0_s40 W.1) rfl rfl rfl (by decide) (cc_c1 rfl cc_c0) (Nat.le_of_ble_eq_true rfl) (cC_isCircle (d) W.1 n6 (by omega) x) (fun v s1 I1 J1 R1 q => ?_)
  obtain ⟨rfl, rfl, rfl, rfl, rfl⟩ := q
  show zv_V _ _ _ _ _ 5 [.ref 40, .int (x), .int (y)] [.int (rm_b (rm_lt x nc))] _ _ _ _ _
  refine zv_ifB_ne (tgt := 10) dX7_circleTold_5 (by decide) (fun h5 => ?_) (fun h5 => ?_)
  · obtain ⟨c, hc, rfl⟩ := rm_lt_t h5 (by omega)
    refine zv_aload_n dX7_circleTold_10 rfl rfl ?_
    refine zv_getr 6 1 (u := 42) dX7_circleTold_11 flX7_17 (wW0_s40 W.1) rfl (wW0_r1 W.1) ?_
    refine zv_iload_n dX7_circleTold_14 rfl rfl ?_
    refine zv_aald (j := c) (o := some (50 + c)) dX7_circleTold_15 (wW0_s42 W.1) (by decide) (by decide) (rfl) (show c < 6 from by omega) (by decide) ((W.2.2.1 c (by omega)).1) ?_
    show zv_V _ _ _ _ _ 16 [.ref 40, .int (nI (c)), .int (y)] [.ref (50 + c)] _ _ _ _ _
    refine zv_astore_n (lv' := [.ref 40, .int (nI (c)), .int (y), .ref (50 + c)]) dX7_circleTold_16 rfl (by decide) rfl ?_
    refine zv_iload_n dX7_circleTold_17 rfl rfl ?_
    cases hsw : rm_lt y 4 with
    | false =>
      refine zv_tableOut (tgt := 77) dX7_circleTold_18 (rm_lt_out hsw) (by decide) ?_
      refine zv_iconst (v := (-1 : Int32)) dX7_circleTold_77 (by decide) ?_
      refine zv_iret dX7_circleTold_78 rfl rfl ?_
      exact ⟨congrArg (fun z => some (Value.int z)) (by unfold q_cTold; rw [h5, hsw]; rfl), rfl, rfl, rfl, rfl⟩
    | true =>
      obtain ⟨jsw, hjsw, rfl⟩ := rm_lt_t hsw (by decide)
      rcases (show jsw = 0 ∨ jsw = 1 ∨ jsw = 2 ∨ jsw = 3 by omega) with rfl | rfl | rfl | rfl
      · refine zv_tableIn (off := 30) (tgt := 48) dX7_circleTold_18 (by decide) (by decide) (by decide) (by decide) ?_
        refine zv_aload_n dX7_circleTold_48 rfl rfl ?_
        refine zv_geti 0 0 (x := (a 6 c)) dX7_circleTold_49 flX7_132 ((W.2.2.1 c (by omega)).2) rfl (xC_b (RC c (by omega))) ?_
        refine zv_iret dX7_circleTold_52 rfl rfl ?_
        exact ⟨congrArg (fun z => some (Value.int z)) (by unfold q_cTold; rw [h5, rm_nv_n (n := c) (by omega)]; rfl), rfl, rfl, rfl, rfl⟩
      · refine zv_tableIn (off := 35) (tgt := 53) dX7_circleTold_18 (by decide) (by decide) (by decide) (by decide) ?_
        refine zv_aload_n dX7_circleTold_53 rfl rfl ?_
        refine zv_geti 0 1 (x := nI (rm_el a c)) dX7_circleTold_54 flX7_135 ((W.2.2.1 c (by omega)).2) rfl (xC_e (RC c (by omega))) ?_
        refine zv_iret dX7_circleTold_57 rfl rfl ?_
        exact ⟨congrArg (fun z => some (Value.int z)) (by unfold q_cTold; rw [h5, rm_nv_n (n := c) (by omega)]; rfl), rfl, rfl, rfl, rfl⟩
      · refine zv_tableIn (off := 40) (tgt := 58) dX7_circleTold_18 (by decide) (by decide) (by decide) (by decide) ?_
        refine zv_aload_n dX7_circleTold_58 rfl rfl ?_
        refine zv_geti 0 2 (x := (a 7 c)) dX7_circleTold_59 flX7_138 ((W.2.2.1 c (by omega)).2) rfl (xC_p (RC c (by omega))) ?_
        refine zv_iret dX7_circleTold_62 rfl rfl ?_
        exact ⟨congrArg (fun z => some (Value.int z)) (by unfold q_cTold; rw [h5, rm_nv_n (n := c) (by omega)]; rfl), rfl, rfl, rfl, rfl⟩
      · refine zv_tableIn (off := 45) (tgt := 63) dX7_circleTold_18 (by decide) (by decide) (by decide) (by decide) ?_
        refine zv_aload_n dX7_circleTold_63 rfl rfl ?_
        refine zv_iload_n dX7_circleTold_64 rfl rfl ?_
        refine cc_callV (As := [.int (nI (c))]) (st := []) (c := 6) dX7_circleTold_65 cvX7_141 (wW0_s40 W.1) rfl rfl rfl (by decide) (cc_c1 rfl cc_c0) (Nat.le_of_ble_eq_true rfl) (cC_isCalm d RL0 hby hin hst (c := c) (by omega)) (fun v s1 I1 J1 R1 q => ?_)
        obtain ⟨rfl, rfl, rfl, rfl, rfl⟩ := q
        show zv_V _ _ _ _ _ 68 [.ref 40, .int (nI (c)), .int (nI (3)), .ref (50 + c)] [.int (rm_b (rm_cal a nm nl c))] _ _ _ _ _
        refine zv_ifB_eq (tgt := 75) dX7_circleTold_68 (by decide) (fun h68 => ?_) (fun h68 => ?_)
        · refine zv_iconst (v := nI (0)) dX7_circleTold_75 (by decide) ?_
          refine zv_iret dX7_circleTold_76 rfl rfl ?_
          exact ⟨congrArg (fun z => some (Value.int z)) (by unfold q_cTold; rw [h5, rm_nv_n (n := c) (by omega)]; show _ = rm_b (rm_cal a nm nl c); rw [h68]; rfl), rfl, rfl, rfl, rfl⟩
        · refine zv_iconst (v := nI (1)) dX7_circleTold_71 (by decide) ?_
          refine zv_goto (tgt := 76) dX7_circleTold_72 (by decide) ?_
          refine zv_iret dX7_circleTold_76 rfl rfl ?_
          exact ⟨congrArg (fun z => some (Value.int z)) (by unfold q_cTold; rw [h5, rm_nv_n (n := c) (by omega)]; show _ = rm_b (rm_cal a nm nl c); rw [h68]; rfl), rfl, rfl, rfl, rfl⟩
  · refine zv_iconst (v := (-1 : Int32)) dX7_circleTold_8 (by decide) ?_
    refine zv_iret dX7_circleTold_9 rfl rfl ?_
    exact ⟨congrArg (fun z => some (Value.int z)) (by unfold q_cTold; rw [h5]; rfl), rfl, rfl, rfl, rfl⟩
