theorem cr_fst_c {p q : Nat → Bool} : ∀ {n k : Nat}, (∀ i, k ≤ i → i < k + n → p i = q i) → rm_fst p n k = rm_fst q n k
  | 0, _, _ => rfl
  | n + 1, k, h => by
    show (if p k = true then some k else rm_fst p n (k + 1)) = (if q k = true then some k else rm_fst q n (k + 1))
    rw [h k (Nat.le_refl _) (by omega), cr_fst_c (n := n) (k := k + 1) fun i h1 h2 => h i (by omega) (by omega)]
theorem cr_sum_c {f g : Nat → Int32} {p : Nat} : ∀ n, (∀ j, j < n → f (p + j) = g (p + j)) → rm_sum f p n = rm_sum g p n
  | 0, _ => rfl
  | n + 1, h => by
    show rm_sum f p n + f (p + n) = rm_sum g p n + g (p + n)
    rw [h n (by omega), cr_sum_c n fun j hj => h j (by omega)]
theorem cr_slc {a : zv_I} {nl m s : Nat} (hn : nl ≤ 200) (h : rm_sl a nl m s) : rm_th a m s = none ∨ (∃ l, l < nl ∧ rm_th a m s = some (true, l)) ∨ ∃ l, l < nl ∧ rm_th a m s = some (false, l) := by
  unfold rm_th
  rcases h with h | ⟨l, hl, h⟩ | ⟨l, hl, h⟩
  · exact Or.inl (by rw [h]; rfl)
  · exact Or.inr (Or.inl ⟨l, hl, by rw [h]; exact rm_thw_l (by omega)⟩)
  · exact Or.inr (Or.inr ⟨l, hl, by rw [h]; exact rm_thw_c (by omega)⟩)
theorem cr_frs {I : zv_I} {J : zv_J} {R : zv_R} {a : zv_I} {nc l : Nat} (L : cr_L I J R a nc l) (hr : rm_hr a l) : (cc_fr R (cc_ck R l) 6 0).map (fun e => 1002 + 8 * cc_ck R l + e) = some (1002 + 8 * cc_ck R l + rm_fr a l) := by
  unfold cc_fr
  rw [cr_fst_c (q := rm_row a l) (fun i h1 h2 => xL_r L i (by omega)), hr]
  rfl
theorem cr_frs_lt {a : zv_I} {l : Nat} (hr : rm_hr a l) : rm_fr a l < 6 ∧ rm_row a l (rm_fr a l) = true := by
  have := rm_fst_some hr
  exact ⟨by omega, this.2.2.1⟩
theorem cr_rws {sh : zv_S} {I : zv_I} {J : zv_J} {R : zv_R} {a : zv_I} {nc l e : Nat} (L : cr_L I J R a nc l) (w : cc_WK sh R (cc_ck R l)) (he : e < 6) (hr : rm_row a l e = true) : R (1001 + 8 * cc_ck R l) e = some (1002 + 8 * cc_ck R l + e) ∧ sh (1002 + 8 * cc_ck R l + e) = some (0, 8) ∧ ∀ m, m < 8 → I (1002 + 8 * cc_ck R l + e) m = a 19 (48 * l + 8 * e + m) := by
  have h1 := xL_r L e he
  rw [hr] at h1
  rcases wWK_g w e he with g | ⟨g1, g2⟩
  · rw [g] at h1; cases h1
  · refine ⟨g1, g2, fun m hm => ?_⟩
    have h2 := xL_cv L e m he hm
    unfold cc_cv at h2
    rw [g1] at h2
    exact h2
theorem cr_rwn {sh : zv_S} {I : zv_I} {J : zv_J} {R : zv_R} {a : zv_I} {nc l e : Nat} (L : cr_L I J R a nc l) (he : e < 6) (hr : rm_row a l e = false) : R (1001 + 8 * cc_ck R l) e = none := by
  have h1 := xL_r L e he
  rw [hr] at h1
  cases hx : R (1001 + 8 * cc_ck R l) e with
  | none => rfl
  | some _ => rw [hx] at h1; cases h1
theorem q_sl_th (a : zv_I) (t : Int32) : q_sl a t = (match rm_thw t with | none => nI 0 | some (false, _) => nI 1 | some (true, l) => nI 2 + a 10 l) := by
  unfold q_sl rm_thw
  by_cases h : t = 0
  · rw [if_pos h, if_pos h]
  · rw [if_neg h, if_neg h]
    by_cases g : t < 0
    · rw [if_pos g, if_pos g]
    · rw [if_neg g, if_neg g]
theorem cC_slot (d : Nat) {E : zv_E} {sh : zv_S} {I : zv_I} {J : zv_J} {R : zv_R} {a : zv_I} {nm nc nl : Nat} (RL : cr_R sh I J R a nm nc nl) (hsl : ∀ m s, m < nm → s < 40 → rm_sl a nl m s) (x y : Int32) : zv_V E mX7_slot (d + 1) 0 0 0 [.ref 40, .int x, .int y] [] sh I J R (cc_p (q_slot a nm x y) sh I J R) := by
  obtain ⟨B, RT, RC, RLt, RM⟩ := RL
  have B0 := B
  obtain ⟨W, n5, b5, n6, b6, n7, b7, LF⟩ := B
  have LC : ∀ l, l < nl → I (300 + 3 * l) 2 = nI (rm_ci a l) ∧ rm_ci a l < nc := cr_lci B0 RLt
  have LW : ∀ l, l < nl → I (300 + 3 * l) 3 = nI (rm_wr a l) ∧ rm_wr a l < nm := cr_lwi B0 RLt
  refine zv_aload_n dX7_slot_0 rfl rfl ?_
  refine zv_iload_n dX7_slot_1 rfl rfl ?_
  refine cc_callV (As := [.int (x)]) (st := []) (c := 6) dX7_slot_2 cvX7_75 (wW0_s40 W.1) rfl rfl rfl (by decide) (cc_c1 rfl cc_c0) (Nat.le_of_ble_eq_true rfl) (cC_isMember (d) W.1 n5 (by omega) x) (fun v s1 I1 J1 R1 q => ?_)
  obtain ⟨rfl, rfl, rfl, rfl, rfl⟩ := q
  show zv_V _ _ _ _ _ 5 [.ref 40, .int (x), .int (y)] [.int (rm_b (rm_lt x nm))] _ _ _ _ _
  refine zv_ifB_eq (tgt := 15) dX7_slot_5 (by decide) (fun h5 => ?_) (fun h5 => ?_)
  · refine zv_iconst (v := (-1 : Int32)) dX7_slot_15 (by decide) ?_
    refine zv_iret dX7_slot_16 rfl rfl ?_
    exact ⟨congrArg (fun z => some (Value.int z)) (by unfold q_slot; rw [h5]; rfl), rfl, rfl, rfl, rfl⟩
  · obtain ⟨r, hr, rfl⟩ := rm_lt_t h5 (by omega)
    refine zv_iload_n dX7_slot_8 rfl rfl ?_
    refine cc_callS (As := [.int (y)]) (st := []) dX7_slot_9 csX7_194 rfl (by decide) (cc_c1 rfl cc_c0) (Nat.le_of_ble_eq_true rfl) (cC_isSlot (d) y) (fun v s1 I1 J1 R1 q => ?_)
    obtain ⟨rfl, rfl, rfl, rfl, rfl⟩ := q
    show zv_V _ _ _ _ _ 12 [.ref 40, .int (nI (r)), .int (y)] [.int (rm_b (rm_lt y 40))] _ _ _ _ _
    refine zv_ifB_ne (tgt := 17) dX7_slot_12 (by decide) (fun h12 => ?_) (fun h12 => ?_)
    · obtain ⟨i, hi, rfl⟩ := rm_lt_t h12 (by omega)
      refine zv_aload_n dX7_slot_17 rfl rfl ?_
      refine zv_getr 6 0 (u := 41) dX7_slot_18 flX7_11 (wW0_s40 W.1) rfl (wW0_r0 W.1) ?_
      refine zv_iload_n dX7_slot_21 rfl rfl ?_
      refine zv_aald (j := r) (o := some (100 + 20 * r)) dX7_slot_22 (wW0_s41 W.1) (by decide) (by decide) (rfl) (show r < 8 from by omega) (by decide) ((W.2.1 r (by omega)).1) ?_
      show zv_V _ _ _ _ _ 23 [.ref 40, .int (nI (r)), .int (nI (i))] [.ref (100 + 20 * r)] _ _ _ _ _
      refine zv_getr 3 6 (u := 113 + 20 * r) dX7_slot_23 flX7_197 (wWM_s (W.2.1 r (by omega)).2) rfl (wWM_r6 (W.2.1 r (by omega)).2) ?_
      refine zv_iload_n dX7_slot_26 rfl rfl ?_
      have eq : q_slot a nm (nI r) (nI i) = q_sl a (a 27 (40 * r + i)) := by unfold q_slot; rw [h5, h12, rm_nv_n (n := r) (by omega), rm_nv_n (n := i) (by omega)]; rfl
      rcases cr_slc b7 (hsl r i hr hi) with e0 | ⟨l, hl, e0⟩ | ⟨l, hl, e0⟩
      · have e1 : q_slot a nm (nI r) (nI i) = _ := eq.trans ((q_sl_th a _).trans (by rw [show rm_thw (a 27 (40 * r + i)) = _ from e0]))
        refine zv_aald (j := i) (o := none) dX7_slot_27 (wWM_s6 (W.2.1 r (by omega)).2) (by decide) (by decide) (rfl) (show i < 40 from by omega) (by decide) (by rw [xM_t (RM r hr) i hi, e0]; rfl) ?_
        show zv_V _ _ _ _ _ 28 [.ref 40, .int (nI (r)), .int (nI (i))] [.null] _ _ _ _ _
        refine zv_astore_nN (lv' := [.ref 40, .int (nI (r)), .int (nI (i)), .null]) dX7_slot_28 rfl (by decide) rfl ?_
        refine zv_aload_nN dX7_slot_29 rfl rfl ?_
        refine zv_instN dX7_slot_30 ?_
        refine zv_if_eq (tgt := 50) dX7_slot_33 (by decide) (fun h33 => ?_) (fun h33 => (absurd rfl h33))
        refine zv_aload_nN dX7_slot_50 rfl rfl ?_
        refine zv_ifnonnullN dX7_slot_51 ?_
        refine zv_iconst (v := nI (0)) dX7_slot_54 (by decide) ?_
        refine zv_goto (tgt := 59) dX7_slot_55 (by decide) ?_
        refine zv_iret dX7_slot_59 rfl rfl ?_
        exact ⟨congrArg (fun z => some (Value.int z)) (by rw [e1]), rfl, rfl, rfl, rfl⟩
      · have e1 : q_slot a nm (nI r) (nI i) = _ := eq.trans ((q_sl_th a _).trans (by rw [show rm_thw (a 27 (40 * r + i)) = _ from e0]))
        refine zv_aald (j := i) (o := some (300 + 3 * l)) dX7_slot_27 (wWM_s6 (W.2.1 r (by omega)).2) (by decide) (by decide) (rfl) (show i < 40 from by omega) (by decide) (by rw [xM_t (RM r hr) i hi, e0]; rfl) ?_
        show zv_V _ _ _ _ _ 28 [.ref 40, .int (nI (r)), .int (nI (i))] [.ref (300 + 3 * l)] _ _ _ _ _
        refine zv_astore_n (lv' := [.ref 40, .int (nI (r)), .int (nI (i)), .ref (300 + 3 * l)]) dX7_slot_28 rfl (by decide) rfl ?_
        refine zv_aload_n dX7_slot_29 rfl rfl ?_
        refine zv_instY (c := 2) dX7_slot_30 (wWL_s (W.2.2.2 l hl).2) rfl clX7_21 ?_
        refine zv_if_eq (tgt := 50) dX7_slot_33 (by decide) (fun h33 => (absurd h33 (by decide))) (fun h33 => ?_)
        refine zv_aload_n dX7_slot_36 rfl rfl ?_
        refine zv_cast (c := 2) dX7_slot_37 (wWL_s (W.2.2.2 l hl).2) rfl clX7_21 ?_
        refine zv_astore (lv' := [.ref 40, .int (nI (r)), .int (nI (i)), .ref (300 + 3 * l), .ref (300 + 3 * l)]) dX7_slot_40 (by decide) rfl ?_
        refine zv_iconst (v := nI (2)) dX7_slot_42 (by decide) ?_
        refine zv_aload dX7_slot_43 rfl ?_
        refine zv_geti 2 1 (x := (a 10 l)) dX7_slot_45 flX7_102 (wWL_s (W.2.2.2 l hl).2) rfl (xL_k (RLt l (by omega))) ?_
        refine zv_iadd dX7_slot_48 ?_
        refine zv_iret dX7_slot_49 rfl rfl ?_
        exact ⟨congrArg (fun z => some (Value.int z)) (by rw [e1]), rfl, rfl, rfl, rfl⟩
      · have e1 : q_slot a nm (nI r) (nI i) = _ := eq.trans ((q_sl_th a _).trans (by rw [show rm_thw (a 27 (40 * r + i)) = _ from e0]))
        refine zv_aald (j := i) (o := some (1000 + 8 * cc_ck R l)) dX7_slot_27 (wWM_s6 (W.2.1 r (by omega)).2) (by decide) (by decide) (rfl) (show i < 40 from by omega) (by decide) (by rw [xM_t (RM r hr) i hi, e0]; rfl) ?_
        show zv_V _ _ _ _ _ 28 [.ref 40, .int (nI (r)), .int (nI (i))] [.ref (1000 + 8 * cc_ck R l)] _ _ _ _ _
        refine zv_astore_n (lv' := [.ref 40, .int (nI (r)), .int (nI (i)), .ref (1000 + 8 * cc_ck R l)]) dX7_slot_28 rfl (by decide) rfl ?_
        refine zv_aload_n dX7_slot_29 rfl rfl ?_
        refine zv_instNo (c := 1) dX7_slot_30 (wWK_s (LF l hl).2.2.2.2.2.2) rfl (List.mem_cons_self) clX7_21 ?_
        refine zv_if_eq (tgt := 50) dX7_slot_33 (by decide) (fun h33 => ?_) (fun h33 => (absurd rfl h33))
        refine zv_aload_n dX7_slot_50 rfl rfl ?_
        refine zv_ifnonnull (tgt := 58) dX7_slot_51 (by decide) ?_
        refine zv_iconst (v := nI (1)) dX7_slot_58 (by decide) ?_
        refine zv_iret dX7_slot_59 rfl rfl ?_
        exact ⟨congrArg (fun z => some (Value.int z)) (by rw [e1]), rfl, rfl, rfl, rfl⟩
    · refine zv_iconst (v := (-1 : Int32)) dX7_slot_15 (by decide) ?_
      refine zv_iret dX7_slot_16 rfl rfl ?_
      exact ⟨congrArg (fun z => some (Value.int z)) (by unfold q_slot; rw [h5, h12]; rfl), rfl, rfl, rfl, rfl⟩
theorem cC_forgeSerial_0 (d : Nat) {E : zv_E} {sh : zv_S} {I : zv_I} {J : zv_J} {R : zv_R} {a : zv_I} {nm nc nl : Nat} (RL : cr_R sh I J R a nm nc nl)  {n : Int32} (hn : rm_hun n = true) : zv_V E mX7_forgeSerial (d + 2) 0 0 0 [.ref 40, .null, .int n] [] sh I J R (cc_p (p_fL a n (none)).1 sh (zv_u I 40 9 (p_fL a n (none)).2) J R) := by
  obtain ⟨B, RT, RC, RLt, RM⟩ := RL
  have B0 := B
  obtain ⟨W, n5, b5, n6, b6, n7, b7, LF⟩ := B
  have LC : ∀ l, l < nl → I (300 + 3 * l) 2 = nI (rm_ci a l) ∧ rm_ci a l < nc := cr_lci B0 RLt
  have LW : ∀ l, l < nl → I (300 + 3 * l) 3 = nI (rm_wr a l) ∧ rm_wr a l < nm := cr_lwi B0 RLt
  refine zv_aload_nN dX7_forgeSerial_0 rfl rfl ?_
  refine zv_ifnonnullN dX7_forgeSerial_1 ?_
  refine zv_aload_n dX7_forgeSerial_4 rfl rfl ?_
  refine zv_bipush (v := nI (10)) dX7_forgeSerial_5 (by decide) ?_
  refine cc_callV (As := [.int (nI (10))]) (st := []) (c := 6) dX7_forgeSerial_7 cvX7_45 (wW0_s40 W.1) rfl rfl rfl (by decide) (cc_c1 rfl cc_c0) (Nat.le_of_ble_eq_true rfl) (cC_refuse (d + 1) W.1 (nI (10))) (fun v s1 I1 J1 R1 q => ?_)
  obtain ⟨rfl, rfl, rfl, rfl, rfl⟩ := q
  show zv_V _ _ _ _ _ 10 [.ref 40, .null, .int (n)] [.int ((-1 : Int32))] _ _ _ _ _
  refine zv_iret dX7_forgeSerial_10 rfl rfl ?_
  exact ⟨rfl, rfl, rfl, rfl, rfl⟩
theorem cC_forgeStore_0 (d : Nat) {E : zv_E} {sh : zv_S} {I : zv_I} {J : zv_J} {R : zv_R} {a : zv_I} {nm nc nl : Nat} (RL : cr_R sh I J R a nm nc nl)  : zv_V E mX7_forgeStore (d + 2) 0 0 0 [.ref 40, .null] [] sh I J R (cc_p (p_fS a (none)).1 sh (zv_u I 40 9 (p_fS a (none)).2) J R) := by
  obtain ⟨B, RT, RC, RLt, RM⟩ := RL
  have B0 := B
  obtain ⟨W, n5, b5, n6, b6, n7, b7, LF⟩ := B
  have LC : ∀ l, l < nl → I (300 + 3 * l) 2 = nI (rm_ci a l) ∧ rm_ci a l < nc := cr_lci B0 RLt
  have LW : ∀ l, l < nl → I (300 + 3 * l) 3 = nI (rm_wr a l) ∧ rm_wr a l < nm := cr_lwi B0 RLt
  refine zv_aload_nN dX7_forgeStore_0 rfl rfl ?_
  refine zv_ifnonnullN dX7_forgeStore_1 ?_
  refine zv_aload_n dX7_forgeStore_4 rfl rfl ?_
  refine zv_iconst (v := nI (0)) dX7_forgeStore_5 (by decide) ?_
  refine cc_callV (As := [.int (nI (0))]) (st := []) (c := 6) dX7_forgeStore_6 cvX7_50 (wW0_s40 W.1) rfl rfl rfl (by decide) (cc_c1 rfl cc_c0) (Nat.le_of_ble_eq_true rfl) (cC_done (d + 1) W.1 (nI (0))) (fun v s1 I1 J1 R1 q => ?_)
  obtain ⟨rfl, rfl, rfl, rfl, rfl⟩ := q
  show zv_V _ _ _ _ _ 9 [.ref 40, .null] [.int (nI (0))] _ _ _ _ _
  refine zv_iret dX7_forgeStore_9 rfl rfl ?_
  exact ⟨rfl, rfl, rfl, rfl, rfl⟩
theorem cC_forgeCount_0 (d : Nat) {E : zv_E} {sh : zv_S} {I : zv_I} {J : zv_J} {R : zv_R} {a : zv_I} {nm nc nl : Nat} (RL : cr_R sh I J R a nm nc nl)  {n : Int32} (hn : rm_hun n = true) : zv_V E mX7_forgeCount (d + 2) 0 0 0 [.ref 40, .null, .int n] [] sh I J R (cc_p (p_fK a n 1 (none)).1 sh (zv_u I 40 9 (p_fK a n 1 (none)).2) J R) := by
  obtain ⟨B, RT, RC, RLt, RM⟩ := RL
  have B0 := B
  obtain ⟨W, n5, b5, n6, b6, n7, b7, LF⟩ := B
  have LC : ∀ l, l < nl → I (300 + 3 * l) 2 = nI (rm_ci a l) ∧ rm_ci a l < nc := cr_lci B0 RLt
  have LW : ∀ l, l < nl → I (300 + 3 * l) 3 = nI (rm_wr a l) ∧ rm_wr a l < nm := cr_lwi B0 RLt
  refine zv_aload_nN dX7_forgeCount_0 rfl rfl ?_
  refine cc_callS (As := [.null]) (st := []) dX7_forgeCount_1 csX7_337 rfl (by decide) (cc_c1 rfl cc_c0) (Nat.le_of_ble_eq_true rfl) (cC_firstRowOf_0 d) (fun v s1 I1 J1 R1 q => ?_)
  obtain ⟨rfl, rfl, rfl, rfl, rfl⟩ := q
  show zv_V _ _ _ _ _ 4 [.ref 40, .null, .int (n)] [.null] _ _ _ _ _
  refine zv_astore_nN (lv' := [.ref 40, .null, .int (n), .null]) dX7_forgeCount_4 rfl (by decide) rfl ?_
  refine zv_aload_nN dX7_forgeCount_5 rfl rfl ?_
  refine zv_ifnonnullN dX7_forgeCount_6 ?_
  refine zv_aload_n dX7_forgeCount_9 rfl rfl ?_
  refine zv_aload_nN dX7_forgeCount_10 rfl rfl ?_
  refine cc_callV (As := [.null]) (st := []) (c := 6) dX7_forgeCount_11 cvX7_341 (wW0_s40 W.1) rfl rfl rfl (by decide) (cc_c1 rfl cc_c0) (Nat.le_of_ble_eq_true rfl) (cC_refuseAsClock_0 d W.1) (fun v s1 I1 J1 R1 q => ?_)
  obtain ⟨rfl, rfl, rfl, rfl, rfl⟩ := q
  show zv_V _ _ _ _ _ 14 [.ref 40, .null, .int (n), .null] [.int ((-1 : Int32))] _ _ _ _ _
  refine zv_iret dX7_forgeCount_14 rfl rfl ?_
  exact ⟨rfl, rfl, rfl, rfl, rfl⟩
theorem cC_forgeRowSum_0 (d : Nat) {E : zv_E} {sh : zv_S} {I : zv_I} {J : zv_J} {R : zv_R} {a : zv_I} {nm nc nl : Nat} (RL : cr_R sh I J R a nm nc nl)  {n : Int32} (hn : rm_hun n = true) : zv_V E mX7_forgeRowSum (d + 2) 0 0 0 [.ref 40, .null, .int n] [] sh I J R (cc_p (p_fK a n 2 (none)).1 sh (zv_u I 40 9 (p_fK a n 2 (none)).2) J R) := by
  obtain ⟨B, RT, RC, RLt, RM⟩ := RL
  have B0 := B
  obtain ⟨W, n5, b5, n6, b6, n7, b7, LF⟩ := B
  have LC : ∀ l, l < nl → I (300 + 3 * l) 2 = nI (rm_ci a l) ∧ rm_ci a l < nc := cr_lci B0 RLt
  have LW : ∀ l, l < nl → I (300 + 3 * l) 3 = nI (rm_wr a l) ∧ rm_wr a l < nm := cr_lwi B0 RLt
  refine zv_aload_nN dX7_forgeRowSum_0 rfl rfl ?_
  refine zv_instN dX7_forgeRowSum_1 ?_
  refine zv_if_eq (tgt := 64) dX7_forgeRowSum_4 (by decide) (fun h4 => ?_) (fun h4 => (absurd rfl h4))
  refine zv_aload_n dX7_forgeRowSum_64 rfl rfl ?_
  refine zv_aload_nN dX7_forgeRowSum_65 rfl rfl ?_
  refine cc_callV (As := [.null]) (st := []) (c := 6) dX7_forgeRowSum_66 cvX7_341 (wW0_s40 W.1) rfl rfl rfl (by decide) (cc_c1 rfl cc_c0) (Nat.le_of_ble_eq_true rfl) (cC_refuseAsClock_0 d W.1) (fun v s1 I1 J1 R1 q => ?_)
  obtain ⟨rfl, rfl, rfl, rfl, rfl⟩ := q
  show zv_V _ _ _ _ _ 69 [.ref 40, .null, .int (n)] [.int ((-1 : Int32))] _ _ _ _ _
  refine zv_iret dX7_forgeRowSum_69 rfl rfl ?_
  exact ⟨rfl, rfl, rfl, rfl, rfl⟩
theorem cC_forgeCopy_0 (d : Nat) {E : zv_E} {sh : zv_S} {I : zv_I} {J : zv_J} {R : zv_R} {a : zv_I} {nm nc nl : Nat} (RL : cr_R sh I J R a nm nc nl)  {n : Int32} (hn : rm_hun n = true) : zv_V E mX7_forgeCopy (d + 2) 0 0 0 [.ref 40, .null, .int n] [] sh I J R (cc_p (p_fK a n 4 (none)).1 sh (zv_u I 40 9 (p_fK a n 4 (none)).2) J R) := by
  obtain ⟨B, RT, RC, RLt, RM⟩ := RL
  have B0 := B
  obtain ⟨W, n5, b5, n6, b6, n7, b7, LF⟩ := B
  have LC : ∀ l, l < nl → I (300 + 3 * l) 2 = nI (rm_ci a l) ∧ rm_ci a l < nc := cr_lci B0 RLt
  have LW : ∀ l, l < nl → I (300 + 3 * l) 3 = nI (rm_wr a l) ∧ rm_wr a l < nm := cr_lwi B0 RLt
  refine zv_aload_nN dX7_forgeCopy_0 rfl rfl ?_
  refine cc_callS (As := [.null]) (st := []) dX7_forgeCopy_1 csX7_337 rfl (by decide) (cc_c1 rfl cc_c0) (Nat.le_of_ble_eq_true rfl) (cC_firstRowOf_0 d) (fun v s1 I1 J1 R1 q => ?_)
  obtain ⟨rfl, rfl, rfl, rfl, rfl⟩ := q
  show zv_V _ _ _ _ _ 4 [.ref 40, .null, .int (n)] [.null] _ _ _ _ _
  refine zv_astore_nN (lv' := [.ref 40, .null, .int (n), .null]) dX7_forgeCopy_4 rfl (by decide) rfl ?_
  refine zv_aload_nN dX7_forgeCopy_5 rfl rfl ?_
  refine zv_ifnonnullN dX7_forgeCopy_6 ?_
  refine zv_aload_n dX7_forgeCopy_9 rfl rfl ?_
  refine zv_aload_nN dX7_forgeCopy_10 rfl rfl ?_
  refine cc_callV (As := [.null]) (st := []) (c := 6) dX7_forgeCopy_11 cvX7_341 (wW0_s40 W.1) rfl rfl rfl (by decide) (cc_c1 rfl cc_c0) (Nat.le_of_ble_eq_true rfl) (cC_refuseAsClock_0 d W.1) (fun v s1 I1 J1 R1 q => ?_)
  obtain ⟨rfl, rfl, rfl, rfl, rfl⟩ := q
  show zv_V _ _ _ _ _ 14 [.ref 40, .null, .int (n), .null] [.int ((-1 : Int32))] _ _ _ _ _
  refine zv_iret dX7_forgeCopy_14 rfl rfl ?_
  exact ⟨rfl, rfl, rfl, rfl, rfl⟩
theorem cC_forgeSerial_l (d : Nat) {E : zv_E} {sh : zv_S} {I : zv_I} {J : zv_J} {R : zv_R} {a : zv_I} {nm nc nl : Nat} (RL : cr_R sh I J R a nm nc nl) {l : Nat} (hl : l < nl) (hk : a 10 l = nI (rm_kd2 a l) ∧ rm_kd2 a l < 6) {n : Int32} (hn : rm_hun n = true) : zv_V E mX7_forgeSerial (d + 2) 0 0 0 [.ref 40, .ref (300 + 3 * l), .int n] [] sh I J R (cc_p (p_fL a n (some (true, l))).1 sh (zv_u I 40 9 (p_fL a n (some (true, l))).2) J R) := by
  obtain ⟨B, RT, RC, RLt, RM⟩ := RL
  have B0 := B
  obtain ⟨W, n5, b5, n6, b6, n7, b7, LF⟩ := B
  have LC : ∀ l, l < nl → I (300 + 3 * l) 2 = nI (rm_ci a l) ∧ rm_ci a l < nc := cr_lci B0 RLt
  have LW : ∀ l, l < nl → I (300 + 3 * l) 3 = nI (rm_wr a l) ∧ rm_wr a l < nm := cr_lwi B0 RLt
  refine zv_aload_n dX7_forgeSerial_0 rfl rfl ?_
  refine zv_ifnonnull (tgt := 11) dX7_forgeSerial_1 (by decide) ?_
  refine zv_aload_n dX7_forgeSerial_11 rfl rfl ?_
  refine zv_instY (c := 2) dX7_forgeSerial_12 (wWL_s (W.2.2.2 l hl).2) rfl clX7_21 ?_
  refine zv_if_eq (tgt := 48) dX7_forgeSerial_15 (by decide) (fun h15 => (absurd h15 (by decide))) (fun h15 => ?_)
  refine zv_aload_n dX7_forgeSerial_18 rfl rfl ?_
  refine zv_cast (c := 2) dX7_forgeSerial_19 (wWL_s (W.2.2.2 l hl).2) rfl clX7_21 ?_
  refine zv_astore_n (lv' := [.ref 40, .ref (300 + 3 * l), .int (n), .ref (300 + 3 * l)]) dX7_forgeSerial_22 rfl (by decide) rfl ?_
  refine zv_aload_n dX7_forgeSerial_23 rfl rfl ?_
  refine zv_geti 2 1 (x := nI (rm_kd2 a l)) dX7_forgeSerial_24 flX7_102 (wWL_s (W.2.2.2 l hl).2) rfl ((xL_k (RLt l hl)).trans hk.1) ?_
  refine zv_iload_n dX7_forgeSerial_27 rfl rfl ?_
  refine zv_bipush (v := nI (6)) dX7_forgeSerial_28 (by decide) ?_
  refine cc_callS (As := [.int (n), .int (nI (6))]) (st := [.int (nI (rm_kd2 a l))]) dX7_forgeSerial_30 csX7_329 rfl (by decide) (cc_c1 rfl (cc_c1 rfl cc_c0)) (Nat.le_of_ble_eq_true rfl) (cC_floorMod (d + 1) hn) (fun v s1 I1 J1 R1 q => ?_)
  obtain ⟨rfl, rfl, rfl, rfl, rfl⟩ := q
  show zv_V _ _ _ _ _ 33 [.ref 40, .ref (300 + 3 * l), .int (n), .ref (300 + 3 * l)] [.int (nI (rm_m6 n)), .int (nI (rm_kd2 a l))] _ _ _ _ _
  refine cc_callS (As := [.int (nI (rm_kd2 a l)), .int (nI (rm_m6 n))]) (st := []) dX7_forgeSerial_33 csX7_334 rfl (by decide) (cc_c1 rfl (cc_c1 rfl cc_c0)) (Nat.le_of_ble_eq_true rfl) (cC_isKindOrUnder (d + 1) (k := rm_kd2 a l) (o := rm_m6 n) hk.2 (rm_m6_n hn).2) (fun v s1 I1 J1 R1 q => ?_)
  obtain ⟨rfl, rfl, rfl, rfl, rfl⟩ := q
  show zv_V _ _ _ _ _ 36 [.ref 40, .ref (300 + 3 * l), .int (n), .ref (300 + 3 * l)] [.int (rm_b (rm_of 5 (rm_kd2 a l) (rm_m6 n)))] _ _ _ _ _
  refine zv_ifB_eq (tgt := 48) dX7_forgeSerial_36 (by decide) (fun h36 => ?_) (fun h36 => ?_)
  · refine zv_aload_n dX7_forgeSerial_48 rfl rfl ?_
    refine zv_bipush (v := nI (11)) dX7_forgeSerial_49 (by decide) ?_
    refine cc_callV (As := [.int (nI (11))]) (st := []) (c := 6) dX7_forgeSerial_51 cvX7_45 (wW0_s40 W.1) rfl rfl rfl (by decide) (cc_c1 rfl cc_c0) (Nat.le_of_ble_eq_true rfl) (cC_refuse (d + 1) W.1 (nI (11))) (fun v s1 I1 J1 R1 q => ?_)
    obtain ⟨rfl, rfl, rfl, rfl, rfl⟩ := q
    show zv_V _ _ _ _ _ 54 [.ref 40, .ref (300 + 3 * l), .int (n), .ref (300 + 3 * l)] [.int ((-1 : Int32))] _ _ _ _ _
    refine zv_iret dX7_forgeSerial_54 rfl rfl ?_
    rw [show p_fL a n (some (true, l)) = p_no 11 from if_neg (by rw [h36]; decide)]
    exact ⟨rfl, rfl, rfl, rfl, rfl⟩
  · refine zv_aload_n dX7_forgeSerial_39 rfl rfl ?_
    refine zv_aload_n dX7_forgeSerial_40 rfl rfl ?_
    refine zv_geti 2 4 (x := (a 13 l)) dX7_forgeSerial_41 flX7_111 (wWL_s (W.2.2.2 l hl).2) rfl (xL_s (RLt l (by omega))) ?_
    refine cc_callV (As := [.int ((a 13 l))]) (st := []) (c := 6) dX7_forgeSerial_44 cvX7_50 (wW0_s40 W.1) rfl rfl rfl (by decide) (cc_c1 rfl cc_c0) (Nat.le_of_ble_eq_true rfl) (cC_done (d + 1) W.1 ((a 13 l))) (fun v s1 I1 J1 R1 q => ?_)
    obtain ⟨rfl, rfl, rfl, rfl, rfl⟩ := q
    show zv_V _ _ _ _ _ 47 [.ref 40, .ref (300 + 3 * l), .int (n), .ref (300 + 3 * l)] [.int ((a 13 l))] _ _ _ _ _
    refine zv_iret dX7_forgeSerial_47 rfl rfl ?_
    rw [show p_fL a n (some (true, l)) = p_ok (a 13 l) from if_pos h36]
    exact ⟨rfl, rfl, rfl, rfl, rfl⟩
theorem cC_forgeStore_l (d : Nat) {E : zv_E} {sh : zv_S} {I : zv_I} {J : zv_J} {R : zv_R} {a : zv_I} {nm nc nl : Nat} (RL : cr_R sh I J R a nm nc nl) {l : Nat} (hl : l < nl) (hk : a 10 l = nI (rm_kd2 a l) ∧ rm_kd2 a l < 6) : zv_V E mX7_forgeStore (d + 2) 0 0 0 [.ref 40, .ref (300 + 3 * l)] [] sh I J R (cc_p (p_fS a (some (true, l))).1 sh (zv_u I 40 9 (p_fS a (some (true, l))).2) J R) := by
  obtain ⟨B, RT, RC, RLt, RM⟩ := RL
  have B0 := B
  obtain ⟨W, n5, b5, n6, b6, n7, b7, LF⟩ := B
  have LC : ∀ l, l < nl → I (300 + 3 * l) 2 = nI (rm_ci a l) ∧ rm_ci a l < nc := cr_lci B0 RLt
  have LW : ∀ l, l < nl → I (300 + 3 * l) 3 = nI (rm_wr a l) ∧ rm_wr a l < nm := cr_lwi B0 RLt
  refine zv_aload_n dX7_forgeStore_0 rfl rfl ?_
  refine zv_ifnonnull (tgt := 10) dX7_forgeStore_1 (by decide) ?_
  refine zv_aload_n dX7_forgeStore_10 rfl rfl ?_
  refine zv_instY (c := 2) dX7_forgeStore_11 (wWL_s (W.2.2.2 l hl).2) rfl clX7_21 ?_
  refine zv_if_eq (tgt := 48) dX7_forgeStore_14 (by decide) (fun h14 => (absurd h14 (by decide))) (fun h14 => ?_)
  refine zv_aload_n dX7_forgeStore_17 rfl rfl ?_
  refine zv_cast (c := 2) dX7_forgeStore_18 (wWL_s (W.2.2.2 l hl).2) rfl clX7_21 ?_
  refine zv_astore_n (lv' := [.ref 40, .ref (300 + 3 * l), .ref (300 + 3 * l)]) dX7_forgeStore_21 rfl (by decide) rfl ?_
  refine zv_aload_n dX7_forgeStore_22 rfl rfl ?_
  refine zv_geti 2 1 (x := nI (rm_kd2 a l)) dX7_forgeStore_23 flX7_102 (wWL_s (W.2.2.2 l hl).2) rfl ((xL_k (RLt l hl)).trans hk.1) ?_
  refine zv_iconst (v := nI (1)) dX7_forgeStore_26 (by decide) ?_
  refine cc_callS (As := [.int (nI (rm_kd2 a l)), .int (nI (1))]) (st := []) dX7_forgeStore_27 csX7_334 rfl (by decide) (cc_c1 rfl (cc_c1 rfl cc_c0)) (Nat.le_of_ble_eq_true rfl) (cC_isKindOrUnder (d + 1) (k := rm_kd2 a l) (o := 1) hk.2 (by decide)) (fun v s1 I1 J1 R1 q => ?_)
  obtain ⟨rfl, rfl, rfl, rfl, rfl⟩ := q
  show zv_V _ _ _ _ _ 30 [.ref 40, .ref (300 + 3 * l), .ref (300 + 3 * l)] [.int (rm_b (rm_of 5 (rm_kd2 a l) 1))] _ _ _ _ _
  refine zv_ifB_eq (tgt := 41) dX7_forgeStore_30 (by decide) (fun h30 => ?_) (fun h30 => ?_)
  · refine zv_aload_n dX7_forgeStore_41 rfl rfl ?_
    refine zv_bipush (v := nI (14)) dX7_forgeStore_42 (by decide) ?_
    refine cc_callV (As := [.int (nI (14))]) (st := []) (c := 6) dX7_forgeStore_44 cvX7_45 (wW0_s40 W.1) rfl rfl rfl (by decide) (cc_c1 rfl cc_c0) (Nat.le_of_ble_eq_true rfl) (cC_refuse (d + 1) W.1 (nI (14))) (fun v s1 I1 J1 R1 q => ?_)
    obtain ⟨rfl, rfl, rfl, rfl, rfl⟩ := q
    show zv_V _ _ _ _ _ 47 [.ref 40, .ref (300 + 3 * l), .ref (300 + 3 * l)] [.int ((-1 : Int32))] _ _ _ _ _
    refine zv_iret dX7_forgeStore_47 rfl rfl ?_
    rw [show p_fS a (some (true, l)) = p_no 14 from if_neg (by rw [h30]; decide)]
    exact ⟨rfl, rfl, rfl, rfl, rfl⟩
  · refine zv_aload_n dX7_forgeStore_33 rfl rfl ?_
    refine zv_iconst (v := nI (1)) dX7_forgeStore_34 (by decide) ?_
    refine cc_callV (As := [.int (nI (1))]) (st := []) (c := 6) dX7_forgeStore_35 cvX7_50 (wW0_s40 W.1) rfl rfl rfl (by decide) (cc_c1 rfl cc_c0) (Nat.le_of_ble_eq_true rfl) (cC_done (d + 1) W.1 (nI (1))) (fun v s1 I1 J1 R1 q => ?_)
    obtain ⟨rfl, rfl, rfl, rfl, rfl⟩ := q
    show zv_V _ _ _ _ _ 38 [.ref 40, .ref (300 + 3 * l), .ref (300 + 3 * l)] [.int (nI (1))] _ _ _ _ _
    refine zv_goto (tgt := 47) dX7_forgeStore_38 (by decide) ?_
    refine zv_iret dX7_forgeStore_47 rfl rfl ?_
    rw [show p_fS a (some (true, l)) = p_ok (nI 1) from if_pos h30]
    exact ⟨rfl, rfl, rfl, rfl, rfl⟩
theorem cC_forgeCount_l (d : Nat) {E : zv_E} {sh : zv_S} {I : zv_I} {J : zv_J} {R : zv_R} {a : zv_I} {nm nc nl : Nat} (RL : cr_R sh I J R a nm nc nl) {l : Nat} (hl : l < nl) (hk : a 10 l = nI (rm_kd2 a l) ∧ rm_kd2 a l < 6) {n : Int32} (hn : rm_hun n = true) : zv_V E mX7_forgeCount (d + 2) 0 0 0 [.ref 40, .ref (300 + 3 * l), .int n] [] sh I J R (cc_p (p_fK a n 1 (some (true, l))).1 sh (zv_u I 40 9 (p_fK a n 1 (some (true, l))).2) J R) := by
  obtain ⟨B, RT, RC, RLt, RM⟩ := RL
  have B0 := B
  obtain ⟨W, n5, b5, n6, b6, n7, b7, LF⟩ := B
  have LC : ∀ l, l < nl → I (300 + 3 * l) 2 = nI (rm_ci a l) ∧ rm_ci a l < nc := cr_lci B0 RLt
  have LW : ∀ l, l < nl → I (300 + 3 * l) 3 = nI (rm_wr a l) ∧ rm_wr a l < nm := cr_lwi B0 RLt
  refine zv_aload_n dX7_forgeCount_0 rfl rfl ?_
  refine cc_callS (As := [.ref (300 + 3 * l)]) (st := []) dX7_forgeCount_1 csX7_337 rfl (by decide) (cc_c1 rfl cc_c0) (Nat.le_of_ble_eq_true rfl) (cC_firstRowOf_l d (W.2.2.2 l hl).2) (fun v s1 I1 J1 R1 q => ?_)
  obtain ⟨rfl, rfl, rfl, rfl, rfl⟩ := q
  show zv_V _ _ _ _ _ 4 [.ref 40, .ref (300 + 3 * l), .int (n)] [.null] _ _ _ _ _
  refine zv_astore_nN (lv' := [.ref 40, .ref (300 + 3 * l), .int (n), .null]) dX7_forgeCount_4 rfl (by decide) rfl ?_
  refine zv_aload_nN dX7_forgeCount_5 rfl rfl ?_
  refine zv_ifnonnullN dX7_forgeCount_6 ?_
  refine zv_aload_n dX7_forgeCount_9 rfl rfl ?_
  refine zv_aload_n dX7_forgeCount_10 rfl rfl ?_
  refine cc_callV (As := [.ref (300 + 3 * l)]) (st := []) (c := 6) dX7_forgeCount_11 cvX7_341 (wW0_s40 W.1) rfl rfl rfl (by decide) (cc_c1 rfl cc_c0) (Nat.le_of_ble_eq_true rfl) (cC_refuseAsClock_l d W.1 (W.2.2.2 l hl).2) (fun v s1 I1 J1 R1 q => ?_)
  obtain ⟨rfl, rfl, rfl, rfl, rfl⟩ := q
  show zv_V _ _ _ _ _ 14 [.ref 40, .ref (300 + 3 * l), .int (n), .null] [.int ((-1 : Int32))] _ _ _ _ _
  refine zv_iret dX7_forgeCount_14 rfl rfl ?_
  exact ⟨rfl, rfl, rfl, rfl, rfl⟩
theorem cC_forgeRowSum_l (d : Nat) {E : zv_E} {sh : zv_S} {I : zv_I} {J : zv_J} {R : zv_R} {a : zv_I} {nm nc nl : Nat} (RL : cr_R sh I J R a nm nc nl) {l : Nat} (hl : l < nl) (hk : a 10 l = nI (rm_kd2 a l) ∧ rm_kd2 a l < 6) {n : Int32} (hn : rm_hun n = true) : zv_V E mX7_forgeRowSum (d + 2) 0 0 0 [.ref 40, .ref (300 + 3 * l), .int n] [] sh I J R (cc_p (p_fK a n 2 (some (true, l))).1 sh (zv_u I 40 9 (p_fK a n 2 (some (true, l))).2) J R) := by
  obtain ⟨B, RT, RC, RLt, RM⟩ := RL
  have B0 := B
  obtain ⟨W, n5, b5, n6, b6, n7, b7, LF⟩ := B
  have LC : ∀ l, l < nl → I (300 + 3 * l) 2 = nI (rm_ci a l) ∧ rm_ci a l < nc := cr_lci B0 RLt
  have LW : ∀ l, l < nl → I (300 + 3 * l) 3 = nI (rm_wr a l) ∧ rm_wr a l < nm := cr_lwi B0 RLt
  refine zv_aload_n dX7_forgeRowSum_0 rfl rfl ?_
  refine zv_instNo (c := 2) dX7_forgeRowSum_1 (wWL_s (W.2.2.2 l hl).2) rfl (List.mem_cons_of_mem _ List.mem_cons_self) clX7_125 ?_
  refine zv_if_eq (tgt := 64) dX7_forgeRowSum_4 (by decide) (fun h4 => ?_) (fun h4 => (absurd rfl h4))
  refine zv_aload_n dX7_forgeRowSum_64 rfl rfl ?_
  refine zv_aload_n dX7_forgeRowSum_65 rfl rfl ?_
  refine cc_callV (As := [.ref (300 + 3 * l)]) (st := []) (c := 6) dX7_forgeRowSum_66 cvX7_341 (wW0_s40 W.1) rfl rfl rfl (by decide) (cc_c1 rfl cc_c0) (Nat.le_of_ble_eq_true rfl) (cC_refuseAsClock_l d W.1 (W.2.2.2 l hl).2) (fun v s1 I1 J1 R1 q => ?_)
  obtain ⟨rfl, rfl, rfl, rfl, rfl⟩ := q
  show zv_V _ _ _ _ _ 69 [.ref 40, .ref (300 + 3 * l), .int (n)] [.int ((-1 : Int32))] _ _ _ _ _
  refine zv_iret dX7_forgeRowSum_69 rfl rfl ?_
  exact ⟨rfl, rfl, rfl, rfl, rfl⟩
theorem cC_forgeCopy_l (d : Nat) {E : zv_E} {sh : zv_S} {I : zv_I} {J : zv_J} {R : zv_R} {a : zv_I} {nm nc nl : Nat} (RL : cr_R sh I J R a nm nc nl) {l : Nat} (hl : l < nl) (hk : a 10 l = nI (rm_kd2 a l) ∧ rm_kd2 a l < 6) {n : Int32} (hn : rm_hun n = true) : zv_V E mX7_forgeCopy (d + 2) 0 0 0 [.ref 40, .ref (300 + 3 * l), .int n] [] sh I J R (cc_p (p_fK a n 4 (some (true, l))).1 sh (zv_u I 40 9 (p_fK a n 4 (some (true, l))).2) J R) := by
  obtain ⟨B, RT, RC, RLt, RM⟩ := RL
  have B0 := B
  obtain ⟨W, n5, b5, n6, b6, n7, b7, LF⟩ := B
  have LC : ∀ l, l < nl → I (300 + 3 * l) 2 = nI (rm_ci a l) ∧ rm_ci a l < nc := cr_lci B0 RLt
  have LW : ∀ l, l < nl → I (300 + 3 * l) 3 = nI (rm_wr a l) ∧ rm_wr a l < nm := cr_lwi B0 RLt
  refine zv_aload_n dX7_forgeCopy_0 rfl rfl ?_
  refine cc_callS (As := [.ref (300 + 3 * l)]) (st := []) dX7_forgeCopy_1 csX7_337 rfl (by decide) (cc_c1 rfl cc_c0) (Nat.le_of_ble_eq_true rfl) (cC_firstRowOf_l d (W.2.2.2 l hl).2) (fun v s1 I1 J1 R1 q => ?_)
  obtain ⟨rfl, rfl, rfl, rfl, rfl⟩ := q
  show zv_V _ _ _ _ _ 4 [.ref 40, .ref (300 + 3 * l), .int (n)] [.null] _ _ _ _ _
  refine zv_astore_nN (lv' := [.ref 40, .ref (300 + 3 * l), .int (n), .null]) dX7_forgeCopy_4 rfl (by decide) rfl ?_
  refine zv_aload_nN dX7_forgeCopy_5 rfl rfl ?_
  refine zv_ifnonnullN dX7_forgeCopy_6 ?_
  refine zv_aload_n dX7_forgeCopy_9 rfl rfl ?_
  refine zv_aload_n dX7_forgeCopy_10 rfl rfl ?_
  refine cc_callV (As := [.ref (300 + 3 * l)]) (st := []) (c := 6) dX7_forgeCopy_11 cvX7_341 (wW0_s40 W.1) rfl rfl rfl (by decide) (cc_c1 rfl cc_c0) (Nat.le_of_ble_eq_true rfl) (cC_refuseAsClock_l d W.1 (W.2.2.2 l hl).2) (fun v s1 I1 J1 R1 q => ?_)
  obtain ⟨rfl, rfl, rfl, rfl, rfl⟩ := q
  show zv_V _ _ _ _ _ 14 [.ref 40, .ref (300 + 3 * l), .int (n), .null] [.int ((-1 : Int32))] _ _ _ _ _
  refine zv_iret dX7_forgeCopy_14 rfl rfl ?_
  exact ⟨rfl, rfl, rfl, rfl, rfl⟩
theorem cC_forgeSerial_c (d : Nat) {E : zv_E} {sh : zv_S} {I : zv_I} {J : zv_J} {R : zv_R} {a : zv_I} {nm nc nl : Nat} (RL : cr_R sh I J R a nm nc nl) {l : Nat} (hl : l < nl) (hr : rm_hr a l) {n : Int32} (hn : rm_hun n = true) : zv_V E mX7_forgeSerial (d + 2) 0 0 0 [.ref 40, .ref (1000 + 8 * cc_ck R l), .int n] [] sh I J R (cc_p (p_fL a n (some (false, l))).1 sh (zv_u I 40 9 (p_fL a n (some (false, l))).2) J R) := by
  obtain ⟨B, RT, RC, RLt, RM⟩ := RL
  have B0 := B
  obtain ⟨W, n5, b5, n6, b6, n7, b7, LF⟩ := B
  have LC : ∀ l, l < nl → I (300 + 3 * l) 2 = nI (rm_ci a l) ∧ rm_ci a l < nc := cr_lci B0 RLt
  have LW : ∀ l, l < nl → I (300 + 3 * l) 3 = nI (rm_wr a l) ∧ rm_wr a l < nm := cr_lwi B0 RLt
  refine zv_aload_n dX7_forgeSerial_0 rfl rfl ?_
  refine zv_ifnonnull (tgt := 11) dX7_forgeSerial_1 (by decide) ?_
  refine zv_aload_n dX7_forgeSerial_11 rfl rfl ?_
  refine zv_instNo (c := 1) dX7_forgeSerial_12 (wWK_s (LF l hl).2.2.2.2.2.2) rfl (List.mem_cons_self) clX7_21 ?_
  refine zv_if_eq (tgt := 48) dX7_forgeSerial_15 (by decide) (fun h15 => ?_) (fun h15 => (absurd rfl h15))
  refine zv_aload_n dX7_forgeSerial_48 rfl rfl ?_
  refine zv_bipush (v := nI (11)) dX7_forgeSerial_49 (by decide) ?_
  refine cc_callV (As := [.int (nI (11))]) (st := []) (c := 6) dX7_forgeSerial_51 cvX7_45 (wW0_s40 W.1) rfl rfl rfl (by decide) (cc_c1 rfl cc_c0) (Nat.le_of_ble_eq_true rfl) (cC_refuse (d + 1) W.1 (nI (11))) (fun v s1 I1 J1 R1 q => ?_)
  obtain ⟨rfl, rfl, rfl, rfl, rfl⟩ := q
  show zv_V _ _ _ _ _ 54 [.ref 40, .ref (1000 + 8 * cc_ck R l), .int (n)] [.int ((-1 : Int32))] _ _ _ _ _
  refine zv_iret dX7_forgeSerial_54 rfl rfl ?_
  exact ⟨rfl, rfl, rfl, rfl, rfl⟩
theorem cC_forgeStore_c (d : Nat) {E : zv_E} {sh : zv_S} {I : zv_I} {J : zv_J} {R : zv_R} {a : zv_I} {nm nc nl : Nat} (RL : cr_R sh I J R a nm nc nl) {l : Nat} (hl : l < nl) (hr : rm_hr a l) : zv_V E mX7_forgeStore (d + 2) 0 0 0 [.ref 40, .ref (1000 + 8 * cc_ck R l)] [] sh I J R (cc_p (p_fS a (some (false, l))).1 sh (zv_u I 40 9 (p_fS a (some (false, l))).2) J R) := by
  obtain ⟨B, RT, RC, RLt, RM⟩ := RL
  have B0 := B
  obtain ⟨W, n5, b5, n6, b6, n7, b7, LF⟩ := B
  have LC : ∀ l, l < nl → I (300 + 3 * l) 2 = nI (rm_ci a l) ∧ rm_ci a l < nc := cr_lci B0 RLt
  have LW : ∀ l, l < nl → I (300 + 3 * l) 3 = nI (rm_wr a l) ∧ rm_wr a l < nm := cr_lwi B0 RLt
  refine zv_aload_n dX7_forgeStore_0 rfl rfl ?_
  refine zv_ifnonnull (tgt := 10) dX7_forgeStore_1 (by decide) ?_
  refine zv_aload_n dX7_forgeStore_10 rfl rfl ?_
  refine zv_instNo (c := 1) dX7_forgeStore_11 (wWK_s (LF l hl).2.2.2.2.2.2) rfl (List.mem_cons_self) clX7_21 ?_
  refine zv_if_eq (tgt := 48) dX7_forgeStore_14 (by decide) (fun h14 => ?_) (fun h14 => (absurd rfl h14))
  refine zv_aload_n dX7_forgeStore_48 rfl rfl ?_
  refine zv_bipush (v := nI (11)) dX7_forgeStore_49 (by decide) ?_
  refine cc_callV (As := [.int (nI (11))]) (st := []) (c := 6) dX7_forgeStore_51 cvX7_45 (wW0_s40 W.1) rfl rfl rfl (by decide) (cc_c1 rfl cc_c0) (Nat.le_of_ble_eq_true rfl) (cC_refuse (d + 1) W.1 (nI (11))) (fun v s1 I1 J1 R1 q => ?_)
  obtain ⟨rfl, rfl, rfl, rfl, rfl⟩ := q
  show zv_V _ _ _ _ _ 54 [.ref 40, .ref (1000 + 8 * cc_ck R l)] [.int ((-1 : Int32))] _ _ _ _ _
  refine zv_iret dX7_forgeStore_54 rfl rfl ?_
  exact ⟨rfl, rfl, rfl, rfl, rfl⟩
theorem cC_forgeCount_c (d : Nat) {E : zv_E} {sh : zv_S} {I : zv_I} {J : zv_J} {R : zv_R} {a : zv_I} {nm nc nl : Nat} (RL : cr_R sh I J R a nm nc nl) {l : Nat} (hl : l < nl) (hr : rm_hr a l) {n : Int32} (hn : rm_hun n = true) : zv_V E mX7_forgeCount (d + 2) 0 0 0 [.ref 40, .ref (1000 + 8 * cc_ck R l), .int n] [] sh I J R (cc_p (p_fK a n 1 (some (false, l))).1 sh (zv_u I 40 9 (p_fK a n 1 (some (false, l))).2) J R) := by
  obtain ⟨B, RT, RC, RLt, RM⟩ := RL
  have B0 := B
  obtain ⟨W, n5, b5, n6, b6, n7, b7, LF⟩ := B
  have LC : ∀ l, l < nl → I (300 + 3 * l) 2 = nI (rm_ci a l) ∧ rm_ci a l < nc := cr_lci B0 RLt
  have LW : ∀ l, l < nl → I (300 + 3 * l) 3 = nI (rm_wr a l) ∧ rm_wr a l < nm := cr_lwi B0 RLt
  have hfr := cr_frs_lt hr
  obtain ⟨g1, g2, g3⟩ := cr_rws (RLt l hl) (LF l hl).2.2.2.2.2.2 hfr.1 hfr.2
  refine zv_aload_n dX7_forgeCount_0 rfl rfl ?_
  refine cc_callS (As := [.ref (1000 + 8 * cc_ck R l)]) (st := []) dX7_forgeCount_1 csX7_337 rfl (by decide) (cc_c1 rfl cc_c0) (Nat.le_of_ble_eq_true rfl) (cC_firstRowOf_c d (LF l hl).2.2.2.2.2.2) (fun v s1 I1 J1 R1 q => ?_)
  obtain ⟨rfl, rfl, rfl, rfl, rfl⟩ := q
  rw [cr_frs (RLt l hl) hr]
  show zv_V _ _ _ _ _ 4 [.ref 40, .ref (1000 + 8 * cc_ck R l), .int (n)] [.ref (1002 + 8 * cc_ck R l + rm_fr a l)] _ _ _ _ _
  skip
  refine zv_astore_n (lv' := [.ref 40, .ref (1000 + 8 * cc_ck R l), .int (n), .ref (1002 + 8 * cc_ck R l + rm_fr a l)]) dX7_forgeCount_4 rfl (by decide) rfl ?_
  refine zv_aload_n dX7_forgeCount_5 rfl rfl ?_
  refine zv_ifnonnull (tgt := 15) dX7_forgeCount_6 (by decide) ?_
  refine zv_iload_n dX7_forgeCount_15 rfl rfl ?_
  refine zv_if_lt (tgt := 25) dX7_forgeCount_16 (by decide) (fun h16 => ?_) (fun h16 => ?_)
  · refine zv_aload_n dX7_forgeCount_25 rfl rfl ?_
    refine zv_bipush (v := nI (12)) dX7_forgeCount_26 (by decide) ?_
    refine cc_callV (As := [.int (nI (12))]) (st := []) (c := 6) dX7_forgeCount_28 cvX7_45 (wW0_s40 W.1) rfl rfl rfl (by decide) (cc_c1 rfl cc_c0) (Nat.le_of_ble_eq_true rfl) (cC_refuse (d + 1) W.1 (nI (12))) (fun v s1 I1 J1 R1 q => ?_)
    obtain ⟨rfl, rfl, rfl, rfl, rfl⟩ := q
    show zv_V _ _ _ _ _ 31 [.ref 40, .ref (1000 + 8 * cc_ck R l), .int (n), .ref (1002 + 8 * cc_ck R l + rm_fr a l)] [.int ((-1 : Int32))] _ _ _ _ _
    refine zv_iret dX7_forgeCount_31 rfl rfl ?_
    rw [show p_fK a n 1 (some (false, l)) = p_no 12 from if_neg (by rw [cl_0 h16]; decide)]
    exact ⟨rfl, rfl, rfl, rfl, rfl⟩
  · refine zv_iload_n dX7_forgeCount_19 rfl rfl ?_
    refine zv_aload_n dX7_forgeCount_20 rfl rfl ?_
    refine zv_alen dX7_forgeCount_21 (g2) (by decide) ?_
    refine zv_icmp_lt (tgt := 32) dX7_forgeCount_22 (by decide) (fun h22 => ?_) (fun h22 => ?_)
    · have h22b := cl_2 (n := 8) (by decide) h16 (Int32.not_le.mpr h22)
      obtain ⟨i, hi, rfl⟩ := rm_lt_t h22b (by decide)
      refine zv_aload_n dX7_forgeCount_32 rfl rfl ?_
      refine zv_aload_n dX7_forgeCount_33 rfl rfl ?_
      refine zv_iload_n dX7_forgeCount_34 rfl rfl ?_
      refine zv_iald (j := i) (x := (a 19 (48 * l + 8 * rm_fr a l + i))) dX7_forgeCount_35 (g2) (rfl) (show i < 8 from by omega) (by decide) (g3 i hi) ?_
      refine cc_callV (As := [.int ((a 19 (48 * l + 8 * rm_fr a l + i)))]) (st := []) (c := 6) dX7_forgeCount_36 cvX7_50 (wW0_s40 W.1) rfl rfl rfl (by decide) (cc_c1 rfl cc_c0) (Nat.le_of_ble_eq_true rfl) (cC_done (d + 1) W.1 ((a 19 (48 * l + 8 * rm_fr a l + i)))) (fun v s1 I1 J1 R1 q => ?_)
      obtain ⟨rfl, rfl, rfl, rfl, rfl⟩ := q
      show zv_V _ _ _ _ _ 39 [.ref 40, .ref (1000 + 8 * cc_ck R l), .int (nI (i)), .ref (1002 + 8 * cc_ck R l + rm_fr a l)] [.int ((a 19 (48 * l + 8 * rm_fr a l + i)))] _ _ _ _ _
      refine zv_iret dX7_forgeCount_39 rfl rfl ?_
      rw [show p_fK a (nI i) 1 (some (false, l)) = p_ok (a 19 (48 * l + 8 * rm_fr a l + i)) from (if_pos h22b).trans (by rw [rm_nv_n (n := i) (by omega)])]
      exact ⟨rfl, rfl, rfl, rfl, rfl⟩
    · refine zv_aload_n dX7_forgeCount_25 rfl rfl ?_
      refine zv_bipush (v := nI (12)) dX7_forgeCount_26 (by decide) ?_
      refine cc_callV (As := [.int (nI (12))]) (st := []) (c := 6) dX7_forgeCount_28 cvX7_45 (wW0_s40 W.1) rfl rfl rfl (by decide) (cc_c1 rfl cc_c0) (Nat.le_of_ble_eq_true rfl) (cC_refuse (d + 1) W.1 (nI (12))) (fun v s1 I1 J1 R1 q => ?_)
      obtain ⟨rfl, rfl, rfl, rfl, rfl⟩ := q
      show zv_V _ _ _ _ _ 31 [.ref 40, .ref (1000 + 8 * cc_ck R l), .int (n), .ref (1002 + 8 * cc_ck R l + rm_fr a l)] [.int ((-1 : Int32))] _ _ _ _ _
      refine zv_iret dX7_forgeCount_31 rfl rfl ?_
      rw [show p_fK a n 1 (some (false, l)) = p_no 12 from if_neg (by rw [cl_1 (by decide) (Int32.not_lt.mp h22)]; decide)]
      exact ⟨rfl, rfl, rfl, rfl, rfl⟩
theorem cC_forgeRowSum_c (d : Nat) {E : zv_E} {sh : zv_S} {I : zv_I} {J : zv_J} {R : zv_R} {a : zv_I} {nm nc nl : Nat} (RL : cr_R sh I J R a nm nc nl) {l : Nat} (hl : l < nl) (hr : rm_hr a l) {n : Int32} (hn : rm_hun n = true) : zv_V E mX7_forgeRowSum (d + 2) 0 0 0 [.ref 40, .ref (1000 + 8 * cc_ck R l), .int n] [] sh I J R (cc_p (p_fK a n 2 (some (false, l))).1 sh (zv_u I 40 9 (p_fK a n 2 (some (false, l))).2) J R) := by
  obtain ⟨B, RT, RC, RLt, RM⟩ := RL
  have B0 := B
  obtain ⟨W, n5, b5, n6, b6, n7, b7, LF⟩ := B
  have LC : ∀ l, l < nl → I (300 + 3 * l) 2 = nI (rm_ci a l) ∧ rm_ci a l < nc := cr_lci B0 RLt
  have LW : ∀ l, l < nl → I (300 + 3 * l) 3 = nI (rm_wr a l) ∧ rm_wr a l < nm := cr_lwi B0 RLt
  refine zv_aload_n dX7_forgeRowSum_0 rfl rfl ?_
  refine zv_instY (c := 1) dX7_forgeRowSum_1 (wWK_s (LF l hl).2.2.2.2.2.2) rfl clX7_125 ?_
  refine zv_if_eq (tgt := 64) dX7_forgeRowSum_4 (by decide) (fun h4 => (absurd h4 (by decide))) (fun h4 => ?_)
  refine zv_aload_n dX7_forgeRowSum_7 rfl rfl ?_
  refine zv_cast (c := 1) dX7_forgeRowSum_8 (wWK_s (LF l hl).2.2.2.2.2.2) rfl clX7_125 ?_
  refine zv_astore_n (lv' := [.ref 40, .ref (1000 + 8 * cc_ck R l), .int (n), .ref (1000 + 8 * cc_ck R l)]) dX7_forgeRowSum_11 rfl (by decide) rfl ?_
  refine zv_iload_n dX7_forgeRowSum_12 rfl rfl ?_
  refine zv_if_lt (tgt := 22) dX7_forgeRowSum_13 (by decide) (fun h13 => ?_) (fun h13 => ?_)
  · refine zv_aload_n dX7_forgeRowSum_22 rfl rfl ?_
    refine zv_bipush (v := nI (12)) dX7_forgeRowSum_23 (by decide) ?_
    refine cc_callV (As := [.int (nI (12))]) (st := []) (c := 6) dX7_forgeRowSum_25 cvX7_45 (wW0_s40 W.1) rfl rfl rfl (by decide) (cc_c1 rfl cc_c0) (Nat.le_of_ble_eq_true rfl) (cC_refuse (d + 1) W.1 (nI (12))) (fun v s1 I1 J1 R1 q => ?_)
    obtain ⟨rfl, rfl, rfl, rfl, rfl⟩ := q
    show zv_V _ _ _ _ _ 28 [.ref 40, .ref (1000 + 8 * cc_ck R l), .int (n), .ref (1000 + 8 * cc_ck R l)] [.int ((-1 : Int32))] _ _ _ _ _
    refine zv_iret dX7_forgeRowSum_28 rfl rfl ?_
    rw [show p_fK a n 2 (some (false, l)) = p_no 12 from if_neg (by rw [cl_0 h13]; decide)]
    exact ⟨rfl, rfl, rfl, rfl, rfl⟩
  · refine zv_iload_n dX7_forgeRowSum_16 rfl rfl ?_
    refine zv_bipush (v := nI (6)) dX7_forgeRowSum_17 (by decide) ?_
    refine zv_icmp_lt (tgt := 29) dX7_forgeRowSum_19 (by decide) (fun h19 => ?_) (fun h19 => ?_)
    · have h19b := cl_2 (n := 6) (by decide) h13 (Int32.not_le.mpr h19)
      obtain ⟨e, he, rfl⟩ := rm_lt_t h19b (by decide)
      cases hx : rm_row a l e with
      | false =>
        have g4 := cr_rwn (sh := sh) (RLt l hl) he hx
        refine zv_aload_n dX7_forgeRowSum_29 rfl rfl ?_
        refine zv_iload_n dX7_forgeRowSum_30 rfl rfl ?_
        refine cc_callV (As := [.int (nI (e))]) (st := []) (c := 1) dX7_forgeRowSum_31 cvX7_304 (wWK_s (LF l hl).2.2.2.2.2.2) rfl rfl rfl (by decide) (cc_c1 rfl cc_c0) (Nat.le_of_ble_eq_true rfl) (cC_rowAt (d + 1) (k := cc_ck R l) (e := e) (LF l hl).2.2.2.2.2.2 he) (fun v s1 I1 J1 R1 q => ?_)
        obtain ⟨rfl, rfl, rfl, rfl, rfl⟩ := q
        unfold cc_rw
        rw [g4]
        show zv_V _ _ _ _ _ 34 [.ref 40, .ref (1000 + 8 * cc_ck R l), .int (nI (e)), .ref (1000 + 8 * cc_ck R l)] [.null] _ _ _ _ _
        refine zv_astoreN (lv' := [.ref 40, .ref (1000 + 8 * cc_ck R l), .int (nI (e)), .ref (1000 + 8 * cc_ck R l), .null]) dX7_forgeRowSum_34 (by decide) rfl ?_
        refine zv_aloadN dX7_forgeRowSum_36 rfl ?_
        refine zv_ifnonnullN dX7_forgeRowSum_38 ?_
        refine zv_aload_n dX7_forgeRowSum_41 rfl rfl ?_
        refine zv_bipush (v := nI (10)) dX7_forgeRowSum_42 (by decide) ?_
        refine cc_callV (As := [.int (nI (10))]) (st := []) (c := 6) dX7_forgeRowSum_44 cvX7_45 (wW0_s40 W.1) rfl rfl rfl (by decide) (cc_c1 rfl cc_c0) (Nat.le_of_ble_eq_true rfl) (cC_refuse (d + 1) W.1 (nI (10))) (fun v s1 I1 J1 R1 q => ?_)
        obtain ⟨rfl, rfl, rfl, rfl, rfl⟩ := q
        show zv_V _ _ _ _ _ 47 [.ref 40, .ref (1000 + 8 * cc_ck R l), .int (nI (e)), .ref (1000 + 8 * cc_ck R l), .null] [.int ((-1 : Int32))] _ _ _ _ _
        refine zv_goto (tgt := 63) dX7_forgeRowSum_47 (by decide) ?_
        refine zv_iret dX7_forgeRowSum_63 rfl rfl ?_
        rw [show p_fK a (nI e) 2 (some (false, l)) = p_no 10 from (if_pos h19b).trans (if_neg (by rw [rm_nv_n (n := e) (by omega), hx]; decide))]
        exact ⟨rfl, rfl, rfl, rfl, rfl⟩
      | true =>
        obtain ⟨g4, g5, g6⟩ := cr_rws (RLt l hl) (LF l hl).2.2.2.2.2.2 he hx
        refine zv_aload_n dX7_forgeRowSum_29 rfl rfl ?_
        refine zv_iload_n dX7_forgeRowSum_30 rfl rfl ?_
        refine cc_callV (As := [.int (nI (e))]) (st := []) (c := 1) dX7_forgeRowSum_31 cvX7_304 (wWK_s (LF l hl).2.2.2.2.2.2) rfl rfl rfl (by decide) (cc_c1 rfl cc_c0) (Nat.le_of_ble_eq_true rfl) (cC_rowAt (d + 1) (k := cc_ck R l) (e := e) (LF l hl).2.2.2.2.2.2 he) (fun v s1 I1 J1 R1 q => ?_)
        obtain ⟨rfl, rfl, rfl, rfl, rfl⟩ := q
        unfold cc_rw
        rw [g4]
        show zv_V _ _ _ _ _ 34 [.ref 40, .ref (1000 + 8 * cc_ck R l), .int (nI (e)), .ref (1000 + 8 * cc_ck R l)] [.ref (1002 + 8 * cc_ck R l + e)] _ _ _ _ _
        refine zv_astore (lv' := [.ref 40, .ref (1000 + 8 * cc_ck R l), .int (nI (e)), .ref (1000 + 8 * cc_ck R l), .ref (1002 + 8 * cc_ck R l + e)]) dX7_forgeRowSum_34 (by decide) rfl ?_
        refine zv_aload dX7_forgeRowSum_36 rfl ?_
        refine zv_ifnonnull (tgt := 50) dX7_forgeRowSum_38 (by decide) ?_
        refine zv_aload_n dX7_forgeRowSum_50 rfl rfl ?_
        refine zv_aload dX7_forgeRowSum_51 rfl ?_
        refine zv_iconst (v := nI (0)) dX7_forgeRowSum_53 (by decide) ?_
        refine zv_aload dX7_forgeRowSum_54 rfl ?_
        refine zv_alen dX7_forgeRowSum_56 (g5) (by decide) ?_
        refine cc_callS (As := [.ref (1002 + 8 * cc_ck R l + e), .int (nI (0)), .int (nI (8))]) (st := [.ref 40]) dX7_forgeRowSum_57 csX7_344 rfl (by decide) (cc_c1 rfl (cc_c1 rfl (cc_c1 rfl cc_c0))) (Nat.le_of_ble_eq_true rfl) (cC_sum (d + 1) (t := 1002 + 8 * cc_ck R l + e) (p := 0) (n := 8) g5 (by decide)) (fun v s1 I1 J1 R1 q => ?_)
        obtain ⟨rfl, rfl, rfl, rfl, rfl⟩ := q
        rw [cr_sum_c (f := I (1002 + 8 * cc_ck R l + e)) (g := fun k => a 19 (48 * l + 8 * e + k)) 8 (fun j hj => by rw [Nat.zero_add]; exact g6 j hj)]
        show zv_V _ _ _ _ _ 60 [.ref 40, .ref (1000 + 8 * cc_ck R l), .int (nI (e)), .ref (1000 + 8 * cc_ck R l), .ref (1002 + 8 * cc_ck R l + e)] [.int ((rm_su a l e 0 8)), .ref 40] _ _ _ _ _
        refine cc_callV (As := [.int ((rm_su a l e 0 8))]) (st := []) (c := 6) dX7_forgeRowSum_60 cvX7_50 (wW0_s40 W.1) rfl rfl rfl (by decide) (cc_c1 rfl cc_c0) (Nat.le_of_ble_eq_true rfl) (cC_done (d + 1) W.1 ((rm_su a l e 0 8))) (fun v s1 I1 J1 R1 q => ?_)
        obtain ⟨rfl, rfl, rfl, rfl, rfl⟩ := q
        show zv_V _ _ _ _ _ 63 [.ref 40, .ref (1000 + 8 * cc_ck R l), .int (nI (e)), .ref (1000 + 8 * cc_ck R l), .ref (1002 + 8 * cc_ck R l + e)] [.int ((rm_su a l e 0 8))] _ _ _ _ _
        refine zv_iret dX7_forgeRowSum_63 rfl rfl ?_
        rw [show p_fK a (nI e) 2 (some (false, l)) = p_ok (rm_su a l e 0 8) from (if_pos h19b).trans ((if_pos (by rw [rm_nv_n (n := e) (by omega), hx])).trans (by rw [rm_nv_n (n := e) (by omega)]))]
        exact ⟨rfl, rfl, rfl, rfl, rfl⟩
    · refine zv_aload_n dX7_forgeRowSum_22 rfl rfl ?_
      refine zv_bipush (v := nI (12)) dX7_forgeRowSum_23 (by decide) ?_
      refine cc_callV (As := [.int (nI (12))]) (st := []) (c := 6) dX7_forgeRowSum_25 cvX7_45 (wW0_s40 W.1) rfl rfl rfl (by decide) (cc_c1 rfl cc_c0) (Nat.le_of_ble_eq_true rfl) (cC_refuse (d + 1) W.1 (nI (12))) (fun v s1 I1 J1 R1 q => ?_)
      obtain ⟨rfl, rfl, rfl, rfl, rfl⟩ := q
      show zv_V _ _ _ _ _ 28 [.ref 40, .ref (1000 + 8 * cc_ck R l), .int (n), .ref (1000 + 8 * cc_ck R l)] [.int ((-1 : Int32))] _ _ _ _ _
      refine zv_iret dX7_forgeRowSum_28 rfl rfl ?_
      rw [show p_fK a n 2 (some (false, l)) = p_no 12 from if_neg (by rw [cl_1 (by decide) (Int32.not_lt.mp h19)]; decide)]
      exact ⟨rfl, rfl, rfl, rfl, rfl⟩
theorem cf_cp : ∀ k : Fin 201, (Int32.ofInt ((k.1 : Int) - 100) < 0 → rm_lt (Int32.ofInt ((k.1 : Int) - 100)) 5 = false) ∧ (nI 8 < nI 2 + Int32.ofInt ((k.1 : Int) - 100) → rm_lt (Int32.ofInt ((k.1 : Int) - 100)) 5 = false) ∧ (¬ Int32.ofInt ((k.1 : Int) - 100) + Int32.ofInt ((k.1 : Int) - 100) ≤ nI 8 → rm_lt (Int32.ofInt ((k.1 : Int) - 100)) 5 = false) ∧ (¬ Int32.ofInt ((k.1 : Int) - 100) < 0 → Int32.ofInt ((k.1 : Int) - 100) + Int32.ofInt ((k.1 : Int) - 100) ≤ nI 8 → rm_lt (Int32.ofInt ((k.1 : Int) - 100)) 5 = true) := by decide +kernel
theorem cf_cpn {n : Int32} (h : rm_hun n = true) : (n < 0 → rm_lt n 5 = false) ∧ (nI 8 < nI 2 + n → rm_lt n 5 = false) ∧ (¬ n + n ≤ nI 8 → rm_lt n 5 = false) ∧ (¬ n < 0 → n + n ≤ nI 8 → rm_lt n 5 = true) := by
  obtain ⟨k, rfl⟩ := rm_hun_i h
  exact cf_cp k
theorem cC_forgeCopy_c (d : Nat) {E : zv_E} {sh : zv_S} {I : zv_I} {J : zv_J} {R : zv_R} {a : zv_I} {nm nc nl : Nat} (RL : cr_R sh I J R a nm nc nl) {l : Nat} (hl : l < nl) (hr : rm_hr a l) {n : Int32} (hn : rm_hun n = true) : zv_V E mX7_forgeCopy (d + 2) 0 0 0 [.ref 40, .ref (1000 + 8 * cc_ck R l), .int n] [] sh I J R (cc_p (p_fK a n 4 (some (false, l))).1 sh (zv_u I 40 9 (p_fK a n 4 (some (false, l))).2) J R) := by
  obtain ⟨B, RT, RC, RLt, RM⟩ := RL
  have B0 := B
  obtain ⟨W, n5, b5, n6, b6, n7, b7, LF⟩ := B
  have LC : ∀ l, l < nl → I (300 + 3 * l) 2 = nI (rm_ci a l) ∧ rm_ci a l < nc := cr_lci B0 RLt
  have LW : ∀ l, l < nl → I (300 + 3 * l) 3 = nI (rm_wr a l) ∧ rm_wr a l < nm := cr_lwi B0 RLt
  have hfr := cr_frs_lt hr
  obtain ⟨g1, g2, g3⟩ := cr_rws (RLt l hl) (LF l hl).2.2.2.2.2.2 hfr.1 hfr.2
  refine zv_aload_n dX7_forgeCopy_0 rfl rfl ?_
  refine cc_callS (As := [.ref (1000 + 8 * cc_ck R l)]) (st := []) dX7_forgeCopy_1 csX7_337 rfl (by decide) (cc_c1 rfl cc_c0) (Nat.le_of_ble_eq_true rfl) (cC_firstRowOf_c d (LF l hl).2.2.2.2.2.2) (fun v s1 I1 J1 R1 q => ?_)
  obtain ⟨rfl, rfl, rfl, rfl, rfl⟩ := q
  rw [cr_frs (RLt l hl) hr]
  show zv_V _ _ _ _ _ 4 [.ref 40, .ref (1000 + 8 * cc_ck R l), .int (n)] [.ref (1002 + 8 * cc_ck R l + rm_fr a l)] _ _ _ _ _
  skip
  refine zv_astore_n (lv' := [.ref 40, .ref (1000 + 8 * cc_ck R l), .int (n), .ref (1002 + 8 * cc_ck R l + rm_fr a l)]) dX7_forgeCopy_4 rfl (by decide) rfl ?_
  refine zv_aload_n dX7_forgeCopy_5 rfl rfl ?_
  refine zv_ifnonnull (tgt := 15) dX7_forgeCopy_6 (by decide) ?_
  refine zv_iload_n dX7_forgeCopy_15 rfl rfl ?_
  refine zv_if_lt (tgt := 35) dX7_forgeCopy_16 (by decide) (fun h16 => ?_) (fun h16 => ?_)
  · refine zv_aload_n dX7_forgeCopy_35 rfl rfl ?_
    refine zv_bipush (v := nI (12)) dX7_forgeCopy_36 (by decide) ?_
    refine cc_callV (As := [.int (nI (12))]) (st := []) (c := 6) dX7_forgeCopy_38 cvX7_45 (wW0_s40 W.1) rfl rfl rfl (by decide) (cc_c1 rfl cc_c0) (Nat.le_of_ble_eq_true rfl) (cC_refuse (d + 1) W.1 (nI (12))) (fun v s1 I1 J1 R1 q => ?_)
    obtain ⟨rfl, rfl, rfl, rfl, rfl⟩ := q
    show zv_V _ _ _ _ _ 41 [.ref 40, .ref (1000 + 8 * cc_ck R l), .int (n), .ref (1002 + 8 * cc_ck R l + rm_fr a l)] [.int ((-1 : Int32))] _ _ _ _ _
    refine zv_iret dX7_forgeCopy_41 rfl rfl ?_
    rw [show p_fK a n 4 (some (false, l)) = p_no 12 from if_neg (by rw [(cf_cpn hn).1 h16]; decide)]
    exact ⟨rfl, rfl, rfl, rfl, rfl⟩
  · refine zv_iconst (v := nI (2)) dX7_forgeCopy_19 (by decide) ?_
    refine zv_iload_n dX7_forgeCopy_20 rfl rfl ?_
    refine zv_iadd dX7_forgeCopy_21 ?_
    refine zv_aload_n dX7_forgeCopy_22 rfl rfl ?_
    refine zv_alen dX7_forgeCopy_23 (g2) (by decide) ?_
    refine zv_icmp_gt (tgt := 35) dX7_forgeCopy_24 (by decide) (fun h24 => ?_) (fun h24 => ?_)
    · refine zv_aload_n dX7_forgeCopy_35 rfl rfl ?_
      refine zv_bipush (v := nI (12)) dX7_forgeCopy_36 (by decide) ?_
      refine cc_callV (As := [.int (nI (12))]) (st := []) (c := 6) dX7_forgeCopy_38 cvX7_45 (wW0_s40 W.1) rfl rfl rfl (by decide) (cc_c1 rfl cc_c0) (Nat.le_of_ble_eq_true rfl) (cC_refuse (d + 1) W.1 (nI (12))) (fun v s1 I1 J1 R1 q => ?_)
      obtain ⟨rfl, rfl, rfl, rfl, rfl⟩ := q
      show zv_V _ _ _ _ _ 41 [.ref 40, .ref (1000 + 8 * cc_ck R l), .int (n), .ref (1002 + 8 * cc_ck R l + rm_fr a l)] [.int ((-1 : Int32))] _ _ _ _ _
      refine zv_iret dX7_forgeCopy_41 rfl rfl ?_
      rw [show p_fK a n 4 (some (false, l)) = p_no 12 from if_neg (by rw [(cf_cpn hn).2.1 h24]; decide)]
      exact ⟨rfl, rfl, rfl, rfl, rfl⟩
    · refine zv_iload_n dX7_forgeCopy_27 rfl rfl ?_
      refine zv_iload_n dX7_forgeCopy_28 rfl rfl ?_
      refine zv_iadd dX7_forgeCopy_29 ?_
      refine zv_bipush (v := nI (8)) dX7_forgeCopy_30 (by decide) ?_
      refine zv_icmp_le (tgt := 42) dX7_forgeCopy_32 (by decide) (fun h32 => ?_) (fun h32 => ?_)
      · have h32b := (cf_cpn hn).2.2.2 h16 h32
        obtain ⟨i, hi, rfl⟩ := rm_lt_t h32b (by decide)
        refine zv_aload_n dX7_forgeCopy_42 rfl rfl ?_
        refine zv_aload_n dX7_forgeCopy_43 rfl rfl ?_
        refine zv_iconst (v := nI (2)) dX7_forgeCopy_44 (by decide) ?_
        refine zv_iconst (v := nI (2)) dX7_forgeCopy_45 (by decide) ?_
        refine zv_iload_n dX7_forgeCopy_46 rfl rfl ?_
        refine zv_iadd dX7_forgeCopy_47 ?_
        refine cc_top (nI_add (2) (i)) ?_
        refine cc_callS (As := [.ref (1002 + 8 * cc_ck R l + rm_fr a l), .int (nI (2)), .int (nI (2 + i))]) (st := [.ref 40]) dX7_forgeCopy_48 csX7_344 rfl (by decide) (cc_c1 rfl (cc_c1 rfl (cc_c1 rfl cc_c0))) (Nat.le_of_ble_eq_true rfl) (cC_sum (d + 1) (t := 1002 + 8 * cc_ck R l + rm_fr a l) (p := 2) (n := i) g2 (by omega)) (fun v s1 I1 J1 R1 q => ?_)
        obtain ⟨rfl, rfl, rfl, rfl, rfl⟩ := q
        rw [cr_sum_c (f := I (1002 + 8 * cc_ck R l + rm_fr a l)) (g := fun k => a 19 (48 * l + 8 * rm_fr a l + k)) i (fun j hj => g3 (2 + j) (by omega))]
        show zv_V _ _ _ _ _ 51 [.ref 40, .ref (1000 + 8 * cc_ck R l), .int (nI (i)), .ref (1002 + 8 * cc_ck R l + rm_fr a l)] [.int ((rm_su a l (rm_fr a l) 2 i)), .ref 40] _ _ _ _ _
        refine cc_callV (As := [.int ((rm_su a l (rm_fr a l) 2 i))]) (st := []) (c := 6) dX7_forgeCopy_51 cvX7_50 (wW0_s40 W.1) rfl rfl rfl (by decide) (cc_c1 rfl cc_c0) (Nat.le_of_ble_eq_true rfl) (cC_done (d + 1) W.1 ((rm_su a l (rm_fr a l) 2 i))) (fun v s1 I1 J1 R1 q => ?_)
        obtain ⟨rfl, rfl, rfl, rfl, rfl⟩ := q
        show zv_V _ _ _ _ _ 54 [.ref 40, .ref (1000 + 8 * cc_ck R l), .int (nI (i)), .ref (1002 + 8 * cc_ck R l + rm_fr a l)] [.int ((rm_su a l (rm_fr a l) 2 i))] _ _ _ _ _
        refine zv_iret dX7_forgeCopy_54 rfl rfl ?_
        rw [show p_fK a (nI i) 4 (some (false, l)) = p_ok (rm_su a l (rm_fr a l) 2 i) from (if_pos h32b).trans (by rw [rm_nv_n (n := i) (by omega)])]
        exact ⟨rfl, rfl, rfl, rfl, rfl⟩
      · refine zv_aload_n dX7_forgeCopy_35 rfl rfl ?_
        refine zv_bipush (v := nI (12)) dX7_forgeCopy_36 (by decide) ?_
        refine cc_callV (As := [.int (nI (12))]) (st := []) (c := 6) dX7_forgeCopy_38 cvX7_45 (wW0_s40 W.1) rfl rfl rfl (by decide) (cc_c1 rfl cc_c0) (Nat.le_of_ble_eq_true rfl) (cC_refuse (d + 1) W.1 (nI (12))) (fun v s1 I1 J1 R1 q => ?_)
        obtain ⟨rfl, rfl, rfl, rfl, rfl⟩ := q
        show zv_V _ _ _ _ _ 41 [.ref 40, .ref (1000 + 8 * cc_ck R l), .int (n), .ref (1002 + 8 * cc_ck R l + rm_fr a l)] [.int ((-1 : Int32))] _ _ _ _ _
        refine zv_iret dX7_forgeCopy_41 rfl rfl ?_
        rw [show p_fK a n 4 (some (false, l)) = p_no 12 from if_neg (by rw [(cf_cpn hn).2.2.1 h32]; decide)]
        exact ⟨rfl, rfl, rfl, rfl, rfl⟩
theorem cC_forge (d : Nat) {E : zv_E} {sh : zv_S} {I : zv_I} {J : zv_J} {R : zv_R} {a : zv_I} {nm nc nl : Nat} (RL : cr_R sh I J R a nm nc nl) (hsl : ∀ m s, m < nm → s < 40 → rm_sl a nl m s) (hkd : ∀ l, l < nl → a 10 l = nI (rm_kd2 a l) ∧ rm_kd2 a l < 6) (hhr : ∀ l, l < nl → rm_hr a l) (x y z n : Int32) : zv_V E mX7_forge (d + 3) 0 0 0 [.ref 40, .int x, .int y, .int z, .int n] [] sh I J R (cc_p (q_fg a nm x y z n).1 sh (zv_u I 40 9 (q_fg a nm x y z n).2) J R) := by
  have RL0 := RL
  obtain ⟨B, RT, RC, RLt, RM⟩ := RL
  have B0 := B
  obtain ⟨W, n5, b5, n6, b6, n7, b7, LF⟩ := B
  have LC : ∀ l, l < nl → I (300 + 3 * l) 2 = nI (rm_ci a l) ∧ rm_ci a l < nc := cr_lci B0 RLt
  have LW : ∀ l, l < nl → I (300 + 3 * l) 3 = nI (rm_wr a l) ∧ rm_wr a l < nm := cr_lwi B0 RLt
  refine zv_aload_n dX7_forge_0 rfl rfl ?_
  refine zv_iload_n dX7_forge_1 rfl rfl ?_
  refine cc_callV (As := [.int (x)]) (st := []) (c := 6) dX7_forge_2 cvX7_75 (wW0_s40 W.1) rfl rfl rfl (by decide) (cc_c1 rfl cc_c0) (Nat.le_of_ble_eq_true rfl) (cC_isMember (d + 2) W.1 n5 (by omega) x) (fun v s1 I1 J1 R1 q => ?_)
  obtain ⟨rfl, rfl, rfl, rfl, rfl⟩ := q
  show zv_V _ _ _ _ _ 5 [.ref 40, .int (x), .int (y), .int (z), .int (n)] [.int (rm_b (rm_lt x nm))] _ _ _ _ _
  refine zv_ifB_eq (tgt := 29) dX7_forge_5 (by decide) (fun h5 => ?_) (fun h5 => ?_)
  · refine zv_aload_n dX7_forge_29 rfl rfl ?_
    refine zv_iconst (v := nI (1)) dX7_forge_30 (by decide) ?_
    refine cc_callV (As := [.int (nI (1))]) (st := []) (c := 6) dX7_forge_31 cvX7_45 (wW0_s40 W.1) rfl rfl rfl (by decide) (cc_c1 rfl cc_c0) (Nat.le_of_ble_eq_true rfl) (cC_refuse (d + 2) W.1 (nI (1))) (fun v s1 I1 J1 R1 q => ?_)
    obtain ⟨rfl, rfl, rfl, rfl, rfl⟩ := q
    show zv_V _ _ _ _ _ 34 [.ref 40, .int (x), .int (y), .int (z), .int (n)] [.int ((-1 : Int32))] _ _ _ _ _
    refine zv_iret dX7_forge_34 rfl rfl ?_
    rw [show q_fg a nm _ _ z n = p_no 1 from by unfold q_fg; rw [h5]; rfl]
    exact ⟨rfl, rfl, rfl, rfl, rfl⟩
  · obtain ⟨r, hr, rfl⟩ := rm_lt_t h5 (by omega)
    refine zv_iload_n dX7_forge_8 rfl rfl ?_
    refine cc_callS (As := [.int (y)]) (st := []) dX7_forge_9 csX7_194 rfl (by decide) (cc_c1 rfl cc_c0) (Nat.le_of_ble_eq_true rfl) (cC_isSlot (d + 2) y) (fun v s1 I1 J1 R1 q => ?_)
    obtain ⟨rfl, rfl, rfl, rfl, rfl⟩ := q
    show zv_V _ _ _ _ _ 12 [.ref 40, .int (nI (r)), .int (y), .int (z), .int (n)] [.int (rm_b (rm_lt y 40))] _ _ _ _ _
    refine zv_ifB_eq (tgt := 29) dX7_forge_12 (by decide) (fun h12 => ?_) (fun h12 => ?_)
    · refine zv_aload_n dX7_forge_29 rfl rfl ?_
      refine zv_iconst (v := nI (1)) dX7_forge_30 (by decide) ?_
      refine cc_callV (As := [.int (nI (1))]) (st := []) (c := 6) dX7_forge_31 cvX7_45 (wW0_s40 W.1) rfl rfl rfl (by decide) (cc_c1 rfl cc_c0) (Nat.le_of_ble_eq_true rfl) (cC_refuse (d + 2) W.1 (nI (1))) (fun v s1 I1 J1 R1 q => ?_)
      obtain ⟨rfl, rfl, rfl, rfl, rfl⟩ := q
      show zv_V _ _ _ _ _ 34 [.ref 40, .int (nI (r)), .int (y), .int (z), .int (n)] [.int ((-1 : Int32))] _ _ _ _ _
      refine zv_iret dX7_forge_34 rfl rfl ?_
      rw [show q_fg a nm _ _ z n = p_no 1 from by unfold q_fg; rw [h5, h12]; rfl]
      exact ⟨rfl, rfl, rfl, rfl, rfl⟩
    · obtain ⟨i, hi, rfl⟩ := rm_lt_t h12 (by omega)
      refine zv_iload dX7_forge_15 rfl ?_
      refine zv_bipush (v := (-100 : Int32)) dX7_forge_17 (by decide) ?_
      refine zv_icmp_lt (tgt := 29) dX7_forge_19 (by decide) (fun h19 => ?_) (fun h19 => ?_)
      · refine zv_aload_n dX7_forge_29 rfl rfl ?_
        refine zv_iconst (v := nI (1)) dX7_forge_30 (by decide) ?_
        refine cc_callV (As := [.int (nI (1))]) (st := []) (c := 6) dX7_forge_31 cvX7_45 (wW0_s40 W.1) rfl rfl rfl (by decide) (cc_c1 rfl cc_c0) (Nat.le_of_ble_eq_true rfl) (cC_refuse (d + 2) W.1 (nI (1))) (fun v s1 I1 J1 R1 q => ?_)
        obtain ⟨rfl, rfl, rfl, rfl, rfl⟩ := q
        show zv_V _ _ _ _ _ 34 [.ref 40, .int (nI (r)), .int (nI (i)), .int (z), .int (n)] [.int ((-1 : Int32))] _ _ _ _ _
        refine zv_iret dX7_forge_34 rfl rfl ?_
        rw [show q_fg a nm _ _ z n = p_no 1 from by unfold q_fg; rw [show rm_hun n = false from decide_eq_false (fun q => Int32.not_le.mpr h19 q.1), Bool.and_false, Bool.and_false, Bool.and_false]; rfl]
        exact ⟨rfl, rfl, rfl, rfl, rfl⟩
      · refine zv_iload dX7_forge_22 rfl ?_
        refine zv_bipush (v := nI (100)) dX7_forge_24 (by decide) ?_
        refine zv_icmp_le (tgt := 35) dX7_forge_26 (by decide) (fun h26 => ?_) (fun h26 => ?_)
        · refine zv_aload_n dX7_forge_35 rfl rfl ?_
          refine zv_getr 6 0 (u := 41) dX7_forge_36 flX7_11 (wW0_s40 W.1) rfl (wW0_r0 W.1) ?_
          refine zv_iload_n dX7_forge_39 rfl rfl ?_
          refine zv_aald (j := r) (o := some (100 + 20 * r)) dX7_forge_40 (wW0_s41 W.1) (by decide) (by decide) (rfl) (show r < 8 from by omega) (by decide) ((W.2.1 r (by omega)).1) ?_
          show zv_V _ _ _ _ _ 41 [.ref 40, .int (nI (r)), .int (nI (i)), .int (z), .int (n)] [.ref (100 + 20 * r)] _ _ _ _ _
          refine zv_getr 3 6 (u := 113 + 20 * r) dX7_forge_41 flX7_197 (wWM_s (W.2.1 r (by omega)).2) rfl (wWM_r6 (W.2.1 r (by omega)).2) ?_
          refine zv_iload_n dX7_forge_44 rfl rfl ?_
          have hn : rm_hun n = true := decide_eq_true ⟨Int32.not_lt.mp h19, h26⟩
          have eq : ∀ z : Int32, q_fg a nm (nI r) (nI i) z n = (if rm_lt z 8 = true then p_fg a (rm_th a r i) n (rm_nv z) else p_no 1) := by
            intro z
            unfold q_fg
            rw [h5, h12, hn, rm_nv_n (n := r) (by omega), rm_nv_n (n := i) (by omega), Bool.and_true, Bool.true_and, Bool.true_and]
          rw [eq]
          rcases cr_slc b7 (hsl r i hr hi) with e0 | ⟨l, hl, e0⟩ | ⟨l, hl, e0⟩
          · refine zv_aald (j := i) (o := none) dX7_forge_45 (wWM_s6 (W.2.1 r (by omega)).2) (by decide) (by decide) (rfl) (show i < 40 from by omega) (by decide) (by rw [xM_t (RM r hr) i hi, e0]; rfl) ?_
            show zv_V _ _ _ _ _ 46 [.ref 40, .int (nI (r)), .int (nI (i)), .int (z), .int (n)] [.null] _ _ _ _ _
            refine zv_astoreN (lv' := [.ref 40, .int (nI (r)), .int (nI (i)), .int (z), .int (n), .null]) dX7_forge_46 (by decide) rfl ?_
            refine zv_iload_n dX7_forge_48 rfl rfl ?_
            cases hsw : rm_lt z 8 with
            | false =>
              refine zv_tableOut (tgt := 206) dX7_forge_49 (rm_lt_out hsw) (by decide) ?_
              refine zv_aload_n dX7_forge_206 rfl rfl ?_
              refine zv_iconst (v := nI (1)) dX7_forge_207 (by decide) ?_
              refine cc_callV (As := [.int (nI (1))]) (st := []) (c := 6) dX7_forge_208 cvX7_45 (wW0_s40 W.1) rfl rfl rfl (by decide) (cc_c1 rfl cc_c0) (Nat.le_of_ble_eq_true rfl) (cC_refuse (d + 2) W.1 (nI (1))) (fun v s1 I1 J1 R1 q => ?_)
              obtain ⟨rfl, rfl, rfl, rfl, rfl⟩ := q
              show zv_V _ _ _ _ _ 211 [.ref 40, .int (nI (r)), .int (nI (i)), .int (z), .int (n), .null] [.int ((-1 : Int32))] _ _ _ _ _
              refine zv_iret dX7_forge_211 rfl rfl ?_
              rw [if_neg (by decide)]
              exact ⟨rfl, rfl, rfl, rfl, rfl⟩
            | true =>
              obtain ⟨jsw, hjsw, rfl⟩ := rm_lt_t hsw (by decide)
              rcases (show jsw = 0 ∨ jsw = 1 ∨ jsw = 2 ∨ jsw = 3 ∨ jsw = 4 ∨ jsw = 5 ∨ jsw = 6 ∨ jsw = 7 by omega) with rfl | rfl | rfl | rfl | rfl | rfl | rfl | rfl
              · refine zv_tableIn (off := 47) (tgt := 96) dX7_forge_49 (by decide) (by decide) (by decide) (by decide) ?_
                refine zv_aload_n dX7_forge_96 rfl rfl ?_
                refine zv_aloadN dX7_forge_97 rfl ?_
                refine zv_iload dX7_forge_99 rfl ?_
                refine cc_callV (As := [.null, .int (n)]) (st := []) (c := 6) dX7_forge_101 cvX7_201 (wW0_s40 W.1) rfl rfl rfl (by decide) (cc_c1 rfl (cc_c1 rfl cc_c0)) (Nat.le_of_ble_eq_true rfl) (cC_forgeSerial_0 d RL0 hn) (fun v s1 I1 J1 R1 q => ?_)
                obtain ⟨rfl, rfl, rfl, rfl, rfl⟩ := q
                show zv_V _ _ _ _ _ 104 [.ref 40, .int (nI (r)), .int (nI (i)), .int (nI (0)), .int (n), .null] [.int ((p_fL a n (none)).1)] _ _ _ _ _
                refine zv_iret dX7_forge_104 rfl rfl ?_
                rw [e0]
                show cc_p (p_fg a (none) n 0).1 sh (zv_u I 40 9 (p_fg a (none) n 0).2) J R _ _ _ _ _
                exact ⟨rfl, rfl, rfl, rfl, rfl⟩
              · refine zv_tableIn (off := 56) (tgt := 105) dX7_forge_49 (by decide) (by decide) (by decide) (by decide) ?_
                refine zv_aload_n dX7_forge_105 rfl rfl ?_
                refine zv_aloadN dX7_forge_106 rfl ?_
                refine zv_iload dX7_forge_108 rfl ?_
                refine cc_callV (As := [.null, .int (n)]) (st := []) (c := 6) dX7_forge_110 cvX7_205 (wW0_s40 W.1) rfl rfl rfl (by decide) (cc_c1 rfl (cc_c1 rfl cc_c0)) (Nat.le_of_ble_eq_true rfl) (cC_forgeCount_0 d RL0 hn) (fun v s1 I1 J1 R1 q => ?_)
                obtain ⟨rfl, rfl, rfl, rfl, rfl⟩ := q
                show zv_V _ _ _ _ _ 113 [.ref 40, .int (nI (r)), .int (nI (i)), .int (nI (1)), .int (n), .null] [.int ((p_fK a n 1 (none)).1)] _ _ _ _ _
                refine zv_iret dX7_forge_113 rfl rfl ?_
                rw [e0]
                show cc_p (p_fg a (none) n 1).1 sh (zv_u I 40 9 (p_fg a (none) n 1).2) J R _ _ _ _ _
                exact ⟨rfl, rfl, rfl, rfl, rfl⟩
              · refine zv_tableIn (off := 65) (tgt := 114) dX7_forge_49 (by decide) (by decide) (by decide) (by decide) ?_
                refine zv_aload_n dX7_forge_114 rfl rfl ?_
                refine zv_aloadN dX7_forge_115 rfl ?_
                refine zv_iload dX7_forge_117 rfl ?_
                refine cc_callV (As := [.null, .int (n)]) (st := []) (c := 6) dX7_forge_119 cvX7_208 (wW0_s40 W.1) rfl rfl rfl (by decide) (cc_c1 rfl (cc_c1 rfl cc_c0)) (Nat.le_of_ble_eq_true rfl) (cC_forgeRowSum_0 d RL0 hn) (fun v s1 I1 J1 R1 q => ?_)
                obtain ⟨rfl, rfl, rfl, rfl, rfl⟩ := q
                show zv_V _ _ _ _ _ 122 [.ref 40, .int (nI (r)), .int (nI (i)), .int (nI (2)), .int (n), .null] [.int ((p_fK a n 2 (none)).1)] _ _ _ _ _
                refine zv_iret dX7_forge_122 rfl rfl ?_
                rw [e0]
                show cc_p (p_fg a (none) n 2).1 sh (zv_u I 40 9 (p_fg a (none) n 2).2) J R _ _ _ _ _
                exact ⟨rfl, rfl, rfl, rfl, rfl⟩
              · refine zv_tableIn (off := 74) (tgt := 123) dX7_forge_49 (by decide) (by decide) (by decide) (by decide) ?_
                refine zv_iload dX7_forge_123 rfl ?_
                refine zv_if_ge (tgt := 137) dX7_forge_125 (by decide) (fun h125 => ?_) (fun h125 => ?_)
                · refine zv_aload_n dX7_forge_137 rfl rfl ?_
                  refine zv_iload dX7_forge_138 rfl ?_
                  refine cc_callV (As := [.int (n)]) (st := []) (c := 6) dX7_forge_140 cvX7_50 (wW0_s40 W.1) rfl rfl rfl (by decide) (cc_c1 rfl cc_c0) (Nat.le_of_ble_eq_true rfl) (cC_done (d + 2) W.1 n) (fun v s1 I1 J1 R1 q => ?_)
                  obtain ⟨rfl, rfl, rfl, rfl, rfl⟩ := q
                  show zv_V _ _ _ _ _ 143 [.ref 40, .int (nI (r)), .int (nI (i)), .int (nI (3)), .int (n), .null] [.int (n)] _ _ _ _ _
                  refine zv_iret dX7_forge_143 rfl rfl ?_
                  rw [e0]
                  show cc_p (p_fg a (none) n 3).1 sh (zv_u I 40 9 (p_fg a (none) n 3).2) J R _ _ _ _ _
                  rw [show p_fg a (none) n 3 = p_ok n from if_neg (Int32.not_lt.mpr h125)]
                  exact ⟨rfl, rfl, rfl, rfl, rfl⟩
                · refine zv_aload_n dX7_forge_128 rfl rfl ?_
                  refine zv_bipush (v := nI (13)) dX7_forge_129 (by decide) ?_
                  refine cc_callV (As := [.int (nI (13))]) (st := []) (c := 6) dX7_forge_131 cvX7_45 (wW0_s40 W.1) rfl rfl rfl (by decide) (cc_c1 rfl cc_c0) (Nat.le_of_ble_eq_true rfl) (cC_refuse (d + 2) W.1 (nI (13))) (fun v s1 I1 J1 R1 q => ?_)
                  obtain ⟨rfl, rfl, rfl, rfl, rfl⟩ := q
                  show zv_V _ _ _ _ _ 134 [.ref 40, .int (nI (r)), .int (nI (i)), .int (nI (3)), .int (n), .null] [.int ((-1 : Int32))] _ _ _ _ _
                  refine zv_goto (tgt := 143) dX7_forge_134 (by decide) ?_
                  refine zv_iret dX7_forge_143 rfl rfl ?_
                  rw [e0]
                  show cc_p (p_fg a (none) n 3).1 sh (zv_u I 40 9 (p_fg a (none) n 3).2) J R _ _ _ _ _
                  rw [show p_fg a (none) n 3 = p_no 13 from if_pos (Int32.not_le.mp h125)]
                  exact ⟨rfl, rfl, rfl, rfl, rfl⟩
              · refine zv_tableIn (off := 95) (tgt := 144) dX7_forge_49 (by decide) (by decide) (by decide) (by decide) ?_
                refine zv_aload_n dX7_forge_144 rfl rfl ?_
                refine zv_aloadN dX7_forge_145 rfl ?_
                refine zv_iload dX7_forge_147 rfl ?_
                refine cc_callV (As := [.null, .int (n)]) (st := []) (c := 6) dX7_forge_149 cvX7_211 (wW0_s40 W.1) rfl rfl rfl (by decide) (cc_c1 rfl (cc_c1 rfl cc_c0)) (Nat.le_of_ble_eq_true rfl) (cC_forgeCopy_0 d RL0 hn) (fun v s1 I1 J1 R1 q => ?_)
                obtain ⟨rfl, rfl, rfl, rfl, rfl⟩ := q
                show zv_V _ _ _ _ _ 152 [.ref 40, .int (nI (r)), .int (nI (i)), .int (nI (4)), .int (n), .null] [.int ((p_fK a n 4 (none)).1)] _ _ _ _ _
                refine zv_iret dX7_forge_152 rfl rfl ?_
                rw [e0]
                show cc_p (p_fg a (none) n 4).1 sh (zv_u I 40 9 (p_fg a (none) n 4).2) J R _ _ _ _ _
                exact ⟨rfl, rfl, rfl, rfl, rfl⟩
              · refine zv_tableIn (off := 104) (tgt := 153) dX7_forge_49 (by decide) (by decide) (by decide) (by decide) ?_
                refine zv_aload_n dX7_forge_153 rfl rfl ?_
                refine zv_aloadN dX7_forge_154 rfl ?_
                refine cc_callV (As := [.null]) (st := []) (c := 6) dX7_forge_156 cvX7_214 (wW0_s40 W.1) rfl rfl rfl (by decide) (cc_c1 rfl cc_c0) (Nat.le_of_ble_eq_true rfl) (cC_forgeStore_0 d RL0) (fun v s1 I1 J1 R1 q => ?_)
                obtain ⟨rfl, rfl, rfl, rfl, rfl⟩ := q
                show zv_V _ _ _ _ _ 159 [.ref 40, .int (nI (r)), .int (nI (i)), .int (nI (5)), .int (n), .null] [.int ((p_fS a (none)).1)] _ _ _ _ _
                refine zv_iret dX7_forge_159 rfl rfl ?_
                rw [e0]
                show cc_p (p_fg a (none) n 5).1 sh (zv_u I 40 9 (p_fg a (none) n 5).2) J R _ _ _ _ _
                exact ⟨rfl, rfl, rfl, rfl, rfl⟩
              · refine zv_tableIn (off := 111) (tgt := 160) dX7_forge_49 (by decide) (by decide) (by decide) (by decide) ?_
                refine zv_iload dX7_forge_160 rfl ?_
                refine zv_if_ne (tgt := 174) dX7_forge_162 (by decide) (fun h162 => ?_) (fun h162 => ?_)
                · refine zv_aload_n dX7_forge_174 rfl rfl ?_
                  refine zv_bipush (v := nI (100)) dX7_forge_175 (by decide) ?_
                  refine zv_iload dX7_forge_177 rfl ?_
                  refine zv_idiv dX7_forge_179 h162 ?_
                  refine cc_callV (As := [.int (((nI (100)) / (n)))]) (st := []) (c := 6) dX7_forge_180 cvX7_50 (wW0_s40 W.1) rfl rfl rfl (by decide) (cc_c1 rfl cc_c0) (Nat.le_of_ble_eq_true rfl) (cC_done (d + 2) W.1 (((nI (100)) / (n)))) (fun v s1 I1 J1 R1 q => ?_)
                  obtain ⟨rfl, rfl, rfl, rfl, rfl⟩ := q
                  show zv_V _ _ _ _ _ 183 [.ref 40, .int (nI (r)), .int (nI (i)), .int (nI (6)), .int (n), .null] [.int (((nI (100)) / (n)))] _ _ _ _ _
                  refine zv_iret dX7_forge_183 rfl rfl ?_
                  rw [e0]
                  show cc_p (p_fg a (none) n 6).1 sh (zv_u I 40 9 (p_fg a (none) n 6).2) J R _ _ _ _ _
                  rw [show p_fg a (none) n 6 = p_ok (nI 100 / n) from if_neg h162]
                  exact ⟨rfl, rfl, rfl, rfl, rfl⟩
                · refine zv_aload_n dX7_forge_165 rfl rfl ?_
                  refine zv_bipush (v := nI (15)) dX7_forge_166 (by decide) ?_
                  refine cc_callV (As := [.int (nI (15))]) (st := []) (c := 6) dX7_forge_168 cvX7_45 (wW0_s40 W.1) rfl rfl rfl (by decide) (cc_c1 rfl cc_c0) (Nat.le_of_ble_eq_true rfl) (cC_refuse (d + 2) W.1 (nI (15))) (fun v s1 I1 J1 R1 q => ?_)
                  obtain ⟨rfl, rfl, rfl, rfl, rfl⟩ := q
                  show zv_V _ _ _ _ _ 171 [.ref 40, .int (nI (r)), .int (nI (i)), .int (nI (6)), .int (n), .null] [.int ((-1 : Int32))] _ _ _ _ _
                  refine zv_goto (tgt := 183) dX7_forge_171 (by decide) ?_
                  refine zv_iret dX7_forge_183 rfl rfl ?_
                  rw [e0]
                  show cc_p (p_fg a (none) n 6).1 sh (zv_u I 40 9 (p_fg a (none) n 6).2) J R _ _ _ _ _
                  rw [show p_fg a (none) n 6 = p_no 15 from if_pos h162]
                  exact ⟨rfl, rfl, rfl, rfl, rfl⟩
              · refine zv_tableIn (off := 135) (tgt := 184) dX7_forge_49 (by decide) (by decide) (by decide) (by decide) ?_
                refine zv_iload dX7_forge_184 rfl ?_
                refine zv_iconst (v := nI (1)) dX7_forge_186 (by decide) ?_
                refine zv_iand dX7_forge_187 ?_
                refine zv_if_ne (tgt := 200) dX7_forge_188 (by decide) (fun h188 => ?_) (fun h188 => ?_)
                · refine zv_aload_n dX7_forge_200 rfl rfl ?_
                  refine zv_iconst (v := nI (1)) dX7_forge_201 (by decide) ?_
                  refine cc_callV (As := [.int (nI (1))]) (st := []) (c := 6) dX7_forge_202 cvX7_50 (wW0_s40 W.1) rfl rfl rfl (by decide) (cc_c1 rfl cc_c0) (Nat.le_of_ble_eq_true rfl) (cC_done (d + 2) W.1 (nI (1))) (fun v s1 I1 J1 R1 q => ?_)
                  obtain ⟨rfl, rfl, rfl, rfl, rfl⟩ := q
                  show zv_V _ _ _ _ _ 205 [.ref 40, .int (nI (r)), .int (nI (i)), .int (nI (7)), .int (n), .null] [.int (nI (1))] _ _ _ _ _
                  refine zv_iret dX7_forge_205 rfl rfl ?_
                  rw [e0]
                  show cc_p (p_fg a (none) n 7).1 sh (zv_u I 40 9 (p_fg a (none) n 7).2) J R _ _ _ _ _
                  rw [show p_fg a (none) n 7 = p_ok (nI 1) from if_neg h188]
                  exact ⟨rfl, rfl, rfl, rfl, rfl⟩
                · refine zv_aload_n dX7_forge_191 rfl rfl ?_
                  refine zv_bipush (v := nI (10)) dX7_forge_192 (by decide) ?_
                  refine cc_callV (As := [.int (nI (10))]) (st := []) (c := 6) dX7_forge_194 cvX7_45 (wW0_s40 W.1) rfl rfl rfl (by decide) (cc_c1 rfl cc_c0) (Nat.le_of_ble_eq_true rfl) (cC_refuse (d + 2) W.1 (nI (10))) (fun v s1 I1 J1 R1 q => ?_)
                  obtain ⟨rfl, rfl, rfl, rfl, rfl⟩ := q
                  show zv_V _ _ _ _ _ 197 [.ref 40, .int (nI (r)), .int (nI (i)), .int (nI (7)), .int (n), .null] [.int ((-1 : Int32))] _ _ _ _ _
                  refine zv_goto (tgt := 205) dX7_forge_197 (by decide) ?_
                  refine zv_iret dX7_forge_205 rfl rfl ?_
                  rw [e0]
                  show cc_p (p_fg a (none) n 7).1 sh (zv_u I 40 9 (p_fg a (none) n 7).2) J R _ _ _ _ _
                  rw [show p_fg a (none) n 7 = p_no 10 from if_pos h188]
                  exact ⟨rfl, rfl, rfl, rfl, rfl⟩
          · refine zv_aald (j := i) (o := some (300 + 3 * l)) dX7_forge_45 (wWM_s6 (W.2.1 r (by omega)).2) (by decide) (by decide) (rfl) (show i < 40 from by omega) (by decide) (by rw [xM_t (RM r hr) i hi, e0]; rfl) ?_
            show zv_V _ _ _ _ _ 46 [.ref 40, .int (nI (r)), .int (nI (i)), .int (z), .int (n)] [.ref (300 + 3 * l)] _ _ _ _ _
            refine zv_astore (lv' := [.ref 40, .int (nI (r)), .int (nI (i)), .int (z), .int (n), .ref (300 + 3 * l)]) dX7_forge_46 (by decide) rfl ?_
            refine zv_iload_n dX7_forge_48 rfl rfl ?_
            cases hsw : rm_lt z 8 with
            | false =>
              refine zv_tableOut (tgt := 206) dX7_forge_49 (rm_lt_out hsw) (by decide) ?_
              refine zv_aload_n dX7_forge_206 rfl rfl ?_
              refine zv_iconst (v := nI (1)) dX7_forge_207 (by decide) ?_
              refine cc_callV (As := [.int (nI (1))]) (st := []) (c := 6) dX7_forge_208 cvX7_45 (wW0_s40 W.1) rfl rfl rfl (by decide) (cc_c1 rfl cc_c0) (Nat.le_of_ble_eq_true rfl) (cC_refuse (d + 2) W.1 (nI (1))) (fun v s1 I1 J1 R1 q => ?_)
              obtain ⟨rfl, rfl, rfl, rfl, rfl⟩ := q
              show zv_V _ _ _ _ _ 211 [.ref 40, .int (nI (r)), .int (nI (i)), .int (z), .int (n), .ref (300 + 3 * l)] [.int ((-1 : Int32))] _ _ _ _ _
              refine zv_iret dX7_forge_211 rfl rfl ?_
              rw [if_neg (by decide)]
              exact ⟨rfl, rfl, rfl, rfl, rfl⟩
            | true =>
              obtain ⟨jsw, hjsw, rfl⟩ := rm_lt_t hsw (by decide)
              rcases (show jsw = 0 ∨ jsw = 1 ∨ jsw = 2 ∨ jsw = 3 ∨ jsw = 4 ∨ jsw = 5 ∨ jsw = 6 ∨ jsw = 7 by omega) with rfl | rfl | rfl | rfl | rfl | rfl | rfl | rfl
              · refine zv_tableIn (off := 47) (tgt := 96) dX7_forge_49 (by decide) (by decide) (by decide) (by decide) ?_
                refine zv_aload_n dX7_forge_96 rfl rfl ?_
                refine zv_aload dX7_forge_97 rfl ?_
                refine zv_iload dX7_forge_99 rfl ?_
                refine cc_callV (As := [.ref (300 + 3 * l), .int (n)]) (st := []) (c := 6) dX7_forge_101 cvX7_201 (wW0_s40 W.1) rfl rfl rfl (by decide) (cc_c1 rfl (cc_c1 rfl cc_c0)) (Nat.le_of_ble_eq_true rfl) (cC_forgeSerial_l d RL0 hl (hkd l hl) hn) (fun v s1 I1 J1 R1 q => ?_)
                obtain ⟨rfl, rfl, rfl, rfl, rfl⟩ := q
                show zv_V _ _ _ _ _ 104 [.ref 40, .int (nI (r)), .int (nI (i)), .int (nI (0)), .int (n), .ref (300 + 3 * l)] [.int ((p_fL a n (some (true, l))).1)] _ _ _ _ _
                refine zv_iret dX7_forge_104 rfl rfl ?_
                rw [e0]
                show cc_p (p_fg a (some (true, l)) n 0).1 sh (zv_u I 40 9 (p_fg a (some (true, l)) n 0).2) J R _ _ _ _ _
                exact ⟨rfl, rfl, rfl, rfl, rfl⟩
              · refine zv_tableIn (off := 56) (tgt := 105) dX7_forge_49 (by decide) (by decide) (by decide) (by decide) ?_
                refine zv_aload_n dX7_forge_105 rfl rfl ?_
                refine zv_aload dX7_forge_106 rfl ?_
                refine zv_iload dX7_forge_108 rfl ?_
                refine cc_callV (As := [.ref (300 + 3 * l), .int (n)]) (st := []) (c := 6) dX7_forge_110 cvX7_205 (wW0_s40 W.1) rfl rfl rfl (by decide) (cc_c1 rfl (cc_c1 rfl cc_c0)) (Nat.le_of_ble_eq_true rfl) (cC_forgeCount_l d RL0 hl (hkd l hl) hn) (fun v s1 I1 J1 R1 q => ?_)
                obtain ⟨rfl, rfl, rfl, rfl, rfl⟩ := q
                show zv_V _ _ _ _ _ 113 [.ref 40, .int (nI (r)), .int (nI (i)), .int (nI (1)), .int (n), .ref (300 + 3 * l)] [.int ((p_fK a n 1 (some (true, l))).1)] _ _ _ _ _
                refine zv_iret dX7_forge_113 rfl rfl ?_
                rw [e0]
                show cc_p (p_fg a (some (true, l)) n 1).1 sh (zv_u I 40 9 (p_fg a (some (true, l)) n 1).2) J R _ _ _ _ _
                exact ⟨rfl, rfl, rfl, rfl, rfl⟩
              · refine zv_tableIn (off := 65) (tgt := 114) dX7_forge_49 (by decide) (by decide) (by decide) (by decide) ?_
                refine zv_aload_n dX7_forge_114 rfl rfl ?_
                refine zv_aload dX7_forge_115 rfl ?_
                refine zv_iload dX7_forge_117 rfl ?_
                refine cc_callV (As := [.ref (300 + 3 * l), .int (n)]) (st := []) (c := 6) dX7_forge_119 cvX7_208 (wW0_s40 W.1) rfl rfl rfl (by decide) (cc_c1 rfl (cc_c1 rfl cc_c0)) (Nat.le_of_ble_eq_true rfl) (cC_forgeRowSum_l d RL0 hl (hkd l hl) hn) (fun v s1 I1 J1 R1 q => ?_)
                obtain ⟨rfl, rfl, rfl, rfl, rfl⟩ := q
                show zv_V _ _ _ _ _ 122 [.ref 40, .int (nI (r)), .int (nI (i)), .int (nI (2)), .int (n), .ref (300 + 3 * l)] [.int ((p_fK a n 2 (some (true, l))).1)] _ _ _ _ _
                refine zv_iret dX7_forge_122 rfl rfl ?_
                rw [e0]
                show cc_p (p_fg a (some (true, l)) n 2).1 sh (zv_u I 40 9 (p_fg a (some (true, l)) n 2).2) J R _ _ _ _ _
                exact ⟨rfl, rfl, rfl, rfl, rfl⟩
              · refine zv_tableIn (off := 74) (tgt := 123) dX7_forge_49 (by decide) (by decide) (by decide) (by decide) ?_
                refine zv_iload dX7_forge_123 rfl ?_
                refine zv_if_ge (tgt := 137) dX7_forge_125 (by decide) (fun h125 => ?_) (fun h125 => ?_)
                · refine zv_aload_n dX7_forge_137 rfl rfl ?_
                  refine zv_iload dX7_forge_138 rfl ?_
                  refine cc_callV (As := [.int (n)]) (st := []) (c := 6) dX7_forge_140 cvX7_50 (wW0_s40 W.1) rfl rfl rfl (by decide) (cc_c1 rfl cc_c0) (Nat.le_of_ble_eq_true rfl) (cC_done (d + 2) W.1 n) (fun v s1 I1 J1 R1 q => ?_)
                  obtain ⟨rfl, rfl, rfl, rfl, rfl⟩ := q
                  show zv_V _ _ _ _ _ 143 [.ref 40, .int (nI (r)), .int (nI (i)), .int (nI (3)), .int (n), .ref (300 + 3 * l)] [.int (n)] _ _ _ _ _
                  refine zv_iret dX7_forge_143 rfl rfl ?_
                  rw [e0]
                  show cc_p (p_fg a (some (true, l)) n 3).1 sh (zv_u I 40 9 (p_fg a (some (true, l)) n 3).2) J R _ _ _ _ _
                  rw [show p_fg a (some (true, l)) n 3 = p_ok n from if_neg (Int32.not_lt.mpr h125)]
                  exact ⟨rfl, rfl, rfl, rfl, rfl⟩
                · refine zv_aload_n dX7_forge_128 rfl rfl ?_
                  refine zv_bipush (v := nI (13)) dX7_forge_129 (by decide) ?_
                  refine cc_callV (As := [.int (nI (13))]) (st := []) (c := 6) dX7_forge_131 cvX7_45 (wW0_s40 W.1) rfl rfl rfl (by decide) (cc_c1 rfl cc_c0) (Nat.le_of_ble_eq_true rfl) (cC_refuse (d + 2) W.1 (nI (13))) (fun v s1 I1 J1 R1 q => ?_)
                  obtain ⟨rfl, rfl, rfl, rfl, rfl⟩ := q
                  show zv_V _ _ _ _ _ 134 [.ref 40, .int (nI (r)), .int (nI (i)), .int (nI (3)), .int (n), .ref (300 + 3 * l)] [.int ((-1 : Int32))] _ _ _ _ _
                  refine zv_goto (tgt := 143) dX7_forge_134 (by decide) ?_
                  refine zv_iret dX7_forge_143 rfl rfl ?_
                  rw [e0]
                  show cc_p (p_fg a (some (true, l)) n 3).1 sh (zv_u I 40 9 (p_fg a (some (true, l)) n 3).2) J R _ _ _ _ _
                  rw [show p_fg a (some (true, l)) n 3 = p_no 13 from if_pos (Int32.not_le.mp h125)]
                  exact ⟨rfl, rfl, rfl, rfl, rfl⟩
              · refine zv_tableIn (off := 95) (tgt := 144) dX7_forge_49 (by decide) (by decide) (by decide) (by decide) ?_
                refine zv_aload_n dX7_forge_144 rfl rfl ?_
                refine zv_aload dX7_forge_145 rfl ?_
                refine zv_iload dX7_forge_147 rfl ?_
                refine cc_callV (As := [.ref (300 + 3 * l), .int (n)]) (st := []) (c := 6) dX7_forge_149 cvX7_211 (wW0_s40 W.1) rfl rfl rfl (by decide) (cc_c1 rfl (cc_c1 rfl cc_c0)) (Nat.le_of_ble_eq_true rfl) (cC_forgeCopy_l d RL0 hl (hkd l hl) hn) (fun v s1 I1 J1 R1 q => ?_)
                obtain ⟨rfl, rfl, rfl, rfl, rfl⟩ := q
                show zv_V _ _ _ _ _ 152 [.ref 40, .int (nI (r)), .int (nI (i)), .int (nI (4)), .int (n), .ref (300 + 3 * l)] [.int ((p_fK a n 4 (some (true, l))).1)] _ _ _ _ _
                refine zv_iret dX7_forge_152 rfl rfl ?_
                rw [e0]
                show cc_p (p_fg a (some (true, l)) n 4).1 sh (zv_u I 40 9 (p_fg a (some (true, l)) n 4).2) J R _ _ _ _ _
                exact ⟨rfl, rfl, rfl, rfl, rfl⟩
              · refine zv_tableIn (off := 104) (tgt := 153) dX7_forge_49 (by decide) (by decide) (by decide) (by decide) ?_
                refine zv_aload_n dX7_forge_153 rfl rfl ?_
                refine zv_aload dX7_forge_154 rfl ?_
                refine cc_callV (As := [.ref (300 + 3 * l)]) (st := []) (c := 6) dX7_forge_156 cvX7_214 (wW0_s40 W.1) rfl rfl rfl (by decide) (cc_c1 rfl cc_c0) (Nat.le_of_ble_eq_true rfl) (cC_forgeStore_l d RL0 hl (hkd l hl)) (fun v s1 I1 J1 R1 q => ?_)
                obtain ⟨rfl, rfl, rfl, rfl, rfl⟩ := q
                show zv_V _ _ _ _ _ 159 [.ref 40, .int (nI (r)), .int (nI (i)), .int (nI (5)), .int (n), .ref (300 + 3 * l)] [.int ((p_fS a (some (true, l))).1)] _ _ _ _ _
                refine zv_iret dX7_forge_159 rfl rfl ?_
                rw [e0]
                show cc_p (p_fg a (some (true, l)) n 5).1 sh (zv_u I 40 9 (p_fg a (some (true, l)) n 5).2) J R _ _ _ _ _
                exact ⟨rfl, rfl, rfl, rfl, rfl⟩
              · refine zv_tableIn (off := 111) (tgt := 160) dX7_forge_49 (by decide) (by decide) (by decide) (by decide) ?_
                refine zv_iload dX7_forge_160 rfl ?_
                refine zv_if_ne (tgt := 174) dX7_forge_162 (by decide) (fun h162 => ?_) (fun h162 => ?_)
                · refine zv_aload_n dX7_forge_174 rfl rfl ?_
                  refine zv_bipush (v := nI (100)) dX7_forge_175 (by decide) ?_
                  refine zv_iload dX7_forge_177 rfl ?_
                  refine zv_idiv dX7_forge_179 h162 ?_
                  refine cc_callV (As := [.int (((nI (100)) / (n)))]) (st := []) (c := 6) dX7_forge_180 cvX7_50 (wW0_s40 W.1) rfl rfl rfl (by decide) (cc_c1 rfl cc_c0) (Nat.le_of_ble_eq_true rfl) (cC_done (d + 2) W.1 (((nI (100)) / (n)))) (fun v s1 I1 J1 R1 q => ?_)
                  obtain ⟨rfl, rfl, rfl, rfl, rfl⟩ := q
                  show zv_V _ _ _ _ _ 183 [.ref 40, .int (nI (r)), .int (nI (i)), .int (nI (6)), .int (n), .ref (300 + 3 * l)] [.int (((nI (100)) / (n)))] _ _ _ _ _
                  refine zv_iret dX7_forge_183 rfl rfl ?_
                  rw [e0]
                  show cc_p (p_fg a (some (true, l)) n 6).1 sh (zv_u I 40 9 (p_fg a (some (true, l)) n 6).2) J R _ _ _ _ _
                  rw [show p_fg a (some (true, l)) n 6 = p_ok (nI 100 / n) from if_neg h162]
                  exact ⟨rfl, rfl, rfl, rfl, rfl⟩
                · refine zv_aload_n dX7_forge_165 rfl rfl ?_
                  refine zv_bipush (v := nI (15)) dX7_forge_166 (by decide) ?_
                  refine cc_callV (As := [.int (nI (15))]) (st := []) (c := 6) dX7_forge_168 cvX7_45 (wW0_s40 W.1) rfl rfl rfl (by decide) (cc_c1 rfl cc_c0) (Nat.le_of_ble_eq_true rfl) (cC_refuse (d + 2) W.1 (nI (15))) (fun v s1 I1 J1 R1 q => ?_)
                  obtain ⟨rfl, rfl, rfl, rfl, rfl⟩ := q
                  show zv_V _ _ _ _ _ 171 [.ref 40, .int (nI (r)), .int (nI (i)), .int (nI (6)), .int (n), .ref (300 + 3 * l)] [.int ((-1 : Int32))] _ _ _ _ _
                  refine zv_goto (tgt := 183) dX7_forge_171 (by decide) ?_
                  refine zv_iret dX7_forge_183 rfl rfl ?_
                  rw [e0]
                  show cc_p (p_fg a (some (true, l)) n 6).1 sh (zv_u I 40 9 (p_fg a (some (true, l)) n 6).2) J R _ _ _ _ _
                  rw [show p_fg a (some (true, l)) n 6 = p_no 15 from if_pos h162]
                  exact ⟨rfl, rfl, rfl, rfl, rfl⟩
              · refine zv_tableIn (off := 135) (tgt := 184) dX7_forge_49 (by decide) (by decide) (by decide) (by decide) ?_
                refine zv_iload dX7_forge_184 rfl ?_
                refine zv_iconst (v := nI (1)) dX7_forge_186 (by decide) ?_
                refine zv_iand dX7_forge_187 ?_
                refine zv_if_ne (tgt := 200) dX7_forge_188 (by decide) (fun h188 => ?_) (fun h188 => ?_)
                · refine zv_aload_n dX7_forge_200 rfl rfl ?_
                  refine zv_iconst (v := nI (1)) dX7_forge_201 (by decide) ?_
                  refine cc_callV (As := [.int (nI (1))]) (st := []) (c := 6) dX7_forge_202 cvX7_50 (wW0_s40 W.1) rfl rfl rfl (by decide) (cc_c1 rfl cc_c0) (Nat.le_of_ble_eq_true rfl) (cC_done (d + 2) W.1 (nI (1))) (fun v s1 I1 J1 R1 q => ?_)
                  obtain ⟨rfl, rfl, rfl, rfl, rfl⟩ := q
                  show zv_V _ _ _ _ _ 205 [.ref 40, .int (nI (r)), .int (nI (i)), .int (nI (7)), .int (n), .ref (300 + 3 * l)] [.int (nI (1))] _ _ _ _ _
                  refine zv_iret dX7_forge_205 rfl rfl ?_
                  rw [e0]
                  show cc_p (p_fg a (some (true, l)) n 7).1 sh (zv_u I 40 9 (p_fg a (some (true, l)) n 7).2) J R _ _ _ _ _
                  rw [show p_fg a (some (true, l)) n 7 = p_ok (nI 1) from if_neg h188]
                  exact ⟨rfl, rfl, rfl, rfl, rfl⟩
                · refine zv_aload_n dX7_forge_191 rfl rfl ?_
                  refine zv_bipush (v := nI (10)) dX7_forge_192 (by decide) ?_
                  refine cc_callV (As := [.int (nI (10))]) (st := []) (c := 6) dX7_forge_194 cvX7_45 (wW0_s40 W.1) rfl rfl rfl (by decide) (cc_c1 rfl cc_c0) (Nat.le_of_ble_eq_true rfl) (cC_refuse (d + 2) W.1 (nI (10))) (fun v s1 I1 J1 R1 q => ?_)
                  obtain ⟨rfl, rfl, rfl, rfl, rfl⟩ := q
                  show zv_V _ _ _ _ _ 197 [.ref 40, .int (nI (r)), .int (nI (i)), .int (nI (7)), .int (n), .ref (300 + 3 * l)] [.int ((-1 : Int32))] _ _ _ _ _
                  refine zv_goto (tgt := 205) dX7_forge_197 (by decide) ?_
                  refine zv_iret dX7_forge_205 rfl rfl ?_
                  rw [e0]
                  show cc_p (p_fg a (some (true, l)) n 7).1 sh (zv_u I 40 9 (p_fg a (some (true, l)) n 7).2) J R _ _ _ _ _
                  rw [show p_fg a (some (true, l)) n 7 = p_no 10 from if_pos h188]
                  exact ⟨rfl, rfl, rfl, rfl, rfl⟩
          · refine zv_aald (j := i) (o := some (1000 + 8 * cc_ck R l)) dX7_forge_45 (wWM_s6 (W.2.1 r (by omega)).2) (by decide) (by decide) (rfl) (show i < 40 from by omega) (by decide) (by rw [xM_t (RM r hr) i hi, e0]; rfl) ?_
            show zv_V _ _ _ _ _ 46 [.ref 40, .int (nI (r)), .int (nI (i)), .int (z), .int (n)] [.ref (1000 + 8 * cc_ck R l)] _ _ _ _ _
            refine zv_astore (lv' := [.ref 40, .int (nI (r)), .int (nI (i)), .int (z), .int (n), .ref (1000 + 8 * cc_ck R l)]) dX7_forge_46 (by decide) rfl ?_
            refine zv_iload_n dX7_forge_48 rfl rfl ?_
            cases hsw : rm_lt z 8 with
            | false =>
              refine zv_tableOut (tgt := 206) dX7_forge_49 (rm_lt_out hsw) (by decide) ?_
              refine zv_aload_n dX7_forge_206 rfl rfl ?_
              refine zv_iconst (v := nI (1)) dX7_forge_207 (by decide) ?_
              refine cc_callV (As := [.int (nI (1))]) (st := []) (c := 6) dX7_forge_208 cvX7_45 (wW0_s40 W.1) rfl rfl rfl (by decide) (cc_c1 rfl cc_c0) (Nat.le_of_ble_eq_true rfl) (cC_refuse (d + 2) W.1 (nI (1))) (fun v s1 I1 J1 R1 q => ?_)
              obtain ⟨rfl, rfl, rfl, rfl, rfl⟩ := q
              show zv_V _ _ _ _ _ 211 [.ref 40, .int (nI (r)), .int (nI (i)), .int (z), .int (n), .ref (1000 + 8 * cc_ck R l)] [.int ((-1 : Int32))] _ _ _ _ _
              refine zv_iret dX7_forge_211 rfl rfl ?_
              rw [if_neg (by decide)]
              exact ⟨rfl, rfl, rfl, rfl, rfl⟩
            | true =>
              obtain ⟨jsw, hjsw, rfl⟩ := rm_lt_t hsw (by decide)
              rcases (show jsw = 0 ∨ jsw = 1 ∨ jsw = 2 ∨ jsw = 3 ∨ jsw = 4 ∨ jsw = 5 ∨ jsw = 6 ∨ jsw = 7 by omega) with rfl | rfl | rfl | rfl | rfl | rfl | rfl | rfl
              · refine zv_tableIn (off := 47) (tgt := 96) dX7_forge_49 (by decide) (by decide) (by decide) (by decide) ?_
                refine zv_aload_n dX7_forge_96 rfl rfl ?_
                refine zv_aload dX7_forge_97 rfl ?_
                refine zv_iload dX7_forge_99 rfl ?_
                refine cc_callV (As := [.ref (1000 + 8 * cc_ck R l), .int (n)]) (st := []) (c := 6) dX7_forge_101 cvX7_201 (wW0_s40 W.1) rfl rfl rfl (by decide) (cc_c1 rfl (cc_c1 rfl cc_c0)) (Nat.le_of_ble_eq_true rfl) (cC_forgeSerial_c d RL0 hl (hhr l hl) hn) (fun v s1 I1 J1 R1 q => ?_)
                obtain ⟨rfl, rfl, rfl, rfl, rfl⟩ := q
                show zv_V _ _ _ _ _ 104 [.ref 40, .int (nI (r)), .int (nI (i)), .int (nI (0)), .int (n), .ref (1000 + 8 * cc_ck R l)] [.int ((p_fL a n (some (false, l))).1)] _ _ _ _ _
                refine zv_iret dX7_forge_104 rfl rfl ?_
                rw [e0]
                show cc_p (p_fg a (some (false, l)) n 0).1 sh (zv_u I 40 9 (p_fg a (some (false, l)) n 0).2) J R _ _ _ _ _
                exact ⟨rfl, rfl, rfl, rfl, rfl⟩
              · refine zv_tableIn (off := 56) (tgt := 105) dX7_forge_49 (by decide) (by decide) (by decide) (by decide) ?_
                refine zv_aload_n dX7_forge_105 rfl rfl ?_
                refine zv_aload dX7_forge_106 rfl ?_
                refine zv_iload dX7_forge_108 rfl ?_
                refine cc_callV (As := [.ref (1000 + 8 * cc_ck R l), .int (n)]) (st := []) (c := 6) dX7_forge_110 cvX7_205 (wW0_s40 W.1) rfl rfl rfl (by decide) (cc_c1 rfl (cc_c1 rfl cc_c0)) (Nat.le_of_ble_eq_true rfl) (cC_forgeCount_c d RL0 hl (hhr l hl) hn) (fun v s1 I1 J1 R1 q => ?_)
                obtain ⟨rfl, rfl, rfl, rfl, rfl⟩ := q
                show zv_V _ _ _ _ _ 113 [.ref 40, .int (nI (r)), .int (nI (i)), .int (nI (1)), .int (n), .ref (1000 + 8 * cc_ck R l)] [.int ((p_fK a n 1 (some (false, l))).1)] _ _ _ _ _
                refine zv_iret dX7_forge_113 rfl rfl ?_
                rw [e0]
                show cc_p (p_fg a (some (false, l)) n 1).1 sh (zv_u I 40 9 (p_fg a (some (false, l)) n 1).2) J R _ _ _ _ _
                exact ⟨rfl, rfl, rfl, rfl, rfl⟩
              · refine zv_tableIn (off := 65) (tgt := 114) dX7_forge_49 (by decide) (by decide) (by decide) (by decide) ?_
                refine zv_aload_n dX7_forge_114 rfl rfl ?_
                refine zv_aload dX7_forge_115 rfl ?_
                refine zv_iload dX7_forge_117 rfl ?_
                refine cc_callV (As := [.ref (1000 + 8 * cc_ck R l), .int (n)]) (st := []) (c := 6) dX7_forge_119 cvX7_208 (wW0_s40 W.1) rfl rfl rfl (by decide) (cc_c1 rfl (cc_c1 rfl cc_c0)) (Nat.le_of_ble_eq_true rfl) (cC_forgeRowSum_c d RL0 hl (hhr l hl) hn) (fun v s1 I1 J1 R1 q => ?_)
                obtain ⟨rfl, rfl, rfl, rfl, rfl⟩ := q
                show zv_V _ _ _ _ _ 122 [.ref 40, .int (nI (r)), .int (nI (i)), .int (nI (2)), .int (n), .ref (1000 + 8 * cc_ck R l)] [.int ((p_fK a n 2 (some (false, l))).1)] _ _ _ _ _
                refine zv_iret dX7_forge_122 rfl rfl ?_
                rw [e0]
                show cc_p (p_fg a (some (false, l)) n 2).1 sh (zv_u I 40 9 (p_fg a (some (false, l)) n 2).2) J R _ _ _ _ _
                exact ⟨rfl, rfl, rfl, rfl, rfl⟩
              · refine zv_tableIn (off := 74) (tgt := 123) dX7_forge_49 (by decide) (by decide) (by decide) (by decide) ?_
                refine zv_iload dX7_forge_123 rfl ?_
                refine zv_if_ge (tgt := 137) dX7_forge_125 (by decide) (fun h125 => ?_) (fun h125 => ?_)
                · refine zv_aload_n dX7_forge_137 rfl rfl ?_
                  refine zv_iload dX7_forge_138 rfl ?_
                  refine cc_callV (As := [.int (n)]) (st := []) (c := 6) dX7_forge_140 cvX7_50 (wW0_s40 W.1) rfl rfl rfl (by decide) (cc_c1 rfl cc_c0) (Nat.le_of_ble_eq_true rfl) (cC_done (d + 2) W.1 n) (fun v s1 I1 J1 R1 q => ?_)
                  obtain ⟨rfl, rfl, rfl, rfl, rfl⟩ := q
                  show zv_V _ _ _ _ _ 143 [.ref 40, .int (nI (r)), .int (nI (i)), .int (nI (3)), .int (n), .ref (1000 + 8 * cc_ck R l)] [.int (n)] _ _ _ _ _
                  refine zv_iret dX7_forge_143 rfl rfl ?_
                  rw [e0]
                  show cc_p (p_fg a (some (false, l)) n 3).1 sh (zv_u I 40 9 (p_fg a (some (false, l)) n 3).2) J R _ _ _ _ _
                  rw [show p_fg a (some (false, l)) n 3 = p_ok n from if_neg (Int32.not_lt.mpr h125)]
                  exact ⟨rfl, rfl, rfl, rfl, rfl⟩
                · refine zv_aload_n dX7_forge_128 rfl rfl ?_
                  refine zv_bipush (v := nI (13)) dX7_forge_129 (by decide) ?_
                  refine cc_callV (As := [.int (nI (13))]) (st := []) (c := 6) dX7_forge_131 cvX7_45 (wW0_s40 W.1) rfl rfl rfl (by decide) (cc_c1 rfl cc_c0) (Nat.le_of_ble_eq_true rfl) (cC_refuse (d + 2) W.1 (nI (13))) (fun v s1 I1 J1 R1 q => ?_)
                  obtain ⟨rfl, rfl, rfl, rfl, rfl⟩ := q
                  show zv_V _ _ _ _ _ 134 [.ref 40, .int (nI (r)), .int (nI (i)), .int (nI (3)), .int (n), .ref (1000 + 8 * cc_ck R l)] [.int ((-1 : Int32))] _ _ _ _ _
                  refine zv_goto (tgt := 143) dX7_forge_134 (by decide) ?_
                  refine zv_iret dX7_forge_143 rfl rfl ?_
                  rw [e0]
                  show cc_p (p_fg a (some (false, l)) n 3).1 sh (zv_u I 40 9 (p_fg a (some (false, l)) n 3).2) J R _ _ _ _ _
                  rw [show p_fg a (some (false, l)) n 3 = p_no 13 from if_pos (Int32.not_le.mp h125)]
                  exact ⟨rfl, rfl, rfl, rfl, rfl⟩
              · refine zv_tableIn (off := 95) (tgt := 144) dX7_forge_49 (by decide) (by decide) (by decide) (by decide) ?_
                refine zv_aload_n dX7_forge_144 rfl rfl ?_
                refine zv_aload dX7_forge_145 rfl ?_
                refine zv_iload dX7_forge_147 rfl ?_
                refine cc_callV (As := [.ref (1000 + 8 * cc_ck R l), .int (n)]) (st := []) (c := 6) dX7_forge_149 cvX7_211 (wW0_s40 W.1) rfl rfl rfl (by decide) (cc_c1 rfl (cc_c1 rfl cc_c0)) (Nat.le_of_ble_eq_true rfl) (cC_forgeCopy_c d RL0 hl (hhr l hl) hn) (fun v s1 I1 J1 R1 q => ?_)
                obtain ⟨rfl, rfl, rfl, rfl, rfl⟩ := q
                show zv_V _ _ _ _ _ 152 [.ref 40, .int (nI (r)), .int (nI (i)), .int (nI (4)), .int (n), .ref (1000 + 8 * cc_ck R l)] [.int ((p_fK a n 4 (some (false, l))).1)] _ _ _ _ _
                refine zv_iret dX7_forge_152 rfl rfl ?_
                rw [e0]
                show cc_p (p_fg a (some (false, l)) n 4).1 sh (zv_u I 40 9 (p_fg a (some (false, l)) n 4).2) J R _ _ _ _ _
                exact ⟨rfl, rfl, rfl, rfl, rfl⟩
              · refine zv_tableIn (off := 104) (tgt := 153) dX7_forge_49 (by decide) (by decide) (by decide) (by decide) ?_
                refine zv_aload_n dX7_forge_153 rfl rfl ?_
                refine zv_aload dX7_forge_154 rfl ?_
                refine cc_callV (As := [.ref (1000 + 8 * cc_ck R l)]) (st := []) (c := 6) dX7_forge_156 cvX7_214 (wW0_s40 W.1) rfl rfl rfl (by decide) (cc_c1 rfl cc_c0) (Nat.le_of_ble_eq_true rfl) (cC_forgeStore_c d RL0 hl (hhr l hl)) (fun v s1 I1 J1 R1 q => ?_)
                obtain ⟨rfl, rfl, rfl, rfl, rfl⟩ := q
                show zv_V _ _ _ _ _ 159 [.ref 40, .int (nI (r)), .int (nI (i)), .int (nI (5)), .int (n), .ref (1000 + 8 * cc_ck R l)] [.int ((p_fS a (some (false, l))).1)] _ _ _ _ _
                refine zv_iret dX7_forge_159 rfl rfl ?_
                rw [e0]
                show cc_p (p_fg a (some (false, l)) n 5).1 sh (zv_u I 40 9 (p_fg a (some (false, l)) n 5).2) J R _ _ _ _ _
                exact ⟨rfl, rfl, rfl, rfl, rfl⟩
              · refine zv_tableIn (off := 111) (tgt := 160) dX7_forge_49 (by decide) (by decide) (by decide) (by decide) ?_
                refine zv_iload dX7_forge_160 rfl ?_
                refine zv_if_ne (tgt := 174) dX7_forge_162 (by decide) (fun h162 => ?_) (fun h162 => ?_)
                · refine zv_aload_n dX7_forge_174 rfl rfl ?_
                  refine zv_bipush (v := nI (100)) dX7_forge_175 (by decide) ?_
                  refine zv_iload dX7_forge_177 rfl ?_
                  refine zv_idiv dX7_forge_179 h162 ?_
                  refine cc_callV (As := [.int (((nI (100)) / (n)))]) (st := []) (c := 6) dX7_forge_180 cvX7_50 (wW0_s40 W.1) rfl rfl rfl (by decide) (cc_c1 rfl cc_c0) (Nat.le_of_ble_eq_true rfl) (cC_done (d + 2) W.1 (((nI (100)) / (n)))) (fun v s1 I1 J1 R1 q => ?_)
                  obtain ⟨rfl, rfl, rfl, rfl, rfl⟩ := q
                  show zv_V _ _ _ _ _ 183 [.ref 40, .int (nI (r)), .int (nI (i)), .int (nI (6)), .int (n), .ref (1000 + 8 * cc_ck R l)] [.int (((nI (100)) / (n)))] _ _ _ _ _
                  refine zv_iret dX7_forge_183 rfl rfl ?_
                  rw [e0]
                  show cc_p (p_fg a (some (false, l)) n 6).1 sh (zv_u I 40 9 (p_fg a (some (false, l)) n 6).2) J R _ _ _ _ _
                  rw [show p_fg a (some (false, l)) n 6 = p_ok (nI 100 / n) from if_neg h162]
                  exact ⟨rfl, rfl, rfl, rfl, rfl⟩
                · refine zv_aload_n dX7_forge_165 rfl rfl ?_
                  refine zv_bipush (v := nI (15)) dX7_forge_166 (by decide) ?_
                  refine cc_callV (As := [.int (nI (15))]) (st := []) (c := 6) dX7_forge_168 cvX7_45 (wW0_s40 W.1) rfl rfl rfl (by decide) (cc_c1 rfl cc_c0) (Nat.le_of_ble_eq_true rfl) (cC_refuse (d + 2) W.1 (nI (15))) (fun v s1 I1 J1 R1 q => ?_)
                  obtain ⟨rfl, rfl, rfl, rfl, rfl⟩ := q
                  show zv_V _ _ _ _ _ 171 [.ref 40, .int (nI (r)), .int (nI (i)), .int (nI (6)), .int (n), .ref (1000 + 8 * cc_ck R l)] [.int ((-1 : Int32))] _ _ _ _ _
                  refine zv_goto (tgt := 183) dX7_forge_171 (by decide) ?_
                  refine zv_iret dX7_forge_183 rfl rfl ?_
                  rw [e0]
                  show cc_p (p_fg a (some (false, l)) n 6).1 sh (zv_u I 40 9 (p_fg a (some (false, l)) n 6).2) J R _ _ _ _ _
                  rw [show p_fg a (some (false, l)) n 6 = p_no 15 from if_pos h162]
                  exact ⟨rfl, rfl, rfl, rfl, rfl⟩
              · refine zv_tableIn (off := 135) (tgt := 184) dX7_forge_49 (by decide) (by decide) (by decide) (by decide) ?_
                refine zv_iload dX7_forge_184 rfl ?_
                refine zv_iconst (v := nI (1)) dX7_forge_186 (by decide) ?_
                refine zv_iand dX7_forge_187 ?_
                refine zv_if_ne (tgt := 200) dX7_forge_188 (by decide) (fun h188 => ?_) (fun h188 => ?_)
                · refine zv_aload_n dX7_forge_200 rfl rfl ?_
                  refine zv_iconst (v := nI (1)) dX7_forge_201 (by decide) ?_
                  refine cc_callV (As := [.int (nI (1))]) (st := []) (c := 6) dX7_forge_202 cvX7_50 (wW0_s40 W.1) rfl rfl rfl (by decide) (cc_c1 rfl cc_c0) (Nat.le_of_ble_eq_true rfl) (cC_done (d + 2) W.1 (nI (1))) (fun v s1 I1 J1 R1 q => ?_)
                  obtain ⟨rfl, rfl, rfl, rfl, rfl⟩ := q
                  show zv_V _ _ _ _ _ 205 [.ref 40, .int (nI (r)), .int (nI (i)), .int (nI (7)), .int (n), .ref (1000 + 8 * cc_ck R l)] [.int (nI (1))] _ _ _ _ _
                  refine zv_iret dX7_forge_205 rfl rfl ?_
                  rw [e0]
                  show cc_p (p_fg a (some (false, l)) n 7).1 sh (zv_u I 40 9 (p_fg a (some (false, l)) n 7).2) J R _ _ _ _ _
                  rw [show p_fg a (some (false, l)) n 7 = p_ok (nI 1) from if_neg h188]
                  exact ⟨rfl, rfl, rfl, rfl, rfl⟩
                · refine zv_aload_n dX7_forge_191 rfl rfl ?_
                  refine zv_bipush (v := nI (10)) dX7_forge_192 (by decide) ?_
                  refine cc_callV (As := [.int (nI (10))]) (st := []) (c := 6) dX7_forge_194 cvX7_45 (wW0_s40 W.1) rfl rfl rfl (by decide) (cc_c1 rfl cc_c0) (Nat.le_of_ble_eq_true rfl) (cC_refuse (d + 2) W.1 (nI (10))) (fun v s1 I1 J1 R1 q => ?_)
                  obtain ⟨rfl, rfl, rfl, rfl, rfl⟩ := q
                  show zv_V _ _ _ _ _ 197 [.ref 40, .int (nI (r)), .int (nI (i)), .int (nI (7)), .int (n), .ref (1000 + 8 * cc_ck R l)] [.int ((-1 : Int32))] _ _ _ _ _
                  refine zv_goto (tgt := 205) dX7_forge_197 (by decide) ?_
                  refine zv_iret dX7_forge_205 rfl rfl ?_
                  rw [e0]
                  show cc_p (p_fg a (some (false, l)) n 7).1 sh (zv_u I 40 9 (p_fg a (some (false, l)) n 7).2) J R _ _ _ _ _
                  rw [show p_fg a (some (false, l)) n 7 = p_no 10 from if_pos h188]
                  exact ⟨rfl, rfl, rfl, rfl, rfl⟩
        · refine zv_aload_n dX7_forge_29 rfl rfl ?_
          refine zv_iconst (v := nI (1)) dX7_forge_30 (by decide) ?_
          refine cc_callV (As := [.int (nI (1))]) (st := []) (c := 6) dX7_forge_31 cvX7_45 (wW0_s40 W.1) rfl rfl rfl (by decide) (cc_c1 rfl cc_c0) (Nat.le_of_ble_eq_true rfl) (cC_refuse (d + 2) W.1 (nI (1))) (fun v s1 I1 J1 R1 q => ?_)
          obtain ⟨rfl, rfl, rfl, rfl, rfl⟩ := q
          show zv_V _ _ _ _ _ 34 [.ref 40, .int (nI (r)), .int (nI (i)), .int (z), .int (n)] [.int ((-1 : Int32))] _ _ _ _ _
          refine zv_iret dX7_forge_34 rfl rfl ?_
          rw [show q_fg a nm _ _ z n = p_no 1 from by unfold q_fg; rw [show rm_hun n = false from decide_eq_false (fun q => h26 q.2), Bool.and_false, Bool.and_false, Bool.and_false]; rfl]
          exact ⟨rfl, rfl, rfl, rfl, rfl⟩
