def cr_wsd (b : Bool) (x : Nat) : Int32 := if x = 2 then (if b = true then nI 0 else nI 1) else -2
theorem cC_whySealed (d : Nat) {E : zv_E} {sh : zv_S} {I : zv_I} {J : zv_J} {R : zv_R} {a : zv_I} {nm nc nl : Nat} (RL : cr_R sh I J R a nm nc nl) {r l : Nat} (hr : r < nm) (hl : l < nl) {x : Nat} (hx : x < 3) : zv_V E mX7_whySealed (d + 3) 0 0 0 [.ref 40, .int (nI r), .ref (300 + 3 * l), .int (nI x)] [] sh I J R (cc_p (cr_wsd (cc_lor I nl r l) x) sh I J R) := by
  obtain ⟨B, RT, RC, RLt, RM⟩ := RL
  have B0 := B
  obtain ⟨W, n5, b5, n6, b6, n7, b7, LF⟩ := B
  have LC : ∀ l, l < nl → I (300 + 3 * l) 2 = nI (rm_ci a l) ∧ rm_ci a l < nc := cr_lci B0 RLt
  have LW : ∀ l, l < nl → I (300 + 3 * l) 3 = nI (rm_wr a l) ∧ rm_wr a l < nm := cr_lwi B0 RLt
  refine zv_iload_n dX7_whySealed_0 rfl rfl ?_
  refine zv_iconst (v := nI (2)) dX7_whySealed_1 (by decide) ?_
  refine zv_icN_eq (tgt := 8) dX7_whySealed_2 (by decide) (by omega) (by omega) (fun h2 => ?_) (fun h2 => ?_)
  · refine zv_aload_n dX7_whySealed_8 rfl rfl ?_
    refine zv_iload_n dX7_whySealed_9 rfl rfl ?_
    refine zv_aload_n dX7_whySealed_10 rfl rfl ?_
    refine cc_callV (As := [.int (nI (r)), .ref (300 + 3 * l)]) (st := []) (c := 6) dX7_whySealed_11 cvX7_298 (wW0_s40 W.1) rfl rfl rfl (by decide) (cc_c1 rfl (cc_c1 rfl cc_c0)) (Nat.le_of_ble_eq_true rfl) (cC_lacksOrder (d) B0 (r := r) (l := l) hr hl) (fun v s1 I1 J1 R1 q => ?_)
    obtain ⟨rfl, rfl, rfl, rfl, rfl⟩ := q
    show zv_V _ _ _ _ _ 14 [.ref 40, .int (nI (r)), .ref (300 + 3 * l), .int (nI (x))] [.int (rm_b (cc_lor I nl r l))] _ _ _ _ _
    refine zv_ifB_eq (tgt := 21) dX7_whySealed_14 (by decide) (fun h14 => ?_) (fun h14 => ?_)
    · refine zv_iconst (v := nI (1)) dX7_whySealed_21 (by decide) ?_
      refine zv_iret dX7_whySealed_22 rfl rfl ?_
      exact ⟨congrArg (fun z => some (Value.int z)) (by unfold cr_wsd; rw [if_pos h2, h14]; rfl), rfl, rfl, rfl, rfl⟩
    · refine zv_iconst (v := nI (0)) dX7_whySealed_17 (by decide) ?_
      refine zv_goto (tgt := 22) dX7_whySealed_18 (by decide) ?_
      refine zv_iret dX7_whySealed_22 rfl rfl ?_
      exact ⟨congrArg (fun z => some (Value.int z)) (by unfold cr_wsd; rw [if_pos h2, h14]; rfl), rfl, rfl, rfl, rfl⟩
  · refine zv_bipush (v := (-2 : Int32)) dX7_whySealed_5 (by decide) ?_
    refine zv_iret dX7_whySealed_7 rfl rfl ?_
    exact ⟨congrArg (fun z => some (Value.int z)) (by unfold cr_wsd; rw [if_neg h2]), rfl, rfl, rfl, rfl⟩
theorem cr_l3 {x : Int32} (h0 : ¬ x < 0) (h : x ≤ nI 2) : rm_lt x 3 = true := by
  refine cl_2 (by decide) h0 (fun q => ?_)
  rw [Int32.le_iff_toInt_le] at h q
  have e2 : (nI 2).toInt = 2 := by decide
  have e3 : (nI 3).toInt = 3 := by decide
  omega
theorem cr_l3f {x : Int32} (h : ¬ x ≤ nI 2) : rm_lt x 3 = false := by
  refine cl_1 (by decide) ?_
  rw [Int32.le_iff_toInt_le] at h ⊢
  have e2 : (nI 2).toInt = 2 := by decide
  have e3 : (nI 3).toInt = 3 := by decide
  omega
theorem cr_need {sh : zv_S} {I : zv_I} {J : zv_J} {R : zv_R} {a : zv_I} {nm nc nl l e m : Nat} (B : cc_B sh I R nm nc nl) (L : cr_L I J R a nc l) (hl : l < nl) (he : e < 6) (hm : m < 8) : cc_need I R l e m = (if nI e = a 11 l ∧ nI m = a 12 l then a 13 l - nI 1 else a 19 (48 * l + 8 * e + m)) := by
  have h1 := B.2.2.2.2.2.2.2 l hl
  have b6 := B.2.2.2.2.1
  have b5 := B.2.2.1
  have e2 : a 11 l = nI (cc_ci I l) := (xL_c L).symm.trans h1.2.1
  have e3 : a 12 l = nI (cc_wi I l) := (xL_w L).symm.trans h1.2.2.2.1
  unfold cc_need
  rw [xL_s L, xL_cv L e m he hm, e2, e3]
  have g1 := h1.2.2.1
  have g2 := h1.2.2.2.2.1
  by_cases q : e = cc_ci I l ∧ m = cc_wi I l
  · rw [if_pos q, if_pos ⟨congrArg nI q.1, congrArg nI q.2⟩]
  · rw [if_neg q, if_neg (fun z => q ⟨(nI_eq (by omega) (by omega)).mp z.1, (nI_eq (by omega) (by omega)).mp z.2⟩)]
theorem cC_why (d : Nat) {E : zv_E} {sh : zv_S} {I : zv_I} {J : zv_J} {R : zv_R} {a : zv_I} {nm nc nl : Nat} (RL : cr_R sh I J R a nm nc nl) (hst : ∀ r l, r < nm → l < nl → cr_st a r l) (hflk : ∀ r l, r < nm → l < nl → cc_flk I R nm nc r l = rm_lkg a nc r l) (hlor : ∀ r l, r < nm → l < nl → a 20 (200 * r + l) = nI 2 → rm_lkg a nc r l = none → cc_lor I nl r l = !rm_hor a r l) (m y z : Int32) : zv_V E mX7_why (d + 4) 0 0 0 [.ref 40, .int m, .int y, .int z] [] sh I J R (cc_p (q_why a nm nc nl m y z) sh I J R) := by
  have RL0 := RL
  obtain ⟨B, RT, RC, RLt, RM⟩ := RL
  have B0 := B
  obtain ⟨W, n5, b5, n6, b6, n7, b7, LF⟩ := B
  have LC : ∀ l, l < nl → I (300 + 3 * l) 2 = nI (rm_ci a l) ∧ rm_ci a l < nc := cr_lci B0 RLt
  have LW : ∀ l, l < nl → I (300 + 3 * l) 3 = nI (rm_wr a l) ∧ rm_wr a l < nm := cr_lwi B0 RLt
  refine zv_aload_n dX7_why_0 rfl rfl ?_
  refine zv_iload_n dX7_why_1 rfl rfl ?_
  refine cc_callV (As := [.int (m)]) (st := []) (c := 6) dX7_why_2 cvX7_75 (wW0_s40 W.1) rfl rfl rfl (by decide) (cc_c1 rfl cc_c0) (Nat.le_of_ble_eq_true rfl) (cC_isMember (d + 3) W.1 n5 (by omega) m) (fun v s1 I1 J1 R1 q => ?_)
  obtain ⟨rfl, rfl, rfl, rfl, rfl⟩ := q
  show zv_V _ _ _ _ _ 5 [.ref 40, .int (m), .int (y), .int (z)] [.int (rm_b (rm_lt m nm))] _ _ _ _ _
  refine zv_ifB_eq (tgt := 25) dX7_why_5 (by decide) (fun h5 => ?_) (fun h5 => ?_)
  · refine zv_iconst (v := (-1 : Int32)) dX7_why_25 (by decide) ?_
    refine zv_iret dX7_why_26 rfl rfl ?_
    exact ⟨congrArg (fun z => some (Value.int z)) (by unfold q_why; rw [h5]; rfl), rfl, rfl, rfl, rfl⟩
  · obtain ⟨r, hr, rfl⟩ := rm_lt_t h5 (by omega)
    refine zv_aload_n dX7_why_8 rfl rfl ?_
    refine zv_iload_n dX7_why_9 rfl rfl ?_
    refine cc_callV (As := [.int (y)]) (st := []) (c := 6) dX7_why_10 cvX7_71 (wW0_s40 W.1) rfl rfl rfl (by decide) (cc_c1 rfl cc_c0) (Nat.le_of_ble_eq_true rfl) (cC_isLetter (d + 3) W.1 n7 (by omega) y) (fun v s1 I1 J1 R1 q => ?_)
    obtain ⟨rfl, rfl, rfl, rfl, rfl⟩ := q
    show zv_V _ _ _ _ _ 13 [.ref 40, .int (nI (r)), .int (y), .int (z)] [.int (rm_b (rm_lt y nl))] _ _ _ _ _
    refine zv_ifB_eq (tgt := 25) dX7_why_13 (by decide) (fun h13 => ?_) (fun h13 => ?_)
    · refine zv_iconst (v := (-1 : Int32)) dX7_why_25 (by decide) ?_
      refine zv_iret dX7_why_26 rfl rfl ?_
      exact ⟨congrArg (fun z => some (Value.int z)) (by unfold q_why; rw [h5, h13]; rfl), rfl, rfl, rfl, rfl⟩
    · obtain ⟨l, hl, rfl⟩ := rm_lt_t h13 (by omega)
      refine zv_iload_n dX7_why_16 rfl rfl ?_
      refine zv_if_lt (tgt := 25) dX7_why_17 (by decide) (fun h17 => ?_) (fun h17 => ?_)
      · refine zv_iconst (v := (-1 : Int32)) dX7_why_25 (by decide) ?_
        refine zv_iret dX7_why_26 rfl rfl ?_
        exact ⟨congrArg (fun z => some (Value.int z)) (by unfold q_why; rw [h5, h13, cl_0 h17]; rfl), rfl, rfl, rfl, rfl⟩
      · refine zv_iload_n dX7_why_20 rfl rfl ?_
        refine zv_iconst (v := nI (2)) dX7_why_21 (by decide) ?_
        refine zv_icmp_le (tgt := 27) dX7_why_22 (by decide) (fun h22 => ?_) (fun h22 => ?_)
        · have h22b := cr_l3 h17 h22
          obtain ⟨x, hx, rfl⟩ := rm_lt_t h22b (by decide)
          refine zv_aload_n dX7_why_27 rfl rfl ?_
          refine zv_getr 6 2 (u := 43) dX7_why_28 flX7_23 (wW0_s40 W.1) rfl (wW0_r2 W.1) ?_
          refine zv_iload_n dX7_why_31 rfl rfl ?_
          refine zv_aald (j := l) (o := some (300 + 3 * l)) dX7_why_32 (wW0_s43 W.1) (by decide) (by decide) (rfl) (show l < 200 from by omega) (by decide) ((W.2.2.2 l (by omega)).1) ?_
          show zv_V _ _ _ _ _ 33 [.ref 40, .int (nI (r)), .int (nI (l)), .int (nI (x))] [.ref (300 + 3 * l)] _ _ _ _ _
          refine zv_astore (lv' := [.ref 40, .int (nI (r)), .int (nI (l)), .int (nI (x)), .ref (300 + 3 * l)]) dX7_why_33 (by decide) rfl ?_
          refine zv_aload_n dX7_why_35 rfl rfl ?_
          refine zv_iload_n dX7_why_36 rfl rfl ?_
          refine zv_aload dX7_why_37 rfl ?_
          refine cc_callV (As := [.int (nI (r)), .ref (300 + 3 * l)]) (st := []) (c := 6) dX7_why_39 cvX7_144 (wW0_s40 W.1) rfl rfl rfl (by decide) (cc_c1 rfl (cc_c1 rfl cc_c0)) (Nat.le_of_ble_eq_true rfl) (cC_standing (d + 1) RL0 (r := r) (l := l) hr hl (hst r l hr hl)) (fun v s1 I1 J1 R1 q => ?_)
          obtain ⟨rfl, rfl, rfl, rfl, rfl⟩ := q
          show zv_V _ _ _ _ _ 42 [.ref 40, .int (nI (r)), .int (nI (l)), .int (nI (x)), .ref (300 + 3 * l)] [.int ((a 20 (200 * r + l)))] _ _ _ _ _
          refine zv_iconst (v := nI (2)) dX7_why_42 (by decide) ?_
          refine zv_icmp_eq (tgt := 48) dX7_why_43 (by decide) (fun h43 => ?_) (fun h43 => ?_)
          · refine zv_aload_n dX7_why_48 rfl rfl ?_
            refine zv_iload_n dX7_why_49 rfl rfl ?_
            refine zv_aload dX7_why_50 rfl ?_
            refine cc_callV (As := [.int (nI (r)), .ref (300 + 3 * l)]) (st := []) (c := 6) dX7_why_52 cvX7_158 (wW0_s40 W.1) rfl rfl rfl (by decide) (cc_c1 rfl (cc_c1 rfl cc_c0)) (Nat.le_of_ble_eq_true rfl) (cC_firstLack (d + 1) B0 (r := r) (l := l) hr hl) (fun v s1 I1 J1 R1 q => ?_)
            obtain ⟨rfl, rfl, rfl, rfl, rfl⟩ := q
            rw [hflk r l hr hl]
            show zv_V _ _ _ _ _ 55 [.ref 40, .int (nI (r)), .int (nI (l)), .int (nI (x)), .ref (300 + 3 * l)] [.int ((rm_o (rm_lkg a nc r l)))] _ _ _ _ _
            have eq : q_why a nm nc nl (nI r) (nI l) (nI x) = q_wy a nc r l x := by unfold q_why; rw [h5, h13, h22b, rm_nv_n (n := r) (by omega), rm_nv_n (n := l) (by omega), rm_nv_n (n := x) (by omega)]; exact if_pos h43
            rw [eq]
            unfold q_wy
            cases hx0 : rm_lkg a nc r l with
            | none =>
              refine zv_istore (lv' := [.ref 40, .int (nI (r)), .int (nI (l)), .int (nI (x)), .ref (300 + 3 * l), .int ((-1 : Int32))]) dX7_why_55 (by decide) rfl ?_
              refine zv_iload dX7_why_57 rfl ?_
              refine zv_iconst (v := (-1 : Int32)) dX7_why_59 (by decide) ?_
              refine zv_icmp_ne (tgt := 72) dX7_why_60 (by decide) (fun h60 => (absurd rfl h60)) (fun h60 => ?_)
              refine zv_aload_n dX7_why_63 rfl rfl ?_
              refine zv_iload_n dX7_why_64 rfl rfl ?_
              refine zv_aload dX7_why_65 rfl ?_
              refine zv_iload_n dX7_why_67 rfl rfl ?_
              refine cc_callV (As := [.int (nI (r)), .ref (300 + 3 * l), .int (nI (x))]) (st := []) (c := 6) dX7_why_68 cvX7_161 (wW0_s40 W.1) rfl rfl rfl (by decide) (cc_c1 rfl (cc_c1 rfl (cc_c1 rfl cc_c0))) (Nat.le_of_ble_eq_true rfl) (cC_whySealed (d) RL0 (r := r) (l := l) hr hl (x := x) hx) (fun v s1 I1 J1 R1 q => ?_)
              obtain ⟨rfl, rfl, rfl, rfl, rfl⟩ := q
              show zv_V _ _ _ _ _ 71 [.ref 40, .int (nI (r)), .int (nI (l)), .int (nI (x)), .ref (300 + 3 * l), .int ((-1 : Int32))] [.int ((cr_wsd (cc_lor I nl r l) x))] _ _ _ _ _
              refine zv_iret dX7_why_71 rfl rfl ?_
              exact ⟨congrArg (fun z => some (Value.int z)) (by rw [hlor r l hr hl h43 hx0]; unfold cr_wsd; cases rm_hor a r l <;> rcases (show x = 0 ∨ x = 1 ∨ x = 2 by omega) with rfl | rfl | rfl <;> rfl), rfl, rfl, rfl, rfl⟩
            | some k =>
              have hk9 := (rm_fst_some hx0).2.1
              refine zv_istore (lv' := [.ref 40, .int (nI (r)), .int (nI (l)), .int (nI (x)), .ref (300 + 3 * l), .int (nI (k))]) dX7_why_55 (by decide) rfl ?_
              refine zv_iload dX7_why_57 rfl ?_
              refine zv_iconst (v := (-1 : Int32)) dX7_why_59 (by decide) ?_
              refine zv_icmp_ne (tgt := 72) dX7_why_60 (by decide) (fun h60 => ?_) (fun h60 => (absurd h60 (rm_ni1 (by omega))))
              refine zv_iload dX7_why_72 rfl ?_
              refine zv_bipush (v := nI (8)) dX7_why_74 (by decide) ?_
              refine zv_idiv dX7_why_76 (by decide) ?_
              refine cc_top (pk_div (a := k) (d := 8) (by omega) (by decide) (by decide)) ?_
              refine zv_istore (lv' := [.ref 40, .int (nI (r)), .int (nI (l)), .int (nI (x)), .ref (300 + 3 * l), .int (nI (k)), .int (nI (k / 8))]) dX7_why_77 (by decide) rfl ?_
              refine zv_iload dX7_why_79 rfl ?_
              refine zv_bipush (v := nI (8)) dX7_why_81 (by decide) ?_
              refine zv_irem dX7_why_83 (by decide) ?_
              refine cc_top (pk_rem (a := k) (d := 8) (by omega) (by decide) (by decide)) ?_
              refine zv_istore (lv' := [.ref 40, .int (nI (r)), .int (nI (l)), .int (nI (x)), .ref (300 + 3 * l), .int (nI (k)), .int (nI (k / 8)), .int (nI (k % 8))]) dX7_why_84 (by decide) rfl ?_
              refine zv_iload_n dX7_why_86 rfl rfl ?_
              rcases (show x = 0 ∨ x = 1 ∨ x = 2 by omega) with rfl | rfl | rfl
              · refine zv_lookup (off := 25) (tgt := 112) dX7_why_87 (by decide) (by decide) (by decide) ?_
                refine zv_iload dX7_why_112 rfl ?_
                refine zv_iret dX7_why_114 rfl rfl ?_
                exact ⟨congrArg (fun z => some (Value.int z)) (by rfl), rfl, rfl, rfl, rfl⟩
              · refine zv_lookup (off := 28) (tgt := 115) dX7_why_87 (by decide) (by decide) (by decide) ?_
                refine zv_iload dX7_why_115 rfl ?_
                refine zv_iret dX7_why_117 rfl rfl ?_
                exact ⟨congrArg (fun z => some (Value.int z)) (by rfl), rfl, rfl, rfl, rfl⟩
              · refine zv_lookup (off := 31) (tgt := 118) dX7_why_87 (by decide) (by decide) (by decide) ?_
                refine zv_aload dX7_why_118 rfl ?_
                refine zv_iload dX7_why_120 rfl ?_
                refine zv_iload dX7_why_122 rfl ?_
                refine cc_callV (As := [.int (nI (k / 8)), .int (nI (k % 8))]) (st := []) (c := 2) dX7_why_124 cvX7_165 (wWL_s (W.2.2.2 l (by omega)).2) rfl rfl rfl (by decide) (cc_c1 rfl (cc_c1 rfl cc_c0)) (Nat.le_of_ble_eq_true rfl) (cC_needed (d + 3) B0 (l := l) (e := k / 8) (m := k % 8) hl (by omega) (by omega)) (fun v s1 I1 J1 R1 q => ?_)
                obtain ⟨rfl, rfl, rfl, rfl, rfl⟩ := q
                show zv_V _ _ _ _ _ 127 [.ref 40, .int (nI (r)), .int (nI (l)), .int (nI (2)), .ref (300 + 3 * l), .int (nI (k)), .int (nI (k / 8)), .int (nI (k % 8))] [.int ((cc_need I R l (k / 8) (k % 8)))] _ _ _ _ _
                refine zv_aload_n dX7_why_127 rfl rfl ?_
                refine zv_getr 6 0 (u := 41) dX7_why_128 flX7_11 (wW0_s40 W.1) rfl (wW0_r0 W.1) ?_
                refine zv_iload_n dX7_why_131 rfl rfl ?_
                refine zv_aald (j := r) (o := some (100 + 20 * r)) dX7_why_132 (wW0_s41 W.1) (by decide) (by decide) (rfl) (show r < 8 from by omega) (by decide) ((W.2.1 r (by omega)).1) ?_
                show zv_V _ _ _ _ _ 133 [.ref 40, .int (nI (r)), .int (nI (l)), .int (nI (2)), .ref (300 + 3 * l), .int (nI (k)), .int (nI (k / 8)), .int (nI (k % 8))] [.ref (100 + 20 * r), .int ((cc_need I R l (k / 8) (k % 8)))] _ _ _ _ _
                refine zv_getr 3 0 (u := 101 + 20 * r) dX7_why_133 flX7_148 (wWM_s (W.2.1 r (by omega)).2) rfl (wWM_r0 (W.2.1 r (by omega)).2) ?_
                refine zv_iload dX7_why_136 rfl ?_
                refine zv_aald (j := k / 8) (o := some (102 + 20 * r + (k / 8))) dX7_why_138 (wWM_s0 (W.2.1 r (by omega)).2) (by decide) (by decide) (rfl) (show k / 8 < 6 from by omega) (by decide) ((wWM_g (W.2.1 r (by omega)).2 (k / 8) (by omega)).1) ?_
                show zv_V _ _ _ _ _ 139 [.ref 40, .int (nI (r)), .int (nI (l)), .int (nI (2)), .ref (300 + 3 * l), .int (nI (k)), .int (nI (k / 8)), .int (nI (k % 8))] [.ref (102 + 20 * r + (k / 8)), .int ((cc_need I R l (k / 8) (k % 8)))] _ _ _ _ _
                refine zv_iload dX7_why_139 rfl ?_
                refine zv_iald (j := k % 8) (x := (a 21 (48 * r + 8 * (k / 8) + (k % 8)))) dX7_why_141 ((wWM_g (W.2.1 r (by omega)).2 (k / 8) (by omega)).2) (rfl) (show k % 8 < 8 from by omega) (by decide) (xM_g (RM r (by omega)) (k / 8) (k % 8) (by omega) (by omega)) ?_
                refine zv_isub dX7_why_142 ?_
                refine zv_iret dX7_why_143 rfl rfl ?_
                exact ⟨congrArg (fun z => some (Value.int z)) (by rw [cr_need B0 (RLt l hl) hl (by omega) (by omega)]; rfl), rfl, rfl, rfl, rfl⟩
          · refine zv_iconst (v := (-1 : Int32)) dX7_why_46 (by decide) ?_
            refine zv_iret dX7_why_47 rfl rfl ?_
            exact ⟨congrArg (fun z => some (Value.int z)) (by unfold q_why; rw [h5, h13, h22b, rm_nv_n (n := r) (by omega), rm_nv_n (n := l) (by omega)]; exact (if_neg h43).symm), rfl, rfl, rfl, rfl⟩
        · refine zv_iconst (v := (-1 : Int32)) dX7_why_25 (by decide) ?_
          refine zv_iret dX7_why_26 rfl rfl ?_
          exact ⟨congrArg (fun z => some (Value.int z)) (by unfold q_why; rw [h5, h13, cr_l3f h22]; rfl), rfl, rfl, rfl, rfl⟩
theorem cr_by_z {x : Int32} (hx : cr_by x) : x = 0 ↔ ∀ m, m < 8 → cb x m = false := by
  have z : ∀ m, m < 8 → cb (0 : Int32) m = false := fun m hm => (cr_tb (i := 0) (by decide) hm).trans (Nat.zero_testBit m)
  refine ⟨fun h m hm => by rw [h]; exact z m hm, fun h => cr_by_eq hx ⟨0, by decide, rfl⟩ fun m hm => by rw [h m hm]; exact (z m hm).symm⟩
def cr_lp (a : zv_I) (nm c k : Nat) : Bool := rm_lnp a nm c k
theorem cr_lp_z {I : zv_I} {J : zv_J} {R : zv_R} {a : zv_I} {nm nc c k : Nat} (L : cr_L I J R a nc k) (hin : ∀ m, m < 8 → a 20 (200 * m + k) = nI 1 → m < nm) (hm : nm ≤ 8) : I (300 + 3 * k) 11 = 0 ↔ (rm_lof a nm k).isSome = false := by
  rw [cr_by_z (xL_ly L)]
  refine ⟨fun h => ?_, fun h m hm8 => ?_⟩
  · cases hq : rm_lof a nm k with
    | none => rfl
    | some j =>
      obtain ⟨h1, h2, h3, h4⟩ := rm_fst_some hq
      have := h j (by omega)
      rw [xL_lb L j (by omega)] at this
      rw [this] at h3
      cases h3
  · rw [xL_lb L m hm8]
    cases hq : rm_lof a nm k with
    | some j => rw [hq] at h; cases h
    | none =>
      by_cases e : a 20 (200 * m + k) = nI 1
      · exact rm_fst_none.mp hq m (Nat.zero_le _) (by have := hin m hm8 e; omega)
      · exact decide_eq_false e
/-- the first letter on the line, from k on, the way up or the way down -/
def cr_nl (a : zv_I) (nm nl c wy : Nat) : Option Nat := if wy = 0 then rm_fst (rm_lnp a nm c) nl 0 else (rm_fst (fun k => rm_lnp a nm c (nl - 1 - k)) nl 0).map (fun k => nl - 1 - k)
def cr_lt (o : Option Nat) : Option Nat := o.map (fun k => 300 + 3 * k)
def cr_wi (nl wy k : Nat) : Nat := if wy = 0 then k else nl - 1 - k
def cr_nw (a : zv_I) (nm nl c wy n k : Nat) : Option Nat := (rm_fst (fun k => rm_lnp a nm c (cr_wi nl wy k)) n k).map (cr_wi nl wy)
theorem cr_nw_f {a : zv_I} {nm nl c wy n k : Nat} (h : rm_lnp a nm c (cr_wi nl wy k) = false) : cr_nw a nm nl c wy (n + 1) k = cr_nw a nm nl c wy n (k + 1) := by
  unfold cr_nw
  rw [rm_fst_f (p := fun k => rm_lnp a nm c (cr_wi nl wy k)) h]
theorem cr_nw_t {a : zv_I} {nm nl c wy n k : Nat} (h : rm_lnp a nm c (cr_wi nl wy k) = true) : cr_nw a nm nl c wy (n + 1) k = some (cr_wi nl wy k) := by
  unfold cr_nw
  rw [rm_fst_t (p := fun k => rm_lnp a nm c (cr_wi nl wy k)) h]
  rfl
theorem rm_w0 {w : Nat} (h : (nI w : Int32) = 0) (hw : w < 2 := by assumption) : w = 0 := (nI_eq (by omega) (by decide)).mp (h.trans (show (0 : Int32) = nI 0 from rfl))
theorem rm_w1 {w : Nat} (h : ¬ (nI w : Int32) = 0) : ¬ w = 0 := fun q => h (by rw [q]; rfl)
theorem cr_sub2 {n k : Nat} (h : k < n) (hn : n < 2 ^ 31) : (nI n : Int32) - nI 1 - nI k = nI (n - 1 - k) := by
  have h1 : n = (n - 1 - k) + k + 1 := by omega
  have h2 : (nI n : Int32) = nI (n - 1 - k) + nI k + nI 1 := by rw [nI_add, nI_add, ← h1]
  rw [h2, Int32.add_sub_cancel, Int32.add_sub_cancel]
theorem cC_nextOnLine_l (d : Nat) {E : zv_E} {sh : zv_S} {I : zv_I} {J : zv_J} {R : zv_R} {a : zv_I} {nm nc nl : Nat} (RL : cr_R sh I J R a nm nc nl) (hon : ∀ l, l < nl → ∀ m, m < 8 → a 20 (200 * m + l) = nI 1 → m < nm) {c wy : Nat} (hc : c < nc) (hw : wy < 2) : ∀ n k, k + n = nl → ∀ rest, zv_V E mX7_nextOnLine d 0 0 2 ([.ref 40, .int (nI c), .int (nI wy), .int (nI k)] ++ rest) [] sh I J R (cc_r (cr_lt (cr_nw a nm nl c wy n k)) sh I J R) := by
  obtain ⟨B, RT, RC, RLt, RM⟩ := RL
  have B0 := B
  obtain ⟨W, n5, b5, n6, b6, n7, b7, LF⟩ := B
  have LC : ∀ l, l < nl → I (300 + 3 * l) 2 = nI (rm_ci a l) ∧ rm_ci a l < nc := cr_lci B0 RLt
  have LW : ∀ l, l < nl → I (300 + 3 * l) 3 = nI (rm_wr a l) ∧ rm_wr a l < nm := cr_lwi B0 RLt
  intro n
  induction n with
  | zero =>
    intro k hk rest
    refine zv_less ⟨rest, rfl⟩ ?_
    have hk2 : k = nl := by omega
    subst hk2
    refine zv_iload_n dX7_nextOnLine_2 rfl rfl ?_
    refine zv_aload_n dX7_nextOnLine_3 rfl rfl ?_
    refine zv_geti 6 7 (x := nI (k)) dX7_nextOnLine_4 flX7_95 (wW0_s40 W.1) rfl (n7) ?_
    refine zv_icN_ge (tgt := 59) dX7_nextOnLine_7 (by decide) (by omega) (by omega) (fun h7 => ?_) (fun h7 => (absurd h7 (by omega)))
    refine zv_null dX7_nextOnLine_59 ?_
    refine zv_aretN dX7_nextOnLine_60 rfl (Or.inl ⟨_, rfl⟩) ?_
    exact ⟨rfl, rfl, rfl, rfl, rfl⟩
  | succ n ih =>
    intro k hk rest
    refine zv_less ⟨rest, rfl⟩ ?_
    have hj9 : cr_wi nl wy k < nl := by unfold cr_wi; split <;> omega
    have f2 := (LC (cr_wi nl wy k) hj9).2
    have e11 : a 11 (cr_wi nl wy k) = nI (rm_ci a (cr_wi nl wy k)) := (xL_c (RLt _ hj9)).symm.trans (LC _ hj9).1
    refine zv_iload_n dX7_nextOnLine_2 rfl rfl ?_
    refine zv_aload_n dX7_nextOnLine_3 rfl rfl ?_
    refine zv_geti 6 7 (x := nI (nl)) dX7_nextOnLine_4 flX7_95 (wW0_s40 W.1) rfl (n7) ?_
    refine zv_icN_ge (tgt := 59) dX7_nextOnLine_7 (by decide) (by omega) (by omega) (fun h7 => (absurd h7 (by omega))) (fun h7 => ?_)
    refine zv_aload_n dX7_nextOnLine_10 rfl rfl ?_
    refine zv_getr 6 2 (u := 43) dX7_nextOnLine_11 flX7_23 (wW0_s40 W.1) rfl (wW0_r2 W.1) ?_
    refine zv_iload_n dX7_nextOnLine_14 rfl rfl ?_
    refine zv_if_ne (tgt := 22) dX7_nextOnLine_15 (by decide) (fun h15 => ?_) (fun h15 => ?_)
    · refine zv_aload_n dX7_nextOnLine_22 rfl rfl ?_
      refine zv_geti 6 7 (x := nI (nl)) dX7_nextOnLine_23 flX7_95 (wW0_s40 W.1) rfl (n7) ?_
      refine zv_iconst (v := nI (1)) dX7_nextOnLine_26 (by decide) ?_
      refine zv_isub dX7_nextOnLine_27 ?_
      refine zv_iload_n dX7_nextOnLine_28 rfl rfl ?_
      refine zv_isub dX7_nextOnLine_29 ?_
      have e9 : (nI nl : Int32) - nI 1 - nI k = nI (cr_wi nl wy k) := by unfold cr_wi; rw [if_neg (rm_w1 h15)]; exact cr_sub2 (by omega) (by omega)
      refine cc_top e9 ?_
      refine zv_aald (j := cr_wi nl wy k) (o := some (300 + 3 * (cr_wi nl wy k))) dX7_nextOnLine_30 (wW0_s43 W.1) (by decide) (by decide) (rfl) (show cr_wi nl wy k < 200 from by omega) (by decide) ((W.2.2.2 (cr_wi nl wy k) (by omega)).1) ?_
      show zv_V _ _ _ _ _ 31 [.ref 40, .int (nI (c)), .int (nI (wy)), .int (nI (k))] [.ref (300 + 3 * (cr_wi nl wy k))] _ _ _ _ _
      refine zv_astore (lv' := [.ref 40, .int (nI (c)), .int (nI (wy)), .int (nI (k)), .ref (300 + 3 * (cr_wi nl wy k))]) dX7_nextOnLine_31 (by decide) rfl ?_
      refine zv_aload dX7_nextOnLine_33 rfl ?_
      refine zv_geti 2 2 (x := nI (rm_ci a (cr_wi nl wy k))) dX7_nextOnLine_35 flX7_105 (wWL_s (W.2.2.2 (cr_wi nl wy k) (by omega)).2) rfl ((LC (cr_wi nl wy k) (by omega)).1) ?_
      refine zv_iload_n dX7_nextOnLine_38 rfl rfl ?_
      refine zv_icN_ne (tgt := 53) dX7_nextOnLine_39 (by decide) (by omega) (by omega) (fun h39 => ?_) (fun h39 => ?_)
      · refine zv_iinc (v := nI (k + 1)) (lv' := [.ref 40, .int (nI (c)), .int (nI (wy)), .int (nI (k + 1)), .ref (300 + 3 * (cr_wi nl wy k))]) dX7_nextOnLine_53 rfl (nI_add (k) 1) (by decide) rfl ?_
        refine zv_goto (tgt := 2) dX7_nextOnLine_56 (by decide) ?_
        rw [cr_nw_f (show rm_lnp a nm c (cr_wi nl wy k) = false from by unfold rm_lnp; rw [decide_eq_false (fun q => h39 ((nI_eq (by omega) (by omega)).mp (e11.symm.trans q)))]; rfl)]
        exact ih (k + 1) (by omega) [.ref (300 + 3 * cr_wi nl wy k)]
      · refine zv_aload dX7_nextOnLine_42 rfl ?_
        refine zv_geti 2 11 (x := (I (300 + 3 * (cr_wi nl wy k)) 11)) dX7_nextOnLine_44 flX7_92 (wWL_s (W.2.2.2 (cr_wi nl wy k) (by omega)).2) rfl (rfl) ?_
        refine zv_if_eq (tgt := 53) dX7_nextOnLine_47 (by decide) (fun h47 => ?_) (fun h47 => ?_)
        · refine zv_iinc (v := nI (k + 1)) (lv' := [.ref 40, .int (nI (c)), .int (nI (wy)), .int (nI (k + 1)), .ref (300 + 3 * (cr_wi nl wy k))]) dX7_nextOnLine_53 rfl (nI_add (k) 1) (by decide) rfl ?_
          refine zv_goto (tgt := 2) dX7_nextOnLine_56 (by decide) ?_
          rw [cr_nw_f (show rm_lnp a nm c (cr_wi nl wy k) = false from by unfold rm_lnp; rw [(cr_lp_z (c := c) (RLt _ hj9) (hon _ hj9) b5).mp h47]; exact Bool.and_false _)]
          exact ih (k + 1) (by omega) [.ref (300 + 3 * cr_wi nl wy k)]
        · refine zv_aload dX7_nextOnLine_50 rfl ?_
          refine zv_aret dX7_nextOnLine_52 rfl (Or.inl ⟨_, rfl⟩) ?_
          rw [cr_nw_t (show rm_lnp a nm c (cr_wi nl wy k) = true from by unfold rm_lnp; rw [decide_eq_true (e11.trans (congrArg nI h39))]; cases hz : (rm_lof a nm (cr_wi nl wy k)).isSome with | true => rfl | false => exact absurd ((cr_lp_z (c := c) (RLt _ hj9) (hon _ hj9) b5).mpr hz) h47)]
          exact ⟨rfl, rfl, rfl, rfl, rfl⟩
    · refine zv_iload_n dX7_nextOnLine_18 rfl rfl ?_
      refine zv_goto (tgt := 30) dX7_nextOnLine_19 (by decide) ?_
      have e9 : (nI k : Int32) = nI (cr_wi nl wy k) := congrArg nI (by unfold cr_wi; rw [if_pos (rm_w0 h15)])
      refine cc_top e9 ?_
      refine zv_aald (j := cr_wi nl wy k) (o := some (300 + 3 * (cr_wi nl wy k))) dX7_nextOnLine_30 (wW0_s43 W.1) (by decide) (by decide) (rfl) (show cr_wi nl wy k < 200 from by omega) (by decide) ((W.2.2.2 (cr_wi nl wy k) (by omega)).1) ?_
      show zv_V _ _ _ _ _ 31 [.ref 40, .int (nI (c)), .int (nI (wy)), .int (nI (k))] [.ref (300 + 3 * (cr_wi nl wy k))] _ _ _ _ _
      refine zv_astore (lv' := [.ref 40, .int (nI (c)), .int (nI (wy)), .int (nI (k)), .ref (300 + 3 * (cr_wi nl wy k))]) dX7_nextOnLine_31 (by decide) rfl ?_
      refine zv_aload dX7_nextOnLine_33 rfl ?_
      refine zv_geti 2 2 (x := nI (rm_ci a (cr_wi nl wy k))) dX7_nextOnLine_35 flX7_105 (wWL_s (W.2.2.2 (cr_wi nl wy k) (by omega)).2) rfl ((LC (cr_wi nl wy k) (by omega)).1) ?_
      refine zv_iload_n dX7_nextOnLine_38 rfl rfl ?_
      refine zv_icN_ne (tgt := 53) dX7_nextOnLine_39 (by decide) (by omega) (by omega) (fun h39 => ?_) (fun h39 => ?_)
      · refine zv_iinc (v := nI (k + 1)) (lv' := [.ref 40, .int (nI (c)), .int (nI (wy)), .int (nI (k + 1)), .ref (300 + 3 * (cr_wi nl wy k))]) dX7_nextOnLine_53 rfl (nI_add (k) 1) (by decide) rfl ?_
        refine zv_goto (tgt := 2) dX7_nextOnLine_56 (by decide) ?_
        rw [cr_nw_f (show rm_lnp a nm c (cr_wi nl wy k) = false from by unfold rm_lnp; rw [decide_eq_false (fun q => h39 ((nI_eq (by omega) (by omega)).mp (e11.symm.trans q)))]; rfl)]
        exact ih (k + 1) (by omega) [.ref (300 + 3 * cr_wi nl wy k)]
      · refine zv_aload dX7_nextOnLine_42 rfl ?_
        refine zv_geti 2 11 (x := (I (300 + 3 * (cr_wi nl wy k)) 11)) dX7_nextOnLine_44 flX7_92 (wWL_s (W.2.2.2 (cr_wi nl wy k) (by omega)).2) rfl (rfl) ?_
        refine zv_if_eq (tgt := 53) dX7_nextOnLine_47 (by decide) (fun h47 => ?_) (fun h47 => ?_)
        · refine zv_iinc (v := nI (k + 1)) (lv' := [.ref 40, .int (nI (c)), .int (nI (wy)), .int (nI (k + 1)), .ref (300 + 3 * (cr_wi nl wy k))]) dX7_nextOnLine_53 rfl (nI_add (k) 1) (by decide) rfl ?_
          refine zv_goto (tgt := 2) dX7_nextOnLine_56 (by decide) ?_
          rw [cr_nw_f (show rm_lnp a nm c (cr_wi nl wy k) = false from by unfold rm_lnp; rw [(cr_lp_z (c := c) (RLt _ hj9) (hon _ hj9) b5).mp h47]; exact Bool.and_false _)]
          exact ih (k + 1) (by omega) [.ref (300 + 3 * cr_wi nl wy k)]
        · refine zv_aload dX7_nextOnLine_50 rfl ?_
          refine zv_aret dX7_nextOnLine_52 rfl (Or.inl ⟨_, rfl⟩) ?_
          rw [cr_nw_t (show rm_lnp a nm c (cr_wi nl wy k) = true from by unfold rm_lnp; rw [decide_eq_true (e11.trans (congrArg nI h39))]; cases hz : (rm_lof a nm (cr_wi nl wy k)).isSome with | true => rfl | false => exact absurd ((cr_lp_z (c := c) (RLt _ hj9) (hon _ hj9) b5).mpr hz) h47)]
          exact ⟨rfl, rfl, rfl, rfl, rfl⟩
theorem cC_nextOnLine (d : Nat) {E : zv_E} {sh : zv_S} {I : zv_I} {J : zv_J} {R : zv_R} {a : zv_I} {nm nc nl : Nat} (RL : cr_R sh I J R a nm nc nl) (hon : ∀ l, l < nl → ∀ m, m < 8 → a 20 (200 * m + l) = nI 1 → m < nm) {c wy : Nat} (hc : c < nc) (hw : wy < 2) : zv_V E mX7_nextOnLine d 0 0 0 [.ref 40, .int (nI c), .int (nI wy)] [] sh I J R (cc_r (cr_lt (cr_nw a nm nl c wy nl 0)) sh I J R) := by
  refine zv_iconst (v := nI (0)) dX7_nextOnLine_0 (by decide) ?_
  refine zv_istore_n (lv' := [.ref 40, .int (nI (c)), .int (nI (wy)), .int (nI (0))]) dX7_nextOnLine_1 rfl (by decide) rfl ?_
  exact cC_nextOnLine_l d RL hon hc hw nl 0 (by omega) []
