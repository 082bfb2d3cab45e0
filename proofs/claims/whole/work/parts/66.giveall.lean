theorem tg_3 {R : zv_R} {o : Option (Bool × Nat)} {x : Nat} (h : cr_tg R o = some x) : 3 ≤ x := by
  cases o with
  | none => cases h
  | some v =>
    obtain ⟨b, l⟩ := v
    cases b with
    | false => have := Option.some.inj h; omega
    | true => have := Option.some.inj h; omega
theorem dI_num {sh : zv_S} {I : zv_I} {R : zv_R} {nm nc nl r l c w rc n x : Nat} {kk : Int32} (B : cc_B sh I R nm nc nl) (D : dS I (dI I r l c w rc n kk) r l c w rc n nl kk 0 false) (hr : r < 8) (hc : c < 6) (hx : x < nl) : dI I r l c w rc n kk (300 + 3 * x) 0 = nI x := by
  obtain ⟨W, n5, b5, n6, b6, n7, b7, LF⟩ := B
  by_cases q : x = l
  · rw [q, xD_l D 0 (by decide) (by decide) (by decide), ← q]; exact (LF x hx).1
  · rw [xD_o D (300 + 3 * x) (by omega) (by omega) (by omega) (by omega) (by omega) (by omega)]; exact (LF x hx).1
theorem cC_giveAll_l (d : Nat) {E : zv_E} {r nm nc : Nat} {sh0 : zv_S} {I0 : zv_I} {R0 : zv_R} : ∀ F a nl sh I J R g, iP r a nm nc nl → rm_gvt r F a = true → cr_R sh I J R a nm nc nl → cr_F sh nm nc nl → g ≤ rm_nv (a 25 r) → (∀ t, t < 40 → sh t = sh0 t ∧ I t = I0 t ∧ R t = R0 t) → ∀ n h, I (100 + 20 * r) 9 = nI n → cr_H R a nl r n h → ∀ j k, k + j = n → (∀ i, i < k → rm_can a nc nl r (h i) = false) → ∀ rest, zv_V E mX7_giveAll (d + 5) (3 * (rm_NL (rm_gvs r F a g).1 - nl)) (18 * (rm_NL (rm_gvs r F a g).1 - nl)) 12 ([.ref 40, .int (nI r), .ref (100 + 20 * r), .int (nI g), .int (nI k)] ++ rest) [] sh I J R (cr_Q (nI (rm_gvs r F a g).2) (rm_gvs r F a g).1 nm nc (rm_NL (rm_gvs r F a g).1) sh0 I0 R0) := by
  intro F
  induction F with
  | zero => intro a nl sh I J R g _ ht; cases ht
  | succ F ih =>
    intro a nl sh I J R g hP ht RL FR hg hfr n h hn hH
    have H := hP.1
    have hr := hP.2.1
    obtain ⟨e0, e1, e4⟩ := iv_NM H
    have B0 := xR_B RL
    obtain ⟨W, n5, b5, n6, b6, n7, b7, LF⟩ := xR_B RL
    have hnn := cr_H_le hH
    intro j
    induction j with
    | zero =>
      intro k hk hcan rest
      refine zv_less ⟨rest, rfl⟩ ?_
      have hk2 : k = n := by omega
      subst hk2
      have hx : rm_nx a r = none := by
        unfold rm_nx
        rw [e1, e4]
        refine iq_nx.mpr fun l hl hh => ?_
        obtain ⟨i, hi, rfl⟩ := hH.2.2 l hl hh
        exact hcan i hi
      rw [gvs_n hx]
      show zv_V _ _ _ (3 * (rm_NL a - nl)) (18 * (rm_NL a - nl)) _ _ _ _ _ _ _ (cr_Q (nI g) a nm nc (rm_NL a) sh0 I0 R0)
      rw [e4]
      refine zv_iload dX7_giveAll_12 rfl ?_
      refine zv_aload_n dX7_giveAll_14 rfl rfl ?_
      refine zv_geti 3 9 (x := nI (k)) dX7_giveAll_15 flX7_278 (wWM_s (W.2.1 r hr).2) rfl (hn) ?_
      refine zv_icN_ge (tgt := 88) dX7_giveAll_18 (by decide) (by omega) (by omega) (fun h18 => ?_) (fun h18 => (absurd h18 (by omega)))
      refine zv_iload_n dX7_giveAll_88 rfl rfl ?_
      refine zv_iret dX7_giveAll_89 rfl rfl ?_
      exact ⟨rfl, RL, FR, hfr⟩
    | succ j ihj =>
      intro k hk hcan rest
      refine zv_less ⟨rest, rfl⟩ ?_
      obtain ⟨hR, hl, hh⟩ := hH.1 k (by omega)
      obtain ⟨l, hlk⟩ : ∃ l, l = h k := ⟨_, rfl⟩
      rw [← hlk] at hR hl hh
      have hrd := iv_rd H (by omega) hl hh
      have h25 := xI_rd H r (by omega)
      have hcl := xI_lc H l hl
      have hwl := xI_lw H l hl
      have hle := rm_cnt_le (fun x => decide (a 20 (200 * r + x) = nI 3)) nl
      have h25n : a 25 r = nI (rm_nv (a 25 r)) := by rw [h25, rm_nv_n (by omega)]
      refine zv_iload dX7_giveAll_12 rfl ?_
      refine zv_aload_n dX7_giveAll_14 rfl rfl ?_
      refine zv_geti 3 9 (x := nI (n)) dX7_giveAll_15 flX7_278 (wWM_s (W.2.1 r hr).2) rfl (hn) ?_
      refine zv_icN_ge (tgt := 88) dX7_giveAll_18 (by decide) (by omega) (by omega) (fun h18 => (absurd h18 (by omega))) (fun h18 => ?_)
      refine zv_iload_n dX7_giveAll_21 rfl rfl ?_
      refine zv_sipush (v := nI (200)) dX7_giveAll_22 (by decide) ?_
      refine zv_icN_ge (tgt := 88) dX7_giveAll_25 (by decide) (by omega) (by omega) (fun h25b => (absurd h25b (by omega))) (fun h25b => ?_)
      refine zv_aload_n dX7_giveAll_28 rfl rfl ?_
      refine zv_getr 3 5 (u := 112 + 20 * r) dX7_giveAll_29 flX7_281 (wWM_s (W.2.1 r hr).2) rfl (wWM_r5 (W.2.1 r hr).2) ?_
      refine zv_iload dX7_giveAll_32 rfl ?_
      refine zv_aald (j := k) (o := some (300 + 3 * l)) dX7_giveAll_34 (wWM_s5 (W.2.1 r hr).2) (by decide) (by decide) (rfl) (show k < 200 from by omega) (by decide) (hR) ?_
      show zv_V _ _ _ _ _ 35 [.ref 40, .int (nI (r)), .ref (100 + 20 * r), .int (nI (g)), .int (nI (k))] [.ref (300 + 3 * l)] _ _ _ _ _
      refine zv_astore (lv' := [.ref 40, .int (nI (r)), .ref (100 + 20 * r), .int (nI (g)), .int (nI (k)), .ref (300 + 3 * l)]) dX7_giveAll_35 (by decide) rfl ?_
      refine zv_aload_n dX7_giveAll_37 rfl rfl ?_
      refine zv_iload_n dX7_giveAll_38 rfl rfl ?_
      refine zv_aload dX7_giveAll_39 rfl ?_
      refine cc_callV (As := [.int (nI (r)), .ref (300 + 3 * l)]) (st := []) (c := 6) dX7_giveAll_41 cvX7_284 (wW0_s40 W.1) rfl rfl rfl (by decide) (cc_c1 rfl (cc_c1 rfl cc_c0)) (Nat.le_of_ble_eq_true rfl) (cC_canGive (d + 1) B0 (r := r) (l := l) hr hl) (fun v s1 I1 J1 R1 q => ?_)
      obtain ⟨rfl, rfl, rfl, rfl, rfl⟩ := q
      rw [cr_can RL H hr hl hh]
      show zv_V _ _ _ _ _ 44 [.ref 40, .int (nI (r)), .ref (100 + 20 * r), .int (nI (g)), .int (nI (k)), .ref (300 + 3 * l)] [.int (rm_b (rm_can a nc nl r l))] _ _ _ _ _
      refine zv_ifB_eq (tgt := 82) dX7_giveAll_44 (by decide) (fun h44 => ?_) (fun h44 => ?_)
      · refine zv_iinc (v := nI (k + 1)) (lv' := [.ref 40, .int (nI (r)), .ref (100 + 20 * r), .int (nI (g)), .int (nI (k + 1)), .ref (300 + 3 * l)]) dX7_giveAll_82 rfl (nI_add (k) 1) (by decide) rfl ?_
        refine zv_goto (tgt := 12) dX7_giveAll_85 (by decide) ?_
        refine ihj (k + 1) (by omega) (fun i hi => ?_) [.ref (300 + 3 * l)]
        by_cases q : i = k
        · rw [q, ← hlk]; exact h44
        · exact hcan i (by omega)
      · have hx2 : rm_nxt a nc nl r = some l := by
          refine rm_fst_is (Nat.zero_le _) (by omega) (by unfold rm_nxp; rw [decide_eq_true hh, h44]; rfl) (fun x _ hx => ?_)
          unfold rm_nxp
          by_cases q : a 20 (200 * r + x) = nI 2
          · obtain ⟨i, hi, hix⟩ := hH.2.2 x (by omega) q
            have hik : i < k := by
              rcases Nat.lt_trichotomy i k with z | z | z
              · exact z
              · rw [z, ← hlk] at hix; omega
              · have := hH.2.1 k i z hi; omega
            rw [← hix, hcan i hik, Bool.and_false]
          · rw [decide_eq_false q]; rfl
        have hx : rm_nx a r = some l := by unfold rm_nx; rw [e1, e4]; exact hx2
        have hs := iP_step hP hx2
        have ht2 := gvt_s hx ht
        have ea : rm_gv a r l = rm_giv a nm nc nl r l := by unfold rm_gv; rw [e0, e1, e4]
        rw [gvs_s hx, ea]
        rw [ea] at ht2
        have r_ne : ∀ i, i < n → i ≠ k → 300 + 3 * h i ≠ 300 + 3 * l := fun i hi hne => by
          rcases Nat.lt_trichotomy i k with z | z | z
          · have := hH.2.1 i k z (by omega); omega
          · exact absurd z hne
          · have := hH.2.1 k i z hi; omega
        have r_el : rm_el a (rm_ci a l) < 2 ^ 31 := by
          have h9 := xI_ce H _ hcl.2
          unfold rm_es at h9
          have := (rm_fst_some h9).2.1
          omega
        refine zv_aload_n dX7_giveAll_47 rfl rfl ?_
        refine zv_aload dX7_giveAll_48 rfl ?_
        refine cc_callV (As := [.ref (300 + 3 * l)]) (st := []) (c := 3) dX7_giveAll_50 cvX7_288 (wWM_s (W.2.1 r hr).2) rfl rfl rfl (by decide) (cc_c1 rfl cc_c0) (Nat.le_of_ble_eq_true rfl) (cC_release (d + 3) (m := r) (l := l) (n := n) (p := k) (c := (rm_ci a l)) (wr := (rm_wr a l)) (rc := (rm_nv (a 25 r))) (kk := a 10 l) (g := fun i => 300 + 3 * h i) (W.2.1 r hr).2 (W.2.2.2 l hl).2 (by omega) (by omega) (by omega) (by omega) hrd (LF l hl).1 (xL_k (xR_L RL l hl)) ((xL_c (xR_L RL l hl)).trans hcl.1) ((xL_w (xR_L RL l hl)).trans hwl.1) ((xM_n (xR_M RL r hr)).trans h25n) hn (by omega) (fun i hi => ⟨(hH.1 i hi).1, by omega, wWL_s (W.2.2.2 (h i) (hH.1 i hi).2.1).2⟩) (by omega) (by rw [← hlk]) (fun i hi hne => r_ne i hi hne) (fun s x hs hx => tg_3 (by rw [← xM_t (xR_M RL r hr) s hs]; exact hx))) (fun v s1 I1 J1 R1 q => ?_)
        obtain ⟨rfl, rfl, rfl, rfl, rfl⟩ := q
        show zv_V _ _ _ _ _ 53 [.ref 40, .int (nI (r)), .ref (100 + 20 * r), .int (nI (g)), .int (nI (k)), .ref (300 + 3 * l)] [] _ _ _ _ _
        refine zv_aload dX7_giveAll_53 rfl ?_
        refine zv_dup dX7_giveAll_55 rfl ?_
        refine zv_geti 2 12 (x := (I (300 + 3 * l) 12)) dX7_giveAll_56 flX7_291 (wWL_s (W.2.2.2 l hl).2) rfl (congrFun (cg_o (by omega) (by omega) (by omega) (by omega)) 12) ?_
        refine zv_iconst (v := nI (1)) dX7_giveAll_59 (by decide) ?_
        refine zv_iload_n dX7_giveAll_60 rfl rfl ?_
        refine zv_ishl dX7_giveAll_61 ?_
        refine zv_ior dX7_giveAll_62 ?_
        refine zv_puti 2 12 dX7_giveAll_63 fwX7_291 (wWL_s (W.2.2.2 l hl).2) rfl ?_
        have ih2 := fun (sh : zv_S) (I : zv_I) (J : zv_J) (R : zv_R) (Ra : cr_R sh I J R (rm_giv a nm nc nl r l) nm nc (nl + if gd a r l = true then 1 else 0)) (Fa : cr_F sh nm nc (nl + if gd a r l = true then 1 else 0)) (fa : ∀ t, t < 40 → sh t = sh0 t ∧ I t = I0 t ∧ R t = R0 t) (rest : List Value) => (by
          obtain ⟨n3, h3, q1, q2⟩ := xM_h (xR_M Ra r hr)
          exact ih _ _ sh I J R (g + 1) hs.1 ht2 Ra Fa (by rw [hs.2, rm_nv_n (by omega)]; omega) fa n3 h3 q1 q2 n3 0 (by omega) (fun i hi => absurd hi (by omega)) rest : zv_V E mX7_giveAll (d + 5) (3 * (rm_NL (rm_gvs r F (rm_giv a nm nc nl r l) (g + 1)).1 - (nl + if gd a r l = true then 1 else 0))) (18 * (rm_NL (rm_gvs r F (rm_giv a nm nc nl r l) (g + 1)).1 - (nl + if gd a r l = true then 1 else 0))) 12 ([.ref 40, .int (nI r), .ref (100 + 20 * r), .int (nI (g + 1)), .int (nI 0)] ++ rest) [] sh I J R (cr_Q (nI (rm_gvs r F (rm_giv a nm nc nl r l) (g + 1)).2) (rm_gvs r F (rm_giv a nm nc nl r l) (g + 1)).1 nm nc (rm_NL (rm_gvs r F (rm_giv a nm nc nl r l) (g + 1)).1) sh0 I0 R0))
        cases hgd : gd a r l with
        | false =>
          have D : dS I (dI I r l (rm_ci a l) (rm_wr a l) (rm_nv (a 25 r)) n (a 10 l)) r l (rm_ci a l) (rm_wr a l) (rm_nv (a 25 r)) n nl (a 10 l) (a 7 (rm_ci a l)) (gd a r l) := by rw [hgd]; exact dS_1 (by omega) (by omega)
          have RL2 := cr_give RL H hr hl hh (iv_gP H hr hl hh h44).1 D hn hH (by omega) hlk.symm
          rw [giv_f hgd] at *
          obtain ⟨n2, h2, g1, g2⟩ := xM_h (xR_M RL2 r hr)
          refine zv_aload_n dX7_giveAll_66 rfl rfl ?_
          refine zv_iload_n dX7_giveAll_67 rfl rfl ?_
          refine zv_aload dX7_giveAll_68 rfl ?_
          refine cc_callV (As := [.int (nI (r)), .ref (300 + 3 * l)]) (st := []) (c := 6) dX7_giveAll_70 cvX7_294 (wW0_s40 W.1) rfl rfl rfl (by decide) (cc_c1 rfl (cc_c1 rfl cc_c0)) (Nat.le_of_ble_eq_true rfl) (cC_order_0 (d + 4) (nm := nm) (nc := nc) (nl := nl) (c := (rm_ci a l)) (xR_B RL2).1 hl hcl.2 b6 (by omega) ((xD_l D 1 (by decide) (by decide) (by decide)).trans (xL_k (xR_L RL l hl))) ((xD_l D 2 (by decide) (by decide) (by decide)).trans ((xL_c (xR_L RL l hl)).trans hcl.1)) (((xD_c D 1).trans (if_neg (fun v => absurd v.2 (by decide)))).trans (xC_e (xR_C RL _ hcl.2))) (fun q => of_decide_eq_false hgd ⟨q.1, nI_ij q.2 (by omega) r_el⟩)) (fun v s1 I1 J1 R1 q => ?_)
          obtain ⟨rfl, rfl, rfl, rfl, rfl⟩ := q
          show zv_V _ _ _ _ _ 73 [.ref 40, .int (nI (r)), .ref (100 + 20 * r), .int (nI (g)), .int (nI (k)), .ref (300 + 3 * l)] [] _ _ _ _ _
          refine zv_iinc (v := nI (g + 1)) (lv' := [.ref 40, .int (nI (r)), .ref (100 + 20 * r), .int (nI (g + 1)), .int (nI (k)), .ref (300 + 3 * l)]) dX7_giveAll_73 rfl (nI_add (g) 1) (by decide) rfl ?_
          refine zv_iconst (v := nI (0)) dX7_giveAll_76 (by decide) ?_
          refine zv_istore (lv' := [.ref 40, .int (nI (r)), .ref (100 + 20 * r), .int (nI (g + 1)), .int (nI (0)), .ref (300 + 3 * l)]) dX7_giveAll_77 (by decide) rfl ?_
          refine zv_goto (tgt := 85) dX7_giveAll_79 (by decide) ?_
          refine zv_goto (tgt := 12) dX7_giveAll_85 (by decide) ?_
          refine ih _ nl sh _ _ _ (g + 1) ?_ ?_ RL2 FR ?_ (fun t ht => ?_) n2 h2 g1 g2 n2 0 (by omega) (fun i hi => absurd hi (by omega)) [.ref (300 + 3 * l)]
          · have := hs.1; rw [hgd, if_neg (by decide)] at this; exact this
          · exact ht2
          · rw [hs.2, rm_nv_n (by omega)]; omega
          · obtain ⟨f1, f2, f3⟩ := hfr t ht
            exact ⟨f1, (xD_o D t (by omega) (by omega) (by omega) (by omega) (by omega) (by omega)).trans f2, ((cc_lv_o (by omega)).trans (cc_dr_o (by omega))).trans f3⟩
        | true =>
          rw [hgd, if_pos rfl] at ih2
          have D1 : dS I (dI I r l (rm_ci a l) (rm_wr a l) (rm_nv (a 25 r)) n (a 10 l)) r l (rm_ci a l) (rm_wr a l) (rm_nv (a 25 r)) n nl (a 10 l) 0 false := dS_1 (by omega) (by omega)
          have D2 : dS I (dI2 I r l (rm_ci a l) (rm_wr a l) (rm_nv (a 25 r)) n nl (a 10 l) (a 7 (rm_ci a l))) r l (rm_ci a l) (rm_wr a l) (rm_nv (a 25 r)) n nl (a 10 l) (a 7 (rm_ci a l)) (gd a r l) := by rw [hgd]; exact dS_2 (by omega) (by omega)
          have RL2 := cr_give RL H hr hl hh (iv_gP H hr hl hh h44).1 D2 hn hH (by omega) hlk.symm
          obtain ⟨n2, h2, g1, g2⟩ := xM_h (xR_M RL2 r hr)
          have hn2 := cr_H_le g2
          obtain ⟨k1, k2, k3⟩ := gd_15 H hl hh hgd
          have hnl := iv_room H hl k1 k3
          have hst := cr_step RL2 FR H hr hl hh h44 hgd g1 g2
          have hs1 := hs.1
          rw [hgd, if_pos rfl] at hs1
          have e100 : (dI I r l (rm_ci a l) (rm_wr a l) (rm_nv (a 25 r)) n (a 10 l)) (100 + 20 * r) = (dI2 I r l (rm_ci a l) (rm_wr a l) (rm_nv (a 25 r)) n nl (a 10 l) (a 7 (rm_ci a l))) (100 + 20 * r) := by unfold dI2; rw [zv_u_row _ _ _ _ (by omega), zv_u_row _ _ _ _ (by omega), zv_u_row _ _ _ _ (by omega)]
          have e108 : (dI I r l (rm_ci a l) (rm_wr a l) (rm_nv (a 25 r)) n (a 10 l)) (108 + 20 * r) = (dI2 I r l (rm_ci a l) (rm_wr a l) (rm_nv (a 25 r)) n nl (a 10 l) (a 7 (rm_ci a l))) (108 + 20 * r) := by unfold dI2; rw [zv_u_row _ _ _ _ (by omega), zv_u_row _ _ _ _ (by omega), zv_u_row _ _ _ _ (by omega)]
          have e50 : (dI I r l (rm_ci a l) (rm_wr a l) (rm_nv (a 25 r)) n (a 10 l)) (50 + (rm_ci a l)) 0 = (dI2 I r l (rm_ci a l) (rm_wr a l) (rm_nv (a 25 r)) n nl (a 10 l) (a 7 (rm_ci a l))) (50 + (rm_ci a l)) 0 := by unfold dI2; rw [zv_u_row _ _ _ _ (by omega), zv_u_j _ _ (by decide), zv_u_row _ _ _ _ (by omega)]
          have eck : cc_ck (cg_R R r l k n) l = cc_ck R l := ck_o ((cc_lv_o (by omega)).trans (cc_dr_o (by omega)))
          obtain ⟨nl2, hnl2, hP2⟩ := gvs_P F _ nm nc (nl + 1) (g + 1) hs1
          have eNL := (iv_NM hP2.1).2.2
          rw [eNL] at ih2 ⊢
          rw [show 3 * (nl2 - nl) = 3 + 3 * (nl2 - (nl + 1)) by omega, show 18 * (nl2 - nl) = 18 + 18 * (nl2 - (nl + 1)) by omega]
          refine zv_aload_n dX7_giveAll_66 rfl rfl ?_
          refine zv_iload_n dX7_giveAll_67 rfl rfl ?_
          refine zv_aload dX7_giveAll_68 rfl ?_
          refine cc_callVk (As := [.int (nI (r)), .ref (300 + 3 * l)]) (st := []) (c := 6) (kc1 := 3) (ks1 := 18) (kc := (3 * (nl2 - (nl + 1)))) (ks := (18 * (nl2 - (nl + 1)))) dX7_giveAll_70 cvX7_294 (wW0_s40 W.1) rfl rfl rfl (by decide) (cc_c1 rfl (cc_c1 rfl cc_c0)) (Nat.le_of_ble_eq_true rfl) (cC_order_1 d (nm := nm) (nc := nc) (nl := nl) (c := (rm_ci a l)) (n := n2) (k := cc_ck (cg_R R r l k n) l) (y := a 7 (rm_ci a l)) (x6 := (dI2 I r l (rm_ci a l) (rm_wr a l) (rm_nv (a 25 r)) n nl (a 10 l) (a 7 (rm_ci a l))) (50 + (rm_ci a l)) 0) (h := h2) (xR_B RL2).1 b5 b6 ((congrFun (xD_o D1 40 (by omega) (by omega) (by omega) (by omega) (by omega) (by omega)) 7).trans n7) hnl hl hr hcl.2 (dI_num B0 D1 (by omega) (by omega) hl) (((xD_l D1 1 (by decide) (by decide) (by decide)).trans (xL_k (xR_L RL l hl))).trans k1) ((xD_l D1 2 (by decide) (by decide) (by decide)).trans ((xL_c (xR_L RL l hl)).trans hcl.1)) (cr_lkk (r := r) RL2 hl).1 ((((xD_c D1 1).trans (if_neg (fun v => absurd v.2 (by decide)))).trans (xC_e (xR_C RL _ hcl.2))).trans (congrArg nI k2.symm)) (((xD_c D1 2).trans (if_neg (fun v => absurd v.1 (by decide)))).trans (xC_p (xR_C RL _ hcl.2))) e50 ((congrFun e100 9).trans g1) (by omega) (fun i hi => ⟨(g2.1 i hi).1, (g2.1 i hi).2.1, dI_num B0 D1 (by omega) (by omega) (g2.1 i hi).2.1⟩) (fun t h1 h3 => cr_F_n FR (by omega))) (fun v s1 I1 J1 R1 q => ?_)
          obtain ⟨rfl, rfl, rfl, rfl, rfl⟩ := q
          rw [show zv_u (cg_I I r l n (rm_ci a l) (rm_wr a l) (rm_nv (a 25 r)) (a 10 l)) (300 + 3 * l) 12 (I (300 + 3 * l) 12 ||| nI 1 <<< (nI r &&& 31)) (108 + 20 * r) (rm_ci a l) = (dI2 I r l (rm_ci a l) (rm_wr a l) (rm_nv (a 25 r)) n nl (a 10 l) (a 7 (rm_ci a l))) (108 + 20 * r) (rm_ci a l) from congrFun e108 _]
          show zv_V _ _ _ _ _ 73 [.ref 40, .int (nI (r)), .ref (100 + 20 * r), .int (nI (g)), .int (nI (k)), .ref (300 + 3 * l)] [] _ _ _ _ _
          refine zv_iinc (v := nI (g + 1)) (lv' := [.ref 40, .int (nI (r)), .ref (100 + 20 * r), .int (nI (g + 1)), .int (nI (k)), .ref (300 + 3 * l)]) dX7_giveAll_73 rfl (nI_add (g) 1) (by decide) rfl ?_
          refine zv_iconst (v := nI (0)) dX7_giveAll_76 (by decide) ?_
          refine zv_istore (lv' := [.ref 40, .int (nI (r)), .ref (100 + 20 * r), .int (nI (g + 1)), .int (nI (0)), .ref (300 + 3 * l)]) dX7_giveAll_77 (by decide) rfl ?_
          refine zv_goto (tgt := 85) dX7_giveAll_79 (by decide) ?_
          refine zv_goto (tgt := 12) dX7_giveAll_85 (by decide) ?_
          refine ih2 _ _ _ _ hst.1 hst.2 (fun t ht => ?_) [.ref (300 + 3 * l)]
          obtain ⟨f1, f2, f3⟩ := hfr t ht
          refine ⟨(cnS_o (by omega) (by omega) (by omega)).trans f1, ?_, ?_⟩
          · rw [csI_o (by omega) (by omega) (by omega)]
            unfold oI
            rw [cnI_o (by omega) (by omega) (by omega), zv_n_t _ _ (by omega), zv_u_row _ _ _ _ (by omega)]
            exact (xD_o D2 t (by omega) (by omega) (by omega) (by omega) (by omega) (by omega)).trans f2
          · rw [csR_o (by omega) (by omega) (by omega), cnR_o (by omega) (by omega) (by omega)]
            exact ((cc_lv_o (by omega)).trans (cc_dr_o (by omega))).trans f3
