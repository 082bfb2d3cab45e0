theorem cr_F_w {sh sh' : zv_S} {nm nc nl : Nat} (F : cr_F sh nm nc nl) (h : ∀ t, ¬ eN nl t → sh' t = sh t) : cr_F sh' nm nc (nl + 1) := by
  intro t ht
  by_cases q : eN nl t
  · unfold eN at q; omega
  · rw [h t q] at ht
    have := F t ht
    omega
theorem cr_lkk {sh : zv_S} {I : zv_I} {J : zv_J} {R : zv_R} {a : zv_I} {nm nc nl r l : Nat} (RL : cr_R sh I J R a nm nc nl) (hl : l < nl) : R (300 + 3 * l) 6 = some (1000 + 8 * cc_ck R l) ∧ cc_WK sh R (cc_ck R l) := by
  obtain ⟨W, n5, b5, n6, b6, n7, b7, LF⟩ := xR_B RL
  exact ⟨(LF l hl).2.2.2.2.2.1, (LF l hl).2.2.2.2.2.2⟩
def oI (I : zv_I) (r l c nl : Nat) : zv_I := cn_IL (zv_n (zv_u I (108 + 20 * r) c (I (108 + 20 * r) c + nI 1)) (300 + 3 * nl) (fun _ => 0)) nl (nI nl) (nI 3) (nI c) (nI r) (I (108 + 20 * r) c + nI 1) (nI l)
theorem cr_step {sh : zv_S} {I : zv_I} {J : zv_J} {R : zv_R} {a : zv_I} {nm nc nl r l n : Nat} {h : Nat → Nat} (RL : cr_R sh I J R (rm_gP a nl r l) nm nc nl) (F : cr_F sh nm nc nl) (H0 : iv a nm nc nl 0) (hr : r < nm) (hl : l < nl) (hh : a 20 (200 * r + l) = nI 2) (hc : rm_can a nc nl r l = true) (hg : gd a r l = true) (hn : I (100 + 20 * r) 9 = nI n) (hH : cr_H R (rm_gP a nl r l) nl r n h) : cr_R (cn_sL (zv_sn sh (300 + 3 * nl) (12, 0)) nl) (cs_I (oI I r l (rm_ci a l) nl) nl r n (I (50 + rm_ci a l) 0)) (cs_J (cn_JL (zv_n J (300 + 3 * nl) (fun _ => 0)) nl) nl r) (cs_R (cn_RL (zv_n R (300 + 3 * nl) (fun _ => none)) nl (1000 + 8 * cc_ck R l)) nl r n) (rm_giv a nm nc nl r l) nm nc (nl + 1) ∧ cr_F (cn_sL (zv_sn sh (300 + 3 * nl) (12, 0)) nl) nm nc (nl + 1) := by
  have n0 := (xI_n0 H0).2
  have n1 := (xI_n1 H0).2
  obtain ⟨S, H1⟩ := iv_gP H0 hr hl hh hc
  rw [if_pos hg] at H1
  obtain ⟨k1, k2, k3⟩ := gd_15 H0 hl hh hg
  have hnl := iv_room H0 hl k1 k3
  have hcl := xI_lc H0 l hl
  have N := (iv_g6 H0 hr hl hh hc hg).1
  have hck := cr_ckl (xR_B RL) F l hl
  have L := xR_L RL l hl
  obtain ⟨lk1, lk2⟩ := cr_lkk (r := r) RL hl
  have e18 : rm_gP a nl r l 18 = a 18 := xG_o S 18 (by decide) (by decide) (by decide) (by decide) (by decide) (by decide) (by decide) (by decide)
  have e19 : rm_gP a nl r l 19 = a 19 := xG_o S 19 (by decide) (by decide) (by decide) (by decide) (by decide) (by decide) (by decide) (by decide)
  have e6 : rm_gP a nl r l 6 = a 6 := xG_o S 6 (by decide) (by decide) (by decide) (by decide) (by decide) (by decide) (by decide) (by decide)
  have e17 : rm_gP a nl r l 17 = a 17 := xG_o S 17 (by decide) (by decide) (by decide) (by decide) (by decide) (by decide) (by decide) (by decide)
  have er : ∀ e, rm_row (rm_g6 a nm nc nl r l (rm_ci a l)) nl e = rm_row (rm_gP a nl r l) l e := fun e => by unfold rm_row; rw [g6_18 hl, e18]
  have ekn : ∀ t, 1000 + 8 * cc_ck R l ≤ t → t < 1008 + 8 * cc_ck R l → ¬ eN nl t := fun t h1 h2 z => by unfold eN at z; omega
  have b17 : rm_g6 a nm nc nl r l (rm_ci a l) 17 nl = 0 := by
    unfold rm_g6 rm_g5 rm_g4 rm_g3
    rw [go_o (by decide) (by decide), rm_cc_o (by decide), zv_u_row _ _ _ _ (by decide), zv_u_row _ _ _ _ (by decide), rm_mad_o (by decide) (by decide) (by decide) (by decide) (by decide) (by decide) (by decide) (by decide) (by decide) (by decide) (by decide) (by decide)]
    unfold rm_g2
    rw [zv_u_row _ _ _ _ (by decide), zv_u_row _ _ _ _ (by decide), g1_o (by decide) (by decide) (by decide) (by decide) (by decide)]
    exact (xI_zl H0 nl (Nat.le_refl _) hnl).1
  have b5 : rm_g6 a nm nc nl r l (rm_ci a l) 3 5 = rm_gP a nl r l 3 5 := by
    unfold rm_g6 rm_g5 rm_g4 rm_g3
    rw [go_o (by decide) (by decide), rm_cc_o (by decide), zv_u_row _ _ _ _ (by decide), zv_u_row _ _ _ _ (by decide), md_3, if_neg (by decide)]
    unfold rm_gP
    rw [if_pos hg, zv_u_row _ _ _ _ (by decide)]
  have b23 : ∀ c', c' < 6 → rm_g6 a nm nc nl r l (rm_ci a l) 23 (6 * r + c') = rm_gP a nl r l 23 (6 * r + c') := fun c' _ => by
    unfold rm_g6 rm_g5 rm_g4 rm_g3
    rw [go_o (by decide) (by decide), rm_cc_o (by decide), zv_u_row _ _ _ _ (by decide), zv_u_row _ _ _ _ (by decide), rm_mad_o (by decide) (by decide) (by decide) (by decide) (by decide) (by decide) (by decide) (by decide) (by decide) (by decide) (by decide) (by decide)]
    unfold rm_gP
    rw [if_pos hg, zv_u_row _ _ _ _ (by decide)]
  have eYk : ∀ y, y < nl → cc_ck (cs_R (cn_RL (zv_n R (300 + 3 * nl) (fun _ => none)) nl (1000 + 8 * cc_ck R l)) nl r n) y = cc_ck R y := fun y hy => ck_o (by rw [csR_o (by omega) (by omega) (by omega), cnR_o (by omega) (by omega) (by omega)])
  have E : eS sh I J R (cn_sL (zv_sn sh (300 + 3 * nl) (12, 0)) nl) (cs_I (oI I r l (rm_ci a l) nl) nl r n (I (50 + rm_ci a l) 0)) (cs_J (cn_JL (zv_n J (300 + 3 * nl) (fun _ => 0)) nl) nl r) (cs_R (cn_RL (zv_n R (300 + 3 * nl) (fun _ => none)) nl (1000 + 8 * cc_ck R l)) nl r n) (rm_g6 a nm nc nl r l (rm_ci a l)) nc nl r (rm_ci a l) n (cc_ck R l) (nI 3) (nI l) := by
    refine eS_mk (nm := nm) (IB := zv_u I (108 + 20 * r) (rm_ci a l) (I (108 + 20 * r) (rm_ci a l) + nI 1)) (by omega) (by omega) (fun t _ => rfl) (fun t _ ht => zv_u_row _ _ _ _ ht) (fun c' => ?_) (fun t _ => rfl) (fun t _ => rfl) (fun t _ _ => rfl) (fun j _ => rfl) ?_ (fun j hj => ?_) ?_ (fun t _ => rfl) (fun c' hc' => ?_) (by omega) hnl ?_ (fun e he => ?_) (fun e m he hm => ?_) ?_
    · by_cases q : c' = rm_ci a l
      · rw [if_pos q, q, zv_u_s]
      · rw [if_neg q, zv_u_j _ _ q]
    · unfold oI
      rw [cnI_l.2.2.2.2.2.2.2.2 10 (by omega), zv_n_s, b17]
    · unfold oI
      rw [cnI_o (by omega) (by omega) (by omega), zv_n_t _ _ (by omega), zv_u_row _ _ _ _ (by omega)]
    · unfold oI
      rw [cnI_o (by omega) (by omega) (by omega), zv_n_t _ _ (by omega), zv_u_row _ _ _ _ (by omega), b5]
      exact xT_na (xR_T RL)
    · rw [cnR_o (by omega) (by omega) (by omega), xM_l (xR_M RL r hr) c' hc', b23 c' hc', lc_o eYk (xI_la H1 r c' (by omega) hc') (xI_n4 H1).2]
    · obtain ⟨w1, w2, w3, w4⟩ := lk2
      have s1 : ∀ t, 1000 ≤ t → cn_sL (zv_sn sh (300 + 3 * nl) (12, 0)) nl t = sh t := fun t ht => cnS_o (by omega) (by omega) (by omega)
      have r1 : ∀ t, 1000 ≤ t → cs_R (cn_RL (zv_n R (300 + 3 * nl) (fun _ => none)) nl (1000 + 8 * cc_ck R l)) nl r n t = R t := fun t ht => by rw [csR_o (by omega) (by omega) (by omega), cnR_o (by omega) (by omega) (by omega)]
      unfold cc_WK
      rw [s1 _ (by omega), s1 (1001 + 8 * cc_ck R l) (by omega), r1 _ (by omega), r1 (1001 + 8 * cc_ck R l) (by omega)]
      exact ⟨w1, w2, w3, fun e he => by rw [s1 _ (by omega)]; exact w4 e he⟩
    · rw [er]; exact xL_r L e he
    · have h1 := xL_cv L e m he hm
      have h2 := g6_19 (a := a) (nm := nm) (nc := nc) (r := r) (c := rm_ci a l) hl (show 8 * e + m < 48 by omega)
      rw [← Nat.add_assoc, ← Nat.add_assoc, ← e19] at h2
      rw [h2, ← h1]
      unfold cc_cv
      rw [zv_u_row _ _ _ _ (by omega)]
    · rw [zv_u_row _ _ _ _ (by omega), xL_ct L]
      congr 1
      unfold rm_cof
      refine cnt_c fun i hi => ?_
      have ein : rm_in (rm_g6 a nm nc nl r l (rm_ci a l)) = rm_in (rm_gP a nl r l) := by funext m c; exact rm_in_o (xN_o N 6 (by omega)) m c
      unfold rm_cop
      rw [ein, er]
  have ein : rm_in (rm_gP a nl r l) r (rm_ci a l) = true := by rw [rm_in_o e6]; exact iv_in2 H0 (by omega) hl hh
  rw [giv_t hg]
  exact ⟨cr_new RL F H1 N E hnl hr hcl.2 ein hn hH, cr_F_w F (xE_s E)⟩
theorem gvs_P {r : Nat} : ∀ F a nm nc nl g, iP r a nm nc nl → ∃ nl', nl ≤ nl' ∧ iP r (rm_gvs r F a g).1 nm nc nl'
  | 0, a, nm, nc, nl, g, h => ⟨nl, Nat.le_refl _, h⟩
  | F + 1, a, nm, nc, nl, g, h => by
    obtain ⟨e0, e1, e4⟩ := iv_NM h.1
    show ∃ nl', nl ≤ nl' ∧ iP r (match rm_nx a r with | none => (a, g) | some l => rm_gvs r F (rm_gv a r l) (g + 1)).1 nm nc nl'
    cases hx : rm_nx a r with
    | none => exact ⟨nl, Nat.le_refl _, h⟩
    | some l =>
      have hx2 : rm_nxt a nc nl r = some l := by rw [← hx]; unfold rm_nx; rw [e1, e4]
      obtain ⟨nl', h1, h2⟩ := gvs_P F (rm_gv a r l) nm nc _ (g + 1) (by unfold rm_gv; rw [e0, e1, e4]; exact (iP_step h hx2).1)
      exact ⟨nl', by omega, h2⟩
theorem gvs_Q {r : Nat} : ∀ F a nm nc nl g, iP r a nm nc nl → rm_gvt r F a = true → rm_nx (rm_gvs r F a g).1 r = none
  | 0, _, _, _, _, _, _, ht => by cases ht
  | F + 1, a, nm, nc, nl, g, h, ht => by
    obtain ⟨e0, e1, e4⟩ := iv_NM h.1
    have ht : (match rm_nx a r with | none => true | some l => rm_gvt r F (rm_gv a r l)) = true := ht
    show rm_nx (match rm_nx a r with | none => (a, g) | some l => rm_gvs r F (rm_gv a r l) (g + 1)).1 r = none
    cases hx : rm_nx a r with
    | none => exact hx
    | some l =>
      rw [hx] at ht
      have hx2 : rm_nxt a nc nl r = some l := by rw [← hx]; unfold rm_nx; rw [e1, e4]
      exact gvs_Q F (rm_gv a r l) nm nc _ (g + 1) (by unfold rm_gv; rw [e0, e1, e4]; exact (iP_step h hx2).1) ht
theorem gvs_n {r F g : Nat} {a : zv_I} (hx : rm_nx a r = none) : rm_gvs r (F + 1) a g = (a, g) := by
  show (match rm_nx a r with | none => (a, g) | some l => rm_gvs r F (rm_gv a r l) (g + 1)) = _
  rw [hx]
theorem gvs_s {r F g l : Nat} {a : zv_I} (hx : rm_nx a r = some l) : rm_gvs r (F + 1) a g = rm_gvs r F (rm_gv a r l) (g + 1) := by
  show (match rm_nx a r with | none => (a, g) | some l => rm_gvs r F (rm_gv a r l) (g + 1)) = _
  rw [hx]
theorem gvt_s {r F l : Nat} {a : zv_I} (hx : rm_nx a r = some l) (ht : rm_gvt r (F + 1) a = true) : rm_gvt r F (rm_gv a r l) = true := by
  have ht : (match rm_nx a r with | none => true | some l => rm_gvt r F (rm_gv a r l)) = true := ht
  rw [hx] at ht
  exact ht
def cr_Q (ans : Int32) (a : zv_I) (nm nc nl : Nat) (sh0 : zv_S) (I0 : zv_I) (R0 : zv_R) : zv_Q := fun v sh I J R => v = some (.int ans) ∧ cr_R sh I J R a nm nc nl ∧ cr_F sh nm nc nl ∧ ∀ t, t < 40 → sh t = sh0 t ∧ I t = I0 t ∧ R t = R0 t
