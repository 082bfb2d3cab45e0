theorem iv_NM {a : zv_I} {nm nc nl q : Nat} (H : iv a nm nc nl q) : rm_NM a = nm ∧ rm_NC a = nc ∧ rm_NL a = nl := by
  have h0 := xI_n0 H
  have h1 := xI_n1 H
  have h4 := xI_n4 H
  refine ⟨?_, ?_, ?_⟩
  · unfold rm_NM; rw [h0.1]; exact rm_nv_n (by omega)
  · unfold rm_NC; rw [h1.1]; exact rm_nv_n (by omega)
  · unfold rm_NL; rw [h4.1]; exact rm_nv_n (by omega)
/-- there is room for an Order, and for a call's letter -/
theorem iv_room {a : zv_I} {nm nc nl l : Nat} (H : iv a nm nc nl 0) (hl : l < nl) (hk : a 10 l = nI 2) (h15 : a 15 l = -1) : nl < 200 := by
  have h1 := cnt_n (p := fun x => decide (a 10 x = nI 3)) nl
  have h2 : rm_cnt (fun x => !decide (a 10 x = nI 3)) nl = rm_NA a := by
    rw [← xI_kc H]
    exact cnt_c fun i _ => by show (!decide (a 10 i = nI 3)) = decide (¬ a 10 i = nI 3); rw [decide_not]
  have h3 : rm_cnt (fun x => decide (a 10 x = nI 2 ∧ ¬ a 15 x = -1)) nl < rm_cnt (fun x => decide (¬ a 10 x = nI 3)) nl := cnt_lt (x := l) (decide_eq_false fun z => z.2 h15) (decide_eq_true (by rw [hk]; decide)) hl fun i _ hi => decide_eq_true (by rw [(of_decide_eq_true hi).1]; decide)
  have h4 := xI_ko H
  have h5 := xI_kc H
  have h6 := (xI_n5 H).2
  omega
theorem iv_room1 {a : zv_I} {nm nc nl : Nat} (H : iv a nm nc nl 0) (h : rm_NA a < 100) : nl < 200 := by
  have h1 := cnt_n (p := fun x => decide (a 10 x = nI 3)) nl
  have h2 : rm_cnt (fun x => !decide (a 10 x = nI 3)) nl = rm_NA a := by
    rw [← xI_kc H]
    exact cnt_c fun i _ => by show (!decide (a 10 i = nI 3)) = decide (¬ a 10 i = nI 3); rw [decide_not]
  have h3 : rm_cnt (fun x => decide (a 10 x = nI 2 ∧ ¬ a 15 x = -1)) nl ≤ rm_cnt (fun x => decide (¬ a 10 x = nI 3)) nl := cnt_le fun i _ hi => decide_eq_true (by rw [(of_decide_eq_true hi).1]; decide)
  have h4 := xI_ko H
  have h5 := xI_kc H
  omega
/-! the rows of a call's letter -/
theorem c4_18 {a : zv_I} {nm nc nl w c e : Nat} {kk x : Int32} (he : e < 6) (hc : nc ≤ 6) : rm_row (rm_c4 a nm nc nl kk w c x) nl e = (decide (e < nc) && rm_in a w e) := by
  have e1 : rm_c4 a nm nc nl kk w c x 18 nl = rm_mk a w nc := by
    unfold rm_c4 rm_c3 rm_cts rm_c2
    rw [go_o (by decide) (by decide), zv_u_row _ _ _ _ (by decide), zv_u_row _ _ _ _ (by decide), md_18]
    exact mk_c (zv_u_row _ _ _ _ (by decide)) nc
  have e2 : rm_row (rm_c4 a nm nc nl kk w c x) nl e = cb (rm_c4 a nm nc nl kk w c x 18 nl) e := rfl
  rw [e2, e1]
  exact mk_bit (by omega) nc (by omega)
theorem c4_19 {a : zv_I} {nm nc nl q w c e m : Nat} {kk x : Int32} (H : iv a nm nc nl q) (hw : w < 8) (hnl : nl < 200) (he : e < 6) (hm : m < 8) : rm_c4 a nm nc nl kk w c x 19 (48 * nl + 8 * e + m) = nI (if e < nc ∧ rm_in a w e = true ∧ rm_in a m e = true then iv_g a w e m else 0) := by
  have e1 : ∀ j, rm_c4 a nm nc nl kk w c x 19 j = rm_mad (rm_c1 a) nc nl kk w c x 19 j := fun j => by
    unfold rm_c4 rm_c3 rm_cts rm_c2
    rw [go_o (by decide) (by decide), zv_u_row _ _ _ _ (by decide), zv_u_row _ _ _ _ (by decide)]
  rw [e1, md_19]
  by_cases q : e < nc
  · rw [if_pos (by omega), show 48 * nl + 8 * e + m - 48 * nl = 8 * e + m by omega]
    have h6 : rm_c1 a 6 = a 6 := zv_u_row _ _ _ _ (by decide)
    by_cases z : rm_in a w e = true ∧ rm_in a m e = true
    · rw [rm_ck_t hm (by rw [rm_in_o h6]; exact z.1) (by rw [rm_in_o h6]; exact z.2), if_pos ⟨q, z⟩]
      exact (congrFun (zv_u_row _ _ _ _ (by decide)) _).trans (xI_gv H w e m hw he hm).1
    · rw [if_neg (fun v => z v.2), rm_ck_f hm (by
        rw [rm_in_o h6, rm_in_o h6]
        cases h1 : rm_in a w e
        · exact Or.inl rfl
        · cases h2 : rm_in a m e
          · exact Or.inr rfl
          · exact absurd ⟨h1, h2⟩ z)]
  · rw [if_neg (by omega), if_neg (fun v => q v.1)]
    have := (xI_zl H nl (Nat.le_refl _) hnl).2 (8 * e + m) (by omega)
    rw [← Nat.add_assoc] at this
    exact (congrFun (zv_u_row _ _ _ _ (by decide)) _).trans this
theorem iv_c4 {a : zv_I} {nm nc nl w c k : Nat} {x : Int32} (H : iv a nm nc nl 0) (hA : rm_NA a < 100) (hw : w < nm) (hc : c < nc) (hin : rm_in a w c = true) (hk : k < 6) (hk3 : k ≠ 3) : iv (rm_c4 a nm nc nl (nI k) w c x) nm nc (nl + 1) 0 := by
  have n0 := (xI_n0 H).2
  have n1 := (xI_n1 H).2
  have hnl := iv_room1 H hA
  have e18 : ∀ e, e < 6 → rm_row (rm_c4 a nm nc nl (nI k) w c x) nl e = (decide (e < nc) && rm_in a w e) := fun e he => c4_18 he n1
  have e19 : ∀ e m, e < 6 → m < 8 → rm_c4 a nm nc nl (nI k) w c x 19 (48 * nl + 8 * e + m) = nI (if e < nc ∧ rm_in a w e = true ∧ rm_in a m e = true then iv_g a w e m else 0) := fun e m he hm => c4_19 H (by omega) hnl he hm
  have gb : ∀ e m, e < 6 → m < 8 → iv_g a w e m ≤ 200 := fun e m he hm => Nat.le_trans (xI_gv H w e m (by omega) he hm).2 (Nat.le_trans (xI_ww H m e hm he).2 (xI_n4 H).2)
  have ec : ∀ e m, e < 6 → m < 8 → iv_c (rm_c4 a nm nc nl (nI k) w c x) nl e m = (if e < nc ∧ rm_in a w e = true ∧ rm_in a m e = true then iv_g a w e m else 0) := fun e m he hm => by
    unfold iv_c
    rw [e19 e m he hm]
    exact rm_nv_n (by have := gb e m he hm; split <;> omega)
  refine iv_new H (c4_nS H hnl hw hc) ⟨?_, fun e he h => ?_, fun e m he hm => ?_, fun e m he hm h1 h2 h3 => ?_, ?_, fun e m he hm h1 => ?_, fun e m he hm h1 => ?_⟩ hnl hw hc hin rfl hk (Or.inl ⟨rfl, fun z => hk3 (nI_ij z (by omega) (by omega)), ?_, hA⟩)
  · rw [e18 c (by omega), decide_eq_true hc, hin]; rfl
  · rw [e18 e he] at h
    exact of_decide_eq_true ((Bool.and_eq_true _ _).mp h).1
  · rw [ec e m he hm]
    exact ⟨e19 e m he hm, by have := gb e m he hm; split <;> omega⟩
  · rw [ec e m (by omega) hm]
    split <;> omega
  · rw [ec c w (by omega) (by omega), if_pos ⟨hc, hin, hin⟩]
    exact (xI_gv H w c w (by omega) (by omega) (by omega)).2
  · rw [ec e m (by omega) hm, if_neg (fun z => by rw [z.2.2] at h1; cases h1)]
  · rw [ec e m he hm, if_neg (fun z => ?_)]
    rw [e18 e he, decide_eq_true z.1, z.2.1] at h1
    cases h1
  · unfold rm_c4 rm_c3 rm_cts rm_c2
    rw [go_o (by decide) (by decide), zv_u_row _ _ _ _ (by decide), zv_u_row _ _ _ _ (by decide), md_3, if_neg (by decide)]
    exact zv_u_s _ _ _ _
/-! the rows of an Order -/
theorem g6_18 {a : zv_I} {nm nc nl r l c : Nat} (hl : l < nl) : rm_g6 a nm nc nl r l c 18 nl = a 18 l := by
  unfold rm_g6 rm_g5 rm_g4 rm_g3
  rw [go_o (by decide) (by decide), rm_cc_o (by decide), zv_u_s, md_18_o (by omega)]
  unfold rm_g2
  rw [zv_u_row _ _ _ _ (by decide), zv_u_row _ _ _ _ (by decide), g1_o (by decide) (by decide) (by decide) (by decide) (by decide)]
theorem g6_19 {a : zv_I} {nm nc nl r l c j : Nat} (hl : l < nl) (hj : j < 48) : rm_g6 a nm nc nl r l c 19 (48 * nl + j) = a 19 (48 * l + j) := by
  unfold rm_g6 rm_g5 rm_g4 rm_g3
  rw [go_o (by decide) (by decide)]
  unfold rm_cc
  rw [if_pos ⟨rfl, by omega, by omega⟩, show 48 * nl + j - 48 * nl = j by omega, zv_u_row _ _ _ _ (by decide), zv_u_row _ _ _ _ (by decide), md_19, if_neg (by omega)]
  unfold rm_g2
  rw [zv_u_row _ _ _ _ (by decide), zv_u_row _ _ _ _ (by decide), g1_o (by decide) (by decide) (by decide) (by decide) (by decide)]
theorem iv_rd {a : zv_I} {nm nc nl q r l : Nat} (H : iv a nm nc nl q) (hr : r < 8) (hl : l < nl) (hh : a 20 (200 * r + l) = nI 2) : rm_nv (a 25 r) < 200 := by
  have n4 := (xI_n4 H).2
  rw [xI_rd H r hr]
  have h2 : rm_cnt (fun x => decide (a 20 (200 * r + x) = nI 3)) nl < rm_cnt (fun _ => true) nl := cnt_lt (x := l) (decide_eq_false fun q => by rw [hh] at q; exact absurd q (by decide)) rfl hl fun _ _ _ => rfl
  have h3 := rm_cnt_le (fun _ => true) nl
  rw [rm_nv_n (by omega)]
  omega
theorem iv_gP {a : zv_I} {nm nc nl r l : Nat} (H : iv a nm nc nl 0) (hr : r < nm) (hl : l < nl) (hh : a 20 (200 * r + l) = nI 2) (hc : rm_can a nc nl r l = true) : gS a (rm_gP a nl r l) nl r l ∧ iv (rm_gP a nl r l) nm nc nl (if gd a r l = true then 1 else 0) := by
  have n0 := (xI_n0 H).2
  have n1 := (xI_n1 H).2
  have n4 := (xI_n4 H).2
  have S : gS a (rm_gP a nl r l) nl r l := gS_P (by omega) (by have := (xI_lc H l hl).2; omega) (by have := (xI_lw H l hl).2; omega) (iv_rd H (by omega) hl hh)
  exact ⟨S, iv_give H S hr hl hh hc⟩
theorem gd_15 {a : zv_I} {nm nc nl r l : Nat} (H : iv a nm nc nl 0) (hl : l < nl) (hh : a 20 (200 * r + l) = nI 2) (q : gd a r l = true) : a 10 l = nI 2 ∧ r = rm_el a (rm_ci a l) ∧ a 15 l = -1 := by
  obtain ⟨q1, q2⟩ := of_decide_eq_true q
  refine ⟨q1, q2, Decidable.not_not.mp fun z => ?_⟩
  have := (xI_ne H l hl q1).mp z
  rw [← q2, hh] at this
  exact absurd this (by decide)
theorem iv_g6 {a : zv_I} {nm nc nl r l : Nat} (H : iv a nm nc nl 0) (hr : r < nm) (hl : l < nl) (hh : a 20 (200 * r + l) = nI 2) (hc : rm_can a nc nl r l = true) (hg : gd a r l = true) : nS (rm_gP a nl r l) (rm_g6 a nm nc nl r l (rm_ci a l)) nl r (rm_ci a l) (nI 3) (nI l) ∧ iv (rm_g6 a nm nc nl r l (rm_ci a l)) nm nc (nl + 1) 0 := by
  have n0 := (xI_n0 H).2
  have n1 := (xI_n1 H).2
  obtain ⟨S, H1⟩ := iv_gP H hr hl hh hc
  rw [if_pos hg] at H1
  obtain ⟨k1, k2, k3⟩ := gd_15 H hl hh hg
  have hnl := iv_room H hl k1 k3
  have hcl := xI_lc H l hl
  have hwl := xI_lw H l hl
  have N := g6_nS H1 hg hnl hl hr hcl.2
  have hlk := (rm_can_k hc).1
  have hown := iv_own H hr hl hh hlk
  have hin := iv_in2 H (by omega) hl hh
  refine ⟨N, ?_⟩
  have e6 : rm_gP a nl r l 6 = a 6 := xG_o S 6 (by decide) (by decide) (by decide) (by decide) (by decide) (by decide) (by decide) (by decide)
  have ein : rm_in (rm_gP a nl r l) = rm_in a := by funext m c; exact rm_in_o e6 m c
  have ew : iv_w (rm_gP a nl r l) = iv_w a := by funext x y; unfold iv_w; rw [xG_o S 22 (by decide) (by decide) (by decide) (by decide) (by decide) (by decide) (by decide) (by decide)]
  have eg : ∀ e m, e < 6 → m < 8 → iv_g (rm_gP a nl r l) r e m = (if e = rm_ci a l ∧ m = rm_wr a l then iv_g a r e m + 1 else iv_g a r e m) := by
    intro e m he hm
    have h4 := xI_gv H r e m (by omega) he hm
    have h5 := (xI_ww H m e hm he).2
    have n4 := (xI_n4 H).2
    unfold iv_g
    rw [xG_g S r e m (by omega) he hm]
    by_cases z : e = rm_ci a l ∧ m = rm_wr a l
    · rw [if_pos ⟨rfl, z⟩, if_pos z, h4.1, nI_add, rm_nv_n (by omega), rm_nv_n (by omega)]
    · rw [if_neg (fun v => z v.2), if_neg z]
  have er : ∀ e, rm_row (rm_g6 a nm nc nl r l (rm_ci a l)) nl e = rm_row a l e := fun e => by unfold rm_row; rw [g6_18 hl]
  have e19 : ∀ e m, e < 6 → m < 8 → rm_g6 a nm nc nl r l (rm_ci a l) 19 (48 * nl + 8 * e + m) = a 19 (48 * l + 8 * e + m) := fun e m he hm => by
    rw [Nat.add_assoc, g6_19 hl (by omega), ← Nat.add_assoc]
  have ec : ∀ e m, e < 6 → m < 8 → iv_c (rm_g6 a nm nc nl r l (rm_ci a l)) nl e m = iv_c a l e m := fun e m he hm => by unfold iv_c; rw [e19 e m he hm]
  have key : ∀ e m, e < nc → m < 8 → rm_row a l e = true → rm_in a r e = true → rm_in a m e = true → ¬ (e = rm_ci a l ∧ m = rm_wr a l) → iv_c a l e m ≤ iv_g a r e m := by
    intro e m he hm g1 g2 g3 g4
    have h4 := rm_fst_none.mp hlk (8 * e + m) (Nat.zero_le _) (by omega)
    unfold rm_lkp rm_ask at h4
    rw [show (8 * e + m) / 8 = e by omega, show (8 * e + m) % 8 = m by omega, g1, g2, g3] at h4
    have h5 : ¬ 0 < rm_lk a r l e m := of_decide_eq_false h4
    rw [iv_lk H (by omega) hl (by omega) hm, if_neg g4] at h5
    omega
  refine iv_new H1 N ⟨?_, fun e he h => ?_, fun e m he hm => ?_, fun e m he hm h1 h2 h3 => ?_, ?_, fun e m he hm h1 => ?_, fun e m he hm h1 => ?_⟩ hnl hr hcl.2 (by rw [ein]; exact hin) rfl (by decide) (Or.inr ⟨rfl, rfl, ?_⟩)
  · rw [er]; exact xI_rc H l hl
  · rw [er] at h; exact xI_rn H l e hl he h
  · rw [ec e m he hm, e19 e m he hm]; exact xI_ck H l e m hl he hm
  · rw [er] at h1
    rw [ein] at h2
    rw [ec e m (by omega) hm, eg e m (by omega) hm]
    by_cases z : e = rm_ci a l ∧ m = rm_wr a l
    · rw [if_pos z, z.1, z.2]
      have := xI_co H l hl
      omega
    · rw [if_neg z]
      cases hi : rm_in a m e with
      | true => exact key e m he hm h1 h2 hi z
      | false => rw [xI_cz H l e m hl he hm hi]; omega
  · rw [ec _ _ (by omega) (by omega), ew]
    by_cases z : r = rm_wr a l
    · have h1 := xI_co H l hl
      have h2 := (xI_ls H l hl).2.2
      rw [← z] at h1 h2
      omega
    · have h1 := key (rm_ci a l) r hcl.2 (by omega) (xI_rc H l hl) hin hin (fun v => z v.2)
      have h2 := (xI_gv H r (rm_ci a l) r (by omega) (by omega) (by omega)).2
      omega
  · rw [ein] at h1
    rw [ec e m (by omega) hm]
    exact xI_cz H l e m hl he hm h1
  · rw [er] at h1
    rw [ec e m he hm]
    exact xI_cw H l e m hl he hm h1
  · unfold rm_g6 rm_g5 rm_g4 rm_g3
    rw [go_o (by decide) (by decide), rm_cc_o (by decide), zv_u_row _ _ _ _ (by decide), zv_u_row _ _ _ _ (by decide), md_3, if_neg (by decide)]
    unfold rm_gP
    rw [if_pos hg, zv_u_row _ _ _ _ (by decide)]
theorem giv_t {a : zv_I} {nm nc nl r l : Nat} (h : gd a r l = true) : rm_giv a nm nc nl r l = rm_g6 a nm nc nl r l (rm_ci a l) := if_pos (of_decide_eq_true h)
theorem giv_f {a : zv_I} {nm nc nl r l : Nat} (h : gd a r l = false) : rm_giv a nm nc nl r l = rm_gP a nl r l := by
  unfold rm_gP
  rw [if_neg (by rw [h]; decide)]
  exact if_neg (of_decide_eq_false h)
theorem iv_giv {a : zv_I} {nm nc nl r l : Nat} (H : iv a nm nc nl 0) (hr : r < nm) (hl : l < nl) (hh : a 20 (200 * r + l) = nI 2) (hc : rm_can a nc nl r l = true) : iv (rm_giv a nm nc nl r l) nm nc (nl + if gd a r l = true then 1 else 0) 0 := by
  cases hg : gd a r l with
  | true =>
    rw [giv_t hg, if_pos rfl]
    exact (iv_g6 H hr hl hh hc hg).2
  | false =>
    rw [giv_f hg, if_neg (by decide)]
    have := (iv_gP H hr hl hh hc).2
    rw [hg, if_neg (by decide)] at this
    exact this
