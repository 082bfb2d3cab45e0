theorem gS_sg {a b : zv_I} {nm nc nl r l r' c : Nat} (H : iv a nm nc nl 0) (S : gS a b nl r l) (hl : l < nl) (hh : a 20 (200 * r + l) = nI 2) (h8 : r' < 8) (hc6 : c < 6) : cr_sg b nl r' c = (if r' = r ∧ a 10 l = nI 2 ∧ c = rm_ci a l then cr_sg a nl r' c + 1 else cr_sg a nl r' c) := by
  have n4 := (xI_n4 H).2
  have hcl := xI_lc H l hl
  have n1 := (xI_n1 H).2
  have e10 : b 10 = a 10 := xG_o S 10 (by decide) (by decide) (by decide) (by decide) (by decide) (by decide) (by decide) (by decide)
  have e11 : b 11 = a 11 := xG_o S 11 (by decide) (by decide) (by decide) (by decide) (by decide) (by decide) (by decide) (by decide)
  have hng : ¬ a 20 (200 * r + l) = nI 3 := fun q => by rw [hh] at q; exact absurd q (by decide)
  unfold cr_sg
  rw [e10, e11]
  by_cases q : r' = r ∧ a 10 l = nI 2 ∧ c = rm_ci a l
  · rw [if_pos q]
    refine cnt_1 (x := l) ?_ ?_ (fun i hi hne => ?_) hl
    · exact decide_eq_false fun z => hng (by rw [← q.1]; exact z.2.2)
    · exact decide_eq_true ⟨q.2.1, by rw [q.2.2]; exact hcl.1, by rw [xG_s S r' l h8 (by omega), if_pos ⟨q.1, rfl⟩]⟩
    · show decide _ = decide _
      rw [xG_s S r' i h8 (by omega), if_neg (fun z => hne z.2)]
  · rw [if_neg q]
    refine cnt_c fun i hi => ?_
    show decide _ = decide _
    rw [xG_s S r' i h8 (by omega)]
    by_cases z : r' = r ∧ i = l
    · rw [if_pos z]
      rw [z.2]
      have h9 : ¬ (a 10 l = nI 2 ∧ a 11 l = nI c) := fun y => q ⟨z.1, y.1, by have y2 := y.2; rw [hcl.1] at y2; exact (nI_ij y2 (by omega) (by omega)).symm⟩
      rw [decide_eq_false (fun y => h9 ⟨y.1, y.2.1⟩), decide_eq_false (fun y => h9 ⟨y.1, y.2.1⟩)]
    · rw [if_neg z]
theorem th_l {a : zv_I} {R : zv_R} {nl m s l : Nat} (hn : nl ≤ 200) (hl : l < 200) (hs : rm_sl a nl m s) : cr_tg R (rm_th a m s) = some (300 + 3 * l) ↔ a 27 (40 * m + s) = nI (l + 1) := by
  unfold rm_th
  rcases hs with h | ⟨x, hx, h⟩ | ⟨x, hx, h⟩
  · rw [h]
    exact ⟨fun z => (by cases z), fun z => absurd (show nI (l + 1) = 0 from z.symm) (rm_slp hl).1⟩
  · rw [h, rm_thw_l (by omega)]
    show some (300 + 3 * x) = some (300 + 3 * l) ↔ _
    exact ⟨fun z => by have := Option.some.inj z; congr 1; omega, fun z => by have := nI_ij z (by omega) (by omega); congr 1; omega⟩
  · rw [h, rm_thw_c (by omega)]
    show some (1000 + 8 * cc_ck R x) = some (300 + 3 * l) ↔ _
    exact ⟨fun z => by have := Option.some.inj z; omega, fun z => absurd (by rw [← z]; exact (rm_sln (by omega)).2.1) (rm_slp hl).2⟩
theorem bq_add {a b : zv_I} {r l nl x : Nat} (hl : l < nl) (h1 : ∀ y, y < nl → rm_kn b r y = (rm_kn a r y || decide (y = l))) (h2 : rm_ib b = rm_ib a) : rm_bq b r nl x = (decide (x = l) || (rm_bq a r nl x || (decide (x < l) && rm_ib a l x))) := by
  have h : (rm_bq b r nl x = true) ↔ ((decide (x = l) || (rm_bq a r nl x || (decide (x < l) && rm_ib a l x))) = true) := by
    rw [bq_iff, Bool.or_eq_true, Bool.or_eq_true, bq_iff, Bool.and_eq_true, decide_eq_true_eq, decide_eq_true_eq, h2]
    constructor
    · rintro ⟨y, g1, g2, g3⟩
      rw [h1 y g1, Bool.or_eq_true, decide_eq_true_eq] at g2
      rcases g2 with g2 | g2
      · exact Or.inr (Or.inl ⟨y, g1, g2, g3⟩)
      · rw [g2] at g3
        rcases g3 with g3 | g3
        · exact Or.inl g3
        · exact Or.inr (Or.inr g3)
    · rintro (g | ⟨y, g1, g2, g3⟩ | g)
      · exact ⟨l, hl, by rw [h1 l hl, decide_eq_true rfl, Bool.or_true], Or.inl g⟩
      · exact ⟨y, g1, by rw [h1 y g1, g2]; rfl, g3⟩
      · exact ⟨l, hl, by rw [h1 l hl, decide_eq_true rfl, Bool.or_true], Or.inr g⟩
  cases hb : rm_bq b r nl x <;> cases hc : (decide (x = l) || (rm_bq a r nl x || (decide (x < l) && rm_ib a l x)))
  · rfl
  · rw [h.mpr hc] at hb; cases hb
  · rw [h.mp hb] at hc; cases hc
  · rfl
theorem cr_give {sh : zv_S} {I I' : zv_I} {J : zv_J} {R : zv_R} {a : zv_I} {nm nc nl r l n p : Nat} {h : Nat → Nat} (RL : cr_R sh I J R a nm nc nl) (H : iv a nm nc nl 0) (hr : r < nm) (hl : l < nl) (hh : a 20 (200 * r + l) = nI 2) (S : gS a (rm_gP a nl r l) nl r l) (D : dS I I' r l (rm_ci a l) (rm_wr a l) (rm_nv (a 25 r)) n nl (a 10 l) (a 7 (rm_ci a l)) (gd a r l)) (hn : I (100 + 20 * r) 9 = nI n) (hH : cr_H R a nl r n h) (hp : p < n) (hhp : h p = l) : cr_R sh I' (cg_J J r l) (cg_R R r l p n) (rm_gP a nl r l) nm nc nl := by
  have n0 := (xI_n0 H).2
  have n1 := (xI_n1 H).2
  have n4 := (xI_n4 H).2
  have hcl := xI_lc H l hl
  have hwl := xI_lw H l hl
  have h25 := xI_rd H r (by omega)
  have hle := rm_cnt_le (fun x => decide (a 20 (200 * r + x) = nI 3)) nl
  have hR1 : ∀ t, t ≠ 112 + 20 * r → t ≠ 113 + 20 * r → cg_R R r l p n t = R t := fun t h1 h2 => (cc_lv_o h2).trans (cc_dr_o h1)
  have hJ1 : ∀ t, t ≠ 115 + 20 * r → cg_J J r l t = J t := fun t h1 => (cs_add_o h1).trans (cs_or_o h1)
  have eo : ∀ t, t ≠ 7 → t ≠ 15 → t ≠ 16 → t ≠ 20 → t ≠ 21 → t ≠ 24 → t ≠ 25 → t ≠ 27 → rm_gP a nl r l t = a t := xG_o S
  have e3 := eo 3 (by decide) (by decide) (by decide) (by decide) (by decide) (by decide) (by decide) (by decide)
  have e6 := eo 6 (by decide) (by decide) (by decide) (by decide) (by decide) (by decide) (by decide) (by decide)
  have e10 := eo 10 (by decide) (by decide) (by decide) (by decide) (by decide) (by decide) (by decide) (by decide)
  have e11 := eo 11 (by decide) (by decide) (by decide) (by decide) (by decide) (by decide) (by decide) (by decide)
  have e12 := eo 12 (by decide) (by decide) (by decide) (by decide) (by decide) (by decide) (by decide) (by decide)
  have e18 := eo 18 (by decide) (by decide) (by decide) (by decide) (by decide) (by decide) (by decide) (by decide)
  have e19 := eo 19 (by decide) (by decide) (by decide) (by decide) (by decide) (by decide) (by decide) (by decide)
  have e22 := eo 22 (by decide) (by decide) (by decide) (by decide) (by decide) (by decide) (by decide) (by decide)
  have e23 := eo 23 (by decide) (by decide) (by decide) (by decide) (by decide) (by decide) (by decide) (by decide)
  have e26 := eo 26 (by decide) (by decide) (by decide) (by decide) (by decide) (by decide) (by decide) (by decide)
  have ein : rm_in (rm_gP a nl r l) = rm_in a := by funext m c; exact rm_in_o e6 m c
  have eel : rm_el (rm_gP a nl r l) = rm_el a := by funext c; unfold rm_el; rw [ein]
  have ecf : ∀ x, rm_cof (rm_gP a nl r l) nc x = rm_cof a nc x := fun x => by
    unfold rm_cof
    refine cnt_c fun i hi => ?_
    unfold rm_cop rm_row
    rw [ein, e18]
  have eib : rm_ib (rm_gP a nl r l) = rm_ib a := by funext x y; unfold rm_ib; rw [e26]
  have eck : ∀ x, x < nl → cc_ck (cg_R R r l p n) x = cc_ck R x := fun x hx => ck_o (hR1 _ (by omega) (by omega))
  have est : ∀ m x, m < 8 → x < nl → rm_gP a nl r l 20 (200 * m + x) = if m = r ∧ x = l then nI 3 else a 20 (200 * m + x) := fun m x h1 h2 => xG_s S m x h1 (by omega)
  refine ⟨cc_B_o (xR_B RL) (fun t ht => hR1 t (fun q => ht ⟨r, Or.inr (Or.inl ⟨q, by omega⟩)⟩) (fun q => ht ⟨r, Or.inr (Or.inr ⟨q, by omega⟩)⟩)) (fun j hj => by rw [xD_o D 40 (by omega) (by omega) (by omega) (by omega) (by omega) (by omega)]) (fun x j hx hj => ?_), ?_, fun c hc => ?_, fun x hx => ?_, fun m hm => ?_⟩
  · by_cases q : x = l
    · rw [q]; exact xD_l D j (by omega) (by omega) (by omega)
    · rw [xD_o D (300 + 3 * x) (by omega) (by omega) (by omega) (by omega) (by omega) (by omega)]
  · -- T
    have T := xR_T RL
    refine ⟨?_, ?_, ?_, fun i hi => ?_⟩
    · rw [xD_o D 40 (by omega) (by omega) (by omega) (by omega) (by omega) (by omega), e3]; exact xT_na T
    · rw [xD_o D 40 (by omega) (by omega) (by omega) (by omega) (by omega) (by omega), e3]; exact xT_st T
    · rw [xD_o D 45 (by omega) (by omega) (by omega) (by omega) (by omega) (by omega), e3]; exact xT_nt T
    · rw [xD_o D 46 (by omega) (by omega) (by omega) (by omega) (by omega) (by omega), eo 29 (by decide) (by decide) (by decide) (by decide) (by decide) (by decide) (by decide) (by decide)]; exact xT_tr T i hi
  · -- C
    have C := xR_C RL c hc
    by_cases q : c = rm_ci a l
    · refine ⟨?_, ?_, ?_⟩
      · rw [q, xD_c D 0, if_neg (fun v => absurd v.2 (by decide)), e6, ← q]; exact xC_b C
      · rw [q, xD_c D 1, if_neg (fun v => absurd v.2 (by decide)), eel, ← q]; exact xC_e C
      · rw [q, xD_c D 2, xG_p S]
        by_cases z : gd a r l = true
        · rw [if_pos ⟨z, rfl⟩, if_pos ⟨z, rfl⟩]
        · rw [if_neg (fun v => z v.1), if_neg (fun v => z v.1), ← q]; exact xC_p C
    · have e := xD_o D (50 + c) (by omega) (by omega) (by omega) (by omega) (by omega) (by omega)
      refine ⟨by rw [e, e6]; exact xC_b C, by rw [e, eel]; exact xC_e C, ?_⟩
      rw [e, xG_p S, if_neg (fun v => q v.2)]; exact xC_p C
  · -- L
    have L := xR_L RL x hx
    by_cases q : x = l
    · subst q
      have hKc : ∀ t, 1000 ≤ t → I' t = I t := fun t ht => xD_o D t (by omega) (by omega) (by omega) (by omega) (by omega) (by omega)
      have hl' : ∀ j, j ≠ 8 → j ≠ 9 → j ≠ 12 → I' (300 + 3 * x) j = I (300 + 3 * x) j := xD_l D
      have e13 := eo 13 (by decide) (by decide) (by decide) (by decide) (by decide) (by decide) (by decide) (by decide)
      have e14 := eo 14 (by decide) (by decide) (by decide) (by decide) (by decide) (by decide) (by decide) (by decide)
      have e17 := eo 17 (by decide) (by decide) (by decide) (by decide) (by decide) (by decide) (by decide) (by decide)
      refine ⟨by rw [hl' 1 (by decide) (by decide) (by decide), e10]; exact xL_k L, by rw [hl' 2 (by decide) (by decide) (by decide), e11]; exact xL_c L, by rw [hl' 3 (by decide) (by decide) (by decide), e12]; exact xL_w L, by rw [hl' 4 (by decide) (by decide) (by decide), e13]; exact xL_s L, by rw [hl' 5 (by decide) (by decide) (by decide), e14]; exact xL_n L, ?_, ?_, by rw [hl' 10 (by decide) (by decide) (by decide), e17]; exact xL_v L, by rw [hl' 11 (by decide) (by decide) (by decide)]; exact xL_ly L, fun m hm => ?_, by rw [xD_l12 D]; exact by_or (xL_gy L) (by omega), fun m hm => ?_, fun e he => ?_, fun e m he hm => ?_, ?_, fun y hy => ?_⟩
      · rw [xD_l8 D, xG_n S]
        by_cases z : gd a r x = true
        · rw [if_pos z, if_pos ⟨z, rfl⟩]
        · rw [if_neg z, if_neg (fun v => z v.1)]; exact xL_p L
      · rw [xD_l9 D, xG_or S]
        by_cases z : gd a r x = true
        · rw [if_pos z, if_pos ⟨z, rfl⟩]
        · rw [if_neg z, if_neg (fun v => z v.1)]; exact xL_o L
      · rw [hl' 11 (by decide) (by decide) (by decide), xL_lb L m hm, est m x hm hx]
        by_cases z : m = r
        · rw [if_pos ⟨z, rfl⟩, z, hh]; rfl
        · rw [if_neg (fun v => z v.1)]
      · rw [xD_l12 D, cb_or _ _ hm, xL_gb L m hm, cb_one (by omega) hm, est m x hm hx]
        by_cases z : m = r
        · rw [if_pos ⟨z, rfl⟩, decide_eq_true z, Bool.or_true]; rfl
        · rw [if_neg (fun v => z v.1), decide_eq_false z, Bool.or_false]
      · have er : rm_row (rm_gP a nl r x) x e = rm_row a x e := by unfold rm_row; rw [e18]
        rw [eck x hx, hR1 _ (by omega) (by omega), er]; exact xL_r L e he
      · have h1 := xL_cv L e m he hm
        rw [e19, ← h1]
        unfold cc_cv
        rw [eck x hx, hR1 _ (by omega) (by omega), hKc _ (by omega)]
      · rw [eck x hx, hKc _ (by omega), ecf]; exact xL_ct L
      · rw [hJ1 _ (by omega), eib]; exact xL_bf L y hy
    · refine cr_L_o L (xD_o D _ (by omega) (by omega) (by omega) (by omega) (by omega) (by omega)) (fun t h1 h2 => xD_o D t (by omega) (by omega) (by omega) (by omega) (by omega) (by omega)) (hJ1 _ (by omega)) (hR1 _ (by omega) (by omega)) (hR1 _ (by omega) (by omega)) (fun t h1 h2 => ?_) (fun j _ => congrFun e19 _) (fun m hm => ?_) (fun y _ => congrFun e26 _) (ecf x)
      · by_cases h15 : t = 15
        · rw [h15, xG_n S, if_neg (fun v => q v.2)]
        · by_cases h16 : t = 16
          · rw [h16, xG_or S, if_neg (fun v => q v.2)]
          · rw [eo t (by omega) h15 h16 (by omega) (by omega) (by omega) (by omega) (by omega)]
      · rw [est m x hm hx, if_neg (fun v => q v.2)]
  · -- M
    have M := xR_M RL m hm
    by_cases q : m = r
    · subst q
      have esg := fun c (hc : c < 6) => gS_sg (r' := m) H S hl hh (by omega) hc
      refine ⟨fun c w hc hw => ?_, fun c hc => ?_, fun c hc => ?_, fun i hi => ?_, ?_, ?_, fun c hc => ?_, fun s hs => ?_, fun x hx => ?_⟩
      · rw [xG_g S m c w (by omega) hc hw]
        by_cases z : c = rm_ci a l
        · rw [z, xD_g D]
          by_cases y : w = rm_wr a l
          · rw [if_pos y, if_pos ⟨rfl, rfl, y⟩, ← y, xM_g M _ w (by omega) hw]
          · rw [if_neg y, if_neg (fun v => y v.2.2)]; exact xM_g M _ w (by omega) hw
        · rw [xD_o D (102 + 20 * m + c) (by omega) (by omega) (by omega) (by omega) (by omega) (by omega), if_neg (fun v => z v.2.1)]; exact xM_g M c w hc hw
      · rw [xD_o D _ (by omega) (by omega) (by omega) (by omega) (by omega) (by omega), e22]; exact xM_w M c hc
      · rw [xD_s D, esg c hc, xM_s M c hc]
        by_cases z : a 10 l = nI 2 ∧ c = rm_ci a l
        · rw [if_pos z, if_pos ⟨rfl, z⟩, xM_s M _ (by omega), nI_add, z.2]
        · rw [if_neg z, if_neg (fun v => z v.2)]
      · rw [xD_rd D, xG_rd S m i (by omega) hi]
        by_cases z : i = rm_nv (a 25 m)
        · rw [if_pos z, if_pos ⟨rfl, z⟩]
        · rw [if_neg z, if_neg (fun v => z v.2)]; exact xM_r M i hi
      · rw [xD_n8 D, xG_rm S m (by omega), if_pos rfl]
      · refine ⟨n - 1, fun i => if i < p then h i else h (i + 1), xD_h D, fun i hi => ?_, fun i j g1 g2 => ?_, fun x hx hx2 => ?_⟩
        · have e1 : cg_R R m l p n (112 + 20 * m) i = if p ≤ i then R (112 + 20 * m) (i + 1) else R (112 + 20 * m) i := by
            unfold cg_R
            rw [cc_lv_o (by omega)]
            unfold cc_dr
            by_cases z : p ≤ i
            · rw [if_pos z, if_pos ⟨rfl, z, by omega⟩]
            · rw [if_neg z, if_neg (fun v => z v.2.1)]
          rw [e1]
          by_cases z : p ≤ i
          · have e9 : (fun i => if i < p then h i else h (i + 1)) i = h (i + 1) := if_neg (by omega)
            rw [if_pos z, e9]
            obtain ⟨g1, g2, g3⟩ := hH.1 (i + 1) (by omega)
            refine ⟨g1, g2, ?_⟩
            rw [est m _ (by omega) g2, if_neg (fun v => by have := hH.2.1 p (i + 1) (by omega) (by omega); omega)]
            exact g3
          · have e9 : (fun i => if i < p then h i else h (i + 1)) i = h i := if_pos (by omega)
            rw [if_neg z, e9]
            obtain ⟨g1, g2, g3⟩ := hH.1 i (by omega)
            refine ⟨g1, g2, ?_⟩
            rw [est m _ (by omega) g2, if_neg (fun v => by have := hH.2.1 i p (by omega) hp; omega)]
            exact g3
        · show (if i < p then h i else h (i + 1)) < (if j < p then h j else h (j + 1))
          split
          · split
            · exact hH.2.1 i j g1 (by omega)
            · exact hH.2.1 i (j + 1) (by omega) (by omega)
          · split
            · omega
            · exact hH.2.1 (i + 1) (j + 1) (by omega) (by omega)
        · rw [est m x (by omega) hx] at hx2
          by_cases z : x = l
          · rw [if_pos ⟨rfl, z⟩] at hx2; exact absurd hx2 (by decide)
          · rw [if_neg (fun v => z v.2)] at hx2
            obtain ⟨i, g1, g2⟩ := hH.2.2 x hx hx2
            by_cases y : i < p
            · exact ⟨i, by omega, by show (if i < p then h i else h (i + 1)) = x; rw [if_pos y]; exact g2⟩
            · have : i ≠ p := fun v => z (by rw [← g2, v, hhp])
              exact ⟨i - 1, by omega, by show (if i - 1 < p then h (i - 1) else h (i - 1 + 1)) = x; rw [if_neg (by omega), show i - 1 + 1 = i by omega]; exact g2⟩
      · rw [hR1 _ (by omega) (by omega), e23, lc_o eck (xI_la H m c (by omega) hc) n4]; exact xM_l M c hc
      · have hsl := xI_sl H m s (by omega) hs
        have h0 := xM_t M s hs
        have hth := th_l (R := R) (l := l) n4 (by omega) hsl
        have e1 : cg_R R m l p n (113 + 20 * m) s = if R (113 + 20 * m) s = some (300 + 3 * l) then none else R (113 + 20 * m) s := by
          unfold cg_R cc_lv
          rw [cc_dr_o (by omega)]
          by_cases z : R (113 + 20 * m) s = some (300 + 3 * l)
          · rw [if_pos z, if_pos ⟨rfl, by omega, z⟩]
          · rw [if_neg z, if_neg (fun v => z v.2.2)]
        rw [e1]
        by_cases z : a 27 (40 * m + s) = nI (l + 1)
        · have e2 : rm_th (rm_gP a nl m l) m s = none := by
            unfold rm_th
            rw [xG_h S m s (by omega) hs, if_pos ⟨rfl, z⟩]
            rfl
          rw [if_pos (by rw [h0]; exact hth.mpr z), e2]
          rfl
        · have e2 : rm_th (rm_gP a nl m l) m s = rm_th a m s := by
            unfold rm_th
            rw [xG_h S m s (by omega) hs, if_neg (fun v => z v.2)]
          rw [if_neg (fun v => z (hth.mp (by rw [← h0]; exact v))), e2, tg_o eck hsl n4]
          exact h0
      · have e1 : cs_bit (cg_J J m l (115 + 20 * m)) x = (decide (x = l) || (cs_bit (J (115 + 20 * m)) x || cs_bit (J (302 + 3 * l)) x)) := by
          unfold cg_J
          rw [cs_add_b, cs_or_b _ _ _ hx]
        rw [e1, xM_k M x hx, xL_bf (xR_L RL l hl) x hx, bq_add hl (fun y hy => ?_) eib]
        unfold rm_kn
        rw [e12, est m y (by omega) hy]
        by_cases z : y = l
        · rw [if_pos ⟨rfl, z⟩, decide_eq_true (Or.inr rfl), decide_eq_true z, Bool.or_true]
        · rw [if_neg (fun v => z v.2), decide_eq_false z, Bool.or_false]
    · have est' : ∀ x, x < nl → rm_gP a nl r l 20 (200 * m + x) = a 20 (200 * m + x) := fun x hx => by rw [est m x (by omega) hx, if_neg (fun v => q v.1)]
      refine cr_M_o M (fun t h1 h2 => xD_o D t (by omega) (by omega) (by omega) (by omega) (by omega) (by omega)) (hJ1 _ (by omega)) (hR1 _ (by omega) (by omega)) (hR1 _ (by omega) (by omega)) (fun c hc => lc_o eck (xI_la H m c (by omega) hc) n4) (fun s hs => tg_o eck (xI_sl H m s (by omega) hs) n4) (fun j hj => ?_) (fun c _ => congrFun e22 _) (fun i hi => ?_) ?_ (fun c _ => congrFun e23 _) (fun s hs => ?_) (fun c hc => ?_) (fun n' h' g => ?_) (fun x hx => ?_)
      · have := xG_g S m (j / 8) (j % 8) (by omega) (by omega) (by omega)
        rw [if_neg (fun v => q v.1), show 48 * m + 8 * (j / 8) + j % 8 = 48 * m + j by omega] at this
        exact this
      · rw [xG_rd S m i (by omega) hi, if_neg (fun v => q v.1)]
      · rw [xG_rm S m (by omega), if_neg q]
      · rw [xG_h S m s (by omega) hs, if_neg (fun v => q v.1)]
      · rw [gS_sg H S hl hh (by omega) hc, if_neg (fun v => q v.1)]
      · refine ⟨fun i hi => ?_, g.2.1, fun x hx hx2 => g.2.2 x hx (by rw [← est' x hx]; exact hx2)⟩
        obtain ⟨g1, g2, g3⟩ := g.1 i hi
        exact ⟨by rw [hR1 _ (by omega) (by omega)]; exact g1, g2, by rw [est' _ g2]; exact g3⟩
      · refine bq_c nl fun y hy => ⟨?_, by rw [eib]⟩
        unfold rm_kn
        rw [e12, est' y hy]
