theorem iv_o {a b : zv_I} {nm nc nl q : Nat} (H : iv a nm nc nl q) (h : ∀ t, t ≠ 3 → t ≠ 27 → t ≠ 29 → t ≠ 31 → b t = a t) (h3 : ∀ j, j ≠ 24 → j ≠ 26 → b 3 j = a 3 j) (hnt : b 3 26 = nI (rm_NT b) ∧ rm_NT b ≤ 60) (hsl : ∀ m s, m < 8 → s < 40 → rm_sl b nl m s) (hz : ∀ m, nm ≤ m → m < 8 → ∀ s, s < 40 → b 27 (40 * m + s) = 0) : iv b nm nc nl q := by
  have e6 : b 6 = a 6 := h 6 (by decide) (by decide) (by decide) (by decide)
  have e7 : b 7 = a 7 := h 7 (by decide) (by decide) (by decide) (by decide)
  have e10 : b 10 = a 10 := h 10 (by decide) (by decide) (by decide) (by decide)
  have e11 : b 11 = a 11 := h 11 (by decide) (by decide) (by decide) (by decide)
  have e12 : b 12 = a 12 := h 12 (by decide) (by decide) (by decide) (by decide)
  have e13 : b 13 = a 13 := h 13 (by decide) (by decide) (by decide) (by decide)
  have e15 : b 15 = a 15 := h 15 (by decide) (by decide) (by decide) (by decide)
  have e16 : b 16 = a 16 := h 16 (by decide) (by decide) (by decide) (by decide)
  have e17 : b 17 = a 17 := h 17 (by decide) (by decide) (by decide) (by decide)
  have e18 : b 18 = a 18 := h 18 (by decide) (by decide) (by decide) (by decide)
  have e19 : b 19 = a 19 := h 19 (by decide) (by decide) (by decide) (by decide)
  have e20 : b 20 = a 20 := h 20 (by decide) (by decide) (by decide) (by decide)
  have e21 : b 21 = a 21 := h 21 (by decide) (by decide) (by decide) (by decide)
  have e22 : b 22 = a 22 := h 22 (by decide) (by decide) (by decide) (by decide)
  have e23 : b 23 = a 23 := h 23 (by decide) (by decide) (by decide) (by decide)
  have e24 : b 24 = a 24 := h 24 (by decide) (by decide) (by decide) (by decide)
  have e25 : b 25 = a 25 := h 25 (by decide) (by decide) (by decide) (by decide)
  have e26 : b 26 = a 26 := h 26 (by decide) (by decide) (by decide) (by decide)
  have ein : rm_in b = rm_in a := by funext m c; exact rm_in_o e6 m c
  have eel : rm_el b = rm_el a := by funext c; unfold rm_el; rw [ein]
  have ees : rm_es b = rm_es a := by funext c; unfold rm_es; rw [ein, eel]
  have eci : rm_ci b = rm_ci a := by funext x; unfold rm_ci; rw [e11]
  have ewr : rm_wr b = rm_wr a := by funext x; unfold rm_wr; rw [e12]
  have erw : rm_row b = rm_row a := by funext x d; unfold rm_row; rw [e18]
  have es : iv_s b = iv_s a := by funext x; unfold iv_s; rw [e13]
  have ew : iv_w b = iv_w a := by funext x y; unfold iv_w; rw [e22]
  have ec : iv_c b = iv_c a := by funext x y z; unfold iv_c; rw [e19]
  have eg : iv_g b = iv_g a := by funext x y z; unfold iv_g; rw [e21]
  have eib : rm_ib b = rm_ib a := by funext x y; unfold rm_ib; rw [e26]
  have eNA : rm_NA b = rm_NA a := by unfold rm_NA; rw [h3 5 (by decide) (by decide)]
  have end_ : iv_nd b = iv_nd a := by funext n c; unfold iv_nd; rw [e10, e11, e15]
  have esg : cr_sg b = cr_sg a := by funext n r c; unfold cr_sg; rw [e10, e11, e20]
  have est : cr_st b = cr_st a := by funext m l; unfold cr_st; rw [ein, eci, e20]
  exact ⟨by rw [h3 0 (by decide) (by decide)]; exact xI_n0 H, by rw [h3 1 (by decide) (by decide)]; exact xI_n1 H, by rw [h3 4 (by decide) (by decide)]; exact xI_n4 H, by rw [h3 5 (by decide) (by decide), eNA]; exact xI_n5 H, hnt, by rw [e6]; exact xI_cy H, by rw [ein]; exact xI_ci H, by rw [ees]; exact xI_ce H, by rw [e7, end_]; exact xI_cn H, by rw [e10]; exact xI_lk H, by rw [e11, eci]; exact xI_lc H, by rw [e12, ewr]; exact xI_lw H, by rw [ein, eci, ewr]; exact xI_li H, by rw [e13, es, ew, eci, ewr]; exact xI_ls H, by rw [es, eci, ewr]; exact xI_lu H, by rw [es, eci, ewr, ew]; exact xI_lx H, by rw [e22, ew]; exact xI_ww H, by rw [est]; exact xI_st H, by rw [e20, ewr]; exact xI_wl H, by rw [e21, eg, ew]; exact xI_gv H, by rw [e20, es, eg, eci, ewr]; exact xI_gs H, by rw [e19, ec]; exact xI_ck H, by rw [ec, ein]; exact xI_cz H, by rw [ec, erw]; exact xI_cw H, by rw [erw, eci]; exact xI_rc H, by rw [erw]; exact xI_rn H, by rw [erw, ein, ewr, eci, ec, eg]; exact xI_cl H, by rw [ec, es, eci, ewr]; exact xI_co H, by rw [e15, e10, eci, end_]; exact xI_nu H, by rw [eci, e15]; exact xI_nj H, by rw [end_, e10, eci, e15]; exact xI_ns H, by rw [e10, e15, e20, eel, eci]; exact xI_ne H, by rw [e16, e15]; exact xI_no H, by rw [e10, ewr, eel, eci, e20, e15]; exact xI_nk H, by rw [e10, eel, eci, e20, e15, esg]; exact xI_sg H, by rw [esg, end_]; exact xI_sn H, by rw [e10, eNA]; exact xI_kc H, by rw [e10, e15]; exact xI_ko H, by rw [e25, e20]; exact xI_rd H, by rw [e23]; exact xI_la H, hsl, by rw [e26]; exact xI_bz H, by rw [eib]; exact xI_bt H, by rw [e20]; exact xI_zs H, fun m h1 h2 => ⟨hz m h1 h2, by rw [e23]; exact (xI_zm H m h1 h2).2.1, by rw [e24]; exact (xI_zm H m h1 h2).2.2⟩, by rw [e17, e19]; exact xI_zl H⟩
theorem iq_o {a b : zv_I} {nc nl r : Nat} (hn : nc ≤ 6) (h : ∀ t, t ≠ 3 → t ≠ 27 → t ≠ 29 → t ≠ 31 → b t = a t) (Q : iq a nc nl r) : iq b nc nl r := by
  have e6 : b 6 = a 6 := h 6 (by decide) (by decide) (by decide) (by decide)
  have e7 : b 7 = a 7 := h 7 (by decide) (by decide) (by decide) (by decide)
  have e10 : b 10 = a 10 := h 10 (by decide) (by decide) (by decide) (by decide)
  have e11 : b 11 = a 11 := h 11 (by decide) (by decide) (by decide) (by decide)
  have e12 : b 12 = a 12 := h 12 (by decide) (by decide) (by decide) (by decide)
  have e13 : b 13 = a 13 := h 13 (by decide) (by decide) (by decide) (by decide)
  have e15 : b 15 = a 15 := h 15 (by decide) (by decide) (by decide) (by decide)
  have e16 : b 16 = a 16 := h 16 (by decide) (by decide) (by decide) (by decide)
  have e17 : b 17 = a 17 := h 17 (by decide) (by decide) (by decide) (by decide)
  have e18 : b 18 = a 18 := h 18 (by decide) (by decide) (by decide) (by decide)
  have e19 : b 19 = a 19 := h 19 (by decide) (by decide) (by decide) (by decide)
  have e20 : b 20 = a 20 := h 20 (by decide) (by decide) (by decide) (by decide)
  have e21 : b 21 = a 21 := h 21 (by decide) (by decide) (by decide) (by decide)
  have e22 : b 22 = a 22 := h 22 (by decide) (by decide) (by decide) (by decide)
  have e23 : b 23 = a 23 := h 23 (by decide) (by decide) (by decide) (by decide)
  have e24 : b 24 = a 24 := h 24 (by decide) (by decide) (by decide) (by decide)
  have e25 : b 25 = a 25 := h 25 (by decide) (by decide) (by decide) (by decide)
  have e26 : b 26 = a 26 := h 26 (by decide) (by decide) (by decide) (by decide)
  have ein : rm_in b = rm_in a := by funext m c; exact rm_in_o e6 m c
  have eel : rm_el b = rm_el a := by funext c; unfold rm_el; rw [ein]
  have eci : rm_ci b = rm_ci a := by funext x; unfold rm_ci; rw [e11]
  have eor : rm_or b = rm_or a := by funext x; unfold rm_or; rw [e16]
  intro l hl hh
  rw [e20] at hh
  have := Q l hl hh
  unfold rm_can at this ⊢
  rw [lkg_c (a := a) hn e6 (congrFun e11 l) (congrFun e12 l) (congrFun e13 l) (congrFun e18 l) (fun j _ => congrFun e19 _) (fun j _ => congrFun e21 _), e10, eel, eci]
  have e1 : rm_hor b r l = rm_hor a r l := by unfold rm_hor; rw [e12, eel, eci, e15, e16, e20, eor]
  have e2 : rm_hlo b nl r l = rm_hlo a nl r l := by
    unfold rm_hlo
    have : rm_lok b r l = rm_lok a r l := by funext x; unfold rm_lok rm_low; rw [e10, e11, e15, e20]
    rw [this]
  rw [e1, e2]
  exact this
theorem iQ_st {a : zv_I} {nm nc nl : Nat} (h : iQ a nm nc nl) (x : Int32) : iQ (zv_u a 3 24 x) nm nc nl := by
  have hr : ∀ t, t ≠ 3 → zv_u a 3 24 x t = a t := fun t ht => zv_u_row _ _ _ _ ht
  have h26 : zv_u a 3 24 x 3 26 = a 3 26 := zv_u_j _ _ (by decide)
  have eNT : rm_NT (zv_u a 3 24 x) = rm_NT a := by unfold rm_NT; rw [h26]
  refine ⟨iv_o h.1 (fun t h1 _ _ _ => hr t h1) (fun j h1 _ => zv_u_j _ _ h1) (by rw [h26, eNT]; exact xI_nt h.1) (fun m s h1 h2 => ?_) (fun m h1 h2 s hs => by rw [hr 27 (by decide)]; exact (xI_zm h.1 m h1 h2).1 s hs), fun r hr' => iq_o (xI_n1 h.1).2 (fun t h1 _ _ _ => hr t h1) (h.2 r hr')⟩
  unfold rm_sl
  rw [hr 27 (by decide)]
  exact xI_sl h.1 m s h1 h2
/-- a change of rows that the letters and members don't see -/
theorem cr_o {sh : zv_S} {I I' : zv_I} {J : zv_J} {R : zv_R} {a b : zv_I} {nm nc nl q : Nat} (RL : cr_R sh I J R a nm nc nl) (H : iv a nm nc nl q) (hI : ∀ t, t ≠ 40 → t ≠ 44 → t ≠ 45 → t ≠ 46 → I' t = I t) (h40 : ∀ j, j ≠ 9 → I' 40 j = I 40 j) (h : ∀ t, t ≠ 3 → t ≠ 29 → t ≠ 31 → b t = a t) (hT : cr_T I' b) : cr_R sh I' J R b nm nc nl := by
  have b5 := (xR_B RL).2.2.1
  have b6 := (xR_B RL).2.2.2.2.1
  have b7 := (xR_B RL).2.2.2.2.2.2.1
  have e6 : b 6 = a 6 := h 6 (by decide) (by decide) (by decide)
  have ein : rm_in b = rm_in a := by funext m c; exact rm_in_o e6 m c
  have eel : rm_el b = rm_el a := by funext c; unfold rm_el; rw [ein]
  refine ⟨cc_B_o (xR_B RL) (fun t _ => rfl) (fun j hj => h40 j (by omega)) (fun l j hl _ => by rw [hI _ (by omega) (by omega) (by omega) (by omega)]), hT, fun c hc => ?_, fun l hl => ?_, fun m hm => ?_⟩
  · have C := xR_C RL c hc
    have e := hI (50 + c) (by omega) (by omega) (by omega) (by omega)
    exact ⟨by rw [e, e6]; exact xC_b C, by rw [e, eel]; exact xC_e C, by rw [e, h 7 (by decide) (by decide) (by decide)]; exact xC_p C⟩
  · refine cr_L_o (xR_L RL l hl) (hI _ (by omega) (by omega) (by omega) (by omega)) (fun t h1 h2 => hI t (by omega) (by omega) (by omega) (by omega)) rfl rfl rfl (fun t h1 h2 => congrFun (h t (by omega) (by omega) (by omega)) _) (fun j _ => congrFun (h 19 (by decide) (by decide) (by decide)) _) (fun m _ => congrFun (h 20 (by decide) (by decide) (by decide)) _) (fun y _ => congrFun (h 26 (by decide) (by decide) (by decide)) _) ?_
    unfold rm_cof
    refine cnt_c fun i hi => ?_
    unfold rm_cop rm_row
    rw [ein, h 18 (by decide) (by decide) (by decide)]
  · have e20 := h 20 (by decide) (by decide) (by decide)
    refine cr_M_o (xR_M RL m hm) (fun t h1 h2 => hI t (by omega) (by omega) (by omega) (by omega)) rfl rfl rfl (fun c _ => rfl) (fun s _ => rfl) (fun j _ => congrFun (h 21 (by decide) (by decide) (by decide)) _) (fun c _ => congrFun (h 22 (by decide) (by decide) (by decide)) _) (fun i _ => congrFun (h 24 (by decide) (by decide) (by decide)) _) (congrFun (h 25 (by decide) (by decide) (by decide)) _) (fun c _ => congrFun (h 23 (by decide) (by decide) (by decide)) _) (fun s _ => congrFun (h 27 (by decide) (by decide) (by decide)) _) (fun c _ => ?_) (fun n h' g => ?_) (fun x _ => ?_)
    · unfold cr_sg; rw [h 10 (by decide) (by decide) (by decide), h 11 (by decide) (by decide) (by decide), e20]
    · unfold cr_H at g ⊢; rw [e20]; exact g
    · exact bq_c nl fun y _ => ⟨by unfold rm_kn; rw [h 12 (by decide) (by decide) (by decide), e20], by unfold rm_ib; rw [h 26 (by decide) (by decide) (by decide)]⟩
theorem cr_sts {sh : zv_S} {I : zv_I} {J : zv_J} {R : zv_R} {a : zv_I} {nm nc nl q : Nat} (RL : cr_R sh I J R a nm nc nl) (H : iv a nm nc nl q) (x : Int32) : cr_R sh (zv_u I 40 9 x) J R (zv_u a 3 24 x) nm nc nl := by
  have T := xR_T RL
  refine cr_o RL H (fun t h1 _ _ _ => zv_u_row _ _ _ _ h1) (fun j hj => zv_u_j _ _ hj) (fun t h1 _ _ => zv_u_row _ _ _ _ h1) ⟨?_, ?_, ?_, fun i hi => ?_⟩
  · rw [zv_u_j _ _ (by decide), zv_u_j _ _ (by decide)]; exact xT_na T
  · rw [zv_u_s, zv_u_s]
  · rw [zv_u_row _ _ _ _ (by decide), zv_u_j _ _ (by decide)]; exact xT_nt T
  · rw [zv_u_row _ _ _ _ (by decide), zv_u_row _ _ _ _ (by decide)]; exact xT_tr T i hi
