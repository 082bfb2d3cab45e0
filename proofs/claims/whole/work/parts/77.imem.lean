theorem iv_mem {a b : zv_I} {nm nc nl q : Nat} (H : iv a nm nc nl q) (h8 : nm < 8) (h : ∀ t, t ≠ 3 → b t = a t) (h3 : ∀ j, j ≠ 0 → j ≠ 24 → b 3 j = a 3 j) (h0 : b 3 0 = nI (nm + 1)) : iv b (nm + 1) nc nl q := by
  have e6 : b 6 = a 6 := h 6 (by decide)
  have e7 : b 7 = a 7 := h 7 (by decide)
  have e10 : b 10 = a 10 := h 10 (by decide)
  have e11 : b 11 = a 11 := h 11 (by decide)
  have e12 : b 12 = a 12 := h 12 (by decide)
  have e13 : b 13 = a 13 := h 13 (by decide)
  have e15 : b 15 = a 15 := h 15 (by decide)
  have e16 : b 16 = a 16 := h 16 (by decide)
  have e17 : b 17 = a 17 := h 17 (by decide)
  have e18 : b 18 = a 18 := h 18 (by decide)
  have e19 : b 19 = a 19 := h 19 (by decide)
  have e20 : b 20 = a 20 := h 20 (by decide)
  have e21 : b 21 = a 21 := h 21 (by decide)
  have e22 : b 22 = a 22 := h 22 (by decide)
  have e23 : b 23 = a 23 := h 23 (by decide)
  have e24 : b 24 = a 24 := h 24 (by decide)
  have e25 : b 25 = a 25 := h 25 (by decide)
  have e26 : b 26 = a 26 := h 26 (by decide)
  have e27 : b 27 = a 27 := h 27 (by decide)
  have ein : rm_in b = rm_in a := by funext m c; exact rm_in_o e6 m c
  have eel : rm_el b = rm_el a := by funext c; unfold rm_el; rw [ein]
  have ees : rm_es b = rm_es a := by funext c; unfold rm_es; rw [ein, eel]
  have eci : rm_ci b = rm_ci a := by funext x; unfold rm_ci; rw [e11]
  have ewr : rm_wr b = rm_wr a := by funext x; unfold rm_wr; rw [e12]
  have erw : rm_row b = rm_row a := by funext x d; unfold rm_row; rw [e18]
  have es : iv_s b = iv_s a := by funext x; unfold iv_s; rw [e13]
  have ew : iv_w b = iv_w a := by funext x y; unfold iv_w; rw [e22]
  have ec : iv_c b = iv_c a := by funext x y z; unfold iv_c; rw [e19]
  have eg : iv_g b = iv_g a := by funext x y z; unfold iv_g; rw [e21]
  have eib : rm_ib b = rm_ib a := by funext x y; unfold rm_ib; rw [e26]
  have eNA : rm_NA b = rm_NA a := by unfold rm_NA; rw [h3 5 (by decide) (by decide)]
  have eNT : rm_NT b = rm_NT a := by unfold rm_NT; rw [h3 26 (by decide) (by decide)]
  have end_ : iv_nd b = iv_nd a := by funext n c; unfold iv_nd; rw [e10, e11, e15]
  have esg : cr_sg b = cr_sg a := by funext n r c; unfold cr_sg; rw [e10, e11, e20]
  have est : cr_st b = cr_st a := by funext m l; unfold cr_st; rw [ein, eci, e20]
  have esl : rm_sl b = rm_sl a := by funext n m s; unfold rm_sl; rw [e27]
  exact ⟨⟨h0, by omega⟩, by rw [h3 1 (by decide) (by decide)]; exact xI_n1 H, by rw [h3 4 (by decide) (by decide)]; exact xI_n4 H, by rw [h3 5 (by decide) (by decide), eNA]; exact xI_n5 H, by rw [h3 26 (by decide) (by decide), eNT]; exact xI_nt H, by rw [e6]; exact xI_cy H, fun c hc m hm hi => by rw [ein] at hi; have := xI_ci H c hc m hm hi; omega, by rw [ees]; exact xI_ce H, by rw [e7, end_]; exact xI_cn H, by rw [e10]; exact xI_lk H, by rw [e11, eci]; exact xI_lc H, fun l hl => by rw [e12, ewr]; exact ⟨(xI_lw H l hl).1, by have := (xI_lw H l hl).2; omega⟩, by rw [ein, eci, ewr]; exact xI_li H, by rw [e13, es, ew, eci, ewr]; exact xI_ls H, by rw [es, eci, ewr]; exact xI_lu H, by rw [es, eci, ewr, ew]; exact xI_lx H, by rw [e22, ew]; exact xI_ww H, by rw [est]; exact xI_st H, by rw [e20, ewr]; exact xI_wl H, by rw [e21, eg, ew]; exact xI_gv H, by rw [e20, es, eg, eci, ewr]; exact xI_gs H, by rw [e19, ec]; exact xI_ck H, by rw [ec, ein]; exact xI_cz H, by rw [ec, erw]; exact xI_cw H, by rw [erw, eci]; exact xI_rc H, by rw [erw]; exact xI_rn H, by rw [erw, ein, ewr, eci, ec, eg]; exact xI_cl H, by rw [ec, es, eci, ewr]; exact xI_co H, by rw [e15, e10, eci, end_]; exact xI_nu H, by rw [eci, e15]; exact xI_nj H, by rw [end_, e10, eci, e15]; exact xI_ns H, by rw [e10, e15, e20, eel, eci]; exact xI_ne H, by rw [e16, e15]; exact xI_no H, by rw [e10, ewr, eel, eci, e20, e15]; exact xI_nk H, by rw [e10, eel, eci, e20, e15, esg]; exact xI_sg H, by rw [esg, end_]; exact xI_sn H, by rw [e10, eNA]; exact xI_kc H, by rw [e10, e15]; exact xI_ko H, by rw [e25, e20]; exact xI_rd H, by rw [e23]; exact xI_la H, by rw [esl]; exact xI_sl H, by rw [e26]; exact xI_bz H, by rw [eib]; exact xI_bt H, by rw [e20]; exact xI_zs H, fun m h1 h2 => by rw [e27, e23, e24]; exact xI_zm H m (by omega) h2, by rw [e17, e19]; exact xI_zl H⟩
/-- one who isn't there yet has nothing -/
theorem iv_out {a : zv_I} {nm nc nl q m l : Nat} (H : iv a nm nc nl q) (h1 : nm ≤ m) (h2 : m < 8) (hl : l < nl) : a 20 (200 * m + l) = nI 0 := by
  rcases xI_st H m l h2 hl with ⟨_, z⟩ | ⟨z, _⟩
  · exact z
  · have := xI_ci H _ (xI_lc H l hl).2 m h2 z
    omega
theorem iv_out_g {a : zv_I} {nm nc nl q m c w : Nat} (H : iv a nm nc nl q) (h1 : nm ≤ m) (h2 : m < 8) (hc : c < 6) (hw : w < 8) : iv_g a m c w = 0 := by
  by_cases z : iv_g a m c w = 0
  · exact z
  · have h3 := (xI_gv H m c w h2 hc hw).2
    obtain ⟨l, g1, g2, g3, g4⟩ := xI_lx H w c 1 hw hc (by omega) (by omega)
    have h4 := (xI_gs H m l h2 g1).mpr (by rw [g2, g3, g4]; omega)
    rw [iv_out H h1 h2 g1] at h4
    exact absurd h4 (by decide)
theorem iv_out_w {a : zv_I} {nm nc nl q w c : Nat} (H : iv a nm nc nl q) (h1 : nm ≤ w) (h2 : w < 8) (hc : c < 6) : iv_w a w c = 0 := by
  by_cases z : iv_w a w c = 0
  · exact z
  · obtain ⟨l, g1, g2, _, _⟩ := xI_lx H w c 1 h2 hc (by omega) (by omega)
    have := (xI_lw H l g1).2
    omega
theorem iQ_mem {a : zv_I} {nm nc nl : Nat} (h : iQ a nm nc nl) (h8 : nm < 8) : iQ (q_memA a nm) (nm + 1) nc nl := by
  unfold q_memA
  rw [if_neg (show ¬ nm = 8 by omega)]
  have hr : ∀ t, t ≠ 3 → zv_u (zv_u a 3 0 (nI (nm + 1))) 3 24 (nI 0) t = a t := fun t ht => by rw [zv_u_row _ _ _ _ ht, zv_u_row _ _ _ _ ht]
  refine ⟨iv_mem h.1 h8 hr (fun j h1 h2 => by rw [zv_u_j _ _ h2, zv_u_j _ _ h1]) (by rw [zv_u_j _ _ (by decide), zv_u_s]), fun r hr' => ?_⟩
  by_cases z : r = nm
  · intro l hl hh
    rw [hr 20 (by decide), iv_out h.1 (by omega) (by omega) hl] at hh
    exact absurd hh (by decide)
  · exact iq_o (xI_n1 h.1).2 (fun t h1 _ _ _ => hr t h1) (h.2 r (by omega))
