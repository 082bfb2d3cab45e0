theorem ck_o {R R' : zv_R} {l : Nat} (h : R' (300 + 3 * l) = R (300 + 3 * l)) : cc_ck R' l = cc_ck R l := by unfold cc_ck; rw [h]
theorem cr_L_o {I I' : zv_I} {J J' : zv_J} {R R' : zv_R} {a a' : zv_I} {nc nc' x : Nat} (L : cr_L I J R a nc x) (hI : I' (300 + 3 * x) = I (300 + 3 * x)) (hK : ∀ t, 1000 + 8 * cc_ck R x ≤ t → t < 1008 + 8 * cc_ck R x → I' t = I t) (hJ : J' (302 + 3 * x) = J (302 + 3 * x)) (hR : R' (300 + 3 * x) = R (300 + 3 * x)) (hRk : R' (1001 + 8 * cc_ck R x) = R (1001 + 8 * cc_ck R x)) (h10 : ∀ t, 10 ≤ t → t ≤ 18 → a' t x = a t x) (h19 : ∀ j, j < 48 → a' 19 (48 * x + j) = a 19 (48 * x + j)) (h20 : ∀ m, m < 8 → a' 20 (200 * m + x) = a 20 (200 * m + x)) (h26 : ∀ y, y < x → a' 26 (200 * x + y) = a 26 (200 * x + y)) (hcof : rm_cof a' nc' x = rm_cof a nc x) : cr_L I' J' R' a' nc' x := by
  have ek : cc_ck R' x = cc_ck R x := ck_o hR
  have er : ∀ e, rm_row a' x e = rm_row a x e := fun e => by unfold rm_row; rw [h10 18 (by omega) (by omega)]
  refine ⟨by rw [hI, h10 10 (by omega) (by omega)]; exact xL_k L, by rw [hI, h10 11 (by omega) (by omega)]; exact xL_c L, by rw [hI, h10 12 (by omega) (by omega)]; exact xL_w L, by rw [hI, h10 13 (by omega) (by omega)]; exact xL_s L, by rw [hI, h10 14 (by omega) (by omega)]; exact xL_n L, by rw [hI, h10 15 (by omega) (by omega)]; exact xL_p L, by rw [hI, h10 16 (by omega) (by omega)]; exact xL_o L, by rw [hI, h10 17 (by omega) (by omega)]; exact xL_v L, by rw [hI]; exact xL_ly L, fun m hm => by rw [hI, h20 m hm]; exact xL_lb L m hm, by rw [hI]; exact xL_gy L, fun m hm => by rw [hI, h20 m hm]; exact xL_gb L m hm, fun e he => by rw [ek, hRk, er]; exact xL_r L e he, fun e m he hm => ?_, ?_, fun y hy => ?_⟩
  · have h1 := xL_cv L e m he hm
    have h2 := h19 (8 * e + m) (by omega)
    rw [← Nat.add_assoc] at h2
    rw [h2, ← h1]
    unfold cc_cv
    rw [ek, hRk, hK (1002 + 8 * cc_ck R x + e) (by omega) (by omega)]
  · rw [ek, hK _ (by omega) (by omega), hcof]
    exact xL_ct L
  · rw [hJ, xL_bf L y hy]
    by_cases q : y < x
    · rw [decide_eq_true q]
      unfold rm_ib
      rw [h26 y q]
    · rw [decide_eq_false q]
      rfl
theorem lc_o {R R' : zv_R} {v : Int32} {nl : Nat} (h : ∀ l, l < nl → cc_ck R' l = cc_ck R l) (hv : v = -1 ∨ ∃ l, l < nl ∧ v = nI l) (hn : nl ≤ 200) : cr_lc R' v = cr_lc R v := by
  unfold cr_lc
  rcases hv with e | ⟨l, hl, e⟩
  · rw [if_pos e, if_pos e]
  · rw [e, rm_nv_n (by omega), h l hl]
theorem tg_o {R R' : zv_R} {a : zv_I} {nl m s : Nat} (h : ∀ l, l < nl → cc_ck R' l = cc_ck R l) (hs : rm_sl a nl m s) (hn : nl ≤ 200) : cr_tg R' (rm_th a m s) = cr_tg R (rm_th a m s) := by
  rcases cr_slc hn hs with e | ⟨l, hl, e⟩ | ⟨l, hl, e⟩
  · rw [e]; rfl
  · rw [e]; rfl
  · rw [e]
    show some (1000 + 8 * cc_ck R' l) = some (1000 + 8 * cc_ck R l)
    rw [h l hl]
theorem cr_M_o {I I' : zv_I} {J J' : zv_J} {R R' : zv_R} {a a' : zv_I} {nl nl' m : Nat} (M : cr_M I J R a nl m) (hI : ∀ t, 100 + 20 * m ≤ t → t < 116 + 20 * m → I' t = I t) (hJ : J' (115 + 20 * m) = J (115 + 20 * m)) (h110 : R' (110 + 20 * m) = R (110 + 20 * m)) (h113 : R' (113 + 20 * m) = R (113 + 20 * m)) (hlc : ∀ c, c < 6 → cr_lc R' (a 23 (6 * m + c)) = cr_lc R (a 23 (6 * m + c))) (htg : ∀ s, s < 40 → cr_tg R' (rm_th a m s) = cr_tg R (rm_th a m s))
    (h21 : ∀ j, j < 48 → a' 21 (48 * m + j) = a 21 (48 * m + j)) (h22 : ∀ c, c < 6 → a' 22 (6 * m + c) = a 22 (6 * m + c)) (h24 : ∀ i, i < 200 → a' 24 (200 * m + i) = a 24 (200 * m + i)) (h25 : a' 25 m = a 25 m) (h23 : ∀ c, c < 6 → a' 23 (6 * m + c) = a 23 (6 * m + c)) (h27 : ∀ s, s < 40 → a' 27 (40 * m + s) = a 27 (40 * m + s)) (hsg : ∀ c, c < 6 → cr_sg a' nl' m c = cr_sg a nl m c) (hH : ∀ n h, cr_H R a nl m n h → cr_H R' a' nl' m n h) (hbq : ∀ x, x < 256 → rm_bq a' m nl' x = rm_bq a m nl x) : cr_M I' J' R' a' nl' m := by
  refine ⟨fun c w hc hw => ?_, fun c hc => ?_, fun c hc => ?_, fun i hi => ?_, ?_, ?_, fun c hc => ?_, fun s hs => ?_, fun x hx => ?_⟩
  · have h := h21 (8 * c + w) (by omega)
    rw [← Nat.add_assoc] at h
    rw [hI _ (by omega) (by omega), h]
    exact xM_g M c w hc hw
  · rw [hI _ (by omega) (by omega), h22 c hc]; exact xM_w M c hc
  · rw [hI _ (by omega) (by omega), hsg c hc]; exact xM_s M c hc
  · rw [hI _ (by omega) (by omega), h24 i hi]; exact xM_r M i hi
  · rw [hI _ (by omega) (by omega), h25]; exact xM_n M
  · obtain ⟨n, h, g1, g2⟩ := xM_h M
    exact ⟨n, h, by rw [hI _ (by omega) (by omega)]; exact g1, hH n h g2⟩
  · rw [h110, h23 c hc, hlc c hc]; exact xM_l M c hc
  · have e : rm_th a' m s = rm_th a m s := by unfold rm_th; rw [h27 s hs]
    rw [h113, e, htg s hs]
    exact xM_t M s hs
  · rw [hJ, hbq x hx]; exact xM_k M x hx
theorem cc_B_o {sh : zv_S} {I I' : zv_I} {R R' : zv_R} {nm nc nl : Nat} (B : cc_B sh I R nm nc nl) (hR : ∀ t, ¬ cc_dyn t → R' t = R t) (h40 : ∀ j, j = 5 ∨ j = 6 ∨ j = 7 → I' 40 j = I 40 j) (hL : ∀ l j, l < nl → j = 0 ∨ j = 2 ∨ j = 3 → I' (300 + 3 * l) j = I (300 + 3 * l) j) : cc_B sh I' R' nm nc nl := by
  obtain ⟨W, n5, b5, n6, b6, n7, b7, LF⟩ := B
  have d : ∀ t, (t < 110 ∨ 273 < t) → R' t = R t := fun t ht => hR t (fun ⟨m, q⟩ => by omega)
  refine ⟨cc_W_o W hR, by rw [h40 5 (by omega)]; exact n5, b5, by rw [h40 6 (by omega)]; exact n6, b6, by rw [h40 7 (by omega)]; exact n7, b7, fun l hl => ?_⟩
  obtain ⟨f1, f2, f3, f4, f5, f6, f7⟩ := LF l hl
  have e1 : cc_ci I' l = cc_ci I l := by unfold cc_ci; rw [hL l 2 hl (by omega)]
  have e2 : cc_wi I' l = cc_wi I l := by unfold cc_wi; rw [hL l 3 hl (by omega)]
  have e3 : cc_ck R' l = cc_ck R l := ck_o (d _ (by omega))
  rw [e1, e2, e3, hL l 0 hl (by omega), hL l 2 hl (by omega), hL l 3 hl (by omega), d (300 + 3 * l) (by omega)]
  exact ⟨f1, f2, f3, f4, f5, f6, cc_WK_o f7 (d _ (by omega)) (d _ (by omega))⟩
def dS (I I' : zv_I) (r l c w rc n nl : Nat) (kk y : Int32) (g : Bool) : Prop :=
  (∀ t, t ≠ 100 + 20 * r → t ≠ 102 + 20 * r + c → t ≠ 109 + 20 * r → t ≠ 111 + 20 * r → t ≠ 300 + 3 * l → t ≠ 50 + c → I' t = I t) ∧
  (I' (100 + 20 * r) 9 = nI (n - 1)) ∧
  (I' (100 + 20 * r) 8 = nI (rc + 1)) ∧
  (∀ w', I' (102 + 20 * r + c) w' = if w' = w then I (102 + 20 * r + c) w + nI 1 else I (102 + 20 * r + c) w') ∧
  (∀ c', I' (109 + 20 * r) c' = if kk = nI 2 ∧ c' = c then I (109 + 20 * r) c + nI 1 else I (109 + 20 * r) c') ∧
  (∀ i, I' (111 + 20 * r) i = if i = rc then nI l else I (111 + 20 * r) i) ∧
  (∀ j, j ≠ 8 → j ≠ 9 → j ≠ 12 → I' (300 + 3 * l) j = I (300 + 3 * l) j) ∧
  (I' (300 + 3 * l) 12 = I (300 + 3 * l) 12 ||| (nI 1 <<< (nI r &&& 31))) ∧
  (I' (300 + 3 * l) 8 = if g = true then y else I (300 + 3 * l) 8) ∧
  (I' (300 + 3 * l) 9 = if g = true then nI nl else I (300 + 3 * l) 9) ∧
  (∀ j, I' (50 + c) j = if g = true ∧ j = 2 then y + nI 1 else I (50 + c) j)
theorem xD_o {I I' : zv_I} {r l c w rc n nl : Nat} {kk y : Int32} {g : Bool} (h : dS I I' r l c w rc n nl kk y g) : ∀ t, t ≠ 100 + 20 * r → t ≠ 102 + 20 * r + c → t ≠ 109 + 20 * r → t ≠ 111 + 20 * r → t ≠ 300 + 3 * l → t ≠ 50 + c → I' t = I t := h.1
theorem xD_h {I I' : zv_I} {r l c w rc n nl : Nat} {kk y : Int32} {g : Bool} (h : dS I I' r l c w rc n nl kk y g) : I' (100 + 20 * r) 9 = nI (n - 1) := h.2.1
theorem xD_n8 {I I' : zv_I} {r l c w rc n nl : Nat} {kk y : Int32} {g : Bool} (h : dS I I' r l c w rc n nl kk y g) : I' (100 + 20 * r) 8 = nI (rc + 1) := h.2.2.1
theorem xD_g {I I' : zv_I} {r l c w rc n nl : Nat} {kk y : Int32} {g : Bool} (h : dS I I' r l c w rc n nl kk y g) : ∀ w', I' (102 + 20 * r + c) w' = if w' = w then I (102 + 20 * r + c) w + nI 1 else I (102 + 20 * r + c) w' := h.2.2.2.1
theorem xD_s {I I' : zv_I} {r l c w rc n nl : Nat} {kk y : Int32} {g : Bool} (h : dS I I' r l c w rc n nl kk y g) : ∀ c', I' (109 + 20 * r) c' = if kk = nI 2 ∧ c' = c then I (109 + 20 * r) c + nI 1 else I (109 + 20 * r) c' := h.2.2.2.2.1
theorem xD_rd {I I' : zv_I} {r l c w rc n nl : Nat} {kk y : Int32} {g : Bool} (h : dS I I' r l c w rc n nl kk y g) : ∀ i, I' (111 + 20 * r) i = if i = rc then nI l else I (111 + 20 * r) i := h.2.2.2.2.2.1
theorem xD_l {I I' : zv_I} {r l c w rc n nl : Nat} {kk y : Int32} {g : Bool} (h : dS I I' r l c w rc n nl kk y g) : ∀ j, j ≠ 8 → j ≠ 9 → j ≠ 12 → I' (300 + 3 * l) j = I (300 + 3 * l) j := h.2.2.2.2.2.2.1
theorem xD_l12 {I I' : zv_I} {r l c w rc n nl : Nat} {kk y : Int32} {g : Bool} (h : dS I I' r l c w rc n nl kk y g) : I' (300 + 3 * l) 12 = I (300 + 3 * l) 12 ||| (nI 1 <<< (nI r &&& 31)) := h.2.2.2.2.2.2.2.1
theorem xD_l8 {I I' : zv_I} {r l c w rc n nl : Nat} {kk y : Int32} {g : Bool} (h : dS I I' r l c w rc n nl kk y g) : I' (300 + 3 * l) 8 = if g = true then y else I (300 + 3 * l) 8 := h.2.2.2.2.2.2.2.2.1
theorem xD_l9 {I I' : zv_I} {r l c w rc n nl : Nat} {kk y : Int32} {g : Bool} (h : dS I I' r l c w rc n nl kk y g) : I' (300 + 3 * l) 9 = if g = true then nI nl else I (300 + 3 * l) 9 := h.2.2.2.2.2.2.2.2.2.1
theorem xD_c {I I' : zv_I} {r l c w rc n nl : Nat} {kk y : Int32} {g : Bool} (h : dS I I' r l c w rc n nl kk y g) : ∀ j, I' (50 + c) j = if g = true ∧ j = 2 then y + nI 1 else I (50 + c) j := h.2.2.2.2.2.2.2.2.2.2
def dI (I : zv_I) (r l c w rc n : Nat) (kk : Int32) : zv_I := zv_u (cg_I I r l n c w rc kk) (300 + 3 * l) 12 (I (300 + 3 * l) 12 ||| (nI 1 <<< (nI r &&& 31)))
def dI2 (I : zv_I) (r l c w rc n nl : Nat) (kk y : Int32) : zv_I := zv_u (zv_u (zv_u (dI I r l c w rc n kk) (300 + 3 * l) 8 y) (50 + c) 2 (y + nI 1)) (300 + 3 * l) 9 (nI nl)
theorem cg_o {I : zv_I} {m l n c w rc t : Nat} {kk : Int32} (h1 : t ≠ 100 + 20 * m) (h2 : t ≠ 102 + 20 * m + c) (h3 : t ≠ 109 + 20 * m) (h4 : t ≠ 111 + 20 * m) : cg_I I m l n c w rc kk t = I t := by
  unfold cg_I
  rw [zv_u_row _ _ _ _ h1, zv_u_row _ _ _ _ h4]
  split
  · rw [zv_u_row _ _ _ _ h3, zv_u_row _ _ _ _ h2, zv_u_row _ _ _ _ h1]
  · rw [zv_u_row _ _ _ _ h2, zv_u_row _ _ _ _ h1]
theorem dS_1 {I : zv_I} {r l c w rc n nl : Nat} {kk y : Int32} (hr : r < 8) (hc : c < 6) : dS I (dI I r l c w rc n kk) r l c w rc n nl kk y false := by
  have e : ∀ t, t ≠ 300 + 3 * l → dI I r l c w rc n kk t = cg_I I r l n c w rc kk t := fun t ht => zv_u_row _ _ _ _ ht
  refine ⟨fun t h1 h2 h3 h4 h5 h6 => by rw [e t h5, cg_o h1 h2 h3 h4], ?_, ?_, fun w' => ?_, fun c' => ?_, fun i => ?_, fun j h1 h2 h3 => ?_, zv_u_s _ _ _ _, ?_, ?_, fun j => ?_⟩
  · rw [e _ (by omega)]
    unfold cg_I
    rw [zv_u_j _ _ (by decide), zv_u_row _ _ _ _ (by omega)]
    split
    · rw [zv_u_row _ _ _ _ (by omega), zv_u_row _ _ _ _ (by omega), zv_u_s]
    · rw [zv_u_row _ _ _ _ (by omega), zv_u_s]
  · rw [e _ (by omega)]
    exact zv_u_s _ _ _ _
  · rw [e _ (by omega)]
    unfold cg_I
    rw [zv_u_row _ _ _ _ (by omega), zv_u_row _ _ _ _ (by omega)]
    by_cases q : w' = w
    · rw [if_pos q, q]
      split
      · rw [zv_u_row _ _ _ _ (by omega), zv_u_s]
      · rw [zv_u_s]
    · rw [if_neg q]
      split
      · rw [zv_u_row _ _ _ _ (by omega), zv_u_j _ _ q, zv_u_row _ _ _ _ (by omega)]
      · rw [zv_u_j _ _ q, zv_u_row _ _ _ _ (by omega)]
  · rw [e _ (by omega)]
    unfold cg_I
    rw [zv_u_row _ _ _ _ (by omega), zv_u_row _ _ _ _ (by omega)]
    by_cases z : kk = nI 2
    · rw [if_pos z]
      by_cases q : c' = c
      · rw [if_pos ⟨z, q⟩, q, zv_u_s]
      · rw [if_neg (fun v => q v.2), zv_u_j _ _ q, zv_u_row _ _ _ _ (by omega), zv_u_row _ _ _ _ (by omega)]
    · rw [if_neg z, if_neg (fun v => z v.1), zv_u_row _ _ _ _ (by omega), zv_u_row _ _ _ _ (by omega)]
  · rw [e _ (by omega)]
    unfold cg_I
    rw [zv_u_row _ _ _ _ (by omega)]
    by_cases q : i = rc
    · rw [if_pos q, q, zv_u_s]
    · rw [if_neg q, zv_u_j _ _ q]
      split
      · rw [zv_u_row _ _ _ _ (by omega), zv_u_row _ _ _ _ (by omega), zv_u_row _ _ _ _ (by omega)]
      · rw [zv_u_row _ _ _ _ (by omega), zv_u_row _ _ _ _ (by omega)]
  · exact (zv_u_j _ _ h3).trans (congrFun (cg_o (by omega) (by omega) (by omega) (by omega)) j)
  · exact (zv_u_j _ _ (by decide)).trans (congrFun (cg_o (by omega) (by omega) (by omega) (by omega)) 8)
  · exact (zv_u_j _ _ (by decide)).trans (congrFun (cg_o (by omega) (by omega) (by omega) (by omega)) 9)
  · rw [e _ (by omega), cg_o (by omega) (by omega) (by omega) (by omega), if_neg (fun v => absurd v.1 (by decide))]
theorem dS_2 {I : zv_I} {r l c w rc n nl : Nat} {kk y : Int32} (hr : r < 8) (hc : c < 6) : dS I (dI2 I r l c w rc n nl kk y) r l c w rc n nl kk y true := by
  have S := dS_1 (I := I) (r := r) (l := l) (c := c) (w := w) (rc := rc) (n := n) (nl := nl) (kk := kk) (y := y) hr hc
  have e : ∀ t, t ≠ 300 + 3 * l → t ≠ 50 + c → dI2 I r l c w rc n nl kk y t = dI I r l c w rc n kk t := fun t h1 h2 => by
    unfold dI2
    rw [zv_u_row _ _ _ _ h1, zv_u_row _ _ _ _ h2, zv_u_row _ _ _ _ h1]
  refine ⟨fun t h1 h2 h3 h4 h5 h6 => by rw [e t h5 h6]; exact xD_o S t h1 h2 h3 h4 h5 h6, by rw [e _ (by omega) (by omega)]; exact xD_h S, by rw [e _ (by omega) (by omega)]; exact xD_n8 S, by rw [e _ (by omega) (by omega)]; exact xD_g S, by rw [e _ (by omega) (by omega)]; exact xD_s S, by rw [e _ (by omega) (by omega)]; exact xD_rd S, fun j h1 h2 h3 => ?_, ?_, ?_, ?_, fun j => ?_⟩
  · unfold dI2
    rw [zv_u_j _ _ h2, zv_u_row _ _ _ _ (by omega), zv_u_j _ _ h1]
    exact xD_l S j h1 h2 h3
  · unfold dI2
    rw [zv_u_j _ _ (by decide), zv_u_row _ _ _ _ (by omega), zv_u_j _ _ (by decide)]
    exact xD_l12 S
  · unfold dI2
    rw [zv_u_j _ _ (by decide), zv_u_row _ _ _ _ (by omega), zv_u_s, if_pos rfl]
  · unfold dI2
    rw [zv_u_s, if_pos rfl]
  · unfold dI2
    rw [zv_u_row _ _ _ _ (by omega)]
    by_cases q : j = 2
    · rw [if_pos ⟨rfl, q⟩, q, zv_u_s]
    · rw [if_neg (fun v => q v.2), zv_u_j _ _ q, zv_u_row _ _ _ _ (by omega)]
      exact (xD_c S j).trans (if_neg (fun v => absurd v.1 (by decide)))
