theorem md_10 {a : zv_I} {nc nl w c : Nat} {kk x : Int32} : rm_mad a nc nl kk w c x 10 nl = kk := by
  unfold rm_mad rm_m1 rm_m0
  rw [rm_bs_o (by decide), rm_mc_o (by decide) (by decide), zv_u_row _ _ _ _ (by decide), zv_u_row _ _ _ _ (by decide), zv_u_row _ _ _ _ (by decide), zv_u_row _ _ _ _ (by decide), zv_u_row _ _ _ _ (by decide), zv_u_row _ _ _ _ (by decide), zv_u_row _ _ _ _ (by decide), zv_u_row _ _ _ _ (by decide), zv_u_s]
theorem md_14 {a : zv_I} {nc nl w c : Nat} {kk x : Int32} : rm_mad a nc nl kk w c x 14 nl = x := by
  unfold rm_mad rm_m1 rm_m0
  rw [rm_bs_o (by decide), rm_mc_o (by decide) (by decide), zv_u_row _ _ _ _ (by decide), zv_u_row _ _ _ _ (by decide), zv_u_row _ _ _ _ (by decide), zv_u_row _ _ _ _ (by decide), zv_u_row _ _ _ _ (by decide), zv_u_s]
theorem md_15 {a : zv_I} {nc nl w c : Nat} {kk x : Int32} : rm_mad a nc nl kk w c x 15 nl = -1 := by
  unfold rm_mad rm_m1 rm_m0
  rw [rm_bs_o (by decide), rm_mc_o (by decide) (by decide), zv_u_row _ _ _ _ (by decide), zv_u_row _ _ _ _ (by decide), zv_u_row _ _ _ _ (by decide), zv_u_row _ _ _ _ (by decide), zv_u_s]
theorem md_16 {a : zv_I} {nc nl w c : Nat} {kk x : Int32} : rm_mad a nc nl kk w c x 16 nl = -1 := by
  unfold rm_mad rm_m1 rm_m0
  rw [rm_bs_o (by decide), rm_mc_o (by decide) (by decide), zv_u_row _ _ _ _ (by decide), zv_u_row _ _ _ _ (by decide), zv_u_row _ _ _ _ (by decide), zv_u_s]
theorem md_13 {a : zv_I} {nc nl w c : Nat} {kk x : Int32} : rm_mad a nc nl kk w c x 13 nl = a 22 (6 * w + c) + nI 1 := by
  unfold rm_mad rm_m1 rm_m0
  rw [rm_bs_o (by decide), rm_mc_o (by decide) (by decide), zv_u_row _ _ _ _ (by decide), zv_u_s]
theorem md_10_o {a : zv_I} {nc nl w c : Nat} {kk x : Int32} {j : Nat} (h : j ≠ nl) : rm_mad a nc nl kk w c x 10 j = a 10 j := by
  unfold rm_mad rm_m1 rm_m0
  rw [rm_bs_o (by decide), rm_mc_o (by decide) (by decide), zv_u_row _ _ _ _ (by decide), zv_u_row _ _ _ _ (by decide), zv_u_row _ _ _ _ (by decide), zv_u_row _ _ _ _ (by decide), zv_u_row _ _ _ _ (by decide), zv_u_row _ _ _ _ (by decide), zv_u_row _ _ _ _ (by decide), zv_u_row _ _ _ _ (by decide), zv_u_j _ _ h, zv_u_row _ _ _ _ (by decide)]
theorem md_11_o {a : zv_I} {nc nl w c : Nat} {kk x : Int32} {j : Nat} (h : j ≠ nl) : rm_mad a nc nl kk w c x 11 j = a 11 j := by
  unfold rm_mad rm_m1 rm_m0
  rw [rm_bs_o (by decide), rm_mc_o (by decide) (by decide), zv_u_row _ _ _ _ (by decide), zv_u_row _ _ _ _ (by decide), zv_u_row _ _ _ _ (by decide), zv_u_row _ _ _ _ (by decide), zv_u_row _ _ _ _ (by decide), zv_u_row _ _ _ _ (by decide), zv_u_row _ _ _ _ (by decide), zv_u_j _ _ h, zv_u_row _ _ _ _ (by decide), zv_u_row _ _ _ _ (by decide)]
theorem md_12_o {a : zv_I} {nc nl w c : Nat} {kk x : Int32} {j : Nat} (h : j ≠ nl) : rm_mad a nc nl kk w c x 12 j = a 12 j := by
  unfold rm_mad rm_m1 rm_m0
  rw [rm_bs_o (by decide), rm_mc_o (by decide) (by decide), zv_u_row _ _ _ _ (by decide), zv_u_row _ _ _ _ (by decide), zv_u_row _ _ _ _ (by decide), zv_u_row _ _ _ _ (by decide), zv_u_row _ _ _ _ (by decide), zv_u_row _ _ _ _ (by decide), zv_u_j _ _ h, zv_u_row _ _ _ _ (by decide), zv_u_row _ _ _ _ (by decide), zv_u_row _ _ _ _ (by decide)]
theorem md_13_o {a : zv_I} {nc nl w c : Nat} {kk x : Int32} {j : Nat} (h : j ≠ nl) : rm_mad a nc nl kk w c x 13 j = a 13 j := by
  unfold rm_mad rm_m1 rm_m0
  rw [rm_bs_o (by decide), rm_mc_o (by decide) (by decide), zv_u_row _ _ _ _ (by decide), zv_u_j _ _ h, zv_u_row _ _ _ _ (by decide), zv_u_row _ _ _ _ (by decide), zv_u_row _ _ _ _ (by decide), zv_u_row _ _ _ _ (by decide), zv_u_row _ _ _ _ (by decide), zv_u_row _ _ _ _ (by decide), zv_u_row _ _ _ _ (by decide), zv_u_row _ _ _ _ (by decide)]
theorem md_14_o {a : zv_I} {nc nl w c : Nat} {kk x : Int32} {j : Nat} (h : j ≠ nl) : rm_mad a nc nl kk w c x 14 j = a 14 j := by
  unfold rm_mad rm_m1 rm_m0
  rw [rm_bs_o (by decide), rm_mc_o (by decide) (by decide), zv_u_row _ _ _ _ (by decide), zv_u_row _ _ _ _ (by decide), zv_u_row _ _ _ _ (by decide), zv_u_row _ _ _ _ (by decide), zv_u_row _ _ _ _ (by decide), zv_u_j _ _ h, zv_u_row _ _ _ _ (by decide), zv_u_row _ _ _ _ (by decide), zv_u_row _ _ _ _ (by decide), zv_u_row _ _ _ _ (by decide)]
theorem md_15_o {a : zv_I} {nc nl w c : Nat} {kk x : Int32} {j : Nat} (h : j ≠ nl) : rm_mad a nc nl kk w c x 15 j = a 15 j := by
  unfold rm_mad rm_m1 rm_m0
  rw [rm_bs_o (by decide), rm_mc_o (by decide) (by decide), zv_u_row _ _ _ _ (by decide), zv_u_row _ _ _ _ (by decide), zv_u_row _ _ _ _ (by decide), zv_u_row _ _ _ _ (by decide), zv_u_j _ _ h, zv_u_row _ _ _ _ (by decide), zv_u_row _ _ _ _ (by decide), zv_u_row _ _ _ _ (by decide), zv_u_row _ _ _ _ (by decide), zv_u_row _ _ _ _ (by decide)]
theorem md_16_o {a : zv_I} {nc nl w c : Nat} {kk x : Int32} {j : Nat} (h : j ≠ nl) : rm_mad a nc nl kk w c x 16 j = a 16 j := by
  unfold rm_mad rm_m1 rm_m0
  rw [rm_bs_o (by decide), rm_mc_o (by decide) (by decide), zv_u_row _ _ _ _ (by decide), zv_u_row _ _ _ _ (by decide), zv_u_row _ _ _ _ (by decide), zv_u_j _ _ h, zv_u_row _ _ _ _ (by decide), zv_u_row _ _ _ _ (by decide), zv_u_row _ _ _ _ (by decide), zv_u_row _ _ _ _ (by decide), zv_u_row _ _ _ _ (by decide), zv_u_row _ _ _ _ (by decide)]
theorem md_3 {a : zv_I} {nc nl w c : Nat} {kk x : Int32} {j : Nat} : rm_mad a nc nl kk w c x 3 j = if j = 4 then nI (nl + 1) else a 3 j := by
  unfold rm_mad rm_m1 rm_m0
  rw [rm_bs_o (by decide), rm_mc_o (by decide) (by decide), zv_u_row _ _ _ _ (by decide), zv_u_row _ _ _ _ (by decide), zv_u_row _ _ _ _ (by decide), zv_u_row _ _ _ _ (by decide), zv_u_row _ _ _ _ (by decide), zv_u_row _ _ _ _ (by decide), zv_u_row _ _ _ _ (by decide), zv_u_row _ _ _ _ (by decide), zv_u_row _ _ _ _ (by decide)]
  by_cases q : j = 4
  · rw [if_pos q, q, zv_u_s]
  · rw [if_neg q, zv_u_j _ _ q]
theorem md_22 {a : zv_I} {nc nl w c : Nat} {kk x : Int32} {j : Nat} : rm_mad a nc nl kk w c x 22 j = if j = 6 * w + c then a 22 (6 * w + c) + nI 1 else a 22 j := by
  unfold rm_mad rm_m1 rm_m0
  rw [rm_bs_o (by decide), rm_mc_o (by decide) (by decide), zv_u_row _ _ _ _ (by decide), zv_u_row _ _ _ _ (by decide)]
  by_cases q : j = 6 * w + c
  · rw [if_pos q, q, zv_u_s]
  · rw [if_neg q, zv_u_j _ _ q, zv_u_row _ _ _ _ (by decide), zv_u_row _ _ _ _ (by decide), zv_u_row _ _ _ _ (by decide), zv_u_row _ _ _ _ (by decide), zv_u_row _ _ _ _ (by decide), zv_u_row _ _ _ _ (by decide), zv_u_row _ _ _ _ (by decide)]
theorem m0_o {a : zv_I} {nl w c : Nat} {kk x : Int32} {t : Nat} (h : t ≠ 3) (h1 : t ≠ 10) (h2 : t ≠ 11) (h3 : t ≠ 12) (h4 : t ≠ 13) (h5 : t ≠ 14) (h6 : t ≠ 15) (h7 : t ≠ 16) (h8 : t ≠ 18) (h10 : t ≠ 22) : rm_m0 a nl kk w c x t = a t := by
  unfold rm_m0
  rw [zv_u_row _ _ _ _ h8, zv_u_row _ _ _ _ h4, zv_u_row _ _ _ _ h10, zv_u_row _ _ _ _ h7, zv_u_row _ _ _ _ h6, zv_u_row _ _ _ _ h5, zv_u_row _ _ _ _ h3, zv_u_row _ _ _ _ h2, zv_u_row _ _ _ _ h1, zv_u_row _ _ _ _ h]
theorem mk_c {a b : zv_I} {w : Nat} (h : b 6 = a 6) : ∀ n, rm_mk b w n = rm_mk a w n
  | 0 => rfl
  | n + 1 => by
    show rm_mk b w n ||| (if rm_in b w n = true then _ else _) = rm_mk a w n ||| (if rm_in a w n = true then _ else _)
    rw [mk_c h n, rm_in_o h]
theorem md_18 {a : zv_I} {nc nl w c : Nat} {kk x : Int32} : rm_mad a nc nl kk w c x 18 nl = rm_mk a w nc := by
  unfold rm_mad rm_m1
  rw [rm_bs_o (by decide), rm_mc_r]
  exact mk_c (m0_o (by decide) (by decide) (by decide) (by decide) (by decide) (by decide) (by decide) (by decide) (by decide) (by decide)) nc
theorem md_18_o {a : zv_I} {nc nl w c : Nat} {kk x : Int32} {j : Nat} (h : j ≠ nl) : rm_mad a nc nl kk w c x 18 j = a 18 j := by
  unfold rm_mad rm_m1
  rw [rm_bs_o (by decide)]
  unfold rm_mc
  rw [if_neg (fun q => h q.2), if_neg (fun q => absurd q.1 (by decide))]
  unfold rm_m0
  rw [zv_u_j _ _ h, zv_u_row _ _ _ _ (by decide), zv_u_row _ _ _ _ (by decide), zv_u_row _ _ _ _ (by decide), zv_u_row _ _ _ _ (by decide), zv_u_row _ _ _ _ (by decide), zv_u_row _ _ _ _ (by decide), zv_u_row _ _ _ _ (by decide), zv_u_row _ _ _ _ (by decide), zv_u_row _ _ _ _ (by decide)]
theorem md_19 {a : zv_I} {nc nl w c : Nat} {kk x : Int32} {j : Nat} : rm_mad a nc nl kk w c x 19 j = if 48 * nl ≤ j ∧ j < 48 * nl + 8 * nc then rm_ck a w (j - 48 * nl) else a 19 j := by
  unfold rm_mad rm_m1
  rw [rm_bs_o (by decide)]
  unfold rm_mc
  rw [if_neg (fun q => absurd q.1 (by decide))]
  by_cases q : 48 * nl ≤ j ∧ j < 48 * nl + 8 * nc
  · rw [if_pos q, if_pos ⟨rfl, q⟩]
    unfold rm_ck
    rw [rm_in_o (m0_o (by decide) (by decide) (by decide) (by decide) (by decide) (by decide) (by decide) (by decide) (by decide) (by decide)), rm_in_o (m0_o (by decide) (by decide) (by decide) (by decide) (by decide) (by decide) (by decide) (by decide) (by decide) (by decide)), m0_o (t := 21) (by decide) (by decide) (by decide) (by decide) (by decide) (by decide) (by decide) (by decide) (by decide) (by decide)]
  · rw [if_neg q, if_neg (fun z => q z.2), m0_o (by decide) (by decide) (by decide) (by decide) (by decide) (by decide) (by decide) (by decide) (by decide) (by decide)]
theorem md_26 {a : zv_I} {nc nl w c : Nat} {kk x : Int32} {y z : Nat} (hn : nl < 200) (hy : y < 200) (hz : z < 200) : rm_mad a nc nl kk w c x 26 (200 * y + z) = if y = nl ∧ z < nl then rm_b (rm_bq a w nl z) else a 26 (200 * y + z) := by
  have e26 : rm_m1 a nc nl kk w c x 26 = a 26 := by
    unfold rm_m1
    rw [rm_mc_o (by decide) (by decide), rm_m0_26]
  have e20 : rm_m1 a nc nl kk w c x 20 = a 20 := by
    unfold rm_m1
    rw [rm_mc_o (by decide) (by decide), m0_o (by decide) (by decide) (by decide) (by decide) (by decide) (by decide) (by decide) (by decide) (by decide) (by decide)]
  have e12 : ∀ j, j ≠ nl → rm_m1 a nc nl kk w c x 12 j = a 12 j := fun j hj => by
    unfold rm_m1
    rw [rm_mc_o (by decide) (by decide)]
    unfold rm_m0
    rw [zv_u_row _ _ _ _ (by decide), zv_u_row _ _ _ _ (by decide), zv_u_row _ _ _ _ (by decide), zv_u_row _ _ _ _ (by decide), zv_u_row _ _ _ _ (by decide), zv_u_row _ _ _ _ (by decide), zv_u_j _ _ hj, zv_u_row _ _ _ _ (by decide), zv_u_row _ _ _ _ (by decide), zv_u_row _ _ _ _ (by decide)]
  unfold rm_mad
  by_cases q : y = nl ∧ z < nl
  · rw [if_pos q, q.1, rm_bs_r q.2]
    congr 1
    refine bq_c nl fun v hv => ⟨?_, ?_⟩
    · unfold rm_kn
      rw [e20, e12 v (by omega)]
    · unfold rm_ib
      rw [e26]
  · rw [if_neg q]
    unfold rm_bs
    rw [if_neg (fun v => q (by omega)), e26]
/-! the lines and the hold -/
theorem go_o {b : zv_I} {nm l t : Nat} (h1 : t ≠ 20) (h2 : t ≠ 27) : rm_goes b nm l t = b t := by
  unfold rm_goes rm_hld
  have e : ∀ o, rm_put (zv_u (rm_gs b l (rm_ci b l) (rm_wr b l) nm) 20 (200 * rm_wr b l + l) (nI 2)) (rm_wr b l) l o t = b t := by
    intro o
    cases o with
    | none =>
      show zv_u _ _ _ _ t = _
      rw [zv_u_row _ _ _ _ h1, rm_gs_o h1]
    | some k =>
      show zv_u _ _ _ _ t = _
      rw [zv_u_row _ _ _ _ h2, zv_u_row _ _ _ _ h1, rm_gs_o h1]
  exact e _
theorem put_20 {b : zv_I} {m l : Nat} {o : Option Nat} : rm_put b m l o 20 = b 20 := by
  cases o with
  | none => rfl
  | some k => exact zv_u_row _ _ _ _ (by decide)
theorem hl_20 {b : zv_I} {m l m' y : Nat} (hl : l < 200) (hy : y < 200) : rm_hld b m l 20 (200 * m' + y) = if m' = m ∧ y = l then nI 2 else b 20 (200 * m' + y) := by
  unfold rm_hld
  rw [put_20]
  by_cases q : m' = m ∧ y = l
  · rw [if_pos q, q.1, q.2, zv_u_s]
  · rw [if_neg q, zv_u_j _ _ (by omega)]
theorem hl_27 {b : zv_I} {m l m' s : Nat} (hs : s < 40) : rm_hld b m l 27 (40 * m' + s) = if m' = m ∧ rm_frs b m = some s then nI (l + 1) else b 27 (40 * m' + s) := by
  unfold rm_hld
  cases hf : rm_frs b m with
  | none =>
    rw [if_neg (fun q => by cases q.2)]
    show zv_u _ _ _ _ 27 _ = _
    rw [zv_u_row _ _ _ _ (by decide)]
  | some k =>
    have hk := (rm_fst_some hf).2.1
    show zv_u (zv_u b 20 (200 * m + l) (nI 2)) 27 (40 * m + k) (nI (l + 1)) 27 (40 * m' + s) = _
    by_cases q : m' = m ∧ some k = some s
    · rw [if_pos q, q.1, Option.some.inj q.2, zv_u_s]
    · rw [if_neg q, zv_u_j _ _ (fun z => q ⟨by omega, by congr 1; omega⟩), zv_u_row _ _ _ _ (by decide)]
theorem hl_o {b : zv_I} {m l t : Nat} (h1 : t ≠ 20) (h2 : t ≠ 27) : rm_hld b m l t = b t := by
  unfold rm_hld
  cases rm_frs b m with
  | none =>
    show zv_u _ _ _ _ t = _
    rw [zv_u_row _ _ _ _ h1]
  | some k =>
    show zv_u _ _ _ _ t = _
    rw [zv_u_row _ _ _ _ h2, zv_u_row _ _ _ _ h1]
theorem go_20 {b : zv_I} {nm l m y : Nat} (hl : l < 200) (hy : y < 200) : rm_goes b nm l 20 (200 * m + y) = if m = rm_wr b l ∧ y = l then nI 2 else if y = l ∧ m < nm ∧ rm_in b m (rm_ci b l) = true then nI 1 else b 20 (200 * m + y) := by
  unfold rm_goes
  rw [hl_20 hl hy]
  by_cases q : m = rm_wr b l ∧ y = l
  · rw [if_pos q, if_pos q]
  · rw [if_neg q, if_neg q]
    unfold rm_gs
    by_cases z : y = l ∧ m < nm ∧ rm_in b m (rm_ci b l) = true
    · have e1 : (200 * m + y) / 200 = m := by omega
      have e2 : (200 * m + y) % 200 = y := by omega
      rw [if_pos z, e1, e2, if_pos ⟨rfl, z.1, z.2.1, z.2.2, fun v => q ⟨v, z.1⟩⟩]
    · have e1 : (200 * m + y) / 200 = m := by omega
      have e2 : (200 * m + y) % 200 = y := by omega
      rw [if_neg z, e1, e2, if_neg (fun v => z ⟨v.2.1, v.2.2.1, v.2.2.2.1⟩)]
theorem go_27 {b : zv_I} {nm l m s : Nat} (hs : s < 40) : rm_goes b nm l 27 (40 * m + s) = if m = rm_wr b l ∧ rm_frs b (rm_wr b l) = some s then nI (l + 1) else b 27 (40 * m + s) := by
  unfold rm_goes
  have e : rm_frs (rm_gs b l (rm_ci b l) (rm_wr b l) nm) (rm_wr b l) = rm_frs b (rm_wr b l) := by
    unfold rm_frs
    rw [rm_gs_o (by decide)]
  rw [hl_27 hs, e, rm_gs_o (by decide)]
/-- a letter that goes out, over any rows that are the old ones with the letter's own in place -/
theorem go_nS {a b : zv_I} {nm nc nl w c q : Nat} {kk x : Int32} (H : iv a nm nc nl q) (hnl : nl < 200) (hw : w < nm) (hc : c < nc)
    (h3 : ∀ j, j ≠ 4 → j ≠ 5 → b 3 j = a 3 j) (h34 : b 3 4 = nI (nl + 1)) (ho : ∀ t, t = 6 ∨ t = 7 ∨ t = 21 ∨ t = 24 ∨ t = 25 ∨ t = 29 ∨ t = 20 ∨ t = 27 → b t = a t) (hlt : ∀ t j, 10 ≤ t → t ≤ 18 → j ≠ nl → b t j = a t j)
    (h10 : b 10 nl = kk) (h11 : b 11 nl = nI c) (h12 : b 12 nl = nI w) (h13 : b 13 nl = nI (iv_w a w c + 1)) (h14 : b 14 nl = x) (h15 : b 15 nl = -1) (h16 : b 16 nl = -1)
    (h19 : ∀ l j, l ≠ nl → l < 200 → j < 48 → b 19 (48 * l + j) = a 19 (48 * l + j)) (h22 : ∀ w' c', w' < 8 → c' < 6 → b 22 (6 * w' + c') = if w' = w ∧ c' = c then nI (iv_w a w c + 1) else a 22 (6 * w' + c'))
    (h23 : ∀ w' c', w' < 8 → c' < 6 → b 23 (6 * w' + c') = a 23 (6 * w' + c') ∨ (w' = w ∧ b 23 (6 * w' + c') = nI nl)) (h26 : ∀ y z, y < 200 → z < 200 → b 26 (200 * y + z) = if y = nl ∧ z < nl then rm_b (rm_bq a w nl z) else a 26 (200 * y + z)) : nS a (rm_goes b nm nl) nl w c kk x := by
  have n0 := (xI_n0 H).2
  have n1 := (xI_n1 H).2
  have ew : rm_wr b nl = w := by unfold rm_wr; rw [h12]; exact rm_nv_n (by omega)
  have ec : rm_ci b nl = c := by unfold rm_ci; rw [h11]; exact rm_nv_n (by omega)
  have ein : rm_in b = rm_in a := by funext m c; exact rm_in_o (ho 6 (by omega)) m c
  refine ⟨fun j g1 g2 => by rw [go_o (by decide) (by decide)]; exact h3 j g1 g2, by rw [go_o (by decide) (by decide)]; exact h34, fun t ht => by rw [go_o (by omega) (by omega)]; exact ho t (by omega), fun t j g1 g2 g3 => by rw [go_o (by omega) (by omega)]; exact hlt t j g1 g2 g3, by rw [go_o (by decide) (by decide)]; exact h10, by rw [go_o (by decide) (by decide)]; exact h11, by rw [go_o (by decide) (by decide)]; exact h12, by rw [go_o (by decide) (by decide)]; exact h13, by rw [go_o (by decide) (by decide)]; exact h14, by rw [go_o (by decide) (by decide)]; exact h15, by rw [go_o (by decide) (by decide)]; exact h16, by rw [go_o (by decide) (by decide)]; exact h19, fun m y g1 g2 => ?_, by rw [go_o (by decide) (by decide)]; exact h22, by rw [go_o (by decide) (by decide)]; exact h23, by rw [go_o (by decide) (by decide)]; exact h26, fun m s g1 g2 => ?_⟩
  · rw [go_20 hnl g2, ew, ec, ein, ho 20 (by omega)]
    by_cases z : y = nl
    · rw [if_pos z]
      by_cases v : m = w
      · rw [if_pos ⟨v, z⟩, if_pos v]
      · rw [if_neg (fun u => v u.1), if_neg v]
        by_cases u : rm_in a m c = true
        · rw [if_pos ⟨z, xI_ci H c hc m g1 u, u⟩, if_pos u]
        · rw [if_neg (fun t => u t.2.2), if_neg u, z]
          exact xI_zs H m nl g1 (Nat.le_refl _) hnl
    · rw [if_neg (fun u => z u.2), if_neg (fun u => z u.1), if_neg z]
  · have ef : rm_frs b w = rm_frs a w := by unfold rm_frs; rw [ho 27 (by omega)]
    rw [go_27 g2, ew, ho 27 (by omega), ef]
theorem c4_nS {a : zv_I} {nm nc nl w c : Nat} {kk x : Int32} (H : iv a nm nc nl 0) (hnl : nl < 200) (hw : w < nm) (hc : c < nc) : nS a (rm_c4 a nm nc nl kk w c x) nl w c kk x := by
  have n0 := (xI_n0 H).2
  have n1 := (xI_n1 H).2
  have g22 := xI_ww H w c (by omega) (by omega)
  unfold rm_c4 rm_c3 rm_cts rm_c2
  have hA : ∀ t, t ≠ 3 → rm_c1 a t = a t := fun t ht => zv_u_row _ _ _ _ ht
  have hM : ∀ t, t ≠ 17 → t ≠ 23 → ∀ v u : Int32, zv_u (zv_u (rm_mad (rm_c1 a) nc nl kk w c x) 17 nl v) 23 (6 * w + c) u t = rm_mad (rm_c1 a) nc nl kk w c x t := fun t h1 h2 v u => by rw [zv_u_row _ _ _ _ h2, zv_u_row _ _ _ _ h1]
  have hmo : ∀ t, t = 6 ∨ t = 7 ∨ t = 21 ∨ t = 24 ∨ t = 25 ∨ t = 29 ∨ t = 20 ∨ t = 27 ∨ t = 17 ∨ t = 23 → rm_mad (rm_c1 a) nc nl kk w c x t = a t := fun t ht => by rw [rm_mad_o (by omega) (by omega) (by omega) (by omega) (by omega) (by omega) (by omega) (by omega) (by omega) (by omega) (by omega) (by omega)]; exact hA t (by omega)
  refine go_nS H hnl hw hc (fun j h1 h2 => ?_) ?_ (fun t ht => ?_) (fun t j h1 h2 h3 => ?_) ?_ ?_ ?_ ?_ ?_ ?_ ?_ (fun l j h1 h2 h3 => ?_) (fun w' c' h1 h2 => ?_) (fun w' c' h1 h2 => ?_) (fun y z h1 h2 => ?_)
  · rw [hM 3 (by decide) (by decide), md_3, if_neg h1]
    exact zv_u_j _ _ h2
  · rw [hM 3 (by decide) (by decide), md_3, if_pos rfl]
  · rw [hM t (by omega) (by omega)]
    exact hmo t (by omega)
  · by_cases e17 : t = 17
    · rw [e17, zv_u_row _ _ _ _ (by decide), zv_u_j _ _ h3, hmo 17 (by omega)]
    · rw [hM t e17 (by omega)]
      rcases (show t = 10 ∨ t = 11 ∨ t = 12 ∨ t = 13 ∨ t = 14 ∨ t = 15 ∨ t = 16 ∨ t = 18 by omega) with e | e | e | e | e | e | e | e
      · rw [e, md_10_o h3, hA 10 (by decide)]
      · rw [e, md_11_o h3, hA 11 (by decide)]
      · rw [e, md_12_o h3, hA 12 (by decide)]
      · rw [e, md_13_o h3, hA 13 (by decide)]
      · rw [e, md_14_o h3, hA 14 (by decide)]
      · rw [e, md_15_o h3, hA 15 (by decide)]
      · rw [e, md_16_o h3, hA 16 (by decide)]
      · rw [e, md_18_o h3, hA 18 (by decide)]
  · rw [hM 10 (by decide) (by decide), md_10]
  · rw [hM 11 (by decide) (by decide), rm_mad_11]
  · rw [hM 12 (by decide) (by decide), rm_mad_12]
  · rw [hM 13 (by decide) (by decide), md_13, hA 22 (by decide), g22.1, nI_add]
  · rw [hM 14 (by decide) (by decide), md_14]
  · rw [hM 15 (by decide) (by decide), md_15]
  · rw [hM 16 (by decide) (by decide), md_16]
  · rw [hM 19 (by decide) (by decide), md_19, if_neg (by omega), hA 19 (by decide)]
  · rw [hM 22 (by decide) (by decide), md_22, hA 22 (by decide)]
    by_cases q : w' = w ∧ c' = c
    · rw [if_pos q, if_pos (by rw [q.1, q.2]), g22.1, nI_add]
    · rw [if_neg q, if_neg (by omega)]
  · by_cases q : w' = w ∧ c' = c
    · exact Or.inr ⟨q.1, by rw [q.1, q.2, zv_u_s]⟩
    · exact Or.inl (by rw [zv_u_j _ _ (by omega), zv_u_row _ _ _ _ (by decide), hmo 23 (by omega)])
  · have eb : rm_bq (rm_c1 a) w nl z = rm_bq a w nl z := bq_c nl fun v hv => ⟨by unfold rm_kn; rw [hA 12 (by decide), hA 20 (by decide)], by unfold rm_ib; rw [hA 26 (by decide)]⟩
    rw [hM 26 (by decide) (by decide), md_26 hnl h1 h2, hA 26 (by decide), eb]
theorem g6_nS {a : zv_I} {nm nc nl r l : Nat} (H : iv (rm_gP a nl r l) nm nc nl 1) (hg : gd a r l = true) (hnl : nl < 200) (hl : l < nl) (hw : r < nm) (hc : rm_ci a l < nc) : nS (rm_gP a nl r l) (rm_g6 a nm nc nl r l (rm_ci a l)) nl r (rm_ci a l) (nI 3) (nI l) := by
  have n0 := (xI_n0 H).2
  have n1 := (xI_n1 H).2
  have g22 := xI_ww H r (rm_ci a l) (by omega) (by omega)
  have eP : ∀ t, t ≠ 16 → rm_gP a nl r l t = rm_g2 a r l (rm_ci a l) t := fun t ht => by
    unfold rm_gP
    rw [if_pos hg, zv_u_row _ _ _ _ ht]
  unfold rm_g6 rm_g5 rm_g4 rm_g3
  have hM : ∀ t, t ≠ 16 → t ≠ 18 → t ≠ 19 → ∀ v u : Int32, rm_cc (zv_u (zv_u (rm_mad (rm_g2 a r l (rm_ci a l)) nc nl (nI 3) r (rm_ci a l) (nI l)) 16 l v) 18 nl u) nl l 48 t = rm_mad (rm_g2 a r l (rm_ci a l)) nc nl (nI 3) r (rm_ci a l) (nI l) t := fun t h1 h2 h3 v u => by rw [rm_cc_o h3, zv_u_row _ _ _ _ h2, zv_u_row _ _ _ _ h1]
  have hmo : ∀ t, t = 6 ∨ t = 7 ∨ t = 21 ∨ t = 24 ∨ t = 25 ∨ t = 29 ∨ t = 20 ∨ t = 27 ∨ t = 17 ∨ t = 23 → rm_mad (rm_g2 a r l (rm_ci a l)) nc nl (nI 3) r (rm_ci a l) (nI l) t = rm_gP a nl r l t := fun t ht => by rw [rm_mad_o (by omega) (by omega) (by omega) (by omega) (by omega) (by omega) (by omega) (by omega) (by omega) (by omega) (by omega) (by omega)]; exact (eP t (by omega)).symm
  refine go_nS H hnl hw hc (fun j h1 h2 => ?_) ?_ (fun t ht => ?_) (fun t j h1 h2 h3 => ?_) ?_ ?_ ?_ ?_ ?_ ?_ ?_ (fun l' j h1 h2 h3 => ?_) (fun w' c' h1 h2 => ?_) (fun w' c' h1 h2 => Or.inl ?_) (fun y z h1 h2 => ?_)
  · rw [hM 3 (by decide) (by decide) (by decide), md_3, if_neg h1, eP 3 (by decide)]
  · rw [hM 3 (by decide) (by decide) (by decide), md_3, if_pos rfl]
  · rw [hM t (by omega) (by omega) (by omega)]
    exact hmo t (by omega)
  · by_cases e16 : t = 16
    · rw [e16, rm_cc_o (by decide), zv_u_row _ _ _ _ (by decide)]
      unfold rm_gP
      rw [if_pos hg]
      by_cases z : j = l
      · rw [z, zv_u_s, zv_u_s]
      · rw [zv_u_j _ _ z, zv_u_j _ _ z, md_16_o h3]
    · by_cases e18 : t = 18
      · rw [e18, rm_cc_o (by decide), zv_u_j _ _ h3, zv_u_row _ _ _ _ (by decide), md_18_o h3, eP 18 (by decide)]
      · rw [hM t e16 e18 (by omega), eP t e16]
        rcases (show t = 10 ∨ t = 11 ∨ t = 12 ∨ t = 13 ∨ t = 14 ∨ t = 15 ∨ t = 17 by omega) with e | e | e | e | e | e | e
        · rw [e, md_10_o h3]
        · rw [e, md_11_o h3]
        · rw [e, md_12_o h3]
        · rw [e, md_13_o h3]
        · rw [e, md_14_o h3]
        · rw [e, md_15_o h3]
        · rw [e, hmo 17 (by omega), eP 17 (by decide)]
  · rw [hM 10 (by decide) (by decide) (by decide), md_10]
  · rw [hM 11 (by decide) (by decide) (by decide), rm_mad_11]
  · rw [hM 12 (by decide) (by decide) (by decide), rm_mad_12]
  · rw [hM 13 (by decide) (by decide) (by decide), md_13, ← eP 22 (by decide), g22.1, nI_add]
  · rw [hM 14 (by decide) (by decide) (by decide), md_14]
  · rw [hM 15 (by decide) (by decide) (by decide), md_15]
  · rw [rm_cc_o (by decide), zv_u_row _ _ _ _ (by decide), zv_u_j _ _ (by omega), md_16]
  · unfold rm_cc
    rw [if_neg (by omega), zv_u_row _ _ _ _ (by decide), zv_u_row _ _ _ _ (by decide), md_19, if_neg (by omega), eP 19 (by decide)]
  · rw [hM 22 (by decide) (by decide) (by decide), md_22, ← eP 22 (by decide)]
    by_cases q : w' = r ∧ c' = rm_ci a l
    · rw [if_pos q, if_pos (by rw [q.1, q.2]), g22.1, nI_add]
    · rw [if_neg q, if_neg (by omega)]
  · rw [hM 23 (by decide) (by decide) (by decide), hmo 23 (by omega)]
  · have eb : rm_bq (rm_g2 a r l (rm_ci a l)) r nl z = rm_bq (rm_gP a nl r l) r nl z := bq_c nl fun v hv => ⟨by unfold rm_kn; rw [eP 12 (by decide), eP 20 (by decide)], by unfold rm_ib; rw [eP 26 (by decide)]⟩
    rw [hM 26 (by decide) (by decide) (by decide), md_26 hnl h1 h2, eP 26 (by decide), eb]
