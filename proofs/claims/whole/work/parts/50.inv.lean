/-! THE INVARIANTS of the model's rows -/
def iv_s (a : zv_I) (l : Nat) : Nat := rm_nv (a 13 l)
def iv_w (a : zv_I) (w c : Nat) : Nat := rm_nv (a 22 (6 * w + c))
def iv_g (a : zv_I) (r c w : Nat) : Nat := rm_nv (a 21 (48 * r + 8 * c + w))
def iv_c (a : zv_I) (l e m : Nat) : Nat := rm_nv (a 19 (48 * l + 8 * e + m))
def iv_nd (a : zv_I) (nl c : Nat) : Nat := rm_cnt (fun x => decide (a 10 x = nI 2 ∧ a 11 x = nI c ∧ ¬ a 15 x = -1)) nl
def iv (a : zv_I) (nm nc nl q : Nat) : Prop :=
  (a 3 0 = nI nm ∧ nm ≤ 8) ∧
  (a 3 1 = nI nc ∧ nc ≤ 6) ∧
  (a 3 4 = nI nl ∧ nl ≤ 200) ∧
  (a 3 5 = nI (rm_NA a) ∧ rm_NA a ≤ 100) ∧
  (a 3 26 = nI (rm_NT a) ∧ rm_NT a ≤ 60) ∧
  (∀ c, c < nc → cr_by (a 6 c)) ∧
  (∀ c, c < nc → ∀ m, m < 8 → rm_in a m c = true → m < nm) ∧
  (∀ c, c < nc → rm_es a c) ∧
  (∀ c, c < 6 → a 7 c = nI (iv_nd a nl c)) ∧
  (∀ l, l < nl → a 10 l = nI (rm_nv (a 10 l)) ∧ rm_nv (a 10 l) < 6) ∧
  (∀ l, l < nl → a 11 l = nI (rm_ci a l) ∧ rm_ci a l < nc) ∧
  (∀ l, l < nl → a 12 l = nI (rm_wr a l) ∧ rm_wr a l < nm) ∧
  (∀ l, l < nl → rm_in a (rm_wr a l) (rm_ci a l) = true) ∧
  (∀ l, l < nl → a 13 l = nI (iv_s a l) ∧ 1 ≤ iv_s a l ∧ iv_s a l ≤ iv_w a (rm_wr a l) (rm_ci a l)) ∧
  (∀ l x, l < nl → x < nl → rm_ci a l = rm_ci a x → rm_wr a l = rm_wr a x → iv_s a l = iv_s a x → l = x) ∧
  (∀ w c s, w < 8 → c < 6 → 1 ≤ s → s ≤ iv_w a w c → ∃ l, l < nl ∧ rm_wr a l = w ∧ rm_ci a l = c ∧ iv_s a l = s) ∧
  (∀ w c, w < 8 → c < 6 → a 22 (6 * w + c) = nI (iv_w a w c) ∧ iv_w a w c ≤ nl) ∧
  (∀ m l, m < 8 → l < nl → cr_st a m l) ∧
  (∀ l, l < nl → ¬ a 20 (200 * rm_wr a l + l) = nI 1) ∧
  (∀ r c w, r < 8 → c < 6 → w < 8 → a 21 (48 * r + 8 * c + w) = nI (iv_g a r c w) ∧ iv_g a r c w ≤ iv_w a w c) ∧
  (∀ r l, r < 8 → l < nl → (a 20 (200 * r + l) = nI 3 ↔ iv_s a l ≤ iv_g a r (rm_ci a l) (rm_wr a l))) ∧
  (∀ l e m, l < nl → e < 6 → m < 8 → a 19 (48 * l + 8 * e + m) = nI (iv_c a l e m) ∧ iv_c a l e m ≤ 200) ∧
  (∀ l e m, l < nl → e < nc → m < 8 → rm_in a m e = false → iv_c a l e m = 0) ∧
  (∀ l e m, l < nl → e < 6 → m < 8 → rm_row a l e = false → iv_c a l e m = 0) ∧
  (∀ l, l < nl → rm_row a l (rm_ci a l) = true) ∧
  (∀ l e, l < nl → e < 6 → rm_row a l e = true → e < nc) ∧
  (∀ l e m, l < nl → e < nc → m < 8 → rm_row a l e = true → rm_in a (rm_wr a l) e = true → ¬ (e = rm_ci a l ∧ m = rm_wr a l) → iv_c a l e m ≤ iv_g a (rm_wr a l) e m) ∧
  (∀ l, l < nl → iv_c a l (rm_ci a l) (rm_wr a l) < iv_s a l) ∧
  (∀ l, l < nl → a 15 l = -1 ∨ (a 10 l = nI 2 ∧ ∃ n, n < iv_nd a nl (rm_ci a l) ∧ a 15 l = nI n)) ∧
  (∀ l x, l < nl → x < nl → rm_ci a l = rm_ci a x → ¬ a 15 l = -1 → a 15 l = a 15 x → l = x) ∧
  (∀ c n, c < nc → n < iv_nd a nl c → ∃ x, x < nl ∧ a 10 x = nI 2 ∧ rm_ci a x = c ∧ a 15 x = nI n) ∧
  (∀ l, l < nl → a 10 l = nI 2 → (¬ a 15 l = -1 ↔ a 20 (200 * rm_el a (rm_ci a l) + l) = nI 3)) ∧
  (∀ l, l < nl → (a 16 l = -1 ∧ a 15 l = -1) ∨ (¬ a 15 l = -1 ∧ ∃ o, o < nl + q ∧ a 16 l = nI o)) ∧
  (∀ l r, l < nl → r < 8 → a 10 l = nI 2 → rm_wr a l = rm_el a (rm_ci a l) → r ≠ rm_wr a l → (a 20 (200 * r + l) = nI 2 ∨ a 20 (200 * r + l) = nI 3) → ¬ a 15 l = -1) ∧
  (∀ r l, r < 8 → l < nl → a 10 l = nI 2 → r ≠ rm_el a (rm_ci a l) → (a 20 (200 * r + l) = nI 3 ↔ ∃ n, a 15 l = nI n ∧ n < cr_sg a nl r (rm_ci a l))) ∧
  (∀ r c, r < 8 → c < nc → cr_sg a nl r c ≤ iv_nd a nl c) ∧
  (rm_cnt (fun x => decide (¬ a 10 x = nI 3)) nl = rm_NA a) ∧
  (rm_cnt (fun x => decide (a 10 x = nI 3)) nl + q = rm_cnt (fun x => decide (a 10 x = nI 2 ∧ ¬ a 15 x = -1)) nl) ∧
  (∀ m, m < 8 → a 25 m = nI (rm_cnt (fun x => decide (a 20 (200 * m + x) = nI 3)) nl)) ∧
  (∀ w c, w < 8 → c < 6 → a 23 (6 * w + c) = -1 ∨ ∃ l, l < nl ∧ a 23 (6 * w + c) = nI l) ∧
  (∀ m s, m < 8 → s < 40 → rm_sl a nl m s) ∧
  (∀ x y, x < 200 → y < 200 → (x ≤ y ∨ nl ≤ x) → a 26 (200 * x + y) = 0) ∧
  (∀ x y z, z < y → y < x → x < nl → rm_ib a x y = true → rm_ib a y z = true → rm_ib a x z = true) ∧
  (∀ m l, m < 8 → nl ≤ l → l < 200 → a 20 (200 * m + l) = 0) ∧
  (∀ m, nm ≤ m → m < 8 → (∀ s, s < 40 → a 27 (40 * m + s) = 0) ∧ (∀ c, c < 6 → a 23 (6 * m + c) = -1) ∧ (∀ i, i < 200 → a 24 (200 * m + i) = 0)) ∧
  (∀ l, nl ≤ l → l < 200 → a 17 l = 0 ∧ ∀ j, j < 48 → a 19 (48 * l + j) = 0)
theorem xI_n0 {a : zv_I} {nm nc nl q : Nat} (h : iv a nm nc nl q) : a 3 0 = nI nm ∧ nm ≤ 8 := h.1
theorem xI_n1 {a : zv_I} {nm nc nl q : Nat} (h : iv a nm nc nl q) : a 3 1 = nI nc ∧ nc ≤ 6 := h.2.1
theorem xI_n4 {a : zv_I} {nm nc nl q : Nat} (h : iv a nm nc nl q) : a 3 4 = nI nl ∧ nl ≤ 200 := h.2.2.1
theorem xI_n5 {a : zv_I} {nm nc nl q : Nat} (h : iv a nm nc nl q) : a 3 5 = nI (rm_NA a) ∧ rm_NA a ≤ 100 := h.2.2.2.1
theorem xI_nt {a : zv_I} {nm nc nl q : Nat} (h : iv a nm nc nl q) : a 3 26 = nI (rm_NT a) ∧ rm_NT a ≤ 60 := h.2.2.2.2.1
theorem xI_cy {a : zv_I} {nm nc nl q : Nat} (h : iv a nm nc nl q) : ∀ c, c < nc → cr_by (a 6 c) := h.2.2.2.2.2.1
theorem xI_ci {a : zv_I} {nm nc nl q : Nat} (h : iv a nm nc nl q) : ∀ c, c < nc → ∀ m, m < 8 → rm_in a m c = true → m < nm := h.2.2.2.2.2.2.1
theorem xI_ce {a : zv_I} {nm nc nl q : Nat} (h : iv a nm nc nl q) : ∀ c, c < nc → rm_es a c := h.2.2.2.2.2.2.2.1
theorem xI_cn {a : zv_I} {nm nc nl q : Nat} (h : iv a nm nc nl q) : ∀ c, c < 6 → a 7 c = nI (iv_nd a nl c) := h.2.2.2.2.2.2.2.2.1
theorem xI_lk {a : zv_I} {nm nc nl q : Nat} (h : iv a nm nc nl q) : ∀ l, l < nl → a 10 l = nI (rm_nv (a 10 l)) ∧ rm_nv (a 10 l) < 6 := h.2.2.2.2.2.2.2.2.2.1
theorem xI_lc {a : zv_I} {nm nc nl q : Nat} (h : iv a nm nc nl q) : ∀ l, l < nl → a 11 l = nI (rm_ci a l) ∧ rm_ci a l < nc := h.2.2.2.2.2.2.2.2.2.2.1
theorem xI_lw {a : zv_I} {nm nc nl q : Nat} (h : iv a nm nc nl q) : ∀ l, l < nl → a 12 l = nI (rm_wr a l) ∧ rm_wr a l < nm := h.2.2.2.2.2.2.2.2.2.2.2.1
theorem xI_li {a : zv_I} {nm nc nl q : Nat} (h : iv a nm nc nl q) : ∀ l, l < nl → rm_in a (rm_wr a l) (rm_ci a l) = true := h.2.2.2.2.2.2.2.2.2.2.2.2.1
theorem xI_ls {a : zv_I} {nm nc nl q : Nat} (h : iv a nm nc nl q) : ∀ l, l < nl → a 13 l = nI (iv_s a l) ∧ 1 ≤ iv_s a l ∧ iv_s a l ≤ iv_w a (rm_wr a l) (rm_ci a l) := h.2.2.2.2.2.2.2.2.2.2.2.2.2.1
theorem xI_lu {a : zv_I} {nm nc nl q : Nat} (h : iv a nm nc nl q) : ∀ l x, l < nl → x < nl → rm_ci a l = rm_ci a x → rm_wr a l = rm_wr a x → iv_s a l = iv_s a x → l = x := h.2.2.2.2.2.2.2.2.2.2.2.2.2.2.1
theorem xI_lx {a : zv_I} {nm nc nl q : Nat} (h : iv a nm nc nl q) : ∀ w c s, w < 8 → c < 6 → 1 ≤ s → s ≤ iv_w a w c → ∃ l, l < nl ∧ rm_wr a l = w ∧ rm_ci a l = c ∧ iv_s a l = s := h.2.2.2.2.2.2.2.2.2.2.2.2.2.2.2.1
theorem xI_ww {a : zv_I} {nm nc nl q : Nat} (h : iv a nm nc nl q) : ∀ w c, w < 8 → c < 6 → a 22 (6 * w + c) = nI (iv_w a w c) ∧ iv_w a w c ≤ nl := h.2.2.2.2.2.2.2.2.2.2.2.2.2.2.2.2.1
theorem xI_st {a : zv_I} {nm nc nl q : Nat} (h : iv a nm nc nl q) : ∀ m l, m < 8 → l < nl → cr_st a m l := h.2.2.2.2.2.2.2.2.2.2.2.2.2.2.2.2.2.1
theorem xI_wl {a : zv_I} {nm nc nl q : Nat} (h : iv a nm nc nl q) : ∀ l, l < nl → ¬ a 20 (200 * rm_wr a l + l) = nI 1 := h.2.2.2.2.2.2.2.2.2.2.2.2.2.2.2.2.2.2.1
theorem xI_gv {a : zv_I} {nm nc nl q : Nat} (h : iv a nm nc nl q) : ∀ r c w, r < 8 → c < 6 → w < 8 → a 21 (48 * r + 8 * c + w) = nI (iv_g a r c w) ∧ iv_g a r c w ≤ iv_w a w c := h.2.2.2.2.2.2.2.2.2.2.2.2.2.2.2.2.2.2.2.1
theorem xI_gs {a : zv_I} {nm nc nl q : Nat} (h : iv a nm nc nl q) : ∀ r l, r < 8 → l < nl → (a 20 (200 * r + l) = nI 3 ↔ iv_s a l ≤ iv_g a r (rm_ci a l) (rm_wr a l)) := h.2.2.2.2.2.2.2.2.2.2.2.2.2.2.2.2.2.2.2.2.1
theorem xI_ck {a : zv_I} {nm nc nl q : Nat} (h : iv a nm nc nl q) : ∀ l e m, l < nl → e < 6 → m < 8 → a 19 (48 * l + 8 * e + m) = nI (iv_c a l e m) ∧ iv_c a l e m ≤ 200 := h.2.2.2.2.2.2.2.2.2.2.2.2.2.2.2.2.2.2.2.2.2.1
theorem xI_cz {a : zv_I} {nm nc nl q : Nat} (h : iv a nm nc nl q) : ∀ l e m, l < nl → e < nc → m < 8 → rm_in a m e = false → iv_c a l e m = 0 := h.2.2.2.2.2.2.2.2.2.2.2.2.2.2.2.2.2.2.2.2.2.2.1
theorem xI_cw {a : zv_I} {nm nc nl q : Nat} (h : iv a nm nc nl q) : ∀ l e m, l < nl → e < 6 → m < 8 → rm_row a l e = false → iv_c a l e m = 0 := h.2.2.2.2.2.2.2.2.2.2.2.2.2.2.2.2.2.2.2.2.2.2.2.1
theorem xI_rc {a : zv_I} {nm nc nl q : Nat} (h : iv a nm nc nl q) : ∀ l, l < nl → rm_row a l (rm_ci a l) = true := h.2.2.2.2.2.2.2.2.2.2.2.2.2.2.2.2.2.2.2.2.2.2.2.2.1
theorem xI_rn {a : zv_I} {nm nc nl q : Nat} (h : iv a nm nc nl q) : ∀ l e, l < nl → e < 6 → rm_row a l e = true → e < nc := h.2.2.2.2.2.2.2.2.2.2.2.2.2.2.2.2.2.2.2.2.2.2.2.2.2.1
theorem xI_cl {a : zv_I} {nm nc nl q : Nat} (h : iv a nm nc nl q) : ∀ l e m, l < nl → e < nc → m < 8 → rm_row a l e = true → rm_in a (rm_wr a l) e = true → ¬ (e = rm_ci a l ∧ m = rm_wr a l) → iv_c a l e m ≤ iv_g a (rm_wr a l) e m := h.2.2.2.2.2.2.2.2.2.2.2.2.2.2.2.2.2.2.2.2.2.2.2.2.2.2.1
theorem xI_co {a : zv_I} {nm nc nl q : Nat} (h : iv a nm nc nl q) : ∀ l, l < nl → iv_c a l (rm_ci a l) (rm_wr a l) < iv_s a l := h.2.2.2.2.2.2.2.2.2.2.2.2.2.2.2.2.2.2.2.2.2.2.2.2.2.2.2.1
theorem xI_nu {a : zv_I} {nm nc nl q : Nat} (h : iv a nm nc nl q) : ∀ l, l < nl → a 15 l = -1 ∨ (a 10 l = nI 2 ∧ ∃ n, n < iv_nd a nl (rm_ci a l) ∧ a 15 l = nI n) := h.2.2.2.2.2.2.2.2.2.2.2.2.2.2.2.2.2.2.2.2.2.2.2.2.2.2.2.2.1
theorem xI_nj {a : zv_I} {nm nc nl q : Nat} (h : iv a nm nc nl q) : ∀ l x, l < nl → x < nl → rm_ci a l = rm_ci a x → ¬ a 15 l = -1 → a 15 l = a 15 x → l = x := h.2.2.2.2.2.2.2.2.2.2.2.2.2.2.2.2.2.2.2.2.2.2.2.2.2.2.2.2.2.1
theorem xI_ns {a : zv_I} {nm nc nl q : Nat} (h : iv a nm nc nl q) : ∀ c n, c < nc → n < iv_nd a nl c → ∃ x, x < nl ∧ a 10 x = nI 2 ∧ rm_ci a x = c ∧ a 15 x = nI n := h.2.2.2.2.2.2.2.2.2.2.2.2.2.2.2.2.2.2.2.2.2.2.2.2.2.2.2.2.2.2.1
theorem xI_ne {a : zv_I} {nm nc nl q : Nat} (h : iv a nm nc nl q) : ∀ l, l < nl → a 10 l = nI 2 → (¬ a 15 l = -1 ↔ a 20 (200 * rm_el a (rm_ci a l) + l) = nI 3) := h.2.2.2.2.2.2.2.2.2.2.2.2.2.2.2.2.2.2.2.2.2.2.2.2.2.2.2.2.2.2.2.1
theorem xI_no {a : zv_I} {nm nc nl q : Nat} (h : iv a nm nc nl q) : ∀ l, l < nl → (a 16 l = -1 ∧ a 15 l = -1) ∨ (¬ a 15 l = -1 ∧ ∃ o, o < nl + q ∧ a 16 l = nI o) := h.2.2.2.2.2.2.2.2.2.2.2.2.2.2.2.2.2.2.2.2.2.2.2.2.2.2.2.2.2.2.2.2.1
theorem xI_nk {a : zv_I} {nm nc nl q : Nat} (h : iv a nm nc nl q) : ∀ l r, l < nl → r < 8 → a 10 l = nI 2 → rm_wr a l = rm_el a (rm_ci a l) → r ≠ rm_wr a l → (a 20 (200 * r + l) = nI 2 ∨ a 20 (200 * r + l) = nI 3) → ¬ a 15 l = -1 := h.2.2.2.2.2.2.2.2.2.2.2.2.2.2.2.2.2.2.2.2.2.2.2.2.2.2.2.2.2.2.2.2.2.1
theorem xI_sg {a : zv_I} {nm nc nl q : Nat} (h : iv a nm nc nl q) : ∀ r l, r < 8 → l < nl → a 10 l = nI 2 → r ≠ rm_el a (rm_ci a l) → (a 20 (200 * r + l) = nI 3 ↔ ∃ n, a 15 l = nI n ∧ n < cr_sg a nl r (rm_ci a l)) := h.2.2.2.2.2.2.2.2.2.2.2.2.2.2.2.2.2.2.2.2.2.2.2.2.2.2.2.2.2.2.2.2.2.2.1
theorem xI_sn {a : zv_I} {nm nc nl q : Nat} (h : iv a nm nc nl q) : ∀ r c, r < 8 → c < nc → cr_sg a nl r c ≤ iv_nd a nl c := h.2.2.2.2.2.2.2.2.2.2.2.2.2.2.2.2.2.2.2.2.2.2.2.2.2.2.2.2.2.2.2.2.2.2.2.1
theorem xI_kc {a : zv_I} {nm nc nl q : Nat} (h : iv a nm nc nl q) : rm_cnt (fun x => decide (¬ a 10 x = nI 3)) nl = rm_NA a := h.2.2.2.2.2.2.2.2.2.2.2.2.2.2.2.2.2.2.2.2.2.2.2.2.2.2.2.2.2.2.2.2.2.2.2.2.1
theorem xI_ko {a : zv_I} {nm nc nl q : Nat} (h : iv a nm nc nl q) : rm_cnt (fun x => decide (a 10 x = nI 3)) nl + q = rm_cnt (fun x => decide (a 10 x = nI 2 ∧ ¬ a 15 x = -1)) nl := h.2.2.2.2.2.2.2.2.2.2.2.2.2.2.2.2.2.2.2.2.2.2.2.2.2.2.2.2.2.2.2.2.2.2.2.2.2.1
theorem xI_rd {a : zv_I} {nm nc nl q : Nat} (h : iv a nm nc nl q) : ∀ m, m < 8 → a 25 m = nI (rm_cnt (fun x => decide (a 20 (200 * m + x) = nI 3)) nl) := h.2.2.2.2.2.2.2.2.2.2.2.2.2.2.2.2.2.2.2.2.2.2.2.2.2.2.2.2.2.2.2.2.2.2.2.2.2.2.1
theorem xI_la {a : zv_I} {nm nc nl q : Nat} (h : iv a nm nc nl q) : ∀ w c, w < 8 → c < 6 → a 23 (6 * w + c) = -1 ∨ ∃ l, l < nl ∧ a 23 (6 * w + c) = nI l := h.2.2.2.2.2.2.2.2.2.2.2.2.2.2.2.2.2.2.2.2.2.2.2.2.2.2.2.2.2.2.2.2.2.2.2.2.2.2.2.1
theorem xI_sl {a : zv_I} {nm nc nl q : Nat} (h : iv a nm nc nl q) : ∀ m s, m < 8 → s < 40 → rm_sl a nl m s := h.2.2.2.2.2.2.2.2.2.2.2.2.2.2.2.2.2.2.2.2.2.2.2.2.2.2.2.2.2.2.2.2.2.2.2.2.2.2.2.2.1
theorem xI_bz {a : zv_I} {nm nc nl q : Nat} (h : iv a nm nc nl q) : ∀ x y, x < 200 → y < 200 → (x ≤ y ∨ nl ≤ x) → a 26 (200 * x + y) = 0 := h.2.2.2.2.2.2.2.2.2.2.2.2.2.2.2.2.2.2.2.2.2.2.2.2.2.2.2.2.2.2.2.2.2.2.2.2.2.2.2.2.2.1
theorem xI_bt {a : zv_I} {nm nc nl q : Nat} (h : iv a nm nc nl q) : ∀ x y z, z < y → y < x → x < nl → rm_ib a x y = true → rm_ib a y z = true → rm_ib a x z = true := h.2.2.2.2.2.2.2.2.2.2.2.2.2.2.2.2.2.2.2.2.2.2.2.2.2.2.2.2.2.2.2.2.2.2.2.2.2.2.2.2.2.2.1
theorem xI_zs {a : zv_I} {nm nc nl q : Nat} (h : iv a nm nc nl q) : ∀ m l, m < 8 → nl ≤ l → l < 200 → a 20 (200 * m + l) = 0 := h.2.2.2.2.2.2.2.2.2.2.2.2.2.2.2.2.2.2.2.2.2.2.2.2.2.2.2.2.2.2.2.2.2.2.2.2.2.2.2.2.2.2.2.1
theorem xI_zm {a : zv_I} {nm nc nl q : Nat} (h : iv a nm nc nl q) : ∀ m, nm ≤ m → m < 8 → (∀ s, s < 40 → a 27 (40 * m + s) = 0) ∧ (∀ c, c < 6 → a 23 (6 * m + c) = -1) ∧ (∀ i, i < 200 → a 24 (200 * m + i) = 0) := h.2.2.2.2.2.2.2.2.2.2.2.2.2.2.2.2.2.2.2.2.2.2.2.2.2.2.2.2.2.2.2.2.2.2.2.2.2.2.2.2.2.2.2.2.1
theorem xI_zl {a : zv_I} {nm nc nl q : Nat} (h : iv a nm nc nl q) : ∀ l, nl ≤ l → l < 200 → a 17 l = 0 ∧ ∀ j, j < 48 → a 19 (48 * l + j) = 0 := h.2.2.2.2.2.2.2.2.2.2.2.2.2.2.2.2.2.2.2.2.2.2.2.2.2.2.2.2.2.2.2.2.2.2.2.2.2.2.2.2.2.2.2.2.2
/-! counting -/
theorem cnt_c {p r : Nat → Bool} : ∀ {n : Nat}, (∀ i, i < n → p i = r i) → rm_cnt p n = rm_cnt r n
  | 0, _ => rfl
  | n + 1, h => by
    show rm_cnt p n + (if p n = true then 1 else 0) = rm_cnt r n + (if r n = true then 1 else 0)
    rw [h n (by omega), cnt_c (n := n) fun i hi => h i (by omega)]
theorem cnt_le {p r : Nat → Bool} : ∀ {n : Nat}, (∀ i, i < n → p i = true → r i = true) → rm_cnt p n ≤ rm_cnt r n
  | 0, _ => Nat.le_refl _
  | n + 1, h => by
    have h1 := cnt_le (n := n) fun i hi => h i (by omega)
    show rm_cnt p n + (if p n = true then 1 else 0) ≤ rm_cnt r n + (if r n = true then 1 else 0)
    cases hp : p n with
    | false => rw [if_neg (by decide)]; omega
    | true => rw [if_pos rfl, if_pos (h n (by omega) hp)]; omega
/-- one place more -/
theorem cnt_1 {p r : Nat → Bool} {x : Nat} (hx : p x = false) (hr : r x = true) : ∀ {n : Nat}, (∀ i, i < n → i ≠ x → r i = p i) → x < n → rm_cnt r n = rm_cnt p n + 1
  | 0, _, h => absurd h (by omega)
  | n + 1, ho, h => by
    show rm_cnt r n + (if r n = true then 1 else 0) = rm_cnt p n + (if p n = true then 1 else 0) + 1
    by_cases e : x = n
    · subst e
      rw [hx, hr, cnt_c (p := r) (r := p) (fun i hi => ho i (by omega) (by omega))]
      rfl
    · rw [ho n (by omega) (by omega), cnt_1 hx hr (n := n) (fun i hi => ho i (by omega)) (by omega)]
      omega
theorem cnt_lt {p r : Nat → Bool} {x : Nat} (hx : p x = false) (hr : r x = true) : ∀ {n : Nat}, x < n → (∀ i, i < n → p i = true → r i = true) → rm_cnt p n < rm_cnt r n
  | 0, h, _ => absurd h (by omega)
  | n + 1, h, hi => by
    show rm_cnt p n + (if p n = true then 1 else 0) < rm_cnt r n + (if r n = true then 1 else 0)
    by_cases e : x = n
    · subst e
      have := cnt_le (p := p) (r := r) (n := x) fun i h1 => hi i (by omega)
      rw [hx, hr, if_neg (by decide), if_pos rfl]
      omega
    · have h1 := cnt_lt hx hr (n := n) (by omega) fun i h1 => hi i (by omega)
      cases hp : p n with
      | false => rw [if_neg (by decide)]; omega
      | true => rw [if_pos rfl, if_pos (hi n (by omega) hp)]; omega
theorem cnt_n {p : Nat → Bool} : ∀ n, rm_cnt p n + rm_cnt (fun x => !p x) n = n
  | 0 => rfl
  | n + 1 => by
    have h := cnt_n (p := p) n
    show rm_cnt p n + (if p n = true then 1 else 0) + (rm_cnt (fun x => !p x) n + (if (!p n) = true then 1 else 0)) = n + 1
    cases hp : p n with
    | false => rw [if_neg (by decide), if_pos (by decide)]; omega
    | true => rw [if_pos rfl, if_neg (by decide)]; omega
theorem nI_m1 {n : Nat} (h : n < 2 ^ 31) : ¬ nI n = (-1 : Int32) := rm_ni1 h
theorem nI_ij {a b : Nat} (h : nI a = nI b) (ha : a < 2 ^ 31) (hb : b < 2 ^ 31) : a = b := (nI_eq ha hb).mp h
