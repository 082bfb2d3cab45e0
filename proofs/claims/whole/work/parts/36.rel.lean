/-! THE RELATION of the class's cells (I, J, R) and the model's rows a -/
def cr_by (x : Int32) : Prop := ∃ n, n < 256 ∧ x = nI n
/-- the sealed letters to c that m has given -/
def cr_sg (a : zv_I) (nl m c : Nat) : Nat := rm_cnt (fun x => decide (a 10 x = nI 2 ∧ a 11 x = nI c ∧ a 20 (200 * m + x) = nI 3)) nl
def cr_lc (R : zv_R) (v : Int32) : Option Nat := if v = -1 then none else some (1000 + 8 * cc_ck R (rm_nv v))
def cr_tg (R : zv_R) : Option (Bool × Nat) → Option Nat
  | none => none
  | some (false, l) => some (1000 + 8 * cc_ck R l)
  | some (true, l) => some (300 + 3 * l)
def cr_H (R : zv_R) (a : zv_I) (nl m n : Nat) (h : Nat → Nat) : Prop := (∀ i, i < n → R (112 + 20 * m) i = some (300 + 3 * h i) ∧ h i < nl ∧ a 20 (200 * m + h i) = nI 2) ∧ (∀ i j, i < j → j < n → h i < h j) ∧ ∀ x, x < nl → a 20 (200 * m + x) = nI 2 → ∃ i, i < n ∧ h i = x
def cr_T (I : zv_I) (a : zv_I) : Prop :=
  (I 40 8 = a 3 5) ∧
  (I 40 9 = a 3 24) ∧
  (I 45 1 = a 3 26) ∧
  (∀ i, i < 60 → I 46 i = a 29 i)
theorem xT_na {I : zv_I} {a : zv_I} (h : cr_T I a) : I 40 8 = a 3 5 := h.1
theorem xT_st {I : zv_I} {a : zv_I} (h : cr_T I a) : I 40 9 = a 3 24 := h.2.1
theorem xT_nt {I : zv_I} {a : zv_I} (h : cr_T I a) : I 45 1 = a 3 26 := h.2.2.1
theorem xT_tr {I : zv_I} {a : zv_I} (h : cr_T I a) : ∀ i, i < 60 → I 46 i = a 29 i := h.2.2.2
def cr_C (I : zv_I) (a : zv_I) (c : Nat) : Prop :=
  (I (50 + c) 0 = a 6 c) ∧
  (I (50 + c) 1 = nI (rm_el a c)) ∧
  (I (50 + c) 2 = a 7 c)
theorem xC_b {I : zv_I} {a : zv_I} {c : Nat} (h : cr_C I a c) : I (50 + c) 0 = a 6 c := h.1
theorem xC_e {I : zv_I} {a : zv_I} {c : Nat} (h : cr_C I a c) : I (50 + c) 1 = nI (rm_el a c) := h.2.1
theorem xC_p {I : zv_I} {a : zv_I} {c : Nat} (h : cr_C I a c) : I (50 + c) 2 = a 7 c := h.2.2
def cr_L (I : zv_I) (J : zv_J) (R : zv_R) (a : zv_I) (nc l : Nat) : Prop :=
  (I (300 + 3 * l) 1 = a 10 l) ∧
  (I (300 + 3 * l) 2 = a 11 l) ∧
  (I (300 + 3 * l) 3 = a 12 l) ∧
  (I (300 + 3 * l) 4 = a 13 l) ∧
  (I (300 + 3 * l) 5 = a 14 l) ∧
  (I (300 + 3 * l) 8 = a 15 l) ∧
  (I (300 + 3 * l) 9 = a 16 l) ∧
  (I (300 + 3 * l) 10 = a 17 l) ∧
  (cr_by (I (300 + 3 * l) 11)) ∧
  (∀ m, m < 8 → cb (I (300 + 3 * l) 11) m = decide (a 20 (200 * m + l) = nI 1)) ∧
  (cr_by (I (300 + 3 * l) 12)) ∧
  (∀ m, m < 8 → cb (I (300 + 3 * l) 12) m = decide (a 20 (200 * m + l) = nI 3)) ∧
  (∀ e, e < 6 → (R (1001 + 8 * cc_ck R l) e).isSome = rm_row a l e) ∧
  (∀ e m, e < 6 → m < 8 → cc_cv I R (cc_ck R l) e m = a 19 (48 * l + 8 * e + m)) ∧
  (I (1000 + 8 * cc_ck R l) 1 = nI (rm_cof a nc l)) ∧
  (∀ x, x < 256 → cs_bit (J (302 + 3 * l)) x = (decide (x < l) && rm_ib a l x))
theorem xL_k {I : zv_I} {J : zv_J} {R : zv_R} {a : zv_I} {nc l : Nat} (h : cr_L I J R a nc l) : I (300 + 3 * l) 1 = a 10 l := h.1
theorem xL_c {I : zv_I} {J : zv_J} {R : zv_R} {a : zv_I} {nc l : Nat} (h : cr_L I J R a nc l) : I (300 + 3 * l) 2 = a 11 l := h.2.1
theorem xL_w {I : zv_I} {J : zv_J} {R : zv_R} {a : zv_I} {nc l : Nat} (h : cr_L I J R a nc l) : I (300 + 3 * l) 3 = a 12 l := h.2.2.1
theorem xL_s {I : zv_I} {J : zv_J} {R : zv_R} {a : zv_I} {nc l : Nat} (h : cr_L I J R a nc l) : I (300 + 3 * l) 4 = a 13 l := h.2.2.2.1
theorem xL_n {I : zv_I} {J : zv_J} {R : zv_R} {a : zv_I} {nc l : Nat} (h : cr_L I J R a nc l) : I (300 + 3 * l) 5 = a 14 l := h.2.2.2.2.1
theorem xL_p {I : zv_I} {J : zv_J} {R : zv_R} {a : zv_I} {nc l : Nat} (h : cr_L I J R a nc l) : I (300 + 3 * l) 8 = a 15 l := h.2.2.2.2.2.1
theorem xL_o {I : zv_I} {J : zv_J} {R : zv_R} {a : zv_I} {nc l : Nat} (h : cr_L I J R a nc l) : I (300 + 3 * l) 9 = a 16 l := h.2.2.2.2.2.2.1
theorem xL_v {I : zv_I} {J : zv_J} {R : zv_R} {a : zv_I} {nc l : Nat} (h : cr_L I J R a nc l) : I (300 + 3 * l) 10 = a 17 l := h.2.2.2.2.2.2.2.1
theorem xL_ly {I : zv_I} {J : zv_J} {R : zv_R} {a : zv_I} {nc l : Nat} (h : cr_L I J R a nc l) : cr_by (I (300 + 3 * l) 11) := h.2.2.2.2.2.2.2.2.1
theorem xL_lb {I : zv_I} {J : zv_J} {R : zv_R} {a : zv_I} {nc l : Nat} (h : cr_L I J R a nc l) : ∀ m, m < 8 → cb (I (300 + 3 * l) 11) m = decide (a 20 (200 * m + l) = nI 1) := h.2.2.2.2.2.2.2.2.2.1
theorem xL_gy {I : zv_I} {J : zv_J} {R : zv_R} {a : zv_I} {nc l : Nat} (h : cr_L I J R a nc l) : cr_by (I (300 + 3 * l) 12) := h.2.2.2.2.2.2.2.2.2.2.1
theorem xL_gb {I : zv_I} {J : zv_J} {R : zv_R} {a : zv_I} {nc l : Nat} (h : cr_L I J R a nc l) : ∀ m, m < 8 → cb (I (300 + 3 * l) 12) m = decide (a 20 (200 * m + l) = nI 3) := h.2.2.2.2.2.2.2.2.2.2.2.1
theorem xL_r {I : zv_I} {J : zv_J} {R : zv_R} {a : zv_I} {nc l : Nat} (h : cr_L I J R a nc l) : ∀ e, e < 6 → (R (1001 + 8 * cc_ck R l) e).isSome = rm_row a l e := h.2.2.2.2.2.2.2.2.2.2.2.2.1
theorem xL_cv {I : zv_I} {J : zv_J} {R : zv_R} {a : zv_I} {nc l : Nat} (h : cr_L I J R a nc l) : ∀ e m, e < 6 → m < 8 → cc_cv I R (cc_ck R l) e m = a 19 (48 * l + 8 * e + m) := h.2.2.2.2.2.2.2.2.2.2.2.2.2.1
theorem xL_ct {I : zv_I} {J : zv_J} {R : zv_R} {a : zv_I} {nc l : Nat} (h : cr_L I J R a nc l) : I (1000 + 8 * cc_ck R l) 1 = nI (rm_cof a nc l) := h.2.2.2.2.2.2.2.2.2.2.2.2.2.2.1
theorem xL_bf {I : zv_I} {J : zv_J} {R : zv_R} {a : zv_I} {nc l : Nat} (h : cr_L I J R a nc l) : ∀ x, x < 256 → cs_bit (J (302 + 3 * l)) x = (decide (x < l) && rm_ib a l x) := h.2.2.2.2.2.2.2.2.2.2.2.2.2.2.2
def cr_M (I : zv_I) (J : zv_J) (R : zv_R) (a : zv_I) (nl m : Nat) : Prop :=
  (∀ c w, c < 6 → w < 8 → I (102 + 20 * m + c) w = a 21 (48 * m + 8 * c + w)) ∧
  (∀ c, c < 6 → I (108 + 20 * m) c = a 22 (6 * m + c)) ∧
  (∀ c, c < 6 → I (109 + 20 * m) c = nI (cr_sg a nl m c)) ∧
  (∀ i, i < 200 → I (111 + 20 * m) i = a 24 (200 * m + i)) ∧
  (I (100 + 20 * m) 8 = a 25 m) ∧
  (∃ n h, I (100 + 20 * m) 9 = nI n ∧ cr_H R a nl m n h) ∧
  (∀ c, c < 6 → R (110 + 20 * m) c = cr_lc R (a 23 (6 * m + c))) ∧
  (∀ s, s < 40 → R (113 + 20 * m) s = cr_tg R (rm_th a m s)) ∧
  (∀ x, x < 256 → cs_bit (J (115 + 20 * m)) x = rm_bq a m nl x)
theorem xM_g {I : zv_I} {J : zv_J} {R : zv_R} {a : zv_I} {nl m : Nat} (h : cr_M I J R a nl m) : ∀ c w, c < 6 → w < 8 → I (102 + 20 * m + c) w = a 21 (48 * m + 8 * c + w) := h.1
theorem xM_w {I : zv_I} {J : zv_J} {R : zv_R} {a : zv_I} {nl m : Nat} (h : cr_M I J R a nl m) : ∀ c, c < 6 → I (108 + 20 * m) c = a 22 (6 * m + c) := h.2.1
theorem xM_s {I : zv_I} {J : zv_J} {R : zv_R} {a : zv_I} {nl m : Nat} (h : cr_M I J R a nl m) : ∀ c, c < 6 → I (109 + 20 * m) c = nI (cr_sg a nl m c) := h.2.2.1
theorem xM_r {I : zv_I} {J : zv_J} {R : zv_R} {a : zv_I} {nl m : Nat} (h : cr_M I J R a nl m) : ∀ i, i < 200 → I (111 + 20 * m) i = a 24 (200 * m + i) := h.2.2.2.1
theorem xM_n {I : zv_I} {J : zv_J} {R : zv_R} {a : zv_I} {nl m : Nat} (h : cr_M I J R a nl m) : I (100 + 20 * m) 8 = a 25 m := h.2.2.2.2.1
theorem xM_h {I : zv_I} {J : zv_J} {R : zv_R} {a : zv_I} {nl m : Nat} (h : cr_M I J R a nl m) : ∃ n h, I (100 + 20 * m) 9 = nI n ∧ cr_H R a nl m n h := h.2.2.2.2.2.1
theorem xM_l {I : zv_I} {J : zv_J} {R : zv_R} {a : zv_I} {nl m : Nat} (h : cr_M I J R a nl m) : ∀ c, c < 6 → R (110 + 20 * m) c = cr_lc R (a 23 (6 * m + c)) := h.2.2.2.2.2.2.1
theorem xM_t {I : zv_I} {J : zv_J} {R : zv_R} {a : zv_I} {nl m : Nat} (h : cr_M I J R a nl m) : ∀ s, s < 40 → R (113 + 20 * m) s = cr_tg R (rm_th a m s) := h.2.2.2.2.2.2.2.1
theorem xM_k {I : zv_I} {J : zv_J} {R : zv_R} {a : zv_I} {nl m : Nat} (h : cr_M I J R a nl m) : ∀ x, x < 256 → cs_bit (J (115 + 20 * m)) x = rm_bq a m nl x := h.2.2.2.2.2.2.2.2
def cr_R (sh : zv_S) (I : zv_I) (J : zv_J) (R : zv_R) (a : zv_I) (nm nc nl : Nat) : Prop :=
  (cc_B sh I R nm nc nl) ∧
  (cr_T I a) ∧
  (∀ c, c < nc → cr_C I a c) ∧
  (∀ l, l < nl → cr_L I J R a nc l) ∧
  (∀ m, m < nm → cr_M I J R a nl m)
theorem xR_B {sh : zv_S} {I : zv_I} {J : zv_J} {R : zv_R} {a : zv_I} {nm nc nl : Nat} (h : cr_R sh I J R a nm nc nl) : cc_B sh I R nm nc nl := h.1
theorem xR_T {sh : zv_S} {I : zv_I} {J : zv_J} {R : zv_R} {a : zv_I} {nm nc nl : Nat} (h : cr_R sh I J R a nm nc nl) : cr_T I a := h.2.1
theorem xR_C {sh : zv_S} {I : zv_I} {J : zv_J} {R : zv_R} {a : zv_I} {nm nc nl : Nat} (h : cr_R sh I J R a nm nc nl) : ∀ c, c < nc → cr_C I a c := h.2.2.1
theorem xR_L {sh : zv_S} {I : zv_I} {J : zv_J} {R : zv_R} {a : zv_I} {nm nc nl : Nat} (h : cr_R sh I J R a nm nc nl) : ∀ l, l < nl → cr_L I J R a nc l := h.2.2.2.1
theorem xR_M {sh : zv_S} {I : zv_I} {J : zv_J} {R : zv_R} {a : zv_I} {nm nc nl : Nat} (h : cr_R sh I J R a nm nc nl) : ∀ m, m < nm → cr_M I J R a nl m := h.2.2.2.2
