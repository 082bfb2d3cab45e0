def eN (nl t : Nat) : Prop := (300 + 3 * nl ≤ t ∧ t ≤ 302 + 3 * nl) ∨ (1000 + 8 * nl ≤ t ∧ t < 1008 + 8 * nl)
/-- cells that are not made yet -/
def cr_F (sh : zv_S) (nm nc nl : Nat) : Prop := ∀ t, (sh t).isSome = true → t < 50 ∨ (50 ≤ t ∧ t < 50 + nc) ∨ (100 ≤ t ∧ t < 100 + 20 * nm) ∨ (300 ≤ t ∧ t < 300 + 3 * nl) ∨ (1000 ≤ t ∧ t < 1000 + 8 * nl)
theorem cr_F_n {sh : zv_S} {nm nc nl t : Nat} (F : cr_F sh nm nc nl) (h : ¬ (t < 50 ∨ (50 ≤ t ∧ t < 50 + nc) ∨ (100 ≤ t ∧ t < 100 + 20 * nm) ∨ (300 ≤ t ∧ t < 300 + 3 * nl) ∨ (1000 ≤ t ∧ t < 1000 + 8 * nl))) : sh t = none := by
  cases hx : sh t with
  | none => rfl
  | some v => exact absurd (F t (by rw [hx]; rfl)) h
def eS (sh : zv_S) (I : zv_I) (J : zv_J) (R : zv_R) (sh' : zv_S) (I' : zv_I) (J' : zv_J) (R' : zv_R) (b : zv_I) (nc nl w c n k : Nat) (kk x : Int32) : Prop :=
  (∀ t, ¬ eN nl t → sh' t = sh t) ∧
  (∀ t, ¬ eN nl t → t ≠ 40 → t ≠ 108 + 20 * w → t ≠ 100 + 20 * w → I' t = I t) ∧
  (∀ j, j ≠ 7 → j ≠ 8 → I' 40 j = I 40 j) ∧
  (I' 40 7 = nI (nl + 1)) ∧
  (I' 40 8 = b 3 5) ∧
  (∀ c', I' (108 + 20 * w) c' = if c' = c then I (108 + 20 * w) c + nI 1 else I (108 + 20 * w) c') ∧
  (I' (100 + 20 * w) 8 = I (100 + 20 * w) 8) ∧
  (I' (100 + 20 * w) 9 = nI (n + 1)) ∧
  (∀ t, ¬ eN nl t → t ≠ 115 + 20 * w → J' t = J t) ∧
  (∀ y, y < 256 → cs_bit (J' (115 + 20 * w)) y = (decide (y = nl) || cs_bit (J (115 + 20 * w)) y)) ∧
  (∀ y, y < 256 → cs_bit (J' (302 + 3 * nl)) y = cs_bit (J (115 + 20 * w)) y) ∧
  (∀ t, ¬ eN nl t → t ≠ 43 → t ≠ 110 + 20 * w → t ≠ 112 + 20 * w → t ≠ 113 + 20 * w → R' t = R t) ∧
  (∀ j, R' 43 j = if j = nl then some (300 + 3 * nl) else R 43 j) ∧
  (∀ c', c' < 6 → R' (110 + 20 * w) c' = cr_lc R' (b 23 (6 * w + c'))) ∧
  (∀ i, i ≤ n → R' (112 + 20 * w) i = if i = n then some (300 + 3 * nl) else R (112 + 20 * w) i) ∧
  (∀ s, s < 40 → R' (113 + 20 * w) s = if cc_slf R w = some s then some (300 + 3 * nl) else R (113 + 20 * w) s) ∧
  (cc_WL sh' R' nl) ∧
  (I' (300 + 3 * nl) 0 = nI nl ∧ I' (300 + 3 * nl) 1 = kk ∧ I' (300 + 3 * nl) 2 = nI c ∧ I' (300 + 3 * nl) 3 = nI w ∧ I' (300 + 3 * nl) 4 = I (108 + 20 * w) c + nI 1 ∧ I' (300 + 3 * nl) 5 = x ∧ I' (300 + 3 * nl) 8 = -1 ∧ I' (300 + 3 * nl) 9 = -1 ∧ I' (300 + 3 * nl) 10 = b 17 nl ∧ I' (300 + 3 * nl) 11 = I (50 + c) 0 &&& (nI 1 <<< (nI w &&& 31) ^^^ -1) ∧ I' (300 + 3 * nl) 12 = nI 0) ∧
  (R' (300 + 3 * nl) 6 = some (1000 + 8 * k) ∧ cc_WK sh' R' k) ∧
  (∀ e, e < 6 → (R' (1001 + 8 * k) e).isSome = rm_row b nl e) ∧
  (∀ e m, e < 6 → m < 8 → cc_cv I' R' k e m = b 19 (48 * nl + 8 * e + m)) ∧
  (I' (1000 + 8 * k) 1 = nI (rm_cof b nc nl))
theorem xE_s {sh : zv_S} {I : zv_I} {J : zv_J} {R : zv_R} {sh' : zv_S} {I' : zv_I} {J' : zv_J} {R' : zv_R} {b : zv_I} {nc nl w c n k : Nat} {kk x : Int32} (h : eS sh I J R sh' I' J' R' b nc nl w c n k kk x) : ∀ t, ¬ eN nl t → sh' t = sh t := h.1
theorem xE_i {sh : zv_S} {I : zv_I} {J : zv_J} {R : zv_R} {sh' : zv_S} {I' : zv_I} {J' : zv_J} {R' : zv_R} {b : zv_I} {nc nl w c n k : Nat} {kk x : Int32} (h : eS sh I J R sh' I' J' R' b nc nl w c n k kk x) : ∀ t, ¬ eN nl t → t ≠ 40 → t ≠ 108 + 20 * w → t ≠ 100 + 20 * w → I' t = I t := h.2.1
theorem xE_i40 {sh : zv_S} {I : zv_I} {J : zv_J} {R : zv_R} {sh' : zv_S} {I' : zv_I} {J' : zv_J} {R' : zv_R} {b : zv_I} {nc nl w c n k : Nat} {kk x : Int32} (h : eS sh I J R sh' I' J' R' b nc nl w c n k kk x) : ∀ j, j ≠ 7 → j ≠ 8 → I' 40 j = I 40 j := h.2.2.1
theorem xE_i7 {sh : zv_S} {I : zv_I} {J : zv_J} {R : zv_R} {sh' : zv_S} {I' : zv_I} {J' : zv_J} {R' : zv_R} {b : zv_I} {nc nl w c n k : Nat} {kk x : Int32} (h : eS sh I J R sh' I' J' R' b nc nl w c n k kk x) : I' 40 7 = nI (nl + 1) := h.2.2.2.1
theorem xE_i8 {sh : zv_S} {I : zv_I} {J : zv_J} {R : zv_R} {sh' : zv_S} {I' : zv_I} {J' : zv_J} {R' : zv_R} {b : zv_I} {nc nl w c n k : Nat} {kk x : Int32} (h : eS sh I J R sh' I' J' R' b nc nl w c n k kk x) : I' 40 8 = b 3 5 := h.2.2.2.2.1
theorem xE_w {sh : zv_S} {I : zv_I} {J : zv_J} {R : zv_R} {sh' : zv_S} {I' : zv_I} {J' : zv_J} {R' : zv_R} {b : zv_I} {nc nl w c n k : Nat} {kk x : Int32} (h : eS sh I J R sh' I' J' R' b nc nl w c n k kk x) : ∀ c', I' (108 + 20 * w) c' = if c' = c then I (108 + 20 * w) c + nI 1 else I (108 + 20 * w) c' := h.2.2.2.2.2.1
theorem xE_m8 {sh : zv_S} {I : zv_I} {J : zv_J} {R : zv_R} {sh' : zv_S} {I' : zv_I} {J' : zv_J} {R' : zv_R} {b : zv_I} {nc nl w c n k : Nat} {kk x : Int32} (h : eS sh I J R sh' I' J' R' b nc nl w c n k kk x) : I' (100 + 20 * w) 8 = I (100 + 20 * w) 8 := h.2.2.2.2.2.2.1
theorem xE_m9 {sh : zv_S} {I : zv_I} {J : zv_J} {R : zv_R} {sh' : zv_S} {I' : zv_I} {J' : zv_J} {R' : zv_R} {b : zv_I} {nc nl w c n k : Nat} {kk x : Int32} (h : eS sh I J R sh' I' J' R' b nc nl w c n k kk x) : I' (100 + 20 * w) 9 = nI (n + 1) := h.2.2.2.2.2.2.2.1
theorem xE_j {sh : zv_S} {I : zv_I} {J : zv_J} {R : zv_R} {sh' : zv_S} {I' : zv_I} {J' : zv_J} {R' : zv_R} {b : zv_I} {nc nl w c n k : Nat} {kk x : Int32} (h : eS sh I J R sh' I' J' R' b nc nl w c n k kk x) : ∀ t, ¬ eN nl t → t ≠ 115 + 20 * w → J' t = J t := h.2.2.2.2.2.2.2.2.1
theorem xE_jw {sh : zv_S} {I : zv_I} {J : zv_J} {R : zv_R} {sh' : zv_S} {I' : zv_I} {J' : zv_J} {R' : zv_R} {b : zv_I} {nc nl w c n k : Nat} {kk x : Int32} (h : eS sh I J R sh' I' J' R' b nc nl w c n k kk x) : ∀ y, y < 256 → cs_bit (J' (115 + 20 * w)) y = (decide (y = nl) || cs_bit (J (115 + 20 * w)) y) := h.2.2.2.2.2.2.2.2.2.1
theorem xE_jl {sh : zv_S} {I : zv_I} {J : zv_J} {R : zv_R} {sh' : zv_S} {I' : zv_I} {J' : zv_J} {R' : zv_R} {b : zv_I} {nc nl w c n k : Nat} {kk x : Int32} (h : eS sh I J R sh' I' J' R' b nc nl w c n k kk x) : ∀ y, y < 256 → cs_bit (J' (302 + 3 * nl)) y = cs_bit (J (115 + 20 * w)) y := h.2.2.2.2.2.2.2.2.2.2.1
theorem xE_r {sh : zv_S} {I : zv_I} {J : zv_J} {R : zv_R} {sh' : zv_S} {I' : zv_I} {J' : zv_J} {R' : zv_R} {b : zv_I} {nc nl w c n k : Nat} {kk x : Int32} (h : eS sh I J R sh' I' J' R' b nc nl w c n k kk x) : ∀ t, ¬ eN nl t → t ≠ 43 → t ≠ 110 + 20 * w → t ≠ 112 + 20 * w → t ≠ 113 + 20 * w → R' t = R t := h.2.2.2.2.2.2.2.2.2.2.2.1
theorem xE_r43 {sh : zv_S} {I : zv_I} {J : zv_J} {R : zv_R} {sh' : zv_S} {I' : zv_I} {J' : zv_J} {R' : zv_R} {b : zv_I} {nc nl w c n k : Nat} {kk x : Int32} (h : eS sh I J R sh' I' J' R' b nc nl w c n k kk x) : ∀ j, R' 43 j = if j = nl then some (300 + 3 * nl) else R 43 j := h.2.2.2.2.2.2.2.2.2.2.2.2.1
theorem xE_r110 {sh : zv_S} {I : zv_I} {J : zv_J} {R : zv_R} {sh' : zv_S} {I' : zv_I} {J' : zv_J} {R' : zv_R} {b : zv_I} {nc nl w c n k : Nat} {kk x : Int32} (h : eS sh I J R sh' I' J' R' b nc nl w c n k kk x) : ∀ c', c' < 6 → R' (110 + 20 * w) c' = cr_lc R' (b 23 (6 * w + c')) := h.2.2.2.2.2.2.2.2.2.2.2.2.2.1
theorem xE_r112 {sh : zv_S} {I : zv_I} {J : zv_J} {R : zv_R} {sh' : zv_S} {I' : zv_I} {J' : zv_J} {R' : zv_R} {b : zv_I} {nc nl w c n k : Nat} {kk x : Int32} (h : eS sh I J R sh' I' J' R' b nc nl w c n k kk x) : ∀ i, i ≤ n → R' (112 + 20 * w) i = if i = n then some (300 + 3 * nl) else R (112 + 20 * w) i := h.2.2.2.2.2.2.2.2.2.2.2.2.2.2.1
theorem xE_r113 {sh : zv_S} {I : zv_I} {J : zv_J} {R : zv_R} {sh' : zv_S} {I' : zv_I} {J' : zv_J} {R' : zv_R} {b : zv_I} {nc nl w c n k : Nat} {kk x : Int32} (h : eS sh I J R sh' I' J' R' b nc nl w c n k kk x) : ∀ s, s < 40 → R' (113 + 20 * w) s = if cc_slf R w = some s then some (300 + 3 * nl) else R (113 + 20 * w) s := h.2.2.2.2.2.2.2.2.2.2.2.2.2.2.2.1
theorem xE_wl {sh : zv_S} {I : zv_I} {J : zv_J} {R : zv_R} {sh' : zv_S} {I' : zv_I} {J' : zv_J} {R' : zv_R} {b : zv_I} {nc nl w c n k : Nat} {kk x : Int32} (h : eS sh I J R sh' I' J' R' b nc nl w c n k kk x) : cc_WL sh' R' nl := h.2.2.2.2.2.2.2.2.2.2.2.2.2.2.2.2.1
theorem xE_l {sh : zv_S} {I : zv_I} {J : zv_J} {R : zv_R} {sh' : zv_S} {I' : zv_I} {J' : zv_J} {R' : zv_R} {b : zv_I} {nc nl w c n k : Nat} {kk x : Int32} (h : eS sh I J R sh' I' J' R' b nc nl w c n k kk x) : I' (300 + 3 * nl) 0 = nI nl ∧ I' (300 + 3 * nl) 1 = kk ∧ I' (300 + 3 * nl) 2 = nI c ∧ I' (300 + 3 * nl) 3 = nI w ∧ I' (300 + 3 * nl) 4 = I (108 + 20 * w) c + nI 1 ∧ I' (300 + 3 * nl) 5 = x ∧ I' (300 + 3 * nl) 8 = -1 ∧ I' (300 + 3 * nl) 9 = -1 ∧ I' (300 + 3 * nl) 10 = b 17 nl ∧ I' (300 + 3 * nl) 11 = I (50 + c) 0 &&& (nI 1 <<< (nI w &&& 31) ^^^ -1) ∧ I' (300 + 3 * nl) 12 = nI 0 := h.2.2.2.2.2.2.2.2.2.2.2.2.2.2.2.2.2.1
theorem xE_k {sh : zv_S} {I : zv_I} {J : zv_J} {R : zv_R} {sh' : zv_S} {I' : zv_I} {J' : zv_J} {R' : zv_R} {b : zv_I} {nc nl w c n k : Nat} {kk x : Int32} (h : eS sh I J R sh' I' J' R' b nc nl w c n k kk x) : R' (300 + 3 * nl) 6 = some (1000 + 8 * k) ∧ cc_WK sh' R' k := h.2.2.2.2.2.2.2.2.2.2.2.2.2.2.2.2.2.2.1
theorem xE_kr {sh : zv_S} {I : zv_I} {J : zv_J} {R : zv_R} {sh' : zv_S} {I' : zv_I} {J' : zv_J} {R' : zv_R} {b : zv_I} {nc nl w c n k : Nat} {kk x : Int32} (h : eS sh I J R sh' I' J' R' b nc nl w c n k kk x) : ∀ e, e < 6 → (R' (1001 + 8 * k) e).isSome = rm_row b nl e := h.2.2.2.2.2.2.2.2.2.2.2.2.2.2.2.2.2.2.2.1
theorem xE_kv {sh : zv_S} {I : zv_I} {J : zv_J} {R : zv_R} {sh' : zv_S} {I' : zv_I} {J' : zv_J} {R' : zv_R} {b : zv_I} {nc nl w c n k : Nat} {kk x : Int32} (h : eS sh I J R sh' I' J' R' b nc nl w c n k kk x) : ∀ e m, e < 6 → m < 8 → cc_cv I' R' k e m = b 19 (48 * nl + 8 * e + m) := h.2.2.2.2.2.2.2.2.2.2.2.2.2.2.2.2.2.2.2.2.1
theorem xE_kc {sh : zv_S} {I : zv_I} {J : zv_J} {R : zv_R} {sh' : zv_S} {I' : zv_I} {J' : zv_J} {R' : zv_R} {b : zv_I} {nc nl w c n k : Nat} {kk x : Int32} (h : eS sh I J R sh' I' J' R' b nc nl w c n k kk x) : I' (1000 + 8 * k) 1 = nI (rm_cof b nc nl) := h.2.2.2.2.2.2.2.2.2.2.2.2.2.2.2.2.2.2.2.2.2
theorem bq_c2 {a b : zv_I} {w z : Nat} : ∀ X, (∀ x, x < X → rm_kn b w x = rm_kn a w x ∧ (z < x → rm_ib b x z = rm_ib a x z)) → rm_bq b w X z = rm_bq a w X z
  | 0, _ => rfl
  | X + 1, h => by
    show (rm_bq b w X z || (rm_kn b w X && (decide (z = X) || (decide (z < X) && rm_ib b X z)))) = (rm_bq a w X z || (rm_kn a w X && (decide (z = X) || (decide (z < X) && rm_ib a X z))))
    rw [bq_c2 X fun x hx => h x (by omega), (h X (by omega)).1]
    by_cases q : z < X
    · rw [(h X (by omega)).2 q]
    · rw [decide_eq_false q, Bool.false_and, Bool.false_and]
theorem slf_frs {I : zv_I} {J : zv_J} {R : zv_R} {a : zv_I} {nl m : Nat} (M : cr_M I J R a nl m) : cc_slf R m = rm_frs a m := by
  refine cr_fst_c fun s _ hs => ?_
  show (R (113 + 20 * m) s).isNone = decide (a 27 (40 * m + s) = 0)
  rw [xM_t M s (by omega)]
  cases h : rm_th a m s with
  | none => rw [decide_eq_true (cr_th0 h)]; rfl
  | some v =>
    rw [decide_eq_false (cr_thn h)]
    obtain ⟨b, l⟩ := v
    cases b <;> rfl
theorem cr_ckl {sh : zv_S} {I : zv_I} {R : zv_R} {nm nc nl : Nat} (B : cc_B sh I R nm nc nl) (F : cr_F sh nm nc nl) : ∀ x, x < nl → cc_ck R x < nl := fun x hx => by
  obtain ⟨W, n5, b5, n6, b6, n7, b7, LF⟩ := B
  have := F (1000 + 8 * cc_ck R x) (by rw [wWK_s (LF x hx).2.2.2.2.2.2]; rfl)
  omega
theorem ck_of {R : zv_R} {l k : Nat} (h : R (300 + 3 * l) 6 = some (1000 + 8 * k)) : cc_ck R l = k := by
  unfold cc_ck
  rw [h]
  show (1000 + 8 * k - 1000) / 8 = k
  omega
theorem cr_new {sh sh' : zv_S} {I I' : zv_I} {J J' : zv_J} {R R' : zv_R} {a b : zv_I} {nm nc nl q w c n k : Nat} {kk x : Int32} {h : Nat → Nat} (RL : cr_R sh I J R a nm nc nl) (F : cr_F sh nm nc nl) (H : iv a nm nc nl q) (S : nS a b nl w c kk x) (E : eS sh I J R sh' I' J' R' b nc nl w c n k kk x) (hnl : nl < 200) (hw : w < nm) (hc : c < nc) (hin : rm_in a w c = true) (hn : I (100 + 20 * w) 9 = nI n) (hH : cr_H R a nl w n h) : cr_R sh' I' J' R' b nm nc (nl + 1) := by
  have n0 := (xI_n0 H).2
  have n1 := (xI_n1 H).2
  obtain ⟨W, n5, b5, n6, b6, n7, b7, LF⟩ := xR_B RL
  have hck := cr_ckl (xR_B RL) F
  have eN1 : ∀ t, t < 300 → ¬ eN nl t := fun t ht z => by unfold eN at z; omega
  have eN2 : ∀ y t, y < nl → 300 + 3 * y ≤ t → t ≤ 302 + 3 * y → ¬ eN nl t := fun y t hy h1 h2 z => by unfold eN at z; omega
  have eN3 : ∀ y t, y < nl → 1000 + 8 * cc_ck R y ≤ t → t < 1008 + 8 * cc_ck R y → ¬ eN nl t := fun y t hy h1 h2 z => by have := hck y hy; unfold eN at z; omega
  have hRs : ∀ t, ¬ eN nl t → t ≠ 43 → (t < 110 ∨ 273 < t ∨ t % 20 = 1 ∨ t % 20 = 0 ∨ t % 20 = 14) → R' t = R t := fun t h1 h2 h3 => xE_r E t h1 h2 (by omega) (by omega) (by omega)
  have eck : ∀ y, y < nl → cc_ck R' y = cc_ck R y := fun y hy => ck_o (hRs _ (eN2 y _ hy (by omega) (by omega)) (by omega) (by omega))
  have ekn : cc_ck R' nl = k := ck_of (xE_k E).1
  have e6 := xN_o S 6 (by omega)
  have ein : rm_in b = rm_in a := by funext m c; exact rm_in_o e6 m c
  have eel : rm_el b = rm_el a := by funext c; unfold rm_el; rw [ein]
  have est : ∀ m y, m < 8 → y < nl → b 20 (200 * m + y) = a 20 (200 * m + y) := fun m y h1 h2 => by rw [xN_s S m y h1 (by omega), if_neg (by omega)]
  have esn : ∀ m, m < 8 → b 20 (200 * m + nl) = (if m = w then nI 2 else if rm_in a m c = true then nI 1 else nI 0) := fun m h1 => by rw [xN_s S m nl h1 hnl, if_pos rfl]
  have esn3 : ∀ m, m < 8 → ¬ b 20 (200 * m + nl) = nI 3 := fun m h1 => by
    rw [esn m h1]
    split
    · decide
    · split <;> decide
  have esg : ∀ r c', r < 8 → cr_sg b (nl + 1) r c' = cr_sg a nl r c' := fun r c' hr => by
    unfold cr_sg
    rw [cr_cnt_f (p := fun x => decide (b 10 x = nI 2 ∧ b 11 x = nI c' ∧ b 20 (200 * r + x) = nI 3)) (k := nl) (decide_eq_false fun z => esn3 r hr z.2.2)]
    refine cnt_c fun i hi => ?_
    show decide _ = decide _
    rw [xN_l S 10 i (by omega) (by omega) (by omega), xN_l S 11 i (by omega) (by omega) (by omega), est r i hr hi]
  have eib : ∀ y z, y < nl → z < 200 → rm_ib b y z = rm_ib a y z := fun y z hy hz => by unfold rm_ib; rw [xN_b S y z (by omega) hz, if_neg (by omega)]
  have ibn : ∀ y, y < nl → rm_ib b nl y = rm_bq a w nl y := fun y hy => by
    unfold rm_ib
    rw [xN_b S nl y (by omega) (by omega), if_pos ⟨rfl, hy⟩]
    cases rm_bq a w nl y <;> rfl
  have ebq : ∀ m z, m < 8 → rm_bq b m nl z = rm_bq a m nl z := fun m z hm => bq_c2 nl fun y hy => ⟨by unfold rm_kn; rw [xN_l S 12 y (by omega) (by omega) (by omega), est m y hm hy], fun hz => eib y z hy (by omega)⟩
  obtain ⟨l0, l1, l2, l3, l4, l5, l8, l9, l10, l11, l12⟩ := xE_l E
  refine ⟨⟨⟨?_, fun m hm => ?_, fun c' hc' => ?_, fun l hl => ?_⟩, by rw [xE_i40 E 5 (by decide) (by decide)]; exact n5, b5, by rw [xE_i40 E 6 (by decide) (by decide)]; exact n6, b6, xE_i7 E, by omega, fun l hl => ?_⟩, ?_, fun c' hc' => ?_, fun l hl => ?_, fun m hm => ?_⟩
  · -- W0
    have w := W.1
    have s := fun t ht => xE_s E t (eN1 t ht)
    unfold cc_W0 at w ⊢
    rw [s 40 (by omega), s 41 (by omega), s 42 (by omega), s 43 (by omega), s 44 (by omega), s 45 (by omega), s 46 (by omega), hRs 40 (eN1 _ (by omega)) (by omega) (by omega), hRs 45 (eN1 _ (by omega)) (by omega) (by omega)]
    exact w
  · have w := W.2.1 m hm
    have s := fun t ht => xE_s E t (eN1 t ht)
    rw [hRs 41 (eN1 _ (by omega)) (by omega) (by omega)]
    refine ⟨w.1, ?_⟩
    have w := w.2
    unfold cc_WM at w ⊢
    rw [s (100 + 20 * m) (by omega), s (101 + 20 * m) (by omega), s (108 + 20 * m) (by omega), s (109 + 20 * m) (by omega), s (110 + 20 * m) (by omega), s (111 + 20 * m) (by omega), s (112 + 20 * m) (by omega), s (113 + 20 * m) (by omega), s (114 + 20 * m) (by omega), s (115 + 20 * m) (by omega), hRs (100 + 20 * m) (eN1 _ (by omega)) (by omega) (by omega), hRs (101 + 20 * m) (eN1 _ (by omega)) (by omega) (by omega), hRs (114 + 20 * m) (eN1 _ (by omega)) (by omega) (by omega)]
    obtain ⟨w1, w2, w3, w4, w5, w6, w7, w8, w9, w10, w11, w12, w13, w14, w15, w16, w17, w18, w19, w20⟩ := w
    exact ⟨w1, w2, w3, w4, w5, w6, w7, w8, w9, w10, w11, w12, w13, w14, w15, w16, w17, w18, w19, fun e he => by rw [s (102 + 20 * m + e) (by omega)]; exact w20 e he⟩
  · rw [hRs 42 (eN1 _ (by omega)) (by omega) (by omega), xE_s E (50 + c') (eN1 _ (by omega))]
    exact W.2.2.1 c' hc'
  · rw [xE_r43 E]
    by_cases z : l = nl
    · rw [if_pos z, z]
      exact ⟨rfl, xE_wl E⟩
    · have w := W.2.2.2 l (by omega)
      rw [if_neg z]
      refine ⟨w.1, ?_⟩
      have w := w.2
      have s := fun t h1 h2 => xE_s E t (eN2 l t (by omega) h1 h2)
      unfold cc_WL at w ⊢
      rw [s (300 + 3 * l) (by omega) (by omega), s (301 + 3 * l) (by omega) (by omega), s (302 + 3 * l) (by omega) (by omega), hRs (300 + 3 * l) (eN2 l _ (by omega) (by omega) (by omega)) (by omega) (by omega), hRs (301 + 3 * l) (eN2 l _ (by omega) (by omega) (by omega)) (by omega) (by omega)]
      exact w
  · -- the letters' facts
    by_cases z : l = nl
    · subst z
      have e1 : cc_ci I' l = c := by unfold cc_ci; rw [l2]; exact rm_nv_n (by omega)
      have e2 : cc_wi I' l = w := by unfold cc_wi; rw [l3]; exact rm_nv_n (by omega)
      rw [e1, e2, ekn]
      exact ⟨l0, l2, hc, l3, hw, (xE_k E).1, (xE_k E).2⟩
    · have hl : l < nl := by omega
      obtain ⟨f1, f2, f3, f4, f5, f6, f7⟩ := LF l hl
      have eI : I' (300 + 3 * l) = I (300 + 3 * l) := xE_i E _ (eN2 l _ hl (by omega) (by omega)) (by omega) (by omega) (by omega)
      have e1 : cc_ci I' l = cc_ci I l := by unfold cc_ci; rw [eI]
      have e2 : cc_wi I' l = cc_wi I l := by unfold cc_wi; rw [eI]
      rw [e1, e2, eck l hl, eI, hRs (300 + 3 * l) (eN2 l _ hl (by omega) (by omega)) (by omega) (by omega)]
      refine ⟨f1, f2, f3, f4, f5, f6, ?_⟩
      have s := fun t h1 h2 => xE_s E t (eN3 l t hl h1 h2)
      have r := fun t h1 h2 => hRs t (eN3 l t hl h1 h2) (by omega) (by omega)
      unfold cc_WK at f7 ⊢
      rw [s _ (by omega) (by omega), s (1001 + 8 * cc_ck R l) (by omega) (by omega), r _ (by omega) (by omega), r (1001 + 8 * cc_ck R l) (by omega) (by omega)]
      obtain ⟨k1, k2, k3, k4⟩ := f7
      exact ⟨k1, k2, k3, fun e he => by rw [s (1002 + 8 * cc_ck R l + e) (by omega) (by omega)]; exact k4 e he⟩
  · -- T
    have T := xR_T RL
    refine ⟨xE_i8 E, by rw [xE_i40 E 9 (by decide) (by decide), xN_f S 24 (by decide) (by decide)]; exact xT_st T, by rw [xE_i E 45 (eN1 _ (by omega)) (by omega) (by omega) (by omega), xN_f S 26 (by decide) (by decide)]; exact xT_nt T, fun i hi => by rw [xE_i E 46 (eN1 _ (by omega)) (by omega) (by omega) (by omega), xN_o S 29 (by omega)]; exact xT_tr T i hi⟩
  · have C := xR_C RL c' hc'
    have eI : I' (50 + c') = I (50 + c') := xE_i E _ (eN1 _ (by omega)) (by omega) (by omega) (by omega)
    exact ⟨by rw [eI, e6]; exact xC_b C, by rw [eI, eel]; exact xC_e C, by rw [eI, xN_o S 7 (by omega)]; exact xC_p C⟩
  · -- L
    by_cases z : l = nl
    · subst z
      have hx6 : I (50 + c) 0 = a 6 c := xC_b (xR_C RL c hc)
      refine ⟨by rw [l1, xN_k S], by rw [l2, xN_c S], by rw [l3, xN_w S], ?_, by rw [l5, xN_x S], by rw [l8, xN_p S], by rw [l9, xN_q S], l10, ?_, fun m hm => ?_, ?_, fun m hm => ?_, by rw [ekn]; exact xE_kr E, by rw [ekn]; exact xE_kv E, by rw [ekn]; exact xE_kc E, fun y hy => ?_⟩
      · rw [l4, xN_v S, xM_w (xR_M RL w hw) c (by omega), (xI_ww H w c (by omega) (by omega)).1, nI_add]
      · rw [l11, hx6]; exact by_and (xI_cy H c hc) (by omega)
      · rw [l11, hx6, cb_and _ _ hm, cb_msk (by omega) hm, esn m hm]
        show (rm_in a m c && _) = _
        by_cases v : m = w
        · rw [if_pos v, decide_eq_false (fun u => u v), Bool.and_false]; rfl
        · rw [if_neg v, decide_eq_true v, Bool.and_true]
          cases hi : rm_in a m c <;> rfl
      · rw [l12]; exact ⟨0, by decide, rfl⟩
      · rw [l12, decide_eq_false (esn3 m hm)]
        exact (cr_tb (i := 0) (by decide) hm).trans (Nat.zero_testBit m)
      · rw [xE_jl E y hy, xM_k (xR_M RL w hw) y hy]
        by_cases v : y < l
        · rw [decide_eq_true v, ibn y v]; rfl
        · rw [decide_eq_false v, Bool.false_and]
          cases hb : rm_bq a w l y with
          | false => rfl
          | true => exact absurd (bq_lt hb) v
    · have hl : l < nl := by omega
      refine cr_L_o (xR_L RL l hl) (xE_i E _ (eN2 l _ hl (by omega) (by omega)) (by omega) (by omega) (by omega)) (fun t h1 h2 => xE_i E t (eN3 l t hl h1 h2) (by omega) (by omega) (by omega)) (xE_j E _ (eN2 l _ hl (by omega) (by omega)) (by omega)) (hRs _ (eN2 l _ hl (by omega) (by omega)) (by omega) (by omega)) (hRs _ (eN3 l _ hl (by omega) (by omega)) (by omega) (by omega)) (fun t h1 h2 => xN_l S t l h1 h2 z) (fun j hj => xN_t S l j z (by omega) hj) (fun m hm => est m l hm hl) (fun y hy => ?_) ?_
      · rw [xN_b S l y (by omega) (by omega), if_neg (by omega)]
      · unfold rm_cof
        refine cnt_c fun i hi => ?_
        unfold rm_cop rm_row
        rw [ein, xN_l S 18 l (by omega) (by omega) z]
  · -- M
    have M := xR_M RL m hm
    by_cases z : m = w
    · subst z
      have eI : ∀ t, 100 + 20 * m < t → t < 116 + 20 * m → t ≠ 108 + 20 * m → I' t = I t := fun t h1 h2 h3 => xE_i E t (eN1 t (by omega)) (by omega) h3 (by omega)
      refine ⟨fun c' w' hc' hw' => ?_, fun c' hc' => ?_, fun c' hc' => ?_, fun i hi => ?_, ?_, ?_, fun c' hc' => ?_, fun s hs => ?_, fun y hy => ?_⟩
      · rw [eI _ (by omega) (by omega) (by omega), xN_o S 21 (by omega)]; exact xM_g M c' w' hc' hw'
      · rw [xE_w E, xN_n S m c' (by omega) hc']
        by_cases v : c' = c
        · rw [if_pos v, if_pos ⟨rfl, v⟩, xM_w M c (by omega), (xI_ww H m c (by omega) (by omega)).1, nI_add]
        · rw [if_neg v, if_neg (fun u => v u.2)]; exact xM_w M c' hc'
      · rw [eI _ (by omega) (by omega) (by omega), esg m c' (by omega)]; exact xM_s M c' hc'
      · rw [eI _ (by omega) (by omega) (by omega), xN_o S 24 (by omega)]; exact xM_r M i hi
      · rw [xE_m8 E, xN_o S 25 (by omega)]; exact xM_n M
      · refine ⟨n + 1, fun i => if i < n then h i else nl, xE_m9 E, fun i hi => ?_, fun i j g1 g2 => ?_, fun y hy hy2 => ?_⟩
        · rw [xE_r112 E i (by omega)]
          by_cases v : i = n
          · have e9 : (fun i => if i < n then h i else nl) i = nl := if_neg (by omega)
            rw [if_pos v, e9]
            exact ⟨rfl, by omega, by rw [esn m (by omega), if_pos rfl]⟩
          · have e9 : (fun i => if i < n then h i else nl) i = h i := if_pos (by omega)
            rw [if_neg v, e9]
            obtain ⟨g1, g2, g3⟩ := hH.1 i (by omega)
            exact ⟨g1, by omega, by rw [est m _ (by omega) g2]; exact g3⟩
        · show (if i < n then h i else nl) < (if j < n then h j else nl)
          rw [if_pos (by omega)]
          split
          · exact hH.2.1 i j g1 (by omega)
          · exact (hH.1 i (by omega)).2.1
        · by_cases v : y = nl
          · exact ⟨n, by omega, by show (if n < n then h n else nl) = y; rw [if_neg (by omega), v]⟩
          · rw [est m y (by omega) (by omega)] at hy2
            obtain ⟨i, g1, g2⟩ := hH.2.2 y (by omega) hy2
            exact ⟨i, by omega, by show (if i < n then h i else nl) = y; rw [if_pos g1]; exact g2⟩
      · exact xE_r110 E c' hc'
      · have hsl := xI_sl H m s (by omega) hs
        rw [xE_r113 E s hs, slf_frs M]
        by_cases v : rm_frs a m = some s
        · have e2 : rm_th b m s = some (true, nl) := by
            unfold rm_th
            rw [xN_h S m s (by omega) hs, if_pos ⟨rfl, v⟩]
            exact rm_thw_l hnl
          rw [if_pos v, e2]
          rfl
        · have e2 : rm_th b m s = rm_th a m s := by
            unfold rm_th
            rw [xN_h S m s (by omega) hs, if_neg (fun u => v u.2)]
          rw [if_neg v, e2, tg_o eck hsl b7]
          exact xM_t M s hs
      · rw [xE_jw E y hy, xM_k M y hy]
        show _ = (rm_bq b m nl y || (rm_kn b m nl && (decide (y = nl) || (decide (y < nl) && rm_ib b nl y))))
        have hkn : rm_kn b m nl = true := decide_eq_true (Or.inl (xN_w S))
        rw [hkn, ebq m y (by omega), Bool.true_and]
        by_cases v : y < nl
        · rw [ibn y v, decide_eq_true v, decide_eq_false (show ¬ y = nl by omega)]
          cases rm_bq a m nl y <;> rfl
        · rw [decide_eq_false v, Bool.false_and, Bool.or_false, Bool.or_comm]
    · refine cr_M_o M (fun t h1 h2 => xE_i E t (eN1 t (by omega)) (by omega) (by omega) (by omega)) (xE_j E _ (eN1 _ (by omega)) (by omega)) (xE_r E _ (eN1 _ (by omega)) (by omega) (by omega) (by omega) (by omega)) (xE_r E _ (eN1 _ (by omega)) (by omega) (by omega) (by omega) (by omega)) (fun c' hc' => lc_o eck (xI_la H m c' (by omega) hc') b7) (fun s hs => tg_o eck (xI_sl H m s (by omega) hs) b7) (fun j _ => congrFun (xN_o S 21 (by omega)) _) (fun c' hc' => ?_) (fun i _ => congrFun (xN_o S 24 (by omega)) _) (congrFun (xN_o S 25 (by omega)) _) (fun c' hc' => ?_) (fun s hs => ?_) (fun c' _ => esg m c' (by omega)) (fun n' h' g => ?_) (fun y hy => ?_)
      · rw [xN_n S m c' (by omega) hc', if_neg (fun u => z u.1)]
      · exact (xN_la S m c' (by omega) hc').resolve_right (fun u => z u.1)
      · rw [xN_h S m s (by omega) hs, if_neg (fun u => z u.1)]
      · refine ⟨fun i hi => ?_, g.2.1, fun y hy hy2 => ?_⟩
        · obtain ⟨g1, g2, g3⟩ := g.1 i hi
          exact ⟨by rw [xE_r E _ (eN1 _ (by omega)) (by omega) (by omega) (by omega) (by omega)]; exact g1, by omega, by rw [est m _ (by omega) g2]; exact g3⟩
        · by_cases v : y = nl
          · rw [v, esn m (by omega), if_neg z] at hy2
            split at hy2 <;> exact absurd hy2 (by decide)
          · rw [est m y (by omega) (by omega)] at hy2
            exact g.2.2 y (by omega) hy2
      · show (rm_bq b m nl y || (rm_kn b m nl && (decide (y = nl) || (decide (y < nl) && rm_ib b nl y)))) = _
        have hkn : rm_kn b m nl = false := decide_eq_false fun u => u.elim (fun v => z (nI_ij (v.symm.trans (xN_w S)) (by omega) (by omega))) (esn3 m (by omega))
        rw [hkn, ebq m y (by omega), Bool.false_and, Bool.or_false]
