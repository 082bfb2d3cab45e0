def nS (a b : zv_I) (nl w c : Nat) (kk x : Int32) : Prop :=
  (∀ j, j ≠ 4 → j ≠ 5 → b 3 j = a 3 j) ∧
  (b 3 4 = nI (nl + 1)) ∧
  (∀ t, t = 6 ∨ t = 7 ∨ t = 21 ∨ t = 24 ∨ t = 25 ∨ t = 29 → b t = a t) ∧
  (∀ t j, 10 ≤ t → t ≤ 18 → j ≠ nl → b t j = a t j) ∧
  (b 10 nl = kk) ∧
  (b 11 nl = nI c) ∧
  (b 12 nl = nI w) ∧
  (b 13 nl = nI (iv_w a w c + 1)) ∧
  (b 14 nl = x) ∧
  (b 15 nl = -1) ∧
  (b 16 nl = -1) ∧
  (∀ l j, l ≠ nl → l < 200 → j < 48 → b 19 (48 * l + j) = a 19 (48 * l + j)) ∧
  (∀ m y, m < 8 → y < 200 → b 20 (200 * m + y) = if y = nl then (if m = w then nI 2 else if rm_in a m c = true then nI 1 else nI 0) else a 20 (200 * m + y)) ∧
  (∀ w' c', w' < 8 → c' < 6 → b 22 (6 * w' + c') = if w' = w ∧ c' = c then nI (iv_w a w c + 1) else a 22 (6 * w' + c')) ∧
  (∀ w' c', w' < 8 → c' < 6 → b 23 (6 * w' + c') = a 23 (6 * w' + c') ∨ (w' = w ∧ b 23 (6 * w' + c') = nI nl)) ∧
  (∀ y z, y < 200 → z < 200 → b 26 (200 * y + z) = if y = nl ∧ z < nl then rm_b (rm_bq a w nl z) else a 26 (200 * y + z)) ∧
  (∀ m s, m < 8 → s < 40 → b 27 (40 * m + s) = if m = w ∧ rm_frs a w = some s then nI (nl + 1) else a 27 (40 * m + s))
theorem xN_f {a b : zv_I} {nl w c : Nat} {kk x : Int32} (h : nS a b nl w c kk x) : ∀ j, j ≠ 4 → j ≠ 5 → b 3 j = a 3 j := h.1
theorem xN_f4 {a b : zv_I} {nl w c : Nat} {kk x : Int32} (h : nS a b nl w c kk x) : b 3 4 = nI (nl + 1) := h.2.1
theorem xN_o {a b : zv_I} {nl w c : Nat} {kk x : Int32} (h : nS a b nl w c kk x) : ∀ t, t = 6 ∨ t = 7 ∨ t = 21 ∨ t = 24 ∨ t = 25 ∨ t = 29 → b t = a t := h.2.2.1
theorem xN_l {a b : zv_I} {nl w c : Nat} {kk x : Int32} (h : nS a b nl w c kk x) : ∀ t j, 10 ≤ t → t ≤ 18 → j ≠ nl → b t j = a t j := h.2.2.2.1
theorem xN_k {a b : zv_I} {nl w c : Nat} {kk x : Int32} (h : nS a b nl w c kk x) : b 10 nl = kk := h.2.2.2.2.1
theorem xN_c {a b : zv_I} {nl w c : Nat} {kk x : Int32} (h : nS a b nl w c kk x) : b 11 nl = nI c := h.2.2.2.2.2.1
theorem xN_w {a b : zv_I} {nl w c : Nat} {kk x : Int32} (h : nS a b nl w c kk x) : b 12 nl = nI w := h.2.2.2.2.2.2.1
theorem xN_v {a b : zv_I} {nl w c : Nat} {kk x : Int32} (h : nS a b nl w c kk x) : b 13 nl = nI (iv_w a w c + 1) := h.2.2.2.2.2.2.2.1
theorem xN_x {a b : zv_I} {nl w c : Nat} {kk x : Int32} (h : nS a b nl w c kk x) : b 14 nl = x := h.2.2.2.2.2.2.2.2.1
theorem xN_p {a b : zv_I} {nl w c : Nat} {kk x : Int32} (h : nS a b nl w c kk x) : b 15 nl = -1 := h.2.2.2.2.2.2.2.2.2.1
theorem xN_q {a b : zv_I} {nl w c : Nat} {kk x : Int32} (h : nS a b nl w c kk x) : b 16 nl = -1 := h.2.2.2.2.2.2.2.2.2.2.1
theorem xN_t {a b : zv_I} {nl w c : Nat} {kk x : Int32} (h : nS a b nl w c kk x) : ∀ l j, l ≠ nl → l < 200 → j < 48 → b 19 (48 * l + j) = a 19 (48 * l + j) := h.2.2.2.2.2.2.2.2.2.2.2.1
theorem xN_s {a b : zv_I} {nl w c : Nat} {kk x : Int32} (h : nS a b nl w c kk x) : ∀ m y, m < 8 → y < 200 → b 20 (200 * m + y) = if y = nl then (if m = w then nI 2 else if rm_in a m c = true then nI 1 else nI 0) else a 20 (200 * m + y) := h.2.2.2.2.2.2.2.2.2.2.2.2.1
theorem xN_n {a b : zv_I} {nl w c : Nat} {kk x : Int32} (h : nS a b nl w c kk x) : ∀ w' c', w' < 8 → c' < 6 → b 22 (6 * w' + c') = if w' = w ∧ c' = c then nI (iv_w a w c + 1) else a 22 (6 * w' + c') := h.2.2.2.2.2.2.2.2.2.2.2.2.2.1
theorem xN_la {a b : zv_I} {nl w c : Nat} {kk x : Int32} (h : nS a b nl w c kk x) : ∀ w' c', w' < 8 → c' < 6 → b 23 (6 * w' + c') = a 23 (6 * w' + c') ∨ (w' = w ∧ b 23 (6 * w' + c') = nI nl) := h.2.2.2.2.2.2.2.2.2.2.2.2.2.2.1
theorem xN_b {a b : zv_I} {nl w c : Nat} {kk x : Int32} (h : nS a b nl w c kk x) : ∀ y z, y < 200 → z < 200 → b 26 (200 * y + z) = if y = nl ∧ z < nl then rm_b (rm_bq a w nl z) else a 26 (200 * y + z) := h.2.2.2.2.2.2.2.2.2.2.2.2.2.2.2.1
theorem xN_h {a b : zv_I} {nl w c : Nat} {kk x : Int32} (h : nS a b nl w c kk x) : ∀ m s, m < 8 → s < 40 → b 27 (40 * m + s) = if m = w ∧ rm_frs a w = some s then nI (nl + 1) else a 27 (40 * m + s) := h.2.2.2.2.2.2.2.2.2.2.2.2.2.2.2.2
/-- the rows of a new letter -/
def nR (a b : zv_I) (nc nl w c : Nat) : Prop := rm_row b nl c = true ∧ (∀ e, e < 6 → rm_row b nl e = true → e < nc) ∧ (∀ e m, e < 6 → m < 8 → b 19 (48 * nl + 8 * e + m) = nI (iv_c b nl e m) ∧ iv_c b nl e m ≤ 200) ∧ (∀ e m, e < nc → m < 8 → rm_row b nl e = true → rm_in a w e = true → ¬ (e = c ∧ m = w) → iv_c b nl e m ≤ iv_g a w e m) ∧ iv_c b nl c w ≤ iv_w a w c ∧ (∀ e m, e < nc → m < 8 → rm_in a m e = false → iv_c b nl e m = 0) ∧ (∀ e m, e < 6 → m < 8 → rm_row b nl e = false → iv_c b nl e m = 0)
theorem bq_iff {a : zv_I} {w z : Nat} : ∀ X, rm_bq a w X z = true ↔ ∃ x, x < X ∧ rm_kn a w x = true ∧ (z = x ∨ (z < x ∧ rm_ib a x z = true))
  | 0 => ⟨fun h => (by cases h), fun ⟨x, h, _⟩ => absurd h (by omega)⟩
  | X + 1 => by
    show (rm_bq a w X z || (rm_kn a w X && (decide (z = X) || (decide (z < X) && rm_ib a X z)))) = true ↔ _
    rw [Bool.or_eq_true, bq_iff X, Bool.and_eq_true, Bool.or_eq_true, Bool.and_eq_true, decide_eq_true_eq, decide_eq_true_eq]
    constructor
    · rintro (⟨x, h1, h2⟩ | ⟨h1, h2⟩)
      · exact ⟨x, by omega, h2⟩
      · exact ⟨X, by omega, h1, h2⟩
    · rintro ⟨x, h1, h2, h3⟩
      by_cases e : x = X
      · rw [e] at h2 h3; exact Or.inr ⟨h2, h3⟩
      · exact Or.inl ⟨x, by omega, h2, h3⟩
theorem bq_lt {a : zv_I} {w z X : Nat} (h : rm_bq a w X z = true) : z < X := by
  obtain ⟨x, h1, _, h3⟩ := (bq_iff X).mp h
  omega
theorem rm_b_ne (v : Bool) : (¬ rm_b v = 0) ↔ v = true := by cases v <;> decide
theorem iv_new {a b : zv_I} {nm nc nl q w c k : Nat} {kk x : Int32} (H : iv a nm nc nl q) (S : nS a b nl w c kk x) (hR : nR a b nc nl w c) (hnl : nl < 200) (hw : w < nm) (hc : c < nc) (hin : rm_in a w c = true) (hk : kk = nI k) (hk6 : k < 6) (h5 : (q = 0 ∧ ¬ kk = nI 3 ∧ b 3 5 = nI (rm_NA a + 1) ∧ rm_NA a < 100) ∨ (q = 1 ∧ kk = nI 3 ∧ b 3 5 = a 3 5)) : iv b nm nc (nl + 1) 0 := by
  have n0 := (xI_n0 H).2
  have n1 := (xI_n1 H).2
  have e6 : b 6 = a 6 := xN_o S 6 (by omega)
  have e7 : b 7 = a 7 := xN_o S 7 (by omega)
  have e21 : b 21 = a 21 := xN_o S 21 (by omega)
  have e24 : b 24 = a 24 := xN_o S 24 (by omega)
  have e25 : b 25 = a 25 := xN_o S 25 (by omega)
  have ein : rm_in b = rm_in a := by funext m c; unfold rm_in; rw [e6]
  have eel : rm_el b = rm_el a := by funext c; unfold rm_el; rw [ein]
  have eg : iv_g b = iv_g a := by funext x y z; unfold iv_g; rw [e21]
  have cin : rm_ci b nl = c := by unfold rm_ci; rw [xN_c S]; exact rm_nv_n (by omega)
  have win : rm_wr b nl = w := by unfold rm_wr; rw [xN_w S]; exact rm_nv_n (by omega)
  have ww0 := (xI_ww H w c (by omega) (by omega)).2
  have sin : iv_s b nl = iv_w a w c + 1 := by unfold iv_s; rw [xN_v S]; exact rm_nv_n (by omega)
  have e10 : ∀ l, l < nl → b 10 l = a 10 l := fun l hl => xN_l S 10 l (by omega) (by omega) (by omega)
  have e11 : ∀ l, l < nl → b 11 l = a 11 l := fun l hl => xN_l S 11 l (by omega) (by omega) (by omega)
  have e12 : ∀ l, l < nl → b 12 l = a 12 l := fun l hl => xN_l S 12 l (by omega) (by omega) (by omega)
  have e13 : ∀ l, l < nl → b 13 l = a 13 l := fun l hl => xN_l S 13 l (by omega) (by omega) (by omega)
  have e15 : ∀ l, l < nl → b 15 l = a 15 l := fun l hl => xN_l S 15 l (by omega) (by omega) (by omega)
  have e16 : ∀ l, l < nl → b 16 l = a 16 l := fun l hl => xN_l S 16 l (by omega) (by omega) (by omega)
  have e18 : ∀ l, l < nl → b 18 l = a 18 l := fun l hl => xN_l S 18 l (by omega) (by omega) (by omega)
  have eci : ∀ l, l < nl → rm_ci b l = rm_ci a l := fun l hl => by unfold rm_ci; rw [e11 l hl]
  have ewr : ∀ l, l < nl → rm_wr b l = rm_wr a l := fun l hl => by unfold rm_wr; rw [e12 l hl]
  have es : ∀ l, l < nl → iv_s b l = iv_s a l := fun l hl => by unfold iv_s; rw [e13 l hl]
  have erw : ∀ l d, l < nl → rm_row b l d = rm_row a l d := fun l d hl => by unfold rm_row; rw [e18 l hl]
  have ec : ∀ l e m, l < nl → e < 6 → m < 8 → iv_c b l e m = iv_c a l e m ∧ b 19 (48 * l + 8 * e + m) = a 19 (48 * l + 8 * e + m) := fun l e m h1 h2 h3 => by
    have h4 : b 19 (48 * l + 8 * e + m) = a 19 (48 * l + 8 * e + m) := by
      have := xN_t S l (8 * e + m) (by omega) (by omega) (by omega)
      rw [← Nat.add_assoc] at this
      exact this
    exact ⟨by unfold iv_c; rw [h4], h4⟩
  have eib : ∀ x y, x < nl → y < 200 → rm_ib b x y = rm_ib a x y := fun x y hx hy => by unfold rm_ib; rw [xN_b S x y (by omega) hy, if_neg (by omega)]
  have ibn : ∀ y, y < nl → rm_ib b nl y = rm_bq a w nl y := fun y hy => by
    unfold rm_ib
    rw [xN_b S nl y (by omega) (by omega), if_pos ⟨rfl, hy⟩]
    cases rm_bq a w nl y <;> rfl
  have ew : ∀ w' c', w' < 8 → c' < 6 → iv_w b w' c' = (if w' = w ∧ c' = c then iv_w a w c + 1 else iv_w a w' c') := fun w' c' h1 h2 => by
    unfold iv_w
    rw [xN_n S w' c' h1 h2]
    split
    · exact rm_nv_n (by unfold iv_w at ww0 ⊢; omega)
    · rfl
  have ewl : ∀ w' c', w' < 8 → c' < 6 → iv_w a w' c' ≤ iv_w b w' c' := fun w' c' h1 h2 => by
    rw [ew w' c' h1 h2]
    split
    · rename_i z; rw [z.1, z.2]; omega
    · exact Nat.le_refl _
  have est : ∀ m l, m < 8 → l < nl → b 20 (200 * m + l) = a 20 (200 * m + l) := fun m l h1 h2 => by rw [xN_s S m l h1 (by omega), if_neg (by omega)]
  have esn : ∀ m, m < 8 → b 20 (200 * m + nl) = (if m = w then nI 2 else if rm_in a m c = true then nI 1 else nI 0) := fun m h1 => by rw [xN_s S m nl h1 (by omega), if_pos rfl]
  have esn3 : ∀ m, m < 8 → ¬ b 20 (200 * m + nl) = nI 3 := fun m h1 => by
    rw [esn m h1]
    split
    · decide
    · split <;> decide
  have end_ : ∀ c', iv_nd b (nl + 1) c' = iv_nd a nl c' := fun c' => by
    unfold iv_nd
    rw [cr_cnt_f (p := fun x => decide (b 10 x = nI 2 ∧ b 11 x = nI c' ∧ ¬ b 15 x = -1)) (k := nl) (decide_eq_false fun z => z.2.2 (xN_p S))]
    refine cnt_c fun i hi => ?_
    show decide _ = decide _
    rw [e10 i hi, e11 i hi, e15 i hi]
  have esg : ∀ r c', r < 8 → cr_sg b (nl + 1) r c' = cr_sg a nl r c' := fun r c' hr => by
    unfold cr_sg
    rw [cr_cnt_f (p := fun x => decide (b 10 x = nI 2 ∧ b 11 x = nI c' ∧ b 20 (200 * r + x) = nI 3)) (k := nl) (decide_eq_false fun z => esn3 r hr z.2.2)]
    refine cnt_c fun i hi => ?_
    show decide _ = decide _
    rw [e10 i hi, e11 i hi, est r i hr hi]
  have hlt : ∀ l, l < nl + 1 → l < nl ∨ l = nl := fun l h => by omega
  have hk2 : ∀ j, j < 6 → kk = nI j → k = j := fun j h1 h2 => nI_ij (hk.symm.trans h2) (by omega) (by omega)
  refine ⟨by rw [xN_f S 0 (by decide) (by decide)]; exact xI_n0 H, by rw [xN_f S 1 (by decide) (by decide)]; exact xI_n1 H, ⟨xN_f4 S, by omega⟩, ?_, ?_, by rw [e6]; exact xI_cy H, by rw [ein]; exact xI_ci H, ?_, ?_, ?_, ?_, ?_, ?_, ?_, ?_, ?_, ?_, ?_, ?_, ?_, ?_, ?_, ?_, ?_, ?_, ?_, ?_, ?_, ?_, ?_, ?_, ?_, ?_, ?_, ?_, ?_, ?_, ?_, ?_, ?_, ?_, ?_, ?_, ?_, ?_, ?_⟩
  · -- n5
    have h0 := xI_n5 H
    rcases h5 with ⟨_, _, h1, h2⟩ | ⟨_, _, h1⟩
    · have : rm_NA b = rm_NA a + 1 := by unfold rm_NA at h1 h2 ⊢; rw [h1]; exact rm_nv_n (by omega)
      rw [this]
      exact ⟨h1, by omega⟩
    · have : rm_NA b = rm_NA a := by unfold rm_NA; rw [h1]
      rw [this, h1]
      exact h0
  · -- nt
    have : rm_NT b = rm_NT a := by unfold rm_NT; rw [xN_f S 26 (by decide) (by decide)]
    rw [this, xN_f S 26 (by decide) (by decide)]
    exact xI_nt H
  · intro c' h1
    have := xI_ce H c' h1
    unfold rm_es at this ⊢
    rw [ein, eel]
    exact this
  · intro c' h1
    rw [e7, end_]
    exact xI_cn H c' h1
  · -- lk
    intro l hl
    rcases hlt l hl with h | h
    · rw [e10 l h]; exact xI_lk H l h
    · rw [h, xN_k S, hk, rm_nv_n (by omega)]; exact ⟨rfl, hk6⟩
  · intro l hl
    rcases hlt l hl with h | h
    · rw [e11 l h, eci l h]; exact xI_lc H l h
    · rw [h, cin, xN_c S]; exact ⟨rfl, hc⟩
  · intro l hl
    rcases hlt l hl with h | h
    · rw [e12 l h, ewr l h]; exact xI_lw H l h
    · rw [h, win, xN_w S]; exact ⟨rfl, hw⟩
  · intro l hl
    rw [ein]
    rcases hlt l hl with h | h
    · rw [eci l h, ewr l h]; exact xI_li H l h
    · rw [h, cin, win]; exact hin
  · -- ls
    intro l hl
    rcases hlt l hl with h | h
    · have h1 := xI_ls H l h
      have h2 := (xI_lw H l h).2
      have h3 := (xI_lc H l h).2
      rw [e13 l h, es l h, eci l h, ewr l h]
      exact ⟨h1.1, h1.2.1, Nat.le_trans h1.2.2 (ewl _ _ (by omega) (by omega))⟩
    · rw [h, sin, cin, win, ew w c (by omega) (by omega), if_pos ⟨rfl, rfl⟩, xN_v S]
      exact ⟨rfl, by omega, Nat.le_refl _⟩
  · -- lu
    intro l y hl hy g1 g2 g3
    rcases hlt l hl with h | h <;> rcases hlt y hy with z | z
    · rw [eci l h, eci y z] at g1
      rw [ewr l h, ewr y z] at g2
      rw [es l h, es y z] at g3
      exact xI_lu H l y h z g1 g2 g3
    · rw [z, eci l h, cin] at g1
      rw [z, ewr l h, win] at g2
      rw [z, es l h, sin] at g3
      have := (xI_ls H l h).2.2
      rw [g1, g2] at this
      omega
    · rw [h, eci y z, cin] at g1
      rw [h, ewr y z, win] at g2
      rw [h, es y z, sin] at g3
      have := (xI_ls H y z).2.2
      rw [← g1, ← g2] at this
      omega
    · omega
  · -- lx
    intro w' c' s g1 g2 g3 g4
    rw [ew w' c' g1 g2] at g4
    by_cases z : w' = w ∧ c' = c
    · rw [if_pos z] at g4
      by_cases y : s = iv_w a w c + 1
      · exact ⟨nl, by omega, by rw [win, z.1], by rw [cin, z.2], by rw [sin, y]⟩
      · obtain ⟨l, h1, h2, h3, h4⟩ := xI_lx H w' c' s g1 g2 g3 (by rw [z.1, z.2]; omega)
        exact ⟨l, by omega, by rw [ewr l h1]; exact h2, by rw [eci l h1]; exact h3, by rw [es l h1]; exact h4⟩
    · rw [if_neg z] at g4
      obtain ⟨l, h1, h2, h3, h4⟩ := xI_lx H w' c' s g1 g2 g3 g4
      exact ⟨l, by omega, by rw [ewr l h1]; exact h2, by rw [eci l h1]; exact h3, by rw [es l h1]; exact h4⟩
  · -- ww
    intro w' c' g1 g2
    rw [xN_n S w' c' g1 g2, ew w' c' g1 g2]
    have := xI_ww H w' c' g1 g2
    split
    · exact ⟨rfl, by omega⟩
    · exact ⟨this.1, by omega⟩
  · -- st
    intro m l h1 h2
    unfold cr_st
    rw [ein]
    rcases hlt l h2 with h | h
    · rw [eci l h, est m l h1 h]
      exact xI_st H m l h1 h
    · rw [h, cin, esn m h1]
      by_cases z : m = w
      · rw [if_pos z, z]
        exact Or.inr ⟨hin, Or.inr (Or.inl rfl)⟩
      · rw [if_neg z]
        cases hq : rm_in a m c with
        | true => exact Or.inr ⟨rfl, Or.inl rfl⟩
        | false => exact Or.inl ⟨rfl, rfl⟩
  · -- wl
    intro l hl
    rcases hlt l hl with h | h
    · rw [ewr l h, est _ l (by have := (xI_lw H l h).2; omega) h]
      exact xI_wl H l h
    · rw [h, win, esn w (by omega), if_pos rfl]
      decide
  · -- gv
    intro r c' w' g1 g2 g3
    rw [e21, eg]
    have := xI_gv H r c' w' g1 g2 g3
    exact ⟨this.1, Nat.le_trans this.2 (ewl w' c' g3 g2)⟩
  · -- gs
    intro r l h1 h2
    rw [eg]
    rcases hlt l h2 with h | h
    · rw [est r l h1 h, es l h, eci l h, ewr l h]
      exact xI_gs H r l h1 h
    · rw [h, sin, cin, win]
      have := (xI_gv H r c w h1 (by omega) (by omega)).2
      exact ⟨fun z => absurd z (esn3 r h1), fun z => by omega⟩
  · -- ck
    intro l e m g1 g2 g3
    rcases hlt l g1 with h | h
    · rw [(ec l e m h g2 g3).1, (ec l e m h g2 g3).2]
      exact xI_ck H l e m h g2 g3
    · rw [h]; exact hR.2.2.1 e m g2 g3
  · -- cz
    intro l e m g1 g2 g3 g4
    rw [ein] at g4
    rcases hlt l g1 with h | h
    · rw [(ec l e m h (by omega) g3).1]
      exact xI_cz H l e m h g2 g3 g4
    · rw [h]; exact hR.2.2.2.2.2.1 e m g2 g3 g4
  · -- cw
    intro l e m g1 g2 g3 g4
    rcases hlt l g1 with h | h
    · rw [(ec l e m h g2 g3).1]
      exact xI_cw H l e m h g2 g3 (by rw [← erw l e h]; exact g4)
    · rw [h] at g4 ⊢; exact hR.2.2.2.2.2.2 e m g2 g3 g4
  · -- rc
    intro l hl
    rcases hlt l hl with h | h
    · rw [erw l _ h, eci l h]; exact xI_rc H l h
    · rw [h, cin]; exact hR.1
  · intro l e g1 g2 g3
    rcases hlt l g1 with h | h
    · rw [erw l e h] at g3; exact xI_rn H l e h g2 g3
    · rw [h] at g3; exact hR.2.1 e g2 g3
  · -- cl
    intro l e m g1 g2 g3 g4 g5 g6
    rw [ein] at g5
    rw [eg]
    rcases hlt l g1 with h | h
    · rw [erw l e h] at g4
      rw [ewr l h] at g5 ⊢
      rw [eci l h, ewr l h] at g6
      rw [(ec l e m h (by omega) g3).1]
      exact xI_cl H l e m h g2 g3 g4 g5 g6
    · rw [h] at g4 g5 g6 ⊢
      rw [win] at g5 ⊢
      rw [cin, win] at g6
      exact hR.2.2.2.1 e m g2 g3 g4 g5 g6
  · -- co
    intro l hl
    rcases hlt l hl with h | h
    · rw [eci l h, ewr l h, es l h, (ec l _ _ h (by have := (xI_lc H l h).2; omega) (by have := (xI_lw H l h).2; omega)).1]
      exact xI_co H l h
    · rw [h, cin, win, sin]
      have := hR.2.2.2.2.1
      omega
  · -- nu
    intro l hl
    rcases hlt l hl with h | h
    · rw [e15 l h, e10 l h, eci l h, end_]
      exact xI_nu H l h
    · rw [h]; exact Or.inl (xN_p S)
  · -- nj
    intro l y hl hy g1 g2 g3
    rcases hlt l hl with h | h
    · rcases hlt y hy with z | z
      · rw [eci l h, eci y z] at g1
        rw [e15 l h] at g2
        rw [e15 l h, e15 y z] at g3
        exact xI_nj H l y h z g1 g2 g3
      · rw [z, xN_p S] at g3; exact absurd g3 g2
    · rw [h, xN_p S] at g2; exact absurd rfl g2
  · -- ns
    intro c' n g1 g2
    rw [end_] at g2
    obtain ⟨x', h1, h2, h3, h4⟩ := xI_ns H c' n g1 g2
    exact ⟨x', by omega, by rw [e10 x' h1]; exact h2, by rw [eci x' h1]; exact h3, by rw [e15 x' h1]; exact h4⟩
  · -- ne
    intro l hl g1
    rw [eel]
    have hex : ∀ c', c' < nc → rm_el a c' < 8 := fun c' h9 => by
      have h9 := xI_ce H c' h9
      unfold rm_es at h9
      have := (rm_fst_some h9).2.1
      omega
    rcases hlt l hl with h | h
    · rw [e10 l h] at g1
      rw [e15 l h, eci l h, est _ l (hex _ (xI_lc H l h).2) h]
      exact xI_ne H l h g1
    · rw [h, cin]
      exact ⟨fun z => absurd (xN_p S) z, fun z => absurd z (esn3 _ (hex c hc))⟩
  · -- no
    intro l hl
    rcases hlt l hl with h | h
    · rw [e15 l h, e16 l h]
      rcases xI_no H l h with z | ⟨z1, o', z2, z3⟩
      · exact Or.inl z
      · exact Or.inr ⟨z1, o', by rcases h5 with y | y <;> omega, z3⟩
    · rw [h]; exact Or.inl ⟨xN_q S, xN_p S⟩
  · -- nk
    intro l r hl h1 g1 g2 g3 g4
    rcases hlt l hl with h | h
    · rw [e10 l h] at g1
      rw [ewr l h, eel, eci l h] at g2
      rw [ewr l h] at g3
      rw [est r l h1 h] at g4
      rw [e15 l h]
      exact xI_nk H l r h h1 g1 g2 g3 g4
    · rw [h] at g3 g4
      rw [win] at g3
      rw [esn r h1, if_neg g3] at g4
      split at g4 <;> exact absurd g4 (by decide)
  · -- sg
    intro r l h1 hl g1 g2
    rw [eel] at g2
    rcases hlt l hl with h | h
    · rw [e10 l h] at g1
      rw [eci l h] at g2 ⊢
      rw [est r l h1 h, e15 l h, esg r _ h1]
      exact xI_sg H r l h1 h g1 g2
    · rw [h, xN_p S, cin, esg r c h1]
      have := cr_sg_le (a := a) (nl := nl) (r := r) (c := c)
      exact ⟨fun z => absurd z (esn3 r h1), fun ⟨n, z1, z2⟩ => absurd z1.symm (nI_m1 (by omega))⟩
  · intro r c' h1 h2
    rw [esg r c' h1, end_]
    exact xI_sn H r c' h1 h2
  · -- kc
    have h0 := xI_kc H
    have h9 : rm_cnt (fun x => decide (¬ b 10 x = nI 3)) nl = rm_NA a := by
      rw [← h0]
      exact cnt_c fun i hi => by show decide _ = decide _; rw [e10 i hi]
    rcases h5 with ⟨_, h1, h2, h3⟩ | ⟨_, h1, h2⟩
    · rw [cr_cnt_t (p := fun x => decide (¬ b 10 x = nI 3)) (k := nl) (decide_eq_true (by rw [xN_k S]; exact h1)), h9]
      unfold rm_NA at h2 h3 ⊢
      rw [h2, rm_nv_n (by omega)]
    · rw [cr_cnt_f (p := fun x => decide (¬ b 10 x = nI 3)) (k := nl) (decide_eq_false (by rw [xN_k S]; exact fun z => z h1)), h9]
      unfold rm_NA
      rw [h2]
  · -- ko
    have h0 := xI_ko H
    have h9 : rm_cnt (fun x => decide (b 10 x = nI 3)) nl = rm_cnt (fun x => decide (a 10 x = nI 3)) nl := cnt_c fun i hi => by show decide _ = decide _; rw [e10 i hi]
    have h8 : rm_cnt (fun x => decide (b 10 x = nI 2 ∧ ¬ b 15 x = -1)) (nl + 1) = rm_cnt (fun x => decide (a 10 x = nI 2 ∧ ¬ a 15 x = -1)) nl := by
      rw [cr_cnt_f (p := fun x => decide (b 10 x = nI 2 ∧ ¬ b 15 x = -1)) (k := nl) (decide_eq_false fun z => z.2 (xN_p S))]
      exact cnt_c fun i hi => by show decide _ = decide _; rw [e10 i hi, e15 i hi]
    rw [h8, ← h0]
    rcases h5 with ⟨h1, h2, _⟩ | ⟨h1, h2, _⟩
    · rw [cr_cnt_f (p := fun x => decide (b 10 x = nI 3)) (k := nl) (decide_eq_false (by rw [xN_k S]; exact h2)), h9, h1]
    · rw [cr_cnt_t (p := fun x => decide (b 10 x = nI 3)) (k := nl) (decide_eq_true (by rw [xN_k S]; exact h2)), h9, h1]
  · -- rd
    intro m h1
    rw [e25, xI_rd H m h1, cr_cnt_f (p := fun x => decide (b 20 (200 * m + x) = nI 3)) (k := nl) (decide_eq_false (esn3 m h1))]
    congr 1
    exact (cnt_c fun i hi => by show decide _ = decide _; rw [est m i h1 hi]).symm
  · -- la
    intro w' c' g1 g2
    rcases xN_la S w' c' g1 g2 with z | ⟨_, z⟩
    · rw [z]
      rcases xI_la H w' c' g1 g2 with y | ⟨l, y1, y2⟩
      · exact Or.inl y
      · exact Or.inr ⟨l, by omega, y2⟩
    · exact Or.inr ⟨nl, by omega, z⟩
  · -- sl
    intro m s g1 g2
    unfold rm_sl
    rw [xN_h S m s g1 g2]
    split
    · exact Or.inr (Or.inl ⟨nl, by omega, rfl⟩)
    · rcases xI_sl H m s g1 g2 with z | ⟨l, z1, z2⟩ | ⟨l, z1, z2⟩
      · exact Or.inl z
      · exact Or.inr (Or.inl ⟨l, by omega, z2⟩)
      · exact Or.inr (Or.inr ⟨l, by omega, z2⟩)
  · -- bz
    intro y z g1 g2 g3
    rw [xN_b S y z g1 g2]
    rw [if_neg (fun v => by omega)]
    exact xI_bz H y z g1 g2 (by omega)
  · -- bt
    intro x' y z g1 g2 g3 g4 g5
    rcases hlt x' g3 with h | h
    · rw [eib x' y h (by omega)] at g4
      rw [eib y z (by omega) (by omega)] at g5
      rw [eib x' z h (by omega)]
      exact xI_bt H x' y z g1 g2 h g4 g5
    · rw [h] at g2 g4 ⊢
      rw [ibn y (by omega)] at g4
      rw [eib y z (by omega) (by omega)] at g5
      rw [ibn z (by omega)]
      obtain ⟨v, v1, v2, v3⟩ := (bq_iff nl).mp g4
      refine (bq_iff nl).mpr ⟨v, v1, v2, Or.inr ?_⟩
      rcases v3 with v3 | ⟨v3, v4⟩
      · rw [← v3]; exact ⟨g1, g5⟩
      · exact ⟨by omega, xI_bt H v y z g1 v3 v1 v4 g5⟩
  · -- zs
    intro m l h1 h2 h3
    rw [xN_s S m l h1 h3, if_neg (by omega)]
    exact xI_zs H m l h1 (by omega) h3
  · -- zm
    intro m h1 h2
    obtain ⟨g1, g2, g3⟩ := xI_zm H m h1 h2
    refine ⟨fun s hs => ?_, fun c' hc' => ?_, by rw [e24]; exact g3⟩
    · rw [xN_h S m s h2 hs, if_neg (fun v => by omega)]
      exact g1 s hs
    · rcases xN_la S m c' h2 hc' with z | z
      · rw [z]; exact g2 c' hc'
      · omega
  · -- zl
    intro l h1 h2
    have := xI_zl H l (by omega) h2
    refine ⟨by rw [xN_l S 17 l (by omega) (by omega) (by omega)]; exact this.1, fun j hj => ?_⟩
    rw [xN_t S l j (by omega) h2 hj]
    exact this.2 j hj
