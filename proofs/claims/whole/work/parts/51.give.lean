def gd (a : zv_I) (r l : Nat) : Bool := decide (a 10 l = nI 2 ∧ r = rm_el a (rm_ci a l))
def gS (a b : zv_I) (nl r l : Nat) : Prop :=
  (∀ t, t ≠ 7 → t ≠ 15 → t ≠ 16 → t ≠ 20 → t ≠ 21 → t ≠ 24 → t ≠ 25 → t ≠ 27 → b t = a t) ∧
  (∀ m x, m < 8 → x < 200 → b 20 (200 * m + x) = if m = r ∧ x = l then nI 3 else a 20 (200 * m + x)) ∧
  (∀ r' c w, r' < 8 → c < 6 → w < 8 → b 21 (48 * r' + 8 * c + w) = if r' = r ∧ c = rm_ci a l ∧ w = rm_wr a l then a 21 (48 * r' + 8 * c + w) + nI 1 else a 21 (48 * r' + 8 * c + w)) ∧
  (∀ m i, m < 8 → i < 200 → b 24 (200 * m + i) = if m = r ∧ i = rm_nv (a 25 r) then nI l else a 24 (200 * m + i)) ∧
  (∀ m, m < 8 → b 25 m = if m = r then nI (rm_nv (a 25 r) + 1) else a 25 m) ∧
  (∀ m s, m < 8 → s < 40 → b 27 (40 * m + s) = if m = r ∧ a 27 (40 * m + s) = nI (l + 1) then nI 0 else a 27 (40 * m + s)) ∧
  (∀ x, b 15 x = if gd a r l = true ∧ x = l then a 7 (rm_ci a l) else a 15 x) ∧
  (∀ c, b 7 c = if gd a r l = true ∧ c = rm_ci a l then a 7 (rm_ci a l) + nI 1 else a 7 c) ∧
  (∀ x, b 16 x = if gd a r l = true ∧ x = l then nI nl else a 16 x)
theorem xG_o {a b : zv_I} {nl r l : Nat} (h : gS a b nl r l) : ∀ t, t ≠ 7 → t ≠ 15 → t ≠ 16 → t ≠ 20 → t ≠ 21 → t ≠ 24 → t ≠ 25 → t ≠ 27 → b t = a t := h.1
theorem xG_s {a b : zv_I} {nl r l : Nat} (h : gS a b nl r l) : ∀ m x, m < 8 → x < 200 → b 20 (200 * m + x) = if m = r ∧ x = l then nI 3 else a 20 (200 * m + x) := h.2.1
theorem xG_g {a b : zv_I} {nl r l : Nat} (h : gS a b nl r l) : ∀ r' c w, r' < 8 → c < 6 → w < 8 → b 21 (48 * r' + 8 * c + w) = if r' = r ∧ c = rm_ci a l ∧ w = rm_wr a l then a 21 (48 * r' + 8 * c + w) + nI 1 else a 21 (48 * r' + 8 * c + w) := h.2.2.1
theorem xG_rd {a b : zv_I} {nl r l : Nat} (h : gS a b nl r l) : ∀ m i, m < 8 → i < 200 → b 24 (200 * m + i) = if m = r ∧ i = rm_nv (a 25 r) then nI l else a 24 (200 * m + i) := h.2.2.2.1
theorem xG_rm {a b : zv_I} {nl r l : Nat} (h : gS a b nl r l) : ∀ m, m < 8 → b 25 m = if m = r then nI (rm_nv (a 25 r) + 1) else a 25 m := h.2.2.2.2.1
theorem xG_h {a b : zv_I} {nl r l : Nat} (h : gS a b nl r l) : ∀ m s, m < 8 → s < 40 → b 27 (40 * m + s) = if m = r ∧ a 27 (40 * m + s) = nI (l + 1) then nI 0 else a 27 (40 * m + s) := h.2.2.2.2.2.1
theorem xG_n {a b : zv_I} {nl r l : Nat} (h : gS a b nl r l) : ∀ x, b 15 x = if gd a r l = true ∧ x = l then a 7 (rm_ci a l) else a 15 x := h.2.2.2.2.2.2.1
theorem xG_p {a b : zv_I} {nl r l : Nat} (h : gS a b nl r l) : ∀ c, b 7 c = if gd a r l = true ∧ c = rm_ci a l then a 7 (rm_ci a l) + nI 1 else a 7 c := h.2.2.2.2.2.2.2.1
theorem xG_or {a b : zv_I} {nl r l : Nat} (h : gS a b nl r l) : ∀ x, b 16 x = if gd a r l = true ∧ x = l then nI nl else a 16 x := h.2.2.2.2.2.2.2.2
theorem sub_pos {x y : Nat} (hx : x < 2 ^ 30) (hy : y < 2 ^ 30) : 0 < nI x - nI y ↔ y < x := by
  rw [Int32.lt_iff_toInt_lt, Int32.toInt_sub, nI_toInt (by omega), nI_toInt (by omega), show (0 : Int32).toInt = 0 from by decide]
  simp only [Int.bmod]
  split <;> omega
/-- what lacks, in numbers -/
theorem iv_lk {a : zv_I} {nm nc nl q r l d m : Nat} (H : iv a nm nc nl q) (hr : r < 8) (hl : l < nl) (hd : d < 6) (hm : m < 8) : (0 < rm_lk a r l d m) ↔ iv_g a r d m < (if d = rm_ci a l ∧ m = rm_wr a l then iv_s a l - 1 else iv_c a l d m) := by
  have h1 := xI_lc H l hl
  have h2 := xI_lw H l hl
  have h3 := xI_ls H l hl
  have h4 := xI_gv H r d m hr hd hm
  have h5 := xI_ck H l d m hl hd hm
  have n1 := (xI_n1 H).2
  have n0 := (xI_n0 H).2
  have n4 := (xI_n4 H).2
  have w1 := (xI_ww H (rm_wr a l) (rm_ci a l) (by omega) (by omega)).2
  have w2 := (xI_ww H m d hm hd).2
  unfold rm_lk
  rw [h4.1, h5.1, h3.1, h1.1, h2.1]
  by_cases e : d = rm_ci a l ∧ m = rm_wr a l
  · rw [if_pos ⟨congrArg nI e.1, congrArg nI e.2⟩, if_pos e, show nI (iv_s a l) - nI 1 = nI (iv_s a l - 1) from by
      have : nI (iv_s a l) = nI (iv_s a l - 1) + nI 1 := by rw [nI_add]; congr 1; omega
      rw [this, Int32.add_sub_cancel]]
    exact sub_pos (by omega) (by omega)
  · rw [if_neg (fun q => e ⟨nI_ij q.1 (by omega) (by omega), nI_ij q.2 (by omega) (by omega)⟩), if_neg e]
    exact sub_pos (by omega) (by omega)
theorem iv_in2 {a : zv_I} {nm nc nl q r l : Nat} (H : iv a nm nc nl q) (hr : r < 8) (hl : l < nl) (h : a 20 (200 * r + l) = nI 2) : rm_in a r (rm_ci a l) = true := by
  rcases xI_st H r l hr hl with ⟨_, h1⟩ | ⟨h1, _⟩
  · rw [h1] at h; exact absurd h (by decide)
  · exact h1
/-- a held letter that lacks nothing is the next of its writer -/
theorem iv_own {a : zv_I} {nm nc nl q r l : Nat} (H : iv a nm nc nl q) (hr : r < nm) (hl : l < nl) (hh : a 20 (200 * r + l) = nI 2) (hc : rm_lkg a nc r l = none) : iv_g a r (rm_ci a l) (rm_wr a l) + 1 = iv_s a l := by
  have n0 := (xI_n0 H).2
  have n1 := (xI_n1 H).2
  have h1 := (xI_lc H l hl).2
  have h2 := (xI_lw H l hl).2
  have h3 := (xI_ls H l hl).2.1
  have h4 := rm_fst_none.mp hc (8 * rm_ci a l + rm_wr a l) (Nat.zero_le _) (by omega)
  have e1 : (8 * rm_ci a l + rm_wr a l) / 8 = rm_ci a l := by omega
  have e2 : (8 * rm_ci a l + rm_wr a l) % 8 = rm_wr a l := by omega
  unfold rm_lkp rm_ask at h4
  rw [e1, e2, xI_rc H l hl, iv_in2 H (by omega) hl hh, xI_li H l hl] at h4
  have h5 : ¬ 0 < rm_lk a r l (rm_ci a l) (rm_wr a l) := of_decide_eq_false h4
  rw [iv_lk H (by omega) hl (by omega) (by omega), if_pos ⟨rfl, rfl⟩] at h5
  have h6 : ¬ iv_s a l ≤ iv_g a r (rm_ci a l) (rm_wr a l) := fun q => by
    rw [(xI_gs H r l (by omega) hl).mpr q] at hh
    exact absurd hh (by decide)
  omega
theorem iv_nd_le {a : zv_I} {nl c : Nat} : iv_nd a nl c ≤ nl := rm_cnt_le _ _
theorem cr_sg_le {a : zv_I} {nl r c : Nat} : cr_sg a nl r c ≤ nl := rm_cnt_le _ _
/-- a sealed letter that one who isn't the eldest can give: its number is the count of those given -/
theorem iv_num {a : zv_I} {nm nc nl r l : Nat} (H : iv a nm nc nl 0) (hr : r < nm) (hl : l < nl) (hh : a 20 (200 * r + l) = nI 2) (hk : a 10 l = nI 2) (hne : r ≠ rm_el a (rm_ci a l)) (hor : rm_hor a r l = true) (hlo : rm_hlo a nl r l = true) : a 15 l = nI (cr_sg a nl r (rm_ci a l)) ∧ cr_sg a nl r (rm_ci a l) < iv_nd a nl (rm_ci a l) := by
  have n0 := (xI_n0 H).2
  have n4 := (xI_n4 H).2
  have h1 := (xI_lc H l hl)
  have h15 : ¬ a 15 l = -1 := by
    unfold rm_hor at hor
    rcases (Bool.or_eq_true _ _).mp hor with q | q
    · exact (of_decide_eq_true q).2
    · rcases xI_no H l hl with z | z
      · exact absurd z.1 (of_decide_eq_true q).1
      · exact z.1
  obtain ⟨_, n, hn, hnn⟩ := (xI_nu H l hl).resolve_left h15
  have hs := cr_sg_le (a := a) (nl := nl) (r := r) (c := rm_ci a l)
  have hd := iv_nd_le (a := a) (nl := nl) (c := rm_ci a l)
  have hng : ¬ a 20 (200 * r + l) = nI 3 := fun q => by rw [hh] at q; exact absurd q (by decide)
  have h2 : ¬ n < cr_sg a nl r (rm_ci a l) := fun q => hng ((xI_sg H r l (by omega) hl hk hne).mpr ⟨n, hnn, q⟩)
  have h3 : ¬ cr_sg a nl r (rm_ci a l) < n := fun q => by
    obtain ⟨x, hx, k1, k2, k3⟩ := xI_ns H (rm_ci a l) (cr_sg a nl r (rm_ci a l)) h1.2 (by omega)
    have h4 := rm_all_iff.mp hlo x (Nat.zero_le _) (by omega)
    unfold rm_lok at h4
    have hlow : rm_low a l x = true := decide_eq_true ⟨k1, by rw [(xI_lc H x hx).1, h1.1, k2], by rw [k3]; exact nI_m1 (by omega), by rw [k3, hnn]; exact (nI_ltI (by omega) (by omega)).mpr q⟩
    rw [hlow] at h4
    have h5 : a 20 (200 * r + x) = nI 3 := of_decide_eq_true h4
    obtain ⟨n2, g1, g2⟩ := (xI_sg H r x (by omega) hx k1 (by rw [k2]; exact hne)).mp h5
    rw [k2] at g2
    have := nI_ij (k3.symm.trans g1) (by omega) (by omega)
    omega
  have e : n = cr_sg a nl r (rm_ci a l) := by omega
  rw [← e]
  exact ⟨hnn, hn⟩
theorem rm_can_k {a : zv_I} {nc nl r l : Nat} (h : rm_can a nc nl r l = true) : rm_lkg a nc r l = none ∧ (¬ a 10 l = nI 2 ∨ r = rm_el a (rm_ci a l) ∨ (rm_hor a r l = true ∧ rm_hlo a nl r l = true)) := by
  unfold rm_can at h
  obtain ⟨h1, h2⟩ := (Bool.and_eq_true _ _).mp h
  refine ⟨Option.isNone_iff_eq_none.mp h1, ?_⟩
  rcases (Bool.or_eq_true _ _).mp h2 with q | q
  · rcases of_decide_eq_true q with z | z
    · exact Or.inl z
    · exact Or.inr (Or.inl z)
  · exact Or.inr (Or.inr ((Bool.and_eq_true _ _).mp q))
theorem iv_give {a b : zv_I} {nm nc nl r l : Nat} (H : iv a nm nc nl 0) (S : gS a b nl r l) (hr : r < nm) (hl : l < nl) (hh : a 20 (200 * r + l) = nI 2) (hc : rm_can a nc nl r l = true) : iv b nm nc nl (if gd a r l = true then 1 else 0) := by
  have n0 := (xI_n0 H).2
  have n1 := (xI_n1 H).2
  have n4 := (xI_n4 H).2
  have hcl := (xI_lc H l hl)
  have hwl := (xI_lw H l hl)
  obtain ⟨hlk, hca⟩ := rm_can_k hc
  have hown := iv_own H hr hl hh hlk
  have e3 : b 3 = a 3 := xG_o S 3 (by decide) (by decide) (by decide) (by decide) (by decide) (by decide) (by decide) (by decide)
  have e6 : b 6 = a 6 := xG_o S 6 (by decide) (by decide) (by decide) (by decide) (by decide) (by decide) (by decide) (by decide)
  have e10 : b 10 = a 10 := xG_o S 10 (by decide) (by decide) (by decide) (by decide) (by decide) (by decide) (by decide) (by decide)
  have e11 : b 11 = a 11 := xG_o S 11 (by decide) (by decide) (by decide) (by decide) (by decide) (by decide) (by decide) (by decide)
  have e12 : b 12 = a 12 := xG_o S 12 (by decide) (by decide) (by decide) (by decide) (by decide) (by decide) (by decide) (by decide)
  have e13 : b 13 = a 13 := xG_o S 13 (by decide) (by decide) (by decide) (by decide) (by decide) (by decide) (by decide) (by decide)
  have e17 : b 17 = a 17 := xG_o S 17 (by decide) (by decide) (by decide) (by decide) (by decide) (by decide) (by decide) (by decide)
  have e18 : b 18 = a 18 := xG_o S 18 (by decide) (by decide) (by decide) (by decide) (by decide) (by decide) (by decide) (by decide)
  have e19 : b 19 = a 19 := xG_o S 19 (by decide) (by decide) (by decide) (by decide) (by decide) (by decide) (by decide) (by decide)
  have e22 : b 22 = a 22 := xG_o S 22 (by decide) (by decide) (by decide) (by decide) (by decide) (by decide) (by decide) (by decide)
  have e23 : b 23 = a 23 := xG_o S 23 (by decide) (by decide) (by decide) (by decide) (by decide) (by decide) (by decide) (by decide)
  have e26 : b 26 = a 26 := xG_o S 26 (by decide) (by decide) (by decide) (by decide) (by decide) (by decide) (by decide) (by decide)
  have ein : rm_in b = rm_in a := by funext m c; unfold rm_in; rw [e6]
  have eel : rm_el b = rm_el a := by funext c; unfold rm_el; rw [ein]
  have eci : rm_ci b = rm_ci a := by funext x; unfold rm_ci; rw [e11]
  have ewr : rm_wr b = rm_wr a := by funext x; unfold rm_wr; rw [e12]
  have erw : rm_row b = rm_row a := by funext x d; unfold rm_row; rw [e18]
  have es : iv_s b = iv_s a := by funext x; unfold iv_s; rw [e13]
  have ew : iv_w b = iv_w a := by funext x y; unfold iv_w; rw [e22]
  have ec : iv_c b = iv_c a := by funext x y z; unfold iv_c; rw [e19]
  have eib : rm_ib b = rm_ib a := by funext x y; unfold rm_ib; rw [e26]
  have eNA : rm_NA b = rm_NA a := by unfold rm_NA; rw [e3]
  have eNT : rm_NT b = rm_NT a := by unfold rm_NT; rw [e3]
  have hng : ¬ a 20 (200 * r + l) = nI 3 := fun q => by rw [hh] at q; exact absurd q (by decide)
  have eg : ∀ r' c w, r' < 8 → c < 6 → w < 8 → b 21 (48 * r' + 8 * c + w) = nI (iv_g b r' c w) ∧ iv_g b r' c w = (if r' = r ∧ c = rm_ci a l ∧ w = rm_wr a l then iv_g a r' c w + 1 else iv_g a r' c w) := by
    intro r' c w h1 h2 h3
    have h4 := xI_gv H r' c w h1 h2 h3
    have h5 := (xI_ww H w c h3 h2).2
    have h6 : b 21 (48 * r' + 8 * c + w) = nI (if r' = r ∧ c = rm_ci a l ∧ w = rm_wr a l then iv_g a r' c w + 1 else iv_g a r' c w) := by
      rw [xG_g S r' c w h1 h2 h3]
      split
      · rw [h4.1, nI_add]
      · exact h4.1
    have h7 : iv_g b r' c w = (if r' = r ∧ c = rm_ci a l ∧ w = rm_wr a l then iv_g a r' c w + 1 else iv_g a r' c w) := by
      unfold iv_g
      rw [h6, rm_nv_n (by split <;> omega)]
      rfl
    rw [h7]
    exact ⟨h6, rfl⟩
  have hgd : gd a r l = true → a 10 l = nI 2 ∧ r = rm_el a (rm_ci a l) ∧ a 15 l = -1 := by
    intro q
    obtain ⟨q1, q2⟩ := of_decide_eq_true q
    refine ⟨q1, q2, Decidable.not_not.mp fun z => hng ?_⟩
    have := (xI_ne H l hl q1).mp z
    rw [← q2] at this
    exact this
  have hng2 : gd a r l = false → a 10 l = nI 2 → r ≠ rm_el a (rm_ci a l) := fun q q1 q2 => of_decide_eq_false q ⟨q1, q2⟩
  have end_ : ∀ c, c < 6 → iv_nd b nl c = (if gd a r l = true ∧ c = rm_ci a l then iv_nd a nl c + 1 else iv_nd a nl c) := by
    intro c hc6
    unfold iv_nd
    rw [e10, e11]
    by_cases q : gd a r l = true ∧ c = rm_ci a l
    · rw [if_pos q]
      obtain ⟨q1, q2, q3⟩ := hgd q.1
      refine cnt_1 (x := l) ?_ ?_ (fun i _ hi => ?_) hl
      · exact decide_eq_false fun z => z.2.2 q3
      · refine decide_eq_true ⟨q1, by rw [q.2]; exact hcl.1, ?_⟩
        rw [xG_n S l, if_pos ⟨q.1, rfl⟩, xI_cn H (rm_ci a l) (by omega)]
        exact nI_m1 (by have := iv_nd_le (a := a) (nl := nl) (c := rm_ci a l); omega)
      · show decide _ = decide _
        rw [xG_n S i, if_neg (fun z => hi z.2)]
    · rw [if_neg q]
      refine cnt_c fun i hi => ?_
      show decide _ = decide _
      rw [xG_n S i]
      by_cases z : gd a r l = true ∧ i = l
      · rw [if_pos z]
        obtain ⟨q1, q2, q3⟩ := hgd z.1
        have h9 : ¬ a 11 i = nI c := fun y => q ⟨z.1, by rw [z.2, hcl.1] at y; exact (nI_ij y (by omega) (by omega)).symm⟩
        rw [decide_eq_false (fun y => h9 y.2.1), decide_eq_false (fun y => h9 y.2.1)]
      · rw [if_neg z]
  have esg : ∀ r' c, r' < 8 → c < 6 → cr_sg b nl r' c = (if r' = r ∧ a 10 l = nI 2 ∧ c = rm_ci a l then cr_sg a nl r' c + 1 else cr_sg a nl r' c) := by
    intro r' c h8 hc6
    unfold cr_sg
    rw [e10, e11]
    by_cases q : r' = r ∧ a 10 l = nI 2 ∧ c = rm_ci a l
    · rw [if_pos q]
      refine cnt_1 (x := l) ?_ ?_ (fun i hi hne => ?_) hl
      · exact decide_eq_false fun z => hng (by rw [← q.1]; exact z.2.2)
      · exact decide_eq_true ⟨q.2.1, by rw [q.2.2]; exact hcl.1, by rw [xG_s S r' l h8 (by omega), if_pos ⟨q.1, rfl⟩]⟩
      · show decide _ = decide _
        rw [xG_s S r' i h8 (by omega), if_neg (fun z => hne z.2)]
    · rw [if_neg q]
      refine cnt_c fun i hi => ?_
      show decide _ = decide _
      rw [xG_s S r' i h8 (by omega)]
      by_cases z : r' = r ∧ i = l
      · rw [if_pos z]
        rw [z.2]
        have h9 : ¬ (a 10 l = nI 2 ∧ a 11 l = nI c) := fun y => q ⟨z.1, y.1, by have y2 := y.2; rw [hcl.1] at y2; exact (nI_ij y2 (by omega) (by omega)).symm⟩
        rw [decide_eq_false (fun y => h9 ⟨y.1, y.2.1⟩), decide_eq_false (fun y => h9 ⟨y.1, y.2.1⟩)]
      · rw [if_neg z]
  have est : ∀ m x, m < 8 → x < nl → b 20 (200 * m + x) = if m = r ∧ x = l then nI 3 else a 20 (200 * m + x) := fun m x h1 h2 => xG_s S m x h1 (by omega)
  -- the sealed one's number, for one who isn't the eldest
  have hnum : a 10 l = nI 2 → r ≠ rm_el a (rm_ci a l) → a 15 l = nI (cr_sg a nl r (rm_ci a l)) ∧ cr_sg a nl r (rm_ci a l) < iv_nd a nl (rm_ci a l) := by
    intro q1 q2
    rcases hca with z | z | z
    · exact absurd q1 z
    · exact absurd z q2
    · exact iv_num H hr hl hh q1 q2 z.1 z.2
  have hq : gd a r l = true ∨ gd a r l = false := by cases gd a r l <;> simp
  refine ⟨by rw [e3]; exact xI_n0 H, by rw [e3]; exact xI_n1 H, by rw [e3]; exact xI_n4 H, by rw [e3, eNA]; exact xI_n5 H, by rw [e3, eNT]; exact xI_nt H, by rw [e6]; exact xI_cy H, by rw [ein]; exact xI_ci H, ?_, ?_, by rw [e10]; exact xI_lk H, by rw [e11, eci]; exact xI_lc H, by rw [e12, ewr]; exact xI_lw H, by rw [ein, eci, ewr]; exact xI_li H, by rw [e13, es, ew, eci, ewr]; exact xI_ls H, by rw [es, eci, ewr]; exact xI_lu H, by rw [es, eci, ewr, ew]; exact xI_lx H, by rw [e22, ew]; exact xI_ww H, ?_, ?_, ?_, ?_, by rw [e19, ec]; exact xI_ck H, by rw [ec, ein]; exact xI_cz H, by rw [ec, erw]; exact xI_cw H, by rw [erw, eci]; exact xI_rc H, by rw [erw]; exact xI_rn H, ?_, by rw [ec, es, eci, ewr]; exact xI_co H, ?_, ?_, ?_, ?_, ?_, ?_, ?_, ?_, by rw [e10, eNA]; exact xI_kc H, ?_, ?_, by rw [e23]; exact xI_la H, ?_, by rw [e26]; exact xI_bz H, by rw [eib]; exact xI_bt H, ?_, ?_, by rw [e17, e19]; exact xI_zl H⟩
  · -- ce
    intro c hc0
    have := xI_ce H c hc0
    unfold rm_es at this ⊢
    rw [ein, eel]
    exact this
  · -- cn
    intro c hc0
    rw [xG_p S c, end_ c hc0]
    by_cases q : gd a r l = true ∧ c = rm_ci a l
    · rw [if_pos q, if_pos q, xI_cn H _ (by omega), nI_add, q.2]
    · rw [if_neg q, if_neg q]
      exact xI_cn H c hc0
  · -- st
    intro m x h1 h2
    unfold cr_st
    rw [ein, eci, est m x h1 h2]
    by_cases q : m = r ∧ x = l
    · rw [if_pos q, q.1, q.2]
      exact Or.inr ⟨iv_in2 H (by omega) hl hh, Or.inr (Or.inr rfl)⟩
    · rw [if_neg q]
      exact xI_st H m x h1 h2
  · -- wl
    intro x h1
    rw [ewr, est _ x (by have := (xI_lw H x h1).2; omega) h1]
    split
    · decide
    · exact xI_wl H x h1
  · -- gv
    intro r' c w h1 h2 h3
    obtain ⟨g1, g2⟩ := eg r' c w h1 h2 h3
    refine ⟨g1, ?_⟩
    rw [g2, ew]
    have h4 := (xI_gv H r' c w h1 h2 h3).2
    split
    · rename_i q
      have := (xI_ls H l hl).2.2
      rw [q.1, q.2.1, q.2.2]
      omega
    · exact h4
  · -- gs
    intro r' x h1 h2
    have cx := (xI_lc H x h2).2
    have wx := (xI_lw H x h2).2
    rw [est r' x h1 h2, es, eci, ewr, (eg r' _ _ h1 (by omega) (by omega)).2]
    by_cases q : r' = r ∧ x = l
    · rw [if_pos q, q.1, q.2, if_pos ⟨rfl, rfl, rfl⟩]
      exact ⟨fun _ => by omega, fun _ => rfl⟩
    · rw [if_neg q, xI_gs H r' x h1 h2]
      by_cases z : r' = r ∧ rm_ci a x = rm_ci a l ∧ rm_wr a x = rm_wr a l
      · rw [if_pos z]
        have h5 : iv_s a x ≠ iv_s a l := fun y => q ⟨z.1, xI_lu H x l h2 hl z.2.1 z.2.2 y⟩
        rw [z.1, z.2.1, z.2.2]
        exact ⟨fun _ => by omega, fun _ => by omega⟩
      · rw [if_neg z]
  · -- cl
    intro x e m h1 h2 h3 h4 h5 h6
    rw [eci, ewr] at h6
    rw [ein, ewr] at h5
    rw [erw] at h4
    have wx := (xI_lw H x h1).2
    rw [ec, ewr, (eg _ e m (by omega) (by omega) h3).2]
    have := xI_cl H x e m h1 h2 h3 h4 h5 h6
    split <;> omega
  · -- nu
    intro x h1
    rw [xG_n S x, e10, eci, end_ _ (by have := (xI_lc H x h1).2; omega)]
    by_cases q : gd a r l = true ∧ x = l
    · obtain ⟨q1, q2, q3⟩ := hgd q.1
      rw [if_pos q, q.2, if_pos ⟨q.1, rfl⟩]
      exact Or.inr ⟨q1, iv_nd a nl (rm_ci a l), by omega, xI_cn H _ (by omega)⟩
    · rw [if_neg q]
      rcases xI_nu H x h1 with z | ⟨z1, n, z2, z3⟩
      · exact Or.inl z
      · exact Or.inr ⟨z1, n, by split <;> omega, z3⟩
  · -- nj
    intro x y h1 h2 h3 h4 h5
    rw [eci] at h3
    rw [xG_n S x] at h4 h5
    rw [xG_n S y] at h5
    have key : ∀ z, z < nl → rm_ci a z = rm_ci a l → ¬ a 15 z = -1 → ¬ a 15 z = a 7 (rm_ci a l) := by
      intro z g1 g2 g3 g4
      obtain ⟨_, n, g5, g6⟩ := (xI_nu H z g1).resolve_left g3
      rw [g6, xI_cn H _ (by omega)] at g4
      have g7 := iv_nd_le (a := a) (nl := nl) (c := rm_ci a l)
      rw [g2] at g5
      have := nI_ij g4 (by omega) (by omega)
      omega
    have hm7 : ¬ a 7 (rm_ci a l) = -1 := by
      rw [xI_cn H _ (by omega)]
      exact nI_m1 (by have := iv_nd_le (a := a) (nl := nl) (c := rm_ci a l); omega)
    by_cases q : gd a r l = true ∧ x = l
    · rw [if_pos q] at h4 h5
      by_cases z : gd a r l = true ∧ y = l
      · rw [q.2, z.2]
      · rw [if_neg z] at h5
        exact absurd h5.symm (key y h2 (by rw [← h3, q.2]) (by rw [← h5]; exact hm7))
    · rw [if_neg q] at h4 h5
      by_cases z : gd a r l = true ∧ y = l
      · rw [if_pos z] at h5
        exact absurd h5 (key x h1 (by rw [h3, z.2]) h4)
      · rw [if_neg z] at h5
        exact xI_nj H x y h1 h2 h3 h4 h5
  · -- ns
    intro c n h1 h2
    rw [end_ c (by omega)] at h2
    by_cases q : gd a r l = true ∧ c = rm_ci a l
    · rw [if_pos q] at h2
      obtain ⟨q1, q2, q3⟩ := hgd q.1
      by_cases z : n = iv_nd a nl c
      · refine ⟨l, hl, by rw [e10]; exact q1, by rw [eci]; exact q.2.symm, ?_⟩
        rw [xG_n S l, if_pos ⟨q.1, rfl⟩, xI_cn H _ (by omega), z, q.2]
      · obtain ⟨x, g1, g2, g3, g4⟩ := xI_ns H c n h1 (by omega)
        refine ⟨x, g1, by rw [e10]; exact g2, by rw [eci]; exact g3, ?_⟩
        rw [xG_n S x, if_neg (fun y => ?_)]
        · exact g4
        · have g5 := iv_nd_le (a := a) (nl := nl) (c := c)
          rw [y.2, q3] at g4
          exact nI_m1 (n := n) (by omega) g4.symm
    · rw [if_neg q] at h2
      obtain ⟨x, g1, g2, g3, g4⟩ := xI_ns H c n h1 h2
      refine ⟨x, g1, by rw [e10]; exact g2, by rw [eci]; exact g3, ?_⟩
      rw [xG_n S x, if_neg (fun y => q ⟨y.1, by rw [← g3, y.2]⟩)]
      exact g4
  · -- ne
    intro x h1 h2
    rw [e10] at h2
    have hex : rm_el a (rm_ci a x) < 8 := by
      have h9 := xI_ce H _ (xI_lc H x h1).2
      unfold rm_es at h9
      have := (rm_fst_some h9).2.1
      omega
    rw [eel, eci, xG_n S x, est _ x hex h1]
    by_cases q : x = l
    · rw [q] at h2 hex ⊢
      rcases hq with z | z
      · obtain ⟨q1, q2, q3⟩ := hgd z
        rw [if_pos ⟨z, rfl⟩, if_pos ⟨q2.symm, rfl⟩, xI_cn H _ (by omega)]
        exact ⟨fun _ => rfl, fun _ => nI_m1 (by have := iv_nd_le (a := a) (nl := nl) (c := rm_ci a l); omega)⟩
      · rw [if_neg (fun y => by rw [z] at y; exact absurd y.1 (by decide)), if_neg (fun y => hng2 z h2 y.1.symm)]
        exact xI_ne H l hl h2
    · rw [if_neg (fun y => q y.2), if_neg (fun y => q y.2)]
      exact xI_ne H x h1 h2
  · -- no
    intro x h1
    rw [xG_or S x, xG_n S x]
    by_cases q : gd a r l = true ∧ x = l
    · rw [if_pos q, if_pos q, if_pos q.1, xI_cn H _ (by omega)]
      exact Or.inr ⟨nI_m1 (by have := iv_nd_le (a := a) (nl := nl) (c := rm_ci a l); omega), nl, by omega, rfl⟩
    · rw [if_neg q, if_neg q]
      rcases xI_no H x h1 with z | ⟨z1, o, z2, z3⟩
      · exact Or.inl z
      · exact Or.inr ⟨z1, o, by omega, z3⟩
  · -- nk
    intro x r' h1 h2 h3 h4 h5 h6
    rw [e10] at h3
    rw [ewr, eel, eci] at h4
    rw [ewr] at h5
    rw [est r' x h2 h1] at h6
    rw [xG_n S x]
    by_cases q : x = l
    · rw [q] at h3 h4 h5 h6 ⊢
      rcases hq with z | z
      · rw [if_pos ⟨z, rfl⟩, xI_cn H _ (by omega)]
        exact nI_m1 (by have := iv_nd_le (a := a) (nl := nl) (c := rm_ci a l); omega)
      · rw [if_neg (fun y => by rw [z] at y; exact absurd y.1 (by decide))]
        by_cases y : r' = r
        · exact xI_nk H l r' hl h2 h3 h4 h5 (Or.inl (by rw [y]; exact hh))
        · rw [if_neg (fun w => y w.1)] at h6
          exact xI_nk H l r' hl h2 h3 h4 h5 h6
    · rw [if_neg (fun y => q y.2)] at h6 ⊢
      exact xI_nk H x r' h1 h2 h3 h4 h5 h6
  · -- sg
    intro r' x h1 h2 h3 h4
    rw [e10] at h3
    rw [eel, eci] at h4
    have cx := (xI_lc H x h2).2
    have g9 := iv_nd_le (a := a) (nl := nl) (c := rm_ci a l)
    have g8 := cr_sg_le (a := a) (nl := nl) (r := r') (c := rm_ci a x)
    have hsx := xI_sg H r' x h1 h2 h3 h4
    rw [est r' x h1 h2, eci, esg r' _ h1 (by omega), xG_n S x]
    by_cases q : x = l
    · rw [q] at h3 h4 hsx g8 ⊢
      by_cases y : r' = r
      · rw [y] at h4 hsx g8 ⊢
        obtain ⟨g1, g2⟩ := hnum h3 h4
        rw [if_pos ⟨rfl, rfl⟩, if_neg (fun w => h4 (of_decide_eq_true w.1).2), if_pos ⟨rfl, h3, rfl⟩]
        exact ⟨fun _ => ⟨_, g1, by omega⟩, fun _ => rfl⟩
      · rw [if_neg (show ¬ (r' = r ∧ l = l) from fun w => y w.1), if_neg (show ¬ (r' = r ∧ a 10 l = nI 2 ∧ rm_ci a l = rm_ci a l) from fun w => y w.1)]
        by_cases z : gd a r l = true ∧ l = l
        · obtain ⟨q1, q2, q3⟩ := hgd z.1
          rw [if_pos z, xI_cn H _ (by omega), hsx, q3]
          have hsn := xI_sn H r' (rm_ci a l) h1 hcl.2
          exact ⟨fun ⟨n, w1, w2⟩ => absurd w1.symm (nI_m1 (by omega)), fun ⟨n, w1, w2⟩ => absurd (nI_ij w1 (by omega) (by omega)) (by omega)⟩
        · rw [if_neg z]
          exact hsx
    · rw [if_neg (fun w => q w.2), if_neg (fun w => q w.2)]
      by_cases y : r' = r ∧ a 10 l = nI 2 ∧ rm_ci a x = rm_ci a l
      · rw [if_pos y, hsx]
        have h5 : r ≠ rm_el a (rm_ci a l) := by rw [← y.1, ← y.2.2]; exact h4
        obtain ⟨g1, g2⟩ := hnum y.2.1 h5
        refine ⟨fun ⟨n, w1, w2⟩ => ⟨n, w1, by omega⟩, fun ⟨n, w1, w2⟩ => ⟨n, w1, ?_⟩⟩
        have w3 : n ≠ cr_sg a nl r' (rm_ci a x) := fun w => q (xI_nj H x l h2 hl y.2.2 (by rw [w1]; exact nI_m1 (by omega)) (by rw [w1, g1, w, y.1, y.2.2]))
        omega
      · rw [if_neg y]
        exact hsx
  · -- sn
    intro r' c h1 h2
    have h3 := xI_sn H r' c h1 h2
    rw [esg r' c h1 (by omega), end_ c (by omega)]
    by_cases y : r' = r ∧ a 10 l = nI 2 ∧ c = rm_ci a l
    · rw [if_pos y]
      rcases hq with z | z
      · rw [if_pos ⟨z, y.2.2⟩]
        omega
      · rw [if_neg (fun w => by rw [z] at w; exact absurd w.1 (by decide)), y.1, y.2.2]
        have := (hnum y.2.1 (hng2 z y.2.1)).2
        omega
    · rw [if_neg y]
      split <;> omega
  · -- ko
    have h1 := xI_ko H
    rw [e10]
    rcases hq with z | z
    · obtain ⟨q1, q2, q3⟩ := hgd z
      rw [if_pos z, cnt_1 (p := fun x => decide (a 10 x = nI 2 ∧ ¬ a 15 x = -1)) (r := fun x => decide (a 10 x = nI 2 ∧ ¬ b 15 x = -1)) (x := l) (decide_eq_false fun w => w.2 q3) (decide_eq_true ⟨q1, by rw [xG_n S l, if_pos ⟨z, rfl⟩, xI_cn H _ (by omega)]; exact nI_m1 (by have := iv_nd_le (a := a) (nl := nl) (c := rm_ci a l); omega)⟩) (fun i _ hne => by show decide _ = decide _; rw [xG_n S i, if_neg (fun w => hne w.2)]) hl]
      omega
    · rw [if_neg (by rw [z]; decide), h1]
      refine cnt_c fun i _ => ?_
      show decide _ = decide _
      rw [xG_n S i, if_neg (fun w => by rw [z] at w; exact absurd w.1 (by decide))]
  · -- rd
    intro m h1
    rw [xG_rm S m h1]
    by_cases q : m = r
    · rw [if_pos q, q, xI_rd H r (by omega)]
      have h2 := rm_cnt_le (fun x => decide (a 20 (200 * r + x) = nI 3)) nl
      rw [rm_nv_n (by omega), cnt_1 (p := fun x => decide (a 20 (200 * r + x) = nI 3)) (r := fun x => decide (b 20 (200 * r + x) = nI 3)) (x := l) (decide_eq_false hng) (decide_eq_true (by rw [est r l (by omega) hl, if_pos ⟨rfl, rfl⟩])) (fun i hi hne => by show decide _ = decide _; rw [est r i (by omega) hi, if_neg (fun w => hne w.2)]) hl]
    · rw [if_neg q, xI_rd H m h1]
      congr 1
      refine cnt_c fun i hi => ?_
      show decide _ = decide _
      rw [est m i h1 hi, if_neg (fun w => q w.1)]
  · -- sl
    intro m s h1 h2
    unfold rm_sl
    rw [xG_h S m s h1 h2]
    split
    · exact Or.inl rfl
    · exact xI_sl H m s h1 h2
  · -- zs
    intro m x h1 h2 h3
    rw [xG_s S m x h1 h3, if_neg (fun w => by omega)]
    exact xI_zs H m x h1 h2 h3
  · -- zm
    intro m h1 h2
    obtain ⟨g1, g2, g3⟩ := xI_zm H m h1 h2
    refine ⟨fun s hs => ?_, by rw [e23]; exact g2, fun i hi => ?_⟩
    · rw [xG_h S m s h2 hs, if_neg (fun w => by omega)]
      exact g1 s hs
    · rw [xG_rd S m i h2 hi, if_neg (fun w => by omega)]
      exact g3 i hi
