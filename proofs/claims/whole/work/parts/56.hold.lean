theorem iq_w {a : zv_I} {nm nc nl q l r : Nat} (H : iv a nm nc nl q) (hl : l < nl) (h : rm_wr a l = r) : ¬ a 20 (200 * r + l) = nI 1 := by
  rw [← h]
  exact xI_wl H l hl
theorem iv_hold {a : zv_I} {nm nc nl m l : Nat} (H : iv a nm nc nl 0) (hm : m < nm) (hl : l < nl) (hs : a 20 (200 * m + l) = nI 1) (hK : a 10 l = nI 2 → rm_wr a l = rm_el a (rm_ci a l) → ¬ a 15 l = -1) : iv (rm_hld a m l) nm nc nl 0 := by
  have n0 := (xI_n0 H).2
  have n4 := (xI_n4 H).2
  have eo : ∀ t, t ≠ 20 → t ≠ 27 → rm_hld a m l t = a t := fun t h1 h2 => hl_o h1 h2
  have e3 := eo 3 (by decide) (by decide)
  have e6 := eo 6 (by decide) (by decide)
  have e7 := eo 7 (by decide) (by decide)
  have e10 := eo 10 (by decide) (by decide)
  have e11 := eo 11 (by decide) (by decide)
  have e12 := eo 12 (by decide) (by decide)
  have e13 := eo 13 (by decide) (by decide)
  have e15 := eo 15 (by decide) (by decide)
  have e16 := eo 16 (by decide) (by decide)
  have e17 := eo 17 (by decide) (by decide)
  have e18 := eo 18 (by decide) (by decide)
  have e19 := eo 19 (by decide) (by decide)
  have e21 := eo 21 (by decide) (by decide)
  have e22 := eo 22 (by decide) (by decide)
  have e23 := eo 23 (by decide) (by decide)
  have e24 := eo 24 (by decide) (by decide)
  have e25 := eo 25 (by decide) (by decide)
  have e26 := eo 26 (by decide) (by decide)
  have ein : rm_in (rm_hld a m l) = rm_in a := by funext m c; exact rm_in_o e6 m c
  have eel : rm_el (rm_hld a m l) = rm_el a := by funext c; unfold rm_el; rw [ein]
  have eci : rm_ci (rm_hld a m l) = rm_ci a := by funext x; unfold rm_ci; rw [e11]
  have ewr : rm_wr (rm_hld a m l) = rm_wr a := by funext x; unfold rm_wr; rw [e12]
  have erw : rm_row (rm_hld a m l) = rm_row a := by funext x d; unfold rm_row; rw [e18]
  have es : iv_s (rm_hld a m l) = iv_s a := by funext x; unfold iv_s; rw [e13]
  have ew : iv_w (rm_hld a m l) = iv_w a := by funext x y; unfold iv_w; rw [e22]
  have ec : iv_c (rm_hld a m l) = iv_c a := by funext x y z; unfold iv_c; rw [e19]
  have eg : iv_g (rm_hld a m l) = iv_g a := by funext x y z; unfold iv_g; rw [e21]
  have eib : rm_ib (rm_hld a m l) = rm_ib a := by funext x y; unfold rm_ib; rw [e26]
  have eNA : rm_NA (rm_hld a m l) = rm_NA a := by unfold rm_NA; rw [e3]
  have eNT : rm_NT (rm_hld a m l) = rm_NT a := by unfold rm_NT; rw [e3]
  have end_ : iv_nd (rm_hld a m l) nl = iv_nd a nl := by funext c; unfold iv_nd; rw [e10, e11, e15]
  have est : ∀ m' x, x < nl → rm_hld a m l 20 (200 * m' + x) = if m' = m ∧ x = l then nI 2 else a 20 (200 * m' + x) := fun m' x h2 => hl_20 (by omega) (by omega)
  have e3s : ∀ m' x, x < nl → (rm_hld a m l 20 (200 * m' + x) = nI 3 ↔ a 20 (200 * m' + x) = nI 3) := fun m' x h2 => by
    rw [est m' x h2]
    by_cases q : m' = m ∧ x = l
    · rw [if_pos q, q.1, q.2, hs]
      exact ⟨fun z => absurd z (by decide), fun z => absurd z (by decide)⟩
    · rw [if_neg q]
  have esg : ∀ r c, cr_sg (rm_hld a m l) nl r c = cr_sg a nl r c := fun r c => by
    unfold cr_sg
    rw [e10, e11]
    refine cnt_c fun i hi => ?_
    show decide _ = decide _
    congr 1
    rw [e3s r i hi]
  refine ⟨by rw [e3]; exact xI_n0 H, by rw [e3]; exact xI_n1 H, by rw [e3]; exact xI_n4 H, by rw [e3, eNA]; exact xI_n5 H, by rw [e3, eNT]; exact xI_nt H, by rw [e6]; exact xI_cy H, by rw [ein]; exact xI_ci H, ?_, by rw [e7, end_]; exact xI_cn H, by rw [e10]; exact xI_lk H, by rw [e11, eci]; exact xI_lc H, by rw [e12, ewr]; exact xI_lw H, by rw [ein, eci, ewr]; exact xI_li H, by rw [e13, es, ew, eci, ewr]; exact xI_ls H, by rw [es, eci, ewr]; exact xI_lu H, by rw [es, eci, ewr, ew]; exact xI_lx H, by rw [e22, ew]; exact xI_ww H, ?_, ?_, by rw [e21, eg, ew]; exact xI_gv H, ?_, by rw [e19, ec]; exact xI_ck H, by rw [ec, ein]; exact xI_cz H, by rw [ec, erw]; exact xI_cw H, by rw [erw, eci]; exact xI_rc H, by rw [erw]; exact xI_rn H, by rw [erw, ein, ewr, eci, ec, eg]; exact xI_cl H, by rw [ec, es, eci, ewr]; exact xI_co H, by rw [e15, e10, eci, end_]; exact xI_nu H, by rw [eci, e15]; exact xI_nj H, by rw [end_, e10, eci, e15]; exact xI_ns H, ?_, by rw [e16, e15]; exact xI_no H, ?_, ?_, fun r c h1 h2 => by rw [esg, end_]; exact xI_sn H r c h1 h2, by rw [e10, eNA]; exact xI_kc H, by rw [e10, e15]; exact xI_ko H, ?_, by rw [e23]; exact xI_la H, ?_, by rw [e26]; exact xI_bz H, by rw [eib]; exact xI_bt H, ?_, ?_, by rw [e17, e19]; exact xI_zl H⟩
  · intro c hc0
    have := xI_ce H c hc0
    unfold rm_es at this ⊢
    rw [ein, eel]
    exact this
  · intro m' x h1 h2
    unfold cr_st
    rw [ein, eci, est m' x h2]
    by_cases q : m' = m ∧ x = l
    · rw [if_pos q, q.1, q.2]
      rcases xI_st H m l (by omega) hl with ⟨_, z⟩ | ⟨z, _⟩
      · rw [hs] at z; exact absurd z (by decide)
      · exact Or.inr ⟨z, Or.inr (Or.inl rfl)⟩
    · rw [if_neg q]
      exact xI_st H m' x h1 h2
  · intro x h1
    rw [ewr, est _ x h1]
    split
    · decide
    · exact xI_wl H x h1
  · intro r x h1 h2
    rw [e3s r x h2, es, eg, eci, ewr]
    exact xI_gs H r x h1 h2
  · intro x h1 h2
    rw [e10] at h2
    rw [e15, eel, eci, e3s _ x h1]
    exact xI_ne H x h1 h2
  · intro x r h1 h2 h3 h4 h5 h6
    rw [e10] at h3
    rw [ewr, eel, eci] at h4
    rw [ewr] at h5
    rw [est r x h1] at h6
    rw [e15]
    by_cases q : r = m ∧ x = l
    · rw [q.2] at h3 h4 ⊢
      exact hK h3 h4
    · rw [if_neg q] at h6
      exact xI_nk H x r h1 h2 h3 h4 h5 h6
  · intro r x h1 h2 h3 h4
    rw [e10] at h3
    rw [eel, eci] at h4
    rw [e3s r x h2, e15, eci, esg]
    exact xI_sg H r x h1 h2 h3 h4
  · intro m' h1
    rw [e25, xI_rd H m' h1]
    congr 1
    refine cnt_c fun i hi => ?_
    show decide _ = decide _
    congr 1
    rw [e3s m' i hi]
  · intro m' s h1 h2
    unfold rm_sl
    rw [hl_27 h2]
    split
    · exact Or.inr (Or.inl ⟨l, hl, rfl⟩)
    · exact xI_sl H m' s h1 h2
  · intro m' x h1 h2 h3
    rw [hl_20 (by omega) h3, if_neg (fun w => by omega)]
    exact xI_zs H m' x h1 h2 h3
  · intro m' h1 h2
    obtain ⟨g1, g2, g3⟩ := xI_zm H m' h1 h2
    refine ⟨fun s hs' => ?_, by rw [e23]; exact g2, by rw [e24]; exact g3⟩
    rw [hl_27 hs', if_neg (fun w => by omega)]
    exact g1 s hs'
/-! quiet: nothing that r holds can be given -/
def iq (a : zv_I) (nc nl r : Nat) : Prop := ∀ l, l < nl → a 20 (200 * r + l) = nI 2 → rm_can a nc nl r l = false
theorem iq_nx {a : zv_I} {nc nl r : Nat} : rm_nxt a nc nl r = none ↔ iq a nc nl r := by
  unfold rm_nxt
  rw [rm_fst_none]
  constructor
  · intro h l hl hh
    have := h l (Nat.zero_le _) (by omega)
    unfold rm_nxp at this
    rw [decide_eq_true hh] at this
    exact this
  · intro h l _ hl
    unfold rm_nxp
    by_cases hh : a 20 (200 * r + l) = nI 2
    · rw [h l (by omega) hh, Bool.and_false]
    · rw [decide_eq_false hh]; rfl
theorem nx_some {a : zv_I} {nc nl r l : Nat} (h : rm_nxt a nc nl r = some l) : l < nl ∧ a 20 (200 * r + l) = nI 2 ∧ rm_can a nc nl r l = true := by
  obtain ⟨_, h2, h3, _⟩ := rm_fst_some h
  obtain ⟨h4, h5⟩ := (Bool.and_eq_true _ _).mp h3
  exact ⟨by omega, of_decide_eq_true h4, h5⟩
/-- a quiet eldest has given all that it wrote to its circle -/
theorem iq_eld {a : zv_I} {nm nc nl c : Nat} (H : iv a nm nc nl 0) (hc : c < nc) (Q : iq a nc nl (rm_el a c)) : ∀ s l, l < nl → rm_ci a l = c → rm_wr a l = rm_el a c → iv_s a l = s → a 20 (200 * rm_el a c + l) = nI 3 := by
  have n0 := (xI_n0 H).2
  have n1 := (xI_n1 H).2
  intro s
  induction s using Nat.strongRecOn with
  | ind s ih =>
    intro l hl h1 h2 h3
    have hwm := (xI_lw H l hl).2
    have h8 : rm_el a c < 8 := by rw [← h2]; omega
    have hin := xI_li H l hl
    rw [h1, h2] at hin
    rcases xI_st H (rm_el a c) l h8 hl with ⟨z, _⟩ | ⟨_, z | z | z⟩
    · rw [h1, hin] at z; cases z
    · -- on the line to its own writer: never
      exact absurd z (iq_w H hl h2)
    · -- held: it could be given
      exfalso
      have hq := Q l hl z
      have hs := (xI_ls H l hl).2
      have hgs : iv_s a l - 1 ≤ iv_g a (rm_el a c) c (rm_el a c) := by
        by_cases y : iv_s a l = 1
        · omega
        · obtain ⟨x, x1, x2, x3, x4⟩ := xI_lx H (rm_el a c) c (iv_s a l - 1) h8 (by omega) (by omega) (by rw [h1, h2] at hs; omega)
          have := (xI_gs H (rm_el a c) x h8 x1).mp (ih (iv_s a l - 1) (by omega) x x1 x3 x2 x4)
          rw [x2, x3, x4] at this
          exact this
      have hlk : rm_lkg a nc (rm_el a c) l = none := by
        refine rm_fst_none.mpr fun k _ hk => ?_
        unfold rm_lkp rm_ask
        cases r1 : rm_row a l (k / 8) with
        | false => rfl
        | true =>
          cases r2 : rm_in a (rm_el a c) (k / 8) with
          | false => rfl
          | true =>
            have h9 : ¬ 0 < rm_lk a (rm_el a c) l (k / 8) (k % 8) := by
              rw [iv_lk H h8 hl (by omega) (by omega)]
              by_cases v : k / 8 = rm_ci a l ∧ k % 8 = rm_wr a l
              · rw [if_pos v, v.1, v.2, h1, h2]; omega
              · rw [if_neg v]
                have := xI_cl H l (k / 8) (k % 8) hl (by omega) (by omega) r1 (by rw [h2]; exact r2) v
                rw [h2] at this
                omega
            rw [decide_eq_false h9, Bool.and_false]
      unfold rm_can at hq
      rw [hlk, h1, decide_eq_true (Or.inr rfl)] at hq
      cases hq
    · exact z
