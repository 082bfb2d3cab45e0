theorem lkg_c {a b : zv_I} {nc r x : Nat} (hn : nc ≤ 6) (h6 : b 6 = a 6) (h11 : b 11 x = a 11 x) (h12 : b 12 x = a 12 x) (h13 : b 13 x = a 13 x) (h18 : b 18 x = a 18 x) (h19 : ∀ j, j < 48 → b 19 (48 * x + j) = a 19 (48 * x + j)) (h21 : ∀ j, j < 48 → b 21 (48 * r + j) = a 21 (48 * r + j)) : rm_lkg b nc r x = rm_lkg a nc r x := by
  refine cr_fst_c fun k _ hk => ?_
  have e1 : rm_ask b r x k = rm_ask a r x k := by
    unfold rm_ask rm_row
    rw [rm_in_o h6, rm_in_o h6, h18]
  have e2 : rm_lk b r x (k / 8) (k % 8) = rm_lk a r x (k / 8) (k % 8) := by
    have g1 := h19 (8 * (k / 8) + k % 8) (by omega)
    have g2 := h21 (8 * (k / 8) + k % 8) (by omega)
    rw [← Nat.add_assoc] at g1 g2
    unfold rm_lk
    rw [h11, h12, h13, g1, g2]
  unfold rm_lkp
  rw [e1, e2]
theorem can_mk {a : zv_I} {nc nl r l : Nat} (h1 : rm_lkg a nc r l = none) (h2 : ¬ a 10 l = nI 2 ∨ r = rm_el a (rm_ci a l) ∨ (rm_hor a r l = true ∧ rm_hlo a nl r l = true)) : rm_can a nc nl r l = true := by
  unfold rm_can
  rw [h1]
  rcases h2 with h | h | ⟨h, g⟩
  · rw [decide_eq_true (Or.inl h)]; rfl
  · rw [decide_eq_true (Or.inr h)]; rfl
  · rw [h, g, Bool.and_true, Bool.or_true]; rfl
theorem iq_give {a : zv_I} {nm nc nl r l r' : Nat} (H : iv a nm nc nl 0) (hr : r < nm) (hl : l < nl) (hh : a 20 (200 * r + l) = nI 2) (hc : rm_can a nc nl r l = true) (hr' : r' < 8) (hne : r' ≠ r) (Q : iq a nc nl r') : iq (rm_gP a nl r l) nc nl r' := by
  have n0 := (xI_n0 H).2
  have n1 := (xI_n1 H).2
  have n4 := (xI_n4 H).2
  obtain ⟨S, H1⟩ := iv_gP H hr hl hh hc
  have eo : ∀ t, t ≠ 7 → t ≠ 15 → t ≠ 16 → t ≠ 20 → t ≠ 21 → t ≠ 24 → t ≠ 25 → t ≠ 27 → rm_gP a nl r l t = a t := xG_o S
  have e6 := eo 6 (by decide) (by decide) (by decide) (by decide) (by decide) (by decide) (by decide) (by decide)
  have ein : rm_in (rm_gP a nl r l) = rm_in a := by funext m c; exact rm_in_o e6 m c
  have eel : rm_el (rm_gP a nl r l) = rm_el a := by funext c; unfold rm_el; rw [ein]
  have e10 := eo 10 (by decide) (by decide) (by decide) (by decide) (by decide) (by decide) (by decide) (by decide)
  have e11 := eo 11 (by decide) (by decide) (by decide) (by decide) (by decide) (by decide) (by decide) (by decide)
  have e12 := eo 12 (by decide) (by decide) (by decide) (by decide) (by decide) (by decide) (by decide) (by decide)
  have e13 := eo 13 (by decide) (by decide) (by decide) (by decide) (by decide) (by decide) (by decide) (by decide)
  have e18 := eo 18 (by decide) (by decide) (by decide) (by decide) (by decide) (by decide) (by decide) (by decide)
  have e19 := eo 19 (by decide) (by decide) (by decide) (by decide) (by decide) (by decide) (by decide) (by decide)
  have eci : rm_ci (rm_gP a nl r l) = rm_ci a := by funext x; unfold rm_ci; rw [e11]
  have est : ∀ x, x < 200 → rm_gP a nl r l 20 (200 * r' + x) = a 20 (200 * r' + x) := fun x hx => by rw [xG_s S r' x hr' hx, if_neg (fun z => hne z.1)]
  intro x hx hxh
  rw [est x (by omega)] at hxh
  cases hcb : rm_can (rm_gP a nl r l) nc nl r' x with
  | false => rfl
  | true =>
    exfalso
    obtain ⟨k1, k2⟩ := rm_can_k hcb
    rw [lkg_c n1 e6 (congrFun e11 x) (congrFun e12 x) (congrFun e13 x) (congrFun e18 x) (fun j _ => congrFun e19 _) (fun j hj => by
      have := xG_g S r' (j / 8) (j % 8) hr' (by omega) (by omega)
      rw [if_neg (fun z => hne z.1), show 48 * r' + 8 * (j / 8) + j % 8 = 48 * r' + j by omega] at this
      exact this)] at k1
    have hfa := Q x hx hxh
    refine absurd (can_mk k1 ?_) (by rw [hfa]; decide)
    rcases k2 with k2 | k2 | ⟨k2, k3⟩
    · rw [e10] at k2; exact Or.inl k2
    · rw [eel, eci] at k2; exact Or.inr (Or.inl k2)
    · by_cases hx2 : a 10 x = nI 2
      · by_cases hre : r' = rm_el a (rm_ci a x)
        · exact Or.inr (Or.inl hre)
        · refine Or.inr (Or.inr ?_)
          have hnot : ¬ (gd a r l = true ∧ x = l) := by
            rintro ⟨g1, g2⟩
            obtain ⟨q1, q2, q3⟩ := gd_15 H hl hh g1
            have hnl := iv_room H hl q1 q3
            rw [g2] at hxh k2 hre
            unfold rm_hor at k2
            rcases (Bool.or_eq_true _ _).mp k2 with z | z
            · have z1 := (of_decide_eq_true z).1
              rw [e12, eel, eci, (xI_lw H l hl).1] at z1
              have h8 : rm_el a (rm_ci a l) < 8 := by rw [← q2]; omega
              have z2 : rm_wr a l = rm_el a (rm_ci a l) := nI_ij z1 (by have := (xI_lw H l hl).2; omega) (by omega)
              exact xI_nk H l r' hl hr' q1 z2 (by rw [z2]; exact hre) (Or.inl hxh) q3
            · have z1 := (of_decide_eq_true z).2
              have e16 : rm_gP a nl r l 16 l = nI nl := by rw [xG_or S l, if_pos ⟨g1, rfl⟩]
              have eor : rm_or (rm_gP a nl r l) l = nl := by unfold rm_or; rw [e16]; exact rm_nv_n (by omega)
              rw [eor, est nl hnl, xI_zs H r' nl hr' (Nat.le_refl _) hnl] at z1
              exact absurd z1 (by decide)
          have e15 : rm_gP a nl r l 15 x = a 15 x := by rw [xG_n S x, if_neg hnot]
          have e16 : rm_gP a nl r l 16 x = a 16 x := by rw [xG_or S x, if_neg hnot]
          refine ⟨?_, ?_⟩
          · unfold rm_hor at k2 ⊢
            rw [e12, eel, eci, e15, e16] at k2
            have eor : rm_or (rm_gP a nl r l) x = rm_or a x := by unfold rm_or; rw [e16]
            rcases (Bool.or_eq_true _ _).mp k2 with z | z
            · rw [z]; rfl
            · have z := of_decide_eq_true z
              obtain ⟨_, o, g1, g2⟩ := (xI_no H x hx).resolve_left (fun y => z.1 y.1)
              have g3 : rm_or a x = o := by unfold rm_or; rw [g2]; exact rm_nv_n (by omega)
              rw [eor, g3, est o (by omega)] at z
              rw [g3, decide_eq_true z, Bool.or_true]
          · refine rm_all_iff.mpr fun y _ hy => ?_
            have hy2 := rm_all_iff.mp k3 y (Nat.zero_le _) hy
            unfold rm_lok at hy2 ⊢
            cases hlow : rm_low a x y with
            | false => rfl
            | true =>
              have hlo := of_decide_eq_true hlow
              have e15y : rm_gP a nl r l 15 y = a 15 y := by
                rw [xG_n S y, if_neg (fun z => ?_)]
                have := (gd_15 H hl hh z.1).2.2
                rw [← z.2] at this
                exact hlo.2.2.1 this
              have hlb : rm_low (rm_gP a nl r l) x y = true := by
                unfold rm_low
                rw [e10, e11, e15, e15y]
                exact hlow
              rw [hlb, est y (by omega)] at hy2
              exact hy2
      · exact Or.inl hx2
theorem iq_new {a b : zv_I} {nm nc nl q w c r' : Nat} {kk x : Int32} (H : iv a nm nc nl q) (S : nS a b nl w c kk x) (hnl : nl < 200) (hr' : r' < 8) (hne : r' ≠ w) (Q : iq a nc nl r') (hq : q ≤ 1) : iq b nc (nl + 1) r' := by
  have n1 := (xI_n1 H).2
  have e6 := xN_o S 6 (by omega)
  have e21 := xN_o S 21 (by omega)
  have ein : rm_in b = rm_in a := by funext m c; exact rm_in_o e6 m c
  have eel : rm_el b = rm_el a := by funext c; unfold rm_el; rw [ein]
  have e : ∀ t y, 10 ≤ t → t ≤ 18 → y < nl → b t y = a t y := fun t y h1 h2 h3 => xN_l S t y h1 h2 (by omega)
  have est : ∀ y, y < nl → b 20 (200 * r' + y) = a 20 (200 * r' + y) := fun y hy => by rw [xN_s S r' y hr' (by omega), if_neg (by omega)]
  have esn : ¬ b 20 (200 * r' + nl) = nI 2 ∧ ¬ b 20 (200 * r' + nl) = nI 3 := by
    rw [xN_s S r' nl hr' hnl, if_pos rfl, if_neg hne]
    split <;> exact ⟨by decide, by decide⟩
  intro y hy hyh
  by_cases z : y = nl
  · rw [z] at hyh; exact absurd hyh esn.1
  have hy : y < nl := by omega
  rw [est y hy] at hyh
  have eci : rm_ci b y = rm_ci a y := by unfold rm_ci; rw [e 11 y (by omega) (by omega) hy]
  cases hcb : rm_can b nc (nl + 1) r' y with
  | false => rfl
  | true =>
    exfalso
    obtain ⟨k1, k2⟩ := rm_can_k hcb
    rw [lkg_c n1 e6 (e 11 y (by omega) (by omega) hy) (e 12 y (by omega) (by omega) hy) (e 13 y (by omega) (by omega) hy) (e 18 y (by omega) (by omega) hy) (fun j hj => xN_t S y j z (by omega) hj) (fun j _ => congrFun e21 _)] at k1
    refine absurd (can_mk k1 ?_) (by rw [Q y hy hyh]; decide)
    rcases k2 with k2 | k2 | ⟨k2, k3⟩
    · rw [e 10 y (by omega) (by omega) hy] at k2; exact Or.inl k2
    · rw [eel, eci] at k2; exact Or.inr (Or.inl k2)
    · refine Or.inr (Or.inr ⟨?_, ?_⟩)
      · unfold rm_hor at k2 ⊢
        rw [e 12 y (by omega) (by omega) hy, eel, eci, e 15 y (by omega) (by omega) hy, e 16 y (by omega) (by omega) hy] at k2
        have eor : rm_or b y = rm_or a y := by unfold rm_or; rw [e 16 y (by omega) (by omega) hy]
        rcases (Bool.or_eq_true _ _).mp k2 with v | v
        · rw [v]; rfl
        · have v := of_decide_eq_true v
          obtain ⟨_, o, g1, g2⟩ := (xI_no H y hy).resolve_left (fun u => v.1 u.1)
          have g3 : rm_or a y = o := by unfold rm_or; rw [g2]; exact rm_nv_n (by omega)
          rw [eor, g3] at v
          have g4 : o < nl := by
            by_cases u : o = nl
            · rw [u] at v; exact absurd v.2 esn.2
            · omega
          rw [est o g4] at v
          rw [g3, decide_eq_true v, Bool.or_true]
      · refine rm_all_iff.mpr fun v _ hv => ?_
        have hv2 := rm_all_iff.mp k3 v (Nat.zero_le _) (by omega)
        have hv : v < nl := by omega
        have hlb : rm_low b y v = rm_low a y v := by
          unfold rm_low
          rw [e 10 v (by omega) (by omega) hv, e 11 v (by omega) (by omega) hv, e 11 y (by omega) (by omega) hy, e 15 v (by omega) (by omega) hv, e 15 y (by omega) (by omega) hy]
        unfold rm_lok at hv2 ⊢
        rw [hlb, est v hv] at hv2
        exact hv2
theorem iq_hold {a : zv_I} {nm nc nl m l r' : Nat} (H : iv a nm nc nl 0) (hl : l < nl) (hne : r' ≠ m) (Q : iq a nc nl r') : iq (rm_hld a m l) nc nl r' := by
  have n1 := (xI_n1 H).2
  have n4 := (xI_n4 H).2
  have eo : ∀ t, t ≠ 20 → t ≠ 27 → rm_hld a m l t = a t := fun t h1 h2 => hl_o h1 h2
  have ein : rm_in (rm_hld a m l) = rm_in a := by funext m c; exact rm_in_o (eo 6 (by decide) (by decide)) m c
  have eel : rm_el (rm_hld a m l) = rm_el a := by funext c; unfold rm_el; rw [ein]
  have eci : rm_ci (rm_hld a m l) = rm_ci a := by funext x; unfold rm_ci; rw [eo 11 (by decide) (by decide)]
  have eor : rm_or (rm_hld a m l) = rm_or a := by funext x; unfold rm_or; rw [eo 16 (by decide) (by decide)]
  have est : ∀ y, y < 200 → rm_hld a m l 20 (200 * r' + y) = a 20 (200 * r' + y) := fun y hy => by rw [hl_20 (by omega) hy, if_neg (fun z => hne z.1)]
  intro y hy hyh
  rw [est y (by omega)] at hyh
  cases hcb : rm_can (rm_hld a m l) nc nl r' y with
  | false => rfl
  | true =>
    exfalso
    obtain ⟨k1, k2⟩ := rm_can_k hcb
    rw [lkg_c n1 (eo 6 (by decide) (by decide)) (congrFun (eo 11 (by decide) (by decide)) _) (congrFun (eo 12 (by decide) (by decide)) _) (congrFun (eo 13 (by decide) (by decide)) _) (congrFun (eo 18 (by decide) (by decide)) _) (fun j _ => congrFun (eo 19 (by decide) (by decide)) _) (fun j _ => congrFun (eo 21 (by decide) (by decide)) _)] at k1
    refine absurd (can_mk k1 ?_) (by rw [Q y hy hyh]; decide)
    rcases k2 with k2 | k2 | ⟨k2, k3⟩
    · rw [eo 10 (by decide) (by decide)] at k2; exact Or.inl k2
    · rw [eel, eci] at k2; exact Or.inr (Or.inl k2)
    · refine Or.inr (Or.inr ⟨?_, ?_⟩)
      · unfold rm_hor at k2 ⊢
        rw [eo 12 (by decide) (by decide), eel, eci, eo 15 (by decide) (by decide), eo 16 (by decide) (by decide), eor] at k2
        rcases (Bool.or_eq_true _ _).mp k2 with v | v
        · rw [v]; rfl
        · have v := of_decide_eq_true v
          obtain ⟨_, o, g1, g2⟩ := (xI_no H y hy).resolve_left (fun u => v.1 u.1)
          have g3 : rm_or a y = o := by unfold rm_or; rw [g2]; exact rm_nv_n (by omega)
          rw [g3, est o (by omega)] at v
          rw [g3, decide_eq_true v, Bool.or_true]
      · refine rm_all_iff.mpr fun v _ hv => ?_
        have hv2 := rm_all_iff.mp k3 v (Nat.zero_le _) hv
        unfold rm_lok rm_low at hv2 ⊢
        rw [eo 10 (by decide) (by decide), eo 11 (by decide) (by decide), eo 15 (by decide) (by decide), est v (by omega)] at hv2
        exact hv2
/-! a member that gives, the others quiet -/
def iP (r : Nat) (a : zv_I) (nm nc nl : Nat) : Prop := iv a nm nc nl 0 ∧ r < nm ∧ ∀ r', r' < nm → r' ≠ r → iq a nc nl r'
def iZ (r : Nat) (a : zv_I) : Prop := ∃ nm nc nl, iP r a nm nc nl
theorem iP_lw {a : zv_I} {nm nc nl q l : Nat} (H : iv a nm nc nl q) (hq : nl + q ≤ 200) (hl : l < nl) : rm_lw a nc l := by
  have h1 := xI_lc H l hl
  refine ⟨h1.1, h1.2, xI_ce H _ h1.2, fun h => ?_⟩
  obtain ⟨_, o, g1, g2⟩ := (xI_no H l hl).resolve_left (fun u => h u.1)
  have g3 : rm_or a l = o := by unfold rm_or; rw [g2]; exact rm_nv_n (by omega)
  rw [g3]
  exact ⟨g2, by omega⟩
theorem iP_step {r l nm nc nl : Nat} {a : zv_I} (h : iP r a nm nc nl) (hx : rm_nxt a nc nl r = some l) : iP r (rm_giv a nm nc nl r l) nm nc (nl + if gd a r l = true then 1 else 0) ∧ rm_giv a nm nc nl r l 25 r = nI (rm_nv (a 25 r) + 1) := by
  obtain ⟨H, hr, Q⟩ := h
  obtain ⟨hl, hh, hc⟩ := nx_some hx
  have n0 := (xI_n0 H).2
  obtain ⟨S, H1⟩ := iv_gP H hr hl hh hc
  refine ⟨⟨iv_giv H hr hl hh hc, hr, fun r' h1 h2 => ?_⟩, ?_⟩
  · cases hg : gd a r l with
    | true =>
      rw [giv_t hg, if_pos rfl]
      obtain ⟨k1, k2, k3⟩ := gd_15 H hl hh hg
      rw [if_pos hg] at H1
      exact iq_new H1 (iv_g6 H hr hl hh hc hg).1 (iv_room H hl k1 k3) (by omega) h2 (iq_give H hr hl hh hc (by omega) h2 (Q r' h1 h2)) (by omega)
    | false =>
      rw [giv_f hg, if_neg (by decide)]
      exact iq_give H hr hl hh hc (by omega) h2 (Q r' h1 h2)
  · have e : rm_gP a nl r l 25 r = nI (rm_nv (a 25 r) + 1) := by rw [xG_rm S r (by omega), if_pos rfl]
    cases hg : gd a r l with
    | true =>
      rw [giv_t hg, xN_o (iv_g6 H hr hl hh hc hg).1 25 (by omega)]
      exact e
    | false =>
      rw [giv_f hg]
      exact e
theorem iP_gh {r l nm nc nl : Nat} {a : zv_I} (h : iP r a nm nc nl) (hx : rm_nxt a nc nl r = some l) : rm_gh a nm nc nl r l := by
  obtain ⟨H, hr, Q⟩ := h
  obtain ⟨hl, hh, hc⟩ := nx_some hx
  have n0 := xI_n0 H
  have n1 := xI_n1 H
  have n4 := xI_n4 H
  have h25 := xI_rd H r (by omega)
  have hle := rm_cnt_le (fun x => decide (a 20 (200 * r + x) = nI 3)) nl
  refine ⟨n0.1, n0.2, n1.1, n1.2, n4.1, hl, n4.2, by omega, iP_lw H (by omega) hl, (xI_lw H l hl).1, by have := (xI_lw H l hl).2; omega, ?_, iv_rd H (by omega) hl hh, fun k1 k2 => ?_⟩
  · rw [h25, rm_nv_n (by omega)]
  · have k3 := (gd_15 H hl hh (decide_eq_true ⟨k1, k2⟩)).2.2
    have hnl := iv_room H hl k1 k3
    exact ⟨hnl, fun y hy => xI_bz H nl y hnl (by omega) (Or.inr (Nat.le_refl _))⟩
theorem iP_stay (r : Nat) : rm_stay (iZ r) r := by
  rintro a ⟨nm, nc, nl, h⟩
  obtain ⟨e0, e1, e4⟩ := iv_NM h.1
  have n1 := xI_n1 h.1
  have n4 := xI_n4 h.1
  unfold rm_nh rm_nx rm_gv
  rw [e0, e1, e4]
  refine ⟨⟨n1.1, n1.2, n4.1, n4.2, fun l hl => iP_lw h.1 (by omega) hl⟩, fun l hl => ⟨iP_gh h hl, nm, nc, _, (iP_step h hl).1⟩⟩
theorem gvt_ok {r : Nat} : ∀ F a nm nc nl, iP r a nm nc nl → 200 < F + rm_nv (a 25 r) → rm_gvt r F a = true
  | 0, a, nm, nc, nl, h, hF => by
    exfalso
    have n0 := (xI_n0 h.1).2
    have n4 := (xI_n4 h.1).2
    have h25 := xI_rd h.1 r (by have := h.2.1; omega)
    have hle := rm_cnt_le (fun x => decide (a 20 (200 * r + x) = nI 3)) nl
    rw [h25, rm_nv_n (by omega)] at hF
    omega
  | F + 1, a, nm, nc, nl, h, hF => by
    obtain ⟨e0, e1, e4⟩ := iv_NM h.1
    show (match rm_nx a r with | none => true | some l => rm_gvt r F (rm_gv a r l)) = true
    cases hx : rm_nx a r with
    | none => rfl
    | some l =>
      have hx2 : rm_nxt a nc nl r = some l := by rw [← hx]; unfold rm_nx; rw [e1, e4]
      have hs := iP_step h hx2
      have h9 := iv_rd h.1 (by have := h.2.1; have := (xI_n0 h.1).2; omega) (nx_some hx2).1 (nx_some hx2).2.1
      show rm_gvt r F (rm_gv a r l) = true
      unfold rm_gv
      rw [e0, e1, e4]
      refine gvt_ok F _ nm nc _ hs.1 ?_
      rw [hs.2, rm_nv_n (by omega)]
      omega
/-- all are quiet -/
def iQ (a : zv_I) (nm nc nl : Nat) : Prop := iv a nm nc nl 0 ∧ ∀ r, r < nm → iq a nc nl r
theorem iQ_P {a : zv_I} {nm nc nl r : Nat} (h : iQ a nm nc nl) (hr : r < nm) : iP r a nm nc nl := ⟨h.1, hr, fun r' h1 _ => h.2 r' h1⟩
theorem iP_Q {a : zv_I} {nm nc nl r : Nat} (h : iP r a nm nc nl) (hx : rm_nxt a nc nl r = none) : iQ a nm nc nl := ⟨h.1, fun r' h1 => by
  by_cases e : r' = r
  · rw [e]; exact iq_nx.mp hx
  · exact h.2.2 r' h1 e⟩
/-- what a quiet world says of a sealed letter of its eldest's -/
theorem iQ_K {a : zv_I} {nm nc nl l : Nat} (h : iQ a nm nc nl) (hl : l < nl) (h1 : a 10 l = nI 2) (h2 : rm_wr a l = rm_el a (rm_ci a l)) : ¬ a 15 l = -1 := by
  have hw := (xI_lw h.1 l hl).2
  have hc := (xI_lc h.1 l hl).2
  exact (xI_ne h.1 l hl h1).mpr (iq_eld h.1 hc (h.2 _ (by rw [← h2]; exact hw)) _ l hl rfl h2 rfl)
theorem iQ_hold {a : zv_I} {nm nc nl m l : Nat} (h : iQ a nm nc nl) (hm : m < nm) (hl : l < nl) (hs : a 20 (200 * m + l) = nI 1) : iP m (rm_hld a m l) nm nc nl := ⟨iv_hold h.1 hm hl hs (iQ_K h hl), hm, fun r' h1 h2 => iq_hold h.1 hl h2 (h.2 r' h1)⟩
theorem iQ_c4 {a : zv_I} {nm nc nl w c k : Nat} {x : Int32} (h : iQ a nm nc nl) (hA : rm_NA a < 100) (hw : w < nm) (hc : c < nc) (hin : rm_in a w c = true) (hk : k < 6) (hk3 : k ≠ 3) : iP w (rm_c4 a nm nc nl (nI k) w c x) nm nc (nl + 1) := ⟨iv_c4 h.1 hA hw hc hin hk hk3, hw, fun r' h1 h2 => iq_new h.1 (c4_nS h.1 (iv_room1 h.1 hA) hw hc) (iv_room1 h.1 hA) (by have := (xI_n0 h.1).2; omega) h2 (h.2 r' h1) (by omega)⟩
