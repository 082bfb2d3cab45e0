def lst (p : Nat → Bool) : Nat → Nat → Option Nat
  | 0, _ => none
  | n + 1, k => match lst p n (k + 1) with
    | some x => some x
    | none => if p k = true then some k else none
theorem lst_none {p : Nat → Bool} : ∀ {n k : Nat}, lst p n k = none → ∀ y, k ≤ y → y < k + n → p y = false
  | 0, _, _, y, h1, h2 => by omega
  | n + 1, k, h, y, h1, h2 => by
    have h : (match lst p n (k + 1) with | some x => some x | none => if p k = true then some k else none) = none := h
    cases hx : lst p n (k + 1) with
    | some x => rw [hx] at h; cases h
    | none =>
      rw [hx] at h
      have h : (if p k = true then some k else none) = none := h
      by_cases q : p k = true
      · rw [if_pos q] at h; cases h
      · by_cases z : y = k
        · rw [z]; cases hp : p k; rfl; exact absurd hp q
        · exact lst_none hx y (by omega) (by omega)
theorem lst_some {p : Nat → Bool} : ∀ {n k x : Nat}, lst p n k = some x → k ≤ x ∧ x < k + n ∧ p x = true ∧ ∀ y, x < y → y < k + n → p y = false
  | 0, _, _, h => by cases h
  | n + 1, k, x, h => by
    have h : (match lst p n (k + 1) with | some x => some x | none => if p k = true then some k else none) = some x := h
    cases hx : lst p n (k + 1) with
    | some y =>
      rw [hx] at h
      have h : some y = some x := h
      rw [Option.some.inj h] at hx
      obtain ⟨h1, h2, h3, h4⟩ := lst_some hx
      exact ⟨by omega, by omega, h3, fun y g1 g2 => h4 y g1 (by omega)⟩
    | none =>
      rw [hx] at h
      have h : (if p k = true then some k else none) = some x := h
      by_cases q : p k = true
      · rw [if_pos q] at h
        rw [← Option.some.inj h]
        refine ⟨Nat.le_refl _, by omega, q, fun y g1 g2 => ?_⟩
        exact lst_none hx y (by omega) (by omega)
      · rw [if_neg q] at h; cases h
theorem lnF_s {p : Nat → Bool} {j : Nat} : ∀ n k, rm_lnF p 0 n k (some j) = some j
  | 0, _ => rfl
  | n + 1, k => by
    show rm_lnF p 0 n (k + 1) (if (p k && ((some j).isNone || decide (0 = 1))) = true then some k else some j) = some j
    rw [if_neg (by rw [show ((some j).isNone || decide (0 = 1)) = false from rfl, Bool.and_false]; decide)]
    exact lnF_s n (k + 1)
theorem lnF_0 {p : Nat → Bool} : ∀ n k, rm_lnF p 0 n k none = rm_fst p n k
  | 0, _ => rfl
  | n + 1, k => by
    show rm_lnF p 0 n (k + 1) (if (p k && ((none : Option Nat).isNone || decide (0 = 1))) = true then some k else none) = _
    cases hp : p k with
    | true => rw [rm_fst_t hp]; exact lnF_s n (k + 1)
    | false => rw [rm_fst_f hp]; exact lnF_0 n (k + 1)
theorem lnF_1 {p : Nat → Bool} : ∀ n k fo, rm_lnF p 1 n k fo = (match lst p n k with | some x => some x | none => fo)
  | 0, _, _ => rfl
  | n + 1, k, fo => by
    show rm_lnF p 1 n (k + 1) (if (p k && (fo.isNone || decide (1 = 1))) = true then some k else fo) = (match (match lst p n (k + 1) with | some x => some x | none => if p k = true then some k else none) with | some x => some x | none => fo)
    rw [lnF_1 n (k + 1)]
    cases hx : lst p n (k + 1) with
    | some y => rfl
    | none =>
      cases hp : p k with
      | true => rw [show (fo.isNone || decide (1 = 1)) = true from by cases fo <;> rfl]; rfl
      | false => rfl
theorem nw_ln {a : zv_I} {nm nl c wy : Nat} (hw : wy < 2) : cr_nw a nm nl c wy nl 0 = rm_lnd a nm nl c wy := by
  unfold cr_nw rm_lnd
  rcases (show wy = 0 ∨ wy = 1 by omega) with rfl | rfl
  · have e : rm_fst (fun k => rm_lnp a nm c (cr_wi nl 0 k)) nl 0 = rm_fst (rm_lnp a nm c) nl 0 := cr_fst_c (fun i _ _ => rfl)
    rw [lnF_0, e]
    cases rm_fst (rm_lnp a nm c) nl 0 <;> rfl
  · rw [lnF_1]
    cases hx : lst (rm_lnp a nm c) nl 0 with
    | none =>
      rw [rm_fst_none.mpr fun i _ hi => ?_]
      · rfl
      · show rm_lnp a nm c (nl - 1 - i) = false
        exact lst_none hx _ (Nat.zero_le _) (by omega)
    | some x =>
      obtain ⟨h1, h2, h3, h4⟩ := lst_some hx
      have e : rm_fst (fun k => rm_lnp a nm c (cr_wi nl 1 k)) nl 0 = some (nl - 1 - x) := by
        refine rm_fst_is (Nat.zero_le _) (by omega) ?_ (fun i _ hi => ?_)
        · show rm_lnp a nm c (nl - 1 - (nl - 1 - x)) = true
          rw [show nl - 1 - (nl - 1 - x) = x by omega]; exact h3
        · show rm_lnp a nm c (nl - 1 - i) = false
          exact h4 _ (by omega) (by omega)
      rw [e]
      show some (nl - 1 - (nl - 1 - x)) = some x
      congr 1
      omega
theorem ln_some {a : zv_I} {nm nl c wy l : Nat} (hw : wy < 2) (h : rm_lnd a nm nl c wy = some l) : l < nl ∧ rm_lof a nm l = some ((rm_lof a nm l).getD 0) ∧ (rm_lof a nm l).getD 0 < nm ∧ a 20 (200 * (rm_lof a nm l).getD 0 + l) = nI 1 := by
  rw [← nw_ln hw] at h
  unfold cr_nw at h
  obtain ⟨k, hk, hl⟩ := Option.map_eq_some_iff.mp h
  obtain ⟨h1, h2, h3, _⟩ := rm_fst_some hk
  have h3 : rm_lnp a nm c (cr_wi nl wy k) = true := h3
  rw [hl] at h3
  have hlt : l < nl := by rw [← hl]; unfold cr_wi; split <;> omega
  have h4 := ((Bool.and_eq_true _ _).mp h3).2
  obtain ⟨m, hm⟩ := Option.isSome_iff_exists.mp h4
  obtain ⟨g1, g2, g3, _⟩ := rm_fst_some hm
  rw [hm]
  exact ⟨hlt, rfl, by show m < nm; omega, of_decide_eq_true g3⟩
/-- what has come: a measure -/
def dD (a : zv_I) : Nat := rm_cnt (fun k => decide (a 20 k = nI 2 ∨ a 20 k = nI 3)) 1600
theorem dD_hold {a : zv_I} {m l : Nat} (hm : m < 8) (hl : l < 200) (hs : a 20 (200 * m + l) = nI 1) : dD a < dD (rm_hld a m l) := by
  have e : ∀ i, rm_hld a m l 20 i = if i = 200 * m + l then nI 2 else a 20 i := fun i => by
    unfold rm_hld
    rw [put_20]
    by_cases q : i = 200 * m + l
    · rw [if_pos q, q, zv_u_s]
    · rw [if_neg q, zv_u_j _ _ q]
  refine cnt_lt (x := 200 * m + l) (decide_eq_false (by rw [hs]; decide)) (decide_eq_true (by rw [e, if_pos rfl]; exact Or.inl rfl)) (by omega) (fun i hi h => ?_)
  have h := of_decide_eq_true h
  refine decide_eq_true ?_
  rw [e]
  by_cases q : i = 200 * m + l
  · rw [if_pos q]; exact Or.inl rfl
  · rw [if_neg q]; exact h
theorem dD_giv {r l nm nc nl : Nat} {a : zv_I} (h : iP r a nm nc nl) (hx : rm_nxt a nc nl r = some l) : dD a ≤ dD (rm_giv a nm nc nl r l) := by
  obtain ⟨H, hr, Q⟩ := h
  obtain ⟨hl, hh, hc⟩ := nx_some hx
  obtain ⟨S, H1⟩ := iv_gP H hr hl hh hc
  refine cnt_le fun i hi hp => ?_
  have hp := of_decide_eq_true hp
  have e : i = 200 * (i / 200) + i % 200 := by omega
  have h1 : rm_gP a nl r l 20 i = nI 2 ∨ rm_gP a nl r l 20 i = nI 3 := by
    rw [e, xG_s S (i / 200) (i % 200) (by omega) (by omega), ← e]
    split
    · exact Or.inr rfl
    · exact hp
  refine decide_eq_true ?_
  cases hg : gd a r l with
  | false => rw [giv_f hg]; exact h1
  | true =>
    rw [giv_t hg]
    obtain ⟨k1, k2, k3⟩ := gd_15 H hl hh hg
    have hnl := iv_room H hl k1 k3
    rw [if_pos hg] at H1
    rw [e, xN_s (iv_g6 H hr hl hh hc hg).1 (i / 200) (i % 200) (by omega) (by omega), ← e]
    split
    · rename_i z
      rw [e, z, xI_zs H1 (i / 200) nl (by omega) (Nat.le_refl _) hnl] at h1
      exact absurd h1 (by decide)
    · exact h1
theorem dD_gvs {r : Nat} : ∀ F a nm nc nl g, iP r a nm nc nl → dD a ≤ dD (rm_gvs r F a g).1
  | 0, _, _, _, _, _, _ => Nat.le_refl _
  | F + 1, a, nm, nc, nl, g, h => by
    obtain ⟨e0, e1, e4⟩ := iv_NM h.1
    cases hx : rm_nx a r with
    | none => rw [gvs_n hx]; exact Nat.le_refl _
    | some l =>
      rw [gvs_s hx]
      have hx2 : rm_nxt a nc nl r = some l := by rw [← hx]; unfold rm_nx; rw [e1, e4]
      have ea : rm_gv a r l = rm_giv a nm nc nl r l := by unfold rm_gv; rw [e0, e1, e4]
      rw [ea]
      exact Nat.le_trans (dD_giv h hx2) (dD_gvs F _ nm nc _ (g + 1) (iP_step h hx2).1)
def iQe (nm nc : Nat) (a : zv_I) : Prop := ∃ nl, iQ a nm nc nl
/-- one letter brought -/
theorem dl1_ok {a : zv_I} {nm nc nl c wy l : Nat} (hQ : iQ a nm nc nl) (hw : wy < 2) (hx : rm_ln a c wy = some l) : l < nl ∧ rm_lof a nm l = some (rm_lo a l) ∧ rm_lo a l < nm ∧ a 20 (200 * rm_lo a l + l) = nI 1 ∧ iP (rm_lo a l) (rm_hld a (rm_lo a l) l) nm nc nl ∧ iQ (rm_dl1 201 a l) nm nc (rm_NL (rm_dl1 201 a l)) ∧ nl ≤ rm_NL (rm_dl1 201 a l) ∧ dD a < dD (rm_dl1 201 a l) := by
  obtain ⟨e0, e1, e4⟩ := iv_NM hQ.1
  have n0 := (xI_n0 hQ.1).2
  have n4 := (xI_n4 hQ.1).2
  unfold rm_ln at hx
  rw [e0, e4] at hx
  obtain ⟨h1, h2, h3, h4⟩ := ln_some hw hx
  have e : rm_lo a l = (rm_lof a nm l).getD 0 := by unfold rm_lo; rw [e0]
  rw [← e] at h2 h3 h4
  have hP := iQ_hold hQ h3 h1 h4
  have hq := gvs_iQ (F := 201) (g := 0) hP (gvt_201 hP)
  exact ⟨h1, h2, h3, h4, hP, hq.1, hq.2, Nat.lt_of_lt_of_le (dD_hold (by omega) (by omega) h4) (dD_gvs 201 _ nm nc nl 0 hP)⟩
theorem dlt_ok {c wy : Nat} (hw : wy < 2) : ∀ f a nm nc nl, iQ a nm nc nl → 1600 < f + dD a → rm_dlt 201 c wy f a = true
  | 0, a, nm, nc, nl, _, hf => by
    have := rm_cnt_le (fun k => decide (a 20 k = nI 2 ∨ a 20 k = nI 3)) 1600
    unfold dD at hf
    omega
  | f + 1, a, nm, nc, nl, hQ, hf => by
    show (match rm_ln a c wy with | none => true | some l => rm_dlt 201 c wy f (rm_dl1 201 a l)) = true
    cases hx : rm_ln a c wy with
    | none => rfl
    | some l =>
      obtain ⟨_, _, _, _, _, h6, _, h8⟩ := dl1_ok hQ hw hx
      exact dlt_ok hw f _ nm nc _ h6 (by omega)
theorem dst_ok {c wy nm nc : Nat} (hw : wy < 2) : rm_dst iZ (iQe nm nc) 201 c wy := by
  rintro a ⟨nl, hQ⟩
  obtain ⟨e0, e1, e4⟩ := iv_NM hQ.1
  have n0 := xI_n0 hQ.1
  have n4 := xI_n4 hQ.1
  rw [e0, e4]
  refine ⟨⟨n0.1, n0.2, n4.1, n4.2⟩, fun l hx => ?_⟩
  obtain ⟨h1, h2, h3, h4, h5, h6, _, _⟩ := dl1_ok hQ hw hx
  exact ⟨by omega, h2, by omega, iP_stay _, ⟨nm, nc, nl, h5⟩, gvt_201 h5, ⟨_, h6⟩⟩
theorem dls_n {F c wy f n : Nat} {a : zv_I} (hx : rm_ln a c wy = none) : rm_dls F c wy (f + 1) a n = (a, n) := by
  show (match rm_ln a c wy with | none => (a, n) | some l => rm_dls F c wy f (rm_dl1 F a l) (n + 1)) = _
  rw [hx]
theorem dls_s {F c wy f n l : Nat} {a : zv_I} (hx : rm_ln a c wy = some l) : rm_dls F c wy (f + 1) a n = rm_dls F c wy f (rm_dl1 F a l) (n + 1) := by
  show (match rm_ln a c wy with | none => (a, n) | some l => rm_dls F c wy f (rm_dl1 F a l) (n + 1)) = _
  rw [hx]
theorem dls_Q {c wy : Nat} (hw : wy < 2) : ∀ f a nm nc nl n, iQ a nm nc nl → iQ (rm_dls 201 c wy f a n).1 nm nc (rm_NL (rm_dls 201 c wy f a n).1) ∧ nl ≤ rm_NL (rm_dls 201 c wy f a n).1
  | 0, a, nm, nc, nl, n, hQ => by
    have e4 := (iv_NM hQ.1).2.2
    show iQ a nm nc (rm_NL a) ∧ nl ≤ rm_NL a
    rw [e4]
    exact ⟨hQ, Nat.le_refl _⟩
  | f + 1, a, nm, nc, nl, n, hQ => by
    cases hx : rm_ln a c wy with
    | none =>
      rw [dls_n hx]
      have e4 := (iv_NM hQ.1).2.2
      show iQ a nm nc (rm_NL a) ∧ nl ≤ rm_NL a
      rw [e4]
      exact ⟨hQ, Nat.le_refl _⟩
    | some l =>
      rw [dls_s hx]
      obtain ⟨_, _, _, _, _, h6, h7, _⟩ := dl1_ok hQ hw hx
      obtain ⟨g1, g2⟩ := dls_Q hw f _ nm nc _ (n + 1) h6
      exact ⟨g1, Nat.le_trans h7 g2⟩
