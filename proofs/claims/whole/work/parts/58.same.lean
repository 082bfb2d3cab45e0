theorem fst_add {p : Nat → Bool} : ∀ m n k, rm_fst p (m + n) k = (match rm_fst p m k with | some j => some j | none => rm_fst p n (k + m))
  | 0, n, k => by rw [Nat.zero_add]; rfl
  | m + 1, n, k => by
    rw [show m + 1 + n = (m + n) + 1 by omega]
    cases hp : p k with
    | true => rw [rm_fst_t hp, rm_fst_t hp]
    | false =>
      rw [rm_fst_f hp, rm_fst_f hp, fst_add m n (k + 1), show k + 1 + m = k + (m + 1) by omega]
theorem fst_sh {p : Nat → Bool} {k : Nat} : ∀ n s, rm_fst p n (k + s) = (rm_fst (fun m => p (k + m)) n s).map (fun m => k + m)
  | 0, s => rfl
  | n + 1, s => by
    cases hp : p (k + s) with
    | true => rw [rm_fst_t hp, rm_fst_t (p := fun m => p (k + m)) hp]; rfl
    | false => rw [rm_fst_f hp, rm_fst_f (p := fun m => p (k + m)) hp]; exact fst_sh n (s + 1)
theorem fst_cut {p r : Nat → Bool} {n m : Nat} (hn : n ≤ m) (h1 : ∀ i, i < n → p i = r i) (h2 : ∀ i, n ≤ i → i < m → r i = false) : rm_fst p n 0 = rm_fst r m 0 := by
  rw [cr_fst_c (q := r) (fun i _ hi => h1 i (by omega)), show m = n + (m - n) by omega, fst_add]
  cases hx : rm_fst r n 0 with
  | some j => rfl
  | none => exact (rm_fst_none.mpr fun i g1 g2 => h2 i (by omega) (by omega)).symm
theorem fls_fst {P : Nat → Bool} {p : Nat → Option Nat} : ∀ n e, (∀ i, e ≤ i → i < e + n → p i = rm_fst (fun m => P (8 * i + m)) 8 0) → cc_fls p n e = rm_fst P (8 * n) (8 * e)
  | 0, e, _ => rfl
  | n + 1, e, h => by
    have h0 := h e (Nat.le_refl _) (by omega)
    have h1 := fst_sh (p := P) (k := 8 * e) 8 0
    rw [Nat.add_zero] at h1
    rw [show 8 * (n + 1) = 8 + 8 * n by omega, fst_add, h1]
    cases hx : rm_fst (fun m => P (8 * e + m)) 8 0 with
    | some m =>
      rw [cc_fls_s (h0.trans hx)]
      show some (e * 8 + m) = some (8 * e + m)
      rw [Nat.mul_comm]
    | none =>
      rw [cc_fls_n (h0.trans hx), fls_fst n (e + 1) fun i g1 g2 => h i (by omega) (by omega)]
      show _ = rm_fst P (8 * n) (8 * e + 8)
      rw [show 8 * (e + 1) = 8 * e + 8 by omega]
/-- a count that is asked for, in numbers -/
theorem iv_need {a : zv_I} {nm nc nl q l e m : Nat} (H : iv a nm nc nl q) (hl : l < nl) (he : e < 6) (hm : m < 8) : (if nI e = a 11 l ∧ nI m = a 12 l then a 13 l - nI 1 else a 19 (48 * l + 8 * e + m)) = nI (if e = rm_ci a l ∧ m = rm_wr a l then iv_s a l - 1 else iv_c a l e m) := by
  have h1 := xI_lc H l hl
  have h2 := xI_lw H l hl
  have h3 := xI_ls H l hl
  have h5 := xI_ck H l e m hl he hm
  have n1 := (xI_n1 H).2
  have n0 := (xI_n0 H).2
  rw [h5.1, h3.1, h1.1, h2.1]
  by_cases z : e = rm_ci a l ∧ m = rm_wr a l
  · rw [if_pos ⟨congrArg nI z.1, congrArg nI z.2⟩, if_pos z]
    have : nI (iv_s a l) = nI (iv_s a l - 1) + nI 1 := by rw [nI_add]; congr 1; omega
    rw [this, Int32.add_sub_cancel]
  · rw [if_neg (fun v => z ⟨nI_ij v.1 (by omega) (by omega), nI_ij v.2 (by omega) (by omega)⟩), if_neg z]
theorem cr_flk {sh : zv_S} {I : zv_I} {J : zv_J} {R : zv_R} {a : zv_I} {nm nc nl q r l : Nat} (RL : cr_R sh I J R a nm nc nl) (H : iv a nm nc nl q) (hr : r < nm) (hl : l < nl) : cc_flk I R nm nc r l = rm_lkg a nc r l := by
  have n0 := (xI_n0 H).2
  have n1 := (xI_n1 H).2
  have n4 := (xI_n4 H).2
  have L := xR_L RL l hl
  refine fls_fst (P := rm_lkp a r l) nc 0 fun e _ he => ?_
  have he : e < nc := by omega
  unfold cc_flp
  have hb : cb (I (50 + e) 0) r = rm_in a r e := by rw [xC_b (xR_C RL e he)]; rfl
  have hrw : (cc_rw R (cc_ck R l) e).isSome = rm_row a l e := xL_r L e (by omega)
  rw [hb, hrw]
  have e8 : ∀ m, m < 8 → rm_lkp a r l (8 * e + m) = ((rm_row a l e && (rm_in a r e && rm_in a m e)) && decide (0 < rm_lk a r l e m)) := fun m hm => by
    unfold rm_lkp rm_ask
    rw [show (8 * e + m) / 8 = e by omega, show (8 * e + m) % 8 = m by omega]
  cases hq : (rm_row a l e && rm_in a r e) with
  | false =>
    rw [if_neg (by decide)]
    refine (rm_fst_none.mpr fun m _ hm => ?_).symm
    show rm_lkp a r l (8 * e + m) = false
    rw [e8 m (by omega), ← Bool.and_assoc (rm_row a l e), hq]
    rfl
  | true =>
    rw [if_pos rfl]
    obtain ⟨q1, q2⟩ := (Bool.and_eq_true _ _).mp hq
    refine fst_cut n0 (fun m hm => ?_) (fun m g1 g2 => ?_)
    · show _ = rm_lkp a r l (8 * e + m)
      rw [e8 m (by omega), q1, q2, Bool.true_and, Bool.true_and]
      unfold cc_lkp
      rw [show cb (I (50 + e) 0) m = rm_in a m e from by rw [xC_b (xR_C RL e he)]; rfl]
      congr 1
      rw [xM_g (xR_M RL r hr) e m (by omega) (by omega), cr_need (xR_B RL) L hl (by omega) (by omega), iv_need H hl (by omega) (by omega), (xI_gv H r e m (by omega) (by omega) (by omega)).1]
      congr 1
      have g1 := (xI_gv H r e m (by omega) (by omega) (by omega)).2
      have g2 := (xI_ww H m e (by omega) (by omega)).2
      have g3 := (xI_ck H l e m hl (by omega) (by omega)).2
      have g4 := (xI_ls H l hl).2.2
      have g5 := (xI_ww H (rm_wr a l) (rm_ci a l) (by have := (xI_lw H l hl).2; omega) (by have := (xI_lc H l hl).2; omega)).2
      rw [iv_lk H (by omega) hl (by omega) (by omega)]
      exact propext (nI_ltI (by omega) (by split <;> omega))
    · show rm_lkp a r l (8 * e + m) = false
      rw [e8 m g2]
      cases hi : rm_in a m e with
      | false => rw [Bool.and_false, Bool.and_false]; rfl
      | true => exact absurd (xI_ci H e he m g2 hi) (by omega)
/-- the Order that lacks, in the model's rows -/
theorem cr_lorE {sh : zv_S} {I : zv_I} {J : zv_J} {R : zv_R} {a : zv_I} {nm nc nl r l : Nat} (RL : cr_R sh I J R a nm nc nl) (H : iv a nm nc nl 0) (hr : r < nm) (hl : l < nl) : cc_lor I nl r l = (if a 10 l = nI 2 ∧ ¬ r = rm_el a (rm_ci a l) ∧ ¬ rm_wr a l = rm_el a (rm_ci a l) then !decide (¬ a 16 l = -1 ∧ a 20 (200 * r + rm_or a l) = nI 3) else false) := by
  have n0 := (xI_n0 H).2
  have n1 := (xI_n1 H).2
  have n4 := (xI_n4 H).2
  have L := xR_L RL l hl
  have hc := xI_lc H l hl
  have hw := xI_lw H l hl
  have hex : rm_el a (rm_ci a l) < 8 := by
    have h9 := xI_ce H _ hc.2
    unfold rm_es at h9
    have := (rm_fst_some h9).2.1
    omega
  have eci : cc_ci I l = rm_ci a l := by unfold cc_ci rm_ci; rw [xL_c L]
  unfold cc_lor
  rw [xL_k L, eci, xC_e (xR_C RL _ hc.2), xL_w L, hw.1, xL_o L]
  by_cases z : a 10 l = nI 2 ∧ ¬ r = rm_el a (rm_ci a l) ∧ ¬ rm_wr a l = rm_el a (rm_ci a l)
  · rw [if_pos z, if_pos ⟨z.1, fun v => z.2.1 (nI_ij v (by omega) (by omega)), fun v => z.2.2 (nI_ij v (by omega) (by omega))⟩]
    congr 1
    rcases xI_no H l hl with ⟨g1, _⟩ | ⟨_, o, g1, g2⟩
    · rw [g1, decide_eq_false (fun v => v.1 rfl)]
      have : rm_lt (-1 : Int32) nl = false := cl_0 (by decide)
      rw [this]
      rfl
    · have g3 : rm_or a l = o := by unfold rm_or; rw [g2]; exact rm_nv_n (by omega)
      have ho : o < nl := by omega
      rw [g3, g2, rm_lt_n (by omega), decide_eq_true ho, rm_nv_n (by omega), xL_gb (xR_L RL o ho) r (by omega), Bool.true_and]
      congr 1
      exact propext ⟨fun v => ⟨nI_m1 (by omega), v⟩, fun v => v.2⟩
  · rw [if_neg z, if_neg (fun v => z ⟨v.1, fun u => v.2.1 (congrArg nI u), fun u => v.2.2 (congrArg nI u)⟩)]
theorem cr_llpE {sh : zv_S} {I : zv_I} {J : zv_J} {R : zv_R} {a : zv_I} {nm nc nl q r l : Nat} (RL : cr_R sh I J R a nm nc nl) (H : iv a nm nc nl q) (hr : r < nm) (hl : l < nl) : cc_llp I r l = (if a 10 l = nI 2 ∧ ¬ r = rm_el a (rm_ci a l) then decide (nI (cr_sg a nl r (rm_ci a l)) < a 15 l) else false) := by
  have n0 := (xI_n0 H).2
  have n1 := (xI_n1 H).2
  have L := xR_L RL l hl
  have hc := xI_lc H l hl
  have hex : rm_el a (rm_ci a l) < 8 := by
    have h9 := xI_ce H _ hc.2
    unfold rm_es at h9
    have := (rm_fst_some h9).2.1
    omega
  have eci : cc_ci I l = rm_ci a l := by unfold cc_ci rm_ci; rw [xL_c L]
  unfold cc_llp
  rw [xL_k L, eci, xC_e (xR_C RL _ hc.2), xL_p L, xM_s (xR_M RL r hr) _ (by omega)]
  by_cases z : a 10 l = nI 2 ∧ ¬ r = rm_el a (rm_ci a l)
  · rw [if_pos z, if_pos ⟨z.1, fun v => z.2 (nI_ij v (by omega) (by omega))⟩]
  · rw [if_neg z, if_neg (fun v => z ⟨v.1, fun u => v.2 (congrArg nI u)⟩)]
/-- for a held sealed letter the two say the same of its Order -/
theorem cr_horE {sh : zv_S} {I : zv_I} {J : zv_J} {R : zv_R} {a : zv_I} {nm nc nl r l : Nat} (RL : cr_R sh I J R a nm nc nl) (H : iv a nm nc nl 0) (hr : r < nm) (hl : l < nl) (hh : a 20 (200 * r + l) = nI 2) (hk : a 10 l = nI 2) (hne : ¬ r = rm_el a (rm_ci a l)) : cc_lor I nl r l = !rm_hor a r l := by
  have n0 := (xI_n0 H).2
  have n1 := (xI_n1 H).2
  have hc := xI_lc H l hl
  have hw := xI_lw H l hl
  have hex : rm_el a (rm_ci a l) < 8 := by
    have h9 := xI_ce H _ hc.2
    unfold rm_es at h9
    have := (rm_fst_some h9).2.1
    omega
  rw [cr_lorE RL H hr hl]
  unfold rm_hor
  rw [hw.1]
  by_cases z : rm_wr a l = rm_el a (rm_ci a l)
  · rw [if_neg (fun v => v.2.2 z), decide_eq_true ⟨congrArg nI z, xI_nk H l r hl (by omega) hk z (fun v => hne (v.trans z)) (Or.inl hh)⟩]
    rfl
  · rw [if_pos ⟨hk, hne, z⟩, decide_eq_false (show ¬ (nI (rm_wr a l) = nI (rm_el a (rm_ci a l)) ∧ ¬ a 15 l = -1) from fun v => z (nI_ij v.1 (by omega) (by omega))), Bool.false_or]
/-- what the class can give is what the model can give -/
theorem cr_can {sh : zv_S} {I : zv_I} {J : zv_J} {R : zv_R} {a : zv_I} {nm nc nl r l : Nat} (RL : cr_R sh I J R a nm nc nl) (H : iv a nm nc nl 0) (hr : r < nm) (hl : l < nl) (hh : a 20 (200 * r + l) = nI 2) : cc_can I R nm nc nl r l = rm_can a nc nl r l := by
  have n0 := (xI_n0 H).2
  have n1 := (xI_n1 H).2
  have n4 := (xI_n4 H).2
  have L := xR_L RL l hl
  have hc := xI_lc H l hl
  have hw := xI_lw H l hl
  have hs := xI_ls H l hl
  have eci : cc_ci I l = rm_ci a l := by unfold cc_ci rm_ci; rw [xL_c L]
  have ewi : cc_wi I l = rm_wr a l := by unfold cc_wi rm_wr; rw [xL_w L]
  unfold cc_can
  rw [cr_flk RL H hr hl, eci, ewi, xM_g (xR_M RL r hr) _ _ (by omega) (by omega), xL_s L]
  cases hlk : rm_lkg a nc r l with
  | some k =>
    unfold rm_can
    rw [hlk]
    show (_ && (false && _)) = (false && _)
    rw [Bool.false_and, Bool.false_and, Bool.and_false]
  | none =>
    have hown := iv_own H hr hl hh hlk
    have e1 : a 21 (48 * r + 8 * rm_ci a l + rm_wr a l) = a 13 l - nI 1 := by
      rw [(xI_gv H r _ _ (by omega) (by omega) (by omega)).1, hs.1, ← hown, ← nI_add, Int32.add_sub_cancel]
    rw [decide_eq_true e1, Bool.true_and]
    unfold rm_can
    rw [hlk]
    show (true && _) = (true && _)
    rw [Bool.true_and, Bool.true_and]
    by_cases hk : a 10 l = nI 2
    · by_cases hne : r = rm_el a (rm_ci a l)
      · rw [cr_lorE RL H hr hl, cr_llpE RL H hr hl, if_neg (fun v => v.2.1 hne), if_neg (fun v => v.2 hne), decide_eq_true (Or.inr hne)]
        rfl
      · rw [cr_horE RL H hr hl hh hk hne, cr_llpE RL H hr hl, if_pos ⟨hk, hne⟩, decide_eq_false (show ¬ (¬ a 10 l = nI 2 ∨ r = rm_el a (rm_ci a l)) from fun v => v.elim (fun u => u hk) hne), Bool.not_not, Bool.false_or]
        cases hor : rm_hor a r l with
        | false => rfl
        | true =>
          rw [Bool.true_and, Bool.true_and]
          have h15 : ¬ a 15 l = -1 := by
            unfold rm_hor at hor
            rcases (Bool.or_eq_true _ _).mp hor with q | q
            · exact (of_decide_eq_true q).2
            · rcases xI_no H l hl with z | z
              · exact absurd z.1 (of_decide_eq_true q).1
              · exact z.1
          obtain ⟨_, n, hn, hnn⟩ := (xI_nu H l hl).resolve_left h15
          have g1 := iv_nd_le (a := a) (nl := nl) (c := rm_ci a l)
          have g2 := cr_sg_le (a := a) (nl := nl) (r := r) (c := rm_ci a l)
          rw [hnn]
          cases hlo : rm_hlo a nl r l with
          | true =>
            have h7 := (iv_num H hr hl hh hk hne hor hlo).1
            rw [hnn] at h7
            have h8 := nI_ij h7 (by omega) (by omega)
            rw [decide_eq_false (fun v => by have := (nI_ltI (by omega) (by omega)).mp v; omega)]
            rfl
          | false =>
            rw [decide_eq_true]
            · rfl
            · refine (nI_ltI (by omega) (by omega)).mpr (Decidable.byContradiction fun v => ?_)
              refine absurd (rm_all_iff.mpr fun x _ hx => ?_) (show ¬ rm_hlo a nl r l = true by rw [hlo]; decide)
              unfold rm_lok
              cases hlow : rm_low a l x with
              | false => rfl
              | true =>
                obtain ⟨w1, w2, w3, w4⟩ := of_decide_eq_true hlow
                have hx : x < nl := by omega
                obtain ⟨_, n2, w5, w6⟩ := (xI_nu H x hx).resolve_left w3
                have w7 : rm_ci a x = rm_ci a l := by unfold rm_ci; rw [w2]
                have w8 := iv_nd_le (a := a) (nl := nl) (c := rm_ci a x)
                rw [w6, hnn] at w4
                have w9 := (nI_ltI (by omega) (by omega)).mp w4
                exact decide_eq_true ((xI_sg H r x (by omega) hx w1 (by rw [w7]; exact hne)).mpr ⟨n2, w6, by rw [w7]; omega⟩)
    · rw [cr_lorE RL H hr hl, cr_llpE RL H hr hl, if_neg (fun v => hk v.1), if_neg (fun v => hk v.1), decide_eq_true (Or.inl hk)]
      rfl
/-- why: a quiet world's held letter that lacks no count is a sealed one that isn't its eldest's to give -/
theorem cr_whyE {sh : zv_S} {I : zv_I} {J : zv_J} {R : zv_R} {a : zv_I} {nm nc nl : Nat} (RL : cr_R sh I J R a nm nc nl) (Q : iQ a nm nc nl) : ∀ r l, r < nm → l < nl → a 20 (200 * r + l) = nI 2 → rm_lkg a nc r l = none → cc_lor I nl r l = !rm_hor a r l := by
  intro r l hr hl hh hlk
  have hq := Q.2 r hr l hl hh
  by_cases hk : a 10 l = nI 2
  · by_cases hne : r = rm_el a (rm_ci a l)
    · rw [can_mk hlk (Or.inr (Or.inl hne))] at hq; cases hq
    · exact cr_horE RL Q.1 hr hl hh hk hne
  · rw [can_mk hlk (Or.inl hk)] at hq; cases hq
