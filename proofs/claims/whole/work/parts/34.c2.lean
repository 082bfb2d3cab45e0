/-- the first free slot -/
def cc_slf (R : zv_R) (m : Nat) : Option Nat := rm_fst (fun k => (R (113 + 20 * m) k).isNone) 40 0
def cc_tk (R : zv_R) (m u : Nat) : Option Nat → zv_R
  | none => R
  | some k => zv_u R (113 + 20 * m) k (some u)
theorem cC_takeSlot_l (d : Nat) {E : zv_E} {sh : zv_S} {I : zv_I} {J : zv_J} {R : zv_R} {m u : Nat} (w : cc_WM sh R m) (hu : sh u = some (12, 0)) : ∀ n k, k + n = 40 → zv_V E mX3_takeSlot d 0 0 2 [.ref (100 + 20 * m), .ref u, .int (nI k)] [] sh I J R (cc_q sh I J (cc_tk R m u (rm_fst (fun k => (R (113 + 20 * m) k).isNone) n k))) := by
  intro n
  induction n with
  | zero =>
    intro k hk
    have hk2 : k = 40 := by omega
    subst hk2
    refine zv_iload_n dX3_takeSlot_2 rfl rfl ?_
    refine zv_aload_n dX3_takeSlot_3 rfl rfl ?_
    refine zv_getr 3 6 (u := 113 + 20 * m) dX3_takeSlot_4 flX3_40 (wWM_s w) rfl (wWM_r6 w) ?_
    refine zv_alen dX3_takeSlot_7 (wWM_s6 w) (by decide) ?_
    refine zv_icN_ge (tgt := 34) dX3_takeSlot_8 (by decide) (by omega) (by omega) (fun h8 => ?_) (fun h8 => (absurd h8 (by omega)))
    refine zv_vret dX3_takeSlot_34 rfl ?_
    exact ⟨rfl, rfl, rfl, rfl, rfl⟩
  | succ n ih =>
    intro k hk
    cases ho : R (113 + 20 * m) k with
    | none =>
      rw [rm_fst_t (show (fun k => (R (113 + 20 * m) k).isNone) k = true from by show (R (113 + 20 * m) k).isNone = true; rw [ho]; rfl)]
      refine zv_iload_n dX3_takeSlot_2 rfl rfl ?_
      refine zv_aload_n dX3_takeSlot_3 rfl rfl ?_
      refine zv_getr 3 6 (u := 113 + 20 * m) dX3_takeSlot_4 flX3_40 (wWM_s w) rfl (wWM_r6 w) ?_
      refine zv_alen dX3_takeSlot_7 (wWM_s6 w) (by decide) ?_
      refine zv_icN_ge (tgt := 34) dX3_takeSlot_8 (by decide) (by omega) (by omega) (fun h8 => (absurd h8 (by omega))) (fun h8 => ?_)
      refine zv_aload_n dX3_takeSlot_11 rfl rfl ?_
      refine zv_getr 3 6 (u := 113 + 20 * m) dX3_takeSlot_12 flX3_40 (wWM_s w) rfl (wWM_r6 w) ?_
      refine zv_iload_n dX3_takeSlot_15 rfl rfl ?_
      refine zv_aald (j := k) (o := none) dX3_takeSlot_16 (wWM_s6 w) (by decide) (by decide) (rfl) (show k < 40 from by omega) (by decide) (ho) ?_
      show zv_V _ _ _ _ _ 17 [.ref (100 + 20 * m), .ref (u), .int (nI (k))] [.null] _ _ _ _ _
      refine zv_ifnonnullN dX3_takeSlot_17 ?_
      refine zv_aload_n dX3_takeSlot_20 rfl rfl ?_
      refine zv_getr 3 6 (u := 113 + 20 * m) dX3_takeSlot_21 flX3_40 (wWM_s w) rfl (wWM_r6 w) ?_
      refine zv_iload_n dX3_takeSlot_24 rfl rfl ?_
      refine zv_aload_n dX3_takeSlot_25 rfl rfl ?_
      refine zv_aast (j := k) (o := some (u)) dX3_takeSlot_26 (wWM_s6 w) (by decide) (Or.inr ⟨_, Or.inr (Or.inr (Or.inr (Or.inr ⟨rfl, Or.inl (hu)⟩)))⟩) (fun _ => ⟨ca_933, ca_932⟩) (rfl) (show k < 40 from by omega) (by decide) ?_
      refine zv_vret dX3_takeSlot_27 rfl ?_
      exact ⟨rfl, rfl, rfl, rfl, rfl⟩
    | some v =>
      rw [rm_fst_f (show (fun k => (R (113 + 20 * m) k).isNone) k = false from by show (R (113 + 20 * m) k).isNone = false; rw [ho]; rfl)]
      refine zv_iload_n dX3_takeSlot_2 rfl rfl ?_
      refine zv_aload_n dX3_takeSlot_3 rfl rfl ?_
      refine zv_getr 3 6 (u := 113 + 20 * m) dX3_takeSlot_4 flX3_40 (wWM_s w) rfl (wWM_r6 w) ?_
      refine zv_alen dX3_takeSlot_7 (wWM_s6 w) (by decide) ?_
      refine zv_icN_ge (tgt := 34) dX3_takeSlot_8 (by decide) (by omega) (by omega) (fun h8 => (absurd h8 (by omega))) (fun h8 => ?_)
      refine zv_aload_n dX3_takeSlot_11 rfl rfl ?_
      refine zv_getr 3 6 (u := 113 + 20 * m) dX3_takeSlot_12 flX3_40 (wWM_s w) rfl (wWM_r6 w) ?_
      refine zv_iload_n dX3_takeSlot_15 rfl rfl ?_
      refine zv_aald (j := k) (o := some (v)) dX3_takeSlot_16 (wWM_s6 w) (by decide) (by decide) (rfl) (show k < 40 from by omega) (by decide) (ho) ?_
      show zv_V _ _ _ _ _ 17 [.ref (100 + 20 * m), .ref (u), .int (nI (k))] [.ref (v)] _ _ _ _ _
      refine zv_ifnonnull (tgt := 28) dX3_takeSlot_17 (by decide) ?_
      refine zv_iinc (v := nI (k + 1)) (lv' := [.ref (100 + 20 * m), .ref (u), .int (nI (k + 1))]) dX3_takeSlot_28 rfl (nI_add (k) 1) (by decide) rfl ?_
      refine zv_goto (tgt := 2) dX3_takeSlot_31 (by decide) ?_
      exact ih (k + 1) (by omega)
theorem cC_takeSlot (d : Nat) {E : zv_E} {sh : zv_S} {I : zv_I} {J : zv_J} {R : zv_R} {m u : Nat} (w : cc_WM sh R m) (hu : sh u = some (12, 0)) : zv_V E mX3_takeSlot d 0 0 0 [.ref (100 + 20 * m), .ref u] [] sh I J R (cc_q sh I J (cc_tk R m u (cc_slf R m))) := by
  refine zv_iconst (v := nI (0)) dX3_takeSlot_0 (by decide) ?_
  refine zv_istore_n (lv' := [.ref (100 + 20 * m), .ref (u), .int (nI (0))]) dX3_takeSlot_1 rfl (by decide) rfl ?_
  exact cC_takeSlot_l d w hu 40 0 (by omega)
def cc_lv (R : zv_R) (m u n : Nat) : zv_R := fun t j => if t = 113 + 20 * m ∧ j < n ∧ R (113 + 20 * m) j = some u then none else R t j
theorem cc_lv_o {R : zv_R} {m u n t : Nat} (h : t ≠ 113 + 20 * m) : cc_lv R m u n t = R t := funext fun j => if_neg fun q => h q.1
theorem cc_lv_0 (R : zv_R) (m u : Nat) : cc_lv R m u 0 = R := funext fun t => funext fun j => if_neg fun q => Nat.not_lt_zero _ q.2.1
theorem cc_lv_r (R : zv_R) (m u n : Nat) : cc_lv R m u n (113 + 20 * m) n = R (113 + 20 * m) n := if_neg fun q => Nat.lt_irrefl _ q.2.1
theorem cc_lv_t {R : zv_R} {m u n : Nat} (h : R (113 + 20 * m) n = some u) : zv_u (cc_lv R m u n) (113 + 20 * m) n none = cc_lv R m u (n + 1) := by
  funext t j
  unfold zv_u cc_lv
  by_cases e : t = 113 + 20 * m ∧ j = n
  · rw [if_pos e, if_pos ⟨e.1, by omega, by rw [e.2]; exact h⟩]
  · rw [if_neg e]
    by_cases f : t = 113 + 20 * m ∧ j < n ∧ R (113 + 20 * m) j = some u
    · rw [if_pos f, if_pos ⟨f.1, by omega, f.2.2⟩]
    · rw [if_neg f, if_neg (fun q => (Nat.lt_or_ge j n).elim (fun g => f ⟨q.1, g, q.2.2⟩) (fun g => e ⟨q.1, by omega⟩))]
theorem cc_lv_f {R : zv_R} {m u n : Nat} (h : ¬ R (113 + 20 * m) n = some u) : cc_lv R m u n = cc_lv R m u (n + 1) := by
  funext t j
  unfold cc_lv
  by_cases f : t = 113 + 20 * m ∧ j < n ∧ R (113 + 20 * m) j = some u
  · rw [if_pos f, if_pos ⟨f.1, by omega, f.2.2⟩]
  · rw [if_neg f, if_neg (fun q => (Nat.lt_or_ge j n).elim (fun g => f ⟨q.1, g, q.2.2⟩) (fun g => h (by rw [← show j = n by omega]; exact q.2.2)))]
theorem cc_WM_row {sh : zv_S} {R R' : zv_R} {m : Nat} (w : cc_WM sh R m) (h : ∀ t, t ≠ 112 + 20 * m → t ≠ 113 + 20 * m → R' t = R t) : cc_WM sh R' m := cc_WM_o w (h _ (by omega) (by omega)) (h _ (by omega) (by omega)) (h _ (by omega) (by omega))
theorem cC_leaveSlot_l (d : Nat) {E : zv_E} {sh : zv_S} {I : zv_I} {J : zv_J} {R : zv_R} {m u : Nat} (w0 : cc_WM sh R m) (h3 : ∀ k x, k < 40 → R (113 + 20 * m) k = some x → 3 ≤ x) (hu3 : 3 ≤ u) : ∀ n k, k + n = 40 → zv_V E mX3_leaveSlot d 0 0 2 [.ref (100 + 20 * m), .ref u, .int (nI k)] [] sh I J (cc_lv R m u k) (cc_q sh I J (cc_lv R m u 40)) := by
  intro n
  induction n with
  | zero =>
    intro k hk
    have hk2 : k = 40 := by omega
    subst hk2
    have w := cc_WM_row w0 (R' := cc_lv R m u 40) (fun t _ h => cc_lv_o h)
    refine zv_iload_n dX3_leaveSlot_2 rfl rfl ?_
    refine zv_aload_n dX3_leaveSlot_3 rfl rfl ?_
    refine zv_getr 3 6 (u := 113 + 20 * m) dX3_leaveSlot_4 flX3_40 (wWM_s w) rfl (wWM_r6 w) ?_
    refine zv_alen dX3_leaveSlot_7 (wWM_s6 w) (by decide) ?_
    refine zv_icN_ge (tgt := 34) dX3_leaveSlot_8 (by decide) (by omega) (by omega) (fun h8 => ?_) (fun h8 => (absurd h8 (by omega)))
    refine zv_vret dX3_leaveSlot_34 rfl ?_
    exact ⟨rfl, rfl, rfl, rfl, rfl⟩
  | succ n ih =>
    intro k hk
    have w := cc_WM_row w0 (R' := cc_lv R m u k) (fun t _ h => cc_lv_o h)
    refine zv_iload_n dX3_leaveSlot_2 rfl rfl ?_
    refine zv_aload_n dX3_leaveSlot_3 rfl rfl ?_
    refine zv_getr 3 6 (u := 113 + 20 * m) dX3_leaveSlot_4 flX3_40 (wWM_s w) rfl (wWM_r6 w) ?_
    refine zv_alen dX3_leaveSlot_7 (wWM_s6 w) (by decide) ?_
    refine zv_icN_ge (tgt := 34) dX3_leaveSlot_8 (by decide) (by omega) (by omega) (fun h8 => (absurd h8 (by omega))) (fun h8 => ?_)
    refine zv_aload_n dX3_leaveSlot_11 rfl rfl ?_
    refine zv_getr 3 6 (u := 113 + 20 * m) dX3_leaveSlot_12 flX3_40 (wWM_s w) rfl (wWM_r6 w) ?_
    refine zv_iload_n dX3_leaveSlot_15 rfl rfl ?_
    refine zv_aald (j := k) (o := R (113 + 20 * m) k) dX3_leaveSlot_16 (wWM_s6 w) (by decide) (by decide) (rfl) (show k < 40 from by omega) (by decide) (cc_lv_r R m u k) ?_
    show zv_V _ _ _ _ _ 17 [.ref (100 + 20 * m), .ref (u), .int (nI (k))] [va_rf (R (113 + 20 * m) k)] _ _ _ _ _
    refine zv_aload_n dX3_leaveSlot_17 rfl rfl ?_
    refine zv_acmp_ne (a := R (113 + 20 * m) k) (b := some (u)) (tgt := 28) dX3_leaveSlot_18 (by decide) (fun x hx => h3 k x (by omega) hx) (fun x hx => by cases hx; exact hu3) (fun h18 => ?_) (fun h18 => ?_)
    · refine zv_iinc (v := nI (k + 1)) (lv' := [.ref (100 + 20 * m), .ref (u), .int (nI (k + 1))]) dX3_leaveSlot_28 rfl (nI_add (k) 1) (by decide) rfl ?_
      refine zv_goto (tgt := 2) dX3_leaveSlot_31 (by decide) ?_
      rw [cc_lv_f h18]
      exact ih (k + 1) (by omega)
    · refine zv_aload_n dX3_leaveSlot_21 rfl rfl ?_
      refine zv_getr 3 6 (u := 113 + 20 * m) dX3_leaveSlot_22 flX3_40 (wWM_s w) rfl (wWM_r6 w) ?_
      refine zv_iload_n dX3_leaveSlot_25 rfl rfl ?_
      refine zv_null dX3_leaveSlot_26 ?_
      refine zv_aast (j := k) (o := none) dX3_leaveSlot_27 (wWM_s6 w) (by decide) (show 4 ≤ 8 by decide) (fun _ => ⟨ca_933, ca_932⟩) (rfl) (show k < 40 from by omega) (by decide) ?_
      rw [cc_lv_t h18]
      refine zv_iinc (v := nI (k + 1)) (lv' := [.ref (100 + 20 * m), .ref (u), .int (nI (k + 1))]) dX3_leaveSlot_28 rfl (nI_add (k) 1) (by decide) rfl ?_
      refine zv_goto (tgt := 2) dX3_leaveSlot_31 (by decide) ?_
      exact ih (k + 1) (by omega)
theorem cC_leaveSlot (d : Nat) {E : zv_E} {sh : zv_S} {I : zv_I} {J : zv_J} {R : zv_R} {m u : Nat} (w : cc_WM sh R m) (h3 : ∀ k x, k < 40 → R (113 + 20 * m) k = some x → 3 ≤ x) (hu3 : 3 ≤ u) : zv_V E mX3_leaveSlot d 0 0 0 [.ref (100 + 20 * m), .ref u] [] sh I J R (cc_q sh I J (cc_lv R m u 40)) := by
  refine zv_iconst (v := nI (0)) dX3_leaveSlot_0 (by decide) ?_
  refine zv_istore_n (lv' := [.ref (100 + 20 * m), .ref (u), .int (nI (0))]) dX3_leaveSlot_1 rfl (by decide) rfl ?_
  have h9 := cC_leaveSlot_l (E := E) (I := I) (J := J) d w h3 hu3 40 0 (by omega)
  rw [cc_lv_0] at h9
  exact h9
def cc_dr (R : zv_R) (t p i : Nat) : zv_R := fun q j => if q = t ∧ p ≤ j ∧ j + 1 < i then R t (j + 1) else R q j
theorem cc_dr_o {R : zv_R} {t p i q : Nat} (h : q ≠ t) : cc_dr R t p i q = R q := funext fun j => if_neg fun z => h z.1
theorem cc_dr_0 (R : zv_R) (t p : Nat) : cc_dr R t p (p + 1) = R := funext fun q => funext fun j => if_neg fun z => by omega
theorem cc_dr_r {R : zv_R} {t p i : Nat} : cc_dr R t p i t i = R t i := if_neg fun z => by omega
theorem cc_dr_n {R : zv_R} {t p k : Nat} (h : p ≤ k) : zv_u (cc_dr R t p (k + 1)) t k (R t (k + 1)) = cc_dr R t p (k + 2) := by
  funext q j
  unfold zv_u cc_dr
  by_cases e : q = t ∧ j = k
  · rw [if_pos e, if_pos ⟨e.1, by omega, by omega⟩, e.2]
  · rw [if_neg e]
    by_cases f : q = t ∧ p ≤ j ∧ j + 1 < k + 1
    · rw [if_pos f, if_pos ⟨f.1, f.2.1, by omega⟩]
    · rw [if_neg f, if_neg (fun z => (Nat.lt_or_ge j k).elim (fun g => f ⟨z.1, z.2.1, by omega⟩) (fun g => e ⟨z.1, by omega⟩))]
theorem zv_u_id {α : Type} {f : Nat → Nat → α} {t j : Nat} {x : α} (h : f t j = x) : zv_u f t j x = f := by
  funext a b
  unfold zv_u
  by_cases e : a = t ∧ b = j
  · rw [if_pos e, e.1, e.2, h]
  · rw [if_neg e]
theorem cC_dropHeld_b (d : Nat) {E : zv_E} {sh : zv_S} {I : zv_I} {J : zv_J} {R : zv_R} {m u : Nat} (w0 : cc_WM sh R m) {n p : Nat} {g : Nat → Nat} (hc : I (100 + 20 * m) 9 = nI n) (hn : n ≤ 200) (hg : ∀ i, i < n → R (112 + 20 * m) i = some (g i) ∧ 3 ≤ g i ∧ sh (g i) = some (12, 0)) (hp : p < n) (hgp : g p = u) (hgo : ∀ i, i < n → i ≠ p → g i ≠ u) : ∀ n1 k, k + 1 + n1 = n → p ≤ k → zv_V E mX3_dropHeld d 0 0 4 [.ref (100 + 20 * m), .ref u, .int (nI k), .int (nI (k + 1))] [] sh I J (cc_dr R (112 + 20 * m) p (k + 1)) (cc_q sh (zv_u I (100 + 20 * m) 9 (nI (n - 1))) J (cc_dr R (112 + 20 * m) p n)) := by
  intro n1
  induction n1 with
  | zero =>
    intro k hk hpk
    have hk2 : n = k + 1 := by omega
    subst hk2
    have w := cc_WM_row w0 (R' := cc_dr R (112 + 20 * m) p (k + 1)) (fun t h _ => cc_dr_o h)
    refine zv_iload_n dX3_dropHeld_4 rfl rfl ?_
    refine zv_aload_n dX3_dropHeld_5 rfl rfl ?_
    refine zv_geti 3 9 (x := nI (k + 1)) dX3_dropHeld_6 flX3_51 (wWM_s w) rfl (hc) ?_
    refine zv_icN_ge (tgt := 43) dX3_dropHeld_9 (by decide) (by omega) (by omega) (fun h9 => ?_) (fun h9 => (absurd h9 (by omega)))
    refine zv_aload_n dX3_dropHeld_43 rfl rfl ?_
    refine zv_iload_n dX3_dropHeld_44 rfl rfl ?_
    refine zv_puti 3 9 dX3_dropHeld_45 fwX3_51 (wWM_s w) rfl ?_
    refine zv_vret dX3_dropHeld_48 rfl ?_
    exact ⟨rfl, rfl, rfl, rfl, rfl⟩
  | succ n1 ih =>
    intro k hk hpk
    have w := cc_WM_row w0 (R' := cc_dr R (112 + 20 * m) p (k + 1)) (fun t h _ => cc_dr_o h)
    obtain ⟨e1, e2, e3⟩ := hg (k + 1) (by omega)
    refine zv_iload_n dX3_dropHeld_4 rfl rfl ?_
    refine zv_aload_n dX3_dropHeld_5 rfl rfl ?_
    refine zv_geti 3 9 (x := nI (n)) dX3_dropHeld_6 flX3_51 (wWM_s w) rfl (hc) ?_
    refine zv_icN_ge (tgt := 43) dX3_dropHeld_9 (by decide) (by omega) (by omega) (fun h9 => (absurd h9 (by omega))) (fun h9 => ?_)
    refine zv_aload_n dX3_dropHeld_12 rfl rfl ?_
    refine zv_getr 3 5 (u := 112 + 20 * m) dX3_dropHeld_13 flX3_34 (wWM_s w) rfl (wWM_r5 w) ?_
    refine zv_iload_n dX3_dropHeld_16 rfl rfl ?_
    refine zv_aald (j := k + 1) (o := some (g (k + 1))) dX3_dropHeld_17 (wWM_s5 w) (by decide) (by decide) (rfl) (show k + 1 < 200 from by omega) (by decide) (by rw [cc_dr_r]; exact e1) ?_
    show zv_V _ _ _ _ _ 18 [.ref (100 + 20 * m), .ref (u), .int (nI (k)), .int (nI (k + 1))] [.ref (g (k + 1))] _ _ _ _ _
    refine zv_aload_n dX3_dropHeld_18 rfl rfl ?_
    refine zv_acmp_eq (a := some (g (k + 1))) (b := some (u)) (tgt := 37) dX3_dropHeld_19 (by decide) (fun x hx => by cases hx; exact (hg _ (by omega)).2.1) (fun x hx => by cases hx; rw [← hgp]; exact (hg _ (by omega)).2.1) (fun h19 => (absurd (Option.some.inj h19) (hgo (k + 1) (by omega) (by omega)))) (fun h19 => ?_)
    refine zv_aload_n dX3_dropHeld_22 rfl rfl ?_
    refine zv_getr 3 5 (u := 112 + 20 * m) dX3_dropHeld_23 flX3_34 (wWM_s w) rfl (wWM_r5 w) ?_
    refine zv_iload_n dX3_dropHeld_26 rfl rfl ?_
    refine zv_aload_n dX3_dropHeld_27 rfl rfl ?_
    refine zv_getr 3 5 (u := 112 + 20 * m) dX3_dropHeld_28 flX3_34 (wWM_s w) rfl (wWM_r5 w) ?_
    refine zv_iload_n dX3_dropHeld_31 rfl rfl ?_
    refine zv_aald (j := k + 1) (o := some (g (k + 1))) dX3_dropHeld_32 (wWM_s5 w) (by decide) (by decide) (rfl) (show k + 1 < 200 from by omega) (by decide) (by rw [cc_dr_r]; exact e1) ?_
    show zv_V _ _ _ _ _ 33 [.ref (100 + 20 * m), .ref (u), .int (nI (k)), .int (nI (k + 1))] [.ref (g (k + 1)), .int (nI (k)), .ref (112 + 20 * m)] _ _ _ _ _
    refine zv_aast (j := k) (o := some (g (k + 1))) dX3_dropHeld_33 (wWM_s5 w) (by decide) (Or.inr ⟨_, Or.inr (Or.inr (Or.inl ⟨rfl, e3⟩))⟩) (fun h => absurd h (by decide)) (rfl) (show k < 200 from by omega) (by decide) ?_
    rw [← e1, cc_dr_n hpk]
    refine zv_iinc (v := nI (k + 1)) (lv' := [.ref (100 + 20 * m), .ref (u), .int (nI (k + 1)), .int (nI (k + 1))]) dX3_dropHeld_34 rfl (nI_add (k) 1) (by decide) rfl ?_
    refine zv_iinc (v := nI (k + 1 + 1)) (lv' := [.ref (100 + 20 * m), .ref (u), .int (nI (k + 1)), .int (nI (k + 1 + 1))]) dX3_dropHeld_37 rfl (nI_add (k + 1) 1) (by decide) rfl ?_
    refine zv_goto (tgt := 4) dX3_dropHeld_40 (by decide) ?_
    exact ih (k + 1) (by omega) (by omega)
theorem cC_dropHeld_a (d : Nat) {E : zv_E} {sh : zv_S} {I : zv_I} {J : zv_J} {R : zv_R} {m u : Nat} (w : cc_WM sh R m) {n p : Nat} {g : Nat → Nat} (hc : I (100 + 20 * m) 9 = nI n) (hn : n ≤ 200) (hg : ∀ i, i < n → R (112 + 20 * m) i = some (g i) ∧ 3 ≤ g i ∧ sh (g i) = some (12, 0)) (hp : p < n) (hgp : g p = u) (hgo : ∀ i, i < n → i ≠ p → g i ≠ u) : ∀ n1 k, k + n1 = p → zv_V E mX3_dropHeld d 0 0 4 [.ref (100 + 20 * m), .ref u, .int (nI k), .int (nI k)] [] sh I J R (cc_q sh (zv_u I (100 + 20 * m) 9 (nI (n - 1))) J (cc_dr R (112 + 20 * m) p n)) := by
  intro n1
  induction n1 with
  | zero =>
    intro k hk
    have hk2 : k = p := by omega
    subst hk2
    obtain ⟨e1, e2, e3⟩ := hg k hp
    refine zv_iload_n dX3_dropHeld_4 rfl rfl ?_
    refine zv_aload_n dX3_dropHeld_5 rfl rfl ?_
    refine zv_geti 3 9 (x := nI (n)) dX3_dropHeld_6 flX3_51 (wWM_s w) rfl (hc) ?_
    refine zv_icN_ge (tgt := 43) dX3_dropHeld_9 (by decide) (by omega) (by omega) (fun h9 => (absurd h9 (by omega))) (fun h9 => ?_)
    refine zv_aload_n dX3_dropHeld_12 rfl rfl ?_
    refine zv_getr 3 5 (u := 112 + 20 * m) dX3_dropHeld_13 flX3_34 (wWM_s w) rfl (wWM_r5 w) ?_
    refine zv_iload_n dX3_dropHeld_16 rfl rfl ?_
    refine zv_aald (j := k) (o := some (g k)) dX3_dropHeld_17 (wWM_s5 w) (by decide) (by decide) (rfl) (show k < 200 from by omega) (by decide) (e1) ?_
    show zv_V _ _ _ _ _ 18 [.ref (100 + 20 * m), .ref (u), .int (nI (k)), .int (nI (k))] [.ref (g k)] _ _ _ _ _
    refine zv_aload_n dX3_dropHeld_18 rfl rfl ?_
    refine zv_acmp_eq (a := some (g k)) (b := some (u)) (tgt := 37) dX3_dropHeld_19 (by decide) (fun x hx => by cases hx; exact (hg _ (by omega)).2.1) (fun x hx => by cases hx; rw [← hgp]; exact (hg _ (by omega)).2.1) (fun h19 => ?_) (fun h19 => (absurd (by rw [hgp]) h19))
    refine zv_iinc (v := nI (k + 1)) (lv' := [.ref (100 + 20 * m), .ref (u), .int (nI (k)), .int (nI (k + 1))]) dX3_dropHeld_37 rfl (nI_add (k) 1) (by decide) rfl ?_
    refine zv_goto (tgt := 4) dX3_dropHeld_40 (by decide) ?_
    have h9 := cC_dropHeld_b (E := E) (J := J) d w hc hn hg hp hgp hgo (n - (k + 1)) k (by omega) (Nat.le_refl _)
    rw [cc_dr_0] at h9
    exact h9
  | succ n1 ih =>
    intro k hk
    obtain ⟨e1, e2, e3⟩ := hg k (by omega)
    refine zv_iload_n dX3_dropHeld_4 rfl rfl ?_
    refine zv_aload_n dX3_dropHeld_5 rfl rfl ?_
    refine zv_geti 3 9 (x := nI (n)) dX3_dropHeld_6 flX3_51 (wWM_s w) rfl (hc) ?_
    refine zv_icN_ge (tgt := 43) dX3_dropHeld_9 (by decide) (by omega) (by omega) (fun h9 => (absurd h9 (by omega))) (fun h9 => ?_)
    refine zv_aload_n dX3_dropHeld_12 rfl rfl ?_
    refine zv_getr 3 5 (u := 112 + 20 * m) dX3_dropHeld_13 flX3_34 (wWM_s w) rfl (wWM_r5 w) ?_
    refine zv_iload_n dX3_dropHeld_16 rfl rfl ?_
    refine zv_aald (j := k) (o := some (g k)) dX3_dropHeld_17 (wWM_s5 w) (by decide) (by decide) (rfl) (show k < 200 from by omega) (by decide) (e1) ?_
    show zv_V _ _ _ _ _ 18 [.ref (100 + 20 * m), .ref (u), .int (nI (k)), .int (nI (k))] [.ref (g k)] _ _ _ _ _
    refine zv_aload_n dX3_dropHeld_18 rfl rfl ?_
    refine zv_acmp_eq (a := some (g k)) (b := some (u)) (tgt := 37) dX3_dropHeld_19 (by decide) (fun x hx => by cases hx; exact (hg _ (by omega)).2.1) (fun x hx => by cases hx; rw [← hgp]; exact (hg _ (by omega)).2.1) (fun h19 => (absurd (Option.some.inj h19) (hgo k (by omega) (by omega)))) (fun h19 => ?_)
    refine zv_aload_n dX3_dropHeld_22 rfl rfl ?_
    refine zv_getr 3 5 (u := 112 + 20 * m) dX3_dropHeld_23 flX3_34 (wWM_s w) rfl (wWM_r5 w) ?_
    refine zv_iload_n dX3_dropHeld_26 rfl rfl ?_
    refine zv_aload_n dX3_dropHeld_27 rfl rfl ?_
    refine zv_getr 3 5 (u := 112 + 20 * m) dX3_dropHeld_28 flX3_34 (wWM_s w) rfl (wWM_r5 w) ?_
    refine zv_iload_n dX3_dropHeld_31 rfl rfl ?_
    refine zv_aald (j := k) (o := some (g k)) dX3_dropHeld_32 (wWM_s5 w) (by decide) (by decide) (rfl) (show k < 200 from by omega) (by decide) (e1) ?_
    show zv_V _ _ _ _ _ 33 [.ref (100 + 20 * m), .ref (u), .int (nI (k)), .int (nI (k))] [.ref (g k), .int (nI (k)), .ref (112 + 20 * m)] _ _ _ _ _
    refine zv_aast (j := k) (o := some (g k)) dX3_dropHeld_33 (wWM_s5 w) (by decide) (Or.inr ⟨_, Or.inr (Or.inr (Or.inl ⟨rfl, e3⟩))⟩) (fun h => absurd h (by decide)) (rfl) (show k < 200 from by omega) (by decide) ?_
    rw [zv_u_id e1]
    refine zv_iinc (v := nI (k + 1)) (lv' := [.ref (100 + 20 * m), .ref (u), .int (nI (k + 1)), .int (nI (k))]) dX3_dropHeld_34 rfl (nI_add (k) 1) (by decide) rfl ?_
    refine zv_iinc (v := nI (k + 1)) (lv' := [.ref (100 + 20 * m), .ref (u), .int (nI (k + 1)), .int (nI (k + 1))]) dX3_dropHeld_37 rfl (nI_add (k) 1) (by decide) rfl ?_
    refine zv_goto (tgt := 4) dX3_dropHeld_40 (by decide) ?_
    exact ih (k + 1) (by omega)
theorem cC_dropHeld (d : Nat) {E : zv_E} {sh : zv_S} {I : zv_I} {J : zv_J} {R : zv_R} {m u : Nat} (w : cc_WM sh R m) {n p : Nat} {g : Nat → Nat} (hc : I (100 + 20 * m) 9 = nI n) (hn : n ≤ 200) (hg : ∀ i, i < n → R (112 + 20 * m) i = some (g i) ∧ 3 ≤ g i ∧ sh (g i) = some (12, 0)) (hp : p < n) (hgp : g p = u) (hgo : ∀ i, i < n → i ≠ p → g i ≠ u) : zv_V E mX3_dropHeld d 0 0 0 [.ref (100 + 20 * m), .ref u] [] sh I J R (cc_q sh (zv_u I (100 + 20 * m) 9 (nI (n - 1))) J (cc_dr R (112 + 20 * m) p n)) := by
  refine zv_iconst (v := nI (0)) dX3_dropHeld_0 (by decide) ?_
  refine zv_istore_n (lv' := [.ref (100 + 20 * m), .ref (u), .int (nI (0))]) dX3_dropHeld_1 rfl (by decide) rfl ?_
  refine zv_iconst (v := nI (0)) dX3_dropHeld_2 (by decide) ?_
  refine zv_istore_n (lv' := [.ref (100 + 20 * m), .ref (u), .int (nI (0)), .int (nI (0))]) dX3_dropHeld_3 rfl (by decide) rfl ?_
  exact cC_dropHeld_a d w hc hn hg hp hgp hgo p 0 (by omega)
theorem cc_dec (j : Nat) : nI (j + 1) + Int32.ofInt (-1) = nI j := by
  rw [show Int32.ofInt (-1) = -(1 : Int32) from by decide, ← Int32.sub_eq_add_neg]
  exact nI_pred j
def cc_in (R : zv_R) (t p n : Nat) : zv_R := fun q j => if q = t ∧ p < j ∧ j ≤ n then R t (j - 1) else R q j
theorem cc_in_o {R : zv_R} {t p n q : Nat} (h : q ≠ t) : cc_in R t p n q = R q := funext fun j => if_neg fun z => h z.1
theorem cc_in_0 (R : zv_R) (t n : Nat) : cc_in R t n n = R := funext fun q => funext fun j => if_neg fun z => by omega
theorem cc_in_r {R : zv_R} {t p n : Nat} : cc_in R t (p + 1) n t p = R t p := if_neg fun z => by omega
theorem cc_in_n {R : zv_R} {t k n : Nat} (h : k + 1 ≤ n) : zv_u (cc_in R t (k + 1) n) t (k + 1) (R t k) = cc_in R t k n := by
  funext q j
  unfold zv_u cc_in
  by_cases e : q = t ∧ j = k + 1
  · rw [if_pos e, if_pos ⟨e.1, by omega, by omega⟩, e.2]
    rfl
  · rw [if_neg e]
    by_cases f : q = t ∧ k + 1 < j ∧ j ≤ n
    · rw [if_pos f, if_pos ⟨f.1, by omega, f.2.2⟩]
    · rw [if_neg f, if_neg (fun z => (Nat.lt_or_ge (k + 1) j).elim (fun g => f ⟨z.1, g, z.2.2⟩) (fun g => e ⟨z.1, by omega⟩))]
/-- the held row with l put in at place p, and the first free slot -/
def cc_hd (R : zv_R) (m u p n : Nat) : zv_R := cc_tk (zv_u (cc_in R (112 + 20 * m) p n) (112 + 20 * m) p (some u)) m u (cc_slf R m)
theorem cC_hold_e (d : Nat) {E : zv_E} {sh : zv_S} {I : zv_I} {J : zv_J} {R : zv_R} {m : Nat} (w0 : cc_WM sh R m) {l n p : Nat} {h : Nat → Nat} (wl : sh (300 + 3 * l) = some (12, 0)) (hnum : I (300 + 3 * l) 0 = nI l) (hl : l < 200) (hc : I (100 + 20 * m) 9 = nI n) (hn : n < 200) (hg : ∀ i, i < n → R (112 + 20 * m) i = some (300 + 3 * h i) ∧ sh (300 + 3 * h i) = some (12, 0) ∧ I (300 + 3 * h i) 0 = nI (h i) ∧ h i < 200) (hp : p ≤ n) (hhi : ∀ i, p ≤ i → i < n → l < h i) (hlo : ∀ i, i + 1 = p → h i ≤ l) (hm8 : m < 8) : zv_V E mX3_hold (d + 1) 0 0 60 [.ref (100 + 20 * m), .ref (300 + 3 * l), .int (nI p)] [] sh I J (cc_in R (112 + 20 * m) p n) (cc_q sh (zv_u I (100 + 20 * m) 9 (nI (n + 1))) J (cc_hd R m (300 + 3 * l) p n)) := by
  have w := cc_WM_row w0 (R' := cc_in R (112 + 20 * m) p n) (fun t h _ => cc_in_o h)
  refine zv_aload_n dX3_hold_60 rfl rfl ?_
  refine zv_getr 3 5 (u := 112 + 20 * m) dX3_hold_61 flX3_34 (wWM_s w) rfl (wWM_r5 w) ?_
  refine zv_iload_n dX3_hold_64 rfl rfl ?_
  refine zv_aload_n dX3_hold_65 rfl rfl ?_
  refine zv_aast (j := p) (o := some (300 + 3 * l)) dX3_hold_66 (wWM_s5 w) (by decide) (Or.inr ⟨_, Or.inr (Or.inr (Or.inl ⟨rfl, wl⟩))⟩) (fun h => absurd h (by decide)) (rfl) (show p < 200 from by omega) (by decide) ?_
  have w1 := cc_WM_row w0 (R' := (zv_u (cc_in R (112 + 20 * m) p n) (112 + 20 * m) p (some (300 + 3 * l)))) (fun t h _ => by rw [zv_u_row _ _ _ _ h, cc_in_o h])
  refine zv_aload_n dX3_hold_67 rfl rfl ?_
  refine zv_dup dX3_hold_68 rfl ?_
  refine zv_geti 3 9 (x := nI (n)) dX3_hold_69 flX3_51 (wWM_s w1) rfl (hc) ?_
  refine zv_iconst (v := nI (1)) dX3_hold_72 (by decide) ?_
  refine zv_iadd dX3_hold_73 ?_
  refine cc_top (nI_add (n) (1)) ?_
  refine zv_puti 3 9 dX3_hold_74 fwX3_51 (wWM_s w1) rfl ?_
  refine zv_aload_n dX3_hold_77 rfl rfl ?_
  refine zv_aload_n dX3_hold_78 rfl rfl ?_
  refine cc_callV (As := [.ref (300 + 3 * l)]) (st := []) (c := 3) dX3_hold_79 cvX3_58 (wWM_s w1) rfl rfl rfl (by decide) (cc_c1 rfl cc_c0) (Nat.le_of_ble_eq_true rfl) (cC_takeSlot d w1 wl) (fun v s1 I1 J1 R1 q => ?_)
  obtain ⟨rfl, rfl, rfl, rfl, rfl⟩ := q
  show zv_V _ _ _ _ _ 82 [.ref (100 + 20 * m), .ref (300 + 3 * l), .int (nI (p))] [] _ _ _ _ _
  refine zv_vret dX3_hold_82 rfl ?_
  exact ⟨rfl, rfl, rfl, rfl, by unfold cc_hd cc_slf; rw [zv_u_row _ _ _ _ (by omega), cc_in_o (by omega)]⟩
theorem cC_hold_l (d : Nat) {E : zv_E} {sh : zv_S} {I : zv_I} {J : zv_J} {R : zv_R} {m : Nat} (w0 : cc_WM sh R m) {l n p : Nat} {h : Nat → Nat} (wl : sh (300 + 3 * l) = some (12, 0)) (hnum : I (300 + 3 * l) 0 = nI l) (hl : l < 200) (hc : I (100 + 20 * m) 9 = nI n) (hn : n < 200) (hg : ∀ i, i < n → R (112 + 20 * m) i = some (300 + 3 * h i) ∧ sh (300 + 3 * h i) = some (12, 0) ∧ I (300 + 3 * h i) 0 = nI (h i) ∧ h i < 200) (hp : p ≤ n) (hhi : ∀ i, p ≤ i → i < n → l < h i) (hlo : ∀ i, i + 1 = p → h i ≤ l) (hm8 : m < 8) : ∀ n1 k, p + n1 = k → k ≤ n → zv_V E mX3_hold (d + 1) 0 0 18 [.ref (100 + 20 * m), .ref (300 + 3 * l), .int (nI k)] [] sh I J (cc_in R (112 + 20 * m) k n) (cc_q sh (zv_u I (100 + 20 * m) 9 (nI (n + 1))) J (cc_hd R m (300 + 3 * l) p n)) := by
  intro n1
  induction n1 with
  | zero =>
    intro k hk hkn
    have hk2 : k = p := by omega
    subst hk2
    have w := cc_WM_row w0 (R' := cc_in R (112 + 20 * m) k n) (fun t h _ => cc_in_o h)
    rcases Nat.eq_zero_or_pos k with hz | hz
    · subst hz
      refine zv_iload_n dX3_hold_18 rfl rfl ?_
      refine zv_if_le (tgt := 60) dX3_hold_19 (by decide) (fun h19 => ?_) (fun h19 => (absurd (by decide) h19))
      exact cC_hold_e d w0 wl hnum hl hc hn hg hp hhi hlo hm8
    · obtain ⟨j, rfl⟩ : ∃ j, k = j + 1 := ⟨k - 1, by omega⟩
      obtain ⟨e1, e2, e3, e4⟩ := hg j (by omega)
      have e5 := hlo j rfl
      refine zv_iload_n dX3_hold_18 rfl rfl ?_
      refine zv_if_le (tgt := 60) dX3_hold_19 (by decide) (fun h19 => ((rm_le0 (by omega) (by omega) h19).elim)) (fun h19 => ?_)
      refine zv_aload_n dX3_hold_22 rfl rfl ?_
      refine zv_getr 3 5 (u := 112 + 20 * m) dX3_hold_23 flX3_34 (wWM_s w) rfl (wWM_r5 w) ?_
      refine zv_iload_n dX3_hold_26 rfl rfl ?_
      refine zv_iconst (v := nI (1)) dX3_hold_27 (by decide) ?_
      refine zv_isub dX3_hold_28 ?_
      refine cc_top (y := nI (j)) (nI_pred j) ?_
      refine zv_aald (j := j) (o := some (300 + 3 * h j)) dX3_hold_29 (wWM_s5 w) (by decide) (by decide) (rfl) (show j < 200 from by omega) (by decide) (by rw [cc_in_r]; exact e1) ?_
      show zv_V _ _ _ _ _ 30 [.ref (100 + 20 * m), .ref (300 + 3 * l), .int (nI (j + 1))] [.ref (300 + 3 * h j)] _ _ _ _ _
      refine zv_geti 2 0 (x := nI (h j)) dX3_hold_30 flX3_55 (e2) rfl (e3) ?_
      refine zv_aload_n dX3_hold_33 rfl rfl ?_
      refine zv_geti 2 0 (x := nI (l)) dX3_hold_34 flX3_55 (wl) rfl (hnum) ?_
      refine zv_icN_le (tgt := 60) dX3_hold_37 (by decide) (by omega) (by omega) (fun h37 => ?_) (fun h37 => (absurd h37 (by omega)))
      exact cC_hold_e d w0 wl hnum hl hc hn hg hp hhi hlo hm8
  | succ n1 ih =>
    intro k hk hkn
    obtain ⟨j, rfl⟩ : ∃ j, k = j + 1 := ⟨k - 1, by omega⟩
    have w := cc_WM_row w0 (R' := cc_in R (112 + 20 * m) (j + 1) n) (fun t h _ => cc_in_o h)
    obtain ⟨e1, e2, e3, e4⟩ := hg j (by omega)
    have e5 := hhi j (by omega) (by omega)
    refine zv_iload_n dX3_hold_18 rfl rfl ?_
    refine zv_if_le (tgt := 60) dX3_hold_19 (by decide) (fun h19 => ((rm_le0 (by omega) (by omega) h19).elim)) (fun h19 => ?_)
    refine zv_aload_n dX3_hold_22 rfl rfl ?_
    refine zv_getr 3 5 (u := 112 + 20 * m) dX3_hold_23 flX3_34 (wWM_s w) rfl (wWM_r5 w) ?_
    refine zv_iload_n dX3_hold_26 rfl rfl ?_
    refine zv_iconst (v := nI (1)) dX3_hold_27 (by decide) ?_
    refine zv_isub dX3_hold_28 ?_
    refine cc_top (y := nI (j)) (nI_pred j) ?_
    refine zv_aald (j := j) (o := some (300 + 3 * h j)) dX3_hold_29 (wWM_s5 w) (by decide) (by decide) (rfl) (show j < 200 from by omega) (by decide) (by rw [cc_in_r]; exact e1) ?_
    show zv_V _ _ _ _ _ 30 [.ref (100 + 20 * m), .ref (300 + 3 * l), .int (nI (j + 1))] [.ref (300 + 3 * h j)] _ _ _ _ _
    refine zv_geti 2 0 (x := nI (h j)) dX3_hold_30 flX3_55 (e2) rfl (e3) ?_
    refine zv_aload_n dX3_hold_33 rfl rfl ?_
    refine zv_geti 2 0 (x := nI (l)) dX3_hold_34 flX3_55 (wl) rfl (hnum) ?_
    refine zv_icN_le (tgt := 60) dX3_hold_37 (by decide) (by omega) (by omega) (fun h37 => (absurd h37 (by omega))) (fun h37 => ?_)
    refine zv_aload_n dX3_hold_40 rfl rfl ?_
    refine zv_getr 3 5 (u := 112 + 20 * m) dX3_hold_41 flX3_34 (wWM_s w) rfl (wWM_r5 w) ?_
    refine zv_iload_n dX3_hold_44 rfl rfl ?_
    refine zv_aload_n dX3_hold_45 rfl rfl ?_
    refine zv_getr 3 5 (u := 112 + 20 * m) dX3_hold_46 flX3_34 (wWM_s w) rfl (wWM_r5 w) ?_
    refine zv_iload_n dX3_hold_49 rfl rfl ?_
    refine zv_iconst (v := nI (1)) dX3_hold_50 (by decide) ?_
    refine zv_isub dX3_hold_51 ?_
    refine cc_top (y := nI (j)) (nI_pred j) ?_
    refine zv_aald (j := j) (o := some (300 + 3 * h j)) dX3_hold_52 (wWM_s5 w) (by decide) (by decide) (rfl) (show j < 200 from by omega) (by decide) (by rw [cc_in_r]; exact e1) ?_
    show zv_V _ _ _ _ _ 53 [.ref (100 + 20 * m), .ref (300 + 3 * l), .int (nI (j + 1))] [.ref (300 + 3 * h j), .int (nI (j + 1)), .ref (112 + 20 * m)] _ _ _ _ _
    refine zv_aast (j := j + 1) (o := some (300 + 3 * h j)) dX3_hold_53 (wWM_s5 w) (by decide) (Or.inr ⟨_, Or.inr (Or.inr (Or.inl ⟨rfl, e2⟩))⟩) (fun h => absurd h (by decide)) (rfl) (show j + 1 < 200 from by omega) (by decide) ?_
    rw [← e1, cc_in_n (by omega)]
    refine zv_iinc (v := nI (j)) (lv' := [.ref (100 + 20 * m), .ref (300 + 3 * l), .int (nI (j))]) dX3_hold_54 rfl (cc_dec j) (by decide) rfl ?_
    refine zv_goto (tgt := 18) dX3_hold_57 (by decide) ?_
    exact ih j (by omega) (by omega)
theorem cC_hold (d : Nat) {E : zv_E} {sh : zv_S} {I : zv_I} {J : zv_J} {R : zv_R} {m : Nat} (w : cc_WM sh R m) {l n p : Nat} {h : Nat → Nat} (wl : sh (300 + 3 * l) = some (12, 0)) (hnum : I (300 + 3 * l) 0 = nI l) (hl : l < 200) (hc : I (100 + 20 * m) 9 = nI n) (hn : n < 200) (hg : ∀ i, i < n → R (112 + 20 * m) i = some (300 + 3 * h i) ∧ sh (300 + 3 * h i) = some (12, 0) ∧ I (300 + 3 * h i) 0 = nI (h i) ∧ h i < 200) (hp : p ≤ n) (hhi : ∀ i, p ≤ i → i < n → l < h i) (hlo : ∀ i, i + 1 = p → h i ≤ l) (hm8 : m < 8) : zv_V E mX3_hold (d + 1) 0 0 0 [.ref (100 + 20 * m), .ref (300 + 3 * l)] [] sh I J R (cc_q sh (zv_u I (100 + 20 * m) 9 (nI (n + 1))) J (cc_hd R m (300 + 3 * l) p n)) := by
  refine zv_aload_n dX3_hold_0 rfl rfl ?_
  refine zv_geti 3 9 (x := nI (n)) dX3_hold_1 flX3_51 (wWM_s w) rfl (hc) ?_
  refine zv_aload_n dX3_hold_4 rfl rfl ?_
  refine zv_getr 3 5 (u := 112 + 20 * m) dX3_hold_5 flX3_34 (wWM_s w) rfl (wWM_r5 w) ?_
  refine zv_alen dX3_hold_8 (wWM_s5 w) (by decide) ?_
  refine zv_icN_lt (tgt := 13) dX3_hold_9 (by decide) (by omega) (by omega) (fun h9 => ?_) (fun h9 => (absurd h9 (by omega)))
  refine zv_aload_n dX3_hold_13 rfl rfl ?_
  refine zv_geti 3 9 (x := nI (n)) dX3_hold_14 flX3_51 (wWM_s w) rfl (hc) ?_
  refine zv_istore_n (lv' := [.ref (100 + 20 * m), .ref (300 + 3 * l), .int (nI (n))]) dX3_hold_17 rfl (by decide) rfl ?_
  have h9 := cC_hold_l (E := E) (J := J) d w wl hnum hl hc hn hg hp hhi hlo hm8 (n - p) n (by omega) (Nat.le_refl _)
  rw [cc_in_0] at h9
  exact h9
