/-- ends without an answer, with the rows b -/
def rm_q (b : zv_I) : Option Value → zv_I → Prop := fun v b2 => v = none ∧ b = b2
def rm_frs (a : zv_I) (m : Nat) : Option Nat := rm_fst (fun k => decide (a 27 (40 * m + k) = 0)) 40 0
def rm_put (b : zv_I) (m l : Nat) (o : Option Nat) : zv_I := match o with
  | none => b
  | some k => zv_u b 27 (40 * m + k) (nI (l + 1))
def rm_hld (a : zv_I) (m l : Nat) : zv_I := rm_put (zv_u a 20 (200 * m + l) (nI 2)) m l (rm_frs a m)
theorem cM_holds_l (d : Nat) {b : zv_I} {m l : Nat} (hm : m < 8) (hl : l < 200) : ∀ n k, k + n = 40 → rm_V mX8_holds d 15 [.ref 3, .int (nI m), .int (nI l), .int (nI k)] [] b (rm_q (rm_put b m l (rm_fst (fun k => decide (b 27 (40 * m + k) = 0)) n k))) := by
  intro n
  induction n with
  | zero =>
    intro k hk
    refine rm_iload_n dX8_holds_15 rfl rfl ?_
    refine rm_bipush (v := nI (40)) dX8_holds_16 (by decide) ?_
    refine rm_icN_ge (tgt := 56) dX8_holds_18 (by decide) (by omega) (by omega) (fun h18 => ?_) (fun h18 => (absurd h18 (by omega)))
    refine rm_vret dX8_holds_56 rfl ?_
    exact ⟨rfl, rfl⟩
  | succ n ih =>
    intro k hk
    refine rm_iload_n dX8_holds_15 rfl rfl ?_
    refine rm_bipush (v := nI (40)) dX8_holds_16 (by decide) ?_
    refine rm_icN_ge (tgt := 56) dX8_holds_18 (by decide) (by omega) (by omega) (fun h18 => (absurd h18 (by omega))) (fun h18 => ?_)
    refine rm_aload_n dX8_holds_21 rfl rfl ?_
    refine rm_getr 23 (t := 27) dX8_holds_22 flX8_69 (by decide) rfl rfl ?_
    refine rm_bipush (v := nI (40)) dX8_holds_25 (by decide) ?_
    refine rm_iload_n dX8_holds_27 rfl rfl ?_
    refine rm_imul dX8_holds_28 ?_
    refine rm_top (pk_mul (40) (m)) ?_
    refine rm_iload_n dX8_holds_29 rfl rfl ?_
    refine rm_iadd dX8_holds_30 ?_
    refine rm_top (nI_add (40 * m) (k)) ?_
    refine rm_iald (f := 23) (j := 40 * m + k) (x := (b 27 (40 * m + k))) dX8_holds_31 rfl (by decide) rfl rfl (rfl) (show 40 * m + k < 320 from by omega) (rfl) ?_
    refine rm_if_ne (tgt := 50) dX8_holds_32 (by decide) (fun h32 => ?_) (fun h32 => ?_)
    · refine rm_iinc (v := nI (k + 1)) (lv' := [.ref 3, .int (nI (m)), .int (nI (l)), .int (nI (k + 1))]) dX8_holds_50 rfl (by rw [← nI_1]; rfl) (by decide) rfl ?_
      refine rm_goto (tgt := 15) dX8_holds_53 (by decide) ?_
      rw [rm_fst_f (p := (fun k => decide (b 27 (40 * m + k) = 0))) (decide_eq_false h32)]
      exact ih (k + 1) (by omega)
    · refine rm_aload_n dX8_holds_35 rfl rfl ?_
      refine rm_getr 23 (t := 27) dX8_holds_36 flX8_69 (by decide) rfl rfl ?_
      refine rm_bipush (v := nI (40)) dX8_holds_39 (by decide) ?_
      refine rm_iload_n dX8_holds_41 rfl rfl ?_
      refine rm_imul dX8_holds_42 ?_
      refine rm_top (pk_mul (40) (m)) ?_
      refine rm_iload_n dX8_holds_43 rfl rfl ?_
      refine rm_iadd dX8_holds_44 ?_
      refine rm_top (nI_add (40 * m) (k)) ?_
      refine rm_iload_n dX8_holds_45 rfl rfl ?_
      refine rm_iconst (v := nI (1)) dX8_holds_46 (by decide) ?_
      refine rm_iadd dX8_holds_47 ?_
      refine rm_top (nI_add (l) (1)) ?_
      refine rm_iast (f := 23) (j := 40 * m + k) dX8_holds_48 rfl (by decide) rfl rfl (rfl) (show 40 * m + k < 320 from by omega) ?_
      refine rm_vret dX8_holds_49 rfl ?_
      rw [rm_fst_t (p := (fun k => decide (b 27 (40 * m + k) = 0))) (decide_eq_true h32)]
      exact ⟨rfl, rfl⟩
theorem cM_holds (d : Nat) (a : zv_I) {m l : Nat} (hm : m < 8) (hl : l < 200) : rm_V mX8_holds d 0 [.ref 3, .int (nI m), .int (nI l)] [] a (rm_q (rm_hld a m l)) := by
  refine rm_aload_n dX8_holds_0 rfl rfl ?_
  refine rm_getr 16 (t := 20) dX8_holds_1 flX8_46 (by decide) rfl rfl ?_
  refine rm_sipush (v := nI (200)) dX8_holds_4 (by decide) ?_
  refine rm_iload_n dX8_holds_7 rfl rfl ?_
  refine rm_imul dX8_holds_8 ?_
  refine rm_top (pk_mul (200) (m)) ?_
  refine rm_iload_n dX8_holds_9 rfl rfl ?_
  refine rm_iadd dX8_holds_10 ?_
  refine rm_top (nI_add (200 * m) (l)) ?_
  refine rm_iconst (v := nI (2)) dX8_holds_11 (by decide) ?_
  refine rm_iast (f := 16) (j := 200 * m + l) dX8_holds_12 rfl (by decide) rfl rfl (rfl) (show 200 * m + l < 1600 from by omega) ?_
  refine rm_iconst (v := nI (0)) dX8_holds_13 (by decide) ?_
  refine rm_istore_n (lv' := [.ref 3, .int (nI (m)), .int (nI (l)), .int (nI (0))]) dX8_holds_14 rfl (by decide) rfl ?_
  exact cM_holds_l d hm hl 40 0 (by omega)
def rm_gs (a : zv_I) (l c w k : Nat) : zv_I := fun t j => if t = 20 ∧ j % 200 = l ∧ j / 200 < k ∧ rm_in a (j / 200) c = true ∧ j / 200 ≠ w then nI 1 else a t j
theorem rm_gs_o {a : zv_I} {l c w k t : Nat} (h : t ≠ 20) : rm_gs a l c w k t = a t := funext fun j => if_neg fun q => h q.1
theorem rm_gs_0 (a : zv_I) (l c w : Nat) : rm_gs a l c w 0 = a := funext fun t => funext fun j => if_neg fun q => Nat.not_lt_zero _ q.2.2.1
theorem rm_gs_t {a : zv_I} {l c w k : Nat} (hl : l < 200) (h : rm_in a k c = true) (hw : k ≠ w) : zv_u (rm_gs a l c w k) 20 (200 * k + l) (nI 1) = rm_gs a l c w (k + 1) := by
  funext t j
  unfold zv_u rm_gs
  by_cases h1 : t = 20 ∧ j = 200 * k + l
  · obtain ⟨rfl, rfl⟩ := h1
    have e1 : (200 * k + l) % 200 = l := by omega
    have e2 : (200 * k + l) / 200 = k := by omega
    rw [if_pos ⟨rfl, rfl⟩, if_pos ⟨rfl, e1, by omega, by rw [e2]; exact h, by rw [e2]; exact hw⟩]
  · rw [if_neg h1]
    by_cases h2 : t = 20 ∧ j % 200 = l ∧ j / 200 < k ∧ rm_in a (j / 200) c = true ∧ j / 200 ≠ w
    · rw [if_pos h2, if_pos ⟨h2.1, h2.2.1, by omega, h2.2.2.2.1, h2.2.2.2.2⟩]
    · rw [if_neg h2, if_neg (fun q => ?_)]
      by_cases h3 : j / 200 < k
      · exact h2 ⟨q.1, q.2.1, h3, q.2.2.2.1, q.2.2.2.2⟩
      · exact h1 ⟨q.1, by omega⟩
theorem rm_gs_f {a : zv_I} {l c w k : Nat} (h : rm_in a k c = false ∨ k = w) : rm_gs a l c w k = rm_gs a l c w (k + 1) := by
  funext t j
  unfold rm_gs
  by_cases h2 : t = 20 ∧ j % 200 = l ∧ j / 200 < k ∧ rm_in a (j / 200) c = true ∧ j / 200 ≠ w
  · rw [if_pos h2, if_pos ⟨h2.1, h2.2.1, by omega, h2.2.2.2.1, h2.2.2.2.2⟩]
  · rw [if_neg h2, if_neg (fun q => ?_)]
    by_cases h3 : j / 200 < k
    · exact h2 ⟨q.1, q.2.1, h3, q.2.2.2.1, q.2.2.2.2⟩
    · have e : j / 200 = k := by omega
      rw [e] at q
      rcases h with h | h
      · rw [h] at q; cases q.2.2.2.1
      · exact q.2.2.2.2 h
theorem rm_in_o {a b : zv_I} (h : a 6 = b 6) (m c : Nat) : rm_in a m c = rm_in b m c := by unfold rm_in; rw [h]
def rm_goes (a : zv_I) (nm l : Nat) : zv_I := rm_hld (rm_gs a l (rm_ci a l) (rm_wr a l) nm) (rm_wr a l) l
theorem cM_goes_l (d : Nat) {a : zv_I} {nm l : Nat} (hm : a 3 0 = nI nm) (hmb : nm ≤ 8) (hl : l < 200) (hc : a 11 l = nI (rm_ci a l)) (hc6 : rm_ci a l < 6) (hw : a 12 l = nI (rm_wr a l)) (hw8 : rm_wr a l < 8) : ∀ n k, k + n = nm → rm_V mX8_goes (d + 1) 9 [.ref 3, .int (nI l), .int (nI (rm_ci a l)), .int (nI k)] [] (rm_gs a l (rm_ci a l) (rm_wr a l) k) (rm_q (rm_goes a nm l)) := by
  intro n
  induction n with
  | zero =>
    intro k hk
    have hk2 : k = nm := by omega
    subst hk2
    refine rm_iload_n dX8_goes_9 rfl rfl ?_
    refine rm_aload_n dX8_goes_10 rfl rfl ?_
    refine rm_geti 0 (x := nI (k)) dX8_goes_11 flX8_78 rfl (by rw [rm_gs_o (by decide)]; exact hm) ?_
    refine rm_icN_ge (tgt := 55) dX8_goes_14 (by decide) (by omega) (by omega) (fun h14 => ?_) (fun h14 => (absurd h14 (by omega)))
    refine rm_aload_n dX8_goes_55 rfl rfl ?_
    refine rm_aload_n dX8_goes_56 rfl rfl ?_
    refine rm_getr 8 (t := 12) dX8_goes_57 flX8_22 (by decide) rfl rfl ?_
    refine rm_iload_n dX8_goes_60 rfl rfl ?_
    refine rm_iald (f := 8) (j := l) (x := nI (rm_wr a l)) dX8_goes_61 rfl (by decide) rfl rfl (rfl) (show l < 200 from by omega) (by rw [rm_gs_o (by decide)]; exact hw) ?_
    refine rm_iload_n dX8_goes_62 rfl rfl ?_
    refine rm_callV (As := [.int (nI (rm_wr a l)), .int (nI (l))]) (st := []) dX8_goes_63 cvX8_109 rfl rfl (by decide) (zv_cat_i [nI (rm_wr a l), nI (l)]) (Nat.le_of_ble_eq_true rfl) (cM_holds d (rm_gs a l (rm_ci a l) (rm_wr a l) k) (m := rm_wr a l) (l := l) hw8 hl) (fun v b q => ?_)
    obtain ⟨rfl, rfl⟩ := q
    show rm_V _ _ 66 [.ref 3, .int (nI (l)), .int (nI (rm_ci a l)), .int (nI (k))] [] _ _
    refine rm_vret dX8_goes_66 rfl ?_
    exact ⟨rfl, rfl⟩
  | succ n ih =>
    intro k hk
    refine rm_iload_n dX8_goes_9 rfl rfl ?_
    refine rm_aload_n dX8_goes_10 rfl rfl ?_
    refine rm_geti 0 (x := nI (nm)) dX8_goes_11 flX8_78 rfl (by rw [rm_gs_o (by decide)]; exact hm) ?_
    refine rm_icN_ge (tgt := 55) dX8_goes_14 (by decide) (by omega) (by omega) (fun h14 => (absurd h14 (by omega))) (fun h14 => ?_)
    refine rm_aload_n dX8_goes_17 rfl rfl ?_
    refine rm_iload_n dX8_goes_18 rfl rfl ?_
    refine rm_iload_n dX8_goes_19 rfl rfl ?_
    refine rm_callV (As := [.int (nI (k)), .int (nI (rm_ci a l))]) (st := []) dX8_goes_20 cvX8_92 rfl rfl (by decide) (zv_cat_i [nI (k), nI (rm_ci a l)]) (Nat.le_of_ble_eq_true rfl) (cM_isIn d (rm_gs a l (rm_ci a l) (rm_wr a l) k) (m := k) (c := rm_ci a l) hc6) (fun v b q => ?_)
    obtain ⟨rfl, rfl⟩ := q
    rw [rm_in_o (a := rm_gs a l (rm_ci a l) (rm_wr a l) k) (b := a) (rm_gs_o (by decide)) k (rm_ci a l)]
    show rm_V _ _ 23 [.ref 3, .int (nI (l)), .int (nI (rm_ci a l)), .int (nI (k))] [.int (rm_b (rm_in a k (rm_ci a l)))] _ _
    refine rm_ifB_eq (tgt := 49) dX8_goes_23 (by decide) (fun h23 => ?_) (fun h23 => ?_)
    · refine rm_iinc (v := nI (k + 1)) (lv' := [.ref 3, .int (nI (l)), .int (nI (rm_ci a l)), .int (nI (k + 1))]) dX8_goes_49 rfl (by rw [← nI_1]; rfl) (by decide) rfl ?_
      refine rm_goto (tgt := 9) dX8_goes_52 (by decide) ?_
      rw [rm_gs_f (Or.inl h23)]
      exact ih (k + 1) (by omega)
    · refine rm_iload_n dX8_goes_26 rfl rfl ?_
      refine rm_aload_n dX8_goes_27 rfl rfl ?_
      refine rm_getr 8 (t := 12) dX8_goes_28 flX8_22 (by decide) rfl rfl ?_
      refine rm_iload_n dX8_goes_31 rfl rfl ?_
      refine rm_iald (f := 8) (j := l) (x := nI (rm_wr a l)) dX8_goes_32 rfl (by decide) rfl rfl (rfl) (show l < 200 from by omega) (by rw [rm_gs_o (by decide)]; exact hw) ?_
      refine rm_icN_eq (tgt := 49) dX8_goes_33 (by decide) (by omega) (by omega) (fun h33 => ?_) (fun h33 => ?_)
      · refine rm_iinc (v := nI (k + 1)) (lv' := [.ref 3, .int (nI (l)), .int (nI (rm_ci a l)), .int (nI (k + 1))]) dX8_goes_49 rfl (by rw [← nI_1]; rfl) (by decide) rfl ?_
        refine rm_goto (tgt := 9) dX8_goes_52 (by decide) ?_
        rw [rm_gs_f (Or.inr h33)]
        exact ih (k + 1) (by omega)
      · refine rm_aload_n dX8_goes_36 rfl rfl ?_
        refine rm_getr 16 (t := 20) dX8_goes_37 flX8_46 (by decide) rfl rfl ?_
        refine rm_sipush (v := nI (200)) dX8_goes_40 (by decide) ?_
        refine rm_iload_n dX8_goes_43 rfl rfl ?_
        refine rm_imul dX8_goes_44 ?_
        refine rm_top (pk_mul (200) (k)) ?_
        refine rm_iload_n dX8_goes_45 rfl rfl ?_
        refine rm_iadd dX8_goes_46 ?_
        refine rm_top (nI_add (200 * k) (l)) ?_
        refine rm_iconst (v := nI (1)) dX8_goes_47 (by decide) ?_
        refine rm_iast (f := 16) (j := 200 * k + l) dX8_goes_48 rfl (by decide) rfl rfl (rfl) (show 200 * k + l < 1600 from by omega) ?_
        refine rm_iinc (v := nI (k + 1)) (lv' := [.ref 3, .int (nI (l)), .int (nI (rm_ci a l)), .int (nI (k + 1))]) dX8_goes_49 rfl (by rw [← nI_1]; rfl) (by decide) rfl ?_
        refine rm_goto (tgt := 9) dX8_goes_52 (by decide) ?_
        rw [rm_gs_t hl h23 h33]
        exact ih (k + 1) (by omega)
theorem cM_goes (d : Nat) {a : zv_I} {nm l : Nat} (hm : a 3 0 = nI nm) (hmb : nm ≤ 8) (hl : l < 200) (hc : a 11 l = nI (rm_ci a l)) (hc6 : rm_ci a l < 6) (hw : a 12 l = nI (rm_wr a l)) (hw8 : rm_wr a l < 8) : rm_V mX8_goes (d + 1) 0 [.ref 3, .int (nI l)] [] a (rm_q (rm_goes a nm l)) := by
  refine rm_aload_n dX8_goes_0 rfl rfl ?_
  refine rm_getr 7 (t := 11) dX8_goes_1 flX8_19 (by decide) rfl rfl ?_
  refine rm_iload_n dX8_goes_4 rfl rfl ?_
  refine rm_iald (f := 7) (j := l) (x := nI (rm_ci a l)) dX8_goes_5 rfl (by decide) rfl rfl (rfl) (show l < 200 from by omega) (hc) ?_
  refine rm_istore_n (lv' := [.ref 3, .int (nI (l)), .int (nI (rm_ci a l))]) dX8_goes_6 rfl (by decide) rfl ?_
  refine rm_iconst (v := nI (0)) dX8_goes_7 (by decide) ?_
  refine rm_istore_n (lv' := [.ref 3, .int (nI (l)), .int (nI (rm_ci a l)), .int (nI (0))]) dX8_goes_8 rfl (by decide) rfl ?_
  have h := cM_goes_l d hm hmb hl hc hc6 hw hw8 nm 0 (by omega)
  rw [rm_gs_0] at h
  exact h
