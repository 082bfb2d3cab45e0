theorem cM_lineOf_l (d : Nat) {a : zv_I} {nm l : Nat} (hm : a 3 0 = nI nm) (hb : nm ≤ 8) (hl : l < 200) : ∀ n k, k + n = nm → rm_V mX8_lineOf d 2 [.ref 3, .int (nI l), .int (nI k)] [] a (rm_p (rm_o (rm_fst (fun m => decide (a 20 (200 * m + l) = nI 1)) n k)) a) := by
  intro n
  induction n with
  | zero =>
    intro k hk
    refine rm_iload_n dX8_lineOf_2 rfl rfl ?_
    refine rm_aload_n dX8_lineOf_3 rfl rfl ?_
    refine rm_geti 0 (x := nI (nm)) dX8_lineOf_4 flX8_78 rfl (hm) ?_
    refine rm_icN_ge (tgt := 34) dX8_lineOf_7 (by decide) (by omega) (by omega) (fun h7 => ?_) (fun h7 => (absurd h7 (by omega)))
    refine rm_iconst (v := (-1 : Int32)) dX8_lineOf_34 (by decide) ?_
    refine rm_iret dX8_lineOf_35 rfl rfl ?_
    exact ⟨rfl, rfl⟩
  | succ n ih =>
    intro k hk
    refine rm_iload_n dX8_lineOf_2 rfl rfl ?_
    refine rm_aload_n dX8_lineOf_3 rfl rfl ?_
    refine rm_geti 0 (x := nI (nm)) dX8_lineOf_4 flX8_78 rfl (hm) ?_
    refine rm_icN_ge (tgt := 34) dX8_lineOf_7 (by decide) (by omega) (by omega) (fun h7 => (absurd h7 (by omega))) (fun h7 => ?_)
    refine rm_aload_n dX8_lineOf_10 rfl rfl ?_
    refine rm_getr 16 (t := 20) dX8_lineOf_11 flX8_46 (by decide) rfl rfl ?_
    refine rm_sipush (v := nI (200)) dX8_lineOf_14 (by decide) ?_
    refine rm_iload_n dX8_lineOf_17 rfl rfl ?_
    refine rm_imul dX8_lineOf_18 ?_
    refine rm_top (pk_mul (200) (k)) ?_
    refine rm_iload_n dX8_lineOf_19 rfl rfl ?_
    refine rm_iadd dX8_lineOf_20 ?_
    refine rm_top (nI_add (200 * k) (l)) ?_
    refine rm_iald (f := 16) (j := 200 * k + l) (x := (a 20 (200 * k + l))) dX8_lineOf_21 rfl (by decide) rfl rfl (rfl) (show 200 * k + l < 1600 from by omega) (rfl) ?_
    refine rm_iconst (v := nI (1)) dX8_lineOf_22 (by decide) ?_
    refine rm_icmp_ne (tgt := 28) dX8_lineOf_23 (by decide) (fun h23 => ?_) (fun h23 => ?_)
    · refine rm_iinc (v := nI (k + 1)) (lv' := [.ref 3, .int (nI (l)), .int (nI (k + 1))]) dX8_lineOf_28 rfl (by rw [← nI_1]; rfl) (by decide) rfl ?_
      refine rm_goto (tgt := 2) dX8_lineOf_31 (by decide) ?_
      rw [rm_fst_f (p := (fun m => decide (a 20 (200 * m + l) = nI 1))) (decide_eq_false h23)]
      exact ih (k + 1) (by omega)
    · refine rm_iload_n dX8_lineOf_26 rfl rfl ?_
      refine rm_iret dX8_lineOf_27 rfl rfl ?_
      exact ⟨by rw [rm_fst_t (p := (fun m => decide (a 20 (200 * m + l) = nI 1))) (decide_eq_true h23)]; rfl, rfl⟩
def rm_lof (a : zv_I) (nm l : Nat) : Option Nat := rm_fst (fun m => decide (a 20 (200 * m + l) = nI 1)) nm 0
theorem cM_lineOf (d : Nat) {a : zv_I} {nm l : Nat} (hm : a 3 0 = nI nm) (hb : nm ≤ 8) (hl : l < 200) : rm_V mX8_lineOf d 0 [.ref 3, .int (nI l)] [] a (rm_p (rm_o (rm_lof a nm l)) a) := by
  refine rm_iconst (v := nI (0)) dX8_lineOf_0 (by decide) ?_
  refine rm_istore_n (lv' := [.ref 3, .int (nI (l)), .int (nI (0))]) dX8_lineOf_1 rfl (by decide) rfl ?_
  exact cM_lineOf_l d hm hb hl nm 0 (by omega)
theorem cM_eldest_l (d : Nat) {a : zv_I} {c e : Nat} (hc : c < 6) : ∀ n k, rm_fst (fun m => rm_in a m c) n k = some e → rm_V mX8_eldest (d + 1) 2 [.ref 3, .int (nI c), .int (nI k)] [] a (rm_p (nI e) a) := by
  intro n
  induction n with
  | zero =>
    intro k he
    cases he
  | succ n ih =>
    intro k he
    refine rm_aload_n dX8_eldest_2 rfl rfl ?_
    refine rm_iload_n dX8_eldest_3 rfl rfl ?_
    refine rm_iload_n dX8_eldest_4 rfl rfl ?_
    refine rm_callV (As := [.int (nI (k)), .int (nI (c))]) (st := []) dX8_eldest_5 cvX8_92 rfl rfl (by decide) (zv_cat_i [nI (k), nI (c)]) (Nat.le_of_ble_eq_true rfl) (cM_isIn d a (m := k) (c := c) (by omega)) (fun v b q => ?_)
    obtain ⟨rfl, rfl⟩ := q
    show rm_V _ _ 8 [.ref 3, .int (nI (c)), .int (nI (k))] [.int (rm_b (rm_in a k c))] _ _
    refine rm_ifB_ne (tgt := 17) dX8_eldest_8 (by decide) (fun h8 => ?_) (fun h8 => ?_)
    · refine rm_iload_n dX8_eldest_17 rfl rfl ?_
      refine rm_iret dX8_eldest_18 rfl rfl ?_
      rw [rm_fst_t (p := fun m => rm_in a m c) h8] at he
      cases he
      exact ⟨rfl, rfl⟩
    · refine rm_iinc (v := nI (k + 1)) (lv' := [.ref 3, .int (nI (c)), .int (nI (k + 1))]) dX8_eldest_11 rfl (by rw [← nI_1]; rfl) (by decide) rfl ?_
      refine rm_goto (tgt := 2) dX8_eldest_14 (by decide) ?_
      rw [rm_fst_f (p := fun m => rm_in a m c) h8] at he
      exact ih (k + 1) he
theorem cM_eldest (d : Nat) {a : zv_I} {c e : Nat} (hc : c < 6) (he : rm_fst (fun m => rm_in a m c) 8 0 = some e) : rm_V mX8_eldest (d + 1) 0 [.ref 3, .int (nI c)] [] a (rm_p (nI e) a) := by
  refine rm_iconst (v := nI (0)) dX8_eldest_0 (by decide) ?_
  refine rm_istore_n (lv' := [.ref 3, .int (nI (c)), .int (nI (0))]) dX8_eldest_1 rfl (by decide) rfl ?_
  exact cM_eldest_l d hc 8 0 he
