def rm_abv (k : Nat) : Nat := if k = 1 ∨ k = 3 then 0 else k - 1
theorem cM_above (d : Nat) (a : zv_I) {k : Nat} (h0 : 0 < k) (h6 : k < 6) : rm_V mX8_above d 0 [.int (nI k)] [] a (rm_p (nI (rm_abv k)) a) := by
  refine rm_iload_n dX8_above_0 rfl rfl ?_
  refine rm_iconst (v := nI (1)) dX8_above_1 (by decide) ?_
  refine rm_icN_eq (tgt := 10) dX8_above_2 (by decide) (by omega) (by omega) (fun h2 => ?_) (fun h2 => ?_)
  · refine rm_iconst (v := nI (0)) dX8_above_10 (by decide) ?_
    refine rm_goto (tgt := 17) dX8_above_11 (by decide) ?_
    refine rm_iret dX8_above_17 rfl rfl ?_
    exact ⟨by unfold rm_abv; first | rw [if_pos (Or.inl h2)] | rw [if_pos (Or.inr h7)] | rw [if_neg (fun q => q.elim h2 h7)], rfl⟩
  · refine rm_iload_n dX8_above_5 rfl rfl ?_
    refine rm_iconst (v := nI (3)) dX8_above_6 (by decide) ?_
    refine rm_icN_ne (tgt := 14) dX8_above_7 (by decide) (by omega) (by omega) (fun h7 => ?_) (fun h7 => ?_)
    · refine rm_iload_n dX8_above_14 rfl rfl ?_
      refine rm_iconst (v := nI (1)) dX8_above_15 (by decide) ?_
      refine rm_isub dX8_above_16 ?_
      refine rm_top (y := nI (k - 1)) (pk_sub (by omega)) ?_
      refine rm_iret dX8_above_17 rfl rfl ?_
      exact ⟨by unfold rm_abv; first | rw [if_pos (Or.inl h2)] | rw [if_pos (Or.inr h7)] | rw [if_neg (fun q => q.elim h2 h7)], rfl⟩
    · refine rm_iconst (v := nI (0)) dX8_above_10 (by decide) ?_
      refine rm_goto (tgt := 17) dX8_above_11 (by decide) ?_
      refine rm_iret dX8_above_17 rfl rfl ?_
      exact ⟨by unfold rm_abv; first | rw [if_pos (Or.inl h2)] | rw [if_pos (Or.inr h7)] | rw [if_neg (fun q => q.elim h2 h7)], rfl⟩
def rm_of : Nat → Nat → Nat → Bool
  | 0, k, o => decide (k = o)
  | n + 1, k, o => if k = o ∨ k = 0 then decide (k = o) else rm_of n (rm_abv k) o
theorem rm_abv_lt {k : Nat} (h : 0 < k) : rm_abv k < k := by unfold rm_abv; split <;> omega
theorem rm_nz {k : Nat} (h : k < 2 ^ 31) (e : nI k = 0) : k = 0 := by
  have := congrArg Int32.toInt e
  rw [nI_toInt h] at this
  have h0 : (0 : Int32).toInt = 0 := by decide
  omega
theorem cM_isOf_l (d : Nat) (a : zv_I) {o k0 : Nat} (ho : o < 6) : ∀ n k, k ≤ n → k < 6 → rm_V mX8_isOf (d + 1) 2 [.int (nI k0), .int (nI o), .int (nI k)] [] a (rm_p (rm_b (rm_of n k o)) a) := by
  intro n
  induction n with
  | zero =>
    intro k hk h6
    have hk0 : k = 0 := by omega
    subst hk0
    refine rm_iload_n dX8_isOf_2 rfl rfl ?_
    refine rm_iload_n dX8_isOf_3 rfl rfl ?_
    refine rm_icN_eq (tgt := 19) dX8_isOf_4 (by decide) (by omega) (by omega) (fun h4 => ?_) (fun h4 => ?_)
    · refine rm_iload_n dX8_isOf_19 rfl rfl ?_
      refine rm_iload_n dX8_isOf_20 rfl rfl ?_
      refine rm_icN_ne (tgt := 28) dX8_isOf_21 (by decide) (by omega) (by omega) (fun h21 => ?_) (fun h21 => ?_)
      · refine rm_iconst (v := nI (0)) dX8_isOf_28 (by decide) ?_
        refine rm_iret dX8_isOf_29 rfl rfl ?_
        exact ⟨by unfold rm_of; first | (rw [decide_eq_true (by omega)]; rfl) | (rw [decide_eq_false (by omega)]; rfl), rfl⟩
      · refine rm_iconst (v := nI (1)) dX8_isOf_24 (by decide) ?_
        refine rm_goto (tgt := 29) dX8_isOf_25 (by decide) ?_
        refine rm_iret dX8_isOf_29 rfl rfl ?_
        exact ⟨by unfold rm_of; first | (rw [decide_eq_true (by omega)]; rfl) | (rw [decide_eq_false (by omega)]; rfl), rfl⟩
    · refine rm_iload_n dX8_isOf_7 rfl rfl ?_
      refine rm_if_eq (tgt := 19) dX8_isOf_8 (by decide) (fun h8 => ?_) (fun h8 => (absurd h8 (by decide)))
      refine rm_iload_n dX8_isOf_19 rfl rfl ?_
      refine rm_iload_n dX8_isOf_20 rfl rfl ?_
      refine rm_icN_ne (tgt := 28) dX8_isOf_21 (by decide) (by omega) (by omega) (fun h21 => ?_) (fun h21 => ?_)
      · refine rm_iconst (v := nI (0)) dX8_isOf_28 (by decide) ?_
        refine rm_iret dX8_isOf_29 rfl rfl ?_
        exact ⟨by unfold rm_of; first | (rw [decide_eq_true (by omega)]; rfl) | (rw [decide_eq_false (by omega)]; rfl), rfl⟩
      · refine rm_iconst (v := nI (1)) dX8_isOf_24 (by decide) ?_
        refine rm_goto (tgt := 29) dX8_isOf_25 (by decide) ?_
        refine rm_iret dX8_isOf_29 rfl rfl ?_
        exact ⟨by unfold rm_of; first | (rw [decide_eq_true (by omega)]; rfl) | (rw [decide_eq_false (by omega)]; rfl), rfl⟩
  | succ n ih =>
    intro k hk h6
    refine rm_iload_n dX8_isOf_2 rfl rfl ?_
    refine rm_iload_n dX8_isOf_3 rfl rfl ?_
    refine rm_icN_eq (tgt := 19) dX8_isOf_4 (by decide) (by omega) (by omega) (fun h4 => ?_) (fun h4 => ?_)
    · refine rm_iload_n dX8_isOf_19 rfl rfl ?_
      refine rm_iload_n dX8_isOf_20 rfl rfl ?_
      refine rm_icN_ne (tgt := 28) dX8_isOf_21 (by decide) (by omega) (by omega) (fun h21 => ?_) (fun h21 => ?_)
      · refine rm_iconst (v := nI (0)) dX8_isOf_28 (by decide) ?_
        refine rm_iret dX8_isOf_29 rfl rfl ?_
        exact ⟨by unfold rm_of; rw [if_pos (by omega)]; first | (rw [decide_eq_true (by omega)]; rfl) | (rw [decide_eq_false (by omega)]; rfl), rfl⟩
      · refine rm_iconst (v := nI (1)) dX8_isOf_24 (by decide) ?_
        refine rm_goto (tgt := 29) dX8_isOf_25 (by decide) ?_
        refine rm_iret dX8_isOf_29 rfl rfl ?_
        exact ⟨by unfold rm_of; rw [if_pos (by omega)]; first | (rw [decide_eq_true (by omega)]; rfl) | (rw [decide_eq_false (by omega)]; rfl), rfl⟩
    · refine rm_iload_n dX8_isOf_7 rfl rfl ?_
      refine rm_if_eq (tgt := 19) dX8_isOf_8 (by decide) (fun h8 => ?_) (fun h8 => ?_)
      · have h8 : k = 0 := rm_nz (by omega) h8
        refine rm_iload_n dX8_isOf_19 rfl rfl ?_
        refine rm_iload_n dX8_isOf_20 rfl rfl ?_
        refine rm_icN_ne (tgt := 28) dX8_isOf_21 (by decide) (by omega) (by omega) (fun h21 => ?_) (fun h21 => ?_)
        · refine rm_iconst (v := nI (0)) dX8_isOf_28 (by decide) ?_
          refine rm_iret dX8_isOf_29 rfl rfl ?_
          exact ⟨by unfold rm_of; rw [if_pos (by omega)]; first | (rw [decide_eq_true (by omega)]; rfl) | (rw [decide_eq_false (by omega)]; rfl), rfl⟩
        · refine rm_iconst (v := nI (1)) dX8_isOf_24 (by decide) ?_
          refine rm_goto (tgt := 29) dX8_isOf_25 (by decide) ?_
          refine rm_iret dX8_isOf_29 rfl rfl ?_
          exact ⟨by unfold rm_of; rw [if_pos (by omega)]; first | (rw [decide_eq_true (by omega)]; rfl) | (rw [decide_eq_false (by omega)]; rfl), rfl⟩
      · have h8 : k ≠ 0 := fun e => h8 (by rw [e]; rfl)
        refine rm_iload_n dX8_isOf_11 rfl rfl ?_
        refine rm_callS (As := [.int (nI (k))]) (st := []) dX8_isOf_12 csX8_96 rfl (by decide) (zv_cat_i [nI (k)]) (Nat.le_of_ble_eq_true rfl) (cM_above d a (k := k) (by omega) h6) (fun v b q => ?_)
        obtain ⟨rfl, rfl⟩ := q
        show rm_V _ _ 15 [.int (nI (k0)), .int (nI (o)), .int (nI (k))] [.int (nI (rm_abv k))] _ _
        refine rm_istore_n (lv' := [.int (nI (k0)), .int (nI (o)), .int (nI (rm_abv k))]) dX8_isOf_15 rfl (by decide) rfl ?_
        refine rm_goto (tgt := 2) dX8_isOf_16 (by decide) ?_
        rw [show rm_of (n + 1) k o = rm_of n (rm_abv k) o from if_neg (by omega)]
        have := rm_abv_lt (k := k) (by omega)
        exact ih (rm_abv k) (by omega) (by omega)
theorem cM_isOf (d : Nat) (a : zv_I) {k o : Nat} (hk : k < 6) (ho : o < 6) : rm_V mX8_isOf (d + 1) 0 [.int (nI k), .int (nI o)] [] a (rm_p (rm_b (rm_of 5 k o)) a) := by
  refine rm_iload_n dX8_isOf_0 rfl rfl ?_
  refine rm_istore_n (lv' := [.int (nI (k)), .int (nI (o)), .int (nI (k))]) dX8_isOf_1 rfl (by decide) rfl ?_
  exact cM_isOf_l d a ho 5 k (by omega) hk
def rm_lk (a : zv_I) (r l d m : Nat) : Int32 := (if nI d = a 11 l ∧ nI m = a 12 l then a 13 l - nI 1 else a 19 (48 * l + 8 * d + m)) - a 21 (48 * r + 8 * d + m)
theorem cM_lacks (d : Nat) (a : zv_I) {r l e m : Nat} (hr : r < 8) (hl : l < 200) (he : e < 6) (hm : m < 8) : rm_V mX8_lacks d 0 [.ref 3, .int (nI r), .int (nI l), .int (nI e), .int (nI m)] [] a (rm_p (rm_lk a r l e m) a) := by
  refine rm_iload_n dX8_lacks_0 rfl rfl ?_
  refine rm_aload_n dX8_lacks_1 rfl rfl ?_
  refine rm_getr 7 (t := 11) dX8_lacks_2 flX8_19 (by decide) rfl rfl ?_
  refine rm_iload_n dX8_lacks_5 rfl rfl ?_
  refine rm_iald (f := 7) (j := l) (x := (a 11 (l))) dX8_lacks_6 rfl (by decide) rfl rfl (rfl) (show l < 200 from by omega) (rfl) ?_
  refine rm_icmp_ne (tgt := 25) dX8_lacks_7 (by decide) (fun h7 => ?_) (fun h7 => ?_)
  · refine rm_iconst (v := nI (0)) dX8_lacks_25 (by decide) ?_
    refine rm_istore (lv' := [.ref 3, .int (nI (r)), .int (nI (l)), .int (nI (e)), .int (nI (m)), .int (nI (0))]) dX8_lacks_26 (by decide) rfl ?_
    refine rm_iload dX8_lacks_28 rfl ?_
    refine rm_if_eq (tgt := 44) dX8_lacks_30 (by decide) (fun h30 => ?_) (fun h30 => (absurd h30 (by decide)))
    refine rm_aload_n dX8_lacks_44 rfl rfl ?_
    refine rm_getr 15 (t := 19) dX8_lacks_45 flX8_43 (by decide) rfl rfl ?_
    refine rm_bipush (v := nI (48)) dX8_lacks_48 (by decide) ?_
    refine rm_iload_n dX8_lacks_50 rfl rfl ?_
    refine rm_imul dX8_lacks_51 ?_
    refine rm_top (pk_mul (48) (l)) ?_
    refine rm_bipush (v := nI (8)) dX8_lacks_52 (by decide) ?_
    refine rm_iload_n dX8_lacks_54 rfl rfl ?_
    refine rm_imul dX8_lacks_55 ?_
    refine rm_top (pk_mul (8) (e)) ?_
    refine rm_iadd dX8_lacks_56 ?_
    refine rm_top (nI_add (48 * l) (8 * e)) ?_
    refine rm_iload dX8_lacks_57 rfl ?_
    refine rm_iadd dX8_lacks_59 ?_
    refine rm_top (nI_add (48 * l + (8 * e)) (m)) ?_
    refine rm_iald (f := 15) (j := 48 * l + (8 * e) + m) (x := (a 19 (48 * l + (8 * e) + m))) dX8_lacks_60 rfl (by decide) rfl rfl (rfl) (show 48 * l + (8 * e) + m < 9600 from by omega) (rfl) ?_
    refine rm_aload_n dX8_lacks_61 rfl rfl ?_
    refine rm_getr 17 (t := 21) dX8_lacks_62 flX8_49 (by decide) rfl rfl ?_
    refine rm_bipush (v := nI (48)) dX8_lacks_65 (by decide) ?_
    refine rm_iload_n dX8_lacks_67 rfl rfl ?_
    refine rm_imul dX8_lacks_68 ?_
    refine rm_top (pk_mul (48) (r)) ?_
    refine rm_bipush (v := nI (8)) dX8_lacks_69 (by decide) ?_
    refine rm_iload_n dX8_lacks_71 rfl rfl ?_
    refine rm_imul dX8_lacks_72 ?_
    refine rm_top (pk_mul (8) (e)) ?_
    refine rm_iadd dX8_lacks_73 ?_
    refine rm_top (nI_add (48 * r) (8 * e)) ?_
    refine rm_iload dX8_lacks_74 rfl ?_
    refine rm_iadd dX8_lacks_76 ?_
    refine rm_top (nI_add (48 * r + (8 * e)) (m)) ?_
    refine rm_iald (f := 17) (j := 48 * r + (8 * e) + m) (x := (a 21 (48 * r + (8 * e) + m))) dX8_lacks_77 rfl (by decide) rfl rfl (rfl) (show 48 * r + (8 * e) + m < 384 from by omega) (rfl) ?_
    refine rm_isub dX8_lacks_78 ?_
    refine rm_iret dX8_lacks_79 rfl rfl ?_
    exact ⟨by unfold rm_lk; rw [if_neg (fun q => h7 q.1)], rfl⟩
  · refine rm_iload dX8_lacks_10 rfl ?_
    refine rm_aload_n dX8_lacks_12 rfl rfl ?_
    refine rm_getr 8 (t := 12) dX8_lacks_13 flX8_22 (by decide) rfl rfl ?_
    refine rm_iload_n dX8_lacks_16 rfl rfl ?_
    refine rm_iald (f := 8) (j := l) (x := (a 12 (l))) dX8_lacks_17 rfl (by decide) rfl rfl (rfl) (show l < 200 from by omega) (rfl) ?_
    refine rm_icmp_ne (tgt := 25) dX8_lacks_18 (by decide) (fun h18 => ?_) (fun h18 => ?_)
    · refine rm_iconst (v := nI (0)) dX8_lacks_25 (by decide) ?_
      refine rm_istore (lv' := [.ref 3, .int (nI (r)), .int (nI (l)), .int (nI (e)), .int (nI (m)), .int (nI (0))]) dX8_lacks_26 (by decide) rfl ?_
      refine rm_iload dX8_lacks_28 rfl ?_
      refine rm_if_eq (tgt := 44) dX8_lacks_30 (by decide) (fun h30 => ?_) (fun h30 => (absurd h30 (by decide)))
      refine rm_aload_n dX8_lacks_44 rfl rfl ?_
      refine rm_getr 15 (t := 19) dX8_lacks_45 flX8_43 (by decide) rfl rfl ?_
      refine rm_bipush (v := nI (48)) dX8_lacks_48 (by decide) ?_
      refine rm_iload_n dX8_lacks_50 rfl rfl ?_
      refine rm_imul dX8_lacks_51 ?_
      refine rm_top (pk_mul (48) (l)) ?_
      refine rm_bipush (v := nI (8)) dX8_lacks_52 (by decide) ?_
      refine rm_iload_n dX8_lacks_54 rfl rfl ?_
      refine rm_imul dX8_lacks_55 ?_
      refine rm_top (pk_mul (8) (e)) ?_
      refine rm_iadd dX8_lacks_56 ?_
      refine rm_top (nI_add (48 * l) (8 * e)) ?_
      refine rm_iload dX8_lacks_57 rfl ?_
      refine rm_iadd dX8_lacks_59 ?_
      refine rm_top (nI_add (48 * l + (8 * e)) (m)) ?_
      refine rm_iald (f := 15) (j := 48 * l + (8 * e) + m) (x := (a 19 (48 * l + (8 * e) + m))) dX8_lacks_60 rfl (by decide) rfl rfl (rfl) (show 48 * l + (8 * e) + m < 9600 from by omega) (rfl) ?_
      refine rm_aload_n dX8_lacks_61 rfl rfl ?_
      refine rm_getr 17 (t := 21) dX8_lacks_62 flX8_49 (by decide) rfl rfl ?_
      refine rm_bipush (v := nI (48)) dX8_lacks_65 (by decide) ?_
      refine rm_iload_n dX8_lacks_67 rfl rfl ?_
      refine rm_imul dX8_lacks_68 ?_
      refine rm_top (pk_mul (48) (r)) ?_
      refine rm_bipush (v := nI (8)) dX8_lacks_69 (by decide) ?_
      refine rm_iload_n dX8_lacks_71 rfl rfl ?_
      refine rm_imul dX8_lacks_72 ?_
      refine rm_top (pk_mul (8) (e)) ?_
      refine rm_iadd dX8_lacks_73 ?_
      refine rm_top (nI_add (48 * r) (8 * e)) ?_
      refine rm_iload dX8_lacks_74 rfl ?_
      refine rm_iadd dX8_lacks_76 ?_
      refine rm_top (nI_add (48 * r + (8 * e)) (m)) ?_
      refine rm_iald (f := 17) (j := 48 * r + (8 * e) + m) (x := (a 21 (48 * r + (8 * e) + m))) dX8_lacks_77 rfl (by decide) rfl rfl (rfl) (show 48 * r + (8 * e) + m < 384 from by omega) (rfl) ?_
      refine rm_isub dX8_lacks_78 ?_
      refine rm_iret dX8_lacks_79 rfl rfl ?_
      exact ⟨by unfold rm_lk; rw [if_neg (fun q => h18 q.2)], rfl⟩
    · refine rm_iconst (v := nI (1)) dX8_lacks_21 (by decide) ?_
      refine rm_goto (tgt := 26) dX8_lacks_22 (by decide) ?_
      refine rm_istore (lv' := [.ref 3, .int (nI (r)), .int (nI (l)), .int (nI (e)), .int (nI (m)), .int (nI (1))]) dX8_lacks_26 (by decide) rfl ?_
      refine rm_iload dX8_lacks_28 rfl ?_
      refine rm_if_eq (tgt := 44) dX8_lacks_30 (by decide) (fun h30 => (absurd h30 (by decide))) (fun h30 => ?_)
      refine rm_aload_n dX8_lacks_33 rfl rfl ?_
      refine rm_getr 9 (t := 13) dX8_lacks_34 flX8_25 (by decide) rfl rfl ?_
      refine rm_iload_n dX8_lacks_37 rfl rfl ?_
      refine rm_iald (f := 9) (j := l) (x := (a 13 (l))) dX8_lacks_38 rfl (by decide) rfl rfl (rfl) (show l < 200 from by omega) (rfl) ?_
      refine rm_iconst (v := nI (1)) dX8_lacks_39 (by decide) ?_
      refine rm_isub dX8_lacks_40 ?_
      refine rm_goto (tgt := 61) dX8_lacks_41 (by decide) ?_
      refine rm_aload_n dX8_lacks_61 rfl rfl ?_
      refine rm_getr 17 (t := 21) dX8_lacks_62 flX8_49 (by decide) rfl rfl ?_
      refine rm_bipush (v := nI (48)) dX8_lacks_65 (by decide) ?_
      refine rm_iload_n dX8_lacks_67 rfl rfl ?_
      refine rm_imul dX8_lacks_68 ?_
      refine rm_top (pk_mul (48) (r)) ?_
      refine rm_bipush (v := nI (8)) dX8_lacks_69 (by decide) ?_
      refine rm_iload_n dX8_lacks_71 rfl rfl ?_
      refine rm_imul dX8_lacks_72 ?_
      refine rm_top (pk_mul (8) (e)) ?_
      refine rm_iadd dX8_lacks_73 ?_
      refine rm_top (nI_add (48 * r) (8 * e)) ?_
      refine rm_iload dX8_lacks_74 rfl ?_
      refine rm_iadd dX8_lacks_76 ?_
      refine rm_top (nI_add (48 * r + (8 * e)) (m)) ?_
      refine rm_iald (f := 17) (j := 48 * r + (8 * e) + m) (x := (a 21 (48 * r + (8 * e) + m))) dX8_lacks_77 rfl (by decide) rfl rfl (rfl) (show 48 * r + (8 * e) + m < 384 from by omega) (rfl) ?_
      refine rm_isub dX8_lacks_78 ?_
      refine rm_iret dX8_lacks_79 rfl rfl ?_
      exact ⟨by unfold rm_lk; rw [if_pos ⟨h7, h18⟩], rfl⟩
def rm_row (a : zv_I) (l d : Nat) : Bool := decide (((a 18 l) >>> ((nI d) &&& 31)) &&& (nI 1) = nI 1)
def rm_ask (a : zv_I) (r l k : Nat) : Bool := rm_row a l (k / 8) && (rm_in a r (k / 8) && rm_in a (k % 8) (k / 8))
def rm_lkp (a : zv_I) (r l k : Nat) : Bool := rm_ask a r l k && decide (0 < rm_lk a r l (k / 8) (k % 8))
def rm_lkg (a : zv_I) (nc r l : Nat) : Option Nat := rm_fst (rm_lkp a r l) (8 * nc) 0
theorem rm_lkp_f {a : zv_I} {r l k : Nat} (h : rm_row a l (k / 8) = false ∨ rm_in a r (k / 8) = false ∨ rm_in a (k % 8) (k / 8) = false ∨ ¬ 0 < rm_lk a r l (k / 8) (k % 8) ∨ rm_lk a r l (k / 8) (k % 8) ≤ 0) : rm_lkp a r l k = false := by
  unfold rm_lkp rm_ask
  rcases h with h | h | h | h | h
  · rw [h]; rfl
  · rw [h]; cases rm_row a l (k / 8) <;> rfl
  · rw [h]; cases rm_row a l (k / 8) <;> cases rm_in a r (k / 8) <;> rfl
  · rw [decide_eq_false h]; exact Bool.and_false _
  · rw [decide_eq_false (Int32.not_lt.mpr h)]; exact Bool.and_false _
theorem rm_lkp_t {a : zv_I} {r l k : Nat} (h1 : rm_row a l (k / 8) = true) (h2 : rm_in a r (k / 8) = true) (h3 : rm_in a (k % 8) (k / 8) = true) (h4 : ¬ rm_lk a r l (k / 8) (k % 8) ≤ 0) : rm_lkp a r l k = true := by
  unfold rm_lkp rm_ask
  rw [h1, h2, h3, decide_eq_true (Int32.not_le.mp h4)]
  rfl
theorem cM_lacking_l (d : Nat) {a : zv_I} {nc r l : Nat} (hc : a 3 1 = nI nc) (hb : nc ≤ 6) (hr : r < 8) (hl : l < 200) : ∀ n k, k + n = 8 * nc → ∀ rest, rm_V mX8_lacking (d + 2) 2 ([.ref 3, .int (nI r), .int (nI l), .int (nI k)] ++ rest) [] a (rm_p (rm_o (rm_fst (rm_lkp a r l) n k)) a) := by
  intro n
  induction n with
  | zero =>
    intro k hk rest
    refine rm_less ⟨rest, rfl⟩ ?_
    refine rm_iload_n dX8_lacking_2 rfl rfl ?_
    refine rm_bipush (v := nI (8)) dX8_lacking_3 (by decide) ?_
    refine rm_aload_n dX8_lacking_5 rfl rfl ?_
    refine rm_geti 1 (x := nI (nc)) dX8_lacking_6 flX8_86 rfl (hc) ?_
    refine rm_imul dX8_lacking_9 ?_
    refine rm_top (pk_mul (8) (nc)) ?_
    refine rm_icN_ge (tgt := 92) dX8_lacking_10 (by decide) (by omega) (by omega) (fun h10 => ?_) (fun h10 => (absurd h10 (by omega)))
    refine rm_iconst (v := (-1 : Int32)) dX8_lacking_92 (by decide) ?_
    refine rm_iret dX8_lacking_93 rfl rfl ?_
    exact ⟨rfl, rfl⟩
  | succ n ih =>
    intro k hk rest
    refine rm_less ⟨rest, rfl⟩ ?_
    refine rm_iload_n dX8_lacking_2 rfl rfl ?_
    refine rm_bipush (v := nI (8)) dX8_lacking_3 (by decide) ?_
    refine rm_aload_n dX8_lacking_5 rfl rfl ?_
    refine rm_geti 1 (x := nI (nc)) dX8_lacking_6 flX8_86 rfl (hc) ?_
    refine rm_imul dX8_lacking_9 ?_
    refine rm_top (pk_mul (8) (nc)) ?_
    refine rm_icN_ge (tgt := 92) dX8_lacking_10 (by decide) (by omega) (by omega) (fun h10 => (absurd h10 (by omega))) (fun h10 => ?_)
    refine rm_iload_n dX8_lacking_13 rfl rfl ?_
    refine rm_bipush (v := nI (8)) dX8_lacking_14 (by decide) ?_
    refine rm_idiv dX8_lacking_16 (by decide) ?_
    refine rm_top (pk_div (a := k) (d := 8) (by omega) (by decide) (by decide)) ?_
    refine rm_istore (lv' := [.ref 3, .int (nI (r)), .int (nI (l)), .int (nI (k)), .int (nI (k / 8))]) dX8_lacking_17 (by decide) rfl ?_
    refine rm_aload_n dX8_lacking_19 rfl rfl ?_
    refine rm_getr 14 (t := 18) dX8_lacking_20 flX8_40 (by decide) rfl rfl ?_
    refine rm_iload_n dX8_lacking_23 rfl rfl ?_
    refine rm_iald (f := 14) (j := l) (x := (a 18 (l))) dX8_lacking_24 rfl (by decide) rfl rfl (rfl) (show l < 200 from by omega) (rfl) ?_
    refine rm_iload dX8_lacking_25 rfl ?_
    refine rm_ishr dX8_lacking_27 ?_
    refine rm_iconst (v := nI (1)) dX8_lacking_28 (by decide) ?_
    refine rm_iand dX8_lacking_29 ?_
    refine rm_iconst (v := nI (1)) dX8_lacking_30 (by decide) ?_
    refine rm_icmp_ne (tgt := 61) dX8_lacking_31 (by decide) (fun h31 => ?_) (fun h31 => ?_)
    · refine rm_iconst (v := nI (0)) dX8_lacking_61 (by decide) ?_
      refine rm_istore (lv' := [.ref 3, .int (nI (r)), .int (nI (l)), .int (nI (k)), .int (nI (k / 8)), .int (nI (0))]) dX8_lacking_62 (by decide) rfl ?_
      refine rm_iload dX8_lacking_64 rfl ?_
      refine rm_if_eq (tgt := 86) dX8_lacking_66 (by decide) (fun h66 => ?_) (fun h66 => (absurd h66 (by decide)))
      refine rm_iinc (v := nI (k + 1)) (lv' := [.ref 3, .int (nI (r)), .int (nI (l)), .int (nI (k + 1)), .int (nI (k / 8)), .int (nI (0))]) dX8_lacking_86 rfl (by rw [← nI_1]; rfl) (by decide) rfl ?_
      refine rm_goto (tgt := 2) dX8_lacking_89 (by decide) ?_
      rw [rm_fst_f (p := rm_lkp a r l) (rm_lkp_f (by first | exact Or.inl (decide_eq_false h31) | exact Or.inr (Or.inl h41) | exact Or.inr (Or.inr (Or.inl h54)) | exact Or.inr (Or.inr (Or.inr (Or.inr h81)))))]
      exact ih (k + 1) (by omega) [.int (nI (k / 8)), .int (nI (0))]
    · refine rm_aload_n dX8_lacking_34 rfl rfl ?_
      refine rm_iload_n dX8_lacking_35 rfl rfl ?_
      refine rm_iload dX8_lacking_36 rfl ?_
      refine rm_callV (As := [.int (nI (r)), .int (nI (k / 8))]) (st := []) dX8_lacking_38 cvX8_92 rfl rfl (by decide) (zv_cat_i [nI (r), nI (k / 8)]) (Nat.le_of_ble_eq_true rfl) (cM_isIn (d + 1) a (m := r) (c := k / 8) (by omega)) (fun v b q => ?_)
      obtain ⟨rfl, rfl⟩ := q
      show rm_V _ _ 41 [.ref 3, .int (nI (r)), .int (nI (l)), .int (nI (k)), .int (nI (k / 8))] [.int (rm_b (rm_in a r (k / 8)))] _ _
      refine rm_ifB_eq (tgt := 61) dX8_lacking_41 (by decide) (fun h41 => ?_) (fun h41 => ?_)
      · refine rm_iconst (v := nI (0)) dX8_lacking_61 (by decide) ?_
        refine rm_istore (lv' := [.ref 3, .int (nI (r)), .int (nI (l)), .int (nI (k)), .int (nI (k / 8)), .int (nI (0))]) dX8_lacking_62 (by decide) rfl ?_
        refine rm_iload dX8_lacking_64 rfl ?_
        refine rm_if_eq (tgt := 86) dX8_lacking_66 (by decide) (fun h66 => ?_) (fun h66 => (absurd h66 (by decide)))
        refine rm_iinc (v := nI (k + 1)) (lv' := [.ref 3, .int (nI (r)), .int (nI (l)), .int (nI (k + 1)), .int (nI (k / 8)), .int (nI (0))]) dX8_lacking_86 rfl (by rw [← nI_1]; rfl) (by decide) rfl ?_
        refine rm_goto (tgt := 2) dX8_lacking_89 (by decide) ?_
        rw [rm_fst_f (p := rm_lkp a r l) (rm_lkp_f (by first | exact Or.inl (decide_eq_false h31) | exact Or.inr (Or.inl h41) | exact Or.inr (Or.inr (Or.inl h54)) | exact Or.inr (Or.inr (Or.inr (Or.inr h81)))))]
        exact ih (k + 1) (by omega) [.int (nI (k / 8)), .int (nI (0))]
      · refine rm_aload_n dX8_lacking_44 rfl rfl ?_
        refine rm_iload_n dX8_lacking_45 rfl rfl ?_
        refine rm_bipush (v := nI (8)) dX8_lacking_46 (by decide) ?_
        refine rm_irem dX8_lacking_48 (by decide) ?_
        refine rm_top (pk_rem (a := k) (d := 8) (by omega) (by decide) (by decide)) ?_
        refine rm_iload dX8_lacking_49 rfl ?_
        refine rm_callV (As := [.int (nI (k % 8)), .int (nI (k / 8))]) (st := []) dX8_lacking_51 cvX8_92 rfl rfl (by decide) (zv_cat_i [nI (k % 8), nI (k / 8)]) (Nat.le_of_ble_eq_true rfl) (cM_isIn (d + 1) a (m := k % 8) (c := k / 8) (by omega)) (fun v b q => ?_)
        obtain ⟨rfl, rfl⟩ := q
        show rm_V _ _ 54 [.ref 3, .int (nI (r)), .int (nI (l)), .int (nI (k)), .int (nI (k / 8))] [.int (rm_b (rm_in a (k % 8) (k / 8)))] _ _
        refine rm_ifB_eq (tgt := 61) dX8_lacking_54 (by decide) (fun h54 => ?_) (fun h54 => ?_)
        · refine rm_iconst (v := nI (0)) dX8_lacking_61 (by decide) ?_
          refine rm_istore (lv' := [.ref 3, .int (nI (r)), .int (nI (l)), .int (nI (k)), .int (nI (k / 8)), .int (nI (0))]) dX8_lacking_62 (by decide) rfl ?_
          refine rm_iload dX8_lacking_64 rfl ?_
          refine rm_if_eq (tgt := 86) dX8_lacking_66 (by decide) (fun h66 => ?_) (fun h66 => (absurd h66 (by decide)))
          refine rm_iinc (v := nI (k + 1)) (lv' := [.ref 3, .int (nI (r)), .int (nI (l)), .int (nI (k + 1)), .int (nI (k / 8)), .int (nI (0))]) dX8_lacking_86 rfl (by rw [← nI_1]; rfl) (by decide) rfl ?_
          refine rm_goto (tgt := 2) dX8_lacking_89 (by decide) ?_
          rw [rm_fst_f (p := rm_lkp a r l) (rm_lkp_f (by first | exact Or.inl (decide_eq_false h31) | exact Or.inr (Or.inl h41) | exact Or.inr (Or.inr (Or.inl h54)) | exact Or.inr (Or.inr (Or.inr (Or.inr h81)))))]
          exact ih (k + 1) (by omega) [.int (nI (k / 8)), .int (nI (0))]
        · refine rm_iconst (v := nI (1)) dX8_lacking_57 (by decide) ?_
          refine rm_goto (tgt := 62) dX8_lacking_58 (by decide) ?_
          refine rm_istore (lv' := [.ref 3, .int (nI (r)), .int (nI (l)), .int (nI (k)), .int (nI (k / 8)), .int (nI (1))]) dX8_lacking_62 (by decide) rfl ?_
          refine rm_iload dX8_lacking_64 rfl ?_
          refine rm_if_eq (tgt := 86) dX8_lacking_66 (by decide) (fun h66 => (absurd h66 (by decide))) (fun h66 => ?_)
          refine rm_aload_n dX8_lacking_69 rfl rfl ?_
          refine rm_iload_n dX8_lacking_70 rfl rfl ?_
          refine rm_iload_n dX8_lacking_71 rfl rfl ?_
          refine rm_iload dX8_lacking_72 rfl ?_
          refine rm_iload_n dX8_lacking_74 rfl rfl ?_
          refine rm_bipush (v := nI (8)) dX8_lacking_75 (by decide) ?_
          refine rm_irem dX8_lacking_77 (by decide) ?_
          refine rm_top (pk_rem (a := k) (d := 8) (by omega) (by decide) (by decide)) ?_
          refine rm_callV (As := [.int (nI (r)), .int (nI (l)), .int (nI (k / 8)), .int (nI (k % 8))]) (st := []) dX8_lacking_78 cvX8_145 rfl rfl (by decide) (zv_cat_i [nI (r), nI (l), nI (k / 8), nI (k % 8)]) (Nat.le_of_ble_eq_true rfl) (cM_lacks (d + 1) a (r := r) (l := l) (e := k / 8) (m := k % 8) hr hl (by omega) (by omega)) (fun v b q => ?_)
          obtain ⟨rfl, rfl⟩ := q
          show rm_V _ _ 81 [.ref 3, .int (nI (r)), .int (nI (l)), .int (nI (k)), .int (nI (k / 8)), .int (nI (1))] [.int (rm_lk a r l (k / 8) (k % 8))] _ _
          refine rm_if_le (tgt := 86) dX8_lacking_81 (by decide) (fun h81 => ?_) (fun h81 => ?_)
          · refine rm_iinc (v := nI (k + 1)) (lv' := [.ref 3, .int (nI (r)), .int (nI (l)), .int (nI (k + 1)), .int (nI (k / 8)), .int (nI (1))]) dX8_lacking_86 rfl (by rw [← nI_1]; rfl) (by decide) rfl ?_
            refine rm_goto (tgt := 2) dX8_lacking_89 (by decide) ?_
            rw [rm_fst_f (p := rm_lkp a r l) (rm_lkp_f (by first | exact Or.inl (decide_eq_false h31) | exact Or.inr (Or.inl h41) | exact Or.inr (Or.inr (Or.inl h54)) | exact Or.inr (Or.inr (Or.inr (Or.inr h81)))))]
            exact ih (k + 1) (by omega) [.int (nI (k / 8)), .int (nI (1))]
          · refine rm_iload_n dX8_lacking_84 rfl rfl ?_
            refine rm_iret dX8_lacking_85 rfl rfl ?_
            exact ⟨by rw [rm_fst_t (p := rm_lkp a r l) (rm_lkp_t (decide_eq_true h31) h41 h54 h81)]; rfl, rfl⟩
theorem cM_lacking (d : Nat) {a : zv_I} {nc r l : Nat} (hc : a 3 1 = nI nc) (hb : nc ≤ 6) (hr : r < 8) (hl : l < 200) : rm_V mX8_lacking (d + 2) 0 [.ref 3, .int (nI r), .int (nI l)] [] a (rm_p (rm_o (rm_lkg a nc r l)) a) := by
  refine rm_iconst (v := nI (0)) dX8_lacking_0 (by decide) ?_
  refine rm_istore_n (lv' := [.ref 3, .int (nI (r)), .int (nI (l)), .int (nI (0))]) dX8_lacking_1 rfl (by decide) rfl ?_
  exact cM_lacking_l d hc hb hr hl (8 * nc) 0 (by omega) []
