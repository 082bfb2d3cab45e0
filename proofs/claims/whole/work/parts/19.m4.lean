def rm_nv (x : Int32) : Nat := x.toNatClampNeg
def rm_ci (a : zv_I) (l : Nat) : Nat := rm_nv (a 11 l)
def rm_wr (a : zv_I) (l : Nat) : Nat := rm_nv (a 12 l)
def rm_or (a : zv_I) (l : Nat) : Nat := rm_nv (a 16 l)
def rm_el (a : zv_I) (c : Nat) : Nat := (rm_fst (fun m => rm_in a m c) 8 0).getD 8
def rm_es (a : zv_I) (c : Nat) : Prop := rm_fst (fun m => rm_in a m c) 8 0 = some (rm_el a c)
theorem rm_es_lt {a : zv_I} {c : Nat} (h : rm_es a c) : rm_el a c < 8 := by have := (rm_fst_some h).2.1; omega
/-- a letter's rows can be used: its circle, its order -/
def rm_lw (a : zv_I) (nc l : Nat) : Prop := a 11 l = nI (rm_ci a l) ∧ rm_ci a l < nc ∧ rm_es a (rm_ci a l) ∧ (¬ a 16 l = -1 → a 16 l = nI (rm_or a l) ∧ rm_or a l < 200)
def rm_hor (a : zv_I) (r l : Nat) : Bool := decide (a 12 l = nI (rm_el a (rm_ci a l)) ∧ ¬ a 15 l = -1) || decide (¬ a 16 l = -1 ∧ a 20 (200 * r + rm_or a l) = nI 3)
theorem cM_hasOrder (d : Nat) {a : zv_I} {nc r l : Nat} (hb : nc ≤ 6) (hr : r < 8) (h2 : l < 200) (hl : rm_lw a nc l) : rm_V mX8_hasOrder (d + 2) 0 [.ref 3, .int (nI r), .int (nI l)] [] a (rm_p (rm_b (rm_hor a r l)) a) := by
  refine rm_aload_n dX8_hasOrder_0 rfl rfl ?_
  refine rm_getr 8 (t := 12) dX8_hasOrder_1 flX8_22 (by decide) rfl rfl ?_
  refine rm_iload_n dX8_hasOrder_4 rfl rfl ?_
  refine rm_iald (f := 8) (j := l) (x := (a 12 (l))) dX8_hasOrder_5 rfl (by decide) rfl rfl (rfl) (show l < 200 from by omega) (rfl) ?_
  refine rm_aload_n dX8_hasOrder_6 rfl rfl ?_
  refine rm_aload_n dX8_hasOrder_7 rfl rfl ?_
  refine rm_getr 7 (t := 11) dX8_hasOrder_8 flX8_19 (by decide) rfl rfl ?_
  refine rm_iload_n dX8_hasOrder_11 rfl rfl ?_
  refine rm_iald (f := 7) (j := l) (x := nI (rm_ci a l)) dX8_hasOrder_12 rfl (by decide) rfl rfl (rfl) (show l < 200 from by omega) (hl.1) ?_
  refine rm_callV (As := [.int (nI (rm_ci a l))]) (st := [.int ((a 12 (l)))]) dX8_hasOrder_13 cvX8_148 rfl rfl (by decide) (zv_cat_i [nI (rm_ci a l)]) (Nat.le_of_ble_eq_true rfl) (cM_eldest d (a := a) (c := rm_ci a l) (e := rm_el a (rm_ci a l)) (by have := hl.2.1; omega) hl.2.2.1) (fun v b q => ?_)
  obtain ⟨rfl, rfl⟩ := q
  show rm_V _ _ 16 [.ref 3, .int (nI (r)), .int (nI (l))] [.int (nI (rm_el a (rm_ci a l))), .int ((a 12 (l)))] _ _
  refine rm_icmp_ne (tgt := 33) dX8_hasOrder_16 (by decide) (fun h16 => ?_) (fun h16 => ?_)
  · refine rm_iconst (v := nI (0)) dX8_hasOrder_33 (by decide) ?_
    refine rm_istore_n (lv' := [.ref 3, .int (nI (r)), .int (nI (l)), .int (nI (0))]) dX8_hasOrder_34 rfl (by decide) rfl ?_
    refine rm_iload_n dX8_hasOrder_35 rfl rfl ?_
    refine rm_if_ne (tgt := 70) dX8_hasOrder_36 (by decide) (fun h36 => (absurd h36 (by decide))) (fun h36 => ?_)
    refine rm_aload_n dX8_hasOrder_39 rfl rfl ?_
    refine rm_getr 12 (t := 16) dX8_hasOrder_40 flX8_34 (by decide) rfl rfl ?_
    refine rm_iload_n dX8_hasOrder_43 rfl rfl ?_
    refine rm_iald (f := 12) (j := l) (x := (a 16 (l))) dX8_hasOrder_44 rfl (by decide) rfl rfl (rfl) (show l < 200 from by omega) (rfl) ?_
    refine rm_iconst (v := (-1 : Int32)) dX8_hasOrder_45 (by decide) ?_
    refine rm_icmp_eq (tgt := 74) dX8_hasOrder_46 (by decide) (fun h46 => ?_) (fun h46 => ?_)
    · refine rm_iconst (v := nI (0)) dX8_hasOrder_74 (by decide) ?_
      refine rm_iret dX8_hasOrder_75 rfl rfl ?_
      exact ⟨by unfold rm_hor; rw [show decide (a 12 l = nI (rm_el a (rm_ci a l)) ∧ ¬ a 15 l = -1) = false from decide_eq_false (fun q => h16 q.1), show decide (¬ a 16 l = -1 ∧ a 20 (200 * r + rm_or a l) = nI 3) = false from decide_eq_false (fun q => q.1 h46)]; rfl, rfl⟩
    · refine rm_aload_n dX8_hasOrder_49 rfl rfl ?_
      refine rm_getr 16 (t := 20) dX8_hasOrder_50 flX8_46 (by decide) rfl rfl ?_
      refine rm_sipush (v := nI (200)) dX8_hasOrder_53 (by decide) ?_
      refine rm_iload_n dX8_hasOrder_56 rfl rfl ?_
      refine rm_imul dX8_hasOrder_57 ?_
      refine rm_top (pk_mul (200) (r)) ?_
      refine rm_aload_n dX8_hasOrder_58 rfl rfl ?_
      refine rm_getr 12 (t := 16) dX8_hasOrder_59 flX8_34 (by decide) rfl rfl ?_
      refine rm_iload_n dX8_hasOrder_62 rfl rfl ?_
      refine rm_iald (f := 12) (j := l) (x := nI (rm_or a l)) dX8_hasOrder_63 rfl (by decide) rfl rfl (rfl) (show l < 200 from by omega) ((hl.2.2.2 h46).1) ?_
      refine rm_iadd dX8_hasOrder_64 ?_
      refine rm_top (nI_add (200 * r) (rm_or a l)) ?_
      refine rm_iald (f := 16) (j := 200 * r + (rm_or a l)) (x := (a 20 (200 * r + (rm_or a l)))) dX8_hasOrder_65 rfl (by decide) rfl rfl (rfl) (show 200 * r + (rm_or a l) < 1600 from by have := (hl.2.2.2 h46).2; omega) (rfl) ?_
      refine rm_iconst (v := nI (3)) dX8_hasOrder_66 (by decide) ?_
      refine rm_icmp_ne (tgt := 74) dX8_hasOrder_67 (by decide) (fun h67 => ?_) (fun h67 => ?_)
      · refine rm_iconst (v := nI (0)) dX8_hasOrder_74 (by decide) ?_
        refine rm_iret dX8_hasOrder_75 rfl rfl ?_
        exact ⟨by unfold rm_hor; rw [show decide (a 12 l = nI (rm_el a (rm_ci a l)) ∧ ¬ a 15 l = -1) = false from decide_eq_false (fun q => h16 q.1), show decide (¬ a 16 l = -1 ∧ a 20 (200 * r + rm_or a l) = nI 3) = false from decide_eq_false (fun q => h67 q.2)]; rfl, rfl⟩
      · refine rm_iconst (v := nI (1)) dX8_hasOrder_70 (by decide) ?_
        refine rm_goto (tgt := 75) dX8_hasOrder_71 (by decide) ?_
        refine rm_iret dX8_hasOrder_75 rfl rfl ?_
        exact ⟨by unfold rm_hor; rw [show decide (a 12 l = nI (rm_el a (rm_ci a l)) ∧ ¬ a 15 l = -1) = false from decide_eq_false (fun q => h16 q.1), show decide (¬ a 16 l = -1 ∧ a 20 (200 * r + rm_or a l) = nI 3) = true from decide_eq_true ⟨h46, h67⟩]; rfl, rfl⟩
  · refine rm_aload_n dX8_hasOrder_19 rfl rfl ?_
    refine rm_getr 11 (t := 15) dX8_hasOrder_20 flX8_31 (by decide) rfl rfl ?_
    refine rm_iload_n dX8_hasOrder_23 rfl rfl ?_
    refine rm_iald (f := 11) (j := l) (x := (a 15 (l))) dX8_hasOrder_24 rfl (by decide) rfl rfl (rfl) (show l < 200 from by omega) (rfl) ?_
    refine rm_iconst (v := (-1 : Int32)) dX8_hasOrder_25 (by decide) ?_
    refine rm_icmp_eq (tgt := 33) dX8_hasOrder_26 (by decide) (fun h26 => ?_) (fun h26 => ?_)
    · refine rm_iconst (v := nI (0)) dX8_hasOrder_33 (by decide) ?_
      refine rm_istore_n (lv' := [.ref 3, .int (nI (r)), .int (nI (l)), .int (nI (0))]) dX8_hasOrder_34 rfl (by decide) rfl ?_
      refine rm_iload_n dX8_hasOrder_35 rfl rfl ?_
      refine rm_if_ne (tgt := 70) dX8_hasOrder_36 (by decide) (fun h36 => (absurd h36 (by decide))) (fun h36 => ?_)
      refine rm_aload_n dX8_hasOrder_39 rfl rfl ?_
      refine rm_getr 12 (t := 16) dX8_hasOrder_40 flX8_34 (by decide) rfl rfl ?_
      refine rm_iload_n dX8_hasOrder_43 rfl rfl ?_
      refine rm_iald (f := 12) (j := l) (x := (a 16 (l))) dX8_hasOrder_44 rfl (by decide) rfl rfl (rfl) (show l < 200 from by omega) (rfl) ?_
      refine rm_iconst (v := (-1 : Int32)) dX8_hasOrder_45 (by decide) ?_
      refine rm_icmp_eq (tgt := 74) dX8_hasOrder_46 (by decide) (fun h46 => ?_) (fun h46 => ?_)
      · refine rm_iconst (v := nI (0)) dX8_hasOrder_74 (by decide) ?_
        refine rm_iret dX8_hasOrder_75 rfl rfl ?_
        exact ⟨by unfold rm_hor; rw [show decide (a 12 l = nI (rm_el a (rm_ci a l)) ∧ ¬ a 15 l = -1) = false from decide_eq_false (fun q => q.2 h26), show decide (¬ a 16 l = -1 ∧ a 20 (200 * r + rm_or a l) = nI 3) = false from decide_eq_false (fun q => q.1 h46)]; rfl, rfl⟩
      · refine rm_aload_n dX8_hasOrder_49 rfl rfl ?_
        refine rm_getr 16 (t := 20) dX8_hasOrder_50 flX8_46 (by decide) rfl rfl ?_
        refine rm_sipush (v := nI (200)) dX8_hasOrder_53 (by decide) ?_
        refine rm_iload_n dX8_hasOrder_56 rfl rfl ?_
        refine rm_imul dX8_hasOrder_57 ?_
        refine rm_top (pk_mul (200) (r)) ?_
        refine rm_aload_n dX8_hasOrder_58 rfl rfl ?_
        refine rm_getr 12 (t := 16) dX8_hasOrder_59 flX8_34 (by decide) rfl rfl ?_
        refine rm_iload_n dX8_hasOrder_62 rfl rfl ?_
        refine rm_iald (f := 12) (j := l) (x := nI (rm_or a l)) dX8_hasOrder_63 rfl (by decide) rfl rfl (rfl) (show l < 200 from by omega) ((hl.2.2.2 h46).1) ?_
        refine rm_iadd dX8_hasOrder_64 ?_
        refine rm_top (nI_add (200 * r) (rm_or a l)) ?_
        refine rm_iald (f := 16) (j := 200 * r + (rm_or a l)) (x := (a 20 (200 * r + (rm_or a l)))) dX8_hasOrder_65 rfl (by decide) rfl rfl (rfl) (show 200 * r + (rm_or a l) < 1600 from by have := (hl.2.2.2 h46).2; omega) (rfl) ?_
        refine rm_iconst (v := nI (3)) dX8_hasOrder_66 (by decide) ?_
        refine rm_icmp_ne (tgt := 74) dX8_hasOrder_67 (by decide) (fun h67 => ?_) (fun h67 => ?_)
        · refine rm_iconst (v := nI (0)) dX8_hasOrder_74 (by decide) ?_
          refine rm_iret dX8_hasOrder_75 rfl rfl ?_
          exact ⟨by unfold rm_hor; rw [show decide (a 12 l = nI (rm_el a (rm_ci a l)) ∧ ¬ a 15 l = -1) = false from decide_eq_false (fun q => q.2 h26), show decide (¬ a 16 l = -1 ∧ a 20 (200 * r + rm_or a l) = nI 3) = false from decide_eq_false (fun q => h67 q.2)]; rfl, rfl⟩
        · refine rm_iconst (v := nI (1)) dX8_hasOrder_70 (by decide) ?_
          refine rm_goto (tgt := 75) dX8_hasOrder_71 (by decide) ?_
          refine rm_iret dX8_hasOrder_75 rfl rfl ?_
          exact ⟨by unfold rm_hor; rw [show decide (a 12 l = nI (rm_el a (rm_ci a l)) ∧ ¬ a 15 l = -1) = false from decide_eq_false (fun q => q.2 h26), show decide (¬ a 16 l = -1 ∧ a 20 (200 * r + rm_or a l) = nI 3) = true from decide_eq_true ⟨h46, h67⟩]; rfl, rfl⟩
    · refine rm_iconst (v := nI (1)) dX8_hasOrder_29 (by decide) ?_
      refine rm_goto (tgt := 34) dX8_hasOrder_30 (by decide) ?_
      refine rm_istore_n (lv' := [.ref 3, .int (nI (r)), .int (nI (l)), .int (nI (1))]) dX8_hasOrder_34 rfl (by decide) rfl ?_
      refine rm_iload_n dX8_hasOrder_35 rfl rfl ?_
      refine rm_if_ne (tgt := 70) dX8_hasOrder_36 (by decide) (fun h36 => ?_) (fun h36 => (absurd h36 (by decide)))
      refine rm_iconst (v := nI (1)) dX8_hasOrder_70 (by decide) ?_
      refine rm_goto (tgt := 75) dX8_hasOrder_71 (by decide) ?_
      refine rm_iret dX8_hasOrder_75 rfl rfl ?_
      exact ⟨by unfold rm_hor; rw [show decide (a 12 l = nI (rm_el a (rm_ci a l)) ∧ ¬ a 15 l = -1) = true from decide_eq_true ⟨h16, h26⟩]; rfl, rfl⟩
def rm_all (p : Nat → Bool) : Nat → Nat → Bool
  | 0, _ => true
  | n + 1, k => p k && rm_all p n (k + 1)
theorem rm_all_iff {p : Nat → Bool} : ∀ {n k : Nat}, rm_all p n k = true ↔ ∀ i, k ≤ i → i < k + n → p i = true
  | 0, k => ⟨fun _ i h1 h2 => by omega, fun _ => rfl⟩
  | n + 1, k => by
    unfold rm_all
    rw [Bool.and_eq_true, rm_all_iff]
    refine ⟨fun h i h1 h2 => ?_, fun h => ⟨h k (Nat.le_refl _) (by omega), fun i h1 h2 => h i (by omega) (by omega)⟩⟩
    by_cases e : i = k
    · rw [e]; exact h.1
    · exact h.2 i (by omega) (by omega)
def rm_low (a : zv_I) (l x : Nat) : Bool := decide (a 10 x = nI 2 ∧ a 11 x = a 11 l ∧ ¬ a 15 x = -1 ∧ a 15 x < a 15 l)
def rm_lok (a : zv_I) (r l x : Nat) : Bool := !rm_low a l x || decide (a 20 (200 * r + x) = nI 3)
def rm_hlo (a : zv_I) (nl r l : Nat) : Bool := rm_all (rm_lok a r l) nl 0
theorem rm_lowF {a : zv_I} {l x : Nat} (h : ¬ (a 10 x = nI 2 ∧ a 11 x = a 11 l ∧ ¬ a 15 x = -1 ∧ a 15 x < a 15 l)) {r : Nat} : rm_lok a r l x = true := by unfold rm_lok rm_low; rw [decide_eq_false h]; rfl
theorem rm_lowG {a : zv_I} {l x r : Nat} (h : a 20 (200 * r + x) = nI 3) : rm_lok a r l x = true := by unfold rm_lok; rw [decide_eq_true h]; exact Bool.or_true _
theorem rm_lowN {a : zv_I} {l x r : Nat} (g : a 10 x = nI 2 ∧ a 11 x = a 11 l ∧ ¬ a 15 x = -1 ∧ a 15 x < a 15 l) (h : ¬ a 20 (200 * r + x) = nI 3) : rm_lok a r l x = false := by unfold rm_lok rm_low; rw [decide_eq_true g, decide_eq_false h]; rfl
theorem cM_hasLower_l (d : Nat) {a : zv_I} {nl r l : Nat} (hn : a 3 4 = nI nl) (hb : nl ≤ 200) (hr : r < 8) (hl : l < 200) : ∀ n k, k + n = nl → ∀ (is : Bool) rest, rm_V mX8_hasLower d 5 ([.ref 3, .int (nI r), .int (nI l), .int (rm_b is), .int (nI k)] ++ rest) [] a (rm_p (rm_b (is && rm_all (rm_lok a r l) n k)) a) := by
  intro n
  induction n with
  | zero =>
    intro k hk is rest
    refine rm_less ⟨rest, rfl⟩ ?_
    refine rm_iload dX8_hasLower_5 rfl ?_
    refine rm_aload_n dX8_hasLower_7 rfl rfl ?_
    refine rm_geti 4 (x := nI (nl)) dX8_hasLower_8 flX8_89 rfl (hn) ?_
    refine rm_icN_ge (tgt := 113) dX8_hasLower_11 (by decide) (by omega) (by omega) (fun h11 => ?_) (fun h11 => (absurd h11 (by omega)))
    refine rm_iload_n dX8_hasLower_113 rfl rfl ?_
    refine rm_iret dX8_hasLower_114 rfl (rm_nb _) ?_
    exact ⟨by rw [show rm_all (rm_lok a r l) 0 k = true from rfl, Bool.and_true], rfl⟩
  | succ n ih =>
    intro k hk is rest
    refine rm_less ⟨rest, rfl⟩ ?_
    rw [show rm_all (rm_lok a r l) (n + 1) k = (rm_lok a r l k && rm_all (rm_lok a r l) n (k + 1)) from rfl]
    refine rm_iload dX8_hasLower_5 rfl ?_
    refine rm_aload_n dX8_hasLower_7 rfl rfl ?_
    refine rm_geti 4 (x := nI (nl)) dX8_hasLower_8 flX8_89 rfl (hn) ?_
    refine rm_icN_ge (tgt := 113) dX8_hasLower_11 (by decide) (by omega) (by omega) (fun h11 => (absurd h11 (by omega))) (fun h11 => ?_)
    refine rm_aload_n dX8_hasLower_14 rfl rfl ?_
    refine rm_getr 6 (t := 10) dX8_hasLower_15 flX8_16 (by decide) rfl rfl ?_
    refine rm_iload dX8_hasLower_18 rfl ?_
    refine rm_iald (f := 6) (j := k) (x := (a 10 (k))) dX8_hasLower_20 rfl (by decide) rfl rfl (rfl) (show k < 200 from by omega) (rfl) ?_
    refine rm_iconst (v := nI (2)) dX8_hasLower_21 (by decide) ?_
    refine rm_icmp_ne (tgt := 72) dX8_hasLower_22 (by decide) (fun h22 => ?_) (fun h22 => ?_)
    · refine rm_iconst (v := nI (0)) dX8_hasLower_72 (by decide) ?_
      refine rm_istore (lv' := [.ref 3, .int (nI (r)), .int (nI (l)), .int (rm_b (is)), .int (nI (k)), .int (nI (0))]) dX8_hasLower_73 (by decide) rfl ?_
      refine rm_iload_n dX8_hasLower_75 rfl rfl ?_
      refine rm_ifB_eq (tgt := 105) dX8_hasLower_76 (by decide) (fun h76 => ?_) (fun h76 => ?_)
      · refine rm_iconst (v := nI (0)) dX8_hasLower_105 (by decide) ?_
        refine rm_istore_n (lv' := [.ref 3, .int (nI (r)), .int (nI (l)), .int (nI (0)), .int (nI (k)), .int (nI (0))]) dX8_hasLower_106 rfl (by decide) rfl ?_
        refine rm_iinc (v := nI (k + 1)) (lv' := [.ref 3, .int (nI (r)), .int (nI (l)), .int (nI (0)), .int (nI (k + 1)), .int (nI (0))]) dX8_hasLower_107 rfl (by rw [← nI_1]; rfl) (by decide) rfl ?_
        refine rm_goto (tgt := 5) dX8_hasLower_110 (by decide) ?_
        subst h76
        exact ih (k + 1) (by omega) false [.int (nI (0))]
      · refine rm_iload dX8_hasLower_79 rfl ?_
        refine rm_if_eq (tgt := 101) dX8_hasLower_81 (by decide) (fun h81 => ?_) (fun h81 => (absurd h81 (by decide)))
        refine rm_iconst (v := nI (1)) dX8_hasLower_101 (by decide) ?_
        refine rm_goto (tgt := 106) dX8_hasLower_102 (by decide) ?_
        refine rm_istore_n (lv' := [.ref 3, .int (nI (r)), .int (nI (l)), .int (nI (1)), .int (nI (k)), .int (nI (0))]) dX8_hasLower_106 rfl (by decide) rfl ?_
        refine rm_iinc (v := nI (k + 1)) (lv' := [.ref 3, .int (nI (r)), .int (nI (l)), .int (nI (1)), .int (nI (k + 1)), .int (nI (0))]) dX8_hasLower_107 rfl (by rw [← nI_1]; rfl) (by decide) rfl ?_
        refine rm_goto (tgt := 5) dX8_hasLower_110 (by decide) ?_
        subst h76
        rw [rm_lowF (r := r) (fun q => h22 q.1)]
        exact ih (k + 1) (by omega) true [.int (nI (0))]
    · refine rm_aload_n dX8_hasLower_25 rfl rfl ?_
      refine rm_getr 7 (t := 11) dX8_hasLower_26 flX8_19 (by decide) rfl rfl ?_
      refine rm_iload dX8_hasLower_29 rfl ?_
      refine rm_iald (f := 7) (j := k) (x := (a 11 (k))) dX8_hasLower_31 rfl (by decide) rfl rfl (rfl) (show k < 200 from by omega) (rfl) ?_
      refine rm_aload_n dX8_hasLower_32 rfl rfl ?_
      refine rm_getr 7 (t := 11) dX8_hasLower_33 flX8_19 (by decide) rfl rfl ?_
      refine rm_iload_n dX8_hasLower_36 rfl rfl ?_
      refine rm_iald (f := 7) (j := l) (x := (a 11 (l))) dX8_hasLower_37 rfl (by decide) rfl rfl (rfl) (show l < 200 from by omega) (rfl) ?_
      refine rm_icmp_ne (tgt := 72) dX8_hasLower_38 (by decide) (fun h38 => ?_) (fun h38 => ?_)
      · refine rm_iconst (v := nI (0)) dX8_hasLower_72 (by decide) ?_
        refine rm_istore (lv' := [.ref 3, .int (nI (r)), .int (nI (l)), .int (rm_b (is)), .int (nI (k)), .int (nI (0))]) dX8_hasLower_73 (by decide) rfl ?_
        refine rm_iload_n dX8_hasLower_75 rfl rfl ?_
        refine rm_ifB_eq (tgt := 105) dX8_hasLower_76 (by decide) (fun h76 => ?_) (fun h76 => ?_)
        · refine rm_iconst (v := nI (0)) dX8_hasLower_105 (by decide) ?_
          refine rm_istore_n (lv' := [.ref 3, .int (nI (r)), .int (nI (l)), .int (nI (0)), .int (nI (k)), .int (nI (0))]) dX8_hasLower_106 rfl (by decide) rfl ?_
          refine rm_iinc (v := nI (k + 1)) (lv' := [.ref 3, .int (nI (r)), .int (nI (l)), .int (nI (0)), .int (nI (k + 1)), .int (nI (0))]) dX8_hasLower_107 rfl (by rw [← nI_1]; rfl) (by decide) rfl ?_
          refine rm_goto (tgt := 5) dX8_hasLower_110 (by decide) ?_
          subst h76
          exact ih (k + 1) (by omega) false [.int (nI (0))]
        · refine rm_iload dX8_hasLower_79 rfl ?_
          refine rm_if_eq (tgt := 101) dX8_hasLower_81 (by decide) (fun h81 => ?_) (fun h81 => (absurd h81 (by decide)))
          refine rm_iconst (v := nI (1)) dX8_hasLower_101 (by decide) ?_
          refine rm_goto (tgt := 106) dX8_hasLower_102 (by decide) ?_
          refine rm_istore_n (lv' := [.ref 3, .int (nI (r)), .int (nI (l)), .int (nI (1)), .int (nI (k)), .int (nI (0))]) dX8_hasLower_106 rfl (by decide) rfl ?_
          refine rm_iinc (v := nI (k + 1)) (lv' := [.ref 3, .int (nI (r)), .int (nI (l)), .int (nI (1)), .int (nI (k + 1)), .int (nI (0))]) dX8_hasLower_107 rfl (by rw [← nI_1]; rfl) (by decide) rfl ?_
          refine rm_goto (tgt := 5) dX8_hasLower_110 (by decide) ?_
          subst h76
          rw [rm_lowF (r := r) (fun q => h38 q.2.1)]
          exact ih (k + 1) (by omega) true [.int (nI (0))]
      · refine rm_aload_n dX8_hasLower_41 rfl rfl ?_
        refine rm_getr 11 (t := 15) dX8_hasLower_42 flX8_31 (by decide) rfl rfl ?_
        refine rm_iload dX8_hasLower_45 rfl ?_
        refine rm_iald (f := 11) (j := k) (x := (a 15 (k))) dX8_hasLower_47 rfl (by decide) rfl rfl (rfl) (show k < 200 from by omega) (rfl) ?_
        refine rm_iconst (v := (-1 : Int32)) dX8_hasLower_48 (by decide) ?_
        refine rm_icmp_eq (tgt := 72) dX8_hasLower_49 (by decide) (fun h49 => ?_) (fun h49 => ?_)
        · refine rm_iconst (v := nI (0)) dX8_hasLower_72 (by decide) ?_
          refine rm_istore (lv' := [.ref 3, .int (nI (r)), .int (nI (l)), .int (rm_b (is)), .int (nI (k)), .int (nI (0))]) dX8_hasLower_73 (by decide) rfl ?_
          refine rm_iload_n dX8_hasLower_75 rfl rfl ?_
          refine rm_ifB_eq (tgt := 105) dX8_hasLower_76 (by decide) (fun h76 => ?_) (fun h76 => ?_)
          · refine rm_iconst (v := nI (0)) dX8_hasLower_105 (by decide) ?_
            refine rm_istore_n (lv' := [.ref 3, .int (nI (r)), .int (nI (l)), .int (nI (0)), .int (nI (k)), .int (nI (0))]) dX8_hasLower_106 rfl (by decide) rfl ?_
            refine rm_iinc (v := nI (k + 1)) (lv' := [.ref 3, .int (nI (r)), .int (nI (l)), .int (nI (0)), .int (nI (k + 1)), .int (nI (0))]) dX8_hasLower_107 rfl (by rw [← nI_1]; rfl) (by decide) rfl ?_
            refine rm_goto (tgt := 5) dX8_hasLower_110 (by decide) ?_
            subst h76
            exact ih (k + 1) (by omega) false [.int (nI (0))]
          · refine rm_iload dX8_hasLower_79 rfl ?_
            refine rm_if_eq (tgt := 101) dX8_hasLower_81 (by decide) (fun h81 => ?_) (fun h81 => (absurd h81 (by decide)))
            refine rm_iconst (v := nI (1)) dX8_hasLower_101 (by decide) ?_
            refine rm_goto (tgt := 106) dX8_hasLower_102 (by decide) ?_
            refine rm_istore_n (lv' := [.ref 3, .int (nI (r)), .int (nI (l)), .int (nI (1)), .int (nI (k)), .int (nI (0))]) dX8_hasLower_106 rfl (by decide) rfl ?_
            refine rm_iinc (v := nI (k + 1)) (lv' := [.ref 3, .int (nI (r)), .int (nI (l)), .int (nI (1)), .int (nI (k + 1)), .int (nI (0))]) dX8_hasLower_107 rfl (by rw [← nI_1]; rfl) (by decide) rfl ?_
            refine rm_goto (tgt := 5) dX8_hasLower_110 (by decide) ?_
            subst h76
            rw [rm_lowF (r := r) (fun q => q.2.2.1 h49)]
            exact ih (k + 1) (by omega) true [.int (nI (0))]
        · refine rm_aload_n dX8_hasLower_52 rfl rfl ?_
          refine rm_getr 11 (t := 15) dX8_hasLower_53 flX8_31 (by decide) rfl rfl ?_
          refine rm_iload dX8_hasLower_56 rfl ?_
          refine rm_iald (f := 11) (j := k) (x := (a 15 (k))) dX8_hasLower_58 rfl (by decide) rfl rfl (rfl) (show k < 200 from by omega) (rfl) ?_
          refine rm_aload_n dX8_hasLower_59 rfl rfl ?_
          refine rm_getr 11 (t := 15) dX8_hasLower_60 flX8_31 (by decide) rfl rfl ?_
          refine rm_iload_n dX8_hasLower_63 rfl rfl ?_
          refine rm_iald (f := 11) (j := l) (x := (a 15 (l))) dX8_hasLower_64 rfl (by decide) rfl rfl (rfl) (show l < 200 from by omega) (rfl) ?_
          refine rm_icmp_ge (tgt := 72) dX8_hasLower_65 (by decide) (fun h65 => ?_) (fun h65 => ?_)
          · refine rm_iconst (v := nI (0)) dX8_hasLower_72 (by decide) ?_
            refine rm_istore (lv' := [.ref 3, .int (nI (r)), .int (nI (l)), .int (rm_b (is)), .int (nI (k)), .int (nI (0))]) dX8_hasLower_73 (by decide) rfl ?_
            refine rm_iload_n dX8_hasLower_75 rfl rfl ?_
            refine rm_ifB_eq (tgt := 105) dX8_hasLower_76 (by decide) (fun h76 => ?_) (fun h76 => ?_)
            · refine rm_iconst (v := nI (0)) dX8_hasLower_105 (by decide) ?_
              refine rm_istore_n (lv' := [.ref 3, .int (nI (r)), .int (nI (l)), .int (nI (0)), .int (nI (k)), .int (nI (0))]) dX8_hasLower_106 rfl (by decide) rfl ?_
              refine rm_iinc (v := nI (k + 1)) (lv' := [.ref 3, .int (nI (r)), .int (nI (l)), .int (nI (0)), .int (nI (k + 1)), .int (nI (0))]) dX8_hasLower_107 rfl (by rw [← nI_1]; rfl) (by decide) rfl ?_
              refine rm_goto (tgt := 5) dX8_hasLower_110 (by decide) ?_
              subst h76
              exact ih (k + 1) (by omega) false [.int (nI (0))]
            · refine rm_iload dX8_hasLower_79 rfl ?_
              refine rm_if_eq (tgt := 101) dX8_hasLower_81 (by decide) (fun h81 => ?_) (fun h81 => (absurd h81 (by decide)))
              refine rm_iconst (v := nI (1)) dX8_hasLower_101 (by decide) ?_
              refine rm_goto (tgt := 106) dX8_hasLower_102 (by decide) ?_
              refine rm_istore_n (lv' := [.ref 3, .int (nI (r)), .int (nI (l)), .int (nI (1)), .int (nI (k)), .int (nI (0))]) dX8_hasLower_106 rfl (by decide) rfl ?_
              refine rm_iinc (v := nI (k + 1)) (lv' := [.ref 3, .int (nI (r)), .int (nI (l)), .int (nI (1)), .int (nI (k + 1)), .int (nI (0))]) dX8_hasLower_107 rfl (by rw [← nI_1]; rfl) (by decide) rfl ?_
              refine rm_goto (tgt := 5) dX8_hasLower_110 (by decide) ?_
              subst h76
              rw [rm_lowF (r := r) (fun q => Int32.not_le.mpr q.2.2.2 h65)]
              exact ih (k + 1) (by omega) true [.int (nI (0))]
          · refine rm_iconst (v := nI (1)) dX8_hasLower_68 (by decide) ?_
            refine rm_goto (tgt := 73) dX8_hasLower_69 (by decide) ?_
            refine rm_istore (lv' := [.ref 3, .int (nI (r)), .int (nI (l)), .int (rm_b (is)), .int (nI (k)), .int (nI (1))]) dX8_hasLower_73 (by decide) rfl ?_
            refine rm_iload_n dX8_hasLower_75 rfl rfl ?_
            refine rm_ifB_eq (tgt := 105) dX8_hasLower_76 (by decide) (fun h76 => ?_) (fun h76 => ?_)
            · refine rm_iconst (v := nI (0)) dX8_hasLower_105 (by decide) ?_
              refine rm_istore_n (lv' := [.ref 3, .int (nI (r)), .int (nI (l)), .int (nI (0)), .int (nI (k)), .int (nI (1))]) dX8_hasLower_106 rfl (by decide) rfl ?_
              refine rm_iinc (v := nI (k + 1)) (lv' := [.ref 3, .int (nI (r)), .int (nI (l)), .int (nI (0)), .int (nI (k + 1)), .int (nI (1))]) dX8_hasLower_107 rfl (by rw [← nI_1]; rfl) (by decide) rfl ?_
              refine rm_goto (tgt := 5) dX8_hasLower_110 (by decide) ?_
              subst h76
              exact ih (k + 1) (by omega) false [.int (nI (1))]
            · refine rm_iload dX8_hasLower_79 rfl ?_
              refine rm_if_eq (tgt := 101) dX8_hasLower_81 (by decide) (fun h81 => (absurd h81 (by decide))) (fun h81 => ?_)
              refine rm_aload_n dX8_hasLower_84 rfl rfl ?_
              refine rm_getr 16 (t := 20) dX8_hasLower_85 flX8_46 (by decide) rfl rfl ?_
              refine rm_sipush (v := nI (200)) dX8_hasLower_88 (by decide) ?_
              refine rm_iload_n dX8_hasLower_91 rfl rfl ?_
              refine rm_imul dX8_hasLower_92 ?_
              refine rm_top (pk_mul (200) (r)) ?_
              refine rm_iload dX8_hasLower_93 rfl ?_
              refine rm_iadd dX8_hasLower_95 ?_
              refine rm_top (nI_add (200 * r) (k)) ?_
              refine rm_iald (f := 16) (j := 200 * r + k) (x := (a 20 (200 * r + k))) dX8_hasLower_96 rfl (by decide) rfl rfl (rfl) (show 200 * r + k < 1600 from by omega) (rfl) ?_
              refine rm_iconst (v := nI (3)) dX8_hasLower_97 (by decide) ?_
              refine rm_icmp_ne (tgt := 105) dX8_hasLower_98 (by decide) (fun h98 => ?_) (fun h98 => ?_)
              · refine rm_iconst (v := nI (0)) dX8_hasLower_105 (by decide) ?_
                refine rm_istore_n (lv' := [.ref 3, .int (nI (r)), .int (nI (l)), .int (nI (0)), .int (nI (k)), .int (nI (1))]) dX8_hasLower_106 rfl (by decide) rfl ?_
                refine rm_iinc (v := nI (k + 1)) (lv' := [.ref 3, .int (nI (r)), .int (nI (l)), .int (nI (0)), .int (nI (k + 1)), .int (nI (1))]) dX8_hasLower_107 rfl (by rw [← nI_1]; rfl) (by decide) rfl ?_
                refine rm_goto (tgt := 5) dX8_hasLower_110 (by decide) ?_
                subst h76
                rw [rm_lowN ⟨h22, h38, h49, Int32.not_le.mp h65⟩ h98]
                exact ih (k + 1) (by omega) false [.int (nI (1))]
              · refine rm_iconst (v := nI (1)) dX8_hasLower_101 (by decide) ?_
                refine rm_goto (tgt := 106) dX8_hasLower_102 (by decide) ?_
                refine rm_istore_n (lv' := [.ref 3, .int (nI (r)), .int (nI (l)), .int (nI (1)), .int (nI (k)), .int (nI (1))]) dX8_hasLower_106 rfl (by decide) rfl ?_
                refine rm_iinc (v := nI (k + 1)) (lv' := [.ref 3, .int (nI (r)), .int (nI (l)), .int (nI (1)), .int (nI (k + 1)), .int (nI (1))]) dX8_hasLower_107 rfl (by rw [← nI_1]; rfl) (by decide) rfl ?_
                refine rm_goto (tgt := 5) dX8_hasLower_110 (by decide) ?_
                subst h76
                rw [rm_lowG (l := l) h98]
                exact ih (k + 1) (by omega) true [.int (nI (1))]
theorem cM_hasLower (d : Nat) {a : zv_I} {nl r l : Nat} (hn : a 3 4 = nI nl) (hb : nl ≤ 200) (hr : r < 8) (hl : l < 200) : rm_V mX8_hasLower d 0 [.ref 3, .int (nI r), .int (nI l)] [] a (rm_p (rm_b (rm_hlo a nl r l)) a) := by
  refine rm_iconst (v := nI (1)) dX8_hasLower_0 (by decide) ?_
  refine rm_istore_n (lv' := [.ref 3, .int (nI (r)), .int (nI (l)), .int (nI (1))]) dX8_hasLower_1 rfl (by decide) rfl ?_
  refine rm_iconst (v := nI (0)) dX8_hasLower_2 (by decide) ?_
  refine rm_istore (lv' := [.ref 3, .int (nI (r)), .int (nI (l)), .int (nI (1)), .int (nI (0))]) dX8_hasLower_3 (by decide) rfl ?_
  exact cM_hasLower_l d hn hb hr hl nl 0 (by omega) true []
def rm_can (a : zv_I) (nc nl r l : Nat) : Bool := (rm_lkg a nc r l).isNone && (decide (¬ a 10 l = nI 2 ∨ r = rm_el a (rm_ci a l)) || (rm_hor a r l && rm_hlo a nl r l))
theorem rm_lkg_lt {a : zv_I} {nc r l : Nat} (hb : nc ≤ 6) : ∀ j, rm_lkg a nc r l = some j → j < 2 ^ 31 := fun j h => by have := (rm_fst_some h).2.1; omega
theorem cM_canGive (d : Nat) {a : zv_I} {nc nl r l : Nat} (hc : a 3 1 = nI nc) (hb : nc ≤ 6) (hn : a 3 4 = nI nl) (hnb : nl ≤ 200) (hr : r < 8) (h2 : l < 200) (hl : rm_lw a nc l) : rm_V mX8_canGive (d + 4) 0 [.ref 3, .int (nI r), .int (nI l)] [] a (rm_p (rm_b (rm_can a nc nl r l)) a) := by
  refine rm_aload_n dX8_canGive_0 rfl rfl ?_
  refine rm_iload_n dX8_canGive_1 rfl rfl ?_
  refine rm_iload_n dX8_canGive_2 rfl rfl ?_
  refine rm_callV (As := [.int (nI (r)), .int (nI (l))]) (st := []) dX8_canGive_3 cvX8_151 rfl rfl (by decide) (zv_cat_i [nI (r), nI (l)]) (Nat.le_of_ble_eq_true rfl) (cM_lacking (d + 1) hc hb hr h2) (fun v b q => ?_)
  obtain ⟨rfl, rfl⟩ := q
  show rm_V _ _ 6 [.ref 3, .int (nI (r)), .int (nI (l))] [.int (rm_o (rm_lkg a nc r l))] _ _
  refine rm_iconst (v := (-1 : Int32)) dX8_canGive_6 (by decide) ?_
  refine rm_icmp_eq (tgt := 12) dX8_canGive_7 (by decide) (fun h7 => ?_) (fun h7 => ?_)
  · refine rm_aload_n dX8_canGive_12 rfl rfl ?_
    refine rm_getr 6 (t := 10) dX8_canGive_13 flX8_16 (by decide) rfl rfl ?_
    refine rm_iload_n dX8_canGive_16 rfl rfl ?_
    refine rm_iald (f := 6) (j := l) (x := (a 10 (l))) dX8_canGive_17 rfl (by decide) rfl rfl (rfl) (show l < 200 from by omega) (rfl) ?_
    refine rm_iconst (v := nI (2)) dX8_canGive_18 (by decide) ?_
    refine rm_icmp_ne (tgt := 54) dX8_canGive_19 (by decide) (fun h19 => ?_) (fun h19 => ?_)
    · refine rm_iconst (v := nI (1)) dX8_canGive_54 (by decide) ?_
      refine rm_goto (tgt := 59) dX8_canGive_55 (by decide) ?_
      refine rm_iret dX8_canGive_59 rfl rfl ?_
      exact ⟨by unfold rm_can; rw [show (rm_lkg a nc r l).isNone = true from by rw [(rm_o_neg _ (rm_lkg_lt hb)).mp h7]; rfl, show decide (¬ a 10 l = nI 2 ∨ r = rm_el a (rm_ci a l)) = true from decide_eq_true (Or.inl h19)]; rfl, rfl⟩
    · refine rm_iload_n dX8_canGive_22 rfl rfl ?_
      refine rm_aload_n dX8_canGive_23 rfl rfl ?_
      refine rm_aload_n dX8_canGive_24 rfl rfl ?_
      refine rm_getr 7 (t := 11) dX8_canGive_25 flX8_19 (by decide) rfl rfl ?_
      refine rm_iload_n dX8_canGive_28 rfl rfl ?_
      refine rm_iald (f := 7) (j := l) (x := nI (rm_ci a l)) dX8_canGive_29 rfl (by decide) rfl rfl (rfl) (show l < 200 from by omega) (hl.1) ?_
      refine rm_callV (As := [.int (nI (rm_ci a l))]) (st := [.int (nI (r))]) dX8_canGive_30 cvX8_148 rfl rfl (by decide) (zv_cat_i [nI (rm_ci a l)]) (Nat.le_of_ble_eq_true rfl) (cM_eldest (d + 2) (a := a) (c := rm_ci a l) (e := rm_el a (rm_ci a l)) (by have := hl.2.1; omega) hl.2.2.1) (fun v b q => ?_)
      obtain ⟨rfl, rfl⟩ := q
      show rm_V _ _ 33 [.ref 3, .int (nI (r)), .int (nI (l))] [.int (nI (rm_el a (rm_ci a l))), .int (nI (r))] _ _
      refine rm_icN_eq (tgt := 54) dX8_canGive_33 (by decide) (by omega) (by have := rm_es_lt hl.2.2.1; omega) (fun h33 => ?_) (fun h33 => ?_)
      · refine rm_iconst (v := nI (1)) dX8_canGive_54 (by decide) ?_
        refine rm_goto (tgt := 59) dX8_canGive_55 (by decide) ?_
        refine rm_iret dX8_canGive_59 rfl rfl ?_
        exact ⟨by unfold rm_can; rw [show (rm_lkg a nc r l).isNone = true from by rw [(rm_o_neg _ (rm_lkg_lt hb)).mp h7]; rfl, show decide (¬ a 10 l = nI 2 ∨ r = rm_el a (rm_ci a l)) = true from decide_eq_true (Or.inr h33)]; rfl, rfl⟩
      · refine rm_aload_n dX8_canGive_36 rfl rfl ?_
        refine rm_iload_n dX8_canGive_37 rfl rfl ?_
        refine rm_iload_n dX8_canGive_38 rfl rfl ?_
        refine rm_callV (As := [.int (nI (r)), .int (nI (l))]) (st := []) dX8_canGive_39 cvX8_155 rfl rfl (by decide) (zv_cat_i [nI (r), nI (l)]) (Nat.le_of_ble_eq_true rfl) (cM_hasOrder (d + 1) hb hr h2 hl) (fun v b q => ?_)
        obtain ⟨rfl, rfl⟩ := q
        show rm_V _ _ 42 [.ref 3, .int (nI (r)), .int (nI (l))] [.int (rm_b (rm_hor a r l))] _ _
        refine rm_ifB_eq (tgt := 58) dX8_canGive_42 (by decide) (fun h42 => ?_) (fun h42 => ?_)
        · refine rm_iconst (v := nI (0)) dX8_canGive_58 (by decide) ?_
          refine rm_iret dX8_canGive_59 rfl rfl ?_
          exact ⟨by unfold rm_can; rw [show (rm_lkg a nc r l).isNone = true from by rw [(rm_o_neg _ (rm_lkg_lt hb)).mp h7]; rfl, show decide (¬ a 10 l = nI 2 ∨ r = rm_el a (rm_ci a l)) = false from decide_eq_false (fun q => q.elim (fun z => z h19) h33), h42]; rfl, rfl⟩
        · refine rm_aload_n dX8_canGive_45 rfl rfl ?_
          refine rm_iload_n dX8_canGive_46 rfl rfl ?_
          refine rm_iload_n dX8_canGive_47 rfl rfl ?_
          refine rm_callV (As := [.int (nI (r)), .int (nI (l))]) (st := []) dX8_canGive_48 cvX8_158 rfl rfl (by decide) (zv_cat_i [nI (r), nI (l)]) (Nat.le_of_ble_eq_true rfl) (cM_hasLower (d + 3) hn hnb hr h2) (fun v b q => ?_)
          obtain ⟨rfl, rfl⟩ := q
          show rm_V _ _ 51 [.ref 3, .int (nI (r)), .int (nI (l))] [.int (rm_b (rm_hlo a nl r l))] _ _
          refine rm_ifB_eq (tgt := 58) dX8_canGive_51 (by decide) (fun h51 => ?_) (fun h51 => ?_)
          · refine rm_iconst (v := nI (0)) dX8_canGive_58 (by decide) ?_
            refine rm_iret dX8_canGive_59 rfl rfl ?_
            exact ⟨by unfold rm_can; rw [show (rm_lkg a nc r l).isNone = true from by rw [(rm_o_neg _ (rm_lkg_lt hb)).mp h7]; rfl, show decide (¬ a 10 l = nI 2 ∨ r = rm_el a (rm_ci a l)) = false from decide_eq_false (fun q => q.elim (fun z => z h19) h33), h42, h51]; rfl, rfl⟩
          · refine rm_iconst (v := nI (1)) dX8_canGive_54 (by decide) ?_
            refine rm_goto (tgt := 59) dX8_canGive_55 (by decide) ?_
            refine rm_iret dX8_canGive_59 rfl rfl ?_
            exact ⟨by unfold rm_can; rw [show (rm_lkg a nc r l).isNone = true from by rw [(rm_o_neg _ (rm_lkg_lt hb)).mp h7]; rfl, show decide (¬ a 10 l = nI 2 ∨ r = rm_el a (rm_ci a l)) = false from decide_eq_false (fun q => q.elim (fun z => z h19) h33), h42, h51]; rfl, rfl⟩
  · refine rm_iconst (v := nI (0)) dX8_canGive_10 (by decide) ?_
    refine rm_iret dX8_canGive_11 rfl rfl ?_
    exact ⟨by unfold rm_can; rw [show (rm_lkg a nc r l).isNone = false from by cases hx : rm_lkg a nc r l with | none => exact absurd (by rw [hx]; rfl) h7 | some j => rfl]; rfl, rfl⟩
def rm_nxp (a : zv_I) (nc nl r l : Nat) : Bool := decide (a 20 (200 * r + l) = nI 2) && rm_can a nc nl r l
def rm_nxt (a : zv_I) (nc nl r : Nat) : Option Nat := rm_fst (rm_nxp a nc nl r) nl 0
theorem rm_nxp_t {a : zv_I} {nc nl r l : Nat} (h : a 20 (200 * r + l) = nI 2) (g : rm_can a nc nl r l = true) : rm_nxp a nc nl r l = true := by unfold rm_nxp; rw [decide_eq_true h, g]; rfl
theorem rm_nxp_f1 {a : zv_I} {nc nl r l : Nat} (h : ¬ a 20 (200 * r + l) = nI 2) : rm_nxp a nc nl r l = false := by unfold rm_nxp; rw [decide_eq_false h]; rfl
theorem rm_nxp_f2 {a : zv_I} {nc nl r l : Nat} (g : rm_can a nc nl r l = false) : rm_nxp a nc nl r l = false := by unfold rm_nxp; rw [g]; exact Bool.and_false _
theorem cM_next_l (d : Nat) {a : zv_I} {nc nl r : Nat} (hc : a 3 1 = nI nc) (hb : nc ≤ 6) (hn : a 3 4 = nI nl) (hnb : nl ≤ 200) (hr : r < 8) (hl : ∀ l, l < nl → rm_lw a nc l) : ∀ n k, k + n = nl → rm_V mX8_next (d + 5) 2 [.ref 3, .int (nI r), .int (nI k)] [] a (rm_p (rm_o (rm_fst (rm_nxp a nc nl r) n k)) a) := by
  intro n
  induction n with
  | zero =>
    intro k hk
    refine rm_iload_n dX8_next_2 rfl rfl ?_
    refine rm_aload_n dX8_next_3 rfl rfl ?_
    refine rm_geti 4 (x := nI (nl)) dX8_next_4 flX8_89 rfl (hn) ?_
    refine rm_icN_ge (tgt := 43) dX8_next_7 (by decide) (by omega) (by omega) (fun h7 => ?_) (fun h7 => (absurd h7 (by omega)))
    refine rm_iconst (v := (-1 : Int32)) dX8_next_43 (by decide) ?_
    refine rm_iret dX8_next_44 rfl rfl ?_
    exact ⟨rfl, rfl⟩
  | succ n ih =>
    intro k hk
    refine rm_iload_n dX8_next_2 rfl rfl ?_
    refine rm_aload_n dX8_next_3 rfl rfl ?_
    refine rm_geti 4 (x := nI (nl)) dX8_next_4 flX8_89 rfl (hn) ?_
    refine rm_icN_ge (tgt := 43) dX8_next_7 (by decide) (by omega) (by omega) (fun h7 => (absurd h7 (by omega))) (fun h7 => ?_)
    refine rm_aload_n dX8_next_10 rfl rfl ?_
    refine rm_getr 16 (t := 20) dX8_next_11 flX8_46 (by decide) rfl rfl ?_
    refine rm_sipush (v := nI (200)) dX8_next_14 (by decide) ?_
    refine rm_iload_n dX8_next_17 rfl rfl ?_
    refine rm_imul dX8_next_18 ?_
    refine rm_top (pk_mul (200) (r)) ?_
    refine rm_iload_n dX8_next_19 rfl rfl ?_
    refine rm_iadd dX8_next_20 ?_
    refine rm_top (nI_add (200 * r) (k)) ?_
    refine rm_iald (f := 16) (j := 200 * r + k) (x := (a 20 (200 * r + k))) dX8_next_21 rfl (by decide) rfl rfl (rfl) (show 200 * r + k < 1600 from by omega) (rfl) ?_
    refine rm_iconst (v := nI (2)) dX8_next_22 (by decide) ?_
    refine rm_icmp_ne (tgt := 37) dX8_next_23 (by decide) (fun h23 => ?_) (fun h23 => ?_)
    · refine rm_iinc (v := nI (k + 1)) (lv' := [.ref 3, .int (nI (r)), .int (nI (k + 1))]) dX8_next_37 rfl (by rw [← nI_1]; rfl) (by decide) rfl ?_
      refine rm_goto (tgt := 2) dX8_next_40 (by decide) ?_
      rw [rm_fst_f (p := rm_nxp a nc nl r) (rm_nxp_f1 h23)]
      exact ih (k + 1) (by omega)
    · refine rm_aload_n dX8_next_26 rfl rfl ?_
      refine rm_iload_n dX8_next_27 rfl rfl ?_
      refine rm_iload_n dX8_next_28 rfl rfl ?_
      refine rm_callV (As := [.int (nI (r)), .int (nI (k))]) (st := []) dX8_next_29 cvX8_161 rfl rfl (by decide) (zv_cat_i [nI (r), nI (k)]) (Nat.le_of_ble_eq_true rfl) (cM_canGive d hc hb hn hnb hr (l := k) (by omega) (hl k (by omega))) (fun v b q => ?_)
      obtain ⟨rfl, rfl⟩ := q
      show rm_V _ _ 32 [.ref 3, .int (nI (r)), .int (nI (k))] [.int (rm_b (rm_can a nc nl r k))] _ _
      refine rm_ifB_eq (tgt := 37) dX8_next_32 (by decide) (fun h32 => ?_) (fun h32 => ?_)
      · refine rm_iinc (v := nI (k + 1)) (lv' := [.ref 3, .int (nI (r)), .int (nI (k + 1))]) dX8_next_37 rfl (by rw [← nI_1]; rfl) (by decide) rfl ?_
        refine rm_goto (tgt := 2) dX8_next_40 (by decide) ?_
        rw [rm_fst_f (p := rm_nxp a nc nl r) (rm_nxp_f2 h32)]
        exact ih (k + 1) (by omega)
      · refine rm_iload_n dX8_next_35 rfl rfl ?_
        refine rm_iret dX8_next_36 rfl rfl ?_
        exact ⟨by rw [rm_fst_t (p := rm_nxp a nc nl r) (rm_nxp_t h23 h32)]; rfl, rfl⟩
theorem cM_next (d : Nat) {a : zv_I} {nc nl r : Nat} (hc : a 3 1 = nI nc) (hb : nc ≤ 6) (hn : a 3 4 = nI nl) (hnb : nl ≤ 200) (hr : r < 8) (hl : ∀ l, l < nl → rm_lw a nc l) : rm_V mX8_next (d + 5) 0 [.ref 3, .int (nI r)] [] a (rm_p (rm_o (rm_nxt a nc nl r)) a) := by
  refine rm_iconst (v := nI (0)) dX8_next_0 (by decide) ?_
  refine rm_istore_n (lv' := [.ref 3, .int (nI (r)), .int (nI (0))]) dX8_next_1 rfl (by decide) rfl ?_
  exact cM_next_l d hc hb hn hnb hr hl nl 0 (by omega)
