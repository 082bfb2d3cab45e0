def rm_sm (x : Int32) : Nat → Int32
  | 0 => nI 0
  | n + 1 => rm_sm x n + ((x >>> ((nI n) &&& 31)) &&& (nI 1))
def rm_cib (x : Int32) (nm : Nat) : Bool := decide (rm_sm x nm < nI 2 ∨ x < 0 ∨ ¬ x >>> ((nI nm) &&& 31) = 0)
def q_cirR (nm nc : Nat) (x : Int32) : Int32 := if rm_cib x nm = true then -1 else if nc = 6 then -1 else nI nc
def q_cirA (a : zv_I) (nm nc : Nat) (x : Int32) : zv_I := if rm_cib x nm = true then zv_u a 3 24 (nI 1) else if nc = 6 then zv_u a 3 24 (nI 2) else zv_u (zv_u (zv_u a 6 nc x) 3 1 (nI (nc + 1))) 3 24 (nI 0)
theorem cM_circle_l (d : Nat) {a : zv_I} {nm : Nat} (hm : a 3 0 = nI nm) (hmb : nm ≤ 8) {x : Int32} {Q : Option Value → zv_I → Prop} (hk : ∀ rest, rm_V mX8_circle d 26 ([.ref 3, .int x, .int (rm_sm x nm)] ++ rest) [] a Q) : ∀ n k, k + n = nm → rm_V mX8_circle d 4 [.ref 3, .int x, .int (rm_sm x k), .int (nI k)] [] a Q := by
  intro n
  induction n with
  | zero =>
    intro k hk2
    have hk3 : k = nm := by omega
    subst hk3
    refine rm_iload_n dX8_circle_4 rfl rfl ?_
    refine rm_aload_n dX8_circle_5 rfl rfl ?_
    refine rm_geti 0 (x := nI (k)) dX8_circle_6 flX8_78 rfl (hm) ?_
    refine rm_icN_ge (tgt := 26) dX8_circle_9 (by decide) (by omega) (by omega) (fun h9 => ?_) (fun h9 => (absurd h9 (by omega)))
    exact hk [.int (nI k)]
  | succ n ih =>
    intro k hk2
    refine rm_iload_n dX8_circle_4 rfl rfl ?_
    refine rm_aload_n dX8_circle_5 rfl rfl ?_
    refine rm_geti 0 (x := nI (nm)) dX8_circle_6 flX8_78 rfl (hm) ?_
    refine rm_icN_ge (tgt := 26) dX8_circle_9 (by decide) (by omega) (by omega) (fun h9 => (absurd h9 (by omega))) (fun h9 => ?_)
    refine rm_iload_n dX8_circle_12 rfl rfl ?_
    refine rm_iload_n dX8_circle_13 rfl rfl ?_
    refine rm_iload_n dX8_circle_14 rfl rfl ?_
    refine rm_ishr dX8_circle_15 ?_
    refine rm_iconst (v := nI (1)) dX8_circle_16 (by decide) ?_
    refine rm_iand dX8_circle_17 ?_
    refine rm_iadd dX8_circle_18 ?_
    refine rm_istore_n (lv' := [.ref 3, .int (x), .int ((((rm_sm x k)) + (((((x) >>> ((nI (k)) &&& 31))) &&& (nI (1)))))), .int (nI (k))]) dX8_circle_19 rfl (by decide) rfl ?_
    refine rm_iinc (v := nI (k + 1)) (lv' := [.ref 3, .int (x), .int ((((rm_sm x k)) + (((((x) >>> ((nI (k)) &&& 31))) &&& (nI (1)))))), .int (nI (k + 1))]) dX8_circle_20 rfl (by rw [← nI_1]; rfl) (by decide) rfl ?_
    refine rm_goto (tgt := 4) dX8_circle_23 (by decide) ?_
    exact ih (k + 1) (by omega)
theorem cM_circle (d : Nat) {a : zv_I} {nm nc : Nat} (hm : a 3 0 = nI nm) (hmb : nm ≤ 8) (hc : a 3 1 = nI nc) (hcb : nc ≤ 6) (x : Int32) : rm_V mX8_circle (d + 1) 0 [.ref 3, .int x] [] a (rm_p (q_cirR nm nc x) (q_cirA a nm nc x)) := by
  refine rm_iconst (v := nI (0)) dX8_circle_0 (by decide) ?_
  refine rm_istore_n (lv' := [.ref 3, .int (x), .int (nI (0))]) dX8_circle_1 rfl (by decide) rfl ?_
  refine rm_iconst (v := nI (0)) dX8_circle_2 (by decide) ?_
  refine rm_istore_n (lv' := [.ref 3, .int (x), .int (nI (0)), .int (nI (0))]) dX8_circle_3 rfl (by decide) rfl ?_
  refine cM_circle_l (d + 1) hm hmb (fun rest => ?_) nm 0 (by omega)
  refine rm_less ⟨rest, rfl⟩ ?_
  refine rm_iload_n dX8_circle_26 rfl rfl ?_
  refine rm_iconst (v := nI (2)) dX8_circle_27 (by decide) ?_
  refine rm_icmp_lt (tgt := 44) dX8_circle_28 (by decide) (fun h28 => ?_) (fun h28 => ?_)
  · refine rm_aload_n dX8_circle_44 rfl rfl ?_
    refine rm_iconst (v := nI (1)) dX8_circle_45 (by decide) ?_
    refine rm_callV (As := [.int (nI (1))]) (st := []) dX8_circle_46 cvX8_103 rfl rfl (by decide) (zv_cat_i [nI (1)]) (Nat.le_of_ble_eq_true rfl) (cM_refused (d) (a) (nI (1))) (fun v b q => ?_)
    obtain ⟨rfl, rfl⟩ := q
    show rm_V _ _ 49 [.ref 3, .int (x), .int ((rm_sm x nm))] [.int ((-1 : Int32))] _ _
    refine rm_iret dX8_circle_49 rfl rfl ?_
    exact ⟨by unfold q_cirR; rw [if_pos (show rm_cib x nm = true from decide_eq_true (Or.inl h28))], by unfold q_cirA; rw [if_pos (show rm_cib x nm = true from decide_eq_true (Or.inl h28))]⟩
  · refine rm_iload_n dX8_circle_31 rfl rfl ?_
    refine rm_if_lt (tgt := 44) dX8_circle_32 (by decide) (fun h32 => ?_) (fun h32 => ?_)
    · refine rm_aload_n dX8_circle_44 rfl rfl ?_
      refine rm_iconst (v := nI (1)) dX8_circle_45 (by decide) ?_
      refine rm_callV (As := [.int (nI (1))]) (st := []) dX8_circle_46 cvX8_103 rfl rfl (by decide) (zv_cat_i [nI (1)]) (Nat.le_of_ble_eq_true rfl) (cM_refused (d) (a) (nI (1))) (fun v b q => ?_)
      obtain ⟨rfl, rfl⟩ := q
      show rm_V _ _ 49 [.ref 3, .int (x), .int ((rm_sm x nm))] [.int ((-1 : Int32))] _ _
      refine rm_iret dX8_circle_49 rfl rfl ?_
      exact ⟨by unfold q_cirR; rw [if_pos (show rm_cib x nm = true from decide_eq_true (Or.inr (Or.inl h32)))], by unfold q_cirA; rw [if_pos (show rm_cib x nm = true from decide_eq_true (Or.inr (Or.inl h32)))]⟩
    · refine rm_iload_n dX8_circle_35 rfl rfl ?_
      refine rm_aload_n dX8_circle_36 rfl rfl ?_
      refine rm_geti 0 (x := nI (nm)) dX8_circle_37 flX8_78 rfl (hm) ?_
      refine rm_ishr dX8_circle_40 ?_
      refine rm_if_eq (tgt := 50) dX8_circle_41 (by decide) (fun h41 => ?_) (fun h41 => ?_)
      · refine rm_aload_n dX8_circle_50 rfl rfl ?_
        refine rm_geti 1 (x := nI (nc)) dX8_circle_51 flX8_86 rfl (hc) ?_
        refine rm_bipush (v := nI (6)) dX8_circle_54 (by decide) ?_
        refine rm_icN_ne (tgt := 65) dX8_circle_56 (by decide) (by omega) (by omega) (fun h56 => ?_) (fun h56 => ?_)
        · refine rm_aload_n dX8_circle_65 rfl rfl ?_
          refine rm_getr 2 (t := 6) dX8_circle_66 flX8_7 (by decide) rfl rfl ?_
          refine rm_aload_n dX8_circle_69 rfl rfl ?_
          refine rm_geti 1 (x := nI (nc)) dX8_circle_70 flX8_86 rfl (hc) ?_
          refine rm_iload_n dX8_circle_73 rfl rfl ?_
          refine rm_iast (f := 2) (j := nc) dX8_circle_74 rfl (by decide) rfl rfl (rfl) (show nc < 6 from by omega) ?_
          refine rm_aload_n dX8_circle_75 rfl rfl ?_
          refine rm_dup dX8_circle_76 rfl ?_
          refine rm_geti 1 (x := nI (nc)) dX8_circle_77 flX8_86 rfl (show zv_u a 6 nc x 3 1 = nI nc from by rw [zv_u_row a 6 nc _ (by decide)]; exact hc) ?_
          refine rm_iconst (v := nI (1)) dX8_circle_80 (by decide) ?_
          refine rm_iadd dX8_circle_81 ?_
          refine rm_top (nI_add (nc) (1)) ?_
          refine rm_puti 1 dX8_circle_82 fwX8_86 rfl ?_
          refine rm_aload_n dX8_circle_85 rfl rfl ?_
          refine rm_aload_n dX8_circle_86 rfl rfl ?_
          refine rm_geti 1 (x := nI (nc + 1)) dX8_circle_87 flX8_86 rfl (zv_u_s _ _ _ _) ?_
          refine rm_iconst (v := nI (1)) dX8_circle_90 (by decide) ?_
          refine rm_isub dX8_circle_91 ?_
          refine rm_top (y := nI (nc)) (nI_pred nc) ?_
          refine rm_callV (As := [.int (nI (nc))]) (st := []) dX8_circle_92 cvX8_106 rfl rfl (by decide) (zv_cat_i [nI (nc)]) (Nat.le_of_ble_eq_true rfl) (cM_done (d) (zv_u (zv_u a 6 (nc) (x)) 3 1 (nI (nc + 1))) (nI (nc))) (fun v b q => ?_)
          obtain ⟨rfl, rfl⟩ := q
          show rm_V _ _ 95 [.ref 3, .int (x), .int ((rm_sm x nm))] [.int (nI (nc))] _ _
          refine rm_iret dX8_circle_95 rfl rfl ?_
          exact ⟨by unfold q_cirR; rw [if_neg (show ¬ rm_cib x nm = true from fun q => (of_decide_eq_true q).elim h28 (fun q => q.elim h32 (fun q => q h41))), if_neg h56], by unfold q_cirA; rw [if_neg (show ¬ rm_cib x nm = true from fun q => (of_decide_eq_true q).elim h28 (fun q => q.elim h32 (fun q => q h41))), if_neg h56]⟩
        · refine rm_aload_n dX8_circle_59 rfl rfl ?_
          refine rm_iconst (v := nI (2)) dX8_circle_60 (by decide) ?_
          refine rm_callV (As := [.int (nI (2))]) (st := []) dX8_circle_61 cvX8_103 rfl rfl (by decide) (zv_cat_i [nI (2)]) (Nat.le_of_ble_eq_true rfl) (cM_refused (d) (a) (nI (2))) (fun v b q => ?_)
          obtain ⟨rfl, rfl⟩ := q
          show rm_V _ _ 64 [.ref 3, .int (x), .int ((rm_sm x nm))] [.int ((-1 : Int32))] _ _
          refine rm_iret dX8_circle_64 rfl rfl ?_
          exact ⟨by unfold q_cirR; rw [if_neg (show ¬ rm_cib x nm = true from fun q => (of_decide_eq_true q).elim h28 (fun q => q.elim h32 (fun q => q h41))), if_pos h56], by unfold q_cirA; rw [if_neg (show ¬ rm_cib x nm = true from fun q => (of_decide_eq_true q).elim h28 (fun q => q.elim h32 (fun q => q h41))), if_pos h56]⟩
      · refine rm_aload_n dX8_circle_44 rfl rfl ?_
        refine rm_iconst (v := nI (1)) dX8_circle_45 (by decide) ?_
        refine rm_callV (As := [.int (nI (1))]) (st := []) dX8_circle_46 cvX8_103 rfl rfl (by decide) (zv_cat_i [nI (1)]) (Nat.le_of_ble_eq_true rfl) (cM_refused (d) (a) (nI (1))) (fun v b q => ?_)
        obtain ⟨rfl, rfl⟩ := q
        show rm_V _ _ 49 [.ref 3, .int (x), .int ((rm_sm x nm))] [.int ((-1 : Int32))] _ _
        refine rm_iret dX8_circle_49 rfl rfl ?_
        exact ⟨by unfold q_cirR; rw [if_pos (show rm_cib x nm = true from decide_eq_true (Or.inr (Or.inr h41)))], by unfold q_cirA; rw [if_pos (show rm_cib x nm = true from decide_eq_true (Or.inr (Or.inr h41)))]⟩
def rm_cop (a : zv_I) (l k : Nat) : Bool := rm_row a l (k / 8) && rm_in a (k % 8) (k / 8)
def rm_cof (a : zv_I) (nc l : Nat) : Nat := rm_cnt (rm_cop a l) (8 * nc)
theorem cM_countsOf_l (d : Nat) {a : zv_I} {nc l : Nat} (hc : a 3 1 = nI nc) (hcb : nc ≤ 6) (hl : l < 200) : ∀ n k, k + n = 8 * nc → rm_V mX8_countsOf (d + 1) 4 [.ref 3, .int (nI l), .int (nI (rm_cnt (rm_cop a l) k)), .int (nI k)] [] a (rm_p (nI (rm_cof a nc l)) a) := by
  intro n
  induction n with
  | zero =>
    intro k hk2
    have hk3 : k = 8 * nc := by omega
    subst hk3
    refine rm_iload_n dX8_countsOf_4 rfl rfl ?_
    refine rm_bipush (v := nI (8)) dX8_countsOf_5 (by decide) ?_
    refine rm_aload_n dX8_countsOf_7 rfl rfl ?_
    refine rm_geti 1 (x := nI (nc)) dX8_countsOf_8 flX8_86 rfl (hc) ?_
    refine rm_imul dX8_countsOf_11 ?_
    refine rm_top (pk_mul (8) (nc)) ?_
    refine rm_icN_ge (tgt := 61) dX8_countsOf_12 (by decide) (by omega) (by omega) (fun h12 => ?_) (fun h12 => (absurd h12 (by omega)))
    refine rm_iload_n dX8_countsOf_61 rfl rfl ?_
    refine rm_iret dX8_countsOf_62 rfl rfl ?_
    exact ⟨rfl, rfl⟩
  | succ n ih =>
    intro k hk2
    have hcl := rm_cnt_le (rm_cop a l) k
    refine rm_iload_n dX8_countsOf_4 rfl rfl ?_
    refine rm_bipush (v := nI (8)) dX8_countsOf_5 (by decide) ?_
    refine rm_aload_n dX8_countsOf_7 rfl rfl ?_
    refine rm_geti 1 (x := nI (nc)) dX8_countsOf_8 flX8_86 rfl (hc) ?_
    refine rm_imul dX8_countsOf_11 ?_
    refine rm_top (pk_mul (8) (nc)) ?_
    refine rm_icN_ge (tgt := 61) dX8_countsOf_12 (by decide) (by omega) (by omega) (fun h12 => (absurd h12 (by omega))) (fun h12 => ?_)
    refine rm_iload_n dX8_countsOf_15 rfl rfl ?_
    refine rm_aload_n dX8_countsOf_16 rfl rfl ?_
    refine rm_getr 14 (t := 18) dX8_countsOf_17 flX8_40 (by decide) rfl rfl ?_
    refine rm_iload_n dX8_countsOf_20 rfl rfl ?_
    refine rm_iald (f := 14) (j := l) (x := (a 18 (l))) dX8_countsOf_21 rfl (by decide) rfl rfl (rfl) (show l < 200 from by omega) (rfl) ?_
    refine rm_iload_n dX8_countsOf_22 rfl rfl ?_
    refine rm_bipush (v := nI (8)) dX8_countsOf_23 (by decide) ?_
    refine rm_idiv dX8_countsOf_25 (by decide) ?_
    refine rm_top (pk_div (a := k) (d := 8) (by omega) (by decide) (by decide)) ?_
    refine rm_ishr dX8_countsOf_26 ?_
    refine rm_iconst (v := nI (1)) dX8_countsOf_27 (by decide) ?_
    refine rm_iand dX8_countsOf_28 ?_
    refine rm_iconst (v := nI (1)) dX8_countsOf_29 (by decide) ?_
    refine rm_icmp_ne (tgt := 52) dX8_countsOf_30 (by decide) (fun h30 => ?_) (fun h30 => ?_)
    · refine rm_iconst (v := nI (0)) dX8_countsOf_52 (by decide) ?_
      refine rm_iadd dX8_countsOf_53 ?_
      refine rm_top (nI_add (rm_cnt (rm_cop a l) k) (0)) ?_
      refine rm_istore_n (lv' := [.ref 3, .int (nI (l)), .int (nI (rm_cnt (rm_cop a l) k + 0)), .int (nI (k))]) dX8_countsOf_54 rfl (by decide) rfl ?_
      refine rm_iinc (v := nI (k + 1)) (lv' := [.ref 3, .int (nI (l)), .int (nI (rm_cnt (rm_cop a l) k + 0)), .int (nI (k + 1))]) dX8_countsOf_55 rfl (by rw [← nI_1]; rfl) (by decide) rfl ?_
      refine rm_goto (tgt := 4) dX8_countsOf_58 (by decide) ?_
      have e1 : rm_cop a l k = false := by unfold rm_cop rm_row; rw [decide_eq_false h30]; rfl
      have h9 := ih (k + 1) (by omega)
      rw [show rm_cnt (rm_cop a l) (k + 1) = rm_cnt (rm_cop a l) k + 0 from by show _ + (if rm_cop a l k = true then 1 else 0) = _; rw [e1]; rfl] at h9
      exact h9
    · refine rm_aload_n dX8_countsOf_33 rfl rfl ?_
      refine rm_iload_n dX8_countsOf_34 rfl rfl ?_
      refine rm_bipush (v := nI (8)) dX8_countsOf_35 (by decide) ?_
      refine rm_irem dX8_countsOf_37 (by decide) ?_
      refine rm_top (pk_rem (a := k) (d := 8) (by omega) (by decide) (by decide)) ?_
      refine rm_iload_n dX8_countsOf_38 rfl rfl ?_
      refine rm_bipush (v := nI (8)) dX8_countsOf_39 (by decide) ?_
      refine rm_idiv dX8_countsOf_41 (by decide) ?_
      refine rm_top (pk_div (a := k) (d := 8) (by omega) (by decide) (by decide)) ?_
      refine rm_callV (As := [.int (nI (k % 8)), .int (nI (k / 8))]) (st := [.int (nI (rm_cnt (rm_cop a l) k))]) dX8_countsOf_42 cvX8_92 rfl rfl (by decide) (zv_cat_i [nI (k % 8), nI (k / 8)]) (Nat.le_of_ble_eq_true rfl) (cM_isIn (d) a (m := k % 8) (c := k / 8) (by omega)) (fun v b q => ?_)
      obtain ⟨rfl, rfl⟩ := q
      show rm_V _ _ 45 [.ref 3, .int (nI (l)), .int (nI (rm_cnt (rm_cop a l) k)), .int (nI (k))] [.int (rm_b (rm_in a (k % 8) (k / 8))), .int (nI (rm_cnt (rm_cop a l) k))] _ _
      refine rm_ifB_eq (tgt := 52) dX8_countsOf_45 (by decide) (fun h45 => ?_) (fun h45 => ?_)
      · refine rm_iconst (v := nI (0)) dX8_countsOf_52 (by decide) ?_
        refine rm_iadd dX8_countsOf_53 ?_
        refine rm_top (nI_add (rm_cnt (rm_cop a l) k) (0)) ?_
        refine rm_istore_n (lv' := [.ref 3, .int (nI (l)), .int (nI (rm_cnt (rm_cop a l) k + 0)), .int (nI (k))]) dX8_countsOf_54 rfl (by decide) rfl ?_
        refine rm_iinc (v := nI (k + 1)) (lv' := [.ref 3, .int (nI (l)), .int (nI (rm_cnt (rm_cop a l) k + 0)), .int (nI (k + 1))]) dX8_countsOf_55 rfl (by rw [← nI_1]; rfl) (by decide) rfl ?_
        refine rm_goto (tgt := 4) dX8_countsOf_58 (by decide) ?_
        have e1 : rm_cop a l k = false := by unfold rm_cop; rw [h45]; exact Bool.and_false _
        have h9 := ih (k + 1) (by omega)
        rw [show rm_cnt (rm_cop a l) (k + 1) = rm_cnt (rm_cop a l) k + 0 from by show _ + (if rm_cop a l k = true then 1 else 0) = _; rw [e1]; rfl] at h9
        exact h9
      · refine rm_iconst (v := nI (1)) dX8_countsOf_48 (by decide) ?_
        refine rm_goto (tgt := 53) dX8_countsOf_49 (by decide) ?_
        refine rm_iadd dX8_countsOf_53 ?_
        refine rm_top (nI_add (rm_cnt (rm_cop a l) k) (1)) ?_
        refine rm_istore_n (lv' := [.ref 3, .int (nI (l)), .int (nI (rm_cnt (rm_cop a l) k + 1)), .int (nI (k))]) dX8_countsOf_54 rfl (by decide) rfl ?_
        refine rm_iinc (v := nI (k + 1)) (lv' := [.ref 3, .int (nI (l)), .int (nI (rm_cnt (rm_cop a l) k + 1)), .int (nI (k + 1))]) dX8_countsOf_55 rfl (by rw [← nI_1]; rfl) (by decide) rfl ?_
        refine rm_goto (tgt := 4) dX8_countsOf_58 (by decide) ?_
        have e1 : rm_cop a l k = true := by unfold rm_cop rm_row; rw [decide_eq_true h30, h45]; rfl
        have h9 := ih (k + 1) (by omega)
        rw [show rm_cnt (rm_cop a l) (k + 1) = rm_cnt (rm_cop a l) k + 1 from by show _ + (if rm_cop a l k = true then 1 else 0) = _; rw [e1]; rfl] at h9
        exact h9
theorem cM_countsOf (d : Nat) {a : zv_I} {nc l : Nat} (hc : a 3 1 = nI nc) (hcb : nc ≤ 6) (hl : l < 200) : rm_V mX8_countsOf (d + 1) 0 [.ref 3, .int (nI l)] [] a (rm_p (nI (rm_cof a nc l)) a) := by
  refine rm_iconst (v := nI (0)) dX8_countsOf_0 (by decide) ?_
  refine rm_istore_n (lv' := [.ref 3, .int (nI (l)), .int (nI (0))]) dX8_countsOf_1 rfl (by decide) rfl ?_
  refine rm_iconst (v := nI (0)) dX8_countsOf_2 (by decide) ?_
  refine rm_istore_n (lv' := [.ref 3, .int (nI (l)), .int (nI (0)), .int (nI (0))]) dX8_countsOf_3 rfl (by decide) rfl ?_
  exact cM_countsOf_l d hc hcb hl (8 * nc) 0 (by omega)
def q_tl (a : zv_I) (nc l : Nat) : Nat → Int32
  | 0 => a 10 l
  | 1 => a 11 l
  | 2 => a 12 l
  | 3 => a 13 l
  | 4 => a 14 l
  | 5 => a 15 l
  | 6 => nI (rm_cof a nc l)
  | 7 => a 17 l
  | _ => -1
def q_told (a : zv_I) (nc nl : Nat) (l x : Int32) : Int32 := if rm_lt l nl = true then (if rm_lt x 8 = true then q_tl a nc (rm_nv l) (rm_nv x) else -1) else -1
theorem cM_told (d : Nat) {a : zv_I} {nc nl : Nat} (hc : a 3 1 = nI nc) (hcb : nc ≤ 6) (hn : a 3 4 = nI nl) (hnb : nl ≤ 200) (l x : Int32) : rm_V mX8_told (d + 3) 0 [.ref 3, .int l, .int x] [] a (rm_p (q_told a nc nl l x) a) := by
  refine rm_aload_n dX8_told_0 rfl rfl ?_
  refine rm_iload_n dX8_told_1 rfl rfl ?_
  refine rm_callV (As := [.int (l)]) (st := []) dX8_told_2 cvX8_142 rfl rfl (by decide) (zv_cat_i [l]) (Nat.le_of_ble_eq_true rfl) (cM_isLetter (d + 1) hn (by omega) (l)) (fun v b q => ?_)
  obtain ⟨rfl, rfl⟩ := q
  show rm_V _ _ 5 [.ref 3, .int (l), .int (x)] [.int (rm_b (rm_lt (l) nl))] _ _
  refine rm_ifB_ne (tgt := 10) dX8_told_5 (by decide) (fun h5 => ?_) (fun h5 => ?_)
  · obtain ⟨l1, hl1, rfl⟩ := rm_lt_t h5 (by omega)
    refine rm_iload_n dX8_told_10 rfl rfl ?_
    cases hsw : rm_lt x 8 with
    | false =>
      refine rm_tableOut (tgt := 111) dX8_told_11 (rm_lt_out hsw) (by decide) ?_
      refine rm_iconst (v := (-1 : Int32)) dX8_told_111 (by decide) ?_
      refine rm_iret dX8_told_112 rfl rfl ?_
      exact ⟨by unfold q_told; rw [h5, hsw]; rfl, rfl⟩
    | true =>
      obtain ⟨jsw, hjsw, rfl⟩ := rm_lt_t hsw (by decide)
      rcases (show jsw = 0 ∨ jsw = 1 ∨ jsw = 2 ∨ jsw = 3 ∨ jsw = 4 ∨ jsw = 5 ∨ jsw = 6 ∨ jsw = 7 by omega) with rfl | rfl | rfl | rfl | rfl | rfl | rfl | rfl
      · refine rm_tableIn (off := 45) (tgt := 56) dX8_told_11 (by decide) (by decide) (by decide) (by decide) ?_
        refine rm_aload_n dX8_told_56 rfl rfl ?_
        refine rm_getr 6 (t := 10) dX8_told_57 flX8_16 (by decide) rfl rfl ?_
        refine rm_iload_n dX8_told_60 rfl rfl ?_
        refine rm_iald (f := 6) (j := l1) (x := (a 10 (l1))) dX8_told_61 rfl (by decide) rfl rfl (rfl) (show l1 < 200 from by omega) (rfl) ?_
        refine rm_iret dX8_told_62 rfl rfl ?_
        exact ⟨by unfold q_told; rw [h5, if_pos rfl, hsw, if_pos rfl, rm_nv_n (n := l1) (by omega), rm_nv_n (n := 0) (by decide)]; rfl, rfl⟩
      · refine rm_tableIn (off := 52) (tgt := 63) dX8_told_11 (by decide) (by decide) (by decide) (by decide) ?_
        refine rm_aload_n dX8_told_63 rfl rfl ?_
        refine rm_getr 7 (t := 11) dX8_told_64 flX8_19 (by decide) rfl rfl ?_
        refine rm_iload_n dX8_told_67 rfl rfl ?_
        refine rm_iald (f := 7) (j := l1) (x := (a 11 (l1))) dX8_told_68 rfl (by decide) rfl rfl (rfl) (show l1 < 200 from by omega) (rfl) ?_
        refine rm_iret dX8_told_69 rfl rfl ?_
        exact ⟨by unfold q_told; rw [h5, if_pos rfl, hsw, if_pos rfl, rm_nv_n (n := l1) (by omega), rm_nv_n (n := 1) (by decide)]; rfl, rfl⟩
      · refine rm_tableIn (off := 59) (tgt := 70) dX8_told_11 (by decide) (by decide) (by decide) (by decide) ?_
        refine rm_aload_n dX8_told_70 rfl rfl ?_
        refine rm_getr 8 (t := 12) dX8_told_71 flX8_22 (by decide) rfl rfl ?_
        refine rm_iload_n dX8_told_74 rfl rfl ?_
        refine rm_iald (f := 8) (j := l1) (x := (a 12 (l1))) dX8_told_75 rfl (by decide) rfl rfl (rfl) (show l1 < 200 from by omega) (rfl) ?_
        refine rm_iret dX8_told_76 rfl rfl ?_
        exact ⟨by unfold q_told; rw [h5, if_pos rfl, hsw, if_pos rfl, rm_nv_n (n := l1) (by omega), rm_nv_n (n := 2) (by decide)]; rfl, rfl⟩
      · refine rm_tableIn (off := 66) (tgt := 77) dX8_told_11 (by decide) (by decide) (by decide) (by decide) ?_
        refine rm_aload_n dX8_told_77 rfl rfl ?_
        refine rm_getr 9 (t := 13) dX8_told_78 flX8_25 (by decide) rfl rfl ?_
        refine rm_iload_n dX8_told_81 rfl rfl ?_
        refine rm_iald (f := 9) (j := l1) (x := (a 13 (l1))) dX8_told_82 rfl (by decide) rfl rfl (rfl) (show l1 < 200 from by omega) (rfl) ?_
        refine rm_iret dX8_told_83 rfl rfl ?_
        exact ⟨by unfold q_told; rw [h5, if_pos rfl, hsw, if_pos rfl, rm_nv_n (n := l1) (by omega), rm_nv_n (n := 3) (by decide)]; rfl, rfl⟩
      · refine rm_tableIn (off := 73) (tgt := 84) dX8_told_11 (by decide) (by decide) (by decide) (by decide) ?_
        refine rm_aload_n dX8_told_84 rfl rfl ?_
        refine rm_getr 10 (t := 14) dX8_told_85 flX8_28 (by decide) rfl rfl ?_
        refine rm_iload_n dX8_told_88 rfl rfl ?_
        refine rm_iald (f := 10) (j := l1) (x := (a 14 (l1))) dX8_told_89 rfl (by decide) rfl rfl (rfl) (show l1 < 200 from by omega) (rfl) ?_
        refine rm_iret dX8_told_90 rfl rfl ?_
        exact ⟨by unfold q_told; rw [h5, if_pos rfl, hsw, if_pos rfl, rm_nv_n (n := l1) (by omega), rm_nv_n (n := 4) (by decide)]; rfl, rfl⟩
      · refine rm_tableIn (off := 80) (tgt := 91) dX8_told_11 (by decide) (by decide) (by decide) (by decide) ?_
        refine rm_aload_n dX8_told_91 rfl rfl ?_
        refine rm_getr 11 (t := 15) dX8_told_92 flX8_31 (by decide) rfl rfl ?_
        refine rm_iload_n dX8_told_95 rfl rfl ?_
        refine rm_iald (f := 11) (j := l1) (x := (a 15 (l1))) dX8_told_96 rfl (by decide) rfl rfl (rfl) (show l1 < 200 from by omega) (rfl) ?_
        refine rm_iret dX8_told_97 rfl rfl ?_
        exact ⟨by unfold q_told; rw [h5, if_pos rfl, hsw, if_pos rfl, rm_nv_n (n := l1) (by omega), rm_nv_n (n := 5) (by decide)]; rfl, rfl⟩
      · refine rm_tableIn (off := 87) (tgt := 98) dX8_told_11 (by decide) (by decide) (by decide) (by decide) ?_
        refine rm_aload_n dX8_told_98 rfl rfl ?_
        refine rm_iload_n dX8_told_99 rfl rfl ?_
        refine rm_callV (As := [.int (nI (l1))]) (st := []) dX8_told_100 cvX8_179 rfl rfl (by decide) (zv_cat_i [nI (l1)]) (Nat.le_of_ble_eq_true rfl) (cM_countsOf (d + 1) hc hcb (l := l1) (by omega)) (fun v b q => ?_)
        obtain ⟨rfl, rfl⟩ := q
        show rm_V _ _ 103 [.ref 3, .int (nI (l1)), .int (nI (6))] [.int (nI (rm_cof a nc l1))] _ _
        refine rm_iret dX8_told_103 rfl rfl ?_
        exact ⟨by unfold q_told; rw [h5, if_pos rfl, hsw, if_pos rfl, rm_nv_n (n := l1) (by omega), rm_nv_n (n := 6) (by decide)]; rfl, rfl⟩
      · refine rm_tableIn (off := 93) (tgt := 104) dX8_told_11 (by decide) (by decide) (by decide) (by decide) ?_
        refine rm_aload_n dX8_told_104 rfl rfl ?_
        refine rm_getr 13 (t := 17) dX8_told_105 flX8_37 (by decide) rfl rfl ?_
        refine rm_iload_n dX8_told_108 rfl rfl ?_
        refine rm_iald (f := 13) (j := l1) (x := (a 17 (l1))) dX8_told_109 rfl (by decide) rfl rfl (rfl) (show l1 < 200 from by omega) (rfl) ?_
        refine rm_iret dX8_told_110 rfl rfl ?_
        exact ⟨by unfold q_told; rw [h5, if_pos rfl, hsw, if_pos rfl, rm_nv_n (n := l1) (by omega), rm_nv_n (n := 7) (by decide)]; rfl, rfl⟩
  · refine rm_iconst (v := (-1 : Int32)) dX8_told_8 (by decide) ?_
    refine rm_iret dX8_told_9 rfl rfl ?_
    exact ⟨by unfold q_told; rw [h5]; rfl, rfl⟩
def rm_clp (a : zv_I) (c l m : Nat) : Bool := decide (¬ a 11 l = nI c) || (!rm_in a m c || decide (a 20 (200 * m + l) = nI 3))
def rm_cal (a : zv_I) (nm nl c : Nat) : Bool := rm_all (fun l => rm_all (rm_clp a c l) nm 0) nl 0
theorem cM_isCalm_m (d : Nat) {a : zv_I} {nm c l : Nat} (hm : a 3 0 = nI nm) (hmb : nm ≤ 8) (hcc : c < 6) (hl : l < 200) {Q : Option Value → zv_I → Prop} : ∀ n k, k + n = nm → ∀ is, (rm_V mX8_isCalm (d + 1) 77 [.ref 3, .int (nI c), .int (rm_b (is && rm_all (rm_clp a c l) n k)), .int (nI l), .int (nI nm)] [] a Q) → rm_V mX8_isCalm (d + 1) 15 [.ref 3, .int (nI c), .int (rm_b is), .int (nI l), .int (nI k)] [] a Q := by
  intro n
  induction n with
  | zero =>
    intro k hk2 is hQ
    have hk3 : k = nm := by omega
    subst hk3
    refine rm_iload dX8_isCalm_15 rfl ?_
    refine rm_aload_n dX8_isCalm_17 rfl rfl ?_
    refine rm_geti 0 (x := nI (k)) dX8_isCalm_18 flX8_78 rfl (hm) ?_
    refine rm_icN_ge (tgt := 77) dX8_isCalm_21 (by decide) (by omega) (by omega) (fun h21 => ?_) (fun h21 => (absurd h21 (by omega)))
    rw [show (is && rm_all (rm_clp a c l) 0 k) = is from Bool.and_true _] at hQ
    exact hQ
  | succ n ih =>
    intro k hk2 is hQ
    refine rm_iload dX8_isCalm_15 rfl ?_
    refine rm_aload_n dX8_isCalm_17 rfl rfl ?_
    refine rm_geti 0 (x := nI (nm)) dX8_isCalm_18 flX8_78 rfl (hm) ?_
    refine rm_icN_ge (tgt := 77) dX8_isCalm_21 (by decide) (by omega) (by omega) (fun h21 => (absurd h21 (by omega))) (fun h21 => ?_)
    refine rm_iload_n dX8_isCalm_24 rfl rfl ?_
    refine rm_ifB_eq (tgt := 69) dX8_isCalm_25 (by decide) (fun h25 => ?_) (fun h25 => ?_)
    · refine rm_iconst (v := nI (0)) dX8_isCalm_69 (by decide) ?_
      refine rm_istore_n (lv' := [.ref 3, .int (nI (c)), .int (nI (0)), .int (nI (l)), .int (nI (k))]) dX8_isCalm_70 rfl (by decide) rfl ?_
      refine rm_iinc (v := nI (k + 1)) (lv' := [.ref 3, .int (nI (c)), .int (nI (0)), .int (nI (l)), .int (nI (k + 1))]) dX8_isCalm_71 rfl (by rw [← nI_1]; rfl) (by decide) rfl ?_
      refine rm_goto (tgt := 15) dX8_isCalm_74 (by decide) ?_
      refine ih (k + 1) (by omega) false ?_
      have h9 : rm_V mX8_isCalm (d + 1) 77 [.ref 3, .int (nI c), .int (rm_b (is && (rm_clp a c l k && rm_all (rm_clp a c l) n (k + 1)))), .int (nI l), .int (nI nm)] [] a Q := hQ
      rw [show rm_b (is && (rm_clp a c l k && rm_all (rm_clp a c l) n (k + 1))) = rm_b (false && rm_all (rm_clp a c l) n (k + 1)) by rw [h25]; rfl] at h9
      exact h9
    · refine rm_aload_n dX8_isCalm_28 rfl rfl ?_
      refine rm_getr 7 (t := 11) dX8_isCalm_29 flX8_19 (by decide) rfl rfl ?_
      refine rm_iload_n dX8_isCalm_32 rfl rfl ?_
      refine rm_iald (f := 7) (j := l) (x := (a 11 (l))) dX8_isCalm_33 rfl (by decide) rfl rfl (rfl) (show l < 200 from by omega) (rfl) ?_
      refine rm_iload_n dX8_isCalm_34 rfl rfl ?_
      refine rm_icmp_ne (tgt := 65) dX8_isCalm_35 (by decide) (fun h35 => ?_) (fun h35 => ?_)
      · refine rm_iconst (v := nI (1)) dX8_isCalm_65 (by decide) ?_
        refine rm_goto (tgt := 70) dX8_isCalm_66 (by decide) ?_
        refine rm_istore_n (lv' := [.ref 3, .int (nI (c)), .int (nI (1)), .int (nI (l)), .int (nI (k))]) dX8_isCalm_70 rfl (by decide) rfl ?_
        refine rm_iinc (v := nI (k + 1)) (lv' := [.ref 3, .int (nI (c)), .int (nI (1)), .int (nI (l)), .int (nI (k + 1))]) dX8_isCalm_71 rfl (by rw [← nI_1]; rfl) (by decide) rfl ?_
        refine rm_goto (tgt := 15) dX8_isCalm_74 (by decide) ?_
        refine ih (k + 1) (by omega) true ?_
        have h9 : rm_V mX8_isCalm (d + 1) 77 [.ref 3, .int (nI c), .int (rm_b (is && (rm_clp a c l k && rm_all (rm_clp a c l) n (k + 1)))), .int (nI l), .int (nI nm)] [] a Q := hQ
        rw [show rm_b (is && (rm_clp a c l k && rm_all (rm_clp a c l) n (k + 1))) = rm_b (true && rm_all (rm_clp a c l) n (k + 1)) by rw [h25, show rm_clp a c l k = true by unfold rm_clp; rw [decide_eq_true h35]; rfl]; rfl] at h9
        exact h9
      · refine rm_aload_n dX8_isCalm_38 rfl rfl ?_
        refine rm_iload dX8_isCalm_39 rfl ?_
        refine rm_iload_n dX8_isCalm_41 rfl rfl ?_
        refine rm_callV (As := [.int (nI (k)), .int (nI (c))]) (st := []) dX8_isCalm_42 cvX8_92 rfl rfl (by decide) (zv_cat_i [nI (k), nI (c)]) (Nat.le_of_ble_eq_true rfl) (cM_isIn (d) a (m := k) (c := c) (by omega)) (fun v b q => ?_)
        obtain ⟨rfl, rfl⟩ := q
        show rm_V _ _ 45 [.ref 3, .int (nI (c)), .int (rm_b (is)), .int (nI (l)), .int (nI (k))] [.int (rm_b (rm_in a k c))] _ _
        refine rm_ifB_eq (tgt := 65) dX8_isCalm_45 (by decide) (fun h45 => ?_) (fun h45 => ?_)
        · refine rm_iconst (v := nI (1)) dX8_isCalm_65 (by decide) ?_
          refine rm_goto (tgt := 70) dX8_isCalm_66 (by decide) ?_
          refine rm_istore_n (lv' := [.ref 3, .int (nI (c)), .int (nI (1)), .int (nI (l)), .int (nI (k))]) dX8_isCalm_70 rfl (by decide) rfl ?_
          refine rm_iinc (v := nI (k + 1)) (lv' := [.ref 3, .int (nI (c)), .int (nI (1)), .int (nI (l)), .int (nI (k + 1))]) dX8_isCalm_71 rfl (by rw [← nI_1]; rfl) (by decide) rfl ?_
          refine rm_goto (tgt := 15) dX8_isCalm_74 (by decide) ?_
          refine ih (k + 1) (by omega) true ?_
          have h9 : rm_V mX8_isCalm (d + 1) 77 [.ref 3, .int (nI c), .int (rm_b (is && (rm_clp a c l k && rm_all (rm_clp a c l) n (k + 1)))), .int (nI l), .int (nI nm)] [] a Q := hQ
          rw [show rm_b (is && (rm_clp a c l k && rm_all (rm_clp a c l) n (k + 1))) = rm_b (true && rm_all (rm_clp a c l) n (k + 1)) by rw [h25, show rm_clp a c l k = true by unfold rm_clp; rw [h45]; exact Bool.or_true _]; rfl] at h9
          exact h9
        · refine rm_aload_n dX8_isCalm_48 rfl rfl ?_
          refine rm_getr 16 (t := 20) dX8_isCalm_49 flX8_46 (by decide) rfl rfl ?_
          refine rm_sipush (v := nI (200)) dX8_isCalm_52 (by decide) ?_
          refine rm_iload dX8_isCalm_55 rfl ?_
          refine rm_imul dX8_isCalm_57 ?_
          refine rm_top (pk_mul (200) (k)) ?_
          refine rm_iload_n dX8_isCalm_58 rfl rfl ?_
          refine rm_iadd dX8_isCalm_59 ?_
          refine rm_top (nI_add (200 * k) (l)) ?_
          refine rm_iald (f := 16) (j := 200 * k + l) (x := (a 20 (200 * k + l))) dX8_isCalm_60 rfl (by decide) rfl rfl (rfl) (show 200 * k + l < 1600 from by omega) (rfl) ?_
          refine rm_iconst (v := nI (3)) dX8_isCalm_61 (by decide) ?_
          refine rm_icmp_ne (tgt := 69) dX8_isCalm_62 (by decide) (fun h62 => ?_) (fun h62 => ?_)
          · refine rm_iconst (v := nI (0)) dX8_isCalm_69 (by decide) ?_
            refine rm_istore_n (lv' := [.ref 3, .int (nI (c)), .int (nI (0)), .int (nI (l)), .int (nI (k))]) dX8_isCalm_70 rfl (by decide) rfl ?_
            refine rm_iinc (v := nI (k + 1)) (lv' := [.ref 3, .int (nI (c)), .int (nI (0)), .int (nI (l)), .int (nI (k + 1))]) dX8_isCalm_71 rfl (by rw [← nI_1]; rfl) (by decide) rfl ?_
            refine rm_goto (tgt := 15) dX8_isCalm_74 (by decide) ?_
            refine ih (k + 1) (by omega) false ?_
            have h9 : rm_V mX8_isCalm (d + 1) 77 [.ref 3, .int (nI c), .int (rm_b (is && (rm_clp a c l k && rm_all (rm_clp a c l) n (k + 1)))), .int (nI l), .int (nI nm)] [] a Q := hQ
            rw [show rm_b (is && (rm_clp a c l k && rm_all (rm_clp a c l) n (k + 1))) = rm_b (false && rm_all (rm_clp a c l) n (k + 1)) by rw [h25, show rm_clp a c l k = false by unfold rm_clp; rw [decide_eq_false (fun q => q h35), h45, decide_eq_false h62]; rfl]; rfl] at h9
            exact h9
          · refine rm_iconst (v := nI (1)) dX8_isCalm_65 (by decide) ?_
            refine rm_goto (tgt := 70) dX8_isCalm_66 (by decide) ?_
            refine rm_istore_n (lv' := [.ref 3, .int (nI (c)), .int (nI (1)), .int (nI (l)), .int (nI (k))]) dX8_isCalm_70 rfl (by decide) rfl ?_
            refine rm_iinc (v := nI (k + 1)) (lv' := [.ref 3, .int (nI (c)), .int (nI (1)), .int (nI (l)), .int (nI (k + 1))]) dX8_isCalm_71 rfl (by rw [← nI_1]; rfl) (by decide) rfl ?_
            refine rm_goto (tgt := 15) dX8_isCalm_74 (by decide) ?_
            refine ih (k + 1) (by omega) true ?_
            have h9 : rm_V mX8_isCalm (d + 1) 77 [.ref 3, .int (nI c), .int (rm_b (is && (rm_clp a c l k && rm_all (rm_clp a c l) n (k + 1)))), .int (nI l), .int (nI nm)] [] a Q := hQ
            rw [show rm_b (is && (rm_clp a c l k && rm_all (rm_clp a c l) n (k + 1))) = rm_b (true && rm_all (rm_clp a c l) n (k + 1)) by rw [h25, show rm_clp a c l k = true by unfold rm_clp; rw [decide_eq_true h62, Bool.or_true]; exact Bool.or_true _]; rfl] at h9
            exact h9
theorem cM_isCalm_l (d : Nat) {a : zv_I} {nm nl c : Nat} (hm : a 3 0 = nI nm) (hmb : nm ≤ 8) (hn : a 3 4 = nI nl) (hnb : nl ≤ 200) (hcc : c < 6) : ∀ n k, k + n = nl → ∀ is rest, rm_V mX8_isCalm (d + 1) 4 ([.ref 3, .int (nI c), .int (rm_b is), .int (nI k)] ++ rest) [] a (rm_p (rm_b (is && rm_all (fun l => rm_all (rm_clp a c l) nm 0) n k)) a) := by
  intro n
  induction n with
  | zero =>
    intro k hk2 is rest
    refine rm_less ⟨rest, rfl⟩ ?_
    have hk3 : k = nl := by omega
    subst hk3
    refine rm_iload_n dX8_isCalm_4 rfl rfl ?_
    refine rm_aload_n dX8_isCalm_5 rfl rfl ?_
    refine rm_geti 4 (x := nI (k)) dX8_isCalm_6 flX8_89 rfl (hn) ?_
    refine rm_icN_ge (tgt := 83) dX8_isCalm_9 (by decide) (by omega) (by omega) (fun h9 => ?_) (fun h9 => (absurd h9 (by omega)))
    refine rm_iload_n dX8_isCalm_83 rfl rfl ?_
    refine rm_iret dX8_isCalm_84 rfl (rm_nb _) ?_
    exact ⟨by rw [show (is && rm_all (fun l => rm_all (rm_clp a c l) nm 0) 0 k) = is from Bool.and_true _], rfl⟩
  | succ n ih =>
    intro k hk2 is rest
    refine rm_less ⟨rest, rfl⟩ ?_
    refine rm_iload_n dX8_isCalm_4 rfl rfl ?_
    refine rm_aload_n dX8_isCalm_5 rfl rfl ?_
    refine rm_geti 4 (x := nI (nl)) dX8_isCalm_6 flX8_89 rfl (hn) ?_
    refine rm_icN_ge (tgt := 83) dX8_isCalm_9 (by decide) (by omega) (by omega) (fun h9 => (absurd h9 (by omega))) (fun h9 => ?_)
    refine rm_iconst (v := nI (0)) dX8_isCalm_12 (by decide) ?_
    refine rm_istore (lv' := [.ref 3, .int (nI (c)), .int (rm_b (is)), .int (nI (k)), .int (nI (0))]) dX8_isCalm_13 (by decide) rfl ?_
    refine cM_isCalm_m d hm hmb hcc (by omega) nm 0 (by omega) is ?_
    refine rm_iinc (v := nI (k + 1)) (lv' := [.ref 3, .int (nI (c)), .int (rm_b (is && rm_all (rm_clp a c k) nm 0)), .int (nI (k + 1)), .int (nI (nm))]) dX8_isCalm_77 rfl (by rw [← nI_1]; rfl) (by decide) rfl ?_
    refine rm_goto (tgt := 4) dX8_isCalm_80 (by decide) ?_
    have h9 := ih (k + 1) (by omega) (is && rm_all (rm_clp a c k) nm 0) [.int (nI nm)]
    rw [Bool.and_assoc] at h9
    exact h9
theorem cM_isCalm (d : Nat) {a : zv_I} {nm nl c : Nat} (hm : a 3 0 = nI nm) (hmb : nm ≤ 8) (hn : a 3 4 = nI nl) (hnb : nl ≤ 200) (hcc : c < 6) : rm_V mX8_isCalm (d + 1) 0 [.ref 3, .int (nI c)] [] a (rm_p (rm_b (rm_cal a nm nl c)) a) := by
  refine rm_iconst (v := nI (1)) dX8_isCalm_0 (by decide) ?_
  refine rm_istore_n (lv' := [.ref 3, .int (nI (c)), .int (nI (1))]) dX8_isCalm_1 rfl (by decide) rfl ?_
  refine rm_iconst (v := nI (0)) dX8_isCalm_2 (by decide) ?_
  refine rm_istore_n (lv' := [.ref 3, .int (nI (c)), .int (nI (1)), .int (nI (0))]) dX8_isCalm_3 rfl (by decide) rfl ?_
  exact cM_isCalm_l d hm hmb hn hnb hcc nl 0 (by omega) true []
def q_ct (a : zv_I) (nm nl c : Nat) : Nat → Int32
  | 0 => a 6 c
  | 1 => nI (rm_el a c)
  | 2 => a 7 c
  | _ => if rm_cal a nm nl c = true then nI 1 else nI 0
def q_cTold (a : zv_I) (nm nc nl : Nat) (c x : Int32) : Int32 := if (rm_lt c nc && rm_lt x 4) = true then q_ct a nm nl (rm_nv c) (rm_nv x) else -1
theorem rm_nz0 {k : Nat} (h : k < 2 ^ 31) (e : ¬ nI k = 0) : k ≠ 0 := fun q => e (by rw [q]; rfl)
theorem cM_circleTold (d : Nat) {a : zv_I} {nm nc nl : Nat} (hm : a 3 0 = nI nm) (hmb : nm ≤ 8) (hc : a 3 1 = nI nc) (hcb : nc ≤ 6) (hn : a 3 4 = nI nl) (hnb : nl ≤ 200) (hes : ∀ c, c < nc → rm_es a c) (c x : Int32) : rm_V mX8_circleTold (d + 3) 0 [.ref 3, .int c, .int x] [] a (rm_p (q_cTold a nm nc nl c x) a) := by
  refine rm_aload_n dX8_circleTold_0 rfl rfl ?_
  refine rm_iload_n dX8_circleTold_1 rfl rfl ?_
  refine rm_callV (As := [.int (c)]) (st := []) dX8_circleTold_2 cvX8_117 rfl rfl (by decide) (zv_cat_i [c]) (Nat.le_of_ble_eq_true rfl) (cM_isCircle (d + 1) hc (by omega) (c)) (fun v b q => ?_)
  obtain ⟨rfl, rfl⟩ := q
  show rm_V _ _ 5 [.ref 3, .int (c), .int (x)] [.int (rm_b (rm_lt (c) nc))] _ _
  refine rm_ifB_eq (tgt := 17) dX8_circleTold_5 (by decide) (fun h5 => ?_) (fun h5 => ?_)
  · refine rm_iconst (v := (-1 : Int32)) dX8_circleTold_17 (by decide) ?_
    refine rm_iret dX8_circleTold_18 rfl rfl ?_
    exact ⟨by unfold q_cTold; rw [h5]; rfl, rfl⟩
  · obtain ⟨c1, hc1, rfl⟩ := rm_lt_t h5 (by omega)
    refine rm_iload_n dX8_circleTold_8 rfl rfl ?_
    refine rm_iconst (v := nI (0)) dX8_circleTold_9 (by decide) ?_
    refine rm_iconst (v := nI (3)) dX8_circleTold_10 (by decide) ?_
    refine rm_callS (As := [.int (x), .int (nI (0)), .int (nI (3))]) (st := []) dX8_circleTold_11 csX8_82 rfl (by decide) (zv_cat_i [x, nI (0), nI (3)]) (Nat.le_of_ble_eq_true rfl) (cM_in (d + 2) (a) (x) (nI 0) (nI 3)) (fun v b q => ?_)
    obtain ⟨rfl, rfl⟩ := q
    rw [rm_in01 _ 3 (by decide)]
    show rm_V _ _ 14 [.ref 3, .int (nI (c1)), .int (x)] [.int (rm_b (rm_lt (x) 4))] _ _
    refine rm_ifB_ne (tgt := 19) dX8_circleTold_14 (by decide) (fun h14 => ?_) (fun h14 => ?_)
    · obtain ⟨x1, hx1, rfl⟩ := rm_lt_t h14 (by omega)
      refine rm_iload_n dX8_circleTold_19 rfl rfl ?_
      refine rm_if_ne (tgt := 32) dX8_circleTold_20 (by decide) (fun h20 => ?_) (fun h20 => ?_)
      · refine rm_iload_n dX8_circleTold_32 rfl rfl ?_
        refine rm_iconst (v := nI (1)) dX8_circleTold_33 (by decide) ?_
        refine rm_icN_ne (tgt := 45) dX8_circleTold_34 (by decide) (by omega) (by omega) (fun h34 => ?_) (fun h34 => ?_)
        · refine rm_iload_n dX8_circleTold_45 rfl rfl ?_
          refine rm_iconst (v := nI (2)) dX8_circleTold_46 (by decide) ?_
          refine rm_icN_ne (tgt := 59) dX8_circleTold_47 (by decide) (by omega) (by omega) (fun h47 => ?_) (fun h47 => ?_)
          · refine rm_aload_n dX8_circleTold_59 rfl rfl ?_
            refine rm_iload_n dX8_circleTold_60 rfl rfl ?_
            refine rm_callV (As := [.int (nI (c1))]) (st := []) dX8_circleTold_61 cvX8_182 rfl rfl (by decide) (zv_cat_i [nI (c1)]) (Nat.le_of_ble_eq_true rfl) (cM_isCalm (d + 1) hm hmb hn hnb (c := c1) (by omega)) (fun v b q => ?_)
            obtain ⟨rfl, rfl⟩ := q
            show rm_V _ _ 64 [.ref 3, .int (nI (c1)), .int (nI (x1))] [.int (rm_b (rm_cal a nm nl c1))] _ _
            refine rm_ifB_eq (tgt := 71) dX8_circleTold_64 (by decide) (fun h64 => ?_) (fun h64 => ?_)
            · refine rm_iconst (v := nI (0)) dX8_circleTold_71 (by decide) ?_
              refine rm_iret dX8_circleTold_72 rfl rfl ?_
              exact ⟨by unfold q_cTold; rw [h5, h14, if_pos (by rfl), rm_nv_n (n := c1) (by omega), rm_nv_n (n := x1) (by omega)]; have := rm_nz0 (by omega) h20; rw [show x1 = 3 from by omega]; show some (Value.int _) = some (Value.int (if rm_cal a nm nl c1 = true then nI 1 else nI 0)); rw [h64]; rfl, rfl⟩
            · refine rm_iconst (v := nI (1)) dX8_circleTold_67 (by decide) ?_
              refine rm_goto (tgt := 72) dX8_circleTold_68 (by decide) ?_
              refine rm_iret dX8_circleTold_72 rfl rfl ?_
              exact ⟨by unfold q_cTold; rw [h5, h14, if_pos (by rfl), rm_nv_n (n := c1) (by omega), rm_nv_n (n := x1) (by omega)]; have := rm_nz0 (by omega) h20; rw [show x1 = 3 from by omega]; show some (Value.int _) = some (Value.int (if rm_cal a nm nl c1 = true then nI 1 else nI 0)); rw [h64]; rfl, rfl⟩
          · refine rm_aload_n dX8_circleTold_50 rfl rfl ?_
            refine rm_getr 3 (t := 7) dX8_circleTold_51 flX8_13 (by decide) rfl rfl ?_
            refine rm_iload_n dX8_circleTold_54 rfl rfl ?_
            refine rm_iald (f := 3) (j := c1) (x := (a 7 (c1))) dX8_circleTold_55 rfl (by decide) rfl rfl (rfl) (show c1 < 6 from by omega) (rfl) ?_
            refine rm_goto (tgt := 72) dX8_circleTold_56 (by decide) ?_
            refine rm_iret dX8_circleTold_72 rfl rfl ?_
            exact ⟨by unfold q_cTold; rw [h5, h14, if_pos (by rfl), rm_nv_n (n := c1) (by omega), rm_nv_n (n := x1) (by omega)]; rw [show x1 = 2 from by omega]; rfl, rfl⟩
        · refine rm_aload_n dX8_circleTold_37 rfl rfl ?_
          refine rm_iload_n dX8_circleTold_38 rfl rfl ?_
          refine rm_callV (As := [.int (nI (c1))]) (st := []) dX8_circleTold_39 cvX8_148 rfl rfl (by decide) (zv_cat_i [nI (c1)]) (Nat.le_of_ble_eq_true rfl) (cM_eldest (d + 1) (c := c1) (by omega) (hes c1 (by omega))) (fun v b q => ?_)
          obtain ⟨rfl, rfl⟩ := q
          show rm_V _ _ 42 [.ref 3, .int (nI (c1)), .int (nI (x1))] [.int (nI (rm_el a c1))] _ _
          refine rm_goto (tgt := 72) dX8_circleTold_42 (by decide) ?_
          refine rm_iret dX8_circleTold_72 rfl rfl ?_
          exact ⟨by unfold q_cTold; rw [h5, h14, if_pos (by rfl), rm_nv_n (n := c1) (by omega), rm_nv_n (n := x1) (by omega)]; rw [show x1 = 1 from by omega]; rfl, rfl⟩
      · refine rm_aload_n dX8_circleTold_23 rfl rfl ?_
        refine rm_getr 2 (t := 6) dX8_circleTold_24 flX8_7 (by decide) rfl rfl ?_
        refine rm_iload_n dX8_circleTold_27 rfl rfl ?_
        refine rm_iald (f := 2) (j := c1) (x := (a 6 (c1))) dX8_circleTold_28 rfl (by decide) rfl rfl (rfl) (show c1 < 6 from by omega) (rfl) ?_
        refine rm_goto (tgt := 72) dX8_circleTold_29 (by decide) ?_
        refine rm_iret dX8_circleTold_72 rfl rfl ?_
        exact ⟨by unfold q_cTold; rw [h5, h14, if_pos (by rfl), rm_nv_n (n := c1) (by omega), rm_nv_n (n := x1) (by omega)]; rw [show x1 = 0 from rm_nz (by omega) h20]; rfl, rfl⟩
    · refine rm_iconst (v := (-1 : Int32)) dX8_circleTold_17 (by decide) ?_
      refine rm_iret dX8_circleTold_18 rfl rfl ?_
      exact ⟨by unfold q_cTold; rw [h14, Bool.and_false]; rfl, rfl⟩
def q_read (a : zv_I) (nm : Nat) (m i : Int32) : Int32 := if rm_lt m nm = true then (if rm_lt i (rm_nv (a 25 (rm_nv m))) = true then a 24 (200 * rm_nv m + rm_nv i) else -1) else -1
theorem cM_read (d : Nat) {a : zv_I} {nm : Nat} (hm : a 3 0 = nI nm) (hmb : nm ≤ 8) (h25 : ∀ m, m < nm → a 25 m = nI (rm_nv (a 25 m)) ∧ rm_nv (a 25 m) ≤ 200) (m i : Int32) : rm_V mX8_read (d + 3) 0 [.ref 3, .int m, .int i] [] a (rm_p (q_read a nm m i) a) := by
  refine rm_aload_n dX8_read_0 rfl rfl ?_
  refine rm_iload_n dX8_read_1 rfl rfl ?_
  refine rm_callV (As := [.int (m)]) (st := []) dX8_read_2 cvX8_113 rfl rfl (by decide) (zv_cat_i [m]) (Nat.le_of_ble_eq_true rfl) (cM_isMember (d + 1) hm (by omega) (m)) (fun v b q => ?_)
  obtain ⟨rfl, rfl⟩ := q
  show rm_V _ _ 5 [.ref 3, .int (m), .int (i)] [.int (rm_b (rm_lt (m) nm))] _ _
  refine rm_ifB_eq (tgt := 39) dX8_read_5 (by decide) (fun h5 => ?_) (fun h5 => ?_)
  · refine rm_iconst (v := (-1 : Int32)) dX8_read_39 (by decide) ?_
    refine rm_iret dX8_read_40 rfl rfl ?_
    exact ⟨by unfold q_read; rw [h5]; rfl, rfl⟩
  · obtain ⟨m1, hm1, rfl⟩ := rm_lt_t h5 (by omega)
    refine rm_iload_n dX8_read_8 rfl rfl ?_
    refine rm_iconst (v := nI (0)) dX8_read_9 (by decide) ?_
    refine rm_aload_n dX8_read_10 rfl rfl ?_
    refine rm_getr 21 (t := 25) dX8_read_11 flX8_61 (by decide) rfl rfl ?_
    refine rm_iload_n dX8_read_14 rfl rfl ?_
    refine rm_iald (f := 21) (j := m1) (x := nI (rm_nv (a 25 m1))) dX8_read_15 rfl (by decide) rfl rfl (rfl) (show m1 < 8 from by omega) ((h25 m1 (by omega)).1) ?_
    refine rm_iconst (v := nI (1)) dX8_read_16 (by decide) ?_
    refine rm_isub dX8_read_17 ?_
    refine rm_top (y := (nI (rm_nv (a 25 m1)) - nI 1)) (rfl) ?_
    refine rm_callS (As := [.int (i), .int (nI (0)), .int ((nI (rm_nv (a 25 m1)) - nI 1))]) (st := []) dX8_read_18 csX8_82 rfl (by decide) (zv_cat_i [i, nI (0), (nI (rm_nv (a 25 m1)) - nI 1)]) (Nat.le_of_ble_eq_true rfl) (cM_in (d + 2) (a) (i) (nI (0)) ((nI (rm_nv (a 25 m1)) - nI 1))) (fun v b q => ?_)
    obtain ⟨rfl, rfl⟩ := q
    rw [rm_in0 i (n := rm_nv (a 25 m1)) (by have := (h25 m1 (by omega)).2; omega)]
    show rm_V _ _ 21 [.ref 3, .int (nI (m1)), .int (i)] [.int (rm_b (rm_lt i (rm_nv (a 25 m1))))] _ _
    refine rm_ifB_eq (tgt := 39) dX8_read_21 (by decide) (fun h21 => ?_) (fun h21 => ?_)
    · refine rm_iconst (v := (-1 : Int32)) dX8_read_39 (by decide) ?_
      refine rm_iret dX8_read_40 rfl rfl ?_
      exact ⟨by unfold q_read; rw [h5, if_pos rfl, rm_nv_n (n := m1) (by omega), h21]; rfl, rfl⟩
    · have hrb := (h25 m1 (by omega)).2
      obtain ⟨i1, hi1, rfl⟩ := rm_lt_t h21 (by omega)
      refine rm_aload_n dX8_read_24 rfl rfl ?_
      refine rm_getr 20 (t := 24) dX8_read_25 flX8_58 (by decide) rfl rfl ?_
      refine rm_sipush (v := nI (200)) dX8_read_28 (by decide) ?_
      refine rm_iload_n dX8_read_31 rfl rfl ?_
      refine rm_imul dX8_read_32 ?_
      refine rm_top (pk_mul (200) (m1)) ?_
      refine rm_iload_n dX8_read_33 rfl rfl ?_
      refine rm_iadd dX8_read_34 ?_
      refine rm_top (nI_add (200 * m1) (i1)) ?_
      refine rm_iald (f := 20) (j := 200 * m1 + i1) (x := (a 24 (200 * m1 + i1))) dX8_read_35 rfl (by decide) rfl rfl (rfl) (show 200 * m1 + i1 < 1600 from by omega) (rfl) ?_
      refine rm_goto (tgt := 40) dX8_read_36 (by decide) ?_
      refine rm_iret dX8_read_40 rfl rfl ?_
      exact ⟨by unfold q_read; rw [h5, if_pos rfl, rm_nv_n (n := m1) (by omega), h21]; rw [if_pos rfl, rm_nv_n (n := i1) (by have := (h25 m1 (by omega)).2; omega)], rfl⟩
def q_wk (a : zv_I) (m l k : Nat) : Nat → Int32
  | 0 => nI (k / 8)
  | 1 => nI (k % 8)
  | _ => rm_lk a m l (k / 8) (k % 8)
def q_wy (a : zv_I) (nc m l x : Nat) : Int32 := match rm_lkg a nc m l with
  | some k => q_wk a m l k x
  | none => if x < 2 then -2 else if rm_hor a m l = true then nI 1 else nI 0
def q_why (a : zv_I) (nm nc nl : Nat) (m l x : Int32) : Int32 := if (rm_lt m nm && (rm_lt l nl && rm_lt x 3)) = true then (if a 20 (200 * rm_nv m + rm_nv l) = nI 2 then q_wy a nc (rm_nv m) (rm_nv l) (rm_nv x) else -1) else -1
theorem cM_why (d : Nat) {a : zv_I} {nm nc nl : Nat} (hm : a 3 0 = nI nm) (hmb : nm ≤ 8) (hc : a 3 1 = nI nc) (hcb : nc ≤ 6) (hn : a 3 4 = nI nl) (hnb : nl ≤ 200) (hlw : ∀ l, l < nl → rm_lw a nc l) (m l x : Int32) : rm_V mX8_why (d + 4) 0 [.ref 3, .int m, .int l, .int x] [] a (rm_p (q_why a nm nc nl m l x) a) := by
  refine rm_aload_n dX8_why_0 rfl rfl ?_
  refine rm_iload_n dX8_why_1 rfl rfl ?_
  refine rm_callV (As := [.int (m)]) (st := []) dX8_why_2 cvX8_113 rfl rfl (by decide) (zv_cat_i [m]) (Nat.le_of_ble_eq_true rfl) (cM_isMember (d + 2) hm (by omega) (m)) (fun v b q => ?_)
  obtain ⟨rfl, rfl⟩ := q
  show rm_V _ _ 5 [.ref 3, .int (m), .int (l), .int (x)] [.int (rm_b (rm_lt (m) nm))] _ _
  refine rm_ifB_eq (tgt := 41) dX8_why_5 (by decide) (fun h5 => ?_) (fun h5 => ?_)
  · refine rm_iconst (v := (-1 : Int32)) dX8_why_41 (by decide) ?_
    refine rm_iret dX8_why_42 rfl rfl ?_
    exact ⟨by unfold q_why; rw [h5]; rw [if_neg (by simp)], rfl⟩
  · obtain ⟨m1, hm1, rfl⟩ := rm_lt_t h5 (by omega)
    refine rm_aload_n dX8_why_8 rfl rfl ?_
    refine rm_iload_n dX8_why_9 rfl rfl ?_
    refine rm_callV (As := [.int (l)]) (st := []) dX8_why_10 cvX8_142 rfl rfl (by decide) (zv_cat_i [l]) (Nat.le_of_ble_eq_true rfl) (cM_isLetter (d + 2) hn (by omega) (l)) (fun v b q => ?_)
    obtain ⟨rfl, rfl⟩ := q
    show rm_V _ _ 13 [.ref 3, .int (nI (m1)), .int (l), .int (x)] [.int (rm_b (rm_lt (l) nl))] _ _
    refine rm_ifB_eq (tgt := 41) dX8_why_13 (by decide) (fun h13 => ?_) (fun h13 => ?_)
    · refine rm_iconst (v := (-1 : Int32)) dX8_why_41 (by decide) ?_
      refine rm_iret dX8_why_42 rfl rfl ?_
      exact ⟨by unfold q_why; rw [h5, h13]; rw [if_neg (by simp)], rfl⟩
    · obtain ⟨l1, hl1, rfl⟩ := rm_lt_t h13 (by omega)
      refine rm_iload_n dX8_why_16 rfl rfl ?_
      refine rm_iconst (v := nI (0)) dX8_why_17 (by decide) ?_
      refine rm_iconst (v := nI (2)) dX8_why_18 (by decide) ?_
      refine rm_callS (As := [.int (x), .int (nI (0)), .int (nI (2))]) (st := []) dX8_why_19 csX8_82 rfl (by decide) (zv_cat_i [x, nI (0), nI (2)]) (Nat.le_of_ble_eq_true rfl) (cM_in (d + 3) (a) (x) (nI 0) (nI 2)) (fun v b q => ?_)
      obtain ⟨rfl, rfl⟩ := q
      rw [rm_in01 _ 2 (by decide)]
      show rm_V _ _ 22 [.ref 3, .int (nI (m1)), .int (nI (l1)), .int (x)] [.int (rm_b (rm_lt (x) 3))] _ _
      refine rm_ifB_eq (tgt := 41) dX8_why_22 (by decide) (fun h22 => ?_) (fun h22 => ?_)
      · refine rm_iconst (v := (-1 : Int32)) dX8_why_41 (by decide) ?_
        refine rm_iret dX8_why_42 rfl rfl ?_
        exact ⟨by unfold q_why; rw [h5, h13, h22]; rw [if_neg (by simp)], rfl⟩
      · obtain ⟨x1, hx1, rfl⟩ := rm_lt_t h22 (by omega)
        refine rm_aload_n dX8_why_25 rfl rfl ?_
        refine rm_getr 16 (t := 20) dX8_why_26 flX8_46 (by decide) rfl rfl ?_
        refine rm_sipush (v := nI (200)) dX8_why_29 (by decide) ?_
        refine rm_iload_n dX8_why_32 rfl rfl ?_
        refine rm_imul dX8_why_33 ?_
        refine rm_top (pk_mul (200) (m1)) ?_
        refine rm_iload_n dX8_why_34 rfl rfl ?_
        refine rm_iadd dX8_why_35 ?_
        refine rm_top (nI_add (200 * m1) (l1)) ?_
        refine rm_iald (f := 16) (j := 200 * m1 + l1) (x := (a 20 (200 * m1 + l1))) dX8_why_36 rfl (by decide) rfl rfl (rfl) (show 200 * m1 + l1 < 1600 from by omega) (rfl) ?_
        refine rm_iconst (v := nI (2)) dX8_why_37 (by decide) ?_
        refine rm_icmp_eq (tgt := 43) dX8_why_38 (by decide) (fun h38 => ?_) (fun h38 => ?_)
        · refine rm_aload_n dX8_why_43 rfl rfl ?_
          refine rm_iload_n dX8_why_44 rfl rfl ?_
          refine rm_iload_n dX8_why_45 rfl rfl ?_
          refine rm_callV (As := [.int (nI (m1)), .int (nI (l1))]) (st := []) dX8_why_46 cvX8_151 rfl rfl (by decide) (zv_cat_i [nI (m1), nI (l1)]) (Nat.le_of_ble_eq_true rfl) (cM_lacking (d + 1) hc hcb (r := m1) (l := l1) (by omega) (by omega)) (fun v b q => ?_)
          obtain ⟨rfl, rfl⟩ := q
          show rm_V _ _ 49 [.ref 3, .int (nI (m1)), .int (nI (l1)), .int (nI (x1))] [.int ((rm_o (rm_lkg a nc m1 l1)))] _ _
          cases hg : rm_lkg a nc m1 l1 with
          | none =>
            refine rm_istore (lv' := [.ref 3, .int (nI (m1)), .int (nI (l1)), .int (nI (x1)), .int ((-1 : Int32))]) dX8_why_49 (by decide) rfl ?_
            refine rm_iload dX8_why_51 rfl ?_
            refine rm_iconst (v := (-1 : Int32)) dX8_why_53 (by decide) ?_
            refine rm_icmp_eq (tgt := 99) dX8_why_54 (by decide) (fun h54 => ?_) (fun h54 => (absurd rfl h54))
            refine rm_iload_n dX8_why_99 rfl rfl ?_
            refine rm_iconst (v := nI (2)) dX8_why_100 (by decide) ?_
            refine rm_icN_ge (tgt := 109) dX8_why_101 (by decide) (by omega) (by omega) (fun h101 => ?_) (fun h101 => ?_)
            · refine rm_aload_n dX8_why_109 rfl rfl ?_
              refine rm_iload_n dX8_why_110 rfl rfl ?_
              refine rm_iload_n dX8_why_111 rfl rfl ?_
              refine rm_callV (As := [.int (nI (m1)), .int (nI (l1))]) (st := []) dX8_why_112 cvX8_155 rfl rfl (by decide) (zv_cat_i [nI (m1), nI (l1)]) (Nat.le_of_ble_eq_true rfl) (cM_hasOrder (d + 1) (nc := nc) hcb (r := m1) (l := l1) (by omega) (by omega) (hlw l1 (by omega))) (fun v b q => ?_)
              obtain ⟨rfl, rfl⟩ := q
              show rm_V _ _ 115 [.ref 3, .int (nI (m1)), .int (nI (l1)), .int (nI (x1)), .int ((-1 : Int32))] [.int (rm_b (rm_hor a m1 l1))] _ _
              refine rm_ifB_eq (tgt := 122) dX8_why_115 (by decide) (fun h115 => ?_) (fun h115 => ?_)
              · refine rm_iconst (v := nI (0)) dX8_why_122 (by decide) ?_
                refine rm_iret dX8_why_123 rfl rfl ?_
                exact ⟨by unfold q_why; rw [h5, h13, h22, if_pos (by rfl), rm_nv_n (n := m1) (by omega), rm_nv_n (n := l1) (by omega), rm_nv_n (n := x1) (by omega), if_pos h38]; unfold q_wy; rw [hg]; show some (Value.int _) = some (Value.int (if x1 < 2 then -2 else if rm_hor a m1 l1 = true then nI 1 else nI 0)); rw [if_neg (by omega), h115]; rfl, rfl⟩
              · refine rm_iconst (v := nI (1)) dX8_why_118 (by decide) ?_
                refine rm_goto (tgt := 123) dX8_why_119 (by decide) ?_
                refine rm_iret dX8_why_123 rfl rfl ?_
                exact ⟨by unfold q_why; rw [h5, h13, h22, if_pos (by rfl), rm_nv_n (n := m1) (by omega), rm_nv_n (n := l1) (by omega), rm_nv_n (n := x1) (by omega), if_pos h38]; unfold q_wy; rw [hg]; show some (Value.int _) = some (Value.int (if x1 < 2 then -2 else if rm_hor a m1 l1 = true then nI 1 else nI 0)); rw [if_neg (by omega), h115]; rfl, rfl⟩
            · refine rm_bipush (v := (-2 : Int32)) dX8_why_104 (by decide) ?_
              refine rm_goto (tgt := 123) dX8_why_106 (by decide) ?_
              refine rm_iret dX8_why_123 rfl rfl ?_
              exact ⟨by unfold q_why; rw [h5, h13, h22, if_pos (by rfl), rm_nv_n (n := m1) (by omega), rm_nv_n (n := l1) (by omega), rm_nv_n (n := x1) (by omega), if_pos h38]; unfold q_wy; rw [hg]; show some (Value.int _) = some (Value.int (if x1 < 2 then -2 else _)); rw [if_pos (by omega)], rfl⟩
          | some k =>
            have hk4 := (rm_fst_some hg).2.1
            refine rm_istore (lv' := [.ref 3, .int (nI (m1)), .int (nI (l1)), .int (nI (x1)), .int (nI (k))]) dX8_why_49 (by decide) rfl ?_
            refine rm_iload dX8_why_51 rfl ?_
            refine rm_iconst (v := (-1 : Int32)) dX8_why_53 (by decide) ?_
            refine rm_icmp_eq (tgt := 99) dX8_why_54 (by decide) (fun h54 => (absurd h54 (rm_ni1 (by omega)))) (fun h54 => ?_)
            refine rm_iload_n dX8_why_57 rfl rfl ?_
            refine rm_if_ne (tgt := 69) dX8_why_58 (by decide) (fun h58 => ?_) (fun h58 => ?_)
            · refine rm_iload_n dX8_why_69 rfl rfl ?_
              refine rm_iconst (v := nI (1)) dX8_why_70 (by decide) ?_
              refine rm_icN_ne (tgt := 82) dX8_why_71 (by decide) (by omega) (by omega) (fun h71 => ?_) (fun h71 => ?_)
              · refine rm_aload_n dX8_why_82 rfl rfl ?_
                refine rm_iload_n dX8_why_83 rfl rfl ?_
                refine rm_iload_n dX8_why_84 rfl rfl ?_
                refine rm_iload dX8_why_85 rfl ?_
                refine rm_bipush (v := nI (8)) dX8_why_87 (by decide) ?_
                refine rm_idiv dX8_why_89 (by decide) ?_
                refine rm_top (pk_div (a := k) (d := 8) (by omega) (by decide) (by decide)) ?_
                refine rm_iload dX8_why_90 rfl ?_
                refine rm_bipush (v := nI (8)) dX8_why_92 (by decide) ?_
                refine rm_irem dX8_why_94 (by decide) ?_
                refine rm_top (pk_rem (a := k) (d := 8) (by omega) (by decide) (by decide)) ?_
                refine rm_callV (As := [.int (nI (m1)), .int (nI (l1)), .int (nI (k / 8)), .int (nI (k % 8))]) (st := []) dX8_why_95 cvX8_145 rfl rfl (by decide) (zv_cat_i [nI (m1), nI (l1), nI (k / 8), nI (k % 8)]) (Nat.le_of_ble_eq_true rfl) (cM_lacks (d + 3) a (r := m1) (l := l1) (e := k / 8) (m := k % 8) (by omega) (by omega) (by omega) (by omega)) (fun v b q => ?_)
                obtain ⟨rfl, rfl⟩ := q
                show rm_V _ _ 98 [.ref 3, .int (nI (m1)), .int (nI (l1)), .int (nI (x1)), .int (nI (k))] [.int (rm_lk a m1 l1 (k / 8) (k % 8))] _ _
                refine rm_iret dX8_why_98 rfl rfl ?_
                exact ⟨by unfold q_why; rw [h5, h13, h22, if_pos (by rfl), rm_nv_n (n := m1) (by omega), rm_nv_n (n := l1) (by omega), rm_nv_n (n := x1) (by omega), if_pos h38]; unfold q_wy; rw [hg]; have := rm_nz0 (by omega) h58; rw [show x1 = 2 from by omega]; rfl, rfl⟩
              · refine rm_iload dX8_why_74 rfl ?_
                refine rm_bipush (v := nI (8)) dX8_why_76 (by decide) ?_
                refine rm_irem dX8_why_78 (by decide) ?_
                refine rm_top (pk_rem (a := k) (d := 8) (by omega) (by decide) (by decide)) ?_
                refine rm_goto (tgt := 98) dX8_why_79 (by decide) ?_
                refine rm_iret dX8_why_98 rfl rfl ?_
                exact ⟨by unfold q_why; rw [h5, h13, h22, if_pos (by rfl), rm_nv_n (n := m1) (by omega), rm_nv_n (n := l1) (by omega), rm_nv_n (n := x1) (by omega), if_pos h38]; unfold q_wy; rw [hg]; rw [show x1 = 1 from by omega]; rfl, rfl⟩
            · refine rm_iload dX8_why_61 rfl ?_
              refine rm_bipush (v := nI (8)) dX8_why_63 (by decide) ?_
              refine rm_idiv dX8_why_65 (by decide) ?_
              refine rm_top (pk_div (a := k) (d := 8) (by omega) (by decide) (by decide)) ?_
              refine rm_goto (tgt := 98) dX8_why_66 (by decide) ?_
              refine rm_iret dX8_why_98 rfl rfl ?_
              exact ⟨by unfold q_why; rw [h5, h13, h22, if_pos (by rfl), rm_nv_n (n := m1) (by omega), rm_nv_n (n := l1) (by omega), rm_nv_n (n := x1) (by omega), if_pos h38]; unfold q_wy; rw [hg]; rw [show x1 = 0 from rm_nz (by omega) h58]; rfl, rfl⟩
        · refine rm_iconst (v := (-1 : Int32)) dX8_why_41 (by decide) ?_
          refine rm_iret dX8_why_42 rfl rfl ?_
          exact ⟨by unfold q_why; rw [h5, h13, h22, if_pos (by rfl), rm_nv_n (n := m1) (by omega), rm_nv_n (n := l1) (by omega), rm_nv_n (n := x1) (by omega), if_neg h38], rfl⟩
