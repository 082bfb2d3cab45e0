theorem zv_u_u {α : Type} (f : Nat → Nat → α) (t j : Nat) (x y : α) : zv_u (zv_u f t j x) t j y = zv_u f t j y := by
  funext a b
  unfold zv_u
  by_cases h : a = t ∧ b = j
  · rw [if_pos h, if_pos h]
  · rw [if_neg h, if_neg h, if_neg h]
def rm_cnt (p : Nat → Bool) : Nat → Nat
  | 0 => 0
  | n + 1 => rm_cnt p n + (if p n = true then 1 else 0)
theorem rm_cnt_le (p : Nat → Bool) : ∀ n, rm_cnt p n ≤ n
  | 0 => Nat.le_refl _
  | n + 1 => by
    have := rm_cnt_le p n
    show rm_cnt p n + (if p n = true then 1 else 0) ≤ n + 1
    split <;> omega
def rm_svp (b : zv_I) (nc l la k : Nat) : Bool := decide (k / 8 < nc) && (rm_row b l (k / 8) && (rm_row b la (k / 8) && (rm_in b (k % 8) (k / 8) && decide (b 19 (48 * l + k) = b 19 (48 * la + k)))))
def rm_sav (a : zv_I) (nc l w c : Nat) : Nat := if a 23 (6 * w + c) = -1 then 0 else rm_cnt (rm_svp a nc l (rm_nv (a 23 (6 * w + c)))) 48
def rm_cts (a : zv_I) (nc l w c : Nat) : zv_I := zv_u (zv_u a 17 l (nI (rm_sav a nc l w c))) 23 (6 * w + c) (nI l)
theorem cM_counts_l (d : Nat) {a : zv_I} {nc l w c la : Nat} {Q : Option Value → zv_I → Prop} (hc : a 3 1 = nI nc) (hcb : nc ≤ 6) (hl : l < 200) (hla : la < 200) (hk : ∀ rest, rm_V mX8_counts (d + 1) 157 ([.ref 3, .int (nI l), .int (nI w), .int (nI c)] ++ rest) [] (zv_u a 17 l (nI (rm_cnt (rm_svp a nc l la) 48))) Q) : ∀ n k, k + n = 48 → ∀ rest, rm_V mX8_counts (d + 1) 23 ([.ref 3, .int (nI l), .int (nI w), .int (nI c), .int (nI la), .int (nI k)] ++ rest) [] (zv_u a 17 l (nI (rm_cnt (rm_svp a nc l la) k))) Q := by
  intro n
  induction n with
  | zero =>
    intro k hk2 rest
    have hk3 : k = 48 := by omega
    subst hk3
    refine rm_less ⟨rest, rfl⟩ ?_
    refine rm_iload dX8_counts_23 rfl ?_
    refine rm_iconst (v := (-1 : Int32)) dX8_counts_25 (by decide) ?_
    refine rm_icmp_eq (tgt := 157) dX8_counts_26 (by decide) (fun h26 => (absurd h26 (rm_ni1 (by omega)))) (fun h26 => ?_)
    refine rm_iload dX8_counts_29 rfl ?_
    refine rm_bipush (v := nI (48)) dX8_counts_31 (by decide) ?_
    refine rm_icN_ge (tgt := 157) dX8_counts_33 (by decide) (by omega) (by omega) (fun h33 => ?_) (fun h33 => (absurd h33 (by omega)))
    exact hk [.int (nI la), .int (nI 48)]
  | succ n ih =>
    intro k hk2 rest
    refine rm_less ⟨rest, rfl⟩ ?_
    have hcl := rm_cnt_le (rm_svp a nc l la) k
    refine rm_iload dX8_counts_23 rfl ?_
    refine rm_iconst (v := (-1 : Int32)) dX8_counts_25 (by decide) ?_
    refine rm_icmp_eq (tgt := 157) dX8_counts_26 (by decide) (fun h26 => (absurd h26 (rm_ni1 (by omega)))) (fun h26 => ?_)
    refine rm_iload dX8_counts_29 rfl ?_
    refine rm_bipush (v := nI (48)) dX8_counts_31 (by decide) ?_
    refine rm_icN_ge (tgt := 157) dX8_counts_33 (by decide) (by omega) (by omega) (fun h33 => (absurd h33 (by omega))) (fun h33 => ?_)
    refine rm_iload dX8_counts_36 rfl ?_
    refine rm_bipush (v := nI (8)) dX8_counts_38 (by decide) ?_
    refine rm_idiv dX8_counts_40 (by decide) ?_
    refine rm_top (pk_div (a := k) (d := 8) (by omega) (by decide) (by decide)) ?_
    refine rm_istore (lv' := [.ref 3, .int (nI (l)), .int (nI (w)), .int (nI (c)), .int (nI (la)), .int (nI (k)), .int (nI (k / 8))]) dX8_counts_41 (by decide) rfl ?_
    refine rm_iload dX8_counts_43 rfl ?_
    refine rm_aload_n dX8_counts_45 rfl rfl ?_
    refine rm_geti 1 (x := nI (nc)) dX8_counts_46 flX8_86 rfl (hc) ?_
    refine rm_icN_ge (tgt := 101) dX8_counts_49 (by decide) (by omega) (by omega) (fun h49 => ?_) (fun h49 => ?_)
    · refine rm_iconst (v := nI (0)) dX8_counts_101 (by decide) ?_
      refine rm_istore (lv' := [.ref 3, .int (nI (l)), .int (nI (w)), .int (nI (c)), .int (nI (la)), .int (nI (k)), .int (nI (k / 8)), .int (nI (0))]) dX8_counts_102 (by decide) rfl ?_
      refine rm_aload_n dX8_counts_104 rfl rfl ?_
      refine rm_getr 13 (t := 17) dX8_counts_105 flX8_37 (by decide) rfl rfl ?_
      refine rm_iload_n dX8_counts_108 rfl rfl ?_
      refine rm_dup2 dX8_counts_109 rfl rfl ?_
      refine rm_iald (f := 13) (j := l) (x := nI (rm_cnt (rm_svp a nc l la) k)) dX8_counts_110 rfl (by decide) rfl rfl (rfl) (show l < 200 from by omega) (zv_u_s _ _ _ _) ?_
      refine rm_iload dX8_counts_111 rfl ?_
      refine rm_if_eq (tgt := 148) dX8_counts_113 (by decide) (fun h113 => ?_) (fun h113 => (absurd h113 (by decide)))
      refine rm_iconst (v := nI (0)) dX8_counts_148 (by decide) ?_
      refine rm_iadd dX8_counts_149 ?_
      refine rm_top (nI_add (rm_cnt (rm_svp a nc l la) k) (0)) ?_
      refine rm_iast (f := 13) (j := l) dX8_counts_150 rfl (by decide) rfl rfl (rfl) (show l < 200 from by omega) ?_
      refine rm_iinc (v := nI (k + 1)) (lv' := [.ref 3, .int (nI (l)), .int (nI (w)), .int (nI (c)), .int (nI (la)), .int (nI (k + 1)), .int (nI (k / 8)), .int (nI (0))]) dX8_counts_151 rfl (by rw [← nI_1]; rfl) (by decide) rfl ?_
      refine rm_goto (tgt := 23) dX8_counts_154 (by decide) ?_
      have e1 : rm_svp a nc l la k = false := by unfold rm_svp rm_row; rw [decide_eq_false (show ¬ k / 8 < nc by omega)]; rfl
      have h9 := ih (k + 1) (by omega) [.int (nI (k / 8)), .int (nI (0))]
      rw [show rm_cnt (rm_svp a nc l la) (k + 1) = rm_cnt (rm_svp a nc l la) k + 0 from by show _ + (if rm_svp a nc l la k = true then 1 else 0) = _; rw [e1]; rfl] at h9
      rw [zv_u_u]
      exact h9
    · refine rm_aload_n dX8_counts_52 rfl rfl ?_
      refine rm_getr 14 (t := 18) dX8_counts_53 flX8_40 (by decide) rfl rfl ?_
      refine rm_iload_n dX8_counts_56 rfl rfl ?_
      refine rm_iald (f := 14) (j := l) (x := a 18 (l)) dX8_counts_57 rfl (by decide) rfl rfl (rfl) (show l < 200 from by omega) (rfl) ?_
      refine rm_iload dX8_counts_58 rfl ?_
      refine rm_ishr dX8_counts_60 ?_
      refine rm_iconst (v := nI (1)) dX8_counts_61 (by decide) ?_
      refine rm_iand dX8_counts_62 ?_
      refine rm_iconst (v := nI (1)) dX8_counts_63 (by decide) ?_
      refine rm_icmp_ne (tgt := 101) dX8_counts_64 (by decide) (fun h64 => ?_) (fun h64 => ?_)
      · refine rm_iconst (v := nI (0)) dX8_counts_101 (by decide) ?_
        refine rm_istore (lv' := [.ref 3, .int (nI (l)), .int (nI (w)), .int (nI (c)), .int (nI (la)), .int (nI (k)), .int (nI (k / 8)), .int (nI (0))]) dX8_counts_102 (by decide) rfl ?_
        refine rm_aload_n dX8_counts_104 rfl rfl ?_
        refine rm_getr 13 (t := 17) dX8_counts_105 flX8_37 (by decide) rfl rfl ?_
        refine rm_iload_n dX8_counts_108 rfl rfl ?_
        refine rm_dup2 dX8_counts_109 rfl rfl ?_
        refine rm_iald (f := 13) (j := l) (x := nI (rm_cnt (rm_svp a nc l la) k)) dX8_counts_110 rfl (by decide) rfl rfl (rfl) (show l < 200 from by omega) (zv_u_s _ _ _ _) ?_
        refine rm_iload dX8_counts_111 rfl ?_
        refine rm_if_eq (tgt := 148) dX8_counts_113 (by decide) (fun h113 => ?_) (fun h113 => (absurd h113 (by decide)))
        refine rm_iconst (v := nI (0)) dX8_counts_148 (by decide) ?_
        refine rm_iadd dX8_counts_149 ?_
        refine rm_top (nI_add (rm_cnt (rm_svp a nc l la) k) (0)) ?_
        refine rm_iast (f := 13) (j := l) dX8_counts_150 rfl (by decide) rfl rfl (rfl) (show l < 200 from by omega) ?_
        refine rm_iinc (v := nI (k + 1)) (lv' := [.ref 3, .int (nI (l)), .int (nI (w)), .int (nI (c)), .int (nI (la)), .int (nI (k + 1)), .int (nI (k / 8)), .int (nI (0))]) dX8_counts_151 rfl (by rw [← nI_1]; rfl) (by decide) rfl ?_
        refine rm_goto (tgt := 23) dX8_counts_154 (by decide) ?_
        have e1 : rm_svp a nc l la k = false := by unfold rm_svp rm_row; rw [decide_eq_true (show k / 8 < nc by omega), decide_eq_false h64]; rfl
        have h9 := ih (k + 1) (by omega) [.int (nI (k / 8)), .int (nI (0))]
        rw [show rm_cnt (rm_svp a nc l la) (k + 1) = rm_cnt (rm_svp a nc l la) k + 0 from by show _ + (if rm_svp a nc l la k = true then 1 else 0) = _; rw [e1]; rfl] at h9
        rw [zv_u_u]
        exact h9
      · refine rm_aload_n dX8_counts_67 rfl rfl ?_
        refine rm_getr 14 (t := 18) dX8_counts_68 flX8_40 (by decide) rfl rfl ?_
        refine rm_iload dX8_counts_71 rfl ?_
        refine rm_iald (f := 14) (j := la) (x := a 18 (la)) dX8_counts_73 rfl (by decide) rfl rfl (rfl) (show la < 200 from by omega) (rfl) ?_
        refine rm_iload dX8_counts_74 rfl ?_
        refine rm_ishr dX8_counts_76 ?_
        refine rm_iconst (v := nI (1)) dX8_counts_77 (by decide) ?_
        refine rm_iand dX8_counts_78 ?_
        refine rm_iconst (v := nI (1)) dX8_counts_79 (by decide) ?_
        refine rm_icmp_ne (tgt := 101) dX8_counts_80 (by decide) (fun h80 => ?_) (fun h80 => ?_)
        · refine rm_iconst (v := nI (0)) dX8_counts_101 (by decide) ?_
          refine rm_istore (lv' := [.ref 3, .int (nI (l)), .int (nI (w)), .int (nI (c)), .int (nI (la)), .int (nI (k)), .int (nI (k / 8)), .int (nI (0))]) dX8_counts_102 (by decide) rfl ?_
          refine rm_aload_n dX8_counts_104 rfl rfl ?_
          refine rm_getr 13 (t := 17) dX8_counts_105 flX8_37 (by decide) rfl rfl ?_
          refine rm_iload_n dX8_counts_108 rfl rfl ?_
          refine rm_dup2 dX8_counts_109 rfl rfl ?_
          refine rm_iald (f := 13) (j := l) (x := nI (rm_cnt (rm_svp a nc l la) k)) dX8_counts_110 rfl (by decide) rfl rfl (rfl) (show l < 200 from by omega) (zv_u_s _ _ _ _) ?_
          refine rm_iload dX8_counts_111 rfl ?_
          refine rm_if_eq (tgt := 148) dX8_counts_113 (by decide) (fun h113 => ?_) (fun h113 => (absurd h113 (by decide)))
          refine rm_iconst (v := nI (0)) dX8_counts_148 (by decide) ?_
          refine rm_iadd dX8_counts_149 ?_
          refine rm_top (nI_add (rm_cnt (rm_svp a nc l la) k) (0)) ?_
          refine rm_iast (f := 13) (j := l) dX8_counts_150 rfl (by decide) rfl rfl (rfl) (show l < 200 from by omega) ?_
          refine rm_iinc (v := nI (k + 1)) (lv' := [.ref 3, .int (nI (l)), .int (nI (w)), .int (nI (c)), .int (nI (la)), .int (nI (k + 1)), .int (nI (k / 8)), .int (nI (0))]) dX8_counts_151 rfl (by rw [← nI_1]; rfl) (by decide) rfl ?_
          refine rm_goto (tgt := 23) dX8_counts_154 (by decide) ?_
          have e1 : rm_svp a nc l la k = false := by unfold rm_svp rm_row; rw [decide_eq_true (show k / 8 < nc by omega), decide_eq_true h64, decide_eq_false h80]; rfl
          have h9 := ih (k + 1) (by omega) [.int (nI (k / 8)), .int (nI (0))]
          rw [show rm_cnt (rm_svp a nc l la) (k + 1) = rm_cnt (rm_svp a nc l la) k + 0 from by show _ + (if rm_svp a nc l la k = true then 1 else 0) = _; rw [e1]; rfl] at h9
          rw [zv_u_u]
          exact h9
        · refine rm_aload_n dX8_counts_83 rfl rfl ?_
          refine rm_iload dX8_counts_84 rfl ?_
          refine rm_bipush (v := nI (8)) dX8_counts_86 (by decide) ?_
          refine rm_irem dX8_counts_88 (by decide) ?_
          refine rm_top (pk_rem (a := k) (d := 8) (by omega) (by decide) (by decide)) ?_
          refine rm_iload dX8_counts_89 rfl ?_
          refine rm_callV (As := [.int (nI (k % 8)), .int (nI (k / 8))]) (st := []) dX8_counts_91 cvX8_92 rfl rfl (by decide) (zv_cat_i [nI (k % 8), nI (k / 8)]) (Nat.le_of_ble_eq_true rfl) (cM_isIn d (zv_u a 17 l (nI (rm_cnt (rm_svp a nc l la) k))) (m := k % 8) (c := k / 8) (by omega)) (fun v b q => ?_)
          obtain ⟨rfl, rfl⟩ := q
          rw [rm_in_o (a := zv_u a 17 l (nI (rm_cnt (rm_svp a nc l la) k))) (b := a) (zv_u_row a 17 l _ (by decide)) (k % 8) (k / 8)]
          show rm_V _ _ 94 [.ref 3, .int (nI (l)), .int (nI (w)), .int (nI (c)), .int (nI (la)), .int (nI (k)), .int (nI (k / 8))] [.int (rm_b (rm_in a (k % 8) (k / 8)))] _ _
          refine rm_ifB_eq (tgt := 101) dX8_counts_94 (by decide) (fun h94 => ?_) (fun h94 => ?_)
          · refine rm_iconst (v := nI (0)) dX8_counts_101 (by decide) ?_
            refine rm_istore (lv' := [.ref 3, .int (nI (l)), .int (nI (w)), .int (nI (c)), .int (nI (la)), .int (nI (k)), .int (nI (k / 8)), .int (nI (0))]) dX8_counts_102 (by decide) rfl ?_
            refine rm_aload_n dX8_counts_104 rfl rfl ?_
            refine rm_getr 13 (t := 17) dX8_counts_105 flX8_37 (by decide) rfl rfl ?_
            refine rm_iload_n dX8_counts_108 rfl rfl ?_
            refine rm_dup2 dX8_counts_109 rfl rfl ?_
            refine rm_iald (f := 13) (j := l) (x := nI (rm_cnt (rm_svp a nc l la) k)) dX8_counts_110 rfl (by decide) rfl rfl (rfl) (show l < 200 from by omega) (zv_u_s _ _ _ _) ?_
            refine rm_iload dX8_counts_111 rfl ?_
            refine rm_if_eq (tgt := 148) dX8_counts_113 (by decide) (fun h113 => ?_) (fun h113 => (absurd h113 (by decide)))
            refine rm_iconst (v := nI (0)) dX8_counts_148 (by decide) ?_
            refine rm_iadd dX8_counts_149 ?_
            refine rm_top (nI_add (rm_cnt (rm_svp a nc l la) k) (0)) ?_
            refine rm_iast (f := 13) (j := l) dX8_counts_150 rfl (by decide) rfl rfl (rfl) (show l < 200 from by omega) ?_
            refine rm_iinc (v := nI (k + 1)) (lv' := [.ref 3, .int (nI (l)), .int (nI (w)), .int (nI (c)), .int (nI (la)), .int (nI (k + 1)), .int (nI (k / 8)), .int (nI (0))]) dX8_counts_151 rfl (by rw [← nI_1]; rfl) (by decide) rfl ?_
            refine rm_goto (tgt := 23) dX8_counts_154 (by decide) ?_
            have e1 : rm_svp a nc l la k = false := by unfold rm_svp rm_row; rw [decide_eq_true (show k / 8 < nc by omega), decide_eq_true h64, decide_eq_true h80, h94]; rfl
            have h9 := ih (k + 1) (by omega) [.int (nI (k / 8)), .int (nI (0))]
            rw [show rm_cnt (rm_svp a nc l la) (k + 1) = rm_cnt (rm_svp a nc l la) k + 0 from by show _ + (if rm_svp a nc l la k = true then 1 else 0) = _; rw [e1]; rfl] at h9
            rw [zv_u_u]
            exact h9
          · refine rm_iconst (v := nI (1)) dX8_counts_97 (by decide) ?_
            refine rm_goto (tgt := 102) dX8_counts_98 (by decide) ?_
            refine rm_istore (lv' := [.ref 3, .int (nI (l)), .int (nI (w)), .int (nI (c)), .int (nI (la)), .int (nI (k)), .int (nI (k / 8)), .int (nI (1))]) dX8_counts_102 (by decide) rfl ?_
            refine rm_aload_n dX8_counts_104 rfl rfl ?_
            refine rm_getr 13 (t := 17) dX8_counts_105 flX8_37 (by decide) rfl rfl ?_
            refine rm_iload_n dX8_counts_108 rfl rfl ?_
            refine rm_dup2 dX8_counts_109 rfl rfl ?_
            refine rm_iald (f := 13) (j := l) (x := nI (rm_cnt (rm_svp a nc l la) k)) dX8_counts_110 rfl (by decide) rfl rfl (rfl) (show l < 200 from by omega) (zv_u_s _ _ _ _) ?_
            refine rm_iload dX8_counts_111 rfl ?_
            refine rm_if_eq (tgt := 148) dX8_counts_113 (by decide) (fun h113 => (absurd h113 (by decide))) (fun h113 => ?_)
            refine rm_aload_n dX8_counts_116 rfl rfl ?_
            refine rm_getr 15 (t := 19) dX8_counts_117 flX8_43 (by decide) rfl rfl ?_
            refine rm_bipush (v := nI (48)) dX8_counts_120 (by decide) ?_
            refine rm_iload_n dX8_counts_122 rfl rfl ?_
            refine rm_imul dX8_counts_123 ?_
            refine rm_top (pk_mul (48) (l)) ?_
            refine rm_iload dX8_counts_124 rfl ?_
            refine rm_iadd dX8_counts_126 ?_
            refine rm_top (nI_add (48 * l) (k)) ?_
            refine rm_iald (f := 15) (j := 48 * l + k) (x := a 19 (48 * l + k)) dX8_counts_127 rfl (by decide) rfl rfl (rfl) (show 48 * l + k < 9600 from by omega) (rfl) ?_
            refine rm_aload_n dX8_counts_128 rfl rfl ?_
            refine rm_getr 15 (t := 19) dX8_counts_129 flX8_43 (by decide) rfl rfl ?_
            refine rm_bipush (v := nI (48)) dX8_counts_132 (by decide) ?_
            refine rm_iload dX8_counts_134 rfl ?_
            refine rm_imul dX8_counts_136 ?_
            refine rm_top (pk_mul (48) (la)) ?_
            refine rm_iload dX8_counts_137 rfl ?_
            refine rm_iadd dX8_counts_139 ?_
            refine rm_top (nI_add (48 * la) (k)) ?_
            refine rm_iald (f := 15) (j := 48 * la + k) (x := a 19 (48 * la + k)) dX8_counts_140 rfl (by decide) rfl rfl (rfl) (show 48 * la + k < 9600 from by omega) (rfl) ?_
            refine rm_icmp_ne (tgt := 148) dX8_counts_141 (by decide) (fun h141 => ?_) (fun h141 => ?_)
            · refine rm_iconst (v := nI (0)) dX8_counts_148 (by decide) ?_
              refine rm_iadd dX8_counts_149 ?_
              refine rm_top (nI_add (rm_cnt (rm_svp a nc l la) k) (0)) ?_
              refine rm_iast (f := 13) (j := l) dX8_counts_150 rfl (by decide) rfl rfl (rfl) (show l < 200 from by omega) ?_
              refine rm_iinc (v := nI (k + 1)) (lv' := [.ref 3, .int (nI (l)), .int (nI (w)), .int (nI (c)), .int (nI (la)), .int (nI (k + 1)), .int (nI (k / 8)), .int (nI (1))]) dX8_counts_151 rfl (by rw [← nI_1]; rfl) (by decide) rfl ?_
              refine rm_goto (tgt := 23) dX8_counts_154 (by decide) ?_
              have e1 : rm_svp a nc l la k = false := by unfold rm_svp rm_row; rw [decide_eq_true (show k / 8 < nc by omega), decide_eq_true h64, decide_eq_true h80, h94, decide_eq_false h141]; rfl
              have h9 := ih (k + 1) (by omega) [.int (nI (k / 8)), .int (nI (1))]
              rw [show rm_cnt (rm_svp a nc l la) (k + 1) = rm_cnt (rm_svp a nc l la) k + 0 from by show _ + (if rm_svp a nc l la k = true then 1 else 0) = _; rw [e1]; rfl] at h9
              rw [zv_u_u]
              exact h9
            · refine rm_iconst (v := nI (1)) dX8_counts_144 (by decide) ?_
              refine rm_goto (tgt := 149) dX8_counts_145 (by decide) ?_
              refine rm_iadd dX8_counts_149 ?_
              refine rm_top (nI_add (rm_cnt (rm_svp a nc l la) k) (1)) ?_
              refine rm_iast (f := 13) (j := l) dX8_counts_150 rfl (by decide) rfl rfl (rfl) (show l < 200 from by omega) ?_
              refine rm_iinc (v := nI (k + 1)) (lv' := [.ref 3, .int (nI (l)), .int (nI (w)), .int (nI (c)), .int (nI (la)), .int (nI (k + 1)), .int (nI (k / 8)), .int (nI (1))]) dX8_counts_151 rfl (by rw [← nI_1]; rfl) (by decide) rfl ?_
              refine rm_goto (tgt := 23) dX8_counts_154 (by decide) ?_
              have e1 : rm_svp a nc l la k = true := by unfold rm_svp rm_row; rw [decide_eq_true (show k / 8 < nc by omega), decide_eq_true h64, decide_eq_true h80, h94, decide_eq_true h141]; rfl
              have h9 := ih (k + 1) (by omega) [.int (nI (k / 8)), .int (nI (1))]
              rw [show rm_cnt (rm_svp a nc l la) (k + 1) = rm_cnt (rm_svp a nc l la) k + 1 from by show _ + (if rm_svp a nc l la k = true then 1 else 0) = _; rw [e1]; rfl] at h9
              rw [zv_u_u]
              exact h9
theorem cM_counts (d : Nat) {a : zv_I} {nc l w c : Nat} (hc : a 3 1 = nI nc) (hcb : nc ≤ 6) (hl : l < 200) (hw : w < 8) (hcc : c < 6) (hla : ¬ a 23 (6 * w + c) = -1 → a 23 (6 * w + c) = nI (rm_nv (a 23 (6 * w + c))) ∧ rm_nv (a 23 (6 * w + c)) < 200) : rm_V mX8_counts (d + 1) 0 [.ref 3, .int (nI l), .int (nI w), .int (nI c)] [] a (rm_q (rm_cts a nc l w c)) := by
  by_cases h0 : a 23 (6 * w + c) = -1
  · refine rm_aload_n dX8_counts_0 rfl rfl ?_
    refine rm_getr 19 (t := 23) dX8_counts_1 flX8_55 (by decide) rfl rfl ?_
    refine rm_bipush (v := nI (6)) dX8_counts_4 (by decide) ?_
    refine rm_iload_n dX8_counts_6 rfl rfl ?_
    refine rm_imul dX8_counts_7 ?_
    refine rm_top (pk_mul (6) (w)) ?_
    refine rm_iload_n dX8_counts_8 rfl rfl ?_
    refine rm_iadd dX8_counts_9 ?_
    refine rm_top (nI_add (6 * w) (c)) ?_
    refine rm_iald (f := 19) (j := 6 * w + c) (x := (-1 : Int32)) dX8_counts_10 rfl (by decide) rfl rfl (rfl) (show 6 * w + c < 48 from by omega) (h0) ?_
    refine rm_istore (lv' := [.ref 3, .int (nI (l)), .int (nI (w)), .int (nI (c)), .int ((-1 : Int32))]) dX8_counts_11 (by decide) rfl ?_
    refine rm_aload_n dX8_counts_13 rfl rfl ?_
    refine rm_getr 13 (t := 17) dX8_counts_14 flX8_37 (by decide) rfl rfl ?_
    refine rm_iload_n dX8_counts_17 rfl rfl ?_
    refine rm_iconst (v := nI (0)) dX8_counts_18 (by decide) ?_
    refine rm_iast (f := 13) (j := l) dX8_counts_19 rfl (by decide) rfl rfl (rfl) (show l < 200 from by omega) ?_
    refine rm_iconst (v := nI (0)) dX8_counts_20 (by decide) ?_
    refine rm_istore (lv' := [.ref 3, .int (nI (l)), .int (nI (w)), .int (nI (c)), .int ((-1 : Int32)), .int (nI (0))]) dX8_counts_21 (by decide) rfl ?_
    refine rm_iload dX8_counts_23 rfl ?_
    refine rm_iconst (v := (-1 : Int32)) dX8_counts_25 (by decide) ?_
    refine rm_icmp_eq (tgt := 157) dX8_counts_26 (by decide) (fun h26 => ?_) (fun h26 => (absurd rfl h26))
    refine rm_aload_n dX8_counts_157 rfl rfl ?_
    refine rm_getr 19 (t := 23) dX8_counts_158 flX8_55 (by decide) rfl rfl ?_
    refine rm_bipush (v := nI (6)) dX8_counts_161 (by decide) ?_
    refine rm_iload_n dX8_counts_163 rfl rfl ?_
    refine rm_imul dX8_counts_164 ?_
    refine rm_top (pk_mul (6) (w)) ?_
    refine rm_iload_n dX8_counts_165 rfl rfl ?_
    refine rm_iadd dX8_counts_166 ?_
    refine rm_top (nI_add (6 * w) (c)) ?_
    refine rm_iload_n dX8_counts_167 rfl rfl ?_
    refine rm_iast (f := 19) (j := 6 * w + c) dX8_counts_168 rfl (by decide) rfl rfl (rfl) (show 6 * w + c < 48 from by omega) ?_
    refine rm_vret dX8_counts_169 rfl ?_
    exact ⟨rfl, by unfold rm_cts rm_sav; rw [if_pos h0]⟩
  · refine rm_aload_n dX8_counts_0 rfl rfl ?_
    refine rm_getr 19 (t := 23) dX8_counts_1 flX8_55 (by decide) rfl rfl ?_
    refine rm_bipush (v := nI (6)) dX8_counts_4 (by decide) ?_
    refine rm_iload_n dX8_counts_6 rfl rfl ?_
    refine rm_imul dX8_counts_7 ?_
    refine rm_top (pk_mul (6) (w)) ?_
    refine rm_iload_n dX8_counts_8 rfl rfl ?_
    refine rm_iadd dX8_counts_9 ?_
    refine rm_top (nI_add (6 * w) (c)) ?_
    refine rm_iald (f := 19) (j := 6 * w + c) (x := nI (rm_nv (a 23 (6 * w + c)))) dX8_counts_10 rfl (by decide) rfl rfl (rfl) (show 6 * w + c < 48 from by omega) ((hla h0).1) ?_
    refine rm_istore (lv' := [.ref 3, .int (nI (l)), .int (nI (w)), .int (nI (c)), .int (nI (rm_nv (a 23 (6 * w + c))))]) dX8_counts_11 (by decide) rfl ?_
    refine rm_aload_n dX8_counts_13 rfl rfl ?_
    refine rm_getr 13 (t := 17) dX8_counts_14 flX8_37 (by decide) rfl rfl ?_
    refine rm_iload_n dX8_counts_17 rfl rfl ?_
    refine rm_iconst (v := nI (0)) dX8_counts_18 (by decide) ?_
    refine rm_iast (f := 13) (j := l) dX8_counts_19 rfl (by decide) rfl rfl (rfl) (show l < 200 from by omega) ?_
    refine rm_iconst (v := nI (0)) dX8_counts_20 (by decide) ?_
    refine rm_istore (lv' := [.ref 3, .int (nI (l)), .int (nI (w)), .int (nI (c)), .int (nI (rm_nv (a 23 (6 * w + c)))), .int (nI (0))]) dX8_counts_21 (by decide) rfl ?_
    obtain ⟨hla1, hla2⟩ := hla h0
    refine cM_counts_l d (la := rm_nv (a 23 (6 * w + c))) hc hcb hl hla2 (fun rest => ?_) 48 0 (by omega) []
    refine rm_less ⟨rest, rfl⟩ ?_
    refine rm_aload_n dX8_counts_157 rfl rfl ?_
    refine rm_getr 19 (t := 23) dX8_counts_158 flX8_55 (by decide) rfl rfl ?_
    refine rm_bipush (v := nI (6)) dX8_counts_161 (by decide) ?_
    refine rm_iload_n dX8_counts_163 rfl rfl ?_
    refine rm_imul dX8_counts_164 ?_
    refine rm_top (pk_mul (6) (w)) ?_
    refine rm_iload_n dX8_counts_165 rfl rfl ?_
    refine rm_iadd dX8_counts_166 ?_
    refine rm_top (nI_add (6 * w) (c)) ?_
    refine rm_iload_n dX8_counts_167 rfl rfl ?_
    refine rm_iast (f := 19) (j := 6 * w + c) dX8_counts_168 rfl (by decide) rfl rfl (rfl) (show 6 * w + c < 48 from by omega) ?_
    refine rm_vret dX8_counts_169 rfl ?_
    exact ⟨rfl, by unfold rm_cts rm_sav; rw [if_neg h0]⟩
def rm_g0 (a : zv_I) (r l : Nat) : zv_I := zv_u (zv_u (zv_u (zv_u a 20 (200 * r + l) (nI 3)) 21 (48 * r + 8 * rm_ci a l + rm_wr a l) (a 21 (48 * r + 8 * rm_ci a l + rm_wr a l) + (nI 1))) 24 (200 * r + rm_nv (a 25 r)) (nI l)) 25 r (nI (rm_nv (a 25 r) + 1))
def rm_hc (b : zv_I) (r l n : Nat) : zv_I := fun t j => if t = 27 ∧ 40 * r ≤ j ∧ j < 40 * r + n ∧ b 27 j = nI (l + 1) then nI 0 else b t j
theorem rm_hc_o {b : zv_I} {r l n t : Nat} (h : t ≠ 27) : rm_hc b r l n t = b t := funext fun j => if_neg fun q => h q.1
theorem rm_hc_0 (b : zv_I) (r l : Nat) : rm_hc b r l 0 = b := funext fun t => funext fun j => if_neg fun q => by omega
theorem rm_hc_r (b : zv_I) (r l n : Nat) : rm_hc b r l n 27 (40 * r + n) = b 27 (40 * r + n) := if_neg fun q => by omega
theorem rm_hc_t {b : zv_I} {r l n : Nat} (h : b 27 (40 * r + n) = nI (l + 1)) : zv_u (rm_hc b r l n) 27 (40 * r + n) (nI 0) = rm_hc b r l (n + 1) := by
  funext t j
  unfold zv_u rm_hc
  by_cases h1 : t = 27 ∧ j = 40 * r + n
  · obtain ⟨rfl, rfl⟩ := h1
    rw [if_pos ⟨rfl, rfl⟩, if_pos ⟨rfl, by omega, by omega, h⟩]
  · rw [if_neg h1]
    by_cases h2 : t = 27 ∧ 40 * r ≤ j ∧ j < 40 * r + n ∧ b 27 j = nI (l + 1)
    · rw [if_pos h2, if_pos ⟨h2.1, h2.2.1, by omega, h2.2.2.2⟩]
    · rw [if_neg h2, if_neg (fun q => by
        by_cases h3 : j < 40 * r + n
        · exact h2 ⟨q.1, q.2.1, h3, q.2.2.2⟩
        · exact h1 ⟨q.1, by omega⟩)]
theorem rm_hc_f {b : zv_I} {r l n : Nat} (h : ¬ b 27 (40 * r + n) = nI (l + 1)) : zv_u (rm_hc b r l n) 27 (40 * r + n) (b 27 (40 * r + n)) = rm_hc b r l (n + 1) := by
  funext t j
  unfold zv_u rm_hc
  by_cases h1 : t = 27 ∧ j = 40 * r + n
  · obtain ⟨rfl, rfl⟩ := h1
    rw [if_pos ⟨rfl, rfl⟩, if_neg (fun q => h q.2.2.2)]
  · rw [if_neg h1]
    by_cases h2 : t = 27 ∧ 40 * r ≤ j ∧ j < 40 * r + n ∧ b 27 j = nI (l + 1)
    · rw [if_pos h2, if_pos ⟨h2.1, h2.2.1, by omega, h2.2.2.2⟩]
    · rw [if_neg h2, if_neg (fun q => by
        by_cases h3 : j < 40 * r + n
        · exact h2 ⟨q.1, q.2.1, h3, q.2.2.2⟩
        · exact h1 ⟨q.1, by omega⟩)]
def rm_g1 (a : zv_I) (r l : Nat) : zv_I := rm_hc (rm_g0 a r l) r l 40
def rm_g2 (a : zv_I) (r l c : Nat) : zv_I := zv_u (zv_u (rm_g1 a r l) 15 l (a 7 c)) 7 c (a 7 c + nI 1)
def rm_g3 (a : zv_I) (nc nl r l c : Nat) : zv_I := rm_mad (rm_g2 a r l c) nc nl (nI 3) r c (nI l)
def rm_g4 (a : zv_I) (nc nl r l c : Nat) : zv_I := zv_u (zv_u (rm_g3 a nc nl r l c) 16 l (nI nl)) 18 nl (rm_g3 a nc nl r l c 18 l)
def rm_cc (b : zv_I) (o l n : Nat) : zv_I := fun t j => if t = 19 ∧ 48 * o ≤ j ∧ j < 48 * o + n then b 19 (48 * l + (j - 48 * o)) else b t j
theorem rm_cc_o {b : zv_I} {o l n t : Nat} (h : t ≠ 19) : rm_cc b o l n t = b t := funext fun j => if_neg fun q => h q.1
theorem rm_cc_0 (b : zv_I) (o l : Nat) : rm_cc b o l 0 = b := funext fun t => funext fun j => if_neg fun q => by omega
theorem rm_cc_n {b : zv_I} {o l n : Nat} : zv_u (rm_cc b o l n) 19 (48 * o + n) (b 19 (48 * l + n)) = rm_cc b o l (n + 1) := by
  funext t j
  unfold zv_u rm_cc
  by_cases h1 : t = 19 ∧ j = 48 * o + n
  · obtain ⟨rfl, rfl⟩ := h1
    rw [if_pos ⟨rfl, rfl⟩, if_pos ⟨rfl, by omega, by omega⟩]
    congr 1
    omega
  · rw [if_neg h1]
    by_cases h2 : t = 19 ∧ 48 * o ≤ j ∧ j < 48 * o + n
    · rw [if_pos h2, if_pos ⟨h2.1, h2.2.1, by omega⟩]
    · rw [if_neg h2, if_neg (fun q => by
        by_cases h3 : j < 48 * o + n
        · exact h2 ⟨q.1, q.2.1, h3⟩
        · exact h1 ⟨q.1, by omega⟩)]
theorem rm_cc_r {b : zv_I} {o l n k : Nat} (h : l < o) (hk : k < 48) : rm_cc b o l n 19 (48 * l + k) = b 19 (48 * l + k) := if_neg fun q => by omega
def rm_g5 (a : zv_I) (nc nl r l c : Nat) : zv_I := rm_cc (rm_g4 a nc nl r l c) nl l 48
def rm_g6 (a : zv_I) (nm nc nl r l c : Nat) : zv_I := rm_goes (rm_g5 a nc nl r l c) nm nl
def rm_giv (a : zv_I) (nm nc nl r l : Nat) : zv_I := if a 10 l = nI 2 ∧ r = rm_el a (rm_ci a l) then rm_g6 a nm nc nl r l (rm_ci a l) else rm_g1 a r l
/-- what give wants -/
def rm_gh (a : zv_I) (nm nc nl r l : Nat) : Prop := a 3 0 = nI nm ∧ nm ≤ 8 ∧ a 3 1 = nI nc ∧ nc ≤ 6 ∧ a 3 4 = nI nl ∧ l < nl ∧ nl ≤ 200 ∧ r < 8 ∧ rm_lw a nc l ∧ a 12 l = nI (rm_wr a l) ∧ rm_wr a l < 8 ∧ a 25 r = nI (rm_nv (a 25 r)) ∧ rm_nv (a 25 r) < 200 ∧ (a 10 l = nI 2 → r = rm_el a (rm_ci a l) → nl < 200 ∧ ∀ y, y < nl → a 26 (200 * nl + y) = 0)
theorem rm_g1_o {a : zv_I} {r l t : Nat} (h : t ≠ 20) (h1 : t ≠ 21) (h2 : t ≠ 24) (h3 : t ≠ 25) (h4 : t ≠ 27) : rm_g1 a r l t = a t := by
  unfold rm_g1 rm_g0
  rw [rm_hc_o h4, zv_u_row _ _ _ _ h3, zv_u_row _ _ _ _ h2, zv_u_row _ _ _ _ h1, zv_u_row _ _ _ _ h]
theorem rm_el_o {a b : zv_I} (h : a 6 = b 6) (c : Nat) : rm_el a c = rm_el b c := by
  unfold rm_el
  rw [show (fun m => rm_in a m c) = fun m => rm_in b m c from funext fun m => rm_in_o h m c]
theorem rm_es_o {a b : zv_I} (h : a 6 = b 6) {c : Nat} (hs : rm_es b c) : rm_es a c := by
  unfold rm_es
  rw [rm_el_o h, show (fun m => rm_in a m c) = fun m => rm_in b m c from funext fun m => rm_in_o h m c]
  exact hs
theorem rm_g2_o {a : zv_I} {r l c t : Nat} (h : t ≠ 20) (h1 : t ≠ 21) (h2 : t ≠ 24) (h3 : t ≠ 25) (h4 : t ≠ 27) (h5 : t ≠ 15) (h6 : t ≠ 7) : rm_g2 a r l c t = a t := by
  unfold rm_g2
  rw [zv_u_row _ _ _ _ h6, zv_u_row _ _ _ _ h5, rm_g1_o h h1 h2 h3 h4]
theorem rm_mad_o {a : zv_I} {nc l w c t : Nat} {kk x : Int32} (h : t ≠ 3) (h1 : t ≠ 10) (h2 : t ≠ 11) (h3 : t ≠ 12) (h4 : t ≠ 13) (h5 : t ≠ 14) (h6 : t ≠ 15) (h7 : t ≠ 16) (h8 : t ≠ 18) (h9 : t ≠ 19) (h10 : t ≠ 22) (h11 : t ≠ 26) : rm_mad a nc l kk w c x t = a t := by
  unfold rm_mad rm_m1 rm_m0
  rw [rm_bs_o h11, rm_mc_o h8 h9, zv_u_row _ _ _ _ h8, zv_u_row _ _ _ _ h4, zv_u_row _ _ _ _ h10, zv_u_row _ _ _ _ h7, zv_u_row _ _ _ _ h6, zv_u_row _ _ _ _ h5, zv_u_row _ _ _ _ h3, zv_u_row _ _ _ _ h2, zv_u_row _ _ _ _ h1, zv_u_row _ _ _ _ h]
theorem rm_mad_3 {a : zv_I} {nc l w c j : Nat} {kk x : Int32} (h : j ≠ 4) : rm_mad a nc l kk w c x 3 j = a 3 j := by
  unfold rm_mad rm_m1
  rw [rm_bs_o (by decide), rm_mc_o (by decide) (by decide)]
  show zv_u a 3 4 (nI (l + 1)) 3 j = a 3 j
  exact zv_u_j a _ h
theorem rm_mad_11 {a : zv_I} {nc l w c : Nat} {kk x : Int32} : rm_mad a nc l kk w c x 11 l = nI c := by
  unfold rm_mad rm_m1
  rw [rm_bs_o (by decide), rm_mc_o (by decide) (by decide)]
  exact zv_u_s _ _ _ _
theorem rm_mad_12 {a : zv_I} {nc l w c : Nat} {kk x : Int32} : rm_mad a nc l kk w c x 12 l = nI w := by
  unfold rm_mad rm_m1
  rw [rm_bs_o (by decide), rm_mc_o (by decide) (by decide)]
  exact zv_u_s _ _ _ _
theorem rm_nv_n {n : Nat} (h : n < 2 ^ 31) : rm_nv (nI n) = n := nI_clamp h
theorem cM_give_h (d : Nat) {b : zv_I} {r l cc : Nat} {Q : Option Value → zv_I → Prop} (hr : r < 8) (hl : l < 200) (hk : rm_V mX8_give d 135 [.ref 3, .int (nI r), .int (nI l), .int (nI cc)] [] (rm_hc b r l 40) Q) : ∀ n k, k + n = 40 → rm_V mX8_give d 76 [.ref 3, .int (nI r), .int (nI l), .int (nI cc), .int (nI k)] [] (rm_hc b r l k) Q := by
  intro n
  induction n with
  | zero =>
    intro k hk2
    have hk3 : k = 40 := by omega
    subst hk3
    refine rm_iload dX8_give_76 rfl ?_
    refine rm_bipush (v := nI (40)) dX8_give_78 (by decide) ?_
    refine rm_icN_ge (tgt := 135) dX8_give_80 (by decide) (by omega) (by omega) (fun h80 => ?_) (fun h80 => (absurd h80 (by omega)))
    exact rm_less ⟨[.int (nI 40)], rfl⟩ hk
  | succ n ih =>
    intro k hk2
    refine rm_iload dX8_give_76 rfl ?_
    refine rm_bipush (v := nI (40)) dX8_give_78 (by decide) ?_
    refine rm_icN_ge (tgt := 135) dX8_give_80 (by decide) (by omega) (by omega) (fun h80 => (absurd h80 (by omega))) (fun h80 => ?_)
    refine rm_aload_n dX8_give_83 rfl rfl ?_
    refine rm_getr 23 (t := 27) dX8_give_84 flX8_69 (by decide) rfl rfl ?_
    refine rm_bipush (v := nI (40)) dX8_give_87 (by decide) ?_
    refine rm_iload_n dX8_give_89 rfl rfl ?_
    refine rm_imul dX8_give_90 ?_
    refine rm_top (pk_mul (40) (r)) ?_
    refine rm_iload dX8_give_91 rfl ?_
    refine rm_iadd dX8_give_93 ?_
    refine rm_top (nI_add (40 * r) (k)) ?_
    refine rm_aload_n dX8_give_94 rfl rfl ?_
    refine rm_getr 23 (t := 27) dX8_give_95 flX8_69 (by decide) rfl rfl ?_
    refine rm_bipush (v := nI (40)) dX8_give_98 (by decide) ?_
    refine rm_iload_n dX8_give_100 rfl rfl ?_
    refine rm_imul dX8_give_101 ?_
    refine rm_top (pk_mul (40) (r)) ?_
    refine rm_iload dX8_give_102 rfl ?_
    refine rm_iadd dX8_give_104 ?_
    refine rm_top (nI_add (40 * r) (k)) ?_
    refine rm_iald (f := 23) (j := 40 * r + k) (x := b 27 (40 * r + k)) dX8_give_105 rfl (by decide) rfl rfl (rfl) (show 40 * r + k < 320 from by omega) (rm_hc_r b r l k) ?_
    refine rm_iload_n dX8_give_106 rfl rfl ?_
    refine rm_iconst (v := nI (1)) dX8_give_107 (by decide) ?_
    refine rm_iadd dX8_give_108 ?_
    refine rm_top (nI_add (l) (1)) ?_
    refine rm_icmp_ne (tgt := 116) dX8_give_109 (by decide) (fun h109 => ?_) (fun h109 => ?_)
    · refine rm_aload_n dX8_give_116 rfl rfl ?_
      refine rm_getr 23 (t := 27) dX8_give_117 flX8_69 (by decide) rfl rfl ?_
      refine rm_bipush (v := nI (40)) dX8_give_120 (by decide) ?_
      refine rm_iload_n dX8_give_122 rfl rfl ?_
      refine rm_imul dX8_give_123 ?_
      refine rm_top (pk_mul (40) (r)) ?_
      refine rm_iload dX8_give_124 rfl ?_
      refine rm_iadd dX8_give_126 ?_
      refine rm_top (nI_add (40 * r) (k)) ?_
      refine rm_iald (f := 23) (j := 40 * r + k) (x := b 27 (40 * r + k)) dX8_give_127 rfl (by decide) rfl rfl (rfl) (show 40 * r + k < 320 from by omega) (rm_hc_r b r l k) ?_
      refine rm_iast (f := 23) (j := 40 * r + k) dX8_give_128 rfl (by decide) rfl rfl (rfl) (show 40 * r + k < 320 from by omega) ?_
      refine rm_iinc (v := nI (k + 1)) (lv' := [.ref 3, .int (nI (r)), .int (nI (l)), .int (nI (cc)), .int (nI (k + 1))]) dX8_give_129 rfl (by rw [← nI_1]; rfl) (by decide) rfl ?_
      refine rm_goto (tgt := 76) dX8_give_132 (by decide) ?_
      rw [rm_hc_f h109]
      exact ih (k + 1) (by omega)
    · refine rm_iconst (v := nI (0)) dX8_give_112 (by decide) ?_
      refine rm_goto (tgt := 128) dX8_give_113 (by decide) ?_
      refine rm_iast (f := 23) (j := 40 * r + k) dX8_give_128 rfl (by decide) rfl rfl (rfl) (show 40 * r + k < 320 from by omega) ?_
      refine rm_iinc (v := nI (k + 1)) (lv' := [.ref 3, .int (nI (r)), .int (nI (l)), .int (nI (cc)), .int (nI (k + 1))]) dX8_give_129 rfl (by rw [← nI_1]; rfl) (by decide) rfl ?_
      refine rm_goto (tgt := 76) dX8_give_132 (by decide) ?_
      rw [rm_hc_t h109]
      exact ih (k + 1) (by omega)
theorem cM_give_c (d : Nat) {b : zv_I} {r l cc o : Nat} {Q : Option Value → zv_I → Prop} (hlo : l < o) (ho : o < 200) (hk : rm_V mX8_give d 248 [.ref 3, .int (nI r), .int (nI l), .int (nI cc), .int (nI o)] [] (rm_cc b o l 48) Q) : ∀ n k, k + n = 48 → rm_V mX8_give d 210 [.ref 3, .int (nI r), .int (nI l), .int (nI cc), .int (nI o), .int (nI k)] [] (rm_cc b o l k) Q := by
  intro n
  induction n with
  | zero =>
    intro k hk2
    have hk3 : k = 48 := by omega
    subst hk3
    refine rm_iload dX8_give_210 rfl ?_
    refine rm_bipush (v := nI (48)) dX8_give_212 (by decide) ?_
    refine rm_icN_ge (tgt := 248) dX8_give_214 (by decide) (by omega) (by omega) (fun h214 => ?_) (fun h214 => (absurd h214 (by omega)))
    exact rm_less ⟨[.int (nI 48)], rfl⟩ hk
  | succ n ih =>
    intro k hk2
    refine rm_iload dX8_give_210 rfl ?_
    refine rm_bipush (v := nI (48)) dX8_give_212 (by decide) ?_
    refine rm_icN_ge (tgt := 248) dX8_give_214 (by decide) (by omega) (by omega) (fun h214 => (absurd h214 (by omega))) (fun h214 => ?_)
    refine rm_aload_n dX8_give_217 rfl rfl ?_
    refine rm_getr 15 (t := 19) dX8_give_218 flX8_43 (by decide) rfl rfl ?_
    refine rm_bipush (v := nI (48)) dX8_give_221 (by decide) ?_
    refine rm_iload dX8_give_223 rfl ?_
    refine rm_imul dX8_give_225 ?_
    refine rm_top (pk_mul (48) (o)) ?_
    refine rm_iload dX8_give_226 rfl ?_
    refine rm_iadd dX8_give_228 ?_
    refine rm_top (nI_add (48 * o) (k)) ?_
    refine rm_aload_n dX8_give_229 rfl rfl ?_
    refine rm_getr 15 (t := 19) dX8_give_230 flX8_43 (by decide) rfl rfl ?_
    refine rm_bipush (v := nI (48)) dX8_give_233 (by decide) ?_
    refine rm_iload_n dX8_give_235 rfl rfl ?_
    refine rm_imul dX8_give_236 ?_
    refine rm_top (pk_mul (48) (l)) ?_
    refine rm_iload dX8_give_237 rfl ?_
    refine rm_iadd dX8_give_239 ?_
    refine rm_top (nI_add (48 * l) (k)) ?_
    refine rm_iald (f := 15) (j := 48 * l + k) (x := b 19 (48 * l + k)) dX8_give_240 rfl (by decide) rfl rfl (rfl) (show 48 * l + k < 9600 from by omega) (rm_cc_r hlo (by omega)) ?_
    refine rm_iast (f := 15) (j := 48 * o + k) dX8_give_241 rfl (by decide) rfl rfl (rfl) (show 48 * o + k < 9600 from by omega) ?_
    refine rm_iinc (v := nI (k + 1)) (lv' := [.ref 3, .int (nI (r)), .int (nI (l)), .int (nI (cc)), .int (nI (o)), .int (nI (k + 1))]) dX8_give_242 rfl (by rw [← nI_1]; rfl) (by decide) rfl ?_
    refine rm_goto (tgt := 210) dX8_give_245 (by decide) ?_
    rw [rm_cc_n]
    exact ih (k + 1) (by omega)
theorem cM_give (d : Nat) {a : zv_I} {nm nc nl r l : Nat} (h : rm_gh a nm nc nl r l) : rm_V mX8_give (d + 2) 0 [.ref 3, .int (nI r), .int (nI l)] [] a (rm_q (rm_giv a nm nc nl r l)) := by
  obtain ⟨g1, g2, g3, g4, g5, g6, g7, g8, g9, g10, g11, g12, g13, g14⟩ := h
  have g9c := g9.2.1
  have hes := rm_es_lt g9.2.2.1
  refine rm_aload_n dX8_give_0 rfl rfl ?_
  refine rm_getr 7 (t := 11) dX8_give_1 flX8_19 (by decide) rfl rfl ?_
  refine rm_iload_n dX8_give_4 rfl rfl ?_
  refine rm_iald (f := 7) (j := l) (x := nI (rm_ci a l)) dX8_give_5 rfl (by decide) rfl rfl (rfl) (show l < 200 from by omega) (g9.1) ?_
  refine rm_istore_n (lv' := [.ref 3, .int (nI (r)), .int (nI (l)), .int (nI (rm_ci a l))]) dX8_give_6 rfl (by decide) rfl ?_
  refine rm_aload_n dX8_give_7 rfl rfl ?_
  refine rm_getr 16 (t := 20) dX8_give_8 flX8_46 (by decide) rfl rfl ?_
  refine rm_sipush (v := nI (200)) dX8_give_11 (by decide) ?_
  refine rm_iload_n dX8_give_14 rfl rfl ?_
  refine rm_imul dX8_give_15 ?_
  refine rm_top (pk_mul (200) (r)) ?_
  refine rm_iload_n dX8_give_16 rfl rfl ?_
  refine rm_iadd dX8_give_17 ?_
  refine rm_top (nI_add (200 * r) (l)) ?_
  refine rm_iconst (v := nI (3)) dX8_give_18 (by decide) ?_
  refine rm_iast (f := 16) (j := 200 * r + l) dX8_give_19 rfl (by decide) rfl rfl (rfl) (show 200 * r + l < 1600 from by omega) ?_
  refine rm_aload_n dX8_give_20 rfl rfl ?_
  refine rm_getr 17 (t := 21) dX8_give_21 flX8_49 (by decide) rfl rfl ?_
  refine rm_bipush (v := nI (48)) dX8_give_24 (by decide) ?_
  refine rm_iload_n dX8_give_26 rfl rfl ?_
  refine rm_imul dX8_give_27 ?_
  refine rm_top (pk_mul (48) (r)) ?_
  refine rm_bipush (v := nI (8)) dX8_give_28 (by decide) ?_
  refine rm_iload_n dX8_give_30 rfl rfl ?_
  refine rm_imul dX8_give_31 ?_
  refine rm_top (pk_mul (8) (rm_ci a l)) ?_
  refine rm_iadd dX8_give_32 ?_
  refine rm_top (nI_add (48 * r) (8 * (rm_ci a l))) ?_
  refine rm_aload_n dX8_give_33 rfl rfl ?_
  refine rm_getr 8 (t := 12) dX8_give_34 flX8_22 (by decide) rfl rfl ?_
  refine rm_iload_n dX8_give_37 rfl rfl ?_
  refine rm_iald (f := 8) (j := l) (x := nI (rm_wr a l)) dX8_give_38 rfl (by decide) rfl rfl (rfl) (show l < 200 from by omega) (g10) ?_
  refine rm_iadd dX8_give_39 ?_
  refine rm_top (nI_add (48 * r + (8 * (rm_ci a l))) (rm_wr a l)) ?_
  refine rm_dup2 dX8_give_40 rfl rfl ?_
  refine rm_iald (f := 17) (j := 48 * r + (8 * (rm_ci a l)) + (rm_wr a l)) (x := a 21 (48 * r + 8 * rm_ci a l + rm_wr a l)) dX8_give_41 rfl (by decide) rfl rfl (rfl) (show 48 * r + (8 * (rm_ci a l)) + (rm_wr a l) < 384 from by omega) (rfl) ?_
  refine rm_iconst (v := nI (1)) dX8_give_42 (by decide) ?_
  refine rm_iadd dX8_give_43 ?_
  refine rm_iast (f := 17) (j := 48 * r + (8 * (rm_ci a l)) + (rm_wr a l)) dX8_give_44 rfl (by decide) rfl rfl (rfl) (show 48 * r + (8 * (rm_ci a l)) + (rm_wr a l) < 384 from by omega) ?_
  refine rm_aload_n dX8_give_45 rfl rfl ?_
  refine rm_getr 20 (t := 24) dX8_give_46 flX8_58 (by decide) rfl rfl ?_
  refine rm_sipush (v := nI (200)) dX8_give_49 (by decide) ?_
  refine rm_iload_n dX8_give_52 rfl rfl ?_
  refine rm_imul dX8_give_53 ?_
  refine rm_top (pk_mul (200) (r)) ?_
  refine rm_aload_n dX8_give_54 rfl rfl ?_
  refine rm_getr 21 (t := 25) dX8_give_55 flX8_61 (by decide) rfl rfl ?_
  refine rm_iload_n dX8_give_58 rfl rfl ?_
  refine rm_iald (f := 21) (j := r) (x := nI (rm_nv (a 25 r))) dX8_give_59 rfl (by decide) rfl rfl (rfl) (show r < 8 from by omega) (g12) ?_
  refine rm_iadd dX8_give_60 ?_
  refine rm_top (nI_add (200 * r) (rm_nv (a 25 r))) ?_
  refine rm_iload_n dX8_give_61 rfl rfl ?_
  refine rm_iast (f := 20) (j := 200 * r + (rm_nv (a 25 r))) dX8_give_62 rfl (by decide) rfl rfl (rfl) (show 200 * r + (rm_nv (a 25 r)) < 1600 from by omega) ?_
  refine rm_aload_n dX8_give_63 rfl rfl ?_
  refine rm_getr 21 (t := 25) dX8_give_64 flX8_61 (by decide) rfl rfl ?_
  refine rm_iload_n dX8_give_67 rfl rfl ?_
  refine rm_dup2 dX8_give_68 rfl rfl ?_
  refine rm_iald (f := 21) (j := r) (x := nI (rm_nv (a 25 r))) dX8_give_69 rfl (by decide) rfl rfl (rfl) (show r < 8 from by omega) (g12) ?_
  refine rm_iconst (v := nI (1)) dX8_give_70 (by decide) ?_
  refine rm_iadd dX8_give_71 ?_
  refine rm_top (nI_add (rm_nv (a 25 r)) (1)) ?_
  refine rm_iast (f := 21) (j := r) dX8_give_72 rfl (by decide) rfl rfl (rfl) (show r < 8 from by omega) ?_
  refine rm_iconst (v := nI (0)) dX8_give_73 (by decide) ?_
  refine rm_istore (lv' := [.ref 3, .int (nI (r)), .int (nI (l)), .int (nI (rm_ci a l)), .int (nI (0))]) dX8_give_74 (by decide) rfl ?_
  have h9 := cM_give_h (d + 2) (b := rm_g0 a r l) (cc := rm_ci a l) (Q := rm_q (rm_giv a nm nc nl r l)) g8 (show l < 200 by omega) ?_ 40 0 (by omega)
  · rw [rm_hc_0] at h9
    exact h9
  · refine rm_aload_n dX8_give_135 rfl rfl ?_
    refine rm_getr 6 (t := 10) dX8_give_136 flX8_16 (by decide) rfl rfl ?_
    refine rm_iload_n dX8_give_139 rfl rfl ?_
    refine rm_iald (f := 6) (j := l) (x := a 10 l) dX8_give_140 rfl (by decide) rfl rfl (rfl) (show l < 200 from by omega) (congrFun (rm_g1_o (a := a) (r := r) (l := l) (t := 10) (by decide) (by decide) (by decide) (by decide) (by decide)) l) ?_
    refine rm_iconst (v := nI (2)) dX8_give_141 (by decide) ?_
    refine rm_icmp_ne (tgt := 254) dX8_give_142 (by decide) (fun h142 => ?_) (fun h142 => ?_)
    · refine rm_vret dX8_give_254 rfl ?_
      exact ⟨rfl, show rm_giv a nm nc nl r l = rm_g1 a r l from if_neg (fun q => h142 q.1)⟩
    · refine rm_iload_n dX8_give_145 rfl rfl ?_
      refine rm_aload_n dX8_give_146 rfl rfl ?_
      refine rm_iload_n dX8_give_147 rfl rfl ?_
      refine rm_callV (As := [.int (nI (rm_ci a l))]) (st := [.int (nI (r))]) dX8_give_148 cvX8_148 rfl rfl (by decide) (zv_cat_i [nI (rm_ci a l)]) (Nat.le_of_ble_eq_true rfl) (cM_eldest d (a := rm_g1 a r l) (c := rm_ci a l) (e := rm_el a (rm_ci a l)) (by omega) (by have := rm_es_o (a := rm_g1 a r l) (b := a) (rm_g1_o (by decide) (by decide) (by decide) (by decide) (by decide)) g9.2.2.1; unfold rm_es at this; rw [rm_el_o (rm_g1_o (by decide) (by decide) (by decide) (by decide) (by decide))] at this; exact this)) (fun v b q => ?_)
      obtain ⟨rfl, rfl⟩ := q
      show rm_V _ _ 151 [.ref 3, .int (nI (r)), .int (nI (l)), .int (nI (rm_ci a l))] [.int (nI (rm_el a (rm_ci a l))), .int (nI (r))] _ _
      refine rm_icN_ne (tgt := 254) dX8_give_151 (by decide) (by omega) (by omega) (fun h151 => ?_) (fun h151 => ?_)
      · refine rm_vret dX8_give_254 rfl ?_
        exact ⟨rfl, show rm_giv a nm nc nl r l = rm_g1 a r l from if_neg (fun q => h151 q.2)⟩
      · obtain ⟨g15, g16⟩ := g14 h142 h151
        refine rm_aload_n dX8_give_154 rfl rfl ?_
        refine rm_getr 11 (t := 15) dX8_give_155 flX8_31 (by decide) rfl rfl ?_
        refine rm_iload_n dX8_give_158 rfl rfl ?_
        refine rm_aload_n dX8_give_159 rfl rfl ?_
        refine rm_getr 3 (t := 7) dX8_give_160 flX8_13 (by decide) rfl rfl ?_
        refine rm_iload_n dX8_give_163 rfl rfl ?_
        refine rm_iald (f := 3) (j := rm_ci a l) (x := a 7 (rm_ci a l)) dX8_give_164 rfl (by decide) rfl rfl (rfl) (show rm_ci a l < 6 from by omega) (congrFun (rm_g1_o (a := a) (r := r) (l := l) (t := 7) (by decide) (by decide) (by decide) (by decide) (by decide)) _) ?_
        refine rm_iast (f := 11) (j := l) dX8_give_165 rfl (by decide) rfl rfl (rfl) (show l < 200 from by omega) ?_
        refine rm_aload_n dX8_give_166 rfl rfl ?_
        refine rm_getr 3 (t := 7) dX8_give_167 flX8_13 (by decide) rfl rfl ?_
        refine rm_iload_n dX8_give_170 rfl rfl ?_
        refine rm_dup2 dX8_give_171 rfl rfl ?_
        refine rm_iald (f := 3) (j := rm_ci a l) (x := a 7 (rm_ci a l)) dX8_give_172 rfl (by decide) rfl rfl (rfl) (show rm_ci a l < 6 from by omega) ((zv_u_t _ _ (by decide)).trans (congrFun (rm_g1_o (a := a) (r := r) (l := l) (t := 7) (by decide) (by decide) (by decide) (by decide) (by decide)) _)) ?_
        refine rm_iconst (v := nI (1)) dX8_give_173 (by decide) ?_
        refine rm_iadd dX8_give_174 ?_
        refine rm_iast (f := 3) (j := rm_ci a l) dX8_give_175 rfl (by decide) rfl rfl (rfl) (show rm_ci a l < 6 from by omega) ?_
        refine rm_aload_n dX8_give_176 rfl rfl ?_
        refine rm_iconst (v := nI (3)) dX8_give_177 (by decide) ?_
        refine rm_iload_n dX8_give_178 rfl rfl ?_
        refine rm_iload_n dX8_give_179 rfl rfl ?_
        refine rm_iload_n dX8_give_180 rfl rfl ?_
        refine rm_callV (As := [.int (nI (3)), .int (nI (r)), .int (nI (rm_ci a l)), .int (nI (l))]) (st := []) dX8_give_181 cvX8_123 rfl rfl (by decide) (zv_cat_i [nI (3), nI (r), nI (rm_ci a l), nI (l)]) (Nat.le_of_ble_eq_true rfl) (cM_made d (a := rm_g2 a r l (rm_ci a l)) (nc := nc) (l := nl) (w := r) (c := rm_ci a l) (kk := nI 3) (x := nI l) (by rw [rm_g2_o (by decide) (by decide) (by decide) (by decide) (by decide) (by decide) (by decide)]; exact g5) g15 (by rw [rm_g2_o (by decide) (by decide) (by decide) (by decide) (by decide) (by decide) (by decide)]; exact g3) g4 g8 (by omega) (by rw [rm_g2_o (by decide) (by decide) (by decide) (by decide) (by decide) (by decide) (by decide)]; exact g16)) (fun v b q => ?_)
        obtain ⟨rfl, rfl⟩ := q
        show rm_V _ _ 184 [.ref 3, .int (nI (r)), .int (nI (l)), .int (nI (rm_ci a l))] [.int (nI (nl))] _ _
        refine rm_istore (lv' := [.ref 3, .int (nI (r)), .int (nI (l)), .int (nI (rm_ci a l)), .int (nI (nl))]) dX8_give_184 (by decide) rfl ?_
        refine rm_aload_n dX8_give_186 rfl rfl ?_
        refine rm_getr 12 (t := 16) dX8_give_187 flX8_34 (by decide) rfl rfl ?_
        refine rm_iload_n dX8_give_190 rfl rfl ?_
        refine rm_iload dX8_give_191 rfl ?_
        refine rm_iast (f := 12) (j := l) dX8_give_193 rfl (by decide) rfl rfl (rfl) (show l < 200 from by omega) ?_
        refine rm_aload_n dX8_give_194 rfl rfl ?_
        refine rm_getr 14 (t := 18) dX8_give_195 flX8_40 (by decide) rfl rfl ?_
        refine rm_iload dX8_give_198 rfl ?_
        refine rm_aload_n dX8_give_200 rfl rfl ?_
        refine rm_getr 14 (t := 18) dX8_give_201 flX8_40 (by decide) rfl rfl ?_
        refine rm_iload_n dX8_give_204 rfl rfl ?_
        refine rm_iald (f := 14) (j := l) (x := rm_g3 a nc nl r l (rm_ci a l) 18 l) dX8_give_205 rfl (by decide) rfl rfl (rfl) (show l < 200 from by omega) (zv_u_t _ _ (by decide)) ?_
        refine rm_iast (f := 14) (j := nl) dX8_give_206 rfl (by decide) rfl rfl (rfl) (show nl < 200 from by omega) ?_
        refine rm_iconst (v := nI (0)) dX8_give_207 (by decide) ?_
        refine rm_istore (lv' := [.ref 3, .int (nI (r)), .int (nI (l)), .int (nI (rm_ci a l)), .int (nI (nl)), .int (nI (0))]) dX8_give_208 (by decide) rfl ?_
        have h9 := cM_give_c (d + 2) (b := rm_g4 a nc nl r l (rm_ci a l)) (r := r) (cc := rm_ci a l) (Q := rm_q (rm_giv a nm nc nl r l)) g6 g15 ?_ 48 0 (by omega)
        · rw [rm_cc_0] at h9
          exact h9
        · have k11 : rm_g5 a nc nl r l (rm_ci a l) 11 nl = nI (rm_ci a l) := by unfold rm_g5 rm_g4 rm_g3; rw [rm_cc_o (by decide), zv_u_row _ _ _ _ (by decide), zv_u_row _ _ _ _ (by decide)]; exact rm_mad_11
          have k12 : rm_g5 a nc nl r l (rm_ci a l) 12 nl = nI r := by unfold rm_g5 rm_g4 rm_g3; rw [rm_cc_o (by decide), zv_u_row _ _ _ _ (by decide), zv_u_row _ _ _ _ (by decide)]; exact rm_mad_12
          have k0 : rm_g5 a nc nl r l (rm_ci a l) 3 0 = nI nm := by unfold rm_g5 rm_g4 rm_g3; rw [rm_cc_o (by decide), zv_u_row _ _ _ _ (by decide), zv_u_row _ _ _ _ (by decide), rm_mad_3 (by decide), rm_g2_o (by decide) (by decide) (by decide) (by decide) (by decide) (by decide) (by decide)]; exact g1
          have e11 : rm_ci (rm_g5 a nc nl r l (rm_ci a l)) nl = rm_ci a l := by show rm_nv (rm_g5 a nc nl r l (rm_ci a l) 11 nl) = _; rw [k11]; exact rm_nv_n (by omega)
          have e12 : rm_wr (rm_g5 a nc nl r l (rm_ci a l)) nl = r := by show rm_nv (rm_g5 a nc nl r l (rm_ci a l) 12 nl) = _; rw [k12]; exact rm_nv_n (by omega)
          have k1 : rm_g5 a nc nl r l (rm_ci a l) 11 nl = nI (rm_ci (rm_g5 a nc nl r l (rm_ci a l)) nl) := by rw [e11]; exact k11
          have k2 : rm_ci (rm_g5 a nc nl r l (rm_ci a l)) nl < 6 := by rw [e11]; omega
          have k3 : rm_g5 a nc nl r l (rm_ci a l) 12 nl = nI (rm_wr (rm_g5 a nc nl r l (rm_ci a l)) nl) := by rw [e12]; exact k12
          have k4 : rm_wr (rm_g5 a nc nl r l (rm_ci a l)) nl < 8 := by rw [e12]; exact g8
          refine rm_aload_n dX8_give_248 rfl rfl ?_
          refine rm_iload dX8_give_249 rfl ?_
          refine rm_callV (As := [.int (nI (nl))]) (st := []) dX8_give_251 cvX8_131 rfl rfl (by decide) (zv_cat_i [nI (nl)]) (Nat.le_of_ble_eq_true rfl) (cM_goes (d + 1 - 1) (a := rm_g5 a nc nl r l (rm_ci a l)) (nm := nm) (l := nl) k0 g2 g15 k1 k2 k3 k4) (fun v b q => ?_)
          obtain ⟨rfl, rfl⟩ := q
          show rm_V _ _ 254 [.ref 3, .int (nI (r)), .int (nI (l)), .int (nI (rm_ci a l)), .int (nI (nl))] [] _ _
          refine rm_vret dX8_give_254 rfl ?_
          exact ⟨rfl, show rm_giv a nm nc nl r l = rm_g6 a nm nc nl r l (rm_ci a l) from if_pos ⟨h142, h151⟩⟩
