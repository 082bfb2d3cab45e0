def q_memR (nm : Nat) : Int32 := if nm = 8 then -1 else nI nm
def q_memA (a : zv_I) (nm : Nat) : zv_I := if nm = 8 then zv_u a 3 24 (nI 2) else zv_u (zv_u a 3 0 (nI (nm + 1))) 3 24 (nI 0)
theorem cM_member (d : Nat) {a : zv_I} {nm : Nat} (hm : a 3 0 = nI nm) (hmb : nm ≤ 8) : rm_V mX8_member (d + 1) 0 [.ref 3] [] a (rm_p (q_memR nm) (q_memA a nm)) := by
  refine rm_aload_n dX8_member_0 rfl rfl ?_
  refine rm_geti 0 (x := nI (nm)) dX8_member_1 flX8_78 rfl (hm) ?_
  refine rm_bipush (v := nI (8)) dX8_member_4 (by decide) ?_
  refine rm_icN_ne (tgt := 15) dX8_member_6 (by decide) (by omega) (by omega) (fun h6 => ?_) (fun h6 => ?_)
  · refine rm_aload_n dX8_member_15 rfl rfl ?_
    refine rm_dup dX8_member_16 rfl ?_
    refine rm_geti 0 (x := nI (nm)) dX8_member_17 flX8_78 rfl (hm) ?_
    refine rm_iconst (v := nI (1)) dX8_member_20 (by decide) ?_
    refine rm_iadd dX8_member_21 ?_
    refine rm_top (nI_add (nm) (1)) ?_
    refine rm_puti 0 dX8_member_22 fwX8_78 rfl ?_
    refine rm_aload_n dX8_member_25 rfl rfl ?_
    refine rm_aload_n dX8_member_26 rfl rfl ?_
    refine rm_geti 0 (x := nI (nm + 1)) dX8_member_27 flX8_78 rfl (zv_u_s _ _ _ _) ?_
    refine rm_iconst (v := nI (1)) dX8_member_30 (by decide) ?_
    refine rm_isub dX8_member_31 ?_
    refine rm_top (y := nI (nm)) (nI_pred nm) ?_
    refine rm_callV (As := [.int (nI (nm))]) (st := []) dX8_member_32 cvX8_106 rfl rfl (by decide) (zv_cat_i [nI (nm)]) (Nat.le_of_ble_eq_true rfl) (cM_done d (zv_u a 3 0 (nI (nm + 1))) (nI nm)) (fun v b q => ?_)
    obtain ⟨rfl, rfl⟩ := q
    show rm_V _ _ 35 [.ref 3] [.int (nI (nm))] _ _
    refine rm_iret dX8_member_35 rfl rfl ?_
    exact ⟨by unfold q_memR; rw [if_neg h6], by unfold q_memA; rw [if_neg h6]⟩
  · refine rm_aload_n dX8_member_9 rfl rfl ?_
    refine rm_iconst (v := nI (2)) dX8_member_10 (by decide) ?_
    refine rm_callV (As := [.int (nI (2))]) (st := []) dX8_member_11 cvX8_103 rfl rfl (by decide) (zv_cat_i [nI (2)]) (Nat.le_of_ble_eq_true rfl) (cM_refused d a (nI 2)) (fun v b q => ?_)
    obtain ⟨rfl, rfl⟩ := q
    show rm_V _ _ 14 [.ref 3] [.int ((-1 : Int32))] _ _
    refine rm_iret dX8_member_14 rfl rfl ?_
    exact ⟨by unfold q_memR; rw [if_pos h6], by unfold q_memA; rw [if_pos h6]⟩
def q_state (a : zv_I) (nm nl : Nat) (m l : Int32) : Int32 := if (rm_lt m nm && rm_lt l nl) = true then a 20 (200 * rm_nv m + rm_nv l) else -1
theorem cM_state (d : Nat) {a : zv_I} {nm nl : Nat} (hm : a 3 0 = nI nm) (hmb : nm ≤ 8) (hn : a 3 4 = nI nl) (hnb : nl ≤ 200) (m l : Int32) : rm_V mX8_state (d + 2) 0 [.ref 3, .int m, .int l] [] a (rm_p (q_state a nm nl m l) a) := by
  refine rm_aload_n dX8_state_0 rfl rfl ?_
  refine rm_iload_n dX8_state_1 rfl rfl ?_
  refine rm_callV (As := [.int (m)]) (st := []) dX8_state_2 cvX8_113 rfl rfl (by decide) (zv_cat_i [m]) (Nat.le_of_ble_eq_true rfl) (cM_isMember d hm (by omega) (m)) (fun v b q => ?_)
  obtain ⟨rfl, rfl⟩ := q
  show rm_V _ _ 5 [.ref 3, .int (m), .int (l)] [.int (rm_b (rm_lt (m) nm))] _ _
  refine rm_ifB_eq (tgt := 31) dX8_state_5 (by decide) (fun h5 => ?_) (fun h5 => ?_)
  · refine rm_iconst (v := (-1 : Int32)) dX8_state_31 (by decide) ?_
    refine rm_iret dX8_state_32 rfl rfl ?_
    exact ⟨by unfold q_state; rw [h5]; rw [if_neg (by simp)], rfl⟩
  · obtain ⟨m1, hm1, rfl⟩ := rm_lt_t h5 (by omega)
    refine rm_aload_n dX8_state_8 rfl rfl ?_
    refine rm_iload_n dX8_state_9 rfl rfl ?_
    refine rm_callV (As := [.int (l)]) (st := []) dX8_state_10 cvX8_142 rfl rfl (by decide) (zv_cat_i [l]) (Nat.le_of_ble_eq_true rfl) (cM_isLetter d hn (by omega) (l)) (fun v b q => ?_)
    obtain ⟨rfl, rfl⟩ := q
    show rm_V _ _ 13 [.ref 3, .int (nI (m1)), .int (l)] [.int (rm_b (rm_lt (l) nl))] _ _
    refine rm_ifB_eq (tgt := 31) dX8_state_13 (by decide) (fun h13 => ?_) (fun h13 => ?_)
    · refine rm_iconst (v := (-1 : Int32)) dX8_state_31 (by decide) ?_
      refine rm_iret dX8_state_32 rfl rfl ?_
      exact ⟨by unfold q_state; rw [h5, h13]; rw [if_neg (by simp)], rfl⟩
    · obtain ⟨l1, hl1, rfl⟩ := rm_lt_t h13 (by omega)
      refine rm_aload_n dX8_state_16 rfl rfl ?_
      refine rm_getr 16 (t := 20) dX8_state_17 flX8_46 (by decide) rfl rfl ?_
      refine rm_sipush (v := nI (200)) dX8_state_20 (by decide) ?_
      refine rm_iload_n dX8_state_23 rfl rfl ?_
      refine rm_imul dX8_state_24 ?_
      refine rm_top (pk_mul (200) (m1)) ?_
      refine rm_iload_n dX8_state_25 rfl rfl ?_
      refine rm_iadd dX8_state_26 ?_
      refine rm_top (nI_add (200 * m1) (l1)) ?_
      refine rm_iald (f := 16) (j := 200 * m1 + l1) (x := (a 20 (200 * m1 + l1))) dX8_state_27 rfl (by decide) rfl rfl (rfl) (show 200 * m1 + l1 < 1600 from by omega) (rfl) ?_
      refine rm_goto (tgt := 32) dX8_state_28 (by decide) ?_
      refine rm_iret dX8_state_32 rfl rfl ?_
      exact ⟨by unfold q_state; rw [h5, h13, if_pos (by decide), rm_nv_n (n := m1) (by omega), rm_nv_n (n := l1) (by omega)], rfl⟩
def q_given (a : zv_I) (nm nc : Nat) (r c w : Int32) : Int32 := if (rm_lt r nm && (rm_lt c nc && rm_lt w nm)) = true then a 21 (48 * rm_nv r + 8 * rm_nv c + rm_nv w) else -1
theorem cM_given (d : Nat) {a : zv_I} {nm nc : Nat} (hm : a 3 0 = nI nm) (hmb : nm ≤ 8) (hc : a 3 1 = nI nc) (hcb : nc ≤ 6) (r c w : Int32) : rm_V mX8_given (d + 2) 0 [.ref 3, .int r, .int c, .int w] [] a (rm_p (q_given a nm nc r c w) a) := by
  refine rm_aload_n dX8_given_0 rfl rfl ?_
  refine rm_iload_n dX8_given_1 rfl rfl ?_
  refine rm_callV (As := [.int (r)]) (st := []) dX8_given_2 cvX8_113 rfl rfl (by decide) (zv_cat_i [r]) (Nat.le_of_ble_eq_true rfl) (cM_isMember d hm (by omega) (r)) (fun v b q => ?_)
  obtain ⟨rfl, rfl⟩ := q
  show rm_V _ _ 5 [.ref 3, .int (r), .int (c), .int (w)] [.int (rm_b (rm_lt (r) nm))] _ _
  refine rm_ifB_eq (tgt := 43) dX8_given_5 (by decide) (fun h5 => ?_) (fun h5 => ?_)
  · refine rm_iconst (v := (-1 : Int32)) dX8_given_43 (by decide) ?_
    refine rm_iret dX8_given_44 rfl rfl ?_
    exact ⟨by unfold q_given; rw [h5]; rw [if_neg (by simp)], rfl⟩
  · obtain ⟨r1, hr1, rfl⟩ := rm_lt_t h5 (by omega)
    refine rm_aload_n dX8_given_8 rfl rfl ?_
    refine rm_iload_n dX8_given_9 rfl rfl ?_
    refine rm_callV (As := [.int (c)]) (st := []) dX8_given_10 cvX8_117 rfl rfl (by decide) (zv_cat_i [c]) (Nat.le_of_ble_eq_true rfl) (cM_isCircle d hc (by omega) (c)) (fun v b q => ?_)
    obtain ⟨rfl, rfl⟩ := q
    show rm_V _ _ 13 [.ref 3, .int (nI (r1)), .int (c), .int (w)] [.int (rm_b (rm_lt (c) nc))] _ _
    refine rm_ifB_eq (tgt := 43) dX8_given_13 (by decide) (fun h13 => ?_) (fun h13 => ?_)
    · refine rm_iconst (v := (-1 : Int32)) dX8_given_43 (by decide) ?_
      refine rm_iret dX8_given_44 rfl rfl ?_
      exact ⟨by unfold q_given; rw [h5, h13]; rw [if_neg (by simp)], rfl⟩
    · obtain ⟨c1, hc1, rfl⟩ := rm_lt_t h13 (by omega)
      refine rm_aload_n dX8_given_16 rfl rfl ?_
      refine rm_iload_n dX8_given_17 rfl rfl ?_
      refine rm_callV (As := [.int (w)]) (st := []) dX8_given_18 cvX8_113 rfl rfl (by decide) (zv_cat_i [w]) (Nat.le_of_ble_eq_true rfl) (cM_isMember d hm (by omega) (w)) (fun v b q => ?_)
      obtain ⟨rfl, rfl⟩ := q
      show rm_V _ _ 21 [.ref 3, .int (nI (r1)), .int (nI (c1)), .int (w)] [.int (rm_b (rm_lt (w) nm))] _ _
      refine rm_ifB_eq (tgt := 43) dX8_given_21 (by decide) (fun h21 => ?_) (fun h21 => ?_)
      · refine rm_iconst (v := (-1 : Int32)) dX8_given_43 (by decide) ?_
        refine rm_iret dX8_given_44 rfl rfl ?_
        exact ⟨by unfold q_given; rw [h5, h13, h21]; rw [if_neg (by simp)], rfl⟩
      · obtain ⟨w1, hw1, rfl⟩ := rm_lt_t h21 (by omega)
        refine rm_aload_n dX8_given_24 rfl rfl ?_
        refine rm_getr 17 (t := 21) dX8_given_25 flX8_49 (by decide) rfl rfl ?_
        refine rm_bipush (v := nI (48)) dX8_given_28 (by decide) ?_
        refine rm_iload_n dX8_given_30 rfl rfl ?_
        refine rm_imul dX8_given_31 ?_
        refine rm_top (pk_mul (48) (r1)) ?_
        refine rm_bipush (v := nI (8)) dX8_given_32 (by decide) ?_
        refine rm_iload_n dX8_given_34 rfl rfl ?_
        refine rm_imul dX8_given_35 ?_
        refine rm_top (pk_mul (8) (c1)) ?_
        refine rm_iadd dX8_given_36 ?_
        refine rm_top (nI_add (48 * r1) (8 * c1)) ?_
        refine rm_iload_n dX8_given_37 rfl rfl ?_
        refine rm_iadd dX8_given_38 ?_
        refine rm_top (nI_add (48 * r1 + (8 * c1)) (w1)) ?_
        refine rm_iald (f := 17) (j := 48 * r1 + (8 * c1) + w1) (x := (a 21 (48 * r1 + (8 * c1) + w1))) dX8_given_39 rfl (by decide) rfl rfl (rfl) (show 48 * r1 + (8 * c1) + w1 < 384 from by omega) (rfl) ?_
        refine rm_goto (tgt := 44) dX8_given_40 (by decide) ?_
        refine rm_iret dX8_given_44 rfl rfl ?_
        exact ⟨by unfold q_given; rw [h5, h13, h21, if_pos (by decide), rm_nv_n (n := r1) (by omega), rm_nv_n (n := c1) (by omega), rm_nv_n (n := w1) (by omega)], rfl⟩
def q_behind (a : zv_I) (nl : Nat) (x y : Int32) : Int32 := if (rm_lt x nl && rm_lt y nl) = true then (if a 26 (200 * rm_nv y + rm_nv x) = 0 then nI 0 else nI 1) else -1
theorem cM_behind (d : Nat) {a : zv_I} {nl : Nat} (hn : a 3 4 = nI nl) (hnb : nl ≤ 200) (x y : Int32) : rm_V mX8_behind (d + 2) 0 [.ref 3, .int x, .int y] [] a (rm_p (q_behind a nl x y) a) := by
  refine rm_aload_n dX8_behind_0 rfl rfl ?_
  refine rm_iload_n dX8_behind_1 rfl rfl ?_
  refine rm_callV (As := [.int (x)]) (st := []) dX8_behind_2 cvX8_142 rfl rfl (by decide) (zv_cat_i [x]) (Nat.le_of_ble_eq_true rfl) (cM_isLetter d hn (by omega) (x)) (fun v b q => ?_)
  obtain ⟨rfl, rfl⟩ := q
  show rm_V _ _ 5 [.ref 3, .int (x), .int (y)] [.int (rm_b (rm_lt (x) nl))] _ _
  refine rm_ifB_eq (tgt := 39) dX8_behind_5 (by decide) (fun h5 => ?_) (fun h5 => ?_)
  · refine rm_iconst (v := (-1 : Int32)) dX8_behind_39 (by decide) ?_
    refine rm_iret dX8_behind_40 rfl rfl ?_
    exact ⟨by unfold q_behind; rw [h5]; rw [if_neg (by simp)], rfl⟩
  · obtain ⟨x1, hx1, rfl⟩ := rm_lt_t h5 (by omega)
    refine rm_aload_n dX8_behind_8 rfl rfl ?_
    refine rm_iload_n dX8_behind_9 rfl rfl ?_
    refine rm_callV (As := [.int (y)]) (st := []) dX8_behind_10 cvX8_142 rfl rfl (by decide) (zv_cat_i [y]) (Nat.le_of_ble_eq_true rfl) (cM_isLetter d hn (by omega) (y)) (fun v b q => ?_)
    obtain ⟨rfl, rfl⟩ := q
    show rm_V _ _ 13 [.ref 3, .int (nI (x1)), .int (y)] [.int (rm_b (rm_lt (y) nl))] _ _
    refine rm_ifB_eq (tgt := 39) dX8_behind_13 (by decide) (fun h13 => ?_) (fun h13 => ?_)
    · refine rm_iconst (v := (-1 : Int32)) dX8_behind_39 (by decide) ?_
      refine rm_iret dX8_behind_40 rfl rfl ?_
      exact ⟨by unfold q_behind; rw [h5, h13]; rw [if_neg (by simp)], rfl⟩
    · obtain ⟨y1, hy1, rfl⟩ := rm_lt_t h13 (by omega)
      refine rm_aload_n dX8_behind_16 rfl rfl ?_
      refine rm_getr 22 (t := 26) dX8_behind_17 flX8_65 (by decide) rfl rfl ?_
      refine rm_sipush (v := nI (200)) dX8_behind_20 (by decide) ?_
      refine rm_iload_n dX8_behind_23 rfl rfl ?_
      refine rm_imul dX8_behind_24 ?_
      refine rm_top (pk_mul (200) (y1)) ?_
      refine rm_iload_n dX8_behind_25 rfl rfl ?_
      refine rm_iadd dX8_behind_26 ?_
      refine rm_top (nI_add (200 * y1) (x1)) ?_
      refine rm_zald (j := 200 * y1 + x1) (x := (a 26 (200 * y1 + x1))) dX8_behind_27 (rfl) (by omega) (rfl) ?_
      refine rm_if_eq (tgt := 35) dX8_behind_28 (by decide) (fun h28 => ?_) (fun h28 => ?_)
      · refine rm_iconst (v := nI (0)) dX8_behind_35 (by decide) ?_
        refine rm_goto (tgt := 40) dX8_behind_36 (by decide) ?_
        refine rm_iret dX8_behind_40 rfl rfl ?_
        exact ⟨by unfold q_behind; rw [h5, h13, if_pos (by decide), rm_nv_n (n := x1) (by omega), rm_nv_n (n := y1) (by omega), if_pos h28], rfl⟩
      · refine rm_iconst (v := nI (1)) dX8_behind_31 (by decide) ?_
        refine rm_goto (tgt := 40) dX8_behind_32 (by decide) ?_
        refine rm_iret dX8_behind_40 rfl rfl ?_
        exact ⟨by unfold q_behind; rw [h5, h13, if_pos (by decide), rm_nv_n (n := x1) (by omega), rm_nv_n (n := y1) (by omega), if_neg h28], rfl⟩
theorem cM_late_l (d : Nat) {a : zv_I} {nl m : Nat} (hn : a 3 4 = nI nl) (hnb : nl ≤ 200) (hm8 : m < 8) : ∀ n k, k + n = nl → rm_V mX8_late d 14 [.ref 3, .int (nI m), .int (nI (rm_cnt (fun k => decide (a 20 (200 * m + k) = nI 1)) k)), .int (nI k)] [] a (rm_p (nI (rm_cnt (fun k => decide (a 20 (200 * m + k) = nI 1)) nl)) a) := by
  intro n
  induction n with
  | zero =>
    intro k hk
    have hk2 : k = nl := by omega
    subst hk2
    have hcl := rm_cnt_le (fun k => decide (a 20 (200 * m + k) = nI 1)) k
    refine rm_iload_n dX8_late_14 rfl rfl ?_
    refine rm_aload_n dX8_late_15 rfl rfl ?_
    refine rm_geti 4 (x := nI (k)) dX8_late_16 flX8_89 rfl (hn) ?_
    refine rm_icN_ge (tgt := 52) dX8_late_19 (by decide) (by omega) (by omega) (fun h19 => ?_) (fun h19 => (absurd h19 (by omega)))
    refine rm_iload_n dX8_late_52 rfl rfl ?_
    refine rm_iret dX8_late_53 rfl rfl ?_
    exact ⟨rfl, rfl⟩
  | succ n ih =>
    intro k hk
    have hcl := rm_cnt_le (fun k => decide (a 20 (200 * m + k) = nI 1)) k
    refine rm_iload_n dX8_late_14 rfl rfl ?_
    refine rm_aload_n dX8_late_15 rfl rfl ?_
    refine rm_geti 4 (x := nI (nl)) dX8_late_16 flX8_89 rfl (hn) ?_
    refine rm_icN_ge (tgt := 52) dX8_late_19 (by decide) (by omega) (by omega) (fun h19 => (absurd h19 (by omega))) (fun h19 => ?_)
    refine rm_iload_n dX8_late_22 rfl rfl ?_
    refine rm_aload_n dX8_late_23 rfl rfl ?_
    refine rm_getr 16 (t := 20) dX8_late_24 flX8_46 (by decide) rfl rfl ?_
    refine rm_sipush (v := nI (200)) dX8_late_27 (by decide) ?_
    refine rm_iload_n dX8_late_30 rfl rfl ?_
    refine rm_imul dX8_late_31 ?_
    refine rm_top (pk_mul (200) (m)) ?_
    refine rm_iload_n dX8_late_32 rfl rfl ?_
    refine rm_iadd dX8_late_33 ?_
    refine rm_top (nI_add (200 * m) (k)) ?_
    refine rm_iald (f := 16) (j := 200 * m + k) (x := (a 20 (200 * m + k))) dX8_late_34 rfl (by decide) rfl rfl (rfl) (show 200 * m + k < 1600 from by omega) (rfl) ?_
    refine rm_iconst (v := nI (1)) dX8_late_35 (by decide) ?_
    refine rm_icmp_ne (tgt := 43) dX8_late_36 (by decide) (fun h36 => ?_) (fun h36 => ?_)
    · refine rm_iconst (v := nI (0)) dX8_late_43 (by decide) ?_
      refine rm_iadd dX8_late_44 ?_
      refine rm_top (nI_add (rm_cnt (fun k => decide (a 20 (200 * m + k) = nI 1)) k) (0)) ?_
      refine rm_istore_n (lv' := [.ref 3, .int (nI (m)), .int (nI (rm_cnt (fun k => decide (a 20 (200 * m + k) = nI 1)) k + 0)), .int (nI (k))]) dX8_late_45 rfl (by decide) rfl ?_
      refine rm_iinc (v := nI (k + 1)) (lv' := [.ref 3, .int (nI (m)), .int (nI (rm_cnt (fun k => decide (a 20 (200 * m + k) = nI 1)) k + 0)), .int (nI (k + 1))]) dX8_late_46 rfl (by rw [← nI_1]; rfl) (by decide) rfl ?_
      refine rm_goto (tgt := 14) dX8_late_49 (by decide) ?_
      have h9 := ih (k + 1) (by omega)
      rw [show rm_cnt (fun k => decide (a 20 (200 * m + k) = nI 1)) (k + 1) = rm_cnt (fun k => decide (a 20 (200 * m + k) = nI 1)) k + 0 from by show _ + (if ((fun k => decide (a 20 (200 * m + k) = nI 1)) k) = true then 1 else 0) = _; rw [show ((fun k => decide (a 20 (200 * m + k) = nI 1)) k) = false from decide_eq_false h36]; rfl] at h9
      exact h9
    · refine rm_iconst (v := nI (1)) dX8_late_39 (by decide) ?_
      refine rm_goto (tgt := 44) dX8_late_40 (by decide) ?_
      refine rm_iadd dX8_late_44 ?_
      refine rm_top (nI_add (rm_cnt (fun k => decide (a 20 (200 * m + k) = nI 1)) k) (1)) ?_
      refine rm_istore_n (lv' := [.ref 3, .int (nI (m)), .int (nI (rm_cnt (fun k => decide (a 20 (200 * m + k) = nI 1)) k + 1)), .int (nI (k))]) dX8_late_45 rfl (by decide) rfl ?_
      refine rm_iinc (v := nI (k + 1)) (lv' := [.ref 3, .int (nI (m)), .int (nI (rm_cnt (fun k => decide (a 20 (200 * m + k) = nI 1)) k + 1)), .int (nI (k + 1))]) dX8_late_46 rfl (by rw [← nI_1]; rfl) (by decide) rfl ?_
      refine rm_goto (tgt := 14) dX8_late_49 (by decide) ?_
      have h9 := ih (k + 1) (by omega)
      rw [show rm_cnt (fun k => decide (a 20 (200 * m + k) = nI 1)) (k + 1) = rm_cnt (fun k => decide (a 20 (200 * m + k) = nI 1)) k + 1 from by show _ + (if ((fun k => decide (a 20 (200 * m + k) = nI 1)) k) = true then 1 else 0) = _; rw [show ((fun k => decide (a 20 (200 * m + k) = nI 1)) k) = true from decide_eq_true h36]; rfl] at h9
      exact h9
theorem cM_past_l (d : Nat) {a : zv_I} {nl l : Nat} (hn : a 3 4 = nI nl) (hnb : nl ≤ 200) (hl2 : l < 200) : ∀ n k, k + n = nl → rm_V mX8_past d 14 [.ref 3, .int (nI l), .int (nI (rm_cnt (fun k => decide (¬ a 26 (200 * l + k) = 0)) k)), .int (nI k)] [] a (rm_p (nI (rm_cnt (fun k => decide (¬ a 26 (200 * l + k) = 0)) nl)) a) := by
  intro n
  induction n with
  | zero =>
    intro k hk
    have hk2 : k = nl := by omega
    subst hk2
    have hcl := rm_cnt_le (fun k => decide (¬ a 26 (200 * l + k) = 0)) k
    refine rm_iload_n dX8_past_14 rfl rfl ?_
    refine rm_aload_n dX8_past_15 rfl rfl ?_
    refine rm_geti 4 (x := nI (k)) dX8_past_16 flX8_89 rfl (hn) ?_
    refine rm_icN_ge (tgt := 51) dX8_past_19 (by decide) (by omega) (by omega) (fun h19 => ?_) (fun h19 => (absurd h19 (by omega)))
    refine rm_iload_n dX8_past_51 rfl rfl ?_
    refine rm_iret dX8_past_52 rfl rfl ?_
    exact ⟨rfl, rfl⟩
  | succ n ih =>
    intro k hk
    have hcl := rm_cnt_le (fun k => decide (¬ a 26 (200 * l + k) = 0)) k
    refine rm_iload_n dX8_past_14 rfl rfl ?_
    refine rm_aload_n dX8_past_15 rfl rfl ?_
    refine rm_geti 4 (x := nI (nl)) dX8_past_16 flX8_89 rfl (hn) ?_
    refine rm_icN_ge (tgt := 51) dX8_past_19 (by decide) (by omega) (by omega) (fun h19 => (absurd h19 (by omega))) (fun h19 => ?_)
    refine rm_iload_n dX8_past_22 rfl rfl ?_
    refine rm_aload_n dX8_past_23 rfl rfl ?_
    refine rm_getr 22 (t := 26) dX8_past_24 flX8_65 (by decide) rfl rfl ?_
    refine rm_sipush (v := nI (200)) dX8_past_27 (by decide) ?_
    refine rm_iload_n dX8_past_30 rfl rfl ?_
    refine rm_imul dX8_past_31 ?_
    refine rm_top (pk_mul (200) (l)) ?_
    refine rm_iload_n dX8_past_32 rfl rfl ?_
    refine rm_iadd dX8_past_33 ?_
    refine rm_top (nI_add (200 * l) (k)) ?_
    refine rm_zald (j := 200 * l + k) (x := (a 26 (200 * l + k))) dX8_past_34 (rfl) (by omega) (rfl) ?_
    refine rm_if_eq (tgt := 42) dX8_past_35 (by decide) (fun h35 => ?_) (fun h35 => ?_)
    · refine rm_iconst (v := nI (0)) dX8_past_42 (by decide) ?_
      refine rm_iadd dX8_past_43 ?_
      refine rm_top (nI_add (rm_cnt (fun k => decide (¬ a 26 (200 * l + k) = 0)) k) (0)) ?_
      refine rm_istore_n (lv' := [.ref 3, .int (nI (l)), .int (nI (rm_cnt (fun k => decide (¬ a 26 (200 * l + k) = 0)) k + 0)), .int (nI (k))]) dX8_past_44 rfl (by decide) rfl ?_
      refine rm_iinc (v := nI (k + 1)) (lv' := [.ref 3, .int (nI (l)), .int (nI (rm_cnt (fun k => decide (¬ a 26 (200 * l + k) = 0)) k + 0)), .int (nI (k + 1))]) dX8_past_45 rfl (by rw [← nI_1]; rfl) (by decide) rfl ?_
      refine rm_goto (tgt := 14) dX8_past_48 (by decide) ?_
      have h9 := ih (k + 1) (by omega)
      rw [show rm_cnt (fun k => decide (¬ a 26 (200 * l + k) = 0)) (k + 1) = rm_cnt (fun k => decide (¬ a 26 (200 * l + k) = 0)) k + 0 from by show _ + (if ((fun k => decide (¬ a 26 (200 * l + k) = 0)) k) = true then 1 else 0) = _; rw [show ((fun k => decide (¬ a 26 (200 * l + k) = 0)) k) = false from decide_eq_false (fun q => q h35)]; rfl] at h9
      exact h9
    · refine rm_iconst (v := nI (1)) dX8_past_38 (by decide) ?_
      refine rm_goto (tgt := 43) dX8_past_39 (by decide) ?_
      refine rm_iadd dX8_past_43 ?_
      refine rm_top (nI_add (rm_cnt (fun k => decide (¬ a 26 (200 * l + k) = 0)) k) (1)) ?_
      refine rm_istore_n (lv' := [.ref 3, .int (nI (l)), .int (nI (rm_cnt (fun k => decide (¬ a 26 (200 * l + k) = 0)) k + 1)), .int (nI (k))]) dX8_past_44 rfl (by decide) rfl ?_
      refine rm_iinc (v := nI (k + 1)) (lv' := [.ref 3, .int (nI (l)), .int (nI (rm_cnt (fun k => decide (¬ a 26 (200 * l + k) = 0)) k + 1)), .int (nI (k + 1))]) dX8_past_45 rfl (by rw [← nI_1]; rfl) (by decide) rfl ?_
      refine rm_goto (tgt := 14) dX8_past_48 (by decide) ?_
      have h9 := ih (k + 1) (by omega)
      rw [show rm_cnt (fun k => decide (¬ a 26 (200 * l + k) = 0)) (k + 1) = rm_cnt (fun k => decide (¬ a 26 (200 * l + k) = 0)) k + 1 from by show _ + (if ((fun k => decide (¬ a 26 (200 * l + k) = 0)) k) = true then 1 else 0) = _; rw [show ((fun k => decide (¬ a 26 (200 * l + k) = 0)) k) = true from decide_eq_true h35]; rfl] at h9
      exact h9
def q_late (a : zv_I) (nm nl : Nat) (m : Int32) : Int32 := if rm_lt m nm = true then nI (rm_cnt (fun k => decide (a 20 (200 * rm_nv m + k) = nI 1)) nl) else -1
theorem cM_late (d : Nat) {a : zv_I} {nm nl : Nat} (hm : a 3 0 = nI nm) (hmb : nm ≤ 8) (hn : a 3 4 = nI nl) (hnb : nl ≤ 200) (m : Int32) : rm_V mX8_late (d + 2) 0 [.ref 3, .int m] [] a (rm_p (q_late a nm nl m) a) := by
  refine rm_aload_n dX8_late_0 rfl rfl ?_
  refine rm_iload_n dX8_late_1 rfl rfl ?_
  refine rm_callV (As := [.int (m)]) (st := []) dX8_late_2 cvX8_113 rfl rfl (by decide) (zv_cat_i [m]) (Nat.le_of_ble_eq_true rfl) (cM_isMember d hm (by omega) (m)) (fun v b q => ?_)
  obtain ⟨rfl, rfl⟩ := q
  show rm_V _ _ 5 [.ref 3, .int (m)] [.int (rm_b (rm_lt (m) nm))] _ _
  refine rm_ifB_ne (tgt := 10) dX8_late_5 (by decide) (fun h5 => ?_) (fun h5 => ?_)
  · obtain ⟨m1, hm1, rfl⟩ := rm_lt_t h5 (by omega)
    refine rm_iconst (v := nI (0)) dX8_late_10 (by decide) ?_
    refine rm_istore_n (lv' := [.ref 3, .int (nI (m1)), .int (nI (0))]) dX8_late_11 rfl (by decide) rfl ?_
    refine rm_iconst (v := nI (0)) dX8_late_12 (by decide) ?_
    refine rm_istore_n (lv' := [.ref 3, .int (nI (m1)), .int (nI (0)), .int (nI (0))]) dX8_late_13 rfl (by decide) rfl ?_
    unfold q_late
    rw [h5, if_pos rfl, rm_nv_n (n := m1) (by omega)]
    exact cM_late_l (d + 2) hn hnb (by omega) nl 0 (by omega)
  · refine rm_iconst (v := (-1 : Int32)) dX8_late_8 (by decide) ?_
    refine rm_iret dX8_late_9 rfl rfl ?_
    exact ⟨by unfold q_late; rw [h5]; rfl, rfl⟩
def q_past (a : zv_I) (nl : Nat) (l : Int32) : Int32 := if rm_lt l nl = true then nI (rm_cnt (fun k => decide (¬ a 26 (200 * rm_nv l + k) = 0)) nl) else -1
theorem cM_past (d : Nat) {a : zv_I} {nl : Nat} (hn : a 3 4 = nI nl) (hnb : nl ≤ 200) (l : Int32) : rm_V mX8_past (d + 2) 0 [.ref 3, .int l] [] a (rm_p (q_past a nl l) a) := by
  refine rm_aload_n dX8_past_0 rfl rfl ?_
  refine rm_iload_n dX8_past_1 rfl rfl ?_
  refine rm_callV (As := [.int (l)]) (st := []) dX8_past_2 cvX8_142 rfl rfl (by decide) (zv_cat_i [l]) (Nat.le_of_ble_eq_true rfl) (cM_isLetter d hn (by omega) (l)) (fun v b q => ?_)
  obtain ⟨rfl, rfl⟩ := q
  show rm_V _ _ 5 [.ref 3, .int (l)] [.int (rm_b (rm_lt (l) nl))] _ _
  refine rm_ifB_ne (tgt := 10) dX8_past_5 (by decide) (fun h5 => ?_) (fun h5 => ?_)
  · obtain ⟨l1, hl1, rfl⟩ := rm_lt_t h5 (by omega)
    refine rm_iconst (v := nI (0)) dX8_past_10 (by decide) ?_
    refine rm_istore_n (lv' := [.ref 3, .int (nI (l1)), .int (nI (0))]) dX8_past_11 rfl (by decide) rfl ?_
    refine rm_iconst (v := nI (0)) dX8_past_12 (by decide) ?_
    refine rm_istore_n (lv' := [.ref 3, .int (nI (l1)), .int (nI (0)), .int (nI (0))]) dX8_past_13 rfl (by decide) rfl ?_
    unfold q_past
    rw [h5, if_pos rfl, rm_nv_n (n := l1) (by omega)]
    exact cM_past_l (d + 2) hn hnb (by omega) nl 0 (by omega)
  · refine rm_iconst (v := (-1 : Int32)) dX8_past_8 (by decide) ?_
    refine rm_iret dX8_past_9 rfl rfl ?_
    exact ⟨by unfold q_past; rw [h5]; rfl, rfl⟩
def q_count (a : zv_I) (x : Int32) : Int32 := if x = 0 then a 3 0 else if x = nI 1 then a 3 1 else if x = nI 2 then a 3 4 else if x = nI 3 then a 3 26 else -1
theorem cM_count (d : Nat) (a : zv_I) (x : Int32) : rm_V mX8_count d 0 [.ref 3, .int x] [] a (rm_p (q_count a x) a) := by
  refine rm_iload_n dX8_count_0 rfl rfl ?_
  refine rm_if_ne (tgt := 11) dX8_count_1 (by decide) (fun h1 => ?_) (fun h1 => ?_)
  · refine rm_iload_n dX8_count_11 rfl rfl ?_
    refine rm_iconst (v := nI (1)) dX8_count_12 (by decide) ?_
    refine rm_icmp_ne (tgt := 23) dX8_count_13 (by decide) (fun h13 => ?_) (fun h13 => ?_)
    · refine rm_iload_n dX8_count_23 rfl rfl ?_
      refine rm_iconst (v := nI (2)) dX8_count_24 (by decide) ?_
      refine rm_icmp_ne (tgt := 35) dX8_count_25 (by decide) (fun h25 => ?_) (fun h25 => ?_)
      · refine rm_iload_n dX8_count_35 rfl rfl ?_
        refine rm_iconst (v := nI (3)) dX8_count_36 (by decide) ?_
        refine rm_icmp_ne (tgt := 47) dX8_count_37 (by decide) (fun h37 => ?_) (fun h37 => ?_)
        · refine rm_iconst (v := (-1 : Int32)) dX8_count_47 (by decide) ?_
          refine rm_iret dX8_count_48 rfl rfl ?_
          exact ⟨by unfold q_count; rw [if_neg h1, if_neg h13, if_neg h25, if_neg h37], rfl⟩
        · refine rm_aload_n dX8_count_40 rfl rfl ?_
          refine rm_geti 26 (x := (a 3 26)) dX8_count_41 flX8_176 rfl (rfl) ?_
          refine rm_goto (tgt := 48) dX8_count_44 (by decide) ?_
          refine rm_iret dX8_count_48 rfl rfl ?_
          exact ⟨by unfold q_count; rw [if_neg h1, if_neg h13, if_neg h25, if_pos h37], rfl⟩
      · refine rm_aload_n dX8_count_28 rfl rfl ?_
        refine rm_geti 4 (x := (a 3 4)) dX8_count_29 flX8_89 rfl (rfl) ?_
        refine rm_goto (tgt := 48) dX8_count_32 (by decide) ?_
        refine rm_iret dX8_count_48 rfl rfl ?_
        exact ⟨by unfold q_count; rw [if_neg h1, if_neg h13, if_pos h25], rfl⟩
    · refine rm_aload_n dX8_count_16 rfl rfl ?_
      refine rm_geti 1 (x := (a 3 1)) dX8_count_17 flX8_86 rfl (rfl) ?_
      refine rm_goto (tgt := 48) dX8_count_20 (by decide) ?_
      refine rm_iret dX8_count_48 rfl rfl ?_
      exact ⟨by unfold q_count; rw [if_neg h1, if_pos h13], rfl⟩
  · refine rm_aload_n dX8_count_4 rfl rfl ?_
    refine rm_geti 0 (x := (a 3 0)) dX8_count_5 flX8_78 rfl (rfl) ?_
    refine rm_goto (tgt := 48) dX8_count_8 (by decide) ?_
    refine rm_iret dX8_count_48 rfl rfl ?_
    exact ⟨by unfold q_count; rw [if_pos h1], rfl⟩
