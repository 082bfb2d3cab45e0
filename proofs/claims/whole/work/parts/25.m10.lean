theorem rm_lt_out {x : Int32} {n : Nat} (h : rm_lt x n = false) : x.toInt < 0 ∨ ((n : Int) - 1) < x.toInt := by
  simp only [rm_lt, decide_eq_false_iff_not] at h
  omega
theorem cM_write (d : Nat) {a : zv_I} {m c k : Int32} {X : Int32} {b : zv_I} (h : rm_V mX8_call (d + 1) 0 [.ref 3, .int k, .int m, .int c, .int (-1 : Int32), .int (rm_b (decide (k = 0 ∨ k = nI 4 ∨ k = nI 5)))] [] a (rm_p X b)) : rm_V mX8_write (d + 2) 0 [.ref 3, .int m, .int c, .int k] [] a (rm_p X b) := by
  refine rm_aload_n dX8_write_0 rfl rfl ?_
  refine rm_iload_n dX8_write_1 rfl rfl ?_
  refine rm_iload_n dX8_write_2 rfl rfl ?_
  refine rm_iload_n dX8_write_3 rfl rfl ?_
  refine rm_iconst (v := (-1 : Int32)) dX8_write_4 (by decide) ?_
  refine rm_iload_n dX8_write_5 rfl rfl ?_
  refine rm_if_eq (tgt := 19) dX8_write_6 (by decide) (fun h6 => ?_) (fun h6 => ?_)
  · refine rm_iconst (v := nI (1)) dX8_write_19 (by decide) ?_
    refine rm_goto (tgt := 24) dX8_write_20 (by decide) ?_
    refine rm_callV (As := [.int (k), .int (m), .int (c), .int ((-1 : Int32)), .int (nI (1))]) (st := []) dX8_write_24 cvX8_138 rfl rfl (by decide) (zv_cat_i [k, m, c, (-1 : Int32), nI (1)]) (Nat.le_of_ble_eq_true rfl) ((show rm_V mX8_call (d + 1) 0 [.ref 3, .int (k), .int (m), .int (c), .int ((-1 : Int32)), .int (nI (1))] [] a (rm_p X b) from by rw [show decide (k = 0 ∨ k = nI 4 ∨ k = nI 5) = true from decide_eq_true (Or.inl h6)] at h; exact h)) (fun v b q => ?_)
    obtain ⟨rfl, rfl⟩ := q
    show rm_V _ _ 27 [.ref 3, .int (m), .int (c), .int (k)] [.int (X)] _ _
    refine rm_iret dX8_write_27 rfl rfl ?_
    exact ⟨rfl, rfl⟩
  · refine rm_iload_n dX8_write_9 rfl rfl ?_
    refine rm_iconst (v := nI (4)) dX8_write_10 (by decide) ?_
    refine rm_icmp_eq (tgt := 19) dX8_write_11 (by decide) (fun h11 => ?_) (fun h11 => ?_)
    · refine rm_iconst (v := nI (1)) dX8_write_19 (by decide) ?_
      refine rm_goto (tgt := 24) dX8_write_20 (by decide) ?_
      refine rm_callV (As := [.int (k), .int (m), .int (c), .int ((-1 : Int32)), .int (nI (1))]) (st := []) dX8_write_24 cvX8_138 rfl rfl (by decide) (zv_cat_i [k, m, c, (-1 : Int32), nI (1)]) (Nat.le_of_ble_eq_true rfl) ((show rm_V mX8_call (d + 1) 0 [.ref 3, .int (k), .int (m), .int (c), .int ((-1 : Int32)), .int (nI (1))] [] a (rm_p X b) from by rw [show decide (k = 0 ∨ k = nI 4 ∨ k = nI 5) = true from decide_eq_true (Or.inr (Or.inl h11))] at h; exact h)) (fun v b q => ?_)
      obtain ⟨rfl, rfl⟩ := q
      show rm_V _ _ 27 [.ref 3, .int (m), .int (c), .int (k)] [.int (X)] _ _
      refine rm_iret dX8_write_27 rfl rfl ?_
      exact ⟨rfl, rfl⟩
    · refine rm_iload_n dX8_write_14 rfl rfl ?_
      refine rm_iconst (v := nI (5)) dX8_write_15 (by decide) ?_
      refine rm_icmp_ne (tgt := 23) dX8_write_16 (by decide) (fun h16 => ?_) (fun h16 => ?_)
      · refine rm_iconst (v := nI (0)) dX8_write_23 (by decide) ?_
        refine rm_callV (As := [.int (k), .int (m), .int (c), .int ((-1 : Int32)), .int (nI (0))]) (st := []) dX8_write_24 cvX8_138 rfl rfl (by decide) (zv_cat_i [k, m, c, (-1 : Int32), nI (0)]) (Nat.le_of_ble_eq_true rfl) ((show rm_V mX8_call (d + 1) 0 [.ref 3, .int (k), .int (m), .int (c), .int ((-1 : Int32)), .int (nI (0))] [] a (rm_p X b) from by rw [show decide (k = 0 ∨ k = nI 4 ∨ k = nI 5) = false from decide_eq_false (fun q => q.elim h6 (fun q => q.elim h11 h16))] at h; exact h)) (fun v b q => ?_)
        obtain ⟨rfl, rfl⟩ := q
        show rm_V _ _ 27 [.ref 3, .int (m), .int (c), .int (k)] [.int (X)] _ _
        refine rm_iret dX8_write_27 rfl rfl ?_
        exact ⟨rfl, rfl⟩
      · refine rm_iconst (v := nI (1)) dX8_write_19 (by decide) ?_
        refine rm_goto (tgt := 24) dX8_write_20 (by decide) ?_
        refine rm_callV (As := [.int (k), .int (m), .int (c), .int ((-1 : Int32)), .int (nI (1))]) (st := []) dX8_write_24 cvX8_138 rfl rfl (by decide) (zv_cat_i [k, m, c, (-1 : Int32), nI (1)]) (Nat.le_of_ble_eq_true rfl) ((show rm_V mX8_call (d + 1) 0 [.ref 3, .int (k), .int (m), .int (c), .int ((-1 : Int32)), .int (nI (1))] [] a (rm_p X b) from by rw [show decide (k = 0 ∨ k = nI 4 ∨ k = nI 5) = true from decide_eq_true (Or.inr (Or.inr h16))] at h; exact h)) (fun v b q => ?_)
        obtain ⟨rfl, rfl⟩ := q
        show rm_V _ _ 27 [.ref 3, .int (m), .int (c), .int (k)] [.int (X)] _ _
        refine rm_iret dX8_write_27 rfl rfl ?_
        exact ⟨rfl, rfl⟩
theorem cM_reply (d : Nat) {a : zv_I} {nl : Nat} (hn : a 3 4 = nI nl) (hnb : nl ≤ 200) {m c l : Int32} {X : Int32} {b : zv_I} (h : rm_V mX8_call (d + 1) 0 [.ref 3, .int (nI 1), .int m, .int c, .int l, .int (rm_b (rm_lt l nl))] [] a (rm_p X b)) : rm_V mX8_reply (d + 2) 0 [.ref 3, .int m, .int c, .int l] [] a (rm_p X b) := by
  refine rm_aload_n dX8_reply_0 rfl rfl ?_
  refine rm_iconst (v := nI (1)) dX8_reply_1 (by decide) ?_
  refine rm_iload_n dX8_reply_2 rfl rfl ?_
  refine rm_iload_n dX8_reply_3 rfl rfl ?_
  refine rm_iload_n dX8_reply_4 rfl rfl ?_
  refine rm_aload_n dX8_reply_5 rfl rfl ?_
  refine rm_iload_n dX8_reply_6 rfl rfl ?_
  refine rm_callV (As := [.int (l)]) (st := [.int (l), .int (c), .int (m), .int (nI (1)), .ref 3]) dX8_reply_7 cvX8_142 rfl rfl (by decide) (zv_cat_i [l]) (Nat.le_of_ble_eq_true rfl) (cM_isLetter d hn (by omega) (l)) (fun v b q => ?_)
  obtain ⟨rfl, rfl⟩ := q
  show rm_V _ _ 10 [.ref 3, .int (m), .int (c), .int (l)] [.int (rm_b (rm_lt (l) nl)), .int (l), .int (c), .int (m), .int (nI (1)), .ref 3] _ _
  refine rm_callV (As := [.int (nI (1)), .int (m), .int (c), .int (l), .int (rm_b (rm_lt (l) nl))]) (st := []) dX8_reply_10 cvX8_138 rfl rfl (by decide) (zv_cat_i [nI (1), m, c, l, rm_b (rm_lt (l) nl)]) (Nat.le_of_ble_eq_true rfl) (h) (fun v b q => ?_)
  obtain ⟨rfl, rfl⟩ := q
  show rm_V _ _ 13 [.ref 3, .int (m), .int (c), .int (l)] [.int (X)] _ _
  refine rm_iret dX8_reply_13 rfl rfl ?_
  exact ⟨rfl, rfl⟩
theorem cM_seal (d : Nat) {a : zv_I} {nl : Nat} (hn : a 3 4 = nI nl) (hnb : nl ≤ 200) {m c l : Int32} {X : Int32} {b : zv_I} (h : rm_V mX8_call (d + 1) 0 [.ref 3, .int (nI 2), .int m, .int c, .int l, .int (rm_b (decide (l = -1) || rm_lt l nl))] [] a (rm_p X b)) : rm_V mX8_seal (d + 2) 0 [.ref 3, .int m, .int c, .int l] [] a (rm_p X b) := by
  refine rm_aload_n dX8_seal_0 rfl rfl ?_
  refine rm_iconst (v := nI (2)) dX8_seal_1 (by decide) ?_
  refine rm_iload_n dX8_seal_2 rfl rfl ?_
  refine rm_iload_n dX8_seal_3 rfl rfl ?_
  refine rm_iload_n dX8_seal_4 rfl rfl ?_
  refine rm_iload_n dX8_seal_5 rfl rfl ?_
  refine rm_iconst (v := (-1 : Int32)) dX8_seal_6 (by decide) ?_
  refine rm_icmp_eq (tgt := 18) dX8_seal_7 (by decide) (fun h7 => ?_) (fun h7 => ?_)
  · refine rm_iconst (v := nI (1)) dX8_seal_18 (by decide) ?_
    refine rm_goto (tgt := 23) dX8_seal_19 (by decide) ?_
    refine rm_callV (As := [.int (nI (2)), .int (m), .int (c), .int (l), .int (nI (1))]) (st := []) dX8_seal_23 cvX8_138 rfl rfl (by decide) (zv_cat_i [nI (2), m, c, l, nI (1)]) (Nat.le_of_ble_eq_true rfl) ((show rm_V mX8_call (d + 1) 0 [.ref 3, .int (nI (2)), .int (m), .int (c), .int (l), .int (nI (1))] [] a (rm_p X b) from by rw [show (decide (l = -1) || rm_lt l nl) = true from by rw [decide_eq_true h7]; rfl] at h; exact h)) (fun v b q => ?_)
    obtain ⟨rfl, rfl⟩ := q
    show rm_V _ _ 26 [.ref 3, .int (m), .int (c), .int (l)] [.int (X)] _ _
    refine rm_iret dX8_seal_26 rfl rfl ?_
    exact ⟨rfl, rfl⟩
  · refine rm_aload_n dX8_seal_10 rfl rfl ?_
    refine rm_iload_n dX8_seal_11 rfl rfl ?_
    refine rm_callV (As := [.int (l)]) (st := [.int (l), .int (c), .int (m), .int (nI (2)), .ref 3]) dX8_seal_12 cvX8_142 rfl rfl (by decide) (zv_cat_i [l]) (Nat.le_of_ble_eq_true rfl) (cM_isLetter d hn (by omega) (l)) (fun v b q => ?_)
    obtain ⟨rfl, rfl⟩ := q
    show rm_V _ _ 15 [.ref 3, .int (m), .int (c), .int (l)] [.int (rm_b (rm_lt (l) nl)), .int (l), .int (c), .int (m), .int (nI (2)), .ref 3] _ _
    refine rm_ifB_eq (tgt := 22) dX8_seal_15 (by decide) (fun h15 => ?_) (fun h15 => ?_)
    · refine rm_iconst (v := nI (0)) dX8_seal_22 (by decide) ?_
      refine rm_callV (As := [.int (nI (2)), .int (m), .int (c), .int (l), .int (nI (0))]) (st := []) dX8_seal_23 cvX8_138 rfl rfl (by decide) (zv_cat_i [nI (2), m, c, l, nI (0)]) (Nat.le_of_ble_eq_true rfl) ((show rm_V mX8_call (d + 1) 0 [.ref 3, .int (nI (2)), .int (m), .int (c), .int (l), .int (nI (0))] [] a (rm_p X b) from by rw [show (decide (l = -1) || rm_lt l nl) = false from by rw [decide_eq_false h7, h15]; rfl] at h; exact h)) (fun v b q => ?_)
      obtain ⟨rfl, rfl⟩ := q
      show rm_V _ _ 26 [.ref 3, .int (m), .int (c), .int (l)] [.int (X)] _ _
      refine rm_iret dX8_seal_26 rfl rfl ?_
      exact ⟨rfl, rfl⟩
    · refine rm_iconst (v := nI (1)) dX8_seal_18 (by decide) ?_
      refine rm_goto (tgt := 23) dX8_seal_19 (by decide) ?_
      refine rm_callV (As := [.int (nI (2)), .int (m), .int (c), .int (l), .int (nI (1))]) (st := []) dX8_seal_23 cvX8_138 rfl rfl (by decide) (zv_cat_i [nI (2), m, c, l, nI (1)]) (Nat.le_of_ble_eq_true rfl) ((show rm_V mX8_call (d + 1) 0 [.ref 3, .int (nI (2)), .int (m), .int (c), .int (l), .int (nI (1))] [] a (rm_p X b) from by rw [show (decide (l = -1) || rm_lt l nl) = true from by rw [h15]; exact Bool.or_true _] at h; exact h)) (fun v b q => ?_)
      obtain ⟨rfl, rfl⟩ := q
      show rm_V _ _ 26 [.ref 3, .int (m), .int (c), .int (l)] [.int (X)] _ _
      refine rm_iret dX8_seal_26 rfl rfl ?_
      exact ⟨rfl, rfl⟩
theorem cM_deliver_1 (d : Nat) {a : zv_I} {nm nl : Nat} (hm : a 3 0 = nI nm) (hmb : nm ≤ 8) (hn : a 3 4 = nI nl) (hnb : nl ≤ 200) {l m : Int32} (hbad : (rm_lt l nl && rm_lt m nm) = false) : rm_V mX8_deliver (d + 2) 0 [.ref 3, .int l, .int m] [] a (rm_p (-1 : Int32) (zv_u a 3 24 (nI 1))) := by
  refine rm_aload_n dX8_deliver_0 rfl rfl ?_
  refine rm_iload_n dX8_deliver_1 rfl rfl ?_
  refine rm_callV (As := [.int (l)]) (st := []) dX8_deliver_2 cvX8_142 rfl rfl (by decide) (zv_cat_i [l]) (Nat.le_of_ble_eq_true rfl) (cM_isLetter d hn (by omega) (l)) (fun v b q => ?_)
  obtain ⟨rfl, rfl⟩ := q
  show rm_V _ _ 5 [.ref 3, .int (l), .int (m)] [.int (rm_b (rm_lt (l) nl))] _ _
  refine rm_ifB_eq (tgt := 16) dX8_deliver_5 (by decide) (fun h5 => ?_) (fun h5 => ?_)
  · refine rm_aload_n dX8_deliver_16 rfl rfl ?_
    refine rm_iconst (v := nI (1)) dX8_deliver_17 (by decide) ?_
    refine rm_callV (As := [.int (nI (1))]) (st := []) dX8_deliver_18 cvX8_103 rfl rfl (by decide) (zv_cat_i [nI (1)]) (Nat.le_of_ble_eq_true rfl) (cM_refused (d + 1) (a) (nI (1))) (fun v b q => ?_)
    obtain ⟨rfl, rfl⟩ := q
    show rm_V _ _ 21 [.ref 3, .int (l), .int (m)] [.int ((-1 : Int32))] _ _
    refine rm_iret dX8_deliver_21 rfl rfl ?_
    exact ⟨rfl, rfl⟩
  · refine rm_aload_n dX8_deliver_8 rfl rfl ?_
    refine rm_iload_n dX8_deliver_9 rfl rfl ?_
    refine rm_callV (As := [.int (m)]) (st := []) dX8_deliver_10 cvX8_113 rfl rfl (by decide) (zv_cat_i [m]) (Nat.le_of_ble_eq_true rfl) (cM_isMember d hm (by omega) (m)) (fun v b q => ?_)
    obtain ⟨rfl, rfl⟩ := q
    show rm_V _ _ 13 [.ref 3, .int (l), .int (m)] [.int (rm_b (rm_lt (m) nm))] _ _
    refine rm_ifB_ne (tgt := 22) dX8_deliver_13 (by decide) (fun h13 => ?_) (fun h13 => ?_)
    · rw [h5, h13] at hbad
      cases hbad
    · refine rm_aload_n dX8_deliver_16 rfl rfl ?_
      refine rm_iconst (v := nI (1)) dX8_deliver_17 (by decide) ?_
      refine rm_callV (As := [.int (nI (1))]) (st := []) dX8_deliver_18 cvX8_103 rfl rfl (by decide) (zv_cat_i [nI (1)]) (Nat.le_of_ble_eq_true rfl) (cM_refused (d + 1) (a) (nI (1))) (fun v b q => ?_)
      obtain ⟨rfl, rfl⟩ := q
      show rm_V _ _ 21 [.ref 3, .int (l), .int (m)] [.int ((-1 : Int32))] _ _
      refine rm_iret dX8_deliver_21 rfl rfl ?_
      exact ⟨rfl, rfl⟩
theorem cM_deliver_3 (d : Nat) {a : zv_I} {nm nl l m : Nat} (hm : a 3 0 = nI nm) (hmb : nm ≤ 8) (hn : a 3 4 = nI nl) (hnb : nl ≤ 200) (hl : l < nl) (hmm : m < nm) (hs : ¬ a 20 (200 * m + l) = nI 1) : rm_V mX8_deliver (d + 2) 0 [.ref 3, .int (nI l), .int (nI m)] [] a (rm_p (-1 : Int32) (zv_u a 3 24 (nI 3))) := by
  refine rm_aload_n dX8_deliver_0 rfl rfl ?_
  refine rm_iload_n dX8_deliver_1 rfl rfl ?_
  refine rm_callV (As := [.int (nI (l))]) (st := []) dX8_deliver_2 cvX8_142 rfl rfl (by decide) (zv_cat_i [nI (l)]) (Nat.le_of_ble_eq_true rfl) (cM_isLetter d hn (by omega) (nI (l))) (fun v b q => ?_)
  obtain ⟨rfl, rfl⟩ := q
  show rm_V _ _ 5 [.ref 3, .int (nI (l)), .int (nI (m))] [.int (rm_b (rm_lt (nI (l)) nl))] _ _
  refine rm_ifB_eq (tgt := 16) dX8_deliver_5 (by decide) (fun h5 => (absurd h5 (by rw [rm_lt_n (by omega), decide_eq_true hl]; decide))) (fun h5 => ?_)
  refine rm_aload_n dX8_deliver_8 rfl rfl ?_
  refine rm_iload_n dX8_deliver_9 rfl rfl ?_
  refine rm_callV (As := [.int (nI (m))]) (st := []) dX8_deliver_10 cvX8_113 rfl rfl (by decide) (zv_cat_i [nI (m)]) (Nat.le_of_ble_eq_true rfl) (cM_isMember d hm (by omega) (nI (m))) (fun v b q => ?_)
  obtain ⟨rfl, rfl⟩ := q
  show rm_V _ _ 13 [.ref 3, .int (nI (l)), .int (nI (m))] [.int (rm_b (rm_lt (nI (m)) nm))] _ _
  refine rm_ifB_ne (tgt := 22) dX8_deliver_13 (by decide) (fun h13 => ?_) (fun h13 => (absurd h13 (by rw [rm_lt_n (by omega), decide_eq_true hmm]; decide)))
  refine rm_aload_n dX8_deliver_22 rfl rfl ?_
  refine rm_getr 16 (t := 20) dX8_deliver_23 flX8_46 (by decide) rfl rfl ?_
  refine rm_sipush (v := nI (200)) dX8_deliver_26 (by decide) ?_
  refine rm_iload_n dX8_deliver_29 rfl rfl ?_
  refine rm_imul dX8_deliver_30 ?_
  refine rm_top (pk_mul (200) (m)) ?_
  refine rm_iload_n dX8_deliver_31 rfl rfl ?_
  refine rm_iadd dX8_deliver_32 ?_
  refine rm_top (nI_add (200 * m) (l)) ?_
  refine rm_iald (f := 16) (j := 200 * m + l) (x := (a 20 (200 * m + l))) dX8_deliver_33 rfl (by decide) rfl rfl (rfl) (show 200 * m + l < 1600 from by omega) (rfl) ?_
  refine rm_iconst (v := nI (1)) dX8_deliver_34 (by decide) ?_
  refine rm_icmp_eq (tgt := 44) dX8_deliver_35 (by decide) (fun h35 => (absurd h35 hs)) (fun h35 => ?_)
  refine rm_aload_n dX8_deliver_38 rfl rfl ?_
  refine rm_iconst (v := nI (3)) dX8_deliver_39 (by decide) ?_
  refine rm_callV (As := [.int (nI (3))]) (st := []) dX8_deliver_40 cvX8_103 rfl rfl (by decide) (zv_cat_i [nI (3)]) (Nat.le_of_ble_eq_true rfl) (cM_refused (d + 1) (a) (nI (3))) (fun v b q => ?_)
  obtain ⟨rfl, rfl⟩ := q
  show rm_V _ _ 43 [.ref 3, .int (nI (l)), .int (nI (m))] [.int ((-1 : Int32))] _ _
  refine rm_iret dX8_deliver_43 rfl rfl ?_
  exact ⟨rfl, rfl⟩
theorem cM_deliver_0 (d : Nat) {a : zv_I} {nm nl l m : Nat} (hm : a 3 0 = nI nm) (hmb : nm ≤ 8) (hn : a 3 4 = nI nl) (hnb : nl ≤ 200) (hl : l < nl) (hmm : m < nm) (hs : a 20 (200 * m + l) = nI 1) {P : zv_I → Prop} (hP : rm_stay P m) {f : Nat} (hf : f < 2 ^ 31) (hPa : P (rm_hld a m l)) (ht : rm_gvt m f (rm_hld a m l) = true) : rm_V mX8_deliver (d + 7) 0 [.ref 3, .int (nI l), .int (nI m)] [] a (rm_p (nI (rm_gvs m f (rm_hld a m l) 0).2) (zv_u (rm_gvs m f (rm_hld a m l) 0).1 3 24 (nI 0))) := by
  refine rm_aload_n dX8_deliver_0 rfl rfl ?_
  refine rm_iload_n dX8_deliver_1 rfl rfl ?_
  refine rm_callV (As := [.int (nI (l))]) (st := []) dX8_deliver_2 cvX8_142 rfl rfl (by decide) (zv_cat_i [nI (l)]) (Nat.le_of_ble_eq_true rfl) (cM_isLetter (d + 5) hn (by omega) (nI (l))) (fun v b q => ?_)
  obtain ⟨rfl, rfl⟩ := q
  show rm_V _ _ 5 [.ref 3, .int (nI (l)), .int (nI (m))] [.int (rm_b (rm_lt (nI (l)) nl))] _ _
  refine rm_ifB_eq (tgt := 16) dX8_deliver_5 (by decide) (fun h5 => (absurd h5 (by rw [rm_lt_n (by omega), decide_eq_true hl]; decide))) (fun h5 => ?_)
  refine rm_aload_n dX8_deliver_8 rfl rfl ?_
  refine rm_iload_n dX8_deliver_9 rfl rfl ?_
  refine rm_callV (As := [.int (nI (m))]) (st := []) dX8_deliver_10 cvX8_113 rfl rfl (by decide) (zv_cat_i [nI (m)]) (Nat.le_of_ble_eq_true rfl) (cM_isMember (d + 5) hm (by omega) (nI (m))) (fun v b q => ?_)
  obtain ⟨rfl, rfl⟩ := q
  show rm_V _ _ 13 [.ref 3, .int (nI (l)), .int (nI (m))] [.int (rm_b (rm_lt (nI (m)) nm))] _ _
  refine rm_ifB_ne (tgt := 22) dX8_deliver_13 (by decide) (fun h13 => ?_) (fun h13 => (absurd h13 (by rw [rm_lt_n (by omega), decide_eq_true hmm]; decide)))
  refine rm_aload_n dX8_deliver_22 rfl rfl ?_
  refine rm_getr 16 (t := 20) dX8_deliver_23 flX8_46 (by decide) rfl rfl ?_
  refine rm_sipush (v := nI (200)) dX8_deliver_26 (by decide) ?_
  refine rm_iload_n dX8_deliver_29 rfl rfl ?_
  refine rm_imul dX8_deliver_30 ?_
  refine rm_top (pk_mul (200) (m)) ?_
  refine rm_iload_n dX8_deliver_31 rfl rfl ?_
  refine rm_iadd dX8_deliver_32 ?_
  refine rm_top (nI_add (200 * m) (l)) ?_
  refine rm_iald (f := 16) (j := 200 * m + l) (x := (a 20 (200 * m + l))) dX8_deliver_33 rfl (by decide) rfl rfl (rfl) (show 200 * m + l < 1600 from by omega) (rfl) ?_
  refine rm_iconst (v := nI (1)) dX8_deliver_34 (by decide) ?_
  refine rm_icmp_eq (tgt := 44) dX8_deliver_35 (by decide) (fun h35 => ?_) (fun h35 => (absurd hs h35))
  refine rm_aload_n dX8_deliver_44 rfl rfl ?_
  refine rm_iload_n dX8_deliver_45 rfl rfl ?_
  refine rm_iload_n dX8_deliver_46 rfl rfl ?_
  refine rm_callV (As := [.int (nI (m)), .int (nI (l))]) (st := []) dX8_deliver_47 cvX8_109 rfl rfl (by decide) (zv_cat_i [nI (m), nI (l)]) (Nat.le_of_ble_eq_true rfl) (cM_holds (d + 6) a (m := m) (l := l) (by omega) (by omega)) (fun v b q => ?_)
  obtain ⟨rfl, rfl⟩ := q
  show rm_V _ _ 50 [.ref 3, .int (nI (l)), .int (nI (m))] [] _ _
  refine rm_aload_n dX8_deliver_50 rfl rfl ?_
  refine rm_aload_n dX8_deliver_51 rfl rfl ?_
  refine rm_iload_n dX8_deliver_52 rfl rfl ?_
  refine rm_callV (As := [.int (nI (m))]) (st := [.ref 3]) dX8_deliver_53 cvX8_135 rfl rfl (by decide) (zv_cat_i [nI (m)]) (Nat.le_of_ble_eq_true rfl) (cM_gives d (r := m) (by omega) hP (f := f) hPa ht hf) (fun v b q => ?_)
  obtain ⟨rfl, rfl⟩ := q
  show rm_V _ _ 56 [.ref 3, .int (nI (l)), .int (nI (m))] [.int (nI (rm_gvs m f (rm_hld a m l) 0).2), .ref 3] _ _
  refine rm_callV (As := [.int (nI (rm_gvs m f (rm_hld a m l) 0).2)]) (st := []) dX8_deliver_56 cvX8_106 rfl rfl (by decide) (zv_cat_i [nI (rm_gvs m f (rm_hld a m l) 0).2]) (Nat.le_of_ble_eq_true rfl) (cM_done (d + 6) (((rm_gvs m f (rm_hld a m l) 0).1)) (nI (rm_gvs m f (rm_hld a m l) 0).2)) (fun v b q => ?_)
  obtain ⟨rfl, rfl⟩ := q
  show rm_V _ _ 59 [.ref 3, .int (nI (l)), .int (nI (m))] [.int (nI (rm_gvs m f (rm_hld a m l) 0).2)] _ _
  refine rm_iret dX8_deliver_59 rfl rfl ?_
  exact ⟨rfl, rfl⟩
def rm_lnF (p : Nat → Bool) (wy : Nat) : Nat → Nat → Option Nat → Option Nat
  | 0, _, fo => fo
  | n + 1, k, fo => rm_lnF p wy n (k + 1) (if (p k && (fo.isNone || decide (wy = 1))) = true then some k else fo)
def rm_lnp (a : zv_I) (nm c k : Nat) : Bool := decide (a 11 k = nI c) && (rm_lof a nm k).isSome
def rm_lnd (a : zv_I) (nm nl c wy : Nat) : Option Nat := rm_lnF (rm_lnp a nm c) wy nl 0 none
theorem rm_lof_lt {a : zv_I} {nm k : Nat} (hmb : nm ≤ 8) : ∀ j, rm_lof a nm k = some j → j < 2 ^ 31 := fun j h => by have := (rm_fst_some h).2.1; omega
theorem rm_some_ne {o : Option Nat} (hb : ∀ j, o = some j → j < 2 ^ 31) (h : ¬ rm_o o = -1) : o.isSome = true := by cases o; exact absurd rfl h; rfl
theorem cM_lined_l (d : Nat) {a : zv_I} {nm nl c wy : Nat} (hm : a 3 0 = nI nm) (hmb : nm ≤ 8) (hn : a 3 4 = nI nl) (hnb : nl ≤ 200) (hw : wy < 2) : ∀ n k fo, k + n = nl → (∀ j, fo = some j → j < 2 ^ 31) → ∀ rest, rm_V mX8_lined (d + 1) 5 ([.ref 3, .int (nI c), .int (nI wy), .int (rm_o fo), .int (nI k)] ++ rest) [] a (rm_p (rm_o (rm_lnF (rm_lnp a nm c) wy n k fo)) a) := by
  intro n
  induction n with
  | zero =>
    intro k fo hk hfo rest
    refine rm_less ⟨rest, rfl⟩ ?_
    refine rm_iload dX8_lined_5 rfl ?_
    refine rm_aload_n dX8_lined_7 rfl rfl ?_
    refine rm_geti 4 (x := nI (nl)) dX8_lined_8 flX8_89 rfl (hn) ?_
    refine rm_icN_ge (tgt := 70) dX8_lined_11 (by decide) (by omega) (by omega) (fun h11 => ?_) (fun h11 => (absurd h11 (by omega)))
    refine rm_iload_n dX8_lined_70 rfl rfl ?_
    refine rm_iret dX8_lined_71 rfl rfl ?_
    exact ⟨rfl, rfl⟩
  | succ n ih =>
    intro k fo hk hfo rest
    refine rm_less ⟨rest, rfl⟩ ?_
    refine rm_iload dX8_lined_5 rfl ?_
    refine rm_aload_n dX8_lined_7 rfl rfl ?_
    refine rm_geti 4 (x := nI (nl)) dX8_lined_8 flX8_89 rfl (hn) ?_
    refine rm_icN_ge (tgt := 70) dX8_lined_11 (by decide) (by omega) (by omega) (fun h11 => (absurd h11 (by omega))) (fun h11 => ?_)
    refine rm_aload_n dX8_lined_14 rfl rfl ?_
    refine rm_getr 7 (t := 11) dX8_lined_15 flX8_19 (by decide) rfl rfl ?_
    refine rm_iload dX8_lined_18 rfl ?_
    refine rm_iald (f := 7) (j := k) (x := (a 11 (k))) dX8_lined_20 rfl (by decide) rfl rfl (rfl) (show k < 200 from by omega) (rfl) ?_
    refine rm_iload_n dX8_lined_21 rfl rfl ?_
    refine rm_icmp_ne (tgt := 39) dX8_lined_22 (by decide) (fun h22 => ?_) (fun h22 => ?_)
    · refine rm_iconst (v := nI (0)) dX8_lined_39 (by decide) ?_
      refine rm_istore (lv' := [.ref 3, .int (nI (c)), .int (nI (wy)), .int ((rm_o fo)), .int (nI (k)), .int (nI (0))]) dX8_lined_40 (by decide) rfl ?_
      refine rm_iload dX8_lined_42 rfl ?_
      refine rm_if_eq (tgt := 62) dX8_lined_44 (by decide) (fun h44 => ?_) (fun h44 => (absurd h44 (by decide)))
      refine rm_iload_n dX8_lined_62 rfl rfl ?_
      refine rm_istore_n (lv' := [.ref 3, .int (nI (c)), .int (nI (wy)), .int ((rm_o fo)), .int (nI (k)), .int (nI (0))]) dX8_lined_63 rfl (by decide) rfl ?_
      refine rm_iinc (v := nI (k + 1)) (lv' := [.ref 3, .int (nI (c)), .int (nI (wy)), .int ((rm_o fo)), .int (nI (k + 1)), .int (nI (0))]) dX8_lined_64 rfl (by rw [← nI_1]; rfl) (by decide) rfl ?_
      refine rm_goto (tgt := 5) dX8_lined_67 (by decide) ?_
      have e1 : (rm_lnp a nm c k && (fo.isNone || decide (wy = 1))) = false := by unfold rm_lnp; rw [decide_eq_false h22]; rfl
      have h9 := ih (k + 1) (fo) (by omega) hfo [.int (nI (0))]
      rw [show rm_lnF (rm_lnp a nm c) wy (n + 1) k fo = rm_lnF (rm_lnp a nm c) wy n (k + 1) (fo) from by show rm_lnF _ _ _ _ (if _ then _ else _) = _; rw [e1]; rfl]
      exact h9
    · refine rm_aload_n dX8_lined_25 rfl rfl ?_
      refine rm_iload dX8_lined_26 rfl ?_
      refine rm_callV (As := [.int (nI (k))]) (st := []) dX8_lined_28 cvX8_170 rfl rfl (by decide) (zv_cat_i [nI (k)]) (Nat.le_of_ble_eq_true rfl) (cM_lineOf d hm hmb (l := k) (by omega)) (fun v b q => ?_)
      obtain ⟨rfl, rfl⟩ := q
      show rm_V _ _ 31 [.ref 3, .int (nI (c)), .int (nI (wy)), .int ((rm_o fo)), .int (nI (k))] [.int (rm_o (rm_lof a nm k))] _ _
      refine rm_iconst (v := (-1 : Int32)) dX8_lined_31 (by decide) ?_
      refine rm_icmp_eq (tgt := 39) dX8_lined_32 (by decide) (fun h32 => ?_) (fun h32 => ?_)
      · refine rm_iconst (v := nI (0)) dX8_lined_39 (by decide) ?_
        refine rm_istore (lv' := [.ref 3, .int (nI (c)), .int (nI (wy)), .int ((rm_o fo)), .int (nI (k)), .int (nI (0))]) dX8_lined_40 (by decide) rfl ?_
        refine rm_iload dX8_lined_42 rfl ?_
        refine rm_if_eq (tgt := 62) dX8_lined_44 (by decide) (fun h44 => ?_) (fun h44 => (absurd h44 (by decide)))
        refine rm_iload_n dX8_lined_62 rfl rfl ?_
        refine rm_istore_n (lv' := [.ref 3, .int (nI (c)), .int (nI (wy)), .int ((rm_o fo)), .int (nI (k)), .int (nI (0))]) dX8_lined_63 rfl (by decide) rfl ?_
        refine rm_iinc (v := nI (k + 1)) (lv' := [.ref 3, .int (nI (c)), .int (nI (wy)), .int ((rm_o fo)), .int (nI (k + 1)), .int (nI (0))]) dX8_lined_64 rfl (by rw [← nI_1]; rfl) (by decide) rfl ?_
        refine rm_goto (tgt := 5) dX8_lined_67 (by decide) ?_
        have e1 : (rm_lnp a nm c k && (fo.isNone || decide (wy = 1))) = false := by unfold rm_lnp; rw [(rm_o_neg _ (rm_lof_lt hmb)).mp h32, decide_eq_true h22]; rfl
        have h9 := ih (k + 1) (fo) (by omega) hfo [.int (nI (0))]
        rw [show rm_lnF (rm_lnp a nm c) wy (n + 1) k fo = rm_lnF (rm_lnp a nm c) wy n (k + 1) (fo) from by show rm_lnF _ _ _ _ (if _ then _ else _) = _; rw [e1]; rfl]
        exact h9
      · refine rm_iconst (v := nI (1)) dX8_lined_35 (by decide) ?_
        refine rm_goto (tgt := 40) dX8_lined_36 (by decide) ?_
        refine rm_istore (lv' := [.ref 3, .int (nI (c)), .int (nI (wy)), .int ((rm_o fo)), .int (nI (k)), .int (nI (1))]) dX8_lined_40 (by decide) rfl ?_
        refine rm_iload dX8_lined_42 rfl ?_
        refine rm_if_eq (tgt := 62) dX8_lined_44 (by decide) (fun h44 => (absurd h44 (by decide))) (fun h44 => ?_)
        refine rm_iload_n dX8_lined_47 rfl rfl ?_
        refine rm_iconst (v := (-1 : Int32)) dX8_lined_48 (by decide) ?_
        refine rm_icmp_eq (tgt := 57) dX8_lined_49 (by decide) (fun h49 => ?_) (fun h49 => ?_)
        · refine rm_iload dX8_lined_57 rfl ?_
          refine rm_goto (tgt := 63) dX8_lined_59 (by decide) ?_
          refine rm_istore_n (lv' := [.ref 3, .int (nI (c)), .int (nI (wy)), .int (nI (k)), .int (nI (k)), .int (nI (1))]) dX8_lined_63 rfl (by decide) rfl ?_
          refine rm_iinc (v := nI (k + 1)) (lv' := [.ref 3, .int (nI (c)), .int (nI (wy)), .int (nI (k)), .int (nI (k + 1)), .int (nI (1))]) dX8_lined_64 rfl (by rw [← nI_1]; rfl) (by decide) rfl ?_
          refine rm_goto (tgt := 5) dX8_lined_67 (by decide) ?_
          have e1 : (rm_lnp a nm c k && (fo.isNone || decide (wy = 1))) = true := by unfold rm_lnp; rw [rm_some_ne (rm_lof_lt hmb) h32, decide_eq_true h22, (rm_o_neg _ hfo).mp h49]; rfl
          have h9 := ih (k + 1) (some k) (by omega) (fun j hj => by cases hj; omega) [.int (nI (1))]
          rw [show rm_lnF (rm_lnp a nm c) wy (n + 1) k fo = rm_lnF (rm_lnp a nm c) wy n (k + 1) (some k) from by show rm_lnF _ _ _ _ (if _ then _ else _) = _; rw [e1]; rfl]
          exact h9
        · refine rm_iload_n dX8_lined_52 rfl rfl ?_
          refine rm_iconst (v := nI (1)) dX8_lined_53 (by decide) ?_
          refine rm_icN_ne (tgt := 62) dX8_lined_54 (by decide) (by omega) (by omega) (fun h54 => ?_) (fun h54 => ?_)
          · refine rm_iload_n dX8_lined_62 rfl rfl ?_
            refine rm_istore_n (lv' := [.ref 3, .int (nI (c)), .int (nI (wy)), .int ((rm_o fo)), .int (nI (k)), .int (nI (1))]) dX8_lined_63 rfl (by decide) rfl ?_
            refine rm_iinc (v := nI (k + 1)) (lv' := [.ref 3, .int (nI (c)), .int (nI (wy)), .int ((rm_o fo)), .int (nI (k + 1)), .int (nI (1))]) dX8_lined_64 rfl (by rw [← nI_1]; rfl) (by decide) rfl ?_
            refine rm_goto (tgt := 5) dX8_lined_67 (by decide) ?_
            have e1 : (rm_lnp a nm c k && (fo.isNone || decide (wy = 1))) = false := by unfold rm_lnp; rw [rm_some_ne (rm_lof_lt hmb) h32, decide_eq_true h22, decide_eq_false h54]; cases fo with | none => exact absurd rfl h49 | some j => rfl
            have h9 := ih (k + 1) (fo) (by omega) hfo [.int (nI (1))]
            rw [show rm_lnF (rm_lnp a nm c) wy (n + 1) k fo = rm_lnF (rm_lnp a nm c) wy n (k + 1) (fo) from by show rm_lnF _ _ _ _ (if _ then _ else _) = _; rw [e1]; rfl]
            exact h9
          · refine rm_iload dX8_lined_57 rfl ?_
            refine rm_goto (tgt := 63) dX8_lined_59 (by decide) ?_
            refine rm_istore_n (lv' := [.ref 3, .int (nI (c)), .int (nI (wy)), .int (nI (k)), .int (nI (k)), .int (nI (1))]) dX8_lined_63 rfl (by decide) rfl ?_
            refine rm_iinc (v := nI (k + 1)) (lv' := [.ref 3, .int (nI (c)), .int (nI (wy)), .int (nI (k)), .int (nI (k + 1)), .int (nI (1))]) dX8_lined_64 rfl (by rw [← nI_1]; rfl) (by decide) rfl ?_
            refine rm_goto (tgt := 5) dX8_lined_67 (by decide) ?_
            have e1 : (rm_lnp a nm c k && (fo.isNone || decide (wy = 1))) = true := by unfold rm_lnp; rw [rm_some_ne (rm_lof_lt hmb) h32, decide_eq_true h22, decide_eq_true h54]; cases fo <;> rfl
            have h9 := ih (k + 1) (some k) (by omega) (fun j hj => by cases hj; omega) [.int (nI (1))]
            rw [show rm_lnF (rm_lnp a nm c) wy (n + 1) k fo = rm_lnF (rm_lnp a nm c) wy n (k + 1) (some k) from by show rm_lnF _ _ _ _ (if _ then _ else _) = _; rw [e1]; rfl]
            exact h9
theorem cM_lined (d : Nat) {a : zv_I} {nm nl c wy : Nat} (hm : a 3 0 = nI nm) (hmb : nm ≤ 8) (hn : a 3 4 = nI nl) (hnb : nl ≤ 200) (hw : wy < 2) : rm_V mX8_lined (d + 1) 0 [.ref 3, .int (nI c), .int (nI wy)] [] a (rm_p (rm_o (rm_lnd a nm nl c wy)) a) := by
  refine rm_iconst (v := (-1 : Int32)) dX8_lined_0 (by decide) ?_
  refine rm_istore_n (lv' := [.ref 3, .int (nI (c)), .int (nI (wy)), .int ((-1 : Int32))]) dX8_lined_1 rfl (by decide) rfl ?_
  refine rm_iconst (v := nI (0)) dX8_lined_2 (by decide) ?_
  refine rm_istore (lv' := [.ref 3, .int (nI (c)), .int (nI (wy)), .int ((-1 : Int32)), .int (nI (0))]) dX8_lined_3 (by decide) rfl ?_
  exact cM_lined_l d hm hmb hn hnb hw nl 0 none (by omega) (fun j hj => by cases hj) []
def rm_ln (a : zv_I) (c wy : Nat) : Option Nat := rm_lnd a (rm_NM a) (rm_NL a) c wy
def rm_lo (a : zv_I) (l : Nat) : Nat := (rm_lof a (rm_NM a) l).getD 0
def rm_dl1 (F : Nat) (a : zv_I) (l : Nat) : zv_I := (rm_gvs (rm_lo a l) F (rm_hld a (rm_lo a l) l) 0).1
def rm_dls (F c wy : Nat) : Nat → zv_I → Nat → zv_I × Nat
  | 0, a, n => (a, n)
  | f + 1, a, n => match rm_ln a c wy with
    | none => (a, n)
    | some l => rm_dls F c wy f (rm_dl1 F a l) (n + 1)
def rm_dlt (F c wy : Nat) : Nat → zv_I → Bool
  | 0, _ => false
  | f + 1, a => match rm_ln a c wy with
    | none => true
    | some l => rm_dlt F c wy f (rm_dl1 F a l)
def rm_dst (PG : Nat → zv_I → Prop) (P : zv_I → Prop) (F c wy : Nat) : Prop := ∀ a, P a → (a 3 0 = nI (rm_NM a) ∧ rm_NM a ≤ 8 ∧ a 3 4 = nI (rm_NL a) ∧ rm_NL a ≤ 200) ∧ ∀ l, rm_ln a c wy = some l → l < 200 ∧ rm_lof a (rm_NM a) l = some (rm_lo a l) ∧ rm_lo a l < 8 ∧ rm_stay (PG (rm_lo a l)) (rm_lo a l) ∧ PG (rm_lo a l) (rm_hld a (rm_lo a l) l) ∧ rm_gvt (rm_lo a l) F (rm_hld a (rm_lo a l) l) = true ∧ P (rm_dl1 F a l)
theorem cM_deliverAll_l (d : Nat) {F c wy : Nat} (hF : F < 2 ^ 31) (hw : wy < 2) {PG : Nat → zv_I → Prop} {P : zv_I → Prop} (hP : rm_dst PG P F c wy) : ∀ f a n, P a → rm_dlt F c wy f a = true → n + f < 2 ^ 31 → ∀ rest, rm_V mX8_deliverAll (d + 7) 33 ([.ref 3, .int (nI c), .int (nI wy), .int (nI n), .int (rm_o (rm_ln a c wy))] ++ rest) [] a (rm_p (nI (rm_dls F c wy f a n).2) (zv_u (rm_dls F c wy f a n).1 3 24 (nI 0))) := by
  intro f
  induction f with
  | zero => intro a n _ h; cases h
  | succ f ih =>
    intro a n hPa ht hn rest
    refine rm_less ⟨rest, rfl⟩ ?_
    obtain ⟨⟨p1, p2, p3, p4⟩, hs⟩ := hP a hPa
    show rm_V mX8_deliverAll (d + 7) 33 _ [] a (rm_p (nI (match rm_ln a c wy with | none => (a, n) | some l => rm_dls F c wy f (rm_dl1 F a l) (n + 1)).2) (zv_u (match rm_ln a c wy with | none => (a, n) | some l => rm_dls F c wy f (rm_dl1 F a l) (n + 1)).1 3 24 (nI 0)))
    have ht : (match rm_ln a c wy with | none => true | some l => rm_dlt F c wy f (rm_dl1 F a l)) = true := ht
    cases hx : rm_ln a c wy with
    | none =>
      refine rm_iload dX8_deliverAll_33 rfl ?_
      refine rm_iconst (v := (-1 : Int32)) dX8_deliverAll_35 (by decide) ?_
      refine rm_icmp_eq (tgt := 76) dX8_deliverAll_36 (by decide) (fun h36 => ?_) (fun h36 => (absurd rfl h36))
      refine rm_aload_n dX8_deliverAll_76 rfl rfl ?_
      refine rm_iload_n dX8_deliverAll_77 rfl rfl ?_
      refine rm_callV (As := [.int (nI (n))]) (st := []) dX8_deliverAll_78 cvX8_106 rfl rfl (by decide) (zv_cat_i [nI (n)]) (Nat.le_of_ble_eq_true rfl) (cM_done (d + 6) (a) (nI (n))) (fun v b q => ?_)
      obtain ⟨rfl, rfl⟩ := q
      show rm_V _ _ 81 [.ref 3, .int (nI (c)), .int (nI (wy)), .int (nI (n)), .int ((-1 : Int32))] [.int (nI (n))] _ _
      refine rm_iret dX8_deliverAll_81 rfl rfl ?_
      exact ⟨rfl, rfl⟩
    | some l =>
      rw [hx] at ht
      obtain ⟨q1, q2, q3, q4, q5, q6, q7⟩ := hs l hx
      obtain ⟨⟨r1, r2, r3, r4⟩, -⟩ := hP _ q7
      refine rm_iload dX8_deliverAll_33 rfl ?_
      refine rm_iconst (v := (-1 : Int32)) dX8_deliverAll_35 (by decide) ?_
      refine rm_icmp_eq (tgt := 76) dX8_deliverAll_36 (by decide) (fun h36 => (absurd h36 (rm_ni1 (by omega)))) (fun h36 => ?_)
      refine rm_aload_n dX8_deliverAll_39 rfl rfl ?_
      refine rm_iload dX8_deliverAll_40 rfl ?_
      refine rm_callV (As := [.int (nI (l))]) (st := []) dX8_deliverAll_42 cvX8_170 rfl rfl (by decide) (zv_cat_i [nI (l)]) (Nat.le_of_ble_eq_true rfl) (cM_lineOf (d + 6) p1 p2 (l := l) q1) (fun v b q => ?_)
      obtain ⟨rfl, rfl⟩ := q
      rw [q2]
      show rm_V _ _ 45 [.ref 3, .int (nI (c)), .int (nI (wy)), .int (nI (n)), .int (nI (l))] [.int (nI (rm_lo a l))] _ _
      refine rm_istore (lv' := [.ref 3, .int (nI (c)), .int (nI (wy)), .int (nI (n)), .int (nI (l)), .int (nI (rm_lo a l))]) dX8_deliverAll_45 (by decide) rfl ?_
      refine rm_aload_n dX8_deliverAll_47 rfl rfl ?_
      refine rm_iload dX8_deliverAll_48 rfl ?_
      refine rm_iload dX8_deliverAll_50 rfl ?_
      refine rm_callV (As := [.int (nI (rm_lo a l)), .int (nI (l))]) (st := []) dX8_deliverAll_52 cvX8_109 rfl rfl (by decide) (zv_cat_i [nI (rm_lo a l), nI (l)]) (Nat.le_of_ble_eq_true rfl) (cM_holds (d + 6) a (m := rm_lo a l) (l := l) q3 q1) (fun v b q => ?_)
      obtain ⟨rfl, rfl⟩ := q
      show rm_V _ _ 55 [.ref 3, .int (nI (c)), .int (nI (wy)), .int (nI (n)), .int (nI (l)), .int (nI (rm_lo a l))] [] _ _
      refine rm_aload_n dX8_deliverAll_55 rfl rfl ?_
      refine rm_iload dX8_deliverAll_56 rfl ?_
      refine rm_callV (As := [.int (nI (rm_lo a l))]) (st := []) dX8_deliverAll_58 cvX8_135 rfl rfl (by decide) (zv_cat_i [nI (rm_lo a l)]) (Nat.le_of_ble_eq_true rfl) (cM_gives d (r := rm_lo a l) q3 q4 (f := F) q5 q6 hF) (fun v b q => ?_)
      obtain ⟨rfl, rfl⟩ := q
      show rm_V _ _ 61 [.ref 3, .int (nI (c)), .int (nI (wy)), .int (nI (n)), .int (nI (l)), .int (nI (rm_lo a l))] [.int (nI (rm_gvs (rm_lo a l) F (rm_hld a (rm_lo a l) l) 0).2)] _ _
      refine rm_pop dX8_deliverAll_61 rfl ?_
      refine rm_iinc (v := nI (n + 1)) (lv' := [.ref 3, .int (nI (c)), .int (nI (wy)), .int (nI (n + 1)), .int (nI (l)), .int (nI (rm_lo a l))]) dX8_deliverAll_62 rfl (by rw [← nI_1]; rfl) (by decide) rfl ?_
      refine rm_aload_n dX8_deliverAll_65 rfl rfl ?_
      refine rm_iload_n dX8_deliverAll_66 rfl rfl ?_
      refine rm_iload_n dX8_deliverAll_67 rfl rfl ?_
      refine rm_callV (As := [.int (nI (c)), .int (nI (wy))]) (st := []) dX8_deliverAll_68 cvX8_173 rfl rfl (by decide) (zv_cat_i [nI (c), nI (wy)]) (Nat.le_of_ble_eq_true rfl) (cM_lined (d + 5) (a := rm_dl1 F a l) (nm := rm_NM (rm_dl1 F a l)) (nl := rm_NL (rm_dl1 F a l)) (c := c) r1 r2 r3 r4 hw) (fun v b q => ?_)
      obtain ⟨rfl, rfl⟩ := q
      show rm_V _ _ 71 [.ref 3, .int (nI (c)), .int (nI (wy)), .int (nI (n + 1)), .int (nI (l)), .int (nI (rm_lo a l))] [.int (rm_o (rm_ln (rm_dl1 F a l) c wy))] _ _
      refine rm_istore (lv' := [.ref 3, .int (nI (c)), .int (nI (wy)), .int (nI (n + 1)), .int (rm_o (rm_ln (rm_dl1 F a l) c wy)), .int (nI (rm_lo a l))]) dX8_deliverAll_71 (by decide) rfl ?_
      refine rm_goto (tgt := 33) dX8_deliverAll_73 (by decide) ?_
      exact ih (rm_dl1 F a l) (n + 1) q7 ht (by omega) [.int (nI (rm_lo a l))]
theorem rm_in01 (x : Int32) (n : Nat) (hn : n < 2 ^ 31 - 1) : decide (nI 0 ≤ x ∧ x ≤ nI n) = rm_lt x (n + 1) := by
  rw [← rm_in0 x (show n + 1 < 2 ^ 31 by omega), show nI 1 = (1 : Int32) from rfl, nI_pred]
theorem cM_deliverAll_1 (d : Nat) {a : zv_I} {nc : Nat} (hc : a 3 1 = nI nc) (hcb : nc ≤ 6) {c y : Int32} (hbad : (rm_lt c nc && rm_lt y 2) = false) : rm_V mX8_deliverAll (d + 2) 0 [.ref 3, .int c, .int y] [] a (rm_p (-1 : Int32) (zv_u a 3 24 (nI 1))) := by
  refine rm_aload_n dX8_deliverAll_0 rfl rfl ?_
  refine rm_iload_n dX8_deliverAll_1 rfl rfl ?_
  refine rm_callV (As := [.int (c)]) (st := []) dX8_deliverAll_2 cvX8_117 rfl rfl (by decide) (zv_cat_i [c]) (Nat.le_of_ble_eq_true rfl) (cM_isCircle d hc (by omega) (c)) (fun v b q => ?_)
  obtain ⟨rfl, rfl⟩ := q
  show rm_V _ _ 5 [.ref 3, .int (c), .int (y)] [.int (rm_b (rm_lt (c) nc))] _ _
  refine rm_ifB_eq (tgt := 17) dX8_deliverAll_5 (by decide) (fun h5 => ?_) (fun h5 => ?_)
  · refine rm_aload_n dX8_deliverAll_17 rfl rfl ?_
    refine rm_iconst (v := nI (1)) dX8_deliverAll_18 (by decide) ?_
    refine rm_callV (As := [.int (nI (1))]) (st := []) dX8_deliverAll_19 cvX8_103 rfl rfl (by decide) (zv_cat_i [nI (1)]) (Nat.le_of_ble_eq_true rfl) (cM_refused (d + 1) (a) (nI (1))) (fun v b q => ?_)
    obtain ⟨rfl, rfl⟩ := q
    show rm_V _ _ 22 [.ref 3, .int (c), .int (y)] [.int ((-1 : Int32))] _ _
    refine rm_iret dX8_deliverAll_22 rfl rfl ?_
    exact ⟨rfl, rfl⟩
  · refine rm_iload_n dX8_deliverAll_8 rfl rfl ?_
    refine rm_iconst (v := nI (0)) dX8_deliverAll_9 (by decide) ?_
    refine rm_iconst (v := nI (1)) dX8_deliverAll_10 (by decide) ?_
    refine rm_callS (As := [.int (y), .int (nI (0)), .int (nI (1))]) (st := []) dX8_deliverAll_11 csX8_82 rfl (by decide) (zv_cat_i [y, nI (0), nI (1)]) (Nat.le_of_ble_eq_true rfl) (cM_in (d + 1) (a) (y) (nI 0) (nI 1)) (fun v b q => ?_)
    obtain ⟨rfl, rfl⟩ := q
    rw [rm_in01 _ 1 (by decide)]
    show rm_V _ _ 14 [.ref 3, .int (c), .int (y)] [.int (rm_b (rm_lt (y) 2))] _ _
    refine rm_ifB_ne (tgt := 23) dX8_deliverAll_14 (by decide) (fun h14 => ?_) (fun h14 => ?_)
    · rw [h5, h14] at hbad
      cases hbad
    · refine rm_aload_n dX8_deliverAll_17 rfl rfl ?_
      refine rm_iconst (v := nI (1)) dX8_deliverAll_18 (by decide) ?_
      refine rm_callV (As := [.int (nI (1))]) (st := []) dX8_deliverAll_19 cvX8_103 rfl rfl (by decide) (zv_cat_i [nI (1)]) (Nat.le_of_ble_eq_true rfl) (cM_refused (d + 1) (a) (nI (1))) (fun v b q => ?_)
      obtain ⟨rfl, rfl⟩ := q
      show rm_V _ _ 22 [.ref 3, .int (c), .int (y)] [.int ((-1 : Int32))] _ _
      refine rm_iret dX8_deliverAll_22 rfl rfl ?_
      exact ⟨rfl, rfl⟩
theorem cM_deliverAll_0 (d : Nat) {a : zv_I} {nc c wy F f : Nat} (hc : a 3 1 = nI nc) (hcb : nc ≤ 6) (hcc : c < nc) (hw : wy < 2) (hF : F < 2 ^ 31) (hf : f < 2 ^ 31) {PG : Nat → zv_I → Prop} {P : zv_I → Prop} (hP : rm_dst PG P F c wy) (hPa : P a) (ht : rm_dlt F c wy f a = true) : rm_V mX8_deliverAll (d + 7) 0 [.ref 3, .int (nI c), .int (nI wy)] [] a (rm_p (nI (rm_dls F c wy f a 0).2) (zv_u (rm_dls F c wy f a 0).1 3 24 (nI 0))) := by
  obtain ⟨⟨r1, r2, r3, r4⟩, -⟩ := hP a hPa
  refine rm_aload_n dX8_deliverAll_0 rfl rfl ?_
  refine rm_iload_n dX8_deliverAll_1 rfl rfl ?_
  refine rm_callV (As := [.int (nI (c))]) (st := []) dX8_deliverAll_2 cvX8_117 rfl rfl (by decide) (zv_cat_i [nI (c)]) (Nat.le_of_ble_eq_true rfl) (cM_isCircle (d + 5) hc (by omega) (nI (c))) (fun v b q => ?_)
  obtain ⟨rfl, rfl⟩ := q
  show rm_V _ _ 5 [.ref 3, .int (nI (c)), .int (nI (wy))] [.int (rm_b (rm_lt (nI (c)) nc))] _ _
  refine rm_ifB_eq (tgt := 17) dX8_deliverAll_5 (by decide) (fun h5 => (absurd h5 (by rw [rm_lt_n (by omega), decide_eq_true hcc]; decide))) (fun h5 => ?_)
  refine rm_iload_n dX8_deliverAll_8 rfl rfl ?_
  refine rm_iconst (v := nI (0)) dX8_deliverAll_9 (by decide) ?_
  refine rm_iconst (v := nI (1)) dX8_deliverAll_10 (by decide) ?_
  refine rm_callS (As := [.int (nI (wy)), .int (nI (0)), .int (nI (1))]) (st := []) dX8_deliverAll_11 csX8_82 rfl (by decide) (zv_cat_i [nI (wy), nI (0), nI (1)]) (Nat.le_of_ble_eq_true rfl) (cM_in (d + 6) (a) (nI (wy)) (nI 0) (nI 1)) (fun v b q => ?_)
  obtain ⟨rfl, rfl⟩ := q
  rw [rm_in01 _ 1 (by decide)]
  show rm_V _ _ 14 [.ref 3, .int (nI (c)), .int (nI (wy))] [.int (rm_b (rm_lt (nI (wy)) 2))] _ _
  refine rm_ifB_ne (tgt := 23) dX8_deliverAll_14 (by decide) (fun h14 => ?_) (fun h14 => (absurd h14 (by rw [rm_lt_n (by omega), decide_eq_true hw]; decide)))
  refine rm_iconst (v := nI (0)) dX8_deliverAll_23 (by decide) ?_
  refine rm_istore_n (lv' := [.ref 3, .int (nI (c)), .int (nI (wy)), .int (nI (0))]) dX8_deliverAll_24 rfl (by decide) rfl ?_
  refine rm_aload_n dX8_deliverAll_25 rfl rfl ?_
  refine rm_iload_n dX8_deliverAll_26 rfl rfl ?_
  refine rm_iload_n dX8_deliverAll_27 rfl rfl ?_
  refine rm_callV (As := [.int (nI (c)), .int (nI (wy))]) (st := []) dX8_deliverAll_28 cvX8_173 rfl rfl (by decide) (zv_cat_i [nI (c), nI (wy)]) (Nat.le_of_ble_eq_true rfl) (cM_lined (d + 5) (a := a) (nm := rm_NM a) (nl := rm_NL a) (c := c) r1 r2 r3 r4 hw) (fun v b q => ?_)
  obtain ⟨rfl, rfl⟩ := q
  show rm_V _ _ 31 [.ref 3, .int (nI (c)), .int (nI (wy)), .int (nI (0))] [.int (rm_o (rm_ln a c wy))] _ _
  refine rm_istore (lv' := [.ref 3, .int (nI (c)), .int (nI (wy)), .int (nI (0)), .int (rm_o (rm_ln a c wy))]) dX8_deliverAll_31 (by decide) rfl ?_
  exact cM_deliverAll_l d hF hw hP f a 0 hPa ht (by omega) []
