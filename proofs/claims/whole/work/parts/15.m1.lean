theorem cM_in (d : Nat) (a : zv_I) (x y z : Int32) : rm_V mX8_in d 0 [.int x, .int y, .int z] [] a (rm_p (rm_b (decide (y ≤ x ∧ x ≤ z))) a) := by
  refine rm_iload_n dX8_in_0 rfl rfl ?_
  refine rm_iload_n dX8_in_1 rfl rfl ?_
  refine rm_icmp_lt (tgt := 14) dX8_in_2 (by decide) (fun h2 => ?_) (fun h2 => ?_)
  · refine rm_iconst (v := nI (0)) dX8_in_14 (by decide) ?_
    refine rm_iret dX8_in_15 rfl rfl ?_
    refine ⟨?_, rfl⟩
    rw [show decide (y ≤ x ∧ x ≤ z) = false from decide_eq_false (fun h => by first | exact Int32.not_le.mpr h7 h.2 | exact Int32.not_le.mpr h2 h.1)]; rfl
  · refine rm_iload_n dX8_in_5 rfl rfl ?_
    refine rm_iload_n dX8_in_6 rfl rfl ?_
    refine rm_icmp_gt (tgt := 14) dX8_in_7 (by decide) (fun h7 => ?_) (fun h7 => ?_)
    · refine rm_iconst (v := nI (0)) dX8_in_14 (by decide) ?_
      refine rm_iret dX8_in_15 rfl rfl ?_
      refine ⟨?_, rfl⟩
      rw [show decide (y ≤ x ∧ x ≤ z) = false from decide_eq_false (fun h => by first | exact Int32.not_le.mpr h7 h.2 | exact Int32.not_le.mpr h2 h.1)]; rfl
    · refine rm_iconst (v := nI (1)) dX8_in_10 (by decide) ?_
      refine rm_goto (tgt := 15) dX8_in_11 (by decide) ?_
      refine rm_iret dX8_in_15 rfl rfl ?_
      refine ⟨?_, rfl⟩
      rw [show decide (y ≤ x ∧ x ≤ z) = true from decide_eq_true ⟨Int32.not_lt.mp h2, Int32.not_lt.mp h7⟩]; rfl
theorem rm_in0 (x : Int32) {n : Nat} (hn : n < 2 ^ 31) : decide (nI 0 ≤ x ∧ x ≤ nI n - nI 1) = rm_lt x n := by
  unfold rm_lt
  congr 1
  have h1 : (nI n - nI 1).toInt = (n : Int) - 1 := by
    cases n with
    | zero => decide
    | succ n => rw [pk_sub (by omega), nI_toInt (by omega)]; omega
  rw [Int32.le_iff_toInt_le, Int32.le_iff_toInt_le, h1, nI_toInt (by decide)]
  exact propext ⟨fun h => by omega, fun h => by omega⟩
theorem cM_isMember (d : Nat) {a : zv_I} {n : Nat} (hn : a 3 0 = nI n) (hb : n < 2 ^ 31) (x : Int32) : rm_V mX8_isMember (d + 1) 0 [.ref 3, .int x] [] a (rm_p (rm_b (rm_lt x n)) a) := by
  refine rm_iload_n dX8_isMember_0 rfl rfl ?_
  refine rm_iconst (v := nI (0)) dX8_isMember_1 (by decide) ?_
  refine rm_aload_n dX8_isMember_2 rfl rfl ?_
  refine rm_geti 0 (x := nI (n)) dX8_isMember_3 flX8_78 rfl (hn) ?_
  refine rm_iconst (v := nI (1)) dX8_isMember_6 (by decide) ?_
  refine rm_isub dX8_isMember_7 ?_
  refine rm_callS (As := [.int (x), .int (nI (0)), .int (((nI (n)) - (nI (1))))]) (st := []) dX8_isMember_8 csX8_82 rfl (by decide) (zv_cat_i [x, nI (0), ((nI (n)) - (nI (1)))]) (Nat.le_of_ble_eq_true rfl) (cM_in d a x (nI (0)) (((nI (n)) - (nI (1))))) (fun v b q => ?_)
  obtain ⟨rfl, rfl⟩ := q
  show rm_V _ _ 11 [.ref 3, .int (x)] [.int (rm_b (decide (nI (0) ≤ x ∧ x ≤ ((nI (n)) - (nI (1))))))] _ _
  refine rm_iret dX8_isMember_11 rfl (rm_nb _) ?_
  exact ⟨by rw [rm_in0 x hb], rfl⟩
theorem cM_isCircle (d : Nat) {a : zv_I} {n : Nat} (hn : a 3 1 = nI n) (hb : n < 2 ^ 31) (x : Int32) : rm_V mX8_isCircle (d + 1) 0 [.ref 3, .int x] [] a (rm_p (rm_b (rm_lt x n)) a) := by
  refine rm_iload_n dX8_isCircle_0 rfl rfl ?_
  refine rm_iconst (v := nI (0)) dX8_isCircle_1 (by decide) ?_
  refine rm_aload_n dX8_isCircle_2 rfl rfl ?_
  refine rm_geti 1 (x := nI (n)) dX8_isCircle_3 flX8_86 rfl (hn) ?_
  refine rm_iconst (v := nI (1)) dX8_isCircle_6 (by decide) ?_
  refine rm_isub dX8_isCircle_7 ?_
  refine rm_callS (As := [.int (x), .int (nI (0)), .int (((nI (n)) - (nI (1))))]) (st := []) dX8_isCircle_8 csX8_82 rfl (by decide) (zv_cat_i [x, nI (0), ((nI (n)) - (nI (1)))]) (Nat.le_of_ble_eq_true rfl) (cM_in d a x (nI (0)) (((nI (n)) - (nI (1))))) (fun v b q => ?_)
  obtain ⟨rfl, rfl⟩ := q
  show rm_V _ _ 11 [.ref 3, .int (x)] [.int (rm_b (decide (nI (0) ≤ x ∧ x ≤ ((nI (n)) - (nI (1))))))] _ _
  refine rm_iret dX8_isCircle_11 rfl (rm_nb _) ?_
  exact ⟨by rw [rm_in0 x hb], rfl⟩
theorem cM_isLetter (d : Nat) {a : zv_I} {n : Nat} (hn : a 3 4 = nI n) (hb : n < 2 ^ 31) (x : Int32) : rm_V mX8_isLetter (d + 1) 0 [.ref 3, .int x] [] a (rm_p (rm_b (rm_lt x n)) a) := by
  refine rm_iload_n dX8_isLetter_0 rfl rfl ?_
  refine rm_iconst (v := nI (0)) dX8_isLetter_1 (by decide) ?_
  refine rm_aload_n dX8_isLetter_2 rfl rfl ?_
  refine rm_geti 4 (x := nI (n)) dX8_isLetter_3 flX8_89 rfl (hn) ?_
  refine rm_iconst (v := nI (1)) dX8_isLetter_6 (by decide) ?_
  refine rm_isub dX8_isLetter_7 ?_
  refine rm_callS (As := [.int (x), .int (nI (0)), .int (((nI (n)) - (nI (1))))]) (st := []) dX8_isLetter_8 csX8_82 rfl (by decide) (zv_cat_i [x, nI (0), ((nI (n)) - (nI (1)))]) (Nat.le_of_ble_eq_true rfl) (cM_in d a x (nI (0)) (((nI (n)) - (nI (1))))) (fun v b q => ?_)
  obtain ⟨rfl, rfl⟩ := q
  show rm_V _ _ 11 [.ref 3, .int (x)] [.int (rm_b (decide (nI (0) ≤ x ∧ x ≤ ((nI (n)) - (nI (1))))))] _ _
  refine rm_iret dX8_isLetter_11 rfl (rm_nb _) ?_
  exact ⟨by rw [rm_in0 x hb], rfl⟩
/-- m is in c -/
def rm_in (a : zv_I) (m c : Nat) : Bool := decide (((a 6 c) >>> ((nI m) &&& 31)) &&& (nI 1) = nI 1)
theorem cM_isIn (d : Nat) (a : zv_I) {m c : Nat} (hc : c < 6) : rm_V mX8_isIn d 0 [.ref 3, .int (nI m), .int (nI c)] [] a (rm_p (rm_b (rm_in a m c)) a) := by
  refine rm_aload_n dX8_isIn_0 rfl rfl ?_
  refine rm_getr 2 (t := 6) dX8_isIn_1 flX8_7 (by decide) rfl rfl ?_
  refine rm_iload_n dX8_isIn_4 rfl rfl ?_
  refine rm_iald (f := 2) (j := c) (x := (a 6 (c))) dX8_isIn_5 rfl (by decide) rfl rfl (rfl) (show c < 6 from by omega) (rfl) ?_
  refine rm_iload_n dX8_isIn_6 rfl rfl ?_
  refine rm_ishr dX8_isIn_7 ?_
  refine rm_iconst (v := nI (1)) dX8_isIn_8 (by decide) ?_
  refine rm_iand dX8_isIn_9 ?_
  refine rm_iconst (v := nI (1)) dX8_isIn_10 (by decide) ?_
  refine rm_icmp_ne (tgt := 18) dX8_isIn_11 (by decide) (fun h11 => ?_) (fun h11 => ?_)
  · refine rm_iconst (v := nI (0)) dX8_isIn_18 (by decide) ?_
    refine rm_iret dX8_isIn_19 rfl rfl ?_
    exact ⟨by unfold rm_in; rw [decide_eq_false h11]; rfl, rfl⟩
  · refine rm_iconst (v := nI (1)) dX8_isIn_14 (by decide) ?_
    refine rm_goto (tgt := 19) dX8_isIn_15 (by decide) ?_
    refine rm_iret dX8_isIn_19 rfl rfl ?_
    exact ⟨by unfold rm_in; rw [decide_eq_true h11]; rfl, rfl⟩
theorem cM_refused (d : Nat) (a : zv_I) (x : Int32) : rm_V mX8_refused d 0 [.ref 3, .int x] [] a (rm_p (-1 : Int32) (zv_u a 3 24 (x))) := by
  refine rm_aload_n dX8_refused_0 rfl rfl ?_
  refine rm_iload_n dX8_refused_1 rfl rfl ?_
  refine rm_puti 24 dX8_refused_2 fwX8_100 rfl ?_
  refine rm_iconst (v := (-1 : Int32)) dX8_refused_5 (by decide) ?_
  refine rm_iret dX8_refused_6 rfl rfl ?_
  exact ⟨rfl, rfl⟩
theorem cM_done (d : Nat) (a : zv_I) (x : Int32) : rm_V mX8_done d 0 [.ref 3, .int x] [] a (rm_p x (zv_u a 3 24 (nI 0))) := by
  refine rm_aload_n dX8_done_0 rfl rfl ?_
  refine rm_iconst (v := nI (0)) dX8_done_1 (by decide) ?_
  refine rm_puti 24 dX8_done_2 fwX8_100 rfl ?_
  refine rm_iload_n dX8_done_5 rfl rfl ?_
  refine rm_iret dX8_done_6 rfl rfl ?_
  exact ⟨rfl, rfl⟩
theorem cM_status (d : Nat) (a : zv_I) : rm_V mX8_status d 0 [.ref 3] [] a (rm_p (a 3 24) a) := by
  refine rm_aload_n dX8_status_0 rfl rfl ?_
  refine rm_geti 24 (x := (a 3 24)) dX8_status_1 flX8_100 rfl (rfl) ?_
  refine rm_iret dX8_status_4 rfl rfl ?_
  exact ⟨rfl, rfl⟩
