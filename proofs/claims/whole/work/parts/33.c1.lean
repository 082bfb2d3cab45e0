def cb (x : Int32) (m : Nat) : Bool := decide ((x >>> ((nI m) &&& 31)) &&& nI 1 = nI 1)
theorem cb_z {x : Int32} {m : Nat} (h : (x >>> ((nI m) &&& 31)) &&& nI 1 = 0) : cb x m = false := decide_eq_false (by rw [h]; decide)
theorem cb_n {x : Int32} {m : Nat} (h : ¬ (x >>> ((nI m) &&& 31)) &&& nI 1 = 0) : cb x m = true := decide_eq_true ((rm_and1 _).resolve_left h)
theorem cl_0 {x : Int32} {n : Nat} (h : x < 0) : rm_lt x n = false := by
  have h1 := Int32.lt_iff_toInt_lt.mp h
  rw [show (0 : Int32).toInt = 0 from by decide] at h1
  exact decide_eq_false (by omega)
theorem cl_1 {x : Int32} {n : Nat} (hn : n < 2 ^ 31) (h : nI n ≤ x) : rm_lt x n = false := by
  have h1 := Int32.le_iff_toInt_le.mp h
  rw [nI_toInt hn] at h1
  exact decide_eq_false (by omega)
theorem cl_2 {x : Int32} {n : Nat} (hn : n < 2 ^ 31) (h0 : ¬ x < 0) (h : ¬ nI n ≤ x) : rm_lt x n = true := by
  have h1 := Int32.lt_iff_toInt_lt.mp (Int32.not_le.mp h)
  have h2 := Int32.le_iff_toInt_le.mp (Int32.not_lt.mp h0)
  rw [nI_toInt hn] at h1
  rw [show (0 : Int32).toInt = 0 from by decide] at h2
  exact decide_eq_true (by omega)
theorem cC_hasBit (d : Nat) {E : zv_E} {sh : zv_S} {I : zv_I} {J : zv_J} {R : zv_R} (x : Int32) (m : Nat) : zv_V E mX7_hasBit d 0 0 0 [.int x, .int (nI m)] [] sh I J R (cc_p (rm_b (cb x m)) sh I J R) := by
  refine zv_iload_n dX7_hasBit_0 rfl rfl ?_
  refine zv_iload_n dX7_hasBit_1 rfl rfl ?_
  refine zv_ishr dX7_hasBit_2 ?_
  refine zv_iconst (v := nI (1)) dX7_hasBit_3 (by decide) ?_
  refine zv_iand dX7_hasBit_4 ?_
  refine zv_if_eq (tgt := 12) dX7_hasBit_5 (by decide) (fun h5 => ?_) (fun h5 => ?_)
  · refine zv_iconst (v := nI (0)) dX7_hasBit_12 (by decide) ?_
    refine zv_iret dX7_hasBit_13 rfl rfl ?_
    exact ⟨by rw [cb_z h5]; rfl, rfl, rfl, rfl, rfl⟩
  · refine zv_iconst (v := nI (1)) dX7_hasBit_8 (by decide) ?_
    refine zv_goto (tgt := 13) dX7_hasBit_9 (by decide) ?_
    refine zv_iret dX7_hasBit_13 rfl rfl ?_
    exact ⟨by rw [cb_n h5]; rfl, rfl, rfl, rfl, rfl⟩
theorem cC_lowestMember_l (d : Nat) {E : zv_E} {sh : zv_S} {I : zv_I} {J : zv_J} {R : zv_R} (x : Int32) : ∀ n k, k + n = 8 → zv_V E mX7_lowestMember (d + 1) 0 0 2 [.int x, .int (nI k)] [] sh I J R (cc_p (rm_o (rm_fst (cb x) n k)) sh I J R) := by
  intro n
  induction n with
  | zero =>
    intro k hk
    have hk2 : k = 8 := by omega
    subst hk2
    refine zv_iload_n dX7_lowestMember_2 rfl rfl ?_
    refine zv_bipush (v := nI (8)) dX7_lowestMember_3 (by decide) ?_
    refine zv_icN_ge (tgt := 24) dX7_lowestMember_5 (by decide) (by omega) (by omega) (fun h5 => ?_) (fun h5 => (absurd h5 (by omega)))
    refine zv_iconst (v := (-1 : Int32)) dX7_lowestMember_24 (by decide) ?_
    refine zv_iret dX7_lowestMember_25 rfl rfl ?_
    exact ⟨rfl, rfl, rfl, rfl, rfl⟩
  | succ n ih =>
    intro k hk
    refine zv_iload_n dX7_lowestMember_2 rfl rfl ?_
    refine zv_bipush (v := nI (8)) dX7_lowestMember_3 (by decide) ?_
    refine zv_icN_ge (tgt := 24) dX7_lowestMember_5 (by decide) (by omega) (by omega) (fun h5 => (absurd h5 (by omega))) (fun h5 => ?_)
    refine zv_iload_n dX7_lowestMember_8 rfl rfl ?_
    refine zv_iload_n dX7_lowestMember_9 rfl rfl ?_
    refine cc_callS (As := [.int (x), .int (nI (k))]) (st := []) dX7_lowestMember_10 csX7_218 rfl (by decide) (cc_c1 rfl (cc_c1 rfl cc_c0)) (Nat.le_of_ble_eq_true rfl) (cC_hasBit (d) x k) (fun v s1 I1 J1 R1 q => ?_)
    obtain ⟨rfl, rfl, rfl, rfl, rfl⟩ := q
    show zv_V _ _ _ _ _ 13 [.int (x), .int (nI (k))] [.int (rm_b (cb x k))] _ _ _ _ _
    refine zv_ifB_eq (tgt := 18) dX7_lowestMember_13 (by decide) (fun h13 => ?_) (fun h13 => ?_)
    · refine zv_iinc (v := nI (k + 1)) (lv' := [.int (x), .int (nI (k + 1))]) dX7_lowestMember_18 rfl (by rw [← nI_1]; rfl) (by decide) rfl ?_
      refine zv_goto (tgt := 2) dX7_lowestMember_21 (by decide) ?_
      rw [rm_fst_f h13]
      exact ih (k + 1) (by omega)
    · refine zv_iload_n dX7_lowestMember_16 rfl rfl ?_
      refine zv_iret dX7_lowestMember_17 rfl rfl ?_
      exact ⟨by rw [rm_fst_t h13]; rfl, rfl, rfl, rfl, rfl⟩
theorem cC_lowestMember (d : Nat) {E : zv_E} {sh : zv_S} {I : zv_I} {J : zv_J} {R : zv_R} (x : Int32) : zv_V E mX7_lowestMember (d + 1) 0 0 0 [.int x] [] sh I J R (cc_p (rm_o (rm_fst (cb x) 8 0)) sh I J R) := by
  refine zv_iconst (v := nI (0)) dX7_lowestMember_0 (by decide) ?_
  refine zv_istore_n (lv' := [.int (x), .int (nI (0))]) dX7_lowestMember_1 rfl (by decide) rfl ?_
  exact cC_lowestMember_l d x 8 0 (by omega)
theorem cC_isMember (d : Nat) {E : zv_E} {sh : zv_S} {I : zv_I} {J : zv_J} {R : zv_R} (w : cc_W0 sh R) {n : Nat} (h : I 40 5 = nI n) (hn : n < 2 ^ 31) (x : Int32) : zv_V E mX7_isMember d 0 0 0 [.ref 40, .int x] [] sh I J R (cc_p (rm_b (rm_lt x n)) sh I J R) := by
  refine zv_iload_n dX7_isMember_0 rfl rfl ?_
  refine zv_if_lt (tgt := 16) dX7_isMember_1 (by decide) (fun h1 => ?_) (fun h1 => ?_)
  · refine zv_iconst (v := nI (0)) dX7_isMember_16 (by decide) ?_
    refine zv_iret dX7_isMember_17 rfl rfl ?_
    exact ⟨by rw [cl_0 h1]; rfl, rfl, rfl, rfl, rfl⟩
  · refine zv_iload_n dX7_isMember_4 rfl rfl ?_
    refine zv_aload_n dX7_isMember_5 rfl rfl ?_
    refine zv_geti 6 5 (x := nI (n)) dX7_isMember_6 flX7_42 (wW0_s40 w) rfl (h) ?_
    refine zv_icmp_ge (tgt := 16) dX7_isMember_9 (by decide) (fun h9 => ?_) (fun h9 => ?_)
    · refine zv_iconst (v := nI (0)) dX7_isMember_16 (by decide) ?_
      refine zv_iret dX7_isMember_17 rfl rfl ?_
      exact ⟨by rw [cl_1 hn h9]; rfl, rfl, rfl, rfl, rfl⟩
    · refine zv_iconst (v := nI (1)) dX7_isMember_12 (by decide) ?_
      refine zv_goto (tgt := 17) dX7_isMember_13 (by decide) ?_
      refine zv_iret dX7_isMember_17 rfl rfl ?_
      exact ⟨by rw [cl_2 hn h1 h9]; rfl, rfl, rfl, rfl, rfl⟩
theorem cC_isCircle (d : Nat) {E : zv_E} {sh : zv_S} {I : zv_I} {J : zv_J} {R : zv_R} (w : cc_W0 sh R) {n : Nat} (h : I 40 6 = nI n) (hn : n < 2 ^ 31) (x : Int32) : zv_V E mX7_isCircle d 0 0 0 [.ref 40, .int x] [] sh I J R (cc_p (rm_b (rm_lt x n)) sh I J R) := by
  refine zv_iload_n dX7_isCircle_0 rfl rfl ?_
  refine zv_if_lt (tgt := 16) dX7_isCircle_1 (by decide) (fun h1 => ?_) (fun h1 => ?_)
  · refine zv_iconst (v := nI (0)) dX7_isCircle_16 (by decide) ?_
    refine zv_iret dX7_isCircle_17 rfl rfl ?_
    exact ⟨by rw [cl_0 h1]; rfl, rfl, rfl, rfl, rfl⟩
  · refine zv_iload_n dX7_isCircle_4 rfl rfl ?_
    refine zv_aload_n dX7_isCircle_5 rfl rfl ?_
    refine zv_geti 6 6 (x := nI (n)) dX7_isCircle_6 flX7_58 (wW0_s40 w) rfl (h) ?_
    refine zv_icmp_ge (tgt := 16) dX7_isCircle_9 (by decide) (fun h9 => ?_) (fun h9 => ?_)
    · refine zv_iconst (v := nI (0)) dX7_isCircle_16 (by decide) ?_
      refine zv_iret dX7_isCircle_17 rfl rfl ?_
      exact ⟨by rw [cl_1 hn h9]; rfl, rfl, rfl, rfl, rfl⟩
    · refine zv_iconst (v := nI (1)) dX7_isCircle_12 (by decide) ?_
      refine zv_goto (tgt := 17) dX7_isCircle_13 (by decide) ?_
      refine zv_iret dX7_isCircle_17 rfl rfl ?_
      exact ⟨by rw [cl_2 hn h1 h9]; rfl, rfl, rfl, rfl, rfl⟩
theorem cC_isLetter (d : Nat) {E : zv_E} {sh : zv_S} {I : zv_I} {J : zv_J} {R : zv_R} (w : cc_W0 sh R) {n : Nat} (h : I 40 7 = nI n) (hn : n < 2 ^ 31) (x : Int32) : zv_V E mX7_isLetter d 0 0 0 [.ref 40, .int x] [] sh I J R (cc_p (rm_b (rm_lt x n)) sh I J R) := by
  refine zv_iload_n dX7_isLetter_0 rfl rfl ?_
  refine zv_if_lt (tgt := 16) dX7_isLetter_1 (by decide) (fun h1 => ?_) (fun h1 => ?_)
  · refine zv_iconst (v := nI (0)) dX7_isLetter_16 (by decide) ?_
    refine zv_iret dX7_isLetter_17 rfl rfl ?_
    exact ⟨by rw [cl_0 h1]; rfl, rfl, rfl, rfl, rfl⟩
  · refine zv_iload_n dX7_isLetter_4 rfl rfl ?_
    refine zv_aload_n dX7_isLetter_5 rfl rfl ?_
    refine zv_geti 6 7 (x := nI (n)) dX7_isLetter_6 flX7_95 (wW0_s40 w) rfl (h) ?_
    refine zv_icmp_ge (tgt := 16) dX7_isLetter_9 (by decide) (fun h9 => ?_) (fun h9 => ?_)
    · refine zv_iconst (v := nI (0)) dX7_isLetter_16 (by decide) ?_
      refine zv_iret dX7_isLetter_17 rfl rfl ?_
      exact ⟨by rw [cl_1 hn h9]; rfl, rfl, rfl, rfl, rfl⟩
    · refine zv_iconst (v := nI (1)) dX7_isLetter_12 (by decide) ?_
      refine zv_goto (tgt := 17) dX7_isLetter_13 (by decide) ?_
      refine zv_iret dX7_isLetter_17 rfl rfl ?_
      exact ⟨by rw [cl_2 hn h1 h9]; rfl, rfl, rfl, rfl, rfl⟩
theorem cC_isSlot (d : Nat) {E : zv_E} {sh : zv_S} {I : zv_I} {J : zv_J} {R : zv_R} (x : Int32) : zv_V E mX7_isSlot d 0 0 0 [.int x] [] sh I J R (cc_p (rm_b (rm_lt x 40)) sh I J R) := by
  refine zv_iload_n dX7_isSlot_0 rfl rfl ?_
  refine zv_if_lt (tgt := 14) dX7_isSlot_1 (by decide) (fun h1 => ?_) (fun h1 => ?_)
  · refine zv_iconst (v := nI (0)) dX7_isSlot_14 (by decide) ?_
    refine zv_iret dX7_isSlot_15 rfl rfl ?_
    exact ⟨by rw [cl_0 h1]; rfl, rfl, rfl, rfl, rfl⟩
  · refine zv_iload_n dX7_isSlot_4 rfl rfl ?_
    refine zv_bipush (v := nI (40)) dX7_isSlot_5 (by decide) ?_
    refine zv_icmp_ge (tgt := 14) dX7_isSlot_7 (by decide) (fun h7 => ?_) (fun h7 => ?_)
    · refine zv_iconst (v := nI (0)) dX7_isSlot_14 (by decide) ?_
      refine zv_iret dX7_isSlot_15 rfl rfl ?_
      exact ⟨by rw [cl_1 (by decide) h7]; rfl, rfl, rfl, rfl, rfl⟩
    · refine zv_iconst (v := nI (1)) dX7_isSlot_10 (by decide) ?_
      refine zv_goto (tgt := 15) dX7_isSlot_11 (by decide) ?_
      refine zv_iret dX7_isSlot_15 rfl rfl ?_
      exact ⟨by rw [cl_2 (by decide) h1 h7]; rfl, rfl, rfl, rfl, rfl⟩
theorem cC_done (d : Nat) {E : zv_E} {sh : zv_S} {I : zv_I} {J : zv_J} {R : zv_R} (w : cc_W0 sh R) (x : Int32) : zv_V E mX7_done d 0 0 0 [.ref 40, .int x] [] sh I J R (cc_p x sh (zv_u I 40 9 (nI 0)) J R) := by
  refine zv_aload_n dX7_done_0 rfl rfl ?_
  refine zv_iconst (v := nI (0)) dX7_done_1 (by decide) ?_
  refine zv_puti 6 9 dX7_done_2 fwX7_38 (wW0_s40 w) rfl ?_
  refine zv_iload_n dX7_done_5 rfl rfl ?_
  refine zv_iret dX7_done_6 rfl rfl ?_
  exact ⟨rfl, rfl, rfl, rfl, rfl⟩
theorem cC_refuse (d : Nat) {E : zv_E} {sh : zv_S} {I : zv_I} {J : zv_J} {R : zv_R} (w : cc_W0 sh R) (x : Int32) : zv_V E mX7_refuse d 0 0 0 [.ref 40, .int x] [] sh I J R (cc_p (-1 : Int32) sh (zv_u I 40 9 x) J R) := by
  refine zv_aload_n dX7_refuse_0 rfl rfl ?_
  refine zv_iload_n dX7_refuse_1 rfl rfl ?_
  refine zv_puti 6 9 dX7_refuse_2 fwX7_38 (wW0_s40 w) rfl ?_
  refine zv_iconst (v := (-1 : Int32)) dX7_refuse_5 (by decide) ?_
  refine zv_iret dX7_refuse_6 rfl rfl ?_
  exact ⟨rfl, rfl, rfl, rfl, rfl⟩
theorem cC_status (d : Nat) {E : zv_E} {sh : zv_S} {I : zv_I} {J : zv_J} {R : zv_R} (w : cc_W0 sh R) : zv_V E mX7_status d 0 0 0 [.ref 40] [] sh I J R (cc_p (I 40 9) sh I J R) := by
  refine zv_aload_n dX7_status_0 rfl rfl ?_
  refine zv_geti 6 9 (x := (I (40) 9)) dX7_status_1 flX7_38 (wW0_s40 w) rfl (rfl) ?_
  refine zv_iret dX7_status_4 rfl rfl ?_
  exact ⟨rfl, rfl, rfl, rfl, rfl⟩
def cs_bit (f : Nat → Int64) (n : Nat) : Bool := (f (n / 64)).toBitVec.getLsbD (n % 64)
theorem cs_s : ∀ k, k < 64 → (((nI k).toInt64.toUInt64 &&& Int64.toUInt64 63).toBitVec % 64).toNat = k := by decide +kernel
theorem cs_l : ∀ k, k < 64 → ((1 : Int64) <<< ((nI k).toInt64 &&& 63)).toBitVec = BitVec.twoPow 64 k := by decide +kernel
theorem cs_has (x : Int64) {k : Nat} (hk : k < 64) : ((x.toUInt64 >>> ((nI k).toInt64.toUInt64 &&& Int64.toUInt64 63)).toInt64 &&& 1) = 0 ↔ x.toBitVec.getLsbD k = false := by
  have e : ((x.toUInt64 >>> ((nI k).toInt64.toUInt64 &&& Int64.toUInt64 63)).toInt64).toBitVec = x.toBitVec >>> k := by
    show x.toBitVec >>> (((nI k).toInt64.toUInt64 &&& Int64.toUInt64 63).toBitVec % 64) = x.toBitVec >>> k
    rw [BitVec.ushiftRight_eq', cs_s k hk]
  rw [← Int64.toBitVec_inj, Int64.toBitVec_and, e]
  show (x.toBitVec >>> k &&& 1#64) = 0#64 ↔ _
  rw [BitVec.and_one_eq_setWidth_ofBool_getLsbD, BitVec.getLsbD_ushiftRight, Nat.add_zero]
  cases hb : x.toBitVec.getLsbD k
  · exact ⟨fun _ => rfl, fun _ => by decide⟩
  · exact ⟨fun z => absurd z (by decide), fun z => by cases z⟩
def cs_add (J : zv_J) (tw n : Nat) : zv_J := zv_u J tw (n / 64) (J tw (n / 64) ||| (1 : Int64) <<< ((nI (n % 64)).toInt64 &&& 63))
theorem cs_add_b (J : zv_J) (tw n k : Nat) : cs_bit (cs_add J tw n tw) k = (decide (k = n) || cs_bit (J tw) k) := by
  unfold cs_bit cs_add
  by_cases h : k / 64 = n / 64
  · rw [h, zv_u_s, Int64.toBitVec_or, BitVec.getLsbD_or, cs_l _ (Nat.mod_lt _ (by decide)), BitVec.getLsbD_twoPow]
    by_cases g : k = n
    · subst g
      rw [decide_eq_true rfl, decide_eq_true rfl, decide_eq_true (Nat.mod_lt _ (by decide))]
      simp
    · rw [decide_eq_false g, decide_eq_false (show ¬ n % 64 = k % 64 by omega)]
      simp
  · rw [zv_u_j _ _ h, decide_eq_false (show ¬ k = n by omega)]
    rfl
theorem cs_add_o {J : zv_J} {tw n t : Nat} (h : t ≠ tw) : cs_add J tw n t = J t := zv_u_row _ _ _ _ h
def cs_or (J : zv_J) (tw tv n : Nat) : zv_J := fun t j => if t = tw ∧ j < n then J tw j ||| J tv j else J t j
theorem cs_or_b (J : zv_J) (tw tv : Nat) {k : Nat} (hk : k < 256) : cs_bit (cs_or J tw tv 4 tw) k = (cs_bit (J tw) k || cs_bit (J tv) k) := by
  unfold cs_bit cs_or
  rw [if_pos ⟨rfl, by omega⟩, Int64.toBitVec_or, BitVec.getLsbD_or]
theorem cs_or_o {J : zv_J} {tw tv n t : Nat} (h : t ≠ tw) : cs_or J tw tv n t = J t := funext fun j => if_neg fun q => h q.1
theorem cs_or_0 (J : zv_J) (tw tv : Nat) : cs_or J tw tv 0 = J := funext fun t => funext fun j => if_neg fun q => Nat.not_lt_zero _ q.2
theorem cs_or_n (J : zv_J) (tw tv n : Nat) : zv_u (cs_or J tw tv n) tw n (J tw n ||| J tv n) = cs_or J tw tv (n + 1) := by
  funext t j
  unfold zv_u cs_or
  by_cases e : t = tw ∧ j = n
  · rw [if_pos e, if_pos ⟨e.1, by omega⟩, e.2]
  · rw [if_neg e]
    by_cases f : t = tw ∧ j < n
    · rw [if_pos f, if_pos ⟨f.1, by omega⟩]
    · rw [if_neg f, if_neg (fun q => (Nat.lt_or_ge j n).elim (fun g => f ⟨q.1, g⟩) (fun g => e ⟨q.1, by omega⟩))]
theorem cl_nn {n : Nat} (h : n < 2 ^ 31) : ¬ nI n < 0 := by
  intro q
  have h1 := Int32.lt_iff_toInt_lt.mp q
  rw [nI_toInt h, show (0 : Int32).toInt = 0 from by decide] at h1
  omega
theorem cC_add (d : Nat) {E : zv_E} {sh : zv_S} {I : zv_I} {J : zv_J} {R : zv_R} {t tw : Nat} (hs : sh t = some (14, 0)) (hr : R t 0 = some tw) (hw : sh tw = some (1, 4)) {n : Nat} (hn : n < 200) : zv_V E mX4_add d 0 0 0 [.ref t, .int (nI n)] [] sh I J R (cc_q sh I (cs_add J tw n) R) := by
  refine zv_iload_n dX4_add_0 rfl rfl ?_
  refine zv_if_lt (tgt := 29) dX4_add_1 (by decide) (fun h1 => (absurd h1 (cl_nn (by omega)))) (fun h1 => ?_)
  refine zv_iload_n dX4_add_4 rfl rfl ?_
  refine zv_sipush (v := nI (200)) dX4_add_5 (by decide) ?_
  refine zv_icN_ge (tgt := 29) dX4_add_8 (by decide) (by omega) (by omega) (fun h8 => (absurd h8 (by omega))) (fun h8 => ?_)
  refine zv_aload_n dX4_add_11 rfl rfl ?_
  refine zv_getr 4 0 (u := tw) dX4_add_12 flX4_11 (hs) rfl (hr) ?_
  refine zv_iload_n dX4_add_15 rfl rfl ?_
  refine zv_bipush (v := nI (64)) dX4_add_16 (by decide) ?_
  refine zv_idiv dX4_add_18 (by decide) ?_
  refine cc_top (pk_div (a := n) (d := 64) (by omega) (by decide) (by decide)) ?_
  refine zv_dup2 dX4_add_19 rfl rfl ?_
  refine zv_lald (j := n / 64) (x := (J (tw) (n / 64))) dX4_add_20 (hw) (rfl) (show n / 64 < 4 from by omega) (by decide) (rfl) ?_
  refine zv_lconst (v := 1) dX4_add_21 rfl ?_
  refine zv_iload_n dX4_add_22 rfl rfl ?_
  refine zv_bipush (v := nI (64)) dX4_add_23 (by decide) ?_
  refine zv_irem dX4_add_25 (by decide) ?_
  refine cc_top (pk_rem (a := n) (d := 64) (by omega) (by decide) (by decide)) ?_
  refine zv_lshl (v := (1) <<< ((nI (n % 64)).toInt64 &&& 63)) dX4_add_26 rfl ?_
  refine zv_lor dX4_add_27 ?_
  refine zv_last (j := n / 64) dX4_add_28 (hw) (rfl) (show n / 64 < 4 from by omega) (by decide) ?_
  refine zv_vret dX4_add_29 rfl ?_
  exact ⟨rfl, rfl, rfl, rfl, rfl⟩
theorem cC_addAll_l (d : Nat) {E : zv_E} {sh : zv_S} {I : zv_I} {J : zv_J} {R : zv_R} {t tw : Nat} (hs : sh t = some (14, 0)) (hr : R t 0 = some tw) (hw : sh tw = some (1, 4)) {u tv : Nat} (gs : sh u = some (14, 0)) (gr : R u 0 = some tv) (gw : sh tv = some (1, 4)) (hne : tv ≠ tw) : ∀ n k, k + n = 4 → zv_V E mX4_addAll d 0 0 2 [.ref t, .ref u, .int (nI k)] [] sh I (cs_or J tw tv k) R (cc_q sh I (cs_or J tw tv 4) R) := by
  intro n
  induction n with
  | zero =>
    intro k hk
    have hk2 : k = 4 := by omega
    subst hk2
    refine zv_iload_n dX4_addAll_2 rfl rfl ?_
    refine zv_aload_n dX4_addAll_3 rfl rfl ?_
    refine zv_getr 4 0 (u := tw) dX4_addAll_4 flX4_11 (hs) rfl (hr) ?_
    refine zv_alen dX4_addAll_7 (hw) (by decide) ?_
    refine zv_icN_ge (tgt := 32) dX4_addAll_8 (by decide) (by omega) (by omega) (fun h8 => ?_) (fun h8 => (absurd h8 (by omega)))
    refine zv_vret dX4_addAll_32 rfl ?_
    exact ⟨rfl, rfl, rfl, rfl, rfl⟩
  | succ n ih =>
    intro k hk
    refine zv_iload_n dX4_addAll_2 rfl rfl ?_
    refine zv_aload_n dX4_addAll_3 rfl rfl ?_
    refine zv_getr 4 0 (u := tw) dX4_addAll_4 flX4_11 (hs) rfl (hr) ?_
    refine zv_alen dX4_addAll_7 (hw) (by decide) ?_
    refine zv_icN_ge (tgt := 32) dX4_addAll_8 (by decide) (by omega) (by omega) (fun h8 => (absurd h8 (by omega))) (fun h8 => ?_)
    refine zv_aload_n dX4_addAll_11 rfl rfl ?_
    refine zv_getr 4 0 (u := tw) dX4_addAll_12 flX4_11 (hs) rfl (hr) ?_
    refine zv_iload_n dX4_addAll_15 rfl rfl ?_
    refine zv_dup2 dX4_addAll_16 rfl rfl ?_
    refine zv_lald (j := k) (x := J tw k) dX4_addAll_17 (hw) (rfl) (show k < 4 from by omega) (by decide) (if_neg (fun q => by omega)) ?_
    refine zv_aload_n dX4_addAll_18 rfl rfl ?_
    refine zv_getr 4 0 (u := tv) dX4_addAll_19 flX4_11 (gs) rfl (gr) ?_
    refine zv_iload_n dX4_addAll_22 rfl rfl ?_
    refine zv_lald (j := k) (x := J tv k) dX4_addAll_23 (gw) (rfl) (show k < 4 from by omega) (by decide) (if_neg (fun q => hne q.1)) ?_
    refine zv_lor dX4_addAll_24 ?_
    refine zv_last (j := k) dX4_addAll_25 (hw) (rfl) (show k < 4 from by omega) (by decide) ?_
    rw [cs_or_n]
    refine zv_iinc (v := nI (k + 1)) (lv' := [.ref (t), .ref (u), .int (nI (k + 1))]) dX4_addAll_26 rfl (by rw [← nI_1]; rfl) (by decide) rfl ?_
    refine zv_goto (tgt := 2) dX4_addAll_29 (by decide) ?_
    exact ih (k + 1) (by omega)
theorem cC_addAll (d : Nat) {E : zv_E} {sh : zv_S} {I : zv_I} {J : zv_J} {R : zv_R} {t tw : Nat} (hs : sh t = some (14, 0)) (hr : R t 0 = some tw) (hw : sh tw = some (1, 4)) {u tv : Nat} (gs : sh u = some (14, 0)) (gr : R u 0 = some tv) (gw : sh tv = some (1, 4)) (hne : tv ≠ tw) : zv_V E mX4_addAll d 0 0 0 [.ref t, .ref u] [] sh I J R (cc_q sh I (cs_or J tw tv 4) R) := by
  refine zv_iconst (v := nI (0)) dX4_addAll_0 (by decide) ?_
  refine zv_istore_n (lv' := [.ref (t), .ref (u), .int (nI (0))]) dX4_addAll_1 rfl (by decide) rfl ?_
  have h9 := cC_addAll_l (E := E) (I := I) (J := J) d hs hr hw gs gr gw hne 4 0 (by omega)
  rw [cs_or_0] at h9
  exact h9
theorem cs_cmp {x y : Int64} : lg_cmp x y = 0 ↔ x = y := by
  unfold lg_cmp
  by_cases h : x > y
  · rw [if_pos h]
    exact ⟨fun q => absurd q (by decide), fun q => absurd h (by rw [q]; exact Int64.lt_irrefl)⟩
  · rw [if_neg h]
    by_cases g : x = y
    · rw [if_pos g]
      exact ⟨fun _ => g, fun _ => rfl⟩
    · rw [if_neg g]
      exact ⟨fun q => absurd q (by decide), fun q => absurd q g⟩
theorem cC_has (d : Nat) {E : zv_E} {sh : zv_S} {I : zv_I} {J : zv_J} {R : zv_R} {t tw : Nat} (hs : sh t = some (14, 0)) (hr : R t 0 = some tw) (hw : sh tw = some (1, 4)) {n : Nat} (hn : n < 200) : zv_V E mX4_has d 0 0 0 [.ref t, .int (nI n)] [] sh I J R (cc_p (rm_b (cs_bit (J tw) n)) sh I J R) := by
  refine zv_iload_n dX4_has_0 rfl rfl ?_
  refine zv_if_lt (tgt := 36) dX4_has_1 (by decide) (fun h1 => (absurd h1 (cl_nn (by omega)))) (fun h1 => ?_)
  refine zv_iload_n dX4_has_4 rfl rfl ?_
  refine zv_sipush (v := nI (200)) dX4_has_5 (by decide) ?_
  refine zv_icN_ge (tgt := 36) dX4_has_8 (by decide) (by omega) (by omega) (fun h8 => (absurd h8 (by omega))) (fun h8 => ?_)
  refine zv_aload_n dX4_has_11 rfl rfl ?_
  refine zv_getr 4 0 (u := tw) dX4_has_12 flX4_11 (hs) rfl (hr) ?_
  refine zv_iload_n dX4_has_15 rfl rfl ?_
  refine zv_bipush (v := nI (64)) dX4_has_16 (by decide) ?_
  refine zv_idiv dX4_has_18 (by decide) ?_
  refine cc_top (pk_div (a := n) (d := 64) (by omega) (by decide) (by decide)) ?_
  refine zv_lald (j := n / 64) (x := (J (tw) (n / 64))) dX4_has_19 (hw) (rfl) (show n / 64 < 4 from by omega) (by decide) (rfl) ?_
  refine zv_iload_n dX4_has_20 rfl rfl ?_
  refine zv_bipush (v := nI (64)) dX4_has_21 (by decide) ?_
  refine zv_irem dX4_has_23 (by decide) ?_
  refine cc_top (pk_rem (a := n) (d := 64) (by omega) (by decide) (by decide)) ?_
  refine zv_lushr (v := (((J (tw) (n / 64))).toUInt64 >>> ((nI (n % 64)).toInt64.toUInt64 &&& Int64.toUInt64 63)).toInt64) dX4_has_24 rfl ?_
  refine zv_lconst (v := 1) dX4_has_25 rfl ?_
  refine zv_land dX4_has_26 ?_
  refine zv_lconst (v := 0) dX4_has_27 rfl ?_
  refine zv_lcmp (v := lg_cmp (((((J (tw) (n / 64))).toUInt64 >>> ((nI (n % 64)).toInt64.toUInt64 &&& Int64.toUInt64 63)).toInt64) &&& (1)) (0)) dX4_has_28 rfl ?_
  refine zv_if_eq (tgt := 36) dX4_has_29 (by decide) (fun h29 => ?_) (fun h29 => ?_)
  · refine zv_iconst (v := nI (0)) dX4_has_36 (by decide) ?_
    refine zv_iret dX4_has_37 rfl rfl ?_
    exact ⟨by rw [show cs_bit (J tw) n = false from (cs_has _ (Nat.mod_lt _ (by decide))).mp (cs_cmp.mp h29)]; rfl, rfl, rfl, rfl, rfl⟩
  · refine zv_iconst (v := nI (1)) dX4_has_32 (by decide) ?_
    refine zv_goto (tgt := 37) dX4_has_33 (by decide) ?_
    refine zv_iret dX4_has_37 rfl rfl ?_
    exact ⟨by rw [show cs_bit (J tw) n = true from eq_true_of_ne_false (fun q => h29 (cs_cmp.mpr ((cs_has _ (Nat.mod_lt _ (by decide))).mpr q)))]; rfl, rfl, rfl, rfl, rfl⟩
def ct_b (I : zv_I) (n b : Nat) : zv_I := zv_u (zv_u I 46 n (nI b)) 45 1 (nI (n + 1))
theorem cC_begin (d : Nat) {E : zv_E} {sh : zv_S} {I : zv_I} {J : zv_J} {R : zv_R} (w : cc_W0 sh R) {n b : Nat} (ht : I 45 1 = nI n) (hn : n < 60) : zv_V E mX6_begin d 0 0 0 [.ref 45, .int (nI b)] [] sh I J R (cc_q sh (ct_b I n b) J R) := by
  refine zv_aload_n dX6_begin_0 rfl rfl ?_
  refine zv_geti 5 1 (x := nI (n)) dX6_begin_1 flX6_15 (wW0_s45 w) rfl (ht) ?_
  refine zv_aload_n dX6_begin_4 rfl rfl ?_
  refine zv_getr 5 0 (u := 46) dX6_begin_5 flX6_9 (wW0_s45 w) rfl (wW0_b w) ?_
  refine zv_alen dX6_begin_8 (wW0_s46 w) (by decide) ?_
  refine zv_icN_ge (tgt := 22) dX6_begin_9 (by decide) (by omega) (by omega) (fun h9 => (absurd h9 (by omega))) (fun h9 => ?_)
  refine zv_aload_n dX6_begin_12 rfl rfl ?_
  refine zv_getr 5 0 (u := 46) dX6_begin_13 flX6_9 (wW0_s45 w) rfl (wW0_b w) ?_
  refine zv_aload_n dX6_begin_16 rfl rfl ?_
  refine zv_geti 5 1 (x := nI (n)) dX6_begin_17 flX6_15 (wW0_s45 w) rfl (ht) ?_
  refine zv_iload_n dX6_begin_20 rfl rfl ?_
  refine zv_iast (j := n) dX6_begin_21 (wW0_s46 w) (rfl) (show n < 60 from by omega) (by decide) ?_
  refine zv_aload_n dX6_begin_22 rfl rfl ?_
  refine zv_dup dX6_begin_23 rfl ?_
  refine zv_geti 5 1 (x := nI (n)) dX6_begin_24 flX6_15 (wW0_s45 w) rfl ((show zv_u I 46 n (nI b) 45 1 = nI n from by rw [zv_u_row _ _ _ _ (by decide)]; exact ht)) ?_
  refine zv_iconst (v := nI (1)) dX6_begin_27 (by decide) ?_
  refine zv_iadd dX6_begin_28 ?_
  refine cc_top (nI_add (n) (1)) ?_
  refine zv_puti 5 1 dX6_begin_29 fwX6_15 (wW0_s45 w) rfl ?_
  refine zv_vret dX6_begin_32 rfl ?_
  exact ⟨rfl, rfl, rfl, rfl, rfl⟩
theorem cC_restart (d : Nat) {E : zv_E} {sh : zv_S} {I : zv_I} {J : zv_J} {R : zv_R} (w : cc_W0 sh R) : zv_V E mX6_restart d 0 0 0 [.ref 45] [] sh I J R (cc_q sh (zv_u I 45 1 (nI 0)) J R) := by
  refine zv_aload_n dX6_restart_0 rfl rfl ?_
  refine zv_iconst (v := nI (0)) dX6_restart_1 (by decide) ?_
  refine zv_puti 5 1 dX6_restart_2 fwX6_15 (wW0_s45 w) rfl ?_
  refine zv_vret dX6_restart_5 rfl ?_
  exact ⟨rfl, rfl, rfl, rfl, rfl⟩
theorem cC_begunCount (d : Nat) {E : zv_E} {sh : zv_S} {I : zv_I} {J : zv_J} {R : zv_R} (w : cc_W0 sh R) {x : Int32} (ht : I 45 1 = x) : zv_V E mX6_begunCount d 0 0 0 [.ref 45] [] sh I J R (cc_p x sh I J R) := by
  refine zv_aload_n dX6_begunCount_0 rfl rfl ?_
  refine zv_geti 5 1 (x := x) dX6_begunCount_1 flX6_15 (wW0_s45 w) rfl (ht) ?_
  refine zv_iret dX6_begunCount_4 rfl rfl ?_
  exact ⟨rfl, rfl, rfl, rfl, rfl⟩
theorem cC_bodyAt (d : Nat) {E : zv_E} {sh : zv_S} {I : zv_I} {J : zv_J} {R : zv_R} (w : cc_W0 sh R) {n : Nat} (ht : I 45 1 = nI n) (hn : n ≤ 60) (i : Int32) : zv_V E mX6_bodyAt d 0 0 0 [.ref 45, .int i] [] sh I J R (cc_p (if rm_lt i n = true then I 46 (rm_nv i) else -1) sh I J R) := by
  refine zv_iload_n dX6_bodyAt_0 rfl rfl ?_
  refine zv_if_lt (tgt := 30) dX6_bodyAt_1 (by decide) (fun h1 => ?_) (fun h1 => ?_)
  · refine zv_iconst (v := (-1 : Int32)) dX6_bodyAt_30 (by decide) ?_
    refine zv_iret dX6_bodyAt_31 rfl rfl ?_
    exact ⟨by rw [show rm_lt i n = false from cl_0 h1]; rfl, rfl, rfl, rfl, rfl⟩
  · refine zv_iload_n dX6_bodyAt_4 rfl rfl ?_
    refine zv_aload_n dX6_bodyAt_5 rfl rfl ?_
    refine zv_geti 5 1 (x := nI (n)) dX6_bodyAt_6 flX6_15 (wW0_s45 w) rfl (ht) ?_
    refine zv_icmp_ge (tgt := 30) dX6_bodyAt_9 (by decide) (fun h9 => ?_) (fun h9 => ?_)
    · refine zv_iconst (v := (-1 : Int32)) dX6_bodyAt_30 (by decide) ?_
      refine zv_iret dX6_bodyAt_31 rfl rfl ?_
      exact ⟨by rw [show rm_lt i n = false from cl_1 (by omega) h9]; rfl, rfl, rfl, rfl, rfl⟩
    · have hi5 := cl_2 (by omega) h1 h9
      obtain ⟨i1, hi1, rfl⟩ := rm_lt_t hi5 (by omega)
      refine zv_iload_n dX6_bodyAt_12 rfl rfl ?_
      refine zv_aload_n dX6_bodyAt_13 rfl rfl ?_
      refine zv_getr 5 0 (u := 46) dX6_bodyAt_14 flX6_9 (wW0_s45 w) rfl (wW0_b w) ?_
      refine zv_alen dX6_bodyAt_17 (wW0_s46 w) (by decide) ?_
      refine zv_icN_ge (tgt := 30) dX6_bodyAt_18 (by decide) (by omega) (by omega) (fun h18 => (absurd h18 (by omega))) (fun h18 => ?_)
      refine zv_aload_n dX6_bodyAt_21 rfl rfl ?_
      refine zv_getr 5 0 (u := 46) dX6_bodyAt_22 flX6_9 (wW0_s45 w) rfl (wW0_b w) ?_
      refine zv_iload_n dX6_bodyAt_25 rfl rfl ?_
      refine zv_iald (j := i1) (x := (I (46) (i1))) dX6_bodyAt_26 (wW0_s46 w) (rfl) (show i1 < 60 from by omega) (by decide) (rfl) ?_
      refine zv_goto (tgt := 31) dX6_bodyAt_27 (by decide) ?_
      refine zv_iret dX6_bodyAt_31 rfl rfl ?_
      exact ⟨by rw [hi5, if_pos rfl, rm_nv_n (n := i1) (by omega)], rfl, rfl, rfl, rfl⟩
theorem cC_isOnLineTo (d : Nat) {E : zv_E} {sh : zv_S} {I : zv_I} {J : zv_J} {R : zv_R} {l m : Nat} (w : cc_WL sh R l) : zv_V E mX2_isOnLineTo (d + 1) 0 0 0 [.ref (300 + 3 * l), .int (nI m)] [] sh I J R (cc_p (rm_b (cb (I (300 + 3 * l) 11) m)) sh I J R) := by
  refine zv_aload_n dX2_isOnLineTo_0 rfl rfl ?_
  refine zv_geti 2 11 (x := (I (300 + 3 * l) 11)) dX2_isOnLineTo_1 flX2_47 (wWL_s w) rfl (rfl) ?_
  refine zv_iload_n dX2_isOnLineTo_4 rfl rfl ?_
  refine cc_callS (As := [.int ((I (300 + 3 * l) 11)), .int (nI (m))]) (st := []) dX2_isOnLineTo_5 csX2_50 rfl (by decide) (cc_c1 rfl (cc_c1 rfl cc_c0)) (Nat.le_of_ble_eq_true rfl) (cC_hasBit (d) ((I (300 + 3 * l) 11)) m) (fun v s1 I1 J1 R1 q => ?_)
  obtain ⟨rfl, rfl, rfl, rfl, rfl⟩ := q
  show zv_V _ _ _ _ _ 8 [.ref (300 + 3 * l), .int (nI (m))] [.int (rm_b (cb ((I (300 + 3 * l) 11)) m))] _ _ _ _ _
  refine zv_iret dX2_isOnLineTo_8 rfl (rm_nb _) ?_
  exact ⟨rfl, rfl, rfl, rfl, rfl⟩
theorem cC_isGivenBy (d : Nat) {E : zv_E} {sh : zv_S} {I : zv_I} {J : zv_J} {R : zv_R} {l m : Nat} (w : cc_WL sh R l) : zv_V E mX2_isGivenBy (d + 1) 0 0 0 [.ref (300 + 3 * l), .int (nI m)] [] sh I J R (cc_p (rm_b (cb (I (300 + 3 * l) 12) m)) sh I J R) := by
  refine zv_aload_n dX2_isGivenBy_0 rfl rfl ?_
  refine zv_geti 2 12 (x := (I (300 + 3 * l) 12)) dX2_isGivenBy_1 flX2_54 (wWL_s w) rfl (rfl) ?_
  refine zv_iload_n dX2_isGivenBy_4 rfl rfl ?_
  refine cc_callS (As := [.int ((I (300 + 3 * l) 12)), .int (nI (m))]) (st := []) dX2_isGivenBy_5 csX2_50 rfl (by decide) (cc_c1 rfl (cc_c1 rfl cc_c0)) (Nat.le_of_ble_eq_true rfl) (cC_hasBit (d) ((I (300 + 3 * l) 12)) m) (fun v s1 I1 J1 R1 q => ?_)
  obtain ⟨rfl, rfl, rfl, rfl, rfl⟩ := q
  show zv_V _ _ _ _ _ 8 [.ref (300 + 3 * l), .int (nI (m))] [.int (rm_b (cb ((I (300 + 3 * l) 12)) m))] _ _ _ _ _
  refine zv_iret dX2_isGivenBy_8 rfl (rm_nb _) ?_
  exact ⟨rfl, rfl, rfl, rfl, rfl⟩
theorem cC_nextSerial (d : Nat) {E : zv_E} {sh : zv_S} {I : zv_I} {J : zv_J} {R : zv_R} {m c : Nat} (w : cc_WM sh R m) (hc : c < 6) : zv_V E mX3_nextSerial d 0 0 0 [.ref (100 + 20 * m), .int (nI c)] [] sh I J R (cc_p (I (108 + 20 * m) c + nI 1) sh (zv_u I (108 + 20 * m) c (I (108 + 20 * m) c + nI 1)) J R) := by
  refine zv_aload_n dX3_nextSerial_0 rfl rfl ?_
  refine zv_getr 3 1 (u := 108 + 20 * m) dX3_nextSerial_1 flX3_16 (wWM_s w) rfl (wWM_r1 w) ?_
  refine zv_iload_n dX3_nextSerial_4 rfl rfl ?_
  refine zv_dup2 dX3_nextSerial_5 rfl rfl ?_
  refine zv_iald (j := c) (x := (I (108 + 20 * m) (c))) dX3_nextSerial_6 (wWM_s1 w) (rfl) (show c < 6 from by omega) (by decide) (rfl) ?_
  refine zv_iconst (v := nI (1)) dX3_nextSerial_7 (by decide) ?_
  refine zv_iadd dX3_nextSerial_8 ?_
  refine zv_iast (j := c) dX3_nextSerial_9 (wWM_s1 w) (rfl) (show c < 6 from by omega) (by decide) ?_
  refine zv_aload_n dX3_nextSerial_10 rfl rfl ?_
  refine zv_getr 3 1 (u := 108 + 20 * m) dX3_nextSerial_11 flX3_16 (wWM_s w) rfl (wWM_r1 w) ?_
  refine zv_iload_n dX3_nextSerial_14 rfl rfl ?_
  refine zv_iald (j := c) (x := (((zv_u I (108 + 20 * m) (c) ((((I (108 + 20 * m) (c))) + (nI (1)))))) (108 + 20 * m) (c))) dX3_nextSerial_15 (wWM_s1 w) (rfl) (show c < 6 from by omega) (by decide) (rfl) ?_
  refine zv_iret dX3_nextSerial_16 rfl rfl ?_
  exact ⟨by rw [zv_u_s], rfl, rfl, rfl, rfl⟩
