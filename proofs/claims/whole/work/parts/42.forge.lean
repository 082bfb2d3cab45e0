theorem cU_0_0 (d : Nat) {E : zv_E} {sh : zv_S} {I : zv_I} {J : zv_J} {R : zv_R} : zv_V E mX7_isKindOrUnder d 0 0 0 [.int (nI 0), .int (nI 0)] [] sh I J R (cc_p (rm_b (rm_of 5 0 0)) sh I J R) := by
  refine zv_iload_n dX7_isKindOrUnder_0 rfl rfl ?_
  refine zv_istore_n (lv' := [.int (nI (0)), .int (nI (0)), .int (nI (0))]) dX7_isKindOrUnder_1 rfl (by decide) rfl ?_
  refine zv_iconst (v := nI (0)) dX7_isKindOrUnder_2 (by decide) ?_
  refine zv_istore_n (lv' := [.int (nI (0)), .int (nI (0)), .int (nI (0)), .int (nI (0))]) dX7_isKindOrUnder_3 rfl (by decide) rfl ?_
  refine zv_iload_n dX7_isKindOrUnder_4 rfl rfl ?_
  refine zv_bipush (v := nI (6)) dX7_isKindOrUnder_5 (by decide) ?_
  refine zv_icN_ge (tgt := 39) dX7_isKindOrUnder_7 (by decide) (by omega) (by omega) (fun h7 => (absurd h7 (by decide))) (fun h7 => ?_)
  refine zv_iload_n dX7_isKindOrUnder_10 rfl rfl ?_
  refine zv_if_lt (tgt := 39) dX7_isKindOrUnder_11 (by decide) (fun h11 => (absurd h11 (by decide))) (fun h11 => ?_)
  refine zv_iload_n dX7_isKindOrUnder_14 rfl rfl ?_
  refine zv_bipush (v := nI (6)) dX7_isKindOrUnder_15 (by decide) ?_
  refine zv_icN_ge (tgt := 39) dX7_isKindOrUnder_17 (by decide) (by omega) (by omega) (fun h17 => (absurd h17 (by decide))) (fun h17 => ?_)
  refine zv_iload_n dX7_isKindOrUnder_20 rfl rfl ?_
  refine zv_iload_n dX7_isKindOrUnder_21 rfl rfl ?_
  refine zv_icN_ne (tgt := 27) dX7_isKindOrUnder_22 (by decide) (by omega) (by omega) (fun h22 => (absurd h22 (by decide))) (fun h22 => ?_)
  refine zv_iconst (v := nI (1)) dX7_isKindOrUnder_25 (by decide) ?_
  refine zv_iret dX7_isKindOrUnder_26 rfl rfl ?_
  exact ⟨rfl, rfl, rfl, rfl, rfl⟩
theorem cU_0_1 (d : Nat) {E : zv_E} {sh : zv_S} {I : zv_I} {J : zv_J} {R : zv_R} : zv_V E mX7_isKindOrUnder d 0 0 0 [.int (nI 0), .int (nI 1)] [] sh I J R (cc_p (rm_b (rm_of 5 0 1)) sh I J R) := by
  refine zv_iload_n dX7_isKindOrUnder_0 rfl rfl ?_
  refine zv_istore_n (lv' := [.int (nI (0)), .int (nI (1)), .int (nI (0))]) dX7_isKindOrUnder_1 rfl (by decide) rfl ?_
  refine zv_iconst (v := nI (0)) dX7_isKindOrUnder_2 (by decide) ?_
  refine zv_istore_n (lv' := [.int (nI (0)), .int (nI (1)), .int (nI (0)), .int (nI (0))]) dX7_isKindOrUnder_3 rfl (by decide) rfl ?_
  refine zv_iload_n dX7_isKindOrUnder_4 rfl rfl ?_
  refine zv_bipush (v := nI (6)) dX7_isKindOrUnder_5 (by decide) ?_
  refine zv_icN_ge (tgt := 39) dX7_isKindOrUnder_7 (by decide) (by omega) (by omega) (fun h7 => (absurd h7 (by decide))) (fun h7 => ?_)
  refine zv_iload_n dX7_isKindOrUnder_10 rfl rfl ?_
  refine zv_if_lt (tgt := 39) dX7_isKindOrUnder_11 (by decide) (fun h11 => (absurd h11 (by decide))) (fun h11 => ?_)
  refine zv_iload_n dX7_isKindOrUnder_14 rfl rfl ?_
  refine zv_bipush (v := nI (6)) dX7_isKindOrUnder_15 (by decide) ?_
  refine zv_icN_ge (tgt := 39) dX7_isKindOrUnder_17 (by decide) (by omega) (by omega) (fun h17 => (absurd h17 (by decide))) (fun h17 => ?_)
  refine zv_iload_n dX7_isKindOrUnder_20 rfl rfl ?_
  refine zv_iload_n dX7_isKindOrUnder_21 rfl rfl ?_
  refine zv_icN_ne (tgt := 27) dX7_isKindOrUnder_22 (by decide) (by omega) (by omega) (fun h22 => ?_) (fun h22 => (absurd h22 (by decide)))
  refine zv_gets (b := 2) dX7_isKindOrUnder_27 (Or.inr ⟨rfl, st_320⟩) ?_
  refine zv_iload_n dX7_isKindOrUnder_30 rfl rfl ?_
  refine zv_kald (j := 0) (x := (-1 : Int32)) dX7_isKindOrUnder_31 (rfl) (by omega) (rfl) ?_
  refine zv_istore_n (lv' := [.int (nI (0)), .int (nI (1)), .int ((-1 : Int32)), .int (nI (0))]) dX7_isKindOrUnder_32 rfl (by decide) rfl ?_
  refine zv_iinc (v := nI (1)) (lv' := [.int (nI (0)), .int (nI (1)), .int ((-1 : Int32)), .int (nI (1))]) dX7_isKindOrUnder_33 rfl (by decide) (by decide) rfl ?_
  refine zv_goto (tgt := 4) dX7_isKindOrUnder_36 (by decide) ?_
  refine zv_iload_n dX7_isKindOrUnder_4 rfl rfl ?_
  refine zv_bipush (v := nI (6)) dX7_isKindOrUnder_5 (by decide) ?_
  refine zv_icN_ge (tgt := 39) dX7_isKindOrUnder_7 (by decide) (by omega) (by omega) (fun h7 => (absurd h7 (by decide))) (fun h7 => ?_)
  refine zv_iload_n dX7_isKindOrUnder_10 rfl rfl ?_
  refine zv_if_lt (tgt := 39) dX7_isKindOrUnder_11 (by decide) (fun h11 => ?_) (fun h11 => (absurd (by decide) h11))
  refine zv_iconst (v := nI (0)) dX7_isKindOrUnder_39 (by decide) ?_
  refine zv_iret dX7_isKindOrUnder_40 rfl rfl ?_
  exact ⟨rfl, rfl, rfl, rfl, rfl⟩
theorem cU_0_2 (d : Nat) {E : zv_E} {sh : zv_S} {I : zv_I} {J : zv_J} {R : zv_R} : zv_V E mX7_isKindOrUnder d 0 0 0 [.int (nI 0), .int (nI 2)] [] sh I J R (cc_p (rm_b (rm_of 5 0 2)) sh I J R) := by
  refine zv_iload_n dX7_isKindOrUnder_0 rfl rfl ?_
  refine zv_istore_n (lv' := [.int (nI (0)), .int (nI (2)), .int (nI (0))]) dX7_isKindOrUnder_1 rfl (by decide) rfl ?_
  refine zv_iconst (v := nI (0)) dX7_isKindOrUnder_2 (by decide) ?_
  refine zv_istore_n (lv' := [.int (nI (0)), .int (nI (2)), .int (nI (0)), .int (nI (0))]) dX7_isKindOrUnder_3 rfl (by decide) rfl ?_
  refine zv_iload_n dX7_isKindOrUnder_4 rfl rfl ?_
  refine zv_bipush (v := nI (6)) dX7_isKindOrUnder_5 (by decide) ?_
  refine zv_icN_ge (tgt := 39) dX7_isKindOrUnder_7 (by decide) (by omega) (by omega) (fun h7 => (absurd h7 (by decide))) (fun h7 => ?_)
  refine zv_iload_n dX7_isKindOrUnder_10 rfl rfl ?_
  refine zv_if_lt (tgt := 39) dX7_isKindOrUnder_11 (by decide) (fun h11 => (absurd h11 (by decide))) (fun h11 => ?_)
  refine zv_iload_n dX7_isKindOrUnder_14 rfl rfl ?_
  refine zv_bipush (v := nI (6)) dX7_isKindOrUnder_15 (by decide) ?_
  refine zv_icN_ge (tgt := 39) dX7_isKindOrUnder_17 (by decide) (by omega) (by omega) (fun h17 => (absurd h17 (by decide))) (fun h17 => ?_)
  refine zv_iload_n dX7_isKindOrUnder_20 rfl rfl ?_
  refine zv_iload_n dX7_isKindOrUnder_21 rfl rfl ?_
  refine zv_icN_ne (tgt := 27) dX7_isKindOrUnder_22 (by decide) (by omega) (by omega) (fun h22 => ?_) (fun h22 => (absurd h22 (by decide)))
  refine zv_gets (b := 2) dX7_isKindOrUnder_27 (Or.inr ⟨rfl, st_320⟩) ?_
  refine zv_iload_n dX7_isKindOrUnder_30 rfl rfl ?_
  refine zv_kald (j := 0) (x := (-1 : Int32)) dX7_isKindOrUnder_31 (rfl) (by omega) (rfl) ?_
  refine zv_istore_n (lv' := [.int (nI (0)), .int (nI (2)), .int ((-1 : Int32)), .int (nI (0))]) dX7_isKindOrUnder_32 rfl (by decide) rfl ?_
  refine zv_iinc (v := nI (1)) (lv' := [.int (nI (0)), .int (nI (2)), .int ((-1 : Int32)), .int (nI (1))]) dX7_isKindOrUnder_33 rfl (by decide) (by decide) rfl ?_
  refine zv_goto (tgt := 4) dX7_isKindOrUnder_36 (by decide) ?_
  refine zv_iload_n dX7_isKindOrUnder_4 rfl rfl ?_
  refine zv_bipush (v := nI (6)) dX7_isKindOrUnder_5 (by decide) ?_
  refine zv_icN_ge (tgt := 39) dX7_isKindOrUnder_7 (by decide) (by omega) (by omega) (fun h7 => (absurd h7 (by decide))) (fun h7 => ?_)
  refine zv_iload_n dX7_isKindOrUnder_10 rfl rfl ?_
  refine zv_if_lt (tgt := 39) dX7_isKindOrUnder_11 (by decide) (fun h11 => ?_) (fun h11 => (absurd (by decide) h11))
  refine zv_iconst (v := nI (0)) dX7_isKindOrUnder_39 (by decide) ?_
  refine zv_iret dX7_isKindOrUnder_40 rfl rfl ?_
  exact ⟨rfl, rfl, rfl, rfl, rfl⟩
theorem cU_0_3 (d : Nat) {E : zv_E} {sh : zv_S} {I : zv_I} {J : zv_J} {R : zv_R} : zv_V E mX7_isKindOrUnder d 0 0 0 [.int (nI 0), .int (nI 3)] [] sh I J R (cc_p (rm_b (rm_of 5 0 3)) sh I J R) := by
  refine zv_iload_n dX7_isKindOrUnder_0 rfl rfl ?_
  refine zv_istore_n (lv' := [.int (nI (0)), .int (nI (3)), .int (nI (0))]) dX7_isKindOrUnder_1 rfl (by decide) rfl ?_
  refine zv_iconst (v := nI (0)) dX7_isKindOrUnder_2 (by decide) ?_
  refine zv_istore_n (lv' := [.int (nI (0)), .int (nI (3)), .int (nI (0)), .int (nI (0))]) dX7_isKindOrUnder_3 rfl (by decide) rfl ?_
  refine zv_iload_n dX7_isKindOrUnder_4 rfl rfl ?_
  refine zv_bipush (v := nI (6)) dX7_isKindOrUnder_5 (by decide) ?_
  refine zv_icN_ge (tgt := 39) dX7_isKindOrUnder_7 (by decide) (by omega) (by omega) (fun h7 => (absurd h7 (by decide))) (fun h7 => ?_)
  refine zv_iload_n dX7_isKindOrUnder_10 rfl rfl ?_
  refine zv_if_lt (tgt := 39) dX7_isKindOrUnder_11 (by decide) (fun h11 => (absurd h11 (by decide))) (fun h11 => ?_)
  refine zv_iload_n dX7_isKindOrUnder_14 rfl rfl ?_
  refine zv_bipush (v := nI (6)) dX7_isKindOrUnder_15 (by decide) ?_
  refine zv_icN_ge (tgt := 39) dX7_isKindOrUnder_17 (by decide) (by omega) (by omega) (fun h17 => (absurd h17 (by decide))) (fun h17 => ?_)
  refine zv_iload_n dX7_isKindOrUnder_20 rfl rfl ?_
  refine zv_iload_n dX7_isKindOrUnder_21 rfl rfl ?_
  refine zv_icN_ne (tgt := 27) dX7_isKindOrUnder_22 (by decide) (by omega) (by omega) (fun h22 => ?_) (fun h22 => (absurd h22 (by decide)))
  refine zv_gets (b := 2) dX7_isKindOrUnder_27 (Or.inr ⟨rfl, st_320⟩) ?_
  refine zv_iload_n dX7_isKindOrUnder_30 rfl rfl ?_
  refine zv_kald (j := 0) (x := (-1 : Int32)) dX7_isKindOrUnder_31 (rfl) (by omega) (rfl) ?_
  refine zv_istore_n (lv' := [.int (nI (0)), .int (nI (3)), .int ((-1 : Int32)), .int (nI (0))]) dX7_isKindOrUnder_32 rfl (by decide) rfl ?_
  refine zv_iinc (v := nI (1)) (lv' := [.int (nI (0)), .int (nI (3)), .int ((-1 : Int32)), .int (nI (1))]) dX7_isKindOrUnder_33 rfl (by decide) (by decide) rfl ?_
  refine zv_goto (tgt := 4) dX7_isKindOrUnder_36 (by decide) ?_
  refine zv_iload_n dX7_isKindOrUnder_4 rfl rfl ?_
  refine zv_bipush (v := nI (6)) dX7_isKindOrUnder_5 (by decide) ?_
  refine zv_icN_ge (tgt := 39) dX7_isKindOrUnder_7 (by decide) (by omega) (by omega) (fun h7 => (absurd h7 (by decide))) (fun h7 => ?_)
  refine zv_iload_n dX7_isKindOrUnder_10 rfl rfl ?_
  refine zv_if_lt (tgt := 39) dX7_isKindOrUnder_11 (by decide) (fun h11 => ?_) (fun h11 => (absurd (by decide) h11))
  refine zv_iconst (v := nI (0)) dX7_isKindOrUnder_39 (by decide) ?_
  refine zv_iret dX7_isKindOrUnder_40 rfl rfl ?_
  exact ⟨rfl, rfl, rfl, rfl, rfl⟩
theorem cU_0_4 (d : Nat) {E : zv_E} {sh : zv_S} {I : zv_I} {J : zv_J} {R : zv_R} : zv_V E mX7_isKindOrUnder d 0 0 0 [.int (nI 0), .int (nI 4)] [] sh I J R (cc_p (rm_b (rm_of 5 0 4)) sh I J R) := by
  refine zv_iload_n dX7_isKindOrUnder_0 rfl rfl ?_
  refine zv_istore_n (lv' := [.int (nI (0)), .int (nI (4)), .int (nI (0))]) dX7_isKindOrUnder_1 rfl (by decide) rfl ?_
  refine zv_iconst (v := nI (0)) dX7_isKindOrUnder_2 (by decide) ?_
  refine zv_istore_n (lv' := [.int (nI (0)), .int (nI (4)), .int (nI (0)), .int (nI (0))]) dX7_isKindOrUnder_3 rfl (by decide) rfl ?_
  refine zv_iload_n dX7_isKindOrUnder_4 rfl rfl ?_
  refine zv_bipush (v := nI (6)) dX7_isKindOrUnder_5 (by decide) ?_
  refine zv_icN_ge (tgt := 39) dX7_isKindOrUnder_7 (by decide) (by omega) (by omega) (fun h7 => (absurd h7 (by decide))) (fun h7 => ?_)
  refine zv_iload_n dX7_isKindOrUnder_10 rfl rfl ?_
  refine zv_if_lt (tgt := 39) dX7_isKindOrUnder_11 (by decide) (fun h11 => (absurd h11 (by decide))) (fun h11 => ?_)
  refine zv_iload_n dX7_isKindOrUnder_14 rfl rfl ?_
  refine zv_bipush (v := nI (6)) dX7_isKindOrUnder_15 (by decide) ?_
  refine zv_icN_ge (tgt := 39) dX7_isKindOrUnder_17 (by decide) (by omega) (by omega) (fun h17 => (absurd h17 (by decide))) (fun h17 => ?_)
  refine zv_iload_n dX7_isKindOrUnder_20 rfl rfl ?_
  refine zv_iload_n dX7_isKindOrUnder_21 rfl rfl ?_
  refine zv_icN_ne (tgt := 27) dX7_isKindOrUnder_22 (by decide) (by omega) (by omega) (fun h22 => ?_) (fun h22 => (absurd h22 (by decide)))
  refine zv_gets (b := 2) dX7_isKindOrUnder_27 (Or.inr ⟨rfl, st_320⟩) ?_
  refine zv_iload_n dX7_isKindOrUnder_30 rfl rfl ?_
  refine zv_kald (j := 0) (x := (-1 : Int32)) dX7_isKindOrUnder_31 (rfl) (by omega) (rfl) ?_
  refine zv_istore_n (lv' := [.int (nI (0)), .int (nI (4)), .int ((-1 : Int32)), .int (nI (0))]) dX7_isKindOrUnder_32 rfl (by decide) rfl ?_
  refine zv_iinc (v := nI (1)) (lv' := [.int (nI (0)), .int (nI (4)), .int ((-1 : Int32)), .int (nI (1))]) dX7_isKindOrUnder_33 rfl (by decide) (by decide) rfl ?_
  refine zv_goto (tgt := 4) dX7_isKindOrUnder_36 (by decide) ?_
  refine zv_iload_n dX7_isKindOrUnder_4 rfl rfl ?_
  refine zv_bipush (v := nI (6)) dX7_isKindOrUnder_5 (by decide) ?_
  refine zv_icN_ge (tgt := 39) dX7_isKindOrUnder_7 (by decide) (by omega) (by omega) (fun h7 => (absurd h7 (by decide))) (fun h7 => ?_)
  refine zv_iload_n dX7_isKindOrUnder_10 rfl rfl ?_
  refine zv_if_lt (tgt := 39) dX7_isKindOrUnder_11 (by decide) (fun h11 => ?_) (fun h11 => (absurd (by decide) h11))
  refine zv_iconst (v := nI (0)) dX7_isKindOrUnder_39 (by decide) ?_
  refine zv_iret dX7_isKindOrUnder_40 rfl rfl ?_
  exact ⟨rfl, rfl, rfl, rfl, rfl⟩
theorem cU_0_5 (d : Nat) {E : zv_E} {sh : zv_S} {I : zv_I} {J : zv_J} {R : zv_R} : zv_V E mX7_isKindOrUnder d 0 0 0 [.int (nI 0), .int (nI 5)] [] sh I J R (cc_p (rm_b (rm_of 5 0 5)) sh I J R) := by
  refine zv_iload_n dX7_isKindOrUnder_0 rfl rfl ?_
  refine zv_istore_n (lv' := [.int (nI (0)), .int (nI (5)), .int (nI (0))]) dX7_isKindOrUnder_1 rfl (by decide) rfl ?_
  refine zv_iconst (v := nI (0)) dX7_isKindOrUnder_2 (by decide) ?_
  refine zv_istore_n (lv' := [.int (nI (0)), .int (nI (5)), .int (nI (0)), .int (nI (0))]) dX7_isKindOrUnder_3 rfl (by decide) rfl ?_
  refine zv_iload_n dX7_isKindOrUnder_4 rfl rfl ?_
  refine zv_bipush (v := nI (6)) dX7_isKindOrUnder_5 (by decide) ?_
  refine zv_icN_ge (tgt := 39) dX7_isKindOrUnder_7 (by decide) (by omega) (by omega) (fun h7 => (absurd h7 (by decide))) (fun h7 => ?_)
  refine zv_iload_n dX7_isKindOrUnder_10 rfl rfl ?_
  refine zv_if_lt (tgt := 39) dX7_isKindOrUnder_11 (by decide) (fun h11 => (absurd h11 (by decide))) (fun h11 => ?_)
  refine zv_iload_n dX7_isKindOrUnder_14 rfl rfl ?_
  refine zv_bipush (v := nI (6)) dX7_isKindOrUnder_15 (by decide) ?_
  refine zv_icN_ge (tgt := 39) dX7_isKindOrUnder_17 (by decide) (by omega) (by omega) (fun h17 => (absurd h17 (by decide))) (fun h17 => ?_)
  refine zv_iload_n dX7_isKindOrUnder_20 rfl rfl ?_
  refine zv_iload_n dX7_isKindOrUnder_21 rfl rfl ?_
  refine zv_icN_ne (tgt := 27) dX7_isKindOrUnder_22 (by decide) (by omega) (by omega) (fun h22 => ?_) (fun h22 => (absurd h22 (by decide)))
  refine zv_gets (b := 2) dX7_isKindOrUnder_27 (Or.inr ⟨rfl, st_320⟩) ?_
  refine zv_iload_n dX7_isKindOrUnder_30 rfl rfl ?_
  refine zv_kald (j := 0) (x := (-1 : Int32)) dX7_isKindOrUnder_31 (rfl) (by omega) (rfl) ?_
  refine zv_istore_n (lv' := [.int (nI (0)), .int (nI (5)), .int ((-1 : Int32)), .int (nI (0))]) dX7_isKindOrUnder_32 rfl (by decide) rfl ?_
  refine zv_iinc (v := nI (1)) (lv' := [.int (nI (0)), .int (nI (5)), .int ((-1 : Int32)), .int (nI (1))]) dX7_isKindOrUnder_33 rfl (by decide) (by decide) rfl ?_
  refine zv_goto (tgt := 4) dX7_isKindOrUnder_36 (by decide) ?_
  refine zv_iload_n dX7_isKindOrUnder_4 rfl rfl ?_
  refine zv_bipush (v := nI (6)) dX7_isKindOrUnder_5 (by decide) ?_
  refine zv_icN_ge (tgt := 39) dX7_isKindOrUnder_7 (by decide) (by omega) (by omega) (fun h7 => (absurd h7 (by decide))) (fun h7 => ?_)
  refine zv_iload_n dX7_isKindOrUnder_10 rfl rfl ?_
  refine zv_if_lt (tgt := 39) dX7_isKindOrUnder_11 (by decide) (fun h11 => ?_) (fun h11 => (absurd (by decide) h11))
  refine zv_iconst (v := nI (0)) dX7_isKindOrUnder_39 (by decide) ?_
  refine zv_iret dX7_isKindOrUnder_40 rfl rfl ?_
  exact ⟨rfl, rfl, rfl, rfl, rfl⟩
theorem cU_1_0 (d : Nat) {E : zv_E} {sh : zv_S} {I : zv_I} {J : zv_J} {R : zv_R} : zv_V E mX7_isKindOrUnder d 0 0 0 [.int (nI 1), .int (nI 0)] [] sh I J R (cc_p (rm_b (rm_of 5 1 0)) sh I J R) := by
  refine zv_iload_n dX7_isKindOrUnder_0 rfl rfl ?_
  refine zv_istore_n (lv' := [.int (nI (1)), .int (nI (0)), .int (nI (1))]) dX7_isKindOrUnder_1 rfl (by decide) rfl ?_
  refine zv_iconst (v := nI (0)) dX7_isKindOrUnder_2 (by decide) ?_
  refine zv_istore_n (lv' := [.int (nI (1)), .int (nI (0)), .int (nI (1)), .int (nI (0))]) dX7_isKindOrUnder_3 rfl (by decide) rfl ?_
  refine zv_iload_n dX7_isKindOrUnder_4 rfl rfl ?_
  refine zv_bipush (v := nI (6)) dX7_isKindOrUnder_5 (by decide) ?_
  refine zv_icN_ge (tgt := 39) dX7_isKindOrUnder_7 (by decide) (by omega) (by omega) (fun h7 => (absurd h7 (by decide))) (fun h7 => ?_)
  refine zv_iload_n dX7_isKindOrUnder_10 rfl rfl ?_
  refine zv_if_lt (tgt := 39) dX7_isKindOrUnder_11 (by decide) (fun h11 => (absurd h11 (by decide))) (fun h11 => ?_)
  refine zv_iload_n dX7_isKindOrUnder_14 rfl rfl ?_
  refine zv_bipush (v := nI (6)) dX7_isKindOrUnder_15 (by decide) ?_
  refine zv_icN_ge (tgt := 39) dX7_isKindOrUnder_17 (by decide) (by omega) (by omega) (fun h17 => (absurd h17 (by decide))) (fun h17 => ?_)
  refine zv_iload_n dX7_isKindOrUnder_20 rfl rfl ?_
  refine zv_iload_n dX7_isKindOrUnder_21 rfl rfl ?_
  refine zv_icN_ne (tgt := 27) dX7_isKindOrUnder_22 (by decide) (by omega) (by omega) (fun h22 => ?_) (fun h22 => (absurd h22 (by decide)))
  refine zv_gets (b := 2) dX7_isKindOrUnder_27 (Or.inr ⟨rfl, st_320⟩) ?_
  refine zv_iload_n dX7_isKindOrUnder_30 rfl rfl ?_
  refine zv_kald (j := 1) (x := nI (0)) dX7_isKindOrUnder_31 (rfl) (by omega) (rfl) ?_
  refine zv_istore_n (lv' := [.int (nI (1)), .int (nI (0)), .int (nI (0)), .int (nI (0))]) dX7_isKindOrUnder_32 rfl (by decide) rfl ?_
  refine zv_iinc (v := nI (1)) (lv' := [.int (nI (1)), .int (nI (0)), .int (nI (0)), .int (nI (1))]) dX7_isKindOrUnder_33 rfl (by decide) (by decide) rfl ?_
  refine zv_goto (tgt := 4) dX7_isKindOrUnder_36 (by decide) ?_
  refine zv_iload_n dX7_isKindOrUnder_4 rfl rfl ?_
  refine zv_bipush (v := nI (6)) dX7_isKindOrUnder_5 (by decide) ?_
  refine zv_icN_ge (tgt := 39) dX7_isKindOrUnder_7 (by decide) (by omega) (by omega) (fun h7 => (absurd h7 (by decide))) (fun h7 => ?_)
  refine zv_iload_n dX7_isKindOrUnder_10 rfl rfl ?_
  refine zv_if_lt (tgt := 39) dX7_isKindOrUnder_11 (by decide) (fun h11 => (absurd h11 (by decide))) (fun h11 => ?_)
  refine zv_iload_n dX7_isKindOrUnder_14 rfl rfl ?_
  refine zv_bipush (v := nI (6)) dX7_isKindOrUnder_15 (by decide) ?_
  refine zv_icN_ge (tgt := 39) dX7_isKindOrUnder_17 (by decide) (by omega) (by omega) (fun h17 => (absurd h17 (by decide))) (fun h17 => ?_)
  refine zv_iload_n dX7_isKindOrUnder_20 rfl rfl ?_
  refine zv_iload_n dX7_isKindOrUnder_21 rfl rfl ?_
  refine zv_icN_ne (tgt := 27) dX7_isKindOrUnder_22 (by decide) (by omega) (by omega) (fun h22 => (absurd h22 (by decide))) (fun h22 => ?_)
  refine zv_iconst (v := nI (1)) dX7_isKindOrUnder_25 (by decide) ?_
  refine zv_iret dX7_isKindOrUnder_26 rfl rfl ?_
  exact ⟨rfl, rfl, rfl, rfl, rfl⟩
theorem cU_1_1 (d : Nat) {E : zv_E} {sh : zv_S} {I : zv_I} {J : zv_J} {R : zv_R} : zv_V E mX7_isKindOrUnder d 0 0 0 [.int (nI 1), .int (nI 1)] [] sh I J R (cc_p (rm_b (rm_of 5 1 1)) sh I J R) := by
  refine zv_iload_n dX7_isKindOrUnder_0 rfl rfl ?_
  refine zv_istore_n (lv' := [.int (nI (1)), .int (nI (1)), .int (nI (1))]) dX7_isKindOrUnder_1 rfl (by decide) rfl ?_
  refine zv_iconst (v := nI (0)) dX7_isKindOrUnder_2 (by decide) ?_
  refine zv_istore_n (lv' := [.int (nI (1)), .int (nI (1)), .int (nI (1)), .int (nI (0))]) dX7_isKindOrUnder_3 rfl (by decide) rfl ?_
  refine zv_iload_n dX7_isKindOrUnder_4 rfl rfl ?_
  refine zv_bipush (v := nI (6)) dX7_isKindOrUnder_5 (by decide) ?_
  refine zv_icN_ge (tgt := 39) dX7_isKindOrUnder_7 (by decide) (by omega) (by omega) (fun h7 => (absurd h7 (by decide))) (fun h7 => ?_)
  refine zv_iload_n dX7_isKindOrUnder_10 rfl rfl ?_
  refine zv_if_lt (tgt := 39) dX7_isKindOrUnder_11 (by decide) (fun h11 => (absurd h11 (by decide))) (fun h11 => ?_)
  refine zv_iload_n dX7_isKindOrUnder_14 rfl rfl ?_
  refine zv_bipush (v := nI (6)) dX7_isKindOrUnder_15 (by decide) ?_
  refine zv_icN_ge (tgt := 39) dX7_isKindOrUnder_17 (by decide) (by omega) (by omega) (fun h17 => (absurd h17 (by decide))) (fun h17 => ?_)
  refine zv_iload_n dX7_isKindOrUnder_20 rfl rfl ?_
  refine zv_iload_n dX7_isKindOrUnder_21 rfl rfl ?_
  refine zv_icN_ne (tgt := 27) dX7_isKindOrUnder_22 (by decide) (by omega) (by omega) (fun h22 => (absurd h22 (by decide))) (fun h22 => ?_)
  refine zv_iconst (v := nI (1)) dX7_isKindOrUnder_25 (by decide) ?_
  refine zv_iret dX7_isKindOrUnder_26 rfl rfl ?_
  exact ⟨rfl, rfl, rfl, rfl, rfl⟩
theorem cU_1_2 (d : Nat) {E : zv_E} {sh : zv_S} {I : zv_I} {J : zv_J} {R : zv_R} : zv_V E mX7_isKindOrUnder d 0 0 0 [.int (nI 1), .int (nI 2)] [] sh I J R (cc_p (rm_b (rm_of 5 1 2)) sh I J R) := by
  refine zv_iload_n dX7_isKindOrUnder_0 rfl rfl ?_
  refine zv_istore_n (lv' := [.int (nI (1)), .int (nI (2)), .int (nI (1))]) dX7_isKindOrUnder_1 rfl (by decide) rfl ?_
  refine zv_iconst (v := nI (0)) dX7_isKindOrUnder_2 (by decide) ?_
  refine zv_istore_n (lv' := [.int (nI (1)), .int (nI (2)), .int (nI (1)), .int (nI (0))]) dX7_isKindOrUnder_3 rfl (by decide) rfl ?_
  refine zv_iload_n dX7_isKindOrUnder_4 rfl rfl ?_
  refine zv_bipush (v := nI (6)) dX7_isKindOrUnder_5 (by decide) ?_
  refine zv_icN_ge (tgt := 39) dX7_isKindOrUnder_7 (by decide) (by omega) (by omega) (fun h7 => (absurd h7 (by decide))) (fun h7 => ?_)
  refine zv_iload_n dX7_isKindOrUnder_10 rfl rfl ?_
  refine zv_if_lt (tgt := 39) dX7_isKindOrUnder_11 (by decide) (fun h11 => (absurd h11 (by decide))) (fun h11 => ?_)
  refine zv_iload_n dX7_isKindOrUnder_14 rfl rfl ?_
  refine zv_bipush (v := nI (6)) dX7_isKindOrUnder_15 (by decide) ?_
  refine zv_icN_ge (tgt := 39) dX7_isKindOrUnder_17 (by decide) (by omega) (by omega) (fun h17 => (absurd h17 (by decide))) (fun h17 => ?_)
  refine zv_iload_n dX7_isKindOrUnder_20 rfl rfl ?_
  refine zv_iload_n dX7_isKindOrUnder_21 rfl rfl ?_
  refine zv_icN_ne (tgt := 27) dX7_isKindOrUnder_22 (by decide) (by omega) (by omega) (fun h22 => ?_) (fun h22 => (absurd h22 (by decide)))
  refine zv_gets (b := 2) dX7_isKindOrUnder_27 (Or.inr ⟨rfl, st_320⟩) ?_
  refine zv_iload_n dX7_isKindOrUnder_30 rfl rfl ?_
  refine zv_kald (j := 1) (x := nI (0)) dX7_isKindOrUnder_31 (rfl) (by omega) (rfl) ?_
  refine zv_istore_n (lv' := [.int (nI (1)), .int (nI (2)), .int (nI (0)), .int (nI (0))]) dX7_isKindOrUnder_32 rfl (by decide) rfl ?_
  refine zv_iinc (v := nI (1)) (lv' := [.int (nI (1)), .int (nI (2)), .int (nI (0)), .int (nI (1))]) dX7_isKindOrUnder_33 rfl (by decide) (by decide) rfl ?_
  refine zv_goto (tgt := 4) dX7_isKindOrUnder_36 (by decide) ?_
  refine zv_iload_n dX7_isKindOrUnder_4 rfl rfl ?_
  refine zv_bipush (v := nI (6)) dX7_isKindOrUnder_5 (by decide) ?_
  refine zv_icN_ge (tgt := 39) dX7_isKindOrUnder_7 (by decide) (by omega) (by omega) (fun h7 => (absurd h7 (by decide))) (fun h7 => ?_)
  refine zv_iload_n dX7_isKindOrUnder_10 rfl rfl ?_
  refine zv_if_lt (tgt := 39) dX7_isKindOrUnder_11 (by decide) (fun h11 => (absurd h11 (by decide))) (fun h11 => ?_)
  refine zv_iload_n dX7_isKindOrUnder_14 rfl rfl ?_
  refine zv_bipush (v := nI (6)) dX7_isKindOrUnder_15 (by decide) ?_
  refine zv_icN_ge (tgt := 39) dX7_isKindOrUnder_17 (by decide) (by omega) (by omega) (fun h17 => (absurd h17 (by decide))) (fun h17 => ?_)
  refine zv_iload_n dX7_isKindOrUnder_20 rfl rfl ?_
  refine zv_iload_n dX7_isKindOrUnder_21 rfl rfl ?_
  refine zv_icN_ne (tgt := 27) dX7_isKindOrUnder_22 (by decide) (by omega) (by omega) (fun h22 => ?_) (fun h22 => (absurd h22 (by decide)))
  refine zv_gets (b := 2) dX7_isKindOrUnder_27 (Or.inr ⟨rfl, st_320⟩) ?_
  refine zv_iload_n dX7_isKindOrUnder_30 rfl rfl ?_
  refine zv_kald (j := 0) (x := (-1 : Int32)) dX7_isKindOrUnder_31 (rfl) (by omega) (rfl) ?_
  refine zv_istore_n (lv' := [.int (nI (1)), .int (nI (2)), .int ((-1 : Int32)), .int (nI (1))]) dX7_isKindOrUnder_32 rfl (by decide) rfl ?_
  refine zv_iinc (v := nI (2)) (lv' := [.int (nI (1)), .int (nI (2)), .int ((-1 : Int32)), .int (nI (2))]) dX7_isKindOrUnder_33 rfl (by decide) (by decide) rfl ?_
  refine zv_goto (tgt := 4) dX7_isKindOrUnder_36 (by decide) ?_
  refine zv_iload_n dX7_isKindOrUnder_4 rfl rfl ?_
  refine zv_bipush (v := nI (6)) dX7_isKindOrUnder_5 (by decide) ?_
  refine zv_icN_ge (tgt := 39) dX7_isKindOrUnder_7 (by decide) (by omega) (by omega) (fun h7 => (absurd h7 (by decide))) (fun h7 => ?_)
  refine zv_iload_n dX7_isKindOrUnder_10 rfl rfl ?_
  refine zv_if_lt (tgt := 39) dX7_isKindOrUnder_11 (by decide) (fun h11 => ?_) (fun h11 => (absurd (by decide) h11))
  refine zv_iconst (v := nI (0)) dX7_isKindOrUnder_39 (by decide) ?_
  refine zv_iret dX7_isKindOrUnder_40 rfl rfl ?_
  exact ⟨rfl, rfl, rfl, rfl, rfl⟩
theorem cU_1_3 (d : Nat) {E : zv_E} {sh : zv_S} {I : zv_I} {J : zv_J} {R : zv_R} : zv_V E mX7_isKindOrUnder d 0 0 0 [.int (nI 1), .int (nI 3)] [] sh I J R (cc_p (rm_b (rm_of 5 1 3)) sh I J R) := by
  refine zv_iload_n dX7_isKindOrUnder_0 rfl rfl ?_
  refine zv_istore_n (lv' := [.int (nI (1)), .int (nI (3)), .int (nI (1))]) dX7_isKindOrUnder_1 rfl (by decide) rfl ?_
  refine zv_iconst (v := nI (0)) dX7_isKindOrUnder_2 (by decide) ?_
  refine zv_istore_n (lv' := [.int (nI (1)), .int (nI (3)), .int (nI (1)), .int (nI (0))]) dX7_isKindOrUnder_3 rfl (by decide) rfl ?_
  refine zv_iload_n dX7_isKindOrUnder_4 rfl rfl ?_
  refine zv_bipush (v := nI (6)) dX7_isKindOrUnder_5 (by decide) ?_
  refine zv_icN_ge (tgt := 39) dX7_isKindOrUnder_7 (by decide) (by omega) (by omega) (fun h7 => (absurd h7 (by decide))) (fun h7 => ?_)
  refine zv_iload_n dX7_isKindOrUnder_10 rfl rfl ?_
  refine zv_if_lt (tgt := 39) dX7_isKindOrUnder_11 (by decide) (fun h11 => (absurd h11 (by decide))) (fun h11 => ?_)
  refine zv_iload_n dX7_isKindOrUnder_14 rfl rfl ?_
  refine zv_bipush (v := nI (6)) dX7_isKindOrUnder_15 (by decide) ?_
  refine zv_icN_ge (tgt := 39) dX7_isKindOrUnder_17 (by decide) (by omega) (by omega) (fun h17 => (absurd h17 (by decide))) (fun h17 => ?_)
  refine zv_iload_n dX7_isKindOrUnder_20 rfl rfl ?_
  refine zv_iload_n dX7_isKindOrUnder_21 rfl rfl ?_
  refine zv_icN_ne (tgt := 27) dX7_isKindOrUnder_22 (by decide) (by omega) (by omega) (fun h22 => ?_) (fun h22 => (absurd h22 (by decide)))
  refine zv_gets (b := 2) dX7_isKindOrUnder_27 (Or.inr ⟨rfl, st_320⟩) ?_
  refine zv_iload_n dX7_isKindOrUnder_30 rfl rfl ?_
  refine zv_kald (j := 1) (x := nI (0)) dX7_isKindOrUnder_31 (rfl) (by omega) (rfl) ?_
  refine zv_istore_n (lv' := [.int (nI (1)), .int (nI (3)), .int (nI (0)), .int (nI (0))]) dX7_isKindOrUnder_32 rfl (by decide) rfl ?_
  refine zv_iinc (v := nI (1)) (lv' := [.int (nI (1)), .int (nI (3)), .int (nI (0)), .int (nI (1))]) dX7_isKindOrUnder_33 rfl (by decide) (by decide) rfl ?_
  refine zv_goto (tgt := 4) dX7_isKindOrUnder_36 (by decide) ?_
  refine zv_iload_n dX7_isKindOrUnder_4 rfl rfl ?_
  refine zv_bipush (v := nI (6)) dX7_isKindOrUnder_5 (by decide) ?_
  refine zv_icN_ge (tgt := 39) dX7_isKindOrUnder_7 (by decide) (by omega) (by omega) (fun h7 => (absurd h7 (by decide))) (fun h7 => ?_)
  refine zv_iload_n dX7_isKindOrUnder_10 rfl rfl ?_
  refine zv_if_lt (tgt := 39) dX7_isKindOrUnder_11 (by decide) (fun h11 => (absurd h11 (by decide))) (fun h11 => ?_)
  refine zv_iload_n dX7_isKindOrUnder_14 rfl rfl ?_
  refine zv_bipush (v := nI (6)) dX7_isKindOrUnder_15 (by decide) ?_
  refine zv_icN_ge (tgt := 39) dX7_isKindOrUnder_17 (by decide) (by omega) (by omega) (fun h17 => (absurd h17 (by decide))) (fun h17 => ?_)
  refine zv_iload_n dX7_isKindOrUnder_20 rfl rfl ?_
  refine zv_iload_n dX7_isKindOrUnder_21 rfl rfl ?_
  refine zv_icN_ne (tgt := 27) dX7_isKindOrUnder_22 (by decide) (by omega) (by omega) (fun h22 => ?_) (fun h22 => (absurd h22 (by decide)))
  refine zv_gets (b := 2) dX7_isKindOrUnder_27 (Or.inr ⟨rfl, st_320⟩) ?_
  refine zv_iload_n dX7_isKindOrUnder_30 rfl rfl ?_
  refine zv_kald (j := 0) (x := (-1 : Int32)) dX7_isKindOrUnder_31 (rfl) (by omega) (rfl) ?_
  refine zv_istore_n (lv' := [.int (nI (1)), .int (nI (3)), .int ((-1 : Int32)), .int (nI (1))]) dX7_isKindOrUnder_32 rfl (by decide) rfl ?_
  refine zv_iinc (v := nI (2)) (lv' := [.int (nI (1)), .int (nI (3)), .int ((-1 : Int32)), .int (nI (2))]) dX7_isKindOrUnder_33 rfl (by decide) (by decide) rfl ?_
  refine zv_goto (tgt := 4) dX7_isKindOrUnder_36 (by decide) ?_
  refine zv_iload_n dX7_isKindOrUnder_4 rfl rfl ?_
  refine zv_bipush (v := nI (6)) dX7_isKindOrUnder_5 (by decide) ?_
  refine zv_icN_ge (tgt := 39) dX7_isKindOrUnder_7 (by decide) (by omega) (by omega) (fun h7 => (absurd h7 (by decide))) (fun h7 => ?_)
  refine zv_iload_n dX7_isKindOrUnder_10 rfl rfl ?_
  refine zv_if_lt (tgt := 39) dX7_isKindOrUnder_11 (by decide) (fun h11 => ?_) (fun h11 => (absurd (by decide) h11))
  refine zv_iconst (v := nI (0)) dX7_isKindOrUnder_39 (by decide) ?_
  refine zv_iret dX7_isKindOrUnder_40 rfl rfl ?_
  exact ⟨rfl, rfl, rfl, rfl, rfl⟩
theorem cU_1_4 (d : Nat) {E : zv_E} {sh : zv_S} {I : zv_I} {J : zv_J} {R : zv_R} : zv_V E mX7_isKindOrUnder d 0 0 0 [.int (nI 1), .int (nI 4)] [] sh I J R (cc_p (rm_b (rm_of 5 1 4)) sh I J R) := by
  refine zv_iload_n dX7_isKindOrUnder_0 rfl rfl ?_
  refine zv_istore_n (lv' := [.int (nI (1)), .int (nI (4)), .int (nI (1))]) dX7_isKindOrUnder_1 rfl (by decide) rfl ?_
  refine zv_iconst (v := nI (0)) dX7_isKindOrUnder_2 (by decide) ?_
  refine zv_istore_n (lv' := [.int (nI (1)), .int (nI (4)), .int (nI (1)), .int (nI (0))]) dX7_isKindOrUnder_3 rfl (by decide) rfl ?_
  refine zv_iload_n dX7_isKindOrUnder_4 rfl rfl ?_
  refine zv_bipush (v := nI (6)) dX7_isKindOrUnder_5 (by decide) ?_
  refine zv_icN_ge (tgt := 39) dX7_isKindOrUnder_7 (by decide) (by omega) (by omega) (fun h7 => (absurd h7 (by decide))) (fun h7 => ?_)
  refine zv_iload_n dX7_isKindOrUnder_10 rfl rfl ?_
  refine zv_if_lt (tgt := 39) dX7_isKindOrUnder_11 (by decide) (fun h11 => (absurd h11 (by decide))) (fun h11 => ?_)
  refine zv_iload_n dX7_isKindOrUnder_14 rfl rfl ?_
  refine zv_bipush (v := nI (6)) dX7_isKindOrUnder_15 (by decide) ?_
  refine zv_icN_ge (tgt := 39) dX7_isKindOrUnder_17 (by decide) (by omega) (by omega) (fun h17 => (absurd h17 (by decide))) (fun h17 => ?_)
  refine zv_iload_n dX7_isKindOrUnder_20 rfl rfl ?_
  refine zv_iload_n dX7_isKindOrUnder_21 rfl rfl ?_
  refine zv_icN_ne (tgt := 27) dX7_isKindOrUnder_22 (by decide) (by omega) (by omega) (fun h22 => ?_) (fun h22 => (absurd h22 (by decide)))
  refine zv_gets (b := 2) dX7_isKindOrUnder_27 (Or.inr ⟨rfl, st_320⟩) ?_
  refine zv_iload_n dX7_isKindOrUnder_30 rfl rfl ?_
  refine zv_kald (j := 1) (x := nI (0)) dX7_isKindOrUnder_31 (rfl) (by omega) (rfl) ?_
  refine zv_istore_n (lv' := [.int (nI (1)), .int (nI (4)), .int (nI (0)), .int (nI (0))]) dX7_isKindOrUnder_32 rfl (by decide) rfl ?_
  refine zv_iinc (v := nI (1)) (lv' := [.int (nI (1)), .int (nI (4)), .int (nI (0)), .int (nI (1))]) dX7_isKindOrUnder_33 rfl (by decide) (by decide) rfl ?_
  refine zv_goto (tgt := 4) dX7_isKindOrUnder_36 (by decide) ?_
  refine zv_iload_n dX7_isKindOrUnder_4 rfl rfl ?_
  refine zv_bipush (v := nI (6)) dX7_isKindOrUnder_5 (by decide) ?_
  refine zv_icN_ge (tgt := 39) dX7_isKindOrUnder_7 (by decide) (by omega) (by omega) (fun h7 => (absurd h7 (by decide))) (fun h7 => ?_)
  refine zv_iload_n dX7_isKindOrUnder_10 rfl rfl ?_
  refine zv_if_lt (tgt := 39) dX7_isKindOrUnder_11 (by decide) (fun h11 => (absurd h11 (by decide))) (fun h11 => ?_)
  refine zv_iload_n dX7_isKindOrUnder_14 rfl rfl ?_
  refine zv_bipush (v := nI (6)) dX7_isKindOrUnder_15 (by decide) ?_
  refine zv_icN_ge (tgt := 39) dX7_isKindOrUnder_17 (by decide) (by omega) (by omega) (fun h17 => (absurd h17 (by decide))) (fun h17 => ?_)
  refine zv_iload_n dX7_isKindOrUnder_20 rfl rfl ?_
  refine zv_iload_n dX7_isKindOrUnder_21 rfl rfl ?_
  refine zv_icN_ne (tgt := 27) dX7_isKindOrUnder_22 (by decide) (by omega) (by omega) (fun h22 => ?_) (fun h22 => (absurd h22 (by decide)))
  refine zv_gets (b := 2) dX7_isKindOrUnder_27 (Or.inr ⟨rfl, st_320⟩) ?_
  refine zv_iload_n dX7_isKindOrUnder_30 rfl rfl ?_
  refine zv_kald (j := 0) (x := (-1 : Int32)) dX7_isKindOrUnder_31 (rfl) (by omega) (rfl) ?_
  refine zv_istore_n (lv' := [.int (nI (1)), .int (nI (4)), .int ((-1 : Int32)), .int (nI (1))]) dX7_isKindOrUnder_32 rfl (by decide) rfl ?_
  refine zv_iinc (v := nI (2)) (lv' := [.int (nI (1)), .int (nI (4)), .int ((-1 : Int32)), .int (nI (2))]) dX7_isKindOrUnder_33 rfl (by decide) (by decide) rfl ?_
  refine zv_goto (tgt := 4) dX7_isKindOrUnder_36 (by decide) ?_
  refine zv_iload_n dX7_isKindOrUnder_4 rfl rfl ?_
  refine zv_bipush (v := nI (6)) dX7_isKindOrUnder_5 (by decide) ?_
  refine zv_icN_ge (tgt := 39) dX7_isKindOrUnder_7 (by decide) (by omega) (by omega) (fun h7 => (absurd h7 (by decide))) (fun h7 => ?_)
  refine zv_iload_n dX7_isKindOrUnder_10 rfl rfl ?_
  refine zv_if_lt (tgt := 39) dX7_isKindOrUnder_11 (by decide) (fun h11 => ?_) (fun h11 => (absurd (by decide) h11))
  refine zv_iconst (v := nI (0)) dX7_isKindOrUnder_39 (by decide) ?_
  refine zv_iret dX7_isKindOrUnder_40 rfl rfl ?_
  exact ⟨rfl, rfl, rfl, rfl, rfl⟩
theorem cU_1_5 (d : Nat) {E : zv_E} {sh : zv_S} {I : zv_I} {J : zv_J} {R : zv_R} : zv_V E mX7_isKindOrUnder d 0 0 0 [.int (nI 1), .int (nI 5)] [] sh I J R (cc_p (rm_b (rm_of 5 1 5)) sh I J R) := by
  refine zv_iload_n dX7_isKindOrUnder_0 rfl rfl ?_
  refine zv_istore_n (lv' := [.int (nI (1)), .int (nI (5)), .int (nI (1))]) dX7_isKindOrUnder_1 rfl (by decide) rfl ?_
  refine zv_iconst (v := nI (0)) dX7_isKindOrUnder_2 (by decide) ?_
  refine zv_istore_n (lv' := [.int (nI (1)), .int (nI (5)), .int (nI (1)), .int (nI (0))]) dX7_isKindOrUnder_3 rfl (by decide) rfl ?_
  refine zv_iload_n dX7_isKindOrUnder_4 rfl rfl ?_
  refine zv_bipush (v := nI (6)) dX7_isKindOrUnder_5 (by decide) ?_
  refine zv_icN_ge (tgt := 39) dX7_isKindOrUnder_7 (by decide) (by omega) (by omega) (fun h7 => (absurd h7 (by decide))) (fun h7 => ?_)
  refine zv_iload_n dX7_isKindOrUnder_10 rfl rfl ?_
  refine zv_if_lt (tgt := 39) dX7_isKindOrUnder_11 (by decide) (fun h11 => (absurd h11 (by decide))) (fun h11 => ?_)
  refine zv_iload_n dX7_isKindOrUnder_14 rfl rfl ?_
  refine zv_bipush (v := nI (6)) dX7_isKindOrUnder_15 (by decide) ?_
  refine zv_icN_ge (tgt := 39) dX7_isKindOrUnder_17 (by decide) (by omega) (by omega) (fun h17 => (absurd h17 (by decide))) (fun h17 => ?_)
  refine zv_iload_n dX7_isKindOrUnder_20 rfl rfl ?_
  refine zv_iload_n dX7_isKindOrUnder_21 rfl rfl ?_
  refine zv_icN_ne (tgt := 27) dX7_isKindOrUnder_22 (by decide) (by omega) (by omega) (fun h22 => ?_) (fun h22 => (absurd h22 (by decide)))
  refine zv_gets (b := 2) dX7_isKindOrUnder_27 (Or.inr ⟨rfl, st_320⟩) ?_
  refine zv_iload_n dX7_isKindOrUnder_30 rfl rfl ?_
  refine zv_kald (j := 1) (x := nI (0)) dX7_isKindOrUnder_31 (rfl) (by omega) (rfl) ?_
  refine zv_istore_n (lv' := [.int (nI (1)), .int (nI (5)), .int (nI (0)), .int (nI (0))]) dX7_isKindOrUnder_32 rfl (by decide) rfl ?_
  refine zv_iinc (v := nI (1)) (lv' := [.int (nI (1)), .int (nI (5)), .int (nI (0)), .int (nI (1))]) dX7_isKindOrUnder_33 rfl (by decide) (by decide) rfl ?_
  refine zv_goto (tgt := 4) dX7_isKindOrUnder_36 (by decide) ?_
  refine zv_iload_n dX7_isKindOrUnder_4 rfl rfl ?_
  refine zv_bipush (v := nI (6)) dX7_isKindOrUnder_5 (by decide) ?_
  refine zv_icN_ge (tgt := 39) dX7_isKindOrUnder_7 (by decide) (by omega) (by omega) (fun h7 => (absurd h7 (by decide))) (fun h7 => ?_)
  refine zv_iload_n dX7_isKindOrUnder_10 rfl rfl ?_
  refine zv_if_lt (tgt := 39) dX7_isKindOrUnder_11 (by decide) (fun h11 => (absurd h11 (by decide))) (fun h11 => ?_)
  refine zv_iload_n dX7_isKindOrUnder_14 rfl rfl ?_
  refine zv_bipush (v := nI (6)) dX7_isKindOrUnder_15 (by decide) ?_
  refine zv_icN_ge (tgt := 39) dX7_isKindOrUnder_17 (by decide) (by omega) (by omega) (fun h17 => (absurd h17 (by decide))) (fun h17 => ?_)
  refine zv_iload_n dX7_isKindOrUnder_20 rfl rfl ?_
  refine zv_iload_n dX7_isKindOrUnder_21 rfl rfl ?_
  refine zv_icN_ne (tgt := 27) dX7_isKindOrUnder_22 (by decide) (by omega) (by omega) (fun h22 => ?_) (fun h22 => (absurd h22 (by decide)))
  refine zv_gets (b := 2) dX7_isKindOrUnder_27 (Or.inr ⟨rfl, st_320⟩) ?_
  refine zv_iload_n dX7_isKindOrUnder_30 rfl rfl ?_
  refine zv_kald (j := 0) (x := (-1 : Int32)) dX7_isKindOrUnder_31 (rfl) (by omega) (rfl) ?_
  refine zv_istore_n (lv' := [.int (nI (1)), .int (nI (5)), .int ((-1 : Int32)), .int (nI (1))]) dX7_isKindOrUnder_32 rfl (by decide) rfl ?_
  refine zv_iinc (v := nI (2)) (lv' := [.int (nI (1)), .int (nI (5)), .int ((-1 : Int32)), .int (nI (2))]) dX7_isKindOrUnder_33 rfl (by decide) (by decide) rfl ?_
  refine zv_goto (tgt := 4) dX7_isKindOrUnder_36 (by decide) ?_
  refine zv_iload_n dX7_isKindOrUnder_4 rfl rfl ?_
  refine zv_bipush (v := nI (6)) dX7_isKindOrUnder_5 (by decide) ?_
  refine zv_icN_ge (tgt := 39) dX7_isKindOrUnder_7 (by decide) (by omega) (by omega) (fun h7 => (absurd h7 (by decide))) (fun h7 => ?_)
  refine zv_iload_n dX7_isKindOrUnder_10 rfl rfl ?_
  refine zv_if_lt (tgt := 39) dX7_isKindOrUnder_11 (by decide) (fun h11 => ?_) (fun h11 => (absurd (by decide) h11))
  refine zv_iconst (v := nI (0)) dX7_isKindOrUnder_39 (by decide) ?_
  refine zv_iret dX7_isKindOrUnder_40 rfl rfl ?_
  exact ⟨rfl, rfl, rfl, rfl, rfl⟩
theorem cU_2_0 (d : Nat) {E : zv_E} {sh : zv_S} {I : zv_I} {J : zv_J} {R : zv_R} : zv_V E mX7_isKindOrUnder d 0 0 0 [.int (nI 2), .int (nI 0)] [] sh I J R (cc_p (rm_b (rm_of 5 2 0)) sh I J R) := by
  refine zv_iload_n dX7_isKindOrUnder_0 rfl rfl ?_
  refine zv_istore_n (lv' := [.int (nI (2)), .int (nI (0)), .int (nI (2))]) dX7_isKindOrUnder_1 rfl (by decide) rfl ?_
  refine zv_iconst (v := nI (0)) dX7_isKindOrUnder_2 (by decide) ?_
  refine zv_istore_n (lv' := [.int (nI (2)), .int (nI (0)), .int (nI (2)), .int (nI (0))]) dX7_isKindOrUnder_3 rfl (by decide) rfl ?_
  refine zv_iload_n dX7_isKindOrUnder_4 rfl rfl ?_
  refine zv_bipush (v := nI (6)) dX7_isKindOrUnder_5 (by decide) ?_
  refine zv_icN_ge (tgt := 39) dX7_isKindOrUnder_7 (by decide) (by omega) (by omega) (fun h7 => (absurd h7 (by decide))) (fun h7 => ?_)
  refine zv_iload_n dX7_isKindOrUnder_10 rfl rfl ?_
  refine zv_if_lt (tgt := 39) dX7_isKindOrUnder_11 (by decide) (fun h11 => (absurd h11 (by decide))) (fun h11 => ?_)
  refine zv_iload_n dX7_isKindOrUnder_14 rfl rfl ?_
  refine zv_bipush (v := nI (6)) dX7_isKindOrUnder_15 (by decide) ?_
  refine zv_icN_ge (tgt := 39) dX7_isKindOrUnder_17 (by decide) (by omega) (by omega) (fun h17 => (absurd h17 (by decide))) (fun h17 => ?_)
  refine zv_iload_n dX7_isKindOrUnder_20 rfl rfl ?_
  refine zv_iload_n dX7_isKindOrUnder_21 rfl rfl ?_
  refine zv_icN_ne (tgt := 27) dX7_isKindOrUnder_22 (by decide) (by omega) (by omega) (fun h22 => ?_) (fun h22 => (absurd h22 (by decide)))
  refine zv_gets (b := 2) dX7_isKindOrUnder_27 (Or.inr ⟨rfl, st_320⟩) ?_
  refine zv_iload_n dX7_isKindOrUnder_30 rfl rfl ?_
  refine zv_kald (j := 2) (x := nI (1)) dX7_isKindOrUnder_31 (rfl) (by omega) (rfl) ?_
  refine zv_istore_n (lv' := [.int (nI (2)), .int (nI (0)), .int (nI (1)), .int (nI (0))]) dX7_isKindOrUnder_32 rfl (by decide) rfl ?_
  refine zv_iinc (v := nI (1)) (lv' := [.int (nI (2)), .int (nI (0)), .int (nI (1)), .int (nI (1))]) dX7_isKindOrUnder_33 rfl (by decide) (by decide) rfl ?_
  refine zv_goto (tgt := 4) dX7_isKindOrUnder_36 (by decide) ?_
  refine zv_iload_n dX7_isKindOrUnder_4 rfl rfl ?_
  refine zv_bipush (v := nI (6)) dX7_isKindOrUnder_5 (by decide) ?_
  refine zv_icN_ge (tgt := 39) dX7_isKindOrUnder_7 (by decide) (by omega) (by omega) (fun h7 => (absurd h7 (by decide))) (fun h7 => ?_)
  refine zv_iload_n dX7_isKindOrUnder_10 rfl rfl ?_
  refine zv_if_lt (tgt := 39) dX7_isKindOrUnder_11 (by decide) (fun h11 => (absurd h11 (by decide))) (fun h11 => ?_)
  refine zv_iload_n dX7_isKindOrUnder_14 rfl rfl ?_
  refine zv_bipush (v := nI (6)) dX7_isKindOrUnder_15 (by decide) ?_
  refine zv_icN_ge (tgt := 39) dX7_isKindOrUnder_17 (by decide) (by omega) (by omega) (fun h17 => (absurd h17 (by decide))) (fun h17 => ?_)
  refine zv_iload_n dX7_isKindOrUnder_20 rfl rfl ?_
  refine zv_iload_n dX7_isKindOrUnder_21 rfl rfl ?_
  refine zv_icN_ne (tgt := 27) dX7_isKindOrUnder_22 (by decide) (by omega) (by omega) (fun h22 => ?_) (fun h22 => (absurd h22 (by decide)))
  refine zv_gets (b := 2) dX7_isKindOrUnder_27 (Or.inr ⟨rfl, st_320⟩) ?_
  refine zv_iload_n dX7_isKindOrUnder_30 rfl rfl ?_
  refine zv_kald (j := 1) (x := nI (0)) dX7_isKindOrUnder_31 (rfl) (by omega) (rfl) ?_
  refine zv_istore_n (lv' := [.int (nI (2)), .int (nI (0)), .int (nI (0)), .int (nI (1))]) dX7_isKindOrUnder_32 rfl (by decide) rfl ?_
  refine zv_iinc (v := nI (2)) (lv' := [.int (nI (2)), .int (nI (0)), .int (nI (0)), .int (nI (2))]) dX7_isKindOrUnder_33 rfl (by decide) (by decide) rfl ?_
  refine zv_goto (tgt := 4) dX7_isKindOrUnder_36 (by decide) ?_
  refine zv_iload_n dX7_isKindOrUnder_4 rfl rfl ?_
  refine zv_bipush (v := nI (6)) dX7_isKindOrUnder_5 (by decide) ?_
  refine zv_icN_ge (tgt := 39) dX7_isKindOrUnder_7 (by decide) (by omega) (by omega) (fun h7 => (absurd h7 (by decide))) (fun h7 => ?_)
  refine zv_iload_n dX7_isKindOrUnder_10 rfl rfl ?_
  refine zv_if_lt (tgt := 39) dX7_isKindOrUnder_11 (by decide) (fun h11 => (absurd h11 (by decide))) (fun h11 => ?_)
  refine zv_iload_n dX7_isKindOrUnder_14 rfl rfl ?_
  refine zv_bipush (v := nI (6)) dX7_isKindOrUnder_15 (by decide) ?_
  refine zv_icN_ge (tgt := 39) dX7_isKindOrUnder_17 (by decide) (by omega) (by omega) (fun h17 => (absurd h17 (by decide))) (fun h17 => ?_)
  refine zv_iload_n dX7_isKindOrUnder_20 rfl rfl ?_
  refine zv_iload_n dX7_isKindOrUnder_21 rfl rfl ?_
  refine zv_icN_ne (tgt := 27) dX7_isKindOrUnder_22 (by decide) (by omega) (by omega) (fun h22 => (absurd h22 (by decide))) (fun h22 => ?_)
  refine zv_iconst (v := nI (1)) dX7_isKindOrUnder_25 (by decide) ?_
  refine zv_iret dX7_isKindOrUnder_26 rfl rfl ?_
  exact ⟨rfl, rfl, rfl, rfl, rfl⟩
theorem cU_2_1 (d : Nat) {E : zv_E} {sh : zv_S} {I : zv_I} {J : zv_J} {R : zv_R} : zv_V E mX7_isKindOrUnder d 0 0 0 [.int (nI 2), .int (nI 1)] [] sh I J R (cc_p (rm_b (rm_of 5 2 1)) sh I J R) := by
  refine zv_iload_n dX7_isKindOrUnder_0 rfl rfl ?_
  refine zv_istore_n (lv' := [.int (nI (2)), .int (nI (1)), .int (nI (2))]) dX7_isKindOrUnder_1 rfl (by decide) rfl ?_
  refine zv_iconst (v := nI (0)) dX7_isKindOrUnder_2 (by decide) ?_
  refine zv_istore_n (lv' := [.int (nI (2)), .int (nI (1)), .int (nI (2)), .int (nI (0))]) dX7_isKindOrUnder_3 rfl (by decide) rfl ?_
  refine zv_iload_n dX7_isKindOrUnder_4 rfl rfl ?_
  refine zv_bipush (v := nI (6)) dX7_isKindOrUnder_5 (by decide) ?_
  refine zv_icN_ge (tgt := 39) dX7_isKindOrUnder_7 (by decide) (by omega) (by omega) (fun h7 => (absurd h7 (by decide))) (fun h7 => ?_)
  refine zv_iload_n dX7_isKindOrUnder_10 rfl rfl ?_
  refine zv_if_lt (tgt := 39) dX7_isKindOrUnder_11 (by decide) (fun h11 => (absurd h11 (by decide))) (fun h11 => ?_)
  refine zv_iload_n dX7_isKindOrUnder_14 rfl rfl ?_
  refine zv_bipush (v := nI (6)) dX7_isKindOrUnder_15 (by decide) ?_
  refine zv_icN_ge (tgt := 39) dX7_isKindOrUnder_17 (by decide) (by omega) (by omega) (fun h17 => (absurd h17 (by decide))) (fun h17 => ?_)
  refine zv_iload_n dX7_isKindOrUnder_20 rfl rfl ?_
  refine zv_iload_n dX7_isKindOrUnder_21 rfl rfl ?_
  refine zv_icN_ne (tgt := 27) dX7_isKindOrUnder_22 (by decide) (by omega) (by omega) (fun h22 => ?_) (fun h22 => (absurd h22 (by decide)))
  refine zv_gets (b := 2) dX7_isKindOrUnder_27 (Or.inr ⟨rfl, st_320⟩) ?_
  refine zv_iload_n dX7_isKindOrUnder_30 rfl rfl ?_
  refine zv_kald (j := 2) (x := nI (1)) dX7_isKindOrUnder_31 (rfl) (by omega) (rfl) ?_
  refine zv_istore_n (lv' := [.int (nI (2)), .int (nI (1)), .int (nI (1)), .int (nI (0))]) dX7_isKindOrUnder_32 rfl (by decide) rfl ?_
  refine zv_iinc (v := nI (1)) (lv' := [.int (nI (2)), .int (nI (1)), .int (nI (1)), .int (nI (1))]) dX7_isKindOrUnder_33 rfl (by decide) (by decide) rfl ?_
  refine zv_goto (tgt := 4) dX7_isKindOrUnder_36 (by decide) ?_
  refine zv_iload_n dX7_isKindOrUnder_4 rfl rfl ?_
  refine zv_bipush (v := nI (6)) dX7_isKindOrUnder_5 (by decide) ?_
  refine zv_icN_ge (tgt := 39) dX7_isKindOrUnder_7 (by decide) (by omega) (by omega) (fun h7 => (absurd h7 (by decide))) (fun h7 => ?_)
  refine zv_iload_n dX7_isKindOrUnder_10 rfl rfl ?_
  refine zv_if_lt (tgt := 39) dX7_isKindOrUnder_11 (by decide) (fun h11 => (absurd h11 (by decide))) (fun h11 => ?_)
  refine zv_iload_n dX7_isKindOrUnder_14 rfl rfl ?_
  refine zv_bipush (v := nI (6)) dX7_isKindOrUnder_15 (by decide) ?_
  refine zv_icN_ge (tgt := 39) dX7_isKindOrUnder_17 (by decide) (by omega) (by omega) (fun h17 => (absurd h17 (by decide))) (fun h17 => ?_)
  refine zv_iload_n dX7_isKindOrUnder_20 rfl rfl ?_
  refine zv_iload_n dX7_isKindOrUnder_21 rfl rfl ?_
  refine zv_icN_ne (tgt := 27) dX7_isKindOrUnder_22 (by decide) (by omega) (by omega) (fun h22 => (absurd h22 (by decide))) (fun h22 => ?_)
  refine zv_iconst (v := nI (1)) dX7_isKindOrUnder_25 (by decide) ?_
  refine zv_iret dX7_isKindOrUnder_26 rfl rfl ?_
  exact ⟨rfl, rfl, rfl, rfl, rfl⟩
theorem cU_2_2 (d : Nat) {E : zv_E} {sh : zv_S} {I : zv_I} {J : zv_J} {R : zv_R} : zv_V E mX7_isKindOrUnder d 0 0 0 [.int (nI 2), .int (nI 2)] [] sh I J R (cc_p (rm_b (rm_of 5 2 2)) sh I J R) := by
  refine zv_iload_n dX7_isKindOrUnder_0 rfl rfl ?_
  refine zv_istore_n (lv' := [.int (nI (2)), .int (nI (2)), .int (nI (2))]) dX7_isKindOrUnder_1 rfl (by decide) rfl ?_
  refine zv_iconst (v := nI (0)) dX7_isKindOrUnder_2 (by decide) ?_
  refine zv_istore_n (lv' := [.int (nI (2)), .int (nI (2)), .int (nI (2)), .int (nI (0))]) dX7_isKindOrUnder_3 rfl (by decide) rfl ?_
  refine zv_iload_n dX7_isKindOrUnder_4 rfl rfl ?_
  refine zv_bipush (v := nI (6)) dX7_isKindOrUnder_5 (by decide) ?_
  refine zv_icN_ge (tgt := 39) dX7_isKindOrUnder_7 (by decide) (by omega) (by omega) (fun h7 => (absurd h7 (by decide))) (fun h7 => ?_)
  refine zv_iload_n dX7_isKindOrUnder_10 rfl rfl ?_
  refine zv_if_lt (tgt := 39) dX7_isKindOrUnder_11 (by decide) (fun h11 => (absurd h11 (by decide))) (fun h11 => ?_)
  refine zv_iload_n dX7_isKindOrUnder_14 rfl rfl ?_
  refine zv_bipush (v := nI (6)) dX7_isKindOrUnder_15 (by decide) ?_
  refine zv_icN_ge (tgt := 39) dX7_isKindOrUnder_17 (by decide) (by omega) (by omega) (fun h17 => (absurd h17 (by decide))) (fun h17 => ?_)
  refine zv_iload_n dX7_isKindOrUnder_20 rfl rfl ?_
  refine zv_iload_n dX7_isKindOrUnder_21 rfl rfl ?_
  refine zv_icN_ne (tgt := 27) dX7_isKindOrUnder_22 (by decide) (by omega) (by omega) (fun h22 => (absurd h22 (by decide))) (fun h22 => ?_)
  refine zv_iconst (v := nI (1)) dX7_isKindOrUnder_25 (by decide) ?_
  refine zv_iret dX7_isKindOrUnder_26 rfl rfl ?_
  exact ⟨rfl, rfl, rfl, rfl, rfl⟩
theorem cU_2_3 (d : Nat) {E : zv_E} {sh : zv_S} {I : zv_I} {J : zv_J} {R : zv_R} : zv_V E mX7_isKindOrUnder d 0 0 0 [.int (nI 2), .int (nI 3)] [] sh I J R (cc_p (rm_b (rm_of 5 2 3)) sh I J R) := by
  refine zv_iload_n dX7_isKindOrUnder_0 rfl rfl ?_
  refine zv_istore_n (lv' := [.int (nI (2)), .int (nI (3)), .int (nI (2))]) dX7_isKindOrUnder_1 rfl (by decide) rfl ?_
  refine zv_iconst (v := nI (0)) dX7_isKindOrUnder_2 (by decide) ?_
  refine zv_istore_n (lv' := [.int (nI (2)), .int (nI (3)), .int (nI (2)), .int (nI (0))]) dX7_isKindOrUnder_3 rfl (by decide) rfl ?_
  refine zv_iload_n dX7_isKindOrUnder_4 rfl rfl ?_
  refine zv_bipush (v := nI (6)) dX7_isKindOrUnder_5 (by decide) ?_
  refine zv_icN_ge (tgt := 39) dX7_isKindOrUnder_7 (by decide) (by omega) (by omega) (fun h7 => (absurd h7 (by decide))) (fun h7 => ?_)
  refine zv_iload_n dX7_isKindOrUnder_10 rfl rfl ?_
  refine zv_if_lt (tgt := 39) dX7_isKindOrUnder_11 (by decide) (fun h11 => (absurd h11 (by decide))) (fun h11 => ?_)
  refine zv_iload_n dX7_isKindOrUnder_14 rfl rfl ?_
  refine zv_bipush (v := nI (6)) dX7_isKindOrUnder_15 (by decide) ?_
  refine zv_icN_ge (tgt := 39) dX7_isKindOrUnder_17 (by decide) (by omega) (by omega) (fun h17 => (absurd h17 (by decide))) (fun h17 => ?_)
  refine zv_iload_n dX7_isKindOrUnder_20 rfl rfl ?_
  refine zv_iload_n dX7_isKindOrUnder_21 rfl rfl ?_
  refine zv_icN_ne (tgt := 27) dX7_isKindOrUnder_22 (by decide) (by omega) (by omega) (fun h22 => ?_) (fun h22 => (absurd h22 (by decide)))
  refine zv_gets (b := 2) dX7_isKindOrUnder_27 (Or.inr ⟨rfl, st_320⟩) ?_
  refine zv_iload_n dX7_isKindOrUnder_30 rfl rfl ?_
  refine zv_kald (j := 2) (x := nI (1)) dX7_isKindOrUnder_31 (rfl) (by omega) (rfl) ?_
  refine zv_istore_n (lv' := [.int (nI (2)), .int (nI (3)), .int (nI (1)), .int (nI (0))]) dX7_isKindOrUnder_32 rfl (by decide) rfl ?_
  refine zv_iinc (v := nI (1)) (lv' := [.int (nI (2)), .int (nI (3)), .int (nI (1)), .int (nI (1))]) dX7_isKindOrUnder_33 rfl (by decide) (by decide) rfl ?_
  refine zv_goto (tgt := 4) dX7_isKindOrUnder_36 (by decide) ?_
  refine zv_iload_n dX7_isKindOrUnder_4 rfl rfl ?_
  refine zv_bipush (v := nI (6)) dX7_isKindOrUnder_5 (by decide) ?_
  refine zv_icN_ge (tgt := 39) dX7_isKindOrUnder_7 (by decide) (by omega) (by omega) (fun h7 => (absurd h7 (by decide))) (fun h7 => ?_)
  refine zv_iload_n dX7_isKindOrUnder_10 rfl rfl ?_
  refine zv_if_lt (tgt := 39) dX7_isKindOrUnder_11 (by decide) (fun h11 => (absurd h11 (by decide))) (fun h11 => ?_)
  refine zv_iload_n dX7_isKindOrUnder_14 rfl rfl ?_
  refine zv_bipush (v := nI (6)) dX7_isKindOrUnder_15 (by decide) ?_
  refine zv_icN_ge (tgt := 39) dX7_isKindOrUnder_17 (by decide) (by omega) (by omega) (fun h17 => (absurd h17 (by decide))) (fun h17 => ?_)
  refine zv_iload_n dX7_isKindOrUnder_20 rfl rfl ?_
  refine zv_iload_n dX7_isKindOrUnder_21 rfl rfl ?_
  refine zv_icN_ne (tgt := 27) dX7_isKindOrUnder_22 (by decide) (by omega) (by omega) (fun h22 => ?_) (fun h22 => (absurd h22 (by decide)))
  refine zv_gets (b := 2) dX7_isKindOrUnder_27 (Or.inr ⟨rfl, st_320⟩) ?_
  refine zv_iload_n dX7_isKindOrUnder_30 rfl rfl ?_
  refine zv_kald (j := 1) (x := nI (0)) dX7_isKindOrUnder_31 (rfl) (by omega) (rfl) ?_
  refine zv_istore_n (lv' := [.int (nI (2)), .int (nI (3)), .int (nI (0)), .int (nI (1))]) dX7_isKindOrUnder_32 rfl (by decide) rfl ?_
  refine zv_iinc (v := nI (2)) (lv' := [.int (nI (2)), .int (nI (3)), .int (nI (0)), .int (nI (2))]) dX7_isKindOrUnder_33 rfl (by decide) (by decide) rfl ?_
  refine zv_goto (tgt := 4) dX7_isKindOrUnder_36 (by decide) ?_
  refine zv_iload_n dX7_isKindOrUnder_4 rfl rfl ?_
  refine zv_bipush (v := nI (6)) dX7_isKindOrUnder_5 (by decide) ?_
  refine zv_icN_ge (tgt := 39) dX7_isKindOrUnder_7 (by decide) (by omega) (by omega) (fun h7 => (absurd h7 (by decide))) (fun h7 => ?_)
  refine zv_iload_n dX7_isKindOrUnder_10 rfl rfl ?_
  refine zv_if_lt (tgt := 39) dX7_isKindOrUnder_11 (by decide) (fun h11 => (absurd h11 (by decide))) (fun h11 => ?_)
  refine zv_iload_n dX7_isKindOrUnder_14 rfl rfl ?_
  refine zv_bipush (v := nI (6)) dX7_isKindOrUnder_15 (by decide) ?_
  refine zv_icN_ge (tgt := 39) dX7_isKindOrUnder_17 (by decide) (by omega) (by omega) (fun h17 => (absurd h17 (by decide))) (fun h17 => ?_)
  refine zv_iload_n dX7_isKindOrUnder_20 rfl rfl ?_
  refine zv_iload_n dX7_isKindOrUnder_21 rfl rfl ?_
  refine zv_icN_ne (tgt := 27) dX7_isKindOrUnder_22 (by decide) (by omega) (by omega) (fun h22 => ?_) (fun h22 => (absurd h22 (by decide)))
  refine zv_gets (b := 2) dX7_isKindOrUnder_27 (Or.inr ⟨rfl, st_320⟩) ?_
  refine zv_iload_n dX7_isKindOrUnder_30 rfl rfl ?_
  refine zv_kald (j := 0) (x := (-1 : Int32)) dX7_isKindOrUnder_31 (rfl) (by omega) (rfl) ?_
  refine zv_istore_n (lv' := [.int (nI (2)), .int (nI (3)), .int ((-1 : Int32)), .int (nI (2))]) dX7_isKindOrUnder_32 rfl (by decide) rfl ?_
  refine zv_iinc (v := nI (3)) (lv' := [.int (nI (2)), .int (nI (3)), .int ((-1 : Int32)), .int (nI (3))]) dX7_isKindOrUnder_33 rfl (by decide) (by decide) rfl ?_
  refine zv_goto (tgt := 4) dX7_isKindOrUnder_36 (by decide) ?_
  refine zv_iload_n dX7_isKindOrUnder_4 rfl rfl ?_
  refine zv_bipush (v := nI (6)) dX7_isKindOrUnder_5 (by decide) ?_
  refine zv_icN_ge (tgt := 39) dX7_isKindOrUnder_7 (by decide) (by omega) (by omega) (fun h7 => (absurd h7 (by decide))) (fun h7 => ?_)
  refine zv_iload_n dX7_isKindOrUnder_10 rfl rfl ?_
  refine zv_if_lt (tgt := 39) dX7_isKindOrUnder_11 (by decide) (fun h11 => ?_) (fun h11 => (absurd (by decide) h11))
  refine zv_iconst (v := nI (0)) dX7_isKindOrUnder_39 (by decide) ?_
  refine zv_iret dX7_isKindOrUnder_40 rfl rfl ?_
  exact ⟨rfl, rfl, rfl, rfl, rfl⟩
theorem cU_2_4 (d : Nat) {E : zv_E} {sh : zv_S} {I : zv_I} {J : zv_J} {R : zv_R} : zv_V E mX7_isKindOrUnder d 0 0 0 [.int (nI 2), .int (nI 4)] [] sh I J R (cc_p (rm_b (rm_of 5 2 4)) sh I J R) := by
  refine zv_iload_n dX7_isKindOrUnder_0 rfl rfl ?_
  refine zv_istore_n (lv' := [.int (nI (2)), .int (nI (4)), .int (nI (2))]) dX7_isKindOrUnder_1 rfl (by decide) rfl ?_
  refine zv_iconst (v := nI (0)) dX7_isKindOrUnder_2 (by decide) ?_
  refine zv_istore_n (lv' := [.int (nI (2)), .int (nI (4)), .int (nI (2)), .int (nI (0))]) dX7_isKindOrUnder_3 rfl (by decide) rfl ?_
  refine zv_iload_n dX7_isKindOrUnder_4 rfl rfl ?_
  refine zv_bipush (v := nI (6)) dX7_isKindOrUnder_5 (by decide) ?_
  refine zv_icN_ge (tgt := 39) dX7_isKindOrUnder_7 (by decide) (by omega) (by omega) (fun h7 => (absurd h7 (by decide))) (fun h7 => ?_)
  refine zv_iload_n dX7_isKindOrUnder_10 rfl rfl ?_
  refine zv_if_lt (tgt := 39) dX7_isKindOrUnder_11 (by decide) (fun h11 => (absurd h11 (by decide))) (fun h11 => ?_)
  refine zv_iload_n dX7_isKindOrUnder_14 rfl rfl ?_
  refine zv_bipush (v := nI (6)) dX7_isKindOrUnder_15 (by decide) ?_
  refine zv_icN_ge (tgt := 39) dX7_isKindOrUnder_17 (by decide) (by omega) (by omega) (fun h17 => (absurd h17 (by decide))) (fun h17 => ?_)
  refine zv_iload_n dX7_isKindOrUnder_20 rfl rfl ?_
  refine zv_iload_n dX7_isKindOrUnder_21 rfl rfl ?_
  refine zv_icN_ne (tgt := 27) dX7_isKindOrUnder_22 (by decide) (by omega) (by omega) (fun h22 => ?_) (fun h22 => (absurd h22 (by decide)))
  refine zv_gets (b := 2) dX7_isKindOrUnder_27 (Or.inr ⟨rfl, st_320⟩) ?_
  refine zv_iload_n dX7_isKindOrUnder_30 rfl rfl ?_
  refine zv_kald (j := 2) (x := nI (1)) dX7_isKindOrUnder_31 (rfl) (by omega) (rfl) ?_
  refine zv_istore_n (lv' := [.int (nI (2)), .int (nI (4)), .int (nI (1)), .int (nI (0))]) dX7_isKindOrUnder_32 rfl (by decide) rfl ?_
  refine zv_iinc (v := nI (1)) (lv' := [.int (nI (2)), .int (nI (4)), .int (nI (1)), .int (nI (1))]) dX7_isKindOrUnder_33 rfl (by decide) (by decide) rfl ?_
  refine zv_goto (tgt := 4) dX7_isKindOrUnder_36 (by decide) ?_
  refine zv_iload_n dX7_isKindOrUnder_4 rfl rfl ?_
  refine zv_bipush (v := nI (6)) dX7_isKindOrUnder_5 (by decide) ?_
  refine zv_icN_ge (tgt := 39) dX7_isKindOrUnder_7 (by decide) (by omega) (by omega) (fun h7 => (absurd h7 (by decide))) (fun h7 => ?_)
  refine zv_iload_n dX7_isKindOrUnder_10 rfl rfl ?_
  refine zv_if_lt (tgt := 39) dX7_isKindOrUnder_11 (by decide) (fun h11 => (absurd h11 (by decide))) (fun h11 => ?_)
  refine zv_iload_n dX7_isKindOrUnder_14 rfl rfl ?_
  refine zv_bipush (v := nI (6)) dX7_isKindOrUnder_15 (by decide) ?_
  refine zv_icN_ge (tgt := 39) dX7_isKindOrUnder_17 (by decide) (by omega) (by omega) (fun h17 => (absurd h17 (by decide))) (fun h17 => ?_)
  refine zv_iload_n dX7_isKindOrUnder_20 rfl rfl ?_
  refine zv_iload_n dX7_isKindOrUnder_21 rfl rfl ?_
  refine zv_icN_ne (tgt := 27) dX7_isKindOrUnder_22 (by decide) (by omega) (by omega) (fun h22 => ?_) (fun h22 => (absurd h22 (by decide)))
  refine zv_gets (b := 2) dX7_isKindOrUnder_27 (Or.inr ⟨rfl, st_320⟩) ?_
  refine zv_iload_n dX7_isKindOrUnder_30 rfl rfl ?_
  refine zv_kald (j := 1) (x := nI (0)) dX7_isKindOrUnder_31 (rfl) (by omega) (rfl) ?_
  refine zv_istore_n (lv' := [.int (nI (2)), .int (nI (4)), .int (nI (0)), .int (nI (1))]) dX7_isKindOrUnder_32 rfl (by decide) rfl ?_
  refine zv_iinc (v := nI (2)) (lv' := [.int (nI (2)), .int (nI (4)), .int (nI (0)), .int (nI (2))]) dX7_isKindOrUnder_33 rfl (by decide) (by decide) rfl ?_
  refine zv_goto (tgt := 4) dX7_isKindOrUnder_36 (by decide) ?_
  refine zv_iload_n dX7_isKindOrUnder_4 rfl rfl ?_
  refine zv_bipush (v := nI (6)) dX7_isKindOrUnder_5 (by decide) ?_
  refine zv_icN_ge (tgt := 39) dX7_isKindOrUnder_7 (by decide) (by omega) (by omega) (fun h7 => (absurd h7 (by decide))) (fun h7 => ?_)
  refine zv_iload_n dX7_isKindOrUnder_10 rfl rfl ?_
  refine zv_if_lt (tgt := 39) dX7_isKindOrUnder_11 (by decide) (fun h11 => (absurd h11 (by decide))) (fun h11 => ?_)
  refine zv_iload_n dX7_isKindOrUnder_14 rfl rfl ?_
  refine zv_bipush (v := nI (6)) dX7_isKindOrUnder_15 (by decide) ?_
  refine zv_icN_ge (tgt := 39) dX7_isKindOrUnder_17 (by decide) (by omega) (by omega) (fun h17 => (absurd h17 (by decide))) (fun h17 => ?_)
  refine zv_iload_n dX7_isKindOrUnder_20 rfl rfl ?_
  refine zv_iload_n dX7_isKindOrUnder_21 rfl rfl ?_
  refine zv_icN_ne (tgt := 27) dX7_isKindOrUnder_22 (by decide) (by omega) (by omega) (fun h22 => ?_) (fun h22 => (absurd h22 (by decide)))
  refine zv_gets (b := 2) dX7_isKindOrUnder_27 (Or.inr ⟨rfl, st_320⟩) ?_
  refine zv_iload_n dX7_isKindOrUnder_30 rfl rfl ?_
  refine zv_kald (j := 0) (x := (-1 : Int32)) dX7_isKindOrUnder_31 (rfl) (by omega) (rfl) ?_
  refine zv_istore_n (lv' := [.int (nI (2)), .int (nI (4)), .int ((-1 : Int32)), .int (nI (2))]) dX7_isKindOrUnder_32 rfl (by decide) rfl ?_
  refine zv_iinc (v := nI (3)) (lv' := [.int (nI (2)), .int (nI (4)), .int ((-1 : Int32)), .int (nI (3))]) dX7_isKindOrUnder_33 rfl (by decide) (by decide) rfl ?_
  refine zv_goto (tgt := 4) dX7_isKindOrUnder_36 (by decide) ?_
  refine zv_iload_n dX7_isKindOrUnder_4 rfl rfl ?_
  refine zv_bipush (v := nI (6)) dX7_isKindOrUnder_5 (by decide) ?_
  refine zv_icN_ge (tgt := 39) dX7_isKindOrUnder_7 (by decide) (by omega) (by omega) (fun h7 => (absurd h7 (by decide))) (fun h7 => ?_)
  refine zv_iload_n dX7_isKindOrUnder_10 rfl rfl ?_
  refine zv_if_lt (tgt := 39) dX7_isKindOrUnder_11 (by decide) (fun h11 => ?_) (fun h11 => (absurd (by decide) h11))
  refine zv_iconst (v := nI (0)) dX7_isKindOrUnder_39 (by decide) ?_
  refine zv_iret dX7_isKindOrUnder_40 rfl rfl ?_
  exact ⟨rfl, rfl, rfl, rfl, rfl⟩
theorem cU_2_5 (d : Nat) {E : zv_E} {sh : zv_S} {I : zv_I} {J : zv_J} {R : zv_R} : zv_V E mX7_isKindOrUnder d 0 0 0 [.int (nI 2), .int (nI 5)] [] sh I J R (cc_p (rm_b (rm_of 5 2 5)) sh I J R) := by
  refine zv_iload_n dX7_isKindOrUnder_0 rfl rfl ?_
  refine zv_istore_n (lv' := [.int (nI (2)), .int (nI (5)), .int (nI (2))]) dX7_isKindOrUnder_1 rfl (by decide) rfl ?_
  refine zv_iconst (v := nI (0)) dX7_isKindOrUnder_2 (by decide) ?_
  refine zv_istore_n (lv' := [.int (nI (2)), .int (nI (5)), .int (nI (2)), .int (nI (0))]) dX7_isKindOrUnder_3 rfl (by decide) rfl ?_
  refine zv_iload_n dX7_isKindOrUnder_4 rfl rfl ?_
  refine zv_bipush (v := nI (6)) dX7_isKindOrUnder_5 (by decide) ?_
  refine zv_icN_ge (tgt := 39) dX7_isKindOrUnder_7 (by decide) (by omega) (by omega) (fun h7 => (absurd h7 (by decide))) (fun h7 => ?_)
  refine zv_iload_n dX7_isKindOrUnder_10 rfl rfl ?_
  refine zv_if_lt (tgt := 39) dX7_isKindOrUnder_11 (by decide) (fun h11 => (absurd h11 (by decide))) (fun h11 => ?_)
  refine zv_iload_n dX7_isKindOrUnder_14 rfl rfl ?_
  refine zv_bipush (v := nI (6)) dX7_isKindOrUnder_15 (by decide) ?_
  refine zv_icN_ge (tgt := 39) dX7_isKindOrUnder_17 (by decide) (by omega) (by omega) (fun h17 => (absurd h17 (by decide))) (fun h17 => ?_)
  refine zv_iload_n dX7_isKindOrUnder_20 rfl rfl ?_
  refine zv_iload_n dX7_isKindOrUnder_21 rfl rfl ?_
  refine zv_icN_ne (tgt := 27) dX7_isKindOrUnder_22 (by decide) (by omega) (by omega) (fun h22 => ?_) (fun h22 => (absurd h22 (by decide)))
  refine zv_gets (b := 2) dX7_isKindOrUnder_27 (Or.inr ⟨rfl, st_320⟩) ?_
  refine zv_iload_n dX7_isKindOrUnder_30 rfl rfl ?_
  refine zv_kald (j := 2) (x := nI (1)) dX7_isKindOrUnder_31 (rfl) (by omega) (rfl) ?_
  refine zv_istore_n (lv' := [.int (nI (2)), .int (nI (5)), .int (nI (1)), .int (nI (0))]) dX7_isKindOrUnder_32 rfl (by decide) rfl ?_
  refine zv_iinc (v := nI (1)) (lv' := [.int (nI (2)), .int (nI (5)), .int (nI (1)), .int (nI (1))]) dX7_isKindOrUnder_33 rfl (by decide) (by decide) rfl ?_
  refine zv_goto (tgt := 4) dX7_isKindOrUnder_36 (by decide) ?_
  refine zv_iload_n dX7_isKindOrUnder_4 rfl rfl ?_
  refine zv_bipush (v := nI (6)) dX7_isKindOrUnder_5 (by decide) ?_
  refine zv_icN_ge (tgt := 39) dX7_isKindOrUnder_7 (by decide) (by omega) (by omega) (fun h7 => (absurd h7 (by decide))) (fun h7 => ?_)
  refine zv_iload_n dX7_isKindOrUnder_10 rfl rfl ?_
  refine zv_if_lt (tgt := 39) dX7_isKindOrUnder_11 (by decide) (fun h11 => (absurd h11 (by decide))) (fun h11 => ?_)
  refine zv_iload_n dX7_isKindOrUnder_14 rfl rfl ?_
  refine zv_bipush (v := nI (6)) dX7_isKindOrUnder_15 (by decide) ?_
  refine zv_icN_ge (tgt := 39) dX7_isKindOrUnder_17 (by decide) (by omega) (by omega) (fun h17 => (absurd h17 (by decide))) (fun h17 => ?_)
  refine zv_iload_n dX7_isKindOrUnder_20 rfl rfl ?_
  refine zv_iload_n dX7_isKindOrUnder_21 rfl rfl ?_
  refine zv_icN_ne (tgt := 27) dX7_isKindOrUnder_22 (by decide) (by omega) (by omega) (fun h22 => ?_) (fun h22 => (absurd h22 (by decide)))
  refine zv_gets (b := 2) dX7_isKindOrUnder_27 (Or.inr ⟨rfl, st_320⟩) ?_
  refine zv_iload_n dX7_isKindOrUnder_30 rfl rfl ?_
  refine zv_kald (j := 1) (x := nI (0)) dX7_isKindOrUnder_31 (rfl) (by omega) (rfl) ?_
  refine zv_istore_n (lv' := [.int (nI (2)), .int (nI (5)), .int (nI (0)), .int (nI (1))]) dX7_isKindOrUnder_32 rfl (by decide) rfl ?_
  refine zv_iinc (v := nI (2)) (lv' := [.int (nI (2)), .int (nI (5)), .int (nI (0)), .int (nI (2))]) dX7_isKindOrUnder_33 rfl (by decide) (by decide) rfl ?_
  refine zv_goto (tgt := 4) dX7_isKindOrUnder_36 (by decide) ?_
  refine zv_iload_n dX7_isKindOrUnder_4 rfl rfl ?_
  refine zv_bipush (v := nI (6)) dX7_isKindOrUnder_5 (by decide) ?_
  refine zv_icN_ge (tgt := 39) dX7_isKindOrUnder_7 (by decide) (by omega) (by omega) (fun h7 => (absurd h7 (by decide))) (fun h7 => ?_)
  refine zv_iload_n dX7_isKindOrUnder_10 rfl rfl ?_
  refine zv_if_lt (tgt := 39) dX7_isKindOrUnder_11 (by decide) (fun h11 => (absurd h11 (by decide))) (fun h11 => ?_)
  refine zv_iload_n dX7_isKindOrUnder_14 rfl rfl ?_
  refine zv_bipush (v := nI (6)) dX7_isKindOrUnder_15 (by decide) ?_
  refine zv_icN_ge (tgt := 39) dX7_isKindOrUnder_17 (by decide) (by omega) (by omega) (fun h17 => (absurd h17 (by decide))) (fun h17 => ?_)
  refine zv_iload_n dX7_isKindOrUnder_20 rfl rfl ?_
  refine zv_iload_n dX7_isKindOrUnder_21 rfl rfl ?_
  refine zv_icN_ne (tgt := 27) dX7_isKindOrUnder_22 (by decide) (by omega) (by omega) (fun h22 => ?_) (fun h22 => (absurd h22 (by decide)))
  refine zv_gets (b := 2) dX7_isKindOrUnder_27 (Or.inr ⟨rfl, st_320⟩) ?_
  refine zv_iload_n dX7_isKindOrUnder_30 rfl rfl ?_
  refine zv_kald (j := 0) (x := (-1 : Int32)) dX7_isKindOrUnder_31 (rfl) (by omega) (rfl) ?_
  refine zv_istore_n (lv' := [.int (nI (2)), .int (nI (5)), .int ((-1 : Int32)), .int (nI (2))]) dX7_isKindOrUnder_32 rfl (by decide) rfl ?_
  refine zv_iinc (v := nI (3)) (lv' := [.int (nI (2)), .int (nI (5)), .int ((-1 : Int32)), .int (nI (3))]) dX7_isKindOrUnder_33 rfl (by decide) (by decide) rfl ?_
  refine zv_goto (tgt := 4) dX7_isKindOrUnder_36 (by decide) ?_
  refine zv_iload_n dX7_isKindOrUnder_4 rfl rfl ?_
  refine zv_bipush (v := nI (6)) dX7_isKindOrUnder_5 (by decide) ?_
  refine zv_icN_ge (tgt := 39) dX7_isKindOrUnder_7 (by decide) (by omega) (by omega) (fun h7 => (absurd h7 (by decide))) (fun h7 => ?_)
  refine zv_iload_n dX7_isKindOrUnder_10 rfl rfl ?_
  refine zv_if_lt (tgt := 39) dX7_isKindOrUnder_11 (by decide) (fun h11 => ?_) (fun h11 => (absurd (by decide) h11))
  refine zv_iconst (v := nI (0)) dX7_isKindOrUnder_39 (by decide) ?_
  refine zv_iret dX7_isKindOrUnder_40 rfl rfl ?_
  exact ⟨rfl, rfl, rfl, rfl, rfl⟩
theorem cU_3_0 (d : Nat) {E : zv_E} {sh : zv_S} {I : zv_I} {J : zv_J} {R : zv_R} : zv_V E mX7_isKindOrUnder d 0 0 0 [.int (nI 3), .int (nI 0)] [] sh I J R (cc_p (rm_b (rm_of 5 3 0)) sh I J R) := by
  refine zv_iload_n dX7_isKindOrUnder_0 rfl rfl ?_
  refine zv_istore_n (lv' := [.int (nI (3)), .int (nI (0)), .int (nI (3))]) dX7_isKindOrUnder_1 rfl (by decide) rfl ?_
  refine zv_iconst (v := nI (0)) dX7_isKindOrUnder_2 (by decide) ?_
  refine zv_istore_n (lv' := [.int (nI (3)), .int (nI (0)), .int (nI (3)), .int (nI (0))]) dX7_isKindOrUnder_3 rfl (by decide) rfl ?_
  refine zv_iload_n dX7_isKindOrUnder_4 rfl rfl ?_
  refine zv_bipush (v := nI (6)) dX7_isKindOrUnder_5 (by decide) ?_
  refine zv_icN_ge (tgt := 39) dX7_isKindOrUnder_7 (by decide) (by omega) (by omega) (fun h7 => (absurd h7 (by decide))) (fun h7 => ?_)
  refine zv_iload_n dX7_isKindOrUnder_10 rfl rfl ?_
  refine zv_if_lt (tgt := 39) dX7_isKindOrUnder_11 (by decide) (fun h11 => (absurd h11 (by decide))) (fun h11 => ?_)
  refine zv_iload_n dX7_isKindOrUnder_14 rfl rfl ?_
  refine zv_bipush (v := nI (6)) dX7_isKindOrUnder_15 (by decide) ?_
  refine zv_icN_ge (tgt := 39) dX7_isKindOrUnder_17 (by decide) (by omega) (by omega) (fun h17 => (absurd h17 (by decide))) (fun h17 => ?_)
  refine zv_iload_n dX7_isKindOrUnder_20 rfl rfl ?_
  refine zv_iload_n dX7_isKindOrUnder_21 rfl rfl ?_
  refine zv_icN_ne (tgt := 27) dX7_isKindOrUnder_22 (by decide) (by omega) (by omega) (fun h22 => ?_) (fun h22 => (absurd h22 (by decide)))
  refine zv_gets (b := 2) dX7_isKindOrUnder_27 (Or.inr ⟨rfl, st_320⟩) ?_
  refine zv_iload_n dX7_isKindOrUnder_30 rfl rfl ?_
  refine zv_kald (j := 3) (x := nI (0)) dX7_isKindOrUnder_31 (rfl) (by omega) (rfl) ?_
  refine zv_istore_n (lv' := [.int (nI (3)), .int (nI (0)), .int (nI (0)), .int (nI (0))]) dX7_isKindOrUnder_32 rfl (by decide) rfl ?_
  refine zv_iinc (v := nI (1)) (lv' := [.int (nI (3)), .int (nI (0)), .int (nI (0)), .int (nI (1))]) dX7_isKindOrUnder_33 rfl (by decide) (by decide) rfl ?_
  refine zv_goto (tgt := 4) dX7_isKindOrUnder_36 (by decide) ?_
  refine zv_iload_n dX7_isKindOrUnder_4 rfl rfl ?_
  refine zv_bipush (v := nI (6)) dX7_isKindOrUnder_5 (by decide) ?_
  refine zv_icN_ge (tgt := 39) dX7_isKindOrUnder_7 (by decide) (by omega) (by omega) (fun h7 => (absurd h7 (by decide))) (fun h7 => ?_)
  refine zv_iload_n dX7_isKindOrUnder_10 rfl rfl ?_
  refine zv_if_lt (tgt := 39) dX7_isKindOrUnder_11 (by decide) (fun h11 => (absurd h11 (by decide))) (fun h11 => ?_)
  refine zv_iload_n dX7_isKindOrUnder_14 rfl rfl ?_
  refine zv_bipush (v := nI (6)) dX7_isKindOrUnder_15 (by decide) ?_
  refine zv_icN_ge (tgt := 39) dX7_isKindOrUnder_17 (by decide) (by omega) (by omega) (fun h17 => (absurd h17 (by decide))) (fun h17 => ?_)
  refine zv_iload_n dX7_isKindOrUnder_20 rfl rfl ?_
  refine zv_iload_n dX7_isKindOrUnder_21 rfl rfl ?_
  refine zv_icN_ne (tgt := 27) dX7_isKindOrUnder_22 (by decide) (by omega) (by omega) (fun h22 => (absurd h22 (by decide))) (fun h22 => ?_)
  refine zv_iconst (v := nI (1)) dX7_isKindOrUnder_25 (by decide) ?_
  refine zv_iret dX7_isKindOrUnder_26 rfl rfl ?_
  exact ⟨rfl, rfl, rfl, rfl, rfl⟩
theorem cU_3_1 (d : Nat) {E : zv_E} {sh : zv_S} {I : zv_I} {J : zv_J} {R : zv_R} : zv_V E mX7_isKindOrUnder d 0 0 0 [.int (nI 3), .int (nI 1)] [] sh I J R (cc_p (rm_b (rm_of 5 3 1)) sh I J R) := by
  refine zv_iload_n dX7_isKindOrUnder_0 rfl rfl ?_
  refine zv_istore_n (lv' := [.int (nI (3)), .int (nI (1)), .int (nI (3))]) dX7_isKindOrUnder_1 rfl (by decide) rfl ?_
  refine zv_iconst (v := nI (0)) dX7_isKindOrUnder_2 (by decide) ?_
  refine zv_istore_n (lv' := [.int (nI (3)), .int (nI (1)), .int (nI (3)), .int (nI (0))]) dX7_isKindOrUnder_3 rfl (by decide) rfl ?_
  refine zv_iload_n dX7_isKindOrUnder_4 rfl rfl ?_
  refine zv_bipush (v := nI (6)) dX7_isKindOrUnder_5 (by decide) ?_
  refine zv_icN_ge (tgt := 39) dX7_isKindOrUnder_7 (by decide) (by omega) (by omega) (fun h7 => (absurd h7 (by decide))) (fun h7 => ?_)
  refine zv_iload_n dX7_isKindOrUnder_10 rfl rfl ?_
  refine zv_if_lt (tgt := 39) dX7_isKindOrUnder_11 (by decide) (fun h11 => (absurd h11 (by decide))) (fun h11 => ?_)
  refine zv_iload_n dX7_isKindOrUnder_14 rfl rfl ?_
  refine zv_bipush (v := nI (6)) dX7_isKindOrUnder_15 (by decide) ?_
  refine zv_icN_ge (tgt := 39) dX7_isKindOrUnder_17 (by decide) (by omega) (by omega) (fun h17 => (absurd h17 (by decide))) (fun h17 => ?_)
  refine zv_iload_n dX7_isKindOrUnder_20 rfl rfl ?_
  refine zv_iload_n dX7_isKindOrUnder_21 rfl rfl ?_
  refine zv_icN_ne (tgt := 27) dX7_isKindOrUnder_22 (by decide) (by omega) (by omega) (fun h22 => ?_) (fun h22 => (absurd h22 (by decide)))
  refine zv_gets (b := 2) dX7_isKindOrUnder_27 (Or.inr ⟨rfl, st_320⟩) ?_
  refine zv_iload_n dX7_isKindOrUnder_30 rfl rfl ?_
  refine zv_kald (j := 3) (x := nI (0)) dX7_isKindOrUnder_31 (rfl) (by omega) (rfl) ?_
  refine zv_istore_n (lv' := [.int (nI (3)), .int (nI (1)), .int (nI (0)), .int (nI (0))]) dX7_isKindOrUnder_32 rfl (by decide) rfl ?_
  refine zv_iinc (v := nI (1)) (lv' := [.int (nI (3)), .int (nI (1)), .int (nI (0)), .int (nI (1))]) dX7_isKindOrUnder_33 rfl (by decide) (by decide) rfl ?_
  refine zv_goto (tgt := 4) dX7_isKindOrUnder_36 (by decide) ?_
  refine zv_iload_n dX7_isKindOrUnder_4 rfl rfl ?_
  refine zv_bipush (v := nI (6)) dX7_isKindOrUnder_5 (by decide) ?_
  refine zv_icN_ge (tgt := 39) dX7_isKindOrUnder_7 (by decide) (by omega) (by omega) (fun h7 => (absurd h7 (by decide))) (fun h7 => ?_)
  refine zv_iload_n dX7_isKindOrUnder_10 rfl rfl ?_
  refine zv_if_lt (tgt := 39) dX7_isKindOrUnder_11 (by decide) (fun h11 => (absurd h11 (by decide))) (fun h11 => ?_)
  refine zv_iload_n dX7_isKindOrUnder_14 rfl rfl ?_
  refine zv_bipush (v := nI (6)) dX7_isKindOrUnder_15 (by decide) ?_
  refine zv_icN_ge (tgt := 39) dX7_isKindOrUnder_17 (by decide) (by omega) (by omega) (fun h17 => (absurd h17 (by decide))) (fun h17 => ?_)
  refine zv_iload_n dX7_isKindOrUnder_20 rfl rfl ?_
  refine zv_iload_n dX7_isKindOrUnder_21 rfl rfl ?_
  refine zv_icN_ne (tgt := 27) dX7_isKindOrUnder_22 (by decide) (by omega) (by omega) (fun h22 => ?_) (fun h22 => (absurd h22 (by decide)))
  refine zv_gets (b := 2) dX7_isKindOrUnder_27 (Or.inr ⟨rfl, st_320⟩) ?_
  refine zv_iload_n dX7_isKindOrUnder_30 rfl rfl ?_
  refine zv_kald (j := 0) (x := (-1 : Int32)) dX7_isKindOrUnder_31 (rfl) (by omega) (rfl) ?_
  refine zv_istore_n (lv' := [.int (nI (3)), .int (nI (1)), .int ((-1 : Int32)), .int (nI (1))]) dX7_isKindOrUnder_32 rfl (by decide) rfl ?_
  refine zv_iinc (v := nI (2)) (lv' := [.int (nI (3)), .int (nI (1)), .int ((-1 : Int32)), .int (nI (2))]) dX7_isKindOrUnder_33 rfl (by decide) (by decide) rfl ?_
  refine zv_goto (tgt := 4) dX7_isKindOrUnder_36 (by decide) ?_
  refine zv_iload_n dX7_isKindOrUnder_4 rfl rfl ?_
  refine zv_bipush (v := nI (6)) dX7_isKindOrUnder_5 (by decide) ?_
  refine zv_icN_ge (tgt := 39) dX7_isKindOrUnder_7 (by decide) (by omega) (by omega) (fun h7 => (absurd h7 (by decide))) (fun h7 => ?_)
  refine zv_iload_n dX7_isKindOrUnder_10 rfl rfl ?_
  refine zv_if_lt (tgt := 39) dX7_isKindOrUnder_11 (by decide) (fun h11 => ?_) (fun h11 => (absurd (by decide) h11))
  refine zv_iconst (v := nI (0)) dX7_isKindOrUnder_39 (by decide) ?_
  refine zv_iret dX7_isKindOrUnder_40 rfl rfl ?_
  exact ⟨rfl, rfl, rfl, rfl, rfl⟩
theorem cU_3_2 (d : Nat) {E : zv_E} {sh : zv_S} {I : zv_I} {J : zv_J} {R : zv_R} : zv_V E mX7_isKindOrUnder d 0 0 0 [.int (nI 3), .int (nI 2)] [] sh I J R (cc_p (rm_b (rm_of 5 3 2)) sh I J R) := by
  refine zv_iload_n dX7_isKindOrUnder_0 rfl rfl ?_
  refine zv_istore_n (lv' := [.int (nI (3)), .int (nI (2)), .int (nI (3))]) dX7_isKindOrUnder_1 rfl (by decide) rfl ?_
  refine zv_iconst (v := nI (0)) dX7_isKindOrUnder_2 (by decide) ?_
  refine zv_istore_n (lv' := [.int (nI (3)), .int (nI (2)), .int (nI (3)), .int (nI (0))]) dX7_isKindOrUnder_3 rfl (by decide) rfl ?_
  refine zv_iload_n dX7_isKindOrUnder_4 rfl rfl ?_
  refine zv_bipush (v := nI (6)) dX7_isKindOrUnder_5 (by decide) ?_
  refine zv_icN_ge (tgt := 39) dX7_isKindOrUnder_7 (by decide) (by omega) (by omega) (fun h7 => (absurd h7 (by decide))) (fun h7 => ?_)
  refine zv_iload_n dX7_isKindOrUnder_10 rfl rfl ?_
  refine zv_if_lt (tgt := 39) dX7_isKindOrUnder_11 (by decide) (fun h11 => (absurd h11 (by decide))) (fun h11 => ?_)
  refine zv_iload_n dX7_isKindOrUnder_14 rfl rfl ?_
  refine zv_bipush (v := nI (6)) dX7_isKindOrUnder_15 (by decide) ?_
  refine zv_icN_ge (tgt := 39) dX7_isKindOrUnder_17 (by decide) (by omega) (by omega) (fun h17 => (absurd h17 (by decide))) (fun h17 => ?_)
  refine zv_iload_n dX7_isKindOrUnder_20 rfl rfl ?_
  refine zv_iload_n dX7_isKindOrUnder_21 rfl rfl ?_
  refine zv_icN_ne (tgt := 27) dX7_isKindOrUnder_22 (by decide) (by omega) (by omega) (fun h22 => ?_) (fun h22 => (absurd h22 (by decide)))
  refine zv_gets (b := 2) dX7_isKindOrUnder_27 (Or.inr ⟨rfl, st_320⟩) ?_
  refine zv_iload_n dX7_isKindOrUnder_30 rfl rfl ?_
  refine zv_kald (j := 3) (x := nI (0)) dX7_isKindOrUnder_31 (rfl) (by omega) (rfl) ?_
  refine zv_istore_n (lv' := [.int (nI (3)), .int (nI (2)), .int (nI (0)), .int (nI (0))]) dX7_isKindOrUnder_32 rfl (by decide) rfl ?_
  refine zv_iinc (v := nI (1)) (lv' := [.int (nI (3)), .int (nI (2)), .int (nI (0)), .int (nI (1))]) dX7_isKindOrUnder_33 rfl (by decide) (by decide) rfl ?_
  refine zv_goto (tgt := 4) dX7_isKindOrUnder_36 (by decide) ?_
  refine zv_iload_n dX7_isKindOrUnder_4 rfl rfl ?_
  refine zv_bipush (v := nI (6)) dX7_isKindOrUnder_5 (by decide) ?_
  refine zv_icN_ge (tgt := 39) dX7_isKindOrUnder_7 (by decide) (by omega) (by omega) (fun h7 => (absurd h7 (by decide))) (fun h7 => ?_)
  refine zv_iload_n dX7_isKindOrUnder_10 rfl rfl ?_
  refine zv_if_lt (tgt := 39) dX7_isKindOrUnder_11 (by decide) (fun h11 => (absurd h11 (by decide))) (fun h11 => ?_)
  refine zv_iload_n dX7_isKindOrUnder_14 rfl rfl ?_
  refine zv_bipush (v := nI (6)) dX7_isKindOrUnder_15 (by decide) ?_
  refine zv_icN_ge (tgt := 39) dX7_isKindOrUnder_17 (by decide) (by omega) (by omega) (fun h17 => (absurd h17 (by decide))) (fun h17 => ?_)
  refine zv_iload_n dX7_isKindOrUnder_20 rfl rfl ?_
  refine zv_iload_n dX7_isKindOrUnder_21 rfl rfl ?_
  refine zv_icN_ne (tgt := 27) dX7_isKindOrUnder_22 (by decide) (by omega) (by omega) (fun h22 => ?_) (fun h22 => (absurd h22 (by decide)))
  refine zv_gets (b := 2) dX7_isKindOrUnder_27 (Or.inr ⟨rfl, st_320⟩) ?_
  refine zv_iload_n dX7_isKindOrUnder_30 rfl rfl ?_
  refine zv_kald (j := 0) (x := (-1 : Int32)) dX7_isKindOrUnder_31 (rfl) (by omega) (rfl) ?_
  refine zv_istore_n (lv' := [.int (nI (3)), .int (nI (2)), .int ((-1 : Int32)), .int (nI (1))]) dX7_isKindOrUnder_32 rfl (by decide) rfl ?_
  refine zv_iinc (v := nI (2)) (lv' := [.int (nI (3)), .int (nI (2)), .int ((-1 : Int32)), .int (nI (2))]) dX7_isKindOrUnder_33 rfl (by decide) (by decide) rfl ?_
  refine zv_goto (tgt := 4) dX7_isKindOrUnder_36 (by decide) ?_
  refine zv_iload_n dX7_isKindOrUnder_4 rfl rfl ?_
  refine zv_bipush (v := nI (6)) dX7_isKindOrUnder_5 (by decide) ?_
  refine zv_icN_ge (tgt := 39) dX7_isKindOrUnder_7 (by decide) (by omega) (by omega) (fun h7 => (absurd h7 (by decide))) (fun h7 => ?_)
  refine zv_iload_n dX7_isKindOrUnder_10 rfl rfl ?_
  refine zv_if_lt (tgt := 39) dX7_isKindOrUnder_11 (by decide) (fun h11 => ?_) (fun h11 => (absurd (by decide) h11))
  refine zv_iconst (v := nI (0)) dX7_isKindOrUnder_39 (by decide) ?_
  refine zv_iret dX7_isKindOrUnder_40 rfl rfl ?_
  exact ⟨rfl, rfl, rfl, rfl, rfl⟩
theorem cU_3_3 (d : Nat) {E : zv_E} {sh : zv_S} {I : zv_I} {J : zv_J} {R : zv_R} : zv_V E mX7_isKindOrUnder d 0 0 0 [.int (nI 3), .int (nI 3)] [] sh I J R (cc_p (rm_b (rm_of 5 3 3)) sh I J R) := by
  refine zv_iload_n dX7_isKindOrUnder_0 rfl rfl ?_
  refine zv_istore_n (lv' := [.int (nI (3)), .int (nI (3)), .int (nI (3))]) dX7_isKindOrUnder_1 rfl (by decide) rfl ?_
  refine zv_iconst (v := nI (0)) dX7_isKindOrUnder_2 (by decide) ?_
  refine zv_istore_n (lv' := [.int (nI (3)), .int (nI (3)), .int (nI (3)), .int (nI (0))]) dX7_isKindOrUnder_3 rfl (by decide) rfl ?_
  refine zv_iload_n dX7_isKindOrUnder_4 rfl rfl ?_
  refine zv_bipush (v := nI (6)) dX7_isKindOrUnder_5 (by decide) ?_
  refine zv_icN_ge (tgt := 39) dX7_isKindOrUnder_7 (by decide) (by omega) (by omega) (fun h7 => (absurd h7 (by decide))) (fun h7 => ?_)
  refine zv_iload_n dX7_isKindOrUnder_10 rfl rfl ?_
  refine zv_if_lt (tgt := 39) dX7_isKindOrUnder_11 (by decide) (fun h11 => (absurd h11 (by decide))) (fun h11 => ?_)
  refine zv_iload_n dX7_isKindOrUnder_14 rfl rfl ?_
  refine zv_bipush (v := nI (6)) dX7_isKindOrUnder_15 (by decide) ?_
  refine zv_icN_ge (tgt := 39) dX7_isKindOrUnder_17 (by decide) (by omega) (by omega) (fun h17 => (absurd h17 (by decide))) (fun h17 => ?_)
  refine zv_iload_n dX7_isKindOrUnder_20 rfl rfl ?_
  refine zv_iload_n dX7_isKindOrUnder_21 rfl rfl ?_
  refine zv_icN_ne (tgt := 27) dX7_isKindOrUnder_22 (by decide) (by omega) (by omega) (fun h22 => (absurd h22 (by decide))) (fun h22 => ?_)
  refine zv_iconst (v := nI (1)) dX7_isKindOrUnder_25 (by decide) ?_
  refine zv_iret dX7_isKindOrUnder_26 rfl rfl ?_
  exact ⟨rfl, rfl, rfl, rfl, rfl⟩
theorem cU_3_4 (d : Nat) {E : zv_E} {sh : zv_S} {I : zv_I} {J : zv_J} {R : zv_R} : zv_V E mX7_isKindOrUnder d 0 0 0 [.int (nI 3), .int (nI 4)] [] sh I J R (cc_p (rm_b (rm_of 5 3 4)) sh I J R) := by
  refine zv_iload_n dX7_isKindOrUnder_0 rfl rfl ?_
  refine zv_istore_n (lv' := [.int (nI (3)), .int (nI (4)), .int (nI (3))]) dX7_isKindOrUnder_1 rfl (by decide) rfl ?_
  refine zv_iconst (v := nI (0)) dX7_isKindOrUnder_2 (by decide) ?_
  refine zv_istore_n (lv' := [.int (nI (3)), .int (nI (4)), .int (nI (3)), .int (nI (0))]) dX7_isKindOrUnder_3 rfl (by decide) rfl ?_
  refine zv_iload_n dX7_isKindOrUnder_4 rfl rfl ?_
  refine zv_bipush (v := nI (6)) dX7_isKindOrUnder_5 (by decide) ?_
  refine zv_icN_ge (tgt := 39) dX7_isKindOrUnder_7 (by decide) (by omega) (by omega) (fun h7 => (absurd h7 (by decide))) (fun h7 => ?_)
  refine zv_iload_n dX7_isKindOrUnder_10 rfl rfl ?_
  refine zv_if_lt (tgt := 39) dX7_isKindOrUnder_11 (by decide) (fun h11 => (absurd h11 (by decide))) (fun h11 => ?_)
  refine zv_iload_n dX7_isKindOrUnder_14 rfl rfl ?_
  refine zv_bipush (v := nI (6)) dX7_isKindOrUnder_15 (by decide) ?_
  refine zv_icN_ge (tgt := 39) dX7_isKindOrUnder_17 (by decide) (by omega) (by omega) (fun h17 => (absurd h17 (by decide))) (fun h17 => ?_)
  refine zv_iload_n dX7_isKindOrUnder_20 rfl rfl ?_
  refine zv_iload_n dX7_isKindOrUnder_21 rfl rfl ?_
  refine zv_icN_ne (tgt := 27) dX7_isKindOrUnder_22 (by decide) (by omega) (by omega) (fun h22 => ?_) (fun h22 => (absurd h22 (by decide)))
  refine zv_gets (b := 2) dX7_isKindOrUnder_27 (Or.inr ⟨rfl, st_320⟩) ?_
  refine zv_iload_n dX7_isKindOrUnder_30 rfl rfl ?_
  refine zv_kald (j := 3) (x := nI (0)) dX7_isKindOrUnder_31 (rfl) (by omega) (rfl) ?_
  refine zv_istore_n (lv' := [.int (nI (3)), .int (nI (4)), .int (nI (0)), .int (nI (0))]) dX7_isKindOrUnder_32 rfl (by decide) rfl ?_
  refine zv_iinc (v := nI (1)) (lv' := [.int (nI (3)), .int (nI (4)), .int (nI (0)), .int (nI (1))]) dX7_isKindOrUnder_33 rfl (by decide) (by decide) rfl ?_
  refine zv_goto (tgt := 4) dX7_isKindOrUnder_36 (by decide) ?_
  refine zv_iload_n dX7_isKindOrUnder_4 rfl rfl ?_
  refine zv_bipush (v := nI (6)) dX7_isKindOrUnder_5 (by decide) ?_
  refine zv_icN_ge (tgt := 39) dX7_isKindOrUnder_7 (by decide) (by omega) (by omega) (fun h7 => (absurd h7 (by decide))) (fun h7 => ?_)
  refine zv_iload_n dX7_isKindOrUnder_10 rfl rfl ?_
  refine zv_if_lt (tgt := 39) dX7_isKindOrUnder_11 (by decide) (fun h11 => (absurd h11 (by decide))) (fun h11 => ?_)
  refine zv_iload_n dX7_isKindOrUnder_14 rfl rfl ?_
  refine zv_bipush (v := nI (6)) dX7_isKindOrUnder_15 (by decide) ?_
  refine zv_icN_ge (tgt := 39) dX7_isKindOrUnder_17 (by decide) (by omega) (by omega) (fun h17 => (absurd h17 (by decide))) (fun h17 => ?_)
  refine zv_iload_n dX7_isKindOrUnder_20 rfl rfl ?_
  refine zv_iload_n dX7_isKindOrUnder_21 rfl rfl ?_
  refine zv_icN_ne (tgt := 27) dX7_isKindOrUnder_22 (by decide) (by omega) (by omega) (fun h22 => ?_) (fun h22 => (absurd h22 (by decide)))
  refine zv_gets (b := 2) dX7_isKindOrUnder_27 (Or.inr ⟨rfl, st_320⟩) ?_
  refine zv_iload_n dX7_isKindOrUnder_30 rfl rfl ?_
  refine zv_kald (j := 0) (x := (-1 : Int32)) dX7_isKindOrUnder_31 (rfl) (by omega) (rfl) ?_
  refine zv_istore_n (lv' := [.int (nI (3)), .int (nI (4)), .int ((-1 : Int32)), .int (nI (1))]) dX7_isKindOrUnder_32 rfl (by decide) rfl ?_
  refine zv_iinc (v := nI (2)) (lv' := [.int (nI (3)), .int (nI (4)), .int ((-1 : Int32)), .int (nI (2))]) dX7_isKindOrUnder_33 rfl (by decide) (by decide) rfl ?_
  refine zv_goto (tgt := 4) dX7_isKindOrUnder_36 (by decide) ?_
  refine zv_iload_n dX7_isKindOrUnder_4 rfl rfl ?_
  refine zv_bipush (v := nI (6)) dX7_isKindOrUnder_5 (by decide) ?_
  refine zv_icN_ge (tgt := 39) dX7_isKindOrUnder_7 (by decide) (by omega) (by omega) (fun h7 => (absurd h7 (by decide))) (fun h7 => ?_)
  refine zv_iload_n dX7_isKindOrUnder_10 rfl rfl ?_
  refine zv_if_lt (tgt := 39) dX7_isKindOrUnder_11 (by decide) (fun h11 => ?_) (fun h11 => (absurd (by decide) h11))
  refine zv_iconst (v := nI (0)) dX7_isKindOrUnder_39 (by decide) ?_
  refine zv_iret dX7_isKindOrUnder_40 rfl rfl ?_
  exact ⟨rfl, rfl, rfl, rfl, rfl⟩
theorem cU_3_5 (d : Nat) {E : zv_E} {sh : zv_S} {I : zv_I} {J : zv_J} {R : zv_R} : zv_V E mX7_isKindOrUnder d 0 0 0 [.int (nI 3), .int (nI 5)] [] sh I J R (cc_p (rm_b (rm_of 5 3 5)) sh I J R) := by
  refine zv_iload_n dX7_isKindOrUnder_0 rfl rfl ?_
  refine zv_istore_n (lv' := [.int (nI (3)), .int (nI (5)), .int (nI (3))]) dX7_isKindOrUnder_1 rfl (by decide) rfl ?_
  refine zv_iconst (v := nI (0)) dX7_isKindOrUnder_2 (by decide) ?_
  refine zv_istore_n (lv' := [.int (nI (3)), .int (nI (5)), .int (nI (3)), .int (nI (0))]) dX7_isKindOrUnder_3 rfl (by decide) rfl ?_
  refine zv_iload_n dX7_isKindOrUnder_4 rfl rfl ?_
  refine zv_bipush (v := nI (6)) dX7_isKindOrUnder_5 (by decide) ?_
  refine zv_icN_ge (tgt := 39) dX7_isKindOrUnder_7 (by decide) (by omega) (by omega) (fun h7 => (absurd h7 (by decide))) (fun h7 => ?_)
  refine zv_iload_n dX7_isKindOrUnder_10 rfl rfl ?_
  refine zv_if_lt (tgt := 39) dX7_isKindOrUnder_11 (by decide) (fun h11 => (absurd h11 (by decide))) (fun h11 => ?_)
  refine zv_iload_n dX7_isKindOrUnder_14 rfl rfl ?_
  refine zv_bipush (v := nI (6)) dX7_isKindOrUnder_15 (by decide) ?_
  refine zv_icN_ge (tgt := 39) dX7_isKindOrUnder_17 (by decide) (by omega) (by omega) (fun h17 => (absurd h17 (by decide))) (fun h17 => ?_)
  refine zv_iload_n dX7_isKindOrUnder_20 rfl rfl ?_
  refine zv_iload_n dX7_isKindOrUnder_21 rfl rfl ?_
  refine zv_icN_ne (tgt := 27) dX7_isKindOrUnder_22 (by decide) (by omega) (by omega) (fun h22 => ?_) (fun h22 => (absurd h22 (by decide)))
  refine zv_gets (b := 2) dX7_isKindOrUnder_27 (Or.inr ⟨rfl, st_320⟩) ?_
  refine zv_iload_n dX7_isKindOrUnder_30 rfl rfl ?_
  refine zv_kald (j := 3) (x := nI (0)) dX7_isKindOrUnder_31 (rfl) (by omega) (rfl) ?_
  refine zv_istore_n (lv' := [.int (nI (3)), .int (nI (5)), .int (nI (0)), .int (nI (0))]) dX7_isKindOrUnder_32 rfl (by decide) rfl ?_
  refine zv_iinc (v := nI (1)) (lv' := [.int (nI (3)), .int (nI (5)), .int (nI (0)), .int (nI (1))]) dX7_isKindOrUnder_33 rfl (by decide) (by decide) rfl ?_
  refine zv_goto (tgt := 4) dX7_isKindOrUnder_36 (by decide) ?_
  refine zv_iload_n dX7_isKindOrUnder_4 rfl rfl ?_
  refine zv_bipush (v := nI (6)) dX7_isKindOrUnder_5 (by decide) ?_
  refine zv_icN_ge (tgt := 39) dX7_isKindOrUnder_7 (by decide) (by omega) (by omega) (fun h7 => (absurd h7 (by decide))) (fun h7 => ?_)
  refine zv_iload_n dX7_isKindOrUnder_10 rfl rfl ?_
  refine zv_if_lt (tgt := 39) dX7_isKindOrUnder_11 (by decide) (fun h11 => (absurd h11 (by decide))) (fun h11 => ?_)
  refine zv_iload_n dX7_isKindOrUnder_14 rfl rfl ?_
  refine zv_bipush (v := nI (6)) dX7_isKindOrUnder_15 (by decide) ?_
  refine zv_icN_ge (tgt := 39) dX7_isKindOrUnder_17 (by decide) (by omega) (by omega) (fun h17 => (absurd h17 (by decide))) (fun h17 => ?_)
  refine zv_iload_n dX7_isKindOrUnder_20 rfl rfl ?_
  refine zv_iload_n dX7_isKindOrUnder_21 rfl rfl ?_
  refine zv_icN_ne (tgt := 27) dX7_isKindOrUnder_22 (by decide) (by omega) (by omega) (fun h22 => ?_) (fun h22 => (absurd h22 (by decide)))
  refine zv_gets (b := 2) dX7_isKindOrUnder_27 (Or.inr ⟨rfl, st_320⟩) ?_
  refine zv_iload_n dX7_isKindOrUnder_30 rfl rfl ?_
  refine zv_kald (j := 0) (x := (-1 : Int32)) dX7_isKindOrUnder_31 (rfl) (by omega) (rfl) ?_
  refine zv_istore_n (lv' := [.int (nI (3)), .int (nI (5)), .int ((-1 : Int32)), .int (nI (1))]) dX7_isKindOrUnder_32 rfl (by decide) rfl ?_
  refine zv_iinc (v := nI (2)) (lv' := [.int (nI (3)), .int (nI (5)), .int ((-1 : Int32)), .int (nI (2))]) dX7_isKindOrUnder_33 rfl (by decide) (by decide) rfl ?_
  refine zv_goto (tgt := 4) dX7_isKindOrUnder_36 (by decide) ?_
  refine zv_iload_n dX7_isKindOrUnder_4 rfl rfl ?_
  refine zv_bipush (v := nI (6)) dX7_isKindOrUnder_5 (by decide) ?_
  refine zv_icN_ge (tgt := 39) dX7_isKindOrUnder_7 (by decide) (by omega) (by omega) (fun h7 => (absurd h7 (by decide))) (fun h7 => ?_)
  refine zv_iload_n dX7_isKindOrUnder_10 rfl rfl ?_
  refine zv_if_lt (tgt := 39) dX7_isKindOrUnder_11 (by decide) (fun h11 => ?_) (fun h11 => (absurd (by decide) h11))
  refine zv_iconst (v := nI (0)) dX7_isKindOrUnder_39 (by decide) ?_
  refine zv_iret dX7_isKindOrUnder_40 rfl rfl ?_
  exact ⟨rfl, rfl, rfl, rfl, rfl⟩
theorem cU_4_0 (d : Nat) {E : zv_E} {sh : zv_S} {I : zv_I} {J : zv_J} {R : zv_R} : zv_V E mX7_isKindOrUnder d 0 0 0 [.int (nI 4), .int (nI 0)] [] sh I J R (cc_p (rm_b (rm_of 5 4 0)) sh I J R) := by
  refine zv_iload_n dX7_isKindOrUnder_0 rfl rfl ?_
  refine zv_istore_n (lv' := [.int (nI (4)), .int (nI (0)), .int (nI (4))]) dX7_isKindOrUnder_1 rfl (by decide) rfl ?_
  refine zv_iconst (v := nI (0)) dX7_isKindOrUnder_2 (by decide) ?_
  refine zv_istore_n (lv' := [.int (nI (4)), .int (nI (0)), .int (nI (4)), .int (nI (0))]) dX7_isKindOrUnder_3 rfl (by decide) rfl ?_
  refine zv_iload_n dX7_isKindOrUnder_4 rfl rfl ?_
  refine zv_bipush (v := nI (6)) dX7_isKindOrUnder_5 (by decide) ?_
  refine zv_icN_ge (tgt := 39) dX7_isKindOrUnder_7 (by decide) (by omega) (by omega) (fun h7 => (absurd h7 (by decide))) (fun h7 => ?_)
  refine zv_iload_n dX7_isKindOrUnder_10 rfl rfl ?_
  refine zv_if_lt (tgt := 39) dX7_isKindOrUnder_11 (by decide) (fun h11 => (absurd h11 (by decide))) (fun h11 => ?_)
  refine zv_iload_n dX7_isKindOrUnder_14 rfl rfl ?_
  refine zv_bipush (v := nI (6)) dX7_isKindOrUnder_15 (by decide) ?_
  refine zv_icN_ge (tgt := 39) dX7_isKindOrUnder_17 (by decide) (by omega) (by omega) (fun h17 => (absurd h17 (by decide))) (fun h17 => ?_)
  refine zv_iload_n dX7_isKindOrUnder_20 rfl rfl ?_
  refine zv_iload_n dX7_isKindOrUnder_21 rfl rfl ?_
  refine zv_icN_ne (tgt := 27) dX7_isKindOrUnder_22 (by decide) (by omega) (by omega) (fun h22 => ?_) (fun h22 => (absurd h22 (by decide)))
  refine zv_gets (b := 2) dX7_isKindOrUnder_27 (Or.inr ⟨rfl, st_320⟩) ?_
  refine zv_iload_n dX7_isKindOrUnder_30 rfl rfl ?_
  refine zv_kald (j := 4) (x := nI (3)) dX7_isKindOrUnder_31 (rfl) (by omega) (rfl) ?_
  refine zv_istore_n (lv' := [.int (nI (4)), .int (nI (0)), .int (nI (3)), .int (nI (0))]) dX7_isKindOrUnder_32 rfl (by decide) rfl ?_
  refine zv_iinc (v := nI (1)) (lv' := [.int (nI (4)), .int (nI (0)), .int (nI (3)), .int (nI (1))]) dX7_isKindOrUnder_33 rfl (by decide) (by decide) rfl ?_
  refine zv_goto (tgt := 4) dX7_isKindOrUnder_36 (by decide) ?_
  refine zv_iload_n dX7_isKindOrUnder_4 rfl rfl ?_
  refine zv_bipush (v := nI (6)) dX7_isKindOrUnder_5 (by decide) ?_
  refine zv_icN_ge (tgt := 39) dX7_isKindOrUnder_7 (by decide) (by omega) (by omega) (fun h7 => (absurd h7 (by decide))) (fun h7 => ?_)
  refine zv_iload_n dX7_isKindOrUnder_10 rfl rfl ?_
  refine zv_if_lt (tgt := 39) dX7_isKindOrUnder_11 (by decide) (fun h11 => (absurd h11 (by decide))) (fun h11 => ?_)
  refine zv_iload_n dX7_isKindOrUnder_14 rfl rfl ?_
  refine zv_bipush (v := nI (6)) dX7_isKindOrUnder_15 (by decide) ?_
  refine zv_icN_ge (tgt := 39) dX7_isKindOrUnder_17 (by decide) (by omega) (by omega) (fun h17 => (absurd h17 (by decide))) (fun h17 => ?_)
  refine zv_iload_n dX7_isKindOrUnder_20 rfl rfl ?_
  refine zv_iload_n dX7_isKindOrUnder_21 rfl rfl ?_
  refine zv_icN_ne (tgt := 27) dX7_isKindOrUnder_22 (by decide) (by omega) (by omega) (fun h22 => ?_) (fun h22 => (absurd h22 (by decide)))
  refine zv_gets (b := 2) dX7_isKindOrUnder_27 (Or.inr ⟨rfl, st_320⟩) ?_
  refine zv_iload_n dX7_isKindOrUnder_30 rfl rfl ?_
  refine zv_kald (j := 3) (x := nI (0)) dX7_isKindOrUnder_31 (rfl) (by omega) (rfl) ?_
  refine zv_istore_n (lv' := [.int (nI (4)), .int (nI (0)), .int (nI (0)), .int (nI (1))]) dX7_isKindOrUnder_32 rfl (by decide) rfl ?_
  refine zv_iinc (v := nI (2)) (lv' := [.int (nI (4)), .int (nI (0)), .int (nI (0)), .int (nI (2))]) dX7_isKindOrUnder_33 rfl (by decide) (by decide) rfl ?_
  refine zv_goto (tgt := 4) dX7_isKindOrUnder_36 (by decide) ?_
  refine zv_iload_n dX7_isKindOrUnder_4 rfl rfl ?_
  refine zv_bipush (v := nI (6)) dX7_isKindOrUnder_5 (by decide) ?_
  refine zv_icN_ge (tgt := 39) dX7_isKindOrUnder_7 (by decide) (by omega) (by omega) (fun h7 => (absurd h7 (by decide))) (fun h7 => ?_)
  refine zv_iload_n dX7_isKindOrUnder_10 rfl rfl ?_
  refine zv_if_lt (tgt := 39) dX7_isKindOrUnder_11 (by decide) (fun h11 => (absurd h11 (by decide))) (fun h11 => ?_)
  refine zv_iload_n dX7_isKindOrUnder_14 rfl rfl ?_
  refine zv_bipush (v := nI (6)) dX7_isKindOrUnder_15 (by decide) ?_
  refine zv_icN_ge (tgt := 39) dX7_isKindOrUnder_17 (by decide) (by omega) (by omega) (fun h17 => (absurd h17 (by decide))) (fun h17 => ?_)
  refine zv_iload_n dX7_isKindOrUnder_20 rfl rfl ?_
  refine zv_iload_n dX7_isKindOrUnder_21 rfl rfl ?_
  refine zv_icN_ne (tgt := 27) dX7_isKindOrUnder_22 (by decide) (by omega) (by omega) (fun h22 => (absurd h22 (by decide))) (fun h22 => ?_)
  refine zv_iconst (v := nI (1)) dX7_isKindOrUnder_25 (by decide) ?_
  refine zv_iret dX7_isKindOrUnder_26 rfl rfl ?_
  exact ⟨rfl, rfl, rfl, rfl, rfl⟩
theorem cU_4_1 (d : Nat) {E : zv_E} {sh : zv_S} {I : zv_I} {J : zv_J} {R : zv_R} : zv_V E mX7_isKindOrUnder d 0 0 0 [.int (nI 4), .int (nI 1)] [] sh I J R (cc_p (rm_b (rm_of 5 4 1)) sh I J R) := by
  refine zv_iload_n dX7_isKindOrUnder_0 rfl rfl ?_
  refine zv_istore_n (lv' := [.int (nI (4)), .int (nI (1)), .int (nI (4))]) dX7_isKindOrUnder_1 rfl (by decide) rfl ?_
  refine zv_iconst (v := nI (0)) dX7_isKindOrUnder_2 (by decide) ?_
  refine zv_istore_n (lv' := [.int (nI (4)), .int (nI (1)), .int (nI (4)), .int (nI (0))]) dX7_isKindOrUnder_3 rfl (by decide) rfl ?_
  refine zv_iload_n dX7_isKindOrUnder_4 rfl rfl ?_
  refine zv_bipush (v := nI (6)) dX7_isKindOrUnder_5 (by decide) ?_
  refine zv_icN_ge (tgt := 39) dX7_isKindOrUnder_7 (by decide) (by omega) (by omega) (fun h7 => (absurd h7 (by decide))) (fun h7 => ?_)
  refine zv_iload_n dX7_isKindOrUnder_10 rfl rfl ?_
  refine zv_if_lt (tgt := 39) dX7_isKindOrUnder_11 (by decide) (fun h11 => (absurd h11 (by decide))) (fun h11 => ?_)
  refine zv_iload_n dX7_isKindOrUnder_14 rfl rfl ?_
  refine zv_bipush (v := nI (6)) dX7_isKindOrUnder_15 (by decide) ?_
  refine zv_icN_ge (tgt := 39) dX7_isKindOrUnder_17 (by decide) (by omega) (by omega) (fun h17 => (absurd h17 (by decide))) (fun h17 => ?_)
  refine zv_iload_n dX7_isKindOrUnder_20 rfl rfl ?_
  refine zv_iload_n dX7_isKindOrUnder_21 rfl rfl ?_
  refine zv_icN_ne (tgt := 27) dX7_isKindOrUnder_22 (by decide) (by omega) (by omega) (fun h22 => ?_) (fun h22 => (absurd h22 (by decide)))
  refine zv_gets (b := 2) dX7_isKindOrUnder_27 (Or.inr ⟨rfl, st_320⟩) ?_
  refine zv_iload_n dX7_isKindOrUnder_30 rfl rfl ?_
  refine zv_kald (j := 4) (x := nI (3)) dX7_isKindOrUnder_31 (rfl) (by omega) (rfl) ?_
  refine zv_istore_n (lv' := [.int (nI (4)), .int (nI (1)), .int (nI (3)), .int (nI (0))]) dX7_isKindOrUnder_32 rfl (by decide) rfl ?_
  refine zv_iinc (v := nI (1)) (lv' := [.int (nI (4)), .int (nI (1)), .int (nI (3)), .int (nI (1))]) dX7_isKindOrUnder_33 rfl (by decide) (by decide) rfl ?_
  refine zv_goto (tgt := 4) dX7_isKindOrUnder_36 (by decide) ?_
  refine zv_iload_n dX7_isKindOrUnder_4 rfl rfl ?_
  refine zv_bipush (v := nI (6)) dX7_isKindOrUnder_5 (by decide) ?_
  refine zv_icN_ge (tgt := 39) dX7_isKindOrUnder_7 (by decide) (by omega) (by omega) (fun h7 => (absurd h7 (by decide))) (fun h7 => ?_)
  refine zv_iload_n dX7_isKindOrUnder_10 rfl rfl ?_
  refine zv_if_lt (tgt := 39) dX7_isKindOrUnder_11 (by decide) (fun h11 => (absurd h11 (by decide))) (fun h11 => ?_)
  refine zv_iload_n dX7_isKindOrUnder_14 rfl rfl ?_
  refine zv_bipush (v := nI (6)) dX7_isKindOrUnder_15 (by decide) ?_
  refine zv_icN_ge (tgt := 39) dX7_isKindOrUnder_17 (by decide) (by omega) (by omega) (fun h17 => (absurd h17 (by decide))) (fun h17 => ?_)
  refine zv_iload_n dX7_isKindOrUnder_20 rfl rfl ?_
  refine zv_iload_n dX7_isKindOrUnder_21 rfl rfl ?_
  refine zv_icN_ne (tgt := 27) dX7_isKindOrUnder_22 (by decide) (by omega) (by omega) (fun h22 => ?_) (fun h22 => (absurd h22 (by decide)))
  refine zv_gets (b := 2) dX7_isKindOrUnder_27 (Or.inr ⟨rfl, st_320⟩) ?_
  refine zv_iload_n dX7_isKindOrUnder_30 rfl rfl ?_
  refine zv_kald (j := 3) (x := nI (0)) dX7_isKindOrUnder_31 (rfl) (by omega) (rfl) ?_
  refine zv_istore_n (lv' := [.int (nI (4)), .int (nI (1)), .int (nI (0)), .int (nI (1))]) dX7_isKindOrUnder_32 rfl (by decide) rfl ?_
  refine zv_iinc (v := nI (2)) (lv' := [.int (nI (4)), .int (nI (1)), .int (nI (0)), .int (nI (2))]) dX7_isKindOrUnder_33 rfl (by decide) (by decide) rfl ?_
  refine zv_goto (tgt := 4) dX7_isKindOrUnder_36 (by decide) ?_
  refine zv_iload_n dX7_isKindOrUnder_4 rfl rfl ?_
  refine zv_bipush (v := nI (6)) dX7_isKindOrUnder_5 (by decide) ?_
  refine zv_icN_ge (tgt := 39) dX7_isKindOrUnder_7 (by decide) (by omega) (by omega) (fun h7 => (absurd h7 (by decide))) (fun h7 => ?_)
  refine zv_iload_n dX7_isKindOrUnder_10 rfl rfl ?_
  refine zv_if_lt (tgt := 39) dX7_isKindOrUnder_11 (by decide) (fun h11 => (absurd h11 (by decide))) (fun h11 => ?_)
  refine zv_iload_n dX7_isKindOrUnder_14 rfl rfl ?_
  refine zv_bipush (v := nI (6)) dX7_isKindOrUnder_15 (by decide) ?_
  refine zv_icN_ge (tgt := 39) dX7_isKindOrUnder_17 (by decide) (by omega) (by omega) (fun h17 => (absurd h17 (by decide))) (fun h17 => ?_)
  refine zv_iload_n dX7_isKindOrUnder_20 rfl rfl ?_
  refine zv_iload_n dX7_isKindOrUnder_21 rfl rfl ?_
  refine zv_icN_ne (tgt := 27) dX7_isKindOrUnder_22 (by decide) (by omega) (by omega) (fun h22 => ?_) (fun h22 => (absurd h22 (by decide)))
  refine zv_gets (b := 2) dX7_isKindOrUnder_27 (Or.inr ⟨rfl, st_320⟩) ?_
  refine zv_iload_n dX7_isKindOrUnder_30 rfl rfl ?_
  refine zv_kald (j := 0) (x := (-1 : Int32)) dX7_isKindOrUnder_31 (rfl) (by omega) (rfl) ?_
  refine zv_istore_n (lv' := [.int (nI (4)), .int (nI (1)), .int ((-1 : Int32)), .int (nI (2))]) dX7_isKindOrUnder_32 rfl (by decide) rfl ?_
  refine zv_iinc (v := nI (3)) (lv' := [.int (nI (4)), .int (nI (1)), .int ((-1 : Int32)), .int (nI (3))]) dX7_isKindOrUnder_33 rfl (by decide) (by decide) rfl ?_
  refine zv_goto (tgt := 4) dX7_isKindOrUnder_36 (by decide) ?_
  refine zv_iload_n dX7_isKindOrUnder_4 rfl rfl ?_
  refine zv_bipush (v := nI (6)) dX7_isKindOrUnder_5 (by decide) ?_
  refine zv_icN_ge (tgt := 39) dX7_isKindOrUnder_7 (by decide) (by omega) (by omega) (fun h7 => (absurd h7 (by decide))) (fun h7 => ?_)
  refine zv_iload_n dX7_isKindOrUnder_10 rfl rfl ?_
  refine zv_if_lt (tgt := 39) dX7_isKindOrUnder_11 (by decide) (fun h11 => ?_) (fun h11 => (absurd (by decide) h11))
  refine zv_iconst (v := nI (0)) dX7_isKindOrUnder_39 (by decide) ?_
  refine zv_iret dX7_isKindOrUnder_40 rfl rfl ?_
  exact ⟨rfl, rfl, rfl, rfl, rfl⟩
theorem cU_4_2 (d : Nat) {E : zv_E} {sh : zv_S} {I : zv_I} {J : zv_J} {R : zv_R} : zv_V E mX7_isKindOrUnder d 0 0 0 [.int (nI 4), .int (nI 2)] [] sh I J R (cc_p (rm_b (rm_of 5 4 2)) sh I J R) := by
  refine zv_iload_n dX7_isKindOrUnder_0 rfl rfl ?_
  refine zv_istore_n (lv' := [.int (nI (4)), .int (nI (2)), .int (nI (4))]) dX7_isKindOrUnder_1 rfl (by decide) rfl ?_
  refine zv_iconst (v := nI (0)) dX7_isKindOrUnder_2 (by decide) ?_
  refine zv_istore_n (lv' := [.int (nI (4)), .int (nI (2)), .int (nI (4)), .int (nI (0))]) dX7_isKindOrUnder_3 rfl (by decide) rfl ?_
  refine zv_iload_n dX7_isKindOrUnder_4 rfl rfl ?_
  refine zv_bipush (v := nI (6)) dX7_isKindOrUnder_5 (by decide) ?_
  refine zv_icN_ge (tgt := 39) dX7_isKindOrUnder_7 (by decide) (by omega) (by omega) (fun h7 => (absurd h7 (by decide))) (fun h7 => ?_)
  refine zv_iload_n dX7_isKindOrUnder_10 rfl rfl ?_
  refine zv_if_lt (tgt := 39) dX7_isKindOrUnder_11 (by decide) (fun h11 => (absurd h11 (by decide))) (fun h11 => ?_)
  refine zv_iload_n dX7_isKindOrUnder_14 rfl rfl ?_
  refine zv_bipush (v := nI (6)) dX7_isKindOrUnder_15 (by decide) ?_
  refine zv_icN_ge (tgt := 39) dX7_isKindOrUnder_17 (by decide) (by omega) (by omega) (fun h17 => (absurd h17 (by decide))) (fun h17 => ?_)
  refine zv_iload_n dX7_isKindOrUnder_20 rfl rfl ?_
  refine zv_iload_n dX7_isKindOrUnder_21 rfl rfl ?_
  refine zv_icN_ne (tgt := 27) dX7_isKindOrUnder_22 (by decide) (by omega) (by omega) (fun h22 => ?_) (fun h22 => (absurd h22 (by decide)))
  refine zv_gets (b := 2) dX7_isKindOrUnder_27 (Or.inr ⟨rfl, st_320⟩) ?_
  refine zv_iload_n dX7_isKindOrUnder_30 rfl rfl ?_
  refine zv_kald (j := 4) (x := nI (3)) dX7_isKindOrUnder_31 (rfl) (by omega) (rfl) ?_
  refine zv_istore_n (lv' := [.int (nI (4)), .int (nI (2)), .int (nI (3)), .int (nI (0))]) dX7_isKindOrUnder_32 rfl (by decide) rfl ?_
  refine zv_iinc (v := nI (1)) (lv' := [.int (nI (4)), .int (nI (2)), .int (nI (3)), .int (nI (1))]) dX7_isKindOrUnder_33 rfl (by decide) (by decide) rfl ?_
  refine zv_goto (tgt := 4) dX7_isKindOrUnder_36 (by decide) ?_
  refine zv_iload_n dX7_isKindOrUnder_4 rfl rfl ?_
  refine zv_bipush (v := nI (6)) dX7_isKindOrUnder_5 (by decide) ?_
  refine zv_icN_ge (tgt := 39) dX7_isKindOrUnder_7 (by decide) (by omega) (by omega) (fun h7 => (absurd h7 (by decide))) (fun h7 => ?_)
  refine zv_iload_n dX7_isKindOrUnder_10 rfl rfl ?_
  refine zv_if_lt (tgt := 39) dX7_isKindOrUnder_11 (by decide) (fun h11 => (absurd h11 (by decide))) (fun h11 => ?_)
  refine zv_iload_n dX7_isKindOrUnder_14 rfl rfl ?_
  refine zv_bipush (v := nI (6)) dX7_isKindOrUnder_15 (by decide) ?_
  refine zv_icN_ge (tgt := 39) dX7_isKindOrUnder_17 (by decide) (by omega) (by omega) (fun h17 => (absurd h17 (by decide))) (fun h17 => ?_)
  refine zv_iload_n dX7_isKindOrUnder_20 rfl rfl ?_
  refine zv_iload_n dX7_isKindOrUnder_21 rfl rfl ?_
  refine zv_icN_ne (tgt := 27) dX7_isKindOrUnder_22 (by decide) (by omega) (by omega) (fun h22 => ?_) (fun h22 => (absurd h22 (by decide)))
  refine zv_gets (b := 2) dX7_isKindOrUnder_27 (Or.inr ⟨rfl, st_320⟩) ?_
  refine zv_iload_n dX7_isKindOrUnder_30 rfl rfl ?_
  refine zv_kald (j := 3) (x := nI (0)) dX7_isKindOrUnder_31 (rfl) (by omega) (rfl) ?_
  refine zv_istore_n (lv' := [.int (nI (4)), .int (nI (2)), .int (nI (0)), .int (nI (1))]) dX7_isKindOrUnder_32 rfl (by decide) rfl ?_
  refine zv_iinc (v := nI (2)) (lv' := [.int (nI (4)), .int (nI (2)), .int (nI (0)), .int (nI (2))]) dX7_isKindOrUnder_33 rfl (by decide) (by decide) rfl ?_
  refine zv_goto (tgt := 4) dX7_isKindOrUnder_36 (by decide) ?_
  refine zv_iload_n dX7_isKindOrUnder_4 rfl rfl ?_
  refine zv_bipush (v := nI (6)) dX7_isKindOrUnder_5 (by decide) ?_
  refine zv_icN_ge (tgt := 39) dX7_isKindOrUnder_7 (by decide) (by omega) (by omega) (fun h7 => (absurd h7 (by decide))) (fun h7 => ?_)
  refine zv_iload_n dX7_isKindOrUnder_10 rfl rfl ?_
  refine zv_if_lt (tgt := 39) dX7_isKindOrUnder_11 (by decide) (fun h11 => (absurd h11 (by decide))) (fun h11 => ?_)
  refine zv_iload_n dX7_isKindOrUnder_14 rfl rfl ?_
  refine zv_bipush (v := nI (6)) dX7_isKindOrUnder_15 (by decide) ?_
  refine zv_icN_ge (tgt := 39) dX7_isKindOrUnder_17 (by decide) (by omega) (by omega) (fun h17 => (absurd h17 (by decide))) (fun h17 => ?_)
  refine zv_iload_n dX7_isKindOrUnder_20 rfl rfl ?_
  refine zv_iload_n dX7_isKindOrUnder_21 rfl rfl ?_
  refine zv_icN_ne (tgt := 27) dX7_isKindOrUnder_22 (by decide) (by omega) (by omega) (fun h22 => ?_) (fun h22 => (absurd h22 (by decide)))
  refine zv_gets (b := 2) dX7_isKindOrUnder_27 (Or.inr ⟨rfl, st_320⟩) ?_
  refine zv_iload_n dX7_isKindOrUnder_30 rfl rfl ?_
  refine zv_kald (j := 0) (x := (-1 : Int32)) dX7_isKindOrUnder_31 (rfl) (by omega) (rfl) ?_
  refine zv_istore_n (lv' := [.int (nI (4)), .int (nI (2)), .int ((-1 : Int32)), .int (nI (2))]) dX7_isKindOrUnder_32 rfl (by decide) rfl ?_
  refine zv_iinc (v := nI (3)) (lv' := [.int (nI (4)), .int (nI (2)), .int ((-1 : Int32)), .int (nI (3))]) dX7_isKindOrUnder_33 rfl (by decide) (by decide) rfl ?_
  refine zv_goto (tgt := 4) dX7_isKindOrUnder_36 (by decide) ?_
  refine zv_iload_n dX7_isKindOrUnder_4 rfl rfl ?_
  refine zv_bipush (v := nI (6)) dX7_isKindOrUnder_5 (by decide) ?_
  refine zv_icN_ge (tgt := 39) dX7_isKindOrUnder_7 (by decide) (by omega) (by omega) (fun h7 => (absurd h7 (by decide))) (fun h7 => ?_)
  refine zv_iload_n dX7_isKindOrUnder_10 rfl rfl ?_
  refine zv_if_lt (tgt := 39) dX7_isKindOrUnder_11 (by decide) (fun h11 => ?_) (fun h11 => (absurd (by decide) h11))
  refine zv_iconst (v := nI (0)) dX7_isKindOrUnder_39 (by decide) ?_
  refine zv_iret dX7_isKindOrUnder_40 rfl rfl ?_
  exact ⟨rfl, rfl, rfl, rfl, rfl⟩
theorem cU_4_3 (d : Nat) {E : zv_E} {sh : zv_S} {I : zv_I} {J : zv_J} {R : zv_R} : zv_V E mX7_isKindOrUnder d 0 0 0 [.int (nI 4), .int (nI 3)] [] sh I J R (cc_p (rm_b (rm_of 5 4 3)) sh I J R) := by
  refine zv_iload_n dX7_isKindOrUnder_0 rfl rfl ?_
  refine zv_istore_n (lv' := [.int (nI (4)), .int (nI (3)), .int (nI (4))]) dX7_isKindOrUnder_1 rfl (by decide) rfl ?_
  refine zv_iconst (v := nI (0)) dX7_isKindOrUnder_2 (by decide) ?_
  refine zv_istore_n (lv' := [.int (nI (4)), .int (nI (3)), .int (nI (4)), .int (nI (0))]) dX7_isKindOrUnder_3 rfl (by decide) rfl ?_
  refine zv_iload_n dX7_isKindOrUnder_4 rfl rfl ?_
  refine zv_bipush (v := nI (6)) dX7_isKindOrUnder_5 (by decide) ?_
  refine zv_icN_ge (tgt := 39) dX7_isKindOrUnder_7 (by decide) (by omega) (by omega) (fun h7 => (absurd h7 (by decide))) (fun h7 => ?_)
  refine zv_iload_n dX7_isKindOrUnder_10 rfl rfl ?_
  refine zv_if_lt (tgt := 39) dX7_isKindOrUnder_11 (by decide) (fun h11 => (absurd h11 (by decide))) (fun h11 => ?_)
  refine zv_iload_n dX7_isKindOrUnder_14 rfl rfl ?_
  refine zv_bipush (v := nI (6)) dX7_isKindOrUnder_15 (by decide) ?_
  refine zv_icN_ge (tgt := 39) dX7_isKindOrUnder_17 (by decide) (by omega) (by omega) (fun h17 => (absurd h17 (by decide))) (fun h17 => ?_)
  refine zv_iload_n dX7_isKindOrUnder_20 rfl rfl ?_
  refine zv_iload_n dX7_isKindOrUnder_21 rfl rfl ?_
  refine zv_icN_ne (tgt := 27) dX7_isKindOrUnder_22 (by decide) (by omega) (by omega) (fun h22 => ?_) (fun h22 => (absurd h22 (by decide)))
  refine zv_gets (b := 2) dX7_isKindOrUnder_27 (Or.inr ⟨rfl, st_320⟩) ?_
  refine zv_iload_n dX7_isKindOrUnder_30 rfl rfl ?_
  refine zv_kald (j := 4) (x := nI (3)) dX7_isKindOrUnder_31 (rfl) (by omega) (rfl) ?_
  refine zv_istore_n (lv' := [.int (nI (4)), .int (nI (3)), .int (nI (3)), .int (nI (0))]) dX7_isKindOrUnder_32 rfl (by decide) rfl ?_
  refine zv_iinc (v := nI (1)) (lv' := [.int (nI (4)), .int (nI (3)), .int (nI (3)), .int (nI (1))]) dX7_isKindOrUnder_33 rfl (by decide) (by decide) rfl ?_
  refine zv_goto (tgt := 4) dX7_isKindOrUnder_36 (by decide) ?_
  refine zv_iload_n dX7_isKindOrUnder_4 rfl rfl ?_
  refine zv_bipush (v := nI (6)) dX7_isKindOrUnder_5 (by decide) ?_
  refine zv_icN_ge (tgt := 39) dX7_isKindOrUnder_7 (by decide) (by omega) (by omega) (fun h7 => (absurd h7 (by decide))) (fun h7 => ?_)
  refine zv_iload_n dX7_isKindOrUnder_10 rfl rfl ?_
  refine zv_if_lt (tgt := 39) dX7_isKindOrUnder_11 (by decide) (fun h11 => (absurd h11 (by decide))) (fun h11 => ?_)
  refine zv_iload_n dX7_isKindOrUnder_14 rfl rfl ?_
  refine zv_bipush (v := nI (6)) dX7_isKindOrUnder_15 (by decide) ?_
  refine zv_icN_ge (tgt := 39) dX7_isKindOrUnder_17 (by decide) (by omega) (by omega) (fun h17 => (absurd h17 (by decide))) (fun h17 => ?_)
  refine zv_iload_n dX7_isKindOrUnder_20 rfl rfl ?_
  refine zv_iload_n dX7_isKindOrUnder_21 rfl rfl ?_
  refine zv_icN_ne (tgt := 27) dX7_isKindOrUnder_22 (by decide) (by omega) (by omega) (fun h22 => (absurd h22 (by decide))) (fun h22 => ?_)
  refine zv_iconst (v := nI (1)) dX7_isKindOrUnder_25 (by decide) ?_
  refine zv_iret dX7_isKindOrUnder_26 rfl rfl ?_
  exact ⟨rfl, rfl, rfl, rfl, rfl⟩
theorem cU_4_4 (d : Nat) {E : zv_E} {sh : zv_S} {I : zv_I} {J : zv_J} {R : zv_R} : zv_V E mX7_isKindOrUnder d 0 0 0 [.int (nI 4), .int (nI 4)] [] sh I J R (cc_p (rm_b (rm_of 5 4 4)) sh I J R) := by
  refine zv_iload_n dX7_isKindOrUnder_0 rfl rfl ?_
  refine zv_istore_n (lv' := [.int (nI (4)), .int (nI (4)), .int (nI (4))]) dX7_isKindOrUnder_1 rfl (by decide) rfl ?_
  refine zv_iconst (v := nI (0)) dX7_isKindOrUnder_2 (by decide) ?_
  refine zv_istore_n (lv' := [.int (nI (4)), .int (nI (4)), .int (nI (4)), .int (nI (0))]) dX7_isKindOrUnder_3 rfl (by decide) rfl ?_
  refine zv_iload_n dX7_isKindOrUnder_4 rfl rfl ?_
  refine zv_bipush (v := nI (6)) dX7_isKindOrUnder_5 (by decide) ?_
  refine zv_icN_ge (tgt := 39) dX7_isKindOrUnder_7 (by decide) (by omega) (by omega) (fun h7 => (absurd h7 (by decide))) (fun h7 => ?_)
  refine zv_iload_n dX7_isKindOrUnder_10 rfl rfl ?_
  refine zv_if_lt (tgt := 39) dX7_isKindOrUnder_11 (by decide) (fun h11 => (absurd h11 (by decide))) (fun h11 => ?_)
  refine zv_iload_n dX7_isKindOrUnder_14 rfl rfl ?_
  refine zv_bipush (v := nI (6)) dX7_isKindOrUnder_15 (by decide) ?_
  refine zv_icN_ge (tgt := 39) dX7_isKindOrUnder_17 (by decide) (by omega) (by omega) (fun h17 => (absurd h17 (by decide))) (fun h17 => ?_)
  refine zv_iload_n dX7_isKindOrUnder_20 rfl rfl ?_
  refine zv_iload_n dX7_isKindOrUnder_21 rfl rfl ?_
  refine zv_icN_ne (tgt := 27) dX7_isKindOrUnder_22 (by decide) (by omega) (by omega) (fun h22 => (absurd h22 (by decide))) (fun h22 => ?_)
  refine zv_iconst (v := nI (1)) dX7_isKindOrUnder_25 (by decide) ?_
  refine zv_iret dX7_isKindOrUnder_26 rfl rfl ?_
  exact ⟨rfl, rfl, rfl, rfl, rfl⟩
theorem cU_4_5 (d : Nat) {E : zv_E} {sh : zv_S} {I : zv_I} {J : zv_J} {R : zv_R} : zv_V E mX7_isKindOrUnder d 0 0 0 [.int (nI 4), .int (nI 5)] [] sh I J R (cc_p (rm_b (rm_of 5 4 5)) sh I J R) := by
  refine zv_iload_n dX7_isKindOrUnder_0 rfl rfl ?_
  refine zv_istore_n (lv' := [.int (nI (4)), .int (nI (5)), .int (nI (4))]) dX7_isKindOrUnder_1 rfl (by decide) rfl ?_
  refine zv_iconst (v := nI (0)) dX7_isKindOrUnder_2 (by decide) ?_
  refine zv_istore_n (lv' := [.int (nI (4)), .int (nI (5)), .int (nI (4)), .int (nI (0))]) dX7_isKindOrUnder_3 rfl (by decide) rfl ?_
  refine zv_iload_n dX7_isKindOrUnder_4 rfl rfl ?_
  refine zv_bipush (v := nI (6)) dX7_isKindOrUnder_5 (by decide) ?_
  refine zv_icN_ge (tgt := 39) dX7_isKindOrUnder_7 (by decide) (by omega) (by omega) (fun h7 => (absurd h7 (by decide))) (fun h7 => ?_)
  refine zv_iload_n dX7_isKindOrUnder_10 rfl rfl ?_
  refine zv_if_lt (tgt := 39) dX7_isKindOrUnder_11 (by decide) (fun h11 => (absurd h11 (by decide))) (fun h11 => ?_)
  refine zv_iload_n dX7_isKindOrUnder_14 rfl rfl ?_
  refine zv_bipush (v := nI (6)) dX7_isKindOrUnder_15 (by decide) ?_
  refine zv_icN_ge (tgt := 39) dX7_isKindOrUnder_17 (by decide) (by omega) (by omega) (fun h17 => (absurd h17 (by decide))) (fun h17 => ?_)
  refine zv_iload_n dX7_isKindOrUnder_20 rfl rfl ?_
  refine zv_iload_n dX7_isKindOrUnder_21 rfl rfl ?_
  refine zv_icN_ne (tgt := 27) dX7_isKindOrUnder_22 (by decide) (by omega) (by omega) (fun h22 => ?_) (fun h22 => (absurd h22 (by decide)))
  refine zv_gets (b := 2) dX7_isKindOrUnder_27 (Or.inr ⟨rfl, st_320⟩) ?_
  refine zv_iload_n dX7_isKindOrUnder_30 rfl rfl ?_
  refine zv_kald (j := 4) (x := nI (3)) dX7_isKindOrUnder_31 (rfl) (by omega) (rfl) ?_
  refine zv_istore_n (lv' := [.int (nI (4)), .int (nI (5)), .int (nI (3)), .int (nI (0))]) dX7_isKindOrUnder_32 rfl (by decide) rfl ?_
  refine zv_iinc (v := nI (1)) (lv' := [.int (nI (4)), .int (nI (5)), .int (nI (3)), .int (nI (1))]) dX7_isKindOrUnder_33 rfl (by decide) (by decide) rfl ?_
  refine zv_goto (tgt := 4) dX7_isKindOrUnder_36 (by decide) ?_
  refine zv_iload_n dX7_isKindOrUnder_4 rfl rfl ?_
  refine zv_bipush (v := nI (6)) dX7_isKindOrUnder_5 (by decide) ?_
  refine zv_icN_ge (tgt := 39) dX7_isKindOrUnder_7 (by decide) (by omega) (by omega) (fun h7 => (absurd h7 (by decide))) (fun h7 => ?_)
  refine zv_iload_n dX7_isKindOrUnder_10 rfl rfl ?_
  refine zv_if_lt (tgt := 39) dX7_isKindOrUnder_11 (by decide) (fun h11 => (absurd h11 (by decide))) (fun h11 => ?_)
  refine zv_iload_n dX7_isKindOrUnder_14 rfl rfl ?_
  refine zv_bipush (v := nI (6)) dX7_isKindOrUnder_15 (by decide) ?_
  refine zv_icN_ge (tgt := 39) dX7_isKindOrUnder_17 (by decide) (by omega) (by omega) (fun h17 => (absurd h17 (by decide))) (fun h17 => ?_)
  refine zv_iload_n dX7_isKindOrUnder_20 rfl rfl ?_
  refine zv_iload_n dX7_isKindOrUnder_21 rfl rfl ?_
  refine zv_icN_ne (tgt := 27) dX7_isKindOrUnder_22 (by decide) (by omega) (by omega) (fun h22 => ?_) (fun h22 => (absurd h22 (by decide)))
  refine zv_gets (b := 2) dX7_isKindOrUnder_27 (Or.inr ⟨rfl, st_320⟩) ?_
  refine zv_iload_n dX7_isKindOrUnder_30 rfl rfl ?_
  refine zv_kald (j := 3) (x := nI (0)) dX7_isKindOrUnder_31 (rfl) (by omega) (rfl) ?_
  refine zv_istore_n (lv' := [.int (nI (4)), .int (nI (5)), .int (nI (0)), .int (nI (1))]) dX7_isKindOrUnder_32 rfl (by decide) rfl ?_
  refine zv_iinc (v := nI (2)) (lv' := [.int (nI (4)), .int (nI (5)), .int (nI (0)), .int (nI (2))]) dX7_isKindOrUnder_33 rfl (by decide) (by decide) rfl ?_
  refine zv_goto (tgt := 4) dX7_isKindOrUnder_36 (by decide) ?_
  refine zv_iload_n dX7_isKindOrUnder_4 rfl rfl ?_
  refine zv_bipush (v := nI (6)) dX7_isKindOrUnder_5 (by decide) ?_
  refine zv_icN_ge (tgt := 39) dX7_isKindOrUnder_7 (by decide) (by omega) (by omega) (fun h7 => (absurd h7 (by decide))) (fun h7 => ?_)
  refine zv_iload_n dX7_isKindOrUnder_10 rfl rfl ?_
  refine zv_if_lt (tgt := 39) dX7_isKindOrUnder_11 (by decide) (fun h11 => (absurd h11 (by decide))) (fun h11 => ?_)
  refine zv_iload_n dX7_isKindOrUnder_14 rfl rfl ?_
  refine zv_bipush (v := nI (6)) dX7_isKindOrUnder_15 (by decide) ?_
  refine zv_icN_ge (tgt := 39) dX7_isKindOrUnder_17 (by decide) (by omega) (by omega) (fun h17 => (absurd h17 (by decide))) (fun h17 => ?_)
  refine zv_iload_n dX7_isKindOrUnder_20 rfl rfl ?_
  refine zv_iload_n dX7_isKindOrUnder_21 rfl rfl ?_
  refine zv_icN_ne (tgt := 27) dX7_isKindOrUnder_22 (by decide) (by omega) (by omega) (fun h22 => ?_) (fun h22 => (absurd h22 (by decide)))
  refine zv_gets (b := 2) dX7_isKindOrUnder_27 (Or.inr ⟨rfl, st_320⟩) ?_
  refine zv_iload_n dX7_isKindOrUnder_30 rfl rfl ?_
  refine zv_kald (j := 0) (x := (-1 : Int32)) dX7_isKindOrUnder_31 (rfl) (by omega) (rfl) ?_
  refine zv_istore_n (lv' := [.int (nI (4)), .int (nI (5)), .int ((-1 : Int32)), .int (nI (2))]) dX7_isKindOrUnder_32 rfl (by decide) rfl ?_
  refine zv_iinc (v := nI (3)) (lv' := [.int (nI (4)), .int (nI (5)), .int ((-1 : Int32)), .int (nI (3))]) dX7_isKindOrUnder_33 rfl (by decide) (by decide) rfl ?_
  refine zv_goto (tgt := 4) dX7_isKindOrUnder_36 (by decide) ?_
  refine zv_iload_n dX7_isKindOrUnder_4 rfl rfl ?_
  refine zv_bipush (v := nI (6)) dX7_isKindOrUnder_5 (by decide) ?_
  refine zv_icN_ge (tgt := 39) dX7_isKindOrUnder_7 (by decide) (by omega) (by omega) (fun h7 => (absurd h7 (by decide))) (fun h7 => ?_)
  refine zv_iload_n dX7_isKindOrUnder_10 rfl rfl ?_
  refine zv_if_lt (tgt := 39) dX7_isKindOrUnder_11 (by decide) (fun h11 => ?_) (fun h11 => (absurd (by decide) h11))
  refine zv_iconst (v := nI (0)) dX7_isKindOrUnder_39 (by decide) ?_
  refine zv_iret dX7_isKindOrUnder_40 rfl rfl ?_
  exact ⟨rfl, rfl, rfl, rfl, rfl⟩
theorem cU_5_0 (d : Nat) {E : zv_E} {sh : zv_S} {I : zv_I} {J : zv_J} {R : zv_R} : zv_V E mX7_isKindOrUnder d 0 0 0 [.int (nI 5), .int (nI 0)] [] sh I J R (cc_p (rm_b (rm_of 5 5 0)) sh I J R) := by
  refine zv_iload_n dX7_isKindOrUnder_0 rfl rfl ?_
  refine zv_istore_n (lv' := [.int (nI (5)), .int (nI (0)), .int (nI (5))]) dX7_isKindOrUnder_1 rfl (by decide) rfl ?_
  refine zv_iconst (v := nI (0)) dX7_isKindOrUnder_2 (by decide) ?_
  refine zv_istore_n (lv' := [.int (nI (5)), .int (nI (0)), .int (nI (5)), .int (nI (0))]) dX7_isKindOrUnder_3 rfl (by decide) rfl ?_
  refine zv_iload_n dX7_isKindOrUnder_4 rfl rfl ?_
  refine zv_bipush (v := nI (6)) dX7_isKindOrUnder_5 (by decide) ?_
  refine zv_icN_ge (tgt := 39) dX7_isKindOrUnder_7 (by decide) (by omega) (by omega) (fun h7 => (absurd h7 (by decide))) (fun h7 => ?_)
  refine zv_iload_n dX7_isKindOrUnder_10 rfl rfl ?_
  refine zv_if_lt (tgt := 39) dX7_isKindOrUnder_11 (by decide) (fun h11 => (absurd h11 (by decide))) (fun h11 => ?_)
  refine zv_iload_n dX7_isKindOrUnder_14 rfl rfl ?_
  refine zv_bipush (v := nI (6)) dX7_isKindOrUnder_15 (by decide) ?_
  refine zv_icN_ge (tgt := 39) dX7_isKindOrUnder_17 (by decide) (by omega) (by omega) (fun h17 => (absurd h17 (by decide))) (fun h17 => ?_)
  refine zv_iload_n dX7_isKindOrUnder_20 rfl rfl ?_
  refine zv_iload_n dX7_isKindOrUnder_21 rfl rfl ?_
  refine zv_icN_ne (tgt := 27) dX7_isKindOrUnder_22 (by decide) (by omega) (by omega) (fun h22 => ?_) (fun h22 => (absurd h22 (by decide)))
  refine zv_gets (b := 2) dX7_isKindOrUnder_27 (Or.inr ⟨rfl, st_320⟩) ?_
  refine zv_iload_n dX7_isKindOrUnder_30 rfl rfl ?_
  refine zv_kald (j := 5) (x := nI (4)) dX7_isKindOrUnder_31 (rfl) (by omega) (rfl) ?_
  refine zv_istore_n (lv' := [.int (nI (5)), .int (nI (0)), .int (nI (4)), .int (nI (0))]) dX7_isKindOrUnder_32 rfl (by decide) rfl ?_
  refine zv_iinc (v := nI (1)) (lv' := [.int (nI (5)), .int (nI (0)), .int (nI (4)), .int (nI (1))]) dX7_isKindOrUnder_33 rfl (by decide) (by decide) rfl ?_
  refine zv_goto (tgt := 4) dX7_isKindOrUnder_36 (by decide) ?_
  refine zv_iload_n dX7_isKindOrUnder_4 rfl rfl ?_
  refine zv_bipush (v := nI (6)) dX7_isKindOrUnder_5 (by decide) ?_
  refine zv_icN_ge (tgt := 39) dX7_isKindOrUnder_7 (by decide) (by omega) (by omega) (fun h7 => (absurd h7 (by decide))) (fun h7 => ?_)
  refine zv_iload_n dX7_isKindOrUnder_10 rfl rfl ?_
  refine zv_if_lt (tgt := 39) dX7_isKindOrUnder_11 (by decide) (fun h11 => (absurd h11 (by decide))) (fun h11 => ?_)
  refine zv_iload_n dX7_isKindOrUnder_14 rfl rfl ?_
  refine zv_bipush (v := nI (6)) dX7_isKindOrUnder_15 (by decide) ?_
  refine zv_icN_ge (tgt := 39) dX7_isKindOrUnder_17 (by decide) (by omega) (by omega) (fun h17 => (absurd h17 (by decide))) (fun h17 => ?_)
  refine zv_iload_n dX7_isKindOrUnder_20 rfl rfl ?_
  refine zv_iload_n dX7_isKindOrUnder_21 rfl rfl ?_
  refine zv_icN_ne (tgt := 27) dX7_isKindOrUnder_22 (by decide) (by omega) (by omega) (fun h22 => ?_) (fun h22 => (absurd h22 (by decide)))
  refine zv_gets (b := 2) dX7_isKindOrUnder_27 (Or.inr ⟨rfl, st_320⟩) ?_
  refine zv_iload_n dX7_isKindOrUnder_30 rfl rfl ?_
  refine zv_kald (j := 4) (x := nI (3)) dX7_isKindOrUnder_31 (rfl) (by omega) (rfl) ?_
  refine zv_istore_n (lv' := [.int (nI (5)), .int (nI (0)), .int (nI (3)), .int (nI (1))]) dX7_isKindOrUnder_32 rfl (by decide) rfl ?_
  refine zv_iinc (v := nI (2)) (lv' := [.int (nI (5)), .int (nI (0)), .int (nI (3)), .int (nI (2))]) dX7_isKindOrUnder_33 rfl (by decide) (by decide) rfl ?_
  refine zv_goto (tgt := 4) dX7_isKindOrUnder_36 (by decide) ?_
  refine zv_iload_n dX7_isKindOrUnder_4 rfl rfl ?_
  refine zv_bipush (v := nI (6)) dX7_isKindOrUnder_5 (by decide) ?_
  refine zv_icN_ge (tgt := 39) dX7_isKindOrUnder_7 (by decide) (by omega) (by omega) (fun h7 => (absurd h7 (by decide))) (fun h7 => ?_)
  refine zv_iload_n dX7_isKindOrUnder_10 rfl rfl ?_
  refine zv_if_lt (tgt := 39) dX7_isKindOrUnder_11 (by decide) (fun h11 => (absurd h11 (by decide))) (fun h11 => ?_)
  refine zv_iload_n dX7_isKindOrUnder_14 rfl rfl ?_
  refine zv_bipush (v := nI (6)) dX7_isKindOrUnder_15 (by decide) ?_
  refine zv_icN_ge (tgt := 39) dX7_isKindOrUnder_17 (by decide) (by omega) (by omega) (fun h17 => (absurd h17 (by decide))) (fun h17 => ?_)
  refine zv_iload_n dX7_isKindOrUnder_20 rfl rfl ?_
  refine zv_iload_n dX7_isKindOrUnder_21 rfl rfl ?_
  refine zv_icN_ne (tgt := 27) dX7_isKindOrUnder_22 (by decide) (by omega) (by omega) (fun h22 => ?_) (fun h22 => (absurd h22 (by decide)))
  refine zv_gets (b := 2) dX7_isKindOrUnder_27 (Or.inr ⟨rfl, st_320⟩) ?_
  refine zv_iload_n dX7_isKindOrUnder_30 rfl rfl ?_
  refine zv_kald (j := 3) (x := nI (0)) dX7_isKindOrUnder_31 (rfl) (by omega) (rfl) ?_
  refine zv_istore_n (lv' := [.int (nI (5)), .int (nI (0)), .int (nI (0)), .int (nI (2))]) dX7_isKindOrUnder_32 rfl (by decide) rfl ?_
  refine zv_iinc (v := nI (3)) (lv' := [.int (nI (5)), .int (nI (0)), .int (nI (0)), .int (nI (3))]) dX7_isKindOrUnder_33 rfl (by decide) (by decide) rfl ?_
  refine zv_goto (tgt := 4) dX7_isKindOrUnder_36 (by decide) ?_
  refine zv_iload_n dX7_isKindOrUnder_4 rfl rfl ?_
  refine zv_bipush (v := nI (6)) dX7_isKindOrUnder_5 (by decide) ?_
  refine zv_icN_ge (tgt := 39) dX7_isKindOrUnder_7 (by decide) (by omega) (by omega) (fun h7 => (absurd h7 (by decide))) (fun h7 => ?_)
  refine zv_iload_n dX7_isKindOrUnder_10 rfl rfl ?_
  refine zv_if_lt (tgt := 39) dX7_isKindOrUnder_11 (by decide) (fun h11 => (absurd h11 (by decide))) (fun h11 => ?_)
  refine zv_iload_n dX7_isKindOrUnder_14 rfl rfl ?_
  refine zv_bipush (v := nI (6)) dX7_isKindOrUnder_15 (by decide) ?_
  refine zv_icN_ge (tgt := 39) dX7_isKindOrUnder_17 (by decide) (by omega) (by omega) (fun h17 => (absurd h17 (by decide))) (fun h17 => ?_)
  refine zv_iload_n dX7_isKindOrUnder_20 rfl rfl ?_
  refine zv_iload_n dX7_isKindOrUnder_21 rfl rfl ?_
  refine zv_icN_ne (tgt := 27) dX7_isKindOrUnder_22 (by decide) (by omega) (by omega) (fun h22 => (absurd h22 (by decide))) (fun h22 => ?_)
  refine zv_iconst (v := nI (1)) dX7_isKindOrUnder_25 (by decide) ?_
  refine zv_iret dX7_isKindOrUnder_26 rfl rfl ?_
  exact ⟨rfl, rfl, rfl, rfl, rfl⟩
theorem cU_5_1 (d : Nat) {E : zv_E} {sh : zv_S} {I : zv_I} {J : zv_J} {R : zv_R} : zv_V E mX7_isKindOrUnder d 0 0 0 [.int (nI 5), .int (nI 1)] [] sh I J R (cc_p (rm_b (rm_of 5 5 1)) sh I J R) := by
  refine zv_iload_n dX7_isKindOrUnder_0 rfl rfl ?_
  refine zv_istore_n (lv' := [.int (nI (5)), .int (nI (1)), .int (nI (5))]) dX7_isKindOrUnder_1 rfl (by decide) rfl ?_
  refine zv_iconst (v := nI (0)) dX7_isKindOrUnder_2 (by decide) ?_
  refine zv_istore_n (lv' := [.int (nI (5)), .int (nI (1)), .int (nI (5)), .int (nI (0))]) dX7_isKindOrUnder_3 rfl (by decide) rfl ?_
  refine zv_iload_n dX7_isKindOrUnder_4 rfl rfl ?_
  refine zv_bipush (v := nI (6)) dX7_isKindOrUnder_5 (by decide) ?_
  refine zv_icN_ge (tgt := 39) dX7_isKindOrUnder_7 (by decide) (by omega) (by omega) (fun h7 => (absurd h7 (by decide))) (fun h7 => ?_)
  refine zv_iload_n dX7_isKindOrUnder_10 rfl rfl ?_
  refine zv_if_lt (tgt := 39) dX7_isKindOrUnder_11 (by decide) (fun h11 => (absurd h11 (by decide))) (fun h11 => ?_)
  refine zv_iload_n dX7_isKindOrUnder_14 rfl rfl ?_
  refine zv_bipush (v := nI (6)) dX7_isKindOrUnder_15 (by decide) ?_
  refine zv_icN_ge (tgt := 39) dX7_isKindOrUnder_17 (by decide) (by omega) (by omega) (fun h17 => (absurd h17 (by decide))) (fun h17 => ?_)
  refine zv_iload_n dX7_isKindOrUnder_20 rfl rfl ?_
  refine zv_iload_n dX7_isKindOrUnder_21 rfl rfl ?_
  refine zv_icN_ne (tgt := 27) dX7_isKindOrUnder_22 (by decide) (by omega) (by omega) (fun h22 => ?_) (fun h22 => (absurd h22 (by decide)))
  refine zv_gets (b := 2) dX7_isKindOrUnder_27 (Or.inr ⟨rfl, st_320⟩) ?_
  refine zv_iload_n dX7_isKindOrUnder_30 rfl rfl ?_
  refine zv_kald (j := 5) (x := nI (4)) dX7_isKindOrUnder_31 (rfl) (by omega) (rfl) ?_
  refine zv_istore_n (lv' := [.int (nI (5)), .int (nI (1)), .int (nI (4)), .int (nI (0))]) dX7_isKindOrUnder_32 rfl (by decide) rfl ?_
  refine zv_iinc (v := nI (1)) (lv' := [.int (nI (5)), .int (nI (1)), .int (nI (4)), .int (nI (1))]) dX7_isKindOrUnder_33 rfl (by decide) (by decide) rfl ?_
  refine zv_goto (tgt := 4) dX7_isKindOrUnder_36 (by decide) ?_
  refine zv_iload_n dX7_isKindOrUnder_4 rfl rfl ?_
  refine zv_bipush (v := nI (6)) dX7_isKindOrUnder_5 (by decide) ?_
  refine zv_icN_ge (tgt := 39) dX7_isKindOrUnder_7 (by decide) (by omega) (by omega) (fun h7 => (absurd h7 (by decide))) (fun h7 => ?_)
  refine zv_iload_n dX7_isKindOrUnder_10 rfl rfl ?_
  refine zv_if_lt (tgt := 39) dX7_isKindOrUnder_11 (by decide) (fun h11 => (absurd h11 (by decide))) (fun h11 => ?_)
  refine zv_iload_n dX7_isKindOrUnder_14 rfl rfl ?_
  refine zv_bipush (v := nI (6)) dX7_isKindOrUnder_15 (by decide) ?_
  refine zv_icN_ge (tgt := 39) dX7_isKindOrUnder_17 (by decide) (by omega) (by omega) (fun h17 => (absurd h17 (by decide))) (fun h17 => ?_)
  refine zv_iload_n dX7_isKindOrUnder_20 rfl rfl ?_
  refine zv_iload_n dX7_isKindOrUnder_21 rfl rfl ?_
  refine zv_icN_ne (tgt := 27) dX7_isKindOrUnder_22 (by decide) (by omega) (by omega) (fun h22 => ?_) (fun h22 => (absurd h22 (by decide)))
  refine zv_gets (b := 2) dX7_isKindOrUnder_27 (Or.inr ⟨rfl, st_320⟩) ?_
  refine zv_iload_n dX7_isKindOrUnder_30 rfl rfl ?_
  refine zv_kald (j := 4) (x := nI (3)) dX7_isKindOrUnder_31 (rfl) (by omega) (rfl) ?_
  refine zv_istore_n (lv' := [.int (nI (5)), .int (nI (1)), .int (nI (3)), .int (nI (1))]) dX7_isKindOrUnder_32 rfl (by decide) rfl ?_
  refine zv_iinc (v := nI (2)) (lv' := [.int (nI (5)), .int (nI (1)), .int (nI (3)), .int (nI (2))]) dX7_isKindOrUnder_33 rfl (by decide) (by decide) rfl ?_
  refine zv_goto (tgt := 4) dX7_isKindOrUnder_36 (by decide) ?_
  refine zv_iload_n dX7_isKindOrUnder_4 rfl rfl ?_
  refine zv_bipush (v := nI (6)) dX7_isKindOrUnder_5 (by decide) ?_
  refine zv_icN_ge (tgt := 39) dX7_isKindOrUnder_7 (by decide) (by omega) (by omega) (fun h7 => (absurd h7 (by decide))) (fun h7 => ?_)
  refine zv_iload_n dX7_isKindOrUnder_10 rfl rfl ?_
  refine zv_if_lt (tgt := 39) dX7_isKindOrUnder_11 (by decide) (fun h11 => (absurd h11 (by decide))) (fun h11 => ?_)
  refine zv_iload_n dX7_isKindOrUnder_14 rfl rfl ?_
  refine zv_bipush (v := nI (6)) dX7_isKindOrUnder_15 (by decide) ?_
  refine zv_icN_ge (tgt := 39) dX7_isKindOrUnder_17 (by decide) (by omega) (by omega) (fun h17 => (absurd h17 (by decide))) (fun h17 => ?_)
  refine zv_iload_n dX7_isKindOrUnder_20 rfl rfl ?_
  refine zv_iload_n dX7_isKindOrUnder_21 rfl rfl ?_
  refine zv_icN_ne (tgt := 27) dX7_isKindOrUnder_22 (by decide) (by omega) (by omega) (fun h22 => ?_) (fun h22 => (absurd h22 (by decide)))
  refine zv_gets (b := 2) dX7_isKindOrUnder_27 (Or.inr ⟨rfl, st_320⟩) ?_
  refine zv_iload_n dX7_isKindOrUnder_30 rfl rfl ?_
  refine zv_kald (j := 3) (x := nI (0)) dX7_isKindOrUnder_31 (rfl) (by omega) (rfl) ?_
  refine zv_istore_n (lv' := [.int (nI (5)), .int (nI (1)), .int (nI (0)), .int (nI (2))]) dX7_isKindOrUnder_32 rfl (by decide) rfl ?_
  refine zv_iinc (v := nI (3)) (lv' := [.int (nI (5)), .int (nI (1)), .int (nI (0)), .int (nI (3))]) dX7_isKindOrUnder_33 rfl (by decide) (by decide) rfl ?_
  refine zv_goto (tgt := 4) dX7_isKindOrUnder_36 (by decide) ?_
  refine zv_iload_n dX7_isKindOrUnder_4 rfl rfl ?_
  refine zv_bipush (v := nI (6)) dX7_isKindOrUnder_5 (by decide) ?_
  refine zv_icN_ge (tgt := 39) dX7_isKindOrUnder_7 (by decide) (by omega) (by omega) (fun h7 => (absurd h7 (by decide))) (fun h7 => ?_)
  refine zv_iload_n dX7_isKindOrUnder_10 rfl rfl ?_
  refine zv_if_lt (tgt := 39) dX7_isKindOrUnder_11 (by decide) (fun h11 => (absurd h11 (by decide))) (fun h11 => ?_)
  refine zv_iload_n dX7_isKindOrUnder_14 rfl rfl ?_
  refine zv_bipush (v := nI (6)) dX7_isKindOrUnder_15 (by decide) ?_
  refine zv_icN_ge (tgt := 39) dX7_isKindOrUnder_17 (by decide) (by omega) (by omega) (fun h17 => (absurd h17 (by decide))) (fun h17 => ?_)
  refine zv_iload_n dX7_isKindOrUnder_20 rfl rfl ?_
  refine zv_iload_n dX7_isKindOrUnder_21 rfl rfl ?_
  refine zv_icN_ne (tgt := 27) dX7_isKindOrUnder_22 (by decide) (by omega) (by omega) (fun h22 => ?_) (fun h22 => (absurd h22 (by decide)))
  refine zv_gets (b := 2) dX7_isKindOrUnder_27 (Or.inr ⟨rfl, st_320⟩) ?_
  refine zv_iload_n dX7_isKindOrUnder_30 rfl rfl ?_
  refine zv_kald (j := 0) (x := (-1 : Int32)) dX7_isKindOrUnder_31 (rfl) (by omega) (rfl) ?_
  refine zv_istore_n (lv' := [.int (nI (5)), .int (nI (1)), .int ((-1 : Int32)), .int (nI (3))]) dX7_isKindOrUnder_32 rfl (by decide) rfl ?_
  refine zv_iinc (v := nI (4)) (lv' := [.int (nI (5)), .int (nI (1)), .int ((-1 : Int32)), .int (nI (4))]) dX7_isKindOrUnder_33 rfl (by decide) (by decide) rfl ?_
  refine zv_goto (tgt := 4) dX7_isKindOrUnder_36 (by decide) ?_
  refine zv_iload_n dX7_isKindOrUnder_4 rfl rfl ?_
  refine zv_bipush (v := nI (6)) dX7_isKindOrUnder_5 (by decide) ?_
  refine zv_icN_ge (tgt := 39) dX7_isKindOrUnder_7 (by decide) (by omega) (by omega) (fun h7 => (absurd h7 (by decide))) (fun h7 => ?_)
  refine zv_iload_n dX7_isKindOrUnder_10 rfl rfl ?_
  refine zv_if_lt (tgt := 39) dX7_isKindOrUnder_11 (by decide) (fun h11 => ?_) (fun h11 => (absurd (by decide) h11))
  refine zv_iconst (v := nI (0)) dX7_isKindOrUnder_39 (by decide) ?_
  refine zv_iret dX7_isKindOrUnder_40 rfl rfl ?_
  exact ⟨rfl, rfl, rfl, rfl, rfl⟩
theorem cU_5_2 (d : Nat) {E : zv_E} {sh : zv_S} {I : zv_I} {J : zv_J} {R : zv_R} : zv_V E mX7_isKindOrUnder d 0 0 0 [.int (nI 5), .int (nI 2)] [] sh I J R (cc_p (rm_b (rm_of 5 5 2)) sh I J R) := by
  refine zv_iload_n dX7_isKindOrUnder_0 rfl rfl ?_
  refine zv_istore_n (lv' := [.int (nI (5)), .int (nI (2)), .int (nI (5))]) dX7_isKindOrUnder_1 rfl (by decide) rfl ?_
  refine zv_iconst (v := nI (0)) dX7_isKindOrUnder_2 (by decide) ?_
  refine zv_istore_n (lv' := [.int (nI (5)), .int (nI (2)), .int (nI (5)), .int (nI (0))]) dX7_isKindOrUnder_3 rfl (by decide) rfl ?_
  refine zv_iload_n dX7_isKindOrUnder_4 rfl rfl ?_
  refine zv_bipush (v := nI (6)) dX7_isKindOrUnder_5 (by decide) ?_
  refine zv_icN_ge (tgt := 39) dX7_isKindOrUnder_7 (by decide) (by omega) (by omega) (fun h7 => (absurd h7 (by decide))) (fun h7 => ?_)
  refine zv_iload_n dX7_isKindOrUnder_10 rfl rfl ?_
  refine zv_if_lt (tgt := 39) dX7_isKindOrUnder_11 (by decide) (fun h11 => (absurd h11 (by decide))) (fun h11 => ?_)
  refine zv_iload_n dX7_isKindOrUnder_14 rfl rfl ?_
  refine zv_bipush (v := nI (6)) dX7_isKindOrUnder_15 (by decide) ?_
  refine zv_icN_ge (tgt := 39) dX7_isKindOrUnder_17 (by decide) (by omega) (by omega) (fun h17 => (absurd h17 (by decide))) (fun h17 => ?_)
  refine zv_iload_n dX7_isKindOrUnder_20 rfl rfl ?_
  refine zv_iload_n dX7_isKindOrUnder_21 rfl rfl ?_
  refine zv_icN_ne (tgt := 27) dX7_isKindOrUnder_22 (by decide) (by omega) (by omega) (fun h22 => ?_) (fun h22 => (absurd h22 (by decide)))
  refine zv_gets (b := 2) dX7_isKindOrUnder_27 (Or.inr ⟨rfl, st_320⟩) ?_
  refine zv_iload_n dX7_isKindOrUnder_30 rfl rfl ?_
  refine zv_kald (j := 5) (x := nI (4)) dX7_isKindOrUnder_31 (rfl) (by omega) (rfl) ?_
  refine zv_istore_n (lv' := [.int (nI (5)), .int (nI (2)), .int (nI (4)), .int (nI (0))]) dX7_isKindOrUnder_32 rfl (by decide) rfl ?_
  refine zv_iinc (v := nI (1)) (lv' := [.int (nI (5)), .int (nI (2)), .int (nI (4)), .int (nI (1))]) dX7_isKindOrUnder_33 rfl (by decide) (by decide) rfl ?_
  refine zv_goto (tgt := 4) dX7_isKindOrUnder_36 (by decide) ?_
  refine zv_iload_n dX7_isKindOrUnder_4 rfl rfl ?_
  refine zv_bipush (v := nI (6)) dX7_isKindOrUnder_5 (by decide) ?_
  refine zv_icN_ge (tgt := 39) dX7_isKindOrUnder_7 (by decide) (by omega) (by omega) (fun h7 => (absurd h7 (by decide))) (fun h7 => ?_)
  refine zv_iload_n dX7_isKindOrUnder_10 rfl rfl ?_
  refine zv_if_lt (tgt := 39) dX7_isKindOrUnder_11 (by decide) (fun h11 => (absurd h11 (by decide))) (fun h11 => ?_)
  refine zv_iload_n dX7_isKindOrUnder_14 rfl rfl ?_
  refine zv_bipush (v := nI (6)) dX7_isKindOrUnder_15 (by decide) ?_
  refine zv_icN_ge (tgt := 39) dX7_isKindOrUnder_17 (by decide) (by omega) (by omega) (fun h17 => (absurd h17 (by decide))) (fun h17 => ?_)
  refine zv_iload_n dX7_isKindOrUnder_20 rfl rfl ?_
  refine zv_iload_n dX7_isKindOrUnder_21 rfl rfl ?_
  refine zv_icN_ne (tgt := 27) dX7_isKindOrUnder_22 (by decide) (by omega) (by omega) (fun h22 => ?_) (fun h22 => (absurd h22 (by decide)))
  refine zv_gets (b := 2) dX7_isKindOrUnder_27 (Or.inr ⟨rfl, st_320⟩) ?_
  refine zv_iload_n dX7_isKindOrUnder_30 rfl rfl ?_
  refine zv_kald (j := 4) (x := nI (3)) dX7_isKindOrUnder_31 (rfl) (by omega) (rfl) ?_
  refine zv_istore_n (lv' := [.int (nI (5)), .int (nI (2)), .int (nI (3)), .int (nI (1))]) dX7_isKindOrUnder_32 rfl (by decide) rfl ?_
  refine zv_iinc (v := nI (2)) (lv' := [.int (nI (5)), .int (nI (2)), .int (nI (3)), .int (nI (2))]) dX7_isKindOrUnder_33 rfl (by decide) (by decide) rfl ?_
  refine zv_goto (tgt := 4) dX7_isKindOrUnder_36 (by decide) ?_
  refine zv_iload_n dX7_isKindOrUnder_4 rfl rfl ?_
  refine zv_bipush (v := nI (6)) dX7_isKindOrUnder_5 (by decide) ?_
  refine zv_icN_ge (tgt := 39) dX7_isKindOrUnder_7 (by decide) (by omega) (by omega) (fun h7 => (absurd h7 (by decide))) (fun h7 => ?_)
  refine zv_iload_n dX7_isKindOrUnder_10 rfl rfl ?_
  refine zv_if_lt (tgt := 39) dX7_isKindOrUnder_11 (by decide) (fun h11 => (absurd h11 (by decide))) (fun h11 => ?_)
  refine zv_iload_n dX7_isKindOrUnder_14 rfl rfl ?_
  refine zv_bipush (v := nI (6)) dX7_isKindOrUnder_15 (by decide) ?_
  refine zv_icN_ge (tgt := 39) dX7_isKindOrUnder_17 (by decide) (by omega) (by omega) (fun h17 => (absurd h17 (by decide))) (fun h17 => ?_)
  refine zv_iload_n dX7_isKindOrUnder_20 rfl rfl ?_
  refine zv_iload_n dX7_isKindOrUnder_21 rfl rfl ?_
  refine zv_icN_ne (tgt := 27) dX7_isKindOrUnder_22 (by decide) (by omega) (by omega) (fun h22 => ?_) (fun h22 => (absurd h22 (by decide)))
  refine zv_gets (b := 2) dX7_isKindOrUnder_27 (Or.inr ⟨rfl, st_320⟩) ?_
  refine zv_iload_n dX7_isKindOrUnder_30 rfl rfl ?_
  refine zv_kald (j := 3) (x := nI (0)) dX7_isKindOrUnder_31 (rfl) (by omega) (rfl) ?_
  refine zv_istore_n (lv' := [.int (nI (5)), .int (nI (2)), .int (nI (0)), .int (nI (2))]) dX7_isKindOrUnder_32 rfl (by decide) rfl ?_
  refine zv_iinc (v := nI (3)) (lv' := [.int (nI (5)), .int (nI (2)), .int (nI (0)), .int (nI (3))]) dX7_isKindOrUnder_33 rfl (by decide) (by decide) rfl ?_
  refine zv_goto (tgt := 4) dX7_isKindOrUnder_36 (by decide) ?_
  refine zv_iload_n dX7_isKindOrUnder_4 rfl rfl ?_
  refine zv_bipush (v := nI (6)) dX7_isKindOrUnder_5 (by decide) ?_
  refine zv_icN_ge (tgt := 39) dX7_isKindOrUnder_7 (by decide) (by omega) (by omega) (fun h7 => (absurd h7 (by decide))) (fun h7 => ?_)
  refine zv_iload_n dX7_isKindOrUnder_10 rfl rfl ?_
  refine zv_if_lt (tgt := 39) dX7_isKindOrUnder_11 (by decide) (fun h11 => (absurd h11 (by decide))) (fun h11 => ?_)
  refine zv_iload_n dX7_isKindOrUnder_14 rfl rfl ?_
  refine zv_bipush (v := nI (6)) dX7_isKindOrUnder_15 (by decide) ?_
  refine zv_icN_ge (tgt := 39) dX7_isKindOrUnder_17 (by decide) (by omega) (by omega) (fun h17 => (absurd h17 (by decide))) (fun h17 => ?_)
  refine zv_iload_n dX7_isKindOrUnder_20 rfl rfl ?_
  refine zv_iload_n dX7_isKindOrUnder_21 rfl rfl ?_
  refine zv_icN_ne (tgt := 27) dX7_isKindOrUnder_22 (by decide) (by omega) (by omega) (fun h22 => ?_) (fun h22 => (absurd h22 (by decide)))
  refine zv_gets (b := 2) dX7_isKindOrUnder_27 (Or.inr ⟨rfl, st_320⟩) ?_
  refine zv_iload_n dX7_isKindOrUnder_30 rfl rfl ?_
  refine zv_kald (j := 0) (x := (-1 : Int32)) dX7_isKindOrUnder_31 (rfl) (by omega) (rfl) ?_
  refine zv_istore_n (lv' := [.int (nI (5)), .int (nI (2)), .int ((-1 : Int32)), .int (nI (3))]) dX7_isKindOrUnder_32 rfl (by decide) rfl ?_
  refine zv_iinc (v := nI (4)) (lv' := [.int (nI (5)), .int (nI (2)), .int ((-1 : Int32)), .int (nI (4))]) dX7_isKindOrUnder_33 rfl (by decide) (by decide) rfl ?_
  refine zv_goto (tgt := 4) dX7_isKindOrUnder_36 (by decide) ?_
  refine zv_iload_n dX7_isKindOrUnder_4 rfl rfl ?_
  refine zv_bipush (v := nI (6)) dX7_isKindOrUnder_5 (by decide) ?_
  refine zv_icN_ge (tgt := 39) dX7_isKindOrUnder_7 (by decide) (by omega) (by omega) (fun h7 => (absurd h7 (by decide))) (fun h7 => ?_)
  refine zv_iload_n dX7_isKindOrUnder_10 rfl rfl ?_
  refine zv_if_lt (tgt := 39) dX7_isKindOrUnder_11 (by decide) (fun h11 => ?_) (fun h11 => (absurd (by decide) h11))
  refine zv_iconst (v := nI (0)) dX7_isKindOrUnder_39 (by decide) ?_
  refine zv_iret dX7_isKindOrUnder_40 rfl rfl ?_
  exact ⟨rfl, rfl, rfl, rfl, rfl⟩
theorem cU_5_3 (d : Nat) {E : zv_E} {sh : zv_S} {I : zv_I} {J : zv_J} {R : zv_R} : zv_V E mX7_isKindOrUnder d 0 0 0 [.int (nI 5), .int (nI 3)] [] sh I J R (cc_p (rm_b (rm_of 5 5 3)) sh I J R) := by
  refine zv_iload_n dX7_isKindOrUnder_0 rfl rfl ?_
  refine zv_istore_n (lv' := [.int (nI (5)), .int (nI (3)), .int (nI (5))]) dX7_isKindOrUnder_1 rfl (by decide) rfl ?_
  refine zv_iconst (v := nI (0)) dX7_isKindOrUnder_2 (by decide) ?_
  refine zv_istore_n (lv' := [.int (nI (5)), .int (nI (3)), .int (nI (5)), .int (nI (0))]) dX7_isKindOrUnder_3 rfl (by decide) rfl ?_
  refine zv_iload_n dX7_isKindOrUnder_4 rfl rfl ?_
  refine zv_bipush (v := nI (6)) dX7_isKindOrUnder_5 (by decide) ?_
  refine zv_icN_ge (tgt := 39) dX7_isKindOrUnder_7 (by decide) (by omega) (by omega) (fun h7 => (absurd h7 (by decide))) (fun h7 => ?_)
  refine zv_iload_n dX7_isKindOrUnder_10 rfl rfl ?_
  refine zv_if_lt (tgt := 39) dX7_isKindOrUnder_11 (by decide) (fun h11 => (absurd h11 (by decide))) (fun h11 => ?_)
  refine zv_iload_n dX7_isKindOrUnder_14 rfl rfl ?_
  refine zv_bipush (v := nI (6)) dX7_isKindOrUnder_15 (by decide) ?_
  refine zv_icN_ge (tgt := 39) dX7_isKindOrUnder_17 (by decide) (by omega) (by omega) (fun h17 => (absurd h17 (by decide))) (fun h17 => ?_)
  refine zv_iload_n dX7_isKindOrUnder_20 rfl rfl ?_
  refine zv_iload_n dX7_isKindOrUnder_21 rfl rfl ?_
  refine zv_icN_ne (tgt := 27) dX7_isKindOrUnder_22 (by decide) (by omega) (by omega) (fun h22 => ?_) (fun h22 => (absurd h22 (by decide)))
  refine zv_gets (b := 2) dX7_isKindOrUnder_27 (Or.inr ⟨rfl, st_320⟩) ?_
  refine zv_iload_n dX7_isKindOrUnder_30 rfl rfl ?_
  refine zv_kald (j := 5) (x := nI (4)) dX7_isKindOrUnder_31 (rfl) (by omega) (rfl) ?_
  refine zv_istore_n (lv' := [.int (nI (5)), .int (nI (3)), .int (nI (4)), .int (nI (0))]) dX7_isKindOrUnder_32 rfl (by decide) rfl ?_
  refine zv_iinc (v := nI (1)) (lv' := [.int (nI (5)), .int (nI (3)), .int (nI (4)), .int (nI (1))]) dX7_isKindOrUnder_33 rfl (by decide) (by decide) rfl ?_
  refine zv_goto (tgt := 4) dX7_isKindOrUnder_36 (by decide) ?_
  refine zv_iload_n dX7_isKindOrUnder_4 rfl rfl ?_
  refine zv_bipush (v := nI (6)) dX7_isKindOrUnder_5 (by decide) ?_
  refine zv_icN_ge (tgt := 39) dX7_isKindOrUnder_7 (by decide) (by omega) (by omega) (fun h7 => (absurd h7 (by decide))) (fun h7 => ?_)
  refine zv_iload_n dX7_isKindOrUnder_10 rfl rfl ?_
  refine zv_if_lt (tgt := 39) dX7_isKindOrUnder_11 (by decide) (fun h11 => (absurd h11 (by decide))) (fun h11 => ?_)
  refine zv_iload_n dX7_isKindOrUnder_14 rfl rfl ?_
  refine zv_bipush (v := nI (6)) dX7_isKindOrUnder_15 (by decide) ?_
  refine zv_icN_ge (tgt := 39) dX7_isKindOrUnder_17 (by decide) (by omega) (by omega) (fun h17 => (absurd h17 (by decide))) (fun h17 => ?_)
  refine zv_iload_n dX7_isKindOrUnder_20 rfl rfl ?_
  refine zv_iload_n dX7_isKindOrUnder_21 rfl rfl ?_
  refine zv_icN_ne (tgt := 27) dX7_isKindOrUnder_22 (by decide) (by omega) (by omega) (fun h22 => ?_) (fun h22 => (absurd h22 (by decide)))
  refine zv_gets (b := 2) dX7_isKindOrUnder_27 (Or.inr ⟨rfl, st_320⟩) ?_
  refine zv_iload_n dX7_isKindOrUnder_30 rfl rfl ?_
  refine zv_kald (j := 4) (x := nI (3)) dX7_isKindOrUnder_31 (rfl) (by omega) (rfl) ?_
  refine zv_istore_n (lv' := [.int (nI (5)), .int (nI (3)), .int (nI (3)), .int (nI (1))]) dX7_isKindOrUnder_32 rfl (by decide) rfl ?_
  refine zv_iinc (v := nI (2)) (lv' := [.int (nI (5)), .int (nI (3)), .int (nI (3)), .int (nI (2))]) dX7_isKindOrUnder_33 rfl (by decide) (by decide) rfl ?_
  refine zv_goto (tgt := 4) dX7_isKindOrUnder_36 (by decide) ?_
  refine zv_iload_n dX7_isKindOrUnder_4 rfl rfl ?_
  refine zv_bipush (v := nI (6)) dX7_isKindOrUnder_5 (by decide) ?_
  refine zv_icN_ge (tgt := 39) dX7_isKindOrUnder_7 (by decide) (by omega) (by omega) (fun h7 => (absurd h7 (by decide))) (fun h7 => ?_)
  refine zv_iload_n dX7_isKindOrUnder_10 rfl rfl ?_
  refine zv_if_lt (tgt := 39) dX7_isKindOrUnder_11 (by decide) (fun h11 => (absurd h11 (by decide))) (fun h11 => ?_)
  refine zv_iload_n dX7_isKindOrUnder_14 rfl rfl ?_
  refine zv_bipush (v := nI (6)) dX7_isKindOrUnder_15 (by decide) ?_
  refine zv_icN_ge (tgt := 39) dX7_isKindOrUnder_17 (by decide) (by omega) (by omega) (fun h17 => (absurd h17 (by decide))) (fun h17 => ?_)
  refine zv_iload_n dX7_isKindOrUnder_20 rfl rfl ?_
  refine zv_iload_n dX7_isKindOrUnder_21 rfl rfl ?_
  refine zv_icN_ne (tgt := 27) dX7_isKindOrUnder_22 (by decide) (by omega) (by omega) (fun h22 => (absurd h22 (by decide))) (fun h22 => ?_)
  refine zv_iconst (v := nI (1)) dX7_isKindOrUnder_25 (by decide) ?_
  refine zv_iret dX7_isKindOrUnder_26 rfl rfl ?_
  exact ⟨rfl, rfl, rfl, rfl, rfl⟩
theorem cU_5_4 (d : Nat) {E : zv_E} {sh : zv_S} {I : zv_I} {J : zv_J} {R : zv_R} : zv_V E mX7_isKindOrUnder d 0 0 0 [.int (nI 5), .int (nI 4)] [] sh I J R (cc_p (rm_b (rm_of 5 5 4)) sh I J R) := by
  refine zv_iload_n dX7_isKindOrUnder_0 rfl rfl ?_
  refine zv_istore_n (lv' := [.int (nI (5)), .int (nI (4)), .int (nI (5))]) dX7_isKindOrUnder_1 rfl (by decide) rfl ?_
  refine zv_iconst (v := nI (0)) dX7_isKindOrUnder_2 (by decide) ?_
  refine zv_istore_n (lv' := [.int (nI (5)), .int (nI (4)), .int (nI (5)), .int (nI (0))]) dX7_isKindOrUnder_3 rfl (by decide) rfl ?_
  refine zv_iload_n dX7_isKindOrUnder_4 rfl rfl ?_
  refine zv_bipush (v := nI (6)) dX7_isKindOrUnder_5 (by decide) ?_
  refine zv_icN_ge (tgt := 39) dX7_isKindOrUnder_7 (by decide) (by omega) (by omega) (fun h7 => (absurd h7 (by decide))) (fun h7 => ?_)
  refine zv_iload_n dX7_isKindOrUnder_10 rfl rfl ?_
  refine zv_if_lt (tgt := 39) dX7_isKindOrUnder_11 (by decide) (fun h11 => (absurd h11 (by decide))) (fun h11 => ?_)
  refine zv_iload_n dX7_isKindOrUnder_14 rfl rfl ?_
  refine zv_bipush (v := nI (6)) dX7_isKindOrUnder_15 (by decide) ?_
  refine zv_icN_ge (tgt := 39) dX7_isKindOrUnder_17 (by decide) (by omega) (by omega) (fun h17 => (absurd h17 (by decide))) (fun h17 => ?_)
  refine zv_iload_n dX7_isKindOrUnder_20 rfl rfl ?_
  refine zv_iload_n dX7_isKindOrUnder_21 rfl rfl ?_
  refine zv_icN_ne (tgt := 27) dX7_isKindOrUnder_22 (by decide) (by omega) (by omega) (fun h22 => ?_) (fun h22 => (absurd h22 (by decide)))
  refine zv_gets (b := 2) dX7_isKindOrUnder_27 (Or.inr ⟨rfl, st_320⟩) ?_
  refine zv_iload_n dX7_isKindOrUnder_30 rfl rfl ?_
  refine zv_kald (j := 5) (x := nI (4)) dX7_isKindOrUnder_31 (rfl) (by omega) (rfl) ?_
  refine zv_istore_n (lv' := [.int (nI (5)), .int (nI (4)), .int (nI (4)), .int (nI (0))]) dX7_isKindOrUnder_32 rfl (by decide) rfl ?_
  refine zv_iinc (v := nI (1)) (lv' := [.int (nI (5)), .int (nI (4)), .int (nI (4)), .int (nI (1))]) dX7_isKindOrUnder_33 rfl (by decide) (by decide) rfl ?_
  refine zv_goto (tgt := 4) dX7_isKindOrUnder_36 (by decide) ?_
  refine zv_iload_n dX7_isKindOrUnder_4 rfl rfl ?_
  refine zv_bipush (v := nI (6)) dX7_isKindOrUnder_5 (by decide) ?_
  refine zv_icN_ge (tgt := 39) dX7_isKindOrUnder_7 (by decide) (by omega) (by omega) (fun h7 => (absurd h7 (by decide))) (fun h7 => ?_)
  refine zv_iload_n dX7_isKindOrUnder_10 rfl rfl ?_
  refine zv_if_lt (tgt := 39) dX7_isKindOrUnder_11 (by decide) (fun h11 => (absurd h11 (by decide))) (fun h11 => ?_)
  refine zv_iload_n dX7_isKindOrUnder_14 rfl rfl ?_
  refine zv_bipush (v := nI (6)) dX7_isKindOrUnder_15 (by decide) ?_
  refine zv_icN_ge (tgt := 39) dX7_isKindOrUnder_17 (by decide) (by omega) (by omega) (fun h17 => (absurd h17 (by decide))) (fun h17 => ?_)
  refine zv_iload_n dX7_isKindOrUnder_20 rfl rfl ?_
  refine zv_iload_n dX7_isKindOrUnder_21 rfl rfl ?_
  refine zv_icN_ne (tgt := 27) dX7_isKindOrUnder_22 (by decide) (by omega) (by omega) (fun h22 => (absurd h22 (by decide))) (fun h22 => ?_)
  refine zv_iconst (v := nI (1)) dX7_isKindOrUnder_25 (by decide) ?_
  refine zv_iret dX7_isKindOrUnder_26 rfl rfl ?_
  exact ⟨rfl, rfl, rfl, rfl, rfl⟩
theorem cU_5_5 (d : Nat) {E : zv_E} {sh : zv_S} {I : zv_I} {J : zv_J} {R : zv_R} : zv_V E mX7_isKindOrUnder d 0 0 0 [.int (nI 5), .int (nI 5)] [] sh I J R (cc_p (rm_b (rm_of 5 5 5)) sh I J R) := by
  refine zv_iload_n dX7_isKindOrUnder_0 rfl rfl ?_
  refine zv_istore_n (lv' := [.int (nI (5)), .int (nI (5)), .int (nI (5))]) dX7_isKindOrUnder_1 rfl (by decide) rfl ?_
  refine zv_iconst (v := nI (0)) dX7_isKindOrUnder_2 (by decide) ?_
  refine zv_istore_n (lv' := [.int (nI (5)), .int (nI (5)), .int (nI (5)), .int (nI (0))]) dX7_isKindOrUnder_3 rfl (by decide) rfl ?_
  refine zv_iload_n dX7_isKindOrUnder_4 rfl rfl ?_
  refine zv_bipush (v := nI (6)) dX7_isKindOrUnder_5 (by decide) ?_
  refine zv_icN_ge (tgt := 39) dX7_isKindOrUnder_7 (by decide) (by omega) (by omega) (fun h7 => (absurd h7 (by decide))) (fun h7 => ?_)
  refine zv_iload_n dX7_isKindOrUnder_10 rfl rfl ?_
  refine zv_if_lt (tgt := 39) dX7_isKindOrUnder_11 (by decide) (fun h11 => (absurd h11 (by decide))) (fun h11 => ?_)
  refine zv_iload_n dX7_isKindOrUnder_14 rfl rfl ?_
  refine zv_bipush (v := nI (6)) dX7_isKindOrUnder_15 (by decide) ?_
  refine zv_icN_ge (tgt := 39) dX7_isKindOrUnder_17 (by decide) (by omega) (by omega) (fun h17 => (absurd h17 (by decide))) (fun h17 => ?_)
  refine zv_iload_n dX7_isKindOrUnder_20 rfl rfl ?_
  refine zv_iload_n dX7_isKindOrUnder_21 rfl rfl ?_
  refine zv_icN_ne (tgt := 27) dX7_isKindOrUnder_22 (by decide) (by omega) (by omega) (fun h22 => (absurd h22 (by decide))) (fun h22 => ?_)
  refine zv_iconst (v := nI (1)) dX7_isKindOrUnder_25 (by decide) ?_
  refine zv_iret dX7_isKindOrUnder_26 rfl rfl ?_
  exact ⟨rfl, rfl, rfl, rfl, rfl⟩
theorem cC_isKindOrUnder (d : Nat) {E : zv_E} {sh : zv_S} {I : zv_I} {J : zv_J} {R : zv_R} {k o : Nat} (hk : k < 6) (ho : o < 6) : zv_V E mX7_isKindOrUnder d 0 0 0 [.int (nI k), .int (nI o)] [] sh I J R (cc_p (rm_b (rm_of 5 k o)) sh I J R) := by
  rcases (show k = 0 ∨ k = 1 ∨ k = 2 ∨ k = 3 ∨ k = 4 ∨ k = 5 by omega) with rfl | rfl | rfl | rfl | rfl | rfl <;> rcases (show o = 0 ∨ o = 1 ∨ o = 2 ∨ o = 3 ∨ o = 4 ∨ o = 5 by omega) with rfl | rfl | rfl | rfl | rfl | rfl
  · exact cU_0_0 d
  · exact cU_0_1 d
  · exact cU_0_2 d
  · exact cU_0_3 d
  · exact cU_0_4 d
  · exact cU_0_5 d
  · exact cU_1_0 d
  · exact cU_1_1 d
  · exact cU_1_2 d
  · exact cU_1_3 d
  · exact cU_1_4 d
  · exact cU_1_5 d
  · exact cU_2_0 d
  · exact cU_2_1 d
  · exact cU_2_2 d
  · exact cU_2_3 d
  · exact cU_2_4 d
  · exact cU_2_5 d
  · exact cU_3_0 d
  · exact cU_3_1 d
  · exact cU_3_2 d
  · exact cU_3_3 d
  · exact cU_3_4 d
  · exact cU_3_5 d
  · exact cU_4_0 d
  · exact cU_4_1 d
  · exact cU_4_2 d
  · exact cU_4_3 d
  · exact cU_4_4 d
  · exact cU_4_5 d
  · exact cU_5_0 d
  · exact cU_5_1 d
  · exact cU_5_2 d
  · exact cU_5_3 d
  · exact cU_5_4 d
  · exact cU_5_5 d
theorem cf_k : ∀ k : Fin 201, (0 ≤ (Int32.ofInt ((k.1 : Int) - 100)) ^^^ nI 6 ∨ (Int32.ofInt ((k.1 : Int) - 100)) - (Int32.ofInt ((k.1 : Int) - 100)) / nI 6 * nI 6 = 0 → (Int32.ofInt ((k.1 : Int) - 100)) - (Int32.ofInt ((k.1 : Int) - 100)) / nI 6 * nI 6 = nI (rm_m6 (Int32.ofInt ((k.1 : Int) - 100)))) ∧ (¬ 0 ≤ (Int32.ofInt ((k.1 : Int) - 100)) ^^^ nI 6 → ¬ (Int32.ofInt ((k.1 : Int) - 100)) - (Int32.ofInt ((k.1 : Int) - 100)) / nI 6 * nI 6 = 0 → (Int32.ofInt ((k.1 : Int) - 100)) - (Int32.ofInt ((k.1 : Int) - 100)) / nI 6 * nI 6 + nI 6 = nI (rm_m6 (Int32.ofInt ((k.1 : Int) - 100)))) := by decide +kernel
theorem cf_n {n : Int32} (h : rm_hun n = true) : (0 ≤ n ^^^ nI 6 ∨ n - n / nI 6 * nI 6 = 0 → n - n / nI 6 * nI 6 = nI (rm_m6 n)) ∧ (¬ 0 ≤ n ^^^ nI 6 → ¬ n - n / nI 6 * nI 6 = 0 → n - n / nI 6 * nI 6 + nI 6 = nI (rm_m6 n)) := by
  obtain ⟨k, rfl⟩ := rm_hun_i h
  exact cf_k k
theorem cC_floorMod (d : Nat) {E : zv_E} {sh : zv_S} {I : zv_I} {J : zv_J} {R : zv_R} {n : Int32} (hn : rm_hun n = true) : zv_V E mJ9_floorMod_7cf53 d 0 0 0 [.int n, .int (nI 6)] [] sh I J R (cc_p (nI (rm_m6 n)) sh I J R) := by
  refine zv_iload_n dJ9_floorMod_7cf53_0 rfl rfl ?_
  refine zv_iload_n dJ9_floorMod_7cf53_1 rfl rfl ?_
  refine zv_irem dJ9_floorMod_7cf53_2 (by decide) ?_
  refine zv_istore_n (lv' := [.int (n), .int (nI (6)), .int (((n) - (n) / (nI (6)) * (nI (6))))]) dJ9_floorMod_7cf53_3 rfl (by decide) rfl ?_
  refine zv_iload_n dJ9_floorMod_7cf53_4 rfl rfl ?_
  refine zv_iload_n dJ9_floorMod_7cf53_5 rfl rfl ?_
  refine zv_ixor dJ9_floorMod_7cf53_6 ?_
  refine zv_if_ge (tgt := 18) dJ9_floorMod_7cf53_7 (by decide) (fun h7 => ?_) (fun h7 => ?_)
  · refine zv_iload_n dJ9_floorMod_7cf53_18 rfl rfl ?_
    refine zv_iret dJ9_floorMod_7cf53_19 rfl rfl ?_
    exact ⟨congrArg (fun z => some (Value.int z)) (by exact (cf_n hn).1 (Or.inl h7)), rfl, rfl, rfl, rfl⟩
  · refine zv_iload_n dJ9_floorMod_7cf53_10 rfl rfl ?_
    refine zv_if_eq (tgt := 18) dJ9_floorMod_7cf53_11 (by decide) (fun h11 => ?_) (fun h11 => ?_)
    · refine zv_iload_n dJ9_floorMod_7cf53_18 rfl rfl ?_
      refine zv_iret dJ9_floorMod_7cf53_19 rfl rfl ?_
      exact ⟨congrArg (fun z => some (Value.int z)) (by exact (cf_n hn).1 (Or.inr h11)), rfl, rfl, rfl, rfl⟩
    · refine zv_iload_n dJ9_floorMod_7cf53_14 rfl rfl ?_
      refine zv_iload_n dJ9_floorMod_7cf53_15 rfl rfl ?_
      refine zv_iadd dJ9_floorMod_7cf53_16 ?_
      refine zv_iret dJ9_floorMod_7cf53_17 rfl rfl ?_
      exact ⟨congrArg (fun z => some (Value.int z)) (by exact (cf_n hn).2 h7 h11), rfl, rfl, rfl, rfl⟩
theorem cC_sum_l (d : Nat) {E : zv_E} {sh : zv_S} {I : zv_I} {J : zv_J} {R : zv_R} {t p n : Nat} (ht : sh t = some (0, 8)) (hp : p + n ≤ 8) : ∀ j k, k + j = n → zv_V E mX7_sum d 0 0 5 [.ref t, .int (nI p), .int (nI (p + n)), .int (rm_sum (I t) p k), .int (nI (p + k))] [] sh I J R (cc_p (rm_sum (I t) p n) sh I J R) := by
  intro j
  induction j with
  | zero =>
    intro k hk
    have hk2 : k = n := by omega
    subst hk2
    refine zv_iload dX7_sum_5 rfl ?_
    refine zv_iload_n dX7_sum_7 rfl rfl ?_
    refine zv_icN_ge (tgt := 31) dX7_sum_8 (by decide) (by omega) (by omega) (fun h8 => ?_) (fun h8 => (absurd h8 (by omega)))
    refine zv_iload_n dX7_sum_31 rfl rfl ?_
    refine zv_iret dX7_sum_32 rfl rfl ?_
    exact ⟨rfl, rfl, rfl, rfl, rfl⟩
  | succ j ih =>
    intro k hk
    refine zv_iload dX7_sum_5 rfl ?_
    refine zv_iload_n dX7_sum_7 rfl rfl ?_
    refine zv_icN_ge (tgt := 31) dX7_sum_8 (by decide) (by omega) (by omega) (fun h8 => (absurd h8 (by omega))) (fun h8 => ?_)
    refine zv_iload dX7_sum_11 rfl ?_
    refine zv_aload_n dX7_sum_13 rfl rfl ?_
    refine zv_alen dX7_sum_14 (ht) (by decide) ?_
    refine zv_icN_ge (tgt := 31) dX7_sum_15 (by decide) (by omega) (by omega) (fun h15 => (absurd h15 (by omega))) (fun h15 => ?_)
    refine zv_iload_n dX7_sum_18 rfl rfl ?_
    refine zv_aload_n dX7_sum_19 rfl rfl ?_
    refine zv_iload dX7_sum_20 rfl ?_
    refine zv_iald (j := p + k) (x := (I (t) (p + k))) dX7_sum_22 (ht) (rfl) (show p + k < 8 from by omega) (by decide) (rfl) ?_
    refine zv_iadd dX7_sum_23 ?_
    refine zv_istore_n (lv' := [.ref (t), .int (nI (p)), .int (nI (p + n)), .int ((((rm_sum (I t) p k)) + ((I (t) (p + k))))), .int (nI (p + k))]) dX7_sum_24 rfl (by decide) rfl ?_
    refine zv_iinc (v := nI (p + k + 1)) (lv' := [.ref (t), .int (nI (p)), .int (nI (p + n)), .int ((((rm_sum (I t) p k)) + ((I (t) (p + k))))), .int (nI (p + k + 1))]) dX7_sum_25 rfl (nI_add (p + k) 1) (by decide) rfl ?_
    refine zv_goto (tgt := 5) dX7_sum_28 (by decide) ?_
    exact ih (k + 1) (by omega)
theorem cC_sum (d : Nat) {E : zv_E} {sh : zv_S} {I : zv_I} {J : zv_J} {R : zv_R} {t p n : Nat} (ht : sh t = some (0, 8)) (hp : p + n ≤ 8) : zv_V E mX7_sum d 0 0 0 [.ref t, .int (nI p), .int (nI (p + n))] [] sh I J R (cc_p (rm_sum (I t) p n) sh I J R) := by
  refine zv_iconst (v := nI (0)) dX7_sum_0 (by decide) ?_
  refine zv_istore_n (lv' := [.ref (t), .int (nI (p)), .int (nI (p + n)), .int (nI (0))]) dX7_sum_1 rfl (by decide) rfl ?_
  refine zv_iload_n dX7_sum_2 rfl rfl ?_
  refine zv_istore (lv' := [.ref (t), .int (nI (p)), .int (nI (p + n)), .int (nI (0)), .int (nI (p))]) dX7_sum_3 (by decide) rfl ?_
  exact cC_sum_l d ht hp n 0 (by omega)
def cc_fr (R : zv_R) (k n e : Nat) : Option Nat := rm_fst (fun e => (R (1001 + 8 * k) e).isSome) n e
theorem cC_firstRow_l (d : Nat) {E : zv_E} {sh : zv_S} {I : zv_I} {J : zv_J} {R : zv_R} {k : Nat} (w : cc_WK sh R k) : ∀ n e, e + n = 6 → zv_V E mX1_firstRow d 0 0 2 [.ref (1000 + 8 * k), .int (nI e)] [] sh I J R (cc_r ((cc_fr R k n e).map (fun e => 1002 + 8 * k + e)) sh I J R) := by
  intro n
  induction n with
  | zero =>
    intro e he
    have he2 : e = 6 := by omega
    subst he2
    refine zv_iload_n dX1_firstRow_2 rfl rfl ?_
    refine zv_aload_n dX1_firstRow_3 rfl rfl ?_
    refine zv_getr 1 0 (u := 1001 + 8 * k) dX1_firstRow_4 flX1_11 (wWK_s w) rfl (wWK_r0 w) ?_
    refine zv_alen dX1_firstRow_7 (wWK_s0 w) (by decide) ?_
    refine zv_icN_ge (tgt := 33) dX1_firstRow_8 (by decide) (by omega) (by omega) (fun h8 => ?_) (fun h8 => (absurd h8 (by decide)))
    refine zv_null dX1_firstRow_33 ?_
    refine zv_aretN dX1_firstRow_34 rfl (Or.inr ⟨_, rfl⟩) ?_
    exact ⟨rfl, rfl, rfl, rfl, rfl⟩
  | succ n ih =>
    intro e he
    rcases wWK_g w e (by omega) with g1 | ⟨g1, g2⟩
    · refine zv_iload_n dX1_firstRow_2 rfl rfl ?_
      refine zv_aload_n dX1_firstRow_3 rfl rfl ?_
      refine zv_getr 1 0 (u := 1001 + 8 * k) dX1_firstRow_4 flX1_11 (wWK_s w) rfl (wWK_r0 w) ?_
      refine zv_alen dX1_firstRow_7 (wWK_s0 w) (by decide) ?_
      refine zv_icN_ge (tgt := 33) dX1_firstRow_8 (by decide) (by omega) (by omega) (fun h8 => (absurd h8 (by omega))) (fun h8 => ?_)
      refine zv_aload_n dX1_firstRow_11 rfl rfl ?_
      refine zv_getr 1 0 (u := 1001 + 8 * k) dX1_firstRow_12 flX1_11 (wWK_s w) rfl (wWK_r0 w) ?_
      refine zv_iload_n dX1_firstRow_15 rfl rfl ?_
      refine zv_aald (j := e) (o := none) dX1_firstRow_16 (wWK_s0 w) (by decide) (by decide) (rfl) (show e < 6 from by omega) (by decide) (g1) ?_
      show zv_V _ _ _ _ _ 17 [.ref (1000 + 8 * k), .int (nI (e))] [.null] _ _ _ _ _
      refine zv_ifnullN (tgt := 27) dX1_firstRow_17 (by decide) ?_
      refine zv_iinc (v := nI (e + 1)) (lv' := [.ref (1000 + 8 * k), .int (nI (e + 1))]) dX1_firstRow_27 rfl (nI_add (e) 1) (by decide) rfl ?_
      refine zv_goto (tgt := 2) dX1_firstRow_30 (by decide) ?_
      rw [show cc_fr R k (n + 1) e = cc_fr R k n (e + 1) from rm_fst_f (p := fun e => (R (1001 + 8 * k) e).isSome) (by show (R (1001 + 8 * k) e).isSome = false; rw [g1]; rfl)]
      exact ih (e + 1) (by omega)
    · refine zv_iload_n dX1_firstRow_2 rfl rfl ?_
      refine zv_aload_n dX1_firstRow_3 rfl rfl ?_
      refine zv_getr 1 0 (u := 1001 + 8 * k) dX1_firstRow_4 flX1_11 (wWK_s w) rfl (wWK_r0 w) ?_
      refine zv_alen dX1_firstRow_7 (wWK_s0 w) (by decide) ?_
      refine zv_icN_ge (tgt := 33) dX1_firstRow_8 (by decide) (by omega) (by omega) (fun h8 => (absurd h8 (by omega))) (fun h8 => ?_)
      refine zv_aload_n dX1_firstRow_11 rfl rfl ?_
      refine zv_getr 1 0 (u := 1001 + 8 * k) dX1_firstRow_12 flX1_11 (wWK_s w) rfl (wWK_r0 w) ?_
      refine zv_iload_n dX1_firstRow_15 rfl rfl ?_
      refine zv_aald (j := e) (o := some (1002 + 8 * k + e)) dX1_firstRow_16 (wWK_s0 w) (by decide) (by decide) (rfl) (show e < 6 from by omega) (by decide) (g1) ?_
      show zv_V _ _ _ _ _ 17 [.ref (1000 + 8 * k), .int (nI (e))] [.ref (1002 + 8 * k + e)] _ _ _ _ _
      refine zv_ifnull dX1_firstRow_17 ?_
      refine zv_aload_n dX1_firstRow_20 rfl rfl ?_
      refine zv_getr 1 0 (u := 1001 + 8 * k) dX1_firstRow_21 flX1_11 (wWK_s w) rfl (wWK_r0 w) ?_
      refine zv_iload_n dX1_firstRow_24 rfl rfl ?_
      refine zv_aald (j := e) (o := some (1002 + 8 * k + e)) dX1_firstRow_25 (wWK_s0 w) (by decide) (by decide) (rfl) (show e < 6 from by omega) (by decide) (g1) ?_
      show zv_V _ _ _ _ _ 26 [.ref (1000 + 8 * k), .int (nI (e))] [.ref (1002 + 8 * k + e)] _ _ _ _ _
      refine zv_aret dX1_firstRow_26 rfl (Or.inr ⟨_, rfl⟩) ?_
      rw [show cc_fr R k (n + 1) e = some e from rm_fst_t (p := fun e => (R (1001 + 8 * k) e).isSome) (by show (R (1001 + 8 * k) e).isSome = true; rw [g1]; rfl)]
      exact ⟨rfl, rfl, rfl, rfl, rfl⟩
theorem cC_firstRow (d : Nat) {E : zv_E} {sh : zv_S} {I : zv_I} {J : zv_J} {R : zv_R} {k : Nat} (w : cc_WK sh R k) : zv_V E mX1_firstRow d 0 0 0 [.ref (1000 + 8 * k)] [] sh I J R (cc_r ((cc_fr R k 6 0).map (fun e => 1002 + 8 * k + e)) sh I J R) := by
  refine zv_iconst (v := nI (0)) dX1_firstRow_0 (by decide) ?_
  refine zv_istore_n (lv' := [.ref (1000 + 8 * k), .int (nI (0))]) dX1_firstRow_1 rfl (by decide) rfl ?_
  exact cC_firstRow_l d w 6 0 (by omega)
theorem cC_firstRowOf_0 (d : Nat) {E : zv_E} {sh : zv_S} {I : zv_I} {J : zv_J} {R : zv_R}  : zv_V E mX7_firstRowOf (d + 1) 0 0 0 [.null] [] sh I J R (cc_r (none) sh I J R) := by
  refine zv_aload_nN dX7_firstRowOf_0 rfl rfl ?_
  refine zv_instN dX7_firstRowOf_1 ?_
  refine zv_if_eq (tgt := 19) dX7_firstRowOf_4 (by decide) (fun h4 => ?_) (fun h4 => (absurd rfl h4))
  refine zv_null dX7_firstRowOf_19 ?_
  refine zv_aretN dX7_firstRowOf_20 rfl (Or.inr ⟨_, rfl⟩) ?_
  exact ⟨rfl, rfl, rfl, rfl, rfl⟩
theorem cC_refuseAsClock_0 (d : Nat) {E : zv_E} {sh : zv_S} {I : zv_I} {J : zv_J} {R : zv_R} (w0 : cc_W0 sh R)  : zv_V E mX7_refuseAsClock (d + 1) 0 0 0 [.ref 40, .null] [] sh I J R (cc_p (-1 : Int32) sh (zv_u I 40 9 (nI 10)) J R) := by
  refine zv_aload_n dX7_refuseAsClock_0 rfl rfl ?_
  refine zv_aload_nN dX7_refuseAsClock_1 rfl rfl ?_
  refine zv_instN dX7_refuseAsClock_2 ?_
  refine zv_if_eq (tgt := 13) dX7_refuseAsClock_5 (by decide) (fun h5 => ?_) (fun h5 => (absurd rfl h5))
  refine zv_bipush (v := nI (10)) dX7_refuseAsClock_13 (by decide) ?_
  refine cc_callV (As := [.int (nI (10))]) (st := []) (c := 6) dX7_refuseAsClock_15 cvX7_45 (wW0_s40 w0) rfl rfl rfl (by decide) (cc_c1 rfl cc_c0) (Nat.le_of_ble_eq_true rfl) (cC_refuse (d) w0 (nI (10))) (fun v s1 I1 J1 R1 q => ?_)
  obtain ⟨rfl, rfl, rfl, rfl, rfl⟩ := q
  show zv_V _ _ _ _ _ 18 [.ref 40, .null] [.int ((-1 : Int32))] _ _ _ _ _
  refine zv_iret dX7_refuseAsClock_18 rfl rfl ?_
  exact ⟨rfl, rfl, rfl, rfl, rfl⟩
theorem cC_firstRowOf_l (d : Nat) {E : zv_E} {sh : zv_S} {I : zv_I} {J : zv_J} {R : zv_R} {l : Nat} (wl : cc_WL sh R l) : zv_V E mX7_firstRowOf (d + 1) 0 0 0 [.ref (300 + 3 * l)] [] sh I J R (cc_r (none) sh I J R) := by
  refine zv_aload_n dX7_firstRowOf_0 rfl rfl ?_
  refine zv_instNo (c := 2) dX7_firstRowOf_1 (wWL_s wl) rfl (List.mem_cons_of_mem _ List.mem_cons_self) clX7_125 ?_
  refine zv_if_eq (tgt := 19) dX7_firstRowOf_4 (by decide) (fun h4 => ?_) (fun h4 => (absurd rfl h4))
  refine zv_null dX7_firstRowOf_19 ?_
  refine zv_aretN dX7_firstRowOf_20 rfl (Or.inr ⟨_, rfl⟩) ?_
  exact ⟨rfl, rfl, rfl, rfl, rfl⟩
theorem cC_refuseAsClock_l (d : Nat) {E : zv_E} {sh : zv_S} {I : zv_I} {J : zv_J} {R : zv_R} (w0 : cc_W0 sh R) {l : Nat} (wl : cc_WL sh R l) : zv_V E mX7_refuseAsClock (d + 1) 0 0 0 [.ref 40, .ref (300 + 3 * l)] [] sh I J R (cc_p (-1 : Int32) sh (zv_u I 40 9 (nI 11)) J R) := by
  refine zv_aload_n dX7_refuseAsClock_0 rfl rfl ?_
  refine zv_aload_n dX7_refuseAsClock_1 rfl rfl ?_
  refine zv_instY (c := 2) dX7_refuseAsClock_2 (wWL_s wl) rfl clX7_21 ?_
  refine zv_if_eq (tgt := 13) dX7_refuseAsClock_5 (by decide) (fun h5 => (absurd h5 (by decide))) (fun h5 => ?_)
  refine zv_bipush (v := nI (11)) dX7_refuseAsClock_8 (by decide) ?_
  refine zv_goto (tgt := 15) dX7_refuseAsClock_10 (by decide) ?_
  refine cc_callV (As := [.int (nI (11))]) (st := []) (c := 6) dX7_refuseAsClock_15 cvX7_45 (wW0_s40 w0) rfl rfl rfl (by decide) (cc_c1 rfl cc_c0) (Nat.le_of_ble_eq_true rfl) (cC_refuse (d) w0 (nI (11))) (fun v s1 I1 J1 R1 q => ?_)
  obtain ⟨rfl, rfl, rfl, rfl, rfl⟩ := q
  show zv_V _ _ _ _ _ 18 [.ref 40, .ref (300 + 3 * l)] [.int ((-1 : Int32))] _ _ _ _ _
  refine zv_iret dX7_refuseAsClock_18 rfl rfl ?_
  exact ⟨rfl, rfl, rfl, rfl, rfl⟩
theorem cC_firstRowOf_c (d : Nat) {E : zv_E} {sh : zv_S} {I : zv_I} {J : zv_J} {R : zv_R} {k : Nat} (wk : cc_WK sh R k) : zv_V E mX7_firstRowOf (d + 1) 0 0 0 [.ref (1000 + 8 * k)] [] sh I J R (cc_r ((cc_fr R k 6 0).map (fun e => 1002 + 8 * k + e)) sh I J R) := by
  refine zv_aload_n dX7_firstRowOf_0 rfl rfl ?_
  refine zv_instY (c := 1) dX7_firstRowOf_1 (wWK_s wk) rfl clX7_125 ?_
  refine zv_if_eq (tgt := 19) dX7_firstRowOf_4 (by decide) (fun h4 => (absurd h4 (by decide))) (fun h4 => ?_)
  refine zv_aload_n dX7_firstRowOf_7 rfl rfl ?_
  refine zv_cast (c := 1) dX7_firstRowOf_8 (wWK_s wk) rfl clX7_125 ?_
  refine zv_astore_n (lv' := [.ref (1000 + 8 * k), .ref (1000 + 8 * k)]) dX7_firstRowOf_11 rfl (by decide) rfl ?_
  refine zv_aload_n dX7_firstRowOf_12 rfl rfl ?_
  refine cc_callV (As := []) (st := []) (c := 1) dX7_firstRowOf_13 cvX7_348 (wWK_s wk) rfl rfl rfl (by decide) (cc_c0) (Nat.le_of_ble_eq_true rfl) (cC_firstRow d wk) (fun v s1 I1 J1 R1 q => ?_)
  obtain ⟨rfl, rfl, rfl, rfl, rfl⟩ := q
  show zv_V _ _ _ _ _ 16 [.ref (1000 + 8 * k), .ref (1000 + 8 * k)] [va_rf ((cc_fr R k 6 0).map (fun e => 1002 + 8 * k + e))] _ _ _ _ _
  cases hx : (cc_fr R k 6 0).map (fun e => 1002 + 8 * k + e) with
  | none =>
    refine zv_goto (tgt := 20) dX7_firstRowOf_16 (by decide) ?_
    refine zv_aretN dX7_firstRowOf_20 rfl (Or.inr ⟨_, rfl⟩) ?_
    exact ⟨rfl, rfl, rfl, rfl, rfl⟩
  | some u =>
    refine zv_goto (tgt := 20) dX7_firstRowOf_16 (by decide) ?_
    refine zv_aret dX7_firstRowOf_20 rfl (Or.inr ⟨_, rfl⟩) ?_
    exact ⟨rfl, rfl, rfl, rfl, rfl⟩
theorem cC_refuseAsClock_c (d : Nat) {E : zv_E} {sh : zv_S} {I : zv_I} {J : zv_J} {R : zv_R} (w0 : cc_W0 sh R) {k : Nat} (wk : cc_WK sh R k) : zv_V E mX7_refuseAsClock (d + 1) 0 0 0 [.ref 40, .ref (1000 + 8 * k)] [] sh I J R (cc_p (-1 : Int32) sh (zv_u I 40 9 (nI 10)) J R) := by
  refine zv_aload_n dX7_refuseAsClock_0 rfl rfl ?_
  refine zv_aload_n dX7_refuseAsClock_1 rfl rfl ?_
  refine zv_instNo (c := 1) dX7_refuseAsClock_2 (wWK_s wk) rfl (List.mem_cons_self) clX7_21 ?_
  refine zv_if_eq (tgt := 13) dX7_refuseAsClock_5 (by decide) (fun h5 => ?_) (fun h5 => (absurd rfl h5))
  refine zv_bipush (v := nI (10)) dX7_refuseAsClock_13 (by decide) ?_
  refine cc_callV (As := [.int (nI (10))]) (st := []) (c := 6) dX7_refuseAsClock_15 cvX7_45 (wW0_s40 w0) rfl rfl rfl (by decide) (cc_c1 rfl cc_c0) (Nat.le_of_ble_eq_true rfl) (cC_refuse (d) w0 (nI (10))) (fun v s1 I1 J1 R1 q => ?_)
  obtain ⟨rfl, rfl, rfl, rfl, rfl⟩ := q
  show zv_V _ _ _ _ _ 18 [.ref 40, .ref (1000 + 8 * k)] [.int ((-1 : Int32))] _ _ _ _ _
  refine zv_iret dX7_refuseAsClock_18 rfl rfl ?_
  exact ⟨rfl, rfl, rfl, rfl, rfl⟩
