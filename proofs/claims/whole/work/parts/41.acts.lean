theorem cK_0_0 (d : Nat) {E : zv_E} {sh : zv_S} {I : zv_I} {J : zv_J} {R : zv_R} : zv_V E mX7_kindWithBody d 0 0 0 [.int (nI 0), .int (nI 0)] [] sh I J R (cc_p (nI 0) sh I J R) := by
  refine zv_iload_n dX7_kindWithBody_0 rfl rfl ?_
  refine zv_istore_n (lv' := [.int (nI (0)), .int (nI (0)), .int (nI (0))]) dX7_kindWithBody_1 rfl (by decide) rfl ?_
  refine zv_iconst (v := nI (0)) dX7_kindWithBody_2 (by decide) ?_
  refine zv_istore_n (lv' := [.int (nI (0)), .int (nI (0)), .int (nI (0)), .int (nI (0))]) dX7_kindWithBody_3 rfl (by decide) rfl ?_
  refine zv_iload_n dX7_kindWithBody_4 rfl rfl ?_
  refine zv_bipush (v := nI (6)) dX7_kindWithBody_5 (by decide) ?_
  refine zv_icN_ge (tgt := 46) dX7_kindWithBody_7 (by decide) (by omega) (by omega) (fun h7 => (absurd h7 (by decide))) (fun h7 => ?_)
  refine zv_iload_n dX7_kindWithBody_10 rfl rfl ?_
  refine zv_if_lt (tgt := 46) dX7_kindWithBody_11 (by decide) (fun h11 => (absurd h11 (by decide))) (fun h11 => ?_)
  refine zv_iload_n dX7_kindWithBody_14 rfl rfl ?_
  refine zv_bipush (v := nI (6)) dX7_kindWithBody_15 (by decide) ?_
  refine zv_icN_ge (tgt := 46) dX7_kindWithBody_17 (by decide) (by omega) (by omega) (fun h17 => (absurd h17 (by decide))) (fun h17 => ?_)
  refine zv_gets (b := 1) dX7_kindWithBody_20 (Or.inl ⟨rfl, st_323⟩) ?_
  refine zv_iload_n dX7_kindWithBody_23 rfl rfl ?_
  refine zv_iconst (v := nI (4)) dX7_kindWithBody_24 (by decide) ?_
  refine zv_imul dX7_kindWithBody_25 ?_
  refine cc_top (y := nI (0)) (by decide) ?_
  refine zv_iload_n dX7_kindWithBody_26 rfl rfl ?_
  refine zv_iadd dX7_kindWithBody_27 ?_
  refine cc_top (y := nI (0)) (by decide) ?_
  refine zv_bald (j := 0) (x := nI (10)) dX7_kindWithBody_28 (rfl) (by omega) (rfl) ?_
  refine zv_if_eq (tgt := 34) dX7_kindWithBody_29 (by decide) (fun h29 => (absurd h29 (by decide))) (fun h29 => ?_)
  refine zv_iload_n dX7_kindWithBody_32 rfl rfl ?_
  refine zv_iret dX7_kindWithBody_33 rfl rfl ?_
  exact ⟨rfl, rfl, rfl, rfl, rfl⟩
theorem cK_0_1 (d : Nat) {E : zv_E} {sh : zv_S} {I : zv_I} {J : zv_J} {R : zv_R} : zv_V E mX7_kindWithBody d 0 0 0 [.int (nI 0), .int (nI 1)] [] sh I J R (cc_p (nI 0) sh I J R) := by
  refine zv_iload_n dX7_kindWithBody_0 rfl rfl ?_
  refine zv_istore_n (lv' := [.int (nI (0)), .int (nI (1)), .int (nI (0))]) dX7_kindWithBody_1 rfl (by decide) rfl ?_
  refine zv_iconst (v := nI (0)) dX7_kindWithBody_2 (by decide) ?_
  refine zv_istore_n (lv' := [.int (nI (0)), .int (nI (1)), .int (nI (0)), .int (nI (0))]) dX7_kindWithBody_3 rfl (by decide) rfl ?_
  refine zv_iload_n dX7_kindWithBody_4 rfl rfl ?_
  refine zv_bipush (v := nI (6)) dX7_kindWithBody_5 (by decide) ?_
  refine zv_icN_ge (tgt := 46) dX7_kindWithBody_7 (by decide) (by omega) (by omega) (fun h7 => (absurd h7 (by decide))) (fun h7 => ?_)
  refine zv_iload_n dX7_kindWithBody_10 rfl rfl ?_
  refine zv_if_lt (tgt := 46) dX7_kindWithBody_11 (by decide) (fun h11 => (absurd h11 (by decide))) (fun h11 => ?_)
  refine zv_iload_n dX7_kindWithBody_14 rfl rfl ?_
  refine zv_bipush (v := nI (6)) dX7_kindWithBody_15 (by decide) ?_
  refine zv_icN_ge (tgt := 46) dX7_kindWithBody_17 (by decide) (by omega) (by omega) (fun h17 => (absurd h17 (by decide))) (fun h17 => ?_)
  refine zv_gets (b := 1) dX7_kindWithBody_20 (Or.inl ⟨rfl, st_323⟩) ?_
  refine zv_iload_n dX7_kindWithBody_23 rfl rfl ?_
  refine zv_iconst (v := nI (4)) dX7_kindWithBody_24 (by decide) ?_
  refine zv_imul dX7_kindWithBody_25 ?_
  refine cc_top (y := nI (0)) (by decide) ?_
  refine zv_iload_n dX7_kindWithBody_26 rfl rfl ?_
  refine zv_iadd dX7_kindWithBody_27 ?_
  refine cc_top (y := nI (1)) (by decide) ?_
  refine zv_bald (j := 1) (x := nI (11)) dX7_kindWithBody_28 (rfl) (by omega) (rfl) ?_
  refine zv_if_eq (tgt := 34) dX7_kindWithBody_29 (by decide) (fun h29 => (absurd h29 (by decide))) (fun h29 => ?_)
  refine zv_iload_n dX7_kindWithBody_32 rfl rfl ?_
  refine zv_iret dX7_kindWithBody_33 rfl rfl ?_
  exact ⟨rfl, rfl, rfl, rfl, rfl⟩
theorem cK_0_2 (d : Nat) {E : zv_E} {sh : zv_S} {I : zv_I} {J : zv_J} {R : zv_R} : zv_V E mX7_kindWithBody d 0 0 0 [.int (nI 0), .int (nI 2)] [] sh I J R (cc_p (nI 0) sh I J R) := by
  refine zv_iload_n dX7_kindWithBody_0 rfl rfl ?_
  refine zv_istore_n (lv' := [.int (nI (0)), .int (nI (2)), .int (nI (0))]) dX7_kindWithBody_1 rfl (by decide) rfl ?_
  refine zv_iconst (v := nI (0)) dX7_kindWithBody_2 (by decide) ?_
  refine zv_istore_n (lv' := [.int (nI (0)), .int (nI (2)), .int (nI (0)), .int (nI (0))]) dX7_kindWithBody_3 rfl (by decide) rfl ?_
  refine zv_iload_n dX7_kindWithBody_4 rfl rfl ?_
  refine zv_bipush (v := nI (6)) dX7_kindWithBody_5 (by decide) ?_
  refine zv_icN_ge (tgt := 46) dX7_kindWithBody_7 (by decide) (by omega) (by omega) (fun h7 => (absurd h7 (by decide))) (fun h7 => ?_)
  refine zv_iload_n dX7_kindWithBody_10 rfl rfl ?_
  refine zv_if_lt (tgt := 46) dX7_kindWithBody_11 (by decide) (fun h11 => (absurd h11 (by decide))) (fun h11 => ?_)
  refine zv_iload_n dX7_kindWithBody_14 rfl rfl ?_
  refine zv_bipush (v := nI (6)) dX7_kindWithBody_15 (by decide) ?_
  refine zv_icN_ge (tgt := 46) dX7_kindWithBody_17 (by decide) (by omega) (by omega) (fun h17 => (absurd h17 (by decide))) (fun h17 => ?_)
  refine zv_gets (b := 1) dX7_kindWithBody_20 (Or.inl ⟨rfl, st_323⟩) ?_
  refine zv_iload_n dX7_kindWithBody_23 rfl rfl ?_
  refine zv_iconst (v := nI (4)) dX7_kindWithBody_24 (by decide) ?_
  refine zv_imul dX7_kindWithBody_25 ?_
  refine cc_top (y := nI (0)) (by decide) ?_
  refine zv_iload_n dX7_kindWithBody_26 rfl rfl ?_
  refine zv_iadd dX7_kindWithBody_27 ?_
  refine cc_top (y := nI (2)) (by decide) ?_
  refine zv_bald (j := 2) (x := nI (12)) dX7_kindWithBody_28 (rfl) (by omega) (rfl) ?_
  refine zv_if_eq (tgt := 34) dX7_kindWithBody_29 (by decide) (fun h29 => (absurd h29 (by decide))) (fun h29 => ?_)
  refine zv_iload_n dX7_kindWithBody_32 rfl rfl ?_
  refine zv_iret dX7_kindWithBody_33 rfl rfl ?_
  exact ⟨rfl, rfl, rfl, rfl, rfl⟩
theorem cK_0_3 (d : Nat) {E : zv_E} {sh : zv_S} {I : zv_I} {J : zv_J} {R : zv_R} : zv_V E mX7_kindWithBody d 0 0 0 [.int (nI 0), .int (nI 3)] [] sh I J R (cc_p (nI 0) sh I J R) := by
  refine zv_iload_n dX7_kindWithBody_0 rfl rfl ?_
  refine zv_istore_n (lv' := [.int (nI (0)), .int (nI (3)), .int (nI (0))]) dX7_kindWithBody_1 rfl (by decide) rfl ?_
  refine zv_iconst (v := nI (0)) dX7_kindWithBody_2 (by decide) ?_
  refine zv_istore_n (lv' := [.int (nI (0)), .int (nI (3)), .int (nI (0)), .int (nI (0))]) dX7_kindWithBody_3 rfl (by decide) rfl ?_
  refine zv_iload_n dX7_kindWithBody_4 rfl rfl ?_
  refine zv_bipush (v := nI (6)) dX7_kindWithBody_5 (by decide) ?_
  refine zv_icN_ge (tgt := 46) dX7_kindWithBody_7 (by decide) (by omega) (by omega) (fun h7 => (absurd h7 (by decide))) (fun h7 => ?_)
  refine zv_iload_n dX7_kindWithBody_10 rfl rfl ?_
  refine zv_if_lt (tgt := 46) dX7_kindWithBody_11 (by decide) (fun h11 => (absurd h11 (by decide))) (fun h11 => ?_)
  refine zv_iload_n dX7_kindWithBody_14 rfl rfl ?_
  refine zv_bipush (v := nI (6)) dX7_kindWithBody_15 (by decide) ?_
  refine zv_icN_ge (tgt := 46) dX7_kindWithBody_17 (by decide) (by omega) (by omega) (fun h17 => (absurd h17 (by decide))) (fun h17 => ?_)
  refine zv_gets (b := 1) dX7_kindWithBody_20 (Or.inl ⟨rfl, st_323⟩) ?_
  refine zv_iload_n dX7_kindWithBody_23 rfl rfl ?_
  refine zv_iconst (v := nI (4)) dX7_kindWithBody_24 (by decide) ?_
  refine zv_imul dX7_kindWithBody_25 ?_
  refine cc_top (y := nI (0)) (by decide) ?_
  refine zv_iload_n dX7_kindWithBody_26 rfl rfl ?_
  refine zv_iadd dX7_kindWithBody_27 ?_
  refine cc_top (y := nI (3)) (by decide) ?_
  refine zv_bald (j := 3) (x := nI (13)) dX7_kindWithBody_28 (rfl) (by omega) (rfl) ?_
  refine zv_if_eq (tgt := 34) dX7_kindWithBody_29 (by decide) (fun h29 => (absurd h29 (by decide))) (fun h29 => ?_)
  refine zv_iload_n dX7_kindWithBody_32 rfl rfl ?_
  refine zv_iret dX7_kindWithBody_33 rfl rfl ?_
  exact ⟨rfl, rfl, rfl, rfl, rfl⟩
theorem cK_1_0 (d : Nat) {E : zv_E} {sh : zv_S} {I : zv_I} {J : zv_J} {R : zv_R} : zv_V E mX7_kindWithBody d 0 0 0 [.int (nI 1), .int (nI 0)] [] sh I J R (cc_p (nI 1) sh I J R) := by
  refine zv_iload_n dX7_kindWithBody_0 rfl rfl ?_
  refine zv_istore_n (lv' := [.int (nI (1)), .int (nI (0)), .int (nI (1))]) dX7_kindWithBody_1 rfl (by decide) rfl ?_
  refine zv_iconst (v := nI (0)) dX7_kindWithBody_2 (by decide) ?_
  refine zv_istore_n (lv' := [.int (nI (1)), .int (nI (0)), .int (nI (1)), .int (nI (0))]) dX7_kindWithBody_3 rfl (by decide) rfl ?_
  refine zv_iload_n dX7_kindWithBody_4 rfl rfl ?_
  refine zv_bipush (v := nI (6)) dX7_kindWithBody_5 (by decide) ?_
  refine zv_icN_ge (tgt := 46) dX7_kindWithBody_7 (by decide) (by omega) (by omega) (fun h7 => (absurd h7 (by decide))) (fun h7 => ?_)
  refine zv_iload_n dX7_kindWithBody_10 rfl rfl ?_
  refine zv_if_lt (tgt := 46) dX7_kindWithBody_11 (by decide) (fun h11 => (absurd h11 (by decide))) (fun h11 => ?_)
  refine zv_iload_n dX7_kindWithBody_14 rfl rfl ?_
  refine zv_bipush (v := nI (6)) dX7_kindWithBody_15 (by decide) ?_
  refine zv_icN_ge (tgt := 46) dX7_kindWithBody_17 (by decide) (by omega) (by omega) (fun h17 => (absurd h17 (by decide))) (fun h17 => ?_)
  refine zv_gets (b := 1) dX7_kindWithBody_20 (Or.inl ⟨rfl, st_323⟩) ?_
  refine zv_iload_n dX7_kindWithBody_23 rfl rfl ?_
  refine zv_iconst (v := nI (4)) dX7_kindWithBody_24 (by decide) ?_
  refine zv_imul dX7_kindWithBody_25 ?_
  refine cc_top (y := nI (4)) (by decide) ?_
  refine zv_iload_n dX7_kindWithBody_26 rfl rfl ?_
  refine zv_iadd dX7_kindWithBody_27 ?_
  refine cc_top (y := nI (4)) (by decide) ?_
  refine zv_bald (j := 4) (x := nI (20)) dX7_kindWithBody_28 (rfl) (by omega) (rfl) ?_
  refine zv_if_eq (tgt := 34) dX7_kindWithBody_29 (by decide) (fun h29 => (absurd h29 (by decide))) (fun h29 => ?_)
  refine zv_iload_n dX7_kindWithBody_32 rfl rfl ?_
  refine zv_iret dX7_kindWithBody_33 rfl rfl ?_
  exact ⟨rfl, rfl, rfl, rfl, rfl⟩
theorem cK_1_1 (d : Nat) {E : zv_E} {sh : zv_S} {I : zv_I} {J : zv_J} {R : zv_R} : zv_V E mX7_kindWithBody d 0 0 0 [.int (nI 1), .int (nI 1)] [] sh I J R (cc_p (nI 0) sh I J R) := by
  refine zv_iload_n dX7_kindWithBody_0 rfl rfl ?_
  refine zv_istore_n (lv' := [.int (nI (1)), .int (nI (1)), .int (nI (1))]) dX7_kindWithBody_1 rfl (by decide) rfl ?_
  refine zv_iconst (v := nI (0)) dX7_kindWithBody_2 (by decide) ?_
  refine zv_istore_n (lv' := [.int (nI (1)), .int (nI (1)), .int (nI (1)), .int (nI (0))]) dX7_kindWithBody_3 rfl (by decide) rfl ?_
  refine zv_iload_n dX7_kindWithBody_4 rfl rfl ?_
  refine zv_bipush (v := nI (6)) dX7_kindWithBody_5 (by decide) ?_
  refine zv_icN_ge (tgt := 46) dX7_kindWithBody_7 (by decide) (by omega) (by omega) (fun h7 => (absurd h7 (by decide))) (fun h7 => ?_)
  refine zv_iload_n dX7_kindWithBody_10 rfl rfl ?_
  refine zv_if_lt (tgt := 46) dX7_kindWithBody_11 (by decide) (fun h11 => (absurd h11 (by decide))) (fun h11 => ?_)
  refine zv_iload_n dX7_kindWithBody_14 rfl rfl ?_
  refine zv_bipush (v := nI (6)) dX7_kindWithBody_15 (by decide) ?_
  refine zv_icN_ge (tgt := 46) dX7_kindWithBody_17 (by decide) (by omega) (by omega) (fun h17 => (absurd h17 (by decide))) (fun h17 => ?_)
  refine zv_gets (b := 1) dX7_kindWithBody_20 (Or.inl ⟨rfl, st_323⟩) ?_
  refine zv_iload_n dX7_kindWithBody_23 rfl rfl ?_
  refine zv_iconst (v := nI (4)) dX7_kindWithBody_24 (by decide) ?_
  refine zv_imul dX7_kindWithBody_25 ?_
  refine cc_top (y := nI (4)) (by decide) ?_
  refine zv_iload_n dX7_kindWithBody_26 rfl rfl ?_
  refine zv_iadd dX7_kindWithBody_27 ?_
  refine cc_top (y := nI (5)) (by decide) ?_
  refine zv_bald (j := 5) (x := nI (0)) dX7_kindWithBody_28 (rfl) (by omega) (rfl) ?_
  refine zv_if_eq (tgt := 34) dX7_kindWithBody_29 (by decide) (fun h29 => ?_) (fun h29 => (absurd (by decide) h29))
  refine zv_gets (b := 2) dX7_kindWithBody_34 (Or.inr ⟨rfl, st_320⟩) ?_
  refine zv_iload_n dX7_kindWithBody_37 rfl rfl ?_
  refine zv_kald (j := 1) (x := nI (0)) dX7_kindWithBody_38 (rfl) (by omega) (rfl) ?_
  refine zv_istore_n (lv' := [.int (nI (1)), .int (nI (1)), .int (nI (0)), .int (nI (0))]) dX7_kindWithBody_39 rfl (by decide) rfl ?_
  refine zv_iinc (v := nI (1)) (lv' := [.int (nI (1)), .int (nI (1)), .int (nI (0)), .int (nI (1))]) dX7_kindWithBody_40 rfl (by decide) (by decide) rfl ?_
  refine zv_goto (tgt := 4) dX7_kindWithBody_43 (by decide) ?_
  refine zv_iload_n dX7_kindWithBody_4 rfl rfl ?_
  refine zv_bipush (v := nI (6)) dX7_kindWithBody_5 (by decide) ?_
  refine zv_icN_ge (tgt := 46) dX7_kindWithBody_7 (by decide) (by omega) (by omega) (fun h7 => (absurd h7 (by decide))) (fun h7 => ?_)
  refine zv_iload_n dX7_kindWithBody_10 rfl rfl ?_
  refine zv_if_lt (tgt := 46) dX7_kindWithBody_11 (by decide) (fun h11 => (absurd h11 (by decide))) (fun h11 => ?_)
  refine zv_iload_n dX7_kindWithBody_14 rfl rfl ?_
  refine zv_bipush (v := nI (6)) dX7_kindWithBody_15 (by decide) ?_
  refine zv_icN_ge (tgt := 46) dX7_kindWithBody_17 (by decide) (by omega) (by omega) (fun h17 => (absurd h17 (by decide))) (fun h17 => ?_)
  refine zv_gets (b := 1) dX7_kindWithBody_20 (Or.inl ⟨rfl, st_323⟩) ?_
  refine zv_iload_n dX7_kindWithBody_23 rfl rfl ?_
  refine zv_iconst (v := nI (4)) dX7_kindWithBody_24 (by decide) ?_
  refine zv_imul dX7_kindWithBody_25 ?_
  refine cc_top (y := nI (0)) (by decide) ?_
  refine zv_iload_n dX7_kindWithBody_26 rfl rfl ?_
  refine zv_iadd dX7_kindWithBody_27 ?_
  refine cc_top (y := nI (1)) (by decide) ?_
  refine zv_bald (j := 1) (x := nI (11)) dX7_kindWithBody_28 (rfl) (by omega) (rfl) ?_
  refine zv_if_eq (tgt := 34) dX7_kindWithBody_29 (by decide) (fun h29 => (absurd h29 (by decide))) (fun h29 => ?_)
  refine zv_iload_n dX7_kindWithBody_32 rfl rfl ?_
  refine zv_iret dX7_kindWithBody_33 rfl rfl ?_
  exact ⟨rfl, rfl, rfl, rfl, rfl⟩
theorem cK_1_2 (d : Nat) {E : zv_E} {sh : zv_S} {I : zv_I} {J : zv_J} {R : zv_R} : zv_V E mX7_kindWithBody d 0 0 0 [.int (nI 1), .int (nI 2)] [] sh I J R (cc_p (nI 0) sh I J R) := by
  refine zv_iload_n dX7_kindWithBody_0 rfl rfl ?_
  refine zv_istore_n (lv' := [.int (nI (1)), .int (nI (2)), .int (nI (1))]) dX7_kindWithBody_1 rfl (by decide) rfl ?_
  refine zv_iconst (v := nI (0)) dX7_kindWithBody_2 (by decide) ?_
  refine zv_istore_n (lv' := [.int (nI (1)), .int (nI (2)), .int (nI (1)), .int (nI (0))]) dX7_kindWithBody_3 rfl (by decide) rfl ?_
  refine zv_iload_n dX7_kindWithBody_4 rfl rfl ?_
  refine zv_bipush (v := nI (6)) dX7_kindWithBody_5 (by decide) ?_
  refine zv_icN_ge (tgt := 46) dX7_kindWithBody_7 (by decide) (by omega) (by omega) (fun h7 => (absurd h7 (by decide))) (fun h7 => ?_)
  refine zv_iload_n dX7_kindWithBody_10 rfl rfl ?_
  refine zv_if_lt (tgt := 46) dX7_kindWithBody_11 (by decide) (fun h11 => (absurd h11 (by decide))) (fun h11 => ?_)
  refine zv_iload_n dX7_kindWithBody_14 rfl rfl ?_
  refine zv_bipush (v := nI (6)) dX7_kindWithBody_15 (by decide) ?_
  refine zv_icN_ge (tgt := 46) dX7_kindWithBody_17 (by decide) (by omega) (by omega) (fun h17 => (absurd h17 (by decide))) (fun h17 => ?_)
  refine zv_gets (b := 1) dX7_kindWithBody_20 (Or.inl ⟨rfl, st_323⟩) ?_
  refine zv_iload_n dX7_kindWithBody_23 rfl rfl ?_
  refine zv_iconst (v := nI (4)) dX7_kindWithBody_24 (by decide) ?_
  refine zv_imul dX7_kindWithBody_25 ?_
  refine cc_top (y := nI (4)) (by decide) ?_
  refine zv_iload_n dX7_kindWithBody_26 rfl rfl ?_
  refine zv_iadd dX7_kindWithBody_27 ?_
  refine cc_top (y := nI (6)) (by decide) ?_
  refine zv_bald (j := 6) (x := nI (0)) dX7_kindWithBody_28 (rfl) (by omega) (rfl) ?_
  refine zv_if_eq (tgt := 34) dX7_kindWithBody_29 (by decide) (fun h29 => ?_) (fun h29 => (absurd (by decide) h29))
  refine zv_gets (b := 2) dX7_kindWithBody_34 (Or.inr ⟨rfl, st_320⟩) ?_
  refine zv_iload_n dX7_kindWithBody_37 rfl rfl ?_
  refine zv_kald (j := 1) (x := nI (0)) dX7_kindWithBody_38 (rfl) (by omega) (rfl) ?_
  refine zv_istore_n (lv' := [.int (nI (1)), .int (nI (2)), .int (nI (0)), .int (nI (0))]) dX7_kindWithBody_39 rfl (by decide) rfl ?_
  refine zv_iinc (v := nI (1)) (lv' := [.int (nI (1)), .int (nI (2)), .int (nI (0)), .int (nI (1))]) dX7_kindWithBody_40 rfl (by decide) (by decide) rfl ?_
  refine zv_goto (tgt := 4) dX7_kindWithBody_43 (by decide) ?_
  refine zv_iload_n dX7_kindWithBody_4 rfl rfl ?_
  refine zv_bipush (v := nI (6)) dX7_kindWithBody_5 (by decide) ?_
  refine zv_icN_ge (tgt := 46) dX7_kindWithBody_7 (by decide) (by omega) (by omega) (fun h7 => (absurd h7 (by decide))) (fun h7 => ?_)
  refine zv_iload_n dX7_kindWithBody_10 rfl rfl ?_
  refine zv_if_lt (tgt := 46) dX7_kindWithBody_11 (by decide) (fun h11 => (absurd h11 (by decide))) (fun h11 => ?_)
  refine zv_iload_n dX7_kindWithBody_14 rfl rfl ?_
  refine zv_bipush (v := nI (6)) dX7_kindWithBody_15 (by decide) ?_
  refine zv_icN_ge (tgt := 46) dX7_kindWithBody_17 (by decide) (by omega) (by omega) (fun h17 => (absurd h17 (by decide))) (fun h17 => ?_)
  refine zv_gets (b := 1) dX7_kindWithBody_20 (Or.inl ⟨rfl, st_323⟩) ?_
  refine zv_iload_n dX7_kindWithBody_23 rfl rfl ?_
  refine zv_iconst (v := nI (4)) dX7_kindWithBody_24 (by decide) ?_
  refine zv_imul dX7_kindWithBody_25 ?_
  refine cc_top (y := nI (0)) (by decide) ?_
  refine zv_iload_n dX7_kindWithBody_26 rfl rfl ?_
  refine zv_iadd dX7_kindWithBody_27 ?_
  refine cc_top (y := nI (2)) (by decide) ?_
  refine zv_bald (j := 2) (x := nI (12)) dX7_kindWithBody_28 (rfl) (by omega) (rfl) ?_
  refine zv_if_eq (tgt := 34) dX7_kindWithBody_29 (by decide) (fun h29 => (absurd h29 (by decide))) (fun h29 => ?_)
  refine zv_iload_n dX7_kindWithBody_32 rfl rfl ?_
  refine zv_iret dX7_kindWithBody_33 rfl rfl ?_
  exact ⟨rfl, rfl, rfl, rfl, rfl⟩
theorem cK_1_3 (d : Nat) {E : zv_E} {sh : zv_S} {I : zv_I} {J : zv_J} {R : zv_R} : zv_V E mX7_kindWithBody d 0 0 0 [.int (nI 1), .int (nI 3)] [] sh I J R (cc_p (nI 1) sh I J R) := by
  refine zv_iload_n dX7_kindWithBody_0 rfl rfl ?_
  refine zv_istore_n (lv' := [.int (nI (1)), .int (nI (3)), .int (nI (1))]) dX7_kindWithBody_1 rfl (by decide) rfl ?_
  refine zv_iconst (v := nI (0)) dX7_kindWithBody_2 (by decide) ?_
  refine zv_istore_n (lv' := [.int (nI (1)), .int (nI (3)), .int (nI (1)), .int (nI (0))]) dX7_kindWithBody_3 rfl (by decide) rfl ?_
  refine zv_iload_n dX7_kindWithBody_4 rfl rfl ?_
  refine zv_bipush (v := nI (6)) dX7_kindWithBody_5 (by decide) ?_
  refine zv_icN_ge (tgt := 46) dX7_kindWithBody_7 (by decide) (by omega) (by omega) (fun h7 => (absurd h7 (by decide))) (fun h7 => ?_)
  refine zv_iload_n dX7_kindWithBody_10 rfl rfl ?_
  refine zv_if_lt (tgt := 46) dX7_kindWithBody_11 (by decide) (fun h11 => (absurd h11 (by decide))) (fun h11 => ?_)
  refine zv_iload_n dX7_kindWithBody_14 rfl rfl ?_
  refine zv_bipush (v := nI (6)) dX7_kindWithBody_15 (by decide) ?_
  refine zv_icN_ge (tgt := 46) dX7_kindWithBody_17 (by decide) (by omega) (by omega) (fun h17 => (absurd h17 (by decide))) (fun h17 => ?_)
  refine zv_gets (b := 1) dX7_kindWithBody_20 (Or.inl ⟨rfl, st_323⟩) ?_
  refine zv_iload_n dX7_kindWithBody_23 rfl rfl ?_
  refine zv_iconst (v := nI (4)) dX7_kindWithBody_24 (by decide) ?_
  refine zv_imul dX7_kindWithBody_25 ?_
  refine cc_top (y := nI (4)) (by decide) ?_
  refine zv_iload_n dX7_kindWithBody_26 rfl rfl ?_
  refine zv_iadd dX7_kindWithBody_27 ?_
  refine cc_top (y := nI (7)) (by decide) ?_
  refine zv_bald (j := 7) (x := nI (21)) dX7_kindWithBody_28 (rfl) (by omega) (rfl) ?_
  refine zv_if_eq (tgt := 34) dX7_kindWithBody_29 (by decide) (fun h29 => (absurd h29 (by decide))) (fun h29 => ?_)
  refine zv_iload_n dX7_kindWithBody_32 rfl rfl ?_
  refine zv_iret dX7_kindWithBody_33 rfl rfl ?_
  exact ⟨rfl, rfl, rfl, rfl, rfl⟩
theorem cK_2_0 (d : Nat) {E : zv_E} {sh : zv_S} {I : zv_I} {J : zv_J} {R : zv_R} : zv_V E mX7_kindWithBody d 0 0 0 [.int (nI 2), .int (nI 0)] [] sh I J R (cc_p (nI 1) sh I J R) := by
  refine zv_iload_n dX7_kindWithBody_0 rfl rfl ?_
  refine zv_istore_n (lv' := [.int (nI (2)), .int (nI (0)), .int (nI (2))]) dX7_kindWithBody_1 rfl (by decide) rfl ?_
  refine zv_iconst (v := nI (0)) dX7_kindWithBody_2 (by decide) ?_
  refine zv_istore_n (lv' := [.int (nI (2)), .int (nI (0)), .int (nI (2)), .int (nI (0))]) dX7_kindWithBody_3 rfl (by decide) rfl ?_
  refine zv_iload_n dX7_kindWithBody_4 rfl rfl ?_
  refine zv_bipush (v := nI (6)) dX7_kindWithBody_5 (by decide) ?_
  refine zv_icN_ge (tgt := 46) dX7_kindWithBody_7 (by decide) (by omega) (by omega) (fun h7 => (absurd h7 (by decide))) (fun h7 => ?_)
  refine zv_iload_n dX7_kindWithBody_10 rfl rfl ?_
  refine zv_if_lt (tgt := 46) dX7_kindWithBody_11 (by decide) (fun h11 => (absurd h11 (by decide))) (fun h11 => ?_)
  refine zv_iload_n dX7_kindWithBody_14 rfl rfl ?_
  refine zv_bipush (v := nI (6)) dX7_kindWithBody_15 (by decide) ?_
  refine zv_icN_ge (tgt := 46) dX7_kindWithBody_17 (by decide) (by omega) (by omega) (fun h17 => (absurd h17 (by decide))) (fun h17 => ?_)
  refine zv_gets (b := 1) dX7_kindWithBody_20 (Or.inl ⟨rfl, st_323⟩) ?_
  refine zv_iload_n dX7_kindWithBody_23 rfl rfl ?_
  refine zv_iconst (v := nI (4)) dX7_kindWithBody_24 (by decide) ?_
  refine zv_imul dX7_kindWithBody_25 ?_
  refine cc_top (y := nI (8)) (by decide) ?_
  refine zv_iload_n dX7_kindWithBody_26 rfl rfl ?_
  refine zv_iadd dX7_kindWithBody_27 ?_
  refine cc_top (y := nI (8)) (by decide) ?_
  refine zv_bald (j := 8) (x := nI (0)) dX7_kindWithBody_28 (rfl) (by omega) (rfl) ?_
  refine zv_if_eq (tgt := 34) dX7_kindWithBody_29 (by decide) (fun h29 => ?_) (fun h29 => (absurd (by decide) h29))
  refine zv_gets (b := 2) dX7_kindWithBody_34 (Or.inr ⟨rfl, st_320⟩) ?_
  refine zv_iload_n dX7_kindWithBody_37 rfl rfl ?_
  refine zv_kald (j := 2) (x := nI (1)) dX7_kindWithBody_38 (rfl) (by omega) (rfl) ?_
  refine zv_istore_n (lv' := [.int (nI (2)), .int (nI (0)), .int (nI (1)), .int (nI (0))]) dX7_kindWithBody_39 rfl (by decide) rfl ?_
  refine zv_iinc (v := nI (1)) (lv' := [.int (nI (2)), .int (nI (0)), .int (nI (1)), .int (nI (1))]) dX7_kindWithBody_40 rfl (by decide) (by decide) rfl ?_
  refine zv_goto (tgt := 4) dX7_kindWithBody_43 (by decide) ?_
  refine zv_iload_n dX7_kindWithBody_4 rfl rfl ?_
  refine zv_bipush (v := nI (6)) dX7_kindWithBody_5 (by decide) ?_
  refine zv_icN_ge (tgt := 46) dX7_kindWithBody_7 (by decide) (by omega) (by omega) (fun h7 => (absurd h7 (by decide))) (fun h7 => ?_)
  refine zv_iload_n dX7_kindWithBody_10 rfl rfl ?_
  refine zv_if_lt (tgt := 46) dX7_kindWithBody_11 (by decide) (fun h11 => (absurd h11 (by decide))) (fun h11 => ?_)
  refine zv_iload_n dX7_kindWithBody_14 rfl rfl ?_
  refine zv_bipush (v := nI (6)) dX7_kindWithBody_15 (by decide) ?_
  refine zv_icN_ge (tgt := 46) dX7_kindWithBody_17 (by decide) (by omega) (by omega) (fun h17 => (absurd h17 (by decide))) (fun h17 => ?_)
  refine zv_gets (b := 1) dX7_kindWithBody_20 (Or.inl ⟨rfl, st_323⟩) ?_
  refine zv_iload_n dX7_kindWithBody_23 rfl rfl ?_
  refine zv_iconst (v := nI (4)) dX7_kindWithBody_24 (by decide) ?_
  refine zv_imul dX7_kindWithBody_25 ?_
  refine cc_top (y := nI (4)) (by decide) ?_
  refine zv_iload_n dX7_kindWithBody_26 rfl rfl ?_
  refine zv_iadd dX7_kindWithBody_27 ?_
  refine cc_top (y := nI (4)) (by decide) ?_
  refine zv_bald (j := 4) (x := nI (20)) dX7_kindWithBody_28 (rfl) (by omega) (rfl) ?_
  refine zv_if_eq (tgt := 34) dX7_kindWithBody_29 (by decide) (fun h29 => (absurd h29 (by decide))) (fun h29 => ?_)
  refine zv_iload_n dX7_kindWithBody_32 rfl rfl ?_
  refine zv_iret dX7_kindWithBody_33 rfl rfl ?_
  exact ⟨rfl, rfl, rfl, rfl, rfl⟩
theorem cK_2_1 (d : Nat) {E : zv_E} {sh : zv_S} {I : zv_I} {J : zv_J} {R : zv_R} : zv_V E mX7_kindWithBody d 0 0 0 [.int (nI 2), .int (nI 1)] [] sh I J R (cc_p (nI 2) sh I J R) := by
  refine zv_iload_n dX7_kindWithBody_0 rfl rfl ?_
  refine zv_istore_n (lv' := [.int (nI (2)), .int (nI (1)), .int (nI (2))]) dX7_kindWithBody_1 rfl (by decide) rfl ?_
  refine zv_iconst (v := nI (0)) dX7_kindWithBody_2 (by decide) ?_
  refine zv_istore_n (lv' := [.int (nI (2)), .int (nI (1)), .int (nI (2)), .int (nI (0))]) dX7_kindWithBody_3 rfl (by decide) rfl ?_
  refine zv_iload_n dX7_kindWithBody_4 rfl rfl ?_
  refine zv_bipush (v := nI (6)) dX7_kindWithBody_5 (by decide) ?_
  refine zv_icN_ge (tgt := 46) dX7_kindWithBody_7 (by decide) (by omega) (by omega) (fun h7 => (absurd h7 (by decide))) (fun h7 => ?_)
  refine zv_iload_n dX7_kindWithBody_10 rfl rfl ?_
  refine zv_if_lt (tgt := 46) dX7_kindWithBody_11 (by decide) (fun h11 => (absurd h11 (by decide))) (fun h11 => ?_)
  refine zv_iload_n dX7_kindWithBody_14 rfl rfl ?_
  refine zv_bipush (v := nI (6)) dX7_kindWithBody_15 (by decide) ?_
  refine zv_icN_ge (tgt := 46) dX7_kindWithBody_17 (by decide) (by omega) (by omega) (fun h17 => (absurd h17 (by decide))) (fun h17 => ?_)
  refine zv_gets (b := 1) dX7_kindWithBody_20 (Or.inl ⟨rfl, st_323⟩) ?_
  refine zv_iload_n dX7_kindWithBody_23 rfl rfl ?_
  refine zv_iconst (v := nI (4)) dX7_kindWithBody_24 (by decide) ?_
  refine zv_imul dX7_kindWithBody_25 ?_
  refine cc_top (y := nI (8)) (by decide) ?_
  refine zv_iload_n dX7_kindWithBody_26 rfl rfl ?_
  refine zv_iadd dX7_kindWithBody_27 ?_
  refine cc_top (y := nI (9)) (by decide) ?_
  refine zv_bald (j := 9) (x := nI (30)) dX7_kindWithBody_28 (rfl) (by omega) (rfl) ?_
  refine zv_if_eq (tgt := 34) dX7_kindWithBody_29 (by decide) (fun h29 => (absurd h29 (by decide))) (fun h29 => ?_)
  refine zv_iload_n dX7_kindWithBody_32 rfl rfl ?_
  refine zv_iret dX7_kindWithBody_33 rfl rfl ?_
  exact ⟨rfl, rfl, rfl, rfl, rfl⟩
theorem cK_2_2 (d : Nat) {E : zv_E} {sh : zv_S} {I : zv_I} {J : zv_J} {R : zv_R} : zv_V E mX7_kindWithBody d 0 0 0 [.int (nI 2), .int (nI 2)] [] sh I J R (cc_p (nI 2) sh I J R) := by
  refine zv_iload_n dX7_kindWithBody_0 rfl rfl ?_
  refine zv_istore_n (lv' := [.int (nI (2)), .int (nI (2)), .int (nI (2))]) dX7_kindWithBody_1 rfl (by decide) rfl ?_
  refine zv_iconst (v := nI (0)) dX7_kindWithBody_2 (by decide) ?_
  refine zv_istore_n (lv' := [.int (nI (2)), .int (nI (2)), .int (nI (2)), .int (nI (0))]) dX7_kindWithBody_3 rfl (by decide) rfl ?_
  refine zv_iload_n dX7_kindWithBody_4 rfl rfl ?_
  refine zv_bipush (v := nI (6)) dX7_kindWithBody_5 (by decide) ?_
  refine zv_icN_ge (tgt := 46) dX7_kindWithBody_7 (by decide) (by omega) (by omega) (fun h7 => (absurd h7 (by decide))) (fun h7 => ?_)
  refine zv_iload_n dX7_kindWithBody_10 rfl rfl ?_
  refine zv_if_lt (tgt := 46) dX7_kindWithBody_11 (by decide) (fun h11 => (absurd h11 (by decide))) (fun h11 => ?_)
  refine zv_iload_n dX7_kindWithBody_14 rfl rfl ?_
  refine zv_bipush (v := nI (6)) dX7_kindWithBody_15 (by decide) ?_
  refine zv_icN_ge (tgt := 46) dX7_kindWithBody_17 (by decide) (by omega) (by omega) (fun h17 => (absurd h17 (by decide))) (fun h17 => ?_)
  refine zv_gets (b := 1) dX7_kindWithBody_20 (Or.inl ⟨rfl, st_323⟩) ?_
  refine zv_iload_n dX7_kindWithBody_23 rfl rfl ?_
  refine zv_iconst (v := nI (4)) dX7_kindWithBody_24 (by decide) ?_
  refine zv_imul dX7_kindWithBody_25 ?_
  refine cc_top (y := nI (8)) (by decide) ?_
  refine zv_iload_n dX7_kindWithBody_26 rfl rfl ?_
  refine zv_iadd dX7_kindWithBody_27 ?_
  refine cc_top (y := nI (10)) (by decide) ?_
  refine zv_bald (j := 10) (x := nI (31)) dX7_kindWithBody_28 (rfl) (by omega) (rfl) ?_
  refine zv_if_eq (tgt := 34) dX7_kindWithBody_29 (by decide) (fun h29 => (absurd h29 (by decide))) (fun h29 => ?_)
  refine zv_iload_n dX7_kindWithBody_32 rfl rfl ?_
  refine zv_iret dX7_kindWithBody_33 rfl rfl ?_
  exact ⟨rfl, rfl, rfl, rfl, rfl⟩
theorem cK_2_3 (d : Nat) {E : zv_E} {sh : zv_S} {I : zv_I} {J : zv_J} {R : zv_R} : zv_V E mX7_kindWithBody d 0 0 0 [.int (nI 2), .int (nI 3)] [] sh I J R (cc_p (nI 1) sh I J R) := by
  refine zv_iload_n dX7_kindWithBody_0 rfl rfl ?_
  refine zv_istore_n (lv' := [.int (nI (2)), .int (nI (3)), .int (nI (2))]) dX7_kindWithBody_1 rfl (by decide) rfl ?_
  refine zv_iconst (v := nI (0)) dX7_kindWithBody_2 (by decide) ?_
  refine zv_istore_n (lv' := [.int (nI (2)), .int (nI (3)), .int (nI (2)), .int (nI (0))]) dX7_kindWithBody_3 rfl (by decide) rfl ?_
  refine zv_iload_n dX7_kindWithBody_4 rfl rfl ?_
  refine zv_bipush (v := nI (6)) dX7_kindWithBody_5 (by decide) ?_
  refine zv_icN_ge (tgt := 46) dX7_kindWithBody_7 (by decide) (by omega) (by omega) (fun h7 => (absurd h7 (by decide))) (fun h7 => ?_)
  refine zv_iload_n dX7_kindWithBody_10 rfl rfl ?_
  refine zv_if_lt (tgt := 46) dX7_kindWithBody_11 (by decide) (fun h11 => (absurd h11 (by decide))) (fun h11 => ?_)
  refine zv_iload_n dX7_kindWithBody_14 rfl rfl ?_
  refine zv_bipush (v := nI (6)) dX7_kindWithBody_15 (by decide) ?_
  refine zv_icN_ge (tgt := 46) dX7_kindWithBody_17 (by decide) (by omega) (by omega) (fun h17 => (absurd h17 (by decide))) (fun h17 => ?_)
  refine zv_gets (b := 1) dX7_kindWithBody_20 (Or.inl ⟨rfl, st_323⟩) ?_
  refine zv_iload_n dX7_kindWithBody_23 rfl rfl ?_
  refine zv_iconst (v := nI (4)) dX7_kindWithBody_24 (by decide) ?_
  refine zv_imul dX7_kindWithBody_25 ?_
  refine cc_top (y := nI (8)) (by decide) ?_
  refine zv_iload_n dX7_kindWithBody_26 rfl rfl ?_
  refine zv_iadd dX7_kindWithBody_27 ?_
  refine cc_top (y := nI (11)) (by decide) ?_
  refine zv_bald (j := 11) (x := nI (0)) dX7_kindWithBody_28 (rfl) (by omega) (rfl) ?_
  refine zv_if_eq (tgt := 34) dX7_kindWithBody_29 (by decide) (fun h29 => ?_) (fun h29 => (absurd (by decide) h29))
  refine zv_gets (b := 2) dX7_kindWithBody_34 (Or.inr ⟨rfl, st_320⟩) ?_
  refine zv_iload_n dX7_kindWithBody_37 rfl rfl ?_
  refine zv_kald (j := 2) (x := nI (1)) dX7_kindWithBody_38 (rfl) (by omega) (rfl) ?_
  refine zv_istore_n (lv' := [.int (nI (2)), .int (nI (3)), .int (nI (1)), .int (nI (0))]) dX7_kindWithBody_39 rfl (by decide) rfl ?_
  refine zv_iinc (v := nI (1)) (lv' := [.int (nI (2)), .int (nI (3)), .int (nI (1)), .int (nI (1))]) dX7_kindWithBody_40 rfl (by decide) (by decide) rfl ?_
  refine zv_goto (tgt := 4) dX7_kindWithBody_43 (by decide) ?_
  refine zv_iload_n dX7_kindWithBody_4 rfl rfl ?_
  refine zv_bipush (v := nI (6)) dX7_kindWithBody_5 (by decide) ?_
  refine zv_icN_ge (tgt := 46) dX7_kindWithBody_7 (by decide) (by omega) (by omega) (fun h7 => (absurd h7 (by decide))) (fun h7 => ?_)
  refine zv_iload_n dX7_kindWithBody_10 rfl rfl ?_
  refine zv_if_lt (tgt := 46) dX7_kindWithBody_11 (by decide) (fun h11 => (absurd h11 (by decide))) (fun h11 => ?_)
  refine zv_iload_n dX7_kindWithBody_14 rfl rfl ?_
  refine zv_bipush (v := nI (6)) dX7_kindWithBody_15 (by decide) ?_
  refine zv_icN_ge (tgt := 46) dX7_kindWithBody_17 (by decide) (by omega) (by omega) (fun h17 => (absurd h17 (by decide))) (fun h17 => ?_)
  refine zv_gets (b := 1) dX7_kindWithBody_20 (Or.inl ⟨rfl, st_323⟩) ?_
  refine zv_iload_n dX7_kindWithBody_23 rfl rfl ?_
  refine zv_iconst (v := nI (4)) dX7_kindWithBody_24 (by decide) ?_
  refine zv_imul dX7_kindWithBody_25 ?_
  refine cc_top (y := nI (4)) (by decide) ?_
  refine zv_iload_n dX7_kindWithBody_26 rfl rfl ?_
  refine zv_iadd dX7_kindWithBody_27 ?_
  refine cc_top (y := nI (7)) (by decide) ?_
  refine zv_bald (j := 7) (x := nI (21)) dX7_kindWithBody_28 (rfl) (by omega) (rfl) ?_
  refine zv_if_eq (tgt := 34) dX7_kindWithBody_29 (by decide) (fun h29 => (absurd h29 (by decide))) (fun h29 => ?_)
  refine zv_iload_n dX7_kindWithBody_32 rfl rfl ?_
  refine zv_iret dX7_kindWithBody_33 rfl rfl ?_
  exact ⟨rfl, rfl, rfl, rfl, rfl⟩
theorem cK_3_0 (d : Nat) {E : zv_E} {sh : zv_S} {I : zv_I} {J : zv_J} {R : zv_R} : zv_V E mX7_kindWithBody d 0 0 0 [.int (nI 3), .int (nI 0)] [] sh I J R (cc_p (nI 3) sh I J R) := by
  refine zv_iload_n dX7_kindWithBody_0 rfl rfl ?_
  refine zv_istore_n (lv' := [.int (nI (3)), .int (nI (0)), .int (nI (3))]) dX7_kindWithBody_1 rfl (by decide) rfl ?_
  refine zv_iconst (v := nI (0)) dX7_kindWithBody_2 (by decide) ?_
  refine zv_istore_n (lv' := [.int (nI (3)), .int (nI (0)), .int (nI (3)), .int (nI (0))]) dX7_kindWithBody_3 rfl (by decide) rfl ?_
  refine zv_iload_n dX7_kindWithBody_4 rfl rfl ?_
  refine zv_bipush (v := nI (6)) dX7_kindWithBody_5 (by decide) ?_
  refine zv_icN_ge (tgt := 46) dX7_kindWithBody_7 (by decide) (by omega) (by omega) (fun h7 => (absurd h7 (by decide))) (fun h7 => ?_)
  refine zv_iload_n dX7_kindWithBody_10 rfl rfl ?_
  refine zv_if_lt (tgt := 46) dX7_kindWithBody_11 (by decide) (fun h11 => (absurd h11 (by decide))) (fun h11 => ?_)
  refine zv_iload_n dX7_kindWithBody_14 rfl rfl ?_
  refine zv_bipush (v := nI (6)) dX7_kindWithBody_15 (by decide) ?_
  refine zv_icN_ge (tgt := 46) dX7_kindWithBody_17 (by decide) (by omega) (by omega) (fun h17 => (absurd h17 (by decide))) (fun h17 => ?_)
  refine zv_gets (b := 1) dX7_kindWithBody_20 (Or.inl ⟨rfl, st_323⟩) ?_
  refine zv_iload_n dX7_kindWithBody_23 rfl rfl ?_
  refine zv_iconst (v := nI (4)) dX7_kindWithBody_24 (by decide) ?_
  refine zv_imul dX7_kindWithBody_25 ?_
  refine cc_top (y := nI (12)) (by decide) ?_
  refine zv_iload_n dX7_kindWithBody_26 rfl rfl ?_
  refine zv_iadd dX7_kindWithBody_27 ?_
  refine cc_top (y := nI (12)) (by decide) ?_
  refine zv_bald (j := 12) (x := nI (40)) dX7_kindWithBody_28 (rfl) (by omega) (rfl) ?_
  refine zv_if_eq (tgt := 34) dX7_kindWithBody_29 (by decide) (fun h29 => (absurd h29 (by decide))) (fun h29 => ?_)
  refine zv_iload_n dX7_kindWithBody_32 rfl rfl ?_
  refine zv_iret dX7_kindWithBody_33 rfl rfl ?_
  exact ⟨rfl, rfl, rfl, rfl, rfl⟩
theorem cK_3_1 (d : Nat) {E : zv_E} {sh : zv_S} {I : zv_I} {J : zv_J} {R : zv_R} : zv_V E mX7_kindWithBody d 0 0 0 [.int (nI 3), .int (nI 1)] [] sh I J R (cc_p (nI 0) sh I J R) := by
  refine zv_iload_n dX7_kindWithBody_0 rfl rfl ?_
  refine zv_istore_n (lv' := [.int (nI (3)), .int (nI (1)), .int (nI (3))]) dX7_kindWithBody_1 rfl (by decide) rfl ?_
  refine zv_iconst (v := nI (0)) dX7_kindWithBody_2 (by decide) ?_
  refine zv_istore_n (lv' := [.int (nI (3)), .int (nI (1)), .int (nI (3)), .int (nI (0))]) dX7_kindWithBody_3 rfl (by decide) rfl ?_
  refine zv_iload_n dX7_kindWithBody_4 rfl rfl ?_
  refine zv_bipush (v := nI (6)) dX7_kindWithBody_5 (by decide) ?_
  refine zv_icN_ge (tgt := 46) dX7_kindWithBody_7 (by decide) (by omega) (by omega) (fun h7 => (absurd h7 (by decide))) (fun h7 => ?_)
  refine zv_iload_n dX7_kindWithBody_10 rfl rfl ?_
  refine zv_if_lt (tgt := 46) dX7_kindWithBody_11 (by decide) (fun h11 => (absurd h11 (by decide))) (fun h11 => ?_)
  refine zv_iload_n dX7_kindWithBody_14 rfl rfl ?_
  refine zv_bipush (v := nI (6)) dX7_kindWithBody_15 (by decide) ?_
  refine zv_icN_ge (tgt := 46) dX7_kindWithBody_17 (by decide) (by omega) (by omega) (fun h17 => (absurd h17 (by decide))) (fun h17 => ?_)
  refine zv_gets (b := 1) dX7_kindWithBody_20 (Or.inl ⟨rfl, st_323⟩) ?_
  refine zv_iload_n dX7_kindWithBody_23 rfl rfl ?_
  refine zv_iconst (v := nI (4)) dX7_kindWithBody_24 (by decide) ?_
  refine zv_imul dX7_kindWithBody_25 ?_
  refine cc_top (y := nI (12)) (by decide) ?_
  refine zv_iload_n dX7_kindWithBody_26 rfl rfl ?_
  refine zv_iadd dX7_kindWithBody_27 ?_
  refine cc_top (y := nI (13)) (by decide) ?_
  refine zv_bald (j := 13) (x := nI (0)) dX7_kindWithBody_28 (rfl) (by omega) (rfl) ?_
  refine zv_if_eq (tgt := 34) dX7_kindWithBody_29 (by decide) (fun h29 => ?_) (fun h29 => (absurd (by decide) h29))
  refine zv_gets (b := 2) dX7_kindWithBody_34 (Or.inr ⟨rfl, st_320⟩) ?_
  refine zv_iload_n dX7_kindWithBody_37 rfl rfl ?_
  refine zv_kald (j := 3) (x := nI (0)) dX7_kindWithBody_38 (rfl) (by omega) (rfl) ?_
  refine zv_istore_n (lv' := [.int (nI (3)), .int (nI (1)), .int (nI (0)), .int (nI (0))]) dX7_kindWithBody_39 rfl (by decide) rfl ?_
  refine zv_iinc (v := nI (1)) (lv' := [.int (nI (3)), .int (nI (1)), .int (nI (0)), .int (nI (1))]) dX7_kindWithBody_40 rfl (by decide) (by decide) rfl ?_
  refine zv_goto (tgt := 4) dX7_kindWithBody_43 (by decide) ?_
  refine zv_iload_n dX7_kindWithBody_4 rfl rfl ?_
  refine zv_bipush (v := nI (6)) dX7_kindWithBody_5 (by decide) ?_
  refine zv_icN_ge (tgt := 46) dX7_kindWithBody_7 (by decide) (by omega) (by omega) (fun h7 => (absurd h7 (by decide))) (fun h7 => ?_)
  refine zv_iload_n dX7_kindWithBody_10 rfl rfl ?_
  refine zv_if_lt (tgt := 46) dX7_kindWithBody_11 (by decide) (fun h11 => (absurd h11 (by decide))) (fun h11 => ?_)
  refine zv_iload_n dX7_kindWithBody_14 rfl rfl ?_
  refine zv_bipush (v := nI (6)) dX7_kindWithBody_15 (by decide) ?_
  refine zv_icN_ge (tgt := 46) dX7_kindWithBody_17 (by decide) (by omega) (by omega) (fun h17 => (absurd h17 (by decide))) (fun h17 => ?_)
  refine zv_gets (b := 1) dX7_kindWithBody_20 (Or.inl ⟨rfl, st_323⟩) ?_
  refine zv_iload_n dX7_kindWithBody_23 rfl rfl ?_
  refine zv_iconst (v := nI (4)) dX7_kindWithBody_24 (by decide) ?_
  refine zv_imul dX7_kindWithBody_25 ?_
  refine cc_top (y := nI (0)) (by decide) ?_
  refine zv_iload_n dX7_kindWithBody_26 rfl rfl ?_
  refine zv_iadd dX7_kindWithBody_27 ?_
  refine cc_top (y := nI (1)) (by decide) ?_
  refine zv_bald (j := 1) (x := nI (11)) dX7_kindWithBody_28 (rfl) (by omega) (rfl) ?_
  refine zv_if_eq (tgt := 34) dX7_kindWithBody_29 (by decide) (fun h29 => (absurd h29 (by decide))) (fun h29 => ?_)
  refine zv_iload_n dX7_kindWithBody_32 rfl rfl ?_
  refine zv_iret dX7_kindWithBody_33 rfl rfl ?_
  exact ⟨rfl, rfl, rfl, rfl, rfl⟩
theorem cK_3_2 (d : Nat) {E : zv_E} {sh : zv_S} {I : zv_I} {J : zv_J} {R : zv_R} : zv_V E mX7_kindWithBody d 0 0 0 [.int (nI 3), .int (nI 2)] [] sh I J R (cc_p (nI 0) sh I J R) := by
  refine zv_iload_n dX7_kindWithBody_0 rfl rfl ?_
  refine zv_istore_n (lv' := [.int (nI (3)), .int (nI (2)), .int (nI (3))]) dX7_kindWithBody_1 rfl (by decide) rfl ?_
  refine zv_iconst (v := nI (0)) dX7_kindWithBody_2 (by decide) ?_
  refine zv_istore_n (lv' := [.int (nI (3)), .int (nI (2)), .int (nI (3)), .int (nI (0))]) dX7_kindWithBody_3 rfl (by decide) rfl ?_
  refine zv_iload_n dX7_kindWithBody_4 rfl rfl ?_
  refine zv_bipush (v := nI (6)) dX7_kindWithBody_5 (by decide) ?_
  refine zv_icN_ge (tgt := 46) dX7_kindWithBody_7 (by decide) (by omega) (by omega) (fun h7 => (absurd h7 (by decide))) (fun h7 => ?_)
  refine zv_iload_n dX7_kindWithBody_10 rfl rfl ?_
  refine zv_if_lt (tgt := 46) dX7_kindWithBody_11 (by decide) (fun h11 => (absurd h11 (by decide))) (fun h11 => ?_)
  refine zv_iload_n dX7_kindWithBody_14 rfl rfl ?_
  refine zv_bipush (v := nI (6)) dX7_kindWithBody_15 (by decide) ?_
  refine zv_icN_ge (tgt := 46) dX7_kindWithBody_17 (by decide) (by omega) (by omega) (fun h17 => (absurd h17 (by decide))) (fun h17 => ?_)
  refine zv_gets (b := 1) dX7_kindWithBody_20 (Or.inl ⟨rfl, st_323⟩) ?_
  refine zv_iload_n dX7_kindWithBody_23 rfl rfl ?_
  refine zv_iconst (v := nI (4)) dX7_kindWithBody_24 (by decide) ?_
  refine zv_imul dX7_kindWithBody_25 ?_
  refine cc_top (y := nI (12)) (by decide) ?_
  refine zv_iload_n dX7_kindWithBody_26 rfl rfl ?_
  refine zv_iadd dX7_kindWithBody_27 ?_
  refine cc_top (y := nI (14)) (by decide) ?_
  refine zv_bald (j := 14) (x := nI (0)) dX7_kindWithBody_28 (rfl) (by omega) (rfl) ?_
  refine zv_if_eq (tgt := 34) dX7_kindWithBody_29 (by decide) (fun h29 => ?_) (fun h29 => (absurd (by decide) h29))
  refine zv_gets (b := 2) dX7_kindWithBody_34 (Or.inr ⟨rfl, st_320⟩) ?_
  refine zv_iload_n dX7_kindWithBody_37 rfl rfl ?_
  refine zv_kald (j := 3) (x := nI (0)) dX7_kindWithBody_38 (rfl) (by omega) (rfl) ?_
  refine zv_istore_n (lv' := [.int (nI (3)), .int (nI (2)), .int (nI (0)), .int (nI (0))]) dX7_kindWithBody_39 rfl (by decide) rfl ?_
  refine zv_iinc (v := nI (1)) (lv' := [.int (nI (3)), .int (nI (2)), .int (nI (0)), .int (nI (1))]) dX7_kindWithBody_40 rfl (by decide) (by decide) rfl ?_
  refine zv_goto (tgt := 4) dX7_kindWithBody_43 (by decide) ?_
  refine zv_iload_n dX7_kindWithBody_4 rfl rfl ?_
  refine zv_bipush (v := nI (6)) dX7_kindWithBody_5 (by decide) ?_
  refine zv_icN_ge (tgt := 46) dX7_kindWithBody_7 (by decide) (by omega) (by omega) (fun h7 => (absurd h7 (by decide))) (fun h7 => ?_)
  refine zv_iload_n dX7_kindWithBody_10 rfl rfl ?_
  refine zv_if_lt (tgt := 46) dX7_kindWithBody_11 (by decide) (fun h11 => (absurd h11 (by decide))) (fun h11 => ?_)
  refine zv_iload_n dX7_kindWithBody_14 rfl rfl ?_
  refine zv_bipush (v := nI (6)) dX7_kindWithBody_15 (by decide) ?_
  refine zv_icN_ge (tgt := 46) dX7_kindWithBody_17 (by decide) (by omega) (by omega) (fun h17 => (absurd h17 (by decide))) (fun h17 => ?_)
  refine zv_gets (b := 1) dX7_kindWithBody_20 (Or.inl ⟨rfl, st_323⟩) ?_
  refine zv_iload_n dX7_kindWithBody_23 rfl rfl ?_
  refine zv_iconst (v := nI (4)) dX7_kindWithBody_24 (by decide) ?_
  refine zv_imul dX7_kindWithBody_25 ?_
  refine cc_top (y := nI (0)) (by decide) ?_
  refine zv_iload_n dX7_kindWithBody_26 rfl rfl ?_
  refine zv_iadd dX7_kindWithBody_27 ?_
  refine cc_top (y := nI (2)) (by decide) ?_
  refine zv_bald (j := 2) (x := nI (12)) dX7_kindWithBody_28 (rfl) (by omega) (rfl) ?_
  refine zv_if_eq (tgt := 34) dX7_kindWithBody_29 (by decide) (fun h29 => (absurd h29 (by decide))) (fun h29 => ?_)
  refine zv_iload_n dX7_kindWithBody_32 rfl rfl ?_
  refine zv_iret dX7_kindWithBody_33 rfl rfl ?_
  exact ⟨rfl, rfl, rfl, rfl, rfl⟩
theorem cK_3_3 (d : Nat) {E : zv_E} {sh : zv_S} {I : zv_I} {J : zv_J} {R : zv_R} : zv_V E mX7_kindWithBody d 0 0 0 [.int (nI 3), .int (nI 3)] [] sh I J R (cc_p (nI 0) sh I J R) := by
  refine zv_iload_n dX7_kindWithBody_0 rfl rfl ?_
  refine zv_istore_n (lv' := [.int (nI (3)), .int (nI (3)), .int (nI (3))]) dX7_kindWithBody_1 rfl (by decide) rfl ?_
  refine zv_iconst (v := nI (0)) dX7_kindWithBody_2 (by decide) ?_
  refine zv_istore_n (lv' := [.int (nI (3)), .int (nI (3)), .int (nI (3)), .int (nI (0))]) dX7_kindWithBody_3 rfl (by decide) rfl ?_
  refine zv_iload_n dX7_kindWithBody_4 rfl rfl ?_
  refine zv_bipush (v := nI (6)) dX7_kindWithBody_5 (by decide) ?_
  refine zv_icN_ge (tgt := 46) dX7_kindWithBody_7 (by decide) (by omega) (by omega) (fun h7 => (absurd h7 (by decide))) (fun h7 => ?_)
  refine zv_iload_n dX7_kindWithBody_10 rfl rfl ?_
  refine zv_if_lt (tgt := 46) dX7_kindWithBody_11 (by decide) (fun h11 => (absurd h11 (by decide))) (fun h11 => ?_)
  refine zv_iload_n dX7_kindWithBody_14 rfl rfl ?_
  refine zv_bipush (v := nI (6)) dX7_kindWithBody_15 (by decide) ?_
  refine zv_icN_ge (tgt := 46) dX7_kindWithBody_17 (by decide) (by omega) (by omega) (fun h17 => (absurd h17 (by decide))) (fun h17 => ?_)
  refine zv_gets (b := 1) dX7_kindWithBody_20 (Or.inl ⟨rfl, st_323⟩) ?_
  refine zv_iload_n dX7_kindWithBody_23 rfl rfl ?_
  refine zv_iconst (v := nI (4)) dX7_kindWithBody_24 (by decide) ?_
  refine zv_imul dX7_kindWithBody_25 ?_
  refine cc_top (y := nI (12)) (by decide) ?_
  refine zv_iload_n dX7_kindWithBody_26 rfl rfl ?_
  refine zv_iadd dX7_kindWithBody_27 ?_
  refine cc_top (y := nI (15)) (by decide) ?_
  refine zv_bald (j := 15) (x := nI (0)) dX7_kindWithBody_28 (rfl) (by omega) (rfl) ?_
  refine zv_if_eq (tgt := 34) dX7_kindWithBody_29 (by decide) (fun h29 => ?_) (fun h29 => (absurd (by decide) h29))
  refine zv_gets (b := 2) dX7_kindWithBody_34 (Or.inr ⟨rfl, st_320⟩) ?_
  refine zv_iload_n dX7_kindWithBody_37 rfl rfl ?_
  refine zv_kald (j := 3) (x := nI (0)) dX7_kindWithBody_38 (rfl) (by omega) (rfl) ?_
  refine zv_istore_n (lv' := [.int (nI (3)), .int (nI (3)), .int (nI (0)), .int (nI (0))]) dX7_kindWithBody_39 rfl (by decide) rfl ?_
  refine zv_iinc (v := nI (1)) (lv' := [.int (nI (3)), .int (nI (3)), .int (nI (0)), .int (nI (1))]) dX7_kindWithBody_40 rfl (by decide) (by decide) rfl ?_
  refine zv_goto (tgt := 4) dX7_kindWithBody_43 (by decide) ?_
  refine zv_iload_n dX7_kindWithBody_4 rfl rfl ?_
  refine zv_bipush (v := nI (6)) dX7_kindWithBody_5 (by decide) ?_
  refine zv_icN_ge (tgt := 46) dX7_kindWithBody_7 (by decide) (by omega) (by omega) (fun h7 => (absurd h7 (by decide))) (fun h7 => ?_)
  refine zv_iload_n dX7_kindWithBody_10 rfl rfl ?_
  refine zv_if_lt (tgt := 46) dX7_kindWithBody_11 (by decide) (fun h11 => (absurd h11 (by decide))) (fun h11 => ?_)
  refine zv_iload_n dX7_kindWithBody_14 rfl rfl ?_
  refine zv_bipush (v := nI (6)) dX7_kindWithBody_15 (by decide) ?_
  refine zv_icN_ge (tgt := 46) dX7_kindWithBody_17 (by decide) (by omega) (by omega) (fun h17 => (absurd h17 (by decide))) (fun h17 => ?_)
  refine zv_gets (b := 1) dX7_kindWithBody_20 (Or.inl ⟨rfl, st_323⟩) ?_
  refine zv_iload_n dX7_kindWithBody_23 rfl rfl ?_
  refine zv_iconst (v := nI (4)) dX7_kindWithBody_24 (by decide) ?_
  refine zv_imul dX7_kindWithBody_25 ?_
  refine cc_top (y := nI (0)) (by decide) ?_
  refine zv_iload_n dX7_kindWithBody_26 rfl rfl ?_
  refine zv_iadd dX7_kindWithBody_27 ?_
  refine cc_top (y := nI (3)) (by decide) ?_
  refine zv_bald (j := 3) (x := nI (13)) dX7_kindWithBody_28 (rfl) (by omega) (rfl) ?_
  refine zv_if_eq (tgt := 34) dX7_kindWithBody_29 (by decide) (fun h29 => (absurd h29 (by decide))) (fun h29 => ?_)
  refine zv_iload_n dX7_kindWithBody_32 rfl rfl ?_
  refine zv_iret dX7_kindWithBody_33 rfl rfl ?_
  exact ⟨rfl, rfl, rfl, rfl, rfl⟩
theorem cK_4_0 (d : Nat) {E : zv_E} {sh : zv_S} {I : zv_I} {J : zv_J} {R : zv_R} : zv_V E mX7_kindWithBody d 0 0 0 [.int (nI 4), .int (nI 0)] [] sh I J R (cc_p (nI 3) sh I J R) := by
  refine zv_iload_n dX7_kindWithBody_0 rfl rfl ?_
  refine zv_istore_n (lv' := [.int (nI (4)), .int (nI (0)), .int (nI (4))]) dX7_kindWithBody_1 rfl (by decide) rfl ?_
  refine zv_iconst (v := nI (0)) dX7_kindWithBody_2 (by decide) ?_
  refine zv_istore_n (lv' := [.int (nI (4)), .int (nI (0)), .int (nI (4)), .int (nI (0))]) dX7_kindWithBody_3 rfl (by decide) rfl ?_
  refine zv_iload_n dX7_kindWithBody_4 rfl rfl ?_
  refine zv_bipush (v := nI (6)) dX7_kindWithBody_5 (by decide) ?_
  refine zv_icN_ge (tgt := 46) dX7_kindWithBody_7 (by decide) (by omega) (by omega) (fun h7 => (absurd h7 (by decide))) (fun h7 => ?_)
  refine zv_iload_n dX7_kindWithBody_10 rfl rfl ?_
  refine zv_if_lt (tgt := 46) dX7_kindWithBody_11 (by decide) (fun h11 => (absurd h11 (by decide))) (fun h11 => ?_)
  refine zv_iload_n dX7_kindWithBody_14 rfl rfl ?_
  refine zv_bipush (v := nI (6)) dX7_kindWithBody_15 (by decide) ?_
  refine zv_icN_ge (tgt := 46) dX7_kindWithBody_17 (by decide) (by omega) (by omega) (fun h17 => (absurd h17 (by decide))) (fun h17 => ?_)
  refine zv_gets (b := 1) dX7_kindWithBody_20 (Or.inl ⟨rfl, st_323⟩) ?_
  refine zv_iload_n dX7_kindWithBody_23 rfl rfl ?_
  refine zv_iconst (v := nI (4)) dX7_kindWithBody_24 (by decide) ?_
  refine zv_imul dX7_kindWithBody_25 ?_
  refine cc_top (y := nI (16)) (by decide) ?_
  refine zv_iload_n dX7_kindWithBody_26 rfl rfl ?_
  refine zv_iadd dX7_kindWithBody_27 ?_
  refine cc_top (y := nI (16)) (by decide) ?_
  refine zv_bald (j := 16) (x := nI (0)) dX7_kindWithBody_28 (rfl) (by omega) (rfl) ?_
  refine zv_if_eq (tgt := 34) dX7_kindWithBody_29 (by decide) (fun h29 => ?_) (fun h29 => (absurd (by decide) h29))
  refine zv_gets (b := 2) dX7_kindWithBody_34 (Or.inr ⟨rfl, st_320⟩) ?_
  refine zv_iload_n dX7_kindWithBody_37 rfl rfl ?_
  refine zv_kald (j := 4) (x := nI (3)) dX7_kindWithBody_38 (rfl) (by omega) (rfl) ?_
  refine zv_istore_n (lv' := [.int (nI (4)), .int (nI (0)), .int (nI (3)), .int (nI (0))]) dX7_kindWithBody_39 rfl (by decide) rfl ?_
  refine zv_iinc (v := nI (1)) (lv' := [.int (nI (4)), .int (nI (0)), .int (nI (3)), .int (nI (1))]) dX7_kindWithBody_40 rfl (by decide) (by decide) rfl ?_
  refine zv_goto (tgt := 4) dX7_kindWithBody_43 (by decide) ?_
  refine zv_iload_n dX7_kindWithBody_4 rfl rfl ?_
  refine zv_bipush (v := nI (6)) dX7_kindWithBody_5 (by decide) ?_
  refine zv_icN_ge (tgt := 46) dX7_kindWithBody_7 (by decide) (by omega) (by omega) (fun h7 => (absurd h7 (by decide))) (fun h7 => ?_)
  refine zv_iload_n dX7_kindWithBody_10 rfl rfl ?_
  refine zv_if_lt (tgt := 46) dX7_kindWithBody_11 (by decide) (fun h11 => (absurd h11 (by decide))) (fun h11 => ?_)
  refine zv_iload_n dX7_kindWithBody_14 rfl rfl ?_
  refine zv_bipush (v := nI (6)) dX7_kindWithBody_15 (by decide) ?_
  refine zv_icN_ge (tgt := 46) dX7_kindWithBody_17 (by decide) (by omega) (by omega) (fun h17 => (absurd h17 (by decide))) (fun h17 => ?_)
  refine zv_gets (b := 1) dX7_kindWithBody_20 (Or.inl ⟨rfl, st_323⟩) ?_
  refine zv_iload_n dX7_kindWithBody_23 rfl rfl ?_
  refine zv_iconst (v := nI (4)) dX7_kindWithBody_24 (by decide) ?_
  refine zv_imul dX7_kindWithBody_25 ?_
  refine cc_top (y := nI (12)) (by decide) ?_
  refine zv_iload_n dX7_kindWithBody_26 rfl rfl ?_
  refine zv_iadd dX7_kindWithBody_27 ?_
  refine cc_top (y := nI (12)) (by decide) ?_
  refine zv_bald (j := 12) (x := nI (40)) dX7_kindWithBody_28 (rfl) (by omega) (rfl) ?_
  refine zv_if_eq (tgt := 34) dX7_kindWithBody_29 (by decide) (fun h29 => (absurd h29 (by decide))) (fun h29 => ?_)
  refine zv_iload_n dX7_kindWithBody_32 rfl rfl ?_
  refine zv_iret dX7_kindWithBody_33 rfl rfl ?_
  exact ⟨rfl, rfl, rfl, rfl, rfl⟩
theorem cK_4_1 (d : Nat) {E : zv_E} {sh : zv_S} {I : zv_I} {J : zv_J} {R : zv_R} : zv_V E mX7_kindWithBody d 0 0 0 [.int (nI 4), .int (nI 1)] [] sh I J R (cc_p (nI 0) sh I J R) := by
  refine zv_iload_n dX7_kindWithBody_0 rfl rfl ?_
  refine zv_istore_n (lv' := [.int (nI (4)), .int (nI (1)), .int (nI (4))]) dX7_kindWithBody_1 rfl (by decide) rfl ?_
  refine zv_iconst (v := nI (0)) dX7_kindWithBody_2 (by decide) ?_
  refine zv_istore_n (lv' := [.int (nI (4)), .int (nI (1)), .int (nI (4)), .int (nI (0))]) dX7_kindWithBody_3 rfl (by decide) rfl ?_
  refine zv_iload_n dX7_kindWithBody_4 rfl rfl ?_
  refine zv_bipush (v := nI (6)) dX7_kindWithBody_5 (by decide) ?_
  refine zv_icN_ge (tgt := 46) dX7_kindWithBody_7 (by decide) (by omega) (by omega) (fun h7 => (absurd h7 (by decide))) (fun h7 => ?_)
  refine zv_iload_n dX7_kindWithBody_10 rfl rfl ?_
  refine zv_if_lt (tgt := 46) dX7_kindWithBody_11 (by decide) (fun h11 => (absurd h11 (by decide))) (fun h11 => ?_)
  refine zv_iload_n dX7_kindWithBody_14 rfl rfl ?_
  refine zv_bipush (v := nI (6)) dX7_kindWithBody_15 (by decide) ?_
  refine zv_icN_ge (tgt := 46) dX7_kindWithBody_17 (by decide) (by omega) (by omega) (fun h17 => (absurd h17 (by decide))) (fun h17 => ?_)
  refine zv_gets (b := 1) dX7_kindWithBody_20 (Or.inl ⟨rfl, st_323⟩) ?_
  refine zv_iload_n dX7_kindWithBody_23 rfl rfl ?_
  refine zv_iconst (v := nI (4)) dX7_kindWithBody_24 (by decide) ?_
  refine zv_imul dX7_kindWithBody_25 ?_
  refine cc_top (y := nI (16)) (by decide) ?_
  refine zv_iload_n dX7_kindWithBody_26 rfl rfl ?_
  refine zv_iadd dX7_kindWithBody_27 ?_
  refine cc_top (y := nI (17)) (by decide) ?_
  refine zv_bald (j := 17) (x := nI (0)) dX7_kindWithBody_28 (rfl) (by omega) (rfl) ?_
  refine zv_if_eq (tgt := 34) dX7_kindWithBody_29 (by decide) (fun h29 => ?_) (fun h29 => (absurd (by decide) h29))
  refine zv_gets (b := 2) dX7_kindWithBody_34 (Or.inr ⟨rfl, st_320⟩) ?_
  refine zv_iload_n dX7_kindWithBody_37 rfl rfl ?_
  refine zv_kald (j := 4) (x := nI (3)) dX7_kindWithBody_38 (rfl) (by omega) (rfl) ?_
  refine zv_istore_n (lv' := [.int (nI (4)), .int (nI (1)), .int (nI (3)), .int (nI (0))]) dX7_kindWithBody_39 rfl (by decide) rfl ?_
  refine zv_iinc (v := nI (1)) (lv' := [.int (nI (4)), .int (nI (1)), .int (nI (3)), .int (nI (1))]) dX7_kindWithBody_40 rfl (by decide) (by decide) rfl ?_
  refine zv_goto (tgt := 4) dX7_kindWithBody_43 (by decide) ?_
  refine zv_iload_n dX7_kindWithBody_4 rfl rfl ?_
  refine zv_bipush (v := nI (6)) dX7_kindWithBody_5 (by decide) ?_
  refine zv_icN_ge (tgt := 46) dX7_kindWithBody_7 (by decide) (by omega) (by omega) (fun h7 => (absurd h7 (by decide))) (fun h7 => ?_)
  refine zv_iload_n dX7_kindWithBody_10 rfl rfl ?_
  refine zv_if_lt (tgt := 46) dX7_kindWithBody_11 (by decide) (fun h11 => (absurd h11 (by decide))) (fun h11 => ?_)
  refine zv_iload_n dX7_kindWithBody_14 rfl rfl ?_
  refine zv_bipush (v := nI (6)) dX7_kindWithBody_15 (by decide) ?_
  refine zv_icN_ge (tgt := 46) dX7_kindWithBody_17 (by decide) (by omega) (by omega) (fun h17 => (absurd h17 (by decide))) (fun h17 => ?_)
  refine zv_gets (b := 1) dX7_kindWithBody_20 (Or.inl ⟨rfl, st_323⟩) ?_
  refine zv_iload_n dX7_kindWithBody_23 rfl rfl ?_
  refine zv_iconst (v := nI (4)) dX7_kindWithBody_24 (by decide) ?_
  refine zv_imul dX7_kindWithBody_25 ?_
  refine cc_top (y := nI (12)) (by decide) ?_
  refine zv_iload_n dX7_kindWithBody_26 rfl rfl ?_
  refine zv_iadd dX7_kindWithBody_27 ?_
  refine cc_top (y := nI (13)) (by decide) ?_
  refine zv_bald (j := 13) (x := nI (0)) dX7_kindWithBody_28 (rfl) (by omega) (rfl) ?_
  refine zv_if_eq (tgt := 34) dX7_kindWithBody_29 (by decide) (fun h29 => ?_) (fun h29 => (absurd (by decide) h29))
  refine zv_gets (b := 2) dX7_kindWithBody_34 (Or.inr ⟨rfl, st_320⟩) ?_
  refine zv_iload_n dX7_kindWithBody_37 rfl rfl ?_
  refine zv_kald (j := 3) (x := nI (0)) dX7_kindWithBody_38 (rfl) (by omega) (rfl) ?_
  refine zv_istore_n (lv' := [.int (nI (4)), .int (nI (1)), .int (nI (0)), .int (nI (1))]) dX7_kindWithBody_39 rfl (by decide) rfl ?_
  refine zv_iinc (v := nI (2)) (lv' := [.int (nI (4)), .int (nI (1)), .int (nI (0)), .int (nI (2))]) dX7_kindWithBody_40 rfl (by decide) (by decide) rfl ?_
  refine zv_goto (tgt := 4) dX7_kindWithBody_43 (by decide) ?_
  refine zv_iload_n dX7_kindWithBody_4 rfl rfl ?_
  refine zv_bipush (v := nI (6)) dX7_kindWithBody_5 (by decide) ?_
  refine zv_icN_ge (tgt := 46) dX7_kindWithBody_7 (by decide) (by omega) (by omega) (fun h7 => (absurd h7 (by decide))) (fun h7 => ?_)
  refine zv_iload_n dX7_kindWithBody_10 rfl rfl ?_
  refine zv_if_lt (tgt := 46) dX7_kindWithBody_11 (by decide) (fun h11 => (absurd h11 (by decide))) (fun h11 => ?_)
  refine zv_iload_n dX7_kindWithBody_14 rfl rfl ?_
  refine zv_bipush (v := nI (6)) dX7_kindWithBody_15 (by decide) ?_
  refine zv_icN_ge (tgt := 46) dX7_kindWithBody_17 (by decide) (by omega) (by omega) (fun h17 => (absurd h17 (by decide))) (fun h17 => ?_)
  refine zv_gets (b := 1) dX7_kindWithBody_20 (Or.inl ⟨rfl, st_323⟩) ?_
  refine zv_iload_n dX7_kindWithBody_23 rfl rfl ?_
  refine zv_iconst (v := nI (4)) dX7_kindWithBody_24 (by decide) ?_
  refine zv_imul dX7_kindWithBody_25 ?_
  refine cc_top (y := nI (0)) (by decide) ?_
  refine zv_iload_n dX7_kindWithBody_26 rfl rfl ?_
  refine zv_iadd dX7_kindWithBody_27 ?_
  refine cc_top (y := nI (1)) (by decide) ?_
  refine zv_bald (j := 1) (x := nI (11)) dX7_kindWithBody_28 (rfl) (by omega) (rfl) ?_
  refine zv_if_eq (tgt := 34) dX7_kindWithBody_29 (by decide) (fun h29 => (absurd h29 (by decide))) (fun h29 => ?_)
  refine zv_iload_n dX7_kindWithBody_32 rfl rfl ?_
  refine zv_iret dX7_kindWithBody_33 rfl rfl ?_
  exact ⟨rfl, rfl, rfl, rfl, rfl⟩
theorem cK_4_2 (d : Nat) {E : zv_E} {sh : zv_S} {I : zv_I} {J : zv_J} {R : zv_R} : zv_V E mX7_kindWithBody d 0 0 0 [.int (nI 4), .int (nI 2)] [] sh I J R (cc_p (nI 4) sh I J R) := by
  refine zv_iload_n dX7_kindWithBody_0 rfl rfl ?_
  refine zv_istore_n (lv' := [.int (nI (4)), .int (nI (2)), .int (nI (4))]) dX7_kindWithBody_1 rfl (by decide) rfl ?_
  refine zv_iconst (v := nI (0)) dX7_kindWithBody_2 (by decide) ?_
  refine zv_istore_n (lv' := [.int (nI (4)), .int (nI (2)), .int (nI (4)), .int (nI (0))]) dX7_kindWithBody_3 rfl (by decide) rfl ?_
  refine zv_iload_n dX7_kindWithBody_4 rfl rfl ?_
  refine zv_bipush (v := nI (6)) dX7_kindWithBody_5 (by decide) ?_
  refine zv_icN_ge (tgt := 46) dX7_kindWithBody_7 (by decide) (by omega) (by omega) (fun h7 => (absurd h7 (by decide))) (fun h7 => ?_)
  refine zv_iload_n dX7_kindWithBody_10 rfl rfl ?_
  refine zv_if_lt (tgt := 46) dX7_kindWithBody_11 (by decide) (fun h11 => (absurd h11 (by decide))) (fun h11 => ?_)
  refine zv_iload_n dX7_kindWithBody_14 rfl rfl ?_
  refine zv_bipush (v := nI (6)) dX7_kindWithBody_15 (by decide) ?_
  refine zv_icN_ge (tgt := 46) dX7_kindWithBody_17 (by decide) (by omega) (by omega) (fun h17 => (absurd h17 (by decide))) (fun h17 => ?_)
  refine zv_gets (b := 1) dX7_kindWithBody_20 (Or.inl ⟨rfl, st_323⟩) ?_
  refine zv_iload_n dX7_kindWithBody_23 rfl rfl ?_
  refine zv_iconst (v := nI (4)) dX7_kindWithBody_24 (by decide) ?_
  refine zv_imul dX7_kindWithBody_25 ?_
  refine cc_top (y := nI (16)) (by decide) ?_
  refine zv_iload_n dX7_kindWithBody_26 rfl rfl ?_
  refine zv_iadd dX7_kindWithBody_27 ?_
  refine cc_top (y := nI (18)) (by decide) ?_
  refine zv_bald (j := 18) (x := nI (50)) dX7_kindWithBody_28 (rfl) (by omega) (rfl) ?_
  refine zv_if_eq (tgt := 34) dX7_kindWithBody_29 (by decide) (fun h29 => (absurd h29 (by decide))) (fun h29 => ?_)
  refine zv_iload_n dX7_kindWithBody_32 rfl rfl ?_
  refine zv_iret dX7_kindWithBody_33 rfl rfl ?_
  exact ⟨rfl, rfl, rfl, rfl, rfl⟩
theorem cK_4_3 (d : Nat) {E : zv_E} {sh : zv_S} {I : zv_I} {J : zv_J} {R : zv_R} : zv_V E mX7_kindWithBody d 0 0 0 [.int (nI 4), .int (nI 3)] [] sh I J R (cc_p (nI 0) sh I J R) := by
  refine zv_iload_n dX7_kindWithBody_0 rfl rfl ?_
  refine zv_istore_n (lv' := [.int (nI (4)), .int (nI (3)), .int (nI (4))]) dX7_kindWithBody_1 rfl (by decide) rfl ?_
  refine zv_iconst (v := nI (0)) dX7_kindWithBody_2 (by decide) ?_
  refine zv_istore_n (lv' := [.int (nI (4)), .int (nI (3)), .int (nI (4)), .int (nI (0))]) dX7_kindWithBody_3 rfl (by decide) rfl ?_
  refine zv_iload_n dX7_kindWithBody_4 rfl rfl ?_
  refine zv_bipush (v := nI (6)) dX7_kindWithBody_5 (by decide) ?_
  refine zv_icN_ge (tgt := 46) dX7_kindWithBody_7 (by decide) (by omega) (by omega) (fun h7 => (absurd h7 (by decide))) (fun h7 => ?_)
  refine zv_iload_n dX7_kindWithBody_10 rfl rfl ?_
  refine zv_if_lt (tgt := 46) dX7_kindWithBody_11 (by decide) (fun h11 => (absurd h11 (by decide))) (fun h11 => ?_)
  refine zv_iload_n dX7_kindWithBody_14 rfl rfl ?_
  refine zv_bipush (v := nI (6)) dX7_kindWithBody_15 (by decide) ?_
  refine zv_icN_ge (tgt := 46) dX7_kindWithBody_17 (by decide) (by omega) (by omega) (fun h17 => (absurd h17 (by decide))) (fun h17 => ?_)
  refine zv_gets (b := 1) dX7_kindWithBody_20 (Or.inl ⟨rfl, st_323⟩) ?_
  refine zv_iload_n dX7_kindWithBody_23 rfl rfl ?_
  refine zv_iconst (v := nI (4)) dX7_kindWithBody_24 (by decide) ?_
  refine zv_imul dX7_kindWithBody_25 ?_
  refine cc_top (y := nI (16)) (by decide) ?_
  refine zv_iload_n dX7_kindWithBody_26 rfl rfl ?_
  refine zv_iadd dX7_kindWithBody_27 ?_
  refine cc_top (y := nI (19)) (by decide) ?_
  refine zv_bald (j := 19) (x := nI (0)) dX7_kindWithBody_28 (rfl) (by omega) (rfl) ?_
  refine zv_if_eq (tgt := 34) dX7_kindWithBody_29 (by decide) (fun h29 => ?_) (fun h29 => (absurd (by decide) h29))
  refine zv_gets (b := 2) dX7_kindWithBody_34 (Or.inr ⟨rfl, st_320⟩) ?_
  refine zv_iload_n dX7_kindWithBody_37 rfl rfl ?_
  refine zv_kald (j := 4) (x := nI (3)) dX7_kindWithBody_38 (rfl) (by omega) (rfl) ?_
  refine zv_istore_n (lv' := [.int (nI (4)), .int (nI (3)), .int (nI (3)), .int (nI (0))]) dX7_kindWithBody_39 rfl (by decide) rfl ?_
  refine zv_iinc (v := nI (1)) (lv' := [.int (nI (4)), .int (nI (3)), .int (nI (3)), .int (nI (1))]) dX7_kindWithBody_40 rfl (by decide) (by decide) rfl ?_
  refine zv_goto (tgt := 4) dX7_kindWithBody_43 (by decide) ?_
  refine zv_iload_n dX7_kindWithBody_4 rfl rfl ?_
  refine zv_bipush (v := nI (6)) dX7_kindWithBody_5 (by decide) ?_
  refine zv_icN_ge (tgt := 46) dX7_kindWithBody_7 (by decide) (by omega) (by omega) (fun h7 => (absurd h7 (by decide))) (fun h7 => ?_)
  refine zv_iload_n dX7_kindWithBody_10 rfl rfl ?_
  refine zv_if_lt (tgt := 46) dX7_kindWithBody_11 (by decide) (fun h11 => (absurd h11 (by decide))) (fun h11 => ?_)
  refine zv_iload_n dX7_kindWithBody_14 rfl rfl ?_
  refine zv_bipush (v := nI (6)) dX7_kindWithBody_15 (by decide) ?_
  refine zv_icN_ge (tgt := 46) dX7_kindWithBody_17 (by decide) (by omega) (by omega) (fun h17 => (absurd h17 (by decide))) (fun h17 => ?_)
  refine zv_gets (b := 1) dX7_kindWithBody_20 (Or.inl ⟨rfl, st_323⟩) ?_
  refine zv_iload_n dX7_kindWithBody_23 rfl rfl ?_
  refine zv_iconst (v := nI (4)) dX7_kindWithBody_24 (by decide) ?_
  refine zv_imul dX7_kindWithBody_25 ?_
  refine cc_top (y := nI (12)) (by decide) ?_
  refine zv_iload_n dX7_kindWithBody_26 rfl rfl ?_
  refine zv_iadd dX7_kindWithBody_27 ?_
  refine cc_top (y := nI (15)) (by decide) ?_
  refine zv_bald (j := 15) (x := nI (0)) dX7_kindWithBody_28 (rfl) (by omega) (rfl) ?_
  refine zv_if_eq (tgt := 34) dX7_kindWithBody_29 (by decide) (fun h29 => ?_) (fun h29 => (absurd (by decide) h29))
  refine zv_gets (b := 2) dX7_kindWithBody_34 (Or.inr ⟨rfl, st_320⟩) ?_
  refine zv_iload_n dX7_kindWithBody_37 rfl rfl ?_
  refine zv_kald (j := 3) (x := nI (0)) dX7_kindWithBody_38 (rfl) (by omega) (rfl) ?_
  refine zv_istore_n (lv' := [.int (nI (4)), .int (nI (3)), .int (nI (0)), .int (nI (1))]) dX7_kindWithBody_39 rfl (by decide) rfl ?_
  refine zv_iinc (v := nI (2)) (lv' := [.int (nI (4)), .int (nI (3)), .int (nI (0)), .int (nI (2))]) dX7_kindWithBody_40 rfl (by decide) (by decide) rfl ?_
  refine zv_goto (tgt := 4) dX7_kindWithBody_43 (by decide) ?_
  refine zv_iload_n dX7_kindWithBody_4 rfl rfl ?_
  refine zv_bipush (v := nI (6)) dX7_kindWithBody_5 (by decide) ?_
  refine zv_icN_ge (tgt := 46) dX7_kindWithBody_7 (by decide) (by omega) (by omega) (fun h7 => (absurd h7 (by decide))) (fun h7 => ?_)
  refine zv_iload_n dX7_kindWithBody_10 rfl rfl ?_
  refine zv_if_lt (tgt := 46) dX7_kindWithBody_11 (by decide) (fun h11 => (absurd h11 (by decide))) (fun h11 => ?_)
  refine zv_iload_n dX7_kindWithBody_14 rfl rfl ?_
  refine zv_bipush (v := nI (6)) dX7_kindWithBody_15 (by decide) ?_
  refine zv_icN_ge (tgt := 46) dX7_kindWithBody_17 (by decide) (by omega) (by omega) (fun h17 => (absurd h17 (by decide))) (fun h17 => ?_)
  refine zv_gets (b := 1) dX7_kindWithBody_20 (Or.inl ⟨rfl, st_323⟩) ?_
  refine zv_iload_n dX7_kindWithBody_23 rfl rfl ?_
  refine zv_iconst (v := nI (4)) dX7_kindWithBody_24 (by decide) ?_
  refine zv_imul dX7_kindWithBody_25 ?_
  refine cc_top (y := nI (0)) (by decide) ?_
  refine zv_iload_n dX7_kindWithBody_26 rfl rfl ?_
  refine zv_iadd dX7_kindWithBody_27 ?_
  refine cc_top (y := nI (3)) (by decide) ?_
  refine zv_bald (j := 3) (x := nI (13)) dX7_kindWithBody_28 (rfl) (by omega) (rfl) ?_
  refine zv_if_eq (tgt := 34) dX7_kindWithBody_29 (by decide) (fun h29 => (absurd h29 (by decide))) (fun h29 => ?_)
  refine zv_iload_n dX7_kindWithBody_32 rfl rfl ?_
  refine zv_iret dX7_kindWithBody_33 rfl rfl ?_
  exact ⟨rfl, rfl, rfl, rfl, rfl⟩
theorem cK_5_0 (d : Nat) {E : zv_E} {sh : zv_S} {I : zv_I} {J : zv_J} {R : zv_R} : zv_V E mX7_kindWithBody d 0 0 0 [.int (nI 5), .int (nI 0)] [] sh I J R (cc_p (nI 3) sh I J R) := by
  refine zv_iload_n dX7_kindWithBody_0 rfl rfl ?_
  refine zv_istore_n (lv' := [.int (nI (5)), .int (nI (0)), .int (nI (5))]) dX7_kindWithBody_1 rfl (by decide) rfl ?_
  refine zv_iconst (v := nI (0)) dX7_kindWithBody_2 (by decide) ?_
  refine zv_istore_n (lv' := [.int (nI (5)), .int (nI (0)), .int (nI (5)), .int (nI (0))]) dX7_kindWithBody_3 rfl (by decide) rfl ?_
  refine zv_iload_n dX7_kindWithBody_4 rfl rfl ?_
  refine zv_bipush (v := nI (6)) dX7_kindWithBody_5 (by decide) ?_
  refine zv_icN_ge (tgt := 46) dX7_kindWithBody_7 (by decide) (by omega) (by omega) (fun h7 => (absurd h7 (by decide))) (fun h7 => ?_)
  refine zv_iload_n dX7_kindWithBody_10 rfl rfl ?_
  refine zv_if_lt (tgt := 46) dX7_kindWithBody_11 (by decide) (fun h11 => (absurd h11 (by decide))) (fun h11 => ?_)
  refine zv_iload_n dX7_kindWithBody_14 rfl rfl ?_
  refine zv_bipush (v := nI (6)) dX7_kindWithBody_15 (by decide) ?_
  refine zv_icN_ge (tgt := 46) dX7_kindWithBody_17 (by decide) (by omega) (by omega) (fun h17 => (absurd h17 (by decide))) (fun h17 => ?_)
  refine zv_gets (b := 1) dX7_kindWithBody_20 (Or.inl ⟨rfl, st_323⟩) ?_
  refine zv_iload_n dX7_kindWithBody_23 rfl rfl ?_
  refine zv_iconst (v := nI (4)) dX7_kindWithBody_24 (by decide) ?_
  refine zv_imul dX7_kindWithBody_25 ?_
  refine cc_top (y := nI (20)) (by decide) ?_
  refine zv_iload_n dX7_kindWithBody_26 rfl rfl ?_
  refine zv_iadd dX7_kindWithBody_27 ?_
  refine cc_top (y := nI (20)) (by decide) ?_
  refine zv_bald (j := 20) (x := nI (0)) dX7_kindWithBody_28 (rfl) (by omega) (rfl) ?_
  refine zv_if_eq (tgt := 34) dX7_kindWithBody_29 (by decide) (fun h29 => ?_) (fun h29 => (absurd (by decide) h29))
  refine zv_gets (b := 2) dX7_kindWithBody_34 (Or.inr ⟨rfl, st_320⟩) ?_
  refine zv_iload_n dX7_kindWithBody_37 rfl rfl ?_
  refine zv_kald (j := 5) (x := nI (4)) dX7_kindWithBody_38 (rfl) (by omega) (rfl) ?_
  refine zv_istore_n (lv' := [.int (nI (5)), .int (nI (0)), .int (nI (4)), .int (nI (0))]) dX7_kindWithBody_39 rfl (by decide) rfl ?_
  refine zv_iinc (v := nI (1)) (lv' := [.int (nI (5)), .int (nI (0)), .int (nI (4)), .int (nI (1))]) dX7_kindWithBody_40 rfl (by decide) (by decide) rfl ?_
  refine zv_goto (tgt := 4) dX7_kindWithBody_43 (by decide) ?_
  refine zv_iload_n dX7_kindWithBody_4 rfl rfl ?_
  refine zv_bipush (v := nI (6)) dX7_kindWithBody_5 (by decide) ?_
  refine zv_icN_ge (tgt := 46) dX7_kindWithBody_7 (by decide) (by omega) (by omega) (fun h7 => (absurd h7 (by decide))) (fun h7 => ?_)
  refine zv_iload_n dX7_kindWithBody_10 rfl rfl ?_
  refine zv_if_lt (tgt := 46) dX7_kindWithBody_11 (by decide) (fun h11 => (absurd h11 (by decide))) (fun h11 => ?_)
  refine zv_iload_n dX7_kindWithBody_14 rfl rfl ?_
  refine zv_bipush (v := nI (6)) dX7_kindWithBody_15 (by decide) ?_
  refine zv_icN_ge (tgt := 46) dX7_kindWithBody_17 (by decide) (by omega) (by omega) (fun h17 => (absurd h17 (by decide))) (fun h17 => ?_)
  refine zv_gets (b := 1) dX7_kindWithBody_20 (Or.inl ⟨rfl, st_323⟩) ?_
  refine zv_iload_n dX7_kindWithBody_23 rfl rfl ?_
  refine zv_iconst (v := nI (4)) dX7_kindWithBody_24 (by decide) ?_
  refine zv_imul dX7_kindWithBody_25 ?_
  refine cc_top (y := nI (16)) (by decide) ?_
  refine zv_iload_n dX7_kindWithBody_26 rfl rfl ?_
  refine zv_iadd dX7_kindWithBody_27 ?_
  refine cc_top (y := nI (16)) (by decide) ?_
  refine zv_bald (j := 16) (x := nI (0)) dX7_kindWithBody_28 (rfl) (by omega) (rfl) ?_
  refine zv_if_eq (tgt := 34) dX7_kindWithBody_29 (by decide) (fun h29 => ?_) (fun h29 => (absurd (by decide) h29))
  refine zv_gets (b := 2) dX7_kindWithBody_34 (Or.inr ⟨rfl, st_320⟩) ?_
  refine zv_iload_n dX7_kindWithBody_37 rfl rfl ?_
  refine zv_kald (j := 4) (x := nI (3)) dX7_kindWithBody_38 (rfl) (by omega) (rfl) ?_
  refine zv_istore_n (lv' := [.int (nI (5)), .int (nI (0)), .int (nI (3)), .int (nI (1))]) dX7_kindWithBody_39 rfl (by decide) rfl ?_
  refine zv_iinc (v := nI (2)) (lv' := [.int (nI (5)), .int (nI (0)), .int (nI (3)), .int (nI (2))]) dX7_kindWithBody_40 rfl (by decide) (by decide) rfl ?_
  refine zv_goto (tgt := 4) dX7_kindWithBody_43 (by decide) ?_
  refine zv_iload_n dX7_kindWithBody_4 rfl rfl ?_
  refine zv_bipush (v := nI (6)) dX7_kindWithBody_5 (by decide) ?_
  refine zv_icN_ge (tgt := 46) dX7_kindWithBody_7 (by decide) (by omega) (by omega) (fun h7 => (absurd h7 (by decide))) (fun h7 => ?_)
  refine zv_iload_n dX7_kindWithBody_10 rfl rfl ?_
  refine zv_if_lt (tgt := 46) dX7_kindWithBody_11 (by decide) (fun h11 => (absurd h11 (by decide))) (fun h11 => ?_)
  refine zv_iload_n dX7_kindWithBody_14 rfl rfl ?_
  refine zv_bipush (v := nI (6)) dX7_kindWithBody_15 (by decide) ?_
  refine zv_icN_ge (tgt := 46) dX7_kindWithBody_17 (by decide) (by omega) (by omega) (fun h17 => (absurd h17 (by decide))) (fun h17 => ?_)
  refine zv_gets (b := 1) dX7_kindWithBody_20 (Or.inl ⟨rfl, st_323⟩) ?_
  refine zv_iload_n dX7_kindWithBody_23 rfl rfl ?_
  refine zv_iconst (v := nI (4)) dX7_kindWithBody_24 (by decide) ?_
  refine zv_imul dX7_kindWithBody_25 ?_
  refine cc_top (y := nI (12)) (by decide) ?_
  refine zv_iload_n dX7_kindWithBody_26 rfl rfl ?_
  refine zv_iadd dX7_kindWithBody_27 ?_
  refine cc_top (y := nI (12)) (by decide) ?_
  refine zv_bald (j := 12) (x := nI (40)) dX7_kindWithBody_28 (rfl) (by omega) (rfl) ?_
  refine zv_if_eq (tgt := 34) dX7_kindWithBody_29 (by decide) (fun h29 => (absurd h29 (by decide))) (fun h29 => ?_)
  refine zv_iload_n dX7_kindWithBody_32 rfl rfl ?_
  refine zv_iret dX7_kindWithBody_33 rfl rfl ?_
  exact ⟨rfl, rfl, rfl, rfl, rfl⟩
theorem cK_5_1 (d : Nat) {E : zv_E} {sh : zv_S} {I : zv_I} {J : zv_J} {R : zv_R} : zv_V E mX7_kindWithBody d 0 0 0 [.int (nI 5), .int (nI 1)] [] sh I J R (cc_p (nI 5) sh I J R) := by
  refine zv_iload_n dX7_kindWithBody_0 rfl rfl ?_
  refine zv_istore_n (lv' := [.int (nI (5)), .int (nI (1)), .int (nI (5))]) dX7_kindWithBody_1 rfl (by decide) rfl ?_
  refine zv_iconst (v := nI (0)) dX7_kindWithBody_2 (by decide) ?_
  refine zv_istore_n (lv' := [.int (nI (5)), .int (nI (1)), .int (nI (5)), .int (nI (0))]) dX7_kindWithBody_3 rfl (by decide) rfl ?_
  refine zv_iload_n dX7_kindWithBody_4 rfl rfl ?_
  refine zv_bipush (v := nI (6)) dX7_kindWithBody_5 (by decide) ?_
  refine zv_icN_ge (tgt := 46) dX7_kindWithBody_7 (by decide) (by omega) (by omega) (fun h7 => (absurd h7 (by decide))) (fun h7 => ?_)
  refine zv_iload_n dX7_kindWithBody_10 rfl rfl ?_
  refine zv_if_lt (tgt := 46) dX7_kindWithBody_11 (by decide) (fun h11 => (absurd h11 (by decide))) (fun h11 => ?_)
  refine zv_iload_n dX7_kindWithBody_14 rfl rfl ?_
  refine zv_bipush (v := nI (6)) dX7_kindWithBody_15 (by decide) ?_
  refine zv_icN_ge (tgt := 46) dX7_kindWithBody_17 (by decide) (by omega) (by omega) (fun h17 => (absurd h17 (by decide))) (fun h17 => ?_)
  refine zv_gets (b := 1) dX7_kindWithBody_20 (Or.inl ⟨rfl, st_323⟩) ?_
  refine zv_iload_n dX7_kindWithBody_23 rfl rfl ?_
  refine zv_iconst (v := nI (4)) dX7_kindWithBody_24 (by decide) ?_
  refine zv_imul dX7_kindWithBody_25 ?_
  refine cc_top (y := nI (20)) (by decide) ?_
  refine zv_iload_n dX7_kindWithBody_26 rfl rfl ?_
  refine zv_iadd dX7_kindWithBody_27 ?_
  refine cc_top (y := nI (21)) (by decide) ?_
  refine zv_bald (j := 21) (x := nI (60)) dX7_kindWithBody_28 (rfl) (by omega) (rfl) ?_
  refine zv_if_eq (tgt := 34) dX7_kindWithBody_29 (by decide) (fun h29 => (absurd h29 (by decide))) (fun h29 => ?_)
  refine zv_iload_n dX7_kindWithBody_32 rfl rfl ?_
  refine zv_iret dX7_kindWithBody_33 rfl rfl ?_
  exact ⟨rfl, rfl, rfl, rfl, rfl⟩
theorem cK_5_2 (d : Nat) {E : zv_E} {sh : zv_S} {I : zv_I} {J : zv_J} {R : zv_R} : zv_V E mX7_kindWithBody d 0 0 0 [.int (nI 5), .int (nI 2)] [] sh I J R (cc_p (nI 4) sh I J R) := by
  refine zv_iload_n dX7_kindWithBody_0 rfl rfl ?_
  refine zv_istore_n (lv' := [.int (nI (5)), .int (nI (2)), .int (nI (5))]) dX7_kindWithBody_1 rfl (by decide) rfl ?_
  refine zv_iconst (v := nI (0)) dX7_kindWithBody_2 (by decide) ?_
  refine zv_istore_n (lv' := [.int (nI (5)), .int (nI (2)), .int (nI (5)), .int (nI (0))]) dX7_kindWithBody_3 rfl (by decide) rfl ?_
  refine zv_iload_n dX7_kindWithBody_4 rfl rfl ?_
  refine zv_bipush (v := nI (6)) dX7_kindWithBody_5 (by decide) ?_
  refine zv_icN_ge (tgt := 46) dX7_kindWithBody_7 (by decide) (by omega) (by omega) (fun h7 => (absurd h7 (by decide))) (fun h7 => ?_)
  refine zv_iload_n dX7_kindWithBody_10 rfl rfl ?_
  refine zv_if_lt (tgt := 46) dX7_kindWithBody_11 (by decide) (fun h11 => (absurd h11 (by decide))) (fun h11 => ?_)
  refine zv_iload_n dX7_kindWithBody_14 rfl rfl ?_
  refine zv_bipush (v := nI (6)) dX7_kindWithBody_15 (by decide) ?_
  refine zv_icN_ge (tgt := 46) dX7_kindWithBody_17 (by decide) (by omega) (by omega) (fun h17 => (absurd h17 (by decide))) (fun h17 => ?_)
  refine zv_gets (b := 1) dX7_kindWithBody_20 (Or.inl ⟨rfl, st_323⟩) ?_
  refine zv_iload_n dX7_kindWithBody_23 rfl rfl ?_
  refine zv_iconst (v := nI (4)) dX7_kindWithBody_24 (by decide) ?_
  refine zv_imul dX7_kindWithBody_25 ?_
  refine cc_top (y := nI (20)) (by decide) ?_
  refine zv_iload_n dX7_kindWithBody_26 rfl rfl ?_
  refine zv_iadd dX7_kindWithBody_27 ?_
  refine cc_top (y := nI (22)) (by decide) ?_
  refine zv_bald (j := 22) (x := nI (0)) dX7_kindWithBody_28 (rfl) (by omega) (rfl) ?_
  refine zv_if_eq (tgt := 34) dX7_kindWithBody_29 (by decide) (fun h29 => ?_) (fun h29 => (absurd (by decide) h29))
  refine zv_gets (b := 2) dX7_kindWithBody_34 (Or.inr ⟨rfl, st_320⟩) ?_
  refine zv_iload_n dX7_kindWithBody_37 rfl rfl ?_
  refine zv_kald (j := 5) (x := nI (4)) dX7_kindWithBody_38 (rfl) (by omega) (rfl) ?_
  refine zv_istore_n (lv' := [.int (nI (5)), .int (nI (2)), .int (nI (4)), .int (nI (0))]) dX7_kindWithBody_39 rfl (by decide) rfl ?_
  refine zv_iinc (v := nI (1)) (lv' := [.int (nI (5)), .int (nI (2)), .int (nI (4)), .int (nI (1))]) dX7_kindWithBody_40 rfl (by decide) (by decide) rfl ?_
  refine zv_goto (tgt := 4) dX7_kindWithBody_43 (by decide) ?_
  refine zv_iload_n dX7_kindWithBody_4 rfl rfl ?_
  refine zv_bipush (v := nI (6)) dX7_kindWithBody_5 (by decide) ?_
  refine zv_icN_ge (tgt := 46) dX7_kindWithBody_7 (by decide) (by omega) (by omega) (fun h7 => (absurd h7 (by decide))) (fun h7 => ?_)
  refine zv_iload_n dX7_kindWithBody_10 rfl rfl ?_
  refine zv_if_lt (tgt := 46) dX7_kindWithBody_11 (by decide) (fun h11 => (absurd h11 (by decide))) (fun h11 => ?_)
  refine zv_iload_n dX7_kindWithBody_14 rfl rfl ?_
  refine zv_bipush (v := nI (6)) dX7_kindWithBody_15 (by decide) ?_
  refine zv_icN_ge (tgt := 46) dX7_kindWithBody_17 (by decide) (by omega) (by omega) (fun h17 => (absurd h17 (by decide))) (fun h17 => ?_)
  refine zv_gets (b := 1) dX7_kindWithBody_20 (Or.inl ⟨rfl, st_323⟩) ?_
  refine zv_iload_n dX7_kindWithBody_23 rfl rfl ?_
  refine zv_iconst (v := nI (4)) dX7_kindWithBody_24 (by decide) ?_
  refine zv_imul dX7_kindWithBody_25 ?_
  refine cc_top (y := nI (16)) (by decide) ?_
  refine zv_iload_n dX7_kindWithBody_26 rfl rfl ?_
  refine zv_iadd dX7_kindWithBody_27 ?_
  refine cc_top (y := nI (18)) (by decide) ?_
  refine zv_bald (j := 18) (x := nI (50)) dX7_kindWithBody_28 (rfl) (by omega) (rfl) ?_
  refine zv_if_eq (tgt := 34) dX7_kindWithBody_29 (by decide) (fun h29 => (absurd h29 (by decide))) (fun h29 => ?_)
  refine zv_iload_n dX7_kindWithBody_32 rfl rfl ?_
  refine zv_iret dX7_kindWithBody_33 rfl rfl ?_
  exact ⟨rfl, rfl, rfl, rfl, rfl⟩
theorem cK_5_3 (d : Nat) {E : zv_E} {sh : zv_S} {I : zv_I} {J : zv_J} {R : zv_R} : zv_V E mX7_kindWithBody d 0 0 0 [.int (nI 5), .int (nI 3)] [] sh I J R (cc_p (nI 5) sh I J R) := by
  refine zv_iload_n dX7_kindWithBody_0 rfl rfl ?_
  refine zv_istore_n (lv' := [.int (nI (5)), .int (nI (3)), .int (nI (5))]) dX7_kindWithBody_1 rfl (by decide) rfl ?_
  refine zv_iconst (v := nI (0)) dX7_kindWithBody_2 (by decide) ?_
  refine zv_istore_n (lv' := [.int (nI (5)), .int (nI (3)), .int (nI (5)), .int (nI (0))]) dX7_kindWithBody_3 rfl (by decide) rfl ?_
  refine zv_iload_n dX7_kindWithBody_4 rfl rfl ?_
  refine zv_bipush (v := nI (6)) dX7_kindWithBody_5 (by decide) ?_
  refine zv_icN_ge (tgt := 46) dX7_kindWithBody_7 (by decide) (by omega) (by omega) (fun h7 => (absurd h7 (by decide))) (fun h7 => ?_)
  refine zv_iload_n dX7_kindWithBody_10 rfl rfl ?_
  refine zv_if_lt (tgt := 46) dX7_kindWithBody_11 (by decide) (fun h11 => (absurd h11 (by decide))) (fun h11 => ?_)
  refine zv_iload_n dX7_kindWithBody_14 rfl rfl ?_
  refine zv_bipush (v := nI (6)) dX7_kindWithBody_15 (by decide) ?_
  refine zv_icN_ge (tgt := 46) dX7_kindWithBody_17 (by decide) (by omega) (by omega) (fun h17 => (absurd h17 (by decide))) (fun h17 => ?_)
  refine zv_gets (b := 1) dX7_kindWithBody_20 (Or.inl ⟨rfl, st_323⟩) ?_
  refine zv_iload_n dX7_kindWithBody_23 rfl rfl ?_
  refine zv_iconst (v := nI (4)) dX7_kindWithBody_24 (by decide) ?_
  refine zv_imul dX7_kindWithBody_25 ?_
  refine cc_top (y := nI (20)) (by decide) ?_
  refine zv_iload_n dX7_kindWithBody_26 rfl rfl ?_
  refine zv_iadd dX7_kindWithBody_27 ?_
  refine cc_top (y := nI (23)) (by decide) ?_
  refine zv_bald (j := 23) (x := nI (61)) dX7_kindWithBody_28 (rfl) (by omega) (rfl) ?_
  refine zv_if_eq (tgt := 34) dX7_kindWithBody_29 (by decide) (fun h29 => (absurd h29 (by decide))) (fun h29 => ?_)
  refine zv_iload_n dX7_kindWithBody_32 rfl rfl ?_
  refine zv_iret dX7_kindWithBody_33 rfl rfl ?_
  exact ⟨rfl, rfl, rfl, rfl, rfl⟩
def ct_l : zv_I → Nat → List Nat → zv_I
  | I, _, [] => I
  | I, n, b :: L => ct_l (ct_b I n b) (n + 1) L
theorem ct_l_app : ∀ (L M : List Nat) (I : zv_I) (n : Nat), ct_l I n (L ++ M) = ct_l (ct_l I n L) (n + L.length) M
  | [], _, _, _ => rfl
  | b :: L, M, I, n => by
    show ct_l (ct_b I n b) (n + 1) (L ++ M) = ct_l (ct_l (ct_b I n b) (n + 1) L) (n + (L.length + 1)) M
    rw [ct_l_app L M, show n + 1 + L.length = n + (L.length + 1) by omega]
theorem ct_b_o {I : zv_I} {n b t : Nat} (h1 : t ≠ 45) (h2 : t ≠ 46) : ct_b I n b t = I t := by unfold ct_b; rw [zv_u_row _ _ _ _ h1, zv_u_row _ _ _ _ h2]
theorem ct_l_o {t : Nat} (h1 : t ≠ 45) (h2 : t ≠ 46) : ∀ (L : List Nat) (I : zv_I) (n : Nat), ct_l I n L t = I t
  | [], _, _ => rfl
  | b :: L, I, n => (ct_l_o h1 h2 L (ct_b I n b) (n + 1)).trans (ct_b_o h1 h2)
theorem ct_l_45 : ∀ (L : List Nat) {I : zv_I} {n : Nat}, I 45 1 = nI n → ct_l I n L 45 1 = nI (n + L.length)
  | [], _, _, h => h
  | b :: L, I, n, _ => by
    have h := ct_l_45 L (I := ct_b I n b) (n := n + 1) (zv_u_s _ _ _ _)
    rw [show n + (b :: L).length = n + 1 + L.length by show n + (L.length + 1) = _; omega]
    exact h
def cp_l (I : zv_I) (R : zv_R) (l k : Nat) (s na nu cn : Int32) : Prop := I (300 + 3 * l) 1 = nI k ∧ I (300 + 3 * l) 4 = s ∧ I (300 + 3 * l) 5 = na ∧ I (300 + 3 * l) 8 = nu ∧ I (1000 + 8 * cc_ck R l) 1 = cn
theorem cp_b {I : zv_I} {R : zv_R} {l k n b : Nat} {s na nu cn : Int32} (P : cp_l I R l k s na nu cn) : cp_l (ct_b I n b) R l k s na nu cn := by
  unfold cp_l
  rw [ct_b_o (t := 300 + 3 * l) (by omega) (by omega), ct_b_o (t := 1000 + 8 * cc_ck R l) (by omega) (by omega)]
  exact P
theorem cp_t {I : zv_I} {R : zv_R} {l k n : Nat} {L : List Nat} {s na nu cn : Int32} (P : cp_l I R l k s na nu cn) : cp_l (ct_l I n L) R l k s na nu cn := by
  unfold cp_l
  rw [ct_l_o (t := 300 + 3 * l) (by omega) (by omega), ct_l_o (t := 1000 + 8 * cc_ck R l) (by omega) (by omega)]
  exact P
/-- where a letter and its clock lie -/
def cp_w (sh : zv_S) (R : zv_R) (l : Nat) : Prop := cc_W0 sh R ∧ cc_WL sh R l ∧ R (300 + 3 * l) 6 = some (1000 + 8 * cc_ck R l) ∧ cc_WK sh R (cc_ck R l)
def p_gf (f k : Nat) (s na nu cn x : Int32) : Int32 × List Nat := if f = 2 then ((p_nG k s na nu cn x).1 + nu * nI 7, 31 :: (p_nG k s na nu cn x).2) else if 4 ≤ f then ((p_nG k s na nu cn (x * nI 2)).1 + nI 1, 50 :: (p_nG k s na nu cn (x * nI 2)).2) else p_nG k s na nu cn x
def p_wf (f k : Nat) (s na nu cn x : Int32) : Int32 × List Nat := if f = 1 ∨ f = 2 then ((p_nW k s na nu cn x).1 ^^^ nI 5, 21 :: (p_nW k s na nu cn x).2) else if f = 5 then ((p_nW k s na nu cn (x + nI 2)).1 + (p_bear k s na nu cn x).1, 61 :: ((p_nW k s na nu cn (x + nI 2)).2 ++ (p_bear k s na nu cn x).2)) else p_nW k s na nu cn x
theorem p_give_f (k : Nat) (s na nu cn x : Int32) : p_give k s na nu cn x = p_gf k k s na nu cn x := rfl
theorem p_wait_f (k : Nat) (s na nu cn x : Int32) : p_wait k s na nu cn x = p_wf k k s na nu cn x := rfl
theorem p_gf_l (f k : Nat) (s na nu cn x : Int32) : (p_gf f k s na nu cn x).2.length ≤ 8 := by
  have h1 := p_nG_l k s na nu cn x
  have h2 := p_nG_l k s na nu cn (x * nI 2)
  unfold p_gf
  split
  · exact Nat.succ_le_succ h1
  · split
    · exact Nat.succ_le_succ h2
    · omega
theorem p_wf_l (f k : Nat) (s na nu cn x : Int32) : (p_wf f k s na nu cn x).2.length ≤ 14 := by
  have h1 := p_nW_l k s na nu cn x
  have h2 := p_nW_l k s na nu cn (x + nI 2)
  have h3 := p_bear_l k s na nu cn x
  unfold p_wf
  split
  · show _ + 1 ≤ 14
    omega
  · split
    · show List.length (_ ++ _) + 1 ≤ 14
      rw [List.length_append]
      omega
    · omega
theorem cP_age_0 (d : Nat) {E : zv_E} {sh : zv_S} {I : zv_I} {J : zv_J} {R : zv_R} {l k n dp : Nat} {s na nu cn : Int32} (w : cp_w sh R l) (hk : k < 6) (P : cp_l I R l k s na nu cn) (ht : I 45 1 = nI n) (hn : n + 1 ≤ 60) (hdp : dp + 1 ≤ 40) (x : Int32) : zv_V E mX7_perform (d + 1) 0 0 0 [.ref (300 + 3 * l), .ref 45, .int (nI 0), .int (nI 0), .int x, .int (nI dp)] [] sh I J R (cc_p (p_age 0 s na x).1 sh (ct_l I n (p_age 0 s na x).2) J R) := by
  refine zv_iload_n dX7_perform_0 rfl rfl ?_
  refine zv_iload_n dX7_perform_1 rfl rfl ?_
  refine cc_callS (As := [.int (nI (0)), .int (nI (0))]) (st := []) dX7_perform_2 csX7_317 rfl (by decide) (cc_c1 rfl (cc_c1 rfl cc_c0)) (Nat.le_of_ble_eq_true rfl) (cK_0_0 (d + 0)) (fun v s1 I1 J1 R1 q => ?_)
  obtain ⟨rfl, rfl, rfl, rfl, rfl⟩ := q
  show zv_V _ _ _ _ _ 5 [.ref (300 + 3 * l), .ref 45, .int (nI (0)), .int (nI (0)), .int (x), .int (nI (dp))] [.int (nI (0))] _ _ _ _ _
  refine zv_istore (lv' := [.ref (300 + 3 * l), .ref 45, .int (nI (0)), .int (nI (0)), .int (x), .int (nI (dp)), .int (nI (0))]) dX7_perform_5 (by decide) rfl ?_
  refine zv_iload dX7_perform_7 rfl ?_
  refine zv_iconst (v := (-1 : Int32)) dX7_perform_9 (by decide) ?_
  refine zv_icmp_eq (tgt := 20) dX7_perform_10 (by decide) (fun h10 => (absurd h10 (by decide))) (fun h10 => ?_)
  refine zv_iload dX7_perform_13 rfl ?_
  refine zv_bipush (v := nI (40)) dX7_perform_15 (by decide) ?_
  refine zv_icN_le (tgt := 22) dX7_perform_17 (by decide) (by omega) (by omega) (fun h17 => ?_) (fun h17 => (absurd h17 (by omega)))
  refine zv_aload_n dX7_perform_22 rfl rfl ?_
  refine zv_geti 2 1 (x := nI (k)) dX7_perform_23 flX7_102 (wWL_s w.2.1) rfl (P.1) ?_
  refine zv_istore (lv' := [.ref (300 + 3 * l), .ref 45, .int (nI (0)), .int (nI (0)), .int (x), .int (nI (dp)), .int (nI (0)), .int (nI (k))]) dX7_perform_26 (by decide) rfl ?_
  refine zv_gets (b := 2) dX7_perform_28 (Or.inr ⟨rfl, st_320⟩) ?_
  refine zv_iload dX7_perform_31 rfl ?_
  refine zv_kald (j := 0) (x := (-1 : Int32)) dX7_perform_33 (rfl) (by omega) (rfl) ?_
  refine zv_istore (lv' := [.ref (300 + 3 * l), .ref 45, .int (nI (0)), .int (nI (0)), .int (x), .int (nI (dp)), .int (nI (0)), .int (nI (k)), .int ((-1 : Int32))]) dX7_perform_34 (by decide) rfl ?_
  refine zv_iload dX7_perform_36 rfl ?_
  refine zv_iconst (v := nI (1)) dX7_perform_38 (by decide) ?_
  refine zv_iadd dX7_perform_39 ?_
  refine cc_top (nI_add (dp) (1)) ?_
  refine zv_istore (lv' := [.ref (300 + 3 * l), .ref 45, .int (nI (0)), .int (nI (0)), .int (x), .int (nI (dp)), .int (nI (0)), .int (nI (k)), .int ((-1 : Int32)), .int (nI (dp + 1))]) dX7_perform_40 (by decide) rfl ?_
  refine zv_gets (b := 1) dX7_perform_42 (Or.inl ⟨rfl, st_323⟩) ?_
  refine zv_iload dX7_perform_45 rfl ?_
  refine zv_iconst (v := nI (4)) dX7_perform_47 (by decide) ?_
  refine zv_imul dX7_perform_48 ?_
  refine cc_top (y := nI (0)) (by decide) ?_
  refine zv_iload_n dX7_perform_49 rfl rfl ?_
  refine zv_iadd dX7_perform_50 ?_
  refine cc_top (y := nI (0)) (by decide) ?_
  refine zv_bald (j := 0) (x := nI (10)) dX7_perform_51 (rfl) (by omega) (rfl) ?_
  refine zv_istore (lv' := [.ref (300 + 3 * l), .ref 45, .int (nI (0)), .int (nI (0)), .int (x), .int (nI (dp)), .int (nI (0)), .int (nI (k)), .int ((-1 : Int32)), .int (nI (dp + 1)), .int (nI (10))]) dX7_perform_52 (by decide) rfl ?_
  refine zv_aload_n dX7_perform_54 rfl rfl ?_
  refine zv_iload dX7_perform_55 rfl ?_
  refine cc_callV (As := [.int (nI (10))]) (st := []) (c := 5) dX7_perform_57 cvX7_326 (wW0_s45 w.1) rfl rfl rfl (by decide) (cc_c1 rfl cc_c0) (Nat.le_of_ble_eq_true rfl) (cC_begin (d + 0) w.1 (n := n) (b := 10) ht (by omega)) (fun v s1 I1 J1 R1 q => ?_)
  obtain ⟨rfl, rfl, rfl, rfl, rfl⟩ := q
  show zv_V _ _ _ _ _ 60 [.ref (300 + 3 * l), .ref 45, .int (nI (0)), .int (nI (0)), .int (x), .int (nI (dp)), .int (nI (0)), .int (nI (k)), .int ((-1 : Int32)), .int (nI (dp + 1)), .int (nI (10))] [] _ _ _ _ _
  refine zv_iload dX7_perform_60 rfl ?_
  refine zv_lookup (off := 106) (tgt := 168) dX7_perform_62 (by decide) (by decide) (by decide) ?_
  refine zv_iload dX7_perform_168 rfl ?_
  refine zv_aload_n dX7_perform_170 rfl rfl ?_
  refine zv_geti 2 4 (x := s) dX7_perform_171 flX7_111 (wWL_s w.2.1) rfl ((cp_b (n := n) (b := 10) P).2.1) ?_
  refine zv_iadd dX7_perform_174 ?_
  refine zv_iret dX7_perform_175 rfl rfl ?_
  exact ⟨rfl, rfl, rfl, rfl, rfl⟩
theorem cP_age_1 (d : Nat) {E : zv_E} {sh : zv_S} {I : zv_I} {J : zv_J} {R : zv_R} {l k n dp : Nat} {s na nu cn : Int32} (w : cp_w sh R l) (hk : k < 6) (P : cp_l I R l k s na nu cn) (ht : I 45 1 = nI n) (hn : n + 2 ≤ 60) (hdp : dp + 2 ≤ 40) (x : Int32) : zv_V E mX7_perform (d + 2) 0 0 0 [.ref (300 + 3 * l), .ref 45, .int (nI 1), .int (nI 0), .int x, .int (nI dp)] [] sh I J R (cc_p (p_age 1 s na x).1 sh (ct_l I n (p_age 1 s na x).2) J R) := by
  refine zv_iload_n dX7_perform_0 rfl rfl ?_
  refine zv_iload_n dX7_perform_1 rfl rfl ?_
  refine cc_callS (As := [.int (nI (1)), .int (nI (0))]) (st := []) dX7_perform_2 csX7_317 rfl (by decide) (cc_c1 rfl (cc_c1 rfl cc_c0)) (Nat.le_of_ble_eq_true rfl) (cK_1_0 (d + 1)) (fun v s1 I1 J1 R1 q => ?_)
  obtain ⟨rfl, rfl, rfl, rfl, rfl⟩ := q
  show zv_V _ _ _ _ _ 5 [.ref (300 + 3 * l), .ref 45, .int (nI (1)), .int (nI (0)), .int (x), .int (nI (dp))] [.int (nI (1))] _ _ _ _ _
  refine zv_istore (lv' := [.ref (300 + 3 * l), .ref 45, .int (nI (1)), .int (nI (0)), .int (x), .int (nI (dp)), .int (nI (1))]) dX7_perform_5 (by decide) rfl ?_
  refine zv_iload dX7_perform_7 rfl ?_
  refine zv_iconst (v := (-1 : Int32)) dX7_perform_9 (by decide) ?_
  refine zv_icmp_eq (tgt := 20) dX7_perform_10 (by decide) (fun h10 => (absurd h10 (by decide))) (fun h10 => ?_)
  refine zv_iload dX7_perform_13 rfl ?_
  refine zv_bipush (v := nI (40)) dX7_perform_15 (by decide) ?_
  refine zv_icN_le (tgt := 22) dX7_perform_17 (by decide) (by omega) (by omega) (fun h17 => ?_) (fun h17 => (absurd h17 (by omega)))
  refine zv_aload_n dX7_perform_22 rfl rfl ?_
  refine zv_geti 2 1 (x := nI (k)) dX7_perform_23 flX7_102 (wWL_s w.2.1) rfl (P.1) ?_
  refine zv_istore (lv' := [.ref (300 + 3 * l), .ref 45, .int (nI (1)), .int (nI (0)), .int (x), .int (nI (dp)), .int (nI (1)), .int (nI (k))]) dX7_perform_26 (by decide) rfl ?_
  refine zv_gets (b := 2) dX7_perform_28 (Or.inr ⟨rfl, st_320⟩) ?_
  refine zv_iload dX7_perform_31 rfl ?_
  refine zv_kald (j := 1) (x := nI (0)) dX7_perform_33 (rfl) (by omega) (rfl) ?_
  refine zv_istore (lv' := [.ref (300 + 3 * l), .ref 45, .int (nI (1)), .int (nI (0)), .int (x), .int (nI (dp)), .int (nI (1)), .int (nI (k)), .int (nI (0))]) dX7_perform_34 (by decide) rfl ?_
  refine zv_iload dX7_perform_36 rfl ?_
  refine zv_iconst (v := nI (1)) dX7_perform_38 (by decide) ?_
  refine zv_iadd dX7_perform_39 ?_
  refine cc_top (nI_add (dp) (1)) ?_
  refine zv_istore (lv' := [.ref (300 + 3 * l), .ref 45, .int (nI (1)), .int (nI (0)), .int (x), .int (nI (dp)), .int (nI (1)), .int (nI (k)), .int (nI (0)), .int (nI (dp + 1))]) dX7_perform_40 (by decide) rfl ?_
  refine zv_gets (b := 1) dX7_perform_42 (Or.inl ⟨rfl, st_323⟩) ?_
  refine zv_iload dX7_perform_45 rfl ?_
  refine zv_iconst (v := nI (4)) dX7_perform_47 (by decide) ?_
  refine zv_imul dX7_perform_48 ?_
  refine cc_top (y := nI (4)) (by decide) ?_
  refine zv_iload_n dX7_perform_49 rfl rfl ?_
  refine zv_iadd dX7_perform_50 ?_
  refine cc_top (y := nI (4)) (by decide) ?_
  refine zv_bald (j := 4) (x := nI (20)) dX7_perform_51 (rfl) (by omega) (rfl) ?_
  refine zv_istore (lv' := [.ref (300 + 3 * l), .ref 45, .int (nI (1)), .int (nI (0)), .int (x), .int (nI (dp)), .int (nI (1)), .int (nI (k)), .int (nI (0)), .int (nI (dp + 1)), .int (nI (20))]) dX7_perform_52 (by decide) rfl ?_
  refine zv_aload_n dX7_perform_54 rfl rfl ?_
  refine zv_iload dX7_perform_55 rfl ?_
  refine cc_callV (As := [.int (nI (20))]) (st := []) (c := 5) dX7_perform_57 cvX7_326 (wW0_s45 w.1) rfl rfl rfl (by decide) (cc_c1 rfl cc_c0) (Nat.le_of_ble_eq_true rfl) (cC_begin (d + 1) w.1 (n := n) (b := 20) ht (by omega)) (fun v s1 I1 J1 R1 q => ?_)
  obtain ⟨rfl, rfl, rfl, rfl, rfl⟩ := q
  show zv_V _ _ _ _ _ 60 [.ref (300 + 3 * l), .ref 45, .int (nI (1)), .int (nI (0)), .int (x), .int (nI (dp)), .int (nI (1)), .int (nI (k)), .int (nI (0)), .int (nI (dp + 1)), .int (nI (20))] [] _ _ _ _ _
  refine zv_iload dX7_perform_60 rfl ?_
  refine zv_lookup (off := 171) (tgt := 233) dX7_perform_62 (by decide) (by decide) (by decide) ?_
  refine zv_aload_n dX7_perform_233 rfl rfl ?_
  refine zv_aload_n dX7_perform_234 rfl rfl ?_
  refine zv_iload dX7_perform_235 rfl ?_
  refine zv_iconst (v := nI (0)) dX7_perform_237 (by decide) ?_
  refine zv_iload dX7_perform_238 rfl ?_
  refine zv_iload dX7_perform_240 rfl ?_
  refine cc_callS (As := [.ref (300 + 3 * l), .ref 45, .int (nI (0)), .int (nI (0)), .int (x), .int (nI (dp + 1))]) (st := []) dX7_perform_242 csX7_187 rfl (by decide) (cc_c1 rfl (cc_c1 rfl (cc_c1 rfl (cc_c1 rfl (cc_c1 rfl (cc_c1 rfl cc_c0)))))) (Nat.le_of_ble_eq_true rfl) (cP_age_0 (d + 0) w hk (cp_b (n := n) (b := 20) P) (zv_u_s _ _ _ _) (by omega) (by omega) x) (fun v s1 I1 J1 R1 q => ?_)
  obtain ⟨rfl, rfl, rfl, rfl, rfl⟩ := q
  show zv_V _ _ _ _ _ 245 [.ref (300 + 3 * l), .ref 45, .int (nI (1)), .int (nI (0)), .int (x), .int (nI (dp)), .int (nI (1)), .int (nI (k)), .int (nI (0)), .int (nI (dp + 1)), .int (nI (20))] [.int ((p_age 0 s na x).1)] _ _ _ _ _
  refine zv_iconst (v := nI (2)) dX7_perform_245 (by decide) ?_
  refine zv_imul dX7_perform_246 ?_
  refine zv_aload_n dX7_perform_247 rfl rfl ?_
  refine zv_geti 2 5 (x := na) dX7_perform_248 flX7_114 (wWL_s w.2.1) rfl ((cp_t (n := (n + 1)) (L := (p_age 0 s na x).2) (cp_b (n := n) (b := 20) P)).2.2.1) ?_
  refine zv_iadd dX7_perform_251 ?_
  refine zv_iret dX7_perform_252 rfl rfl ?_
  exact ⟨rfl, rfl, rfl, rfl, rfl⟩
theorem cP_age_2 (d : Nat) {E : zv_E} {sh : zv_S} {I : zv_I} {J : zv_J} {R : zv_R} {l k n dp : Nat} {s na nu cn : Int32} (w : cp_w sh R l) (hk : k < 6) (P : cp_l I R l k s na nu cn) (ht : I 45 1 = nI n) (hn : n + 2 ≤ 60) (hdp : dp + 2 ≤ 40) (x : Int32) : zv_V E mX7_perform (d + 2) 0 0 0 [.ref (300 + 3 * l), .ref 45, .int (nI 2), .int (nI 0), .int x, .int (nI dp)] [] sh I J R (cc_p (p_age 2 s na x).1 sh (ct_l I n (p_age 2 s na x).2) J R) := by
  refine zv_iload_n dX7_perform_0 rfl rfl ?_
  refine zv_iload_n dX7_perform_1 rfl rfl ?_
  refine cc_callS (As := [.int (nI (2)), .int (nI (0))]) (st := []) dX7_perform_2 csX7_317 rfl (by decide) (cc_c1 rfl (cc_c1 rfl cc_c0)) (Nat.le_of_ble_eq_true rfl) (cK_2_0 (d + 1)) (fun v s1 I1 J1 R1 q => ?_)
  obtain ⟨rfl, rfl, rfl, rfl, rfl⟩ := q
  show zv_V _ _ _ _ _ 5 [.ref (300 + 3 * l), .ref 45, .int (nI (2)), .int (nI (0)), .int (x), .int (nI (dp))] [.int (nI (1))] _ _ _ _ _
  refine zv_istore (lv' := [.ref (300 + 3 * l), .ref 45, .int (nI (2)), .int (nI (0)), .int (x), .int (nI (dp)), .int (nI (1))]) dX7_perform_5 (by decide) rfl ?_
  refine zv_iload dX7_perform_7 rfl ?_
  refine zv_iconst (v := (-1 : Int32)) dX7_perform_9 (by decide) ?_
  refine zv_icmp_eq (tgt := 20) dX7_perform_10 (by decide) (fun h10 => (absurd h10 (by decide))) (fun h10 => ?_)
  refine zv_iload dX7_perform_13 rfl ?_
  refine zv_bipush (v := nI (40)) dX7_perform_15 (by decide) ?_
  refine zv_icN_le (tgt := 22) dX7_perform_17 (by decide) (by omega) (by omega) (fun h17 => ?_) (fun h17 => (absurd h17 (by omega)))
  refine zv_aload_n dX7_perform_22 rfl rfl ?_
  refine zv_geti 2 1 (x := nI (k)) dX7_perform_23 flX7_102 (wWL_s w.2.1) rfl (P.1) ?_
  refine zv_istore (lv' := [.ref (300 + 3 * l), .ref 45, .int (nI (2)), .int (nI (0)), .int (x), .int (nI (dp)), .int (nI (1)), .int (nI (k))]) dX7_perform_26 (by decide) rfl ?_
  refine zv_gets (b := 2) dX7_perform_28 (Or.inr ⟨rfl, st_320⟩) ?_
  refine zv_iload dX7_perform_31 rfl ?_
  refine zv_kald (j := 1) (x := nI (0)) dX7_perform_33 (rfl) (by omega) (rfl) ?_
  refine zv_istore (lv' := [.ref (300 + 3 * l), .ref 45, .int (nI (2)), .int (nI (0)), .int (x), .int (nI (dp)), .int (nI (1)), .int (nI (k)), .int (nI (0))]) dX7_perform_34 (by decide) rfl ?_
  refine zv_iload dX7_perform_36 rfl ?_
  refine zv_iconst (v := nI (1)) dX7_perform_38 (by decide) ?_
  refine zv_iadd dX7_perform_39 ?_
  refine cc_top (nI_add (dp) (1)) ?_
  refine zv_istore (lv' := [.ref (300 + 3 * l), .ref 45, .int (nI (2)), .int (nI (0)), .int (x), .int (nI (dp)), .int (nI (1)), .int (nI (k)), .int (nI (0)), .int (nI (dp + 1))]) dX7_perform_40 (by decide) rfl ?_
  refine zv_gets (b := 1) dX7_perform_42 (Or.inl ⟨rfl, st_323⟩) ?_
  refine zv_iload dX7_perform_45 rfl ?_
  refine zv_iconst (v := nI (4)) dX7_perform_47 (by decide) ?_
  refine zv_imul dX7_perform_48 ?_
  refine cc_top (y := nI (4)) (by decide) ?_
  refine zv_iload_n dX7_perform_49 rfl rfl ?_
  refine zv_iadd dX7_perform_50 ?_
  refine cc_top (y := nI (4)) (by decide) ?_
  refine zv_bald (j := 4) (x := nI (20)) dX7_perform_51 (rfl) (by omega) (rfl) ?_
  refine zv_istore (lv' := [.ref (300 + 3 * l), .ref 45, .int (nI (2)), .int (nI (0)), .int (x), .int (nI (dp)), .int (nI (1)), .int (nI (k)), .int (nI (0)), .int (nI (dp + 1)), .int (nI (20))]) dX7_perform_52 (by decide) rfl ?_
  refine zv_aload_n dX7_perform_54 rfl rfl ?_
  refine zv_iload dX7_perform_55 rfl ?_
  refine cc_callV (As := [.int (nI (20))]) (st := []) (c := 5) dX7_perform_57 cvX7_326 (wW0_s45 w.1) rfl rfl rfl (by decide) (cc_c1 rfl cc_c0) (Nat.le_of_ble_eq_true rfl) (cC_begin (d + 1) w.1 (n := n) (b := 20) ht (by omega)) (fun v s1 I1 J1 R1 q => ?_)
  obtain ⟨rfl, rfl, rfl, rfl, rfl⟩ := q
  show zv_V _ _ _ _ _ 60 [.ref (300 + 3 * l), .ref 45, .int (nI (2)), .int (nI (0)), .int (x), .int (nI (dp)), .int (nI (1)), .int (nI (k)), .int (nI (0)), .int (nI (dp + 1)), .int (nI (20))] [] _ _ _ _ _
  refine zv_iload dX7_perform_60 rfl ?_
  refine zv_lookup (off := 171) (tgt := 233) dX7_perform_62 (by decide) (by decide) (by decide) ?_
  refine zv_aload_n dX7_perform_233 rfl rfl ?_
  refine zv_aload_n dX7_perform_234 rfl rfl ?_
  refine zv_iload dX7_perform_235 rfl ?_
  refine zv_iconst (v := nI (0)) dX7_perform_237 (by decide) ?_
  refine zv_iload dX7_perform_238 rfl ?_
  refine zv_iload dX7_perform_240 rfl ?_
  refine cc_callS (As := [.ref (300 + 3 * l), .ref 45, .int (nI (0)), .int (nI (0)), .int (x), .int (nI (dp + 1))]) (st := []) dX7_perform_242 csX7_187 rfl (by decide) (cc_c1 rfl (cc_c1 rfl (cc_c1 rfl (cc_c1 rfl (cc_c1 rfl (cc_c1 rfl cc_c0)))))) (Nat.le_of_ble_eq_true rfl) (cP_age_0 (d + 0) w hk (cp_b (n := n) (b := 20) P) (zv_u_s _ _ _ _) (by omega) (by omega) x) (fun v s1 I1 J1 R1 q => ?_)
  obtain ⟨rfl, rfl, rfl, rfl, rfl⟩ := q
  show zv_V _ _ _ _ _ 245 [.ref (300 + 3 * l), .ref 45, .int (nI (2)), .int (nI (0)), .int (x), .int (nI (dp)), .int (nI (1)), .int (nI (k)), .int (nI (0)), .int (nI (dp + 1)), .int (nI (20))] [.int ((p_age 0 s na x).1)] _ _ _ _ _
  refine zv_iconst (v := nI (2)) dX7_perform_245 (by decide) ?_
  refine zv_imul dX7_perform_246 ?_
  refine zv_aload_n dX7_perform_247 rfl rfl ?_
  refine zv_geti 2 5 (x := na) dX7_perform_248 flX7_114 (wWL_s w.2.1) rfl ((cp_t (n := (n + 1)) (L := (p_age 0 s na x).2) (cp_b (n := n) (b := 20) P)).2.2.1) ?_
  refine zv_iadd dX7_perform_251 ?_
  refine zv_iret dX7_perform_252 rfl rfl ?_
  exact ⟨rfl, rfl, rfl, rfl, rfl⟩
theorem cP_age_3 (d : Nat) {E : zv_E} {sh : zv_S} {I : zv_I} {J : zv_J} {R : zv_R} {l k n dp : Nat} {s na nu cn : Int32} (w : cp_w sh R l) (hk : k < 6) (P : cp_l I R l k s na nu cn) (ht : I 45 1 = nI n) (hn : n + 2 ≤ 60) (hdp : dp + 2 ≤ 40) (x : Int32) : zv_V E mX7_perform (d + 2) 0 0 0 [.ref (300 + 3 * l), .ref 45, .int (nI 3), .int (nI 0), .int x, .int (nI dp)] [] sh I J R (cc_p (p_age 3 s na x).1 sh (ct_l I n (p_age 3 s na x).2) J R) := by
  refine zv_iload_n dX7_perform_0 rfl rfl ?_
  refine zv_iload_n dX7_perform_1 rfl rfl ?_
  refine cc_callS (As := [.int (nI (3)), .int (nI (0))]) (st := []) dX7_perform_2 csX7_317 rfl (by decide) (cc_c1 rfl (cc_c1 rfl cc_c0)) (Nat.le_of_ble_eq_true rfl) (cK_3_0 (d + 1)) (fun v s1 I1 J1 R1 q => ?_)
  obtain ⟨rfl, rfl, rfl, rfl, rfl⟩ := q
  show zv_V _ _ _ _ _ 5 [.ref (300 + 3 * l), .ref 45, .int (nI (3)), .int (nI (0)), .int (x), .int (nI (dp))] [.int (nI (3))] _ _ _ _ _
  refine zv_istore (lv' := [.ref (300 + 3 * l), .ref 45, .int (nI (3)), .int (nI (0)), .int (x), .int (nI (dp)), .int (nI (3))]) dX7_perform_5 (by decide) rfl ?_
  refine zv_iload dX7_perform_7 rfl ?_
  refine zv_iconst (v := (-1 : Int32)) dX7_perform_9 (by decide) ?_
  refine zv_icmp_eq (tgt := 20) dX7_perform_10 (by decide) (fun h10 => (absurd h10 (by decide))) (fun h10 => ?_)
  refine zv_iload dX7_perform_13 rfl ?_
  refine zv_bipush (v := nI (40)) dX7_perform_15 (by decide) ?_
  refine zv_icN_le (tgt := 22) dX7_perform_17 (by decide) (by omega) (by omega) (fun h17 => ?_) (fun h17 => (absurd h17 (by omega)))
  refine zv_aload_n dX7_perform_22 rfl rfl ?_
  refine zv_geti 2 1 (x := nI (k)) dX7_perform_23 flX7_102 (wWL_s w.2.1) rfl (P.1) ?_
  refine zv_istore (lv' := [.ref (300 + 3 * l), .ref 45, .int (nI (3)), .int (nI (0)), .int (x), .int (nI (dp)), .int (nI (3)), .int (nI (k))]) dX7_perform_26 (by decide) rfl ?_
  refine zv_gets (b := 2) dX7_perform_28 (Or.inr ⟨rfl, st_320⟩) ?_
  refine zv_iload dX7_perform_31 rfl ?_
  refine zv_kald (j := 3) (x := nI (0)) dX7_perform_33 (rfl) (by omega) (rfl) ?_
  refine zv_istore (lv' := [.ref (300 + 3 * l), .ref 45, .int (nI (3)), .int (nI (0)), .int (x), .int (nI (dp)), .int (nI (3)), .int (nI (k)), .int (nI (0))]) dX7_perform_34 (by decide) rfl ?_
  refine zv_iload dX7_perform_36 rfl ?_
  refine zv_iconst (v := nI (1)) dX7_perform_38 (by decide) ?_
  refine zv_iadd dX7_perform_39 ?_
  refine cc_top (nI_add (dp) (1)) ?_
  refine zv_istore (lv' := [.ref (300 + 3 * l), .ref 45, .int (nI (3)), .int (nI (0)), .int (x), .int (nI (dp)), .int (nI (3)), .int (nI (k)), .int (nI (0)), .int (nI (dp + 1))]) dX7_perform_40 (by decide) rfl ?_
  refine zv_gets (b := 1) dX7_perform_42 (Or.inl ⟨rfl, st_323⟩) ?_
  refine zv_iload dX7_perform_45 rfl ?_
  refine zv_iconst (v := nI (4)) dX7_perform_47 (by decide) ?_
  refine zv_imul dX7_perform_48 ?_
  refine cc_top (y := nI (12)) (by decide) ?_
  refine zv_iload_n dX7_perform_49 rfl rfl ?_
  refine zv_iadd dX7_perform_50 ?_
  refine cc_top (y := nI (12)) (by decide) ?_
  refine zv_bald (j := 12) (x := nI (40)) dX7_perform_51 (rfl) (by omega) (rfl) ?_
  refine zv_istore (lv' := [.ref (300 + 3 * l), .ref 45, .int (nI (3)), .int (nI (0)), .int (x), .int (nI (dp)), .int (nI (3)), .int (nI (k)), .int (nI (0)), .int (nI (dp + 1)), .int (nI (40))]) dX7_perform_52 (by decide) rfl ?_
  refine zv_aload_n dX7_perform_54 rfl rfl ?_
  refine zv_iload dX7_perform_55 rfl ?_
  refine cc_callV (As := [.int (nI (40))]) (st := []) (c := 5) dX7_perform_57 cvX7_326 (wW0_s45 w.1) rfl rfl rfl (by decide) (cc_c1 rfl cc_c0) (Nat.le_of_ble_eq_true rfl) (cC_begin (d + 1) w.1 (n := n) (b := 40) ht (by omega)) (fun v s1 I1 J1 R1 q => ?_)
  obtain ⟨rfl, rfl, rfl, rfl, rfl⟩ := q
  show zv_V _ _ _ _ _ 60 [.ref (300 + 3 * l), .ref 45, .int (nI (3)), .int (nI (0)), .int (x), .int (nI (dp)), .int (nI (3)), .int (nI (k)), .int (nI (0)), .int (nI (dp + 1)), .int (nI (40))] [] _ _ _ _ _
  refine zv_iload dX7_perform_60 rfl ?_
  refine zv_lookup (off := 247) (tgt := 309) dX7_perform_62 (by decide) (by decide) (by decide) ?_
  refine zv_aload_n dX7_perform_309 rfl rfl ?_
  refine zv_aload_n dX7_perform_310 rfl rfl ?_
  refine zv_iload dX7_perform_311 rfl ?_
  refine zv_iconst (v := nI (0)) dX7_perform_313 (by decide) ?_
  refine zv_iload dX7_perform_314 rfl ?_
  refine zv_iconst (v := nI (1)) dX7_perform_316 (by decide) ?_
  refine zv_isub dX7_perform_317 ?_
  refine zv_iload dX7_perform_318 rfl ?_
  refine cc_callS (As := [.ref (300 + 3 * l), .ref 45, .int (nI (0)), .int (nI (0)), .int (((x) - (nI (1)))), .int (nI (dp + 1))]) (st := []) dX7_perform_320 csX7_187 rfl (by decide) (cc_c1 rfl (cc_c1 rfl (cc_c1 rfl (cc_c1 rfl (cc_c1 rfl (cc_c1 rfl cc_c0)))))) (Nat.le_of_ble_eq_true rfl) (cP_age_0 (d + 0) w hk (cp_b (n := n) (b := 40) P) (zv_u_s _ _ _ _) (by omega) (by omega) (((x) - (nI (1))))) (fun v s1 I1 J1 R1 q => ?_)
  obtain ⟨rfl, rfl, rfl, rfl, rfl⟩ := q
  show zv_V _ _ _ _ _ 323 [.ref (300 + 3 * l), .ref 45, .int (nI (3)), .int (nI (0)), .int (x), .int (nI (dp)), .int (nI (3)), .int (nI (k)), .int (nI (0)), .int (nI (dp + 1)), .int (nI (40))] [.int ((p_age 0 s na (((x) - (nI (1))))).1)] _ _ _ _ _
  refine zv_aload_n dX7_perform_323 rfl rfl ?_
  refine zv_geti 2 5 (x := na) dX7_perform_324 flX7_114 (wWL_s w.2.1) rfl ((cp_t (n := (n + 1)) (L := (p_age 0 s na (((x) - (nI (1))))).2) (cp_b (n := n) (b := 40) P)).2.2.1) ?_
  refine zv_iadd dX7_perform_327 ?_
  refine zv_iret dX7_perform_328 rfl rfl ?_
  exact ⟨rfl, rfl, rfl, rfl, rfl⟩
theorem cP_age_4 (d : Nat) {E : zv_E} {sh : zv_S} {I : zv_I} {J : zv_J} {R : zv_R} {l k n dp : Nat} {s na nu cn : Int32} (w : cp_w sh R l) (hk : k < 6) (P : cp_l I R l k s na nu cn) (ht : I 45 1 = nI n) (hn : n + 2 ≤ 60) (hdp : dp + 2 ≤ 40) (x : Int32) : zv_V E mX7_perform (d + 2) 0 0 0 [.ref (300 + 3 * l), .ref 45, .int (nI 4), .int (nI 0), .int x, .int (nI dp)] [] sh I J R (cc_p (p_age 4 s na x).1 sh (ct_l I n (p_age 4 s na x).2) J R) := by
  refine zv_iload_n dX7_perform_0 rfl rfl ?_
  refine zv_iload_n dX7_perform_1 rfl rfl ?_
  refine cc_callS (As := [.int (nI (4)), .int (nI (0))]) (st := []) dX7_perform_2 csX7_317 rfl (by decide) (cc_c1 rfl (cc_c1 rfl cc_c0)) (Nat.le_of_ble_eq_true rfl) (cK_4_0 (d + 1)) (fun v s1 I1 J1 R1 q => ?_)
  obtain ⟨rfl, rfl, rfl, rfl, rfl⟩ := q
  show zv_V _ _ _ _ _ 5 [.ref (300 + 3 * l), .ref 45, .int (nI (4)), .int (nI (0)), .int (x), .int (nI (dp))] [.int (nI (3))] _ _ _ _ _
  refine zv_istore (lv' := [.ref (300 + 3 * l), .ref 45, .int (nI (4)), .int (nI (0)), .int (x), .int (nI (dp)), .int (nI (3))]) dX7_perform_5 (by decide) rfl ?_
  refine zv_iload dX7_perform_7 rfl ?_
  refine zv_iconst (v := (-1 : Int32)) dX7_perform_9 (by decide) ?_
  refine zv_icmp_eq (tgt := 20) dX7_perform_10 (by decide) (fun h10 => (absurd h10 (by decide))) (fun h10 => ?_)
  refine zv_iload dX7_perform_13 rfl ?_
  refine zv_bipush (v := nI (40)) dX7_perform_15 (by decide) ?_
  refine zv_icN_le (tgt := 22) dX7_perform_17 (by decide) (by omega) (by omega) (fun h17 => ?_) (fun h17 => (absurd h17 (by omega)))
  refine zv_aload_n dX7_perform_22 rfl rfl ?_
  refine zv_geti 2 1 (x := nI (k)) dX7_perform_23 flX7_102 (wWL_s w.2.1) rfl (P.1) ?_
  refine zv_istore (lv' := [.ref (300 + 3 * l), .ref 45, .int (nI (4)), .int (nI (0)), .int (x), .int (nI (dp)), .int (nI (3)), .int (nI (k))]) dX7_perform_26 (by decide) rfl ?_
  refine zv_gets (b := 2) dX7_perform_28 (Or.inr ⟨rfl, st_320⟩) ?_
  refine zv_iload dX7_perform_31 rfl ?_
  refine zv_kald (j := 3) (x := nI (0)) dX7_perform_33 (rfl) (by omega) (rfl) ?_
  refine zv_istore (lv' := [.ref (300 + 3 * l), .ref 45, .int (nI (4)), .int (nI (0)), .int (x), .int (nI (dp)), .int (nI (3)), .int (nI (k)), .int (nI (0))]) dX7_perform_34 (by decide) rfl ?_
  refine zv_iload dX7_perform_36 rfl ?_
  refine zv_iconst (v := nI (1)) dX7_perform_38 (by decide) ?_
  refine zv_iadd dX7_perform_39 ?_
  refine cc_top (nI_add (dp) (1)) ?_
  refine zv_istore (lv' := [.ref (300 + 3 * l), .ref 45, .int (nI (4)), .int (nI (0)), .int (x), .int (nI (dp)), .int (nI (3)), .int (nI (k)), .int (nI (0)), .int (nI (dp + 1))]) dX7_perform_40 (by decide) rfl ?_
  refine zv_gets (b := 1) dX7_perform_42 (Or.inl ⟨rfl, st_323⟩) ?_
  refine zv_iload dX7_perform_45 rfl ?_
  refine zv_iconst (v := nI (4)) dX7_perform_47 (by decide) ?_
  refine zv_imul dX7_perform_48 ?_
  refine cc_top (y := nI (12)) (by decide) ?_
  refine zv_iload_n dX7_perform_49 rfl rfl ?_
  refine zv_iadd dX7_perform_50 ?_
  refine cc_top (y := nI (12)) (by decide) ?_
  refine zv_bald (j := 12) (x := nI (40)) dX7_perform_51 (rfl) (by omega) (rfl) ?_
  refine zv_istore (lv' := [.ref (300 + 3 * l), .ref 45, .int (nI (4)), .int (nI (0)), .int (x), .int (nI (dp)), .int (nI (3)), .int (nI (k)), .int (nI (0)), .int (nI (dp + 1)), .int (nI (40))]) dX7_perform_52 (by decide) rfl ?_
  refine zv_aload_n dX7_perform_54 rfl rfl ?_
  refine zv_iload dX7_perform_55 rfl ?_
  refine cc_callV (As := [.int (nI (40))]) (st := []) (c := 5) dX7_perform_57 cvX7_326 (wW0_s45 w.1) rfl rfl rfl (by decide) (cc_c1 rfl cc_c0) (Nat.le_of_ble_eq_true rfl) (cC_begin (d + 1) w.1 (n := n) (b := 40) ht (by omega)) (fun v s1 I1 J1 R1 q => ?_)
  obtain ⟨rfl, rfl, rfl, rfl, rfl⟩ := q
  show zv_V _ _ _ _ _ 60 [.ref (300 + 3 * l), .ref 45, .int (nI (4)), .int (nI (0)), .int (x), .int (nI (dp)), .int (nI (3)), .int (nI (k)), .int (nI (0)), .int (nI (dp + 1)), .int (nI (40))] [] _ _ _ _ _
  refine zv_iload dX7_perform_60 rfl ?_
  refine zv_lookup (off := 247) (tgt := 309) dX7_perform_62 (by decide) (by decide) (by decide) ?_
  refine zv_aload_n dX7_perform_309 rfl rfl ?_
  refine zv_aload_n dX7_perform_310 rfl rfl ?_
  refine zv_iload dX7_perform_311 rfl ?_
  refine zv_iconst (v := nI (0)) dX7_perform_313 (by decide) ?_
  refine zv_iload dX7_perform_314 rfl ?_
  refine zv_iconst (v := nI (1)) dX7_perform_316 (by decide) ?_
  refine zv_isub dX7_perform_317 ?_
  refine zv_iload dX7_perform_318 rfl ?_
  refine cc_callS (As := [.ref (300 + 3 * l), .ref 45, .int (nI (0)), .int (nI (0)), .int (((x) - (nI (1)))), .int (nI (dp + 1))]) (st := []) dX7_perform_320 csX7_187 rfl (by decide) (cc_c1 rfl (cc_c1 rfl (cc_c1 rfl (cc_c1 rfl (cc_c1 rfl (cc_c1 rfl cc_c0)))))) (Nat.le_of_ble_eq_true rfl) (cP_age_0 (d + 0) w hk (cp_b (n := n) (b := 40) P) (zv_u_s _ _ _ _) (by omega) (by omega) (((x) - (nI (1))))) (fun v s1 I1 J1 R1 q => ?_)
  obtain ⟨rfl, rfl, rfl, rfl, rfl⟩ := q
  show zv_V _ _ _ _ _ 323 [.ref (300 + 3 * l), .ref 45, .int (nI (4)), .int (nI (0)), .int (x), .int (nI (dp)), .int (nI (3)), .int (nI (k)), .int (nI (0)), .int (nI (dp + 1)), .int (nI (40))] [.int ((p_age 0 s na (((x) - (nI (1))))).1)] _ _ _ _ _
  refine zv_aload_n dX7_perform_323 rfl rfl ?_
  refine zv_geti 2 5 (x := na) dX7_perform_324 flX7_114 (wWL_s w.2.1) rfl ((cp_t (n := (n + 1)) (L := (p_age 0 s na (((x) - (nI (1))))).2) (cp_b (n := n) (b := 40) P)).2.2.1) ?_
  refine zv_iadd dX7_perform_327 ?_
  refine zv_iret dX7_perform_328 rfl rfl ?_
  exact ⟨rfl, rfl, rfl, rfl, rfl⟩
theorem cP_age_5 (d : Nat) {E : zv_E} {sh : zv_S} {I : zv_I} {J : zv_J} {R : zv_R} {l k n dp : Nat} {s na nu cn : Int32} (w : cp_w sh R l) (hk : k < 6) (P : cp_l I R l k s na nu cn) (ht : I 45 1 = nI n) (hn : n + 2 ≤ 60) (hdp : dp + 2 ≤ 40) (x : Int32) : zv_V E mX7_perform (d + 2) 0 0 0 [.ref (300 + 3 * l), .ref 45, .int (nI 5), .int (nI 0), .int x, .int (nI dp)] [] sh I J R (cc_p (p_age 5 s na x).1 sh (ct_l I n (p_age 5 s na x).2) J R) := by
  refine zv_iload_n dX7_perform_0 rfl rfl ?_
  refine zv_iload_n dX7_perform_1 rfl rfl ?_
  refine cc_callS (As := [.int (nI (5)), .int (nI (0))]) (st := []) dX7_perform_2 csX7_317 rfl (by decide) (cc_c1 rfl (cc_c1 rfl cc_c0)) (Nat.le_of_ble_eq_true rfl) (cK_5_0 (d + 1)) (fun v s1 I1 J1 R1 q => ?_)
  obtain ⟨rfl, rfl, rfl, rfl, rfl⟩ := q
  show zv_V _ _ _ _ _ 5 [.ref (300 + 3 * l), .ref 45, .int (nI (5)), .int (nI (0)), .int (x), .int (nI (dp))] [.int (nI (3))] _ _ _ _ _
  refine zv_istore (lv' := [.ref (300 + 3 * l), .ref 45, .int (nI (5)), .int (nI (0)), .int (x), .int (nI (dp)), .int (nI (3))]) dX7_perform_5 (by decide) rfl ?_
  refine zv_iload dX7_perform_7 rfl ?_
  refine zv_iconst (v := (-1 : Int32)) dX7_perform_9 (by decide) ?_
  refine zv_icmp_eq (tgt := 20) dX7_perform_10 (by decide) (fun h10 => (absurd h10 (by decide))) (fun h10 => ?_)
  refine zv_iload dX7_perform_13 rfl ?_
  refine zv_bipush (v := nI (40)) dX7_perform_15 (by decide) ?_
  refine zv_icN_le (tgt := 22) dX7_perform_17 (by decide) (by omega) (by omega) (fun h17 => ?_) (fun h17 => (absurd h17 (by omega)))
  refine zv_aload_n dX7_perform_22 rfl rfl ?_
  refine zv_geti 2 1 (x := nI (k)) dX7_perform_23 flX7_102 (wWL_s w.2.1) rfl (P.1) ?_
  refine zv_istore (lv' := [.ref (300 + 3 * l), .ref 45, .int (nI (5)), .int (nI (0)), .int (x), .int (nI (dp)), .int (nI (3)), .int (nI (k))]) dX7_perform_26 (by decide) rfl ?_
  refine zv_gets (b := 2) dX7_perform_28 (Or.inr ⟨rfl, st_320⟩) ?_
  refine zv_iload dX7_perform_31 rfl ?_
  refine zv_kald (j := 3) (x := nI (0)) dX7_perform_33 (rfl) (by omega) (rfl) ?_
  refine zv_istore (lv' := [.ref (300 + 3 * l), .ref 45, .int (nI (5)), .int (nI (0)), .int (x), .int (nI (dp)), .int (nI (3)), .int (nI (k)), .int (nI (0))]) dX7_perform_34 (by decide) rfl ?_
  refine zv_iload dX7_perform_36 rfl ?_
  refine zv_iconst (v := nI (1)) dX7_perform_38 (by decide) ?_
  refine zv_iadd dX7_perform_39 ?_
  refine cc_top (nI_add (dp) (1)) ?_
  refine zv_istore (lv' := [.ref (300 + 3 * l), .ref 45, .int (nI (5)), .int (nI (0)), .int (x), .int (nI (dp)), .int (nI (3)), .int (nI (k)), .int (nI (0)), .int (nI (dp + 1))]) dX7_perform_40 (by decide) rfl ?_
  refine zv_gets (b := 1) dX7_perform_42 (Or.inl ⟨rfl, st_323⟩) ?_
  refine zv_iload dX7_perform_45 rfl ?_
  refine zv_iconst (v := nI (4)) dX7_perform_47 (by decide) ?_
  refine zv_imul dX7_perform_48 ?_
  refine cc_top (y := nI (12)) (by decide) ?_
  refine zv_iload_n dX7_perform_49 rfl rfl ?_
  refine zv_iadd dX7_perform_50 ?_
  refine cc_top (y := nI (12)) (by decide) ?_
  refine zv_bald (j := 12) (x := nI (40)) dX7_perform_51 (rfl) (by omega) (rfl) ?_
  refine zv_istore (lv' := [.ref (300 + 3 * l), .ref 45, .int (nI (5)), .int (nI (0)), .int (x), .int (nI (dp)), .int (nI (3)), .int (nI (k)), .int (nI (0)), .int (nI (dp + 1)), .int (nI (40))]) dX7_perform_52 (by decide) rfl ?_
  refine zv_aload_n dX7_perform_54 rfl rfl ?_
  refine zv_iload dX7_perform_55 rfl ?_
  refine cc_callV (As := [.int (nI (40))]) (st := []) (c := 5) dX7_perform_57 cvX7_326 (wW0_s45 w.1) rfl rfl rfl (by decide) (cc_c1 rfl cc_c0) (Nat.le_of_ble_eq_true rfl) (cC_begin (d + 1) w.1 (n := n) (b := 40) ht (by omega)) (fun v s1 I1 J1 R1 q => ?_)
  obtain ⟨rfl, rfl, rfl, rfl, rfl⟩ := q
  show zv_V _ _ _ _ _ 60 [.ref (300 + 3 * l), .ref 45, .int (nI (5)), .int (nI (0)), .int (x), .int (nI (dp)), .int (nI (3)), .int (nI (k)), .int (nI (0)), .int (nI (dp + 1)), .int (nI (40))] [] _ _ _ _ _
  refine zv_iload dX7_perform_60 rfl ?_
  refine zv_lookup (off := 247) (tgt := 309) dX7_perform_62 (by decide) (by decide) (by decide) ?_
  refine zv_aload_n dX7_perform_309 rfl rfl ?_
  refine zv_aload_n dX7_perform_310 rfl rfl ?_
  refine zv_iload dX7_perform_311 rfl ?_
  refine zv_iconst (v := nI (0)) dX7_perform_313 (by decide) ?_
  refine zv_iload dX7_perform_314 rfl ?_
  refine zv_iconst (v := nI (1)) dX7_perform_316 (by decide) ?_
  refine zv_isub dX7_perform_317 ?_
  refine zv_iload dX7_perform_318 rfl ?_
  refine cc_callS (As := [.ref (300 + 3 * l), .ref 45, .int (nI (0)), .int (nI (0)), .int (((x) - (nI (1)))), .int (nI (dp + 1))]) (st := []) dX7_perform_320 csX7_187 rfl (by decide) (cc_c1 rfl (cc_c1 rfl (cc_c1 rfl (cc_c1 rfl (cc_c1 rfl (cc_c1 rfl cc_c0)))))) (Nat.le_of_ble_eq_true rfl) (cP_age_0 (d + 0) w hk (cp_b (n := n) (b := 40) P) (zv_u_s _ _ _ _) (by omega) (by omega) (((x) - (nI (1))))) (fun v s1 I1 J1 R1 q => ?_)
  obtain ⟨rfl, rfl, rfl, rfl, rfl⟩ := q
  show zv_V _ _ _ _ _ 323 [.ref (300 + 3 * l), .ref 45, .int (nI (5)), .int (nI (0)), .int (x), .int (nI (dp)), .int (nI (3)), .int (nI (k)), .int (nI (0)), .int (nI (dp + 1)), .int (nI (40))] [.int ((p_age 0 s na (((x) - (nI (1))))).1)] _ _ _ _ _
  refine zv_aload_n dX7_perform_323 rfl rfl ?_
  refine zv_geti 2 5 (x := na) dX7_perform_324 flX7_114 (wWL_s w.2.1) rfl ((cp_t (n := (n + 1)) (L := (p_age 0 s na (((x) - (nI (1))))).2) (cp_b (n := n) (b := 40) P)).2.2.1) ?_
  refine zv_iadd dX7_perform_327 ?_
  refine zv_iret dX7_perform_328 rfl rfl ?_
  exact ⟨rfl, rfl, rfl, rfl, rfl⟩
theorem cP_age (d : Nat) {E : zv_E} {sh : zv_S} {I : zv_I} {J : zv_J} {R : zv_R} {l k n dp : Nat} {s na nu cn : Int32} {f : Nat} (hf : f < 6) (w : cp_w sh R l) (hk : k < 6) (P : cp_l I R l k s na nu cn) (ht : I 45 1 = nI n) (hn : n + 2 ≤ 60) (hdp : dp + 2 ≤ 40) (x : Int32) : zv_V E mX7_perform (d + 2) 0 0 0 [.ref (300 + 3 * l), .ref 45, .int (nI f), .int (nI 0), .int x, .int (nI dp)] [] sh I J R (cc_p (p_age f s na x).1 sh (ct_l I n (p_age f s na x).2) J R) := by
  rcases (show f = 0 ∨ f = 1 ∨ f = 2 ∨ f = 3 ∨ f = 4 ∨ f = 5 by omega) with rfl | rfl | rfl | rfl | rfl | rfl
  · exact cP_age_0 (d + 1) w hk P ht (by omega) (by omega) x
  · exact cP_age_1 (d + 0) w hk P ht (by omega) (by omega) x
  · exact cP_age_2 (d + 0) w hk P ht (by omega) (by omega) x
  · exact cP_age_3 (d + 0) w hk P ht (by omega) (by omega) x
  · exact cP_age_4 (d + 0) w hk P ht (by omega) (by omega) x
  · exact cP_age_5 (d + 0) w hk P ht (by omega) (by omega) x
theorem cP_bear_0 (d : Nat) {E : zv_E} {sh : zv_S} {I : zv_I} {J : zv_J} {R : zv_R} {l k n dp : Nat} {s na nu cn : Int32} (w : cp_w sh R l) (hk : k < 6) (P : cp_l I R l k s na nu cn) (ht : I 45 1 = nI n) (hn : n + 1 ≤ 60) (hdp : dp + 1 ≤ 40) (x : Int32) : zv_V E mX7_perform (d + 1) 0 0 0 [.ref (300 + 3 * l), .ref 45, .int (nI 0), .int (nI 1), .int x, .int (nI dp)] [] sh I J R (cc_p (p_bear 0 s na nu cn x).1 sh (ct_l I n (p_bear 0 s na nu cn x).2) J R) := by
  refine zv_iload_n dX7_perform_0 rfl rfl ?_
  refine zv_iload_n dX7_perform_1 rfl rfl ?_
  refine cc_callS (As := [.int (nI (0)), .int (nI (1))]) (st := []) dX7_perform_2 csX7_317 rfl (by decide) (cc_c1 rfl (cc_c1 rfl cc_c0)) (Nat.le_of_ble_eq_true rfl) (cK_0_1 (d + 0)) (fun v s1 I1 J1 R1 q => ?_)
  obtain ⟨rfl, rfl, rfl, rfl, rfl⟩ := q
  show zv_V _ _ _ _ _ 5 [.ref (300 + 3 * l), .ref 45, .int (nI (0)), .int (nI (1)), .int (x), .int (nI (dp))] [.int (nI (0))] _ _ _ _ _
  refine zv_istore (lv' := [.ref (300 + 3 * l), .ref 45, .int (nI (0)), .int (nI (1)), .int (x), .int (nI (dp)), .int (nI (0))]) dX7_perform_5 (by decide) rfl ?_
  refine zv_iload dX7_perform_7 rfl ?_
  refine zv_iconst (v := (-1 : Int32)) dX7_perform_9 (by decide) ?_
  refine zv_icmp_eq (tgt := 20) dX7_perform_10 (by decide) (fun h10 => (absurd h10 (by decide))) (fun h10 => ?_)
  refine zv_iload dX7_perform_13 rfl ?_
  refine zv_bipush (v := nI (40)) dX7_perform_15 (by decide) ?_
  refine zv_icN_le (tgt := 22) dX7_perform_17 (by decide) (by omega) (by omega) (fun h17 => ?_) (fun h17 => (absurd h17 (by omega)))
  refine zv_aload_n dX7_perform_22 rfl rfl ?_
  refine zv_geti 2 1 (x := nI (k)) dX7_perform_23 flX7_102 (wWL_s w.2.1) rfl (P.1) ?_
  refine zv_istore (lv' := [.ref (300 + 3 * l), .ref 45, .int (nI (0)), .int (nI (1)), .int (x), .int (nI (dp)), .int (nI (0)), .int (nI (k))]) dX7_perform_26 (by decide) rfl ?_
  refine zv_gets (b := 2) dX7_perform_28 (Or.inr ⟨rfl, st_320⟩) ?_
  refine zv_iload dX7_perform_31 rfl ?_
  refine zv_kald (j := 0) (x := (-1 : Int32)) dX7_perform_33 (rfl) (by omega) (rfl) ?_
  refine zv_istore (lv' := [.ref (300 + 3 * l), .ref 45, .int (nI (0)), .int (nI (1)), .int (x), .int (nI (dp)), .int (nI (0)), .int (nI (k)), .int ((-1 : Int32))]) dX7_perform_34 (by decide) rfl ?_
  refine zv_iload dX7_perform_36 rfl ?_
  refine zv_iconst (v := nI (1)) dX7_perform_38 (by decide) ?_
  refine zv_iadd dX7_perform_39 ?_
  refine cc_top (nI_add (dp) (1)) ?_
  refine zv_istore (lv' := [.ref (300 + 3 * l), .ref 45, .int (nI (0)), .int (nI (1)), .int (x), .int (nI (dp)), .int (nI (0)), .int (nI (k)), .int ((-1 : Int32)), .int (nI (dp + 1))]) dX7_perform_40 (by decide) rfl ?_
  refine zv_gets (b := 1) dX7_perform_42 (Or.inl ⟨rfl, st_323⟩) ?_
  refine zv_iload dX7_perform_45 rfl ?_
  refine zv_iconst (v := nI (4)) dX7_perform_47 (by decide) ?_
  refine zv_imul dX7_perform_48 ?_
  refine cc_top (y := nI (0)) (by decide) ?_
  refine zv_iload_n dX7_perform_49 rfl rfl ?_
  refine zv_iadd dX7_perform_50 ?_
  refine cc_top (y := nI (1)) (by decide) ?_
  refine zv_bald (j := 1) (x := nI (11)) dX7_perform_51 (rfl) (by omega) (rfl) ?_
  refine zv_istore (lv' := [.ref (300 + 3 * l), .ref 45, .int (nI (0)), .int (nI (1)), .int (x), .int (nI (dp)), .int (nI (0)), .int (nI (k)), .int ((-1 : Int32)), .int (nI (dp + 1)), .int (nI (11))]) dX7_perform_52 (by decide) rfl ?_
  refine zv_aload_n dX7_perform_54 rfl rfl ?_
  refine zv_iload dX7_perform_55 rfl ?_
  refine cc_callV (As := [.int (nI (11))]) (st := []) (c := 5) dX7_perform_57 cvX7_326 (wW0_s45 w.1) rfl rfl rfl (by decide) (cc_c1 rfl cc_c0) (Nat.le_of_ble_eq_true rfl) (cC_begin (d + 0) w.1 (n := n) (b := 11) ht (by omega)) (fun v s1 I1 J1 R1 q => ?_)
  obtain ⟨rfl, rfl, rfl, rfl, rfl⟩ := q
  show zv_V _ _ _ _ _ 60 [.ref (300 + 3 * l), .ref 45, .int (nI (0)), .int (nI (1)), .int (x), .int (nI (dp)), .int (nI (0)), .int (nI (k)), .int ((-1 : Int32)), .int (nI (dp + 1)), .int (nI (11))] [] _ _ _ _ _
  refine zv_iload dX7_perform_60 rfl ?_
  refine zv_lookup (off := 114) (tgt := 176) dX7_perform_62 (by decide) (by decide) (by decide) ?_
  refine zv_iload dX7_perform_176 rfl ?_
  refine zv_iconst (v := nI (3)) dX7_perform_178 (by decide) ?_
  refine zv_imul dX7_perform_179 ?_
  refine zv_aload_n dX7_perform_180 rfl rfl ?_
  refine zv_getr 2 6 (u := 1000 + 8 * cc_ck R l) dX7_perform_181 flX7_120 (wWL_s w.2.1) rfl (w.2.2.1) ?_
  refine zv_geti 1 1 (x := cn) dX7_perform_184 flX7_124 (wWK_s w.2.2.2) rfl ((cp_b (n := n) (b := 11) P).2.2.2.2) ?_
  refine zv_iadd dX7_perform_187 ?_
  refine zv_iret dX7_perform_188 rfl rfl ?_
  exact ⟨rfl, rfl, rfl, rfl, rfl⟩
theorem cP_bear_1 (d : Nat) {E : zv_E} {sh : zv_S} {I : zv_I} {J : zv_J} {R : zv_R} {l k n dp : Nat} {s na nu cn : Int32} (w : cp_w sh R l) (hk : k < 6) (P : cp_l I R l k s na nu cn) (ht : I 45 1 = nI n) (hn : n + 1 ≤ 60) (hdp : dp + 1 ≤ 40) (x : Int32) : zv_V E mX7_perform (d + 1) 0 0 0 [.ref (300 + 3 * l), .ref 45, .int (nI 1), .int (nI 1), .int x, .int (nI dp)] [] sh I J R (cc_p (p_bear 1 s na nu cn x).1 sh (ct_l I n (p_bear 1 s na nu cn x).2) J R) := by
  refine zv_iload_n dX7_perform_0 rfl rfl ?_
  refine zv_iload_n dX7_perform_1 rfl rfl ?_
  refine cc_callS (As := [.int (nI (1)), .int (nI (1))]) (st := []) dX7_perform_2 csX7_317 rfl (by decide) (cc_c1 rfl (cc_c1 rfl cc_c0)) (Nat.le_of_ble_eq_true rfl) (cK_1_1 (d + 0)) (fun v s1 I1 J1 R1 q => ?_)
  obtain ⟨rfl, rfl, rfl, rfl, rfl⟩ := q
  show zv_V _ _ _ _ _ 5 [.ref (300 + 3 * l), .ref 45, .int (nI (1)), .int (nI (1)), .int (x), .int (nI (dp))] [.int (nI (0))] _ _ _ _ _
  refine zv_istore (lv' := [.ref (300 + 3 * l), .ref 45, .int (nI (1)), .int (nI (1)), .int (x), .int (nI (dp)), .int (nI (0))]) dX7_perform_5 (by decide) rfl ?_
  refine zv_iload dX7_perform_7 rfl ?_
  refine zv_iconst (v := (-1 : Int32)) dX7_perform_9 (by decide) ?_
  refine zv_icmp_eq (tgt := 20) dX7_perform_10 (by decide) (fun h10 => (absurd h10 (by decide))) (fun h10 => ?_)
  refine zv_iload dX7_perform_13 rfl ?_
  refine zv_bipush (v := nI (40)) dX7_perform_15 (by decide) ?_
  refine zv_icN_le (tgt := 22) dX7_perform_17 (by decide) (by omega) (by omega) (fun h17 => ?_) (fun h17 => (absurd h17 (by omega)))
  refine zv_aload_n dX7_perform_22 rfl rfl ?_
  refine zv_geti 2 1 (x := nI (k)) dX7_perform_23 flX7_102 (wWL_s w.2.1) rfl (P.1) ?_
  refine zv_istore (lv' := [.ref (300 + 3 * l), .ref 45, .int (nI (1)), .int (nI (1)), .int (x), .int (nI (dp)), .int (nI (0)), .int (nI (k))]) dX7_perform_26 (by decide) rfl ?_
  refine zv_gets (b := 2) dX7_perform_28 (Or.inr ⟨rfl, st_320⟩) ?_
  refine zv_iload dX7_perform_31 rfl ?_
  refine zv_kald (j := 0) (x := (-1 : Int32)) dX7_perform_33 (rfl) (by omega) (rfl) ?_
  refine zv_istore (lv' := [.ref (300 + 3 * l), .ref 45, .int (nI (1)), .int (nI (1)), .int (x), .int (nI (dp)), .int (nI (0)), .int (nI (k)), .int ((-1 : Int32))]) dX7_perform_34 (by decide) rfl ?_
  refine zv_iload dX7_perform_36 rfl ?_
  refine zv_iconst (v := nI (1)) dX7_perform_38 (by decide) ?_
  refine zv_iadd dX7_perform_39 ?_
  refine cc_top (nI_add (dp) (1)) ?_
  refine zv_istore (lv' := [.ref (300 + 3 * l), .ref 45, .int (nI (1)), .int (nI (1)), .int (x), .int (nI (dp)), .int (nI (0)), .int (nI (k)), .int ((-1 : Int32)), .int (nI (dp + 1))]) dX7_perform_40 (by decide) rfl ?_
  refine zv_gets (b := 1) dX7_perform_42 (Or.inl ⟨rfl, st_323⟩) ?_
  refine zv_iload dX7_perform_45 rfl ?_
  refine zv_iconst (v := nI (4)) dX7_perform_47 (by decide) ?_
  refine zv_imul dX7_perform_48 ?_
  refine cc_top (y := nI (0)) (by decide) ?_
  refine zv_iload_n dX7_perform_49 rfl rfl ?_
  refine zv_iadd dX7_perform_50 ?_
  refine cc_top (y := nI (1)) (by decide) ?_
  refine zv_bald (j := 1) (x := nI (11)) dX7_perform_51 (rfl) (by omega) (rfl) ?_
  refine zv_istore (lv' := [.ref (300 + 3 * l), .ref 45, .int (nI (1)), .int (nI (1)), .int (x), .int (nI (dp)), .int (nI (0)), .int (nI (k)), .int ((-1 : Int32)), .int (nI (dp + 1)), .int (nI (11))]) dX7_perform_52 (by decide) rfl ?_
  refine zv_aload_n dX7_perform_54 rfl rfl ?_
  refine zv_iload dX7_perform_55 rfl ?_
  refine cc_callV (As := [.int (nI (11))]) (st := []) (c := 5) dX7_perform_57 cvX7_326 (wW0_s45 w.1) rfl rfl rfl (by decide) (cc_c1 rfl cc_c0) (Nat.le_of_ble_eq_true rfl) (cC_begin (d + 0) w.1 (n := n) (b := 11) ht (by omega)) (fun v s1 I1 J1 R1 q => ?_)
  obtain ⟨rfl, rfl, rfl, rfl, rfl⟩ := q
  show zv_V _ _ _ _ _ 60 [.ref (300 + 3 * l), .ref 45, .int (nI (1)), .int (nI (1)), .int (x), .int (nI (dp)), .int (nI (0)), .int (nI (k)), .int ((-1 : Int32)), .int (nI (dp + 1)), .int (nI (11))] [] _ _ _ _ _
  refine zv_iload dX7_perform_60 rfl ?_
  refine zv_lookup (off := 114) (tgt := 176) dX7_perform_62 (by decide) (by decide) (by decide) ?_
  refine zv_iload dX7_perform_176 rfl ?_
  refine zv_iconst (v := nI (3)) dX7_perform_178 (by decide) ?_
  refine zv_imul dX7_perform_179 ?_
  refine zv_aload_n dX7_perform_180 rfl rfl ?_
  refine zv_getr 2 6 (u := 1000 + 8 * cc_ck R l) dX7_perform_181 flX7_120 (wWL_s w.2.1) rfl (w.2.2.1) ?_
  refine zv_geti 1 1 (x := cn) dX7_perform_184 flX7_124 (wWK_s w.2.2.2) rfl ((cp_b (n := n) (b := 11) P).2.2.2.2) ?_
  refine zv_iadd dX7_perform_187 ?_
  refine zv_iret dX7_perform_188 rfl rfl ?_
  exact ⟨rfl, rfl, rfl, rfl, rfl⟩
theorem cP_bear_3 (d : Nat) {E : zv_E} {sh : zv_S} {I : zv_I} {J : zv_J} {R : zv_R} {l k n dp : Nat} {s na nu cn : Int32} (w : cp_w sh R l) (hk : k < 6) (P : cp_l I R l k s na nu cn) (ht : I 45 1 = nI n) (hn : n + 1 ≤ 60) (hdp : dp + 1 ≤ 40) (x : Int32) : zv_V E mX7_perform (d + 1) 0 0 0 [.ref (300 + 3 * l), .ref 45, .int (nI 3), .int (nI 1), .int x, .int (nI dp)] [] sh I J R (cc_p (p_bear 3 s na nu cn x).1 sh (ct_l I n (p_bear 3 s na nu cn x).2) J R) := by
  refine zv_iload_n dX7_perform_0 rfl rfl ?_
  refine zv_iload_n dX7_perform_1 rfl rfl ?_
  refine cc_callS (As := [.int (nI (3)), .int (nI (1))]) (st := []) dX7_perform_2 csX7_317 rfl (by decide) (cc_c1 rfl (cc_c1 rfl cc_c0)) (Nat.le_of_ble_eq_true rfl) (cK_3_1 (d + 0)) (fun v s1 I1 J1 R1 q => ?_)
  obtain ⟨rfl, rfl, rfl, rfl, rfl⟩ := q
  show zv_V _ _ _ _ _ 5 [.ref (300 + 3 * l), .ref 45, .int (nI (3)), .int (nI (1)), .int (x), .int (nI (dp))] [.int (nI (0))] _ _ _ _ _
  refine zv_istore (lv' := [.ref (300 + 3 * l), .ref 45, .int (nI (3)), .int (nI (1)), .int (x), .int (nI (dp)), .int (nI (0))]) dX7_perform_5 (by decide) rfl ?_
  refine zv_iload dX7_perform_7 rfl ?_
  refine zv_iconst (v := (-1 : Int32)) dX7_perform_9 (by decide) ?_
  refine zv_icmp_eq (tgt := 20) dX7_perform_10 (by decide) (fun h10 => (absurd h10 (by decide))) (fun h10 => ?_)
  refine zv_iload dX7_perform_13 rfl ?_
  refine zv_bipush (v := nI (40)) dX7_perform_15 (by decide) ?_
  refine zv_icN_le (tgt := 22) dX7_perform_17 (by decide) (by omega) (by omega) (fun h17 => ?_) (fun h17 => (absurd h17 (by omega)))
  refine zv_aload_n dX7_perform_22 rfl rfl ?_
  refine zv_geti 2 1 (x := nI (k)) dX7_perform_23 flX7_102 (wWL_s w.2.1) rfl (P.1) ?_
  refine zv_istore (lv' := [.ref (300 + 3 * l), .ref 45, .int (nI (3)), .int (nI (1)), .int (x), .int (nI (dp)), .int (nI (0)), .int (nI (k))]) dX7_perform_26 (by decide) rfl ?_
  refine zv_gets (b := 2) dX7_perform_28 (Or.inr ⟨rfl, st_320⟩) ?_
  refine zv_iload dX7_perform_31 rfl ?_
  refine zv_kald (j := 0) (x := (-1 : Int32)) dX7_perform_33 (rfl) (by omega) (rfl) ?_
  refine zv_istore (lv' := [.ref (300 + 3 * l), .ref 45, .int (nI (3)), .int (nI (1)), .int (x), .int (nI (dp)), .int (nI (0)), .int (nI (k)), .int ((-1 : Int32))]) dX7_perform_34 (by decide) rfl ?_
  refine zv_iload dX7_perform_36 rfl ?_
  refine zv_iconst (v := nI (1)) dX7_perform_38 (by decide) ?_
  refine zv_iadd dX7_perform_39 ?_
  refine cc_top (nI_add (dp) (1)) ?_
  refine zv_istore (lv' := [.ref (300 + 3 * l), .ref 45, .int (nI (3)), .int (nI (1)), .int (x), .int (nI (dp)), .int (nI (0)), .int (nI (k)), .int ((-1 : Int32)), .int (nI (dp + 1))]) dX7_perform_40 (by decide) rfl ?_
  refine zv_gets (b := 1) dX7_perform_42 (Or.inl ⟨rfl, st_323⟩) ?_
  refine zv_iload dX7_perform_45 rfl ?_
  refine zv_iconst (v := nI (4)) dX7_perform_47 (by decide) ?_
  refine zv_imul dX7_perform_48 ?_
  refine cc_top (y := nI (0)) (by decide) ?_
  refine zv_iload_n dX7_perform_49 rfl rfl ?_
  refine zv_iadd dX7_perform_50 ?_
  refine cc_top (y := nI (1)) (by decide) ?_
  refine zv_bald (j := 1) (x := nI (11)) dX7_perform_51 (rfl) (by omega) (rfl) ?_
  refine zv_istore (lv' := [.ref (300 + 3 * l), .ref 45, .int (nI (3)), .int (nI (1)), .int (x), .int (nI (dp)), .int (nI (0)), .int (nI (k)), .int ((-1 : Int32)), .int (nI (dp + 1)), .int (nI (11))]) dX7_perform_52 (by decide) rfl ?_
  refine zv_aload_n dX7_perform_54 rfl rfl ?_
  refine zv_iload dX7_perform_55 rfl ?_
  refine cc_callV (As := [.int (nI (11))]) (st := []) (c := 5) dX7_perform_57 cvX7_326 (wW0_s45 w.1) rfl rfl rfl (by decide) (cc_c1 rfl cc_c0) (Nat.le_of_ble_eq_true rfl) (cC_begin (d + 0) w.1 (n := n) (b := 11) ht (by omega)) (fun v s1 I1 J1 R1 q => ?_)
  obtain ⟨rfl, rfl, rfl, rfl, rfl⟩ := q
  show zv_V _ _ _ _ _ 60 [.ref (300 + 3 * l), .ref 45, .int (nI (3)), .int (nI (1)), .int (x), .int (nI (dp)), .int (nI (0)), .int (nI (k)), .int ((-1 : Int32)), .int (nI (dp + 1)), .int (nI (11))] [] _ _ _ _ _
  refine zv_iload dX7_perform_60 rfl ?_
  refine zv_lookup (off := 114) (tgt := 176) dX7_perform_62 (by decide) (by decide) (by decide) ?_
  refine zv_iload dX7_perform_176 rfl ?_
  refine zv_iconst (v := nI (3)) dX7_perform_178 (by decide) ?_
  refine zv_imul dX7_perform_179 ?_
  refine zv_aload_n dX7_perform_180 rfl rfl ?_
  refine zv_getr 2 6 (u := 1000 + 8 * cc_ck R l) dX7_perform_181 flX7_120 (wWL_s w.2.1) rfl (w.2.2.1) ?_
  refine zv_geti 1 1 (x := cn) dX7_perform_184 flX7_124 (wWK_s w.2.2.2) rfl ((cp_b (n := n) (b := 11) P).2.2.2.2) ?_
  refine zv_iadd dX7_perform_187 ?_
  refine zv_iret dX7_perform_188 rfl rfl ?_
  exact ⟨rfl, rfl, rfl, rfl, rfl⟩
theorem cP_bear_4 (d : Nat) {E : zv_E} {sh : zv_S} {I : zv_I} {J : zv_J} {R : zv_R} {l k n dp : Nat} {s na nu cn : Int32} (w : cp_w sh R l) (hk : k < 6) (P : cp_l I R l k s na nu cn) (ht : I 45 1 = nI n) (hn : n + 1 ≤ 60) (hdp : dp + 1 ≤ 40) (x : Int32) : zv_V E mX7_perform (d + 1) 0 0 0 [.ref (300 + 3 * l), .ref 45, .int (nI 4), .int (nI 1), .int x, .int (nI dp)] [] sh I J R (cc_p (p_bear 4 s na nu cn x).1 sh (ct_l I n (p_bear 4 s na nu cn x).2) J R) := by
  refine zv_iload_n dX7_perform_0 rfl rfl ?_
  refine zv_iload_n dX7_perform_1 rfl rfl ?_
  refine cc_callS (As := [.int (nI (4)), .int (nI (1))]) (st := []) dX7_perform_2 csX7_317 rfl (by decide) (cc_c1 rfl (cc_c1 rfl cc_c0)) (Nat.le_of_ble_eq_true rfl) (cK_4_1 (d + 0)) (fun v s1 I1 J1 R1 q => ?_)
  obtain ⟨rfl, rfl, rfl, rfl, rfl⟩ := q
  show zv_V _ _ _ _ _ 5 [.ref (300 + 3 * l), .ref 45, .int (nI (4)), .int (nI (1)), .int (x), .int (nI (dp))] [.int (nI (0))] _ _ _ _ _
  refine zv_istore (lv' := [.ref (300 + 3 * l), .ref 45, .int (nI (4)), .int (nI (1)), .int (x), .int (nI (dp)), .int (nI (0))]) dX7_perform_5 (by decide) rfl ?_
  refine zv_iload dX7_perform_7 rfl ?_
  refine zv_iconst (v := (-1 : Int32)) dX7_perform_9 (by decide) ?_
  refine zv_icmp_eq (tgt := 20) dX7_perform_10 (by decide) (fun h10 => (absurd h10 (by decide))) (fun h10 => ?_)
  refine zv_iload dX7_perform_13 rfl ?_
  refine zv_bipush (v := nI (40)) dX7_perform_15 (by decide) ?_
  refine zv_icN_le (tgt := 22) dX7_perform_17 (by decide) (by omega) (by omega) (fun h17 => ?_) (fun h17 => (absurd h17 (by omega)))
  refine zv_aload_n dX7_perform_22 rfl rfl ?_
  refine zv_geti 2 1 (x := nI (k)) dX7_perform_23 flX7_102 (wWL_s w.2.1) rfl (P.1) ?_
  refine zv_istore (lv' := [.ref (300 + 3 * l), .ref 45, .int (nI (4)), .int (nI (1)), .int (x), .int (nI (dp)), .int (nI (0)), .int (nI (k))]) dX7_perform_26 (by decide) rfl ?_
  refine zv_gets (b := 2) dX7_perform_28 (Or.inr ⟨rfl, st_320⟩) ?_
  refine zv_iload dX7_perform_31 rfl ?_
  refine zv_kald (j := 0) (x := (-1 : Int32)) dX7_perform_33 (rfl) (by omega) (rfl) ?_
  refine zv_istore (lv' := [.ref (300 + 3 * l), .ref 45, .int (nI (4)), .int (nI (1)), .int (x), .int (nI (dp)), .int (nI (0)), .int (nI (k)), .int ((-1 : Int32))]) dX7_perform_34 (by decide) rfl ?_
  refine zv_iload dX7_perform_36 rfl ?_
  refine zv_iconst (v := nI (1)) dX7_perform_38 (by decide) ?_
  refine zv_iadd dX7_perform_39 ?_
  refine cc_top (nI_add (dp) (1)) ?_
  refine zv_istore (lv' := [.ref (300 + 3 * l), .ref 45, .int (nI (4)), .int (nI (1)), .int (x), .int (nI (dp)), .int (nI (0)), .int (nI (k)), .int ((-1 : Int32)), .int (nI (dp + 1))]) dX7_perform_40 (by decide) rfl ?_
  refine zv_gets (b := 1) dX7_perform_42 (Or.inl ⟨rfl, st_323⟩) ?_
  refine zv_iload dX7_perform_45 rfl ?_
  refine zv_iconst (v := nI (4)) dX7_perform_47 (by decide) ?_
  refine zv_imul dX7_perform_48 ?_
  refine cc_top (y := nI (0)) (by decide) ?_
  refine zv_iload_n dX7_perform_49 rfl rfl ?_
  refine zv_iadd dX7_perform_50 ?_
  refine cc_top (y := nI (1)) (by decide) ?_
  refine zv_bald (j := 1) (x := nI (11)) dX7_perform_51 (rfl) (by omega) (rfl) ?_
  refine zv_istore (lv' := [.ref (300 + 3 * l), .ref 45, .int (nI (4)), .int (nI (1)), .int (x), .int (nI (dp)), .int (nI (0)), .int (nI (k)), .int ((-1 : Int32)), .int (nI (dp + 1)), .int (nI (11))]) dX7_perform_52 (by decide) rfl ?_
  refine zv_aload_n dX7_perform_54 rfl rfl ?_
  refine zv_iload dX7_perform_55 rfl ?_
  refine cc_callV (As := [.int (nI (11))]) (st := []) (c := 5) dX7_perform_57 cvX7_326 (wW0_s45 w.1) rfl rfl rfl (by decide) (cc_c1 rfl cc_c0) (Nat.le_of_ble_eq_true rfl) (cC_begin (d + 0) w.1 (n := n) (b := 11) ht (by omega)) (fun v s1 I1 J1 R1 q => ?_)
  obtain ⟨rfl, rfl, rfl, rfl, rfl⟩ := q
  show zv_V _ _ _ _ _ 60 [.ref (300 + 3 * l), .ref 45, .int (nI (4)), .int (nI (1)), .int (x), .int (nI (dp)), .int (nI (0)), .int (nI (k)), .int ((-1 : Int32)), .int (nI (dp + 1)), .int (nI (11))] [] _ _ _ _ _
  refine zv_iload dX7_perform_60 rfl ?_
  refine zv_lookup (off := 114) (tgt := 176) dX7_perform_62 (by decide) (by decide) (by decide) ?_
  refine zv_iload dX7_perform_176 rfl ?_
  refine zv_iconst (v := nI (3)) dX7_perform_178 (by decide) ?_
  refine zv_imul dX7_perform_179 ?_
  refine zv_aload_n dX7_perform_180 rfl rfl ?_
  refine zv_getr 2 6 (u := 1000 + 8 * cc_ck R l) dX7_perform_181 flX7_120 (wWL_s w.2.1) rfl (w.2.2.1) ?_
  refine zv_geti 1 1 (x := cn) dX7_perform_184 flX7_124 (wWK_s w.2.2.2) rfl ((cp_b (n := n) (b := 11) P).2.2.2.2) ?_
  refine zv_iadd dX7_perform_187 ?_
  refine zv_iret dX7_perform_188 rfl rfl ?_
  exact ⟨rfl, rfl, rfl, rfl, rfl⟩
theorem cP_bear_2 (d : Nat) {E : zv_E} {sh : zv_S} {I : zv_I} {J : zv_J} {R : zv_R} {l k n dp : Nat} {s na nu cn : Int32} (w : cp_w sh R l) (hk : k < 6) (P : cp_l I R l k s na nu cn) (ht : I 45 1 = nI n) (hn : n + 2 ≤ 60) (hdp : dp + 2 ≤ 40) (x : Int32) : zv_V E mX7_perform (d + 2) 0 0 0 [.ref (300 + 3 * l), .ref 45, .int (nI 2), .int (nI 1), .int x, .int (nI dp)] [] sh I J R (cc_p (p_bear 2 s na nu cn x).1 sh (ct_l I n (p_bear 2 s na nu cn x).2) J R) := by
  refine zv_iload_n dX7_perform_0 rfl rfl ?_
  refine zv_iload_n dX7_perform_1 rfl rfl ?_
  refine cc_callS (As := [.int (nI (2)), .int (nI (1))]) (st := []) dX7_perform_2 csX7_317 rfl (by decide) (cc_c1 rfl (cc_c1 rfl cc_c0)) (Nat.le_of_ble_eq_true rfl) (cK_2_1 (d + 1)) (fun v s1 I1 J1 R1 q => ?_)
  obtain ⟨rfl, rfl, rfl, rfl, rfl⟩ := q
  show zv_V _ _ _ _ _ 5 [.ref (300 + 3 * l), .ref 45, .int (nI (2)), .int (nI (1)), .int (x), .int (nI (dp))] [.int (nI (2))] _ _ _ _ _
  refine zv_istore (lv' := [.ref (300 + 3 * l), .ref 45, .int (nI (2)), .int (nI (1)), .int (x), .int (nI (dp)), .int (nI (2))]) dX7_perform_5 (by decide) rfl ?_
  refine zv_iload dX7_perform_7 rfl ?_
  refine zv_iconst (v := (-1 : Int32)) dX7_perform_9 (by decide) ?_
  refine zv_icmp_eq (tgt := 20) dX7_perform_10 (by decide) (fun h10 => (absurd h10 (by decide))) (fun h10 => ?_)
  refine zv_iload dX7_perform_13 rfl ?_
  refine zv_bipush (v := nI (40)) dX7_perform_15 (by decide) ?_
  refine zv_icN_le (tgt := 22) dX7_perform_17 (by decide) (by omega) (by omega) (fun h17 => ?_) (fun h17 => (absurd h17 (by omega)))
  refine zv_aload_n dX7_perform_22 rfl rfl ?_
  refine zv_geti 2 1 (x := nI (k)) dX7_perform_23 flX7_102 (wWL_s w.2.1) rfl (P.1) ?_
  refine zv_istore (lv' := [.ref (300 + 3 * l), .ref 45, .int (nI (2)), .int (nI (1)), .int (x), .int (nI (dp)), .int (nI (2)), .int (nI (k))]) dX7_perform_26 (by decide) rfl ?_
  refine zv_gets (b := 2) dX7_perform_28 (Or.inr ⟨rfl, st_320⟩) ?_
  refine zv_iload dX7_perform_31 rfl ?_
  refine zv_kald (j := 2) (x := nI (1)) dX7_perform_33 (rfl) (by omega) (rfl) ?_
  refine zv_istore (lv' := [.ref (300 + 3 * l), .ref 45, .int (nI (2)), .int (nI (1)), .int (x), .int (nI (dp)), .int (nI (2)), .int (nI (k)), .int (nI (1))]) dX7_perform_34 (by decide) rfl ?_
  refine zv_iload dX7_perform_36 rfl ?_
  refine zv_iconst (v := nI (1)) dX7_perform_38 (by decide) ?_
  refine zv_iadd dX7_perform_39 ?_
  refine cc_top (nI_add (dp) (1)) ?_
  refine zv_istore (lv' := [.ref (300 + 3 * l), .ref 45, .int (nI (2)), .int (nI (1)), .int (x), .int (nI (dp)), .int (nI (2)), .int (nI (k)), .int (nI (1)), .int (nI (dp + 1))]) dX7_perform_40 (by decide) rfl ?_
  refine zv_gets (b := 1) dX7_perform_42 (Or.inl ⟨rfl, st_323⟩) ?_
  refine zv_iload dX7_perform_45 rfl ?_
  refine zv_iconst (v := nI (4)) dX7_perform_47 (by decide) ?_
  refine zv_imul dX7_perform_48 ?_
  refine cc_top (y := nI (8)) (by decide) ?_
  refine zv_iload_n dX7_perform_49 rfl rfl ?_
  refine zv_iadd dX7_perform_50 ?_
  refine cc_top (y := nI (9)) (by decide) ?_
  refine zv_bald (j := 9) (x := nI (30)) dX7_perform_51 (rfl) (by omega) (rfl) ?_
  refine zv_istore (lv' := [.ref (300 + 3 * l), .ref 45, .int (nI (2)), .int (nI (1)), .int (x), .int (nI (dp)), .int (nI (2)), .int (nI (k)), .int (nI (1)), .int (nI (dp + 1)), .int (nI (30))]) dX7_perform_52 (by decide) rfl ?_
  refine zv_aload_n dX7_perform_54 rfl rfl ?_
  refine zv_iload dX7_perform_55 rfl ?_
  refine cc_callV (As := [.int (nI (30))]) (st := []) (c := 5) dX7_perform_57 cvX7_326 (wW0_s45 w.1) rfl rfl rfl (by decide) (cc_c1 rfl cc_c0) (Nat.le_of_ble_eq_true rfl) (cC_begin (d + 1) w.1 (n := n) (b := 30) ht (by omega)) (fun v s1 I1 J1 R1 q => ?_)
  obtain ⟨rfl, rfl, rfl, rfl, rfl⟩ := q
  show zv_V _ _ _ _ _ 60 [.ref (300 + 3 * l), .ref 45, .int (nI (2)), .int (nI (1)), .int (x), .int (nI (dp)), .int (nI (2)), .int (nI (k)), .int (nI (1)), .int (nI (dp + 1)), .int (nI (30))] [] _ _ _ _ _
  refine zv_iload dX7_perform_60 rfl ?_
  refine zv_lookup (off := 206) (tgt := 268) dX7_perform_62 (by decide) (by decide) (by decide) ?_
  refine zv_aload_n dX7_perform_268 rfl rfl ?_
  refine zv_aload_n dX7_perform_269 rfl rfl ?_
  refine zv_iload dX7_perform_270 rfl ?_
  refine zv_iconst (v := nI (1)) dX7_perform_272 (by decide) ?_
  refine zv_iload dX7_perform_273 rfl ?_
  refine zv_iconst (v := nI (1)) dX7_perform_275 (by decide) ?_
  refine zv_iadd dX7_perform_276 ?_
  refine zv_iload dX7_perform_277 rfl ?_
  refine cc_callS (As := [.ref (300 + 3 * l), .ref 45, .int (nI (1)), .int (nI (1)), .int (((x) + (nI (1)))), .int (nI (dp + 1))]) (st := []) dX7_perform_279 csX7_187 rfl (by decide) (cc_c1 rfl (cc_c1 rfl (cc_c1 rfl (cc_c1 rfl (cc_c1 rfl (cc_c1 rfl cc_c0)))))) (Nat.le_of_ble_eq_true rfl) (cP_bear_1 (d + 0) w hk (cp_b (n := n) (b := 30) P) (zv_u_s _ _ _ _) (by omega) (by omega) (((x) + (nI (1))))) (fun v s1 I1 J1 R1 q => ?_)
  obtain ⟨rfl, rfl, rfl, rfl, rfl⟩ := q
  show zv_V _ _ _ _ _ 282 [.ref (300 + 3 * l), .ref 45, .int (nI (2)), .int (nI (1)), .int (x), .int (nI (dp)), .int (nI (2)), .int (nI (k)), .int (nI (1)), .int (nI (dp + 1)), .int (nI (30))] [.int ((p_bear 1 s na nu cn (((x) + (nI (1))))).1)] _ _ _ _ _
  refine zv_aload_n dX7_perform_282 rfl rfl ?_
  refine zv_geti 2 8 (x := nu) dX7_perform_283 flX7_117 (wWL_s w.2.1) rfl ((cp_t (n := (n + 1)) (L := (p_bear 1 s na nu cn (((x) + (nI (1))))).2) (cp_b (n := n) (b := 30) P)).2.2.2.1) ?_
  refine zv_isub dX7_perform_286 ?_
  refine zv_iret dX7_perform_287 rfl rfl ?_
  exact ⟨rfl, rfl, rfl, rfl, rfl⟩
theorem cP_bear_5 (d : Nat) {E : zv_E} {sh : zv_S} {I : zv_I} {J : zv_J} {R : zv_R} {l k n dp : Nat} {s na nu cn : Int32} (w : cp_w sh R l) (hk : k < 6) (P : cp_l I R l k s na nu cn) (ht : I 45 1 = nI n) (hn : n + 8 ≤ 60) (hdp : dp + 3 ≤ 40) (x : Int32) : zv_V E mX7_perform (d + 3) 0 0 0 [.ref (300 + 3 * l), .ref 45, .int (nI 5), .int (nI 1), .int x, .int (nI dp)] [] sh I J R (cc_p (p_bear 5 s na nu cn x).1 sh (ct_l I n (p_bear 5 s na nu cn x).2) J R) := by
  refine zv_iload_n dX7_perform_0 rfl rfl ?_
  refine zv_iload_n dX7_perform_1 rfl rfl ?_
  refine cc_callS (As := [.int (nI (5)), .int (nI (1))]) (st := []) dX7_perform_2 csX7_317 rfl (by decide) (cc_c1 rfl (cc_c1 rfl cc_c0)) (Nat.le_of_ble_eq_true rfl) (cK_5_1 (d + 2)) (fun v s1 I1 J1 R1 q => ?_)
  obtain ⟨rfl, rfl, rfl, rfl, rfl⟩ := q
  show zv_V _ _ _ _ _ 5 [.ref (300 + 3 * l), .ref 45, .int (nI (5)), .int (nI (1)), .int (x), .int (nI (dp))] [.int (nI (5))] _ _ _ _ _
  refine zv_istore (lv' := [.ref (300 + 3 * l), .ref 45, .int (nI (5)), .int (nI (1)), .int (x), .int (nI (dp)), .int (nI (5))]) dX7_perform_5 (by decide) rfl ?_
  refine zv_iload dX7_perform_7 rfl ?_
  refine zv_iconst (v := (-1 : Int32)) dX7_perform_9 (by decide) ?_
  refine zv_icmp_eq (tgt := 20) dX7_perform_10 (by decide) (fun h10 => (absurd h10 (by decide))) (fun h10 => ?_)
  refine zv_iload dX7_perform_13 rfl ?_
  refine zv_bipush (v := nI (40)) dX7_perform_15 (by decide) ?_
  refine zv_icN_le (tgt := 22) dX7_perform_17 (by decide) (by omega) (by omega) (fun h17 => ?_) (fun h17 => (absurd h17 (by omega)))
  refine zv_aload_n dX7_perform_22 rfl rfl ?_
  refine zv_geti 2 1 (x := nI (k)) dX7_perform_23 flX7_102 (wWL_s w.2.1) rfl (P.1) ?_
  refine zv_istore (lv' := [.ref (300 + 3 * l), .ref 45, .int (nI (5)), .int (nI (1)), .int (x), .int (nI (dp)), .int (nI (5)), .int (nI (k))]) dX7_perform_26 (by decide) rfl ?_
  refine zv_gets (b := 2) dX7_perform_28 (Or.inr ⟨rfl, st_320⟩) ?_
  refine zv_iload dX7_perform_31 rfl ?_
  refine zv_kald (j := 5) (x := nI (4)) dX7_perform_33 (rfl) (by omega) (rfl) ?_
  refine zv_istore (lv' := [.ref (300 + 3 * l), .ref 45, .int (nI (5)), .int (nI (1)), .int (x), .int (nI (dp)), .int (nI (5)), .int (nI (k)), .int (nI (4))]) dX7_perform_34 (by decide) rfl ?_
  refine zv_iload dX7_perform_36 rfl ?_
  refine zv_iconst (v := nI (1)) dX7_perform_38 (by decide) ?_
  refine zv_iadd dX7_perform_39 ?_
  refine cc_top (nI_add (dp) (1)) ?_
  refine zv_istore (lv' := [.ref (300 + 3 * l), .ref 45, .int (nI (5)), .int (nI (1)), .int (x), .int (nI (dp)), .int (nI (5)), .int (nI (k)), .int (nI (4)), .int (nI (dp + 1))]) dX7_perform_40 (by decide) rfl ?_
  refine zv_gets (b := 1) dX7_perform_42 (Or.inl ⟨rfl, st_323⟩) ?_
  refine zv_iload dX7_perform_45 rfl ?_
  refine zv_iconst (v := nI (4)) dX7_perform_47 (by decide) ?_
  refine zv_imul dX7_perform_48 ?_
  refine cc_top (y := nI (20)) (by decide) ?_
  refine zv_iload_n dX7_perform_49 rfl rfl ?_
  refine zv_iadd dX7_perform_50 ?_
  refine cc_top (y := nI (21)) (by decide) ?_
  refine zv_bald (j := 21) (x := nI (60)) dX7_perform_51 (rfl) (by omega) (rfl) ?_
  refine zv_istore (lv' := [.ref (300 + 3 * l), .ref 45, .int (nI (5)), .int (nI (1)), .int (x), .int (nI (dp)), .int (nI (5)), .int (nI (k)), .int (nI (4)), .int (nI (dp + 1)), .int (nI (60))]) dX7_perform_52 (by decide) rfl ?_
  refine zv_aload_n dX7_perform_54 rfl rfl ?_
  refine zv_iload dX7_perform_55 rfl ?_
  refine cc_callV (As := [.int (nI (60))]) (st := []) (c := 5) dX7_perform_57 cvX7_326 (wW0_s45 w.1) rfl rfl rfl (by decide) (cc_c1 rfl cc_c0) (Nat.le_of_ble_eq_true rfl) (cC_begin (d + 2) w.1 (n := n) (b := 60) ht (by omega)) (fun v s1 I1 J1 R1 q => ?_)
  obtain ⟨rfl, rfl, rfl, rfl, rfl⟩ := q
  show zv_V _ _ _ _ _ 60 [.ref (300 + 3 * l), .ref 45, .int (nI (5)), .int (nI (1)), .int (x), .int (nI (dp)), .int (nI (5)), .int (nI (k)), .int (nI (4)), .int (nI (dp + 1)), .int (nI (60))] [] _ _ _ _ _
  refine zv_iload dX7_perform_60 rfl ?_
  refine zv_lookup (off := 284) (tgt := 346) dX7_perform_62 (by decide) (by decide) (by decide) ?_
  refine zv_aload_n dX7_perform_346 rfl rfl ?_
  refine zv_aload_n dX7_perform_347 rfl rfl ?_
  refine zv_iload dX7_perform_348 rfl ?_
  refine zv_iconst (v := nI (1)) dX7_perform_350 (by decide) ?_
  refine zv_iload dX7_perform_351 rfl ?_
  refine zv_iload dX7_perform_353 rfl ?_
  refine cc_callS (As := [.ref (300 + 3 * l), .ref 45, .int (nI (4)), .int (nI (1)), .int (x), .int (nI (dp + 1))]) (st := []) dX7_perform_355 csX7_187 rfl (by decide) (cc_c1 rfl (cc_c1 rfl (cc_c1 rfl (cc_c1 rfl (cc_c1 rfl (cc_c1 rfl cc_c0)))))) (Nat.le_of_ble_eq_true rfl) (cP_bear_4 (d + 1) w hk (cp_b (n := n) (b := 60) P) (zv_u_s _ _ _ _) (by omega) (by omega) x) (fun v s1 I1 J1 R1 q => ?_)
  obtain ⟨rfl, rfl, rfl, rfl, rfl⟩ := q
  show zv_V _ _ _ _ _ 358 [.ref (300 + 3 * l), .ref 45, .int (nI (5)), .int (nI (1)), .int (x), .int (nI (dp)), .int (nI (5)), .int (nI (k)), .int (nI (4)), .int (nI (dp + 1)), .int (nI (60))] [.int ((p_bear 4 s na nu cn x).1)] _ _ _ _ _
  refine zv_iconst (v := nI (2)) dX7_perform_358 (by decide) ?_
  refine zv_imul dX7_perform_359 ?_
  refine zv_aload_n dX7_perform_360 rfl rfl ?_
  refine zv_aload_n dX7_perform_361 rfl rfl ?_
  refine zv_iload dX7_perform_362 rfl ?_
  refine zv_iconst (v := nI (0)) dX7_perform_364 (by decide) ?_
  refine zv_iload dX7_perform_365 rfl ?_
  refine zv_iload dX7_perform_367 rfl ?_
  refine cc_callS (As := [.ref (300 + 3 * l), .ref 45, .int (nI (4)), .int (nI (0)), .int (x), .int (nI (dp + 1))]) (st := [.int ((((p_bear 4 s na nu cn x).1) * (nI (2))))]) dX7_perform_369 csX7_187 rfl (by decide) (cc_c1 rfl (cc_c1 rfl (cc_c1 rfl (cc_c1 rfl (cc_c1 rfl (cc_c1 rfl cc_c0)))))) (Nat.le_of_ble_eq_true rfl) (cP_age_4 (d + 0) w hk (cp_t (n := (n + 1)) (L := (p_bear 4 s na nu cn x).2) (cp_b (n := n) (b := 60) P)) (ct_l_45 _ (zv_u_s _ _ _ _)) (by have := p_bear_l 4 s na nu cn x; omega) (by omega) x) (fun v s1 I1 J1 R1 q => ?_)
  obtain ⟨rfl, rfl, rfl, rfl, rfl⟩ := q
  show zv_V _ _ _ _ _ 372 [.ref (300 + 3 * l), .ref 45, .int (nI (5)), .int (nI (1)), .int (x), .int (nI (dp)), .int (nI (5)), .int (nI (k)), .int (nI (4)), .int (nI (dp + 1)), .int (nI (60))] [.int ((p_age 4 s na x).1), .int ((((p_bear 4 s na nu cn x).1) * (nI (2))))] _ _ _ _ _
  refine zv_iadd dX7_perform_372 ?_
  refine zv_iret dX7_perform_373 rfl rfl ?_
  exact ⟨rfl, rfl, ct_l_app _ _ _ _, rfl, rfl⟩
theorem cP_bear (d : Nat) {E : zv_E} {sh : zv_S} {I : zv_I} {J : zv_J} {R : zv_R} {l k n dp : Nat} {s na nu cn : Int32} {f : Nat} (hf : f < 6) (w : cp_w sh R l) (hk : k < 6) (P : cp_l I R l k s na nu cn) (ht : I 45 1 = nI n) (hn : n + 8 ≤ 60) (hdp : dp + 3 ≤ 40) (x : Int32) : zv_V E mX7_perform (d + 3) 0 0 0 [.ref (300 + 3 * l), .ref 45, .int (nI f), .int (nI 1), .int x, .int (nI dp)] [] sh I J R (cc_p (p_bear f s na nu cn x).1 sh (ct_l I n (p_bear f s na nu cn x).2) J R) := by
  rcases (show f = 0 ∨ f = 1 ∨ f = 2 ∨ f = 3 ∨ f = 4 ∨ f = 5 by omega) with rfl | rfl | rfl | rfl | rfl | rfl
  · exact cP_bear_0 (d + 2) w hk P ht (by omega) (by omega) x
  · exact cP_bear_1 (d + 2) w hk P ht (by omega) (by omega) x
  · exact cP_bear_2 (d + 1) w hk P ht (by omega) (by omega) x
  · exact cP_bear_3 (d + 2) w hk P ht (by omega) (by omega) x
  · exact cP_bear_4 (d + 2) w hk P ht (by omega) (by omega) x
  · exact cP_bear_5 (d + 0) w hk P ht (by omega) (by omega) x
theorem cP_give_0 (d : Nat) {E : zv_E} {sh : zv_S} {I : zv_I} {J : zv_J} {R : zv_R} {l k n dp : Nat} {s na nu cn : Int32} (w : cp_w sh R l) (hk : k < 6) (P : cp_l I R l k s na nu cn) (ht : I 45 1 = nI n) (hn : n + 12 ≤ 60) (hdp : dp + 4 ≤ 40) (x : Int32) : zv_V E mX7_perform (d + 4) 0 0 0 [.ref (300 + 3 * l), .ref 45, .int (nI 0), .int (nI 2), .int x, .int (nI dp)] [] sh I J R (cc_p (p_gf 0 k s na nu cn x).1 sh (ct_l I n (p_gf 0 k s na nu cn x).2) J R) := by
  refine zv_iload_n dX7_perform_0 rfl rfl ?_
  refine zv_iload_n dX7_perform_1 rfl rfl ?_
  refine cc_callS (As := [.int (nI (0)), .int (nI (2))]) (st := []) dX7_perform_2 csX7_317 rfl (by decide) (cc_c1 rfl (cc_c1 rfl cc_c0)) (Nat.le_of_ble_eq_true rfl) (cK_0_2 (d + 3)) (fun v s1 I1 J1 R1 q => ?_)
  obtain ⟨rfl, rfl, rfl, rfl, rfl⟩ := q
  show zv_V _ _ _ _ _ 5 [.ref (300 + 3 * l), .ref 45, .int (nI (0)), .int (nI (2)), .int (x), .int (nI (dp))] [.int (nI (0))] _ _ _ _ _
  refine zv_istore (lv' := [.ref (300 + 3 * l), .ref 45, .int (nI (0)), .int (nI (2)), .int (x), .int (nI (dp)), .int (nI (0))]) dX7_perform_5 (by decide) rfl ?_
  refine zv_iload dX7_perform_7 rfl ?_
  refine zv_iconst (v := (-1 : Int32)) dX7_perform_9 (by decide) ?_
  refine zv_icmp_eq (tgt := 20) dX7_perform_10 (by decide) (fun h10 => (absurd h10 (by decide))) (fun h10 => ?_)
  refine zv_iload dX7_perform_13 rfl ?_
  refine zv_bipush (v := nI (40)) dX7_perform_15 (by decide) ?_
  refine zv_icN_le (tgt := 22) dX7_perform_17 (by decide) (by omega) (by omega) (fun h17 => ?_) (fun h17 => (absurd h17 (by omega)))
  refine zv_aload_n dX7_perform_22 rfl rfl ?_
  refine zv_geti 2 1 (x := nI (k)) dX7_perform_23 flX7_102 (wWL_s w.2.1) rfl (P.1) ?_
  refine zv_istore (lv' := [.ref (300 + 3 * l), .ref 45, .int (nI (0)), .int (nI (2)), .int (x), .int (nI (dp)), .int (nI (0)), .int (nI (k))]) dX7_perform_26 (by decide) rfl ?_
  refine zv_gets (b := 2) dX7_perform_28 (Or.inr ⟨rfl, st_320⟩) ?_
  refine zv_iload dX7_perform_31 rfl ?_
  refine zv_kald (j := 0) (x := (-1 : Int32)) dX7_perform_33 (rfl) (by omega) (rfl) ?_
  refine zv_istore (lv' := [.ref (300 + 3 * l), .ref 45, .int (nI (0)), .int (nI (2)), .int (x), .int (nI (dp)), .int (nI (0)), .int (nI (k)), .int ((-1 : Int32))]) dX7_perform_34 (by decide) rfl ?_
  refine zv_iload dX7_perform_36 rfl ?_
  refine zv_iconst (v := nI (1)) dX7_perform_38 (by decide) ?_
  refine zv_iadd dX7_perform_39 ?_
  refine cc_top (nI_add (dp) (1)) ?_
  refine zv_istore (lv' := [.ref (300 + 3 * l), .ref 45, .int (nI (0)), .int (nI (2)), .int (x), .int (nI (dp)), .int (nI (0)), .int (nI (k)), .int ((-1 : Int32)), .int (nI (dp + 1))]) dX7_perform_40 (by decide) rfl ?_
  refine zv_gets (b := 1) dX7_perform_42 (Or.inl ⟨rfl, st_323⟩) ?_
  refine zv_iload dX7_perform_45 rfl ?_
  refine zv_iconst (v := nI (4)) dX7_perform_47 (by decide) ?_
  refine zv_imul dX7_perform_48 ?_
  refine cc_top (y := nI (0)) (by decide) ?_
  refine zv_iload_n dX7_perform_49 rfl rfl ?_
  refine zv_iadd dX7_perform_50 ?_
  refine cc_top (y := nI (2)) (by decide) ?_
  refine zv_bald (j := 2) (x := nI (12)) dX7_perform_51 (rfl) (by omega) (rfl) ?_
  refine zv_istore (lv' := [.ref (300 + 3 * l), .ref 45, .int (nI (0)), .int (nI (2)), .int (x), .int (nI (dp)), .int (nI (0)), .int (nI (k)), .int ((-1 : Int32)), .int (nI (dp + 1)), .int (nI (12))]) dX7_perform_52 (by decide) rfl ?_
  refine zv_aload_n dX7_perform_54 rfl rfl ?_
  refine zv_iload dX7_perform_55 rfl ?_
  refine cc_callV (As := [.int (nI (12))]) (st := []) (c := 5) dX7_perform_57 cvX7_326 (wW0_s45 w.1) rfl rfl rfl (by decide) (cc_c1 rfl cc_c0) (Nat.le_of_ble_eq_true rfl) (cC_begin (d + 3) w.1 (n := n) (b := 12) ht (by omega)) (fun v s1 I1 J1 R1 q => ?_)
  obtain ⟨rfl, rfl, rfl, rfl, rfl⟩ := q
  show zv_V _ _ _ _ _ 60 [.ref (300 + 3 * l), .ref 45, .int (nI (0)), .int (nI (2)), .int (x), .int (nI (dp)), .int (nI (0)), .int (nI (k)), .int ((-1 : Int32)), .int (nI (dp + 1)), .int (nI (12))] [] _ _ _ _ _
  refine zv_iload dX7_perform_60 rfl ?_
  refine zv_lookup (off := 127) (tgt := 189) dX7_perform_62 (by decide) (by decide) (by decide) ?_
  refine zv_aload_n dX7_perform_189 rfl rfl ?_
  refine zv_aload_n dX7_perform_190 rfl rfl ?_
  refine zv_iload dX7_perform_191 rfl ?_
  refine zv_iconst (v := nI (0)) dX7_perform_193 (by decide) ?_
  refine zv_iload dX7_perform_194 rfl ?_
  refine zv_iload dX7_perform_196 rfl ?_
  refine cc_callS (As := [.ref (300 + 3 * l), .ref 45, .int (nI (k)), .int (nI (0)), .int (x), .int (nI (dp + 1))]) (st := []) dX7_perform_198 csX7_187 rfl (by decide) (cc_c1 rfl (cc_c1 rfl (cc_c1 rfl (cc_c1 rfl (cc_c1 rfl (cc_c1 rfl cc_c0)))))) (Nat.le_of_ble_eq_true rfl) (cP_age (d + 1) (f := k) hk w hk (cp_b (n := n) (b := 12) P) (zv_u_s _ _ _ _) (by omega) (by omega) x) (fun v s1 I1 J1 R1 q => ?_)
  obtain ⟨rfl, rfl, rfl, rfl, rfl⟩ := q
  show zv_V _ _ _ _ _ 201 [.ref (300 + 3 * l), .ref 45, .int (nI (0)), .int (nI (2)), .int (x), .int (nI (dp)), .int (nI (0)), .int (nI (k)), .int ((-1 : Int32)), .int (nI (dp + 1)), .int (nI (12))] [.int ((p_age k s na x).1)] _ _ _ _ _
  refine zv_aload_n dX7_perform_201 rfl rfl ?_
  refine zv_aload_n dX7_perform_202 rfl rfl ?_
  refine zv_iload dX7_perform_203 rfl ?_
  refine zv_iconst (v := nI (1)) dX7_perform_205 (by decide) ?_
  refine zv_iload dX7_perform_206 rfl ?_
  refine zv_iload dX7_perform_208 rfl ?_
  refine cc_callS (As := [.ref (300 + 3 * l), .ref 45, .int (nI (k)), .int (nI (1)), .int (x), .int (nI (dp + 1))]) (st := [.int ((p_age k s na x).1)]) dX7_perform_210 csX7_187 rfl (by decide) (cc_c1 rfl (cc_c1 rfl (cc_c1 rfl (cc_c1 rfl (cc_c1 rfl (cc_c1 rfl cc_c0)))))) (Nat.le_of_ble_eq_true rfl) (cP_bear (d + 0) (f := k) hk w hk (cp_t (n := (n + 1)) (L := (p_age k s na x).2) (cp_b (n := n) (b := 12) P)) (ct_l_45 _ (zv_u_s _ _ _ _)) (by have := p_age_l k s na x; omega) (by omega) x) (fun v s1 I1 J1 R1 q => ?_)
  obtain ⟨rfl, rfl, rfl, rfl, rfl⟩ := q
  show zv_V _ _ _ _ _ 213 [.ref (300 + 3 * l), .ref 45, .int (nI (0)), .int (nI (2)), .int (x), .int (nI (dp)), .int (nI (0)), .int (nI (k)), .int ((-1 : Int32)), .int (nI (dp + 1)), .int (nI (12))] [.int ((p_bear k s na nu cn x).1), .int ((p_age k s na x).1)] _ _ _ _ _
  refine zv_iadd dX7_perform_213 ?_
  refine zv_iret dX7_perform_214 rfl rfl ?_
  exact ⟨rfl, rfl, ct_l_app _ _ _ _, rfl, rfl⟩
theorem cP_give_1 (d : Nat) {E : zv_E} {sh : zv_S} {I : zv_I} {J : zv_J} {R : zv_R} {l k n dp : Nat} {s na nu cn : Int32} (w : cp_w sh R l) (hk : k < 6) (P : cp_l I R l k s na nu cn) (ht : I 45 1 = nI n) (hn : n + 12 ≤ 60) (hdp : dp + 4 ≤ 40) (x : Int32) : zv_V E mX7_perform (d + 4) 0 0 0 [.ref (300 + 3 * l), .ref 45, .int (nI 1), .int (nI 2), .int x, .int (nI dp)] [] sh I J R (cc_p (p_gf 1 k s na nu cn x).1 sh (ct_l I n (p_gf 1 k s na nu cn x).2) J R) := by
  refine zv_iload_n dX7_perform_0 rfl rfl ?_
  refine zv_iload_n dX7_perform_1 rfl rfl ?_
  refine cc_callS (As := [.int (nI (1)), .int (nI (2))]) (st := []) dX7_perform_2 csX7_317 rfl (by decide) (cc_c1 rfl (cc_c1 rfl cc_c0)) (Nat.le_of_ble_eq_true rfl) (cK_1_2 (d + 3)) (fun v s1 I1 J1 R1 q => ?_)
  obtain ⟨rfl, rfl, rfl, rfl, rfl⟩ := q
  show zv_V _ _ _ _ _ 5 [.ref (300 + 3 * l), .ref 45, .int (nI (1)), .int (nI (2)), .int (x), .int (nI (dp))] [.int (nI (0))] _ _ _ _ _
  refine zv_istore (lv' := [.ref (300 + 3 * l), .ref 45, .int (nI (1)), .int (nI (2)), .int (x), .int (nI (dp)), .int (nI (0))]) dX7_perform_5 (by decide) rfl ?_
  refine zv_iload dX7_perform_7 rfl ?_
  refine zv_iconst (v := (-1 : Int32)) dX7_perform_9 (by decide) ?_
  refine zv_icmp_eq (tgt := 20) dX7_perform_10 (by decide) (fun h10 => (absurd h10 (by decide))) (fun h10 => ?_)
  refine zv_iload dX7_perform_13 rfl ?_
  refine zv_bipush (v := nI (40)) dX7_perform_15 (by decide) ?_
  refine zv_icN_le (tgt := 22) dX7_perform_17 (by decide) (by omega) (by omega) (fun h17 => ?_) (fun h17 => (absurd h17 (by omega)))
  refine zv_aload_n dX7_perform_22 rfl rfl ?_
  refine zv_geti 2 1 (x := nI (k)) dX7_perform_23 flX7_102 (wWL_s w.2.1) rfl (P.1) ?_
  refine zv_istore (lv' := [.ref (300 + 3 * l), .ref 45, .int (nI (1)), .int (nI (2)), .int (x), .int (nI (dp)), .int (nI (0)), .int (nI (k))]) dX7_perform_26 (by decide) rfl ?_
  refine zv_gets (b := 2) dX7_perform_28 (Or.inr ⟨rfl, st_320⟩) ?_
  refine zv_iload dX7_perform_31 rfl ?_
  refine zv_kald (j := 0) (x := (-1 : Int32)) dX7_perform_33 (rfl) (by omega) (rfl) ?_
  refine zv_istore (lv' := [.ref (300 + 3 * l), .ref 45, .int (nI (1)), .int (nI (2)), .int (x), .int (nI (dp)), .int (nI (0)), .int (nI (k)), .int ((-1 : Int32))]) dX7_perform_34 (by decide) rfl ?_
  refine zv_iload dX7_perform_36 rfl ?_
  refine zv_iconst (v := nI (1)) dX7_perform_38 (by decide) ?_
  refine zv_iadd dX7_perform_39 ?_
  refine cc_top (nI_add (dp) (1)) ?_
  refine zv_istore (lv' := [.ref (300 + 3 * l), .ref 45, .int (nI (1)), .int (nI (2)), .int (x), .int (nI (dp)), .int (nI (0)), .int (nI (k)), .int ((-1 : Int32)), .int (nI (dp + 1))]) dX7_perform_40 (by decide) rfl ?_
  refine zv_gets (b := 1) dX7_perform_42 (Or.inl ⟨rfl, st_323⟩) ?_
  refine zv_iload dX7_perform_45 rfl ?_
  refine zv_iconst (v := nI (4)) dX7_perform_47 (by decide) ?_
  refine zv_imul dX7_perform_48 ?_
  refine cc_top (y := nI (0)) (by decide) ?_
  refine zv_iload_n dX7_perform_49 rfl rfl ?_
  refine zv_iadd dX7_perform_50 ?_
  refine cc_top (y := nI (2)) (by decide) ?_
  refine zv_bald (j := 2) (x := nI (12)) dX7_perform_51 (rfl) (by omega) (rfl) ?_
  refine zv_istore (lv' := [.ref (300 + 3 * l), .ref 45, .int (nI (1)), .int (nI (2)), .int (x), .int (nI (dp)), .int (nI (0)), .int (nI (k)), .int ((-1 : Int32)), .int (nI (dp + 1)), .int (nI (12))]) dX7_perform_52 (by decide) rfl ?_
  refine zv_aload_n dX7_perform_54 rfl rfl ?_
  refine zv_iload dX7_perform_55 rfl ?_
  refine cc_callV (As := [.int (nI (12))]) (st := []) (c := 5) dX7_perform_57 cvX7_326 (wW0_s45 w.1) rfl rfl rfl (by decide) (cc_c1 rfl cc_c0) (Nat.le_of_ble_eq_true rfl) (cC_begin (d + 3) w.1 (n := n) (b := 12) ht (by omega)) (fun v s1 I1 J1 R1 q => ?_)
  obtain ⟨rfl, rfl, rfl, rfl, rfl⟩ := q
  show zv_V _ _ _ _ _ 60 [.ref (300 + 3 * l), .ref 45, .int (nI (1)), .int (nI (2)), .int (x), .int (nI (dp)), .int (nI (0)), .int (nI (k)), .int ((-1 : Int32)), .int (nI (dp + 1)), .int (nI (12))] [] _ _ _ _ _
  refine zv_iload dX7_perform_60 rfl ?_
  refine zv_lookup (off := 127) (tgt := 189) dX7_perform_62 (by decide) (by decide) (by decide) ?_
  refine zv_aload_n dX7_perform_189 rfl rfl ?_
  refine zv_aload_n dX7_perform_190 rfl rfl ?_
  refine zv_iload dX7_perform_191 rfl ?_
  refine zv_iconst (v := nI (0)) dX7_perform_193 (by decide) ?_
  refine zv_iload dX7_perform_194 rfl ?_
  refine zv_iload dX7_perform_196 rfl ?_
  refine cc_callS (As := [.ref (300 + 3 * l), .ref 45, .int (nI (k)), .int (nI (0)), .int (x), .int (nI (dp + 1))]) (st := []) dX7_perform_198 csX7_187 rfl (by decide) (cc_c1 rfl (cc_c1 rfl (cc_c1 rfl (cc_c1 rfl (cc_c1 rfl (cc_c1 rfl cc_c0)))))) (Nat.le_of_ble_eq_true rfl) (cP_age (d + 1) (f := k) hk w hk (cp_b (n := n) (b := 12) P) (zv_u_s _ _ _ _) (by omega) (by omega) x) (fun v s1 I1 J1 R1 q => ?_)
  obtain ⟨rfl, rfl, rfl, rfl, rfl⟩ := q
  show zv_V _ _ _ _ _ 201 [.ref (300 + 3 * l), .ref 45, .int (nI (1)), .int (nI (2)), .int (x), .int (nI (dp)), .int (nI (0)), .int (nI (k)), .int ((-1 : Int32)), .int (nI (dp + 1)), .int (nI (12))] [.int ((p_age k s na x).1)] _ _ _ _ _
  refine zv_aload_n dX7_perform_201 rfl rfl ?_
  refine zv_aload_n dX7_perform_202 rfl rfl ?_
  refine zv_iload dX7_perform_203 rfl ?_
  refine zv_iconst (v := nI (1)) dX7_perform_205 (by decide) ?_
  refine zv_iload dX7_perform_206 rfl ?_
  refine zv_iload dX7_perform_208 rfl ?_
  refine cc_callS (As := [.ref (300 + 3 * l), .ref 45, .int (nI (k)), .int (nI (1)), .int (x), .int (nI (dp + 1))]) (st := [.int ((p_age k s na x).1)]) dX7_perform_210 csX7_187 rfl (by decide) (cc_c1 rfl (cc_c1 rfl (cc_c1 rfl (cc_c1 rfl (cc_c1 rfl (cc_c1 rfl cc_c0)))))) (Nat.le_of_ble_eq_true rfl) (cP_bear (d + 0) (f := k) hk w hk (cp_t (n := (n + 1)) (L := (p_age k s na x).2) (cp_b (n := n) (b := 12) P)) (ct_l_45 _ (zv_u_s _ _ _ _)) (by have := p_age_l k s na x; omega) (by omega) x) (fun v s1 I1 J1 R1 q => ?_)
  obtain ⟨rfl, rfl, rfl, rfl, rfl⟩ := q
  show zv_V _ _ _ _ _ 213 [.ref (300 + 3 * l), .ref 45, .int (nI (1)), .int (nI (2)), .int (x), .int (nI (dp)), .int (nI (0)), .int (nI (k)), .int ((-1 : Int32)), .int (nI (dp + 1)), .int (nI (12))] [.int ((p_bear k s na nu cn x).1), .int ((p_age k s na x).1)] _ _ _ _ _
  refine zv_iadd dX7_perform_213 ?_
  refine zv_iret dX7_perform_214 rfl rfl ?_
  exact ⟨rfl, rfl, ct_l_app _ _ _ _, rfl, rfl⟩
theorem cP_give_3 (d : Nat) {E : zv_E} {sh : zv_S} {I : zv_I} {J : zv_J} {R : zv_R} {l k n dp : Nat} {s na nu cn : Int32} (w : cp_w sh R l) (hk : k < 6) (P : cp_l I R l k s na nu cn) (ht : I 45 1 = nI n) (hn : n + 12 ≤ 60) (hdp : dp + 4 ≤ 40) (x : Int32) : zv_V E mX7_perform (d + 4) 0 0 0 [.ref (300 + 3 * l), .ref 45, .int (nI 3), .int (nI 2), .int x, .int (nI dp)] [] sh I J R (cc_p (p_gf 3 k s na nu cn x).1 sh (ct_l I n (p_gf 3 k s na nu cn x).2) J R) := by
  refine zv_iload_n dX7_perform_0 rfl rfl ?_
  refine zv_iload_n dX7_perform_1 rfl rfl ?_
  refine cc_callS (As := [.int (nI (3)), .int (nI (2))]) (st := []) dX7_perform_2 csX7_317 rfl (by decide) (cc_c1 rfl (cc_c1 rfl cc_c0)) (Nat.le_of_ble_eq_true rfl) (cK_3_2 (d + 3)) (fun v s1 I1 J1 R1 q => ?_)
  obtain ⟨rfl, rfl, rfl, rfl, rfl⟩ := q
  show zv_V _ _ _ _ _ 5 [.ref (300 + 3 * l), .ref 45, .int (nI (3)), .int (nI (2)), .int (x), .int (nI (dp))] [.int (nI (0))] _ _ _ _ _
  refine zv_istore (lv' := [.ref (300 + 3 * l), .ref 45, .int (nI (3)), .int (nI (2)), .int (x), .int (nI (dp)), .int (nI (0))]) dX7_perform_5 (by decide) rfl ?_
  refine zv_iload dX7_perform_7 rfl ?_
  refine zv_iconst (v := (-1 : Int32)) dX7_perform_9 (by decide) ?_
  refine zv_icmp_eq (tgt := 20) dX7_perform_10 (by decide) (fun h10 => (absurd h10 (by decide))) (fun h10 => ?_)
  refine zv_iload dX7_perform_13 rfl ?_
  refine zv_bipush (v := nI (40)) dX7_perform_15 (by decide) ?_
  refine zv_icN_le (tgt := 22) dX7_perform_17 (by decide) (by omega) (by omega) (fun h17 => ?_) (fun h17 => (absurd h17 (by omega)))
  refine zv_aload_n dX7_perform_22 rfl rfl ?_
  refine zv_geti 2 1 (x := nI (k)) dX7_perform_23 flX7_102 (wWL_s w.2.1) rfl (P.1) ?_
  refine zv_istore (lv' := [.ref (300 + 3 * l), .ref 45, .int (nI (3)), .int (nI (2)), .int (x), .int (nI (dp)), .int (nI (0)), .int (nI (k))]) dX7_perform_26 (by decide) rfl ?_
  refine zv_gets (b := 2) dX7_perform_28 (Or.inr ⟨rfl, st_320⟩) ?_
  refine zv_iload dX7_perform_31 rfl ?_
  refine zv_kald (j := 0) (x := (-1 : Int32)) dX7_perform_33 (rfl) (by omega) (rfl) ?_
  refine zv_istore (lv' := [.ref (300 + 3 * l), .ref 45, .int (nI (3)), .int (nI (2)), .int (x), .int (nI (dp)), .int (nI (0)), .int (nI (k)), .int ((-1 : Int32))]) dX7_perform_34 (by decide) rfl ?_
  refine zv_iload dX7_perform_36 rfl ?_
  refine zv_iconst (v := nI (1)) dX7_perform_38 (by decide) ?_
  refine zv_iadd dX7_perform_39 ?_
  refine cc_top (nI_add (dp) (1)) ?_
  refine zv_istore (lv' := [.ref (300 + 3 * l), .ref 45, .int (nI (3)), .int (nI (2)), .int (x), .int (nI (dp)), .int (nI (0)), .int (nI (k)), .int ((-1 : Int32)), .int (nI (dp + 1))]) dX7_perform_40 (by decide) rfl ?_
  refine zv_gets (b := 1) dX7_perform_42 (Or.inl ⟨rfl, st_323⟩) ?_
  refine zv_iload dX7_perform_45 rfl ?_
  refine zv_iconst (v := nI (4)) dX7_perform_47 (by decide) ?_
  refine zv_imul dX7_perform_48 ?_
  refine cc_top (y := nI (0)) (by decide) ?_
  refine zv_iload_n dX7_perform_49 rfl rfl ?_
  refine zv_iadd dX7_perform_50 ?_
  refine cc_top (y := nI (2)) (by decide) ?_
  refine zv_bald (j := 2) (x := nI (12)) dX7_perform_51 (rfl) (by omega) (rfl) ?_
  refine zv_istore (lv' := [.ref (300 + 3 * l), .ref 45, .int (nI (3)), .int (nI (2)), .int (x), .int (nI (dp)), .int (nI (0)), .int (nI (k)), .int ((-1 : Int32)), .int (nI (dp + 1)), .int (nI (12))]) dX7_perform_52 (by decide) rfl ?_
  refine zv_aload_n dX7_perform_54 rfl rfl ?_
  refine zv_iload dX7_perform_55 rfl ?_
  refine cc_callV (As := [.int (nI (12))]) (st := []) (c := 5) dX7_perform_57 cvX7_326 (wW0_s45 w.1) rfl rfl rfl (by decide) (cc_c1 rfl cc_c0) (Nat.le_of_ble_eq_true rfl) (cC_begin (d + 3) w.1 (n := n) (b := 12) ht (by omega)) (fun v s1 I1 J1 R1 q => ?_)
  obtain ⟨rfl, rfl, rfl, rfl, rfl⟩ := q
  show zv_V _ _ _ _ _ 60 [.ref (300 + 3 * l), .ref 45, .int (nI (3)), .int (nI (2)), .int (x), .int (nI (dp)), .int (nI (0)), .int (nI (k)), .int ((-1 : Int32)), .int (nI (dp + 1)), .int (nI (12))] [] _ _ _ _ _
  refine zv_iload dX7_perform_60 rfl ?_
  refine zv_lookup (off := 127) (tgt := 189) dX7_perform_62 (by decide) (by decide) (by decide) ?_
  refine zv_aload_n dX7_perform_189 rfl rfl ?_
  refine zv_aload_n dX7_perform_190 rfl rfl ?_
  refine zv_iload dX7_perform_191 rfl ?_
  refine zv_iconst (v := nI (0)) dX7_perform_193 (by decide) ?_
  refine zv_iload dX7_perform_194 rfl ?_
  refine zv_iload dX7_perform_196 rfl ?_
  refine cc_callS (As := [.ref (300 + 3 * l), .ref 45, .int (nI (k)), .int (nI (0)), .int (x), .int (nI (dp + 1))]) (st := []) dX7_perform_198 csX7_187 rfl (by decide) (cc_c1 rfl (cc_c1 rfl (cc_c1 rfl (cc_c1 rfl (cc_c1 rfl (cc_c1 rfl cc_c0)))))) (Nat.le_of_ble_eq_true rfl) (cP_age (d + 1) (f := k) hk w hk (cp_b (n := n) (b := 12) P) (zv_u_s _ _ _ _) (by omega) (by omega) x) (fun v s1 I1 J1 R1 q => ?_)
  obtain ⟨rfl, rfl, rfl, rfl, rfl⟩ := q
  show zv_V _ _ _ _ _ 201 [.ref (300 + 3 * l), .ref 45, .int (nI (3)), .int (nI (2)), .int (x), .int (nI (dp)), .int (nI (0)), .int (nI (k)), .int ((-1 : Int32)), .int (nI (dp + 1)), .int (nI (12))] [.int ((p_age k s na x).1)] _ _ _ _ _
  refine zv_aload_n dX7_perform_201 rfl rfl ?_
  refine zv_aload_n dX7_perform_202 rfl rfl ?_
  refine zv_iload dX7_perform_203 rfl ?_
  refine zv_iconst (v := nI (1)) dX7_perform_205 (by decide) ?_
  refine zv_iload dX7_perform_206 rfl ?_
  refine zv_iload dX7_perform_208 rfl ?_
  refine cc_callS (As := [.ref (300 + 3 * l), .ref 45, .int (nI (k)), .int (nI (1)), .int (x), .int (nI (dp + 1))]) (st := [.int ((p_age k s na x).1)]) dX7_perform_210 csX7_187 rfl (by decide) (cc_c1 rfl (cc_c1 rfl (cc_c1 rfl (cc_c1 rfl (cc_c1 rfl (cc_c1 rfl cc_c0)))))) (Nat.le_of_ble_eq_true rfl) (cP_bear (d + 0) (f := k) hk w hk (cp_t (n := (n + 1)) (L := (p_age k s na x).2) (cp_b (n := n) (b := 12) P)) (ct_l_45 _ (zv_u_s _ _ _ _)) (by have := p_age_l k s na x; omega) (by omega) x) (fun v s1 I1 J1 R1 q => ?_)
  obtain ⟨rfl, rfl, rfl, rfl, rfl⟩ := q
  show zv_V _ _ _ _ _ 213 [.ref (300 + 3 * l), .ref 45, .int (nI (3)), .int (nI (2)), .int (x), .int (nI (dp)), .int (nI (0)), .int (nI (k)), .int ((-1 : Int32)), .int (nI (dp + 1)), .int (nI (12))] [.int ((p_bear k s na nu cn x).1), .int ((p_age k s na x).1)] _ _ _ _ _
  refine zv_iadd dX7_perform_213 ?_
  refine zv_iret dX7_perform_214 rfl rfl ?_
  exact ⟨rfl, rfl, ct_l_app _ _ _ _, rfl, rfl⟩
theorem cP_give_2 (d : Nat) {E : zv_E} {sh : zv_S} {I : zv_I} {J : zv_J} {R : zv_R} {l k n dp : Nat} {s na nu cn : Int32} (w : cp_w sh R l) (hk : k < 6) (P : cp_l I R l k s na nu cn) (ht : I 45 1 = nI n) (hn : n + 13 ≤ 60) (hdp : dp + 5 ≤ 40) (x : Int32) : zv_V E mX7_perform (d + 5) 0 0 0 [.ref (300 + 3 * l), .ref 45, .int (nI 2), .int (nI 2), .int x, .int (nI dp)] [] sh I J R (cc_p (p_gf 2 k s na nu cn x).1 sh (ct_l I n (p_gf 2 k s na nu cn x).2) J R) := by
  refine zv_iload_n dX7_perform_0 rfl rfl ?_
  refine zv_iload_n dX7_perform_1 rfl rfl ?_
  refine cc_callS (As := [.int (nI (2)), .int (nI (2))]) (st := []) dX7_perform_2 csX7_317 rfl (by decide) (cc_c1 rfl (cc_c1 rfl cc_c0)) (Nat.le_of_ble_eq_true rfl) (cK_2_2 (d + 4)) (fun v s1 I1 J1 R1 q => ?_)
  obtain ⟨rfl, rfl, rfl, rfl, rfl⟩ := q
  show zv_V _ _ _ _ _ 5 [.ref (300 + 3 * l), .ref 45, .int (nI (2)), .int (nI (2)), .int (x), .int (nI (dp))] [.int (nI (2))] _ _ _ _ _
  refine zv_istore (lv' := [.ref (300 + 3 * l), .ref 45, .int (nI (2)), .int (nI (2)), .int (x), .int (nI (dp)), .int (nI (2))]) dX7_perform_5 (by decide) rfl ?_
  refine zv_iload dX7_perform_7 rfl ?_
  refine zv_iconst (v := (-1 : Int32)) dX7_perform_9 (by decide) ?_
  refine zv_icmp_eq (tgt := 20) dX7_perform_10 (by decide) (fun h10 => (absurd h10 (by decide))) (fun h10 => ?_)
  refine zv_iload dX7_perform_13 rfl ?_
  refine zv_bipush (v := nI (40)) dX7_perform_15 (by decide) ?_
  refine zv_icN_le (tgt := 22) dX7_perform_17 (by decide) (by omega) (by omega) (fun h17 => ?_) (fun h17 => (absurd h17 (by omega)))
  refine zv_aload_n dX7_perform_22 rfl rfl ?_
  refine zv_geti 2 1 (x := nI (k)) dX7_perform_23 flX7_102 (wWL_s w.2.1) rfl (P.1) ?_
  refine zv_istore (lv' := [.ref (300 + 3 * l), .ref 45, .int (nI (2)), .int (nI (2)), .int (x), .int (nI (dp)), .int (nI (2)), .int (nI (k))]) dX7_perform_26 (by decide) rfl ?_
  refine zv_gets (b := 2) dX7_perform_28 (Or.inr ⟨rfl, st_320⟩) ?_
  refine zv_iload dX7_perform_31 rfl ?_
  refine zv_kald (j := 2) (x := nI (1)) dX7_perform_33 (rfl) (by omega) (rfl) ?_
  refine zv_istore (lv' := [.ref (300 + 3 * l), .ref 45, .int (nI (2)), .int (nI (2)), .int (x), .int (nI (dp)), .int (nI (2)), .int (nI (k)), .int (nI (1))]) dX7_perform_34 (by decide) rfl ?_
  refine zv_iload dX7_perform_36 rfl ?_
  refine zv_iconst (v := nI (1)) dX7_perform_38 (by decide) ?_
  refine zv_iadd dX7_perform_39 ?_
  refine cc_top (nI_add (dp) (1)) ?_
  refine zv_istore (lv' := [.ref (300 + 3 * l), .ref 45, .int (nI (2)), .int (nI (2)), .int (x), .int (nI (dp)), .int (nI (2)), .int (nI (k)), .int (nI (1)), .int (nI (dp + 1))]) dX7_perform_40 (by decide) rfl ?_
  refine zv_gets (b := 1) dX7_perform_42 (Or.inl ⟨rfl, st_323⟩) ?_
  refine zv_iload dX7_perform_45 rfl ?_
  refine zv_iconst (v := nI (4)) dX7_perform_47 (by decide) ?_
  refine zv_imul dX7_perform_48 ?_
  refine cc_top (y := nI (8)) (by decide) ?_
  refine zv_iload_n dX7_perform_49 rfl rfl ?_
  refine zv_iadd dX7_perform_50 ?_
  refine cc_top (y := nI (10)) (by decide) ?_
  refine zv_bald (j := 10) (x := nI (31)) dX7_perform_51 (rfl) (by omega) (rfl) ?_
  refine zv_istore (lv' := [.ref (300 + 3 * l), .ref 45, .int (nI (2)), .int (nI (2)), .int (x), .int (nI (dp)), .int (nI (2)), .int (nI (k)), .int (nI (1)), .int (nI (dp + 1)), .int (nI (31))]) dX7_perform_52 (by decide) rfl ?_
  refine zv_aload_n dX7_perform_54 rfl rfl ?_
  refine zv_iload dX7_perform_55 rfl ?_
  refine cc_callV (As := [.int (nI (31))]) (st := []) (c := 5) dX7_perform_57 cvX7_326 (wW0_s45 w.1) rfl rfl rfl (by decide) (cc_c1 rfl cc_c0) (Nat.le_of_ble_eq_true rfl) (cC_begin (d + 4) w.1 (n := n) (b := 31) ht (by omega)) (fun v s1 I1 J1 R1 q => ?_)
  obtain ⟨rfl, rfl, rfl, rfl, rfl⟩ := q
  show zv_V _ _ _ _ _ 60 [.ref (300 + 3 * l), .ref 45, .int (nI (2)), .int (nI (2)), .int (x), .int (nI (dp)), .int (nI (2)), .int (nI (k)), .int (nI (1)), .int (nI (dp + 1)), .int (nI (31))] [] _ _ _ _ _
  refine zv_iload dX7_perform_60 rfl ?_
  refine zv_lookup (off := 226) (tgt := 288) dX7_perform_62 (by decide) (by decide) (by decide) ?_
  refine zv_aload_n dX7_perform_288 rfl rfl ?_
  refine zv_aload_n dX7_perform_289 rfl rfl ?_
  refine zv_iload dX7_perform_290 rfl ?_
  refine zv_iconst (v := nI (2)) dX7_perform_292 (by decide) ?_
  refine zv_iload dX7_perform_293 rfl ?_
  refine zv_iload dX7_perform_295 rfl ?_
  refine cc_callS (As := [.ref (300 + 3 * l), .ref 45, .int (nI (1)), .int (nI (2)), .int (x), .int (nI (dp + 1))]) (st := []) dX7_perform_297 csX7_187 rfl (by decide) (cc_c1 rfl (cc_c1 rfl (cc_c1 rfl (cc_c1 rfl (cc_c1 rfl (cc_c1 rfl cc_c0)))))) (Nat.le_of_ble_eq_true rfl) (cP_give_1 (d + 0) w hk (cp_b (n := n) (b := 31) P) (zv_u_s _ _ _ _) (by omega) (by omega) x) (fun v s1 I1 J1 R1 q => ?_)
  obtain ⟨rfl, rfl, rfl, rfl, rfl⟩ := q
  show zv_V _ _ _ _ _ 300 [.ref (300 + 3 * l), .ref 45, .int (nI (2)), .int (nI (2)), .int (x), .int (nI (dp)), .int (nI (2)), .int (nI (k)), .int (nI (1)), .int (nI (dp + 1)), .int (nI (31))] [.int ((p_gf 1 k s na nu cn x).1)] _ _ _ _ _
  refine zv_aload_n dX7_perform_300 rfl rfl ?_
  refine zv_geti 2 8 (x := nu) dX7_perform_301 flX7_117 (wWL_s w.2.1) rfl ((cp_t (n := (n + 1)) (L := (p_gf 1 k s na nu cn x).2) (cp_b (n := n) (b := 31) P)).2.2.2.1) ?_
  refine zv_bipush (v := nI (7)) dX7_perform_304 (by decide) ?_
  refine zv_imul dX7_perform_306 ?_
  refine zv_iadd dX7_perform_307 ?_
  refine zv_iret dX7_perform_308 rfl rfl ?_
  exact ⟨rfl, rfl, rfl, rfl, rfl⟩
theorem cP_give_4 (d : Nat) {E : zv_E} {sh : zv_S} {I : zv_I} {J : zv_J} {R : zv_R} {l k n dp : Nat} {s na nu cn : Int32} (w : cp_w sh R l) (hk : k < 6) (P : cp_l I R l k s na nu cn) (ht : I 45 1 = nI n) (hn : n + 13 ≤ 60) (hdp : dp + 5 ≤ 40) (x : Int32) : zv_V E mX7_perform (d + 5) 0 0 0 [.ref (300 + 3 * l), .ref 45, .int (nI 4), .int (nI 2), .int x, .int (nI dp)] [] sh I J R (cc_p (p_gf 4 k s na nu cn x).1 sh (ct_l I n (p_gf 4 k s na nu cn x).2) J R) := by
  refine zv_iload_n dX7_perform_0 rfl rfl ?_
  refine zv_iload_n dX7_perform_1 rfl rfl ?_
  refine cc_callS (As := [.int (nI (4)), .int (nI (2))]) (st := []) dX7_perform_2 csX7_317 rfl (by decide) (cc_c1 rfl (cc_c1 rfl cc_c0)) (Nat.le_of_ble_eq_true rfl) (cK_4_2 (d + 4)) (fun v s1 I1 J1 R1 q => ?_)
  obtain ⟨rfl, rfl, rfl, rfl, rfl⟩ := q
  show zv_V _ _ _ _ _ 5 [.ref (300 + 3 * l), .ref 45, .int (nI (4)), .int (nI (2)), .int (x), .int (nI (dp))] [.int (nI (4))] _ _ _ _ _
  refine zv_istore (lv' := [.ref (300 + 3 * l), .ref 45, .int (nI (4)), .int (nI (2)), .int (x), .int (nI (dp)), .int (nI (4))]) dX7_perform_5 (by decide) rfl ?_
  refine zv_iload dX7_perform_7 rfl ?_
  refine zv_iconst (v := (-1 : Int32)) dX7_perform_9 (by decide) ?_
  refine zv_icmp_eq (tgt := 20) dX7_perform_10 (by decide) (fun h10 => (absurd h10 (by decide))) (fun h10 => ?_)
  refine zv_iload dX7_perform_13 rfl ?_
  refine zv_bipush (v := nI (40)) dX7_perform_15 (by decide) ?_
  refine zv_icN_le (tgt := 22) dX7_perform_17 (by decide) (by omega) (by omega) (fun h17 => ?_) (fun h17 => (absurd h17 (by omega)))
  refine zv_aload_n dX7_perform_22 rfl rfl ?_
  refine zv_geti 2 1 (x := nI (k)) dX7_perform_23 flX7_102 (wWL_s w.2.1) rfl (P.1) ?_
  refine zv_istore (lv' := [.ref (300 + 3 * l), .ref 45, .int (nI (4)), .int (nI (2)), .int (x), .int (nI (dp)), .int (nI (4)), .int (nI (k))]) dX7_perform_26 (by decide) rfl ?_
  refine zv_gets (b := 2) dX7_perform_28 (Or.inr ⟨rfl, st_320⟩) ?_
  refine zv_iload dX7_perform_31 rfl ?_
  refine zv_kald (j := 4) (x := nI (3)) dX7_perform_33 (rfl) (by omega) (rfl) ?_
  refine zv_istore (lv' := [.ref (300 + 3 * l), .ref 45, .int (nI (4)), .int (nI (2)), .int (x), .int (nI (dp)), .int (nI (4)), .int (nI (k)), .int (nI (3))]) dX7_perform_34 (by decide) rfl ?_
  refine zv_iload dX7_perform_36 rfl ?_
  refine zv_iconst (v := nI (1)) dX7_perform_38 (by decide) ?_
  refine zv_iadd dX7_perform_39 ?_
  refine cc_top (nI_add (dp) (1)) ?_
  refine zv_istore (lv' := [.ref (300 + 3 * l), .ref 45, .int (nI (4)), .int (nI (2)), .int (x), .int (nI (dp)), .int (nI (4)), .int (nI (k)), .int (nI (3)), .int (nI (dp + 1))]) dX7_perform_40 (by decide) rfl ?_
  refine zv_gets (b := 1) dX7_perform_42 (Or.inl ⟨rfl, st_323⟩) ?_
  refine zv_iload dX7_perform_45 rfl ?_
  refine zv_iconst (v := nI (4)) dX7_perform_47 (by decide) ?_
  refine zv_imul dX7_perform_48 ?_
  refine cc_top (y := nI (16)) (by decide) ?_
  refine zv_iload_n dX7_perform_49 rfl rfl ?_
  refine zv_iadd dX7_perform_50 ?_
  refine cc_top (y := nI (18)) (by decide) ?_
  refine zv_bald (j := 18) (x := nI (50)) dX7_perform_51 (rfl) (by omega) (rfl) ?_
  refine zv_istore (lv' := [.ref (300 + 3 * l), .ref 45, .int (nI (4)), .int (nI (2)), .int (x), .int (nI (dp)), .int (nI (4)), .int (nI (k)), .int (nI (3)), .int (nI (dp + 1)), .int (nI (50))]) dX7_perform_52 (by decide) rfl ?_
  refine zv_aload_n dX7_perform_54 rfl rfl ?_
  refine zv_iload dX7_perform_55 rfl ?_
  refine cc_callV (As := [.int (nI (50))]) (st := []) (c := 5) dX7_perform_57 cvX7_326 (wW0_s45 w.1) rfl rfl rfl (by decide) (cc_c1 rfl cc_c0) (Nat.le_of_ble_eq_true rfl) (cC_begin (d + 4) w.1 (n := n) (b := 50) ht (by omega)) (fun v s1 I1 J1 R1 q => ?_)
  obtain ⟨rfl, rfl, rfl, rfl, rfl⟩ := q
  show zv_V _ _ _ _ _ 60 [.ref (300 + 3 * l), .ref 45, .int (nI (4)), .int (nI (2)), .int (x), .int (nI (dp)), .int (nI (4)), .int (nI (k)), .int (nI (3)), .int (nI (dp + 1)), .int (nI (50))] [] _ _ _ _ _
  refine zv_iload dX7_perform_60 rfl ?_
  refine zv_lookup (off := 267) (tgt := 329) dX7_perform_62 (by decide) (by decide) (by decide) ?_
  refine zv_aload_n dX7_perform_329 rfl rfl ?_
  refine zv_aload_n dX7_perform_330 rfl rfl ?_
  refine zv_iload dX7_perform_331 rfl ?_
  refine zv_iconst (v := nI (2)) dX7_perform_333 (by decide) ?_
  refine zv_iload dX7_perform_334 rfl ?_
  refine zv_iconst (v := nI (2)) dX7_perform_336 (by decide) ?_
  refine zv_imul dX7_perform_337 ?_
  refine zv_iload dX7_perform_338 rfl ?_
  refine cc_callS (As := [.ref (300 + 3 * l), .ref 45, .int (nI (3)), .int (nI (2)), .int (((x) * (nI (2)))), .int (nI (dp + 1))]) (st := []) dX7_perform_340 csX7_187 rfl (by decide) (cc_c1 rfl (cc_c1 rfl (cc_c1 rfl (cc_c1 rfl (cc_c1 rfl (cc_c1 rfl cc_c0)))))) (Nat.le_of_ble_eq_true rfl) (cP_give_3 (d + 0) w hk (cp_b (n := n) (b := 50) P) (zv_u_s _ _ _ _) (by omega) (by omega) (((x) * (nI (2))))) (fun v s1 I1 J1 R1 q => ?_)
  obtain ⟨rfl, rfl, rfl, rfl, rfl⟩ := q
  show zv_V _ _ _ _ _ 343 [.ref (300 + 3 * l), .ref 45, .int (nI (4)), .int (nI (2)), .int (x), .int (nI (dp)), .int (nI (4)), .int (nI (k)), .int (nI (3)), .int (nI (dp + 1)), .int (nI (50))] [.int ((p_gf 3 k s na nu cn (((x) * (nI (2))))).1)] _ _ _ _ _
  refine zv_iconst (v := nI (1)) dX7_perform_343 (by decide) ?_
  refine zv_iadd dX7_perform_344 ?_
  refine zv_iret dX7_perform_345 rfl rfl ?_
  exact ⟨rfl, rfl, rfl, rfl, rfl⟩
theorem cP_give_5 (d : Nat) {E : zv_E} {sh : zv_S} {I : zv_I} {J : zv_J} {R : zv_R} {l k n dp : Nat} {s na nu cn : Int32} (w : cp_w sh R l) (hk : k < 6) (P : cp_l I R l k s na nu cn) (ht : I 45 1 = nI n) (hn : n + 13 ≤ 60) (hdp : dp + 5 ≤ 40) (x : Int32) : zv_V E mX7_perform (d + 5) 0 0 0 [.ref (300 + 3 * l), .ref 45, .int (nI 5), .int (nI 2), .int x, .int (nI dp)] [] sh I J R (cc_p (p_gf 5 k s na nu cn x).1 sh (ct_l I n (p_gf 5 k s na nu cn x).2) J R) := by
  refine zv_iload_n dX7_perform_0 rfl rfl ?_
  refine zv_iload_n dX7_perform_1 rfl rfl ?_
  refine cc_callS (As := [.int (nI (5)), .int (nI (2))]) (st := []) dX7_perform_2 csX7_317 rfl (by decide) (cc_c1 rfl (cc_c1 rfl cc_c0)) (Nat.le_of_ble_eq_true rfl) (cK_5_2 (d + 4)) (fun v s1 I1 J1 R1 q => ?_)
  obtain ⟨rfl, rfl, rfl, rfl, rfl⟩ := q
  show zv_V _ _ _ _ _ 5 [.ref (300 + 3 * l), .ref 45, .int (nI (5)), .int (nI (2)), .int (x), .int (nI (dp))] [.int (nI (4))] _ _ _ _ _
  refine zv_istore (lv' := [.ref (300 + 3 * l), .ref 45, .int (nI (5)), .int (nI (2)), .int (x), .int (nI (dp)), .int (nI (4))]) dX7_perform_5 (by decide) rfl ?_
  refine zv_iload dX7_perform_7 rfl ?_
  refine zv_iconst (v := (-1 : Int32)) dX7_perform_9 (by decide) ?_
  refine zv_icmp_eq (tgt := 20) dX7_perform_10 (by decide) (fun h10 => (absurd h10 (by decide))) (fun h10 => ?_)
  refine zv_iload dX7_perform_13 rfl ?_
  refine zv_bipush (v := nI (40)) dX7_perform_15 (by decide) ?_
  refine zv_icN_le (tgt := 22) dX7_perform_17 (by decide) (by omega) (by omega) (fun h17 => ?_) (fun h17 => (absurd h17 (by omega)))
  refine zv_aload_n dX7_perform_22 rfl rfl ?_
  refine zv_geti 2 1 (x := nI (k)) dX7_perform_23 flX7_102 (wWL_s w.2.1) rfl (P.1) ?_
  refine zv_istore (lv' := [.ref (300 + 3 * l), .ref 45, .int (nI (5)), .int (nI (2)), .int (x), .int (nI (dp)), .int (nI (4)), .int (nI (k))]) dX7_perform_26 (by decide) rfl ?_
  refine zv_gets (b := 2) dX7_perform_28 (Or.inr ⟨rfl, st_320⟩) ?_
  refine zv_iload dX7_perform_31 rfl ?_
  refine zv_kald (j := 4) (x := nI (3)) dX7_perform_33 (rfl) (by omega) (rfl) ?_
  refine zv_istore (lv' := [.ref (300 + 3 * l), .ref 45, .int (nI (5)), .int (nI (2)), .int (x), .int (nI (dp)), .int (nI (4)), .int (nI (k)), .int (nI (3))]) dX7_perform_34 (by decide) rfl ?_
  refine zv_iload dX7_perform_36 rfl ?_
  refine zv_iconst (v := nI (1)) dX7_perform_38 (by decide) ?_
  refine zv_iadd dX7_perform_39 ?_
  refine cc_top (nI_add (dp) (1)) ?_
  refine zv_istore (lv' := [.ref (300 + 3 * l), .ref 45, .int (nI (5)), .int (nI (2)), .int (x), .int (nI (dp)), .int (nI (4)), .int (nI (k)), .int (nI (3)), .int (nI (dp + 1))]) dX7_perform_40 (by decide) rfl ?_
  refine zv_gets (b := 1) dX7_perform_42 (Or.inl ⟨rfl, st_323⟩) ?_
  refine zv_iload dX7_perform_45 rfl ?_
  refine zv_iconst (v := nI (4)) dX7_perform_47 (by decide) ?_
  refine zv_imul dX7_perform_48 ?_
  refine cc_top (y := nI (16)) (by decide) ?_
  refine zv_iload_n dX7_perform_49 rfl rfl ?_
  refine zv_iadd dX7_perform_50 ?_
  refine cc_top (y := nI (18)) (by decide) ?_
  refine zv_bald (j := 18) (x := nI (50)) dX7_perform_51 (rfl) (by omega) (rfl) ?_
  refine zv_istore (lv' := [.ref (300 + 3 * l), .ref 45, .int (nI (5)), .int (nI (2)), .int (x), .int (nI (dp)), .int (nI (4)), .int (nI (k)), .int (nI (3)), .int (nI (dp + 1)), .int (nI (50))]) dX7_perform_52 (by decide) rfl ?_
  refine zv_aload_n dX7_perform_54 rfl rfl ?_
  refine zv_iload dX7_perform_55 rfl ?_
  refine cc_callV (As := [.int (nI (50))]) (st := []) (c := 5) dX7_perform_57 cvX7_326 (wW0_s45 w.1) rfl rfl rfl (by decide) (cc_c1 rfl cc_c0) (Nat.le_of_ble_eq_true rfl) (cC_begin (d + 4) w.1 (n := n) (b := 50) ht (by omega)) (fun v s1 I1 J1 R1 q => ?_)
  obtain ⟨rfl, rfl, rfl, rfl, rfl⟩ := q
  show zv_V _ _ _ _ _ 60 [.ref (300 + 3 * l), .ref 45, .int (nI (5)), .int (nI (2)), .int (x), .int (nI (dp)), .int (nI (4)), .int (nI (k)), .int (nI (3)), .int (nI (dp + 1)), .int (nI (50))] [] _ _ _ _ _
  refine zv_iload dX7_perform_60 rfl ?_
  refine zv_lookup (off := 267) (tgt := 329) dX7_perform_62 (by decide) (by decide) (by decide) ?_
  refine zv_aload_n dX7_perform_329 rfl rfl ?_
  refine zv_aload_n dX7_perform_330 rfl rfl ?_
  refine zv_iload dX7_perform_331 rfl ?_
  refine zv_iconst (v := nI (2)) dX7_perform_333 (by decide) ?_
  refine zv_iload dX7_perform_334 rfl ?_
  refine zv_iconst (v := nI (2)) dX7_perform_336 (by decide) ?_
  refine zv_imul dX7_perform_337 ?_
  refine zv_iload dX7_perform_338 rfl ?_
  refine cc_callS (As := [.ref (300 + 3 * l), .ref 45, .int (nI (3)), .int (nI (2)), .int (((x) * (nI (2)))), .int (nI (dp + 1))]) (st := []) dX7_perform_340 csX7_187 rfl (by decide) (cc_c1 rfl (cc_c1 rfl (cc_c1 rfl (cc_c1 rfl (cc_c1 rfl (cc_c1 rfl cc_c0)))))) (Nat.le_of_ble_eq_true rfl) (cP_give_3 (d + 0) w hk (cp_b (n := n) (b := 50) P) (zv_u_s _ _ _ _) (by omega) (by omega) (((x) * (nI (2))))) (fun v s1 I1 J1 R1 q => ?_)
  obtain ⟨rfl, rfl, rfl, rfl, rfl⟩ := q
  show zv_V _ _ _ _ _ 343 [.ref (300 + 3 * l), .ref 45, .int (nI (5)), .int (nI (2)), .int (x), .int (nI (dp)), .int (nI (4)), .int (nI (k)), .int (nI (3)), .int (nI (dp + 1)), .int (nI (50))] [.int ((p_gf 3 k s na nu cn (((x) * (nI (2))))).1)] _ _ _ _ _
  refine zv_iconst (v := nI (1)) dX7_perform_343 (by decide) ?_
  refine zv_iadd dX7_perform_344 ?_
  refine zv_iret dX7_perform_345 rfl rfl ?_
  exact ⟨rfl, rfl, rfl, rfl, rfl⟩
theorem cP_give (d : Nat) {E : zv_E} {sh : zv_S} {I : zv_I} {J : zv_J} {R : zv_R} {l k n dp : Nat} {s na nu cn : Int32} {f : Nat} (hf : f < 6) (w : cp_w sh R l) (hk : k < 6) (P : cp_l I R l k s na nu cn) (ht : I 45 1 = nI n) (hn : n + 13 ≤ 60) (hdp : dp + 5 ≤ 40) (x : Int32) : zv_V E mX7_perform (d + 5) 0 0 0 [.ref (300 + 3 * l), .ref 45, .int (nI f), .int (nI 2), .int x, .int (nI dp)] [] sh I J R (cc_p (p_gf f k s na nu cn x).1 sh (ct_l I n (p_gf f k s na nu cn x).2) J R) := by
  rcases (show f = 0 ∨ f = 1 ∨ f = 2 ∨ f = 3 ∨ f = 4 ∨ f = 5 by omega) with rfl | rfl | rfl | rfl | rfl | rfl
  · exact cP_give_0 (d + 1) w hk P ht (by omega) (by omega) x
  · exact cP_give_1 (d + 1) w hk P ht (by omega) (by omega) x
  · exact cP_give_2 (d + 0) w hk P ht (by omega) (by omega) x
  · exact cP_give_3 (d + 1) w hk P ht (by omega) (by omega) x
  · exact cP_give_4 (d + 0) w hk P ht (by omega) (by omega) x
  · exact cP_give_5 (d + 0) w hk P ht (by omega) (by omega) x
theorem cP_wait_0 (d : Nat) {E : zv_E} {sh : zv_S} {I : zv_I} {J : zv_J} {R : zv_R} {l k n dp : Nat} {s na nu cn : Int32} (w : cp_w sh R l) (hk : k < 6) (P : cp_l I R l k s na nu cn) (ht : I 45 1 = nI n) (hn : n + 14 ≤ 60) (hdp : dp + 6 ≤ 40) (x : Int32) : zv_V E mX7_perform (d + 6) 0 0 0 [.ref (300 + 3 * l), .ref 45, .int (nI 0), .int (nI 3), .int x, .int (nI dp)] [] sh I J R (cc_p (p_wf 0 k s na nu cn x).1 sh (ct_l I n (p_wf 0 k s na nu cn x).2) J R) := by
  refine zv_iload_n dX7_perform_0 rfl rfl ?_
  refine zv_iload_n dX7_perform_1 rfl rfl ?_
  refine cc_callS (As := [.int (nI (0)), .int (nI (3))]) (st := []) dX7_perform_2 csX7_317 rfl (by decide) (cc_c1 rfl (cc_c1 rfl cc_c0)) (Nat.le_of_ble_eq_true rfl) (cK_0_3 (d + 5)) (fun v s1 I1 J1 R1 q => ?_)
  obtain ⟨rfl, rfl, rfl, rfl, rfl⟩ := q
  show zv_V _ _ _ _ _ 5 [.ref (300 + 3 * l), .ref 45, .int (nI (0)), .int (nI (3)), .int (x), .int (nI (dp))] [.int (nI (0))] _ _ _ _ _
  refine zv_istore (lv' := [.ref (300 + 3 * l), .ref 45, .int (nI (0)), .int (nI (3)), .int (x), .int (nI (dp)), .int (nI (0))]) dX7_perform_5 (by decide) rfl ?_
  refine zv_iload dX7_perform_7 rfl ?_
  refine zv_iconst (v := (-1 : Int32)) dX7_perform_9 (by decide) ?_
  refine zv_icmp_eq (tgt := 20) dX7_perform_10 (by decide) (fun h10 => (absurd h10 (by decide))) (fun h10 => ?_)
  refine zv_iload dX7_perform_13 rfl ?_
  refine zv_bipush (v := nI (40)) dX7_perform_15 (by decide) ?_
  refine zv_icN_le (tgt := 22) dX7_perform_17 (by decide) (by omega) (by omega) (fun h17 => ?_) (fun h17 => (absurd h17 (by omega)))
  refine zv_aload_n dX7_perform_22 rfl rfl ?_
  refine zv_geti 2 1 (x := nI (k)) dX7_perform_23 flX7_102 (wWL_s w.2.1) rfl (P.1) ?_
  refine zv_istore (lv' := [.ref (300 + 3 * l), .ref 45, .int (nI (0)), .int (nI (3)), .int (x), .int (nI (dp)), .int (nI (0)), .int (nI (k))]) dX7_perform_26 (by decide) rfl ?_
  refine zv_gets (b := 2) dX7_perform_28 (Or.inr ⟨rfl, st_320⟩) ?_
  refine zv_iload dX7_perform_31 rfl ?_
  refine zv_kald (j := 0) (x := (-1 : Int32)) dX7_perform_33 (rfl) (by omega) (rfl) ?_
  refine zv_istore (lv' := [.ref (300 + 3 * l), .ref 45, .int (nI (0)), .int (nI (3)), .int (x), .int (nI (dp)), .int (nI (0)), .int (nI (k)), .int ((-1 : Int32))]) dX7_perform_34 (by decide) rfl ?_
  refine zv_iload dX7_perform_36 rfl ?_
  refine zv_iconst (v := nI (1)) dX7_perform_38 (by decide) ?_
  refine zv_iadd dX7_perform_39 ?_
  refine cc_top (nI_add (dp) (1)) ?_
  refine zv_istore (lv' := [.ref (300 + 3 * l), .ref 45, .int (nI (0)), .int (nI (3)), .int (x), .int (nI (dp)), .int (nI (0)), .int (nI (k)), .int ((-1 : Int32)), .int (nI (dp + 1))]) dX7_perform_40 (by decide) rfl ?_
  refine zv_gets (b := 1) dX7_perform_42 (Or.inl ⟨rfl, st_323⟩) ?_
  refine zv_iload dX7_perform_45 rfl ?_
  refine zv_iconst (v := nI (4)) dX7_perform_47 (by decide) ?_
  refine zv_imul dX7_perform_48 ?_
  refine cc_top (y := nI (0)) (by decide) ?_
  refine zv_iload_n dX7_perform_49 rfl rfl ?_
  refine zv_iadd dX7_perform_50 ?_
  refine cc_top (y := nI (3)) (by decide) ?_
  refine zv_bald (j := 3) (x := nI (13)) dX7_perform_51 (rfl) (by omega) (rfl) ?_
  refine zv_istore (lv' := [.ref (300 + 3 * l), .ref 45, .int (nI (0)), .int (nI (3)), .int (x), .int (nI (dp)), .int (nI (0)), .int (nI (k)), .int ((-1 : Int32)), .int (nI (dp + 1)), .int (nI (13))]) dX7_perform_52 (by decide) rfl ?_
  refine zv_aload_n dX7_perform_54 rfl rfl ?_
  refine zv_iload dX7_perform_55 rfl ?_
  refine cc_callV (As := [.int (nI (13))]) (st := []) (c := 5) dX7_perform_57 cvX7_326 (wW0_s45 w.1) rfl rfl rfl (by decide) (cc_c1 rfl cc_c0) (Nat.le_of_ble_eq_true rfl) (cC_begin (d + 5) w.1 (n := n) (b := 13) ht (by omega)) (fun v s1 I1 J1 R1 q => ?_)
  obtain ⟨rfl, rfl, rfl, rfl, rfl⟩ := q
  show zv_V _ _ _ _ _ 60 [.ref (300 + 3 * l), .ref 45, .int (nI (0)), .int (nI (3)), .int (x), .int (nI (dp)), .int (nI (0)), .int (nI (k)), .int ((-1 : Int32)), .int (nI (dp + 1)), .int (nI (13))] [] _ _ _ _ _
  refine zv_iload dX7_perform_60 rfl ?_
  refine zv_lookup (off := 153) (tgt := 215) dX7_perform_62 (by decide) (by decide) (by decide) ?_
  refine zv_aload_n dX7_perform_215 rfl rfl ?_
  refine zv_aload_n dX7_perform_216 rfl rfl ?_
  refine zv_iload dX7_perform_217 rfl ?_
  refine zv_iconst (v := nI (2)) dX7_perform_219 (by decide) ?_
  refine zv_iload dX7_perform_220 rfl ?_
  refine zv_iconst (v := nI (1)) dX7_perform_222 (by decide) ?_
  refine zv_iadd dX7_perform_223 ?_
  refine zv_iload dX7_perform_224 rfl ?_
  refine cc_callS (As := [.ref (300 + 3 * l), .ref 45, .int (nI (k)), .int (nI (2)), .int (((x) + (nI (1)))), .int (nI (dp + 1))]) (st := []) dX7_perform_226 csX7_187 rfl (by decide) (cc_c1 rfl (cc_c1 rfl (cc_c1 rfl (cc_c1 rfl (cc_c1 rfl (cc_c1 rfl cc_c0)))))) (Nat.le_of_ble_eq_true rfl) (cP_give (d + 0) (f := k) hk w hk (cp_b (n := n) (b := 13) P) (zv_u_s _ _ _ _) (by omega) (by omega) (((x) + (nI (1))))) (fun v s1 I1 J1 R1 q => ?_)
  obtain ⟨rfl, rfl, rfl, rfl, rfl⟩ := q
  show zv_V _ _ _ _ _ 229 [.ref (300 + 3 * l), .ref 45, .int (nI (0)), .int (nI (3)), .int (x), .int (nI (dp)), .int (nI (0)), .int (nI (k)), .int ((-1 : Int32)), .int (nI (dp + 1)), .int (nI (13))] [.int ((p_gf k k s na nu cn (((x) + (nI (1))))).1)] _ _ _ _ _
  refine zv_iload dX7_perform_229 rfl ?_
  refine zv_isub dX7_perform_231 ?_
  refine zv_iret dX7_perform_232 rfl rfl ?_
  exact ⟨rfl, rfl, rfl, rfl, rfl⟩
theorem cP_wait_3 (d : Nat) {E : zv_E} {sh : zv_S} {I : zv_I} {J : zv_J} {R : zv_R} {l k n dp : Nat} {s na nu cn : Int32} (w : cp_w sh R l) (hk : k < 6) (P : cp_l I R l k s na nu cn) (ht : I 45 1 = nI n) (hn : n + 14 ≤ 60) (hdp : dp + 6 ≤ 40) (x : Int32) : zv_V E mX7_perform (d + 6) 0 0 0 [.ref (300 + 3 * l), .ref 45, .int (nI 3), .int (nI 3), .int x, .int (nI dp)] [] sh I J R (cc_p (p_wf 3 k s na nu cn x).1 sh (ct_l I n (p_wf 3 k s na nu cn x).2) J R) := by
  refine zv_iload_n dX7_perform_0 rfl rfl ?_
  refine zv_iload_n dX7_perform_1 rfl rfl ?_
  refine cc_callS (As := [.int (nI (3)), .int (nI (3))]) (st := []) dX7_perform_2 csX7_317 rfl (by decide) (cc_c1 rfl (cc_c1 rfl cc_c0)) (Nat.le_of_ble_eq_true rfl) (cK_3_3 (d + 5)) (fun v s1 I1 J1 R1 q => ?_)
  obtain ⟨rfl, rfl, rfl, rfl, rfl⟩ := q
  show zv_V _ _ _ _ _ 5 [.ref (300 + 3 * l), .ref 45, .int (nI (3)), .int (nI (3)), .int (x), .int (nI (dp))] [.int (nI (0))] _ _ _ _ _
  refine zv_istore (lv' := [.ref (300 + 3 * l), .ref 45, .int (nI (3)), .int (nI (3)), .int (x), .int (nI (dp)), .int (nI (0))]) dX7_perform_5 (by decide) rfl ?_
  refine zv_iload dX7_perform_7 rfl ?_
  refine zv_iconst (v := (-1 : Int32)) dX7_perform_9 (by decide) ?_
  refine zv_icmp_eq (tgt := 20) dX7_perform_10 (by decide) (fun h10 => (absurd h10 (by decide))) (fun h10 => ?_)
  refine zv_iload dX7_perform_13 rfl ?_
  refine zv_bipush (v := nI (40)) dX7_perform_15 (by decide) ?_
  refine zv_icN_le (tgt := 22) dX7_perform_17 (by decide) (by omega) (by omega) (fun h17 => ?_) (fun h17 => (absurd h17 (by omega)))
  refine zv_aload_n dX7_perform_22 rfl rfl ?_
  refine zv_geti 2 1 (x := nI (k)) dX7_perform_23 flX7_102 (wWL_s w.2.1) rfl (P.1) ?_
  refine zv_istore (lv' := [.ref (300 + 3 * l), .ref 45, .int (nI (3)), .int (nI (3)), .int (x), .int (nI (dp)), .int (nI (0)), .int (nI (k))]) dX7_perform_26 (by decide) rfl ?_
  refine zv_gets (b := 2) dX7_perform_28 (Or.inr ⟨rfl, st_320⟩) ?_
  refine zv_iload dX7_perform_31 rfl ?_
  refine zv_kald (j := 0) (x := (-1 : Int32)) dX7_perform_33 (rfl) (by omega) (rfl) ?_
  refine zv_istore (lv' := [.ref (300 + 3 * l), .ref 45, .int (nI (3)), .int (nI (3)), .int (x), .int (nI (dp)), .int (nI (0)), .int (nI (k)), .int ((-1 : Int32))]) dX7_perform_34 (by decide) rfl ?_
  refine zv_iload dX7_perform_36 rfl ?_
  refine zv_iconst (v := nI (1)) dX7_perform_38 (by decide) ?_
  refine zv_iadd dX7_perform_39 ?_
  refine cc_top (nI_add (dp) (1)) ?_
  refine zv_istore (lv' := [.ref (300 + 3 * l), .ref 45, .int (nI (3)), .int (nI (3)), .int (x), .int (nI (dp)), .int (nI (0)), .int (nI (k)), .int ((-1 : Int32)), .int (nI (dp + 1))]) dX7_perform_40 (by decide) rfl ?_
  refine zv_gets (b := 1) dX7_perform_42 (Or.inl ⟨rfl, st_323⟩) ?_
  refine zv_iload dX7_perform_45 rfl ?_
  refine zv_iconst (v := nI (4)) dX7_perform_47 (by decide) ?_
  refine zv_imul dX7_perform_48 ?_
  refine cc_top (y := nI (0)) (by decide) ?_
  refine zv_iload_n dX7_perform_49 rfl rfl ?_
  refine zv_iadd dX7_perform_50 ?_
  refine cc_top (y := nI (3)) (by decide) ?_
  refine zv_bald (j := 3) (x := nI (13)) dX7_perform_51 (rfl) (by omega) (rfl) ?_
  refine zv_istore (lv' := [.ref (300 + 3 * l), .ref 45, .int (nI (3)), .int (nI (3)), .int (x), .int (nI (dp)), .int (nI (0)), .int (nI (k)), .int ((-1 : Int32)), .int (nI (dp + 1)), .int (nI (13))]) dX7_perform_52 (by decide) rfl ?_
  refine zv_aload_n dX7_perform_54 rfl rfl ?_
  refine zv_iload dX7_perform_55 rfl ?_
  refine cc_callV (As := [.int (nI (13))]) (st := []) (c := 5) dX7_perform_57 cvX7_326 (wW0_s45 w.1) rfl rfl rfl (by decide) (cc_c1 rfl cc_c0) (Nat.le_of_ble_eq_true rfl) (cC_begin (d + 5) w.1 (n := n) (b := 13) ht (by omega)) (fun v s1 I1 J1 R1 q => ?_)
  obtain ⟨rfl, rfl, rfl, rfl, rfl⟩ := q
  show zv_V _ _ _ _ _ 60 [.ref (300 + 3 * l), .ref 45, .int (nI (3)), .int (nI (3)), .int (x), .int (nI (dp)), .int (nI (0)), .int (nI (k)), .int ((-1 : Int32)), .int (nI (dp + 1)), .int (nI (13))] [] _ _ _ _ _
  refine zv_iload dX7_perform_60 rfl ?_
  refine zv_lookup (off := 153) (tgt := 215) dX7_perform_62 (by decide) (by decide) (by decide) ?_
  refine zv_aload_n dX7_perform_215 rfl rfl ?_
  refine zv_aload_n dX7_perform_216 rfl rfl ?_
  refine zv_iload dX7_perform_217 rfl ?_
  refine zv_iconst (v := nI (2)) dX7_perform_219 (by decide) ?_
  refine zv_iload dX7_perform_220 rfl ?_
  refine zv_iconst (v := nI (1)) dX7_perform_222 (by decide) ?_
  refine zv_iadd dX7_perform_223 ?_
  refine zv_iload dX7_perform_224 rfl ?_
  refine cc_callS (As := [.ref (300 + 3 * l), .ref 45, .int (nI (k)), .int (nI (2)), .int (((x) + (nI (1)))), .int (nI (dp + 1))]) (st := []) dX7_perform_226 csX7_187 rfl (by decide) (cc_c1 rfl (cc_c1 rfl (cc_c1 rfl (cc_c1 rfl (cc_c1 rfl (cc_c1 rfl cc_c0)))))) (Nat.le_of_ble_eq_true rfl) (cP_give (d + 0) (f := k) hk w hk (cp_b (n := n) (b := 13) P) (zv_u_s _ _ _ _) (by omega) (by omega) (((x) + (nI (1))))) (fun v s1 I1 J1 R1 q => ?_)
  obtain ⟨rfl, rfl, rfl, rfl, rfl⟩ := q
  show zv_V _ _ _ _ _ 229 [.ref (300 + 3 * l), .ref 45, .int (nI (3)), .int (nI (3)), .int (x), .int (nI (dp)), .int (nI (0)), .int (nI (k)), .int ((-1 : Int32)), .int (nI (dp + 1)), .int (nI (13))] [.int ((p_gf k k s na nu cn (((x) + (nI (1))))).1)] _ _ _ _ _
  refine zv_iload dX7_perform_229 rfl ?_
  refine zv_isub dX7_perform_231 ?_
  refine zv_iret dX7_perform_232 rfl rfl ?_
  exact ⟨rfl, rfl, rfl, rfl, rfl⟩
theorem cP_wait_4 (d : Nat) {E : zv_E} {sh : zv_S} {I : zv_I} {J : zv_J} {R : zv_R} {l k n dp : Nat} {s na nu cn : Int32} (w : cp_w sh R l) (hk : k < 6) (P : cp_l I R l k s na nu cn) (ht : I 45 1 = nI n) (hn : n + 14 ≤ 60) (hdp : dp + 6 ≤ 40) (x : Int32) : zv_V E mX7_perform (d + 6) 0 0 0 [.ref (300 + 3 * l), .ref 45, .int (nI 4), .int (nI 3), .int x, .int (nI dp)] [] sh I J R (cc_p (p_wf 4 k s na nu cn x).1 sh (ct_l I n (p_wf 4 k s na nu cn x).2) J R) := by
  refine zv_iload_n dX7_perform_0 rfl rfl ?_
  refine zv_iload_n dX7_perform_1 rfl rfl ?_
  refine cc_callS (As := [.int (nI (4)), .int (nI (3))]) (st := []) dX7_perform_2 csX7_317 rfl (by decide) (cc_c1 rfl (cc_c1 rfl cc_c0)) (Nat.le_of_ble_eq_true rfl) (cK_4_3 (d + 5)) (fun v s1 I1 J1 R1 q => ?_)
  obtain ⟨rfl, rfl, rfl, rfl, rfl⟩ := q
  show zv_V _ _ _ _ _ 5 [.ref (300 + 3 * l), .ref 45, .int (nI (4)), .int (nI (3)), .int (x), .int (nI (dp))] [.int (nI (0))] _ _ _ _ _
  refine zv_istore (lv' := [.ref (300 + 3 * l), .ref 45, .int (nI (4)), .int (nI (3)), .int (x), .int (nI (dp)), .int (nI (0))]) dX7_perform_5 (by decide) rfl ?_
  refine zv_iload dX7_perform_7 rfl ?_
  refine zv_iconst (v := (-1 : Int32)) dX7_perform_9 (by decide) ?_
  refine zv_icmp_eq (tgt := 20) dX7_perform_10 (by decide) (fun h10 => (absurd h10 (by decide))) (fun h10 => ?_)
  refine zv_iload dX7_perform_13 rfl ?_
  refine zv_bipush (v := nI (40)) dX7_perform_15 (by decide) ?_
  refine zv_icN_le (tgt := 22) dX7_perform_17 (by decide) (by omega) (by omega) (fun h17 => ?_) (fun h17 => (absurd h17 (by omega)))
  refine zv_aload_n dX7_perform_22 rfl rfl ?_
  refine zv_geti 2 1 (x := nI (k)) dX7_perform_23 flX7_102 (wWL_s w.2.1) rfl (P.1) ?_
  refine zv_istore (lv' := [.ref (300 + 3 * l), .ref 45, .int (nI (4)), .int (nI (3)), .int (x), .int (nI (dp)), .int (nI (0)), .int (nI (k))]) dX7_perform_26 (by decide) rfl ?_
  refine zv_gets (b := 2) dX7_perform_28 (Or.inr ⟨rfl, st_320⟩) ?_
  refine zv_iload dX7_perform_31 rfl ?_
  refine zv_kald (j := 0) (x := (-1 : Int32)) dX7_perform_33 (rfl) (by omega) (rfl) ?_
  refine zv_istore (lv' := [.ref (300 + 3 * l), .ref 45, .int (nI (4)), .int (nI (3)), .int (x), .int (nI (dp)), .int (nI (0)), .int (nI (k)), .int ((-1 : Int32))]) dX7_perform_34 (by decide) rfl ?_
  refine zv_iload dX7_perform_36 rfl ?_
  refine zv_iconst (v := nI (1)) dX7_perform_38 (by decide) ?_
  refine zv_iadd dX7_perform_39 ?_
  refine cc_top (nI_add (dp) (1)) ?_
  refine zv_istore (lv' := [.ref (300 + 3 * l), .ref 45, .int (nI (4)), .int (nI (3)), .int (x), .int (nI (dp)), .int (nI (0)), .int (nI (k)), .int ((-1 : Int32)), .int (nI (dp + 1))]) dX7_perform_40 (by decide) rfl ?_
  refine zv_gets (b := 1) dX7_perform_42 (Or.inl ⟨rfl, st_323⟩) ?_
  refine zv_iload dX7_perform_45 rfl ?_
  refine zv_iconst (v := nI (4)) dX7_perform_47 (by decide) ?_
  refine zv_imul dX7_perform_48 ?_
  refine cc_top (y := nI (0)) (by decide) ?_
  refine zv_iload_n dX7_perform_49 rfl rfl ?_
  refine zv_iadd dX7_perform_50 ?_
  refine cc_top (y := nI (3)) (by decide) ?_
  refine zv_bald (j := 3) (x := nI (13)) dX7_perform_51 (rfl) (by omega) (rfl) ?_
  refine zv_istore (lv' := [.ref (300 + 3 * l), .ref 45, .int (nI (4)), .int (nI (3)), .int (x), .int (nI (dp)), .int (nI (0)), .int (nI (k)), .int ((-1 : Int32)), .int (nI (dp + 1)), .int (nI (13))]) dX7_perform_52 (by decide) rfl ?_
  refine zv_aload_n dX7_perform_54 rfl rfl ?_
  refine zv_iload dX7_perform_55 rfl ?_
  refine cc_callV (As := [.int (nI (13))]) (st := []) (c := 5) dX7_perform_57 cvX7_326 (wW0_s45 w.1) rfl rfl rfl (by decide) (cc_c1 rfl cc_c0) (Nat.le_of_ble_eq_true rfl) (cC_begin (d + 5) w.1 (n := n) (b := 13) ht (by omega)) (fun v s1 I1 J1 R1 q => ?_)
  obtain ⟨rfl, rfl, rfl, rfl, rfl⟩ := q
  show zv_V _ _ _ _ _ 60 [.ref (300 + 3 * l), .ref 45, .int (nI (4)), .int (nI (3)), .int (x), .int (nI (dp)), .int (nI (0)), .int (nI (k)), .int ((-1 : Int32)), .int (nI (dp + 1)), .int (nI (13))] [] _ _ _ _ _
  refine zv_iload dX7_perform_60 rfl ?_
  refine zv_lookup (off := 153) (tgt := 215) dX7_perform_62 (by decide) (by decide) (by decide) ?_
  refine zv_aload_n dX7_perform_215 rfl rfl ?_
  refine zv_aload_n dX7_perform_216 rfl rfl ?_
  refine zv_iload dX7_perform_217 rfl ?_
  refine zv_iconst (v := nI (2)) dX7_perform_219 (by decide) ?_
  refine zv_iload dX7_perform_220 rfl ?_
  refine zv_iconst (v := nI (1)) dX7_perform_222 (by decide) ?_
  refine zv_iadd dX7_perform_223 ?_
  refine zv_iload dX7_perform_224 rfl ?_
  refine cc_callS (As := [.ref (300 + 3 * l), .ref 45, .int (nI (k)), .int (nI (2)), .int (((x) + (nI (1)))), .int (nI (dp + 1))]) (st := []) dX7_perform_226 csX7_187 rfl (by decide) (cc_c1 rfl (cc_c1 rfl (cc_c1 rfl (cc_c1 rfl (cc_c1 rfl (cc_c1 rfl cc_c0)))))) (Nat.le_of_ble_eq_true rfl) (cP_give (d + 0) (f := k) hk w hk (cp_b (n := n) (b := 13) P) (zv_u_s _ _ _ _) (by omega) (by omega) (((x) + (nI (1))))) (fun v s1 I1 J1 R1 q => ?_)
  obtain ⟨rfl, rfl, rfl, rfl, rfl⟩ := q
  show zv_V _ _ _ _ _ 229 [.ref (300 + 3 * l), .ref 45, .int (nI (4)), .int (nI (3)), .int (x), .int (nI (dp)), .int (nI (0)), .int (nI (k)), .int ((-1 : Int32)), .int (nI (dp + 1)), .int (nI (13))] [.int ((p_gf k k s na nu cn (((x) + (nI (1))))).1)] _ _ _ _ _
  refine zv_iload dX7_perform_229 rfl ?_
  refine zv_isub dX7_perform_231 ?_
  refine zv_iret dX7_perform_232 rfl rfl ?_
  exact ⟨rfl, rfl, rfl, rfl, rfl⟩
theorem cP_wait_1 (d : Nat) {E : zv_E} {sh : zv_S} {I : zv_I} {J : zv_J} {R : zv_R} {l k n dp : Nat} {s na nu cn : Int32} (w : cp_w sh R l) (hk : k < 6) (P : cp_l I R l k s na nu cn) (ht : I 45 1 = nI n) (hn : n + 15 ≤ 60) (hdp : dp + 7 ≤ 40) (x : Int32) : zv_V E mX7_perform (d + 7) 0 0 0 [.ref (300 + 3 * l), .ref 45, .int (nI 1), .int (nI 3), .int x, .int (nI dp)] [] sh I J R (cc_p (p_wf 1 k s na nu cn x).1 sh (ct_l I n (p_wf 1 k s na nu cn x).2) J R) := by
  refine zv_iload_n dX7_perform_0 rfl rfl ?_
  refine zv_iload_n dX7_perform_1 rfl rfl ?_
  refine cc_callS (As := [.int (nI (1)), .int (nI (3))]) (st := []) dX7_perform_2 csX7_317 rfl (by decide) (cc_c1 rfl (cc_c1 rfl cc_c0)) (Nat.le_of_ble_eq_true rfl) (cK_1_3 (d + 6)) (fun v s1 I1 J1 R1 q => ?_)
  obtain ⟨rfl, rfl, rfl, rfl, rfl⟩ := q
  show zv_V _ _ _ _ _ 5 [.ref (300 + 3 * l), .ref 45, .int (nI (1)), .int (nI (3)), .int (x), .int (nI (dp))] [.int (nI (1))] _ _ _ _ _
  refine zv_istore (lv' := [.ref (300 + 3 * l), .ref 45, .int (nI (1)), .int (nI (3)), .int (x), .int (nI (dp)), .int (nI (1))]) dX7_perform_5 (by decide) rfl ?_
  refine zv_iload dX7_perform_7 rfl ?_
  refine zv_iconst (v := (-1 : Int32)) dX7_perform_9 (by decide) ?_
  refine zv_icmp_eq (tgt := 20) dX7_perform_10 (by decide) (fun h10 => (absurd h10 (by decide))) (fun h10 => ?_)
  refine zv_iload dX7_perform_13 rfl ?_
  refine zv_bipush (v := nI (40)) dX7_perform_15 (by decide) ?_
  refine zv_icN_le (tgt := 22) dX7_perform_17 (by decide) (by omega) (by omega) (fun h17 => ?_) (fun h17 => (absurd h17 (by omega)))
  refine zv_aload_n dX7_perform_22 rfl rfl ?_
  refine zv_geti 2 1 (x := nI (k)) dX7_perform_23 flX7_102 (wWL_s w.2.1) rfl (P.1) ?_
  refine zv_istore (lv' := [.ref (300 + 3 * l), .ref 45, .int (nI (1)), .int (nI (3)), .int (x), .int (nI (dp)), .int (nI (1)), .int (nI (k))]) dX7_perform_26 (by decide) rfl ?_
  refine zv_gets (b := 2) dX7_perform_28 (Or.inr ⟨rfl, st_320⟩) ?_
  refine zv_iload dX7_perform_31 rfl ?_
  refine zv_kald (j := 1) (x := nI (0)) dX7_perform_33 (rfl) (by omega) (rfl) ?_
  refine zv_istore (lv' := [.ref (300 + 3 * l), .ref 45, .int (nI (1)), .int (nI (3)), .int (x), .int (nI (dp)), .int (nI (1)), .int (nI (k)), .int (nI (0))]) dX7_perform_34 (by decide) rfl ?_
  refine zv_iload dX7_perform_36 rfl ?_
  refine zv_iconst (v := nI (1)) dX7_perform_38 (by decide) ?_
  refine zv_iadd dX7_perform_39 ?_
  refine cc_top (nI_add (dp) (1)) ?_
  refine zv_istore (lv' := [.ref (300 + 3 * l), .ref 45, .int (nI (1)), .int (nI (3)), .int (x), .int (nI (dp)), .int (nI (1)), .int (nI (k)), .int (nI (0)), .int (nI (dp + 1))]) dX7_perform_40 (by decide) rfl ?_
  refine zv_gets (b := 1) dX7_perform_42 (Or.inl ⟨rfl, st_323⟩) ?_
  refine zv_iload dX7_perform_45 rfl ?_
  refine zv_iconst (v := nI (4)) dX7_perform_47 (by decide) ?_
  refine zv_imul dX7_perform_48 ?_
  refine cc_top (y := nI (4)) (by decide) ?_
  refine zv_iload_n dX7_perform_49 rfl rfl ?_
  refine zv_iadd dX7_perform_50 ?_
  refine cc_top (y := nI (7)) (by decide) ?_
  refine zv_bald (j := 7) (x := nI (21)) dX7_perform_51 (rfl) (by omega) (rfl) ?_
  refine zv_istore (lv' := [.ref (300 + 3 * l), .ref 45, .int (nI (1)), .int (nI (3)), .int (x), .int (nI (dp)), .int (nI (1)), .int (nI (k)), .int (nI (0)), .int (nI (dp + 1)), .int (nI (21))]) dX7_perform_52 (by decide) rfl ?_
  refine zv_aload_n dX7_perform_54 rfl rfl ?_
  refine zv_iload dX7_perform_55 rfl ?_
  refine cc_callV (As := [.int (nI (21))]) (st := []) (c := 5) dX7_perform_57 cvX7_326 (wW0_s45 w.1) rfl rfl rfl (by decide) (cc_c1 rfl cc_c0) (Nat.le_of_ble_eq_true rfl) (cC_begin (d + 6) w.1 (n := n) (b := 21) ht (by omega)) (fun v s1 I1 J1 R1 q => ?_)
  obtain ⟨rfl, rfl, rfl, rfl, rfl⟩ := q
  show zv_V _ _ _ _ _ 60 [.ref (300 + 3 * l), .ref 45, .int (nI (1)), .int (nI (3)), .int (x), .int (nI (dp)), .int (nI (1)), .int (nI (k)), .int (nI (0)), .int (nI (dp + 1)), .int (nI (21))] [] _ _ _ _ _
  refine zv_iload dX7_perform_60 rfl ?_
  refine zv_lookup (off := 191) (tgt := 253) dX7_perform_62 (by decide) (by decide) (by decide) ?_
  refine zv_aload_n dX7_perform_253 rfl rfl ?_
  refine zv_aload_n dX7_perform_254 rfl rfl ?_
  refine zv_iload dX7_perform_255 rfl ?_
  refine zv_iconst (v := nI (3)) dX7_perform_257 (by decide) ?_
  refine zv_iload dX7_perform_258 rfl ?_
  refine zv_iload dX7_perform_260 rfl ?_
  refine cc_callS (As := [.ref (300 + 3 * l), .ref 45, .int (nI (0)), .int (nI (3)), .int (x), .int (nI (dp + 1))]) (st := []) dX7_perform_262 csX7_187 rfl (by decide) (cc_c1 rfl (cc_c1 rfl (cc_c1 rfl (cc_c1 rfl (cc_c1 rfl (cc_c1 rfl cc_c0)))))) (Nat.le_of_ble_eq_true rfl) (cP_wait_0 (d + 0) w hk (cp_b (n := n) (b := 21) P) (zv_u_s _ _ _ _) (by omega) (by omega) x) (fun v s1 I1 J1 R1 q => ?_)
  obtain ⟨rfl, rfl, rfl, rfl, rfl⟩ := q
  show zv_V _ _ _ _ _ 265 [.ref (300 + 3 * l), .ref 45, .int (nI (1)), .int (nI (3)), .int (x), .int (nI (dp)), .int (nI (1)), .int (nI (k)), .int (nI (0)), .int (nI (dp + 1)), .int (nI (21))] [.int ((p_wf 0 k s na nu cn x).1)] _ _ _ _ _
  refine zv_iconst (v := nI (5)) dX7_perform_265 (by decide) ?_
  refine zv_ixor dX7_perform_266 ?_
  refine zv_iret dX7_perform_267 rfl rfl ?_
  exact ⟨rfl, rfl, rfl, rfl, rfl⟩
theorem cP_wait_2 (d : Nat) {E : zv_E} {sh : zv_S} {I : zv_I} {J : zv_J} {R : zv_R} {l k n dp : Nat} {s na nu cn : Int32} (w : cp_w sh R l) (hk : k < 6) (P : cp_l I R l k s na nu cn) (ht : I 45 1 = nI n) (hn : n + 15 ≤ 60) (hdp : dp + 7 ≤ 40) (x : Int32) : zv_V E mX7_perform (d + 7) 0 0 0 [.ref (300 + 3 * l), .ref 45, .int (nI 2), .int (nI 3), .int x, .int (nI dp)] [] sh I J R (cc_p (p_wf 2 k s na nu cn x).1 sh (ct_l I n (p_wf 2 k s na nu cn x).2) J R) := by
  refine zv_iload_n dX7_perform_0 rfl rfl ?_
  refine zv_iload_n dX7_perform_1 rfl rfl ?_
  refine cc_callS (As := [.int (nI (2)), .int (nI (3))]) (st := []) dX7_perform_2 csX7_317 rfl (by decide) (cc_c1 rfl (cc_c1 rfl cc_c0)) (Nat.le_of_ble_eq_true rfl) (cK_2_3 (d + 6)) (fun v s1 I1 J1 R1 q => ?_)
  obtain ⟨rfl, rfl, rfl, rfl, rfl⟩ := q
  show zv_V _ _ _ _ _ 5 [.ref (300 + 3 * l), .ref 45, .int (nI (2)), .int (nI (3)), .int (x), .int (nI (dp))] [.int (nI (1))] _ _ _ _ _
  refine zv_istore (lv' := [.ref (300 + 3 * l), .ref 45, .int (nI (2)), .int (nI (3)), .int (x), .int (nI (dp)), .int (nI (1))]) dX7_perform_5 (by decide) rfl ?_
  refine zv_iload dX7_perform_7 rfl ?_
  refine zv_iconst (v := (-1 : Int32)) dX7_perform_9 (by decide) ?_
  refine zv_icmp_eq (tgt := 20) dX7_perform_10 (by decide) (fun h10 => (absurd h10 (by decide))) (fun h10 => ?_)
  refine zv_iload dX7_perform_13 rfl ?_
  refine zv_bipush (v := nI (40)) dX7_perform_15 (by decide) ?_
  refine zv_icN_le (tgt := 22) dX7_perform_17 (by decide) (by omega) (by omega) (fun h17 => ?_) (fun h17 => (absurd h17 (by omega)))
  refine zv_aload_n dX7_perform_22 rfl rfl ?_
  refine zv_geti 2 1 (x := nI (k)) dX7_perform_23 flX7_102 (wWL_s w.2.1) rfl (P.1) ?_
  refine zv_istore (lv' := [.ref (300 + 3 * l), .ref 45, .int (nI (2)), .int (nI (3)), .int (x), .int (nI (dp)), .int (nI (1)), .int (nI (k))]) dX7_perform_26 (by decide) rfl ?_
  refine zv_gets (b := 2) dX7_perform_28 (Or.inr ⟨rfl, st_320⟩) ?_
  refine zv_iload dX7_perform_31 rfl ?_
  refine zv_kald (j := 1) (x := nI (0)) dX7_perform_33 (rfl) (by omega) (rfl) ?_
  refine zv_istore (lv' := [.ref (300 + 3 * l), .ref 45, .int (nI (2)), .int (nI (3)), .int (x), .int (nI (dp)), .int (nI (1)), .int (nI (k)), .int (nI (0))]) dX7_perform_34 (by decide) rfl ?_
  refine zv_iload dX7_perform_36 rfl ?_
  refine zv_iconst (v := nI (1)) dX7_perform_38 (by decide) ?_
  refine zv_iadd dX7_perform_39 ?_
  refine cc_top (nI_add (dp) (1)) ?_
  refine zv_istore (lv' := [.ref (300 + 3 * l), .ref 45, .int (nI (2)), .int (nI (3)), .int (x), .int (nI (dp)), .int (nI (1)), .int (nI (k)), .int (nI (0)), .int (nI (dp + 1))]) dX7_perform_40 (by decide) rfl ?_
  refine zv_gets (b := 1) dX7_perform_42 (Or.inl ⟨rfl, st_323⟩) ?_
  refine zv_iload dX7_perform_45 rfl ?_
  refine zv_iconst (v := nI (4)) dX7_perform_47 (by decide) ?_
  refine zv_imul dX7_perform_48 ?_
  refine cc_top (y := nI (4)) (by decide) ?_
  refine zv_iload_n dX7_perform_49 rfl rfl ?_
  refine zv_iadd dX7_perform_50 ?_
  refine cc_top (y := nI (7)) (by decide) ?_
  refine zv_bald (j := 7) (x := nI (21)) dX7_perform_51 (rfl) (by omega) (rfl) ?_
  refine zv_istore (lv' := [.ref (300 + 3 * l), .ref 45, .int (nI (2)), .int (nI (3)), .int (x), .int (nI (dp)), .int (nI (1)), .int (nI (k)), .int (nI (0)), .int (nI (dp + 1)), .int (nI (21))]) dX7_perform_52 (by decide) rfl ?_
  refine zv_aload_n dX7_perform_54 rfl rfl ?_
  refine zv_iload dX7_perform_55 rfl ?_
  refine cc_callV (As := [.int (nI (21))]) (st := []) (c := 5) dX7_perform_57 cvX7_326 (wW0_s45 w.1) rfl rfl rfl (by decide) (cc_c1 rfl cc_c0) (Nat.le_of_ble_eq_true rfl) (cC_begin (d + 6) w.1 (n := n) (b := 21) ht (by omega)) (fun v s1 I1 J1 R1 q => ?_)
  obtain ⟨rfl, rfl, rfl, rfl, rfl⟩ := q
  show zv_V _ _ _ _ _ 60 [.ref (300 + 3 * l), .ref 45, .int (nI (2)), .int (nI (3)), .int (x), .int (nI (dp)), .int (nI (1)), .int (nI (k)), .int (nI (0)), .int (nI (dp + 1)), .int (nI (21))] [] _ _ _ _ _
  refine zv_iload dX7_perform_60 rfl ?_
  refine zv_lookup (off := 191) (tgt := 253) dX7_perform_62 (by decide) (by decide) (by decide) ?_
  refine zv_aload_n dX7_perform_253 rfl rfl ?_
  refine zv_aload_n dX7_perform_254 rfl rfl ?_
  refine zv_iload dX7_perform_255 rfl ?_
  refine zv_iconst (v := nI (3)) dX7_perform_257 (by decide) ?_
  refine zv_iload dX7_perform_258 rfl ?_
  refine zv_iload dX7_perform_260 rfl ?_
  refine cc_callS (As := [.ref (300 + 3 * l), .ref 45, .int (nI (0)), .int (nI (3)), .int (x), .int (nI (dp + 1))]) (st := []) dX7_perform_262 csX7_187 rfl (by decide) (cc_c1 rfl (cc_c1 rfl (cc_c1 rfl (cc_c1 rfl (cc_c1 rfl (cc_c1 rfl cc_c0)))))) (Nat.le_of_ble_eq_true rfl) (cP_wait_0 (d + 0) w hk (cp_b (n := n) (b := 21) P) (zv_u_s _ _ _ _) (by omega) (by omega) x) (fun v s1 I1 J1 R1 q => ?_)
  obtain ⟨rfl, rfl, rfl, rfl, rfl⟩ := q
  show zv_V _ _ _ _ _ 265 [.ref (300 + 3 * l), .ref 45, .int (nI (2)), .int (nI (3)), .int (x), .int (nI (dp)), .int (nI (1)), .int (nI (k)), .int (nI (0)), .int (nI (dp + 1)), .int (nI (21))] [.int ((p_wf 0 k s na nu cn x).1)] _ _ _ _ _
  refine zv_iconst (v := nI (5)) dX7_perform_265 (by decide) ?_
  refine zv_ixor dX7_perform_266 ?_
  refine zv_iret dX7_perform_267 rfl rfl ?_
  exact ⟨rfl, rfl, rfl, rfl, rfl⟩
theorem cP_wait_5 (d : Nat) {E : zv_E} {sh : zv_S} {I : zv_I} {J : zv_J} {R : zv_R} {l k n dp : Nat} {s na nu cn : Int32} (w : cp_w sh R l) (hk : k < 6) (P : cp_l I R l k s na nu cn) (ht : I 45 1 = nI n) (hn : n + 23 ≤ 60) (hdp : dp + 7 ≤ 40) (x : Int32) : zv_V E mX7_perform (d + 7) 0 0 0 [.ref (300 + 3 * l), .ref 45, .int (nI 5), .int (nI 3), .int x, .int (nI dp)] [] sh I J R (cc_p (p_wf 5 k s na nu cn x).1 sh (ct_l I n (p_wf 5 k s na nu cn x).2) J R) := by
  refine zv_iload_n dX7_perform_0 rfl rfl ?_
  refine zv_iload_n dX7_perform_1 rfl rfl ?_
  refine cc_callS (As := [.int (nI (5)), .int (nI (3))]) (st := []) dX7_perform_2 csX7_317 rfl (by decide) (cc_c1 rfl (cc_c1 rfl cc_c0)) (Nat.le_of_ble_eq_true rfl) (cK_5_3 (d + 6)) (fun v s1 I1 J1 R1 q => ?_)
  obtain ⟨rfl, rfl, rfl, rfl, rfl⟩ := q
  show zv_V _ _ _ _ _ 5 [.ref (300 + 3 * l), .ref 45, .int (nI (5)), .int (nI (3)), .int (x), .int (nI (dp))] [.int (nI (5))] _ _ _ _ _
  refine zv_istore (lv' := [.ref (300 + 3 * l), .ref 45, .int (nI (5)), .int (nI (3)), .int (x), .int (nI (dp)), .int (nI (5))]) dX7_perform_5 (by decide) rfl ?_
  refine zv_iload dX7_perform_7 rfl ?_
  refine zv_iconst (v := (-1 : Int32)) dX7_perform_9 (by decide) ?_
  refine zv_icmp_eq (tgt := 20) dX7_perform_10 (by decide) (fun h10 => (absurd h10 (by decide))) (fun h10 => ?_)
  refine zv_iload dX7_perform_13 rfl ?_
  refine zv_bipush (v := nI (40)) dX7_perform_15 (by decide) ?_
  refine zv_icN_le (tgt := 22) dX7_perform_17 (by decide) (by omega) (by omega) (fun h17 => ?_) (fun h17 => (absurd h17 (by omega)))
  refine zv_aload_n dX7_perform_22 rfl rfl ?_
  refine zv_geti 2 1 (x := nI (k)) dX7_perform_23 flX7_102 (wWL_s w.2.1) rfl (P.1) ?_
  refine zv_istore (lv' := [.ref (300 + 3 * l), .ref 45, .int (nI (5)), .int (nI (3)), .int (x), .int (nI (dp)), .int (nI (5)), .int (nI (k))]) dX7_perform_26 (by decide) rfl ?_
  refine zv_gets (b := 2) dX7_perform_28 (Or.inr ⟨rfl, st_320⟩) ?_
  refine zv_iload dX7_perform_31 rfl ?_
  refine zv_kald (j := 5) (x := nI (4)) dX7_perform_33 (rfl) (by omega) (rfl) ?_
  refine zv_istore (lv' := [.ref (300 + 3 * l), .ref 45, .int (nI (5)), .int (nI (3)), .int (x), .int (nI (dp)), .int (nI (5)), .int (nI (k)), .int (nI (4))]) dX7_perform_34 (by decide) rfl ?_
  refine zv_iload dX7_perform_36 rfl ?_
  refine zv_iconst (v := nI (1)) dX7_perform_38 (by decide) ?_
  refine zv_iadd dX7_perform_39 ?_
  refine cc_top (nI_add (dp) (1)) ?_
  refine zv_istore (lv' := [.ref (300 + 3 * l), .ref 45, .int (nI (5)), .int (nI (3)), .int (x), .int (nI (dp)), .int (nI (5)), .int (nI (k)), .int (nI (4)), .int (nI (dp + 1))]) dX7_perform_40 (by decide) rfl ?_
  refine zv_gets (b := 1) dX7_perform_42 (Or.inl ⟨rfl, st_323⟩) ?_
  refine zv_iload dX7_perform_45 rfl ?_
  refine zv_iconst (v := nI (4)) dX7_perform_47 (by decide) ?_
  refine zv_imul dX7_perform_48 ?_
  refine cc_top (y := nI (20)) (by decide) ?_
  refine zv_iload_n dX7_perform_49 rfl rfl ?_
  refine zv_iadd dX7_perform_50 ?_
  refine cc_top (y := nI (23)) (by decide) ?_
  refine zv_bald (j := 23) (x := nI (61)) dX7_perform_51 (rfl) (by omega) (rfl) ?_
  refine zv_istore (lv' := [.ref (300 + 3 * l), .ref 45, .int (nI (5)), .int (nI (3)), .int (x), .int (nI (dp)), .int (nI (5)), .int (nI (k)), .int (nI (4)), .int (nI (dp + 1)), .int (nI (61))]) dX7_perform_52 (by decide) rfl ?_
  refine zv_aload_n dX7_perform_54 rfl rfl ?_
  refine zv_iload dX7_perform_55 rfl ?_
  refine cc_callV (As := [.int (nI (61))]) (st := []) (c := 5) dX7_perform_57 cvX7_326 (wW0_s45 w.1) rfl rfl rfl (by decide) (cc_c1 rfl cc_c0) (Nat.le_of_ble_eq_true rfl) (cC_begin (d + 6) w.1 (n := n) (b := 61) ht (by omega)) (fun v s1 I1 J1 R1 q => ?_)
  obtain ⟨rfl, rfl, rfl, rfl, rfl⟩ := q
  show zv_V _ _ _ _ _ 60 [.ref (300 + 3 * l), .ref 45, .int (nI (5)), .int (nI (3)), .int (x), .int (nI (dp)), .int (nI (5)), .int (nI (k)), .int (nI (4)), .int (nI (dp + 1)), .int (nI (61))] [] _ _ _ _ _
  refine zv_iload dX7_perform_60 rfl ?_
  refine zv_lookup (off := 312) (tgt := 374) dX7_perform_62 (by decide) (by decide) (by decide) ?_
  refine zv_aload_n dX7_perform_374 rfl rfl ?_
  refine zv_aload_n dX7_perform_375 rfl rfl ?_
  refine zv_iload dX7_perform_376 rfl ?_
  refine zv_iconst (v := nI (3)) dX7_perform_378 (by decide) ?_
  refine zv_iload dX7_perform_379 rfl ?_
  refine zv_iconst (v := nI (2)) dX7_perform_381 (by decide) ?_
  refine zv_iadd dX7_perform_382 ?_
  refine zv_iload dX7_perform_383 rfl ?_
  refine cc_callS (As := [.ref (300 + 3 * l), .ref 45, .int (nI (4)), .int (nI (3)), .int (((x) + (nI (2)))), .int (nI (dp + 1))]) (st := []) dX7_perform_385 csX7_187 rfl (by decide) (cc_c1 rfl (cc_c1 rfl (cc_c1 rfl (cc_c1 rfl (cc_c1 rfl (cc_c1 rfl cc_c0)))))) (Nat.le_of_ble_eq_true rfl) (cP_wait_4 (d + 0) w hk (cp_b (n := n) (b := 61) P) (zv_u_s _ _ _ _) (by omega) (by omega) (((x) + (nI (2))))) (fun v s1 I1 J1 R1 q => ?_)
  obtain ⟨rfl, rfl, rfl, rfl, rfl⟩ := q
  show zv_V _ _ _ _ _ 388 [.ref (300 + 3 * l), .ref 45, .int (nI (5)), .int (nI (3)), .int (x), .int (nI (dp)), .int (nI (5)), .int (nI (k)), .int (nI (4)), .int (nI (dp + 1)), .int (nI (61))] [.int ((p_wf 4 k s na nu cn (((x) + (nI (2))))).1)] _ _ _ _ _
  refine zv_aload_n dX7_perform_388 rfl rfl ?_
  refine zv_aload_n dX7_perform_389 rfl rfl ?_
  refine zv_iload dX7_perform_390 rfl ?_
  refine zv_iconst (v := nI (1)) dX7_perform_392 (by decide) ?_
  refine zv_iload dX7_perform_393 rfl ?_
  refine zv_iload dX7_perform_395 rfl ?_
  refine cc_callS (As := [.ref (300 + 3 * l), .ref 45, .int (nI (k)), .int (nI (1)), .int (x), .int (nI (dp + 1))]) (st := [.int ((p_wf 4 k s na nu cn (((x) + (nI (2))))).1)]) dX7_perform_397 csX7_187 rfl (by decide) (cc_c1 rfl (cc_c1 rfl (cc_c1 rfl (cc_c1 rfl (cc_c1 rfl (cc_c1 rfl cc_c0)))))) (Nat.le_of_ble_eq_true rfl) (cP_bear (d + 3) (f := k) hk w hk (cp_t (n := (n + 1)) (L := (p_wf 4 k s na nu cn (((x) + (nI (2))))).2) (cp_b (n := n) (b := 61) P)) (ct_l_45 _ (zv_u_s _ _ _ _)) (by have := p_wf_l 4 k s na nu cn (((x) + (nI (2)))); omega) (by omega) x) (fun v s1 I1 J1 R1 q => ?_)
  obtain ⟨rfl, rfl, rfl, rfl, rfl⟩ := q
  show zv_V _ _ _ _ _ 400 [.ref (300 + 3 * l), .ref 45, .int (nI (5)), .int (nI (3)), .int (x), .int (nI (dp)), .int (nI (5)), .int (nI (k)), .int (nI (4)), .int (nI (dp + 1)), .int (nI (61))] [.int ((p_bear k s na nu cn x).1), .int ((p_wf 4 k s na nu cn (((x) + (nI (2))))).1)] _ _ _ _ _
  refine zv_iadd dX7_perform_400 ?_
  refine zv_iret dX7_perform_401 rfl rfl ?_
  exact ⟨rfl, rfl, ct_l_app _ _ _ _, rfl, rfl⟩
theorem cP_wait (d : Nat) {E : zv_E} {sh : zv_S} {I : zv_I} {J : zv_J} {R : zv_R} {l k n dp : Nat} {s na nu cn : Int32} {f : Nat} (hf : f < 6) (w : cp_w sh R l) (hk : k < 6) (P : cp_l I R l k s na nu cn) (ht : I 45 1 = nI n) (hn : n + 23 ≤ 60) (hdp : dp + 7 ≤ 40) (x : Int32) : zv_V E mX7_perform (d + 7) 0 0 0 [.ref (300 + 3 * l), .ref 45, .int (nI f), .int (nI 3), .int x, .int (nI dp)] [] sh I J R (cc_p (p_wf f k s na nu cn x).1 sh (ct_l I n (p_wf f k s na nu cn x).2) J R) := by
  rcases (show f = 0 ∨ f = 1 ∨ f = 2 ∨ f = 3 ∨ f = 4 ∨ f = 5 by omega) with rfl | rfl | rfl | rfl | rfl | rfl
  · exact cP_wait_0 (d + 1) w hk P ht (by omega) (by omega) x
  · exact cP_wait_1 (d + 0) w hk P ht (by omega) (by omega) x
  · exact cP_wait_2 (d + 0) w hk P ht (by omega) (by omega) x
  · exact cP_wait_3 (d + 1) w hk P ht (by omega) (by omega) x
  · exact cP_wait_4 (d + 1) w hk P ht (by omega) (by omega) x
  · exact cP_wait_5 (d + 0) w hk P ht (by omega) (by omega) x
