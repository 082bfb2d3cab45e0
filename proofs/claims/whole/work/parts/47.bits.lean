def cbc (x : Int32) : Int32 := ((((((((((((((((x) - (((((x).toUInt32 >>> ((nI (1)).toUInt32 &&& Int32.toUInt32 31)).toInt32) &&& ((1431655765 : Int32)))))) &&& ((858993459 : Int32)))) + (((((((x) - (((((x).toUInt32 >>> ((nI (1)).toUInt32 &&& Int32.toUInt32 31)).toInt32) &&& ((1431655765 : Int32)))))).toUInt32 >>> ((nI (2)).toUInt32 &&& Int32.toUInt32 31)).toInt32) &&& ((858993459 : Int32)))))) + (((((((((x) - (((((x).toUInt32 >>> ((nI (1)).toUInt32 &&& Int32.toUInt32 31)).toInt32) &&& ((1431655765 : Int32)))))) &&& ((858993459 : Int32)))) + (((((((x) - (((((x).toUInt32 >>> ((nI (1)).toUInt32 &&& Int32.toUInt32 31)).toInt32) &&& ((1431655765 : Int32)))))).toUInt32 >>> ((nI (2)).toUInt32 &&& Int32.toUInt32 31)).toInt32) &&& ((858993459 : Int32)))))).toUInt32 >>> ((nI (4)).toUInt32 &&& Int32.toUInt32 31)).toInt32))) &&& ((252645135 : Int32)))) + (((((((((((((x) - (((((x).toUInt32 >>> ((nI (1)).toUInt32 &&& Int32.toUInt32 31)).toInt32) &&& ((1431655765 : Int32)))))) &&& ((858993459 : Int32)))) + (((((((x) - (((((x).toUInt32 >>> ((nI (1)).toUInt32 &&& Int32.toUInt32 31)).toInt32) &&& ((1431655765 : Int32)))))).toUInt32 >>> ((nI (2)).toUInt32 &&& Int32.toUInt32 31)).toInt32) &&& ((858993459 : Int32)))))) + (((((((((x) - (((((x).toUInt32 >>> ((nI (1)).toUInt32 &&& Int32.toUInt32 31)).toInt32) &&& ((1431655765 : Int32)))))) &&& ((858993459 : Int32)))) + (((((((x) - (((((x).toUInt32 >>> ((nI (1)).toUInt32 &&& Int32.toUInt32 31)).toInt32) &&& ((1431655765 : Int32)))))).toUInt32 >>> ((nI (2)).toUInt32 &&& Int32.toUInt32 31)).toInt32) &&& ((858993459 : Int32)))))).toUInt32 >>> ((nI (4)).toUInt32 &&& Int32.toUInt32 31)).toInt32))) &&& ((252645135 : Int32)))).toUInt32 >>> ((nI (8)).toUInt32 &&& Int32.toUInt32 31)).toInt32))) + (((((((((((((((x) - (((((x).toUInt32 >>> ((nI (1)).toUInt32 &&& Int32.toUInt32 31)).toInt32) &&& ((1431655765 : Int32)))))) &&& ((858993459 : Int32)))) + (((((((x) - (((((x).toUInt32 >>> ((nI (1)).toUInt32 &&& Int32.toUInt32 31)).toInt32) &&& ((1431655765 : Int32)))))).toUInt32 >>> ((nI (2)).toUInt32 &&& Int32.toUInt32 31)).toInt32) &&& ((858993459 : Int32)))))) + (((((((((x) - (((((x).toUInt32 >>> ((nI (1)).toUInt32 &&& Int32.toUInt32 31)).toInt32) &&& ((1431655765 : Int32)))))) &&& ((858993459 : Int32)))) + (((((((x) - (((((x).toUInt32 >>> ((nI (1)).toUInt32 &&& Int32.toUInt32 31)).toInt32) &&& ((1431655765 : Int32)))))).toUInt32 >>> ((nI (2)).toUInt32 &&& Int32.toUInt32 31)).toInt32) &&& ((858993459 : Int32)))))).toUInt32 >>> ((nI (4)).toUInt32 &&& Int32.toUInt32 31)).toInt32))) &&& ((252645135 : Int32)))) + (((((((((((((x) - (((((x).toUInt32 >>> ((nI (1)).toUInt32 &&& Int32.toUInt32 31)).toInt32) &&& ((1431655765 : Int32)))))) &&& ((858993459 : Int32)))) + (((((((x) - (((((x).toUInt32 >>> ((nI (1)).toUInt32 &&& Int32.toUInt32 31)).toInt32) &&& ((1431655765 : Int32)))))).toUInt32 >>> ((nI (2)).toUInt32 &&& Int32.toUInt32 31)).toInt32) &&& ((858993459 : Int32)))))) + (((((((((x) - (((((x).toUInt32 >>> ((nI (1)).toUInt32 &&& Int32.toUInt32 31)).toInt32) &&& ((1431655765 : Int32)))))) &&& ((858993459 : Int32)))) + (((((((x) - (((((x).toUInt32 >>> ((nI (1)).toUInt32 &&& Int32.toUInt32 31)).toInt32) &&& ((1431655765 : Int32)))))).toUInt32 >>> ((nI (2)).toUInt32 &&& Int32.toUInt32 31)).toInt32) &&& ((858993459 : Int32)))))).toUInt32 >>> ((nI (4)).toUInt32 &&& Int32.toUInt32 31)).toInt32))) &&& ((252645135 : Int32)))).toUInt32 >>> ((nI (8)).toUInt32 &&& Int32.toUInt32 31)).toInt32))).toUInt32 >>> ((nI (16)).toUInt32 &&& Int32.toUInt32 31)).toInt32))) &&& (nI (63)))
theorem cC_bitCount (d : Nat) {E : zv_E} {sh : zv_S} {I : zv_I} {J : zv_J} {R : zv_R} (x : Int32) : zv_V E mJ6_bitCount_0f7a4 d 0 0 0 [.int x] [] sh I J R (cc_p (cbc x) sh I J R) := by
  refine zv_iload_n dJ6_bitCount_0f7a4_0 rfl rfl ?_
  refine zv_iload_n dJ6_bitCount_0f7a4_1 rfl rfl ?_
  refine zv_iconst (v := nI (1)) dJ6_bitCount_0f7a4_2 (by decide) ?_
  refine zv_iushr (v := ((x).toUInt32 >>> ((nI (1)).toUInt32 &&& Int32.toUInt32 31)).toInt32) dJ6_bitCount_0f7a4_3 rfl ?_
  refine zv_ldcw dJ6_bitCount_0f7a4_4 kcJ6_265 ?_
  refine zv_iand dJ6_bitCount_0f7a4_7 ?_
  refine zv_isub dJ6_bitCount_0f7a4_8 ?_
  refine zv_istore_n (lv' := [.int (((x) - (((((x).toUInt32 >>> ((nI (1)).toUInt32 &&& Int32.toUInt32 31)).toInt32) &&& ((1431655765 : Int32))))))]) dJ6_bitCount_0f7a4_9 rfl (by decide) rfl ?_
  refine zv_iload_n dJ6_bitCount_0f7a4_10 rfl rfl ?_
  refine zv_ldcw dJ6_bitCount_0f7a4_11 kcJ6_266 ?_
  refine zv_iand dJ6_bitCount_0f7a4_14 ?_
  refine zv_iload_n dJ6_bitCount_0f7a4_15 rfl rfl ?_
  refine zv_iconst (v := nI (2)) dJ6_bitCount_0f7a4_16 (by decide) ?_
  refine zv_iushr (v := ((((x) - (((((x).toUInt32 >>> ((nI (1)).toUInt32 &&& Int32.toUInt32 31)).toInt32) &&& ((1431655765 : Int32)))))).toUInt32 >>> ((nI (2)).toUInt32 &&& Int32.toUInt32 31)).toInt32) dJ6_bitCount_0f7a4_17 rfl ?_
  refine zv_ldcw dJ6_bitCount_0f7a4_18 kcJ6_266 ?_
  refine zv_iand dJ6_bitCount_0f7a4_21 ?_
  refine zv_iadd dJ6_bitCount_0f7a4_22 ?_
  refine zv_istore_n (lv' := [.int (((((((x) - (((((x).toUInt32 >>> ((nI (1)).toUInt32 &&& Int32.toUInt32 31)).toInt32) &&& ((1431655765 : Int32)))))) &&& ((858993459 : Int32)))) + (((((((x) - (((((x).toUInt32 >>> ((nI (1)).toUInt32 &&& Int32.toUInt32 31)).toInt32) &&& ((1431655765 : Int32)))))).toUInt32 >>> ((nI (2)).toUInt32 &&& Int32.toUInt32 31)).toInt32) &&& ((858993459 : Int32))))))]) dJ6_bitCount_0f7a4_23 rfl (by decide) rfl ?_
  refine zv_iload_n dJ6_bitCount_0f7a4_24 rfl rfl ?_
  refine zv_iload_n dJ6_bitCount_0f7a4_25 rfl rfl ?_
  refine zv_iconst (v := nI (4)) dJ6_bitCount_0f7a4_26 (by decide) ?_
  refine zv_iushr (v := ((((((((x) - (((((x).toUInt32 >>> ((nI (1)).toUInt32 &&& Int32.toUInt32 31)).toInt32) &&& ((1431655765 : Int32)))))) &&& ((858993459 : Int32)))) + (((((((x) - (((((x).toUInt32 >>> ((nI (1)).toUInt32 &&& Int32.toUInt32 31)).toInt32) &&& ((1431655765 : Int32)))))).toUInt32 >>> ((nI (2)).toUInt32 &&& Int32.toUInt32 31)).toInt32) &&& ((858993459 : Int32)))))).toUInt32 >>> ((nI (4)).toUInt32 &&& Int32.toUInt32 31)).toInt32) dJ6_bitCount_0f7a4_27 rfl ?_
  refine zv_iadd dJ6_bitCount_0f7a4_28 ?_
  refine zv_ldcw dJ6_bitCount_0f7a4_29 kcJ6_267 ?_
  refine zv_iand dJ6_bitCount_0f7a4_32 ?_
  refine zv_istore_n (lv' := [.int (((((((((((x) - (((((x).toUInt32 >>> ((nI (1)).toUInt32 &&& Int32.toUInt32 31)).toInt32) &&& ((1431655765 : Int32)))))) &&& ((858993459 : Int32)))) + (((((((x) - (((((x).toUInt32 >>> ((nI (1)).toUInt32 &&& Int32.toUInt32 31)).toInt32) &&& ((1431655765 : Int32)))))).toUInt32 >>> ((nI (2)).toUInt32 &&& Int32.toUInt32 31)).toInt32) &&& ((858993459 : Int32)))))) + (((((((((x) - (((((x).toUInt32 >>> ((nI (1)).toUInt32 &&& Int32.toUInt32 31)).toInt32) &&& ((1431655765 : Int32)))))) &&& ((858993459 : Int32)))) + (((((((x) - (((((x).toUInt32 >>> ((nI (1)).toUInt32 &&& Int32.toUInt32 31)).toInt32) &&& ((1431655765 : Int32)))))).toUInt32 >>> ((nI (2)).toUInt32 &&& Int32.toUInt32 31)).toInt32) &&& ((858993459 : Int32)))))).toUInt32 >>> ((nI (4)).toUInt32 &&& Int32.toUInt32 31)).toInt32))) &&& ((252645135 : Int32))))]) dJ6_bitCount_0f7a4_33 rfl (by decide) rfl ?_
  refine zv_iload_n dJ6_bitCount_0f7a4_34 rfl rfl ?_
  refine zv_iload_n dJ6_bitCount_0f7a4_35 rfl rfl ?_
  refine zv_bipush (v := nI (8)) dJ6_bitCount_0f7a4_36 (by decide) ?_
  refine zv_iushr (v := ((((((((((((x) - (((((x).toUInt32 >>> ((nI (1)).toUInt32 &&& Int32.toUInt32 31)).toInt32) &&& ((1431655765 : Int32)))))) &&& ((858993459 : Int32)))) + (((((((x) - (((((x).toUInt32 >>> ((nI (1)).toUInt32 &&& Int32.toUInt32 31)).toInt32) &&& ((1431655765 : Int32)))))).toUInt32 >>> ((nI (2)).toUInt32 &&& Int32.toUInt32 31)).toInt32) &&& ((858993459 : Int32)))))) + (((((((((x) - (((((x).toUInt32 >>> ((nI (1)).toUInt32 &&& Int32.toUInt32 31)).toInt32) &&& ((1431655765 : Int32)))))) &&& ((858993459 : Int32)))) + (((((((x) - (((((x).toUInt32 >>> ((nI (1)).toUInt32 &&& Int32.toUInt32 31)).toInt32) &&& ((1431655765 : Int32)))))).toUInt32 >>> ((nI (2)).toUInt32 &&& Int32.toUInt32 31)).toInt32) &&& ((858993459 : Int32)))))).toUInt32 >>> ((nI (4)).toUInt32 &&& Int32.toUInt32 31)).toInt32))) &&& ((252645135 : Int32)))).toUInt32 >>> ((nI (8)).toUInt32 &&& Int32.toUInt32 31)).toInt32) dJ6_bitCount_0f7a4_38 rfl ?_
  refine zv_iadd dJ6_bitCount_0f7a4_39 ?_
  refine zv_istore_n (lv' := [.int (((((((((((((x) - (((((x).toUInt32 >>> ((nI (1)).toUInt32 &&& Int32.toUInt32 31)).toInt32) &&& ((1431655765 : Int32)))))) &&& ((858993459 : Int32)))) + (((((((x) - (((((x).toUInt32 >>> ((nI (1)).toUInt32 &&& Int32.toUInt32 31)).toInt32) &&& ((1431655765 : Int32)))))).toUInt32 >>> ((nI (2)).toUInt32 &&& Int32.toUInt32 31)).toInt32) &&& ((858993459 : Int32)))))) + (((((((((x) - (((((x).toUInt32 >>> ((nI (1)).toUInt32 &&& Int32.toUInt32 31)).toInt32) &&& ((1431655765 : Int32)))))) &&& ((858993459 : Int32)))) + (((((((x) - (((((x).toUInt32 >>> ((nI (1)).toUInt32 &&& Int32.toUInt32 31)).toInt32) &&& ((1431655765 : Int32)))))).toUInt32 >>> ((nI (2)).toUInt32 &&& Int32.toUInt32 31)).toInt32) &&& ((858993459 : Int32)))))).toUInt32 >>> ((nI (4)).toUInt32 &&& Int32.toUInt32 31)).toInt32))) &&& ((252645135 : Int32)))) + (((((((((((((x) - (((((x).toUInt32 >>> ((nI (1)).toUInt32 &&& Int32.toUInt32 31)).toInt32) &&& ((1431655765 : Int32)))))) &&& ((858993459 : Int32)))) + (((((((x) - (((((x).toUInt32 >>> ((nI (1)).toUInt32 &&& Int32.toUInt32 31)).toInt32) &&& ((1431655765 : Int32)))))).toUInt32 >>> ((nI (2)).toUInt32 &&& Int32.toUInt32 31)).toInt32) &&& ((858993459 : Int32)))))) + (((((((((x) - (((((x).toUInt32 >>> ((nI (1)).toUInt32 &&& Int32.toUInt32 31)).toInt32) &&& ((1431655765 : Int32)))))) &&& ((858993459 : Int32)))) + (((((((x) - (((((x).toUInt32 >>> ((nI (1)).toUInt32 &&& Int32.toUInt32 31)).toInt32) &&& ((1431655765 : Int32)))))).toUInt32 >>> ((nI (2)).toUInt32 &&& Int32.toUInt32 31)).toInt32) &&& ((858993459 : Int32)))))).toUInt32 >>> ((nI (4)).toUInt32 &&& Int32.toUInt32 31)).toInt32))) &&& ((252645135 : Int32)))).toUInt32 >>> ((nI (8)).toUInt32 &&& Int32.toUInt32 31)).toInt32)))]) dJ6_bitCount_0f7a4_40 rfl (by decide) rfl ?_
  refine zv_iload_n dJ6_bitCount_0f7a4_41 rfl rfl ?_
  refine zv_iload_n dJ6_bitCount_0f7a4_42 rfl rfl ?_
  refine zv_bipush (v := nI (16)) dJ6_bitCount_0f7a4_43 (by decide) ?_
  refine zv_iushr (v := ((((((((((((((x) - (((((x).toUInt32 >>> ((nI (1)).toUInt32 &&& Int32.toUInt32 31)).toInt32) &&& ((1431655765 : Int32)))))) &&& ((858993459 : Int32)))) + (((((((x) - (((((x).toUInt32 >>> ((nI (1)).toUInt32 &&& Int32.toUInt32 31)).toInt32) &&& ((1431655765 : Int32)))))).toUInt32 >>> ((nI (2)).toUInt32 &&& Int32.toUInt32 31)).toInt32) &&& ((858993459 : Int32)))))) + (((((((((x) - (((((x).toUInt32 >>> ((nI (1)).toUInt32 &&& Int32.toUInt32 31)).toInt32) &&& ((1431655765 : Int32)))))) &&& ((858993459 : Int32)))) + (((((((x) - (((((x).toUInt32 >>> ((nI (1)).toUInt32 &&& Int32.toUInt32 31)).toInt32) &&& ((1431655765 : Int32)))))).toUInt32 >>> ((nI (2)).toUInt32 &&& Int32.toUInt32 31)).toInt32) &&& ((858993459 : Int32)))))).toUInt32 >>> ((nI (4)).toUInt32 &&& Int32.toUInt32 31)).toInt32))) &&& ((252645135 : Int32)))) + (((((((((((((x) - (((((x).toUInt32 >>> ((nI (1)).toUInt32 &&& Int32.toUInt32 31)).toInt32) &&& ((1431655765 : Int32)))))) &&& ((858993459 : Int32)))) + (((((((x) - (((((x).toUInt32 >>> ((nI (1)).toUInt32 &&& Int32.toUInt32 31)).toInt32) &&& ((1431655765 : Int32)))))).toUInt32 >>> ((nI (2)).toUInt32 &&& Int32.toUInt32 31)).toInt32) &&& ((858993459 : Int32)))))) + (((((((((x) - (((((x).toUInt32 >>> ((nI (1)).toUInt32 &&& Int32.toUInt32 31)).toInt32) &&& ((1431655765 : Int32)))))) &&& ((858993459 : Int32)))) + (((((((x) - (((((x).toUInt32 >>> ((nI (1)).toUInt32 &&& Int32.toUInt32 31)).toInt32) &&& ((1431655765 : Int32)))))).toUInt32 >>> ((nI (2)).toUInt32 &&& Int32.toUInt32 31)).toInt32) &&& ((858993459 : Int32)))))).toUInt32 >>> ((nI (4)).toUInt32 &&& Int32.toUInt32 31)).toInt32))) &&& ((252645135 : Int32)))).toUInt32 >>> ((nI (8)).toUInt32 &&& Int32.toUInt32 31)).toInt32))).toUInt32 >>> ((nI (16)).toUInt32 &&& Int32.toUInt32 31)).toInt32) dJ6_bitCount_0f7a4_45 rfl ?_
  refine zv_iadd dJ6_bitCount_0f7a4_46 ?_
  refine zv_istore_n (lv' := [.int (((((((((((((((x) - (((((x).toUInt32 >>> ((nI (1)).toUInt32 &&& Int32.toUInt32 31)).toInt32) &&& ((1431655765 : Int32)))))) &&& ((858993459 : Int32)))) + (((((((x) - (((((x).toUInt32 >>> ((nI (1)).toUInt32 &&& Int32.toUInt32 31)).toInt32) &&& ((1431655765 : Int32)))))).toUInt32 >>> ((nI (2)).toUInt32 &&& Int32.toUInt32 31)).toInt32) &&& ((858993459 : Int32)))))) + (((((((((x) - (((((x).toUInt32 >>> ((nI (1)).toUInt32 &&& Int32.toUInt32 31)).toInt32) &&& ((1431655765 : Int32)))))) &&& ((858993459 : Int32)))) + (((((((x) - (((((x).toUInt32 >>> ((nI (1)).toUInt32 &&& Int32.toUInt32 31)).toInt32) &&& ((1431655765 : Int32)))))).toUInt32 >>> ((nI (2)).toUInt32 &&& Int32.toUInt32 31)).toInt32) &&& ((858993459 : Int32)))))).toUInt32 >>> ((nI (4)).toUInt32 &&& Int32.toUInt32 31)).toInt32))) &&& ((252645135 : Int32)))) + (((((((((((((x) - (((((x).toUInt32 >>> ((nI (1)).toUInt32 &&& Int32.toUInt32 31)).toInt32) &&& ((1431655765 : Int32)))))) &&& ((858993459 : Int32)))) + (((((((x) - (((((x).toUInt32 >>> ((nI (1)).toUInt32 &&& Int32.toUInt32 31)).toInt32) &&& ((1431655765 : Int32)))))).toUInt32 >>> ((nI (2)).toUInt32 &&& Int32.toUInt32 31)).toInt32) &&& ((858993459 : Int32)))))) + (((((((((x) - (((((x).toUInt32 >>> ((nI (1)).toUInt32 &&& Int32.toUInt32 31)).toInt32) &&& ((1431655765 : Int32)))))) &&& ((858993459 : Int32)))) + (((((((x) - (((((x).toUInt32 >>> ((nI (1)).toUInt32 &&& Int32.toUInt32 31)).toInt32) &&& ((1431655765 : Int32)))))).toUInt32 >>> ((nI (2)).toUInt32 &&& Int32.toUInt32 31)).toInt32) &&& ((858993459 : Int32)))))).toUInt32 >>> ((nI (4)).toUInt32 &&& Int32.toUInt32 31)).toInt32))) &&& ((252645135 : Int32)))).toUInt32 >>> ((nI (8)).toUInt32 &&& Int32.toUInt32 31)).toInt32))) + (((((((((((((((x) - (((((x).toUInt32 >>> ((nI (1)).toUInt32 &&& Int32.toUInt32 31)).toInt32) &&& ((1431655765 : Int32)))))) &&& ((858993459 : Int32)))) + (((((((x) - (((((x).toUInt32 >>> ((nI (1)).toUInt32 &&& Int32.toUInt32 31)).toInt32) &&& ((1431655765 : Int32)))))).toUInt32 >>> ((nI (2)).toUInt32 &&& Int32.toUInt32 31)).toInt32) &&& ((858993459 : Int32)))))) + (((((((((x) - (((((x).toUInt32 >>> ((nI (1)).toUInt32 &&& Int32.toUInt32 31)).toInt32) &&& ((1431655765 : Int32)))))) &&& ((858993459 : Int32)))) + (((((((x) - (((((x).toUInt32 >>> ((nI (1)).toUInt32 &&& Int32.toUInt32 31)).toInt32) &&& ((1431655765 : Int32)))))).toUInt32 >>> ((nI (2)).toUInt32 &&& Int32.toUInt32 31)).toInt32) &&& ((858993459 : Int32)))))).toUInt32 >>> ((nI (4)).toUInt32 &&& Int32.toUInt32 31)).toInt32))) &&& ((252645135 : Int32)))) + (((((((((((((x) - (((((x).toUInt32 >>> ((nI (1)).toUInt32 &&& Int32.toUInt32 31)).toInt32) &&& ((1431655765 : Int32)))))) &&& ((858993459 : Int32)))) + (((((((x) - (((((x).toUInt32 >>> ((nI (1)).toUInt32 &&& Int32.toUInt32 31)).toInt32) &&& ((1431655765 : Int32)))))).toUInt32 >>> ((nI (2)).toUInt32 &&& Int32.toUInt32 31)).toInt32) &&& ((858993459 : Int32)))))) + (((((((((x) - (((((x).toUInt32 >>> ((nI (1)).toUInt32 &&& Int32.toUInt32 31)).toInt32) &&& ((1431655765 : Int32)))))) &&& ((858993459 : Int32)))) + (((((((x) - (((((x).toUInt32 >>> ((nI (1)).toUInt32 &&& Int32.toUInt32 31)).toInt32) &&& ((1431655765 : Int32)))))).toUInt32 >>> ((nI (2)).toUInt32 &&& Int32.toUInt32 31)).toInt32) &&& ((858993459 : Int32)))))).toUInt32 >>> ((nI (4)).toUInt32 &&& Int32.toUInt32 31)).toInt32))) &&& ((252645135 : Int32)))).toUInt32 >>> ((nI (8)).toUInt32 &&& Int32.toUInt32 31)).toInt32))).toUInt32 >>> ((nI (16)).toUInt32 &&& Int32.toUInt32 31)).toInt32)))]) dJ6_bitCount_0f7a4_47 rfl (by decide) rfl ?_
  refine zv_iload_n dJ6_bitCount_0f7a4_48 rfl rfl ?_
  refine zv_bipush (v := nI (63)) dJ6_bitCount_0f7a4_49 (by decide) ?_
  refine zv_iand dJ6_bitCount_0f7a4_51 ?_
  refine zv_iret dJ6_bitCount_0f7a4_52 rfl rfl ?_
  exact ⟨rfl, rfl, rfl, rfl, rfl⟩
theorem cbc_i : ∀ n : Fin 256, cbc (nI n.1) = nI (rm_cnt (cb (nI n.1)) 8) := by decide +kernel
theorem cbc_n {x : Int32} (h : cr_by x) : cbc x = nI (rm_cnt (cb x) 8) := by
  obtain ⟨n, hn, rfl⟩ := h
  exact cbc_i ⟨n, hn⟩
theorem cC_sameInRow_l (d : Nat) {E : zv_E} {sh : zv_S} {I : zv_I} {J : zv_J} {R : zv_R} {t u : Nat} {x : Int32} (ht : sh t = some (0, 8)) (hu : sh u = some (0, 8)) : ∀ n k, k + n = 8 → zv_V E mX1_sameInRow (d + 1) 0 0 5 [.ref t, .ref u, .int x, .int (nI (rm_cnt (fun m => cb x m && decide (I t m = I u m)) k)), .int (nI k)] [] sh I J R (cc_p (nI (rm_cnt (fun m => cb x m && decide (I t m = I u m)) 8)) sh I J R) := by
  intro n
  induction n with
  | zero =>
    intro k hk
    have hk2 : k = 8 := by omega
    subst hk2
    refine zv_iload dX1_sameInRow_5 rfl ?_
    refine zv_aload_n dX1_sameInRow_7 rfl rfl ?_
    refine zv_alen dX1_sameInRow_8 (ht) (by decide) ?_
    refine zv_icN_ge (tgt := 48) dX1_sameInRow_9 (by decide) (by omega) (by omega) (fun h9 => ?_) (fun h9 => (absurd h9 (by decide)))
    refine zv_iload_n dX1_sameInRow_48 rfl rfl ?_
    refine zv_iret dX1_sameInRow_49 rfl rfl ?_
    exact ⟨rfl, rfl, rfl, rfl, rfl⟩
  | succ n ih =>
    intro k hk
    refine zv_iload dX1_sameInRow_5 rfl ?_
    refine zv_aload_n dX1_sameInRow_7 rfl rfl ?_
    refine zv_alen dX1_sameInRow_8 (ht) (by decide) ?_
    refine zv_icN_ge (tgt := 48) dX1_sameInRow_9 (by decide) (by omega) (by omega) (fun h9 => (absurd h9 (by omega))) (fun h9 => ?_)
    refine zv_iload dX1_sameInRow_12 rfl ?_
    refine zv_aload_n dX1_sameInRow_14 rfl rfl ?_
    refine zv_alen dX1_sameInRow_15 (hu) (by decide) ?_
    refine zv_icN_ge (tgt := 48) dX1_sameInRow_16 (by decide) (by omega) (by omega) (fun h16 => (absurd h16 (by omega))) (fun h16 => ?_)
    refine zv_iload_n dX1_sameInRow_19 rfl rfl ?_
    refine zv_iload dX1_sameInRow_20 rfl ?_
    refine cc_callS (As := [.int (x), .int (nI (k))]) (st := []) dX1_sameInRow_22 csX1_34 rfl (by decide) (cc_c1 rfl (cc_c1 rfl cc_c0)) (Nat.le_of_ble_eq_true rfl) (cC_hasBit (d) x k) (fun v s1 I1 J1 R1 q => ?_)
    obtain ⟨rfl, rfl, rfl, rfl, rfl⟩ := q
    show zv_V _ _ _ _ _ 25 [.ref (t), .ref (u), .int (x), .int (nI (rm_cnt (fun m => cb x m && decide (I t m = I u m)) k)), .int (nI (k))] [.int (rm_b (cb x k))] _ _ _ _ _
    refine zv_ifB_eq (tgt := 42) dX1_sameInRow_25 (by decide) (fun h25 => ?_) (fun h25 => ?_)
    · refine zv_iinc (v := nI (k + 1)) (lv' := [.ref (t), .ref (u), .int (x), .int (nI (rm_cnt (fun m => cb x m && decide (I t m = I u m)) k)), .int (nI (k + 1))]) dX1_sameInRow_42 rfl (nI_add (k) 1) (by decide) rfl ?_
      refine zv_goto (tgt := 5) dX1_sameInRow_45 (by decide) ?_
      rw [← cr_cnt_f (p := (fun m => cb x m && decide (I t m = I u m))) (k := k) (by show (cb x k && _) = false; rw [h25]; rfl)]
      exact ih (k + 1) (by omega)
    · refine zv_aload_n dX1_sameInRow_28 rfl rfl ?_
      refine zv_iload dX1_sameInRow_29 rfl ?_
      refine zv_iald (j := k) (x := (I (t) (k))) dX1_sameInRow_31 (ht) (rfl) (show k < 8 from by omega) (by decide) (rfl) ?_
      refine zv_aload_n dX1_sameInRow_32 rfl rfl ?_
      refine zv_iload dX1_sameInRow_33 rfl ?_
      refine zv_iald (j := k) (x := (I (u) (k))) dX1_sameInRow_35 (hu) (rfl) (show k < 8 from by omega) (by decide) (rfl) ?_
      refine zv_icmp_ne (tgt := 42) dX1_sameInRow_36 (by decide) (fun h36 => ?_) (fun h36 => ?_)
      · refine zv_iinc (v := nI (k + 1)) (lv' := [.ref (t), .ref (u), .int (x), .int (nI (rm_cnt (fun m => cb x m && decide (I t m = I u m)) k)), .int (nI (k + 1))]) dX1_sameInRow_42 rfl (nI_add (k) 1) (by decide) rfl ?_
        refine zv_goto (tgt := 5) dX1_sameInRow_45 (by decide) ?_
        rw [← cr_cnt_f (p := (fun m => cb x m && decide (I t m = I u m))) (k := k) (by show (cb x k && decide _) = false; rw [decide_eq_false h36]; exact Bool.and_false _)]
        exact ih (k + 1) (by omega)
      · refine zv_iinc (v := nI (rm_cnt (fun m => cb x m && decide (I t m = I u m)) k + 1)) (lv' := [.ref (t), .ref (u), .int (x), .int (nI (rm_cnt (fun m => cb x m && decide (I t m = I u m)) k + 1)), .int (nI (k))]) dX1_sameInRow_39 rfl (nI_add (rm_cnt (fun m => cb x m && decide (I t m = I u m)) k) 1) (by decide) rfl ?_
        refine zv_iinc (v := nI (k + 1)) (lv' := [.ref (t), .ref (u), .int (x), .int (nI (rm_cnt (fun m => cb x m && decide (I t m = I u m)) k + 1)), .int (nI (k + 1))]) dX1_sameInRow_42 rfl (nI_add (k) 1) (by decide) rfl ?_
        refine zv_goto (tgt := 5) dX1_sameInRow_45 (by decide) ?_
        rw [← cr_cnt_t (p := (fun m => cb x m && decide (I t m = I u m))) (k := k) (by show (cb x k && decide _) = true; rw [h25, decide_eq_true h36]; rfl)]
        exact ih (k + 1) (by omega)
theorem cC_sameInRow (d : Nat) {E : zv_E} {sh : zv_S} {I : zv_I} {J : zv_J} {R : zv_R} {t u : Nat} {x : Int32} (ht : sh t = some (0, 8)) (hu : sh u = some (0, 8)) : zv_V E mX1_sameInRow (d + 1) 0 0 0 [.ref t, .ref u, .int x] [] sh I J R (cc_p (nI (rm_cnt (fun m => cb x m && decide (I t m = I u m)) 8)) sh I J R) := by
  refine zv_iconst (v := nI (0)) dX1_sameInRow_0 (by decide) ?_
  refine zv_istore_n (lv' := [.ref (t), .ref (u), .int (x), .int (nI (0))]) dX1_sameInRow_1 rfl (by decide) rfl ?_
  refine zv_iconst (v := nI (0)) dX1_sameInRow_2 (by decide) ?_
  refine zv_istore (lv' := [.ref (t), .ref (u), .int (x), .int (nI (0)), .int (nI (0))]) dX1_sameInRow_3 (by decide) rfl ?_
  exact cC_sameInRow_l d ht hu 8 0 (by omega)
/-- the same counts of two clocks, circle by circle -/
def cc_sm (I : zv_I) (R : zv_R) (k j e : Nat) : Nat := if ((R (1001 + 8 * k) e).isSome && (R (1001 + 8 * j) e).isSome) = true then rm_cnt (fun m => cb (I (50 + e) 0) m && decide (I (1002 + 8 * k + e) m = I (1002 + 8 * j + e) m)) 8 else 0
def cc_smS (f : Nat → Nat) : Nat → Nat
  | 0 => 0
  | n + 1 => cc_smS f n + f n
theorem cC_sameCounts_l (d : Nat) {E : zv_E} {sh : zv_S} {I : zv_I} {J : zv_J} {R : zv_R} {nm nc nl k j : Nat} (W : cc_W sh R nm nc nl) (wk : cc_WK sh R k) (wj : cc_WK sh R j) (hrw : ∀ e, e < 6 → R (1001 + 8 * k) e ≠ none → e < nc) : ∀ n e, e + n = 6 → zv_V E mX1_sameCounts (d + 2) 0 0 5 [.ref (1000 + 8 * k), .ref (1000 + 8 * j), .ref 42, .int (nI (cc_smS (cc_sm I R k j) e)), .int (nI e)] [] sh I J R (cc_p (nI (cc_smS (cc_sm I R k j) 6)) sh I J R) := by
  intro n
  induction n with
  | zero =>
    intro e he
    have he2 : e = 6 := by omega
    subst he2
    refine zv_aload_n dX1_sameCounts_5 rfl rfl ?_
    refine zv_ifnull dX1_sameCounts_6 ?_
    refine zv_iload dX1_sameCounts_9 rfl ?_
    refine zv_aload_n dX1_sameCounts_11 rfl rfl ?_
    refine zv_getr 1 0 (u := 1001 + 8 * k) dX1_sameCounts_12 flX1_11 (wWK_s wk) rfl (wWK_r0 wk) ?_
    refine zv_alen dX1_sameCounts_15 (wWK_s0 wk) (by decide) ?_
    refine zv_icN_ge (tgt := 72) dX1_sameCounts_16 (by decide) (by omega) (by omega) (fun h16 => ?_) (fun h16 => (absurd h16 (by decide)))
    refine zv_iload_n dX1_sameCounts_72 rfl rfl ?_
    refine zv_iret dX1_sameCounts_73 rfl rfl ?_
    exact ⟨rfl, rfl, rfl, rfl, rfl⟩
  | succ n ih =>
    intro e he
    rcases wWK_g wk e (by omega) with g1 | ⟨g1, g2⟩
    · refine zv_aload_n dX1_sameCounts_5 rfl rfl ?_
      refine zv_ifnull dX1_sameCounts_6 ?_
      refine zv_iload dX1_sameCounts_9 rfl ?_
      refine zv_aload_n dX1_sameCounts_11 rfl rfl ?_
      refine zv_getr 1 0 (u := 1001 + 8 * k) dX1_sameCounts_12 flX1_11 (wWK_s wk) rfl (wWK_r0 wk) ?_
      refine zv_alen dX1_sameCounts_15 (wWK_s0 wk) (by decide) ?_
      refine zv_icN_ge (tgt := 72) dX1_sameCounts_16 (by decide) (by omega) (by omega) (fun h16 => (absurd h16 (by omega))) (fun h16 => ?_)
      refine zv_aload_n dX1_sameCounts_19 rfl rfl ?_
      refine zv_getr 1 0 (u := 1001 + 8 * k) dX1_sameCounts_20 flX1_11 (wWK_s wk) rfl (wWK_r0 wk) ?_
      refine zv_iload dX1_sameCounts_23 rfl ?_
      refine zv_aald (j := e) (o := none) dX1_sameCounts_25 (wWK_s0 wk) (by decide) (by decide) (rfl) (show e < 6 from by omega) (by decide) (g1) ?_
      show zv_V _ _ _ _ _ 26 [.ref (1000 + 8 * k), .ref (1000 + 8 * j), .ref 42, .int (nI (cc_smS (cc_sm I R k j) e)), .int (nI (e))] [.null] _ _ _ _ _
      refine zv_ifnullN (tgt := 66) dX1_sameCounts_26 (by decide) ?_
      refine zv_iinc (v := nI (e + 1)) (lv' := [.ref (1000 + 8 * k), .ref (1000 + 8 * j), .ref 42, .int (nI (cc_smS (cc_sm I R k j) e)), .int (nI (e + 1))]) dX1_sameCounts_66 rfl (nI_add (e) 1) (by decide) rfl ?_
      refine zv_goto (tgt := 5) dX1_sameCounts_69 (by decide) ?_
      rw [show cc_smS (cc_sm I R k j) e = cc_smS (cc_sm I R k j) (e + 1) from by show _ = cc_smS (cc_sm I R k j) e + cc_sm I R k j e; rw [show cc_sm I R k j e = 0 from if_neg (by rw [g1, Option.isSome_none, Bool.false_and]; decide)]; rfl]
      exact ih (e + 1) (by omega)
    · have hec := hrw e (by omega) (by rw [g1]; intro q; cases q)
      rcases wWK_g wj e (by omega) with f1 | ⟨f1, f2⟩
      · refine zv_aload_n dX1_sameCounts_5 rfl rfl ?_
        refine zv_ifnull dX1_sameCounts_6 ?_
        refine zv_iload dX1_sameCounts_9 rfl ?_
        refine zv_aload_n dX1_sameCounts_11 rfl rfl ?_
        refine zv_getr 1 0 (u := 1001 + 8 * k) dX1_sameCounts_12 flX1_11 (wWK_s wk) rfl (wWK_r0 wk) ?_
        refine zv_alen dX1_sameCounts_15 (wWK_s0 wk) (by decide) ?_
        refine zv_icN_ge (tgt := 72) dX1_sameCounts_16 (by decide) (by omega) (by omega) (fun h16 => (absurd h16 (by omega))) (fun h16 => ?_)
        refine zv_aload_n dX1_sameCounts_19 rfl rfl ?_
        refine zv_getr 1 0 (u := 1001 + 8 * k) dX1_sameCounts_20 flX1_11 (wWK_s wk) rfl (wWK_r0 wk) ?_
        refine zv_iload dX1_sameCounts_23 rfl ?_
        refine zv_aald (j := e) (o := some (1002 + 8 * k + e)) dX1_sameCounts_25 (wWK_s0 wk) (by decide) (by decide) (rfl) (show e < 6 from by omega) (by decide) (g1) ?_
        show zv_V _ _ _ _ _ 26 [.ref (1000 + 8 * k), .ref (1000 + 8 * j), .ref 42, .int (nI (cc_smS (cc_sm I R k j) e)), .int (nI (e))] [.ref (1002 + 8 * k + e)] _ _ _ _ _
        refine zv_ifnull dX1_sameCounts_26 ?_
        refine zv_aload_n dX1_sameCounts_29 rfl rfl ?_
        refine zv_getr 1 0 (u := 1001 + 8 * j) dX1_sameCounts_30 flX1_11 (wWK_s wj) rfl (wWK_r0 wj) ?_
        refine zv_iload dX1_sameCounts_33 rfl ?_
        refine zv_aald (j := e) (o := none) dX1_sameCounts_35 (wWK_s0 wj) (by decide) (by decide) (rfl) (show e < 6 from by omega) (by decide) (f1) ?_
        show zv_V _ _ _ _ _ 36 [.ref (1000 + 8 * k), .ref (1000 + 8 * j), .ref 42, .int (nI (cc_smS (cc_sm I R k j) e)), .int (nI (e))] [.null] _ _ _ _ _
        refine zv_ifnullN (tgt := 66) dX1_sameCounts_36 (by decide) ?_
        refine zv_iinc (v := nI (e + 1)) (lv' := [.ref (1000 + 8 * k), .ref (1000 + 8 * j), .ref 42, .int (nI (cc_smS (cc_sm I R k j) e)), .int (nI (e + 1))]) dX1_sameCounts_66 rfl (nI_add (e) 1) (by decide) rfl ?_
        refine zv_goto (tgt := 5) dX1_sameCounts_69 (by decide) ?_
        rw [show cc_smS (cc_sm I R k j) e = cc_smS (cc_sm I R k j) (e + 1) from by show _ = cc_smS (cc_sm I R k j) e + cc_sm I R k j e; rw [show cc_sm I R k j e = 0 from if_neg (by rw [f1, Option.isSome_none, Bool.and_false]; decide)]; rfl]
        exact ih (e + 1) (by omega)
      · refine zv_aload_n dX1_sameCounts_5 rfl rfl ?_
        refine zv_ifnull dX1_sameCounts_6 ?_
        refine zv_iload dX1_sameCounts_9 rfl ?_
        refine zv_aload_n dX1_sameCounts_11 rfl rfl ?_
        refine zv_getr 1 0 (u := 1001 + 8 * k) dX1_sameCounts_12 flX1_11 (wWK_s wk) rfl (wWK_r0 wk) ?_
        refine zv_alen dX1_sameCounts_15 (wWK_s0 wk) (by decide) ?_
        refine zv_icN_ge (tgt := 72) dX1_sameCounts_16 (by decide) (by omega) (by omega) (fun h16 => (absurd h16 (by omega))) (fun h16 => ?_)
        refine zv_aload_n dX1_sameCounts_19 rfl rfl ?_
        refine zv_getr 1 0 (u := 1001 + 8 * k) dX1_sameCounts_20 flX1_11 (wWK_s wk) rfl (wWK_r0 wk) ?_
        refine zv_iload dX1_sameCounts_23 rfl ?_
        refine zv_aald (j := e) (o := some (1002 + 8 * k + e)) dX1_sameCounts_25 (wWK_s0 wk) (by decide) (by decide) (rfl) (show e < 6 from by omega) (by decide) (g1) ?_
        show zv_V _ _ _ _ _ 26 [.ref (1000 + 8 * k), .ref (1000 + 8 * j), .ref 42, .int (nI (cc_smS (cc_sm I R k j) e)), .int (nI (e))] [.ref (1002 + 8 * k + e)] _ _ _ _ _
        refine zv_ifnull dX1_sameCounts_26 ?_
        refine zv_aload_n dX1_sameCounts_29 rfl rfl ?_
        refine zv_getr 1 0 (u := 1001 + 8 * j) dX1_sameCounts_30 flX1_11 (wWK_s wj) rfl (wWK_r0 wj) ?_
        refine zv_iload dX1_sameCounts_33 rfl ?_
        refine zv_aald (j := e) (o := some (1002 + 8 * j + e)) dX1_sameCounts_35 (wWK_s0 wj) (by decide) (by decide) (rfl) (show e < 6 from by omega) (by decide) (f1) ?_
        show zv_V _ _ _ _ _ 36 [.ref (1000 + 8 * k), .ref (1000 + 8 * j), .ref 42, .int (nI (cc_smS (cc_sm I R k j) e)), .int (nI (e))] [.ref (1002 + 8 * j + e)] _ _ _ _ _
        refine zv_ifnull dX1_sameCounts_36 ?_
        refine zv_iload_n dX1_sameCounts_39 rfl rfl ?_
        refine zv_aload_n dX1_sameCounts_40 rfl rfl ?_
        refine zv_getr 1 0 (u := 1001 + 8 * k) dX1_sameCounts_41 flX1_11 (wWK_s wk) rfl (wWK_r0 wk) ?_
        refine zv_iload dX1_sameCounts_44 rfl ?_
        refine zv_aald (j := e) (o := some (1002 + 8 * k + e)) dX1_sameCounts_46 (wWK_s0 wk) (by decide) (by decide) (rfl) (show e < 6 from by omega) (by decide) (g1) ?_
        show zv_V _ _ _ _ _ 47 [.ref (1000 + 8 * k), .ref (1000 + 8 * j), .ref 42, .int (nI (cc_smS (cc_sm I R k j) e)), .int (nI (e))] [.ref (1002 + 8 * k + e), .int (nI (cc_smS (cc_sm I R k j) e))] _ _ _ _ _
        refine zv_aload_n dX1_sameCounts_47 rfl rfl ?_
        refine zv_getr 1 0 (u := 1001 + 8 * j) dX1_sameCounts_48 flX1_11 (wWK_s wj) rfl (wWK_r0 wj) ?_
        refine zv_iload dX1_sameCounts_51 rfl ?_
        refine zv_aald (j := e) (o := some (1002 + 8 * j + e)) dX1_sameCounts_53 (wWK_s0 wj) (by decide) (by decide) (rfl) (show e < 6 from by omega) (by decide) (f1) ?_
        show zv_V _ _ _ _ _ 54 [.ref (1000 + 8 * k), .ref (1000 + 8 * j), .ref 42, .int (nI (cc_smS (cc_sm I R k j) e)), .int (nI (e))] [.ref (1002 + 8 * j + e), .ref (1002 + 8 * k + e), .int (nI (cc_smS (cc_sm I R k j) e))] _ _ _ _ _
        refine zv_aload_n dX1_sameCounts_54 rfl rfl ?_
        refine zv_iload dX1_sameCounts_55 rfl ?_
        refine zv_aald (j := e) (o := some (50 + e)) dX1_sameCounts_57 (wW0_s42 W.1) (by decide) (by decide) (rfl) (show e < 6 from by omega) (by decide) ((W.2.2.1 e (by omega)).1) ?_
        show zv_V _ _ _ _ _ 58 [.ref (1000 + 8 * k), .ref (1000 + 8 * j), .ref 42, .int (nI (cc_smS (cc_sm I R k j) e)), .int (nI (e))] [.ref (50 + e), .ref (1002 + 8 * j + e), .ref (1002 + 8 * k + e), .int (nI (cc_smS (cc_sm I R k j) e))] _ _ _ _ _
        refine zv_geti 0 0 (x := (I (50 + e) 0)) dX1_sameCounts_58 flX1_25 ((W.2.2.1 e (by omega)).2) rfl (rfl) ?_
        refine cc_callS (As := [.ref (1002 + 8 * k + e), .ref (1002 + 8 * j + e), .int ((I (50 + e) 0))]) (st := [.int (nI (cc_smS (cc_sm I R k j) e))]) dX1_sameCounts_61 csX1_30 rfl (by decide) (cc_c1 rfl (cc_c1 rfl (cc_c1 rfl cc_c0))) (Nat.le_of_ble_eq_true rfl) (cC_sameInRow d g2 f2 (x := I (50 + e) 0)) (fun v s1 I1 J1 R1 q => ?_)
        obtain ⟨rfl, rfl, rfl, rfl, rfl⟩ := q
        rw [show nI (rm_cnt (fun m => cb (I (50 + e) 0) m && decide (I (1002 + 8 * k + e) m = I (1002 + 8 * j + e) m)) 8) = nI (cc_sm I R k j e) from congrArg nI (if_pos (by rw [g1, f1]; rfl)).symm]
        show zv_V _ _ _ _ _ 64 [.ref (1000 + 8 * k), .ref (1000 + 8 * j), .ref 42, .int (nI (cc_smS (cc_sm I R k j) e)), .int (nI (e))] [.int (nI (cc_sm I R k j e)), .int (nI (cc_smS (cc_sm I R k j) e))] _ _ _ _ _
        refine zv_iadd dX1_sameCounts_64 ?_
        refine cc_top (nI_add (cc_smS (cc_sm I R k j) e) (cc_sm I R k j e)) ?_
        refine zv_istore_n (lv' := [.ref (1000 + 8 * k), .ref (1000 + 8 * j), .ref 42, .int (nI (cc_smS (cc_sm I R k j) e + (cc_sm I R k j e))), .int (nI (e))]) dX1_sameCounts_65 rfl (by decide) rfl ?_
        refine zv_iinc (v := nI (e + 1)) (lv' := [.ref (1000 + 8 * k), .ref (1000 + 8 * j), .ref 42, .int (nI (cc_smS (cc_sm I R k j) e + (cc_sm I R k j e))), .int (nI (e + 1))]) dX1_sameCounts_66 rfl (nI_add (e) 1) (by decide) rfl ?_
        refine zv_goto (tgt := 5) dX1_sameCounts_69 (by decide) ?_
        exact ih (e + 1) (by omega)
theorem cC_sameCounts (d : Nat) {E : zv_E} {sh : zv_S} {I : zv_I} {J : zv_J} {R : zv_R} {nm nc nl k j : Nat} (W : cc_W sh R nm nc nl) (wk : cc_WK sh R k) (wj : cc_WK sh R j) (hrw : ∀ e, e < 6 → R (1001 + 8 * k) e ≠ none → e < nc) : zv_V E mX1_sameCounts (d + 2) 0 0 0 [.ref (1000 + 8 * k), .ref (1000 + 8 * j), .ref 42] [] sh I J R (cc_p (nI (cc_smS (cc_sm I R k j) 6)) sh I J R) := by
  refine zv_iconst (v := nI (0)) dX1_sameCounts_0 (by decide) ?_
  refine zv_istore_n (lv' := [.ref (1000 + 8 * k), .ref (1000 + 8 * j), .ref 42, .int (nI (0))]) dX1_sameCounts_1 rfl (by decide) rfl ?_
  refine zv_iconst (v := nI (0)) dX1_sameCounts_2 (by decide) ?_
  refine zv_istore (lv' := [.ref (1000 + 8 * k), .ref (1000 + 8 * j), .ref 42, .int (nI (0)), .int (nI (0))]) dX1_sameCounts_3 (by decide) rfl ?_
  exact cC_sameCounts_l d W wk wj hrw 6 0 (by omega)
theorem cC_sameCounts_0 (d : Nat) {E : zv_E} {sh : zv_S} {I : zv_I} {J : zv_J} {R : zv_R} {k : Nat} : zv_V E mX1_sameCounts (d + 2) 0 0 0 [.ref (1000 + 8 * k), .null, .ref 42] [] sh I J R (cc_p (nI 0) sh I J R) := by
  refine zv_iconst (v := nI (0)) dX1_sameCounts_0 (by decide) ?_
  refine zv_istore_n (lv' := [.ref (1000 + 8 * k), .null, .ref 42, .int (nI (0))]) dX1_sameCounts_1 rfl (by decide) rfl ?_
  refine zv_iconst (v := nI (0)) dX1_sameCounts_2 (by decide) ?_
  refine zv_istore (lv' := [.ref (1000 + 8 * k), .null, .ref 42, .int (nI (0)), .int (nI (0))]) dX1_sameCounts_3 (by decide) rfl ?_
  refine zv_aload_nN dX1_sameCounts_5 rfl rfl ?_
  refine zv_ifnullN (tgt := 72) dX1_sameCounts_6 (by decide) ?_
  refine zv_iload_n dX1_sameCounts_72 rfl rfl ?_
  refine zv_iret dX1_sameCounts_73 rfl rfl ?_
  exact ⟨rfl, rfl, rfl, rfl, rfl⟩
theorem kl_hl : Cond.methodLink RX1 17 ⟨"[I", "clone", "()Ljava/lang/Object;"⟩ ∈ zv_gw := by first | exact zv_gt 234 (by decide +kernel) rfl | exact zv_gt 235 (by decide +kernel) rfl | exact zv_gt 236 (by decide +kernel) rfl | exact zv_gt 237 (by decide +kernel) rfl | exact zv_gt 238 (by decide +kernel) rfl | exact zv_gt 239 (by decide +kernel) rfl | exact zv_gt 240 (by decide +kernel) rfl | exact zv_gt 241 (by decide +kernel) rfl | exact zv_gt 242 (by decide +kernel) rfl | exact zv_gt 243 (by decide +kernel) rfl
theorem kl_sm : Cond.sameMethod "[I" "java/lang/Object" "clone" "()Ljava/lang/Object;" ∈ zv_gw := by first | exact zv_gt 234 (by decide +kernel) rfl | exact zv_gt 235 (by decide +kernel) rfl | exact zv_gt 236 (by decide +kernel) rfl | exact zv_gt 237 (by decide +kernel) rfl | exact zv_gt 238 (by decide +kernel) rfl | exact zv_gt 239 (by decide +kernel) rfl | exact zv_gt 240 (by decide +kernel) rfl | exact zv_gt 241 (by decide +kernel) rfl | exact zv_gt 242 (by decide +kernel) rfl | exact zv_gt 243 (by decide +kernel) rfl
theorem kl_na : Cond.native ⟨"java/lang/Object", "clone", "()Ljava/lang/Object;"⟩ ∈ zv_gw := by first | exact zv_gt 234 (by decide +kernel) rfl | exact zv_gt 235 (by decide +kernel) rfl | exact zv_gt 236 (by decide +kernel) rfl | exact zv_gt 237 (by decide +kernel) rfl | exact zv_gt 238 (by decide +kernel) rfl | exact zv_gt 239 (by decide +kernel) rfl | exact zv_gt 240 (by decide +kernel) rfl | exact zv_gt 241 (by decide +kernel) rfl | exact zv_gt 242 (by decide +kernel) rfl | exact zv_gt 243 (by decide +kernel) rfl
theorem kl_im : Cond.instanceMethod ⟨"java/lang/Object", "clone", "()Ljava/lang/Object;"⟩ ∈ zv_gw := by first | exact zv_gt 234 (by decide +kernel) rfl | exact zv_gt 235 (by decide +kernel) rfl | exact zv_gt 236 (by decide +kernel) rfl | exact zv_gt 237 (by decide +kernel) rfl | exact zv_gt 238 (by decide +kernel) rfl | exact zv_gt 239 (by decide +kernel) rfl | exact zv_gt 240 (by decide +kernel) rfl | exact zv_gt 241 (by decide +kernel) rfl | exact zv_gt 242 (by decide +kernel) rfl | exact zv_gt 243 (by decide +kernel) rfl
theorem kl_se : Cond.selects "[I" ⟨"[I", "clone", "()Ljava/lang/Object;"⟩ ⟨"java/lang/Object", "clone", "()Ljava/lang/Object;"⟩ ∈ zv_gw := by first | exact zv_gt 234 (by decide +kernel) rfl | exact zv_gt 235 (by decide +kernel) rfl | exact zv_gt 236 (by decide +kernel) rfl | exact zv_gt 237 (by decide +kernel) rfl | exact zv_gt 238 (by decide +kernel) rfl | exact zv_gt 239 (by decide +kernel) rfl | exact zv_gt 240 (by decide +kernel) rfl | exact zv_gt 241 (by decide +kernel) rfl | exact zv_gt 242 (by decide +kernel) rfl | exact zv_gt 243 (by decide +kernel) rfl
def cn_IR (I : zv_I) (k e t0 : Nat) (x0 x : Int32) : zv_I := (zv_u ((zv_n I (1002 + 8 * k + e) (I t0))) (1000 + 8 * k) 1 (((x0) + (x))))
def cn_RR (R : zv_R) (k e : Nat) : zv_R := (zv_u ((zv_n R (1002 + 8 * k + e) (fun _ => none))) (1001 + 8 * k) (e) (some (1002 + 8 * k + e)))
theorem cC_addRow (d : Nat) {E : zv_E} {sh : zv_S} {I : zv_I} {J : zv_J} {R : zv_R} {k e t0 : Nat} {x x0 : Int32} (w : cc_WK sh R k) (he : e < 6) (ht0 : sh t0 = some (0, 8)) (hu : sh (1002 + 8 * k + e) = none) (hx0 : I (1000 + 8 * k) 1 = x0) : zv_V E mX1_addRow (d + 1) 1 8 0 [.ref (1000 + 8 * k), .int (nI e), .ref t0, .int x] [] sh I J R (cc_q (zv_sn sh (1002 + 8 * k + e) (0, 8)) (cn_IR I k e t0 x0 x) (zv_n J (1002 + 8 * k + e) (J t0)) (cn_RR R k e)) := by
  refine zv_iload_n dX1_addRow_0 rfl rfl ?_
  refine zv_if_lt (tgt := 36) dX1_addRow_1 (by decide) (fun h1 => (absurd h1 (cl_nn (by omega)))) (fun h1 => ?_)
  refine zv_iload_n dX1_addRow_4 rfl rfl ?_
  refine zv_aload_n dX1_addRow_5 rfl rfl ?_
  refine zv_getr 1 0 (u := 1001 + 8 * k) dX1_addRow_6 flX1_11 (wWK_s w) rfl (wWK_r0 w) ?_
  refine zv_alen dX1_addRow_9 (wWK_s0 w) (by decide) ?_
  refine zv_icN_ge (tgt := 36) dX1_addRow_10 (by decide) (by omega) (by omega) (fun h10 => (absurd h10 (by omega))) (fun h10 => ?_)
  refine zv_aload_n dX1_addRow_13 rfl rfl ?_
  refine zv_getr 1 0 (u := 1001 + 8 * k) dX1_addRow_14 flX1_11 (wWK_s w) rfl (wWK_r0 w) ?_
  refine zv_iload_n dX1_addRow_17 rfl rfl ?_
  refine zv_aload_n dX1_addRow_18 rfl rfl ?_
  refine zv_clone (t := 1002 + 8 * k + e) (t0 := t0) (N := 8) (kc := 0) (ks := 0) dX1_addRow_19 kl_hl ht0 (by decide) kl_sm kl_na kl_im kl_se ca_242 (by omega) (Nat.le_of_ble_eq_true rfl) hu (by omega) ?_
  refine zv_castA dX1_addRow_22 clX1_9 (zv_sn_s _ _ _) ?_
  refine zv_aast (j := e) (o := some (1002 + 8 * k + e)) dX1_addRow_25 ((zv_sn_t _ _ (by omega)).trans (wWK_s0 w)) (by decide) (Or.inl ⟨rfl, _, zv_sn_s _ _ _⟩) (fun h => absurd h (by decide)) (rfl) (show e < 6 from by omega) (by decide) ?_
  refine zv_aload_n dX1_addRow_26 rfl rfl ?_
  refine zv_dup dX1_addRow_27 rfl ?_
  refine zv_geti 1 1 (x := x0) dX1_addRow_28 flX1_21 ((zv_sn_t _ _ (by omega)).trans (wWK_s w)) rfl ((congrFun (zv_n_t _ _ (by omega)) _).trans (hx0)) ?_
  refine zv_iload_n dX1_addRow_31 rfl rfl ?_
  refine zv_iadd dX1_addRow_32 ?_
  refine zv_puti 1 1 dX1_addRow_33 fwX1_21 ((zv_sn_t _ _ (by omega)).trans (wWK_s w)) rfl ?_
  refine zv_vret dX1_addRow_36 rfl ?_
  exact ⟨rfl, rfl, rfl, rfl, rfl⟩
