def lb_sh (x : Int64) (k : Nat) : Int64 := (x.toUInt64 >>> ((nI k).toInt64.toUInt64 &&& Int64.toUInt64 63)).toInt64
def lb_1 (x : Int64) : Int64 := x - (lb_sh x 1 &&& 6148914691236517205)
def lb_2 (x : Int64) : Int64 := (x &&& 3689348814741910323) + (lb_sh x 2 &&& 3689348814741910323)
def lb_3 (x : Int64) : Int64 := (x + lb_sh x 4) &&& 1085102592571150095
def lb_s (x : Int64) (k : Nat) : Int64 := x + lb_sh x k
def lbc (x : Int64) : Int32 := (lb_s (lb_s (lb_s (lb_3 (lb_2 (lb_1 x))) 8) 16) 32).toInt32 &&& nI 127
set_option maxRecDepth 100000 in
theorem lb_met {E : zv_E} {sh : zv_S} {I : zv_I} {J : zv_J} {R : zv_R} (d : Nat) (x : Int64) (l : Launch) (adr : Nat → Nat) : Met l mJ13_bitCount_95d88.1 (zv_ws mJ13_bitCount_95d88) (zv_rm d 0 0) (zv_Pm E [.long x] sh I J R adr) (zv_Qm E sh adr (cc_p (lbc x) sh I J R)) 0 0 (zv_A E) := by
  refine va_MetF (cc := mJ13_bitCount_95d88.2.1) (maxL := 2) (ret := some .int) mlJ13_bitCount_95d88.2.2.1 rfl ?_
  intro p e s m args below meth c s₁ B hml hv
  obtain ⟨rfl, hH, hT⟩ := hv
  have hts := atoms_spec (ws := zv_ws mJ13_bitCount_95d88) B.pre
  have hown : s.vm.findClass RJ13 = some m.cls := findClass_of_methodNamed B.named
  have hx := B.exec
  have hb := B.bytes
  have hQ : ∀ t : State, t.heap = s.heap → s.WarmedH t.vm → zv_Qm E sh adr (cc_p (lbc x) sh I J R) (([.long x] : List Value).map (zv_v adr)).toArray s (.returned (some (.int (lbc x)))) t := fun t ht hW =>
      ⟨some (.int (lbc x)), sh, I, J, R, adr, rfl, ⟨rfl, rfl, rfl, rfl, rfl⟩, by rw [ht]; exact hH, fun t ht => ⟨ht, rfl⟩, fun x h => by cases h; trivial, (va_S.rf (A := zv_A E)).F ht⟩
  have hl := lv_entry (([.long x] : List Value).map (zv_v adr)) (n := 2) (Nat.le_refl 2)
  rw [lg_entry_eq]
  generalize (lg_sl (([.long x] : List Value).map (zv_v adr)) ++ List.replicate (2 - (lg_sl (([.long x] : List Value).map (zv_v adr))).length) Slot.unset).toArray = ls at hl ⊢
  have hl : lv_has ls 2 [(0, .long x)] := hl
  refine lv_lload_n hx hb dJ13_bitCount_95d88_0 rfl (lv_at hl 0 rfl) ?_
  refine lv_lload_n hx hb dJ13_bitCount_95d88_1 rfl (lv_at hl 0 rfl) ?_
  refine lv_iconst (v := nI 1) hx hb dJ13_bitCount_95d88_2 (by decide) ?_
  refine lv_lushr (v := lb_sh x 1) hx hb dJ13_bitCount_95d88_3 rfl ?_
  refine lv_ldc2 hx hb hown (hts _ (List.mem_cons_of_mem _ kcJ13_314)) dJ13_bitCount_95d88_4 ?_
  refine lv_land hx hb dJ13_bitCount_95d88_7 ?_
  refine lv_lsub hx hb dJ13_bitCount_95d88_8 ?_
  refine lv_lstore_n (x := (lb_1 x)) (lv' := [(0, .long (lb_1 x))]) hx hb dJ13_bitCount_95d88_9 rfl hl (by decide) rfl (fun lsh1 h1 => ?_)
  refine lv_lload_n hx hb dJ13_bitCount_95d88_10 rfl (lv_at h1 0 rfl) ?_
  refine lv_ldc2 hx hb hown (hts _ (List.mem_cons_of_mem _ kcJ13_316)) dJ13_bitCount_95d88_11 ?_
  refine lv_land hx hb dJ13_bitCount_95d88_14 ?_
  refine lv_lload_n hx hb dJ13_bitCount_95d88_15 rfl (lv_at h1 0 rfl) ?_
  refine lv_iconst (v := nI 2) hx hb dJ13_bitCount_95d88_16 (by decide) ?_
  refine lv_lushr (v := lb_sh (lb_1 x) 2) hx hb dJ13_bitCount_95d88_17 rfl ?_
  refine lv_ldc2 hx hb hown (hts _ (List.mem_cons_of_mem _ kcJ13_316)) dJ13_bitCount_95d88_18 ?_
  refine lv_land hx hb dJ13_bitCount_95d88_21 ?_
  refine lv_ladd hx hb dJ13_bitCount_95d88_22 ?_
  refine lv_lstore_n (x := (lb_2 (lb_1 x))) (lv' := [(0, .long (lb_2 (lb_1 x)))]) hx hb dJ13_bitCount_95d88_23 rfl h1 (by decide) rfl (fun lsh2 h2 => ?_)
  refine lv_lload_n hx hb dJ13_bitCount_95d88_24 rfl (lv_at h2 0 rfl) ?_
  refine lv_lload_n hx hb dJ13_bitCount_95d88_25 rfl (lv_at h2 0 rfl) ?_
  refine lv_iconst (v := nI 4) hx hb dJ13_bitCount_95d88_26 (by decide) ?_
  refine lv_lushr (v := lb_sh (lb_2 (lb_1 x)) 4) hx hb dJ13_bitCount_95d88_27 rfl ?_
  refine lv_ladd hx hb dJ13_bitCount_95d88_28 ?_
  refine lv_ldc2 hx hb hown (hts _ (List.mem_cons_of_mem _ kcJ13_318)) dJ13_bitCount_95d88_29 ?_
  refine lv_land hx hb dJ13_bitCount_95d88_32 ?_
  refine lv_lstore_n (x := (lb_3 (lb_2 (lb_1 x)))) (lv' := [(0, .long (lb_3 (lb_2 (lb_1 x))))]) hx hb dJ13_bitCount_95d88_33 rfl h2 (by decide) rfl (fun lsh3 h3 => ?_)
  refine lv_lload_n hx hb dJ13_bitCount_95d88_34 rfl (lv_at h3 0 rfl) ?_
  refine lv_lload_n hx hb dJ13_bitCount_95d88_35 rfl (lv_at h3 0 rfl) ?_
  refine lv_bipush (v := nI 8) hx hb dJ13_bitCount_95d88_36 (by decide) ?_
  refine lv_lushr (v := lb_sh (lb_3 (lb_2 (lb_1 x))) 8) hx hb dJ13_bitCount_95d88_38 rfl ?_
  refine lv_ladd hx hb dJ13_bitCount_95d88_39 ?_
  refine lv_lstore_n (x := (lb_s (lb_3 (lb_2 (lb_1 x))) 8)) (lv' := [(0, .long (lb_s (lb_3 (lb_2 (lb_1 x))) 8))]) hx hb dJ13_bitCount_95d88_40 rfl h3 (by decide) rfl (fun lsh4 h4 => ?_)
  refine lv_lload_n hx hb dJ13_bitCount_95d88_41 rfl (lv_at h4 0 rfl) ?_
  refine lv_lload_n hx hb dJ13_bitCount_95d88_42 rfl (lv_at h4 0 rfl) ?_
  refine lv_bipush (v := nI 16) hx hb dJ13_bitCount_95d88_43 (by decide) ?_
  refine lv_lushr (v := lb_sh (lb_s (lb_3 (lb_2 (lb_1 x))) 8) 16) hx hb dJ13_bitCount_95d88_45 rfl ?_
  refine lv_ladd hx hb dJ13_bitCount_95d88_46 ?_
  refine lv_lstore_n (x := (lb_s (lb_s (lb_3 (lb_2 (lb_1 x))) 8) 16)) (lv' := [(0, .long (lb_s (lb_s (lb_3 (lb_2 (lb_1 x))) 8) 16))]) hx hb dJ13_bitCount_95d88_47 rfl h4 (by decide) rfl (fun lsh5 h5 => ?_)
  refine lv_lload_n hx hb dJ13_bitCount_95d88_48 rfl (lv_at h5 0 rfl) ?_
  refine lv_lload_n hx hb dJ13_bitCount_95d88_49 rfl (lv_at h5 0 rfl) ?_
  refine lv_bipush (v := nI 32) hx hb dJ13_bitCount_95d88_50 (by decide) ?_
  refine lv_lushr (v := lb_sh (lb_s (lb_s (lb_3 (lb_2 (lb_1 x))) 8) 16) 32) hx hb dJ13_bitCount_95d88_52 rfl ?_
  refine lv_ladd hx hb dJ13_bitCount_95d88_53 ?_
  refine lv_lstore_n (x := (lb_s (lb_s (lb_s (lb_3 (lb_2 (lb_1 x))) 8) 16) 32)) (lv' := [(0, .long (lb_s (lb_s (lb_s (lb_3 (lb_2 (lb_1 x))) 8) 16) 32))]) hx hb dJ13_bitCount_95d88_54 rfl h5 (by decide) rfl (fun lsh6 h6 => ?_)
  refine lv_lload_n hx hb dJ13_bitCount_95d88_55 rfl (lv_at h6 0 rfl) ?_
  refine lv_l2i hx hb dJ13_bitCount_95d88_56 rfl ?_
  refine lv_bipush (v := nI 127) hx hb dJ13_bitCount_95d88_57 (by decide) ?_
  refine lv_iand hx hb dJ13_bitCount_95d88_59 ?_
  exact W.zret (ty := .int) hx hb (by rw [B.returns]) rfl hQ (va_S.rf (A := zv_A E) (H0 := s.heap)).2.2 dJ13_bitCount_95d88_60
theorem zv_callL {E : zv_E} {M : zv_M} {d kc ks pc : Nat} {lv st : List Value} {sh : zv_S} {I : zv_I} {J : zv_J} {R : zv_R} {Q : zv_Q} {idx : Nat} {x : Int64} (hd : decode M.2.1 pc = .ok (.invokestatic idx, 3)) (hm : zv_CS M.1.cls idx mJ13_bitCount_95d88 1) (hst : (st.map fun v => v.category).sum ≤ 8)
    (k : zv_V E M (d + 1) kc ks (pc + 3) lv (.int (lbc x) :: st) sh I J R Q) : zv_V E M (d + 1) kc ks pc lv (.long x :: st) sh I J R Q := by
  intro p l e Rm s m args below meth c' Z mc ms sh0 adr0 C adr H locs ls cells slots P h1 h2
  obtain ⟨c1, c2, c3, c4, c5, c6, c7, c8, c9, c10, c11, c12⟩ := id C
  have hokr : zv_oks sh st := P.2.2.2.1.2
  have hmet := lb_met (E := E) (sh := sh) (I := I) (J := J) (R := R) d x l adr
  obtain ⟨hm, hlk, hin⟩ := hm
  have hG := zv_goodw hm
  have hlo : 8 + (mJ13_bitCount_95d88.2.2.1 + 11) + 40 * d ≤ Rm.locals := by have := hm.2.2.2.1; omega
  have hstk : (Value.long x :: st).map (zv_v adr) = (([.long x] : List Value).map (zv_v adr)).reverse ++ st.map (zv_v adr) := rfl
  rw [hstk]
  have hpre : PreS s H (zv_Pm E [.long x] sh I J R adr) (([.long x] : List Value).map (zv_v adr)) := ⟨zv_pm_blind, fun U hU hW => ⟨rfl, by rw [hU]; exact P.1, zv_T_warm c7 hW P.2.2.2.2.2 hU⟩⟩
  have hcs : 2 * (F0 m pc ls ((([.long x] : List Value).map (zv_v adr)).reverse ++ st.map (zv_v adr))).monitorRoom + ((st.map (zv_v adr)).map fun v => v.category).sum ≤ 8 := lv_room (by rw [zv_cats]; exact hst)
  have k' : ∀ v sh' I' J' R', cc_p (lbc x) sh I J R v sh' I' J' R' → zv_V E M (d + 1) kc ks (pc + 3) lv (v.toList ++ st) sh' I' J' R' Q := by
    intro v sh' I' J' R' q
    obtain ⟨rfl, rfl, rfl, rfl, rfl⟩ := q
    exact k
  rcases hlk with hl | ⟨host, hl⟩
  · refine zv_after (kc1 := 0) (ks1 := 0) C P hokr (by omega) (by omega) (va_runS (nL := M.2.2.1) (n := 1) (index := idx) ⟨c1, c2, c3, c4, c5⟩ hmet ⟨⟨rfl, rfl, by show d + 1 ≤ _; omega, hlo, pay_in c5 hG, List.mem_cons_self, c5 _ hm.1, c5 _ hm.2.1, ⟨hm.2.2.2.2.1, hm.2.2.2.2.2.1⟩, fun sig hsig => ?_, c5 _ hl⟩, c5 _ hin⟩ hpre rfl rfl P.2.1.1.1 rfl hcs hd ⟨by omega, by omega⟩) k'
    have h3 := hm.2.2.2.2.2.2
    rw [hsig] at h3
    exact (Option.some.inj h3).symm
  · refine zv_after (kc1 := 0) (ks1 := 0) C P hokr (by omega) (by omega) (va_runSN (nL := M.2.2.1) (n := 1) (index := idx) (host := host) ⟨c1, c2, c3, c4, c5⟩ hmet ⟨⟨⟨rfl, rfl, by show d + 1 ≤ _; omega, hlo, pay_in c5 hG, List.mem_cons_self⟩, c5 _ hm.1, c5 _ hm.2.1, ⟨hm.2.2.2.2.1, hm.2.2.2.2.2.1⟩, fun sig hsig => ?_, va_Nw.use rfl (c7.2.1 _ hl)⟩, c5 _ hin, trivial⟩ hpre rfl rfl P.2.1.1.1 rfl hcs hd ⟨by omega, by omega⟩) k'
    have h3 := hm.2.2.2.2.2.2
    rw [hsig] at h3
    exact (Option.some.inj h3).symm
/-! its value -/
def lb_N (x : Int64) : Nat := x.toBitVec.toNat
theorem lb_N_lt (x : Int64) : lb_N x < 2 ^ 64 := x.toBitVec.isLt
theorem lb_k : ∀ k : Fin 64, (((nI k.1).toInt64.toUInt64 &&& Int64.toUInt64 63).toBitVec % 64).toNat = k.1 := by decide +kernel
theorem lb_N_sh (x : Int64) {k : Nat} (hk : k < 64) : lb_N (lb_sh x k) = lb_N x / 2 ^ k := by
  have h := lb_k ⟨k, hk⟩
  unfold lb_N lb_sh
  rw [UInt64.toBitVec_toInt64, UInt64.toBitVec_shiftRight, Int64.toBitVec_toUInt64, BitVec.ushiftRight_eq', h, BitVec.toNat_ushiftRight, Nat.shiftRight_eq_div_pow]
theorem lb_N_and (x y : Int64) : lb_N (x &&& y) = lb_N x &&& lb_N y := by
  unfold lb_N
  rw [Int64.toBitVec_and, BitVec.toNat_and]
theorem lb_N_add {x y : Int64} (h : lb_N x + lb_N y < 2 ^ 64) : lb_N (x + y) = lb_N x + lb_N y := by
  unfold lb_N at h ⊢
  rw [Int64.toBitVec_add, BitVec.toNat_add, Nat.mod_eq_of_lt h]
theorem lb_N_sub {x y : Int64} (h : lb_N y ≤ lb_N x) : lb_N (x - y) = lb_N x - lb_N y := by
  unfold lb_N at h ⊢
  rw [Int64.toBitVec_sub, BitVec.toNat_sub_of_le (BitVec.le_def.mpr h)]
theorem lb_c1 : lb_N 6148914691236517205 = 6148914691236517205 := by decide +kernel
theorem lb_c2 : lb_N 3689348814741910323 = 3689348814741910323 := by decide +kernel
theorem lb_c4 : lb_N 1085102592571150095 = 1085102592571150095 := by decide +kernel
theorem lbc_is (x : Int64) : lbc x = nI (zp_c (fun i => ((lb_N x).testBit i).toNat) 64) ∧ zp_c (fun i => ((lb_N x).testBit i).toNat) 64 ≤ 64 := by
  obtain ⟨p1, p2, p3, p4, p5, p6, p7, p8, p9⟩ := zp_all (lb_N_lt x)
  refine ⟨?_, p9⟩
  have e1 : lb_N (lb_1 x) = zp_n1 (lb_N x) := by
    unfold lb_1 zp_n1
    rw [lb_N_sub (by rw [lb_N_and, lb_N_sh x (by decide), lb_c1]; exact p1), lb_N_and, lb_N_sh x (by decide), lb_c1]
  have e2 : lb_N (lb_2 (lb_1 x)) = zp_n2 (zp_n1 (lb_N x)) := by
    have h : lb_N (lb_1 x &&& 3689348814741910323) + lb_N (lb_sh (lb_1 x) 2 &&& 3689348814741910323) = zp_n2 (zp_n1 (lb_N x)) := by
      rw [lb_N_and, lb_N_and, lb_N_sh _ (by decide), lb_c2, e1]
      rfl
    unfold lb_2
    rw [lb_N_add (by rw [h]; exact p2), h]
  have e3 : lb_N (lb_3 (lb_2 (lb_1 x))) = zp_n3 (zp_n2 (zp_n1 (lb_N x))) := by
    unfold lb_3
    rw [lb_N_and, lb_N_add (by rw [lb_N_sh _ (by decide), e2]; exact p4), lb_N_sh _ (by decide), lb_c4, e2]
    rfl
  have e4 : lb_N (lb_s (lb_3 (lb_2 (lb_1 x))) 8) = zp_n4 (zp_n3 (zp_n2 (zp_n1 (lb_N x)))) := by
    unfold lb_s
    rw [lb_N_add (by rw [lb_N_sh _ (by decide), e3]; exact p5), lb_N_sh _ (by decide), e3]
    rfl
  have e5 : lb_N (lb_s (lb_s (lb_3 (lb_2 (lb_1 x))) 8) 16) = zp_n5 (zp_n4 (zp_n3 (zp_n2 (zp_n1 (lb_N x))))) := by
    rw [show lb_s (lb_s (lb_3 (lb_2 (lb_1 x))) 8) 16 = lb_s (lb_3 (lb_2 (lb_1 x))) 8 + lb_sh (lb_s (lb_3 (lb_2 (lb_1 x))) 8) 16 from rfl, lb_N_add (by rw [lb_N_sh _ (by decide), e4]; exact p6), lb_N_sh _ (by decide), e4]
    rfl
  have e6 : lb_N (lb_s (lb_s (lb_s (lb_3 (lb_2 (lb_1 x))) 8) 16) 32) = zp_n6 (zp_n5 (zp_n4 (zp_n3 (zp_n2 (zp_n1 (lb_N x)))))) := by
    rw [show lb_s (lb_s (lb_s (lb_3 (lb_2 (lb_1 x))) 8) 16) 32 = lb_s (lb_s (lb_3 (lb_2 (lb_1 x))) 8) 16 + lb_sh (lb_s (lb_s (lb_3 (lb_2 (lb_1 x))) 8) 16) 32 from rfl, lb_N_add (by rw [lb_N_sh _ (by decide), e5]; exact p7), lb_N_sh _ (by decide), e5]
    rfl
  rw [← e6] at p8
  unfold lbc
  generalize lb_s (lb_s (lb_s (lb_3 (lb_2 (lb_1 x))) 8) 16) 32 = v at p8 ⊢
  generalize zp_c (fun i => ((lb_N x).testBit i).toNat) 64 = n at p8 p9 ⊢
  refine Int32.toBitVec_inj.mp (BitVec.eq_of_toNat_eq ?_)
  have h1 : (nI 127).toBitVec.toNat = 2 ^ 7 - 1 := by decide
  have h2 : (nI n).toBitVec.toNat = n := by
    show (BitVec.ofNat 32 n).toNat = n
    rw [BitVec.toNat_ofNat]
    exact Nat.mod_eq_of_lt (by omega)
  rw [Int32.toBitVec_and, BitVec.toNat_and, h1, h2, Nat.and_two_pow_sub_one_eq_mod, Int64.toBitVec_toInt32, BitVec.signExtend_eq_setWidth_of_le _ (by decide), BitVec.toNat_setWidth]
  unfold lb_N at p8
  omega
