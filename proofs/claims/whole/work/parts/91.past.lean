def sz_c (f : Nat → Int64) : Nat → Nat
  | 0 => 0
  | k + 1 => sz_c f k + zp_c (fun i => ((lb_N (f k)).testBit i).toNat) 64
theorem zp_cnt (b : Nat → Bool) : ∀ n, zp_c (fun i => (b i).toNat) n = rm_cnt b n
  | 0 => rfl
  | n + 1 => by
    show zp_c (fun i => (b i).toNat) n + (b n).toNat = rm_cnt b n + (if b n = true then 1 else 0)
    rw [zp_cnt b n]
    cases b n <;> rfl
theorem cnt_app (p : Nat → Bool) (n : Nat) : ∀ m, rm_cnt p (n + m) = rm_cnt p n + rm_cnt (fun i => p (n + i)) m
  | 0 => rfl
  | m + 1 => by
    show rm_cnt p (n + m) + (if p (n + m) = true then 1 else 0) = rm_cnt p n + (rm_cnt (fun i => p (n + i)) m + (if p (n + m) = true then 1 else 0))
    rw [cnt_app p n m]
    omega
theorem sz_is (f : Nat → Int64) : ∀ k, sz_c f k = rm_cnt (cs_bit f) (64 * k)
  | 0 => rfl
  | k + 1 => by
    show sz_c f k + zp_c (fun i => ((lb_N (f k)).testBit i).toNat) 64 = _
    rw [sz_is f k, zp_cnt, show 64 * (k + 1) = 64 * k + 64 by omega, cnt_app]
    congr 1
    refine cnt_c fun i hi => ?_
    show (lb_N (f k)).testBit i = (f ((64 * k + i) / 64)).toBitVec.getLsbD ((64 * k + i) % 64)
    rw [show (64 * k + i) / 64 = k by omega, show (64 * k + i) % 64 = i by omega]
    rfl
theorem cC_size_l (d : Nat) {E : zv_E} {sh : zv_S} {I : zv_I} {J : zv_J} {R : zv_R} {t tw : Nat} (hs : sh t = some (14, 0)) (hr : R t 0 = some tw) (hw : sh tw = some (1, 4)) : ∀ n k, k + n = 4 → zv_V E mX4_size (d + 1) 0 0 4 [.ref t, .int (nI (sz_c (J tw) k)), .int (nI k)] [] sh I J R (cc_p (nI (sz_c (J tw) 4)) sh I J R) := by
  intro n
  induction n with
  | zero =>
    intro k hk
    obtain rfl : k = 4 := by omega
    refine zv_iload_n dX4_size_4 rfl rfl ?_
    refine zv_aload_n dX4_size_5 rfl rfl ?_
    refine zv_getr 4 0 (u := tw) dX4_size_6 flX4_11 hs rfl hr ?_
    refine zv_alen dX4_size_9 hw (by decide) ?_
    refine zv_icN_ge (tgt := 31) dX4_size_10 (by decide) (by omega) (by omega) (fun h => ?_) (fun h => absurd h (by omega))
    refine zv_iload_n dX4_size_31 rfl rfl ?_
    refine zv_iret dX4_size_32 rfl rfl ?_
    exact ⟨rfl, rfl, rfl, rfl, rfl⟩
  | succ n ih =>
    intro k hk
    refine zv_iload_n dX4_size_4 rfl rfl ?_
    refine zv_aload_n dX4_size_5 rfl rfl ?_
    refine zv_getr 4 0 (u := tw) dX4_size_6 flX4_11 hs rfl hr ?_
    refine zv_alen dX4_size_9 hw (by decide) ?_
    refine zv_icN_ge (tgt := 31) dX4_size_10 (by decide) (by omega) (by omega) (fun h => absurd h (by omega)) (fun h => ?_)
    refine zv_iload_n dX4_size_13 rfl rfl ?_
    refine zv_aload_n dX4_size_14 rfl rfl ?_
    refine zv_getr 4 0 (u := tw) dX4_size_15 flX4_11 hs rfl hr ?_
    refine zv_iload_n dX4_size_18 rfl rfl ?_
    refine zv_lald (j := k) (x := J tw k) dX4_size_19 hw rfl (show k < 4 from by omega) (by decide) rfl ?_
    refine zv_callL dX4_size_20 csX4_15 (Nat.le_of_ble_eq_true rfl) ?_
    refine zv_iadd dX4_size_23 ?_
    refine cc_top (y := nI (sz_c (J tw) (k + 1))) (by rw [(lbc_is _).1, nI_add]; rfl) ?_
    refine zv_istore_n (lv' := [.ref t, .int (nI (sz_c (J tw) (k + 1))), .int (nI k)]) dX4_size_24 rfl (by decide) rfl ?_
    refine zv_iinc (v := nI (k + 1)) (lv' := [.ref t, .int (nI (sz_c (J tw) (k + 1))), .int (nI (k + 1))]) dX4_size_25 rfl (by rw [← nI_1]; rfl) (by decide) rfl ?_
    refine zv_goto (tgt := 4) dX4_size_28 (by decide) ?_
    exact ih (k + 1) (by omega)
theorem cC_size (d : Nat) {E : zv_E} {sh : zv_S} {I : zv_I} {J : zv_J} {R : zv_R} {t tw : Nat} (hs : sh t = some (14, 0)) (hr : R t 0 = some tw) (hw : sh tw = some (1, 4)) : zv_V E mX4_size (d + 1) 0 0 0 [.ref t] [] sh I J R (cc_p (nI (rm_cnt (cs_bit (J tw)) 256)) sh I J R) := by
  refine zv_iconst (v := nI 0) dX4_size_0 (by decide) ?_
  refine zv_istore_n (lv' := [.ref t, .int (nI 0)]) dX4_size_1 rfl (by decide) rfl ?_
  refine zv_iconst (v := nI 0) dX4_size_2 (by decide) ?_
  refine zv_istore_n (lv' := [.ref t, .int (nI 0), .int (nI 0)]) dX4_size_3 rfl (by decide) rfl ?_
  have h := cC_size_l d (E := E) (I := I) (J := J) hs hr hw 4 0 rfl
  rw [sz_is (J tw) 4] at h
  exact h
theorem cC_past (d : Nat) {E : zv_E} {sh : zv_S} {I : zv_I} {J : zv_J} {R : zv_R} {a : zv_I} {nm nc nl q : Nat} (RL : cr_R sh I J R a nm nc nl) (H : iv a nm nc nl q) (x : Int32) : zv_V E mX7_past (d + 2) 0 0 0 [.ref 40, .int x] [] sh I J R (cc_p (q_past a nl x) sh I J R) := by
  obtain ⟨W, n5, b5, n6, b6, n7, b7, LF⟩ := xR_B RL
  refine zv_aload_n dX7_past_0 rfl rfl ?_
  refine zv_iload_n dX7_past_1 rfl rfl ?_
  refine cc_callV (As := [.int x]) (st := []) (c := 6) dX7_past_2 cvX7_71 (wW0_s40 W.1) rfl rfl rfl (by decide) (cc_c1 rfl cc_c0) (Nat.le_of_ble_eq_true rfl) (cC_isLetter (d + 1) W.1 n7 (by omega) x) (fun v s1 I1 J1 R1 q => ?_)
  obtain ⟨rfl, rfl, rfl, rfl, rfl⟩ := q
  show zv_V _ _ _ _ _ 5 [.ref 40, .int x] [.int (rm_b (rm_lt x nl))] _ _ _ _ _
  refine zv_ifB_eq (tgt := 23) dX7_past_5 (by decide) (fun h => ?_) (fun h => ?_)
  · refine zv_iconst (v := (-1 : Int32)) dX7_past_23 (by decide) ?_
    refine zv_iret dX7_past_24 rfl rfl ?_
    exact ⟨by unfold q_past; rw [h]; rfl, rfl, rfl, rfl, rfl⟩
  · obtain ⟨l, hl, rfl⟩ := rm_lt_t h (by omega)
    have w := (W.2.2.2 l hl).2
    refine zv_aload_n dX7_past_8 rfl rfl ?_
    refine zv_getr 6 2 (u := 43) dX7_past_9 flX7_23 (wW0_s40 W.1) rfl (wW0_r2 W.1) ?_
    refine zv_iload_n dX7_past_12 rfl rfl ?_
    refine zv_aald (j := l) (o := some (300 + 3 * l)) dX7_past_13 (wW0_s43 W.1) (by decide) (by decide) rfl (show l < 200 from by omega) (by decide) (W.2.2.2 l hl).1 ?_
    show zv_V _ _ _ _ _ 14 [.ref 40, .int (nI l)] [.ref (300 + 3 * l)] _ _ _ _ _
    refine zv_getr 2 7 (u := 301 + 3 * l) dX7_past_14 flX7_169 (wWL_s w) rfl (wWL_r7 w) ?_
    refine cc_callV (As := []) (st := []) (c := 4) dX7_past_17 cvX7_178 (wWL_s7 w) rfl rfl rfl (by decide) cc_c0 (Nat.le_of_ble_eq_true rfl) (cC_size d (wWL_s7 w) (wWL_w w) (wWL_sw w)) (fun v s1 I1 J1 R1 q => ?_)
    obtain ⟨rfl, rfl, rfl, rfl, rfl⟩ := q
    show zv_V _ _ _ _ _ 20 [.ref 40, .int (nI l)] [.int (nI (rm_cnt (cs_bit (J (302 + 3 * l))) 256))] _ _ _ _ _
    refine zv_goto (tgt := 24) dX7_past_20 (by decide) ?_
    refine zv_iret dX7_past_24 rfl rfl ?_
    refine ⟨?_, rfl, rfl, rfl, rfl⟩
    unfold q_past
    rw [h, if_pos rfl, rm_nv_n (by omega)]
    have L := xR_L RL l hl
    have e1 : rm_cnt (cs_bit (J (302 + 3 * l))) 256 = rm_cnt (cs_bit (J (302 + 3 * l))) nl := by
      rw [show 256 = nl + (256 - nl) by omega]
      refine cnt_more fun i h1 h2 => ?_
      rw [xL_bf L i (by omega), decide_eq_false (by omega)]
      rfl
    have e2 : rm_cnt (cs_bit (J (302 + 3 * l))) nl = rm_cnt (fun k => decide (¬ a 26 (200 * l + k) = 0)) nl := cnt_c fun i hi => by
      rw [xL_bf L i (by omega)]
      by_cases z : i < l
      · rw [decide_eq_true z]
        rfl
      · rw [decide_eq_false z, xI_bz H l i (by omega) (by omega) (Or.inl (by omega))]
        rfl
    rw [e1, e2]
