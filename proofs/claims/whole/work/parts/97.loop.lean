theorem lw_lt {L q : Nat} (hL : L ≤ 2560) (hq : 5 * q ≤ L) : (nI L - nI 5 < nI (5 * q)) ↔ L < 5 * q + 5 := by
  by_cases h : 5 ≤ L
  · have e : nI L - nI 5 = nI (L - 5) := by
      have h1 : nI (L - 5) + nI 5 = nI L := by rw [nI_add]; congr 1; omega
      rw [← h1, Int32.add_sub_cancel]
    rw [e, nI_ltI (by omega) (by omega)]
    omega
  · have e : ∀ L : Fin 5, nI L.1 - nI 5 < nI 0 := by decide +kernel
    have hq0 : q = 0 := by omega
    subst hq0
    have h1 := e ⟨L, by omega⟩
    exact ⟨fun _ => by omega, fun _ => h1⟩
theorem lw_loop {E : zv_E} (hL : E.2.2.2.2.1 ≤ 2560) : ∀ n q sh I J R, q + n = E.2.2.2.2.1 / 5 → lw_I sh I J R → zv_V E mL_law 41 (611 * n) (3674 * n) 18 [.ref 0, .ref 40, .ref 3, .int (nI (5 * q))] [] sh I J R (fun v _ _ _ _ => v = some (.int (nI 1))) := by
  intro n
  induction n with
  | zero =>
    intro q sh I J R hn HI
    refine zv_iload_n dL_law_18 rfl rfl ?_
    refine zv_aload_n dL_law_19 rfl rfl ?_
    refine zv_slen dL_law_20 ?_
    refine zv_iconst (v := nI 5) dL_law_21 (by decide) ?_
    refine zv_isub dL_law_22 ?_
    refine zv_icmp_gt (tgt := 942) dL_law_23 (by decide) (fun h => ?_) (fun h => absurd ((lw_lt hL (by omega)).mpr (by omega)) h)
    refine zv_iconst (v := nI 1) dL_law_942 (by decide) ?_
    exact zv_iret (ty := .boolean) dL_law_943 rfl rfl rfl
  | succ n ih =>
    intro q sh I J R hn HI
    have nx : ∀ sh' I' J' R', lw_I sh' I' J' R' → zv_V E mL_law 41 (611 * n) (3674 * n) 936 [.ref 0, .ref 40, .ref 3, .int (nI (5 * q))] [] sh' I' J' R' (fun v _ _ _ _ => v = some (.int (nI 1))) := by
      intro sh' I' J' R' hi
      refine zv_iinc (v := nI (5 * (q + 1))) (lv' := [.ref 0, .ref 40, .ref 3, .int (nI (5 * (q + 1)))]) dL_law_936 rfl (show nI (5 * q) + nI 5 = nI (5 * (q + 1)) from nI_add (5 * q) 5) (by decide) rfl ?_
      refine zv_goto (tgt := 18) dL_law_939 (by decide) ?_
      exact ih (q + 1) sh' I' J' R' (by omega) hi
    rw [show 611 * (n + 1) = 611 + 611 * n by omega, show 3674 * (n + 1) = 3674 + 3674 * n by omega]
    refine zv_iload_n dL_law_18 rfl rfl ?_
    refine zv_aload_n dL_law_19 rfl rfl ?_
    refine zv_slen dL_law_20 ?_
    refine zv_iconst (v := nI 5) dL_law_21 (by decide) ?_
    refine zv_isub dL_law_22 ?_
    refine zv_icmp_gt (tgt := 942) dL_law_23 (by decide) (fun h => absurd ((lw_lt hL (by omega)).mp h) (by omega)) (fun h => ?_)
    refine zv_aload_n dL_law_26 rfl rfl ?_
    refine zv_iload_n dL_law_27 rfl rfl ?_
    refine zv_sald (j := 5 * q) (x := E.2.2.2.2.2 (5 * q)) dL_law_28 rfl (by omega) (by omega) rfl ?_
    refine zv_bipush (v := nI 31) dL_law_29 (by decide) ?_
    refine zv_iand dL_law_31 ?_
    generalize E.2.2.2.2.2 (5 * q) &&& nI 31 = v
    cases hsw : rm_lt v 24 with
    | false =>
      refine zv_tableOut (tgt := 936) dL_law_32 (rm_lt_out hsw) (by decide) ?_
      exact zv_mono (by omega) (by omega) (nx sh I J R HI)
    | true =>
      obtain ⟨jsw, hjsw, rfl⟩ := rm_lt_t hsw (by decide)
      rcases (show jsw = 0 ∨ jsw = 1 ∨ jsw = 2 ∨ jsw = 3 ∨ jsw = 4 ∨ jsw = 5 ∨ jsw = 6 ∨ jsw = 7 ∨ jsw = 8 ∨ jsw = 9 ∨ jsw = 10 ∨ jsw = 11 ∨ jsw = 12 ∨ jsw = 13 ∨ jsw = 14 ∨ jsw = 15 ∨ jsw = 16 ∨ jsw = 17 ∨ jsw = 18 ∨ jsw = 19 ∨ jsw = 20 ∨ jsw = 21 ∨ jsw = 22 ∨ jsw = 23 by omega) with rfl | rfl | rfl | rfl | rfl | rfl | rfl | rfl | rfl | rfl | rfl | rfl | rfl | rfl | rfl | rfl | rfl | rfl | rfl | rfl | rfl | rfl | rfl | rfl
      · refine zv_tableIn (off := 112) (tgt := 144) dL_law_32 (by decide) (by decide) (by decide) (by decide) ?_
        exact lw_c0 hL (by omega) HI nx
      · refine zv_tableIn (off := 125) (tgt := 157) dL_law_32 (by decide) (by decide) (by decide) (by decide) ?_
        exact lw_c1 hL (by omega) HI nx
      · refine zv_tableIn (off := 148) (tgt := 180) dL_law_32 (by decide) (by decide) (by decide) (by decide) ?_
        exact lw_c2 hL (by omega) HI nx
      · refine zv_tableIn (off := 191) (tgt := 223) dL_law_32 (by decide) (by decide) (by decide) (by decide) ?_
        exact lw_c3 hL (by omega) HI nx
      · refine zv_tableIn (off := 234) (tgt := 266) dL_law_32 (by decide) (by decide) (by decide) (by decide) ?_
        exact lw_c4 hL (by omega) HI nx
      · refine zv_tableIn (off := 277) (tgt := 309) dL_law_32 (by decide) (by decide) (by decide) (by decide) ?_
        exact lw_c5 hL (by omega) HI nx
      · refine zv_tableIn (off := 310) (tgt := 342) dL_law_32 (by decide) (by decide) (by decide) (by decide) ?_
        exact lw_c6 hL (by omega) HI nx
      · refine zv_tableIn (off := 343) (tgt := 375) dL_law_32 (by decide) (by decide) (by decide) (by decide) ?_
        exact lw_c7 hL (by omega) HI nx
      · refine zv_tableIn (off := 366) (tgt := 398) dL_law_32 (by decide) (by decide) (by decide) (by decide) ?_
        exact lw_c8 hL (by omega) HI nx
      · refine zv_tableIn (off := 399) (tgt := 431) dL_law_32 (by decide) (by decide) (by decide) (by decide) ?_
        exact lw_c9 hL (by omega) HI nx
      · refine zv_tableIn (off := 432) (tgt := 464) dL_law_32 (by decide) (by decide) (by decide) (by decide) ?_
        exact lw_c10 hL (by omega) HI nx
      · refine zv_tableIn (off := 465) (tgt := 497) dL_law_32 (by decide) (by decide) (by decide) (by decide) ?_
        exact lw_c11 hL (by omega) HI nx
      · refine zv_tableIn (off := 508) (tgt := 540) dL_law_32 (by decide) (by decide) (by decide) (by decide) ?_
        exact lw_c12 hL (by omega) HI nx
      · refine zv_tableIn (off := 541) (tgt := 573) dL_law_32 (by decide) (by decide) (by decide) (by decide) ?_
        exact lw_c13 hL (by omega) HI nx
      · refine zv_tableIn (off := 584) (tgt := 616) dL_law_32 (by decide) (by decide) (by decide) (by decide) ?_
        exact lw_c14 hL (by omega) HI nx
      · refine zv_tableIn (off := 607) (tgt := 639) dL_law_32 (by decide) (by decide) (by decide) (by decide) ?_
        exact lw_c15 hL (by omega) HI nx
      · refine zv_tableIn (off := 640) (tgt := 672) dL_law_32 (by decide) (by decide) (by decide) (by decide) ?_
        exact lw_c16 hL (by omega) HI nx
      · refine zv_tableIn (off := 663) (tgt := 695) dL_law_32 (by decide) (by decide) (by decide) (by decide) ?_
        exact lw_c17 hL (by omega) HI nx
      · refine zv_tableIn (off := 696) (tgt := 728) dL_law_32 (by decide) (by decide) (by decide) (by decide) ?_
        exact lw_c18 hL (by omega) HI nx
      · refine zv_tableIn (off := 739) (tgt := 771) dL_law_32 (by decide) (by decide) (by decide) (by decide) ?_
        exact lw_c19 hL (by omega) HI nx
      · refine zv_tableIn (off := 762) (tgt := 794) dL_law_32 (by decide) (by decide) (by decide) (by decide) ?_
        exact lw_c20 hL (by omega) HI nx
      · refine zv_tableIn (off := 805) (tgt := 837) dL_law_32 (by decide) (by decide) (by decide) (by decide) ?_
        exact lw_c21 hL (by omega) HI nx
      · refine zv_tableIn (off := 838) (tgt := 870) dL_law_32 (by decide) (by decide) (by decide) (by decide) ?_
        exact lw_c22 hL (by omega) HI nx
      · refine zv_tableIn (off := 891) (tgt := 923) dL_law_32 (by decide) (by decide) (by decide) (by decide) ?_
        exact lw_c23 hL (by omega) HI nx
